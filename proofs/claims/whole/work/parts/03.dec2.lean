theorem dX11_init_0 : decode cX11_init 0 = .ok (.aload_n 0, 1) := by decide +kernel
theorem dX11_init_1 : decode cX11_init 1 = .ok (.invokespecial 1, 3) := by decide +kernel
theorem dX11_init_4 : decode cX11_init 4 = .ok (.aload_n 0, 1) := by decide +kernel
theorem dX11_init_5 : decode cX11_init 5 = .ok (.sipush 12464, 3) := by decide +kernel
theorem dX11_init_8 : decode cX11_init 8 = .ok (.newarray .int, 2) := by decide +kernel
theorem dX11_init_10 : decode cX11_init 10 = .ok (.putfield 7, 3) := by decide +kernel
theorem dX11_init_13 : decode cX11_init 13 = .ok (.aload_n 0, 1) := by decide +kernel
theorem dX11_init_14 : decode cX11_init 14 = .ok (.sipush 304, 3) := by decide +kernel
theorem dX11_init_17 : decode cX11_init 17 = .ok (.newarray .int, 2) := by decide +kernel
theorem dX11_init_19 : decode cX11_init 19 = .ok (.putfield 13, 3) := by decide +kernel
theorem dX11_init_22 : decode cX11_init 22 = .ok (.aload_n 0, 1) := by decide +kernel
theorem dX11_init_23 : decode cX11_init 23 = .ok (.bipush 6, 2) := by decide +kernel
theorem dX11_init_25 : decode cX11_init 25 = .ok (.newarray .int, 2) := by decide +kernel
theorem dX11_init_27 : decode cX11_init 27 = .ok (.putfield 16, 3) := by decide +kernel
theorem dX11_init_30 : decode cX11_init 30 = .ok (.aload_n 0, 1) := by decide +kernel
theorem dX11_init_31 : decode cX11_init 31 = .ok (.bipush 6, 2) := by decide +kernel
theorem dX11_init_33 : decode cX11_init 33 = .ok (.newarray .int, 2) := by decide +kernel
theorem dX11_init_35 : decode cX11_init 35 = .ok (.putfield 19, 3) := by decide +kernel
theorem dX11_init_38 : decode cX11_init 38 = .ok (.aload_n 0, 1) := by decide +kernel
theorem dX11_init_39 : decode cX11_init 39 = .ok (.bipush 6, 2) := by decide +kernel
theorem dX11_init_41 : decode cX11_init 41 = .ok (.newarray .int, 2) := by decide +kernel
theorem dX11_init_43 : decode cX11_init 43 = .ok (.putfield 22, 3) := by decide +kernel
theorem dX11_init_46 : decode cX11_init 46 = .ok (.aload_n 0, 1) := by decide +kernel
theorem dX11_init_47 : decode cX11_init 47 = .ok (.iconst 4, 1) := by decide +kernel
theorem dX11_init_48 : decode cX11_init 48 = .ok (.newarray .boolean, 2) := by decide +kernel
theorem dX11_init_50 : decode cX11_init 50 = .ok (.putfield 25, 3) := by decide +kernel
theorem dX11_init_53 : decode cX11_init 53 = .ok (.aload_n 0, 1) := by decide +kernel
theorem dX11_init_54 : decode cX11_init 54 = .ok (.sipush 1216, 3) := by decide +kernel
theorem dX11_init_57 : decode cX11_init 57 = .ok (.newarray .int, 2) := by decide +kernel
theorem dX11_init_59 : decode cX11_init 59 = .ok (.putfield 29, 3) := by decide +kernel
theorem dX11_init_62 : decode cX11_init 62 = .ok (.aload_n 0, 1) := by decide +kernel
theorem dX11_init_63 : decode cX11_init 63 = .ok (.sipush 1216, 3) := by decide +kernel
theorem dX11_init_66 : decode cX11_init 66 = .ok (.newarray .int, 2) := by decide +kernel
theorem dX11_init_68 : decode cX11_init 68 = .ok (.putfield 32, 3) := by decide +kernel
theorem dX11_init_71 : decode cX11_init 71 = .ok (.aload_n 0, 1) := by decide +kernel
theorem dX11_init_72 : decode cX11_init 72 = .ok (.sipush 1216, 3) := by decide +kernel
theorem dX11_init_75 : decode cX11_init 75 = .ok (.newarray .int, 2) := by decide +kernel
theorem dX11_init_77 : decode cX11_init 77 = .ok (.putfield 35, 3) := by decide +kernel
theorem dX11_init_80 : decode cX11_init 80 = .ok (.aload_n 0, 1) := by decide +kernel
theorem dX11_init_81 : decode cX11_init 81 = .ok (.sipush 1216, 3) := by decide +kernel
theorem dX11_init_84 : decode cX11_init 84 = .ok (.newarray .int, 2) := by decide +kernel
theorem dX11_init_86 : decode cX11_init 86 = .ok (.putfield 38, 3) := by decide +kernel
theorem dX11_init_89 : decode cX11_init 89 = .ok (.aload_n 0, 1) := by decide +kernel
theorem dX11_init_90 : decode cX11_init 90 = .ok (.bipush 41, 2) := by decide +kernel
theorem dX11_init_92 : decode cX11_init 92 = .ok (.newarray .int, 2) := by decide +kernel
theorem dX11_init_94 : decode cX11_init 94 = .ok (.putfield 41, 3) := by decide +kernel
theorem dX11_init_97 : decode cX11_init 97 = .ok (.aload_n 0, 1) := by decide +kernel
theorem dX11_init_98 : decode cX11_init 98 = .ok (.sipush 768, 3) := by decide +kernel
theorem dX11_init_101 : decode cX11_init 101 = .ok (.newarray .int, 2) := by decide +kernel
theorem dX11_init_103 : decode cX11_init 103 = .ok (.putfield 44, 3) := by decide +kernel
theorem dX11_init_106 : decode cX11_init 106 = .ok (.aload_n 0, 1) := by decide +kernel
theorem dX11_init_107 : decode cX11_init 107 = .ok (.sipush 180, 3) := by decide +kernel
theorem dX11_init_110 : decode cX11_init 110 = .ok (.newarray .int, 2) := by decide +kernel
theorem dX11_init_112 : decode cX11_init 112 = .ok (.putfield 47, 3) := by decide +kernel
theorem dX11_init_115 : decode cX11_init 115 = .ok (.aload_n 0, 1) := by decide +kernel
theorem dX11_init_116 : decode cX11_init 116 = .ok (.iconst 3, 1) := by decide +kernel
theorem dX11_init_117 : decode cX11_init 117 = .ok (.newarray .int, 2) := by decide +kernel
theorem dX11_init_119 : decode cX11_init 119 = .ok (.putfield 50, 3) := by decide +kernel
theorem dX11_init_122 : decode cX11_init 122 = .ok (.aload_n 0, 1) := by decide +kernel
theorem dX11_init_123 : decode cX11_init 123 = .ok (.iconst 3, 1) := by decide +kernel
theorem dX11_init_124 : decode cX11_init 124 = .ok (.newarray .int, 2) := by decide +kernel
theorem dX11_init_126 : decode cX11_init 126 = .ok (.putfield 53, 3) := by decide +kernel
theorem dX11_init_129 : decode cX11_init 129 = .ok (.aload_n 0, 1) := by decide +kernel
theorem dX11_init_130 : decode cX11_init 130 = .ok (.bipush 64, 2) := by decide +kernel
theorem dX11_init_132 : decode cX11_init 132 = .ok (.newarray .boolean, 2) := by decide +kernel
theorem dX11_init_134 : decode cX11_init 134 = .ok (.putfield 56, 3) := by decide +kernel
theorem dX11_init_137 : decode cX11_init 137 = .ok (.aload_n 0, 1) := by decide +kernel
theorem dX11_init_138 : decode cX11_init 138 = .ok (.bipush 64, 2) := by decide +kernel
theorem dX11_init_140 : decode cX11_init 140 = .ok (.newarray .int, 2) := by decide +kernel
theorem dX11_init_142 : decode cX11_init 142 = .ok (.putfield 59, 3) := by decide +kernel
theorem dX11_init_145 : decode cX11_init 145 = .ok (.aload_n 0, 1) := by decide +kernel
theorem dX11_init_146 : decode cX11_init 146 = .ok (.bipush 10, 2) := by decide +kernel
theorem dX11_init_148 : decode cX11_init 148 = .ok (.newarray .int, 2) := by decide +kernel
theorem dX11_init_150 : decode cX11_init 150 = .ok (.putfield 62, 3) := by decide +kernel
theorem dX11_init_153 : decode cX11_init 153 = .ok (.aload_n 0, 1) := by decide +kernel
theorem dX11_init_154 : decode cX11_init 154 = .ok (.iconst (-1), 1) := by decide +kernel
theorem dX11_init_155 : decode cX11_init 155 = .ok (.putfield 65, 3) := by decide +kernel
theorem dX11_init_158 : decode cX11_init 158 = .ok (.iconst 0, 1) := by decide +kernel
theorem dX11_init_159 : decode cX11_init 159 = .ok (.istore_n 1, 1) := by decide +kernel
theorem dX11_init_160 : decode cX11_init 160 = .ok (.iload_n 1, 1) := by decide +kernel
theorem dX11_init_161 : decode cX11_init 161 = .ok (.sipush 768, 3) := by decide +kernel
theorem dX11_init_164 : decode cX11_init 164 = .ok (.if_icmp .ge 16, 3) := by decide +kernel
theorem dX11_init_167 : decode cX11_init 167 = .ok (.aload_n 0, 1) := by decide +kernel
theorem dX11_init_168 : decode cX11_init 168 = .ok (.getfield 44, 3) := by decide +kernel
theorem dX11_init_171 : decode cX11_init 171 = .ok (.iload_n 1, 1) := by decide +kernel
theorem dX11_init_172 : decode cX11_init 172 = .ok (.iconst (-1), 1) := by decide +kernel
theorem dX11_init_173 : decode cX11_init 173 = .ok (.iastore, 1) := by decide +kernel
theorem dX11_init_174 : decode cX11_init 174 = .ok (.iinc 1 1, 3) := by decide +kernel
theorem dX11_init_177 : decode cX11_init 177 = .ok (.goto (-17), 3) := by decide +kernel
theorem dX11_init_180 : decode cX11_init 180 = .ok (.return_, 1) := by decide +kernel
theorem dX11_thrown_0 : decode cX11_thrown 0 = .ok (.aload_n 0, 1) := by decide +kernel
theorem dX11_thrown_1 : decode cX11_thrown 1 = .ok (.getfield 69, 3) := by decide +kernel
theorem dX11_thrown_4 : decode cX11_thrown 4 = .ok (.ireturn, 1) := by decide +kernel
theorem dX11_no_0 : decode cX11_no 0 = .ok (.aload_n 0, 1) := by decide +kernel
theorem dX11_no_1 : decode cX11_no 1 = .ok (.iload_n 1, 1) := by decide +kernel
theorem dX11_no_2 : decode cX11_no 2 = .ok (.ifCond .eq 7, 3) := by decide +kernel
theorem dX11_no_5 : decode cX11_no 5 = .ok (.iconst 0, 1) := by decide +kernel
theorem dX11_no_6 : decode cX11_no 6 = .ok (.goto 4, 3) := by decide +kernel
theorem dX11_no_9 : decode cX11_no 9 = .ok (.iload_n 2, 1) := by decide +kernel
theorem dX11_no_10 : decode cX11_no 10 = .ok (.putfield 69, 3) := by decide +kernel
theorem dX11_no_13 : decode cX11_no 13 = .ok (.iload_n 1, 1) := by decide +kernel
theorem dX11_no_14 : decode cX11_no 14 = .ok (.ifCond .ne 7, 3) := by decide +kernel
theorem dX11_no_17 : decode cX11_no 17 = .ok (.iconst 1, 1) := by decide +kernel
theorem dX11_no_18 : decode cX11_no 18 = .ok (.goto 4, 3) := by decide +kernel
theorem dX11_no_21 : decode cX11_no 21 = .ok (.iconst 0, 1) := by decide +kernel
theorem dX11_no_22 : decode cX11_no 22 = .ok (.ireturn, 1) := by decide +kernel
theorem dX11_isIn_0 : decode cX11_isIn 0 = .ok (.iload_n 0, 1) := by decide +kernel
theorem dX11_isIn_1 : decode cX11_isIn 1 = .ok (.iload_n 1, 1) := by decide +kernel
theorem dX11_isIn_2 : decode cX11_isIn 2 = .ok (.if_icmp .lt 12, 3) := by decide +kernel
theorem dX11_isIn_5 : decode cX11_isIn 5 = .ok (.iload_n 0, 1) := by decide +kernel
theorem dX11_isIn_6 : decode cX11_isIn 6 = .ok (.iload_n 2, 1) := by decide +kernel
theorem dX11_isIn_7 : decode cX11_isIn 7 = .ok (.if_icmp .gt 7, 3) := by decide +kernel
theorem dX11_isIn_10 : decode cX11_isIn 10 = .ok (.iconst 1, 1) := by decide +kernel
theorem dX11_isIn_11 : decode cX11_isIn 11 = .ok (.goto 4, 3) := by decide +kernel
theorem dX11_isIn_14 : decode cX11_isIn 14 = .ok (.iconst 0, 1) := by decide +kernel
theorem dX11_isIn_15 : decode cX11_isIn 15 = .ok (.ireturn, 1) := by decide +kernel
theorem dX11_now_0 : decode cX11_now 0 = .ok (.aload_n 0, 1) := by decide +kernel
theorem dX11_now_1 : decode cX11_now 1 = .ok (.getfield 7, 3) := by decide +kernel
theorem dX11_now_4 : decode cX11_now 4 = .ok (.sipush 304, 3) := by decide +kernel
theorem dX11_now_7 : decode cX11_now 7 = .ok (.aload_n 0, 1) := by decide +kernel
theorem dX11_now_8 : decode cX11_now 8 = .ok (.getfield 72, 3) := by decide +kernel
theorem dX11_now_11 : decode cX11_now 11 = .ok (.imul, 1) := by decide +kernel
theorem dX11_now_12 : decode cX11_now 12 = .ok (.iload_n 1, 1) := by decide +kernel
theorem dX11_now_13 : decode cX11_now 13 = .ok (.iadd, 1) := by decide +kernel
theorem dX11_now_14 : decode cX11_now 14 = .ok (.iaload, 1) := by decide +kernel
theorem dX11_now_15 : decode cX11_now 15 = .ok (.ireturn, 1) := by decide +kernel
theorem dX11_isSpot_0 : decode cX11_isSpot 0 = .ok (.iload_n 0, 1) := by decide +kernel
theorem dX11_isSpot_1 : decode cX11_isSpot 1 = .ok (.iconst 0, 1) := by decide +kernel
theorem dX11_isSpot_2 : decode cX11_isSpot 2 = .ok (.sipush 303, 3) := by decide +kernel
theorem dX11_isSpot_5 : decode cX11_isSpot 5 = .ok (.invokestatic 75, 3) := by decide +kernel
theorem dX11_isSpot_8 : decode cX11_isSpot 8 = .ok (.ireturn, 1) := by decide +kernel
theorem dX11_isLayer_0 : decode cX11_isLayer 0 = .ok (.iload_n 0, 1) := by decide +kernel
theorem dX11_isLayer_1 : decode cX11_isLayer 1 = .ok (.iconst 0, 1) := by decide +kernel
theorem dX11_isLayer_2 : decode cX11_isLayer 2 = .ok (.iconst 2, 1) := by decide +kernel
theorem dX11_isLayer_3 : decode cX11_isLayer 3 = .ok (.invokestatic 75, 3) := by decide +kernel
theorem dX11_isLayer_6 : decode cX11_isLayer 6 = .ok (.ireturn, 1) := by decide +kernel
theorem dX11_isBranch_0 : decode cX11_isBranch 0 = .ok (.iload_n 1, 1) := by decide +kernel
theorem dX11_isBranch_1 : decode cX11_isBranch 1 = .ok (.iconst 0, 1) := by decide +kernel
theorem dX11_isBranch_2 : decode cX11_isBranch 2 = .ok (.iconst 3, 1) := by decide +kernel
theorem dX11_isBranch_3 : decode cX11_isBranch 3 = .ok (.invokestatic 75, 3) := by decide +kernel
theorem dX11_isBranch_6 : decode cX11_isBranch 6 = .ok (.ifCond .eq 16, 3) := by decide +kernel
theorem dX11_isBranch_9 : decode cX11_isBranch 9 = .ok (.aload_n 0, 1) := by decide +kernel
theorem dX11_isBranch_10 : decode cX11_isBranch 10 = .ok (.getfield 25, 3) := by decide +kernel
theorem dX11_isBranch_13 : decode cX11_isBranch 13 = .ok (.iload_n 1, 1) := by decide +kernel
theorem dX11_isBranch_14 : decode cX11_isBranch 14 = .ok (.baload, 1) := by decide +kernel
theorem dX11_isBranch_15 : decode cX11_isBranch 15 = .ok (.ifCond .eq 7, 3) := by decide +kernel
theorem dX11_isBranch_18 : decode cX11_isBranch 18 = .ok (.iconst 1, 1) := by decide +kernel
theorem dX11_isBranch_19 : decode cX11_isBranch 19 = .ok (.goto 4, 3) := by decide +kernel
theorem dX11_isBranch_22 : decode cX11_isBranch 22 = .ok (.iconst 0, 1) := by decide +kernel
theorem dX11_isBranch_23 : decode cX11_isBranch 23 = .ok (.ireturn, 1) := by decide +kernel
theorem dX11_beside_0 : decode cX11_beside 0 = .ok (.iload_n 0, 1) := by decide +kernel
theorem dX11_beside_1 : decode cX11_beside 1 = .ok (.bipush 8, 2) := by decide +kernel
theorem dX11_beside_3 : decode cX11_beside 3 = .ok (.irem, 1) := by decide +kernel
theorem dX11_beside_4 : decode cX11_beside 4 = .ok (.iload_n 1, 1) := by decide +kernel
theorem dX11_beside_5 : decode cX11_beside 5 = .ok (.ifCond .ne 7, 3) := by decide +kernel
theorem dX11_beside_8 : decode cX11_beside 8 = .ok (.iconst 1, 1) := by decide +kernel
theorem dX11_beside_9 : decode cX11_beside 9 = .ok (.goto 13, 3) := by decide +kernel
theorem dX11_beside_12 : decode cX11_beside 12 = .ok (.iload_n 1, 1) := by decide +kernel
theorem dX11_beside_13 : decode cX11_beside 13 = .ok (.iconst 1, 1) := by decide +kernel
theorem dX11_beside_14 : decode cX11_beside 14 = .ok (.if_icmp .ne 7, 3) := by decide +kernel
theorem dX11_beside_17 : decode cX11_beside 17 = .ok (.iconst (-1), 1) := by decide +kernel
theorem dX11_beside_18 : decode cX11_beside 18 = .ok (.goto 4, 3) := by decide +kernel
theorem dX11_beside_21 : decode cX11_beside 21 = .ok (.iconst 0, 1) := by decide +kernel
theorem dX11_beside_22 : decode cX11_beside 22 = .ok (.iadd, 1) := by decide +kernel
theorem dX11_beside_23 : decode cX11_beside 23 = .ok (.istore_n 2, 1) := by decide +kernel
theorem dX11_beside_24 : decode cX11_beside 24 = .ok (.iload_n 0, 1) := by decide +kernel
theorem dX11_beside_25 : decode cX11_beside 25 = .ok (.bipush 8, 2) := by decide +kernel
theorem dX11_beside_27 : decode cX11_beside 27 = .ok (.idiv, 1) := by decide +kernel
theorem dX11_beside_28 : decode cX11_beside 28 = .ok (.iload_n 1, 1) := by decide +kernel
theorem dX11_beside_29 : decode cX11_beside 29 = .ok (.iconst 2, 1) := by decide +kernel
theorem dX11_beside_30 : decode cX11_beside 30 = .ok (.if_icmp .ne 7, 3) := by decide +kernel
theorem dX11_beside_33 : decode cX11_beside 33 = .ok (.iconst 1, 1) := by decide +kernel
theorem dX11_beside_34 : decode cX11_beside 34 = .ok (.goto 13, 3) := by decide +kernel
theorem dX11_beside_37 : decode cX11_beside 37 = .ok (.iload_n 1, 1) := by decide +kernel
theorem dX11_beside_38 : decode cX11_beside 38 = .ok (.iconst 3, 1) := by decide +kernel
theorem dX11_beside_39 : decode cX11_beside 39 = .ok (.if_icmp .ne 7, 3) := by decide +kernel
theorem dX11_beside_42 : decode cX11_beside 42 = .ok (.iconst (-1), 1) := by decide +kernel
theorem dX11_beside_43 : decode cX11_beside 43 = .ok (.goto 4, 3) := by decide +kernel
theorem dX11_beside_46 : decode cX11_beside 46 = .ok (.iconst 0, 1) := by decide +kernel
theorem dX11_beside_47 : decode cX11_beside 47 = .ok (.iadd, 1) := by decide +kernel
theorem dX11_beside_48 : decode cX11_beside 48 = .ok (.istore_n 3, 1) := by decide +kernel
theorem dX11_beside_49 : decode cX11_beside 49 = .ok (.iload_n 2, 1) := by decide +kernel
theorem dX11_beside_50 : decode cX11_beside 50 = .ok (.iconst 0, 1) := by decide +kernel
theorem dX11_beside_51 : decode cX11_beside 51 = .ok (.bipush 7, 2) := by decide +kernel
theorem dX11_beside_53 : decode cX11_beside 53 = .ok (.invokestatic 75, 3) := by decide +kernel
theorem dX11_beside_56 : decode cX11_beside 56 = .ok (.ifCond .eq 22, 3) := by decide +kernel
theorem dX11_beside_59 : decode cX11_beside 59 = .ok (.iload_n 3, 1) := by decide +kernel
theorem dX11_beside_60 : decode cX11_beside 60 = .ok (.iconst 0, 1) := by decide +kernel
theorem dX11_beside_61 : decode cX11_beside 61 = .ok (.bipush 7, 2) := by decide +kernel
theorem dX11_beside_63 : decode cX11_beside 63 = .ok (.invokestatic 75, 3) := by decide +kernel
theorem dX11_beside_66 : decode cX11_beside 66 = .ok (.ifCond .eq 12, 3) := by decide +kernel
theorem dX11_beside_69 : decode cX11_beside 69 = .ok (.bipush 8, 2) := by decide +kernel
theorem dX11_beside_71 : decode cX11_beside 71 = .ok (.iload_n 3, 1) := by decide +kernel
theorem dX11_beside_72 : decode cX11_beside 72 = .ok (.imul, 1) := by decide +kernel
theorem dX11_beside_73 : decode cX11_beside 73 = .ok (.iload_n 2, 1) := by decide +kernel
theorem dX11_beside_74 : decode cX11_beside 74 = .ok (.iadd, 1) := by decide +kernel
theorem dX11_beside_75 : decode cX11_beside 75 = .ok (.goto 4, 3) := by decide +kernel
theorem dX11_beside_78 : decode cX11_beside 78 = .ok (.iconst (-1), 1) := by decide +kernel
theorem dX11_beside_79 : decode cX11_beside 79 = .ok (.ireturn, 1) := by decide +kernel
theorem dX11_roadOf_0 : decode cX11_roadOf 0 = .ok (.iload_n 1, 1) := by decide +kernel
theorem dX11_roadOf_1 : decode cX11_roadOf 1 = .ok (.iconst 1, 1) := by decide +kernel
theorem dX11_roadOf_2 : decode cX11_roadOf 2 = .ok (.if_icmp .eq 8, 3) := by decide +kernel
theorem dX11_roadOf_5 : decode cX11_roadOf 5 = .ok (.iload_n 1, 1) := by decide +kernel
theorem dX11_roadOf_6 : decode cX11_roadOf 6 = .ok (.iconst 3, 1) := by decide +kernel
theorem dX11_roadOf_7 : decode cX11_roadOf 7 = .ok (.if_icmp .ne 11, 3) := by decide +kernel
theorem dX11_roadOf_10 : decode cX11_roadOf 10 = .ok (.iload_n 0, 1) := by decide +kernel
theorem dX11_roadOf_11 : decode cX11_roadOf 11 = .ok (.iload_n 1, 1) := by decide +kernel
theorem dX11_roadOf_12 : decode cX11_roadOf 12 = .ok (.invokestatic 79, 3) := by decide +kernel
theorem dX11_roadOf_15 : decode cX11_roadOf 15 = .ok (.goto 4, 3) := by decide +kernel
theorem dX11_roadOf_18 : decode cX11_roadOf 18 = .ok (.iload_n 0, 1) := by decide +kernel
theorem dX11_roadOf_19 : decode cX11_roadOf 19 = .ok (.istore_n 2, 1) := by decide +kernel
theorem dX11_roadOf_20 : decode cX11_roadOf 20 = .ok (.iload_n 1, 1) := by decide +kernel
theorem dX11_roadOf_21 : decode cX11_roadOf 21 = .ok (.iconst 2, 1) := by decide +kernel
theorem dX11_roadOf_22 : decode cX11_roadOf 22 = .ok (.if_icmp .ge 22, 3) := by decide +kernel
theorem dX11_roadOf_25 : decode cX11_roadOf 25 = .ok (.sipush 192, 3) := by decide +kernel
theorem dX11_roadOf_28 : decode cX11_roadOf 28 = .ok (.bipush 7, 2) := by decide +kernel
theorem dX11_roadOf_30 : decode cX11_roadOf 30 = .ok (.iload_n 2, 1) := by decide +kernel
theorem dX11_roadOf_31 : decode cX11_roadOf 31 = .ok (.bipush 8, 2) := by decide +kernel
theorem dX11_roadOf_33 : decode cX11_roadOf 33 = .ok (.idiv, 1) := by decide +kernel
theorem dX11_roadOf_34 : decode cX11_roadOf 34 = .ok (.imul, 1) := by decide +kernel
theorem dX11_roadOf_35 : decode cX11_roadOf 35 = .ok (.iadd, 1) := by decide +kernel
theorem dX11_roadOf_36 : decode cX11_roadOf 36 = .ok (.iload_n 2, 1) := by decide +kernel
theorem dX11_roadOf_37 : decode cX11_roadOf 37 = .ok (.bipush 8, 2) := by decide +kernel
theorem dX11_roadOf_39 : decode cX11_roadOf 39 = .ok (.irem, 1) := by decide +kernel
theorem dX11_roadOf_40 : decode cX11_roadOf 40 = .ok (.iadd, 1) := by decide +kernel
theorem dX11_roadOf_41 : decode cX11_roadOf 41 = .ok (.goto 8, 3) := by decide +kernel
theorem dX11_roadOf_44 : decode cX11_roadOf 44 = .ok (.sipush 248, 3) := by decide +kernel
theorem dX11_roadOf_47 : decode cX11_roadOf 47 = .ok (.iload_n 2, 1) := by decide +kernel
theorem dX11_roadOf_48 : decode cX11_roadOf 48 = .ok (.iadd, 1) := by decide +kernel
theorem dX11_roadOf_49 : decode cX11_roadOf 49 = .ok (.ireturn, 1) := by decide +kernel
theorem dX11_roadsAt_0 : decode cX11_roadsAt 0 = .ok (.iconst 0, 1) := by decide +kernel
theorem dX11_roadsAt_1 : decode cX11_roadsAt 1 = .ok (.istore_n 2, 1) := by decide +kernel
theorem dX11_roadsAt_2 : decode cX11_roadsAt 2 = .ok (.iconst 0, 1) := by decide +kernel
theorem dX11_roadsAt_3 : decode cX11_roadsAt 3 = .ok (.istore_n 3, 1) := by decide +kernel
theorem dX11_roadsAt_4 : decode cX11_roadsAt 4 = .ok (.iload_n 3, 1) := by decide +kernel
theorem dX11_roadsAt_5 : decode cX11_roadsAt 5 = .ok (.iconst 4, 1) := by decide +kernel
theorem dX11_roadsAt_6 : decode cX11_roadsAt 6 = .ok (.if_icmp .ge 34, 3) := by decide +kernel
theorem dX11_roadsAt_9 : decode cX11_roadsAt 9 = .ok (.iload_n 2, 1) := by decide +kernel
theorem dX11_roadsAt_10 : decode cX11_roadsAt 10 = .ok (.iload_n 1, 1) := by decide +kernel
theorem dX11_roadsAt_11 : decode cX11_roadsAt 11 = .ok (.iload_n 3, 1) := by decide +kernel
theorem dX11_roadsAt_12 : decode cX11_roadsAt 12 = .ok (.invokestatic 79, 3) := by decide +kernel
theorem dX11_roadsAt_15 : decode cX11_roadsAt 15 = .ok (.ifCond .lt 16, 3) := by decide +kernel
theorem dX11_roadsAt_18 : decode cX11_roadsAt 18 = .ok (.aload_n 0, 1) := by decide +kernel
theorem dX11_roadsAt_19 : decode cX11_roadsAt 19 = .ok (.getfield 13, 3) := by decide +kernel
theorem dX11_roadsAt_22 : decode cX11_roadsAt 22 = .ok (.iload_n 1, 1) := by decide +kernel
theorem dX11_roadsAt_23 : decode cX11_roadsAt 23 = .ok (.iload_n 3, 1) := by decide +kernel
theorem dX11_roadsAt_24 : decode cX11_roadsAt 24 = .ok (.invokestatic 83, 3) := by decide +kernel
theorem dX11_roadsAt_27 : decode cX11_roadsAt 27 = .ok (.iaload, 1) := by decide +kernel
theorem dX11_roadsAt_28 : decode cX11_roadsAt 28 = .ok (.goto 4, 3) := by decide +kernel
theorem dX11_roadsAt_31 : decode cX11_roadsAt 31 = .ok (.iconst 0, 1) := by decide +kernel
theorem dX11_roadsAt_32 : decode cX11_roadsAt 32 = .ok (.iadd, 1) := by decide +kernel
theorem dX11_roadsAt_33 : decode cX11_roadsAt 33 = .ok (.istore_n 2, 1) := by decide +kernel
theorem dX11_roadsAt_34 : decode cX11_roadsAt 34 = .ok (.iinc 3 1, 3) := by decide +kernel
theorem dX11_roadsAt_37 : decode cX11_roadsAt 37 = .ok (.goto (-33), 3) := by decide +kernel
theorem dX11_roadsAt_40 : decode cX11_roadsAt 40 = .ok (.iload_n 2, 1) := by decide +kernel
theorem dX11_roadsAt_41 : decode cX11_roadsAt 41 = .ok (.ireturn, 1) := by decide +kernel
theorem dX11_isClosed_0 : decode cX11_isClosed 0 = .ok (.iconst 1, 1) := by decide +kernel
theorem dX11_isClosed_1 : decode cX11_isClosed 1 = .ok (.istore_n 3, 1) := by decide +kernel
theorem dX11_isClosed_2 : decode cX11_isClosed 2 = .ok (.iconst 0, 1) := by decide +kernel
theorem dX11_isClosed_3 : decode cX11_isClosed 3 = .ok (.istore 4, 2) := by decide +kernel
theorem dX11_isClosed_5 : decode cX11_isClosed 5 = .ok (.iload 4, 2) := by decide +kernel
theorem dX11_isClosed_7 : decode cX11_isClosed 7 = .ok (.iconst 4, 1) := by decide +kernel
theorem dX11_isClosed_8 : decode cX11_isClosed 8 = .ok (.if_icmp .ge 45, 3) := by decide +kernel
theorem dX11_isClosed_11 : decode cX11_isClosed 11 = .ok (.iload_n 2, 1) := by decide +kernel
theorem dX11_isClosed_12 : decode cX11_isClosed 12 = .ok (.iload 4, 2) := by decide +kernel
theorem dX11_isClosed_14 : decode cX11_isClosed 14 = .ok (.invokestatic 79, 3) := by decide +kernel
theorem dX11_isClosed_17 : decode cX11_isClosed 17 = .ok (.istore 5, 2) := by decide +kernel
theorem dX11_isClosed_19 : decode cX11_isClosed 19 = .ok (.iload_n 3, 1) := by decide +kernel
theorem dX11_isClosed_20 : decode cX11_isClosed 20 = .ok (.iload 5, 2) := by decide +kernel
theorem dX11_isClosed_22 : decode cX11_isClosed 22 = .ok (.ifCond .lt 18, 3) := by decide +kernel
theorem dX11_isClosed_25 : decode cX11_isClosed 25 = .ok (.aload_n 0, 1) := by decide +kernel
theorem dX11_isClosed_26 : decode cX11_isClosed 26 = .ok (.getfield 13, 3) := by decide +kernel
theorem dX11_isClosed_29 : decode cX11_isClosed 29 = .ok (.bipush 64, 2) := by decide +kernel
theorem dX11_isClosed_31 : decode cX11_isClosed 31 = .ok (.iload_n 1, 1) := by decide +kernel
theorem dX11_isClosed_32 : decode cX11_isClosed 32 = .ok (.imul, 1) := by decide +kernel
theorem dX11_isClosed_33 : decode cX11_isClosed 33 = .ok (.iload 5, 2) := by decide +kernel
theorem dX11_isClosed_35 : decode cX11_isClosed 35 = .ok (.iadd, 1) := by decide +kernel
theorem dX11_isClosed_36 : decode cX11_isClosed 36 = .ok (.iaload, 1) := by decide +kernel
theorem dX11_isClosed_37 : decode cX11_isClosed 37 = .ok (.ifCond .le 7, 3) := by decide +kernel
theorem dX11_isClosed_40 : decode cX11_isClosed 40 = .ok (.iconst 1, 1) := by decide +kernel
theorem dX11_isClosed_41 : decode cX11_isClosed 41 = .ok (.goto 4, 3) := by decide +kernel
theorem dX11_isClosed_44 : decode cX11_isClosed 44 = .ok (.iconst 0, 1) := by decide +kernel
theorem dX11_isClosed_45 : decode cX11_isClosed 45 = .ok (.iand, 1) := by decide +kernel
theorem dX11_isClosed_46 : decode cX11_isClosed 46 = .ok (.istore_n 3, 1) := by decide +kernel
theorem dX11_isClosed_47 : decode cX11_isClosed 47 = .ok (.iinc 4 1, 3) := by decide +kernel
theorem dX11_isClosed_50 : decode cX11_isClosed 50 = .ok (.goto (-45), 3) := by decide +kernel
theorem dX11_isClosed_53 : decode cX11_isClosed 53 = .ok (.iload_n 3, 1) := by decide +kernel
theorem dX11_isClosed_54 : decode cX11_isClosed 54 = .ok (.ireturn, 1) := by decide +kernel
theorem dX11_see_0 : decode cX11_see 0 = .ok (.iconst 1, 1) := by decide +kernel
theorem dX11_see_1 : decode cX11_see 1 = .ok (.istore_n 3, 1) := by decide +kernel
theorem dX11_see_2 : decode cX11_see 2 = .ok (.iload_n 3, 1) := by decide +kernel
theorem dX11_see_3 : decode cX11_see 3 = .ok (.ifCond .eq 95, 3) := by decide +kernel
theorem dX11_see_6 : decode cX11_see 6 = .ok (.iconst 0, 1) := by decide +kernel
theorem dX11_see_7 : decode cX11_see 7 = .ok (.istore_n 3, 1) := by decide +kernel
theorem dX11_see_8 : decode cX11_see 8 = .ok (.iconst 0, 1) := by decide +kernel
theorem dX11_see_9 : decode cX11_see 9 = .ok (.istore 4, 2) := by decide +kernel
theorem dX11_see_11 : decode cX11_see 11 = .ok (.iload 4, 2) := by decide +kernel
theorem dX11_see_13 : decode cX11_see 13 = .ok (.sipush 256, 3) := by decide +kernel
theorem dX11_see_16 : decode cX11_see 16 = .ok (.if_icmp .ge 79, 3) := by decide +kernel
theorem dX11_see_19 : decode cX11_see 19 = .ok (.aload_n 0, 1) := by decide +kernel
theorem dX11_see_20 : decode cX11_see 20 = .ok (.getfield 56, 3) := by decide +kernel
theorem dX11_see_23 : decode cX11_see 23 = .ok (.iload 4, 2) := by decide +kernel
theorem dX11_see_25 : decode cX11_see 25 = .ok (.iconst 4, 1) := by decide +kernel
theorem dX11_see_26 : decode cX11_see 26 = .ok (.idiv, 1) := by decide +kernel
theorem dX11_see_27 : decode cX11_see 27 = .ok (.baload, 1) := by decide +kernel
theorem dX11_see_28 : decode cX11_see 28 = .ok (.ifCond .eq 17, 3) := by decide +kernel
theorem dX11_see_31 : decode cX11_see 31 = .ok (.iload 4, 2) := by decide +kernel
theorem dX11_see_33 : decode cX11_see 33 = .ok (.iconst 4, 1) := by decide +kernel
theorem dX11_see_34 : decode cX11_see 34 = .ok (.idiv, 1) := by decide +kernel
theorem dX11_see_35 : decode cX11_see 35 = .ok (.iload 4, 2) := by decide +kernel
theorem dX11_see_37 : decode cX11_see 37 = .ok (.iconst 4, 1) := by decide +kernel
theorem dX11_see_38 : decode cX11_see 38 = .ok (.irem, 1) := by decide +kernel
theorem dX11_see_39 : decode cX11_see 39 = .ok (.invokestatic 79, 3) := by decide +kernel
theorem dX11_see_42 : decode cX11_see 42 = .ok (.goto 4, 3) := by decide +kernel
theorem dX11_see_45 : decode cX11_see 45 = .ok (.iconst (-1), 1) := by decide +kernel
theorem dX11_see_46 : decode cX11_see 46 = .ok (.istore 5, 2) := by decide +kernel
theorem dX11_see_48 : decode cX11_see 48 = .ok (.iload 5, 2) := by decide +kernel
theorem dX11_see_50 : decode cX11_see 50 = .ok (.ifCond .lt 39, 3) := by decide +kernel
theorem dX11_see_53 : decode cX11_see 53 = .ok (.aload_n 0, 1) := by decide +kernel
theorem dX11_see_54 : decode cX11_see 54 = .ok (.getfield 56, 3) := by decide +kernel
theorem dX11_see_57 : decode cX11_see 57 = .ok (.iload 5, 2) := by decide +kernel
theorem dX11_see_59 : decode cX11_see 59 = .ok (.baload, 1) := by decide +kernel
theorem dX11_see_60 : decode cX11_see 60 = .ok (.ifCond .ne 29, 3) := by decide +kernel
theorem dX11_see_63 : decode cX11_see 63 = .ok (.aload_n 0, 1) := by decide +kernel
theorem dX11_see_64 : decode cX11_see 64 = .ok (.getfield 13, 3) := by decide +kernel
theorem dX11_see_67 : decode cX11_see 67 = .ok (.bipush 64, 2) := by decide +kernel
theorem dX11_see_69 : decode cX11_see 69 = .ok (.iload_n 1, 1) := by decide +kernel
theorem dX11_see_70 : decode cX11_see 70 = .ok (.imul, 1) := by decide +kernel
theorem dX11_see_71 : decode cX11_see 71 = .ok (.iload 5, 2) := by decide +kernel
theorem dX11_see_73 : decode cX11_see 73 = .ok (.iadd, 1) := by decide +kernel
theorem dX11_see_74 : decode cX11_see 74 = .ok (.iaload, 1) := by decide +kernel
theorem dX11_see_75 : decode cX11_see 75 = .ok (.iload_n 2, 1) := by decide +kernel
theorem dX11_see_76 : decode cX11_see 76 = .ok (.if_icmp .ne 13, 3) := by decide +kernel
theorem dX11_see_79 : decode cX11_see 79 = .ok (.aload_n 0, 1) := by decide +kernel
theorem dX11_see_80 : decode cX11_see 80 = .ok (.getfield 56, 3) := by decide +kernel
theorem dX11_see_83 : decode cX11_see 83 = .ok (.iload 5, 2) := by decide +kernel
theorem dX11_see_85 : decode cX11_see 85 = .ok (.iconst 1, 1) := by decide +kernel
theorem dX11_see_86 : decode cX11_see 86 = .ok (.bastore, 1) := by decide +kernel
theorem dX11_see_87 : decode cX11_see 87 = .ok (.iconst 1, 1) := by decide +kernel
theorem dX11_see_88 : decode cX11_see 88 = .ok (.istore_n 3, 1) := by decide +kernel
theorem dX11_see_89 : decode cX11_see 89 = .ok (.iinc 4 1, 3) := by decide +kernel
theorem dX11_see_92 : decode cX11_see 92 = .ok (.goto (-81), 3) := by decide +kernel
theorem dX11_see_95 : decode cX11_see 95 = .ok (.goto (-93), 3) := by decide +kernel
theorem dX11_see_98 : decode cX11_see 98 = .ok (.return_, 1) := by decide +kernel
theorem dX11_hangs_0 : decode cX11_hangs 0 = .ok (.iconst 0, 1) := by decide +kernel
theorem dX11_hangs_1 : decode cX11_hangs 1 = .ok (.istore_n 3, 1) := by decide +kernel
theorem dX11_hangs_2 : decode cX11_hangs 2 = .ok (.iload_n 3, 1) := by decide +kernel
theorem dX11_hangs_3 : decode cX11_hangs 3 = .ok (.bipush 64, 2) := by decide +kernel
theorem dX11_hangs_5 : decode cX11_hangs 5 = .ok (.if_icmp .ge 16, 3) := by decide +kernel
theorem dX11_hangs_8 : decode cX11_hangs 8 = .ok (.aload_n 0, 1) := by decide +kernel
theorem dX11_hangs_9 : decode cX11_hangs 9 = .ok (.getfield 56, 3) := by decide +kernel
theorem dX11_hangs_12 : decode cX11_hangs 12 = .ok (.iload_n 3, 1) := by decide +kernel
theorem dX11_hangs_13 : decode cX11_hangs 13 = .ok (.iconst 0, 1) := by decide +kernel
theorem dX11_hangs_14 : decode cX11_hangs 14 = .ok (.bastore, 1) := by decide +kernel
theorem dX11_hangs_15 : decode cX11_hangs 15 = .ok (.iinc 3 1, 3) := by decide +kernel
theorem dX11_hangs_18 : decode cX11_hangs 18 = .ok (.goto (-16), 3) := by decide +kernel
theorem dX11_hangs_21 : decode cX11_hangs 21 = .ok (.iconst 0, 1) := by decide +kernel
theorem dX11_hangs_22 : decode cX11_hangs 22 = .ok (.istore_n 3, 1) := by decide +kernel
theorem dX11_hangs_23 : decode cX11_hangs 23 = .ok (.iconst 0, 1) := by decide +kernel
theorem dX11_hangs_24 : decode cX11_hangs 24 = .ok (.istore 4, 2) := by decide +kernel
theorem dX11_hangs_26 : decode cX11_hangs 26 = .ok (.iload 4, 2) := by decide +kernel
theorem dX11_hangs_28 : decode cX11_hangs 28 = .ok (.bipush 64, 2) := by decide +kernel
theorem dX11_hangs_30 : decode cX11_hangs 30 = .ok (.if_icmp .ge 52, 3) := by decide +kernel
theorem dX11_hangs_33 : decode cX11_hangs 33 = .ok (.aload_n 0, 1) := by decide +kernel
theorem dX11_hangs_34 : decode cX11_hangs 34 = .ok (.getfield 56, 3) := by decide +kernel
theorem dX11_hangs_37 : decode cX11_hangs 37 = .ok (.iload 4, 2) := by decide +kernel
theorem dX11_hangs_39 : decode cX11_hangs 39 = .ok (.baload, 1) := by decide +kernel
theorem dX11_hangs_40 : decode cX11_hangs 40 = .ok (.ifCond .ne 36, 3) := by decide +kernel
theorem dX11_hangs_43 : decode cX11_hangs 43 = .ok (.aload_n 0, 1) := by decide +kernel
theorem dX11_hangs_44 : decode cX11_hangs 44 = .ok (.getfield 13, 3) := by decide +kernel
theorem dX11_hangs_47 : decode cX11_hangs 47 = .ok (.bipush 64, 2) := by decide +kernel
theorem dX11_hangs_49 : decode cX11_hangs 49 = .ok (.iload_n 1, 1) := by decide +kernel
theorem dX11_hangs_50 : decode cX11_hangs 50 = .ok (.imul, 1) := by decide +kernel
theorem dX11_hangs_51 : decode cX11_hangs 51 = .ok (.iload 4, 2) := by decide +kernel
theorem dX11_hangs_53 : decode cX11_hangs 53 = .ok (.iadd, 1) := by decide +kernel
theorem dX11_hangs_54 : decode cX11_hangs 54 = .ok (.iaload, 1) := by decide +kernel
theorem dX11_hangs_55 : decode cX11_hangs 55 = .ok (.iload_n 2, 1) := by decide +kernel
theorem dX11_hangs_56 : decode cX11_hangs 56 = .ok (.if_icmp .ne 20, 3) := by decide +kernel
theorem dX11_hangs_59 : decode cX11_hangs 59 = .ok (.iinc 3 1, 3) := by decide +kernel
theorem dX11_hangs_62 : decode cX11_hangs 62 = .ok (.aload_n 0, 1) := by decide +kernel
theorem dX11_hangs_63 : decode cX11_hangs 63 = .ok (.getfield 56, 3) := by decide +kernel
theorem dX11_hangs_66 : decode cX11_hangs 66 = .ok (.iload 4, 2) := by decide +kernel
theorem dX11_hangs_68 : decode cX11_hangs 68 = .ok (.iconst 1, 1) := by decide +kernel
theorem dX11_hangs_69 : decode cX11_hangs 69 = .ok (.bastore, 1) := by decide +kernel
theorem dX11_hangs_70 : decode cX11_hangs 70 = .ok (.aload_n 0, 1) := by decide +kernel
theorem dX11_hangs_71 : decode cX11_hangs 71 = .ok (.iload_n 1, 1) := by decide +kernel
theorem dX11_hangs_72 : decode cX11_hangs 72 = .ok (.iload_n 2, 1) := by decide +kernel
theorem dX11_hangs_73 : decode cX11_hangs 73 = .ok (.invokevirtual 86, 3) := by decide +kernel
theorem dX11_hangs_76 : decode cX11_hangs 76 = .ok (.iinc 4 1, 3) := by decide +kernel
theorem dX11_hangs_79 : decode cX11_hangs 79 = .ok (.goto (-53), 3) := by decide +kernel
theorem dX11_hangs_82 : decode cX11_hangs 82 = .ok (.iload_n 3, 1) := by decide +kernel
theorem dX11_hangs_83 : decode cX11_hangs 83 = .ok (.iconst 1, 1) := by decide +kernel
theorem dX11_hangs_84 : decode cX11_hangs 84 = .ok (.if_icmp .gt 7, 3) := by decide +kernel
theorem dX11_hangs_87 : decode cX11_hangs 87 = .ok (.iconst 1, 1) := by decide +kernel
theorem dX11_hangs_88 : decode cX11_hangs 88 = .ok (.goto 4, 3) := by decide +kernel
theorem dX11_hangs_91 : decode cX11_hangs 91 = .ok (.iconst 0, 1) := by decide +kernel
theorem dX11_hangs_92 : decode cX11_hangs 92 = .ok (.ireturn, 1) := by decide +kernel
theorem dX11_fits_0 : decode cX11_fits 0 = .ok (.aload_n 0, 1) := by decide +kernel
theorem dX11_fits_1 : decode cX11_fits 1 = .ok (.getfield 13, 3) := by decide +kernel
theorem dX11_fits_4 : decode cX11_fits 4 = .ok (.bipush 64, 2) := by decide +kernel
theorem dX11_fits_6 : decode cX11_fits 6 = .ok (.iload_n 2, 1) := by decide +kernel
theorem dX11_fits_7 : decode cX11_fits 7 = .ok (.imul, 1) := by decide +kernel
theorem dX11_fits_8 : decode cX11_fits 8 = .ok (.iload 4, 2) := by decide +kernel
theorem dX11_fits_10 : decode cX11_fits 10 = .ok (.iadd, 1) := by decide +kernel
theorem dX11_fits_11 : decode cX11_fits 11 = .ok (.iaload, 1) := by decide +kernel
theorem dX11_fits_12 : decode cX11_fits 12 = .ok (.ifCond .le 7, 3) := by decide +kernel
theorem dX11_fits_15 : decode cX11_fits 15 = .ok (.iconst 1, 1) := by decide +kernel
theorem dX11_fits_16 : decode cX11_fits 16 = .ok (.goto 4, 3) := by decide +kernel
theorem dX11_fits_19 : decode cX11_fits 19 = .ok (.iconst 0, 1) := by decide +kernel
theorem dX11_fits_20 : decode cX11_fits 20 = .ok (.istore 5, 2) := by decide +kernel
theorem dX11_fits_22 : decode cX11_fits 22 = .ok (.aload_n 0, 1) := by decide +kernel
theorem dX11_fits_23 : decode cX11_fits 23 = .ok (.getfield 13, 3) := by decide +kernel
theorem dX11_fits_26 : decode cX11_fits 26 = .ok (.bipush 64, 2) := by decide +kernel
theorem dX11_fits_28 : decode cX11_fits 28 = .ok (.iload_n 3, 1) := by decide +kernel
theorem dX11_fits_29 : decode cX11_fits 29 = .ok (.imul, 1) := by decide +kernel
theorem dX11_fits_30 : decode cX11_fits 30 = .ok (.iload 4, 2) := by decide +kernel
theorem dX11_fits_32 : decode cX11_fits 32 = .ok (.iadd, 1) := by decide +kernel
theorem dX11_fits_33 : decode cX11_fits 33 = .ok (.iaload, 1) := by decide +kernel
theorem dX11_fits_34 : decode cX11_fits 34 = .ok (.ifCond .le 7, 3) := by decide +kernel
theorem dX11_fits_37 : decode cX11_fits 37 = .ok (.iconst 1, 1) := by decide +kernel
theorem dX11_fits_38 : decode cX11_fits 38 = .ok (.goto 4, 3) := by decide +kernel
theorem dX11_fits_41 : decode cX11_fits 41 = .ok (.iconst 0, 1) := by decide +kernel
theorem dX11_fits_42 : decode cX11_fits 42 = .ok (.istore 6, 2) := by decide +kernel
theorem dX11_fits_44 : decode cX11_fits 44 = .ok (.iload_n 1, 1) := by decide +kernel
theorem dX11_fits_45 : decode cX11_fits 45 = .ok (.lookupswitch 140 #[(99, 43), (103, 75), (109, 96), (120, 59)], 43) := by decide +kernel
theorem dX11_fits_88 : decode cX11_fits 88 = .ok (.iload 5, 2) := by decide +kernel
theorem dX11_fits_90 : decode cX11_fits 90 = .ok (.ifCond .eq 8, 3) := by decide +kernel
theorem dX11_fits_93 : decode cX11_fits 93 = .ok (.iload 6, 2) := by decide +kernel
theorem dX11_fits_95 : decode cX11_fits 95 = .ok (.ifCond .eq 7, 3) := by decide +kernel
theorem dX11_fits_98 : decode cX11_fits 98 = .ok (.iconst 1, 1) := by decide +kernel
theorem dX11_fits_99 : decode cX11_fits 99 = .ok (.goto 4, 3) := by decide +kernel
theorem dX11_fits_102 : decode cX11_fits 102 = .ok (.iconst 0, 1) := by decide +kernel
theorem dX11_fits_103 : decode cX11_fits 103 = .ok (.ireturn, 1) := by decide +kernel
theorem dX11_fits_104 : decode cX11_fits 104 = .ok (.iload 5, 2) := by decide +kernel
theorem dX11_fits_106 : decode cX11_fits 106 = .ok (.ifCond .eq 8, 3) := by decide +kernel
theorem dX11_fits_109 : decode cX11_fits 109 = .ok (.iload 6, 2) := by decide +kernel
theorem dX11_fits_111 : decode cX11_fits 111 = .ok (.ifCond .ne 7, 3) := by decide +kernel
theorem dX11_fits_114 : decode cX11_fits 114 = .ok (.iconst 1, 1) := by decide +kernel
theorem dX11_fits_115 : decode cX11_fits 115 = .ok (.goto 4, 3) := by decide +kernel
theorem dX11_fits_118 : decode cX11_fits 118 = .ok (.iconst 0, 1) := by decide +kernel
theorem dX11_fits_119 : decode cX11_fits 119 = .ok (.ireturn, 1) := by decide +kernel
theorem dX11_fits_120 : decode cX11_fits 120 = .ok (.iload 5, 2) := by decide +kernel
theorem dX11_fits_122 : decode cX11_fits 122 = .ok (.ifCond .ne 13, 3) := by decide +kernel
theorem dX11_fits_125 : decode cX11_fits 125 = .ok (.aload_n 0, 1) := by decide +kernel
theorem dX11_fits_126 : decode cX11_fits 126 = .ok (.iload_n 2, 1) := by decide +kernel
theorem dX11_fits_127 : decode cX11_fits 127 = .ok (.iload 4, 2) := by decide +kernel
theorem dX11_fits_129 : decode cX11_fits 129 = .ok (.invokevirtual 90, 3) := by decide +kernel
theorem dX11_fits_132 : decode cX11_fits 132 = .ok (.ifCond .ne 7, 3) := by decide +kernel
theorem dX11_fits_135 : decode cX11_fits 135 = .ok (.iconst 1, 1) := by decide +kernel
theorem dX11_fits_136 : decode cX11_fits 136 = .ok (.goto 4, 3) := by decide +kernel
theorem dX11_fits_139 : decode cX11_fits 139 = .ok (.iconst 0, 1) := by decide +kernel
theorem dX11_fits_140 : decode cX11_fits 140 = .ok (.ireturn, 1) := by decide +kernel
theorem dX11_fits_141 : decode cX11_fits 141 = .ok (.iload 4, 2) := by decide +kernel
theorem dX11_fits_143 : decode cX11_fits 143 = .ok (.bipush 8, 2) := by decide +kernel
theorem dX11_fits_145 : decode cX11_fits 145 = .ok (.irem, 1) := by decide +kernel
theorem dX11_fits_146 : decode cX11_fits 146 = .ok (.iconst 1, 1) := by decide +kernel
theorem dX11_fits_147 : decode cX11_fits 147 = .ok (.bipush 6, 2) := by decide +kernel
theorem dX11_fits_149 : decode cX11_fits 149 = .ok (.invokestatic 75, 3) := by decide +kernel
theorem dX11_fits_152 : decode cX11_fits 152 = .ok (.ifCond .eq 27, 3) := by decide +kernel
theorem dX11_fits_155 : decode cX11_fits 155 = .ok (.iload 4, 2) := by decide +kernel
theorem dX11_fits_157 : decode cX11_fits 157 = .ok (.bipush 8, 2) := by decide +kernel
theorem dX11_fits_159 : decode cX11_fits 159 = .ok (.idiv, 1) := by decide +kernel
theorem dX11_fits_160 : decode cX11_fits 160 = .ok (.iconst 1, 1) := by decide +kernel
theorem dX11_fits_161 : decode cX11_fits 161 = .ok (.bipush 6, 2) := by decide +kernel
theorem dX11_fits_163 : decode cX11_fits 163 = .ok (.invokestatic 75, 3) := by decide +kernel
theorem dX11_fits_166 : decode cX11_fits 166 = .ok (.ifCond .eq 13, 3) := by decide +kernel
theorem dX11_fits_169 : decode cX11_fits 169 = .ok (.aload_n 0, 1) := by decide +kernel
theorem dX11_fits_170 : decode cX11_fits 170 = .ok (.iload 4, 2) := by decide +kernel
theorem dX11_fits_172 : decode cX11_fits 172 = .ok (.invokevirtual 94, 3) := by decide +kernel
theorem dX11_fits_175 : decode cX11_fits 175 = .ok (.iconst 1, 1) := by decide +kernel
theorem dX11_fits_176 : decode cX11_fits 176 = .ok (.if_icmp .eq 7, 3) := by decide +kernel
theorem dX11_fits_179 : decode cX11_fits 179 = .ok (.iconst 1, 1) := by decide +kernel
theorem dX11_fits_180 : decode cX11_fits 180 = .ok (.goto 4, 3) := by decide +kernel
theorem dX11_fits_183 : decode cX11_fits 183 = .ok (.iconst 0, 1) := by decide +kernel
theorem dX11_fits_184 : decode cX11_fits 184 = .ok (.ireturn, 1) := by decide +kernel
theorem dX11_fits_185 : decode cX11_fits 185 = .ok (.iconst 1, 1) := by decide +kernel
theorem dX11_fits_186 : decode cX11_fits 186 = .ok (.ireturn, 1) := by decide +kernel
theorem dX11_keeps_0 : decode cX11_keeps 0 = .ok (.iconst 1, 1) := by decide +kernel
theorem dX11_keeps_1 : decode cX11_keeps 1 = .ok (.istore 4, 2) := by decide +kernel
theorem dX11_keeps_3 : decode cX11_keeps 3 = .ok (.iconst 0, 1) := by decide +kernel
theorem dX11_keeps_4 : decode cX11_keeps 4 = .ok (.istore 5, 2) := by decide +kernel
theorem dX11_keeps_6 : decode cX11_keeps 6 = .ok (.iload 5, 2) := by decide +kernel
theorem dX11_keeps_8 : decode cX11_keeps 8 = .ok (.bipush 64, 2) := by decide +kernel
theorem dX11_keeps_10 : decode cX11_keeps 10 = .ok (.if_icmp .ge 23, 3) := by decide +kernel
theorem dX11_keeps_13 : decode cX11_keeps 13 = .ok (.iload 4, 2) := by decide +kernel
theorem dX11_keeps_15 : decode cX11_keeps 15 = .ok (.aload_n 0, 1) := by decide +kernel
theorem dX11_keeps_16 : decode cX11_keeps 16 = .ok (.iload_n 1, 1) := by decide +kernel
theorem dX11_keeps_17 : decode cX11_keeps 17 = .ok (.iload_n 2, 1) := by decide +kernel
theorem dX11_keeps_18 : decode cX11_keeps 18 = .ok (.iload_n 3, 1) := by decide +kernel
theorem dX11_keeps_19 : decode cX11_keeps 19 = .ok (.iload 5, 2) := by decide +kernel
theorem dX11_keeps_21 : decode cX11_keeps 21 = .ok (.invokevirtual 98, 3) := by decide +kernel
theorem dX11_keeps_24 : decode cX11_keeps 24 = .ok (.iand, 1) := by decide +kernel
theorem dX11_keeps_25 : decode cX11_keeps 25 = .ok (.istore 4, 2) := by decide +kernel
theorem dX11_keeps_27 : decode cX11_keeps 27 = .ok (.iinc 5 1, 3) := by decide +kernel
theorem dX11_keeps_30 : decode cX11_keeps 30 = .ok (.goto (-24), 3) := by decide +kernel
theorem dX11_keeps_33 : decode cX11_keeps 33 = .ok (.iconst 1, 1) := by decide +kernel
theorem dX11_keeps_34 : decode cX11_keeps 34 = .ok (.istore 5, 2) := by decide +kernel
theorem dX11_keeps_36 : decode cX11_keeps 36 = .ok (.iload 5, 2) := by decide +kernel
theorem dX11_keeps_38 : decode cX11_keeps 38 = .ok (.bipush 9, 2) := by decide +kernel
theorem dX11_keeps_40 : decode cX11_keeps 40 = .ok (.if_icmp .gt 35, 3) := by decide +kernel
theorem dX11_keeps_43 : decode cX11_keeps 43 = .ok (.iload 4, 2) := by decide +kernel
theorem dX11_keeps_45 : decode cX11_keeps 45 = .ok (.iload_n 1, 1) := by decide +kernel
theorem dX11_keeps_46 : decode cX11_keeps 46 = .ok (.bipush 119, 2) := by decide +kernel
theorem dX11_keeps_48 : decode cX11_keeps 48 = .ok (.if_icmp .ne 13, 3) := by decide +kernel
theorem dX11_keeps_51 : decode cX11_keeps 51 = .ok (.aload_n 0, 1) := by decide +kernel
theorem dX11_keeps_52 : decode cX11_keeps 52 = .ok (.iload_n 2, 1) := by decide +kernel
theorem dX11_keeps_53 : decode cX11_keeps 53 = .ok (.iload 5, 2) := by decide +kernel
theorem dX11_keeps_55 : decode cX11_keeps 55 = .ok (.invokevirtual 102, 3) := by decide +kernel
theorem dX11_keeps_58 : decode cX11_keeps 58 = .ok (.ifCond .eq 7, 3) := by decide +kernel
theorem dX11_keeps_61 : decode cX11_keeps 61 = .ok (.iconst 1, 1) := by decide +kernel
theorem dX11_keeps_62 : decode cX11_keeps 62 = .ok (.goto 4, 3) := by decide +kernel
theorem dX11_keeps_65 : decode cX11_keeps 65 = .ok (.iconst 0, 1) := by decide +kernel
theorem dX11_keeps_66 : decode cX11_keeps 66 = .ok (.iand, 1) := by decide +kernel
theorem dX11_keeps_67 : decode cX11_keeps 67 = .ok (.istore 4, 2) := by decide +kernel
theorem dX11_keeps_69 : decode cX11_keeps 69 = .ok (.iinc 5 1, 3) := by decide +kernel
theorem dX11_keeps_72 : decode cX11_keeps 72 = .ok (.goto (-36), 3) := by decide +kernel
theorem dX11_keeps_75 : decode cX11_keeps 75 = .ok (.iload 4, 2) := by decide +kernel
theorem dX11_keeps_77 : decode cX11_keeps 77 = .ok (.ireturn, 1) := by decide +kernel
theorem dX11_take_0 : decode cX11_take 0 = .ok (.iconst 0, 1) := by decide +kernel
theorem dX11_take_1 : decode cX11_take 1 = .ok (.istore_n 1, 1) := by decide +kernel
theorem dX11_take_2 : decode cX11_take 2 = .ok (.iload_n 1, 1) := by decide +kernel
theorem dX11_take_3 : decode cX11_take 3 = .ok (.sipush 304, 3) := by decide +kernel
theorem dX11_take_6 : decode cX11_take 6 = .ok (.if_icmp .ge 20, 3) := by decide +kernel
theorem dX11_take_9 : decode cX11_take 9 = .ok (.aload_n 0, 1) := by decide +kernel
theorem dX11_take_10 : decode cX11_take 10 = .ok (.getfield 13, 3) := by decide +kernel
theorem dX11_take_13 : decode cX11_take 13 = .ok (.iload_n 1, 1) := by decide +kernel
theorem dX11_take_14 : decode cX11_take 14 = .ok (.aload_n 0, 1) := by decide +kernel
theorem dX11_take_15 : decode cX11_take 15 = .ok (.iload_n 1, 1) := by decide +kernel
theorem dX11_take_16 : decode cX11_take 16 = .ok (.invokevirtual 105, 3) := by decide +kernel
theorem dX11_take_19 : decode cX11_take 19 = .ok (.iastore, 1) := by decide +kernel
theorem dX11_take_20 : decode cX11_take 20 = .ok (.iinc 1 1, 3) := by decide +kernel
theorem dX11_take_23 : decode cX11_take 23 = .ok (.goto (-21), 3) := by decide +kernel
theorem dX11_take_26 : decode cX11_take 26 = .ok (.return_, 1) := by decide +kernel
theorem dX11_rule_0 : decode cX11_rule 0 = .ok (.iload_n 1, 1) := by decide +kernel
theorem dX11_rule_1 : decode cX11_rule 1 = .ok (.bipush 99, 2) := by decide +kernel
theorem dX11_rule_3 : decode cX11_rule 3 = .ok (.if_icmp .eq 9, 3) := by decide +kernel
theorem dX11_rule_6 : decode cX11_rule 6 = .ok (.iload_n 1, 1) := by decide +kernel
theorem dX11_rule_7 : decode cX11_rule 7 = .ok (.bipush 120, 2) := by decide +kernel
theorem dX11_rule_9 : decode cX11_rule 9 = .ok (.if_icmp .ne 7, 3) := by decide +kernel
theorem dX11_rule_12 : decode cX11_rule 12 = .ok (.iconst 1, 1) := by decide +kernel
theorem dX11_rule_13 : decode cX11_rule 13 = .ok (.goto 4, 3) := by decide +kernel
theorem dX11_rule_16 : decode cX11_rule 16 = .ok (.iconst 0, 1) := by decide +kernel
theorem dX11_rule_17 : decode cX11_rule 17 = .ok (.istore 4, 2) := by decide +kernel
theorem dX11_rule_19 : decode cX11_rule 19 = .ok (.iload_n 1, 1) := by decide +kernel
theorem dX11_rule_20 : decode cX11_rule 20 = .ok (.bipush 103, 2) := by decide +kernel
theorem dX11_rule_22 : decode cX11_rule 22 = .ok (.if_icmp .eq 9, 3) := by decide +kernel
theorem dX11_rule_25 : decode cX11_rule 25 = .ok (.iload_n 1, 1) := by decide +kernel
theorem dX11_rule_26 : decode cX11_rule 26 = .ok (.bipush 119, 2) := by decide +kernel
theorem dX11_rule_28 : decode cX11_rule 28 = .ok (.if_icmp .ne 7, 3) := by decide +kernel
theorem dX11_rule_31 : decode cX11_rule 31 = .ok (.iconst 1, 1) := by decide +kernel
theorem dX11_rule_32 : decode cX11_rule 32 = .ok (.goto 4, 3) := by decide +kernel
theorem dX11_rule_35 : decode cX11_rule 35 = .ok (.iconst 0, 1) := by decide +kernel
theorem dX11_rule_36 : decode cX11_rule 36 = .ok (.istore 5, 2) := by decide +kernel
theorem dX11_rule_38 : decode cX11_rule 38 = .ok (.iload_n 1, 1) := by decide +kernel
theorem dX11_rule_39 : decode cX11_rule 39 = .ok (.bipush 109, 2) := by decide +kernel
theorem dX11_rule_41 : decode cX11_rule 41 = .ok (.if_icmp .eq 39, 3) := by decide +kernel
theorem dX11_rule_44 : decode cX11_rule 44 = .ok (.iload 5, 2) := by decide +kernel
theorem dX11_rule_46 : decode cX11_rule 46 = .ok (.ifCond .eq 10, 3) := by decide +kernel
theorem dX11_rule_49 : decode cX11_rule 49 = .ok (.iload_n 2, 1) := by decide +kernel
theorem dX11_rule_50 : decode cX11_rule 50 = .ok (.invokestatic 108, 3) := by decide +kernel
theorem dX11_rule_53 : decode cX11_rule 53 = .ok (.ifCond .ne 27, 3) := by decide +kernel
theorem dX11_rule_56 : decode cX11_rule 56 = .ok (.iload 4, 2) := by decide +kernel
theorem dX11_rule_58 : decode cX11_rule 58 = .ok (.ifCond .eq 26, 3) := by decide +kernel
theorem dX11_rule_61 : decode cX11_rule 61 = .ok (.iload_n 2, 1) := by decide +kernel
theorem dX11_rule_62 : decode cX11_rule 62 = .ok (.invokestatic 108, 3) := by decide +kernel
theorem dX11_rule_65 : decode cX11_rule 65 = .ok (.ifCond .eq 19, 3) := by decide +kernel
theorem dX11_rule_68 : decode cX11_rule 68 = .ok (.iload_n 3, 1) := by decide +kernel
theorem dX11_rule_69 : decode cX11_rule 69 = .ok (.invokestatic 108, 3) := by decide +kernel
theorem dX11_rule_72 : decode cX11_rule 72 = .ok (.ifCond .eq 12, 3) := by decide +kernel
theorem dX11_rule_75 : decode cX11_rule 75 = .ok (.iload_n 2, 1) := by decide +kernel
theorem dX11_rule_76 : decode cX11_rule 76 = .ok (.iload_n 3, 1) := by decide +kernel
theorem dX11_rule_77 : decode cX11_rule 77 = .ok (.if_icmp .eq 7, 3) := by decide +kernel
theorem dX11_rule_80 : decode cX11_rule 80 = .ok (.iconst 1, 1) := by decide +kernel
theorem dX11_rule_81 : decode cX11_rule 81 = .ok (.goto 4, 3) := by decide +kernel
theorem dX11_rule_84 : decode cX11_rule 84 = .ok (.iconst 0, 1) := by decide +kernel
theorem dX11_rule_85 : decode cX11_rule 85 = .ok (.istore 6, 2) := by decide +kernel
theorem dX11_rule_87 : decode cX11_rule 87 = .ok (.aload_n 0, 1) := by decide +kernel
theorem dX11_rule_88 : decode cX11_rule 88 = .ok (.iload 6, 2) := by decide +kernel
theorem dX11_rule_90 : decode cX11_rule 90 = .ok (.iconst 1, 1) := by decide +kernel
theorem dX11_rule_91 : decode cX11_rule 91 = .ok (.invokevirtual 112, 3) := by decide +kernel
theorem dX11_rule_94 : decode cX11_rule 94 = .ok (.ifCond .eq 5, 3) := by decide +kernel
theorem dX11_rule_97 : decode cX11_rule 97 = .ok (.iconst 0, 1) := by decide +kernel
theorem dX11_rule_98 : decode cX11_rule 98 = .ok (.ireturn, 1) := by decide +kernel
theorem dX11_rule_99 : decode cX11_rule 99 = .ok (.iload_n 1, 1) := by decide +kernel
theorem dX11_rule_100 : decode cX11_rule 100 = .ok (.bipush 109, 2) := by decide +kernel
theorem dX11_rule_102 : decode cX11_rule 102 = .ok (.if_icmp .ne 7, 3) := by decide +kernel
theorem dX11_rule_105 : decode cX11_rule 105 = .ok (.iconst 0, 1) := by decide +kernel
theorem dX11_rule_106 : decode cX11_rule 106 = .ok (.goto 4, 3) := by decide +kernel
theorem dX11_rule_109 : decode cX11_rule 109 = .ok (.iload_n 2, 1) := by decide +kernel
theorem dX11_rule_110 : decode cX11_rule 110 = .ok (.istore 7, 2) := by decide +kernel
theorem dX11_rule_112 : decode cX11_rule 112 = .ok (.iload 4, 2) := by decide +kernel
theorem dX11_rule_114 : decode cX11_rule 114 = .ok (.ifCond .eq 7, 3) := by decide +kernel
theorem dX11_rule_117 : decode cX11_rule 117 = .ok (.iload_n 3, 1) := by decide +kernel
theorem dX11_rule_118 : decode cX11_rule 118 = .ok (.goto 4, 3) := by decide +kernel
theorem dX11_rule_121 : decode cX11_rule 121 = .ok (.iconst 0, 1) := by decide +kernel
theorem dX11_rule_122 : decode cX11_rule 122 = .ok (.istore 8, 2) := by decide +kernel
theorem dX11_rule_124 : decode cX11_rule 124 = .ok (.aload_n 0, 1) := by decide +kernel
theorem dX11_rule_125 : decode cX11_rule 125 = .ok (.invokevirtual 116, 3) := by decide +kernel
theorem dX11_rule_128 : decode cX11_rule 128 = .ok (.aload_n 0, 1) := by decide +kernel
theorem dX11_rule_129 : decode cX11_rule 129 = .ok (.aload_n 0, 1) := by decide +kernel
theorem dX11_rule_130 : decode cX11_rule 130 = .ok (.iload_n 1, 1) := by decide +kernel
theorem dX11_rule_131 : decode cX11_rule 131 = .ok (.iload 7, 2) := by decide +kernel
theorem dX11_rule_133 : decode cX11_rule 133 = .ok (.iload 8, 2) := by decide +kernel
theorem dX11_rule_135 : decode cX11_rule 135 = .ok (.invokevirtual 119, 3) := by decide +kernel
theorem dX11_rule_138 : decode cX11_rule 138 = .ok (.iconst 2, 1) := by decide +kernel
theorem dX11_rule_139 : decode cX11_rule 139 = .ok (.invokevirtual 112, 3) := by decide +kernel
theorem dX11_rule_142 : decode cX11_rule 142 = .ok (.ifCond .ne 25, 3) := by decide +kernel
theorem dX11_rule_145 : decode cX11_rule 145 = .ok (.aload_n 0, 1) := by decide +kernel
theorem dX11_rule_146 : decode cX11_rule 146 = .ok (.aload_n 0, 1) := by decide +kernel
theorem dX11_rule_147 : decode cX11_rule 147 = .ok (.getfield 122, 3) := by decide +kernel
theorem dX11_rule_150 : decode cX11_rule 150 = .ok (.bipush 6, 2) := by decide +kernel
theorem dX11_rule_152 : decode cX11_rule 152 = .ok (.if_icmp .ge 7, 3) := by decide +kernel
theorem dX11_rule_155 : decode cX11_rule 155 = .ok (.iconst 1, 1) := by decide +kernel
theorem dX11_rule_156 : decode cX11_rule 156 = .ok (.goto 4, 3) := by decide +kernel
theorem dX11_rule_159 : decode cX11_rule 159 = .ok (.iconst 0, 1) := by decide +kernel
theorem dX11_rule_160 : decode cX11_rule 160 = .ok (.iconst 3, 1) := by decide +kernel
theorem dX11_rule_161 : decode cX11_rule 161 = .ok (.invokevirtual 112, 3) := by decide +kernel
theorem dX11_rule_164 : decode cX11_rule 164 = .ok (.ifCond .eq 5, 3) := by decide +kernel
theorem dX11_rule_167 : decode cX11_rule 167 = .ok (.iconst 0, 1) := by decide +kernel
theorem dX11_rule_168 : decode cX11_rule 168 = .ok (.ireturn, 1) := by decide +kernel
theorem dX11_rule_169 : decode cX11_rule 169 = .ok (.aload_n 0, 1) := by decide +kernel
theorem dX11_rule_170 : decode cX11_rule 170 = .ok (.getfield 16, 3) := by decide +kernel
theorem dX11_rule_173 : decode cX11_rule 173 = .ok (.aload_n 0, 1) := by decide +kernel
theorem dX11_rule_174 : decode cX11_rule 174 = .ok (.getfield 122, 3) := by decide +kernel
theorem dX11_rule_177 : decode cX11_rule 177 = .ok (.iload_n 1, 1) := by decide +kernel
theorem dX11_rule_178 : decode cX11_rule 178 = .ok (.iastore, 1) := by decide +kernel
theorem dX11_rule_179 : decode cX11_rule 179 = .ok (.aload_n 0, 1) := by decide +kernel
theorem dX11_rule_180 : decode cX11_rule 180 = .ok (.getfield 19, 3) := by decide +kernel
theorem dX11_rule_183 : decode cX11_rule 183 = .ok (.aload_n 0, 1) := by decide +kernel
theorem dX11_rule_184 : decode cX11_rule 184 = .ok (.getfield 122, 3) := by decide +kernel
theorem dX11_rule_187 : decode cX11_rule 187 = .ok (.iload 7, 2) := by decide +kernel
theorem dX11_rule_189 : decode cX11_rule 189 = .ok (.iastore, 1) := by decide +kernel
theorem dX11_rule_190 : decode cX11_rule 190 = .ok (.aload_n 0, 1) := by decide +kernel
theorem dX11_rule_191 : decode cX11_rule 191 = .ok (.getfield 22, 3) := by decide +kernel
theorem dX11_rule_194 : decode cX11_rule 194 = .ok (.aload_n 0, 1) := by decide +kernel
theorem dX11_rule_195 : decode cX11_rule 195 = .ok (.getfield 122, 3) := by decide +kernel
theorem dX11_rule_198 : decode cX11_rule 198 = .ok (.iload 8, 2) := by decide +kernel
theorem dX11_rule_200 : decode cX11_rule 200 = .ok (.iastore, 1) := by decide +kernel
theorem dX11_rule_201 : decode cX11_rule 201 = .ok (.aload_n 0, 1) := by decide +kernel
theorem dX11_rule_202 : decode cX11_rule 202 = .ok (.dup, 1) := by decide +kernel
theorem dX11_rule_203 : decode cX11_rule 203 = .ok (.getfield 122, 3) := by decide +kernel
theorem dX11_rule_206 : decode cX11_rule 206 = .ok (.iconst 1, 1) := by decide +kernel
theorem dX11_rule_207 : decode cX11_rule 207 = .ok (.iadd, 1) := by decide +kernel
theorem dX11_rule_208 : decode cX11_rule 208 = .ok (.putfield 122, 3) := by decide +kernel
theorem dX11_rule_211 : decode cX11_rule 211 = .ok (.aload_n 0, 1) := by decide +kernel
theorem dX11_rule_212 : decode cX11_rule 212 = .ok (.getfield 122, 3) := by decide +kernel
theorem dX11_rule_215 : decode cX11_rule 215 = .ok (.iconst 1, 1) := by decide +kernel
theorem dX11_rule_216 : decode cX11_rule 216 = .ok (.isub, 1) := by decide +kernel
theorem dX11_rule_217 : decode cX11_rule 217 = .ok (.ireturn, 1) := by decide +kernel
theorem dX11_broken_0 : decode cX11_broken 0 = .ok (.iconst (-1), 1) := by decide +kernel
theorem dX11_broken_1 : decode cX11_broken 1 = .ok (.istore_n 1, 1) := by decide +kernel
theorem dX11_broken_2 : decode cX11_broken 2 = .ok (.aload_n 0, 1) := by decide +kernel
theorem dX11_broken_3 : decode cX11_broken 3 = .ok (.getfield 122, 3) := by decide +kernel
theorem dX11_broken_6 : decode cX11_broken 6 = .ok (.iconst 1, 1) := by decide +kernel
theorem dX11_broken_7 : decode cX11_broken 7 = .ok (.isub, 1) := by decide +kernel
theorem dX11_broken_8 : decode cX11_broken 8 = .ok (.istore_n 2, 1) := by decide +kernel
theorem dX11_broken_9 : decode cX11_broken 9 = .ok (.iload_n 2, 1) := by decide +kernel
theorem dX11_broken_10 : decode cX11_broken 10 = .ok (.ifCond .lt 40, 3) := by decide +kernel
theorem dX11_broken_13 : decode cX11_broken 13 = .ok (.aload_n 0, 1) := by decide +kernel
theorem dX11_broken_14 : decode cX11_broken 14 = .ok (.aload_n 0, 1) := by decide +kernel
theorem dX11_broken_15 : decode cX11_broken 15 = .ok (.getfield 16, 3) := by decide +kernel
theorem dX11_broken_18 : decode cX11_broken 18 = .ok (.iload_n 2, 1) := by decide +kernel
theorem dX11_broken_19 : decode cX11_broken 19 = .ok (.iaload, 1) := by decide +kernel
theorem dX11_broken_20 : decode cX11_broken 20 = .ok (.aload_n 0, 1) := by decide +kernel
theorem dX11_broken_21 : decode cX11_broken 21 = .ok (.getfield 19, 3) := by decide +kernel
theorem dX11_broken_24 : decode cX11_broken 24 = .ok (.iload_n 2, 1) := by decide +kernel
theorem dX11_broken_25 : decode cX11_broken 25 = .ok (.iaload, 1) := by decide +kernel
theorem dX11_broken_26 : decode cX11_broken 26 = .ok (.aload_n 0, 1) := by decide +kernel
theorem dX11_broken_27 : decode cX11_broken 27 = .ok (.getfield 22, 3) := by decide +kernel
theorem dX11_broken_30 : decode cX11_broken 30 = .ok (.iload_n 2, 1) := by decide +kernel
theorem dX11_broken_31 : decode cX11_broken 31 = .ok (.iaload, 1) := by decide +kernel
theorem dX11_broken_32 : decode cX11_broken 32 = .ok (.invokevirtual 119, 3) := by decide +kernel
theorem dX11_broken_35 : decode cX11_broken 35 = .ok (.ifCond .eq 7, 3) := by decide +kernel
theorem dX11_broken_38 : decode cX11_broken 38 = .ok (.iload_n 1, 1) := by decide +kernel
theorem dX11_broken_39 : decode cX11_broken 39 = .ok (.goto 4, 3) := by decide +kernel
theorem dX11_broken_42 : decode cX11_broken 42 = .ok (.iload_n 2, 1) := by decide +kernel
theorem dX11_broken_43 : decode cX11_broken 43 = .ok (.istore_n 1, 1) := by decide +kernel
theorem dX11_broken_44 : decode cX11_broken 44 = .ok (.iinc 2 (-1), 3) := by decide +kernel
theorem dX11_broken_47 : decode cX11_broken 47 = .ok (.goto (-38), 3) := by decide +kernel
theorem dX11_broken_50 : decode cX11_broken 50 = .ok (.iload_n 1, 1) := by decide +kernel
theorem dX11_broken_51 : decode cX11_broken 51 = .ok (.ireturn, 1) := by decide +kernel
theorem dX11_open_0 : decode cX11_open 0 = .ok (.iconst 0, 1) := by decide +kernel
theorem dX11_open_1 : decode cX11_open 1 = .ok (.istore_n 1, 1) := by decide +kernel
theorem dX11_open_2 : decode cX11_open 2 = .ok (.iload_n 1, 1) := by decide +kernel
theorem dX11_open_3 : decode cX11_open 3 = .ok (.iconst 4, 1) := by decide +kernel
theorem dX11_open_4 : decode cX11_open 4 = .ok (.if_icmp .ge 18, 3) := by decide +kernel
theorem dX11_open_7 : decode cX11_open 7 = .ok (.aload_n 0, 1) := by decide +kernel
theorem dX11_open_8 : decode cX11_open 8 = .ok (.getfield 25, 3) := by decide +kernel
theorem dX11_open_11 : decode cX11_open 11 = .ok (.iload_n 1, 1) := by decide +kernel
theorem dX11_open_12 : decode cX11_open 12 = .ok (.baload, 1) := by decide +kernel
theorem dX11_open_13 : decode cX11_open 13 = .ok (.ifCond .eq 9, 3) := by decide +kernel
theorem dX11_open_16 : decode cX11_open 16 = .ok (.iinc 1 1, 3) := by decide +kernel
theorem dX11_open_19 : decode cX11_open 19 = .ok (.goto (-17), 3) := by decide +kernel
theorem dX11_open_22 : decode cX11_open 22 = .ok (.aload_n 0, 1) := by decide +kernel
theorem dX11_open_23 : decode cX11_open 23 = .ok (.iload_n 1, 1) := by decide +kernel
theorem dX11_open_24 : decode cX11_open 24 = .ok (.iconst 4, 1) := by decide +kernel
theorem dX11_open_25 : decode cX11_open 25 = .ok (.if_icmp .ge 7, 3) := by decide +kernel
theorem dX11_open_28 : decode cX11_open 28 = .ok (.iconst 1, 1) := by decide +kernel
theorem dX11_open_29 : decode cX11_open 29 = .ok (.goto 4, 3) := by decide +kernel
theorem dX11_open_32 : decode cX11_open 32 = .ok (.iconst 0, 1) := by decide +kernel
theorem dX11_open_33 : decode cX11_open 33 = .ok (.iconst 1, 1) := by decide +kernel
theorem dX11_open_34 : decode cX11_open 34 = .ok (.invokevirtual 112, 3) := by decide +kernel
theorem dX11_open_37 : decode cX11_open 37 = .ok (.ifCond .eq 5, 3) := by decide +kernel
theorem dX11_open_40 : decode cX11_open 40 = .ok (.iconst 0, 1) := by decide +kernel
theorem dX11_open_41 : decode cX11_open 41 = .ok (.ireturn, 1) := by decide +kernel
theorem dX11_open_42 : decode cX11_open 42 = .ok (.aload_n 0, 1) := by decide +kernel
theorem dX11_open_43 : decode cX11_open 43 = .ok (.getfield 25, 3) := by decide +kernel
theorem dX11_open_46 : decode cX11_open 46 = .ok (.iload_n 1, 1) := by decide +kernel
theorem dX11_open_47 : decode cX11_open 47 = .ok (.iconst 1, 1) := by decide +kernel
theorem dX11_open_48 : decode cX11_open 48 = .ok (.bastore, 1) := by decide +kernel
theorem dX11_open_49 : decode cX11_open 49 = .ok (.iconst 0, 1) := by decide +kernel
theorem dX11_open_50 : decode cX11_open 50 = .ok (.istore_n 2, 1) := by decide +kernel
theorem dX11_open_51 : decode cX11_open 51 = .ok (.iload_n 2, 1) := by decide +kernel
theorem dX11_open_52 : decode cX11_open 52 = .ok (.sipush 304, 3) := by decide +kernel
theorem dX11_open_55 : decode cX11_open 55 = .ok (.if_icmp .ge 50, 3) := by decide +kernel
theorem dX11_open_58 : decode cX11_open 58 = .ok (.sipush 304, 3) := by decide +kernel
theorem dX11_open_61 : decode cX11_open 61 = .ok (.iload_n 1, 1) := by decide +kernel
theorem dX11_open_62 : decode cX11_open 62 = .ok (.imul, 1) := by decide +kernel
theorem dX11_open_63 : decode cX11_open 63 = .ok (.iload_n 2, 1) := by decide +kernel
theorem dX11_open_64 : decode cX11_open 64 = .ok (.iadd, 1) := by decide +kernel
theorem dX11_open_65 : decode cX11_open 65 = .ok (.istore_n 3, 1) := by decide +kernel
theorem dX11_open_66 : decode cX11_open 66 = .ok (.aload_n 0, 1) := by decide +kernel
theorem dX11_open_67 : decode cX11_open 67 = .ok (.getfield 29, 3) := by decide +kernel
theorem dX11_open_70 : decode cX11_open 70 = .ok (.iload_n 3, 1) := by decide +kernel
theorem dX11_open_71 : decode cX11_open 71 = .ok (.aload_n 0, 1) := by decide +kernel
theorem dX11_open_72 : decode cX11_open 72 = .ok (.iload_n 2, 1) := by decide +kernel
theorem dX11_open_73 : decode cX11_open 73 = .ok (.invokevirtual 105, 3) := by decide +kernel
theorem dX11_open_76 : decode cX11_open 76 = .ok (.iastore, 1) := by decide +kernel
theorem dX11_open_77 : decode cX11_open 77 = .ok (.aload_n 0, 1) := by decide +kernel
theorem dX11_open_78 : decode cX11_open 78 = .ok (.getfield 32, 3) := by decide +kernel
theorem dX11_open_81 : decode cX11_open 81 = .ok (.iload_n 3, 1) := by decide +kernel
theorem dX11_open_82 : decode cX11_open 82 = .ok (.iconst (-1), 1) := by decide +kernel
theorem dX11_open_83 : decode cX11_open 83 = .ok (.iastore, 1) := by decide +kernel
theorem dX11_open_84 : decode cX11_open 84 = .ok (.aload_n 0, 1) := by decide +kernel
theorem dX11_open_85 : decode cX11_open 85 = .ok (.getfield 35, 3) := by decide +kernel
theorem dX11_open_88 : decode cX11_open 88 = .ok (.iload_n 3, 1) := by decide +kernel
theorem dX11_open_89 : decode cX11_open 89 = .ok (.iconst (-1), 1) := by decide +kernel
theorem dX11_open_90 : decode cX11_open 90 = .ok (.iastore, 1) := by decide +kernel
theorem dX11_open_91 : decode cX11_open 91 = .ok (.aload_n 0, 1) := by decide +kernel
theorem dX11_open_92 : decode cX11_open 92 = .ok (.getfield 38, 3) := by decide +kernel
theorem dX11_open_95 : decode cX11_open 95 = .ok (.iload_n 3, 1) := by decide +kernel
theorem dX11_open_96 : decode cX11_open 96 = .ok (.ldc 125, 2) := by decide +kernel
theorem dX11_open_98 : decode cX11_open 98 = .ok (.iastore, 1) := by decide +kernel
theorem dX11_open_99 : decode cX11_open 99 = .ok (.iinc 2 1, 3) := by decide +kernel
theorem dX11_open_102 : decode cX11_open 102 = .ok (.goto (-51), 3) := by decide +kernel
theorem dX11_open_105 : decode cX11_open 105 = .ok (.iload_n 1, 1) := by decide +kernel
theorem dX11_open_106 : decode cX11_open 106 = .ok (.ireturn, 1) := by decide +kernel
theorem dX11_editsOf_0 : decode cX11_editsOf 0 = .ok (.iconst 0, 1) := by decide +kernel
theorem dX11_editsOf_1 : decode cX11_editsOf 1 = .ok (.istore_n 2, 1) := by decide +kernel
theorem dX11_editsOf_2 : decode cX11_editsOf 2 = .ok (.iconst 0, 1) := by decide +kernel
theorem dX11_editsOf_3 : decode cX11_editsOf 3 = .ok (.istore_n 3, 1) := by decide +kernel
theorem dX11_editsOf_4 : decode cX11_editsOf 4 = .ok (.iload_n 3, 1) := by decide +kernel
theorem dX11_editsOf_5 : decode cX11_editsOf 5 = .ok (.sipush 304, 3) := by decide +kernel
theorem dX11_editsOf_8 : decode cX11_editsOf 8 = .ok (.if_icmp .ge 32, 3) := by decide +kernel
theorem dX11_editsOf_11 : decode cX11_editsOf 11 = .ok (.iload_n 2, 1) := by decide +kernel
theorem dX11_editsOf_12 : decode cX11_editsOf 12 = .ok (.aload_n 0, 1) := by decide +kernel
theorem dX11_editsOf_13 : decode cX11_editsOf 13 = .ok (.getfield 32, 3) := by decide +kernel
theorem dX11_editsOf_16 : decode cX11_editsOf 16 = .ok (.sipush 304, 3) := by decide +kernel
theorem dX11_editsOf_19 : decode cX11_editsOf 19 = .ok (.iload_n 1, 1) := by decide +kernel
theorem dX11_editsOf_20 : decode cX11_editsOf 20 = .ok (.imul, 1) := by decide +kernel
theorem dX11_editsOf_21 : decode cX11_editsOf 21 = .ok (.iload_n 3, 1) := by decide +kernel
theorem dX11_editsOf_22 : decode cX11_editsOf 22 = .ok (.iadd, 1) := by decide +kernel
theorem dX11_editsOf_23 : decode cX11_editsOf 23 = .ok (.iaload, 1) := by decide +kernel
theorem dX11_editsOf_24 : decode cX11_editsOf 24 = .ok (.ifCond .lt 7, 3) := by decide +kernel
theorem dX11_editsOf_27 : decode cX11_editsOf 27 = .ok (.iconst 1, 1) := by decide +kernel
theorem dX11_editsOf_28 : decode cX11_editsOf 28 = .ok (.goto 4, 3) := by decide +kernel
theorem dX11_editsOf_31 : decode cX11_editsOf 31 = .ok (.iconst 0, 1) := by decide +kernel
theorem dX11_editsOf_32 : decode cX11_editsOf 32 = .ok (.iadd, 1) := by decide +kernel
theorem dX11_editsOf_33 : decode cX11_editsOf 33 = .ok (.istore_n 2, 1) := by decide +kernel
theorem dX11_editsOf_34 : decode cX11_editsOf 34 = .ok (.iinc 3 1, 3) := by decide +kernel
theorem dX11_editsOf_37 : decode cX11_editsOf 37 = .ok (.goto (-33), 3) := by decide +kernel
theorem dX11_editsOf_40 : decode cX11_editsOf 40 = .ok (.iload_n 2, 1) := by decide +kernel
theorem dX11_editsOf_41 : decode cX11_editsOf 41 = .ok (.ireturn, 1) := by decide +kernel
theorem dX11_drop_0 : decode cX11_drop 0 = .ok (.aload_n 0, 1) := by decide +kernel
theorem dX11_drop_1 : decode cX11_drop 1 = .ok (.aload_n 0, 1) := by decide +kernel
theorem dX11_drop_2 : decode cX11_drop 2 = .ok (.iload_n 1, 1) := by decide +kernel
theorem dX11_drop_3 : decode cX11_drop 3 = .ok (.invokevirtual 126, 3) := by decide +kernel
theorem dX11_drop_6 : decode cX11_drop 6 = .ok (.iconst 1, 1) := by decide +kernel
theorem dX11_drop_7 : decode cX11_drop 7 = .ok (.invokevirtual 112, 3) := by decide +kernel
theorem dX11_drop_10 : decode cX11_drop 10 = .ok (.ifCond .eq 5, 3) := by decide +kernel
theorem dX11_drop_13 : decode cX11_drop 13 = .ok (.iconst 0, 1) := by decide +kernel
theorem dX11_drop_14 : decode cX11_drop 14 = .ok (.ireturn, 1) := by decide +kernel
theorem dX11_drop_15 : decode cX11_drop 15 = .ok (.aload_n 0, 1) := by decide +kernel
theorem dX11_drop_16 : decode cX11_drop 16 = .ok (.getfield 25, 3) := by decide +kernel
theorem dX11_drop_19 : decode cX11_drop 19 = .ok (.iload_n 1, 1) := by decide +kernel
theorem dX11_drop_20 : decode cX11_drop 20 = .ok (.iconst 0, 1) := by decide +kernel
theorem dX11_drop_21 : decode cX11_drop 21 = .ok (.bastore, 1) := by decide +kernel
theorem dX11_drop_22 : decode cX11_drop 22 = .ok (.aload_n 0, 1) := by decide +kernel
theorem dX11_drop_23 : decode cX11_drop 23 = .ok (.iload_n 1, 1) := by decide +kernel
theorem dX11_drop_24 : decode cX11_drop 24 = .ok (.invokevirtual 129, 3) := by decide +kernel
theorem dX11_drop_27 : decode cX11_drop 27 = .ok (.ireturn, 1) := by decide +kernel
theorem dX11_edit_0 : decode cX11_edit 0 = .ok (.sipush 304, 3) := by decide +kernel
theorem dX11_edit_3 : decode cX11_edit 3 = .ok (.iload_n 1, 1) := by decide +kernel
theorem dX11_edit_4 : decode cX11_edit 4 = .ok (.imul, 1) := by decide +kernel
theorem dX11_edit_5 : decode cX11_edit 5 = .ok (.iload_n 2, 1) := by decide +kernel
theorem dX11_edit_6 : decode cX11_edit 6 = .ok (.iadd, 1) := by decide +kernel
theorem dX11_edit_7 : decode cX11_edit 7 = .ok (.istore 4, 2) := by decide +kernel
theorem dX11_edit_9 : decode cX11_edit 9 = .ok (.aload_n 0, 1) := by decide +kernel
theorem dX11_edit_10 : decode cX11_edit 10 = .ok (.getfield 32, 3) := by decide +kernel
theorem dX11_edit_13 : decode cX11_edit 13 = .ok (.iload 4, 2) := by decide +kernel
theorem dX11_edit_15 : decode cX11_edit 15 = .ok (.iload_n 3, 1) := by decide +kernel
theorem dX11_edit_16 : decode cX11_edit 16 = .ok (.aload_n 0, 1) := by decide +kernel
theorem dX11_edit_17 : decode cX11_edit 17 = .ok (.getfield 29, 3) := by decide +kernel
theorem dX11_edit_20 : decode cX11_edit 20 = .ok (.iload 4, 2) := by decide +kernel
theorem dX11_edit_22 : decode cX11_edit 22 = .ok (.iaload, 1) := by decide +kernel
theorem dX11_edit_23 : decode cX11_edit 23 = .ok (.if_icmp .ne 7, 3) := by decide +kernel
theorem dX11_edit_26 : decode cX11_edit 26 = .ok (.iconst (-1), 1) := by decide +kernel
theorem dX11_edit_27 : decode cX11_edit 27 = .ok (.goto 4, 3) := by decide +kernel
theorem dX11_edit_30 : decode cX11_edit 30 = .ok (.iload_n 3, 1) := by decide +kernel
theorem dX11_edit_31 : decode cX11_edit 31 = .ok (.iastore, 1) := by decide +kernel
theorem dX11_edit_32 : decode cX11_edit 32 = .ok (.aload_n 0, 1) := by decide +kernel
theorem dX11_edit_33 : decode cX11_edit 33 = .ok (.getfield 35, 3) := by decide +kernel
theorem dX11_edit_36 : decode cX11_edit 36 = .ok (.iload 4, 2) := by decide +kernel
theorem dX11_edit_38 : decode cX11_edit 38 = .ok (.aload_n 0, 1) := by decide +kernel
theorem dX11_edit_39 : decode cX11_edit 39 = .ok (.getfield 32, 3) := by decide +kernel
theorem dX11_edit_42 : decode cX11_edit 42 = .ok (.iload 4, 2) := by decide +kernel
theorem dX11_edit_44 : decode cX11_edit 44 = .ok (.iaload, 1) := by decide +kernel
theorem dX11_edit_45 : decode cX11_edit 45 = .ok (.ifCond .ge 7, 3) := by decide +kernel
theorem dX11_edit_48 : decode cX11_edit 48 = .ok (.iconst (-1), 1) := by decide +kernel
theorem dX11_edit_49 : decode cX11_edit 49 = .ok (.goto 10, 3) := by decide +kernel
theorem dX11_edit_52 : decode cX11_edit 52 = .ok (.aload_n 0, 1) := by decide +kernel
theorem dX11_edit_53 : decode cX11_edit 53 = .ok (.getfield 35, 3) := by decide +kernel
theorem dX11_edit_56 : decode cX11_edit 56 = .ok (.iload 4, 2) := by decide +kernel
theorem dX11_edit_58 : decode cX11_edit 58 = .ok (.iaload, 1) := by decide +kernel
theorem dX11_edit_59 : decode cX11_edit 59 = .ok (.iastore, 1) := by decide +kernel
theorem dX11_edit_60 : decode cX11_edit 60 = .ok (.return_, 1) := by decide +kernel
theorem dX11_isPlace_0 : decode cX11_isPlace 0 = .ok (.iload_n 0, 1) := by decide +kernel
theorem dX11_isPlace_1 : decode cX11_isPlace 1 = .ok (.invokestatic 108, 3) := by decide +kernel
theorem dX11_isPlace_4 : decode cX11_isPlace 4 = .ok (.ifCond .eq 27, 3) := by decide +kernel
theorem dX11_isPlace_7 : decode cX11_isPlace 7 = .ok (.iload_n 1, 1) := by decide +kernel
theorem dX11_isPlace_8 : decode cX11_isPlace 8 = .ok (.iconst 0, 1) := by decide +kernel
theorem dX11_isPlace_9 : decode cX11_isPlace 9 = .ok (.bipush 7, 2) := by decide +kernel
theorem dX11_isPlace_11 : decode cX11_isPlace 11 = .ok (.invokestatic 75, 3) := by decide +kernel
theorem dX11_isPlace_14 : decode cX11_isPlace 14 = .ok (.ifCond .eq 17, 3) := by decide +kernel
theorem dX11_isPlace_17 : decode cX11_isPlace 17 = .ok (.iload_n 2, 1) := by decide +kernel
theorem dX11_isPlace_18 : decode cX11_isPlace 18 = .ok (.iconst 0, 1) := by decide +kernel
theorem dX11_isPlace_19 : decode cX11_isPlace 19 = .ok (.bipush 7, 2) := by decide +kernel
theorem dX11_isPlace_21 : decode cX11_isPlace 21 = .ok (.invokestatic 75, 3) := by decide +kernel
theorem dX11_isPlace_24 : decode cX11_isPlace 24 = .ok (.ifCond .eq 7, 3) := by decide +kernel
theorem dX11_isPlace_27 : decode cX11_isPlace 27 = .ok (.iconst 1, 1) := by decide +kernel
theorem dX11_isPlace_28 : decode cX11_isPlace 28 = .ok (.goto 4, 3) := by decide +kernel
theorem dX11_isPlace_31 : decode cX11_isPlace 31 = .ok (.iconst 0, 1) := by decide +kernel
theorem dX11_isPlace_32 : decode cX11_isPlace 32 = .ok (.ireturn, 1) := by decide +kernel
theorem dX11_paint_0 : decode cX11_paint 0 = .ok (.aload_n 0, 1) := by decide +kernel
theorem dX11_paint_1 : decode cX11_paint 1 = .ok (.aload_n 0, 1) := by decide +kernel
theorem dX11_paint_2 : decode cX11_paint 2 = .ok (.iload_n 1, 1) := by decide +kernel
theorem dX11_paint_3 : decode cX11_paint 3 = .ok (.invokevirtual 126, 3) := by decide +kernel
theorem dX11_paint_6 : decode cX11_paint 6 = .ok (.iconst 1, 1) := by decide +kernel
theorem dX11_paint_7 : decode cX11_paint 7 = .ok (.invokevirtual 112, 3) := by decide +kernel
theorem dX11_paint_10 : decode cX11_paint 10 = .ok (.ifCond .ne 37, 3) := by decide +kernel
theorem dX11_paint_13 : decode cX11_paint 13 = .ok (.aload_n 0, 1) := by decide +kernel
theorem dX11_paint_14 : decode cX11_paint 14 = .ok (.iload_n 2, 1) := by decide +kernel
theorem dX11_paint_15 : decode cX11_paint 15 = .ok (.iload_n 3, 1) := by decide +kernel
theorem dX11_paint_16 : decode cX11_paint 16 = .ok (.iload 4, 2) := by decide +kernel
theorem dX11_paint_18 : decode cX11_paint 18 = .ok (.invokestatic 132, 3) := by decide +kernel
theorem dX11_paint_21 : decode cX11_paint 21 = .ok (.ifCond .eq 18, 3) := by decide +kernel
theorem dX11_paint_24 : decode cX11_paint 24 = .ok (.iload 5, 2) := by decide +kernel
theorem dX11_paint_26 : decode cX11_paint 26 = .ok (.iconst 0, 1) := by decide +kernel
theorem dX11_paint_27 : decode cX11_paint 27 = .ok (.bipush 9, 2) := by decide +kernel
theorem dX11_paint_29 : decode cX11_paint 29 = .ok (.invokestatic 75, 3) := by decide +kernel
theorem dX11_paint_32 : decode cX11_paint 32 = .ok (.ifCond .eq 7, 3) := by decide +kernel
theorem dX11_paint_35 : decode cX11_paint 35 = .ok (.iconst 1, 1) := by decide +kernel
theorem dX11_paint_36 : decode cX11_paint 36 = .ok (.goto 4, 3) := by decide +kernel
theorem dX11_paint_39 : decode cX11_paint 39 = .ok (.iconst 0, 1) := by decide +kernel
theorem dX11_paint_40 : decode cX11_paint 40 = .ok (.iconst 2, 1) := by decide +kernel
theorem dX11_paint_41 : decode cX11_paint 41 = .ok (.invokevirtual 112, 3) := by decide +kernel
theorem dX11_paint_44 : decode cX11_paint 44 = .ok (.ifCond .eq 5, 3) := by decide +kernel
theorem dX11_paint_47 : decode cX11_paint 47 = .ok (.iconst 0, 1) := by decide +kernel
theorem dX11_paint_48 : decode cX11_paint 48 = .ok (.ireturn, 1) := by decide +kernel
theorem dX11_paint_49 : decode cX11_paint 49 = .ok (.aload_n 0, 1) := by decide +kernel
theorem dX11_paint_50 : decode cX11_paint 50 = .ok (.iload_n 1, 1) := by decide +kernel
theorem dX11_paint_51 : decode cX11_paint 51 = .ok (.bipush 64, 2) := by decide +kernel
theorem dX11_paint_53 : decode cX11_paint 53 = .ok (.iload_n 2, 1) := by decide +kernel
theorem dX11_paint_54 : decode cX11_paint 54 = .ok (.imul, 1) := by decide +kernel
theorem dX11_paint_55 : decode cX11_paint 55 = .ok (.bipush 8, 2) := by decide +kernel
theorem dX11_paint_57 : decode cX11_paint 57 = .ok (.iload 4, 2) := by decide +kernel
theorem dX11_paint_59 : decode cX11_paint 59 = .ok (.imul, 1) := by decide +kernel
theorem dX11_paint_60 : decode cX11_paint 60 = .ok (.iadd, 1) := by decide +kernel
theorem dX11_paint_61 : decode cX11_paint 61 = .ok (.iload_n 3, 1) := by decide +kernel
theorem dX11_paint_62 : decode cX11_paint 62 = .ok (.iadd, 1) := by decide +kernel
theorem dX11_paint_63 : decode cX11_paint 63 = .ok (.iload 5, 2) := by decide +kernel
theorem dX11_paint_65 : decode cX11_paint 65 = .ok (.invokevirtual 135, 3) := by decide +kernel
theorem dX11_paint_68 : decode cX11_paint 68 = .ok (.aload_n 0, 1) := by decide +kernel
theorem dX11_paint_69 : decode cX11_paint 69 = .ok (.iload_n 1, 1) := by decide +kernel
theorem dX11_paint_70 : decode cX11_paint 70 = .ok (.invokevirtual 129, 3) := by decide +kernel
theorem dX11_paint_73 : decode cX11_paint 73 = .ok (.ireturn, 1) := by decide +kernel
theorem dX11_road_0 : decode cX11_road 0 = .ok (.aload_n 0, 1) := by decide +kernel
theorem dX11_road_1 : decode cX11_road 1 = .ok (.aload_n 0, 1) := by decide +kernel
theorem dX11_road_2 : decode cX11_road 2 = .ok (.iload_n 1, 1) := by decide +kernel
theorem dX11_road_3 : decode cX11_road 3 = .ok (.invokevirtual 126, 3) := by decide +kernel
theorem dX11_road_6 : decode cX11_road 6 = .ok (.iconst 1, 1) := by decide +kernel
theorem dX11_road_7 : decode cX11_road 7 = .ok (.invokevirtual 112, 3) := by decide +kernel
theorem dX11_road_10 : decode cX11_road 10 = .ok (.ifCond .ne 56, 3) := by decide +kernel
theorem dX11_road_13 : decode cX11_road 13 = .ok (.aload_n 0, 1) := by decide +kernel
theorem dX11_road_14 : decode cX11_road 14 = .ok (.iload_n 2, 1) := by decide +kernel
theorem dX11_road_15 : decode cX11_road 15 = .ok (.iconst 0, 1) := by decide +kernel
theorem dX11_road_16 : decode cX11_road 16 = .ok (.iload 4, 2) := by decide +kernel
theorem dX11_road_18 : decode cX11_road 18 = .ok (.ifCond .eq 8, 3) := by decide +kernel
theorem dX11_road_21 : decode cX11_road 21 = .ok (.bipush 7, 2) := by decide +kernel
theorem dX11_road_23 : decode cX11_road 23 = .ok (.goto 5, 3) := by decide +kernel
theorem dX11_road_26 : decode cX11_road 26 = .ok (.bipush 6, 2) := by decide +kernel
theorem dX11_road_28 : decode cX11_road 28 = .ok (.invokestatic 75, 3) := by decide +kernel
theorem dX11_road_31 : decode cX11_road 31 = .ok (.ifCond .eq 27, 3) := by decide +kernel
theorem dX11_road_34 : decode cX11_road 34 = .ok (.iload_n 3, 1) := by decide +kernel
theorem dX11_road_35 : decode cX11_road 35 = .ok (.iconst 0, 1) := by decide +kernel
theorem dX11_road_36 : decode cX11_road 36 = .ok (.iload 4, 2) := by decide +kernel
theorem dX11_road_38 : decode cX11_road 38 = .ok (.ifCond .eq 8, 3) := by decide +kernel
theorem dX11_road_41 : decode cX11_road 41 = .ok (.bipush 6, 2) := by decide +kernel
theorem dX11_road_43 : decode cX11_road 43 = .ok (.goto 5, 3) := by decide +kernel
theorem dX11_road_46 : decode cX11_road 46 = .ok (.bipush 7, 2) := by decide +kernel
theorem dX11_road_48 : decode cX11_road 48 = .ok (.invokestatic 75, 3) := by decide +kernel
theorem dX11_road_51 : decode cX11_road 51 = .ok (.ifCond .eq 7, 3) := by decide +kernel
theorem dX11_road_54 : decode cX11_road 54 = .ok (.iconst 1, 1) := by decide +kernel
theorem dX11_road_55 : decode cX11_road 55 = .ok (.goto 4, 3) := by decide +kernel
theorem dX11_road_58 : decode cX11_road 58 = .ok (.iconst 0, 1) := by decide +kernel
theorem dX11_road_59 : decode cX11_road 59 = .ok (.iconst 2, 1) := by decide +kernel
theorem dX11_road_60 : decode cX11_road 60 = .ok (.invokevirtual 112, 3) := by decide +kernel
theorem dX11_road_63 : decode cX11_road 63 = .ok (.ifCond .eq 5, 3) := by decide +kernel
theorem dX11_road_66 : decode cX11_road 66 = .ok (.iconst 0, 1) := by decide +kernel
theorem dX11_road_67 : decode cX11_road 67 = .ok (.ireturn, 1) := by decide +kernel
theorem dX11_road_68 : decode cX11_road 68 = .ok (.aload_n 0, 1) := by decide +kernel
theorem dX11_road_69 : decode cX11_road 69 = .ok (.iload_n 1, 1) := by decide +kernel
theorem dX11_road_70 : decode cX11_road 70 = .ok (.iload 4, 2) := by decide +kernel
theorem dX11_road_72 : decode cX11_road 72 = .ok (.ifCond .eq 16, 3) := by decide +kernel
theorem dX11_road_75 : decode cX11_road 75 = .ok (.sipush 248, 3) := by decide +kernel
theorem dX11_road_78 : decode cX11_road 78 = .ok (.bipush 8, 2) := by decide +kernel
theorem dX11_road_80 : decode cX11_road 80 = .ok (.iload_n 3, 1) := by decide +kernel
theorem dX11_road_81 : decode cX11_road 81 = .ok (.imul, 1) := by decide +kernel
theorem dX11_road_82 : decode cX11_road 82 = .ok (.iadd, 1) := by decide +kernel
theorem dX11_road_83 : decode cX11_road 83 = .ok (.iload_n 2, 1) := by decide +kernel
theorem dX11_road_84 : decode cX11_road 84 = .ok (.iadd, 1) := by decide +kernel
theorem dX11_road_85 : decode cX11_road 85 = .ok (.goto 13, 3) := by decide +kernel
theorem dX11_road_88 : decode cX11_road 88 = .ok (.sipush 192, 3) := by decide +kernel
theorem dX11_road_91 : decode cX11_road 91 = .ok (.bipush 7, 2) := by decide +kernel
theorem dX11_road_93 : decode cX11_road 93 = .ok (.iload_n 3, 1) := by decide +kernel
theorem dX11_road_94 : decode cX11_road 94 = .ok (.imul, 1) := by decide +kernel
theorem dX11_road_95 : decode cX11_road 95 = .ok (.iadd, 1) := by decide +kernel
theorem dX11_road_96 : decode cX11_road 96 = .ok (.iload_n 2, 1) := by decide +kernel
theorem dX11_road_97 : decode cX11_road 97 = .ok (.iadd, 1) := by decide +kernel
theorem dX11_road_98 : decode cX11_road 98 = .ok (.iload 5, 2) := by decide +kernel
theorem dX11_road_100 : decode cX11_road 100 = .ok (.ifCond .eq 7, 3) := by decide +kernel
theorem dX11_road_103 : decode cX11_road 103 = .ok (.iconst 1, 1) := by decide +kernel
theorem dX11_road_104 : decode cX11_road 104 = .ok (.goto 4, 3) := by decide +kernel
theorem dX11_road_107 : decode cX11_road 107 = .ok (.iconst 0, 1) := by decide +kernel
theorem dX11_road_108 : decode cX11_road 108 = .ok (.invokevirtual 135, 3) := by decide +kernel
theorem dX11_road_111 : decode cX11_road 111 = .ok (.aload_n 0, 1) := by decide +kernel
theorem dX11_road_112 : decode cX11_road 112 = .ok (.iload_n 1, 1) := by decide +kernel
theorem dX11_road_113 : decode cX11_road 113 = .ok (.invokevirtual 129, 3) := by decide +kernel
theorem dX11_road_116 : decode cX11_road 116 = .ok (.ireturn, 1) := by decide +kernel
theorem dX11_seen_0 : decode cX11_seen 0 = .ok (.aload_n 0, 1) := by decide +kernel
theorem dX11_seen_1 : decode cX11_seen 1 = .ok (.aload_n 0, 1) := by decide +kernel
theorem dX11_seen_2 : decode cX11_seen 2 = .ok (.iload_n 1, 1) := by decide +kernel
theorem dX11_seen_3 : decode cX11_seen 3 = .ok (.invokevirtual 126, 3) := by decide +kernel
theorem dX11_seen_6 : decode cX11_seen 6 = .ok (.iconst 1, 1) := by decide +kernel
theorem dX11_seen_7 : decode cX11_seen 7 = .ok (.invokevirtual 112, 3) := by decide +kernel
theorem dX11_seen_10 : decode cX11_seen 10 = .ok (.ifCond .ne 15, 3) := by decide +kernel
theorem dX11_seen_13 : decode cX11_seen 13 = .ok (.aload_n 0, 1) := by decide +kernel
theorem dX11_seen_14 : decode cX11_seen 14 = .ok (.iload_n 2, 1) := by decide +kernel
theorem dX11_seen_15 : decode cX11_seen 15 = .ok (.invokestatic 139, 3) := by decide +kernel
theorem dX11_seen_18 : decode cX11_seen 18 = .ok (.iconst 2, 1) := by decide +kernel
theorem dX11_seen_19 : decode cX11_seen 19 = .ok (.invokevirtual 112, 3) := by decide +kernel
theorem dX11_seen_22 : decode cX11_seen 22 = .ok (.ifCond .eq 5, 3) := by decide +kernel
theorem dX11_seen_25 : decode cX11_seen 25 = .ok (.iconst 0, 1) := by decide +kernel
theorem dX11_seen_26 : decode cX11_seen 26 = .ok (.ireturn, 1) := by decide +kernel
theorem dX11_seen_27 : decode cX11_seen 27 = .ok (.sipush 304, 3) := by decide +kernel
theorem dX11_seen_30 : decode cX11_seen 30 = .ok (.iload_n 1, 1) := by decide +kernel
theorem dX11_seen_31 : decode cX11_seen 31 = .ok (.imul, 1) := by decide +kernel
theorem dX11_seen_32 : decode cX11_seen 32 = .ok (.iload_n 2, 1) := by decide +kernel
theorem dX11_seen_33 : decode cX11_seen 33 = .ok (.iadd, 1) := by decide +kernel
theorem dX11_seen_34 : decode cX11_seen 34 = .ok (.istore_n 3, 1) := by decide +kernel
theorem dX11_seen_35 : decode cX11_seen 35 = .ok (.aload_n 0, 1) := by decide +kernel
theorem dX11_seen_36 : decode cX11_seen 36 = .ok (.getfield 32, 3) := by decide +kernel
theorem dX11_seen_39 : decode cX11_seen 39 = .ok (.iload_n 3, 1) := by decide +kernel
theorem dX11_seen_40 : decode cX11_seen 40 = .ok (.iaload, 1) := by decide +kernel
theorem dX11_seen_41 : decode cX11_seen 41 = .ok (.ifCond .lt 12, 3) := by decide +kernel
theorem dX11_seen_44 : decode cX11_seen 44 = .ok (.aload_n 0, 1) := by decide +kernel
theorem dX11_seen_45 : decode cX11_seen 45 = .ok (.getfield 32, 3) := by decide +kernel
theorem dX11_seen_48 : decode cX11_seen 48 = .ok (.iload_n 3, 1) := by decide +kernel
theorem dX11_seen_49 : decode cX11_seen 49 = .ok (.iaload, 1) := by decide +kernel
theorem dX11_seen_50 : decode cX11_seen 50 = .ok (.goto 9, 3) := by decide +kernel
theorem dX11_seen_53 : decode cX11_seen 53 = .ok (.aload_n 0, 1) := by decide +kernel
theorem dX11_seen_54 : decode cX11_seen 54 = .ok (.getfield 29, 3) := by decide +kernel
theorem dX11_seen_57 : decode cX11_seen 57 = .ok (.iload_n 3, 1) := by decide +kernel
theorem dX11_seen_58 : decode cX11_seen 58 = .ok (.iaload, 1) := by decide +kernel
theorem dX11_seen_59 : decode cX11_seen 59 = .ok (.ireturn, 1) := by decide +kernel
theorem dX11_edits_0 : decode cX11_edits 0 = .ok (.aload_n 0, 1) := by decide +kernel
theorem dX11_edits_1 : decode cX11_edits 1 = .ok (.aload_n 0, 1) := by decide +kernel
theorem dX11_edits_2 : decode cX11_edits 2 = .ok (.iload_n 1, 1) := by decide +kernel
theorem dX11_edits_3 : decode cX11_edits 3 = .ok (.invokevirtual 126, 3) := by decide +kernel
theorem dX11_edits_6 : decode cX11_edits 6 = .ok (.iconst 1, 1) := by decide +kernel
theorem dX11_edits_7 : decode cX11_edits 7 = .ok (.invokevirtual 112, 3) := by decide +kernel
theorem dX11_edits_10 : decode cX11_edits 10 = .ok (.ifCond .eq 7, 3) := by decide +kernel
theorem dX11_edits_13 : decode cX11_edits 13 = .ok (.iconst 0, 1) := by decide +kernel
theorem dX11_edits_14 : decode cX11_edits 14 = .ok (.goto 8, 3) := by decide +kernel
theorem dX11_edits_17 : decode cX11_edits 17 = .ok (.aload_n 0, 1) := by decide +kernel
theorem dX11_edits_18 : decode cX11_edits 18 = .ok (.iload_n 1, 1) := by decide +kernel
theorem dX11_edits_19 : decode cX11_edits 19 = .ok (.invokevirtual 129, 3) := by decide +kernel
theorem dX11_edits_22 : decode cX11_edits 22 = .ok (.ireturn, 1) := by decide +kernel
theorem dX11_isConflict_0 : decode cX11_isConflict 0 = .ok (.sipush 304, 3) := by decide +kernel
theorem dX11_isConflict_3 : decode cX11_isConflict 3 = .ok (.iload_n 1, 1) := by decide +kernel
theorem dX11_isConflict_4 : decode cX11_isConflict 4 = .ok (.imul, 1) := by decide +kernel
theorem dX11_isConflict_5 : decode cX11_isConflict 5 = .ok (.iload_n 2, 1) := by decide +kernel
theorem dX11_isConflict_6 : decode cX11_isConflict 6 = .ok (.iadd, 1) := by decide +kernel
theorem dX11_isConflict_7 : decode cX11_isConflict 7 = .ok (.istore_n 3, 1) := by decide +kernel
theorem dX11_isConflict_8 : decode cX11_isConflict 8 = .ok (.aload_n 0, 1) := by decide +kernel
theorem dX11_isConflict_9 : decode cX11_isConflict 9 = .ok (.iload_n 2, 1) := by decide +kernel
theorem dX11_isConflict_10 : decode cX11_isConflict 10 = .ok (.invokevirtual 105, 3) := by decide +kernel
theorem dX11_isConflict_13 : decode cX11_isConflict 13 = .ok (.istore 4, 2) := by decide +kernel
theorem dX11_isConflict_15 : decode cX11_isConflict 15 = .ok (.aload_n 0, 1) := by decide +kernel
theorem dX11_isConflict_16 : decode cX11_isConflict 16 = .ok (.getfield 32, 3) := by decide +kernel
theorem dX11_isConflict_19 : decode cX11_isConflict 19 = .ok (.iload_n 3, 1) := by decide +kernel
theorem dX11_isConflict_20 : decode cX11_isConflict 20 = .ok (.iaload, 1) := by decide +kernel
theorem dX11_isConflict_21 : decode cX11_isConflict 21 = .ok (.ifCond .lt 40, 3) := by decide +kernel
theorem dX11_isConflict_24 : decode cX11_isConflict 24 = .ok (.iload 4, 2) := by decide +kernel
theorem dX11_isConflict_26 : decode cX11_isConflict 26 = .ok (.aload_n 0, 1) := by decide +kernel
theorem dX11_isConflict_27 : decode cX11_isConflict 27 = .ok (.getfield 29, 3) := by decide +kernel
theorem dX11_isConflict_30 : decode cX11_isConflict 30 = .ok (.iload_n 3, 1) := by decide +kernel
theorem dX11_isConflict_31 : decode cX11_isConflict 31 = .ok (.iaload, 1) := by decide +kernel
theorem dX11_isConflict_32 : decode cX11_isConflict 32 = .ok (.if_icmp .eq 29, 3) := by decide +kernel
theorem dX11_isConflict_35 : decode cX11_isConflict 35 = .ok (.iload 4, 2) := by decide +kernel
theorem dX11_isConflict_37 : decode cX11_isConflict 37 = .ok (.aload_n 0, 1) := by decide +kernel
theorem dX11_isConflict_38 : decode cX11_isConflict 38 = .ok (.getfield 32, 3) := by decide +kernel
theorem dX11_isConflict_41 : decode cX11_isConflict 41 = .ok (.iload_n 3, 1) := by decide +kernel
theorem dX11_isConflict_42 : decode cX11_isConflict 42 = .ok (.iaload, 1) := by decide +kernel
theorem dX11_isConflict_43 : decode cX11_isConflict 43 = .ok (.if_icmp .eq 18, 3) := by decide +kernel
theorem dX11_isConflict_46 : decode cX11_isConflict 46 = .ok (.iload 4, 2) := by decide +kernel
theorem dX11_isConflict_48 : decode cX11_isConflict 48 = .ok (.aload_n 0, 1) := by decide +kernel
theorem dX11_isConflict_49 : decode cX11_isConflict 49 = .ok (.getfield 35, 3) := by decide +kernel
theorem dX11_isConflict_52 : decode cX11_isConflict 52 = .ok (.iload_n 3, 1) := by decide +kernel
theorem dX11_isConflict_53 : decode cX11_isConflict 53 = .ok (.iaload, 1) := by decide +kernel
theorem dX11_isConflict_54 : decode cX11_isConflict 54 = .ok (.if_icmp .eq 7, 3) := by decide +kernel
theorem dX11_isConflict_57 : decode cX11_isConflict 57 = .ok (.iconst 1, 1) := by decide +kernel
theorem dX11_isConflict_58 : decode cX11_isConflict 58 = .ok (.goto 4, 3) := by decide +kernel
theorem dX11_isConflict_61 : decode cX11_isConflict 61 = .ok (.iconst 0, 1) := by decide +kernel
theorem dX11_isConflict_62 : decode cX11_isConflict 62 = .ok (.ireturn, 1) := by decide +kernel
theorem dX11_conflictsOf_0 : decode cX11_conflictsOf 0 = .ok (.iconst 0, 1) := by decide +kernel
theorem dX11_conflictsOf_1 : decode cX11_conflictsOf 1 = .ok (.istore_n 2, 1) := by decide +kernel
theorem dX11_conflictsOf_2 : decode cX11_conflictsOf 2 = .ok (.iconst 0, 1) := by decide +kernel
theorem dX11_conflictsOf_3 : decode cX11_conflictsOf 3 = .ok (.istore_n 3, 1) := by decide +kernel
theorem dX11_conflictsOf_4 : decode cX11_conflictsOf 4 = .ok (.iload_n 3, 1) := by decide +kernel
theorem dX11_conflictsOf_5 : decode cX11_conflictsOf 5 = .ok (.sipush 304, 3) := by decide +kernel
theorem dX11_conflictsOf_8 : decode cX11_conflictsOf 8 = .ok (.if_icmp .ge 26, 3) := by decide +kernel
theorem dX11_conflictsOf_11 : decode cX11_conflictsOf 11 = .ok (.iload_n 2, 1) := by decide +kernel
theorem dX11_conflictsOf_12 : decode cX11_conflictsOf 12 = .ok (.aload_n 0, 1) := by decide +kernel
theorem dX11_conflictsOf_13 : decode cX11_conflictsOf 13 = .ok (.iload_n 1, 1) := by decide +kernel
theorem dX11_conflictsOf_14 : decode cX11_conflictsOf 14 = .ok (.iload_n 3, 1) := by decide +kernel
theorem dX11_conflictsOf_15 : decode cX11_conflictsOf 15 = .ok (.invokevirtual 142, 3) := by decide +kernel
theorem dX11_conflictsOf_18 : decode cX11_conflictsOf 18 = .ok (.ifCond .eq 7, 3) := by decide +kernel
theorem dX11_conflictsOf_21 : decode cX11_conflictsOf 21 = .ok (.iconst 1, 1) := by decide +kernel
theorem dX11_conflictsOf_22 : decode cX11_conflictsOf 22 = .ok (.goto 4, 3) := by decide +kernel
theorem dX11_conflictsOf_25 : decode cX11_conflictsOf 25 = .ok (.iconst 0, 1) := by decide +kernel
theorem dX11_conflictsOf_26 : decode cX11_conflictsOf 26 = .ok (.iadd, 1) := by decide +kernel
theorem dX11_conflictsOf_27 : decode cX11_conflictsOf 27 = .ok (.istore_n 2, 1) := by decide +kernel
theorem dX11_conflictsOf_28 : decode cX11_conflictsOf 28 = .ok (.iinc 3 1, 3) := by decide +kernel
theorem dX11_conflictsOf_31 : decode cX11_conflictsOf 31 = .ok (.goto (-27), 3) := by decide +kernel
theorem dX11_conflictsOf_34 : decode cX11_conflictsOf 34 = .ok (.iload_n 2, 1) := by decide +kernel
theorem dX11_conflictsOf_35 : decode cX11_conflictsOf 35 = .ok (.ireturn, 1) := by decide +kernel
theorem dX11_conflicts_0 : decode cX11_conflicts 0 = .ok (.aload_n 0, 1) := by decide +kernel
theorem dX11_conflicts_1 : decode cX11_conflicts 1 = .ok (.aload_n 0, 1) := by decide +kernel
theorem dX11_conflicts_2 : decode cX11_conflicts 2 = .ok (.iload_n 1, 1) := by decide +kernel
theorem dX11_conflicts_3 : decode cX11_conflicts 3 = .ok (.invokevirtual 126, 3) := by decide +kernel
theorem dX11_conflicts_6 : decode cX11_conflicts 6 = .ok (.iconst 1, 1) := by decide +kernel
theorem dX11_conflicts_7 : decode cX11_conflicts 7 = .ok (.invokevirtual 112, 3) := by decide +kernel
theorem dX11_conflicts_10 : decode cX11_conflicts 10 = .ok (.ifCond .eq 7, 3) := by decide +kernel
theorem dX11_conflicts_13 : decode cX11_conflicts 13 = .ok (.iconst 0, 1) := by decide +kernel
theorem dX11_conflicts_14 : decode cX11_conflicts 14 = .ok (.goto 8, 3) := by decide +kernel
theorem dX11_conflicts_17 : decode cX11_conflicts 17 = .ok (.aload_n 0, 1) := by decide +kernel
theorem dX11_conflicts_18 : decode cX11_conflicts 18 = .ok (.iload_n 1, 1) := by decide +kernel
theorem dX11_conflicts_19 : decode cX11_conflicts 19 = .ok (.invokevirtual 145, 3) := by decide +kernel
theorem dX11_conflicts_22 : decode cX11_conflicts 22 = .ok (.ireturn, 1) := by decide +kernel
theorem dX11_conflict_0 : decode cX11_conflict 0 = .ok (.aload_n 0, 1) := by decide +kernel
theorem dX11_conflict_1 : decode cX11_conflict 1 = .ok (.aload_n 0, 1) := by decide +kernel
theorem dX11_conflict_2 : decode cX11_conflict 2 = .ok (.iload_n 1, 1) := by decide +kernel
theorem dX11_conflict_3 : decode cX11_conflict 3 = .ok (.invokevirtual 126, 3) := by decide +kernel
theorem dX11_conflict_6 : decode cX11_conflict 6 = .ok (.iconst 1, 1) := by decide +kernel
theorem dX11_conflict_7 : decode cX11_conflict 7 = .ok (.invokevirtual 112, 3) := by decide +kernel
theorem dX11_conflict_10 : decode cX11_conflict 10 = .ok (.ifCond .ne 23, 3) := by decide +kernel
theorem dX11_conflict_13 : decode cX11_conflict 13 = .ok (.aload_n 0, 1) := by decide +kernel
theorem dX11_conflict_14 : decode cX11_conflict 14 = .ok (.iload_n 2, 1) := by decide +kernel
theorem dX11_conflict_15 : decode cX11_conflict 15 = .ok (.iconst 0, 1) := by decide +kernel
theorem dX11_conflict_16 : decode cX11_conflict 16 = .ok (.aload_n 0, 1) := by decide +kernel
theorem dX11_conflict_17 : decode cX11_conflict 17 = .ok (.iload_n 1, 1) := by decide +kernel
theorem dX11_conflict_18 : decode cX11_conflict 18 = .ok (.invokevirtual 145, 3) := by decide +kernel
theorem dX11_conflict_21 : decode cX11_conflict 21 = .ok (.iconst 1, 1) := by decide +kernel
theorem dX11_conflict_22 : decode cX11_conflict 22 = .ok (.isub, 1) := by decide +kernel
theorem dX11_conflict_23 : decode cX11_conflict 23 = .ok (.invokestatic 75, 3) := by decide +kernel
theorem dX11_conflict_26 : decode cX11_conflict 26 = .ok (.iconst 2, 1) := by decide +kernel
theorem dX11_conflict_27 : decode cX11_conflict 27 = .ok (.invokevirtual 112, 3) := by decide +kernel
theorem dX11_conflict_30 : decode cX11_conflict 30 = .ok (.ifCond .eq 5, 3) := by decide +kernel
theorem dX11_conflict_33 : decode cX11_conflict 33 = .ok (.iconst 0, 1) := by decide +kernel
theorem dX11_conflict_34 : decode cX11_conflict 34 = .ok (.ireturn, 1) := by decide +kernel
theorem dX11_conflict_35 : decode cX11_conflict 35 = .ok (.iload_n 2, 1) := by decide +kernel
theorem dX11_conflict_36 : decode cX11_conflict 36 = .ok (.istore_n 3, 1) := by decide +kernel
theorem dX11_conflict_37 : decode cX11_conflict 37 = .ok (.iconst 0, 1) := by decide +kernel
theorem dX11_conflict_38 : decode cX11_conflict 38 = .ok (.istore 4, 2) := by decide +kernel
theorem dX11_conflict_40 : decode cX11_conflict 40 = .ok (.aload_n 0, 1) := by decide +kernel
theorem dX11_conflict_41 : decode cX11_conflict 41 = .ok (.iload_n 1, 1) := by decide +kernel
theorem dX11_conflict_42 : decode cX11_conflict 42 = .ok (.iload 4, 2) := by decide +kernel
theorem dX11_conflict_44 : decode cX11_conflict 44 = .ok (.invokevirtual 142, 3) := by decide +kernel
theorem dX11_conflict_47 : decode cX11_conflict 47 = .ok (.ifCond .eq 7, 3) := by decide +kernel
theorem dX11_conflict_50 : decode cX11_conflict 50 = .ok (.iload_n 3, 1) := by decide +kernel
theorem dX11_conflict_51 : decode cX11_conflict 51 = .ok (.ifCond .le 27, 3) := by decide +kernel
theorem dX11_conflict_54 : decode cX11_conflict 54 = .ok (.iload_n 3, 1) := by decide +kernel
theorem dX11_conflict_55 : decode cX11_conflict 55 = .ok (.aload_n 0, 1) := by decide +kernel
theorem dX11_conflict_56 : decode cX11_conflict 56 = .ok (.iload_n 1, 1) := by decide +kernel
theorem dX11_conflict_57 : decode cX11_conflict 57 = .ok (.iload 4, 2) := by decide +kernel
theorem dX11_conflict_59 : decode cX11_conflict 59 = .ok (.invokevirtual 142, 3) := by decide +kernel
theorem dX11_conflict_62 : decode cX11_conflict 62 = .ok (.ifCond .eq 7, 3) := by decide +kernel
theorem dX11_conflict_65 : decode cX11_conflict 65 = .ok (.iconst 1, 1) := by decide +kernel
theorem dX11_conflict_66 : decode cX11_conflict 66 = .ok (.goto 4, 3) := by decide +kernel
theorem dX11_conflict_69 : decode cX11_conflict 69 = .ok (.iconst 0, 1) := by decide +kernel
theorem dX11_conflict_70 : decode cX11_conflict 70 = .ok (.isub, 1) := by decide +kernel
theorem dX11_conflict_71 : decode cX11_conflict 71 = .ok (.istore_n 3, 1) := by decide +kernel
theorem dX11_conflict_72 : decode cX11_conflict 72 = .ok (.iinc 4 1, 3) := by decide +kernel
theorem dX11_conflict_75 : decode cX11_conflict 75 = .ok (.goto (-35), 3) := by decide +kernel
theorem dX11_conflict_78 : decode cX11_conflict 78 = .ok (.iload 4, 2) := by decide +kernel
theorem dX11_conflict_80 : decode cX11_conflict 80 = .ok (.ireturn, 1) := by decide +kernel
theorem dX11_settle_0 : decode cX11_settle 0 = .ok (.aload_n 0, 1) := by decide +kernel
theorem dX11_settle_1 : decode cX11_settle 1 = .ok (.aload_n 0, 1) := by decide +kernel
theorem dX11_settle_2 : decode cX11_settle 2 = .ok (.iload_n 1, 1) := by decide +kernel
theorem dX11_settle_3 : decode cX11_settle 3 = .ok (.invokevirtual 126, 3) := by decide +kernel
theorem dX11_settle_6 : decode cX11_settle 6 = .ok (.iconst 1, 1) := by decide +kernel
theorem dX11_settle_7 : decode cX11_settle 7 = .ok (.invokevirtual 112, 3) := by decide +kernel
theorem dX11_settle_10 : decode cX11_settle 10 = .ok (.ifCond .ne 29, 3) := by decide +kernel
theorem dX11_settle_13 : decode cX11_settle 13 = .ok (.aload_n 0, 1) := by decide +kernel
theorem dX11_settle_14 : decode cX11_settle 14 = .ok (.iload_n 2, 1) := by decide +kernel
theorem dX11_settle_15 : decode cX11_settle 15 = .ok (.invokestatic 139, 3) := by decide +kernel
theorem dX11_settle_18 : decode cX11_settle 18 = .ok (.iconst 2, 1) := by decide +kernel
theorem dX11_settle_19 : decode cX11_settle 19 = .ok (.invokevirtual 112, 3) := by decide +kernel
theorem dX11_settle_22 : decode cX11_settle 22 = .ok (.ifCond .ne 17, 3) := by decide +kernel
theorem dX11_settle_25 : decode cX11_settle 25 = .ok (.aload_n 0, 1) := by decide +kernel
theorem dX11_settle_26 : decode cX11_settle 26 = .ok (.aload_n 0, 1) := by decide +kernel
theorem dX11_settle_27 : decode cX11_settle 27 = .ok (.iload_n 1, 1) := by decide +kernel
theorem dX11_settle_28 : decode cX11_settle 28 = .ok (.iload_n 2, 1) := by decide +kernel
theorem dX11_settle_29 : decode cX11_settle 29 = .ok (.invokevirtual 142, 3) := by decide +kernel
theorem dX11_settle_32 : decode cX11_settle 32 = .ok (.iconst 3, 1) := by decide +kernel
theorem dX11_settle_33 : decode cX11_settle 33 = .ok (.invokevirtual 112, 3) := by decide +kernel
theorem dX11_settle_36 : decode cX11_settle 36 = .ok (.ifCond .eq 5, 3) := by decide +kernel
theorem dX11_settle_39 : decode cX11_settle 39 = .ok (.iconst 0, 1) := by decide +kernel
theorem dX11_settle_40 : decode cX11_settle 40 = .ok (.ireturn, 1) := by decide +kernel
theorem dX11_settle_41 : decode cX11_settle 41 = .ok (.sipush 304, 3) := by decide +kernel
theorem dX11_settle_44 : decode cX11_settle 44 = .ok (.iload_n 1, 1) := by decide +kernel
theorem dX11_settle_45 : decode cX11_settle 45 = .ok (.imul, 1) := by decide +kernel
theorem dX11_settle_46 : decode cX11_settle 46 = .ok (.iload_n 2, 1) := by decide +kernel
theorem dX11_settle_47 : decode cX11_settle 47 = .ok (.iadd, 1) := by decide +kernel
theorem dX11_settle_48 : decode cX11_settle 48 = .ok (.istore 4, 2) := by decide +kernel
theorem dX11_settle_50 : decode cX11_settle 50 = .ok (.iload_n 3, 1) := by decide +kernel
theorem dX11_settle_51 : decode cX11_settle 51 = .ok (.ifCond .eq 18, 3) := by decide +kernel
theorem dX11_settle_54 : decode cX11_settle 54 = .ok (.aload_n 0, 1) := by decide +kernel
theorem dX11_settle_55 : decode cX11_settle 55 = .ok (.getfield 35, 3) := by decide +kernel
theorem dX11_settle_58 : decode cX11_settle 58 = .ok (.iload 4, 2) := by decide +kernel
theorem dX11_settle_60 : decode cX11_settle 60 = .ok (.aload_n 0, 1) := by decide +kernel
theorem dX11_settle_61 : decode cX11_settle 61 = .ok (.iload_n 2, 1) := by decide +kernel
theorem dX11_settle_62 : decode cX11_settle 62 = .ok (.invokevirtual 105, 3) := by decide +kernel
theorem dX11_settle_65 : decode cX11_settle 65 = .ok (.iastore, 1) := by decide +kernel
theorem dX11_settle_66 : decode cX11_settle 66 = .ok (.goto 16, 3) := by decide +kernel
theorem dX11_settle_69 : decode cX11_settle 69 = .ok (.aload_n 0, 1) := by decide +kernel
theorem dX11_settle_70 : decode cX11_settle 70 = .ok (.iload_n 1, 1) := by decide +kernel
theorem dX11_settle_71 : decode cX11_settle 71 = .ok (.iload_n 2, 1) := by decide +kernel
theorem dX11_settle_72 : decode cX11_settle 72 = .ok (.aload_n 0, 1) := by decide +kernel
theorem dX11_settle_73 : decode cX11_settle 73 = .ok (.getfield 29, 3) := by decide +kernel
theorem dX11_settle_76 : decode cX11_settle 76 = .ok (.iload 4, 2) := by decide +kernel
theorem dX11_settle_78 : decode cX11_settle 78 = .ok (.iaload, 1) := by decide +kernel
theorem dX11_settle_79 : decode cX11_settle 79 = .ok (.invokevirtual 135, 3) := by decide +kernel
theorem dX11_settle_82 : decode cX11_settle 82 = .ok (.aload_n 0, 1) := by decide +kernel
theorem dX11_settle_83 : decode cX11_settle 83 = .ok (.iload_n 1, 1) := by decide +kernel
theorem dX11_settle_84 : decode cX11_settle 84 = .ok (.invokevirtual 145, 3) := by decide +kernel
theorem dX11_settle_87 : decode cX11_settle 87 = .ok (.ireturn, 1) := by decide +kernel
theorem dX11_bring_0 : decode cX11_bring 0 = .ok (.iconst 0, 1) := by decide +kernel
theorem dX11_bring_1 : decode cX11_bring 1 = .ok (.istore_n 2, 1) := by decide +kernel
theorem dX11_bring_2 : decode cX11_bring 2 = .ok (.iload_n 2, 1) := by decide +kernel
theorem dX11_bring_3 : decode cX11_bring 3 = .ok (.sipush 304, 3) := by decide +kernel
theorem dX11_bring_6 : decode cX11_bring 6 = .ok (.if_icmp .ge 46, 3) := by decide +kernel
theorem dX11_bring_9 : decode cX11_bring 9 = .ok (.sipush 304, 3) := by decide +kernel
theorem dX11_bring_12 : decode cX11_bring 12 = .ok (.iload_n 1, 1) := by decide +kernel
theorem dX11_bring_13 : decode cX11_bring 13 = .ok (.imul, 1) := by decide +kernel
theorem dX11_bring_14 : decode cX11_bring 14 = .ok (.iload_n 2, 1) := by decide +kernel
theorem dX11_bring_15 : decode cX11_bring 15 = .ok (.iadd, 1) := by decide +kernel
theorem dX11_bring_16 : decode cX11_bring 16 = .ok (.istore_n 3, 1) := by decide +kernel
theorem dX11_bring_17 : decode cX11_bring 17 = .ok (.aload_n 0, 1) := by decide +kernel
theorem dX11_bring_18 : decode cX11_bring 18 = .ok (.getfield 13, 3) := by decide +kernel
theorem dX11_bring_21 : decode cX11_bring 21 = .ok (.iload_n 2, 1) := by decide +kernel
theorem dX11_bring_22 : decode cX11_bring 22 = .ok (.aload_n 0, 1) := by decide +kernel
theorem dX11_bring_23 : decode cX11_bring 23 = .ok (.getfield 32, 3) := by decide +kernel
theorem dX11_bring_26 : decode cX11_bring 26 = .ok (.iload_n 3, 1) := by decide +kernel
theorem dX11_bring_27 : decode cX11_bring 27 = .ok (.iaload, 1) := by decide +kernel
theorem dX11_bring_28 : decode cX11_bring 28 = .ok (.ifCond .lt 12, 3) := by decide +kernel
theorem dX11_bring_31 : decode cX11_bring 31 = .ok (.aload_n 0, 1) := by decide +kernel
theorem dX11_bring_32 : decode cX11_bring 32 = .ok (.getfield 32, 3) := by decide +kernel
theorem dX11_bring_35 : decode cX11_bring 35 = .ok (.iload_n 3, 1) := by decide +kernel
theorem dX11_bring_36 : decode cX11_bring 36 = .ok (.iaload, 1) := by decide +kernel
theorem dX11_bring_37 : decode cX11_bring 37 = .ok (.goto 8, 3) := by decide +kernel
theorem dX11_bring_40 : decode cX11_bring 40 = .ok (.aload_n 0, 1) := by decide +kernel
theorem dX11_bring_41 : decode cX11_bring 41 = .ok (.iload_n 2, 1) := by decide +kernel
theorem dX11_bring_42 : decode cX11_bring 42 = .ok (.invokevirtual 105, 3) := by decide +kernel
theorem dX11_bring_45 : decode cX11_bring 45 = .ok (.iastore, 1) := by decide +kernel
theorem dX11_bring_46 : decode cX11_bring 46 = .ok (.iinc 2 1, 3) := by decide +kernel
theorem dX11_bring_49 : decode cX11_bring 49 = .ok (.goto (-47), 3) := by decide +kernel
theorem dX11_bring_52 : decode cX11_bring 52 = .ok (.return_, 1) := by decide +kernel
theorem dX11_breaks_0 : decode cX11_breaks 0 = .ok (.aload_n 0, 1) := by decide +kernel
theorem dX11_breaks_1 : decode cX11_breaks 1 = .ok (.aload_n 0, 1) := by decide +kernel
theorem dX11_breaks_2 : decode cX11_breaks 2 = .ok (.iload_n 1, 1) := by decide +kernel
theorem dX11_breaks_3 : decode cX11_breaks 3 = .ok (.invokevirtual 126, 3) := by decide +kernel
theorem dX11_breaks_6 : decode cX11_breaks 6 = .ok (.iconst 1, 1) := by decide +kernel
theorem dX11_breaks_7 : decode cX11_breaks 7 = .ok (.invokevirtual 112, 3) := by decide +kernel
theorem dX11_breaks_10 : decode cX11_breaks 10 = .ok (.ifCond .eq 5, 3) := by decide +kernel
theorem dX11_breaks_13 : decode cX11_breaks 13 = .ok (.iconst 0, 1) := by decide +kernel
theorem dX11_breaks_14 : decode cX11_breaks 14 = .ok (.ireturn, 1) := by decide +kernel
theorem dX11_breaks_15 : decode cX11_breaks 15 = .ok (.aload_n 0, 1) := by decide +kernel
theorem dX11_breaks_16 : decode cX11_breaks 16 = .ok (.iload_n 1, 1) := by decide +kernel
theorem dX11_breaks_17 : decode cX11_breaks 17 = .ok (.invokevirtual 148, 3) := by decide +kernel
theorem dX11_breaks_20 : decode cX11_breaks 20 = .ok (.aload_n 0, 1) := by decide +kernel
theorem dX11_breaks_21 : decode cX11_breaks 21 = .ok (.invokevirtual 152, 3) := by decide +kernel
theorem dX11_breaks_24 : decode cX11_breaks 24 = .ok (.ireturn, 1) := by decide +kernel
theorem dX11_unlike_0 : decode cX11_unlike 0 = .ok (.iconst 0, 1) := by decide +kernel
theorem dX11_unlike_1 : decode cX11_unlike 1 = .ok (.istore_n 1, 1) := by decide +kernel
theorem dX11_unlike_2 : decode cX11_unlike 2 = .ok (.iconst 0, 1) := by decide +kernel
theorem dX11_unlike_3 : decode cX11_unlike 3 = .ok (.istore_n 2, 1) := by decide +kernel
theorem dX11_unlike_4 : decode cX11_unlike 4 = .ok (.iload_n 2, 1) := by decide +kernel
theorem dX11_unlike_5 : decode cX11_unlike 5 = .ok (.sipush 304, 3) := by decide +kernel
theorem dX11_unlike_8 : decode cX11_unlike 8 = .ok (.if_icmp .ge 31, 3) := by decide +kernel
theorem dX11_unlike_11 : decode cX11_unlike 11 = .ok (.iload_n 1, 1) := by decide +kernel
theorem dX11_unlike_12 : decode cX11_unlike 12 = .ok (.aload_n 0, 1) := by decide +kernel
theorem dX11_unlike_13 : decode cX11_unlike 13 = .ok (.getfield 13, 3) := by decide +kernel
theorem dX11_unlike_16 : decode cX11_unlike 16 = .ok (.iload_n 2, 1) := by decide +kernel
theorem dX11_unlike_17 : decode cX11_unlike 17 = .ok (.iaload, 1) := by decide +kernel
theorem dX11_unlike_18 : decode cX11_unlike 18 = .ok (.aload_n 0, 1) := by decide +kernel
theorem dX11_unlike_19 : decode cX11_unlike 19 = .ok (.iload_n 2, 1) := by decide +kernel
theorem dX11_unlike_20 : decode cX11_unlike 20 = .ok (.invokevirtual 105, 3) := by decide +kernel
theorem dX11_unlike_23 : decode cX11_unlike 23 = .ok (.if_icmp .eq 7, 3) := by decide +kernel
theorem dX11_unlike_26 : decode cX11_unlike 26 = .ok (.iconst 1, 1) := by decide +kernel
theorem dX11_unlike_27 : decode cX11_unlike 27 = .ok (.goto 4, 3) := by decide +kernel
theorem dX11_unlike_30 : decode cX11_unlike 30 = .ok (.iconst 0, 1) := by decide +kernel
theorem dX11_unlike_31 : decode cX11_unlike 31 = .ok (.iadd, 1) := by decide +kernel
theorem dX11_unlike_32 : decode cX11_unlike 32 = .ok (.istore_n 1, 1) := by decide +kernel
theorem dX11_unlike_33 : decode cX11_unlike 33 = .ok (.iinc 2 1, 3) := by decide +kernel
theorem dX11_unlike_36 : decode cX11_unlike 36 = .ok (.goto (-32), 3) := by decide +kernel
theorem dX11_unlike_39 : decode cX11_unlike 39 = .ok (.iload_n 1, 1) := by decide +kernel
theorem dX11_unlike_40 : decode cX11_unlike 40 = .ok (.ireturn, 1) := by decide +kernel
theorem dX11_size_0 : decode cX11_size 0 = .ok (.iload_n 0, 1) := by decide +kernel
theorem dX11_size_1 : decode cX11_size 1 = .ok (.ifCond .ne 7, 3) := by decide +kernel
theorem dX11_size_4 : decode cX11_size 4 = .ok (.iconst 1, 1) := by decide +kernel
theorem dX11_size_5 : decode cX11_size 5 = .ok (.goto 23, 3) := by decide +kernel
theorem dX11_size_8 : decode cX11_size 8 = .ok (.iload_n 0, 1) := by decide +kernel
theorem dX11_size_9 : decode cX11_size 9 = .ok (.iconst 1, 1) := by decide +kernel
theorem dX11_size_10 : decode cX11_size 10 = .ok (.if_icmp .ne 7, 3) := by decide +kernel
theorem dX11_size_13 : decode cX11_size 13 = .ok (.iconst 2, 1) := by decide +kernel
theorem dX11_size_14 : decode cX11_size 14 = .ok (.goto 14, 3) := by decide +kernel
theorem dX11_size_17 : decode cX11_size 17 = .ok (.iload_n 0, 1) := by decide +kernel
theorem dX11_size_18 : decode cX11_size 18 = .ok (.iconst 2, 1) := by decide +kernel
theorem dX11_size_19 : decode cX11_size 19 = .ok (.if_icmp .ne 7, 3) := by decide +kernel
theorem dX11_size_22 : decode cX11_size 22 = .ok (.iconst 4, 1) := by decide +kernel
theorem dX11_size_23 : decode cX11_size 23 = .ok (.goto 5, 3) := by decide +kernel
theorem dX11_size_26 : decode cX11_size 26 = .ok (.bipush 8, 2) := by decide +kernel
theorem dX11_size_28 : decode cX11_size 28 = .ok (.ireturn, 1) := by decide +kernel
theorem dX11_become_0 : decode cX11_become 0 = .ok (.iconst 0, 1) := by decide +kernel
theorem dX11_become_1 : decode cX11_become 1 = .ok (.istore_n 1, 1) := by decide +kernel
theorem dX11_become_2 : decode cX11_become 2 = .ok (.iload_n 1, 1) := by decide +kernel
theorem dX11_become_3 : decode cX11_become 3 = .ok (.sipush 192, 3) := by decide +kernel
theorem dX11_become_6 : decode cX11_become 6 = .ok (.if_icmp .ge 83, 3) := by decide +kernel
theorem dX11_become_9 : decode cX11_become 9 = .ok (.iconst 0, 1) := by decide +kernel
theorem dX11_become_10 : decode cX11_become 10 = .ok (.istore_n 2, 1) := by decide +kernel
theorem dX11_become_11 : decode cX11_become 11 = .ok (.iload_n 2, 1) := by decide +kernel
theorem dX11_become_12 : decode cX11_become 12 = .ok (.iconst 4, 1) := by decide +kernel
theorem dX11_become_13 : decode cX11_become 13 = .ok (.if_icmp .ge 70, 3) := by decide +kernel
theorem dX11_become_16 : decode cX11_become 16 = .ok (.aload_n 0, 1) := by decide +kernel
theorem dX11_become_17 : decode cX11_become 17 = .ok (.getfield 13, 3) := by decide +kernel
theorem dX11_become_20 : decode cX11_become 20 = .ok (.iload_n 1, 1) := by decide +kernel
theorem dX11_become_21 : decode cX11_become 21 = .ok (.iaload, 1) := by decide +kernel
theorem dX11_become_22 : decode cX11_become 22 = .ok (.aload_n 0, 1) := by decide +kernel
theorem dX11_become_23 : decode cX11_become 23 = .ok (.iload_n 1, 1) := by decide +kernel
theorem dX11_become_24 : decode cX11_become 24 = .ok (.invokevirtual 105, 3) := by decide +kernel
theorem dX11_become_27 : decode cX11_become 27 = .ok (.if_icmp .eq 56, 3) := by decide +kernel
theorem dX11_become_30 : decode cX11_become 30 = .ok (.iload_n 1, 1) := by decide +kernel
theorem dX11_become_31 : decode cX11_become 31 = .ok (.bipush 64, 2) := by decide +kernel
theorem dX11_become_33 : decode cX11_become 33 = .ok (.irem, 1) := by decide +kernel
theorem dX11_become_34 : decode cX11_become 34 = .ok (.bipush 8, 2) := by decide +kernel
theorem dX11_become_36 : decode cX11_become 36 = .ok (.idiv, 1) := by decide +kernel
theorem dX11_become_37 : decode cX11_become 37 = .ok (.iload_n 2, 1) := by decide +kernel
theorem dX11_become_38 : decode cX11_become 38 = .ok (.invokestatic 156, 3) := by decide +kernel
theorem dX11_become_41 : decode cX11_become 41 = .ok (.idiv, 1) := by decide +kernel
theorem dX11_become_42 : decode cX11_become 42 = .ok (.istore_n 3, 1) := by decide +kernel
theorem dX11_become_43 : decode cX11_become 43 = .ok (.aload_n 0, 1) := by decide +kernel
theorem dX11_become_44 : decode cX11_become 44 = .ok (.getfield 44, 3) := by decide +kernel
theorem dX11_become_47 : decode cX11_become 47 = .ok (.sipush 192, 3) := by decide +kernel
theorem dX11_become_50 : decode cX11_become 50 = .ok (.iload_n 2, 1) := by decide +kernel
theorem dX11_become_51 : decode cX11_become 51 = .ok (.imul, 1) := by decide +kernel
theorem dX11_become_52 : decode cX11_become 52 = .ok (.bipush 64, 2) := by decide +kernel
theorem dX11_become_54 : decode cX11_become 54 = .ok (.iload_n 1, 1) := by decide +kernel
theorem dX11_become_55 : decode cX11_become 55 = .ok (.bipush 64, 2) := by decide +kernel
theorem dX11_become_57 : decode cX11_become 57 = .ok (.idiv, 1) := by decide +kernel
theorem dX11_become_58 : decode cX11_become 58 = .ok (.imul, 1) := by decide +kernel
theorem dX11_become_59 : decode cX11_become 59 = .ok (.iadd, 1) := by decide +kernel
theorem dX11_become_60 : decode cX11_become 60 = .ok (.bipush 8, 2) := by decide +kernel
theorem dX11_become_62 : decode cX11_become 62 = .ok (.iload_n 3, 1) := by decide +kernel
theorem dX11_become_63 : decode cX11_become 63 = .ok (.imul, 1) := by decide +kernel
theorem dX11_become_64 : decode cX11_become 64 = .ok (.iadd, 1) := by decide +kernel
theorem dX11_become_65 : decode cX11_become 65 = .ok (.iload_n 1, 1) := by decide +kernel
theorem dX11_become_66 : decode cX11_become 66 = .ok (.bipush 8, 2) := by decide +kernel
theorem dX11_become_68 : decode cX11_become 68 = .ok (.irem, 1) := by decide +kernel
theorem dX11_become_69 : decode cX11_become 69 = .ok (.iload_n 2, 1) := by decide +kernel
theorem dX11_become_70 : decode cX11_become 70 = .ok (.invokestatic 156, 3) := by decide +kernel
theorem dX11_become_73 : decode cX11_become 73 = .ok (.idiv, 1) := by decide +kernel
theorem dX11_become_74 : decode cX11_become 74 = .ok (.iadd, 1) := by decide +kernel
theorem dX11_become_75 : decode cX11_become 75 = .ok (.iconst (-1), 1) := by decide +kernel
theorem dX11_become_76 : decode cX11_become 76 = .ok (.iastore, 1) := by decide +kernel
theorem dX11_become_77 : decode cX11_become 77 = .ok (.iinc 2 1, 3) := by decide +kernel
theorem dX11_become_80 : decode cX11_become 80 = .ok (.goto (-69), 3) := by decide +kernel
theorem dX11_become_83 : decode cX11_become 83 = .ok (.iinc 1 1, 3) := by decide +kernel
theorem dX11_become_86 : decode cX11_become 86 = .ok (.goto (-84), 3) := by decide +kernel
theorem dX11_become_89 : decode cX11_become 89 = .ok (.aload_n 0, 1) := by decide +kernel
theorem dX11_become_90 : decode cX11_become 90 = .ok (.dup, 1) := by decide +kernel
theorem dX11_become_91 : decode cX11_become 91 = .ok (.getfield 72, 3) := by decide +kernel
theorem dX11_become_94 : decode cX11_become 94 = .ok (.iconst 1, 1) := by decide +kernel
theorem dX11_become_95 : decode cX11_become 95 = .ok (.iadd, 1) := by decide +kernel
theorem dX11_become_96 : decode cX11_become 96 = .ok (.putfield 72, 3) := by decide +kernel
theorem dX11_become_99 : decode cX11_become 99 = .ok (.iconst 0, 1) := by decide +kernel
theorem dX11_become_100 : decode cX11_become 100 = .ok (.istore_n 1, 1) := by decide +kernel
theorem dX11_become_101 : decode cX11_become 101 = .ok (.iload_n 1, 1) := by decide +kernel
theorem dX11_become_102 : decode cX11_become 102 = .ok (.sipush 304, 3) := by decide +kernel
theorem dX11_become_105 : decode cX11_become 105 = .ok (.if_icmp .ge 30, 3) := by decide +kernel
theorem dX11_become_108 : decode cX11_become 108 = .ok (.aload_n 0, 1) := by decide +kernel
theorem dX11_become_109 : decode cX11_become 109 = .ok (.getfield 7, 3) := by decide +kernel
theorem dX11_become_112 : decode cX11_become 112 = .ok (.sipush 304, 3) := by decide +kernel
theorem dX11_become_115 : decode cX11_become 115 = .ok (.aload_n 0, 1) := by decide +kernel
theorem dX11_become_116 : decode cX11_become 116 = .ok (.getfield 72, 3) := by decide +kernel
theorem dX11_become_119 : decode cX11_become 119 = .ok (.imul, 1) := by decide +kernel
theorem dX11_become_120 : decode cX11_become 120 = .ok (.iload_n 1, 1) := by decide +kernel
theorem dX11_become_121 : decode cX11_become 121 = .ok (.iadd, 1) := by decide +kernel
theorem dX11_become_122 : decode cX11_become 122 = .ok (.aload_n 0, 1) := by decide +kernel
theorem dX11_become_123 : decode cX11_become 123 = .ok (.getfield 13, 3) := by decide +kernel
theorem dX11_become_126 : decode cX11_become 126 = .ok (.iload_n 1, 1) := by decide +kernel
theorem dX11_become_127 : decode cX11_become 127 = .ok (.iaload, 1) := by decide +kernel
theorem dX11_become_128 : decode cX11_become 128 = .ok (.iastore, 1) := by decide +kernel
theorem dX11_become_129 : decode cX11_become 129 = .ok (.iinc 1 1, 3) := by decide +kernel
theorem dX11_become_132 : decode cX11_become 132 = .ok (.goto (-31), 3) := by decide +kernel
theorem dX11_become_135 : decode cX11_become 135 = .ok (.return_, 1) := by decide +kernel
theorem dX11_merge_0 : decode cX11_merge 0 = .ok (.aload_n 0, 1) := by decide +kernel
theorem dX11_merge_1 : decode cX11_merge 1 = .ok (.aload_n 0, 1) := by decide +kernel
theorem dX11_merge_2 : decode cX11_merge 2 = .ok (.iload_n 1, 1) := by decide +kernel
theorem dX11_merge_3 : decode cX11_merge 3 = .ok (.invokevirtual 126, 3) := by decide +kernel
theorem dX11_merge_6 : decode cX11_merge 6 = .ok (.iconst 1, 1) := by decide +kernel
theorem dX11_merge_7 : decode cX11_merge 7 = .ok (.invokevirtual 112, 3) := by decide +kernel
theorem dX11_merge_10 : decode cX11_merge 10 = .ok (.ifCond .eq 5, 3) := by decide +kernel
theorem dX11_merge_13 : decode cX11_merge 13 = .ok (.iconst 0, 1) := by decide +kernel
theorem dX11_merge_14 : decode cX11_merge 14 = .ok (.ireturn, 1) := by decide +kernel
theorem dX11_merge_15 : decode cX11_merge 15 = .ok (.aload_n 0, 1) := by decide +kernel
theorem dX11_merge_16 : decode cX11_merge 16 = .ok (.iload_n 1, 1) := by decide +kernel
theorem dX11_merge_17 : decode cX11_merge 17 = .ok (.invokevirtual 148, 3) := by decide +kernel
theorem dX11_merge_20 : decode cX11_merge 20 = .ok (.aload_n 0, 1) := by decide +kernel
theorem dX11_merge_21 : decode cX11_merge 21 = .ok (.invokevirtual 159, 3) := by decide +kernel
theorem dX11_merge_24 : decode cX11_merge 24 = .ok (.istore_n 2, 1) := by decide +kernel
theorem dX11_merge_25 : decode cX11_merge 25 = .ok (.aload_n 0, 1) := by decide +kernel
theorem dX11_merge_26 : decode cX11_merge 26 = .ok (.aload_n 0, 1) := by decide +kernel
theorem dX11_merge_27 : decode cX11_merge 27 = .ok (.iload_n 1, 1) := by decide +kernel
theorem dX11_merge_28 : decode cX11_merge 28 = .ok (.invokevirtual 145, 3) := by decide +kernel
theorem dX11_merge_31 : decode cX11_merge 31 = .ok (.ifCond .ne 14, 3) := by decide +kernel
theorem dX11_merge_34 : decode cX11_merge 34 = .ok (.aload_n 0, 1) := by decide +kernel
theorem dX11_merge_35 : decode cX11_merge 35 = .ok (.invokevirtual 152, 3) := by decide +kernel
theorem dX11_merge_38 : decode cX11_merge 38 = .ok (.ifCond .ge 7, 3) := by decide +kernel
theorem dX11_merge_41 : decode cX11_merge 41 = .ok (.iconst 1, 1) := by decide +kernel
theorem dX11_merge_42 : decode cX11_merge 42 = .ok (.goto 4, 3) := by decide +kernel
theorem dX11_merge_45 : decode cX11_merge 45 = .ok (.iconst 0, 1) := by decide +kernel
theorem dX11_merge_46 : decode cX11_merge 46 = .ok (.iconst 2, 1) := by decide +kernel
theorem dX11_merge_47 : decode cX11_merge 47 = .ok (.invokevirtual 112, 3) := by decide +kernel
theorem dX11_merge_50 : decode cX11_merge 50 = .ok (.ifCond .ne 29, 3) := by decide +kernel
theorem dX11_merge_53 : decode cX11_merge 53 = .ok (.aload_n 0, 1) := by decide +kernel
theorem dX11_merge_54 : decode cX11_merge 54 = .ok (.iload_n 2, 1) := by decide +kernel
theorem dX11_merge_55 : decode cX11_merge 55 = .ok (.ifCond .eq 12, 3) := by decide +kernel
theorem dX11_merge_58 : decode cX11_merge 58 = .ok (.aload_n 0, 1) := by decide +kernel
theorem dX11_merge_59 : decode cX11_merge 59 = .ok (.getfield 72, 3) := by decide +kernel
theorem dX11_merge_62 : decode cX11_merge 62 = .ok (.bipush 40, 2) := by decide +kernel
theorem dX11_merge_64 : decode cX11_merge 64 = .ok (.if_icmp .ge 7, 3) := by decide +kernel
theorem dX11_merge_67 : decode cX11_merge 67 = .ok (.iconst 1, 1) := by decide +kernel
theorem dX11_merge_68 : decode cX11_merge 68 = .ok (.goto 4, 3) := by decide +kernel
theorem dX11_merge_71 : decode cX11_merge 71 = .ok (.iconst 0, 1) := by decide +kernel
theorem dX11_merge_72 : decode cX11_merge 72 = .ok (.iconst 3, 1) := by decide +kernel
theorem dX11_merge_73 : decode cX11_merge 73 = .ok (.invokevirtual 112, 3) := by decide +kernel
theorem dX11_merge_76 : decode cX11_merge 76 = .ok (.ifCond .eq 5, 3) := by decide +kernel
theorem dX11_merge_79 : decode cX11_merge 79 = .ok (.iconst 0, 1) := by decide +kernel
theorem dX11_merge_80 : decode cX11_merge 80 = .ok (.ireturn, 1) := by decide +kernel
theorem dX11_merge_81 : decode cX11_merge 81 = .ok (.aload_n 0, 1) := by decide +kernel
theorem dX11_merge_82 : decode cX11_merge 82 = .ok (.getfield 25, 3) := by decide +kernel
theorem dX11_merge_85 : decode cX11_merge 85 = .ok (.iload_n 1, 1) := by decide +kernel
theorem dX11_merge_86 : decode cX11_merge 86 = .ok (.iconst 0, 1) := by decide +kernel
theorem dX11_merge_87 : decode cX11_merge 87 = .ok (.bastore, 1) := by decide +kernel
theorem dX11_merge_88 : decode cX11_merge 88 = .ok (.iload_n 2, 1) := by decide +kernel
theorem dX11_merge_89 : decode cX11_merge 89 = .ok (.ifCond .le 30, 3) := by decide +kernel
theorem dX11_merge_92 : decode cX11_merge 92 = .ok (.aload_n 0, 1) := by decide +kernel
theorem dX11_merge_93 : decode cX11_merge 93 = .ok (.invokevirtual 162, 3) := by decide +kernel
theorem dX11_merge_96 : decode cX11_merge 96 = .ok (.aload_n 0, 1) := by decide +kernel
theorem dX11_merge_97 : decode cX11_merge 97 = .ok (.getfield 41, 3) := by decide +kernel
theorem dX11_merge_100 : decode cX11_merge 100 = .ok (.aload_n 0, 1) := by decide +kernel
theorem dX11_merge_101 : decode cX11_merge 101 = .ok (.getfield 165, 3) := by decide +kernel
theorem dX11_merge_104 : decode cX11_merge 104 = .ok (.aload_n 0, 1) := by decide +kernel
theorem dX11_merge_105 : decode cX11_merge 105 = .ok (.getfield 72, 3) := by decide +kernel
theorem dX11_merge_108 : decode cX11_merge 108 = .ok (.iastore, 1) := by decide +kernel
theorem dX11_merge_109 : decode cX11_merge 109 = .ok (.aload_n 0, 1) := by decide +kernel
theorem dX11_merge_110 : decode cX11_merge 110 = .ok (.dup, 1) := by decide +kernel
theorem dX11_merge_111 : decode cX11_merge 111 = .ok (.getfield 165, 3) := by decide +kernel
theorem dX11_merge_114 : decode cX11_merge 114 = .ok (.iconst 1, 1) := by decide +kernel
theorem dX11_merge_115 : decode cX11_merge 115 = .ok (.iadd, 1) := by decide +kernel
theorem dX11_merge_116 : decode cX11_merge 116 = .ok (.putfield 165, 3) := by decide +kernel
theorem dX11_merge_119 : decode cX11_merge 119 = .ok (.iload_n 2, 1) := by decide +kernel
theorem dX11_merge_120 : decode cX11_merge 120 = .ok (.ireturn, 1) := by decide +kernel
theorem dX11_undo_0 : decode cX11_undo 0 = .ok (.aload_n 0, 1) := by decide +kernel
theorem dX11_undo_1 : decode cX11_undo 1 = .ok (.aload_n 0, 1) := by decide +kernel
theorem dX11_undo_2 : decode cX11_undo 2 = .ok (.getfield 165, 3) := by decide +kernel
theorem dX11_undo_5 : decode cX11_undo 5 = .ok (.ifCond .le 7, 3) := by decide +kernel
theorem dX11_undo_8 : decode cX11_undo 8 = .ok (.iconst 1, 1) := by decide +kernel
theorem dX11_undo_9 : decode cX11_undo 9 = .ok (.goto 4, 3) := by decide +kernel
theorem dX11_undo_12 : decode cX11_undo 12 = .ok (.iconst 0, 1) := by decide +kernel
theorem dX11_undo_13 : decode cX11_undo 13 = .ok (.iconst 1, 1) := by decide +kernel
theorem dX11_undo_14 : decode cX11_undo 14 = .ok (.invokevirtual 112, 3) := by decide +kernel
theorem dX11_undo_17 : decode cX11_undo 17 = .ok (.ifCond .eq 5, 3) := by decide +kernel
theorem dX11_undo_20 : decode cX11_undo 20 = .ok (.iconst 0, 1) := by decide +kernel
theorem dX11_undo_21 : decode cX11_undo 21 = .ok (.ireturn, 1) := by decide +kernel
theorem dX11_undo_22 : decode cX11_undo 22 = .ok (.aload_n 0, 1) := by decide +kernel
theorem dX11_undo_23 : decode cX11_undo 23 = .ok (.invokevirtual 116, 3) := by decide +kernel
theorem dX11_undo_26 : decode cX11_undo 26 = .ok (.sipush 304, 3) := by decide +kernel
theorem dX11_undo_29 : decode cX11_undo 29 = .ok (.aload_n 0, 1) := by decide +kernel
theorem dX11_undo_30 : decode cX11_undo 30 = .ok (.getfield 41, 3) := by decide +kernel
theorem dX11_undo_33 : decode cX11_undo 33 = .ok (.aload_n 0, 1) := by decide +kernel
theorem dX11_undo_34 : decode cX11_undo 34 = .ok (.getfield 165, 3) := by decide +kernel
theorem dX11_undo_37 : decode cX11_undo 37 = .ok (.iconst 1, 1) := by decide +kernel
theorem dX11_undo_38 : decode cX11_undo 38 = .ok (.isub, 1) := by decide +kernel
theorem dX11_undo_39 : decode cX11_undo 39 = .ok (.iaload, 1) := by decide +kernel
theorem dX11_undo_40 : decode cX11_undo 40 = .ok (.imul, 1) := by decide +kernel
theorem dX11_undo_41 : decode cX11_undo 41 = .ok (.istore_n 1, 1) := by decide +kernel
theorem dX11_undo_42 : decode cX11_undo 42 = .ok (.iconst 0, 1) := by decide +kernel
theorem dX11_undo_43 : decode cX11_undo 43 = .ok (.istore_n 2, 1) := by decide +kernel
theorem dX11_undo_44 : decode cX11_undo 44 = .ok (.iload_n 2, 1) := by decide +kernel
theorem dX11_undo_45 : decode cX11_undo 45 = .ok (.sipush 304, 3) := by decide +kernel
theorem dX11_undo_48 : decode cX11_undo 48 = .ok (.if_icmp .ge 50, 3) := by decide +kernel
theorem dX11_undo_51 : decode cX11_undo 51 = .ok (.aload_n 0, 1) := by decide +kernel
theorem dX11_undo_52 : decode cX11_undo 52 = .ok (.getfield 7, 3) := by decide +kernel
theorem dX11_undo_55 : decode cX11_undo 55 = .ok (.iload_n 1, 1) := by decide +kernel
theorem dX11_undo_56 : decode cX11_undo 56 = .ok (.sipush 304, 3) := by decide +kernel
theorem dX11_undo_59 : decode cX11_undo 59 = .ok (.isub, 1) := by decide +kernel
theorem dX11_undo_60 : decode cX11_undo 60 = .ok (.iload_n 2, 1) := by decide +kernel
theorem dX11_undo_61 : decode cX11_undo 61 = .ok (.iadd, 1) := by decide +kernel
theorem dX11_undo_62 : decode cX11_undo 62 = .ok (.iaload, 1) := by decide +kernel
theorem dX11_undo_63 : decode cX11_undo 63 = .ok (.istore_n 3, 1) := by decide +kernel
theorem dX11_undo_64 : decode cX11_undo 64 = .ok (.aload_n 0, 1) := by decide +kernel
theorem dX11_undo_65 : decode cX11_undo 65 = .ok (.getfield 13, 3) := by decide +kernel
theorem dX11_undo_68 : decode cX11_undo 68 = .ok (.iload_n 2, 1) := by decide +kernel
theorem dX11_undo_69 : decode cX11_undo 69 = .ok (.aload_n 0, 1) := by decide +kernel
theorem dX11_undo_70 : decode cX11_undo 70 = .ok (.getfield 7, 3) := by decide +kernel
theorem dX11_undo_73 : decode cX11_undo 73 = .ok (.iload_n 1, 1) := by decide +kernel
theorem dX11_undo_74 : decode cX11_undo 74 = .ok (.iload_n 2, 1) := by decide +kernel
theorem dX11_undo_75 : decode cX11_undo 75 = .ok (.iadd, 1) := by decide +kernel
theorem dX11_undo_76 : decode cX11_undo 76 = .ok (.iaload, 1) := by decide +kernel
theorem dX11_undo_77 : decode cX11_undo 77 = .ok (.iload_n 3, 1) := by decide +kernel
theorem dX11_undo_78 : decode cX11_undo 78 = .ok (.if_icmp .eq 7, 3) := by decide +kernel
theorem dX11_undo_81 : decode cX11_undo 81 = .ok (.iload_n 3, 1) := by decide +kernel
theorem dX11_undo_82 : decode cX11_undo 82 = .ok (.goto 9, 3) := by decide +kernel
theorem dX11_undo_85 : decode cX11_undo 85 = .ok (.aload_n 0, 1) := by decide +kernel
theorem dX11_undo_86 : decode cX11_undo 86 = .ok (.getfield 13, 3) := by decide +kernel
theorem dX11_undo_89 : decode cX11_undo 89 = .ok (.iload_n 2, 1) := by decide +kernel
theorem dX11_undo_90 : decode cX11_undo 90 = .ok (.iaload, 1) := by decide +kernel
theorem dX11_undo_91 : decode cX11_undo 91 = .ok (.iastore, 1) := by decide +kernel
theorem dX11_undo_92 : decode cX11_undo 92 = .ok (.iinc 2 1, 3) := by decide +kernel
theorem dX11_undo_95 : decode cX11_undo 95 = .ok (.goto (-51), 3) := by decide +kernel
theorem dX11_undo_98 : decode cX11_undo 98 = .ok (.aload_n 0, 1) := by decide +kernel
theorem dX11_undo_99 : decode cX11_undo 99 = .ok (.invokevirtual 159, 3) := by decide +kernel
theorem dX11_undo_102 : decode cX11_undo 102 = .ok (.istore_n 2, 1) := by decide +kernel
theorem dX11_undo_103 : decode cX11_undo 103 = .ok (.aload_n 0, 1) := by decide +kernel
theorem dX11_undo_104 : decode cX11_undo 104 = .ok (.aload_n 0, 1) := by decide +kernel
theorem dX11_undo_105 : decode cX11_undo 105 = .ok (.invokevirtual 152, 3) := by decide +kernel
theorem dX11_undo_108 : decode cX11_undo 108 = .ok (.ifCond .ge 7, 3) := by decide +kernel
theorem dX11_undo_111 : decode cX11_undo 111 = .ok (.iconst 1, 1) := by decide +kernel
theorem dX11_undo_112 : decode cX11_undo 112 = .ok (.goto 4, 3) := by decide +kernel
theorem dX11_undo_115 : decode cX11_undo 115 = .ok (.iconst 0, 1) := by decide +kernel
theorem dX11_undo_116 : decode cX11_undo 116 = .ok (.iconst 2, 1) := by decide +kernel
theorem dX11_undo_117 : decode cX11_undo 117 = .ok (.invokevirtual 112, 3) := by decide +kernel
theorem dX11_undo_120 : decode cX11_undo 120 = .ok (.ifCond .ne 25, 3) := by decide +kernel
theorem dX11_undo_123 : decode cX11_undo 123 = .ok (.aload_n 0, 1) := by decide +kernel
theorem dX11_undo_124 : decode cX11_undo 124 = .ok (.aload_n 0, 1) := by decide +kernel
theorem dX11_undo_125 : decode cX11_undo 125 = .ok (.getfield 72, 3) := by decide +kernel
theorem dX11_undo_128 : decode cX11_undo 128 = .ok (.bipush 40, 2) := by decide +kernel
theorem dX11_undo_130 : decode cX11_undo 130 = .ok (.if_icmp .ge 7, 3) := by decide +kernel
theorem dX11_undo_133 : decode cX11_undo 133 = .ok (.iconst 1, 1) := by decide +kernel
theorem dX11_undo_134 : decode cX11_undo 134 = .ok (.goto 4, 3) := by decide +kernel
theorem dX11_undo_137 : decode cX11_undo 137 = .ok (.iconst 0, 1) := by decide +kernel
theorem dX11_undo_138 : decode cX11_undo 138 = .ok (.iconst 3, 1) := by decide +kernel
theorem dX11_undo_139 : decode cX11_undo 139 = .ok (.invokevirtual 112, 3) := by decide +kernel
theorem dX11_undo_142 : decode cX11_undo 142 = .ok (.ifCond .eq 5, 3) := by decide +kernel
theorem dX11_undo_145 : decode cX11_undo 145 = .ok (.iconst 0, 1) := by decide +kernel
theorem dX11_undo_146 : decode cX11_undo 146 = .ok (.ireturn, 1) := by decide +kernel
theorem dX11_undo_147 : decode cX11_undo 147 = .ok (.aload_n 0, 1) := by decide +kernel
theorem dX11_undo_148 : decode cX11_undo 148 = .ok (.dup, 1) := by decide +kernel
theorem dX11_undo_149 : decode cX11_undo 149 = .ok (.getfield 165, 3) := by decide +kernel
theorem dX11_undo_152 : decode cX11_undo 152 = .ok (.iconst 1, 1) := by decide +kernel
theorem dX11_undo_153 : decode cX11_undo 153 = .ok (.isub, 1) := by decide +kernel
theorem dX11_undo_154 : decode cX11_undo 154 = .ok (.putfield 165, 3) := by decide +kernel
theorem dX11_undo_157 : decode cX11_undo 157 = .ok (.aload_n 0, 1) := by decide +kernel
theorem dX11_undo_158 : decode cX11_undo 158 = .ok (.invokevirtual 162, 3) := by decide +kernel
theorem dX11_undo_161 : decode cX11_undo 161 = .ok (.iload_n 2, 1) := by decide +kernel
theorem dX11_undo_162 : decode cX11_undo 162 = .ok (.ireturn, 1) := by decide +kernel
theorem dX11_version_0 : decode cX11_version 0 = .ok (.aload_n 0, 1) := by decide +kernel
theorem dX11_version_1 : decode cX11_version 1 = .ok (.getfield 72, 3) := by decide +kernel
theorem dX11_version_4 : decode cX11_version 4 = .ok (.ireturn, 1) := by decide +kernel
theorem dX11_value_0 : decode cX11_value 0 = .ok (.aload_n 0, 1) := by decide +kernel
theorem dX11_value_1 : decode cX11_value 1 = .ok (.iload_n 1, 1) := by decide +kernel
theorem dX11_value_2 : decode cX11_value 2 = .ok (.invokestatic 139, 3) := by decide +kernel
theorem dX11_value_5 : decode cX11_value 5 = .ok (.ifCond .eq 19, 3) := by decide +kernel
theorem dX11_value_8 : decode cX11_value 8 = .ok (.iload_n 2, 1) := by decide +kernel
theorem dX11_value_9 : decode cX11_value 9 = .ok (.iconst 0, 1) := by decide +kernel
theorem dX11_value_10 : decode cX11_value 10 = .ok (.aload_n 0, 1) := by decide +kernel
theorem dX11_value_11 : decode cX11_value 11 = .ok (.getfield 72, 3) := by decide +kernel
theorem dX11_value_14 : decode cX11_value 14 = .ok (.invokestatic 75, 3) := by decide +kernel
theorem dX11_value_17 : decode cX11_value 17 = .ok (.ifCond .eq 7, 3) := by decide +kernel
theorem dX11_value_20 : decode cX11_value 20 = .ok (.iconst 1, 1) := by decide +kernel
theorem dX11_value_21 : decode cX11_value 21 = .ok (.goto 4, 3) := by decide +kernel
theorem dX11_value_24 : decode cX11_value 24 = .ok (.iconst 0, 1) := by decide +kernel
theorem dX11_value_25 : decode cX11_value 25 = .ok (.iconst 1, 1) := by decide +kernel
theorem dX11_value_26 : decode cX11_value 26 = .ok (.invokevirtual 112, 3) := by decide +kernel
theorem dX11_value_29 : decode cX11_value 29 = .ok (.ifCond .eq 7, 3) := by decide +kernel
theorem dX11_value_32 : decode cX11_value 32 = .ok (.iconst 0, 1) := by decide +kernel
theorem dX11_value_33 : decode cX11_value 33 = .ok (.goto 15, 3) := by decide +kernel
theorem dX11_value_36 : decode cX11_value 36 = .ok (.aload_n 0, 1) := by decide +kernel
theorem dX11_value_37 : decode cX11_value 37 = .ok (.getfield 7, 3) := by decide +kernel
theorem dX11_value_40 : decode cX11_value 40 = .ok (.sipush 304, 3) := by decide +kernel
theorem dX11_value_43 : decode cX11_value 43 = .ok (.iload_n 2, 1) := by decide +kernel
theorem dX11_value_44 : decode cX11_value 44 = .ok (.imul, 1) := by decide +kernel
theorem dX11_value_45 : decode cX11_value 45 = .ok (.iload_n 1, 1) := by decide +kernel
theorem dX11_value_46 : decode cX11_value 46 = .ok (.iadd, 1) := by decide +kernel
theorem dX11_value_47 : decode cX11_value 47 = .ok (.iaload, 1) := by decide +kernel
theorem dX11_value_48 : decode cX11_value 48 = .ok (.ireturn, 1) := by decide +kernel
theorem dX11_isChange_0 : decode cX11_isChange 0 = .ok (.aload_n 0, 1) := by decide +kernel
theorem dX11_isChange_1 : decode cX11_isChange 1 = .ok (.getfield 7, 3) := by decide +kernel
theorem dX11_isChange_4 : decode cX11_isChange 4 = .ok (.sipush 304, 3) := by decide +kernel
theorem dX11_isChange_7 : decode cX11_isChange 7 = .ok (.iload_n 2, 1) := by decide +kernel
theorem dX11_isChange_8 : decode cX11_isChange 8 = .ok (.imul, 1) := by decide +kernel
theorem dX11_isChange_9 : decode cX11_isChange 9 = .ok (.iload_n 1, 1) := by decide +kernel
theorem dX11_isChange_10 : decode cX11_isChange 10 = .ok (.iadd, 1) := by decide +kernel
theorem dX11_isChange_11 : decode cX11_isChange 11 = .ok (.iaload, 1) := by decide +kernel
theorem dX11_isChange_12 : decode cX11_isChange 12 = .ok (.aload_n 0, 1) := by decide +kernel
theorem dX11_isChange_13 : decode cX11_isChange 13 = .ok (.getfield 7, 3) := by decide +kernel
theorem dX11_isChange_16 : decode cX11_isChange 16 = .ok (.sipush 304, 3) := by decide +kernel
theorem dX11_isChange_19 : decode cX11_isChange 19 = .ok (.iload_n 2, 1) := by decide +kernel
theorem dX11_isChange_20 : decode cX11_isChange 20 = .ok (.iconst 1, 1) := by decide +kernel
theorem dX11_isChange_21 : decode cX11_isChange 21 = .ok (.isub, 1) := by decide +kernel
theorem dX11_isChange_22 : decode cX11_isChange 22 = .ok (.imul, 1) := by decide +kernel
theorem dX11_isChange_23 : decode cX11_isChange 23 = .ok (.iload_n 1, 1) := by decide +kernel
theorem dX11_isChange_24 : decode cX11_isChange 24 = .ok (.iadd, 1) := by decide +kernel
theorem dX11_isChange_25 : decode cX11_isChange 25 = .ok (.iaload, 1) := by decide +kernel
theorem dX11_isChange_26 : decode cX11_isChange 26 = .ok (.if_icmp .eq 7, 3) := by decide +kernel
theorem dX11_isChange_29 : decode cX11_isChange 29 = .ok (.iconst 1, 1) := by decide +kernel
theorem dX11_isChange_30 : decode cX11_isChange 30 = .ok (.goto 4, 3) := by decide +kernel
theorem dX11_isChange_33 : decode cX11_isChange 33 = .ok (.iconst 0, 1) := by decide +kernel
theorem dX11_isChange_34 : decode cX11_isChange 34 = .ok (.ireturn, 1) := by decide +kernel
theorem dX11_changesOf_0 : decode cX11_changesOf 0 = .ok (.iconst 0, 1) := by decide +kernel
theorem dX11_changesOf_1 : decode cX11_changesOf 1 = .ok (.istore_n 2, 1) := by decide +kernel
theorem dX11_changesOf_2 : decode cX11_changesOf 2 = .ok (.iconst 1, 1) := by decide +kernel
theorem dX11_changesOf_3 : decode cX11_changesOf 3 = .ok (.istore_n 3, 1) := by decide +kernel
theorem dX11_changesOf_4 : decode cX11_changesOf 4 = .ok (.iload_n 3, 1) := by decide +kernel
theorem dX11_changesOf_5 : decode cX11_changesOf 5 = .ok (.aload_n 0, 1) := by decide +kernel
theorem dX11_changesOf_6 : decode cX11_changesOf 6 = .ok (.getfield 72, 3) := by decide +kernel
theorem dX11_changesOf_9 : decode cX11_changesOf 9 = .ok (.if_icmp .gt 26, 3) := by decide +kernel
theorem dX11_changesOf_12 : decode cX11_changesOf 12 = .ok (.iload_n 2, 1) := by decide +kernel
theorem dX11_changesOf_13 : decode cX11_changesOf 13 = .ok (.aload_n 0, 1) := by decide +kernel
theorem dX11_changesOf_14 : decode cX11_changesOf 14 = .ok (.iload_n 1, 1) := by decide +kernel
theorem dX11_changesOf_15 : decode cX11_changesOf 15 = .ok (.iload_n 3, 1) := by decide +kernel
theorem dX11_changesOf_16 : decode cX11_changesOf 16 = .ok (.invokevirtual 168, 3) := by decide +kernel
theorem dX11_changesOf_19 : decode cX11_changesOf 19 = .ok (.ifCond .eq 7, 3) := by decide +kernel
theorem dX11_changesOf_22 : decode cX11_changesOf 22 = .ok (.iconst 1, 1) := by decide +kernel
theorem dX11_changesOf_23 : decode cX11_changesOf 23 = .ok (.goto 4, 3) := by decide +kernel
theorem dX11_changesOf_26 : decode cX11_changesOf 26 = .ok (.iconst 0, 1) := by decide +kernel
theorem dX11_changesOf_27 : decode cX11_changesOf 27 = .ok (.iadd, 1) := by decide +kernel
theorem dX11_changesOf_28 : decode cX11_changesOf 28 = .ok (.istore_n 2, 1) := by decide +kernel
theorem dX11_changesOf_29 : decode cX11_changesOf 29 = .ok (.iinc 3 1, 3) := by decide +kernel
theorem dX11_changesOf_32 : decode cX11_changesOf 32 = .ok (.goto (-28), 3) := by decide +kernel
theorem dX11_changesOf_35 : decode cX11_changesOf 35 = .ok (.iload_n 2, 1) := by decide +kernel
theorem dX11_changesOf_36 : decode cX11_changesOf 36 = .ok (.ireturn, 1) := by decide +kernel
theorem dX11_changes_0 : decode cX11_changes 0 = .ok (.aload_n 0, 1) := by decide +kernel
theorem dX11_changes_1 : decode cX11_changes 1 = .ok (.iload_n 1, 1) := by decide +kernel
theorem dX11_changes_2 : decode cX11_changes 2 = .ok (.invokestatic 139, 3) := by decide +kernel
theorem dX11_changes_5 : decode cX11_changes 5 = .ok (.iconst 1, 1) := by decide +kernel
theorem dX11_changes_6 : decode cX11_changes 6 = .ok (.invokevirtual 112, 3) := by decide +kernel
theorem dX11_changes_9 : decode cX11_changes 9 = .ok (.ifCond .eq 7, 3) := by decide +kernel
theorem dX11_changes_12 : decode cX11_changes 12 = .ok (.iconst 0, 1) := by decide +kernel
theorem dX11_changes_13 : decode cX11_changes 13 = .ok (.goto 8, 3) := by decide +kernel
theorem dX11_changes_16 : decode cX11_changes 16 = .ok (.aload_n 0, 1) := by decide +kernel
theorem dX11_changes_17 : decode cX11_changes 17 = .ok (.iload_n 1, 1) := by decide +kernel
theorem dX11_changes_18 : decode cX11_changes 18 = .ok (.invokevirtual 171, 3) := by decide +kernel
theorem dX11_changes_21 : decode cX11_changes 21 = .ok (.ireturn, 1) := by decide +kernel
theorem dX11_changed_0 : decode cX11_changed 0 = .ok (.aload_n 0, 1) := by decide +kernel
theorem dX11_changed_1 : decode cX11_changed 1 = .ok (.iload_n 1, 1) := by decide +kernel
theorem dX11_changed_2 : decode cX11_changed 2 = .ok (.invokestatic 139, 3) := by decide +kernel
theorem dX11_changed_5 : decode cX11_changed 5 = .ok (.iconst 1, 1) := by decide +kernel
theorem dX11_changed_6 : decode cX11_changed 6 = .ok (.invokevirtual 112, 3) := by decide +kernel
theorem dX11_changed_9 : decode cX11_changed 9 = .ok (.ifCond .ne 23, 3) := by decide +kernel
theorem dX11_changed_12 : decode cX11_changed 12 = .ok (.aload_n 0, 1) := by decide +kernel
theorem dX11_changed_13 : decode cX11_changed 13 = .ok (.iload_n 2, 1) := by decide +kernel
theorem dX11_changed_14 : decode cX11_changed 14 = .ok (.iconst 0, 1) := by decide +kernel
theorem dX11_changed_15 : decode cX11_changed 15 = .ok (.aload_n 0, 1) := by decide +kernel
theorem dX11_changed_16 : decode cX11_changed 16 = .ok (.iload_n 1, 1) := by decide +kernel
theorem dX11_changed_17 : decode cX11_changed 17 = .ok (.invokevirtual 171, 3) := by decide +kernel
theorem dX11_changed_20 : decode cX11_changed 20 = .ok (.iconst 1, 1) := by decide +kernel
theorem dX11_changed_21 : decode cX11_changed 21 = .ok (.isub, 1) := by decide +kernel
theorem dX11_changed_22 : decode cX11_changed 22 = .ok (.invokestatic 75, 3) := by decide +kernel
theorem dX11_changed_25 : decode cX11_changed 25 = .ok (.iconst 2, 1) := by decide +kernel
theorem dX11_changed_26 : decode cX11_changed 26 = .ok (.invokevirtual 112, 3) := by decide +kernel
theorem dX11_changed_29 : decode cX11_changed 29 = .ok (.ifCond .eq 5, 3) := by decide +kernel
theorem dX11_changed_32 : decode cX11_changed 32 = .ok (.iconst 0, 1) := by decide +kernel
theorem dX11_changed_33 : decode cX11_changed 33 = .ok (.ireturn, 1) := by decide +kernel
theorem dX11_changed_34 : decode cX11_changed 34 = .ok (.iload_n 2, 1) := by decide +kernel
theorem dX11_changed_35 : decode cX11_changed 35 = .ok (.istore_n 3, 1) := by decide +kernel
theorem dX11_changed_36 : decode cX11_changed 36 = .ok (.iconst 1, 1) := by decide +kernel
theorem dX11_changed_37 : decode cX11_changed 37 = .ok (.istore 4, 2) := by decide +kernel
theorem dX11_changed_39 : decode cX11_changed 39 = .ok (.aload_n 0, 1) := by decide +kernel
theorem dX11_changed_40 : decode cX11_changed 40 = .ok (.iload_n 1, 1) := by decide +kernel
theorem dX11_changed_41 : decode cX11_changed 41 = .ok (.iload 4, 2) := by decide +kernel
theorem dX11_changed_43 : decode cX11_changed 43 = .ok (.invokevirtual 168, 3) := by decide +kernel
theorem dX11_changed_46 : decode cX11_changed 46 = .ok (.ifCond .eq 7, 3) := by decide +kernel
theorem dX11_changed_49 : decode cX11_changed 49 = .ok (.iload_n 3, 1) := by decide +kernel
theorem dX11_changed_50 : decode cX11_changed 50 = .ok (.ifCond .le 27, 3) := by decide +kernel
theorem dX11_changed_53 : decode cX11_changed 53 = .ok (.iload_n 3, 1) := by decide +kernel
theorem dX11_changed_54 : decode cX11_changed 54 = .ok (.aload_n 0, 1) := by decide +kernel
theorem dX11_changed_55 : decode cX11_changed 55 = .ok (.iload_n 1, 1) := by decide +kernel
theorem dX11_changed_56 : decode cX11_changed 56 = .ok (.iload 4, 2) := by decide +kernel
theorem dX11_changed_58 : decode cX11_changed 58 = .ok (.invokevirtual 168, 3) := by decide +kernel
theorem dX11_changed_61 : decode cX11_changed 61 = .ok (.ifCond .eq 7, 3) := by decide +kernel
theorem dX11_changed_64 : decode cX11_changed 64 = .ok (.iconst 1, 1) := by decide +kernel
theorem dX11_changed_65 : decode cX11_changed 65 = .ok (.goto 4, 3) := by decide +kernel
theorem dX11_changed_68 : decode cX11_changed 68 = .ok (.iconst 0, 1) := by decide +kernel
theorem dX11_changed_69 : decode cX11_changed 69 = .ok (.isub, 1) := by decide +kernel
theorem dX11_changed_70 : decode cX11_changed 70 = .ok (.istore_n 3, 1) := by decide +kernel
theorem dX11_changed_71 : decode cX11_changed 71 = .ok (.iinc 4 1, 3) := by decide +kernel
theorem dX11_changed_74 : decode cX11_changed 74 = .ok (.goto (-35), 3) := by decide +kernel
theorem dX11_changed_77 : decode cX11_changed 77 = .ok (.iload 4, 2) := by decide +kernel
theorem dX11_changed_79 : decode cX11_changed 79 = .ok (.ireturn, 1) := by decide +kernel
theorem dX11_route_0 : decode cX11_route 0 = .ok (.aload_n 0, 1) := by decide +kernel
theorem dX11_route_1 : decode cX11_route 1 = .ok (.iload_n 1, 1) := by decide +kernel
theorem dX11_route_2 : decode cX11_route 2 = .ok (.iconst 0, 1) := by decide +kernel
theorem dX11_route_3 : decode cX11_route 3 = .ok (.bipush 63, 2) := by decide +kernel
theorem dX11_route_5 : decode cX11_route 5 = .ok (.invokestatic 75, 3) := by decide +kernel
theorem dX11_route_8 : decode cX11_route 8 = .ok (.ifCond .eq 29, 3) := by decide +kernel
theorem dX11_route_11 : decode cX11_route 11 = .ok (.iload_n 2, 1) := by decide +kernel
theorem dX11_route_12 : decode cX11_route 12 = .ok (.iconst 0, 1) := by decide +kernel
theorem dX11_route_13 : decode cX11_route 13 = .ok (.bipush 63, 2) := by decide +kernel
theorem dX11_route_15 : decode cX11_route 15 = .ok (.invokestatic 75, 3) := by decide +kernel
theorem dX11_route_18 : decode cX11_route 18 = .ok (.ifCond .eq 19, 3) := by decide +kernel
theorem dX11_route_21 : decode cX11_route 21 = .ok (.iload_n 3, 1) := by decide +kernel
theorem dX11_route_22 : decode cX11_route 22 = .ok (.iconst 0, 1) := by decide +kernel
theorem dX11_route_23 : decode cX11_route 23 = .ok (.aload_n 0, 1) := by decide +kernel
theorem dX11_route_24 : decode cX11_route 24 = .ok (.getfield 72, 3) := by decide +kernel
theorem dX11_route_27 : decode cX11_route 27 = .ok (.invokestatic 75, 3) := by decide +kernel
theorem dX11_route_30 : decode cX11_route 30 = .ok (.ifCond .eq 7, 3) := by decide +kernel
theorem dX11_route_33 : decode cX11_route 33 = .ok (.iconst 1, 1) := by decide +kernel
theorem dX11_route_34 : decode cX11_route 34 = .ok (.goto 4, 3) := by decide +kernel
theorem dX11_route_37 : decode cX11_route 37 = .ok (.iconst 0, 1) := by decide +kernel
theorem dX11_route_38 : decode cX11_route 38 = .ok (.iconst 1, 1) := by decide +kernel
theorem dX11_route_39 : decode cX11_route 39 = .ok (.invokevirtual 112, 3) := by decide +kernel
theorem dX11_route_42 : decode cX11_route 42 = .ok (.ifCond .eq 5, 3) := by decide +kernel
theorem dX11_route_45 : decode cX11_route 45 = .ok (.iconst 0, 1) := by decide +kernel
theorem dX11_route_46 : decode cX11_route 46 = .ok (.ireturn, 1) := by decide +kernel
theorem dX11_route_47 : decode cX11_route 47 = .ok (.iconst 0, 1) := by decide +kernel
theorem dX11_route_48 : decode cX11_route 48 = .ok (.istore 4, 2) := by decide +kernel
theorem dX11_route_50 : decode cX11_route 50 = .ok (.iload 4, 2) := by decide +kernel
theorem dX11_route_52 : decode cX11_route 52 = .ok (.bipush 64, 2) := by decide +kernel
theorem dX11_route_54 : decode cX11_route 54 = .ok (.if_icmp .ge 29, 3) := by decide +kernel
theorem dX11_route_57 : decode cX11_route 57 = .ok (.aload_n 0, 1) := by decide +kernel
theorem dX11_route_58 : decode cX11_route 58 = .ok (.getfield 59, 3) := by decide +kernel
theorem dX11_route_61 : decode cX11_route 61 = .ok (.iload 4, 2) := by decide +kernel
theorem dX11_route_63 : decode cX11_route 63 = .ok (.iload 4, 2) := by decide +kernel
theorem dX11_route_65 : decode cX11_route 65 = .ok (.iload_n 1, 1) := by decide +kernel
theorem dX11_route_66 : decode cX11_route 66 = .ok (.if_icmp .ne 7, 3) := by decide +kernel
theorem dX11_route_69 : decode cX11_route 69 = .ok (.iconst 0, 1) := by decide +kernel
theorem dX11_route_70 : decode cX11_route 70 = .ok (.goto 6, 3) := by decide +kernel
theorem dX11_route_73 : decode cX11_route 73 = .ok (.sipush 999, 3) := by decide +kernel
theorem dX11_route_76 : decode cX11_route 76 = .ok (.iastore, 1) := by decide +kernel
theorem dX11_route_77 : decode cX11_route 77 = .ok (.iinc 4 1, 3) := by decide +kernel
theorem dX11_route_80 : decode cX11_route 80 = .ok (.goto (-30), 3) := by decide +kernel
theorem dX11_route_83 : decode cX11_route 83 = .ok (.iconst 0, 1) := by decide +kernel
theorem dX11_route_84 : decode cX11_route 84 = .ok (.istore 4, 2) := by decide +kernel
theorem dX11_route_86 : decode cX11_route 86 = .ok (.iload 4, 2) := by decide +kernel
theorem dX11_route_88 : decode cX11_route 88 = .ok (.bipush 64, 2) := by decide +kernel
theorem dX11_route_90 : decode cX11_route 90 = .ok (.if_icmp .ge 121, 3) := by decide +kernel
theorem dX11_route_93 : decode cX11_route 93 = .ok (.iconst 0, 1) := by decide +kernel
theorem dX11_route_94 : decode cX11_route 94 = .ok (.istore 5, 2) := by decide +kernel
theorem dX11_route_96 : decode cX11_route 96 = .ok (.iload 5, 2) := by decide +kernel
theorem dX11_route_98 : decode cX11_route 98 = .ok (.sipush 256, 3) := by decide +kernel
theorem dX11_route_101 : decode cX11_route 101 = .ok (.if_icmp .ge 104, 3) := by decide +kernel
theorem dX11_route_104 : decode cX11_route 104 = .ok (.iload 5, 2) := by decide +kernel
theorem dX11_route_106 : decode cX11_route 106 = .ok (.iconst 4, 1) := by decide +kernel
theorem dX11_route_107 : decode cX11_route 107 = .ok (.idiv, 1) := by decide +kernel
theorem dX11_route_108 : decode cX11_route 108 = .ok (.iload 5, 2) := by decide +kernel
theorem dX11_route_110 : decode cX11_route 110 = .ok (.iconst 4, 1) := by decide +kernel
theorem dX11_route_111 : decode cX11_route 111 = .ok (.irem, 1) := by decide +kernel
theorem dX11_route_112 : decode cX11_route 112 = .ok (.invokestatic 79, 3) := by decide +kernel
theorem dX11_route_115 : decode cX11_route 115 = .ok (.istore 6, 2) := by decide +kernel
theorem dX11_route_117 : decode cX11_route 117 = .ok (.iload 6, 2) := by decide +kernel
theorem dX11_route_119 : decode cX11_route 119 = .ok (.ifCond .lt 33, 3) := by decide +kernel
theorem dX11_route_122 : decode cX11_route 122 = .ok (.aload_n 0, 1) := by decide +kernel
theorem dX11_route_123 : decode cX11_route 123 = .ok (.getfield 7, 3) := by decide +kernel
theorem dX11_route_126 : decode cX11_route 126 = .ok (.sipush 304, 3) := by decide +kernel
theorem dX11_route_129 : decode cX11_route 129 = .ok (.iload_n 3, 1) := by decide +kernel
theorem dX11_route_130 : decode cX11_route 130 = .ok (.imul, 1) := by decide +kernel
theorem dX11_route_131 : decode cX11_route 131 = .ok (.iload 5, 2) := by decide +kernel
theorem dX11_route_133 : decode cX11_route 133 = .ok (.iconst 4, 1) := by decide +kernel
theorem dX11_route_134 : decode cX11_route 134 = .ok (.idiv, 1) := by decide +kernel
theorem dX11_route_135 : decode cX11_route 135 = .ok (.iload 5, 2) := by decide +kernel
theorem dX11_route_137 : decode cX11_route 137 = .ok (.iconst 4, 1) := by decide +kernel
theorem dX11_route_138 : decode cX11_route 138 = .ok (.irem, 1) := by decide +kernel
theorem dX11_route_139 : decode cX11_route 139 = .ok (.invokestatic 83, 3) := by decide +kernel
theorem dX11_route_142 : decode cX11_route 142 = .ok (.iadd, 1) := by decide +kernel
theorem dX11_route_143 : decode cX11_route 143 = .ok (.iaload, 1) := by decide +kernel
theorem dX11_route_144 : decode cX11_route 144 = .ok (.iconst 1, 1) := by decide +kernel
theorem dX11_route_145 : decode cX11_route 145 = .ok (.if_icmp .ne 7, 3) := by decide +kernel
theorem dX11_route_148 : decode cX11_route 148 = .ok (.iconst 1, 1) := by decide +kernel
theorem dX11_route_149 : decode cX11_route 149 = .ok (.goto 4, 3) := by decide +kernel
theorem dX11_route_152 : decode cX11_route 152 = .ok (.iconst 0, 1) := by decide +kernel
theorem dX11_route_153 : decode cX11_route 153 = .ok (.istore 7, 2) := by decide +kernel
theorem dX11_route_155 : decode cX11_route 155 = .ok (.iload 7, 2) := by decide +kernel
theorem dX11_route_157 : decode cX11_route 157 = .ok (.ifCond .eq 42, 3) := by decide +kernel
theorem dX11_route_160 : decode cX11_route 160 = .ok (.aload_n 0, 1) := by decide +kernel
theorem dX11_route_161 : decode cX11_route 161 = .ok (.getfield 59, 3) := by decide +kernel
theorem dX11_route_164 : decode cX11_route 164 = .ok (.iload 5, 2) := by decide +kernel
theorem dX11_route_166 : decode cX11_route 166 = .ok (.iconst 4, 1) := by decide +kernel
theorem dX11_route_167 : decode cX11_route 167 = .ok (.idiv, 1) := by decide +kernel
theorem dX11_route_168 : decode cX11_route 168 = .ok (.iaload, 1) := by decide +kernel
theorem dX11_route_169 : decode cX11_route 169 = .ok (.iconst 1, 1) := by decide +kernel
theorem dX11_route_170 : decode cX11_route 170 = .ok (.iadd, 1) := by decide +kernel
theorem dX11_route_171 : decode cX11_route 171 = .ok (.aload_n 0, 1) := by decide +kernel
theorem dX11_route_172 : decode cX11_route 172 = .ok (.getfield 59, 3) := by decide +kernel
theorem dX11_route_175 : decode cX11_route 175 = .ok (.iload 6, 2) := by decide +kernel
theorem dX11_route_177 : decode cX11_route 177 = .ok (.iaload, 1) := by decide +kernel
theorem dX11_route_178 : decode cX11_route 178 = .ok (.if_icmp .ge 21, 3) := by decide +kernel
theorem dX11_route_181 : decode cX11_route 181 = .ok (.aload_n 0, 1) := by decide +kernel
theorem dX11_route_182 : decode cX11_route 182 = .ok (.getfield 59, 3) := by decide +kernel
theorem dX11_route_185 : decode cX11_route 185 = .ok (.iload 6, 2) := by decide +kernel
theorem dX11_route_187 : decode cX11_route 187 = .ok (.aload_n 0, 1) := by decide +kernel
theorem dX11_route_188 : decode cX11_route 188 = .ok (.getfield 59, 3) := by decide +kernel
theorem dX11_route_191 : decode cX11_route 191 = .ok (.iload 5, 2) := by decide +kernel
theorem dX11_route_193 : decode cX11_route 193 = .ok (.iconst 4, 1) := by decide +kernel
theorem dX11_route_194 : decode cX11_route 194 = .ok (.idiv, 1) := by decide +kernel
theorem dX11_route_195 : decode cX11_route 195 = .ok (.iaload, 1) := by decide +kernel
theorem dX11_route_196 : decode cX11_route 196 = .ok (.iconst 1, 1) := by decide +kernel
theorem dX11_route_197 : decode cX11_route 197 = .ok (.iadd, 1) := by decide +kernel
theorem dX11_route_198 : decode cX11_route 198 = .ok (.iastore, 1) := by decide +kernel
theorem dX11_route_199 : decode cX11_route 199 = .ok (.iinc 5 1, 3) := by decide +kernel
theorem dX11_route_202 : decode cX11_route 202 = .ok (.goto (-106), 3) := by decide +kernel
theorem dX11_route_205 : decode cX11_route 205 = .ok (.iinc 4 1, 3) := by decide +kernel
theorem dX11_route_208 : decode cX11_route 208 = .ok (.goto (-122), 3) := by decide +kernel
theorem dX11_route_211 : decode cX11_route 211 = .ok (.aload_n 0, 1) := by decide +kernel
theorem dX11_route_212 : decode cX11_route 212 = .ok (.aload_n 0, 1) := by decide +kernel
theorem dX11_route_213 : decode cX11_route 213 = .ok (.getfield 59, 3) := by decide +kernel
theorem dX11_route_216 : decode cX11_route 216 = .ok (.iload_n 2, 1) := by decide +kernel
theorem dX11_route_217 : decode cX11_route 217 = .ok (.iaload, 1) := by decide +kernel
theorem dX11_route_218 : decode cX11_route 218 = .ok (.sipush 999, 3) := by decide +kernel
theorem dX11_route_221 : decode cX11_route 221 = .ok (.if_icmp .ge 7, 3) := by decide +kernel
theorem dX11_route_224 : decode cX11_route 224 = .ok (.iconst 1, 1) := by decide +kernel
theorem dX11_route_225 : decode cX11_route 225 = .ok (.goto 4, 3) := by decide +kernel
theorem dX11_route_228 : decode cX11_route 228 = .ok (.iconst 0, 1) := by decide +kernel
theorem dX11_route_229 : decode cX11_route 229 = .ok (.iconst 2, 1) := by decide +kernel
theorem dX11_route_230 : decode cX11_route 230 = .ok (.invokevirtual 112, 3) := by decide +kernel
theorem dX11_route_233 : decode cX11_route 233 = .ok (.ifCond .eq 7, 3) := by decide +kernel
theorem dX11_route_236 : decode cX11_route 236 = .ok (.iconst 0, 1) := by decide +kernel
theorem dX11_route_237 : decode cX11_route 237 = .ok (.goto 9, 3) := by decide +kernel
theorem dX11_route_240 : decode cX11_route 240 = .ok (.aload_n 0, 1) := by decide +kernel
theorem dX11_route_241 : decode cX11_route 241 = .ok (.getfield 59, 3) := by decide +kernel
theorem dX11_route_244 : decode cX11_route 244 = .ok (.iload_n 2, 1) := by decide +kernel
theorem dX11_route_245 : decode cX11_route 245 = .ok (.iaload, 1) := by decide +kernel
theorem dX11_route_246 : decode cX11_route 246 = .ok (.ireturn, 1) := by decide +kernel
theorem dX11_depth_0 : decode cX11_depth 0 = .ok (.iload_n 0, 1) := by decide +kernel
theorem dX11_depth_1 : decode cX11_depth 1 = .ok (.iconst 1, 1) := by decide +kernel
theorem dX11_depth_2 : decode cX11_depth 2 = .ok (.if_icmp .ne 7, 3) := by decide +kernel
theorem dX11_depth_5 : decode cX11_depth 5 = .ok (.iconst 0, 1) := by decide +kernel
theorem dX11_depth_6 : decode cX11_depth 6 = .ok (.goto 32, 3) := by decide +kernel
theorem dX11_depth_9 : decode cX11_depth 9 = .ok (.iload_n 0, 1) := by decide +kernel
theorem dX11_depth_10 : decode cX11_depth 10 = .ok (.iconst 2, 1) := by decide +kernel
theorem dX11_depth_11 : decode cX11_depth 11 = .ok (.if_icmp .ne 7, 3) := by decide +kernel
theorem dX11_depth_14 : decode cX11_depth 14 = .ok (.iconst 1, 1) := by decide +kernel
theorem dX11_depth_15 : decode cX11_depth 15 = .ok (.goto 23, 3) := by decide +kernel
theorem dX11_depth_18 : decode cX11_depth 18 = .ok (.iload_n 0, 1) := by decide +kernel
theorem dX11_depth_19 : decode cX11_depth 19 = .ok (.iconst 4, 1) := by decide +kernel
theorem dX11_depth_20 : decode cX11_depth 20 = .ok (.if_icmp .ne 7, 3) := by decide +kernel
theorem dX11_depth_23 : decode cX11_depth 23 = .ok (.iconst 2, 1) := by decide +kernel
theorem dX11_depth_24 : decode cX11_depth 24 = .ok (.goto 14, 3) := by decide +kernel
theorem dX11_depth_27 : decode cX11_depth 27 = .ok (.iload_n 0, 1) := by decide +kernel
theorem dX11_depth_28 : decode cX11_depth 28 = .ok (.bipush 8, 2) := by decide +kernel
theorem dX11_depth_30 : decode cX11_depth 30 = .ok (.if_icmp .ne 7, 3) := by decide +kernel
theorem dX11_depth_33 : decode cX11_depth 33 = .ok (.iconst 3, 1) := by decide +kernel
theorem dX11_depth_34 : decode cX11_depth 34 = .ok (.goto 4, 3) := by decide +kernel
theorem dX11_depth_37 : decode cX11_depth 37 = .ok (.iconst (-1), 1) := by decide +kernel
theorem dX11_depth_38 : decode cX11_depth 38 = .ok (.ireturn, 1) := by decide +kernel
theorem dX11_noTile_0 : decode cX11_noTile 0 = .ok (.iload_n 1, 1) := by decide +kernel
theorem dX11_noTile_1 : decode cX11_noTile 1 = .ok (.invokestatic 174, 3) := by decide +kernel
theorem dX11_noTile_4 : decode cX11_noTile 4 = .ok (.ifCond .lt 14, 3) := by decide +kernel
theorem dX11_noTile_7 : decode cX11_noTile 7 = .ok (.iload_n 2, 1) := by decide +kernel
theorem dX11_noTile_8 : decode cX11_noTile 8 = .ok (.invokestatic 108, 3) := by decide +kernel
theorem dX11_noTile_11 : decode cX11_noTile 11 = .ok (.ifCond .eq 7, 3) := by decide +kernel
theorem dX11_noTile_14 : decode cX11_noTile 14 = .ok (.iconst 1, 1) := by decide +kernel
theorem dX11_noTile_15 : decode cX11_noTile 15 = .ok (.goto 4, 3) := by decide +kernel
theorem dX11_noTile_18 : decode cX11_noTile 18 = .ok (.iconst 0, 1) := by decide +kernel
theorem dX11_noTile_19 : decode cX11_noTile 19 = .ok (.istore 5, 2) := by decide +kernel
theorem dX11_noTile_21 : decode cX11_noTile 21 = .ok (.iload 5, 2) := by decide +kernel
theorem dX11_noTile_23 : decode cX11_noTile 23 = .ok (.ifCond .eq 12, 3) := by decide +kernel
theorem dX11_noTile_26 : decode cX11_noTile 26 = .ok (.bipush 8, 2) := by decide +kernel
theorem dX11_noTile_28 : decode cX11_noTile 28 = .ok (.iload_n 1, 1) := by decide +kernel
theorem dX11_noTile_29 : decode cX11_noTile 29 = .ok (.idiv, 1) := by decide +kernel
theorem dX11_noTile_30 : decode cX11_noTile 30 = .ok (.iconst 1, 1) := by decide +kernel
theorem dX11_noTile_31 : decode cX11_noTile 31 = .ok (.isub, 1) := by decide +kernel
theorem dX11_noTile_32 : decode cX11_noTile 32 = .ok (.goto 4, 3) := by decide +kernel
theorem dX11_noTile_35 : decode cX11_noTile 35 = .ok (.iconst 0, 1) := by decide +kernel
theorem dX11_noTile_36 : decode cX11_noTile 36 = .ok (.istore 6, 2) := by decide +kernel
theorem dX11_noTile_38 : decode cX11_noTile 38 = .ok (.aload_n 0, 1) := by decide +kernel
theorem dX11_noTile_39 : decode cX11_noTile 39 = .ok (.iload 5, 2) := by decide +kernel
theorem dX11_noTile_41 : decode cX11_noTile 41 = .ok (.ifCond .eq 28, 3) := by decide +kernel
theorem dX11_noTile_44 : decode cX11_noTile 44 = .ok (.iload_n 3, 1) := by decide +kernel
theorem dX11_noTile_45 : decode cX11_noTile 45 = .ok (.iconst 0, 1) := by decide +kernel
theorem dX11_noTile_46 : decode cX11_noTile 46 = .ok (.iload 6, 2) := by decide +kernel
theorem dX11_noTile_48 : decode cX11_noTile 48 = .ok (.invokestatic 75, 3) := by decide +kernel
theorem dX11_noTile_51 : decode cX11_noTile 51 = .ok (.ifCond .eq 18, 3) := by decide +kernel
theorem dX11_noTile_54 : decode cX11_noTile 54 = .ok (.iload 4, 2) := by decide +kernel
theorem dX11_noTile_56 : decode cX11_noTile 56 = .ok (.iconst 0, 1) := by decide +kernel
theorem dX11_noTile_57 : decode cX11_noTile 57 = .ok (.iload 6, 2) := by decide +kernel
theorem dX11_noTile_59 : decode cX11_noTile 59 = .ok (.invokestatic 75, 3) := by decide +kernel
theorem dX11_noTile_62 : decode cX11_noTile 62 = .ok (.ifCond .eq 7, 3) := by decide +kernel
theorem dX11_noTile_65 : decode cX11_noTile 65 = .ok (.iconst 1, 1) := by decide +kernel
theorem dX11_noTile_66 : decode cX11_noTile 66 = .ok (.goto 4, 3) := by decide +kernel
theorem dX11_noTile_69 : decode cX11_noTile 69 = .ok (.iconst 0, 1) := by decide +kernel
theorem dX11_noTile_70 : decode cX11_noTile 70 = .ok (.iconst 1, 1) := by decide +kernel
theorem dX11_noTile_71 : decode cX11_noTile 71 = .ok (.invokevirtual 112, 3) := by decide +kernel
theorem dX11_noTile_74 : decode cX11_noTile 74 = .ok (.ireturn, 1) := by decide +kernel
theorem dX11_most_0 : decode cX11_most 0 = .ok (.iconst 0, 1) := by decide +kernel
theorem dX11_most_1 : decode cX11_most 1 = .ok (.istore 5, 2) := by decide +kernel
theorem dX11_most_3 : decode cX11_most 3 = .ok (.iload 5, 2) := by decide +kernel
theorem dX11_most_5 : decode cX11_most 5 = .ok (.bipush 10, 2) := by decide +kernel
theorem dX11_most_7 : decode cX11_most 7 = .ok (.if_icmp .ge 17, 3) := by decide +kernel
theorem dX11_most_10 : decode cX11_most 10 = .ok (.aload_n 0, 1) := by decide +kernel
theorem dX11_most_11 : decode cX11_most 11 = .ok (.getfield 62, 3) := by decide +kernel
theorem dX11_most_14 : decode cX11_most 14 = .ok (.iload 5, 2) := by decide +kernel
theorem dX11_most_16 : decode cX11_most 16 = .ok (.iconst 0, 1) := by decide +kernel
theorem dX11_most_17 : decode cX11_most 17 = .ok (.iastore, 1) := by decide +kernel
theorem dX11_most_18 : decode cX11_most 18 = .ok (.iinc 5 1, 3) := by decide +kernel
theorem dX11_most_21 : decode cX11_most 21 = .ok (.goto (-18), 3) := by decide +kernel
theorem dX11_most_24 : decode cX11_most 24 = .ok (.iconst 0, 1) := by decide +kernel
theorem dX11_most_25 : decode cX11_most 25 = .ok (.istore 5, 2) := by decide +kernel
theorem dX11_most_27 : decode cX11_most 27 = .ok (.iload 5, 2) := by decide +kernel
theorem dX11_most_29 : decode cX11_most 29 = .ok (.iload_n 1, 1) := by decide +kernel
theorem dX11_most_30 : decode cX11_most 30 = .ok (.iload_n 1, 1) := by decide +kernel
theorem dX11_most_31 : decode cX11_most 31 = .ok (.imul, 1) := by decide +kernel
theorem dX11_most_32 : decode cX11_most 32 = .ok (.if_icmp .ge 44, 3) := by decide +kernel
theorem dX11_most_35 : decode cX11_most 35 = .ok (.aload_n 0, 1) := by decide +kernel
theorem dX11_most_36 : decode cX11_most 36 = .ok (.getfield 62, 3) := by decide +kernel
theorem dX11_most_39 : decode cX11_most 39 = .ok (.aload_n 0, 1) := by decide +kernel
theorem dX11_most_40 : decode cX11_most 40 = .ok (.bipush 64, 2) := by decide +kernel
theorem dX11_most_42 : decode cX11_most 42 = .ok (.iload_n 2, 1) := by decide +kernel
theorem dX11_most_43 : decode cX11_most 43 = .ok (.imul, 1) := by decide +kernel
theorem dX11_most_44 : decode cX11_most 44 = .ok (.bipush 8, 2) := by decide +kernel
theorem dX11_most_46 : decode cX11_most 46 = .ok (.iload 4, 2) := by decide +kernel
theorem dX11_most_48 : decode cX11_most 48 = .ok (.iload 5, 2) := by decide +kernel
theorem dX11_most_50 : decode cX11_most 50 = .ok (.iload_n 1, 1) := by decide +kernel
theorem dX11_most_51 : decode cX11_most 51 = .ok (.idiv, 1) := by decide +kernel
theorem dX11_most_52 : decode cX11_most 52 = .ok (.iadd, 1) := by decide +kernel
theorem dX11_most_53 : decode cX11_most 53 = .ok (.imul, 1) := by decide +kernel
theorem dX11_most_54 : decode cX11_most 54 = .ok (.iadd, 1) := by decide +kernel
theorem dX11_most_55 : decode cX11_most 55 = .ok (.iload_n 3, 1) := by decide +kernel
theorem dX11_most_56 : decode cX11_most 56 = .ok (.iadd, 1) := by decide +kernel
theorem dX11_most_57 : decode cX11_most 57 = .ok (.iload 5, 2) := by decide +kernel
theorem dX11_most_59 : decode cX11_most 59 = .ok (.iload_n 1, 1) := by decide +kernel
theorem dX11_most_60 : decode cX11_most 60 = .ok (.irem, 1) := by decide +kernel
theorem dX11_most_61 : decode cX11_most 61 = .ok (.iadd, 1) := by decide +kernel
theorem dX11_most_62 : decode cX11_most 62 = .ok (.invokevirtual 105, 3) := by decide +kernel
theorem dX11_most_65 : decode cX11_most 65 = .ok (.dup2, 1) := by decide +kernel
theorem dX11_most_66 : decode cX11_most 66 = .ok (.iaload, 1) := by decide +kernel
theorem dX11_most_67 : decode cX11_most 67 = .ok (.iconst 1, 1) := by decide +kernel
theorem dX11_most_68 : decode cX11_most 68 = .ok (.iadd, 1) := by decide +kernel
theorem dX11_most_69 : decode cX11_most 69 = .ok (.iastore, 1) := by decide +kernel
theorem dX11_most_70 : decode cX11_most 70 = .ok (.iinc 5 1, 3) := by decide +kernel
theorem dX11_most_73 : decode cX11_most 73 = .ok (.goto (-46), 3) := by decide +kernel
theorem dX11_most_76 : decode cX11_most 76 = .ok (.iconst 0, 1) := by decide +kernel
theorem dX11_most_77 : decode cX11_most 77 = .ok (.istore 5, 2) := by decide +kernel
theorem dX11_most_79 : decode cX11_most 79 = .ok (.iconst 1, 1) := by decide +kernel
theorem dX11_most_80 : decode cX11_most 80 = .ok (.istore 6, 2) := by decide +kernel
theorem dX11_most_82 : decode cX11_most 82 = .ok (.iload 6, 2) := by decide +kernel
theorem dX11_most_84 : decode cX11_most 84 = .ok (.bipush 10, 2) := by decide +kernel
theorem dX11_most_86 : decode cX11_most 86 = .ok (.if_icmp .ge 35, 3) := by decide +kernel
theorem dX11_most_89 : decode cX11_most 89 = .ok (.aload_n 0, 1) := by decide +kernel
theorem dX11_most_90 : decode cX11_most 90 = .ok (.getfield 62, 3) := by decide +kernel
theorem dX11_most_93 : decode cX11_most 93 = .ok (.iload 6, 2) := by decide +kernel
theorem dX11_most_95 : decode cX11_most 95 = .ok (.iaload, 1) := by decide +kernel
theorem dX11_most_96 : decode cX11_most 96 = .ok (.aload_n 0, 1) := by decide +kernel
theorem dX11_most_97 : decode cX11_most 97 = .ok (.getfield 62, 3) := by decide +kernel
theorem dX11_most_100 : decode cX11_most 100 = .ok (.iload 5, 2) := by decide +kernel
theorem dX11_most_102 : decode cX11_most 102 = .ok (.iaload, 1) := by decide +kernel
theorem dX11_most_103 : decode cX11_most 103 = .ok (.if_icmp .le 8, 3) := by decide +kernel
theorem dX11_most_106 : decode cX11_most 106 = .ok (.iload 6, 2) := by decide +kernel
theorem dX11_most_108 : decode cX11_most 108 = .ok (.goto 5, 3) := by decide +kernel
theorem dX11_most_111 : decode cX11_most 111 = .ok (.iload 5, 2) := by decide +kernel
theorem dX11_most_113 : decode cX11_most 113 = .ok (.istore 5, 2) := by decide +kernel
theorem dX11_most_115 : decode cX11_most 115 = .ok (.iinc 6 1, 3) := by decide +kernel
theorem dX11_most_118 : decode cX11_most 118 = .ok (.goto (-36), 3) := by decide +kernel
theorem dX11_most_121 : decode cX11_most 121 = .ok (.iload 5, 2) := by decide +kernel
theorem dX11_most_123 : decode cX11_most 123 = .ok (.ireturn, 1) := by decide +kernel
theorem dX11_tile_0 : decode cX11_tile 0 = .ok (.aload_n 0, 1) := by decide +kernel
theorem dX11_tile_1 : decode cX11_tile 1 = .ok (.iload_n 1, 1) := by decide +kernel
theorem dX11_tile_2 : decode cX11_tile 2 = .ok (.iload_n 2, 1) := by decide +kernel
theorem dX11_tile_3 : decode cX11_tile 3 = .ok (.iload_n 3, 1) := by decide +kernel
theorem dX11_tile_4 : decode cX11_tile 4 = .ok (.iload 4, 2) := by decide +kernel
theorem dX11_tile_6 : decode cX11_tile 6 = .ok (.invokevirtual 177, 3) := by decide +kernel
theorem dX11_tile_9 : decode cX11_tile 9 = .ok (.ifCond .eq 5, 3) := by decide +kernel
theorem dX11_tile_12 : decode cX11_tile 12 = .ok (.iconst 0, 1) := by decide +kernel
theorem dX11_tile_13 : decode cX11_tile 13 = .ok (.ireturn, 1) := by decide +kernel
theorem dX11_tile_14 : decode cX11_tile 14 = .ok (.sipush 192, 3) := by decide +kernel
theorem dX11_tile_17 : decode cX11_tile 17 = .ok (.iload_n 1, 1) := by decide +kernel
theorem dX11_tile_18 : decode cX11_tile 18 = .ok (.invokestatic 174, 3) := by decide +kernel
theorem dX11_tile_21 : decode cX11_tile 21 = .ok (.imul, 1) := by decide +kernel
theorem dX11_tile_22 : decode cX11_tile 22 = .ok (.bipush 64, 2) := by decide +kernel
theorem dX11_tile_24 : decode cX11_tile 24 = .ok (.iload_n 2, 1) := by decide +kernel
theorem dX11_tile_25 : decode cX11_tile 25 = .ok (.imul, 1) := by decide +kernel
theorem dX11_tile_26 : decode cX11_tile 26 = .ok (.iadd, 1) := by decide +kernel
theorem dX11_tile_27 : decode cX11_tile 27 = .ok (.bipush 8, 2) := by decide +kernel
theorem dX11_tile_29 : decode cX11_tile 29 = .ok (.iload 4, 2) := by decide +kernel
theorem dX11_tile_31 : decode cX11_tile 31 = .ok (.imul, 1) := by decide +kernel
theorem dX11_tile_32 : decode cX11_tile 32 = .ok (.iadd, 1) := by decide +kernel
theorem dX11_tile_33 : decode cX11_tile 33 = .ok (.iload_n 3, 1) := by decide +kernel
theorem dX11_tile_34 : decode cX11_tile 34 = .ok (.iadd, 1) := by decide +kernel
theorem dX11_tile_35 : decode cX11_tile 35 = .ok (.istore 5, 2) := by decide +kernel
theorem dX11_tile_37 : decode cX11_tile 37 = .ok (.aload_n 0, 1) := by decide +kernel
theorem dX11_tile_38 : decode cX11_tile 38 = .ok (.getfield 44, 3) := by decide +kernel
theorem dX11_tile_41 : decode cX11_tile 41 = .ok (.iload 5, 2) := by decide +kernel
theorem dX11_tile_43 : decode cX11_tile 43 = .ok (.iaload, 1) := by decide +kernel
theorem dX11_tile_44 : decode cX11_tile 44 = .ok (.ifCond .ge 33, 3) := by decide +kernel
theorem dX11_tile_47 : decode cX11_tile 47 = .ok (.aload_n 0, 1) := by decide +kernel
theorem dX11_tile_48 : decode cX11_tile 48 = .ok (.getfield 44, 3) := by decide +kernel
theorem dX11_tile_51 : decode cX11_tile 51 = .ok (.iload 5, 2) := by decide +kernel
theorem dX11_tile_53 : decode cX11_tile 53 = .ok (.aload_n 0, 1) := by decide +kernel
theorem dX11_tile_54 : decode cX11_tile 54 = .ok (.iload_n 1, 1) := by decide +kernel
theorem dX11_tile_55 : decode cX11_tile 55 = .ok (.iload_n 2, 1) := by decide +kernel
theorem dX11_tile_56 : decode cX11_tile 56 = .ok (.iload_n 3, 1) := by decide +kernel
theorem dX11_tile_57 : decode cX11_tile 57 = .ok (.iload_n 1, 1) := by decide +kernel
theorem dX11_tile_58 : decode cX11_tile 58 = .ok (.imul, 1) := by decide +kernel
theorem dX11_tile_59 : decode cX11_tile 59 = .ok (.iload 4, 2) := by decide +kernel
theorem dX11_tile_61 : decode cX11_tile 61 = .ok (.iload_n 1, 1) := by decide +kernel
theorem dX11_tile_62 : decode cX11_tile 62 = .ok (.imul, 1) := by decide +kernel
theorem dX11_tile_63 : decode cX11_tile 63 = .ok (.invokevirtual 180, 3) := by decide +kernel
theorem dX11_tile_66 : decode cX11_tile 66 = .ok (.iastore, 1) := by decide +kernel
theorem dX11_tile_67 : decode cX11_tile 67 = .ok (.aload_n 0, 1) := by decide +kernel
theorem dX11_tile_68 : decode cX11_tile 68 = .ok (.dup, 1) := by decide +kernel
theorem dX11_tile_69 : decode cX11_tile 69 = .ok (.getfield 184, 3) := by decide +kernel
theorem dX11_tile_72 : decode cX11_tile 72 = .ok (.iconst 1, 1) := by decide +kernel
theorem dX11_tile_73 : decode cX11_tile 73 = .ok (.iadd, 1) := by decide +kernel
theorem dX11_tile_74 : decode cX11_tile 74 = .ok (.putfield 184, 3) := by decide +kernel
theorem dX11_tile_77 : decode cX11_tile 77 = .ok (.aload_n 0, 1) := by decide +kernel
theorem dX11_tile_78 : decode cX11_tile 78 = .ok (.getfield 44, 3) := by decide +kernel
theorem dX11_tile_81 : decode cX11_tile 81 = .ok (.iload 5, 2) := by decide +kernel
theorem dX11_tile_83 : decode cX11_tile 83 = .ok (.iaload, 1) := by decide +kernel
theorem dX11_tile_84 : decode cX11_tile 84 = .ok (.ireturn, 1) := by decide +kernel
theorem dX11_isKept_0 : decode cX11_isKept 0 = .ok (.aload_n 0, 1) := by decide +kernel
theorem dX11_isKept_1 : decode cX11_isKept 1 = .ok (.iload_n 1, 1) := by decide +kernel
theorem dX11_isKept_2 : decode cX11_isKept 2 = .ok (.iload_n 2, 1) := by decide +kernel
theorem dX11_isKept_3 : decode cX11_isKept 3 = .ok (.iload_n 3, 1) := by decide +kernel
theorem dX11_isKept_4 : decode cX11_isKept 4 = .ok (.iload 4, 2) := by decide +kernel
theorem dX11_isKept_6 : decode cX11_isKept 6 = .ok (.invokevirtual 177, 3) := by decide +kernel
theorem dX11_isKept_9 : decode cX11_isKept 9 = .ok (.ifCond .ne 36, 3) := by decide +kernel
theorem dX11_isKept_12 : decode cX11_isKept 12 = .ok (.aload_n 0, 1) := by decide +kernel
theorem dX11_isKept_13 : decode cX11_isKept 13 = .ok (.getfield 44, 3) := by decide +kernel
theorem dX11_isKept_16 : decode cX11_isKept 16 = .ok (.sipush 192, 3) := by decide +kernel
theorem dX11_isKept_19 : decode cX11_isKept 19 = .ok (.iload_n 1, 1) := by decide +kernel
theorem dX11_isKept_20 : decode cX11_isKept 20 = .ok (.invokestatic 174, 3) := by decide +kernel
theorem dX11_isKept_23 : decode cX11_isKept 23 = .ok (.imul, 1) := by decide +kernel
theorem dX11_isKept_24 : decode cX11_isKept 24 = .ok (.bipush 64, 2) := by decide +kernel
theorem dX11_isKept_26 : decode cX11_isKept 26 = .ok (.iload_n 2, 1) := by decide +kernel
theorem dX11_isKept_27 : decode cX11_isKept 27 = .ok (.imul, 1) := by decide +kernel
theorem dX11_isKept_28 : decode cX11_isKept 28 = .ok (.iadd, 1) := by decide +kernel
theorem dX11_isKept_29 : decode cX11_isKept 29 = .ok (.bipush 8, 2) := by decide +kernel
theorem dX11_isKept_31 : decode cX11_isKept 31 = .ok (.iload 4, 2) := by decide +kernel
theorem dX11_isKept_33 : decode cX11_isKept 33 = .ok (.imul, 1) := by decide +kernel
theorem dX11_isKept_34 : decode cX11_isKept 34 = .ok (.iadd, 1) := by decide +kernel
theorem dX11_isKept_35 : decode cX11_isKept 35 = .ok (.iload_n 3, 1) := by decide +kernel
theorem dX11_isKept_36 : decode cX11_isKept 36 = .ok (.iadd, 1) := by decide +kernel
theorem dX11_isKept_37 : decode cX11_isKept 37 = .ok (.iaload, 1) := by decide +kernel
theorem dX11_isKept_38 : decode cX11_isKept 38 = .ok (.ifCond .lt 7, 3) := by decide +kernel
theorem dX11_isKept_41 : decode cX11_isKept 41 = .ok (.iconst 1, 1) := by decide +kernel
theorem dX11_isKept_42 : decode cX11_isKept 42 = .ok (.goto 4, 3) := by decide +kernel
theorem dX11_isKept_45 : decode cX11_isKept 45 = .ok (.iconst 0, 1) := by decide +kernel
theorem dX11_isKept_46 : decode cX11_isKept 46 = .ok (.ireturn, 1) := by decide +kernel
theorem dX11_made_0 : decode cX11_made 0 = .ok (.aload_n 0, 1) := by decide +kernel
theorem dX11_made_1 : decode cX11_made 1 = .ok (.getfield 184, 3) := by decide +kernel
theorem dX11_made_4 : decode cX11_made 4 = .ok (.ireturn, 1) := by decide +kernel
theorem dX11_isOne_0 : decode cX11_isOne 0 = .ok (.iconst 1, 1) := by decide +kernel
theorem dX11_isOne_1 : decode cX11_isOne 1 = .ok (.istore 4, 2) := by decide +kernel
theorem dX11_isOne_3 : decode cX11_isOne 3 = .ok (.iconst 0, 1) := by decide +kernel
theorem dX11_isOne_4 : decode cX11_isOne 4 = .ok (.istore 5, 2) := by decide +kernel
theorem dX11_isOne_6 : decode cX11_isOne 6 = .ok (.iload 5, 2) := by decide +kernel
theorem dX11_isOne_8 : decode cX11_isOne 8 = .ok (.iload_n 2, 1) := by decide +kernel
theorem dX11_isOne_9 : decode cX11_isOne 9 = .ok (.iload_n 2, 1) := by decide +kernel
theorem dX11_isOne_10 : decode cX11_isOne 10 = .ok (.imul, 1) := by decide +kernel
theorem dX11_isOne_11 : decode cX11_isOne 11 = .ok (.if_icmp .ge 55, 3) := by decide +kernel
theorem dX11_isOne_14 : decode cX11_isOne 14 = .ok (.iload 4, 2) := by decide +kernel
theorem dX11_isOne_16 : decode cX11_isOne 16 = .ok (.aload_n 0, 1) := by decide +kernel
theorem dX11_isOne_17 : decode cX11_isOne 17 = .ok (.bipush 64, 2) := by decide +kernel
theorem dX11_isOne_19 : decode cX11_isOne 19 = .ok (.iload_n 1, 1) := by decide +kernel
theorem dX11_isOne_20 : decode cX11_isOne 20 = .ok (.imul, 1) := by decide +kernel
theorem dX11_isOne_21 : decode cX11_isOne 21 = .ok (.iload_n 3, 1) := by decide +kernel
theorem dX11_isOne_22 : decode cX11_isOne 22 = .ok (.iadd, 1) := by decide +kernel
theorem dX11_isOne_23 : decode cX11_isOne 23 = .ok (.bipush 8, 2) := by decide +kernel
theorem dX11_isOne_25 : decode cX11_isOne 25 = .ok (.iload 5, 2) := by decide +kernel
theorem dX11_isOne_27 : decode cX11_isOne 27 = .ok (.iload_n 2, 1) := by decide +kernel
theorem dX11_isOne_28 : decode cX11_isOne 28 = .ok (.idiv, 1) := by decide +kernel
theorem dX11_isOne_29 : decode cX11_isOne 29 = .ok (.imul, 1) := by decide +kernel
theorem dX11_isOne_30 : decode cX11_isOne 30 = .ok (.iadd, 1) := by decide +kernel
theorem dX11_isOne_31 : decode cX11_isOne 31 = .ok (.iload 5, 2) := by decide +kernel
theorem dX11_isOne_33 : decode cX11_isOne 33 = .ok (.iload_n 2, 1) := by decide +kernel
theorem dX11_isOne_34 : decode cX11_isOne 34 = .ok (.irem, 1) := by decide +kernel
theorem dX11_isOne_35 : decode cX11_isOne 35 = .ok (.iadd, 1) := by decide +kernel
theorem dX11_isOne_36 : decode cX11_isOne 36 = .ok (.invokevirtual 105, 3) := by decide +kernel
theorem dX11_isOne_39 : decode cX11_isOne 39 = .ok (.aload_n 0, 1) := by decide +kernel
theorem dX11_isOne_40 : decode cX11_isOne 40 = .ok (.bipush 64, 2) := by decide +kernel
theorem dX11_isOne_42 : decode cX11_isOne 42 = .ok (.iload_n 1, 1) := by decide +kernel
theorem dX11_isOne_43 : decode cX11_isOne 43 = .ok (.imul, 1) := by decide +kernel
theorem dX11_isOne_44 : decode cX11_isOne 44 = .ok (.iload_n 3, 1) := by decide +kernel
theorem dX11_isOne_45 : decode cX11_isOne 45 = .ok (.iadd, 1) := by decide +kernel
theorem dX11_isOne_46 : decode cX11_isOne 46 = .ok (.invokevirtual 105, 3) := by decide +kernel
theorem dX11_isOne_49 : decode cX11_isOne 49 = .ok (.if_icmp .ne 7, 3) := by decide +kernel
theorem dX11_isOne_52 : decode cX11_isOne 52 = .ok (.iconst 1, 1) := by decide +kernel
theorem dX11_isOne_53 : decode cX11_isOne 53 = .ok (.goto 4, 3) := by decide +kernel
theorem dX11_isOne_56 : decode cX11_isOne 56 = .ok (.iconst 0, 1) := by decide +kernel
theorem dX11_isOne_57 : decode cX11_isOne 57 = .ok (.iand, 1) := by decide +kernel
theorem dX11_isOne_58 : decode cX11_isOne 58 = .ok (.istore 4, 2) := by decide +kernel
theorem dX11_isOne_60 : decode cX11_isOne 60 = .ok (.iinc 5 1, 3) := by decide +kernel
theorem dX11_isOne_63 : decode cX11_isOne 63 = .ok (.goto (-57), 3) := by decide +kernel
theorem dX11_isOne_66 : decode cX11_isOne 66 = .ok (.iload 4, 2) := by decide +kernel
theorem dX11_isOne_68 : decode cX11_isOne 68 = .ok (.ireturn, 1) := by decide +kernel
theorem dX11_leaves_0 : decode cX11_leaves 0 = .ok (.aload_n 0, 1) := by decide +kernel
theorem dX11_leaves_1 : decode cX11_leaves 1 = .ok (.iload_n 1, 1) := by decide +kernel
theorem dX11_leaves_2 : decode cX11_leaves 2 = .ok (.invokestatic 108, 3) := by decide +kernel
theorem dX11_leaves_5 : decode cX11_leaves 5 = .ok (.iconst 1, 1) := by decide +kernel
theorem dX11_leaves_6 : decode cX11_leaves 6 = .ok (.invokevirtual 112, 3) := by decide +kernel
theorem dX11_leaves_9 : decode cX11_leaves 9 = .ok (.ifCond .eq 5, 3) := by decide +kernel
theorem dX11_leaves_12 : decode cX11_leaves 12 = .ok (.iconst 0, 1) := by decide +kernel
theorem dX11_leaves_13 : decode cX11_leaves 13 = .ok (.ireturn, 1) := by decide +kernel
theorem dX11_leaves_14 : decode cX11_leaves 14 = .ok (.iconst 0, 1) := by decide +kernel
theorem dX11_leaves_15 : decode cX11_leaves 15 = .ok (.istore_n 2, 1) := by decide +kernel
theorem dX11_leaves_16 : decode cX11_leaves 16 = .ok (.iconst 0, 1) := by decide +kernel
theorem dX11_leaves_17 : decode cX11_leaves 17 = .ok (.istore_n 3, 1) := by decide +kernel
theorem dX11_leaves_18 : decode cX11_leaves 18 = .ok (.iload_n 3, 1) := by decide +kernel
theorem dX11_leaves_19 : decode cX11_leaves 19 = .ok (.iconst 4, 1) := by decide +kernel
theorem dX11_leaves_20 : decode cX11_leaves 20 = .ok (.if_icmp .ge 138, 3) := by decide +kernel
theorem dX11_leaves_23 : decode cX11_leaves 23 = .ok (.iload_n 3, 1) := by decide +kernel
theorem dX11_leaves_24 : decode cX11_leaves 24 = .ok (.invokestatic 156, 3) := by decide +kernel
theorem dX11_leaves_27 : decode cX11_leaves 27 = .ok (.istore 4, 2) := by decide +kernel
theorem dX11_leaves_29 : decode cX11_leaves 29 = .ok (.iconst 0, 1) := by decide +kernel
theorem dX11_leaves_30 : decode cX11_leaves 30 = .ok (.istore 5, 2) := by decide +kernel
theorem dX11_leaves_32 : decode cX11_leaves 32 = .ok (.iload 5, 2) := by decide +kernel
theorem dX11_leaves_34 : decode cX11_leaves 34 = .ok (.bipush 64, 2) := by decide +kernel
theorem dX11_leaves_36 : decode cX11_leaves 36 = .ok (.if_icmp .ge 116, 3) := by decide +kernel
theorem dX11_leaves_39 : decode cX11_leaves 39 = .ok (.iload 5, 2) := by decide +kernel
theorem dX11_leaves_41 : decode cX11_leaves 41 = .ok (.bipush 8, 2) := by decide +kernel
theorem dX11_leaves_43 : decode cX11_leaves 43 = .ok (.irem, 1) := by decide +kernel
theorem dX11_leaves_44 : decode cX11_leaves 44 = .ok (.iload 4, 2) := by decide +kernel
theorem dX11_leaves_46 : decode cX11_leaves 46 = .ok (.irem, 1) := by decide +kernel
theorem dX11_leaves_47 : decode cX11_leaves 47 = .ok (.ifCond .ne 30, 3) := by decide +kernel
theorem dX11_leaves_50 : decode cX11_leaves 50 = .ok (.iload 5, 2) := by decide +kernel
theorem dX11_leaves_52 : decode cX11_leaves 52 = .ok (.bipush 8, 2) := by decide +kernel
theorem dX11_leaves_54 : decode cX11_leaves 54 = .ok (.idiv, 1) := by decide +kernel
theorem dX11_leaves_55 : decode cX11_leaves 55 = .ok (.iload 4, 2) := by decide +kernel
theorem dX11_leaves_57 : decode cX11_leaves 57 = .ok (.irem, 1) := by decide +kernel
theorem dX11_leaves_58 : decode cX11_leaves 58 = .ok (.ifCond .ne 19, 3) := by decide +kernel
theorem dX11_leaves_61 : decode cX11_leaves 61 = .ok (.aload_n 0, 1) := by decide +kernel
theorem dX11_leaves_62 : decode cX11_leaves 62 = .ok (.iload_n 1, 1) := by decide +kernel
theorem dX11_leaves_63 : decode cX11_leaves 63 = .ok (.iload 4, 2) := by decide +kernel
theorem dX11_leaves_65 : decode cX11_leaves 65 = .ok (.iload 5, 2) := by decide +kernel
theorem dX11_leaves_67 : decode cX11_leaves 67 = .ok (.invokevirtual 187, 3) := by decide +kernel
theorem dX11_leaves_70 : decode cX11_leaves 70 = .ok (.ifCond .eq 7, 3) := by decide +kernel
theorem dX11_leaves_73 : decode cX11_leaves 73 = .ok (.iconst 1, 1) := by decide +kernel
theorem dX11_leaves_74 : decode cX11_leaves 74 = .ok (.goto 4, 3) := by decide +kernel
theorem dX11_leaves_77 : decode cX11_leaves 77 = .ok (.iconst 0, 1) := by decide +kernel
theorem dX11_leaves_78 : decode cX11_leaves 78 = .ok (.istore 6, 2) := by decide +kernel
theorem dX11_leaves_80 : decode cX11_leaves 80 = .ok (.iconst 2, 1) := by decide +kernel
theorem dX11_leaves_81 : decode cX11_leaves 81 = .ok (.iload 4, 2) := by decide +kernel
theorem dX11_leaves_83 : decode cX11_leaves 83 = .ok (.imul, 1) := by decide +kernel
theorem dX11_leaves_84 : decode cX11_leaves 84 = .ok (.istore 7, 2) := by decide +kernel
theorem dX11_leaves_86 : decode cX11_leaves 86 = .ok (.bipush 8, 2) := by decide +kernel
theorem dX11_leaves_88 : decode cX11_leaves 88 = .ok (.iload 5, 2) := by decide +kernel
theorem dX11_leaves_90 : decode cX11_leaves 90 = .ok (.bipush 8, 2) := by decide +kernel
theorem dX11_leaves_92 : decode cX11_leaves 92 = .ok (.idiv, 1) := by decide +kernel
theorem dX11_leaves_93 : decode cX11_leaves 93 = .ok (.iload 7, 2) := by decide +kernel
theorem dX11_leaves_95 : decode cX11_leaves 95 = .ok (.idiv, 1) := by decide +kernel
theorem dX11_leaves_96 : decode cX11_leaves 96 = .ok (.iload 7, 2) := by decide +kernel
theorem dX11_leaves_98 : decode cX11_leaves 98 = .ok (.imul, 1) := by decide +kernel
theorem dX11_leaves_99 : decode cX11_leaves 99 = .ok (.imul, 1) := by decide +kernel
theorem dX11_leaves_100 : decode cX11_leaves 100 = .ok (.iload 5, 2) := by decide +kernel
theorem dX11_leaves_102 : decode cX11_leaves 102 = .ok (.bipush 8, 2) := by decide +kernel
theorem dX11_leaves_104 : decode cX11_leaves 104 = .ok (.irem, 1) := by decide +kernel
theorem dX11_leaves_105 : decode cX11_leaves 105 = .ok (.iload 7, 2) := by decide +kernel
theorem dX11_leaves_107 : decode cX11_leaves 107 = .ok (.idiv, 1) := by decide +kernel
theorem dX11_leaves_108 : decode cX11_leaves 108 = .ok (.iload 7, 2) := by decide +kernel
theorem dX11_leaves_110 : decode cX11_leaves 110 = .ok (.imul, 1) := by decide +kernel
theorem dX11_leaves_111 : decode cX11_leaves 111 = .ok (.iadd, 1) := by decide +kernel
theorem dX11_leaves_112 : decode cX11_leaves 112 = .ok (.istore 8, 2) := by decide +kernel
theorem dX11_leaves_114 : decode cX11_leaves 114 = .ok (.iload_n 2, 1) := by decide +kernel
theorem dX11_leaves_115 : decode cX11_leaves 115 = .ok (.iload 6, 2) := by decide +kernel
theorem dX11_leaves_117 : decode cX11_leaves 117 = .ok (.ifCond .eq 26, 3) := by decide +kernel
theorem dX11_leaves_120 : decode cX11_leaves 120 = .ok (.iload 4, 2) := by decide +kernel
theorem dX11_leaves_122 : decode cX11_leaves 122 = .ok (.bipush 8, 2) := by decide +kernel
theorem dX11_leaves_124 : decode cX11_leaves 124 = .ok (.if_icmp .eq 15, 3) := by decide +kernel
theorem dX11_leaves_127 : decode cX11_leaves 127 = .ok (.aload_n 0, 1) := by decide +kernel
theorem dX11_leaves_128 : decode cX11_leaves 128 = .ok (.iload_n 1, 1) := by decide +kernel
theorem dX11_leaves_129 : decode cX11_leaves 129 = .ok (.iload 7, 2) := by decide +kernel
theorem dX11_leaves_131 : decode cX11_leaves 131 = .ok (.iload 8, 2) := by decide +kernel
theorem dX11_leaves_133 : decode cX11_leaves 133 = .ok (.invokevirtual 187, 3) := by decide +kernel
theorem dX11_leaves_136 : decode cX11_leaves 136 = .ok (.ifCond .ne 7, 3) := by decide +kernel
theorem dX11_leaves_139 : decode cX11_leaves 139 = .ok (.iconst 1, 1) := by decide +kernel
theorem dX11_leaves_140 : decode cX11_leaves 140 = .ok (.goto 4, 3) := by decide +kernel
theorem dX11_leaves_143 : decode cX11_leaves 143 = .ok (.iconst 0, 1) := by decide +kernel
theorem dX11_leaves_144 : decode cX11_leaves 144 = .ok (.iadd, 1) := by decide +kernel
theorem dX11_leaves_145 : decode cX11_leaves 145 = .ok (.istore_n 2, 1) := by decide +kernel
theorem dX11_leaves_146 : decode cX11_leaves 146 = .ok (.iinc 5 1, 3) := by decide +kernel
theorem dX11_leaves_149 : decode cX11_leaves 149 = .ok (.goto (-117), 3) := by decide +kernel
theorem dX11_leaves_152 : decode cX11_leaves 152 = .ok (.iinc 3 1, 3) := by decide +kernel
theorem dX11_leaves_155 : decode cX11_leaves 155 = .ok (.goto (-137), 3) := by decide +kernel
theorem dX11_leaves_158 : decode cX11_leaves 158 = .ok (.iload_n 2, 1) := by decide +kernel
theorem dX11_leaves_159 : decode cX11_leaves 159 = .ok (.ireturn, 1) := by decide +kernel
theorem dX11_border_0 : decode cX11_border 0 = .ok (.aload_n 0, 1) := by decide +kernel
theorem dX11_border_1 : decode cX11_border 1 = .ok (.iload_n 1, 1) := by decide +kernel
theorem dX11_border_2 : decode cX11_border 2 = .ok (.invokestatic 108, 3) := by decide +kernel
theorem dX11_border_5 : decode cX11_border 5 = .ok (.ifCond .eq 32, 3) := by decide +kernel
theorem dX11_border_8 : decode cX11_border 8 = .ok (.iload_n 2, 1) := by decide +kernel
theorem dX11_border_9 : decode cX11_border 9 = .ok (.iconst 0, 1) := by decide +kernel
theorem dX11_border_10 : decode cX11_border 10 = .ok (.bipush 9, 2) := by decide +kernel
theorem dX11_border_12 : decode cX11_border 12 = .ok (.invokestatic 75, 3) := by decide +kernel
theorem dX11_border_15 : decode cX11_border 15 = .ok (.ifCond .eq 22, 3) := by decide +kernel
theorem dX11_border_18 : decode cX11_border 18 = .ok (.iload_n 3, 1) := by decide +kernel
theorem dX11_border_19 : decode cX11_border 19 = .ok (.iconst 0, 1) := by decide +kernel
theorem dX11_border_20 : decode cX11_border 20 = .ok (.bipush 9, 2) := by decide +kernel
theorem dX11_border_22 : decode cX11_border 22 = .ok (.invokestatic 75, 3) := by decide +kernel
theorem dX11_border_25 : decode cX11_border 25 = .ok (.ifCond .eq 12, 3) := by decide +kernel
theorem dX11_border_28 : decode cX11_border 28 = .ok (.iload_n 2, 1) := by decide +kernel
theorem dX11_border_29 : decode cX11_border 29 = .ok (.iload_n 3, 1) := by decide +kernel
theorem dX11_border_30 : decode cX11_border 30 = .ok (.if_icmp .eq 7, 3) := by decide +kernel
theorem dX11_border_33 : decode cX11_border 33 = .ok (.iconst 1, 1) := by decide +kernel
theorem dX11_border_34 : decode cX11_border 34 = .ok (.goto 4, 3) := by decide +kernel
theorem dX11_border_37 : decode cX11_border 37 = .ok (.iconst 0, 1) := by decide +kernel
theorem dX11_border_38 : decode cX11_border 38 = .ok (.iconst 1, 1) := by decide +kernel
theorem dX11_border_39 : decode cX11_border 39 = .ok (.invokevirtual 112, 3) := by decide +kernel
theorem dX11_border_42 : decode cX11_border 42 = .ok (.ifCond .eq 5, 3) := by decide +kernel
theorem dX11_border_45 : decode cX11_border 45 = .ok (.iconst 0, 1) := by decide +kernel
theorem dX11_border_46 : decode cX11_border 46 = .ok (.ireturn, 1) := by decide +kernel
theorem dX11_border_47 : decode cX11_border 47 = .ok (.iconst 0, 1) := by decide +kernel
theorem dX11_border_48 : decode cX11_border 48 = .ok (.istore 4, 2) := by decide +kernel
theorem dX11_border_50 : decode cX11_border 50 = .ok (.iconst 0, 1) := by decide +kernel
theorem dX11_border_51 : decode cX11_border 51 = .ok (.istore 5, 2) := by decide +kernel
theorem dX11_border_53 : decode cX11_border 53 = .ok (.iload 5, 2) := by decide +kernel
theorem dX11_border_55 : decode cX11_border 55 = .ok (.sipush 256, 3) := by decide +kernel
theorem dX11_border_58 : decode cX11_border 58 = .ok (.if_icmp .ge 69, 3) := by decide +kernel
theorem dX11_border_61 : decode cX11_border 61 = .ok (.iload 5, 2) := by decide +kernel
theorem dX11_border_63 : decode cX11_border 63 = .ok (.iconst 4, 1) := by decide +kernel
theorem dX11_border_64 : decode cX11_border 64 = .ok (.idiv, 1) := by decide +kernel
theorem dX11_border_65 : decode cX11_border 65 = .ok (.iload 5, 2) := by decide +kernel
theorem dX11_border_67 : decode cX11_border 67 = .ok (.iconst 4, 1) := by decide +kernel
theorem dX11_border_68 : decode cX11_border 68 = .ok (.irem, 1) := by decide +kernel
theorem dX11_border_69 : decode cX11_border 69 = .ok (.invokestatic 79, 3) := by decide +kernel
theorem dX11_border_72 : decode cX11_border 72 = .ok (.istore 6, 2) := by decide +kernel
theorem dX11_border_74 : decode cX11_border 74 = .ok (.iload 4, 2) := by decide +kernel
theorem dX11_border_76 : decode cX11_border 76 = .ok (.iload 6, 2) := by decide +kernel
theorem dX11_border_78 : decode cX11_border 78 = .ok (.ifCond .lt 39, 3) := by decide +kernel
theorem dX11_border_81 : decode cX11_border 81 = .ok (.aload_n 0, 1) := by decide +kernel
theorem dX11_border_82 : decode cX11_border 82 = .ok (.bipush 64, 2) := by decide +kernel
theorem dX11_border_84 : decode cX11_border 84 = .ok (.iload_n 1, 1) := by decide +kernel
theorem dX11_border_85 : decode cX11_border 85 = .ok (.imul, 1) := by decide +kernel
theorem dX11_border_86 : decode cX11_border 86 = .ok (.iload 5, 2) := by decide +kernel
theorem dX11_border_88 : decode cX11_border 88 = .ok (.iconst 4, 1) := by decide +kernel
theorem dX11_border_89 : decode cX11_border 89 = .ok (.idiv, 1) := by decide +kernel
theorem dX11_border_90 : decode cX11_border 90 = .ok (.iadd, 1) := by decide +kernel
theorem dX11_border_91 : decode cX11_border 91 = .ok (.invokevirtual 105, 3) := by decide +kernel
theorem dX11_border_94 : decode cX11_border 94 = .ok (.iload_n 2, 1) := by decide +kernel
theorem dX11_border_95 : decode cX11_border 95 = .ok (.if_icmp .ne 22, 3) := by decide +kernel
theorem dX11_border_98 : decode cX11_border 98 = .ok (.aload_n 0, 1) := by decide +kernel
theorem dX11_border_99 : decode cX11_border 99 = .ok (.bipush 64, 2) := by decide +kernel
theorem dX11_border_101 : decode cX11_border 101 = .ok (.iload_n 1, 1) := by decide +kernel
theorem dX11_border_102 : decode cX11_border 102 = .ok (.imul, 1) := by decide +kernel
theorem dX11_border_103 : decode cX11_border 103 = .ok (.iload 6, 2) := by decide +kernel
theorem dX11_border_105 : decode cX11_border 105 = .ok (.iadd, 1) := by decide +kernel
theorem dX11_border_106 : decode cX11_border 106 = .ok (.invokevirtual 105, 3) := by decide +kernel
theorem dX11_border_109 : decode cX11_border 109 = .ok (.iload_n 3, 1) := by decide +kernel
theorem dX11_border_110 : decode cX11_border 110 = .ok (.if_icmp .ne 7, 3) := by decide +kernel
theorem dX11_border_113 : decode cX11_border 113 = .ok (.iconst 1, 1) := by decide +kernel
theorem dX11_border_114 : decode cX11_border 114 = .ok (.goto 4, 3) := by decide +kernel
theorem dX11_border_117 : decode cX11_border 117 = .ok (.iconst 0, 1) := by decide +kernel
theorem dX11_border_118 : decode cX11_border 118 = .ok (.iadd, 1) := by decide +kernel
theorem dX11_border_119 : decode cX11_border 119 = .ok (.istore 4, 2) := by decide +kernel
theorem dX11_border_121 : decode cX11_border 121 = .ok (.iinc 5 1, 3) := by decide +kernel
theorem dX11_border_124 : decode cX11_border 124 = .ok (.goto (-71), 3) := by decide +kernel
theorem dX11_border_127 : decode cX11_border 127 = .ok (.iload 4, 2) := by decide +kernel
theorem dX11_border_129 : decode cX11_border 129 = .ok (.ireturn, 1) := by decide +kernel
theorem dX11_sizeOf_0 : decode cX11_sizeOf 0 = .ok (.iconst 0, 1) := by decide +kernel
theorem dX11_sizeOf_1 : decode cX11_sizeOf 1 = .ok (.istore_n 3, 1) := by decide +kernel
theorem dX11_sizeOf_2 : decode cX11_sizeOf 2 = .ok (.iconst 0, 1) := by decide +kernel
theorem dX11_sizeOf_3 : decode cX11_sizeOf 3 = .ok (.istore 4, 2) := by decide +kernel
theorem dX11_sizeOf_5 : decode cX11_sizeOf 5 = .ok (.iload 4, 2) := by decide +kernel
theorem dX11_sizeOf_7 : decode cX11_sizeOf 7 = .ok (.bipush 64, 2) := by decide +kernel
theorem dX11_sizeOf_9 : decode cX11_sizeOf 9 = .ok (.if_icmp .ge 32, 3) := by decide +kernel
theorem dX11_sizeOf_12 : decode cX11_sizeOf 12 = .ok (.iload_n 3, 1) := by decide +kernel
theorem dX11_sizeOf_13 : decode cX11_sizeOf 13 = .ok (.aload_n 0, 1) := by decide +kernel
theorem dX11_sizeOf_14 : decode cX11_sizeOf 14 = .ok (.bipush 64, 2) := by decide +kernel
theorem dX11_sizeOf_16 : decode cX11_sizeOf 16 = .ok (.iload_n 1, 1) := by decide +kernel
theorem dX11_sizeOf_17 : decode cX11_sizeOf 17 = .ok (.imul, 1) := by decide +kernel
theorem dX11_sizeOf_18 : decode cX11_sizeOf 18 = .ok (.iload 4, 2) := by decide +kernel
theorem dX11_sizeOf_20 : decode cX11_sizeOf 20 = .ok (.iadd, 1) := by decide +kernel
theorem dX11_sizeOf_21 : decode cX11_sizeOf 21 = .ok (.invokevirtual 105, 3) := by decide +kernel
theorem dX11_sizeOf_24 : decode cX11_sizeOf 24 = .ok (.iload_n 2, 1) := by decide +kernel
theorem dX11_sizeOf_25 : decode cX11_sizeOf 25 = .ok (.if_icmp .ne 7, 3) := by decide +kernel
theorem dX11_sizeOf_28 : decode cX11_sizeOf 28 = .ok (.iconst 1, 1) := by decide +kernel
theorem dX11_sizeOf_29 : decode cX11_sizeOf 29 = .ok (.goto 4, 3) := by decide +kernel
theorem dX11_sizeOf_32 : decode cX11_sizeOf 32 = .ok (.iconst 0, 1) := by decide +kernel
theorem dX11_sizeOf_33 : decode cX11_sizeOf 33 = .ok (.iadd, 1) := by decide +kernel
theorem dX11_sizeOf_34 : decode cX11_sizeOf 34 = .ok (.istore_n 3, 1) := by decide +kernel
theorem dX11_sizeOf_35 : decode cX11_sizeOf 35 = .ok (.iinc 4 1, 3) := by decide +kernel
theorem dX11_sizeOf_38 : decode cX11_sizeOf 38 = .ok (.goto (-33), 3) := by decide +kernel
theorem dX11_sizeOf_41 : decode cX11_sizeOf 41 = .ok (.iload_n 3, 1) := by decide +kernel
theorem dX11_sizeOf_42 : decode cX11_sizeOf 42 = .ok (.ireturn, 1) := by decide +kernel
theorem dX11_size__0 : decode cX11_size_ 0 = .ok (.aload_n 0, 1) := by decide +kernel
theorem dX11_size__1 : decode cX11_size_ 1 = .ok (.iload_n 1, 1) := by decide +kernel
theorem dX11_size__2 : decode cX11_size_ 2 = .ok (.invokestatic 108, 3) := by decide +kernel
theorem dX11_size__5 : decode cX11_size_ 5 = .ok (.ifCond .eq 17, 3) := by decide +kernel
theorem dX11_size__8 : decode cX11_size_ 8 = .ok (.iload_n 2, 1) := by decide +kernel
theorem dX11_size__9 : decode cX11_size_ 9 = .ok (.iconst 1, 1) := by decide +kernel
theorem dX11_size__10 : decode cX11_size_ 10 = .ok (.bipush 9, 2) := by decide +kernel
theorem dX11_size__12 : decode cX11_size_ 12 = .ok (.invokestatic 75, 3) := by decide +kernel
theorem dX11_size__15 : decode cX11_size_ 15 = .ok (.ifCond .eq 7, 3) := by decide +kernel
theorem dX11_size__18 : decode cX11_size_ 18 = .ok (.iconst 1, 1) := by decide +kernel
theorem dX11_size__19 : decode cX11_size_ 19 = .ok (.goto 4, 3) := by decide +kernel
theorem dX11_size__22 : decode cX11_size_ 22 = .ok (.iconst 0, 1) := by decide +kernel
theorem dX11_size__23 : decode cX11_size_ 23 = .ok (.iconst 1, 1) := by decide +kernel
theorem dX11_size__24 : decode cX11_size_ 24 = .ok (.invokevirtual 112, 3) := by decide +kernel
theorem dX11_size__27 : decode cX11_size_ 27 = .ok (.ifCond .eq 7, 3) := by decide +kernel
theorem dX11_size__30 : decode cX11_size_ 30 = .ok (.iconst 0, 1) := by decide +kernel
theorem dX11_size__31 : decode cX11_size_ 31 = .ok (.goto 9, 3) := by decide +kernel
theorem dX11_size__34 : decode cX11_size_ 34 = .ok (.aload_n 0, 1) := by decide +kernel
theorem dX11_size__35 : decode cX11_size_ 35 = .ok (.iload_n 1, 1) := by decide +kernel
theorem dX11_size__36 : decode cX11_size_ 36 = .ok (.iload_n 2, 1) := by decide +kernel
theorem dX11_size__37 : decode cX11_size_ 37 = .ok (.invokevirtual 190, 3) := by decide +kernel
theorem dX11_size__40 : decode cX11_size_ 40 = .ok (.ireturn, 1) := by decide +kernel
theorem dX11_walk_0 : decode cX11_walk 0 = .ok (.aload_n 0, 1) := by decide +kernel
theorem dX11_walk_1 : decode cX11_walk 1 = .ok (.iload_n 1, 1) := by decide +kernel
theorem dX11_walk_2 : decode cX11_walk 2 = .ok (.invokestatic 108, 3) := by decide +kernel
theorem dX11_walk_5 : decode cX11_walk 5 = .ok (.ifCond .eq 17, 3) := by decide +kernel
theorem dX11_walk_8 : decode cX11_walk 8 = .ok (.iload_n 2, 1) := by decide +kernel
theorem dX11_walk_9 : decode cX11_walk 9 = .ok (.iconst 1, 1) := by decide +kernel
theorem dX11_walk_10 : decode cX11_walk 10 = .ok (.bipush 9, 2) := by decide +kernel
theorem dX11_walk_12 : decode cX11_walk 12 = .ok (.invokestatic 75, 3) := by decide +kernel
theorem dX11_walk_15 : decode cX11_walk 15 = .ok (.ifCond .eq 7, 3) := by decide +kernel
theorem dX11_walk_18 : decode cX11_walk 18 = .ok (.iconst 1, 1) := by decide +kernel
theorem dX11_walk_19 : decode cX11_walk 19 = .ok (.goto 4, 3) := by decide +kernel
theorem dX11_walk_22 : decode cX11_walk 22 = .ok (.iconst 0, 1) := by decide +kernel
theorem dX11_walk_23 : decode cX11_walk 23 = .ok (.iconst 1, 1) := by decide +kernel
theorem dX11_walk_24 : decode cX11_walk 24 = .ok (.invokevirtual 112, 3) := by decide +kernel
theorem dX11_walk_27 : decode cX11_walk 27 = .ok (.ifCond .eq 5, 3) := by decide +kernel
theorem dX11_walk_30 : decode cX11_walk 30 = .ok (.iconst 0, 1) := by decide +kernel
theorem dX11_walk_31 : decode cX11_walk 31 = .ok (.ireturn, 1) := by decide +kernel
theorem dX11_walk_32 : decode cX11_walk 32 = .ok (.aload_n 0, 1) := by decide +kernel
theorem dX11_walk_33 : decode cX11_walk 33 = .ok (.iload_n 1, 1) := by decide +kernel
theorem dX11_walk_34 : decode cX11_walk 34 = .ok (.putfield 65, 3) := by decide +kernel
theorem dX11_walk_37 : decode cX11_walk 37 = .ok (.aload_n 0, 1) := by decide +kernel
theorem dX11_walk_38 : decode cX11_walk 38 = .ok (.iload_n 2, 1) := by decide +kernel
theorem dX11_walk_39 : decode cX11_walk 39 = .ok (.putfield 193, 3) := by decide +kernel
theorem dX11_walk_42 : decode cX11_walk 42 = .ok (.aload_n 0, 1) := by decide +kernel
theorem dX11_walk_43 : decode cX11_walk 43 = .ok (.iconst (-1), 1) := by decide +kernel
theorem dX11_walk_44 : decode cX11_walk 44 = .ok (.putfield 196, 3) := by decide +kernel
theorem dX11_walk_47 : decode cX11_walk 47 = .ok (.aload_n 0, 1) := by decide +kernel
theorem dX11_walk_48 : decode cX11_walk 48 = .ok (.iload_n 1, 1) := by decide +kernel
theorem dX11_walk_49 : decode cX11_walk 49 = .ok (.iload_n 2, 1) := by decide +kernel
theorem dX11_walk_50 : decode cX11_walk 50 = .ok (.invokevirtual 190, 3) := by decide +kernel
theorem dX11_walk_53 : decode cX11_walk 53 = .ok (.ireturn, 1) := by decide +kernel
theorem dX11_nextPlace_0 : decode cX11_nextPlace 0 = .ok (.iconst (-1), 1) := by decide +kernel
theorem dX11_nextPlace_1 : decode cX11_nextPlace 1 = .ok (.istore_n 1, 1) := by decide +kernel
theorem dX11_nextPlace_2 : decode cX11_nextPlace 2 = .ok (.bipush 63, 2) := by decide +kernel
theorem dX11_nextPlace_4 : decode cX11_nextPlace 4 = .ok (.istore_n 2, 1) := by decide +kernel
theorem dX11_nextPlace_5 : decode cX11_nextPlace 5 = .ok (.iload_n 2, 1) := by decide +kernel
theorem dX11_nextPlace_6 : decode cX11_nextPlace 6 = .ok (.aload_n 0, 1) := by decide +kernel
theorem dX11_nextPlace_7 : decode cX11_nextPlace 7 = .ok (.getfield 196, 3) := by decide +kernel
theorem dX11_nextPlace_10 : decode cX11_nextPlace 10 = .ok (.if_icmp .le 42, 3) := by decide +kernel
theorem dX11_nextPlace_13 : decode cX11_nextPlace 13 = .ok (.aload_n 0, 1) := by decide +kernel
theorem dX11_nextPlace_14 : decode cX11_nextPlace 14 = .ok (.getfield 65, 3) := by decide +kernel
theorem dX11_nextPlace_17 : decode cX11_nextPlace 17 = .ok (.ifCond .lt 35, 3) := by decide +kernel
theorem dX11_nextPlace_20 : decode cX11_nextPlace 20 = .ok (.aload_n 0, 1) := by decide +kernel
theorem dX11_nextPlace_21 : decode cX11_nextPlace 21 = .ok (.bipush 64, 2) := by decide +kernel
theorem dX11_nextPlace_23 : decode cX11_nextPlace 23 = .ok (.aload_n 0, 1) := by decide +kernel
theorem dX11_nextPlace_24 : decode cX11_nextPlace 24 = .ok (.getfield 65, 3) := by decide +kernel
theorem dX11_nextPlace_27 : decode cX11_nextPlace 27 = .ok (.imul, 1) := by decide +kernel
theorem dX11_nextPlace_28 : decode cX11_nextPlace 28 = .ok (.iload_n 2, 1) := by decide +kernel
theorem dX11_nextPlace_29 : decode cX11_nextPlace 29 = .ok (.iadd, 1) := by decide +kernel
theorem dX11_nextPlace_30 : decode cX11_nextPlace 30 = .ok (.invokevirtual 105, 3) := by decide +kernel
theorem dX11_nextPlace_33 : decode cX11_nextPlace 33 = .ok (.aload_n 0, 1) := by decide +kernel
theorem dX11_nextPlace_34 : decode cX11_nextPlace 34 = .ok (.getfield 193, 3) := by decide +kernel
theorem dX11_nextPlace_37 : decode cX11_nextPlace 37 = .ok (.if_icmp .ne 7, 3) := by decide +kernel
theorem dX11_nextPlace_40 : decode cX11_nextPlace 40 = .ok (.iload_n 2, 1) := by decide +kernel
theorem dX11_nextPlace_41 : decode cX11_nextPlace 41 = .ok (.goto 4, 3) := by decide +kernel
theorem dX11_nextPlace_44 : decode cX11_nextPlace 44 = .ok (.iload_n 1, 1) := by decide +kernel
theorem dX11_nextPlace_45 : decode cX11_nextPlace 45 = .ok (.istore_n 1, 1) := by decide +kernel
theorem dX11_nextPlace_46 : decode cX11_nextPlace 46 = .ok (.iinc 2 (-1), 3) := by decide +kernel
theorem dX11_nextPlace_49 : decode cX11_nextPlace 49 = .ok (.goto (-44), 3) := by decide +kernel
theorem dX11_nextPlace_52 : decode cX11_nextPlace 52 = .ok (.iload_n 1, 1) := by decide +kernel
theorem dX11_nextPlace_53 : decode cX11_nextPlace 53 = .ok (.ireturn, 1) := by decide +kernel
theorem dX11_hasNext_0 : decode cX11_hasNext 0 = .ok (.aload_n 0, 1) := by decide +kernel
theorem dX11_hasNext_1 : decode cX11_hasNext 1 = .ok (.invokevirtual 199, 3) := by decide +kernel
theorem dX11_hasNext_4 : decode cX11_hasNext 4 = .ok (.ifCond .lt 7, 3) := by decide +kernel
theorem dX11_hasNext_7 : decode cX11_hasNext 7 = .ok (.iconst 1, 1) := by decide +kernel
theorem dX11_hasNext_8 : decode cX11_hasNext 8 = .ok (.goto 4, 3) := by decide +kernel
theorem dX11_hasNext_11 : decode cX11_hasNext 11 = .ok (.iconst 0, 1) := by decide +kernel
theorem dX11_hasNext_12 : decode cX11_hasNext 12 = .ok (.ireturn, 1) := by decide +kernel
theorem dX11_next_0 : decode cX11_next 0 = .ok (.aload_n 0, 1) := by decide +kernel
theorem dX11_next_1 : decode cX11_next 1 = .ok (.aload_n 0, 1) := by decide +kernel
theorem dX11_next_2 : decode cX11_next 2 = .ok (.getfield 65, 3) := by decide +kernel
theorem dX11_next_5 : decode cX11_next 5 = .ok (.ifCond .lt 7, 3) := by decide +kernel
theorem dX11_next_8 : decode cX11_next 8 = .ok (.iconst 1, 1) := by decide +kernel
theorem dX11_next_9 : decode cX11_next 9 = .ok (.goto 4, 3) := by decide +kernel
theorem dX11_next_12 : decode cX11_next 12 = .ok (.iconst 0, 1) := by decide +kernel
theorem dX11_next_13 : decode cX11_next 13 = .ok (.iconst 1, 1) := by decide +kernel
theorem dX11_next_14 : decode cX11_next 14 = .ok (.invokevirtual 112, 3) := by decide +kernel
theorem dX11_next_17 : decode cX11_next 17 = .ok (.ifCond .ne 23, 3) := by decide +kernel
theorem dX11_next_20 : decode cX11_next 20 = .ok (.aload_n 0, 1) := by decide +kernel
theorem dX11_next_21 : decode cX11_next 21 = .ok (.aload_n 0, 1) := by decide +kernel
theorem dX11_next_22 : decode cX11_next 22 = .ok (.invokevirtual 199, 3) := by decide +kernel
theorem dX11_next_25 : decode cX11_next 25 = .ok (.ifCond .lt 7, 3) := by decide +kernel
theorem dX11_next_28 : decode cX11_next 28 = .ok (.iconst 1, 1) := by decide +kernel
theorem dX11_next_29 : decode cX11_next 29 = .ok (.goto 4, 3) := by decide +kernel
theorem dX11_next_32 : decode cX11_next 32 = .ok (.iconst 0, 1) := by decide +kernel
theorem dX11_next_33 : decode cX11_next 33 = .ok (.iconst 2, 1) := by decide +kernel
theorem dX11_next_34 : decode cX11_next 34 = .ok (.invokevirtual 112, 3) := by decide +kernel
theorem dX11_next_37 : decode cX11_next 37 = .ok (.ifCond .eq 5, 3) := by decide +kernel
theorem dX11_next_40 : decode cX11_next 40 = .ok (.iconst 0, 1) := by decide +kernel
theorem dX11_next_41 : decode cX11_next 41 = .ok (.ireturn, 1) := by decide +kernel
theorem dX11_next_42 : decode cX11_next 42 = .ok (.aload_n 0, 1) := by decide +kernel
theorem dX11_next_43 : decode cX11_next 43 = .ok (.aload_n 0, 1) := by decide +kernel
theorem dX11_next_44 : decode cX11_next 44 = .ok (.invokevirtual 199, 3) := by decide +kernel
theorem dX11_next_47 : decode cX11_next 47 = .ok (.putfield 196, 3) := by decide +kernel
theorem dX11_next_50 : decode cX11_next 50 = .ok (.aload_n 0, 1) := by decide +kernel
theorem dX11_next_51 : decode cX11_next 51 = .ok (.getfield 196, 3) := by decide +kernel
theorem dX11_next_54 : decode cX11_next 54 = .ok (.ireturn, 1) := by decide +kernel
theorem dX11_isDevice_0 : decode cX11_isDevice 0 = .ok (.iload_n 1, 1) := by decide +kernel
theorem dX11_isDevice_1 : decode cX11_isDevice 1 = .ok (.iconst 0, 1) := by decide +kernel
theorem dX11_isDevice_2 : decode cX11_isDevice 2 = .ok (.aload_n 0, 1) := by decide +kernel
theorem dX11_isDevice_3 : decode cX11_isDevice 3 = .ok (.getfield 202, 3) := by decide +kernel
theorem dX11_isDevice_6 : decode cX11_isDevice 6 = .ok (.iconst 1, 1) := by decide +kernel
theorem dX11_isDevice_7 : decode cX11_isDevice 7 = .ok (.isub, 1) := by decide +kernel
theorem dX11_isDevice_8 : decode cX11_isDevice 8 = .ok (.invokestatic 75, 3) := by decide +kernel
theorem dX11_isDevice_11 : decode cX11_isDevice 11 = .ok (.ireturn, 1) := by decide +kernel
theorem dX11_device_0 : decode cX11_device 0 = .ok (.aload_n 0, 1) := by decide +kernel
theorem dX11_device_1 : decode cX11_device 1 = .ok (.aload_n 0, 1) := by decide +kernel
theorem dX11_device_2 : decode cX11_device 2 = .ok (.getfield 202, 3) := by decide +kernel
theorem dX11_device_5 : decode cX11_device 5 = .ok (.iconst 3, 1) := by decide +kernel
theorem dX11_device_6 : decode cX11_device 6 = .ok (.if_icmp .ge 7, 3) := by decide +kernel
theorem dX11_device_9 : decode cX11_device 9 = .ok (.iconst 1, 1) := by decide +kernel
theorem dX11_device_10 : decode cX11_device 10 = .ok (.goto 4, 3) := by decide +kernel
theorem dX11_device_13 : decode cX11_device 13 = .ok (.iconst 0, 1) := by decide +kernel
theorem dX11_device_14 : decode cX11_device 14 = .ok (.iconst 1, 1) := by decide +kernel
theorem dX11_device_15 : decode cX11_device 15 = .ok (.invokevirtual 112, 3) := by decide +kernel
theorem dX11_device_18 : decode cX11_device 18 = .ok (.ifCond .eq 5, 3) := by decide +kernel
theorem dX11_device_21 : decode cX11_device 21 = .ok (.iconst 0, 1) := by decide +kernel
theorem dX11_device_22 : decode cX11_device 22 = .ok (.ireturn, 1) := by decide +kernel
theorem dX11_device_23 : decode cX11_device 23 = .ok (.aload_n 0, 1) := by decide +kernel
theorem dX11_device_24 : decode cX11_device 24 = .ok (.dup, 1) := by decide +kernel
theorem dX11_device_25 : decode cX11_device 25 = .ok (.getfield 202, 3) := by decide +kernel
theorem dX11_device_28 : decode cX11_device 28 = .ok (.iconst 1, 1) := by decide +kernel
theorem dX11_device_29 : decode cX11_device 29 = .ok (.iadd, 1) := by decide +kernel
theorem dX11_device_30 : decode cX11_device 30 = .ok (.putfield 202, 3) := by decide +kernel
theorem dX11_device_33 : decode cX11_device 33 = .ok (.aload_n 0, 1) := by decide +kernel
theorem dX11_device_34 : decode cX11_device 34 = .ok (.getfield 202, 3) := by decide +kernel
theorem dX11_device_37 : decode cX11_device 37 = .ok (.iconst 1, 1) := by decide +kernel
theorem dX11_device_38 : decode cX11_device 38 = .ok (.isub, 1) := by decide +kernel
theorem dX11_device_39 : decode cX11_device 39 = .ok (.ireturn, 1) := by decide +kernel
theorem dX11_note_0 : decode cX11_note 0 = .ok (.iload_n 2, 1) := by decide +kernel
theorem dX11_note_1 : decode cX11_note 1 = .ok (.iconst 0, 1) := by decide +kernel
theorem dX11_note_2 : decode cX11_note 2 = .ok (.sipush 9999, 3) := by decide +kernel
theorem dX11_note_5 : decode cX11_note 5 = .ok (.invokestatic 75, 3) := by decide +kernel
theorem dX11_note_8 : decode cX11_note 8 = .ok (.ifCond .eq 29, 3) := by decide +kernel
theorem dX11_note_11 : decode cX11_note 11 = .ok (.iload_n 3, 1) := by decide +kernel
theorem dX11_note_12 : decode cX11_note 12 = .ok (.iload 4, 2) := by decide +kernel
theorem dX11_note_14 : decode cX11_note 14 = .ok (.iload 5, 2) := by decide +kernel
theorem dX11_note_16 : decode cX11_note 16 = .ok (.invokestatic 132, 3) := by decide +kernel
theorem dX11_note_19 : decode cX11_note 19 = .ok (.ifCond .eq 18, 3) := by decide +kernel
theorem dX11_note_22 : decode cX11_note 22 = .ok (.iload 6, 2) := by decide +kernel
theorem dX11_note_24 : decode cX11_note 24 = .ok (.iconst 0, 1) := by decide +kernel
theorem dX11_note_25 : decode cX11_note 25 = .ok (.bipush 9, 2) := by decide +kernel
theorem dX11_note_27 : decode cX11_note 27 = .ok (.invokestatic 75, 3) := by decide +kernel
theorem dX11_note_30 : decode cX11_note 30 = .ok (.ifCond .eq 7, 3) := by decide +kernel
theorem dX11_note_33 : decode cX11_note 33 = .ok (.iconst 1, 1) := by decide +kernel
theorem dX11_note_34 : decode cX11_note 34 = .ok (.goto 4, 3) := by decide +kernel
theorem dX11_note_37 : decode cX11_note 37 = .ok (.iconst 0, 1) := by decide +kernel
theorem dX11_note_38 : decode cX11_note 38 = .ok (.istore 7, 2) := by decide +kernel
theorem dX11_note_40 : decode cX11_note 40 = .ok (.aload_n 0, 1) := by decide +kernel
theorem dX11_note_41 : decode cX11_note 41 = .ok (.aload_n 0, 1) := by decide +kernel
theorem dX11_note_42 : decode cX11_note 42 = .ok (.iload_n 1, 1) := by decide +kernel
theorem dX11_note_43 : decode cX11_note 43 = .ok (.invokevirtual 205, 3) := by decide +kernel
theorem dX11_note_46 : decode cX11_note 46 = .ok (.iconst 1, 1) := by decide +kernel
theorem dX11_note_47 : decode cX11_note 47 = .ok (.invokevirtual 112, 3) := by decide +kernel
theorem dX11_note_50 : decode cX11_note 50 = .ok (.ifCond .ne 37, 3) := by decide +kernel
theorem dX11_note_53 : decode cX11_note 53 = .ok (.aload_n 0, 1) := by decide +kernel
theorem dX11_note_54 : decode cX11_note 54 = .ok (.iload 7, 2) := by decide +kernel
theorem dX11_note_56 : decode cX11_note 56 = .ok (.iconst 2, 1) := by decide +kernel
theorem dX11_note_57 : decode cX11_note 57 = .ok (.invokevirtual 112, 3) := by decide +kernel
theorem dX11_note_60 : decode cX11_note 60 = .ok (.ifCond .ne 27, 3) := by decide +kernel
theorem dX11_note_63 : decode cX11_note 63 = .ok (.aload_n 0, 1) := by decide +kernel
theorem dX11_note_64 : decode cX11_note 64 = .ok (.aload_n 0, 1) := by decide +kernel
theorem dX11_note_65 : decode cX11_note 65 = .ok (.getfield 50, 3) := by decide +kernel
theorem dX11_note_68 : decode cX11_note 68 = .ok (.iload_n 1, 1) := by decide +kernel
theorem dX11_note_69 : decode cX11_note 69 = .ok (.iaload, 1) := by decide +kernel
theorem dX11_note_70 : decode cX11_note 70 = .ok (.bipush 20, 2) := by decide +kernel
theorem dX11_note_72 : decode cX11_note 72 = .ok (.if_icmp .ge 7, 3) := by decide +kernel
theorem dX11_note_75 : decode cX11_note 75 = .ok (.iconst 1, 1) := by decide +kernel
theorem dX11_note_76 : decode cX11_note 76 = .ok (.goto 4, 3) := by decide +kernel
theorem dX11_note_79 : decode cX11_note 79 = .ok (.iconst 0, 1) := by decide +kernel
theorem dX11_note_80 : decode cX11_note 80 = .ok (.iconst 3, 1) := by decide +kernel
theorem dX11_note_81 : decode cX11_note 81 = .ok (.invokevirtual 112, 3) := by decide +kernel
theorem dX11_note_84 : decode cX11_note 84 = .ok (.ifCond .eq 5, 3) := by decide +kernel
theorem dX11_note_87 : decode cX11_note 87 = .ok (.iconst 0, 1) := by decide +kernel
theorem dX11_note_88 : decode cX11_note 88 = .ok (.ireturn, 1) := by decide +kernel
theorem dX11_note_89 : decode cX11_note 89 = .ok (.bipush 60, 2) := by decide +kernel
theorem dX11_note_91 : decode cX11_note 91 = .ok (.iload_n 1, 1) := by decide +kernel
theorem dX11_note_92 : decode cX11_note 92 = .ok (.imul, 1) := by decide +kernel
theorem dX11_note_93 : decode cX11_note 93 = .ok (.iconst 3, 1) := by decide +kernel
theorem dX11_note_94 : decode cX11_note 94 = .ok (.aload_n 0, 1) := by decide +kernel
theorem dX11_note_95 : decode cX11_note 95 = .ok (.getfield 50, 3) := by decide +kernel
theorem dX11_note_98 : decode cX11_note 98 = .ok (.iload_n 1, 1) := by decide +kernel
theorem dX11_note_99 : decode cX11_note 99 = .ok (.iaload, 1) := by decide +kernel
theorem dX11_note_100 : decode cX11_note 100 = .ok (.imul, 1) := by decide +kernel
theorem dX11_note_101 : decode cX11_note 101 = .ok (.iadd, 1) := by decide +kernel
theorem dX11_note_102 : decode cX11_note 102 = .ok (.istore 8, 2) := by decide +kernel
theorem dX11_note_104 : decode cX11_note 104 = .ok (.aload_n 0, 1) := by decide +kernel
theorem dX11_note_105 : decode cX11_note 105 = .ok (.getfield 47, 3) := by decide +kernel
theorem dX11_note_108 : decode cX11_note 108 = .ok (.iload 8, 2) := by decide +kernel
theorem dX11_note_110 : decode cX11_note 110 = .ok (.iload_n 2, 1) := by decide +kernel
theorem dX11_note_111 : decode cX11_note 111 = .ok (.iastore, 1) := by decide +kernel
theorem dX11_note_112 : decode cX11_note 112 = .ok (.aload_n 0, 1) := by decide +kernel
theorem dX11_note_113 : decode cX11_note 113 = .ok (.getfield 47, 3) := by decide +kernel
theorem dX11_note_116 : decode cX11_note 116 = .ok (.iload 8, 2) := by decide +kernel
theorem dX11_note_118 : decode cX11_note 118 = .ok (.iconst 1, 1) := by decide +kernel
theorem dX11_note_119 : decode cX11_note 119 = .ok (.iadd, 1) := by decide +kernel
theorem dX11_note_120 : decode cX11_note 120 = .ok (.bipush 64, 2) := by decide +kernel
theorem dX11_note_122 : decode cX11_note 122 = .ok (.iload_n 3, 1) := by decide +kernel
theorem dX11_note_123 : decode cX11_note 123 = .ok (.imul, 1) := by decide +kernel
theorem dX11_note_124 : decode cX11_note 124 = .ok (.bipush 8, 2) := by decide +kernel
theorem dX11_note_126 : decode cX11_note 126 = .ok (.iload 5, 2) := by decide +kernel
theorem dX11_note_128 : decode cX11_note 128 = .ok (.imul, 1) := by decide +kernel
theorem dX11_note_129 : decode cX11_note 129 = .ok (.iadd, 1) := by decide +kernel
theorem dX11_note_130 : decode cX11_note 130 = .ok (.iload 4, 2) := by decide +kernel
theorem dX11_note_132 : decode cX11_note 132 = .ok (.iadd, 1) := by decide +kernel
theorem dX11_note_133 : decode cX11_note 133 = .ok (.iastore, 1) := by decide +kernel
theorem dX11_note_134 : decode cX11_note 134 = .ok (.aload_n 0, 1) := by decide +kernel
theorem dX11_note_135 : decode cX11_note 135 = .ok (.getfield 47, 3) := by decide +kernel
theorem dX11_note_138 : decode cX11_note 138 = .ok (.iload 8, 2) := by decide +kernel
theorem dX11_note_140 : decode cX11_note 140 = .ok (.iconst 2, 1) := by decide +kernel
theorem dX11_note_141 : decode cX11_note 141 = .ok (.iadd, 1) := by decide +kernel
theorem dX11_note_142 : decode cX11_note 142 = .ok (.iload 6, 2) := by decide +kernel
theorem dX11_note_144 : decode cX11_note 144 = .ok (.iastore, 1) := by decide +kernel
theorem dX11_note_145 : decode cX11_note 145 = .ok (.aload_n 0, 1) := by decide +kernel
theorem dX11_note_146 : decode cX11_note 146 = .ok (.getfield 50, 3) := by decide +kernel
theorem dX11_note_149 : decode cX11_note 149 = .ok (.iload_n 1, 1) := by decide +kernel
theorem dX11_note_150 : decode cX11_note 150 = .ok (.dup2, 1) := by decide +kernel
theorem dX11_note_151 : decode cX11_note 151 = .ok (.iaload, 1) := by decide +kernel
theorem dX11_note_152 : decode cX11_note 152 = .ok (.iconst 1, 1) := by decide +kernel
theorem dX11_note_153 : decode cX11_note 153 = .ok (.iadd, 1) := by decide +kernel
theorem dX11_note_154 : decode cX11_note 154 = .ok (.iastore, 1) := by decide +kernel
theorem dX11_note_155 : decode cX11_note 155 = .ok (.aload_n 0, 1) := by decide +kernel
theorem dX11_note_156 : decode cX11_note 156 = .ok (.getfield 50, 3) := by decide +kernel
theorem dX11_note_159 : decode cX11_note 159 = .ok (.iload_n 1, 1) := by decide +kernel
theorem dX11_note_160 : decode cX11_note 160 = .ok (.iaload, 1) := by decide +kernel
theorem dX11_note_161 : decode cX11_note 161 = .ok (.ireturn, 1) := by decide +kernel
theorem dX11_isBrought_0 : decode cX11_isBrought 0 = .ok (.sipush 304, 3) := by decide +kernel
theorem dX11_isBrought_3 : decode cX11_isBrought 3 = .ok (.iload_n 1, 1) := by decide +kernel
theorem dX11_isBrought_4 : decode cX11_isBrought 4 = .ok (.imul, 1) := by decide +kernel
theorem dX11_isBrought_5 : decode cX11_isBrought 5 = .ok (.aload_n 0, 1) := by decide +kernel
theorem dX11_isBrought_6 : decode cX11_isBrought 6 = .ok (.getfield 47, 3) := by decide +kernel
theorem dX11_isBrought_9 : decode cX11_isBrought 9 = .ok (.iload_n 2, 1) := by decide +kernel
theorem dX11_isBrought_10 : decode cX11_isBrought 10 = .ok (.iconst 1, 1) := by decide +kernel
theorem dX11_isBrought_11 : decode cX11_isBrought 11 = .ok (.iadd, 1) := by decide +kernel
theorem dX11_isBrought_12 : decode cX11_isBrought 12 = .ok (.iaload, 1) := by decide +kernel
theorem dX11_isBrought_13 : decode cX11_isBrought 13 = .ok (.iadd, 1) := by decide +kernel
theorem dX11_isBrought_14 : decode cX11_isBrought 14 = .ok (.istore 4, 2) := by decide +kernel
theorem dX11_isBrought_16 : decode cX11_isBrought 16 = .ok (.aload_n 0, 1) := by decide +kernel
theorem dX11_isBrought_17 : decode cX11_isBrought 17 = .ok (.getfield 47, 3) := by decide +kernel
theorem dX11_isBrought_20 : decode cX11_isBrought 20 = .ok (.iload_n 2, 1) := by decide +kernel
theorem dX11_isBrought_21 : decode cX11_isBrought 21 = .ok (.iaload, 1) := by decide +kernel
theorem dX11_isBrought_22 : decode cX11_isBrought 22 = .ok (.iload_n 3, 1) := by decide +kernel
theorem dX11_isBrought_23 : decode cX11_isBrought 23 = .ok (.isub, 1) := by decide +kernel
theorem dX11_isBrought_24 : decode cX11_isBrought 24 = .ok (.istore 5, 2) := by decide +kernel
theorem dX11_isBrought_26 : decode cX11_isBrought 26 = .ok (.aload_n 0, 1) := by decide +kernel
theorem dX11_isBrought_27 : decode cX11_isBrought 27 = .ok (.getfield 38, 3) := by decide +kernel
theorem dX11_isBrought_30 : decode cX11_isBrought 30 = .ok (.iload 4, 2) := by decide +kernel
theorem dX11_isBrought_32 : decode cX11_isBrought 32 = .ok (.iaload, 1) := by decide +kernel
theorem dX11_isBrought_33 : decode cX11_isBrought 33 = .ok (.iload 5, 2) := by decide +kernel
theorem dX11_isBrought_35 : decode cX11_isBrought 35 = .ok (.if_icmp .le 5, 3) := by decide +kernel
theorem dX11_isBrought_38 : decode cX11_isBrought 38 = .ok (.iconst 0, 1) := by decide +kernel
theorem dX11_isBrought_39 : decode cX11_isBrought 39 = .ok (.ireturn, 1) := by decide +kernel
theorem dX11_isBrought_40 : decode cX11_isBrought 40 = .ok (.aload_n 0, 1) := by decide +kernel
theorem dX11_isBrought_41 : decode cX11_isBrought 41 = .ok (.getfield 38, 3) := by decide +kernel
theorem dX11_isBrought_44 : decode cX11_isBrought 44 = .ok (.iload 4, 2) := by decide +kernel
theorem dX11_isBrought_46 : decode cX11_isBrought 46 = .ok (.iload 5, 2) := by decide +kernel
theorem dX11_isBrought_48 : decode cX11_isBrought 48 = .ok (.iastore, 1) := by decide +kernel
theorem dX11_isBrought_49 : decode cX11_isBrought 49 = .ok (.aload_n 0, 1) := by decide +kernel
theorem dX11_isBrought_50 : decode cX11_isBrought 50 = .ok (.iload_n 1, 1) := by decide +kernel
theorem dX11_isBrought_51 : decode cX11_isBrought 51 = .ok (.aload_n 0, 1) := by decide +kernel
theorem dX11_isBrought_52 : decode cX11_isBrought 52 = .ok (.getfield 47, 3) := by decide +kernel
theorem dX11_isBrought_55 : decode cX11_isBrought 55 = .ok (.iload_n 2, 1) := by decide +kernel
theorem dX11_isBrought_56 : decode cX11_isBrought 56 = .ok (.iconst 1, 1) := by decide +kernel
theorem dX11_isBrought_57 : decode cX11_isBrought 57 = .ok (.iadd, 1) := by decide +kernel
theorem dX11_isBrought_58 : decode cX11_isBrought 58 = .ok (.iaload, 1) := by decide +kernel
theorem dX11_isBrought_59 : decode cX11_isBrought 59 = .ok (.aload_n 0, 1) := by decide +kernel
theorem dX11_isBrought_60 : decode cX11_isBrought 60 = .ok (.getfield 47, 3) := by decide +kernel
theorem dX11_isBrought_63 : decode cX11_isBrought 63 = .ok (.iload_n 2, 1) := by decide +kernel
theorem dX11_isBrought_64 : decode cX11_isBrought 64 = .ok (.iconst 2, 1) := by decide +kernel
theorem dX11_isBrought_65 : decode cX11_isBrought 65 = .ok (.iadd, 1) := by decide +kernel
theorem dX11_isBrought_66 : decode cX11_isBrought 66 = .ok (.iaload, 1) := by decide +kernel
theorem dX11_isBrought_67 : decode cX11_isBrought 67 = .ok (.invokevirtual 135, 3) := by decide +kernel
theorem dX11_isBrought_70 : decode cX11_isBrought 70 = .ok (.iconst 1, 1) := by decide +kernel
theorem dX11_isBrought_71 : decode cX11_isBrought 71 = .ok (.ireturn, 1) := by decide +kernel
theorem dX11_home_0 : decode cX11_home 0 = .ok (.aload_n 0, 1) := by decide +kernel
theorem dX11_home_1 : decode cX11_home 1 = .ok (.aload_n 0, 1) := by decide +kernel
theorem dX11_home_2 : decode cX11_home 2 = .ok (.iload_n 1, 1) := by decide +kernel
theorem dX11_home_3 : decode cX11_home 3 = .ok (.invokevirtual 205, 3) := by decide +kernel
theorem dX11_home_6 : decode cX11_home 6 = .ok (.ifCond .eq 15, 3) := by decide +kernel
theorem dX11_home_9 : decode cX11_home 9 = .ok (.aload_n 0, 1) := by decide +kernel
theorem dX11_home_10 : decode cX11_home 10 = .ok (.iload_n 2, 1) := by decide +kernel
theorem dX11_home_11 : decode cX11_home 11 = .ok (.invokevirtual 126, 3) := by decide +kernel
theorem dX11_home_14 : decode cX11_home 14 = .ok (.ifCond .eq 7, 3) := by decide +kernel
theorem dX11_home_17 : decode cX11_home 17 = .ok (.iconst 1, 1) := by decide +kernel
theorem dX11_home_18 : decode cX11_home 18 = .ok (.goto 4, 3) := by decide +kernel
theorem dX11_home_21 : decode cX11_home 21 = .ok (.iconst 0, 1) := by decide +kernel
theorem dX11_home_22 : decode cX11_home 22 = .ok (.iconst 1, 1) := by decide +kernel
theorem dX11_home_23 : decode cX11_home 23 = .ok (.invokevirtual 112, 3) := by decide +kernel
theorem dX11_home_26 : decode cX11_home 26 = .ok (.ifCond .ne 39, 3) := by decide +kernel
theorem dX11_home_29 : decode cX11_home 29 = .ok (.aload_n 0, 1) := by decide +kernel
theorem dX11_home_30 : decode cX11_home 30 = .ok (.iload_n 3, 1) := by decide +kernel
theorem dX11_home_31 : decode cX11_home 31 = .ok (.iconst 0, 1) := by decide +kernel
theorem dX11_home_32 : decode cX11_home 32 = .ok (.sipush 9999, 3) := by decide +kernel
theorem dX11_home_35 : decode cX11_home 35 = .ok (.invokestatic 75, 3) := by decide +kernel
theorem dX11_home_38 : decode cX11_home 38 = .ok (.ifCond .eq 19, 3) := by decide +kernel
theorem dX11_home_41 : decode cX11_home 41 = .ok (.iload 4, 2) := by decide +kernel
theorem dX11_home_43 : decode cX11_home 43 = .ok (.iconst 0, 1) := by decide +kernel
theorem dX11_home_44 : decode cX11_home 44 = .ok (.sipush 9999, 3) := by decide +kernel
theorem dX11_home_47 : decode cX11_home 47 = .ok (.invokestatic 75, 3) := by decide +kernel
theorem dX11_home_50 : decode cX11_home 50 = .ok (.ifCond .eq 7, 3) := by decide +kernel
theorem dX11_home_53 : decode cX11_home 53 = .ok (.iconst 1, 1) := by decide +kernel
theorem dX11_home_54 : decode cX11_home 54 = .ok (.goto 4, 3) := by decide +kernel
theorem dX11_home_57 : decode cX11_home 57 = .ok (.iconst 0, 1) := by decide +kernel
theorem dX11_home_58 : decode cX11_home 58 = .ok (.iconst 2, 1) := by decide +kernel
theorem dX11_home_59 : decode cX11_home 59 = .ok (.invokevirtual 112, 3) := by decide +kernel
theorem dX11_home_62 : decode cX11_home 62 = .ok (.ifCond .eq 5, 3) := by decide +kernel
theorem dX11_home_65 : decode cX11_home 65 = .ok (.iconst 0, 1) := by decide +kernel
theorem dX11_home_66 : decode cX11_home 66 = .ok (.ireturn, 1) := by decide +kernel
theorem dX11_home_67 : decode cX11_home 67 = .ok (.aload_n 0, 1) := by decide +kernel
theorem dX11_home_68 : decode cX11_home 68 = .ok (.getfield 53, 3) := by decide +kernel
theorem dX11_home_71 : decode cX11_home 71 = .ok (.iload_n 1, 1) := by decide +kernel
theorem dX11_home_72 : decode cX11_home 72 = .ok (.iload_n 3, 1) := by decide +kernel
theorem dX11_home_73 : decode cX11_home 73 = .ok (.iload 4, 2) := by decide +kernel
theorem dX11_home_75 : decode cX11_home 75 = .ok (.isub, 1) := by decide +kernel
theorem dX11_home_76 : decode cX11_home 76 = .ok (.iastore, 1) := by decide +kernel
theorem dX11_home_77 : decode cX11_home 77 = .ok (.iconst 0, 1) := by decide +kernel
theorem dX11_home_78 : decode cX11_home 78 = .ok (.istore 5, 2) := by decide +kernel
theorem dX11_home_80 : decode cX11_home 80 = .ok (.iconst (-1), 1) := by decide +kernel
theorem dX11_home_81 : decode cX11_home 81 = .ok (.istore 6, 2) := by decide +kernel
theorem dX11_home_83 : decode cX11_home 83 = .ok (.aload_n 0, 1) := by decide +kernel
theorem dX11_home_84 : decode cX11_home 84 = .ok (.getfield 50, 3) := by decide +kernel
theorem dX11_home_87 : decode cX11_home 87 = .ok (.iload_n 1, 1) := by decide +kernel
theorem dX11_home_88 : decode cX11_home 88 = .ok (.iaload, 1) := by decide +kernel
theorem dX11_home_89 : decode cX11_home 89 = .ok (.istore 7, 2) := by decide +kernel
theorem dX11_home_91 : decode cX11_home 91 = .ok (.iload 7, 2) := by decide +kernel
theorem dX11_home_93 : decode cX11_home 93 = .ok (.ifCond .le 184, 3) := by decide +kernel
theorem dX11_home_96 : decode cX11_home 96 = .ok (.iconst (-1), 1) := by decide +kernel
theorem dX11_home_97 : decode cX11_home 97 = .ok (.istore 8, 2) := by decide +kernel
theorem dX11_home_99 : decode cX11_home 99 = .ok (.iconst 0, 1) := by decide +kernel
theorem dX11_home_100 : decode cX11_home 100 = .ok (.istore 9, 2) := by decide +kernel
theorem dX11_home_102 : decode cX11_home 102 = .ok (.iload 9, 2) := by decide +kernel
theorem dX11_home_104 : decode cX11_home 104 = .ok (.aload_n 0, 1) := by decide +kernel
theorem dX11_home_105 : decode cX11_home 105 = .ok (.getfield 50, 3) := by decide +kernel
theorem dX11_home_108 : decode cX11_home 108 = .ok (.iload_n 1, 1) := by decide +kernel
theorem dX11_home_109 : decode cX11_home 109 = .ok (.iaload, 1) := by decide +kernel
theorem dX11_home_110 : decode cX11_home 110 = .ok (.if_icmp .ge 63, 3) := by decide +kernel
theorem dX11_home_113 : decode cX11_home 113 = .ok (.bipush 60, 2) := by decide +kernel
theorem dX11_home_115 : decode cX11_home 115 = .ok (.iload_n 1, 1) := by decide +kernel
theorem dX11_home_116 : decode cX11_home 116 = .ok (.imul, 1) := by decide +kernel
theorem dX11_home_117 : decode cX11_home 117 = .ok (.iconst 3, 1) := by decide +kernel
theorem dX11_home_118 : decode cX11_home 118 = .ok (.iload 9, 2) := by decide +kernel
theorem dX11_home_120 : decode cX11_home 120 = .ok (.imul, 1) := by decide +kernel
theorem dX11_home_121 : decode cX11_home 121 = .ok (.iadd, 1) := by decide +kernel
theorem dX11_home_122 : decode cX11_home 122 = .ok (.istore 10, 2) := by decide +kernel
theorem dX11_home_124 : decode cX11_home 124 = .ok (.aload_n 0, 1) := by decide +kernel
theorem dX11_home_125 : decode cX11_home 125 = .ok (.getfield 47, 3) := by decide +kernel
theorem dX11_home_128 : decode cX11_home 128 = .ok (.iload 10, 2) := by decide +kernel
theorem dX11_home_130 : decode cX11_home 130 = .ok (.iaload, 1) := by decide +kernel
theorem dX11_home_131 : decode cX11_home 131 = .ok (.iload 6, 2) := by decide +kernel
theorem dX11_home_133 : decode cX11_home 133 = .ok (.if_icmp .le 30, 3) := by decide +kernel
theorem dX11_home_136 : decode cX11_home 136 = .ok (.iload 8, 2) := by decide +kernel
theorem dX11_home_138 : decode cX11_home 138 = .ok (.ifCond .lt 20, 3) := by decide +kernel
theorem dX11_home_141 : decode cX11_home 141 = .ok (.aload_n 0, 1) := by decide +kernel
theorem dX11_home_142 : decode cX11_home 142 = .ok (.getfield 47, 3) := by decide +kernel
theorem dX11_home_145 : decode cX11_home 145 = .ok (.iload 10, 2) := by decide +kernel
theorem dX11_home_147 : decode cX11_home 147 = .ok (.iaload, 1) := by decide +kernel
theorem dX11_home_148 : decode cX11_home 148 = .ok (.aload_n 0, 1) := by decide +kernel
theorem dX11_home_149 : decode cX11_home 149 = .ok (.getfield 47, 3) := by decide +kernel
theorem dX11_home_152 : decode cX11_home 152 = .ok (.iload 8, 2) := by decide +kernel
theorem dX11_home_154 : decode cX11_home 154 = .ok (.iaload, 1) := by decide +kernel
theorem dX11_home_155 : decode cX11_home 155 = .ok (.if_icmp .ge 8, 3) := by decide +kernel
theorem dX11_home_158 : decode cX11_home 158 = .ok (.iload 10, 2) := by decide +kernel
theorem dX11_home_160 : decode cX11_home 160 = .ok (.goto 5, 3) := by decide +kernel
theorem dX11_home_163 : decode cX11_home 163 = .ok (.iload 8, 2) := by decide +kernel
theorem dX11_home_165 : decode cX11_home 165 = .ok (.istore 8, 2) := by decide +kernel
theorem dX11_home_167 : decode cX11_home 167 = .ok (.iinc 9 1, 3) := by decide +kernel
theorem dX11_home_170 : decode cX11_home 170 = .ok (.goto (-68), 3) := by decide +kernel
theorem dX11_home_173 : decode cX11_home 173 = .ok (.iconst 0, 1) := by decide +kernel
theorem dX11_home_174 : decode cX11_home 174 = .ok (.istore 9, 2) := by decide +kernel
theorem dX11_home_176 : decode cX11_home 176 = .ok (.iload 9, 2) := by decide +kernel
theorem dX11_home_178 : decode cX11_home 178 = .ok (.aload_n 0, 1) := by decide +kernel
theorem dX11_home_179 : decode cX11_home 179 = .ok (.getfield 50, 3) := by decide +kernel
theorem dX11_home_182 : decode cX11_home 182 = .ok (.iload_n 1, 1) := by decide +kernel
theorem dX11_home_183 : decode cX11_home 183 = .ok (.iaload, 1) := by decide +kernel
theorem dX11_home_184 : decode cX11_home 184 = .ok (.if_icmp .ge 68, 3) := by decide +kernel
theorem dX11_home_187 : decode cX11_home 187 = .ok (.iload 8, 2) := by decide +kernel
theorem dX11_home_189 : decode cX11_home 189 = .ok (.ifCond .lt 63, 3) := by decide +kernel
theorem dX11_home_192 : decode cX11_home 192 = .ok (.bipush 60, 2) := by decide +kernel
theorem dX11_home_194 : decode cX11_home 194 = .ok (.iload_n 1, 1) := by decide +kernel
theorem dX11_home_195 : decode cX11_home 195 = .ok (.imul, 1) := by decide +kernel
theorem dX11_home_196 : decode cX11_home 196 = .ok (.iconst 3, 1) := by decide +kernel
theorem dX11_home_197 : decode cX11_home 197 = .ok (.iload 9, 2) := by decide +kernel
theorem dX11_home_199 : decode cX11_home 199 = .ok (.imul, 1) := by decide +kernel
theorem dX11_home_200 : decode cX11_home 200 = .ok (.iadd, 1) := by decide +kernel
theorem dX11_home_201 : decode cX11_home 201 = .ok (.istore 10, 2) := by decide +kernel
theorem dX11_home_203 : decode cX11_home 203 = .ok (.iload 5, 2) := by decide +kernel
theorem dX11_home_205 : decode cX11_home 205 = .ok (.aload_n 0, 1) := by decide +kernel
theorem dX11_home_206 : decode cX11_home 206 = .ok (.getfield 47, 3) := by decide +kernel
theorem dX11_home_209 : decode cX11_home 209 = .ok (.iload 10, 2) := by decide +kernel
theorem dX11_home_211 : decode cX11_home 211 = .ok (.iaload, 1) := by decide +kernel
theorem dX11_home_212 : decode cX11_home 212 = .ok (.aload_n 0, 1) := by decide +kernel
theorem dX11_home_213 : decode cX11_home 213 = .ok (.getfield 47, 3) := by decide +kernel
theorem dX11_home_216 : decode cX11_home 216 = .ok (.iload 8, 2) := by decide +kernel
theorem dX11_home_218 : decode cX11_home 218 = .ok (.iaload, 1) := by decide +kernel
theorem dX11_home_219 : decode cX11_home 219 = .ok (.if_icmp .ne 23, 3) := by decide +kernel
theorem dX11_home_222 : decode cX11_home 222 = .ok (.aload_n 0, 1) := by decide +kernel
theorem dX11_home_223 : decode cX11_home 223 = .ok (.iload_n 2, 1) := by decide +kernel
theorem dX11_home_224 : decode cX11_home 224 = .ok (.iload 10, 2) := by decide +kernel
theorem dX11_home_226 : decode cX11_home 226 = .ok (.aload_n 0, 1) := by decide +kernel
theorem dX11_home_227 : decode cX11_home 227 = .ok (.getfield 53, 3) := by decide +kernel
theorem dX11_home_230 : decode cX11_home 230 = .ok (.iload_n 1, 1) := by decide +kernel
theorem dX11_home_231 : decode cX11_home 231 = .ok (.iaload, 1) := by decide +kernel
theorem dX11_home_232 : decode cX11_home 232 = .ok (.invokevirtual 208, 3) := by decide +kernel
theorem dX11_home_235 : decode cX11_home 235 = .ok (.ifCond .eq 7, 3) := by decide +kernel
theorem dX11_home_238 : decode cX11_home 238 = .ok (.iconst 1, 1) := by decide +kernel
theorem dX11_home_239 : decode cX11_home 239 = .ok (.goto 4, 3) := by decide +kernel
theorem dX11_home_242 : decode cX11_home 242 = .ok (.iconst 0, 1) := by decide +kernel
theorem dX11_home_243 : decode cX11_home 243 = .ok (.iadd, 1) := by decide +kernel
theorem dX11_home_244 : decode cX11_home 244 = .ok (.istore 5, 2) := by decide +kernel
theorem dX11_home_246 : decode cX11_home 246 = .ok (.iinc 9 1, 3) := by decide +kernel
theorem dX11_home_249 : decode cX11_home 249 = .ok (.goto (-73), 3) := by decide +kernel
theorem dX11_home_252 : decode cX11_home 252 = .ok (.iload 8, 2) := by decide +kernel
theorem dX11_home_254 : decode cX11_home 254 = .ok (.ifCond .ge 8, 3) := by decide +kernel
theorem dX11_home_257 : decode cX11_home 257 = .ok (.iload 6, 2) := by decide +kernel
theorem dX11_home_259 : decode cX11_home 259 = .ok (.goto 10, 3) := by decide +kernel
theorem dX11_home_262 : decode cX11_home 262 = .ok (.aload_n 0, 1) := by decide +kernel
theorem dX11_home_263 : decode cX11_home 263 = .ok (.getfield 47, 3) := by decide +kernel
theorem dX11_home_266 : decode cX11_home 266 = .ok (.iload 8, 2) := by decide +kernel
theorem dX11_home_268 : decode cX11_home 268 = .ok (.iaload, 1) := by decide +kernel
theorem dX11_home_269 : decode cX11_home 269 = .ok (.istore 6, 2) := by decide +kernel
theorem dX11_home_271 : decode cX11_home 271 = .ok (.iinc 7 (-1), 3) := by decide +kernel
theorem dX11_home_274 : decode cX11_home 274 = .ok (.goto (-183), 3) := by decide +kernel
theorem dX11_home_277 : decode cX11_home 277 = .ok (.aload_n 0, 1) := by decide +kernel
theorem dX11_home_278 : decode cX11_home 278 = .ok (.getfield 50, 3) := by decide +kernel
theorem dX11_home_281 : decode cX11_home 281 = .ok (.iload_n 1, 1) := by decide +kernel
theorem dX11_home_282 : decode cX11_home 282 = .ok (.iconst 0, 1) := by decide +kernel
theorem dX11_home_283 : decode cX11_home 283 = .ok (.iastore, 1) := by decide +kernel
theorem dX11_home_284 : decode cX11_home 284 = .ok (.iload 5, 2) := by decide +kernel
theorem dX11_home_286 : decode cX11_home 286 = .ok (.ireturn, 1) := by decide +kernel
theorem dX11_ahead_0 : decode cX11_ahead 0 = .ok (.aload_n 0, 1) := by decide +kernel
theorem dX11_ahead_1 : decode cX11_ahead 1 = .ok (.aload_n 0, 1) := by decide +kernel
theorem dX11_ahead_2 : decode cX11_ahead 2 = .ok (.iload_n 1, 1) := by decide +kernel
theorem dX11_ahead_3 : decode cX11_ahead 3 = .ok (.invokevirtual 205, 3) := by decide +kernel
theorem dX11_ahead_6 : decode cX11_ahead 6 = .ok (.iconst 1, 1) := by decide +kernel
theorem dX11_ahead_7 : decode cX11_ahead 7 = .ok (.invokevirtual 112, 3) := by decide +kernel
theorem dX11_ahead_10 : decode cX11_ahead 10 = .ok (.ifCond .eq 7, 3) := by decide +kernel
theorem dX11_ahead_13 : decode cX11_ahead 13 = .ok (.iconst 0, 1) := by decide +kernel
theorem dX11_ahead_14 : decode cX11_ahead 14 = .ok (.goto 9, 3) := by decide +kernel
theorem dX11_ahead_17 : decode cX11_ahead 17 = .ok (.aload_n 0, 1) := by decide +kernel
theorem dX11_ahead_18 : decode cX11_ahead 18 = .ok (.getfield 53, 3) := by decide +kernel
theorem dX11_ahead_21 : decode cX11_ahead 21 = .ok (.iload_n 1, 1) := by decide +kernel
theorem dX11_ahead_22 : decode cX11_ahead 22 = .ok (.iaload, 1) := by decide +kernel
theorem dX11_ahead_23 : decode cX11_ahead 23 = .ok (.ireturn, 1) := by decide +kernel
theorem dX11_fullShare_0 : decode cX11_fullShare 0 = .ok (.aload_n 0, 1) := by decide +kernel
theorem dX11_fullShare_1 : decode cX11_fullShare 1 = .ok (.iload_n 1, 1) := by decide +kernel
theorem dX11_fullShare_2 : decode cX11_fullShare 2 = .ok (.invokestatic 108, 3) := by decide +kernel
theorem dX11_fullShare_5 : decode cX11_fullShare 5 = .ok (.iconst 1, 1) := by decide +kernel
theorem dX11_fullShare_6 : decode cX11_fullShare 6 = .ok (.invokevirtual 112, 3) := by decide +kernel
theorem dX11_fullShare_9 : decode cX11_fullShare 9 = .ok (.ifCond .eq 7, 3) := by decide +kernel
theorem dX11_fullShare_12 : decode cX11_fullShare 12 = .ok (.fconst 0, 1) := by decide +kernel
theorem dX11_fullShare_13 : decode cX11_fullShare 13 = .ok (.goto 16, 3) := by decide +kernel
theorem dX11_fullShare_16 : decode cX11_fullShare 16 = .ok (.bipush 64, 2) := by decide +kernel
theorem dX11_fullShare_18 : decode cX11_fullShare 18 = .ok (.aload_n 0, 1) := by decide +kernel
theorem dX11_fullShare_19 : decode cX11_fullShare 19 = .ok (.iload_n 1, 1) := by decide +kernel
theorem dX11_fullShare_20 : decode cX11_fullShare 20 = .ok (.iconst 0, 1) := by decide +kernel
theorem dX11_fullShare_21 : decode cX11_fullShare 21 = .ok (.invokevirtual 190, 3) := by decide +kernel
theorem dX11_fullShare_24 : decode cX11_fullShare 24 = .ok (.isub, 1) := by decide +kernel
theorem dX11_fullShare_25 : decode cX11_fullShare 25 = .ok (.i2f, 1) := by decide +kernel
theorem dX11_fullShare_26 : decode cX11_fullShare 26 = .ok (.ldc 211, 2) := by decide +kernel
theorem dX11_fullShare_28 : decode cX11_fullShare 28 = .ok (.fdiv, 1) := by decide +kernel
theorem dX11_fullShare_29 : decode cX11_fullShare 29 = .ok (.freturn, 1) := by decide +kernel
theorem dX11_meanSize_0 : decode cX11_meanSize 0 = .ok (.aload_n 0, 1) := by decide +kernel
theorem dX11_meanSize_1 : decode cX11_meanSize 1 = .ok (.iload_n 1, 1) := by decide +kernel
theorem dX11_meanSize_2 : decode cX11_meanSize 2 = .ok (.invokestatic 108, 3) := by decide +kernel
theorem dX11_meanSize_5 : decode cX11_meanSize 5 = .ok (.iconst 1, 1) := by decide +kernel
theorem dX11_meanSize_6 : decode cX11_meanSize 6 = .ok (.invokevirtual 112, 3) := by decide +kernel
theorem dX11_meanSize_9 : decode cX11_meanSize 9 = .ok (.ifCond .eq 5, 3) := by decide +kernel
theorem dX11_meanSize_12 : decode cX11_meanSize 12 = .ok (.dconst 0, 1) := by decide +kernel
theorem dX11_meanSize_13 : decode cX11_meanSize 13 = .ok (.dreturn, 1) := by decide +kernel
theorem dX11_meanSize_14 : decode cX11_meanSize 14 = .ok (.iconst 0, 1) := by decide +kernel
theorem dX11_meanSize_15 : decode cX11_meanSize 15 = .ok (.istore_n 2, 1) := by decide +kernel
theorem dX11_meanSize_16 : decode cX11_meanSize 16 = .ok (.iconst 1, 1) := by decide +kernel
theorem dX11_meanSize_17 : decode cX11_meanSize 17 = .ok (.istore_n 3, 1) := by decide +kernel
theorem dX11_meanSize_18 : decode cX11_meanSize 18 = .ok (.iload_n 3, 1) := by decide +kernel
theorem dX11_meanSize_19 : decode cX11_meanSize 19 = .ok (.bipush 9, 2) := by decide +kernel
theorem dX11_meanSize_21 : decode cX11_meanSize 21 = .ok (.if_icmp .gt 26, 3) := by decide +kernel
theorem dX11_meanSize_24 : decode cX11_meanSize 24 = .ok (.iload_n 2, 1) := by decide +kernel
theorem dX11_meanSize_25 : decode cX11_meanSize 25 = .ok (.aload_n 0, 1) := by decide +kernel
theorem dX11_meanSize_26 : decode cX11_meanSize 26 = .ok (.iload_n 1, 1) := by decide +kernel
theorem dX11_meanSize_27 : decode cX11_meanSize 27 = .ok (.iload_n 3, 1) := by decide +kernel
theorem dX11_meanSize_28 : decode cX11_meanSize 28 = .ok (.invokevirtual 190, 3) := by decide +kernel
theorem dX11_meanSize_31 : decode cX11_meanSize 31 = .ok (.ifCond .le 7, 3) := by decide +kernel
theorem dX11_meanSize_34 : decode cX11_meanSize 34 = .ok (.iconst 1, 1) := by decide +kernel
theorem dX11_meanSize_35 : decode cX11_meanSize 35 = .ok (.goto 4, 3) := by decide +kernel
theorem dX11_meanSize_38 : decode cX11_meanSize 38 = .ok (.iconst 0, 1) := by decide +kernel
theorem dX11_meanSize_39 : decode cX11_meanSize 39 = .ok (.iadd, 1) := by decide +kernel
theorem dX11_meanSize_40 : decode cX11_meanSize 40 = .ok (.istore_n 2, 1) := by decide +kernel
theorem dX11_meanSize_41 : decode cX11_meanSize 41 = .ok (.iinc 3 1, 3) := by decide +kernel
theorem dX11_meanSize_44 : decode cX11_meanSize 44 = .ok (.goto (-26), 3) := by decide +kernel
theorem dX11_meanSize_47 : decode cX11_meanSize 47 = .ok (.aload_n 0, 1) := by decide +kernel
theorem dX11_meanSize_48 : decode cX11_meanSize 48 = .ok (.iload_n 2, 1) := by decide +kernel
theorem dX11_meanSize_49 : decode cX11_meanSize 49 = .ok (.ifCond .le 7, 3) := by decide +kernel
theorem dX11_meanSize_52 : decode cX11_meanSize 52 = .ok (.iconst 1, 1) := by decide +kernel
theorem dX11_meanSize_53 : decode cX11_meanSize 53 = .ok (.goto 4, 3) := by decide +kernel
theorem dX11_meanSize_56 : decode cX11_meanSize 56 = .ok (.iconst 0, 1) := by decide +kernel
theorem dX11_meanSize_57 : decode cX11_meanSize 57 = .ok (.iconst 2, 1) := by decide +kernel
theorem dX11_meanSize_58 : decode cX11_meanSize 58 = .ok (.invokevirtual 112, 3) := by decide +kernel
theorem dX11_meanSize_61 : decode cX11_meanSize 61 = .ok (.ifCond .eq 7, 3) := by decide +kernel
theorem dX11_meanSize_64 : decode cX11_meanSize 64 = .ok (.dconst 0, 1) := by decide +kernel
theorem dX11_meanSize_65 : decode cX11_meanSize 65 = .ok (.goto 16, 3) := by decide +kernel
theorem dX11_meanSize_68 : decode cX11_meanSize 68 = .ok (.bipush 64, 2) := by decide +kernel
theorem dX11_meanSize_70 : decode cX11_meanSize 70 = .ok (.aload_n 0, 1) := by decide +kernel
theorem dX11_meanSize_71 : decode cX11_meanSize 71 = .ok (.iload_n 1, 1) := by decide +kernel
theorem dX11_meanSize_72 : decode cX11_meanSize 72 = .ok (.iconst 0, 1) := by decide +kernel
theorem dX11_meanSize_73 : decode cX11_meanSize 73 = .ok (.invokevirtual 190, 3) := by decide +kernel
theorem dX11_meanSize_76 : decode cX11_meanSize 76 = .ok (.isub, 1) := by decide +kernel
theorem dX11_meanSize_77 : decode cX11_meanSize 77 = .ok (.i2d, 1) := by decide +kernel
theorem dX11_meanSize_78 : decode cX11_meanSize 78 = .ok (.iload_n 2, 1) := by decide +kernel
theorem dX11_meanSize_79 : decode cX11_meanSize 79 = .ok (.i2d, 1) := by decide +kernel
theorem dX11_meanSize_80 : decode cX11_meanSize 80 = .ok (.ddiv, 1) := by decide +kernel
theorem dX11_meanSize_81 : decode cX11_meanSize 81 = .ok (.dreturn, 1) := by decide +kernel
theorem dX11_checksum_0 : decode cX11_checksum 0 = .ok (.ldc2_w 212, 3) := by decide +kernel
theorem dX11_checksum_3 : decode cX11_checksum 3 = .ok (.lstore_n 1, 1) := by decide +kernel
theorem dX11_checksum_4 : decode cX11_checksum 4 = .ok (.iconst 0, 1) := by decide +kernel
theorem dX11_checksum_5 : decode cX11_checksum 5 = .ok (.istore_n 3, 1) := by decide +kernel
theorem dX11_checksum_6 : decode cX11_checksum 6 = .ok (.iload_n 3, 1) := by decide +kernel
theorem dX11_checksum_7 : decode cX11_checksum 7 = .ok (.sipush 304, 3) := by decide +kernel
theorem dX11_checksum_10 : decode cX11_checksum 10 = .ok (.if_icmp .ge 22, 3) := by decide +kernel
theorem dX11_checksum_13 : decode cX11_checksum 13 = .ok (.ldc2_w 214, 3) := by decide +kernel
theorem dX11_checksum_16 : decode cX11_checksum 16 = .ok (.lload_n 1, 1) := by decide +kernel
theorem dX11_checksum_17 : decode cX11_checksum 17 = .ok (.lmul, 1) := by decide +kernel
theorem dX11_checksum_18 : decode cX11_checksum 18 = .ok (.aload_n 0, 1) := by decide +kernel
theorem dX11_checksum_19 : decode cX11_checksum 19 = .ok (.iload_n 3, 1) := by decide +kernel
theorem dX11_checksum_20 : decode cX11_checksum 20 = .ok (.invokevirtual 105, 3) := by decide +kernel
theorem dX11_checksum_23 : decode cX11_checksum 23 = .ok (.i2l, 1) := by decide +kernel
theorem dX11_checksum_24 : decode cX11_checksum 24 = .ok (.ladd, 1) := by decide +kernel
theorem dX11_checksum_25 : decode cX11_checksum 25 = .ok (.lstore_n 1, 1) := by decide +kernel
theorem dX11_checksum_26 : decode cX11_checksum 26 = .ok (.iinc 3 1, 3) := by decide +kernel
theorem dX11_checksum_29 : decode cX11_checksum 29 = .ok (.goto (-23), 3) := by decide +kernel
theorem dX11_checksum_32 : decode cX11_checksum 32 = .ok (.ldc2_w 214, 3) := by decide +kernel
theorem dX11_checksum_35 : decode cX11_checksum 35 = .ok (.lload_n 1, 1) := by decide +kernel
theorem dX11_checksum_36 : decode cX11_checksum 36 = .ok (.lmul, 1) := by decide +kernel
theorem dX11_checksum_37 : decode cX11_checksum 37 = .ok (.aload_n 0, 1) := by decide +kernel
theorem dX11_checksum_38 : decode cX11_checksum 38 = .ok (.getfield 72, 3) := by decide +kernel
theorem dX11_checksum_41 : decode cX11_checksum 41 = .ok (.i2l, 1) := by decide +kernel
theorem dX11_checksum_42 : decode cX11_checksum 42 = .ok (.ladd, 1) := by decide +kernel
theorem dX11_checksum_43 : decode cX11_checksum 43 = .ok (.lreturn, 1) := by decide +kernel
theorem dX11_isSound_0 : decode cX11_isSound 0 = .ok (.iconst 1, 1) := by decide +kernel
theorem dX11_isSound_1 : decode cX11_isSound 1 = .ok (.ireturn, 1) := by decide +kernel

theorem dX4_slips_77 : decode cX4_slips 77 = .ok (.invokestatic 240, 3) := by decide +kernel
theorem dX4_slips_80 : decode cX4_slips 80 = .ok (.lmul, 1) := by decide +kernel
theorem dX4_slips_81 : decode cX4_slips 81 = .ok (.bipush 10, 2) := by decide +kernel
theorem dX4_slips_83 : decode cX4_slips 83 = .ok (.iload_n 1, 1) := by decide +kernel
theorem dX4_slips_84 : decode cX4_slips 84 = .ok (.isub, 1) := by decide +kernel
theorem dX4_slips_85 : decode cX4_slips 85 = .ok (.iload_n 2, 1) := by decide +kernel
theorem dX4_slips_86 : decode cX4_slips 86 = .ok (.iload 9, 2) := by decide +kernel
theorem dX4_slips_88 : decode cX4_slips 88 = .ok (.isub, 1) := by decide +kernel
theorem dX4_slips_89 : decode cX4_slips 89 = .ok (.invokestatic 240, 3) := by decide +kernel
theorem dX4_slips_92 : decode cX4_slips 92 = .ok (.lmul, 1) := by decide +kernel
theorem dX4_slips_93 : decode cX4_slips 93 = .ok (.ladd, 1) := by decide +kernel
theorem dX4_slips_94 : decode cX4_slips 94 = .ok (.lstore 5, 2) := by decide +kernel
theorem dX4_slips_96 : decode cX4_slips 96 = .ok (.lload 7, 2) := by decide +kernel
theorem dX4_slips_98 : decode cX4_slips 98 = .ok (.iload_n 2, 1) := by decide +kernel
theorem dX4_slips_99 : decode cX4_slips 99 = .ok (.iload 9, 2) := by decide +kernel
theorem dX4_slips_101 : decode cX4_slips 101 = .ok (.isub, 1) := by decide +kernel
theorem dX4_slips_102 : decode cX4_slips 102 = .ok (.i2l, 1) := by decide +kernel
theorem dX4_slips_103 : decode cX4_slips 103 = .ok (.lmul, 1) := by decide +kernel
theorem dX4_slips_104 : decode cX4_slips 104 = .ok (.iload 9, 2) := by decide +kernel
theorem dX4_slips_106 : decode cX4_slips 106 = .ok (.iconst 1, 1) := by decide +kernel
theorem dX4_slips_107 : decode cX4_slips 107 = .ok (.iadd, 1) := by decide +kernel
theorem dX4_slips_108 : decode cX4_slips 108 = .ok (.i2l, 1) := by decide +kernel
theorem dX4_slips_109 : decode cX4_slips 109 = .ok (.ldiv, 1) := by decide +kernel
theorem dX4_slips_110 : decode cX4_slips 110 = .ok (.lstore 7, 2) := by decide +kernel
theorem dX4_slips_112 : decode cX4_slips 112 = .ok (.iinc 9 1, 3) := by decide +kernel
theorem dX4_slips_115 : decode cX4_slips 115 = .ok (.goto (-57), 3) := by decide +kernel
theorem dX4_slips_118 : decode cX4_slips 118 = .ok (.bipush 10, 2) := by decide +kernel
theorem dX4_slips_120 : decode cX4_slips 120 = .ok (.iload_n 2, 1) := by decide +kernel
theorem dX4_slips_121 : decode cX4_slips 121 = .ok (.invokestatic 240, 3) := by decide +kernel
theorem dX4_slips_124 : decode cX4_slips 124 = .ok (.lstore 9, 2) := by decide +kernel
theorem dX4_slips_126 : decode cX4_slips 126 = .ok (.lload 5, 2) := by decide +kernel
theorem dX4_slips_128 : decode cX4_slips 128 = .ok (.lload 9, 2) := by decide +kernel
theorem dX4_slips_130 : decode cX4_slips 130 = .ok (.invokestatic 244, 3) := by decide +kernel
theorem dX4_slips_133 : decode cX4_slips 133 = .ok (.lstore 11, 2) := by decide +kernel
theorem dX4_slips_135 : decode cX4_slips 135 = .ok (.iload 4, 2) := by decide +kernel
theorem dX4_slips_137 : decode cX4_slips 137 = .ok (.ifCond .ne 8, 3) := by decide +kernel
theorem dX4_slips_140 : decode cX4_slips 140 = .ok (.lload 5, 2) := by decide +kernel
theorem dX4_slips_142 : decode cX4_slips 142 = .ok (.goto 5, 3) := by decide +kernel
theorem dX4_slips_145 : decode cX4_slips 145 = .ok (.lload 9, 2) := by decide +kernel
theorem dX4_slips_147 : decode cX4_slips 147 = .ok (.lstore 13, 2) := by decide +kernel
theorem dX4_slips_149 : decode cX4_slips 149 = .ok (.lload 11, 2) := by decide +kernel
theorem dX4_slips_151 : decode cX4_slips 151 = .ok (.lconst 0, 1) := by decide +kernel
theorem dX4_slips_152 : decode cX4_slips 152 = .ok (.lcmp, 1) := by decide +kernel
theorem dX4_slips_153 : decode cX4_slips 153 = .ok (.ifCond .le 11, 3) := by decide +kernel
theorem dX4_slips_156 : decode cX4_slips 156 = .ok (.lload 13, 2) := by decide +kernel
theorem dX4_slips_158 : decode cX4_slips 158 = .ok (.lload 11, 2) := by decide +kernel
theorem dX4_slips_160 : decode cX4_slips 160 = .ok (.ldiv, 1) := by decide +kernel
theorem dX4_slips_161 : decode cX4_slips 161 = .ok (.goto 5, 3) := by decide +kernel
theorem dX4_slips_164 : decode cX4_slips 164 = .ok (.lload 13, 2) := by decide +kernel
theorem dX4_slips_166 : decode cX4_slips 166 = .ok (.lreturn, 1) := by decide +kernel
theorem dX4_count_0 : decode cX4_count 0 = .ok (.iload_n 1, 1) := by decide +kernel
theorem dX4_count_1 : decode cX4_count 1 = .ok (.tableswitch 170 0 12 #[67, 75, 83, 91, 99, 107, 123, 131, 139, 144, 152, 157, 162], 67) := by decide +kernel
theorem dX4_count_68 : decode cX4_count 68 = .ok (.aload_n 0, 1) := by decide +kernel
theorem dX4_count_69 : decode cX4_count 69 = .ok (.getfield 10, 3) := by decide +kernel
theorem dX4_count_72 : decode cX4_count 72 = .ok (.getfield 215, 3) := by decide +kernel
theorem dX4_count_75 : decode cX4_count 75 = .ok (.ireturn, 1) := by decide +kernel
theorem dX4_count_76 : decode cX4_count 76 = .ok (.aload_n 0, 1) := by decide +kernel
theorem dX4_count_77 : decode cX4_count 77 = .ok (.getfield 10, 3) := by decide +kernel
theorem dX4_count_80 : decode cX4_count 80 = .ok (.getfield 248, 3) := by decide +kernel
theorem dX4_count_83 : decode cX4_count 83 = .ok (.ireturn, 1) := by decide +kernel
theorem dX4_count_84 : decode cX4_count 84 = .ok (.aload_n 0, 1) := by decide +kernel
theorem dX4_count_85 : decode cX4_count 85 = .ok (.getfield 10, 3) := by decide +kernel
theorem dX4_count_88 : decode cX4_count 88 = .ok (.getfield 251, 3) := by decide +kernel
theorem dX4_count_91 : decode cX4_count 91 = .ok (.ireturn, 1) := by decide +kernel
theorem dX4_count_92 : decode cX4_count 92 = .ok (.aload_n 0, 1) := by decide +kernel
theorem dX4_count_93 : decode cX4_count 93 = .ok (.getfield 10, 3) := by decide +kernel
theorem dX4_count_96 : decode cX4_count 96 = .ok (.getfield 254, 3) := by decide +kernel
theorem dX4_count_99 : decode cX4_count 99 = .ok (.ireturn, 1) := by decide +kernel
theorem dX4_count_100 : decode cX4_count 100 = .ok (.aload_n 0, 1) := by decide +kernel
theorem dX4_count_101 : decode cX4_count 101 = .ok (.getfield 29, 3) := by decide +kernel
theorem dX4_count_104 : decode cX4_count 104 = .ok (.getfield 150, 3) := by decide +kernel
theorem dX4_count_107 : decode cX4_count 107 = .ok (.ireturn, 1) := by decide +kernel
theorem dX4_count_108 : decode cX4_count 108 = .ok (.aload_n 0, 1) := by decide +kernel
theorem dX4_count_109 : decode cX4_count 109 = .ok (.getfield 29, 3) := by decide +kernel
theorem dX4_count_112 : decode cX4_count 112 = .ok (.getfield 182, 3) := by decide +kernel
theorem dX4_count_115 : decode cX4_count 115 = .ok (.aload_n 0, 1) := by decide +kernel
theorem dX4_count_116 : decode cX4_count 116 = .ok (.getfield 29, 3) := by decide +kernel
theorem dX4_count_119 : decode cX4_count 119 = .ok (.getfield 257, 3) := by decide +kernel
theorem dX4_count_122 : decode cX4_count 122 = .ok (.ior, 1) := by decide +kernel
theorem dX4_count_123 : decode cX4_count 123 = .ok (.ireturn, 1) := by decide +kernel
theorem dX4_count_124 : decode cX4_count 124 = .ok (.aload_n 0, 1) := by decide +kernel
theorem dX4_count_125 : decode cX4_count 125 = .ok (.getfield 29, 3) := by decide +kernel
theorem dX4_count_128 : decode cX4_count 128 = .ok (.getfield 104, 3) := by decide +kernel
theorem dX4_count_131 : decode cX4_count 131 = .ok (.ireturn, 1) := by decide +kernel
theorem dX4_count_132 : decode cX4_count 132 = .ok (.aload_n 0, 1) := by decide +kernel
theorem dX4_count_133 : decode cX4_count 133 = .ok (.getfield 29, 3) := by decide +kernel
theorem dX4_count_136 : decode cX4_count 136 = .ok (.getfield 130, 3) := by decide +kernel
theorem dX4_count_139 : decode cX4_count 139 = .ok (.ireturn, 1) := by decide +kernel
theorem dX4_count_140 : decode cX4_count 140 = .ok (.aload_n 0, 1) := by decide +kernel
theorem dX4_count_141 : decode cX4_count 141 = .ok (.getfield 194, 3) := by decide +kernel
theorem dX4_count_144 : decode cX4_count 144 = .ok (.ireturn, 1) := by decide +kernel
theorem dX4_count_145 : decode cX4_count 145 = .ok (.aload_n 0, 1) := by decide +kernel
theorem dX4_count_146 : decode cX4_count 146 = .ok (.getfield 133, 3) := by decide +kernel
theorem dX4_count_149 : decode cX4_count 149 = .ok (.invokestatic 197, 3) := by decide +kernel
theorem dX4_count_152 : decode cX4_count 152 = .ok (.ireturn, 1) := by decide +kernel
theorem dX4_count_153 : decode cX4_count 153 = .ok (.aload_n 0, 1) := by decide +kernel
theorem dX4_count_154 : decode cX4_count 154 = .ok (.getfield 221, 3) := by decide +kernel
theorem dX4_count_157 : decode cX4_count 157 = .ok (.ireturn, 1) := by decide +kernel
theorem dX4_count_158 : decode cX4_count 158 = .ok (.aload_n 0, 1) := by decide +kernel
theorem dX4_count_159 : decode cX4_count 159 = .ok (.getfield 169, 3) := by decide +kernel
theorem dX4_count_162 : decode cX4_count 162 = .ok (.ireturn, 1) := by decide +kernel
theorem dX4_count_163 : decode cX4_count 163 = .ok (.aload_n 0, 1) := by decide +kernel
theorem dX4_count_164 : decode cX4_count 164 = .ok (.getfield 22, 3) := by decide +kernel
theorem dX4_count_167 : decode cX4_count 167 = .ok (.getfield 63, 3) := by decide +kernel
theorem dX4_count_170 : decode cX4_count 170 = .ok (.ireturn, 1) := by decide +kernel
theorem dX4_count_171 : decode cX4_count 171 = .ok (.bipush (-3), 2) := by decide +kernel
theorem dX4_count_173 : decode cX4_count 173 = .ok (.ireturn, 1) := by decide +kernel
theorem dX4_hasBit_0 : decode cX4_hasBit 0 = .ok (.iload_n 0, 1) := by decide +kernel
theorem dX4_hasBit_1 : decode cX4_hasBit 1 = .ok (.iload_n 1, 1) := by decide +kernel
theorem dX4_hasBit_2 : decode cX4_hasBit 2 = .ok (.ishr, 1) := by decide +kernel
theorem dX4_hasBit_3 : decode cX4_hasBit 3 = .ok (.iconst 1, 1) := by decide +kernel
theorem dX4_hasBit_4 : decode cX4_hasBit 4 = .ok (.iand, 1) := by decide +kernel
theorem dX4_hasBit_5 : decode cX4_hasBit 5 = .ok (.ifCond .eq 7, 3) := by decide +kernel
theorem dX4_hasBit_8 : decode cX4_hasBit 8 = .ok (.iconst 1, 1) := by decide +kernel
theorem dX4_hasBit_9 : decode cX4_hasBit 9 = .ok (.goto 4, 3) := by decide +kernel
theorem dX4_hasBit_12 : decode cX4_hasBit 12 = .ok (.iconst 0, 1) := by decide +kernel
theorem dX4_hasBit_13 : decode cX4_hasBit 13 = .ok (.ireturn, 1) := by decide +kernel
theorem dX4_isThing_0 : decode cX4_isThing 0 = .ok (.iload_n 1, 1) := by decide +kernel
theorem dX4_isThing_1 : decode cX4_isThing 1 = .ok (.ifCond .lt 18, 3) := by decide +kernel
theorem dX4_isThing_4 : decode cX4_isThing 4 = .ok (.iload_n 1, 1) := by decide +kernel
theorem dX4_isThing_5 : decode cX4_isThing 5 = .ok (.aload_n 0, 1) := by decide +kernel
theorem dX4_isThing_6 : decode cX4_isThing 6 = .ok (.getfield 10, 3) := by decide +kernel
theorem dX4_isThing_9 : decode cX4_isThing 9 = .ok (.getfield 215, 3) := by decide +kernel
theorem dX4_isThing_12 : decode cX4_isThing 12 = .ok (.if_icmp .ge 7, 3) := by decide +kernel
theorem dX4_isThing_15 : decode cX4_isThing 15 = .ok (.iconst 1, 1) := by decide +kernel
theorem dX4_isThing_16 : decode cX4_isThing 16 = .ok (.goto 4, 3) := by decide +kernel
theorem dX4_isThing_19 : decode cX4_isThing 19 = .ok (.iconst 0, 1) := by decide +kernel
theorem dX4_isThing_20 : decode cX4_isThing 20 = .ok (.ireturn, 1) := by decide +kernel
theorem dX4_isUnder_0 : decode cX4_isUnder 0 = .ok (.iload_n 0, 1) := by decide +kernel
theorem dX4_isUnder_1 : decode cX4_isUnder 1 = .ok (.istore_n 2, 1) := by decide +kernel
theorem dX4_isUnder_2 : decode cX4_isUnder 2 = .ok (.iconst 0, 1) := by decide +kernel
theorem dX4_isUnder_3 : decode cX4_isUnder 3 = .ok (.istore_n 3, 1) := by decide +kernel
theorem dX4_isUnder_4 : decode cX4_isUnder 4 = .ok (.iload_n 3, 1) := by decide +kernel
theorem dX4_isUnder_5 : decode cX4_isUnder 5 = .ok (.getstatic 115, 3) := by decide +kernel
theorem dX4_isUnder_8 : decode cX4_isUnder 8 = .ok (.arraylength, 1) := by decide +kernel
theorem dX4_isUnder_9 : decode cX4_isUnder 9 = .ok (.if_icmp .ge 34, 3) := by decide +kernel
theorem dX4_isUnder_12 : decode cX4_isUnder 12 = .ok (.iload_n 2, 1) := by decide +kernel
theorem dX4_isUnder_13 : decode cX4_isUnder 13 = .ok (.ifCond .lt 30, 3) := by decide +kernel
theorem dX4_isUnder_16 : decode cX4_isUnder 16 = .ok (.iload_n 2, 1) := by decide +kernel
theorem dX4_isUnder_17 : decode cX4_isUnder 17 = .ok (.getstatic 115, 3) := by decide +kernel
theorem dX4_isUnder_20 : decode cX4_isUnder 20 = .ok (.arraylength, 1) := by decide +kernel
theorem dX4_isUnder_21 : decode cX4_isUnder 21 = .ok (.if_icmp .ge 22, 3) := by decide +kernel
theorem dX4_isUnder_24 : decode cX4_isUnder 24 = .ok (.iload_n 2, 1) := by decide +kernel
theorem dX4_isUnder_25 : decode cX4_isUnder 25 = .ok (.iload_n 1, 1) := by decide +kernel
theorem dX4_isUnder_26 : decode cX4_isUnder 26 = .ok (.if_icmp .ne 5, 3) := by decide +kernel
theorem dX4_isUnder_29 : decode cX4_isUnder 29 = .ok (.iconst 1, 1) := by decide +kernel
theorem dX4_isUnder_30 : decode cX4_isUnder 30 = .ok (.ireturn, 1) := by decide +kernel
theorem dX4_isUnder_31 : decode cX4_isUnder 31 = .ok (.getstatic 115, 3) := by decide +kernel
theorem dX4_isUnder_34 : decode cX4_isUnder 34 = .ok (.iload_n 2, 1) := by decide +kernel
theorem dX4_isUnder_35 : decode cX4_isUnder 35 = .ok (.iaload, 1) := by decide +kernel
theorem dX4_isUnder_36 : decode cX4_isUnder 36 = .ok (.istore_n 2, 1) := by decide +kernel
theorem dX4_isUnder_37 : decode cX4_isUnder 37 = .ok (.iinc 3 1, 3) := by decide +kernel
theorem dX4_isUnder_40 : decode cX4_isUnder 40 = .ok (.goto (-36), 3) := by decide +kernel
theorem dX4_isUnder_43 : decode cX4_isUnder 43 = .ok (.iconst 0, 1) := by decide +kernel
theorem dX4_isUnder_44 : decode cX4_isUnder 44 = .ok (.ireturn, 1) := by decide +kernel
theorem dX4_handIn_0 : decode cX4_handIn 0 = .ok (.iconst 1, 1) := by decide +kernel
theorem dX4_handIn_1 : decode cX4_handIn 1 = .ok (.istore_n 3, 1) := by decide +kernel
theorem dX4_handIn_2 : decode cX4_handIn 2 = .ok (.iload_n 3, 1) := by decide +kernel
theorem dX4_handIn_3 : decode cX4_handIn 3 = .ok (.aload_n 0, 1) := by decide +kernel
theorem dX4_handIn_4 : decode cX4_handIn 4 = .ok (.getfield 248, 3) := by decide +kernel
theorem dX4_handIn_7 : decode cX4_handIn 7 = .ok (.aload_n 0, 1) := by decide +kernel
theorem dX4_handIn_8 : decode cX4_handIn 8 = .ok (.getfield 251, 3) := by decide +kernel
theorem dX4_handIn_11 : decode cX4_handIn 11 = .ok (.iadd, 1) := by decide +kernel
theorem dX4_handIn_12 : decode cX4_handIn 12 = .ok (.if_icmp .gt 49, 3) := by decide +kernel
theorem dX4_handIn_15 : decode cX4_handIn 15 = .ok (.iload_n 2, 1) := by decide +kernel
theorem dX4_handIn_16 : decode cX4_handIn 16 = .ok (.iload_n 3, 1) := by decide +kernel
theorem dX4_handIn_17 : decode cX4_handIn 17 = .ok (.isub, 1) := by decide +kernel
theorem dX4_handIn_18 : decode cX4_handIn 18 = .ok (.istore 4, 2) := by decide +kernel
theorem dX4_handIn_20 : decode cX4_handIn 20 = .ok (.iload 4, 2) := by decide +kernel
theorem dX4_handIn_22 : decode cX4_handIn 22 = .ok (.ifCond .lt 33, 3) := by decide +kernel
theorem dX4_handIn_25 : decode cX4_handIn 25 = .ok (.iload 4, 2) := by decide +kernel
theorem dX4_handIn_27 : decode cX4_handIn 27 = .ok (.bipush 24, 2) := by decide +kernel
theorem dX4_handIn_29 : decode cX4_handIn 29 = .ok (.if_icmp .ge 26, 3) := by decide +kernel
theorem dX4_handIn_32 : decode cX4_handIn 32 = .ok (.iload_n 1, 1) := by decide +kernel
theorem dX4_handIn_33 : decode cX4_handIn 33 = .ok (.iload 4, 2) := by decide +kernel
theorem dX4_handIn_35 : decode cX4_handIn 35 = .ok (.invokestatic 107, 3) := by decide +kernel
theorem dX4_handIn_38 : decode cX4_handIn 38 = .ok (.ifCond .eq 17, 3) := by decide +kernel
theorem dX4_handIn_41 : decode cX4_handIn 41 = .ok (.iload_n 3, 1) := by decide +kernel
theorem dX4_handIn_42 : decode cX4_handIn 42 = .ok (.aload_n 0, 1) := by decide +kernel
theorem dX4_handIn_43 : decode cX4_handIn 43 = .ok (.getfield 248, 3) := by decide +kernel
theorem dX4_handIn_46 : decode cX4_handIn 46 = .ok (.if_icmp .gt 7, 3) := by decide +kernel
theorem dX4_handIn_49 : decode cX4_handIn 49 = .ok (.iconst 0, 1) := by decide +kernel
theorem dX4_handIn_50 : decode cX4_handIn 50 = .ok (.goto 4, 3) := by decide +kernel
theorem dX4_handIn_53 : decode cX4_handIn 53 = .ok (.iconst 1, 1) := by decide +kernel
theorem dX4_handIn_54 : decode cX4_handIn 54 = .ok (.ireturn, 1) := by decide +kernel
theorem dX4_handIn_55 : decode cX4_handIn 55 = .ok (.iinc 3 1, 3) := by decide +kernel
theorem dX4_handIn_58 : decode cX4_handIn 58 = .ok (.goto (-56), 3) := by decide +kernel
theorem dX4_handIn_61 : decode cX4_handIn 61 = .ok (.iconst 2, 1) := by decide +kernel
theorem dX4_handIn_62 : decode cX4_handIn 62 = .ok (.ireturn, 1) := by decide +kernel
theorem dX4_startDay_0 : decode cX4_startDay 0 = .ok (.aload_n 0, 1) := by decide +kernel
theorem dX4_startDay_1 : decode cX4_startDay 1 = .ok (.getfield 29, 3) := by decide +kernel
theorem dX4_startDay_4 : decode cX4_startDay 4 = .ok (.invokevirtual 260, 3) := by decide +kernel
theorem dX4_startDay_7 : decode cX4_startDay 7 = .ok (.aload_n 0, 1) := by decide +kernel
theorem dX4_startDay_8 : decode cX4_startDay 8 = .ok (.iconst 0, 1) := by decide +kernel
theorem dX4_startDay_9 : decode cX4_startDay 9 = .ok (.putfield 169, 3) := by decide +kernel
theorem dX4_startDay_12 : decode cX4_startDay 12 = .ok (.aload_n 0, 1) := by decide +kernel
theorem dX4_startDay_13 : decode cX4_startDay 13 = .ok (.iconst 0, 1) := by decide +kernel
theorem dX4_startDay_14 : decode cX4_startDay 14 = .ok (.putfield 175, 3) := by decide +kernel
theorem dX4_startDay_17 : decode cX4_startDay 17 = .ok (.aload_n 0, 1) := by decide +kernel
theorem dX4_startDay_18 : decode cX4_startDay 18 = .ok (.iconst 0, 1) := by decide +kernel
theorem dX4_startDay_19 : decode cX4_startDay 19 = .ok (.putfield 194, 3) := by decide +kernel
theorem dX4_startDay_22 : decode cX4_startDay 22 = .ok (.aload_n 0, 1) := by decide +kernel
theorem dX4_startDay_23 : decode cX4_startDay 23 = .ok (.iconst 0, 1) := by decide +kernel
theorem dX4_startDay_24 : decode cX4_startDay 24 = .ok (.putfield 133, 3) := by decide +kernel
theorem dX4_startDay_27 : decode cX4_startDay 27 = .ok (.aload_n 0, 1) := by decide +kernel
theorem dX4_startDay_28 : decode cX4_startDay 28 = .ok (.iconst 0, 1) := by decide +kernel
theorem dX4_startDay_29 : decode cX4_startDay 29 = .ok (.putfield 221, 3) := by decide +kernel
theorem dX4_startDay_32 : decode cX4_startDay 32 = .ok (.return_, 1) := by decide +kernel
theorem dX4_servesAsTool_0 : decode cX4_servesAsTool 0 = .ok (.aload_n 0, 1) := by decide +kernel
theorem dX4_servesAsTool_1 : decode cX4_servesAsTool 1 = .ok (.getfield 10, 3) := by decide +kernel
theorem dX4_servesAsTool_4 : decode cX4_servesAsTool 4 = .ok (.getfield 88, 3) := by decide +kernel
theorem dX4_servesAsTool_7 : decode cX4_servesAsTool 7 = .ok (.iload_n 1, 1) := by decide +kernel
theorem dX4_servesAsTool_8 : decode cX4_servesAsTool 8 = .ok (.iaload, 1) := by decide +kernel
theorem dX4_servesAsTool_9 : decode cX4_servesAsTool 9 = .ok (.iconst 1, 1) := by decide +kernel
theorem dX4_servesAsTool_10 : decode cX4_servesAsTool 10 = .ok (.if_icmp .ne 43, 3) := by decide +kernel
theorem dX4_servesAsTool_13 : decode cX4_servesAsTool 13 = .ok (.aload_n 0, 1) := by decide +kernel
theorem dX4_servesAsTool_14 : decode cX4_servesAsTool 14 = .ok (.getfield 10, 3) := by decide +kernel
theorem dX4_servesAsTool_17 : decode cX4_servesAsTool 17 = .ok (.getfield 97, 3) := by decide +kernel
theorem dX4_servesAsTool_20 : decode cX4_servesAsTool 20 = .ok (.iload_n 1, 1) := by decide +kernel
theorem dX4_servesAsTool_21 : decode cX4_servesAsTool 21 = .ok (.iaload, 1) := by decide +kernel
theorem dX4_servesAsTool_22 : decode cX4_servesAsTool 22 = .ok (.aload_n 0, 1) := by decide +kernel
theorem dX4_servesAsTool_23 : decode cX4_servesAsTool 23 = .ok (.getfield 10, 3) := by decide +kernel
theorem dX4_servesAsTool_26 : decode cX4_servesAsTool 26 = .ok (.getfield 97, 3) := by decide +kernel
theorem dX4_servesAsTool_29 : decode cX4_servesAsTool 29 = .ok (.iload_n 2, 1) := by decide +kernel
theorem dX4_servesAsTool_30 : decode cX4_servesAsTool 30 = .ok (.iaload, 1) := by decide +kernel
theorem dX4_servesAsTool_31 : decode cX4_servesAsTool 31 = .ok (.if_icmp .ne 22, 3) := by decide +kernel
theorem dX4_servesAsTool_34 : decode cX4_servesAsTool 34 = .ok (.aload_n 0, 1) := by decide +kernel
theorem dX4_servesAsTool_35 : decode cX4_servesAsTool 35 = .ok (.getfield 29, 3) := by decide +kernel
theorem dX4_servesAsTool_38 : decode cX4_servesAsTool 38 = .ok (.aload_n 0, 1) := by decide +kernel
theorem dX4_servesAsTool_39 : decode cX4_servesAsTool 39 = .ok (.getfield 10, 3) := by decide +kernel
theorem dX4_servesAsTool_42 : decode cX4_servesAsTool 42 = .ok (.iload_n 1, 1) := by decide +kernel
theorem dX4_servesAsTool_43 : decode cX4_servesAsTool 43 = .ok (.invokevirtual 146, 3) := by decide +kernel
theorem dX4_servesAsTool_46 : decode cX4_servesAsTool 46 = .ok (.ifCond .ne 7, 3) := by decide +kernel
theorem dX4_servesAsTool_49 : decode cX4_servesAsTool 49 = .ok (.iconst 1, 1) := by decide +kernel
theorem dX4_servesAsTool_50 : decode cX4_servesAsTool 50 = .ok (.goto 4, 3) := by decide +kernel
theorem dX4_servesAsTool_53 : decode cX4_servesAsTool 53 = .ok (.iconst 0, 1) := by decide +kernel
theorem dX4_servesAsTool_54 : decode cX4_servesAsTool 54 = .ok (.ireturn, 1) := by decide +kernel
theorem dX4_remember_0 : decode cX4_remember 0 = .ok (.aload_n 0, 1) := by decide +kernel
theorem dX4_remember_1 : decode cX4_remember 1 = .ok (.getfield 169, 3) := by decide +kernel
theorem dX4_remember_4 : decode cX4_remember 4 = .ok (.bipush 8, 2) := by decide +kernel
theorem dX4_remember_6 : decode cX4_remember 6 = .ok (.if_icmp .lt 52, 3) := by decide +kernel
theorem dX4_remember_9 : decode cX4_remember 9 = .ok (.aload_n 0, 1) := by decide +kernel
theorem dX4_remember_10 : decode cX4_remember 10 = .ok (.getfield 36, 3) := by decide +kernel
theorem dX4_remember_13 : decode cX4_remember 13 = .ok (.iconst 0, 1) := by decide +kernel
theorem dX4_remember_14 : decode cX4_remember 14 = .ok (.aaload, 1) := by decide +kernel
theorem dX4_remember_15 : decode cX4_remember 15 = .ok (.astore_n 1, 1) := by decide +kernel
theorem dX4_remember_16 : decode cX4_remember 16 = .ok (.iconst 1, 1) := by decide +kernel
theorem dX4_remember_17 : decode cX4_remember 17 = .ok (.istore_n 2, 1) := by decide +kernel
theorem dX4_remember_18 : decode cX4_remember 18 = .ok (.iload_n 2, 1) := by decide +kernel
theorem dX4_remember_19 : decode cX4_remember 19 = .ok (.bipush 8, 2) := by decide +kernel
theorem dX4_remember_21 : decode cX4_remember 21 = .ok (.if_icmp .ge 23, 3) := by decide +kernel
theorem dX4_remember_24 : decode cX4_remember 24 = .ok (.aload_n 0, 1) := by decide +kernel
theorem dX4_remember_25 : decode cX4_remember 25 = .ok (.getfield 36, 3) := by decide +kernel
theorem dX4_remember_28 : decode cX4_remember 28 = .ok (.iload_n 2, 1) := by decide +kernel
theorem dX4_remember_29 : decode cX4_remember 29 = .ok (.iconst 1, 1) := by decide +kernel
theorem dX4_remember_30 : decode cX4_remember 30 = .ok (.isub, 1) := by decide +kernel
theorem dX4_remember_31 : decode cX4_remember 31 = .ok (.aload_n 0, 1) := by decide +kernel
theorem dX4_remember_32 : decode cX4_remember 32 = .ok (.getfield 36, 3) := by decide +kernel
theorem dX4_remember_35 : decode cX4_remember 35 = .ok (.iload_n 2, 1) := by decide +kernel
theorem dX4_remember_36 : decode cX4_remember 36 = .ok (.aaload, 1) := by decide +kernel
theorem dX4_remember_37 : decode cX4_remember 37 = .ok (.aastore, 1) := by decide +kernel
theorem dX4_remember_38 : decode cX4_remember 38 = .ok (.iinc 2 1, 3) := by decide +kernel
theorem dX4_remember_41 : decode cX4_remember 41 = .ok (.goto (-23), 3) := by decide +kernel
theorem dX4_remember_44 : decode cX4_remember 44 = .ok (.aload_n 0, 1) := by decide +kernel
theorem dX4_remember_45 : decode cX4_remember 45 = .ok (.getfield 36, 3) := by decide +kernel
theorem dX4_remember_48 : decode cX4_remember 48 = .ok (.bipush 7, 2) := by decide +kernel
theorem dX4_remember_50 : decode cX4_remember 50 = .ok (.aload_n 1, 1) := by decide +kernel
theorem dX4_remember_51 : decode cX4_remember 51 = .ok (.aastore, 1) := by decide +kernel
theorem dX4_remember_52 : decode cX4_remember 52 = .ok (.aload_n 0, 1) := by decide +kernel
theorem dX4_remember_53 : decode cX4_remember 53 = .ok (.bipush 7, 2) := by decide +kernel
theorem dX4_remember_55 : decode cX4_remember 55 = .ok (.putfield 169, 3) := by decide +kernel
theorem dX4_remember_58 : decode cX4_remember 58 = .ok (.aload_n 0, 1) := by decide +kernel
theorem dX4_remember_59 : decode cX4_remember 59 = .ok (.getfield 36, 3) := by decide +kernel
theorem dX4_remember_62 : decode cX4_remember 62 = .ok (.aload_n 0, 1) := by decide +kernel
theorem dX4_remember_63 : decode cX4_remember 63 = .ok (.getfield 169, 3) := by decide +kernel
theorem dX4_remember_66 : decode cX4_remember 66 = .ok (.aaload, 1) := by decide +kernel
theorem dX4_remember_67 : decode cX4_remember 67 = .ok (.aload_n 0, 1) := by decide +kernel
theorem dX4_remember_68 : decode cX4_remember 68 = .ok (.getfield 29, 3) := by decide +kernel
theorem dX4_remember_71 : decode cX4_remember 71 = .ok (.invokevirtual 172, 3) := by decide +kernel
theorem dX4_remember_74 : decode cX4_remember 74 = .ok (.aload_n 0, 1) := by decide +kernel
theorem dX4_remember_75 : decode cX4_remember 75 = .ok (.dup, 1) := by decide +kernel
theorem dX4_remember_76 : decode cX4_remember 76 = .ok (.getfield 169, 3) := by decide +kernel
theorem dX4_remember_79 : decode cX4_remember 79 = .ok (.iconst 1, 1) := by decide +kernel
theorem dX4_remember_80 : decode cX4_remember 80 = .ok (.iadd, 1) := by decide +kernel
theorem dX4_remember_81 : decode cX4_remember 81 = .ok (.putfield 169, 3) := by decide +kernel
theorem dX4_remember_84 : decode cX4_remember 84 = .ok (.return_, 1) := by decide +kernel
theorem dX4_doTouching_0 : decode cX4_doTouching 0 = .ok (.aload_n 0, 1) := by decide +kernel
theorem dX4_doTouching_1 : decode cX4_doTouching 1 = .ok (.invokevirtual 163, 3) := by decide +kernel
theorem dX4_doTouching_4 : decode cX4_doTouching 4 = .ok (.aload_n 0, 1) := by decide +kernel
theorem dX4_doTouching_5 : decode cX4_doTouching 5 = .ok (.getfield 29, 3) := by decide +kernel
theorem dX4_doTouching_8 : decode cX4_doTouching 8 = .ok (.aload_n 0, 1) := by decide +kernel
theorem dX4_doTouching_9 : decode cX4_doTouching 9 = .ok (.getfield 10, 3) := by decide +kernel
theorem dX4_doTouching_12 : decode cX4_doTouching 12 = .ok (.iload_n 1, 1) := by decide +kernel
theorem dX4_doTouching_13 : decode cX4_doTouching 13 = .ok (.invokevirtual 263, 3) := by decide +kernel
theorem dX4_doTouching_16 : decode cX4_doTouching 16 = .ok (.aload_n 0, 1) := by decide +kernel
theorem dX4_doTouching_17 : decode cX4_doTouching 17 = .ok (.getfield 29, 3) := by decide +kernel
theorem dX4_doTouching_20 : decode cX4_doTouching 20 = .ok (.iload_n 1, 1) := by decide +kernel
theorem dX4_doTouching_21 : decode cX4_doTouching 21 = .ok (.invokevirtual 100, 3) := by decide +kernel
theorem dX4_doTouching_24 : decode cX4_doTouching 24 = .ok (.istore_n 2, 1) := by decide +kernel
theorem dX4_doTouching_25 : decode cX4_doTouching 25 = .ok (.aload_n 0, 1) := by decide +kernel
theorem dX4_doTouching_26 : decode cX4_doTouching 26 = .ok (.getfield 29, 3) := by decide +kernel
theorem dX4_doTouching_29 : decode cX4_doTouching 29 = .ok (.aload_n 0, 1) := by decide +kernel
theorem dX4_doTouching_30 : decode cX4_doTouching 30 = .ok (.getfield 10, 3) := by decide +kernel
theorem dX4_doTouching_33 : decode cX4_doTouching 33 = .ok (.invokevirtual 166, 3) := by decide +kernel
theorem dX4_doTouching_36 : decode cX4_doTouching 36 = .ok (.iload_n 2, 1) := by decide +kernel
theorem dX4_doTouching_37 : decode cX4_doTouching 37 = .ok (.ireturn, 1) := by decide +kernel
theorem dX4_doEating_0 : decode cX4_doEating 0 = .ok (.aload_n 0, 1) := by decide +kernel
theorem dX4_doEating_1 : decode cX4_doEating 1 = .ok (.invokevirtual 163, 3) := by decide +kernel
theorem dX4_doEating_4 : decode cX4_doEating 4 = .ok (.aload_n 0, 1) := by decide +kernel
theorem dX4_doEating_5 : decode cX4_doEating 5 = .ok (.getfield 29, 3) := by decide +kernel
theorem dX4_doEating_8 : decode cX4_doEating 8 = .ok (.aload_n 0, 1) := by decide +kernel
theorem dX4_doEating_9 : decode cX4_doEating 9 = .ok (.getfield 10, 3) := by decide +kernel
theorem dX4_doEating_12 : decode cX4_doEating 12 = .ok (.iload_n 2, 1) := by decide +kernel
theorem dX4_doEating_13 : decode cX4_doEating 13 = .ok (.invokevirtual 263, 3) := by decide +kernel
theorem dX4_doEating_16 : decode cX4_doEating 16 = .ok (.aload_n 0, 1) := by decide +kernel
theorem dX4_doEating_17 : decode cX4_doEating 17 = .ok (.getfield 29, 3) := by decide +kernel
theorem dX4_doEating_20 : decode cX4_doEating 20 = .ok (.iload_n 1, 1) := by decide +kernel
theorem dX4_doEating_21 : decode cX4_doEating 21 = .ok (.invokevirtual 100, 3) := by decide +kernel
theorem dX4_doEating_24 : decode cX4_doEating 24 = .ok (.ifCond .ne 7, 3) := by decide +kernel
theorem dX4_doEating_27 : decode cX4_doEating 27 = .ok (.iconst 1, 1) := by decide +kernel
theorem dX4_doEating_28 : decode cX4_doEating 28 = .ok (.goto 4, 3) := by decide +kernel
theorem dX4_doEating_31 : decode cX4_doEating 31 = .ok (.iconst 0, 1) := by decide +kernel
theorem dX4_doEating_32 : decode cX4_doEating 32 = .ok (.istore_n 3, 1) := by decide +kernel
theorem dX4_doEating_33 : decode cX4_doEating 33 = .ok (.iload_n 3, 1) := by decide +kernel
theorem dX4_doEating_34 : decode cX4_doEating 34 = .ok (.ifCond .eq 18, 3) := by decide +kernel
theorem dX4_doEating_37 : decode cX4_doEating 37 = .ok (.aload_n 0, 1) := by decide +kernel
theorem dX4_doEating_38 : decode cX4_doEating 38 = .ok (.getfield 29, 3) := by decide +kernel
theorem dX4_doEating_41 : decode cX4_doEating 41 = .ok (.dup, 1) := by decide +kernel
theorem dX4_doEating_42 : decode cX4_doEating 42 = .ok (.getfield 104, 3) := by decide +kernel
theorem dX4_doEating_45 : decode cX4_doEating 45 = .ok (.iconst 1, 1) := by decide +kernel
theorem dX4_doEating_46 : decode cX4_doEating 46 = .ok (.iload_n 1, 1) := by decide +kernel
theorem dX4_doEating_47 : decode cX4_doEating 47 = .ok (.ishl, 1) := by decide +kernel
theorem dX4_doEating_48 : decode cX4_doEating 48 = .ok (.ior, 1) := by decide +kernel
theorem dX4_doEating_49 : decode cX4_doEating 49 = .ok (.putfield 104, 3) := by decide +kernel
theorem dX4_doEating_52 : decode cX4_doEating 52 = .ok (.aload_n 0, 1) := by decide +kernel
theorem dX4_doEating_53 : decode cX4_doEating 53 = .ok (.getfield 29, 3) := by decide +kernel
theorem dX4_doEating_56 : decode cX4_doEating 56 = .ok (.aload_n 0, 1) := by decide +kernel
theorem dX4_doEating_57 : decode cX4_doEating 57 = .ok (.getfield 10, 3) := by decide +kernel
theorem dX4_doEating_60 : decode cX4_doEating 60 = .ok (.invokevirtual 166, 3) := by decide +kernel
theorem dX4_doEating_63 : decode cX4_doEating 63 = .ok (.iload_n 3, 1) := by decide +kernel
theorem dX4_doEating_64 : decode cX4_doEating 64 = .ok (.ifCond .eq 7, 3) := by decide +kernel
theorem dX4_doEating_67 : decode cX4_doEating 67 = .ok (.iconst 1, 1) := by decide +kernel
theorem dX4_doEating_68 : decode cX4_doEating 68 = .ok (.goto 4, 3) := by decide +kernel
theorem dX4_doEating_71 : decode cX4_doEating 71 = .ok (.iconst 0, 1) := by decide +kernel
theorem dX4_doEating_72 : decode cX4_doEating 72 = .ok (.ireturn, 1) := by decide +kernel
theorem dX4_townThings_0 : decode cX4_townThings 0 = .ok (.iconst 0, 1) := by decide +kernel
theorem dX4_townThings_1 : decode cX4_townThings 1 = .ok (.istore_n 1, 1) := by decide +kernel
theorem dX4_townThings_2 : decode cX4_townThings 2 = .ok (.iconst 0, 1) := by decide +kernel
theorem dX4_townThings_3 : decode cX4_townThings 3 = .ok (.istore_n 2, 1) := by decide +kernel
theorem dX4_townThings_4 : decode cX4_townThings 4 = .ok (.iload_n 2, 1) := by decide +kernel
theorem dX4_townThings_5 : decode cX4_townThings 5 = .ok (.aload_n 0, 1) := by decide +kernel
theorem dX4_townThings_6 : decode cX4_townThings 6 = .ok (.getfield 10, 3) := by decide +kernel
theorem dX4_townThings_9 : decode cX4_townThings 9 = .ok (.getfield 215, 3) := by decide +kernel
theorem dX4_townThings_12 : decode cX4_townThings 12 = .ok (.if_icmp .ge 57, 3) := by decide +kernel
theorem dX4_townThings_15 : decode cX4_townThings 15 = .ok (.aload_n 0, 1) := by decide +kernel
theorem dX4_townThings_16 : decode cX4_townThings 16 = .ok (.getfield 10, 3) := by decide +kernel
theorem dX4_townThings_19 : decode cX4_townThings 19 = .ok (.getfield 88, 3) := by decide +kernel
theorem dX4_townThings_22 : decode cX4_townThings 22 = .ok (.iload_n 2, 1) := by decide +kernel
theorem dX4_townThings_23 : decode cX4_townThings 23 = .ok (.iaload, 1) := by decide +kernel
theorem dX4_townThings_24 : decode cX4_townThings 24 = .ok (.iconst 3, 1) := by decide +kernel
theorem dX4_townThings_25 : decode cX4_townThings 25 = .ok (.if_icmp .eq 38, 3) := by decide +kernel
theorem dX4_townThings_28 : decode cX4_townThings 28 = .ok (.aload_n 0, 1) := by decide +kernel
theorem dX4_townThings_29 : decode cX4_townThings 29 = .ok (.getfield 29, 3) := by decide +kernel
theorem dX4_townThings_32 : decode cX4_townThings 32 = .ok (.getfield 182, 3) := by decide +kernel
theorem dX4_townThings_35 : decode cX4_townThings 35 = .ok (.iload_n 2, 1) := by decide +kernel
theorem dX4_townThings_36 : decode cX4_townThings 36 = .ok (.invokestatic 107, 3) := by decide +kernel
theorem dX4_townThings_39 : decode cX4_townThings 39 = .ok (.ifCond .ne 24, 3) := by decide +kernel
theorem dX4_townThings_42 : decode cX4_townThings 42 = .ok (.aload_n 0, 1) := by decide +kernel
theorem dX4_townThings_43 : decode cX4_townThings 43 = .ok (.getfield 29, 3) := by decide +kernel
theorem dX4_townThings_46 : decode cX4_townThings 46 = .ok (.aload_n 0, 1) := by decide +kernel
theorem dX4_townThings_47 : decode cX4_townThings 47 = .ok (.getfield 10, 3) := by decide +kernel
theorem dX4_townThings_50 : decode cX4_townThings 50 = .ok (.iload_n 2, 1) := by decide +kernel
theorem dX4_townThings_51 : decode cX4_townThings 51 = .ok (.invokevirtual 146, 3) := by decide +kernel
theorem dX4_townThings_54 : decode cX4_townThings 54 = .ok (.ifCond .ne 9, 3) := by decide +kernel
theorem dX4_townThings_57 : decode cX4_townThings 57 = .ok (.iload_n 1, 1) := by decide +kernel
theorem dX4_townThings_58 : decode cX4_townThings 58 = .ok (.iconst 1, 1) := by decide +kernel
theorem dX4_townThings_59 : decode cX4_townThings 59 = .ok (.iload_n 2, 1) := by decide +kernel
theorem dX4_townThings_60 : decode cX4_townThings 60 = .ok (.ishl, 1) := by decide +kernel
theorem dX4_townThings_61 : decode cX4_townThings 61 = .ok (.ior, 1) := by decide +kernel
theorem dX4_townThings_62 : decode cX4_townThings 62 = .ok (.istore_n 1, 1) := by decide +kernel
theorem dX4_townThings_63 : decode cX4_townThings 63 = .ok (.iinc 2 1, 3) := by decide +kernel
theorem dX4_townThings_66 : decode cX4_townThings 66 = .ok (.goto (-62), 3) := by decide +kernel
theorem dX4_townThings_69 : decode cX4_townThings 69 = .ok (.iload_n 1, 1) := by decide +kernel
theorem dX4_townThings_70 : decode cX4_townThings 70 = .ok (.ireturn, 1) := by decide +kernel
theorem dX4_thiefGain_0 : decode cX4_thiefGain 0 = .ok (.aload_n 0, 1) := by decide +kernel
theorem dX4_thiefGain_1 : decode cX4_thiefGain 1 = .ok (.getfield 29, 3) := by decide +kernel
theorem dX4_thiefGain_4 : decode cX4_thiefGain 4 = .ok (.getfield 104, 3) := by decide +kernel
theorem dX4_thiefGain_7 : decode cX4_thiefGain 7 = .ok (.iload_n 1, 1) := by decide +kernel
theorem dX4_thiefGain_8 : decode cX4_thiefGain 8 = .ok (.invokestatic 107, 3) := by decide +kernel
theorem dX4_thiefGain_11 : decode cX4_thiefGain 11 = .ok (.ifCond .ne 16, 3) := by decide +kernel
theorem dX4_thiefGain_14 : decode cX4_thiefGain 14 = .ok (.aload_n 0, 1) := by decide +kernel
theorem dX4_thiefGain_15 : decode cX4_thiefGain 15 = .ok (.getfield 10, 3) := by decide +kernel
theorem dX4_thiefGain_18 : decode cX4_thiefGain 18 = .ok (.getfield 97, 3) := by decide +kernel
theorem dX4_thiefGain_21 : decode cX4_thiefGain 21 = .ok (.iload_n 1, 1) := by decide +kernel
theorem dX4_thiefGain_22 : decode cX4_thiefGain 22 = .ok (.iaload, 1) := by decide +kernel
theorem dX4_thiefGain_23 : decode cX4_thiefGain 23 = .ok (.iload_n 2, 1) := by decide +kernel
theorem dX4_thiefGain_24 : decode cX4_thiefGain 24 = .ok (.if_icmp .ne 5, 3) := by decide +kernel
theorem dX4_thiefGain_27 : decode cX4_thiefGain 27 = .ok (.iconst 0, 1) := by decide +kernel
theorem dX4_thiefGain_28 : decode cX4_thiefGain 28 = .ok (.ireturn, 1) := by decide +kernel
theorem dX4_thiefGain_29 : decode cX4_thiefGain 29 = .ok (.iconst 0, 1) := by decide +kernel
theorem dX4_thiefGain_30 : decode cX4_thiefGain 30 = .ok (.iconst 3, 1) := by decide +kernel
theorem dX4_thiefGain_31 : decode cX4_thiefGain 31 = .ok (.aload_n 0, 1) := by decide +kernel
theorem dX4_thiefGain_32 : decode cX4_thiefGain 32 = .ok (.getfield 10, 3) := by decide +kernel
theorem dX4_thiefGain_35 : decode cX4_thiefGain 35 = .ok (.getfield 91, 3) := by decide +kernel
theorem dX4_thiefGain_38 : decode cX4_thiefGain 38 = .ok (.iload_n 1, 1) := by decide +kernel
theorem dX4_thiefGain_39 : decode cX4_thiefGain 39 = .ok (.iaload, 1) := by decide +kernel
theorem dX4_thiefGain_40 : decode cX4_thiefGain 40 = .ok (.imul, 1) := by decide +kernel
theorem dX4_thiefGain_41 : decode cX4_thiefGain 41 = .ok (.aload_n 0, 1) := by decide +kernel
theorem dX4_thiefGain_42 : decode cX4_thiefGain 42 = .ok (.getfield 29, 3) := by decide +kernel
theorem dX4_thiefGain_45 : decode cX4_thiefGain 45 = .ok (.aload_n 0, 1) := by decide +kernel
theorem dX4_thiefGain_46 : decode cX4_thiefGain 46 = .ok (.getfield 10, 3) := by decide +kernel
theorem dX4_thiefGain_49 : decode cX4_thiefGain 49 = .ok (.iload_n 1, 1) := by decide +kernel
theorem dX4_thiefGain_50 : decode cX4_thiefGain 50 = .ok (.invokevirtual 111, 3) := by decide +kernel
theorem dX4_thiefGain_53 : decode cX4_thiefGain 53 = .ok (.isub, 1) := by decide +kernel
theorem dX4_thiefGain_54 : decode cX4_thiefGain 54 = .ok (.invokestatic 267, 3) := by decide +kernel
theorem dX4_thiefGain_57 : decode cX4_thiefGain 57 = .ok (.ireturn, 1) := by decide +kernel
theorem dX4_isRest_0 : decode cX4_isRest 0 = .ok (.aload_n 0, 1) := by decide +kernel
theorem dX4_isRest_1 : decode cX4_isRest 1 = .ok (.iload_n 1, 1) := by decide +kernel
theorem dX4_isRest_2 : decode cX4_isRest 2 = .ok (.iload_n 2, 1) := by decide +kernel
theorem dX4_isRest_3 : decode cX4_isRest 3 = .ok (.invokevirtual 272, 3) := by decide +kernel
theorem dX4_isRest_6 : decode cX4_isRest 6 = .ok (.istore_n 3, 1) := by decide +kernel
theorem dX4_isRest_7 : decode cX4_isRest 7 = .ok (.iconst 0, 1) := by decide +kernel
theorem dX4_isRest_8 : decode cX4_isRest 8 = .ok (.istore 4, 2) := by decide +kernel
theorem dX4_isRest_10 : decode cX4_isRest 10 = .ok (.iload 4, 2) := by decide +kernel
theorem dX4_isRest_12 : decode cX4_isRest 12 = .ok (.aload_n 0, 1) := by decide +kernel
theorem dX4_isRest_13 : decode cX4_isRest 13 = .ok (.getfield 10, 3) := by decide +kernel
theorem dX4_isRest_16 : decode cX4_isRest 16 = .ok (.getfield 215, 3) := by decide +kernel
theorem dX4_isRest_19 : decode cX4_isRest 19 = .ok (.if_icmp .ge 22, 3) := by decide +kernel
theorem dX4_isRest_22 : decode cX4_isRest 22 = .ok (.aload_n 0, 1) := by decide +kernel
theorem dX4_isRest_23 : decode cX4_isRest 23 = .ok (.iload 4, 2) := by decide +kernel
theorem dX4_isRest_25 : decode cX4_isRest 25 = .ok (.iload_n 2, 1) := by decide +kernel
theorem dX4_isRest_26 : decode cX4_isRest 26 = .ok (.invokevirtual 272, 3) := by decide +kernel
theorem dX4_isRest_29 : decode cX4_isRest 29 = .ok (.iload_n 3, 1) := by decide +kernel
theorem dX4_isRest_30 : decode cX4_isRest 30 = .ok (.if_icmp .le 5, 3) := by decide +kernel
theorem dX4_isRest_33 : decode cX4_isRest 33 = .ok (.iconst 0, 1) := by decide +kernel
theorem dX4_isRest_34 : decode cX4_isRest 34 = .ok (.ireturn, 1) := by decide +kernel
theorem dX4_isRest_35 : decode cX4_isRest 35 = .ok (.iinc 4 1, 3) := by decide +kernel
theorem dX4_isRest_38 : decode cX4_isRest 38 = .ok (.goto (-28), 3) := by decide +kernel
theorem dX4_isRest_41 : decode cX4_isRest 41 = .ok (.iconst 0, 1) := by decide +kernel
theorem dX4_isRest_42 : decode cX4_isRest 42 = .ok (.istore 4, 2) := by decide +kernel
theorem dX4_isRest_44 : decode cX4_isRest 44 = .ok (.iload 4, 2) := by decide +kernel
theorem dX4_isRest_46 : decode cX4_isRest 46 = .ok (.iconst 3, 1) := by decide +kernel
theorem dX4_isRest_47 : decode cX4_isRest 47 = .ok (.if_icmp .ge 22, 3) := by decide +kernel
theorem dX4_isRest_50 : decode cX4_isRest 50 = .ok (.aload_n 0, 1) := by decide +kernel
theorem dX4_isRest_51 : decode cX4_isRest 51 = .ok (.iload_n 1, 1) := by decide +kernel
theorem dX4_isRest_52 : decode cX4_isRest 52 = .ok (.iload 4, 2) := by decide +kernel
theorem dX4_isRest_54 : decode cX4_isRest 54 = .ok (.invokevirtual 272, 3) := by decide +kernel
theorem dX4_isRest_57 : decode cX4_isRest 57 = .ok (.iload_n 3, 1) := by decide +kernel
theorem dX4_isRest_58 : decode cX4_isRest 58 = .ok (.if_icmp .ge 5, 3) := by decide +kernel
theorem dX4_isRest_61 : decode cX4_isRest 61 = .ok (.iconst 0, 1) := by decide +kernel
theorem dX4_isRest_62 : decode cX4_isRest 62 = .ok (.ireturn, 1) := by decide +kernel
theorem dX4_isRest_63 : decode cX4_isRest 63 = .ok (.iinc 4 1, 3) := by decide +kernel
theorem dX4_isRest_66 : decode cX4_isRest 66 = .ok (.goto (-22), 3) := by decide +kernel
theorem dX4_isRest_69 : decode cX4_isRest 69 = .ok (.iconst 1, 1) := by decide +kernel
theorem dX4_isRest_70 : decode cX4_isRest 70 = .ok (.ireturn, 1) := by decide +kernel
theorem dX4_goldEnd_0 : decode cX4_goldEnd 0 = .ok (.aload_n 0, 1) := by decide +kernel
theorem dX4_goldEnd_1 : decode cX4_goldEnd 1 = .ok (.getfield 10, 3) := by decide +kernel
theorem dX4_goldEnd_4 : decode cX4_goldEnd 4 = .ok (.aload_n 0, 1) := by decide +kernel
theorem dX4_goldEnd_5 : decode cX4_goldEnd 5 = .ok (.getfield 29, 3) := by decide +kernel
theorem dX4_goldEnd_8 : decode cX4_goldEnd 8 = .ok (.getfield 140, 3) := by decide +kernel
theorem dX4_goldEnd_11 : decode cX4_goldEnd 11 = .ok (.iload_n 1, 1) := by decide +kernel
theorem dX4_goldEnd_12 : decode cX4_goldEnd 12 = .ok (.invokestatic 143, 3) := by decide +kernel
theorem dX4_goldEnd_15 : decode cX4_goldEnd 15 = .ok (.istore_n 2, 1) := by decide +kernel
theorem dX4_goldEnd_16 : decode cX4_goldEnd 16 = .ok (.iload_n 2, 1) := by decide +kernel
theorem dX4_goldEnd_17 : decode cX4_goldEnd 17 = .ok (.ifCond .ne 5, 3) := by decide +kernel
theorem dX4_goldEnd_20 : decode cX4_goldEnd 20 = .ok (.iload_n 1, 1) := by decide +kernel
theorem dX4_goldEnd_21 : decode cX4_goldEnd 21 = .ok (.ireturn, 1) := by decide +kernel
theorem dX4_goldEnd_22 : decode cX4_goldEnd 22 = .ok (.iload_n 2, 1) := by decide +kernel
theorem dX4_goldEnd_23 : decode cX4_goldEnd 23 = .ok (.iconst 1, 1) := by decide +kernel
theorem dX4_goldEnd_24 : decode cX4_goldEnd 24 = .ok (.if_icmp .ne 24, 3) := by decide +kernel
theorem dX4_goldEnd_27 : decode cX4_goldEnd 27 = .ok (.iload_n 1, 1) := by decide +kernel
theorem dX4_goldEnd_28 : decode cX4_goldEnd 28 = .ok (.aload_n 0, 1) := by decide +kernel
theorem dX4_goldEnd_29 : decode cX4_goldEnd 29 = .ok (.getfield 10, 3) := by decide +kernel
theorem dX4_goldEnd_32 : decode cX4_goldEnd 32 = .ok (.getfield 254, 3) := by decide +kernel
theorem dX4_goldEnd_35 : decode cX4_goldEnd 35 = .ok (.if_icmp .ge 13, 3) := by decide +kernel
theorem dX4_goldEnd_38 : decode cX4_goldEnd 38 = .ok (.aload_n 0, 1) := by decide +kernel
theorem dX4_goldEnd_39 : decode cX4_goldEnd 39 = .ok (.getfield 10, 3) := by decide +kernel
theorem dX4_goldEnd_42 : decode cX4_goldEnd 42 = .ok (.getfield 254, 3) := by decide +kernel
theorem dX4_goldEnd_45 : decode cX4_goldEnd 45 = .ok (.goto 5, 3) := by decide +kernel
theorem dX4_goldEnd_48 : decode cX4_goldEnd 48 = .ok (.bipush 24, 2) := by decide +kernel
theorem dX4_goldEnd_50 : decode cX4_goldEnd 50 = .ok (.ireturn, 1) := by decide +kernel
theorem dX4_fitsSeen_0 : decode cX4_fitsSeen 0 = .ok (.iconst 0, 1) := by decide +kernel
theorem dX4_fitsSeen_1 : decode cX4_fitsSeen 1 = .ok (.istore 4, 2) := by decide +kernel
theorem dX4_fitsSeen_3 : decode cX4_fitsSeen 3 = .ok (.iload 4, 2) := by decide +kernel
theorem dX4_fitsSeen_5 : decode cX4_fitsSeen 5 = .ok (.aload_n 0, 1) := by decide +kernel
theorem dX4_fitsSeen_6 : decode cX4_fitsSeen 6 = .ok (.getfield 221, 3) := by decide +kernel
theorem dX4_fitsSeen_9 : decode cX4_fitsSeen 9 = .ok (.if_icmp .ge 75, 3) := by decide +kernel
theorem dX4_fitsSeen_12 : decode cX4_fitsSeen 12 = .ok (.aload_n 0, 1) := by decide +kernel
theorem dX4_fitsSeen_13 : decode cX4_fitsSeen 13 = .ok (.getfield 54, 3) := by decide +kernel
theorem dX4_fitsSeen_16 : decode cX4_fitsSeen 16 = .ok (.iload 4, 2) := by decide +kernel
theorem dX4_fitsSeen_18 : decode cX4_fitsSeen 18 = .ok (.iaload, 1) := by decide +kernel
theorem dX4_fitsSeen_19 : decode cX4_fitsSeen 19 = .ok (.iload_n 1, 1) := by decide +kernel
theorem dX4_fitsSeen_20 : decode cX4_fitsSeen 20 = .ok (.if_icmp .eq 6, 3) := by decide +kernel
theorem dX4_fitsSeen_23 : decode cX4_fitsSeen 23 = .ok (.goto 55, 3) := by decide +kernel
theorem dX4_fitsSeen_26 : decode cX4_fitsSeen 26 = .ok (.aload_n 0, 1) := by decide +kernel
theorem dX4_fitsSeen_27 : decode cX4_fitsSeen 27 = .ok (.getfield 57, 3) := by decide +kernel
theorem dX4_fitsSeen_30 : decode cX4_fitsSeen 30 = .ok (.iload 4, 2) := by decide +kernel
theorem dX4_fitsSeen_32 : decode cX4_fitsSeen 32 = .ok (.iaload, 1) := by decide +kernel
theorem dX4_fitsSeen_33 : decode cX4_fitsSeen 33 = .ok (.iload_n 2, 1) := by decide +kernel
theorem dX4_fitsSeen_34 : decode cX4_fitsSeen 34 = .ok (.if_icmp .lt 18, 3) := by decide +kernel
theorem dX4_fitsSeen_37 : decode cX4_fitsSeen 37 = .ok (.aload_n 0, 1) := by decide +kernel
theorem dX4_fitsSeen_38 : decode cX4_fitsSeen 38 = .ok (.getfield 57, 3) := by decide +kernel
theorem dX4_fitsSeen_41 : decode cX4_fitsSeen 41 = .ok (.iload 4, 2) := by decide +kernel
theorem dX4_fitsSeen_43 : decode cX4_fitsSeen 43 = .ok (.iaload, 1) := by decide +kernel
theorem dX4_fitsSeen_44 : decode cX4_fitsSeen 44 = .ok (.iload_n 3, 1) := by decide +kernel
theorem dX4_fitsSeen_45 : decode cX4_fitsSeen 45 = .ok (.if_icmp .ge 7, 3) := by decide +kernel
theorem dX4_fitsSeen_48 : decode cX4_fitsSeen 48 = .ok (.iconst 1, 1) := by decide +kernel
theorem dX4_fitsSeen_49 : decode cX4_fitsSeen 49 = .ok (.goto 4, 3) := by decide +kernel
theorem dX4_fitsSeen_52 : decode cX4_fitsSeen 52 = .ok (.iconst 0, 1) := by decide +kernel
theorem dX4_fitsSeen_53 : decode cX4_fitsSeen 53 = .ok (.istore 5, 2) := by decide +kernel
theorem dX4_fitsSeen_55 : decode cX4_fitsSeen 55 = .ok (.iload 5, 2) := by decide +kernel
theorem dX4_fitsSeen_57 : decode cX4_fitsSeen 57 = .ok (.aload_n 0, 1) := by decide +kernel
theorem dX4_fitsSeen_58 : decode cX4_fitsSeen 58 = .ok (.getfield 60, 3) := by decide +kernel
theorem dX4_fitsSeen_61 : decode cX4_fitsSeen 61 = .ok (.iload 4, 2) := by decide +kernel
theorem dX4_fitsSeen_63 : decode cX4_fitsSeen 63 = .ok (.iaload, 1) := by decide +kernel
theorem dX4_fitsSeen_64 : decode cX4_fitsSeen 64 = .ok (.iconst 1, 1) := by decide +kernel
theorem dX4_fitsSeen_65 : decode cX4_fitsSeen 65 = .ok (.if_icmp .ne 7, 3) := by decide +kernel
theorem dX4_fitsSeen_68 : decode cX4_fitsSeen 68 = .ok (.iconst 1, 1) := by decide +kernel
theorem dX4_fitsSeen_69 : decode cX4_fitsSeen 69 = .ok (.goto 4, 3) := by decide +kernel
theorem dX4_fitsSeen_72 : decode cX4_fitsSeen 72 = .ok (.iconst 0, 1) := by decide +kernel
theorem dX4_fitsSeen_73 : decode cX4_fitsSeen 73 = .ok (.if_icmp .eq 5, 3) := by decide +kernel
theorem dX4_fitsSeen_76 : decode cX4_fitsSeen 76 = .ok (.iconst 0, 1) := by decide +kernel
theorem dX4_fitsSeen_77 : decode cX4_fitsSeen 77 = .ok (.ireturn, 1) := by decide +kernel
theorem dX4_fitsSeen_78 : decode cX4_fitsSeen 78 = .ok (.iinc 4 1, 3) := by decide +kernel
theorem dX4_fitsSeen_81 : decode cX4_fitsSeen 81 = .ok (.goto (-78), 3) := by decide +kernel
theorem dX4_fitsSeen_84 : decode cX4_fitsSeen 84 = .ok (.iconst 1, 1) := by decide +kernel
theorem dX4_fitsSeen_85 : decode cX4_fitsSeen 85 = .ok (.ireturn, 1) := by decide +kernel
theorem dX4_cleanAnyway_0 : decode cX4_cleanAnyway 0 = .ok (.iconst 0, 1) := by decide +kernel
theorem dX4_cleanAnyway_1 : decode cX4_cleanAnyway 1 = .ok (.istore_n 1, 1) := by decide +kernel
theorem dX4_cleanAnyway_2 : decode cX4_cleanAnyway 2 = .ok (.iconst 0, 1) := by decide +kernel
theorem dX4_cleanAnyway_3 : decode cX4_cleanAnyway 3 = .ok (.istore_n 2, 1) := by decide +kernel
theorem dX4_cleanAnyway_4 : decode cX4_cleanAnyway 4 = .ok (.iload_n 2, 1) := by decide +kernel
theorem dX4_cleanAnyway_5 : decode cX4_cleanAnyway 5 = .ok (.bipush 12, 2) := by decide +kernel
theorem dX4_cleanAnyway_7 : decode cX4_cleanAnyway 7 = .ok (.if_icmp .ge 41, 3) := by decide +kernel
theorem dX4_cleanAnyway_10 : decode cX4_cleanAnyway 10 = .ok (.aload_n 0, 1) := by decide +kernel
theorem dX4_cleanAnyway_11 : decode cX4_cleanAnyway 11 = .ok (.getfield 10, 3) := by decide +kernel
theorem dX4_cleanAnyway_14 : decode cX4_cleanAnyway 14 = .ok (.aload_n 0, 1) := by decide +kernel
theorem dX4_cleanAnyway_15 : decode cX4_cleanAnyway 15 = .ok (.getfield 29, 3) := by decide +kernel
theorem dX4_cleanAnyway_18 : decode cX4_cleanAnyway 18 = .ok (.getfield 140, 3) := by decide +kernel
theorem dX4_cleanAnyway_21 : decode cX4_cleanAnyway 21 = .ok (.aload_n 0, 1) := by decide +kernel
theorem dX4_cleanAnyway_22 : decode cX4_cleanAnyway 22 = .ok (.getfield 29, 3) := by decide +kernel
theorem dX4_cleanAnyway_25 : decode cX4_cleanAnyway 25 = .ok (.getfield 150, 3) := by decide +kernel
theorem dX4_cleanAnyway_28 : decode cX4_cleanAnyway 28 = .ok (.iload_n 2, 1) := by decide +kernel
theorem dX4_cleanAnyway_29 : decode cX4_cleanAnyway 29 = .ok (.iadd, 1) := by decide +kernel
theorem dX4_cleanAnyway_30 : decode cX4_cleanAnyway 30 = .ok (.invokestatic 143, 3) := by decide +kernel
theorem dX4_cleanAnyway_33 : decode cX4_cleanAnyway 33 = .ok (.ifCond .ne 9, 3) := by decide +kernel
theorem dX4_cleanAnyway_36 : decode cX4_cleanAnyway 36 = .ok (.iload_n 1, 1) := by decide +kernel
theorem dX4_cleanAnyway_37 : decode cX4_cleanAnyway 37 = .ok (.iconst 1, 1) := by decide +kernel
theorem dX4_cleanAnyway_38 : decode cX4_cleanAnyway 38 = .ok (.iload_n 2, 1) := by decide +kernel
theorem dX4_cleanAnyway_39 : decode cX4_cleanAnyway 39 = .ok (.ishl, 1) := by decide +kernel
theorem dX4_cleanAnyway_40 : decode cX4_cleanAnyway 40 = .ok (.ior, 1) := by decide +kernel
theorem dX4_cleanAnyway_41 : decode cX4_cleanAnyway 41 = .ok (.istore_n 1, 1) := by decide +kernel
theorem dX4_cleanAnyway_42 : decode cX4_cleanAnyway 42 = .ok (.iinc 2 1, 3) := by decide +kernel
theorem dX4_cleanAnyway_45 : decode cX4_cleanAnyway 45 = .ok (.goto (-41), 3) := by decide +kernel
theorem dX4_cleanAnyway_48 : decode cX4_cleanAnyway 48 = .ok (.iload_n 1, 1) := by decide +kernel
theorem dX4_cleanAnyway_49 : decode cX4_cleanAnyway 49 = .ok (.ireturn, 1) := by decide +kernel
theorem dX4_cleanBehind_0 : decode cX4_cleanBehind 0 = .ok (.iconst 0, 1) := by decide +kernel
theorem dX4_cleanBehind_1 : decode cX4_cleanBehind 1 = .ok (.istore_n 2, 1) := by decide +kernel
theorem dX4_cleanBehind_2 : decode cX4_cleanBehind 2 = .ok (.iconst 1, 1) := by decide +kernel
theorem dX4_cleanBehind_3 : decode cX4_cleanBehind 3 = .ok (.istore_n 3, 1) := by decide +kernel
theorem dX4_cleanBehind_4 : decode cX4_cleanBehind 4 = .ok (.iload_n 3, 1) := by decide +kernel
theorem dX4_cleanBehind_5 : decode cX4_cleanBehind 5 = .ok (.aload_n 0, 1) := by decide +kernel
theorem dX4_cleanBehind_6 : decode cX4_cleanBehind 6 = .ok (.getfield 10, 3) := by decide +kernel
theorem dX4_cleanBehind_9 : decode cX4_cleanBehind 9 = .ok (.getfield 248, 3) := by decide +kernel
theorem dX4_cleanBehind_12 : decode cX4_cleanBehind 12 = .ok (.if_icmp .gt 15, 3) := by decide +kernel
theorem dX4_cleanBehind_15 : decode cX4_cleanBehind 15 = .ok (.iload_n 2, 1) := by decide +kernel
theorem dX4_cleanBehind_16 : decode cX4_cleanBehind 16 = .ok (.iload_n 1, 1) := by decide +kernel
theorem dX4_cleanBehind_17 : decode cX4_cleanBehind 17 = .ok (.iload_n 3, 1) := by decide +kernel
theorem dX4_cleanBehind_18 : decode cX4_cleanBehind 18 = .ok (.ishl, 1) := by decide +kernel
theorem dX4_cleanBehind_19 : decode cX4_cleanBehind 19 = .ok (.ior, 1) := by decide +kernel
theorem dX4_cleanBehind_20 : decode cX4_cleanBehind 20 = .ok (.istore_n 2, 1) := by decide +kernel
theorem dX4_cleanBehind_21 : decode cX4_cleanBehind 21 = .ok (.iinc 3 1, 3) := by decide +kernel
theorem dX4_cleanBehind_24 : decode cX4_cleanBehind 24 = .ok (.goto (-20), 3) := by decide +kernel
theorem dX4_cleanBehind_27 : decode cX4_cleanBehind 27 = .ok (.iload_n 2, 1) := by decide +kernel
theorem dX4_cleanBehind_28 : decode cX4_cleanBehind 28 = .ok (.ireturn, 1) := by decide +kernel
theorem dX4_power_0 : decode cX4_power 0 = .ok (.lconst 1, 1) := by decide +kernel
theorem dX4_power_1 : decode cX4_power 1 = .ok (.lstore_n 2, 1) := by decide +kernel
theorem dX4_power_2 : decode cX4_power 2 = .ok (.iconst 0, 1) := by decide +kernel
theorem dX4_power_3 : decode cX4_power 3 = .ok (.istore 4, 2) := by decide +kernel
theorem dX4_power_5 : decode cX4_power 5 = .ok (.iload 4, 2) := by decide +kernel
theorem dX4_power_7 : decode cX4_power 7 = .ok (.iload_n 1, 1) := by decide +kernel
theorem dX4_power_8 : decode cX4_power 8 = .ok (.if_icmp .ge 14, 3) := by decide +kernel
theorem dX4_power_11 : decode cX4_power 11 = .ok (.lload_n 2, 1) := by decide +kernel
theorem dX4_power_12 : decode cX4_power 12 = .ok (.iload_n 0, 1) := by decide +kernel
theorem dX4_power_13 : decode cX4_power 13 = .ok (.i2l, 1) := by decide +kernel
theorem dX4_power_14 : decode cX4_power 14 = .ok (.lmul, 1) := by decide +kernel
theorem dX4_power_15 : decode cX4_power 15 = .ok (.lstore_n 2, 1) := by decide +kernel
theorem dX4_power_16 : decode cX4_power 16 = .ok (.iinc 4 1, 3) := by decide +kernel
theorem dX4_power_19 : decode cX4_power 19 = .ok (.goto (-14), 3) := by decide +kernel
theorem dX4_power_22 : decode cX4_power 22 = .ok (.lload_n 2, 1) := by decide +kernel
theorem dX4_power_23 : decode cX4_power 23 = .ok (.lreturn, 1) := by decide +kernel
theorem dX4_commonDivisor_0 : decode cX4_commonDivisor 0 = .ok (.lload_n 0, 1) := by decide +kernel
theorem dX4_commonDivisor_1 : decode cX4_commonDivisor 1 = .ok (.lstore 4, 2) := by decide +kernel
theorem dX4_commonDivisor_3 : decode cX4_commonDivisor 3 = .ok (.lload_n 2, 1) := by decide +kernel
theorem dX4_commonDivisor_4 : decode cX4_commonDivisor 4 = .ok (.lstore 6, 2) := by decide +kernel
theorem dX4_commonDivisor_6 : decode cX4_commonDivisor 6 = .ok (.iconst 0, 1) := by decide +kernel
theorem dX4_commonDivisor_7 : decode cX4_commonDivisor 7 = .ok (.istore 8, 2) := by decide +kernel
theorem dX4_commonDivisor_9 : decode cX4_commonDivisor 9 = .ok (.iload 8, 2) := by decide +kernel
theorem dX4_commonDivisor_11 : decode cX4_commonDivisor 11 = .ok (.bipush 64, 2) := by decide +kernel
theorem dX4_commonDivisor_13 : decode cX4_commonDivisor 13 = .ok (.if_icmp .ge 31, 3) := by decide +kernel
theorem dX4_commonDivisor_16 : decode cX4_commonDivisor 16 = .ok (.lload 6, 2) := by decide +kernel
theorem dX4_commonDivisor_18 : decode cX4_commonDivisor 18 = .ok (.lconst 0, 1) := by decide +kernel
theorem dX4_commonDivisor_19 : decode cX4_commonDivisor 19 = .ok (.lcmp, 1) := by decide +kernel
theorem dX4_commonDivisor_20 : decode cX4_commonDivisor 20 = .ok (.ifCond .eq 24, 3) := by decide +kernel
theorem dX4_commonDivisor_23 : decode cX4_commonDivisor 23 = .ok (.lload 4, 2) := by decide +kernel
theorem dX4_commonDivisor_25 : decode cX4_commonDivisor 25 = .ok (.lload 6, 2) := by decide +kernel
theorem dX4_commonDivisor_27 : decode cX4_commonDivisor 27 = .ok (.lrem, 1) := by decide +kernel
theorem dX4_commonDivisor_28 : decode cX4_commonDivisor 28 = .ok (.lstore 9, 2) := by decide +kernel
theorem dX4_commonDivisor_30 : decode cX4_commonDivisor 30 = .ok (.lload 6, 2) := by decide +kernel
theorem dX4_commonDivisor_32 : decode cX4_commonDivisor 32 = .ok (.lstore 4, 2) := by decide +kernel
theorem dX4_commonDivisor_34 : decode cX4_commonDivisor 34 = .ok (.lload 9, 2) := by decide +kernel
theorem dX4_commonDivisor_36 : decode cX4_commonDivisor 36 = .ok (.lstore 6, 2) := by decide +kernel
theorem dX4_commonDivisor_38 : decode cX4_commonDivisor 38 = .ok (.iinc 8 1, 3) := by decide +kernel
theorem dX4_commonDivisor_41 : decode cX4_commonDivisor 41 = .ok (.goto (-32), 3) := by decide +kernel
theorem dX4_commonDivisor_44 : decode cX4_commonDivisor 44 = .ok (.lload 4, 2) := by decide +kernel
theorem dX4_commonDivisor_46 : decode cX4_commonDivisor 46 = .ok (.lreturn, 1) := by decide +kernel
theorem dX5_init_0 : decode cX5_init 0 = .ok (.aload_n 0, 1) := by decide +kernel
theorem dX5_init_1 : decode cX5_init 1 = .ok (.invokespecial 1, 3) := by decide +kernel
theorem dX5_init_4 : decode cX5_init 4 = .ok (.aload_n 0, 1) := by decide +kernel
theorem dX5_init_5 : decode cX5_init 5 = .ok (.bipush 32, 2) := by decide +kernel
theorem dX5_init_7 : decode cX5_init 7 = .ok (.newarray .int, 2) := by decide +kernel
theorem dX5_init_9 : decode cX5_init 9 = .ok (.putfield 7, 3) := by decide +kernel
theorem dX5_init_12 : decode cX5_init 12 = .ok (.aload_n 0, 1) := by decide +kernel
theorem dX5_init_13 : decode cX5_init 13 = .ok (.iconst 3, 1) := by decide +kernel
theorem dX5_init_14 : decode cX5_init 14 = .ok (.newarray .int, 2) := by decide +kernel
theorem dX5_init_16 : decode cX5_init 16 = .ok (.putfield 13, 3) := by decide +kernel
theorem dX5_init_19 : decode cX5_init 19 = .ok (.aload_n 0, 1) := by decide +kernel
theorem dX5_init_20 : decode cX5_init 20 = .ok (.iconst 3, 1) := by decide +kernel
theorem dX5_init_21 : decode cX5_init 21 = .ok (.putfield 16, 3) := by decide +kernel
theorem dX5_init_24 : decode cX5_init 24 = .ok (.aload_n 0, 1) := by decide +kernel
theorem dX5_init_25 : decode cX5_init 25 = .ok (.iconst 2, 1) := by decide +kernel
theorem dX5_init_26 : decode cX5_init 26 = .ok (.putfield 20, 3) := by decide +kernel
theorem dX5_init_29 : decode cX5_init 29 = .ok (.aload_n 0, 1) := by decide +kernel
theorem dX5_init_30 : decode cX5_init 30 = .ok (.bipush 12, 2) := by decide +kernel
theorem dX5_init_32 : decode cX5_init 32 = .ok (.putfield 23, 3) := by decide +kernel
theorem dX5_init_35 : decode cX5_init 35 = .ok (.aload_n 0, 1) := by decide +kernel
theorem dX5_init_36 : decode cX5_init 36 = .ok (.sipush 160, 3) := by decide +kernel
theorem dX5_init_39 : decode cX5_init 39 = .ok (.newarray .int, 2) := by decide +kernel
theorem dX5_init_41 : decode cX5_init 41 = .ok (.putfield 26, 3) := by decide +kernel
theorem dX5_init_44 : decode cX5_init 44 = .ok (.aload_n 0, 1) := by decide +kernel
theorem dX5_init_45 : decode cX5_init 45 = .ok (.bipush 70, 2) := by decide +kernel
theorem dX5_init_47 : decode cX5_init 47 = .ok (.newarray .int, 2) := by decide +kernel
theorem dX5_init_49 : decode cX5_init 49 = .ok (.putfield 29, 3) := by decide +kernel
theorem dX5_init_52 : decode cX5_init 52 = .ok (.aload_n 0, 1) := by decide +kernel
theorem dX5_init_53 : decode cX5_init 53 = .ok (.bipush 12, 2) := by decide +kernel
theorem dX5_init_55 : decode cX5_init 55 = .ok (.newarray .int, 2) := by decide +kernel
theorem dX5_init_57 : decode cX5_init 57 = .ok (.putfield 32, 3) := by decide +kernel
theorem dX5_init_60 : decode cX5_init 60 = .ok (.aload_n 0, 1) := by decide +kernel
theorem dX5_init_61 : decode cX5_init 61 = .ok (.bipush 12, 2) := by decide +kernel
theorem dX5_init_63 : decode cX5_init 63 = .ok (.newarray .int, 2) := by decide +kernel
theorem dX5_init_65 : decode cX5_init 65 = .ok (.putfield 35, 3) := by decide +kernel
theorem dX5_init_68 : decode cX5_init 68 = .ok (.aload_n 0, 1) := by decide +kernel
theorem dX5_init_69 : decode cX5_init 69 = .ok (.bipush 24, 2) := by decide +kernel
theorem dX5_init_71 : decode cX5_init 71 = .ok (.newarray .int, 2) := by decide +kernel
theorem dX5_init_73 : decode cX5_init 73 = .ok (.putfield 38, 3) := by decide +kernel
theorem dX5_init_76 : decode cX5_init 76 = .ok (.aload_n 0, 1) := by decide +kernel
theorem dX5_init_77 : decode cX5_init 77 = .ok (.iconst 2, 1) := by decide +kernel
theorem dX5_init_78 : decode cX5_init 78 = .ok (.newarray .boolean, 2) := by decide +kernel
theorem dX5_init_80 : decode cX5_init 80 = .ok (.putfield 41, 3) := by decide +kernel
theorem dX5_init_83 : decode cX5_init 83 = .ok (.aload_n 0, 1) := by decide +kernel
theorem dX5_init_84 : decode cX5_init 84 = .ok (.bipush 96, 2) := by decide +kernel
theorem dX5_init_86 : decode cX5_init 86 = .ok (.newarray .int, 2) := by decide +kernel
theorem dX5_init_88 : decode cX5_init 88 = .ok (.putfield 45, 3) := by decide +kernel
theorem dX5_init_91 : decode cX5_init 91 = .ok (.aload_n 0, 1) := by decide +kernel
theorem dX5_init_92 : decode cX5_init 92 = .ok (.bipush 8, 2) := by decide +kernel
theorem dX5_init_94 : decode cX5_init 94 = .ok (.newarray .int, 2) := by decide +kernel
theorem dX5_init_96 : decode cX5_init 96 = .ok (.putfield 48, 3) := by decide +kernel
theorem dX5_init_99 : decode cX5_init 99 = .ok (.aload_n 0, 1) := by decide +kernel
theorem dX5_init_100 : decode cX5_init 100 = .ok (.iconst 4, 1) := by decide +kernel
theorem dX5_init_101 : decode cX5_init 101 = .ok (.newarray .int, 2) := by decide +kernel
theorem dX5_init_103 : decode cX5_init 103 = .ok (.putfield 51, 3) := by decide +kernel
theorem dX5_init_106 : decode cX5_init 106 = .ok (.aload_n 0, 1) := by decide +kernel
theorem dX5_init_107 : decode cX5_init 107 = .ok (.bipush 18, 2) := by decide +kernel
theorem dX5_init_109 : decode cX5_init 109 = .ok (.newarray .int, 2) := by decide +kernel
theorem dX5_init_111 : decode cX5_init 111 = .ok (.putfield 54, 3) := by decide +kernel
theorem dX5_init_114 : decode cX5_init 114 = .ok (.aload_n 0, 1) := by decide +kernel
theorem dX5_init_115 : decode cX5_init 115 = .ok (.sipush 32000, 3) := by decide +kernel
theorem dX5_init_118 : decode cX5_init 118 = .ok (.newarray .int, 2) := by decide +kernel
theorem dX5_init_120 : decode cX5_init 120 = .ok (.putfield 57, 3) := by decide +kernel
theorem dX5_init_123 : decode cX5_init 123 = .ok (.aload_n 0, 1) := by decide +kernel
theorem dX5_init_124 : decode cX5_init 124 = .ok (.sipush 32000, 3) := by decide +kernel
theorem dX5_init_127 : decode cX5_init 127 = .ok (.newarray .int, 2) := by decide +kernel
theorem dX5_init_129 : decode cX5_init 129 = .ok (.putfield 60, 3) := by decide +kernel
theorem dX5_init_132 : decode cX5_init 132 = .ok (.aload_n 0, 1) := by decide +kernel
theorem dX5_init_133 : decode cX5_init 133 = .ok (.iconst 3, 1) := by decide +kernel
theorem dX5_init_134 : decode cX5_init 134 = .ok (.newarray .int, 2) := by decide +kernel
theorem dX5_init_136 : decode cX5_init 136 = .ok (.putfield 63, 3) := by decide +kernel
theorem dX5_init_139 : decode cX5_init 139 = .ok (.aload_n 0, 1) := by decide +kernel
theorem dX5_init_140 : decode cX5_init 140 = .ok (.invokevirtual 66, 3) := by decide +kernel
theorem dX5_init_143 : decode cX5_init 143 = .ok (.aload_n 0, 1) := by decide +kernel
theorem dX5_init_144 : decode cX5_init 144 = .ok (.invokevirtual 69, 3) := by decide +kernel
theorem dX5_init_147 : decode cX5_init 147 = .ok (.return_, 1) := by decide +kernel
theorem dX5_in_0 : decode cX5_in 0 = .ok (.iload_n 0, 1) := by decide +kernel
theorem dX5_in_1 : decode cX5_in 1 = .ok (.iload_n 1, 1) := by decide +kernel
theorem dX5_in_2 : decode cX5_in 2 = .ok (.if_icmp .lt 12, 3) := by decide +kernel
theorem dX5_in_5 : decode cX5_in 5 = .ok (.iload_n 0, 1) := by decide +kernel
theorem dX5_in_6 : decode cX5_in 6 = .ok (.iload_n 2, 1) := by decide +kernel
theorem dX5_in_7 : decode cX5_in 7 = .ok (.if_icmp .gt 7, 3) := by decide +kernel
theorem dX5_in_10 : decode cX5_in 10 = .ok (.iconst 1, 1) := by decide +kernel
theorem dX5_in_11 : decode cX5_in 11 = .ok (.goto 4, 3) := by decide +kernel
theorem dX5_in_14 : decode cX5_in 14 = .ok (.iconst 0, 1) := by decide +kernel
theorem dX5_in_15 : decode cX5_in 15 = .ok (.ireturn, 1) := by decide +kernel
theorem dX5_has_0 : decode cX5_has 0 = .ok (.iload_n 0, 1) := by decide +kernel
theorem dX5_has_1 : decode cX5_has 1 = .ok (.iload_n 1, 1) := by decide +kernel
theorem dX5_has_2 : decode cX5_has 2 = .ok (.ishr, 1) := by decide +kernel
theorem dX5_has_3 : decode cX5_has 3 = .ok (.iconst 1, 1) := by decide +kernel
theorem dX5_has_4 : decode cX5_has 4 = .ok (.iand, 1) := by decide +kernel
theorem dX5_has_5 : decode cX5_has 5 = .ok (.iconst 1, 1) := by decide +kernel
theorem dX5_has_6 : decode cX5_has 6 = .ok (.if_icmp .ne 7, 3) := by decide +kernel
theorem dX5_has_9 : decode cX5_has 9 = .ok (.iconst 1, 1) := by decide +kernel
theorem dX5_has_10 : decode cX5_has 10 = .ok (.goto 4, 3) := by decide +kernel
theorem dX5_has_13 : decode cX5_has 13 = .ok (.iconst 0, 1) := by decide +kernel
theorem dX5_has_14 : decode cX5_has 14 = .ok (.ireturn, 1) := by decide +kernel
theorem dX5_bits_0 : decode cX5_bits 0 = .ok (.iconst 0, 1) := by decide +kernel
theorem dX5_bits_1 : decode cX5_bits 1 = .ok (.istore_n 1, 1) := by decide +kernel
theorem dX5_bits_2 : decode cX5_bits 2 = .ok (.iconst 0, 1) := by decide +kernel
theorem dX5_bits_3 : decode cX5_bits 3 = .ok (.istore_n 2, 1) := by decide +kernel
theorem dX5_bits_4 : decode cX5_bits 4 = .ok (.iload_n 2, 1) := by decide +kernel
theorem dX5_bits_5 : decode cX5_bits 5 = .ok (.bipush 24, 2) := by decide +kernel
theorem dX5_bits_7 : decode cX5_bits 7 = .ok (.if_icmp .ge 17, 3) := by decide +kernel
theorem dX5_bits_10 : decode cX5_bits 10 = .ok (.iload_n 1, 1) := by decide +kernel
theorem dX5_bits_11 : decode cX5_bits 11 = .ok (.iload_n 0, 1) := by decide +kernel
theorem dX5_bits_12 : decode cX5_bits 12 = .ok (.iload_n 2, 1) := by decide +kernel
theorem dX5_bits_13 : decode cX5_bits 13 = .ok (.ishr, 1) := by decide +kernel
theorem dX5_bits_14 : decode cX5_bits 14 = .ok (.iconst 1, 1) := by decide +kernel
theorem dX5_bits_15 : decode cX5_bits 15 = .ok (.iand, 1) := by decide +kernel
theorem dX5_bits_16 : decode cX5_bits 16 = .ok (.iadd, 1) := by decide +kernel
theorem dX5_bits_17 : decode cX5_bits 17 = .ok (.istore_n 1, 1) := by decide +kernel
theorem dX5_bits_18 : decode cX5_bits 18 = .ok (.iinc 2 1, 3) := by decide +kernel
theorem dX5_bits_21 : decode cX5_bits 21 = .ok (.goto (-17), 3) := by decide +kernel
theorem dX5_bits_24 : decode cX5_bits 24 = .ok (.iload_n 1, 1) := by decide +kernel
theorem dX5_bits_25 : decode cX5_bits 25 = .ok (.ireturn, 1) := by decide +kernel
theorem dX5_plain_0 : decode cX5_plain 0 = .ok (.aload_n 0, 1) := by decide +kernel
theorem dX5_plain_1 : decode cX5_plain 1 = .ok (.iconst 0, 1) := by decide +kernel
theorem dX5_plain_2 : decode cX5_plain 2 = .ok (.putfield 72, 3) := by decide +kernel
theorem dX5_plain_5 : decode cX5_plain 5 = .ok (.aload_n 0, 1) := by decide +kernel
theorem dX5_plain_6 : decode cX5_plain 6 = .ok (.getfield 13, 3) := by decide +kernel
theorem dX5_plain_9 : decode cX5_plain 9 = .ok (.iconst 0, 1) := by decide +kernel
theorem dX5_plain_10 : decode cX5_plain 10 = .ok (.bipush 99, 2) := by decide +kernel
theorem dX5_plain_12 : decode cX5_plain 12 = .ok (.iastore, 1) := by decide +kernel
theorem dX5_plain_13 : decode cX5_plain 13 = .ok (.aload_n 0, 1) := by decide +kernel
theorem dX5_plain_14 : decode cX5_plain 14 = .ok (.getfield 13, 3) := by decide +kernel
theorem dX5_plain_17 : decode cX5_plain 17 = .ok (.iconst 1, 1) := by decide +kernel
theorem dX5_plain_18 : decode cX5_plain 18 = .ok (.bipush 99, 2) := by decide +kernel
theorem dX5_plain_20 : decode cX5_plain 20 = .ok (.iastore, 1) := by decide +kernel
theorem dX5_plain_21 : decode cX5_plain 21 = .ok (.aload_n 0, 1) := by decide +kernel
theorem dX5_plain_22 : decode cX5_plain 22 = .ok (.getfield 13, 3) := by decide +kernel
theorem dX5_plain_25 : decode cX5_plain 25 = .ok (.iconst 2, 1) := by decide +kernel
theorem dX5_plain_26 : decode cX5_plain 26 = .ok (.bipush 99, 2) := by decide +kernel
theorem dX5_plain_28 : decode cX5_plain 28 = .ok (.iastore, 1) := by decide +kernel
theorem dX5_plain_29 : decode cX5_plain 29 = .ok (.aload_n 0, 1) := by decide +kernel
theorem dX5_plain_30 : decode cX5_plain 30 = .ok (.iconst 3, 1) := by decide +kernel
theorem dX5_plain_31 : decode cX5_plain 31 = .ok (.putfield 16, 3) := by decide +kernel
theorem dX5_plain_34 : decode cX5_plain 34 = .ok (.aload_n 0, 1) := by decide +kernel
theorem dX5_plain_35 : decode cX5_plain 35 = .ok (.iconst 2, 1) := by decide +kernel
theorem dX5_plain_36 : decode cX5_plain 36 = .ok (.putfield 20, 3) := by decide +kernel
theorem dX5_plain_39 : decode cX5_plain 39 = .ok (.aload_n 0, 1) := by decide +kernel
theorem dX5_plain_40 : decode cX5_plain 40 = .ok (.bipush 12, 2) := by decide +kernel
theorem dX5_plain_42 : decode cX5_plain 42 = .ok (.putfield 23, 3) := by decide +kernel
theorem dX5_plain_45 : decode cX5_plain 45 = .ok (.return_, 1) := by decide +kernel
theorem dX5_begin_0 : decode cX5_begin 0 = .ok (.iconst 0, 1) := by decide +kernel
theorem dX5_begin_1 : decode cX5_begin 1 = .ok (.istore_n 1, 1) := by decide +kernel
theorem dX5_begin_2 : decode cX5_begin 2 = .ok (.iload_n 1, 1) := by decide +kernel
theorem dX5_begin_3 : decode cX5_begin 3 = .ok (.bipush 12, 2) := by decide +kernel
theorem dX5_begin_5 : decode cX5_begin 5 = .ok (.if_icmp .ge 16, 3) := by decide +kernel
theorem dX5_begin_8 : decode cX5_begin 8 = .ok (.aload_n 0, 1) := by decide +kernel
theorem dX5_begin_9 : decode cX5_begin 9 = .ok (.getfield 32, 3) := by decide +kernel
theorem dX5_begin_12 : decode cX5_begin 12 = .ok (.iload_n 1, 1) := by decide +kernel
theorem dX5_begin_13 : decode cX5_begin 13 = .ok (.iconst 0, 1) := by decide +kernel
theorem dX5_begin_14 : decode cX5_begin 14 = .ok (.iastore, 1) := by decide +kernel
theorem dX5_begin_15 : decode cX5_begin 15 = .ok (.iinc 1 1, 3) := by decide +kernel
theorem dX5_begin_18 : decode cX5_begin 18 = .ok (.goto (-16), 3) := by decide +kernel
theorem dX5_begin_21 : decode cX5_begin 21 = .ok (.aload_n 0, 1) := by decide +kernel
theorem dX5_begin_22 : decode cX5_begin 22 = .ok (.getfield 41, 3) := by decide +kernel
theorem dX5_begin_25 : decode cX5_begin 25 = .ok (.iconst 0, 1) := by decide +kernel
theorem dX5_begin_26 : decode cX5_begin 26 = .ok (.iconst 0, 1) := by decide +kernel
theorem dX5_begin_27 : decode cX5_begin 27 = .ok (.bastore, 1) := by decide +kernel
theorem dX5_begin_28 : decode cX5_begin 28 = .ok (.aload_n 0, 1) := by decide +kernel
theorem dX5_begin_29 : decode cX5_begin 29 = .ok (.getfield 41, 3) := by decide +kernel
theorem dX5_begin_32 : decode cX5_begin 32 = .ok (.iconst 1, 1) := by decide +kernel
theorem dX5_begin_33 : decode cX5_begin 33 = .ok (.iconst 0, 1) := by decide +kernel
theorem dX5_begin_34 : decode cX5_begin 34 = .ok (.bastore, 1) := by decide +kernel
theorem dX5_begin_35 : decode cX5_begin 35 = .ok (.aload_n 0, 1) := by decide +kernel
theorem dX5_begin_36 : decode cX5_begin 36 = .ok (.iconst 0, 1) := by decide +kernel
theorem dX5_begin_37 : decode cX5_begin 37 = .ok (.putfield 75, 3) := by decide +kernel
theorem dX5_begin_40 : decode cX5_begin 40 = .ok (.aload_n 0, 1) := by decide +kernel
theorem dX5_begin_41 : decode cX5_begin 41 = .ok (.iconst 0, 1) := by decide +kernel
theorem dX5_begin_42 : decode cX5_begin 42 = .ok (.putfield 78, 3) := by decide +kernel
theorem dX5_begin_45 : decode cX5_begin 45 = .ok (.aload_n 0, 1) := by decide +kernel
theorem dX5_begin_46 : decode cX5_begin 46 = .ok (.iconst 0, 1) := by decide +kernel
theorem dX5_begin_47 : decode cX5_begin 47 = .ok (.putfield 81, 3) := by decide +kernel
theorem dX5_begin_50 : decode cX5_begin 50 = .ok (.aload_n 0, 1) := by decide +kernel
theorem dX5_begin_51 : decode cX5_begin 51 = .ok (.iconst 0, 1) := by decide +kernel
theorem dX5_begin_52 : decode cX5_begin 52 = .ok (.putfield 84, 3) := by decide +kernel
theorem dX5_begin_55 : decode cX5_begin 55 = .ok (.return_, 1) := by decide +kernel
theorem dX5_kindOf_0 : decode cX5_kindOf 0 = .ok (.aload_n 0, 1) := by decide +kernel
theorem dX5_kindOf_1 : decode cX5_kindOf 1 = .ok (.getfield 7, 3) := by decide +kernel
theorem dX5_kindOf_4 : decode cX5_kindOf 4 = .ok (.iconst 4, 1) := by decide +kernel
theorem dX5_kindOf_5 : decode cX5_kindOf 5 = .ok (.iload_n 1, 1) := by decide +kernel
theorem dX5_kindOf_6 : decode cX5_kindOf 6 = .ok (.imul, 1) := by decide +kernel
theorem dX5_kindOf_7 : decode cX5_kindOf 7 = .ok (.iaload, 1) := by decide +kernel
theorem dX5_kindOf_8 : decode cX5_kindOf 8 = .ok (.ireturn, 1) := by decide +kernel
theorem dX5_floorOf_0 : decode cX5_floorOf 0 = .ok (.aload_n 0, 1) := by decide +kernel
theorem dX5_floorOf_1 : decode cX5_floorOf 1 = .ok (.getfield 7, 3) := by decide +kernel
theorem dX5_floorOf_4 : decode cX5_floorOf 4 = .ok (.iconst 4, 1) := by decide +kernel
theorem dX5_floorOf_5 : decode cX5_floorOf 5 = .ok (.iload_n 1, 1) := by decide +kernel
theorem dX5_floorOf_6 : decode cX5_floorOf 6 = .ok (.imul, 1) := by decide +kernel
theorem dX5_floorOf_7 : decode cX5_floorOf 7 = .ok (.iconst 3, 1) := by decide +kernel
theorem dX5_floorOf_8 : decode cX5_floorOf 8 = .ok (.iadd, 1) := by decide +kernel
theorem dX5_floorOf_9 : decode cX5_floorOf 9 = .ok (.iaload, 1) := by decide +kernel
theorem dX5_floorOf_10 : decode cX5_floorOf 10 = .ok (.ireturn, 1) := by decide +kernel
theorem dX5_isThing_0 : decode cX5_isThing 0 = .ok (.iload_n 1, 1) := by decide +kernel
theorem dX5_isThing_1 : decode cX5_isThing 1 = .ok (.iconst 0, 1) := by decide +kernel
theorem dX5_isThing_2 : decode cX5_isThing 2 = .ok (.aload_n 0, 1) := by decide +kernel
theorem dX5_isThing_3 : decode cX5_isThing 3 = .ok (.getfield 72, 3) := by decide +kernel
theorem dX5_isThing_6 : decode cX5_isThing 6 = .ok (.iconst 1, 1) := by decide +kernel
theorem dX5_isThing_7 : decode cX5_isThing 7 = .ok (.isub, 1) := by decide +kernel
theorem dX5_isThing_8 : decode cX5_isThing 8 = .ok (.invokestatic 87, 3) := by decide +kernel
theorem dX5_isThing_11 : decode cX5_isThing 11 = .ok (.ireturn, 1) := by decide +kernel
theorem dX5_write_0 : decode cX5_write 0 = .ok (.iload_n 1, 1) := by decide +kernel
theorem dX5_write_1 : decode cX5_write 1 = .ok (.iconst 0, 1) := by decide +kernel
theorem dX5_write_2 : decode cX5_write 2 = .ok (.sipush 255, 3) := by decide +kernel
theorem dX5_write_5 : decode cX5_write 5 = .ok (.invokestatic 87, 3) := by decide +kernel
theorem dX5_write_8 : decode cX5_write 8 = .ok (.ifCond .ne 6, 3) := by decide +kernel
theorem dX5_write_11 : decode cX5_write 11 = .ok (.bipush (-3), 2) := by decide +kernel
theorem dX5_write_13 : decode cX5_write 13 = .ok (.ireturn, 1) := by decide +kernel
theorem dX5_write_14 : decode cX5_write 14 = .ok (.aload_n 0, 1) := by decide +kernel
theorem dX5_write_15 : decode cX5_write 15 = .ok (.getfield 91, 3) := by decide +kernel
theorem dX5_write_18 : decode cX5_write 18 = .ok (.sipush 160, 3) := by decide +kernel
theorem dX5_write_21 : decode cX5_write 21 = .ok (.if_icmp .ne 6, 3) := by decide +kernel
theorem dX5_write_24 : decode cX5_write 24 = .ok (.bipush (-5), 2) := by decide +kernel
theorem dX5_write_26 : decode cX5_write 26 = .ok (.ireturn, 1) := by decide +kernel
theorem dX5_write_27 : decode cX5_write 27 = .ok (.aload_n 0, 1) := by decide +kernel
theorem dX5_write_28 : decode cX5_write 28 = .ok (.getfield 26, 3) := by decide +kernel
theorem dX5_write_31 : decode cX5_write 31 = .ok (.aload_n 0, 1) := by decide +kernel
theorem dX5_write_32 : decode cX5_write 32 = .ok (.getfield 91, 3) := by decide +kernel
theorem dX5_write_35 : decode cX5_write 35 = .ok (.iload_n 1, 1) := by decide +kernel
theorem dX5_write_36 : decode cX5_write 36 = .ok (.iastore, 1) := by decide +kernel
theorem dX5_write_37 : decode cX5_write 37 = .ok (.aload_n 0, 1) := by decide +kernel
theorem dX5_write_38 : decode cX5_write 38 = .ok (.dup, 1) := by decide +kernel
theorem dX5_write_39 : decode cX5_write 39 = .ok (.getfield 91, 3) := by decide +kernel
theorem dX5_write_42 : decode cX5_write 42 = .ok (.iconst 1, 1) := by decide +kernel
theorem dX5_write_43 : decode cX5_write 43 = .ok (.iadd, 1) := by decide +kernel
theorem dX5_write_44 : decode cX5_write 44 = .ok (.putfield 91, 3) := by decide +kernel
theorem dX5_write_47 : decode cX5_write 47 = .ok (.aload_n 0, 1) := by decide +kernel
theorem dX5_write_48 : decode cX5_write 48 = .ok (.getfield 91, 3) := by decide +kernel
theorem dX5_write_51 : decode cX5_write 51 = .ok (.ireturn, 1) := by decide +kernel
theorem dX5_erase_0 : decode cX5_erase 0 = .ok (.aload_n 0, 1) := by decide +kernel
theorem dX5_erase_1 : decode cX5_erase 1 = .ok (.getfield 91, 3) := by decide +kernel
theorem dX5_erase_4 : decode cX5_erase 4 = .ok (.istore_n 1, 1) := by decide +kernel
theorem dX5_erase_5 : decode cX5_erase 5 = .ok (.aload_n 0, 1) := by decide +kernel
theorem dX5_erase_6 : decode cX5_erase 6 = .ok (.iconst 0, 1) := by decide +kernel
theorem dX5_erase_7 : decode cX5_erase 7 = .ok (.putfield 91, 3) := by decide +kernel
theorem dX5_erase_10 : decode cX5_erase 10 = .ok (.iload_n 1, 1) := by decide +kernel
theorem dX5_erase_11 : decode cX5_erase 11 = .ok (.ireturn, 1) := by decide +kernel
theorem dX5_nextToken_0 : decode cX5_nextToken 0 = .ok (.aload_n 0, 1) := by decide +kernel
theorem dX5_nextToken_1 : decode cX5_nextToken 1 = .ok (.getfield 94, 3) := by decide +kernel
theorem dX5_nextToken_4 : decode cX5_nextToken 4 = .ok (.aload_n 0, 1) := by decide +kernel
theorem dX5_nextToken_5 : decode cX5_nextToken 5 = .ok (.getfield 91, 3) := by decide +kernel
theorem dX5_nextToken_8 : decode cX5_nextToken 8 = .ok (.if_icmp .ge 30, 3) := by decide +kernel
theorem dX5_nextToken_11 : decode cX5_nextToken 11 = .ok (.aload_n 0, 1) := by decide +kernel
theorem dX5_nextToken_12 : decode cX5_nextToken 12 = .ok (.getfield 26, 3) := by decide +kernel
theorem dX5_nextToken_15 : decode cX5_nextToken 15 = .ok (.aload_n 0, 1) := by decide +kernel
theorem dX5_nextToken_16 : decode cX5_nextToken 16 = .ok (.getfield 94, 3) := by decide +kernel
theorem dX5_nextToken_19 : decode cX5_nextToken 19 = .ok (.iaload, 1) := by decide +kernel
theorem dX5_nextToken_20 : decode cX5_nextToken 20 = .ok (.bipush 32, 2) := by decide +kernel
theorem dX5_nextToken_22 : decode cX5_nextToken 22 = .ok (.if_icmp .ne 16, 3) := by decide +kernel
theorem dX5_nextToken_25 : decode cX5_nextToken 25 = .ok (.aload_n 0, 1) := by decide +kernel
theorem dX5_nextToken_26 : decode cX5_nextToken 26 = .ok (.dup, 1) := by decide +kernel
theorem dX5_nextToken_27 : decode cX5_nextToken 27 = .ok (.getfield 94, 3) := by decide +kernel
theorem dX5_nextToken_30 : decode cX5_nextToken 30 = .ok (.iconst 1, 1) := by decide +kernel
theorem dX5_nextToken_31 : decode cX5_nextToken 31 = .ok (.iadd, 1) := by decide +kernel
theorem dX5_nextToken_32 : decode cX5_nextToken 32 = .ok (.putfield 94, 3) := by decide +kernel
theorem dX5_nextToken_35 : decode cX5_nextToken 35 = .ok (.goto (-35), 3) := by decide +kernel
theorem dX5_nextToken_38 : decode cX5_nextToken 38 = .ok (.aload_n 0, 1) := by decide +kernel
theorem dX5_nextToken_39 : decode cX5_nextToken 39 = .ok (.aload_n 0, 1) := by decide +kernel
theorem dX5_nextToken_40 : decode cX5_nextToken 40 = .ok (.getfield 94, 3) := by decide +kernel
theorem dX5_nextToken_43 : decode cX5_nextToken 43 = .ok (.putfield 97, 3) := by decide +kernel
theorem dX5_nextToken_46 : decode cX5_nextToken 46 = .ok (.aload_n 0, 1) := by decide +kernel
theorem dX5_nextToken_47 : decode cX5_nextToken 47 = .ok (.iconst 0, 1) := by decide +kernel
theorem dX5_nextToken_48 : decode cX5_nextToken 48 = .ok (.putfield 100, 3) := by decide +kernel
theorem dX5_nextToken_51 : decode cX5_nextToken 51 = .ok (.aload_n 0, 1) := by decide +kernel
theorem dX5_nextToken_52 : decode cX5_nextToken 52 = .ok (.iconst 0, 1) := by decide +kernel
theorem dX5_nextToken_53 : decode cX5_nextToken 53 = .ok (.putfield 103, 3) := by decide +kernel
theorem dX5_nextToken_56 : decode cX5_nextToken 56 = .ok (.aload_n 0, 1) := by decide +kernel
theorem dX5_nextToken_57 : decode cX5_nextToken 57 = .ok (.getfield 94, 3) := by decide +kernel
theorem dX5_nextToken_60 : decode cX5_nextToken 60 = .ok (.aload_n 0, 1) := by decide +kernel
theorem dX5_nextToken_61 : decode cX5_nextToken 61 = .ok (.getfield 91, 3) := by decide +kernel
theorem dX5_nextToken_64 : decode cX5_nextToken 64 = .ok (.if_icmp .ne 13, 3) := by decide +kernel
theorem dX5_nextToken_67 : decode cX5_nextToken 67 = .ok (.aload_n 0, 1) := by decide +kernel
theorem dX5_nextToken_68 : decode cX5_nextToken 68 = .ok (.ldc2_w 106, 3) := by decide +kernel
theorem dX5_nextToken_71 : decode cX5_nextToken 71 = .ok (.putfield 108, 3) := by decide +kernel
theorem dX5_nextToken_74 : decode cX5_nextToken 74 = .ok (.goto 320, 3) := by decide +kernel
theorem dX5_nextToken_77 : decode cX5_nextToken 77 = .ok (.aload_n 0, 1) := by decide +kernel
theorem dX5_nextToken_78 : decode cX5_nextToken 78 = .ok (.getfield 26, 3) := by decide +kernel
theorem dX5_nextToken_81 : decode cX5_nextToken 81 = .ok (.aload_n 0, 1) := by decide +kernel
theorem dX5_nextToken_82 : decode cX5_nextToken 82 = .ok (.getfield 94, 3) := by decide +kernel
theorem dX5_nextToken_85 : decode cX5_nextToken 85 = .ok (.iaload, 1) := by decide +kernel
theorem dX5_nextToken_86 : decode cX5_nextToken 86 = .ok (.bipush 97, 2) := by decide +kernel
theorem dX5_nextToken_88 : decode cX5_nextToken 88 = .ok (.bipush 122, 2) := by decide +kernel
theorem dX5_nextToken_90 : decode cX5_nextToken 90 = .ok (.invokestatic 87, 3) := by decide +kernel
theorem dX5_nextToken_93 : decode cX5_nextToken 93 = .ok (.ifCond .eq 129, 3) := by decide +kernel
theorem dX5_nextToken_96 : decode cX5_nextToken 96 = .ok (.aload_n 0, 1) := by decide +kernel
theorem dX5_nextToken_97 : decode cX5_nextToken 97 = .ok (.lconst 0, 1) := by decide +kernel
theorem dX5_nextToken_98 : decode cX5_nextToken 98 = .ok (.putfield 108, 3) := by decide +kernel
theorem dX5_nextToken_101 : decode cX5_nextToken 101 = .ok (.aload_n 0, 1) := by decide +kernel
theorem dX5_nextToken_102 : decode cX5_nextToken 102 = .ok (.getfield 94, 3) := by decide +kernel
theorem dX5_nextToken_105 : decode cX5_nextToken 105 = .ok (.aload_n 0, 1) := by decide +kernel
theorem dX5_nextToken_106 : decode cX5_nextToken 106 = .ok (.getfield 91, 3) := by decide +kernel
theorem dX5_nextToken_109 : decode cX5_nextToken 109 = .ok (.if_icmp .ge 82, 3) := by decide +kernel
theorem dX5_nextToken_112 : decode cX5_nextToken 112 = .ok (.aload_n 0, 1) := by decide +kernel
theorem dX5_nextToken_113 : decode cX5_nextToken 113 = .ok (.getfield 26, 3) := by decide +kernel
theorem dX5_nextToken_116 : decode cX5_nextToken 116 = .ok (.aload_n 0, 1) := by decide +kernel
theorem dX5_nextToken_117 : decode cX5_nextToken 117 = .ok (.getfield 94, 3) := by decide +kernel
theorem dX5_nextToken_120 : decode cX5_nextToken 120 = .ok (.iaload, 1) := by decide +kernel
theorem dX5_nextToken_121 : decode cX5_nextToken 121 = .ok (.bipush 97, 2) := by decide +kernel
theorem dX5_nextToken_123 : decode cX5_nextToken 123 = .ok (.bipush 122, 2) := by decide +kernel
theorem dX5_nextToken_125 : decode cX5_nextToken 125 = .ok (.invokestatic 87, 3) := by decide +kernel
theorem dX5_nextToken_128 : decode cX5_nextToken 128 = .ok (.ifCond .eq 63, 3) := by decide +kernel
theorem dX5_nextToken_131 : decode cX5_nextToken 131 = .ok (.aload_n 0, 1) := by decide +kernel
theorem dX5_nextToken_132 : decode cX5_nextToken 132 = .ok (.aload_n 0, 1) := by decide +kernel
theorem dX5_nextToken_133 : decode cX5_nextToken 133 = .ok (.getfield 94, 3) := by decide +kernel
theorem dX5_nextToken_136 : decode cX5_nextToken 136 = .ok (.aload_n 0, 1) := by decide +kernel
theorem dX5_nextToken_137 : decode cX5_nextToken 137 = .ok (.getfield 97, 3) := by decide +kernel
theorem dX5_nextToken_140 : decode cX5_nextToken 140 = .ok (.isub, 1) := by decide +kernel
theorem dX5_nextToken_141 : decode cX5_nextToken 141 = .ok (.bipush 9, 2) := by decide +kernel
theorem dX5_nextToken_143 : decode cX5_nextToken 143 = .ok (.if_icmp .ge 29, 3) := by decide +kernel
theorem dX5_nextToken_146 : decode cX5_nextToken 146 = .ok (.ldc2_w 112, 3) := by decide +kernel
theorem dX5_nextToken_149 : decode cX5_nextToken 149 = .ok (.aload_n 0, 1) := by decide +kernel
theorem dX5_nextToken_150 : decode cX5_nextToken 150 = .ok (.getfield 108, 3) := by decide +kernel
theorem dX5_nextToken_153 : decode cX5_nextToken 153 = .ok (.lmul, 1) := by decide +kernel
theorem dX5_nextToken_154 : decode cX5_nextToken 154 = .ok (.aload_n 0, 1) := by decide +kernel
theorem dX5_nextToken_155 : decode cX5_nextToken 155 = .ok (.getfield 26, 3) := by decide +kernel
theorem dX5_nextToken_158 : decode cX5_nextToken 158 = .ok (.aload_n 0, 1) := by decide +kernel
theorem dX5_nextToken_159 : decode cX5_nextToken 159 = .ok (.getfield 94, 3) := by decide +kernel
theorem dX5_nextToken_162 : decode cX5_nextToken 162 = .ok (.iaload, 1) := by decide +kernel
theorem dX5_nextToken_163 : decode cX5_nextToken 163 = .ok (.i2l, 1) := by decide +kernel
theorem dX5_nextToken_164 : decode cX5_nextToken 164 = .ok (.ladd, 1) := by decide +kernel
theorem dX5_nextToken_165 : decode cX5_nextToken 165 = .ok (.ldc2_w 114, 3) := by decide +kernel
theorem dX5_nextToken_168 : decode cX5_nextToken 168 = .ok (.lsub, 1) := by decide +kernel
theorem dX5_nextToken_169 : decode cX5_nextToken 169 = .ok (.goto 6, 3) := by decide +kernel
theorem dX5_nextToken_172 : decode cX5_nextToken 172 = .ok (.ldc2_w 116, 3) := by decide +kernel
theorem dX5_nextToken_175 : decode cX5_nextToken 175 = .ok (.putfield 108, 3) := by decide +kernel
theorem dX5_nextToken_178 : decode cX5_nextToken 178 = .ok (.aload_n 0, 1) := by decide +kernel
theorem dX5_nextToken_179 : decode cX5_nextToken 179 = .ok (.dup, 1) := by decide +kernel
theorem dX5_nextToken_180 : decode cX5_nextToken 180 = .ok (.getfield 94, 3) := by decide +kernel
theorem dX5_nextToken_183 : decode cX5_nextToken 183 = .ok (.iconst 1, 1) := by decide +kernel
theorem dX5_nextToken_184 : decode cX5_nextToken 184 = .ok (.iadd, 1) := by decide +kernel
theorem dX5_nextToken_185 : decode cX5_nextToken 185 = .ok (.putfield 94, 3) := by decide +kernel
theorem dX5_nextToken_188 : decode cX5_nextToken 188 = .ok (.goto (-87), 3) := by decide +kernel
theorem dX5_nextToken_191 : decode cX5_nextToken 191 = .ok (.aload_n 0, 1) := by decide +kernel
theorem dX5_nextToken_192 : decode cX5_nextToken 192 = .ok (.aload_n 0, 1) := by decide +kernel
theorem dX5_nextToken_193 : decode cX5_nextToken 193 = .ok (.getfield 94, 3) := by decide +kernel
theorem dX5_nextToken_196 : decode cX5_nextToken 196 = .ok (.aload_n 0, 1) := by decide +kernel
theorem dX5_nextToken_197 : decode cX5_nextToken 197 = .ok (.getfield 97, 3) := by decide +kernel
theorem dX5_nextToken_200 : decode cX5_nextToken 200 = .ok (.isub, 1) := by decide +kernel
theorem dX5_nextToken_201 : decode cX5_nextToken 201 = .ok (.bipush 9, 2) := by decide +kernel
theorem dX5_nextToken_203 : decode cX5_nextToken 203 = .ok (.if_icmp .le 9, 3) := by decide +kernel
theorem dX5_nextToken_206 : decode cX5_nextToken 206 = .ok (.ldc2_w 116, 3) := by decide +kernel
theorem dX5_nextToken_209 : decode cX5_nextToken 209 = .ok (.goto 7, 3) := by decide +kernel
theorem dX5_nextToken_212 : decode cX5_nextToken 212 = .ok (.aload_n 0, 1) := by decide +kernel
theorem dX5_nextToken_213 : decode cX5_nextToken 213 = .ok (.getfield 108, 3) := by decide +kernel
theorem dX5_nextToken_216 : decode cX5_nextToken 216 = .ok (.putfield 108, 3) := by decide +kernel
theorem dX5_nextToken_219 : decode cX5_nextToken 219 = .ok (.goto 175, 3) := by decide +kernel
theorem dX5_nextToken_222 : decode cX5_nextToken 222 = .ok (.aload_n 0, 1) := by decide +kernel
theorem dX5_nextToken_223 : decode cX5_nextToken 223 = .ok (.getfield 26, 3) := by decide +kernel
theorem dX5_nextToken_226 : decode cX5_nextToken 226 = .ok (.aload_n 0, 1) := by decide +kernel
theorem dX5_nextToken_227 : decode cX5_nextToken 227 = .ok (.getfield 94, 3) := by decide +kernel
theorem dX5_nextToken_230 : decode cX5_nextToken 230 = .ok (.iaload, 1) := by decide +kernel
theorem dX5_nextToken_231 : decode cX5_nextToken 231 = .ok (.bipush 48, 2) := by decide +kernel
theorem dX5_nextToken_233 : decode cX5_nextToken 233 = .ok (.bipush 57, 2) := by decide +kernel
theorem dX5_nextToken_235 : decode cX5_nextToken 235 = .ok (.invokestatic 87, 3) := by decide +kernel
theorem dX5_nextToken_238 : decode cX5_nextToken 238 = .ok (.ifCond .eq 119, 3) := by decide +kernel
theorem dX5_nextToken_241 : decode cX5_nextToken 241 = .ok (.aload_n 0, 1) := by decide +kernel
theorem dX5_nextToken_242 : decode cX5_nextToken 242 = .ok (.getfield 94, 3) := by decide +kernel
theorem dX5_nextToken_245 : decode cX5_nextToken 245 = .ok (.aload_n 0, 1) := by decide +kernel
theorem dX5_nextToken_246 : decode cX5_nextToken 246 = .ok (.getfield 91, 3) := by decide +kernel
theorem dX5_nextToken_249 : decode cX5_nextToken 249 = .ok (.if_icmp .ge 84, 3) := by decide +kernel
theorem dX5_nextToken_252 : decode cX5_nextToken 252 = .ok (.aload_n 0, 1) := by decide +kernel
theorem dX5_nextToken_253 : decode cX5_nextToken 253 = .ok (.getfield 26, 3) := by decide +kernel
theorem dX5_nextToken_256 : decode cX5_nextToken 256 = .ok (.aload_n 0, 1) := by decide +kernel
theorem dX5_nextToken_257 : decode cX5_nextToken 257 = .ok (.getfield 94, 3) := by decide +kernel
theorem dX5_nextToken_260 : decode cX5_nextToken 260 = .ok (.iaload, 1) := by decide +kernel
theorem dX5_nextToken_261 : decode cX5_nextToken 261 = .ok (.bipush 48, 2) := by decide +kernel
theorem dX5_nextToken_263 : decode cX5_nextToken 263 = .ok (.bipush 57, 2) := by decide +kernel
theorem dX5_nextToken_265 : decode cX5_nextToken 265 = .ok (.invokestatic 87, 3) := by decide +kernel
theorem dX5_nextToken_268 : decode cX5_nextToken 268 = .ok (.ifCond .eq 65, 3) := by decide +kernel
theorem dX5_nextToken_271 : decode cX5_nextToken 271 = .ok (.aload_n 0, 1) := by decide +kernel
theorem dX5_nextToken_272 : decode cX5_nextToken 272 = .ok (.aload_n 0, 1) := by decide +kernel
theorem dX5_nextToken_273 : decode cX5_nextToken 273 = .ok (.getfield 100, 3) := by decide +kernel
theorem dX5_nextToken_276 : decode cX5_nextToken 276 = .ok (.iconst 2, 1) := by decide +kernel
theorem dX5_nextToken_277 : decode cX5_nextToken 277 = .ok (.if_icmp .ge 26, 3) := by decide +kernel
theorem dX5_nextToken_280 : decode cX5_nextToken 280 = .ok (.bipush 10, 2) := by decide +kernel
theorem dX5_nextToken_282 : decode cX5_nextToken 282 = .ok (.aload_n 0, 1) := by decide +kernel
theorem dX5_nextToken_283 : decode cX5_nextToken 283 = .ok (.getfield 103, 3) := by decide +kernel
theorem dX5_nextToken_286 : decode cX5_nextToken 286 = .ok (.imul, 1) := by decide +kernel
theorem dX5_nextToken_287 : decode cX5_nextToken 287 = .ok (.aload_n 0, 1) := by decide +kernel
theorem dX5_nextToken_288 : decode cX5_nextToken 288 = .ok (.getfield 26, 3) := by decide +kernel
theorem dX5_nextToken_291 : decode cX5_nextToken 291 = .ok (.aload_n 0, 1) := by decide +kernel
theorem dX5_nextToken_292 : decode cX5_nextToken 292 = .ok (.getfield 94, 3) := by decide +kernel
theorem dX5_nextToken_295 : decode cX5_nextToken 295 = .ok (.iaload, 1) := by decide +kernel
theorem dX5_nextToken_296 : decode cX5_nextToken 296 = .ok (.iadd, 1) := by decide +kernel
theorem dX5_nextToken_297 : decode cX5_nextToken 297 = .ok (.bipush 48, 2) := by decide +kernel
theorem dX5_nextToken_299 : decode cX5_nextToken 299 = .ok (.isub, 1) := by decide +kernel
theorem dX5_nextToken_300 : decode cX5_nextToken 300 = .ok (.goto 7, 3) := by decide +kernel
theorem dX5_nextToken_303 : decode cX5_nextToken 303 = .ok (.aload_n 0, 1) := by decide +kernel
theorem dX5_nextToken_304 : decode cX5_nextToken 304 = .ok (.getfield 103, 3) := by decide +kernel
theorem dX5_nextToken_307 : decode cX5_nextToken 307 = .ok (.putfield 103, 3) := by decide +kernel
theorem dX5_nextToken_310 : decode cX5_nextToken 310 = .ok (.aload_n 0, 1) := by decide +kernel
theorem dX5_nextToken_311 : decode cX5_nextToken 311 = .ok (.dup, 1) := by decide +kernel
theorem dX5_nextToken_312 : decode cX5_nextToken 312 = .ok (.getfield 100, 3) := by decide +kernel
theorem dX5_nextToken_315 : decode cX5_nextToken 315 = .ok (.iconst 1, 1) := by decide +kernel
theorem dX5_nextToken_316 : decode cX5_nextToken 316 = .ok (.iadd, 1) := by decide +kernel
theorem dX5_nextToken_317 : decode cX5_nextToken 317 = .ok (.putfield 100, 3) := by decide +kernel
theorem dX5_nextToken_320 : decode cX5_nextToken 320 = .ok (.aload_n 0, 1) := by decide +kernel
theorem dX5_nextToken_321 : decode cX5_nextToken 321 = .ok (.dup, 1) := by decide +kernel
theorem dX5_nextToken_322 : decode cX5_nextToken 322 = .ok (.getfield 94, 3) := by decide +kernel
theorem dX5_nextToken_325 : decode cX5_nextToken 325 = .ok (.iconst 1, 1) := by decide +kernel
theorem dX5_nextToken_326 : decode cX5_nextToken 326 = .ok (.iadd, 1) := by decide +kernel
theorem dX5_nextToken_327 : decode cX5_nextToken 327 = .ok (.putfield 94, 3) := by decide +kernel
theorem dX5_nextToken_330 : decode cX5_nextToken 330 = .ok (.goto (-89), 3) := by decide +kernel
theorem dX5_nextToken_333 : decode cX5_nextToken 333 = .ok (.aload_n 0, 1) := by decide +kernel
theorem dX5_nextToken_334 : decode cX5_nextToken 334 = .ok (.aload_n 0, 1) := by decide +kernel
theorem dX5_nextToken_335 : decode cX5_nextToken 335 = .ok (.getfield 100, 3) := by decide +kernel
theorem dX5_nextToken_338 : decode cX5_nextToken 338 = .ok (.iconst 2, 1) := by decide +kernel
theorem dX5_nextToken_339 : decode cX5_nextToken 339 = .ok (.if_icmp .le 9, 3) := by decide +kernel
theorem dX5_nextToken_342 : decode cX5_nextToken 342 = .ok (.ldc2_w 116, 3) := by decide +kernel
theorem dX5_nextToken_345 : decode cX5_nextToken 345 = .ok (.goto 6, 3) := by decide +kernel
theorem dX5_nextToken_348 : decode cX5_nextToken 348 = .ok (.ldc2_w 118, 3) := by decide +kernel
theorem dX5_nextToken_351 : decode cX5_nextToken 351 = .ok (.putfield 108, 3) := by decide +kernel
theorem dX5_nextToken_354 : decode cX5_nextToken 354 = .ok (.goto 40, 3) := by decide +kernel
theorem dX5_nextToken_357 : decode cX5_nextToken 357 = .ok (.aload_n 0, 1) := by decide +kernel
theorem dX5_nextToken_358 : decode cX5_nextToken 358 = .ok (.aload_n 0, 1) := by decide +kernel
theorem dX5_nextToken_359 : decode cX5_nextToken 359 = .ok (.getfield 26, 3) := by decide +kernel
theorem dX5_nextToken_362 : decode cX5_nextToken 362 = .ok (.aload_n 0, 1) := by decide +kernel
theorem dX5_nextToken_363 : decode cX5_nextToken 363 = .ok (.getfield 94, 3) := by decide +kernel
theorem dX5_nextToken_366 : decode cX5_nextToken 366 = .ok (.iaload, 1) := by decide +kernel
theorem dX5_nextToken_367 : decode cX5_nextToken 367 = .ok (.bipush 59, 2) := by decide +kernel
theorem dX5_nextToken_369 : decode cX5_nextToken 369 = .ok (.if_icmp .ne 9, 3) := by decide +kernel
theorem dX5_nextToken_372 : decode cX5_nextToken 372 = .ok (.ldc2_w 120, 3) := by decide +kernel
theorem dX5_nextToken_375 : decode cX5_nextToken 375 = .ok (.goto 6, 3) := by decide +kernel
theorem dX5_nextToken_378 : decode cX5_nextToken 378 = .ok (.ldc2_w 116, 3) := by decide +kernel
theorem dX5_nextToken_381 : decode cX5_nextToken 381 = .ok (.putfield 108, 3) := by decide +kernel
theorem dX5_nextToken_384 : decode cX5_nextToken 384 = .ok (.aload_n 0, 1) := by decide +kernel
theorem dX5_nextToken_385 : decode cX5_nextToken 385 = .ok (.dup, 1) := by decide +kernel
theorem dX5_nextToken_386 : decode cX5_nextToken 386 = .ok (.getfield 94, 3) := by decide +kernel
theorem dX5_nextToken_389 : decode cX5_nextToken 389 = .ok (.iconst 1, 1) := by decide +kernel
theorem dX5_nextToken_390 : decode cX5_nextToken 390 = .ok (.iadd, 1) := by decide +kernel
theorem dX5_nextToken_391 : decode cX5_nextToken 391 = .ok (.putfield 94, 3) := by decide +kernel
theorem dX5_nextToken_394 : decode cX5_nextToken 394 = .ok (.return_, 1) := by decide +kernel
theorem dX5_fails_0 : decode cX5_fails 0 = .ok (.aload_n 0, 1) := by decide +kernel
theorem dX5_fails_1 : decode cX5_fails 1 = .ok (.aload_n 0, 1) := by decide +kernel
theorem dX5_fails_2 : decode cX5_fails 2 = .ok (.getfield 97, 3) := by decide +kernel
theorem dX5_fails_5 : decode cX5_fails 5 = .ok (.putfield 122, 3) := by decide +kernel
theorem dX5_fails_8 : decode cX5_fails 8 = .ok (.iconst 0, 1) := by decide +kernel
theorem dX5_fails_9 : decode cX5_fails 9 = .ok (.ireturn, 1) := by decide +kernel
theorem dX5_isNumber_0 : decode cX5_isNumber 0 = .ok (.aload_n 0, 1) := by decide +kernel
theorem dX5_isNumber_1 : decode cX5_isNumber 1 = .ok (.invokevirtual 125, 3) := by decide +kernel
theorem dX5_isNumber_4 : decode cX5_isNumber 4 = .ok (.aload_n 0, 1) := by decide +kernel
theorem dX5_isNumber_5 : decode cX5_isNumber 5 = .ok (.getfield 108, 3) := by decide +kernel
theorem dX5_isNumber_8 : decode cX5_isNumber 8 = .ok (.ldc2_w 118, 3) := by decide +kernel
theorem dX5_isNumber_11 : decode cX5_isNumber 11 = .ok (.lcmp, 1) := by decide +kernel
theorem dX5_isNumber_12 : decode cX5_isNumber 12 = .ok (.ifCond .ne 15, 3) := by decide +kernel
theorem dX5_isNumber_15 : decode cX5_isNumber 15 = .ok (.aload_n 0, 1) := by decide +kernel
theorem dX5_isNumber_16 : decode cX5_isNumber 16 = .ok (.getfield 103, 3) := by decide +kernel
theorem dX5_isNumber_19 : decode cX5_isNumber 19 = .ok (.iload_n 2, 1) := by decide +kernel
theorem dX5_isNumber_20 : decode cX5_isNumber 20 = .ok (.iload_n 3, 1) := by decide +kernel
theorem dX5_isNumber_21 : decode cX5_isNumber 21 = .ok (.invokestatic 87, 3) := by decide +kernel
theorem dX5_isNumber_24 : decode cX5_isNumber 24 = .ok (.ifCond .ne 8, 3) := by decide +kernel
theorem dX5_isNumber_27 : decode cX5_isNumber 27 = .ok (.aload_n 0, 1) := by decide +kernel
theorem dX5_isNumber_28 : decode cX5_isNumber 28 = .ok (.invokevirtual 128, 3) := by decide +kernel
theorem dX5_isNumber_31 : decode cX5_isNumber 31 = .ok (.ireturn, 1) := by decide +kernel
theorem dX5_isNumber_32 : decode cX5_isNumber 32 = .ok (.aload_n 0, 1) := by decide +kernel
theorem dX5_isNumber_33 : decode cX5_isNumber 33 = .ok (.getfield 29, 3) := by decide +kernel
theorem dX5_isNumber_36 : decode cX5_isNumber 36 = .ok (.iload_n 1, 1) := by decide +kernel
theorem dX5_isNumber_37 : decode cX5_isNumber 37 = .ok (.aload_n 0, 1) := by decide +kernel
theorem dX5_isNumber_38 : decode cX5_isNumber 38 = .ok (.getfield 103, 3) := by decide +kernel
theorem dX5_isNumber_41 : decode cX5_isNumber 41 = .ok (.iastore, 1) := by decide +kernel
theorem dX5_isNumber_42 : decode cX5_isNumber 42 = .ok (.iconst 1, 1) := by decide +kernel
theorem dX5_isNumber_43 : decode cX5_isNumber 43 = .ok (.ireturn, 1) := by decide +kernel
theorem dX5_isThingLine_0 : decode cX5_isThingLine 0 = .ok (.aload_n 0, 1) := by decide +kernel
theorem dX5_isThingLine_1 : decode cX5_isThingLine 1 = .ok (.getfield 132, 3) := by decide +kernel
theorem dX5_isThingLine_4 : decode cX5_isThingLine 4 = .ok (.bipush 8, 2) := by decide +kernel
theorem dX5_isThingLine_6 : decode cX5_isThingLine 6 = .ok (.if_icmp .ne 8, 3) := by decide +kernel
theorem dX5_isThingLine_9 : decode cX5_isThingLine 9 = .ok (.aload_n 0, 1) := by decide +kernel
theorem dX5_isThingLine_10 : decode cX5_isThingLine 10 = .ok (.invokevirtual 128, 3) := by decide +kernel
theorem dX5_isThingLine_13 : decode cX5_isThingLine 13 = .ok (.ireturn, 1) := by decide +kernel
theorem dX5_isThingLine_14 : decode cX5_isThingLine 14 = .ok (.aload_n 0, 1) := by decide +kernel
theorem dX5_isThingLine_15 : decode cX5_isThingLine 15 = .ok (.dup, 1) := by decide +kernel
theorem dX5_isThingLine_16 : decode cX5_isThingLine 16 = .ok (.getfield 132, 3) := by decide +kernel
theorem dX5_isThingLine_19 : decode cX5_isThingLine 19 = .ok (.iconst 1, 1) := by decide +kernel
theorem dX5_isThingLine_20 : decode cX5_isThingLine 20 = .ok (.iadd, 1) := by decide +kernel
theorem dX5_isThingLine_21 : decode cX5_isThingLine 21 = .ok (.putfield 132, 3) := by decide +kernel
theorem dX5_isThingLine_24 : decode cX5_isThingLine 24 = .ok (.aload_n 0, 1) := by decide +kernel
theorem dX5_isThingLine_25 : decode cX5_isThingLine 25 = .ok (.iload_n 1, 1) := by decide +kernel
theorem dX5_isThingLine_26 : decode cX5_isThingLine 26 = .ok (.iconst 1, 1) := by decide +kernel
theorem dX5_isThingLine_27 : decode cX5_isThingLine 27 = .ok (.iadd, 1) := by decide +kernel
theorem dX5_isThingLine_28 : decode cX5_isThingLine 28 = .ok (.iconst 1, 1) := by decide +kernel
theorem dX5_isThingLine_29 : decode cX5_isThingLine 29 = .ok (.bipush 20, 2) := by decide +kernel
theorem dX5_isThingLine_31 : decode cX5_isThingLine 31 = .ok (.invokevirtual 135, 3) := by decide +kernel
theorem dX5_isThingLine_34 : decode cX5_isThingLine 34 = .ok (.ifCond .eq 32, 3) := by decide +kernel
theorem dX5_isThingLine_37 : decode cX5_isThingLine 37 = .ok (.aload_n 0, 1) := by decide +kernel
theorem dX5_isThingLine_38 : decode cX5_isThingLine 38 = .ok (.iload_n 1, 1) := by decide +kernel
theorem dX5_isThingLine_39 : decode cX5_isThingLine 39 = .ok (.iconst 2, 1) := by decide +kernel
theorem dX5_isThingLine_40 : decode cX5_isThingLine 40 = .ok (.iadd, 1) := by decide +kernel
theorem dX5_isThingLine_41 : decode cX5_isThingLine 41 = .ok (.iconst 0, 1) := by decide +kernel
theorem dX5_isThingLine_42 : decode cX5_isThingLine 42 = .ok (.bipush 40, 2) := by decide +kernel
theorem dX5_isThingLine_44 : decode cX5_isThingLine 44 = .ok (.invokevirtual 135, 3) := by decide +kernel
theorem dX5_isThingLine_47 : decode cX5_isThingLine 47 = .ok (.ifCond .eq 19, 3) := by decide +kernel
theorem dX5_isThingLine_50 : decode cX5_isThingLine 50 = .ok (.aload_n 0, 1) := by decide +kernel
theorem dX5_isThingLine_51 : decode cX5_isThingLine 51 = .ok (.iload_n 1, 1) := by decide +kernel
theorem dX5_isThingLine_52 : decode cX5_isThingLine 52 = .ok (.iconst 3, 1) := by decide +kernel
theorem dX5_isThingLine_53 : decode cX5_isThingLine 53 = .ok (.iadd, 1) := by decide +kernel
theorem dX5_isThingLine_54 : decode cX5_isThingLine 54 = .ok (.iconst 0, 1) := by decide +kernel
theorem dX5_isThingLine_55 : decode cX5_isThingLine 55 = .ok (.iconst 2, 1) := by decide +kernel
theorem dX5_isThingLine_56 : decode cX5_isThingLine 56 = .ok (.invokevirtual 135, 3) := by decide +kernel
theorem dX5_isThingLine_59 : decode cX5_isThingLine 59 = .ok (.ifCond .eq 7, 3) := by decide +kernel
theorem dX5_isThingLine_62 : decode cX5_isThingLine 62 = .ok (.iconst 1, 1) := by decide +kernel
theorem dX5_isThingLine_63 : decode cX5_isThingLine 63 = .ok (.goto 4, 3) := by decide +kernel
theorem dX5_isThingLine_66 : decode cX5_isThingLine 66 = .ok (.iconst 0, 1) := by decide +kernel
theorem dX5_isThingLine_67 : decode cX5_isThingLine 67 = .ok (.ireturn, 1) := by decide +kernel
theorem dX5_isLine_0 : decode cX5_isLine 0 = .ok (.aload_n 0, 1) := by decide +kernel
theorem dX5_isLine_1 : decode cX5_isLine 1 = .ok (.invokevirtual 125, 3) := by decide +kernel
theorem dX5_isLine_4 : decode cX5_isLine 4 = .ok (.aload_n 0, 1) := by decide +kernel
theorem dX5_isLine_5 : decode cX5_isLine 5 = .ok (.getfield 108, 3) := by decide +kernel
theorem dX5_isLine_8 : decode cX5_isLine 8 = .ok (.ldc2_w 138, 3) := by decide +kernel
theorem dX5_isLine_11 : decode cX5_isLine 11 = .ok (.lcmp, 1) := by decide +kernel
theorem dX5_isLine_12 : decode cX5_isLine 12 = .ok (.ifCond .ne 7, 3) := by decide +kernel
theorem dX5_isLine_15 : decode cX5_isLine 15 = .ok (.iconst 0, 1) := by decide +kernel
theorem dX5_isLine_16 : decode cX5_isLine 16 = .ok (.goto 79, 3) := by decide +kernel
theorem dX5_isLine_19 : decode cX5_isLine 19 = .ok (.aload_n 0, 1) := by decide +kernel
theorem dX5_isLine_20 : decode cX5_isLine 20 = .ok (.getfield 108, 3) := by decide +kernel
theorem dX5_isLine_23 : decode cX5_isLine 23 = .ok (.ldc2_w 140, 3) := by decide +kernel
theorem dX5_isLine_26 : decode cX5_isLine 26 = .ok (.lcmp, 1) := by decide +kernel
theorem dX5_isLine_27 : decode cX5_isLine 27 = .ok (.ifCond .ne 7, 3) := by decide +kernel
theorem dX5_isLine_30 : decode cX5_isLine 30 = .ok (.iconst 1, 1) := by decide +kernel
theorem dX5_isLine_31 : decode cX5_isLine 31 = .ok (.goto 64, 3) := by decide +kernel
theorem dX5_isLine_34 : decode cX5_isLine 34 = .ok (.aload_n 0, 1) := by decide +kernel
theorem dX5_isLine_35 : decode cX5_isLine 35 = .ok (.getfield 108, 3) := by decide +kernel
theorem dX5_isLine_38 : decode cX5_isLine 38 = .ok (.ldc2_w 142, 3) := by decide +kernel
theorem dX5_isLine_41 : decode cX5_isLine 41 = .ok (.lcmp, 1) := by decide +kernel
theorem dX5_isLine_42 : decode cX5_isLine 42 = .ok (.ifCond .ne 7, 3) := by decide +kernel
theorem dX5_isLine_45 : decode cX5_isLine 45 = .ok (.iconst 2, 1) := by decide +kernel
theorem dX5_isLine_46 : decode cX5_isLine 46 = .ok (.goto 49, 3) := by decide +kernel
theorem dX5_isLine_49 : decode cX5_isLine 49 = .ok (.aload_n 0, 1) := by decide +kernel
theorem dX5_isLine_50 : decode cX5_isLine 50 = .ok (.getfield 108, 3) := by decide +kernel
theorem dX5_isLine_53 : decode cX5_isLine 53 = .ok (.ldc2_w 144, 3) := by decide +kernel
theorem dX5_isLine_56 : decode cX5_isLine 56 = .ok (.lcmp, 1) := by decide +kernel
theorem dX5_isLine_57 : decode cX5_isLine 57 = .ok (.ifCond .ne 7, 3) := by decide +kernel
theorem dX5_isLine_60 : decode cX5_isLine 60 = .ok (.iconst 3, 1) := by decide +kernel
theorem dX5_isLine_61 : decode cX5_isLine 61 = .ok (.goto 34, 3) := by decide +kernel
theorem dX5_isLine_64 : decode cX5_isLine 64 = .ok (.aload_n 0, 1) := by decide +kernel
theorem dX5_isLine_65 : decode cX5_isLine 65 = .ok (.getfield 108, 3) := by decide +kernel
theorem dX5_isLine_68 : decode cX5_isLine 68 = .ok (.ldc2_w 146, 3) := by decide +kernel
theorem dX5_isLine_71 : decode cX5_isLine 71 = .ok (.lcmp, 1) := by decide +kernel
theorem dX5_isLine_72 : decode cX5_isLine 72 = .ok (.ifCond .ne 7, 3) := by decide +kernel
theorem dX5_isLine_75 : decode cX5_isLine 75 = .ok (.iconst 4, 1) := by decide +kernel
theorem dX5_isLine_76 : decode cX5_isLine 76 = .ok (.goto 19, 3) := by decide +kernel
theorem dX5_isLine_79 : decode cX5_isLine 79 = .ok (.aload_n 0, 1) := by decide +kernel
theorem dX5_isLine_80 : decode cX5_isLine 80 = .ok (.getfield 108, 3) := by decide +kernel
theorem dX5_isLine_83 : decode cX5_isLine 83 = .ok (.ldc2_w 148, 3) := by decide +kernel
theorem dX5_isLine_86 : decode cX5_isLine 86 = .ok (.lcmp, 1) := by decide +kernel
theorem dX5_isLine_87 : decode cX5_isLine 87 = .ok (.ifCond .ne 7, 3) := by decide +kernel
theorem dX5_isLine_90 : decode cX5_isLine 90 = .ok (.iconst 5, 1) := by decide +kernel
theorem dX5_isLine_91 : decode cX5_isLine 91 = .ok (.goto 4, 3) := by decide +kernel
theorem dX5_isLine_94 : decode cX5_isLine 94 = .ok (.iconst (-1), 1) := by decide +kernel
theorem dX5_isLine_95 : decode cX5_isLine 95 = .ok (.istore_n 2, 1) := by decide +kernel
theorem dX5_isLine_96 : decode cX5_isLine 96 = .ok (.aload_n 0, 1) := by decide +kernel
theorem dX5_isLine_97 : decode cX5_isLine 97 = .ok (.getfield 108, 3) := by decide +kernel
theorem dX5_isLine_100 : decode cX5_isLine 100 = .ok (.ldc2_w 150, 3) := by decide +kernel
theorem dX5_isLine_103 : decode cX5_isLine 103 = .ok (.lcmp, 1) := by decide +kernel
theorem dX5_isLine_104 : decode cX5_isLine 104 = .ok (.ifCond .ne 8, 3) := by decide +kernel
theorem dX5_isLine_107 : decode cX5_isLine 107 = .ok (.bipush 6, 2) := by decide +kernel
theorem dX5_isLine_109 : decode cX5_isLine 109 = .ok (.goto 68, 3) := by decide +kernel
theorem dX5_isLine_112 : decode cX5_isLine 112 = .ok (.aload_n 0, 1) := by decide +kernel
theorem dX5_isLine_113 : decode cX5_isLine 113 = .ok (.getfield 108, 3) := by decide +kernel
theorem dX5_isLine_116 : decode cX5_isLine 116 = .ok (.ldc2_w 152, 3) := by decide +kernel
theorem dX5_isLine_119 : decode cX5_isLine 119 = .ok (.lcmp, 1) := by decide +kernel
theorem dX5_isLine_120 : decode cX5_isLine 120 = .ok (.ifCond .ne 8, 3) := by decide +kernel
theorem dX5_isLine_123 : decode cX5_isLine 123 = .ok (.bipush 7, 2) := by decide +kernel
theorem dX5_isLine_125 : decode cX5_isLine 125 = .ok (.goto 52, 3) := by decide +kernel
theorem dX5_isLine_128 : decode cX5_isLine 128 = .ok (.aload_n 0, 1) := by decide +kernel
theorem dX5_isLine_129 : decode cX5_isLine 129 = .ok (.getfield 108, 3) := by decide +kernel
theorem dX5_isLine_132 : decode cX5_isLine 132 = .ok (.ldc2_w 154, 3) := by decide +kernel
theorem dX5_isLine_135 : decode cX5_isLine 135 = .ok (.lcmp, 1) := by decide +kernel
theorem dX5_isLine_136 : decode cX5_isLine 136 = .ok (.ifCond .ne 8, 3) := by decide +kernel
theorem dX5_isLine_139 : decode cX5_isLine 139 = .ok (.bipush 8, 2) := by decide +kernel
theorem dX5_isLine_141 : decode cX5_isLine 141 = .ok (.goto 36, 3) := by decide +kernel
theorem dX5_isLine_144 : decode cX5_isLine 144 = .ok (.aload_n 0, 1) := by decide +kernel
theorem dX5_isLine_145 : decode cX5_isLine 145 = .ok (.getfield 108, 3) := by decide +kernel
theorem dX5_isLine_148 : decode cX5_isLine 148 = .ok (.ldc2_w 156, 3) := by decide +kernel
theorem dX5_isLine_151 : decode cX5_isLine 151 = .ok (.lcmp, 1) := by decide +kernel
theorem dX5_isLine_152 : decode cX5_isLine 152 = .ok (.ifCond .ne 8, 3) := by decide +kernel
theorem dX5_isLine_155 : decode cX5_isLine 155 = .ok (.bipush 9, 2) := by decide +kernel
theorem dX5_isLine_157 : decode cX5_isLine 157 = .ok (.goto 20, 3) := by decide +kernel
theorem dX5_isLine_160 : decode cX5_isLine 160 = .ok (.aload_n 0, 1) := by decide +kernel
theorem dX5_isLine_161 : decode cX5_isLine 161 = .ok (.getfield 108, 3) := by decide +kernel
theorem dX5_isLine_164 : decode cX5_isLine 164 = .ok (.ldc2_w 158, 3) := by decide +kernel
theorem dX5_isLine_167 : decode cX5_isLine 167 = .ok (.lcmp, 1) := by decide +kernel
theorem dX5_isLine_168 : decode cX5_isLine 168 = .ok (.ifCond .ne 8, 3) := by decide +kernel

theorem dX3_nextToken_139 : decode cX3_nextToken 139 = .ok (.iload_n 1, 1) := by decide +kernel
theorem dX3_nextToken_140 : decode cX3_nextToken 140 = .ok (.invokestatic 125, 3) := by decide +kernel
theorem dX3_nextToken_143 : decode cX3_nextToken 143 = .ok (.if_icmp .ne 16, 3) := by decide +kernel
theorem dX3_nextToken_146 : decode cX3_nextToken 146 = .ok (.aload_n 0, 1) := by decide +kernel
theorem dX3_nextToken_147 : decode cX3_nextToken 147 = .ok (.dup, 1) := by decide +kernel
theorem dX3_nextToken_148 : decode cX3_nextToken 148 = .ok (.getfield 22, 3) := by decide +kernel
theorem dX3_nextToken_151 : decode cX3_nextToken 151 = .ok (.iconst 1, 1) := by decide +kernel
theorem dX3_nextToken_152 : decode cX3_nextToken 152 = .ok (.iadd, 1) := by decide +kernel
theorem dX3_nextToken_153 : decode cX3_nextToken 153 = .ok (.putfield 22, 3) := by decide +kernel
theorem dX3_nextToken_156 : decode cX3_nextToken 156 = .ok (.goto (-57), 3) := by decide +kernel
theorem dX3_nextToken_159 : decode cX3_nextToken 159 = .ok (.return_, 1) := by decide +kernel
theorem dX3_letterAt_0 : decode cX3_letterAt 0 = .ok (.iload_n 1, 1) := by decide +kernel
theorem dX3_letterAt_1 : decode cX3_letterAt 1 = .ok (.ifCond .lt 29, 3) := by decide +kernel
theorem dX3_letterAt_4 : decode cX3_letterAt 4 = .ok (.iload_n 1, 1) := by decide +kernel
theorem dX3_letterAt_5 : decode cX3_letterAt 5 = .ok (.aload_n 0, 1) := by decide +kernel
theorem dX3_letterAt_6 : decode cX3_letterAt 6 = .ok (.getfield 35, 3) := by decide +kernel
theorem dX3_letterAt_9 : decode cX3_letterAt 9 = .ok (.if_icmp .ge 21, 3) := by decide +kernel
theorem dX3_letterAt_12 : decode cX3_letterAt 12 = .ok (.iload_n 1, 1) := by decide +kernel
theorem dX3_letterAt_13 : decode cX3_letterAt 13 = .ok (.aload_n 0, 1) := by decide +kernel
theorem dX3_letterAt_14 : decode cX3_letterAt 14 = .ok (.getfield 9, 3) := by decide +kernel
theorem dX3_letterAt_17 : decode cX3_letterAt 17 = .ok (.arraylength, 1) := by decide +kernel
theorem dX3_letterAt_18 : decode cX3_letterAt 18 = .ok (.if_icmp .ge 12, 3) := by decide +kernel
theorem dX3_letterAt_21 : decode cX3_letterAt 21 = .ok (.aload_n 0, 1) := by decide +kernel
theorem dX3_letterAt_22 : decode cX3_letterAt 22 = .ok (.getfield 9, 3) := by decide +kernel
theorem dX3_letterAt_25 : decode cX3_letterAt 25 = .ok (.iload_n 1, 1) := by decide +kernel
theorem dX3_letterAt_26 : decode cX3_letterAt 26 = .ok (.iaload, 1) := by decide +kernel
theorem dX3_letterAt_27 : decode cX3_letterAt 27 = .ok (.goto 4, 3) := by decide +kernel
theorem dX3_letterAt_30 : decode cX3_letterAt 30 = .ok (.iconst (-1), 1) := by decide +kernel
theorem dX3_letterAt_31 : decode cX3_letterAt 31 = .ok (.ireturn, 1) := by decide +kernel
theorem dX3_isSmall_0 : decode cX3_isSmall 0 = .ok (.iload_n 0, 1) := by decide +kernel
theorem dX3_isSmall_1 : decode cX3_isSmall 1 = .ok (.bipush 97, 2) := by decide +kernel
theorem dX3_isSmall_3 : decode cX3_isSmall 3 = .ok (.if_icmp .lt 13, 3) := by decide +kernel
theorem dX3_isSmall_6 : decode cX3_isSmall 6 = .ok (.iload_n 0, 1) := by decide +kernel
theorem dX3_isSmall_7 : decode cX3_isSmall 7 = .ok (.bipush 122, 2) := by decide +kernel
theorem dX3_isSmall_9 : decode cX3_isSmall 9 = .ok (.if_icmp .gt 7, 3) := by decide +kernel
theorem dX3_isSmall_12 : decode cX3_isSmall 12 = .ok (.iconst 1, 1) := by decide +kernel
theorem dX3_isSmall_13 : decode cX3_isSmall 13 = .ok (.goto 4, 3) := by decide +kernel
theorem dX3_isSmall_16 : decode cX3_isSmall 16 = .ok (.iconst 0, 1) := by decide +kernel
theorem dX3_isSmall_17 : decode cX3_isSmall 17 = .ok (.ireturn, 1) := by decide +kernel
theorem dX3_isDigit_0 : decode cX3_isDigit 0 = .ok (.iload_n 0, 1) := by decide +kernel
theorem dX3_isDigit_1 : decode cX3_isDigit 1 = .ok (.bipush 48, 2) := by decide +kernel
theorem dX3_isDigit_3 : decode cX3_isDigit 3 = .ok (.if_icmp .lt 13, 3) := by decide +kernel
theorem dX3_isDigit_6 : decode cX3_isDigit 6 = .ok (.iload_n 0, 1) := by decide +kernel
theorem dX3_isDigit_7 : decode cX3_isDigit 7 = .ok (.bipush 57, 2) := by decide +kernel
theorem dX3_isDigit_9 : decode cX3_isDigit 9 = .ok (.if_icmp .gt 7, 3) := by decide +kernel
theorem dX3_isDigit_12 : decode cX3_isDigit 12 = .ok (.iconst 1, 1) := by decide +kernel
theorem dX3_isDigit_13 : decode cX3_isDigit 13 = .ok (.goto 4, 3) := by decide +kernel
theorem dX3_isDigit_16 : decode cX3_isDigit 16 = .ok (.iconst 0, 1) := by decide +kernel
theorem dX3_isDigit_17 : decode cX3_isDigit 17 = .ok (.ireturn, 1) := by decide +kernel
theorem dX4_init_0 : decode cX4_init 0 = .ok (.aload_n 0, 1) := by decide +kernel
theorem dX4_init_1 : decode cX4_init 1 = .ok (.invokespecial 1, 3) := by decide +kernel
theorem dX4_init_4 : decode cX4_init 4 = .ok (.aload_n 0, 1) := by decide +kernel
theorem dX4_init_5 : decode cX4_init 5 = .ok (.new 7, 3) := by decide +kernel
theorem dX4_init_8 : decode cX4_init 8 = .ok (.dup, 1) := by decide +kernel
theorem dX4_init_9 : decode cX4_init 9 = .ok (.invokespecial 9, 3) := by decide +kernel
theorem dX4_init_12 : decode cX4_init 12 = .ok (.putfield 10, 3) := by decide +kernel
theorem dX4_init_15 : decode cX4_init 15 = .ok (.aload_n 0, 1) := by decide +kernel
theorem dX4_init_16 : decode cX4_init 16 = .ok (.new 7, 3) := by decide +kernel
theorem dX4_init_19 : decode cX4_init 19 = .ok (.dup, 1) := by decide +kernel
theorem dX4_init_20 : decode cX4_init 20 = .ok (.invokespecial 9, 3) := by decide +kernel
theorem dX4_init_23 : decode cX4_init 23 = .ok (.putfield 16, 3) := by decide +kernel
theorem dX4_init_26 : decode cX4_init 26 = .ok (.aload_n 0, 1) := by decide +kernel
theorem dX4_init_27 : decode cX4_init 27 = .ok (.new 19, 3) := by decide +kernel
theorem dX4_init_30 : decode cX4_init 30 = .ok (.dup, 1) := by decide +kernel
theorem dX4_init_31 : decode cX4_init 31 = .ok (.invokespecial 21, 3) := by decide +kernel
theorem dX4_init_34 : decode cX4_init 34 = .ok (.putfield 22, 3) := by decide +kernel
theorem dX4_init_37 : decode cX4_init 37 = .ok (.aload_n 0, 1) := by decide +kernel
theorem dX4_init_38 : decode cX4_init 38 = .ok (.new 26, 3) := by decide +kernel
theorem dX4_init_41 : decode cX4_init 41 = .ok (.dup, 1) := by decide +kernel
theorem dX4_init_42 : decode cX4_init 42 = .ok (.invokespecial 28, 3) := by decide +kernel
theorem dX4_init_45 : decode cX4_init 45 = .ok (.putfield 29, 3) := by decide +kernel
theorem dX4_init_48 : decode cX4_init 48 = .ok (.aload_n 0, 1) := by decide +kernel
theorem dX4_init_49 : decode cX4_init 49 = .ok (.new 26, 3) := by decide +kernel
theorem dX4_init_52 : decode cX4_init 52 = .ok (.dup, 1) := by decide +kernel
theorem dX4_init_53 : decode cX4_init 53 = .ok (.invokespecial 28, 3) := by decide +kernel
theorem dX4_init_56 : decode cX4_init 56 = .ok (.putfield 33, 3) := by decide +kernel
theorem dX4_init_59 : decode cX4_init 59 = .ok (.aload_n 0, 1) := by decide +kernel
theorem dX4_init_60 : decode cX4_init 60 = .ok (.bipush 8, 2) := by decide +kernel
theorem dX4_init_62 : decode cX4_init 62 = .ok (.anewarray 26, 3) := by decide +kernel
theorem dX4_init_65 : decode cX4_init 65 = .ok (.putfield 36, 3) := by decide +kernel
theorem dX4_init_68 : decode cX4_init 68 = .ok (.aload_n 0, 1) := by decide +kernel
theorem dX4_init_69 : decode cX4_init 69 = .ok (.iconst 2, 1) := by decide +kernel
theorem dX4_init_70 : decode cX4_init 70 = .ok (.anewarray 26, 3) := by decide +kernel
theorem dX4_init_73 : decode cX4_init 73 = .ok (.putfield 40, 3) := by decide +kernel
theorem dX4_init_76 : decode cX4_init 76 = .ok (.aload_n 0, 1) := by decide +kernel
theorem dX4_init_77 : decode cX4_init 77 = .ok (.bipush 8, 2) := by decide +kernel
theorem dX4_init_79 : decode cX4_init 79 = .ok (.newarray .int, 2) := by decide +kernel
theorem dX4_init_81 : decode cX4_init 81 = .ok (.putfield 43, 3) := by decide +kernel
theorem dX4_init_84 : decode cX4_init 84 = .ok (.aload_n 0, 1) := by decide +kernel
theorem dX4_init_85 : decode cX4_init 85 = .ok (.new 47, 3) := by decide +kernel
theorem dX4_init_88 : decode cX4_init 88 = .ok (.dup, 1) := by decide +kernel
theorem dX4_init_89 : decode cX4_init 89 = .ok (.invokespecial 49, 3) := by decide +kernel
theorem dX4_init_92 : decode cX4_init 92 = .ok (.putfield 50, 3) := by decide +kernel
theorem dX4_init_95 : decode cX4_init 95 = .ok (.aload_n 0, 1) := by decide +kernel
theorem dX4_init_96 : decode cX4_init 96 = .ok (.bipush 6, 2) := by decide +kernel
theorem dX4_init_98 : decode cX4_init 98 = .ok (.newarray .int, 2) := by decide +kernel
theorem dX4_init_100 : decode cX4_init 100 = .ok (.putfield 54, 3) := by decide +kernel
theorem dX4_init_103 : decode cX4_init 103 = .ok (.aload_n 0, 1) := by decide +kernel
theorem dX4_init_104 : decode cX4_init 104 = .ok (.bipush 6, 2) := by decide +kernel
theorem dX4_init_106 : decode cX4_init 106 = .ok (.newarray .int, 2) := by decide +kernel
theorem dX4_init_108 : decode cX4_init 108 = .ok (.putfield 57, 3) := by decide +kernel
theorem dX4_init_111 : decode cX4_init 111 = .ok (.aload_n 0, 1) := by decide +kernel
theorem dX4_init_112 : decode cX4_init 112 = .ok (.bipush 6, 2) := by decide +kernel
theorem dX4_init_114 : decode cX4_init 114 = .ok (.newarray .int, 2) := by decide +kernel
theorem dX4_init_116 : decode cX4_init 116 = .ok (.putfield 60, 3) := by decide +kernel
theorem dX4_init_119 : decode cX4_init 119 = .ok (.iconst 0, 1) := by decide +kernel
theorem dX4_init_120 : decode cX4_init 120 = .ok (.istore_n 1, 1) := by decide +kernel
theorem dX4_init_121 : decode cX4_init 121 = .ok (.iload_n 1, 1) := by decide +kernel
theorem dX4_init_122 : decode cX4_init 122 = .ok (.bipush 8, 2) := by decide +kernel
theorem dX4_init_124 : decode cX4_init 124 = .ok (.if_icmp .ge 22, 3) := by decide +kernel
theorem dX4_init_127 : decode cX4_init 127 = .ok (.aload_n 0, 1) := by decide +kernel
theorem dX4_init_128 : decode cX4_init 128 = .ok (.getfield 36, 3) := by decide +kernel
theorem dX4_init_131 : decode cX4_init 131 = .ok (.iload_n 1, 1) := by decide +kernel
theorem dX4_init_132 : decode cX4_init 132 = .ok (.new 26, 3) := by decide +kernel
theorem dX4_init_135 : decode cX4_init 135 = .ok (.dup, 1) := by decide +kernel
theorem dX4_init_136 : decode cX4_init 136 = .ok (.invokespecial 28, 3) := by decide +kernel
theorem dX4_init_139 : decode cX4_init 139 = .ok (.aastore, 1) := by decide +kernel
theorem dX4_init_140 : decode cX4_init 140 = .ok (.iinc 1 1, 3) := by decide +kernel
theorem dX4_init_143 : decode cX4_init 143 = .ok (.goto (-22), 3) := by decide +kernel
theorem dX4_init_146 : decode cX4_init 146 = .ok (.iconst 0, 1) := by decide +kernel
theorem dX4_init_147 : decode cX4_init 147 = .ok (.istore_n 1, 1) := by decide +kernel
theorem dX4_init_148 : decode cX4_init 148 = .ok (.iload_n 1, 1) := by decide +kernel
theorem dX4_init_149 : decode cX4_init 149 = .ok (.iconst 2, 1) := by decide +kernel
theorem dX4_init_150 : decode cX4_init 150 = .ok (.if_icmp .ge 22, 3) := by decide +kernel
theorem dX4_init_153 : decode cX4_init 153 = .ok (.aload_n 0, 1) := by decide +kernel
theorem dX4_init_154 : decode cX4_init 154 = .ok (.getfield 40, 3) := by decide +kernel
theorem dX4_init_157 : decode cX4_init 157 = .ok (.iload_n 1, 1) := by decide +kernel
theorem dX4_init_158 : decode cX4_init 158 = .ok (.new 26, 3) := by decide +kernel
theorem dX4_init_161 : decode cX4_init 161 = .ok (.dup, 1) := by decide +kernel
theorem dX4_init_162 : decode cX4_init 162 = .ok (.invokespecial 28, 3) := by decide +kernel
theorem dX4_init_165 : decode cX4_init 165 = .ok (.aastore, 1) := by decide +kernel
theorem dX4_init_166 : decode cX4_init 166 = .ok (.iinc 1 1, 3) := by decide +kernel
theorem dX4_init_169 : decode cX4_init 169 = .ok (.goto (-21), 3) := by decide +kernel
theorem dX4_init_172 : decode cX4_init 172 = .ok (.return_, 1) := by decide +kernel
theorem dX4_write_0 : decode cX4_write 0 = .ok (.iload_n 1, 1) := by decide +kernel
theorem dX4_write_1 : decode cX4_write 1 = .ok (.ifCond .lt 10, 3) := by decide +kernel
theorem dX4_write_4 : decode cX4_write 4 = .ok (.iload_n 1, 1) := by decide +kernel
theorem dX4_write_5 : decode cX4_write 5 = .ok (.sipush 255, 3) := by decide +kernel
theorem dX4_write_8 : decode cX4_write 8 = .ok (.if_icmp .le 6, 3) := by decide +kernel
theorem dX4_write_11 : decode cX4_write 11 = .ok (.bipush (-3), 2) := by decide +kernel
theorem dX4_write_13 : decode cX4_write 13 = .ok (.ireturn, 1) := by decide +kernel
theorem dX4_write_14 : decode cX4_write 14 = .ok (.aload_n 0, 1) := by decide +kernel
theorem dX4_write_15 : decode cX4_write 15 = .ok (.getfield 22, 3) := by decide +kernel
theorem dX4_write_18 : decode cX4_write 18 = .ok (.getfield 63, 3) := by decide +kernel
theorem dX4_write_21 : decode cX4_write 21 = .ok (.sipush 160, 3) := by decide +kernel
theorem dX4_write_24 : decode cX4_write 24 = .ok (.if_icmp .lt 6, 3) := by decide +kernel
theorem dX4_write_27 : decode cX4_write 27 = .ok (.bipush (-5), 2) := by decide +kernel
theorem dX4_write_29 : decode cX4_write 29 = .ok (.ireturn, 1) := by decide +kernel
theorem dX4_write_30 : decode cX4_write 30 = .ok (.aload_n 0, 1) := by decide +kernel
theorem dX4_write_31 : decode cX4_write 31 = .ok (.getfield 22, 3) := by decide +kernel
theorem dX4_write_34 : decode cX4_write 34 = .ok (.getfield 67, 3) := by decide +kernel
theorem dX4_write_37 : decode cX4_write 37 = .ok (.aload_n 0, 1) := by decide +kernel
theorem dX4_write_38 : decode cX4_write 38 = .ok (.getfield 22, 3) := by decide +kernel
theorem dX4_write_41 : decode cX4_write 41 = .ok (.getfield 63, 3) := by decide +kernel
theorem dX4_write_44 : decode cX4_write 44 = .ok (.iload_n 1, 1) := by decide +kernel
theorem dX4_write_45 : decode cX4_write 45 = .ok (.iastore, 1) := by decide +kernel
theorem dX4_write_46 : decode cX4_write 46 = .ok (.aload_n 0, 1) := by decide +kernel
theorem dX4_write_47 : decode cX4_write 47 = .ok (.getfield 22, 3) := by decide +kernel
theorem dX4_write_50 : decode cX4_write 50 = .ok (.dup, 1) := by decide +kernel
theorem dX4_write_51 : decode cX4_write 51 = .ok (.getfield 63, 3) := by decide +kernel
theorem dX4_write_54 : decode cX4_write 54 = .ok (.iconst 1, 1) := by decide +kernel
theorem dX4_write_55 : decode cX4_write 55 = .ok (.iadd, 1) := by decide +kernel
theorem dX4_write_56 : decode cX4_write 56 = .ok (.putfield 63, 3) := by decide +kernel
theorem dX4_write_59 : decode cX4_write 59 = .ok (.aload_n 0, 1) := by decide +kernel
theorem dX4_write_60 : decode cX4_write 60 = .ok (.getfield 22, 3) := by decide +kernel
theorem dX4_write_63 : decode cX4_write 63 = .ok (.getfield 63, 3) := by decide +kernel
theorem dX4_write_66 : decode cX4_write 66 = .ok (.ireturn, 1) := by decide +kernel
theorem dX4_erase_0 : decode cX4_erase 0 = .ok (.aload_n 0, 1) := by decide +kernel
theorem dX4_erase_1 : decode cX4_erase 1 = .ok (.getfield 22, 3) := by decide +kernel
theorem dX4_erase_4 : decode cX4_erase 4 = .ok (.getfield 63, 3) := by decide +kernel
theorem dX4_erase_7 : decode cX4_erase 7 = .ok (.istore_n 1, 1) := by decide +kernel
theorem dX4_erase_8 : decode cX4_erase 8 = .ok (.aload_n 0, 1) := by decide +kernel
theorem dX4_erase_9 : decode cX4_erase 9 = .ok (.getfield 22, 3) := by decide +kernel
theorem dX4_erase_12 : decode cX4_erase 12 = .ok (.iconst 0, 1) := by decide +kernel
theorem dX4_erase_13 : decode cX4_erase 13 = .ok (.putfield 63, 3) := by decide +kernel
theorem dX4_erase_16 : decode cX4_erase 16 = .ok (.iload_n 1, 1) := by decide +kernel
theorem dX4_erase_17 : decode cX4_erase 17 = .ok (.ireturn, 1) := by decide +kernel
theorem dX4_fault_0 : decode cX4_fault 0 = .ok (.aload_n 0, 1) := by decide +kernel
theorem dX4_fault_1 : decode cX4_fault 1 = .ok (.getfield 16, 3) := by decide +kernel
theorem dX4_fault_4 : decode cX4_fault 4 = .ok (.aload_n 0, 1) := by decide +kernel
theorem dX4_fault_5 : decode cX4_fault 5 = .ok (.getfield 10, 3) := by decide +kernel
theorem dX4_fault_8 : decode cX4_fault 8 = .ok (.invokevirtual 70, 3) := by decide +kernel
theorem dX4_fault_11 : decode cX4_fault 11 = .ok (.aload_n 0, 1) := by decide +kernel
theorem dX4_fault_12 : decode cX4_fault 12 = .ok (.getfield 22, 3) := by decide +kernel
theorem dX4_fault_15 : decode cX4_fault 15 = .ok (.aload_n 0, 1) := by decide +kernel
theorem dX4_fault_16 : decode cX4_fault 16 = .ok (.getfield 16, 3) := by decide +kernel
theorem dX4_fault_19 : decode cX4_fault 19 = .ok (.invokevirtual 74, 3) := by decide +kernel
theorem dX4_fault_22 : decode cX4_fault 22 = .ok (.ireturn, 1) := by decide +kernel
theorem dX4_court_0 : decode cX4_court 0 = .ok (.aload_n 0, 1) := by decide +kernel
theorem dX4_court_1 : decode cX4_court 1 = .ok (.getfield 16, 3) := by decide +kernel
theorem dX4_court_4 : decode cX4_court 4 = .ok (.aload_n 0, 1) := by decide +kernel
theorem dX4_court_5 : decode cX4_court 5 = .ok (.getfield 10, 3) := by decide +kernel
theorem dX4_court_8 : decode cX4_court 8 = .ok (.invokevirtual 70, 3) := by decide +kernel
theorem dX4_court_11 : decode cX4_court 11 = .ok (.aload_n 0, 1) := by decide +kernel
theorem dX4_court_12 : decode cX4_court 12 = .ok (.getfield 22, 3) := by decide +kernel
theorem dX4_court_15 : decode cX4_court 15 = .ok (.aload_n 0, 1) := by decide +kernel
theorem dX4_court_16 : decode cX4_court 16 = .ok (.getfield 16, 3) := by decide +kernel
theorem dX4_court_19 : decode cX4_court 19 = .ok (.invokevirtual 74, 3) := by decide +kernel
theorem dX4_court_22 : decode cX4_court 22 = .ok (.iconst (-1), 1) := by decide +kernel
theorem dX4_court_23 : decode cX4_court 23 = .ok (.if_icmp .eq 6, 3) := by decide +kernel
theorem dX4_court_26 : decode cX4_court 26 = .ok (.bipush (-4), 2) := by decide +kernel
theorem dX4_court_28 : decode cX4_court 28 = .ok (.ireturn, 1) := by decide +kernel
theorem dX4_court_29 : decode cX4_court 29 = .ok (.aload_n 0, 1) := by decide +kernel
theorem dX4_court_30 : decode cX4_court 30 = .ok (.getfield 10, 3) := by decide +kernel
theorem dX4_court_33 : decode cX4_court 33 = .ok (.aload_n 0, 1) := by decide +kernel
theorem dX4_court_34 : decode cX4_court 34 = .ok (.getfield 16, 3) := by decide +kernel
theorem dX4_court_37 : decode cX4_court 37 = .ok (.invokevirtual 70, 3) := by decide +kernel
theorem dX4_court_40 : decode cX4_court 40 = .ok (.aload_n 0, 1) := by decide +kernel
theorem dX4_court_41 : decode cX4_court 41 = .ok (.getfield 22, 3) := by decide +kernel
theorem dX4_court_44 : decode cX4_court 44 = .ok (.iconst 0, 1) := by decide +kernel
theorem dX4_court_45 : decode cX4_court 45 = .ok (.putfield 63, 3) := by decide +kernel
theorem dX4_court_48 : decode cX4_court 48 = .ok (.aload_n 0, 1) := by decide +kernel
theorem dX4_court_49 : decode cX4_court 49 = .ok (.invokevirtual 78, 3) := by decide +kernel
theorem dX4_court_52 : decode cX4_court 52 = .ok (.aload_n 0, 1) := by decide +kernel
theorem dX4_court_53 : decode cX4_court 53 = .ok (.getfield 22, 3) := by decide +kernel
theorem dX4_court_56 : decode cX4_court 56 = .ok (.getfield 81, 3) := by decide +kernel
theorem dX4_court_59 : decode cX4_court 59 = .ok (.ireturn, 1) := by decide +kernel
theorem dX4_thing_0 : decode cX4_thing 0 = .ok (.aload_n 0, 1) := by decide +kernel
theorem dX4_thing_1 : decode cX4_thing 1 = .ok (.iload_n 1, 1) := by decide +kernel
theorem dX4_thing_2 : decode cX4_thing 2 = .ok (.invokevirtual 84, 3) := by decide +kernel
theorem dX4_thing_5 : decode cX4_thing 5 = .ok (.ifCond .ne 6, 3) := by decide +kernel
theorem dX4_thing_8 : decode cX4_thing 8 = .ok (.bipush (-2), 2) := by decide +kernel
theorem dX4_thing_10 : decode cX4_thing 10 = .ok (.ireturn, 1) := by decide +kernel
theorem dX4_thing_11 : decode cX4_thing 11 = .ok (.iload_n 2, 1) := by decide +kernel
theorem dX4_thing_12 : decode cX4_thing 12 = .ok (.tableswitch 126 0 6 #[44, 54, 64, 74, 84, 93, 113], 44) := by decide +kernel
theorem dX4_thing_56 : decode cX4_thing 56 = .ok (.aload_n 0, 1) := by decide +kernel
theorem dX4_thing_57 : decode cX4_thing 57 = .ok (.getfield 10, 3) := by decide +kernel
theorem dX4_thing_60 : decode cX4_thing 60 = .ok (.getfield 88, 3) := by decide +kernel
theorem dX4_thing_63 : decode cX4_thing 63 = .ok (.iload_n 1, 1) := by decide +kernel
theorem dX4_thing_64 : decode cX4_thing 64 = .ok (.iaload, 1) := by decide +kernel
theorem dX4_thing_65 : decode cX4_thing 65 = .ok (.ireturn, 1) := by decide +kernel
theorem dX4_thing_66 : decode cX4_thing 66 = .ok (.aload_n 0, 1) := by decide +kernel
theorem dX4_thing_67 : decode cX4_thing 67 = .ok (.getfield 10, 3) := by decide +kernel
theorem dX4_thing_70 : decode cX4_thing 70 = .ok (.getfield 91, 3) := by decide +kernel
theorem dX4_thing_73 : decode cX4_thing 73 = .ok (.iload_n 1, 1) := by decide +kernel
theorem dX4_thing_74 : decode cX4_thing 74 = .ok (.iaload, 1) := by decide +kernel
theorem dX4_thing_75 : decode cX4_thing 75 = .ok (.ireturn, 1) := by decide +kernel
theorem dX4_thing_76 : decode cX4_thing 76 = .ok (.aload_n 0, 1) := by decide +kernel
theorem dX4_thing_77 : decode cX4_thing 77 = .ok (.getfield 10, 3) := by decide +kernel
theorem dX4_thing_80 : decode cX4_thing 80 = .ok (.getfield 94, 3) := by decide +kernel
theorem dX4_thing_83 : decode cX4_thing 83 = .ok (.iload_n 1, 1) := by decide +kernel
theorem dX4_thing_84 : decode cX4_thing 84 = .ok (.iaload, 1) := by decide +kernel
theorem dX4_thing_85 : decode cX4_thing 85 = .ok (.ireturn, 1) := by decide +kernel
theorem dX4_thing_86 : decode cX4_thing 86 = .ok (.aload_n 0, 1) := by decide +kernel
theorem dX4_thing_87 : decode cX4_thing 87 = .ok (.getfield 10, 3) := by decide +kernel
theorem dX4_thing_90 : decode cX4_thing 90 = .ok (.getfield 97, 3) := by decide +kernel
theorem dX4_thing_93 : decode cX4_thing 93 = .ok (.iload_n 1, 1) := by decide +kernel
theorem dX4_thing_94 : decode cX4_thing 94 = .ok (.iaload, 1) := by decide +kernel
theorem dX4_thing_95 : decode cX4_thing 95 = .ok (.ireturn, 1) := by decide +kernel
theorem dX4_thing_96 : decode cX4_thing 96 = .ok (.aload_n 0, 1) := by decide +kernel
theorem dX4_thing_97 : decode cX4_thing 97 = .ok (.getfield 29, 3) := by decide +kernel
theorem dX4_thing_100 : decode cX4_thing 100 = .ok (.iload_n 1, 1) := by decide +kernel
theorem dX4_thing_101 : decode cX4_thing 101 = .ok (.invokevirtual 100, 3) := by decide +kernel
theorem dX4_thing_104 : decode cX4_thing 104 = .ok (.ireturn, 1) := by decide +kernel
theorem dX4_thing_105 : decode cX4_thing 105 = .ok (.aload_n 0, 1) := by decide +kernel
theorem dX4_thing_106 : decode cX4_thing 106 = .ok (.getfield 29, 3) := by decide +kernel
theorem dX4_thing_109 : decode cX4_thing 109 = .ok (.getfield 104, 3) := by decide +kernel
theorem dX4_thing_112 : decode cX4_thing 112 = .ok (.iload_n 1, 1) := by decide +kernel
theorem dX4_thing_113 : decode cX4_thing 113 = .ok (.invokestatic 107, 3) := by decide +kernel
theorem dX4_thing_116 : decode cX4_thing 116 = .ok (.ifCond .eq 7, 3) := by decide +kernel
theorem dX4_thing_119 : decode cX4_thing 119 = .ok (.iconst 1, 1) := by decide +kernel
theorem dX4_thing_120 : decode cX4_thing 120 = .ok (.goto 4, 3) := by decide +kernel
theorem dX4_thing_123 : decode cX4_thing 123 = .ok (.iconst 0, 1) := by decide +kernel
theorem dX4_thing_124 : decode cX4_thing 124 = .ok (.ireturn, 1) := by decide +kernel
theorem dX4_thing_125 : decode cX4_thing 125 = .ok (.aload_n 0, 1) := by decide +kernel
theorem dX4_thing_126 : decode cX4_thing 126 = .ok (.getfield 29, 3) := by decide +kernel
theorem dX4_thing_129 : decode cX4_thing 129 = .ok (.aload_n 0, 1) := by decide +kernel
theorem dX4_thing_130 : decode cX4_thing 130 = .ok (.getfield 10, 3) := by decide +kernel
theorem dX4_thing_133 : decode cX4_thing 133 = .ok (.iload_n 1, 1) := by decide +kernel
theorem dX4_thing_134 : decode cX4_thing 134 = .ok (.invokevirtual 111, 3) := by decide +kernel
theorem dX4_thing_137 : decode cX4_thing 137 = .ok (.ireturn, 1) := by decide +kernel
theorem dX4_thing_138 : decode cX4_thing 138 = .ok (.bipush (-3), 2) := by decide +kernel
theorem dX4_thing_140 : decode cX4_thing 140 = .ok (.ireturn, 1) := by decide +kernel
theorem dX4_as_0 : decode cX4_as 0 = .ok (.aload_n 0, 1) := by decide +kernel
theorem dX4_as_1 : decode cX4_as 1 = .ok (.iload_n 1, 1) := by decide +kernel
theorem dX4_as_2 : decode cX4_as 2 = .ok (.invokevirtual 84, 3) := by decide +kernel
theorem dX4_as_5 : decode cX4_as 5 = .ok (.ifCond .ne 6, 3) := by decide +kernel
theorem dX4_as_8 : decode cX4_as 8 = .ok (.bipush (-2), 2) := by decide +kernel
theorem dX4_as_10 : decode cX4_as 10 = .ok (.ireturn, 1) := by decide +kernel
theorem dX4_as_11 : decode cX4_as 11 = .ok (.iload_n 2, 1) := by decide +kernel
theorem dX4_as_12 : decode cX4_as 12 = .ok (.ifCond .lt 11, 3) := by decide +kernel
theorem dX4_as_15 : decode cX4_as 15 = .ok (.iload_n 2, 1) := by decide +kernel
theorem dX4_as_16 : decode cX4_as 16 = .ok (.getstatic 115, 3) := by decide +kernel
theorem dX4_as_19 : decode cX4_as 19 = .ok (.arraylength, 1) := by decide +kernel
theorem dX4_as_20 : decode cX4_as 20 = .ok (.if_icmp .lt 6, 3) := by decide +kernel
theorem dX4_as_23 : decode cX4_as 23 = .ok (.bipush (-3), 2) := by decide +kernel
theorem dX4_as_25 : decode cX4_as 25 = .ok (.ireturn, 1) := by decide +kernel
theorem dX4_as_26 : decode cX4_as 26 = .ok (.aload_n 0, 1) := by decide +kernel
theorem dX4_as_27 : decode cX4_as 27 = .ok (.getfield 10, 3) := by decide +kernel
theorem dX4_as_30 : decode cX4_as 30 = .ok (.getfield 88, 3) := by decide +kernel
theorem dX4_as_33 : decode cX4_as 33 = .ok (.iload_n 1, 1) := by decide +kernel
theorem dX4_as_34 : decode cX4_as 34 = .ok (.iaload, 1) := by decide +kernel
theorem dX4_as_35 : decode cX4_as 35 = .ok (.iconst 1, 1) := by decide +kernel
theorem dX4_as_36 : decode cX4_as 36 = .ok (.iadd, 1) := by decide +kernel
theorem dX4_as_37 : decode cX4_as 37 = .ok (.iload_n 2, 1) := by decide +kernel
theorem dX4_as_38 : decode cX4_as 38 = .ok (.invokestatic 118, 3) := by decide +kernel
theorem dX4_as_41 : decode cX4_as 41 = .ok (.ifCond .eq 18, 3) := by decide +kernel
theorem dX4_as_44 : decode cX4_as 44 = .ok (.aload_n 0, 1) := by decide +kernel
theorem dX4_as_45 : decode cX4_as 45 = .ok (.getfield 29, 3) := by decide +kernel
theorem dX4_as_48 : decode cX4_as 48 = .ok (.aload_n 0, 1) := by decide +kernel
theorem dX4_as_49 : decode cX4_as 49 = .ok (.getfield 10, 3) := by decide +kernel
theorem dX4_as_52 : decode cX4_as 52 = .ok (.iload_n 1, 1) := by decide +kernel
theorem dX4_as_53 : decode cX4_as 53 = .ok (.invokevirtual 121, 3) := by decide +kernel
theorem dX4_as_56 : decode cX4_as 56 = .ok (.goto 5, 3) := by decide +kernel
theorem dX4_as_59 : decode cX4_as 59 = .ok (.bipush (-4), 2) := by decide +kernel
theorem dX4_as_61 : decode cX4_as 61 = .ok (.ireturn, 1) := by decide +kernel
theorem dX4_floor_0 : decode cX4_floor 0 = .ok (.iload_n 1, 1) := by decide +kernel
theorem dX4_floor_1 : decode cX4_floor 1 = .ok (.ifCond .lt 8, 3) := by decide +kernel
theorem dX4_floor_4 : decode cX4_floor 4 = .ok (.iload_n 1, 1) := by decide +kernel
theorem dX4_floor_5 : decode cX4_floor 5 = .ok (.iconst 3, 1) := by decide +kernel
theorem dX4_floor_6 : decode cX4_floor 6 = .ok (.if_icmp .lt 6, 3) := by decide +kernel
theorem dX4_floor_9 : decode cX4_floor 9 = .ok (.bipush (-2), 2) := by decide +kernel
theorem dX4_floor_11 : decode cX4_floor 11 = .ok (.ireturn, 1) := by decide +kernel
theorem dX4_floor_12 : decode cX4_floor 12 = .ok (.iload_n 2, 1) := by decide +kernel
theorem dX4_floor_13 : decode cX4_floor 13 = .ok (.tableswitch 91 0 3 #[31, 41, 54, 74], 31) := by decide +kernel
theorem dX4_floor_44 : decode cX4_floor 44 = .ok (.aload_n 0, 1) := by decide +kernel
theorem dX4_floor_45 : decode cX4_floor 45 = .ok (.getfield 10, 3) := by decide +kernel
theorem dX4_floor_48 : decode cX4_floor 48 = .ok (.getfield 124, 3) := by decide +kernel
theorem dX4_floor_51 : decode cX4_floor 51 = .ok (.iload_n 1, 1) := by decide +kernel
theorem dX4_floor_52 : decode cX4_floor 52 = .ok (.iaload, 1) := by decide +kernel
theorem dX4_floor_53 : decode cX4_floor 53 = .ok (.ireturn, 1) := by decide +kernel
theorem dX4_floor_54 : decode cX4_floor 54 = .ok (.aload_n 0, 1) := by decide +kernel
theorem dX4_floor_55 : decode cX4_floor 55 = .ok (.getfield 29, 3) := by decide +kernel
theorem dX4_floor_58 : decode cX4_floor 58 = .ok (.aload_n 0, 1) := by decide +kernel
theorem dX4_floor_59 : decode cX4_floor 59 = .ok (.getfield 10, 3) := by decide +kernel
theorem dX4_floor_62 : decode cX4_floor 62 = .ok (.iload_n 1, 1) := by decide +kernel
theorem dX4_floor_63 : decode cX4_floor 63 = .ok (.invokevirtual 127, 3) := by decide +kernel
theorem dX4_floor_66 : decode cX4_floor 66 = .ok (.ireturn, 1) := by decide +kernel
theorem dX4_floor_67 : decode cX4_floor 67 = .ok (.aload_n 0, 1) := by decide +kernel
theorem dX4_floor_68 : decode cX4_floor 68 = .ok (.getfield 29, 3) := by decide +kernel
theorem dX4_floor_71 : decode cX4_floor 71 = .ok (.getfield 130, 3) := by decide +kernel
theorem dX4_floor_74 : decode cX4_floor 74 = .ok (.iload_n 1, 1) := by decide +kernel
theorem dX4_floor_75 : decode cX4_floor 75 = .ok (.invokestatic 107, 3) := by decide +kernel
theorem dX4_floor_78 : decode cX4_floor 78 = .ok (.ifCond .eq 7, 3) := by decide +kernel
theorem dX4_floor_81 : decode cX4_floor 81 = .ok (.iconst 1, 1) := by decide +kernel
theorem dX4_floor_82 : decode cX4_floor 82 = .ok (.goto 4, 3) := by decide +kernel
theorem dX4_floor_85 : decode cX4_floor 85 = .ok (.iconst 0, 1) := by decide +kernel
theorem dX4_floor_86 : decode cX4_floor 86 = .ok (.ireturn, 1) := by decide +kernel
theorem dX4_floor_87 : decode cX4_floor 87 = .ok (.aload_n 0, 1) := by decide +kernel
theorem dX4_floor_88 : decode cX4_floor 88 = .ok (.getfield 29, 3) := by decide +kernel
theorem dX4_floor_91 : decode cX4_floor 91 = .ok (.aload_n 0, 1) := by decide +kernel
theorem dX4_floor_92 : decode cX4_floor 92 = .ok (.getfield 10, 3) := by decide +kernel
theorem dX4_floor_95 : decode cX4_floor 95 = .ok (.iload_n 1, 1) := by decide +kernel
theorem dX4_floor_96 : decode cX4_floor 96 = .ok (.aload_n 0, 1) := by decide +kernel
theorem dX4_floor_97 : decode cX4_floor 97 = .ok (.getfield 133, 3) := by decide +kernel
theorem dX4_floor_100 : decode cX4_floor 100 = .ok (.invokevirtual 136, 3) := by decide +kernel
theorem dX4_floor_103 : decode cX4_floor 103 = .ok (.ireturn, 1) := by decide +kernel
theorem dX4_floor_104 : decode cX4_floor 104 = .ok (.bipush (-3), 2) := by decide +kernel
theorem dX4_floor_106 : decode cX4_floor 106 = .ok (.ireturn, 1) := by decide +kernel
theorem dX4_hand_0 : decode cX4_hand 0 = .ok (.iload_n 1, 1) := by decide +kernel
theorem dX4_hand_1 : decode cX4_hand 1 = .ok (.ifCond .lt 9, 3) := by decide +kernel
theorem dX4_hand_4 : decode cX4_hand 4 = .ok (.iload_n 1, 1) := by decide +kernel
theorem dX4_hand_5 : decode cX4_hand 5 = .ok (.bipush 99, 2) := by decide +kernel
theorem dX4_hand_7 : decode cX4_hand 7 = .ok (.if_icmp .le 6, 3) := by decide +kernel
theorem dX4_hand_10 : decode cX4_hand 10 = .ok (.bipush (-3), 2) := by decide +kernel
theorem dX4_hand_12 : decode cX4_hand 12 = .ok (.ireturn, 1) := by decide +kernel
theorem dX4_hand_13 : decode cX4_hand 13 = .ok (.aload_n 0, 1) := by decide +kernel
theorem dX4_hand_14 : decode cX4_hand 14 = .ok (.getfield 10, 3) := by decide +kernel
theorem dX4_hand_17 : decode cX4_hand 17 = .ok (.aload_n 0, 1) := by decide +kernel
theorem dX4_hand_18 : decode cX4_hand 18 = .ok (.getfield 29, 3) := by decide +kernel
theorem dX4_hand_21 : decode cX4_hand 21 = .ok (.getfield 140, 3) := by decide +kernel
theorem dX4_hand_24 : decode cX4_hand 24 = .ok (.iload_n 1, 1) := by decide +kernel
theorem dX4_hand_25 : decode cX4_hand 25 = .ok (.invokestatic 143, 3) := by decide +kernel
theorem dX4_hand_28 : decode cX4_hand 28 = .ok (.ireturn, 1) := by decide +kernel
theorem dX4_touch_0 : decode cX4_touch 0 = .ok (.aload_n 0, 1) := by decide +kernel
theorem dX4_touch_1 : decode cX4_touch 1 = .ok (.iload_n 1, 1) := by decide +kernel
theorem dX4_touch_2 : decode cX4_touch 2 = .ok (.invokevirtual 84, 3) := by decide +kernel
theorem dX4_touch_5 : decode cX4_touch 5 = .ok (.ifCond .ne 6, 3) := by decide +kernel
theorem dX4_touch_8 : decode cX4_touch 8 = .ok (.bipush (-2), 2) := by decide +kernel
theorem dX4_touch_10 : decode cX4_touch 10 = .ok (.ireturn, 1) := by decide +kernel
theorem dX4_touch_11 : decode cX4_touch 11 = .ok (.aload_n 0, 1) := by decide +kernel
theorem dX4_touch_12 : decode cX4_touch 12 = .ok (.getfield 29, 3) := by decide +kernel
theorem dX4_touch_15 : decode cX4_touch 15 = .ok (.aload_n 0, 1) := by decide +kernel
theorem dX4_touch_16 : decode cX4_touch 16 = .ok (.getfield 10, 3) := by decide +kernel
theorem dX4_touch_19 : decode cX4_touch 19 = .ok (.iload_n 1, 1) := by decide +kernel
theorem dX4_touch_20 : decode cX4_touch 20 = .ok (.invokevirtual 146, 3) := by decide +kernel
theorem dX4_touch_23 : decode cX4_touch 23 = .ok (.ifCond .eq 6, 3) := by decide +kernel
theorem dX4_touch_26 : decode cX4_touch 26 = .ok (.bipush (-4), 2) := by decide +kernel
theorem dX4_touch_28 : decode cX4_touch 28 = .ok (.ireturn, 1) := by decide +kernel
theorem dX4_touch_29 : decode cX4_touch 29 = .ok (.aload_n 0, 1) := by decide +kernel
theorem dX4_touch_30 : decode cX4_touch 30 = .ok (.getfield 29, 3) := by decide +kernel
theorem dX4_touch_33 : decode cX4_touch 33 = .ok (.getfield 150, 3) := by decide +kernel
theorem dX4_touch_36 : decode cX4_touch 36 = .ok (.bipush 24, 2) := by decide +kernel
theorem dX4_touch_38 : decode cX4_touch 38 = .ok (.if_icmp .lt 6, 3) := by decide +kernel
theorem dX4_touch_41 : decode cX4_touch 41 = .ok (.bipush (-5), 2) := by decide +kernel
theorem dX4_touch_43 : decode cX4_touch 43 = .ok (.ireturn, 1) := by decide +kernel
theorem dX4_touch_44 : decode cX4_touch 44 = .ok (.aload_n 0, 1) := by decide +kernel
theorem dX4_touch_45 : decode cX4_touch 45 = .ok (.iload_n 1, 1) := by decide +kernel
theorem dX4_touch_46 : decode cX4_touch 46 = .ok (.invokevirtual 153, 3) := by decide +kernel
theorem dX4_touch_49 : decode cX4_touch 49 = .ok (.ireturn, 1) := by decide +kernel
theorem dX4_by_0 : decode cX4_by 0 = .ok (.aload_n 0, 1) := by decide +kernel
theorem dX4_by_1 : decode cX4_by 1 = .ok (.iload_n 1, 1) := by decide +kernel
theorem dX4_by_2 : decode cX4_by 2 = .ok (.invokevirtual 84, 3) := by decide +kernel
theorem dX4_by_5 : decode cX4_by 5 = .ok (.ifCond .eq 16, 3) := by decide +kernel
theorem dX4_by_8 : decode cX4_by 8 = .ok (.aload_n 0, 1) := by decide +kernel
theorem dX4_by_9 : decode cX4_by 9 = .ok (.iload_n 2, 1) := by decide +kernel
theorem dX4_by_10 : decode cX4_by 10 = .ok (.invokevirtual 84, 3) := by decide +kernel
theorem dX4_by_13 : decode cX4_by 13 = .ok (.ifCond .eq 8, 3) := by decide +kernel
theorem dX4_by_16 : decode cX4_by 16 = .ok (.iload_n 1, 1) := by decide +kernel
theorem dX4_by_17 : decode cX4_by 17 = .ok (.iload_n 2, 1) := by decide +kernel
theorem dX4_by_18 : decode cX4_by 18 = .ok (.if_icmp .ne 6, 3) := by decide +kernel
theorem dX4_by_21 : decode cX4_by 21 = .ok (.bipush (-2), 2) := by decide +kernel
theorem dX4_by_23 : decode cX4_by 23 = .ok (.ireturn, 1) := by decide +kernel
theorem dX4_by_24 : decode cX4_by 24 = .ok (.aload_n 0, 1) := by decide +kernel
theorem dX4_by_25 : decode cX4_by 25 = .ok (.getfield 29, 3) := by decide +kernel
theorem dX4_by_28 : decode cX4_by 28 = .ok (.aload_n 0, 1) := by decide +kernel
theorem dX4_by_29 : decode cX4_by 29 = .ok (.getfield 10, 3) := by decide +kernel
theorem dX4_by_32 : decode cX4_by 32 = .ok (.iload_n 2, 1) := by decide +kernel
theorem dX4_by_33 : decode cX4_by 33 = .ok (.invokevirtual 146, 3) := by decide +kernel
theorem dX4_by_36 : decode cX4_by 36 = .ok (.ifCond .ne 12, 3) := by decide +kernel
theorem dX4_by_39 : decode cX4_by 39 = .ok (.aload_n 0, 1) := by decide +kernel
theorem dX4_by_40 : decode cX4_by 40 = .ok (.iload_n 1, 1) := by decide +kernel
theorem dX4_by_41 : decode cX4_by 41 = .ok (.iload_n 2, 1) := by decide +kernel
theorem dX4_by_42 : decode cX4_by 42 = .ok (.invokevirtual 156, 3) := by decide +kernel
theorem dX4_by_45 : decode cX4_by 45 = .ok (.ifCond .ne 6, 3) := by decide +kernel
theorem dX4_by_48 : decode cX4_by 48 = .ok (.bipush (-4), 2) := by decide +kernel
theorem dX4_by_50 : decode cX4_by 50 = .ok (.ireturn, 1) := by decide +kernel
theorem dX4_by_51 : decode cX4_by 51 = .ok (.aload_n 0, 1) := by decide +kernel
theorem dX4_by_52 : decode cX4_by 52 = .ok (.getfield 29, 3) := by decide +kernel
theorem dX4_by_55 : decode cX4_by 55 = .ok (.getfield 150, 3) := by decide +kernel
theorem dX4_by_58 : decode cX4_by 58 = .ok (.bipush 24, 2) := by decide +kernel
theorem dX4_by_60 : decode cX4_by 60 = .ok (.if_icmp .lt 6, 3) := by decide +kernel
theorem dX4_by_63 : decode cX4_by 63 = .ok (.bipush (-5), 2) := by decide +kernel
theorem dX4_by_65 : decode cX4_by 65 = .ok (.ireturn, 1) := by decide +kernel
theorem dX4_by_66 : decode cX4_by 66 = .ok (.aload_n 0, 1) := by decide +kernel
theorem dX4_by_67 : decode cX4_by 67 = .ok (.iload_n 1, 1) := by decide +kernel
theorem dX4_by_68 : decode cX4_by 68 = .ok (.invokevirtual 153, 3) := by decide +kernel
theorem dX4_by_71 : decode cX4_by 71 = .ok (.ireturn, 1) := by decide +kernel
theorem dX4_eat_0 : decode cX4_eat 0 = .ok (.iload_n 2, 1) := by decide +kernel
theorem dX4_eat_1 : decode cX4_eat 1 = .ok (.iconst (-1), 1) := by decide +kernel
theorem dX4_eat_2 : decode cX4_eat 2 = .ok (.if_icmp .ne 7, 3) := by decide +kernel
theorem dX4_eat_5 : decode cX4_eat 5 = .ok (.iconst 1, 1) := by decide +kernel
theorem dX4_eat_6 : decode cX4_eat 6 = .ok (.goto 4, 3) := by decide +kernel
theorem dX4_eat_9 : decode cX4_eat 9 = .ok (.iconst 0, 1) := by decide +kernel
theorem dX4_eat_10 : decode cX4_eat 10 = .ok (.istore_n 3, 1) := by decide +kernel
theorem dX4_eat_11 : decode cX4_eat 11 = .ok (.aload_n 0, 1) := by decide +kernel
theorem dX4_eat_12 : decode cX4_eat 12 = .ok (.iload_n 1, 1) := by decide +kernel
theorem dX4_eat_13 : decode cX4_eat 13 = .ok (.invokevirtual 84, 3) := by decide +kernel
theorem dX4_eat_16 : decode cX4_eat 16 = .ok (.ifCond .eq 20, 3) := by decide +kernel
theorem dX4_eat_19 : decode cX4_eat 19 = .ok (.iload_n 3, 1) := by decide +kernel
theorem dX4_eat_20 : decode cX4_eat 20 = .ok (.ifCond .ne 19, 3) := by decide +kernel
theorem dX4_eat_23 : decode cX4_eat 23 = .ok (.aload_n 0, 1) := by decide +kernel
theorem dX4_eat_24 : decode cX4_eat 24 = .ok (.iload_n 2, 1) := by decide +kernel
theorem dX4_eat_25 : decode cX4_eat 25 = .ok (.invokevirtual 84, 3) := by decide +kernel
theorem dX4_eat_28 : decode cX4_eat 28 = .ok (.ifCond .eq 8, 3) := by decide +kernel
theorem dX4_eat_31 : decode cX4_eat 31 = .ok (.iload_n 2, 1) := by decide +kernel
theorem dX4_eat_32 : decode cX4_eat 32 = .ok (.iload_n 1, 1) := by decide +kernel
theorem dX4_eat_33 : decode cX4_eat 33 = .ok (.if_icmp .ne 6, 3) := by decide +kernel
theorem dX4_eat_36 : decode cX4_eat 36 = .ok (.bipush (-2), 2) := by decide +kernel
theorem dX4_eat_38 : decode cX4_eat 38 = .ok (.ireturn, 1) := by decide +kernel
theorem dX4_eat_39 : decode cX4_eat 39 = .ok (.aload_n 0, 1) := by decide +kernel
theorem dX4_eat_40 : decode cX4_eat 40 = .ok (.getfield 10, 3) := by decide +kernel
theorem dX4_eat_43 : decode cX4_eat 43 = .ok (.getfield 88, 3) := by decide +kernel
theorem dX4_eat_46 : decode cX4_eat 46 = .ok (.iload_n 1, 1) := by decide +kernel
theorem dX4_eat_47 : decode cX4_eat 47 = .ok (.iaload, 1) := by decide +kernel
theorem dX4_eat_48 : decode cX4_eat 48 = .ok (.iconst 4, 1) := by decide +kernel
theorem dX4_eat_49 : decode cX4_eat 49 = .ok (.if_icmp .ne 18, 3) := by decide +kernel
theorem dX4_eat_52 : decode cX4_eat 52 = .ok (.aload_n 0, 1) := by decide +kernel
theorem dX4_eat_53 : decode cX4_eat 53 = .ok (.getfield 29, 3) := by decide +kernel
theorem dX4_eat_56 : decode cX4_eat 56 = .ok (.aload_n 0, 1) := by decide +kernel
theorem dX4_eat_57 : decode cX4_eat 57 = .ok (.getfield 10, 3) := by decide +kernel
theorem dX4_eat_60 : decode cX4_eat 60 = .ok (.iload_n 1, 1) := by decide +kernel
theorem dX4_eat_61 : decode cX4_eat 61 = .ok (.invokevirtual 146, 3) := by decide +kernel
theorem dX4_eat_64 : decode cX4_eat 64 = .ok (.ifCond .eq 6, 3) := by decide +kernel
theorem dX4_eat_67 : decode cX4_eat 67 = .ok (.bipush (-4), 2) := by decide +kernel
theorem dX4_eat_69 : decode cX4_eat 69 = .ok (.ireturn, 1) := by decide +kernel
theorem dX4_eat_70 : decode cX4_eat 70 = .ok (.iload_n 3, 1) := by decide +kernel
theorem dX4_eat_71 : decode cX4_eat 71 = .ok (.ifCond .ne 15, 3) := by decide +kernel
theorem dX4_eat_74 : decode cX4_eat 74 = .ok (.aload_n 0, 1) := by decide +kernel
theorem dX4_eat_75 : decode cX4_eat 75 = .ok (.iload_n 2, 1) := by decide +kernel
theorem dX4_eat_76 : decode cX4_eat 76 = .ok (.iload_n 1, 1) := by decide +kernel
theorem dX4_eat_77 : decode cX4_eat 77 = .ok (.invokevirtual 156, 3) := by decide +kernel
theorem dX4_eat_80 : decode cX4_eat 80 = .ok (.ifCond .ne 6, 3) := by decide +kernel
theorem dX4_eat_83 : decode cX4_eat 83 = .ok (.bipush (-4), 2) := by decide +kernel
theorem dX4_eat_85 : decode cX4_eat 85 = .ok (.ireturn, 1) := by decide +kernel
theorem dX4_eat_86 : decode cX4_eat 86 = .ok (.aload_n 0, 1) := by decide +kernel
theorem dX4_eat_87 : decode cX4_eat 87 = .ok (.getfield 29, 3) := by decide +kernel
theorem dX4_eat_90 : decode cX4_eat 90 = .ok (.getfield 150, 3) := by decide +kernel
theorem dX4_eat_93 : decode cX4_eat 93 = .ok (.bipush 24, 2) := by decide +kernel
theorem dX4_eat_95 : decode cX4_eat 95 = .ok (.if_icmp .lt 6, 3) := by decide +kernel
theorem dX4_eat_98 : decode cX4_eat 98 = .ok (.bipush (-5), 2) := by decide +kernel
theorem dX4_eat_100 : decode cX4_eat 100 = .ok (.ireturn, 1) := by decide +kernel
theorem dX4_eat_101 : decode cX4_eat 101 = .ok (.aload_n 0, 1) := by decide +kernel
theorem dX4_eat_102 : decode cX4_eat 102 = .ok (.iload_n 1, 1) := by decide +kernel
theorem dX4_eat_103 : decode cX4_eat 103 = .ok (.iload_n 3, 1) := by decide +kernel
theorem dX4_eat_104 : decode cX4_eat 104 = .ok (.ifCond .eq 7, 3) := by decide +kernel
theorem dX4_eat_107 : decode cX4_eat 107 = .ok (.iload_n 1, 1) := by decide +kernel
theorem dX4_eat_108 : decode cX4_eat 108 = .ok (.goto 4, 3) := by decide +kernel
theorem dX4_eat_111 : decode cX4_eat 111 = .ok (.iload_n 2, 1) := by decide +kernel
theorem dX4_eat_112 : decode cX4_eat 112 = .ok (.invokevirtual 159, 3) := by decide +kernel
theorem dX4_eat_115 : decode cX4_eat 115 = .ok (.ireturn, 1) := by decide +kernel
theorem dX4_bathe_0 : decode cX4_bathe 0 = .ok (.aload_n 0, 1) := by decide +kernel
theorem dX4_bathe_1 : decode cX4_bathe 1 = .ok (.getfield 29, 3) := by decide +kernel
theorem dX4_bathe_4 : decode cX4_bathe 4 = .ok (.getfield 150, 3) := by decide +kernel
theorem dX4_bathe_7 : decode cX4_bathe 7 = .ok (.bipush 24, 2) := by decide +kernel
theorem dX4_bathe_9 : decode cX4_bathe 9 = .ok (.if_icmp .lt 6, 3) := by decide +kernel
theorem dX4_bathe_12 : decode cX4_bathe 12 = .ok (.bipush (-5), 2) := by decide +kernel
theorem dX4_bathe_14 : decode cX4_bathe 14 = .ok (.ireturn, 1) := by decide +kernel
theorem dX4_bathe_15 : decode cX4_bathe 15 = .ok (.aload_n 0, 1) := by decide +kernel
theorem dX4_bathe_16 : decode cX4_bathe 16 = .ok (.invokevirtual 163, 3) := by decide +kernel
theorem dX4_bathe_19 : decode cX4_bathe 19 = .ok (.aload_n 0, 1) := by decide +kernel
theorem dX4_bathe_20 : decode cX4_bathe 20 = .ok (.getfield 29, 3) := by decide +kernel
theorem dX4_bathe_23 : decode cX4_bathe 23 = .ok (.dup, 1) := by decide +kernel
theorem dX4_bathe_24 : decode cX4_bathe 24 = .ok (.getfield 140, 3) := by decide +kernel
theorem dX4_bathe_27 : decode cX4_bathe 27 = .ok (.iconst 1, 1) := by decide +kernel
theorem dX4_bathe_28 : decode cX4_bathe 28 = .ok (.aload_n 0, 1) := by decide +kernel
theorem dX4_bathe_29 : decode cX4_bathe 29 = .ok (.getfield 29, 3) := by decide +kernel
theorem dX4_bathe_32 : decode cX4_bathe 32 = .ok (.getfield 150, 3) := by decide +kernel
theorem dX4_bathe_35 : decode cX4_bathe 35 = .ok (.ishl, 1) := by decide +kernel
theorem dX4_bathe_36 : decode cX4_bathe 36 = .ok (.ior, 1) := by decide +kernel
theorem dX4_bathe_37 : decode cX4_bathe 37 = .ok (.putfield 140, 3) := by decide +kernel
theorem dX4_bathe_40 : decode cX4_bathe 40 = .ok (.aload_n 0, 1) := by decide +kernel
theorem dX4_bathe_41 : decode cX4_bathe 41 = .ok (.getfield 29, 3) := by decide +kernel
theorem dX4_bathe_44 : decode cX4_bathe 44 = .ok (.aload_n 0, 1) := by decide +kernel
theorem dX4_bathe_45 : decode cX4_bathe 45 = .ok (.getfield 10, 3) := by decide +kernel
theorem dX4_bathe_48 : decode cX4_bathe 48 = .ok (.invokevirtual 166, 3) := by decide +kernel
theorem dX4_bathe_51 : decode cX4_bathe 51 = .ok (.aload_n 0, 1) := by decide +kernel
theorem dX4_bathe_52 : decode cX4_bathe 52 = .ok (.getfield 29, 3) := by decide +kernel
theorem dX4_bathe_55 : decode cX4_bathe 55 = .ok (.getfield 150, 3) := by decide +kernel
theorem dX4_bathe_58 : decode cX4_bathe 58 = .ok (.ireturn, 1) := by decide +kernel
theorem dX4_idle_0 : decode cX4_idle 0 = .ok (.aload_n 0, 1) := by decide +kernel
theorem dX4_idle_1 : decode cX4_idle 1 = .ok (.getfield 29, 3) := by decide +kernel
theorem dX4_idle_4 : decode cX4_idle 4 = .ok (.getfield 150, 3) := by decide +kernel
theorem dX4_idle_7 : decode cX4_idle 7 = .ok (.bipush 24, 2) := by decide +kernel
theorem dX4_idle_9 : decode cX4_idle 9 = .ok (.if_icmp .lt 6, 3) := by decide +kernel
theorem dX4_idle_12 : decode cX4_idle 12 = .ok (.bipush (-5), 2) := by decide +kernel
theorem dX4_idle_14 : decode cX4_idle 14 = .ok (.ireturn, 1) := by decide +kernel
theorem dX4_idle_15 : decode cX4_idle 15 = .ok (.aload_n 0, 1) := by decide +kernel
theorem dX4_idle_16 : decode cX4_idle 16 = .ok (.invokevirtual 163, 3) := by decide +kernel
theorem dX4_idle_19 : decode cX4_idle 19 = .ok (.aload_n 0, 1) := by decide +kernel
theorem dX4_idle_20 : decode cX4_idle 20 = .ok (.getfield 29, 3) := by decide +kernel
theorem dX4_idle_23 : decode cX4_idle 23 = .ok (.aload_n 0, 1) := by decide +kernel
theorem dX4_idle_24 : decode cX4_idle 24 = .ok (.getfield 10, 3) := by decide +kernel
theorem dX4_idle_27 : decode cX4_idle 27 = .ok (.invokevirtual 166, 3) := by decide +kernel
theorem dX4_idle_30 : decode cX4_idle 30 = .ok (.aload_n 0, 1) := by decide +kernel
theorem dX4_idle_31 : decode cX4_idle 31 = .ok (.getfield 29, 3) := by decide +kernel
theorem dX4_idle_34 : decode cX4_idle 34 = .ok (.getfield 150, 3) := by decide +kernel
theorem dX4_idle_37 : decode cX4_idle 37 = .ok (.ireturn, 1) := by decide +kernel
theorem dX4_undo_0 : decode cX4_undo 0 = .ok (.aload_n 0, 1) := by decide +kernel
theorem dX4_undo_1 : decode cX4_undo 1 = .ok (.getfield 169, 3) := by decide +kernel
theorem dX4_undo_4 : decode cX4_undo 4 = .ok (.ifCond .gt 6, 3) := by decide +kernel
theorem dX4_undo_7 : decode cX4_undo 7 = .ok (.bipush (-4), 2) := by decide +kernel
theorem dX4_undo_9 : decode cX4_undo 9 = .ok (.ireturn, 1) := by decide +kernel
theorem dX4_undo_10 : decode cX4_undo 10 = .ok (.aload_n 0, 1) := by decide +kernel
theorem dX4_undo_11 : decode cX4_undo 11 = .ok (.dup, 1) := by decide +kernel
theorem dX4_undo_12 : decode cX4_undo 12 = .ok (.getfield 169, 3) := by decide +kernel
theorem dX4_undo_15 : decode cX4_undo 15 = .ok (.iconst 1, 1) := by decide +kernel
theorem dX4_undo_16 : decode cX4_undo 16 = .ok (.isub, 1) := by decide +kernel
theorem dX4_undo_17 : decode cX4_undo 17 = .ok (.putfield 169, 3) := by decide +kernel
theorem dX4_undo_20 : decode cX4_undo 20 = .ok (.aload_n 0, 1) := by decide +kernel
theorem dX4_undo_21 : decode cX4_undo 21 = .ok (.getfield 29, 3) := by decide +kernel
theorem dX4_undo_24 : decode cX4_undo 24 = .ok (.aload_n 0, 1) := by decide +kernel
theorem dX4_undo_25 : decode cX4_undo 25 = .ok (.getfield 36, 3) := by decide +kernel
theorem dX4_undo_28 : decode cX4_undo 28 = .ok (.aload_n 0, 1) := by decide +kernel
theorem dX4_undo_29 : decode cX4_undo 29 = .ok (.getfield 169, 3) := by decide +kernel
theorem dX4_undo_32 : decode cX4_undo 32 = .ok (.aaload, 1) := by decide +kernel
theorem dX4_undo_33 : decode cX4_undo 33 = .ok (.invokevirtual 172, 3) := by decide +kernel
theorem dX4_undo_36 : decode cX4_undo 36 = .ok (.aload_n 0, 1) := by decide +kernel
theorem dX4_undo_37 : decode cX4_undo 37 = .ok (.getfield 169, 3) := by decide +kernel
theorem dX4_undo_40 : decode cX4_undo 40 = .ok (.ireturn, 1) := by decide +kernel
theorem dX4_keep_0 : decode cX4_keep 0 = .ok (.iload_n 1, 1) := by decide +kernel
theorem dX4_keep_1 : decode cX4_keep 1 = .ok (.ifCond .lt 8, 3) := by decide +kernel
theorem dX4_keep_4 : decode cX4_keep 4 = .ok (.iload_n 1, 1) := by decide +kernel
theorem dX4_keep_5 : decode cX4_keep 5 = .ok (.iconst 2, 1) := by decide +kernel
theorem dX4_keep_6 : decode cX4_keep 6 = .ok (.if_icmp .lt 6, 3) := by decide +kernel
theorem dX4_keep_9 : decode cX4_keep 9 = .ok (.bipush (-2), 2) := by decide +kernel
theorem dX4_keep_11 : decode cX4_keep 11 = .ok (.ireturn, 1) := by decide +kernel
theorem dX4_keep_12 : decode cX4_keep 12 = .ok (.aload_n 0, 1) := by decide +kernel
theorem dX4_keep_13 : decode cX4_keep 13 = .ok (.getfield 40, 3) := by decide +kernel
theorem dX4_keep_16 : decode cX4_keep 16 = .ok (.iload_n 1, 1) := by decide +kernel
theorem dX4_keep_17 : decode cX4_keep 17 = .ok (.aaload, 1) := by decide +kernel
theorem dX4_keep_18 : decode cX4_keep 18 = .ok (.aload_n 0, 1) := by decide +kernel
theorem dX4_keep_19 : decode cX4_keep 19 = .ok (.getfield 29, 3) := by decide +kernel
theorem dX4_keep_22 : decode cX4_keep 22 = .ok (.invokevirtual 172, 3) := by decide +kernel
theorem dX4_keep_25 : decode cX4_keep 25 = .ok (.aload_n 0, 1) := by decide +kernel
theorem dX4_keep_26 : decode cX4_keep 26 = .ok (.dup, 1) := by decide +kernel
theorem dX4_keep_27 : decode cX4_keep 27 = .ok (.getfield 175, 3) := by decide +kernel
theorem dX4_keep_30 : decode cX4_keep 30 = .ok (.iconst 1, 1) := by decide +kernel
theorem dX4_keep_31 : decode cX4_keep 31 = .ok (.iload_n 1, 1) := by decide +kernel
theorem dX4_keep_32 : decode cX4_keep 32 = .ok (.ishl, 1) := by decide +kernel
theorem dX4_keep_33 : decode cX4_keep 33 = .ok (.ior, 1) := by decide +kernel
theorem dX4_keep_34 : decode cX4_keep 34 = .ok (.putfield 175, 3) := by decide +kernel
theorem dX4_keep_37 : decode cX4_keep 37 = .ok (.aload_n 0, 1) := by decide +kernel
theorem dX4_keep_38 : decode cX4_keep 38 = .ok (.getfield 29, 3) := by decide +kernel
theorem dX4_keep_41 : decode cX4_keep 41 = .ok (.getfield 150, 3) := by decide +kernel
theorem dX4_keep_44 : decode cX4_keep 44 = .ok (.ireturn, 1) := by decide +kernel
theorem dX4_back_0 : decode cX4_back 0 = .ok (.iload_n 1, 1) := by decide +kernel
theorem dX4_back_1 : decode cX4_back 1 = .ok (.ifCond .lt 8, 3) := by decide +kernel
theorem dX4_back_4 : decode cX4_back 4 = .ok (.iload_n 1, 1) := by decide +kernel
theorem dX4_back_5 : decode cX4_back 5 = .ok (.iconst 2, 1) := by decide +kernel
theorem dX4_back_6 : decode cX4_back 6 = .ok (.if_icmp .lt 6, 3) := by decide +kernel
theorem dX4_back_9 : decode cX4_back 9 = .ok (.bipush (-2), 2) := by decide +kernel
theorem dX4_back_11 : decode cX4_back 11 = .ok (.ireturn, 1) := by decide +kernel
theorem dX4_back_12 : decode cX4_back 12 = .ok (.aload_n 0, 1) := by decide +kernel
theorem dX4_back_13 : decode cX4_back 13 = .ok (.getfield 175, 3) := by decide +kernel
theorem dX4_back_16 : decode cX4_back 16 = .ok (.iload_n 1, 1) := by decide +kernel
theorem dX4_back_17 : decode cX4_back 17 = .ok (.invokestatic 107, 3) := by decide +kernel
theorem dX4_back_20 : decode cX4_back 20 = .ok (.ifCond .ne 6, 3) := by decide +kernel
theorem dX4_back_23 : decode cX4_back 23 = .ok (.bipush (-4), 2) := by decide +kernel
theorem dX4_back_25 : decode cX4_back 25 = .ok (.ireturn, 1) := by decide +kernel
theorem dX4_back_26 : decode cX4_back 26 = .ok (.aload_n 0, 1) := by decide +kernel
theorem dX4_back_27 : decode cX4_back 27 = .ok (.getfield 29, 3) := by decide +kernel
theorem dX4_back_30 : decode cX4_back 30 = .ok (.aload_n 0, 1) := by decide +kernel
theorem dX4_back_31 : decode cX4_back 31 = .ok (.getfield 40, 3) := by decide +kernel
theorem dX4_back_34 : decode cX4_back 34 = .ok (.iload_n 1, 1) := by decide +kernel
theorem dX4_back_35 : decode cX4_back 35 = .ok (.aaload, 1) := by decide +kernel
theorem dX4_back_36 : decode cX4_back 36 = .ok (.invokevirtual 172, 3) := by decide +kernel
theorem dX4_back_39 : decode cX4_back 39 = .ok (.aload_n 0, 1) := by decide +kernel
theorem dX4_back_40 : decode cX4_back 40 = .ok (.iconst 0, 1) := by decide +kernel
theorem dX4_back_41 : decode cX4_back 41 = .ok (.putfield 169, 3) := by decide +kernel
theorem dX4_back_44 : decode cX4_back 44 = .ok (.aload_n 0, 1) := by decide +kernel
theorem dX4_back_45 : decode cX4_back 45 = .ok (.getfield 29, 3) := by decide +kernel
theorem dX4_back_48 : decode cX4_back 48 = .ok (.getfield 150, 3) := by decide +kernel
theorem dX4_back_51 : decode cX4_back 51 = .ok (.ireturn, 1) := by decide +kernel
theorem dX4_town_0 : decode cX4_town 0 = .ok (.iload_n 1, 1) := by decide +kernel
theorem dX4_town_1 : decode cX4_town 1 = .ok (.ifCond .lt 18, 3) := by decide +kernel
theorem dX4_town_4 : decode cX4_town 4 = .ok (.iload_n 1, 1) := by decide +kernel
theorem dX4_town_5 : decode cX4_town 5 = .ok (.bipush 8, 2) := by decide +kernel
theorem dX4_town_7 : decode cX4_town 7 = .ok (.if_icmp .gt 12, 3) := by decide +kernel
theorem dX4_town_10 : decode cX4_town 10 = .ok (.iload_n 2, 1) := by decide +kernel
theorem dX4_town_11 : decode cX4_town 11 = .ok (.ifCond .lt 8, 3) := by decide +kernel
theorem dX4_town_14 : decode cX4_town 14 = .ok (.iload_n 2, 1) := by decide +kernel
theorem dX4_town_15 : decode cX4_town 15 = .ok (.iconst 1, 1) := by decide +kernel
theorem dX4_town_16 : decode cX4_town 16 = .ok (.if_icmp .le 6, 3) := by decide +kernel
theorem dX4_town_19 : decode cX4_town 19 = .ok (.bipush (-3), 2) := by decide +kernel
theorem dX4_town_21 : decode cX4_town 21 = .ok (.ireturn, 1) := by decide +kernel
theorem dX4_town_22 : decode cX4_town 22 = .ok (.aload_n 0, 1) := by decide +kernel
theorem dX4_town_23 : decode cX4_town 23 = .ok (.invokevirtual 178, 3) := by decide +kernel
theorem dX4_town_26 : decode cX4_town 26 = .ok (.istore_n 3, 1) := by decide +kernel
theorem dX4_town_27 : decode cX4_town 27 = .ok (.iconst (-1), 1) := by decide +kernel
theorem dX4_town_28 : decode cX4_town 28 = .ok (.istore 4, 2) := by decide +kernel
theorem dX4_town_30 : decode cX4_town 30 = .ok (.iconst (-1), 1) := by decide +kernel
theorem dX4_town_31 : decode cX4_town 31 = .ok (.istore 5, 2) := by decide +kernel
theorem dX4_town_33 : decode cX4_town 33 = .ok (.iconst 0, 1) := by decide +kernel
theorem dX4_town_34 : decode cX4_town 34 = .ok (.istore 6, 2) := by decide +kernel
theorem dX4_town_36 : decode cX4_town 36 = .ok (.iload 6, 2) := by decide +kernel
theorem dX4_town_38 : decode cX4_town 38 = .ok (.sipush 256, 3) := by decide +kernel
theorem dX4_town_41 : decode cX4_town 41 = .ok (.if_icmp .ge 107, 3) := by decide +kernel
theorem dX4_town_44 : decode cX4_town 44 = .ok (.iload 6, 2) := by decide +kernel
theorem dX4_town_46 : decode cX4_town 46 = .ok (.iload_n 3, 1) := by decide +kernel
theorem dX4_town_47 : decode cX4_town 47 = .ok (.iconst (-1), 1) := by decide +kernel
theorem dX4_town_48 : decode cX4_town 48 = .ok (.ixor, 1) := by decide +kernel
theorem dX4_town_49 : decode cX4_town 49 = .ok (.iand, 1) := by decide +kernel
theorem dX4_town_50 : decode cX4_town 50 = .ok (.ifCond .eq 6, 3) := by decide +kernel
theorem dX4_town_53 : decode cX4_town 53 = .ok (.goto 89, 3) := by decide +kernel
theorem dX4_town_56 : decode cX4_town 56 = .ok (.aload_n 0, 1) := by decide +kernel
theorem dX4_town_57 : decode cX4_town 57 = .ok (.getfield 33, 3) := by decide +kernel
theorem dX4_town_60 : decode cX4_town 60 = .ok (.aload_n 0, 1) := by decide +kernel
theorem dX4_town_61 : decode cX4_town 61 = .ok (.getfield 29, 3) := by decide +kernel
theorem dX4_town_64 : decode cX4_town 64 = .ok (.invokevirtual 172, 3) := by decide +kernel
theorem dX4_town_67 : decode cX4_town 67 = .ok (.aload_n 0, 1) := by decide +kernel
theorem dX4_town_68 : decode cX4_town 68 = .ok (.getfield 33, 3) := by decide +kernel
theorem dX4_town_71 : decode cX4_town 71 = .ok (.dup, 1) := by decide +kernel
theorem dX4_town_72 : decode cX4_town 72 = .ok (.getfield 182, 3) := by decide +kernel
theorem dX4_town_75 : decode cX4_town 75 = .ok (.iload 6, 2) := by decide +kernel
theorem dX4_town_77 : decode cX4_town 77 = .ok (.ior, 1) := by decide +kernel
theorem dX4_town_78 : decode cX4_town 78 = .ok (.putfield 182, 3) := by decide +kernel
theorem dX4_town_81 : decode cX4_town 81 = .ok (.aload_n 0, 1) := by decide +kernel
theorem dX4_town_82 : decode cX4_town 82 = .ok (.getfield 33, 3) := by decide +kernel
theorem dX4_town_85 : decode cX4_town 85 = .ok (.aload_n 0, 1) := by decide +kernel
theorem dX4_town_86 : decode cX4_town 86 = .ok (.getfield 10, 3) := by decide +kernel
theorem dX4_town_89 : decode cX4_town 89 = .ok (.invokevirtual 185, 3) := by decide +kernel
theorem dX4_town_92 : decode cX4_town 92 = .ok (.iconst (-1), 1) := by decide +kernel
theorem dX4_town_93 : decode cX4_town 93 = .ok (.if_icmp .ne 49, 3) := by decide +kernel
theorem dX4_town_96 : decode cX4_town 96 = .ok (.aload_n 0, 1) := by decide +kernel
theorem dX4_town_97 : decode cX4_town 97 = .ok (.getfield 33, 3) := by decide +kernel
theorem dX4_town_100 : decode cX4_town 100 = .ok (.aload_n 0, 1) := by decide +kernel
theorem dX4_town_101 : decode cX4_town 101 = .ok (.getfield 10, 3) := by decide +kernel
theorem dX4_town_104 : decode cX4_town 104 = .ok (.invokevirtual 188, 3) := by decide +kernel
theorem dX4_town_107 : decode cX4_town 107 = .ok (.iload_n 1, 1) := by decide +kernel
theorem dX4_town_108 : decode cX4_town 108 = .ok (.if_icmp .ge 6, 3) := by decide +kernel
theorem dX4_town_111 : decode cX4_town 111 = .ok (.goto 31, 3) := by decide +kernel
theorem dX4_town_114 : decode cX4_town 114 = .ok (.aload_n 0, 1) := by decide +kernel
theorem dX4_town_115 : decode cX4_town 115 = .ok (.getfield 33, 3) := by decide +kernel
theorem dX4_town_118 : decode cX4_town 118 = .ok (.aload_n 0, 1) := by decide +kernel
theorem dX4_town_119 : decode cX4_town 119 = .ok (.getfield 10, 3) := by decide +kernel
theorem dX4_town_122 : decode cX4_town 122 = .ok (.invokevirtual 191, 3) := by decide +kernel
theorem dX4_town_125 : decode cX4_town 125 = .ok (.istore 7, 2) := by decide +kernel
theorem dX4_town_127 : decode cX4_town 127 = .ok (.iload 7, 2) := by decide +kernel
theorem dX4_town_129 : decode cX4_town 129 = .ok (.iload 4, 2) := by decide +kernel
theorem dX4_town_131 : decode cX4_town 131 = .ok (.if_icmp .le 11, 3) := by decide +kernel
theorem dX4_town_134 : decode cX4_town 134 = .ok (.iload 7, 2) := by decide +kernel
theorem dX4_town_136 : decode cX4_town 136 = .ok (.istore 4, 2) := by decide +kernel
theorem dX4_town_138 : decode cX4_town 138 = .ok (.iload 6, 2) := by decide +kernel
theorem dX4_town_140 : decode cX4_town 140 = .ok (.istore 5, 2) := by decide +kernel
theorem dX4_town_142 : decode cX4_town 142 = .ok (.iinc 6 1, 3) := by decide +kernel
theorem dX4_town_145 : decode cX4_town 145 = .ok (.goto (-109), 3) := by decide +kernel
theorem dX4_town_148 : decode cX4_town 148 = .ok (.iload_n 2, 1) := by decide +kernel
theorem dX4_town_149 : decode cX4_town 149 = .ok (.ifCond .ne 8, 3) := by decide +kernel
theorem dX4_town_152 : decode cX4_town 152 = .ok (.iload 4, 2) := by decide +kernel
theorem dX4_town_154 : decode cX4_town 154 = .ok (.goto 5, 3) := by decide +kernel
theorem dX4_town_157 : decode cX4_town 157 = .ok (.iload 5, 2) := by decide +kernel
theorem dX4_town_159 : decode cX4_town 159 = .ok (.ireturn, 1) := by decide +kernel
theorem dX4_put_0 : decode cX4_put 0 = .ok (.aload_n 0, 1) := by decide +kernel
theorem dX4_put_1 : decode cX4_put 1 = .ok (.iload_n 1, 1) := by decide +kernel
theorem dX4_put_2 : decode cX4_put 2 = .ok (.invokevirtual 84, 3) := by decide +kernel
theorem dX4_put_5 : decode cX4_put 5 = .ok (.ifCond .ne 6, 3) := by decide +kernel
theorem dX4_put_8 : decode cX4_put 8 = .ok (.bipush (-2), 2) := by decide +kernel
theorem dX4_put_10 : decode cX4_put 10 = .ok (.ireturn, 1) := by decide +kernel
theorem dX4_put_11 : decode cX4_put 11 = .ok (.aload_n 0, 1) := by decide +kernel
theorem dX4_put_12 : decode cX4_put 12 = .ok (.getfield 194, 3) := by decide +kernel
theorem dX4_put_15 : decode cX4_put 15 = .ok (.bipush 8, 2) := by decide +kernel
theorem dX4_put_17 : decode cX4_put 17 = .ok (.if_icmp .lt 6, 3) := by decide +kernel
theorem dX4_put_20 : decode cX4_put 20 = .ok (.bipush (-5), 2) := by decide +kernel
theorem dX4_put_22 : decode cX4_put 22 = .ok (.ireturn, 1) := by decide +kernel
theorem dX4_put_23 : decode cX4_put 23 = .ok (.aload_n 0, 1) := by decide +kernel
theorem dX4_put_24 : decode cX4_put 24 = .ok (.getfield 43, 3) := by decide +kernel
theorem dX4_put_27 : decode cX4_put 27 = .ok (.aload_n 0, 1) := by decide +kernel
theorem dX4_put_28 : decode cX4_put 28 = .ok (.getfield 194, 3) := by decide +kernel
theorem dX4_put_31 : decode cX4_put 31 = .ok (.iload_n 1, 1) := by decide +kernel
theorem dX4_put_32 : decode cX4_put 32 = .ok (.iastore, 1) := by decide +kernel
theorem dX4_put_33 : decode cX4_put 33 = .ok (.aload_n 0, 1) := by decide +kernel
theorem dX4_put_34 : decode cX4_put 34 = .ok (.dup, 1) := by decide +kernel
theorem dX4_put_35 : decode cX4_put 35 = .ok (.getfield 194, 3) := by decide +kernel
theorem dX4_put_38 : decode cX4_put 38 = .ok (.iconst 1, 1) := by decide +kernel
theorem dX4_put_39 : decode cX4_put 39 = .ok (.iadd, 1) := by decide +kernel
theorem dX4_put_40 : decode cX4_put 40 = .ok (.putfield 194, 3) := by decide +kernel
theorem dX4_put_43 : decode cX4_put 43 = .ok (.aload_n 0, 1) := by decide +kernel
theorem dX4_put_44 : decode cX4_put 44 = .ok (.getfield 194, 3) := by decide +kernel
theorem dX4_put_47 : decode cX4_put 47 = .ok (.ireturn, 1) := by decide +kernel
theorem dX4_wipe_0 : decode cX4_wipe 0 = .ok (.aload_n 0, 1) := by decide +kernel
theorem dX4_wipe_1 : decode cX4_wipe 1 = .ok (.getfield 194, 3) := by decide +kernel
theorem dX4_wipe_4 : decode cX4_wipe 4 = .ok (.istore_n 1, 1) := by decide +kernel
theorem dX4_wipe_5 : decode cX4_wipe 5 = .ok (.aload_n 0, 1) := by decide +kernel
theorem dX4_wipe_6 : decode cX4_wipe 6 = .ok (.iconst 0, 1) := by decide +kernel
theorem dX4_wipe_7 : decode cX4_wipe 7 = .ok (.putfield 194, 3) := by decide +kernel
theorem dX4_wipe_10 : decode cX4_wipe 10 = .ok (.iload_n 1, 1) := by decide +kernel
theorem dX4_wipe_11 : decode cX4_wipe 11 = .ok (.ireturn, 1) := by decide +kernel
theorem dX4_goes_0 : decode cX4_goes 0 = .ok (.iload_n 1, 1) := by decide +kernel
theorem dX4_goes_1 : decode cX4_goes 1 = .ok (.ifCond .lt 8, 3) := by decide +kernel
theorem dX4_goes_4 : decode cX4_goes 4 = .ok (.iload_n 1, 1) := by decide +kernel
theorem dX4_goes_5 : decode cX4_goes 5 = .ok (.iconst 1, 1) := by decide +kernel
theorem dX4_goes_6 : decode cX4_goes 6 = .ok (.if_icmp .le 6, 3) := by decide +kernel
theorem dX4_goes_9 : decode cX4_goes 9 = .ok (.bipush (-3), 2) := by decide +kernel
theorem dX4_goes_11 : decode cX4_goes 11 = .ok (.ireturn, 1) := by decide +kernel
theorem dX4_goes_12 : decode cX4_goes 12 = .ok (.aload_n 0, 1) := by decide +kernel
theorem dX4_goes_13 : decode cX4_goes 13 = .ok (.getfield 33, 3) := by decide +kernel
theorem dX4_goes_16 : decode cX4_goes 16 = .ok (.aload_n 0, 1) := by decide +kernel
theorem dX4_goes_17 : decode cX4_goes 17 = .ok (.getfield 29, 3) := by decide +kernel
theorem dX4_goes_20 : decode cX4_goes 20 = .ok (.invokevirtual 172, 3) := by decide +kernel
theorem dX4_goes_23 : decode cX4_goes 23 = .ok (.iconst 0, 1) := by decide +kernel
theorem dX4_goes_24 : decode cX4_goes 24 = .ok (.istore_n 2, 1) := by decide +kernel
theorem dX4_goes_25 : decode cX4_goes 25 = .ok (.iload_n 2, 1) := by decide +kernel
theorem dX4_goes_26 : decode cX4_goes 26 = .ok (.aload_n 0, 1) := by decide +kernel
theorem dX4_goes_27 : decode cX4_goes 27 = .ok (.getfield 194, 3) := by decide +kernel
theorem dX4_goes_30 : decode cX4_goes 30 = .ok (.if_icmp .ge 56, 3) := by decide +kernel
theorem dX4_goes_33 : decode cX4_goes 33 = .ok (.aload_n 0, 1) := by decide +kernel
theorem dX4_goes_34 : decode cX4_goes 34 = .ok (.getfield 33, 3) := by decide +kernel
theorem dX4_goes_37 : decode cX4_goes 37 = .ok (.dup, 1) := by decide +kernel
theorem dX4_goes_38 : decode cX4_goes 38 = .ok (.getfield 182, 3) := by decide +kernel
theorem dX4_goes_41 : decode cX4_goes 41 = .ok (.iconst 1, 1) := by decide +kernel
theorem dX4_goes_42 : decode cX4_goes 42 = .ok (.aload_n 0, 1) := by decide +kernel
theorem dX4_goes_43 : decode cX4_goes 43 = .ok (.getfield 43, 3) := by decide +kernel
theorem dX4_goes_46 : decode cX4_goes 46 = .ok (.iload_n 2, 1) := by decide +kernel
theorem dX4_goes_47 : decode cX4_goes 47 = .ok (.iaload, 1) := by decide +kernel
theorem dX4_goes_48 : decode cX4_goes 48 = .ok (.ishl, 1) := by decide +kernel
theorem dX4_goes_49 : decode cX4_goes 49 = .ok (.ior, 1) := by decide +kernel
theorem dX4_goes_50 : decode cX4_goes 50 = .ok (.putfield 182, 3) := by decide +kernel
theorem dX4_goes_53 : decode cX4_goes 53 = .ok (.aload_n 0, 1) := by decide +kernel
theorem dX4_goes_54 : decode cX4_goes 54 = .ok (.getfield 33, 3) := by decide +kernel
theorem dX4_goes_57 : decode cX4_goes 57 = .ok (.aload_n 0, 1) := by decide +kernel
theorem dX4_goes_58 : decode cX4_goes 58 = .ok (.getfield 10, 3) := by decide +kernel
theorem dX4_goes_61 : decode cX4_goes 61 = .ok (.invokevirtual 185, 3) := by decide +kernel
theorem dX4_goes_64 : decode cX4_goes 64 = .ok (.istore_n 3, 1) := by decide +kernel
theorem dX4_goes_65 : decode cX4_goes 65 = .ok (.iload_n 3, 1) := by decide +kernel
theorem dX4_goes_66 : decode cX4_goes 66 = .ok (.iconst (-1), 1) := by decide +kernel
theorem dX4_goes_67 : decode cX4_goes 67 = .ok (.if_icmp .eq 13, 3) := by decide +kernel
theorem dX4_goes_70 : decode cX4_goes 70 = .ok (.iload_n 1, 1) := by decide +kernel
theorem dX4_goes_71 : decode cX4_goes 71 = .ok (.ifCond .ne 7, 3) := by decide +kernel
theorem dX4_goes_74 : decode cX4_goes 74 = .ok (.iload_n 2, 1) := by decide +kernel
theorem dX4_goes_75 : decode cX4_goes 75 = .ok (.goto 4, 3) := by decide +kernel
theorem dX4_goes_78 : decode cX4_goes 78 = .ok (.iload_n 3, 1) := by decide +kernel
theorem dX4_goes_79 : decode cX4_goes 79 = .ok (.ireturn, 1) := by decide +kernel
theorem dX4_goes_80 : decode cX4_goes 80 = .ok (.iinc 2 1, 3) := by decide +kernel
theorem dX4_goes_83 : decode cX4_goes 83 = .ok (.goto (-58), 3) := by decide +kernel
theorem dX4_goes_86 : decode cX4_goes 86 = .ok (.iconst (-1), 1) := by decide +kernel
theorem dX4_goes_87 : decode cX4_goes 87 = .ok (.ireturn, 1) := by decide +kernel
theorem dX4_task_0 : decode cX4_task 0 = .ok (.aload_n 0, 1) := by decide +kernel
theorem dX4_task_1 : decode cX4_task 1 = .ok (.iload_n 1, 1) := by decide +kernel
theorem dX4_task_2 : decode cX4_task 2 = .ok (.invokevirtual 84, 3) := by decide +kernel
theorem dX4_task_5 : decode cX4_task 5 = .ok (.ifCond .ne 6, 3) := by decide +kernel
theorem dX4_task_8 : decode cX4_task 8 = .ok (.bipush (-2), 2) := by decide +kernel
theorem dX4_task_10 : decode cX4_task 10 = .ok (.ireturn, 1) := by decide +kernel
theorem dX4_task_11 : decode cX4_task 11 = .ok (.aload_n 0, 1) := by decide +kernel
theorem dX4_task_12 : decode cX4_task 12 = .ok (.getfield 133, 3) := by decide +kernel
theorem dX4_task_15 : decode cX4_task 15 = .ok (.iload_n 1, 1) := by decide +kernel
theorem dX4_task_16 : decode cX4_task 16 = .ok (.invokestatic 107, 3) := by decide +kernel
theorem dX4_task_19 : decode cX4_task 19 = .ok (.ifCond .eq 6, 3) := by decide +kernel
theorem dX4_task_22 : decode cX4_task 22 = .ok (.bipush (-4), 2) := by decide +kernel
theorem dX4_task_24 : decode cX4_task 24 = .ok (.ireturn, 1) := by decide +kernel
theorem dX4_task_25 : decode cX4_task 25 = .ok (.aload_n 0, 1) := by decide +kernel
theorem dX4_task_26 : decode cX4_task 26 = .ok (.getfield 133, 3) := by decide +kernel
theorem dX4_task_29 : decode cX4_task 29 = .ok (.invokestatic 197, 3) := by decide +kernel
theorem dX4_task_32 : decode cX4_task 32 = .ok (.iconst 4, 1) := by decide +kernel
theorem dX4_task_33 : decode cX4_task 33 = .ok (.if_icmp .lt 6, 3) := by decide +kernel
theorem dX4_task_36 : decode cX4_task 36 = .ok (.bipush (-5), 2) := by decide +kernel
theorem dX4_task_38 : decode cX4_task 38 = .ok (.ireturn, 1) := by decide +kernel
theorem dX4_task_39 : decode cX4_task 39 = .ok (.aload_n 0, 1) := by decide +kernel
theorem dX4_task_40 : decode cX4_task 40 = .ok (.dup, 1) := by decide +kernel
theorem dX4_task_41 : decode cX4_task 41 = .ok (.getfield 133, 3) := by decide +kernel
theorem dX4_task_44 : decode cX4_task 44 = .ok (.iconst 1, 1) := by decide +kernel
theorem dX4_task_45 : decode cX4_task 45 = .ok (.iload_n 1, 1) := by decide +kernel
theorem dX4_task_46 : decode cX4_task 46 = .ok (.ishl, 1) := by decide +kernel
theorem dX4_task_47 : decode cX4_task 47 = .ok (.ior, 1) := by decide +kernel
theorem dX4_task_48 : decode cX4_task 48 = .ok (.putfield 133, 3) := by decide +kernel
theorem dX4_task_51 : decode cX4_task 51 = .ok (.aload_n 0, 1) := by decide +kernel
theorem dX4_task_52 : decode cX4_task 52 = .ok (.getfield 133, 3) := by decide +kernel
theorem dX4_task_55 : decode cX4_task 55 = .ok (.invokestatic 197, 3) := by decide +kernel
theorem dX4_task_58 : decode cX4_task 58 = .ok (.ireturn, 1) := by decide +kernel
theorem dX4_drop_0 : decode cX4_drop 0 = .ok (.aload_n 0, 1) := by decide +kernel
theorem dX4_drop_1 : decode cX4_drop 1 = .ok (.getfield 133, 3) := by decide +kernel
theorem dX4_drop_4 : decode cX4_drop 4 = .ok (.invokestatic 197, 3) := by decide +kernel
theorem dX4_drop_7 : decode cX4_drop 7 = .ok (.istore_n 1, 1) := by decide +kernel
theorem dX4_drop_8 : decode cX4_drop 8 = .ok (.aload_n 0, 1) := by decide +kernel
theorem dX4_drop_9 : decode cX4_drop 9 = .ok (.iconst 0, 1) := by decide +kernel
theorem dX4_drop_10 : decode cX4_drop 10 = .ok (.putfield 133, 3) := by decide +kernel
theorem dX4_drop_13 : decode cX4_drop 13 = .ok (.iload_n 1, 1) := by decide +kernel
theorem dX4_drop_14 : decode cX4_drop 14 = .ok (.ireturn, 1) := by decide +kernel
theorem dX4_plan_0 : decode cX4_plan 0 = .ok (.iload_n 1, 1) := by decide +kernel
theorem dX4_plan_1 : decode cX4_plan 1 = .ok (.ifCond .lt 8, 3) := by decide +kernel
theorem dX4_plan_4 : decode cX4_plan 4 = .ok (.iload_n 1, 1) := by decide +kernel
theorem dX4_plan_5 : decode cX4_plan 5 = .ok (.iconst 2, 1) := by decide +kernel
theorem dX4_plan_6 : decode cX4_plan 6 = .ok (.if_icmp .le 6, 3) := by decide +kernel
theorem dX4_plan_9 : decode cX4_plan 9 = .ok (.bipush (-3), 2) := by decide +kernel
theorem dX4_plan_11 : decode cX4_plan 11 = .ok (.ireturn, 1) := by decide +kernel
theorem dX4_plan_12 : decode cX4_plan 12 = .ok (.aload_n 0, 1) := by decide +kernel
theorem dX4_plan_13 : decode cX4_plan 13 = .ok (.getfield 133, 3) := by decide +kernel
theorem dX4_plan_16 : decode cX4_plan 16 = .ok (.ifCond .ne 13, 3) := by decide +kernel
theorem dX4_plan_19 : decode cX4_plan 19 = .ok (.iload_n 1, 1) := by decide +kernel
theorem dX4_plan_20 : decode cX4_plan 20 = .ok (.ifCond .ne 7, 3) := by decide +kernel
theorem dX4_plan_23 : decode cX4_plan 23 = .ok (.iconst 0, 1) := by decide +kernel
theorem dX4_plan_24 : decode cX4_plan 24 = .ok (.goto 4, 3) := by decide +kernel
theorem dX4_plan_27 : decode cX4_plan 27 = .ok (.iconst (-1), 1) := by decide +kernel
theorem dX4_plan_28 : decode cX4_plan 28 = .ok (.ireturn, 1) := by decide +kernel
theorem dX4_plan_29 : decode cX4_plan 29 = .ok (.aload_n 0, 1) := by decide +kernel
theorem dX4_plan_30 : decode cX4_plan 30 = .ok (.getfield 50, 3) := by decide +kernel
theorem dX4_plan_33 : decode cX4_plan 33 = .ok (.aload_n 0, 1) := by decide +kernel
theorem dX4_plan_34 : decode cX4_plan 34 = .ok (.getfield 10, 3) := by decide +kernel
theorem dX4_plan_37 : decode cX4_plan 37 = .ok (.aload_n 0, 1) := by decide +kernel
theorem dX4_plan_38 : decode cX4_plan 38 = .ok (.getfield 29, 3) := by decide +kernel
theorem dX4_plan_41 : decode cX4_plan 41 = .ok (.aload_n 0, 1) := by decide +kernel
theorem dX4_plan_42 : decode cX4_plan 42 = .ok (.getfield 133, 3) := by decide +kernel
theorem dX4_plan_45 : decode cX4_plan 45 = .ok (.invokevirtual 202, 3) := by decide +kernel
theorem dX4_plan_48 : decode cX4_plan 48 = .ok (.ifCond .ne 5, 3) := by decide +kernel
theorem dX4_plan_51 : decode cX4_plan 51 = .ok (.iconst (-1), 1) := by decide +kernel
theorem dX4_plan_52 : decode cX4_plan 52 = .ok (.ireturn, 1) := by decide +kernel
theorem dX4_plan_53 : decode cX4_plan 53 = .ok (.iload_n 1, 1) := by decide +kernel
theorem dX4_plan_54 : decode cX4_plan 54 = .ok (.lookupswitch 42 #[(0, 26), (1, 34)], 26) := by decide +kernel
theorem dX4_plan_80 : decode cX4_plan 80 = .ok (.aload_n 0, 1) := by decide +kernel
theorem dX4_plan_81 : decode cX4_plan 81 = .ok (.getfield 50, 3) := by decide +kernel
theorem dX4_plan_84 : decode cX4_plan 84 = .ok (.getfield 206, 3) := by decide +kernel
theorem dX4_plan_87 : decode cX4_plan 87 = .ok (.ireturn, 1) := by decide +kernel
theorem dX4_plan_88 : decode cX4_plan 88 = .ok (.aload_n 0, 1) := by decide +kernel
theorem dX4_plan_89 : decode cX4_plan 89 = .ok (.getfield 50, 3) := by decide +kernel
theorem dX4_plan_92 : decode cX4_plan 92 = .ok (.getfield 209, 3) := by decide +kernel
theorem dX4_plan_95 : decode cX4_plan 95 = .ok (.ireturn, 1) := by decide +kernel
theorem dX4_plan_96 : decode cX4_plan 96 = .ok (.aload_n 0, 1) := by decide +kernel
theorem dX4_plan_97 : decode cX4_plan 97 = .ok (.getfield 50, 3) := by decide +kernel
theorem dX4_plan_100 : decode cX4_plan 100 = .ok (.getfield 212, 3) := by decide +kernel
theorem dX4_plan_103 : decode cX4_plan 103 = .ok (.ireturn, 1) := by decide +kernel
theorem dX4_price_0 : decode cX4_price 0 = .ok (.iload_n 1, 1) := by decide +kernel
theorem dX4_price_1 : decode cX4_price 1 = .ok (.aload_n 0, 1) := by decide +kernel
theorem dX4_price_2 : decode cX4_price 2 = .ok (.getfield 29, 3) := by decide +kernel
theorem dX4_price_5 : decode cX4_price 5 = .ok (.getfield 150, 3) := by decide +kernel
theorem dX4_price_8 : decode cX4_price 8 = .ok (.if_icmp .lt 9, 3) := by decide +kernel
theorem dX4_price_11 : decode cX4_price 11 = .ok (.iload_n 1, 1) := by decide +kernel
theorem dX4_price_12 : decode cX4_price 12 = .ok (.bipush 24, 2) := by decide +kernel
theorem dX4_price_14 : decode cX4_price 14 = .ok (.if_icmp .le 6, 3) := by decide +kernel
theorem dX4_price_17 : decode cX4_price 17 = .ok (.bipush (-3), 2) := by decide +kernel
theorem dX4_price_19 : decode cX4_price 19 = .ok (.ireturn, 1) := by decide +kernel
theorem dX4_price_20 : decode cX4_price 20 = .ok (.aload_n 0, 1) := by decide +kernel
theorem dX4_price_21 : decode cX4_price 21 = .ok (.getfield 33, 3) := by decide +kernel
theorem dX4_price_24 : decode cX4_price 24 = .ok (.aload_n 0, 1) := by decide +kernel
theorem dX4_price_25 : decode cX4_price 25 = .ok (.getfield 29, 3) := by decide +kernel
theorem dX4_price_28 : decode cX4_price 28 = .ok (.invokevirtual 172, 3) := by decide +kernel
theorem dX4_price_31 : decode cX4_price 31 = .ok (.aload_n 0, 1) := by decide +kernel
theorem dX4_price_32 : decode cX4_price 32 = .ok (.getfield 29, 3) := by decide +kernel
theorem dX4_price_35 : decode cX4_price 35 = .ok (.getfield 150, 3) := by decide +kernel
theorem dX4_price_38 : decode cX4_price 38 = .ok (.istore_n 2, 1) := by decide +kernel
theorem dX4_price_39 : decode cX4_price 39 = .ok (.iload_n 2, 1) := by decide +kernel
theorem dX4_price_40 : decode cX4_price 40 = .ok (.iload_n 1, 1) := by decide +kernel
theorem dX4_price_41 : decode cX4_price 41 = .ok (.if_icmp .ge 20, 3) := by decide +kernel
theorem dX4_price_44 : decode cX4_price 44 = .ok (.aload_n 0, 1) := by decide +kernel
theorem dX4_price_45 : decode cX4_price 45 = .ok (.getfield 33, 3) := by decide +kernel
theorem dX4_price_48 : decode cX4_price 48 = .ok (.aload_n 0, 1) := by decide +kernel
theorem dX4_price_49 : decode cX4_price 49 = .ok (.getfield 10, 3) := by decide +kernel
theorem dX4_price_52 : decode cX4_price 52 = .ok (.invokevirtual 166, 3) := by decide +kernel
theorem dX4_price_55 : decode cX4_price 55 = .ok (.iinc 2 1, 3) := by decide +kernel
theorem dX4_price_58 : decode cX4_price 58 = .ok (.goto (-19), 3) := by decide +kernel
theorem dX4_price_61 : decode cX4_price 61 = .ok (.aload_n 0, 1) := by decide +kernel
theorem dX4_price_62 : decode cX4_price 62 = .ok (.getfield 33, 3) := by decide +kernel
theorem dX4_price_65 : decode cX4_price 65 = .ok (.aload_n 0, 1) := by decide +kernel
theorem dX4_price_66 : decode cX4_price 66 = .ok (.getfield 10, 3) := by decide +kernel
theorem dX4_price_69 : decode cX4_price 69 = .ok (.invokevirtual 191, 3) := by decide +kernel
theorem dX4_price_72 : decode cX4_price 72 = .ok (.ireturn, 1) := by decide +kernel
theorem dX4_sell_0 : decode cX4_sell 0 = .ok (.iload_n 1, 1) := by decide +kernel
theorem dX4_sell_1 : decode cX4_sell 1 = .ok (.ifCond .lt 8, 3) := by decide +kernel
theorem dX4_sell_4 : decode cX4_sell 4 = .ok (.iload_n 1, 1) := by decide +kernel
theorem dX4_sell_5 : decode cX4_sell 5 = .ok (.iconst 1, 1) := by decide +kernel
theorem dX4_sell_6 : decode cX4_sell 6 = .ok (.if_icmp .le 6, 3) := by decide +kernel
theorem dX4_sell_9 : decode cX4_sell 9 = .ok (.bipush (-3), 2) := by decide +kernel
theorem dX4_sell_11 : decode cX4_sell 11 = .ok (.ireturn, 1) := by decide +kernel
theorem dX4_sell_12 : decode cX4_sell 12 = .ok (.aload_n 0, 1) := by decide +kernel
theorem dX4_sell_13 : decode cX4_sell 13 = .ok (.getfield 33, 3) := by decide +kernel
theorem dX4_sell_16 : decode cX4_sell 16 = .ok (.aload_n 0, 1) := by decide +kernel
theorem dX4_sell_17 : decode cX4_sell 17 = .ok (.getfield 29, 3) := by decide +kernel
theorem dX4_sell_20 : decode cX4_sell 20 = .ok (.invokevirtual 172, 3) := by decide +kernel
theorem dX4_sell_23 : decode cX4_sell 23 = .ok (.iconst (-1), 1) := by decide +kernel
theorem dX4_sell_24 : decode cX4_sell 24 = .ok (.istore_n 2, 1) := by decide +kernel
theorem dX4_sell_25 : decode cX4_sell 25 = .ok (.iconst (-1), 1) := by decide +kernel
theorem dX4_sell_26 : decode cX4_sell 26 = .ok (.istore_n 3, 1) := by decide +kernel
theorem dX4_sell_27 : decode cX4_sell 27 = .ok (.aload_n 0, 1) := by decide +kernel
theorem dX4_sell_28 : decode cX4_sell 28 = .ok (.getfield 29, 3) := by decide +kernel
theorem dX4_sell_31 : decode cX4_sell 31 = .ok (.getfield 150, 3) := by decide +kernel
theorem dX4_sell_34 : decode cX4_sell 34 = .ok (.istore 4, 2) := by decide +kernel
theorem dX4_sell_36 : decode cX4_sell 36 = .ok (.iload 4, 2) := by decide +kernel
theorem dX4_sell_38 : decode cX4_sell 38 = .ok (.bipush 24, 2) := by decide +kernel
theorem dX4_sell_40 : decode cX4_sell 40 = .ok (.if_icmp .gt 45, 3) := by decide +kernel
theorem dX4_sell_43 : decode cX4_sell 43 = .ok (.aload_n 0, 1) := by decide +kernel
theorem dX4_sell_44 : decode cX4_sell 44 = .ok (.getfield 33, 3) := by decide +kernel
theorem dX4_sell_47 : decode cX4_sell 47 = .ok (.aload_n 0, 1) := by decide +kernel
theorem dX4_sell_48 : decode cX4_sell 48 = .ok (.getfield 10, 3) := by decide +kernel
theorem dX4_sell_51 : decode cX4_sell 51 = .ok (.invokevirtual 191, 3) := by decide +kernel
theorem dX4_sell_54 : decode cX4_sell 54 = .ok (.istore 5, 2) := by decide +kernel
theorem dX4_sell_56 : decode cX4_sell 56 = .ok (.iload 5, 2) := by decide +kernel
theorem dX4_sell_58 : decode cX4_sell 58 = .ok (.iload_n 3, 1) := by decide +kernel
theorem dX4_sell_59 : decode cX4_sell 59 = .ok (.if_icmp .le 9, 3) := by decide +kernel
theorem dX4_sell_62 : decode cX4_sell 62 = .ok (.iload 5, 2) := by decide +kernel
theorem dX4_sell_64 : decode cX4_sell 64 = .ok (.istore_n 3, 1) := by decide +kernel
theorem dX4_sell_65 : decode cX4_sell 65 = .ok (.iload 4, 2) := by decide +kernel
theorem dX4_sell_67 : decode cX4_sell 67 = .ok (.istore_n 2, 1) := by decide +kernel
theorem dX4_sell_68 : decode cX4_sell 68 = .ok (.aload_n 0, 1) := by decide +kernel
theorem dX4_sell_69 : decode cX4_sell 69 = .ok (.getfield 33, 3) := by decide +kernel
theorem dX4_sell_72 : decode cX4_sell 72 = .ok (.aload_n 0, 1) := by decide +kernel
theorem dX4_sell_73 : decode cX4_sell 73 = .ok (.getfield 10, 3) := by decide +kernel
theorem dX4_sell_76 : decode cX4_sell 76 = .ok (.invokevirtual 166, 3) := by decide +kernel
theorem dX4_sell_79 : decode cX4_sell 79 = .ok (.iinc 4 1, 3) := by decide +kernel
theorem dX4_sell_82 : decode cX4_sell 82 = .ok (.goto (-46), 3) := by decide +kernel
theorem dX4_sell_85 : decode cX4_sell 85 = .ok (.iload_n 1, 1) := by decide +kernel
theorem dX4_sell_86 : decode cX4_sell 86 = .ok (.ifCond .ne 7, 3) := by decide +kernel
theorem dX4_sell_89 : decode cX4_sell 89 = .ok (.iload_n 2, 1) := by decide +kernel
theorem dX4_sell_90 : decode cX4_sell 90 = .ok (.goto 4, 3) := by decide +kernel
theorem dX4_sell_93 : decode cX4_sell 93 = .ok (.iload_n 3, 1) := by decide +kernel
theorem dX4_sell_94 : decode cX4_sell 94 = .ok (.ireturn, 1) := by decide +kernel
theorem dX4_thief_0 : decode cX4_thief 0 = .ok (.iload_n 1, 1) := by decide +kernel
theorem dX4_thief_1 : decode cX4_thief 1 = .ok (.ifCond .lt 8, 3) := by decide +kernel
theorem dX4_thief_4 : decode cX4_thief 4 = .ok (.iload_n 1, 1) := by decide +kernel
theorem dX4_thief_5 : decode cX4_thief 5 = .ok (.iconst 2, 1) := by decide +kernel
theorem dX4_thief_6 : decode cX4_thief 6 = .ok (.if_icmp .le 6, 3) := by decide +kernel
theorem dX4_thief_9 : decode cX4_thief 9 = .ok (.bipush (-3), 2) := by decide +kernel
theorem dX4_thief_11 : decode cX4_thief 11 = .ok (.ireturn, 1) := by decide +kernel
theorem dX4_thief_12 : decode cX4_thief 12 = .ok (.iconst 0, 1) := by decide +kernel
theorem dX4_thief_13 : decode cX4_thief 13 = .ok (.istore_n 2, 1) := by decide +kernel
theorem dX4_thief_14 : decode cX4_thief 14 = .ok (.iconst (-1), 1) := by decide +kernel
theorem dX4_thief_15 : decode cX4_thief 15 = .ok (.istore_n 3, 1) := by decide +kernel
theorem dX4_thief_16 : decode cX4_thief 16 = .ok (.iconst (-1), 1) := by decide +kernel
theorem dX4_thief_17 : decode cX4_thief 17 = .ok (.istore 4, 2) := by decide +kernel
theorem dX4_thief_19 : decode cX4_thief 19 = .ok (.iconst 0, 1) := by decide +kernel
theorem dX4_thief_20 : decode cX4_thief 20 = .ok (.istore 5, 2) := by decide +kernel
theorem dX4_thief_22 : decode cX4_thief 22 = .ok (.iload 5, 2) := by decide +kernel
theorem dX4_thief_24 : decode cX4_thief 24 = .ok (.aload_n 0, 1) := by decide +kernel
theorem dX4_thief_25 : decode cX4_thief 25 = .ok (.getfield 10, 3) := by decide +kernel
theorem dX4_thief_28 : decode cX4_thief 28 = .ok (.getfield 215, 3) := by decide +kernel
theorem dX4_thief_31 : decode cX4_thief 31 = .ok (.if_icmp .ge 52, 3) := by decide +kernel
theorem dX4_thief_34 : decode cX4_thief 34 = .ok (.iconst 0, 1) := by decide +kernel
theorem dX4_thief_35 : decode cX4_thief 35 = .ok (.istore 6, 2) := by decide +kernel
theorem dX4_thief_37 : decode cX4_thief 37 = .ok (.iload 6, 2) := by decide +kernel
theorem dX4_thief_39 : decode cX4_thief 39 = .ok (.iconst 3, 1) := by decide +kernel
theorem dX4_thief_40 : decode cX4_thief 40 = .ok (.if_icmp .ge 37, 3) := by decide +kernel
theorem dX4_thief_43 : decode cX4_thief 43 = .ok (.aload_n 0, 1) := by decide +kernel
theorem dX4_thief_44 : decode cX4_thief 44 = .ok (.iload 5, 2) := by decide +kernel
theorem dX4_thief_46 : decode cX4_thief 46 = .ok (.iload 6, 2) := by decide +kernel
theorem dX4_thief_48 : decode cX4_thief 48 = .ok (.invokevirtual 218, 3) := by decide +kernel
theorem dX4_thief_51 : decode cX4_thief 51 = .ok (.ifCond .ne 6, 3) := by decide +kernel
theorem dX4_thief_54 : decode cX4_thief 54 = .ok (.goto 17, 3) := by decide +kernel
theorem dX4_thief_57 : decode cX4_thief 57 = .ok (.iload_n 2, 1) := by decide +kernel
theorem dX4_thief_58 : decode cX4_thief 58 = .ok (.ifCond .ne 10, 3) := by decide +kernel
theorem dX4_thief_61 : decode cX4_thief 61 = .ok (.iload 5, 2) := by decide +kernel
theorem dX4_thief_63 : decode cX4_thief 63 = .ok (.istore_n 3, 1) := by decide +kernel
theorem dX4_thief_64 : decode cX4_thief 64 = .ok (.iload 6, 2) := by decide +kernel
theorem dX4_thief_66 : decode cX4_thief 66 = .ok (.istore 4, 2) := by decide +kernel
theorem dX4_thief_68 : decode cX4_thief 68 = .ok (.iinc 2 1, 3) := by decide +kernel
theorem dX4_thief_71 : decode cX4_thief 71 = .ok (.iinc 6 1, 3) := by decide +kernel
theorem dX4_thief_74 : decode cX4_thief 74 = .ok (.goto (-37), 3) := by decide +kernel
theorem dX4_thief_77 : decode cX4_thief 77 = .ok (.iinc 5 1, 3) := by decide +kernel
theorem dX4_thief_80 : decode cX4_thief 80 = .ok (.goto (-58), 3) := by decide +kernel
theorem dX4_thief_83 : decode cX4_thief 83 = .ok (.iload_n 1, 1) := by decide +kernel
theorem dX4_thief_84 : decode cX4_thief 84 = .ok (.lookupswitch 32 #[(0, 28), (1, 30)], 28) := by decide +kernel
theorem dX4_thief_112 : decode cX4_thief 112 = .ok (.iload_n 2, 1) := by decide +kernel
theorem dX4_thief_113 : decode cX4_thief 113 = .ok (.ireturn, 1) := by decide +kernel
theorem dX4_thief_114 : decode cX4_thief 114 = .ok (.iload_n 3, 1) := by decide +kernel
theorem dX4_thief_115 : decode cX4_thief 115 = .ok (.ireturn, 1) := by decide +kernel
theorem dX4_thief_116 : decode cX4_thief 116 = .ok (.iload 4, 2) := by decide +kernel
theorem dX4_thief_118 : decode cX4_thief 118 = .ok (.ireturn, 1) := by decide +kernel
theorem dX4_look_0 : decode cX4_look 0 = .ok (.aload_n 0, 1) := by decide +kernel
theorem dX4_look_1 : decode cX4_look 1 = .ok (.iload_n 1, 1) := by decide +kernel
theorem dX4_look_2 : decode cX4_look 2 = .ok (.invokevirtual 84, 3) := by decide +kernel
theorem dX4_look_5 : decode cX4_look 5 = .ok (.ifCond .ne 6, 3) := by decide +kernel
theorem dX4_look_8 : decode cX4_look 8 = .ok (.bipush (-2), 2) := by decide +kernel
theorem dX4_look_10 : decode cX4_look 10 = .ok (.ireturn, 1) := by decide +kernel
theorem dX4_look_11 : decode cX4_look 11 = .ok (.iload_n 2, 1) := by decide +kernel
theorem dX4_look_12 : decode cX4_look 12 = .ok (.ifCond .lt 23, 3) := by decide +kernel
theorem dX4_look_15 : decode cX4_look 15 = .ok (.iload_n 2, 1) := by decide +kernel
theorem dX4_look_16 : decode cX4_look 16 = .ok (.aload_n 0, 1) := by decide +kernel
theorem dX4_look_17 : decode cX4_look 17 = .ok (.getfield 29, 3) := by decide +kernel
theorem dX4_look_20 : decode cX4_look 20 = .ok (.getfield 150, 3) := by decide +kernel
theorem dX4_look_23 : decode cX4_look 23 = .ok (.if_icmp .ge 12, 3) := by decide +kernel
theorem dX4_look_26 : decode cX4_look 26 = .ok (.iload_n 3, 1) := by decide +kernel
theorem dX4_look_27 : decode cX4_look 27 = .ok (.ifCond .lt 8, 3) := by decide +kernel
theorem dX4_look_30 : decode cX4_look 30 = .ok (.iload_n 3, 1) := by decide +kernel
theorem dX4_look_31 : decode cX4_look 31 = .ok (.iconst 1, 1) := by decide +kernel
theorem dX4_look_32 : decode cX4_look 32 = .ok (.if_icmp .le 6, 3) := by decide +kernel
theorem dX4_look_35 : decode cX4_look 35 = .ok (.bipush (-3), 2) := by decide +kernel
theorem dX4_look_37 : decode cX4_look 37 = .ok (.ireturn, 1) := by decide +kernel
theorem dX4_look_38 : decode cX4_look 38 = .ok (.aload_n 0, 1) := by decide +kernel
theorem dX4_look_39 : decode cX4_look 39 = .ok (.getfield 221, 3) := by decide +kernel
theorem dX4_look_42 : decode cX4_look 42 = .ok (.bipush 6, 2) := by decide +kernel
theorem dX4_look_44 : decode cX4_look 44 = .ok (.if_icmp .lt 6, 3) := by decide +kernel
theorem dX4_look_47 : decode cX4_look 47 = .ok (.bipush (-5), 2) := by decide +kernel
theorem dX4_look_49 : decode cX4_look 49 = .ok (.ireturn, 1) := by decide +kernel
theorem dX4_look_50 : decode cX4_look 50 = .ok (.aload_n 0, 1) := by decide +kernel
theorem dX4_look_51 : decode cX4_look 51 = .ok (.getfield 54, 3) := by decide +kernel
theorem dX4_look_54 : decode cX4_look 54 = .ok (.aload_n 0, 1) := by decide +kernel
theorem dX4_look_55 : decode cX4_look 55 = .ok (.getfield 221, 3) := by decide +kernel
theorem dX4_look_58 : decode cX4_look 58 = .ok (.iload_n 1, 1) := by decide +kernel
theorem dX4_look_59 : decode cX4_look 59 = .ok (.iastore, 1) := by decide +kernel
theorem dX4_look_60 : decode cX4_look 60 = .ok (.aload_n 0, 1) := by decide +kernel
theorem dX4_look_61 : decode cX4_look 61 = .ok (.getfield 57, 3) := by decide +kernel
theorem dX4_look_64 : decode cX4_look 64 = .ok (.aload_n 0, 1) := by decide +kernel
theorem dX4_look_65 : decode cX4_look 65 = .ok (.getfield 221, 3) := by decide +kernel
theorem dX4_look_68 : decode cX4_look 68 = .ok (.iload_n 2, 1) := by decide +kernel
theorem dX4_look_69 : decode cX4_look 69 = .ok (.iastore, 1) := by decide +kernel
theorem dX4_look_70 : decode cX4_look 70 = .ok (.aload_n 0, 1) := by decide +kernel
theorem dX4_look_71 : decode cX4_look 71 = .ok (.getfield 60, 3) := by decide +kernel
theorem dX4_look_74 : decode cX4_look 74 = .ok (.aload_n 0, 1) := by decide +kernel
theorem dX4_look_75 : decode cX4_look 75 = .ok (.getfield 221, 3) := by decide +kernel
theorem dX4_look_78 : decode cX4_look 78 = .ok (.iload_n 3, 1) := by decide +kernel
theorem dX4_look_79 : decode cX4_look 79 = .ok (.iastore, 1) := by decide +kernel
theorem dX4_look_80 : decode cX4_look 80 = .ok (.aload_n 0, 1) := by decide +kernel
theorem dX4_look_81 : decode cX4_look 81 = .ok (.dup, 1) := by decide +kernel
theorem dX4_look_82 : decode cX4_look 82 = .ok (.getfield 221, 3) := by decide +kernel
theorem dX4_look_85 : decode cX4_look 85 = .ok (.iconst 1, 1) := by decide +kernel
theorem dX4_look_86 : decode cX4_look 86 = .ok (.iadd, 1) := by decide +kernel
theorem dX4_look_87 : decode cX4_look 87 = .ok (.putfield 221, 3) := by decide +kernel
theorem dX4_look_90 : decode cX4_look 90 = .ok (.aload_n 0, 1) := by decide +kernel
theorem dX4_look_91 : decode cX4_look 91 = .ok (.getfield 221, 3) := by decide +kernel
theorem dX4_look_94 : decode cX4_look 94 = .ok (.ireturn, 1) := by decide +kernel
theorem dX4_forget_0 : decode cX4_forget 0 = .ok (.aload_n 0, 1) := by decide +kernel
theorem dX4_forget_1 : decode cX4_forget 1 = .ok (.getfield 221, 3) := by decide +kernel
theorem dX4_forget_4 : decode cX4_forget 4 = .ok (.istore_n 1, 1) := by decide +kernel
theorem dX4_forget_5 : decode cX4_forget 5 = .ok (.aload_n 0, 1) := by decide +kernel
theorem dX4_forget_6 : decode cX4_forget 6 = .ok (.iconst 0, 1) := by decide +kernel
theorem dX4_forget_7 : decode cX4_forget 7 = .ok (.putfield 221, 3) := by decide +kernel
theorem dX4_forget_10 : decode cX4_forget 10 = .ok (.iload_n 1, 1) := by decide +kernel
theorem dX4_forget_11 : decode cX4_forget 11 = .ok (.ireturn, 1) := by decide +kernel
theorem dX4_fit_0 : decode cX4_fit 0 = .ok (.aload_n 0, 1) := by decide +kernel
theorem dX4_fit_1 : decode cX4_fit 1 = .ok (.iload_n 1, 1) := by decide +kernel
theorem dX4_fit_2 : decode cX4_fit 2 = .ok (.invokevirtual 84, 3) := by decide +kernel
theorem dX4_fit_5 : decode cX4_fit 5 = .ok (.ifCond .ne 6, 3) := by decide +kernel
theorem dX4_fit_8 : decode cX4_fit 8 = .ok (.bipush (-2), 2) := by decide +kernel
theorem dX4_fit_10 : decode cX4_fit 10 = .ok (.ireturn, 1) := by decide +kernel
theorem dX4_fit_11 : decode cX4_fit 11 = .ok (.iconst 0, 1) := by decide +kernel
theorem dX4_fit_12 : decode cX4_fit 12 = .ok (.istore_n 2, 1) := by decide +kernel
theorem dX4_fit_13 : decode cX4_fit 13 = .ok (.iconst 0, 1) := by decide +kernel
theorem dX4_fit_14 : decode cX4_fit 14 = .ok (.istore_n 3, 1) := by decide +kernel
theorem dX4_fit_15 : decode cX4_fit 15 = .ok (.iload_n 3, 1) := by decide +kernel
theorem dX4_fit_16 : decode cX4_fit 16 = .ok (.aload_n 0, 1) := by decide +kernel
theorem dX4_fit_17 : decode cX4_fit 17 = .ok (.getfield 29, 3) := by decide +kernel
theorem dX4_fit_20 : decode cX4_fit 20 = .ok (.getfield 150, 3) := by decide +kernel
theorem dX4_fit_23 : decode cX4_fit 23 = .ok (.if_icmp .ge 29, 3) := by decide +kernel
theorem dX4_fit_26 : decode cX4_fit 26 = .ok (.aload_n 0, 1) := by decide +kernel
theorem dX4_fit_27 : decode cX4_fit 27 = .ok (.iload_n 1, 1) := by decide +kernel
theorem dX4_fit_28 : decode cX4_fit 28 = .ok (.iload_n 3, 1) := by decide +kernel
theorem dX4_fit_29 : decode cX4_fit 29 = .ok (.aload_n 0, 1) := by decide +kernel
theorem dX4_fit_30 : decode cX4_fit 30 = .ok (.iload_n 3, 1) := by decide +kernel
theorem dX4_fit_31 : decode cX4_fit 31 = .ok (.invokevirtual 224, 3) := by decide +kernel
theorem dX4_fit_34 : decode cX4_fit 34 = .ok (.invokevirtual 227, 3) := by decide +kernel
theorem dX4_fit_37 : decode cX4_fit 37 = .ok (.ifCond .eq 9, 3) := by decide +kernel
theorem dX4_fit_40 : decode cX4_fit 40 = .ok (.iload_n 2, 1) := by decide +kernel
theorem dX4_fit_41 : decode cX4_fit 41 = .ok (.iconst 1, 1) := by decide +kernel
theorem dX4_fit_42 : decode cX4_fit 42 = .ok (.iload_n 3, 1) := by decide +kernel
theorem dX4_fit_43 : decode cX4_fit 43 = .ok (.ishl, 1) := by decide +kernel
theorem dX4_fit_44 : decode cX4_fit 44 = .ok (.ior, 1) := by decide +kernel
theorem dX4_fit_45 : decode cX4_fit 45 = .ok (.istore_n 2, 1) := by decide +kernel
theorem dX4_fit_46 : decode cX4_fit 46 = .ok (.iinc 3 1, 3) := by decide +kernel
theorem dX4_fit_49 : decode cX4_fit 49 = .ok (.goto (-34), 3) := by decide +kernel
theorem dX4_fit_52 : decode cX4_fit 52 = .ok (.aload_n 0, 1) := by decide +kernel
theorem dX4_fit_53 : decode cX4_fit 53 = .ok (.iload_n 1, 1) := by decide +kernel
theorem dX4_fit_54 : decode cX4_fit 54 = .ok (.iconst 0, 1) := by decide +kernel
theorem dX4_fit_55 : decode cX4_fit 55 = .ok (.iconst 0, 1) := by decide +kernel
theorem dX4_fit_56 : decode cX4_fit 56 = .ok (.invokevirtual 227, 3) := by decide +kernel
theorem dX4_fit_59 : decode cX4_fit 59 = .ok (.ifCond .eq 8, 3) := by decide +kernel
theorem dX4_fit_62 : decode cX4_fit 62 = .ok (.iload_n 2, 1) := by decide +kernel
theorem dX4_fit_63 : decode cX4_fit 63 = .ok (.ldc 231, 2) := by decide +kernel
theorem dX4_fit_65 : decode cX4_fit 65 = .ok (.ior, 1) := by decide +kernel
theorem dX4_fit_66 : decode cX4_fit 66 = .ok (.istore_n 2, 1) := by decide +kernel
theorem dX4_fit_67 : decode cX4_fit 67 = .ok (.iload_n 2, 1) := by decide +kernel
theorem dX4_fit_68 : decode cX4_fit 68 = .ok (.ireturn, 1) := by decide +kernel
theorem dX4_baths_0 : decode cX4_baths 0 = .ok (.iload_n 1, 1) := by decide +kernel
theorem dX4_baths_1 : decode cX4_baths 1 = .ok (.ifCond .lt 19, 3) := by decide +kernel
theorem dX4_baths_4 : decode cX4_baths 4 = .ok (.iload_n 1, 1) := by decide +kernel
theorem dX4_baths_5 : decode cX4_baths 5 = .ok (.sipush 4096, 3) := by decide +kernel
theorem dX4_baths_8 : decode cX4_baths 8 = .ok (.if_icmp .ge 12, 3) := by decide +kernel
theorem dX4_baths_11 : decode cX4_baths 11 = .ok (.iload_n 2, 1) := by decide +kernel
theorem dX4_baths_12 : decode cX4_baths 12 = .ok (.ifCond .lt 8, 3) := by decide +kernel
theorem dX4_baths_15 : decode cX4_baths 15 = .ok (.iload_n 2, 1) := by decide +kernel
theorem dX4_baths_16 : decode cX4_baths 16 = .ok (.iconst 1, 1) := by decide +kernel
theorem dX4_baths_17 : decode cX4_baths 17 = .ok (.if_icmp .le 6, 3) := by decide +kernel
theorem dX4_baths_20 : decode cX4_baths 20 = .ok (.bipush (-3), 2) := by decide +kernel
theorem dX4_baths_22 : decode cX4_baths 22 = .ok (.ireturn, 1) := by decide +kernel
theorem dX4_baths_23 : decode cX4_baths 23 = .ok (.iload_n 1, 1) := by decide +kernel
theorem dX4_baths_24 : decode cX4_baths 24 = .ok (.aload_n 0, 1) := by decide +kernel
theorem dX4_baths_25 : decode cX4_baths 25 = .ok (.invokevirtual 232, 3) := by decide +kernel
theorem dX4_baths_28 : decode cX4_baths 28 = .ok (.iconst (-1), 1) := by decide +kernel
theorem dX4_baths_29 : decode cX4_baths 29 = .ok (.ixor, 1) := by decide +kernel
theorem dX4_baths_30 : decode cX4_baths 30 = .ok (.iand, 1) := by decide +kernel
theorem dX4_baths_31 : decode cX4_baths 31 = .ok (.istore_n 3, 1) := by decide +kernel
theorem dX4_baths_32 : decode cX4_baths 32 = .ok (.iconst (-1), 1) := by decide +kernel
theorem dX4_baths_33 : decode cX4_baths 33 = .ok (.istore 4, 2) := by decide +kernel
theorem dX4_baths_35 : decode cX4_baths 35 = .ok (.iconst (-1), 1) := by decide +kernel
theorem dX4_baths_36 : decode cX4_baths 36 = .ok (.istore 5, 2) := by decide +kernel
theorem dX4_baths_38 : decode cX4_baths 38 = .ok (.iconst 0, 1) := by decide +kernel
theorem dX4_baths_39 : decode cX4_baths 39 = .ok (.istore 6, 2) := by decide +kernel
theorem dX4_baths_41 : decode cX4_baths 41 = .ok (.iload 6, 2) := by decide +kernel
theorem dX4_baths_43 : decode cX4_baths 43 = .ok (.sipush 4096, 3) := by decide +kernel
theorem dX4_baths_46 : decode cX4_baths 46 = .ok (.if_icmp .ge 60, 3) := by decide +kernel
theorem dX4_baths_49 : decode cX4_baths 49 = .ok (.iload 6, 2) := by decide +kernel
theorem dX4_baths_51 : decode cX4_baths 51 = .ok (.invokestatic 197, 3) := by decide +kernel
theorem dX4_baths_54 : decode cX4_baths 54 = .ok (.istore 7, 2) := by decide +kernel
theorem dX4_baths_56 : decode cX4_baths 56 = .ok (.iload 6, 2) := by decide +kernel
theorem dX4_baths_58 : decode cX4_baths 58 = .ok (.iload_n 1, 1) := by decide +kernel
theorem dX4_baths_59 : decode cX4_baths 59 = .ok (.iand, 1) := by decide +kernel
theorem dX4_baths_60 : decode cX4_baths 60 = .ok (.ifCond .ne 40, 3) := by decide +kernel
theorem dX4_baths_63 : decode cX4_baths 63 = .ok (.iload 4, 2) := by decide +kernel
theorem dX4_baths_65 : decode cX4_baths 65 = .ok (.iconst (-1), 1) := by decide +kernel
theorem dX4_baths_66 : decode cX4_baths 66 = .ok (.if_icmp .eq 13, 3) := by decide +kernel
theorem dX4_baths_69 : decode cX4_baths 69 = .ok (.iload 7, 2) := by decide +kernel
theorem dX4_baths_71 : decode cX4_baths 71 = .ok (.iload 4, 2) := by decide +kernel
theorem dX4_baths_73 : decode cX4_baths 73 = .ok (.if_icmp .lt 6, 3) := by decide +kernel
theorem dX4_baths_76 : decode cX4_baths 76 = .ok (.goto 24, 3) := by decide +kernel
theorem dX4_baths_79 : decode cX4_baths 79 = .ok (.iload_n 3, 1) := by decide +kernel
theorem dX4_baths_80 : decode cX4_baths 80 = .ok (.aload_n 0, 1) := by decide +kernel
theorem dX4_baths_81 : decode cX4_baths 81 = .ok (.iload 6, 2) := by decide +kernel
theorem dX4_baths_83 : decode cX4_baths 83 = .ok (.invokevirtual 235, 3) := by decide +kernel
theorem dX4_baths_86 : decode cX4_baths 86 = .ok (.iconst (-1), 1) := by decide +kernel
theorem dX4_baths_87 : decode cX4_baths 87 = .ok (.ixor, 1) := by decide +kernel
theorem dX4_baths_88 : decode cX4_baths 88 = .ok (.iand, 1) := by decide +kernel
theorem dX4_baths_89 : decode cX4_baths 89 = .ok (.ifCond .ne 11, 3) := by decide +kernel
theorem dX4_baths_92 : decode cX4_baths 92 = .ok (.iload 7, 2) := by decide +kernel
theorem dX4_baths_94 : decode cX4_baths 94 = .ok (.istore 4, 2) := by decide +kernel
theorem dX4_baths_96 : decode cX4_baths 96 = .ok (.iload 6, 2) := by decide +kernel
theorem dX4_baths_98 : decode cX4_baths 98 = .ok (.istore 5, 2) := by decide +kernel
theorem dX4_baths_100 : decode cX4_baths 100 = .ok (.iinc 6 1, 3) := by decide +kernel
theorem dX4_baths_103 : decode cX4_baths 103 = .ok (.goto (-62), 3) := by decide +kernel
theorem dX4_baths_106 : decode cX4_baths 106 = .ok (.iload_n 2, 1) := by decide +kernel
theorem dX4_baths_107 : decode cX4_baths 107 = .ok (.ifCond .ne 8, 3) := by decide +kernel
theorem dX4_baths_110 : decode cX4_baths 110 = .ok (.iload 4, 2) := by decide +kernel
theorem dX4_baths_112 : decode cX4_baths 112 = .ok (.goto 5, 3) := by decide +kernel
theorem dX4_baths_115 : decode cX4_baths 115 = .ok (.iload 5, 2) := by decide +kernel
theorem dX4_baths_117 : decode cX4_baths 117 = .ok (.ireturn, 1) := by decide +kernel
theorem dX4_slips_0 : decode cX4_slips 0 = .ok (.iload_n 1, 1) := by decide +kernel
theorem dX4_slips_1 : decode cX4_slips 1 = .ok (.ifCond .lt 19, 3) := by decide +kernel
theorem dX4_slips_4 : decode cX4_slips 4 = .ok (.iload_n 1, 1) := by decide +kernel
theorem dX4_slips_5 : decode cX4_slips 5 = .ok (.bipush 10, 2) := by decide +kernel
theorem dX4_slips_7 : decode cX4_slips 7 = .ok (.if_icmp .gt 13, 3) := by decide +kernel
theorem dX4_slips_10 : decode cX4_slips 10 = .ok (.iload_n 2, 1) := by decide +kernel
theorem dX4_slips_11 : decode cX4_slips 11 = .ok (.ifCond .lt 9, 3) := by decide +kernel
theorem dX4_slips_14 : decode cX4_slips 14 = .ok (.iload_n 2, 1) := by decide +kernel
theorem dX4_slips_15 : decode cX4_slips 15 = .ok (.bipush 6, 2) := by decide +kernel
theorem dX4_slips_17 : decode cX4_slips 17 = .ok (.if_icmp .le 7, 3) := by decide +kernel
theorem dX4_slips_20 : decode cX4_slips 20 = .ok (.ldc2_w 238, 3) := by decide +kernel
theorem dX4_slips_23 : decode cX4_slips 23 = .ok (.lreturn, 1) := by decide +kernel
theorem dX4_slips_24 : decode cX4_slips 24 = .ok (.iload_n 3, 1) := by decide +kernel
theorem dX4_slips_25 : decode cX4_slips 25 = .ok (.ifCond .lt 20, 3) := by decide +kernel
theorem dX4_slips_28 : decode cX4_slips 28 = .ok (.iload_n 3, 1) := by decide +kernel
theorem dX4_slips_29 : decode cX4_slips 29 = .ok (.bipush 6, 2) := by decide +kernel
theorem dX4_slips_31 : decode cX4_slips 31 = .ok (.if_icmp .gt 14, 3) := by decide +kernel
theorem dX4_slips_34 : decode cX4_slips 34 = .ok (.iload 4, 2) := by decide +kernel
theorem dX4_slips_36 : decode cX4_slips 36 = .ok (.ifCond .lt 9, 3) := by decide +kernel
theorem dX4_slips_39 : decode cX4_slips 39 = .ok (.iload 4, 2) := by decide +kernel
theorem dX4_slips_41 : decode cX4_slips 41 = .ok (.iconst 1, 1) := by decide +kernel
theorem dX4_slips_42 : decode cX4_slips 42 = .ok (.if_icmp .le 7, 3) := by decide +kernel
theorem dX4_slips_45 : decode cX4_slips 45 = .ok (.ldc2_w 238, 3) := by decide +kernel
theorem dX4_slips_48 : decode cX4_slips 48 = .ok (.lreturn, 1) := by decide +kernel
theorem dX4_slips_49 : decode cX4_slips 49 = .ok (.lconst 0, 1) := by decide +kernel
theorem dX4_slips_50 : decode cX4_slips 50 = .ok (.lstore 5, 2) := by decide +kernel
theorem dX4_slips_52 : decode cX4_slips 52 = .ok (.lconst 1, 1) := by decide +kernel
theorem dX4_slips_53 : decode cX4_slips 53 = .ok (.lstore 7, 2) := by decide +kernel
theorem dX4_slips_55 : decode cX4_slips 55 = .ok (.iconst 0, 1) := by decide +kernel
theorem dX4_slips_56 : decode cX4_slips 56 = .ok (.istore 9, 2) := by decide +kernel
theorem dX4_slips_58 : decode cX4_slips 58 = .ok (.iload 9, 2) := by decide +kernel
theorem dX4_slips_60 : decode cX4_slips 60 = .ok (.iload_n 2, 1) := by decide +kernel
theorem dX4_slips_61 : decode cX4_slips 61 = .ok (.if_icmp .gt 57, 3) := by decide +kernel
theorem dX4_slips_64 : decode cX4_slips 64 = .ok (.iload 9, 2) := by decide +kernel
theorem dX4_slips_66 : decode cX4_slips 66 = .ok (.iload_n 3, 1) := by decide +kernel
theorem dX4_slips_67 : decode cX4_slips 67 = .ok (.if_icmp .gt 51, 3) := by decide +kernel
theorem dX4_slips_70 : decode cX4_slips 70 = .ok (.lload 5, 2) := by decide +kernel
theorem dX4_slips_72 : decode cX4_slips 72 = .ok (.lload 7, 2) := by decide +kernel
theorem dX4_slips_74 : decode cX4_slips 74 = .ok (.iload_n 1, 1) := by decide +kernel
theorem dX4_slips_75 : decode cX4_slips 75 = .ok (.iload 9, 2) := by decide +kernel

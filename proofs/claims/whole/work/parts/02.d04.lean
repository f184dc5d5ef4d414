theorem dX5_town_61 : decode cX5_town 61 = .ok (.istore 8, 2) := by decide +kernel
theorem dX5_town_63 : decode cX5_town 63 = .ok (.iload 8, 2) := by decide +kernel
theorem dX5_town_65 : decode cX5_town 65 = .ok (.aload_n 0, 1) := by decide +kernel
theorem dX5_town_66 : decode cX5_town 66 = .ok (.getfield 72, 3) := by decide +kernel
theorem dX5_town_69 : decode cX5_town 69 = .ok (.if_icmp .ge 116, 3) := by decide +kernel
theorem dX5_town_72 : decode cX5_town 72 = .ok (.iload 5, 2) := by decide +kernel
theorem dX5_town_74 : decode cX5_town 74 = .ok (.iload 8, 2) := by decide +kernel
theorem dX5_town_76 : decode cX5_town 76 = .ok (.invokestatic 177, 3) := by decide +kernel
theorem dX5_town_79 : decode cX5_town 79 = .ok (.ifCond .eq 57, 3) := by decide +kernel
theorem dX5_town_82 : decode cX5_town 82 = .ok (.iload 6, 2) := by decide +kernel
theorem dX5_town_84 : decode cX5_town 84 = .ok (.ifCond .eq 41, 3) := by decide +kernel
theorem dX5_town_87 : decode cX5_town 87 = .ok (.aload_n 0, 1) := by decide +kernel
theorem dX5_town_88 : decode cX5_town 88 = .ok (.getfield 32, 3) := by decide +kernel
theorem dX5_town_91 : decode cX5_town 91 = .ok (.iload 8, 2) := by decide +kernel
theorem dX5_town_93 : decode cX5_town 93 = .ok (.iaload, 1) := by decide +kernel
theorem dX5_town_94 : decode cX5_town 94 = .ok (.iconst 2, 1) := by decide +kernel
theorem dX5_town_95 : decode cX5_town 95 = .ok (.if_icmp .ge 30, 3) := by decide +kernel
theorem dX5_town_98 : decode cX5_town 98 = .ok (.aload_n 0, 1) := by decide +kernel
theorem dX5_town_99 : decode cX5_town 99 = .ok (.aload_n 0, 1) := by decide +kernel
theorem dX5_town_100 : decode cX5_town 100 = .ok (.getfield 32, 3) := by decide +kernel
theorem dX5_town_103 : decode cX5_town 103 = .ok (.iload 8, 2) := by decide +kernel
theorem dX5_town_105 : decode cX5_town 105 = .ok (.invokevirtual 189, 3) := by decide +kernel
theorem dX5_town_108 : decode cX5_town 108 = .ok (.ifCond .eq 17, 3) := by decide +kernel
theorem dX5_town_111 : decode cX5_town 111 = .ok (.aload_n 0, 1) := by decide +kernel
theorem dX5_town_112 : decode cX5_town 112 = .ok (.iload 8, 2) := by decide +kernel
theorem dX5_town_114 : decode cX5_town 114 = .ok (.invokevirtual 199, 3) := by decide +kernel
theorem dX5_town_117 : decode cX5_town 117 = .ok (.iconst 3, 1) := by decide +kernel
theorem dX5_town_118 : decode cX5_town 118 = .ok (.if_icmp .eq 7, 3) := by decide +kernel
theorem dX5_town_121 : decode cX5_town 121 = .ok (.iconst 1, 1) := by decide +kernel
theorem dX5_town_122 : decode cX5_town 122 = .ok (.goto 4, 3) := by decide +kernel
theorem dX5_town_125 : decode cX5_town 125 = .ok (.iconst 0, 1) := by decide +kernel
theorem dX5_town_126 : decode cX5_town 126 = .ok (.istore 6, 2) := by decide +kernel
theorem dX5_town_128 : decode cX5_town 128 = .ok (.aload_n 0, 1) := by decide +kernel
theorem dX5_town_129 : decode cX5_town 129 = .ok (.getfield 35, 3) := by decide +kernel
theorem dX5_town_132 : decode cX5_town 132 = .ok (.iload 8, 2) := by decide +kernel
theorem dX5_town_134 : decode cX5_town 134 = .ok (.iconst 2, 1) := by decide +kernel
theorem dX5_town_135 : decode cX5_town 135 = .ok (.iastore, 1) := by decide +kernel
theorem dX5_town_136 : decode cX5_town 136 = .ok (.iload 7, 2) := by decide +kernel
theorem dX5_town_138 : decode cX5_town 138 = .ok (.aload_n 0, 1) := by decide +kernel
theorem dX5_town_139 : decode cX5_town 139 = .ok (.iload 8, 2) := by decide +kernel
theorem dX5_town_141 : decode cX5_town 141 = .ok (.invokevirtual 199, 3) := by decide +kernel
theorem dX5_town_144 : decode cX5_town 144 = .ok (.iconst 2, 1) := by decide +kernel
theorem dX5_town_145 : decode cX5_town 145 = .ok (.if_icmp .ne 30, 3) := by decide +kernel
theorem dX5_town_148 : decode cX5_town 148 = .ok (.aload_n 0, 1) := by decide +kernel
theorem dX5_town_149 : decode cX5_town 149 = .ok (.aload_n 0, 1) := by decide +kernel
theorem dX5_town_150 : decode cX5_town 150 = .ok (.getfield 32, 3) := by decide +kernel
theorem dX5_town_153 : decode cX5_town 153 = .ok (.iload 8, 2) := by decide +kernel
theorem dX5_town_155 : decode cX5_town 155 = .ok (.invokevirtual 189, 3) := by decide +kernel
theorem dX5_town_158 : decode cX5_town 158 = .ok (.ifCond .eq 17, 3) := by decide +kernel
theorem dX5_town_161 : decode cX5_town 161 = .ok (.aload_n 0, 1) := by decide +kernel
theorem dX5_town_162 : decode cX5_town 162 = .ok (.getfield 35, 3) := by decide +kernel
theorem dX5_town_165 : decode cX5_town 165 = .ok (.iload 8, 2) := by decide +kernel
theorem dX5_town_167 : decode cX5_town 167 = .ok (.iaload, 1) := by decide +kernel
theorem dX5_town_168 : decode cX5_town 168 = .ok (.ifCond .ne 7, 3) := by decide +kernel
theorem dX5_town_171 : decode cX5_town 171 = .ok (.iconst 1, 1) := by decide +kernel
theorem dX5_town_172 : decode cX5_town 172 = .ok (.goto 4, 3) := by decide +kernel
theorem dX5_town_175 : decode cX5_town 175 = .ok (.iconst 0, 1) := by decide +kernel
theorem dX5_town_176 : decode cX5_town 176 = .ok (.iadd, 1) := by decide +kernel
theorem dX5_town_177 : decode cX5_town 177 = .ok (.istore 7, 2) := by decide +kernel
theorem dX5_town_179 : decode cX5_town 179 = .ok (.iinc 8 1, 3) := by decide +kernel
theorem dX5_town_182 : decode cX5_town 182 = .ok (.goto (-119), 3) := by decide +kernel
theorem dX5_town_185 : decode cX5_town 185 = .ok (.iload 6, 2) := by decide +kernel
theorem dX5_town_187 : decode cX5_town 187 = .ok (.ifCond .eq 25, 3) := by decide +kernel
theorem dX5_town_190 : decode cX5_town 190 = .ok (.iload 7, 2) := by decide +kernel
theorem dX5_town_192 : decode cX5_town 192 = .ok (.iload_n 1, 1) := by decide +kernel
theorem dX5_town_193 : decode cX5_town 193 = .ok (.if_icmp .lt 19, 3) := by decide +kernel
theorem dX5_town_196 : decode cX5_town 196 = .ok (.aload_n 0, 1) := by decide +kernel
theorem dX5_town_197 : decode cX5_town 197 = .ok (.aload_n 0, 1) := by decide +kernel
theorem dX5_town_198 : decode cX5_town 198 = .ok (.getfield 35, 3) := by decide +kernel
theorem dX5_town_201 : decode cX5_town 201 = .ok (.invokevirtual 235, 3) := by decide +kernel
theorem dX5_town_204 : decode cX5_town 204 = .ok (.iconst (-1), 1) := by decide +kernel
theorem dX5_town_205 : decode cX5_town 205 = .ok (.if_icmp .ne 7, 3) := by decide +kernel
theorem dX5_town_208 : decode cX5_town 208 = .ok (.iconst 1, 1) := by decide +kernel
theorem dX5_town_209 : decode cX5_town 209 = .ok (.goto 4, 3) := by decide +kernel
theorem dX5_town_212 : decode cX5_town 212 = .ok (.iconst 0, 1) := by decide +kernel
theorem dX5_town_213 : decode cX5_town 213 = .ok (.istore 6, 2) := by decide +kernel
theorem dX5_town_215 : decode cX5_town 215 = .ok (.aload_n 0, 1) := by decide +kernel
theorem dX5_town_216 : decode cX5_town 216 = .ok (.aload_n 0, 1) := by decide +kernel
theorem dX5_town_217 : decode cX5_town 217 = .ok (.getfield 35, 3) := by decide +kernel
theorem dX5_town_220 : decode cX5_town 220 = .ok (.invokevirtual 239, 3) := by decide +kernel
theorem dX5_town_223 : decode cX5_town 223 = .ok (.istore 8, 2) := by decide +kernel
theorem dX5_town_225 : decode cX5_town 225 = .ok (.iload 6, 2) := by decide +kernel
theorem dX5_town_227 : decode cX5_town 227 = .ok (.ifCond .eq 17, 3) := by decide +kernel
theorem dX5_town_230 : decode cX5_town 230 = .ok (.iload 8, 2) := by decide +kernel
theorem dX5_town_232 : decode cX5_town 232 = .ok (.iload 4, 2) := by decide +kernel
theorem dX5_town_234 : decode cX5_town 234 = .ok (.if_icmp .le 10, 3) := by decide +kernel
theorem dX5_town_237 : decode cX5_town 237 = .ok (.iload 8, 2) := by decide +kernel
theorem dX5_town_239 : decode cX5_town 239 = .ok (.istore 4, 2) := by decide +kernel
theorem dX5_town_241 : decode cX5_town 241 = .ok (.iload 5, 2) := by decide +kernel
theorem dX5_town_243 : decode cX5_town 243 = .ok (.istore_n 3, 1) := by decide +kernel
theorem dX5_town_244 : decode cX5_town 244 = .ok (.iinc 5 1, 3) := by decide +kernel
theorem dX5_town_247 : decode cX5_town 247 = .ok (.goto (-217), 3) := by decide +kernel
theorem dX5_town_250 : decode cX5_town 250 = .ok (.iload_n 2, 1) := by decide +kernel
theorem dX5_town_251 : decode cX5_town 251 = .ok (.ifCond .ne 8, 3) := by decide +kernel
theorem dX5_town_254 : decode cX5_town 254 = .ok (.iload 4, 2) := by decide +kernel
theorem dX5_town_256 : decode cX5_town 256 = .ok (.goto 4, 3) := by decide +kernel
theorem dX5_town_259 : decode cX5_town 259 = .ok (.iload_n 3, 1) := by decide +kernel
theorem dX5_town_260 : decode cX5_town 260 = .ok (.ireturn, 1) := by decide +kernel
theorem dX5_put_0 : decode cX5_put 0 = .ok (.aload_n 0, 1) := by decide +kernel
theorem dX5_put_1 : decode cX5_put 1 = .ok (.iload_n 1, 1) := by decide +kernel
theorem dX5_put_2 : decode cX5_put 2 = .ok (.invokevirtual 196, 3) := by decide +kernel
theorem dX5_put_5 : decode cX5_put 5 = .ok (.ifCond .ne 6, 3) := by decide +kernel
theorem dX5_put_8 : decode cX5_put 8 = .ok (.bipush (-2), 2) := by decide +kernel
theorem dX5_put_10 : decode cX5_put 10 = .ok (.ireturn, 1) := by decide +kernel
theorem dX5_put_11 : decode cX5_put 11 = .ok (.aload_n 0, 1) := by decide +kernel
theorem dX5_put_12 : decode cX5_put 12 = .ok (.getfield 78, 3) := by decide +kernel
theorem dX5_put_15 : decode cX5_put 15 = .ok (.bipush 8, 2) := by decide +kernel
theorem dX5_put_17 : decode cX5_put 17 = .ok (.if_icmp .ne 6, 3) := by decide +kernel
theorem dX5_put_20 : decode cX5_put 20 = .ok (.bipush (-5), 2) := by decide +kernel
theorem dX5_put_22 : decode cX5_put 22 = .ok (.ireturn, 1) := by decide +kernel
theorem dX5_put_23 : decode cX5_put 23 = .ok (.aload_n 0, 1) := by decide +kernel
theorem dX5_put_24 : decode cX5_put 24 = .ok (.getfield 48, 3) := by decide +kernel
theorem dX5_put_27 : decode cX5_put 27 = .ok (.aload_n 0, 1) := by decide +kernel
theorem dX5_put_28 : decode cX5_put 28 = .ok (.getfield 78, 3) := by decide +kernel
theorem dX5_put_31 : decode cX5_put 31 = .ok (.iload_n 1, 1) := by decide +kernel
theorem dX5_put_32 : decode cX5_put 32 = .ok (.iastore, 1) := by decide +kernel
theorem dX5_put_33 : decode cX5_put 33 = .ok (.aload_n 0, 1) := by decide +kernel
theorem dX5_put_34 : decode cX5_put 34 = .ok (.dup, 1) := by decide +kernel
theorem dX5_put_35 : decode cX5_put 35 = .ok (.getfield 78, 3) := by decide +kernel
theorem dX5_put_38 : decode cX5_put 38 = .ok (.iconst 1, 1) := by decide +kernel
theorem dX5_put_39 : decode cX5_put 39 = .ok (.iadd, 1) := by decide +kernel
theorem dX5_put_40 : decode cX5_put 40 = .ok (.putfield 78, 3) := by decide +kernel
theorem dX5_put_43 : decode cX5_put 43 = .ok (.aload_n 0, 1) := by decide +kernel
theorem dX5_put_44 : decode cX5_put 44 = .ok (.getfield 78, 3) := by decide +kernel
theorem dX5_put_47 : decode cX5_put 47 = .ok (.ireturn, 1) := by decide +kernel
theorem dX5_wipe_0 : decode cX5_wipe 0 = .ok (.aload_n 0, 1) := by decide +kernel
theorem dX5_wipe_1 : decode cX5_wipe 1 = .ok (.getfield 78, 3) := by decide +kernel
theorem dX5_wipe_4 : decode cX5_wipe 4 = .ok (.istore_n 1, 1) := by decide +kernel
theorem dX5_wipe_5 : decode cX5_wipe 5 = .ok (.aload_n 0, 1) := by decide +kernel
theorem dX5_wipe_6 : decode cX5_wipe 6 = .ok (.iconst 0, 1) := by decide +kernel
theorem dX5_wipe_7 : decode cX5_wipe 7 = .ok (.putfield 78, 3) := by decide +kernel
theorem dX5_wipe_10 : decode cX5_wipe 10 = .ok (.iload_n 1, 1) := by decide +kernel
theorem dX5_wipe_11 : decode cX5_wipe 11 = .ok (.ireturn, 1) := by decide +kernel
theorem dX5_goes_0 : decode cX5_goes 0 = .ok (.iload_n 1, 1) := by decide +kernel
theorem dX5_goes_1 : decode cX5_goes 1 = .ok (.iconst 0, 1) := by decide +kernel
theorem dX5_goes_2 : decode cX5_goes 2 = .ok (.iconst 1, 1) := by decide +kernel
theorem dX5_goes_3 : decode cX5_goes 3 = .ok (.invokestatic 87, 3) := by decide +kernel
theorem dX5_goes_6 : decode cX5_goes 6 = .ok (.ifCond .ne 6, 3) := by decide +kernel
theorem dX5_goes_9 : decode cX5_goes 9 = .ok (.bipush (-3), 2) := by decide +kernel
theorem dX5_goes_11 : decode cX5_goes 11 = .ok (.ireturn, 1) := by decide +kernel
theorem dX5_goes_12 : decode cX5_goes 12 = .ok (.aload_n 0, 1) := by decide +kernel
theorem dX5_goes_13 : decode cX5_goes 13 = .ok (.getfield 32, 3) := by decide +kernel
theorem dX5_goes_16 : decode cX5_goes 16 = .ok (.iconst 0, 1) := by decide +kernel
theorem dX5_goes_17 : decode cX5_goes 17 = .ok (.aload_n 0, 1) := by decide +kernel
theorem dX5_goes_18 : decode cX5_goes 18 = .ok (.getfield 35, 3) := by decide +kernel
theorem dX5_goes_21 : decode cX5_goes 21 = .ok (.iconst 0, 1) := by decide +kernel
theorem dX5_goes_22 : decode cX5_goes 22 = .ok (.invokestatic 218, 3) := by decide +kernel
theorem dX5_goes_25 : decode cX5_goes 25 = .ok (.iconst 0, 1) := by decide +kernel
theorem dX5_goes_26 : decode cX5_goes 26 = .ok (.istore_n 2, 1) := by decide +kernel
theorem dX5_goes_27 : decode cX5_goes 27 = .ok (.iload_n 2, 1) := by decide +kernel
theorem dX5_goes_28 : decode cX5_goes 28 = .ok (.aload_n 0, 1) := by decide +kernel
theorem dX5_goes_29 : decode cX5_goes 29 = .ok (.getfield 78, 3) := by decide +kernel
theorem dX5_goes_32 : decode cX5_goes 32 = .ok (.if_icmp .ge 45, 3) := by decide +kernel
theorem dX5_goes_35 : decode cX5_goes 35 = .ok (.aload_n 0, 1) := by decide +kernel
theorem dX5_goes_36 : decode cX5_goes 36 = .ok (.getfield 35, 3) := by decide +kernel
theorem dX5_goes_39 : decode cX5_goes 39 = .ok (.aload_n 0, 1) := by decide +kernel
theorem dX5_goes_40 : decode cX5_goes 40 = .ok (.getfield 48, 3) := by decide +kernel
theorem dX5_goes_43 : decode cX5_goes 43 = .ok (.iload_n 2, 1) := by decide +kernel
theorem dX5_goes_44 : decode cX5_goes 44 = .ok (.iaload, 1) := by decide +kernel
theorem dX5_goes_45 : decode cX5_goes 45 = .ok (.iconst 2, 1) := by decide +kernel
theorem dX5_goes_46 : decode cX5_goes 46 = .ok (.iastore, 1) := by decide +kernel
theorem dX5_goes_47 : decode cX5_goes 47 = .ok (.aload_n 0, 1) := by decide +kernel
theorem dX5_goes_48 : decode cX5_goes 48 = .ok (.aload_n 0, 1) := by decide +kernel
theorem dX5_goes_49 : decode cX5_goes 49 = .ok (.getfield 35, 3) := by decide +kernel
theorem dX5_goes_52 : decode cX5_goes 52 = .ok (.invokevirtual 235, 3) := by decide +kernel
theorem dX5_goes_55 : decode cX5_goes 55 = .ok (.istore_n 3, 1) := by decide +kernel
theorem dX5_goes_56 : decode cX5_goes 56 = .ok (.iload_n 3, 1) := by decide +kernel
theorem dX5_goes_57 : decode cX5_goes 57 = .ok (.iconst (-1), 1) := by decide +kernel
theorem dX5_goes_58 : decode cX5_goes 58 = .ok (.if_icmp .eq 13, 3) := by decide +kernel
theorem dX5_goes_61 : decode cX5_goes 61 = .ok (.iload_n 1, 1) := by decide +kernel
theorem dX5_goes_62 : decode cX5_goes 62 = .ok (.ifCond .ne 7, 3) := by decide +kernel
theorem dX5_goes_65 : decode cX5_goes 65 = .ok (.iload_n 2, 1) := by decide +kernel
theorem dX5_goes_66 : decode cX5_goes 66 = .ok (.goto 4, 3) := by decide +kernel
theorem dX5_goes_69 : decode cX5_goes 69 = .ok (.iload_n 3, 1) := by decide +kernel
theorem dX5_goes_70 : decode cX5_goes 70 = .ok (.ireturn, 1) := by decide +kernel
theorem dX5_goes_71 : decode cX5_goes 71 = .ok (.iinc 2 1, 3) := by decide +kernel
theorem dX5_goes_74 : decode cX5_goes 74 = .ok (.goto (-47), 3) := by decide +kernel
theorem dX5_goes_77 : decode cX5_goes 77 = .ok (.iconst (-1), 1) := by decide +kernel
theorem dX5_goes_78 : decode cX5_goes 78 = .ok (.ireturn, 1) := by decide +kernel
theorem dX5_task_0 : decode cX5_task 0 = .ok (.aload_n 0, 1) := by decide +kernel
theorem dX5_task_1 : decode cX5_task 1 = .ok (.iload_n 1, 1) := by decide +kernel
theorem dX5_task_2 : decode cX5_task 2 = .ok (.invokevirtual 196, 3) := by decide +kernel
theorem dX5_task_5 : decode cX5_task 5 = .ok (.ifCond .ne 6, 3) := by decide +kernel
theorem dX5_task_8 : decode cX5_task 8 = .ok (.bipush (-2), 2) := by decide +kernel
theorem dX5_task_10 : decode cX5_task 10 = .ok (.ireturn, 1) := by decide +kernel
theorem dX5_task_11 : decode cX5_task 11 = .ok (.aload_n 0, 1) := by decide +kernel
theorem dX5_task_12 : decode cX5_task 12 = .ok (.iload_n 1, 1) := by decide +kernel
theorem dX5_task_13 : decode cX5_task 13 = .ok (.invokevirtual 202, 3) := by decide +kernel
theorem dX5_task_16 : decode cX5_task 16 = .ok (.ifCond .eq 6, 3) := by decide +kernel
theorem dX5_task_19 : decode cX5_task 19 = .ok (.bipush (-4), 2) := by decide +kernel
theorem dX5_task_21 : decode cX5_task 21 = .ok (.ireturn, 1) := by decide +kernel
theorem dX5_task_22 : decode cX5_task 22 = .ok (.aload_n 0, 1) := by decide +kernel
theorem dX5_task_23 : decode cX5_task 23 = .ok (.getfield 81, 3) := by decide +kernel
theorem dX5_task_26 : decode cX5_task 26 = .ok (.iconst 4, 1) := by decide +kernel
theorem dX5_task_27 : decode cX5_task 27 = .ok (.if_icmp .ne 6, 3) := by decide +kernel
theorem dX5_task_30 : decode cX5_task 30 = .ok (.bipush (-5), 2) := by decide +kernel
theorem dX5_task_32 : decode cX5_task 32 = .ok (.ireturn, 1) := by decide +kernel
theorem dX5_task_33 : decode cX5_task 33 = .ok (.aload_n 0, 1) := by decide +kernel
theorem dX5_task_34 : decode cX5_task 34 = .ok (.getfield 51, 3) := by decide +kernel
theorem dX5_task_37 : decode cX5_task 37 = .ok (.aload_n 0, 1) := by decide +kernel
theorem dX5_task_38 : decode cX5_task 38 = .ok (.getfield 81, 3) := by decide +kernel
theorem dX5_task_41 : decode cX5_task 41 = .ok (.iload_n 1, 1) := by decide +kernel
theorem dX5_task_42 : decode cX5_task 42 = .ok (.iastore, 1) := by decide +kernel
theorem dX5_task_43 : decode cX5_task 43 = .ok (.aload_n 0, 1) := by decide +kernel
theorem dX5_task_44 : decode cX5_task 44 = .ok (.dup, 1) := by decide +kernel
theorem dX5_task_45 : decode cX5_task 45 = .ok (.getfield 81, 3) := by decide +kernel
theorem dX5_task_48 : decode cX5_task 48 = .ok (.iconst 1, 1) := by decide +kernel
theorem dX5_task_49 : decode cX5_task 49 = .ok (.iadd, 1) := by decide +kernel
theorem dX5_task_50 : decode cX5_task 50 = .ok (.putfield 81, 3) := by decide +kernel
theorem dX5_task_53 : decode cX5_task 53 = .ok (.aload_n 0, 1) := by decide +kernel
theorem dX5_task_54 : decode cX5_task 54 = .ok (.getfield 81, 3) := by decide +kernel
theorem dX5_task_57 : decode cX5_task 57 = .ok (.ireturn, 1) := by decide +kernel
theorem dX5_drop_0 : decode cX5_drop 0 = .ok (.aload_n 0, 1) := by decide +kernel
theorem dX5_drop_1 : decode cX5_drop 1 = .ok (.getfield 81, 3) := by decide +kernel
theorem dX5_drop_4 : decode cX5_drop 4 = .ok (.istore_n 1, 1) := by decide +kernel
theorem dX5_drop_5 : decode cX5_drop 5 = .ok (.aload_n 0, 1) := by decide +kernel
theorem dX5_drop_6 : decode cX5_drop 6 = .ok (.iconst 0, 1) := by decide +kernel
theorem dX5_drop_7 : decode cX5_drop 7 = .ok (.putfield 81, 3) := by decide +kernel
theorem dX5_drop_10 : decode cX5_drop 10 = .ok (.iload_n 1, 1) := by decide +kernel
theorem dX5_drop_11 : decode cX5_drop 11 = .ok (.ireturn, 1) := by decide +kernel
theorem dX5_placeOf_0 : decode cX5_placeOf 0 = .ok (.iload_n 0, 1) := by decide +kernel
theorem dX5_placeOf_1 : decode cX5_placeOf 1 = .ok (.bipush 10, 2) := by decide +kernel
theorem dX5_placeOf_3 : decode cX5_placeOf 3 = .ok (.imul, 1) := by decide +kernel
theorem dX5_placeOf_4 : decode cX5_placeOf 4 = .ok (.iload_n 1, 1) := by decide +kernel
theorem dX5_placeOf_5 : decode cX5_placeOf 5 = .ok (.bipush 9, 2) := by decide +kernel
theorem dX5_placeOf_7 : decode cX5_placeOf 7 = .ok (.if_icmp .le 8, 3) := by decide +kernel
theorem dX5_placeOf_10 : decode cX5_placeOf 10 = .ok (.bipush 9, 2) := by decide +kernel
theorem dX5_placeOf_12 : decode cX5_placeOf 12 = .ok (.goto 4, 3) := by decide +kernel
theorem dX5_placeOf_15 : decode cX5_placeOf 15 = .ok (.iload_n 1, 1) := by decide +kernel
theorem dX5_placeOf_16 : decode cX5_placeOf 16 = .ok (.iadd, 1) := by decide +kernel
theorem dX5_placeOf_17 : decode cX5_placeOf 17 = .ok (.bipush 16, 2) := by decide +kernel
theorem dX5_placeOf_19 : decode cX5_placeOf 19 = .ok (.imul, 1) := by decide +kernel
theorem dX5_placeOf_20 : decode cX5_placeOf 20 = .ok (.iload_n 2, 1) := by decide +kernel
theorem dX5_placeOf_21 : decode cX5_placeOf 21 = .ok (.iadd, 1) := by decide +kernel
theorem dX5_placeOf_22 : decode cX5_placeOf 22 = .ok (.bipush 8, 2) := by decide +kernel
theorem dX5_placeOf_24 : decode cX5_placeOf 24 = .ok (.imul, 1) := by decide +kernel
theorem dX5_placeOf_25 : decode cX5_placeOf 25 = .ok (.iload_n 3, 1) := by decide +kernel
theorem dX5_placeOf_26 : decode cX5_placeOf 26 = .ok (.iadd, 1) := by decide +kernel
theorem dX5_placeOf_27 : decode cX5_placeOf 27 = .ok (.ireturn, 1) := by decide +kernel
theorem dX5_goldBy_0 : decode cX5_goldBy 0 = .ok (.aload_n 0, 1) := by decide +kernel
theorem dX5_goldBy_1 : decode cX5_goldBy 1 = .ok (.iload_n 2, 1) := by decide +kernel
theorem dX5_goldBy_2 : decode cX5_goldBy 2 = .ok (.invokevirtual 211, 3) := by decide +kernel
theorem dX5_goldBy_5 : decode cX5_goldBy 5 = .ok (.istore 5, 2) := by decide +kernel
theorem dX5_goldBy_7 : decode cX5_goldBy 7 = .ok (.iload 5, 2) := by decide +kernel
theorem dX5_goldBy_9 : decode cX5_goldBy 9 = .ok (.iconst 2, 1) := by decide +kernel
theorem dX5_goldBy_10 : decode cX5_goldBy 10 = .ok (.if_icmp .eq 17, 3) := by decide +kernel
theorem dX5_goldBy_13 : decode cX5_goldBy 13 = .ok (.iload 5, 2) := by decide +kernel
theorem dX5_goldBy_15 : decode cX5_goldBy 15 = .ok (.iconst 1, 1) := by decide +kernel
theorem dX5_goldBy_16 : decode cX5_goldBy 16 = .ok (.if_icmp .ne 20, 3) := by decide +kernel
theorem dX5_goldBy_19 : decode cX5_goldBy 19 = .ok (.iload_n 1, 1) := by decide +kernel
theorem dX5_goldBy_20 : decode cX5_goldBy 20 = .ok (.aload_n 0, 1) := by decide +kernel
theorem dX5_goldBy_21 : decode cX5_goldBy 21 = .ok (.getfield 23, 3) := by decide +kernel
theorem dX5_goldBy_24 : decode cX5_goldBy 24 = .ok (.if_icmp .lt 12, 3) := by decide +kernel
theorem dX5_goldBy_27 : decode cX5_goldBy 27 = .ok (.iload 4, 2) := by decide +kernel
theorem dX5_goldBy_29 : decode cX5_goldBy 29 = .ok (.iconst 1, 1) := by decide +kernel
theorem dX5_goldBy_30 : decode cX5_goldBy 30 = .ok (.iload_n 3, 1) := by decide +kernel
theorem dX5_goldBy_31 : decode cX5_goldBy 31 = .ok (.ishl, 1) := by decide +kernel
theorem dX5_goldBy_32 : decode cX5_goldBy 32 = .ok (.ior, 1) := by decide +kernel
theorem dX5_goldBy_33 : decode cX5_goldBy 33 = .ok (.goto 5, 3) := by decide +kernel
theorem dX5_goldBy_36 : decode cX5_goldBy 36 = .ok (.iload 4, 2) := by decide +kernel
theorem dX5_goldBy_38 : decode cX5_goldBy 38 = .ok (.ireturn, 1) := by decide +kernel
theorem dX5_costBy_0 : decode cX5_costBy 0 = .ok (.iload_n 3, 1) := by decide +kernel
theorem dX5_costBy_1 : decode cX5_costBy 1 = .ok (.iload_n 1, 1) := by decide +kernel
theorem dX5_costBy_2 : decode cX5_costBy 2 = .ok (.invokestatic 177, 3) := by decide +kernel
theorem dX5_costBy_5 : decode cX5_costBy 5 = .ok (.ifCond .eq 29, 3) := by decide +kernel
theorem dX5_costBy_8 : decode cX5_costBy 8 = .ok (.iload_n 2, 1) := by decide +kernel
theorem dX5_costBy_9 : decode cX5_costBy 9 = .ok (.iload_n 1, 1) := by decide +kernel
theorem dX5_costBy_10 : decode cX5_costBy 10 = .ok (.invokestatic 177, 3) := by decide +kernel
theorem dX5_costBy_13 : decode cX5_costBy 13 = .ok (.ifCond .ne 21, 3) := by decide +kernel
theorem dX5_costBy_16 : decode cX5_costBy 16 = .ok (.aload_n 0, 1) := by decide +kernel
theorem dX5_costBy_17 : decode cX5_costBy 17 = .ok (.getfield 7, 3) := by decide +kernel
theorem dX5_costBy_20 : decode cX5_costBy 20 = .ok (.iconst 4, 1) := by decide +kernel
theorem dX5_costBy_21 : decode cX5_costBy 21 = .ok (.aload_n 0, 1) := by decide +kernel
theorem dX5_costBy_22 : decode cX5_costBy 22 = .ok (.getfield 63, 3) := by decide +kernel
theorem dX5_costBy_25 : decode cX5_costBy 25 = .ok (.iload_n 1, 1) := by decide +kernel
theorem dX5_costBy_26 : decode cX5_costBy 26 = .ok (.iaload, 1) := by decide +kernel
theorem dX5_costBy_27 : decode cX5_costBy 27 = .ok (.imul, 1) := by decide +kernel
theorem dX5_costBy_28 : decode cX5_costBy 28 = .ok (.iconst 1, 1) := by decide +kernel
theorem dX5_costBy_29 : decode cX5_costBy 29 = .ok (.iadd, 1) := by decide +kernel
theorem dX5_costBy_30 : decode cX5_costBy 30 = .ok (.iaload, 1) := by decide +kernel
theorem dX5_costBy_31 : decode cX5_costBy 31 = .ok (.goto 4, 3) := by decide +kernel
theorem dX5_costBy_34 : decode cX5_costBy 34 = .ok (.iconst 0, 1) := by decide +kernel
theorem dX5_costBy_35 : decode cX5_costBy 35 = .ok (.ireturn, 1) := by decide +kernel
theorem dX5_canDo_0 : decode cX5_canDo 0 = .ok (.iload_n 1, 1) := by decide +kernel
theorem dX5_canDo_1 : decode cX5_canDo 1 = .ok (.iconst 3, 1) := by decide +kernel
theorem dX5_canDo_2 : decode cX5_canDo 2 = .ok (.if_icmp .ge 5, 3) := by decide +kernel
theorem dX5_canDo_5 : decode cX5_canDo 5 = .ok (.iconst 1, 1) := by decide +kernel
theorem dX5_canDo_6 : decode cX5_canDo 6 = .ok (.ireturn, 1) := by decide +kernel
theorem dX5_canDo_7 : decode cX5_canDo 7 = .ok (.iload_n 1, 1) := by decide +kernel
theorem dX5_canDo_8 : decode cX5_canDo 8 = .ok (.bipush 10, 2) := by decide +kernel
theorem dX5_canDo_10 : decode cX5_canDo 10 = .ok (.irem, 1) := by decide +kernel
theorem dX5_canDo_11 : decode cX5_canDo 11 = .ok (.istore 4, 2) := by decide +kernel
theorem dX5_canDo_13 : decode cX5_canDo 13 = .ok (.iload 4, 2) := by decide +kernel
theorem dX5_canDo_15 : decode cX5_canDo 15 = .ok (.aload_n 0, 1) := by decide +kernel
theorem dX5_canDo_16 : decode cX5_canDo 16 = .ok (.getfield 81, 3) := by decide +kernel
theorem dX5_canDo_19 : decode cX5_canDo 19 = .ok (.if_icmp .ge 30, 3) := by decide +kernel
theorem dX5_canDo_22 : decode cX5_canDo 22 = .ok (.iload_n 3, 1) := by decide +kernel
theorem dX5_canDo_23 : decode cX5_canDo 23 = .ok (.iload 4, 2) := by decide +kernel
theorem dX5_canDo_25 : decode cX5_canDo 25 = .ok (.invokestatic 177, 3) := by decide +kernel
theorem dX5_canDo_28 : decode cX5_canDo 28 = .ok (.ifCond .ne 21, 3) := by decide +kernel
theorem dX5_canDo_31 : decode cX5_canDo 31 = .ok (.aload_n 0, 1) := by decide +kernel
theorem dX5_canDo_32 : decode cX5_canDo 32 = .ok (.aload_n 0, 1) := by decide +kernel
theorem dX5_canDo_33 : decode cX5_canDo 33 = .ok (.getfield 32, 3) := by decide +kernel
theorem dX5_canDo_36 : decode cX5_canDo 36 = .ok (.aload_n 0, 1) := by decide +kernel
theorem dX5_canDo_37 : decode cX5_canDo 37 = .ok (.getfield 51, 3) := by decide +kernel
theorem dX5_canDo_40 : decode cX5_canDo 40 = .ok (.iload 4, 2) := by decide +kernel
theorem dX5_canDo_42 : decode cX5_canDo 42 = .ok (.iaload, 1) := by decide +kernel
theorem dX5_canDo_43 : decode cX5_canDo 43 = .ok (.invokevirtual 189, 3) := by decide +kernel
theorem dX5_canDo_46 : decode cX5_canDo 46 = .ok (.ifCond .ne 5, 3) := by decide +kernel
theorem dX5_canDo_49 : decode cX5_canDo 49 = .ok (.iconst 0, 1) := by decide +kernel
theorem dX5_canDo_50 : decode cX5_canDo 50 = .ok (.ireturn, 1) := by decide +kernel
theorem dX5_canDo_51 : decode cX5_canDo 51 = .ok (.iload_n 1, 1) := by decide +kernel
theorem dX5_canDo_52 : decode cX5_canDo 52 = .ok (.bipush 20, 2) := by decide +kernel
theorem dX5_canDo_54 : decode cX5_canDo 54 = .ok (.if_icmp .ge 19, 3) := by decide +kernel
theorem dX5_canDo_57 : decode cX5_canDo 57 = .ok (.aload_n 0, 1) := by decide +kernel
theorem dX5_canDo_58 : decode cX5_canDo 58 = .ok (.iload_n 2, 1) := by decide +kernel
theorem dX5_canDo_59 : decode cX5_canDo 59 = .ok (.invokevirtual 211, 3) := by decide +kernel
theorem dX5_canDo_62 : decode cX5_canDo 62 = .ok (.ifCond .ne 7, 3) := by decide +kernel
theorem dX5_canDo_65 : decode cX5_canDo 65 = .ok (.iconst 1, 1) := by decide +kernel
theorem dX5_canDo_66 : decode cX5_canDo 66 = .ok (.goto 32, 3) := by decide +kernel
theorem dX5_canDo_69 : decode cX5_canDo 69 = .ok (.iconst 0, 1) := by decide +kernel
theorem dX5_canDo_70 : decode cX5_canDo 70 = .ok (.goto 28, 3) := by decide +kernel
theorem dX5_canDo_73 : decode cX5_canDo 73 = .ok (.aload_n 0, 1) := by decide +kernel
theorem dX5_canDo_74 : decode cX5_canDo 74 = .ok (.getfield 63, 3) := by decide +kernel
theorem dX5_canDo_77 : decode cX5_canDo 77 = .ok (.aload_n 0, 1) := by decide +kernel
theorem dX5_canDo_78 : decode cX5_canDo 78 = .ok (.aload_n 0, 1) := by decide +kernel
theorem dX5_canDo_79 : decode cX5_canDo 79 = .ok (.getfield 51, 3) := by decide +kernel
theorem dX5_canDo_82 : decode cX5_canDo 82 = .ok (.iload 4, 2) := by decide +kernel
theorem dX5_canDo_84 : decode cX5_canDo 84 = .ok (.iaload, 1) := by decide +kernel
theorem dX5_canDo_85 : decode cX5_canDo 85 = .ok (.invokevirtual 181, 3) := by decide +kernel
theorem dX5_canDo_88 : decode cX5_canDo 88 = .ok (.iaload, 1) := by decide +kernel
theorem dX5_canDo_89 : decode cX5_canDo 89 = .ok (.iconst (-1), 1) := by decide +kernel
theorem dX5_canDo_90 : decode cX5_canDo 90 = .ok (.if_icmp .eq 7, 3) := by decide +kernel
theorem dX5_canDo_93 : decode cX5_canDo 93 = .ok (.iconst 1, 1) := by decide +kernel
theorem dX5_canDo_94 : decode cX5_canDo 94 = .ok (.goto 4, 3) := by decide +kernel
theorem dX5_canDo_97 : decode cX5_canDo 97 = .ok (.iconst 0, 1) := by decide +kernel
theorem dX5_canDo_98 : decode cX5_canDo 98 = .ok (.ireturn, 1) := by decide +kernel
theorem dX5_behind_0 : decode cX5_behind 0 = .ok (.iload_n 1, 1) := by decide +kernel
theorem dX5_behind_1 : decode cX5_behind 1 = .ok (.bipush 20, 2) := by decide +kernel
theorem dX5_behind_3 : decode cX5_behind 3 = .ok (.if_icmp .ge 8, 3) := by decide +kernel
theorem dX5_behind_6 : decode cX5_behind 6 = .ok (.iload 5, 2) := by decide +kernel
theorem dX5_behind_8 : decode cX5_behind 8 = .ok (.goto 24, 3) := by decide +kernel
theorem dX5_behind_11 : decode cX5_behind 11 = .ok (.aload_n 0, 1) := by decide +kernel
theorem dX5_behind_12 : decode cX5_behind 12 = .ok (.iload_n 2, 1) := by decide +kernel
theorem dX5_behind_13 : decode cX5_behind 13 = .ok (.iload_n 3, 1) := by decide +kernel
theorem dX5_behind_14 : decode cX5_behind 14 = .ok (.aload_n 0, 1) := by decide +kernel
theorem dX5_behind_15 : decode cX5_behind 15 = .ok (.aload_n 0, 1) := by decide +kernel
theorem dX5_behind_16 : decode cX5_behind 16 = .ok (.getfield 51, 3) := by decide +kernel
theorem dX5_behind_19 : decode cX5_behind 19 = .ok (.iload_n 1, 1) := by decide +kernel
theorem dX5_behind_20 : decode cX5_behind 20 = .ok (.bipush 10, 2) := by decide +kernel
theorem dX5_behind_22 : decode cX5_behind 22 = .ok (.irem, 1) := by decide +kernel
theorem dX5_behind_23 : decode cX5_behind 23 = .ok (.iaload, 1) := by decide +kernel
theorem dX5_behind_24 : decode cX5_behind 24 = .ok (.invokevirtual 181, 3) := by decide +kernel
theorem dX5_behind_27 : decode cX5_behind 27 = .ok (.iload 5, 2) := by decide +kernel
theorem dX5_behind_29 : decode cX5_behind 29 = .ok (.invokevirtual 242, 3) := by decide +kernel
theorem dX5_behind_32 : decode cX5_behind 32 = .ok (.istore 6, 2) := by decide +kernel
theorem dX5_behind_34 : decode cX5_behind 34 = .ok (.iload_n 1, 1) := by decide +kernel
theorem dX5_behind_35 : decode cX5_behind 35 = .ok (.iconst 3, 1) := by decide +kernel
theorem dX5_behind_36 : decode cX5_behind 36 = .ok (.if_icmp .ge 8, 3) := by decide +kernel
theorem dX5_behind_39 : decode cX5_behind 39 = .ok (.iload 4, 2) := by decide +kernel
theorem dX5_behind_41 : decode cX5_behind 41 = .ok (.goto 12, 3) := by decide +kernel
theorem dX5_behind_44 : decode cX5_behind 44 = .ok (.iload 4, 2) := by decide +kernel
theorem dX5_behind_46 : decode cX5_behind 46 = .ok (.iconst 1, 1) := by decide +kernel
theorem dX5_behind_47 : decode cX5_behind 47 = .ok (.iload_n 1, 1) := by decide +kernel
theorem dX5_behind_48 : decode cX5_behind 48 = .ok (.bipush 10, 2) := by decide +kernel
theorem dX5_behind_50 : decode cX5_behind 50 = .ok (.irem, 1) := by decide +kernel
theorem dX5_behind_51 : decode cX5_behind 51 = .ok (.ishl, 1) := by decide +kernel
theorem dX5_behind_52 : decode cX5_behind 52 = .ok (.ior, 1) := by decide +kernel
theorem dX5_behind_53 : decode cX5_behind 53 = .ok (.istore 7, 2) := by decide +kernel
theorem dX5_behind_55 : decode cX5_behind 55 = .ok (.iload_n 2, 1) := by decide +kernel
theorem dX5_behind_56 : decode cX5_behind 56 = .ok (.iconst 1, 1) := by decide +kernel
theorem dX5_behind_57 : decode cX5_behind 57 = .ok (.iadd, 1) := by decide +kernel
theorem dX5_behind_58 : decode cX5_behind 58 = .ok (.iload_n 1, 1) := by decide +kernel
theorem dX5_behind_59 : decode cX5_behind 59 = .ok (.iconst 2, 1) := by decide +kernel
theorem dX5_behind_60 : decode cX5_behind 60 = .ok (.if_icmp .ne 7, 3) := by decide +kernel
theorem dX5_behind_63 : decode cX5_behind 63 = .ok (.iconst 1, 1) := by decide +kernel
theorem dX5_behind_64 : decode cX5_behind 64 = .ok (.goto 6, 3) := by decide +kernel
theorem dX5_behind_67 : decode cX5_behind 67 = .ok (.iload_n 3, 1) := by decide +kernel
theorem dX5_behind_68 : decode cX5_behind 68 = .ok (.iconst 1, 1) := by decide +kernel
theorem dX5_behind_69 : decode cX5_behind 69 = .ok (.iadd, 1) := by decide +kernel
theorem dX5_behind_70 : decode cX5_behind 70 = .ok (.iload 7, 2) := by decide +kernel
theorem dX5_behind_72 : decode cX5_behind 72 = .ok (.iload 6, 2) := by decide +kernel
theorem dX5_behind_74 : decode cX5_behind 74 = .ok (.invokestatic 246, 3) := by decide +kernel
theorem dX5_behind_77 : decode cX5_behind 77 = .ok (.ireturn, 1) := by decide +kernel
theorem dX5_costOf_0 : decode cX5_costOf 0 = .ok (.iload_n 1, 1) := by decide +kernel
theorem dX5_costOf_1 : decode cX5_costOf 1 = .ok (.bipush 20, 2) := by decide +kernel
theorem dX5_costOf_3 : decode cX5_costOf 3 = .ok (.if_icmp .ge 5, 3) := by decide +kernel
theorem dX5_costOf_6 : decode cX5_costOf 6 = .ok (.iconst 0, 1) := by decide +kernel
theorem dX5_costOf_7 : decode cX5_costOf 7 = .ok (.ireturn, 1) := by decide +kernel
theorem dX5_costOf_8 : decode cX5_costOf 8 = .ok (.aload_n 0, 1) := by decide +kernel
theorem dX5_costOf_9 : decode cX5_costOf 9 = .ok (.aload_n 0, 1) := by decide +kernel
theorem dX5_costOf_10 : decode cX5_costOf 10 = .ok (.getfield 51, 3) := by decide +kernel
theorem dX5_costOf_13 : decode cX5_costOf 13 = .ok (.iload_n 1, 1) := by decide +kernel
theorem dX5_costOf_14 : decode cX5_costOf 14 = .ok (.bipush 10, 2) := by decide +kernel
theorem dX5_costOf_16 : decode cX5_costOf 16 = .ok (.irem, 1) := by decide +kernel
theorem dX5_costOf_17 : decode cX5_costOf 17 = .ok (.iaload, 1) := by decide +kernel
theorem dX5_costOf_18 : decode cX5_costOf 18 = .ok (.invokevirtual 181, 3) := by decide +kernel
theorem dX5_costOf_21 : decode cX5_costOf 21 = .ok (.istore 5, 2) := by decide +kernel
theorem dX5_costOf_23 : decode cX5_costOf 23 = .ok (.aload_n 0, 1) := by decide +kernel
theorem dX5_costOf_24 : decode cX5_costOf 24 = .ok (.iload 5, 2) := by decide +kernel
theorem dX5_costOf_26 : decode cX5_costOf 26 = .ok (.iload 4, 2) := by decide +kernel
theorem dX5_costOf_28 : decode cX5_costOf 28 = .ok (.aload_n 0, 1) := by decide +kernel
theorem dX5_costOf_29 : decode cX5_costOf 29 = .ok (.iload_n 2, 1) := by decide +kernel
theorem dX5_costOf_30 : decode cX5_costOf 30 = .ok (.iload_n 3, 1) := by decide +kernel
theorem dX5_costOf_31 : decode cX5_costOf 31 = .ok (.iload 5, 2) := by decide +kernel
theorem dX5_costOf_33 : decode cX5_costOf 33 = .ok (.iload 4, 2) := by decide +kernel
theorem dX5_costOf_35 : decode cX5_costOf 35 = .ok (.invokevirtual 242, 3) := by decide +kernel
theorem dX5_costOf_38 : decode cX5_costOf 38 = .ok (.invokevirtual 249, 3) := by decide +kernel
theorem dX5_costOf_41 : decode cX5_costOf 41 = .ok (.ireturn, 1) := by decide +kernel
theorem dX5_deedAt_0 : decode cX5_deedAt 0 = .ok (.iload_n 0, 1) := by decide +kernel
theorem dX5_deedAt_1 : decode cX5_deedAt 1 = .ok (.iconst 2, 1) := by decide +kernel
theorem dX5_deedAt_2 : decode cX5_deedAt 2 = .ok (.if_icmp .ge 9, 3) := by decide +kernel
theorem dX5_deedAt_5 : decode cX5_deedAt 5 = .ok (.iconst 1, 1) := by decide +kernel
theorem dX5_deedAt_6 : decode cX5_deedAt 6 = .ok (.iload_n 0, 1) := by decide +kernel
theorem dX5_deedAt_7 : decode cX5_deedAt 7 = .ok (.iadd, 1) := by decide +kernel
theorem dX5_deedAt_8 : decode cX5_deedAt 8 = .ok (.goto 20, 3) := by decide +kernel
theorem dX5_deedAt_11 : decode cX5_deedAt 11 = .ok (.iload_n 0, 1) := by decide +kernel
theorem dX5_deedAt_12 : decode cX5_deedAt 12 = .ok (.bipush 6, 2) := by decide +kernel
theorem dX5_deedAt_14 : decode cX5_deedAt 14 = .ok (.if_icmp .ge 10, 3) := by decide +kernel
theorem dX5_deedAt_17 : decode cX5_deedAt 17 = .ok (.bipush 8, 2) := by decide +kernel
theorem dX5_deedAt_19 : decode cX5_deedAt 19 = .ok (.iload_n 0, 1) := by decide +kernel
theorem dX5_deedAt_20 : decode cX5_deedAt 20 = .ok (.iadd, 1) := by decide +kernel
theorem dX5_deedAt_21 : decode cX5_deedAt 21 = .ok (.goto 7, 3) := by decide +kernel
theorem dX5_deedAt_24 : decode cX5_deedAt 24 = .ok (.bipush 14, 2) := by decide +kernel
theorem dX5_deedAt_26 : decode cX5_deedAt 26 = .ok (.iload_n 0, 1) := by decide +kernel
theorem dX5_deedAt_27 : decode cX5_deedAt 27 = .ok (.iadd, 1) := by decide +kernel
theorem dX5_deedAt_28 : decode cX5_deedAt 28 = .ok (.ireturn, 1) := by decide +kernel
theorem dX5_layPlans_0 : decode cX5_layPlans 0 = .ok (.aload_n 0, 1) := by decide +kernel
theorem dX5_layPlans_1 : decode cX5_layPlans 1 = .ok (.iconst 0, 1) := by decide +kernel
theorem dX5_layPlans_2 : decode cX5_layPlans 2 = .ok (.putfield 253, 3) := by decide +kernel
theorem dX5_layPlans_5 : decode cX5_layPlans 5 = .ok (.iconst 0, 1) := by decide +kernel
theorem dX5_layPlans_6 : decode cX5_layPlans 6 = .ok (.istore_n 1, 1) := by decide +kernel
theorem dX5_layPlans_7 : decode cX5_layPlans 7 = .ok (.iload_n 1, 1) := by decide +kernel
theorem dX5_layPlans_8 : decode cX5_layPlans 8 = .ok (.iconst 3, 1) := by decide +kernel
theorem dX5_layPlans_9 : decode cX5_layPlans 9 = .ok (.if_icmp .ge 61, 3) := by decide +kernel
theorem dX5_layPlans_12 : decode cX5_layPlans 12 = .ok (.aload_n 0, 1) := by decide +kernel
theorem dX5_layPlans_13 : decode cX5_layPlans 13 = .ok (.getfield 63, 3) := by decide +kernel
theorem dX5_layPlans_16 : decode cX5_layPlans 16 = .ok (.iload_n 1, 1) := by decide +kernel
theorem dX5_layPlans_17 : decode cX5_layPlans 17 = .ok (.aload_n 0, 1) := by decide +kernel
theorem dX5_layPlans_18 : decode cX5_layPlans 18 = .ok (.iload_n 1, 1) := by decide +kernel
theorem dX5_layPlans_19 : decode cX5_layPlans 19 = .ok (.invokevirtual 208, 3) := by decide +kernel
theorem dX5_layPlans_22 : decode cX5_layPlans 22 = .ok (.iastore, 1) := by decide +kernel
theorem dX5_layPlans_23 : decode cX5_layPlans 23 = .ok (.aload_n 0, 1) := by decide +kernel
theorem dX5_layPlans_24 : decode cX5_layPlans 24 = .ok (.aload_n 0, 1) := by decide +kernel
theorem dX5_layPlans_25 : decode cX5_layPlans 25 = .ok (.getfield 253, 3) := by decide +kernel
theorem dX5_layPlans_28 : decode cX5_layPlans 28 = .ok (.aload_n 0, 1) := by decide +kernel
theorem dX5_layPlans_29 : decode cX5_layPlans 29 = .ok (.getfield 63, 3) := by decide +kernel
theorem dX5_layPlans_32 : decode cX5_layPlans 32 = .ok (.iload_n 1, 1) := by decide +kernel
theorem dX5_layPlans_33 : decode cX5_layPlans 33 = .ok (.iaload, 1) := by decide +kernel
theorem dX5_layPlans_34 : decode cX5_layPlans 34 = .ok (.iconst (-1), 1) := by decide +kernel
theorem dX5_layPlans_35 : decode cX5_layPlans 35 = .ok (.if_icmp .eq 24, 3) := by decide +kernel
theorem dX5_layPlans_38 : decode cX5_layPlans 38 = .ok (.aload_n 0, 1) := by decide +kernel
theorem dX5_layPlans_39 : decode cX5_layPlans 39 = .ok (.getfield 32, 3) := by decide +kernel
theorem dX5_layPlans_42 : decode cX5_layPlans 42 = .ok (.aload_n 0, 1) := by decide +kernel
theorem dX5_layPlans_43 : decode cX5_layPlans 43 = .ok (.getfield 63, 3) := by decide +kernel
theorem dX5_layPlans_46 : decode cX5_layPlans 46 = .ok (.iload_n 1, 1) := by decide +kernel
theorem dX5_layPlans_47 : decode cX5_layPlans 47 = .ok (.iaload, 1) := by decide +kernel
theorem dX5_layPlans_48 : decode cX5_layPlans 48 = .ok (.iaload, 1) := by decide +kernel
theorem dX5_layPlans_49 : decode cX5_layPlans 49 = .ok (.iconst 2, 1) := by decide +kernel
theorem dX5_layPlans_50 : decode cX5_layPlans 50 = .ok (.if_icmp .ne 9, 3) := by decide +kernel
theorem dX5_layPlans_53 : decode cX5_layPlans 53 = .ok (.iconst 1, 1) := by decide +kernel
theorem dX5_layPlans_54 : decode cX5_layPlans 54 = .ok (.iload_n 1, 1) := by decide +kernel
theorem dX5_layPlans_55 : decode cX5_layPlans 55 = .ok (.ishl, 1) := by decide +kernel
theorem dX5_layPlans_56 : decode cX5_layPlans 56 = .ok (.goto 4, 3) := by decide +kernel
theorem dX5_layPlans_59 : decode cX5_layPlans 59 = .ok (.iconst 0, 1) := by decide +kernel
theorem dX5_layPlans_60 : decode cX5_layPlans 60 = .ok (.ior, 1) := by decide +kernel
theorem dX5_layPlans_61 : decode cX5_layPlans 61 = .ok (.putfield 253, 3) := by decide +kernel
theorem dX5_layPlans_64 : decode cX5_layPlans 64 = .ok (.iinc 1 1, 3) := by decide +kernel
theorem dX5_layPlans_67 : decode cX5_layPlans 67 = .ok (.goto (-60), 3) := by decide +kernel
theorem dX5_layPlans_70 : decode cX5_layPlans 70 = .ok (.iconst 1, 1) := by decide +kernel
theorem dX5_layPlans_71 : decode cX5_layPlans 71 = .ok (.aload_n 0, 1) := by decide +kernel
theorem dX5_layPlans_72 : decode cX5_layPlans 72 = .ok (.getfield 81, 3) := by decide +kernel
theorem dX5_layPlans_75 : decode cX5_layPlans 75 = .ok (.ishl, 1) := by decide +kernel
theorem dX5_layPlans_76 : decode cX5_layPlans 76 = .ok (.iconst 1, 1) := by decide +kernel
theorem dX5_layPlans_77 : decode cX5_layPlans 77 = .ok (.isub, 1) := by decide +kernel
theorem dX5_layPlans_78 : decode cX5_layPlans 78 = .ok (.istore_n 1, 1) := by decide +kernel
theorem dX5_layPlans_79 : decode cX5_layPlans 79 = .ok (.bipush 24, 2) := by decide +kernel
theorem dX5_layPlans_81 : decode cX5_layPlans 81 = .ok (.istore_n 2, 1) := by decide +kernel
theorem dX5_layPlans_82 : decode cX5_layPlans 82 = .ok (.iload_n 2, 1) := by decide +kernel
theorem dX5_layPlans_83 : decode cX5_layPlans 83 = .ok (.aload_n 0, 1) := by decide +kernel
theorem dX5_layPlans_84 : decode cX5_layPlans 84 = .ok (.getfield 32, 3) := by decide +kernel
theorem dX5_layPlans_87 : decode cX5_layPlans 87 = .ok (.bipush 10, 2) := by decide +kernel
theorem dX5_layPlans_89 : decode cX5_layPlans 89 = .ok (.iaload, 1) := by decide +kernel
theorem dX5_layPlans_90 : decode cX5_layPlans 90 = .ok (.if_icmp .lt 263, 3) := by decide +kernel
theorem dX5_layPlans_93 : decode cX5_layPlans 93 = .ok (.iconst 0, 1) := by decide +kernel
theorem dX5_layPlans_94 : decode cX5_layPlans 94 = .ok (.istore_n 3, 1) := by decide +kernel
theorem dX5_layPlans_95 : decode cX5_layPlans 95 = .ok (.iload_n 3, 1) := by decide +kernel
theorem dX5_layPlans_96 : decode cX5_layPlans 96 = .ok (.sipush 1280, 3) := by decide +kernel
theorem dX5_layPlans_99 : decode cX5_layPlans 99 = .ok (.if_icmp .ge 248, 3) := by decide +kernel
theorem dX5_layPlans_102 : decode cX5_layPlans 102 = .ok (.iload_n 3, 1) := by decide +kernel
theorem dX5_layPlans_103 : decode cX5_layPlans 103 = .ok (.sipush 128, 3) := by decide +kernel
theorem dX5_layPlans_106 : decode cX5_layPlans 106 = .ok (.idiv, 1) := by decide +kernel
theorem dX5_layPlans_107 : decode cX5_layPlans 107 = .ok (.istore 4, 2) := by decide +kernel
theorem dX5_layPlans_109 : decode cX5_layPlans 109 = .ok (.iload_n 3, 1) := by decide +kernel
theorem dX5_layPlans_110 : decode cX5_layPlans 110 = .ok (.bipush 8, 2) := by decide +kernel
theorem dX5_layPlans_112 : decode cX5_layPlans 112 = .ok (.idiv, 1) := by decide +kernel
theorem dX5_layPlans_113 : decode cX5_layPlans 113 = .ok (.bipush 16, 2) := by decide +kernel
theorem dX5_layPlans_115 : decode cX5_layPlans 115 = .ok (.irem, 1) := by decide +kernel
theorem dX5_layPlans_116 : decode cX5_layPlans 116 = .ok (.istore 5, 2) := by decide +kernel
theorem dX5_layPlans_118 : decode cX5_layPlans 118 = .ok (.iload_n 3, 1) := by decide +kernel
theorem dX5_layPlans_119 : decode cX5_layPlans 119 = .ok (.bipush 8, 2) := by decide +kernel
theorem dX5_layPlans_121 : decode cX5_layPlans 121 = .ok (.irem, 1) := by decide +kernel
theorem dX5_layPlans_122 : decode cX5_layPlans 122 = .ok (.istore 6, 2) := by decide +kernel
theorem dX5_layPlans_124 : decode cX5_layPlans 124 = .ok (.sipush 1280, 3) := by decide +kernel
theorem dX5_layPlans_127 : decode cX5_layPlans 127 = .ok (.iload_n 2, 1) := by decide +kernel
theorem dX5_layPlans_128 : decode cX5_layPlans 128 = .ok (.imul, 1) := by decide +kernel
theorem dX5_layPlans_129 : decode cX5_layPlans 129 = .ok (.iload_n 3, 1) := by decide +kernel
theorem dX5_layPlans_130 : decode cX5_layPlans 130 = .ok (.iadd, 1) := by decide +kernel
theorem dX5_layPlans_131 : decode cX5_layPlans 131 = .ok (.istore 7, 2) := by decide +kernel
theorem dX5_layPlans_133 : decode cX5_layPlans 133 = .ok (.aload_n 0, 1) := by decide +kernel
theorem dX5_layPlans_134 : decode cX5_layPlans 134 = .ok (.getfield 57, 3) := by decide +kernel
theorem dX5_layPlans_137 : decode cX5_layPlans 137 = .ok (.iload 7, 2) := by decide +kernel
theorem dX5_layPlans_139 : decode cX5_layPlans 139 = .ok (.iload 5, 2) := by decide +kernel
theorem dX5_layPlans_141 : decode cX5_layPlans 141 = .ok (.iload_n 1, 1) := by decide +kernel
theorem dX5_layPlans_142 : decode cX5_layPlans 142 = .ok (.if_icmp .ne 7, 3) := by decide +kernel
theorem dX5_layPlans_145 : decode cX5_layPlans 145 = .ok (.iconst 0, 1) := by decide +kernel
theorem dX5_layPlans_146 : decode cX5_layPlans 146 = .ok (.goto 6, 3) := by decide +kernel
theorem dX5_layPlans_149 : decode cX5_layPlans 149 = .ok (.sipush 9999, 3) := by decide +kernel
theorem dX5_layPlans_152 : decode cX5_layPlans 152 = .ok (.iastore, 1) := by decide +kernel
theorem dX5_layPlans_153 : decode cX5_layPlans 153 = .ok (.aload_n 0, 1) := by decide +kernel
theorem dX5_layPlans_154 : decode cX5_layPlans 154 = .ok (.getfield 60, 3) := by decide +kernel
theorem dX5_layPlans_157 : decode cX5_layPlans 157 = .ok (.iload 7, 2) := by decide +kernel
theorem dX5_layPlans_159 : decode cX5_layPlans 159 = .ok (.iload 5, 2) := by decide +kernel
theorem dX5_layPlans_161 : decode cX5_layPlans 161 = .ok (.iload_n 1, 1) := by decide +kernel
theorem dX5_layPlans_162 : decode cX5_layPlans 162 = .ok (.if_icmp .ne 9, 3) := by decide +kernel
theorem dX5_layPlans_165 : decode cX5_layPlans 165 = .ok (.iload_n 2, 1) := by decide +kernel
theorem dX5_layPlans_166 : decode cX5_layPlans 166 = .ok (.iconst 1, 1) := by decide +kernel
theorem dX5_layPlans_167 : decode cX5_layPlans 167 = .ok (.isub, 1) := by decide +kernel
theorem dX5_layPlans_168 : decode cX5_layPlans 168 = .ok (.goto 6, 3) := by decide +kernel
theorem dX5_layPlans_171 : decode cX5_layPlans 171 = .ok (.sipush 9999, 3) := by decide +kernel
theorem dX5_layPlans_174 : decode cX5_layPlans 174 = .ok (.iastore, 1) := by decide +kernel
theorem dX5_layPlans_175 : decode cX5_layPlans 175 = .ok (.iconst 0, 1) := by decide +kernel
theorem dX5_layPlans_176 : decode cX5_layPlans 176 = .ok (.istore 8, 2) := by decide +kernel
theorem dX5_layPlans_178 : decode cX5_layPlans 178 = .ok (.iload 8, 2) := by decide +kernel
theorem dX5_layPlans_180 : decode cX5_layPlans 180 = .ok (.bipush 10, 2) := by decide +kernel
theorem dX5_layPlans_182 : decode cX5_layPlans 182 = .ok (.if_icmp .ge 159, 3) := by decide +kernel
theorem dX5_layPlans_185 : decode cX5_layPlans 185 = .ok (.iload_n 2, 1) := by decide +kernel
theorem dX5_layPlans_186 : decode cX5_layPlans 186 = .ok (.bipush 24, 2) := by decide +kernel
theorem dX5_layPlans_188 : decode cX5_layPlans 188 = .ok (.if_icmp .ge 153, 3) := by decide +kernel
theorem dX5_layPlans_191 : decode cX5_layPlans 191 = .ok (.iload 4, 2) := by decide +kernel
theorem dX5_layPlans_193 : decode cX5_layPlans 193 = .ok (.ifCond .le 148, 3) := by decide +kernel
theorem dX5_layPlans_196 : decode cX5_layPlans 196 = .ok (.iload 5, 2) := by decide +kernel
theorem dX5_layPlans_198 : decode cX5_layPlans 198 = .ok (.iload_n 1, 1) := by decide +kernel
theorem dX5_layPlans_199 : decode cX5_layPlans 199 = .ok (.if_icmp .ge 142, 3) := by decide +kernel
theorem dX5_layPlans_202 : decode cX5_layPlans 202 = .ok (.iload 8, 2) := by decide +kernel
theorem dX5_layPlans_204 : decode cX5_layPlans 204 = .ok (.invokestatic 256, 3) := by decide +kernel
theorem dX5_layPlans_207 : decode cX5_layPlans 207 = .ok (.istore 9, 2) := by decide +kernel
theorem dX5_layPlans_209 : decode cX5_layPlans 209 = .ok (.aload_n 0, 1) := by decide +kernel
theorem dX5_layPlans_210 : decode cX5_layPlans 210 = .ok (.iload 9, 2) := by decide +kernel
theorem dX5_layPlans_212 : decode cX5_layPlans 212 = .ok (.iload 4, 2) := by decide +kernel
theorem dX5_layPlans_214 : decode cX5_layPlans 214 = .ok (.iload 5, 2) := by decide +kernel
theorem dX5_layPlans_216 : decode cX5_layPlans 216 = .ok (.invokevirtual 259, 3) := by decide +kernel
theorem dX5_layPlans_219 : decode cX5_layPlans 219 = .ok (.ifCond .eq 116, 3) := by decide +kernel
theorem dX5_layPlans_222 : decode cX5_layPlans 222 = .ok (.aload_n 0, 1) := by decide +kernel
theorem dX5_layPlans_223 : decode cX5_layPlans 223 = .ok (.iload 9, 2) := by decide +kernel
theorem dX5_layPlans_225 : decode cX5_layPlans 225 = .ok (.iload_n 2, 1) := by decide +kernel
theorem dX5_layPlans_226 : decode cX5_layPlans 226 = .ok (.iload 4, 2) := by decide +kernel
theorem dX5_layPlans_228 : decode cX5_layPlans 228 = .ok (.iload 5, 2) := by decide +kernel
theorem dX5_layPlans_230 : decode cX5_layPlans 230 = .ok (.iload 6, 2) := by decide +kernel
theorem dX5_layPlans_232 : decode cX5_layPlans 232 = .ok (.invokevirtual 262, 3) := by decide +kernel
theorem dX5_layPlans_235 : decode cX5_layPlans 235 = .ok (.istore 10, 2) := by decide +kernel
theorem dX5_layPlans_237 : decode cX5_layPlans 237 = .ok (.aload_n 0, 1) := by decide +kernel
theorem dX5_layPlans_238 : decode cX5_layPlans 238 = .ok (.getfield 57, 3) := by decide +kernel
theorem dX5_layPlans_241 : decode cX5_layPlans 241 = .ok (.iload 10, 2) := by decide +kernel
theorem dX5_layPlans_243 : decode cX5_layPlans 243 = .ok (.iaload, 1) := by decide +kernel
theorem dX5_layPlans_244 : decode cX5_layPlans 244 = .ok (.aload_n 0, 1) := by decide +kernel
theorem dX5_layPlans_245 : decode cX5_layPlans 245 = .ok (.iload 9, 2) := by decide +kernel
theorem dX5_layPlans_247 : decode cX5_layPlans 247 = .ok (.iload_n 2, 1) := by decide +kernel
theorem dX5_layPlans_248 : decode cX5_layPlans 248 = .ok (.iload 4, 2) := by decide +kernel
theorem dX5_layPlans_250 : decode cX5_layPlans 250 = .ok (.iload 6, 2) := by decide +kernel
theorem dX5_layPlans_252 : decode cX5_layPlans 252 = .ok (.invokevirtual 266, 3) := by decide +kernel
theorem dX5_layPlans_255 : decode cX5_layPlans 255 = .ok (.iadd, 1) := by decide +kernel
theorem dX5_layPlans_256 : decode cX5_layPlans 256 = .ok (.istore 11, 2) := by decide +kernel
theorem dX5_layPlans_258 : decode cX5_layPlans 258 = .ok (.aload_n 0, 1) := by decide +kernel
theorem dX5_layPlans_259 : decode cX5_layPlans 259 = .ok (.getfield 57, 3) := by decide +kernel
theorem dX5_layPlans_262 : decode cX5_layPlans 262 = .ok (.iload 10, 2) := by decide +kernel
theorem dX5_layPlans_264 : decode cX5_layPlans 264 = .ok (.iaload, 1) := by decide +kernel
theorem dX5_layPlans_265 : decode cX5_layPlans 265 = .ok (.sipush 9999, 3) := by decide +kernel
theorem dX5_layPlans_268 : decode cX5_layPlans 268 = .ok (.if_icmp .ge 67, 3) := by decide +kernel
theorem dX5_layPlans_271 : decode cX5_layPlans 271 = .ok (.iload 11, 2) := by decide +kernel
theorem dX5_layPlans_273 : decode cX5_layPlans 273 = .ok (.aload_n 0, 1) := by decide +kernel
theorem dX5_layPlans_274 : decode cX5_layPlans 274 = .ok (.getfield 57, 3) := by decide +kernel
theorem dX5_layPlans_277 : decode cX5_layPlans 277 = .ok (.iload 7, 2) := by decide +kernel
theorem dX5_layPlans_279 : decode cX5_layPlans 279 = .ok (.iaload, 1) := by decide +kernel
theorem dX5_layPlans_280 : decode cX5_layPlans 280 = .ok (.if_icmp .lt 32, 3) := by decide +kernel
theorem dX5_layPlans_283 : decode cX5_layPlans 283 = .ok (.iload 11, 2) := by decide +kernel
theorem dX5_layPlans_285 : decode cX5_layPlans 285 = .ok (.aload_n 0, 1) := by decide +kernel
theorem dX5_layPlans_286 : decode cX5_layPlans 286 = .ok (.getfield 57, 3) := by decide +kernel
theorem dX5_layPlans_289 : decode cX5_layPlans 289 = .ok (.iload 7, 2) := by decide +kernel
theorem dX5_layPlans_291 : decode cX5_layPlans 291 = .ok (.iaload, 1) := by decide +kernel
theorem dX5_layPlans_292 : decode cX5_layPlans 292 = .ok (.if_icmp .ne 43, 3) := by decide +kernel
theorem dX5_layPlans_295 : decode cX5_layPlans 295 = .ok (.aload_n 0, 1) := by decide +kernel
theorem dX5_layPlans_296 : decode cX5_layPlans 296 = .ok (.getfield 60, 3) := by decide +kernel
theorem dX5_layPlans_299 : decode cX5_layPlans 299 = .ok (.iload 10, 2) := by decide +kernel
theorem dX5_layPlans_301 : decode cX5_layPlans 301 = .ok (.iaload, 1) := by decide +kernel
theorem dX5_layPlans_302 : decode cX5_layPlans 302 = .ok (.aload_n 0, 1) := by decide +kernel
theorem dX5_layPlans_303 : decode cX5_layPlans 303 = .ok (.getfield 60, 3) := by decide +kernel
theorem dX5_layPlans_306 : decode cX5_layPlans 306 = .ok (.iload 7, 2) := by decide +kernel
theorem dX5_layPlans_308 : decode cX5_layPlans 308 = .ok (.iaload, 1) := by decide +kernel
theorem dX5_layPlans_309 : decode cX5_layPlans 309 = .ok (.if_icmp .ge 26, 3) := by decide +kernel
theorem dX5_layPlans_312 : decode cX5_layPlans 312 = .ok (.aload_n 0, 1) := by decide +kernel
theorem dX5_layPlans_313 : decode cX5_layPlans 313 = .ok (.getfield 57, 3) := by decide +kernel
theorem dX5_layPlans_316 : decode cX5_layPlans 316 = .ok (.iload 7, 2) := by decide +kernel
theorem dX5_layPlans_318 : decode cX5_layPlans 318 = .ok (.iload 11, 2) := by decide +kernel
theorem dX5_layPlans_320 : decode cX5_layPlans 320 = .ok (.iastore, 1) := by decide +kernel
theorem dX5_layPlans_321 : decode cX5_layPlans 321 = .ok (.aload_n 0, 1) := by decide +kernel
theorem dX5_layPlans_322 : decode cX5_layPlans 322 = .ok (.getfield 60, 3) := by decide +kernel
theorem dX5_layPlans_325 : decode cX5_layPlans 325 = .ok (.iload 7, 2) := by decide +kernel
theorem dX5_layPlans_327 : decode cX5_layPlans 327 = .ok (.aload_n 0, 1) := by decide +kernel
theorem dX5_layPlans_328 : decode cX5_layPlans 328 = .ok (.getfield 60, 3) := by decide +kernel
theorem dX5_layPlans_331 : decode cX5_layPlans 331 = .ok (.iload 10, 2) := by decide +kernel
theorem dX5_layPlans_333 : decode cX5_layPlans 333 = .ok (.iaload, 1) := by decide +kernel
theorem dX5_layPlans_334 : decode cX5_layPlans 334 = .ok (.iastore, 1) := by decide +kernel
theorem dX5_layPlans_335 : decode cX5_layPlans 335 = .ok (.iinc 8 1, 3) := by decide +kernel
theorem dX5_layPlans_338 : decode cX5_layPlans 338 = .ok (.goto (-160), 3) := by decide +kernel
theorem dX5_layPlans_341 : decode cX5_layPlans 341 = .ok (.iinc 3 1, 3) := by decide +kernel
theorem dX5_layPlans_344 : decode cX5_layPlans 344 = .ok (.goto (-249), 3) := by decide +kernel
theorem dX5_layPlans_347 : decode cX5_layPlans 347 = .ok (.iinc 2 (-1), 3) := by decide +kernel
theorem dX5_layPlans_350 : decode cX5_layPlans 350 = .ok (.goto (-268), 3) := by decide +kernel
theorem dX5_layPlans_353 : decode cX5_layPlans 353 = .ok (.return_, 1) := by decide +kernel
theorem dX5_plan_0 : decode cX5_plan 0 = .ok (.iload_n 1, 1) := by decide +kernel
theorem dX5_plan_1 : decode cX5_plan 1 = .ok (.iconst 0, 1) := by decide +kernel
theorem dX5_plan_2 : decode cX5_plan 2 = .ok (.iconst 2, 1) := by decide +kernel
theorem dX5_plan_3 : decode cX5_plan 3 = .ok (.invokestatic 87, 3) := by decide +kernel
theorem dX5_plan_6 : decode cX5_plan 6 = .ok (.ifCond .ne 6, 3) := by decide +kernel
theorem dX5_plan_9 : decode cX5_plan 9 = .ok (.bipush (-3), 2) := by decide +kernel
theorem dX5_plan_11 : decode cX5_plan 11 = .ok (.ireturn, 1) := by decide +kernel
theorem dX5_plan_12 : decode cX5_plan 12 = .ok (.aload_n 0, 1) := by decide +kernel
theorem dX5_plan_13 : decode cX5_plan 13 = .ok (.getfield 81, 3) := by decide +kernel
theorem dX5_plan_16 : decode cX5_plan 16 = .ok (.ifCond .ne 13, 3) := by decide +kernel
theorem dX5_plan_19 : decode cX5_plan 19 = .ok (.iload_n 1, 1) := by decide +kernel
theorem dX5_plan_20 : decode cX5_plan 20 = .ok (.ifCond .ne 7, 3) := by decide +kernel
theorem dX5_plan_23 : decode cX5_plan 23 = .ok (.iconst 0, 1) := by decide +kernel
theorem dX5_plan_24 : decode cX5_plan 24 = .ok (.goto 4, 3) := by decide +kernel
theorem dX5_plan_27 : decode cX5_plan 27 = .ok (.iconst (-1), 1) := by decide +kernel
theorem dX5_plan_28 : decode cX5_plan 28 = .ok (.ireturn, 1) := by decide +kernel
theorem dX5_plan_29 : decode cX5_plan 29 = .ok (.aload_n 0, 1) := by decide +kernel
theorem dX5_plan_30 : decode cX5_plan 30 = .ok (.invokevirtual 269, 3) := by decide +kernel
theorem dX5_plan_33 : decode cX5_plan 33 = .ok (.aload_n 0, 1) := by decide +kernel
theorem dX5_plan_34 : decode cX5_plan 34 = .ok (.getfield 32, 3) := by decide +kernel
theorem dX5_plan_37 : decode cX5_plan 37 = .ok (.bipush 10, 2) := by decide +kernel
theorem dX5_plan_39 : decode cX5_plan 39 = .ok (.iaload, 1) := by decide +kernel
theorem dX5_plan_40 : decode cX5_plan 40 = .ok (.istore_n 2, 1) := by decide +kernel
theorem dX5_plan_41 : decode cX5_plan 41 = .ok (.bipush 9, 2) := by decide +kernel
theorem dX5_plan_43 : decode cX5_plan 43 = .ok (.istore_n 3, 1) := by decide +kernel
theorem dX5_plan_44 : decode cX5_plan 44 = .ok (.iconst 0, 1) := by decide +kernel
theorem dX5_plan_45 : decode cX5_plan 45 = .ok (.istore 4, 2) := by decide +kernel
theorem dX5_plan_47 : decode cX5_plan 47 = .ok (.iload 4, 2) := by decide +kernel
theorem dX5_plan_49 : decode cX5_plan 49 = .ok (.iload_n 2, 1) := by decide +kernel
theorem dX5_plan_50 : decode cX5_plan 50 = .ok (.if_icmp .ge 33, 3) := by decide +kernel
theorem dX5_plan_53 : decode cX5_plan 53 = .ok (.aload_n 0, 1) := by decide +kernel
theorem dX5_plan_54 : decode cX5_plan 54 = .ok (.getfield 32, 3) := by decide +kernel
theorem dX5_plan_57 : decode cX5_plan 57 = .ok (.bipush 11, 2) := by decide +kernel
theorem dX5_plan_59 : decode cX5_plan 59 = .ok (.iaload, 1) := by decide +kernel
theorem dX5_plan_60 : decode cX5_plan 60 = .ok (.iload 4, 2) := by decide +kernel
theorem dX5_plan_62 : decode cX5_plan 62 = .ok (.invokestatic 177, 3) := by decide +kernel
theorem dX5_plan_65 : decode cX5_plan 65 = .ok (.ifCond .eq 10, 3) := by decide +kernel
theorem dX5_plan_68 : decode cX5_plan 68 = .ok (.iload_n 2, 1) := by decide +kernel
theorem dX5_plan_69 : decode cX5_plan 69 = .ok (.iload 4, 2) := by decide +kernel
theorem dX5_plan_71 : decode cX5_plan 71 = .ok (.isub, 1) := by decide +kernel
theorem dX5_plan_72 : decode cX5_plan 72 = .ok (.goto 4, 3) := by decide +kernel
theorem dX5_plan_75 : decode cX5_plan 75 = .ok (.iload_n 3, 1) := by decide +kernel
theorem dX5_plan_76 : decode cX5_plan 76 = .ok (.istore_n 3, 1) := by decide +kernel
theorem dX5_plan_77 : decode cX5_plan 77 = .ok (.iinc 4 1, 3) := by decide +kernel
theorem dX5_plan_80 : decode cX5_plan 80 = .ok (.goto (-33), 3) := by decide +kernel
theorem dX5_plan_83 : decode cX5_plan 83 = .ok (.iload_n 3, 1) := by decide +kernel
theorem dX5_plan_84 : decode cX5_plan 84 = .ok (.bipush 9, 2) := by decide +kernel
theorem dX5_plan_86 : decode cX5_plan 86 = .ok (.if_icmp .le 8, 3) := by decide +kernel
theorem dX5_plan_89 : decode cX5_plan 89 = .ok (.bipush 9, 2) := by decide +kernel
theorem dX5_plan_91 : decode cX5_plan 91 = .ok (.goto 4, 3) := by decide +kernel
theorem dX5_plan_94 : decode cX5_plan 94 = .ok (.iload_n 3, 1) := by decide +kernel
theorem dX5_plan_95 : decode cX5_plan 95 = .ok (.istore_n 3, 1) := by decide +kernel
theorem dX5_plan_96 : decode cX5_plan 96 = .ok (.iload_n 2, 1) := by decide +kernel
theorem dX5_plan_97 : decode cX5_plan 97 = .ok (.iload_n 3, 1) := by decide +kernel
theorem dX5_plan_98 : decode cX5_plan 98 = .ok (.iconst 0, 1) := by decide +kernel
theorem dX5_plan_99 : decode cX5_plan 99 = .ok (.aload_n 0, 1) := by decide +kernel
theorem dX5_plan_100 : decode cX5_plan 100 = .ok (.getfield 253, 3) := by decide +kernel
theorem dX5_plan_103 : decode cX5_plan 103 = .ok (.invokestatic 246, 3) := by decide +kernel
theorem dX5_plan_106 : decode cX5_plan 106 = .ok (.istore 4, 2) := by decide +kernel
theorem dX5_plan_108 : decode cX5_plan 108 = .ok (.aload_n 0, 1) := by decide +kernel
theorem dX5_plan_109 : decode cX5_plan 109 = .ok (.getfield 57, 3) := by decide +kernel
theorem dX5_plan_112 : decode cX5_plan 112 = .ok (.iload 4, 2) := by decide +kernel
theorem dX5_plan_114 : decode cX5_plan 114 = .ok (.iaload, 1) := by decide +kernel
theorem dX5_plan_115 : decode cX5_plan 115 = .ok (.sipush 9999, 3) := by decide +kernel
theorem dX5_plan_118 : decode cX5_plan 118 = .ok (.if_icmp .ne 5, 3) := by decide +kernel
theorem dX5_plan_121 : decode cX5_plan 121 = .ok (.iconst (-1), 1) := by decide +kernel
theorem dX5_plan_122 : decode cX5_plan 122 = .ok (.ireturn, 1) := by decide +kernel
theorem dX5_plan_123 : decode cX5_plan 123 = .ok (.iload_n 1, 1) := by decide +kernel
theorem dX5_plan_124 : decode cX5_plan 124 = .ok (.iconst 2, 1) := by decide +kernel
theorem dX5_plan_125 : decode cX5_plan 125 = .ok (.if_icmp .ge 25, 3) := by decide +kernel
theorem dX5_plan_128 : decode cX5_plan 128 = .ok (.iload_n 1, 1) := by decide +kernel
theorem dX5_plan_129 : decode cX5_plan 129 = .ok (.ifCond .ne 13, 3) := by decide +kernel
theorem dX5_plan_132 : decode cX5_plan 132 = .ok (.aload_n 0, 1) := by decide +kernel
theorem dX5_plan_133 : decode cX5_plan 133 = .ok (.getfield 57, 3) := by decide +kernel
theorem dX5_plan_136 : decode cX5_plan 136 = .ok (.iload 4, 2) := by decide +kernel
theorem dX5_plan_138 : decode cX5_plan 138 = .ok (.iaload, 1) := by decide +kernel
theorem dX5_plan_139 : decode cX5_plan 139 = .ok (.goto 10, 3) := by decide +kernel
theorem dX5_plan_142 : decode cX5_plan 142 = .ok (.aload_n 0, 1) := by decide +kernel
theorem dX5_plan_143 : decode cX5_plan 143 = .ok (.getfield 60, 3) := by decide +kernel
theorem dX5_plan_146 : decode cX5_plan 146 = .ok (.iload 4, 2) := by decide +kernel
theorem dX5_plan_148 : decode cX5_plan 148 = .ok (.iaload, 1) := by decide +kernel
theorem dX5_plan_149 : decode cX5_plan 149 = .ok (.ireturn, 1) := by decide +kernel
theorem dX5_plan_150 : decode cX5_plan 150 = .ok (.sipush 9999, 3) := by decide +kernel
theorem dX5_plan_153 : decode cX5_plan 153 = .ok (.istore 5, 2) := by decide +kernel
theorem dX5_plan_155 : decode cX5_plan 155 = .ok (.iconst 0, 1) := by decide +kernel
theorem dX5_plan_156 : decode cX5_plan 156 = .ok (.istore 6, 2) := by decide +kernel
theorem dX5_plan_158 : decode cX5_plan 158 = .ok (.iload 6, 2) := by decide +kernel
theorem dX5_plan_160 : decode cX5_plan 160 = .ok (.bipush 10, 2) := by decide +kernel
theorem dX5_plan_162 : decode cX5_plan 162 = .ok (.if_icmp .ge 149, 3) := by decide +kernel
theorem dX5_plan_165 : decode cX5_plan 165 = .ok (.iload 6, 2) := by decide +kernel
theorem dX5_plan_167 : decode cX5_plan 167 = .ok (.invokestatic 256, 3) := by decide +kernel
theorem dX5_plan_170 : decode cX5_plan 170 = .ok (.istore 7, 2) := by decide +kernel
theorem dX5_plan_172 : decode cX5_plan 172 = .ok (.aload_n 0, 1) := by decide +kernel
theorem dX5_plan_173 : decode cX5_plan 173 = .ok (.iload 7, 2) := by decide +kernel
theorem dX5_plan_175 : decode cX5_plan 175 = .ok (.iload_n 3, 1) := by decide +kernel
theorem dX5_plan_176 : decode cX5_plan 176 = .ok (.iconst 0, 1) := by decide +kernel
theorem dX5_plan_177 : decode cX5_plan 177 = .ok (.invokevirtual 259, 3) := by decide +kernel
theorem dX5_plan_180 : decode cX5_plan 180 = .ok (.ifCond .eq 125, 3) := by decide +kernel
theorem dX5_plan_183 : decode cX5_plan 183 = .ok (.aload_n 0, 1) := by decide +kernel
theorem dX5_plan_184 : decode cX5_plan 184 = .ok (.iload 7, 2) := by decide +kernel
theorem dX5_plan_186 : decode cX5_plan 186 = .ok (.iload_n 2, 1) := by decide +kernel
theorem dX5_plan_187 : decode cX5_plan 187 = .ok (.iload_n 3, 1) := by decide +kernel
theorem dX5_plan_188 : decode cX5_plan 188 = .ok (.iconst 0, 1) := by decide +kernel
theorem dX5_plan_189 : decode cX5_plan 189 = .ok (.aload_n 0, 1) := by decide +kernel
theorem dX5_plan_190 : decode cX5_plan 190 = .ok (.getfield 253, 3) := by decide +kernel
theorem dX5_plan_193 : decode cX5_plan 193 = .ok (.invokevirtual 262, 3) := by decide +kernel
theorem dX5_plan_196 : decode cX5_plan 196 = .ok (.istore 8, 2) := by decide +kernel
theorem dX5_plan_198 : decode cX5_plan 198 = .ok (.aload_n 0, 1) := by decide +kernel
theorem dX5_plan_199 : decode cX5_plan 199 = .ok (.getfield 57, 3) := by decide +kernel
theorem dX5_plan_202 : decode cX5_plan 202 = .ok (.iload 8, 2) := by decide +kernel
theorem dX5_plan_204 : decode cX5_plan 204 = .ok (.iaload, 1) := by decide +kernel
theorem dX5_plan_205 : decode cX5_plan 205 = .ok (.aload_n 0, 1) := by decide +kernel
theorem dX5_plan_206 : decode cX5_plan 206 = .ok (.iload 7, 2) := by decide +kernel
theorem dX5_plan_208 : decode cX5_plan 208 = .ok (.iload_n 2, 1) := by decide +kernel
theorem dX5_plan_209 : decode cX5_plan 209 = .ok (.iload_n 3, 1) := by decide +kernel
theorem dX5_plan_210 : decode cX5_plan 210 = .ok (.aload_n 0, 1) := by decide +kernel
theorem dX5_plan_211 : decode cX5_plan 211 = .ok (.getfield 253, 3) := by decide +kernel
theorem dX5_plan_214 : decode cX5_plan 214 = .ok (.invokevirtual 266, 3) := by decide +kernel
theorem dX5_plan_217 : decode cX5_plan 217 = .ok (.iadd, 1) := by decide +kernel
theorem dX5_plan_218 : decode cX5_plan 218 = .ok (.aload_n 0, 1) := by decide +kernel
theorem dX5_plan_219 : decode cX5_plan 219 = .ok (.getfield 57, 3) := by decide +kernel
theorem dX5_plan_222 : decode cX5_plan 222 = .ok (.iload 4, 2) := by decide +kernel
theorem dX5_plan_224 : decode cX5_plan 224 = .ok (.iaload, 1) := by decide +kernel
theorem dX5_plan_225 : decode cX5_plan 225 = .ok (.if_icmp .ne 24, 3) := by decide +kernel
theorem dX5_plan_228 : decode cX5_plan 228 = .ok (.aload_n 0, 1) := by decide +kernel
theorem dX5_plan_229 : decode cX5_plan 229 = .ok (.getfield 60, 3) := by decide +kernel
theorem dX5_plan_232 : decode cX5_plan 232 = .ok (.iload 8, 2) := by decide +kernel
theorem dX5_plan_234 : decode cX5_plan 234 = .ok (.iaload, 1) := by decide +kernel
theorem dX5_plan_235 : decode cX5_plan 235 = .ok (.aload_n 0, 1) := by decide +kernel
theorem dX5_plan_236 : decode cX5_plan 236 = .ok (.getfield 60, 3) := by decide +kernel
theorem dX5_plan_239 : decode cX5_plan 239 = .ok (.iload 4, 2) := by decide +kernel
theorem dX5_plan_241 : decode cX5_plan 241 = .ok (.iaload, 1) := by decide +kernel
theorem dX5_plan_242 : decode cX5_plan 242 = .ok (.if_icmp .ne 7, 3) := by decide +kernel
theorem dX5_plan_245 : decode cX5_plan 245 = .ok (.iconst 1, 1) := by decide +kernel
theorem dX5_plan_246 : decode cX5_plan 246 = .ok (.goto 4, 3) := by decide +kernel
theorem dX5_plan_249 : decode cX5_plan 249 = .ok (.iconst 0, 1) := by decide +kernel
theorem dX5_plan_250 : decode cX5_plan 250 = .ok (.istore 9, 2) := by decide +kernel
theorem dX5_plan_252 : decode cX5_plan 252 = .ok (.iload 7, 2) := by decide +kernel
theorem dX5_plan_254 : decode cX5_plan 254 = .ok (.iconst 3, 1) := by decide +kernel
theorem dX5_plan_255 : decode cX5_plan 255 = .ok (.if_icmp .ge 8, 3) := by decide +kernel
theorem dX5_plan_258 : decode cX5_plan 258 = .ok (.iload 7, 2) := by decide +kernel
theorem dX5_plan_260 : decode cX5_plan 260 = .ok (.goto 22, 3) := by decide +kernel
theorem dX5_plan_263 : decode cX5_plan 263 = .ok (.iload 7, 2) := by decide +kernel
theorem dX5_plan_265 : decode cX5_plan 265 = .ok (.bipush 10, 2) := by decide +kernel
theorem dX5_plan_267 : decode cX5_plan 267 = .ok (.idiv, 1) := by decide +kernel
theorem dX5_plan_268 : decode cX5_plan 268 = .ok (.bipush 10, 2) := by decide +kernel
theorem dX5_plan_270 : decode cX5_plan 270 = .ok (.imul, 1) := by decide +kernel
theorem dX5_plan_271 : decode cX5_plan 271 = .ok (.aload_n 0, 1) := by decide +kernel
theorem dX5_plan_272 : decode cX5_plan 272 = .ok (.getfield 51, 3) := by decide +kernel
theorem dX5_plan_275 : decode cX5_plan 275 = .ok (.iload 7, 2) := by decide +kernel
theorem dX5_plan_277 : decode cX5_plan 277 = .ok (.bipush 10, 2) := by decide +kernel
theorem dX5_plan_279 : decode cX5_plan 279 = .ok (.irem, 1) := by decide +kernel
theorem dX5_plan_280 : decode cX5_plan 280 = .ok (.iaload, 1) := by decide +kernel
theorem dX5_plan_281 : decode cX5_plan 281 = .ok (.iadd, 1) := by decide +kernel
theorem dX5_plan_282 : decode cX5_plan 282 = .ok (.istore 10, 2) := by decide +kernel
theorem dX5_plan_284 : decode cX5_plan 284 = .ok (.iload 9, 2) := by decide +kernel
theorem dX5_plan_286 : decode cX5_plan 286 = .ok (.ifCond .eq 15, 3) := by decide +kernel
theorem dX5_plan_289 : decode cX5_plan 289 = .ok (.iload 10, 2) := by decide +kernel
theorem dX5_plan_291 : decode cX5_plan 291 = .ok (.iload 5, 2) := by decide +kernel
theorem dX5_plan_293 : decode cX5_plan 293 = .ok (.if_icmp .ge 8, 3) := by decide +kernel
theorem dX5_plan_296 : decode cX5_plan 296 = .ok (.iload 10, 2) := by decide +kernel
theorem dX5_plan_298 : decode cX5_plan 298 = .ok (.goto 5, 3) := by decide +kernel
theorem dX5_plan_301 : decode cX5_plan 301 = .ok (.iload 5, 2) := by decide +kernel
theorem dX5_plan_303 : decode cX5_plan 303 = .ok (.istore 5, 2) := by decide +kernel
theorem dX5_plan_305 : decode cX5_plan 305 = .ok (.iinc 6 1, 3) := by decide +kernel
theorem dX5_plan_308 : decode cX5_plan 308 = .ok (.goto (-150), 3) := by decide +kernel
theorem dX5_plan_311 : decode cX5_plan 311 = .ok (.iload 5, 2) := by decide +kernel
theorem dX5_plan_313 : decode cX5_plan 313 = .ok (.ireturn, 1) := by decide +kernel
theorem dX5_pricesIn_0 : decode cX5_pricesIn 0 = .ok (.aload_n 0, 1) := by decide +kernel
theorem dX5_pricesIn_1 : decode cX5_pricesIn 1 = .ok (.getfield 32, 3) := by decide +kernel
theorem dX5_pricesIn_4 : decode cX5_pricesIn 4 = .ok (.iconst 0, 1) := by decide +kernel
theorem dX5_pricesIn_5 : decode cX5_pricesIn 5 = .ok (.aload_n 0, 1) := by decide +kernel
theorem dX5_pricesIn_6 : decode cX5_pricesIn 6 = .ok (.getfield 35, 3) := by decide +kernel
theorem dX5_pricesIn_9 : decode cX5_pricesIn 9 = .ok (.iconst 0, 1) := by decide +kernel
theorem dX5_pricesIn_10 : decode cX5_pricesIn 10 = .ok (.invokestatic 218, 3) := by decide +kernel
theorem dX5_pricesIn_13 : decode cX5_pricesIn 13 = .ok (.aload_n 0, 1) := by decide +kernel
theorem dX5_pricesIn_14 : decode cX5_pricesIn 14 = .ok (.getfield 35, 3) := by decide +kernel
theorem dX5_pricesIn_17 : decode cX5_pricesIn 17 = .ok (.bipush 10, 2) := by decide +kernel
theorem dX5_pricesIn_19 : decode cX5_pricesIn 19 = .ok (.iaload, 1) := by decide +kernel
theorem dX5_pricesIn_20 : decode cX5_pricesIn 20 = .ok (.iload_n 1, 1) := by decide +kernel
theorem dX5_pricesIn_21 : decode cX5_pricesIn 21 = .ok (.if_icmp .ge 14, 3) := by decide +kernel
theorem dX5_pricesIn_24 : decode cX5_pricesIn 24 = .ok (.aload_n 0, 1) := by decide +kernel
theorem dX5_pricesIn_25 : decode cX5_pricesIn 25 = .ok (.aload_n 0, 1) := by decide +kernel
theorem dX5_pricesIn_26 : decode cX5_pricesIn 26 = .ok (.getfield 35, 3) := by decide +kernel
theorem dX5_pricesIn_29 : decode cX5_pricesIn 29 = .ok (.invokevirtual 228, 3) := by decide +kernel
theorem dX5_pricesIn_32 : decode cX5_pricesIn 32 = .ok (.goto (-19), 3) := by decide +kernel
theorem dX5_pricesIn_35 : decode cX5_pricesIn 35 = .ok (.aload_n 0, 1) := by decide +kernel
theorem dX5_pricesIn_36 : decode cX5_pricesIn 36 = .ok (.aload_n 0, 1) := by decide +kernel
theorem dX5_pricesIn_37 : decode cX5_pricesIn 37 = .ok (.getfield 35, 3) := by decide +kernel
theorem dX5_pricesIn_40 : decode cX5_pricesIn 40 = .ok (.invokevirtual 239, 3) := by decide +kernel
theorem dX5_pricesIn_43 : decode cX5_pricesIn 43 = .ok (.ireturn, 1) := by decide +kernel
theorem dX5_price_0 : decode cX5_price 0 = .ok (.iload_n 1, 1) := by decide +kernel
theorem dX5_price_1 : decode cX5_price 1 = .ok (.aload_n 0, 1) := by decide +kernel
theorem dX5_price_2 : decode cX5_price 2 = .ok (.getfield 32, 3) := by decide +kernel
theorem dX5_price_5 : decode cX5_price 5 = .ok (.bipush 10, 2) := by decide +kernel
theorem dX5_price_7 : decode cX5_price 7 = .ok (.iaload, 1) := by decide +kernel
theorem dX5_price_8 : decode cX5_price 8 = .ok (.bipush 24, 2) := by decide +kernel
theorem dX5_price_10 : decode cX5_price 10 = .ok (.invokestatic 87, 3) := by decide +kernel
theorem dX5_price_13 : decode cX5_price 13 = .ok (.ifCond .eq 11, 3) := by decide +kernel
theorem dX5_price_16 : decode cX5_price 16 = .ok (.aload_n 0, 1) := by decide +kernel
theorem dX5_price_17 : decode cX5_price 17 = .ok (.iload_n 1, 1) := by decide +kernel
theorem dX5_price_18 : decode cX5_price 18 = .ok (.invokevirtual 272, 3) := by decide +kernel
theorem dX5_price_21 : decode cX5_price 21 = .ok (.goto 5, 3) := by decide +kernel
theorem dX5_price_24 : decode cX5_price 24 = .ok (.bipush (-3), 2) := by decide +kernel
theorem dX5_price_26 : decode cX5_price 26 = .ok (.ireturn, 1) := by decide +kernel
theorem dX5_sell_0 : decode cX5_sell 0 = .ok (.iload_n 1, 1) := by decide +kernel
theorem dX5_sell_1 : decode cX5_sell 1 = .ok (.iconst 0, 1) := by decide +kernel
theorem dX5_sell_2 : decode cX5_sell 2 = .ok (.iconst 1, 1) := by decide +kernel
theorem dX5_sell_3 : decode cX5_sell 3 = .ok (.invokestatic 87, 3) := by decide +kernel
theorem dX5_sell_6 : decode cX5_sell 6 = .ok (.ifCond .ne 6, 3) := by decide +kernel
theorem dX5_sell_9 : decode cX5_sell 9 = .ok (.bipush (-3), 2) := by decide +kernel
theorem dX5_sell_11 : decode cX5_sell 11 = .ok (.ireturn, 1) := by decide +kernel
theorem dX5_sell_12 : decode cX5_sell 12 = .ok (.aload_n 0, 1) := by decide +kernel
theorem dX5_sell_13 : decode cX5_sell 13 = .ok (.getfield 32, 3) := by decide +kernel
theorem dX5_sell_16 : decode cX5_sell 16 = .ok (.bipush 10, 2) := by decide +kernel
theorem dX5_sell_18 : decode cX5_sell 18 = .ok (.iaload, 1) := by decide +kernel
theorem dX5_sell_19 : decode cX5_sell 19 = .ok (.istore_n 2, 1) := by decide +kernel
theorem dX5_sell_20 : decode cX5_sell 20 = .ok (.aload_n 0, 1) := by decide +kernel
theorem dX5_sell_21 : decode cX5_sell 21 = .ok (.getfield 32, 3) := by decide +kernel
theorem dX5_sell_24 : decode cX5_sell 24 = .ok (.bipush 10, 2) := by decide +kernel
theorem dX5_sell_26 : decode cX5_sell 26 = .ok (.iaload, 1) := by decide +kernel
theorem dX5_sell_27 : decode cX5_sell 27 = .ok (.istore_n 3, 1) := by decide +kernel
theorem dX5_sell_28 : decode cX5_sell 28 = .ok (.iload_n 3, 1) := by decide +kernel
theorem dX5_sell_29 : decode cX5_sell 29 = .ok (.bipush 24, 2) := by decide +kernel
theorem dX5_sell_31 : decode cX5_sell 31 = .ok (.if_icmp .gt 28, 3) := by decide +kernel
theorem dX5_sell_34 : decode cX5_sell 34 = .ok (.aload_n 0, 1) := by decide +kernel
theorem dX5_sell_35 : decode cX5_sell 35 = .ok (.iload_n 3, 1) := by decide +kernel
theorem dX5_sell_36 : decode cX5_sell 36 = .ok (.invokevirtual 272, 3) := by decide +kernel
theorem dX5_sell_39 : decode cX5_sell 39 = .ok (.aload_n 0, 1) := by decide +kernel
theorem dX5_sell_40 : decode cX5_sell 40 = .ok (.iload_n 2, 1) := by decide +kernel
theorem dX5_sell_41 : decode cX5_sell 41 = .ok (.invokevirtual 272, 3) := by decide +kernel
theorem dX5_sell_44 : decode cX5_sell 44 = .ok (.if_icmp .le 7, 3) := by decide +kernel
theorem dX5_sell_47 : decode cX5_sell 47 = .ok (.iload_n 3, 1) := by decide +kernel
theorem dX5_sell_48 : decode cX5_sell 48 = .ok (.goto 4, 3) := by decide +kernel
theorem dX5_sell_51 : decode cX5_sell 51 = .ok (.iload_n 2, 1) := by decide +kernel
theorem dX5_sell_52 : decode cX5_sell 52 = .ok (.istore_n 2, 1) := by decide +kernel
theorem dX5_sell_53 : decode cX5_sell 53 = .ok (.iinc 3 1, 3) := by decide +kernel
theorem dX5_sell_56 : decode cX5_sell 56 = .ok (.goto (-28), 3) := by decide +kernel
theorem dX5_sell_59 : decode cX5_sell 59 = .ok (.iload_n 1, 1) := by decide +kernel
theorem dX5_sell_60 : decode cX5_sell 60 = .ok (.ifCond .ne 7, 3) := by decide +kernel
theorem dX5_sell_63 : decode cX5_sell 63 = .ok (.iload_n 2, 1) := by decide +kernel
theorem dX5_sell_64 : decode cX5_sell 64 = .ok (.goto 8, 3) := by decide +kernel
theorem dX5_sell_67 : decode cX5_sell 67 = .ok (.aload_n 0, 1) := by decide +kernel
theorem dX5_sell_68 : decode cX5_sell 68 = .ok (.iload_n 2, 1) := by decide +kernel
theorem dX5_sell_69 : decode cX5_sell 69 = .ok (.invokevirtual 272, 3) := by decide +kernel
theorem dX5_sell_72 : decode cX5_sell 72 = .ok (.ireturn, 1) := by decide +kernel
theorem dX5_lootOf_0 : decode cX5_lootOf 0 = .ok (.iconst 3, 1) := by decide +kernel
theorem dX5_lootOf_1 : decode cX5_lootOf 1 = .ok (.aload_n 0, 1) := by decide +kernel
theorem dX5_lootOf_2 : decode cX5_lootOf 2 = .ok (.getfield 7, 3) := by decide +kernel
theorem dX5_lootOf_5 : decode cX5_lootOf 5 = .ok (.iconst 4, 1) := by decide +kernel
theorem dX5_lootOf_6 : decode cX5_lootOf 6 = .ok (.iload_n 1, 1) := by decide +kernel
theorem dX5_lootOf_7 : decode cX5_lootOf 7 = .ok (.imul, 1) := by decide +kernel
theorem dX5_lootOf_8 : decode cX5_lootOf 8 = .ok (.iconst 1, 1) := by decide +kernel
theorem dX5_lootOf_9 : decode cX5_lootOf 9 = .ok (.iadd, 1) := by decide +kernel
theorem dX5_lootOf_10 : decode cX5_lootOf 10 = .ok (.iaload, 1) := by decide +kernel
theorem dX5_lootOf_11 : decode cX5_lootOf 11 = .ok (.imul, 1) := by decide +kernel
theorem dX5_lootOf_12 : decode cX5_lootOf 12 = .ok (.aload_n 0, 1) := by decide +kernel
theorem dX5_lootOf_13 : decode cX5_lootOf 13 = .ok (.aload_n 0, 1) := by decide +kernel
theorem dX5_lootOf_14 : decode cX5_lootOf 14 = .ok (.getfield 32, 3) := by decide +kernel
theorem dX5_lootOf_17 : decode cX5_lootOf 17 = .ok (.iload_n 1, 1) := by decide +kernel
theorem dX5_lootOf_18 : decode cX5_lootOf 18 = .ok (.invokevirtual 193, 3) := by decide +kernel
theorem dX5_lootOf_21 : decode cX5_lootOf 21 = .ok (.isub, 1) := by decide +kernel
theorem dX5_lootOf_22 : decode cX5_lootOf 22 = .ok (.istore_n 3, 1) := by decide +kernel
theorem dX5_lootOf_23 : decode cX5_lootOf 23 = .ok (.aload_n 0, 1) := by decide +kernel
theorem dX5_lootOf_24 : decode cX5_lootOf 24 = .ok (.iload_n 1, 1) := by decide +kernel
theorem dX5_lootOf_25 : decode cX5_lootOf 25 = .ok (.invokevirtual 181, 3) := by decide +kernel
theorem dX5_lootOf_28 : decode cX5_lootOf 28 = .ok (.iload_n 2, 1) := by decide +kernel
theorem dX5_lootOf_29 : decode cX5_lootOf 29 = .ok (.if_icmp .eq 21, 3) := by decide +kernel
theorem dX5_lootOf_32 : decode cX5_lootOf 32 = .ok (.aload_n 0, 1) := by decide +kernel
theorem dX5_lootOf_33 : decode cX5_lootOf 33 = .ok (.getfield 32, 3) := by decide +kernel
theorem dX5_lootOf_36 : decode cX5_lootOf 36 = .ok (.bipush 8, 2) := by decide +kernel
theorem dX5_lootOf_38 : decode cX5_lootOf 38 = .ok (.iaload, 1) := by decide +kernel
theorem dX5_lootOf_39 : decode cX5_lootOf 39 = .ok (.iload_n 1, 1) := by decide +kernel
theorem dX5_lootOf_40 : decode cX5_lootOf 40 = .ok (.invokestatic 177, 3) := by decide +kernel
theorem dX5_lootOf_43 : decode cX5_lootOf 43 = .ok (.ifCond .ne 7, 3) := by decide +kernel
theorem dX5_lootOf_46 : decode cX5_lootOf 46 = .ok (.iload_n 3, 1) := by decide +kernel
theorem dX5_lootOf_47 : decode cX5_lootOf 47 = .ok (.ifCond .ge 7, 3) := by decide +kernel
theorem dX5_lootOf_50 : decode cX5_lootOf 50 = .ok (.iconst 0, 1) := by decide +kernel
theorem dX5_lootOf_51 : decode cX5_lootOf 51 = .ok (.goto 4, 3) := by decide +kernel
theorem dX5_lootOf_54 : decode cX5_lootOf 54 = .ok (.iload_n 3, 1) := by decide +kernel
theorem dX5_lootOf_55 : decode cX5_lootOf 55 = .ok (.ireturn, 1) := by decide +kernel
theorem dX5_thief_0 : decode cX5_thief 0 = .ok (.iload_n 1, 1) := by decide +kernel
theorem dX5_thief_1 : decode cX5_thief 1 = .ok (.iconst 0, 1) := by decide +kernel
theorem dX5_thief_2 : decode cX5_thief 2 = .ok (.iconst 2, 1) := by decide +kernel
theorem dX5_thief_3 : decode cX5_thief 3 = .ok (.invokestatic 87, 3) := by decide +kernel
theorem dX5_thief_6 : decode cX5_thief 6 = .ok (.ifCond .ne 6, 3) := by decide +kernel
theorem dX5_thief_9 : decode cX5_thief 9 = .ok (.bipush (-3), 2) := by decide +kernel
theorem dX5_thief_11 : decode cX5_thief 11 = .ok (.ireturn, 1) := by decide +kernel
theorem dX5_thief_12 : decode cX5_thief 12 = .ok (.iconst 0, 1) := by decide +kernel
theorem dX5_thief_13 : decode cX5_thief 13 = .ok (.istore_n 2, 1) := by decide +kernel
theorem dX5_thief_14 : decode cX5_thief 14 = .ok (.iconst (-1), 1) := by decide +kernel
theorem dX5_thief_15 : decode cX5_thief 15 = .ok (.istore_n 3, 1) := by decide +kernel
theorem dX5_thief_16 : decode cX5_thief 16 = .ok (.iconst (-1), 1) := by decide +kernel
theorem dX5_thief_17 : decode cX5_thief 17 = .ok (.istore 4, 2) := by decide +kernel
theorem dX5_thief_19 : decode cX5_thief 19 = .ok (.iconst 0, 1) := by decide +kernel
theorem dX5_thief_20 : decode cX5_thief 20 = .ok (.istore 5, 2) := by decide +kernel
theorem dX5_thief_22 : decode cX5_thief 22 = .ok (.iload 5, 2) := by decide +kernel
theorem dX5_thief_24 : decode cX5_thief 24 = .ok (.aload_n 0, 1) := by decide +kernel
theorem dX5_thief_25 : decode cX5_thief 25 = .ok (.getfield 72, 3) := by decide +kernel
theorem dX5_thief_28 : decode cX5_thief 28 = .ok (.if_icmp .ge 154, 3) := by decide +kernel
theorem dX5_thief_31 : decode cX5_thief 31 = .ok (.iconst 0, 1) := by decide +kernel
theorem dX5_thief_32 : decode cX5_thief 32 = .ok (.istore 6, 2) := by decide +kernel
theorem dX5_thief_34 : decode cX5_thief 34 = .ok (.iload 6, 2) := by decide +kernel
theorem dX5_thief_36 : decode cX5_thief 36 = .ok (.iconst 3, 1) := by decide +kernel
theorem dX5_thief_37 : decode cX5_thief 37 = .ok (.if_icmp .ge 139, 3) := by decide +kernel
theorem dX5_thief_40 : decode cX5_thief 40 = .ok (.iconst 1, 1) := by decide +kernel
theorem dX5_thief_41 : decode cX5_thief 41 = .ok (.istore 7, 2) := by decide +kernel
theorem dX5_thief_43 : decode cX5_thief 43 = .ok (.iconst 0, 1) := by decide +kernel
theorem dX5_thief_44 : decode cX5_thief 44 = .ok (.istore 8, 2) := by decide +kernel
theorem dX5_thief_46 : decode cX5_thief 46 = .ok (.iload 8, 2) := by decide +kernel
theorem dX5_thief_48 : decode cX5_thief 48 = .ok (.aload_n 0, 1) := by decide +kernel
theorem dX5_thief_49 : decode cX5_thief 49 = .ok (.getfield 72, 3) := by decide +kernel
theorem dX5_thief_52 : decode cX5_thief 52 = .ok (.if_icmp .ge 40, 3) := by decide +kernel
theorem dX5_thief_55 : decode cX5_thief 55 = .ok (.iload 7, 2) := by decide +kernel
theorem dX5_thief_57 : decode cX5_thief 57 = .ok (.ifCond .eq 26, 3) := by decide +kernel
theorem dX5_thief_60 : decode cX5_thief 60 = .ok (.aload_n 0, 1) := by decide +kernel
theorem dX5_thief_61 : decode cX5_thief 61 = .ok (.iload 8, 2) := by decide +kernel
theorem dX5_thief_63 : decode cX5_thief 63 = .ok (.iload 6, 2) := by decide +kernel
theorem dX5_thief_65 : decode cX5_thief 65 = .ok (.invokevirtual 275, 3) := by decide +kernel
theorem dX5_thief_68 : decode cX5_thief 68 = .ok (.aload_n 0, 1) := by decide +kernel
theorem dX5_thief_69 : decode cX5_thief 69 = .ok (.iload 5, 2) := by decide +kernel
theorem dX5_thief_71 : decode cX5_thief 71 = .ok (.iload 6, 2) := by decide +kernel
theorem dX5_thief_73 : decode cX5_thief 73 = .ok (.invokevirtual 275, 3) := by decide +kernel
theorem dX5_thief_76 : decode cX5_thief 76 = .ok (.if_icmp .gt 7, 3) := by decide +kernel
theorem dX5_thief_79 : decode cX5_thief 79 = .ok (.iconst 1, 1) := by decide +kernel
theorem dX5_thief_80 : decode cX5_thief 80 = .ok (.goto 4, 3) := by decide +kernel
theorem dX5_thief_83 : decode cX5_thief 83 = .ok (.iconst 0, 1) := by decide +kernel
theorem dX5_thief_84 : decode cX5_thief 84 = .ok (.istore 7, 2) := by decide +kernel
theorem dX5_thief_86 : decode cX5_thief 86 = .ok (.iinc 8 1, 3) := by decide +kernel
theorem dX5_thief_89 : decode cX5_thief 89 = .ok (.goto (-43), 3) := by decide +kernel
theorem dX5_thief_92 : decode cX5_thief 92 = .ok (.iconst 0, 1) := by decide +kernel
theorem dX5_thief_93 : decode cX5_thief 93 = .ok (.istore 8, 2) := by decide +kernel
theorem dX5_thief_95 : decode cX5_thief 95 = .ok (.iload 8, 2) := by decide +kernel
theorem dX5_thief_97 : decode cX5_thief 97 = .ok (.iconst 3, 1) := by decide +kernel
theorem dX5_thief_98 : decode cX5_thief 98 = .ok (.if_icmp .ge 40, 3) := by decide +kernel
theorem dX5_thief_101 : decode cX5_thief 101 = .ok (.iload 7, 2) := by decide +kernel
theorem dX5_thief_103 : decode cX5_thief 103 = .ok (.ifCond .eq 26, 3) := by decide +kernel
theorem dX5_thief_106 : decode cX5_thief 106 = .ok (.aload_n 0, 1) := by decide +kernel
theorem dX5_thief_107 : decode cX5_thief 107 = .ok (.iload 5, 2) := by decide +kernel
theorem dX5_thief_109 : decode cX5_thief 109 = .ok (.iload 8, 2) := by decide +kernel
theorem dX5_thief_111 : decode cX5_thief 111 = .ok (.invokevirtual 275, 3) := by decide +kernel
theorem dX5_thief_114 : decode cX5_thief 114 = .ok (.aload_n 0, 1) := by decide +kernel
theorem dX5_thief_115 : decode cX5_thief 115 = .ok (.iload 5, 2) := by decide +kernel
theorem dX5_thief_117 : decode cX5_thief 117 = .ok (.iload 6, 2) := by decide +kernel
theorem dX5_thief_119 : decode cX5_thief 119 = .ok (.invokevirtual 275, 3) := by decide +kernel
theorem dX5_thief_122 : decode cX5_thief 122 = .ok (.if_icmp .lt 7, 3) := by decide +kernel
theorem dX5_thief_125 : decode cX5_thief 125 = .ok (.iconst 1, 1) := by decide +kernel
theorem dX5_thief_126 : decode cX5_thief 126 = .ok (.goto 4, 3) := by decide +kernel
theorem dX5_thief_129 : decode cX5_thief 129 = .ok (.iconst 0, 1) := by decide +kernel
theorem dX5_thief_130 : decode cX5_thief 130 = .ok (.istore 7, 2) := by decide +kernel
theorem dX5_thief_132 : decode cX5_thief 132 = .ok (.iinc 8 1, 3) := by decide +kernel
theorem dX5_thief_135 : decode cX5_thief 135 = .ok (.goto (-40), 3) := by decide +kernel
theorem dX5_thief_138 : decode cX5_thief 138 = .ok (.iload 7, 2) := by decide +kernel
theorem dX5_thief_140 : decode cX5_thief 140 = .ok (.ifCond .eq 30, 3) := by decide +kernel
theorem dX5_thief_143 : decode cX5_thief 143 = .ok (.iload_n 2, 1) := by decide +kernel
theorem dX5_thief_144 : decode cX5_thief 144 = .ok (.ifCond .ne 8, 3) := by decide +kernel
theorem dX5_thief_147 : decode cX5_thief 147 = .ok (.iload 5, 2) := by decide +kernel
theorem dX5_thief_149 : decode cX5_thief 149 = .ok (.goto 4, 3) := by decide +kernel
theorem dX5_thief_152 : decode cX5_thief 152 = .ok (.iload_n 3, 1) := by decide +kernel
theorem dX5_thief_153 : decode cX5_thief 153 = .ok (.istore_n 3, 1) := by decide +kernel
theorem dX5_thief_154 : decode cX5_thief 154 = .ok (.iload_n 2, 1) := by decide +kernel
theorem dX5_thief_155 : decode cX5_thief 155 = .ok (.ifCond .ne 8, 3) := by decide +kernel
theorem dX5_thief_158 : decode cX5_thief 158 = .ok (.iload 6, 2) := by decide +kernel
theorem dX5_thief_160 : decode cX5_thief 160 = .ok (.goto 5, 3) := by decide +kernel
theorem dX5_thief_163 : decode cX5_thief 163 = .ok (.iload 4, 2) := by decide +kernel
theorem dX5_thief_165 : decode cX5_thief 165 = .ok (.istore 4, 2) := by decide +kernel
theorem dX5_thief_167 : decode cX5_thief 167 = .ok (.iinc 2 1, 3) := by decide +kernel
theorem dX5_thief_170 : decode cX5_thief 170 = .ok (.iinc 6 1, 3) := by decide +kernel
theorem dX5_thief_173 : decode cX5_thief 173 = .ok (.goto (-139), 3) := by decide +kernel
theorem dX5_thief_176 : decode cX5_thief 176 = .ok (.iinc 5 1, 3) := by decide +kernel
theorem dX5_thief_179 : decode cX5_thief 179 = .ok (.goto (-157), 3) := by decide +kernel
theorem dX5_thief_182 : decode cX5_thief 182 = .ok (.iload_n 1, 1) := by decide +kernel
theorem dX5_thief_183 : decode cX5_thief 183 = .ok (.ifCond .ne 7, 3) := by decide +kernel
theorem dX5_thief_186 : decode cX5_thief 186 = .ok (.iload_n 2, 1) := by decide +kernel
theorem dX5_thief_187 : decode cX5_thief 187 = .ok (.goto 14, 3) := by decide +kernel
theorem dX5_thief_190 : decode cX5_thief 190 = .ok (.iload_n 1, 1) := by decide +kernel
theorem dX5_thief_191 : decode cX5_thief 191 = .ok (.iconst 1, 1) := by decide +kernel
theorem dX5_thief_192 : decode cX5_thief 192 = .ok (.if_icmp .ne 7, 3) := by decide +kernel
theorem dX5_thief_195 : decode cX5_thief 195 = .ok (.iload_n 3, 1) := by decide +kernel
theorem dX5_thief_196 : decode cX5_thief 196 = .ok (.goto 5, 3) := by decide +kernel
theorem dX5_thief_199 : decode cX5_thief 199 = .ok (.iload 4, 2) := by decide +kernel
theorem dX5_thief_201 : decode cX5_thief 201 = .ok (.ireturn, 1) := by decide +kernel
theorem dX5_look_0 : decode cX5_look 0 = .ok (.aload_n 0, 1) := by decide +kernel
theorem dX5_look_1 : decode cX5_look 1 = .ok (.iload_n 1, 1) := by decide +kernel
theorem dX5_look_2 : decode cX5_look 2 = .ok (.invokevirtual 196, 3) := by decide +kernel
theorem dX5_look_5 : decode cX5_look 5 = .ok (.ifCond .ne 6, 3) := by decide +kernel
theorem dX5_look_8 : decode cX5_look 8 = .ok (.bipush (-2), 2) := by decide +kernel
theorem dX5_look_10 : decode cX5_look 10 = .ok (.ireturn, 1) := by decide +kernel
theorem dX5_look_11 : decode cX5_look 11 = .ok (.iload_n 2, 1) := by decide +kernel
theorem dX5_look_12 : decode cX5_look 12 = .ok (.iconst 0, 1) := by decide +kernel
theorem dX5_look_13 : decode cX5_look 13 = .ok (.aload_n 0, 1) := by decide +kernel
theorem dX5_look_14 : decode cX5_look 14 = .ok (.getfield 32, 3) := by decide +kernel
theorem dX5_look_17 : decode cX5_look 17 = .ok (.bipush 10, 2) := by decide +kernel
theorem dX5_look_19 : decode cX5_look 19 = .ok (.iaload, 1) := by decide +kernel
theorem dX5_look_20 : decode cX5_look 20 = .ok (.iconst 1, 1) := by decide +kernel
theorem dX5_look_21 : decode cX5_look 21 = .ok (.isub, 1) := by decide +kernel
theorem dX5_look_22 : decode cX5_look 22 = .ok (.invokestatic 87, 3) := by decide +kernel
theorem dX5_look_25 : decode cX5_look 25 = .ok (.ifCond .eq 12, 3) := by decide +kernel
theorem dX5_look_28 : decode cX5_look 28 = .ok (.iload_n 3, 1) := by decide +kernel
theorem dX5_look_29 : decode cX5_look 29 = .ok (.iconst 0, 1) := by decide +kernel
theorem dX5_look_30 : decode cX5_look 30 = .ok (.iconst 1, 1) := by decide +kernel
theorem dX5_look_31 : decode cX5_look 31 = .ok (.invokestatic 87, 3) := by decide +kernel
theorem dX5_look_34 : decode cX5_look 34 = .ok (.ifCond .ne 6, 3) := by decide +kernel
theorem dX5_look_37 : decode cX5_look 37 = .ok (.bipush (-3), 2) := by decide +kernel
theorem dX5_look_39 : decode cX5_look 39 = .ok (.ireturn, 1) := by decide +kernel
theorem dX5_look_40 : decode cX5_look 40 = .ok (.aload_n 0, 1) := by decide +kernel
theorem dX5_look_41 : decode cX5_look 41 = .ok (.getfield 84, 3) := by decide +kernel
theorem dX5_look_44 : decode cX5_look 44 = .ok (.bipush 6, 2) := by decide +kernel
theorem dX5_look_46 : decode cX5_look 46 = .ok (.if_icmp .ne 6, 3) := by decide +kernel
theorem dX5_look_49 : decode cX5_look 49 = .ok (.bipush (-5), 2) := by decide +kernel
theorem dX5_look_51 : decode cX5_look 51 = .ok (.ireturn, 1) := by decide +kernel
theorem dX5_look_52 : decode cX5_look 52 = .ok (.aload_n 0, 1) := by decide +kernel
theorem dX5_look_53 : decode cX5_look 53 = .ok (.getfield 54, 3) := by decide +kernel
theorem dX5_look_56 : decode cX5_look 56 = .ok (.iconst 3, 1) := by decide +kernel
theorem dX5_look_57 : decode cX5_look 57 = .ok (.aload_n 0, 1) := by decide +kernel
theorem dX5_look_58 : decode cX5_look 58 = .ok (.getfield 84, 3) := by decide +kernel
theorem dX5_look_61 : decode cX5_look 61 = .ok (.imul, 1) := by decide +kernel
theorem dX5_look_62 : decode cX5_look 62 = .ok (.iload_n 1, 1) := by decide +kernel
theorem dX5_look_63 : decode cX5_look 63 = .ok (.iastore, 1) := by decide +kernel
theorem dX5_look_64 : decode cX5_look 64 = .ok (.aload_n 0, 1) := by decide +kernel
theorem dX5_look_65 : decode cX5_look 65 = .ok (.getfield 54, 3) := by decide +kernel
theorem dX5_look_68 : decode cX5_look 68 = .ok (.iconst 3, 1) := by decide +kernel
theorem dX5_look_69 : decode cX5_look 69 = .ok (.aload_n 0, 1) := by decide +kernel
theorem dX5_look_70 : decode cX5_look 70 = .ok (.getfield 84, 3) := by decide +kernel
theorem dX5_look_73 : decode cX5_look 73 = .ok (.imul, 1) := by decide +kernel
theorem dX5_look_74 : decode cX5_look 74 = .ok (.iconst 1, 1) := by decide +kernel
theorem dX5_look_75 : decode cX5_look 75 = .ok (.iadd, 1) := by decide +kernel
theorem dX5_look_76 : decode cX5_look 76 = .ok (.iload_n 2, 1) := by decide +kernel
theorem dX5_look_77 : decode cX5_look 77 = .ok (.iastore, 1) := by decide +kernel
theorem dX5_look_78 : decode cX5_look 78 = .ok (.aload_n 0, 1) := by decide +kernel
theorem dX5_look_79 : decode cX5_look 79 = .ok (.getfield 54, 3) := by decide +kernel
theorem dX5_look_82 : decode cX5_look 82 = .ok (.iconst 3, 1) := by decide +kernel
theorem dX5_look_83 : decode cX5_look 83 = .ok (.aload_n 0, 1) := by decide +kernel
theorem dX5_look_84 : decode cX5_look 84 = .ok (.getfield 84, 3) := by decide +kernel
theorem dX5_look_87 : decode cX5_look 87 = .ok (.imul, 1) := by decide +kernel
theorem dX5_look_88 : decode cX5_look 88 = .ok (.iconst 2, 1) := by decide +kernel
theorem dX5_look_89 : decode cX5_look 89 = .ok (.iadd, 1) := by decide +kernel
theorem dX5_look_90 : decode cX5_look 90 = .ok (.iload_n 3, 1) := by decide +kernel
theorem dX5_look_91 : decode cX5_look 91 = .ok (.iastore, 1) := by decide +kernel
theorem dX5_look_92 : decode cX5_look 92 = .ok (.aload_n 0, 1) := by decide +kernel
theorem dX5_look_93 : decode cX5_look 93 = .ok (.dup, 1) := by decide +kernel
theorem dX5_look_94 : decode cX5_look 94 = .ok (.getfield 84, 3) := by decide +kernel
theorem dX5_look_97 : decode cX5_look 97 = .ok (.iconst 1, 1) := by decide +kernel
theorem dX5_look_98 : decode cX5_look 98 = .ok (.iadd, 1) := by decide +kernel
theorem dX5_look_99 : decode cX5_look 99 = .ok (.putfield 84, 3) := by decide +kernel
theorem dX5_look_102 : decode cX5_look 102 = .ok (.aload_n 0, 1) := by decide +kernel
theorem dX5_look_103 : decode cX5_look 103 = .ok (.getfield 84, 3) := by decide +kernel
theorem dX5_look_106 : decode cX5_look 106 = .ok (.ireturn, 1) := by decide +kernel
theorem dX5_forget_0 : decode cX5_forget 0 = .ok (.aload_n 0, 1) := by decide +kernel
theorem dX5_forget_1 : decode cX5_forget 1 = .ok (.getfield 84, 3) := by decide +kernel
theorem dX5_forget_4 : decode cX5_forget 4 = .ok (.istore_n 1, 1) := by decide +kernel
theorem dX5_forget_5 : decode cX5_forget 5 = .ok (.aload_n 0, 1) := by decide +kernel
theorem dX5_forget_6 : decode cX5_forget 6 = .ok (.iconst 0, 1) := by decide +kernel
theorem dX5_forget_7 : decode cX5_forget 7 = .ok (.putfield 84, 3) := by decide +kernel
theorem dX5_forget_10 : decode cX5_forget 10 = .ok (.iload_n 1, 1) := by decide +kernel
theorem dX5_forget_11 : decode cX5_forget 11 = .ok (.ireturn, 1) := by decide +kernel
theorem dX5_isGold_0 : decode cX5_isGold 0 = .ok (.iload_n 1, 1) := by decide +kernel
theorem dX5_isGold_1 : decode cX5_isGold 1 = .ok (.bipush 24, 2) := by decide +kernel
theorem dX5_isGold_3 : decode cX5_isGold 3 = .ok (.if_icmp .eq 8, 3) := by decide +kernel
theorem dX5_isGold_6 : decode cX5_isGold 6 = .ok (.iload_n 2, 1) := by decide +kernel
theorem dX5_isGold_7 : decode cX5_isGold 7 = .ok (.iload_n 1, 1) := by decide +kernel
theorem dX5_isGold_8 : decode cX5_isGold 8 = .ok (.if_icmp .ge 5, 3) := by decide +kernel
theorem dX5_isGold_11 : decode cX5_isGold 11 = .ok (.iconst 0, 1) := by decide +kernel
theorem dX5_isGold_12 : decode cX5_isGold 12 = .ok (.ireturn, 1) := by decide +kernel
theorem dX5_isGold_13 : decode cX5_isGold 13 = .ok (.aload_n 0, 1) := by decide +kernel
theorem dX5_isGold_14 : decode cX5_isGold 14 = .ok (.aload_n 0, 1) := by decide +kernel
theorem dX5_isGold_15 : decode cX5_isGold 15 = .ok (.getfield 32, 3) := by decide +kernel
theorem dX5_isGold_18 : decode cX5_isGold 18 = .ok (.bipush 11, 2) := by decide +kernel
theorem dX5_isGold_20 : decode cX5_isGold 20 = .ok (.iaload, 1) := by decide +kernel
theorem dX5_isGold_21 : decode cX5_isGold 21 = .ok (.iload_n 1, 1) := by decide +kernel
theorem dX5_isGold_22 : decode cX5_isGold 22 = .ok (.invokevirtual 214, 3) := by decide +kernel
theorem dX5_isGold_25 : decode cX5_isGold 25 = .ok (.istore_n 3, 1) := by decide +kernel
theorem dX5_isGold_26 : decode cX5_isGold 26 = .ok (.iload_n 3, 1) := by decide +kernel
theorem dX5_isGold_27 : decode cX5_isGold 27 = .ok (.iconst 2, 1) := by decide +kernel
theorem dX5_isGold_28 : decode cX5_isGold 28 = .ok (.if_icmp .eq 24, 3) := by decide +kernel
theorem dX5_isGold_31 : decode cX5_isGold 31 = .ok (.iload_n 3, 1) := by decide +kernel
theorem dX5_isGold_32 : decode cX5_isGold 32 = .ok (.iconst 1, 1) := by decide +kernel
theorem dX5_isGold_33 : decode cX5_isGold 33 = .ok (.if_icmp .ne 23, 3) := by decide +kernel
theorem dX5_isGold_36 : decode cX5_isGold 36 = .ok (.iload_n 1, 1) := by decide +kernel
theorem dX5_isGold_37 : decode cX5_isGold 37 = .ok (.aload_n 0, 1) := by decide +kernel
theorem dX5_isGold_38 : decode cX5_isGold 38 = .ok (.getfield 23, 3) := by decide +kernel
theorem dX5_isGold_41 : decode cX5_isGold 41 = .ok (.if_icmp .ge 11, 3) := by decide +kernel
theorem dX5_isGold_44 : decode cX5_isGold 44 = .ok (.iload_n 2, 1) := by decide +kernel
theorem dX5_isGold_45 : decode cX5_isGold 45 = .ok (.aload_n 0, 1) := by decide +kernel
theorem dX5_isGold_46 : decode cX5_isGold 46 = .ok (.getfield 23, 3) := by decide +kernel
theorem dX5_isGold_49 : decode cX5_isGold 49 = .ok (.if_icmp .ge 7, 3) := by decide +kernel
theorem dX5_isGold_52 : decode cX5_isGold 52 = .ok (.iconst 1, 1) := by decide +kernel
theorem dX5_isGold_53 : decode cX5_isGold 53 = .ok (.goto 4, 3) := by decide +kernel
theorem dX5_isGold_56 : decode cX5_isGold 56 = .ok (.iconst 0, 1) := by decide +kernel
theorem dX5_isGold_57 : decode cX5_isGold 57 = .ok (.ireturn, 1) := by decide +kernel
theorem dX5_fit_0 : decode cX5_fit 0 = .ok (.aload_n 0, 1) := by decide +kernel
theorem dX5_fit_1 : decode cX5_fit 1 = .ok (.iload_n 1, 1) := by decide +kernel
theorem dX5_fit_2 : decode cX5_fit 2 = .ok (.invokevirtual 196, 3) := by decide +kernel
theorem dX5_fit_5 : decode cX5_fit 5 = .ok (.ifCond .ne 6, 3) := by decide +kernel
theorem dX5_fit_8 : decode cX5_fit 8 = .ok (.bipush (-2), 2) := by decide +kernel
theorem dX5_fit_10 : decode cX5_fit 10 = .ok (.ireturn, 1) := by decide +kernel
theorem dX5_fit_11 : decode cX5_fit 11 = .ok (.iconst 0, 1) := by decide +kernel
theorem dX5_fit_12 : decode cX5_fit 12 = .ok (.istore_n 2, 1) := by decide +kernel
theorem dX5_fit_13 : decode cX5_fit 13 = .ok (.iconst 0, 1) := by decide +kernel
theorem dX5_fit_14 : decode cX5_fit 14 = .ok (.istore_n 3, 1) := by decide +kernel
theorem dX5_fit_15 : decode cX5_fit 15 = .ok (.iload_n 3, 1) := by decide +kernel
theorem dX5_fit_16 : decode cX5_fit 16 = .ok (.bipush 24, 2) := by decide +kernel
theorem dX5_fit_18 : decode cX5_fit 18 = .ok (.if_icmp .gt 130, 3) := by decide +kernel
theorem dX5_fit_21 : decode cX5_fit 21 = .ok (.iload_n 3, 1) := by decide +kernel
theorem dX5_fit_22 : decode cX5_fit 22 = .ok (.aload_n 0, 1) := by decide +kernel
theorem dX5_fit_23 : decode cX5_fit 23 = .ok (.getfield 32, 3) := by decide +kernel
theorem dX5_fit_26 : decode cX5_fit 26 = .ok (.bipush 10, 2) := by decide +kernel
theorem dX5_fit_28 : decode cX5_fit 28 = .ok (.iaload, 1) := by decide +kernel
theorem dX5_fit_29 : decode cX5_fit 29 = .ok (.if_icmp .lt 9, 3) := by decide +kernel
theorem dX5_fit_32 : decode cX5_fit 32 = .ok (.iload_n 3, 1) := by decide +kernel
theorem dX5_fit_33 : decode cX5_fit 33 = .ok (.bipush 24, 2) := by decide +kernel
theorem dX5_fit_35 : decode cX5_fit 35 = .ok (.if_icmp .ne 7, 3) := by decide +kernel
theorem dX5_fit_38 : decode cX5_fit 38 = .ok (.iconst 1, 1) := by decide +kernel
theorem dX5_fit_39 : decode cX5_fit 39 = .ok (.goto 4, 3) := by decide +kernel
theorem dX5_fit_42 : decode cX5_fit 42 = .ok (.iconst 0, 1) := by decide +kernel
theorem dX5_fit_43 : decode cX5_fit 43 = .ok (.istore 4, 2) := by decide +kernel
theorem dX5_fit_45 : decode cX5_fit 45 = .ok (.iconst 0, 1) := by decide +kernel
theorem dX5_fit_46 : decode cX5_fit 46 = .ok (.istore 5, 2) := by decide +kernel
theorem dX5_fit_48 : decode cX5_fit 48 = .ok (.iload 5, 2) := by decide +kernel
theorem dX5_fit_50 : decode cX5_fit 50 = .ok (.aload_n 0, 1) := by decide +kernel
theorem dX5_fit_51 : decode cX5_fit 51 = .ok (.getfield 84, 3) := by decide +kernel
theorem dX5_fit_54 : decode cX5_fit 54 = .ok (.if_icmp .ge 73, 3) := by decide +kernel
theorem dX5_fit_57 : decode cX5_fit 57 = .ok (.iload 4, 2) := by decide +kernel
theorem dX5_fit_59 : decode cX5_fit 59 = .ok (.ifCond .eq 59, 3) := by decide +kernel
theorem dX5_fit_62 : decode cX5_fit 62 = .ok (.aload_n 0, 1) := by decide +kernel
theorem dX5_fit_63 : decode cX5_fit 63 = .ok (.getfield 54, 3) := by decide +kernel
theorem dX5_fit_66 : decode cX5_fit 66 = .ok (.iconst 3, 1) := by decide +kernel
theorem dX5_fit_67 : decode cX5_fit 67 = .ok (.iload 5, 2) := by decide +kernel
theorem dX5_fit_69 : decode cX5_fit 69 = .ok (.imul, 1) := by decide +kernel
theorem dX5_fit_70 : decode cX5_fit 70 = .ok (.iaload, 1) := by decide +kernel
theorem dX5_fit_71 : decode cX5_fit 71 = .ok (.iload_n 1, 1) := by decide +kernel
theorem dX5_fit_72 : decode cX5_fit 72 = .ok (.if_icmp .ne 42, 3) := by decide +kernel
theorem dX5_fit_75 : decode cX5_fit 75 = .ok (.aload_n 0, 1) := by decide +kernel
theorem dX5_fit_76 : decode cX5_fit 76 = .ok (.iload_n 3, 1) := by decide +kernel
theorem dX5_fit_77 : decode cX5_fit 77 = .ok (.aload_n 0, 1) := by decide +kernel
theorem dX5_fit_78 : decode cX5_fit 78 = .ok (.getfield 54, 3) := by decide +kernel
theorem dX5_fit_81 : decode cX5_fit 81 = .ok (.iconst 3, 1) := by decide +kernel
theorem dX5_fit_82 : decode cX5_fit 82 = .ok (.iload 5, 2) := by decide +kernel
theorem dX5_fit_84 : decode cX5_fit 84 = .ok (.imul, 1) := by decide +kernel
theorem dX5_fit_85 : decode cX5_fit 85 = .ok (.iconst 1, 1) := by decide +kernel
theorem dX5_fit_86 : decode cX5_fit 86 = .ok (.iadd, 1) := by decide +kernel
theorem dX5_fit_87 : decode cX5_fit 87 = .ok (.iaload, 1) := by decide +kernel
theorem dX5_fit_88 : decode cX5_fit 88 = .ok (.invokevirtual 278, 3) := by decide +kernel
theorem dX5_fit_91 : decode cX5_fit 91 = .ok (.aload_n 0, 1) := by decide +kernel
theorem dX5_fit_92 : decode cX5_fit 92 = .ok (.getfield 54, 3) := by decide +kernel
theorem dX5_fit_95 : decode cX5_fit 95 = .ok (.iconst 3, 1) := by decide +kernel
theorem dX5_fit_96 : decode cX5_fit 96 = .ok (.iload 5, 2) := by decide +kernel
theorem dX5_fit_98 : decode cX5_fit 98 = .ok (.imul, 1) := by decide +kernel
theorem dX5_fit_99 : decode cX5_fit 99 = .ok (.iconst 2, 1) := by decide +kernel
theorem dX5_fit_100 : decode cX5_fit 100 = .ok (.iadd, 1) := by decide +kernel
theorem dX5_fit_101 : decode cX5_fit 101 = .ok (.iaload, 1) := by decide +kernel
theorem dX5_fit_102 : decode cX5_fit 102 = .ok (.iconst 1, 1) := by decide +kernel
theorem dX5_fit_103 : decode cX5_fit 103 = .ok (.if_icmp .ne 7, 3) := by decide +kernel
theorem dX5_fit_106 : decode cX5_fit 106 = .ok (.iconst 1, 1) := by decide +kernel
theorem dX5_fit_107 : decode cX5_fit 107 = .ok (.goto 4, 3) := by decide +kernel
theorem dX5_fit_110 : decode cX5_fit 110 = .ok (.iconst 0, 1) := by decide +kernel
theorem dX5_fit_111 : decode cX5_fit 111 = .ok (.if_icmp .ne 7, 3) := by decide +kernel
theorem dX5_fit_114 : decode cX5_fit 114 = .ok (.iconst 1, 1) := by decide +kernel
theorem dX5_fit_115 : decode cX5_fit 115 = .ok (.goto 4, 3) := by decide +kernel
theorem dX5_fit_118 : decode cX5_fit 118 = .ok (.iconst 0, 1) := by decide +kernel
theorem dX5_fit_119 : decode cX5_fit 119 = .ok (.istore 4, 2) := by decide +kernel
theorem dX5_fit_121 : decode cX5_fit 121 = .ok (.iinc 5 1, 3) := by decide +kernel
theorem dX5_fit_124 : decode cX5_fit 124 = .ok (.goto (-76), 3) := by decide +kernel
theorem dX5_fit_127 : decode cX5_fit 127 = .ok (.iload_n 2, 1) := by decide +kernel
theorem dX5_fit_128 : decode cX5_fit 128 = .ok (.iload 4, 2) := by decide +kernel
theorem dX5_fit_130 : decode cX5_fit 130 = .ok (.ifCond .eq 9, 3) := by decide +kernel
theorem dX5_fit_133 : decode cX5_fit 133 = .ok (.iconst 1, 1) := by decide +kernel
theorem dX5_fit_134 : decode cX5_fit 134 = .ok (.iload_n 3, 1) := by decide +kernel
theorem dX5_fit_135 : decode cX5_fit 135 = .ok (.ishl, 1) := by decide +kernel
theorem dX5_fit_136 : decode cX5_fit 136 = .ok (.goto 4, 3) := by decide +kernel
theorem dX5_fit_139 : decode cX5_fit 139 = .ok (.iconst 0, 1) := by decide +kernel
theorem dX5_fit_140 : decode cX5_fit 140 = .ok (.ior, 1) := by decide +kernel
theorem dX5_fit_141 : decode cX5_fit 141 = .ok (.istore_n 2, 1) := by decide +kernel
theorem dX5_fit_142 : decode cX5_fit 142 = .ok (.iinc 3 1, 3) := by decide +kernel
theorem dX5_fit_145 : decode cX5_fit 145 = .ok (.goto (-130), 3) := by decide +kernel
theorem dX5_fit_148 : decode cX5_fit 148 = .ok (.iload_n 2, 1) := by decide +kernel
theorem dX5_fit_149 : decode cX5_fit 149 = .ok (.ireturn, 1) := by decide +kernel
theorem dX5_baths_0 : decode cX5_baths 0 = .ok (.iload_n 1, 1) := by decide +kernel
theorem dX5_baths_1 : decode cX5_baths 1 = .ok (.iconst 0, 1) := by decide +kernel
theorem dX5_baths_2 : decode cX5_baths 2 = .ok (.sipush 4095, 3) := by decide +kernel

theorem dX5_isLine_171 : decode cX5_isLine 171 = .ok (.bipush 10, 2) := by decide +kernel
theorem dX5_isLine_173 : decode cX5_isLine 173 = .ok (.goto 4, 3) := by decide +kernel
theorem dX5_isLine_176 : decode cX5_isLine 176 = .ok (.iconst (-1), 1) := by decide +kernel
theorem dX5_isLine_177 : decode cX5_isLine 177 = .ok (.istore_n 3, 1) := by decide +kernel
theorem dX5_isLine_178 : decode cX5_isLine 178 = .ok (.aload_n 0, 1) := by decide +kernel
theorem dX5_isLine_179 : decode cX5_isLine 179 = .ok (.getfield 29, 3) := by decide +kernel
theorem dX5_isLine_182 : decode cX5_isLine 182 = .ok (.iload_n 1, 1) := by decide +kernel
theorem dX5_isLine_183 : decode cX5_isLine 183 = .ok (.iload_n 2, 1) := by decide +kernel
theorem dX5_isLine_184 : decode cX5_isLine 184 = .ok (.iconst (-1), 1) := by decide +kernel
theorem dX5_isLine_185 : decode cX5_isLine 185 = .ok (.if_icmp .ne 7, 3) := by decide +kernel
theorem dX5_isLine_188 : decode cX5_isLine 188 = .ok (.iload_n 3, 1) := by decide +kernel
theorem dX5_isLine_189 : decode cX5_isLine 189 = .ok (.goto 4, 3) := by decide +kernel
theorem dX5_isLine_192 : decode cX5_isLine 192 = .ok (.iload_n 2, 1) := by decide +kernel
theorem dX5_isLine_193 : decode cX5_isLine 193 = .ok (.iastore, 1) := by decide +kernel
theorem dX5_isLine_194 : decode cX5_isLine 194 = .ok (.aload_n 0, 1) := by decide +kernel
theorem dX5_isLine_195 : decode cX5_isLine 195 = .ok (.getfield 29, 3) := by decide +kernel
theorem dX5_isLine_198 : decode cX5_isLine 198 = .ok (.iload_n 1, 1) := by decide +kernel
theorem dX5_isLine_199 : decode cX5_isLine 199 = .ok (.iaload, 1) := by decide +kernel
theorem dX5_isLine_200 : decode cX5_isLine 200 = .ok (.tableswitch 125 0 10 #[60, 60, 60, 60, 60, 66, 73, 104, 104, 114, 66], 60) := by decide +kernel
theorem dX5_isLine_260 : decode cX5_isLine 260 = .ok (.aload_n 0, 1) := by decide +kernel
theorem dX5_isLine_261 : decode cX5_isLine 261 = .ok (.iload_n 1, 1) := by decide +kernel
theorem dX5_isLine_262 : decode cX5_isLine 262 = .ok (.invokevirtual 160, 3) := by decide +kernel
theorem dX5_isLine_265 : decode cX5_isLine 265 = .ok (.ireturn, 1) := by decide +kernel
theorem dX5_isLine_266 : decode cX5_isLine 266 = .ok (.aload_n 0, 1) := by decide +kernel
theorem dX5_isLine_267 : decode cX5_isLine 267 = .ok (.iconst 0, 1) := by decide +kernel
theorem dX5_isLine_268 : decode cX5_isLine 268 = .ok (.putfield 132, 3) := by decide +kernel
theorem dX5_isLine_271 : decode cX5_isLine 271 = .ok (.iconst 1, 1) := by decide +kernel
theorem dX5_isLine_272 : decode cX5_isLine 272 = .ok (.ireturn, 1) := by decide +kernel
theorem dX5_isLine_273 : decode cX5_isLine 273 = .ok (.aload_n 0, 1) := by decide +kernel
theorem dX5_isLine_274 : decode cX5_isLine 274 = .ok (.iload_n 1, 1) := by decide +kernel
theorem dX5_isLine_275 : decode cX5_isLine 275 = .ok (.iconst 1, 1) := by decide +kernel
theorem dX5_isLine_276 : decode cX5_isLine 276 = .ok (.iadd, 1) := by decide +kernel
theorem dX5_isLine_277 : decode cX5_isLine 277 = .ok (.iconst 0, 1) := by decide +kernel
theorem dX5_isLine_278 : decode cX5_isLine 278 = .ok (.iconst 2, 1) := by decide +kernel
theorem dX5_isLine_279 : decode cX5_isLine 279 = .ok (.invokevirtual 135, 3) := by decide +kernel
theorem dX5_isLine_282 : decode cX5_isLine 282 = .ok (.ifCond .eq 20, 3) := by decide +kernel
theorem dX5_isLine_285 : decode cX5_isLine 285 = .ok (.aload_n 0, 1) := by decide +kernel
theorem dX5_isLine_286 : decode cX5_isLine 286 = .ok (.iload_n 1, 1) := by decide +kernel
theorem dX5_isLine_287 : decode cX5_isLine 287 = .ok (.iconst 2, 1) := by decide +kernel
theorem dX5_isLine_288 : decode cX5_isLine 288 = .ok (.iadd, 1) := by decide +kernel
theorem dX5_isLine_289 : decode cX5_isLine 289 = .ok (.iconst 0, 1) := by decide +kernel
theorem dX5_isLine_290 : decode cX5_isLine 290 = .ok (.bipush 99, 2) := by decide +kernel
theorem dX5_isLine_292 : decode cX5_isLine 292 = .ok (.invokevirtual 135, 3) := by decide +kernel
theorem dX5_isLine_295 : decode cX5_isLine 295 = .ok (.ifCond .eq 7, 3) := by decide +kernel
theorem dX5_isLine_298 : decode cX5_isLine 298 = .ok (.iconst 1, 1) := by decide +kernel
theorem dX5_isLine_299 : decode cX5_isLine 299 = .ok (.goto 4, 3) := by decide +kernel
theorem dX5_isLine_302 : decode cX5_isLine 302 = .ok (.iconst 0, 1) := by decide +kernel
theorem dX5_isLine_303 : decode cX5_isLine 303 = .ok (.ireturn, 1) := by decide +kernel
theorem dX5_isLine_304 : decode cX5_isLine 304 = .ok (.aload_n 0, 1) := by decide +kernel
theorem dX5_isLine_305 : decode cX5_isLine 305 = .ok (.iload_n 1, 1) := by decide +kernel
theorem dX5_isLine_306 : decode cX5_isLine 306 = .ok (.iconst 1, 1) := by decide +kernel
theorem dX5_isLine_307 : decode cX5_isLine 307 = .ok (.iadd, 1) := by decide +kernel
theorem dX5_isLine_308 : decode cX5_isLine 308 = .ok (.iconst 0, 1) := by decide +kernel
theorem dX5_isLine_309 : decode cX5_isLine 309 = .ok (.iconst 4, 1) := by decide +kernel
theorem dX5_isLine_310 : decode cX5_isLine 310 = .ok (.invokevirtual 135, 3) := by decide +kernel
theorem dX5_isLine_313 : decode cX5_isLine 313 = .ok (.ireturn, 1) := by decide +kernel
theorem dX5_isLine_314 : decode cX5_isLine 314 = .ok (.aload_n 0, 1) := by decide +kernel
theorem dX5_isLine_315 : decode cX5_isLine 315 = .ok (.iload_n 1, 1) := by decide +kernel
theorem dX5_isLine_316 : decode cX5_isLine 316 = .ok (.iconst 1, 1) := by decide +kernel
theorem dX5_isLine_317 : decode cX5_isLine 317 = .ok (.iadd, 1) := by decide +kernel
theorem dX5_isLine_318 : decode cX5_isLine 318 = .ok (.iconst 0, 1) := by decide +kernel
theorem dX5_isLine_319 : decode cX5_isLine 319 = .ok (.bipush 24, 2) := by decide +kernel
theorem dX5_isLine_321 : decode cX5_isLine 321 = .ok (.invokevirtual 135, 3) := by decide +kernel
theorem dX5_isLine_324 : decode cX5_isLine 324 = .ok (.ireturn, 1) := by decide +kernel
theorem dX5_isLine_325 : decode cX5_isLine 325 = .ok (.aload_n 0, 1) := by decide +kernel
theorem dX5_isLine_326 : decode cX5_isLine 326 = .ok (.invokevirtual 128, 3) := by decide +kernel
theorem dX5_isLine_329 : decode cX5_isLine 329 = .ok (.ireturn, 1) := by decide +kernel
theorem dX5_isRead_0 : decode cX5_isRead 0 = .ok (.aload_n 0, 1) := by decide +kernel
theorem dX5_isRead_1 : decode cX5_isRead 1 = .ok (.iconst 0, 1) := by decide +kernel
theorem dX5_isRead_2 : decode cX5_isRead 2 = .ok (.putfield 94, 3) := by decide +kernel
theorem dX5_isRead_5 : decode cX5_isRead 5 = .ok (.aload_n 0, 1) := by decide +kernel
theorem dX5_isRead_6 : decode cX5_isRead 6 = .ok (.iconst 0, 1) := by decide +kernel
theorem dX5_isRead_7 : decode cX5_isRead 7 = .ok (.putfield 164, 3) := by decide +kernel
theorem dX5_isRead_10 : decode cX5_isRead 10 = .ok (.aload_n 0, 1) := by decide +kernel
theorem dX5_isRead_11 : decode cX5_isRead 11 = .ok (.aload_n 0, 1) := by decide +kernel
theorem dX5_isRead_12 : decode cX5_isRead 12 = .ok (.getfield 72, 3) := by decide +kernel
theorem dX5_isRead_15 : decode cX5_isRead 15 = .ok (.putfield 132, 3) := by decide +kernel
theorem dX5_isRead_18 : decode cX5_isRead 18 = .ok (.iconst 1, 1) := by decide +kernel
theorem dX5_isRead_19 : decode cX5_isRead 19 = .ok (.istore_n 1, 1) := by decide +kernel
theorem dX5_isRead_20 : decode cX5_isRead 20 = .ok (.iload_n 1, 1) := by decide +kernel
theorem dX5_isRead_21 : decode cX5_isRead 21 = .ok (.ifCond .eq 61, 3) := by decide +kernel
theorem dX5_isRead_24 : decode cX5_isRead 24 = .ok (.aload_n 0, 1) := by decide +kernel
theorem dX5_isRead_25 : decode cX5_isRead 25 = .ok (.iconst 5, 1) := by decide +kernel
theorem dX5_isRead_26 : decode cX5_isRead 26 = .ok (.aload_n 0, 1) := by decide +kernel
theorem dX5_isRead_27 : decode cX5_isRead 27 = .ok (.getfield 164, 3) := by decide +kernel
theorem dX5_isRead_30 : decode cX5_isRead 30 = .ok (.imul, 1) := by decide +kernel
theorem dX5_isRead_31 : decode cX5_isRead 31 = .ok (.invokevirtual 167, 3) := by decide +kernel
theorem dX5_isRead_34 : decode cX5_isRead 34 = .ok (.ifCond .ne 5, 3) := by decide +kernel
theorem dX5_isRead_37 : decode cX5_isRead 37 = .ok (.iconst 0, 1) := by decide +kernel
theorem dX5_isRead_38 : decode cX5_isRead 38 = .ok (.ireturn, 1) := by decide +kernel
theorem dX5_isRead_39 : decode cX5_isRead 39 = .ok (.aload_n 0, 1) := by decide +kernel
theorem dX5_isRead_40 : decode cX5_isRead 40 = .ok (.dup, 1) := by decide +kernel
theorem dX5_isRead_41 : decode cX5_isRead 41 = .ok (.getfield 164, 3) := by decide +kernel
theorem dX5_isRead_44 : decode cX5_isRead 44 = .ok (.iconst 1, 1) := by decide +kernel
theorem dX5_isRead_45 : decode cX5_isRead 45 = .ok (.iadd, 1) := by decide +kernel
theorem dX5_isRead_46 : decode cX5_isRead 46 = .ok (.putfield 164, 3) := by decide +kernel
theorem dX5_isRead_49 : decode cX5_isRead 49 = .ok (.aload_n 0, 1) := by decide +kernel
theorem dX5_isRead_50 : decode cX5_isRead 50 = .ok (.invokevirtual 125, 3) := by decide +kernel
theorem dX5_isRead_53 : decode cX5_isRead 53 = .ok (.aload_n 0, 1) := by decide +kernel
theorem dX5_isRead_54 : decode cX5_isRead 54 = .ok (.getfield 108, 3) := by decide +kernel
theorem dX5_isRead_57 : decode cX5_isRead 57 = .ok (.ldc2_w 120, 3) := by decide +kernel
theorem dX5_isRead_60 : decode cX5_isRead 60 = .ok (.lcmp, 1) := by decide +kernel
theorem dX5_isRead_61 : decode cX5_isRead 61 = .ok (.ifCond .ne 16, 3) := by decide +kernel
theorem dX5_isRead_64 : decode cX5_isRead 64 = .ok (.aload_n 0, 1) := by decide +kernel
theorem dX5_isRead_65 : decode cX5_isRead 65 = .ok (.getfield 164, 3) := by decide +kernel
theorem dX5_isRead_68 : decode cX5_isRead 68 = .ok (.bipush 14, 2) := by decide +kernel
theorem dX5_isRead_70 : decode cX5_isRead 70 = .ok (.if_icmp .ge 7, 3) := by decide +kernel
theorem dX5_isRead_73 : decode cX5_isRead 73 = .ok (.iconst 1, 1) := by decide +kernel
theorem dX5_isRead_74 : decode cX5_isRead 74 = .ok (.goto 4, 3) := by decide +kernel
theorem dX5_isRead_77 : decode cX5_isRead 77 = .ok (.iconst 0, 1) := by decide +kernel
theorem dX5_isRead_78 : decode cX5_isRead 78 = .ok (.istore_n 1, 1) := by decide +kernel
theorem dX5_isRead_79 : decode cX5_isRead 79 = .ok (.goto (-59), 3) := by decide +kernel
theorem dX5_isRead_82 : decode cX5_isRead 82 = .ok (.aload_n 0, 1) := by decide +kernel
theorem dX5_isRead_83 : decode cX5_isRead 83 = .ok (.getfield 108, 3) := by decide +kernel
theorem dX5_isRead_86 : decode cX5_isRead 86 = .ok (.ldc2_w 106, 3) := by decide +kernel
theorem dX5_isRead_89 : decode cX5_isRead 89 = .ok (.lcmp, 1) := by decide +kernel
theorem dX5_isRead_90 : decode cX5_isRead 90 = .ok (.ifCond .eq 10, 3) := by decide +kernel
theorem dX5_isRead_93 : decode cX5_isRead 93 = .ok (.aload_n 0, 1) := by decide +kernel
theorem dX5_isRead_94 : decode cX5_isRead 94 = .ok (.invokevirtual 128, 3) := by decide +kernel
theorem dX5_isRead_97 : decode cX5_isRead 97 = .ok (.ifCond .eq 7, 3) := by decide +kernel
theorem dX5_isRead_100 : decode cX5_isRead 100 = .ok (.iconst 1, 1) := by decide +kernel
theorem dX5_isRead_101 : decode cX5_isRead 101 = .ok (.goto 4, 3) := by decide +kernel
theorem dX5_isRead_104 : decode cX5_isRead 104 = .ok (.iconst 0, 1) := by decide +kernel
theorem dX5_isRead_105 : decode cX5_isRead 105 = .ok (.ireturn, 1) := by decide +kernel
theorem dX5_fault_0 : decode cX5_fault 0 = .ok (.aload_n 0, 1) := by decide +kernel
theorem dX5_fault_1 : decode cX5_fault 1 = .ok (.invokevirtual 170, 3) := by decide +kernel
theorem dX5_fault_4 : decode cX5_fault 4 = .ok (.ifCond .eq 7, 3) := by decide +kernel
theorem dX5_fault_7 : decode cX5_fault 7 = .ok (.iconst (-1), 1) := by decide +kernel
theorem dX5_fault_8 : decode cX5_fault 8 = .ok (.goto 7, 3) := by decide +kernel
theorem dX5_fault_11 : decode cX5_fault 11 = .ok (.aload_n 0, 1) := by decide +kernel
theorem dX5_fault_12 : decode cX5_fault 12 = .ok (.getfield 122, 3) := by decide +kernel
theorem dX5_fault_15 : decode cX5_fault 15 = .ok (.ireturn, 1) := by decide +kernel
theorem dX5_doLine_0 : decode cX5_doLine 0 = .ok (.aload_n 0, 1) := by decide +kernel
theorem dX5_doLine_1 : decode cX5_doLine 1 = .ok (.getfield 29, 3) := by decide +kernel
theorem dX5_doLine_4 : decode cX5_doLine 4 = .ok (.iload_n 1, 1) := by decide +kernel
theorem dX5_doLine_5 : decode cX5_doLine 5 = .ok (.iconst 1, 1) := by decide +kernel
theorem dX5_doLine_6 : decode cX5_doLine 6 = .ok (.iadd, 1) := by decide +kernel
theorem dX5_doLine_7 : decode cX5_doLine 7 = .ok (.iaload, 1) := by decide +kernel
theorem dX5_doLine_8 : decode cX5_doLine 8 = .ok (.istore_n 2, 1) := by decide +kernel
theorem dX5_doLine_9 : decode cX5_doLine 9 = .ok (.aload_n 0, 1) := by decide +kernel
theorem dX5_doLine_10 : decode cX5_doLine 10 = .ok (.getfield 29, 3) := by decide +kernel
theorem dX5_doLine_13 : decode cX5_doLine 13 = .ok (.iload_n 1, 1) := by decide +kernel
theorem dX5_doLine_14 : decode cX5_doLine 14 = .ok (.iaload, 1) := by decide +kernel
theorem dX5_doLine_15 : decode cX5_doLine 15 = .ok (.tableswitch 93 5 10 #[37, 44, 61, 69, 77, 85], 37) := by decide +kernel
theorem dX5_doLine_52 : decode cX5_doLine 52 = .ok (.aload_n 0, 1) := by decide +kernel
theorem dX5_doLine_53 : decode cX5_doLine 53 = .ok (.invokevirtual 66, 3) := by decide +kernel
theorem dX5_doLine_56 : decode cX5_doLine 56 = .ok (.goto 96, 3) := by decide +kernel
theorem dX5_doLine_59 : decode cX5_doLine 59 = .ok (.aload_n 0, 1) := by decide +kernel
theorem dX5_doLine_60 : decode cX5_doLine 60 = .ok (.getfield 13, 3) := by decide +kernel
theorem dX5_doLine_63 : decode cX5_doLine 63 = .ok (.iload_n 2, 1) := by decide +kernel
theorem dX5_doLine_64 : decode cX5_doLine 64 = .ok (.aload_n 0, 1) := by decide +kernel
theorem dX5_doLine_65 : decode cX5_doLine 65 = .ok (.getfield 29, 3) := by decide +kernel
theorem dX5_doLine_68 : decode cX5_doLine 68 = .ok (.iload_n 1, 1) := by decide +kernel
theorem dX5_doLine_69 : decode cX5_doLine 69 = .ok (.iconst 2, 1) := by decide +kernel
theorem dX5_doLine_70 : decode cX5_doLine 70 = .ok (.iadd, 1) := by decide +kernel
theorem dX5_doLine_71 : decode cX5_doLine 71 = .ok (.iaload, 1) := by decide +kernel
theorem dX5_doLine_72 : decode cX5_doLine 72 = .ok (.iastore, 1) := by decide +kernel
theorem dX5_doLine_73 : decode cX5_doLine 73 = .ok (.goto 79, 3) := by decide +kernel
theorem dX5_doLine_76 : decode cX5_doLine 76 = .ok (.aload_n 0, 1) := by decide +kernel
theorem dX5_doLine_77 : decode cX5_doLine 77 = .ok (.iload_n 2, 1) := by decide +kernel
theorem dX5_doLine_78 : decode cX5_doLine 78 = .ok (.putfield 16, 3) := by decide +kernel
theorem dX5_doLine_81 : decode cX5_doLine 81 = .ok (.goto 71, 3) := by decide +kernel
theorem dX5_doLine_84 : decode cX5_doLine 84 = .ok (.aload_n 0, 1) := by decide +kernel
theorem dX5_doLine_85 : decode cX5_doLine 85 = .ok (.iload_n 2, 1) := by decide +kernel
theorem dX5_doLine_86 : decode cX5_doLine 86 = .ok (.putfield 20, 3) := by decide +kernel
theorem dX5_doLine_89 : decode cX5_doLine 89 = .ok (.goto 63, 3) := by decide +kernel
theorem dX5_doLine_92 : decode cX5_doLine 92 = .ok (.aload_n 0, 1) := by decide +kernel
theorem dX5_doLine_93 : decode cX5_doLine 93 = .ok (.iload_n 2, 1) := by decide +kernel
theorem dX5_doLine_94 : decode cX5_doLine 94 = .ok (.putfield 23, 3) := by decide +kernel
theorem dX5_doLine_97 : decode cX5_doLine 97 = .ok (.goto 55, 3) := by decide +kernel
theorem dX5_doLine_100 : decode cX5_doLine 100 = .ok (.aload_n 0, 1) := by decide +kernel
theorem dX5_doLine_101 : decode cX5_doLine 101 = .ok (.iconst 0, 1) := by decide +kernel
theorem dX5_doLine_102 : decode cX5_doLine 102 = .ok (.putfield 72, 3) := by decide +kernel
theorem dX5_doLine_105 : decode cX5_doLine 105 = .ok (.goto 47, 3) := by decide +kernel
theorem dX5_doLine_108 : decode cX5_doLine 108 = .ok (.iconst 0, 1) := by decide +kernel
theorem dX5_doLine_109 : decode cX5_doLine 109 = .ok (.istore_n 3, 1) := by decide +kernel
theorem dX5_doLine_110 : decode cX5_doLine 110 = .ok (.iload_n 3, 1) := by decide +kernel
theorem dX5_doLine_111 : decode cX5_doLine 111 = .ok (.iconst 4, 1) := by decide +kernel
theorem dX5_doLine_112 : decode cX5_doLine 112 = .ok (.if_icmp .ge 30, 3) := by decide +kernel
theorem dX5_doLine_115 : decode cX5_doLine 115 = .ok (.aload_n 0, 1) := by decide +kernel
theorem dX5_doLine_116 : decode cX5_doLine 116 = .ok (.getfield 7, 3) := by decide +kernel
theorem dX5_doLine_119 : decode cX5_doLine 119 = .ok (.iconst 4, 1) := by decide +kernel
theorem dX5_doLine_120 : decode cX5_doLine 120 = .ok (.aload_n 0, 1) := by decide +kernel
theorem dX5_doLine_121 : decode cX5_doLine 121 = .ok (.getfield 72, 3) := by decide +kernel
theorem dX5_doLine_124 : decode cX5_doLine 124 = .ok (.imul, 1) := by decide +kernel
theorem dX5_doLine_125 : decode cX5_doLine 125 = .ok (.iload_n 3, 1) := by decide +kernel
theorem dX5_doLine_126 : decode cX5_doLine 126 = .ok (.iadd, 1) := by decide +kernel
theorem dX5_doLine_127 : decode cX5_doLine 127 = .ok (.aload_n 0, 1) := by decide +kernel
theorem dX5_doLine_128 : decode cX5_doLine 128 = .ok (.getfield 29, 3) := by decide +kernel
theorem dX5_doLine_131 : decode cX5_doLine 131 = .ok (.iload_n 1, 1) := by decide +kernel
theorem dX5_doLine_132 : decode cX5_doLine 132 = .ok (.iload_n 3, 1) := by decide +kernel
theorem dX5_doLine_133 : decode cX5_doLine 133 = .ok (.iadd, 1) := by decide +kernel
theorem dX5_doLine_134 : decode cX5_doLine 134 = .ok (.iaload, 1) := by decide +kernel
theorem dX5_doLine_135 : decode cX5_doLine 135 = .ok (.iastore, 1) := by decide +kernel
theorem dX5_doLine_136 : decode cX5_doLine 136 = .ok (.iinc 3 1, 3) := by decide +kernel
theorem dX5_doLine_139 : decode cX5_doLine 139 = .ok (.goto (-29), 3) := by decide +kernel
theorem dX5_doLine_142 : decode cX5_doLine 142 = .ok (.aload_n 0, 1) := by decide +kernel
theorem dX5_doLine_143 : decode cX5_doLine 143 = .ok (.dup, 1) := by decide +kernel
theorem dX5_doLine_144 : decode cX5_doLine 144 = .ok (.getfield 72, 3) := by decide +kernel
theorem dX5_doLine_147 : decode cX5_doLine 147 = .ok (.iconst 1, 1) := by decide +kernel
theorem dX5_doLine_148 : decode cX5_doLine 148 = .ok (.iadd, 1) := by decide +kernel
theorem dX5_doLine_149 : decode cX5_doLine 149 = .ok (.putfield 72, 3) := by decide +kernel
theorem dX5_doLine_152 : decode cX5_doLine 152 = .ok (.return_, 1) := by decide +kernel
theorem dX5_court_0 : decode cX5_court 0 = .ok (.aload_n 0, 1) := by decide +kernel
theorem dX5_court_1 : decode cX5_court 1 = .ok (.invokevirtual 170, 3) := by decide +kernel
theorem dX5_court_4 : decode cX5_court 4 = .ok (.ifCond .ne 6, 3) := by decide +kernel
theorem dX5_court_7 : decode cX5_court 7 = .ok (.bipush (-4), 2) := by decide +kernel
theorem dX5_court_9 : decode cX5_court 9 = .ok (.ireturn, 1) := by decide +kernel
theorem dX5_court_10 : decode cX5_court 10 = .ok (.iconst 0, 1) := by decide +kernel
theorem dX5_court_11 : decode cX5_court 11 = .ok (.istore_n 1, 1) := by decide +kernel
theorem dX5_court_12 : decode cX5_court 12 = .ok (.iload_n 1, 1) := by decide +kernel
theorem dX5_court_13 : decode cX5_court 13 = .ok (.aload_n 0, 1) := by decide +kernel
theorem dX5_court_14 : decode cX5_court 14 = .ok (.getfield 164, 3) := by decide +kernel
theorem dX5_court_17 : decode cX5_court 17 = .ok (.if_icmp .ge 16, 3) := by decide +kernel
theorem dX5_court_20 : decode cX5_court 20 = .ok (.aload_n 0, 1) := by decide +kernel
theorem dX5_court_21 : decode cX5_court 21 = .ok (.iconst 5, 1) := by decide +kernel
theorem dX5_court_22 : decode cX5_court 22 = .ok (.iload_n 1, 1) := by decide +kernel
theorem dX5_court_23 : decode cX5_court 23 = .ok (.imul, 1) := by decide +kernel
theorem dX5_court_24 : decode cX5_court 24 = .ok (.invokevirtual 173, 3) := by decide +kernel
theorem dX5_court_27 : decode cX5_court 27 = .ok (.iinc 1 1, 3) := by decide +kernel
theorem dX5_court_30 : decode cX5_court 30 = .ok (.goto (-18), 3) := by decide +kernel
theorem dX5_court_33 : decode cX5_court 33 = .ok (.aload_n 0, 1) := by decide +kernel
theorem dX5_court_34 : decode cX5_court 34 = .ok (.iconst 0, 1) := by decide +kernel
theorem dX5_court_35 : decode cX5_court 35 = .ok (.putfield 91, 3) := by decide +kernel
theorem dX5_court_38 : decode cX5_court 38 = .ok (.aload_n 0, 1) := by decide +kernel
theorem dX5_court_39 : decode cX5_court 39 = .ok (.invokevirtual 69, 3) := by decide +kernel
theorem dX5_court_42 : decode cX5_court 42 = .ok (.aload_n 0, 1) := by decide +kernel
theorem dX5_court_43 : decode cX5_court 43 = .ok (.getfield 164, 3) := by decide +kernel
theorem dX5_court_46 : decode cX5_court 46 = .ok (.ireturn, 1) := by decide +kernel
theorem dX5_weighs_0 : decode cX5_weighs 0 = .ok (.aload_n 1, 1) := by decide +kernel
theorem dX5_weighs_1 : decode cX5_weighs 1 = .ok (.bipush 8, 2) := by decide +kernel
theorem dX5_weighs_3 : decode cX5_weighs 3 = .ok (.iaload, 1) := by decide +kernel
theorem dX5_weighs_4 : decode cX5_weighs 4 = .ok (.iload_n 2, 1) := by decide +kernel
theorem dX5_weighs_5 : decode cX5_weighs 5 = .ok (.invokestatic 177, 3) := by decide +kernel
theorem dX5_weighs_8 : decode cX5_weighs 8 = .ok (.ifCond .eq 7, 3) := by decide +kernel
theorem dX5_weighs_11 : decode cX5_weighs 11 = .ok (.iconst 0, 1) := by decide +kernel
theorem dX5_weighs_12 : decode cX5_weighs 12 = .ok (.goto 34, 3) := by decide +kernel
theorem dX5_weighs_15 : decode cX5_weighs 15 = .ok (.aload_n 1, 1) := by decide +kernel
theorem dX5_weighs_16 : decode cX5_weighs 16 = .ok (.iload_n 2, 1) := by decide +kernel
theorem dX5_weighs_17 : decode cX5_weighs 17 = .ok (.iaload, 1) := by decide +kernel
theorem dX5_weighs_18 : decode cX5_weighs 18 = .ok (.ifCond .le 18, 3) := by decide +kernel
theorem dX5_weighs_21 : decode cX5_weighs 21 = .ok (.iconst 3, 1) := by decide +kernel
theorem dX5_weighs_22 : decode cX5_weighs 22 = .ok (.aload_n 0, 1) := by decide +kernel
theorem dX5_weighs_23 : decode cX5_weighs 23 = .ok (.getfield 7, 3) := by decide +kernel
theorem dX5_weighs_26 : decode cX5_weighs 26 = .ok (.iconst 4, 1) := by decide +kernel
theorem dX5_weighs_27 : decode cX5_weighs 27 = .ok (.iload_n 2, 1) := by decide +kernel
theorem dX5_weighs_28 : decode cX5_weighs 28 = .ok (.imul, 1) := by decide +kernel
theorem dX5_weighs_29 : decode cX5_weighs 29 = .ok (.iconst 1, 1) := by decide +kernel
theorem dX5_weighs_30 : decode cX5_weighs 30 = .ok (.iadd, 1) := by decide +kernel
theorem dX5_weighs_31 : decode cX5_weighs 31 = .ok (.iaload, 1) := by decide +kernel
theorem dX5_weighs_32 : decode cX5_weighs 32 = .ok (.imul, 1) := by decide +kernel
theorem dX5_weighs_33 : decode cX5_weighs 33 = .ok (.goto 13, 3) := by decide +kernel
theorem dX5_weighs_36 : decode cX5_weighs 36 = .ok (.aload_n 0, 1) := by decide +kernel
theorem dX5_weighs_37 : decode cX5_weighs 37 = .ok (.getfield 7, 3) := by decide +kernel
theorem dX5_weighs_40 : decode cX5_weighs 40 = .ok (.iconst 4, 1) := by decide +kernel
theorem dX5_weighs_41 : decode cX5_weighs 41 = .ok (.iload_n 2, 1) := by decide +kernel
theorem dX5_weighs_42 : decode cX5_weighs 42 = .ok (.imul, 1) := by decide +kernel
theorem dX5_weighs_43 : decode cX5_weighs 43 = .ok (.iconst 1, 1) := by decide +kernel
theorem dX5_weighs_44 : decode cX5_weighs 44 = .ok (.iadd, 1) := by decide +kernel
theorem dX5_weighs_45 : decode cX5_weighs 45 = .ok (.iaload, 1) := by decide +kernel
theorem dX5_weighs_46 : decode cX5_weighs 46 = .ok (.ireturn, 1) := by decide +kernel
theorem dX5_loadOf_0 : decode cX5_loadOf 0 = .ok (.iconst 0, 1) := by decide +kernel
theorem dX5_loadOf_1 : decode cX5_loadOf 1 = .ok (.istore_n 3, 1) := by decide +kernel
theorem dX5_loadOf_2 : decode cX5_loadOf 2 = .ok (.iconst 0, 1) := by decide +kernel
theorem dX5_loadOf_3 : decode cX5_loadOf 3 = .ok (.istore 4, 2) := by decide +kernel
theorem dX5_loadOf_5 : decode cX5_loadOf 5 = .ok (.iload 4, 2) := by decide +kernel
theorem dX5_loadOf_7 : decode cX5_loadOf 7 = .ok (.aload_n 0, 1) := by decide +kernel
theorem dX5_loadOf_8 : decode cX5_loadOf 8 = .ok (.getfield 72, 3) := by decide +kernel
theorem dX5_loadOf_11 : decode cX5_loadOf 11 = .ok (.if_icmp .ge 33, 3) := by decide +kernel
theorem dX5_loadOf_14 : decode cX5_loadOf 14 = .ok (.iload_n 3, 1) := by decide +kernel
theorem dX5_loadOf_15 : decode cX5_loadOf 15 = .ok (.aload_n 0, 1) := by decide +kernel
theorem dX5_loadOf_16 : decode cX5_loadOf 16 = .ok (.iload 4, 2) := by decide +kernel
theorem dX5_loadOf_18 : decode cX5_loadOf 18 = .ok (.invokevirtual 181, 3) := by decide +kernel
theorem dX5_loadOf_21 : decode cX5_loadOf 21 = .ok (.iload_n 2, 1) := by decide +kernel
theorem dX5_loadOf_22 : decode cX5_loadOf 22 = .ok (.if_icmp .ne 13, 3) := by decide +kernel
theorem dX5_loadOf_25 : decode cX5_loadOf 25 = .ok (.aload_n 0, 1) := by decide +kernel
theorem dX5_loadOf_26 : decode cX5_loadOf 26 = .ok (.aload_n 1, 1) := by decide +kernel
theorem dX5_loadOf_27 : decode cX5_loadOf 27 = .ok (.iload 4, 2) := by decide +kernel
theorem dX5_loadOf_29 : decode cX5_loadOf 29 = .ok (.invokevirtual 185, 3) := by decide +kernel
theorem dX5_loadOf_32 : decode cX5_loadOf 32 = .ok (.goto 4, 3) := by decide +kernel
theorem dX5_loadOf_35 : decode cX5_loadOf 35 = .ok (.iconst 0, 1) := by decide +kernel
theorem dX5_loadOf_36 : decode cX5_loadOf 36 = .ok (.iadd, 1) := by decide +kernel
theorem dX5_loadOf_37 : decode cX5_loadOf 37 = .ok (.istore_n 3, 1) := by decide +kernel
theorem dX5_loadOf_38 : decode cX5_loadOf 38 = .ok (.iinc 4 1, 3) := by decide +kernel
theorem dX5_loadOf_41 : decode cX5_loadOf 41 = .ok (.goto (-36), 3) := by decide +kernel
theorem dX5_loadOf_44 : decode cX5_loadOf 44 = .ok (.iload_n 3, 1) := by decide +kernel
theorem dX5_loadOf_45 : decode cX5_loadOf 45 = .ok (.ireturn, 1) := by decide +kernel
theorem dX5_isThere_0 : decode cX5_isThere 0 = .ok (.aload_n 1, 1) := by decide +kernel
theorem dX5_isThere_1 : decode cX5_isThere 1 = .ok (.bipush 8, 2) := by decide +kernel
theorem dX5_isThere_3 : decode cX5_isThere 3 = .ok (.iaload, 1) := by decide +kernel
theorem dX5_isThere_4 : decode cX5_isThere 4 = .ok (.iload_n 2, 1) := by decide +kernel
theorem dX5_isThere_5 : decode cX5_isThere 5 = .ok (.invokestatic 177, 3) := by decide +kernel
theorem dX5_isThere_8 : decode cX5_isThere 8 = .ok (.ifCond .ne 22, 3) := by decide +kernel
theorem dX5_isThere_11 : decode cX5_isThere 11 = .ok (.aload_n 1, 1) := by decide +kernel
theorem dX5_isThere_12 : decode cX5_isThere 12 = .ok (.bipush 9, 2) := by decide +kernel
theorem dX5_isThere_14 : decode cX5_isThere 14 = .ok (.iaload, 1) := by decide +kernel
theorem dX5_isThere_15 : decode cX5_isThere 15 = .ok (.aload_n 0, 1) := by decide +kernel
theorem dX5_isThere_16 : decode cX5_isThere 16 = .ok (.iload_n 2, 1) := by decide +kernel
theorem dX5_isThere_17 : decode cX5_isThere 17 = .ok (.invokevirtual 181, 3) := by decide +kernel
theorem dX5_isThere_20 : decode cX5_isThere 20 = .ok (.invokestatic 177, 3) := by decide +kernel
theorem dX5_isThere_23 : decode cX5_isThere 23 = .ok (.ifCond .ne 7, 3) := by decide +kernel
theorem dX5_isThere_26 : decode cX5_isThere 26 = .ok (.iconst 1, 1) := by decide +kernel
theorem dX5_isThere_27 : decode cX5_isThere 27 = .ok (.goto 4, 3) := by decide +kernel
theorem dX5_isThere_30 : decode cX5_isThere 30 = .ok (.iconst 0, 1) := by decide +kernel
theorem dX5_isThere_31 : decode cX5_isThere 31 = .ok (.ireturn, 1) := by decide +kernel
theorem dX5_priceOf_0 : decode cX5_priceOf 0 = .ok (.aload_n 0, 1) := by decide +kernel
theorem dX5_priceOf_1 : decode cX5_priceOf 1 = .ok (.aload_n 1, 1) := by decide +kernel
theorem dX5_priceOf_2 : decode cX5_priceOf 2 = .ok (.iload_n 2, 1) := by decide +kernel
theorem dX5_priceOf_3 : decode cX5_priceOf 3 = .ok (.invokevirtual 189, 3) := by decide +kernel
theorem dX5_priceOf_6 : decode cX5_priceOf 6 = .ok (.ifCond .ne 7, 3) := by decide +kernel
theorem dX5_priceOf_9 : decode cX5_priceOf 9 = .ok (.iconst 0, 1) := by decide +kernel
theorem dX5_priceOf_10 : decode cX5_priceOf 10 = .ok (.goto 34, 3) := by decide +kernel
theorem dX5_priceOf_13 : decode cX5_priceOf 13 = .ok (.aload_n 1, 1) := by decide +kernel
theorem dX5_priceOf_14 : decode cX5_priceOf 14 = .ok (.iload_n 2, 1) := by decide +kernel
theorem dX5_priceOf_15 : decode cX5_priceOf 15 = .ok (.iaload, 1) := by decide +kernel
theorem dX5_priceOf_16 : decode cX5_priceOf 16 = .ok (.ifCond .le 18, 3) := by decide +kernel
theorem dX5_priceOf_19 : decode cX5_priceOf 19 = .ok (.iconst 3, 1) := by decide +kernel
theorem dX5_priceOf_20 : decode cX5_priceOf 20 = .ok (.aload_n 0, 1) := by decide +kernel
theorem dX5_priceOf_21 : decode cX5_priceOf 21 = .ok (.getfield 7, 3) := by decide +kernel
theorem dX5_priceOf_24 : decode cX5_priceOf 24 = .ok (.iconst 4, 1) := by decide +kernel
theorem dX5_priceOf_25 : decode cX5_priceOf 25 = .ok (.iload_n 2, 1) := by decide +kernel
theorem dX5_priceOf_26 : decode cX5_priceOf 26 = .ok (.imul, 1) := by decide +kernel
theorem dX5_priceOf_27 : decode cX5_priceOf 27 = .ok (.iconst 1, 1) := by decide +kernel
theorem dX5_priceOf_28 : decode cX5_priceOf 28 = .ok (.iadd, 1) := by decide +kernel
theorem dX5_priceOf_29 : decode cX5_priceOf 29 = .ok (.iaload, 1) := by decide +kernel
theorem dX5_priceOf_30 : decode cX5_priceOf 30 = .ok (.imul, 1) := by decide +kernel
theorem dX5_priceOf_31 : decode cX5_priceOf 31 = .ok (.goto 13, 3) := by decide +kernel
theorem dX5_priceOf_34 : decode cX5_priceOf 34 = .ok (.aload_n 0, 1) := by decide +kernel
theorem dX5_priceOf_35 : decode cX5_priceOf 35 = .ok (.getfield 7, 3) := by decide +kernel
theorem dX5_priceOf_38 : decode cX5_priceOf 38 = .ok (.iconst 4, 1) := by decide +kernel
theorem dX5_priceOf_39 : decode cX5_priceOf 39 = .ok (.iload_n 2, 1) := by decide +kernel
theorem dX5_priceOf_40 : decode cX5_priceOf 40 = .ok (.imul, 1) := by decide +kernel
theorem dX5_priceOf_41 : decode cX5_priceOf 41 = .ok (.iconst 2, 1) := by decide +kernel
theorem dX5_priceOf_42 : decode cX5_priceOf 42 = .ok (.iadd, 1) := by decide +kernel
theorem dX5_priceOf_43 : decode cX5_priceOf 43 = .ok (.iaload, 1) := by decide +kernel
theorem dX5_priceOf_44 : decode cX5_priceOf 44 = .ok (.ireturn, 1) := by decide +kernel
theorem dX5_pricesOf_0 : decode cX5_pricesOf 0 = .ok (.iconst 0, 1) := by decide +kernel
theorem dX5_pricesOf_1 : decode cX5_pricesOf 1 = .ok (.istore_n 2, 1) := by decide +kernel
theorem dX5_pricesOf_2 : decode cX5_pricesOf 2 = .ok (.iconst 0, 1) := by decide +kernel
theorem dX5_pricesOf_3 : decode cX5_pricesOf 3 = .ok (.istore_n 3, 1) := by decide +kernel
theorem dX5_pricesOf_4 : decode cX5_pricesOf 4 = .ok (.iload_n 3, 1) := by decide +kernel
theorem dX5_pricesOf_5 : decode cX5_pricesOf 5 = .ok (.aload_n 0, 1) := by decide +kernel
theorem dX5_pricesOf_6 : decode cX5_pricesOf 6 = .ok (.getfield 72, 3) := by decide +kernel
theorem dX5_pricesOf_9 : decode cX5_pricesOf 9 = .ok (.if_icmp .ge 18, 3) := by decide +kernel
theorem dX5_pricesOf_12 : decode cX5_pricesOf 12 = .ok (.iload_n 2, 1) := by decide +kernel
theorem dX5_pricesOf_13 : decode cX5_pricesOf 13 = .ok (.aload_n 0, 1) := by decide +kernel
theorem dX5_pricesOf_14 : decode cX5_pricesOf 14 = .ok (.aload_n 1, 1) := by decide +kernel
theorem dX5_pricesOf_15 : decode cX5_pricesOf 15 = .ok (.iload_n 3, 1) := by decide +kernel
theorem dX5_pricesOf_16 : decode cX5_pricesOf 16 = .ok (.invokevirtual 193, 3) := by decide +kernel
theorem dX5_pricesOf_19 : decode cX5_pricesOf 19 = .ok (.iadd, 1) := by decide +kernel
theorem dX5_pricesOf_20 : decode cX5_pricesOf 20 = .ok (.istore_n 2, 1) := by decide +kernel
theorem dX5_pricesOf_21 : decode cX5_pricesOf 21 = .ok (.iinc 3 1, 3) := by decide +kernel
theorem dX5_pricesOf_24 : decode cX5_pricesOf 24 = .ok (.goto (-20), 3) := by decide +kernel
theorem dX5_pricesOf_27 : decode cX5_pricesOf 27 = .ok (.iload_n 2, 1) := by decide +kernel
theorem dX5_pricesOf_28 : decode cX5_pricesOf 28 = .ok (.ireturn, 1) := by decide +kernel
theorem dX5_thing_0 : decode cX5_thing 0 = .ok (.aload_n 0, 1) := by decide +kernel
theorem dX5_thing_1 : decode cX5_thing 1 = .ok (.iload_n 1, 1) := by decide +kernel
theorem dX5_thing_2 : decode cX5_thing 2 = .ok (.invokevirtual 196, 3) := by decide +kernel
theorem dX5_thing_5 : decode cX5_thing 5 = .ok (.ifCond .ne 6, 3) := by decide +kernel
theorem dX5_thing_8 : decode cX5_thing 8 = .ok (.bipush (-2), 2) := by decide +kernel
theorem dX5_thing_10 : decode cX5_thing 10 = .ok (.ireturn, 1) := by decide +kernel
theorem dX5_thing_11 : decode cX5_thing 11 = .ok (.iload_n 2, 1) := by decide +kernel
theorem dX5_thing_12 : decode cX5_thing 12 = .ok (.tableswitch 84 0 6 #[44, 44, 44, 44, 55, 62, 74], 44) := by decide +kernel
theorem dX5_thing_56 : decode cX5_thing 56 = .ok (.aload_n 0, 1) := by decide +kernel
theorem dX5_thing_57 : decode cX5_thing 57 = .ok (.getfield 7, 3) := by decide +kernel
theorem dX5_thing_60 : decode cX5_thing 60 = .ok (.iconst 4, 1) := by decide +kernel
theorem dX5_thing_61 : decode cX5_thing 61 = .ok (.iload_n 1, 1) := by decide +kernel
theorem dX5_thing_62 : decode cX5_thing 62 = .ok (.imul, 1) := by decide +kernel
theorem dX5_thing_63 : decode cX5_thing 63 = .ok (.iload_n 2, 1) := by decide +kernel
theorem dX5_thing_64 : decode cX5_thing 64 = .ok (.iadd, 1) := by decide +kernel
theorem dX5_thing_65 : decode cX5_thing 65 = .ok (.iaload, 1) := by decide +kernel
theorem dX5_thing_66 : decode cX5_thing 66 = .ok (.ireturn, 1) := by decide +kernel
theorem dX5_thing_67 : decode cX5_thing 67 = .ok (.aload_n 0, 1) := by decide +kernel
theorem dX5_thing_68 : decode cX5_thing 68 = .ok (.getfield 32, 3) := by decide +kernel
theorem dX5_thing_71 : decode cX5_thing 71 = .ok (.iload_n 1, 1) := by decide +kernel
theorem dX5_thing_72 : decode cX5_thing 72 = .ok (.iaload, 1) := by decide +kernel
theorem dX5_thing_73 : decode cX5_thing 73 = .ok (.ireturn, 1) := by decide +kernel
theorem dX5_thing_74 : decode cX5_thing 74 = .ok (.aload_n 0, 1) := by decide +kernel
theorem dX5_thing_75 : decode cX5_thing 75 = .ok (.getfield 32, 3) := by decide +kernel
theorem dX5_thing_78 : decode cX5_thing 78 = .ok (.bipush 8, 2) := by decide +kernel
theorem dX5_thing_80 : decode cX5_thing 80 = .ok (.iaload, 1) := by decide +kernel
theorem dX5_thing_81 : decode cX5_thing 81 = .ok (.iload_n 1, 1) := by decide +kernel
theorem dX5_thing_82 : decode cX5_thing 82 = .ok (.ishr, 1) := by decide +kernel
theorem dX5_thing_83 : decode cX5_thing 83 = .ok (.iconst 1, 1) := by decide +kernel
theorem dX5_thing_84 : decode cX5_thing 84 = .ok (.iand, 1) := by decide +kernel
theorem dX5_thing_85 : decode cX5_thing 85 = .ok (.ireturn, 1) := by decide +kernel
theorem dX5_thing_86 : decode cX5_thing 86 = .ok (.aload_n 0, 1) := by decide +kernel
theorem dX5_thing_87 : decode cX5_thing 87 = .ok (.aload_n 0, 1) := by decide +kernel
theorem dX5_thing_88 : decode cX5_thing 88 = .ok (.getfield 32, 3) := by decide +kernel
theorem dX5_thing_91 : decode cX5_thing 91 = .ok (.iload_n 1, 1) := by decide +kernel
theorem dX5_thing_92 : decode cX5_thing 92 = .ok (.invokevirtual 193, 3) := by decide +kernel
theorem dX5_thing_95 : decode cX5_thing 95 = .ok (.ireturn, 1) := by decide +kernel
theorem dX5_thing_96 : decode cX5_thing 96 = .ok (.bipush (-3), 2) := by decide +kernel
theorem dX5_thing_98 : decode cX5_thing 98 = .ok (.ireturn, 1) := by decide +kernel
theorem dX5_as_0 : decode cX5_as 0 = .ok (.aload_n 0, 1) := by decide +kernel
theorem dX5_as_1 : decode cX5_as 1 = .ok (.iload_n 1, 1) := by decide +kernel
theorem dX5_as_2 : decode cX5_as 2 = .ok (.invokevirtual 196, 3) := by decide +kernel
theorem dX5_as_5 : decode cX5_as 5 = .ok (.ifCond .ne 6, 3) := by decide +kernel
theorem dX5_as_8 : decode cX5_as 8 = .ok (.bipush (-2), 2) := by decide +kernel
theorem dX5_as_10 : decode cX5_as 10 = .ok (.ireturn, 1) := by decide +kernel
theorem dX5_as_11 : decode cX5_as 11 = .ok (.iload_n 2, 1) := by decide +kernel
theorem dX5_as_12 : decode cX5_as 12 = .ok (.iconst 0, 1) := by decide +kernel
theorem dX5_as_13 : decode cX5_as 13 = .ok (.iconst 5, 1) := by decide +kernel
theorem dX5_as_14 : decode cX5_as 14 = .ok (.invokestatic 87, 3) := by decide +kernel
theorem dX5_as_17 : decode cX5_as 17 = .ok (.ifCond .ne 6, 3) := by decide +kernel
theorem dX5_as_20 : decode cX5_as 20 = .ok (.bipush (-3), 2) := by decide +kernel
theorem dX5_as_22 : decode cX5_as 22 = .ok (.ireturn, 1) := by decide +kernel
theorem dX5_as_23 : decode cX5_as 23 = .ok (.aload_n 0, 1) := by decide +kernel
theorem dX5_as_24 : decode cX5_as 24 = .ok (.iload_n 1, 1) := by decide +kernel
theorem dX5_as_25 : decode cX5_as 25 = .ok (.invokevirtual 199, 3) := by decide +kernel
theorem dX5_as_28 : decode cX5_as 28 = .ok (.istore_n 3, 1) := by decide +kernel
theorem dX5_as_29 : decode cX5_as 29 = .ok (.iload_n 2, 1) := by decide +kernel
theorem dX5_as_30 : decode cX5_as 30 = .ok (.ifCond .eq 23, 3) := by decide +kernel
theorem dX5_as_33 : decode cX5_as 33 = .ok (.iload_n 2, 1) := by decide +kernel
theorem dX5_as_34 : decode cX5_as 34 = .ok (.iconst 1, 1) := by decide +kernel
theorem dX5_as_35 : decode cX5_as 35 = .ok (.if_icmp .ne 11, 3) := by decide +kernel
theorem dX5_as_38 : decode cX5_as 38 = .ok (.iload_n 3, 1) := by decide +kernel
theorem dX5_as_39 : decode cX5_as 39 = .ok (.iconst 3, 1) := by decide +kernel
theorem dX5_as_40 : decode cX5_as 40 = .ok (.if_icmp .eq 17, 3) := by decide +kernel
theorem dX5_as_43 : decode cX5_as 43 = .ok (.goto 10, 3) := by decide +kernel
theorem dX5_as_46 : decode cX5_as 46 = .ok (.iload_n 3, 1) := by decide +kernel
theorem dX5_as_47 : decode cX5_as 47 = .ok (.iload_n 2, 1) := by decide +kernel
theorem dX5_as_48 : decode cX5_as 48 = .ok (.iconst 1, 1) := by decide +kernel
theorem dX5_as_49 : decode cX5_as 49 = .ok (.isub, 1) := by decide +kernel
theorem dX5_as_50 : decode cX5_as 50 = .ok (.if_icmp .ne 7, 3) := by decide +kernel
theorem dX5_as_53 : decode cX5_as 53 = .ok (.iconst 1, 1) := by decide +kernel
theorem dX5_as_54 : decode cX5_as 54 = .ok (.goto 4, 3) := by decide +kernel
theorem dX5_as_57 : decode cX5_as 57 = .ok (.iconst 0, 1) := by decide +kernel
theorem dX5_as_58 : decode cX5_as 58 = .ok (.istore 4, 2) := by decide +kernel
theorem dX5_as_60 : decode cX5_as 60 = .ok (.iload 4, 2) := by decide +kernel
theorem dX5_as_62 : decode cX5_as 62 = .ok (.ifCond .eq 15, 3) := by decide +kernel
theorem dX5_as_65 : decode cX5_as 65 = .ok (.aload_n 0, 1) := by decide +kernel
theorem dX5_as_66 : decode cX5_as 66 = .ok (.aload_n 0, 1) := by decide +kernel
theorem dX5_as_67 : decode cX5_as 67 = .ok (.getfield 32, 3) := by decide +kernel
theorem dX5_as_70 : decode cX5_as 70 = .ok (.iload_n 1, 1) := by decide +kernel
theorem dX5_as_71 : decode cX5_as 71 = .ok (.invokevirtual 185, 3) := by decide +kernel
theorem dX5_as_74 : decode cX5_as 74 = .ok (.goto 5, 3) := by decide +kernel
theorem dX5_as_77 : decode cX5_as 77 = .ok (.bipush (-4), 2) := by decide +kernel
theorem dX5_as_79 : decode cX5_as 79 = .ok (.ireturn, 1) := by decide +kernel
theorem dX5_isTask_0 : decode cX5_isTask 0 = .ok (.iconst 0, 1) := by decide +kernel
theorem dX5_isTask_1 : decode cX5_isTask 1 = .ok (.istore_n 2, 1) := by decide +kernel
theorem dX5_isTask_2 : decode cX5_isTask 2 = .ok (.iconst 0, 1) := by decide +kernel
theorem dX5_isTask_3 : decode cX5_isTask 3 = .ok (.istore_n 3, 1) := by decide +kernel
theorem dX5_isTask_4 : decode cX5_isTask 4 = .ok (.iload_n 3, 1) := by decide +kernel
theorem dX5_isTask_5 : decode cX5_isTask 5 = .ok (.aload_n 0, 1) := by decide +kernel
theorem dX5_isTask_6 : decode cX5_isTask 6 = .ok (.getfield 81, 3) := by decide +kernel
theorem dX5_isTask_9 : decode cX5_isTask 9 = .ok (.if_icmp .ge 29, 3) := by decide +kernel
theorem dX5_isTask_12 : decode cX5_isTask 12 = .ok (.iload_n 2, 1) := by decide +kernel
theorem dX5_isTask_13 : decode cX5_isTask 13 = .ok (.ifCond .ne 13, 3) := by decide +kernel
theorem dX5_isTask_16 : decode cX5_isTask 16 = .ok (.aload_n 0, 1) := by decide +kernel
theorem dX5_isTask_17 : decode cX5_isTask 17 = .ok (.getfield 51, 3) := by decide +kernel
theorem dX5_isTask_20 : decode cX5_isTask 20 = .ok (.iload_n 3, 1) := by decide +kernel
theorem dX5_isTask_21 : decode cX5_isTask 21 = .ok (.iaload, 1) := by decide +kernel
theorem dX5_isTask_22 : decode cX5_isTask 22 = .ok (.iload_n 1, 1) := by decide +kernel
theorem dX5_isTask_23 : decode cX5_isTask 23 = .ok (.if_icmp .ne 7, 3) := by decide +kernel
theorem dX5_isTask_26 : decode cX5_isTask 26 = .ok (.iconst 1, 1) := by decide +kernel
theorem dX5_isTask_27 : decode cX5_isTask 27 = .ok (.goto 4, 3) := by decide +kernel
theorem dX5_isTask_30 : decode cX5_isTask 30 = .ok (.iconst 0, 1) := by decide +kernel
theorem dX5_isTask_31 : decode cX5_isTask 31 = .ok (.istore_n 2, 1) := by decide +kernel
theorem dX5_isTask_32 : decode cX5_isTask 32 = .ok (.iinc 3 1, 3) := by decide +kernel
theorem dX5_isTask_35 : decode cX5_isTask 35 = .ok (.goto (-31), 3) := by decide +kernel
theorem dX5_isTask_38 : decode cX5_isTask 38 = .ok (.iload_n 2, 1) := by decide +kernel
theorem dX5_isTask_39 : decode cX5_isTask 39 = .ok (.ireturn, 1) := by decide +kernel
theorem dX5_toolOf_0 : decode cX5_toolOf 0 = .ok (.iconst (-1), 1) := by decide +kernel
theorem dX5_toolOf_1 : decode cX5_toolOf 1 = .ok (.istore_n 2, 1) := by decide +kernel
theorem dX5_toolOf_2 : decode cX5_toolOf 2 = .ok (.iconst 0, 1) := by decide +kernel
theorem dX5_toolOf_3 : decode cX5_toolOf 3 = .ok (.istore_n 3, 1) := by decide +kernel
theorem dX5_toolOf_4 : decode cX5_toolOf 4 = .ok (.iload_n 3, 1) := by decide +kernel
theorem dX5_toolOf_5 : decode cX5_toolOf 5 = .ok (.aload_n 0, 1) := by decide +kernel
theorem dX5_toolOf_6 : decode cX5_toolOf 6 = .ok (.getfield 72, 3) := by decide +kernel
theorem dX5_toolOf_9 : decode cX5_toolOf 9 = .ok (.if_icmp .ge 134, 3) := by decide +kernel
theorem dX5_toolOf_12 : decode cX5_toolOf 12 = .ok (.aload_n 0, 1) := by decide +kernel
theorem dX5_toolOf_13 : decode cX5_toolOf 13 = .ok (.iload_n 3, 1) := by decide +kernel
theorem dX5_toolOf_14 : decode cX5_toolOf 14 = .ok (.invokevirtual 199, 3) := by decide +kernel
theorem dX5_toolOf_17 : decode cX5_toolOf 17 = .ok (.iconst 1, 1) := by decide +kernel
theorem dX5_toolOf_18 : decode cX5_toolOf 18 = .ok (.if_icmp .ne 36, 3) := by decide +kernel
theorem dX5_toolOf_21 : decode cX5_toolOf 21 = .ok (.aload_n 0, 1) := by decide +kernel
theorem dX5_toolOf_22 : decode cX5_toolOf 22 = .ok (.iload_n 3, 1) := by decide +kernel
theorem dX5_toolOf_23 : decode cX5_toolOf 23 = .ok (.invokevirtual 181, 3) := by decide +kernel
theorem dX5_toolOf_26 : decode cX5_toolOf 26 = .ok (.iload_n 1, 1) := by decide +kernel
theorem dX5_toolOf_27 : decode cX5_toolOf 27 = .ok (.if_icmp .ne 27, 3) := by decide +kernel
theorem dX5_toolOf_30 : decode cX5_toolOf 30 = .ok (.aload_n 0, 1) := by decide +kernel
theorem dX5_toolOf_31 : decode cX5_toolOf 31 = .ok (.iload_n 3, 1) := by decide +kernel
theorem dX5_toolOf_32 : decode cX5_toolOf 32 = .ok (.invokevirtual 202, 3) := by decide +kernel
theorem dX5_toolOf_35 : decode cX5_toolOf 35 = .ok (.ifCond .ne 19, 3) := by decide +kernel
theorem dX5_toolOf_38 : decode cX5_toolOf 38 = .ok (.aload_n 0, 1) := by decide +kernel
theorem dX5_toolOf_39 : decode cX5_toolOf 39 = .ok (.aload_n 0, 1) := by decide +kernel
theorem dX5_toolOf_40 : decode cX5_toolOf 40 = .ok (.getfield 32, 3) := by decide +kernel
theorem dX5_toolOf_43 : decode cX5_toolOf 43 = .ok (.iload_n 3, 1) := by decide +kernel
theorem dX5_toolOf_44 : decode cX5_toolOf 44 = .ok (.invokevirtual 189, 3) := by decide +kernel
theorem dX5_toolOf_47 : decode cX5_toolOf 47 = .ok (.ifCond .eq 7, 3) := by decide +kernel
theorem dX5_toolOf_50 : decode cX5_toolOf 50 = .ok (.iconst 1, 1) := by decide +kernel
theorem dX5_toolOf_51 : decode cX5_toolOf 51 = .ok (.goto 4, 3) := by decide +kernel
theorem dX5_toolOf_54 : decode cX5_toolOf 54 = .ok (.iconst 0, 1) := by decide +kernel
theorem dX5_toolOf_55 : decode cX5_toolOf 55 = .ok (.istore 4, 2) := by decide +kernel
theorem dX5_toolOf_57 : decode cX5_toolOf 57 = .ok (.iload 4, 2) := by decide +kernel
theorem dX5_toolOf_59 : decode cX5_toolOf 59 = .ok (.ifCond .eq 78, 3) := by decide +kernel
theorem dX5_toolOf_62 : decode cX5_toolOf 62 = .ok (.aload_n 0, 1) := by decide +kernel
theorem dX5_toolOf_63 : decode cX5_toolOf 63 = .ok (.getfield 32, 3) := by decide +kernel
theorem dX5_toolOf_66 : decode cX5_toolOf 66 = .ok (.iload_n 3, 1) := by decide +kernel
theorem dX5_toolOf_67 : decode cX5_toolOf 67 = .ok (.iaload, 1) := by decide +kernel
theorem dX5_toolOf_68 : decode cX5_toolOf 68 = .ok (.iconst 2, 1) := by decide +kernel
theorem dX5_toolOf_69 : decode cX5_toolOf 69 = .ok (.if_icmp .ne 7, 3) := by decide +kernel
theorem dX5_toolOf_72 : decode cX5_toolOf 72 = .ok (.iconst 0, 1) := by decide +kernel
theorem dX5_toolOf_73 : decode cX5_toolOf 73 = .ok (.goto 13, 3) := by decide +kernel
theorem dX5_toolOf_76 : decode cX5_toolOf 76 = .ok (.aload_n 0, 1) := by decide +kernel
theorem dX5_toolOf_77 : decode cX5_toolOf 77 = .ok (.getfield 7, 3) := by decide +kernel
theorem dX5_toolOf_80 : decode cX5_toolOf 80 = .ok (.iconst 4, 1) := by decide +kernel
theorem dX5_toolOf_81 : decode cX5_toolOf 81 = .ok (.iload_n 3, 1) := by decide +kernel
theorem dX5_toolOf_82 : decode cX5_toolOf 82 = .ok (.imul, 1) := by decide +kernel
theorem dX5_toolOf_83 : decode cX5_toolOf 83 = .ok (.iconst 1, 1) := by decide +kernel
theorem dX5_toolOf_84 : decode cX5_toolOf 84 = .ok (.iadd, 1) := by decide +kernel
theorem dX5_toolOf_85 : decode cX5_toolOf 85 = .ok (.iaload, 1) := by decide +kernel
theorem dX5_toolOf_86 : decode cX5_toolOf 86 = .ok (.istore 5, 2) := by decide +kernel
theorem dX5_toolOf_88 : decode cX5_toolOf 88 = .ok (.iload_n 2, 1) := by decide +kernel
theorem dX5_toolOf_89 : decode cX5_toolOf 89 = .ok (.iconst (-1), 1) := by decide +kernel
theorem dX5_toolOf_90 : decode cX5_toolOf 90 = .ok (.if_icmp .ne 8, 3) := by decide +kernel
theorem dX5_toolOf_93 : decode cX5_toolOf 93 = .ok (.bipush 99, 2) := by decide +kernel
theorem dX5_toolOf_95 : decode cX5_toolOf 95 = .ok (.goto 27, 3) := by decide +kernel
theorem dX5_toolOf_98 : decode cX5_toolOf 98 = .ok (.aload_n 0, 1) := by decide +kernel
theorem dX5_toolOf_99 : decode cX5_toolOf 99 = .ok (.getfield 32, 3) := by decide +kernel
theorem dX5_toolOf_102 : decode cX5_toolOf 102 = .ok (.iload_n 2, 1) := by decide +kernel
theorem dX5_toolOf_103 : decode cX5_toolOf 103 = .ok (.iaload, 1) := by decide +kernel
theorem dX5_toolOf_104 : decode cX5_toolOf 104 = .ok (.iconst 2, 1) := by decide +kernel
theorem dX5_toolOf_105 : decode cX5_toolOf 105 = .ok (.if_icmp .ne 7, 3) := by decide +kernel
theorem dX5_toolOf_108 : decode cX5_toolOf 108 = .ok (.iconst 0, 1) := by decide +kernel
theorem dX5_toolOf_109 : decode cX5_toolOf 109 = .ok (.goto 13, 3) := by decide +kernel
theorem dX5_toolOf_112 : decode cX5_toolOf 112 = .ok (.aload_n 0, 1) := by decide +kernel
theorem dX5_toolOf_113 : decode cX5_toolOf 113 = .ok (.getfield 7, 3) := by decide +kernel
theorem dX5_toolOf_116 : decode cX5_toolOf 116 = .ok (.iconst 4, 1) := by decide +kernel
theorem dX5_toolOf_117 : decode cX5_toolOf 117 = .ok (.iload_n 2, 1) := by decide +kernel
theorem dX5_toolOf_118 : decode cX5_toolOf 118 = .ok (.imul, 1) := by decide +kernel
theorem dX5_toolOf_119 : decode cX5_toolOf 119 = .ok (.iconst 1, 1) := by decide +kernel
theorem dX5_toolOf_120 : decode cX5_toolOf 120 = .ok (.iadd, 1) := by decide +kernel
theorem dX5_toolOf_121 : decode cX5_toolOf 121 = .ok (.iaload, 1) := by decide +kernel
theorem dX5_toolOf_122 : decode cX5_toolOf 122 = .ok (.istore 6, 2) := by decide +kernel
theorem dX5_toolOf_124 : decode cX5_toolOf 124 = .ok (.iload 5, 2) := by decide +kernel
theorem dX5_toolOf_126 : decode cX5_toolOf 126 = .ok (.iload 6, 2) := by decide +kernel
theorem dX5_toolOf_128 : decode cX5_toolOf 128 = .ok (.if_icmp .ge 7, 3) := by decide +kernel
theorem dX5_toolOf_131 : decode cX5_toolOf 131 = .ok (.iload_n 3, 1) := by decide +kernel
theorem dX5_toolOf_132 : decode cX5_toolOf 132 = .ok (.goto 4, 3) := by decide +kernel
theorem dX5_toolOf_135 : decode cX5_toolOf 135 = .ok (.iload_n 2, 1) := by decide +kernel
theorem dX5_toolOf_136 : decode cX5_toolOf 136 = .ok (.istore_n 2, 1) := by decide +kernel
theorem dX5_toolOf_137 : decode cX5_toolOf 137 = .ok (.iinc 3 1, 3) := by decide +kernel
theorem dX5_toolOf_140 : decode cX5_toolOf 140 = .ok (.goto (-136), 3) := by decide +kernel
theorem dX5_toolOf_143 : decode cX5_toolOf 143 = .ok (.iload_n 2, 1) := by decide +kernel
theorem dX5_toolOf_144 : decode cX5_toolOf 144 = .ok (.ireturn, 1) := by decide +kernel
theorem dX5_floor_0 : decode cX5_floor 0 = .ok (.iload_n 1, 1) := by decide +kernel
theorem dX5_floor_1 : decode cX5_floor 1 = .ok (.iconst 0, 1) := by decide +kernel
theorem dX5_floor_2 : decode cX5_floor 2 = .ok (.iconst 2, 1) := by decide +kernel
theorem dX5_floor_3 : decode cX5_floor 3 = .ok (.invokestatic 87, 3) := by decide +kernel
theorem dX5_floor_6 : decode cX5_floor 6 = .ok (.ifCond .ne 6, 3) := by decide +kernel
theorem dX5_floor_9 : decode cX5_floor 9 = .ok (.bipush (-2), 2) := by decide +kernel
theorem dX5_floor_11 : decode cX5_floor 11 = .ok (.ireturn, 1) := by decide +kernel
theorem dX5_floor_12 : decode cX5_floor 12 = .ok (.iload_n 2, 1) := by decide +kernel
theorem dX5_floor_13 : decode cX5_floor 13 = .ok (.tableswitch 66 0 3 #[31, 38, 48, 60], 31) := by decide +kernel
theorem dX5_floor_44 : decode cX5_floor 44 = .ok (.aload_n 0, 1) := by decide +kernel
theorem dX5_floor_45 : decode cX5_floor 45 = .ok (.getfield 13, 3) := by decide +kernel
theorem dX5_floor_48 : decode cX5_floor 48 = .ok (.iload_n 1, 1) := by decide +kernel
theorem dX5_floor_49 : decode cX5_floor 49 = .ok (.iaload, 1) := by decide +kernel
theorem dX5_floor_50 : decode cX5_floor 50 = .ok (.ireturn, 1) := by decide +kernel
theorem dX5_floor_51 : decode cX5_floor 51 = .ok (.aload_n 0, 1) := by decide +kernel
theorem dX5_floor_52 : decode cX5_floor 52 = .ok (.aload_n 0, 1) := by decide +kernel
theorem dX5_floor_53 : decode cX5_floor 53 = .ok (.getfield 32, 3) := by decide +kernel
theorem dX5_floor_56 : decode cX5_floor 56 = .ok (.iload_n 1, 1) := by decide +kernel
theorem dX5_floor_57 : decode cX5_floor 57 = .ok (.invokevirtual 205, 3) := by decide +kernel
theorem dX5_floor_60 : decode cX5_floor 60 = .ok (.ireturn, 1) := by decide +kernel
theorem dX5_floor_61 : decode cX5_floor 61 = .ok (.aload_n 0, 1) := by decide +kernel
theorem dX5_floor_62 : decode cX5_floor 62 = .ok (.getfield 32, 3) := by decide +kernel
theorem dX5_floor_65 : decode cX5_floor 65 = .ok (.bipush 9, 2) := by decide +kernel
theorem dX5_floor_67 : decode cX5_floor 67 = .ok (.iaload, 1) := by decide +kernel
theorem dX5_floor_68 : decode cX5_floor 68 = .ok (.iload_n 1, 1) := by decide +kernel
theorem dX5_floor_69 : decode cX5_floor 69 = .ok (.ishr, 1) := by decide +kernel
theorem dX5_floor_70 : decode cX5_floor 70 = .ok (.iconst 1, 1) := by decide +kernel
theorem dX5_floor_71 : decode cX5_floor 71 = .ok (.iand, 1) := by decide +kernel
theorem dX5_floor_72 : decode cX5_floor 72 = .ok (.ireturn, 1) := by decide +kernel
theorem dX5_floor_73 : decode cX5_floor 73 = .ok (.aload_n 0, 1) := by decide +kernel
theorem dX5_floor_74 : decode cX5_floor 74 = .ok (.iload_n 1, 1) := by decide +kernel
theorem dX5_floor_75 : decode cX5_floor 75 = .ok (.invokevirtual 208, 3) := by decide +kernel
theorem dX5_floor_78 : decode cX5_floor 78 = .ok (.ireturn, 1) := by decide +kernel
theorem dX5_floor_79 : decode cX5_floor 79 = .ok (.bipush (-3), 2) := by decide +kernel
theorem dX5_floor_81 : decode cX5_floor 81 = .ok (.ireturn, 1) := by decide +kernel
theorem dX5_handBehind_0 : decode cX5_handBehind 0 = .ok (.iload_n 1, 1) := by decide +kernel
theorem dX5_handBehind_1 : decode cX5_handBehind 1 = .ok (.aload_n 0, 1) := by decide +kernel
theorem dX5_handBehind_2 : decode cX5_handBehind 2 = .ok (.getfield 16, 3) := by decide +kernel
theorem dX5_handBehind_5 : decode cX5_handBehind 5 = .ok (.if_icmp .gt 7, 3) := by decide +kernel
theorem dX5_handBehind_8 : decode cX5_handBehind 8 = .ok (.iconst 0, 1) := by decide +kernel
theorem dX5_handBehind_9 : decode cX5_handBehind 9 = .ok (.goto 21, 3) := by decide +kernel
theorem dX5_handBehind_12 : decode cX5_handBehind 12 = .ok (.iload_n 1, 1) := by decide +kernel
theorem dX5_handBehind_13 : decode cX5_handBehind 13 = .ok (.aload_n 0, 1) := by decide +kernel
theorem dX5_handBehind_14 : decode cX5_handBehind 14 = .ok (.getfield 16, 3) := by decide +kernel
theorem dX5_handBehind_17 : decode cX5_handBehind 17 = .ok (.aload_n 0, 1) := by decide +kernel
theorem dX5_handBehind_18 : decode cX5_handBehind 18 = .ok (.getfield 20, 3) := by decide +kernel
theorem dX5_handBehind_21 : decode cX5_handBehind 21 = .ok (.iadd, 1) := by decide +kernel
theorem dX5_handBehind_22 : decode cX5_handBehind 22 = .ok (.if_icmp .gt 7, 3) := by decide +kernel
theorem dX5_handBehind_25 : decode cX5_handBehind 25 = .ok (.iconst 1, 1) := by decide +kernel
theorem dX5_handBehind_26 : decode cX5_handBehind 26 = .ok (.goto 4, 3) := by decide +kernel
theorem dX5_handBehind_29 : decode cX5_handBehind 29 = .ok (.iconst 2, 1) := by decide +kernel
theorem dX5_handBehind_30 : decode cX5_handBehind 30 = .ok (.ireturn, 1) := by decide +kernel
theorem dX5_handIn_0 : decode cX5_handIn 0 = .ok (.bipush 99, 2) := by decide +kernel
theorem dX5_handIn_2 : decode cX5_handIn 2 = .ok (.istore_n 3, 1) := by decide +kernel
theorem dX5_handIn_3 : decode cX5_handIn 3 = .ok (.iconst 0, 1) := by decide +kernel
theorem dX5_handIn_4 : decode cX5_handIn 4 = .ok (.istore 4, 2) := by decide +kernel
theorem dX5_handIn_6 : decode cX5_handIn 6 = .ok (.iload 4, 2) := by decide +kernel
theorem dX5_handIn_8 : decode cX5_handIn 8 = .ok (.bipush 24, 2) := by decide +kernel
theorem dX5_handIn_10 : decode cX5_handIn 10 = .ok (.if_icmp .ge 33, 3) := by decide +kernel
theorem dX5_handIn_13 : decode cX5_handIn 13 = .ok (.iload_n 1, 1) := by decide +kernel
theorem dX5_handIn_14 : decode cX5_handIn 14 = .ok (.iload 4, 2) := by decide +kernel
theorem dX5_handIn_16 : decode cX5_handIn 16 = .ok (.invokestatic 177, 3) := by decide +kernel
theorem dX5_handIn_19 : decode cX5_handIn 19 = .ok (.ifCond .eq 16, 3) := by decide +kernel
theorem dX5_handIn_22 : decode cX5_handIn 22 = .ok (.iload 4, 2) := by decide +kernel
theorem dX5_handIn_24 : decode cX5_handIn 24 = .ok (.iload_n 2, 1) := by decide +kernel
theorem dX5_handIn_25 : decode cX5_handIn 25 = .ok (.if_icmp .ge 10, 3) := by decide +kernel
theorem dX5_handIn_28 : decode cX5_handIn 28 = .ok (.iload_n 2, 1) := by decide +kernel
theorem dX5_handIn_29 : decode cX5_handIn 29 = .ok (.iload 4, 2) := by decide +kernel
theorem dX5_handIn_31 : decode cX5_handIn 31 = .ok (.isub, 1) := by decide +kernel
theorem dX5_handIn_32 : decode cX5_handIn 32 = .ok (.goto 4, 3) := by decide +kernel
theorem dX5_handIn_35 : decode cX5_handIn 35 = .ok (.iload_n 3, 1) := by decide +kernel
theorem dX5_handIn_36 : decode cX5_handIn 36 = .ok (.istore_n 3, 1) := by decide +kernel
theorem dX5_handIn_37 : decode cX5_handIn 37 = .ok (.iinc 4 1, 3) := by decide +kernel
theorem dX5_handIn_40 : decode cX5_handIn 40 = .ok (.goto (-34), 3) := by decide +kernel
theorem dX5_handIn_43 : decode cX5_handIn 43 = .ok (.aload_n 0, 1) := by decide +kernel
theorem dX5_handIn_44 : decode cX5_handIn 44 = .ok (.iload_n 3, 1) := by decide +kernel
theorem dX5_handIn_45 : decode cX5_handIn 45 = .ok (.invokevirtual 211, 3) := by decide +kernel
theorem dX5_handIn_48 : decode cX5_handIn 48 = .ok (.ireturn, 1) := by decide +kernel
theorem dX5_hand_0 : decode cX5_hand 0 = .ok (.iload_n 1, 1) := by decide +kernel
theorem dX5_hand_1 : decode cX5_hand 1 = .ok (.iconst 0, 1) := by decide +kernel
theorem dX5_hand_2 : decode cX5_hand 2 = .ok (.bipush 99, 2) := by decide +kernel
theorem dX5_hand_4 : decode cX5_hand 4 = .ok (.invokestatic 87, 3) := by decide +kernel
theorem dX5_hand_7 : decode cX5_hand 7 = .ok (.ifCond .eq 18, 3) := by decide +kernel
theorem dX5_hand_10 : decode cX5_hand 10 = .ok (.aload_n 0, 1) := by decide +kernel
theorem dX5_hand_11 : decode cX5_hand 11 = .ok (.aload_n 0, 1) := by decide +kernel
theorem dX5_hand_12 : decode cX5_hand 12 = .ok (.getfield 32, 3) := by decide +kernel
theorem dX5_hand_15 : decode cX5_hand 15 = .ok (.bipush 11, 2) := by decide +kernel
theorem dX5_hand_17 : decode cX5_hand 17 = .ok (.iaload, 1) := by decide +kernel
theorem dX5_hand_18 : decode cX5_hand 18 = .ok (.iload_n 1, 1) := by decide +kernel
theorem dX5_hand_19 : decode cX5_hand 19 = .ok (.invokevirtual 214, 3) := by decide +kernel
theorem dX5_hand_22 : decode cX5_hand 22 = .ok (.goto 5, 3) := by decide +kernel
theorem dX5_hand_25 : decode cX5_hand 25 = .ok (.bipush (-3), 2) := by decide +kernel
theorem dX5_hand_27 : decode cX5_hand 27 = .ok (.ireturn, 1) := by decide +kernel
theorem dX5_note_0 : decode cX5_note 0 = .ok (.aload_n 0, 1) := by decide +kernel
theorem dX5_note_1 : decode cX5_note 1 = .ok (.getfield 75, 3) := by decide +kernel
theorem dX5_note_4 : decode cX5_note 4 = .ok (.bipush 8, 2) := by decide +kernel
theorem dX5_note_6 : decode cX5_note 6 = .ok (.if_icmp .ne 42, 3) := by decide +kernel
theorem dX5_note_9 : decode cX5_note 9 = .ok (.iconst 0, 1) := by decide +kernel
theorem dX5_note_10 : decode cX5_note 10 = .ok (.istore_n 1, 1) := by decide +kernel
theorem dX5_note_11 : decode cX5_note 11 = .ok (.iload_n 1, 1) := by decide +kernel
theorem dX5_note_12 : decode cX5_note 12 = .ok (.bipush 84, 2) := by decide +kernel
theorem dX5_note_14 : decode cX5_note 14 = .ok (.if_icmp .ge 24, 3) := by decide +kernel
theorem dX5_note_17 : decode cX5_note 17 = .ok (.aload_n 0, 1) := by decide +kernel
theorem dX5_note_18 : decode cX5_note 18 = .ok (.getfield 45, 3) := by decide +kernel
theorem dX5_note_21 : decode cX5_note 21 = .ok (.iload_n 1, 1) := by decide +kernel
theorem dX5_note_22 : decode cX5_note 22 = .ok (.aload_n 0, 1) := by decide +kernel
theorem dX5_note_23 : decode cX5_note 23 = .ok (.getfield 45, 3) := by decide +kernel
theorem dX5_note_26 : decode cX5_note 26 = .ok (.iload_n 1, 1) := by decide +kernel
theorem dX5_note_27 : decode cX5_note 27 = .ok (.bipush 12, 2) := by decide +kernel
theorem dX5_note_29 : decode cX5_note 29 = .ok (.iadd, 1) := by decide +kernel
theorem dX5_note_30 : decode cX5_note 30 = .ok (.iaload, 1) := by decide +kernel
theorem dX5_note_31 : decode cX5_note 31 = .ok (.iastore, 1) := by decide +kernel
theorem dX5_note_32 : decode cX5_note 32 = .ok (.iinc 1 1, 3) := by decide +kernel
theorem dX5_note_35 : decode cX5_note 35 = .ok (.goto (-24), 3) := by decide +kernel
theorem dX5_note_38 : decode cX5_note 38 = .ok (.aload_n 0, 1) := by decide +kernel
theorem dX5_note_39 : decode cX5_note 39 = .ok (.dup, 1) := by decide +kernel
theorem dX5_note_40 : decode cX5_note 40 = .ok (.getfield 75, 3) := by decide +kernel
theorem dX5_note_43 : decode cX5_note 43 = .ok (.iconst 1, 1) := by decide +kernel
theorem dX5_note_44 : decode cX5_note 44 = .ok (.isub, 1) := by decide +kernel
theorem dX5_note_45 : decode cX5_note 45 = .ok (.putfield 75, 3) := by decide +kernel
theorem dX5_note_48 : decode cX5_note 48 = .ok (.aload_n 0, 1) := by decide +kernel
theorem dX5_note_49 : decode cX5_note 49 = .ok (.getfield 32, 3) := by decide +kernel
theorem dX5_note_52 : decode cX5_note 52 = .ok (.iconst 0, 1) := by decide +kernel
theorem dX5_note_53 : decode cX5_note 53 = .ok (.aload_n 0, 1) := by decide +kernel
theorem dX5_note_54 : decode cX5_note 54 = .ok (.getfield 45, 3) := by decide +kernel
theorem dX5_note_57 : decode cX5_note 57 = .ok (.bipush 12, 2) := by decide +kernel
theorem dX5_note_59 : decode cX5_note 59 = .ok (.aload_n 0, 1) := by decide +kernel
theorem dX5_note_60 : decode cX5_note 60 = .ok (.getfield 75, 3) := by decide +kernel
theorem dX5_note_63 : decode cX5_note 63 = .ok (.imul, 1) := by decide +kernel
theorem dX5_note_64 : decode cX5_note 64 = .ok (.invokestatic 218, 3) := by decide +kernel
theorem dX5_note_67 : decode cX5_note 67 = .ok (.aload_n 0, 1) := by decide +kernel
theorem dX5_note_68 : decode cX5_note 68 = .ok (.dup, 1) := by decide +kernel
theorem dX5_note_69 : decode cX5_note 69 = .ok (.getfield 75, 3) := by decide +kernel
theorem dX5_note_72 : decode cX5_note 72 = .ok (.iconst 1, 1) := by decide +kernel
theorem dX5_note_73 : decode cX5_note 73 = .ok (.iadd, 1) := by decide +kernel
theorem dX5_note_74 : decode cX5_note 74 = .ok (.putfield 75, 3) := by decide +kernel
theorem dX5_note_77 : decode cX5_note 77 = .ok (.return_, 1) := by decide +kernel
theorem dX5_copy_0 : decode cX5_copy 0 = .ok (.iconst 0, 1) := by decide +kernel
theorem dX5_copy_1 : decode cX5_copy 1 = .ok (.istore 4, 2) := by decide +kernel
theorem dX5_copy_3 : decode cX5_copy 3 = .ok (.iload 4, 2) := by decide +kernel
theorem dX5_copy_5 : decode cX5_copy 5 = .ok (.bipush 12, 2) := by decide +kernel
theorem dX5_copy_7 : decode cX5_copy 7 = .ok (.if_icmp .ge 21, 3) := by decide +kernel
theorem dX5_copy_10 : decode cX5_copy 10 = .ok (.aload_n 2, 1) := by decide +kernel
theorem dX5_copy_11 : decode cX5_copy 11 = .ok (.iload_n 3, 1) := by decide +kernel
theorem dX5_copy_12 : decode cX5_copy 12 = .ok (.iload 4, 2) := by decide +kernel
theorem dX5_copy_14 : decode cX5_copy 14 = .ok (.iadd, 1) := by decide +kernel
theorem dX5_copy_15 : decode cX5_copy 15 = .ok (.aload_n 0, 1) := by decide +kernel
theorem dX5_copy_16 : decode cX5_copy 16 = .ok (.iload_n 1, 1) := by decide +kernel
theorem dX5_copy_17 : decode cX5_copy 17 = .ok (.iload 4, 2) := by decide +kernel
theorem dX5_copy_19 : decode cX5_copy 19 = .ok (.iadd, 1) := by decide +kernel
theorem dX5_copy_20 : decode cX5_copy 20 = .ok (.iaload, 1) := by decide +kernel
theorem dX5_copy_21 : decode cX5_copy 21 = .ok (.iastore, 1) := by decide +kernel
theorem dX5_copy_22 : decode cX5_copy 22 = .ok (.iinc 4 1, 3) := by decide +kernel
theorem dX5_copy_25 : decode cX5_copy 25 = .ok (.goto (-22), 3) := by decide +kernel
theorem dX5_copy_28 : decode cX5_copy 28 = .ok (.return_, 1) := by decide +kernel
theorem dX5_touches_0 : decode cX5_touches 0 = .ok (.aload_n 0, 1) := by decide +kernel
theorem dX5_touches_1 : decode cX5_touches 1 = .ok (.aload_n 0, 1) := by decide +kernel
theorem dX5_touches_2 : decode cX5_touches 2 = .ok (.getfield 32, 3) := by decide +kernel
theorem dX5_touches_5 : decode cX5_touches 5 = .ok (.bipush 11, 2) := by decide +kernel
theorem dX5_touches_7 : decode cX5_touches 7 = .ok (.iaload, 1) := by decide +kernel
theorem dX5_touches_8 : decode cX5_touches 8 = .ok (.aload_n 0, 1) := by decide +kernel
theorem dX5_touches_9 : decode cX5_touches 9 = .ok (.getfield 32, 3) := by decide +kernel
theorem dX5_touches_12 : decode cX5_touches 12 = .ok (.bipush 10, 2) := by decide +kernel
theorem dX5_touches_14 : decode cX5_touches 14 = .ok (.iaload, 1) := by decide +kernel
theorem dX5_touches_15 : decode cX5_touches 15 = .ok (.invokevirtual 214, 3) := by decide +kernel
theorem dX5_touches_18 : decode cX5_touches 18 = .ok (.istore_n 2, 1) := by decide +kernel
theorem dX5_touches_19 : decode cX5_touches 19 = .ok (.iload_n 2, 1) := by decide +kernel
theorem dX5_touches_20 : decode cX5_touches 20 = .ok (.iconst 2, 1) := by decide +kernel
theorem dX5_touches_21 : decode cX5_touches 21 = .ok (.if_icmp .eq 22, 3) := by decide +kernel
theorem dX5_touches_24 : decode cX5_touches 24 = .ok (.iload_n 2, 1) := by decide +kernel
theorem dX5_touches_25 : decode cX5_touches 25 = .ok (.iconst 1, 1) := by decide +kernel
theorem dX5_touches_26 : decode cX5_touches 26 = .ok (.if_icmp .ne 27, 3) := by decide +kernel
theorem dX5_touches_29 : decode cX5_touches 29 = .ok (.aload_n 0, 1) := by decide +kernel
theorem dX5_touches_30 : decode cX5_touches 30 = .ok (.getfield 32, 3) := by decide +kernel
theorem dX5_touches_33 : decode cX5_touches 33 = .ok (.bipush 10, 2) := by decide +kernel
theorem dX5_touches_35 : decode cX5_touches 35 = .ok (.iaload, 1) := by decide +kernel
theorem dX5_touches_36 : decode cX5_touches 36 = .ok (.aload_n 0, 1) := by decide +kernel
theorem dX5_touches_37 : decode cX5_touches 37 = .ok (.getfield 23, 3) := by decide +kernel
theorem dX5_touches_40 : decode cX5_touches 40 = .ok (.if_icmp .lt 13, 3) := by decide +kernel
theorem dX5_touches_43 : decode cX5_touches 43 = .ok (.aload_n 0, 1) := by decide +kernel
theorem dX5_touches_44 : decode cX5_touches 44 = .ok (.getfield 32, 3) := by decide +kernel
theorem dX5_touches_47 : decode cX5_touches 47 = .ok (.iload_n 1, 1) := by decide +kernel
theorem dX5_touches_48 : decode cX5_touches 48 = .ok (.iconst 2, 1) := by decide +kernel
theorem dX5_touches_49 : decode cX5_touches 49 = .ok (.iastore, 1) := by decide +kernel
theorem dX5_touches_50 : decode cX5_touches 50 = .ok (.goto 24, 3) := by decide +kernel
theorem dX5_touches_53 : decode cX5_touches 53 = .ok (.iload_n 2, 1) := by decide +kernel
theorem dX5_touches_54 : decode cX5_touches 54 = .ok (.iconst 1, 1) := by decide +kernel
theorem dX5_touches_55 : decode cX5_touches 55 = .ok (.if_icmp .ne 19, 3) := by decide +kernel
theorem dX5_touches_58 : decode cX5_touches 58 = .ok (.aload_n 0, 1) := by decide +kernel
theorem dX5_touches_59 : decode cX5_touches 59 = .ok (.getfield 32, 3) := by decide +kernel
theorem dX5_touches_62 : decode cX5_touches 62 = .ok (.iload_n 1, 1) := by decide +kernel
theorem dX5_touches_63 : decode cX5_touches 63 = .ok (.iaload, 1) := by decide +kernel
theorem dX5_touches_64 : decode cX5_touches 64 = .ok (.ifCond .ne 10, 3) := by decide +kernel
theorem dX5_touches_67 : decode cX5_touches 67 = .ok (.aload_n 0, 1) := by decide +kernel
theorem dX5_touches_68 : decode cX5_touches 68 = .ok (.getfield 32, 3) := by decide +kernel
theorem dX5_touches_71 : decode cX5_touches 71 = .ok (.iload_n 1, 1) := by decide +kernel
theorem dX5_touches_72 : decode cX5_touches 72 = .ok (.iconst 1, 1) := by decide +kernel
theorem dX5_touches_73 : decode cX5_touches 73 = .ok (.iastore, 1) := by decide +kernel
theorem dX5_touches_74 : decode cX5_touches 74 = .ok (.return_, 1) := by decide +kernel
theorem dX5_pass_0 : decode cX5_pass 0 = .ok (.iconst 0, 1) := by decide +kernel
theorem dX5_pass_1 : decode cX5_pass 1 = .ok (.istore_n 2, 1) := by decide +kernel
theorem dX5_pass_2 : decode cX5_pass 2 = .ok (.iload_n 2, 1) := by decide +kernel
theorem dX5_pass_3 : decode cX5_pass 3 = .ok (.iconst 3, 1) := by decide +kernel
theorem dX5_pass_4 : decode cX5_pass 4 = .ok (.if_icmp .ge 40, 3) := by decide +kernel
theorem dX5_pass_7 : decode cX5_pass 7 = .ok (.aload_n 1, 1) := by decide +kernel
theorem dX5_pass_8 : decode cX5_pass 8 = .ok (.bipush 9, 2) := by decide +kernel
theorem dX5_pass_10 : decode cX5_pass 10 = .ok (.aload_n 1, 1) := by decide +kernel
theorem dX5_pass_11 : decode cX5_pass 11 = .ok (.bipush 9, 2) := by decide +kernel
theorem dX5_pass_13 : decode cX5_pass 13 = .ok (.iaload, 1) := by decide +kernel
theorem dX5_pass_14 : decode cX5_pass 14 = .ok (.aload_n 0, 1) := by decide +kernel
theorem dX5_pass_15 : decode cX5_pass 15 = .ok (.aload_n 1, 1) := by decide +kernel
theorem dX5_pass_16 : decode cX5_pass 16 = .ok (.iload_n 2, 1) := by decide +kernel
theorem dX5_pass_17 : decode cX5_pass 17 = .ok (.invokevirtual 205, 3) := by decide +kernel
theorem dX5_pass_20 : decode cX5_pass 20 = .ok (.aload_n 0, 1) := by decide +kernel
theorem dX5_pass_21 : decode cX5_pass 21 = .ok (.getfield 13, 3) := by decide +kernel
theorem dX5_pass_24 : decode cX5_pass 24 = .ok (.iload_n 2, 1) := by decide +kernel
theorem dX5_pass_25 : decode cX5_pass 25 = .ok (.iaload, 1) := by decide +kernel
theorem dX5_pass_26 : decode cX5_pass 26 = .ok (.if_icmp .le 9, 3) := by decide +kernel
theorem dX5_pass_29 : decode cX5_pass 29 = .ok (.iconst 1, 1) := by decide +kernel
theorem dX5_pass_30 : decode cX5_pass 30 = .ok (.iload_n 2, 1) := by decide +kernel
theorem dX5_pass_31 : decode cX5_pass 31 = .ok (.ishl, 1) := by decide +kernel
theorem dX5_pass_32 : decode cX5_pass 32 = .ok (.goto 4, 3) := by decide +kernel
theorem dX5_pass_35 : decode cX5_pass 35 = .ok (.iconst 0, 1) := by decide +kernel
theorem dX5_pass_36 : decode cX5_pass 36 = .ok (.ior, 1) := by decide +kernel
theorem dX5_pass_37 : decode cX5_pass 37 = .ok (.iastore, 1) := by decide +kernel
theorem dX5_pass_38 : decode cX5_pass 38 = .ok (.iinc 2 1, 3) := by decide +kernel
theorem dX5_pass_41 : decode cX5_pass 41 = .ok (.goto (-39), 3) := by decide +kernel
theorem dX5_pass_44 : decode cX5_pass 44 = .ok (.aload_n 1, 1) := by decide +kernel
theorem dX5_pass_45 : decode cX5_pass 45 = .ok (.bipush 10, 2) := by decide +kernel
theorem dX5_pass_47 : decode cX5_pass 47 = .ok (.dup2, 1) := by decide +kernel
theorem dX5_pass_48 : decode cX5_pass 48 = .ok (.iaload, 1) := by decide +kernel
theorem dX5_pass_49 : decode cX5_pass 49 = .ok (.iconst 1, 1) := by decide +kernel
theorem dX5_pass_50 : decode cX5_pass 50 = .ok (.iadd, 1) := by decide +kernel
theorem dX5_pass_51 : decode cX5_pass 51 = .ok (.iastore, 1) := by decide +kernel
theorem dX5_pass_52 : decode cX5_pass 52 = .ok (.iconst 0, 1) := by decide +kernel
theorem dX5_pass_53 : decode cX5_pass 53 = .ok (.istore_n 2, 1) := by decide +kernel
theorem dX5_pass_54 : decode cX5_pass 54 = .ok (.iload_n 2, 1) := by decide +kernel
theorem dX5_pass_55 : decode cX5_pass 55 = .ok (.aload_n 0, 1) := by decide +kernel
theorem dX5_pass_56 : decode cX5_pass 56 = .ok (.getfield 72, 3) := by decide +kernel
theorem dX5_pass_59 : decode cX5_pass 59 = .ok (.if_icmp .ge 37, 3) := by decide +kernel
theorem dX5_pass_62 : decode cX5_pass 62 = .ok (.aload_n 1, 1) := by decide +kernel
theorem dX5_pass_63 : decode cX5_pass 63 = .ok (.bipush 10, 2) := by decide +kernel
theorem dX5_pass_65 : decode cX5_pass 65 = .ok (.iaload, 1) := by decide +kernel
theorem dX5_pass_66 : decode cX5_pass 66 = .ok (.aload_n 0, 1) := by decide +kernel
theorem dX5_pass_67 : decode cX5_pass 67 = .ok (.getfield 23, 3) := by decide +kernel
theorem dX5_pass_70 : decode cX5_pass 70 = .ok (.if_icmp .ne 26, 3) := by decide +kernel
theorem dX5_pass_73 : decode cX5_pass 73 = .ok (.aload_n 1, 1) := by decide +kernel
theorem dX5_pass_74 : decode cX5_pass 74 = .ok (.iload_n 2, 1) := by decide +kernel
theorem dX5_pass_75 : decode cX5_pass 75 = .ok (.aload_n 1, 1) := by decide +kernel
theorem dX5_pass_76 : decode cX5_pass 76 = .ok (.iload_n 2, 1) := by decide +kernel
theorem dX5_pass_77 : decode cX5_pass 77 = .ok (.iaload, 1) := by decide +kernel
theorem dX5_pass_78 : decode cX5_pass 78 = .ok (.iconst 1, 1) := by decide +kernel
theorem dX5_pass_79 : decode cX5_pass 79 = .ok (.if_icmp .ne 7, 3) := by decide +kernel
theorem dX5_pass_82 : decode cX5_pass 82 = .ok (.iconst 0, 1) := by decide +kernel
theorem dX5_pass_83 : decode cX5_pass 83 = .ok (.goto 6, 3) := by decide +kernel
theorem dX5_pass_86 : decode cX5_pass 86 = .ok (.aload_n 1, 1) := by decide +kernel
theorem dX5_pass_87 : decode cX5_pass 87 = .ok (.iload_n 2, 1) := by decide +kernel
theorem dX5_pass_88 : decode cX5_pass 88 = .ok (.iaload, 1) := by decide +kernel
theorem dX5_pass_89 : decode cX5_pass 89 = .ok (.iastore, 1) := by decide +kernel
theorem dX5_pass_90 : decode cX5_pass 90 = .ok (.iinc 2 1, 3) := by decide +kernel
theorem dX5_pass_93 : decode cX5_pass 93 = .ok (.goto (-39), 3) := by decide +kernel
theorem dX5_pass_96 : decode cX5_pass 96 = .ok (.return_, 1) := by decide +kernel
theorem dX5_touch_0 : decode cX5_touch 0 = .ok (.aload_n 0, 1) := by decide +kernel
theorem dX5_touch_1 : decode cX5_touch 1 = .ok (.iload_n 1, 1) := by decide +kernel
theorem dX5_touch_2 : decode cX5_touch 2 = .ok (.invokevirtual 196, 3) := by decide +kernel
theorem dX5_touch_5 : decode cX5_touch 5 = .ok (.ifCond .ne 6, 3) := by decide +kernel
theorem dX5_touch_8 : decode cX5_touch 8 = .ok (.bipush (-2), 2) := by decide +kernel
theorem dX5_touch_10 : decode cX5_touch 10 = .ok (.ireturn, 1) := by decide +kernel
theorem dX5_touch_11 : decode cX5_touch 11 = .ok (.aload_n 0, 1) := by decide +kernel
theorem dX5_touch_12 : decode cX5_touch 12 = .ok (.aload_n 0, 1) := by decide +kernel
theorem dX5_touch_13 : decode cX5_touch 13 = .ok (.getfield 32, 3) := by decide +kernel
theorem dX5_touch_16 : decode cX5_touch 16 = .ok (.iload_n 1, 1) := by decide +kernel
theorem dX5_touch_17 : decode cX5_touch 17 = .ok (.invokevirtual 189, 3) := by decide +kernel
theorem dX5_touch_20 : decode cX5_touch 20 = .ok (.ifCond .ne 6, 3) := by decide +kernel
theorem dX5_touch_23 : decode cX5_touch 23 = .ok (.bipush (-4), 2) := by decide +kernel
theorem dX5_touch_25 : decode cX5_touch 25 = .ok (.ireturn, 1) := by decide +kernel
theorem dX5_touch_26 : decode cX5_touch 26 = .ok (.aload_n 0, 1) := by decide +kernel
theorem dX5_touch_27 : decode cX5_touch 27 = .ok (.getfield 32, 3) := by decide +kernel
theorem dX5_touch_30 : decode cX5_touch 30 = .ok (.bipush 10, 2) := by decide +kernel
theorem dX5_touch_32 : decode cX5_touch 32 = .ok (.iaload, 1) := by decide +kernel
theorem dX5_touch_33 : decode cX5_touch 33 = .ok (.bipush 24, 2) := by decide +kernel
theorem dX5_touch_35 : decode cX5_touch 35 = .ok (.if_icmp .ne 6, 3) := by decide +kernel
theorem dX5_touch_38 : decode cX5_touch 38 = .ok (.bipush (-5), 2) := by decide +kernel
theorem dX5_touch_40 : decode cX5_touch 40 = .ok (.ireturn, 1) := by decide +kernel
theorem dX5_touch_41 : decode cX5_touch 41 = .ok (.aload_n 0, 1) := by decide +kernel
theorem dX5_touch_42 : decode cX5_touch 42 = .ok (.invokevirtual 222, 3) := by decide +kernel
theorem dX5_touch_45 : decode cX5_touch 45 = .ok (.aload_n 0, 1) := by decide +kernel
theorem dX5_touch_46 : decode cX5_touch 46 = .ok (.iload_n 1, 1) := by decide +kernel
theorem dX5_touch_47 : decode cX5_touch 47 = .ok (.invokevirtual 225, 3) := by decide +kernel
theorem dX5_touch_50 : decode cX5_touch 50 = .ok (.aload_n 0, 1) := by decide +kernel
theorem dX5_touch_51 : decode cX5_touch 51 = .ok (.getfield 32, 3) := by decide +kernel
theorem dX5_touch_54 : decode cX5_touch 54 = .ok (.iload_n 1, 1) := by decide +kernel
theorem dX5_touch_55 : decode cX5_touch 55 = .ok (.iaload, 1) := by decide +kernel
theorem dX5_touch_56 : decode cX5_touch 56 = .ok (.istore_n 2, 1) := by decide +kernel
theorem dX5_touch_57 : decode cX5_touch 57 = .ok (.aload_n 0, 1) := by decide +kernel
theorem dX5_touch_58 : decode cX5_touch 58 = .ok (.aload_n 0, 1) := by decide +kernel
theorem dX5_touch_59 : decode cX5_touch 59 = .ok (.getfield 32, 3) := by decide +kernel
theorem dX5_touch_62 : decode cX5_touch 62 = .ok (.invokevirtual 228, 3) := by decide +kernel
theorem dX5_touch_65 : decode cX5_touch 65 = .ok (.iload_n 2, 1) := by decide +kernel
theorem dX5_touch_66 : decode cX5_touch 66 = .ok (.ireturn, 1) := by decide +kernel
theorem dX5_isBy_0 : decode cX5_isBy 0 = .ok (.aload_n 0, 1) := by decide +kernel
theorem dX5_isBy_1 : decode cX5_isBy 1 = .ok (.iload_n 1, 1) := by decide +kernel
theorem dX5_isBy_2 : decode cX5_isBy 2 = .ok (.invokevirtual 199, 3) := by decide +kernel
theorem dX5_isBy_5 : decode cX5_isBy 5 = .ok (.iconst 1, 1) := by decide +kernel
theorem dX5_isBy_6 : decode cX5_isBy 6 = .ok (.if_icmp .ne 44, 3) := by decide +kernel
theorem dX5_isBy_9 : decode cX5_isBy 9 = .ok (.aload_n 0, 1) := by decide +kernel
theorem dX5_isBy_10 : decode cX5_isBy 10 = .ok (.iload_n 1, 1) := by decide +kernel
theorem dX5_isBy_11 : decode cX5_isBy 11 = .ok (.invokevirtual 181, 3) := by decide +kernel
theorem dX5_isBy_14 : decode cX5_isBy 14 = .ok (.aload_n 0, 1) := by decide +kernel
theorem dX5_isBy_15 : decode cX5_isBy 15 = .ok (.iload_n 2, 1) := by decide +kernel
theorem dX5_isBy_16 : decode cX5_isBy 16 = .ok (.invokevirtual 181, 3) := by decide +kernel
theorem dX5_isBy_19 : decode cX5_isBy 19 = .ok (.if_icmp .ne 31, 3) := by decide +kernel
theorem dX5_isBy_22 : decode cX5_isBy 22 = .ok (.aload_n 0, 1) := by decide +kernel
theorem dX5_isBy_23 : decode cX5_isBy 23 = .ok (.aload_n 0, 1) := by decide +kernel
theorem dX5_isBy_24 : decode cX5_isBy 24 = .ok (.getfield 32, 3) := by decide +kernel
theorem dX5_isBy_27 : decode cX5_isBy 27 = .ok (.iload_n 1, 1) := by decide +kernel
theorem dX5_isBy_28 : decode cX5_isBy 28 = .ok (.invokevirtual 189, 3) := by decide +kernel
theorem dX5_isBy_31 : decode cX5_isBy 31 = .ok (.ifCond .eq 19, 3) := by decide +kernel
theorem dX5_isBy_34 : decode cX5_isBy 34 = .ok (.aload_n 0, 1) := by decide +kernel
theorem dX5_isBy_35 : decode cX5_isBy 35 = .ok (.aload_n 0, 1) := by decide +kernel
theorem dX5_isBy_36 : decode cX5_isBy 36 = .ok (.getfield 32, 3) := by decide +kernel
theorem dX5_isBy_39 : decode cX5_isBy 39 = .ok (.iload_n 2, 1) := by decide +kernel
theorem dX5_isBy_40 : decode cX5_isBy 40 = .ok (.invokevirtual 189, 3) := by decide +kernel
theorem dX5_isBy_43 : decode cX5_isBy 43 = .ok (.ifCond .eq 7, 3) := by decide +kernel
theorem dX5_isBy_46 : decode cX5_isBy 46 = .ok (.iconst 1, 1) := by decide +kernel
theorem dX5_isBy_47 : decode cX5_isBy 47 = .ok (.goto 4, 3) := by decide +kernel
theorem dX5_isBy_50 : decode cX5_isBy 50 = .ok (.iconst 0, 1) := by decide +kernel
theorem dX5_isBy_51 : decode cX5_isBy 51 = .ok (.ireturn, 1) := by decide +kernel
theorem dX5_by_0 : decode cX5_by 0 = .ok (.aload_n 0, 1) := by decide +kernel
theorem dX5_by_1 : decode cX5_by 1 = .ok (.iload_n 1, 1) := by decide +kernel
theorem dX5_by_2 : decode cX5_by 2 = .ok (.invokevirtual 196, 3) := by decide +kernel
theorem dX5_by_5 : decode cX5_by 5 = .ok (.ifCond .eq 16, 3) := by decide +kernel
theorem dX5_by_8 : decode cX5_by 8 = .ok (.aload_n 0, 1) := by decide +kernel
theorem dX5_by_9 : decode cX5_by 9 = .ok (.iload_n 2, 1) := by decide +kernel
theorem dX5_by_10 : decode cX5_by 10 = .ok (.invokevirtual 196, 3) := by decide +kernel
theorem dX5_by_13 : decode cX5_by 13 = .ok (.ifCond .eq 8, 3) := by decide +kernel
theorem dX5_by_16 : decode cX5_by 16 = .ok (.iload_n 1, 1) := by decide +kernel
theorem dX5_by_17 : decode cX5_by 17 = .ok (.iload_n 2, 1) := by decide +kernel
theorem dX5_by_18 : decode cX5_by 18 = .ok (.if_icmp .ne 6, 3) := by decide +kernel
theorem dX5_by_21 : decode cX5_by 21 = .ok (.bipush (-2), 2) := by decide +kernel
theorem dX5_by_23 : decode cX5_by 23 = .ok (.ireturn, 1) := by decide +kernel
theorem dX5_by_24 : decode cX5_by 24 = .ok (.aload_n 0, 1) := by decide +kernel
theorem dX5_by_25 : decode cX5_by 25 = .ok (.iload_n 1, 1) := by decide +kernel
theorem dX5_by_26 : decode cX5_by 26 = .ok (.iload_n 2, 1) := by decide +kernel
theorem dX5_by_27 : decode cX5_by 27 = .ok (.invokevirtual 232, 3) := by decide +kernel
theorem dX5_by_30 : decode cX5_by 30 = .ok (.ifCond .ne 6, 3) := by decide +kernel
theorem dX5_by_33 : decode cX5_by 33 = .ok (.bipush (-4), 2) := by decide +kernel
theorem dX5_by_35 : decode cX5_by 35 = .ok (.ireturn, 1) := by decide +kernel
theorem dX5_by_36 : decode cX5_by 36 = .ok (.aload_n 0, 1) := by decide +kernel
theorem dX5_by_37 : decode cX5_by 37 = .ok (.getfield 32, 3) := by decide +kernel
theorem dX5_by_40 : decode cX5_by 40 = .ok (.bipush 10, 2) := by decide +kernel
theorem dX5_by_42 : decode cX5_by 42 = .ok (.iaload, 1) := by decide +kernel
theorem dX5_by_43 : decode cX5_by 43 = .ok (.bipush 24, 2) := by decide +kernel
theorem dX5_by_45 : decode cX5_by 45 = .ok (.if_icmp .ne 6, 3) := by decide +kernel
theorem dX5_by_48 : decode cX5_by 48 = .ok (.bipush (-5), 2) := by decide +kernel
theorem dX5_by_50 : decode cX5_by 50 = .ok (.ireturn, 1) := by decide +kernel
theorem dX5_by_51 : decode cX5_by 51 = .ok (.aload_n 0, 1) := by decide +kernel
theorem dX5_by_52 : decode cX5_by 52 = .ok (.invokevirtual 222, 3) := by decide +kernel
theorem dX5_by_55 : decode cX5_by 55 = .ok (.aload_n 0, 1) := by decide +kernel
theorem dX5_by_56 : decode cX5_by 56 = .ok (.iload_n 1, 1) := by decide +kernel
theorem dX5_by_57 : decode cX5_by 57 = .ok (.invokevirtual 225, 3) := by decide +kernel
theorem dX5_by_60 : decode cX5_by 60 = .ok (.aload_n 0, 1) := by decide +kernel
theorem dX5_by_61 : decode cX5_by 61 = .ok (.getfield 32, 3) := by decide +kernel
theorem dX5_by_64 : decode cX5_by 64 = .ok (.iload_n 1, 1) := by decide +kernel
theorem dX5_by_65 : decode cX5_by 65 = .ok (.iaload, 1) := by decide +kernel
theorem dX5_by_66 : decode cX5_by 66 = .ok (.istore_n 3, 1) := by decide +kernel
theorem dX5_by_67 : decode cX5_by 67 = .ok (.aload_n 0, 1) := by decide +kernel
theorem dX5_by_68 : decode cX5_by 68 = .ok (.aload_n 0, 1) := by decide +kernel
theorem dX5_by_69 : decode cX5_by 69 = .ok (.getfield 32, 3) := by decide +kernel
theorem dX5_by_72 : decode cX5_by 72 = .ok (.invokevirtual 228, 3) := by decide +kernel
theorem dX5_by_75 : decode cX5_by 75 = .ok (.iload_n 3, 1) := by decide +kernel
theorem dX5_by_76 : decode cX5_by 76 = .ok (.ireturn, 1) := by decide +kernel
theorem dX5_eat_0 : decode cX5_eat 0 = .ok (.aload_n 0, 1) := by decide +kernel
theorem dX5_eat_1 : decode cX5_eat 1 = .ok (.iload_n 1, 1) := by decide +kernel
theorem dX5_eat_2 : decode cX5_eat 2 = .ok (.invokevirtual 196, 3) := by decide +kernel
theorem dX5_eat_5 : decode cX5_eat 5 = .ok (.ifCond .eq 21, 3) := by decide +kernel
theorem dX5_eat_8 : decode cX5_eat 8 = .ok (.iload_n 2, 1) := by decide +kernel
theorem dX5_eat_9 : decode cX5_eat 9 = .ok (.iconst (-1), 1) := by decide +kernel
theorem dX5_eat_10 : decode cX5_eat 10 = .ok (.if_icmp .eq 19, 3) := by decide +kernel
theorem dX5_eat_13 : decode cX5_eat 13 = .ok (.aload_n 0, 1) := by decide +kernel
theorem dX5_eat_14 : decode cX5_eat 14 = .ok (.iload_n 2, 1) := by decide +kernel
theorem dX5_eat_15 : decode cX5_eat 15 = .ok (.invokevirtual 196, 3) := by decide +kernel
theorem dX5_eat_18 : decode cX5_eat 18 = .ok (.ifCond .eq 8, 3) := by decide +kernel
theorem dX5_eat_21 : decode cX5_eat 21 = .ok (.iload_n 2, 1) := by decide +kernel
theorem dX5_eat_22 : decode cX5_eat 22 = .ok (.iload_n 1, 1) := by decide +kernel
theorem dX5_eat_23 : decode cX5_eat 23 = .ok (.if_icmp .ne 6, 3) := by decide +kernel
theorem dX5_eat_26 : decode cX5_eat 26 = .ok (.bipush (-2), 2) := by decide +kernel
theorem dX5_eat_28 : decode cX5_eat 28 = .ok (.ireturn, 1) := by decide +kernel
theorem dX5_eat_29 : decode cX5_eat 29 = .ok (.aload_n 0, 1) := by decide +kernel
theorem dX5_eat_30 : decode cX5_eat 30 = .ok (.iload_n 1, 1) := by decide +kernel
theorem dX5_eat_31 : decode cX5_eat 31 = .ok (.invokevirtual 199, 3) := by decide +kernel
theorem dX5_eat_34 : decode cX5_eat 34 = .ok (.iconst 4, 1) := by decide +kernel
theorem dX5_eat_35 : decode cX5_eat 35 = .ok (.if_icmp .ne 29, 3) := by decide +kernel
theorem dX5_eat_38 : decode cX5_eat 38 = .ok (.aload_n 0, 1) := by decide +kernel
theorem dX5_eat_39 : decode cX5_eat 39 = .ok (.aload_n 0, 1) := by decide +kernel
theorem dX5_eat_40 : decode cX5_eat 40 = .ok (.getfield 32, 3) := by decide +kernel
theorem dX5_eat_43 : decode cX5_eat 43 = .ok (.iload_n 1, 1) := by decide +kernel
theorem dX5_eat_44 : decode cX5_eat 44 = .ok (.invokevirtual 189, 3) := by decide +kernel
theorem dX5_eat_47 : decode cX5_eat 47 = .ok (.ifCond .eq 17, 3) := by decide +kernel
theorem dX5_eat_50 : decode cX5_eat 50 = .ok (.iload_n 2, 1) := by decide +kernel
theorem dX5_eat_51 : decode cX5_eat 51 = .ok (.iconst (-1), 1) := by decide +kernel
theorem dX5_eat_52 : decode cX5_eat 52 = .ok (.if_icmp .eq 15, 3) := by decide +kernel
theorem dX5_eat_55 : decode cX5_eat 55 = .ok (.aload_n 0, 1) := by decide +kernel
theorem dX5_eat_56 : decode cX5_eat 56 = .ok (.iload_n 2, 1) := by decide +kernel
theorem dX5_eat_57 : decode cX5_eat 57 = .ok (.iload_n 1, 1) := by decide +kernel
theorem dX5_eat_58 : decode cX5_eat 58 = .ok (.invokevirtual 232, 3) := by decide +kernel
theorem dX5_eat_61 : decode cX5_eat 61 = .ok (.ifCond .ne 6, 3) := by decide +kernel
theorem dX5_eat_64 : decode cX5_eat 64 = .ok (.bipush (-4), 2) := by decide +kernel
theorem dX5_eat_66 : decode cX5_eat 66 = .ok (.ireturn, 1) := by decide +kernel
theorem dX5_eat_67 : decode cX5_eat 67 = .ok (.aload_n 0, 1) := by decide +kernel
theorem dX5_eat_68 : decode cX5_eat 68 = .ok (.getfield 32, 3) := by decide +kernel
theorem dX5_eat_71 : decode cX5_eat 71 = .ok (.bipush 10, 2) := by decide +kernel
theorem dX5_eat_73 : decode cX5_eat 73 = .ok (.iaload, 1) := by decide +kernel
theorem dX5_eat_74 : decode cX5_eat 74 = .ok (.bipush 24, 2) := by decide +kernel
theorem dX5_eat_76 : decode cX5_eat 76 = .ok (.if_icmp .ne 6, 3) := by decide +kernel
theorem dX5_eat_79 : decode cX5_eat 79 = .ok (.bipush (-5), 2) := by decide +kernel
theorem dX5_eat_81 : decode cX5_eat 81 = .ok (.ireturn, 1) := by decide +kernel
theorem dX5_eat_82 : decode cX5_eat 82 = .ok (.aload_n 0, 1) := by decide +kernel
theorem dX5_eat_83 : decode cX5_eat 83 = .ok (.invokevirtual 222, 3) := by decide +kernel
theorem dX5_eat_86 : decode cX5_eat 86 = .ok (.aload_n 0, 1) := by decide +kernel
theorem dX5_eat_87 : decode cX5_eat 87 = .ok (.iload_n 2, 1) := by decide +kernel
theorem dX5_eat_88 : decode cX5_eat 88 = .ok (.iconst (-1), 1) := by decide +kernel
theorem dX5_eat_89 : decode cX5_eat 89 = .ok (.if_icmp .ne 7, 3) := by decide +kernel
theorem dX5_eat_92 : decode cX5_eat 92 = .ok (.iload_n 1, 1) := by decide +kernel
theorem dX5_eat_93 : decode cX5_eat 93 = .ok (.goto 4, 3) := by decide +kernel
theorem dX5_eat_96 : decode cX5_eat 96 = .ok (.iload_n 2, 1) := by decide +kernel
theorem dX5_eat_97 : decode cX5_eat 97 = .ok (.invokevirtual 225, 3) := by decide +kernel
theorem dX5_eat_100 : decode cX5_eat 100 = .ok (.aload_n 0, 1) := by decide +kernel
theorem dX5_eat_101 : decode cX5_eat 101 = .ok (.getfield 32, 3) := by decide +kernel
theorem dX5_eat_104 : decode cX5_eat 104 = .ok (.iload_n 1, 1) := by decide +kernel
theorem dX5_eat_105 : decode cX5_eat 105 = .ok (.iaload, 1) := by decide +kernel
theorem dX5_eat_106 : decode cX5_eat 106 = .ok (.ifCond .ne 7, 3) := by decide +kernel
theorem dX5_eat_109 : decode cX5_eat 109 = .ok (.iconst 1, 1) := by decide +kernel
theorem dX5_eat_110 : decode cX5_eat 110 = .ok (.goto 4, 3) := by decide +kernel
theorem dX5_eat_113 : decode cX5_eat 113 = .ok (.iconst 0, 1) := by decide +kernel
theorem dX5_eat_114 : decode cX5_eat 114 = .ok (.istore_n 3, 1) := by decide +kernel
theorem dX5_eat_115 : decode cX5_eat 115 = .ok (.aload_n 0, 1) := by decide +kernel
theorem dX5_eat_116 : decode cX5_eat 116 = .ok (.getfield 32, 3) := by decide +kernel
theorem dX5_eat_119 : decode cX5_eat 119 = .ok (.bipush 8, 2) := by decide +kernel
theorem dX5_eat_121 : decode cX5_eat 121 = .ok (.aload_n 0, 1) := by decide +kernel
theorem dX5_eat_122 : decode cX5_eat 122 = .ok (.getfield 32, 3) := by decide +kernel
theorem dX5_eat_125 : decode cX5_eat 125 = .ok (.bipush 8, 2) := by decide +kernel
theorem dX5_eat_127 : decode cX5_eat 127 = .ok (.iaload, 1) := by decide +kernel
theorem dX5_eat_128 : decode cX5_eat 128 = .ok (.iload_n 3, 1) := by decide +kernel
theorem dX5_eat_129 : decode cX5_eat 129 = .ok (.iload_n 1, 1) := by decide +kernel
theorem dX5_eat_130 : decode cX5_eat 130 = .ok (.ishl, 1) := by decide +kernel
theorem dX5_eat_131 : decode cX5_eat 131 = .ok (.ior, 1) := by decide +kernel
theorem dX5_eat_132 : decode cX5_eat 132 = .ok (.iastore, 1) := by decide +kernel
theorem dX5_eat_133 : decode cX5_eat 133 = .ok (.aload_n 0, 1) := by decide +kernel
theorem dX5_eat_134 : decode cX5_eat 134 = .ok (.aload_n 0, 1) := by decide +kernel
theorem dX5_eat_135 : decode cX5_eat 135 = .ok (.getfield 32, 3) := by decide +kernel
theorem dX5_eat_138 : decode cX5_eat 138 = .ok (.invokevirtual 228, 3) := by decide +kernel
theorem dX5_eat_141 : decode cX5_eat 141 = .ok (.iload_n 3, 1) := by decide +kernel
theorem dX5_eat_142 : decode cX5_eat 142 = .ok (.ireturn, 1) := by decide +kernel
theorem dX5_bathe_0 : decode cX5_bathe 0 = .ok (.aload_n 0, 1) := by decide +kernel
theorem dX5_bathe_1 : decode cX5_bathe 1 = .ok (.getfield 32, 3) := by decide +kernel
theorem dX5_bathe_4 : decode cX5_bathe 4 = .ok (.bipush 10, 2) := by decide +kernel
theorem dX5_bathe_6 : decode cX5_bathe 6 = .ok (.iaload, 1) := by decide +kernel
theorem dX5_bathe_7 : decode cX5_bathe 7 = .ok (.bipush 24, 2) := by decide +kernel
theorem dX5_bathe_9 : decode cX5_bathe 9 = .ok (.if_icmp .ne 6, 3) := by decide +kernel
theorem dX5_bathe_12 : decode cX5_bathe 12 = .ok (.bipush (-5), 2) := by decide +kernel
theorem dX5_bathe_14 : decode cX5_bathe 14 = .ok (.ireturn, 1) := by decide +kernel
theorem dX5_bathe_15 : decode cX5_bathe 15 = .ok (.aload_n 0, 1) := by decide +kernel
theorem dX5_bathe_16 : decode cX5_bathe 16 = .ok (.invokevirtual 222, 3) := by decide +kernel
theorem dX5_bathe_19 : decode cX5_bathe 19 = .ok (.aload_n 0, 1) := by decide +kernel
theorem dX5_bathe_20 : decode cX5_bathe 20 = .ok (.getfield 32, 3) := by decide +kernel
theorem dX5_bathe_23 : decode cX5_bathe 23 = .ok (.bipush 11, 2) := by decide +kernel
theorem dX5_bathe_25 : decode cX5_bathe 25 = .ok (.aload_n 0, 1) := by decide +kernel
theorem dX5_bathe_26 : decode cX5_bathe 26 = .ok (.getfield 32, 3) := by decide +kernel
theorem dX5_bathe_29 : decode cX5_bathe 29 = .ok (.bipush 11, 2) := by decide +kernel
theorem dX5_bathe_31 : decode cX5_bathe 31 = .ok (.iaload, 1) := by decide +kernel
theorem dX5_bathe_32 : decode cX5_bathe 32 = .ok (.iconst 1, 1) := by decide +kernel
theorem dX5_bathe_33 : decode cX5_bathe 33 = .ok (.aload_n 0, 1) := by decide +kernel
theorem dX5_bathe_34 : decode cX5_bathe 34 = .ok (.getfield 32, 3) := by decide +kernel
theorem dX5_bathe_37 : decode cX5_bathe 37 = .ok (.bipush 10, 2) := by decide +kernel
theorem dX5_bathe_39 : decode cX5_bathe 39 = .ok (.iaload, 1) := by decide +kernel
theorem dX5_bathe_40 : decode cX5_bathe 40 = .ok (.ishl, 1) := by decide +kernel
theorem dX5_bathe_41 : decode cX5_bathe 41 = .ok (.ior, 1) := by decide +kernel
theorem dX5_bathe_42 : decode cX5_bathe 42 = .ok (.iastore, 1) := by decide +kernel
theorem dX5_bathe_43 : decode cX5_bathe 43 = .ok (.aload_n 0, 1) := by decide +kernel
theorem dX5_bathe_44 : decode cX5_bathe 44 = .ok (.aload_n 0, 1) := by decide +kernel
theorem dX5_bathe_45 : decode cX5_bathe 45 = .ok (.getfield 32, 3) := by decide +kernel
theorem dX5_bathe_48 : decode cX5_bathe 48 = .ok (.invokevirtual 228, 3) := by decide +kernel
theorem dX5_bathe_51 : decode cX5_bathe 51 = .ok (.aload_n 0, 1) := by decide +kernel
theorem dX5_bathe_52 : decode cX5_bathe 52 = .ok (.getfield 32, 3) := by decide +kernel
theorem dX5_bathe_55 : decode cX5_bathe 55 = .ok (.bipush 10, 2) := by decide +kernel
theorem dX5_bathe_57 : decode cX5_bathe 57 = .ok (.iaload, 1) := by decide +kernel
theorem dX5_bathe_58 : decode cX5_bathe 58 = .ok (.ireturn, 1) := by decide +kernel
theorem dX5_idle_0 : decode cX5_idle 0 = .ok (.aload_n 0, 1) := by decide +kernel
theorem dX5_idle_1 : decode cX5_idle 1 = .ok (.getfield 32, 3) := by decide +kernel
theorem dX5_idle_4 : decode cX5_idle 4 = .ok (.bipush 10, 2) := by decide +kernel
theorem dX5_idle_6 : decode cX5_idle 6 = .ok (.iaload, 1) := by decide +kernel
theorem dX5_idle_7 : decode cX5_idle 7 = .ok (.bipush 24, 2) := by decide +kernel
theorem dX5_idle_9 : decode cX5_idle 9 = .ok (.if_icmp .ne 6, 3) := by decide +kernel
theorem dX5_idle_12 : decode cX5_idle 12 = .ok (.bipush (-5), 2) := by decide +kernel
theorem dX5_idle_14 : decode cX5_idle 14 = .ok (.ireturn, 1) := by decide +kernel
theorem dX5_idle_15 : decode cX5_idle 15 = .ok (.aload_n 0, 1) := by decide +kernel
theorem dX5_idle_16 : decode cX5_idle 16 = .ok (.invokevirtual 222, 3) := by decide +kernel
theorem dX5_idle_19 : decode cX5_idle 19 = .ok (.aload_n 0, 1) := by decide +kernel
theorem dX5_idle_20 : decode cX5_idle 20 = .ok (.aload_n 0, 1) := by decide +kernel
theorem dX5_idle_21 : decode cX5_idle 21 = .ok (.getfield 32, 3) := by decide +kernel
theorem dX5_idle_24 : decode cX5_idle 24 = .ok (.invokevirtual 228, 3) := by decide +kernel
theorem dX5_idle_27 : decode cX5_idle 27 = .ok (.aload_n 0, 1) := by decide +kernel
theorem dX5_idle_28 : decode cX5_idle 28 = .ok (.getfield 32, 3) := by decide +kernel
theorem dX5_idle_31 : decode cX5_idle 31 = .ok (.bipush 10, 2) := by decide +kernel
theorem dX5_idle_33 : decode cX5_idle 33 = .ok (.iaload, 1) := by decide +kernel
theorem dX5_idle_34 : decode cX5_idle 34 = .ok (.ireturn, 1) := by decide +kernel
theorem dX5_undo_0 : decode cX5_undo 0 = .ok (.aload_n 0, 1) := by decide +kernel
theorem dX5_undo_1 : decode cX5_undo 1 = .ok (.getfield 75, 3) := by decide +kernel
theorem dX5_undo_4 : decode cX5_undo 4 = .ok (.ifCond .ne 6, 3) := by decide +kernel
theorem dX5_undo_7 : decode cX5_undo 7 = .ok (.bipush (-4), 2) := by decide +kernel
theorem dX5_undo_9 : decode cX5_undo 9 = .ok (.ireturn, 1) := by decide +kernel
theorem dX5_undo_10 : decode cX5_undo 10 = .ok (.aload_n 0, 1) := by decide +kernel
theorem dX5_undo_11 : decode cX5_undo 11 = .ok (.dup, 1) := by decide +kernel
theorem dX5_undo_12 : decode cX5_undo 12 = .ok (.getfield 75, 3) := by decide +kernel
theorem dX5_undo_15 : decode cX5_undo 15 = .ok (.iconst 1, 1) := by decide +kernel
theorem dX5_undo_16 : decode cX5_undo 16 = .ok (.isub, 1) := by decide +kernel
theorem dX5_undo_17 : decode cX5_undo 17 = .ok (.putfield 75, 3) := by decide +kernel
theorem dX5_undo_20 : decode cX5_undo 20 = .ok (.aload_n 0, 1) := by decide +kernel
theorem dX5_undo_21 : decode cX5_undo 21 = .ok (.getfield 45, 3) := by decide +kernel
theorem dX5_undo_24 : decode cX5_undo 24 = .ok (.bipush 12, 2) := by decide +kernel
theorem dX5_undo_26 : decode cX5_undo 26 = .ok (.aload_n 0, 1) := by decide +kernel
theorem dX5_undo_27 : decode cX5_undo 27 = .ok (.getfield 75, 3) := by decide +kernel
theorem dX5_undo_30 : decode cX5_undo 30 = .ok (.imul, 1) := by decide +kernel
theorem dX5_undo_31 : decode cX5_undo 31 = .ok (.aload_n 0, 1) := by decide +kernel
theorem dX5_undo_32 : decode cX5_undo 32 = .ok (.getfield 32, 3) := by decide +kernel
theorem dX5_undo_35 : decode cX5_undo 35 = .ok (.iconst 0, 1) := by decide +kernel
theorem dX5_undo_36 : decode cX5_undo 36 = .ok (.invokestatic 218, 3) := by decide +kernel
theorem dX5_undo_39 : decode cX5_undo 39 = .ok (.aload_n 0, 1) := by decide +kernel
theorem dX5_undo_40 : decode cX5_undo 40 = .ok (.getfield 75, 3) := by decide +kernel
theorem dX5_undo_43 : decode cX5_undo 43 = .ok (.ireturn, 1) := by decide +kernel
theorem dX5_keep_0 : decode cX5_keep 0 = .ok (.iload_n 1, 1) := by decide +kernel
theorem dX5_keep_1 : decode cX5_keep 1 = .ok (.iconst 0, 1) := by decide +kernel
theorem dX5_keep_2 : decode cX5_keep 2 = .ok (.iconst 1, 1) := by decide +kernel
theorem dX5_keep_3 : decode cX5_keep 3 = .ok (.invokestatic 87, 3) := by decide +kernel
theorem dX5_keep_6 : decode cX5_keep 6 = .ok (.ifCond .ne 6, 3) := by decide +kernel
theorem dX5_keep_9 : decode cX5_keep 9 = .ok (.bipush (-2), 2) := by decide +kernel
theorem dX5_keep_11 : decode cX5_keep 11 = .ok (.ireturn, 1) := by decide +kernel
theorem dX5_keep_12 : decode cX5_keep 12 = .ok (.aload_n 0, 1) := by decide +kernel
theorem dX5_keep_13 : decode cX5_keep 13 = .ok (.getfield 32, 3) := by decide +kernel
theorem dX5_keep_16 : decode cX5_keep 16 = .ok (.iconst 0, 1) := by decide +kernel
theorem dX5_keep_17 : decode cX5_keep 17 = .ok (.aload_n 0, 1) := by decide +kernel
theorem dX5_keep_18 : decode cX5_keep 18 = .ok (.getfield 38, 3) := by decide +kernel
theorem dX5_keep_21 : decode cX5_keep 21 = .ok (.bipush 12, 2) := by decide +kernel
theorem dX5_keep_23 : decode cX5_keep 23 = .ok (.iload_n 1, 1) := by decide +kernel
theorem dX5_keep_24 : decode cX5_keep 24 = .ok (.imul, 1) := by decide +kernel
theorem dX5_keep_25 : decode cX5_keep 25 = .ok (.invokestatic 218, 3) := by decide +kernel
theorem dX5_keep_28 : decode cX5_keep 28 = .ok (.aload_n 0, 1) := by decide +kernel
theorem dX5_keep_29 : decode cX5_keep 29 = .ok (.getfield 41, 3) := by decide +kernel
theorem dX5_keep_32 : decode cX5_keep 32 = .ok (.iload_n 1, 1) := by decide +kernel
theorem dX5_keep_33 : decode cX5_keep 33 = .ok (.iconst 1, 1) := by decide +kernel
theorem dX5_keep_34 : decode cX5_keep 34 = .ok (.bastore, 1) := by decide +kernel
theorem dX5_keep_35 : decode cX5_keep 35 = .ok (.aload_n 0, 1) := by decide +kernel
theorem dX5_keep_36 : decode cX5_keep 36 = .ok (.getfield 32, 3) := by decide +kernel
theorem dX5_keep_39 : decode cX5_keep 39 = .ok (.bipush 10, 2) := by decide +kernel
theorem dX5_keep_41 : decode cX5_keep 41 = .ok (.iaload, 1) := by decide +kernel
theorem dX5_keep_42 : decode cX5_keep 42 = .ok (.ireturn, 1) := by decide +kernel
theorem dX5_back_0 : decode cX5_back 0 = .ok (.iload_n 1, 1) := by decide +kernel
theorem dX5_back_1 : decode cX5_back 1 = .ok (.iconst 0, 1) := by decide +kernel
theorem dX5_back_2 : decode cX5_back 2 = .ok (.iconst 1, 1) := by decide +kernel
theorem dX5_back_3 : decode cX5_back 3 = .ok (.invokestatic 87, 3) := by decide +kernel
theorem dX5_back_6 : decode cX5_back 6 = .ok (.ifCond .ne 6, 3) := by decide +kernel
theorem dX5_back_9 : decode cX5_back 9 = .ok (.bipush (-2), 2) := by decide +kernel
theorem dX5_back_11 : decode cX5_back 11 = .ok (.ireturn, 1) := by decide +kernel
theorem dX5_back_12 : decode cX5_back 12 = .ok (.aload_n 0, 1) := by decide +kernel
theorem dX5_back_13 : decode cX5_back 13 = .ok (.getfield 41, 3) := by decide +kernel
theorem dX5_back_16 : decode cX5_back 16 = .ok (.iload_n 1, 1) := by decide +kernel
theorem dX5_back_17 : decode cX5_back 17 = .ok (.baload, 1) := by decide +kernel
theorem dX5_back_18 : decode cX5_back 18 = .ok (.ifCond .ne 6, 3) := by decide +kernel
theorem dX5_back_21 : decode cX5_back 21 = .ok (.bipush (-4), 2) := by decide +kernel
theorem dX5_back_23 : decode cX5_back 23 = .ok (.ireturn, 1) := by decide +kernel
theorem dX5_back_24 : decode cX5_back 24 = .ok (.aload_n 0, 1) := by decide +kernel
theorem dX5_back_25 : decode cX5_back 25 = .ok (.getfield 38, 3) := by decide +kernel
theorem dX5_back_28 : decode cX5_back 28 = .ok (.bipush 12, 2) := by decide +kernel
theorem dX5_back_30 : decode cX5_back 30 = .ok (.iload_n 1, 1) := by decide +kernel
theorem dX5_back_31 : decode cX5_back 31 = .ok (.imul, 1) := by decide +kernel
theorem dX5_back_32 : decode cX5_back 32 = .ok (.aload_n 0, 1) := by decide +kernel
theorem dX5_back_33 : decode cX5_back 33 = .ok (.getfield 32, 3) := by decide +kernel
theorem dX5_back_36 : decode cX5_back 36 = .ok (.iconst 0, 1) := by decide +kernel
theorem dX5_back_37 : decode cX5_back 37 = .ok (.invokestatic 218, 3) := by decide +kernel
theorem dX5_back_40 : decode cX5_back 40 = .ok (.aload_n 0, 1) := by decide +kernel
theorem dX5_back_41 : decode cX5_back 41 = .ok (.iconst 0, 1) := by decide +kernel
theorem dX5_back_42 : decode cX5_back 42 = .ok (.putfield 75, 3) := by decide +kernel
theorem dX5_back_45 : decode cX5_back 45 = .ok (.aload_n 0, 1) := by decide +kernel
theorem dX5_back_46 : decode cX5_back 46 = .ok (.getfield 32, 3) := by decide +kernel
theorem dX5_back_49 : decode cX5_back 49 = .ok (.bipush 10, 2) := by decide +kernel
theorem dX5_back_51 : decode cX5_back 51 = .ok (.iaload, 1) := by decide +kernel
theorem dX5_back_52 : decode cX5_back 52 = .ok (.ireturn, 1) := by decide +kernel
theorem dX5_tooLoaded_0 : decode cX5_tooLoaded 0 = .ok (.iconst (-1), 1) := by decide +kernel
theorem dX5_tooLoaded_1 : decode cX5_tooLoaded 1 = .ok (.istore_n 2, 1) := by decide +kernel
theorem dX5_tooLoaded_2 : decode cX5_tooLoaded 2 = .ok (.iconst 2, 1) := by decide +kernel
theorem dX5_tooLoaded_3 : decode cX5_tooLoaded 3 = .ok (.istore_n 3, 1) := by decide +kernel
theorem dX5_tooLoaded_4 : decode cX5_tooLoaded 4 = .ok (.iload_n 3, 1) := by decide +kernel
theorem dX5_tooLoaded_5 : decode cX5_tooLoaded 5 = .ok (.ifCond .lt 41, 3) := by decide +kernel
theorem dX5_tooLoaded_8 : decode cX5_tooLoaded 8 = .ok (.aload_n 1, 1) := by decide +kernel
theorem dX5_tooLoaded_9 : decode cX5_tooLoaded 9 = .ok (.bipush 9, 2) := by decide +kernel
theorem dX5_tooLoaded_11 : decode cX5_tooLoaded 11 = .ok (.iaload, 1) := by decide +kernel
theorem dX5_tooLoaded_12 : decode cX5_tooLoaded 12 = .ok (.iload_n 3, 1) := by decide +kernel
theorem dX5_tooLoaded_13 : decode cX5_tooLoaded 13 = .ok (.invokestatic 177, 3) := by decide +kernel
theorem dX5_tooLoaded_16 : decode cX5_tooLoaded 16 = .ok (.ifCond .ne 22, 3) := by decide +kernel
theorem dX5_tooLoaded_19 : decode cX5_tooLoaded 19 = .ok (.aload_n 0, 1) := by decide +kernel
theorem dX5_tooLoaded_20 : decode cX5_tooLoaded 20 = .ok (.aload_n 1, 1) := by decide +kernel
theorem dX5_tooLoaded_21 : decode cX5_tooLoaded 21 = .ok (.iload_n 3, 1) := by decide +kernel
theorem dX5_tooLoaded_22 : decode cX5_tooLoaded 22 = .ok (.invokevirtual 205, 3) := by decide +kernel
theorem dX5_tooLoaded_25 : decode cX5_tooLoaded 25 = .ok (.aload_n 0, 1) := by decide +kernel
theorem dX5_tooLoaded_26 : decode cX5_tooLoaded 26 = .ok (.getfield 13, 3) := by decide +kernel
theorem dX5_tooLoaded_29 : decode cX5_tooLoaded 29 = .ok (.iload_n 3, 1) := by decide +kernel
theorem dX5_tooLoaded_30 : decode cX5_tooLoaded 30 = .ok (.iaload, 1) := by decide +kernel
theorem dX5_tooLoaded_31 : decode cX5_tooLoaded 31 = .ok (.if_icmp .le 7, 3) := by decide +kernel
theorem dX5_tooLoaded_34 : decode cX5_tooLoaded 34 = .ok (.iload_n 3, 1) := by decide +kernel
theorem dX5_tooLoaded_35 : decode cX5_tooLoaded 35 = .ok (.goto 4, 3) := by decide +kernel
theorem dX5_tooLoaded_38 : decode cX5_tooLoaded 38 = .ok (.iload_n 2, 1) := by decide +kernel
theorem dX5_tooLoaded_39 : decode cX5_tooLoaded 39 = .ok (.istore_n 2, 1) := by decide +kernel
theorem dX5_tooLoaded_40 : decode cX5_tooLoaded 40 = .ok (.iinc 3 (-1), 3) := by decide +kernel
theorem dX5_tooLoaded_43 : decode cX5_tooLoaded 43 = .ok (.goto (-39), 3) := by decide +kernel
theorem dX5_tooLoaded_46 : decode cX5_tooLoaded 46 = .ok (.iload_n 2, 1) := by decide +kernel
theorem dX5_tooLoaded_47 : decode cX5_tooLoaded 47 = .ok (.ireturn, 1) := by decide +kernel
theorem dX5_town_0 : decode cX5_town 0 = .ok (.iload_n 1, 1) := by decide +kernel
theorem dX5_town_1 : decode cX5_town 1 = .ok (.iconst 0, 1) := by decide +kernel
theorem dX5_town_2 : decode cX5_town 2 = .ok (.bipush 8, 2) := by decide +kernel
theorem dX5_town_4 : decode cX5_town 4 = .ok (.invokestatic 87, 3) := by decide +kernel
theorem dX5_town_7 : decode cX5_town 7 = .ok (.ifCond .eq 12, 3) := by decide +kernel
theorem dX5_town_10 : decode cX5_town 10 = .ok (.iload_n 2, 1) := by decide +kernel
theorem dX5_town_11 : decode cX5_town 11 = .ok (.iconst 0, 1) := by decide +kernel
theorem dX5_town_12 : decode cX5_town 12 = .ok (.iconst 1, 1) := by decide +kernel
theorem dX5_town_13 : decode cX5_town 13 = .ok (.invokestatic 87, 3) := by decide +kernel
theorem dX5_town_16 : decode cX5_town 16 = .ok (.ifCond .ne 6, 3) := by decide +kernel
theorem dX5_town_19 : decode cX5_town 19 = .ok (.bipush (-3), 2) := by decide +kernel
theorem dX5_town_21 : decode cX5_town 21 = .ok (.ireturn, 1) := by decide +kernel
theorem dX5_town_22 : decode cX5_town 22 = .ok (.iconst (-1), 1) := by decide +kernel
theorem dX5_town_23 : decode cX5_town 23 = .ok (.istore_n 3, 1) := by decide +kernel
theorem dX5_town_24 : decode cX5_town 24 = .ok (.iconst (-1), 1) := by decide +kernel
theorem dX5_town_25 : decode cX5_town 25 = .ok (.istore 4, 2) := by decide +kernel
theorem dX5_town_27 : decode cX5_town 27 = .ok (.iconst 0, 1) := by decide +kernel
theorem dX5_town_28 : decode cX5_town 28 = .ok (.istore 5, 2) := by decide +kernel
theorem dX5_town_30 : decode cX5_town 30 = .ok (.iload 5, 2) := by decide +kernel
theorem dX5_town_32 : decode cX5_town 32 = .ok (.iconst 1, 1) := by decide +kernel
theorem dX5_town_33 : decode cX5_town 33 = .ok (.aload_n 0, 1) := by decide +kernel
theorem dX5_town_34 : decode cX5_town 34 = .ok (.getfield 72, 3) := by decide +kernel
theorem dX5_town_37 : decode cX5_town 37 = .ok (.ishl, 1) := by decide +kernel
theorem dX5_town_38 : decode cX5_town 38 = .ok (.if_icmp .ge 212, 3) := by decide +kernel
theorem dX5_town_41 : decode cX5_town 41 = .ok (.aload_n 0, 1) := by decide +kernel
theorem dX5_town_42 : decode cX5_town 42 = .ok (.getfield 32, 3) := by decide +kernel
theorem dX5_town_45 : decode cX5_town 45 = .ok (.iconst 0, 1) := by decide +kernel
theorem dX5_town_46 : decode cX5_town 46 = .ok (.aload_n 0, 1) := by decide +kernel
theorem dX5_town_47 : decode cX5_town 47 = .ok (.getfield 35, 3) := by decide +kernel
theorem dX5_town_50 : decode cX5_town 50 = .ok (.iconst 0, 1) := by decide +kernel
theorem dX5_town_51 : decode cX5_town 51 = .ok (.invokestatic 218, 3) := by decide +kernel
theorem dX5_town_54 : decode cX5_town 54 = .ok (.iconst 1, 1) := by decide +kernel
theorem dX5_town_55 : decode cX5_town 55 = .ok (.istore 6, 2) := by decide +kernel
theorem dX5_town_57 : decode cX5_town 57 = .ok (.iconst 0, 1) := by decide +kernel
theorem dX5_town_58 : decode cX5_town 58 = .ok (.istore 7, 2) := by decide +kernel
theorem dX5_town_60 : decode cX5_town 60 = .ok (.iconst 0, 1) := by decide +kernel

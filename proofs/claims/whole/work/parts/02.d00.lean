theorem dX0_init_0 : decode cX0_init 0 = .ok (.aload_n 0, 1) := by decide +kernel
theorem dX0_init_1 : decode cX0_init 1 = .ok (.invokespecial 3, 3) := by decide +kernel
theorem dX0_init_4 : decode cX0_init 4 = .ok (.aload_n 0, 1) := by decide +kernel
theorem dX0_init_5 : decode cX0_init 5 = .ok (.bipush 8, 2) := by decide +kernel
theorem dX0_init_7 : decode cX0_init 7 = .ok (.newarray .int, 2) := by decide +kernel
theorem dX0_init_9 : decode cX0_init 9 = .ok (.putfield 9, 3) := by decide +kernel
theorem dX0_init_12 : decode cX0_init 12 = .ok (.aload_n 0, 1) := by decide +kernel
theorem dX0_init_13 : decode cX0_init 13 = .ok (.bipush 8, 2) := by decide +kernel
theorem dX0_init_15 : decode cX0_init 15 = .ok (.newarray .int, 2) := by decide +kernel
theorem dX0_init_17 : decode cX0_init 17 = .ok (.putfield 15, 3) := by decide +kernel
theorem dX0_init_20 : decode cX0_init 20 = .ok (.aload_n 0, 1) := by decide +kernel
theorem dX0_init_21 : decode cX0_init 21 = .ok (.bipush 8, 2) := by decide +kernel
theorem dX0_init_23 : decode cX0_init 23 = .ok (.newarray .int, 2) := by decide +kernel
theorem dX0_init_25 : decode cX0_init 25 = .ok (.putfield 18, 3) := by decide +kernel
theorem dX0_init_28 : decode cX0_init 28 = .ok (.aload_n 0, 1) := by decide +kernel
theorem dX0_init_29 : decode cX0_init 29 = .ok (.bipush 8, 2) := by decide +kernel
theorem dX0_init_31 : decode cX0_init 31 = .ok (.newarray .int, 2) := by decide +kernel
theorem dX0_init_33 : decode cX0_init 33 = .ok (.putfield 21, 3) := by decide +kernel
theorem dX0_init_36 : decode cX0_init 36 = .ok (.aload_n 0, 1) := by decide +kernel
theorem dX0_init_37 : decode cX0_init 37 = .ok (.iconst 3, 1) := by decide +kernel
theorem dX0_init_38 : decode cX0_init 38 = .ok (.newarray .int, 2) := by decide +kernel
theorem dX0_init_40 : decode cX0_init 40 = .ok (.dup, 1) := by decide +kernel
theorem dX0_init_41 : decode cX0_init 41 = .ok (.iconst 0, 1) := by decide +kernel
theorem dX0_init_42 : decode cX0_init 42 = .ok (.bipush 99, 2) := by decide +kernel
theorem dX0_init_44 : decode cX0_init 44 = .ok (.iastore, 1) := by decide +kernel
theorem dX0_init_45 : decode cX0_init 45 = .ok (.dup, 1) := by decide +kernel
theorem dX0_init_46 : decode cX0_init 46 = .ok (.iconst 1, 1) := by decide +kernel
theorem dX0_init_47 : decode cX0_init 47 = .ok (.bipush 99, 2) := by decide +kernel
theorem dX0_init_49 : decode cX0_init 49 = .ok (.iastore, 1) := by decide +kernel
theorem dX0_init_50 : decode cX0_init 50 = .ok (.dup, 1) := by decide +kernel
theorem dX0_init_51 : decode cX0_init 51 = .ok (.iconst 2, 1) := by decide +kernel
theorem dX0_init_52 : decode cX0_init 52 = .ok (.bipush 99, 2) := by decide +kernel
theorem dX0_init_54 : decode cX0_init 54 = .ok (.iastore, 1) := by decide +kernel
theorem dX0_init_55 : decode cX0_init 55 = .ok (.putfield 24, 3) := by decide +kernel
theorem dX0_init_58 : decode cX0_init 58 = .ok (.aload_n 0, 1) := by decide +kernel
theorem dX0_init_59 : decode cX0_init 59 = .ok (.iconst 3, 1) := by decide +kernel
theorem dX0_init_60 : decode cX0_init 60 = .ok (.putfield 27, 3) := by decide +kernel
theorem dX0_init_63 : decode cX0_init 63 = .ok (.aload_n 0, 1) := by decide +kernel
theorem dX0_init_64 : decode cX0_init 64 = .ok (.iconst 2, 1) := by decide +kernel
theorem dX0_init_65 : decode cX0_init 65 = .ok (.putfield 31, 3) := by decide +kernel
theorem dX0_init_68 : decode cX0_init 68 = .ok (.aload_n 0, 1) := by decide +kernel
theorem dX0_init_69 : decode cX0_init 69 = .ok (.bipush 12, 2) := by decide +kernel
theorem dX0_init_71 : decode cX0_init 71 = .ok (.putfield 34, 3) := by decide +kernel
theorem dX0_init_74 : decode cX0_init 74 = .ok (.return_, 1) := by decide +kernel
theorem dX0_reset_0 : decode cX0_reset 0 = .ok (.aload_n 0, 1) := by decide +kernel
theorem dX0_reset_1 : decode cX0_reset 1 = .ok (.iconst 0, 1) := by decide +kernel
theorem dX0_reset_2 : decode cX0_reset 2 = .ok (.putfield 37, 3) := by decide +kernel
theorem dX0_reset_5 : decode cX0_reset 5 = .ok (.aload_n 0, 1) := by decide +kernel
theorem dX0_reset_6 : decode cX0_reset 6 = .ok (.iconst 3, 1) := by decide +kernel
theorem dX0_reset_7 : decode cX0_reset 7 = .ok (.putfield 27, 3) := by decide +kernel
theorem dX0_reset_10 : decode cX0_reset 10 = .ok (.aload_n 0, 1) := by decide +kernel
theorem dX0_reset_11 : decode cX0_reset 11 = .ok (.iconst 2, 1) := by decide +kernel
theorem dX0_reset_12 : decode cX0_reset 12 = .ok (.putfield 31, 3) := by decide +kernel
theorem dX0_reset_15 : decode cX0_reset 15 = .ok (.aload_n 0, 1) := by decide +kernel
theorem dX0_reset_16 : decode cX0_reset 16 = .ok (.bipush 12, 2) := by decide +kernel
theorem dX0_reset_18 : decode cX0_reset 18 = .ok (.putfield 34, 3) := by decide +kernel
theorem dX0_reset_21 : decode cX0_reset 21 = .ok (.iconst 0, 1) := by decide +kernel
theorem dX0_reset_22 : decode cX0_reset 22 = .ok (.istore_n 1, 1) := by decide +kernel
theorem dX0_reset_23 : decode cX0_reset 23 = .ok (.iload_n 1, 1) := by decide +kernel
theorem dX0_reset_24 : decode cX0_reset 24 = .ok (.iconst 3, 1) := by decide +kernel
theorem dX0_reset_25 : decode cX0_reset 25 = .ok (.if_icmp .ge 17, 3) := by decide +kernel
theorem dX0_reset_28 : decode cX0_reset 28 = .ok (.aload_n 0, 1) := by decide +kernel
theorem dX0_reset_29 : decode cX0_reset 29 = .ok (.getfield 24, 3) := by decide +kernel
theorem dX0_reset_32 : decode cX0_reset 32 = .ok (.iload_n 1, 1) := by decide +kernel
theorem dX0_reset_33 : decode cX0_reset 33 = .ok (.bipush 99, 2) := by decide +kernel
theorem dX0_reset_35 : decode cX0_reset 35 = .ok (.iastore, 1) := by decide +kernel
theorem dX0_reset_36 : decode cX0_reset 36 = .ok (.iinc 1 1, 3) := by decide +kernel
theorem dX0_reset_39 : decode cX0_reset 39 = .ok (.goto (-16), 3) := by decide +kernel
theorem dX0_reset_42 : decode cX0_reset 42 = .ok (.return_, 1) := by decide +kernel
theorem dX0_copyFrom_0 : decode cX0_copyFrom 0 = .ok (.aload_n 0, 1) := by decide +kernel
theorem dX0_copyFrom_1 : decode cX0_copyFrom 1 = .ok (.aload_n 1, 1) := by decide +kernel
theorem dX0_copyFrom_2 : decode cX0_copyFrom 2 = .ok (.getfield 37, 3) := by decide +kernel
theorem dX0_copyFrom_5 : decode cX0_copyFrom 5 = .ok (.putfield 37, 3) := by decide +kernel
theorem dX0_copyFrom_8 : decode cX0_copyFrom 8 = .ok (.aload_n 0, 1) := by decide +kernel
theorem dX0_copyFrom_9 : decode cX0_copyFrom 9 = .ok (.aload_n 1, 1) := by decide +kernel
theorem dX0_copyFrom_10 : decode cX0_copyFrom 10 = .ok (.getfield 27, 3) := by decide +kernel
theorem dX0_copyFrom_13 : decode cX0_copyFrom 13 = .ok (.putfield 27, 3) := by decide +kernel
theorem dX0_copyFrom_16 : decode cX0_copyFrom 16 = .ok (.aload_n 0, 1) := by decide +kernel
theorem dX0_copyFrom_17 : decode cX0_copyFrom 17 = .ok (.aload_n 1, 1) := by decide +kernel
theorem dX0_copyFrom_18 : decode cX0_copyFrom 18 = .ok (.getfield 31, 3) := by decide +kernel
theorem dX0_copyFrom_21 : decode cX0_copyFrom 21 = .ok (.putfield 31, 3) := by decide +kernel
theorem dX0_copyFrom_24 : decode cX0_copyFrom 24 = .ok (.aload_n 0, 1) := by decide +kernel
theorem dX0_copyFrom_25 : decode cX0_copyFrom 25 = .ok (.aload_n 1, 1) := by decide +kernel
theorem dX0_copyFrom_26 : decode cX0_copyFrom 26 = .ok (.getfield 34, 3) := by decide +kernel
theorem dX0_copyFrom_29 : decode cX0_copyFrom 29 = .ok (.putfield 34, 3) := by decide +kernel
theorem dX0_copyFrom_32 : decode cX0_copyFrom 32 = .ok (.iconst 0, 1) := by decide +kernel
theorem dX0_copyFrom_33 : decode cX0_copyFrom 33 = .ok (.istore_n 2, 1) := by decide +kernel
theorem dX0_copyFrom_34 : decode cX0_copyFrom 34 = .ok (.iload_n 2, 1) := by decide +kernel
theorem dX0_copyFrom_35 : decode cX0_copyFrom 35 = .ok (.iconst 3, 1) := by decide +kernel
theorem dX0_copyFrom_36 : decode cX0_copyFrom 36 = .ok (.if_icmp .ge 21, 3) := by decide +kernel
theorem dX0_copyFrom_39 : decode cX0_copyFrom 39 = .ok (.aload_n 0, 1) := by decide +kernel
theorem dX0_copyFrom_40 : decode cX0_copyFrom 40 = .ok (.getfield 24, 3) := by decide +kernel
theorem dX0_copyFrom_43 : decode cX0_copyFrom 43 = .ok (.iload_n 2, 1) := by decide +kernel
theorem dX0_copyFrom_44 : decode cX0_copyFrom 44 = .ok (.aload_n 1, 1) := by decide +kernel
theorem dX0_copyFrom_45 : decode cX0_copyFrom 45 = .ok (.getfield 24, 3) := by decide +kernel
theorem dX0_copyFrom_48 : decode cX0_copyFrom 48 = .ok (.iload_n 2, 1) := by decide +kernel
theorem dX0_copyFrom_49 : decode cX0_copyFrom 49 = .ok (.iaload, 1) := by decide +kernel
theorem dX0_copyFrom_50 : decode cX0_copyFrom 50 = .ok (.iastore, 1) := by decide +kernel
theorem dX0_copyFrom_51 : decode cX0_copyFrom 51 = .ok (.iinc 2 1, 3) := by decide +kernel
theorem dX0_copyFrom_54 : decode cX0_copyFrom 54 = .ok (.goto (-20), 3) := by decide +kernel
theorem dX0_copyFrom_57 : decode cX0_copyFrom 57 = .ok (.iconst 0, 1) := by decide +kernel
theorem dX0_copyFrom_58 : decode cX0_copyFrom 58 = .ok (.istore_n 2, 1) := by decide +kernel
theorem dX0_copyFrom_59 : decode cX0_copyFrom 59 = .ok (.iload_n 2, 1) := by decide +kernel
theorem dX0_copyFrom_60 : decode cX0_copyFrom 60 = .ok (.bipush 8, 2) := by decide +kernel
theorem dX0_copyFrom_62 : decode cX0_copyFrom 62 = .ok (.if_icmp .ge 57, 3) := by decide +kernel
theorem dX0_copyFrom_65 : decode cX0_copyFrom 65 = .ok (.aload_n 0, 1) := by decide +kernel
theorem dX0_copyFrom_66 : decode cX0_copyFrom 66 = .ok (.getfield 9, 3) := by decide +kernel
theorem dX0_copyFrom_69 : decode cX0_copyFrom 69 = .ok (.iload_n 2, 1) := by decide +kernel
theorem dX0_copyFrom_70 : decode cX0_copyFrom 70 = .ok (.aload_n 1, 1) := by decide +kernel
theorem dX0_copyFrom_71 : decode cX0_copyFrom 71 = .ok (.getfield 9, 3) := by decide +kernel
theorem dX0_copyFrom_74 : decode cX0_copyFrom 74 = .ok (.iload_n 2, 1) := by decide +kernel
theorem dX0_copyFrom_75 : decode cX0_copyFrom 75 = .ok (.iaload, 1) := by decide +kernel
theorem dX0_copyFrom_76 : decode cX0_copyFrom 76 = .ok (.iastore, 1) := by decide +kernel
theorem dX0_copyFrom_77 : decode cX0_copyFrom 77 = .ok (.aload_n 0, 1) := by decide +kernel
theorem dX0_copyFrom_78 : decode cX0_copyFrom 78 = .ok (.getfield 15, 3) := by decide +kernel
theorem dX0_copyFrom_81 : decode cX0_copyFrom 81 = .ok (.iload_n 2, 1) := by decide +kernel
theorem dX0_copyFrom_82 : decode cX0_copyFrom 82 = .ok (.aload_n 1, 1) := by decide +kernel
theorem dX0_copyFrom_83 : decode cX0_copyFrom 83 = .ok (.getfield 15, 3) := by decide +kernel
theorem dX0_copyFrom_86 : decode cX0_copyFrom 86 = .ok (.iload_n 2, 1) := by decide +kernel
theorem dX0_copyFrom_87 : decode cX0_copyFrom 87 = .ok (.iaload, 1) := by decide +kernel
theorem dX0_copyFrom_88 : decode cX0_copyFrom 88 = .ok (.iastore, 1) := by decide +kernel
theorem dX0_copyFrom_89 : decode cX0_copyFrom 89 = .ok (.aload_n 0, 1) := by decide +kernel
theorem dX0_copyFrom_90 : decode cX0_copyFrom 90 = .ok (.getfield 18, 3) := by decide +kernel
theorem dX0_copyFrom_93 : decode cX0_copyFrom 93 = .ok (.iload_n 2, 1) := by decide +kernel
theorem dX0_copyFrom_94 : decode cX0_copyFrom 94 = .ok (.aload_n 1, 1) := by decide +kernel
theorem dX0_copyFrom_95 : decode cX0_copyFrom 95 = .ok (.getfield 18, 3) := by decide +kernel
theorem dX0_copyFrom_98 : decode cX0_copyFrom 98 = .ok (.iload_n 2, 1) := by decide +kernel
theorem dX0_copyFrom_99 : decode cX0_copyFrom 99 = .ok (.iaload, 1) := by decide +kernel
theorem dX0_copyFrom_100 : decode cX0_copyFrom 100 = .ok (.iastore, 1) := by decide +kernel
theorem dX0_copyFrom_101 : decode cX0_copyFrom 101 = .ok (.aload_n 0, 1) := by decide +kernel
theorem dX0_copyFrom_102 : decode cX0_copyFrom 102 = .ok (.getfield 21, 3) := by decide +kernel
theorem dX0_copyFrom_105 : decode cX0_copyFrom 105 = .ok (.iload_n 2, 1) := by decide +kernel
theorem dX0_copyFrom_106 : decode cX0_copyFrom 106 = .ok (.aload_n 1, 1) := by decide +kernel
theorem dX0_copyFrom_107 : decode cX0_copyFrom 107 = .ok (.getfield 21, 3) := by decide +kernel
theorem dX0_copyFrom_110 : decode cX0_copyFrom 110 = .ok (.iload_n 2, 1) := by decide +kernel
theorem dX0_copyFrom_111 : decode cX0_copyFrom 111 = .ok (.iaload, 1) := by decide +kernel
theorem dX0_copyFrom_112 : decode cX0_copyFrom 112 = .ok (.iastore, 1) := by decide +kernel
theorem dX0_copyFrom_113 : decode cX0_copyFrom 113 = .ok (.iinc 2 1, 3) := by decide +kernel
theorem dX0_copyFrom_116 : decode cX0_copyFrom 116 = .ok (.goto (-57), 3) := by decide +kernel
theorem dX0_copyFrom_119 : decode cX0_copyFrom 119 = .ok (.return_, 1) := by decide +kernel
theorem dX0_addThing_0 : decode cX0_addThing 0 = .ok (.aload_n 0, 1) := by decide +kernel
theorem dX0_addThing_1 : decode cX0_addThing 1 = .ok (.getfield 37, 3) := by decide +kernel
theorem dX0_addThing_4 : decode cX0_addThing 4 = .ok (.bipush 8, 2) := by decide +kernel
theorem dX0_addThing_6 : decode cX0_addThing 6 = .ok (.if_icmp .lt 4, 3) := by decide +kernel
theorem dX0_addThing_9 : decode cX0_addThing 9 = .ok (.return_, 1) := by decide +kernel
theorem dX0_addThing_10 : decode cX0_addThing 10 = .ok (.aload_n 0, 1) := by decide +kernel
theorem dX0_addThing_11 : decode cX0_addThing 11 = .ok (.getfield 9, 3) := by decide +kernel
theorem dX0_addThing_14 : decode cX0_addThing 14 = .ok (.aload_n 0, 1) := by decide +kernel
theorem dX0_addThing_15 : decode cX0_addThing 15 = .ok (.getfield 37, 3) := by decide +kernel
theorem dX0_addThing_18 : decode cX0_addThing 18 = .ok (.iload_n 1, 1) := by decide +kernel
theorem dX0_addThing_19 : decode cX0_addThing 19 = .ok (.iastore, 1) := by decide +kernel
theorem dX0_addThing_20 : decode cX0_addThing 20 = .ok (.aload_n 0, 1) := by decide +kernel
theorem dX0_addThing_21 : decode cX0_addThing 21 = .ok (.getfield 15, 3) := by decide +kernel
theorem dX0_addThing_24 : decode cX0_addThing 24 = .ok (.aload_n 0, 1) := by decide +kernel
theorem dX0_addThing_25 : decode cX0_addThing 25 = .ok (.getfield 37, 3) := by decide +kernel
theorem dX0_addThing_28 : decode cX0_addThing 28 = .ok (.iload_n 2, 1) := by decide +kernel
theorem dX0_addThing_29 : decode cX0_addThing 29 = .ok (.iastore, 1) := by decide +kernel
theorem dX0_addThing_30 : decode cX0_addThing 30 = .ok (.aload_n 0, 1) := by decide +kernel
theorem dX0_addThing_31 : decode cX0_addThing 31 = .ok (.getfield 18, 3) := by decide +kernel
theorem dX0_addThing_34 : decode cX0_addThing 34 = .ok (.aload_n 0, 1) := by decide +kernel
theorem dX0_addThing_35 : decode cX0_addThing 35 = .ok (.getfield 37, 3) := by decide +kernel
theorem dX0_addThing_38 : decode cX0_addThing 38 = .ok (.iload_n 3, 1) := by decide +kernel
theorem dX0_addThing_39 : decode cX0_addThing 39 = .ok (.iastore, 1) := by decide +kernel
theorem dX0_addThing_40 : decode cX0_addThing 40 = .ok (.aload_n 0, 1) := by decide +kernel
theorem dX0_addThing_41 : decode cX0_addThing 41 = .ok (.getfield 21, 3) := by decide +kernel
theorem dX0_addThing_44 : decode cX0_addThing 44 = .ok (.aload_n 0, 1) := by decide +kernel
theorem dX0_addThing_45 : decode cX0_addThing 45 = .ok (.getfield 37, 3) := by decide +kernel
theorem dX0_addThing_48 : decode cX0_addThing 48 = .ok (.iload 4, 2) := by decide +kernel
theorem dX0_addThing_50 : decode cX0_addThing 50 = .ok (.iastore, 1) := by decide +kernel
theorem dX0_addThing_51 : decode cX0_addThing 51 = .ok (.aload_n 0, 1) := by decide +kernel
theorem dX0_addThing_52 : decode cX0_addThing 52 = .ok (.dup, 1) := by decide +kernel
theorem dX0_addThing_53 : decode cX0_addThing 53 = .ok (.getfield 37, 3) := by decide +kernel
theorem dX0_addThing_56 : decode cX0_addThing 56 = .ok (.iconst 1, 1) := by decide +kernel
theorem dX0_addThing_57 : decode cX0_addThing 57 = .ok (.iadd, 1) := by decide +kernel
theorem dX0_addThing_58 : decode cX0_addThing 58 = .ok (.putfield 37, 3) := by decide +kernel
theorem dX0_addThing_61 : decode cX0_addThing 61 = .ok (.return_, 1) := by decide +kernel
theorem dX1_init_0 : decode cX1_init 0 = .ok (.aload_n 0, 1) := by decide +kernel
theorem dX1_init_1 : decode cX1_init 1 = .ok (.invokespecial 3, 3) := by decide +kernel
theorem dX1_init_4 : decode cX1_init 4 = .ok (.return_, 1) := by decide +kernel
theorem dX1_clear_0 : decode cX1_clear 0 = .ok (.aload_n 0, 1) := by decide +kernel
theorem dX1_clear_1 : decode cX1_clear 1 = .ok (.iconst 0, 1) := by decide +kernel
theorem dX1_clear_2 : decode cX1_clear 2 = .ok (.putfield 9, 3) := by decide +kernel
theorem dX1_clear_5 : decode cX1_clear 5 = .ok (.aload_n 0, 1) := by decide +kernel
theorem dX1_clear_6 : decode cX1_clear 6 = .ok (.iconst 0, 1) := by decide +kernel
theorem dX1_clear_7 : decode cX1_clear 7 = .ok (.putfield 15, 3) := by decide +kernel
theorem dX1_clear_10 : decode cX1_clear 10 = .ok (.aload_n 0, 1) := by decide +kernel
theorem dX1_clear_11 : decode cX1_clear 11 = .ok (.iconst 0, 1) := by decide +kernel
theorem dX1_clear_12 : decode cX1_clear 12 = .ok (.putfield 18, 3) := by decide +kernel
theorem dX1_clear_15 : decode cX1_clear 15 = .ok (.aload_n 0, 1) := by decide +kernel
theorem dX1_clear_16 : decode cX1_clear 16 = .ok (.iconst 0, 1) := by decide +kernel
theorem dX1_clear_17 : decode cX1_clear 17 = .ok (.putfield 21, 3) := by decide +kernel
theorem dX1_clear_20 : decode cX1_clear 20 = .ok (.aload_n 0, 1) := by decide +kernel
theorem dX1_clear_21 : decode cX1_clear 21 = .ok (.iconst 0, 1) := by decide +kernel
theorem dX1_clear_22 : decode cX1_clear 22 = .ok (.putfield 24, 3) := by decide +kernel
theorem dX1_clear_25 : decode cX1_clear 25 = .ok (.aload_n 0, 1) := by decide +kernel
theorem dX1_clear_26 : decode cX1_clear 26 = .ok (.iconst 0, 1) := by decide +kernel
theorem dX1_clear_27 : decode cX1_clear 27 = .ok (.putfield 27, 3) := by decide +kernel
theorem dX1_clear_30 : decode cX1_clear 30 = .ok (.return_, 1) := by decide +kernel
theorem dX1_copyFrom_0 : decode cX1_copyFrom 0 = .ok (.aload_n 0, 1) := by decide +kernel
theorem dX1_copyFrom_1 : decode cX1_copyFrom 1 = .ok (.aload_n 1, 1) := by decide +kernel
theorem dX1_copyFrom_2 : decode cX1_copyFrom 2 = .ok (.getfield 9, 3) := by decide +kernel
theorem dX1_copyFrom_5 : decode cX1_copyFrom 5 = .ok (.putfield 9, 3) := by decide +kernel
theorem dX1_copyFrom_8 : decode cX1_copyFrom 8 = .ok (.aload_n 0, 1) := by decide +kernel
theorem dX1_copyFrom_9 : decode cX1_copyFrom 9 = .ok (.aload_n 1, 1) := by decide +kernel
theorem dX1_copyFrom_10 : decode cX1_copyFrom 10 = .ok (.getfield 15, 3) := by decide +kernel
theorem dX1_copyFrom_13 : decode cX1_copyFrom 13 = .ok (.putfield 15, 3) := by decide +kernel
theorem dX1_copyFrom_16 : decode cX1_copyFrom 16 = .ok (.aload_n 0, 1) := by decide +kernel
theorem dX1_copyFrom_17 : decode cX1_copyFrom 17 = .ok (.aload_n 1, 1) := by decide +kernel
theorem dX1_copyFrom_18 : decode cX1_copyFrom 18 = .ok (.getfield 18, 3) := by decide +kernel
theorem dX1_copyFrom_21 : decode cX1_copyFrom 21 = .ok (.putfield 18, 3) := by decide +kernel
theorem dX1_copyFrom_24 : decode cX1_copyFrom 24 = .ok (.aload_n 0, 1) := by decide +kernel
theorem dX1_copyFrom_25 : decode cX1_copyFrom 25 = .ok (.aload_n 1, 1) := by decide +kernel
theorem dX1_copyFrom_26 : decode cX1_copyFrom 26 = .ok (.getfield 21, 3) := by decide +kernel
theorem dX1_copyFrom_29 : decode cX1_copyFrom 29 = .ok (.putfield 21, 3) := by decide +kernel
theorem dX1_copyFrom_32 : decode cX1_copyFrom 32 = .ok (.aload_n 0, 1) := by decide +kernel
theorem dX1_copyFrom_33 : decode cX1_copyFrom 33 = .ok (.aload_n 1, 1) := by decide +kernel
theorem dX1_copyFrom_34 : decode cX1_copyFrom 34 = .ok (.getfield 24, 3) := by decide +kernel
theorem dX1_copyFrom_37 : decode cX1_copyFrom 37 = .ok (.putfield 24, 3) := by decide +kernel
theorem dX1_copyFrom_40 : decode cX1_copyFrom 40 = .ok (.aload_n 0, 1) := by decide +kernel
theorem dX1_copyFrom_41 : decode cX1_copyFrom 41 = .ok (.aload_n 1, 1) := by decide +kernel
theorem dX1_copyFrom_42 : decode cX1_copyFrom 42 = .ok (.getfield 27, 3) := by decide +kernel
theorem dX1_copyFrom_45 : decode cX1_copyFrom 45 = .ok (.putfield 27, 3) := by decide +kernel
theorem dX1_copyFrom_48 : decode cX1_copyFrom 48 = .ok (.return_, 1) := by decide +kernel
theorem dX1_goldOf_0 : decode cX1_goldOf 0 = .ok (.aload_n 0, 1) := by decide +kernel
theorem dX1_goldOf_1 : decode cX1_goldOf 1 = .ok (.getfield 21, 3) := by decide +kernel
theorem dX1_goldOf_4 : decode cX1_goldOf 4 = .ok (.iload_n 1, 1) := by decide +kernel
theorem dX1_goldOf_5 : decode cX1_goldOf 5 = .ok (.invokestatic 30, 3) := by decide +kernel
theorem dX1_goldOf_8 : decode cX1_goldOf 8 = .ok (.ifCond .eq 5, 3) := by decide +kernel
theorem dX1_goldOf_11 : decode cX1_goldOf 11 = .ok (.iconst 2, 1) := by decide +kernel
theorem dX1_goldOf_12 : decode cX1_goldOf 12 = .ok (.ireturn, 1) := by decide +kernel
theorem dX1_goldOf_13 : decode cX1_goldOf 13 = .ok (.aload_n 0, 1) := by decide +kernel
theorem dX1_goldOf_14 : decode cX1_goldOf 14 = .ok (.getfield 18, 3) := by decide +kernel
theorem dX1_goldOf_17 : decode cX1_goldOf 17 = .ok (.iload_n 1, 1) := by decide +kernel
theorem dX1_goldOf_18 : decode cX1_goldOf 18 = .ok (.invokestatic 30, 3) := by decide +kernel
theorem dX1_goldOf_21 : decode cX1_goldOf 21 = .ok (.ifCond .eq 7, 3) := by decide +kernel
theorem dX1_goldOf_24 : decode cX1_goldOf 24 = .ok (.iconst 1, 1) := by decide +kernel
theorem dX1_goldOf_25 : decode cX1_goldOf 25 = .ok (.goto 4, 3) := by decide +kernel
theorem dX1_goldOf_28 : decode cX1_goldOf 28 = .ok (.iconst 0, 1) := by decide +kernel
theorem dX1_goldOf_29 : decode cX1_goldOf 29 = .ok (.ireturn, 1) := by decide +kernel
theorem dX1_isLost_0 : decode cX1_isLost 0 = .ok (.aload_n 0, 1) := by decide +kernel
theorem dX1_isLost_1 : decode cX1_isLost 1 = .ok (.getfield 24, 3) := by decide +kernel
theorem dX1_isLost_4 : decode cX1_isLost 4 = .ok (.iload_n 2, 1) := by decide +kernel
theorem dX1_isLost_5 : decode cX1_isLost 5 = .ok (.invokestatic 30, 3) := by decide +kernel
theorem dX1_isLost_8 : decode cX1_isLost 8 = .ok (.ifCond .ne 19, 3) := by decide +kernel
theorem dX1_isLost_11 : decode cX1_isLost 11 = .ok (.aload_n 0, 1) := by decide +kernel
theorem dX1_isLost_12 : decode cX1_isLost 12 = .ok (.getfield 27, 3) := by decide +kernel
theorem dX1_isLost_15 : decode cX1_isLost 15 = .ok (.aload_n 1, 1) := by decide +kernel
theorem dX1_isLost_16 : decode cX1_isLost 16 = .ok (.getfield 34, 3) := by decide +kernel
theorem dX1_isLost_19 : decode cX1_isLost 19 = .ok (.iload_n 2, 1) := by decide +kernel
theorem dX1_isLost_20 : decode cX1_isLost 20 = .ok (.iaload, 1) := by decide +kernel
theorem dX1_isLost_21 : decode cX1_isLost 21 = .ok (.invokestatic 30, 3) := by decide +kernel
theorem dX1_isLost_24 : decode cX1_isLost 24 = .ok (.ifCond .eq 7, 3) := by decide +kernel
theorem dX1_isLost_27 : decode cX1_isLost 27 = .ok (.iconst 1, 1) := by decide +kernel
theorem dX1_isLost_28 : decode cX1_isLost 28 = .ok (.goto 4, 3) := by decide +kernel
theorem dX1_isLost_31 : decode cX1_isLost 31 = .ok (.iconst 0, 1) := by decide +kernel
theorem dX1_isLost_32 : decode cX1_isLost 32 = .ok (.ireturn, 1) := by decide +kernel
theorem dX1_weighs_0 : decode cX1_weighs 0 = .ok (.aload_n 0, 1) := by decide +kernel
theorem dX1_weighs_1 : decode cX1_weighs 1 = .ok (.getfield 24, 3) := by decide +kernel
theorem dX1_weighs_4 : decode cX1_weighs 4 = .ok (.iload_n 2, 1) := by decide +kernel
theorem dX1_weighs_5 : decode cX1_weighs 5 = .ok (.invokestatic 30, 3) := by decide +kernel
theorem dX1_weighs_8 : decode cX1_weighs 8 = .ok (.ifCond .eq 5, 3) := by decide +kernel
theorem dX1_weighs_11 : decode cX1_weighs 11 = .ok (.iconst 0, 1) := by decide +kernel
theorem dX1_weighs_12 : decode cX1_weighs 12 = .ok (.ireturn, 1) := by decide +kernel
theorem dX1_weighs_13 : decode cX1_weighs 13 = .ok (.aload_n 0, 1) := by decide +kernel
theorem dX1_weighs_14 : decode cX1_weighs 14 = .ok (.iload_n 2, 1) := by decide +kernel
theorem dX1_weighs_15 : decode cX1_weighs 15 = .ok (.invokevirtual 40, 3) := by decide +kernel
theorem dX1_weighs_18 : decode cX1_weighs 18 = .ok (.ifCond .eq 14, 3) := by decide +kernel
theorem dX1_weighs_21 : decode cX1_weighs 21 = .ok (.iconst 3, 1) := by decide +kernel
theorem dX1_weighs_22 : decode cX1_weighs 22 = .ok (.aload_n 1, 1) := by decide +kernel
theorem dX1_weighs_23 : decode cX1_weighs 23 = .ok (.getfield 44, 3) := by decide +kernel
theorem dX1_weighs_26 : decode cX1_weighs 26 = .ok (.iload_n 2, 1) := by decide +kernel
theorem dX1_weighs_27 : decode cX1_weighs 27 = .ok (.iaload, 1) := by decide +kernel
theorem dX1_weighs_28 : decode cX1_weighs 28 = .ok (.imul, 1) := by decide +kernel
theorem dX1_weighs_29 : decode cX1_weighs 29 = .ok (.goto 9, 3) := by decide +kernel
theorem dX1_weighs_32 : decode cX1_weighs 32 = .ok (.aload_n 1, 1) := by decide +kernel
theorem dX1_weighs_33 : decode cX1_weighs 33 = .ok (.getfield 44, 3) := by decide +kernel
theorem dX1_weighs_36 : decode cX1_weighs 36 = .ok (.iload_n 2, 1) := by decide +kernel
theorem dX1_weighs_37 : decode cX1_weighs 37 = .ok (.iaload, 1) := by decide +kernel
theorem dX1_weighs_38 : decode cX1_weighs 38 = .ok (.ireturn, 1) := by decide +kernel
theorem dX1_loadOf_0 : decode cX1_loadOf 0 = .ok (.iconst 0, 1) := by decide +kernel
theorem dX1_loadOf_1 : decode cX1_loadOf 1 = .ok (.istore_n 3, 1) := by decide +kernel
theorem dX1_loadOf_2 : decode cX1_loadOf 2 = .ok (.iconst 0, 1) := by decide +kernel
theorem dX1_loadOf_3 : decode cX1_loadOf 3 = .ok (.istore 4, 2) := by decide +kernel
theorem dX1_loadOf_5 : decode cX1_loadOf 5 = .ok (.iload 4, 2) := by decide +kernel
theorem dX1_loadOf_7 : decode cX1_loadOf 7 = .ok (.aload_n 1, 1) := by decide +kernel
theorem dX1_loadOf_8 : decode cX1_loadOf 8 = .ok (.getfield 47, 3) := by decide +kernel
theorem dX1_loadOf_11 : decode cX1_loadOf 11 = .ok (.if_icmp .ge 30, 3) := by decide +kernel
theorem dX1_loadOf_14 : decode cX1_loadOf 14 = .ok (.aload_n 1, 1) := by decide +kernel
theorem dX1_loadOf_15 : decode cX1_loadOf 15 = .ok (.getfield 34, 3) := by decide +kernel
theorem dX1_loadOf_18 : decode cX1_loadOf 18 = .ok (.iload 4, 2) := by decide +kernel
theorem dX1_loadOf_20 : decode cX1_loadOf 20 = .ok (.iaload, 1) := by decide +kernel
theorem dX1_loadOf_21 : decode cX1_loadOf 21 = .ok (.iload_n 2, 1) := by decide +kernel
theorem dX1_loadOf_22 : decode cX1_loadOf 22 = .ok (.if_icmp .ne 13, 3) := by decide +kernel
theorem dX1_loadOf_25 : decode cX1_loadOf 25 = .ok (.iload_n 3, 1) := by decide +kernel
theorem dX1_loadOf_26 : decode cX1_loadOf 26 = .ok (.aload_n 0, 1) := by decide +kernel
theorem dX1_loadOf_27 : decode cX1_loadOf 27 = .ok (.aload_n 1, 1) := by decide +kernel
theorem dX1_loadOf_28 : decode cX1_loadOf 28 = .ok (.iload 4, 2) := by decide +kernel
theorem dX1_loadOf_30 : decode cX1_loadOf 30 = .ok (.invokevirtual 50, 3) := by decide +kernel
theorem dX1_loadOf_33 : decode cX1_loadOf 33 = .ok (.iadd, 1) := by decide +kernel
theorem dX1_loadOf_34 : decode cX1_loadOf 34 = .ok (.istore_n 3, 1) := by decide +kernel
theorem dX1_loadOf_35 : decode cX1_loadOf 35 = .ok (.iinc 4 1, 3) := by decide +kernel
theorem dX1_loadOf_38 : decode cX1_loadOf 38 = .ok (.goto (-33), 3) := by decide +kernel
theorem dX1_loadOf_41 : decode cX1_loadOf 41 = .ok (.iload_n 3, 1) := by decide +kernel
theorem dX1_loadOf_42 : decode cX1_loadOf 42 = .ok (.ireturn, 1) := by decide +kernel
theorem dX1_firstOverloaded_0 : decode cX1_firstOverloaded 0 = .ok (.iconst 0, 1) := by decide +kernel
theorem dX1_firstOverloaded_1 : decode cX1_firstOverloaded 1 = .ok (.istore_n 2, 1) := by decide +kernel
theorem dX1_firstOverloaded_2 : decode cX1_firstOverloaded 2 = .ok (.iload_n 2, 1) := by decide +kernel
theorem dX1_firstOverloaded_3 : decode cX1_firstOverloaded 3 = .ok (.iconst 3, 1) := by decide +kernel
theorem dX1_firstOverloaded_4 : decode cX1_firstOverloaded 4 = .ok (.if_icmp .ge 37, 3) := by decide +kernel
theorem dX1_firstOverloaded_7 : decode cX1_firstOverloaded 7 = .ok (.aload_n 0, 1) := by decide +kernel
theorem dX1_firstOverloaded_8 : decode cX1_firstOverloaded 8 = .ok (.getfield 27, 3) := by decide +kernel
theorem dX1_firstOverloaded_11 : decode cX1_firstOverloaded 11 = .ok (.iload_n 2, 1) := by decide +kernel
theorem dX1_firstOverloaded_12 : decode cX1_firstOverloaded 12 = .ok (.invokestatic 30, 3) := by decide +kernel
theorem dX1_firstOverloaded_15 : decode cX1_firstOverloaded 15 = .ok (.ifCond .ne 20, 3) := by decide +kernel
theorem dX1_firstOverloaded_18 : decode cX1_firstOverloaded 18 = .ok (.aload_n 0, 1) := by decide +kernel
theorem dX1_firstOverloaded_19 : decode cX1_firstOverloaded 19 = .ok (.aload_n 1, 1) := by decide +kernel
theorem dX1_firstOverloaded_20 : decode cX1_firstOverloaded 20 = .ok (.iload_n 2, 1) := by decide +kernel
theorem dX1_firstOverloaded_21 : decode cX1_firstOverloaded 21 = .ok (.invokevirtual 54, 3) := by decide +kernel
theorem dX1_firstOverloaded_24 : decode cX1_firstOverloaded 24 = .ok (.aload_n 1, 1) := by decide +kernel
theorem dX1_firstOverloaded_25 : decode cX1_firstOverloaded 25 = .ok (.getfield 57, 3) := by decide +kernel
theorem dX1_firstOverloaded_28 : decode cX1_firstOverloaded 28 = .ok (.iload_n 2, 1) := by decide +kernel
theorem dX1_firstOverloaded_29 : decode cX1_firstOverloaded 29 = .ok (.iaload, 1) := by decide +kernel
theorem dX1_firstOverloaded_30 : decode cX1_firstOverloaded 30 = .ok (.if_icmp .le 5, 3) := by decide +kernel
theorem dX1_firstOverloaded_33 : decode cX1_firstOverloaded 33 = .ok (.iload_n 2, 1) := by decide +kernel
theorem dX1_firstOverloaded_34 : decode cX1_firstOverloaded 34 = .ok (.ireturn, 1) := by decide +kernel
theorem dX1_firstOverloaded_35 : decode cX1_firstOverloaded 35 = .ok (.iinc 2 1, 3) := by decide +kernel
theorem dX1_firstOverloaded_38 : decode cX1_firstOverloaded 38 = .ok (.goto (-36), 3) := by decide +kernel
theorem dX1_firstOverloaded_41 : decode cX1_firstOverloaded 41 = .ok (.iconst (-1), 1) := by decide +kernel
theorem dX1_firstOverloaded_42 : decode cX1_firstOverloaded 42 = .ok (.ireturn, 1) := by decide +kernel
theorem dX1_priceOf_0 : decode cX1_priceOf 0 = .ok (.aload_n 0, 1) := by decide +kernel
theorem dX1_priceOf_1 : decode cX1_priceOf 1 = .ok (.aload_n 1, 1) := by decide +kernel
theorem dX1_priceOf_2 : decode cX1_priceOf 2 = .ok (.iload_n 2, 1) := by decide +kernel
theorem dX1_priceOf_3 : decode cX1_priceOf 3 = .ok (.invokevirtual 60, 3) := by decide +kernel
theorem dX1_priceOf_6 : decode cX1_priceOf 6 = .ok (.ifCond .eq 5, 3) := by decide +kernel
theorem dX1_priceOf_9 : decode cX1_priceOf 9 = .ok (.iconst 0, 1) := by decide +kernel
theorem dX1_priceOf_10 : decode cX1_priceOf 10 = .ok (.ireturn, 1) := by decide +kernel
theorem dX1_priceOf_11 : decode cX1_priceOf 11 = .ok (.aload_n 0, 1) := by decide +kernel
theorem dX1_priceOf_12 : decode cX1_priceOf 12 = .ok (.iload_n 2, 1) := by decide +kernel
theorem dX1_priceOf_13 : decode cX1_priceOf 13 = .ok (.invokevirtual 40, 3) := by decide +kernel
theorem dX1_priceOf_16 : decode cX1_priceOf 16 = .ok (.ifCond .eq 14, 3) := by decide +kernel
theorem dX1_priceOf_19 : decode cX1_priceOf 19 = .ok (.iconst 3, 1) := by decide +kernel
theorem dX1_priceOf_20 : decode cX1_priceOf 20 = .ok (.aload_n 1, 1) := by decide +kernel
theorem dX1_priceOf_21 : decode cX1_priceOf 21 = .ok (.getfield 44, 3) := by decide +kernel
theorem dX1_priceOf_24 : decode cX1_priceOf 24 = .ok (.iload_n 2, 1) := by decide +kernel
theorem dX1_priceOf_25 : decode cX1_priceOf 25 = .ok (.iaload, 1) := by decide +kernel
theorem dX1_priceOf_26 : decode cX1_priceOf 26 = .ok (.imul, 1) := by decide +kernel
theorem dX1_priceOf_27 : decode cX1_priceOf 27 = .ok (.goto 9, 3) := by decide +kernel
theorem dX1_priceOf_30 : decode cX1_priceOf 30 = .ok (.aload_n 1, 1) := by decide +kernel
theorem dX1_priceOf_31 : decode cX1_priceOf 31 = .ok (.getfield 64, 3) := by decide +kernel
theorem dX1_priceOf_34 : decode cX1_priceOf 34 = .ok (.iload_n 2, 1) := by decide +kernel
theorem dX1_priceOf_35 : decode cX1_priceOf 35 = .ok (.iaload, 1) := by decide +kernel
theorem dX1_priceOf_36 : decode cX1_priceOf 36 = .ok (.ireturn, 1) := by decide +kernel
theorem dX1_prices_0 : decode cX1_prices 0 = .ok (.iconst 0, 1) := by decide +kernel
theorem dX1_prices_1 : decode cX1_prices 1 = .ok (.istore_n 2, 1) := by decide +kernel
theorem dX1_prices_2 : decode cX1_prices 2 = .ok (.iconst 0, 1) := by decide +kernel
theorem dX1_prices_3 : decode cX1_prices 3 = .ok (.istore_n 3, 1) := by decide +kernel
theorem dX1_prices_4 : decode cX1_prices 4 = .ok (.iload_n 3, 1) := by decide +kernel
theorem dX1_prices_5 : decode cX1_prices 5 = .ok (.aload_n 1, 1) := by decide +kernel
theorem dX1_prices_6 : decode cX1_prices 6 = .ok (.getfield 47, 3) := by decide +kernel
theorem dX1_prices_9 : decode cX1_prices 9 = .ok (.if_icmp .ge 18, 3) := by decide +kernel
theorem dX1_prices_12 : decode cX1_prices 12 = .ok (.iload_n 2, 1) := by decide +kernel
theorem dX1_prices_13 : decode cX1_prices 13 = .ok (.aload_n 0, 1) := by decide +kernel
theorem dX1_prices_14 : decode cX1_prices 14 = .ok (.aload_n 1, 1) := by decide +kernel
theorem dX1_prices_15 : decode cX1_prices 15 = .ok (.iload_n 3, 1) := by decide +kernel
theorem dX1_prices_16 : decode cX1_prices 16 = .ok (.invokevirtual 67, 3) := by decide +kernel
theorem dX1_prices_19 : decode cX1_prices 19 = .ok (.iadd, 1) := by decide +kernel
theorem dX1_prices_20 : decode cX1_prices 20 = .ok (.istore_n 2, 1) := by decide +kernel
theorem dX1_prices_21 : decode cX1_prices 21 = .ok (.iinc 3 1, 3) := by decide +kernel
theorem dX1_prices_24 : decode cX1_prices 24 = .ok (.goto (-20), 3) := by decide +kernel
theorem dX1_prices_27 : decode cX1_prices 27 = .ok (.iload_n 2, 1) := by decide +kernel
theorem dX1_prices_28 : decode cX1_prices 28 = .ok (.ireturn, 1) := by decide +kernel
theorem dX1_openGates_0 : decode cX1_openGates 0 = .ok (.iconst 0, 1) := by decide +kernel
theorem dX1_openGates_1 : decode cX1_openGates 1 = .ok (.istore_n 2, 1) := by decide +kernel
theorem dX1_openGates_2 : decode cX1_openGates 2 = .ok (.iconst 0, 1) := by decide +kernel
theorem dX1_openGates_3 : decode cX1_openGates 3 = .ok (.istore_n 3, 1) := by decide +kernel
theorem dX1_openGates_4 : decode cX1_openGates 4 = .ok (.iload_n 3, 1) := by decide +kernel
theorem dX1_openGates_5 : decode cX1_openGates 5 = .ok (.aload_n 1, 1) := by decide +kernel
theorem dX1_openGates_6 : decode cX1_openGates 6 = .ok (.getfield 47, 3) := by decide +kernel
theorem dX1_openGates_9 : decode cX1_openGates 9 = .ok (.if_icmp .ge 39, 3) := by decide +kernel
theorem dX1_openGates_12 : decode cX1_openGates 12 = .ok (.aload_n 1, 1) := by decide +kernel
theorem dX1_openGates_13 : decode cX1_openGates 13 = .ok (.getfield 70, 3) := by decide +kernel
theorem dX1_openGates_16 : decode cX1_openGates 16 = .ok (.iload_n 3, 1) := by decide +kernel
theorem dX1_openGates_17 : decode cX1_openGates 17 = .ok (.iaload, 1) := by decide +kernel
theorem dX1_openGates_18 : decode cX1_openGates 18 = .ok (.iconst 2, 1) := by decide +kernel
theorem dX1_openGates_19 : decode cX1_openGates 19 = .ok (.if_icmp .ne 23, 3) := by decide +kernel
theorem dX1_openGates_22 : decode cX1_openGates 22 = .ok (.aload_n 0, 1) := by decide +kernel
theorem dX1_openGates_23 : decode cX1_openGates 23 = .ok (.iload_n 3, 1) := by decide +kernel
theorem dX1_openGates_24 : decode cX1_openGates 24 = .ok (.invokevirtual 40, 3) := by decide +kernel
theorem dX1_openGates_27 : decode cX1_openGates 27 = .ok (.ifCond .ne 15, 3) := by decide +kernel
theorem dX1_openGates_30 : decode cX1_openGates 30 = .ok (.aload_n 0, 1) := by decide +kernel
theorem dX1_openGates_31 : decode cX1_openGates 31 = .ok (.aload_n 1, 1) := by decide +kernel
theorem dX1_openGates_32 : decode cX1_openGates 32 = .ok (.iload_n 3, 1) := by decide +kernel
theorem dX1_openGates_33 : decode cX1_openGates 33 = .ok (.invokevirtual 60, 3) := by decide +kernel
theorem dX1_openGates_36 : decode cX1_openGates 36 = .ok (.ifCond .ne 6, 3) := by decide +kernel
theorem dX1_openGates_39 : decode cX1_openGates 39 = .ok (.iinc 2 1, 3) := by decide +kernel
theorem dX1_openGates_42 : decode cX1_openGates 42 = .ok (.iinc 3 1, 3) := by decide +kernel
theorem dX1_openGates_45 : decode cX1_openGates 45 = .ok (.goto (-41), 3) := by decide +kernel
theorem dX1_openGates_48 : decode cX1_openGates 48 = .ok (.iload_n 2, 1) := by decide +kernel
theorem dX1_openGates_49 : decode cX1_openGates 49 = .ok (.ireturn, 1) := by decide +kernel
theorem dX1_toolOf_0 : decode cX1_toolOf 0 = .ok (.iconst (-1), 1) := by decide +kernel
theorem dX1_toolOf_1 : decode cX1_toolOf 1 = .ok (.istore 4, 2) := by decide +kernel
theorem dX1_toolOf_3 : decode cX1_toolOf 3 = .ok (.iconst 0, 1) := by decide +kernel
theorem dX1_toolOf_4 : decode cX1_toolOf 4 = .ok (.istore 5, 2) := by decide +kernel
theorem dX1_toolOf_6 : decode cX1_toolOf 6 = .ok (.iconst 0, 1) := by decide +kernel
theorem dX1_toolOf_7 : decode cX1_toolOf 7 = .ok (.istore 6, 2) := by decide +kernel
theorem dX1_toolOf_9 : decode cX1_toolOf 9 = .ok (.iload 6, 2) := by decide +kernel
theorem dX1_toolOf_11 : decode cX1_toolOf 11 = .ok (.aload_n 1, 1) := by decide +kernel
theorem dX1_toolOf_12 : decode cX1_toolOf 12 = .ok (.getfield 47, 3) := by decide +kernel
theorem dX1_toolOf_15 : decode cX1_toolOf 15 = .ok (.if_icmp .ge 99, 3) := by decide +kernel
theorem dX1_toolOf_18 : decode cX1_toolOf 18 = .ok (.aload_n 1, 1) := by decide +kernel
theorem dX1_toolOf_19 : decode cX1_toolOf 19 = .ok (.getfield 70, 3) := by decide +kernel
theorem dX1_toolOf_22 : decode cX1_toolOf 22 = .ok (.iload 6, 2) := by decide +kernel
theorem dX1_toolOf_24 : decode cX1_toolOf 24 = .ok (.iaload, 1) := by decide +kernel
theorem dX1_toolOf_25 : decode cX1_toolOf 25 = .ok (.iconst 1, 1) := by decide +kernel
theorem dX1_toolOf_26 : decode cX1_toolOf 26 = .ok (.if_icmp .ne 82, 3) := by decide +kernel
theorem dX1_toolOf_29 : decode cX1_toolOf 29 = .ok (.aload_n 1, 1) := by decide +kernel
theorem dX1_toolOf_30 : decode cX1_toolOf 30 = .ok (.getfield 34, 3) := by decide +kernel
theorem dX1_toolOf_33 : decode cX1_toolOf 33 = .ok (.iload 6, 2) := by decide +kernel
theorem dX1_toolOf_35 : decode cX1_toolOf 35 = .ok (.iaload, 1) := by decide +kernel
theorem dX1_toolOf_36 : decode cX1_toolOf 36 = .ok (.iload_n 2, 1) := by decide +kernel
theorem dX1_toolOf_37 : decode cX1_toolOf 37 = .ok (.if_icmp .ne 71, 3) := by decide +kernel
theorem dX1_toolOf_40 : decode cX1_toolOf 40 = .ok (.iload_n 3, 1) := by decide +kernel
theorem dX1_toolOf_41 : decode cX1_toolOf 41 = .ok (.iload 6, 2) := by decide +kernel
theorem dX1_toolOf_43 : decode cX1_toolOf 43 = .ok (.invokestatic 30, 3) := by decide +kernel
theorem dX1_toolOf_46 : decode cX1_toolOf 46 = .ok (.ifCond .ne 62, 3) := by decide +kernel
theorem dX1_toolOf_49 : decode cX1_toolOf 49 = .ok (.aload_n 0, 1) := by decide +kernel
theorem dX1_toolOf_50 : decode cX1_toolOf 50 = .ok (.aload_n 1, 1) := by decide +kernel
theorem dX1_toolOf_51 : decode cX1_toolOf 51 = .ok (.iload 6, 2) := by decide +kernel
theorem dX1_toolOf_53 : decode cX1_toolOf 53 = .ok (.invokevirtual 60, 3) := by decide +kernel
theorem dX1_toolOf_56 : decode cX1_toolOf 56 = .ok (.ifCond .eq 6, 3) := by decide +kernel
theorem dX1_toolOf_59 : decode cX1_toolOf 59 = .ok (.goto 49, 3) := by decide +kernel
theorem dX1_toolOf_62 : decode cX1_toolOf 62 = .ok (.aload_n 0, 1) := by decide +kernel
theorem dX1_toolOf_63 : decode cX1_toolOf 63 = .ok (.getfield 21, 3) := by decide +kernel
theorem dX1_toolOf_66 : decode cX1_toolOf 66 = .ok (.iload 6, 2) := by decide +kernel
theorem dX1_toolOf_68 : decode cX1_toolOf 68 = .ok (.invokestatic 30, 3) := by decide +kernel
theorem dX1_toolOf_71 : decode cX1_toolOf 71 = .ok (.ifCond .eq 7, 3) := by decide +kernel
theorem dX1_toolOf_74 : decode cX1_toolOf 74 = .ok (.iconst 0, 1) := by decide +kernel
theorem dX1_toolOf_75 : decode cX1_toolOf 75 = .ok (.goto 10, 3) := by decide +kernel
theorem dX1_toolOf_78 : decode cX1_toolOf 78 = .ok (.aload_n 1, 1) := by decide +kernel
theorem dX1_toolOf_79 : decode cX1_toolOf 79 = .ok (.getfield 44, 3) := by decide +kernel
theorem dX1_toolOf_82 : decode cX1_toolOf 82 = .ok (.iload 6, 2) := by decide +kernel
theorem dX1_toolOf_84 : decode cX1_toolOf 84 = .ok (.iaload, 1) := by decide +kernel
theorem dX1_toolOf_85 : decode cX1_toolOf 85 = .ok (.istore 7, 2) := by decide +kernel
theorem dX1_toolOf_87 : decode cX1_toolOf 87 = .ok (.iload 4, 2) := by decide +kernel
theorem dX1_toolOf_89 : decode cX1_toolOf 89 = .ok (.iconst (-1), 1) := by decide +kernel
theorem dX1_toolOf_90 : decode cX1_toolOf 90 = .ok (.if_icmp .eq 10, 3) := by decide +kernel
theorem dX1_toolOf_93 : decode cX1_toolOf 93 = .ok (.iload 7, 2) := by decide +kernel
theorem dX1_toolOf_95 : decode cX1_toolOf 95 = .ok (.iload 5, 2) := by decide +kernel
theorem dX1_toolOf_97 : decode cX1_toolOf 97 = .ok (.if_icmp .ge 11, 3) := by decide +kernel
theorem dX1_toolOf_100 : decode cX1_toolOf 100 = .ok (.iload 6, 2) := by decide +kernel
theorem dX1_toolOf_102 : decode cX1_toolOf 102 = .ok (.istore 4, 2) := by decide +kernel
theorem dX1_toolOf_104 : decode cX1_toolOf 104 = .ok (.iload 7, 2) := by decide +kernel
theorem dX1_toolOf_106 : decode cX1_toolOf 106 = .ok (.istore 5, 2) := by decide +kernel
theorem dX1_toolOf_108 : decode cX1_toolOf 108 = .ok (.iinc 6 1, 3) := by decide +kernel
theorem dX1_toolOf_111 : decode cX1_toolOf 111 = .ok (.goto (-102), 3) := by decide +kernel
theorem dX1_toolOf_114 : decode cX1_toolOf 114 = .ok (.iload 4, 2) := by decide +kernel
theorem dX1_toolOf_116 : decode cX1_toolOf 116 = .ok (.ireturn, 1) := by decide +kernel
theorem dX1_gild_0 : decode cX1_gild 0 = .ok (.aload_n 1, 1) := by decide +kernel
theorem dX1_gild_1 : decode cX1_gild 1 = .ok (.aload_n 0, 1) := by decide +kernel
theorem dX1_gild_2 : decode cX1_gild 2 = .ok (.getfield 15, 3) := by decide +kernel
theorem dX1_gild_5 : decode cX1_gild 5 = .ok (.aload_n 0, 1) := by decide +kernel
theorem dX1_gild_6 : decode cX1_gild 6 = .ok (.getfield 9, 3) := by decide +kernel
theorem dX1_gild_9 : decode cX1_gild 9 = .ok (.invokestatic 73, 3) := by decide +kernel
theorem dX1_gild_12 : decode cX1_gild 12 = .ok (.istore_n 3, 1) := by decide +kernel
theorem dX1_gild_13 : decode cX1_gild 13 = .ok (.iload_n 3, 1) := by decide +kernel
theorem dX1_gild_14 : decode cX1_gild 14 = .ok (.ifCond .eq 14, 3) := by decide +kernel
theorem dX1_gild_17 : decode cX1_gild 17 = .ok (.aload_n 0, 1) := by decide +kernel
theorem dX1_gild_18 : decode cX1_gild 18 = .ok (.getfield 21, 3) := by decide +kernel
theorem dX1_gild_21 : decode cX1_gild 21 = .ok (.iload_n 2, 1) := by decide +kernel
theorem dX1_gild_22 : decode cX1_gild 22 = .ok (.invokestatic 30, 3) := by decide +kernel
theorem dX1_gild_25 : decode cX1_gild 25 = .ok (.ifCond .eq 4, 3) := by decide +kernel
theorem dX1_gild_28 : decode cX1_gild 28 = .ok (.return_, 1) := by decide +kernel
theorem dX1_gild_29 : decode cX1_gild 29 = .ok (.iload_n 3, 1) := by decide +kernel
theorem dX1_gild_30 : decode cX1_gild 30 = .ok (.iconst 1, 1) := by decide +kernel
theorem dX1_gild_31 : decode cX1_gild 31 = .ok (.if_icmp .ne 27, 3) := by decide +kernel
theorem dX1_gild_34 : decode cX1_gild 34 = .ok (.aload_n 0, 1) := by decide +kernel
theorem dX1_gild_35 : decode cX1_gild 35 = .ok (.getfield 9, 3) := by decide +kernel
theorem dX1_gild_38 : decode cX1_gild 38 = .ok (.aload_n 1, 1) := by decide +kernel
theorem dX1_gild_39 : decode cX1_gild 39 = .ok (.getfield 77, 3) := by decide +kernel
theorem dX1_gild_42 : decode cX1_gild 42 = .ok (.if_icmp .ge 16, 3) := by decide +kernel
theorem dX1_gild_45 : decode cX1_gild 45 = .ok (.aload_n 0, 1) := by decide +kernel
theorem dX1_gild_46 : decode cX1_gild 46 = .ok (.dup, 1) := by decide +kernel
theorem dX1_gild_47 : decode cX1_gild 47 = .ok (.getfield 18, 3) := by decide +kernel
theorem dX1_gild_50 : decode cX1_gild 50 = .ok (.iconst 1, 1) := by decide +kernel
theorem dX1_gild_51 : decode cX1_gild 51 = .ok (.iload_n 2, 1) := by decide +kernel
theorem dX1_gild_52 : decode cX1_gild 52 = .ok (.ishl, 1) := by decide +kernel
theorem dX1_gild_53 : decode cX1_gild 53 = .ok (.ior, 1) := by decide +kernel
theorem dX1_gild_54 : decode cX1_gild 54 = .ok (.putfield 18, 3) := by decide +kernel
theorem dX1_gild_57 : decode cX1_gild 57 = .ok (.return_, 1) := by decide +kernel
theorem dX1_gild_58 : decode cX1_gild 58 = .ok (.aload_n 0, 1) := by decide +kernel
theorem dX1_gild_59 : decode cX1_gild 59 = .ok (.dup, 1) := by decide +kernel
theorem dX1_gild_60 : decode cX1_gild 60 = .ok (.getfield 18, 3) := by decide +kernel
theorem dX1_gild_63 : decode cX1_gild 63 = .ok (.iconst 1, 1) := by decide +kernel
theorem dX1_gild_64 : decode cX1_gild 64 = .ok (.iload_n 2, 1) := by decide +kernel
theorem dX1_gild_65 : decode cX1_gild 65 = .ok (.ishl, 1) := by decide +kernel
theorem dX1_gild_66 : decode cX1_gild 66 = .ok (.iconst (-1), 1) := by decide +kernel
theorem dX1_gild_67 : decode cX1_gild 67 = .ok (.ixor, 1) := by decide +kernel
theorem dX1_gild_68 : decode cX1_gild 68 = .ok (.iand, 1) := by decide +kernel
theorem dX1_gild_69 : decode cX1_gild 69 = .ok (.putfield 18, 3) := by decide +kernel
theorem dX1_gild_72 : decode cX1_gild 72 = .ok (.aload_n 0, 1) := by decide +kernel
theorem dX1_gild_73 : decode cX1_gild 73 = .ok (.dup, 1) := by decide +kernel
theorem dX1_gild_74 : decode cX1_gild 74 = .ok (.getfield 21, 3) := by decide +kernel
theorem dX1_gild_77 : decode cX1_gild 77 = .ok (.iconst 1, 1) := by decide +kernel
theorem dX1_gild_78 : decode cX1_gild 78 = .ok (.iload_n 2, 1) := by decide +kernel
theorem dX1_gild_79 : decode cX1_gild 79 = .ok (.ishl, 1) := by decide +kernel
theorem dX1_gild_80 : decode cX1_gild 80 = .ok (.ior, 1) := by decide +kernel
theorem dX1_gild_81 : decode cX1_gild 81 = .ok (.putfield 21, 3) := by decide +kernel
theorem dX1_gild_84 : decode cX1_gild 84 = .ok (.return_, 1) := by decide +kernel
theorem dX1_pass_0 : decode cX1_pass 0 = .ok (.iconst 0, 1) := by decide +kernel
theorem dX1_pass_1 : decode cX1_pass 1 = .ok (.istore_n 2, 1) := by decide +kernel
theorem dX1_pass_2 : decode cX1_pass 2 = .ok (.iload_n 2, 1) := by decide +kernel
theorem dX1_pass_3 : decode cX1_pass 3 = .ok (.iconst 3, 1) := by decide +kernel
theorem dX1_pass_4 : decode cX1_pass 4 = .ok (.if_icmp .ge 36, 3) := by decide +kernel
theorem dX1_pass_7 : decode cX1_pass 7 = .ok (.aload_n 0, 1) := by decide +kernel
theorem dX1_pass_8 : decode cX1_pass 8 = .ok (.aload_n 1, 1) := by decide +kernel
theorem dX1_pass_9 : decode cX1_pass 9 = .ok (.iload_n 2, 1) := by decide +kernel
theorem dX1_pass_10 : decode cX1_pass 10 = .ok (.invokevirtual 54, 3) := by decide +kernel
theorem dX1_pass_13 : decode cX1_pass 13 = .ok (.aload_n 1, 1) := by decide +kernel
theorem dX1_pass_14 : decode cX1_pass 14 = .ok (.getfield 57, 3) := by decide +kernel
theorem dX1_pass_17 : decode cX1_pass 17 = .ok (.iload_n 2, 1) := by decide +kernel
theorem dX1_pass_18 : decode cX1_pass 18 = .ok (.iaload, 1) := by decide +kernel
theorem dX1_pass_19 : decode cX1_pass 19 = .ok (.if_icmp .le 15, 3) := by decide +kernel
theorem dX1_pass_22 : decode cX1_pass 22 = .ok (.aload_n 0, 1) := by decide +kernel
theorem dX1_pass_23 : decode cX1_pass 23 = .ok (.dup, 1) := by decide +kernel
theorem dX1_pass_24 : decode cX1_pass 24 = .ok (.getfield 27, 3) := by decide +kernel
theorem dX1_pass_27 : decode cX1_pass 27 = .ok (.iconst 1, 1) := by decide +kernel
theorem dX1_pass_28 : decode cX1_pass 28 = .ok (.iload_n 2, 1) := by decide +kernel
theorem dX1_pass_29 : decode cX1_pass 29 = .ok (.ishl, 1) := by decide +kernel
theorem dX1_pass_30 : decode cX1_pass 30 = .ok (.ior, 1) := by decide +kernel
theorem dX1_pass_31 : decode cX1_pass 31 = .ok (.putfield 27, 3) := by decide +kernel
theorem dX1_pass_34 : decode cX1_pass 34 = .ok (.iinc 2 1, 3) := by decide +kernel
theorem dX1_pass_37 : decode cX1_pass 37 = .ok (.goto (-35), 3) := by decide +kernel
theorem dX1_pass_40 : decode cX1_pass 40 = .ok (.aload_n 0, 1) := by decide +kernel
theorem dX1_pass_41 : decode cX1_pass 41 = .ok (.dup, 1) := by decide +kernel
theorem dX1_pass_42 : decode cX1_pass 42 = .ok (.getfield 9, 3) := by decide +kernel
theorem dX1_pass_45 : decode cX1_pass 45 = .ok (.iconst 1, 1) := by decide +kernel
theorem dX1_pass_46 : decode cX1_pass 46 = .ok (.iadd, 1) := by decide +kernel
theorem dX1_pass_47 : decode cX1_pass 47 = .ok (.putfield 9, 3) := by decide +kernel
theorem dX1_pass_50 : decode cX1_pass 50 = .ok (.aload_n 0, 1) := by decide +kernel
theorem dX1_pass_51 : decode cX1_pass 51 = .ok (.getfield 9, 3) := by decide +kernel
theorem dX1_pass_54 : decode cX1_pass 54 = .ok (.aload_n 1, 1) := by decide +kernel
theorem dX1_pass_55 : decode cX1_pass 55 = .ok (.getfield 77, 3) := by decide +kernel
theorem dX1_pass_58 : decode cX1_pass 58 = .ok (.if_icmp .ne 8, 3) := by decide +kernel
theorem dX1_pass_61 : decode cX1_pass 61 = .ok (.aload_n 0, 1) := by decide +kernel
theorem dX1_pass_62 : decode cX1_pass 62 = .ok (.iconst 0, 1) := by decide +kernel
theorem dX1_pass_63 : decode cX1_pass 63 = .ok (.putfield 18, 3) := by decide +kernel
theorem dX1_pass_66 : decode cX1_pass 66 = .ok (.return_, 1) := by decide +kernel
theorem dX2_init_0 : decode cX2_init 0 = .ok (.aload_n 0, 1) := by decide +kernel
theorem dX2_init_1 : decode cX2_init 1 = .ok (.invokespecial 3, 3) := by decide +kernel
theorem dX2_init_4 : decode cX2_init 4 = .ok (.aload_n 0, 1) := by decide +kernel
theorem dX2_init_5 : decode cX2_init 5 = .ok (.iconst 3, 1) := by decide +kernel
theorem dX2_init_6 : decode cX2_init 6 = .ok (.newarray .int, 2) := by decide +kernel
theorem dX2_init_8 : decode cX2_init 8 = .ok (.putfield 9, 3) := by decide +kernel
theorem dX2_init_11 : decode cX2_init 11 = .ok (.return_, 1) := by decide +kernel
theorem dX2_findWay_0 : decode cX2_findWay 0 = .ok (.aload_n 0, 1) := by decide +kernel
theorem dX2_findWay_1 : decode cX2_findWay 1 = .ok (.ldc 15, 2) := by decide +kernel
theorem dX2_findWay_3 : decode cX2_findWay 3 = .ok (.putfield 16, 3) := by decide +kernel
theorem dX2_findWay_6 : decode cX2_findWay 6 = .ok (.iconst 0, 1) := by decide +kernel
theorem dX2_findWay_7 : decode cX2_findWay 7 = .ok (.istore 4, 2) := by decide +kernel
theorem dX2_findWay_9 : decode cX2_findWay 9 = .ok (.iload 4, 2) := by decide +kernel
theorem dX2_findWay_11 : decode cX2_findWay 11 = .ok (.aload_n 1, 1) := by decide +kernel
theorem dX2_findWay_12 : decode cX2_findWay 12 = .ok (.getfield 20, 3) := by decide +kernel
theorem dX2_findWay_15 : decode cX2_findWay 15 = .ok (.if_icmp .ge 30, 3) := by decide +kernel
theorem dX2_findWay_18 : decode cX2_findWay 18 = .ok (.iload_n 3, 1) := by decide +kernel
theorem dX2_findWay_19 : decode cX2_findWay 19 = .ok (.iload 4, 2) := by decide +kernel
theorem dX2_findWay_21 : decode cX2_findWay 21 = .ok (.invokestatic 25, 3) := by decide +kernel
theorem dX2_findWay_24 : decode cX2_findWay 24 = .ok (.ifCond .eq 15, 3) := by decide +kernel
theorem dX2_findWay_27 : decode cX2_findWay 27 = .ok (.aload_n 2, 1) := by decide +kernel
theorem dX2_findWay_28 : decode cX2_findWay 28 = .ok (.aload_n 1, 1) := by decide +kernel
theorem dX2_findWay_29 : decode cX2_findWay 29 = .ok (.iload 4, 2) := by decide +kernel
theorem dX2_findWay_31 : decode cX2_findWay 31 = .ok (.invokevirtual 29, 3) := by decide +kernel
theorem dX2_findWay_34 : decode cX2_findWay 34 = .ok (.ifCond .eq 5, 3) := by decide +kernel
theorem dX2_findWay_37 : decode cX2_findWay 37 = .ok (.iconst 0, 1) := by decide +kernel
theorem dX2_findWay_38 : decode cX2_findWay 38 = .ok (.ireturn, 1) := by decide +kernel
theorem dX2_findWay_39 : decode cX2_findWay 39 = .ok (.iinc 4 1, 3) := by decide +kernel
theorem dX2_findWay_42 : decode cX2_findWay 42 = .ok (.goto (-33), 3) := by decide +kernel
theorem dX2_findWay_45 : decode cX2_findWay 45 = .ok (.iconst 0, 1) := by decide +kernel
theorem dX2_findWay_46 : decode cX2_findWay 46 = .ok (.istore 4, 2) := by decide +kernel
theorem dX2_findWay_48 : decode cX2_findWay 48 = .ok (.iload 4, 2) := by decide +kernel
theorem dX2_findWay_50 : decode cX2_findWay 50 = .ok (.iconst 3, 1) := by decide +kernel
theorem dX2_findWay_51 : decode cX2_findWay 51 = .ok (.if_icmp .ge 24, 3) := by decide +kernel
theorem dX2_findWay_54 : decode cX2_findWay 54 = .ok (.aload_n 0, 1) := by decide +kernel
theorem dX2_findWay_55 : decode cX2_findWay 55 = .ok (.getfield 9, 3) := by decide +kernel
theorem dX2_findWay_58 : decode cX2_findWay 58 = .ok (.iload 4, 2) := by decide +kernel
theorem dX2_findWay_60 : decode cX2_findWay 60 = .ok (.aload_n 2, 1) := by decide +kernel
theorem dX2_findWay_61 : decode cX2_findWay 61 = .ok (.aload_n 1, 1) := by decide +kernel
theorem dX2_findWay_62 : decode cX2_findWay 62 = .ok (.iload 4, 2) := by decide +kernel
theorem dX2_findWay_64 : decode cX2_findWay 64 = .ok (.iload_n 3, 1) := by decide +kernel
theorem dX2_findWay_65 : decode cX2_findWay 65 = .ok (.invokevirtual 35, 3) := by decide +kernel
theorem dX2_findWay_68 : decode cX2_findWay 68 = .ok (.iastore, 1) := by decide +kernel
theorem dX2_findWay_69 : decode cX2_findWay 69 = .ok (.iinc 4 1, 3) := by decide +kernel
theorem dX2_findWay_72 : decode cX2_findWay 72 = .ok (.goto (-24), 3) := by decide +kernel
theorem dX2_findWay_75 : decode cX2_findWay 75 = .ok (.aload_n 0, 1) := by decide +kernel
theorem dX2_findWay_76 : decode cX2_findWay 76 = .ok (.aload_n 1, 1) := by decide +kernel
theorem dX2_findWay_77 : decode cX2_findWay 77 = .ok (.aload_n 2, 1) := by decide +kernel
theorem dX2_findWay_78 : decode cX2_findWay 78 = .ok (.getfield 39, 3) := by decide +kernel
theorem dX2_findWay_81 : decode cX2_findWay 81 = .ok (.aload_n 2, 1) := by decide +kernel
theorem dX2_findWay_82 : decode cX2_findWay 82 = .ok (.getfield 42, 3) := by decide +kernel
theorem dX2_findWay_85 : decode cX2_findWay 85 = .ok (.iload_n 3, 1) := by decide +kernel
theorem dX2_findWay_86 : decode cX2_findWay 86 = .ok (.aload_n 2, 1) := by decide +kernel
theorem dX2_findWay_87 : decode cX2_findWay 87 = .ok (.getfield 45, 3) := by decide +kernel
theorem dX2_findWay_90 : decode cX2_findWay 90 = .ok (.iconst 0, 1) := by decide +kernel
theorem dX2_findWay_91 : decode cX2_findWay 91 = .ok (.iconst (-1), 1) := by decide +kernel
theorem dX2_findWay_92 : decode cX2_findWay 92 = .ok (.invokevirtual 48, 3) := by decide +kernel
theorem dX2_findWay_95 : decode cX2_findWay 95 = .ok (.aload_n 0, 1) := by decide +kernel
theorem dX2_findWay_96 : decode cX2_findWay 96 = .ok (.getfield 16, 3) := by decide +kernel
theorem dX2_findWay_99 : decode cX2_findWay 99 = .ok (.ldc 15, 2) := by decide +kernel
theorem dX2_findWay_101 : decode cX2_findWay 101 = .ok (.if_icmp .eq 7, 3) := by decide +kernel
theorem dX2_findWay_104 : decode cX2_findWay 104 = .ok (.iconst 1, 1) := by decide +kernel
theorem dX2_findWay_105 : decode cX2_findWay 105 = .ok (.goto 4, 3) := by decide +kernel
theorem dX2_findWay_108 : decode cX2_findWay 108 = .ok (.iconst 0, 1) := by decide +kernel
theorem dX2_findWay_109 : decode cX2_findWay 109 = .ok (.ireturn, 1) := by decide +kernel
theorem dX2_search_0 : decode cX2_search 0 = .ok (.iload 6, 2) := by decide +kernel
theorem dX2_search_2 : decode cX2_search 2 = .ok (.iload_n 2, 1) := by decide +kernel
theorem dX2_search_3 : decode cX2_search 3 = .ok (.iload 4, 2) := by decide +kernel
theorem dX2_search_5 : decode cX2_search 5 = .ok (.invokestatic 52, 3) := by decide +kernel
theorem dX2_search_8 : decode cX2_search 8 = .ok (.iadd, 1) := by decide +kernel
theorem dX2_search_9 : decode cX2_search 9 = .ok (.iconst 1, 1) := by decide +kernel
theorem dX2_search_10 : decode cX2_search 10 = .ok (.isub, 1) := by decide +kernel
theorem dX2_search_11 : decode cX2_search 11 = .ok (.invokestatic 58, 3) := by decide +kernel
theorem dX2_search_14 : decode cX2_search 14 = .ok (.aload_n 0, 1) := by decide +kernel
theorem dX2_search_15 : decode cX2_search 15 = .ok (.getfield 16, 3) := by decide +kernel
theorem dX2_search_18 : decode cX2_search 18 = .ok (.if_icmp .lt 4, 3) := by decide +kernel
theorem dX2_search_21 : decode cX2_search 21 = .ok (.return_, 1) := by decide +kernel
theorem dX2_search_22 : decode cX2_search 22 = .ok (.iload 4, 2) := by decide +kernel
theorem dX2_search_24 : decode cX2_search 24 = .ok (.ifCond .ne 15, 3) := by decide +kernel
theorem dX2_search_27 : decode cX2_search 27 = .ok (.aload_n 0, 1) := by decide +kernel
theorem dX2_search_28 : decode cX2_search 28 = .ok (.iload 6, 2) := by decide +kernel
theorem dX2_search_30 : decode cX2_search 30 = .ok (.iload_n 2, 1) := by decide +kernel
theorem dX2_search_31 : decode cX2_search 31 = .ok (.iconst 1, 1) := by decide +kernel
theorem dX2_search_32 : decode cX2_search 32 = .ok (.isub, 1) := by decide +kernel
theorem dX2_search_33 : decode cX2_search 33 = .ok (.iload 7, 2) := by decide +kernel
theorem dX2_search_35 : decode cX2_search 35 = .ok (.invokevirtual 62, 3) := by decide +kernel
theorem dX2_search_38 : decode cX2_search 38 = .ok (.return_, 1) := by decide +kernel
theorem dX2_search_39 : decode cX2_search 39 = .ok (.iload_n 2, 1) := by decide +kernel
theorem dX2_search_40 : decode cX2_search 40 = .ok (.bipush 24, 2) := by decide +kernel
theorem dX2_search_42 : decode cX2_search 42 = .ok (.if_icmp .lt 4, 3) := by decide +kernel
theorem dX2_search_45 : decode cX2_search 45 = .ok (.return_, 1) := by decide +kernel
theorem dX2_search_46 : decode cX2_search 46 = .ok (.iload_n 2, 1) := by decide +kernel
theorem dX2_search_47 : decode cX2_search 47 = .ok (.iconst 1, 1) := by decide +kernel
theorem dX2_search_48 : decode cX2_search 48 = .ok (.iadd, 1) := by decide +kernel
theorem dX2_search_49 : decode cX2_search 49 = .ok (.istore 8, 2) := by decide +kernel
theorem dX2_search_51 : decode cX2_search 51 = .ok (.iload_n 2, 1) := by decide +kernel
theorem dX2_search_52 : decode cX2_search 52 = .ok (.ifCond .eq 13, 3) := by decide +kernel
theorem dX2_search_55 : decode cX2_search 55 = .ok (.iload_n 3, 1) := by decide +kernel
theorem dX2_search_56 : decode cX2_search 56 = .ok (.iload_n 2, 1) := by decide +kernel
theorem dX2_search_57 : decode cX2_search 57 = .ok (.iconst 1, 1) := by decide +kernel
theorem dX2_search_58 : decode cX2_search 58 = .ok (.isub, 1) := by decide +kernel
theorem dX2_search_59 : decode cX2_search 59 = .ok (.invokestatic 25, 3) := by decide +kernel
theorem dX2_search_62 : decode cX2_search 62 = .ok (.ifCond .ne 27, 3) := by decide +kernel
theorem dX2_search_65 : decode cX2_search 65 = .ok (.aload_n 0, 1) := by decide +kernel
theorem dX2_search_66 : decode cX2_search 66 = .ok (.aload_n 1, 1) := by decide +kernel
theorem dX2_search_67 : decode cX2_search 67 = .ok (.iload 8, 2) := by decide +kernel
theorem dX2_search_69 : decode cX2_search 69 = .ok (.iload_n 3, 1) := by decide +kernel
theorem dX2_search_70 : decode cX2_search 70 = .ok (.iconst 1, 1) := by decide +kernel
theorem dX2_search_71 : decode cX2_search 71 = .ok (.iload_n 2, 1) := by decide +kernel
theorem dX2_search_72 : decode cX2_search 72 = .ok (.ishl, 1) := by decide +kernel
theorem dX2_search_73 : decode cX2_search 73 = .ok (.ior, 1) := by decide +kernel
theorem dX2_search_74 : decode cX2_search 74 = .ok (.iload 4, 2) := by decide +kernel
theorem dX2_search_76 : decode cX2_search 76 = .ok (.iload 5, 2) := by decide +kernel
theorem dX2_search_78 : decode cX2_search 78 = .ok (.iload 6, 2) := by decide +kernel
theorem dX2_search_80 : decode cX2_search 80 = .ok (.iload 7, 2) := by decide +kernel
theorem dX2_search_82 : decode cX2_search 82 = .ok (.iconst 2, 1) := by decide +kernel
theorem dX2_search_83 : decode cX2_search 83 = .ok (.invokestatic 66, 3) := by decide +kernel
theorem dX2_search_86 : decode cX2_search 86 = .ok (.invokevirtual 48, 3) := by decide +kernel
theorem dX2_search_89 : decode cX2_search 89 = .ok (.aload_n 1, 1) := by decide +kernel
theorem dX2_search_90 : decode cX2_search 90 = .ok (.iload_n 3, 1) := by decide +kernel
theorem dX2_search_91 : decode cX2_search 91 = .ok (.iload_n 2, 1) := by decide +kernel
theorem dX2_search_92 : decode cX2_search 92 = .ok (.invokestatic 69, 3) := by decide +kernel
theorem dX2_search_95 : decode cX2_search 95 = .ok (.istore 9, 2) := by decide +kernel
theorem dX2_search_97 : decode cX2_search 97 = .ok (.iconst 0, 1) := by decide +kernel
theorem dX2_search_98 : decode cX2_search 98 = .ok (.istore 10, 2) := by decide +kernel
theorem dX2_search_100 : decode cX2_search 100 = .ok (.iload 10, 2) := by decide +kernel
theorem dX2_search_102 : decode cX2_search 102 = .ok (.aload_n 1, 1) := by decide +kernel
theorem dX2_search_103 : decode cX2_search 103 = .ok (.getfield 20, 3) := by decide +kernel
theorem dX2_search_106 : decode cX2_search 106 = .ok (.if_icmp .ge 179, 3) := by decide +kernel
theorem dX2_search_109 : decode cX2_search 109 = .ok (.iload 4, 2) := by decide +kernel
theorem dX2_search_111 : decode cX2_search 111 = .ok (.iload 10, 2) := by decide +kernel
theorem dX2_search_113 : decode cX2_search 113 = .ok (.invokestatic 25, 3) := by decide +kernel
theorem dX2_search_116 : decode cX2_search 116 = .ok (.ifCond .ne 6, 3) := by decide +kernel
theorem dX2_search_119 : decode cX2_search 119 = .ok (.goto 160, 3) := by decide +kernel
theorem dX2_search_122 : decode cX2_search 122 = .ok (.iload 4, 2) := by decide +kernel
theorem dX2_search_124 : decode cX2_search 124 = .ok (.iconst 1, 1) := by decide +kernel
theorem dX2_search_125 : decode cX2_search 125 = .ok (.iload 10, 2) := by decide +kernel
theorem dX2_search_127 : decode cX2_search 127 = .ok (.ishl, 1) := by decide +kernel
theorem dX2_search_128 : decode cX2_search 128 = .ok (.iconst (-1), 1) := by decide +kernel
theorem dX2_search_129 : decode cX2_search 129 = .ok (.ixor, 1) := by decide +kernel
theorem dX2_search_130 : decode cX2_search 130 = .ok (.iand, 1) := by decide +kernel
theorem dX2_search_131 : decode cX2_search 131 = .ok (.istore 11, 2) := by decide +kernel
theorem dX2_search_133 : decode cX2_search 133 = .ok (.aload_n 0, 1) := by decide +kernel
theorem dX2_search_134 : decode cX2_search 134 = .ok (.getfield 9, 3) := by decide +kernel
theorem dX2_search_137 : decode cX2_search 137 = .ok (.aload_n 1, 1) := by decide +kernel
theorem dX2_search_138 : decode cX2_search 138 = .ok (.getfield 72, 3) := by decide +kernel
theorem dX2_search_141 : decode cX2_search 141 = .ok (.iload 10, 2) := by decide +kernel
theorem dX2_search_143 : decode cX2_search 143 = .ok (.iaload, 1) := by decide +kernel
theorem dX2_search_144 : decode cX2_search 144 = .ok (.iaload, 1) := by decide +kernel
theorem dX2_search_145 : decode cX2_search 145 = .ok (.istore 12, 2) := by decide +kernel
theorem dX2_search_147 : decode cX2_search 147 = .ok (.iload 9, 2) := by decide +kernel
theorem dX2_search_149 : decode cX2_search 149 = .ok (.ifCond .ne 30, 3) := by decide +kernel
theorem dX2_search_152 : decode cX2_search 152 = .ok (.aload_n 0, 1) := by decide +kernel
theorem dX2_search_153 : decode cX2_search 153 = .ok (.aload_n 1, 1) := by decide +kernel
theorem dX2_search_154 : decode cX2_search 154 = .ok (.iload 8, 2) := by decide +kernel
theorem dX2_search_156 : decode cX2_search 156 = .ok (.iload_n 3, 1) := by decide +kernel
theorem dX2_search_157 : decode cX2_search 157 = .ok (.iload 11, 2) := by decide +kernel
theorem dX2_search_159 : decode cX2_search 159 = .ok (.iload 5, 2) := by decide +kernel
theorem dX2_search_161 : decode cX2_search 161 = .ok (.iload 6, 2) := by decide +kernel
theorem dX2_search_163 : decode cX2_search 163 = .ok (.iload 7, 2) := by decide +kernel
theorem dX2_search_165 : decode cX2_search 165 = .ok (.bipush 10, 2) := by decide +kernel
theorem dX2_search_167 : decode cX2_search 167 = .ok (.iload 10, 2) := by decide +kernel
theorem dX2_search_169 : decode cX2_search 169 = .ok (.iadd, 1) := by decide +kernel
theorem dX2_search_170 : decode cX2_search 170 = .ok (.invokestatic 66, 3) := by decide +kernel
theorem dX2_search_173 : decode cX2_search 173 = .ok (.invokevirtual 48, 3) := by decide +kernel
theorem dX2_search_176 : decode cX2_search 176 = .ok (.goto 103, 3) := by decide +kernel
theorem dX2_search_179 : decode cX2_search 179 = .ok (.iload 12, 2) := by decide +kernel
theorem dX2_search_181 : decode cX2_search 181 = .ok (.iconst (-1), 1) := by decide +kernel
theorem dX2_search_182 : decode cX2_search 182 = .ok (.if_icmp .eq 54, 3) := by decide +kernel
theorem dX2_search_185 : decode cX2_search 185 = .ok (.iload 5, 2) := by decide +kernel
theorem dX2_search_187 : decode cX2_search 187 = .ok (.iload 12, 2) := by decide +kernel
theorem dX2_search_189 : decode cX2_search 189 = .ok (.invokestatic 25, 3) := by decide +kernel
theorem dX2_search_192 : decode cX2_search 192 = .ok (.ifCond .ne 17, 3) := by decide +kernel
theorem dX2_search_195 : decode cX2_search 195 = .ok (.iload 9, 2) := by decide +kernel
theorem dX2_search_197 : decode cX2_search 197 = .ok (.iconst 1, 1) := by decide +kernel
theorem dX2_search_198 : decode cX2_search 198 = .ok (.if_icmp .ne 38, 3) := by decide +kernel
theorem dX2_search_201 : decode cX2_search 201 = .ok (.iload_n 2, 1) := by decide +kernel
theorem dX2_search_202 : decode cX2_search 202 = .ok (.aload_n 1, 1) := by decide +kernel
theorem dX2_search_203 : decode cX2_search 203 = .ok (.getfield 75, 3) := by decide +kernel
theorem dX2_search_206 : decode cX2_search 206 = .ok (.if_icmp .ge 30, 3) := by decide +kernel
theorem dX2_search_209 : decode cX2_search 209 = .ok (.aload_n 0, 1) := by decide +kernel
theorem dX2_search_210 : decode cX2_search 210 = .ok (.aload_n 1, 1) := by decide +kernel
theorem dX2_search_211 : decode cX2_search 211 = .ok (.iload 8, 2) := by decide +kernel
theorem dX2_search_213 : decode cX2_search 213 = .ok (.iload_n 3, 1) := by decide +kernel
theorem dX2_search_214 : decode cX2_search 214 = .ok (.iload 11, 2) := by decide +kernel
theorem dX2_search_216 : decode cX2_search 216 = .ok (.iload 5, 2) := by decide +kernel
theorem dX2_search_218 : decode cX2_search 218 = .ok (.iload 6, 2) := by decide +kernel
theorem dX2_search_220 : decode cX2_search 220 = .ok (.iload 7, 2) := by decide +kernel
theorem dX2_search_222 : decode cX2_search 222 = .ok (.bipush 20, 2) := by decide +kernel
theorem dX2_search_224 : decode cX2_search 224 = .ok (.iload 10, 2) := by decide +kernel
theorem dX2_search_226 : decode cX2_search 226 = .ok (.iadd, 1) := by decide +kernel
theorem dX2_search_227 : decode cX2_search 227 = .ok (.invokestatic 66, 3) := by decide +kernel
theorem dX2_search_230 : decode cX2_search 230 = .ok (.invokevirtual 48, 3) := by decide +kernel
theorem dX2_search_233 : decode cX2_search 233 = .ok (.goto 46, 3) := by decide +kernel
theorem dX2_search_236 : decode cX2_search 236 = .ok (.iload 12, 2) := by decide +kernel
theorem dX2_search_238 : decode cX2_search 238 = .ok (.iconst (-1), 1) := by decide +kernel
theorem dX2_search_239 : decode cX2_search 239 = .ok (.if_icmp .eq 40, 3) := by decide +kernel
theorem dX2_search_242 : decode cX2_search 242 = .ok (.aload_n 0, 1) := by decide +kernel
theorem dX2_search_243 : decode cX2_search 243 = .ok (.aload_n 1, 1) := by decide +kernel
theorem dX2_search_244 : decode cX2_search 244 = .ok (.iload 8, 2) := by decide +kernel
theorem dX2_search_246 : decode cX2_search 246 = .ok (.iload_n 3, 1) := by decide +kernel
theorem dX2_search_247 : decode cX2_search 247 = .ok (.iload 11, 2) := by decide +kernel
theorem dX2_search_249 : decode cX2_search 249 = .ok (.iload 5, 2) := by decide +kernel
theorem dX2_search_251 : decode cX2_search 251 = .ok (.iconst 1, 1) := by decide +kernel
theorem dX2_search_252 : decode cX2_search 252 = .ok (.iload 12, 2) := by decide +kernel
theorem dX2_search_254 : decode cX2_search 254 = .ok (.ishl, 1) := by decide +kernel
theorem dX2_search_255 : decode cX2_search 255 = .ok (.ior, 1) := by decide +kernel
theorem dX2_search_256 : decode cX2_search 256 = .ok (.iload 6, 2) := by decide +kernel
theorem dX2_search_258 : decode cX2_search 258 = .ok (.aload_n 1, 1) := by decide +kernel
theorem dX2_search_259 : decode cX2_search 259 = .ok (.getfield 78, 3) := by decide +kernel
theorem dX2_search_262 : decode cX2_search 262 = .ok (.iload 12, 2) := by decide +kernel
theorem dX2_search_264 : decode cX2_search 264 = .ok (.iaload, 1) := by decide +kernel
theorem dX2_search_265 : decode cX2_search 265 = .ok (.iadd, 1) := by decide +kernel
theorem dX2_search_266 : decode cX2_search 266 = .ok (.iload 7, 2) := by decide +kernel
theorem dX2_search_268 : decode cX2_search 268 = .ok (.bipush 20, 2) := by decide +kernel
theorem dX2_search_270 : decode cX2_search 270 = .ok (.iload 10, 2) := by decide +kernel
theorem dX2_search_272 : decode cX2_search 272 = .ok (.iadd, 1) := by decide +kernel
theorem dX2_search_273 : decode cX2_search 273 = .ok (.invokestatic 66, 3) := by decide +kernel
theorem dX2_search_276 : decode cX2_search 276 = .ok (.invokevirtual 48, 3) := by decide +kernel
theorem dX2_search_279 : decode cX2_search 279 = .ok (.iinc 10 1, 3) := by decide +kernel
theorem dX2_search_282 : decode cX2_search 282 = .ok (.goto (-182), 3) := by decide +kernel
theorem dX2_search_285 : decode cX2_search 285 = .ok (.return_, 1) := by decide +kernel
theorem dX2_firstOf_0 : decode cX2_firstOf 0 = .ok (.iload_n 0, 1) := by decide +kernel
theorem dX2_firstOf_1 : decode cX2_firstOf 1 = .ok (.iconst (-1), 1) := by decide +kernel
theorem dX2_firstOf_2 : decode cX2_firstOf 2 = .ok (.if_icmp .ne 7, 3) := by decide +kernel
theorem dX2_firstOf_5 : decode cX2_firstOf 5 = .ok (.iload_n 1, 1) := by decide +kernel
theorem dX2_firstOf_6 : decode cX2_firstOf 6 = .ok (.goto 4, 3) := by decide +kernel
theorem dX2_firstOf_9 : decode cX2_firstOf 9 = .ok (.iload_n 0, 1) := by decide +kernel
theorem dX2_firstOf_10 : decode cX2_firstOf 10 = .ok (.ireturn, 1) := by decide +kernel
theorem dX2_rankOf_0 : decode cX2_rankOf 0 = .ok (.iload_n 0, 1) := by decide +kernel
theorem dX2_rankOf_1 : decode cX2_rankOf 1 = .ok (.bipush 64, 2) := by decide +kernel
theorem dX2_rankOf_3 : decode cX2_rankOf 3 = .ok (.imul, 1) := by decide +kernel
theorem dX2_rankOf_4 : decode cX2_rankOf 4 = .ok (.iload_n 1, 1) := by decide +kernel
theorem dX2_rankOf_5 : decode cX2_rankOf 5 = .ok (.iadd, 1) := by decide +kernel
theorem dX2_rankOf_6 : decode cX2_rankOf 6 = .ok (.ireturn, 1) := by decide +kernel
theorem dX2_take_0 : decode cX2_take 0 = .ok (.aload_n 0, 1) := by decide +kernel
theorem dX2_take_1 : decode cX2_take 1 = .ok (.iload_n 1, 1) := by decide +kernel
theorem dX2_take_2 : decode cX2_take 2 = .ok (.iload_n 2, 1) := by decide +kernel
theorem dX2_take_3 : decode cX2_take 3 = .ok (.invokestatic 58, 3) := by decide +kernel
theorem dX2_take_6 : decode cX2_take 6 = .ok (.putfield 16, 3) := by decide +kernel
theorem dX2_take_9 : decode cX2_take 9 = .ok (.aload_n 0, 1) := by decide +kernel
theorem dX2_take_10 : decode cX2_take 10 = .ok (.iload_n 1, 1) := by decide +kernel
theorem dX2_take_11 : decode cX2_take 11 = .ok (.putfield 81, 3) := by decide +kernel
theorem dX2_take_14 : decode cX2_take 14 = .ok (.aload_n 0, 1) := by decide +kernel
theorem dX2_take_15 : decode cX2_take 15 = .ok (.iload_n 2, 1) := by decide +kernel
theorem dX2_take_16 : decode cX2_take 16 = .ok (.putfield 84, 3) := by decide +kernel
theorem dX2_take_19 : decode cX2_take 19 = .ok (.aload_n 0, 1) := by decide +kernel
theorem dX2_take_20 : decode cX2_take 20 = .ok (.iload_n 3, 1) := by decide +kernel
theorem dX2_take_21 : decode cX2_take 21 = .ok (.putfield 87, 3) := by decide +kernel
theorem dX2_take_24 : decode cX2_take 24 = .ok (.return_, 1) := by decide +kernel
theorem dX3_init_0 : decode cX3_init 0 = .ok (.aload_n 0, 1) := by decide +kernel
theorem dX3_init_1 : decode cX3_init 1 = .ok (.invokespecial 3, 3) := by decide +kernel
theorem dX3_init_4 : decode cX3_init 4 = .ok (.aload_n 0, 1) := by decide +kernel
theorem dX3_init_5 : decode cX3_init 5 = .ok (.sipush 160, 3) := by decide +kernel
theorem dX3_init_8 : decode cX3_init 8 = .ok (.newarray .int, 2) := by decide +kernel
theorem dX3_init_10 : decode cX3_init 10 = .ok (.putfield 9, 3) := by decide +kernel
theorem dX3_init_13 : decode cX3_init 13 = .ok (.aload_n 0, 1) := by decide +kernel
theorem dX3_init_14 : decode cX3_init 14 = .ok (.iconst 3, 1) := by decide +kernel
theorem dX3_init_15 : decode cX3_init 15 = .ok (.newarray .int, 2) := by decide +kernel
theorem dX3_init_17 : decode cX3_init 17 = .ok (.putfield 15, 3) := by decide +kernel
theorem dX3_init_20 : decode cX3_init 20 = .ok (.return_, 1) := by decide +kernel
theorem dX3_readOnto_0 : decode cX3_readOnto 0 = .ok (.aload_n 0, 1) := by decide +kernel
theorem dX3_readOnto_1 : decode cX3_readOnto 1 = .ok (.iconst 0, 1) := by decide +kernel
theorem dX3_readOnto_2 : decode cX3_readOnto 2 = .ok (.putfield 18, 3) := by decide +kernel
theorem dX3_readOnto_5 : decode cX3_readOnto 5 = .ok (.aload_n 0, 1) := by decide +kernel
theorem dX3_readOnto_6 : decode cX3_readOnto 6 = .ok (.iconst 0, 1) := by decide +kernel
theorem dX3_readOnto_7 : decode cX3_readOnto 7 = .ok (.putfield 22, 3) := by decide +kernel
theorem dX3_readOnto_10 : decode cX3_readOnto 10 = .ok (.iconst 0, 1) := by decide +kernel
theorem dX3_readOnto_11 : decode cX3_readOnto 11 = .ok (.istore_n 2, 1) := by decide +kernel
theorem dX3_readOnto_12 : decode cX3_readOnto 12 = .ok (.iload_n 2, 1) := by decide +kernel
theorem dX3_readOnto_13 : decode cX3_readOnto 13 = .ok (.bipush 14, 2) := by decide +kernel
theorem dX3_readOnto_15 : decode cX3_readOnto 15 = .ok (.if_icmp .ge 71, 3) := by decide +kernel
theorem dX3_readOnto_18 : decode cX3_readOnto 18 = .ok (.aload_n 0, 1) := by decide +kernel
theorem dX3_readOnto_19 : decode cX3_readOnto 19 = .ok (.invokevirtual 25, 3) := by decide +kernel
theorem dX3_readOnto_22 : decode cX3_readOnto 22 = .ok (.aload_n 0, 1) := by decide +kernel
theorem dX3_readOnto_23 : decode cX3_readOnto 23 = .ok (.aload_n 1, 1) := by decide +kernel
theorem dX3_readOnto_24 : decode cX3_readOnto 24 = .ok (.invokevirtual 28, 3) := by decide +kernel
theorem dX3_readOnto_27 : decode cX3_readOnto 27 = .ok (.ifCond .ne 8, 3) := by decide +kernel
theorem dX3_readOnto_30 : decode cX3_readOnto 30 = .ok (.aload_n 0, 1) := by decide +kernel
theorem dX3_readOnto_31 : decode cX3_readOnto 31 = .ok (.getfield 32, 3) := by decide +kernel
theorem dX3_readOnto_34 : decode cX3_readOnto 34 = .ok (.ireturn, 1) := by decide +kernel
theorem dX3_readOnto_35 : decode cX3_readOnto 35 = .ok (.aload_n 0, 1) := by decide +kernel
theorem dX3_readOnto_36 : decode cX3_readOnto 36 = .ok (.dup, 1) := by decide +kernel
theorem dX3_readOnto_37 : decode cX3_readOnto 37 = .ok (.getfield 18, 3) := by decide +kernel
theorem dX3_readOnto_40 : decode cX3_readOnto 40 = .ok (.iconst 1, 1) := by decide +kernel
theorem dX3_readOnto_41 : decode cX3_readOnto 41 = .ok (.iadd, 1) := by decide +kernel
theorem dX3_readOnto_42 : decode cX3_readOnto 42 = .ok (.putfield 18, 3) := by decide +kernel
theorem dX3_readOnto_45 : decode cX3_readOnto 45 = .ok (.aload_n 0, 1) := by decide +kernel
theorem dX3_readOnto_46 : decode cX3_readOnto 46 = .ok (.invokevirtual 25, 3) := by decide +kernel
theorem dX3_readOnto_49 : decode cX3_readOnto 49 = .ok (.aload_n 0, 1) := by decide +kernel
theorem dX3_readOnto_50 : decode cX3_readOnto 50 = .ok (.getfield 32, 3) := by decide +kernel
theorem dX3_readOnto_53 : decode cX3_readOnto 53 = .ok (.aload_n 0, 1) := by decide +kernel
theorem dX3_readOnto_54 : decode cX3_readOnto 54 = .ok (.getfield 35, 3) := by decide +kernel
theorem dX3_readOnto_57 : decode cX3_readOnto 57 = .ok (.if_icmp .lt 5, 3) := by decide +kernel
theorem dX3_readOnto_60 : decode cX3_readOnto 60 = .ok (.iconst (-1), 1) := by decide +kernel
theorem dX3_readOnto_61 : decode cX3_readOnto 61 = .ok (.ireturn, 1) := by decide +kernel
theorem dX3_readOnto_62 : decode cX3_readOnto 62 = .ok (.aload_n 0, 1) := by decide +kernel
theorem dX3_readOnto_63 : decode cX3_readOnto 63 = .ok (.aload_n 0, 1) := by decide +kernel
theorem dX3_readOnto_64 : decode cX3_readOnto 64 = .ok (.getfield 32, 3) := by decide +kernel
theorem dX3_readOnto_67 : decode cX3_readOnto 67 = .ok (.invokevirtual 38, 3) := by decide +kernel
theorem dX3_readOnto_70 : decode cX3_readOnto 70 = .ok (.bipush 59, 2) := by decide +kernel
theorem dX3_readOnto_72 : decode cX3_readOnto 72 = .ok (.if_icmp .eq 8, 3) := by decide +kernel
theorem dX3_readOnto_75 : decode cX3_readOnto 75 = .ok (.aload_n 0, 1) := by decide +kernel
theorem dX3_readOnto_76 : decode cX3_readOnto 76 = .ok (.getfield 32, 3) := by decide +kernel
theorem dX3_readOnto_79 : decode cX3_readOnto 79 = .ok (.ireturn, 1) := by decide +kernel
theorem dX3_readOnto_80 : decode cX3_readOnto 80 = .ok (.iinc 2 1, 3) := by decide +kernel
theorem dX3_readOnto_83 : decode cX3_readOnto 83 = .ok (.goto (-71), 3) := by decide +kernel
theorem dX3_readOnto_86 : decode cX3_readOnto 86 = .ok (.aload_n 0, 1) := by decide +kernel
theorem dX3_readOnto_87 : decode cX3_readOnto 87 = .ok (.getfield 32, 3) := by decide +kernel
theorem dX3_readOnto_90 : decode cX3_readOnto 90 = .ok (.ireturn, 1) := by decide +kernel
theorem dX3_readClause_0 : decode cX3_readClause 0 = .ok (.aload_n 0, 1) := by decide +kernel
theorem dX3_readClause_1 : decode cX3_readClause 1 = .ok (.invokevirtual 42, 3) := by decide +kernel
theorem dX3_readClause_4 : decode cX3_readClause 4 = .ok (.istore_n 2, 1) := by decide +kernel
theorem dX3_readClause_5 : decode cX3_readClause 5 = .ok (.iload_n 2, 1) := by decide +kernel
theorem dX3_readClause_6 : decode cX3_readClause 6 = .ok (.iconst (-1), 1) := by decide +kernel
theorem dX3_readClause_7 : decode cX3_readClause 7 = .ok (.if_icmp .eq 17, 3) := by decide +kernel
theorem dX3_readClause_10 : decode cX3_readClause 10 = .ok (.iload_n 2, 1) := by decide +kernel
theorem dX3_readClause_11 : decode cX3_readClause 11 = .ok (.iconst 4, 1) := by decide +kernel
theorem dX3_readClause_12 : decode cX3_readClause 12 = .ok (.if_icmp .gt 14, 3) := by decide +kernel
theorem dX3_readClause_15 : decode cX3_readClause 15 = .ok (.aload_n 1, 1) := by decide +kernel
theorem dX3_readClause_16 : decode cX3_readClause 16 = .ok (.getfield 46, 3) := by decide +kernel
theorem dX3_readClause_19 : decode cX3_readClause 19 = .ok (.bipush 8, 2) := by decide +kernel
theorem dX3_readClause_21 : decode cX3_readClause 21 = .ok (.if_icmp .lt 5, 3) := by decide +kernel
theorem dX3_readClause_24 : decode cX3_readClause 24 = .ok (.iconst 0, 1) := by decide +kernel
theorem dX3_readClause_25 : decode cX3_readClause 25 = .ok (.ireturn, 1) := by decide +kernel
theorem dX3_readClause_26 : decode cX3_readClause 26 = .ok (.iconst 0, 1) := by decide +kernel
theorem dX3_readClause_27 : decode cX3_readClause 27 = .ok (.istore_n 3, 1) := by decide +kernel
theorem dX3_readClause_28 : decode cX3_readClause 28 = .ok (.iload_n 3, 1) := by decide +kernel
theorem dX3_readClause_29 : decode cX3_readClause 29 = .ok (.getstatic 51, 3) := by decide +kernel
theorem dX3_readClause_32 : decode cX3_readClause 32 = .ok (.iload_n 2, 1) := by decide +kernel
theorem dX3_readClause_33 : decode cX3_readClause 33 = .ok (.iaload, 1) := by decide +kernel
theorem dX3_readClause_34 : decode cX3_readClause 34 = .ok (.if_icmp .ge 58, 3) := by decide +kernel
theorem dX3_readClause_37 : decode cX3_readClause 37 = .ok (.iload_n 3, 1) := by decide +kernel
theorem dX3_readClause_38 : decode cX3_readClause 38 = .ok (.aload_n 0, 1) := by decide +kernel
theorem dX3_readClause_39 : decode cX3_readClause 39 = .ok (.getfield 15, 3) := by decide +kernel
theorem dX3_readClause_42 : decode cX3_readClause 42 = .ok (.arraylength, 1) := by decide +kernel
theorem dX3_readClause_43 : decode cX3_readClause 43 = .ok (.if_icmp .ge 49, 3) := by decide +kernel
theorem dX3_readClause_46 : decode cX3_readClause 46 = .ok (.aload_n 0, 1) := by decide +kernel
theorem dX3_readClause_47 : decode cX3_readClause 47 = .ok (.invokevirtual 25, 3) := by decide +kernel
theorem dX3_readClause_50 : decode cX3_readClause 50 = .ok (.aload_n 0, 1) := by decide +kernel
theorem dX3_readClause_51 : decode cX3_readClause 51 = .ok (.invokevirtual 54, 3) := by decide +kernel
theorem dX3_readClause_54 : decode cX3_readClause 54 = .ok (.istore 4, 2) := by decide +kernel
theorem dX3_readClause_56 : decode cX3_readClause 56 = .ok (.iload 4, 2) := by decide +kernel
theorem dX3_readClause_58 : decode cX3_readClause 58 = .ok (.iload_n 2, 1) := by decide +kernel
theorem dX3_readClause_59 : decode cX3_readClause 59 = .ok (.iload_n 3, 1) := by decide +kernel
theorem dX3_readClause_60 : decode cX3_readClause 60 = .ok (.invokestatic 57, 3) := by decide +kernel
theorem dX3_readClause_63 : decode cX3_readClause 63 = .ok (.if_icmp .lt 13, 3) := by decide +kernel
theorem dX3_readClause_66 : decode cX3_readClause 66 = .ok (.iload 4, 2) := by decide +kernel
theorem dX3_readClause_68 : decode cX3_readClause 68 = .ok (.iload_n 2, 1) := by decide +kernel
theorem dX3_readClause_69 : decode cX3_readClause 69 = .ok (.iload_n 3, 1) := by decide +kernel
theorem dX3_readClause_70 : decode cX3_readClause 70 = .ok (.invokestatic 61, 3) := by decide +kernel
theorem dX3_readClause_73 : decode cX3_readClause 73 = .ok (.if_icmp .le 5, 3) := by decide +kernel
theorem dX3_readClause_76 : decode cX3_readClause 76 = .ok (.iconst 0, 1) := by decide +kernel
theorem dX3_readClause_77 : decode cX3_readClause 77 = .ok (.ireturn, 1) := by decide +kernel
theorem dX3_readClause_78 : decode cX3_readClause 78 = .ok (.aload_n 0, 1) := by decide +kernel
theorem dX3_readClause_79 : decode cX3_readClause 79 = .ok (.getfield 15, 3) := by decide +kernel
theorem dX3_readClause_82 : decode cX3_readClause 82 = .ok (.iload_n 3, 1) := by decide +kernel
theorem dX3_readClause_83 : decode cX3_readClause 83 = .ok (.iload 4, 2) := by decide +kernel
theorem dX3_readClause_85 : decode cX3_readClause 85 = .ok (.iastore, 1) := by decide +kernel
theorem dX3_readClause_86 : decode cX3_readClause 86 = .ok (.iinc 3 1, 3) := by decide +kernel
theorem dX3_readClause_89 : decode cX3_readClause 89 = .ok (.goto (-61), 3) := by decide +kernel
theorem dX3_readClause_92 : decode cX3_readClause 92 = .ok (.aload_n 0, 1) := by decide +kernel
theorem dX3_readClause_93 : decode cX3_readClause 93 = .ok (.aload_n 1, 1) := by decide +kernel
theorem dX3_readClause_94 : decode cX3_readClause 94 = .ok (.iload_n 2, 1) := by decide +kernel
theorem dX3_readClause_95 : decode cX3_readClause 95 = .ok (.invokevirtual 64, 3) := by decide +kernel
theorem dX3_readClause_98 : decode cX3_readClause 98 = .ok (.iconst 1, 1) := by decide +kernel
theorem dX3_readClause_99 : decode cX3_readClause 99 = .ok (.ireturn, 1) := by decide +kernel
theorem dX3_doClause_0 : decode cX3_doClause 0 = .ok (.iload_n 2, 1) := by decide +kernel
theorem dX3_doClause_1 : decode cX3_doClause 1 = .ok (.tableswitch 112 5 10 #[39, 58, 71, 84, 97, 104], 39) := by decide +kernel
theorem dX3_doClause_40 : decode cX3_doClause 40 = .ok (.aload_n 1, 1) := by decide +kernel
theorem dX3_doClause_41 : decode cX3_doClause 41 = .ok (.aload_n 0, 1) := by decide +kernel
theorem dX3_doClause_42 : decode cX3_doClause 42 = .ok (.getfield 15, 3) := by decide +kernel
theorem dX3_doClause_45 : decode cX3_doClause 45 = .ok (.iconst 0, 1) := by decide +kernel
theorem dX3_doClause_46 : decode cX3_doClause 46 = .ok (.iaload, 1) := by decide +kernel
theorem dX3_doClause_47 : decode cX3_doClause 47 = .ok (.aload_n 0, 1) := by decide +kernel
theorem dX3_doClause_48 : decode cX3_doClause 48 = .ok (.getfield 15, 3) := by decide +kernel
theorem dX3_doClause_51 : decode cX3_doClause 51 = .ok (.iconst 1, 1) := by decide +kernel
theorem dX3_doClause_52 : decode cX3_doClause 52 = .ok (.iaload, 1) := by decide +kernel
theorem dX3_doClause_53 : decode cX3_doClause 53 = .ok (.invokestatic 68, 3) := by decide +kernel
theorem dX3_doClause_56 : decode cX3_doClause 56 = .ok (.goto 80, 3) := by decide +kernel
theorem dX3_doClause_59 : decode cX3_doClause 59 = .ok (.aload_n 1, 1) := by decide +kernel
theorem dX3_doClause_60 : decode cX3_doClause 60 = .ok (.aload_n 0, 1) := by decide +kernel
theorem dX3_doClause_61 : decode cX3_doClause 61 = .ok (.getfield 15, 3) := by decide +kernel
theorem dX3_doClause_64 : decode cX3_doClause 64 = .ok (.iconst 0, 1) := by decide +kernel
theorem dX3_doClause_65 : decode cX3_doClause 65 = .ok (.iaload, 1) := by decide +kernel
theorem dX3_doClause_66 : decode cX3_doClause 66 = .ok (.putfield 72, 3) := by decide +kernel
theorem dX3_doClause_69 : decode cX3_doClause 69 = .ok (.goto 67, 3) := by decide +kernel
theorem dX3_doClause_72 : decode cX3_doClause 72 = .ok (.aload_n 1, 1) := by decide +kernel
theorem dX3_doClause_73 : decode cX3_doClause 73 = .ok (.aload_n 0, 1) := by decide +kernel
theorem dX3_doClause_74 : decode cX3_doClause 74 = .ok (.getfield 15, 3) := by decide +kernel
theorem dX3_doClause_77 : decode cX3_doClause 77 = .ok (.iconst 0, 1) := by decide +kernel
theorem dX3_doClause_78 : decode cX3_doClause 78 = .ok (.iaload, 1) := by decide +kernel
theorem dX3_doClause_79 : decode cX3_doClause 79 = .ok (.putfield 75, 3) := by decide +kernel
theorem dX3_doClause_82 : decode cX3_doClause 82 = .ok (.goto 54, 3) := by decide +kernel
theorem dX3_doClause_85 : decode cX3_doClause 85 = .ok (.aload_n 1, 1) := by decide +kernel
theorem dX3_doClause_86 : decode cX3_doClause 86 = .ok (.aload_n 0, 1) := by decide +kernel
theorem dX3_doClause_87 : decode cX3_doClause 87 = .ok (.getfield 15, 3) := by decide +kernel
theorem dX3_doClause_90 : decode cX3_doClause 90 = .ok (.iconst 0, 1) := by decide +kernel
theorem dX3_doClause_91 : decode cX3_doClause 91 = .ok (.iaload, 1) := by decide +kernel
theorem dX3_doClause_92 : decode cX3_doClause 92 = .ok (.putfield 78, 3) := by decide +kernel
theorem dX3_doClause_95 : decode cX3_doClause 95 = .ok (.goto 41, 3) := by decide +kernel
theorem dX3_doClause_98 : decode cX3_doClause 98 = .ok (.aload_n 1, 1) := by decide +kernel
theorem dX3_doClause_99 : decode cX3_doClause 99 = .ok (.invokevirtual 81, 3) := by decide +kernel
theorem dX3_doClause_102 : decode cX3_doClause 102 = .ok (.goto 34, 3) := by decide +kernel
theorem dX3_doClause_105 : decode cX3_doClause 105 = .ok (.aload_n 1, 1) := by decide +kernel
theorem dX3_doClause_106 : decode cX3_doClause 106 = .ok (.iconst 0, 1) := by decide +kernel
theorem dX3_doClause_107 : decode cX3_doClause 107 = .ok (.putfield 46, 3) := by decide +kernel
theorem dX3_doClause_110 : decode cX3_doClause 110 = .ok (.goto 26, 3) := by decide +kernel
theorem dX3_doClause_113 : decode cX3_doClause 113 = .ok (.aload_n 1, 1) := by decide +kernel
theorem dX3_doClause_114 : decode cX3_doClause 114 = .ok (.iload_n 2, 1) := by decide +kernel
theorem dX3_doClause_115 : decode cX3_doClause 115 = .ok (.aload_n 0, 1) := by decide +kernel
theorem dX3_doClause_116 : decode cX3_doClause 116 = .ok (.getfield 15, 3) := by decide +kernel
theorem dX3_doClause_119 : decode cX3_doClause 119 = .ok (.iconst 0, 1) := by decide +kernel
theorem dX3_doClause_120 : decode cX3_doClause 120 = .ok (.iaload, 1) := by decide +kernel
theorem dX3_doClause_121 : decode cX3_doClause 121 = .ok (.aload_n 0, 1) := by decide +kernel
theorem dX3_doClause_122 : decode cX3_doClause 122 = .ok (.getfield 15, 3) := by decide +kernel
theorem dX3_doClause_125 : decode cX3_doClause 125 = .ok (.iconst 1, 1) := by decide +kernel
theorem dX3_doClause_126 : decode cX3_doClause 126 = .ok (.iaload, 1) := by decide +kernel
theorem dX3_doClause_127 : decode cX3_doClause 127 = .ok (.aload_n 0, 1) := by decide +kernel
theorem dX3_doClause_128 : decode cX3_doClause 128 = .ok (.getfield 15, 3) := by decide +kernel
theorem dX3_doClause_131 : decode cX3_doClause 131 = .ok (.iconst 2, 1) := by decide +kernel
theorem dX3_doClause_132 : decode cX3_doClause 132 = .ok (.iaload, 1) := by decide +kernel
theorem dX3_doClause_133 : decode cX3_doClause 133 = .ok (.invokevirtual 84, 3) := by decide +kernel
theorem dX3_doClause_136 : decode cX3_doClause 136 = .ok (.return_, 1) := by decide +kernel
theorem dX3_setBears_0 : decode cX3_setBears 0 = .ok (.iload_n 1, 1) := by decide +kernel
theorem dX3_setBears_1 : decode cX3_setBears 1 = .ok (.ifCond .lt 15, 3) := by decide +kernel
theorem dX3_setBears_4 : decode cX3_setBears 4 = .ok (.iload_n 1, 1) := by decide +kernel
theorem dX3_setBears_5 : decode cX3_setBears 5 = .ok (.iconst 3, 1) := by decide +kernel
theorem dX3_setBears_6 : decode cX3_setBears 6 = .ok (.if_icmp .ge 10, 3) := by decide +kernel
theorem dX3_setBears_9 : decode cX3_setBears 9 = .ok (.aload_n 0, 1) := by decide +kernel
theorem dX3_setBears_10 : decode cX3_setBears 10 = .ok (.getfield 88, 3) := by decide +kernel
theorem dX3_setBears_13 : decode cX3_setBears 13 = .ok (.iload_n 1, 1) := by decide +kernel
theorem dX3_setBears_14 : decode cX3_setBears 14 = .ok (.iload_n 2, 1) := by decide +kernel
theorem dX3_setBears_15 : decode cX3_setBears 15 = .ok (.iastore, 1) := by decide +kernel
theorem dX3_setBears_16 : decode cX3_setBears 16 = .ok (.return_, 1) := by decide +kernel
theorem dX3_leastOf_0 : decode cX3_leastOf 0 = .ok (.iload_n 0, 1) := by decide +kernel
theorem dX3_leastOf_1 : decode cX3_leastOf 1 = .ok (.iconst 4, 1) := by decide +kernel
theorem dX3_leastOf_2 : decode cX3_leastOf 2 = .ok (.if_icmp .gt 11, 3) := by decide +kernel
theorem dX3_leastOf_5 : decode cX3_leastOf 5 = .ok (.iload_n 1, 1) := by decide +kernel
theorem dX3_leastOf_6 : decode cX3_leastOf 6 = .ok (.ifCond .ne 7, 3) := by decide +kernel
theorem dX3_leastOf_9 : decode cX3_leastOf 9 = .ok (.iconst 1, 1) := by decide +kernel
theorem dX3_leastOf_10 : decode cX3_leastOf 10 = .ok (.goto 4, 3) := by decide +kernel
theorem dX3_leastOf_13 : decode cX3_leastOf 13 = .ok (.iconst 0, 1) := by decide +kernel
theorem dX3_leastOf_14 : decode cX3_leastOf 14 = .ok (.ireturn, 1) := by decide +kernel
theorem dX3_mostOf_0 : decode cX3_mostOf 0 = .ok (.iload_n 0, 1) := by decide +kernel
theorem dX3_mostOf_1 : decode cX3_mostOf 1 = .ok (.tableswitch 49 5 8 #[31, 42, 44, 46], 31) := by decide +kernel
theorem dX3_mostOf_32 : decode cX3_mostOf 32 = .ok (.iload_n 1, 1) := by decide +kernel
theorem dX3_mostOf_33 : decode cX3_mostOf 33 = .ok (.ifCond .ne 7, 3) := by decide +kernel
theorem dX3_mostOf_36 : decode cX3_mostOf 36 = .ok (.iconst 2, 1) := by decide +kernel
theorem dX3_mostOf_37 : decode cX3_mostOf 37 = .ok (.goto 5, 3) := by decide +kernel
theorem dX3_mostOf_40 : decode cX3_mostOf 40 = .ok (.bipush 99, 2) := by decide +kernel
theorem dX3_mostOf_42 : decode cX3_mostOf 42 = .ok (.ireturn, 1) := by decide +kernel
theorem dX3_mostOf_43 : decode cX3_mostOf 43 = .ok (.iconst 4, 1) := by decide +kernel
theorem dX3_mostOf_44 : decode cX3_mostOf 44 = .ok (.ireturn, 1) := by decide +kernel
theorem dX3_mostOf_45 : decode cX3_mostOf 45 = .ok (.iconst 4, 1) := by decide +kernel
theorem dX3_mostOf_46 : decode cX3_mostOf 46 = .ok (.ireturn, 1) := by decide +kernel
theorem dX3_mostOf_47 : decode cX3_mostOf 47 = .ok (.bipush 24, 2) := by decide +kernel
theorem dX3_mostOf_49 : decode cX3_mostOf 49 = .ok (.ireturn, 1) := by decide +kernel
theorem dX3_mostOf_50 : decode cX3_mostOf 50 = .ok (.iload_n 1, 1) := by decide +kernel
theorem dX3_mostOf_51 : decode cX3_mostOf 51 = .ok (.ifCond .ne 8, 3) := by decide +kernel
theorem dX3_mostOf_54 : decode cX3_mostOf 54 = .ok (.bipush 20, 2) := by decide +kernel
theorem dX3_mostOf_56 : decode cX3_mostOf 56 = .ok (.goto 14, 3) := by decide +kernel
theorem dX3_mostOf_59 : decode cX3_mostOf 59 = .ok (.iload_n 1, 1) := by decide +kernel
theorem dX3_mostOf_60 : decode cX3_mostOf 60 = .ok (.iconst 1, 1) := by decide +kernel
theorem dX3_mostOf_61 : decode cX3_mostOf 61 = .ok (.if_icmp .ne 8, 3) := by decide +kernel
theorem dX3_mostOf_64 : decode cX3_mostOf 64 = .ok (.bipush 40, 2) := by decide +kernel
theorem dX3_mostOf_66 : decode cX3_mostOf 66 = .ok (.goto 4, 3) := by decide +kernel
theorem dX3_mostOf_69 : decode cX3_mostOf 69 = .ok (.iconst 2, 1) := by decide +kernel
theorem dX3_mostOf_70 : decode cX3_mostOf 70 = .ok (.ireturn, 1) := by decide +kernel
theorem dX3_wordText_0 : decode cX3_wordText 0 = .ok (.iload_n 0, 1) := by decide +kernel
theorem dX3_wordText_1 : decode cX3_wordText 1 = .ok (.tableswitch 85 0 9 #[55, 58, 61, 64, 67, 70, 73, 76, 79, 82], 55) := by decide +kernel
theorem dX3_wordText_56 : decode cX3_wordText 56 = .ok (.ldc 91, 2) := by decide +kernel
theorem dX3_wordText_58 : decode cX3_wordText 58 = .ok (.areturn, 1) := by decide +kernel
theorem dX3_wordText_59 : decode cX3_wordText 59 = .ok (.ldc 93, 2) := by decide +kernel
theorem dX3_wordText_61 : decode cX3_wordText 61 = .ok (.areturn, 1) := by decide +kernel
theorem dX3_wordText_62 : decode cX3_wordText 62 = .ok (.ldc 95, 2) := by decide +kernel
theorem dX3_wordText_64 : decode cX3_wordText 64 = .ok (.areturn, 1) := by decide +kernel
theorem dX3_wordText_65 : decode cX3_wordText 65 = .ok (.ldc 97, 2) := by decide +kernel
theorem dX3_wordText_67 : decode cX3_wordText 67 = .ok (.areturn, 1) := by decide +kernel
theorem dX3_wordText_68 : decode cX3_wordText 68 = .ok (.ldc 99, 2) := by decide +kernel
theorem dX3_wordText_70 : decode cX3_wordText 70 = .ok (.areturn, 1) := by decide +kernel
theorem dX3_wordText_71 : decode cX3_wordText 71 = .ok (.ldc 101, 2) := by decide +kernel
theorem dX3_wordText_73 : decode cX3_wordText 73 = .ok (.areturn, 1) := by decide +kernel
theorem dX3_wordText_74 : decode cX3_wordText 74 = .ok (.ldc 102, 2) := by decide +kernel
theorem dX3_wordText_76 : decode cX3_wordText 76 = .ok (.areturn, 1) := by decide +kernel
theorem dX3_wordText_77 : decode cX3_wordText 77 = .ok (.ldc 103, 2) := by decide +kernel
theorem dX3_wordText_79 : decode cX3_wordText 79 = .ok (.areturn, 1) := by decide +kernel
theorem dX3_wordText_80 : decode cX3_wordText 80 = .ok (.ldc 104, 2) := by decide +kernel
theorem dX3_wordText_82 : decode cX3_wordText 82 = .ok (.areturn, 1) := by decide +kernel
theorem dX3_wordText_83 : decode cX3_wordText 83 = .ok (.ldc 105, 2) := by decide +kernel
theorem dX3_wordText_85 : decode cX3_wordText 85 = .ok (.areturn, 1) := by decide +kernel
theorem dX3_wordText_86 : decode cX3_wordText 86 = .ok (.ldc 107, 2) := by decide +kernel
theorem dX3_wordText_88 : decode cX3_wordText 88 = .ok (.areturn, 1) := by decide +kernel
theorem dX3_readWord_0 : decode cX3_readWord 0 = .ok (.iconst 0, 1) := by decide +kernel
theorem dX3_readWord_1 : decode cX3_readWord 1 = .ok (.istore_n 1, 1) := by decide +kernel
theorem dX3_readWord_2 : decode cX3_readWord 2 = .ok (.iload_n 1, 1) := by decide +kernel
theorem dX3_readWord_3 : decode cX3_readWord 3 = .ok (.bipush 11, 2) := by decide +kernel
theorem dX3_readWord_5 : decode cX3_readWord 5 = .ok (.if_icmp .ge 22, 3) := by decide +kernel
theorem dX3_readWord_8 : decode cX3_readWord 8 = .ok (.aload_n 0, 1) := by decide +kernel
theorem dX3_readWord_9 : decode cX3_readWord 9 = .ok (.iload_n 1, 1) := by decide +kernel
theorem dX3_readWord_10 : decode cX3_readWord 10 = .ok (.invokestatic 109, 3) := by decide +kernel
theorem dX3_readWord_13 : decode cX3_readWord 13 = .ok (.invokevirtual 113, 3) := by decide +kernel
theorem dX3_readWord_16 : decode cX3_readWord 16 = .ok (.ifCond .eq 5, 3) := by decide +kernel
theorem dX3_readWord_19 : decode cX3_readWord 19 = .ok (.iload_n 1, 1) := by decide +kernel
theorem dX3_readWord_20 : decode cX3_readWord 20 = .ok (.ireturn, 1) := by decide +kernel
theorem dX3_readWord_21 : decode cX3_readWord 21 = .ok (.iinc 1 1, 3) := by decide +kernel
theorem dX3_readWord_24 : decode cX3_readWord 24 = .ok (.goto (-22), 3) := by decide +kernel
theorem dX3_readWord_27 : decode cX3_readWord 27 = .ok (.iconst (-1), 1) := by decide +kernel
theorem dX3_readWord_28 : decode cX3_readWord 28 = .ok (.ireturn, 1) := by decide +kernel
theorem dX3_isToken_0 : decode cX3_isToken 0 = .ok (.aload_n 0, 1) := by decide +kernel
theorem dX3_isToken_1 : decode cX3_isToken 1 = .ok (.getfield 22, 3) := by decide +kernel
theorem dX3_isToken_4 : decode cX3_isToken 4 = .ok (.aload_n 0, 1) := by decide +kernel
theorem dX3_isToken_5 : decode cX3_isToken 5 = .ok (.getfield 32, 3) := by decide +kernel
theorem dX3_isToken_8 : decode cX3_isToken 8 = .ok (.isub, 1) := by decide +kernel
theorem dX3_isToken_9 : decode cX3_isToken 9 = .ok (.aload_n 1, 1) := by decide +kernel
theorem dX3_isToken_10 : decode cX3_isToken 10 = .ok (.invokevirtual 117, 3) := by decide +kernel
theorem dX3_isToken_13 : decode cX3_isToken 13 = .ok (.if_icmp .eq 5, 3) := by decide +kernel
theorem dX3_isToken_16 : decode cX3_isToken 16 = .ok (.iconst 0, 1) := by decide +kernel
theorem dX3_isToken_17 : decode cX3_isToken 17 = .ok (.ireturn, 1) := by decide +kernel
theorem dX3_isToken_18 : decode cX3_isToken 18 = .ok (.iconst 0, 1) := by decide +kernel
theorem dX3_isToken_19 : decode cX3_isToken 19 = .ok (.istore_n 2, 1) := by decide +kernel
theorem dX3_isToken_20 : decode cX3_isToken 20 = .ok (.iload_n 2, 1) := by decide +kernel
theorem dX3_isToken_21 : decode cX3_isToken 21 = .ok (.aload_n 1, 1) := by decide +kernel
theorem dX3_isToken_22 : decode cX3_isToken 22 = .ok (.invokevirtual 117, 3) := by decide +kernel
theorem dX3_isToken_25 : decode cX3_isToken 25 = .ok (.if_icmp .ge 29, 3) := by decide +kernel
theorem dX3_isToken_28 : decode cX3_isToken 28 = .ok (.aload_n 0, 1) := by decide +kernel
theorem dX3_isToken_29 : decode cX3_isToken 29 = .ok (.aload_n 0, 1) := by decide +kernel
theorem dX3_isToken_30 : decode cX3_isToken 30 = .ok (.getfield 32, 3) := by decide +kernel
theorem dX3_isToken_33 : decode cX3_isToken 33 = .ok (.iload_n 2, 1) := by decide +kernel
theorem dX3_isToken_34 : decode cX3_isToken 34 = .ok (.iadd, 1) := by decide +kernel
theorem dX3_isToken_35 : decode cX3_isToken 35 = .ok (.invokevirtual 38, 3) := by decide +kernel
theorem dX3_isToken_38 : decode cX3_isToken 38 = .ok (.aload_n 1, 1) := by decide +kernel
theorem dX3_isToken_39 : decode cX3_isToken 39 = .ok (.iload_n 2, 1) := by decide +kernel
theorem dX3_isToken_40 : decode cX3_isToken 40 = .ok (.invokevirtual 121, 3) := by decide +kernel
theorem dX3_isToken_43 : decode cX3_isToken 43 = .ok (.if_icmp .eq 5, 3) := by decide +kernel
theorem dX3_isToken_46 : decode cX3_isToken 46 = .ok (.iconst 0, 1) := by decide +kernel
theorem dX3_isToken_47 : decode cX3_isToken 47 = .ok (.ireturn, 1) := by decide +kernel
theorem dX3_isToken_48 : decode cX3_isToken 48 = .ok (.iinc 2 1, 3) := by decide +kernel
theorem dX3_isToken_51 : decode cX3_isToken 51 = .ok (.goto (-31), 3) := by decide +kernel
theorem dX3_isToken_54 : decode cX3_isToken 54 = .ok (.iconst 1, 1) := by decide +kernel
theorem dX3_isToken_55 : decode cX3_isToken 55 = .ok (.ireturn, 1) := by decide +kernel
theorem dX3_readNumber_0 : decode cX3_readNumber 0 = .ok (.aload_n 0, 1) := by decide +kernel
theorem dX3_readNumber_1 : decode cX3_readNumber 1 = .ok (.getfield 32, 3) := by decide +kernel
theorem dX3_readNumber_4 : decode cX3_readNumber 4 = .ok (.aload_n 0, 1) := by decide +kernel
theorem dX3_readNumber_5 : decode cX3_readNumber 5 = .ok (.getfield 22, 3) := by decide +kernel
theorem dX3_readNumber_8 : decode cX3_readNumber 8 = .ok (.if_icmp .ge 16, 3) := by decide +kernel
theorem dX3_readNumber_11 : decode cX3_readNumber 11 = .ok (.aload_n 0, 1) := by decide +kernel
theorem dX3_readNumber_12 : decode cX3_readNumber 12 = .ok (.getfield 22, 3) := by decide +kernel
theorem dX3_readNumber_15 : decode cX3_readNumber 15 = .ok (.aload_n 0, 1) := by decide +kernel
theorem dX3_readNumber_16 : decode cX3_readNumber 16 = .ok (.getfield 32, 3) := by decide +kernel
theorem dX3_readNumber_19 : decode cX3_readNumber 19 = .ok (.isub, 1) := by decide +kernel
theorem dX3_readNumber_20 : decode cX3_readNumber 20 = .ok (.iconst 2, 1) := by decide +kernel
theorem dX3_readNumber_21 : decode cX3_readNumber 21 = .ok (.if_icmp .le 5, 3) := by decide +kernel
theorem dX3_readNumber_24 : decode cX3_readNumber 24 = .ok (.iconst (-1), 1) := by decide +kernel
theorem dX3_readNumber_25 : decode cX3_readNumber 25 = .ok (.ireturn, 1) := by decide +kernel
theorem dX3_readNumber_26 : decode cX3_readNumber 26 = .ok (.iconst 0, 1) := by decide +kernel
theorem dX3_readNumber_27 : decode cX3_readNumber 27 = .ok (.istore_n 1, 1) := by decide +kernel
theorem dX3_readNumber_28 : decode cX3_readNumber 28 = .ok (.aload_n 0, 1) := by decide +kernel
theorem dX3_readNumber_29 : decode cX3_readNumber 29 = .ok (.getfield 32, 3) := by decide +kernel
theorem dX3_readNumber_32 : decode cX3_readNumber 32 = .ok (.istore_n 2, 1) := by decide +kernel
theorem dX3_readNumber_33 : decode cX3_readNumber 33 = .ok (.iload_n 2, 1) := by decide +kernel
theorem dX3_readNumber_34 : decode cX3_readNumber 34 = .ok (.aload_n 0, 1) := by decide +kernel
theorem dX3_readNumber_35 : decode cX3_readNumber 35 = .ok (.getfield 22, 3) := by decide +kernel
theorem dX3_readNumber_38 : decode cX3_readNumber 38 = .ok (.if_icmp .ge 36, 3) := by decide +kernel
theorem dX3_readNumber_41 : decode cX3_readNumber 41 = .ok (.aload_n 0, 1) := by decide +kernel
theorem dX3_readNumber_42 : decode cX3_readNumber 42 = .ok (.iload_n 2, 1) := by decide +kernel
theorem dX3_readNumber_43 : decode cX3_readNumber 43 = .ok (.invokevirtual 38, 3) := by decide +kernel
theorem dX3_readNumber_46 : decode cX3_readNumber 46 = .ok (.invokestatic 125, 3) := by decide +kernel
theorem dX3_readNumber_49 : decode cX3_readNumber 49 = .ok (.ifCond .ne 5, 3) := by decide +kernel
theorem dX3_readNumber_52 : decode cX3_readNumber 52 = .ok (.iconst (-1), 1) := by decide +kernel
theorem dX3_readNumber_53 : decode cX3_readNumber 53 = .ok (.ireturn, 1) := by decide +kernel
theorem dX3_readNumber_54 : decode cX3_readNumber 54 = .ok (.iload_n 1, 1) := by decide +kernel
theorem dX3_readNumber_55 : decode cX3_readNumber 55 = .ok (.bipush 10, 2) := by decide +kernel
theorem dX3_readNumber_57 : decode cX3_readNumber 57 = .ok (.imul, 1) := by decide +kernel
theorem dX3_readNumber_58 : decode cX3_readNumber 58 = .ok (.aload_n 0, 1) := by decide +kernel
theorem dX3_readNumber_59 : decode cX3_readNumber 59 = .ok (.iload_n 2, 1) := by decide +kernel
theorem dX3_readNumber_60 : decode cX3_readNumber 60 = .ok (.invokevirtual 38, 3) := by decide +kernel
theorem dX3_readNumber_63 : decode cX3_readNumber 63 = .ok (.iadd, 1) := by decide +kernel
theorem dX3_readNumber_64 : decode cX3_readNumber 64 = .ok (.bipush 48, 2) := by decide +kernel
theorem dX3_readNumber_66 : decode cX3_readNumber 66 = .ok (.isub, 1) := by decide +kernel
theorem dX3_readNumber_67 : decode cX3_readNumber 67 = .ok (.istore_n 1, 1) := by decide +kernel
theorem dX3_readNumber_68 : decode cX3_readNumber 68 = .ok (.iinc 2 1, 3) := by decide +kernel
theorem dX3_readNumber_71 : decode cX3_readNumber 71 = .ok (.goto (-38), 3) := by decide +kernel
theorem dX3_readNumber_74 : decode cX3_readNumber 74 = .ok (.iload_n 1, 1) := by decide +kernel
theorem dX3_readNumber_75 : decode cX3_readNumber 75 = .ok (.ireturn, 1) := by decide +kernel
theorem dX3_nextToken_0 : decode cX3_nextToken 0 = .ok (.aload_n 0, 1) := by decide +kernel
theorem dX3_nextToken_1 : decode cX3_nextToken 1 = .ok (.aload_n 0, 1) := by decide +kernel
theorem dX3_nextToken_2 : decode cX3_nextToken 2 = .ok (.getfield 22, 3) := by decide +kernel
theorem dX3_nextToken_5 : decode cX3_nextToken 5 = .ok (.putfield 32, 3) := by decide +kernel
theorem dX3_nextToken_8 : decode cX3_nextToken 8 = .ok (.aload_n 0, 1) := by decide +kernel
theorem dX3_nextToken_9 : decode cX3_nextToken 9 = .ok (.getfield 32, 3) := by decide +kernel
theorem dX3_nextToken_12 : decode cX3_nextToken 12 = .ok (.aload_n 0, 1) := by decide +kernel
theorem dX3_nextToken_13 : decode cX3_nextToken 13 = .ok (.getfield 35, 3) := by decide +kernel
theorem dX3_nextToken_16 : decode cX3_nextToken 16 = .ok (.if_icmp .ge 29, 3) := by decide +kernel
theorem dX3_nextToken_19 : decode cX3_nextToken 19 = .ok (.aload_n 0, 1) := by decide +kernel
theorem dX3_nextToken_20 : decode cX3_nextToken 20 = .ok (.aload_n 0, 1) := by decide +kernel
theorem dX3_nextToken_21 : decode cX3_nextToken 21 = .ok (.getfield 32, 3) := by decide +kernel
theorem dX3_nextToken_24 : decode cX3_nextToken 24 = .ok (.invokevirtual 38, 3) := by decide +kernel
theorem dX3_nextToken_27 : decode cX3_nextToken 27 = .ok (.bipush 32, 2) := by decide +kernel
theorem dX3_nextToken_29 : decode cX3_nextToken 29 = .ok (.if_icmp .ne 16, 3) := by decide +kernel
theorem dX3_nextToken_32 : decode cX3_nextToken 32 = .ok (.aload_n 0, 1) := by decide +kernel
theorem dX3_nextToken_33 : decode cX3_nextToken 33 = .ok (.dup, 1) := by decide +kernel
theorem dX3_nextToken_34 : decode cX3_nextToken 34 = .ok (.getfield 32, 3) := by decide +kernel
theorem dX3_nextToken_37 : decode cX3_nextToken 37 = .ok (.iconst 1, 1) := by decide +kernel
theorem dX3_nextToken_38 : decode cX3_nextToken 38 = .ok (.iadd, 1) := by decide +kernel
theorem dX3_nextToken_39 : decode cX3_nextToken 39 = .ok (.putfield 32, 3) := by decide +kernel
theorem dX3_nextToken_42 : decode cX3_nextToken 42 = .ok (.goto (-34), 3) := by decide +kernel
theorem dX3_nextToken_45 : decode cX3_nextToken 45 = .ok (.aload_n 0, 1) := by decide +kernel
theorem dX3_nextToken_46 : decode cX3_nextToken 46 = .ok (.aload_n 0, 1) := by decide +kernel
theorem dX3_nextToken_47 : decode cX3_nextToken 47 = .ok (.getfield 32, 3) := by decide +kernel
theorem dX3_nextToken_50 : decode cX3_nextToken 50 = .ok (.putfield 22, 3) := by decide +kernel
theorem dX3_nextToken_53 : decode cX3_nextToken 53 = .ok (.aload_n 0, 1) := by decide +kernel
theorem dX3_nextToken_54 : decode cX3_nextToken 54 = .ok (.getfield 22, 3) := by decide +kernel
theorem dX3_nextToken_57 : decode cX3_nextToken 57 = .ok (.aload_n 0, 1) := by decide +kernel
theorem dX3_nextToken_58 : decode cX3_nextToken 58 = .ok (.getfield 35, 3) := by decide +kernel
theorem dX3_nextToken_61 : decode cX3_nextToken 61 = .ok (.if_icmp .lt 4, 3) := by decide +kernel
theorem dX3_nextToken_64 : decode cX3_nextToken 64 = .ok (.return_, 1) := by decide +kernel
theorem dX3_nextToken_65 : decode cX3_nextToken 65 = .ok (.aload_n 0, 1) := by decide +kernel
theorem dX3_nextToken_66 : decode cX3_nextToken 66 = .ok (.aload_n 0, 1) := by decide +kernel
theorem dX3_nextToken_67 : decode cX3_nextToken 67 = .ok (.getfield 32, 3) := by decide +kernel
theorem dX3_nextToken_70 : decode cX3_nextToken 70 = .ok (.invokevirtual 38, 3) := by decide +kernel
theorem dX3_nextToken_73 : decode cX3_nextToken 73 = .ok (.istore_n 1, 1) := by decide +kernel
theorem dX3_nextToken_74 : decode cX3_nextToken 74 = .ok (.aload_n 0, 1) := by decide +kernel
theorem dX3_nextToken_75 : decode cX3_nextToken 75 = .ok (.dup, 1) := by decide +kernel
theorem dX3_nextToken_76 : decode cX3_nextToken 76 = .ok (.getfield 22, 3) := by decide +kernel
theorem dX3_nextToken_79 : decode cX3_nextToken 79 = .ok (.iconst 1, 1) := by decide +kernel
theorem dX3_nextToken_80 : decode cX3_nextToken 80 = .ok (.iadd, 1) := by decide +kernel
theorem dX3_nextToken_81 : decode cX3_nextToken 81 = .ok (.putfield 22, 3) := by decide +kernel
theorem dX3_nextToken_84 : decode cX3_nextToken 84 = .ok (.iload_n 1, 1) := by decide +kernel
theorem dX3_nextToken_85 : decode cX3_nextToken 85 = .ok (.invokestatic 129, 3) := by decide +kernel
theorem dX3_nextToken_88 : decode cX3_nextToken 88 = .ok (.ifCond .ne 11, 3) := by decide +kernel
theorem dX3_nextToken_91 : decode cX3_nextToken 91 = .ok (.iload_n 1, 1) := by decide +kernel
theorem dX3_nextToken_92 : decode cX3_nextToken 92 = .ok (.invokestatic 125, 3) := by decide +kernel
theorem dX3_nextToken_95 : decode cX3_nextToken 95 = .ok (.ifCond .ne 4, 3) := by decide +kernel
theorem dX3_nextToken_98 : decode cX3_nextToken 98 = .ok (.return_, 1) := by decide +kernel
theorem dX3_nextToken_99 : decode cX3_nextToken 99 = .ok (.aload_n 0, 1) := by decide +kernel
theorem dX3_nextToken_100 : decode cX3_nextToken 100 = .ok (.getfield 22, 3) := by decide +kernel
theorem dX3_nextToken_103 : decode cX3_nextToken 103 = .ok (.aload_n 0, 1) := by decide +kernel
theorem dX3_nextToken_104 : decode cX3_nextToken 104 = .ok (.getfield 35, 3) := by decide +kernel
theorem dX3_nextToken_107 : decode cX3_nextToken 107 = .ok (.if_icmp .ge 52, 3) := by decide +kernel
theorem dX3_nextToken_110 : decode cX3_nextToken 110 = .ok (.aload_n 0, 1) := by decide +kernel
theorem dX3_nextToken_111 : decode cX3_nextToken 111 = .ok (.aload_n 0, 1) := by decide +kernel
theorem dX3_nextToken_112 : decode cX3_nextToken 112 = .ok (.getfield 22, 3) := by decide +kernel
theorem dX3_nextToken_115 : decode cX3_nextToken 115 = .ok (.invokevirtual 38, 3) := by decide +kernel
theorem dX3_nextToken_118 : decode cX3_nextToken 118 = .ok (.invokestatic 129, 3) := by decide +kernel
theorem dX3_nextToken_121 : decode cX3_nextToken 121 = .ok (.iload_n 1, 1) := by decide +kernel
theorem dX3_nextToken_122 : decode cX3_nextToken 122 = .ok (.invokestatic 129, 3) := by decide +kernel
theorem dX3_nextToken_125 : decode cX3_nextToken 125 = .ok (.if_icmp .ne 34, 3) := by decide +kernel
theorem dX3_nextToken_128 : decode cX3_nextToken 128 = .ok (.aload_n 0, 1) := by decide +kernel
theorem dX3_nextToken_129 : decode cX3_nextToken 129 = .ok (.aload_n 0, 1) := by decide +kernel
theorem dX3_nextToken_130 : decode cX3_nextToken 130 = .ok (.getfield 22, 3) := by decide +kernel
theorem dX3_nextToken_133 : decode cX3_nextToken 133 = .ok (.invokevirtual 38, 3) := by decide +kernel
theorem dX3_nextToken_136 : decode cX3_nextToken 136 = .ok (.invokestatic 125, 3) := by decide +kernel

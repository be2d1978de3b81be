theorem dX0_init_0 : decode cX0_init 0 = .ok (.aload_n 0, 1) := by decide +kernel
theorem dX0_init_1 : decode cX0_init 1 = .ok (.invokespecial 3, 3) := by decide +kernel
theorem dX0_init_4 : decode cX0_init 4 = .ok (.aload_n 0, 1) := by decide +kernel
theorem dX0_init_5 : decode cX0_init 5 = .ok (.iconst 4, 1) := by decide +kernel
theorem dX0_init_6 : decode cX0_init 6 = .ok (.newarray .int, 2) := by decide +kernel
theorem dX0_init_8 : decode cX0_init 8 = .ok (.putfield 9, 3) := by decide +kernel
theorem dX0_init_11 : decode cX0_init 11 = .ok (.aload_n 0, 1) := by decide +kernel
theorem dX0_init_12 : decode cX0_init 12 = .ok (.iconst 4, 1) := by decide +kernel
theorem dX0_init_13 : decode cX0_init 13 = .ok (.newarray .int, 2) := by decide +kernel
theorem dX0_init_15 : decode cX0_init 15 = .ok (.putfield 15, 3) := by decide +kernel
theorem dX0_init_18 : decode cX0_init 18 = .ok (.aload_n 0, 1) := by decide +kernel
theorem dX0_init_19 : decode cX0_init 19 = .ok (.iconst 5, 1) := by decide +kernel
theorem dX0_init_20 : decode cX0_init 20 = .ok (.newarray .int, 2) := by decide +kernel
theorem dX0_init_22 : decode cX0_init 22 = .ok (.putfield 18, 3) := by decide +kernel
theorem dX0_init_25 : decode cX0_init 25 = .ok (.return_, 1) := by decide +kernel
theorem dX0_readFirst_0 : decode cX0_readFirst 0 = .ok (.aload_n 0, 1) := by decide +kernel
theorem dX0_readFirst_1 : decode cX0_readFirst 1 = .ok (.aload_n 1, 1) := by decide +kernel
theorem dX0_readFirst_2 : decode cX0_readFirst 2 = .ok (.iload_n 2, 1) := by decide +kernel
theorem dX0_readFirst_3 : decode cX0_readFirst 3 = .ok (.iload_n 3, 1) := by decide +kernel
theorem dX0_readFirst_4 : decode cX0_readFirst 4 = .ok (.aload_n 0, 1) := by decide +kernel
theorem dX0_readFirst_5 : decode cX0_readFirst 5 = .ok (.getfield 9, 3) := by decide +kernel
theorem dX0_readFirst_8 : decode cX0_readFirst 8 = .ok (.invokestatic 21, 3) := by decide +kernel
theorem dX0_readFirst_11 : decode cX0_readFirst 11 = .ok (.putfield 25, 3) := by decide +kernel
theorem dX0_readFirst_14 : decode cX0_readFirst 14 = .ok (.return_, 1) := by decide +kernel
theorem dX0_readSecond_0 : decode cX0_readSecond 0 = .ok (.aload_n 0, 1) := by decide +kernel
theorem dX0_readSecond_1 : decode cX0_readSecond 1 = .ok (.aload_n 1, 1) := by decide +kernel
theorem dX0_readSecond_2 : decode cX0_readSecond 2 = .ok (.iload_n 2, 1) := by decide +kernel
theorem dX0_readSecond_3 : decode cX0_readSecond 3 = .ok (.iload_n 3, 1) := by decide +kernel
theorem dX0_readSecond_4 : decode cX0_readSecond 4 = .ok (.aload_n 0, 1) := by decide +kernel
theorem dX0_readSecond_5 : decode cX0_readSecond 5 = .ok (.getfield 15, 3) := by decide +kernel
theorem dX0_readSecond_8 : decode cX0_readSecond 8 = .ok (.invokestatic 21, 3) := by decide +kernel
theorem dX0_readSecond_11 : decode cX0_readSecond 11 = .ok (.putfield 29, 3) := by decide +kernel
theorem dX0_readSecond_14 : decode cX0_readSecond 14 = .ok (.return_, 1) := by decide +kernel
theorem dX0_leastCost_0 : decode cX0_leastCost 0 = .ok (.iconst 0, 1) := by decide +kernel
theorem dX0_leastCost_1 : decode cX0_leastCost 1 = .ok (.istore_n 1, 1) := by decide +kernel
theorem dX0_leastCost_2 : decode cX0_leastCost 2 = .ok (.iload_n 1, 1) := by decide +kernel
theorem dX0_leastCost_3 : decode cX0_leastCost 3 = .ok (.aload_n 0, 1) := by decide +kernel
theorem dX0_leastCost_4 : decode cX0_leastCost 4 = .ok (.getfield 29, 3) := by decide +kernel
theorem dX0_leastCost_7 : decode cX0_leastCost 7 = .ok (.if_icmp .gt 18, 3) := by decide +kernel
theorem dX0_leastCost_10 : decode cX0_leastCost 10 = .ok (.aload_n 0, 1) := by decide +kernel
theorem dX0_leastCost_11 : decode cX0_leastCost 11 = .ok (.getfield 18, 3) := by decide +kernel
theorem dX0_leastCost_14 : decode cX0_leastCost 14 = .ok (.iload_n 1, 1) := by decide +kernel
theorem dX0_leastCost_15 : decode cX0_leastCost 15 = .ok (.iload_n 1, 1) := by decide +kernel
theorem dX0_leastCost_16 : decode cX0_leastCost 16 = .ok (.iconst 3, 1) := by decide +kernel
theorem dX0_leastCost_17 : decode cX0_leastCost 17 = .ok (.imul, 1) := by decide +kernel
theorem dX0_leastCost_18 : decode cX0_leastCost 18 = .ok (.iastore, 1) := by decide +kernel
theorem dX0_leastCost_19 : decode cX0_leastCost 19 = .ok (.iinc 1 1, 3) := by decide +kernel
theorem dX0_leastCost_22 : decode cX0_leastCost 22 = .ok (.goto (-20), 3) := by decide +kernel
theorem dX0_leastCost_25 : decode cX0_leastCost 25 = .ok (.iconst 0, 1) := by decide +kernel
theorem dX0_leastCost_26 : decode cX0_leastCost 26 = .ok (.istore_n 1, 1) := by decide +kernel
theorem dX0_leastCost_27 : decode cX0_leastCost 27 = .ok (.iload_n 1, 1) := by decide +kernel
theorem dX0_leastCost_28 : decode cX0_leastCost 28 = .ok (.aload_n 0, 1) := by decide +kernel
theorem dX0_leastCost_29 : decode cX0_leastCost 29 = .ok (.getfield 25, 3) := by decide +kernel
theorem dX0_leastCost_32 : decode cX0_leastCost 32 = .ok (.if_icmp .ge 104, 3) := by decide +kernel
theorem dX0_leastCost_35 : decode cX0_leastCost 35 = .ok (.aload_n 0, 1) := by decide +kernel
theorem dX0_leastCost_36 : decode cX0_leastCost 36 = .ok (.getfield 18, 3) := by decide +kernel
theorem dX0_leastCost_39 : decode cX0_leastCost 39 = .ok (.iconst 0, 1) := by decide +kernel
theorem dX0_leastCost_40 : decode cX0_leastCost 40 = .ok (.iaload, 1) := by decide +kernel
theorem dX0_leastCost_41 : decode cX0_leastCost 41 = .ok (.istore_n 2, 1) := by decide +kernel
theorem dX0_leastCost_42 : decode cX0_leastCost 42 = .ok (.aload_n 0, 1) := by decide +kernel
theorem dX0_leastCost_43 : decode cX0_leastCost 43 = .ok (.getfield 18, 3) := by decide +kernel
theorem dX0_leastCost_46 : decode cX0_leastCost 46 = .ok (.iconst 0, 1) := by decide +kernel
theorem dX0_leastCost_47 : decode cX0_leastCost 47 = .ok (.dup2, 1) := by decide +kernel
theorem dX0_leastCost_48 : decode cX0_leastCost 48 = .ok (.iaload, 1) := by decide +kernel
theorem dX0_leastCost_49 : decode cX0_leastCost 49 = .ok (.iconst 3, 1) := by decide +kernel
theorem dX0_leastCost_50 : decode cX0_leastCost 50 = .ok (.iadd, 1) := by decide +kernel
theorem dX0_leastCost_51 : decode cX0_leastCost 51 = .ok (.iastore, 1) := by decide +kernel
theorem dX0_leastCost_52 : decode cX0_leastCost 52 = .ok (.iconst 1, 1) := by decide +kernel
theorem dX0_leastCost_53 : decode cX0_leastCost 53 = .ok (.istore_n 3, 1) := by decide +kernel
theorem dX0_leastCost_54 : decode cX0_leastCost 54 = .ok (.iload_n 3, 1) := by decide +kernel
theorem dX0_leastCost_55 : decode cX0_leastCost 55 = .ok (.aload_n 0, 1) := by decide +kernel
theorem dX0_leastCost_56 : decode cX0_leastCost 56 = .ok (.getfield 29, 3) := by decide +kernel
theorem dX0_leastCost_59 : decode cX0_leastCost 59 = .ok (.if_icmp .gt 71, 3) := by decide +kernel
theorem dX0_leastCost_62 : decode cX0_leastCost 62 = .ok (.iload_n 2, 1) := by decide +kernel
theorem dX0_leastCost_63 : decode cX0_leastCost 63 = .ok (.aload_n 0, 1) := by decide +kernel
theorem dX0_leastCost_64 : decode cX0_leastCost 64 = .ok (.getfield 9, 3) := by decide +kernel
theorem dX0_leastCost_67 : decode cX0_leastCost 67 = .ok (.iload_n 1, 1) := by decide +kernel
theorem dX0_leastCost_68 : decode cX0_leastCost 68 = .ok (.iaload, 1) := by decide +kernel
theorem dX0_leastCost_69 : decode cX0_leastCost 69 = .ok (.aload_n 0, 1) := by decide +kernel
theorem dX0_leastCost_70 : decode cX0_leastCost 70 = .ok (.getfield 15, 3) := by decide +kernel
theorem dX0_leastCost_73 : decode cX0_leastCost 73 = .ok (.iload_n 3, 1) := by decide +kernel
theorem dX0_leastCost_74 : decode cX0_leastCost 74 = .ok (.iconst 1, 1) := by decide +kernel
theorem dX0_leastCost_75 : decode cX0_leastCost 75 = .ok (.isub, 1) := by decide +kernel
theorem dX0_leastCost_76 : decode cX0_leastCost 76 = .ok (.iaload, 1) := by decide +kernel
theorem dX0_leastCost_77 : decode cX0_leastCost 77 = .ok (.invokestatic 32, 3) := by decide +kernel
theorem dX0_leastCost_80 : decode cX0_leastCost 80 = .ok (.iadd, 1) := by decide +kernel
theorem dX0_leastCost_81 : decode cX0_leastCost 81 = .ok (.istore 4, 2) := by decide +kernel
theorem dX0_leastCost_83 : decode cX0_leastCost 83 = .ok (.aload_n 0, 1) := by decide +kernel
theorem dX0_leastCost_84 : decode cX0_leastCost 84 = .ok (.getfield 18, 3) := by decide +kernel
theorem dX0_leastCost_87 : decode cX0_leastCost 87 = .ok (.iload_n 3, 1) := by decide +kernel
theorem dX0_leastCost_88 : decode cX0_leastCost 88 = .ok (.iaload, 1) := by decide +kernel
theorem dX0_leastCost_89 : decode cX0_leastCost 89 = .ok (.aload_n 0, 1) := by decide +kernel
theorem dX0_leastCost_90 : decode cX0_leastCost 90 = .ok (.getfield 18, 3) := by decide +kernel
theorem dX0_leastCost_93 : decode cX0_leastCost 93 = .ok (.iload_n 3, 1) := by decide +kernel
theorem dX0_leastCost_94 : decode cX0_leastCost 94 = .ok (.iconst 1, 1) := by decide +kernel
theorem dX0_leastCost_95 : decode cX0_leastCost 95 = .ok (.isub, 1) := by decide +kernel
theorem dX0_leastCost_96 : decode cX0_leastCost 96 = .ok (.iaload, 1) := by decide +kernel
theorem dX0_leastCost_97 : decode cX0_leastCost 97 = .ok (.invokestatic 36, 3) := by decide +kernel
theorem dX0_leastCost_100 : decode cX0_leastCost 100 = .ok (.iconst 3, 1) := by decide +kernel
theorem dX0_leastCost_101 : decode cX0_leastCost 101 = .ok (.iadd, 1) := by decide +kernel
theorem dX0_leastCost_102 : decode cX0_leastCost 102 = .ok (.istore 5, 2) := by decide +kernel
theorem dX0_leastCost_104 : decode cX0_leastCost 104 = .ok (.aload_n 0, 1) := by decide +kernel
theorem dX0_leastCost_105 : decode cX0_leastCost 105 = .ok (.getfield 18, 3) := by decide +kernel
theorem dX0_leastCost_108 : decode cX0_leastCost 108 = .ok (.iload_n 3, 1) := by decide +kernel
theorem dX0_leastCost_109 : decode cX0_leastCost 109 = .ok (.iaload, 1) := by decide +kernel
theorem dX0_leastCost_110 : decode cX0_leastCost 110 = .ok (.istore_n 2, 1) := by decide +kernel
theorem dX0_leastCost_111 : decode cX0_leastCost 111 = .ok (.aload_n 0, 1) := by decide +kernel
theorem dX0_leastCost_112 : decode cX0_leastCost 112 = .ok (.getfield 18, 3) := by decide +kernel
theorem dX0_leastCost_115 : decode cX0_leastCost 115 = .ok (.iload_n 3, 1) := by decide +kernel
theorem dX0_leastCost_116 : decode cX0_leastCost 116 = .ok (.iload 4, 2) := by decide +kernel
theorem dX0_leastCost_118 : decode cX0_leastCost 118 = .ok (.iload 5, 2) := by decide +kernel
theorem dX0_leastCost_120 : decode cX0_leastCost 120 = .ok (.invokestatic 36, 3) := by decide +kernel
theorem dX0_leastCost_123 : decode cX0_leastCost 123 = .ok (.iastore, 1) := by decide +kernel
theorem dX0_leastCost_124 : decode cX0_leastCost 124 = .ok (.iinc 3 1, 3) := by decide +kernel
theorem dX0_leastCost_127 : decode cX0_leastCost 127 = .ok (.goto (-73), 3) := by decide +kernel
theorem dX0_leastCost_130 : decode cX0_leastCost 130 = .ok (.iinc 1 1, 3) := by decide +kernel
theorem dX0_leastCost_133 : decode cX0_leastCost 133 = .ok (.goto (-106), 3) := by decide +kernel
theorem dX0_leastCost_136 : decode cX0_leastCost 136 = .ok (.aload_n 0, 1) := by decide +kernel
theorem dX0_leastCost_137 : decode cX0_leastCost 137 = .ok (.getfield 18, 3) := by decide +kernel
theorem dX0_leastCost_140 : decode cX0_leastCost 140 = .ok (.aload_n 0, 1) := by decide +kernel
theorem dX0_leastCost_141 : decode cX0_leastCost 141 = .ok (.getfield 29, 3) := by decide +kernel
theorem dX0_leastCost_144 : decode cX0_leastCost 144 = .ok (.iaload, 1) := by decide +kernel
theorem dX0_leastCost_145 : decode cX0_leastCost 145 = .ok (.ireturn, 1) := by decide +kernel
theorem dX0_readSounds_0 : decode cX0_readSounds 0 = .ok (.iconst 0, 1) := by decide +kernel
theorem dX0_readSounds_1 : decode cX0_readSounds 1 = .ok (.istore 4, 2) := by decide +kernel
theorem dX0_readSounds_3 : decode cX0_readSounds 3 = .ok (.iconst 0, 1) := by decide +kernel
theorem dX0_readSounds_4 : decode cX0_readSounds 4 = .ok (.istore 5, 2) := by decide +kernel
theorem dX0_readSounds_6 : decode cX0_readSounds 6 = .ok (.iload 5, 2) := by decide +kernel
theorem dX0_readSounds_8 : decode cX0_readSounds 8 = .ok (.iload_n 2, 1) := by decide +kernel
theorem dX0_readSounds_9 : decode cX0_readSounds 9 = .ok (.if_icmp .ge 31, 3) := by decide +kernel
theorem dX0_readSounds_12 : decode cX0_readSounds 12 = .ok (.aload_n 0, 1) := by decide +kernel
theorem dX0_readSounds_13 : decode cX0_readSounds 13 = .ok (.iload_n 1, 1) := by decide +kernel
theorem dX0_readSounds_14 : decode cX0_readSounds 14 = .ok (.iload 5, 2) := by decide +kernel
theorem dX0_readSounds_16 : decode cX0_readSounds 16 = .ok (.iadd, 1) := by decide +kernel
theorem dX0_readSounds_17 : decode cX0_readSounds 17 = .ok (.iaload, 1) := by decide +kernel
theorem dX0_readSounds_18 : decode cX0_readSounds 18 = .ok (.istore 6, 2) := by decide +kernel
theorem dX0_readSounds_20 : decode cX0_readSounds 20 = .ok (.iload 6, 2) := by decide +kernel
theorem dX0_readSounds_22 : decode cX0_readSounds 22 = .ok (.ifCond .eq 12, 3) := by decide +kernel
theorem dX0_readSounds_25 : decode cX0_readSounds 25 = .ok (.aload_n 3, 1) := by decide +kernel
theorem dX0_readSounds_26 : decode cX0_readSounds 26 = .ok (.iload 4, 2) := by decide +kernel
theorem dX0_readSounds_28 : decode cX0_readSounds 28 = .ok (.iload 6, 2) := by decide +kernel
theorem dX0_readSounds_30 : decode cX0_readSounds 30 = .ok (.iastore, 1) := by decide +kernel
theorem dX0_readSounds_31 : decode cX0_readSounds 31 = .ok (.iinc 4 1, 3) := by decide +kernel
theorem dX0_readSounds_34 : decode cX0_readSounds 34 = .ok (.iinc 5 1, 3) := by decide +kernel
theorem dX0_readSounds_37 : decode cX0_readSounds 37 = .ok (.goto (-31), 3) := by decide +kernel
theorem dX0_readSounds_40 : decode cX0_readSounds 40 = .ok (.iload 4, 2) := by decide +kernel
theorem dX0_readSounds_42 : decode cX0_readSounds 42 = .ok (.ireturn, 1) := by decide +kernel
theorem dX1_init_0 : decode cX1_init 0 = .ok (.aload_n 0, 1) := by decide +kernel
theorem dX1_init_1 : decode cX1_init 1 = .ok (.invokespecial 3, 3) := by decide +kernel
theorem dX1_init_4 : decode cX1_init 4 = .ok (.aload_n 0, 1) := by decide +kernel
theorem dX1_init_5 : decode cX1_init 5 = .ok (.new 9, 3) := by decide +kernel
theorem dX1_init_8 : decode cX1_init 8 = .ok (.dup, 1) := by decide +kernel
theorem dX1_init_9 : decode cX1_init 9 = .ok (.invokespecial 11, 3) := by decide +kernel
theorem dX1_init_12 : decode cX1_init 12 = .ok (.putfield 12, 3) := by decide +kernel
theorem dX1_init_15 : decode cX1_init 15 = .ok (.return_, 1) := by decide +kernel
theorem dX1_drawSets_0 : decode cX1_drawSets 0 = .ok (.aload_n 0, 1) := by decide +kernel
theorem dX1_drawSets_1 : decode cX1_drawSets 1 = .ok (.iload_n 2, 1) := by decide +kernel
theorem dX1_drawSets_2 : decode cX1_drawSets 2 = .ok (.putfield 18, 3) := by decide +kernel
theorem dX1_drawSets_5 : decode cX1_drawSets 5 = .ok (.aload_n 0, 1) := by decide +kernel
theorem dX1_drawSets_6 : decode cX1_drawSets 6 = .ok (.iconst 0, 1) := by decide +kernel
theorem dX1_drawSets_7 : decode cX1_drawSets 7 = .ok (.putfield 22, 3) := by decide +kernel
theorem dX1_drawSets_10 : decode cX1_drawSets 10 = .ok (.aload_n 0, 1) := by decide +kernel
theorem dX1_drawSets_11 : decode cX1_drawSets 11 = .ok (.iconst 0, 1) := by decide +kernel
theorem dX1_drawSets_12 : decode cX1_drawSets 12 = .ok (.putfield 25, 3) := by decide +kernel
theorem dX1_drawSets_15 : decode cX1_drawSets 15 = .ok (.aload_n 0, 1) := by decide +kernel
theorem dX1_drawSets_16 : decode cX1_drawSets 16 = .ok (.getfield 12, 3) := by decide +kernel
theorem dX1_drawSets_19 : decode cX1_drawSets 19 = .ok (.iconst 4, 1) := by decide +kernel
theorem dX1_drawSets_20 : decode cX1_drawSets 20 = .ok (.invokevirtual 28, 3) := by decide +kernel
theorem dX1_drawSets_23 : decode cX1_drawSets 23 = .ok (.iconst 0, 1) := by decide +kernel
theorem dX1_drawSets_24 : decode cX1_drawSets 24 = .ok (.istore_n 3, 1) := by decide +kernel
theorem dX1_drawSets_25 : decode cX1_drawSets 25 = .ok (.iload_n 3, 1) := by decide +kernel
theorem dX1_drawSets_26 : decode cX1_drawSets 26 = .ok (.iload_n 1, 1) := by decide +kernel
theorem dX1_drawSets_27 : decode cX1_drawSets 27 = .ok (.if_icmp .ge 86, 3) := by decide +kernel
theorem dX1_drawSets_30 : decode cX1_drawSets 30 = .ok (.iconst 0, 1) := by decide +kernel
theorem dX1_drawSets_31 : decode cX1_drawSets 31 = .ok (.istore 4, 2) := by decide +kernel
theorem dX1_drawSets_33 : decode cX1_drawSets 33 = .ok (.iload 4, 2) := by decide +kernel
theorem dX1_drawSets_35 : decode cX1_drawSets 35 = .ok (.iconst 4, 1) := by decide +kernel
theorem dX1_drawSets_36 : decode cX1_drawSets 36 = .ok (.if_icmp .ge 23, 3) := by decide +kernel
theorem dX1_drawSets_39 : decode cX1_drawSets 39 = .ok (.aload_n 0, 1) := by decide +kernel
theorem dX1_drawSets_40 : decode cX1_drawSets 40 = .ok (.getfield 12, 3) := by decide +kernel
theorem dX1_drawSets_43 : decode cX1_drawSets 43 = .ok (.getfield 32, 3) := by decide +kernel
theorem dX1_drawSets_46 : decode cX1_drawSets 46 = .ok (.iload 4, 2) := by decide +kernel
theorem dX1_drawSets_48 : decode cX1_drawSets 48 = .ok (.aload_n 0, 1) := by decide +kernel
theorem dX1_drawSets_49 : decode cX1_drawSets 49 = .ok (.invokevirtual 36, 3) := by decide +kernel
theorem dX1_drawSets_52 : decode cX1_drawSets 52 = .ok (.iastore, 1) := by decide +kernel
theorem dX1_drawSets_53 : decode cX1_drawSets 53 = .ok (.iinc 4 1, 3) := by decide +kernel
theorem dX1_drawSets_56 : decode cX1_drawSets 56 = .ok (.goto (-23), 3) := by decide +kernel
theorem dX1_drawSets_59 : decode cX1_drawSets 59 = .ok (.aload_n 0, 1) := by decide +kernel
theorem dX1_drawSets_60 : decode cX1_drawSets 60 = .ok (.dup, 1) := by decide +kernel
theorem dX1_drawSets_61 : decode cX1_drawSets 61 = .ok (.getfield 22, 3) := by decide +kernel
theorem dX1_drawSets_64 : decode cX1_drawSets 64 = .ok (.aload_n 0, 1) := by decide +kernel
theorem dX1_drawSets_65 : decode cX1_drawSets 65 = .ok (.getfield 12, 3) := by decide +kernel
theorem dX1_drawSets_68 : decode cX1_drawSets 68 = .ok (.invokevirtual 40, 3) := by decide +kernel
theorem dX1_drawSets_71 : decode cX1_drawSets 71 = .ok (.iadd, 1) := by decide +kernel
theorem dX1_drawSets_72 : decode cX1_drawSets 72 = .ok (.putfield 22, 3) := by decide +kernel
theorem dX1_drawSets_75 : decode cX1_drawSets 75 = .ok (.aload_n 0, 1) := by decide +kernel
theorem dX1_drawSets_76 : decode cX1_drawSets 76 = .ok (.aload_n 0, 1) := by decide +kernel
theorem dX1_drawSets_77 : decode cX1_drawSets 77 = .ok (.getfield 12, 3) := by decide +kernel
theorem dX1_drawSets_80 : decode cX1_drawSets 80 = .ok (.getfield 32, 3) := by decide +kernel
theorem dX1_drawSets_83 : decode cX1_drawSets 83 = .ok (.aload_n 0, 1) := by decide +kernel
theorem dX1_drawSets_84 : decode cX1_drawSets 84 = .ok (.getfield 12, 3) := by decide +kernel
theorem dX1_drawSets_87 : decode cX1_drawSets 87 = .ok (.invokevirtual 43, 3) := by decide +kernel
theorem dX1_drawSets_90 : decode cX1_drawSets 90 = .ok (.iaload, 1) := by decide +kernel
theorem dX1_drawSets_91 : decode cX1_drawSets 91 = .ok (.invokevirtual 46, 3) := by decide +kernel
theorem dX1_drawSets_94 : decode cX1_drawSets 94 = .ok (.ifCond .eq 13, 3) := by decide +kernel
theorem dX1_drawSets_97 : decode cX1_drawSets 97 = .ok (.aload_n 0, 1) := by decide +kernel
theorem dX1_drawSets_98 : decode cX1_drawSets 98 = .ok (.dup, 1) := by decide +kernel
theorem dX1_drawSets_99 : decode cX1_drawSets 99 = .ok (.getfield 25, 3) := by decide +kernel
theorem dX1_drawSets_102 : decode cX1_drawSets 102 = .ok (.iconst 1, 1) := by decide +kernel
theorem dX1_drawSets_103 : decode cX1_drawSets 103 = .ok (.iadd, 1) := by decide +kernel
theorem dX1_drawSets_104 : decode cX1_drawSets 104 = .ok (.putfield 25, 3) := by decide +kernel
theorem dX1_drawSets_107 : decode cX1_drawSets 107 = .ok (.iinc 3 1, 3) := by decide +kernel
theorem dX1_drawSets_110 : decode cX1_drawSets 110 = .ok (.goto (-85), 3) := by decide +kernel
theorem dX1_drawSets_113 : decode cX1_drawSets 113 = .ok (.return_, 1) := by decide +kernel
theorem dX1_drawSound_0 : decode cX1_drawSound 0 = .ok (.aload_n 0, 1) := by decide +kernel
theorem dX1_drawSound_1 : decode cX1_drawSound 1 = .ok (.ldc2_w 50, 3) := by decide +kernel
theorem dX1_drawSound_4 : decode cX1_drawSound 4 = .ok (.aload_n 0, 1) := by decide +kernel
theorem dX1_drawSound_5 : decode cX1_drawSound 5 = .ok (.getfield 18, 3) := by decide +kernel
theorem dX1_drawSound_8 : decode cX1_drawSound 8 = .ok (.i2l, 1) := by decide +kernel
theorem dX1_drawSound_9 : decode cX1_drawSound 9 = .ok (.lmul, 1) := by decide +kernel
theorem dX1_drawSound_10 : decode cX1_drawSound 10 = .ok (.ldc2_w 52, 3) := by decide +kernel
theorem dX1_drawSound_13 : decode cX1_drawSound 13 = .ok (.ladd, 1) := by decide +kernel
theorem dX1_drawSound_14 : decode cX1_drawSound 14 = .ok (.ldc2_w 54, 3) := by decide +kernel
theorem dX1_drawSound_17 : decode cX1_drawSound 17 = .ok (.lrem, 1) := by decide +kernel
theorem dX1_drawSound_18 : decode cX1_drawSound 18 = .ok (.l2i, 1) := by decide +kernel
theorem dX1_drawSound_19 : decode cX1_drawSound 19 = .ok (.putfield 18, 3) := by decide +kernel
theorem dX1_drawSound_22 : decode cX1_drawSound 22 = .ok (.aload_n 0, 1) := by decide +kernel
theorem dX1_drawSound_23 : decode cX1_drawSound 23 = .ok (.getfield 18, 3) := by decide +kernel
theorem dX1_drawSound_26 : decode cX1_drawSound 26 = .ok (.ldc 56, 2) := by decide +kernel
theorem dX1_drawSound_28 : decode cX1_drawSound 28 = .ok (.idiv, 1) := by decide +kernel
theorem dX1_drawSound_29 : decode cX1_drawSound 29 = .ok (.bipush 9, 2) := by decide +kernel
theorem dX1_drawSound_31 : decode cX1_drawSound 31 = .ok (.irem, 1) := by decide +kernel
theorem dX1_drawSound_32 : decode cX1_drawSound 32 = .ok (.ireturn, 1) := by decide +kernel
theorem dX1_isForeign_0 : decode cX1_isForeign 0 = .ok (.iconst 0, 1) := by decide +kernel
theorem dX1_isForeign_1 : decode cX1_isForeign 1 = .ok (.istore_n 2, 1) := by decide +kernel
theorem dX1_isForeign_2 : decode cX1_isForeign 2 = .ok (.iload_n 2, 1) := by decide +kernel
theorem dX1_isForeign_3 : decode cX1_isForeign 3 = .ok (.iconst 4, 1) := by decide +kernel
theorem dX1_isForeign_4 : decode cX1_isForeign 4 = .ok (.if_icmp .ge 24, 3) := by decide +kernel
theorem dX1_isForeign_7 : decode cX1_isForeign 7 = .ok (.aload_n 0, 1) := by decide +kernel
theorem dX1_isForeign_8 : decode cX1_isForeign 8 = .ok (.getfield 12, 3) := by decide +kernel
theorem dX1_isForeign_11 : decode cX1_isForeign 11 = .ok (.getfield 32, 3) := by decide +kernel
theorem dX1_isForeign_14 : decode cX1_isForeign 14 = .ok (.iload_n 2, 1) := by decide +kernel
theorem dX1_isForeign_15 : decode cX1_isForeign 15 = .ok (.iaload, 1) := by decide +kernel
theorem dX1_isForeign_16 : decode cX1_isForeign 16 = .ok (.iload_n 1, 1) := by decide +kernel
theorem dX1_isForeign_17 : decode cX1_isForeign 17 = .ok (.if_icmp .ne 5, 3) := by decide +kernel
theorem dX1_isForeign_20 : decode cX1_isForeign 20 = .ok (.iconst 0, 1) := by decide +kernel
theorem dX1_isForeign_21 : decode cX1_isForeign 21 = .ok (.ireturn, 1) := by decide +kernel
theorem dX1_isForeign_22 : decode cX1_isForeign 22 = .ok (.iinc 2 1, 3) := by decide +kernel
theorem dX1_isForeign_25 : decode cX1_isForeign 25 = .ok (.goto (-23), 3) := by decide +kernel
theorem dX1_isForeign_28 : decode cX1_isForeign 28 = .ok (.iconst 1, 1) := by decide +kernel
theorem dX1_isForeign_29 : decode cX1_isForeign 29 = .ok (.ireturn, 1) := by decide +kernel
theorem dX2_init_0 : decode cX2_init 0 = .ok (.aload_n 0, 1) := by decide +kernel
theorem dX2_init_1 : decode cX2_init 1 = .ok (.invokespecial 3, 3) := by decide +kernel
theorem dX2_init_4 : decode cX2_init 4 = .ok (.aload_n 0, 1) := by decide +kernel
theorem dX2_init_5 : decode cX2_init 5 = .ok (.bipush 72, 2) := by decide +kernel
theorem dX2_init_7 : decode cX2_init 7 = .ok (.newarray .int, 2) := by decide +kernel
theorem dX2_init_9 : decode cX2_init 9 = .ok (.putfield 9, 3) := by decide +kernel
theorem dX2_init_12 : decode cX2_init 12 = .ok (.aload_n 0, 1) := by decide +kernel
theorem dX2_init_13 : decode cX2_init 13 = .ok (.bipush 72, 2) := by decide +kernel
theorem dX2_init_15 : decode cX2_init 15 = .ok (.newarray .int, 2) := by decide +kernel
theorem dX2_init_17 : decode cX2_init 17 = .ok (.putfield 15, 3) := by decide +kernel
theorem dX2_init_20 : decode cX2_init 20 = .ok (.aload_n 0, 1) := by decide +kernel
theorem dX2_init_21 : decode cX2_init 21 = .ok (.bipush 72, 2) := by decide +kernel
theorem dX2_init_23 : decode cX2_init 23 = .ok (.newarray .int, 2) := by decide +kernel
theorem dX2_init_25 : decode cX2_init 25 = .ok (.putfield 18, 3) := by decide +kernel
theorem dX2_init_28 : decode cX2_init 28 = .ok (.aload_n 0, 1) := by decide +kernel
theorem dX2_init_29 : decode cX2_init 29 = .ok (.sipush 648, 3) := by decide +kernel
theorem dX2_init_32 : decode cX2_init 32 = .ok (.newarray .int, 2) := by decide +kernel
theorem dX2_init_34 : decode cX2_init 34 = .ok (.putfield 21, 3) := by decide +kernel
theorem dX2_init_37 : decode cX2_init 37 = .ok (.return_, 1) := by decide +kernel
theorem dX2_clear_0 : decode cX2_clear 0 = .ok (.aload_n 0, 1) := by decide +kernel
theorem dX2_clear_1 : decode cX2_clear 1 = .ok (.getfield 21, 3) := by decide +kernel
theorem dX2_clear_4 : decode cX2_clear 4 = .ok (.iconst 0, 1) := by decide +kernel
theorem dX2_clear_5 : decode cX2_clear 5 = .ok (.invokestatic 24, 3) := by decide +kernel
theorem dX2_clear_8 : decode cX2_clear 8 = .ok (.return_, 1) := by decide +kernel
theorem dX2_weigh_0 : decode cX2_weigh 0 = .ok (.aload_n 0, 1) := by decide +kernel
theorem dX2_weigh_1 : decode cX2_weigh 1 = .ok (.getfield 21, 3) := by decide +kernel
theorem dX2_weigh_4 : decode cX2_weigh 4 = .ok (.iload_n 1, 1) := by decide +kernel
theorem dX2_weigh_5 : decode cX2_weigh 5 = .ok (.bipush 9, 2) := by decide +kernel
theorem dX2_weigh_7 : decode cX2_weigh 7 = .ok (.imul, 1) := by decide +kernel
theorem dX2_weigh_8 : decode cX2_weigh 8 = .ok (.iload_n 2, 1) := by decide +kernel
theorem dX2_weigh_9 : decode cX2_weigh 9 = .ok (.iadd, 1) := by decide +kernel
theorem dX2_weigh_10 : decode cX2_weigh 10 = .ok (.dup2, 1) := by decide +kernel
theorem dX2_weigh_11 : decode cX2_weigh 11 = .ok (.iaload, 1) := by decide +kernel
theorem dX2_weigh_12 : decode cX2_weigh 12 = .ok (.iload_n 3, 1) := by decide +kernel
theorem dX2_weigh_13 : decode cX2_weigh 13 = .ok (.iadd, 1) := by decide +kernel
theorem dX2_weigh_14 : decode cX2_weigh 14 = .ok (.iastore, 1) := by decide +kernel
theorem dX2_weigh_15 : decode cX2_weigh 15 = .ok (.return_, 1) := by decide +kernel
theorem dX2_tell_0 : decode cX2_tell 0 = .ok (.iload_n 2, 1) := by decide +kernel
theorem dX2_tell_1 : decode cX2_tell 1 = .ok (.lookupswitch 41 #[(0, 27), (1, 34)], 27) := by decide +kernel
theorem dX2_tell_28 : decode cX2_tell 28 = .ok (.aload_n 0, 1) := by decide +kernel
theorem dX2_tell_29 : decode cX2_tell 29 = .ok (.getfield 9, 3) := by decide +kernel
theorem dX2_tell_32 : decode cX2_tell 32 = .ok (.iload_n 1, 1) := by decide +kernel
theorem dX2_tell_33 : decode cX2_tell 33 = .ok (.iaload, 1) := by decide +kernel
theorem dX2_tell_34 : decode cX2_tell 34 = .ok (.ireturn, 1) := by decide +kernel
theorem dX2_tell_35 : decode cX2_tell 35 = .ok (.aload_n 0, 1) := by decide +kernel
theorem dX2_tell_36 : decode cX2_tell 36 = .ok (.getfield 15, 3) := by decide +kernel
theorem dX2_tell_39 : decode cX2_tell 39 = .ok (.iload_n 1, 1) := by decide +kernel
theorem dX2_tell_40 : decode cX2_tell 40 = .ok (.iaload, 1) := by decide +kernel
theorem dX2_tell_41 : decode cX2_tell 41 = .ok (.ireturn, 1) := by decide +kernel
theorem dX2_tell_42 : decode cX2_tell 42 = .ok (.aload_n 0, 1) := by decide +kernel
theorem dX2_tell_43 : decode cX2_tell 43 = .ok (.getfield 18, 3) := by decide +kernel
theorem dX2_tell_46 : decode cX2_tell 46 = .ok (.iload_n 1, 1) := by decide +kernel
theorem dX2_tell_47 : decode cX2_tell 47 = .ok (.iaload, 1) := by decide +kernel
theorem dX2_tell_48 : decode cX2_tell 48 = .ok (.ireturn, 1) := by decide +kernel
theorem dX2_settle_0 : decode cX2_settle 0 = .ok (.aload_n 0, 1) := by decide +kernel
theorem dX2_settle_1 : decode cX2_settle 1 = .ok (.iconst 0, 1) := by decide +kernel
theorem dX2_settle_2 : decode cX2_settle 2 = .ok (.putfield 30, 3) := by decide +kernel
theorem dX2_settle_5 : decode cX2_settle 5 = .ok (.aload_n 0, 1) := by decide +kernel
theorem dX2_settle_6 : decode cX2_settle 6 = .ok (.iconst 0, 1) := by decide +kernel
theorem dX2_settle_7 : decode cX2_settle 7 = .ok (.putfield 34, 3) := by decide +kernel
theorem dX2_settle_10 : decode cX2_settle 10 = .ok (.iconst 0, 1) := by decide +kernel
theorem dX2_settle_11 : decode cX2_settle 11 = .ok (.istore_n 2, 1) := by decide +kernel
theorem dX2_settle_12 : decode cX2_settle 12 = .ok (.iload_n 2, 1) := by decide +kernel
theorem dX2_settle_13 : decode cX2_settle 13 = .ok (.iload_n 1, 1) := by decide +kernel
theorem dX2_settle_14 : decode cX2_settle 14 = .ok (.bipush 9, 2) := by decide +kernel
theorem dX2_settle_16 : decode cX2_settle 16 = .ok (.imul, 1) := by decide +kernel
theorem dX2_settle_17 : decode cX2_settle 17 = .ok (.iconst 2, 1) := by decide +kernel
theorem dX2_settle_18 : decode cX2_settle 18 = .ok (.imul, 1) := by decide +kernel
theorem dX2_settle_19 : decode cX2_settle 19 = .ok (.if_icmp .ge 49, 3) := by decide +kernel
theorem dX2_settle_22 : decode cX2_settle 22 = .ok (.aload_n 0, 1) := by decide +kernel
theorem dX2_settle_23 : decode cX2_settle 23 = .ok (.iload_n 2, 1) := by decide +kernel
theorem dX2_settle_24 : decode cX2_settle 24 = .ok (.invokevirtual 37, 3) := by decide +kernel
theorem dX2_settle_27 : decode cX2_settle 27 = .ok (.aload_n 0, 1) := by decide +kernel
theorem dX2_settle_28 : decode cX2_settle 28 = .ok (.getfield 9, 3) := by decide +kernel
theorem dX2_settle_31 : decode cX2_settle 31 = .ok (.iload_n 2, 1) := by decide +kernel
theorem dX2_settle_32 : decode cX2_settle 32 = .ok (.iaload, 1) := by decide +kernel
theorem dX2_settle_33 : decode cX2_settle 33 = .ok (.iconst (-1), 1) := by decide +kernel
theorem dX2_settle_34 : decode cX2_settle 34 = .ok (.if_icmp .eq 13, 3) := by decide +kernel
theorem dX2_settle_37 : decode cX2_settle 37 = .ok (.aload_n 0, 1) := by decide +kernel
theorem dX2_settle_38 : decode cX2_settle 38 = .ok (.dup, 1) := by decide +kernel
theorem dX2_settle_39 : decode cX2_settle 39 = .ok (.getfield 30, 3) := by decide +kernel
theorem dX2_settle_42 : decode cX2_settle 42 = .ok (.iconst 1, 1) := by decide +kernel
theorem dX2_settle_43 : decode cX2_settle 43 = .ok (.iadd, 1) := by decide +kernel
theorem dX2_settle_44 : decode cX2_settle 44 = .ok (.putfield 30, 3) := by decide +kernel
theorem dX2_settle_47 : decode cX2_settle 47 = .ok (.aload_n 0, 1) := by decide +kernel
theorem dX2_settle_48 : decode cX2_settle 48 = .ok (.dup, 1) := by decide +kernel
theorem dX2_settle_49 : decode cX2_settle 49 = .ok (.getfield 34, 3) := by decide +kernel
theorem dX2_settle_52 : decode cX2_settle 52 = .ok (.aload_n 0, 1) := by decide +kernel
theorem dX2_settle_53 : decode cX2_settle 53 = .ok (.getfield 18, 3) := by decide +kernel
theorem dX2_settle_56 : decode cX2_settle 56 = .ok (.iload_n 2, 1) := by decide +kernel
theorem dX2_settle_57 : decode cX2_settle 57 = .ok (.iaload, 1) := by decide +kernel
theorem dX2_settle_58 : decode cX2_settle 58 = .ok (.iadd, 1) := by decide +kernel
theorem dX2_settle_59 : decode cX2_settle 59 = .ok (.putfield 34, 3) := by decide +kernel
theorem dX2_settle_62 : decode cX2_settle 62 = .ok (.iinc 2 1, 3) := by decide +kernel
theorem dX2_settle_65 : decode cX2_settle 65 = .ok (.goto (-53), 3) := by decide +kernel
theorem dX2_settle_68 : decode cX2_settle 68 = .ok (.return_, 1) := by decide +kernel
theorem dX2_settleLaw_0 : decode cX2_settleLaw 0 = .ok (.iconst (-1), 1) := by decide +kernel
theorem dX2_settleLaw_1 : decode cX2_settleLaw 1 = .ok (.istore_n 2, 1) := by decide +kernel
theorem dX2_settleLaw_2 : decode cX2_settleLaw 2 = .ok (.iconst 0, 1) := by decide +kernel
theorem dX2_settleLaw_3 : decode cX2_settleLaw 3 = .ok (.istore_n 3, 1) := by decide +kernel
theorem dX2_settleLaw_4 : decode cX2_settleLaw 4 = .ok (.iconst 0, 1) := by decide +kernel
theorem dX2_settleLaw_5 : decode cX2_settleLaw 5 = .ok (.istore 4, 2) := by decide +kernel
theorem dX2_settleLaw_7 : decode cX2_settleLaw 7 = .ok (.iconst 0, 1) := by decide +kernel
theorem dX2_settleLaw_8 : decode cX2_settleLaw 8 = .ok (.istore 5, 2) := by decide +kernel
theorem dX2_settleLaw_10 : decode cX2_settleLaw 10 = .ok (.iload 5, 2) := by decide +kernel
theorem dX2_settleLaw_12 : decode cX2_settleLaw 12 = .ok (.bipush 9, 2) := by decide +kernel
theorem dX2_settleLaw_14 : decode cX2_settleLaw 14 = .ok (.if_icmp .ge 42, 3) := by decide +kernel
theorem dX2_settleLaw_17 : decode cX2_settleLaw 17 = .ok (.aload_n 0, 1) := by decide +kernel
theorem dX2_settleLaw_18 : decode cX2_settleLaw 18 = .ok (.getfield 21, 3) := by decide +kernel
theorem dX2_settleLaw_21 : decode cX2_settleLaw 21 = .ok (.iload_n 1, 1) := by decide +kernel
theorem dX2_settleLaw_22 : decode cX2_settleLaw 22 = .ok (.bipush 9, 2) := by decide +kernel
theorem dX2_settleLaw_24 : decode cX2_settleLaw 24 = .ok (.imul, 1) := by decide +kernel
theorem dX2_settleLaw_25 : decode cX2_settleLaw 25 = .ok (.iload 5, 2) := by decide +kernel
theorem dX2_settleLaw_27 : decode cX2_settleLaw 27 = .ok (.iadd, 1) := by decide +kernel
theorem dX2_settleLaw_28 : decode cX2_settleLaw 28 = .ok (.iaload, 1) := by decide +kernel
theorem dX2_settleLaw_29 : decode cX2_settleLaw 29 = .ok (.istore 6, 2) := by decide +kernel
theorem dX2_settleLaw_31 : decode cX2_settleLaw 31 = .ok (.iload 4, 2) := by decide +kernel
theorem dX2_settleLaw_33 : decode cX2_settleLaw 33 = .ok (.iload 6, 2) := by decide +kernel
theorem dX2_settleLaw_35 : decode cX2_settleLaw 35 = .ok (.iadd, 1) := by decide +kernel
theorem dX2_settleLaw_36 : decode cX2_settleLaw 36 = .ok (.istore 4, 2) := by decide +kernel
theorem dX2_settleLaw_38 : decode cX2_settleLaw 38 = .ok (.iload 6, 2) := by decide +kernel
theorem dX2_settleLaw_40 : decode cX2_settleLaw 40 = .ok (.iload_n 3, 1) := by decide +kernel
theorem dX2_settleLaw_41 : decode cX2_settleLaw 41 = .ok (.if_icmp .le 9, 3) := by decide +kernel
theorem dX2_settleLaw_44 : decode cX2_settleLaw 44 = .ok (.iload 6, 2) := by decide +kernel
theorem dX2_settleLaw_46 : decode cX2_settleLaw 46 = .ok (.istore_n 3, 1) := by decide +kernel
theorem dX2_settleLaw_47 : decode cX2_settleLaw 47 = .ok (.iload 5, 2) := by decide +kernel
theorem dX2_settleLaw_49 : decode cX2_settleLaw 49 = .ok (.istore_n 2, 1) := by decide +kernel
theorem dX2_settleLaw_50 : decode cX2_settleLaw 50 = .ok (.iinc 5 1, 3) := by decide +kernel
theorem dX2_settleLaw_53 : decode cX2_settleLaw 53 = .ok (.goto (-43), 3) := by decide +kernel
theorem dX2_settleLaw_56 : decode cX2_settleLaw 56 = .ok (.aload_n 0, 1) := by decide +kernel
theorem dX2_settleLaw_57 : decode cX2_settleLaw 57 = .ok (.getfield 9, 3) := by decide +kernel
theorem dX2_settleLaw_60 : decode cX2_settleLaw 60 = .ok (.iload_n 1, 1) := by decide +kernel
theorem dX2_settleLaw_61 : decode cX2_settleLaw 61 = .ok (.iload_n 2, 1) := by decide +kernel
theorem dX2_settleLaw_62 : decode cX2_settleLaw 62 = .ok (.iastore, 1) := by decide +kernel
theorem dX2_settleLaw_63 : decode cX2_settleLaw 63 = .ok (.aload_n 0, 1) := by decide +kernel
theorem dX2_settleLaw_64 : decode cX2_settleLaw 64 = .ok (.getfield 15, 3) := by decide +kernel
theorem dX2_settleLaw_67 : decode cX2_settleLaw 67 = .ok (.iload_n 1, 1) := by decide +kernel
theorem dX2_settleLaw_68 : decode cX2_settleLaw 68 = .ok (.iload_n 3, 1) := by decide +kernel
theorem dX2_settleLaw_69 : decode cX2_settleLaw 69 = .ok (.iastore, 1) := by decide +kernel
theorem dX2_settleLaw_70 : decode cX2_settleLaw 70 = .ok (.aload_n 0, 1) := by decide +kernel
theorem dX2_settleLaw_71 : decode cX2_settleLaw 71 = .ok (.getfield 18, 3) := by decide +kernel
theorem dX2_settleLaw_74 : decode cX2_settleLaw 74 = .ok (.iload_n 1, 1) := by decide +kernel
theorem dX2_settleLaw_75 : decode cX2_settleLaw 75 = .ok (.iload 4, 2) := by decide +kernel
theorem dX2_settleLaw_77 : decode cX2_settleLaw 77 = .ok (.iload_n 3, 1) := by decide +kernel
theorem dX2_settleLaw_78 : decode cX2_settleLaw 78 = .ok (.isub, 1) := by decide +kernel
theorem dX2_settleLaw_79 : decode cX2_settleLaw 79 = .ok (.iastore, 1) := by decide +kernel
theorem dX2_settleLaw_80 : decode cX2_settleLaw 80 = .ok (.return_, 1) := by decide +kernel
theorem dX3_init_0 : decode cX3_init 0 = .ok (.aload_n 0, 1) := by decide +kernel
theorem dX3_init_1 : decode cX3_init 1 = .ok (.invokespecial 3, 3) := by decide +kernel
theorem dX3_init_4 : decode cX3_init 4 = .ok (.aload_n 0, 1) := by decide +kernel
theorem dX3_init_5 : decode cX3_init 5 = .ok (.new 9, 3) := by decide +kernel
theorem dX3_init_8 : decode cX3_init 8 = .ok (.dup, 1) := by decide +kernel
theorem dX3_init_9 : decode cX3_init 9 = .ok (.invokespecial 11, 3) := by decide +kernel
theorem dX3_init_12 : decode cX3_init 12 = .ok (.putfield 12, 3) := by decide +kernel
theorem dX3_init_15 : decode cX3_init 15 = .ok (.return_, 1) := by decide +kernel
theorem dX3_start_0 : decode cX3_start 0 = .ok (.aload_n 0, 1) := by decide +kernel
theorem dX3_start_1 : decode cX3_start 1 = .ok (.getfield 12, 3) := by decide +kernel
theorem dX3_start_4 : decode cX3_start 4 = .ok (.iconst 0, 1) := by decide +kernel
theorem dX3_start_5 : decode cX3_start 5 = .ok (.putfield 18, 3) := by decide +kernel
theorem dX3_start_8 : decode cX3_start 8 = .ok (.aload_n 0, 1) := by decide +kernel
theorem dX3_start_9 : decode cX3_start 9 = .ok (.getfield 12, 3) := by decide +kernel
theorem dX3_start_12 : decode cX3_start 12 = .ok (.iconst 0, 1) := by decide +kernel
theorem dX3_start_13 : decode cX3_start 13 = .ok (.putfield 22, 3) := by decide +kernel
theorem dX3_start_16 : decode cX3_start 16 = .ok (.aload_n 0, 1) := by decide +kernel
theorem dX3_start_17 : decode cX3_start 17 = .ok (.iconst 1, 1) := by decide +kernel
theorem dX3_start_18 : decode cX3_start 18 = .ok (.putfield 25, 3) := by decide +kernel
theorem dX3_start_21 : decode cX3_start 21 = .ok (.aload_n 0, 1) := by decide +kernel
theorem dX3_start_22 : decode cX3_start 22 = .ok (.iconst 0, 1) := by decide +kernel
theorem dX3_start_23 : decode cX3_start 23 = .ok (.putfield 29, 3) := by decide +kernel
theorem dX3_start_26 : decode cX3_start 26 = .ok (.return_, 1) := by decide +kernel
theorem dX3_accepts_0 : decode cX3_accepts 0 = .ok (.aload_n 0, 1) := by decide +kernel
theorem dX3_accepts_1 : decode cX3_accepts 1 = .ok (.getfield 25, 3) := by decide +kernel
theorem dX3_accepts_4 : decode cX3_accepts 4 = .ok (.ifCond .eq 15, 3) := by decide +kernel
theorem dX3_accepts_7 : decode cX3_accepts 7 = .ok (.aload_n 0, 1) := by decide +kernel
theorem dX3_accepts_8 : decode cX3_accepts 8 = .ok (.ldc 32, 2) := by decide +kernel
theorem dX3_accepts_10 : decode cX3_accepts 10 = .ok (.iload_n 1, 1) := by decide +kernel
theorem dX3_accepts_11 : decode cX3_accepts 11 = .ok (.i2c, 1) := by decide +kernel
theorem dX3_accepts_12 : decode cX3_accepts 12 = .ok (.invokevirtual 34, 3) := by decide +kernel
theorem dX3_accepts_15 : decode cX3_accepts 15 = .ok (.invokevirtual 40, 3) := by decide +kernel
theorem dX3_accepts_18 : decode cX3_accepts 18 = .ok (.ireturn, 1) := by decide +kernel
theorem dX3_accepts_19 : decode cX3_accepts 19 = .ok (.iload_n 1, 1) := by decide +kernel
theorem dX3_accepts_20 : decode cX3_accepts 20 = .ok (.bipush 47, 2) := by decide +kernel
theorem dX3_accepts_22 : decode cX3_accepts 22 = .ok (.if_icmp .ne 8, 3) := by decide +kernel
theorem dX3_accepts_25 : decode cX3_accepts 25 = .ok (.aload_n 0, 1) := by decide +kernel
theorem dX3_accepts_26 : decode cX3_accepts 26 = .ok (.invokevirtual 44, 3) := by decide +kernel
theorem dX3_accepts_29 : decode cX3_accepts 29 = .ok (.ireturn, 1) := by decide +kernel
theorem dX3_accepts_30 : decode cX3_accepts 30 = .ok (.iload_n 1, 1) := by decide +kernel
theorem dX3_accepts_31 : decode cX3_accepts 31 = .ok (.bipush 44, 2) := by decide +kernel
theorem dX3_accepts_33 : decode cX3_accepts 33 = .ok (.if_icmp .ne 8, 3) := by decide +kernel
theorem dX3_accepts_36 : decode cX3_accepts 36 = .ok (.aload_n 0, 1) := by decide +kernel
theorem dX3_accepts_37 : decode cX3_accepts 37 = .ok (.invokevirtual 48, 3) := by decide +kernel
theorem dX3_accepts_40 : decode cX3_accepts 40 = .ok (.ireturn, 1) := by decide +kernel
theorem dX3_accepts_41 : decode cX3_accepts 41 = .ok (.aload_n 0, 1) := by decide +kernel
theorem dX3_accepts_42 : decode cX3_accepts 42 = .ok (.ldc 51, 2) := by decide +kernel
theorem dX3_accepts_44 : decode cX3_accepts 44 = .ok (.iload_n 1, 1) := by decide +kernel
theorem dX3_accepts_45 : decode cX3_accepts 45 = .ok (.i2c, 1) := by decide +kernel
theorem dX3_accepts_46 : decode cX3_accepts 46 = .ok (.invokevirtual 34, 3) := by decide +kernel
theorem dX3_accepts_49 : decode cX3_accepts 49 = .ok (.invokevirtual 53, 3) := by decide +kernel
theorem dX3_accepts_52 : decode cX3_accepts 52 = .ok (.ireturn, 1) := by decide +kernel
theorem dX3_finish_0 : decode cX3_finish 0 = .ok (.aload_n 0, 1) := by decide +kernel
theorem dX3_finish_1 : decode cX3_finish 1 = .ok (.getfield 25, 3) := by decide +kernel
theorem dX3_finish_4 : decode cX3_finish 4 = .ok (.ifCond .ne 10, 3) := by decide +kernel
theorem dX3_finish_7 : decode cX3_finish 7 = .ok (.aload_n 0, 1) := by decide +kernel
theorem dX3_finish_8 : decode cX3_finish 8 = .ok (.invokevirtual 56, 3) := by decide +kernel
theorem dX3_finish_11 : decode cX3_finish 11 = .ok (.ifCond .ne 5, 3) := by decide +kernel
theorem dX3_finish_14 : decode cX3_finish 14 = .ok (.iconst 0, 1) := by decide +kernel
theorem dX3_finish_15 : decode cX3_finish 15 = .ok (.ireturn, 1) := by decide +kernel
theorem dX3_finish_16 : decode cX3_finish 16 = .ok (.aload_n 0, 1) := by decide +kernel
theorem dX3_finish_17 : decode cX3_finish 17 = .ok (.invokevirtual 59, 3) := by decide +kernel
theorem dX3_finish_20 : decode cX3_finish 20 = .ok (.aload_n 0, 1) := by decide +kernel
theorem dX3_finish_21 : decode cX3_finish 21 = .ok (.getfield 12, 3) := by decide +kernel
theorem dX3_finish_24 : decode cX3_finish 24 = .ok (.aload_n 0, 1) := by decide +kernel
theorem dX3_finish_25 : decode cX3_finish 25 = .ok (.getfield 62, 3) := by decide +kernel
theorem dX3_finish_28 : decode cX3_finish 28 = .ok (.iconst 1, 1) := by decide +kernel
theorem dX3_finish_29 : decode cX3_finish 29 = .ok (.iadd, 1) := by decide +kernel
theorem dX3_finish_30 : decode cX3_finish 30 = .ok (.putfield 22, 3) := by decide +kernel
theorem dX3_finish_33 : decode cX3_finish 33 = .ok (.aload_n 0, 1) := by decide +kernel
theorem dX3_finish_34 : decode cX3_finish 34 = .ok (.getfield 29, 3) := by decide +kernel
theorem dX3_finish_37 : decode cX3_finish 37 = .ok (.ifCond .ne 7, 3) := by decide +kernel
theorem dX3_finish_40 : decode cX3_finish 40 = .ok (.iconst 1, 1) := by decide +kernel
theorem dX3_finish_41 : decode cX3_finish 41 = .ok (.goto 4, 3) := by decide +kernel
theorem dX3_finish_44 : decode cX3_finish 44 = .ok (.iconst 0, 1) := by decide +kernel
theorem dX3_finish_45 : decode cX3_finish 45 = .ok (.ireturn, 1) := by decide +kernel
theorem dX3_acceptsKind_0 : decode cX3_acceptsKind 0 = .ok (.iload_n 1, 1) := by decide +kernel
theorem dX3_acceptsKind_1 : decode cX3_acceptsKind 1 = .ok (.ifCond .ge 5, 3) := by decide +kernel
theorem dX3_acceptsKind_4 : decode cX3_acceptsKind 4 = .ok (.iconst 0, 1) := by decide +kernel
theorem dX3_acceptsKind_5 : decode cX3_acceptsKind 5 = .ok (.ireturn, 1) := by decide +kernel
theorem dX3_acceptsKind_6 : decode cX3_acceptsKind 6 = .ok (.aload_n 0, 1) := by decide +kernel
theorem dX3_acceptsKind_7 : decode cX3_acceptsKind 7 = .ok (.aload_n 0, 1) := by decide +kernel
theorem dX3_acceptsKind_8 : decode cX3_acceptsKind 8 = .ok (.getfield 12, 3) := by decide +kernel
theorem dX3_acceptsKind_11 : decode cX3_acceptsKind 11 = .ok (.getfield 18, 3) := by decide +kernel
theorem dX3_acceptsKind_14 : decode cX3_acceptsKind 14 = .ok (.putfield 65, 3) := by decide +kernel
theorem dX3_acceptsKind_17 : decode cX3_acceptsKind 17 = .ok (.aload_n 0, 1) := by decide +kernel
theorem dX3_acceptsKind_18 : decode cX3_acceptsKind 18 = .ok (.getfield 12, 3) := by decide +kernel
theorem dX3_acceptsKind_21 : decode cX3_acceptsKind 21 = .ok (.dup, 1) := by decide +kernel
theorem dX3_acceptsKind_22 : decode cX3_acceptsKind 22 = .ok (.getfield 18, 3) := by decide +kernel
theorem dX3_acceptsKind_25 : decode cX3_acceptsKind 25 = .ok (.iconst 1, 1) := by decide +kernel
theorem dX3_acceptsKind_26 : decode cX3_acceptsKind 26 = .ok (.iadd, 1) := by decide +kernel
theorem dX3_acceptsKind_27 : decode cX3_acceptsKind 27 = .ok (.putfield 18, 3) := by decide +kernel
theorem dX3_acceptsKind_30 : decode cX3_acceptsKind 30 = .ok (.aload_n 0, 1) := by decide +kernel
theorem dX3_acceptsKind_31 : decode cX3_acceptsKind 31 = .ok (.getfield 12, 3) := by decide +kernel
theorem dX3_acceptsKind_34 : decode cX3_acceptsKind 34 = .ok (.getfield 68, 3) := by decide +kernel
theorem dX3_acceptsKind_37 : decode cX3_acceptsKind 37 = .ok (.aload_n 0, 1) := by decide +kernel
theorem dX3_acceptsKind_38 : decode cX3_acceptsKind 38 = .ok (.getfield 65, 3) := by decide +kernel
theorem dX3_acceptsKind_41 : decode cX3_acceptsKind 41 = .ok (.iload_n 1, 1) := by decide +kernel
theorem dX3_acceptsKind_42 : decode cX3_acceptsKind 42 = .ok (.iastore, 1) := by decide +kernel
theorem dX3_acceptsKind_43 : decode cX3_acceptsKind 43 = .ok (.aload_n 0, 1) := by decide +kernel
theorem dX3_acceptsKind_44 : decode cX3_acceptsKind 44 = .ok (.iconst 0, 1) := by decide +kernel
theorem dX3_acceptsKind_45 : decode cX3_acceptsKind 45 = .ok (.putfield 62, 3) := by decide +kernel
theorem dX3_acceptsKind_48 : decode cX3_acceptsKind 48 = .ok (.aload_n 0, 1) := by decide +kernel
theorem dX3_acceptsKind_49 : decode cX3_acceptsKind 49 = .ok (.invokevirtual 72, 3) := by decide +kernel
theorem dX3_acceptsKind_52 : decode cX3_acceptsKind 52 = .ok (.aload_n 0, 1) := by decide +kernel
theorem dX3_acceptsKind_53 : decode cX3_acceptsKind 53 = .ok (.iconst 0, 1) := by decide +kernel
theorem dX3_acceptsKind_54 : decode cX3_acceptsKind 54 = .ok (.putfield 25, 3) := by decide +kernel
theorem dX3_acceptsKind_57 : decode cX3_acceptsKind 57 = .ok (.iconst 1, 1) := by decide +kernel
theorem dX3_acceptsKind_58 : decode cX3_acceptsKind 58 = .ok (.ireturn, 1) := by decide +kernel
theorem dX3_acceptsSound_0 : decode cX3_acceptsSound 0 = .ok (.aload_n 0, 1) := by decide +kernel
theorem dX3_acceptsSound_1 : decode cX3_acceptsSound 1 = .ok (.getfield 62, 3) := by decide +kernel
theorem dX3_acceptsSound_4 : decode cX3_acceptsSound 4 = .ok (.ifCond .ne 7, 3) := by decide +kernel
theorem dX3_acceptsSound_7 : decode cX3_acceptsSound 7 = .ok (.iconst 4, 1) := by decide +kernel
theorem dX3_acceptsSound_8 : decode cX3_acceptsSound 8 = .ok (.goto 15, 3) := by decide +kernel
theorem dX3_acceptsSound_11 : decode cX3_acceptsSound 11 = .ok (.aload_n 0, 1) := by decide +kernel
theorem dX3_acceptsSound_12 : decode cX3_acceptsSound 12 = .ok (.getfield 12, 3) := by decide +kernel
theorem dX3_acceptsSound_15 : decode cX3_acceptsSound 15 = .ok (.getfield 75, 3) := by decide +kernel
theorem dX3_acceptsSound_18 : decode cX3_acceptsSound 18 = .ok (.aload_n 0, 1) := by decide +kernel
theorem dX3_acceptsSound_19 : decode cX3_acceptsSound 19 = .ok (.getfield 65, 3) := by decide +kernel
theorem dX3_acceptsSound_22 : decode cX3_acceptsSound 22 = .ok (.iaload, 1) := by decide +kernel
theorem dX3_acceptsSound_23 : decode cX3_acceptsSound 23 = .ok (.istore_n 2, 1) := by decide +kernel
theorem dX3_acceptsSound_24 : decode cX3_acceptsSound 24 = .ok (.iload_n 1, 1) := by decide +kernel
theorem dX3_acceptsSound_25 : decode cX3_acceptsSound 25 = .ok (.ifCond .lt 11, 3) := by decide +kernel
theorem dX3_acceptsSound_28 : decode cX3_acceptsSound 28 = .ok (.aload_n 0, 1) := by decide +kernel
theorem dX3_acceptsSound_29 : decode cX3_acceptsSound 29 = .ok (.getfield 78, 3) := by decide +kernel
theorem dX3_acceptsSound_32 : decode cX3_acceptsSound 32 = .ok (.iload_n 2, 1) := by decide +kernel
theorem dX3_acceptsSound_33 : decode cX3_acceptsSound 33 = .ok (.if_icmp .lt 5, 3) := by decide +kernel
theorem dX3_acceptsSound_36 : decode cX3_acceptsSound 36 = .ok (.iconst 0, 1) := by decide +kernel
theorem dX3_acceptsSound_37 : decode cX3_acceptsSound 37 = .ok (.ireturn, 1) := by decide +kernel
theorem dX3_acceptsSound_38 : decode cX3_acceptsSound 38 = .ok (.aload_n 0, 1) := by decide +kernel
theorem dX3_acceptsSound_39 : decode cX3_acceptsSound 39 = .ok (.getfield 12, 3) := by decide +kernel
theorem dX3_acceptsSound_42 : decode cX3_acceptsSound 42 = .ok (.getfield 81, 3) := by decide +kernel
theorem dX3_acceptsSound_45 : decode cX3_acceptsSound 45 = .ok (.aload_n 0, 1) := by decide +kernel
theorem dX3_acceptsSound_46 : decode cX3_acceptsSound 46 = .ok (.getfield 65, 3) := by decide +kernel
theorem dX3_acceptsSound_49 : decode cX3_acceptsSound 49 = .ok (.aload_n 0, 1) := by decide +kernel
theorem dX3_acceptsSound_50 : decode cX3_acceptsSound 50 = .ok (.getfield 62, 3) := by decide +kernel
theorem dX3_acceptsSound_53 : decode cX3_acceptsSound 53 = .ok (.invokestatic 84, 3) := by decide +kernel
theorem dX3_acceptsSound_56 : decode cX3_acceptsSound 56 = .ok (.aload_n 0, 1) := by decide +kernel
theorem dX3_acceptsSound_57 : decode cX3_acceptsSound 57 = .ok (.getfield 78, 3) := by decide +kernel
theorem dX3_acceptsSound_60 : decode cX3_acceptsSound 60 = .ok (.iadd, 1) := by decide +kernel
theorem dX3_acceptsSound_61 : decode cX3_acceptsSound 61 = .ok (.iload_n 1, 1) := by decide +kernel
theorem dX3_acceptsSound_62 : decode cX3_acceptsSound 62 = .ok (.iastore, 1) := by decide +kernel
theorem dX3_acceptsSound_63 : decode cX3_acceptsSound 63 = .ok (.aload_n 0, 1) := by decide +kernel
theorem dX3_acceptsSound_64 : decode cX3_acceptsSound 64 = .ok (.dup, 1) := by decide +kernel
theorem dX3_acceptsSound_65 : decode cX3_acceptsSound 65 = .ok (.getfield 78, 3) := by decide +kernel
theorem dX3_acceptsSound_68 : decode cX3_acceptsSound 68 = .ok (.iconst 1, 1) := by decide +kernel
theorem dX3_acceptsSound_69 : decode cX3_acceptsSound 69 = .ok (.iadd, 1) := by decide +kernel
theorem dX3_acceptsSound_70 : decode cX3_acceptsSound 70 = .ok (.putfield 78, 3) := by decide +kernel
theorem dX3_acceptsSound_73 : decode cX3_acceptsSound 73 = .ok (.iload_n 1, 1) := by decide +kernel
theorem dX3_acceptsSound_74 : decode cX3_acceptsSound 74 = .ok (.ifCond .eq 8, 3) := by decide +kernel
theorem dX3_acceptsSound_77 : decode cX3_acceptsSound 77 = .ok (.aload_n 0, 1) := by decide +kernel
theorem dX3_acceptsSound_78 : decode cX3_acceptsSound 78 = .ok (.iconst 0, 1) := by decide +kernel
theorem dX3_acceptsSound_79 : decode cX3_acceptsSound 79 = .ok (.putfield 88, 3) := by decide +kernel
theorem dX3_acceptsSound_82 : decode cX3_acceptsSound 82 = .ok (.iconst 1, 1) := by decide +kernel
theorem dX3_acceptsSound_83 : decode cX3_acceptsSound 83 = .ok (.ireturn, 1) := by decide +kernel
theorem dX3_endsWord_0 : decode cX3_endsWord 0 = .ok (.aload_n 0, 1) := by decide +kernel
theorem dX3_endsWord_1 : decode cX3_endsWord 1 = .ok (.getfield 12, 3) := by decide +kernel
theorem dX3_endsWord_4 : decode cX3_endsWord 4 = .ok (.getfield 22, 3) := by decide +kernel
theorem dX3_endsWord_7 : decode cX3_endsWord 7 = .ok (.ifCond .ne 7, 3) := by decide +kernel
theorem dX3_endsWord_10 : decode cX3_endsWord 10 = .ok (.iconst 4, 1) := by decide +kernel
theorem dX3_endsWord_11 : decode cX3_endsWord 11 = .ok (.goto 10, 3) := by decide +kernel
theorem dX3_endsWord_14 : decode cX3_endsWord 14 = .ok (.aload_n 0, 1) := by decide +kernel
theorem dX3_endsWord_15 : decode cX3_endsWord 15 = .ok (.getfield 12, 3) := by decide +kernel
theorem dX3_endsWord_18 : decode cX3_endsWord 18 = .ok (.getfield 22, 3) := by decide +kernel
theorem dX3_endsWord_21 : decode cX3_endsWord 21 = .ok (.istore_n 1, 1) := by decide +kernel
theorem dX3_endsWord_22 : decode cX3_endsWord 22 = .ok (.aload_n 0, 1) := by decide +kernel
theorem dX3_endsWord_23 : decode cX3_endsWord 23 = .ok (.invokevirtual 91, 3) := by decide +kernel
theorem dX3_endsWord_26 : decode cX3_endsWord 26 = .ok (.ifCond .eq 13, 3) := by decide +kernel
theorem dX3_endsWord_29 : decode cX3_endsWord 29 = .ok (.aload_n 0, 1) := by decide +kernel
theorem dX3_endsWord_30 : decode cX3_endsWord 30 = .ok (.getfield 62, 3) := by decide +kernel
theorem dX3_endsWord_33 : decode cX3_endsWord 33 = .ok (.iconst 1, 1) := by decide +kernel
theorem dX3_endsWord_34 : decode cX3_endsWord 34 = .ok (.iadd, 1) := by decide +kernel
theorem dX3_endsWord_35 : decode cX3_endsWord 35 = .ok (.iload_n 1, 1) := by decide +kernel
theorem dX3_endsWord_36 : decode cX3_endsWord 36 = .ok (.if_icmp .lt 5, 3) := by decide +kernel
theorem dX3_endsWord_39 : decode cX3_endsWord 39 = .ok (.iconst 0, 1) := by decide +kernel
theorem dX3_endsWord_40 : decode cX3_endsWord 40 = .ok (.ireturn, 1) := by decide +kernel
theorem dX3_endsWord_41 : decode cX3_endsWord 41 = .ok (.aload_n 0, 1) := by decide +kernel
theorem dX3_endsWord_42 : decode cX3_endsWord 42 = .ok (.invokevirtual 59, 3) := by decide +kernel
theorem dX3_endsWord_45 : decode cX3_endsWord 45 = .ok (.aload_n 0, 1) := by decide +kernel
theorem dX3_endsWord_46 : decode cX3_endsWord 46 = .ok (.dup, 1) := by decide +kernel
theorem dX3_endsWord_47 : decode cX3_endsWord 47 = .ok (.getfield 62, 3) := by decide +kernel
theorem dX3_endsWord_50 : decode cX3_endsWord 50 = .ok (.iconst 1, 1) := by decide +kernel
theorem dX3_endsWord_51 : decode cX3_endsWord 51 = .ok (.iadd, 1) := by decide +kernel
theorem dX3_endsWord_52 : decode cX3_endsWord 52 = .ok (.putfield 62, 3) := by decide +kernel
theorem dX3_endsWord_55 : decode cX3_endsWord 55 = .ok (.aload_n 0, 1) := by decide +kernel
theorem dX3_endsWord_56 : decode cX3_endsWord 56 = .ok (.invokevirtual 72, 3) := by decide +kernel
theorem dX3_endsWord_59 : decode cX3_endsWord 59 = .ok (.iconst 1, 1) := by decide +kernel
theorem dX3_endsWord_60 : decode cX3_endsWord 60 = .ok (.ireturn, 1) := by decide +kernel
theorem dX3_endsSet_0 : decode cX3_endsSet 0 = .ok (.aload_n 0, 1) := by decide +kernel
theorem dX3_endsSet_1 : decode cX3_endsSet 1 = .ok (.invokevirtual 56, 3) := by decide +kernel
theorem dX3_endsSet_4 : decode cX3_endsSet 4 = .ok (.ifCond .eq 14, 3) := by decide +kernel
theorem dX3_endsSet_7 : decode cX3_endsSet 7 = .ok (.aload_n 0, 1) := by decide +kernel
theorem dX3_endsSet_8 : decode cX3_endsSet 8 = .ok (.getfield 12, 3) := by decide +kernel
theorem dX3_endsSet_11 : decode cX3_endsSet 11 = .ok (.getfield 18, 3) := by decide +kernel
theorem dX3_endsSet_14 : decode cX3_endsSet 14 = .ok (.iconst 5, 1) := by decide +kernel
theorem dX3_endsSet_15 : decode cX3_endsSet 15 = .ok (.if_icmp .lt 5, 3) := by decide +kernel
theorem dX3_endsSet_18 : decode cX3_endsSet 18 = .ok (.iconst 0, 1) := by decide +kernel
theorem dX3_endsSet_19 : decode cX3_endsSet 19 = .ok (.ireturn, 1) := by decide +kernel
theorem dX3_endsSet_20 : decode cX3_endsSet 20 = .ok (.aload_n 0, 1) := by decide +kernel
theorem dX3_endsSet_21 : decode cX3_endsSet 21 = .ok (.invokevirtual 59, 3) := by decide +kernel
theorem dX3_endsSet_24 : decode cX3_endsSet 24 = .ok (.aload_n 0, 1) := by decide +kernel
theorem dX3_endsSet_25 : decode cX3_endsSet 25 = .ok (.getfield 12, 3) := by decide +kernel
theorem dX3_endsSet_28 : decode cX3_endsSet 28 = .ok (.aload_n 0, 1) := by decide +kernel
theorem dX3_endsSet_29 : decode cX3_endsSet 29 = .ok (.getfield 62, 3) := by decide +kernel
theorem dX3_endsSet_32 : decode cX3_endsSet 32 = .ok (.iconst 1, 1) := by decide +kernel
theorem dX3_endsSet_33 : decode cX3_endsSet 33 = .ok (.iadd, 1) := by decide +kernel
theorem dX3_endsSet_34 : decode cX3_endsSet 34 = .ok (.putfield 22, 3) := by decide +kernel
theorem dX3_endsSet_37 : decode cX3_endsSet 37 = .ok (.aload_n 0, 1) := by decide +kernel
theorem dX3_endsSet_38 : decode cX3_endsSet 38 = .ok (.iconst 1, 1) := by decide +kernel
theorem dX3_endsSet_39 : decode cX3_endsSet 39 = .ok (.putfield 25, 3) := by decide +kernel
theorem dX3_endsSet_42 : decode cX3_endsSet 42 = .ok (.iconst 1, 1) := by decide +kernel
theorem dX3_endsSet_43 : decode cX3_endsSet 43 = .ok (.ireturn, 1) := by decide +kernel
theorem dX3_wordIsWhole_0 : decode cX3_wordIsWhole 0 = .ok (.aload_n 0, 1) := by decide +kernel
theorem dX3_wordIsWhole_1 : decode cX3_wordIsWhole 1 = .ok (.getfield 62, 3) := by decide +kernel
theorem dX3_wordIsWhole_4 : decode cX3_wordIsWhole 4 = .ok (.ifCond .ne 18, 3) := by decide +kernel
theorem dX3_wordIsWhole_7 : decode cX3_wordIsWhole 7 = .ok (.aload_n 0, 1) := by decide +kernel
theorem dX3_wordIsWhole_8 : decode cX3_wordIsWhole 8 = .ok (.getfield 78, 3) := by decide +kernel
theorem dX3_wordIsWhole_11 : decode cX3_wordIsWhole 11 = .ok (.ifCond .le 7, 3) := by decide +kernel
theorem dX3_wordIsWhole_14 : decode cX3_wordIsWhole 14 = .ok (.iconst 1, 1) := by decide +kernel
theorem dX3_wordIsWhole_15 : decode cX3_wordIsWhole 15 = .ok (.goto 31, 3) := by decide +kernel
theorem dX3_wordIsWhole_18 : decode cX3_wordIsWhole 18 = .ok (.iconst 0, 1) := by decide +kernel
theorem dX3_wordIsWhole_19 : decode cX3_wordIsWhole 19 = .ok (.goto 27, 3) := by decide +kernel
theorem dX3_wordIsWhole_22 : decode cX3_wordIsWhole 22 = .ok (.aload_n 0, 1) := by decide +kernel
theorem dX3_wordIsWhole_23 : decode cX3_wordIsWhole 23 = .ok (.getfield 78, 3) := by decide +kernel
theorem dX3_wordIsWhole_26 : decode cX3_wordIsWhole 26 = .ok (.aload_n 0, 1) := by decide +kernel
theorem dX3_wordIsWhole_27 : decode cX3_wordIsWhole 27 = .ok (.getfield 12, 3) := by decide +kernel
theorem dX3_wordIsWhole_30 : decode cX3_wordIsWhole 30 = .ok (.getfield 75, 3) := by decide +kernel
theorem dX3_wordIsWhole_33 : decode cX3_wordIsWhole 33 = .ok (.aload_n 0, 1) := by decide +kernel
theorem dX3_wordIsWhole_34 : decode cX3_wordIsWhole 34 = .ok (.getfield 65, 3) := by decide +kernel
theorem dX3_wordIsWhole_37 : decode cX3_wordIsWhole 37 = .ok (.iaload, 1) := by decide +kernel
theorem dX3_wordIsWhole_38 : decode cX3_wordIsWhole 38 = .ok (.if_icmp .ne 7, 3) := by decide +kernel
theorem dX3_wordIsWhole_41 : decode cX3_wordIsWhole 41 = .ok (.iconst 1, 1) := by decide +kernel
theorem dX3_wordIsWhole_42 : decode cX3_wordIsWhole 42 = .ok (.goto 4, 3) := by decide +kernel
theorem dX3_wordIsWhole_45 : decode cX3_wordIsWhole 45 = .ok (.iconst 0, 1) := by decide +kernel
theorem dX3_wordIsWhole_46 : decode cX3_wordIsWhole 46 = .ok (.ireturn, 1) := by decide +kernel
theorem dX3_setIsWhole_0 : decode cX3_setIsWhole 0 = .ok (.aload_n 0, 1) := by decide +kernel
theorem dX3_setIsWhole_1 : decode cX3_setIsWhole 1 = .ok (.getfield 62, 3) := by decide +kernel
theorem dX3_setIsWhole_4 : decode cX3_setIsWhole 4 = .ok (.iconst 1, 1) := by decide +kernel
theorem dX3_setIsWhole_5 : decode cX3_setIsWhole 5 = .ok (.iadd, 1) := by decide +kernel
theorem dX3_setIsWhole_6 : decode cX3_setIsWhole 6 = .ok (.istore_n 1, 1) := by decide +kernel
theorem dX3_setIsWhole_7 : decode cX3_setIsWhole 7 = .ok (.aload_n 0, 1) := by decide +kernel
theorem dX3_setIsWhole_8 : decode cX3_setIsWhole 8 = .ok (.invokevirtual 91, 3) := by decide +kernel
theorem dX3_setIsWhole_11 : decode cX3_setIsWhole 11 = .ok (.ifCond .eq 8, 3) := by decide +kernel
theorem dX3_setIsWhole_14 : decode cX3_setIsWhole 14 = .ok (.iload_n 1, 1) := by decide +kernel
theorem dX3_setIsWhole_15 : decode cX3_setIsWhole 15 = .ok (.iconst 2, 1) := by decide +kernel
theorem dX3_setIsWhole_16 : decode cX3_setIsWhole 16 = .ok (.if_icmp .ge 5, 3) := by decide +kernel
theorem dX3_setIsWhole_19 : decode cX3_setIsWhole 19 = .ok (.iconst 0, 1) := by decide +kernel
theorem dX3_setIsWhole_20 : decode cX3_setIsWhole 20 = .ok (.ireturn, 1) := by decide +kernel
theorem dX3_setIsWhole_21 : decode cX3_setIsWhole 21 = .ok (.aload_n 0, 1) := by decide +kernel
theorem dX3_setIsWhole_22 : decode cX3_setIsWhole 22 = .ok (.getfield 12, 3) := by decide +kernel
theorem dX3_setIsWhole_25 : decode cX3_setIsWhole 25 = .ok (.getfield 22, 3) := by decide +kernel
theorem dX3_setIsWhole_28 : decode cX3_setIsWhole 28 = .ok (.ifCond .eq 14, 3) := by decide +kernel
theorem dX3_setIsWhole_31 : decode cX3_setIsWhole 31 = .ok (.iload_n 1, 1) := by decide +kernel
theorem dX3_setIsWhole_32 : decode cX3_setIsWhole 32 = .ok (.aload_n 0, 1) := by decide +kernel
theorem dX3_setIsWhole_33 : decode cX3_setIsWhole 33 = .ok (.getfield 12, 3) := by decide +kernel
theorem dX3_setIsWhole_36 : decode cX3_setIsWhole 36 = .ok (.getfield 22, 3) := by decide +kernel
theorem dX3_setIsWhole_39 : decode cX3_setIsWhole 39 = .ok (.if_icmp .ne 7, 3) := by decide +kernel
theorem dX3_setIsWhole_42 : decode cX3_setIsWhole 42 = .ok (.iconst 1, 1) := by decide +kernel
theorem dX3_setIsWhole_43 : decode cX3_setIsWhole 43 = .ok (.goto 4, 3) := by decide +kernel
theorem dX3_setIsWhole_46 : decode cX3_setIsWhole 46 = .ok (.iconst 0, 1) := by decide +kernel
theorem dX3_setIsWhole_47 : decode cX3_setIsWhole 47 = .ok (.ireturn, 1) := by decide +kernel
theorem dX3_openWord_0 : decode cX3_openWord 0 = .ok (.aload_n 0, 1) := by decide +kernel
theorem dX3_openWord_1 : decode cX3_openWord 1 = .ok (.iconst 0, 1) := by decide +kernel
theorem dX3_openWord_2 : decode cX3_openWord 2 = .ok (.putfield 78, 3) := by decide +kernel
theorem dX3_openWord_5 : decode cX3_openWord 5 = .ok (.aload_n 0, 1) := by decide +kernel
theorem dX3_openWord_6 : decode cX3_openWord 6 = .ok (.iconst 1, 1) := by decide +kernel
theorem dX3_openWord_7 : decode cX3_openWord 7 = .ok (.putfield 88, 3) := by decide +kernel
theorem dX3_openWord_10 : decode cX3_openWord 10 = .ok (.return_, 1) := by decide +kernel
theorem dX3_closeWord_0 : decode cX3_closeWord 0 = .ok (.aload_n 0, 1) := by decide +kernel
theorem dX3_closeWord_1 : decode cX3_closeWord 1 = .ok (.getfield 12, 3) := by decide +kernel
theorem dX3_closeWord_4 : decode cX3_closeWord 4 = .ok (.getfield 75, 3) := by decide +kernel
theorem dX3_closeWord_7 : decode cX3_closeWord 7 = .ok (.aload_n 0, 1) := by decide +kernel
theorem dX3_closeWord_8 : decode cX3_closeWord 8 = .ok (.getfield 65, 3) := by decide +kernel
theorem dX3_closeWord_11 : decode cX3_closeWord 11 = .ok (.aload_n 0, 1) := by decide +kernel
theorem dX3_closeWord_12 : decode cX3_closeWord 12 = .ok (.getfield 78, 3) := by decide +kernel
theorem dX3_closeWord_15 : decode cX3_closeWord 15 = .ok (.iastore, 1) := by decide +kernel
theorem dX3_closeWord_16 : decode cX3_closeWord 16 = .ok (.aload_n 0, 1) := by decide +kernel
theorem dX3_closeWord_17 : decode cX3_closeWord 17 = .ok (.getfield 88, 3) := by decide +kernel
theorem dX3_closeWord_20 : decode cX3_closeWord 20 = .ok (.ifCond .eq 8, 3) := by decide +kernel
theorem dX3_closeWord_23 : decode cX3_closeWord 23 = .ok (.aload_n 0, 1) := by decide +kernel
theorem dX3_closeWord_24 : decode cX3_closeWord 24 = .ok (.iconst 1, 1) := by decide +kernel
theorem dX3_closeWord_25 : decode cX3_closeWord 25 = .ok (.putfield 29, 3) := by decide +kernel
theorem dX3_closeWord_28 : decode cX3_closeWord 28 = .ok (.return_, 1) := by decide +kernel
theorem dX4_init_0 : decode cX4_init 0 = .ok (.aload_n 0, 1) := by decide +kernel
theorem dX4_init_1 : decode cX4_init 1 = .ok (.invokespecial 3, 3) := by decide +kernel
theorem dX4_init_4 : decode cX4_init 4 = .ok (.aload_n 0, 1) := by decide +kernel
theorem dX4_init_5 : decode cX4_init 5 = .ok (.bipush 6, 2) := by decide +kernel
theorem dX4_init_7 : decode cX4_init 7 = .ok (.newarray .int, 2) := by decide +kernel
theorem dX4_init_9 : decode cX4_init 9 = .ok (.putfield 9, 3) := by decide +kernel
theorem dX4_init_12 : decode cX4_init 12 = .ok (.aload_n 0, 1) := by decide +kernel
theorem dX4_init_13 : decode cX4_init 13 = .ok (.bipush 6, 2) := by decide +kernel
theorem dX4_init_15 : decode cX4_init 15 = .ok (.newarray .int, 2) := by decide +kernel
theorem dX4_init_17 : decode cX4_init 17 = .ok (.putfield 15, 3) := by decide +kernel
theorem dX4_init_20 : decode cX4_init 20 = .ok (.aload_n 0, 1) := by decide +kernel
theorem dX4_init_21 : decode cX4_init 21 = .ok (.bipush 6, 2) := by decide +kernel
theorem dX4_init_23 : decode cX4_init 23 = .ok (.newarray .boolean, 2) := by decide +kernel
theorem dX4_init_25 : decode cX4_init 25 = .ok (.putfield 18, 3) := by decide +kernel
theorem dX4_init_28 : decode cX4_init 28 = .ok (.return_, 1) := by decide +kernel
theorem dX4_clear_0 : decode cX4_clear 0 = .ok (.aload_n 0, 1) := by decide +kernel
theorem dX4_clear_1 : decode cX4_clear 1 = .ok (.iconst 0, 1) := by decide +kernel
theorem dX4_clear_2 : decode cX4_clear 2 = .ok (.putfield 22, 3) := by decide +kernel
theorem dX4_clear_5 : decode cX4_clear 5 = .ok (.return_, 1) := by decide +kernel
theorem dX4_add_0 : decode cX4_add 0 = .ok (.aload_n 0, 1) := by decide +kernel
theorem dX4_add_1 : decode cX4_add 1 = .ok (.getfield 9, 3) := by decide +kernel
theorem dX4_add_4 : decode cX4_add 4 = .ok (.aload_n 0, 1) := by decide +kernel
theorem dX4_add_5 : decode cX4_add 5 = .ok (.getfield 22, 3) := by decide +kernel
theorem dX4_add_8 : decode cX4_add 8 = .ok (.iload_n 1, 1) := by decide +kernel
theorem dX4_add_9 : decode cX4_add 9 = .ok (.iastore, 1) := by decide +kernel
theorem dX4_add_10 : decode cX4_add 10 = .ok (.aload_n 0, 1) := by decide +kernel
theorem dX4_add_11 : decode cX4_add 11 = .ok (.getfield 15, 3) := by decide +kernel
theorem dX4_add_14 : decode cX4_add 14 = .ok (.aload_n 0, 1) := by decide +kernel
theorem dX4_add_15 : decode cX4_add 15 = .ok (.getfield 22, 3) := by decide +kernel
theorem dX4_add_18 : decode cX4_add 18 = .ok (.iload_n 2, 1) := by decide +kernel
theorem dX4_add_19 : decode cX4_add 19 = .ok (.iastore, 1) := by decide +kernel
theorem dX4_add_20 : decode cX4_add 20 = .ok (.aload_n 0, 1) := by decide +kernel
theorem dX4_add_21 : decode cX4_add 21 = .ok (.getfield 18, 3) := by decide +kernel
theorem dX4_add_24 : decode cX4_add 24 = .ok (.aload_n 0, 1) := by decide +kernel
theorem dX4_add_25 : decode cX4_add 25 = .ok (.getfield 22, 3) := by decide +kernel
theorem dX4_add_28 : decode cX4_add 28 = .ok (.iload_n 3, 1) := by decide +kernel
theorem dX4_add_29 : decode cX4_add 29 = .ok (.bastore, 1) := by decide +kernel
theorem dX4_add_30 : decode cX4_add 30 = .ok (.aload_n 0, 1) := by decide +kernel
theorem dX4_add_31 : decode cX4_add 31 = .ok (.dup, 1) := by decide +kernel
theorem dX4_add_32 : decode cX4_add 32 = .ok (.getfield 22, 3) := by decide +kernel
theorem dX4_add_35 : decode cX4_add 35 = .ok (.iconst 1, 1) := by decide +kernel
theorem dX4_add_36 : decode cX4_add 36 = .ok (.iadd, 1) := by decide +kernel
theorem dX4_add_37 : decode cX4_add 37 = .ok (.putfield 22, 3) := by decide +kernel
theorem dX4_add_40 : decode cX4_add 40 = .ok (.return_, 1) := by decide +kernel
theorem dX4_become_0 : decode cX4_become 0 = .ok (.aload_n 0, 1) := by decide +kernel
theorem dX4_become_1 : decode cX4_become 1 = .ok (.iconst 0, 1) := by decide +kernel
theorem dX4_become_2 : decode cX4_become 2 = .ok (.putfield 22, 3) := by decide +kernel
theorem dX4_become_5 : decode cX4_become 5 = .ok (.iconst 0, 1) := by decide +kernel
theorem dX4_become_6 : decode cX4_become 6 = .ok (.istore_n 2, 1) := by decide +kernel
theorem dX4_become_7 : decode cX4_become 7 = .ok (.iload_n 2, 1) := by decide +kernel
theorem dX4_become_8 : decode cX4_become 8 = .ok (.aload_n 1, 1) := by decide +kernel
theorem dX4_become_9 : decode cX4_become 9 = .ok (.getfield 22, 3) := by decide +kernel
theorem dX4_become_12 : decode cX4_become 12 = .ok (.if_icmp .ge 31, 3) := by decide +kernel
theorem dX4_become_15 : decode cX4_become 15 = .ok (.aload_n 0, 1) := by decide +kernel
theorem dX4_become_16 : decode cX4_become 16 = .ok (.aload_n 1, 1) := by decide +kernel
theorem dX4_become_17 : decode cX4_become 17 = .ok (.getfield 9, 3) := by decide +kernel
theorem dX4_become_20 : decode cX4_become 20 = .ok (.iload_n 2, 1) := by decide +kernel
theorem dX4_become_21 : decode cX4_become 21 = .ok (.iaload, 1) := by decide +kernel
theorem dX4_become_22 : decode cX4_become 22 = .ok (.aload_n 1, 1) := by decide +kernel
theorem dX4_become_23 : decode cX4_become 23 = .ok (.getfield 15, 3) := by decide +kernel
theorem dX4_become_26 : decode cX4_become 26 = .ok (.iload_n 2, 1) := by decide +kernel
theorem dX4_become_27 : decode cX4_become 27 = .ok (.iaload, 1) := by decide +kernel
theorem dX4_become_28 : decode cX4_become 28 = .ok (.aload_n 1, 1) := by decide +kernel
theorem dX4_become_29 : decode cX4_become 29 = .ok (.getfield 18, 3) := by decide +kernel
theorem dX4_become_32 : decode cX4_become 32 = .ok (.iload_n 2, 1) := by decide +kernel
theorem dX4_become_33 : decode cX4_become 33 = .ok (.baload, 1) := by decide +kernel
theorem dX4_become_34 : decode cX4_become 34 = .ok (.invokevirtual 26, 3) := by decide +kernel
theorem dX4_become_37 : decode cX4_become 37 = .ok (.iinc 2 1, 3) := by decide +kernel
theorem dX4_become_40 : decode cX4_become 40 = .ok (.goto (-33), 3) := by decide +kernel
theorem dX4_become_43 : decode cX4_become 43 = .ok (.return_, 1) := by decide +kernel
theorem dX4_loseSet_0 : decode cX4_loseSet 0 = .ok (.iconst 0, 1) := by decide +kernel
theorem dX4_loseSet_1 : decode cX4_loseSet 1 = .ok (.istore_n 2, 1) := by decide +kernel
theorem dX4_loseSet_2 : decode cX4_loseSet 2 = .ok (.iload_n 2, 1) := by decide +kernel
theorem dX4_loseSet_3 : decode cX4_loseSet 3 = .ok (.aload_n 0, 1) := by decide +kernel
theorem dX4_loseSet_4 : decode cX4_loseSet 4 = .ok (.getfield 22, 3) := by decide +kernel
theorem dX4_loseSet_7 : decode cX4_loseSet 7 = .ok (.if_icmp .ge 49, 3) := by decide +kernel
theorem dX4_loseSet_10 : decode cX4_loseSet 10 = .ok (.aload_n 0, 1) := by decide +kernel
theorem dX4_loseSet_11 : decode cX4_loseSet 11 = .ok (.getfield 9, 3) := by decide +kernel
theorem dX4_loseSet_14 : decode cX4_loseSet 14 = .ok (.iload_n 2, 1) := by decide +kernel
theorem dX4_loseSet_15 : decode cX4_loseSet 15 = .ok (.iaload, 1) := by decide +kernel
theorem dX4_loseSet_16 : decode cX4_loseSet 16 = .ok (.iload_n 1, 1) := by decide +kernel
theorem dX4_loseSet_17 : decode cX4_loseSet 17 = .ok (.if_icmp .ne 13, 3) := by decide +kernel
theorem dX4_loseSet_20 : decode cX4_loseSet 20 = .ok (.aload_n 0, 1) := by decide +kernel
theorem dX4_loseSet_21 : decode cX4_loseSet 21 = .ok (.getfield 9, 3) := by decide +kernel
theorem dX4_loseSet_24 : decode cX4_loseSet 24 = .ok (.iload_n 2, 1) := by decide +kernel
theorem dX4_loseSet_25 : decode cX4_loseSet 25 = .ok (.iconst (-1), 1) := by decide +kernel
theorem dX4_loseSet_26 : decode cX4_loseSet 26 = .ok (.iastore, 1) := by decide +kernel
theorem dX4_loseSet_27 : decode cX4_loseSet 27 = .ok (.goto 23, 3) := by decide +kernel
theorem dX4_loseSet_30 : decode cX4_loseSet 30 = .ok (.aload_n 0, 1) := by decide +kernel
theorem dX4_loseSet_31 : decode cX4_loseSet 31 = .ok (.getfield 9, 3) := by decide +kernel
theorem dX4_loseSet_34 : decode cX4_loseSet 34 = .ok (.iload_n 2, 1) := by decide +kernel
theorem dX4_loseSet_35 : decode cX4_loseSet 35 = .ok (.iaload, 1) := by decide +kernel
theorem dX4_loseSet_36 : decode cX4_loseSet 36 = .ok (.iload_n 1, 1) := by decide +kernel
theorem dX4_loseSet_37 : decode cX4_loseSet 37 = .ok (.if_icmp .le 13, 3) := by decide +kernel
theorem dX4_loseSet_40 : decode cX4_loseSet 40 = .ok (.aload_n 0, 1) := by decide +kernel
theorem dX4_loseSet_41 : decode cX4_loseSet 41 = .ok (.getfield 9, 3) := by decide +kernel
theorem dX4_loseSet_44 : decode cX4_loseSet 44 = .ok (.iload_n 2, 1) := by decide +kernel
theorem dX4_loseSet_45 : decode cX4_loseSet 45 = .ok (.dup2, 1) := by decide +kernel
theorem dX4_loseSet_46 : decode cX4_loseSet 46 = .ok (.iaload, 1) := by decide +kernel
theorem dX4_loseSet_47 : decode cX4_loseSet 47 = .ok (.iconst 1, 1) := by decide +kernel
theorem dX4_loseSet_48 : decode cX4_loseSet 48 = .ok (.isub, 1) := by decide +kernel
theorem dX4_loseSet_49 : decode cX4_loseSet 49 = .ok (.iastore, 1) := by decide +kernel
theorem dX4_loseSet_50 : decode cX4_loseSet 50 = .ok (.iinc 2 1, 3) := by decide +kernel
theorem dX4_loseSet_53 : decode cX4_loseSet 53 = .ok (.goto (-51), 3) := by decide +kernel
theorem dX4_loseSet_56 : decode cX4_loseSet 56 = .ok (.return_, 1) := by decide +kernel
theorem dX4_sortsOf_0 : decode cX4_sortsOf 0 = .ok (.bipush 31, 2) := by decide +kernel
theorem dX4_sortsOf_2 : decode cX4_sortsOf 2 = .ok (.istore_n 2, 1) := by decide +kernel
theorem dX4_sortsOf_3 : decode cX4_sortsOf 3 = .ok (.iconst 0, 1) := by decide +kernel
theorem dX4_sortsOf_4 : decode cX4_sortsOf 4 = .ok (.istore_n 3, 1) := by decide +kernel
theorem dX4_sortsOf_5 : decode cX4_sortsOf 5 = .ok (.iload_n 3, 1) := by decide +kernel
theorem dX4_sortsOf_6 : decode cX4_sortsOf 6 = .ok (.aload_n 0, 1) := by decide +kernel
theorem dX4_sortsOf_7 : decode cX4_sortsOf 7 = .ok (.getfield 22, 3) := by decide +kernel
theorem dX4_sortsOf_10 : decode cX4_sortsOf 10 = .ok (.if_icmp .ge 51, 3) := by decide +kernel
theorem dX4_sortsOf_13 : decode cX4_sortsOf 13 = .ok (.aload_n 0, 1) := by decide +kernel
theorem dX4_sortsOf_14 : decode cX4_sortsOf 14 = .ok (.getfield 9, 3) := by decide +kernel
theorem dX4_sortsOf_17 : decode cX4_sortsOf 17 = .ok (.iload_n 3, 1) := by decide +kernel
theorem dX4_sortsOf_18 : decode cX4_sortsOf 18 = .ok (.iaload, 1) := by decide +kernel
theorem dX4_sortsOf_19 : decode cX4_sortsOf 19 = .ok (.iload_n 1, 1) := by decide +kernel
theorem dX4_sortsOf_20 : decode cX4_sortsOf 20 = .ok (.if_icmp .ne 35, 3) := by decide +kernel
theorem dX4_sortsOf_23 : decode cX4_sortsOf 23 = .ok (.aload_n 0, 1) := by decide +kernel
theorem dX4_sortsOf_24 : decode cX4_sortsOf 24 = .ok (.getfield 15, 3) := by decide +kernel
theorem dX4_sortsOf_27 : decode cX4_sortsOf 27 = .ok (.iload_n 3, 1) := by decide +kernel
theorem dX4_sortsOf_28 : decode cX4_sortsOf 28 = .ok (.iaload, 1) := by decide +kernel
theorem dX4_sortsOf_29 : decode cX4_sortsOf 29 = .ok (.invokestatic 30, 3) := by decide +kernel
theorem dX4_sortsOf_32 : decode cX4_sortsOf 32 = .ok (.istore 4, 2) := by decide +kernel
theorem dX4_sortsOf_34 : decode cX4_sortsOf 34 = .ok (.iload_n 2, 1) := by decide +kernel
theorem dX4_sortsOf_35 : decode cX4_sortsOf 35 = .ok (.aload_n 0, 1) := by decide +kernel
theorem dX4_sortsOf_36 : decode cX4_sortsOf 36 = .ok (.getfield 18, 3) := by decide +kernel
theorem dX4_sortsOf_39 : decode cX4_sortsOf 39 = .ok (.iload_n 3, 1) := by decide +kernel
theorem dX4_sortsOf_40 : decode cX4_sortsOf 40 = .ok (.baload, 1) := by decide +kernel
theorem dX4_sortsOf_41 : decode cX4_sortsOf 41 = .ok (.ifCond .eq 8, 3) := by decide +kernel
theorem dX4_sortsOf_44 : decode cX4_sortsOf 44 = .ok (.iload 4, 2) := by decide +kernel
theorem dX4_sortsOf_46 : decode cX4_sortsOf 46 = .ok (.goto 7, 3) := by decide +kernel
theorem dX4_sortsOf_49 : decode cX4_sortsOf 49 = .ok (.iload 4, 2) := by decide +kernel
theorem dX4_sortsOf_51 : decode cX4_sortsOf 51 = .ok (.iconst (-1), 1) := by decide +kernel
theorem dX4_sortsOf_52 : decode cX4_sortsOf 52 = .ok (.ixor, 1) := by decide +kernel
theorem dX4_sortsOf_53 : decode cX4_sortsOf 53 = .ok (.iand, 1) := by decide +kernel
theorem dX4_sortsOf_54 : decode cX4_sortsOf 54 = .ok (.istore_n 2, 1) := by decide +kernel
theorem dX4_sortsOf_55 : decode cX4_sortsOf 55 = .ok (.iinc 3 1, 3) := by decide +kernel
theorem dX4_sortsOf_58 : decode cX4_sortsOf 58 = .ok (.goto (-53), 3) := by decide +kernel
theorem dX4_sortsOf_61 : decode cX4_sortsOf 61 = .ok (.iload_n 2, 1) := by decide +kernel
theorem dX4_sortsOf_62 : decode cX4_sortsOf 62 = .ok (.ireturn, 1) := by decide +kernel
theorem dX4_questionFor_0 : decode cX4_questionFor 0 = .ok (.aload_n 0, 1) := by decide +kernel
theorem dX4_questionFor_1 : decode cX4_questionFor 1 = .ok (.iload_n 1, 1) := by decide +kernel
theorem dX4_questionFor_2 : decode cX4_questionFor 2 = .ok (.invokevirtual 34, 3) := by decide +kernel
theorem dX4_questionFor_5 : decode cX4_questionFor 5 = .ok (.istore_n 2, 1) := by decide +kernel
theorem dX4_questionFor_6 : decode cX4_questionFor 6 = .ok (.iconst (-1), 1) := by decide +kernel
theorem dX4_questionFor_7 : decode cX4_questionFor 7 = .ok (.istore_n 3, 1) := by decide +kernel
theorem dX4_questionFor_8 : decode cX4_questionFor 8 = .ok (.iconst 0, 1) := by decide +kernel
theorem dX4_questionFor_9 : decode cX4_questionFor 9 = .ok (.istore 4, 2) := by decide +kernel
theorem dX4_questionFor_11 : decode cX4_questionFor 11 = .ok (.iconst 0, 1) := by decide +kernel
theorem dX4_questionFor_12 : decode cX4_questionFor 12 = .ok (.istore 5, 2) := by decide +kernel
theorem dX4_questionFor_14 : decode cX4_questionFor 14 = .ok (.iload 5, 2) := by decide +kernel
theorem dX4_questionFor_16 : decode cX4_questionFor 16 = .ok (.iconst 4, 1) := by decide +kernel
theorem dX4_questionFor_17 : decode cX4_questionFor 17 = .ok (.if_icmp .ge 60, 3) := by decide +kernel
theorem dX4_questionFor_20 : decode cX4_questionFor 20 = .ok (.iload_n 2, 1) := by decide +kernel
theorem dX4_questionFor_21 : decode cX4_questionFor 21 = .ok (.ifCond .eq 56, 3) := by decide +kernel
theorem dX4_questionFor_24 : decode cX4_questionFor 24 = .ok (.iload 5, 2) := by decide +kernel
theorem dX4_questionFor_26 : decode cX4_questionFor 26 = .ok (.invokestatic 30, 3) := by decide +kernel
theorem dX4_questionFor_29 : decode cX4_questionFor 29 = .ok (.istore 6, 2) := by decide +kernel
theorem dX4_questionFor_31 : decode cX4_questionFor 31 = .ok (.iload_n 2, 1) := by decide +kernel
theorem dX4_questionFor_32 : decode cX4_questionFor 32 = .ok (.iload 6, 2) := by decide +kernel
theorem dX4_questionFor_34 : decode cX4_questionFor 34 = .ok (.iand, 1) := by decide +kernel
theorem dX4_questionFor_35 : decode cX4_questionFor 35 = .ok (.invokestatic 37, 3) := by decide +kernel
theorem dX4_questionFor_38 : decode cX4_questionFor 38 = .ok (.iload_n 2, 1) := by decide +kernel
theorem dX4_questionFor_39 : decode cX4_questionFor 39 = .ok (.iload 6, 2) := by decide +kernel
theorem dX4_questionFor_41 : decode cX4_questionFor 41 = .ok (.iconst (-1), 1) := by decide +kernel
theorem dX4_questionFor_42 : decode cX4_questionFor 42 = .ok (.ixor, 1) := by decide +kernel
theorem dX4_questionFor_43 : decode cX4_questionFor 43 = .ok (.iand, 1) := by decide +kernel
theorem dX4_questionFor_44 : decode cX4_questionFor 44 = .ok (.invokestatic 37, 3) := by decide +kernel
theorem dX4_questionFor_47 : decode cX4_questionFor 47 = .ok (.invokestatic 42, 3) := by decide +kernel
theorem dX4_questionFor_50 : decode cX4_questionFor 50 = .ok (.istore 7, 2) := by decide +kernel
theorem dX4_questionFor_52 : decode cX4_questionFor 52 = .ok (.iload_n 3, 1) := by decide +kernel
theorem dX4_questionFor_53 : decode cX4_questionFor 53 = .ok (.iconst (-1), 1) := by decide +kernel
theorem dX4_questionFor_54 : decode cX4_questionFor 54 = .ok (.if_icmp .eq 10, 3) := by decide +kernel
theorem dX4_questionFor_57 : decode cX4_questionFor 57 = .ok (.iload 7, 2) := by decide +kernel
theorem dX4_questionFor_59 : decode cX4_questionFor 59 = .ok (.iload 4, 2) := by decide +kernel
theorem dX4_questionFor_61 : decode cX4_questionFor 61 = .ok (.if_icmp .ge 10, 3) := by decide +kernel
theorem dX4_questionFor_64 : decode cX4_questionFor 64 = .ok (.iload 5, 2) := by decide +kernel
theorem dX4_questionFor_66 : decode cX4_questionFor 66 = .ok (.istore_n 3, 1) := by decide +kernel
theorem dX4_questionFor_67 : decode cX4_questionFor 67 = .ok (.iload 7, 2) := by decide +kernel
theorem dX4_questionFor_69 : decode cX4_questionFor 69 = .ok (.istore 4, 2) := by decide +kernel
theorem dX4_questionFor_71 : decode cX4_questionFor 71 = .ok (.iinc 5 1, 3) := by decide +kernel
theorem dX4_questionFor_74 : decode cX4_questionFor 74 = .ok (.goto (-60), 3) := by decide +kernel
theorem dX4_questionFor_77 : decode cX4_questionFor 77 = .ok (.iload_n 3, 1) := by decide +kernel
theorem dX4_questionFor_78 : decode cX4_questionFor 78 = .ok (.ireturn, 1) := by decide +kernel
theorem dX4_sortsThatCould_0 : decode cX4_sortsThatCould 0 = .ok (.iconst 0, 1) := by decide +kernel
theorem dX4_sortsThatCould_1 : decode cX4_sortsThatCould 1 = .ok (.istore_n 1, 1) := by decide +kernel
theorem dX4_sortsThatCould_2 : decode cX4_sortsThatCould 2 = .ok (.iconst 0, 1) := by decide +kernel
theorem dX4_sortsThatCould_3 : decode cX4_sortsThatCould 3 = .ok (.istore_n 2, 1) := by decide +kernel
theorem dX4_sortsThatCould_4 : decode cX4_sortsThatCould 4 = .ok (.iload_n 2, 1) := by decide +kernel
theorem dX4_sortsThatCould_5 : decode cX4_sortsThatCould 5 = .ok (.iconst 5, 1) := by decide +kernel
theorem dX4_sortsThatCould_6 : decode cX4_sortsThatCould 6 = .ok (.if_icmp .ge 23, 3) := by decide +kernel
theorem dX4_sortsThatCould_9 : decode cX4_sortsThatCould 9 = .ok (.iload_n 2, 1) := by decide +kernel
theorem dX4_sortsThatCould_10 : decode cX4_sortsThatCould 10 = .ok (.iload_n 0, 1) := by decide +kernel
theorem dX4_sortsThatCould_11 : decode cX4_sortsThatCould 11 = .ok (.invokestatic 48, 3) := by decide +kernel
theorem dX4_sortsThatCould_14 : decode cX4_sortsThatCould 14 = .ok (.ifCond .eq 9, 3) := by decide +kernel
theorem dX4_sortsThatCould_17 : decode cX4_sortsThatCould 17 = .ok (.iload_n 1, 1) := by decide +kernel
theorem dX4_sortsThatCould_18 : decode cX4_sortsThatCould 18 = .ok (.iconst 1, 1) := by decide +kernel
theorem dX4_sortsThatCould_19 : decode cX4_sortsThatCould 19 = .ok (.iload_n 2, 1) := by decide +kernel
theorem dX4_sortsThatCould_20 : decode cX4_sortsThatCould 20 = .ok (.ishl, 1) := by decide +kernel
theorem dX4_sortsThatCould_21 : decode cX4_sortsThatCould 21 = .ok (.ior, 1) := by decide +kernel
theorem dX4_sortsThatCould_22 : decode cX4_sortsThatCould 22 = .ok (.istore_n 1, 1) := by decide +kernel
theorem dX4_sortsThatCould_23 : decode cX4_sortsThatCould 23 = .ok (.iinc 2 1, 3) := by decide +kernel
theorem dX4_sortsThatCould_26 : decode cX4_sortsThatCould 26 = .ok (.goto (-22), 3) := by decide +kernel
theorem dX4_sortsThatCould_29 : decode cX4_sortsThatCould 29 = .ok (.iload_n 1, 1) := by decide +kernel
theorem dX4_sortsThatCould_30 : decode cX4_sortsThatCould 30 = .ok (.ireturn, 1) := by decide +kernel
theorem dX4_could_0 : decode cX4_could 0 = .ok (.iload_n 1, 1) := by decide +kernel
theorem dX4_could_1 : decode cX4_could 1 = .ok (.tableswitch 70 0 2 #[27, 41, 55], 27) := by decide +kernel
theorem dX4_could_28 : decode cX4_could 28 = .ok (.getstatic 52, 3) := by decide +kernel
theorem dX4_could_31 : decode cX4_could 31 = .ok (.iload_n 0, 1) := by decide +kernel
theorem dX4_could_32 : decode cX4_could 32 = .ok (.iaload, 1) := by decide +kernel
theorem dX4_could_33 : decode cX4_could 33 = .ok (.ifCond .le 7, 3) := by decide +kernel
theorem dX4_could_36 : decode cX4_could 36 = .ok (.iconst 1, 1) := by decide +kernel
theorem dX4_could_37 : decode cX4_could 37 = .ok (.goto 4, 3) := by decide +kernel
theorem dX4_could_40 : decode cX4_could 40 = .ok (.iconst 0, 1) := by decide +kernel
theorem dX4_could_41 : decode cX4_could 41 = .ok (.ireturn, 1) := by decide +kernel
theorem dX4_could_42 : decode cX4_could 42 = .ok (.getstatic 55, 3) := by decide +kernel
theorem dX4_could_45 : decode cX4_could 45 = .ok (.iload_n 0, 1) := by decide +kernel
theorem dX4_could_46 : decode cX4_could 46 = .ok (.iaload, 1) := by decide +kernel
theorem dX4_could_47 : decode cX4_could 47 = .ok (.ifCond .eq 7, 3) := by decide +kernel
theorem dX4_could_50 : decode cX4_could 50 = .ok (.iconst 1, 1) := by decide +kernel
theorem dX4_could_51 : decode cX4_could 51 = .ok (.goto 4, 3) := by decide +kernel
theorem dX4_could_54 : decode cX4_could 54 = .ok (.iconst 0, 1) := by decide +kernel
theorem dX4_could_55 : decode cX4_could 55 = .ok (.ireturn, 1) := by decide +kernel
theorem dX4_could_56 : decode cX4_could 56 = .ok (.getstatic 52, 3) := by decide +kernel
theorem dX4_could_59 : decode cX4_could 59 = .ok (.iload_n 0, 1) := by decide +kernel
theorem dX4_could_60 : decode cX4_could 60 = .ok (.iaload, 1) := by decide +kernel
theorem dX4_could_61 : decode cX4_could 61 = .ok (.iconst 2, 1) := by decide +kernel
theorem dX4_could_62 : decode cX4_could 62 = .ok (.if_icmp .ne 7, 3) := by decide +kernel
theorem dX4_could_65 : decode cX4_could 65 = .ok (.iconst 1, 1) := by decide +kernel
theorem dX4_could_66 : decode cX4_could 66 = .ok (.goto 4, 3) := by decide +kernel
theorem dX4_could_69 : decode cX4_could 69 = .ok (.iconst 0, 1) := by decide +kernel
theorem dX4_could_70 : decode cX4_could 70 = .ok (.ireturn, 1) := by decide +kernel
theorem dX4_could_71 : decode cX4_could 71 = .ok (.getstatic 55, 3) := by decide +kernel
theorem dX4_could_74 : decode cX4_could 74 = .ok (.iload_n 0, 1) := by decide +kernel
theorem dX4_could_75 : decode cX4_could 75 = .ok (.iaload, 1) := by decide +kernel
theorem dX4_could_76 : decode cX4_could 76 = .ok (.ifCond .eq 15, 3) := by decide +kernel
theorem dX4_could_79 : decode cX4_could 79 = .ok (.getstatic 52, 3) := by decide +kernel
theorem dX4_could_82 : decode cX4_could 82 = .ok (.iload_n 0, 1) := by decide +kernel
theorem dX4_could_83 : decode cX4_could 83 = .ok (.iaload, 1) := by decide +kernel
theorem dX4_could_84 : decode cX4_could 84 = .ok (.ifCond .ne 7, 3) := by decide +kernel
theorem dX4_could_87 : decode cX4_could 87 = .ok (.iconst 1, 1) := by decide +kernel
theorem dX4_could_88 : decode cX4_could 88 = .ok (.goto 4, 3) := by decide +kernel
theorem dX4_could_91 : decode cX4_could 91 = .ok (.iconst 0, 1) := by decide +kernel
theorem dX4_could_92 : decode cX4_could 92 = .ok (.ireturn, 1) := by decide +kernel
theorem dX5_init_0 : decode cX5_init 0 = .ok (.aload_n 0, 1) := by decide +kernel
theorem dX5_init_1 : decode cX5_init 1 = .ok (.invokespecial 3, 3) := by decide +kernel
theorem dX5_init_4 : decode cX5_init 4 = .ok (.aload_n 0, 1) := by decide +kernel
theorem dX5_init_5 : decode cX5_init 5 = .ok (.bipush 6, 2) := by decide +kernel
theorem dX5_init_7 : decode cX5_init 7 = .ok (.newarray .int, 2) := by decide +kernel
theorem dX5_init_9 : decode cX5_init 9 = .ok (.putfield 9, 3) := by decide +kernel
theorem dX5_init_12 : decode cX5_init 12 = .ok (.aload_n 0, 1) := by decide +kernel
theorem dX5_init_13 : decode cX5_init 13 = .ok (.bipush 6, 2) := by decide +kernel
theorem dX5_init_15 : decode cX5_init 15 = .ok (.newarray .int, 2) := by decide +kernel
theorem dX5_init_17 : decode cX5_init 17 = .ok (.putfield 15, 3) := by decide +kernel
theorem dX5_init_20 : decode cX5_init 20 = .ok (.aload_n 0, 1) := by decide +kernel
theorem dX5_init_21 : decode cX5_init 21 = .ok (.bipush 96, 2) := by decide +kernel
theorem dX5_init_23 : decode cX5_init 23 = .ok (.newarray .int, 2) := by decide +kernel
theorem dX5_init_25 : decode cX5_init 25 = .ok (.putfield 18, 3) := by decide +kernel
theorem dX5_init_28 : decode cX5_init 28 = .ok (.return_, 1) := by decide +kernel
theorem dX5_become_0 : decode cX5_become 0 = .ok (.aload_n 0, 1) := by decide +kernel
theorem dX5_become_1 : decode cX5_become 1 = .ok (.aload_n 1, 1) := by decide +kernel
theorem dX5_become_2 : decode cX5_become 2 = .ok (.getfield 21, 3) := by decide +kernel
theorem dX5_become_5 : decode cX5_become 5 = .ok (.putfield 21, 3) := by decide +kernel
theorem dX5_become_8 : decode cX5_become 8 = .ok (.aload_n 0, 1) := by decide +kernel
theorem dX5_become_9 : decode cX5_become 9 = .ok (.aload_n 1, 1) := by decide +kernel
theorem dX5_become_10 : decode cX5_become 10 = .ok (.getfield 25, 3) := by decide +kernel
theorem dX5_become_13 : decode cX5_become 13 = .ok (.putfield 25, 3) := by decide +kernel
theorem dX5_become_16 : decode cX5_become 16 = .ok (.aload_n 1, 1) := by decide +kernel
theorem dX5_become_17 : decode cX5_become 17 = .ok (.getfield 9, 3) := by decide +kernel
theorem dX5_become_20 : decode cX5_become 20 = .ok (.iconst 0, 1) := by decide +kernel
theorem dX5_become_21 : decode cX5_become 21 = .ok (.aload_n 0, 1) := by decide +kernel
theorem dX5_become_22 : decode cX5_become 22 = .ok (.getfield 9, 3) := by decide +kernel
theorem dX5_become_25 : decode cX5_become 25 = .ok (.iconst 0, 1) := by decide +kernel
theorem dX5_become_26 : decode cX5_become 26 = .ok (.bipush 6, 2) := by decide +kernel
theorem dX5_become_28 : decode cX5_become 28 = .ok (.invokestatic 28, 3) := by decide +kernel
theorem dX5_become_31 : decode cX5_become 31 = .ok (.aload_n 1, 1) := by decide +kernel
theorem dX5_become_32 : decode cX5_become 32 = .ok (.getfield 15, 3) := by decide +kernel
theorem dX5_become_35 : decode cX5_become 35 = .ok (.iconst 0, 1) := by decide +kernel
theorem dX5_become_36 : decode cX5_become 36 = .ok (.aload_n 0, 1) := by decide +kernel
theorem dX5_become_37 : decode cX5_become 37 = .ok (.getfield 15, 3) := by decide +kernel
theorem dX5_become_40 : decode cX5_become 40 = .ok (.iconst 0, 1) := by decide +kernel
theorem dX5_become_41 : decode cX5_become 41 = .ok (.bipush 6, 2) := by decide +kernel
theorem dX5_become_43 : decode cX5_become 43 = .ok (.invokestatic 28, 3) := by decide +kernel
theorem dX5_become_46 : decode cX5_become 46 = .ok (.aload_n 1, 1) := by decide +kernel
theorem dX5_become_47 : decode cX5_become 47 = .ok (.getfield 18, 3) := by decide +kernel
theorem dX5_become_50 : decode cX5_become 50 = .ok (.iconst 0, 1) := by decide +kernel
theorem dX5_become_51 : decode cX5_become 51 = .ok (.aload_n 0, 1) := by decide +kernel
theorem dX5_become_52 : decode cX5_become 52 = .ok (.getfield 18, 3) := by decide +kernel
theorem dX5_become_55 : decode cX5_become 55 = .ok (.iconst 0, 1) := by decide +kernel
theorem dX5_become_56 : decode cX5_become 56 = .ok (.bipush 96, 2) := by decide +kernel
theorem dX5_become_58 : decode cX5_become 58 = .ok (.invokestatic 28, 3) := by decide +kernel
theorem dX5_become_61 : decode cX5_become 61 = .ok (.return_, 1) := by decide +kernel
theorem dX5_putOver_0 : decode cX5_putOver 0 = .ok (.aload_n 0, 1) := by decide +kernel
theorem dX5_putOver_1 : decode cX5_putOver 1 = .ok (.getfield 9, 3) := by decide +kernel
theorem dX5_putOver_4 : decode cX5_putOver 4 = .ok (.iload_n 2, 1) := by decide +kernel
theorem dX5_putOver_5 : decode cX5_putOver 5 = .ok (.aload_n 0, 1) := by decide +kernel
theorem dX5_putOver_6 : decode cX5_putOver 6 = .ok (.getfield 9, 3) := by decide +kernel
theorem dX5_putOver_9 : decode cX5_putOver 9 = .ok (.iload_n 1, 1) := by decide +kernel
theorem dX5_putOver_10 : decode cX5_putOver 10 = .ok (.iaload, 1) := by decide +kernel
theorem dX5_putOver_11 : decode cX5_putOver 11 = .ok (.iastore, 1) := by decide +kernel
theorem dX5_putOver_12 : decode cX5_putOver 12 = .ok (.aload_n 0, 1) := by decide +kernel
theorem dX5_putOver_13 : decode cX5_putOver 13 = .ok (.getfield 15, 3) := by decide +kernel
theorem dX5_putOver_16 : decode cX5_putOver 16 = .ok (.iload_n 2, 1) := by decide +kernel
theorem dX5_putOver_17 : decode cX5_putOver 17 = .ok (.aload_n 0, 1) := by decide +kernel
theorem dX5_putOver_18 : decode cX5_putOver 18 = .ok (.getfield 15, 3) := by decide +kernel
theorem dX5_putOver_21 : decode cX5_putOver 21 = .ok (.iload_n 1, 1) := by decide +kernel
theorem dX5_putOver_22 : decode cX5_putOver 22 = .ok (.iaload, 1) := by decide +kernel
theorem dX5_putOver_23 : decode cX5_putOver 23 = .ok (.iastore, 1) := by decide +kernel
theorem dX5_putOver_24 : decode cX5_putOver 24 = .ok (.aload_n 0, 1) := by decide +kernel
theorem dX5_putOver_25 : decode cX5_putOver 25 = .ok (.getfield 18, 3) := by decide +kernel
theorem dX5_putOver_28 : decode cX5_putOver 28 = .ok (.iload_n 1, 1) := by decide +kernel
theorem dX5_putOver_29 : decode cX5_putOver 29 = .ok (.iconst 0, 1) := by decide +kernel
theorem dX5_putOver_30 : decode cX5_putOver 30 = .ok (.invokestatic 34, 3) := by decide +kernel
theorem dX5_putOver_33 : decode cX5_putOver 33 = .ok (.aload_n 0, 1) := by decide +kernel
theorem dX5_putOver_34 : decode cX5_putOver 34 = .ok (.getfield 18, 3) := by decide +kernel
theorem dX5_putOver_37 : decode cX5_putOver 37 = .ok (.iload_n 2, 1) := by decide +kernel
theorem dX5_putOver_38 : decode cX5_putOver 38 = .ok (.iconst 0, 1) := by decide +kernel
theorem dX5_putOver_39 : decode cX5_putOver 39 = .ok (.invokestatic 34, 3) := by decide +kernel
theorem dX5_putOver_42 : decode cX5_putOver 42 = .ok (.bipush 16, 2) := by decide +kernel
theorem dX5_putOver_44 : decode cX5_putOver 44 = .ok (.invokestatic 28, 3) := by decide +kernel
theorem dX5_putOver_47 : decode cX5_putOver 47 = .ok (.return_, 1) := by decide +kernel
theorem dX5_remove_0 : decode cX5_remove 0 = .ok (.iload_n 1, 1) := by decide +kernel
theorem dX5_remove_1 : decode cX5_remove 1 = .ok (.iconst 1, 1) := by decide +kernel
theorem dX5_remove_2 : decode cX5_remove 2 = .ok (.iadd, 1) := by decide +kernel
theorem dX5_remove_3 : decode cX5_remove 3 = .ok (.istore_n 2, 1) := by decide +kernel
theorem dX5_remove_4 : decode cX5_remove 4 = .ok (.iload_n 2, 1) := by decide +kernel
theorem dX5_remove_5 : decode cX5_remove 5 = .ok (.aload_n 0, 1) := by decide +kernel
theorem dX5_remove_6 : decode cX5_remove 6 = .ok (.getfield 21, 3) := by decide +kernel
theorem dX5_remove_9 : decode cX5_remove 9 = .ok (.if_icmp .ge 17, 3) := by decide +kernel
theorem dX5_remove_12 : decode cX5_remove 12 = .ok (.aload_n 0, 1) := by decide +kernel
theorem dX5_remove_13 : decode cX5_remove 13 = .ok (.iload_n 2, 1) := by decide +kernel
theorem dX5_remove_14 : decode cX5_remove 14 = .ok (.iload_n 2, 1) := by decide +kernel
theorem dX5_remove_15 : decode cX5_remove 15 = .ok (.iconst 1, 1) := by decide +kernel
theorem dX5_remove_16 : decode cX5_remove 16 = .ok (.isub, 1) := by decide +kernel
theorem dX5_remove_17 : decode cX5_remove 17 = .ok (.invokevirtual 38, 3) := by decide +kernel
theorem dX5_remove_20 : decode cX5_remove 20 = .ok (.iinc 2 1, 3) := by decide +kernel
theorem dX5_remove_23 : decode cX5_remove 23 = .ok (.goto (-19), 3) := by decide +kernel
theorem dX5_remove_26 : decode cX5_remove 26 = .ok (.aload_n 0, 1) := by decide +kernel
theorem dX5_remove_27 : decode cX5_remove 27 = .ok (.dup, 1) := by decide +kernel
theorem dX5_remove_28 : decode cX5_remove 28 = .ok (.getfield 21, 3) := by decide +kernel
theorem dX5_remove_31 : decode cX5_remove 31 = .ok (.iconst 1, 1) := by decide +kernel
theorem dX5_remove_32 : decode cX5_remove 32 = .ok (.isub, 1) := by decide +kernel
theorem dX5_remove_33 : decode cX5_remove 33 = .ok (.putfield 21, 3) := by decide +kernel
theorem dX5_remove_36 : decode cX5_remove 36 = .ok (.return_, 1) := by decide +kernel
theorem dX5_exchange_0 : decode cX5_exchange 0 = .ok (.iconst 0, 1) := by decide +kernel
theorem dX5_exchange_1 : decode cX5_exchange 1 = .ok (.istore_n 3, 1) := by decide +kernel
theorem dX5_exchange_2 : decode cX5_exchange 2 = .ok (.iload_n 3, 1) := by decide +kernel
theorem dX5_exchange_3 : decode cX5_exchange 3 = .ok (.aload_n 0, 1) := by decide +kernel
theorem dX5_exchange_4 : decode cX5_exchange 4 = .ok (.getfield 21, 3) := by decide +kernel
theorem dX5_exchange_7 : decode cX5_exchange 7 = .ok (.if_icmp .ge 81, 3) := by decide +kernel
theorem dX5_exchange_10 : decode cX5_exchange 10 = .ok (.iconst 0, 1) := by decide +kernel
theorem dX5_exchange_11 : decode cX5_exchange 11 = .ok (.istore 4, 2) := by decide +kernel
theorem dX5_exchange_13 : decode cX5_exchange 13 = .ok (.iload 4, 2) := by decide +kernel
theorem dX5_exchange_15 : decode cX5_exchange 15 = .ok (.aload_n 0, 1) := by decide +kernel
theorem dX5_exchange_16 : decode cX5_exchange 16 = .ok (.getfield 15, 3) := by decide +kernel
theorem dX5_exchange_19 : decode cX5_exchange 19 = .ok (.iload_n 3, 1) := by decide +kernel
theorem dX5_exchange_20 : decode cX5_exchange 20 = .ok (.iaload, 1) := by decide +kernel
theorem dX5_exchange_21 : decode cX5_exchange 21 = .ok (.if_icmp .ge 61, 3) := by decide +kernel
theorem dX5_exchange_24 : decode cX5_exchange 24 = .ok (.iload_n 3, 1) := by decide +kernel
theorem dX5_exchange_25 : decode cX5_exchange 25 = .ok (.iload_n 1, 1) := by decide +kernel
theorem dX5_exchange_26 : decode cX5_exchange 26 = .ok (.invokestatic 34, 3) := by decide +kernel
theorem dX5_exchange_29 : decode cX5_exchange 29 = .ok (.iload 4, 2) := by decide +kernel
theorem dX5_exchange_31 : decode cX5_exchange 31 = .ok (.iadd, 1) := by decide +kernel
theorem dX5_exchange_32 : decode cX5_exchange 32 = .ok (.istore 5, 2) := by decide +kernel
theorem dX5_exchange_34 : decode cX5_exchange 34 = .ok (.iload_n 3, 1) := by decide +kernel
theorem dX5_exchange_35 : decode cX5_exchange 35 = .ok (.iload_n 2, 1) := by decide +kernel
theorem dX5_exchange_36 : decode cX5_exchange 36 = .ok (.invokestatic 34, 3) := by decide +kernel
theorem dX5_exchange_39 : decode cX5_exchange 39 = .ok (.iload 4, 2) := by decide +kernel
theorem dX5_exchange_41 : decode cX5_exchange 41 = .ok (.iadd, 1) := by decide +kernel
theorem dX5_exchange_42 : decode cX5_exchange 42 = .ok (.istore 6, 2) := by decide +kernel
theorem dX5_exchange_44 : decode cX5_exchange 44 = .ok (.aload_n 0, 1) := by decide +kernel
theorem dX5_exchange_45 : decode cX5_exchange 45 = .ok (.getfield 18, 3) := by decide +kernel
theorem dX5_exchange_48 : decode cX5_exchange 48 = .ok (.iload 5, 2) := by decide +kernel
theorem dX5_exchange_50 : decode cX5_exchange 50 = .ok (.iaload, 1) := by decide +kernel
theorem dX5_exchange_51 : decode cX5_exchange 51 = .ok (.istore 7, 2) := by decide +kernel
theorem dX5_exchange_53 : decode cX5_exchange 53 = .ok (.aload_n 0, 1) := by decide +kernel
theorem dX5_exchange_54 : decode cX5_exchange 54 = .ok (.getfield 18, 3) := by decide +kernel
theorem dX5_exchange_57 : decode cX5_exchange 57 = .ok (.iload 5, 2) := by decide +kernel
theorem dX5_exchange_59 : decode cX5_exchange 59 = .ok (.aload_n 0, 1) := by decide +kernel
theorem dX5_exchange_60 : decode cX5_exchange 60 = .ok (.getfield 18, 3) := by decide +kernel
theorem dX5_exchange_63 : decode cX5_exchange 63 = .ok (.iload 6, 2) := by decide +kernel
theorem dX5_exchange_65 : decode cX5_exchange 65 = .ok (.iaload, 1) := by decide +kernel
theorem dX5_exchange_66 : decode cX5_exchange 66 = .ok (.iastore, 1) := by decide +kernel
theorem dX5_exchange_67 : decode cX5_exchange 67 = .ok (.aload_n 0, 1) := by decide +kernel
theorem dX5_exchange_68 : decode cX5_exchange 68 = .ok (.getfield 18, 3) := by decide +kernel
theorem dX5_exchange_71 : decode cX5_exchange 71 = .ok (.iload 6, 2) := by decide +kernel
theorem dX5_exchange_73 : decode cX5_exchange 73 = .ok (.iload 7, 2) := by decide +kernel
theorem dX5_exchange_75 : decode cX5_exchange 75 = .ok (.iastore, 1) := by decide +kernel
theorem dX5_exchange_76 : decode cX5_exchange 76 = .ok (.iinc 4 1, 3) := by decide +kernel
theorem dX5_exchange_79 : decode cX5_exchange 79 = .ok (.goto (-66), 3) := by decide +kernel
theorem dX5_exchange_82 : decode cX5_exchange 82 = .ok (.iinc 3 1, 3) := by decide +kernel
theorem dX5_exchange_85 : decode cX5_exchange 85 = .ok (.goto (-83), 3) := by decide +kernel
theorem dX5_exchange_88 : decode cX5_exchange 88 = .ok (.return_, 1) := by decide +kernel
theorem dX5_isSilentBut_0 : decode cX5_isSilentBut 0 = .ok (.iconst 0, 1) := by decide +kernel
theorem dX5_isSilentBut_1 : decode cX5_isSilentBut 1 = .ok (.istore 4, 2) := by decide +kernel
theorem dX5_isSilentBut_3 : decode cX5_isSilentBut 3 = .ok (.iload 4, 2) := by decide +kernel
theorem dX5_isSilentBut_5 : decode cX5_isSilentBut 5 = .ok (.aload_n 0, 1) := by decide +kernel
theorem dX5_isSilentBut_6 : decode cX5_isSilentBut 6 = .ok (.getfield 15, 3) := by decide +kernel
theorem dX5_isSilentBut_9 : decode cX5_isSilentBut 9 = .ok (.iload_n 1, 1) := by decide +kernel
theorem dX5_isSilentBut_10 : decode cX5_isSilentBut 10 = .ok (.iaload, 1) := by decide +kernel
theorem dX5_isSilentBut_11 : decode cX5_isSilentBut 11 = .ok (.if_icmp .ge 33, 3) := by decide +kernel
theorem dX5_isSilentBut_14 : decode cX5_isSilentBut 14 = .ok (.iload 4, 2) := by decide +kernel
theorem dX5_isSilentBut_16 : decode cX5_isSilentBut 16 = .ok (.iload_n 3, 1) := by decide +kernel
theorem dX5_isSilentBut_17 : decode cX5_isSilentBut 17 = .ok (.if_icmp .eq 21, 3) := by decide +kernel
theorem dX5_isSilentBut_20 : decode cX5_isSilentBut 20 = .ok (.aload_n 0, 1) := by decide +kernel
theorem dX5_isSilentBut_21 : decode cX5_isSilentBut 21 = .ok (.getfield 18, 3) := by decide +kernel
theorem dX5_isSilentBut_24 : decode cX5_isSilentBut 24 = .ok (.iload_n 1, 1) := by decide +kernel
theorem dX5_isSilentBut_25 : decode cX5_isSilentBut 25 = .ok (.iload_n 2, 1) := by decide +kernel
theorem dX5_isSilentBut_26 : decode cX5_isSilentBut 26 = .ok (.invokestatic 34, 3) := by decide +kernel
theorem dX5_isSilentBut_29 : decode cX5_isSilentBut 29 = .ok (.iload 4, 2) := by decide +kernel
theorem dX5_isSilentBut_31 : decode cX5_isSilentBut 31 = .ok (.iadd, 1) := by decide +kernel
theorem dX5_isSilentBut_32 : decode cX5_isSilentBut 32 = .ok (.iaload, 1) := by decide +kernel
theorem dX5_isSilentBut_33 : decode cX5_isSilentBut 33 = .ok (.ifCond .eq 5, 3) := by decide +kernel
theorem dX5_isSilentBut_36 : decode cX5_isSilentBut 36 = .ok (.iconst 0, 1) := by decide +kernel
theorem dX5_isSilentBut_37 : decode cX5_isSilentBut 37 = .ok (.ireturn, 1) := by decide +kernel
theorem dX5_isSilentBut_38 : decode cX5_isSilentBut 38 = .ok (.iinc 4 1, 3) := by decide +kernel
theorem dX5_isSilentBut_41 : decode cX5_isSilentBut 41 = .ok (.goto (-38), 3) := by decide +kernel
theorem dX5_isSilentBut_44 : decode cX5_isSilentBut 44 = .ok (.iconst 1, 1) := by decide +kernel
theorem dX5_isSilentBut_45 : decode cX5_isSilentBut 45 = .ok (.ireturn, 1) := by decide +kernel
theorem dX6_init_0 : decode cX6_init 0 = .ok (.aload_n 0, 1) := by decide +kernel
theorem dX6_init_1 : decode cX6_init 1 = .ok (.invokespecial 3, 3) := by decide +kernel
theorem dX6_init_4 : decode cX6_init 4 = .ok (.aload_n 0, 1) := by decide +kernel
theorem dX6_init_5 : decode cX6_init 5 = .ok (.sipush 168, 3) := by decide +kernel
theorem dX6_init_8 : decode cX6_init 8 = .ok (.newarray .int, 2) := by decide +kernel
theorem dX6_init_10 : decode cX6_init 10 = .ok (.putfield 9, 3) := by decide +kernel
theorem dX6_init_13 : decode cX6_init 13 = .ok (.aload_n 0, 1) := by decide +kernel
theorem dX6_init_14 : decode cX6_init 14 = .ok (.bipush 6, 2) := by decide +kernel
theorem dX6_init_16 : decode cX6_init 16 = .ok (.newarray .int, 2) := by decide +kernel
theorem dX6_init_18 : decode cX6_init 18 = .ok (.putfield 15, 3) := by decide +kernel
theorem dX6_init_21 : decode cX6_init 21 = .ok (.aload_n 0, 1) := by decide +kernel
theorem dX6_init_22 : decode cX6_init 22 = .ok (.bipush 24, 2) := by decide +kernel
theorem dX6_init_24 : decode cX6_init 24 = .ok (.newarray .int, 2) := by decide +kernel
theorem dX6_init_26 : decode cX6_init 26 = .ok (.putfield 18, 3) := by decide +kernel
theorem dX6_init_29 : decode cX6_init 29 = .ok (.aload_n 0, 1) := by decide +kernel
theorem dX6_init_30 : decode cX6_init 30 = .ok (.new 21, 3) := by decide +kernel
theorem dX6_init_33 : decode cX6_init 33 = .ok (.dup, 1) := by decide +kernel
theorem dX6_init_34 : decode cX6_init 34 = .ok (.invokespecial 23, 3) := by decide +kernel
theorem dX6_init_37 : decode cX6_init 37 = .ok (.putfield 24, 3) := by decide +kernel
theorem dX6_init_40 : decode cX6_init 40 = .ok (.aload_n 0, 1) := by decide +kernel
theorem dX6_init_41 : decode cX6_init 41 = .ok (.new 28, 3) := by decide +kernel
theorem dX6_init_44 : decode cX6_init 44 = .ok (.dup, 1) := by decide +kernel
theorem dX6_init_45 : decode cX6_init 45 = .ok (.invokespecial 30, 3) := by decide +kernel
theorem dX6_init_48 : decode cX6_init 48 = .ok (.putfield 31, 3) := by decide +kernel
theorem dX6_init_51 : decode cX6_init 51 = .ok (.return_, 1) := by decide +kernel
theorem dX6_renew_0 : decode cX6_renew 0 = .ok (.aload_n 0, 1) := by decide +kernel
theorem dX6_renew_1 : decode cX6_renew 1 = .ok (.getfield 31, 3) := by decide +kernel
theorem dX6_renew_4 : decode cX6_renew 4 = .ok (.aload_n 1, 1) := by decide +kernel
theorem dX6_renew_5 : decode cX6_renew 5 = .ok (.getfield 35, 3) := by decide +kernel
theorem dX6_renew_8 : decode cX6_renew 8 = .ok (.invokevirtual 41, 3) := by decide +kernel
theorem dX6_renew_11 : decode cX6_renew 11 = .ok (.aload_n 0, 1) := by decide +kernel
theorem dX6_renew_12 : decode cX6_renew 12 = .ok (.iconst 0, 1) := by decide +kernel
theorem dX6_renew_13 : decode cX6_renew 13 = .ok (.putfield 45, 3) := by decide +kernel
theorem dX6_renew_16 : decode cX6_renew 16 = .ok (.iconst 0, 1) := by decide +kernel
theorem dX6_renew_17 : decode cX6_renew 17 = .ok (.istore_n 2, 1) := by decide +kernel
theorem dX6_renew_18 : decode cX6_renew 18 = .ok (.iload_n 2, 1) := by decide +kernel
theorem dX6_renew_19 : decode cX6_renew 19 = .ok (.aload_n 1, 1) := by decide +kernel
theorem dX6_renew_20 : decode cX6_renew 20 = .ok (.getfield 48, 3) := by decide +kernel
theorem dX6_renew_23 : decode cX6_renew 23 = .ok (.if_icmp .ge 15, 3) := by decide +kernel
theorem dX6_renew_26 : decode cX6_renew 26 = .ok (.aload_n 0, 1) := by decide +kernel
theorem dX6_renew_27 : decode cX6_renew 27 = .ok (.aload_n 1, 1) := by decide +kernel
theorem dX6_renew_28 : decode cX6_renew 28 = .ok (.iload_n 2, 1) := by decide +kernel
theorem dX6_renew_29 : decode cX6_renew 29 = .ok (.invokevirtual 51, 3) := by decide +kernel
theorem dX6_renew_32 : decode cX6_renew 32 = .ok (.iinc 2 1, 3) := by decide +kernel
theorem dX6_renew_35 : decode cX6_renew 35 = .ok (.goto (-17), 3) := by decide +kernel
theorem dX6_renew_38 : decode cX6_renew 38 = .ok (.aload_n 0, 1) := by decide +kernel
theorem dX6_renew_39 : decode cX6_renew 39 = .ok (.getfield 24, 3) := by decide +kernel
theorem dX6_renew_42 : decode cX6_renew 42 = .ok (.invokevirtual 55, 3) := by decide +kernel
theorem dX6_renew_45 : decode cX6_renew 45 = .ok (.iconst 0, 1) := by decide +kernel
theorem dX6_renew_46 : decode cX6_renew 46 = .ok (.istore_n 2, 1) := by decide +kernel
theorem dX6_renew_47 : decode cX6_renew 47 = .ok (.iload_n 2, 1) := by decide +kernel
theorem dX6_renew_48 : decode cX6_renew 48 = .ok (.aload_n 1, 1) := by decide +kernel
theorem dX6_renew_49 : decode cX6_renew 49 = .ok (.getfield 48, 3) := by decide +kernel
theorem dX6_renew_52 : decode cX6_renew 52 = .ok (.if_icmp .ge 15, 3) := by decide +kernel
theorem dX6_renew_55 : decode cX6_renew 55 = .ok (.aload_n 0, 1) := by decide +kernel
theorem dX6_renew_56 : decode cX6_renew 56 = .ok (.aload_n 1, 1) := by decide +kernel
theorem dX6_renew_57 : decode cX6_renew 57 = .ok (.iload_n 2, 1) := by decide +kernel
theorem dX6_renew_58 : decode cX6_renew 58 = .ok (.invokevirtual 58, 3) := by decide +kernel
theorem dX6_renew_61 : decode cX6_renew 61 = .ok (.iinc 2 1, 3) := by decide +kernel
theorem dX6_renew_64 : decode cX6_renew 64 = .ok (.goto (-17), 3) := by decide +kernel
theorem dX6_renew_67 : decode cX6_renew 67 = .ok (.aload_n 0, 1) := by decide +kernel
theorem dX6_renew_68 : decode cX6_renew 68 = .ok (.getfield 24, 3) := by decide +kernel
theorem dX6_renew_71 : decode cX6_renew 71 = .ok (.aload_n 1, 1) := by decide +kernel
theorem dX6_renew_72 : decode cX6_renew 72 = .ok (.getfield 35, 3) := by decide +kernel
theorem dX6_renew_75 : decode cX6_renew 75 = .ok (.invokevirtual 61, 3) := by decide +kernel
theorem dX6_renew_78 : decode cX6_renew 78 = .ok (.iconst 0, 1) := by decide +kernel
theorem dX6_renew_79 : decode cX6_renew 79 = .ok (.istore_n 2, 1) := by decide +kernel
theorem dX6_renew_80 : decode cX6_renew 80 = .ok (.iload_n 2, 1) := by decide +kernel
theorem dX6_renew_81 : decode cX6_renew 81 = .ok (.aload_n 1, 1) := by decide +kernel
theorem dX6_renew_82 : decode cX6_renew 82 = .ok (.getfield 48, 3) := by decide +kernel
theorem dX6_renew_85 : decode cX6_renew 85 = .ok (.if_icmp .ge 15, 3) := by decide +kernel
theorem dX6_renew_88 : decode cX6_renew 88 = .ok (.aload_n 0, 1) := by decide +kernel
theorem dX6_renew_89 : decode cX6_renew 89 = .ok (.aload_n 1, 1) := by decide +kernel
theorem dX6_renew_90 : decode cX6_renew 90 = .ok (.iload_n 2, 1) := by decide +kernel
theorem dX6_renew_91 : decode cX6_renew 91 = .ok (.invokevirtual 64, 3) := by decide +kernel
theorem dX6_renew_94 : decode cX6_renew 94 = .ok (.iinc 2 1, 3) := by decide +kernel
theorem dX6_renew_97 : decode cX6_renew 97 = .ok (.goto (-17), 3) := by decide +kernel
theorem dX6_renew_100 : decode cX6_renew 100 = .ok (.return_, 1) := by decide +kernel
theorem dX6_oldSound_0 : decode cX6_oldSound 0 = .ok (.aload_n 0, 1) := by decide +kernel
theorem dX6_oldSound_1 : decode cX6_oldSound 1 = .ok (.getfield 9, 3) := by decide +kernel
theorem dX6_oldSound_4 : decode cX6_oldSound 4 = .ok (.iload_n 2, 1) := by decide +kernel
theorem dX6_oldSound_5 : decode cX6_oldSound 5 = .ok (.iload_n 3, 1) := by decide +kernel
theorem dX6_oldSound_6 : decode cX6_oldSound 6 = .ok (.invokestatic 67, 3) := by decide +kernel
theorem dX6_oldSound_9 : decode cX6_oldSound 9 = .ok (.aload_n 1, 1) := by decide +kernel
theorem dX6_oldSound_10 : decode cX6_oldSound 10 = .ok (.getfield 35, 3) := by decide +kernel
theorem dX6_oldSound_13 : decode cX6_oldSound 13 = .ok (.invokestatic 71, 3) := by decide +kernel
theorem dX6_oldSound_16 : decode cX6_oldSound 16 = .ok (.iadd, 1) := by decide +kernel
theorem dX6_oldSound_17 : decode cX6_oldSound 17 = .ok (.iconst 1, 1) := by decide +kernel
theorem dX6_oldSound_18 : decode cX6_oldSound 18 = .ok (.isub, 1) := by decide +kernel
theorem dX6_oldSound_19 : decode cX6_oldSound 19 = .ok (.iaload, 1) := by decide +kernel
theorem dX6_oldSound_20 : decode cX6_oldSound 20 = .ok (.ireturn, 1) := by decide +kernel
theorem dX6_strangeInSet_0 : decode cX6_strangeInSet 0 = .ok (.iconst 0, 1) := by decide +kernel
theorem dX6_strangeInSet_1 : decode cX6_strangeInSet 1 = .ok (.istore_n 2, 1) := by decide +kernel
theorem dX6_strangeInSet_2 : decode cX6_strangeInSet 2 = .ok (.iconst 0, 1) := by decide +kernel
theorem dX6_strangeInSet_3 : decode cX6_strangeInSet 3 = .ok (.istore_n 3, 1) := by decide +kernel
theorem dX6_strangeInSet_4 : decode cX6_strangeInSet 4 = .ok (.iload_n 3, 1) := by decide +kernel
theorem dX6_strangeInSet_5 : decode cX6_strangeInSet 5 = .ok (.iconst 4, 1) := by decide +kernel
theorem dX6_strangeInSet_6 : decode cX6_strangeInSet 6 = .ok (.if_icmp .ge 22, 3) := by decide +kernel
theorem dX6_strangeInSet_9 : decode cX6_strangeInSet 9 = .ok (.iload_n 2, 1) := by decide +kernel
theorem dX6_strangeInSet_10 : decode cX6_strangeInSet 10 = .ok (.aload_n 0, 1) := by decide +kernel
theorem dX6_strangeInSet_11 : decode cX6_strangeInSet 11 = .ok (.getfield 18, 3) := by decide +kernel
theorem dX6_strangeInSet_14 : decode cX6_strangeInSet 14 = .ok (.iload_n 1, 1) := by decide +kernel
theorem dX6_strangeInSet_15 : decode cX6_strangeInSet 15 = .ok (.iconst 4, 1) := by decide +kernel
theorem dX6_strangeInSet_16 : decode cX6_strangeInSet 16 = .ok (.imul, 1) := by decide +kernel
theorem dX6_strangeInSet_17 : decode cX6_strangeInSet 17 = .ok (.iload_n 3, 1) := by decide +kernel
theorem dX6_strangeInSet_18 : decode cX6_strangeInSet 18 = .ok (.iadd, 1) := by decide +kernel
theorem dX6_strangeInSet_19 : decode cX6_strangeInSet 19 = .ok (.iaload, 1) := by decide +kernel
theorem dX6_strangeInSet_20 : decode cX6_strangeInSet 20 = .ok (.iadd, 1) := by decide +kernel
theorem dX6_strangeInSet_21 : decode cX6_strangeInSet 21 = .ok (.istore_n 2, 1) := by decide +kernel
theorem dX6_strangeInSet_22 : decode cX6_strangeInSet 22 = .ok (.iinc 3 1, 3) := by decide +kernel
theorem dX6_strangeInSet_25 : decode cX6_strangeInSet 25 = .ok (.goto (-21), 3) := by decide +kernel
theorem dX6_strangeInSet_28 : decode cX6_strangeInSet 28 = .ok (.iload_n 2, 1) := by decide +kernel
theorem dX6_strangeInSet_29 : decode cX6_strangeInSet 29 = .ok (.ireturn, 1) := by decide +kernel
theorem dX6_borrowedTongues_0 : decode cX6_borrowedTongues 0 = .ok (.iconst 0, 1) := by decide +kernel
theorem dX6_borrowedTongues_1 : decode cX6_borrowedTongues 1 = .ok (.istore_n 3, 1) := by decide +kernel
theorem dX6_borrowedTongues_2 : decode cX6_borrowedTongues 2 = .ok (.iconst 0, 1) := by decide +kernel
theorem dX6_borrowedTongues_3 : decode cX6_borrowedTongues 3 = .ok (.istore 4, 2) := by decide +kernel
theorem dX6_borrowedTongues_5 : decode cX6_borrowedTongues 5 = .ok (.iload 4, 2) := by decide +kernel
theorem dX6_borrowedTongues_7 : decode cX6_borrowedTongues 7 = .ok (.aload_n 1, 1) := by decide +kernel
theorem dX6_borrowedTongues_8 : decode cX6_borrowedTongues 8 = .ok (.getfield 35, 3) := by decide +kernel
theorem dX6_borrowedTongues_11 : decode cX6_borrowedTongues 11 = .ok (.if_icmp .ge 46, 3) := by decide +kernel
theorem dX6_borrowedTongues_14 : decode cX6_borrowedTongues 14 = .ok (.aload_n 0, 1) := by decide +kernel
theorem dX6_borrowedTongues_15 : decode cX6_borrowedTongues 15 = .ok (.getfield 18, 3) := by decide +kernel
theorem dX6_borrowedTongues_18 : decode cX6_borrowedTongues 18 = .ok (.iload_n 2, 1) := by decide +kernel
theorem dX6_borrowedTongues_19 : decode cX6_borrowedTongues 19 = .ok (.iconst 4, 1) := by decide +kernel
theorem dX6_borrowedTongues_20 : decode cX6_borrowedTongues 20 = .ok (.imul, 1) := by decide +kernel
theorem dX6_borrowedTongues_21 : decode cX6_borrowedTongues 21 = .ok (.iload 4, 2) := by decide +kernel
theorem dX6_borrowedTongues_23 : decode cX6_borrowedTongues 23 = .ok (.iadd, 1) := by decide +kernel
theorem dX6_borrowedTongues_24 : decode cX6_borrowedTongues 24 = .ok (.iaload, 1) := by decide +kernel
theorem dX6_borrowedTongues_25 : decode cX6_borrowedTongues 25 = .ok (.istore 5, 2) := by decide +kernel
theorem dX6_borrowedTongues_27 : decode cX6_borrowedTongues 27 = .ok (.iload 5, 2) := by decide +kernel
theorem dX6_borrowedTongues_29 : decode cX6_borrowedTongues 29 = .ok (.iconst 2, 1) := by decide +kernel
theorem dX6_borrowedTongues_30 : decode cX6_borrowedTongues 30 = .ok (.if_icmp .ge 14, 3) := by decide +kernel
theorem dX6_borrowedTongues_33 : decode cX6_borrowedTongues 33 = .ok (.iload 5, 2) := by decide +kernel
theorem dX6_borrowedTongues_35 : decode cX6_borrowedTongues 35 = .ok (.aload_n 1, 1) := by decide +kernel
theorem dX6_borrowedTongues_36 : decode cX6_borrowedTongues 36 = .ok (.getfield 75, 3) := by decide +kernel
theorem dX6_borrowedTongues_39 : decode cX6_borrowedTongues 39 = .ok (.iload_n 2, 1) := by decide +kernel
theorem dX6_borrowedTongues_40 : decode cX6_borrowedTongues 40 = .ok (.iaload, 1) := by decide +kernel
theorem dX6_borrowedTongues_41 : decode cX6_borrowedTongues 41 = .ok (.if_icmp .ne 10, 3) := by decide +kernel
theorem dX6_borrowedTongues_44 : decode cX6_borrowedTongues 44 = .ok (.iload_n 3, 1) := by decide +kernel
theorem dX6_borrowedTongues_45 : decode cX6_borrowedTongues 45 = .ok (.iconst 1, 1) := by decide +kernel
theorem dX6_borrowedTongues_46 : decode cX6_borrowedTongues 46 = .ok (.iload 4, 2) := by decide +kernel
theorem dX6_borrowedTongues_48 : decode cX6_borrowedTongues 48 = .ok (.ishl, 1) := by decide +kernel
theorem dX6_borrowedTongues_49 : decode cX6_borrowedTongues 49 = .ok (.ior, 1) := by decide +kernel
theorem dX6_borrowedTongues_50 : decode cX6_borrowedTongues 50 = .ok (.istore_n 3, 1) := by decide +kernel
theorem dX6_borrowedTongues_51 : decode cX6_borrowedTongues 51 = .ok (.iinc 4 1, 3) := by decide +kernel
theorem dX6_borrowedTongues_54 : decode cX6_borrowedTongues 54 = .ok (.goto (-49), 3) := by decide +kernel
theorem dX6_borrowedTongues_57 : decode cX6_borrowedTongues 57 = .ok (.iload_n 3, 1) := by decide +kernel
theorem dX6_borrowedTongues_58 : decode cX6_borrowedTongues 58 = .ok (.ireturn, 1) := by decide +kernel
theorem dX6_borrowedWords_0 : decode cX6_borrowedWords 0 = .ok (.iconst 0, 1) := by decide +kernel
theorem dX6_borrowedWords_1 : decode cX6_borrowedWords 1 = .ok (.istore_n 2, 1) := by decide +kernel
theorem dX6_borrowedWords_2 : decode cX6_borrowedWords 2 = .ok (.iconst 0, 1) := by decide +kernel
theorem dX6_borrowedWords_3 : decode cX6_borrowedWords 3 = .ok (.istore_n 3, 1) := by decide +kernel
theorem dX6_borrowedWords_4 : decode cX6_borrowedWords 4 = .ok (.iload_n 3, 1) := by decide +kernel
theorem dX6_borrowedWords_5 : decode cX6_borrowedWords 5 = .ok (.aload_n 1, 1) := by decide +kernel
theorem dX6_borrowedWords_6 : decode cX6_borrowedWords 6 = .ok (.getfield 48, 3) := by decide +kernel
theorem dX6_borrowedWords_9 : decode cX6_borrowedWords 9 = .ok (.if_icmp .ge 21, 3) := by decide +kernel
theorem dX6_borrowedWords_12 : decode cX6_borrowedWords 12 = .ok (.iload_n 2, 1) := by decide +kernel
theorem dX6_borrowedWords_13 : decode cX6_borrowedWords 13 = .ok (.aload_n 0, 1) := by decide +kernel
theorem dX6_borrowedWords_14 : decode cX6_borrowedWords 14 = .ok (.aload_n 1, 1) := by decide +kernel
theorem dX6_borrowedWords_15 : decode cX6_borrowedWords 15 = .ok (.iload_n 3, 1) := by decide +kernel
theorem dX6_borrowedWords_16 : decode cX6_borrowedWords 16 = .ok (.invokevirtual 78, 3) := by decide +kernel
theorem dX6_borrowedWords_19 : decode cX6_borrowedWords 19 = .ok (.invokestatic 82, 3) := by decide +kernel
theorem dX6_borrowedWords_22 : decode cX6_borrowedWords 22 = .ok (.iadd, 1) := by decide +kernel
theorem dX6_borrowedWords_23 : decode cX6_borrowedWords 23 = .ok (.istore_n 2, 1) := by decide +kernel
theorem dX6_borrowedWords_24 : decode cX6_borrowedWords 24 = .ok (.iinc 3 1, 3) := by decide +kernel
theorem dX6_borrowedWords_27 : decode cX6_borrowedWords 27 = .ok (.goto (-23), 3) := by decide +kernel
theorem dX6_borrowedWords_30 : decode cX6_borrowedWords 30 = .ok (.iload_n 2, 1) := by decide +kernel
theorem dX6_borrowedWords_31 : decode cX6_borrowedWords 31 = .ok (.ireturn, 1) := by decide +kernel
theorem dX6_rebuild_0 : decode cX6_rebuild 0 = .ok (.aload_n 0, 1) := by decide +kernel
theorem dX6_rebuild_1 : decode cX6_rebuild 1 = .ok (.getfield 15, 3) := by decide +kernel
theorem dX6_rebuild_4 : decode cX6_rebuild 4 = .ok (.iload_n 2, 1) := by decide +kernel
theorem dX6_rebuild_5 : decode cX6_rebuild 5 = .ok (.iconst (-1), 1) := by decide +kernel
theorem dX6_rebuild_6 : decode cX6_rebuild 6 = .ok (.iastore, 1) := by decide +kernel
theorem dX6_rebuild_7 : decode cX6_rebuild 7 = .ok (.getstatic 87, 3) := by decide +kernel
theorem dX6_rebuild_10 : decode cX6_rebuild 10 = .ok (.aload_n 1, 1) := by decide +kernel
theorem dX6_rebuild_11 : decode cX6_rebuild 11 = .ok (.getfield 90, 3) := by decide +kernel
theorem dX6_rebuild_14 : decode cX6_rebuild 14 = .ok (.iload_n 2, 1) := by decide +kernel
theorem dX6_rebuild_15 : decode cX6_rebuild 15 = .ok (.iaload, 1) := by decide +kernel
theorem dX6_rebuild_16 : decode cX6_rebuild 16 = .ok (.iaload, 1) := by decide +kernel
theorem dX6_rebuild_17 : decode cX6_rebuild 17 = .ok (.ifCond .ne 4, 3) := by decide +kernel
theorem dX6_rebuild_20 : decode cX6_rebuild 20 = .ok (.return_, 1) := by decide +kernel
theorem dX6_rebuild_21 : decode cX6_rebuild 21 = .ok (.iconst 0, 1) := by decide +kernel
theorem dX6_rebuild_22 : decode cX6_rebuild 22 = .ok (.istore_n 3, 1) := by decide +kernel
theorem dX6_rebuild_23 : decode cX6_rebuild 23 = .ok (.iconst 0, 1) := by decide +kernel
theorem dX6_rebuild_24 : decode cX6_rebuild 24 = .ok (.istore 4, 2) := by decide +kernel
theorem dX6_rebuild_26 : decode cX6_rebuild 26 = .ok (.iload 4, 2) := by decide +kernel
theorem dX6_rebuild_28 : decode cX6_rebuild 28 = .ok (.aload_n 1, 1) := by decide +kernel
theorem dX6_rebuild_29 : decode cX6_rebuild 29 = .ok (.getfield 75, 3) := by decide +kernel
theorem dX6_rebuild_32 : decode cX6_rebuild 32 = .ok (.iload_n 2, 1) := by decide +kernel
theorem dX6_rebuild_33 : decode cX6_rebuild 33 = .ok (.iaload, 1) := by decide +kernel
theorem dX6_rebuild_34 : decode cX6_rebuild 34 = .ok (.if_icmp .ge 91, 3) := by decide +kernel
theorem dX6_rebuild_37 : decode cX6_rebuild 37 = .ok (.iconst 0, 1) := by decide +kernel
theorem dX6_rebuild_38 : decode cX6_rebuild 38 = .ok (.istore 5, 2) := by decide +kernel
theorem dX6_rebuild_40 : decode cX6_rebuild 40 = .ok (.iload 5, 2) := by decide +kernel
theorem dX6_rebuild_42 : decode cX6_rebuild 42 = .ok (.aload_n 1, 1) := by decide +kernel
theorem dX6_rebuild_43 : decode cX6_rebuild 43 = .ok (.getfield 35, 3) := by decide +kernel
theorem dX6_rebuild_46 : decode cX6_rebuild 46 = .ok (.if_icmp .ge 33, 3) := by decide +kernel
theorem dX6_rebuild_49 : decode cX6_rebuild 49 = .ok (.aload_n 0, 1) := by decide +kernel
theorem dX6_rebuild_50 : decode cX6_rebuild 50 = .ok (.getfield 31, 3) := by decide +kernel
theorem dX6_rebuild_53 : decode cX6_rebuild 53 = .ok (.getfield 93, 3) := by decide +kernel
theorem dX6_rebuild_56 : decode cX6_rebuild 56 = .ok (.iload 5, 2) := by decide +kernel
theorem dX6_rebuild_58 : decode cX6_rebuild 58 = .ok (.aload_n 1, 1) := by decide +kernel
theorem dX6_rebuild_59 : decode cX6_rebuild 59 = .ok (.getfield 94, 3) := by decide +kernel
theorem dX6_rebuild_62 : decode cX6_rebuild 62 = .ok (.iload_n 2, 1) := by decide +kernel
theorem dX6_rebuild_63 : decode cX6_rebuild 63 = .ok (.iload 5, 2) := by decide +kernel
theorem dX6_rebuild_65 : decode cX6_rebuild 65 = .ok (.invokestatic 97, 3) := by decide +kernel
theorem dX6_rebuild_68 : decode cX6_rebuild 68 = .ok (.iload 4, 2) := by decide +kernel
theorem dX6_rebuild_70 : decode cX6_rebuild 70 = .ok (.iadd, 1) := by decide +kernel
theorem dX6_rebuild_71 : decode cX6_rebuild 71 = .ok (.iaload, 1) := by decide +kernel
theorem dX6_rebuild_72 : decode cX6_rebuild 72 = .ok (.iastore, 1) := by decide +kernel
theorem dX6_rebuild_73 : decode cX6_rebuild 73 = .ok (.iinc 5 1, 3) := by decide +kernel
theorem dX6_rebuild_76 : decode cX6_rebuild 76 = .ok (.goto (-36), 3) := by decide +kernel
theorem dX6_rebuild_79 : decode cX6_rebuild 79 = .ok (.iload_n 3, 1) := by decide +kernel
theorem dX6_rebuild_80 : decode cX6_rebuild 80 = .ok (.aload_n 0, 1) := by decide +kernel
theorem dX6_rebuild_81 : decode cX6_rebuild 81 = .ok (.getfield 31, 3) := by decide +kernel
theorem dX6_rebuild_84 : decode cX6_rebuild 84 = .ok (.invokevirtual 100, 3) := by decide +kernel
theorem dX6_rebuild_87 : decode cX6_rebuild 87 = .ok (.iadd, 1) := by decide +kernel
theorem dX6_rebuild_88 : decode cX6_rebuild 88 = .ok (.istore_n 3, 1) := by decide +kernel
theorem dX6_rebuild_89 : decode cX6_rebuild 89 = .ok (.aload_n 0, 1) := by decide +kernel
theorem dX6_rebuild_90 : decode cX6_rebuild 90 = .ok (.getfield 31, 3) := by decide +kernel
theorem dX6_rebuild_93 : decode cX6_rebuild 93 = .ok (.invokevirtual 104, 3) := by decide +kernel
theorem dX6_rebuild_96 : decode cX6_rebuild 96 = .ok (.aload_n 0, 1) := by decide +kernel
theorem dX6_rebuild_97 : decode cX6_rebuild 97 = .ok (.getfield 31, 3) := by decide +kernel
theorem dX6_rebuild_100 : decode cX6_rebuild 100 = .ok (.getfield 93, 3) := by decide +kernel
theorem dX6_rebuild_103 : decode cX6_rebuild 103 = .ok (.iconst 0, 1) := by decide +kernel
theorem dX6_rebuild_104 : decode cX6_rebuild 104 = .ok (.aload_n 0, 1) := by decide +kernel
theorem dX6_rebuild_105 : decode cX6_rebuild 105 = .ok (.getfield 9, 3) := by decide +kernel
theorem dX6_rebuild_108 : decode cX6_rebuild 108 = .ok (.iload_n 2, 1) := by decide +kernel
theorem dX6_rebuild_109 : decode cX6_rebuild 109 = .ok (.iload 4, 2) := by decide +kernel
theorem dX6_rebuild_111 : decode cX6_rebuild 111 = .ok (.invokestatic 67, 3) := by decide +kernel
theorem dX6_rebuild_114 : decode cX6_rebuild 114 = .ok (.bipush 7, 2) := by decide +kernel
theorem dX6_rebuild_116 : decode cX6_rebuild 116 = .ok (.invokestatic 107, 3) := by decide +kernel
theorem dX6_rebuild_119 : decode cX6_rebuild 119 = .ok (.iinc 4 1, 3) := by decide +kernel
theorem dX6_rebuild_122 : decode cX6_rebuild 122 = .ok (.goto (-96), 3) := by decide +kernel
theorem dX6_rebuild_125 : decode cX6_rebuild 125 = .ok (.aload_n 0, 1) := by decide +kernel
theorem dX6_rebuild_126 : decode cX6_rebuild 126 = .ok (.getfield 15, 3) := by decide +kernel
theorem dX6_rebuild_129 : decode cX6_rebuild 129 = .ok (.iload_n 2, 1) := by decide +kernel
theorem dX6_rebuild_130 : decode cX6_rebuild 130 = .ok (.iload_n 3, 1) := by decide +kernel
theorem dX6_rebuild_131 : decode cX6_rebuild 131 = .ok (.iastore, 1) := by decide +kernel
theorem dX6_rebuild_132 : decode cX6_rebuild 132 = .ok (.aload_n 0, 1) := by decide +kernel
theorem dX6_rebuild_133 : decode cX6_rebuild 133 = .ok (.dup, 1) := by decide +kernel
theorem dX6_rebuild_134 : decode cX6_rebuild 134 = .ok (.getfield 45, 3) := by decide +kernel
theorem dX6_rebuild_137 : decode cX6_rebuild 137 = .ok (.iload_n 3, 1) := by decide +kernel
theorem dX6_rebuild_138 : decode cX6_rebuild 138 = .ok (.iadd, 1) := by decide +kernel
theorem dX6_rebuild_139 : decode cX6_rebuild 139 = .ok (.putfield 45, 3) := by decide +kernel
theorem dX6_rebuild_142 : decode cX6_rebuild 142 = .ok (.return_, 1) := by decide +kernel
theorem dX6_weigh_0 : decode cX6_weigh 0 = .ok (.getstatic 113, 3) := by decide +kernel
theorem dX6_weigh_3 : decode cX6_weigh 3 = .ok (.aload_n 1, 1) := by decide +kernel
theorem dX6_weigh_4 : decode cX6_weigh 4 = .ok (.getfield 90, 3) := by decide +kernel
theorem dX6_weigh_7 : decode cX6_weigh 7 = .ok (.iload_n 2, 1) := by decide +kernel
theorem dX6_weigh_8 : decode cX6_weigh 8 = .ok (.iaload, 1) := by decide +kernel
theorem dX6_weigh_9 : decode cX6_weigh 9 = .ok (.iaload, 1) := by decide +kernel
theorem dX6_weigh_10 : decode cX6_weigh 10 = .ok (.istore_n 3, 1) := by decide +kernel
theorem dX6_weigh_11 : decode cX6_weigh 11 = .ok (.iload_n 3, 1) := by decide +kernel
theorem dX6_weigh_12 : decode cX6_weigh 12 = .ok (.ifCond .ne 4, 3) := by decide +kernel
theorem dX6_weigh_15 : decode cX6_weigh 15 = .ok (.return_, 1) := by decide +kernel
theorem dX6_weigh_16 : decode cX6_weigh 16 = .ok (.iconst 0, 1) := by decide +kernel
theorem dX6_weigh_17 : decode cX6_weigh 17 = .ok (.istore 4, 2) := by decide +kernel
theorem dX6_weigh_19 : decode cX6_weigh 19 = .ok (.iload 4, 2) := by decide +kernel
theorem dX6_weigh_21 : decode cX6_weigh 21 = .ok (.aload_n 1, 1) := by decide +kernel
theorem dX6_weigh_22 : decode cX6_weigh 22 = .ok (.getfield 75, 3) := by decide +kernel
theorem dX6_weigh_25 : decode cX6_weigh 25 = .ok (.iload_n 2, 1) := by decide +kernel
theorem dX6_weigh_26 : decode cX6_weigh 26 = .ok (.iaload, 1) := by decide +kernel
theorem dX6_weigh_27 : decode cX6_weigh 27 = .ok (.if_icmp .ge 75, 3) := by decide +kernel
theorem dX6_weigh_30 : decode cX6_weigh 30 = .ok (.aload_n 0, 1) := by decide +kernel
theorem dX6_weigh_31 : decode cX6_weigh 31 = .ok (.aload_n 1, 1) := by decide +kernel
theorem dX6_weigh_32 : decode cX6_weigh 32 = .ok (.iload_n 2, 1) := by decide +kernel
theorem dX6_weigh_33 : decode cX6_weigh 33 = .ok (.iload 4, 2) := by decide +kernel
theorem dX6_weigh_35 : decode cX6_weigh 35 = .ok (.invokevirtual 116, 3) := by decide +kernel
theorem dX6_weigh_38 : decode cX6_weigh 38 = .ok (.istore 5, 2) := by decide +kernel
theorem dX6_weigh_40 : decode cX6_weigh 40 = .ok (.iconst 0, 1) := by decide +kernel
theorem dX6_weigh_41 : decode cX6_weigh 41 = .ok (.istore 6, 2) := by decide +kernel
theorem dX6_weigh_43 : decode cX6_weigh 43 = .ok (.iload 6, 2) := by decide +kernel
theorem dX6_weigh_45 : decode cX6_weigh 45 = .ok (.aload_n 1, 1) := by decide +kernel
theorem dX6_weigh_46 : decode cX6_weigh 46 = .ok (.getfield 35, 3) := by decide +kernel
theorem dX6_weigh_49 : decode cX6_weigh 49 = .ok (.if_icmp .ge 47, 3) := by decide +kernel
theorem dX6_weigh_52 : decode cX6_weigh 52 = .ok (.aload_n 1, 1) := by decide +kernel
theorem dX6_weigh_53 : decode cX6_weigh 53 = .ok (.getfield 94, 3) := by decide +kernel
theorem dX6_weigh_56 : decode cX6_weigh 56 = .ok (.iload_n 2, 1) := by decide +kernel
theorem dX6_weigh_57 : decode cX6_weigh 57 = .ok (.iload 6, 2) := by decide +kernel
theorem dX6_weigh_59 : decode cX6_weigh 59 = .ok (.invokestatic 97, 3) := by decide +kernel
theorem dX6_weigh_62 : decode cX6_weigh 62 = .ok (.iload 4, 2) := by decide +kernel
theorem dX6_weigh_64 : decode cX6_weigh 64 = .ok (.iadd, 1) := by decide +kernel
theorem dX6_weigh_65 : decode cX6_weigh 65 = .ok (.iaload, 1) := by decide +kernel
theorem dX6_weigh_66 : decode cX6_weigh 66 = .ok (.istore 7, 2) := by decide +kernel
theorem dX6_weigh_68 : decode cX6_weigh 68 = .ok (.aload_n 0, 1) := by decide +kernel
theorem dX6_weigh_69 : decode cX6_weigh 69 = .ok (.getfield 24, 3) := by decide +kernel
theorem dX6_weigh_72 : decode cX6_weigh 72 = .ok (.iload 6, 2) := by decide +kernel
theorem dX6_weigh_74 : decode cX6_weigh 74 = .ok (.iload 5, 2) := by decide +kernel
theorem dX6_weigh_76 : decode cX6_weigh 76 = .ok (.iload 4, 2) := by decide +kernel
theorem dX6_weigh_78 : decode cX6_weigh 78 = .ok (.invokestatic 120, 3) := by decide +kernel
theorem dX6_weigh_81 : decode cX6_weigh 81 = .ok (.invokestatic 123, 3) := by decide +kernel
theorem dX6_weigh_84 : decode cX6_weigh 84 = .ok (.iload 7, 2) := by decide +kernel
theorem dX6_weigh_86 : decode cX6_weigh 86 = .ok (.iload_n 3, 1) := by decide +kernel
theorem dX6_weigh_87 : decode cX6_weigh 87 = .ok (.invokevirtual 127, 3) := by decide +kernel
theorem dX6_weigh_90 : decode cX6_weigh 90 = .ok (.iinc 6 1, 3) := by decide +kernel
theorem dX6_weigh_93 : decode cX6_weigh 93 = .ok (.goto (-50), 3) := by decide +kernel
theorem dX6_weigh_96 : decode cX6_weigh 96 = .ok (.iinc 4 1, 3) := by decide +kernel
theorem dX6_weigh_99 : decode cX6_weigh 99 = .ok (.goto (-80), 3) := by decide +kernel
theorem dX6_weigh_102 : decode cX6_weigh 102 = .ok (.return_, 1) := by decide +kernel
theorem dX6_findStrange_0 : decode cX6_findStrange 0 = .ok (.iconst 0, 1) := by decide +kernel
theorem dX6_findStrange_1 : decode cX6_findStrange 1 = .ok (.istore_n 3, 1) := by decide +kernel
theorem dX6_findStrange_2 : decode cX6_findStrange 2 = .ok (.iload_n 3, 1) := by decide +kernel
theorem dX6_findStrange_3 : decode cX6_findStrange 3 = .ok (.iconst 4, 1) := by decide +kernel
theorem dX6_findStrange_4 : decode cX6_findStrange 4 = .ok (.if_icmp .ge 20, 3) := by decide +kernel
theorem dX6_findStrange_7 : decode cX6_findStrange 7 = .ok (.aload_n 0, 1) := by decide +kernel
theorem dX6_findStrange_8 : decode cX6_findStrange 8 = .ok (.getfield 18, 3) := by decide +kernel
theorem dX6_findStrange_11 : decode cX6_findStrange 11 = .ok (.iload_n 2, 1) := by decide +kernel
theorem dX6_findStrange_12 : decode cX6_findStrange 12 = .ok (.iconst 4, 1) := by decide +kernel
theorem dX6_findStrange_13 : decode cX6_findStrange 13 = .ok (.imul, 1) := by decide +kernel
theorem dX6_findStrange_14 : decode cX6_findStrange 14 = .ok (.iload_n 3, 1) := by decide +kernel
theorem dX6_findStrange_15 : decode cX6_findStrange 15 = .ok (.iadd, 1) := by decide +kernel
theorem dX6_findStrange_16 : decode cX6_findStrange 16 = .ok (.iconst 0, 1) := by decide +kernel
theorem dX6_findStrange_17 : decode cX6_findStrange 17 = .ok (.iastore, 1) := by decide +kernel
theorem dX6_findStrange_18 : decode cX6_findStrange 18 = .ok (.iinc 3 1, 3) := by decide +kernel
theorem dX6_findStrange_21 : decode cX6_findStrange 21 = .ok (.goto (-19), 3) := by decide +kernel
theorem dX6_findStrange_24 : decode cX6_findStrange 24 = .ok (.getstatic 87, 3) := by decide +kernel
theorem dX6_findStrange_27 : decode cX6_findStrange 27 = .ok (.aload_n 1, 1) := by decide +kernel
theorem dX6_findStrange_28 : decode cX6_findStrange 28 = .ok (.getfield 90, 3) := by decide +kernel
theorem dX6_findStrange_31 : decode cX6_findStrange 31 = .ok (.iload_n 2, 1) := by decide +kernel
theorem dX6_findStrange_32 : decode cX6_findStrange 32 = .ok (.iaload, 1) := by decide +kernel
theorem dX6_findStrange_33 : decode cX6_findStrange 33 = .ok (.iaload, 1) := by decide +kernel
theorem dX6_findStrange_34 : decode cX6_findStrange 34 = .ok (.ifCond .ne 4, 3) := by decide +kernel
theorem dX6_findStrange_37 : decode cX6_findStrange 37 = .ok (.return_, 1) := by decide +kernel
theorem dX6_findStrange_38 : decode cX6_findStrange 38 = .ok (.iconst 0, 1) := by decide +kernel
theorem dX6_findStrange_39 : decode cX6_findStrange 39 = .ok (.istore_n 3, 1) := by decide +kernel
theorem dX6_findStrange_40 : decode cX6_findStrange 40 = .ok (.iload_n 3, 1) := by decide +kernel
theorem dX6_findStrange_41 : decode cX6_findStrange 41 = .ok (.aload_n 1, 1) := by decide +kernel
theorem dX6_findStrange_42 : decode cX6_findStrange 42 = .ok (.getfield 75, 3) := by decide +kernel
theorem dX6_findStrange_45 : decode cX6_findStrange 45 = .ok (.iload_n 2, 1) := by decide +kernel
theorem dX6_findStrange_46 : decode cX6_findStrange 46 = .ok (.iaload, 1) := by decide +kernel
theorem dX6_findStrange_47 : decode cX6_findStrange 47 = .ok (.if_icmp .ge 100, 3) := by decide +kernel
theorem dX6_findStrange_50 : decode cX6_findStrange 50 = .ok (.aload_n 0, 1) := by decide +kernel
theorem dX6_findStrange_51 : decode cX6_findStrange 51 = .ok (.aload_n 1, 1) := by decide +kernel
theorem dX6_findStrange_52 : decode cX6_findStrange 52 = .ok (.iload_n 2, 1) := by decide +kernel
theorem dX6_findStrange_53 : decode cX6_findStrange 53 = .ok (.iload_n 3, 1) := by decide +kernel
theorem dX6_findStrange_54 : decode cX6_findStrange 54 = .ok (.invokevirtual 116, 3) := by decide +kernel
theorem dX6_findStrange_57 : decode cX6_findStrange 57 = .ok (.istore 4, 2) := by decide +kernel
theorem dX6_findStrange_59 : decode cX6_findStrange 59 = .ok (.iconst 0, 1) := by decide +kernel
theorem dX6_findStrange_60 : decode cX6_findStrange 60 = .ok (.istore 5, 2) := by decide +kernel
theorem dX6_findStrange_62 : decode cX6_findStrange 62 = .ok (.iload 5, 2) := by decide +kernel
theorem dX6_findStrange_64 : decode cX6_findStrange 64 = .ok (.aload_n 1, 1) := by decide +kernel
theorem dX6_findStrange_65 : decode cX6_findStrange 65 = .ok (.getfield 35, 3) := by decide +kernel
theorem dX6_findStrange_68 : decode cX6_findStrange 68 = .ok (.if_icmp .ge 73, 3) := by decide +kernel
theorem dX6_findStrange_71 : decode cX6_findStrange 71 = .ok (.aload_n 0, 1) := by decide +kernel
theorem dX6_findStrange_72 : decode cX6_findStrange 72 = .ok (.getfield 24, 3) := by decide +kernel
theorem dX6_findStrange_75 : decode cX6_findStrange 75 = .ok (.getfield 130, 3) := by decide +kernel
theorem dX6_findStrange_78 : decode cX6_findStrange 78 = .ok (.iload 5, 2) := by decide +kernel
theorem dX6_findStrange_80 : decode cX6_findStrange 80 = .ok (.iload 4, 2) := by decide +kernel
theorem dX6_findStrange_82 : decode cX6_findStrange 82 = .ok (.iload_n 3, 1) := by decide +kernel
theorem dX6_findStrange_83 : decode cX6_findStrange 83 = .ok (.invokestatic 120, 3) := by decide +kernel
theorem dX6_findStrange_86 : decode cX6_findStrange 86 = .ok (.invokestatic 123, 3) := by decide +kernel
theorem dX6_findStrange_89 : decode cX6_findStrange 89 = .ok (.iaload, 1) := by decide +kernel
theorem dX6_findStrange_90 : decode cX6_findStrange 90 = .ok (.istore 6, 2) := by decide +kernel
theorem dX6_findStrange_92 : decode cX6_findStrange 92 = .ok (.aload_n 1, 1) := by decide +kernel
theorem dX6_findStrange_93 : decode cX6_findStrange 93 = .ok (.getfield 94, 3) := by decide +kernel
theorem dX6_findStrange_96 : decode cX6_findStrange 96 = .ok (.iload_n 2, 1) := by decide +kernel
theorem dX6_findStrange_97 : decode cX6_findStrange 97 = .ok (.iload 5, 2) := by decide +kernel
theorem dX6_findStrange_99 : decode cX6_findStrange 99 = .ok (.invokestatic 97, 3) := by decide +kernel
theorem dX6_findStrange_102 : decode cX6_findStrange 102 = .ok (.iload_n 3, 1) := by decide +kernel
theorem dX6_findStrange_103 : decode cX6_findStrange 103 = .ok (.iadd, 1) := by decide +kernel
theorem dX6_findStrange_104 : decode cX6_findStrange 104 = .ok (.iaload, 1) := by decide +kernel
theorem dX6_findStrange_105 : decode cX6_findStrange 105 = .ok (.istore 7, 2) := by decide +kernel
theorem dX6_findStrange_107 : decode cX6_findStrange 107 = .ok (.iload 6, 2) := by decide +kernel
theorem dX6_findStrange_109 : decode cX6_findStrange 109 = .ok (.iconst (-1), 1) := by decide +kernel
theorem dX6_findStrange_110 : decode cX6_findStrange 110 = .ok (.if_icmp .eq 25, 3) := by decide +kernel
theorem dX6_findStrange_113 : decode cX6_findStrange 113 = .ok (.iload 6, 2) := by decide +kernel
theorem dX6_findStrange_115 : decode cX6_findStrange 115 = .ok (.iload 7, 2) := by decide +kernel
theorem dX6_findStrange_117 : decode cX6_findStrange 117 = .ok (.if_icmp .eq 18, 3) := by decide +kernel
theorem dX6_findStrange_120 : decode cX6_findStrange 120 = .ok (.aload_n 0, 1) := by decide +kernel
theorem dX6_findStrange_121 : decode cX6_findStrange 121 = .ok (.getfield 18, 3) := by decide +kernel
theorem dX6_findStrange_124 : decode cX6_findStrange 124 = .ok (.iload_n 2, 1) := by decide +kernel
theorem dX6_findStrange_125 : decode cX6_findStrange 125 = .ok (.iconst 4, 1) := by decide +kernel
theorem dX6_findStrange_126 : decode cX6_findStrange 126 = .ok (.imul, 1) := by decide +kernel
theorem dX6_findStrange_127 : decode cX6_findStrange 127 = .ok (.iload 5, 2) := by decide +kernel
theorem dX6_findStrange_129 : decode cX6_findStrange 129 = .ok (.iadd, 1) := by decide +kernel
theorem dX6_findStrange_130 : decode cX6_findStrange 130 = .ok (.dup2, 1) := by decide +kernel
theorem dX6_findStrange_131 : decode cX6_findStrange 131 = .ok (.iaload, 1) := by decide +kernel
theorem dX6_findStrange_132 : decode cX6_findStrange 132 = .ok (.iconst 1, 1) := by decide +kernel
theorem dX6_findStrange_133 : decode cX6_findStrange 133 = .ok (.iadd, 1) := by decide +kernel
theorem dX6_findStrange_134 : decode cX6_findStrange 134 = .ok (.iastore, 1) := by decide +kernel
theorem dX6_findStrange_135 : decode cX6_findStrange 135 = .ok (.iinc 5 1, 3) := by decide +kernel
theorem dX6_findStrange_138 : decode cX6_findStrange 138 = .ok (.goto (-76), 3) := by decide +kernel
theorem dX6_findStrange_141 : decode cX6_findStrange 141 = .ok (.iinc 3 1, 3) := by decide +kernel
theorem dX6_findStrange_144 : decode cX6_findStrange 144 = .ok (.goto (-104), 3) := by decide +kernel
theorem dX6_findStrange_147 : decode cX6_findStrange 147 = .ok (.return_, 1) := by decide +kernel
theorem dX7_init_0 : decode cX7_init 0 = .ok (.aload_n 0, 1) := by decide +kernel
theorem dX7_init_1 : decode cX7_init 1 = .ok (.invokespecial 3, 3) := by decide +kernel
theorem dX7_init_4 : decode cX7_init 4 = .ok (.aload_n 0, 1) := by decide +kernel
theorem dX7_init_5 : decode cX7_init 5 = .ok (.bipush 7, 2) := by decide +kernel
theorem dX7_init_7 : decode cX7_init 7 = .ok (.newarray .int, 2) := by decide +kernel
theorem dX7_init_9 : decode cX7_init 9 = .ok (.putfield 9, 3) := by decide +kernel
theorem dX7_init_12 : decode cX7_init 12 = .ok (.aload_n 0, 1) := by decide +kernel
theorem dX7_init_13 : decode cX7_init 13 = .ok (.bipush 63, 2) := by decide +kernel
theorem dX7_init_15 : decode cX7_init 15 = .ok (.newarray .int, 2) := by decide +kernel
theorem dX7_init_17 : decode cX7_init 17 = .ok (.putfield 15, 3) := by decide +kernel
theorem dX7_init_20 : decode cX7_init 20 = .ok (.return_, 1) := by decide +kernel
theorem dX7_plant_0 : decode cX7_plant 0 = .ok (.aload_n 0, 1) := by decide +kernel
theorem dX7_plant_1 : decode cX7_plant 1 = .ok (.iload_n 1, 1) := by decide +kernel
theorem dX7_plant_2 : decode cX7_plant 2 = .ok (.putfield 18, 3) := by decide +kernel
theorem dX7_plant_5 : decode cX7_plant 5 = .ok (.return_, 1) := by decide +kernel
theorem dX7_root_0 : decode cX7_root 0 = .ok (.aload_n 0, 1) := by decide +kernel
theorem dX7_root_1 : decode cX7_root 1 = .ok (.getfield 18, 3) := by decide +kernel
theorem dX7_root_4 : decode cX7_root 4 = .ok (.invokestatic 22, 3) := by decide +kernel
theorem dX7_root_7 : decode cX7_root 7 = .ok (.iconst 1, 1) := by decide +kernel
theorem dX7_root_8 : decode cX7_root 8 = .ok (.isub, 1) := by decide +kernel
theorem dX7_root_9 : decode cX7_root 9 = .ok (.ireturn, 1) := by decide +kernel
theorem dX7_climb_0 : decode cX7_climb 0 = .ok (.aload_n 0, 1) := by decide +kernel
theorem dX7_climb_1 : decode cX7_climb 1 = .ok (.getfield 18, 3) := by decide +kernel
theorem dX7_climb_4 : decode cX7_climb 4 = .ok (.invokestatic 22, 3) := by decide +kernel
theorem dX7_climb_7 : decode cX7_climb 7 = .ok (.istore_n 1, 1) := by decide +kernel
theorem dX7_climb_8 : decode cX7_climb 8 = .ok (.aload_n 0, 1) := by decide +kernel
theorem dX7_climb_9 : decode cX7_climb 9 = .ok (.getfield 18, 3) := by decide +kernel
theorem dX7_climb_12 : decode cX7_climb 12 = .ok (.istore_n 2, 1) := by decide +kernel
theorem dX7_climb_13 : decode cX7_climb 13 = .ok (.iload_n 2, 1) := by decide +kernel
theorem dX7_climb_14 : decode cX7_climb 14 = .ok (.iload_n 1, 1) := by decide +kernel
theorem dX7_climb_15 : decode cX7_climb 15 = .ok (.if_icmp .ge 68, 3) := by decide +kernel
theorem dX7_climb_18 : decode cX7_climb 18 = .ok (.aload_n 0, 1) := by decide +kernel
theorem dX7_climb_19 : decode cX7_climb 19 = .ok (.iload_n 2, 1) := by decide +kernel
theorem dX7_climb_20 : decode cX7_climb 20 = .ok (.invokevirtual 26, 3) := by decide +kernel
theorem dX7_climb_23 : decode cX7_climb 23 = .ok (.istore_n 3, 1) := by decide +kernel
theorem dX7_climb_24 : decode cX7_climb 24 = .ok (.iconst 0, 1) := by decide +kernel
theorem dX7_climb_25 : decode cX7_climb 25 = .ok (.istore 4, 2) := by decide +kernel
theorem dX7_climb_27 : decode cX7_climb 27 = .ok (.iload 4, 2) := by decide +kernel
theorem dX7_climb_29 : decode cX7_climb 29 = .ok (.bipush 9, 2) := by decide +kernel
theorem dX7_climb_31 : decode cX7_climb 31 = .ok (.if_icmp .ge 46, 3) := by decide +kernel
theorem dX7_climb_34 : decode cX7_climb 34 = .ok (.aload_n 0, 1) := by decide +kernel
theorem dX7_climb_35 : decode cX7_climb 35 = .ok (.getfield 15, 3) := by decide +kernel
theorem dX7_climb_38 : decode cX7_climb 38 = .ok (.iload_n 2, 1) := by decide +kernel
theorem dX7_climb_39 : decode cX7_climb 39 = .ok (.bipush 9, 2) := by decide +kernel
theorem dX7_climb_41 : decode cX7_climb 41 = .ok (.imul, 1) := by decide +kernel
theorem dX7_climb_42 : decode cX7_climb 42 = .ok (.iload 4, 2) := by decide +kernel
theorem dX7_climb_44 : decode cX7_climb 44 = .ok (.iadd, 1) := by decide +kernel
theorem dX7_climb_45 : decode cX7_climb 45 = .ok (.aload_n 0, 1) := by decide +kernel
theorem dX7_climb_46 : decode cX7_climb 46 = .ok (.getstatic 29, 3) := by decide +kernel
theorem dX7_climb_49 : decode cX7_climb 49 = .ok (.iload_n 3, 1) := by decide +kernel
theorem dX7_climb_50 : decode cX7_climb 50 = .ok (.iaload, 1) := by decide +kernel
theorem dX7_climb_51 : decode cX7_climb 51 = .ok (.iload 4, 2) := by decide +kernel
theorem dX7_climb_53 : decode cX7_climb 53 = .ok (.invokevirtual 32, 3) := by decide +kernel
theorem dX7_climb_56 : decode cX7_climb 56 = .ok (.aload_n 0, 1) := by decide +kernel
theorem dX7_climb_57 : decode cX7_climb 57 = .ok (.getstatic 29, 3) := by decide +kernel
theorem dX7_climb_60 : decode cX7_climb 60 = .ok (.iload_n 3, 1) := by decide +kernel
theorem dX7_climb_61 : decode cX7_climb 61 = .ok (.iconst 1, 1) := by decide +kernel
theorem dX7_climb_62 : decode cX7_climb 62 = .ok (.iadd, 1) := by decide +kernel
theorem dX7_climb_63 : decode cX7_climb 63 = .ok (.iaload, 1) := by decide +kernel
theorem dX7_climb_64 : decode cX7_climb 64 = .ok (.iload 4, 2) := by decide +kernel
theorem dX7_climb_66 : decode cX7_climb 66 = .ok (.invokevirtual 32, 3) := by decide +kernel
theorem dX7_climb_69 : decode cX7_climb 69 = .ok (.iadd, 1) := by decide +kernel
theorem dX7_climb_70 : decode cX7_climb 70 = .ok (.iastore, 1) := by decide +kernel
theorem dX7_climb_71 : decode cX7_climb 71 = .ok (.iinc 4 1, 3) := by decide +kernel
theorem dX7_climb_74 : decode cX7_climb 74 = .ok (.goto (-47), 3) := by decide +kernel
theorem dX7_climb_77 : decode cX7_climb 77 = .ok (.iinc 2 1, 3) := by decide +kernel
theorem dX7_climb_80 : decode cX7_climb 80 = .ok (.goto (-67), 3) := by decide +kernel
theorem dX7_climb_83 : decode cX7_climb 83 = .ok (.iload_n 1, 1) := by decide +kernel
theorem dX7_climb_84 : decode cX7_climb 84 = .ok (.iconst 1, 1) := by decide +kernel
theorem dX7_climb_85 : decode cX7_climb 85 = .ok (.isub, 1) := by decide +kernel
theorem dX7_climb_86 : decode cX7_climb 86 = .ok (.istore_n 2, 1) := by decide +kernel
theorem dX7_climb_87 : decode cX7_climb 87 = .ok (.iconst 0, 1) := by decide +kernel
theorem dX7_climb_88 : decode cX7_climb 88 = .ok (.istore_n 3, 1) := by decide +kernel
theorem dX7_climb_89 : decode cX7_climb 89 = .ok (.iconst 1, 1) := by decide +kernel
theorem dX7_climb_90 : decode cX7_climb 90 = .ok (.istore 4, 2) := by decide +kernel
theorem dX7_climb_92 : decode cX7_climb 92 = .ok (.iload 4, 2) := by decide +kernel
theorem dX7_climb_94 : decode cX7_climb 94 = .ok (.bipush 9, 2) := by decide +kernel
theorem dX7_climb_96 : decode cX7_climb 96 = .ok (.if_icmp .ge 38, 3) := by decide +kernel
theorem dX7_climb_99 : decode cX7_climb 99 = .ok (.aload_n 0, 1) := by decide +kernel
theorem dX7_climb_100 : decode cX7_climb 100 = .ok (.getfield 15, 3) := by decide +kernel
theorem dX7_climb_103 : decode cX7_climb 103 = .ok (.iload_n 2, 1) := by decide +kernel
theorem dX7_climb_104 : decode cX7_climb 104 = .ok (.bipush 9, 2) := by decide +kernel
theorem dX7_climb_106 : decode cX7_climb 106 = .ok (.imul, 1) := by decide +kernel
theorem dX7_climb_107 : decode cX7_climb 107 = .ok (.iload 4, 2) := by decide +kernel
theorem dX7_climb_109 : decode cX7_climb 109 = .ok (.iadd, 1) := by decide +kernel
theorem dX7_climb_110 : decode cX7_climb 110 = .ok (.iaload, 1) := by decide +kernel
theorem dX7_climb_111 : decode cX7_climb 111 = .ok (.aload_n 0, 1) := by decide +kernel
theorem dX7_climb_112 : decode cX7_climb 112 = .ok (.getfield 15, 3) := by decide +kernel
theorem dX7_climb_115 : decode cX7_climb 115 = .ok (.iload_n 2, 1) := by decide +kernel
theorem dX7_climb_116 : decode cX7_climb 116 = .ok (.bipush 9, 2) := by decide +kernel
theorem dX7_climb_118 : decode cX7_climb 118 = .ok (.imul, 1) := by decide +kernel
theorem dX7_climb_119 : decode cX7_climb 119 = .ok (.iload_n 3, 1) := by decide +kernel
theorem dX7_climb_120 : decode cX7_climb 120 = .ok (.iadd, 1) := by decide +kernel
theorem dX7_climb_121 : decode cX7_climb 121 = .ok (.iaload, 1) := by decide +kernel
theorem dX7_climb_122 : decode cX7_climb 122 = .ok (.if_icmp .ge 6, 3) := by decide +kernel
theorem dX7_climb_125 : decode cX7_climb 125 = .ok (.iload 4, 2) := by decide +kernel
theorem dX7_climb_127 : decode cX7_climb 127 = .ok (.istore_n 3, 1) := by decide +kernel
theorem dX7_climb_128 : decode cX7_climb 128 = .ok (.iinc 4 1, 3) := by decide +kernel
theorem dX7_climb_131 : decode cX7_climb 131 = .ok (.goto (-39), 3) := by decide +kernel
theorem dX7_climb_134 : decode cX7_climb 134 = .ok (.aload_n 0, 1) := by decide +kernel
theorem dX7_climb_135 : decode cX7_climb 135 = .ok (.getfield 9, 3) := by decide +kernel
theorem dX7_climb_138 : decode cX7_climb 138 = .ok (.iload_n 2, 1) := by decide +kernel
theorem dX7_climb_139 : decode cX7_climb 139 = .ok (.iload_n 3, 1) := by decide +kernel
theorem dX7_climb_140 : decode cX7_climb 140 = .ok (.iastore, 1) := by decide +kernel
theorem dX7_climb_141 : decode cX7_climb 141 = .ok (.aload_n 0, 1) := by decide +kernel
theorem dX7_climb_142 : decode cX7_climb 142 = .ok (.getfield 15, 3) := by decide +kernel
theorem dX7_climb_145 : decode cX7_climb 145 = .ok (.iload_n 2, 1) := by decide +kernel
theorem dX7_climb_146 : decode cX7_climb 146 = .ok (.bipush 9, 2) := by decide +kernel
theorem dX7_climb_148 : decode cX7_climb 148 = .ok (.imul, 1) := by decide +kernel
theorem dX7_climb_149 : decode cX7_climb 149 = .ok (.iload_n 3, 1) := by decide +kernel
theorem dX7_climb_150 : decode cX7_climb 150 = .ok (.iadd, 1) := by decide +kernel
theorem dX7_climb_151 : decode cX7_climb 151 = .ok (.iaload, 1) := by decide +kernel
theorem dX7_climb_152 : decode cX7_climb 152 = .ok (.ireturn, 1) := by decide +kernel
theorem dX7_descend_0 : decode cX7_descend 0 = .ok (.aload_n 0, 1) := by decide +kernel
theorem dX7_descend_1 : decode cX7_descend 1 = .ok (.invokevirtual 36, 3) := by decide +kernel
theorem dX7_descend_4 : decode cX7_descend 4 = .ok (.istore_n 1, 1) := by decide +kernel
theorem dX7_descend_5 : decode cX7_descend 5 = .ok (.iload_n 1, 1) := by decide +kernel
theorem dX7_descend_6 : decode cX7_descend 6 = .ok (.aload_n 0, 1) := by decide +kernel
theorem dX7_descend_7 : decode cX7_descend 7 = .ok (.getfield 18, 3) := by decide +kernel
theorem dX7_descend_10 : decode cX7_descend 10 = .ok (.if_icmp .lt 47, 3) := by decide +kernel
theorem dX7_descend_13 : decode cX7_descend 13 = .ok (.aload_n 0, 1) := by decide +kernel
theorem dX7_descend_14 : decode cX7_descend 14 = .ok (.iload_n 1, 1) := by decide +kernel
theorem dX7_descend_15 : decode cX7_descend 15 = .ok (.invokevirtual 26, 3) := by decide +kernel
theorem dX7_descend_18 : decode cX7_descend 18 = .ok (.istore_n 2, 1) := by decide +kernel
theorem dX7_descend_19 : decode cX7_descend 19 = .ok (.aload_n 0, 1) := by decide +kernel
theorem dX7_descend_20 : decode cX7_descend 20 = .ok (.getstatic 29, 3) := by decide +kernel
theorem dX7_descend_23 : decode cX7_descend 23 = .ok (.iload_n 2, 1) := by decide +kernel
theorem dX7_descend_24 : decode cX7_descend 24 = .ok (.iaload, 1) := by decide +kernel
theorem dX7_descend_25 : decode cX7_descend 25 = .ok (.aload_n 0, 1) := by decide +kernel
theorem dX7_descend_26 : decode cX7_descend 26 = .ok (.getfield 9, 3) := by decide +kernel
theorem dX7_descend_29 : decode cX7_descend 29 = .ok (.iload_n 1, 1) := by decide +kernel
theorem dX7_descend_30 : decode cX7_descend 30 = .ok (.iaload, 1) := by decide +kernel
theorem dX7_descend_31 : decode cX7_descend 31 = .ok (.invokevirtual 40, 3) := by decide +kernel
theorem dX7_descend_34 : decode cX7_descend 34 = .ok (.aload_n 0, 1) := by decide +kernel
theorem dX7_descend_35 : decode cX7_descend 35 = .ok (.getstatic 29, 3) := by decide +kernel
theorem dX7_descend_38 : decode cX7_descend 38 = .ok (.iload_n 2, 1) := by decide +kernel
theorem dX7_descend_39 : decode cX7_descend 39 = .ok (.iconst 1, 1) := by decide +kernel
theorem dX7_descend_40 : decode cX7_descend 40 = .ok (.iadd, 1) := by decide +kernel
theorem dX7_descend_41 : decode cX7_descend 41 = .ok (.iaload, 1) := by decide +kernel
theorem dX7_descend_42 : decode cX7_descend 42 = .ok (.aload_n 0, 1) := by decide +kernel
theorem dX7_descend_43 : decode cX7_descend 43 = .ok (.getfield 9, 3) := by decide +kernel
theorem dX7_descend_46 : decode cX7_descend 46 = .ok (.iload_n 1, 1) := by decide +kernel
theorem dX7_descend_47 : decode cX7_descend 47 = .ok (.iaload, 1) := by decide +kernel
theorem dX7_descend_48 : decode cX7_descend 48 = .ok (.invokevirtual 40, 3) := by decide +kernel
theorem dX7_descend_51 : decode cX7_descend 51 = .ok (.iinc 1 (-1), 3) := by decide +kernel
theorem dX7_descend_54 : decode cX7_descend 54 = .ok (.goto (-49), 3) := by decide +kernel
theorem dX7_descend_57 : decode cX7_descend 57 = .ok (.return_, 1) := by decide +kernel
theorem dX7_pairOf_0 : decode cX7_pairOf 0 = .ok (.getstatic 44, 3) := by decide +kernel
theorem dX7_pairOf_3 : decode cX7_pairOf 3 = .ok (.aload_n 0, 1) := by decide +kernel
theorem dX7_pairOf_4 : decode cX7_pairOf 4 = .ok (.getfield 18, 3) := by decide +kernel
theorem dX7_pairOf_7 : decode cX7_pairOf 7 = .ok (.iaload, 1) := by decide +kernel
theorem dX7_pairOf_8 : decode cX7_pairOf 8 = .ok (.iconst 2, 1) := by decide +kernel
theorem dX7_pairOf_9 : decode cX7_pairOf 9 = .ok (.iload_n 1, 1) := by decide +kernel
theorem dX7_pairOf_10 : decode cX7_pairOf 10 = .ok (.aload_n 0, 1) := by decide +kernel
theorem dX7_pairOf_11 : decode cX7_pairOf 11 = .ok (.getfield 18, 3) := by decide +kernel
theorem dX7_pairOf_14 : decode cX7_pairOf 14 = .ok (.isub, 1) := by decide +kernel
theorem dX7_pairOf_15 : decode cX7_pairOf 15 = .ok (.imul, 1) := by decide +kernel
theorem dX7_pairOf_16 : decode cX7_pairOf 16 = .ok (.iadd, 1) := by decide +kernel
theorem dX7_pairOf_17 : decode cX7_pairOf 17 = .ok (.ireturn, 1) := by decide +kernel
theorem dX7_leastBelow_0 : decode cX7_leastBelow 0 = .ok (.iload_n 2, 1) := by decide +kernel
theorem dX7_leastBelow_1 : decode cX7_leastBelow 1 = .ok (.bipush 9, 2) := by decide +kernel
theorem dX7_leastBelow_3 : decode cX7_leastBelow 3 = .ok (.imul, 1) := by decide +kernel
theorem dX7_leastBelow_4 : decode cX7_leastBelow 4 = .ok (.istore_n 3, 1) := by decide +kernel
theorem dX7_leastBelow_5 : decode cX7_leastBelow 5 = .ok (.iload_n 1, 1) := by decide +kernel
theorem dX7_leastBelow_6 : decode cX7_leastBelow 6 = .ok (.aload_n 0, 1) := by decide +kernel
theorem dX7_leastBelow_7 : decode cX7_leastBelow 7 = .ok (.getfield 18, 3) := by decide +kernel
theorem dX7_leastBelow_10 : decode cX7_leastBelow 10 = .ok (.if_icmp .ge 16, 3) := by decide +kernel
theorem dX7_leastBelow_13 : decode cX7_leastBelow 13 = .ok (.getstatic 47, 3) := by decide +kernel
theorem dX7_leastBelow_16 : decode cX7_leastBelow 16 = .ok (.iload_n 3, 1) := by decide +kernel
theorem dX7_leastBelow_17 : decode cX7_leastBelow 17 = .ok (.aload_n 0, 1) := by decide +kernel
theorem dX7_leastBelow_18 : decode cX7_leastBelow 18 = .ok (.getfield 9, 3) := by decide +kernel
theorem dX7_leastBelow_21 : decode cX7_leastBelow 21 = .ok (.iload_n 1, 1) := by decide +kernel
theorem dX7_leastBelow_22 : decode cX7_leastBelow 22 = .ok (.iaload, 1) := by decide +kernel
theorem dX7_leastBelow_23 : decode cX7_leastBelow 23 = .ok (.iadd, 1) := by decide +kernel
theorem dX7_leastBelow_24 : decode cX7_leastBelow 24 = .ok (.iaload, 1) := by decide +kernel
theorem dX7_leastBelow_25 : decode cX7_leastBelow 25 = .ok (.ireturn, 1) := by decide +kernel
theorem dX7_leastBelow_26 : decode cX7_leastBelow 26 = .ok (.iload_n 1, 1) := by decide +kernel
theorem dX7_leastBelow_27 : decode cX7_leastBelow 27 = .ok (.bipush 9, 2) := by decide +kernel
theorem dX7_leastBelow_29 : decode cX7_leastBelow 29 = .ok (.imul, 1) := by decide +kernel
theorem dX7_leastBelow_30 : decode cX7_leastBelow 30 = .ok (.istore 4, 2) := by decide +kernel
theorem dX7_leastBelow_32 : decode cX7_leastBelow 32 = .ok (.getstatic 47, 3) := by decide +kernel
theorem dX7_leastBelow_35 : decode cX7_leastBelow 35 = .ok (.iload_n 3, 1) := by decide +kernel
theorem dX7_leastBelow_36 : decode cX7_leastBelow 36 = .ok (.iaload, 1) := by decide +kernel
theorem dX7_leastBelow_37 : decode cX7_leastBelow 37 = .ok (.aload_n 0, 1) := by decide +kernel
theorem dX7_leastBelow_38 : decode cX7_leastBelow 38 = .ok (.getfield 15, 3) := by decide +kernel
theorem dX7_leastBelow_41 : decode cX7_leastBelow 41 = .ok (.iload 4, 2) := by decide +kernel
theorem dX7_leastBelow_43 : decode cX7_leastBelow 43 = .ok (.iaload, 1) := by decide +kernel
theorem dX7_leastBelow_44 : decode cX7_leastBelow 44 = .ok (.iadd, 1) := by decide +kernel
theorem dX7_leastBelow_45 : decode cX7_leastBelow 45 = .ok (.istore 5, 2) := by decide +kernel
theorem dX7_leastBelow_47 : decode cX7_leastBelow 47 = .ok (.iconst 1, 1) := by decide +kernel
theorem dX7_leastBelow_48 : decode cX7_leastBelow 48 = .ok (.istore 6, 2) := by decide +kernel
theorem dX7_leastBelow_50 : decode cX7_leastBelow 50 = .ok (.iload 6, 2) := by decide +kernel
theorem dX7_leastBelow_52 : decode cX7_leastBelow 52 = .ok (.bipush 9, 2) := by decide +kernel
theorem dX7_leastBelow_54 : decode cX7_leastBelow 54 = .ok (.if_icmp .ge 41, 3) := by decide +kernel
theorem dX7_leastBelow_57 : decode cX7_leastBelow 57 = .ok (.getstatic 47, 3) := by decide +kernel
theorem dX7_leastBelow_60 : decode cX7_leastBelow 60 = .ok (.iload_n 3, 1) := by decide +kernel
theorem dX7_leastBelow_61 : decode cX7_leastBelow 61 = .ok (.iload 6, 2) := by decide +kernel
theorem dX7_leastBelow_63 : decode cX7_leastBelow 63 = .ok (.iadd, 1) := by decide +kernel
theorem dX7_leastBelow_64 : decode cX7_leastBelow 64 = .ok (.iaload, 1) := by decide +kernel
theorem dX7_leastBelow_65 : decode cX7_leastBelow 65 = .ok (.aload_n 0, 1) := by decide +kernel
theorem dX7_leastBelow_66 : decode cX7_leastBelow 66 = .ok (.getfield 15, 3) := by decide +kernel
theorem dX7_leastBelow_69 : decode cX7_leastBelow 69 = .ok (.iload 4, 2) := by decide +kernel
theorem dX7_leastBelow_71 : decode cX7_leastBelow 71 = .ok (.iload 6, 2) := by decide +kernel
theorem dX7_leastBelow_73 : decode cX7_leastBelow 73 = .ok (.iadd, 1) := by decide +kernel
theorem dX7_leastBelow_74 : decode cX7_leastBelow 74 = .ok (.iaload, 1) := by decide +kernel
theorem dX7_leastBelow_75 : decode cX7_leastBelow 75 = .ok (.iadd, 1) := by decide +kernel
theorem dX7_leastBelow_76 : decode cX7_leastBelow 76 = .ok (.istore 7, 2) := by decide +kernel
theorem dX7_leastBelow_78 : decode cX7_leastBelow 78 = .ok (.iload 7, 2) := by decide +kernel
theorem dX7_leastBelow_80 : decode cX7_leastBelow 80 = .ok (.iload 5, 2) := by decide +kernel
theorem dX7_leastBelow_82 : decode cX7_leastBelow 82 = .ok (.if_icmp .ge 7, 3) := by decide +kernel
theorem dX7_leastBelow_85 : decode cX7_leastBelow 85 = .ok (.iload 7, 2) := by decide +kernel
theorem dX7_leastBelow_87 : decode cX7_leastBelow 87 = .ok (.istore 5, 2) := by decide +kernel
theorem dX7_leastBelow_89 : decode cX7_leastBelow 89 = .ok (.iinc 6 1, 3) := by decide +kernel
theorem dX7_leastBelow_92 : decode cX7_leastBelow 92 = .ok (.goto (-42), 3) := by decide +kernel
theorem dX7_leastBelow_95 : decode cX7_leastBelow 95 = .ok (.iload 5, 2) := by decide +kernel
theorem dX7_leastBelow_97 : decode cX7_leastBelow 97 = .ok (.ireturn, 1) := by decide +kernel
theorem dX7_settle_0 : decode cX7_settle 0 = .ok (.iload_n 1, 1) := by decide +kernel
theorem dX7_settle_1 : decode cX7_settle 1 = .ok (.aload_n 0, 1) := by decide +kernel
theorem dX7_settle_2 : decode cX7_settle 2 = .ok (.getfield 18, 3) := by decide +kernel
theorem dX7_settle_5 : decode cX7_settle 5 = .ok (.if_icmp .ge 4, 3) := by decide +kernel
theorem dX7_settle_8 : decode cX7_settle 8 = .ok (.return_, 1) := by decide +kernel
theorem dX7_settle_9 : decode cX7_settle 9 = .ok (.iconst 0, 1) := by decide +kernel
theorem dX7_settle_10 : decode cX7_settle 10 = .ok (.istore_n 3, 1) := by decide +kernel
theorem dX7_settle_11 : decode cX7_settle 11 = .ok (.iload_n 2, 1) := by decide +kernel
theorem dX7_settle_12 : decode cX7_settle 12 = .ok (.iconst 0, 1) := by decide +kernel
theorem dX7_settle_13 : decode cX7_settle 13 = .ok (.invokestatic 50, 3) := by decide +kernel
theorem dX7_settle_16 : decode cX7_settle 16 = .ok (.aload_n 0, 1) := by decide +kernel
theorem dX7_settle_17 : decode cX7_settle 17 = .ok (.getfield 15, 3) := by decide +kernel
theorem dX7_settle_20 : decode cX7_settle 20 = .ok (.iload_n 1, 1) := by decide +kernel
theorem dX7_settle_21 : decode cX7_settle 21 = .ok (.bipush 9, 2) := by decide +kernel
theorem dX7_settle_23 : decode cX7_settle 23 = .ok (.imul, 1) := by decide +kernel
theorem dX7_settle_24 : decode cX7_settle 24 = .ok (.iaload, 1) := by decide +kernel
theorem dX7_settle_25 : decode cX7_settle 25 = .ok (.iadd, 1) := by decide +kernel
theorem dX7_settle_26 : decode cX7_settle 26 = .ok (.istore 4, 2) := by decide +kernel
theorem dX7_settle_28 : decode cX7_settle 28 = .ok (.iconst 1, 1) := by decide +kernel
theorem dX7_settle_29 : decode cX7_settle 29 = .ok (.istore 5, 2) := by decide +kernel
theorem dX7_settle_31 : decode cX7_settle 31 = .ok (.iload 5, 2) := by decide +kernel
theorem dX7_settle_33 : decode cX7_settle 33 = .ok (.bipush 9, 2) := by decide +kernel
theorem dX7_settle_35 : decode cX7_settle 35 = .ok (.if_icmp .ge 44, 3) := by decide +kernel
theorem dX7_settle_38 : decode cX7_settle 38 = .ok (.iload_n 2, 1) := by decide +kernel
theorem dX7_settle_39 : decode cX7_settle 39 = .ok (.iload 5, 2) := by decide +kernel
theorem dX7_settle_41 : decode cX7_settle 41 = .ok (.invokestatic 50, 3) := by decide +kernel
theorem dX7_settle_44 : decode cX7_settle 44 = .ok (.aload_n 0, 1) := by decide +kernel
theorem dX7_settle_45 : decode cX7_settle 45 = .ok (.getfield 15, 3) := by decide +kernel
theorem dX7_settle_48 : decode cX7_settle 48 = .ok (.iload_n 1, 1) := by decide +kernel
theorem dX7_settle_49 : decode cX7_settle 49 = .ok (.bipush 9, 2) := by decide +kernel
theorem dX7_settle_51 : decode cX7_settle 51 = .ok (.imul, 1) := by decide +kernel
theorem dX7_settle_52 : decode cX7_settle 52 = .ok (.iload 5, 2) := by decide +kernel
theorem dX7_settle_54 : decode cX7_settle 54 = .ok (.iadd, 1) := by decide +kernel
theorem dX7_settle_55 : decode cX7_settle 55 = .ok (.iaload, 1) := by decide +kernel
theorem dX7_settle_56 : decode cX7_settle 56 = .ok (.iadd, 1) := by decide +kernel
theorem dX7_settle_57 : decode cX7_settle 57 = .ok (.istore 6, 2) := by decide +kernel
theorem dX7_settle_59 : decode cX7_settle 59 = .ok (.iload 6, 2) := by decide +kernel
theorem dX7_settle_61 : decode cX7_settle 61 = .ok (.iload 4, 2) := by decide +kernel
theorem dX7_settle_63 : decode cX7_settle 63 = .ok (.if_icmp .ge 10, 3) := by decide +kernel
theorem dX7_settle_66 : decode cX7_settle 66 = .ok (.iload 6, 2) := by decide +kernel
theorem dX7_settle_68 : decode cX7_settle 68 = .ok (.istore 4, 2) := by decide +kernel
theorem dX7_settle_70 : decode cX7_settle 70 = .ok (.iload 5, 2) := by decide +kernel
theorem dX7_settle_72 : decode cX7_settle 72 = .ok (.istore_n 3, 1) := by decide +kernel
theorem dX7_settle_73 : decode cX7_settle 73 = .ok (.iinc 5 1, 3) := by decide +kernel
theorem dX7_settle_76 : decode cX7_settle 76 = .ok (.goto (-45), 3) := by decide +kernel
theorem dX7_settle_79 : decode cX7_settle 79 = .ok (.aload_n 0, 1) := by decide +kernel
theorem dX7_settle_80 : decode cX7_settle 80 = .ok (.getfield 9, 3) := by decide +kernel
theorem dX7_settle_83 : decode cX7_settle 83 = .ok (.iload_n 1, 1) := by decide +kernel
theorem dX7_settle_84 : decode cX7_settle 84 = .ok (.iload_n 3, 1) := by decide +kernel
theorem dX7_settle_85 : decode cX7_settle 85 = .ok (.iastore, 1) := by decide +kernel
theorem dX7_settle_86 : decode cX7_settle 86 = .ok (.return_, 1) := by decide +kernel
theorem dX8_init_0 : decode cX8_init 0 = .ok (.aload_n 0, 1) := by decide +kernel
theorem dX8_init_1 : decode cX8_init 1 = .ok (.invokespecial 1, 3) := by decide +kernel
theorem dX8_init_4 : decode cX8_init 4 = .ok (.aload_n 0, 1) := by decide +kernel
theorem dX8_init_5 : decode cX8_init 5 = .ok (.bipush 110, 2) := by decide +kernel
theorem dX8_init_7 : decode cX8_init 7 = .ok (.newarray .int, 2) := by decide +kernel
theorem dX8_init_9 : decode cX8_init 9 = .ok (.putfield 9, 3) := by decide +kernel
theorem dX8_init_12 : decode cX8_init 12 = .ok (.aload_n 0, 1) := by decide +kernel
theorem dX8_init_13 : decode cX8_init 13 = .ok (.new 13, 3) := by decide +kernel
theorem dX8_init_16 : decode cX8_init 16 = .ok (.dup, 1) := by decide +kernel
theorem dX8_init_17 : decode cX8_init 17 = .ok (.invokespecial 15, 3) := by decide +kernel
theorem dX8_init_20 : decode cX8_init 20 = .ok (.putfield 16, 3) := by decide +kernel
theorem dX8_init_23 : decode cX8_init 23 = .ok (.aload_n 0, 1) := by decide +kernel
theorem dX8_init_24 : decode cX8_init 24 = .ok (.new 20, 3) := by decide +kernel
theorem dX8_init_27 : decode cX8_init 27 = .ok (.dup, 1) := by decide +kernel
theorem dX8_init_28 : decode cX8_init 28 = .ok (.invokespecial 22, 3) := by decide +kernel
theorem dX8_init_31 : decode cX8_init 31 = .ok (.putfield 23, 3) := by decide +kernel
theorem dX8_init_34 : decode cX8_init 34 = .ok (.aload_n 0, 1) := by decide +kernel
theorem dX8_init_35 : decode cX8_init 35 = .ok (.new 27, 3) := by decide +kernel
theorem dX8_init_38 : decode cX8_init 38 = .ok (.dup, 1) := by decide +kernel
theorem dX8_init_39 : decode cX8_init 39 = .ok (.invokespecial 29, 3) := by decide +kernel
theorem dX8_init_42 : decode cX8_init 42 = .ok (.putfield 30, 3) := by decide +kernel
theorem dX8_init_45 : decode cX8_init 45 = .ok (.aload_n 0, 1) := by decide +kernel
theorem dX8_init_46 : decode cX8_init 46 = .ok (.new 34, 3) := by decide +kernel
theorem dX8_init_49 : decode cX8_init 49 = .ok (.dup, 1) := by decide +kernel
theorem dX8_init_50 : decode cX8_init 50 = .ok (.invokespecial 36, 3) := by decide +kernel
theorem dX8_init_53 : decode cX8_init 53 = .ok (.putfield 37, 3) := by decide +kernel
theorem dX8_init_56 : decode cX8_init 56 = .ok (.aload_n 0, 1) := by decide +kernel
theorem dX8_init_57 : decode cX8_init 57 = .ok (.new 20, 3) := by decide +kernel
theorem dX8_init_60 : decode cX8_init 60 = .ok (.dup, 1) := by decide +kernel
theorem dX8_init_61 : decode cX8_init 61 = .ok (.invokespecial 22, 3) := by decide +kernel
theorem dX8_init_64 : decode cX8_init 64 = .ok (.putfield 41, 3) := by decide +kernel
theorem dX8_init_67 : decode cX8_init 67 = .ok (.aload_n 0, 1) := by decide +kernel
theorem dX8_init_68 : decode cX8_init 68 = .ok (.new 27, 3) := by decide +kernel
theorem dX8_init_71 : decode cX8_init 71 = .ok (.dup, 1) := by decide +kernel
theorem dX8_init_72 : decode cX8_init 72 = .ok (.invokespecial 29, 3) := by decide +kernel
theorem dX8_init_75 : decode cX8_init 75 = .ok (.putfield 44, 3) := by decide +kernel
theorem dX8_init_78 : decode cX8_init 78 = .ok (.aload_n 0, 1) := by decide +kernel
theorem dX8_init_79 : decode cX8_init 79 = .ok (.new 47, 3) := by decide +kernel
theorem dX8_init_82 : decode cX8_init 82 = .ok (.dup, 1) := by decide +kernel
theorem dX8_init_83 : decode cX8_init 83 = .ok (.invokespecial 49, 3) := by decide +kernel
theorem dX8_init_86 : decode cX8_init 86 = .ok (.putfield 50, 3) := by decide +kernel
theorem dX8_init_89 : decode cX8_init 89 = .ok (.aload_n 0, 1) := by decide +kernel
theorem dX8_init_90 : decode cX8_init 90 = .ok (.new 54, 3) := by decide +kernel
theorem dX8_init_93 : decode cX8_init 93 = .ok (.dup, 1) := by decide +kernel
theorem dX8_init_94 : decode cX8_init 94 = .ok (.invokespecial 56, 3) := by decide +kernel
theorem dX8_init_97 : decode cX8_init 97 = .ok (.putfield 57, 3) := by decide +kernel
theorem dX8_init_100 : decode cX8_init 100 = .ok (.return_, 1) := by decide +kernel
theorem dX8_letter_0 : decode cX8_letter 0 = .ok (.iload_n 1, 1) := by decide +kernel
theorem dX8_letter_1 : decode cX8_letter 1 = .ok (.iconst 1, 1) := by decide +kernel
theorem dX8_letter_2 : decode cX8_letter 2 = .ok (.if_icmp .lt 9, 3) := by decide +kernel
theorem dX8_letter_5 : decode cX8_letter 5 = .ok (.iload_n 1, 1) := by decide +kernel
theorem dX8_letter_6 : decode cX8_letter 6 = .ok (.bipush 126, 2) := by decide +kernel
theorem dX8_letter_8 : decode cX8_letter 8 = .ok (.if_icmp .le 6, 3) := by decide +kernel
theorem dX8_letter_11 : decode cX8_letter 11 = .ok (.bipush (-102), 2) := by decide +kernel
theorem dX8_letter_13 : decode cX8_letter 13 = .ok (.ireturn, 1) := by decide +kernel
theorem dX8_letter_14 : decode cX8_letter 14 = .ok (.aload_n 0, 1) := by decide +kernel
theorem dX8_letter_15 : decode cX8_letter 15 = .ok (.getfield 61, 3) := by decide +kernel
theorem dX8_letter_18 : decode cX8_letter 18 = .ok (.bipush 110, 2) := by decide +kernel
theorem dX8_letter_20 : decode cX8_letter 20 = .ok (.if_icmp .lt 6, 3) := by decide +kernel
theorem dX8_letter_23 : decode cX8_letter 23 = .ok (.bipush (-104), 2) := by decide +kernel
theorem dX8_letter_25 : decode cX8_letter 25 = .ok (.ireturn, 1) := by decide +kernel
theorem dX8_letter_26 : decode cX8_letter 26 = .ok (.aload_n 0, 1) := by decide +kernel
theorem dX8_letter_27 : decode cX8_letter 27 = .ok (.getfield 9, 3) := by decide +kernel
theorem dX8_letter_30 : decode cX8_letter 30 = .ok (.aload_n 0, 1) := by decide +kernel
theorem dX8_letter_31 : decode cX8_letter 31 = .ok (.getfield 61, 3) := by decide +kernel
theorem dX8_letter_34 : decode cX8_letter 34 = .ok (.iload_n 1, 1) := by decide +kernel
theorem dX8_letter_35 : decode cX8_letter 35 = .ok (.iastore, 1) := by decide +kernel
theorem dX8_letter_36 : decode cX8_letter 36 = .ok (.aload_n 0, 1) := by decide +kernel
theorem dX8_letter_37 : decode cX8_letter 37 = .ok (.dup, 1) := by decide +kernel
theorem dX8_letter_38 : decode cX8_letter 38 = .ok (.getfield 61, 3) := by decide +kernel
theorem dX8_letter_41 : decode cX8_letter 41 = .ok (.iconst 1, 1) := by decide +kernel
theorem dX8_letter_42 : decode cX8_letter 42 = .ok (.iadd, 1) := by decide +kernel
theorem dX8_letter_43 : decode cX8_letter 43 = .ok (.putfield 61, 3) := by decide +kernel
theorem dX8_letter_46 : decode cX8_letter 46 = .ok (.aload_n 0, 1) := by decide +kernel
theorem dX8_letter_47 : decode cX8_letter 47 = .ok (.getfield 61, 3) := by decide +kernel
theorem dX8_letter_50 : decode cX8_letter 50 = .ok (.ireturn, 1) := by decide +kernel
theorem dX8_blank_0 : decode cX8_blank 0 = .ok (.aload_n 0, 1) := by decide +kernel
theorem dX8_blank_1 : decode cX8_blank 1 = .ok (.getfield 61, 3) := by decide +kernel
theorem dX8_blank_4 : decode cX8_blank 4 = .ok (.istore_n 1, 1) := by decide +kernel
theorem dX8_blank_5 : decode cX8_blank 5 = .ok (.aload_n 0, 1) := by decide +kernel
theorem dX8_blank_6 : decode cX8_blank 6 = .ok (.iconst 0, 1) := by decide +kernel
theorem dX8_blank_7 : decode cX8_blank 7 = .ok (.putfield 61, 3) := by decide +kernel
theorem dX8_blank_10 : decode cX8_blank 10 = .ok (.iload_n 1, 1) := by decide +kernel
theorem dX8_blank_11 : decode cX8_blank 11 = .ok (.ireturn, 1) := by decide +kernel
theorem dX8_fault_0 : decode cX8_fault 0 = .ok (.aload_n 0, 1) := by decide +kernel
theorem dX8_fault_1 : decode cX8_fault 1 = .ok (.invokevirtual 65, 3) := by decide +kernel
theorem dX8_fault_4 : decode cX8_fault 4 = .ok (.ireturn, 1) := by decide +kernel
theorem dX8_sets_0 : decode cX8_sets 0 = .ok (.aload_n 0, 1) := by decide +kernel
theorem dX8_sets_1 : decode cX8_sets 1 = .ok (.invokevirtual 65, 3) := by decide +kernel
theorem dX8_sets_4 : decode cX8_sets 4 = .ok (.aload_n 0, 1) := by decide +kernel
theorem dX8_sets_5 : decode cX8_sets 5 = .ok (.getfield 61, 3) := by decide +kernel
theorem dX8_sets_8 : decode cX8_sets 8 = .ok (.if_icmp .lt 13, 3) := by decide +kernel
theorem dX8_sets_11 : decode cX8_sets 11 = .ok (.aload_n 0, 1) := by decide +kernel
theorem dX8_sets_12 : decode cX8_sets 12 = .ok (.getfield 16, 3) := by decide +kernel
theorem dX8_sets_15 : decode cX8_sets 15 = .ok (.invokevirtual 69, 3) := by decide +kernel
theorem dX8_sets_18 : decode cX8_sets 18 = .ok (.ifCond .ne 6, 3) := by decide +kernel
theorem dX8_sets_21 : decode cX8_sets 21 = .ok (.bipush (-103), 2) := by decide +kernel
theorem dX8_sets_23 : decode cX8_sets 23 = .ok (.ireturn, 1) := by decide +kernel
theorem dX8_sets_24 : decode cX8_sets 24 = .ok (.aload_n 0, 1) := by decide +kernel
theorem dX8_sets_25 : decode cX8_sets 25 = .ok (.getfield 23, 3) := by decide +kernel
theorem dX8_sets_28 : decode cX8_sets 28 = .ok (.aload_n 0, 1) := by decide +kernel
theorem dX8_sets_29 : decode cX8_sets 29 = .ok (.getfield 16, 3) := by decide +kernel
theorem dX8_sets_32 : decode cX8_sets 32 = .ok (.getfield 73, 3) := by decide +kernel
theorem dX8_sets_35 : decode cX8_sets 35 = .ok (.invokevirtual 76, 3) := by decide +kernel
theorem dX8_sets_38 : decode cX8_sets 38 = .ok (.aload_n 0, 1) := by decide +kernel
theorem dX8_sets_39 : decode cX8_sets 39 = .ok (.getfield 30, 3) := by decide +kernel
theorem dX8_sets_42 : decode cX8_sets 42 = .ok (.invokevirtual 80, 3) := by decide +kernel
theorem dX8_sets_45 : decode cX8_sets 45 = .ok (.aload_n 0, 1) := by decide +kernel
theorem dX8_sets_46 : decode cX8_sets 46 = .ok (.iconst 0, 1) := by decide +kernel
theorem dX8_sets_47 : decode cX8_sets 47 = .ok (.putfield 83, 3) := by decide +kernel
theorem dX8_sets_50 : decode cX8_sets 50 = .ok (.aload_n 0, 1) := by decide +kernel
theorem dX8_sets_51 : decode cX8_sets 51 = .ok (.iconst 0, 1) := by decide +kernel
theorem dX8_sets_52 : decode cX8_sets 52 = .ok (.putfield 87, 3) := by decide +kernel
theorem dX8_sets_55 : decode cX8_sets 55 = .ok (.aload_n 0, 1) := by decide +kernel
theorem dX8_sets_56 : decode cX8_sets 56 = .ok (.iconst 0, 1) := by decide +kernel
theorem dX8_sets_57 : decode cX8_sets 57 = .ok (.putfield 61, 3) := by decide +kernel
theorem dX8_sets_60 : decode cX8_sets 60 = .ok (.aload_n 0, 1) := by decide +kernel
theorem dX8_sets_61 : decode cX8_sets 61 = .ok (.dup, 1) := by decide +kernel
theorem dX8_sets_62 : decode cX8_sets 62 = .ok (.getfield 90, 3) := by decide +kernel
theorem dX8_sets_65 : decode cX8_sets 65 = .ok (.iconst 1, 1) := by decide +kernel
theorem dX8_sets_66 : decode cX8_sets 66 = .ok (.iadd, 1) := by decide +kernel
theorem dX8_sets_67 : decode cX8_sets 67 = .ok (.putfield 90, 3) := by decide +kernel
theorem dX8_sets_70 : decode cX8_sets 70 = .ok (.aload_n 0, 1) := by decide +kernel
theorem dX8_sets_71 : decode cX8_sets 71 = .ok (.getfield 23, 3) := by decide +kernel
theorem dX8_sets_74 : decode cX8_sets 74 = .ok (.getfield 93, 3) := by decide +kernel
theorem dX8_sets_77 : decode cX8_sets 77 = .ok (.ireturn, 1) := by decide +kernel
theorem dX8_set_0 : decode cX8_set 0 = .ok (.aload_n 0, 1) := by decide +kernel
theorem dX8_set_1 : decode cX8_set 1 = .ok (.iload_n 1, 1) := by decide +kernel
theorem dX8_set_2 : decode cX8_set 2 = .ok (.invokevirtual 96, 3) := by decide +kernel
theorem dX8_set_5 : decode cX8_set 5 = .ok (.ifCond .ne 6, 3) := by decide +kernel
theorem dX8_set_8 : decode cX8_set 8 = .ok (.bipush (-101), 2) := by decide +kernel
theorem dX8_set_10 : decode cX8_set 10 = .ok (.ireturn, 1) := by decide +kernel
theorem dX8_set_11 : decode cX8_set 11 = .ok (.iload_n 2, 1) := by decide +kernel
theorem dX8_set_12 : decode cX8_set 12 = .ok (.ifCond .lt 9, 3) := by decide +kernel
theorem dX8_set_15 : decode cX8_set 15 = .ok (.iload_n 2, 1) := by decide +kernel
theorem dX8_set_16 : decode cX8_set 16 = .ok (.bipush 7, 2) := by decide +kernel
theorem dX8_set_18 : decode cX8_set 18 = .ok (.if_icmp .lt 6, 3) := by decide +kernel
theorem dX8_set_21 : decode cX8_set 21 = .ok (.bipush (-102), 2) := by decide +kernel
theorem dX8_set_23 : decode cX8_set 23 = .ok (.ireturn, 1) := by decide +kernel
theorem dX8_set_24 : decode cX8_set 24 = .ok (.aload_n 0, 1) := by decide +kernel
theorem dX8_set_25 : decode cX8_set 25 = .ok (.invokevirtual 100, 3) := by decide +kernel
theorem dX8_set_28 : decode cX8_set 28 = .ok (.aload_n 0, 1) := by decide +kernel
theorem dX8_set_29 : decode cX8_set 29 = .ok (.iload_n 1, 1) := by decide +kernel
theorem dX8_set_30 : decode cX8_set 30 = .ok (.iload_n 2, 1) := by decide +kernel
theorem dX8_set_31 : decode cX8_set 31 = .ok (.invokevirtual 103, 3) := by decide +kernel
theorem dX8_set_34 : decode cX8_set 34 = .ok (.ireturn, 1) := by decide +kernel
theorem dX8_as_0 : decode cX8_as 0 = .ok (.aload_n 0, 1) := by decide +kernel
theorem dX8_as_1 : decode cX8_as 1 = .ok (.iload_n 1, 1) := by decide +kernel
theorem dX8_as_2 : decode cX8_as 2 = .ok (.invokevirtual 96, 3) := by decide +kernel
theorem dX8_as_5 : decode cX8_as 5 = .ok (.ifCond .ne 6, 3) := by decide +kernel
theorem dX8_as_8 : decode cX8_as 8 = .ok (.bipush (-101), 2) := by decide +kernel
theorem dX8_as_10 : decode cX8_as 10 = .ok (.ireturn, 1) := by decide +kernel
theorem dX8_as_11 : decode cX8_as 11 = .ok (.iload_n 2, 1) := by decide +kernel
theorem dX8_as_12 : decode cX8_as 12 = .ok (.invokestatic 107, 3) := by decide +kernel
theorem dX8_as_15 : decode cX8_as 15 = .ok (.ifCond .ne 6, 3) := by decide +kernel
theorem dX8_as_18 : decode cX8_as 18 = .ok (.bipush (-102), 2) := by decide +kernel
theorem dX8_as_20 : decode cX8_as 20 = .ok (.ireturn, 1) := by decide +kernel
theorem dX8_as_21 : decode cX8_as 21 = .ok (.aload_n 0, 1) := by decide +kernel
theorem dX8_as_22 : decode cX8_as 22 = .ok (.getfield 23, 3) := by decide +kernel
theorem dX8_as_25 : decode cX8_as 25 = .ok (.getfield 110, 3) := by decide +kernel
theorem dX8_as_28 : decode cX8_as 28 = .ok (.iload_n 1, 1) := by decide +kernel
theorem dX8_as_29 : decode cX8_as 29 = .ok (.iaload, 1) := by decide +kernel
theorem dX8_as_30 : decode cX8_as 30 = .ok (.iload_n 2, 1) := by decide +kernel
theorem dX8_as_31 : decode cX8_as 31 = .ok (.invokestatic 113, 3) := by decide +kernel
theorem dX8_as_34 : decode cX8_as 34 = .ok (.ifCond .eq 7, 3) := by decide +kernel
theorem dX8_as_37 : decode cX8_as 37 = .ok (.iload_n 1, 1) := by decide +kernel
theorem dX8_as_38 : decode cX8_as 38 = .ok (.goto 4, 3) := by decide +kernel
theorem dX8_as_41 : decode cX8_as 41 = .ok (.iconst (-1), 1) := by decide +kernel
theorem dX8_as_42 : decode cX8_as 42 = .ok (.ireturn, 1) := by decide +kernel
theorem dX8_sound_0 : decode cX8_sound 0 = .ok (.aload_n 0, 1) := by decide +kernel
theorem dX8_sound_1 : decode cX8_sound 1 = .ok (.iload_n 1, 1) := by decide +kernel
theorem dX8_sound_2 : decode cX8_sound 2 = .ok (.invokevirtual 96, 3) := by decide +kernel
theorem dX8_sound_5 : decode cX8_sound 5 = .ok (.ifCond .eq 20, 3) := by decide +kernel
theorem dX8_sound_8 : decode cX8_sound 8 = .ok (.aload_n 0, 1) := by decide +kernel
theorem dX8_sound_9 : decode cX8_sound 9 = .ok (.iload_n 2, 1) := by decide +kernel
theorem dX8_sound_10 : decode cX8_sound 10 = .ok (.invokevirtual 117, 3) := by decide +kernel
theorem dX8_sound_13 : decode cX8_sound 13 = .ok (.ifCond .eq 12, 3) := by decide +kernel
theorem dX8_sound_16 : decode cX8_sound 16 = .ok (.aload_n 0, 1) := by decide +kernel
theorem dX8_sound_17 : decode cX8_sound 17 = .ok (.iload_n 1, 1) := by decide +kernel
theorem dX8_sound_18 : decode cX8_sound 18 = .ok (.iload_n 3, 1) := by decide +kernel
theorem dX8_sound_19 : decode cX8_sound 19 = .ok (.invokevirtual 120, 3) := by decide +kernel
theorem dX8_sound_22 : decode cX8_sound 22 = .ok (.ifCond .ne 6, 3) := by decide +kernel
theorem dX8_sound_25 : decode cX8_sound 25 = .ok (.bipush (-101), 2) := by decide +kernel
theorem dX8_sound_27 : decode cX8_sound 27 = .ok (.ireturn, 1) := by decide +kernel
theorem dX8_sound_28 : decode cX8_sound 28 = .ok (.aload_n 0, 1) := by decide +kernel
theorem dX8_sound_29 : decode cX8_sound 29 = .ok (.invokevirtual 100, 3) := by decide +kernel
theorem dX8_sound_32 : decode cX8_sound 32 = .ok (.aload_n 0, 1) := by decide +kernel
theorem dX8_sound_33 : decode cX8_sound 33 = .ok (.iload_n 1, 1) := by decide +kernel
theorem dX8_sound_34 : decode cX8_sound 34 = .ok (.iload_n 2, 1) := by decide +kernel
theorem dX8_sound_35 : decode cX8_sound 35 = .ok (.iload_n 3, 1) := by decide +kernel
theorem dX8_sound_36 : decode cX8_sound 36 = .ok (.invokevirtual 123, 3) := by decide +kernel
theorem dX8_sound_39 : decode cX8_sound 39 = .ok (.ireturn, 1) := by decide +kernel
theorem dX8_law_0 : decode cX8_law 0 = .ok (.aload_n 0, 1) := by decide +kernel
theorem dX8_law_1 : decode cX8_law 1 = .ok (.iload_n 1, 1) := by decide +kernel
theorem dX8_law_2 : decode cX8_law 2 = .ok (.invokevirtual 127, 3) := by decide +kernel
theorem dX8_law_5 : decode cX8_law 5 = .ok (.ifCond .eq 10, 3) := by decide +kernel
theorem dX8_law_8 : decode cX8_law 8 = .ok (.iload_n 2, 1) := by decide +kernel
theorem dX8_law_9 : decode cX8_law 9 = .ok (.invokestatic 130, 3) := by decide +kernel
theorem dX8_law_12 : decode cX8_law 12 = .ok (.ifCond .ne 6, 3) := by decide +kernel
theorem dX8_law_15 : decode cX8_law 15 = .ok (.bipush (-101), 2) := by decide +kernel
theorem dX8_law_17 : decode cX8_law 17 = .ok (.ireturn, 1) := by decide +kernel
theorem dX8_law_18 : decode cX8_law 18 = .ok (.iload_n 3, 1) := by decide +kernel
theorem dX8_law_19 : decode cX8_law 19 = .ok (.ifCond .lt 19, 3) := by decide +kernel
theorem dX8_law_22 : decode cX8_law 22 = .ok (.iload_n 3, 1) := by decide +kernel
theorem dX8_law_23 : decode cX8_law 23 = .ok (.iconst 1, 1) := by decide +kernel
theorem dX8_law_24 : decode cX8_law 24 = .ok (.if_icmp .gt 14, 3) := by decide +kernel
theorem dX8_law_27 : decode cX8_law 27 = .ok (.iload 4, 2) := by decide +kernel
theorem dX8_law_29 : decode cX8_law 29 = .ok (.ifCond .lt 9, 3) := by decide +kernel
theorem dX8_law_32 : decode cX8_law 32 = .ok (.iload 4, 2) := by decide +kernel
theorem dX8_law_34 : decode cX8_law 34 = .ok (.iconst 3, 1) := by decide +kernel
theorem dX8_law_35 : decode cX8_law 35 = .ok (.if_icmp .lt 6, 3) := by decide +kernel
theorem dX8_law_38 : decode cX8_law 38 = .ok (.bipush (-102), 2) := by decide +kernel
theorem dX8_law_40 : decode cX8_law 40 = .ok (.ireturn, 1) := by decide +kernel
theorem dX8_law_41 : decode cX8_law 41 = .ok (.aload_n 0, 1) := by decide +kernel
theorem dX8_law_42 : decode cX8_law 42 = .ok (.invokevirtual 100, 3) := by decide +kernel
theorem dX8_law_45 : decode cX8_law 45 = .ok (.aload_n 0, 1) := by decide +kernel
theorem dX8_law_46 : decode cX8_law 46 = .ok (.getfield 37, 3) := by decide +kernel
theorem dX8_law_49 : decode cX8_law 49 = .ok (.getfield 133, 3) := by decide +kernel
theorem dX8_law_52 : decode cX8_law 52 = .ok (.iload_n 1, 1) := by decide +kernel
theorem dX8_law_53 : decode cX8_law 53 = .ok (.iload_n 2, 1) := by decide +kernel
theorem dX8_law_54 : decode cX8_law 54 = .ok (.iload_n 3, 1) := by decide +kernel
theorem dX8_law_55 : decode cX8_law 55 = .ok (.invokestatic 137, 3) := by decide +kernel
theorem dX8_law_58 : decode cX8_law 58 = .ok (.iload 4, 2) := by decide +kernel
theorem dX8_law_60 : decode cX8_law 60 = .ok (.invokevirtual 140, 3) := by decide +kernel
theorem dX8_law_63 : decode cX8_law 63 = .ok (.ireturn, 1) := by decide +kernel
theorem dX8_strange_0 : decode cX8_strange 0 = .ok (.aload_n 0, 1) := by decide +kernel
theorem dX8_strange_1 : decode cX8_strange 1 = .ok (.iload_n 1, 1) := by decide +kernel
theorem dX8_strange_2 : decode cX8_strange 2 = .ok (.invokevirtual 96, 3) := by decide +kernel
theorem dX8_strange_5 : decode cX8_strange 5 = .ok (.ifCond .eq 11, 3) := by decide +kernel
theorem dX8_strange_8 : decode cX8_strange 8 = .ok (.aload_n 0, 1) := by decide +kernel
theorem dX8_strange_9 : decode cX8_strange 9 = .ok (.iload_n 2, 1) := by decide +kernel
theorem dX8_strange_10 : decode cX8_strange 10 = .ok (.invokevirtual 127, 3) := by decide +kernel
theorem dX8_strange_13 : decode cX8_strange 13 = .ok (.ifCond .ne 6, 3) := by decide +kernel
theorem dX8_strange_16 : decode cX8_strange 16 = .ok (.bipush (-101), 2) := by decide +kernel
theorem dX8_strange_18 : decode cX8_strange 18 = .ok (.ireturn, 1) := by decide +kernel
theorem dX8_strange_19 : decode cX8_strange 19 = .ok (.getstatic 145, 3) := by decide +kernel
theorem dX8_strange_22 : decode cX8_strange 22 = .ok (.aload_n 0, 1) := by decide +kernel
theorem dX8_strange_23 : decode cX8_strange 23 = .ok (.getfield 23, 3) := by decide +kernel
theorem dX8_strange_26 : decode cX8_strange 26 = .ok (.getfield 110, 3) := by decide +kernel
theorem dX8_strange_29 : decode cX8_strange 29 = .ok (.iload_n 1, 1) := by decide +kernel
theorem dX8_strange_30 : decode cX8_strange 30 = .ok (.iaload, 1) := by decide +kernel
theorem dX8_strange_31 : decode cX8_strange 31 = .ok (.iaload, 1) := by decide +kernel
theorem dX8_strange_32 : decode cX8_strange 32 = .ok (.ifCond .ne 6, 3) := by decide +kernel
theorem dX8_strange_35 : decode cX8_strange 35 = .ok (.bipush (-103), 2) := by decide +kernel
theorem dX8_strange_37 : decode cX8_strange 37 = .ok (.ireturn, 1) := by decide +kernel
theorem dX8_strange_38 : decode cX8_strange 38 = .ok (.aload_n 0, 1) := by decide +kernel
theorem dX8_strange_39 : decode cX8_strange 39 = .ok (.invokevirtual 100, 3) := by decide +kernel
theorem dX8_strange_42 : decode cX8_strange 42 = .ok (.aload_n 0, 1) := by decide +kernel
theorem dX8_strange_43 : decode cX8_strange 43 = .ok (.getfield 37, 3) := by decide +kernel
theorem dX8_strange_46 : decode cX8_strange 46 = .ok (.getfield 148, 3) := by decide +kernel
theorem dX8_strange_49 : decode cX8_strange 49 = .ok (.iload_n 1, 1) := by decide +kernel
theorem dX8_strange_50 : decode cX8_strange 50 = .ok (.iconst 4, 1) := by decide +kernel
theorem dX8_strange_51 : decode cX8_strange 51 = .ok (.imul, 1) := by decide +kernel
theorem dX8_strange_52 : decode cX8_strange 52 = .ok (.iload_n 2, 1) := by decide +kernel
theorem dX8_strange_53 : decode cX8_strange 53 = .ok (.iadd, 1) := by decide +kernel
theorem dX8_strange_54 : decode cX8_strange 54 = .ok (.iaload, 1) := by decide +kernel
theorem dX8_strange_55 : decode cX8_strange 55 = .ok (.ireturn, 1) := by decide +kernel
theorem dX8_say_0 : decode cX8_say 0 = .ok (.aload_n 0, 1) := by decide +kernel
theorem dX8_say_1 : decode cX8_say 1 = .ok (.iload_n 1, 1) := by decide +kernel
theorem dX8_say_2 : decode cX8_say 2 = .ok (.invokevirtual 96, 3) := by decide +kernel
theorem dX8_say_5 : decode cX8_say 5 = .ok (.ifCond .eq 20, 3) := by decide +kernel
theorem dX8_say_8 : decode cX8_say 8 = .ok (.aload_n 0, 1) := by decide +kernel
theorem dX8_say_9 : decode cX8_say 9 = .ok (.iload_n 2, 1) := by decide +kernel
theorem dX8_say_10 : decode cX8_say 10 = .ok (.invokevirtual 127, 3) := by decide +kernel
theorem dX8_say_13 : decode cX8_say 13 = .ok (.ifCond .eq 12, 3) := by decide +kernel
theorem dX8_say_16 : decode cX8_say 16 = .ok (.aload_n 0, 1) := by decide +kernel
theorem dX8_say_17 : decode cX8_say 17 = .ok (.iload_n 1, 1) := by decide +kernel
theorem dX8_say_18 : decode cX8_say 18 = .ok (.iload_n 3, 1) := by decide +kernel
theorem dX8_say_19 : decode cX8_say 19 = .ok (.invokevirtual 120, 3) := by decide +kernel
theorem dX8_say_22 : decode cX8_say 22 = .ok (.ifCond .ne 6, 3) := by decide +kernel
theorem dX8_say_25 : decode cX8_say 25 = .ok (.bipush (-101), 2) := by decide +kernel
theorem dX8_say_27 : decode cX8_say 27 = .ok (.ireturn, 1) := by decide +kernel
theorem dX8_say_28 : decode cX8_say 28 = .ok (.getstatic 145, 3) := by decide +kernel
theorem dX8_say_31 : decode cX8_say 31 = .ok (.aload_n 0, 1) := by decide +kernel
theorem dX8_say_32 : decode cX8_say 32 = .ok (.getfield 23, 3) := by decide +kernel
theorem dX8_say_35 : decode cX8_say 35 = .ok (.getfield 110, 3) := by decide +kernel
theorem dX8_say_38 : decode cX8_say 38 = .ok (.iload_n 1, 1) := by decide +kernel
theorem dX8_say_39 : decode cX8_say 39 = .ok (.iaload, 1) := by decide +kernel
theorem dX8_say_40 : decode cX8_say 40 = .ok (.iaload, 1) := by decide +kernel
theorem dX8_say_41 : decode cX8_say 41 = .ok (.ifCond .ne 6, 3) := by decide +kernel
theorem dX8_say_44 : decode cX8_say 44 = .ok (.bipush (-103), 2) := by decide +kernel
theorem dX8_say_46 : decode cX8_say 46 = .ok (.ireturn, 1) := by decide +kernel
theorem dX8_say_47 : decode cX8_say 47 = .ok (.aload_n 0, 1) := by decide +kernel
theorem dX8_say_48 : decode cX8_say 48 = .ok (.invokevirtual 100, 3) := by decide +kernel
theorem dX8_say_51 : decode cX8_say 51 = .ok (.aload_n 0, 1) := by decide +kernel
theorem dX8_say_52 : decode cX8_say 52 = .ok (.getfield 37, 3) := by decide +kernel
theorem dX8_say_55 : decode cX8_say 55 = .ok (.aload_n 0, 1) := by decide +kernel
theorem dX8_say_56 : decode cX8_say 56 = .ok (.getfield 23, 3) := by decide +kernel
theorem dX8_say_59 : decode cX8_say 59 = .ok (.iload_n 1, 1) := by decide +kernel
theorem dX8_say_60 : decode cX8_say 60 = .ok (.iload_n 3, 1) := by decide +kernel
theorem dX8_say_61 : decode cX8_say 61 = .ok (.invokevirtual 151, 3) := by decide +kernel
theorem dX8_say_64 : decode cX8_say 64 = .ok (.istore 4, 2) := by decide +kernel
theorem dX8_say_66 : decode cX8_say 66 = .ok (.aload_n 0, 1) := by decide +kernel
theorem dX8_say_67 : decode cX8_say 67 = .ok (.getfield 37, 3) := by decide +kernel
theorem dX8_say_70 : decode cX8_say 70 = .ok (.getfield 133, 3) := by decide +kernel
theorem dX8_say_73 : decode cX8_say 73 = .ok (.getfield 155, 3) := by decide +kernel
theorem dX8_say_76 : decode cX8_say 76 = .ok (.iload_n 2, 1) := by decide +kernel
theorem dX8_say_77 : decode cX8_say 77 = .ok (.iload 4, 2) := by decide +kernel
theorem dX8_say_79 : decode cX8_say 79 = .ok (.iload_n 3, 1) := by decide +kernel
theorem dX8_say_80 : decode cX8_say 80 = .ok (.invokestatic 158, 3) := by decide +kernel
theorem dX8_say_83 : decode cX8_say 83 = .ok (.invokestatic 137, 3) := by decide +kernel
theorem dX8_say_86 : decode cX8_say 86 = .ok (.iaload, 1) := by decide +kernel
theorem dX8_say_87 : decode cX8_say 87 = .ok (.istore 5, 2) := by decide +kernel
theorem dX8_say_89 : decode cX8_say 89 = .ok (.iload 5, 2) := by decide +kernel
theorem dX8_say_91 : decode cX8_say 91 = .ok (.iconst (-1), 1) := by decide +kernel
theorem dX8_say_92 : decode cX8_say 92 = .ok (.if_icmp .ne 8, 3) := by decide +kernel
theorem dX8_say_95 : decode cX8_say 95 = .ok (.iload 4, 2) := by decide +kernel
theorem dX8_say_97 : decode cX8_say 97 = .ok (.goto 5, 3) := by decide +kernel
theorem dX8_say_100 : decode cX8_say 100 = .ok (.iload 5, 2) := by decide +kernel
theorem dX8_say_102 : decode cX8_say 102 = .ok (.ireturn, 1) := by decide +kernel
theorem dX8_line_0 : decode cX8_line 0 = .ok (.aload_n 0, 1) := by decide +kernel
theorem dX8_line_1 : decode cX8_line 1 = .ok (.iload_n 1, 1) := by decide +kernel
theorem dX8_line_2 : decode cX8_line 2 = .ok (.invokevirtual 96, 3) := by decide +kernel
theorem dX8_line_5 : decode cX8_line 5 = .ok (.ifCond .eq 28, 3) := by decide +kernel
theorem dX8_line_8 : decode cX8_line 8 = .ok (.aload_n 0, 1) := by decide +kernel
theorem dX8_line_9 : decode cX8_line 9 = .ok (.iload_n 2, 1) := by decide +kernel
theorem dX8_line_10 : decode cX8_line 10 = .ok (.invokevirtual 127, 3) := by decide +kernel
theorem dX8_line_13 : decode cX8_line 13 = .ok (.ifCond .eq 20, 3) := by decide +kernel
theorem dX8_line_16 : decode cX8_line 16 = .ok (.aload_n 0, 1) := by decide +kernel
theorem dX8_line_17 : decode cX8_line 17 = .ok (.iload_n 3, 1) := by decide +kernel
theorem dX8_line_18 : decode cX8_line 18 = .ok (.invokevirtual 96, 3) := by decide +kernel
theorem dX8_line_21 : decode cX8_line 21 = .ok (.ifCond .eq 12, 3) := by decide +kernel
theorem dX8_line_24 : decode cX8_line 24 = .ok (.aload_n 0, 1) := by decide +kernel
theorem dX8_line_25 : decode cX8_line 25 = .ok (.iload 4, 2) := by decide +kernel
theorem dX8_line_27 : decode cX8_line 27 = .ok (.invokevirtual 127, 3) := by decide +kernel
theorem dX8_line_30 : decode cX8_line 30 = .ok (.ifCond .ne 6, 3) := by decide +kernel
theorem dX8_line_33 : decode cX8_line 33 = .ok (.bipush (-101), 2) := by decide +kernel
theorem dX8_line_35 : decode cX8_line 35 = .ok (.ireturn, 1) := by decide +kernel
theorem dX8_line_36 : decode cX8_line 36 = .ok (.aload_n 0, 1) := by decide +kernel
theorem dX8_line_37 : decode cX8_line 37 = .ok (.getfield 50, 3) := by decide +kernel
theorem dX8_line_40 : decode cX8_line 40 = .ok (.aload_n 0, 1) := by decide +kernel
theorem dX8_line_41 : decode cX8_line 41 = .ok (.getfield 23, 3) := by decide +kernel
theorem dX8_line_44 : decode cX8_line 44 = .ok (.getfield 162, 3) := by decide +kernel
theorem dX8_line_47 : decode cX8_line 47 = .ok (.iload_n 1, 1) := by decide +kernel
theorem dX8_line_48 : decode cX8_line 48 = .ok (.iload_n 2, 1) := by decide +kernel
theorem dX8_line_49 : decode cX8_line 49 = .ok (.invokestatic 165, 3) := by decide +kernel
theorem dX8_line_52 : decode cX8_line 52 = .ok (.aload_n 0, 1) := by decide +kernel
theorem dX8_line_53 : decode cX8_line 53 = .ok (.getfield 23, 3) := by decide +kernel
theorem dX8_line_56 : decode cX8_line 56 = .ok (.getfield 168, 3) := by decide +kernel
theorem dX8_line_59 : decode cX8_line 59 = .ok (.iload_n 1, 1) := by decide +kernel
theorem dX8_line_60 : decode cX8_line 60 = .ok (.iaload, 1) := by decide +kernel
theorem dX8_line_61 : decode cX8_line 61 = .ok (.invokevirtual 171, 3) := by decide +kernel
theorem dX8_line_64 : decode cX8_line 64 = .ok (.aload_n 0, 1) := by decide +kernel
theorem dX8_line_65 : decode cX8_line 65 = .ok (.getfield 50, 3) := by decide +kernel
theorem dX8_line_68 : decode cX8_line 68 = .ok (.aload_n 0, 1) := by decide +kernel
theorem dX8_line_69 : decode cX8_line 69 = .ok (.getfield 23, 3) := by decide +kernel
theorem dX8_line_72 : decode cX8_line 72 = .ok (.getfield 162, 3) := by decide +kernel
theorem dX8_line_75 : decode cX8_line 75 = .ok (.iload_n 3, 1) := by decide +kernel
theorem dX8_line_76 : decode cX8_line 76 = .ok (.iload 4, 2) := by decide +kernel
theorem dX8_line_78 : decode cX8_line 78 = .ok (.invokestatic 165, 3) := by decide +kernel
theorem dX8_line_81 : decode cX8_line 81 = .ok (.aload_n 0, 1) := by decide +kernel
theorem dX8_line_82 : decode cX8_line 82 = .ok (.getfield 23, 3) := by decide +kernel
theorem dX8_line_85 : decode cX8_line 85 = .ok (.getfield 168, 3) := by decide +kernel
theorem dX8_line_88 : decode cX8_line 88 = .ok (.iload_n 3, 1) := by decide +kernel
theorem dX8_line_89 : decode cX8_line 89 = .ok (.iaload, 1) := by decide +kernel
theorem dX8_line_90 : decode cX8_line 90 = .ok (.invokevirtual 175, 3) := by decide +kernel
theorem dX8_line_93 : decode cX8_line 93 = .ok (.aload_n 0, 1) := by decide +kernel
theorem dX8_line_94 : decode cX8_line 94 = .ok (.getfield 50, 3) := by decide +kernel
theorem dX8_line_97 : decode cX8_line 97 = .ok (.invokevirtual 178, 3) := by decide +kernel
theorem dX8_line_100 : decode cX8_line 100 = .ok (.ireturn, 1) := by decide +kernel
theorem dX8_cost_0 : decode cX8_cost 0 = .ok (.iload_n 1, 1) := by decide +kernel
theorem dX8_cost_1 : decode cX8_cost 1 = .ok (.invokestatic 130, 3) := by decide +kernel
theorem dX8_cost_4 : decode cX8_cost 4 = .ok (.ifCond .eq 10, 3) := by decide +kernel
theorem dX8_cost_7 : decode cX8_cost 7 = .ok (.iload_n 2, 1) := by decide +kernel
theorem dX8_cost_8 : decode cX8_cost 8 = .ok (.invokestatic 130, 3) := by decide +kernel
theorem dX8_cost_11 : decode cX8_cost 11 = .ok (.ifCond .ne 6, 3) := by decide +kernel
theorem dX8_cost_14 : decode cX8_cost 14 = .ok (.bipush (-101), 2) := by decide +kernel
theorem dX8_cost_16 : decode cX8_cost 16 = .ok (.ireturn, 1) := by decide +kernel
theorem dX8_cost_17 : decode cX8_cost 17 = .ok (.iload_n 1, 1) := by decide +kernel
theorem dX8_cost_18 : decode cX8_cost 18 = .ok (.iload_n 2, 1) := by decide +kernel
theorem dX8_cost_19 : decode cX8_cost 19 = .ok (.invokestatic 181, 3) := by decide +kernel
theorem dX8_cost_22 : decode cX8_cost 22 = .ok (.ireturn, 1) := by decide +kernel
theorem dX8_put_0 : decode cX8_put 0 = .ok (.aload_n 0, 1) := by decide +kernel
theorem dX8_put_1 : decode cX8_put 1 = .ok (.iload_n 1, 1) := by decide +kernel
theorem dX8_put_2 : decode cX8_put 2 = .ok (.invokevirtual 96, 3) := by decide +kernel
theorem dX8_put_5 : decode cX8_put 5 = .ok (.ifCond .eq 20, 3) := by decide +kernel
theorem dX8_put_8 : decode cX8_put 8 = .ok (.aload_n 0, 1) := by decide +kernel
theorem dX8_put_9 : decode cX8_put 9 = .ok (.iload_n 2, 1) := by decide +kernel
theorem dX8_put_10 : decode cX8_put 10 = .ok (.invokevirtual 127, 3) := by decide +kernel
theorem dX8_put_13 : decode cX8_put 13 = .ok (.ifCond .eq 12, 3) := by decide +kernel
theorem dX8_put_16 : decode cX8_put 16 = .ok (.aload_n 0, 1) := by decide +kernel
theorem dX8_put_17 : decode cX8_put 17 = .ok (.iload_n 1, 1) := by decide +kernel
theorem dX8_put_18 : decode cX8_put 18 = .ok (.iload_n 3, 1) := by decide +kernel
theorem dX8_put_19 : decode cX8_put 19 = .ok (.invokevirtual 120, 3) := by decide +kernel
theorem dX8_put_22 : decode cX8_put 22 = .ok (.ifCond .ne 6, 3) := by decide +kernel
theorem dX8_put_25 : decode cX8_put 25 = .ok (.bipush (-101), 2) := by decide +kernel
theorem dX8_put_27 : decode cX8_put 27 = .ok (.ireturn, 1) := by decide +kernel
theorem dX8_put_28 : decode cX8_put 28 = .ok (.iload 4, 2) := by decide +kernel
theorem dX8_put_30 : decode cX8_put 30 = .ok (.invokestatic 130, 3) := by decide +kernel
theorem dX8_put_33 : decode cX8_put 33 = .ok (.ifCond .ne 6, 3) := by decide +kernel
theorem dX8_put_36 : decode cX8_put 36 = .ok (.bipush (-102), 2) := by decide +kernel
theorem dX8_put_38 : decode cX8_put 38 = .ok (.ireturn, 1) := by decide +kernel
theorem dX8_put_39 : decode cX8_put 39 = .ok (.iload 4, 2) := by decide +kernel
theorem dX8_put_41 : decode cX8_put 41 = .ok (.ifCond .ne 19, 3) := by decide +kernel
theorem dX8_put_44 : decode cX8_put 44 = .ok (.aload_n 0, 1) := by decide +kernel
theorem dX8_put_45 : decode cX8_put 45 = .ok (.getfield 23, 3) := by decide +kernel
theorem dX8_put_48 : decode cX8_put 48 = .ok (.iload_n 1, 1) := by decide +kernel
theorem dX8_put_49 : decode cX8_put 49 = .ok (.iload_n 2, 1) := by decide +kernel
theorem dX8_put_50 : decode cX8_put 50 = .ok (.iload_n 3, 1) := by decide +kernel
theorem dX8_put_51 : decode cX8_put 51 = .ok (.invokevirtual 184, 3) := by decide +kernel
theorem dX8_put_54 : decode cX8_put 54 = .ok (.ifCond .eq 6, 3) := by decide +kernel
theorem dX8_put_57 : decode cX8_put 57 = .ok (.bipush (-103), 2) := by decide +kernel
theorem dX8_put_59 : decode cX8_put 59 = .ok (.ireturn, 1) := by decide +kernel
theorem dX8_put_60 : decode cX8_put 60 = .ok (.iload_n 1, 1) := by decide +kernel
theorem dX8_put_61 : decode cX8_put 61 = .ok (.iload_n 2, 1) := by decide +kernel
theorem dX8_put_62 : decode cX8_put 62 = .ok (.invokestatic 165, 3) := by decide +kernel
theorem dX8_put_65 : decode cX8_put 65 = .ok (.iload_n 3, 1) := by decide +kernel
theorem dX8_put_66 : decode cX8_put 66 = .ok (.iadd, 1) := by decide +kernel
theorem dX8_put_67 : decode cX8_put 67 = .ok (.istore 5, 2) := by decide +kernel
theorem dX8_put_69 : decode cX8_put 69 = .ok (.aload_n 0, 1) := by decide +kernel
theorem dX8_put_70 : decode cX8_put 70 = .ok (.getfield 23, 3) := by decide +kernel
theorem dX8_put_73 : decode cX8_put 73 = .ok (.getfield 162, 3) := by decide +kernel
theorem dX8_put_76 : decode cX8_put 76 = .ok (.iload 5, 2) := by decide +kernel
theorem dX8_put_78 : decode cX8_put 78 = .ok (.iaload, 1) := by decide +kernel
theorem dX8_put_79 : decode cX8_put 79 = .ok (.istore 6, 2) := by decide +kernel
theorem dX8_put_81 : decode cX8_put 81 = .ok (.aload_n 0, 1) := by decide +kernel
theorem dX8_put_82 : decode cX8_put 82 = .ok (.getfield 23, 3) := by decide +kernel
theorem dX8_put_85 : decode cX8_put 85 = .ok (.getfield 162, 3) := by decide +kernel
theorem dX8_put_88 : decode cX8_put 88 = .ok (.iload 5, 2) := by decide +kernel
theorem dX8_put_90 : decode cX8_put 90 = .ok (.iload 4, 2) := by decide +kernel
theorem dX8_put_92 : decode cX8_put 92 = .ok (.iastore, 1) := by decide +kernel
theorem dX8_put_93 : decode cX8_put 93 = .ok (.aload_n 0, 1) := by decide +kernel
theorem dX8_put_94 : decode cX8_put 94 = .ok (.iconst 0, 1) := by decide +kernel
theorem dX8_put_95 : decode cX8_put 95 = .ok (.putfield 87, 3) := by decide +kernel
theorem dX8_put_98 : decode cX8_put 98 = .ok (.iload 6, 2) := by decide +kernel
theorem dX8_put_100 : decode cX8_put 100 = .ok (.ireturn, 1) := by decide +kernel
theorem dX8_copy_0 : decode cX8_copy 0 = .ok (.aload_n 0, 1) := by decide +kernel
theorem dX8_copy_1 : decode cX8_copy 1 = .ok (.iload_n 1, 1) := by decide +kernel
theorem dX8_copy_2 : decode cX8_copy 2 = .ok (.invokevirtual 96, 3) := by decide +kernel
theorem dX8_copy_5 : decode cX8_copy 5 = .ok (.ifCond .ne 6, 3) := by decide +kernel
theorem dX8_copy_8 : decode cX8_copy 8 = .ok (.bipush (-101), 2) := by decide +kernel
theorem dX8_copy_10 : decode cX8_copy 10 = .ok (.ireturn, 1) := by decide +kernel
theorem dX8_copy_11 : decode cX8_copy 11 = .ok (.aload_n 0, 1) := by decide +kernel
theorem dX8_copy_12 : decode cX8_copy 12 = .ok (.getfield 23, 3) := by decide +kernel
theorem dX8_copy_15 : decode cX8_copy 15 = .ok (.getfield 93, 3) := by decide +kernel
theorem dX8_copy_18 : decode cX8_copy 18 = .ok (.bipush 6, 2) := by decide +kernel
theorem dX8_copy_20 : decode cX8_copy 20 = .ok (.if_icmp .lt 6, 3) := by decide +kernel
theorem dX8_copy_23 : decode cX8_copy 23 = .ok (.bipush (-104), 2) := by decide +kernel
theorem dX8_copy_25 : decode cX8_copy 25 = .ok (.ireturn, 1) := by decide +kernel
theorem dX8_copy_26 : decode cX8_copy 26 = .ok (.aload_n 0, 1) := by decide +kernel
theorem dX8_copy_27 : decode cX8_copy 27 = .ok (.getfield 23, 3) := by decide +kernel
theorem dX8_copy_30 : decode cX8_copy 30 = .ok (.getfield 93, 3) := by decide +kernel
theorem dX8_copy_33 : decode cX8_copy 33 = .ok (.istore_n 2, 1) := by decide +kernel
theorem dX8_copy_34 : decode cX8_copy 34 = .ok (.aload_n 0, 1) := by decide +kernel
theorem dX8_copy_35 : decode cX8_copy 35 = .ok (.getfield 23, 3) := by decide +kernel
theorem dX8_copy_38 : decode cX8_copy 38 = .ok (.iload_n 1, 1) := by decide +kernel
theorem dX8_copy_39 : decode cX8_copy 39 = .ok (.iload_n 2, 1) := by decide +kernel
theorem dX8_copy_40 : decode cX8_copy 40 = .ok (.invokevirtual 188, 3) := by decide +kernel
theorem dX8_copy_43 : decode cX8_copy 43 = .ok (.aload_n 0, 1) := by decide +kernel
theorem dX8_copy_44 : decode cX8_copy 44 = .ok (.getfield 23, 3) := by decide +kernel
theorem dX8_copy_47 : decode cX8_copy 47 = .ok (.dup, 1) := by decide +kernel
theorem dX8_copy_48 : decode cX8_copy 48 = .ok (.getfield 93, 3) := by decide +kernel
theorem dX8_copy_51 : decode cX8_copy 51 = .ok (.iconst 1, 1) := by decide +kernel
theorem dX8_copy_52 : decode cX8_copy 52 = .ok (.iadd, 1) := by decide +kernel
theorem dX8_copy_53 : decode cX8_copy 53 = .ok (.putfield 93, 3) := by decide +kernel
theorem dX8_copy_56 : decode cX8_copy 56 = .ok (.aload_n 0, 1) := by decide +kernel
theorem dX8_copy_57 : decode cX8_copy 57 = .ok (.iconst 0, 1) := by decide +kernel
theorem dX8_copy_58 : decode cX8_copy 58 = .ok (.putfield 87, 3) := by decide +kernel
theorem dX8_copy_61 : decode cX8_copy 61 = .ok (.iload_n 2, 1) := by decide +kernel
theorem dX8_copy_62 : decode cX8_copy 62 = .ok (.ireturn, 1) := by decide +kernel
theorem dX8_take_0 : decode cX8_take 0 = .ok (.aload_n 0, 1) := by decide +kernel
theorem dX8_take_1 : decode cX8_take 1 = .ok (.iload_n 1, 1) := by decide +kernel
theorem dX8_take_2 : decode cX8_take 2 = .ok (.invokevirtual 96, 3) := by decide +kernel
theorem dX8_take_5 : decode cX8_take 5 = .ok (.ifCond .ne 6, 3) := by decide +kernel
theorem dX8_take_8 : decode cX8_take 8 = .ok (.bipush (-101), 2) := by decide +kernel
theorem dX8_take_10 : decode cX8_take 10 = .ok (.ireturn, 1) := by decide +kernel
theorem dX8_take_11 : decode cX8_take 11 = .ok (.aload_n 0, 1) := by decide +kernel
theorem dX8_take_12 : decode cX8_take 12 = .ok (.getfield 23, 3) := by decide +kernel
theorem dX8_take_15 : decode cX8_take 15 = .ok (.getfield 93, 3) := by decide +kernel
theorem dX8_take_18 : decode cX8_take 18 = .ok (.iconst 1, 1) := by decide +kernel
theorem dX8_take_19 : decode cX8_take 19 = .ok (.if_icmp .ne 6, 3) := by decide +kernel
theorem dX8_take_22 : decode cX8_take 22 = .ok (.bipush (-103), 2) := by decide +kernel
theorem dX8_take_24 : decode cX8_take 24 = .ok (.ireturn, 1) := by decide +kernel
theorem dX8_take_25 : decode cX8_take 25 = .ok (.aload_n 0, 1) := by decide +kernel
theorem dX8_take_26 : decode cX8_take 26 = .ok (.getfield 23, 3) := by decide +kernel
theorem dX8_take_29 : decode cX8_take 29 = .ok (.iload_n 1, 1) := by decide +kernel
theorem dX8_take_30 : decode cX8_take 30 = .ok (.invokevirtual 192, 3) := by decide +kernel
theorem dX8_take_33 : decode cX8_take 33 = .ok (.aload_n 0, 1) := by decide +kernel
theorem dX8_take_34 : decode cX8_take 34 = .ok (.getfield 30, 3) := by decide +kernel
theorem dX8_take_37 : decode cX8_take 37 = .ok (.iload_n 1, 1) := by decide +kernel
theorem dX8_take_38 : decode cX8_take 38 = .ok (.invokevirtual 196, 3) := by decide +kernel
theorem dX8_take_41 : decode cX8_take 41 = .ok (.aload_n 0, 1) := by decide +kernel
theorem dX8_take_42 : decode cX8_take 42 = .ok (.iconst 0, 1) := by decide +kernel
theorem dX8_take_43 : decode cX8_take 43 = .ok (.putfield 87, 3) := by decide +kernel
theorem dX8_take_46 : decode cX8_take 46 = .ok (.aload_n 0, 1) := by decide +kernel
theorem dX8_take_47 : decode cX8_take 47 = .ok (.getfield 23, 3) := by decide +kernel
theorem dX8_take_50 : decode cX8_take 50 = .ok (.getfield 93, 3) := by decide +kernel
theorem dX8_take_53 : decode cX8_take 53 = .ok (.ireturn, 1) := by decide +kernel
theorem dX8_change_0 : decode cX8_change 0 = .ok (.aload_n 0, 1) := by decide +kernel
theorem dX8_change_1 : decode cX8_change 1 = .ok (.iload_n 1, 1) := by decide +kernel
theorem dX8_change_2 : decode cX8_change 2 = .ok (.invokevirtual 96, 3) := by decide +kernel
theorem dX8_change_5 : decode cX8_change 5 = .ok (.ifCond .ne 6, 3) := by decide +kernel
theorem dX8_change_8 : decode cX8_change 8 = .ok (.bipush (-101), 2) := by decide +kernel
theorem dX8_change_10 : decode cX8_change 10 = .ok (.ireturn, 1) := by decide +kernel
theorem dX8_change_11 : decode cX8_change 11 = .ok (.iload_n 2, 1) := by decide +kernel
theorem dX8_change_12 : decode cX8_change 12 = .ok (.invokestatic 107, 3) := by decide +kernel
theorem dX8_change_15 : decode cX8_change 15 = .ok (.ifCond .ne 6, 3) := by decide +kernel
theorem dX8_change_18 : decode cX8_change 18 = .ok (.bipush (-102), 2) := by decide +kernel
theorem dX8_change_20 : decode cX8_change 20 = .ok (.ireturn, 1) := by decide +kernel
theorem dX8_change_21 : decode cX8_change 21 = .ok (.aload_n 0, 1) := by decide +kernel
theorem dX8_change_22 : decode cX8_change 22 = .ok (.getfield 23, 3) := by decide +kernel
theorem dX8_change_25 : decode cX8_change 25 = .ok (.getfield 110, 3) := by decide +kernel
theorem dX8_change_28 : decode cX8_change 28 = .ok (.iload_n 1, 1) := by decide +kernel
theorem dX8_change_29 : decode cX8_change 29 = .ok (.iaload, 1) := by decide +kernel
theorem dX8_change_30 : decode cX8_change 30 = .ok (.istore_n 3, 1) := by decide +kernel
theorem dX8_change_31 : decode cX8_change 31 = .ok (.aload_n 0, 1) := by decide +kernel
theorem dX8_change_32 : decode cX8_change 32 = .ok (.getfield 23, 3) := by decide +kernel
theorem dX8_change_35 : decode cX8_change 35 = .ok (.getfield 110, 3) := by decide +kernel
theorem dX8_change_38 : decode cX8_change 38 = .ok (.iload_n 1, 1) := by decide +kernel
theorem dX8_change_39 : decode cX8_change 39 = .ok (.iload_n 2, 1) := by decide +kernel
theorem dX8_change_40 : decode cX8_change 40 = .ok (.iastore, 1) := by decide +kernel
theorem dX8_change_41 : decode cX8_change 41 = .ok (.aload_n 0, 1) := by decide +kernel
theorem dX8_change_42 : decode cX8_change 42 = .ok (.iconst 0, 1) := by decide +kernel
theorem dX8_change_43 : decode cX8_change 43 = .ok (.putfield 87, 3) := by decide +kernel
theorem dX8_change_46 : decode cX8_change 46 = .ok (.iload_n 3, 1) := by decide +kernel
theorem dX8_change_47 : decode cX8_change 47 = .ok (.ireturn, 1) := by decide +kernel
theorem dX8_swap_0 : decode cX8_swap 0 = .ok (.aload_n 0, 1) := by decide +kernel
theorem dX8_swap_1 : decode cX8_swap 1 = .ok (.iload_n 1, 1) := by decide +kernel
theorem dX8_swap_2 : decode cX8_swap 2 = .ok (.invokevirtual 127, 3) := by decide +kernel
theorem dX8_swap_5 : decode cX8_swap 5 = .ok (.ifCond .eq 16, 3) := by decide +kernel
theorem dX8_swap_8 : decode cX8_swap 8 = .ok (.aload_n 0, 1) := by decide +kernel
theorem dX8_swap_9 : decode cX8_swap 9 = .ok (.iload_n 2, 1) := by decide +kernel
theorem dX8_swap_10 : decode cX8_swap 10 = .ok (.invokevirtual 127, 3) := by decide +kernel
theorem dX8_swap_13 : decode cX8_swap 13 = .ok (.ifCond .eq 8, 3) := by decide +kernel
theorem dX8_swap_16 : decode cX8_swap 16 = .ok (.iload_n 1, 1) := by decide +kernel
theorem dX8_swap_17 : decode cX8_swap 17 = .ok (.iload_n 2, 1) := by decide +kernel
theorem dX8_swap_18 : decode cX8_swap 18 = .ok (.if_icmp .ne 6, 3) := by decide +kernel
theorem dX8_swap_21 : decode cX8_swap 21 = .ok (.bipush (-101), 2) := by decide +kernel
theorem dX8_swap_23 : decode cX8_swap 23 = .ok (.ireturn, 1) := by decide +kernel
theorem dX8_swap_24 : decode cX8_swap 24 = .ok (.aload_n 0, 1) := by decide +kernel
theorem dX8_swap_25 : decode cX8_swap 25 = .ok (.getfield 23, 3) := by decide +kernel
theorem dX8_swap_28 : decode cX8_swap 28 = .ok (.iload_n 1, 1) := by decide +kernel
theorem dX8_swap_29 : decode cX8_swap 29 = .ok (.iload_n 2, 1) := by decide +kernel
theorem dX8_swap_30 : decode cX8_swap 30 = .ok (.invokevirtual 199, 3) := by decide +kernel
theorem dX8_swap_33 : decode cX8_swap 33 = .ok (.aload_n 0, 1) := by decide +kernel
theorem dX8_swap_34 : decode cX8_swap 34 = .ok (.iconst 0, 1) := by decide +kernel
theorem dX8_swap_35 : decode cX8_swap 35 = .ok (.putfield 87, 3) := by decide +kernel
theorem dX8_swap_38 : decode cX8_swap 38 = .ok (.aload_n 0, 1) := by decide +kernel
theorem dX8_swap_39 : decode cX8_swap 39 = .ok (.invokevirtual 100, 3) := by decide +kernel
theorem dX8_swap_42 : decode cX8_swap 42 = .ok (.aload_n 0, 1) := by decide +kernel
theorem dX8_swap_43 : decode cX8_swap 43 = .ok (.getfield 37, 3) := by decide +kernel
theorem dX8_swap_46 : decode cX8_swap 46 = .ok (.getfield 202, 3) := by decide +kernel
theorem dX8_swap_49 : decode cX8_swap 49 = .ok (.ireturn, 1) := by decide +kernel
theorem dX8_see_0 : decode cX8_see 0 = .ok (.aload_n 0, 1) := by decide +kernel
theorem dX8_see_1 : decode cX8_see 1 = .ok (.iload_n 1, 1) := by decide +kernel
theorem dX8_see_2 : decode cX8_see 2 = .ok (.invokevirtual 96, 3) := by decide +kernel
theorem dX8_see_5 : decode cX8_see 5 = .ok (.ifCond .ne 6, 3) := by decide +kernel
theorem dX8_see_8 : decode cX8_see 8 = .ok (.bipush (-101), 2) := by decide +kernel
theorem dX8_see_10 : decode cX8_see 10 = .ok (.ireturn, 1) := by decide +kernel
theorem dX8_see_11 : decode cX8_see 11 = .ok (.iload_n 2, 1) := by decide +kernel
theorem dX8_see_12 : decode cX8_see 12 = .ok (.ifCond .lt 8, 3) := by decide +kernel
theorem dX8_see_15 : decode cX8_see 15 = .ok (.iload_n 2, 1) := by decide +kernel
theorem dX8_see_16 : decode cX8_see 16 = .ok (.iconst 4, 1) := by decide +kernel
theorem dX8_see_17 : decode cX8_see 17 = .ok (.if_icmp .lt 6, 3) := by decide +kernel
theorem dX8_see_20 : decode cX8_see 20 = .ok (.bipush (-102), 2) := by decide +kernel
theorem dX8_see_22 : decode cX8_see 22 = .ok (.ireturn, 1) := by decide +kernel
theorem dX8_see_23 : decode cX8_see 23 = .ok (.aload_n 0, 1) := by decide +kernel
theorem dX8_see_24 : decode cX8_see 24 = .ok (.getfield 30, 3) := by decide +kernel
theorem dX8_see_27 : decode cX8_see 27 = .ok (.getfield 205, 3) := by decide +kernel
theorem dX8_see_30 : decode cX8_see 30 = .ok (.bipush 6, 2) := by decide +kernel
theorem dX8_see_32 : decode cX8_see 32 = .ok (.if_icmp .lt 6, 3) := by decide +kernel
theorem dX8_see_35 : decode cX8_see 35 = .ok (.bipush (-104), 2) := by decide +kernel
theorem dX8_see_37 : decode cX8_see 37 = .ok (.ireturn, 1) := by decide +kernel
theorem dX8_see_38 : decode cX8_see 38 = .ok (.aload_n 0, 1) := by decide +kernel
theorem dX8_see_39 : decode cX8_see 39 = .ok (.getfield 30, 3) := by decide +kernel
theorem dX8_see_42 : decode cX8_see 42 = .ok (.iload_n 1, 1) := by decide +kernel
theorem dX8_see_43 : decode cX8_see 43 = .ok (.iload_n 2, 1) := by decide +kernel
theorem dX8_see_44 : decode cX8_see 44 = .ok (.iload_n 3, 1) := by decide +kernel
theorem dX8_see_45 : decode cX8_see 45 = .ok (.invokevirtual 206, 3) := by decide +kernel
theorem dX8_see_48 : decode cX8_see 48 = .ok (.aload_n 0, 1) := by decide +kernel
theorem dX8_see_49 : decode cX8_see 49 = .ok (.getfield 30, 3) := by decide +kernel
theorem dX8_see_52 : decode cX8_see 52 = .ok (.getfield 205, 3) := by decide +kernel
theorem dX8_see_55 : decode cX8_see 55 = .ok (.ireturn, 1) := by decide +kernel
theorem dX8_forget_0 : decode cX8_forget 0 = .ok (.aload_n 0, 1) := by decide +kernel
theorem dX8_forget_1 : decode cX8_forget 1 = .ok (.getfield 30, 3) := by decide +kernel
theorem dX8_forget_4 : decode cX8_forget 4 = .ok (.getfield 205, 3) := by decide +kernel
theorem dX8_forget_7 : decode cX8_forget 7 = .ok (.istore_n 1, 1) := by decide +kernel
theorem dX8_forget_8 : decode cX8_forget 8 = .ok (.aload_n 0, 1) := by decide +kernel
theorem dX8_forget_9 : decode cX8_forget 9 = .ok (.getfield 30, 3) := by decide +kernel
theorem dX8_forget_12 : decode cX8_forget 12 = .ok (.invokevirtual 80, 3) := by decide +kernel
theorem dX8_forget_15 : decode cX8_forget 15 = .ok (.iload_n 1, 1) := by decide +kernel
theorem dX8_forget_16 : decode cX8_forget 16 = .ok (.ireturn, 1) := by decide +kernel
theorem dX8_drawn_0 : decode cX8_drawn 0 = .ok (.iload_n 1, 1) := by decide +kernel
theorem dX8_drawn_1 : decode cX8_drawn 1 = .ok (.iconst 1, 1) := by decide +kernel
theorem dX8_drawn_2 : decode cX8_drawn 2 = .ok (.if_icmp .lt 13, 3) := by decide +kernel
theorem dX8_drawn_5 : decode cX8_drawn 5 = .ok (.iload_n 1, 1) := by decide +kernel
theorem dX8_drawn_6 : decode cX8_drawn 6 = .ok (.bipush 40, 2) := by decide +kernel
theorem dX8_drawn_8 : decode cX8_drawn 8 = .ok (.if_icmp .gt 7, 3) := by decide +kernel
theorem dX8_drawn_11 : decode cX8_drawn 11 = .ok (.iload_n 2, 1) := by decide +kernel
theorem dX8_drawn_12 : decode cX8_drawn 12 = .ok (.ifCond .ge 6, 3) := by decide +kernel
theorem dX8_drawn_15 : decode cX8_drawn 15 = .ok (.bipush (-102), 2) := by decide +kernel
theorem dX8_drawn_17 : decode cX8_drawn 17 = .ok (.ireturn, 1) := by decide +kernel
theorem dX8_drawn_18 : decode cX8_drawn 18 = .ok (.iload_n 3, 1) := by decide +kernel
theorem dX8_drawn_19 : decode cX8_drawn 19 = .ok (.ifCond .lt 8, 3) := by decide +kernel
theorem dX8_drawn_22 : decode cX8_drawn 22 = .ok (.iload_n 3, 1) := by decide +kernel
theorem dX8_drawn_23 : decode cX8_drawn 23 = .ok (.iconst 3, 1) := by decide +kernel
theorem dX8_drawn_24 : decode cX8_drawn 24 = .ok (.if_icmp .lt 6, 3) := by decide +kernel
theorem dX8_drawn_27 : decode cX8_drawn 27 = .ok (.bipush (-102), 2) := by decide +kernel
theorem dX8_drawn_29 : decode cX8_drawn 29 = .ok (.ireturn, 1) := by decide +kernel
theorem dX8_drawn_30 : decode cX8_drawn 30 = .ok (.aload_n 0, 1) := by decide +kernel
theorem dX8_drawn_31 : decode cX8_drawn 31 = .ok (.getfield 57, 3) := by decide +kernel
theorem dX8_drawn_34 : decode cX8_drawn 34 = .ok (.iload_n 1, 1) := by decide +kernel
theorem dX8_drawn_35 : decode cX8_drawn 35 = .ok (.iload_n 2, 1) := by decide +kernel
theorem dX8_drawn_36 : decode cX8_drawn 36 = .ok (.invokevirtual 210, 3) := by decide +kernel
theorem dX8_drawn_39 : decode cX8_drawn 39 = .ok (.iload_n 3, 1) := by decide +kernel
theorem dX8_drawn_40 : decode cX8_drawn 40 = .ok (.lookupswitch 44 #[(0, 28), (1, 36)], 28) := by decide +kernel
theorem dX8_drawn_68 : decode cX8_drawn 68 = .ok (.aload_n 0, 1) := by decide +kernel
theorem dX8_drawn_69 : decode cX8_drawn 69 = .ok (.getfield 57, 3) := by decide +kernel
theorem dX8_drawn_72 : decode cX8_drawn 72 = .ok (.getfield 213, 3) := by decide +kernel
theorem dX8_drawn_75 : decode cX8_drawn 75 = .ok (.ireturn, 1) := by decide +kernel
theorem dX8_drawn_76 : decode cX8_drawn 76 = .ok (.aload_n 0, 1) := by decide +kernel
theorem dX8_drawn_77 : decode cX8_drawn 77 = .ok (.getfield 57, 3) := by decide +kernel
theorem dX8_drawn_80 : decode cX8_drawn 80 = .ok (.getfield 216, 3) := by decide +kernel
theorem dX8_drawn_83 : decode cX8_drawn 83 = .ok (.ireturn, 1) := by decide +kernel
theorem dX8_drawn_84 : decode cX8_drawn 84 = .ok (.aload_n 0, 1) := by decide +kernel
theorem dX8_drawn_85 : decode cX8_drawn 85 = .ok (.getfield 57, 3) := by decide +kernel
theorem dX8_drawn_88 : decode cX8_drawn 88 = .ok (.getfield 219, 3) := by decide +kernel
theorem dX8_drawn_91 : decode cX8_drawn 91 = .ok (.ireturn, 1) := by decide +kernel
theorem dX8_image_0 : decode cX8_image 0 = .ok (.aload_n 0, 1) := by decide +kernel
theorem dX8_image_1 : decode cX8_image 1 = .ok (.getfield 23, 3) := by decide +kernel
theorem dX8_image_4 : decode cX8_image 4 = .ok (.getfield 93, 3) := by decide +kernel
theorem dX8_image_7 : decode cX8_image 7 = .ok (.ifCond .ne 6, 3) := by decide +kernel
theorem dX8_image_10 : decode cX8_image 10 = .ok (.bipush (-103), 2) := by decide +kernel
theorem dX8_image_12 : decode cX8_image 12 = .ok (.ireturn, 1) := by decide +kernel
theorem dX8_image_13 : decode cX8_image 13 = .ok (.aload_n 0, 1) := by decide +kernel
theorem dX8_image_14 : decode cX8_image 14 = .ok (.getfield 41, 3) := by decide +kernel
theorem dX8_image_17 : decode cX8_image 17 = .ok (.aload_n 0, 1) := by decide +kernel
theorem dX8_image_18 : decode cX8_image 18 = .ok (.getfield 23, 3) := by decide +kernel
theorem dX8_image_21 : decode cX8_image 21 = .ok (.invokevirtual 76, 3) := by decide +kernel
theorem dX8_image_24 : decode cX8_image 24 = .ok (.aload_n 0, 1) := by decide +kernel
theorem dX8_image_25 : decode cX8_image 25 = .ok (.getfield 44, 3) := by decide +kernel
theorem dX8_image_28 : decode cX8_image 28 = .ok (.aload_n 0, 1) := by decide +kernel
theorem dX8_image_29 : decode cX8_image 29 = .ok (.getfield 30, 3) := by decide +kernel
theorem dX8_image_32 : decode cX8_image 32 = .ok (.invokevirtual 222, 3) := by decide +kernel
theorem dX8_image_35 : decode cX8_image 35 = .ok (.aload_n 0, 1) := by decide +kernel
theorem dX8_image_36 : decode cX8_image 36 = .ok (.iconst 1, 1) := by decide +kernel
theorem dX8_image_37 : decode cX8_image 37 = .ok (.putfield 83, 3) := by decide +kernel
theorem dX8_image_40 : decode cX8_image 40 = .ok (.aload_n 0, 1) := by decide +kernel
theorem dX8_image_41 : decode cX8_image 41 = .ok (.getfield 23, 3) := by decide +kernel
theorem dX8_image_44 : decode cX8_image 44 = .ok (.getfield 93, 3) := by decide +kernel
theorem dX8_image_47 : decode cX8_image 47 = .ok (.ireturn, 1) := by decide +kernel
theorem dX8_restore_0 : decode cX8_restore 0 = .ok (.aload_n 0, 1) := by decide +kernel
theorem dX8_restore_1 : decode cX8_restore 1 = .ok (.getfield 83, 3) := by decide +kernel
theorem dX8_restore_4 : decode cX8_restore 4 = .ok (.ifCond .ne 6, 3) := by decide +kernel
theorem dX8_restore_7 : decode cX8_restore 7 = .ok (.bipush (-103), 2) := by decide +kernel
theorem dX8_restore_9 : decode cX8_restore 9 = .ok (.ireturn, 1) := by decide +kernel
theorem dX8_restore_10 : decode cX8_restore 10 = .ok (.aload_n 0, 1) := by decide +kernel
theorem dX8_restore_11 : decode cX8_restore 11 = .ok (.getfield 23, 3) := by decide +kernel
theorem dX8_restore_14 : decode cX8_restore 14 = .ok (.aload_n 0, 1) := by decide +kernel
theorem dX8_restore_15 : decode cX8_restore 15 = .ok (.getfield 41, 3) := by decide +kernel
theorem dX8_restore_18 : decode cX8_restore 18 = .ok (.invokevirtual 76, 3) := by decide +kernel
theorem dX8_restore_21 : decode cX8_restore 21 = .ok (.aload_n 0, 1) := by decide +kernel
theorem dX8_restore_22 : decode cX8_restore 22 = .ok (.getfield 30, 3) := by decide +kernel
theorem dX8_restore_25 : decode cX8_restore 25 = .ok (.aload_n 0, 1) := by decide +kernel
theorem dX8_restore_26 : decode cX8_restore 26 = .ok (.getfield 44, 3) := by decide +kernel
theorem dX8_restore_29 : decode cX8_restore 29 = .ok (.invokevirtual 222, 3) := by decide +kernel
theorem dX8_restore_32 : decode cX8_restore 32 = .ok (.aload_n 0, 1) := by decide +kernel
theorem dX8_restore_33 : decode cX8_restore 33 = .ok (.iconst 0, 1) := by decide +kernel
theorem dX8_restore_34 : decode cX8_restore 34 = .ok (.putfield 87, 3) := by decide +kernel
theorem dX8_restore_37 : decode cX8_restore 37 = .ok (.aload_n 0, 1) := by decide +kernel
theorem dX8_restore_38 : decode cX8_restore 38 = .ok (.getfield 23, 3) := by decide +kernel
theorem dX8_restore_41 : decode cX8_restore 41 = .ok (.getfield 93, 3) := by decide +kernel
theorem dX8_restore_44 : decode cX8_restore 44 = .ok (.ireturn, 1) := by decide +kernel
theorem dX8_count_0 : decode cX8_count 0 = .ok (.iload_n 1, 1) := by decide +kernel
theorem dX8_count_1 : decode cX8_count 1 = .ok (.ifCond .lt 9, 3) := by decide +kernel
theorem dX8_count_4 : decode cX8_count 4 = .ok (.iload_n 1, 1) := by decide +kernel
theorem dX8_count_5 : decode cX8_count 5 = .ok (.bipush 10, 2) := by decide +kernel
theorem dX8_count_7 : decode cX8_count 7 = .ok (.if_icmp .lt 6, 3) := by decide +kernel
theorem dX8_count_10 : decode cX8_count 10 = .ok (.bipush (-102), 2) := by decide +kernel
theorem dX8_count_12 : decode cX8_count 12 = .ok (.ireturn, 1) := by decide +kernel
theorem dX8_count_13 : decode cX8_count 13 = .ok (.aload_n 0, 1) := by decide +kernel
theorem dX8_count_14 : decode cX8_count 14 = .ok (.invokevirtual 100, 3) := by decide +kernel
theorem dX8_count_17 : decode cX8_count 17 = .ok (.aload_n 0, 1) := by decide +kernel
theorem dX8_count_18 : decode cX8_count 18 = .ok (.iload_n 1, 1) := by decide +kernel
theorem dX8_count_19 : decode cX8_count 19 = .ok (.invokevirtual 225, 3) := by decide +kernel
theorem dX8_count_22 : decode cX8_count 22 = .ok (.ireturn, 1) := by decide +kernel
theorem dX8_digest_0 : decode cX8_digest 0 = .ok (.aload_n 0, 1) := by decide +kernel
theorem dX8_digest_1 : decode cX8_digest 1 = .ok (.invokevirtual 100, 3) := by decide +kernel
theorem dX8_digest_4 : decode cX8_digest 4 = .ok (.ldc2_w 228, 3) := by decide +kernel
theorem dX8_digest_7 : decode cX8_digest 7 = .ok (.lstore_n 1, 1) := by decide +kernel
theorem dX8_digest_8 : decode cX8_digest 8 = .ok (.iconst 0, 1) := by decide +kernel
theorem dX8_digest_9 : decode cX8_digest 9 = .ok (.istore_n 3, 1) := by decide +kernel
theorem dX8_digest_10 : decode cX8_digest 10 = .ok (.iload_n 3, 1) := by decide +kernel
theorem dX8_digest_11 : decode cX8_digest 11 = .ok (.aload_n 0, 1) := by decide +kernel
theorem dX8_digest_12 : decode cX8_digest 12 = .ok (.getfield 23, 3) := by decide +kernel
theorem dX8_digest_15 : decode cX8_digest 15 = .ok (.getfield 93, 3) := by decide +kernel
theorem dX8_digest_18 : decode cX8_digest 18 = .ok (.if_icmp .ge 16, 3) := by decide +kernel
theorem dX8_digest_21 : decode cX8_digest 21 = .ok (.aload_n 0, 1) := by decide +kernel
theorem dX8_digest_22 : decode cX8_digest 22 = .ok (.lload_n 1, 1) := by decide +kernel
theorem dX8_digest_23 : decode cX8_digest 23 = .ok (.iload_n 3, 1) := by decide +kernel
theorem dX8_digest_24 : decode cX8_digest 24 = .ok (.invokevirtual 230, 3) := by decide +kernel
theorem dX8_digest_27 : decode cX8_digest 27 = .ok (.lstore_n 1, 1) := by decide +kernel
theorem dX8_digest_28 : decode cX8_digest 28 = .ok (.iinc 3 1, 3) := by decide +kernel
theorem dX8_digest_31 : decode cX8_digest 31 = .ok (.goto (-21), 3) := by decide +kernel
theorem dX8_digest_34 : decode cX8_digest 34 = .ok (.iconst 0, 1) := by decide +kernel
theorem dX8_digest_35 : decode cX8_digest 35 = .ok (.istore_n 3, 1) := by decide +kernel
theorem dX8_digest_36 : decode cX8_digest 36 = .ok (.iload_n 3, 1) := by decide +kernel
theorem dX8_digest_37 : decode cX8_digest 37 = .ok (.aload_n 0, 1) := by decide +kernel
theorem dX8_digest_38 : decode cX8_digest 38 = .ok (.getfield 23, 3) := by decide +kernel
theorem dX8_digest_41 : decode cX8_digest 41 = .ok (.getfield 234, 3) := by decide +kernel
theorem dX8_digest_44 : decode cX8_digest 44 = .ok (.if_icmp .ge 16, 3) := by decide +kernel
theorem dX8_digest_47 : decode cX8_digest 47 = .ok (.aload_n 0, 1) := by decide +kernel
theorem dX8_digest_48 : decode cX8_digest 48 = .ok (.lload_n 1, 1) := by decide +kernel
theorem dX8_digest_49 : decode cX8_digest 49 = .ok (.iload_n 3, 1) := by decide +kernel
theorem dX8_digest_50 : decode cX8_digest 50 = .ok (.invokevirtual 237, 3) := by decide +kernel
theorem dX8_digest_53 : decode cX8_digest 53 = .ok (.lstore_n 1, 1) := by decide +kernel
theorem dX8_digest_54 : decode cX8_digest 54 = .ok (.iinc 3 1, 3) := by decide +kernel
theorem dX8_digest_57 : decode cX8_digest 57 = .ok (.goto (-21), 3) := by decide +kernel
theorem dX8_digest_60 : decode cX8_digest 60 = .ok (.iconst 0, 1) := by decide +kernel
theorem dX8_digest_61 : decode cX8_digest 61 = .ok (.istore_n 3, 1) := by decide +kernel
theorem dX8_digest_62 : decode cX8_digest 62 = .ok (.iload_n 3, 1) := by decide +kernel
theorem dX8_digest_63 : decode cX8_digest 63 = .ok (.aload_n 0, 1) := by decide +kernel
theorem dX8_digest_64 : decode cX8_digest 64 = .ok (.getfield 61, 3) := by decide +kernel
theorem dX8_digest_67 : decode cX8_digest 67 = .ok (.if_icmp .ge 20, 3) := by decide +kernel
theorem dX8_digest_70 : decode cX8_digest 70 = .ok (.lload_n 1, 1) := by decide +kernel
theorem dX8_digest_71 : decode cX8_digest 71 = .ok (.aload_n 0, 1) := by decide +kernel
theorem dX8_digest_72 : decode cX8_digest 72 = .ok (.getfield 9, 3) := by decide +kernel
theorem dX8_digest_75 : decode cX8_digest 75 = .ok (.iload_n 3, 1) := by decide +kernel
theorem dX8_digest_76 : decode cX8_digest 76 = .ok (.iaload, 1) := by decide +kernel
theorem dX8_digest_77 : decode cX8_digest 77 = .ok (.invokestatic 240, 3) := by decide +kernel
theorem dX8_digest_80 : decode cX8_digest 80 = .ok (.lstore_n 1, 1) := by decide +kernel
theorem dX8_digest_81 : decode cX8_digest 81 = .ok (.iinc 3 1, 3) := by decide +kernel
theorem dX8_digest_84 : decode cX8_digest 84 = .ok (.goto (-22), 3) := by decide +kernel
theorem dX8_digest_87 : decode cX8_digest 87 = .ok (.iconst 0, 1) := by decide +kernel
theorem dX8_digest_88 : decode cX8_digest 88 = .ok (.istore_n 3, 1) := by decide +kernel
theorem dX8_digest_89 : decode cX8_digest 89 = .ok (.iload_n 3, 1) := by decide +kernel
theorem dX8_digest_90 : decode cX8_digest 90 = .ok (.bipush 10, 2) := by decide +kernel
theorem dX8_digest_92 : decode cX8_digest 92 = .ok (.if_icmp .ge 19, 3) := by decide +kernel
theorem dX8_digest_95 : decode cX8_digest 95 = .ok (.lload_n 1, 1) := by decide +kernel
theorem dX8_digest_96 : decode cX8_digest 96 = .ok (.aload_n 0, 1) := by decide +kernel
theorem dX8_digest_97 : decode cX8_digest 97 = .ok (.iload_n 3, 1) := by decide +kernel
theorem dX8_digest_98 : decode cX8_digest 98 = .ok (.invokevirtual 225, 3) := by decide +kernel
theorem dX8_digest_101 : decode cX8_digest 101 = .ok (.invokestatic 240, 3) := by decide +kernel
theorem dX8_digest_104 : decode cX8_digest 104 = .ok (.lstore_n 1, 1) := by decide +kernel
theorem dX8_digest_105 : decode cX8_digest 105 = .ok (.iinc 3 1, 3) := by decide +kernel
theorem dX8_digest_108 : decode cX8_digest 108 = .ok (.goto (-19), 3) := by decide +kernel
theorem dX8_digest_111 : decode cX8_digest 111 = .ok (.lload_n 1, 1) := by decide +kernel
theorem dX8_digest_112 : decode cX8_digest 112 = .ok (.lreturn, 1) := by decide +kernel
theorem dX8_digestSet_0 : decode cX8_digestSet 0 = .ok (.lload_n 1, 1) := by decide +kernel
theorem dX8_digestSet_1 : decode cX8_digestSet 1 = .ok (.lstore 4, 2) := by decide +kernel
theorem dX8_digestSet_3 : decode cX8_digestSet 3 = .ok (.iconst 0, 1) := by decide +kernel
theorem dX8_digestSet_4 : decode cX8_digestSet 4 = .ok (.istore 6, 2) := by decide +kernel
theorem dX8_digestSet_6 : decode cX8_digestSet 6 = .ok (.iload 6, 2) := by decide +kernel
theorem dX8_digestSet_8 : decode cX8_digestSet 8 = .ok (.bipush 7, 2) := by decide +kernel

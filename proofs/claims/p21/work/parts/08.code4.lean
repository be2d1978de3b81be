theorem dX0_readSounds_0 : decode cX0_readSounds 0 = .ok (.iconst 0, 1) := by decide +kernel
theorem dX0_readSounds_1 : decode cX0_readSounds 1 = .ok (.istore 4, 2) := by decide +kernel
theorem dX0_readSounds_3 : decode cX0_readSounds 3 = .ok (.iconst 0, 1) := by decide +kernel
theorem dX0_readSounds_4 : decode cX0_readSounds 4 = .ok (.istore 5, 2) := by decide +kernel
theorem dX0_readSounds_6 : decode cX0_readSounds 6 = .ok (.iload 5, 2) := by decide +kernel
theorem dX0_readSounds_8 : decode cX0_readSounds 8 = .ok (.iload_n 2, 1) := by decide +kernel
theorem dX0_readSounds_9 : decode cX0_readSounds 9 = .ok (.if_icmp .ge 31, 3) := by decide +kernel
theorem dX0_readSounds_12 : decode cX0_readSounds 12 = .ok (.aload_n 0, 1) := by decide +kernel
theorem dX0_readSounds_13 : decode cX0_readSounds 13 = .ok (.iload_n 1, 1) := by decide +kernel
theorem dX0_readSounds_14 : decode cX0_readSounds 14 = .ok (.iload 5, 2) := by decide +kernel
theorem dX0_readSounds_16 : decode cX0_readSounds 16 = .ok (.iadd, 1) := by decide +kernel
theorem dX0_readSounds_17 : decode cX0_readSounds 17 = .ok (.iaload, 1) := by decide +kernel
theorem dX0_readSounds_18 : decode cX0_readSounds 18 = .ok (.istore 6, 2) := by decide +kernel
theorem dX0_readSounds_20 : decode cX0_readSounds 20 = .ok (.iload 6, 2) := by decide +kernel
theorem dX0_readSounds_22 : decode cX0_readSounds 22 = .ok (.ifCond .eq 12, 3) := by decide +kernel
theorem dX0_readSounds_25 : decode cX0_readSounds 25 = .ok (.aload_n 3, 1) := by decide +kernel
theorem dX0_readSounds_26 : decode cX0_readSounds 26 = .ok (.iload 4, 2) := by decide +kernel
theorem dX0_readSounds_28 : decode cX0_readSounds 28 = .ok (.iload 6, 2) := by decide +kernel
theorem dX0_readSounds_30 : decode cX0_readSounds 30 = .ok (.iastore, 1) := by decide +kernel
theorem dX0_readSounds_31 : decode cX0_readSounds 31 = .ok (.iinc 4 1, 3) := by decide +kernel
theorem dX0_readSounds_34 : decode cX0_readSounds 34 = .ok (.iinc 5 1, 3) := by decide +kernel
theorem dX0_readSounds_37 : decode cX0_readSounds 37 = .ok (.goto (-31), 3) := by decide +kernel
theorem dX0_readSounds_40 : decode cX0_readSounds 40 = .ok (.iload 4, 2) := by decide +kernel
theorem dX0_readSounds_42 : decode cX0_readSounds 42 = .ok (.ireturn, 1) := by decide +kernel
theorem dX4_could_0 : decode cX4_could 0 = .ok (.iload_n 1, 1) := by decide +kernel
theorem dX4_could_1 : decode cX4_could 1 = .ok (.tableswitch 70 0 2 #[27, 41, 55], 27) := by decide +kernel
theorem dX4_could_28 : decode cX4_could 28 = .ok (.getstatic 52, 3) := by decide +kernel
theorem dX4_could_31 : decode cX4_could 31 = .ok (.iload_n 0, 1) := by decide +kernel
theorem dX4_could_32 : decode cX4_could 32 = .ok (.iaload, 1) := by decide +kernel
theorem dX4_could_33 : decode cX4_could 33 = .ok (.ifCond .le 7, 3) := by decide +kernel
theorem dX4_could_36 : decode cX4_could 36 = .ok (.iconst 1, 1) := by decide +kernel
theorem dX4_could_37 : decode cX4_could 37 = .ok (.goto 4, 3) := by decide +kernel
theorem dX4_could_40 : decode cX4_could 40 = .ok (.iconst 0, 1) := by decide +kernel
theorem dX4_could_41 : decode cX4_could 41 = .ok (.ireturn, 1) := by decide +kernel
theorem dX4_could_42 : decode cX4_could 42 = .ok (.getstatic 55, 3) := by decide +kernel
theorem dX4_could_45 : decode cX4_could 45 = .ok (.iload_n 0, 1) := by decide +kernel
theorem dX4_could_46 : decode cX4_could 46 = .ok (.iaload, 1) := by decide +kernel
theorem dX4_could_47 : decode cX4_could 47 = .ok (.ifCond .eq 7, 3) := by decide +kernel
theorem dX4_could_50 : decode cX4_could 50 = .ok (.iconst 1, 1) := by decide +kernel
theorem dX4_could_51 : decode cX4_could 51 = .ok (.goto 4, 3) := by decide +kernel
theorem dX4_could_54 : decode cX4_could 54 = .ok (.iconst 0, 1) := by decide +kernel
theorem dX4_could_55 : decode cX4_could 55 = .ok (.ireturn, 1) := by decide +kernel
theorem dX4_could_56 : decode cX4_could 56 = .ok (.getstatic 52, 3) := by decide +kernel
theorem dX4_could_59 : decode cX4_could 59 = .ok (.iload_n 0, 1) := by decide +kernel
theorem dX4_could_60 : decode cX4_could 60 = .ok (.iaload, 1) := by decide +kernel
theorem dX4_could_61 : decode cX4_could 61 = .ok (.iconst 2, 1) := by decide +kernel
theorem dX4_could_62 : decode cX4_could 62 = .ok (.if_icmp .ne 7, 3) := by decide +kernel
theorem dX4_could_65 : decode cX4_could 65 = .ok (.iconst 1, 1) := by decide +kernel
theorem dX4_could_66 : decode cX4_could 66 = .ok (.goto 4, 3) := by decide +kernel
theorem dX4_could_69 : decode cX4_could 69 = .ok (.iconst 0, 1) := by decide +kernel
theorem dX4_could_70 : decode cX4_could 70 = .ok (.ireturn, 1) := by decide +kernel
theorem dX4_could_71 : decode cX4_could 71 = .ok (.getstatic 55, 3) := by decide +kernel
theorem dX4_could_74 : decode cX4_could 74 = .ok (.iload_n 0, 1) := by decide +kernel
theorem dX4_could_75 : decode cX4_could 75 = .ok (.iaload, 1) := by decide +kernel
theorem dX4_could_76 : decode cX4_could 76 = .ok (.ifCond .eq 15, 3) := by decide +kernel
theorem dX4_could_79 : decode cX4_could 79 = .ok (.getstatic 52, 3) := by decide +kernel
theorem dX4_could_82 : decode cX4_could 82 = .ok (.iload_n 0, 1) := by decide +kernel
theorem dX4_could_83 : decode cX4_could 83 = .ok (.iaload, 1) := by decide +kernel
theorem dX4_could_84 : decode cX4_could 84 = .ok (.ifCond .ne 7, 3) := by decide +kernel
theorem dX4_could_87 : decode cX4_could 87 = .ok (.iconst 1, 1) := by decide +kernel
theorem dX4_could_88 : decode cX4_could 88 = .ok (.goto 4, 3) := by decide +kernel
theorem dX4_could_91 : decode cX4_could 91 = .ok (.iconst 0, 1) := by decide +kernel
theorem dX4_could_92 : decode cX4_could 92 = .ok (.ireturn, 1) := by decide +kernel
theorem dX8_isSound_0 : decode cX8_isSound 0 = .ok (.iload_n 0, 1) := by decide +kernel
theorem dX8_isSound_1 : decode cX8_isSound 1 = .ok (.ifCond .lt 13, 3) := by decide +kernel
theorem dX8_isSound_4 : decode cX8_isSound 4 = .ok (.iload_n 0, 1) := by decide +kernel
theorem dX8_isSound_5 : decode cX8_isSound 5 = .ok (.bipush 9, 2) := by decide +kernel
theorem dX8_isSound_7 : decode cX8_isSound 7 = .ok (.if_icmp .ge 7, 3) := by decide +kernel
theorem dX8_isSound_10 : decode cX8_isSound 10 = .ok (.iconst 1, 1) := by decide +kernel
theorem dX8_isSound_11 : decode cX8_isSound 11 = .ok (.goto 4, 3) := by decide +kernel
theorem dX8_isSound_14 : decode cX8_isSound 14 = .ok (.iconst 0, 1) := by decide +kernel
theorem dX8_isSound_15 : decode cX8_isSound 15 = .ok (.ireturn, 1) := by decide +kernel
theorem dX8_isKind_0 : decode cX8_isKind 0 = .ok (.iload_n 0, 1) := by decide +kernel
theorem dX8_isKind_1 : decode cX8_isKind 1 = .ok (.ifCond .lt 12, 3) := by decide +kernel
theorem dX8_isKind_4 : decode cX8_isKind 4 = .ok (.iload_n 0, 1) := by decide +kernel
theorem dX8_isKind_5 : decode cX8_isKind 5 = .ok (.iconst 5, 1) := by decide +kernel
theorem dX8_isKind_6 : decode cX8_isKind 6 = .ok (.if_icmp .ge 7, 3) := by decide +kernel
theorem dX8_isKind_9 : decode cX8_isKind 9 = .ok (.iconst 1, 1) := by decide +kernel
theorem dX8_isKind_10 : decode cX8_isKind 10 = .ok (.goto 4, 3) := by decide +kernel
theorem dX8_isKind_13 : decode cX8_isKind 13 = .ok (.iconst 0, 1) := by decide +kernel
theorem dX8_isKind_14 : decode cX8_isKind 14 = .ok (.ireturn, 1) := by decide +kernel
theorem dX8_isOfKind_0 : decode cX8_isOfKind 0 = .ok (.iload_n 1, 1) := by decide +kernel
theorem dX8_isOfKind_1 : decode cX8_isOfKind 1 = .ok (.ifCond .eq 18, 3) := by decide +kernel
theorem dX8_isOfKind_4 : decode cX8_isOfKind 4 = .ok (.iload_n 0, 1) := by decide +kernel
theorem dX8_isOfKind_5 : decode cX8_isOfKind 5 = .ok (.iload_n 1, 1) := by decide +kernel
theorem dX8_isOfKind_6 : decode cX8_isOfKind 6 = .ok (.if_icmp .eq 13, 3) := by decide +kernel
theorem dX8_isOfKind_9 : decode cX8_isOfKind 9 = .ok (.iload_n 0, 1) := by decide +kernel
theorem dX8_isOfKind_10 : decode cX8_isOfKind 10 = .ok (.iconst 2, 1) := by decide +kernel
theorem dX8_isOfKind_11 : decode cX8_isOfKind 11 = .ok (.if_icmp .ne 12, 3) := by decide +kernel
theorem dX8_isOfKind_14 : decode cX8_isOfKind 14 = .ok (.iload_n 1, 1) := by decide +kernel
theorem dX8_isOfKind_15 : decode cX8_isOfKind 15 = .ok (.iconst 1, 1) := by decide +kernel
theorem dX8_isOfKind_16 : decode cX8_isOfKind 16 = .ok (.if_icmp .ne 7, 3) := by decide +kernel
theorem dX8_isOfKind_19 : decode cX8_isOfKind 19 = .ok (.iconst 1, 1) := by decide +kernel
theorem dX8_isOfKind_20 : decode cX8_isOfKind 20 = .ok (.goto 4, 3) := by decide +kernel
theorem dX8_isOfKind_23 : decode cX8_isOfKind 23 = .ok (.iconst 0, 1) := by decide +kernel
theorem dX8_isOfKind_24 : decode cX8_isOfKind 24 = .ok (.ireturn, 1) := by decide +kernel
theorem dX8_nodesOf_0 : decode cX8_nodesOf 0 = .ok (.iload_n 0, 1) := by decide +kernel
theorem dX8_nodesOf_1 : decode cX8_nodesOf 1 = .ok (.iconst 2, 1) := by decide +kernel
theorem dX8_nodesOf_2 : decode cX8_nodesOf 2 = .ok (.if_icmp .ge 7, 3) := by decide +kernel
theorem dX8_nodesOf_5 : decode cX8_nodesOf 5 = .ok (.iconst 0, 1) := by decide +kernel
theorem dX8_nodesOf_6 : decode cX8_nodesOf 6 = .ok (.goto 8, 3) := by decide +kernel
theorem dX8_nodesOf_9 : decode cX8_nodesOf 9 = .ok (.iconst 2, 1) := by decide +kernel
theorem dX8_nodesOf_10 : decode cX8_nodesOf 10 = .ok (.iload_n 0, 1) := by decide +kernel
theorem dX8_nodesOf_11 : decode cX8_nodesOf 11 = .ok (.imul, 1) := by decide +kernel
theorem dX8_nodesOf_12 : decode cX8_nodesOf 12 = .ok (.iconst 1, 1) := by decide +kernel
theorem dX8_nodesOf_13 : decode cX8_nodesOf 13 = .ok (.isub, 1) := by decide +kernel
theorem dX8_nodesOf_14 : decode cX8_nodesOf 14 = .ok (.ireturn, 1) := by decide +kernel
theorem dX8_aheadAt_0 : decode cX8_aheadAt 0 = .ok (.iload_n 0, 1) := by decide +kernel
theorem dX8_aheadAt_1 : decode cX8_aheadAt 1 = .ok (.ifCond .ne 7, 3) := by decide +kernel
theorem dX8_aheadAt_4 : decode cX8_aheadAt 4 = .ok (.iconst 1, 1) := by decide +kernel
theorem dX8_aheadAt_5 : decode cX8_aheadAt 5 = .ok (.goto 4, 3) := by decide +kernel
theorem dX8_aheadAt_8 : decode cX8_aheadAt 8 = .ok (.iconst 0, 1) := by decide +kernel
theorem dX8_aheadAt_9 : decode cX8_aheadAt 9 = .ok (.ireturn, 1) := by decide +kernel
theorem dX8_wordAt_0 : decode cX8_wordAt 0 = .ok (.iload_n 0, 1) := by decide +kernel
theorem dX8_wordAt_1 : decode cX8_wordAt 1 = .ok (.iconst 4, 1) := by decide +kernel
theorem dX8_wordAt_2 : decode cX8_wordAt 2 = .ok (.imul, 1) := by decide +kernel
theorem dX8_wordAt_3 : decode cX8_wordAt 3 = .ok (.iload_n 1, 1) := by decide +kernel
theorem dX8_wordAt_4 : decode cX8_wordAt 4 = .ok (.iadd, 1) := by decide +kernel
theorem dX8_wordAt_5 : decode cX8_wordAt 5 = .ok (.iconst 4, 1) := by decide +kernel
theorem dX8_wordAt_6 : decode cX8_wordAt 6 = .ok (.imul, 1) := by decide +kernel
theorem dX8_wordAt_7 : decode cX8_wordAt 7 = .ok (.ireturn, 1) := by decide +kernel
theorem dX8_nodesAt_0 : decode cX8_nodesAt 0 = .ok (.iload_n 0, 1) := by decide +kernel
theorem dX8_nodesAt_1 : decode cX8_nodesAt 1 = .ok (.iconst 4, 1) := by decide +kernel
theorem dX8_nodesAt_2 : decode cX8_nodesAt 2 = .ok (.imul, 1) := by decide +kernel
theorem dX8_nodesAt_3 : decode cX8_nodesAt 3 = .ok (.iload_n 1, 1) := by decide +kernel
theorem dX8_nodesAt_4 : decode cX8_nodesAt 4 = .ok (.iadd, 1) := by decide +kernel
theorem dX8_nodesAt_5 : decode cX8_nodesAt 5 = .ok (.bipush 7, 2) := by decide +kernel
theorem dX8_nodesAt_7 : decode cX8_nodesAt 7 = .ok (.imul, 1) := by decide +kernel
theorem dX8_nodesAt_8 : decode cX8_nodesAt 8 = .ok (.ireturn, 1) := by decide +kernel
theorem dX8_lawAt_0 : decode cX8_lawAt 0 = .ok (.iload_n 0, 1) := by decide +kernel
theorem dX8_lawAt_1 : decode cX8_lawAt 1 = .ok (.bipush 9, 2) := by decide +kernel
theorem dX8_lawAt_3 : decode cX8_lawAt 3 = .ok (.imul, 1) := by decide +kernel
theorem dX8_lawAt_4 : decode cX8_lawAt 4 = .ok (.iload_n 1, 1) := by decide +kernel
theorem dX8_lawAt_5 : decode cX8_lawAt 5 = .ok (.iadd, 1) := by decide +kernel
theorem dX8_lawAt_6 : decode cX8_lawAt 6 = .ok (.iconst 2, 1) := by decide +kernel
theorem dX8_lawAt_7 : decode cX8_lawAt 7 = .ok (.imul, 1) := by decide +kernel
theorem dX8_lawAt_8 : decode cX8_lawAt 8 = .ok (.iload_n 2, 1) := by decide +kernel
theorem dX8_lawAt_9 : decode cX8_lawAt 9 = .ok (.iadd, 1) := by decide +kernel
theorem dX8_lawAt_10 : decode cX8_lawAt 10 = .ok (.ireturn, 1) := by decide +kernel
theorem dX9_in_0 : decode cX9_in 0 = .ok (.lload_n 0, 1) := by decide +kernel
theorem dX9_in_1 : decode cX9_in 1 = .ok (.lload_n 2, 1) := by decide +kernel
theorem dX9_in_2 : decode cX9_in 2 = .ok (.lcmp, 1) := by decide +kernel
theorem dX9_in_3 : decode cX9_in 3 = .ok (.ifCond .lt 14, 3) := by decide +kernel
theorem dX9_in_6 : decode cX9_in 6 = .ok (.lload_n 0, 1) := by decide +kernel
theorem dX9_in_7 : decode cX9_in 7 = .ok (.lload 4, 2) := by decide +kernel
theorem dX9_in_9 : decode cX9_in 9 = .ok (.lcmp, 1) := by decide +kernel
theorem dX9_in_10 : decode cX9_in 10 = .ok (.ifCond .gt 7, 3) := by decide +kernel
theorem dX9_in_13 : decode cX9_in 13 = .ok (.iconst 1, 1) := by decide +kernel
theorem dX9_in_14 : decode cX9_in 14 = .ok (.goto 4, 3) := by decide +kernel
theorem dX9_in_17 : decode cX9_in 17 = .ok (.iconst 0, 1) := by decide +kernel
theorem dX9_in_18 : decode cX9_in 18 = .ok (.ireturn, 1) := by decide +kernel
theorem dX9_copyRow_0 : decode cX9_copyRow 0 = .ok (.iconst 0, 1) := by decide +kernel
theorem dX9_copyRow_1 : decode cX9_copyRow 1 = .ok (.istore_n 2, 1) := by decide +kernel
theorem dX9_copyRow_2 : decode cX9_copyRow 2 = .ok (.iload_n 2, 1) := by decide +kernel
theorem dX9_copyRow_3 : decode cX9_copyRow 3 = .ok (.aload_n 0, 1) := by decide +kernel
theorem dX9_copyRow_4 : decode cX9_copyRow 4 = .ok (.arraylength, 1) := by decide +kernel
theorem dX9_copyRow_5 : decode cX9_copyRow 5 = .ok (.if_icmp .ge 15, 3) := by decide +kernel
theorem dX9_copyRow_8 : decode cX9_copyRow 8 = .ok (.aload_n 1, 1) := by decide +kernel
theorem dX9_copyRow_9 : decode cX9_copyRow 9 = .ok (.iload_n 2, 1) := by decide +kernel
theorem dX9_copyRow_10 : decode cX9_copyRow 10 = .ok (.aload_n 0, 1) := by decide +kernel
theorem dX9_copyRow_11 : decode cX9_copyRow 11 = .ok (.iload_n 2, 1) := by decide +kernel
theorem dX9_copyRow_12 : decode cX9_copyRow 12 = .ok (.iaload, 1) := by decide +kernel
theorem dX9_copyRow_13 : decode cX9_copyRow 13 = .ok (.iastore, 1) := by decide +kernel
theorem dX9_copyRow_14 : decode cX9_copyRow 14 = .ok (.iinc 2 1, 3) := by decide +kernel
theorem dX9_copyRow_17 : decode cX9_copyRow 17 = .ok (.goto (-15), 3) := by decide +kernel
theorem dX9_copyRow_20 : decode cX9_copyRow 20 = .ok (.return_, 1) := by decide +kernel
theorem dX9_kindBy_0 : decode cX9_kindBy 0 = .ok (.iload_n 0, 1) := by decide +kernel
theorem dX9_kindBy_1 : decode cX9_kindBy 1 = .ok (.lookupswitch 61 #[(99, 55), (100, 59), (108, 57), (110, 53), (119, 51)], 51) := by decide +kernel
theorem dX9_kindBy_52 : decode cX9_kindBy 52 = .ok (.iconst 0, 1) := by decide +kernel
theorem dX9_kindBy_53 : decode cX9_kindBy 53 = .ok (.ireturn, 1) := by decide +kernel
theorem dX9_kindBy_54 : decode cX9_kindBy 54 = .ok (.iconst 1, 1) := by decide +kernel
theorem dX9_kindBy_55 : decode cX9_kindBy 55 = .ok (.ireturn, 1) := by decide +kernel
theorem dX9_kindBy_56 : decode cX9_kindBy 56 = .ok (.iconst 2, 1) := by decide +kernel
theorem dX9_kindBy_57 : decode cX9_kindBy 57 = .ok (.ireturn, 1) := by decide +kernel
theorem dX9_kindBy_58 : decode cX9_kindBy 58 = .ok (.iconst 3, 1) := by decide +kernel
theorem dX9_kindBy_59 : decode cX9_kindBy 59 = .ok (.ireturn, 1) := by decide +kernel
theorem dX9_kindBy_60 : decode cX9_kindBy 60 = .ok (.iconst 4, 1) := by decide +kernel
theorem dX9_kindBy_61 : decode cX9_kindBy 61 = .ok (.ireturn, 1) := by decide +kernel
theorem dX9_kindBy_62 : decode cX9_kindBy 62 = .ok (.iconst (-1), 1) := by decide +kernel
theorem dX9_kindBy_63 : decode cX9_kindBy 63 = .ok (.ireturn, 1) := by decide +kernel
theorem dX9_soundBy_0 : decode cX9_soundBy 0 = .ok (.iload_n 0, 1) := by decide +kernel
theorem dX9_soundBy_1 : decode cX9_soundBy 1 = .ok (.lookupswitch 104 #[(46, 83), (97, 85), (101, 87), (102, 101), (107, 95), (111, 89), (112, 91), (115, 98), (116, 93)], 83) := by decide +kernel
theorem dX9_soundBy_84 : decode cX9_soundBy 84 = .ok (.iconst 0, 1) := by decide +kernel
theorem dX9_soundBy_85 : decode cX9_soundBy 85 = .ok (.ireturn, 1) := by decide +kernel
theorem dX9_soundBy_86 : decode cX9_soundBy 86 = .ok (.iconst 1, 1) := by decide +kernel
theorem dX9_soundBy_87 : decode cX9_soundBy 87 = .ok (.ireturn, 1) := by decide +kernel
theorem dX9_soundBy_88 : decode cX9_soundBy 88 = .ok (.iconst 2, 1) := by decide +kernel
theorem dX9_soundBy_89 : decode cX9_soundBy 89 = .ok (.ireturn, 1) := by decide +kernel
theorem dX9_soundBy_90 : decode cX9_soundBy 90 = .ok (.iconst 3, 1) := by decide +kernel
theorem dX9_soundBy_91 : decode cX9_soundBy 91 = .ok (.ireturn, 1) := by decide +kernel
theorem dX9_soundBy_92 : decode cX9_soundBy 92 = .ok (.iconst 4, 1) := by decide +kernel
theorem dX9_soundBy_93 : decode cX9_soundBy 93 = .ok (.ireturn, 1) := by decide +kernel
theorem dX9_soundBy_94 : decode cX9_soundBy 94 = .ok (.iconst 5, 1) := by decide +kernel
theorem dX9_soundBy_95 : decode cX9_soundBy 95 = .ok (.ireturn, 1) := by decide +kernel
theorem dX9_soundBy_96 : decode cX9_soundBy 96 = .ok (.bipush 6, 2) := by decide +kernel
theorem dX9_soundBy_98 : decode cX9_soundBy 98 = .ok (.ireturn, 1) := by decide +kernel
theorem dX9_soundBy_99 : decode cX9_soundBy 99 = .ok (.bipush 7, 2) := by decide +kernel
theorem dX9_soundBy_101 : decode cX9_soundBy 101 = .ok (.ireturn, 1) := by decide +kernel
theorem dX9_soundBy_102 : decode cX9_soundBy 102 = .ok (.bipush 8, 2) := by decide +kernel
theorem dX9_soundBy_104 : decode cX9_soundBy 104 = .ok (.ireturn, 1) := by decide +kernel
theorem dX9_soundBy_105 : decode cX9_soundBy 105 = .ok (.iconst (-1), 1) := by decide +kernel
theorem dX9_soundBy_106 : decode cX9_soundBy 106 = .ok (.ireturn, 1) := by decide +kernel
theorem dX9_nodesBy_0 : decode cX9_nodesBy 0 = .ok (.iconst 2, 1) := by decide +kernel
theorem dX9_nodesBy_1 : decode cX9_nodesBy 1 = .ok (.iload_n 1, 1) := by decide +kernel
theorem dX9_nodesBy_2 : decode cX9_nodesBy 2 = .ok (.imul, 1) := by decide +kernel
theorem dX9_nodesBy_3 : decode cX9_nodesBy 3 = .ok (.iconst 1, 1) := by decide +kernel
theorem dX9_nodesBy_4 : decode cX9_nodesBy 4 = .ok (.isub, 1) := by decide +kernel
theorem dX9_nodesBy_5 : decode cX9_nodesBy 5 = .ok (.ireturn, 1) := by decide +kernel
theorem dX9_belowFirst_0 : decode cX9_belowFirst 0 = .ok (.iload_n 1, 1) := by decide +kernel
theorem dX9_belowFirst_1 : decode cX9_belowFirst 1 = .ok (.iload_n 0, 1) := by decide +kernel
theorem dX9_belowFirst_2 : decode cX9_belowFirst 2 = .ok (.if_icmp .ne 7, 3) := by decide +kernel
theorem dX9_belowFirst_5 : decode cX9_belowFirst 5 = .ok (.iconst 0, 1) := by decide +kernel
theorem dX9_belowFirst_6 : decode cX9_belowFirst 6 = .ok (.goto 22, 3) := by decide +kernel
theorem dX9_belowFirst_9 : decode cX9_belowFirst 9 = .ok (.iload_n 0, 1) := by decide +kernel
theorem dX9_belowFirst_10 : decode cX9_belowFirst 10 = .ok (.iconst 3, 1) := by decide +kernel
theorem dX9_belowFirst_11 : decode cX9_belowFirst 11 = .ok (.if_icmp .ne 7, 3) := by decide +kernel
theorem dX9_belowFirst_14 : decode cX9_belowFirst 14 = .ok (.iconst 3, 1) := by decide +kernel
theorem dX9_belowFirst_15 : decode cX9_belowFirst 15 = .ok (.goto 13, 3) := by decide +kernel
theorem dX9_belowFirst_18 : decode cX9_belowFirst 18 = .ok (.iload_n 1, 1) := by decide +kernel
theorem dX9_belowFirst_19 : decode cX9_belowFirst 19 = .ok (.iconst 5, 1) := by decide +kernel
theorem dX9_belowFirst_20 : decode cX9_belowFirst 20 = .ok (.if_icmp .ne 7, 3) := by decide +kernel
theorem dX9_belowFirst_23 : decode cX9_belowFirst 23 = .ok (.iconst 2, 1) := by decide +kernel
theorem dX9_belowFirst_24 : decode cX9_belowFirst 24 = .ok (.goto 4, 3) := by decide +kernel
theorem dX9_belowFirst_27 : decode cX9_belowFirst 27 = .ok (.iconst 4, 1) := by decide +kernel
theorem dX9_belowFirst_28 : decode cX9_belowFirst 28 = .ok (.ireturn, 1) := by decide +kernel
theorem dX9_belowSecond_0 : decode cX9_belowSecond 0 = .ok (.iload_n 1, 1) := by decide +kernel
theorem dX9_belowSecond_1 : decode cX9_belowSecond 1 = .ok (.iload_n 0, 1) := by decide +kernel
theorem dX9_belowSecond_2 : decode cX9_belowSecond 2 = .ok (.if_icmp .ne 7, 3) := by decide +kernel
theorem dX9_belowSecond_5 : decode cX9_belowSecond 5 = .ok (.iconst 1, 1) := by decide +kernel
theorem dX9_belowSecond_6 : decode cX9_belowSecond 6 = .ok (.goto 22, 3) := by decide +kernel
theorem dX9_belowSecond_9 : decode cX9_belowSecond 9 = .ok (.iload_n 0, 1) := by decide +kernel
theorem dX9_belowSecond_10 : decode cX9_belowSecond 10 = .ok (.iconst 3, 1) := by decide +kernel
theorem dX9_belowSecond_11 : decode cX9_belowSecond 11 = .ok (.if_icmp .ne 7, 3) := by decide +kernel
theorem dX9_belowSecond_14 : decode cX9_belowSecond 14 = .ok (.iconst 2, 1) := by decide +kernel
theorem dX9_belowSecond_15 : decode cX9_belowSecond 15 = .ok (.goto 13, 3) := by decide +kernel
theorem dX9_belowSecond_18 : decode cX9_belowSecond 18 = .ok (.iload_n 1, 1) := by decide +kernel
theorem dX9_belowSecond_19 : decode cX9_belowSecond 19 = .ok (.iconst 5, 1) := by decide +kernel
theorem dX9_belowSecond_20 : decode cX9_belowSecond 20 = .ok (.if_icmp .ne 7, 3) := by decide +kernel
theorem dX9_belowSecond_23 : decode cX9_belowSecond 23 = .ok (.iconst 3, 1) := by decide +kernel
theorem dX9_belowSecond_24 : decode cX9_belowSecond 24 = .ok (.goto 4, 3) := by decide +kernel
theorem dX9_belowSecond_27 : decode cX9_belowSecond 27 = .ok (.iconst 5, 1) := by decide +kernel
theorem dX9_belowSecond_28 : decode cX9_belowSecond 28 = .ok (.ireturn, 1) := by decide +kernel
theorem dX9_weightBy_0 : decode cX9_weightBy 0 = .ok (.iload_n 0, 1) := by decide +kernel
theorem dX9_weightBy_1 : decode cX9_weightBy 1 = .ok (.ifCond .ne 7, 3) := by decide +kernel
theorem dX9_weightBy_4 : decode cX9_weightBy 4 = .ok (.iconst 1, 1) := by decide +kernel
theorem dX9_weightBy_5 : decode cX9_weightBy 5 = .ok (.goto 13, 3) := by decide +kernel
theorem dX9_weightBy_8 : decode cX9_weightBy 8 = .ok (.iload_n 0, 1) := by decide +kernel
theorem dX9_weightBy_9 : decode cX9_weightBy 9 = .ok (.iconst 4, 1) := by decide +kernel
theorem dX9_weightBy_10 : decode cX9_weightBy 10 = .ok (.if_icmp .ne 7, 3) := by decide +kernel
theorem dX9_weightBy_13 : decode cX9_weightBy 13 = .ok (.iconst 2, 1) := by decide +kernel
theorem dX9_weightBy_14 : decode cX9_weightBy 14 = .ok (.goto 4, 3) := by decide +kernel
theorem dX9_weightBy_17 : decode cX9_weightBy 17 = .ok (.iconst 0, 1) := by decide +kernel
theorem dX9_weightBy_18 : decode cX9_weightBy 18 = .ok (.ireturn, 1) := by decide +kernel
theorem dX9_sortsBy_0 : decode cX9_sortsBy 0 = .ok (.iload_n 0, 1) := by decide +kernel
theorem dX9_sortsBy_1 : decode cX9_sortsBy 1 = .ok (.tableswitch 36 0 2 #[27, 30, 33], 27) := by decide +kernel
theorem dX9_sortsBy_28 : decode cX9_sortsBy 28 = .ok (.bipush 17, 2) := by decide +kernel
theorem dX9_sortsBy_30 : decode cX9_sortsBy 30 = .ok (.ireturn, 1) := by decide +kernel
theorem dX9_sortsBy_31 : decode cX9_sortsBy 31 = .ok (.bipush 19, 2) := by decide +kernel
theorem dX9_sortsBy_33 : decode cX9_sortsBy 33 = .ok (.ireturn, 1) := by decide +kernel
theorem dX9_sortsBy_34 : decode cX9_sortsBy 34 = .ok (.bipush 16, 2) := by decide +kernel
theorem dX9_sortsBy_36 : decode cX9_sortsBy 36 = .ok (.ireturn, 1) := by decide +kernel
theorem dX9_sortsBy_37 : decode cX9_sortsBy 37 = .ok (.iconst 2, 1) := by decide +kernel
theorem dX9_sortsBy_38 : decode cX9_sortsBy 38 = .ok (.ireturn, 1) := by decide +kernel
theorem dX9_ones_0 : decode cX9_ones 0 = .ok (.iconst 0, 1) := by decide +kernel
theorem dX9_ones_1 : decode cX9_ones 1 = .ok (.istore_n 1, 1) := by decide +kernel
theorem dX9_ones_2 : decode cX9_ones 2 = .ok (.iconst 0, 1) := by decide +kernel
theorem dX9_ones_3 : decode cX9_ones 3 = .ok (.istore_n 2, 1) := by decide +kernel
theorem dX9_ones_4 : decode cX9_ones 4 = .ok (.iload_n 2, 1) := by decide +kernel
theorem dX9_ones_5 : decode cX9_ones 5 = .ok (.iconst 5, 1) := by decide +kernel
theorem dX9_ones_6 : decode cX9_ones 6 = .ok (.if_icmp .ge 17, 3) := by decide +kernel
theorem dX9_ones_9 : decode cX9_ones 9 = .ok (.iload_n 1, 1) := by decide +kernel
theorem dX9_ones_10 : decode cX9_ones 10 = .ok (.iload_n 0, 1) := by decide +kernel
theorem dX9_ones_11 : decode cX9_ones 11 = .ok (.iload_n 2, 1) := by decide +kernel
theorem dX9_ones_12 : decode cX9_ones 12 = .ok (.ishr, 1) := by decide +kernel
theorem dX9_ones_13 : decode cX9_ones 13 = .ok (.iconst 1, 1) := by decide +kernel
theorem dX9_ones_14 : decode cX9_ones 14 = .ok (.iand, 1) := by decide +kernel
theorem dX9_ones_15 : decode cX9_ones 15 = .ok (.iadd, 1) := by decide +kernel
theorem dX9_ones_16 : decode cX9_ones 16 = .ok (.istore_n 1, 1) := by decide +kernel
theorem dX9_ones_17 : decode cX9_ones 17 = .ok (.iinc 2 1, 3) := by decide +kernel
theorem dX9_ones_20 : decode cX9_ones 20 = .ok (.goto (-16), 3) := by decide +kernel
theorem dX9_ones_23 : decode cX9_ones 23 = .ok (.iload_n 1, 1) := by decide +kernel
theorem dX9_ones_24 : decode cX9_ones 24 = .ok (.ireturn, 1) := by decide +kernel
theorem dJ1_canEncode_9a6ad_0 : decode cJ1_canEncode_9a6ad 0 = .ok (.iload_n 0, 1) := by decide +kernel
theorem dJ1_canEncode_9a6ad_1 : decode cJ1_canEncode_9a6ad 1 = .ok (.ifCond .lt 14, 3) := by decide +kernel
theorem dJ1_canEncode_9a6ad_4 : decode cJ1_canEncode_9a6ad 4 = .ok (.iload_n 0, 1) := by decide +kernel
theorem dJ1_canEncode_9a6ad_5 : decode cJ1_canEncode_9a6ad 5 = .ok (.sipush 255, 3) := by decide +kernel
theorem dJ1_canEncode_9a6ad_8 : decode cJ1_canEncode_9a6ad 8 = .ok (.if_icmp .gt 7, 3) := by decide +kernel
theorem dJ1_canEncode_9a6ad_11 : decode cJ1_canEncode_9a6ad 11 = .ok (.iconst 1, 1) := by decide +kernel
theorem dJ1_canEncode_9a6ad_12 : decode cJ1_canEncode_9a6ad 12 = .ok (.goto 4, 3) := by decide +kernel
theorem dJ1_canEncode_9a6ad_15 : decode cJ1_canEncode_9a6ad 15 = .ok (.iconst 0, 1) := by decide +kernel
theorem dJ1_canEncode_9a6ad_16 : decode cJ1_canEncode_9a6ad 16 = .ok (.ireturn, 1) := by decide +kernel
theorem dJ1_indexOfChar_4cfef_0 : decode cJ1_indexOfChar_4cfef 0 = .ok (.iload_n 1, 1) := by decide +kernel
theorem dJ1_indexOfChar_4cfef_1 : decode cJ1_indexOfChar_4cfef 1 = .ok (.i2b, 1) := by decide +kernel
theorem dJ1_indexOfChar_4cfef_2 : decode cJ1_indexOfChar_4cfef 2 = .ok (.istore 4, 2) := by decide +kernel
theorem dJ1_indexOfChar_4cfef_4 : decode cJ1_indexOfChar_4cfef 4 = .ok (.iload_n 2, 1) := by decide +kernel
theorem dJ1_indexOfChar_4cfef_5 : decode cJ1_indexOfChar_4cfef 5 = .ok (.istore 5, 2) := by decide +kernel
theorem dJ1_indexOfChar_4cfef_7 : decode cJ1_indexOfChar_4cfef 7 = .ok (.iload 5, 2) := by decide +kernel
theorem dJ1_indexOfChar_4cfef_9 : decode cJ1_indexOfChar_4cfef 9 = .ok (.iload_n 3, 1) := by decide +kernel
theorem dJ1_indexOfChar_4cfef_10 : decode cJ1_indexOfChar_4cfef 10 = .ok (.if_icmp .ge 21, 3) := by decide +kernel
theorem dJ1_indexOfChar_4cfef_13 : decode cJ1_indexOfChar_4cfef 13 = .ok (.aload_n 0, 1) := by decide +kernel
theorem dJ1_indexOfChar_4cfef_14 : decode cJ1_indexOfChar_4cfef 14 = .ok (.iload 5, 2) := by decide +kernel
theorem dJ1_indexOfChar_4cfef_16 : decode cJ1_indexOfChar_4cfef 16 = .ok (.baload, 1) := by decide +kernel
theorem dJ1_indexOfChar_4cfef_17 : decode cJ1_indexOfChar_4cfef 17 = .ok (.iload 4, 2) := by decide +kernel
theorem dJ1_indexOfChar_4cfef_19 : decode cJ1_indexOfChar_4cfef 19 = .ok (.if_icmp .ne 6, 3) := by decide +kernel
theorem dJ1_indexOfChar_4cfef_22 : decode cJ1_indexOfChar_4cfef 22 = .ok (.iload 5, 2) := by decide +kernel
theorem dJ1_indexOfChar_4cfef_24 : decode cJ1_indexOfChar_4cfef 24 = .ok (.ireturn, 1) := by decide +kernel
theorem dJ1_indexOfChar_4cfef_25 : decode cJ1_indexOfChar_4cfef 25 = .ok (.iinc 5 1, 3) := by decide +kernel
theorem dJ1_indexOfChar_4cfef_28 : decode cJ1_indexOfChar_4cfef 28 = .ok (.goto (-21), 3) := by decide +kernel
theorem dJ1_indexOfChar_4cfef_31 : decode cJ1_indexOfChar_4cfef 31 = .ok (.iconst (-1), 1) := by decide +kernel
theorem dJ1_indexOfChar_4cfef_32 : decode cJ1_indexOfChar_4cfef 32 = .ok (.ireturn, 1) := by decide +kernel
theorem dJ7_fill_53178_0 : decode cJ7_fill_53178 0 = .ok (.iconst 0, 1) := by decide +kernel
theorem dJ7_fill_53178_1 : decode cJ7_fill_53178 1 = .ok (.istore_n 2, 1) := by decide +kernel
theorem dJ7_fill_53178_2 : decode cJ7_fill_53178 2 = .ok (.aload_n 0, 1) := by decide +kernel
theorem dJ7_fill_53178_3 : decode cJ7_fill_53178 3 = .ok (.arraylength, 1) := by decide +kernel
theorem dJ7_fill_53178_4 : decode cJ7_fill_53178 4 = .ok (.istore_n 3, 1) := by decide +kernel
theorem dJ7_fill_53178_5 : decode cJ7_fill_53178 5 = .ok (.iload_n 2, 1) := by decide +kernel
theorem dJ7_fill_53178_6 : decode cJ7_fill_53178 6 = .ok (.iload_n 3, 1) := by decide +kernel
theorem dJ7_fill_53178_7 : decode cJ7_fill_53178 7 = .ok (.if_icmp .ge 13, 3) := by decide +kernel
theorem dJ7_fill_53178_10 : decode cJ7_fill_53178 10 = .ok (.aload_n 0, 1) := by decide +kernel
theorem dJ7_fill_53178_11 : decode cJ7_fill_53178 11 = .ok (.iload_n 2, 1) := by decide +kernel
theorem dJ7_fill_53178_12 : decode cJ7_fill_53178 12 = .ok (.iload_n 1, 1) := by decide +kernel
theorem dJ7_fill_53178_13 : decode cJ7_fill_53178 13 = .ok (.iastore, 1) := by decide +kernel
theorem dJ7_fill_53178_14 : decode cJ7_fill_53178 14 = .ok (.iinc 2 1, 3) := by decide +kernel
theorem dJ7_fill_53178_17 : decode cJ7_fill_53178 17 = .ok (.goto (-12), 3) := by decide +kernel
theorem dJ7_fill_53178_20 : decode cJ7_fill_53178 20 = .ok (.return_, 1) := by decide +kernel

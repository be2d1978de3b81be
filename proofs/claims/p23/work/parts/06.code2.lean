theorem dX8_digestSet_10 : decode cX8_digestSet 10 = .ok (.if_icmp .ge 23, 3) := by decide +kernel
theorem dX8_digestSet_13 : decode cX8_digestSet 13 = .ok (.lload 4, 2) := by decide +kernel
theorem dX8_digestSet_15 : decode cX8_digestSet 15 = .ok (.aload_n 0, 1) := by decide +kernel
theorem dX8_digestSet_16 : decode cX8_digestSet 16 = .ok (.iload_n 3, 1) := by decide +kernel
theorem dX8_digestSet_17 : decode cX8_digestSet 17 = .ok (.iload 6, 2) := by decide +kernel
theorem dX8_digestSet_19 : decode cX8_digestSet 19 = .ok (.invokevirtual 103, 3) := by decide +kernel
theorem dX8_digestSet_22 : decode cX8_digestSet 22 = .ok (.invokestatic 240, 3) := by decide +kernel
theorem dX8_digestSet_25 : decode cX8_digestSet 25 = .ok (.lstore 4, 2) := by decide +kernel
theorem dX8_digestSet_27 : decode cX8_digestSet 27 = .ok (.iinc 6 1, 3) := by decide +kernel
theorem dX8_digestSet_30 : decode cX8_digestSet 30 = .ok (.goto (-24), 3) := by decide +kernel
theorem dX8_digestSet_33 : decode cX8_digestSet 33 = .ok (.aload_n 0, 1) := by decide +kernel
theorem dX8_digestSet_34 : decode cX8_digestSet 34 = .ok (.getfield 23, 3) := by decide +kernel
theorem dX8_digestSet_37 : decode cX8_digestSet 37 = .ok (.getfield 234, 3) := by decide +kernel
theorem dX8_digestSet_40 : decode cX8_digestSet 40 = .ok (.invokestatic 243, 3) := by decide +kernel
theorem dX8_digestSet_43 : decode cX8_digestSet 43 = .ok (.istore 6, 2) := by decide +kernel
theorem dX8_digestSet_45 : decode cX8_digestSet 45 = .ok (.iconst 0, 1) := by decide +kernel
theorem dX8_digestSet_46 : decode cX8_digestSet 46 = .ok (.istore 7, 2) := by decide +kernel
theorem dX8_digestSet_48 : decode cX8_digestSet 48 = .ok (.iload 7, 2) := by decide +kernel
theorem dX8_digestSet_50 : decode cX8_digestSet 50 = .ok (.aload_n 0, 1) := by decide +kernel
theorem dX8_digestSet_51 : decode cX8_digestSet 51 = .ok (.getfield 23, 3) := by decide +kernel
theorem dX8_digestSet_54 : decode cX8_digestSet 54 = .ok (.getfield 168, 3) := by decide +kernel
theorem dX8_digestSet_57 : decode cX8_digestSet 57 = .ok (.iload_n 3, 1) := by decide +kernel
theorem dX8_digestSet_58 : decode cX8_digestSet 58 = .ok (.iaload, 1) := by decide +kernel
theorem dX8_digestSet_59 : decode cX8_digestSet 59 = .ok (.if_icmp .ge 41, 3) := by decide +kernel
theorem dX8_digestSet_62 : decode cX8_digestSet 62 = .ok (.iconst 0, 1) := by decide +kernel
theorem dX8_digestSet_63 : decode cX8_digestSet 63 = .ok (.istore 8, 2) := by decide +kernel
theorem dX8_digestSet_65 : decode cX8_digestSet 65 = .ok (.iload 8, 2) := by decide +kernel
theorem dX8_digestSet_67 : decode cX8_digestSet 67 = .ok (.iload 6, 2) := by decide +kernel
theorem dX8_digestSet_69 : decode cX8_digestSet 69 = .ok (.if_icmp .ge 25, 3) := by decide +kernel
theorem dX8_digestSet_72 : decode cX8_digestSet 72 = .ok (.lload 4, 2) := by decide +kernel
theorem dX8_digestSet_74 : decode cX8_digestSet 74 = .ok (.aload_n 0, 1) := by decide +kernel
theorem dX8_digestSet_75 : decode cX8_digestSet 75 = .ok (.iload_n 3, 1) := by decide +kernel
theorem dX8_digestSet_76 : decode cX8_digestSet 76 = .ok (.iload 8, 2) := by decide +kernel
theorem dX8_digestSet_78 : decode cX8_digestSet 78 = .ok (.iload 7, 2) := by decide +kernel
theorem dX8_digestSet_80 : decode cX8_digestSet 80 = .ok (.invokevirtual 123, 3) := by decide +kernel
theorem dX8_digestSet_83 : decode cX8_digestSet 83 = .ok (.invokestatic 240, 3) := by decide +kernel
theorem dX8_digestSet_86 : decode cX8_digestSet 86 = .ok (.lstore 4, 2) := by decide +kernel
theorem dX8_digestSet_88 : decode cX8_digestSet 88 = .ok (.iinc 8 1, 3) := by decide +kernel
theorem dX8_digestSet_91 : decode cX8_digestSet 91 = .ok (.goto (-26), 3) := by decide +kernel
theorem dX8_digestSet_94 : decode cX8_digestSet 94 = .ok (.iinc 7 1, 3) := by decide +kernel
theorem dX8_digestSet_97 : decode cX8_digestSet 97 = .ok (.goto (-49), 3) := by decide +kernel
theorem dX8_digestSet_100 : decode cX8_digestSet 100 = .ok (.lload 4, 2) := by decide +kernel
theorem dX8_digestSet_102 : decode cX8_digestSet 102 = .ok (.lreturn, 1) := by decide +kernel
theorem dX8_digestLaws_0 : decode cX8_digestLaws 0 = .ok (.lload_n 1, 1) := by decide +kernel
theorem dX8_digestLaws_1 : decode cX8_digestLaws 1 = .ok (.lstore 4, 2) := by decide +kernel
theorem dX8_digestLaws_3 : decode cX8_digestLaws 3 = .ok (.iconst 0, 1) := by decide +kernel
theorem dX8_digestLaws_4 : decode cX8_digestLaws 4 = .ok (.istore 6, 2) := by decide +kernel
theorem dX8_digestLaws_6 : decode cX8_digestLaws 6 = .ok (.iload 6, 2) := by decide +kernel
theorem dX8_digestLaws_8 : decode cX8_digestLaws 8 = .ok (.bipush 9, 2) := by decide +kernel
theorem dX8_digestLaws_10 : decode cX8_digestLaws 10 = .ok (.if_icmp .ge 70, 3) := by decide +kernel
theorem dX8_digestLaws_13 : decode cX8_digestLaws 13 = .ok (.iconst 0, 1) := by decide +kernel
theorem dX8_digestLaws_14 : decode cX8_digestLaws 14 = .ok (.istore 7, 2) := by decide +kernel
theorem dX8_digestLaws_16 : decode cX8_digestLaws 16 = .ok (.iload 7, 2) := by decide +kernel
theorem dX8_digestLaws_18 : decode cX8_digestLaws 18 = .ok (.iconst 1, 1) := by decide +kernel
theorem dX8_digestLaws_19 : decode cX8_digestLaws 19 = .ok (.if_icmp .gt 55, 3) := by decide +kernel
theorem dX8_digestLaws_22 : decode cX8_digestLaws 22 = .ok (.iload_n 3, 1) := by decide +kernel
theorem dX8_digestLaws_23 : decode cX8_digestLaws 23 = .ok (.iload 6, 2) := by decide +kernel
theorem dX8_digestLaws_25 : decode cX8_digestLaws 25 = .ok (.iload 7, 2) := by decide +kernel
theorem dX8_digestLaws_27 : decode cX8_digestLaws 27 = .ok (.invokestatic 137, 3) := by decide +kernel
theorem dX8_digestLaws_30 : decode cX8_digestLaws 30 = .ok (.istore 8, 2) := by decide +kernel
theorem dX8_digestLaws_32 : decode cX8_digestLaws 32 = .ok (.iconst 0, 1) := by decide +kernel
theorem dX8_digestLaws_33 : decode cX8_digestLaws 33 = .ok (.istore 9, 2) := by decide +kernel
theorem dX8_digestLaws_35 : decode cX8_digestLaws 35 = .ok (.iload 9, 2) := by decide +kernel
theorem dX8_digestLaws_37 : decode cX8_digestLaws 37 = .ok (.iconst 3, 1) := by decide +kernel
theorem dX8_digestLaws_38 : decode cX8_digestLaws 38 = .ok (.if_icmp .ge 30, 3) := by decide +kernel
theorem dX8_digestLaws_41 : decode cX8_digestLaws 41 = .ok (.lload 4, 2) := by decide +kernel
theorem dX8_digestLaws_43 : decode cX8_digestLaws 43 = .ok (.aload_n 0, 1) := by decide +kernel
theorem dX8_digestLaws_44 : decode cX8_digestLaws 44 = .ok (.getfield 37, 3) := by decide +kernel
theorem dX8_digestLaws_47 : decode cX8_digestLaws 47 = .ok (.getfield 133, 3) := by decide +kernel
theorem dX8_digestLaws_50 : decode cX8_digestLaws 50 = .ok (.iload 8, 2) := by decide +kernel
theorem dX8_digestLaws_52 : decode cX8_digestLaws 52 = .ok (.iload 9, 2) := by decide +kernel
theorem dX8_digestLaws_54 : decode cX8_digestLaws 54 = .ok (.invokevirtual 140, 3) := by decide +kernel
theorem dX8_digestLaws_57 : decode cX8_digestLaws 57 = .ok (.invokestatic 240, 3) := by decide +kernel
theorem dX8_digestLaws_60 : decode cX8_digestLaws 60 = .ok (.lstore 4, 2) := by decide +kernel
theorem dX8_digestLaws_62 : decode cX8_digestLaws 62 = .ok (.iinc 9 1, 3) := by decide +kernel
theorem dX8_digestLaws_65 : decode cX8_digestLaws 65 = .ok (.goto (-30), 3) := by decide +kernel
theorem dX8_digestLaws_68 : decode cX8_digestLaws 68 = .ok (.iinc 7 1, 3) := by decide +kernel
theorem dX8_digestLaws_71 : decode cX8_digestLaws 71 = .ok (.goto (-55), 3) := by decide +kernel
theorem dX8_digestLaws_74 : decode cX8_digestLaws 74 = .ok (.iinc 6 1, 3) := by decide +kernel
theorem dX8_digestLaws_77 : decode cX8_digestLaws 77 = .ok (.goto (-71), 3) := by decide +kernel
theorem dX8_digestLaws_80 : decode cX8_digestLaws 80 = .ok (.lload 4, 2) := by decide +kernel
theorem dX8_digestLaws_82 : decode cX8_digestLaws 82 = .ok (.lreturn, 1) := by decide +kernel
theorem dX8_mixed_0 : decode cX8_mixed 0 = .ok (.ldc2_w 246, 3) := by decide +kernel
theorem dX8_mixed_3 : decode cX8_mixed 3 = .ok (.lload_n 0, 1) := by decide +kernel
theorem dX8_mixed_4 : decode cX8_mixed 4 = .ok (.lmul, 1) := by decide +kernel
theorem dX8_mixed_5 : decode cX8_mixed 5 = .ok (.iload_n 2, 1) := by decide +kernel
theorem dX8_mixed_6 : decode cX8_mixed 6 = .ok (.i2l, 1) := by decide +kernel
theorem dX8_mixed_7 : decode cX8_mixed 7 = .ok (.ladd, 1) := by decide +kernel
theorem dX8_mixed_8 : decode cX8_mixed 8 = .ok (.lreturn, 1) := by decide +kernel
theorem dX8_readPage_0 : decode cX8_readPage 0 = .ok (.aload_n 0, 1) := by decide +kernel
theorem dX8_readPage_1 : decode cX8_readPage 1 = .ok (.getfield 16, 3) := by decide +kernel
theorem dX8_readPage_4 : decode cX8_readPage 4 = .ok (.invokevirtual 248, 3) := by decide +kernel
theorem dX8_readPage_7 : decode cX8_readPage 7 = .ok (.iconst 0, 1) := by decide +kernel
theorem dX8_readPage_8 : decode cX8_readPage 8 = .ok (.istore_n 1, 1) := by decide +kernel
theorem dX8_readPage_9 : decode cX8_readPage 9 = .ok (.iload_n 1, 1) := by decide +kernel
theorem dX8_readPage_10 : decode cX8_readPage 10 = .ok (.aload_n 0, 1) := by decide +kernel
theorem dX8_readPage_11 : decode cX8_readPage 11 = .ok (.getfield 61, 3) := by decide +kernel
theorem dX8_readPage_14 : decode cX8_readPage 14 = .ok (.if_icmp .ge 25, 3) := by decide +kernel
theorem dX8_readPage_17 : decode cX8_readPage 17 = .ok (.aload_n 0, 1) := by decide +kernel
theorem dX8_readPage_18 : decode cX8_readPage 18 = .ok (.getfield 16, 3) := by decide +kernel
theorem dX8_readPage_21 : decode cX8_readPage 21 = .ok (.aload_n 0, 1) := by decide +kernel
theorem dX8_readPage_22 : decode cX8_readPage 22 = .ok (.getfield 9, 3) := by decide +kernel
theorem dX8_readPage_25 : decode cX8_readPage 25 = .ok (.iload_n 1, 1) := by decide +kernel
theorem dX8_readPage_26 : decode cX8_readPage 26 = .ok (.iaload, 1) := by decide +kernel
theorem dX8_readPage_27 : decode cX8_readPage 27 = .ok (.invokevirtual 251, 3) := by decide +kernel
theorem dX8_readPage_30 : decode cX8_readPage 30 = .ok (.ifCond .eq 9, 3) := by decide +kernel
theorem dX8_readPage_33 : decode cX8_readPage 33 = .ok (.iinc 1 1, 3) := by decide +kernel
theorem dX8_readPage_36 : decode cX8_readPage 36 = .ok (.goto (-27), 3) := by decide +kernel
theorem dX8_readPage_39 : decode cX8_readPage 39 = .ok (.iload_n 1, 1) := by decide +kernel
theorem dX8_readPage_40 : decode cX8_readPage 40 = .ok (.ireturn, 1) := by decide +kernel
theorem dX8_freshenStudy_0 : decode cX8_freshenStudy 0 = .ok (.aload_n 0, 1) := by decide +kernel
theorem dX8_freshenStudy_1 : decode cX8_freshenStudy 1 = .ok (.getfield 87, 3) := by decide +kernel
theorem dX8_freshenStudy_4 : decode cX8_freshenStudy 4 = .ok (.ifCond .ne 14, 3) := by decide +kernel
theorem dX8_freshenStudy_7 : decode cX8_freshenStudy 7 = .ok (.aload_n 0, 1) := by decide +kernel
theorem dX8_freshenStudy_8 : decode cX8_freshenStudy 8 = .ok (.getfield 37, 3) := by decide +kernel
theorem dX8_freshenStudy_11 : decode cX8_freshenStudy 11 = .ok (.aload_n 0, 1) := by decide +kernel
theorem dX8_freshenStudy_12 : decode cX8_freshenStudy 12 = .ok (.getfield 23, 3) := by decide +kernel
theorem dX8_freshenStudy_15 : decode cX8_freshenStudy 15 = .ok (.invokevirtual 254, 3) := by decide +kernel
theorem dX8_freshenStudy_18 : decode cX8_freshenStudy 18 = .ok (.aload_n 0, 1) := by decide +kernel
theorem dX8_freshenStudy_19 : decode cX8_freshenStudy 19 = .ok (.iconst 1, 1) := by decide +kernel
theorem dX8_freshenStudy_20 : decode cX8_freshenStudy 20 = .ok (.putfield 87, 3) := by decide +kernel
theorem dX8_freshenStudy_23 : decode cX8_freshenStudy 23 = .ok (.return_, 1) := by decide +kernel
theorem dX8_tellOfSet_0 : decode cX8_tellOfSet 0 = .ok (.iload_n 2, 1) := by decide +kernel
theorem dX8_tellOfSet_1 : decode cX8_tellOfSet 1 = .ok (.tableswitch 100 0 5 #[39, 49, 59, 69, 78, 91], 39) := by decide +kernel
theorem dX8_tellOfSet_40 : decode cX8_tellOfSet 40 = .ok (.aload_n 0, 1) := by decide +kernel
theorem dX8_tellOfSet_41 : decode cX8_tellOfSet 41 = .ok (.getfield 23, 3) := by decide +kernel
theorem dX8_tellOfSet_44 : decode cX8_tellOfSet 44 = .ok (.getfield 110, 3) := by decide +kernel
theorem dX8_tellOfSet_47 : decode cX8_tellOfSet 47 = .ok (.iload_n 1, 1) := by decide +kernel
theorem dX8_tellOfSet_48 : decode cX8_tellOfSet 48 = .ok (.iaload, 1) := by decide +kernel
theorem dX8_tellOfSet_49 : decode cX8_tellOfSet 49 = .ok (.ireturn, 1) := by decide +kernel
theorem dX8_tellOfSet_50 : decode cX8_tellOfSet 50 = .ok (.aload_n 0, 1) := by decide +kernel
theorem dX8_tellOfSet_51 : decode cX8_tellOfSet 51 = .ok (.getfield 23, 3) := by decide +kernel
theorem dX8_tellOfSet_54 : decode cX8_tellOfSet 54 = .ok (.getfield 168, 3) := by decide +kernel
theorem dX8_tellOfSet_57 : decode cX8_tellOfSet 57 = .ok (.iload_n 1, 1) := by decide +kernel
theorem dX8_tellOfSet_58 : decode cX8_tellOfSet 58 = .ok (.iaload, 1) := by decide +kernel
theorem dX8_tellOfSet_59 : decode cX8_tellOfSet 59 = .ok (.ireturn, 1) := by decide +kernel
theorem dX8_tellOfSet_60 : decode cX8_tellOfSet 60 = .ok (.aload_n 0, 1) := by decide +kernel
theorem dX8_tellOfSet_61 : decode cX8_tellOfSet 61 = .ok (.getfield 37, 3) := by decide +kernel
theorem dX8_tellOfSet_64 : decode cX8_tellOfSet 64 = .ok (.getfield 257, 3) := by decide +kernel
theorem dX8_tellOfSet_67 : decode cX8_tellOfSet 67 = .ok (.iload_n 1, 1) := by decide +kernel
theorem dX8_tellOfSet_68 : decode cX8_tellOfSet 68 = .ok (.iaload, 1) := by decide +kernel
theorem dX8_tellOfSet_69 : decode cX8_tellOfSet 69 = .ok (.ireturn, 1) := by decide +kernel
theorem dX8_tellOfSet_70 : decode cX8_tellOfSet 70 = .ok (.aload_n 0, 1) := by decide +kernel
theorem dX8_tellOfSet_71 : decode cX8_tellOfSet 71 = .ok (.getfield 37, 3) := by decide +kernel
theorem dX8_tellOfSet_74 : decode cX8_tellOfSet 74 = .ok (.iload_n 1, 1) := by decide +kernel
theorem dX8_tellOfSet_75 : decode cX8_tellOfSet 75 = .ok (.invokevirtual 259, 3) := by decide +kernel
theorem dX8_tellOfSet_78 : decode cX8_tellOfSet 78 = .ok (.ireturn, 1) := by decide +kernel
theorem dX8_tellOfSet_79 : decode cX8_tellOfSet 79 = .ok (.aload_n 0, 1) := by decide +kernel
theorem dX8_tellOfSet_80 : decode cX8_tellOfSet 80 = .ok (.getfield 37, 3) := by decide +kernel
theorem dX8_tellOfSet_83 : decode cX8_tellOfSet 83 = .ok (.aload_n 0, 1) := by decide +kernel
theorem dX8_tellOfSet_84 : decode cX8_tellOfSet 84 = .ok (.getfield 23, 3) := by decide +kernel
theorem dX8_tellOfSet_87 : decode cX8_tellOfSet 87 = .ok (.iload_n 1, 1) := by decide +kernel
theorem dX8_tellOfSet_88 : decode cX8_tellOfSet 88 = .ok (.invokevirtual 262, 3) := by decide +kernel
theorem dX8_tellOfSet_91 : decode cX8_tellOfSet 91 = .ok (.ireturn, 1) := by decide +kernel
theorem dX8_tellOfSet_92 : decode cX8_tellOfSet 92 = .ok (.aload_n 0, 1) := by decide +kernel
theorem dX8_tellOfSet_93 : decode cX8_tellOfSet 93 = .ok (.getfield 30, 3) := by decide +kernel
theorem dX8_tellOfSet_96 : decode cX8_tellOfSet 96 = .ok (.iload_n 1, 1) := by decide +kernel
theorem dX8_tellOfSet_97 : decode cX8_tellOfSet 97 = .ok (.invokevirtual 266, 3) := by decide +kernel
theorem dX8_tellOfSet_100 : decode cX8_tellOfSet 100 = .ok (.ireturn, 1) := by decide +kernel
theorem dX8_tellOfSet_101 : decode cX8_tellOfSet 101 = .ok (.aload_n 0, 1) := by decide +kernel
theorem dX8_tellOfSet_102 : decode cX8_tellOfSet 102 = .ok (.getfield 30, 3) := by decide +kernel
theorem dX8_tellOfSet_105 : decode cX8_tellOfSet 105 = .ok (.iload_n 1, 1) := by decide +kernel
theorem dX8_tellOfSet_106 : decode cX8_tellOfSet 106 = .ok (.invokevirtual 269, 3) := by decide +kernel
theorem dX8_tellOfSet_109 : decode cX8_tellOfSet 109 = .ok (.ireturn, 1) := by decide +kernel
theorem dX8_tellOfNode_0 : decode cX8_tellOfNode 0 = .ok (.iload_n 2, 1) := by decide +kernel
theorem dX8_tellOfNode_1 : decode cX8_tellOfNode 1 = .ok (.aload_n 0, 1) := by decide +kernel
theorem dX8_tellOfNode_2 : decode cX8_tellOfNode 2 = .ok (.getfield 23, 3) := by decide +kernel
theorem dX8_tellOfNode_5 : decode cX8_tellOfNode 5 = .ok (.getfield 234, 3) := by decide +kernel
theorem dX8_tellOfNode_8 : decode cX8_tellOfNode 8 = .ok (.if_icmp .ge 19, 3) := by decide +kernel
theorem dX8_tellOfNode_11 : decode cX8_tellOfNode 11 = .ok (.aload_n 0, 1) := by decide +kernel
theorem dX8_tellOfNode_12 : decode cX8_tellOfNode 12 = .ok (.getfield 23, 3) := by decide +kernel
theorem dX8_tellOfNode_15 : decode cX8_tellOfNode 15 = .ok (.getfield 162, 3) := by decide +kernel
theorem dX8_tellOfNode_18 : decode cX8_tellOfNode 18 = .ok (.iload_n 1, 1) := by decide +kernel
theorem dX8_tellOfNode_19 : decode cX8_tellOfNode 19 = .ok (.iload_n 2, 1) := by decide +kernel
theorem dX8_tellOfNode_20 : decode cX8_tellOfNode 20 = .ok (.invokestatic 165, 3) := by decide +kernel
theorem dX8_tellOfNode_23 : decode cX8_tellOfNode 23 = .ok (.iload_n 3, 1) := by decide +kernel
theorem dX8_tellOfNode_24 : decode cX8_tellOfNode 24 = .ok (.iadd, 1) := by decide +kernel
theorem dX8_tellOfNode_25 : decode cX8_tellOfNode 25 = .ok (.iaload, 1) := by decide +kernel
theorem dX8_tellOfNode_26 : decode cX8_tellOfNode 26 = .ok (.ireturn, 1) := by decide +kernel
theorem dX8_tellOfNode_27 : decode cX8_tellOfNode 27 = .ok (.getstatic 145, 3) := by decide +kernel
theorem dX8_tellOfNode_30 : decode cX8_tellOfNode 30 = .ok (.aload_n 0, 1) := by decide +kernel
theorem dX8_tellOfNode_31 : decode cX8_tellOfNode 31 = .ok (.getfield 23, 3) := by decide +kernel
theorem dX8_tellOfNode_34 : decode cX8_tellOfNode 34 = .ok (.getfield 110, 3) := by decide +kernel
theorem dX8_tellOfNode_37 : decode cX8_tellOfNode 37 = .ok (.iload_n 1, 1) := by decide +kernel
theorem dX8_tellOfNode_38 : decode cX8_tellOfNode 38 = .ok (.iaload, 1) := by decide +kernel
theorem dX8_tellOfNode_39 : decode cX8_tellOfNode 39 = .ok (.iaload, 1) := by decide +kernel
theorem dX8_tellOfNode_40 : decode cX8_tellOfNode 40 = .ok (.ifCond .ne 5, 3) := by decide +kernel
theorem dX8_tellOfNode_43 : decode cX8_tellOfNode 43 = .ok (.iconst (-1), 1) := by decide +kernel
theorem dX8_tellOfNode_44 : decode cX8_tellOfNode 44 = .ok (.ireturn, 1) := by decide +kernel
theorem dX8_tellOfNode_45 : decode cX8_tellOfNode 45 = .ok (.aload_n 0, 1) := by decide +kernel
theorem dX8_tellOfNode_46 : decode cX8_tellOfNode 46 = .ok (.getfield 37, 3) := by decide +kernel
theorem dX8_tellOfNode_49 : decode cX8_tellOfNode 49 = .ok (.getfield 272, 3) := by decide +kernel
theorem dX8_tellOfNode_52 : decode cX8_tellOfNode 52 = .ok (.iload_n 1, 1) := by decide +kernel
theorem dX8_tellOfNode_53 : decode cX8_tellOfNode 53 = .ok (.iload_n 3, 1) := by decide +kernel
theorem dX8_tellOfNode_54 : decode cX8_tellOfNode 54 = .ok (.invokestatic 275, 3) := by decide +kernel
theorem dX8_tellOfNode_57 : decode cX8_tellOfNode 57 = .ok (.iload_n 2, 1) := by decide +kernel
theorem dX8_tellOfNode_58 : decode cX8_tellOfNode 58 = .ok (.iadd, 1) := by decide +kernel
theorem dX8_tellOfNode_59 : decode cX8_tellOfNode 59 = .ok (.iaload, 1) := by decide +kernel
theorem dX8_tellOfNode_60 : decode cX8_tellOfNode 60 = .ok (.ireturn, 1) := by decide +kernel
theorem dX8_tellOfAll_0 : decode cX8_tellOfAll 0 = .ok (.iload_n 1, 1) := by decide +kernel
theorem dX8_tellOfAll_1 : decode cX8_tellOfAll 1 = .ok (.tableswitch 133 0 8 #[51, 59, 67, 78, 86, 97, 108, 120, 128], 51) := by decide +kernel
theorem dX8_tellOfAll_52 : decode cX8_tellOfAll 52 = .ok (.aload_n 0, 1) := by decide +kernel
theorem dX8_tellOfAll_53 : decode cX8_tellOfAll 53 = .ok (.getfield 23, 3) := by decide +kernel
theorem dX8_tellOfAll_56 : decode cX8_tellOfAll 56 = .ok (.getfield 93, 3) := by decide +kernel
theorem dX8_tellOfAll_59 : decode cX8_tellOfAll 59 = .ok (.ireturn, 1) := by decide +kernel
theorem dX8_tellOfAll_60 : decode cX8_tellOfAll 60 = .ok (.aload_n 0, 1) := by decide +kernel
theorem dX8_tellOfAll_61 : decode cX8_tellOfAll 61 = .ok (.getfield 23, 3) := by decide +kernel
theorem dX8_tellOfAll_64 : decode cX8_tellOfAll 64 = .ok (.getfield 234, 3) := by decide +kernel
theorem dX8_tellOfAll_67 : decode cX8_tellOfAll 67 = .ok (.ireturn, 1) := by decide +kernel
theorem dX8_tellOfAll_68 : decode cX8_tellOfAll 68 = .ok (.aload_n 0, 1) := by decide +kernel
theorem dX8_tellOfAll_69 : decode cX8_tellOfAll 69 = .ok (.getfield 23, 3) := by decide +kernel
theorem dX8_tellOfAll_72 : decode cX8_tellOfAll 72 = .ok (.getfield 234, 3) := by decide +kernel
theorem dX8_tellOfAll_75 : decode cX8_tellOfAll 75 = .ok (.invokestatic 243, 3) := by decide +kernel
theorem dX8_tellOfAll_78 : decode cX8_tellOfAll 78 = .ok (.ireturn, 1) := by decide +kernel
theorem dX8_tellOfAll_79 : decode cX8_tellOfAll 79 = .ok (.aload_n 0, 1) := by decide +kernel
theorem dX8_tellOfAll_80 : decode cX8_tellOfAll 80 = .ok (.getfield 37, 3) := by decide +kernel
theorem dX8_tellOfAll_83 : decode cX8_tellOfAll 83 = .ok (.getfield 202, 3) := by decide +kernel
theorem dX8_tellOfAll_86 : decode cX8_tellOfAll 86 = .ok (.ireturn, 1) := by decide +kernel
theorem dX8_tellOfAll_87 : decode cX8_tellOfAll 87 = .ok (.aload_n 0, 1) := by decide +kernel
theorem dX8_tellOfAll_88 : decode cX8_tellOfAll 88 = .ok (.getfield 37, 3) := by decide +kernel
theorem dX8_tellOfAll_91 : decode cX8_tellOfAll 91 = .ok (.getfield 133, 3) := by decide +kernel
theorem dX8_tellOfAll_94 : decode cX8_tellOfAll 94 = .ok (.getfield 278, 3) := by decide +kernel
theorem dX8_tellOfAll_97 : decode cX8_tellOfAll 97 = .ok (.ireturn, 1) := by decide +kernel
theorem dX8_tellOfAll_98 : decode cX8_tellOfAll 98 = .ok (.aload_n 0, 1) := by decide +kernel
theorem dX8_tellOfAll_99 : decode cX8_tellOfAll 99 = .ok (.getfield 37, 3) := by decide +kernel
theorem dX8_tellOfAll_102 : decode cX8_tellOfAll 102 = .ok (.getfield 133, 3) := by decide +kernel
theorem dX8_tellOfAll_105 : decode cX8_tellOfAll 105 = .ok (.getfield 281, 3) := by decide +kernel
theorem dX8_tellOfAll_108 : decode cX8_tellOfAll 108 = .ok (.ireturn, 1) := by decide +kernel
theorem dX8_tellOfAll_109 : decode cX8_tellOfAll 109 = .ok (.aload_n 0, 1) := by decide +kernel
theorem dX8_tellOfAll_110 : decode cX8_tellOfAll 110 = .ok (.getfield 37, 3) := by decide +kernel
theorem dX8_tellOfAll_113 : decode cX8_tellOfAll 113 = .ok (.aload_n 0, 1) := by decide +kernel
theorem dX8_tellOfAll_114 : decode cX8_tellOfAll 114 = .ok (.getfield 23, 3) := by decide +kernel
theorem dX8_tellOfAll_117 : decode cX8_tellOfAll 117 = .ok (.invokevirtual 284, 3) := by decide +kernel
theorem dX8_tellOfAll_120 : decode cX8_tellOfAll 120 = .ok (.ireturn, 1) := by decide +kernel
theorem dX8_tellOfAll_121 : decode cX8_tellOfAll 121 = .ok (.aload_n 0, 1) := by decide +kernel
theorem dX8_tellOfAll_122 : decode cX8_tellOfAll 122 = .ok (.getfield 30, 3) := by decide +kernel
theorem dX8_tellOfAll_125 : decode cX8_tellOfAll 125 = .ok (.getfield 205, 3) := by decide +kernel
theorem dX8_tellOfAll_128 : decode cX8_tellOfAll 128 = .ok (.ireturn, 1) := by decide +kernel
theorem dX8_tellOfAll_129 : decode cX8_tellOfAll 129 = .ok (.aload_n 0, 1) := by decide +kernel
theorem dX8_tellOfAll_130 : decode cX8_tellOfAll 130 = .ok (.getfield 61, 3) := by decide +kernel
theorem dX8_tellOfAll_133 : decode cX8_tellOfAll 133 = .ok (.ireturn, 1) := by decide +kernel
theorem dX8_tellOfAll_134 : decode cX8_tellOfAll 134 = .ok (.aload_n 0, 1) := by decide +kernel
theorem dX8_tellOfAll_135 : decode cX8_tellOfAll 135 = .ok (.getfield 90, 3) := by decide +kernel
theorem dX8_tellOfAll_138 : decode cX8_tellOfAll 138 = .ok (.ireturn, 1) := by decide +kernel
theorem dX8_isSet_0 : decode cX8_isSet 0 = .ok (.iload_n 1, 1) := by decide +kernel
theorem dX8_isSet_1 : decode cX8_isSet 1 = .ok (.ifCond .lt 18, 3) := by decide +kernel
theorem dX8_isSet_4 : decode cX8_isSet 4 = .ok (.iload_n 1, 1) := by decide +kernel
theorem dX8_isSet_5 : decode cX8_isSet 5 = .ok (.aload_n 0, 1) := by decide +kernel
theorem dX8_isSet_6 : decode cX8_isSet 6 = .ok (.getfield 23, 3) := by decide +kernel
theorem dX8_isSet_9 : decode cX8_isSet 9 = .ok (.getfield 93, 3) := by decide +kernel
theorem dX8_isSet_12 : decode cX8_isSet 12 = .ok (.if_icmp .ge 7, 3) := by decide +kernel
theorem dX8_isSet_15 : decode cX8_isSet 15 = .ok (.iconst 1, 1) := by decide +kernel
theorem dX8_isSet_16 : decode cX8_isSet 16 = .ok (.goto 4, 3) := by decide +kernel
theorem dX8_isSet_19 : decode cX8_isSet 19 = .ok (.iconst 0, 1) := by decide +kernel
theorem dX8_isSet_20 : decode cX8_isSet 20 = .ok (.ireturn, 1) := by decide +kernel
theorem dX8_isTongue_0 : decode cX8_isTongue 0 = .ok (.iload_n 1, 1) := by decide +kernel
theorem dX8_isTongue_1 : decode cX8_isTongue 1 = .ok (.ifCond .lt 18, 3) := by decide +kernel
theorem dX8_isTongue_4 : decode cX8_isTongue 4 = .ok (.iload_n 1, 1) := by decide +kernel
theorem dX8_isTongue_5 : decode cX8_isTongue 5 = .ok (.aload_n 0, 1) := by decide +kernel
theorem dX8_isTongue_6 : decode cX8_isTongue 6 = .ok (.getfield 23, 3) := by decide +kernel
theorem dX8_isTongue_9 : decode cX8_isTongue 9 = .ok (.getfield 234, 3) := by decide +kernel
theorem dX8_isTongue_12 : decode cX8_isTongue 12 = .ok (.if_icmp .ge 7, 3) := by decide +kernel
theorem dX8_isTongue_15 : decode cX8_isTongue 15 = .ok (.iconst 1, 1) := by decide +kernel
theorem dX8_isTongue_16 : decode cX8_isTongue 16 = .ok (.goto 4, 3) := by decide +kernel
theorem dX8_isTongue_19 : decode cX8_isTongue 19 = .ok (.iconst 0, 1) := by decide +kernel
theorem dX8_isTongue_20 : decode cX8_isTongue 20 = .ok (.ireturn, 1) := by decide +kernel
theorem dX8_isNode_0 : decode cX8_isNode 0 = .ok (.iload_n 1, 1) := by decide +kernel
theorem dX8_isNode_1 : decode cX8_isNode 1 = .ok (.ifCond .lt 21, 3) := by decide +kernel
theorem dX8_isNode_4 : decode cX8_isNode 4 = .ok (.iload_n 1, 1) := by decide +kernel
theorem dX8_isNode_5 : decode cX8_isNode 5 = .ok (.aload_n 0, 1) := by decide +kernel
theorem dX8_isNode_6 : decode cX8_isNode 6 = .ok (.getfield 23, 3) := by decide +kernel
theorem dX8_isNode_9 : decode cX8_isNode 9 = .ok (.getfield 234, 3) := by decide +kernel
theorem dX8_isNode_12 : decode cX8_isNode 12 = .ok (.invokestatic 243, 3) := by decide +kernel
theorem dX8_isNode_15 : decode cX8_isNode 15 = .ok (.if_icmp .ge 7, 3) := by decide +kernel
theorem dX8_isNode_18 : decode cX8_isNode 18 = .ok (.iconst 1, 1) := by decide +kernel
theorem dX8_isNode_19 : decode cX8_isNode 19 = .ok (.goto 4, 3) := by decide +kernel
theorem dX8_isNode_22 : decode cX8_isNode 22 = .ok (.iconst 0, 1) := by decide +kernel
theorem dX8_isNode_23 : decode cX8_isNode 23 = .ok (.ireturn, 1) := by decide +kernel
theorem dX8_isPlace_0 : decode cX8_isPlace 0 = .ok (.iload_n 2, 1) := by decide +kernel
theorem dX8_isPlace_1 : decode cX8_isPlace 1 = .ok (.ifCond .lt 20, 3) := by decide +kernel
theorem dX8_isPlace_4 : decode cX8_isPlace 4 = .ok (.iload_n 2, 1) := by decide +kernel
theorem dX8_isPlace_5 : decode cX8_isPlace 5 = .ok (.aload_n 0, 1) := by decide +kernel
theorem dX8_isPlace_6 : decode cX8_isPlace 6 = .ok (.getfield 23, 3) := by decide +kernel
theorem dX8_isPlace_9 : decode cX8_isPlace 9 = .ok (.getfield 168, 3) := by decide +kernel
theorem dX8_isPlace_12 : decode cX8_isPlace 12 = .ok (.iload_n 1, 1) := by decide +kernel
theorem dX8_isPlace_13 : decode cX8_isPlace 13 = .ok (.iaload, 1) := by decide +kernel
theorem dX8_isPlace_14 : decode cX8_isPlace 14 = .ok (.if_icmp .ge 7, 3) := by decide +kernel
theorem dX8_isPlace_17 : decode cX8_isPlace 17 = .ok (.iconst 1, 1) := by decide +kernel
theorem dX8_isPlace_18 : decode cX8_isPlace 18 = .ok (.goto 4, 3) := by decide +kernel
theorem dX8_isPlace_21 : decode cX8_isPlace 21 = .ok (.iconst 0, 1) := by decide +kernel
theorem dX8_isPlace_22 : decode cX8_isPlace 22 = .ok (.ireturn, 1) := by decide +kernel
theorem dX8_isSound_0 : decode cX8_isSound 0 = .ok (.iload_n 0, 1) := by decide +kernel
theorem dX8_isSound_1 : decode cX8_isSound 1 = .ok (.ifCond .lt 13, 3) := by decide +kernel
theorem dX8_isSound_4 : decode cX8_isSound 4 = .ok (.iload_n 0, 1) := by decide +kernel
theorem dX8_isSound_5 : decode cX8_isSound 5 = .ok (.bipush 9, 2) := by decide +kernel
theorem dX8_isSound_7 : decode cX8_isSound 7 = .ok (.if_icmp .ge 7, 3) := by decide +kernel
theorem dX8_isSound_10 : decode cX8_isSound 10 = .ok (.iconst 1, 1) := by decide +kernel
theorem dX8_isSound_11 : decode cX8_isSound 11 = .ok (.goto 4, 3) := by decide +kernel
theorem dX8_isSound_14 : decode cX8_isSound 14 = .ok (.iconst 0, 1) := by decide +kernel
theorem dX8_isSound_15 : decode cX8_isSound 15 = .ok (.ireturn, 1) := by decide +kernel
theorem dX8_isKind_0 : decode cX8_isKind 0 = .ok (.iload_n 0, 1) := by decide +kernel
theorem dX8_isKind_1 : decode cX8_isKind 1 = .ok (.ifCond .lt 12, 3) := by decide +kernel
theorem dX8_isKind_4 : decode cX8_isKind 4 = .ok (.iload_n 0, 1) := by decide +kernel
theorem dX8_isKind_5 : decode cX8_isKind 5 = .ok (.iconst 5, 1) := by decide +kernel
theorem dX8_isKind_6 : decode cX8_isKind 6 = .ok (.if_icmp .ge 7, 3) := by decide +kernel
theorem dX8_isKind_9 : decode cX8_isKind 9 = .ok (.iconst 1, 1) := by decide +kernel
theorem dX8_isKind_10 : decode cX8_isKind 10 = .ok (.goto 4, 3) := by decide +kernel
theorem dX8_isKind_13 : decode cX8_isKind 13 = .ok (.iconst 0, 1) := by decide +kernel
theorem dX8_isKind_14 : decode cX8_isKind 14 = .ok (.ireturn, 1) := by decide +kernel
theorem dX8_isOfKind_0 : decode cX8_isOfKind 0 = .ok (.iload_n 1, 1) := by decide +kernel
theorem dX8_isOfKind_1 : decode cX8_isOfKind 1 = .ok (.ifCond .eq 18, 3) := by decide +kernel
theorem dX8_isOfKind_4 : decode cX8_isOfKind 4 = .ok (.iload_n 0, 1) := by decide +kernel
theorem dX8_isOfKind_5 : decode cX8_isOfKind 5 = .ok (.iload_n 1, 1) := by decide +kernel
theorem dX8_isOfKind_6 : decode cX8_isOfKind 6 = .ok (.if_icmp .eq 13, 3) := by decide +kernel
theorem dX8_isOfKind_9 : decode cX8_isOfKind 9 = .ok (.iload_n 0, 1) := by decide +kernel
theorem dX8_isOfKind_10 : decode cX8_isOfKind 10 = .ok (.iconst 2, 1) := by decide +kernel
theorem dX8_isOfKind_11 : decode cX8_isOfKind 11 = .ok (.if_icmp .ne 12, 3) := by decide +kernel
theorem dX8_isOfKind_14 : decode cX8_isOfKind 14 = .ok (.iload_n 1, 1) := by decide +kernel
theorem dX8_isOfKind_15 : decode cX8_isOfKind 15 = .ok (.iconst 1, 1) := by decide +kernel
theorem dX8_isOfKind_16 : decode cX8_isOfKind 16 = .ok (.if_icmp .ne 7, 3) := by decide +kernel
theorem dX8_isOfKind_19 : decode cX8_isOfKind 19 = .ok (.iconst 1, 1) := by decide +kernel
theorem dX8_isOfKind_20 : decode cX8_isOfKind 20 = .ok (.goto 4, 3) := by decide +kernel
theorem dX8_isOfKind_23 : decode cX8_isOfKind 23 = .ok (.iconst 0, 1) := by decide +kernel
theorem dX8_isOfKind_24 : decode cX8_isOfKind 24 = .ok (.ireturn, 1) := by decide +kernel
theorem dX8_costOf_0 : decode cX8_costOf 0 = .ok (.getstatic 288, 3) := by decide +kernel
theorem dX8_costOf_3 : decode cX8_costOf 3 = .ok (.iload_n 0, 1) := by decide +kernel
theorem dX8_costOf_4 : decode cX8_costOf 4 = .ok (.bipush 9, 2) := by decide +kernel
theorem dX8_costOf_6 : decode cX8_costOf 6 = .ok (.imul, 1) := by decide +kernel
theorem dX8_costOf_7 : decode cX8_costOf 7 = .ok (.iload_n 1, 1) := by decide +kernel
theorem dX8_costOf_8 : decode cX8_costOf 8 = .ok (.iadd, 1) := by decide +kernel
theorem dX8_costOf_9 : decode cX8_costOf 9 = .ok (.iaload, 1) := by decide +kernel
theorem dX8_costOf_10 : decode cX8_costOf 10 = .ok (.ireturn, 1) := by decide +kernel
theorem dX8_nodesOf_0 : decode cX8_nodesOf 0 = .ok (.iload_n 0, 1) := by decide +kernel
theorem dX8_nodesOf_1 : decode cX8_nodesOf 1 = .ok (.iconst 2, 1) := by decide +kernel
theorem dX8_nodesOf_2 : decode cX8_nodesOf 2 = .ok (.if_icmp .ge 7, 3) := by decide +kernel
theorem dX8_nodesOf_5 : decode cX8_nodesOf 5 = .ok (.iconst 0, 1) := by decide +kernel
theorem dX8_nodesOf_6 : decode cX8_nodesOf 6 = .ok (.goto 8, 3) := by decide +kernel
theorem dX8_nodesOf_9 : decode cX8_nodesOf 9 = .ok (.iconst 2, 1) := by decide +kernel
theorem dX8_nodesOf_10 : decode cX8_nodesOf 10 = .ok (.iload_n 0, 1) := by decide +kernel
theorem dX8_nodesOf_11 : decode cX8_nodesOf 11 = .ok (.imul, 1) := by decide +kernel
theorem dX8_nodesOf_12 : decode cX8_nodesOf 12 = .ok (.iconst 1, 1) := by decide +kernel
theorem dX8_nodesOf_13 : decode cX8_nodesOf 13 = .ok (.isub, 1) := by decide +kernel
theorem dX8_nodesOf_14 : decode cX8_nodesOf 14 = .ok (.ireturn, 1) := by decide +kernel
theorem dX8_aheadAt_0 : decode cX8_aheadAt 0 = .ok (.iload_n 0, 1) := by decide +kernel
theorem dX8_aheadAt_1 : decode cX8_aheadAt 1 = .ok (.ifCond .ne 7, 3) := by decide +kernel
theorem dX8_aheadAt_4 : decode cX8_aheadAt 4 = .ok (.iconst 1, 1) := by decide +kernel
theorem dX8_aheadAt_5 : decode cX8_aheadAt 5 = .ok (.goto 4, 3) := by decide +kernel
theorem dX8_aheadAt_8 : decode cX8_aheadAt 8 = .ok (.iconst 0, 1) := by decide +kernel
theorem dX8_aheadAt_9 : decode cX8_aheadAt 9 = .ok (.ireturn, 1) := by decide +kernel
theorem dX8_wordAt_0 : decode cX8_wordAt 0 = .ok (.iload_n 0, 1) := by decide +kernel
theorem dX8_wordAt_1 : decode cX8_wordAt 1 = .ok (.iconst 4, 1) := by decide +kernel
theorem dX8_wordAt_2 : decode cX8_wordAt 2 = .ok (.imul, 1) := by decide +kernel
theorem dX8_wordAt_3 : decode cX8_wordAt 3 = .ok (.iload_n 1, 1) := by decide +kernel
theorem dX8_wordAt_4 : decode cX8_wordAt 4 = .ok (.iadd, 1) := by decide +kernel
theorem dX8_wordAt_5 : decode cX8_wordAt 5 = .ok (.iconst 4, 1) := by decide +kernel
theorem dX8_wordAt_6 : decode cX8_wordAt 6 = .ok (.imul, 1) := by decide +kernel
theorem dX8_wordAt_7 : decode cX8_wordAt 7 = .ok (.ireturn, 1) := by decide +kernel
theorem dX8_nodesAt_0 : decode cX8_nodesAt 0 = .ok (.iload_n 0, 1) := by decide +kernel
theorem dX8_nodesAt_1 : decode cX8_nodesAt 1 = .ok (.iconst 4, 1) := by decide +kernel
theorem dX8_nodesAt_2 : decode cX8_nodesAt 2 = .ok (.imul, 1) := by decide +kernel
theorem dX8_nodesAt_3 : decode cX8_nodesAt 3 = .ok (.iload_n 1, 1) := by decide +kernel
theorem dX8_nodesAt_4 : decode cX8_nodesAt 4 = .ok (.iadd, 1) := by decide +kernel
theorem dX8_nodesAt_5 : decode cX8_nodesAt 5 = .ok (.bipush 7, 2) := by decide +kernel
theorem dX8_nodesAt_7 : decode cX8_nodesAt 7 = .ok (.imul, 1) := by decide +kernel
theorem dX8_nodesAt_8 : decode cX8_nodesAt 8 = .ok (.ireturn, 1) := by decide +kernel
theorem dX8_lawAt_0 : decode cX8_lawAt 0 = .ok (.iload_n 0, 1) := by decide +kernel
theorem dX8_lawAt_1 : decode cX8_lawAt 1 = .ok (.bipush 9, 2) := by decide +kernel
theorem dX8_lawAt_3 : decode cX8_lawAt 3 = .ok (.imul, 1) := by decide +kernel
theorem dX8_lawAt_4 : decode cX8_lawAt 4 = .ok (.iload_n 1, 1) := by decide +kernel
theorem dX8_lawAt_5 : decode cX8_lawAt 5 = .ok (.iadd, 1) := by decide +kernel
theorem dX8_lawAt_6 : decode cX8_lawAt 6 = .ok (.iconst 2, 1) := by decide +kernel
theorem dX8_lawAt_7 : decode cX8_lawAt 7 = .ok (.imul, 1) := by decide +kernel
theorem dX8_lawAt_8 : decode cX8_lawAt 8 = .ok (.iload_n 2, 1) := by decide +kernel
theorem dX8_lawAt_9 : decode cX8_lawAt 9 = .ok (.iadd, 1) := by decide +kernel
theorem dX8_lawAt_10 : decode cX8_lawAt 10 = .ok (.ireturn, 1) := by decide +kernel
theorem dX9_init_0 : decode cX9_init 0 = .ok (.aload_n 0, 1) := by decide +kernel
theorem dX9_init_1 : decode cX9_init 1 = .ok (.invokespecial 1, 3) := by decide +kernel
theorem dX9_init_4 : decode cX9_init 4 = .ok (.aload_n 0, 1) := by decide +kernel
theorem dX9_init_5 : decode cX9_init 5 = .ok (.bipush 110, 2) := by decide +kernel
theorem dX9_init_7 : decode cX9_init 7 = .ok (.newarray .int, 2) := by decide +kernel
theorem dX9_init_9 : decode cX9_init 9 = .ok (.putfield 7, 3) := by decide +kernel
theorem dX9_init_12 : decode cX9_init 12 = .ok (.aload_n 0, 1) := by decide +kernel
theorem dX9_init_13 : decode cX9_init 13 = .ok (.iconst 5, 1) := by decide +kernel
theorem dX9_init_14 : decode cX9_init 14 = .ok (.newarray .int, 2) := by decide +kernel
theorem dX9_init_16 : decode cX9_init 16 = .ok (.putfield 13, 3) := by decide +kernel
theorem dX9_init_19 : decode cX9_init 19 = .ok (.aload_n 0, 1) := by decide +kernel
theorem dX9_init_20 : decode cX9_init 20 = .ok (.iconst 5, 1) := by decide +kernel
theorem dX9_init_21 : decode cX9_init 21 = .ok (.newarray .int, 2) := by decide +kernel
theorem dX9_init_23 : decode cX9_init 23 = .ok (.putfield 16, 3) := by decide +kernel
theorem dX9_init_26 : decode cX9_init 26 = .ok (.aload_n 0, 1) := by decide +kernel
theorem dX9_init_27 : decode cX9_init 27 = .ok (.bipush 80, 2) := by decide +kernel
theorem dX9_init_29 : decode cX9_init 29 = .ok (.newarray .int, 2) := by decide +kernel
theorem dX9_init_31 : decode cX9_init 31 = .ok (.putfield 19, 3) := by decide +kernel
theorem dX9_init_34 : decode cX9_init 34 = .ok (.aload_n 0, 1) := by decide +kernel
theorem dX9_init_35 : decode cX9_init 35 = .ok (.bipush 6, 2) := by decide +kernel
theorem dX9_init_37 : decode cX9_init 37 = .ok (.newarray .int, 2) := by decide +kernel
theorem dX9_init_39 : decode cX9_init 39 = .ok (.putfield 22, 3) := by decide +kernel
theorem dX9_init_42 : decode cX9_init 42 = .ok (.aload_n 0, 1) := by decide +kernel
theorem dX9_init_43 : decode cX9_init 43 = .ok (.bipush 6, 2) := by decide +kernel
theorem dX9_init_45 : decode cX9_init 45 = .ok (.newarray .int, 2) := by decide +kernel
theorem dX9_init_47 : decode cX9_init 47 = .ok (.putfield 25, 3) := by decide +kernel
theorem dX9_init_50 : decode cX9_init 50 = .ok (.aload_n 0, 1) := by decide +kernel
theorem dX9_init_51 : decode cX9_init 51 = .ok (.bipush 96, 2) := by decide +kernel
theorem dX9_init_53 : decode cX9_init 53 = .ok (.newarray .int, 2) := by decide +kernel
theorem dX9_init_55 : decode cX9_init 55 = .ok (.putfield 28, 3) := by decide +kernel
theorem dX9_init_58 : decode cX9_init 58 = .ok (.aload_n 0, 1) := by decide +kernel
theorem dX9_init_59 : decode cX9_init 59 = .ok (.bipush 63, 2) := by decide +kernel
theorem dX9_init_61 : decode cX9_init 61 = .ok (.newarray .int, 2) := by decide +kernel
theorem dX9_init_63 : decode cX9_init 63 = .ok (.putfield 31, 3) := by decide +kernel
theorem dX9_init_66 : decode cX9_init 66 = .ok (.aload_n 0, 1) := by decide +kernel
theorem dX9_init_67 : decode cX9_init 67 = .ok (.bipush 7, 2) := by decide +kernel
theorem dX9_init_69 : decode cX9_init 69 = .ok (.newarray .int, 2) := by decide +kernel
theorem dX9_init_71 : decode cX9_init 71 = .ok (.putfield 34, 3) := by decide +kernel
theorem dX9_init_74 : decode cX9_init 74 = .ok (.aload_n 0, 1) := by decide +kernel
theorem dX9_init_75 : decode cX9_init 75 = .ok (.iconst 4, 1) := by decide +kernel
theorem dX9_init_76 : decode cX9_init 76 = .ok (.newarray .int, 2) := by decide +kernel
theorem dX9_init_78 : decode cX9_init 78 = .ok (.putfield 37, 3) := by decide +kernel
theorem dX9_init_81 : decode cX9_init 81 = .ok (.aload_n 0, 1) := by decide +kernel
theorem dX9_init_82 : decode cX9_init 82 = .ok (.sipush 168, 3) := by decide +kernel
theorem dX9_init_85 : decode cX9_init 85 = .ok (.newarray .int, 2) := by decide +kernel
theorem dX9_init_87 : decode cX9_init 87 = .ok (.putfield 40, 3) := by decide +kernel
theorem dX9_init_90 : decode cX9_init 90 = .ok (.aload_n 0, 1) := by decide +kernel
theorem dX9_init_91 : decode cX9_init 91 = .ok (.bipush 6, 2) := by decide +kernel
theorem dX9_init_93 : decode cX9_init 93 = .ok (.newarray .int, 2) := by decide +kernel
theorem dX9_init_95 : decode cX9_init 95 = .ok (.putfield 43, 3) := by decide +kernel
theorem dX9_init_98 : decode cX9_init 98 = .ok (.aload_n 0, 1) := by decide +kernel
theorem dX9_init_99 : decode cX9_init 99 = .ok (.bipush 72, 2) := by decide +kernel
theorem dX9_init_101 : decode cX9_init 101 = .ok (.newarray .int, 2) := by decide +kernel
theorem dX9_init_103 : decode cX9_init 103 = .ok (.putfield 46, 3) := by decide +kernel
theorem dX9_init_106 : decode cX9_init 106 = .ok (.aload_n 0, 1) := by decide +kernel
theorem dX9_init_107 : decode cX9_init 107 = .ok (.bipush 72, 2) := by decide +kernel
theorem dX9_init_109 : decode cX9_init 109 = .ok (.newarray .int, 2) := by decide +kernel
theorem dX9_init_111 : decode cX9_init 111 = .ok (.putfield 49, 3) := by decide +kernel
theorem dX9_init_114 : decode cX9_init 114 = .ok (.aload_n 0, 1) := by decide +kernel
theorem dX9_init_115 : decode cX9_init 115 = .ok (.bipush 72, 2) := by decide +kernel
theorem dX9_init_117 : decode cX9_init 117 = .ok (.newarray .int, 2) := by decide +kernel
theorem dX9_init_119 : decode cX9_init 119 = .ok (.putfield 52, 3) := by decide +kernel
theorem dX9_init_122 : decode cX9_init 122 = .ok (.aload_n 0, 1) := by decide +kernel
theorem dX9_init_123 : decode cX9_init 123 = .ok (.bipush 9, 2) := by decide +kernel
theorem dX9_init_125 : decode cX9_init 125 = .ok (.newarray .int, 2) := by decide +kernel
theorem dX9_init_127 : decode cX9_init 127 = .ok (.putfield 55, 3) := by decide +kernel
theorem dX9_init_130 : decode cX9_init 130 = .ok (.aload_n 0, 1) := by decide +kernel
theorem dX9_init_131 : decode cX9_init 131 = .ok (.iconst 4, 1) := by decide +kernel
theorem dX9_init_132 : decode cX9_init 132 = .ok (.newarray .int, 2) := by decide +kernel
theorem dX9_init_134 : decode cX9_init 134 = .ok (.putfield 58, 3) := by decide +kernel
theorem dX9_init_137 : decode cX9_init 137 = .ok (.aload_n 0, 1) := by decide +kernel
theorem dX9_init_138 : decode cX9_init 138 = .ok (.iconst 4, 1) := by decide +kernel
theorem dX9_init_139 : decode cX9_init 139 = .ok (.newarray .int, 2) := by decide +kernel
theorem dX9_init_141 : decode cX9_init 141 = .ok (.putfield 61, 3) := by decide +kernel
theorem dX9_init_144 : decode cX9_init 144 = .ok (.aload_n 0, 1) := by decide +kernel
theorem dX9_init_145 : decode cX9_init 145 = .ok (.bipush 25, 2) := by decide +kernel
theorem dX9_init_147 : decode cX9_init 147 = .ok (.newarray .int, 2) := by decide +kernel
theorem dX9_init_149 : decode cX9_init 149 = .ok (.putfield 64, 3) := by decide +kernel
theorem dX9_init_152 : decode cX9_init 152 = .ok (.aload_n 0, 1) := by decide +kernel
theorem dX9_init_153 : decode cX9_init 153 = .ok (.bipush 18, 2) := by decide +kernel
theorem dX9_init_155 : decode cX9_init 155 = .ok (.newarray .int, 2) := by decide +kernel
theorem dX9_init_157 : decode cX9_init 157 = .ok (.putfield 67, 3) := by decide +kernel
theorem dX9_init_160 : decode cX9_init 160 = .ok (.aload_n 0, 1) := by decide +kernel
theorem dX9_init_161 : decode cX9_init 161 = .ok (.bipush 6, 2) := by decide +kernel
theorem dX9_init_163 : decode cX9_init 163 = .ok (.newarray .int, 2) := by decide +kernel
theorem dX9_init_165 : decode cX9_init 165 = .ok (.putfield 70, 3) := by decide +kernel
theorem dX9_init_168 : decode cX9_init 168 = .ok (.aload_n 0, 1) := by decide +kernel
theorem dX9_init_169 : decode cX9_init 169 = .ok (.bipush 6, 2) := by decide +kernel
theorem dX9_init_171 : decode cX9_init 171 = .ok (.newarray .int, 2) := by decide +kernel
theorem dX9_init_173 : decode cX9_init 173 = .ok (.putfield 73, 3) := by decide +kernel
theorem dX9_init_176 : decode cX9_init 176 = .ok (.aload_n 0, 1) := by decide +kernel
theorem dX9_init_177 : decode cX9_init 177 = .ok (.bipush 96, 2) := by decide +kernel
theorem dX9_init_179 : decode cX9_init 179 = .ok (.newarray .int, 2) := by decide +kernel
theorem dX9_init_181 : decode cX9_init 181 = .ok (.putfield 76, 3) := by decide +kernel
theorem dX9_init_184 : decode cX9_init 184 = .ok (.aload_n 0, 1) := by decide +kernel
theorem dX9_init_185 : decode cX9_init 185 = .ok (.bipush 18, 2) := by decide +kernel
theorem dX9_init_187 : decode cX9_init 187 = .ok (.newarray .int, 2) := by decide +kernel
theorem dX9_init_189 : decode cX9_init 189 = .ok (.putfield 79, 3) := by decide +kernel
theorem dX9_init_192 : decode cX9_init 192 = .ok (.aload_n 0, 1) := by decide +kernel
theorem dX9_init_193 : decode cX9_init 193 = .ok (.iconst (-1), 1) := by decide +kernel
theorem dX9_init_194 : decode cX9_init 194 = .ok (.putfield 82, 3) := by decide +kernel
theorem dX9_init_197 : decode cX9_init 197 = .ok (.return_, 1) := by decide +kernel
theorem dX9_in_0 : decode cX9_in 0 = .ok (.lload_n 0, 1) := by decide +kernel
theorem dX9_in_1 : decode cX9_in 1 = .ok (.lload_n 2, 1) := by decide +kernel
theorem dX9_in_2 : decode cX9_in 2 = .ok (.lcmp, 1) := by decide +kernel
theorem dX9_in_3 : decode cX9_in 3 = .ok (.ifCond .lt 14, 3) := by decide +kernel
theorem dX9_in_6 : decode cX9_in 6 = .ok (.lload_n 0, 1) := by decide +kernel
theorem dX9_in_7 : decode cX9_in 7 = .ok (.lload 4, 2) := by decide +kernel
theorem dX9_in_9 : decode cX9_in 9 = .ok (.lcmp, 1) := by decide +kernel
theorem dX9_in_10 : decode cX9_in 10 = .ok (.ifCond .gt 7, 3) := by decide +kernel
theorem dX9_in_13 : decode cX9_in 13 = .ok (.iconst 1, 1) := by decide +kernel
theorem dX9_in_14 : decode cX9_in 14 = .ok (.goto 4, 3) := by decide +kernel
theorem dX9_in_17 : decode cX9_in 17 = .ok (.iconst 0, 1) := by decide +kernel
theorem dX9_in_18 : decode cX9_in 18 = .ok (.ireturn, 1) := by decide +kernel
theorem dX9_copyRow_0 : decode cX9_copyRow 0 = .ok (.iconst 0, 1) := by decide +kernel
theorem dX9_copyRow_1 : decode cX9_copyRow 1 = .ok (.istore_n 2, 1) := by decide +kernel
theorem dX9_copyRow_2 : decode cX9_copyRow 2 = .ok (.iload_n 2, 1) := by decide +kernel
theorem dX9_copyRow_3 : decode cX9_copyRow 3 = .ok (.aload_n 0, 1) := by decide +kernel
theorem dX9_copyRow_4 : decode cX9_copyRow 4 = .ok (.arraylength, 1) := by decide +kernel
theorem dX9_copyRow_5 : decode cX9_copyRow 5 = .ok (.if_icmp .ge 15, 3) := by decide +kernel
theorem dX9_copyRow_8 : decode cX9_copyRow 8 = .ok (.aload_n 1, 1) := by decide +kernel
theorem dX9_copyRow_9 : decode cX9_copyRow 9 = .ok (.iload_n 2, 1) := by decide +kernel
theorem dX9_copyRow_10 : decode cX9_copyRow 10 = .ok (.aload_n 0, 1) := by decide +kernel
theorem dX9_copyRow_11 : decode cX9_copyRow 11 = .ok (.iload_n 2, 1) := by decide +kernel
theorem dX9_copyRow_12 : decode cX9_copyRow 12 = .ok (.iaload, 1) := by decide +kernel
theorem dX9_copyRow_13 : decode cX9_copyRow 13 = .ok (.iastore, 1) := by decide +kernel
theorem dX9_copyRow_14 : decode cX9_copyRow 14 = .ok (.iinc 2 1, 3) := by decide +kernel
theorem dX9_copyRow_17 : decode cX9_copyRow 17 = .ok (.goto (-15), 3) := by decide +kernel
theorem dX9_copyRow_20 : decode cX9_copyRow 20 = .ok (.return_, 1) := by decide +kernel
theorem dX9_letter_0 : decode cX9_letter 0 = .ok (.iload_n 1, 1) := by decide +kernel
theorem dX9_letter_1 : decode cX9_letter 1 = .ok (.i2l, 1) := by decide +kernel
theorem dX9_letter_2 : decode cX9_letter 2 = .ok (.lconst 1, 1) := by decide +kernel
theorem dX9_letter_3 : decode cX9_letter 3 = .ok (.ldc2_w 86, 3) := by decide +kernel
theorem dX9_letter_6 : decode cX9_letter 6 = .ok (.invokestatic 88, 3) := by decide +kernel
theorem dX9_letter_9 : decode cX9_letter 9 = .ok (.ifCond .ne 6, 3) := by decide +kernel
theorem dX9_letter_12 : decode cX9_letter 12 = .ok (.bipush (-102), 2) := by decide +kernel
theorem dX9_letter_14 : decode cX9_letter 14 = .ok (.ireturn, 1) := by decide +kernel
theorem dX9_letter_15 : decode cX9_letter 15 = .ok (.aload_n 0, 1) := by decide +kernel
theorem dX9_letter_16 : decode cX9_letter 16 = .ok (.getfield 92, 3) := by decide +kernel
theorem dX9_letter_19 : decode cX9_letter 19 = .ok (.bipush 110, 2) := by decide +kernel
theorem dX9_letter_21 : decode cX9_letter 21 = .ok (.if_icmp .ne 6, 3) := by decide +kernel
theorem dX9_letter_24 : decode cX9_letter 24 = .ok (.bipush (-104), 2) := by decide +kernel
theorem dX9_letter_26 : decode cX9_letter 26 = .ok (.ireturn, 1) := by decide +kernel
theorem dX9_letter_27 : decode cX9_letter 27 = .ok (.aload_n 0, 1) := by decide +kernel
theorem dX9_letter_28 : decode cX9_letter 28 = .ok (.getfield 7, 3) := by decide +kernel
theorem dX9_letter_31 : decode cX9_letter 31 = .ok (.aload_n 0, 1) := by decide +kernel
theorem dX9_letter_32 : decode cX9_letter 32 = .ok (.getfield 92, 3) := by decide +kernel
theorem dX9_letter_35 : decode cX9_letter 35 = .ok (.iload_n 1, 1) := by decide +kernel
theorem dX9_letter_36 : decode cX9_letter 36 = .ok (.iastore, 1) := by decide +kernel
theorem dX9_letter_37 : decode cX9_letter 37 = .ok (.aload_n 0, 1) := by decide +kernel
theorem dX9_letter_38 : decode cX9_letter 38 = .ok (.dup, 1) := by decide +kernel
theorem dX9_letter_39 : decode cX9_letter 39 = .ok (.getfield 92, 3) := by decide +kernel
theorem dX9_letter_42 : decode cX9_letter 42 = .ok (.iconst 1, 1) := by decide +kernel
theorem dX9_letter_43 : decode cX9_letter 43 = .ok (.iadd, 1) := by decide +kernel
theorem dX9_letter_44 : decode cX9_letter 44 = .ok (.putfield 92, 3) := by decide +kernel
theorem dX9_letter_47 : decode cX9_letter 47 = .ok (.aload_n 0, 1) := by decide +kernel
theorem dX9_letter_48 : decode cX9_letter 48 = .ok (.getfield 92, 3) := by decide +kernel
theorem dX9_letter_51 : decode cX9_letter 51 = .ok (.ireturn, 1) := by decide +kernel
theorem dX9_blank_0 : decode cX9_blank 0 = .ok (.aload_n 0, 1) := by decide +kernel
theorem dX9_blank_1 : decode cX9_blank 1 = .ok (.getfield 92, 3) := by decide +kernel
theorem dX9_blank_4 : decode cX9_blank 4 = .ok (.istore_n 1, 1) := by decide +kernel
theorem dX9_blank_5 : decode cX9_blank 5 = .ok (.aload_n 0, 1) := by decide +kernel
theorem dX9_blank_6 : decode cX9_blank 6 = .ok (.iconst 0, 1) := by decide +kernel
theorem dX9_blank_7 : decode cX9_blank 7 = .ok (.putfield 92, 3) := by decide +kernel
theorem dX9_blank_10 : decode cX9_blank 10 = .ok (.iload_n 1, 1) := by decide +kernel
theorem dX9_blank_11 : decode cX9_blank 11 = .ok (.ireturn, 1) := by decide +kernel
theorem dX9_kindBy_0 : decode cX9_kindBy 0 = .ok (.iload_n 0, 1) := by decide +kernel
theorem dX9_kindBy_1 : decode cX9_kindBy 1 = .ok (.lookupswitch 61 #[(99, 55), (100, 59), (108, 57), (110, 53), (119, 51)], 51) := by decide +kernel
theorem dX9_kindBy_52 : decode cX9_kindBy 52 = .ok (.iconst 0, 1) := by decide +kernel
theorem dX9_kindBy_53 : decode cX9_kindBy 53 = .ok (.ireturn, 1) := by decide +kernel
theorem dX9_kindBy_54 : decode cX9_kindBy 54 = .ok (.iconst 1, 1) := by decide +kernel
theorem dX9_kindBy_55 : decode cX9_kindBy 55 = .ok (.ireturn, 1) := by decide +kernel
theorem dX9_kindBy_56 : decode cX9_kindBy 56 = .ok (.iconst 2, 1) := by decide +kernel
theorem dX9_kindBy_57 : decode cX9_kindBy 57 = .ok (.ireturn, 1) := by decide +kernel
theorem dX9_kindBy_58 : decode cX9_kindBy 58 = .ok (.iconst 3, 1) := by decide +kernel
theorem dX9_kindBy_59 : decode cX9_kindBy 59 = .ok (.ireturn, 1) := by decide +kernel
theorem dX9_kindBy_60 : decode cX9_kindBy 60 = .ok (.iconst 4, 1) := by decide +kernel
theorem dX9_kindBy_61 : decode cX9_kindBy 61 = .ok (.ireturn, 1) := by decide +kernel
theorem dX9_kindBy_62 : decode cX9_kindBy 62 = .ok (.iconst (-1), 1) := by decide +kernel
theorem dX9_kindBy_63 : decode cX9_kindBy 63 = .ok (.ireturn, 1) := by decide +kernel
theorem dX9_soundBy_0 : decode cX9_soundBy 0 = .ok (.iload_n 0, 1) := by decide +kernel
theorem dX9_soundBy_1 : decode cX9_soundBy 1 = .ok (.lookupswitch 104 #[(46, 83), (97, 85), (101, 87), (102, 101), (107, 95), (111, 89), (112, 91), (115, 98), (116, 93)], 83) := by decide +kernel
theorem dX9_soundBy_84 : decode cX9_soundBy 84 = .ok (.iconst 0, 1) := by decide +kernel
theorem dX9_soundBy_85 : decode cX9_soundBy 85 = .ok (.ireturn, 1) := by decide +kernel
theorem dX9_soundBy_86 : decode cX9_soundBy 86 = .ok (.iconst 1, 1) := by decide +kernel
theorem dX9_soundBy_87 : decode cX9_soundBy 87 = .ok (.ireturn, 1) := by decide +kernel
theorem dX9_soundBy_88 : decode cX9_soundBy 88 = .ok (.iconst 2, 1) := by decide +kernel
theorem dX9_soundBy_89 : decode cX9_soundBy 89 = .ok (.ireturn, 1) := by decide +kernel
theorem dX9_soundBy_90 : decode cX9_soundBy 90 = .ok (.iconst 3, 1) := by decide +kernel
theorem dX9_soundBy_91 : decode cX9_soundBy 91 = .ok (.ireturn, 1) := by decide +kernel
theorem dX9_soundBy_92 : decode cX9_soundBy 92 = .ok (.iconst 4, 1) := by decide +kernel
theorem dX9_soundBy_93 : decode cX9_soundBy 93 = .ok (.ireturn, 1) := by decide +kernel
theorem dX9_soundBy_94 : decode cX9_soundBy 94 = .ok (.iconst 5, 1) := by decide +kernel
theorem dX9_soundBy_95 : decode cX9_soundBy 95 = .ok (.ireturn, 1) := by decide +kernel
theorem dX9_soundBy_96 : decode cX9_soundBy 96 = .ok (.bipush 6, 2) := by decide +kernel
theorem dX9_soundBy_98 : decode cX9_soundBy 98 = .ok (.ireturn, 1) := by decide +kernel
theorem dX9_soundBy_99 : decode cX9_soundBy 99 = .ok (.bipush 7, 2) := by decide +kernel
theorem dX9_soundBy_101 : decode cX9_soundBy 101 = .ok (.ireturn, 1) := by decide +kernel
theorem dX9_soundBy_102 : decode cX9_soundBy 102 = .ok (.bipush 8, 2) := by decide +kernel
theorem dX9_soundBy_104 : decode cX9_soundBy 104 = .ok (.ireturn, 1) := by decide +kernel
theorem dX9_soundBy_105 : decode cX9_soundBy 105 = .ok (.iconst (-1), 1) := by decide +kernel
theorem dX9_soundBy_106 : decode cX9_soundBy 106 = .ok (.ireturn, 1) := by decide +kernel
theorem dX9_isWordWhole_0 : decode cX9_isWordWhole 0 = .ok (.aload_n 0, 1) := by decide +kernel
theorem dX9_isWordWhole_1 : decode cX9_isWordWhole 1 = .ok (.getfield 95, 3) := by decide +kernel
theorem dX9_isWordWhole_4 : decode cX9_isWordWhole 4 = .ok (.ifCond .le 26, 3) := by decide +kernel
theorem dX9_isWordWhole_7 : decode cX9_isWordWhole 7 = .ok (.aload_n 0, 1) := by decide +kernel
theorem dX9_isWordWhole_8 : decode cX9_isWordWhole 8 = .ok (.getfield 98, 3) := by decide +kernel
theorem dX9_isWordWhole_11 : decode cX9_isWordWhole 11 = .ok (.iconst 1, 1) := by decide +kernel
theorem dX9_isWordWhole_12 : decode cX9_isWordWhole 12 = .ok (.if_icmp .eq 14, 3) := by decide +kernel
theorem dX9_isWordWhole_15 : decode cX9_isWordWhole 15 = .ok (.aload_n 0, 1) := by decide +kernel
theorem dX9_isWordWhole_16 : decode cX9_isWordWhole 16 = .ok (.getfield 95, 3) := by decide +kernel
theorem dX9_isWordWhole_19 : decode cX9_isWordWhole 19 = .ok (.aload_n 0, 1) := by decide +kernel
theorem dX9_isWordWhole_20 : decode cX9_isWordWhole 20 = .ok (.getfield 101, 3) := by decide +kernel
theorem dX9_isWordWhole_23 : decode cX9_isWordWhole 23 = .ok (.if_icmp .ne 7, 3) := by decide +kernel
theorem dX9_isWordWhole_26 : decode cX9_isWordWhole 26 = .ok (.iconst 1, 1) := by decide +kernel
theorem dX9_isWordWhole_27 : decode cX9_isWordWhole 27 = .ok (.goto 4, 3) := by decide +kernel
theorem dX9_isWordWhole_30 : decode cX9_isWordWhole 30 = .ok (.iconst 0, 1) := by decide +kernel
theorem dX9_isWordWhole_31 : decode cX9_isWordWhole 31 = .ok (.ireturn, 1) := by decide +kernel
theorem dX9_isSetWhole_0 : decode cX9_isSetWhole 0 = .ok (.aload_n 0, 1) := by decide +kernel
theorem dX9_isSetWhole_1 : decode cX9_isSetWhole 1 = .ok (.invokevirtual 104, 3) := by decide +kernel
theorem dX9_isSetWhole_4 : decode cX9_isSetWhole 4 = .ok (.ifCond .eq 36, 3) := by decide +kernel
theorem dX9_isSetWhole_7 : decode cX9_isSetWhole 7 = .ok (.aload_n 0, 1) := by decide +kernel
theorem dX9_isSetWhole_8 : decode cX9_isSetWhole 8 = .ok (.getfield 108, 3) := by decide +kernel
theorem dX9_isSetWhole_11 : decode cX9_isSetWhole 11 = .ok (.ifCond .ne 14, 3) := by decide +kernel
theorem dX9_isSetWhole_14 : decode cX9_isSetWhole 14 = .ok (.aload_n 0, 1) := by decide +kernel
theorem dX9_isSetWhole_15 : decode cX9_isSetWhole 15 = .ok (.getfield 98, 3) := by decide +kernel
theorem dX9_isSetWhole_18 : decode cX9_isSetWhole 18 = .ok (.iconst 1, 1) := by decide +kernel
theorem dX9_isSetWhole_19 : decode cX9_isSetWhole 19 = .ok (.if_icmp .le 21, 3) := by decide +kernel
theorem dX9_isSetWhole_22 : decode cX9_isSetWhole 22 = .ok (.goto 14, 3) := by decide +kernel
theorem dX9_isSetWhole_25 : decode cX9_isSetWhole 25 = .ok (.aload_n 0, 1) := by decide +kernel
theorem dX9_isSetWhole_26 : decode cX9_isSetWhole 26 = .ok (.getfield 98, 3) := by decide +kernel
theorem dX9_isSetWhole_29 : decode cX9_isSetWhole 29 = .ok (.aload_n 0, 1) := by decide +kernel
theorem dX9_isSetWhole_30 : decode cX9_isSetWhole 30 = .ok (.getfield 108, 3) := by decide +kernel
theorem dX9_isSetWhole_33 : decode cX9_isSetWhole 33 = .ok (.if_icmp .ne 7, 3) := by decide +kernel
theorem dX9_isSetWhole_36 : decode cX9_isSetWhole 36 = .ok (.iconst 1, 1) := by decide +kernel
theorem dX9_isSetWhole_37 : decode cX9_isSetWhole 37 = .ok (.goto 4, 3) := by decide +kernel
theorem dX9_isSetWhole_40 : decode cX9_isSetWhole 40 = .ok (.iconst 0, 1) := by decide +kernel
theorem dX9_isSetWhole_41 : decode cX9_isSetWhole 41 = .ok (.ireturn, 1) := by decide +kernel
theorem dX9_isBegun_0 : decode cX9_isBegun 0 = .ok (.iload_n 1, 1) := by decide +kernel
theorem dX9_isBegun_1 : decode cX9_isBegun 1 = .ok (.invokestatic 111, 3) := by decide +kernel
theorem dX9_isBegun_4 : decode cX9_isBegun 4 = .ok (.iconst (-1), 1) := by decide +kernel
theorem dX9_isBegun_5 : decode cX9_isBegun 5 = .ok (.if_icmp .eq 11, 3) := by decide +kernel
theorem dX9_isBegun_8 : decode cX9_isBegun 8 = .ok (.aload_n 0, 1) := by decide +kernel
theorem dX9_isBegun_9 : decode cX9_isBegun 9 = .ok (.getfield 115, 3) := by decide +kernel
theorem dX9_isBegun_12 : decode cX9_isBegun 12 = .ok (.iconst 5, 1) := by decide +kernel
theorem dX9_isBegun_13 : decode cX9_isBegun 13 = .ok (.if_icmp .ne 5, 3) := by decide +kernel
theorem dX9_isBegun_16 : decode cX9_isBegun 16 = .ok (.iconst 0, 1) := by decide +kernel
theorem dX9_isBegun_17 : decode cX9_isBegun 17 = .ok (.ireturn, 1) := by decide +kernel
theorem dX9_isBegun_18 : decode cX9_isBegun 18 = .ok (.aload_n 0, 1) := by decide +kernel
theorem dX9_isBegun_19 : decode cX9_isBegun 19 = .ok (.getfield 13, 3) := by decide +kernel
theorem dX9_isBegun_22 : decode cX9_isBegun 22 = .ok (.aload_n 0, 1) := by decide +kernel
theorem dX9_isBegun_23 : decode cX9_isBegun 23 = .ok (.getfield 115, 3) := by decide +kernel
theorem dX9_isBegun_26 : decode cX9_isBegun 26 = .ok (.iload_n 1, 1) := by decide +kernel
theorem dX9_isBegun_27 : decode cX9_isBegun 27 = .ok (.invokestatic 111, 3) := by decide +kernel
theorem dX9_isBegun_30 : decode cX9_isBegun 30 = .ok (.iastore, 1) := by decide +kernel
theorem dX9_isBegun_31 : decode cX9_isBegun 31 = .ok (.aload_n 0, 1) := by decide +kernel
theorem dX9_isBegun_32 : decode cX9_isBegun 32 = .ok (.dup, 1) := by decide +kernel
theorem dX9_isBegun_33 : decode cX9_isBegun 33 = .ok (.getfield 115, 3) := by decide +kernel
theorem dX9_isBegun_36 : decode cX9_isBegun 36 = .ok (.iconst 1, 1) := by decide +kernel
theorem dX9_isBegun_37 : decode cX9_isBegun 37 = .ok (.iadd, 1) := by decide +kernel
theorem dX9_isBegun_38 : decode cX9_isBegun 38 = .ok (.putfield 115, 3) := by decide +kernel
theorem dX9_isBegun_41 : decode cX9_isBegun 41 = .ok (.aload_n 0, 1) := by decide +kernel
theorem dX9_isBegun_42 : decode cX9_isBegun 42 = .ok (.iconst 1, 1) := by decide +kernel
theorem dX9_isBegun_43 : decode cX9_isBegun 43 = .ok (.putfield 98, 3) := by decide +kernel
theorem dX9_isBegun_46 : decode cX9_isBegun 46 = .ok (.aload_n 0, 1) := by decide +kernel
theorem dX9_isBegun_47 : decode cX9_isBegun 47 = .ok (.iconst 0, 1) := by decide +kernel
theorem dX9_isBegun_48 : decode cX9_isBegun 48 = .ok (.putfield 95, 3) := by decide +kernel
theorem dX9_isBegun_51 : decode cX9_isBegun 51 = .ok (.aload_n 0, 1) := by decide +kernel
theorem dX9_isBegun_52 : decode cX9_isBegun 52 = .ok (.iconst 0, 1) := by decide +kernel
theorem dX9_isBegun_53 : decode cX9_isBegun 53 = .ok (.putfield 101, 3) := by decide +kernel
theorem dX9_isBegun_56 : decode cX9_isBegun 56 = .ok (.iconst 1, 1) := by decide +kernel
theorem dX9_isBegun_57 : decode cX9_isBegun 57 = .ok (.ireturn, 1) := by decide +kernel
theorem dX9_isSlash_0 : decode cX9_isSlash 0 = .ok (.aload_n 0, 1) := by decide +kernel
theorem dX9_isSlash_1 : decode cX9_isSlash 1 = .ok (.invokevirtual 104, 3) := by decide +kernel
theorem dX9_isSlash_4 : decode cX9_isSlash 4 = .ok (.ifCond .eq 29, 3) := by decide +kernel
theorem dX9_isSlash_7 : decode cX9_isSlash 7 = .ok (.aload_n 0, 1) := by decide +kernel
theorem dX9_isSlash_8 : decode cX9_isSlash 8 = .ok (.getfield 98, 3) := by decide +kernel
theorem dX9_isSlash_11 : decode cX9_isSlash 11 = .ok (.aload_n 0, 1) := by decide +kernel
theorem dX9_isSlash_12 : decode cX9_isSlash 12 = .ok (.getfield 108, 3) := by decide +kernel
theorem dX9_isSlash_15 : decode cX9_isSlash 15 = .ok (.ifCond .ne 7, 3) := by decide +kernel
theorem dX9_isSlash_18 : decode cX9_isSlash 18 = .ok (.iconst 4, 1) := by decide +kernel
theorem dX9_isSlash_19 : decode cX9_isSlash 19 = .ok (.goto 7, 3) := by decide +kernel
theorem dX9_isSlash_22 : decode cX9_isSlash 22 = .ok (.aload_n 0, 1) := by decide +kernel
theorem dX9_isSlash_23 : decode cX9_isSlash 23 = .ok (.getfield 108, 3) := by decide +kernel
theorem dX9_isSlash_26 : decode cX9_isSlash 26 = .ok (.if_icmp .ge 7, 3) := by decide +kernel
theorem dX9_isSlash_29 : decode cX9_isSlash 29 = .ok (.iconst 1, 1) := by decide +kernel
theorem dX9_isSlash_30 : decode cX9_isSlash 30 = .ok (.goto 4, 3) := by decide +kernel
theorem dX9_isSlash_33 : decode cX9_isSlash 33 = .ok (.iconst 0, 1) := by decide +kernel
theorem dX9_isSlash_34 : decode cX9_isSlash 34 = .ok (.istore_n 1, 1) := by decide +kernel
theorem dX9_isSlash_35 : decode cX9_isSlash 35 = .ok (.aload_n 0, 1) := by decide +kernel
theorem dX9_isSlash_36 : decode cX9_isSlash 36 = .ok (.aload_n 0, 1) := by decide +kernel
theorem dX9_isSlash_37 : decode cX9_isSlash 37 = .ok (.getfield 98, 3) := by decide +kernel
theorem dX9_isSlash_40 : decode cX9_isSlash 40 = .ok (.iconst 1, 1) := by decide +kernel
theorem dX9_isSlash_41 : decode cX9_isSlash 41 = .ok (.if_icmp .ne 10, 3) := by decide +kernel
theorem dX9_isSlash_44 : decode cX9_isSlash 44 = .ok (.aload_n 0, 1) := by decide +kernel
theorem dX9_isSlash_45 : decode cX9_isSlash 45 = .ok (.getfield 95, 3) := by decide +kernel
theorem dX9_isSlash_48 : decode cX9_isSlash 48 = .ok (.goto 7, 3) := by decide +kernel
theorem dX9_isSlash_51 : decode cX9_isSlash 51 = .ok (.aload_n 0, 1) := by decide +kernel
theorem dX9_isSlash_52 : decode cX9_isSlash 52 = .ok (.getfield 101, 3) := by decide +kernel
theorem dX9_isSlash_55 : decode cX9_isSlash 55 = .ok (.putfield 101, 3) := by decide +kernel
theorem dX9_isSlash_58 : decode cX9_isSlash 58 = .ok (.aload_n 0, 1) := by decide +kernel
theorem dX9_isSlash_59 : decode cX9_isSlash 59 = .ok (.dup, 1) := by decide +kernel
theorem dX9_isSlash_60 : decode cX9_isSlash 60 = .ok (.getfield 98, 3) := by decide +kernel
theorem dX9_isSlash_63 : decode cX9_isSlash 63 = .ok (.iconst 1, 1) := by decide +kernel
theorem dX9_isSlash_64 : decode cX9_isSlash 64 = .ok (.iadd, 1) := by decide +kernel
theorem dX9_isSlash_65 : decode cX9_isSlash 65 = .ok (.putfield 98, 3) := by decide +kernel
theorem dX9_isSlash_68 : decode cX9_isSlash 68 = .ok (.aload_n 0, 1) := by decide +kernel
theorem dX9_isSlash_69 : decode cX9_isSlash 69 = .ok (.iconst 0, 1) := by decide +kernel
theorem dX9_isSlash_70 : decode cX9_isSlash 70 = .ok (.putfield 95, 3) := by decide +kernel
theorem dX9_isSlash_73 : decode cX9_isSlash 73 = .ok (.iload_n 1, 1) := by decide +kernel
theorem dX9_isSlash_74 : decode cX9_isSlash 74 = .ok (.ireturn, 1) := by decide +kernel
theorem dX9_isComma_0 : decode cX9_isComma 0 = .ok (.aload_n 0, 1) := by decide +kernel
theorem dX9_isComma_1 : decode cX9_isComma 1 = .ok (.invokevirtual 118, 3) := by decide +kernel
theorem dX9_isComma_4 : decode cX9_isComma 4 = .ok (.ifCond .eq 15, 3) := by decide +kernel
theorem dX9_isComma_7 : decode cX9_isComma 7 = .ok (.aload_n 0, 1) := by decide +kernel
theorem dX9_isComma_8 : decode cX9_isComma 8 = .ok (.getfield 115, 3) := by decide +kernel
theorem dX9_isComma_11 : decode cX9_isComma 11 = .ok (.iconst 5, 1) := by decide +kernel
theorem dX9_isComma_12 : decode cX9_isComma 12 = .ok (.if_icmp .ge 7, 3) := by decide +kernel
theorem dX9_isComma_15 : decode cX9_isComma 15 = .ok (.iconst 1, 1) := by decide +kernel
theorem dX9_isComma_16 : decode cX9_isComma 16 = .ok (.goto 4, 3) := by decide +kernel
theorem dX9_isComma_19 : decode cX9_isComma 19 = .ok (.iconst 0, 1) := by decide +kernel
theorem dX9_isComma_20 : decode cX9_isComma 20 = .ok (.istore_n 1, 1) := by decide +kernel
theorem dX9_isComma_21 : decode cX9_isComma 21 = .ok (.aload_n 0, 1) := by decide +kernel
theorem dX9_isComma_22 : decode cX9_isComma 22 = .ok (.aload_n 0, 1) := by decide +kernel
theorem dX9_isComma_23 : decode cX9_isComma 23 = .ok (.getfield 108, 3) := by decide +kernel
theorem dX9_isComma_26 : decode cX9_isComma 26 = .ok (.ifCond .ne 10, 3) := by decide +kernel
theorem dX9_isComma_29 : decode cX9_isComma 29 = .ok (.aload_n 0, 1) := by decide +kernel
theorem dX9_isComma_30 : decode cX9_isComma 30 = .ok (.getfield 98, 3) := by decide +kernel
theorem dX9_isComma_33 : decode cX9_isComma 33 = .ok (.goto 7, 3) := by decide +kernel
theorem dX9_isComma_36 : decode cX9_isComma 36 = .ok (.aload_n 0, 1) := by decide +kernel
theorem dX9_isComma_37 : decode cX9_isComma 37 = .ok (.getfield 108, 3) := by decide +kernel
theorem dX9_isComma_40 : decode cX9_isComma 40 = .ok (.putfield 108, 3) := by decide +kernel
theorem dX9_isComma_43 : decode cX9_isComma 43 = .ok (.aload_n 0, 1) := by decide +kernel
theorem dX9_isComma_44 : decode cX9_isComma 44 = .ok (.iconst (-1), 1) := by decide +kernel
theorem dX9_isComma_45 : decode cX9_isComma 45 = .ok (.putfield 98, 3) := by decide +kernel
theorem dX9_isComma_48 : decode cX9_isComma 48 = .ok (.iload_n 1, 1) := by decide +kernel
theorem dX9_isComma_49 : decode cX9_isComma 49 = .ok (.ireturn, 1) := by decide +kernel
theorem dX9_isSound_0 : decode cX9_isSound 0 = .ok (.iload_n 1, 1) := by decide +kernel
theorem dX9_isSound_1 : decode cX9_isSound 1 = .ok (.invokestatic 121, 3) := by decide +kernel
theorem dX9_isSound_4 : decode cX9_isSound 4 = .ok (.iconst (-1), 1) := by decide +kernel
theorem dX9_isSound_5 : decode cX9_isSound 5 = .ok (.if_icmp .eq 26, 3) := by decide +kernel
theorem dX9_isSound_8 : decode cX9_isSound 8 = .ok (.aload_n 0, 1) := by decide +kernel
theorem dX9_isSound_9 : decode cX9_isSound 9 = .ok (.getfield 95, 3) := by decide +kernel
theorem dX9_isSound_12 : decode cX9_isSound 12 = .ok (.aload_n 0, 1) := by decide +kernel
theorem dX9_isSound_13 : decode cX9_isSound 13 = .ok (.getfield 98, 3) := by decide +kernel
theorem dX9_isSound_16 : decode cX9_isSound 16 = .ok (.iconst 1, 1) := by decide +kernel
theorem dX9_isSound_17 : decode cX9_isSound 17 = .ok (.if_icmp .ne 7, 3) := by decide +kernel
theorem dX9_isSound_20 : decode cX9_isSound 20 = .ok (.iconst 4, 1) := by decide +kernel
theorem dX9_isSound_21 : decode cX9_isSound 21 = .ok (.goto 7, 3) := by decide +kernel
theorem dX9_isSound_24 : decode cX9_isSound 24 = .ok (.aload_n 0, 1) := by decide +kernel
theorem dX9_isSound_25 : decode cX9_isSound 25 = .ok (.getfield 101, 3) := by decide +kernel
theorem dX9_isSound_28 : decode cX9_isSound 28 = .ok (.if_icmp .ne 5, 3) := by decide +kernel
theorem dX9_isSound_31 : decode cX9_isSound 31 = .ok (.iconst 0, 1) := by decide +kernel
theorem dX9_isSound_32 : decode cX9_isSound 32 = .ok (.ireturn, 1) := by decide +kernel
theorem dX9_isSound_33 : decode cX9_isSound 33 = .ok (.aload_n 0, 1) := by decide +kernel
theorem dX9_isSound_34 : decode cX9_isSound 34 = .ok (.getfield 19, 3) := by decide +kernel
theorem dX9_isSound_37 : decode cX9_isSound 37 = .ok (.bipush 16, 2) := by decide +kernel
theorem dX9_isSound_39 : decode cX9_isSound 39 = .ok (.aload_n 0, 1) := by decide +kernel
theorem dX9_isSound_40 : decode cX9_isSound 40 = .ok (.getfield 115, 3) := by decide +kernel
theorem dX9_isSound_43 : decode cX9_isSound 43 = .ok (.iconst 1, 1) := by decide +kernel
theorem dX9_isSound_44 : decode cX9_isSound 44 = .ok (.isub, 1) := by decide +kernel
theorem dX9_isSound_45 : decode cX9_isSound 45 = .ok (.imul, 1) := by decide +kernel
theorem dX9_isSound_46 : decode cX9_isSound 46 = .ok (.iconst 4, 1) := by decide +kernel
theorem dX9_isSound_47 : decode cX9_isSound 47 = .ok (.aload_n 0, 1) := by decide +kernel
theorem dX9_isSound_48 : decode cX9_isSound 48 = .ok (.getfield 98, 3) := by decide +kernel
theorem dX9_isSound_51 : decode cX9_isSound 51 = .ok (.iconst 1, 1) := by decide +kernel
theorem dX9_isSound_52 : decode cX9_isSound 52 = .ok (.isub, 1) := by decide +kernel
theorem dX9_isSound_53 : decode cX9_isSound 53 = .ok (.imul, 1) := by decide +kernel
theorem dX9_isSound_54 : decode cX9_isSound 54 = .ok (.iadd, 1) := by decide +kernel
theorem dX9_isSound_55 : decode cX9_isSound 55 = .ok (.aload_n 0, 1) := by decide +kernel
theorem dX9_isSound_56 : decode cX9_isSound 56 = .ok (.getfield 95, 3) := by decide +kernel
theorem dX9_isSound_59 : decode cX9_isSound 59 = .ok (.iadd, 1) := by decide +kernel
theorem dX9_isSound_60 : decode cX9_isSound 60 = .ok (.iload_n 1, 1) := by decide +kernel
theorem dX9_isSound_61 : decode cX9_isSound 61 = .ok (.invokestatic 121, 3) := by decide +kernel
theorem dX9_isSound_64 : decode cX9_isSound 64 = .ok (.iastore, 1) := by decide +kernel
theorem dX9_isSound_65 : decode cX9_isSound 65 = .ok (.aload_n 0, 1) := by decide +kernel
theorem dX9_isSound_66 : decode cX9_isSound 66 = .ok (.dup, 1) := by decide +kernel
theorem dX9_isSound_67 : decode cX9_isSound 67 = .ok (.getfield 95, 3) := by decide +kernel
theorem dX9_isSound_70 : decode cX9_isSound 70 = .ok (.iconst 1, 1) := by decide +kernel
theorem dX9_isSound_71 : decode cX9_isSound 71 = .ok (.iadd, 1) := by decide +kernel
theorem dX9_isSound_72 : decode cX9_isSound 72 = .ok (.putfield 95, 3) := by decide +kernel
theorem dX9_isSound_75 : decode cX9_isSound 75 = .ok (.aload_n 0, 1) := by decide +kernel
theorem dX9_isSound_76 : decode cX9_isSound 76 = .ok (.getfield 16, 3) := by decide +kernel
theorem dX9_isSound_79 : decode cX9_isSound 79 = .ok (.aload_n 0, 1) := by decide +kernel
theorem dX9_isSound_80 : decode cX9_isSound 80 = .ok (.getfield 115, 3) := by decide +kernel
theorem dX9_isSound_83 : decode cX9_isSound 83 = .ok (.iconst 1, 1) := by decide +kernel
theorem dX9_isSound_84 : decode cX9_isSound 84 = .ok (.isub, 1) := by decide +kernel
theorem dX9_isSound_85 : decode cX9_isSound 85 = .ok (.aload_n 0, 1) := by decide +kernel
theorem dX9_isSound_86 : decode cX9_isSound 86 = .ok (.getfield 95, 3) := by decide +kernel
theorem dX9_isSound_89 : decode cX9_isSound 89 = .ok (.iastore, 1) := by decide +kernel
theorem dX9_isSound_90 : decode cX9_isSound 90 = .ok (.iconst 1, 1) := by decide +kernel
theorem dX9_isSound_91 : decode cX9_isSound 91 = .ok (.ireturn, 1) := by decide +kernel
theorem dX9_isGood_0 : decode cX9_isGood 0 = .ok (.aload_n 0, 1) := by decide +kernel
theorem dX9_isGood_1 : decode cX9_isGood 1 = .ok (.getfield 98, 3) := by decide +kernel
theorem dX9_isGood_4 : decode cX9_isGood 4 = .ok (.iconst (-1), 1) := by decide +kernel
theorem dX9_isGood_5 : decode cX9_isGood 5 = .ok (.if_icmp .ne 9, 3) := by decide +kernel
theorem dX9_isGood_8 : decode cX9_isGood 8 = .ok (.aload_n 0, 1) := by decide +kernel
theorem dX9_isGood_9 : decode cX9_isGood 9 = .ok (.iload_n 1, 1) := by decide +kernel
theorem dX9_isGood_10 : decode cX9_isGood 10 = .ok (.invokevirtual 124, 3) := by decide +kernel
theorem dX9_isGood_13 : decode cX9_isGood 13 = .ok (.ireturn, 1) := by decide +kernel
theorem dX9_isGood_14 : decode cX9_isGood 14 = .ok (.iload_n 1, 1) := by decide +kernel
theorem dX9_isGood_15 : decode cX9_isGood 15 = .ok (.bipush 47, 2) := by decide +kernel
theorem dX9_isGood_17 : decode cX9_isGood 17 = .ok (.if_icmp .ne 10, 3) := by decide +kernel
theorem dX9_isGood_20 : decode cX9_isGood 20 = .ok (.aload_n 0, 1) := by decide +kernel
theorem dX9_isGood_21 : decode cX9_isGood 21 = .ok (.invokevirtual 128, 3) := by decide +kernel
theorem dX9_isGood_24 : decode cX9_isGood 24 = .ok (.goto 21, 3) := by decide +kernel
theorem dX9_isGood_27 : decode cX9_isGood 27 = .ok (.iload_n 1, 1) := by decide +kernel
theorem dX9_isGood_28 : decode cX9_isGood 28 = .ok (.bipush 44, 2) := by decide +kernel
theorem dX9_isGood_30 : decode cX9_isGood 30 = .ok (.if_icmp .ne 10, 3) := by decide +kernel
theorem dX9_isGood_33 : decode cX9_isGood 33 = .ok (.aload_n 0, 1) := by decide +kernel
theorem dX9_isGood_34 : decode cX9_isGood 34 = .ok (.invokevirtual 131, 3) := by decide +kernel
theorem dX9_isGood_37 : decode cX9_isGood 37 = .ok (.goto 8, 3) := by decide +kernel
theorem dX9_isGood_40 : decode cX9_isGood 40 = .ok (.aload_n 0, 1) := by decide +kernel
theorem dX9_isGood_41 : decode cX9_isGood 41 = .ok (.iload_n 1, 1) := by decide +kernel
theorem dX9_isGood_42 : decode cX9_isGood 42 = .ok (.invokevirtual 134, 3) := by decide +kernel
theorem dX9_isGood_45 : decode cX9_isGood 45 = .ok (.ireturn, 1) := by decide +kernel
theorem dX9_faultOf_0 : decode cX9_faultOf 0 = .ok (.aload_n 0, 1) := by decide +kernel
theorem dX9_faultOf_1 : decode cX9_faultOf 1 = .ok (.iconst 0, 1) := by decide +kernel
theorem dX9_faultOf_2 : decode cX9_faultOf 2 = .ok (.putfield 115, 3) := by decide +kernel
theorem dX9_faultOf_5 : decode cX9_faultOf 5 = .ok (.aload_n 0, 1) := by decide +kernel
theorem dX9_faultOf_6 : decode cX9_faultOf 6 = .ok (.iconst (-1), 1) := by decide +kernel
theorem dX9_faultOf_7 : decode cX9_faultOf 7 = .ok (.putfield 98, 3) := by decide +kernel
theorem dX9_faultOf_10 : decode cX9_faultOf 10 = .ok (.aload_n 0, 1) := by decide +kernel
theorem dX9_faultOf_11 : decode cX9_faultOf 11 = .ok (.iconst 0, 1) := by decide +kernel
theorem dX9_faultOf_12 : decode cX9_faultOf 12 = .ok (.putfield 108, 3) := by decide +kernel
theorem dX9_faultOf_15 : decode cX9_faultOf 15 = .ok (.iconst 0, 1) := by decide +kernel
theorem dX9_faultOf_16 : decode cX9_faultOf 16 = .ok (.istore_n 1, 1) := by decide +kernel
theorem dX9_faultOf_17 : decode cX9_faultOf 17 = .ok (.iload_n 1, 1) := by decide +kernel
theorem dX9_faultOf_18 : decode cX9_faultOf 18 = .ok (.aload_n 0, 1) := by decide +kernel
theorem dX9_faultOf_19 : decode cX9_faultOf 19 = .ok (.getfield 92, 3) := by decide +kernel
theorem dX9_faultOf_22 : decode cX9_faultOf 22 = .ok (.if_icmp .ge 22, 3) := by decide +kernel
theorem dX9_faultOf_25 : decode cX9_faultOf 25 = .ok (.aload_n 0, 1) := by decide +kernel
theorem dX9_faultOf_26 : decode cX9_faultOf 26 = .ok (.aload_n 0, 1) := by decide +kernel
theorem dX9_faultOf_27 : decode cX9_faultOf 27 = .ok (.getfield 7, 3) := by decide +kernel
theorem dX9_faultOf_30 : decode cX9_faultOf 30 = .ok (.iload_n 1, 1) := by decide +kernel
theorem dX9_faultOf_31 : decode cX9_faultOf 31 = .ok (.iaload, 1) := by decide +kernel
theorem dX9_faultOf_32 : decode cX9_faultOf 32 = .ok (.invokevirtual 137, 3) := by decide +kernel
theorem dX9_faultOf_35 : decode cX9_faultOf 35 = .ok (.ifCond .eq 9, 3) := by decide +kernel
theorem dX9_faultOf_38 : decode cX9_faultOf 38 = .ok (.iinc 1 1, 3) := by decide +kernel
theorem dX9_faultOf_41 : decode cX9_faultOf 41 = .ok (.goto (-24), 3) := by decide +kernel
theorem dX9_faultOf_44 : decode cX9_faultOf 44 = .ok (.iload_n 1, 1) := by decide +kernel
theorem dX9_faultOf_45 : decode cX9_faultOf 45 = .ok (.ireturn, 1) := by decide +kernel
theorem dX9_fault_0 : decode cX9_fault 0 = .ok (.aload_n 0, 1) := by decide +kernel
theorem dX9_fault_1 : decode cX9_fault 1 = .ok (.invokevirtual 140, 3) := by decide +kernel
theorem dX9_fault_4 : decode cX9_fault 4 = .ok (.ireturn, 1) := by decide +kernel
theorem dX9_isMute_0 : decode cX9_isMute 0 = .ok (.iconst 0, 1) := by decide +kernel
theorem dX9_isMute_1 : decode cX9_isMute 1 = .ok (.istore_n 1, 1) := by decide +kernel
theorem dX9_isMute_2 : decode cX9_isMute 2 = .ok (.iconst 0, 1) := by decide +kernel
theorem dX9_isMute_3 : decode cX9_isMute 3 = .ok (.istore_n 2, 1) := by decide +kernel
theorem dX9_isMute_4 : decode cX9_isMute 4 = .ok (.iload_n 2, 1) := by decide +kernel
theorem dX9_isMute_5 : decode cX9_isMute 5 = .ok (.aload_n 0, 1) := by decide +kernel
theorem dX9_isMute_6 : decode cX9_isMute 6 = .ok (.getfield 115, 3) := by decide +kernel
theorem dX9_isMute_9 : decode cX9_isMute 9 = .ok (.if_icmp .ge 94, 3) := by decide +kernel
theorem dX9_isMute_12 : decode cX9_isMute 12 = .ok (.iconst 0, 1) := by decide +kernel
theorem dX9_isMute_13 : decode cX9_isMute 13 = .ok (.istore_n 3, 1) := by decide +kernel
theorem dX9_isMute_14 : decode cX9_isMute 14 = .ok (.iload_n 3, 1) := by decide +kernel
theorem dX9_isMute_15 : decode cX9_isMute 15 = .ok (.aload_n 0, 1) := by decide +kernel
theorem dX9_isMute_16 : decode cX9_isMute 16 = .ok (.getfield 98, 3) := by decide +kernel
theorem dX9_isMute_19 : decode cX9_isMute 19 = .ok (.if_icmp .ge 78, 3) := by decide +kernel
theorem dX9_isMute_22 : decode cX9_isMute 22 = .ok (.iconst 1, 1) := by decide +kernel
theorem dX9_isMute_23 : decode cX9_isMute 23 = .ok (.istore 4, 2) := by decide +kernel
theorem dX9_isMute_25 : decode cX9_isMute 25 = .ok (.iconst 0, 1) := by decide +kernel
theorem dX9_isMute_26 : decode cX9_isMute 26 = .ok (.istore 5, 2) := by decide +kernel
theorem dX9_isMute_28 : decode cX9_isMute 28 = .ok (.iload 5, 2) := by decide +kernel
theorem dX9_isMute_30 : decode cX9_isMute 30 = .ok (.aload_n 0, 1) := by decide +kernel
theorem dX9_isMute_31 : decode cX9_isMute 31 = .ok (.getfield 16, 3) := by decide +kernel
theorem dX9_isMute_34 : decode cX9_isMute 34 = .ok (.iload_n 2, 1) := by decide +kernel
theorem dX9_isMute_35 : decode cX9_isMute 35 = .ok (.iaload, 1) := by decide +kernel
theorem dX9_isMute_36 : decode cX9_isMute 36 = .ok (.if_icmp .ge 40, 3) := by decide +kernel
theorem dX9_isMute_39 : decode cX9_isMute 39 = .ok (.iload 4, 2) := by decide +kernel
theorem dX9_isMute_41 : decode cX9_isMute 41 = .ok (.ifCond .eq 26, 3) := by decide +kernel
theorem dX9_isMute_44 : decode cX9_isMute 44 = .ok (.aload_n 0, 1) := by decide +kernel
theorem dX9_isMute_45 : decode cX9_isMute 45 = .ok (.getfield 19, 3) := by decide +kernel
theorem dX9_isMute_48 : decode cX9_isMute 48 = .ok (.bipush 16, 2) := by decide +kernel
theorem dX9_isMute_50 : decode cX9_isMute 50 = .ok (.iload_n 2, 1) := by decide +kernel
theorem dX9_isMute_51 : decode cX9_isMute 51 = .ok (.imul, 1) := by decide +kernel
theorem dX9_isMute_52 : decode cX9_isMute 52 = .ok (.iconst 4, 1) := by decide +kernel
theorem dX9_isMute_53 : decode cX9_isMute 53 = .ok (.iload_n 3, 1) := by decide +kernel
theorem dX9_isMute_54 : decode cX9_isMute 54 = .ok (.imul, 1) := by decide +kernel
theorem dX9_isMute_55 : decode cX9_isMute 55 = .ok (.iadd, 1) := by decide +kernel
theorem dX9_isMute_56 : decode cX9_isMute 56 = .ok (.iload 5, 2) := by decide +kernel
theorem dX9_isMute_58 : decode cX9_isMute 58 = .ok (.iadd, 1) := by decide +kernel
theorem dX9_isMute_59 : decode cX9_isMute 59 = .ok (.iaload, 1) := by decide +kernel
theorem dX9_isMute_60 : decode cX9_isMute 60 = .ok (.ifCond .ne 7, 3) := by decide +kernel
theorem dX9_isMute_63 : decode cX9_isMute 63 = .ok (.iconst 1, 1) := by decide +kernel
theorem dX9_isMute_64 : decode cX9_isMute 64 = .ok (.goto 4, 3) := by decide +kernel
theorem dX9_isMute_67 : decode cX9_isMute 67 = .ok (.iconst 0, 1) := by decide +kernel
theorem dX9_isMute_68 : decode cX9_isMute 68 = .ok (.istore 4, 2) := by decide +kernel
theorem dX9_isMute_70 : decode cX9_isMute 70 = .ok (.iinc 5 1, 3) := by decide +kernel
theorem dX9_isMute_73 : decode cX9_isMute 73 = .ok (.goto (-45), 3) := by decide +kernel
theorem dX9_isMute_76 : decode cX9_isMute 76 = .ok (.iload_n 1, 1) := by decide +kernel
theorem dX9_isMute_77 : decode cX9_isMute 77 = .ok (.ifCond .ne 8, 3) := by decide +kernel
theorem dX9_isMute_80 : decode cX9_isMute 80 = .ok (.iload 4, 2) := by decide +kernel
theorem dX9_isMute_82 : decode cX9_isMute 82 = .ok (.ifCond .eq 7, 3) := by decide +kernel
theorem dX9_isMute_85 : decode cX9_isMute 85 = .ok (.iconst 1, 1) := by decide +kernel
theorem dX9_isMute_86 : decode cX9_isMute 86 = .ok (.goto 4, 3) := by decide +kernel
theorem dX9_isMute_89 : decode cX9_isMute 89 = .ok (.iconst 0, 1) := by decide +kernel
theorem dX9_isMute_90 : decode cX9_isMute 90 = .ok (.istore_n 1, 1) := by decide +kernel
theorem dX9_isMute_91 : decode cX9_isMute 91 = .ok (.iinc 3 1, 3) := by decide +kernel
theorem dX9_isMute_94 : decode cX9_isMute 94 = .ok (.goto (-80), 3) := by decide +kernel
theorem dX9_isMute_97 : decode cX9_isMute 97 = .ok (.iinc 2 1, 3) := by decide +kernel
theorem dX9_isMute_100 : decode cX9_isMute 100 = .ok (.goto (-96), 3) := by decide +kernel
theorem dX9_isMute_103 : decode cX9_isMute 103 = .ok (.iload_n 1, 1) := by decide +kernel
theorem dX9_isMute_104 : decode cX9_isMute 104 = .ok (.ireturn, 1) := by decide +kernel
theorem dX9_sets_0 : decode cX9_sets 0 = .ok (.aload_n 0, 1) := by decide +kernel
theorem dX9_sets_1 : decode cX9_sets 1 = .ok (.invokevirtual 140, 3) := by decide +kernel
theorem dX9_sets_4 : decode cX9_sets 4 = .ok (.aload_n 0, 1) := by decide +kernel
theorem dX9_sets_5 : decode cX9_sets 5 = .ok (.getfield 92, 3) := by decide +kernel
theorem dX9_sets_8 : decode cX9_sets 8 = .ok (.if_icmp .lt 25, 3) := by decide +kernel
theorem dX9_sets_11 : decode cX9_sets 11 = .ok (.aload_n 0, 1) := by decide +kernel
theorem dX9_sets_12 : decode cX9_sets 12 = .ok (.getfield 98, 3) := by decide +kernel
theorem dX9_sets_15 : decode cX9_sets 15 = .ok (.iconst (-1), 1) := by decide +kernel
theorem dX9_sets_16 : decode cX9_sets 16 = .ok (.if_icmp .eq 17, 3) := by decide +kernel
theorem dX9_sets_19 : decode cX9_sets 19 = .ok (.aload_n 0, 1) := by decide +kernel
theorem dX9_sets_20 : decode cX9_sets 20 = .ok (.invokevirtual 118, 3) := by decide +kernel
theorem dX9_sets_23 : decode cX9_sets 23 = .ok (.ifCond .eq 10, 3) := by decide +kernel
theorem dX9_sets_26 : decode cX9_sets 26 = .ok (.aload_n 0, 1) := by decide +kernel
theorem dX9_sets_27 : decode cX9_sets 27 = .ok (.invokevirtual 144, 3) := by decide +kernel
theorem dX9_sets_30 : decode cX9_sets 30 = .ok (.ifCond .eq 6, 3) := by decide +kernel
theorem dX9_sets_33 : decode cX9_sets 33 = .ok (.bipush (-103), 2) := by decide +kernel
theorem dX9_sets_35 : decode cX9_sets 35 = .ok (.ireturn, 1) := by decide +kernel
theorem dX9_sets_36 : decode cX9_sets 36 = .ok (.aload_n 0, 1) := by decide +kernel
theorem dX9_sets_37 : decode cX9_sets 37 = .ok (.aload_n 0, 1) := by decide +kernel
theorem dX9_sets_38 : decode cX9_sets 38 = .ok (.getfield 115, 3) := by decide +kernel
theorem dX9_sets_41 : decode cX9_sets 41 = .ok (.putfield 147, 3) := by decide +kernel
theorem dX9_sets_44 : decode cX9_sets 44 = .ok (.aload_n 0, 1) := by decide +kernel
theorem dX9_sets_45 : decode cX9_sets 45 = .ok (.aload_n 0, 1) := by decide +kernel
theorem dX9_sets_46 : decode cX9_sets 46 = .ok (.getfield 98, 3) := by decide +kernel
theorem dX9_sets_49 : decode cX9_sets 49 = .ok (.putfield 150, 3) := by decide +kernel
theorem dX9_sets_52 : decode cX9_sets 52 = .ok (.iconst 0, 1) := by decide +kernel
theorem dX9_sets_53 : decode cX9_sets 53 = .ok (.istore_n 1, 1) := by decide +kernel
theorem dX9_sets_54 : decode cX9_sets 54 = .ok (.iload_n 1, 1) := by decide +kernel
theorem dX9_sets_55 : decode cX9_sets 55 = .ok (.aload_n 0, 1) := by decide +kernel
theorem dX9_sets_56 : decode cX9_sets 56 = .ok (.getfield 147, 3) := by decide +kernel
theorem dX9_sets_59 : decode cX9_sets 59 = .ok (.if_icmp .ge 33, 3) := by decide +kernel
theorem dX9_sets_62 : decode cX9_sets 62 = .ok (.aload_n 0, 1) := by decide +kernel
theorem dX9_sets_63 : decode cX9_sets 63 = .ok (.getfield 22, 3) := by decide +kernel
theorem dX9_sets_66 : decode cX9_sets 66 = .ok (.iload_n 1, 1) := by decide +kernel
theorem dX9_sets_67 : decode cX9_sets 67 = .ok (.aload_n 0, 1) := by decide +kernel
theorem dX9_sets_68 : decode cX9_sets 68 = .ok (.getfield 13, 3) := by decide +kernel
theorem dX9_sets_71 : decode cX9_sets 71 = .ok (.iload_n 1, 1) := by decide +kernel
theorem dX9_sets_72 : decode cX9_sets 72 = .ok (.iaload, 1) := by decide +kernel
theorem dX9_sets_73 : decode cX9_sets 73 = .ok (.iastore, 1) := by decide +kernel
theorem dX9_sets_74 : decode cX9_sets 74 = .ok (.aload_n 0, 1) := by decide +kernel
theorem dX9_sets_75 : decode cX9_sets 75 = .ok (.getfield 25, 3) := by decide +kernel
theorem dX9_sets_78 : decode cX9_sets 78 = .ok (.iload_n 1, 1) := by decide +kernel
theorem dX9_sets_79 : decode cX9_sets 79 = .ok (.aload_n 0, 1) := by decide +kernel
theorem dX9_sets_80 : decode cX9_sets 80 = .ok (.getfield 16, 3) := by decide +kernel
theorem dX9_sets_83 : decode cX9_sets 83 = .ok (.iload_n 1, 1) := by decide +kernel
theorem dX9_sets_84 : decode cX9_sets 84 = .ok (.iaload, 1) := by decide +kernel
theorem dX9_sets_85 : decode cX9_sets 85 = .ok (.iastore, 1) := by decide +kernel
theorem dX9_sets_86 : decode cX9_sets 86 = .ok (.iinc 1 1, 3) := by decide +kernel
theorem dX9_sets_89 : decode cX9_sets 89 = .ok (.goto (-35), 3) := by decide +kernel
theorem dX9_sets_92 : decode cX9_sets 92 = .ok (.iconst 0, 1) := by decide +kernel
theorem dX9_sets_93 : decode cX9_sets 93 = .ok (.istore_n 1, 1) := by decide +kernel
theorem dX9_sets_94 : decode cX9_sets 94 = .ok (.iload_n 1, 1) := by decide +kernel
theorem dX9_sets_95 : decode cX9_sets 95 = .ok (.bipush 80, 2) := by decide +kernel
theorem dX9_sets_97 : decode cX9_sets 97 = .ok (.if_icmp .ge 21, 3) := by decide +kernel
theorem dX9_sets_100 : decode cX9_sets 100 = .ok (.aload_n 0, 1) := by decide +kernel
theorem dX9_sets_101 : decode cX9_sets 101 = .ok (.getfield 28, 3) := by decide +kernel
theorem dX9_sets_104 : decode cX9_sets 104 = .ok (.iload_n 1, 1) := by decide +kernel
theorem dX9_sets_105 : decode cX9_sets 105 = .ok (.aload_n 0, 1) := by decide +kernel
theorem dX9_sets_106 : decode cX9_sets 106 = .ok (.getfield 19, 3) := by decide +kernel
theorem dX9_sets_109 : decode cX9_sets 109 = .ok (.iload_n 1, 1) := by decide +kernel
theorem dX9_sets_110 : decode cX9_sets 110 = .ok (.iaload, 1) := by decide +kernel
theorem dX9_sets_111 : decode cX9_sets 111 = .ok (.iastore, 1) := by decide +kernel
theorem dX9_sets_112 : decode cX9_sets 112 = .ok (.iinc 1 1, 3) := by decide +kernel
theorem dX9_sets_115 : decode cX9_sets 115 = .ok (.goto (-21), 3) := by decide +kernel
theorem dX9_sets_118 : decode cX9_sets 118 = .ok (.aload_n 0, 1) := by decide +kernel
theorem dX9_sets_119 : decode cX9_sets 119 = .ok (.iconst 1, 1) := by decide +kernel
theorem dX9_sets_120 : decode cX9_sets 120 = .ok (.putfield 153, 3) := by decide +kernel
theorem dX9_sets_123 : decode cX9_sets 123 = .ok (.aload_n 0, 1) := by decide +kernel
theorem dX9_sets_124 : decode cX9_sets 124 = .ok (.iconst 0, 1) := by decide +kernel
theorem dX9_sets_125 : decode cX9_sets 125 = .ok (.putfield 157, 3) := by decide +kernel
theorem dX9_sets_128 : decode cX9_sets 128 = .ok (.aload_n 0, 1) := by decide +kernel
theorem dX9_sets_129 : decode cX9_sets 129 = .ok (.dup, 1) := by decide +kernel
theorem dX9_sets_130 : decode cX9_sets 130 = .ok (.getfield 160, 3) := by decide +kernel
theorem dX9_sets_133 : decode cX9_sets 133 = .ok (.iconst 1, 1) := by decide +kernel
theorem dX9_sets_134 : decode cX9_sets 134 = .ok (.iadd, 1) := by decide +kernel
theorem dX9_sets_135 : decode cX9_sets 135 = .ok (.putfield 160, 3) := by decide +kernel
theorem dX9_sets_138 : decode cX9_sets 138 = .ok (.aload_n 0, 1) := by decide +kernel
theorem dX9_sets_139 : decode cX9_sets 139 = .ok (.iconst 0, 1) := by decide +kernel
theorem dX9_sets_140 : decode cX9_sets 140 = .ok (.putfield 92, 3) := by decide +kernel
theorem dX9_sets_143 : decode cX9_sets 143 = .ok (.aload_n 0, 1) := by decide +kernel
theorem dX9_sets_144 : decode cX9_sets 144 = .ok (.getfield 147, 3) := by decide +kernel
theorem dX9_sets_147 : decode cX9_sets 147 = .ok (.ireturn, 1) := by decide +kernel
theorem dX9_lacks_0 : decode cX9_lacks 0 = .ok (.aload_n 0, 1) := by decide +kernel
theorem dX9_lacks_1 : decode cX9_lacks 1 = .ok (.getfield 147, 3) := by decide +kernel
theorem dX9_lacks_4 : decode cX9_lacks 4 = .ok (.ifCond .ne 7, 3) := by decide +kernel
theorem dX9_lacks_7 : decode cX9_lacks 7 = .ok (.iconst 1, 1) := by decide +kernel
theorem dX9_lacks_8 : decode cX9_lacks 8 = .ok (.goto 4, 3) := by decide +kernel
theorem dX9_lacks_11 : decode cX9_lacks 11 = .ok (.iconst 0, 1) := by decide +kernel
theorem dX9_lacks_12 : decode cX9_lacks 12 = .ok (.ireturn, 1) := by decide +kernel
theorem dX9_isSet_0 : decode cX9_isSet 0 = .ok (.iload_n 1, 1) := by decide +kernel
theorem dX9_isSet_1 : decode cX9_isSet 1 = .ok (.i2l, 1) := by decide +kernel
theorem dX9_isSet_2 : decode cX9_isSet 2 = .ok (.lconst 0, 1) := by decide +kernel
theorem dX9_isSet_3 : decode cX9_isSet 3 = .ok (.aload_n 0, 1) := by decide +kernel
theorem dX9_isSet_4 : decode cX9_isSet 4 = .ok (.getfield 147, 3) := by decide +kernel
theorem dX9_isSet_7 : decode cX9_isSet 7 = .ok (.iconst 1, 1) := by decide +kernel
theorem dX9_isSet_8 : decode cX9_isSet 8 = .ok (.isub, 1) := by decide +kernel
theorem dX9_isSet_9 : decode cX9_isSet 9 = .ok (.i2l, 1) := by decide +kernel
theorem dX9_isSet_10 : decode cX9_isSet 10 = .ok (.invokestatic 88, 3) := by decide +kernel
theorem dX9_isSet_13 : decode cX9_isSet 13 = .ok (.ireturn, 1) := by decide +kernel
theorem dX9_isTongue_0 : decode cX9_isTongue 0 = .ok (.iload_n 1, 1) := by decide +kernel
theorem dX9_isTongue_1 : decode cX9_isTongue 1 = .ok (.i2l, 1) := by decide +kernel
theorem dX9_isTongue_2 : decode cX9_isTongue 2 = .ok (.lconst 0, 1) := by decide +kernel
theorem dX9_isTongue_3 : decode cX9_isTongue 3 = .ok (.aload_n 0, 1) := by decide +kernel
theorem dX9_isTongue_4 : decode cX9_isTongue 4 = .ok (.getfield 150, 3) := by decide +kernel
theorem dX9_isTongue_7 : decode cX9_isTongue 7 = .ok (.iconst 1, 1) := by decide +kernel
theorem dX9_isTongue_8 : decode cX9_isTongue 8 = .ok (.isub, 1) := by decide +kernel
theorem dX9_isTongue_9 : decode cX9_isTongue 9 = .ok (.i2l, 1) := by decide +kernel
theorem dX9_isTongue_10 : decode cX9_isTongue 10 = .ok (.invokestatic 88, 3) := by decide +kernel
theorem dX9_isTongue_13 : decode cX9_isTongue 13 = .ok (.ireturn, 1) := by decide +kernel
theorem dX9_isPlace_0 : decode cX9_isPlace 0 = .ok (.aload_n 0, 1) := by decide +kernel
theorem dX9_isPlace_1 : decode cX9_isPlace 1 = .ok (.iload_n 1, 1) := by decide +kernel
theorem dX9_isPlace_2 : decode cX9_isPlace 2 = .ok (.invokevirtual 163, 3) := by decide +kernel
theorem dX9_isPlace_5 : decode cX9_isPlace 5 = .ok (.ifCond .eq 25, 3) := by decide +kernel
theorem dX9_isPlace_8 : decode cX9_isPlace 8 = .ok (.iload_n 2, 1) := by decide +kernel
theorem dX9_isPlace_9 : decode cX9_isPlace 9 = .ok (.i2l, 1) := by decide +kernel
theorem dX9_isPlace_10 : decode cX9_isPlace 10 = .ok (.lconst 0, 1) := by decide +kernel
theorem dX9_isPlace_11 : decode cX9_isPlace 11 = .ok (.aload_n 0, 1) := by decide +kernel
theorem dX9_isPlace_12 : decode cX9_isPlace 12 = .ok (.getfield 25, 3) := by decide +kernel
theorem dX9_isPlace_15 : decode cX9_isPlace 15 = .ok (.iload_n 1, 1) := by decide +kernel
theorem dX9_isPlace_16 : decode cX9_isPlace 16 = .ok (.iaload, 1) := by decide +kernel
theorem dX9_isPlace_17 : decode cX9_isPlace 17 = .ok (.iconst 1, 1) := by decide +kernel
theorem dX9_isPlace_18 : decode cX9_isPlace 18 = .ok (.isub, 1) := by decide +kernel
theorem dX9_isPlace_19 : decode cX9_isPlace 19 = .ok (.i2l, 1) := by decide +kernel
theorem dX9_isPlace_20 : decode cX9_isPlace 20 = .ok (.invokestatic 88, 3) := by decide +kernel
theorem dX9_isPlace_23 : decode cX9_isPlace 23 = .ok (.ifCond .eq 7, 3) := by decide +kernel
theorem dX9_isPlace_26 : decode cX9_isPlace 26 = .ok (.iconst 1, 1) := by decide +kernel
theorem dX9_isPlace_27 : decode cX9_isPlace 27 = .ok (.goto 4, 3) := by decide +kernel
theorem dX9_isPlace_30 : decode cX9_isPlace 30 = .ok (.iconst 0, 1) := by decide +kernel
theorem dX9_isPlace_31 : decode cX9_isPlace 31 = .ok (.ireturn, 1) := by decide +kernel
theorem dX9_isVowel_0 : decode cX9_isVowel 0 = .ok (.iload_n 0, 1) := by decide +kernel
theorem dX9_isVowel_1 : decode cX9_isVowel 1 = .ok (.i2l, 1) := by decide +kernel
theorem dX9_isVowel_2 : decode cX9_isVowel 2 = .ok (.lconst 1, 1) := by decide +kernel
theorem dX9_isVowel_3 : decode cX9_isVowel 3 = .ok (.ldc2_w 166, 3) := by decide +kernel
theorem dX9_isVowel_6 : decode cX9_isVowel 6 = .ok (.invokestatic 88, 3) := by decide +kernel
theorem dX9_isVowel_9 : decode cX9_isVowel 9 = .ok (.ireturn, 1) := by decide +kernel
theorem dX9_costOf_0 : decode cX9_costOf 0 = .ok (.iload_n 0, 1) := by decide +kernel
theorem dX9_costOf_1 : decode cX9_costOf 1 = .ok (.iload_n 1, 1) := by decide +kernel
theorem dX9_costOf_2 : decode cX9_costOf 2 = .ok (.if_icmp .ne 7, 3) := by decide +kernel
theorem dX9_costOf_5 : decode cX9_costOf 5 = .ok (.iconst 0, 1) := by decide +kernel
theorem dX9_costOf_6 : decode cX9_costOf 6 = .ok (.goto 31, 3) := by decide +kernel
theorem dX9_costOf_9 : decode cX9_costOf 9 = .ok (.iload_n 0, 1) := by decide +kernel
theorem dX9_costOf_10 : decode cX9_costOf 10 = .ok (.ifCond .eq 7, 3) := by decide +kernel
theorem dX9_costOf_13 : decode cX9_costOf 13 = .ok (.iload_n 1, 1) := by decide +kernel
theorem dX9_costOf_14 : decode cX9_costOf 14 = .ok (.ifCond .ne 7, 3) := by decide +kernel
theorem dX9_costOf_17 : decode cX9_costOf 17 = .ok (.iconst 3, 1) := by decide +kernel
theorem dX9_costOf_18 : decode cX9_costOf 18 = .ok (.goto 19, 3) := by decide +kernel
theorem dX9_costOf_21 : decode cX9_costOf 21 = .ok (.iload_n 0, 1) := by decide +kernel
theorem dX9_costOf_22 : decode cX9_costOf 22 = .ok (.invokestatic 168, 3) := by decide +kernel
theorem dX9_costOf_25 : decode cX9_costOf 25 = .ok (.iload_n 1, 1) := by decide +kernel
theorem dX9_costOf_26 : decode cX9_costOf 26 = .ok (.invokestatic 168, 3) := by decide +kernel
theorem dX9_costOf_29 : decode cX9_costOf 29 = .ok (.if_icmp .ne 7, 3) := by decide +kernel
theorem dX9_costOf_32 : decode cX9_costOf 32 = .ok (.iconst 1, 1) := by decide +kernel
theorem dX9_costOf_33 : decode cX9_costOf 33 = .ok (.goto 4, 3) := by decide +kernel
theorem dX9_costOf_36 : decode cX9_costOf 36 = .ok (.iconst 2, 1) := by decide +kernel
theorem dX9_costOf_37 : decode cX9_costOf 37 = .ok (.ireturn, 1) := by decide +kernel
theorem dX9_cost_0 : decode cX9_cost 0 = .ok (.iload_n 1, 1) := by decide +kernel
theorem dX9_cost_1 : decode cX9_cost 1 = .ok (.i2l, 1) := by decide +kernel
theorem dX9_cost_2 : decode cX9_cost 2 = .ok (.lconst 0, 1) := by decide +kernel
theorem dX9_cost_3 : decode cX9_cost 3 = .ok (.ldc2_w 171, 3) := by decide +kernel
theorem dX9_cost_6 : decode cX9_cost 6 = .ok (.invokestatic 88, 3) := by decide +kernel
theorem dX9_cost_9 : decode cX9_cost 9 = .ok (.ifCond .eq 23, 3) := by decide +kernel
theorem dX9_cost_12 : decode cX9_cost 12 = .ok (.iload_n 2, 1) := by decide +kernel
theorem dX9_cost_13 : decode cX9_cost 13 = .ok (.i2l, 1) := by decide +kernel
theorem dX9_cost_14 : decode cX9_cost 14 = .ok (.lconst 0, 1) := by decide +kernel
theorem dX9_cost_15 : decode cX9_cost 15 = .ok (.ldc2_w 171, 3) := by decide +kernel
theorem dX9_cost_18 : decode cX9_cost 18 = .ok (.invokestatic 88, 3) := by decide +kernel
theorem dX9_cost_21 : decode cX9_cost 21 = .ok (.ifCond .eq 11, 3) := by decide +kernel
theorem dX9_cost_24 : decode cX9_cost 24 = .ok (.iload_n 1, 1) := by decide +kernel
theorem dX9_cost_25 : decode cX9_cost 25 = .ok (.iload_n 2, 1) := by decide +kernel
theorem dX9_cost_26 : decode cX9_cost 26 = .ok (.invokestatic 173, 3) := by decide +kernel
theorem dX9_cost_29 : decode cX9_cost 29 = .ok (.goto 5, 3) := by decide +kernel
theorem dX9_cost_32 : decode cX9_cost 32 = .ok (.bipush (-101), 2) := by decide +kernel
theorem dX9_cost_34 : decode cX9_cost 34 = .ok (.ireturn, 1) := by decide +kernel
theorem dX9_nodesBy_0 : decode cX9_nodesBy 0 = .ok (.iconst 2, 1) := by decide +kernel
theorem dX9_nodesBy_1 : decode cX9_nodesBy 1 = .ok (.iload_n 1, 1) := by decide +kernel
theorem dX9_nodesBy_2 : decode cX9_nodesBy 2 = .ok (.imul, 1) := by decide +kernel
theorem dX9_nodesBy_3 : decode cX9_nodesBy 3 = .ok (.iconst 1, 1) := by decide +kernel
theorem dX9_nodesBy_4 : decode cX9_nodesBy 4 = .ok (.isub, 1) := by decide +kernel
theorem dX9_nodesBy_5 : decode cX9_nodesBy 5 = .ok (.ireturn, 1) := by decide +kernel
theorem dX9_belowFirst_0 : decode cX9_belowFirst 0 = .ok (.iload_n 1, 1) := by decide +kernel
theorem dX9_belowFirst_1 : decode cX9_belowFirst 1 = .ok (.iload_n 0, 1) := by decide +kernel
theorem dX9_belowFirst_2 : decode cX9_belowFirst 2 = .ok (.if_icmp .ne 7, 3) := by decide +kernel
theorem dX9_belowFirst_5 : decode cX9_belowFirst 5 = .ok (.iconst 0, 1) := by decide +kernel
theorem dX9_belowFirst_6 : decode cX9_belowFirst 6 = .ok (.goto 22, 3) := by decide +kernel
theorem dX9_belowFirst_9 : decode cX9_belowFirst 9 = .ok (.iload_n 0, 1) := by decide +kernel
theorem dX9_belowFirst_10 : decode cX9_belowFirst 10 = .ok (.iconst 3, 1) := by decide +kernel
theorem dX9_belowFirst_11 : decode cX9_belowFirst 11 = .ok (.if_icmp .ne 7, 3) := by decide +kernel
theorem dX9_belowFirst_14 : decode cX9_belowFirst 14 = .ok (.iconst 3, 1) := by decide +kernel
theorem dX9_belowFirst_15 : decode cX9_belowFirst 15 = .ok (.goto 13, 3) := by decide +kernel
theorem dX9_belowFirst_18 : decode cX9_belowFirst 18 = .ok (.iload_n 1, 1) := by decide +kernel
theorem dX9_belowFirst_19 : decode cX9_belowFirst 19 = .ok (.iconst 5, 1) := by decide +kernel
theorem dX9_belowFirst_20 : decode cX9_belowFirst 20 = .ok (.if_icmp .ne 7, 3) := by decide +kernel
theorem dX9_belowFirst_23 : decode cX9_belowFirst 23 = .ok (.iconst 2, 1) := by decide +kernel
theorem dX9_belowFirst_24 : decode cX9_belowFirst 24 = .ok (.goto 4, 3) := by decide +kernel
theorem dX9_belowFirst_27 : decode cX9_belowFirst 27 = .ok (.iconst 4, 1) := by decide +kernel
theorem dX9_belowFirst_28 : decode cX9_belowFirst 28 = .ok (.ireturn, 1) := by decide +kernel
theorem dX9_belowSecond_0 : decode cX9_belowSecond 0 = .ok (.iload_n 1, 1) := by decide +kernel
theorem dX9_belowSecond_1 : decode cX9_belowSecond 1 = .ok (.iload_n 0, 1) := by decide +kernel
theorem dX9_belowSecond_2 : decode cX9_belowSecond 2 = .ok (.if_icmp .ne 7, 3) := by decide +kernel
theorem dX9_belowSecond_5 : decode cX9_belowSecond 5 = .ok (.iconst 1, 1) := by decide +kernel
theorem dX9_belowSecond_6 : decode cX9_belowSecond 6 = .ok (.goto 22, 3) := by decide +kernel
theorem dX9_belowSecond_9 : decode cX9_belowSecond 9 = .ok (.iload_n 0, 1) := by decide +kernel
theorem dX9_belowSecond_10 : decode cX9_belowSecond 10 = .ok (.iconst 3, 1) := by decide +kernel
theorem dX9_belowSecond_11 : decode cX9_belowSecond 11 = .ok (.if_icmp .ne 7, 3) := by decide +kernel
theorem dX9_belowSecond_14 : decode cX9_belowSecond 14 = .ok (.iconst 2, 1) := by decide +kernel
theorem dX9_belowSecond_15 : decode cX9_belowSecond 15 = .ok (.goto 13, 3) := by decide +kernel
theorem dX9_belowSecond_18 : decode cX9_belowSecond 18 = .ok (.iload_n 1, 1) := by decide +kernel
theorem dX9_belowSecond_19 : decode cX9_belowSecond 19 = .ok (.iconst 5, 1) := by decide +kernel
theorem dX9_belowSecond_20 : decode cX9_belowSecond 20 = .ok (.if_icmp .ne 7, 3) := by decide +kernel
theorem dX9_belowSecond_23 : decode cX9_belowSecond 23 = .ok (.iconst 3, 1) := by decide +kernel
theorem dX9_belowSecond_24 : decode cX9_belowSecond 24 = .ok (.goto 4, 3) := by decide +kernel
theorem dX9_belowSecond_27 : decode cX9_belowSecond 27 = .ok (.iconst 5, 1) := by decide +kernel
theorem dX9_belowSecond_28 : decode cX9_belowSecond 28 = .ok (.ireturn, 1) := by decide +kernel
theorem dX9_least_0 : decode cX9_least 0 = .ok (.sipush 9999, 3) := by decide +kernel
theorem dX9_least_3 : decode cX9_least 3 = .ok (.istore_n 3, 1) := by decide +kernel
theorem dX9_least_4 : decode cX9_least 4 = .ok (.iconst 0, 1) := by decide +kernel
theorem dX9_least_5 : decode cX9_least 5 = .ok (.istore 4, 2) := by decide +kernel
theorem dX9_least_7 : decode cX9_least 7 = .ok (.iload 4, 2) := by decide +kernel
theorem dX9_least_9 : decode cX9_least 9 = .ok (.bipush 9, 2) := by decide +kernel
theorem dX9_least_11 : decode cX9_least 11 = .ok (.if_icmp .ge 43, 3) := by decide +kernel
theorem dX9_least_14 : decode cX9_least 14 = .ok (.aload_n 0, 1) := by decide +kernel
theorem dX9_least_15 : decode cX9_least 15 = .ok (.getfield 31, 3) := by decide +kernel
theorem dX9_least_18 : decode cX9_least 18 = .ok (.bipush 9, 2) := by decide +kernel
theorem dX9_least_20 : decode cX9_least 20 = .ok (.iload_n 1, 1) := by decide +kernel
theorem dX9_least_21 : decode cX9_least 21 = .ok (.imul, 1) := by decide +kernel
theorem dX9_least_22 : decode cX9_least 22 = .ok (.iload 4, 2) := by decide +kernel
theorem dX9_least_24 : decode cX9_least 24 = .ok (.iadd, 1) := by decide +kernel
theorem dX9_least_25 : decode cX9_least 25 = .ok (.iaload, 1) := by decide +kernel
theorem dX9_least_26 : decode cX9_least 26 = .ok (.iload 4, 2) := by decide +kernel
theorem dX9_least_28 : decode cX9_least 28 = .ok (.iload_n 2, 1) := by decide +kernel
theorem dX9_least_29 : decode cX9_least 29 = .ok (.invokestatic 173, 3) := by decide +kernel
theorem dX9_least_32 : decode cX9_least 32 = .ok (.iadd, 1) := by decide +kernel
theorem dX9_least_33 : decode cX9_least 33 = .ok (.istore 5, 2) := by decide +kernel
theorem dX9_least_35 : decode cX9_least 35 = .ok (.iload 5, 2) := by decide +kernel
theorem dX9_least_37 : decode cX9_least 37 = .ok (.iload_n 3, 1) := by decide +kernel
theorem dX9_least_38 : decode cX9_least 38 = .ok (.if_icmp .ge 8, 3) := by decide +kernel
theorem dX9_least_41 : decode cX9_least 41 = .ok (.iload 5, 2) := by decide +kernel
theorem dX9_least_43 : decode cX9_least 43 = .ok (.goto 4, 3) := by decide +kernel
theorem dX9_least_46 : decode cX9_least 46 = .ok (.iload_n 3, 1) := by decide +kernel
theorem dX9_least_47 : decode cX9_least 47 = .ok (.istore_n 3, 1) := by decide +kernel
theorem dX9_least_48 : decode cX9_least 48 = .ok (.iinc 4 1, 3) := by decide +kernel
theorem dX9_least_51 : decode cX9_least 51 = .ok (.goto (-44), 3) := by decide +kernel
theorem dX9_least_54 : decode cX9_least 54 = .ok (.iload_n 3, 1) := by decide +kernel
theorem dX9_least_55 : decode cX9_least 55 = .ok (.ireturn, 1) := by decide +kernel
theorem dX9_layCosts_0 : decode cX9_layCosts 0 = .ok (.iconst 0, 1) := by decide +kernel
theorem dX9_layCosts_1 : decode cX9_layCosts 1 = .ok (.istore_n 2, 1) := by decide +kernel
theorem dX9_layCosts_2 : decode cX9_layCosts 2 = .ok (.iload_n 2, 1) := by decide +kernel
theorem dX9_layCosts_3 : decode cX9_layCosts 3 = .ok (.aload_n 0, 1) := by decide +kernel
theorem dX9_layCosts_4 : decode cX9_layCosts 4 = .ok (.iload_n 1, 1) := by decide +kernel
theorem dX9_layCosts_5 : decode cX9_layCosts 5 = .ok (.invokevirtual 177, 3) := by decide +kernel
theorem dX9_layCosts_8 : decode cX9_layCosts 8 = .ok (.if_icmp .ge 80, 3) := by decide +kernel
theorem dX9_layCosts_11 : decode cX9_layCosts 11 = .ok (.iconst 0, 1) := by decide +kernel
theorem dX9_layCosts_12 : decode cX9_layCosts 12 = .ok (.istore_n 3, 1) := by decide +kernel
theorem dX9_layCosts_13 : decode cX9_layCosts 13 = .ok (.iload_n 3, 1) := by decide +kernel
theorem dX9_layCosts_14 : decode cX9_layCosts 14 = .ok (.bipush 9, 2) := by decide +kernel
theorem dX9_layCosts_16 : decode cX9_layCosts 16 = .ok (.if_icmp .ge 66, 3) := by decide +kernel
theorem dX9_layCosts_19 : decode cX9_layCosts 19 = .ok (.aload_n 0, 1) := by decide +kernel
theorem dX9_layCosts_20 : decode cX9_layCosts 20 = .ok (.getfield 31, 3) := by decide +kernel
theorem dX9_layCosts_23 : decode cX9_layCosts 23 = .ok (.bipush 9, 2) := by decide +kernel
theorem dX9_layCosts_25 : decode cX9_layCosts 25 = .ok (.iload_n 2, 1) := by decide +kernel
theorem dX9_layCosts_26 : decode cX9_layCosts 26 = .ok (.imul, 1) := by decide +kernel
theorem dX9_layCosts_27 : decode cX9_layCosts 27 = .ok (.iload_n 3, 1) := by decide +kernel
theorem dX9_layCosts_28 : decode cX9_layCosts 28 = .ok (.iadd, 1) := by decide +kernel
theorem dX9_layCosts_29 : decode cX9_layCosts 29 = .ok (.iload_n 2, 1) := by decide +kernel
theorem dX9_layCosts_30 : decode cX9_layCosts 30 = .ok (.iload_n 1, 1) := by decide +kernel
theorem dX9_layCosts_31 : decode cX9_layCosts 31 = .ok (.if_icmp .ge 23, 3) := by decide +kernel
theorem dX9_layCosts_34 : decode cX9_layCosts 34 = .ok (.iload_n 3, 1) := by decide +kernel
theorem dX9_layCosts_35 : decode cX9_layCosts 35 = .ok (.aload_n 0, 1) := by decide +kernel
theorem dX9_layCosts_36 : decode cX9_layCosts 36 = .ok (.getfield 37, 3) := by decide +kernel
theorem dX9_layCosts_39 : decode cX9_layCosts 39 = .ok (.iload_n 2, 1) := by decide +kernel
theorem dX9_layCosts_40 : decode cX9_layCosts 40 = .ok (.iaload, 1) := by decide +kernel
theorem dX9_layCosts_41 : decode cX9_layCosts 41 = .ok (.if_icmp .ne 7, 3) := by decide +kernel
theorem dX9_layCosts_44 : decode cX9_layCosts 44 = .ok (.iconst 0, 1) := by decide +kernel
theorem dX9_layCosts_45 : decode cX9_layCosts 45 = .ok (.goto 30, 3) := by decide +kernel
theorem dX9_layCosts_48 : decode cX9_layCosts 48 = .ok (.sipush 999, 3) := by decide +kernel
theorem dX9_layCosts_51 : decode cX9_layCosts 51 = .ok (.goto 24, 3) := by decide +kernel
theorem dX9_layCosts_54 : decode cX9_layCosts 54 = .ok (.aload_n 0, 1) := by decide +kernel
theorem dX9_layCosts_55 : decode cX9_layCosts 55 = .ok (.iload_n 1, 1) := by decide +kernel
theorem dX9_layCosts_56 : decode cX9_layCosts 56 = .ok (.iload_n 2, 1) := by decide +kernel
theorem dX9_layCosts_57 : decode cX9_layCosts 57 = .ok (.invokestatic 180, 3) := by decide +kernel
theorem dX9_layCosts_60 : decode cX9_layCosts 60 = .ok (.iload_n 3, 1) := by decide +kernel
theorem dX9_layCosts_61 : decode cX9_layCosts 61 = .ok (.invokevirtual 183, 3) := by decide +kernel
theorem dX9_layCosts_64 : decode cX9_layCosts 64 = .ok (.aload_n 0, 1) := by decide +kernel
theorem dX9_layCosts_65 : decode cX9_layCosts 65 = .ok (.iload_n 1, 1) := by decide +kernel
theorem dX9_layCosts_66 : decode cX9_layCosts 66 = .ok (.iload_n 2, 1) := by decide +kernel
theorem dX9_layCosts_67 : decode cX9_layCosts 67 = .ok (.invokestatic 186, 3) := by decide +kernel
theorem dX9_layCosts_70 : decode cX9_layCosts 70 = .ok (.iload_n 3, 1) := by decide +kernel
theorem dX9_layCosts_71 : decode cX9_layCosts 71 = .ok (.invokevirtual 183, 3) := by decide +kernel
theorem dX9_layCosts_74 : decode cX9_layCosts 74 = .ok (.iadd, 1) := by decide +kernel
theorem dX9_layCosts_75 : decode cX9_layCosts 75 = .ok (.iastore, 1) := by decide +kernel
theorem dX9_layCosts_76 : decode cX9_layCosts 76 = .ok (.iinc 3 1, 3) := by decide +kernel
theorem dX9_layCosts_79 : decode cX9_layCosts 79 = .ok (.goto (-66), 3) := by decide +kernel
theorem dX9_layCosts_82 : decode cX9_layCosts 82 = .ok (.iinc 2 1, 3) := by decide +kernel
theorem dX9_layCosts_85 : decode cX9_layCosts 85 = .ok (.goto (-83), 3) := by decide +kernel
theorem dX9_layCosts_88 : decode cX9_layCosts 88 = .ok (.return_, 1) := by decide +kernel
theorem dX9_leastSound_0 : decode cX9_leastSound 0 = .ok (.iconst 0, 1) := by decide +kernel
theorem dX9_leastSound_1 : decode cX9_leastSound 1 = .ok (.istore_n 3, 1) := by decide +kernel
theorem dX9_leastSound_2 : decode cX9_leastSound 2 = .ok (.sipush 9999, 3) := by decide +kernel
theorem dX9_leastSound_5 : decode cX9_leastSound 5 = .ok (.istore 4, 2) := by decide +kernel
theorem dX9_leastSound_7 : decode cX9_leastSound 7 = .ok (.iconst 0, 1) := by decide +kernel
theorem dX9_leastSound_8 : decode cX9_leastSound 8 = .ok (.istore 5, 2) := by decide +kernel
theorem dX9_leastSound_10 : decode cX9_leastSound 10 = .ok (.iload 5, 2) := by decide +kernel
theorem dX9_leastSound_12 : decode cX9_leastSound 12 = .ok (.bipush 9, 2) := by decide +kernel
theorem dX9_leastSound_14 : decode cX9_leastSound 14 = .ok (.if_icmp .ge 69, 3) := by decide +kernel
theorem dX9_leastSound_17 : decode cX9_leastSound 17 = .ok (.aload_n 0, 1) := by decide +kernel
theorem dX9_leastSound_18 : decode cX9_leastSound 18 = .ok (.getfield 31, 3) := by decide +kernel
theorem dX9_leastSound_21 : decode cX9_leastSound 21 = .ok (.bipush 9, 2) := by decide +kernel
theorem dX9_leastSound_23 : decode cX9_leastSound 23 = .ok (.iload_n 1, 1) := by decide +kernel
theorem dX9_leastSound_24 : decode cX9_leastSound 24 = .ok (.imul, 1) := by decide +kernel
theorem dX9_leastSound_25 : decode cX9_leastSound 25 = .ok (.iload 5, 2) := by decide +kernel
theorem dX9_leastSound_27 : decode cX9_leastSound 27 = .ok (.iadd, 1) := by decide +kernel
theorem dX9_leastSound_28 : decode cX9_leastSound 28 = .ok (.iaload, 1) := by decide +kernel
theorem dX9_leastSound_29 : decode cX9_leastSound 29 = .ok (.iload_n 2, 1) := by decide +kernel
theorem dX9_leastSound_30 : decode cX9_leastSound 30 = .ok (.iconst (-1), 1) := by decide +kernel
theorem dX9_leastSound_31 : decode cX9_leastSound 31 = .ok (.if_icmp .ne 7, 3) := by decide +kernel
theorem dX9_leastSound_34 : decode cX9_leastSound 34 = .ok (.iconst 0, 1) := by decide +kernel
theorem dX9_leastSound_35 : decode cX9_leastSound 35 = .ok (.goto 9, 3) := by decide +kernel
theorem dX9_leastSound_38 : decode cX9_leastSound 38 = .ok (.iload 5, 2) := by decide +kernel
theorem dX9_leastSound_40 : decode cX9_leastSound 40 = .ok (.iload_n 2, 1) := by decide +kernel
theorem dX9_leastSound_41 : decode cX9_leastSound 41 = .ok (.invokestatic 173, 3) := by decide +kernel
theorem dX9_leastSound_44 : decode cX9_leastSound 44 = .ok (.iadd, 1) := by decide +kernel
theorem dX9_leastSound_45 : decode cX9_leastSound 45 = .ok (.istore 6, 2) := by decide +kernel
theorem dX9_leastSound_47 : decode cX9_leastSound 47 = .ok (.iload 6, 2) := by decide +kernel
theorem dX9_leastSound_49 : decode cX9_leastSound 49 = .ok (.iload 4, 2) := by decide +kernel
theorem dX9_leastSound_51 : decode cX9_leastSound 51 = .ok (.if_icmp .ge 8, 3) := by decide +kernel
theorem dX9_leastSound_54 : decode cX9_leastSound 54 = .ok (.iload 5, 2) := by decide +kernel
theorem dX9_leastSound_56 : decode cX9_leastSound 56 = .ok (.goto 4, 3) := by decide +kernel
theorem dX9_leastSound_59 : decode cX9_leastSound 59 = .ok (.iload_n 3, 1) := by decide +kernel
theorem dX9_leastSound_60 : decode cX9_leastSound 60 = .ok (.istore_n 3, 1) := by decide +kernel
theorem dX9_leastSound_61 : decode cX9_leastSound 61 = .ok (.iload 6, 2) := by decide +kernel
theorem dX9_leastSound_63 : decode cX9_leastSound 63 = .ok (.iload 4, 2) := by decide +kernel
theorem dX9_leastSound_65 : decode cX9_leastSound 65 = .ok (.if_icmp .ge 8, 3) := by decide +kernel
theorem dX9_leastSound_68 : decode cX9_leastSound 68 = .ok (.iload 6, 2) := by decide +kernel
theorem dX9_leastSound_70 : decode cX9_leastSound 70 = .ok (.goto 5, 3) := by decide +kernel
theorem dX9_leastSound_73 : decode cX9_leastSound 73 = .ok (.iload 4, 2) := by decide +kernel
theorem dX9_leastSound_75 : decode cX9_leastSound 75 = .ok (.istore 4, 2) := by decide +kernel
theorem dX9_leastSound_77 : decode cX9_leastSound 77 = .ok (.iinc 5 1, 3) := by decide +kernel
theorem dX9_leastSound_80 : decode cX9_leastSound 80 = .ok (.goto (-70), 3) := by decide +kernel
theorem dX9_leastSound_83 : decode cX9_leastSound 83 = .ok (.iload_n 3, 1) := by decide +kernel
theorem dX9_leastSound_84 : decode cX9_leastSound 84 = .ok (.ireturn, 1) := by decide +kernel
theorem dX9_rebuild_0 : decode cX9_rebuild 0 = .ok (.aload_n 0, 1) := by decide +kernel
theorem dX9_rebuild_1 : decode cX9_rebuild 1 = .ok (.iload_n 1, 1) := by decide +kernel
theorem dX9_rebuild_2 : decode cX9_rebuild 2 = .ok (.invokevirtual 189, 3) := by decide +kernel
theorem dX9_rebuild_5 : decode cX9_rebuild 5 = .ok (.aload_n 0, 1) := by decide +kernel
theorem dX9_rebuild_6 : decode cX9_rebuild 6 = .ok (.iload_n 1, 1) := by decide +kernel
theorem dX9_rebuild_7 : decode cX9_rebuild 7 = .ok (.invokevirtual 177, 3) := by decide +kernel
theorem dX9_rebuild_10 : decode cX9_rebuild 10 = .ok (.iconst 1, 1) := by decide +kernel
theorem dX9_rebuild_11 : decode cX9_rebuild 11 = .ok (.isub, 1) := by decide +kernel
theorem dX9_rebuild_12 : decode cX9_rebuild 12 = .ok (.istore_n 2, 1) := by decide +kernel
theorem dX9_rebuild_13 : decode cX9_rebuild 13 = .ok (.aload_n 0, 1) := by decide +kernel
theorem dX9_rebuild_14 : decode cX9_rebuild 14 = .ok (.getfield 34, 3) := by decide +kernel
theorem dX9_rebuild_17 : decode cX9_rebuild 17 = .ok (.iload_n 2, 1) := by decide +kernel
theorem dX9_rebuild_18 : decode cX9_rebuild 18 = .ok (.aload_n 0, 1) := by decide +kernel
theorem dX9_rebuild_19 : decode cX9_rebuild 19 = .ok (.iload_n 2, 1) := by decide +kernel
theorem dX9_rebuild_20 : decode cX9_rebuild 20 = .ok (.iconst (-1), 1) := by decide +kernel
theorem dX9_rebuild_21 : decode cX9_rebuild 21 = .ok (.invokevirtual 193, 3) := by decide +kernel
theorem dX9_rebuild_24 : decode cX9_rebuild 24 = .ok (.iastore, 1) := by decide +kernel
theorem dX9_rebuild_25 : decode cX9_rebuild 25 = .ok (.iload_n 2, 1) := by decide +kernel
theorem dX9_rebuild_26 : decode cX9_rebuild 26 = .ok (.istore_n 3, 1) := by decide +kernel
theorem dX9_rebuild_27 : decode cX9_rebuild 27 = .ok (.iload_n 3, 1) := by decide +kernel
theorem dX9_rebuild_28 : decode cX9_rebuild 28 = .ok (.iload_n 1, 1) := by decide +kernel
theorem dX9_rebuild_29 : decode cX9_rebuild 29 = .ok (.if_icmp .lt 59, 3) := by decide +kernel
theorem dX9_rebuild_32 : decode cX9_rebuild 32 = .ok (.aload_n 0, 1) := by decide +kernel
theorem dX9_rebuild_33 : decode cX9_rebuild 33 = .ok (.getfield 34, 3) := by decide +kernel
theorem dX9_rebuild_36 : decode cX9_rebuild 36 = .ok (.iload_n 1, 1) := by decide +kernel
theorem dX9_rebuild_37 : decode cX9_rebuild 37 = .ok (.iload_n 3, 1) := by decide +kernel
theorem dX9_rebuild_38 : decode cX9_rebuild 38 = .ok (.invokestatic 180, 3) := by decide +kernel
theorem dX9_rebuild_41 : decode cX9_rebuild 41 = .ok (.aload_n 0, 1) := by decide +kernel
theorem dX9_rebuild_42 : decode cX9_rebuild 42 = .ok (.iload_n 1, 1) := by decide +kernel
theorem dX9_rebuild_43 : decode cX9_rebuild 43 = .ok (.iload_n 3, 1) := by decide +kernel
theorem dX9_rebuild_44 : decode cX9_rebuild 44 = .ok (.invokestatic 180, 3) := by decide +kernel
theorem dX9_rebuild_47 : decode cX9_rebuild 47 = .ok (.aload_n 0, 1) := by decide +kernel
theorem dX9_rebuild_48 : decode cX9_rebuild 48 = .ok (.getfield 34, 3) := by decide +kernel
theorem dX9_rebuild_51 : decode cX9_rebuild 51 = .ok (.iload_n 3, 1) := by decide +kernel
theorem dX9_rebuild_52 : decode cX9_rebuild 52 = .ok (.iaload, 1) := by decide +kernel
theorem dX9_rebuild_53 : decode cX9_rebuild 53 = .ok (.invokevirtual 193, 3) := by decide +kernel
theorem dX9_rebuild_56 : decode cX9_rebuild 56 = .ok (.iastore, 1) := by decide +kernel
theorem dX9_rebuild_57 : decode cX9_rebuild 57 = .ok (.aload_n 0, 1) := by decide +kernel
theorem dX9_rebuild_58 : decode cX9_rebuild 58 = .ok (.getfield 34, 3) := by decide +kernel
theorem dX9_rebuild_61 : decode cX9_rebuild 61 = .ok (.iload_n 1, 1) := by decide +kernel
theorem dX9_rebuild_62 : decode cX9_rebuild 62 = .ok (.iload_n 3, 1) := by decide +kernel
theorem dX9_rebuild_63 : decode cX9_rebuild 63 = .ok (.invokestatic 186, 3) := by decide +kernel
theorem dX9_rebuild_66 : decode cX9_rebuild 66 = .ok (.aload_n 0, 1) := by decide +kernel
theorem dX9_rebuild_67 : decode cX9_rebuild 67 = .ok (.iload_n 1, 1) := by decide +kernel
theorem dX9_rebuild_68 : decode cX9_rebuild 68 = .ok (.iload_n 3, 1) := by decide +kernel
theorem dX9_rebuild_69 : decode cX9_rebuild 69 = .ok (.invokestatic 186, 3) := by decide +kernel
theorem dX9_rebuild_72 : decode cX9_rebuild 72 = .ok (.aload_n 0, 1) := by decide +kernel
theorem dX9_rebuild_73 : decode cX9_rebuild 73 = .ok (.getfield 34, 3) := by decide +kernel
theorem dX9_rebuild_76 : decode cX9_rebuild 76 = .ok (.iload_n 3, 1) := by decide +kernel
theorem dX9_rebuild_77 : decode cX9_rebuild 77 = .ok (.iaload, 1) := by decide +kernel
theorem dX9_rebuild_78 : decode cX9_rebuild 78 = .ok (.invokevirtual 193, 3) := by decide +kernel
theorem dX9_rebuild_81 : decode cX9_rebuild 81 = .ok (.iastore, 1) := by decide +kernel
theorem dX9_rebuild_82 : decode cX9_rebuild 82 = .ok (.iinc 3 (-1), 3) := by decide +kernel
theorem dX9_rebuild_85 : decode cX9_rebuild 85 = .ok (.goto (-58), 3) := by decide +kernel
theorem dX9_rebuild_88 : decode cX9_rebuild 88 = .ok (.aload_n 0, 1) := by decide +kernel
theorem dX9_rebuild_89 : decode cX9_rebuild 89 = .ok (.getfield 31, 3) := by decide +kernel
theorem dX9_rebuild_92 : decode cX9_rebuild 92 = .ok (.bipush 9, 2) := by decide +kernel
theorem dX9_rebuild_94 : decode cX9_rebuild 94 = .ok (.iload_n 2, 1) := by decide +kernel
theorem dX9_rebuild_95 : decode cX9_rebuild 95 = .ok (.imul, 1) := by decide +kernel
theorem dX9_rebuild_96 : decode cX9_rebuild 96 = .ok (.aload_n 0, 1) := by decide +kernel
theorem dX9_rebuild_97 : decode cX9_rebuild 97 = .ok (.getfield 34, 3) := by decide +kernel
theorem dX9_rebuild_100 : decode cX9_rebuild 100 = .ok (.iload_n 2, 1) := by decide +kernel
theorem dX9_rebuild_101 : decode cX9_rebuild 101 = .ok (.iaload, 1) := by decide +kernel
theorem dX9_rebuild_102 : decode cX9_rebuild 102 = .ok (.iadd, 1) := by decide +kernel
theorem dX9_rebuild_103 : decode cX9_rebuild 103 = .ok (.iaload, 1) := by decide +kernel
theorem dX9_rebuild_104 : decode cX9_rebuild 104 = .ok (.ireturn, 1) := by decide +kernel
theorem dX9_isRebuilt_0 : decode cX9_isRebuilt 0 = .ok (.aload_n 0, 1) := by decide +kernel
theorem dX9_isRebuilt_1 : decode cX9_isRebuilt 1 = .ok (.getfield 22, 3) := by decide +kernel
theorem dX9_isRebuilt_4 : decode cX9_isRebuilt 4 = .ok (.iload_n 1, 1) := by decide +kernel
theorem dX9_isRebuilt_5 : decode cX9_isRebuilt 5 = .ok (.iaload, 1) := by decide +kernel
theorem dX9_isRebuilt_6 : decode cX9_isRebuilt 6 = .ok (.iconst 2, 1) := by decide +kernel
theorem dX9_isRebuilt_7 : decode cX9_isRebuilt 7 = .ok (.if_icmp .eq 17, 3) := by decide +kernel
theorem dX9_isRebuilt_10 : decode cX9_isRebuilt 10 = .ok (.aload_n 0, 1) := by decide +kernel
theorem dX9_isRebuilt_11 : decode cX9_isRebuilt 11 = .ok (.getfield 22, 3) := by decide +kernel
theorem dX9_isRebuilt_14 : decode cX9_isRebuilt 14 = .ok (.iload_n 1, 1) := by decide +kernel
theorem dX9_isRebuilt_15 : decode cX9_isRebuilt 15 = .ok (.iaload, 1) := by decide +kernel
theorem dX9_isRebuilt_16 : decode cX9_isRebuilt 16 = .ok (.iconst 3, 1) := by decide +kernel
theorem dX9_isRebuilt_17 : decode cX9_isRebuilt 17 = .ok (.if_icmp .eq 7, 3) := by decide +kernel
theorem dX9_isRebuilt_20 : decode cX9_isRebuilt 20 = .ok (.iconst 1, 1) := by decide +kernel
theorem dX9_isRebuilt_21 : decode cX9_isRebuilt 21 = .ok (.goto 4, 3) := by decide +kernel
theorem dX9_isRebuilt_24 : decode cX9_isRebuilt 24 = .ok (.iconst 0, 1) := by decide +kernel
theorem dX9_isRebuilt_25 : decode cX9_isRebuilt 25 = .ok (.ireturn, 1) := by decide +kernel
theorem dX9_weightBy_0 : decode cX9_weightBy 0 = .ok (.iload_n 0, 1) := by decide +kernel
theorem dX9_weightBy_1 : decode cX9_weightBy 1 = .ok (.ifCond .ne 7, 3) := by decide +kernel
theorem dX9_weightBy_4 : decode cX9_weightBy 4 = .ok (.iconst 1, 1) := by decide +kernel
theorem dX9_weightBy_5 : decode cX9_weightBy 5 = .ok (.goto 13, 3) := by decide +kernel
theorem dX9_weightBy_8 : decode cX9_weightBy 8 = .ok (.iload_n 0, 1) := by decide +kernel
theorem dX9_weightBy_9 : decode cX9_weightBy 9 = .ok (.iconst 4, 1) := by decide +kernel
theorem dX9_weightBy_10 : decode cX9_weightBy 10 = .ok (.if_icmp .ne 7, 3) := by decide +kernel
theorem dX9_weightBy_13 : decode cX9_weightBy 13 = .ok (.iconst 2, 1) := by decide +kernel
theorem dX9_weightBy_14 : decode cX9_weightBy 14 = .ok (.goto 4, 3) := by decide +kernel
theorem dX9_weightBy_17 : decode cX9_weightBy 17 = .ok (.iconst 0, 1) := by decide +kernel
theorem dX9_weightBy_18 : decode cX9_weightBy 18 = .ok (.ireturn, 1) := by decide +kernel
theorem dX9_oldSound_0 : decode cX9_oldSound 0 = .ok (.aload_n 0, 1) := by decide +kernel
theorem dX9_oldSound_1 : decode cX9_oldSound 1 = .ok (.getfield 40, 3) := by decide +kernel
theorem dX9_oldSound_4 : decode cX9_oldSound 4 = .ok (.bipush 28, 2) := by decide +kernel
theorem dX9_oldSound_6 : decode cX9_oldSound 6 = .ok (.iload_n 1, 1) := by decide +kernel
theorem dX9_oldSound_7 : decode cX9_oldSound 7 = .ok (.imul, 1) := by decide +kernel
theorem dX9_oldSound_8 : decode cX9_oldSound 8 = .ok (.bipush 7, 2) := by decide +kernel
theorem dX9_oldSound_10 : decode cX9_oldSound 10 = .ok (.iload_n 2, 1) := by decide +kernel
theorem dX9_oldSound_11 : decode cX9_oldSound 11 = .ok (.imul, 1) := by decide +kernel
theorem dX9_oldSound_12 : decode cX9_oldSound 12 = .ok (.iadd, 1) := by decide +kernel
theorem dX9_oldSound_13 : decode cX9_oldSound 13 = .ok (.aload_n 0, 1) := by decide +kernel
theorem dX9_oldSound_14 : decode cX9_oldSound 14 = .ok (.aload_n 0, 1) := by decide +kernel
theorem dX9_oldSound_15 : decode cX9_oldSound 15 = .ok (.getfield 150, 3) := by decide +kernel
theorem dX9_oldSound_18 : decode cX9_oldSound 18 = .ok (.invokevirtual 177, 3) := by decide +kernel
theorem dX9_oldSound_21 : decode cX9_oldSound 21 = .ok (.iadd, 1) := by decide +kernel
theorem dX9_oldSound_22 : decode cX9_oldSound 22 = .ok (.iconst 1, 1) := by decide +kernel
theorem dX9_oldSound_23 : decode cX9_oldSound 23 = .ok (.isub, 1) := by decide +kernel
theorem dX9_oldSound_24 : decode cX9_oldSound 24 = .ok (.iaload, 1) := by decide +kernel
theorem dX9_oldSound_25 : decode cX9_oldSound 25 = .ok (.ireturn, 1) := by decide +kernel
theorem dX9_laySets_0 : decode cX9_laySets 0 = .ok (.iconst 0, 1) := by decide +kernel
theorem dX9_laySets_1 : decode cX9_laySets 1 = .ok (.istore_n 1, 1) := by decide +kernel
theorem dX9_laySets_2 : decode cX9_laySets 2 = .ok (.iload_n 1, 1) := by decide +kernel
theorem dX9_laySets_3 : decode cX9_laySets 3 = .ok (.aload_n 0, 1) := by decide +kernel
theorem dX9_laySets_4 : decode cX9_laySets 4 = .ok (.getfield 147, 3) := by decide +kernel
theorem dX9_laySets_7 : decode cX9_laySets 7 = .ok (.if_icmp .ge 173, 3) := by decide +kernel
theorem dX9_laySets_10 : decode cX9_laySets 10 = .ok (.aload_n 0, 1) := by decide +kernel
theorem dX9_laySets_11 : decode cX9_laySets 11 = .ok (.getfield 43, 3) := by decide +kernel
theorem dX9_laySets_14 : decode cX9_laySets 14 = .ok (.iload_n 1, 1) := by decide +kernel
theorem dX9_laySets_15 : decode cX9_laySets 15 = .ok (.aload_n 0, 1) := by decide +kernel
theorem dX9_laySets_16 : decode cX9_laySets 16 = .ok (.iload_n 1, 1) := by decide +kernel
theorem dX9_laySets_17 : decode cX9_laySets 17 = .ok (.invokevirtual 196, 3) := by decide +kernel
theorem dX9_laySets_20 : decode cX9_laySets 20 = .ok (.ifCond .eq 7, 3) := by decide +kernel
theorem dX9_laySets_23 : decode cX9_laySets 23 = .ok (.iconst 0, 1) := by decide +kernel
theorem dX9_laySets_24 : decode cX9_laySets 24 = .ok (.goto 4, 3) := by decide +kernel
theorem dX9_laySets_27 : decode cX9_laySets 27 = .ok (.iconst (-1), 1) := by decide +kernel
theorem dX9_laySets_28 : decode cX9_laySets 28 = .ok (.iastore, 1) := by decide +kernel
theorem dX9_laySets_29 : decode cX9_laySets 29 = .ok (.iconst 0, 1) := by decide +kernel
theorem dX9_laySets_30 : decode cX9_laySets 30 = .ok (.istore_n 2, 1) := by decide +kernel
theorem dX9_laySets_31 : decode cX9_laySets 31 = .ok (.iload_n 2, 1) := by decide +kernel
theorem dX9_laySets_32 : decode cX9_laySets 32 = .ok (.aload_n 0, 1) := by decide +kernel
theorem dX9_laySets_33 : decode cX9_laySets 33 = .ok (.getfield 25, 3) := by decide +kernel
theorem dX9_laySets_36 : decode cX9_laySets 36 = .ok (.iload_n 1, 1) := by decide +kernel
theorem dX9_laySets_37 : decode cX9_laySets 37 = .ok (.iaload, 1) := by decide +kernel
theorem dX9_laySets_38 : decode cX9_laySets 38 = .ok (.if_icmp .ge 136, 3) := by decide +kernel
theorem dX9_laySets_41 : decode cX9_laySets 41 = .ok (.iconst 0, 1) := by decide +kernel
theorem dX9_laySets_42 : decode cX9_laySets 42 = .ok (.istore_n 3, 1) := by decide +kernel
theorem dX9_laySets_43 : decode cX9_laySets 43 = .ok (.iload_n 3, 1) := by decide +kernel
theorem dX9_laySets_44 : decode cX9_laySets 44 = .ok (.aload_n 0, 1) := by decide +kernel
theorem dX9_laySets_45 : decode cX9_laySets 45 = .ok (.getfield 150, 3) := by decide +kernel
theorem dX9_laySets_48 : decode cX9_laySets 48 = .ok (.if_icmp .ge 30, 3) := by decide +kernel
theorem dX9_laySets_51 : decode cX9_laySets 51 = .ok (.aload_n 0, 1) := by decide +kernel
theorem dX9_laySets_52 : decode cX9_laySets 52 = .ok (.getfield 37, 3) := by decide +kernel
theorem dX9_laySets_55 : decode cX9_laySets 55 = .ok (.iload_n 3, 1) := by decide +kernel
theorem dX9_laySets_56 : decode cX9_laySets 56 = .ok (.aload_n 0, 1) := by decide +kernel
theorem dX9_laySets_57 : decode cX9_laySets 57 = .ok (.getfield 28, 3) := by decide +kernel
theorem dX9_laySets_60 : decode cX9_laySets 60 = .ok (.bipush 16, 2) := by decide +kernel
theorem dX9_laySets_62 : decode cX9_laySets 62 = .ok (.iload_n 1, 1) := by decide +kernel
theorem dX9_laySets_63 : decode cX9_laySets 63 = .ok (.imul, 1) := by decide +kernel
theorem dX9_laySets_64 : decode cX9_laySets 64 = .ok (.iconst 4, 1) := by decide +kernel
theorem dX9_laySets_65 : decode cX9_laySets 65 = .ok (.iload_n 3, 1) := by decide +kernel
theorem dX9_laySets_66 : decode cX9_laySets 66 = .ok (.imul, 1) := by decide +kernel
theorem dX9_laySets_67 : decode cX9_laySets 67 = .ok (.iadd, 1) := by decide +kernel
theorem dX9_laySets_68 : decode cX9_laySets 68 = .ok (.iload_n 2, 1) := by decide +kernel
theorem dX9_laySets_69 : decode cX9_laySets 69 = .ok (.iadd, 1) := by decide +kernel
theorem dX9_laySets_70 : decode cX9_laySets 70 = .ok (.iaload, 1) := by decide +kernel
theorem dX9_laySets_71 : decode cX9_laySets 71 = .ok (.iastore, 1) := by decide +kernel
theorem dX9_laySets_72 : decode cX9_laySets 72 = .ok (.iinc 3 1, 3) := by decide +kernel
theorem dX9_laySets_75 : decode cX9_laySets 75 = .ok (.goto (-32), 3) := by decide +kernel
theorem dX9_laySets_78 : decode cX9_laySets 78 = .ok (.aload_n 0, 1) := by decide +kernel
theorem dX9_laySets_79 : decode cX9_laySets 79 = .ok (.iload_n 1, 1) := by decide +kernel
theorem dX9_laySets_80 : decode cX9_laySets 80 = .ok (.invokevirtual 196, 3) := by decide +kernel
theorem dX9_laySets_83 : decode cX9_laySets 83 = .ok (.ifCond .eq 20, 3) := by decide +kernel
theorem dX9_laySets_86 : decode cX9_laySets 86 = .ok (.aload_n 0, 1) := by decide +kernel
theorem dX9_laySets_87 : decode cX9_laySets 87 = .ok (.getfield 43, 3) := by decide +kernel
theorem dX9_laySets_90 : decode cX9_laySets 90 = .ok (.iload_n 1, 1) := by decide +kernel
theorem dX9_laySets_91 : decode cX9_laySets 91 = .ok (.dup2, 1) := by decide +kernel
theorem dX9_laySets_92 : decode cX9_laySets 92 = .ok (.iaload, 1) := by decide +kernel
theorem dX9_laySets_93 : decode cX9_laySets 93 = .ok (.aload_n 0, 1) := by decide +kernel
theorem dX9_laySets_94 : decode cX9_laySets 94 = .ok (.aload_n 0, 1) := by decide +kernel
theorem dX9_laySets_95 : decode cX9_laySets 95 = .ok (.getfield 150, 3) := by decide +kernel
theorem dX9_laySets_98 : decode cX9_laySets 98 = .ok (.invokevirtual 199, 3) := by decide +kernel
theorem dX9_laySets_101 : decode cX9_laySets 101 = .ok (.iadd, 1) := by decide +kernel
theorem dX9_laySets_102 : decode cX9_laySets 102 = .ok (.iastore, 1) := by decide +kernel
theorem dX9_laySets_103 : decode cX9_laySets 103 = .ok (.iconst 0, 1) := by decide +kernel
theorem dX9_laySets_104 : decode cX9_laySets 104 = .ok (.istore_n 3, 1) := by decide +kernel
theorem dX9_laySets_105 : decode cX9_laySets 105 = .ok (.iload_n 3, 1) := by decide +kernel
theorem dX9_laySets_106 : decode cX9_laySets 106 = .ok (.bipush 7, 2) := by decide +kernel
theorem dX9_laySets_108 : decode cX9_laySets 108 = .ok (.if_icmp .ge 60, 3) := by decide +kernel
theorem dX9_laySets_111 : decode cX9_laySets 111 = .ok (.aload_n 0, 1) := by decide +kernel
theorem dX9_laySets_112 : decode cX9_laySets 112 = .ok (.getfield 40, 3) := by decide +kernel
theorem dX9_laySets_115 : decode cX9_laySets 115 = .ok (.bipush 28, 2) := by decide +kernel
theorem dX9_laySets_117 : decode cX9_laySets 117 = .ok (.iload_n 1, 1) := by decide +kernel
theorem dX9_laySets_118 : decode cX9_laySets 118 = .ok (.imul, 1) := by decide +kernel
theorem dX9_laySets_119 : decode cX9_laySets 119 = .ok (.bipush 7, 2) := by decide +kernel
theorem dX9_laySets_121 : decode cX9_laySets 121 = .ok (.iload_n 2, 1) := by decide +kernel
theorem dX9_laySets_122 : decode cX9_laySets 122 = .ok (.imul, 1) := by decide +kernel
theorem dX9_laySets_123 : decode cX9_laySets 123 = .ok (.iadd, 1) := by decide +kernel
theorem dX9_laySets_124 : decode cX9_laySets 124 = .ok (.iload_n 3, 1) := by decide +kernel
theorem dX9_laySets_125 : decode cX9_laySets 125 = .ok (.iadd, 1) := by decide +kernel
theorem dX9_laySets_126 : decode cX9_laySets 126 = .ok (.iload_n 3, 1) := by decide +kernel
theorem dX9_laySets_127 : decode cX9_laySets 127 = .ok (.aload_n 0, 1) := by decide +kernel
theorem dX9_laySets_128 : decode cX9_laySets 128 = .ok (.getfield 150, 3) := by decide +kernel
theorem dX9_laySets_131 : decode cX9_laySets 131 = .ok (.if_icmp .ge 12, 3) := by decide +kernel
theorem dX9_laySets_134 : decode cX9_laySets 134 = .ok (.aload_n 0, 1) := by decide +kernel
theorem dX9_laySets_135 : decode cX9_laySets 135 = .ok (.getfield 37, 3) := by decide +kernel
theorem dX9_laySets_138 : decode cX9_laySets 138 = .ok (.iload_n 3, 1) := by decide +kernel
theorem dX9_laySets_139 : decode cX9_laySets 139 = .ok (.iaload, 1) := by decide +kernel
theorem dX9_laySets_140 : decode cX9_laySets 140 = .ok (.goto 21, 3) := by decide +kernel
theorem dX9_laySets_143 : decode cX9_laySets 143 = .ok (.aload_n 0, 1) := by decide +kernel
theorem dX9_laySets_144 : decode cX9_laySets 144 = .ok (.iload_n 1, 1) := by decide +kernel
theorem dX9_laySets_145 : decode cX9_laySets 145 = .ok (.invokevirtual 196, 3) := by decide +kernel
theorem dX9_laySets_148 : decode cX9_laySets 148 = .ok (.ifCond .eq 12, 3) := by decide +kernel
theorem dX9_laySets_151 : decode cX9_laySets 151 = .ok (.aload_n 0, 1) := by decide +kernel
theorem dX9_laySets_152 : decode cX9_laySets 152 = .ok (.getfield 34, 3) := by decide +kernel
theorem dX9_laySets_155 : decode cX9_laySets 155 = .ok (.iload_n 3, 1) := by decide +kernel
theorem dX9_laySets_156 : decode cX9_laySets 156 = .ok (.iaload, 1) := by decide +kernel
theorem dX9_laySets_157 : decode cX9_laySets 157 = .ok (.goto 4, 3) := by decide +kernel
theorem dX9_laySets_160 : decode cX9_laySets 160 = .ok (.iconst (-1), 1) := by decide +kernel
theorem dX9_laySets_161 : decode cX9_laySets 161 = .ok (.iastore, 1) := by decide +kernel
theorem dX9_laySets_162 : decode cX9_laySets 162 = .ok (.iinc 3 1, 3) := by decide +kernel
theorem dX9_laySets_165 : decode cX9_laySets 165 = .ok (.goto (-60), 3) := by decide +kernel
theorem dX9_laySets_168 : decode cX9_laySets 168 = .ok (.iinc 2 1, 3) := by decide +kernel
theorem dX9_laySets_171 : decode cX9_laySets 171 = .ok (.goto (-140), 3) := by decide +kernel
theorem dX9_laySets_174 : decode cX9_laySets 174 = .ok (.iinc 1 1, 3) := by decide +kernel
theorem dX9_laySets_177 : decode cX9_laySets 177 = .ok (.goto (-175), 3) := by decide +kernel
theorem dX9_laySets_180 : decode cX9_laySets 180 = .ok (.return_, 1) := by decide +kernel
theorem dX9_layTally_0 : decode cX9_layTally 0 = .ok (.iconst 0, 1) := by decide +kernel
theorem dX9_layTally_1 : decode cX9_layTally 1 = .ok (.istore 4, 2) := by decide +kernel
theorem dX9_layTally_3 : decode cX9_layTally 3 = .ok (.iload 4, 2) := by decide +kernel
theorem dX9_layTally_5 : decode cX9_layTally 5 = .ok (.bipush 9, 2) := by decide +kernel
theorem dX9_layTally_7 : decode cX9_layTally 7 = .ok (.if_icmp .ge 17, 3) := by decide +kernel
theorem dX9_layTally_10 : decode cX9_layTally 10 = .ok (.aload_n 0, 1) := by decide +kernel
theorem dX9_layTally_11 : decode cX9_layTally 11 = .ok (.getfield 55, 3) := by decide +kernel
theorem dX9_layTally_14 : decode cX9_layTally 14 = .ok (.iload 4, 2) := by decide +kernel
theorem dX9_layTally_16 : decode cX9_layTally 16 = .ok (.iconst 0, 1) := by decide +kernel
theorem dX9_layTally_17 : decode cX9_layTally 17 = .ok (.iastore, 1) := by decide +kernel
theorem dX9_layTally_18 : decode cX9_layTally 18 = .ok (.iinc 4 1, 3) := by decide +kernel
theorem dX9_layTally_21 : decode cX9_layTally 21 = .ok (.goto (-18), 3) := by decide +kernel
theorem dX9_layTally_24 : decode cX9_layTally 24 = .ok (.iconst 0, 1) := by decide +kernel
theorem dX9_layTally_25 : decode cX9_layTally 25 = .ok (.istore 4, 2) := by decide +kernel
theorem dX9_layTally_27 : decode cX9_layTally 27 = .ok (.iload 4, 2) := by decide +kernel
theorem dX9_layTally_29 : decode cX9_layTally 29 = .ok (.aload_n 0, 1) := by decide +kernel
theorem dX9_layTally_30 : decode cX9_layTally 30 = .ok (.getfield 147, 3) := by decide +kernel
theorem dX9_layTally_33 : decode cX9_layTally 33 = .ok (.if_icmp .ge 109, 3) := by decide +kernel
theorem dX9_layTally_36 : decode cX9_layTally 36 = .ok (.aload_n 0, 1) := by decide +kernel
theorem dX9_layTally_37 : decode cX9_layTally 37 = .ok (.getfield 22, 3) := by decide +kernel
theorem dX9_layTally_40 : decode cX9_layTally 40 = .ok (.iload 4, 2) := by decide +kernel
theorem dX9_layTally_42 : decode cX9_layTally 42 = .ok (.iaload, 1) := by decide +kernel
theorem dX9_layTally_43 : decode cX9_layTally 43 = .ok (.invokestatic 202, 3) := by decide +kernel
theorem dX9_layTally_46 : decode cX9_layTally 46 = .ok (.istore 5, 2) := by decide +kernel
theorem dX9_layTally_48 : decode cX9_layTally 48 = .ok (.iconst 0, 1) := by decide +kernel
theorem dX9_layTally_49 : decode cX9_layTally 49 = .ok (.istore 6, 2) := by decide +kernel
theorem dX9_layTally_51 : decode cX9_layTally 51 = .ok (.iload 6, 2) := by decide +kernel
theorem dX9_layTally_53 : decode cX9_layTally 53 = .ok (.aload_n 0, 1) := by decide +kernel
theorem dX9_layTally_54 : decode cX9_layTally 54 = .ok (.getfield 25, 3) := by decide +kernel
theorem dX9_layTally_57 : decode cX9_layTally 57 = .ok (.iload 4, 2) := by decide +kernel
theorem dX9_layTally_59 : decode cX9_layTally 59 = .ok (.iaload, 1) := by decide +kernel
theorem dX9_layTally_60 : decode cX9_layTally 60 = .ok (.if_icmp .ge 76, 3) := by decide +kernel
theorem dX9_layTally_63 : decode cX9_layTally 63 = .ok (.iload 5, 2) := by decide +kernel
theorem dX9_layTally_65 : decode cX9_layTally 65 = .ok (.ifCond .le 71, 3) := by decide +kernel
theorem dX9_layTally_68 : decode cX9_layTally 68 = .ok (.iload 6, 2) := by decide +kernel
theorem dX9_layTally_70 : decode cX9_layTally 70 = .ok (.ifCond .ne 7, 3) := by decide +kernel
theorem dX9_layTally_73 : decode cX9_layTally 73 = .ok (.iconst 1, 1) := by decide +kernel
theorem dX9_layTally_74 : decode cX9_layTally 74 = .ok (.goto 4, 3) := by decide +kernel
theorem dX9_layTally_77 : decode cX9_layTally 77 = .ok (.iconst 0, 1) := by decide +kernel
theorem dX9_layTally_78 : decode cX9_layTally 78 = .ok (.iload_n 3, 1) := by decide +kernel
theorem dX9_layTally_79 : decode cX9_layTally 79 = .ok (.iconst 1, 1) := by decide +kernel
theorem dX9_layTally_80 : decode cX9_layTally 80 = .ok (.if_icmp .ne 7, 3) := by decide +kernel
theorem dX9_layTally_83 : decode cX9_layTally 83 = .ok (.iconst 1, 1) := by decide +kernel
theorem dX9_layTally_84 : decode cX9_layTally 84 = .ok (.goto 4, 3) := by decide +kernel
theorem dX9_layTally_87 : decode cX9_layTally 87 = .ok (.iconst 0, 1) := by decide +kernel
theorem dX9_layTally_88 : decode cX9_layTally 88 = .ok (.if_icmp .ne 42, 3) := by decide +kernel
theorem dX9_layTally_91 : decode cX9_layTally 91 = .ok (.aload_n 0, 1) := by decide +kernel
theorem dX9_layTally_92 : decode cX9_layTally 92 = .ok (.iload 4, 2) := by decide +kernel
theorem dX9_layTally_94 : decode cX9_layTally 94 = .ok (.iload 6, 2) := by decide +kernel
theorem dX9_layTally_96 : decode cX9_layTally 96 = .ok (.invokevirtual 205, 3) := by decide +kernel
theorem dX9_layTally_99 : decode cX9_layTally 99 = .ok (.iload_n 2, 1) := by decide +kernel
theorem dX9_layTally_100 : decode cX9_layTally 100 = .ok (.if_icmp .ne 30, 3) := by decide +kernel
theorem dX9_layTally_103 : decode cX9_layTally 103 = .ok (.aload_n 0, 1) := by decide +kernel
theorem dX9_layTally_104 : decode cX9_layTally 104 = .ok (.getfield 55, 3) := by decide +kernel
theorem dX9_layTally_107 : decode cX9_layTally 107 = .ok (.aload_n 0, 1) := by decide +kernel
theorem dX9_layTally_108 : decode cX9_layTally 108 = .ok (.getfield 28, 3) := by decide +kernel
theorem dX9_layTally_111 : decode cX9_layTally 111 = .ok (.bipush 16, 2) := by decide +kernel
theorem dX9_layTally_113 : decode cX9_layTally 113 = .ok (.iload 4, 2) := by decide +kernel
theorem dX9_layTally_115 : decode cX9_layTally 115 = .ok (.imul, 1) := by decide +kernel
theorem dX9_layTally_116 : decode cX9_layTally 116 = .ok (.iconst 4, 1) := by decide +kernel
theorem dX9_layTally_117 : decode cX9_layTally 117 = .ok (.iload_n 1, 1) := by decide +kernel
theorem dX9_layTally_118 : decode cX9_layTally 118 = .ok (.imul, 1) := by decide +kernel
theorem dX9_layTally_119 : decode cX9_layTally 119 = .ok (.iadd, 1) := by decide +kernel
theorem dX9_layTally_120 : decode cX9_layTally 120 = .ok (.iload 6, 2) := by decide +kernel
theorem dX9_layTally_122 : decode cX9_layTally 122 = .ok (.iadd, 1) := by decide +kernel
theorem dX9_layTally_123 : decode cX9_layTally 123 = .ok (.iaload, 1) := by decide +kernel
theorem dX9_layTally_124 : decode cX9_layTally 124 = .ok (.dup2, 1) := by decide +kernel
theorem dX9_layTally_125 : decode cX9_layTally 125 = .ok (.iaload, 1) := by decide +kernel
theorem dX9_layTally_126 : decode cX9_layTally 126 = .ok (.iload 5, 2) := by decide +kernel
theorem dX9_layTally_128 : decode cX9_layTally 128 = .ok (.iadd, 1) := by decide +kernel
theorem dX9_layTally_129 : decode cX9_layTally 129 = .ok (.iastore, 1) := by decide +kernel
theorem dX9_layTally_130 : decode cX9_layTally 130 = .ok (.iinc 6 1, 3) := by decide +kernel
theorem dX9_layTally_133 : decode cX9_layTally 133 = .ok (.goto (-82), 3) := by decide +kernel
theorem dX9_layTally_136 : decode cX9_layTally 136 = .ok (.iinc 4 1, 3) := by decide +kernel
theorem dX9_layTally_139 : decode cX9_layTally 139 = .ok (.goto (-112), 3) := by decide +kernel
theorem dX9_layTally_142 : decode cX9_layTally 142 = .ok (.return_, 1) := by decide +kernel
theorem dX9_layLaw_0 : decode cX9_layLaw 0 = .ok (.aload_n 0, 1) := by decide +kernel
theorem dX9_layLaw_1 : decode cX9_layLaw 1 = .ok (.iload_n 1, 1) := by decide +kernel
theorem dX9_layLaw_2 : decode cX9_layLaw 2 = .ok (.iload_n 2, 1) := by decide +kernel
theorem dX9_layLaw_3 : decode cX9_layLaw 3 = .ok (.iload_n 3, 1) := by decide +kernel
theorem dX9_layLaw_4 : decode cX9_layLaw 4 = .ok (.invokevirtual 208, 3) := by decide +kernel
theorem dX9_layLaw_7 : decode cX9_layLaw 7 = .ok (.iconst (-1), 1) := by decide +kernel
theorem dX9_layLaw_8 : decode cX9_layLaw 8 = .ok (.istore 4, 2) := by decide +kernel
theorem dX9_layLaw_10 : decode cX9_layLaw 10 = .ok (.iconst 0, 1) := by decide +kernel
theorem dX9_layLaw_11 : decode cX9_layLaw 11 = .ok (.istore 5, 2) := by decide +kernel
theorem dX9_layLaw_13 : decode cX9_layLaw 13 = .ok (.iconst 0, 1) := by decide +kernel
theorem dX9_layLaw_14 : decode cX9_layLaw 14 = .ok (.istore 6, 2) := by decide +kernel
theorem dX9_layLaw_16 : decode cX9_layLaw 16 = .ok (.iconst 0, 1) := by decide +kernel
theorem dX9_layLaw_17 : decode cX9_layLaw 17 = .ok (.istore 7, 2) := by decide +kernel
theorem dX9_layLaw_19 : decode cX9_layLaw 19 = .ok (.iload 7, 2) := by decide +kernel
theorem dX9_layLaw_21 : decode cX9_layLaw 21 = .ok (.bipush 9, 2) := by decide +kernel
theorem dX9_layLaw_23 : decode cX9_layLaw 23 = .ok (.if_icmp .ge 68, 3) := by decide +kernel
theorem dX9_layLaw_26 : decode cX9_layLaw 26 = .ok (.iload 6, 2) := by decide +kernel
theorem dX9_layLaw_28 : decode cX9_layLaw 28 = .ok (.aload_n 0, 1) := by decide +kernel
theorem dX9_layLaw_29 : decode cX9_layLaw 29 = .ok (.getfield 55, 3) := by decide +kernel
theorem dX9_layLaw_32 : decode cX9_layLaw 32 = .ok (.iload 7, 2) := by decide +kernel
theorem dX9_layLaw_34 : decode cX9_layLaw 34 = .ok (.iaload, 1) := by decide +kernel
theorem dX9_layLaw_35 : decode cX9_layLaw 35 = .ok (.iadd, 1) := by decide +kernel
theorem dX9_layLaw_36 : decode cX9_layLaw 36 = .ok (.istore 6, 2) := by decide +kernel
theorem dX9_layLaw_38 : decode cX9_layLaw 38 = .ok (.aload_n 0, 1) := by decide +kernel
theorem dX9_layLaw_39 : decode cX9_layLaw 39 = .ok (.getfield 55, 3) := by decide +kernel
theorem dX9_layLaw_42 : decode cX9_layLaw 42 = .ok (.iload 7, 2) := by decide +kernel
theorem dX9_layLaw_44 : decode cX9_layLaw 44 = .ok (.iaload, 1) := by decide +kernel
theorem dX9_layLaw_45 : decode cX9_layLaw 45 = .ok (.iload 5, 2) := by decide +kernel
theorem dX9_layLaw_47 : decode cX9_layLaw 47 = .ok (.if_icmp .le 8, 3) := by decide +kernel
theorem dX9_layLaw_50 : decode cX9_layLaw 50 = .ok (.iload 7, 2) := by decide +kernel
theorem dX9_layLaw_52 : decode cX9_layLaw 52 = .ok (.goto 5, 3) := by decide +kernel
theorem dX9_layLaw_55 : decode cX9_layLaw 55 = .ok (.iload 4, 2) := by decide +kernel
theorem dX9_layLaw_57 : decode cX9_layLaw 57 = .ok (.istore 4, 2) := by decide +kernel
theorem dX9_layLaw_59 : decode cX9_layLaw 59 = .ok (.aload_n 0, 1) := by decide +kernel
theorem dX9_layLaw_60 : decode cX9_layLaw 60 = .ok (.getfield 55, 3) := by decide +kernel
theorem dX9_layLaw_63 : decode cX9_layLaw 63 = .ok (.iload 7, 2) := by decide +kernel
theorem dX9_layLaw_65 : decode cX9_layLaw 65 = .ok (.iaload, 1) := by decide +kernel
theorem dX9_layLaw_66 : decode cX9_layLaw 66 = .ok (.iload 5, 2) := by decide +kernel
theorem dX9_layLaw_68 : decode cX9_layLaw 68 = .ok (.if_icmp .le 13, 3) := by decide +kernel
theorem dX9_layLaw_71 : decode cX9_layLaw 71 = .ok (.aload_n 0, 1) := by decide +kernel
theorem dX9_layLaw_72 : decode cX9_layLaw 72 = .ok (.getfield 55, 3) := by decide +kernel
theorem dX9_layLaw_75 : decode cX9_layLaw 75 = .ok (.iload 7, 2) := by decide +kernel
theorem dX9_layLaw_77 : decode cX9_layLaw 77 = .ok (.iaload, 1) := by decide +kernel
theorem dX9_layLaw_78 : decode cX9_layLaw 78 = .ok (.goto 5, 3) := by decide +kernel
theorem dX9_layLaw_81 : decode cX9_layLaw 81 = .ok (.iload 5, 2) := by decide +kernel
theorem dX9_layLaw_83 : decode cX9_layLaw 83 = .ok (.istore 5, 2) := by decide +kernel
theorem dX9_layLaw_85 : decode cX9_layLaw 85 = .ok (.iinc 7 1, 3) := by decide +kernel
theorem dX9_layLaw_88 : decode cX9_layLaw 88 = .ok (.goto (-69), 3) := by decide +kernel
theorem dX9_layLaw_91 : decode cX9_layLaw 91 = .ok (.bipush 18, 2) := by decide +kernel
theorem dX9_layLaw_93 : decode cX9_layLaw 93 = .ok (.iload_n 1, 1) := by decide +kernel
theorem dX9_layLaw_94 : decode cX9_layLaw 94 = .ok (.imul, 1) := by decide +kernel
theorem dX9_layLaw_95 : decode cX9_layLaw 95 = .ok (.iconst 2, 1) := by decide +kernel
theorem dX9_layLaw_96 : decode cX9_layLaw 96 = .ok (.iload_n 2, 1) := by decide +kernel
theorem dX9_layLaw_97 : decode cX9_layLaw 97 = .ok (.imul, 1) := by decide +kernel
theorem dX9_layLaw_98 : decode cX9_layLaw 98 = .ok (.iadd, 1) := by decide +kernel
theorem dX9_layLaw_99 : decode cX9_layLaw 99 = .ok (.iload_n 3, 1) := by decide +kernel
theorem dX9_layLaw_100 : decode cX9_layLaw 100 = .ok (.iadd, 1) := by decide +kernel
theorem dX9_layLaw_101 : decode cX9_layLaw 101 = .ok (.istore 7, 2) := by decide +kernel
theorem dX9_layLaw_103 : decode cX9_layLaw 103 = .ok (.aload_n 0, 1) := by decide +kernel
theorem dX9_layLaw_104 : decode cX9_layLaw 104 = .ok (.getfield 46, 3) := by decide +kernel
theorem dX9_layLaw_107 : decode cX9_layLaw 107 = .ok (.iload 7, 2) := by decide +kernel
theorem dX9_layLaw_109 : decode cX9_layLaw 109 = .ok (.iload 4, 2) := by decide +kernel
theorem dX9_layLaw_111 : decode cX9_layLaw 111 = .ok (.iastore, 1) := by decide +kernel
theorem dX9_layLaw_112 : decode cX9_layLaw 112 = .ok (.aload_n 0, 1) := by decide +kernel
theorem dX9_layLaw_113 : decode cX9_layLaw 113 = .ok (.getfield 49, 3) := by decide +kernel
theorem dX9_layLaw_116 : decode cX9_layLaw 116 = .ok (.iload 7, 2) := by decide +kernel
theorem dX9_layLaw_118 : decode cX9_layLaw 118 = .ok (.iload 5, 2) := by decide +kernel
theorem dX9_layLaw_120 : decode cX9_layLaw 120 = .ok (.iastore, 1) := by decide +kernel
theorem dX9_layLaw_121 : decode cX9_layLaw 121 = .ok (.aload_n 0, 1) := by decide +kernel
theorem dX9_layLaw_122 : decode cX9_layLaw 122 = .ok (.getfield 52, 3) := by decide +kernel
theorem dX9_layLaw_125 : decode cX9_layLaw 125 = .ok (.iload 7, 2) := by decide +kernel
theorem dX9_layLaw_127 : decode cX9_layLaw 127 = .ok (.iload 6, 2) := by decide +kernel
theorem dX9_layLaw_129 : decode cX9_layLaw 129 = .ok (.iload 5, 2) := by decide +kernel
theorem dX9_layLaw_131 : decode cX9_layLaw 131 = .ok (.isub, 1) := by decide +kernel
theorem dX9_layLaw_132 : decode cX9_layLaw 132 = .ok (.iastore, 1) := by decide +kernel
theorem dX9_layLaw_133 : decode cX9_layLaw 133 = .ok (.return_, 1) := by decide +kernel
theorem dX9_freshen_0 : decode cX9_freshen 0 = .ok (.aload_n 0, 1) := by decide +kernel
theorem dX9_freshen_1 : decode cX9_freshen 1 = .ok (.getfield 153, 3) := by decide +kernel
theorem dX9_freshen_4 : decode cX9_freshen 4 = .ok (.ifCond .ne 4, 3) := by decide +kernel
theorem dX9_freshen_7 : decode cX9_freshen 7 = .ok (.return_, 1) := by decide +kernel
theorem dX9_freshen_8 : decode cX9_freshen 8 = .ok (.aload_n 0, 1) := by decide +kernel
theorem dX9_freshen_9 : decode cX9_freshen 9 = .ok (.invokevirtual 212, 3) := by decide +kernel
theorem dX9_freshen_12 : decode cX9_freshen 12 = .ok (.iconst 0, 1) := by decide +kernel
theorem dX9_freshen_13 : decode cX9_freshen 13 = .ok (.istore_n 1, 1) := by decide +kernel
theorem dX9_freshen_14 : decode cX9_freshen 14 = .ok (.iload_n 1, 1) := by decide +kernel
theorem dX9_freshen_15 : decode cX9_freshen 15 = .ok (.bipush 18, 2) := by decide +kernel
theorem dX9_freshen_17 : decode cX9_freshen 17 = .ok (.aload_n 0, 1) := by decide +kernel
theorem dX9_freshen_18 : decode cX9_freshen 18 = .ok (.getfield 150, 3) := by decide +kernel
theorem dX9_freshen_21 : decode cX9_freshen 21 = .ok (.imul, 1) := by decide +kernel
theorem dX9_freshen_22 : decode cX9_freshen 22 = .ok (.if_icmp .ge 26, 3) := by decide +kernel
theorem dX9_freshen_25 : decode cX9_freshen 25 = .ok (.aload_n 0, 1) := by decide +kernel
theorem dX9_freshen_26 : decode cX9_freshen 26 = .ok (.iload_n 1, 1) := by decide +kernel
theorem dX9_freshen_27 : decode cX9_freshen 27 = .ok (.bipush 18, 2) := by decide +kernel
theorem dX9_freshen_29 : decode cX9_freshen 29 = .ok (.idiv, 1) := by decide +kernel
theorem dX9_freshen_30 : decode cX9_freshen 30 = .ok (.iload_n 1, 1) := by decide +kernel
theorem dX9_freshen_31 : decode cX9_freshen 31 = .ok (.bipush 18, 2) := by decide +kernel
theorem dX9_freshen_33 : decode cX9_freshen 33 = .ok (.irem, 1) := by decide +kernel
theorem dX9_freshen_34 : decode cX9_freshen 34 = .ok (.iconst 2, 1) := by decide +kernel
theorem dX9_freshen_35 : decode cX9_freshen 35 = .ok (.idiv, 1) := by decide +kernel
theorem dX9_freshen_36 : decode cX9_freshen 36 = .ok (.iload_n 1, 1) := by decide +kernel
theorem dX9_freshen_37 : decode cX9_freshen 37 = .ok (.iconst 2, 1) := by decide +kernel
theorem dX9_freshen_38 : decode cX9_freshen 38 = .ok (.irem, 1) := by decide +kernel
theorem dX9_freshen_39 : decode cX9_freshen 39 = .ok (.invokevirtual 215, 3) := by decide +kernel
theorem dX9_freshen_42 : decode cX9_freshen 42 = .ok (.iinc 1 1, 3) := by decide +kernel
theorem dX9_freshen_45 : decode cX9_freshen 45 = .ok (.goto (-31), 3) := by decide +kernel
theorem dX9_freshen_48 : decode cX9_freshen 48 = .ok (.aload_n 0, 1) := by decide +kernel
theorem dX9_freshen_49 : decode cX9_freshen 49 = .ok (.iconst 0, 1) := by decide +kernel
theorem dX9_freshen_50 : decode cX9_freshen 50 = .ok (.putfield 153, 3) := by decide +kernel
theorem dX9_freshen_53 : decode cX9_freshen 53 = .ok (.return_, 1) := by decide +kernel
theorem dX9_law_0 : decode cX9_law 0 = .ok (.aload_n 0, 1) := by decide +kernel
theorem dX9_law_1 : decode cX9_law 1 = .ok (.iload_n 1, 1) := by decide +kernel
theorem dX9_law_2 : decode cX9_law 2 = .ok (.invokevirtual 218, 3) := by decide +kernel
theorem dX9_law_5 : decode cX9_law 5 = .ok (.ifCond .eq 15, 3) := by decide +kernel
theorem dX9_law_8 : decode cX9_law 8 = .ok (.iload_n 2, 1) := by decide +kernel
theorem dX9_law_9 : decode cX9_law 9 = .ok (.i2l, 1) := by decide +kernel
theorem dX9_law_10 : decode cX9_law 10 = .ok (.lconst 0, 1) := by decide +kernel
theorem dX9_law_11 : decode cX9_law 11 = .ok (.ldc2_w 171, 3) := by decide +kernel
theorem dX9_law_14 : decode cX9_law 14 = .ok (.invokestatic 88, 3) := by decide +kernel
theorem dX9_law_17 : decode cX9_law 17 = .ok (.ifCond .ne 6, 3) := by decide +kernel
theorem dX9_law_20 : decode cX9_law 20 = .ok (.bipush (-101), 2) := by decide +kernel
theorem dX9_law_22 : decode cX9_law 22 = .ok (.ireturn, 1) := by decide +kernel
theorem dX9_law_23 : decode cX9_law 23 = .ok (.iload_n 3, 1) := by decide +kernel
theorem dX9_law_24 : decode cX9_law 24 = .ok (.i2l, 1) := by decide +kernel
theorem dX9_law_25 : decode cX9_law 25 = .ok (.lconst 0, 1) := by decide +kernel
theorem dX9_law_26 : decode cX9_law 26 = .ok (.lconst 1, 1) := by decide +kernel
theorem dX9_law_27 : decode cX9_law 27 = .ok (.invokestatic 88, 3) := by decide +kernel
theorem dX9_law_30 : decode cX9_law 30 = .ok (.ifCond .eq 16, 3) := by decide +kernel
theorem dX9_law_33 : decode cX9_law 33 = .ok (.iload 4, 2) := by decide +kernel
theorem dX9_law_35 : decode cX9_law 35 = .ok (.i2l, 1) := by decide +kernel
theorem dX9_law_36 : decode cX9_law 36 = .ok (.lconst 0, 1) := by decide +kernel
theorem dX9_law_37 : decode cX9_law 37 = .ok (.ldc2_w 221, 3) := by decide +kernel
theorem dX9_law_40 : decode cX9_law 40 = .ok (.invokestatic 88, 3) := by decide +kernel
theorem dX9_law_43 : decode cX9_law 43 = .ok (.ifCond .ne 6, 3) := by decide +kernel
theorem dX9_law_46 : decode cX9_law 46 = .ok (.bipush (-102), 2) := by decide +kernel
theorem dX9_law_48 : decode cX9_law 48 = .ok (.ireturn, 1) := by decide +kernel
theorem dX9_law_49 : decode cX9_law 49 = .ok (.aload_n 0, 1) := by decide +kernel
theorem dX9_law_50 : decode cX9_law 50 = .ok (.invokevirtual 223, 3) := by decide +kernel
theorem dX9_law_53 : decode cX9_law 53 = .ok (.bipush 18, 2) := by decide +kernel
theorem dX9_law_55 : decode cX9_law 55 = .ok (.iload_n 1, 1) := by decide +kernel
theorem dX9_law_56 : decode cX9_law 56 = .ok (.imul, 1) := by decide +kernel
theorem dX9_law_57 : decode cX9_law 57 = .ok (.iconst 2, 1) := by decide +kernel
theorem dX9_law_58 : decode cX9_law 58 = .ok (.iload_n 2, 1) := by decide +kernel
theorem dX9_law_59 : decode cX9_law 59 = .ok (.imul, 1) := by decide +kernel
theorem dX9_law_60 : decode cX9_law 60 = .ok (.iadd, 1) := by decide +kernel
theorem dX9_law_61 : decode cX9_law 61 = .ok (.iload_n 3, 1) := by decide +kernel
theorem dX9_law_62 : decode cX9_law 62 = .ok (.iadd, 1) := by decide +kernel
theorem dX9_law_63 : decode cX9_law 63 = .ok (.istore 5, 2) := by decide +kernel
theorem dX9_law_65 : decode cX9_law 65 = .ok (.iload 4, 2) := by decide +kernel
theorem dX9_law_67 : decode cX9_law 67 = .ok (.ifCond .ne 13, 3) := by decide +kernel
theorem dX9_law_70 : decode cX9_law 70 = .ok (.aload_n 0, 1) := by decide +kernel
theorem dX9_law_71 : decode cX9_law 71 = .ok (.getfield 46, 3) := by decide +kernel
theorem dX9_law_74 : decode cX9_law 74 = .ok (.iload 5, 2) := by decide +kernel
theorem dX9_law_76 : decode cX9_law 76 = .ok (.iaload, 1) := by decide +kernel
theorem dX9_law_77 : decode cX9_law 77 = .ok (.goto 26, 3) := by decide +kernel
theorem dX9_law_80 : decode cX9_law 80 = .ok (.iload 4, 2) := by decide +kernel
theorem dX9_law_82 : decode cX9_law 82 = .ok (.iconst 1, 1) := by decide +kernel
theorem dX9_law_83 : decode cX9_law 83 = .ok (.if_icmp .ne 13, 3) := by decide +kernel
theorem dX9_law_86 : decode cX9_law 86 = .ok (.aload_n 0, 1) := by decide +kernel
theorem dX9_law_87 : decode cX9_law 87 = .ok (.getfield 49, 3) := by decide +kernel
theorem dX9_law_90 : decode cX9_law 90 = .ok (.iload 5, 2) := by decide +kernel
theorem dX9_law_92 : decode cX9_law 92 = .ok (.iaload, 1) := by decide +kernel
theorem dX9_law_93 : decode cX9_law 93 = .ok (.goto 10, 3) := by decide +kernel
theorem dX9_law_96 : decode cX9_law 96 = .ok (.aload_n 0, 1) := by decide +kernel
theorem dX9_law_97 : decode cX9_law 97 = .ok (.getfield 52, 3) := by decide +kernel
theorem dX9_law_100 : decode cX9_law 100 = .ok (.iload 5, 2) := by decide +kernel
theorem dX9_law_102 : decode cX9_law 102 = .ok (.iaload, 1) := by decide +kernel
theorem dX9_law_103 : decode cX9_law 103 = .ok (.ireturn, 1) := by decide +kernel
theorem dX9_lawAt_0 : decode cX9_lawAt 0 = .ok (.aload_n 0, 1) := by decide +kernel
theorem dX9_lawAt_1 : decode cX9_lawAt 1 = .ok (.getfield 46, 3) := by decide +kernel
theorem dX9_lawAt_4 : decode cX9_lawAt 4 = .ok (.bipush 18, 2) := by decide +kernel
theorem dX9_lawAt_6 : decode cX9_lawAt 6 = .ok (.iload_n 2, 1) := by decide +kernel
theorem dX9_lawAt_7 : decode cX9_lawAt 7 = .ok (.imul, 1) := by decide +kernel
theorem dX9_lawAt_8 : decode cX9_lawAt 8 = .ok (.iconst 2, 1) := by decide +kernel
theorem dX9_lawAt_9 : decode cX9_lawAt 9 = .ok (.aload_n 0, 1) := by decide +kernel
theorem dX9_lawAt_10 : decode cX9_lawAt 10 = .ok (.iload_n 1, 1) := by decide +kernel
theorem dX9_lawAt_11 : decode cX9_lawAt 11 = .ok (.iload_n 3, 1) := by decide +kernel
theorem dX9_lawAt_12 : decode cX9_lawAt 12 = .ok (.invokevirtual 205, 3) := by decide +kernel
theorem dX9_lawAt_15 : decode cX9_lawAt 15 = .ok (.imul, 1) := by decide +kernel
theorem dX9_lawAt_16 : decode cX9_lawAt 16 = .ok (.iadd, 1) := by decide +kernel
theorem dX9_lawAt_17 : decode cX9_lawAt 17 = .ok (.iload_n 3, 1) := by decide +kernel
theorem dX9_lawAt_18 : decode cX9_lawAt 18 = .ok (.ifCond .ne 7, 3) := by decide +kernel
theorem dX9_lawAt_21 : decode cX9_lawAt 21 = .ok (.iconst 1, 1) := by decide +kernel
theorem dX9_lawAt_22 : decode cX9_lawAt 22 = .ok (.goto 4, 3) := by decide +kernel
theorem dX9_lawAt_25 : decode cX9_lawAt 25 = .ok (.iconst 0, 1) := by decide +kernel
theorem dX9_lawAt_26 : decode cX9_lawAt 26 = .ok (.iadd, 1) := by decide +kernel
theorem dX9_lawAt_27 : decode cX9_lawAt 27 = .ok (.iaload, 1) := by decide +kernel
theorem dX9_lawAt_28 : decode cX9_lawAt 28 = .ok (.ireturn, 1) := by decide +kernel
theorem dX9_strangeOf_0 : decode cX9_strangeOf 0 = .ok (.iconst 0, 1) := by decide +kernel
theorem dX9_strangeOf_1 : decode cX9_strangeOf 1 = .ok (.istore_n 3, 1) := by decide +kernel
theorem dX9_strangeOf_2 : decode cX9_strangeOf 2 = .ok (.iconst 0, 1) := by decide +kernel
theorem dX9_strangeOf_3 : decode cX9_strangeOf 3 = .ok (.istore 4, 2) := by decide +kernel
theorem dX9_strangeOf_5 : decode cX9_strangeOf 5 = .ok (.iload 4, 2) := by decide +kernel
theorem dX9_strangeOf_7 : decode cX9_strangeOf 7 = .ok (.aload_n 0, 1) := by decide +kernel
theorem dX9_strangeOf_8 : decode cX9_strangeOf 8 = .ok (.getfield 25, 3) := by decide +kernel
theorem dX9_strangeOf_11 : decode cX9_strangeOf 11 = .ok (.iload_n 1, 1) := by decide +kernel
theorem dX9_strangeOf_12 : decode cX9_strangeOf 12 = .ok (.iaload, 1) := by decide +kernel
theorem dX9_strangeOf_13 : decode cX9_strangeOf 13 = .ok (.if_icmp .ge 62, 3) := by decide +kernel
theorem dX9_strangeOf_16 : decode cX9_strangeOf 16 = .ok (.aload_n 0, 1) := by decide +kernel
theorem dX9_strangeOf_17 : decode cX9_strangeOf 17 = .ok (.iload_n 1, 1) := by decide +kernel
theorem dX9_strangeOf_18 : decode cX9_strangeOf 18 = .ok (.invokevirtual 196, 3) := by decide +kernel
theorem dX9_strangeOf_21 : decode cX9_strangeOf 21 = .ok (.ifCond .eq 54, 3) := by decide +kernel
theorem dX9_strangeOf_24 : decode cX9_strangeOf 24 = .ok (.aload_n 0, 1) := by decide +kernel
theorem dX9_strangeOf_25 : decode cX9_strangeOf 25 = .ok (.iload_n 1, 1) := by decide +kernel
theorem dX9_strangeOf_26 : decode cX9_strangeOf 26 = .ok (.iload_n 2, 1) := by decide +kernel
theorem dX9_strangeOf_27 : decode cX9_strangeOf 27 = .ok (.iload 4, 2) := by decide +kernel
theorem dX9_strangeOf_29 : decode cX9_strangeOf 29 = .ok (.invokevirtual 226, 3) := by decide +kernel
theorem dX9_strangeOf_32 : decode cX9_strangeOf 32 = .ok (.istore 5, 2) := by decide +kernel
theorem dX9_strangeOf_34 : decode cX9_strangeOf 34 = .ok (.iload_n 3, 1) := by decide +kernel
theorem dX9_strangeOf_35 : decode cX9_strangeOf 35 = .ok (.iload 5, 2) := by decide +kernel
theorem dX9_strangeOf_37 : decode cX9_strangeOf 37 = .ok (.iconst (-1), 1) := by decide +kernel
theorem dX9_strangeOf_38 : decode cX9_strangeOf 38 = .ok (.if_icmp .eq 28, 3) := by decide +kernel
theorem dX9_strangeOf_41 : decode cX9_strangeOf 41 = .ok (.iload 5, 2) := by decide +kernel
theorem dX9_strangeOf_43 : decode cX9_strangeOf 43 = .ok (.aload_n 0, 1) := by decide +kernel
theorem dX9_strangeOf_44 : decode cX9_strangeOf 44 = .ok (.getfield 28, 3) := by decide +kernel
theorem dX9_strangeOf_47 : decode cX9_strangeOf 47 = .ok (.bipush 16, 2) := by decide +kernel
theorem dX9_strangeOf_49 : decode cX9_strangeOf 49 = .ok (.iload_n 1, 1) := by decide +kernel
theorem dX9_strangeOf_50 : decode cX9_strangeOf 50 = .ok (.imul, 1) := by decide +kernel
theorem dX9_strangeOf_51 : decode cX9_strangeOf 51 = .ok (.iconst 4, 1) := by decide +kernel
theorem dX9_strangeOf_52 : decode cX9_strangeOf 52 = .ok (.iload_n 2, 1) := by decide +kernel
theorem dX9_strangeOf_53 : decode cX9_strangeOf 53 = .ok (.imul, 1) := by decide +kernel
theorem dX9_strangeOf_54 : decode cX9_strangeOf 54 = .ok (.iadd, 1) := by decide +kernel
theorem dX9_strangeOf_55 : decode cX9_strangeOf 55 = .ok (.iload 4, 2) := by decide +kernel
theorem dX9_strangeOf_57 : decode cX9_strangeOf 57 = .ok (.iadd, 1) := by decide +kernel
theorem dX9_strangeOf_58 : decode cX9_strangeOf 58 = .ok (.iaload, 1) := by decide +kernel
theorem dX9_strangeOf_59 : decode cX9_strangeOf 59 = .ok (.if_icmp .eq 7, 3) := by decide +kernel
theorem dX9_strangeOf_62 : decode cX9_strangeOf 62 = .ok (.iconst 1, 1) := by decide +kernel
theorem dX9_strangeOf_63 : decode cX9_strangeOf 63 = .ok (.goto 4, 3) := by decide +kernel
theorem dX9_strangeOf_66 : decode cX9_strangeOf 66 = .ok (.iconst 0, 1) := by decide +kernel
theorem dX9_strangeOf_67 : decode cX9_strangeOf 67 = .ok (.iadd, 1) := by decide +kernel
theorem dX9_strangeOf_68 : decode cX9_strangeOf 68 = .ok (.istore_n 3, 1) := by decide +kernel
theorem dX9_strangeOf_69 : decode cX9_strangeOf 69 = .ok (.iinc 4 1, 3) := by decide +kernel
theorem dX9_strangeOf_72 : decode cX9_strangeOf 72 = .ok (.goto (-67), 3) := by decide +kernel
theorem dX9_strangeOf_75 : decode cX9_strangeOf 75 = .ok (.iload_n 3, 1) := by decide +kernel
theorem dX9_strangeOf_76 : decode cX9_strangeOf 76 = .ok (.ireturn, 1) := by decide +kernel
theorem dX9_strange_0 : decode cX9_strange 0 = .ok (.aload_n 0, 1) := by decide +kernel
theorem dX9_strange_1 : decode cX9_strange 1 = .ok (.iload_n 1, 1) := by decide +kernel
theorem dX9_strange_2 : decode cX9_strange 2 = .ok (.invokevirtual 163, 3) := by decide +kernel
theorem dX9_strange_5 : decode cX9_strange 5 = .ok (.ifCond .eq 11, 3) := by decide +kernel
theorem dX9_strange_8 : decode cX9_strange 8 = .ok (.aload_n 0, 1) := by decide +kernel
theorem dX9_strange_9 : decode cX9_strange 9 = .ok (.iload_n 2, 1) := by decide +kernel
theorem dX9_strange_10 : decode cX9_strange 10 = .ok (.invokevirtual 218, 3) := by decide +kernel
theorem dX9_strange_13 : decode cX9_strange 13 = .ok (.ifCond .ne 6, 3) := by decide +kernel
theorem dX9_strange_16 : decode cX9_strange 16 = .ok (.bipush (-101), 2) := by decide +kernel
theorem dX9_strange_18 : decode cX9_strange 18 = .ok (.ireturn, 1) := by decide +kernel
theorem dX9_strange_19 : decode cX9_strange 19 = .ok (.aload_n 0, 1) := by decide +kernel
theorem dX9_strange_20 : decode cX9_strange 20 = .ok (.iload_n 1, 1) := by decide +kernel
theorem dX9_strange_21 : decode cX9_strange 21 = .ok (.invokevirtual 196, 3) := by decide +kernel
theorem dX9_strange_24 : decode cX9_strange 24 = .ok (.ifCond .ne 6, 3) := by decide +kernel
theorem dX9_strange_27 : decode cX9_strange 27 = .ok (.bipush (-103), 2) := by decide +kernel
theorem dX9_strange_29 : decode cX9_strange 29 = .ok (.ireturn, 1) := by decide +kernel
theorem dX9_strange_30 : decode cX9_strange 30 = .ok (.aload_n 0, 1) := by decide +kernel
theorem dX9_strange_31 : decode cX9_strange 31 = .ok (.invokevirtual 223, 3) := by decide +kernel
theorem dX9_strange_34 : decode cX9_strange 34 = .ok (.aload_n 0, 1) := by decide +kernel
theorem dX9_strange_35 : decode cX9_strange 35 = .ok (.iload_n 1, 1) := by decide +kernel
theorem dX9_strange_36 : decode cX9_strange 36 = .ok (.iload_n 2, 1) := by decide +kernel
theorem dX9_strange_37 : decode cX9_strange 37 = .ok (.invokevirtual 230, 3) := by decide +kernel
theorem dX9_strange_40 : decode cX9_strange 40 = .ok (.ireturn, 1) := by decide +kernel
theorem dX9_say_0 : decode cX9_say 0 = .ok (.aload_n 0, 1) := by decide +kernel
theorem dX9_say_1 : decode cX9_say 1 = .ok (.iload_n 1, 1) := by decide +kernel
theorem dX9_say_2 : decode cX9_say 2 = .ok (.iload_n 3, 1) := by decide +kernel
theorem dX9_say_3 : decode cX9_say 3 = .ok (.invokevirtual 233, 3) := by decide +kernel
theorem dX9_say_6 : decode cX9_say 6 = .ok (.ifCond .eq 11, 3) := by decide +kernel
theorem dX9_say_9 : decode cX9_say 9 = .ok (.aload_n 0, 1) := by decide +kernel
theorem dX9_say_10 : decode cX9_say 10 = .ok (.iload_n 2, 1) := by decide +kernel
theorem dX9_say_11 : decode cX9_say 11 = .ok (.invokevirtual 218, 3) := by decide +kernel
theorem dX9_say_14 : decode cX9_say 14 = .ok (.ifCond .ne 6, 3) := by decide +kernel
theorem dX9_say_17 : decode cX9_say 17 = .ok (.bipush (-101), 2) := by decide +kernel
theorem dX9_say_19 : decode cX9_say 19 = .ok (.ireturn, 1) := by decide +kernel
theorem dX9_say_20 : decode cX9_say 20 = .ok (.aload_n 0, 1) := by decide +kernel
theorem dX9_say_21 : decode cX9_say 21 = .ok (.iload_n 1, 1) := by decide +kernel
theorem dX9_say_22 : decode cX9_say 22 = .ok (.invokevirtual 196, 3) := by decide +kernel
theorem dX9_say_25 : decode cX9_say 25 = .ok (.ifCond .ne 6, 3) := by decide +kernel
theorem dX9_say_28 : decode cX9_say 28 = .ok (.bipush (-103), 2) := by decide +kernel
theorem dX9_say_30 : decode cX9_say 30 = .ok (.ireturn, 1) := by decide +kernel
theorem dX9_say_31 : decode cX9_say 31 = .ok (.aload_n 0, 1) := by decide +kernel
theorem dX9_say_32 : decode cX9_say 32 = .ok (.invokevirtual 223, 3) := by decide +kernel
theorem dX9_say_35 : decode cX9_say 35 = .ok (.aload_n 0, 1) := by decide +kernel
theorem dX9_say_36 : decode cX9_say 36 = .ok (.iload_n 1, 1) := by decide +kernel
theorem dX9_say_37 : decode cX9_say 37 = .ok (.iload_n 2, 1) := by decide +kernel
theorem dX9_say_38 : decode cX9_say 38 = .ok (.iload_n 3, 1) := by decide +kernel
theorem dX9_say_39 : decode cX9_say 39 = .ok (.invokevirtual 226, 3) := by decide +kernel
theorem dX9_say_42 : decode cX9_say 42 = .ok (.istore 4, 2) := by decide +kernel
theorem dX9_say_44 : decode cX9_say 44 = .ok (.iload 4, 2) := by decide +kernel
theorem dX9_say_46 : decode cX9_say 46 = .ok (.iconst (-1), 1) := by decide +kernel
theorem dX9_say_47 : decode cX9_say 47 = .ok (.if_icmp .ne 12, 3) := by decide +kernel
theorem dX9_say_50 : decode cX9_say 50 = .ok (.aload_n 0, 1) := by decide +kernel
theorem dX9_say_51 : decode cX9_say 51 = .ok (.iload_n 1, 1) := by decide +kernel
theorem dX9_say_52 : decode cX9_say 52 = .ok (.iload_n 3, 1) := by decide +kernel
theorem dX9_say_53 : decode cX9_say 53 = .ok (.invokevirtual 205, 3) := by decide +kernel
theorem dX9_say_56 : decode cX9_say 56 = .ok (.goto 5, 3) := by decide +kernel
theorem dX9_say_59 : decode cX9_say 59 = .ok (.iload 4, 2) := by decide +kernel
theorem dX9_say_61 : decode cX9_say 61 = .ok (.ireturn, 1) := by decide +kernel
theorem dX9_isBorrowed_0 : decode cX9_isBorrowed 0 = .ok (.aload_n 0, 1) := by decide +kernel
theorem dX9_isBorrowed_1 : decode cX9_isBorrowed 1 = .ok (.iload_n 1, 1) := by decide +kernel
theorem dX9_isBorrowed_2 : decode cX9_isBorrowed 2 = .ok (.iload_n 2, 1) := by decide +kernel
theorem dX9_isBorrowed_3 : decode cX9_isBorrowed 3 = .ok (.invokevirtual 230, 3) := by decide +kernel
theorem dX9_isBorrowed_6 : decode cX9_isBorrowed 6 = .ok (.istore_n 3, 1) := by decide +kernel
theorem dX9_isBorrowed_7 : decode cX9_isBorrowed 7 = .ok (.iload_n 3, 1) := by decide +kernel
theorem dX9_isBorrowed_8 : decode cX9_isBorrowed 8 = .ok (.iconst 1, 1) := by decide +kernel
theorem dX9_isBorrowed_9 : decode cX9_isBorrowed 9 = .ok (.if_icmp .gt 13, 3) := by decide +kernel
theorem dX9_isBorrowed_12 : decode cX9_isBorrowed 12 = .ok (.iload_n 3, 1) := by decide +kernel
theorem dX9_isBorrowed_13 : decode cX9_isBorrowed 13 = .ok (.aload_n 0, 1) := by decide +kernel
theorem dX9_isBorrowed_14 : decode cX9_isBorrowed 14 = .ok (.getfield 25, 3) := by decide +kernel
theorem dX9_isBorrowed_17 : decode cX9_isBorrowed 17 = .ok (.iload_n 1, 1) := by decide +kernel
theorem dX9_isBorrowed_18 : decode cX9_isBorrowed 18 = .ok (.iaload, 1) := by decide +kernel
theorem dX9_isBorrowed_19 : decode cX9_isBorrowed 19 = .ok (.if_icmp .ne 7, 3) := by decide +kernel
theorem dX9_isBorrowed_22 : decode cX9_isBorrowed 22 = .ok (.iconst 1, 1) := by decide +kernel
theorem dX9_isBorrowed_23 : decode cX9_isBorrowed 23 = .ok (.goto 4, 3) := by decide +kernel
theorem dX9_isBorrowed_26 : decode cX9_isBorrowed 26 = .ok (.iconst 0, 1) := by decide +kernel
theorem dX9_isBorrowed_27 : decode cX9_isBorrowed 27 = .ok (.ireturn, 1) := by decide +kernel
theorem dX9_strangeAll_0 : decode cX9_strangeAll 0 = .ok (.iconst 0, 1) := by decide +kernel
theorem dX9_strangeAll_1 : decode cX9_strangeAll 1 = .ok (.istore_n 2, 1) := by decide +kernel
theorem dX9_strangeAll_2 : decode cX9_strangeAll 2 = .ok (.iconst 0, 1) := by decide +kernel
theorem dX9_strangeAll_3 : decode cX9_strangeAll 3 = .ok (.istore_n 3, 1) := by decide +kernel
theorem dX9_strangeAll_4 : decode cX9_strangeAll 4 = .ok (.iload_n 3, 1) := by decide +kernel
theorem dX9_strangeAll_5 : decode cX9_strangeAll 5 = .ok (.aload_n 0, 1) := by decide +kernel
theorem dX9_strangeAll_6 : decode cX9_strangeAll 6 = .ok (.getfield 150, 3) := by decide +kernel
theorem dX9_strangeAll_9 : decode cX9_strangeAll 9 = .ok (.if_icmp .ge 18, 3) := by decide +kernel
theorem dX9_strangeAll_12 : decode cX9_strangeAll 12 = .ok (.iload_n 2, 1) := by decide +kernel
theorem dX9_strangeAll_13 : decode cX9_strangeAll 13 = .ok (.aload_n 0, 1) := by decide +kernel
theorem dX9_strangeAll_14 : decode cX9_strangeAll 14 = .ok (.iload_n 1, 1) := by decide +kernel
theorem dX9_strangeAll_15 : decode cX9_strangeAll 15 = .ok (.iload_n 3, 1) := by decide +kernel
theorem dX9_strangeAll_16 : decode cX9_strangeAll 16 = .ok (.invokevirtual 230, 3) := by decide +kernel
theorem dX9_strangeAll_19 : decode cX9_strangeAll 19 = .ok (.iadd, 1) := by decide +kernel
theorem dX9_strangeAll_20 : decode cX9_strangeAll 20 = .ok (.istore_n 2, 1) := by decide +kernel
theorem dX9_strangeAll_21 : decode cX9_strangeAll 21 = .ok (.iinc 3 1, 3) := by decide +kernel
theorem dX9_strangeAll_24 : decode cX9_strangeAll 24 = .ok (.goto (-20), 3) := by decide +kernel
theorem dX9_strangeAll_27 : decode cX9_strangeAll 27 = .ok (.iload_n 2, 1) := by decide +kernel
theorem dX9_strangeAll_28 : decode cX9_strangeAll 28 = .ok (.ireturn, 1) := by decide +kernel
theorem dX9_borrowed_0 : decode cX9_borrowed 0 = .ok (.iconst 0, 1) := by decide +kernel
theorem dX9_borrowed_1 : decode cX9_borrowed 1 = .ok (.istore_n 2, 1) := by decide +kernel
theorem dX9_borrowed_2 : decode cX9_borrowed 2 = .ok (.iconst 0, 1) := by decide +kernel
theorem dX9_borrowed_3 : decode cX9_borrowed 3 = .ok (.istore_n 3, 1) := by decide +kernel
theorem dX9_borrowed_4 : decode cX9_borrowed 4 = .ok (.iload_n 3, 1) := by decide +kernel
theorem dX9_borrowed_5 : decode cX9_borrowed 5 = .ok (.aload_n 0, 1) := by decide +kernel
theorem dX9_borrowed_6 : decode cX9_borrowed 6 = .ok (.getfield 150, 3) := by decide +kernel
theorem dX9_borrowed_9 : decode cX9_borrowed 9 = .ok (.if_icmp .ge 28, 3) := by decide +kernel
theorem dX9_borrowed_12 : decode cX9_borrowed 12 = .ok (.iload_n 2, 1) := by decide +kernel
theorem dX9_borrowed_13 : decode cX9_borrowed 13 = .ok (.aload_n 0, 1) := by decide +kernel
theorem dX9_borrowed_14 : decode cX9_borrowed 14 = .ok (.iload_n 1, 1) := by decide +kernel
theorem dX9_borrowed_15 : decode cX9_borrowed 15 = .ok (.iload_n 3, 1) := by decide +kernel
theorem dX9_borrowed_16 : decode cX9_borrowed 16 = .ok (.invokevirtual 237, 3) := by decide +kernel
theorem dX9_borrowed_19 : decode cX9_borrowed 19 = .ok (.ifCond .eq 9, 3) := by decide +kernel
theorem dX9_borrowed_22 : decode cX9_borrowed 22 = .ok (.iconst 1, 1) := by decide +kernel
theorem dX9_borrowed_23 : decode cX9_borrowed 23 = .ok (.iload_n 3, 1) := by decide +kernel
theorem dX9_borrowed_24 : decode cX9_borrowed 24 = .ok (.ishl, 1) := by decide +kernel
theorem dX9_borrowed_25 : decode cX9_borrowed 25 = .ok (.goto 4, 3) := by decide +kernel
theorem dX9_borrowed_28 : decode cX9_borrowed 28 = .ok (.iconst 0, 1) := by decide +kernel
theorem dX9_borrowed_29 : decode cX9_borrowed 29 = .ok (.ior, 1) := by decide +kernel
theorem dX9_borrowed_30 : decode cX9_borrowed 30 = .ok (.istore_n 2, 1) := by decide +kernel
theorem dX9_borrowed_31 : decode cX9_borrowed 31 = .ok (.iinc 3 1, 3) := by decide +kernel
theorem dX9_borrowed_34 : decode cX9_borrowed 34 = .ok (.goto (-30), 3) := by decide +kernel
theorem dX9_borrowed_37 : decode cX9_borrowed 37 = .ok (.iload_n 2, 1) := by decide +kernel
theorem dX9_borrowed_38 : decode cX9_borrowed 38 = .ok (.ireturn, 1) := by decide +kernel
theorem dX9_strip_0 : decode cX9_strip 0 = .ok (.iconst 0, 1) := by decide +kernel
theorem dX9_strip_1 : decode cX9_strip 1 = .ok (.istore 4, 2) := by decide +kernel
theorem dX9_strip_3 : decode cX9_strip 3 = .ok (.iconst 0, 1) := by decide +kernel
theorem dX9_strip_4 : decode cX9_strip 4 = .ok (.istore 5, 2) := by decide +kernel
theorem dX9_strip_6 : decode cX9_strip 6 = .ok (.iload 5, 2) := by decide +kernel
theorem dX9_strip_8 : decode cX9_strip 8 = .ok (.aload_n 0, 1) := by decide +kernel
theorem dX9_strip_9 : decode cX9_strip 9 = .ok (.getfield 25, 3) := by decide +kernel
theorem dX9_strip_12 : decode cX9_strip 12 = .ok (.iload_n 1, 1) := by decide +kernel
theorem dX9_strip_13 : decode cX9_strip 13 = .ok (.iaload, 1) := by decide +kernel
theorem dX9_strip_14 : decode cX9_strip 14 = .ok (.if_icmp .ge 41, 3) := by decide +kernel
theorem dX9_strip_17 : decode cX9_strip 17 = .ok (.aload_n 0, 1) := by decide +kernel
theorem dX9_strip_18 : decode cX9_strip 18 = .ok (.getfield 28, 3) := by decide +kernel
theorem dX9_strip_21 : decode cX9_strip 21 = .ok (.bipush 16, 2) := by decide +kernel
theorem dX9_strip_23 : decode cX9_strip 23 = .ok (.iload_n 1, 1) := by decide +kernel
theorem dX9_strip_24 : decode cX9_strip 24 = .ok (.imul, 1) := by decide +kernel
theorem dX9_strip_25 : decode cX9_strip 25 = .ok (.iconst 4, 1) := by decide +kernel
theorem dX9_strip_26 : decode cX9_strip 26 = .ok (.iload_n 2, 1) := by decide +kernel
theorem dX9_strip_27 : decode cX9_strip 27 = .ok (.imul, 1) := by decide +kernel
theorem dX9_strip_28 : decode cX9_strip 28 = .ok (.iadd, 1) := by decide +kernel
theorem dX9_strip_29 : decode cX9_strip 29 = .ok (.iload 5, 2) := by decide +kernel
theorem dX9_strip_31 : decode cX9_strip 31 = .ok (.iadd, 1) := by decide +kernel
theorem dX9_strip_32 : decode cX9_strip 32 = .ok (.iaload, 1) := by decide +kernel
theorem dX9_strip_33 : decode cX9_strip 33 = .ok (.istore 6, 2) := by decide +kernel
theorem dX9_strip_35 : decode cX9_strip 35 = .ok (.iload 6, 2) := by decide +kernel
theorem dX9_strip_37 : decode cX9_strip 37 = .ok (.ifCond .eq 12, 3) := by decide +kernel
theorem dX9_strip_40 : decode cX9_strip 40 = .ok (.aload_n 3, 1) := by decide +kernel
theorem dX9_strip_41 : decode cX9_strip 41 = .ok (.iload 4, 2) := by decide +kernel
theorem dX9_strip_43 : decode cX9_strip 43 = .ok (.iload 6, 2) := by decide +kernel
theorem dX9_strip_45 : decode cX9_strip 45 = .ok (.iastore, 1) := by decide +kernel
theorem dX9_strip_46 : decode cX9_strip 46 = .ok (.iinc 4 1, 3) := by decide +kernel
theorem dX9_strip_49 : decode cX9_strip 49 = .ok (.iinc 5 1, 3) := by decide +kernel
theorem dX9_strip_52 : decode cX9_strip 52 = .ok (.goto (-46), 3) := by decide +kernel
theorem dX9_strip_55 : decode cX9_strip 55 = .ok (.iload 4, 2) := by decide +kernel
theorem dX9_strip_57 : decode cX9_strip 57 = .ok (.ireturn, 1) := by decide +kernel
theorem dX9_line_0 : decode cX9_line 0 = .ok (.aload_n 0, 1) := by decide +kernel
theorem dX9_line_1 : decode cX9_line 1 = .ok (.iload_n 1, 1) := by decide +kernel
theorem dX9_line_2 : decode cX9_line 2 = .ok (.invokevirtual 163, 3) := by decide +kernel
theorem dX9_line_5 : decode cX9_line 5 = .ok (.ifCond .eq 28, 3) := by decide +kernel
theorem dX9_line_8 : decode cX9_line 8 = .ok (.aload_n 0, 1) := by decide +kernel
theorem dX9_line_9 : decode cX9_line 9 = .ok (.iload_n 3, 1) := by decide +kernel
theorem dX9_line_10 : decode cX9_line 10 = .ok (.invokevirtual 163, 3) := by decide +kernel
theorem dX9_line_13 : decode cX9_line 13 = .ok (.ifCond .eq 20, 3) := by decide +kernel
theorem dX9_line_16 : decode cX9_line 16 = .ok (.aload_n 0, 1) := by decide +kernel
theorem dX9_line_17 : decode cX9_line 17 = .ok (.iload_n 2, 1) := by decide +kernel
theorem dX9_line_18 : decode cX9_line 18 = .ok (.invokevirtual 218, 3) := by decide +kernel
theorem dX9_line_21 : decode cX9_line 21 = .ok (.ifCond .eq 12, 3) := by decide +kernel
theorem dX9_line_24 : decode cX9_line 24 = .ok (.aload_n 0, 1) := by decide +kernel
theorem dX9_line_25 : decode cX9_line 25 = .ok (.iload 4, 2) := by decide +kernel
theorem dX9_line_27 : decode cX9_line 27 = .ok (.invokevirtual 218, 3) := by decide +kernel
theorem dX9_line_30 : decode cX9_line 30 = .ok (.ifCond .ne 6, 3) := by decide +kernel
theorem dX9_line_33 : decode cX9_line 33 = .ok (.bipush (-101), 2) := by decide +kernel
theorem dX9_line_35 : decode cX9_line 35 = .ok (.ireturn, 1) := by decide +kernel
theorem dX9_line_36 : decode cX9_line 36 = .ok (.aload_n 0, 1) := by decide +kernel
theorem dX9_line_37 : decode cX9_line 37 = .ok (.iload_n 1, 1) := by decide +kernel
theorem dX9_line_38 : decode cX9_line 38 = .ok (.iload_n 2, 1) := by decide +kernel
theorem dX9_line_39 : decode cX9_line 39 = .ok (.aload_n 0, 1) := by decide +kernel
theorem dX9_line_40 : decode cX9_line 40 = .ok (.getfield 58, 3) := by decide +kernel
theorem dX9_line_43 : decode cX9_line 43 = .ok (.invokevirtual 240, 3) := by decide +kernel
theorem dX9_line_46 : decode cX9_line 46 = .ok (.istore 5, 2) := by decide +kernel
theorem dX9_line_48 : decode cX9_line 48 = .ok (.aload_n 0, 1) := by decide +kernel
theorem dX9_line_49 : decode cX9_line 49 = .ok (.iload_n 3, 1) := by decide +kernel
theorem dX9_line_50 : decode cX9_line 50 = .ok (.iload 4, 2) := by decide +kernel
theorem dX9_line_52 : decode cX9_line 52 = .ok (.aload_n 0, 1) := by decide +kernel
theorem dX9_line_53 : decode cX9_line 53 = .ok (.getfield 61, 3) := by decide +kernel
theorem dX9_line_56 : decode cX9_line 56 = .ok (.invokevirtual 240, 3) := by decide +kernel
theorem dX9_line_59 : decode cX9_line 59 = .ok (.istore 6, 2) := by decide +kernel
theorem dX9_line_61 : decode cX9_line 61 = .ok (.iconst 0, 1) := by decide +kernel
theorem dX9_line_62 : decode cX9_line 62 = .ok (.istore 7, 2) := by decide +kernel
theorem dX9_line_64 : decode cX9_line 64 = .ok (.iload 7, 2) := by decide +kernel
theorem dX9_line_66 : decode cX9_line 66 = .ok (.iload 5, 2) := by decide +kernel
theorem dX9_line_68 : decode cX9_line 68 = .ok (.if_icmp .gt 215, 3) := by decide +kernel
theorem dX9_line_71 : decode cX9_line 71 = .ok (.iconst 0, 1) := by decide +kernel
theorem dX9_line_72 : decode cX9_line 72 = .ok (.istore 8, 2) := by decide +kernel
theorem dX9_line_74 : decode cX9_line 74 = .ok (.iload 8, 2) := by decide +kernel
theorem dX9_line_76 : decode cX9_line 76 = .ok (.iload 6, 2) := by decide +kernel
theorem dX9_line_78 : decode cX9_line 78 = .ok (.if_icmp .gt 199, 3) := by decide +kernel
theorem dX9_line_81 : decode cX9_line 81 = .ok (.iload 7, 2) := by decide +kernel
theorem dX9_line_83 : decode cX9_line 83 = .ok (.ifCond .ne 12, 3) := by decide +kernel
theorem dX9_line_86 : decode cX9_line 86 = .ok (.iload 8, 2) := by decide +kernel
theorem dX9_line_88 : decode cX9_line 88 = .ok (.ifCond .ne 7, 3) := by decide +kernel
theorem dX9_line_91 : decode cX9_line 91 = .ok (.iconst 0, 1) := by decide +kernel
theorem dX9_line_92 : decode cX9_line 92 = .ok (.goto 6, 3) := by decide +kernel
theorem dX9_line_95 : decode cX9_line 95 = .ok (.sipush 9999, 3) := by decide +kernel
theorem dX9_line_98 : decode cX9_line 98 = .ok (.istore 9, 2) := by decide +kernel
theorem dX9_line_100 : decode cX9_line 100 = .ok (.iload 7, 2) := by decide +kernel
theorem dX9_line_102 : decode cX9_line 102 = .ok (.ifCond .ne 9, 3) := by decide +kernel
theorem dX9_line_105 : decode cX9_line 105 = .ok (.sipush 9999, 3) := by decide +kernel
theorem dX9_line_108 : decode cX9_line 108 = .ok (.goto 19, 3) := by decide +kernel
theorem dX9_line_111 : decode cX9_line 111 = .ok (.aload_n 0, 1) := by decide +kernel
theorem dX9_line_112 : decode cX9_line 112 = .ok (.getfield 64, 3) := by decide +kernel
theorem dX9_line_115 : decode cX9_line 115 = .ok (.iconst 5, 1) := by decide +kernel
theorem dX9_line_116 : decode cX9_line 116 = .ok (.iload 7, 2) := by decide +kernel
theorem dX9_line_118 : decode cX9_line 118 = .ok (.imul, 1) := by decide +kernel
theorem dX9_line_119 : decode cX9_line 119 = .ok (.iconst 5, 1) := by decide +kernel
theorem dX9_line_120 : decode cX9_line 120 = .ok (.isub, 1) := by decide +kernel
theorem dX9_line_121 : decode cX9_line 121 = .ok (.iload 8, 2) := by decide +kernel
theorem dX9_line_123 : decode cX9_line 123 = .ok (.iadd, 1) := by decide +kernel
theorem dX9_line_124 : decode cX9_line 124 = .ok (.iaload, 1) := by decide +kernel
theorem dX9_line_125 : decode cX9_line 125 = .ok (.iconst 3, 1) := by decide +kernel
theorem dX9_line_126 : decode cX9_line 126 = .ok (.iadd, 1) := by decide +kernel
theorem dX9_line_127 : decode cX9_line 127 = .ok (.istore 10, 2) := by decide +kernel
theorem dX9_line_129 : decode cX9_line 129 = .ok (.iload 8, 2) := by decide +kernel
theorem dX9_line_131 : decode cX9_line 131 = .ok (.ifCond .ne 9, 3) := by decide +kernel
theorem dX9_line_134 : decode cX9_line 134 = .ok (.sipush 9999, 3) := by decide +kernel
theorem dX9_line_137 : decode cX9_line 137 = .ok (.goto 19, 3) := by decide +kernel
theorem dX9_line_140 : decode cX9_line 140 = .ok (.aload_n 0, 1) := by decide +kernel
theorem dX9_line_141 : decode cX9_line 141 = .ok (.getfield 64, 3) := by decide +kernel
theorem dX9_line_144 : decode cX9_line 144 = .ok (.iconst 5, 1) := by decide +kernel
theorem dX9_line_145 : decode cX9_line 145 = .ok (.iload 7, 2) := by decide +kernel
theorem dX9_line_147 : decode cX9_line 147 = .ok (.imul, 1) := by decide +kernel
theorem dX9_line_148 : decode cX9_line 148 = .ok (.iload 8, 2) := by decide +kernel
theorem dX9_line_150 : decode cX9_line 150 = .ok (.iadd, 1) := by decide +kernel
theorem dX9_line_151 : decode cX9_line 151 = .ok (.iconst 1, 1) := by decide +kernel
theorem dX9_line_152 : decode cX9_line 152 = .ok (.isub, 1) := by decide +kernel
theorem dX9_line_153 : decode cX9_line 153 = .ok (.iaload, 1) := by decide +kernel
theorem dX9_line_154 : decode cX9_line 154 = .ok (.iconst 3, 1) := by decide +kernel
theorem dX9_line_155 : decode cX9_line 155 = .ok (.iadd, 1) := by decide +kernel
theorem dX9_line_156 : decode cX9_line 156 = .ok (.istore 11, 2) := by decide +kernel
theorem dX9_line_158 : decode cX9_line 158 = .ok (.iload 7, 2) := by decide +kernel
theorem dX9_line_160 : decode cX9_line 160 = .ok (.ifCond .eq 8, 3) := by decide +kernel
theorem dX9_line_163 : decode cX9_line 163 = .ok (.iload 8, 2) := by decide +kernel
theorem dX9_line_165 : decode cX9_line 165 = .ok (.ifCond .ne 9, 3) := by decide +kernel
theorem dX9_line_168 : decode cX9_line 168 = .ok (.sipush 9999, 3) := by decide +kernel
theorem dX9_line_171 : decode cX9_line 171 = .ok (.goto 40, 3) := by decide +kernel
theorem dX9_line_174 : decode cX9_line 174 = .ok (.aload_n 0, 1) := by decide +kernel
theorem dX9_line_175 : decode cX9_line 175 = .ok (.getfield 64, 3) := by decide +kernel
theorem dX9_line_178 : decode cX9_line 178 = .ok (.iconst 5, 1) := by decide +kernel
theorem dX9_line_179 : decode cX9_line 179 = .ok (.iload 7, 2) := by decide +kernel
theorem dX9_line_181 : decode cX9_line 181 = .ok (.imul, 1) := by decide +kernel
theorem dX9_line_182 : decode cX9_line 182 = .ok (.iload 8, 2) := by decide +kernel
theorem dX9_line_184 : decode cX9_line 184 = .ok (.iadd, 1) := by decide +kernel
theorem dX9_line_185 : decode cX9_line 185 = .ok (.bipush 6, 2) := by decide +kernel
theorem dX9_line_187 : decode cX9_line 187 = .ok (.isub, 1) := by decide +kernel
theorem dX9_line_188 : decode cX9_line 188 = .ok (.iaload, 1) := by decide +kernel
theorem dX9_line_189 : decode cX9_line 189 = .ok (.aload_n 0, 1) := by decide +kernel
theorem dX9_line_190 : decode cX9_line 190 = .ok (.getfield 58, 3) := by decide +kernel
theorem dX9_line_193 : decode cX9_line 193 = .ok (.iload 7, 2) := by decide +kernel
theorem dX9_line_195 : decode cX9_line 195 = .ok (.iconst 1, 1) := by decide +kernel
theorem dX9_line_196 : decode cX9_line 196 = .ok (.isub, 1) := by decide +kernel
theorem dX9_line_197 : decode cX9_line 197 = .ok (.iaload, 1) := by decide +kernel
theorem dX9_line_198 : decode cX9_line 198 = .ok (.aload_n 0, 1) := by decide +kernel
theorem dX9_line_199 : decode cX9_line 199 = .ok (.getfield 61, 3) := by decide +kernel
theorem dX9_line_202 : decode cX9_line 202 = .ok (.iload 8, 2) := by decide +kernel
theorem dX9_line_204 : decode cX9_line 204 = .ok (.iconst 1, 1) := by decide +kernel
theorem dX9_line_205 : decode cX9_line 205 = .ok (.isub, 1) := by decide +kernel
theorem dX9_line_206 : decode cX9_line 206 = .ok (.iaload, 1) := by decide +kernel
theorem dX9_line_207 : decode cX9_line 207 = .ok (.invokestatic 173, 3) := by decide +kernel
theorem dX9_line_210 : decode cX9_line 210 = .ok (.iadd, 1) := by decide +kernel
theorem dX9_line_211 : decode cX9_line 211 = .ok (.istore 12, 2) := by decide +kernel
theorem dX9_line_213 : decode cX9_line 213 = .ok (.iload 10, 2) := by decide +kernel
theorem dX9_line_215 : decode cX9_line 215 = .ok (.iload 9, 2) := by decide +kernel
theorem dX9_line_217 : decode cX9_line 217 = .ok (.if_icmp .ge 8, 3) := by decide +kernel
theorem dX9_line_220 : decode cX9_line 220 = .ok (.iload 10, 2) := by decide +kernel
theorem dX9_line_222 : decode cX9_line 222 = .ok (.goto 5, 3) := by decide +kernel
theorem dX9_line_225 : decode cX9_line 225 = .ok (.iload 9, 2) := by decide +kernel
theorem dX9_line_227 : decode cX9_line 227 = .ok (.istore 9, 2) := by decide +kernel
theorem dX9_line_229 : decode cX9_line 229 = .ok (.iload 11, 2) := by decide +kernel
theorem dX9_line_231 : decode cX9_line 231 = .ok (.iload 9, 2) := by decide +kernel
theorem dX9_line_233 : decode cX9_line 233 = .ok (.if_icmp .ge 8, 3) := by decide +kernel
theorem dX9_line_236 : decode cX9_line 236 = .ok (.iload 11, 2) := by decide +kernel
theorem dX9_line_238 : decode cX9_line 238 = .ok (.goto 5, 3) := by decide +kernel
theorem dX9_line_241 : decode cX9_line 241 = .ok (.iload 9, 2) := by decide +kernel
theorem dX9_line_243 : decode cX9_line 243 = .ok (.istore 9, 2) := by decide +kernel
theorem dX9_line_245 : decode cX9_line 245 = .ok (.aload_n 0, 1) := by decide +kernel
theorem dX9_line_246 : decode cX9_line 246 = .ok (.getfield 64, 3) := by decide +kernel
theorem dX9_line_249 : decode cX9_line 249 = .ok (.iconst 5, 1) := by decide +kernel
theorem dX9_line_250 : decode cX9_line 250 = .ok (.iload 7, 2) := by decide +kernel
theorem dX9_line_252 : decode cX9_line 252 = .ok (.imul, 1) := by decide +kernel
theorem dX9_line_253 : decode cX9_line 253 = .ok (.iload 8, 2) := by decide +kernel
theorem dX9_line_255 : decode cX9_line 255 = .ok (.iadd, 1) := by decide +kernel
theorem dX9_line_256 : decode cX9_line 256 = .ok (.iload 12, 2) := by decide +kernel
theorem dX9_line_258 : decode cX9_line 258 = .ok (.iload 9, 2) := by decide +kernel
theorem dX9_line_260 : decode cX9_line 260 = .ok (.if_icmp .ge 8, 3) := by decide +kernel
theorem dX9_line_263 : decode cX9_line 263 = .ok (.iload 12, 2) := by decide +kernel
theorem dX9_line_265 : decode cX9_line 265 = .ok (.goto 5, 3) := by decide +kernel
theorem dX9_line_268 : decode cX9_line 268 = .ok (.iload 9, 2) := by decide +kernel
theorem dX9_line_270 : decode cX9_line 270 = .ok (.iastore, 1) := by decide +kernel
theorem dX9_line_271 : decode cX9_line 271 = .ok (.iinc 8 1, 3) := by decide +kernel
theorem dX9_line_274 : decode cX9_line 274 = .ok (.goto (-200), 3) := by decide +kernel
theorem dX9_line_277 : decode cX9_line 277 = .ok (.iinc 7 1, 3) := by decide +kernel
theorem dX9_line_280 : decode cX9_line 280 = .ok (.goto (-216), 3) := by decide +kernel
theorem dX9_line_283 : decode cX9_line 283 = .ok (.aload_n 0, 1) := by decide +kernel
theorem dX9_line_284 : decode cX9_line 284 = .ok (.getfield 64, 3) := by decide +kernel
theorem dX9_line_287 : decode cX9_line 287 = .ok (.iconst 5, 1) := by decide +kernel
theorem dX9_line_288 : decode cX9_line 288 = .ok (.iload 5, 2) := by decide +kernel
theorem dX9_line_290 : decode cX9_line 290 = .ok (.imul, 1) := by decide +kernel
theorem dX9_line_291 : decode cX9_line 291 = .ok (.iload 6, 2) := by decide +kernel
theorem dX9_line_293 : decode cX9_line 293 = .ok (.iadd, 1) := by decide +kernel
theorem dX9_line_294 : decode cX9_line 294 = .ok (.iaload, 1) := by decide +kernel
theorem dX9_line_295 : decode cX9_line 295 = .ok (.ireturn, 1) := by decide +kernel
theorem dX9_tellSet_0 : decode cX9_tellSet 0 = .ok (.aload_n 0, 1) := by decide +kernel
theorem dX9_tellSet_1 : decode cX9_tellSet 1 = .ok (.invokevirtual 223, 3) := by decide +kernel
theorem dX9_tellSet_4 : decode cX9_tellSet 4 = .ok (.iload_n 2, 1) := by decide +kernel
theorem dX9_tellSet_5 : decode cX9_tellSet 5 = .ok (.tableswitch 88 0 6 #[43, 50, 57, 64, 70, 76, 82], 43) := by decide +kernel
theorem dX9_tellSet_48 : decode cX9_tellSet 48 = .ok (.aload_n 0, 1) := by decide +kernel
theorem dX9_tellSet_49 : decode cX9_tellSet 49 = .ok (.getfield 22, 3) := by decide +kernel
theorem dX9_tellSet_52 : decode cX9_tellSet 52 = .ok (.iload_n 1, 1) := by decide +kernel
theorem dX9_tellSet_53 : decode cX9_tellSet 53 = .ok (.iaload, 1) := by decide +kernel
theorem dX9_tellSet_54 : decode cX9_tellSet 54 = .ok (.ireturn, 1) := by decide +kernel
theorem dX9_tellSet_55 : decode cX9_tellSet 55 = .ok (.aload_n 0, 1) := by decide +kernel
theorem dX9_tellSet_56 : decode cX9_tellSet 56 = .ok (.getfield 25, 3) := by decide +kernel
theorem dX9_tellSet_59 : decode cX9_tellSet 59 = .ok (.iload_n 1, 1) := by decide +kernel
theorem dX9_tellSet_60 : decode cX9_tellSet 60 = .ok (.iaload, 1) := by decide +kernel
theorem dX9_tellSet_61 : decode cX9_tellSet 61 = .ok (.ireturn, 1) := by decide +kernel
theorem dX9_tellSet_62 : decode cX9_tellSet 62 = .ok (.aload_n 0, 1) := by decide +kernel
theorem dX9_tellSet_63 : decode cX9_tellSet 63 = .ok (.getfield 43, 3) := by decide +kernel
theorem dX9_tellSet_66 : decode cX9_tellSet 66 = .ok (.iload_n 1, 1) := by decide +kernel
theorem dX9_tellSet_67 : decode cX9_tellSet 67 = .ok (.iaload, 1) := by decide +kernel
theorem dX9_tellSet_68 : decode cX9_tellSet 68 = .ok (.ireturn, 1) := by decide +kernel
theorem dX9_tellSet_69 : decode cX9_tellSet 69 = .ok (.aload_n 0, 1) := by decide +kernel
theorem dX9_tellSet_70 : decode cX9_tellSet 70 = .ok (.iload_n 1, 1) := by decide +kernel
theorem dX9_tellSet_71 : decode cX9_tellSet 71 = .ok (.invokevirtual 244, 3) := by decide +kernel
theorem dX9_tellSet_74 : decode cX9_tellSet 74 = .ok (.ireturn, 1) := by decide +kernel
theorem dX9_tellSet_75 : decode cX9_tellSet 75 = .ok (.aload_n 0, 1) := by decide +kernel
theorem dX9_tellSet_76 : decode cX9_tellSet 76 = .ok (.iload_n 1, 1) := by decide +kernel
theorem dX9_tellSet_77 : decode cX9_tellSet 77 = .ok (.invokevirtual 247, 3) := by decide +kernel
theorem dX9_tellSet_80 : decode cX9_tellSet 80 = .ok (.ireturn, 1) := by decide +kernel
theorem dX9_tellSet_81 : decode cX9_tellSet 81 = .ok (.aload_n 0, 1) := by decide +kernel
theorem dX9_tellSet_82 : decode cX9_tellSet 82 = .ok (.iload_n 1, 1) := by decide +kernel
theorem dX9_tellSet_83 : decode cX9_tellSet 83 = .ok (.invokevirtual 250, 3) := by decide +kernel
theorem dX9_tellSet_86 : decode cX9_tellSet 86 = .ok (.ireturn, 1) := by decide +kernel
theorem dX9_tellSet_87 : decode cX9_tellSet 87 = .ok (.aload_n 0, 1) := by decide +kernel
theorem dX9_tellSet_88 : decode cX9_tellSet 88 = .ok (.iload_n 1, 1) := by decide +kernel
theorem dX9_tellSet_89 : decode cX9_tellSet 89 = .ok (.invokevirtual 253, 3) := by decide +kernel
theorem dX9_tellSet_92 : decode cX9_tellSet 92 = .ok (.ireturn, 1) := by decide +kernel
theorem dX9_tellSet_93 : decode cX9_tellSet 93 = .ok (.bipush (-102), 2) := by decide +kernel
theorem dX9_tellSet_95 : decode cX9_tellSet 95 = .ok (.ireturn, 1) := by decide +kernel
theorem dX9_set_0 : decode cX9_set 0 = .ok (.aload_n 0, 1) := by decide +kernel
theorem dX9_set_1 : decode cX9_set 1 = .ok (.iload_n 1, 1) := by decide +kernel
theorem dX9_set_2 : decode cX9_set 2 = .ok (.invokevirtual 163, 3) := by decide +kernel
theorem dX9_set_5 : decode cX9_set 5 = .ok (.ifCond .eq 12, 3) := by decide +kernel
theorem dX9_set_8 : decode cX9_set 8 = .ok (.aload_n 0, 1) := by decide +kernel
theorem dX9_set_9 : decode cX9_set 9 = .ok (.iload_n 1, 1) := by decide +kernel
theorem dX9_set_10 : decode cX9_set 10 = .ok (.iload_n 2, 1) := by decide +kernel
theorem dX9_set_11 : decode cX9_set 11 = .ok (.invokevirtual 256, 3) := by decide +kernel
theorem dX9_set_14 : decode cX9_set 14 = .ok (.goto 5, 3) := by decide +kernel
theorem dX9_set_17 : decode cX9_set 17 = .ok (.bipush (-101), 2) := by decide +kernel
theorem dX9_set_19 : decode cX9_set 19 = .ok (.ireturn, 1) := by decide +kernel
theorem dX9_as_0 : decode cX9_as 0 = .ok (.aload_n 0, 1) := by decide +kernel
theorem dX9_as_1 : decode cX9_as 1 = .ok (.iload_n 1, 1) := by decide +kernel
theorem dX9_as_2 : decode cX9_as 2 = .ok (.invokevirtual 163, 3) := by decide +kernel
theorem dX9_as_5 : decode cX9_as 5 = .ok (.ifCond .ne 6, 3) := by decide +kernel
theorem dX9_as_8 : decode cX9_as 8 = .ok (.bipush (-101), 2) := by decide +kernel
theorem dX9_as_10 : decode cX9_as 10 = .ok (.ireturn, 1) := by decide +kernel
theorem dX9_as_11 : decode cX9_as 11 = .ok (.iload_n 2, 1) := by decide +kernel
theorem dX9_as_12 : decode cX9_as 12 = .ok (.i2l, 1) := by decide +kernel
theorem dX9_as_13 : decode cX9_as 13 = .ok (.lconst 0, 1) := by decide +kernel
theorem dX9_as_14 : decode cX9_as 14 = .ok (.ldc2_w 259, 3) := by decide +kernel
theorem dX9_as_17 : decode cX9_as 17 = .ok (.invokestatic 88, 3) := by decide +kernel
theorem dX9_as_20 : decode cX9_as 20 = .ok (.ifCond .ne 6, 3) := by decide +kernel
theorem dX9_as_23 : decode cX9_as 23 = .ok (.bipush (-102), 2) := by decide +kernel
theorem dX9_as_25 : decode cX9_as 25 = .ok (.ireturn, 1) := by decide +kernel
theorem dX9_as_26 : decode cX9_as 26 = .ok (.iload_n 2, 1) := by decide +kernel
theorem dX9_as_27 : decode cX9_as 27 = .ok (.ifCond .eq 28, 3) := by decide +kernel
theorem dX9_as_30 : decode cX9_as 30 = .ok (.iload_n 2, 1) := by decide +kernel
theorem dX9_as_31 : decode cX9_as 31 = .ok (.aload_n 0, 1) := by decide +kernel
theorem dX9_as_32 : decode cX9_as 32 = .ok (.getfield 22, 3) := by decide +kernel
theorem dX9_as_35 : decode cX9_as 35 = .ok (.iload_n 1, 1) := by decide +kernel
theorem dX9_as_36 : decode cX9_as 36 = .ok (.iaload, 1) := by decide +kernel
theorem dX9_as_37 : decode cX9_as 37 = .ok (.if_icmp .eq 18, 3) := by decide +kernel
theorem dX9_as_40 : decode cX9_as 40 = .ok (.iload_n 2, 1) := by decide +kernel
theorem dX9_as_41 : decode cX9_as 41 = .ok (.iconst 1, 1) := by decide +kernel
theorem dX9_as_42 : decode cX9_as 42 = .ok (.if_icmp .ne 17, 3) := by decide +kernel
theorem dX9_as_45 : decode cX9_as 45 = .ok (.aload_n 0, 1) := by decide +kernel
theorem dX9_as_46 : decode cX9_as 46 = .ok (.getfield 22, 3) := by decide +kernel
theorem dX9_as_49 : decode cX9_as 49 = .ok (.iload_n 1, 1) := by decide +kernel
theorem dX9_as_50 : decode cX9_as 50 = .ok (.iaload, 1) := by decide +kernel
theorem dX9_as_51 : decode cX9_as 51 = .ok (.iconst 2, 1) := by decide +kernel
theorem dX9_as_52 : decode cX9_as 52 = .ok (.if_icmp .ne 7, 3) := by decide +kernel
theorem dX9_as_55 : decode cX9_as 55 = .ok (.iconst 1, 1) := by decide +kernel
theorem dX9_as_56 : decode cX9_as 56 = .ok (.goto 4, 3) := by decide +kernel
theorem dX9_as_59 : decode cX9_as 59 = .ok (.iconst 0, 1) := by decide +kernel
theorem dX9_as_60 : decode cX9_as 60 = .ok (.istore_n 3, 1) := by decide +kernel
theorem dX9_as_61 : decode cX9_as 61 = .ok (.iload_n 3, 1) := by decide +kernel
theorem dX9_as_62 : decode cX9_as 62 = .ok (.ifCond .eq 7, 3) := by decide +kernel
theorem dX9_as_65 : decode cX9_as 65 = .ok (.iload_n 1, 1) := by decide +kernel
theorem dX9_as_66 : decode cX9_as 66 = .ok (.goto 4, 3) := by decide +kernel
theorem dX9_as_69 : decode cX9_as 69 = .ok (.iconst (-1), 1) := by decide +kernel
theorem dX9_as_70 : decode cX9_as 70 = .ok (.ireturn, 1) := by decide +kernel
theorem dX9_sound_0 : decode cX9_sound 0 = .ok (.aload_n 0, 1) := by decide +kernel
theorem dX9_sound_1 : decode cX9_sound 1 = .ok (.iload_n 1, 1) := by decide +kernel
theorem dX9_sound_2 : decode cX9_sound 2 = .ok (.iload_n 3, 1) := by decide +kernel
theorem dX9_sound_3 : decode cX9_sound 3 = .ok (.invokevirtual 233, 3) := by decide +kernel
theorem dX9_sound_6 : decode cX9_sound 6 = .ok (.ifCond .eq 23, 3) := by decide +kernel
theorem dX9_sound_9 : decode cX9_sound 9 = .ok (.iload_n 2, 1) := by decide +kernel
theorem dX9_sound_10 : decode cX9_sound 10 = .ok (.i2l, 1) := by decide +kernel
theorem dX9_sound_11 : decode cX9_sound 11 = .ok (.lconst 0, 1) := by decide +kernel
theorem dX9_sound_12 : decode cX9_sound 12 = .ok (.aload_n 0, 1) := by decide +kernel
theorem dX9_sound_13 : decode cX9_sound 13 = .ok (.aload_n 0, 1) := by decide +kernel
theorem dX9_sound_14 : decode cX9_sound 14 = .ok (.getfield 150, 3) := by decide +kernel
theorem dX9_sound_17 : decode cX9_sound 17 = .ok (.invokevirtual 177, 3) := by decide +kernel
theorem dX9_sound_20 : decode cX9_sound 20 = .ok (.iconst 1, 1) := by decide +kernel
theorem dX9_sound_21 : decode cX9_sound 21 = .ok (.isub, 1) := by decide +kernel
theorem dX9_sound_22 : decode cX9_sound 22 = .ok (.i2l, 1) := by decide +kernel
theorem dX9_sound_23 : decode cX9_sound 23 = .ok (.invokestatic 88, 3) := by decide +kernel
theorem dX9_sound_26 : decode cX9_sound 26 = .ok (.ifCond .ne 6, 3) := by decide +kernel
theorem dX9_sound_29 : decode cX9_sound 29 = .ok (.bipush (-101), 2) := by decide +kernel
theorem dX9_sound_31 : decode cX9_sound 31 = .ok (.ireturn, 1) := by decide +kernel
theorem dX9_sound_32 : decode cX9_sound 32 = .ok (.aload_n 0, 1) := by decide +kernel
theorem dX9_sound_33 : decode cX9_sound 33 = .ok (.invokevirtual 223, 3) := by decide +kernel
theorem dX9_sound_36 : decode cX9_sound 36 = .ok (.aload_n 0, 1) := by decide +kernel
theorem dX9_sound_37 : decode cX9_sound 37 = .ok (.getfield 40, 3) := by decide +kernel
theorem dX9_sound_40 : decode cX9_sound 40 = .ok (.bipush 28, 2) := by decide +kernel
theorem dX9_sound_42 : decode cX9_sound 42 = .ok (.iload_n 1, 1) := by decide +kernel
theorem dX9_sound_43 : decode cX9_sound 43 = .ok (.imul, 1) := by decide +kernel
theorem dX9_sound_44 : decode cX9_sound 44 = .ok (.bipush 7, 2) := by decide +kernel
theorem dX9_sound_46 : decode cX9_sound 46 = .ok (.iload_n 3, 1) := by decide +kernel
theorem dX9_sound_47 : decode cX9_sound 47 = .ok (.imul, 1) := by decide +kernel
theorem dX9_sound_48 : decode cX9_sound 48 = .ok (.iadd, 1) := by decide +kernel
theorem dX9_sound_49 : decode cX9_sound 49 = .ok (.iload_n 2, 1) := by decide +kernel
theorem dX9_sound_50 : decode cX9_sound 50 = .ok (.iadd, 1) := by decide +kernel
theorem dX9_sound_51 : decode cX9_sound 51 = .ok (.iaload, 1) := by decide +kernel
theorem dX9_sound_52 : decode cX9_sound 52 = .ok (.ireturn, 1) := by decide +kernel
theorem dX9_isOnlyNone_0 : decode cX9_isOnlyNone 0 = .ok (.iconst 1, 1) := by decide +kernel
theorem dX9_isOnlyNone_1 : decode cX9_isOnlyNone 1 = .ok (.istore_n 3, 1) := by decide +kernel
theorem dX9_isOnlyNone_2 : decode cX9_isOnlyNone 2 = .ok (.iconst 0, 1) := by decide +kernel
theorem dX9_isOnlyNone_3 : decode cX9_isOnlyNone 3 = .ok (.istore 4, 2) := by decide +kernel
theorem dX9_isOnlyNone_5 : decode cX9_isOnlyNone 5 = .ok (.iload 4, 2) := by decide +kernel
theorem dX9_isOnlyNone_7 : decode cX9_isOnlyNone 7 = .ok (.aload_n 0, 1) := by decide +kernel
theorem dX9_isOnlyNone_8 : decode cX9_isOnlyNone 8 = .ok (.getfield 25, 3) := by decide +kernel
theorem dX9_isOnlyNone_11 : decode cX9_isOnlyNone 11 = .ok (.iload_n 1, 1) := by decide +kernel
theorem dX9_isOnlyNone_12 : decode cX9_isOnlyNone 12 = .ok (.iaload, 1) := by decide +kernel
theorem dX9_isOnlyNone_13 : decode cX9_isOnlyNone 13 = .ok (.if_icmp .ge 38, 3) := by decide +kernel
theorem dX9_isOnlyNone_16 : decode cX9_isOnlyNone 16 = .ok (.iload_n 3, 1) := by decide +kernel
theorem dX9_isOnlyNone_17 : decode cX9_isOnlyNone 17 = .ok (.ifCond .eq 26, 3) := by decide +kernel
theorem dX9_isOnlyNone_20 : decode cX9_isOnlyNone 20 = .ok (.aload_n 0, 1) := by decide +kernel
theorem dX9_isOnlyNone_21 : decode cX9_isOnlyNone 21 = .ok (.getfield 28, 3) := by decide +kernel
theorem dX9_isOnlyNone_24 : decode cX9_isOnlyNone 24 = .ok (.bipush 16, 2) := by decide +kernel
theorem dX9_isOnlyNone_26 : decode cX9_isOnlyNone 26 = .ok (.iload_n 1, 1) := by decide +kernel
theorem dX9_isOnlyNone_27 : decode cX9_isOnlyNone 27 = .ok (.imul, 1) := by decide +kernel
theorem dX9_isOnlyNone_28 : decode cX9_isOnlyNone 28 = .ok (.iconst 4, 1) := by decide +kernel
theorem dX9_isOnlyNone_29 : decode cX9_isOnlyNone 29 = .ok (.iload_n 2, 1) := by decide +kernel
theorem dX9_isOnlyNone_30 : decode cX9_isOnlyNone 30 = .ok (.imul, 1) := by decide +kernel
theorem dX9_isOnlyNone_31 : decode cX9_isOnlyNone 31 = .ok (.iadd, 1) := by decide +kernel
theorem dX9_isOnlyNone_32 : decode cX9_isOnlyNone 32 = .ok (.iload 4, 2) := by decide +kernel
theorem dX9_isOnlyNone_34 : decode cX9_isOnlyNone 34 = .ok (.iadd, 1) := by decide +kernel
theorem dX9_isOnlyNone_35 : decode cX9_isOnlyNone 35 = .ok (.iaload, 1) := by decide +kernel
theorem dX9_isOnlyNone_36 : decode cX9_isOnlyNone 36 = .ok (.ifCond .ne 7, 3) := by decide +kernel
theorem dX9_isOnlyNone_39 : decode cX9_isOnlyNone 39 = .ok (.iconst 1, 1) := by decide +kernel
theorem dX9_isOnlyNone_40 : decode cX9_isOnlyNone 40 = .ok (.goto 4, 3) := by decide +kernel
theorem dX9_isOnlyNone_43 : decode cX9_isOnlyNone 43 = .ok (.iconst 0, 1) := by decide +kernel
theorem dX9_isOnlyNone_44 : decode cX9_isOnlyNone 44 = .ok (.istore_n 3, 1) := by decide +kernel
theorem dX9_isOnlyNone_45 : decode cX9_isOnlyNone 45 = .ok (.iinc 4 1, 3) := by decide +kernel
theorem dX9_isOnlyNone_48 : decode cX9_isOnlyNone 48 = .ok (.goto (-43), 3) := by decide +kernel
theorem dX9_isOnlyNone_51 : decode cX9_isOnlyNone 51 = .ok (.iload_n 3, 1) := by decide +kernel
theorem dX9_isOnlyNone_52 : decode cX9_isOnlyNone 52 = .ok (.ireturn, 1) := by decide +kernel
theorem dX9_put_0 : decode cX9_put 0 = .ok (.aload_n 0, 1) := by decide +kernel
theorem dX9_put_1 : decode cX9_put 1 = .ok (.iload_n 1, 1) := by decide +kernel
theorem dX9_put_2 : decode cX9_put 2 = .ok (.iload_n 3, 1) := by decide +kernel
theorem dX9_put_3 : decode cX9_put 3 = .ok (.invokevirtual 233, 3) := by decide +kernel
theorem dX9_put_6 : decode cX9_put 6 = .ok (.ifCond .eq 11, 3) := by decide +kernel
theorem dX9_put_9 : decode cX9_put 9 = .ok (.aload_n 0, 1) := by decide +kernel
theorem dX9_put_10 : decode cX9_put 10 = .ok (.iload_n 2, 1) := by decide +kernel
theorem dX9_put_11 : decode cX9_put 11 = .ok (.invokevirtual 218, 3) := by decide +kernel
theorem dX9_put_14 : decode cX9_put 14 = .ok (.ifCond .ne 6, 3) := by decide +kernel
theorem dX9_put_17 : decode cX9_put 17 = .ok (.bipush (-101), 2) := by decide +kernel
theorem dX9_put_19 : decode cX9_put 19 = .ok (.ireturn, 1) := by decide +kernel
theorem dX9_put_20 : decode cX9_put 20 = .ok (.iload 4, 2) := by decide +kernel
theorem dX9_put_22 : decode cX9_put 22 = .ok (.i2l, 1) := by decide +kernel
theorem dX9_put_23 : decode cX9_put 23 = .ok (.lconst 0, 1) := by decide +kernel
theorem dX9_put_24 : decode cX9_put 24 = .ok (.ldc2_w 171, 3) := by decide +kernel
theorem dX9_put_27 : decode cX9_put 27 = .ok (.invokestatic 88, 3) := by decide +kernel
theorem dX9_put_30 : decode cX9_put 30 = .ok (.ifCond .ne 6, 3) := by decide +kernel
theorem dX9_put_33 : decode cX9_put 33 = .ok (.bipush (-102), 2) := by decide +kernel
theorem dX9_put_35 : decode cX9_put 35 = .ok (.ireturn, 1) := by decide +kernel
theorem dX9_put_36 : decode cX9_put 36 = .ok (.bipush 16, 2) := by decide +kernel
theorem dX9_put_38 : decode cX9_put 38 = .ok (.iload_n 1, 1) := by decide +kernel
theorem dX9_put_39 : decode cX9_put 39 = .ok (.imul, 1) := by decide +kernel
theorem dX9_put_40 : decode cX9_put 40 = .ok (.iconst 4, 1) := by decide +kernel
theorem dX9_put_41 : decode cX9_put 41 = .ok (.iload_n 2, 1) := by decide +kernel
theorem dX9_put_42 : decode cX9_put 42 = .ok (.imul, 1) := by decide +kernel
theorem dX9_put_43 : decode cX9_put 43 = .ok (.iadd, 1) := by decide +kernel
theorem dX9_put_44 : decode cX9_put 44 = .ok (.iload_n 3, 1) := by decide +kernel
theorem dX9_put_45 : decode cX9_put 45 = .ok (.iadd, 1) := by decide +kernel
theorem dX9_put_46 : decode cX9_put 46 = .ok (.istore 5, 2) := by decide +kernel
theorem dX9_put_48 : decode cX9_put 48 = .ok (.aload_n 0, 1) := by decide +kernel
theorem dX9_put_49 : decode cX9_put 49 = .ok (.getfield 28, 3) := by decide +kernel
theorem dX9_put_52 : decode cX9_put 52 = .ok (.iload 5, 2) := by decide +kernel
theorem dX9_put_54 : decode cX9_put 54 = .ok (.iaload, 1) := by decide +kernel
theorem dX9_put_55 : decode cX9_put 55 = .ok (.istore 6, 2) := by decide +kernel
theorem dX9_put_57 : decode cX9_put 57 = .ok (.aload_n 0, 1) := by decide +kernel
theorem dX9_put_58 : decode cX9_put 58 = .ok (.getfield 28, 3) := by decide +kernel
theorem dX9_put_61 : decode cX9_put 61 = .ok (.iload 5, 2) := by decide +kernel
theorem dX9_put_63 : decode cX9_put 63 = .ok (.iload 4, 2) := by decide +kernel
theorem dX9_put_65 : decode cX9_put 65 = .ok (.iastore, 1) := by decide +kernel
theorem dX9_put_66 : decode cX9_put 66 = .ok (.aload_n 0, 1) := by decide +kernel
theorem dX9_put_67 : decode cX9_put 67 = .ok (.iload_n 1, 1) := by decide +kernel
theorem dX9_put_68 : decode cX9_put 68 = .ok (.iload_n 2, 1) := by decide +kernel
theorem dX9_put_69 : decode cX9_put 69 = .ok (.invokevirtual 261, 3) := by decide +kernel
theorem dX9_put_72 : decode cX9_put 72 = .ok (.ifCond .eq 15, 3) := by decide +kernel
theorem dX9_put_75 : decode cX9_put 75 = .ok (.aload_n 0, 1) := by decide +kernel
theorem dX9_put_76 : decode cX9_put 76 = .ok (.getfield 28, 3) := by decide +kernel
theorem dX9_put_79 : decode cX9_put 79 = .ok (.iload 5, 2) := by decide +kernel
theorem dX9_put_81 : decode cX9_put 81 = .ok (.iload 6, 2) := by decide +kernel
theorem dX9_put_83 : decode cX9_put 83 = .ok (.iastore, 1) := by decide +kernel
theorem dX9_put_84 : decode cX9_put 84 = .ok (.bipush (-103), 2) := by decide +kernel
theorem dX9_put_86 : decode cX9_put 86 = .ok (.ireturn, 1) := by decide +kernel
theorem dX9_put_87 : decode cX9_put 87 = .ok (.aload_n 0, 1) := by decide +kernel
theorem dX9_put_88 : decode cX9_put 88 = .ok (.iconst 1, 1) := by decide +kernel
theorem dX9_put_89 : decode cX9_put 89 = .ok (.putfield 153, 3) := by decide +kernel
theorem dX9_put_92 : decode cX9_put 92 = .ok (.iload 6, 2) := by decide +kernel
theorem dX9_put_94 : decode cX9_put 94 = .ok (.ireturn, 1) := by decide +kernel
theorem dX9_layLike_0 : decode cX9_layLike 0 = .ok (.aload_n 0, 1) := by decide +kernel
theorem dX9_layLike_1 : decode cX9_layLike 1 = .ok (.getfield 22, 3) := by decide +kernel
theorem dX9_layLike_4 : decode cX9_layLike 4 = .ok (.iload_n 2, 1) := by decide +kernel
theorem dX9_layLike_5 : decode cX9_layLike 5 = .ok (.aload_n 0, 1) := by decide +kernel
theorem dX9_layLike_6 : decode cX9_layLike 6 = .ok (.getfield 22, 3) := by decide +kernel
theorem dX9_layLike_9 : decode cX9_layLike 9 = .ok (.iload_n 1, 1) := by decide +kernel
theorem dX9_layLike_10 : decode cX9_layLike 10 = .ok (.iaload, 1) := by decide +kernel
theorem dX9_layLike_11 : decode cX9_layLike 11 = .ok (.iastore, 1) := by decide +kernel
theorem dX9_layLike_12 : decode cX9_layLike 12 = .ok (.aload_n 0, 1) := by decide +kernel
theorem dX9_layLike_13 : decode cX9_layLike 13 = .ok (.getfield 25, 3) := by decide +kernel
theorem dX9_layLike_16 : decode cX9_layLike 16 = .ok (.iload_n 2, 1) := by decide +kernel
theorem dX9_layLike_17 : decode cX9_layLike 17 = .ok (.aload_n 0, 1) := by decide +kernel
theorem dX9_layLike_18 : decode cX9_layLike 18 = .ok (.getfield 25, 3) := by decide +kernel
theorem dX9_layLike_21 : decode cX9_layLike 21 = .ok (.iload_n 1, 1) := by decide +kernel
theorem dX9_layLike_22 : decode cX9_layLike 22 = .ok (.iaload, 1) := by decide +kernel
theorem dX9_layLike_23 : decode cX9_layLike 23 = .ok (.iastore, 1) := by decide +kernel
theorem dX9_layLike_24 : decode cX9_layLike 24 = .ok (.iconst 0, 1) := by decide +kernel
theorem dX9_layLike_25 : decode cX9_layLike 25 = .ok (.istore_n 3, 1) := by decide +kernel
theorem dX9_layLike_26 : decode cX9_layLike 26 = .ok (.iload_n 3, 1) := by decide +kernel
theorem dX9_layLike_27 : decode cX9_layLike 27 = .ok (.bipush 16, 2) := by decide +kernel
theorem dX9_layLike_29 : decode cX9_layLike 29 = .ok (.if_icmp .ge 31, 3) := by decide +kernel
theorem dX9_layLike_32 : decode cX9_layLike 32 = .ok (.aload_n 0, 1) := by decide +kernel
theorem dX9_layLike_33 : decode cX9_layLike 33 = .ok (.getfield 28, 3) := by decide +kernel
theorem dX9_layLike_36 : decode cX9_layLike 36 = .ok (.bipush 16, 2) := by decide +kernel
theorem dX9_layLike_38 : decode cX9_layLike 38 = .ok (.iload_n 2, 1) := by decide +kernel
theorem dX9_layLike_39 : decode cX9_layLike 39 = .ok (.imul, 1) := by decide +kernel
theorem dX9_layLike_40 : decode cX9_layLike 40 = .ok (.iload_n 3, 1) := by decide +kernel
theorem dX9_layLike_41 : decode cX9_layLike 41 = .ok (.iadd, 1) := by decide +kernel
theorem dX9_layLike_42 : decode cX9_layLike 42 = .ok (.aload_n 0, 1) := by decide +kernel
theorem dX9_layLike_43 : decode cX9_layLike 43 = .ok (.getfield 28, 3) := by decide +kernel
theorem dX9_layLike_46 : decode cX9_layLike 46 = .ok (.bipush 16, 2) := by decide +kernel
theorem dX9_layLike_48 : decode cX9_layLike 48 = .ok (.iload_n 1, 1) := by decide +kernel
theorem dX9_layLike_49 : decode cX9_layLike 49 = .ok (.imul, 1) := by decide +kernel
theorem dX9_layLike_50 : decode cX9_layLike 50 = .ok (.iload_n 3, 1) := by decide +kernel
theorem dX9_layLike_51 : decode cX9_layLike 51 = .ok (.iadd, 1) := by decide +kernel
theorem dX9_layLike_52 : decode cX9_layLike 52 = .ok (.iaload, 1) := by decide +kernel
theorem dX9_layLike_53 : decode cX9_layLike 53 = .ok (.iastore, 1) := by decide +kernel
theorem dX9_layLike_54 : decode cX9_layLike 54 = .ok (.iinc 3 1, 3) := by decide +kernel
theorem dX9_layLike_57 : decode cX9_layLike 57 = .ok (.goto (-31), 3) := by decide +kernel
theorem dX9_layLike_60 : decode cX9_layLike 60 = .ok (.return_, 1) := by decide +kernel
theorem dX9_copy_0 : decode cX9_copy 0 = .ok (.aload_n 0, 1) := by decide +kernel
theorem dX9_copy_1 : decode cX9_copy 1 = .ok (.iload_n 1, 1) := by decide +kernel
theorem dX9_copy_2 : decode cX9_copy 2 = .ok (.invokevirtual 163, 3) := by decide +kernel
theorem dX9_copy_5 : decode cX9_copy 5 = .ok (.ifCond .ne 6, 3) := by decide +kernel
theorem dX9_copy_8 : decode cX9_copy 8 = .ok (.bipush (-101), 2) := by decide +kernel
theorem dX9_copy_10 : decode cX9_copy 10 = .ok (.ireturn, 1) := by decide +kernel
theorem dX9_copy_11 : decode cX9_copy 11 = .ok (.aload_n 0, 1) := by decide +kernel
theorem dX9_copy_12 : decode cX9_copy 12 = .ok (.getfield 147, 3) := by decide +kernel
theorem dX9_copy_15 : decode cX9_copy 15 = .ok (.bipush 6, 2) := by decide +kernel
theorem dX9_copy_17 : decode cX9_copy 17 = .ok (.if_icmp .ne 6, 3) := by decide +kernel
theorem dX9_copy_20 : decode cX9_copy 20 = .ok (.bipush (-104), 2) := by decide +kernel
theorem dX9_copy_22 : decode cX9_copy 22 = .ok (.ireturn, 1) := by decide +kernel
theorem dX9_copy_23 : decode cX9_copy 23 = .ok (.aload_n 0, 1) := by decide +kernel
theorem dX9_copy_24 : decode cX9_copy 24 = .ok (.iload_n 1, 1) := by decide +kernel
theorem dX9_copy_25 : decode cX9_copy 25 = .ok (.aload_n 0, 1) := by decide +kernel
theorem dX9_copy_26 : decode cX9_copy 26 = .ok (.getfield 147, 3) := by decide +kernel
theorem dX9_copy_29 : decode cX9_copy 29 = .ok (.invokevirtual 264, 3) := by decide +kernel
theorem dX9_copy_32 : decode cX9_copy 32 = .ok (.aload_n 0, 1) := by decide +kernel
theorem dX9_copy_33 : decode cX9_copy 33 = .ok (.dup, 1) := by decide +kernel
theorem dX9_copy_34 : decode cX9_copy 34 = .ok (.getfield 147, 3) := by decide +kernel
theorem dX9_copy_37 : decode cX9_copy 37 = .ok (.iconst 1, 1) := by decide +kernel
theorem dX9_copy_38 : decode cX9_copy 38 = .ok (.iadd, 1) := by decide +kernel
theorem dX9_copy_39 : decode cX9_copy 39 = .ok (.putfield 147, 3) := by decide +kernel
theorem dX9_copy_42 : decode cX9_copy 42 = .ok (.aload_n 0, 1) := by decide +kernel
theorem dX9_copy_43 : decode cX9_copy 43 = .ok (.iconst 1, 1) := by decide +kernel
theorem dX9_copy_44 : decode cX9_copy 44 = .ok (.putfield 153, 3) := by decide +kernel
theorem dX9_copy_47 : decode cX9_copy 47 = .ok (.aload_n 0, 1) := by decide +kernel
theorem dX9_copy_48 : decode cX9_copy 48 = .ok (.getfield 147, 3) := by decide +kernel
theorem dX9_copy_51 : decode cX9_copy 51 = .ok (.iconst 1, 1) := by decide +kernel
theorem dX9_copy_52 : decode cX9_copy 52 = .ok (.isub, 1) := by decide +kernel
theorem dX9_copy_53 : decode cX9_copy 53 = .ok (.ireturn, 1) := by decide +kernel
theorem dX9_take_0 : decode cX9_take 0 = .ok (.aload_n 0, 1) := by decide +kernel
theorem dX9_take_1 : decode cX9_take 1 = .ok (.iload_n 1, 1) := by decide +kernel
theorem dX9_take_2 : decode cX9_take 2 = .ok (.invokevirtual 163, 3) := by decide +kernel
theorem dX9_take_5 : decode cX9_take 5 = .ok (.ifCond .ne 6, 3) := by decide +kernel
theorem dX9_take_8 : decode cX9_take 8 = .ok (.bipush (-101), 2) := by decide +kernel
theorem dX9_take_10 : decode cX9_take 10 = .ok (.ireturn, 1) := by decide +kernel
theorem dX9_take_11 : decode cX9_take 11 = .ok (.aload_n 0, 1) := by decide +kernel
theorem dX9_take_12 : decode cX9_take 12 = .ok (.getfield 147, 3) := by decide +kernel
theorem dX9_take_15 : decode cX9_take 15 = .ok (.iconst 1, 1) := by decide +kernel
theorem dX9_take_16 : decode cX9_take 16 = .ok (.if_icmp .ne 6, 3) := by decide +kernel
theorem dX9_take_19 : decode cX9_take 19 = .ok (.bipush (-103), 2) := by decide +kernel
theorem dX9_take_21 : decode cX9_take 21 = .ok (.ireturn, 1) := by decide +kernel
theorem dX9_take_22 : decode cX9_take 22 = .ok (.aload_n 0, 1) := by decide +kernel
theorem dX9_take_23 : decode cX9_take 23 = .ok (.dup, 1) := by decide +kernel
theorem dX9_take_24 : decode cX9_take 24 = .ok (.getfield 147, 3) := by decide +kernel
theorem dX9_take_27 : decode cX9_take 27 = .ok (.iconst 1, 1) := by decide +kernel
theorem dX9_take_28 : decode cX9_take 28 = .ok (.isub, 1) := by decide +kernel
theorem dX9_take_29 : decode cX9_take 29 = .ok (.putfield 147, 3) := by decide +kernel
theorem dX9_take_32 : decode cX9_take 32 = .ok (.iload_n 1, 1) := by decide +kernel
theorem dX9_take_33 : decode cX9_take 33 = .ok (.istore_n 2, 1) := by decide +kernel
theorem dX9_take_34 : decode cX9_take 34 = .ok (.iload_n 2, 1) := by decide +kernel
theorem dX9_take_35 : decode cX9_take 35 = .ok (.aload_n 0, 1) := by decide +kernel
theorem dX9_take_36 : decode cX9_take 36 = .ok (.getfield 147, 3) := by decide +kernel
theorem dX9_take_39 : decode cX9_take 39 = .ok (.if_icmp .ge 17, 3) := by decide +kernel
theorem dX9_take_42 : decode cX9_take 42 = .ok (.aload_n 0, 1) := by decide +kernel
theorem dX9_take_43 : decode cX9_take 43 = .ok (.iload_n 2, 1) := by decide +kernel
theorem dX9_take_44 : decode cX9_take 44 = .ok (.iconst 1, 1) := by decide +kernel
theorem dX9_take_45 : decode cX9_take 45 = .ok (.iadd, 1) := by decide +kernel
theorem dX9_take_46 : decode cX9_take 46 = .ok (.iload_n 2, 1) := by decide +kernel
theorem dX9_take_47 : decode cX9_take 47 = .ok (.invokevirtual 264, 3) := by decide +kernel
theorem dX9_take_50 : decode cX9_take 50 = .ok (.iinc 2 1, 3) := by decide +kernel
theorem dX9_take_53 : decode cX9_take 53 = .ok (.goto (-19), 3) := by decide +kernel
theorem dX9_take_56 : decode cX9_take 56 = .ok (.aload_n 0, 1) := by decide +kernel
theorem dX9_take_57 : decode cX9_take 57 = .ok (.iconst 1, 1) := by decide +kernel
theorem dX9_take_58 : decode cX9_take 58 = .ok (.putfield 153, 3) := by decide +kernel
theorem dX9_take_61 : decode cX9_take 61 = .ok (.aload_n 0, 1) := by decide +kernel
theorem dX9_take_62 : decode cX9_take 62 = .ok (.getfield 147, 3) := by decide +kernel
theorem dX9_take_65 : decode cX9_take 65 = .ok (.ireturn, 1) := by decide +kernel
theorem dX9_change_0 : decode cX9_change 0 = .ok (.aload_n 0, 1) := by decide +kernel
theorem dX9_change_1 : decode cX9_change 1 = .ok (.iload_n 1, 1) := by decide +kernel
theorem dX9_change_2 : decode cX9_change 2 = .ok (.invokevirtual 163, 3) := by decide +kernel
theorem dX9_change_5 : decode cX9_change 5 = .ok (.ifCond .ne 6, 3) := by decide +kernel
theorem dX9_change_8 : decode cX9_change 8 = .ok (.bipush (-101), 2) := by decide +kernel
theorem dX9_change_10 : decode cX9_change 10 = .ok (.ireturn, 1) := by decide +kernel
theorem dX9_change_11 : decode cX9_change 11 = .ok (.iload_n 2, 1) := by decide +kernel
theorem dX9_change_12 : decode cX9_change 12 = .ok (.i2l, 1) := by decide +kernel
theorem dX9_change_13 : decode cX9_change 13 = .ok (.lconst 0, 1) := by decide +kernel
theorem dX9_change_14 : decode cX9_change 14 = .ok (.ldc2_w 259, 3) := by decide +kernel
theorem dX9_change_17 : decode cX9_change 17 = .ok (.invokestatic 88, 3) := by decide +kernel
theorem dX9_change_20 : decode cX9_change 20 = .ok (.ifCond .ne 6, 3) := by decide +kernel
theorem dX9_change_23 : decode cX9_change 23 = .ok (.bipush (-102), 2) := by decide +kernel
theorem dX9_change_25 : decode cX9_change 25 = .ok (.ireturn, 1) := by decide +kernel
theorem dX9_change_26 : decode cX9_change 26 = .ok (.aload_n 0, 1) := by decide +kernel
theorem dX9_change_27 : decode cX9_change 27 = .ok (.getfield 22, 3) := by decide +kernel
theorem dX9_change_30 : decode cX9_change 30 = .ok (.iload_n 1, 1) := by decide +kernel
theorem dX9_change_31 : decode cX9_change 31 = .ok (.iaload, 1) := by decide +kernel
theorem dX9_change_32 : decode cX9_change 32 = .ok (.istore_n 3, 1) := by decide +kernel
theorem dX9_change_33 : decode cX9_change 33 = .ok (.aload_n 0, 1) := by decide +kernel
theorem dX9_change_34 : decode cX9_change 34 = .ok (.getfield 22, 3) := by decide +kernel
theorem dX9_change_37 : decode cX9_change 37 = .ok (.iload_n 1, 1) := by decide +kernel
theorem dX9_change_38 : decode cX9_change 38 = .ok (.iload_n 2, 1) := by decide +kernel
theorem dX9_change_39 : decode cX9_change 39 = .ok (.iastore, 1) := by decide +kernel
theorem dX9_change_40 : decode cX9_change 40 = .ok (.aload_n 0, 1) := by decide +kernel
theorem dX9_change_41 : decode cX9_change 41 = .ok (.iconst 1, 1) := by decide +kernel
theorem dX9_change_42 : decode cX9_change 42 = .ok (.putfield 153, 3) := by decide +kernel
theorem dX9_change_45 : decode cX9_change 45 = .ok (.iload_n 3, 1) := by decide +kernel
theorem dX9_change_46 : decode cX9_change 46 = .ok (.ireturn, 1) := by decide +kernel
theorem dX9_changesAll_0 : decode cX9_changesAll 0 = .ok (.iconst 0, 1) := by decide +kernel
theorem dX9_changesAll_1 : decode cX9_changesAll 1 = .ok (.istore_n 1, 1) := by decide +kernel
theorem dX9_changesAll_2 : decode cX9_changesAll 2 = .ok (.iconst 0, 1) := by decide +kernel
theorem dX9_changesAll_3 : decode cX9_changesAll 3 = .ok (.istore_n 2, 1) := by decide +kernel
theorem dX9_changesAll_4 : decode cX9_changesAll 4 = .ok (.iload_n 2, 1) := by decide +kernel
theorem dX9_changesAll_5 : decode cX9_changesAll 5 = .ok (.aload_n 0, 1) := by decide +kernel
theorem dX9_changesAll_6 : decode cX9_changesAll 6 = .ok (.getfield 147, 3) := by decide +kernel
theorem dX9_changesAll_9 : decode cX9_changesAll 9 = .ok (.if_icmp .ge 32, 3) := by decide +kernel
theorem dX9_changesAll_12 : decode cX9_changesAll 12 = .ok (.iload_n 1, 1) := by decide +kernel
theorem dX9_changesAll_13 : decode cX9_changesAll 13 = .ok (.aload_n 0, 1) := by decide +kernel
theorem dX9_changesAll_14 : decode cX9_changesAll 14 = .ok (.getfield 43, 3) := by decide +kernel
theorem dX9_changesAll_17 : decode cX9_changesAll 17 = .ok (.iload_n 2, 1) := by decide +kernel
theorem dX9_changesAll_18 : decode cX9_changesAll 18 = .ok (.iaload, 1) := by decide +kernel
theorem dX9_changesAll_19 : decode cX9_changesAll 19 = .ok (.iconst (-1), 1) := by decide +kernel
theorem dX9_changesAll_20 : decode cX9_changesAll 20 = .ok (.if_icmp .ne 7, 3) := by decide +kernel
theorem dX9_changesAll_23 : decode cX9_changesAll 23 = .ok (.iconst 0, 1) := by decide +kernel
theorem dX9_changesAll_24 : decode cX9_changesAll 24 = .ok (.goto 9, 3) := by decide +kernel
theorem dX9_changesAll_27 : decode cX9_changesAll 27 = .ok (.aload_n 0, 1) := by decide +kernel
theorem dX9_changesAll_28 : decode cX9_changesAll 28 = .ok (.getfield 43, 3) := by decide +kernel
theorem dX9_changesAll_31 : decode cX9_changesAll 31 = .ok (.iload_n 2, 1) := by decide +kernel
theorem dX9_changesAll_32 : decode cX9_changesAll 32 = .ok (.iaload, 1) := by decide +kernel
theorem dX9_changesAll_33 : decode cX9_changesAll 33 = .ok (.iadd, 1) := by decide +kernel
theorem dX9_changesAll_34 : decode cX9_changesAll 34 = .ok (.istore_n 1, 1) := by decide +kernel
theorem dX9_changesAll_35 : decode cX9_changesAll 35 = .ok (.iinc 2 1, 3) := by decide +kernel
theorem dX9_changesAll_38 : decode cX9_changesAll 38 = .ok (.goto (-34), 3) := by decide +kernel
theorem dX9_changesAll_41 : decode cX9_changesAll 41 = .ok (.iload_n 1, 1) := by decide +kernel
theorem dX9_changesAll_42 : decode cX9_changesAll 42 = .ok (.ireturn, 1) := by decide +kernel
theorem dX9_swap_0 : decode cX9_swap 0 = .ok (.aload_n 0, 1) := by decide +kernel
theorem dX9_swap_1 : decode cX9_swap 1 = .ok (.iload_n 1, 1) := by decide +kernel
theorem dX9_swap_2 : decode cX9_swap 2 = .ok (.invokevirtual 218, 3) := by decide +kernel
theorem dX9_swap_5 : decode cX9_swap 5 = .ok (.ifCond .eq 16, 3) := by decide +kernel
theorem dX9_swap_8 : decode cX9_swap 8 = .ok (.aload_n 0, 1) := by decide +kernel
theorem dX9_swap_9 : decode cX9_swap 9 = .ok (.iload_n 2, 1) := by decide +kernel
theorem dX9_swap_10 : decode cX9_swap 10 = .ok (.invokevirtual 218, 3) := by decide +kernel
theorem dX9_swap_13 : decode cX9_swap 13 = .ok (.ifCond .eq 8, 3) := by decide +kernel
theorem dX9_swap_16 : decode cX9_swap 16 = .ok (.iload_n 1, 1) := by decide +kernel
theorem dX9_swap_17 : decode cX9_swap 17 = .ok (.iload_n 2, 1) := by decide +kernel
theorem dX9_swap_18 : decode cX9_swap 18 = .ok (.if_icmp .ne 6, 3) := by decide +kernel
theorem dX9_swap_21 : decode cX9_swap 21 = .ok (.bipush (-101), 2) := by decide +kernel
theorem dX9_swap_23 : decode cX9_swap 23 = .ok (.ireturn, 1) := by decide +kernel
theorem dX9_swap_24 : decode cX9_swap 24 = .ok (.iconst 0, 1) := by decide +kernel
theorem dX9_swap_25 : decode cX9_swap 25 = .ok (.istore_n 3, 1) := by decide +kernel
theorem dX9_swap_26 : decode cX9_swap 26 = .ok (.iload_n 3, 1) := by decide +kernel
theorem dX9_swap_27 : decode cX9_swap 27 = .ok (.iconst 4, 1) := by decide +kernel
theorem dX9_swap_28 : decode cX9_swap 28 = .ok (.aload_n 0, 1) := by decide +kernel
theorem dX9_swap_29 : decode cX9_swap 29 = .ok (.getfield 147, 3) := by decide +kernel
theorem dX9_swap_32 : decode cX9_swap 32 = .ok (.imul, 1) := by decide +kernel
theorem dX9_swap_33 : decode cX9_swap 33 = .ok (.if_icmp .ge 73, 3) := by decide +kernel
theorem dX9_swap_36 : decode cX9_swap 36 = .ok (.bipush 16, 2) := by decide +kernel
theorem dX9_swap_38 : decode cX9_swap 38 = .ok (.iload_n 3, 1) := by decide +kernel
theorem dX9_swap_39 : decode cX9_swap 39 = .ok (.iconst 4, 1) := by decide +kernel
theorem dX9_swap_40 : decode cX9_swap 40 = .ok (.idiv, 1) := by decide +kernel
theorem dX9_swap_41 : decode cX9_swap 41 = .ok (.imul, 1) := by decide +kernel
theorem dX9_swap_42 : decode cX9_swap 42 = .ok (.iconst 4, 1) := by decide +kernel
theorem dX9_swap_43 : decode cX9_swap 43 = .ok (.iload_n 1, 1) := by decide +kernel
theorem dX9_swap_44 : decode cX9_swap 44 = .ok (.imul, 1) := by decide +kernel
theorem dX9_swap_45 : decode cX9_swap 45 = .ok (.iadd, 1) := by decide +kernel
theorem dX9_swap_46 : decode cX9_swap 46 = .ok (.iload_n 3, 1) := by decide +kernel
theorem dX9_swap_47 : decode cX9_swap 47 = .ok (.iconst 4, 1) := by decide +kernel
theorem dX9_swap_48 : decode cX9_swap 48 = .ok (.irem, 1) := by decide +kernel
theorem dX9_swap_49 : decode cX9_swap 49 = .ok (.iadd, 1) := by decide +kernel
theorem dX9_swap_50 : decode cX9_swap 50 = .ok (.istore 4, 2) := by decide +kernel
theorem dX9_swap_52 : decode cX9_swap 52 = .ok (.bipush 16, 2) := by decide +kernel
theorem dX9_swap_54 : decode cX9_swap 54 = .ok (.iload_n 3, 1) := by decide +kernel
theorem dX9_swap_55 : decode cX9_swap 55 = .ok (.iconst 4, 1) := by decide +kernel
theorem dX9_swap_56 : decode cX9_swap 56 = .ok (.idiv, 1) := by decide +kernel
theorem dX9_swap_57 : decode cX9_swap 57 = .ok (.imul, 1) := by decide +kernel
theorem dX9_swap_58 : decode cX9_swap 58 = .ok (.iconst 4, 1) := by decide +kernel
theorem dX9_swap_59 : decode cX9_swap 59 = .ok (.iload_n 2, 1) := by decide +kernel
theorem dX9_swap_60 : decode cX9_swap 60 = .ok (.imul, 1) := by decide +kernel
theorem dX9_swap_61 : decode cX9_swap 61 = .ok (.iadd, 1) := by decide +kernel
theorem dX9_swap_62 : decode cX9_swap 62 = .ok (.iload_n 3, 1) := by decide +kernel
theorem dX9_swap_63 : decode cX9_swap 63 = .ok (.iconst 4, 1) := by decide +kernel
theorem dX9_swap_64 : decode cX9_swap 64 = .ok (.irem, 1) := by decide +kernel
theorem dX9_swap_65 : decode cX9_swap 65 = .ok (.iadd, 1) := by decide +kernel
theorem dX9_swap_66 : decode cX9_swap 66 = .ok (.istore 5, 2) := by decide +kernel
theorem dX9_swap_68 : decode cX9_swap 68 = .ok (.aload_n 0, 1) := by decide +kernel
theorem dX9_swap_69 : decode cX9_swap 69 = .ok (.getfield 28, 3) := by decide +kernel
theorem dX9_swap_72 : decode cX9_swap 72 = .ok (.iload 4, 2) := by decide +kernel
theorem dX9_swap_74 : decode cX9_swap 74 = .ok (.iaload, 1) := by decide +kernel
theorem dX9_swap_75 : decode cX9_swap 75 = .ok (.istore 6, 2) := by decide +kernel
theorem dX9_swap_77 : decode cX9_swap 77 = .ok (.aload_n 0, 1) := by decide +kernel
theorem dX9_swap_78 : decode cX9_swap 78 = .ok (.getfield 28, 3) := by decide +kernel
theorem dX9_swap_81 : decode cX9_swap 81 = .ok (.iload 4, 2) := by decide +kernel
theorem dX9_swap_83 : decode cX9_swap 83 = .ok (.aload_n 0, 1) := by decide +kernel
theorem dX9_swap_84 : decode cX9_swap 84 = .ok (.getfield 28, 3) := by decide +kernel
theorem dX9_swap_87 : decode cX9_swap 87 = .ok (.iload 5, 2) := by decide +kernel
theorem dX9_swap_89 : decode cX9_swap 89 = .ok (.iaload, 1) := by decide +kernel
theorem dX9_swap_90 : decode cX9_swap 90 = .ok (.iastore, 1) := by decide +kernel
theorem dX9_swap_91 : decode cX9_swap 91 = .ok (.aload_n 0, 1) := by decide +kernel
theorem dX9_swap_92 : decode cX9_swap 92 = .ok (.getfield 28, 3) := by decide +kernel
theorem dX9_swap_95 : decode cX9_swap 95 = .ok (.iload 5, 2) := by decide +kernel
theorem dX9_swap_97 : decode cX9_swap 97 = .ok (.iload 6, 2) := by decide +kernel

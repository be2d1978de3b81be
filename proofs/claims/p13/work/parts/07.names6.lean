theorem dX9_laySets_62 : decode cX9_laySets 62 = .ok (.iload_n 1, 1) := by decide +kernel
theorem dX9_laySets_63 : decode cX9_laySets 63 = .ok (.imul, 1) := by decide +kernel
theorem dX9_laySets_64 : decode cX9_laySets 64 = .ok (.iconst 4, 1) := by decide +kernel
theorem dX9_laySets_65 : decode cX9_laySets 65 = .ok (.iload_n 3, 1) := by decide +kernel
theorem dX9_laySets_66 : decode cX9_laySets 66 = .ok (.imul, 1) := by decide +kernel
theorem dX9_laySets_67 : decode cX9_laySets 67 = .ok (.iadd, 1) := by decide +kernel
theorem dX9_laySets_68 : decode cX9_laySets 68 = .ok (.iload_n 2, 1) := by decide +kernel
theorem dX9_laySets_69 : decode cX9_laySets 69 = .ok (.iadd, 1) := by decide +kernel
theorem dX9_laySets_70 : decode cX9_laySets 70 = .ok (.iaload, 1) := by decide +kernel
theorem dX9_laySets_71 : decode cX9_laySets 71 = .ok (.iastore, 1) := by decide +kernel
theorem dX9_laySets_72 : decode cX9_laySets 72 = .ok (.iinc 3 1, 3) := by decide +kernel
theorem dX9_laySets_75 : decode cX9_laySets 75 = .ok (.goto (-32), 3) := by decide +kernel
theorem dX9_laySets_78 : decode cX9_laySets 78 = .ok (.aload_n 0, 1) := by decide +kernel
theorem dX9_laySets_79 : decode cX9_laySets 79 = .ok (.iload_n 1, 1) := by decide +kernel
theorem dX9_laySets_80 : decode cX9_laySets 80 = .ok (.invokevirtual 196, 3) := by decide +kernel
theorem dX9_laySets_83 : decode cX9_laySets 83 = .ok (.ifCond .eq 20, 3) := by decide +kernel
theorem dX9_laySets_86 : decode cX9_laySets 86 = .ok (.aload_n 0, 1) := by decide +kernel
theorem dX9_laySets_87 : decode cX9_laySets 87 = .ok (.getfield 43, 3) := by decide +kernel
theorem dX9_laySets_90 : decode cX9_laySets 90 = .ok (.iload_n 1, 1) := by decide +kernel
theorem dX9_laySets_91 : decode cX9_laySets 91 = .ok (.dup2, 1) := by decide +kernel
theorem dX9_laySets_92 : decode cX9_laySets 92 = .ok (.iaload, 1) := by decide +kernel
theorem dX9_laySets_93 : decode cX9_laySets 93 = .ok (.aload_n 0, 1) := by decide +kernel
theorem dX9_laySets_94 : decode cX9_laySets 94 = .ok (.aload_n 0, 1) := by decide +kernel
theorem dX9_laySets_95 : decode cX9_laySets 95 = .ok (.getfield 150, 3) := by decide +kernel
theorem dX9_laySets_98 : decode cX9_laySets 98 = .ok (.invokevirtual 199, 3) := by decide +kernel
theorem dX9_laySets_101 : decode cX9_laySets 101 = .ok (.iadd, 1) := by decide +kernel
theorem dX9_laySets_102 : decode cX9_laySets 102 = .ok (.iastore, 1) := by decide +kernel
theorem dX9_laySets_103 : decode cX9_laySets 103 = .ok (.iconst 0, 1) := by decide +kernel
theorem dX9_laySets_104 : decode cX9_laySets 104 = .ok (.istore_n 3, 1) := by decide +kernel
theorem dX9_laySets_105 : decode cX9_laySets 105 = .ok (.iload_n 3, 1) := by decide +kernel
theorem dX9_laySets_106 : decode cX9_laySets 106 = .ok (.bipush 7, 2) := by decide +kernel
theorem dX9_laySets_108 : decode cX9_laySets 108 = .ok (.if_icmp .ge 60, 3) := by decide +kernel
theorem dX9_laySets_111 : decode cX9_laySets 111 = .ok (.aload_n 0, 1) := by decide +kernel
theorem dX9_laySets_112 : decode cX9_laySets 112 = .ok (.getfield 40, 3) := by decide +kernel
theorem dX9_laySets_115 : decode cX9_laySets 115 = .ok (.bipush 28, 2) := by decide +kernel
theorem dX9_laySets_117 : decode cX9_laySets 117 = .ok (.iload_n 1, 1) := by decide +kernel
theorem dX9_laySets_118 : decode cX9_laySets 118 = .ok (.imul, 1) := by decide +kernel
theorem dX9_laySets_119 : decode cX9_laySets 119 = .ok (.bipush 7, 2) := by decide +kernel
theorem dX9_laySets_121 : decode cX9_laySets 121 = .ok (.iload_n 2, 1) := by decide +kernel
theorem dX9_laySets_122 : decode cX9_laySets 122 = .ok (.imul, 1) := by decide +kernel
theorem dX9_laySets_123 : decode cX9_laySets 123 = .ok (.iadd, 1) := by decide +kernel
theorem dX9_laySets_124 : decode cX9_laySets 124 = .ok (.iload_n 3, 1) := by decide +kernel
theorem dX9_laySets_125 : decode cX9_laySets 125 = .ok (.iadd, 1) := by decide +kernel
theorem dX9_laySets_126 : decode cX9_laySets 126 = .ok (.iload_n 3, 1) := by decide +kernel
theorem dX9_laySets_127 : decode cX9_laySets 127 = .ok (.aload_n 0, 1) := by decide +kernel
theorem dX9_laySets_128 : decode cX9_laySets 128 = .ok (.getfield 150, 3) := by decide +kernel
theorem dX9_laySets_131 : decode cX9_laySets 131 = .ok (.if_icmp .ge 12, 3) := by decide +kernel
theorem dX9_laySets_134 : decode cX9_laySets 134 = .ok (.aload_n 0, 1) := by decide +kernel
theorem dX9_laySets_135 : decode cX9_laySets 135 = .ok (.getfield 37, 3) := by decide +kernel
theorem dX9_laySets_138 : decode cX9_laySets 138 = .ok (.iload_n 3, 1) := by decide +kernel
theorem dX9_laySets_139 : decode cX9_laySets 139 = .ok (.iaload, 1) := by decide +kernel
theorem dX9_laySets_140 : decode cX9_laySets 140 = .ok (.goto 21, 3) := by decide +kernel
theorem dX9_laySets_143 : decode cX9_laySets 143 = .ok (.aload_n 0, 1) := by decide +kernel
theorem dX9_laySets_144 : decode cX9_laySets 144 = .ok (.iload_n 1, 1) := by decide +kernel
theorem dX9_laySets_145 : decode cX9_laySets 145 = .ok (.invokevirtual 196, 3) := by decide +kernel
theorem dX9_laySets_148 : decode cX9_laySets 148 = .ok (.ifCond .eq 12, 3) := by decide +kernel
theorem dX9_laySets_151 : decode cX9_laySets 151 = .ok (.aload_n 0, 1) := by decide +kernel
theorem dX9_laySets_152 : decode cX9_laySets 152 = .ok (.getfield 34, 3) := by decide +kernel
theorem dX9_laySets_155 : decode cX9_laySets 155 = .ok (.iload_n 3, 1) := by decide +kernel
theorem dX9_laySets_156 : decode cX9_laySets 156 = .ok (.iaload, 1) := by decide +kernel
theorem dX9_laySets_157 : decode cX9_laySets 157 = .ok (.goto 4, 3) := by decide +kernel
theorem dX9_laySets_160 : decode cX9_laySets 160 = .ok (.iconst (-1), 1) := by decide +kernel
theorem dX9_laySets_161 : decode cX9_laySets 161 = .ok (.iastore, 1) := by decide +kernel
theorem dX9_laySets_162 : decode cX9_laySets 162 = .ok (.iinc 3 1, 3) := by decide +kernel
theorem dX9_laySets_165 : decode cX9_laySets 165 = .ok (.goto (-60), 3) := by decide +kernel
theorem dX9_laySets_168 : decode cX9_laySets 168 = .ok (.iinc 2 1, 3) := by decide +kernel
theorem dX9_laySets_171 : decode cX9_laySets 171 = .ok (.goto (-140), 3) := by decide +kernel
theorem dX9_laySets_174 : decode cX9_laySets 174 = .ok (.iinc 1 1, 3) := by decide +kernel
theorem dX9_laySets_177 : decode cX9_laySets 177 = .ok (.goto (-175), 3) := by decide +kernel
theorem dX9_laySets_180 : decode cX9_laySets 180 = .ok (.return_, 1) := by decide +kernel
set_option maxRecDepth 20000 in
theorem ggX9_layTally_X9_weightBy : GoodIn wsX9_layTally wsX9_weightBy := goodIn_r _ [9] (by decide +kernel) (by decide +kernel)
set_option maxRecDepth 20000 in
theorem gX9_layTally_X9_weightBy : GoodIn wsX9_layTally (va_wsS RX9 202 yX9_weightBy wsX9_weightBy) := goodIn_app (goodIn_of _ (by decide +kernel)) ggX9_layTally_X9_weightBy
set_option maxRecDepth 20000 in
theorem ggX9_layTally_X9_oldSound : GoodIn wsX9_layTally wsX9_oldSound := goodIn_r _ [13, 14, 15, 16, 17, 18, 8, 19, 20, 21, 22, 23, 24, 25, 26, 27, 28, 29, 30, 31, 32, 33, 34, 35, 36, 37, 38, 39, 40, 41, 42, 43, 44, 45, 46, 47, 48, 49, 50, 51, 52, 53, 54, 55, 56, 57, 58, 59, 60] (by decide +kernel) (by decide +kernel)
set_option maxRecDepth 20000 in
theorem gX9_layTally_X9_oldSound : GoodIn wsX9_layTally (wsV RX9 205 RX9 yX9_oldSound wsX9_oldSound) := goodIn_app (goodIn_of _ (by decide +kernel)) ggX9_layTally_X9_oldSound
theorem dX9_layTally_0 : decode cX9_layTally 0 = .ok (.iconst 0, 1) := by decide +kernel
theorem dX9_layTally_1 : decode cX9_layTally 1 = .ok (.istore 4, 2) := by decide +kernel
theorem dX9_layTally_3 : decode cX9_layTally 3 = .ok (.iload 4, 2) := by decide +kernel
theorem dX9_layTally_5 : decode cX9_layTally 5 = .ok (.bipush 9, 2) := by decide +kernel
theorem dX9_layTally_7 : decode cX9_layTally 7 = .ok (.if_icmp .ge 17, 3) := by decide +kernel
theorem dX9_layTally_10 : decode cX9_layTally 10 = .ok (.aload_n 0, 1) := by decide +kernel
theorem dX9_layTally_11 : decode cX9_layTally 11 = .ok (.getfield 55, 3) := by decide +kernel
theorem dX9_layTally_14 : decode cX9_layTally 14 = .ok (.iload 4, 2) := by decide +kernel
theorem dX9_layTally_16 : decode cX9_layTally 16 = .ok (.iconst 0, 1) := by decide +kernel
theorem dX9_layTally_17 : decode cX9_layTally 17 = .ok (.iastore, 1) := by decide +kernel
theorem dX9_layTally_18 : decode cX9_layTally 18 = .ok (.iinc 4 1, 3) := by decide +kernel
theorem dX9_layTally_21 : decode cX9_layTally 21 = .ok (.goto (-18), 3) := by decide +kernel
theorem dX9_layTally_24 : decode cX9_layTally 24 = .ok (.iconst 0, 1) := by decide +kernel
theorem dX9_layTally_25 : decode cX9_layTally 25 = .ok (.istore 4, 2) := by decide +kernel
theorem dX9_layTally_27 : decode cX9_layTally 27 = .ok (.iload 4, 2) := by decide +kernel
theorem dX9_layTally_29 : decode cX9_layTally 29 = .ok (.aload_n 0, 1) := by decide +kernel
theorem dX9_layTally_30 : decode cX9_layTally 30 = .ok (.getfield 147, 3) := by decide +kernel
theorem dX9_layTally_33 : decode cX9_layTally 33 = .ok (.if_icmp .ge 109, 3) := by decide +kernel
theorem dX9_layTally_36 : decode cX9_layTally 36 = .ok (.aload_n 0, 1) := by decide +kernel
theorem dX9_layTally_37 : decode cX9_layTally 37 = .ok (.getfield 22, 3) := by decide +kernel
theorem dX9_layTally_40 : decode cX9_layTally 40 = .ok (.iload 4, 2) := by decide +kernel
theorem dX9_layTally_42 : decode cX9_layTally 42 = .ok (.iaload, 1) := by decide +kernel
theorem dX9_layTally_43 : decode cX9_layTally 43 = .ok (.invokestatic 202, 3) := by decide +kernel
theorem dX9_layTally_46 : decode cX9_layTally 46 = .ok (.istore 5, 2) := by decide +kernel
theorem dX9_layTally_48 : decode cX9_layTally 48 = .ok (.iconst 0, 1) := by decide +kernel
theorem dX9_layTally_49 : decode cX9_layTally 49 = .ok (.istore 6, 2) := by decide +kernel
theorem dX9_layTally_51 : decode cX9_layTally 51 = .ok (.iload 6, 2) := by decide +kernel
theorem dX9_layTally_53 : decode cX9_layTally 53 = .ok (.aload_n 0, 1) := by decide +kernel
theorem dX9_layTally_54 : decode cX9_layTally 54 = .ok (.getfield 25, 3) := by decide +kernel
theorem dX9_layTally_57 : decode cX9_layTally 57 = .ok (.iload 4, 2) := by decide +kernel
theorem dX9_layTally_59 : decode cX9_layTally 59 = .ok (.iaload, 1) := by decide +kernel
theorem dX9_layTally_60 : decode cX9_layTally 60 = .ok (.if_icmp .ge 76, 3) := by decide +kernel
theorem dX9_layTally_63 : decode cX9_layTally 63 = .ok (.iload 5, 2) := by decide +kernel
theorem dX9_layTally_65 : decode cX9_layTally 65 = .ok (.ifCond .le 71, 3) := by decide +kernel
theorem dX9_layTally_68 : decode cX9_layTally 68 = .ok (.iload 6, 2) := by decide +kernel
theorem dX9_layTally_70 : decode cX9_layTally 70 = .ok (.ifCond .ne 7, 3) := by decide +kernel
theorem dX9_layTally_73 : decode cX9_layTally 73 = .ok (.iconst 1, 1) := by decide +kernel
theorem dX9_layTally_74 : decode cX9_layTally 74 = .ok (.goto 4, 3) := by decide +kernel
theorem dX9_layTally_77 : decode cX9_layTally 77 = .ok (.iconst 0, 1) := by decide +kernel
theorem dX9_layTally_78 : decode cX9_layTally 78 = .ok (.iload_n 3, 1) := by decide +kernel
theorem dX9_layTally_79 : decode cX9_layTally 79 = .ok (.iconst 1, 1) := by decide +kernel
theorem dX9_layTally_80 : decode cX9_layTally 80 = .ok (.if_icmp .ne 7, 3) := by decide +kernel
theorem dX9_layTally_83 : decode cX9_layTally 83 = .ok (.iconst 1, 1) := by decide +kernel
theorem dX9_layTally_84 : decode cX9_layTally 84 = .ok (.goto 4, 3) := by decide +kernel
theorem dX9_layTally_87 : decode cX9_layTally 87 = .ok (.iconst 0, 1) := by decide +kernel
theorem dX9_layTally_88 : decode cX9_layTally 88 = .ok (.if_icmp .ne 42, 3) := by decide +kernel
theorem dX9_layTally_91 : decode cX9_layTally 91 = .ok (.aload_n 0, 1) := by decide +kernel
theorem dX9_layTally_92 : decode cX9_layTally 92 = .ok (.iload 4, 2) := by decide +kernel
theorem dX9_layTally_94 : decode cX9_layTally 94 = .ok (.iload 6, 2) := by decide +kernel
theorem dX9_layTally_96 : decode cX9_layTally 96 = .ok (.invokevirtual 205, 3) := by decide +kernel
theorem dX9_layTally_99 : decode cX9_layTally 99 = .ok (.iload_n 2, 1) := by decide +kernel
theorem dX9_layTally_100 : decode cX9_layTally 100 = .ok (.if_icmp .ne 30, 3) := by decide +kernel
theorem dX9_layTally_103 : decode cX9_layTally 103 = .ok (.aload_n 0, 1) := by decide +kernel
theorem dX9_layTally_104 : decode cX9_layTally 104 = .ok (.getfield 55, 3) := by decide +kernel
theorem dX9_layTally_107 : decode cX9_layTally 107 = .ok (.aload_n 0, 1) := by decide +kernel
theorem dX9_layTally_108 : decode cX9_layTally 108 = .ok (.getfield 28, 3) := by decide +kernel
theorem dX9_layTally_111 : decode cX9_layTally 111 = .ok (.bipush 16, 2) := by decide +kernel
theorem dX9_layTally_113 : decode cX9_layTally 113 = .ok (.iload 4, 2) := by decide +kernel
theorem dX9_layTally_115 : decode cX9_layTally 115 = .ok (.imul, 1) := by decide +kernel
theorem dX9_layTally_116 : decode cX9_layTally 116 = .ok (.iconst 4, 1) := by decide +kernel
theorem dX9_layTally_117 : decode cX9_layTally 117 = .ok (.iload_n 1, 1) := by decide +kernel
theorem dX9_layTally_118 : decode cX9_layTally 118 = .ok (.imul, 1) := by decide +kernel
theorem dX9_layTally_119 : decode cX9_layTally 119 = .ok (.iadd, 1) := by decide +kernel
theorem dX9_layTally_120 : decode cX9_layTally 120 = .ok (.iload 6, 2) := by decide +kernel
theorem dX9_layTally_122 : decode cX9_layTally 122 = .ok (.iadd, 1) := by decide +kernel
theorem dX9_layTally_123 : decode cX9_layTally 123 = .ok (.iaload, 1) := by decide +kernel
theorem dX9_layTally_124 : decode cX9_layTally 124 = .ok (.dup2, 1) := by decide +kernel
theorem dX9_layTally_125 : decode cX9_layTally 125 = .ok (.iaload, 1) := by decide +kernel
theorem dX9_layTally_126 : decode cX9_layTally 126 = .ok (.iload 5, 2) := by decide +kernel
theorem dX9_layTally_128 : decode cX9_layTally 128 = .ok (.iadd, 1) := by decide +kernel
theorem dX9_layTally_129 : decode cX9_layTally 129 = .ok (.iastore, 1) := by decide +kernel
theorem dX9_layTally_130 : decode cX9_layTally 130 = .ok (.iinc 6 1, 3) := by decide +kernel
theorem dX9_layTally_133 : decode cX9_layTally 133 = .ok (.goto (-82), 3) := by decide +kernel
theorem dX9_layTally_136 : decode cX9_layTally 136 = .ok (.iinc 4 1, 3) := by decide +kernel
theorem dX9_layTally_139 : decode cX9_layTally 139 = .ok (.goto (-112), 3) := by decide +kernel
theorem dX9_layTally_142 : decode cX9_layTally 142 = .ok (.return_, 1) := by decide +kernel
set_option maxRecDepth 20000 in
theorem ggX9_layLaw_X9_layTally : GoodIn wsX9_layLaw wsX9_layTally := goodIn_r _ [9, 1, 10, 11, 12, 13, 14, 15, 8, 16, 17, 18, 19, 20, 21, 22, 23, 24, 25, 26, 27, 28, 29, 30, 31, 32, 33, 34, 35, 36, 37, 38, 39, 40, 41, 42, 43, 44, 45, 46, 47, 48, 49, 50, 51, 52, 53, 54, 55, 56, 57, 58, 59, 60, 61, 62, 63, 64, 65, 66, 67] (by decide +kernel) (by decide +kernel)
set_option maxRecDepth 20000 in
theorem gX9_layLaw_X9_layTally : GoodIn wsX9_layLaw (wsV RX9 208 RX9 yX9_layTally wsX9_layTally) := goodIn_app (goodIn_of _ (by decide +kernel)) ggX9_layLaw_X9_layTally
theorem dX9_layLaw_0 : decode cX9_layLaw 0 = .ok (.aload_n 0, 1) := by decide +kernel
theorem dX9_layLaw_1 : decode cX9_layLaw 1 = .ok (.iload_n 1, 1) := by decide +kernel
theorem dX9_layLaw_2 : decode cX9_layLaw 2 = .ok (.iload_n 2, 1) := by decide +kernel
theorem dX9_layLaw_3 : decode cX9_layLaw 3 = .ok (.iload_n 3, 1) := by decide +kernel
theorem dX9_layLaw_4 : decode cX9_layLaw 4 = .ok (.invokevirtual 208, 3) := by decide +kernel
theorem dX9_layLaw_7 : decode cX9_layLaw 7 = .ok (.iconst (-1), 1) := by decide +kernel
theorem dX9_layLaw_8 : decode cX9_layLaw 8 = .ok (.istore 4, 2) := by decide +kernel
theorem dX9_layLaw_10 : decode cX9_layLaw 10 = .ok (.iconst 0, 1) := by decide +kernel
theorem dX9_layLaw_11 : decode cX9_layLaw 11 = .ok (.istore 5, 2) := by decide +kernel
theorem dX9_layLaw_13 : decode cX9_layLaw 13 = .ok (.iconst 0, 1) := by decide +kernel
theorem dX9_layLaw_14 : decode cX9_layLaw 14 = .ok (.istore 6, 2) := by decide +kernel
theorem dX9_layLaw_16 : decode cX9_layLaw 16 = .ok (.iconst 0, 1) := by decide +kernel
theorem dX9_layLaw_17 : decode cX9_layLaw 17 = .ok (.istore 7, 2) := by decide +kernel
theorem dX9_layLaw_19 : decode cX9_layLaw 19 = .ok (.iload 7, 2) := by decide +kernel
theorem dX9_layLaw_21 : decode cX9_layLaw 21 = .ok (.bipush 9, 2) := by decide +kernel
theorem dX9_layLaw_23 : decode cX9_layLaw 23 = .ok (.if_icmp .ge 68, 3) := by decide +kernel
theorem dX9_layLaw_26 : decode cX9_layLaw 26 = .ok (.iload 6, 2) := by decide +kernel
theorem dX9_layLaw_28 : decode cX9_layLaw 28 = .ok (.aload_n 0, 1) := by decide +kernel
theorem dX9_layLaw_29 : decode cX9_layLaw 29 = .ok (.getfield 55, 3) := by decide +kernel
theorem dX9_layLaw_32 : decode cX9_layLaw 32 = .ok (.iload 7, 2) := by decide +kernel
theorem dX9_layLaw_34 : decode cX9_layLaw 34 = .ok (.iaload, 1) := by decide +kernel
theorem dX9_layLaw_35 : decode cX9_layLaw 35 = .ok (.iadd, 1) := by decide +kernel
theorem dX9_layLaw_36 : decode cX9_layLaw 36 = .ok (.istore 6, 2) := by decide +kernel
theorem dX9_layLaw_38 : decode cX9_layLaw 38 = .ok (.aload_n 0, 1) := by decide +kernel
theorem dX9_layLaw_39 : decode cX9_layLaw 39 = .ok (.getfield 55, 3) := by decide +kernel
theorem dX9_layLaw_42 : decode cX9_layLaw 42 = .ok (.iload 7, 2) := by decide +kernel
theorem dX9_layLaw_44 : decode cX9_layLaw 44 = .ok (.iaload, 1) := by decide +kernel
theorem dX9_layLaw_45 : decode cX9_layLaw 45 = .ok (.iload 5, 2) := by decide +kernel
theorem dX9_layLaw_47 : decode cX9_layLaw 47 = .ok (.if_icmp .le 8, 3) := by decide +kernel
theorem dX9_layLaw_50 : decode cX9_layLaw 50 = .ok (.iload 7, 2) := by decide +kernel
theorem dX9_layLaw_52 : decode cX9_layLaw 52 = .ok (.goto 5, 3) := by decide +kernel
theorem dX9_layLaw_55 : decode cX9_layLaw 55 = .ok (.iload 4, 2) := by decide +kernel
theorem dX9_layLaw_57 : decode cX9_layLaw 57 = .ok (.istore 4, 2) := by decide +kernel
theorem dX9_layLaw_59 : decode cX9_layLaw 59 = .ok (.aload_n 0, 1) := by decide +kernel
theorem dX9_layLaw_60 : decode cX9_layLaw 60 = .ok (.getfield 55, 3) := by decide +kernel
theorem dX9_layLaw_63 : decode cX9_layLaw 63 = .ok (.iload 7, 2) := by decide +kernel
theorem dX9_layLaw_65 : decode cX9_layLaw 65 = .ok (.iaload, 1) := by decide +kernel
theorem dX9_layLaw_66 : decode cX9_layLaw 66 = .ok (.iload 5, 2) := by decide +kernel
theorem dX9_layLaw_68 : decode cX9_layLaw 68 = .ok (.if_icmp .le 13, 3) := by decide +kernel
theorem dX9_layLaw_71 : decode cX9_layLaw 71 = .ok (.aload_n 0, 1) := by decide +kernel
theorem dX9_layLaw_72 : decode cX9_layLaw 72 = .ok (.getfield 55, 3) := by decide +kernel
theorem dX9_layLaw_75 : decode cX9_layLaw 75 = .ok (.iload 7, 2) := by decide +kernel
theorem dX9_layLaw_77 : decode cX9_layLaw 77 = .ok (.iaload, 1) := by decide +kernel
theorem dX9_layLaw_78 : decode cX9_layLaw 78 = .ok (.goto 5, 3) := by decide +kernel
theorem dX9_layLaw_81 : decode cX9_layLaw 81 = .ok (.iload 5, 2) := by decide +kernel
theorem dX9_layLaw_83 : decode cX9_layLaw 83 = .ok (.istore 5, 2) := by decide +kernel
theorem dX9_layLaw_85 : decode cX9_layLaw 85 = .ok (.iinc 7 1, 3) := by decide +kernel
theorem dX9_layLaw_88 : decode cX9_layLaw 88 = .ok (.goto (-69), 3) := by decide +kernel
theorem dX9_layLaw_91 : decode cX9_layLaw 91 = .ok (.bipush 18, 2) := by decide +kernel
theorem dX9_layLaw_93 : decode cX9_layLaw 93 = .ok (.iload_n 1, 1) := by decide +kernel
theorem dX9_layLaw_94 : decode cX9_layLaw 94 = .ok (.imul, 1) := by decide +kernel
theorem dX9_layLaw_95 : decode cX9_layLaw 95 = .ok (.iconst 2, 1) := by decide +kernel
theorem dX9_layLaw_96 : decode cX9_layLaw 96 = .ok (.iload_n 2, 1) := by decide +kernel
theorem dX9_layLaw_97 : decode cX9_layLaw 97 = .ok (.imul, 1) := by decide +kernel
theorem dX9_layLaw_98 : decode cX9_layLaw 98 = .ok (.iadd, 1) := by decide +kernel
theorem dX9_layLaw_99 : decode cX9_layLaw 99 = .ok (.iload_n 3, 1) := by decide +kernel
theorem dX9_layLaw_100 : decode cX9_layLaw 100 = .ok (.iadd, 1) := by decide +kernel
theorem dX9_layLaw_101 : decode cX9_layLaw 101 = .ok (.istore 7, 2) := by decide +kernel
theorem dX9_layLaw_103 : decode cX9_layLaw 103 = .ok (.aload_n 0, 1) := by decide +kernel
theorem dX9_layLaw_104 : decode cX9_layLaw 104 = .ok (.getfield 46, 3) := by decide +kernel
theorem dX9_layLaw_107 : decode cX9_layLaw 107 = .ok (.iload 7, 2) := by decide +kernel
theorem dX9_layLaw_109 : decode cX9_layLaw 109 = .ok (.iload 4, 2) := by decide +kernel
theorem dX9_layLaw_111 : decode cX9_layLaw 111 = .ok (.iastore, 1) := by decide +kernel
theorem dX9_layLaw_112 : decode cX9_layLaw 112 = .ok (.aload_n 0, 1) := by decide +kernel
theorem dX9_layLaw_113 : decode cX9_layLaw 113 = .ok (.getfield 49, 3) := by decide +kernel
theorem dX9_layLaw_116 : decode cX9_layLaw 116 = .ok (.iload 7, 2) := by decide +kernel
theorem dX9_layLaw_118 : decode cX9_layLaw 118 = .ok (.iload 5, 2) := by decide +kernel
theorem dX9_layLaw_120 : decode cX9_layLaw 120 = .ok (.iastore, 1) := by decide +kernel
theorem dX9_layLaw_121 : decode cX9_layLaw 121 = .ok (.aload_n 0, 1) := by decide +kernel
theorem dX9_layLaw_122 : decode cX9_layLaw 122 = .ok (.getfield 52, 3) := by decide +kernel
theorem dX9_layLaw_125 : decode cX9_layLaw 125 = .ok (.iload 7, 2) := by decide +kernel
theorem dX9_layLaw_127 : decode cX9_layLaw 127 = .ok (.iload 6, 2) := by decide +kernel
theorem dX9_layLaw_129 : decode cX9_layLaw 129 = .ok (.iload 5, 2) := by decide +kernel
theorem dX9_layLaw_131 : decode cX9_layLaw 131 = .ok (.isub, 1) := by decide +kernel
theorem dX9_layLaw_132 : decode cX9_layLaw 132 = .ok (.iastore, 1) := by decide +kernel
theorem dX9_layLaw_133 : decode cX9_layLaw 133 = .ok (.return_, 1) := by decide +kernel
set_option maxRecDepth 20000 in
theorem ggX9_freshen_X9_laySets : GoodIn wsX9_freshen wsX9_laySets := goodIn_r _ [7, 8, 9, 10, 2, 11, 12, 13, 14, 15, 16, 17, 6, 18, 19, 20, 21, 22, 23, 24, 25, 26, 27, 28, 29, 30, 31, 32, 33, 34, 35, 36, 37, 38, 39, 40, 41, 42, 43, 44, 45, 46, 47, 48, 49, 50, 51, 52, 53, 54, 55, 56, 76, 77, 78, 79, 80, 81, 82, 83, 84, 85, 86, 87, 88, 89, 90, 91, 92, 93, 94, 95, 96, 97, 98, 99, 100, 101, 102, 103, 104, 105, 106, 107, 108, 109, 110, 111, 112, 113, 114, 115, 116] (by decide +kernel) (by decide +kernel)
set_option maxRecDepth 20000 in
theorem gX9_freshen_X9_laySets : GoodIn wsX9_freshen (wsV RX9 212 RX9 yX9_laySets wsX9_laySets) := goodIn_app (goodIn_of _ (by decide +kernel)) ggX9_freshen_X9_laySets
set_option maxRecDepth 20000 in
theorem ggX9_freshen_X9_layLaw : GoodIn wsX9_freshen wsX9_layLaw := goodIn_r _ [60, 61, 62, 63, 64, 65, 66, 67, 6, 68, 8, 19, 10, 12, 69, 70, 71, 72, 73, 74, 75, 13, 2, 29, 30, 31, 32, 76, 77, 78, 79, 80, 81, 82, 83, 84, 85, 86, 87, 88, 89, 90, 91, 92, 93, 94, 95, 96, 97, 98, 99, 100, 101, 102, 103, 104, 105, 106, 107, 108, 109, 110, 111, 112, 113, 114, 115, 116] (by decide +kernel) (by decide +kernel)
set_option maxRecDepth 20000 in
theorem gX9_freshen_X9_layLaw : GoodIn wsX9_freshen (wsV RX9 215 RX9 yX9_layLaw wsX9_layLaw) := goodIn_app (goodIn_of _ (by decide +kernel)) ggX9_freshen_X9_layLaw
theorem dX9_freshen_0 : decode cX9_freshen 0 = .ok (.aload_n 0, 1) := by decide +kernel
theorem dX9_freshen_1 : decode cX9_freshen 1 = .ok (.getfield 153, 3) := by decide +kernel
theorem dX9_freshen_4 : decode cX9_freshen 4 = .ok (.ifCond .ne 4, 3) := by decide +kernel
theorem dX9_freshen_7 : decode cX9_freshen 7 = .ok (.return_, 1) := by decide +kernel
theorem dX9_freshen_8 : decode cX9_freshen 8 = .ok (.aload_n 0, 1) := by decide +kernel
theorem dX9_freshen_9 : decode cX9_freshen 9 = .ok (.invokevirtual 212, 3) := by decide +kernel
theorem dX9_freshen_12 : decode cX9_freshen 12 = .ok (.iconst 0, 1) := by decide +kernel
theorem dX9_freshen_13 : decode cX9_freshen 13 = .ok (.istore_n 1, 1) := by decide +kernel
theorem dX9_freshen_14 : decode cX9_freshen 14 = .ok (.iload_n 1, 1) := by decide +kernel
theorem dX9_freshen_15 : decode cX9_freshen 15 = .ok (.bipush 18, 2) := by decide +kernel
theorem dX9_freshen_17 : decode cX9_freshen 17 = .ok (.aload_n 0, 1) := by decide +kernel
theorem dX9_freshen_18 : decode cX9_freshen 18 = .ok (.getfield 150, 3) := by decide +kernel
theorem dX9_freshen_21 : decode cX9_freshen 21 = .ok (.imul, 1) := by decide +kernel
theorem dX9_freshen_22 : decode cX9_freshen 22 = .ok (.if_icmp .ge 26, 3) := by decide +kernel
theorem dX9_freshen_25 : decode cX9_freshen 25 = .ok (.aload_n 0, 1) := by decide +kernel
theorem dX9_freshen_26 : decode cX9_freshen 26 = .ok (.iload_n 1, 1) := by decide +kernel
theorem dX9_freshen_27 : decode cX9_freshen 27 = .ok (.bipush 18, 2) := by decide +kernel
theorem dX9_freshen_29 : decode cX9_freshen 29 = .ok (.idiv, 1) := by decide +kernel
theorem dX9_freshen_30 : decode cX9_freshen 30 = .ok (.iload_n 1, 1) := by decide +kernel
theorem dX9_freshen_31 : decode cX9_freshen 31 = .ok (.bipush 18, 2) := by decide +kernel
theorem dX9_freshen_33 : decode cX9_freshen 33 = .ok (.irem, 1) := by decide +kernel
theorem dX9_freshen_34 : decode cX9_freshen 34 = .ok (.iconst 2, 1) := by decide +kernel
theorem dX9_freshen_35 : decode cX9_freshen 35 = .ok (.idiv, 1) := by decide +kernel
theorem dX9_freshen_36 : decode cX9_freshen 36 = .ok (.iload_n 1, 1) := by decide +kernel
theorem dX9_freshen_37 : decode cX9_freshen 37 = .ok (.iconst 2, 1) := by decide +kernel
theorem dX9_freshen_38 : decode cX9_freshen 38 = .ok (.irem, 1) := by decide +kernel
theorem dX9_freshen_39 : decode cX9_freshen 39 = .ok (.invokevirtual 215, 3) := by decide +kernel
theorem dX9_freshen_42 : decode cX9_freshen 42 = .ok (.iinc 1 1, 3) := by decide +kernel
theorem dX9_freshen_45 : decode cX9_freshen 45 = .ok (.goto (-31), 3) := by decide +kernel
theorem dX9_freshen_48 : decode cX9_freshen 48 = .ok (.aload_n 0, 1) := by decide +kernel
theorem dX9_freshen_49 : decode cX9_freshen 49 = .ok (.iconst 0, 1) := by decide +kernel
theorem dX9_freshen_50 : decode cX9_freshen 50 = .ok (.putfield 153, 3) := by decide +kernel
theorem dX9_freshen_53 : decode cX9_freshen 53 = .ok (.return_, 1) := by decide +kernel
set_option maxRecDepth 20000 in
theorem ggX9_law_X9_isTongue : GoodIn wsX9_law wsX9_isTongue := goodIn_r _ [10, 11, 12, 13, 9, 14, 86, 87, 88, 89, 90, 91, 92, 93, 94, 95, 96, 97, 98, 99, 100, 101, 102, 103, 104, 105, 106, 107, 108, 109, 110, 111, 112, 113, 114, 115, 116, 117, 118, 119, 120, 121, 122, 123, 124, 125, 126] (by decide +kernel) (by decide +kernel)
set_option maxRecDepth 20000 in
theorem gX9_law_X9_isTongue : GoodIn wsX9_law (wsV RX9 218 RX9 yX9_isTongue wsX9_isTongue) := goodIn_app (goodIn_of _ (by decide +kernel)) ggX9_law_X9_isTongue
set_option maxRecDepth 20000 in
theorem ggX9_law_X9_in : GoodIn wsX9_law wsX9_in := goodIn_r _ [14] (by decide +kernel) (by decide +kernel)
set_option maxRecDepth 20000 in
theorem gX9_law_X9_in : GoodIn wsX9_law (va_wsS RX9 88 yX9_in wsX9_in) := goodIn_app (goodIn_of _ (by decide +kernel)) ggX9_law_X9_in
set_option maxRecDepth 20000 in
theorem ggX9_law_X9_freshen : GoodIn wsX9_law wsX9_freshen := goodIn_r _ [18, 19, 11, 20, 21, 22, 9, 23, 24, 25, 26, 27, 28, 29, 30, 31, 32, 33, 34, 35, 36, 37, 38, 39, 40, 41, 42, 43, 44, 45, 46, 47, 48, 49, 50, 51, 52, 53, 54, 55, 56, 57, 58, 59, 60, 61, 62, 12, 13, 14, 63, 64, 65, 66, 67, 68, 69, 70, 71, 72, 73, 74, 3, 4, 5, 75, 76, 77, 78, 79, 80, 81, 82, 83, 84, 85, 86, 87, 88, 89, 90, 91, 92, 93, 94, 95, 96, 97, 98, 99, 100, 101, 102, 103, 104, 105, 106, 107, 108, 109, 110, 111, 112, 113, 114, 115, 116, 117, 118, 119, 120, 121, 122, 123, 124, 125, 126] (by decide +kernel) (by decide +kernel)
set_option maxRecDepth 20000 in
theorem gX9_law_X9_freshen : GoodIn wsX9_law (wsV RX9 223 RX9 yX9_freshen wsX9_freshen) := goodIn_app (goodIn_of _ (by decide +kernel)) ggX9_law_X9_freshen
theorem dX9_law_0 : decode cX9_law 0 = .ok (.aload_n 0, 1) := by decide +kernel
theorem dX9_law_1 : decode cX9_law 1 = .ok (.iload_n 1, 1) := by decide +kernel
theorem dX9_law_2 : decode cX9_law 2 = .ok (.invokevirtual 218, 3) := by decide +kernel
theorem dX9_law_5 : decode cX9_law 5 = .ok (.ifCond .eq 15, 3) := by decide +kernel
theorem dX9_law_8 : decode cX9_law 8 = .ok (.iload_n 2, 1) := by decide +kernel
theorem dX9_law_9 : decode cX9_law 9 = .ok (.i2l, 1) := by decide +kernel
theorem dX9_law_10 : decode cX9_law 10 = .ok (.lconst 0, 1) := by decide +kernel
theorem dX9_law_11 : decode cX9_law 11 = .ok (.ldc2_w 171, 3) := by decide +kernel
theorem dX9_law_14 : decode cX9_law 14 = .ok (.invokestatic 88, 3) := by decide +kernel
theorem dX9_law_17 : decode cX9_law 17 = .ok (.ifCond .ne 6, 3) := by decide +kernel
theorem dX9_law_20 : decode cX9_law 20 = .ok (.bipush (-101), 2) := by decide +kernel
theorem dX9_law_22 : decode cX9_law 22 = .ok (.ireturn, 1) := by decide +kernel
theorem dX9_law_23 : decode cX9_law 23 = .ok (.iload_n 3, 1) := by decide +kernel
theorem dX9_law_24 : decode cX9_law 24 = .ok (.i2l, 1) := by decide +kernel
theorem dX9_law_25 : decode cX9_law 25 = .ok (.lconst 0, 1) := by decide +kernel
theorem dX9_law_26 : decode cX9_law 26 = .ok (.lconst 1, 1) := by decide +kernel
theorem dX9_law_27 : decode cX9_law 27 = .ok (.invokestatic 88, 3) := by decide +kernel
theorem dX9_law_30 : decode cX9_law 30 = .ok (.ifCond .eq 16, 3) := by decide +kernel
theorem dX9_law_33 : decode cX9_law 33 = .ok (.iload 4, 2) := by decide +kernel
theorem dX9_law_35 : decode cX9_law 35 = .ok (.i2l, 1) := by decide +kernel
theorem dX9_law_36 : decode cX9_law 36 = .ok (.lconst 0, 1) := by decide +kernel
theorem dX9_law_37 : decode cX9_law 37 = .ok (.ldc2_w 221, 3) := by decide +kernel
theorem dX9_law_40 : decode cX9_law 40 = .ok (.invokestatic 88, 3) := by decide +kernel
theorem dX9_law_43 : decode cX9_law 43 = .ok (.ifCond .ne 6, 3) := by decide +kernel
theorem dX9_law_46 : decode cX9_law 46 = .ok (.bipush (-102), 2) := by decide +kernel
theorem dX9_law_48 : decode cX9_law 48 = .ok (.ireturn, 1) := by decide +kernel
theorem dX9_law_49 : decode cX9_law 49 = .ok (.aload_n 0, 1) := by decide +kernel
theorem dX9_law_50 : decode cX9_law 50 = .ok (.invokevirtual 223, 3) := by decide +kernel
theorem dX9_law_53 : decode cX9_law 53 = .ok (.bipush 18, 2) := by decide +kernel
theorem dX9_law_55 : decode cX9_law 55 = .ok (.iload_n 1, 1) := by decide +kernel
theorem dX9_law_56 : decode cX9_law 56 = .ok (.imul, 1) := by decide +kernel
theorem dX9_law_57 : decode cX9_law 57 = .ok (.iconst 2, 1) := by decide +kernel
theorem dX9_law_58 : decode cX9_law 58 = .ok (.iload_n 2, 1) := by decide +kernel
theorem dX9_law_59 : decode cX9_law 59 = .ok (.imul, 1) := by decide +kernel
theorem dX9_law_60 : decode cX9_law 60 = .ok (.iadd, 1) := by decide +kernel
theorem dX9_law_61 : decode cX9_law 61 = .ok (.iload_n 3, 1) := by decide +kernel
theorem dX9_law_62 : decode cX9_law 62 = .ok (.iadd, 1) := by decide +kernel
theorem dX9_law_63 : decode cX9_law 63 = .ok (.istore 5, 2) := by decide +kernel
theorem dX9_law_65 : decode cX9_law 65 = .ok (.iload 4, 2) := by decide +kernel
theorem dX9_law_67 : decode cX9_law 67 = .ok (.ifCond .ne 13, 3) := by decide +kernel
theorem dX9_law_70 : decode cX9_law 70 = .ok (.aload_n 0, 1) := by decide +kernel
theorem dX9_law_71 : decode cX9_law 71 = .ok (.getfield 46, 3) := by decide +kernel
theorem dX9_law_74 : decode cX9_law 74 = .ok (.iload 5, 2) := by decide +kernel
theorem dX9_law_76 : decode cX9_law 76 = .ok (.iaload, 1) := by decide +kernel
theorem dX9_law_77 : decode cX9_law 77 = .ok (.goto 26, 3) := by decide +kernel
theorem dX9_law_80 : decode cX9_law 80 = .ok (.iload 4, 2) := by decide +kernel
theorem dX9_law_82 : decode cX9_law 82 = .ok (.iconst 1, 1) := by decide +kernel
theorem dX9_law_83 : decode cX9_law 83 = .ok (.if_icmp .ne 13, 3) := by decide +kernel
theorem dX9_law_86 : decode cX9_law 86 = .ok (.aload_n 0, 1) := by decide +kernel
theorem dX9_law_87 : decode cX9_law 87 = .ok (.getfield 49, 3) := by decide +kernel
theorem dX9_law_90 : decode cX9_law 90 = .ok (.iload 5, 2) := by decide +kernel
theorem dX9_law_92 : decode cX9_law 92 = .ok (.iaload, 1) := by decide +kernel
theorem dX9_law_93 : decode cX9_law 93 = .ok (.goto 10, 3) := by decide +kernel
theorem dX9_law_96 : decode cX9_law 96 = .ok (.aload_n 0, 1) := by decide +kernel
theorem dX9_law_97 : decode cX9_law 97 = .ok (.getfield 52, 3) := by decide +kernel
theorem dX9_law_100 : decode cX9_law 100 = .ok (.iload 5, 2) := by decide +kernel
theorem dX9_law_102 : decode cX9_law 102 = .ok (.iaload, 1) := by decide +kernel
theorem dX9_law_103 : decode cX9_law 103 = .ok (.ireturn, 1) := by decide +kernel
set_option maxRecDepth 20000 in
theorem ggX9_lawAt_X9_oldSound : GoodIn wsX9_lawAt wsX9_oldSound := goodIn_r _ [6, 7, 8, 9, 10, 11, 5, 12, 13, 14, 15, 16, 17, 18, 19, 20, 21, 22, 23, 24, 25, 26, 27, 28, 29, 30, 31, 32, 33, 34, 35, 36, 37, 38, 39, 40, 41, 42, 43, 44, 45, 46, 47, 48, 49, 50, 51, 52, 53] (by decide +kernel) (by decide +kernel)
set_option maxRecDepth 20000 in
theorem gX9_lawAt_X9_oldSound : GoodIn wsX9_lawAt (wsV RX9 205 RX9 yX9_oldSound wsX9_oldSound) := goodIn_app (goodIn_of _ (by decide +kernel)) ggX9_lawAt_X9_oldSound
theorem dX9_lawAt_0 : decode cX9_lawAt 0 = .ok (.aload_n 0, 1) := by decide +kernel
theorem dX9_lawAt_1 : decode cX9_lawAt 1 = .ok (.getfield 46, 3) := by decide +kernel
theorem dX9_lawAt_4 : decode cX9_lawAt 4 = .ok (.bipush 18, 2) := by decide +kernel
theorem dX9_lawAt_6 : decode cX9_lawAt 6 = .ok (.iload_n 2, 1) := by decide +kernel
theorem dX9_lawAt_7 : decode cX9_lawAt 7 = .ok (.imul, 1) := by decide +kernel
theorem dX9_lawAt_8 : decode cX9_lawAt 8 = .ok (.iconst 2, 1) := by decide +kernel
theorem dX9_lawAt_9 : decode cX9_lawAt 9 = .ok (.aload_n 0, 1) := by decide +kernel
theorem dX9_lawAt_10 : decode cX9_lawAt 10 = .ok (.iload_n 1, 1) := by decide +kernel
theorem dX9_lawAt_11 : decode cX9_lawAt 11 = .ok (.iload_n 3, 1) := by decide +kernel
theorem dX9_lawAt_12 : decode cX9_lawAt 12 = .ok (.invokevirtual 205, 3) := by decide +kernel
theorem dX9_lawAt_15 : decode cX9_lawAt 15 = .ok (.imul, 1) := by decide +kernel
theorem dX9_lawAt_16 : decode cX9_lawAt 16 = .ok (.iadd, 1) := by decide +kernel
theorem dX9_lawAt_17 : decode cX9_lawAt 17 = .ok (.iload_n 3, 1) := by decide +kernel
theorem dX9_lawAt_18 : decode cX9_lawAt 18 = .ok (.ifCond .ne 7, 3) := by decide +kernel
theorem dX9_lawAt_21 : decode cX9_lawAt 21 = .ok (.iconst 1, 1) := by decide +kernel
theorem dX9_lawAt_22 : decode cX9_lawAt 22 = .ok (.goto 4, 3) := by decide +kernel
theorem dX9_lawAt_25 : decode cX9_lawAt 25 = .ok (.iconst 0, 1) := by decide +kernel
theorem dX9_lawAt_26 : decode cX9_lawAt 26 = .ok (.iadd, 1) := by decide +kernel
theorem dX9_lawAt_27 : decode cX9_lawAt 27 = .ok (.iaload, 1) := by decide +kernel
theorem dX9_lawAt_28 : decode cX9_lawAt 28 = .ok (.ireturn, 1) := by decide +kernel
set_option maxRecDepth 20000 in
theorem ggX9_strangeOf_X9_isRebuilt : GoodIn wsX9_strangeOf wsX9_isRebuilt := goodIn_r _ [7, 8, 24, 25, 26, 27, 28, 29, 30, 31, 32, 33, 34, 35, 36, 37, 38, 39, 40, 41, 42, 43, 44, 45, 46, 47, 48, 49, 50, 51, 52, 53, 54, 55, 56, 57, 58, 59, 60, 61, 62, 63, 64] (by decide +kernel) (by decide +kernel)
set_option maxRecDepth 20000 in
theorem gX9_strangeOf_X9_isRebuilt : GoodIn wsX9_strangeOf (wsV RX9 196 RX9 yX9_isRebuilt wsX9_isRebuilt) := goodIn_app (goodIn_of _ (by decide +kernel)) ggX9_strangeOf_X9_isRebuilt
set_option maxRecDepth 20000 in
theorem ggX9_strangeOf_X9_lawAt : GoodIn wsX9_strangeOf wsX9_lawAt := goodIn_r _ [12, 13, 14, 15, 16, 6, 17, 18, 19, 20, 21, 22, 23, 24, 25, 26, 27, 28, 29, 30, 31, 32, 33, 34, 35, 36, 37, 38, 39, 40, 41, 42, 43, 44, 45, 46, 47, 48, 49, 50, 51, 52, 53, 54, 55, 56, 57, 58, 59, 60, 61, 62, 63, 64] (by decide +kernel) (by decide +kernel)
set_option maxRecDepth 20000 in
theorem gX9_strangeOf_X9_lawAt : GoodIn wsX9_strangeOf (wsV RX9 226 RX9 yX9_lawAt wsX9_lawAt) := goodIn_app (goodIn_of _ (by decide +kernel)) ggX9_strangeOf_X9_lawAt
theorem dX9_strangeOf_0 : decode cX9_strangeOf 0 = .ok (.iconst 0, 1) := by decide +kernel
theorem dX9_strangeOf_1 : decode cX9_strangeOf 1 = .ok (.istore_n 3, 1) := by decide +kernel
theorem dX9_strangeOf_2 : decode cX9_strangeOf 2 = .ok (.iconst 0, 1) := by decide +kernel
theorem dX9_strangeOf_3 : decode cX9_strangeOf 3 = .ok (.istore 4, 2) := by decide +kernel
theorem dX9_strangeOf_5 : decode cX9_strangeOf 5 = .ok (.iload 4, 2) := by decide +kernel
theorem dX9_strangeOf_7 : decode cX9_strangeOf 7 = .ok (.aload_n 0, 1) := by decide +kernel
theorem dX9_strangeOf_8 : decode cX9_strangeOf 8 = .ok (.getfield 25, 3) := by decide +kernel
theorem dX9_strangeOf_11 : decode cX9_strangeOf 11 = .ok (.iload_n 1, 1) := by decide +kernel
theorem dX9_strangeOf_12 : decode cX9_strangeOf 12 = .ok (.iaload, 1) := by decide +kernel
theorem dX9_strangeOf_13 : decode cX9_strangeOf 13 = .ok (.if_icmp .ge 62, 3) := by decide +kernel
theorem dX9_strangeOf_16 : decode cX9_strangeOf 16 = .ok (.aload_n 0, 1) := by decide +kernel
theorem dX9_strangeOf_17 : decode cX9_strangeOf 17 = .ok (.iload_n 1, 1) := by decide +kernel
theorem dX9_strangeOf_18 : decode cX9_strangeOf 18 = .ok (.invokevirtual 196, 3) := by decide +kernel
theorem dX9_strangeOf_21 : decode cX9_strangeOf 21 = .ok (.ifCond .eq 54, 3) := by decide +kernel
theorem dX9_strangeOf_24 : decode cX9_strangeOf 24 = .ok (.aload_n 0, 1) := by decide +kernel
theorem dX9_strangeOf_25 : decode cX9_strangeOf 25 = .ok (.iload_n 1, 1) := by decide +kernel
theorem dX9_strangeOf_26 : decode cX9_strangeOf 26 = .ok (.iload_n 2, 1) := by decide +kernel
theorem dX9_strangeOf_27 : decode cX9_strangeOf 27 = .ok (.iload 4, 2) := by decide +kernel
theorem dX9_strangeOf_29 : decode cX9_strangeOf 29 = .ok (.invokevirtual 226, 3) := by decide +kernel
theorem dX9_strangeOf_32 : decode cX9_strangeOf 32 = .ok (.istore 5, 2) := by decide +kernel
theorem dX9_strangeOf_34 : decode cX9_strangeOf 34 = .ok (.iload_n 3, 1) := by decide +kernel
theorem dX9_strangeOf_35 : decode cX9_strangeOf 35 = .ok (.iload 5, 2) := by decide +kernel
theorem dX9_strangeOf_37 : decode cX9_strangeOf 37 = .ok (.iconst (-1), 1) := by decide +kernel
theorem dX9_strangeOf_38 : decode cX9_strangeOf 38 = .ok (.if_icmp .eq 28, 3) := by decide +kernel
theorem dX9_strangeOf_41 : decode cX9_strangeOf 41 = .ok (.iload 5, 2) := by decide +kernel
theorem dX9_strangeOf_43 : decode cX9_strangeOf 43 = .ok (.aload_n 0, 1) := by decide +kernel
theorem dX9_strangeOf_44 : decode cX9_strangeOf 44 = .ok (.getfield 28, 3) := by decide +kernel
theorem dX9_strangeOf_47 : decode cX9_strangeOf 47 = .ok (.bipush 16, 2) := by decide +kernel
theorem dX9_strangeOf_49 : decode cX9_strangeOf 49 = .ok (.iload_n 1, 1) := by decide +kernel
theorem dX9_strangeOf_50 : decode cX9_strangeOf 50 = .ok (.imul, 1) := by decide +kernel
theorem dX9_strangeOf_51 : decode cX9_strangeOf 51 = .ok (.iconst 4, 1) := by decide +kernel
theorem dX9_strangeOf_52 : decode cX9_strangeOf 52 = .ok (.iload_n 2, 1) := by decide +kernel
theorem dX9_strangeOf_53 : decode cX9_strangeOf 53 = .ok (.imul, 1) := by decide +kernel
theorem dX9_strangeOf_54 : decode cX9_strangeOf 54 = .ok (.iadd, 1) := by decide +kernel
theorem dX9_strangeOf_55 : decode cX9_strangeOf 55 = .ok (.iload 4, 2) := by decide +kernel
theorem dX9_strangeOf_57 : decode cX9_strangeOf 57 = .ok (.iadd, 1) := by decide +kernel
theorem dX9_strangeOf_58 : decode cX9_strangeOf 58 = .ok (.iaload, 1) := by decide +kernel
theorem dX9_strangeOf_59 : decode cX9_strangeOf 59 = .ok (.if_icmp .eq 7, 3) := by decide +kernel
theorem dX9_strangeOf_62 : decode cX9_strangeOf 62 = .ok (.iconst 1, 1) := by decide +kernel
theorem dX9_strangeOf_63 : decode cX9_strangeOf 63 = .ok (.goto 4, 3) := by decide +kernel
theorem dX9_strangeOf_66 : decode cX9_strangeOf 66 = .ok (.iconst 0, 1) := by decide +kernel
theorem dX9_strangeOf_67 : decode cX9_strangeOf 67 = .ok (.iadd, 1) := by decide +kernel
theorem dX9_strangeOf_68 : decode cX9_strangeOf 68 = .ok (.istore_n 3, 1) := by decide +kernel
theorem dX9_strangeOf_69 : decode cX9_strangeOf 69 = .ok (.iinc 4 1, 3) := by decide +kernel
theorem dX9_strangeOf_72 : decode cX9_strangeOf 72 = .ok (.goto (-67), 3) := by decide +kernel
theorem dX9_strangeOf_75 : decode cX9_strangeOf 75 = .ok (.iload_n 3, 1) := by decide +kernel
theorem dX9_strangeOf_76 : decode cX9_strangeOf 76 = .ok (.ireturn, 1) := by decide +kernel
set_option maxRecDepth 20000 in
theorem ggX9_strange_X9_isSet : GoodIn wsX9_strange wsX9_isSet := goodIn_r _ [5, 6, 7, 8, 4, 9, 96, 97, 98, 99, 100, 101, 102, 103, 104, 105, 106, 107, 108, 109, 110, 111, 112, 113, 114, 115, 116, 117, 118, 119, 120, 121, 122, 123, 124, 125, 126, 127, 128, 129, 130, 131, 132, 133, 134, 135, 136] (by decide +kernel) (by decide +kernel)
set_option maxRecDepth 20000 in
theorem gX9_strange_X9_isSet : GoodIn wsX9_strange (wsV RX9 163 RX9 yX9_isSet wsX9_isSet) := goodIn_app (goodIn_of _ (by decide +kernel)) ggX9_strange_X9_isSet
set_option maxRecDepth 20000 in
theorem ggX9_strange_X9_isTongue : GoodIn wsX9_strange wsX9_isTongue := goodIn_r _ [13, 14, 7, 8, 4, 9, 96, 97, 98, 99, 100, 101, 102, 103, 104, 105, 106, 107, 108, 109, 110, 111, 112, 113, 114, 115, 116, 117, 118, 119, 120, 121, 122, 123, 124, 125, 126, 127, 128, 129, 130, 131, 132, 133, 134, 135, 136] (by decide +kernel) (by decide +kernel)
set_option maxRecDepth 20000 in
theorem gX9_strange_X9_isTongue : GoodIn wsX9_strange (wsV RX9 218 RX9 yX9_isTongue wsX9_isTongue) := goodIn_app (goodIn_of _ (by decide +kernel)) ggX9_strange_X9_isTongue
set_option maxRecDepth 20000 in
theorem ggX9_strange_X9_isRebuilt : GoodIn wsX9_strange wsX9_isRebuilt := goodIn_r _ [18, 19, 96, 97, 98, 99, 100, 101, 102, 103, 104, 105, 106, 107, 108, 109, 110, 111, 112, 113, 114, 115, 116, 117, 118, 119, 120, 121, 122, 123, 124, 125, 126, 127, 128, 129, 130, 131, 132, 133, 134, 135, 136] (by decide +kernel) (by decide +kernel)
set_option maxRecDepth 20000 in
theorem gX9_strange_X9_isRebuilt : GoodIn wsX9_strange (wsV RX9 196 RX9 yX9_isRebuilt wsX9_isRebuilt) := goodIn_app (goodIn_of _ (by decide +kernel)) ggX9_strange_X9_isRebuilt
set_option maxRecDepth 20000 in
theorem ggX9_strange_X9_freshen : GoodIn wsX9_strange wsX9_freshen := goodIn_r _ [23, 24, 14, 25, 26, 27, 4, 28, 6, 29, 30, 31, 32, 33, 34, 15, 16, 17, 18, 19, 35, 36, 37, 38, 39, 40, 41, 42, 43, 44, 45, 46, 47, 48, 49, 50, 51, 52, 53, 54, 55, 56, 57, 58, 59, 60, 61, 7, 8, 9, 62, 63, 64, 65, 66, 67, 68, 69, 70, 71, 72, 73, 74, 75, 76, 77, 78, 79, 80, 81, 82, 83, 84, 85, 86, 87, 96, 97, 98, 99, 100, 101, 102, 103, 104, 105, 106, 107, 108, 109, 110, 111, 112, 113, 114, 115, 116, 117, 118, 119, 120, 121, 122, 123, 124, 125, 126, 127, 128, 129, 130, 131, 132, 133, 134, 135, 136] (by decide +kernel) (by decide +kernel)
set_option maxRecDepth 20000 in
theorem gX9_strange_X9_freshen : GoodIn wsX9_strange (wsV RX9 223 RX9 yX9_freshen wsX9_freshen) := goodIn_app (goodIn_of _ (by decide +kernel)) ggX9_strange_X9_freshen
set_option maxRecDepth 20000 in
theorem ggX9_strange_X9_strangeOf : GoodIn wsX9_strange wsX9_strangeOf := goodIn_r _ [91, 30, 32, 15, 16, 17, 4, 18, 19, 92, 93, 94, 95, 74, 84, 85, 86, 87, 33, 14, 44, 45, 46, 47, 96, 97, 98, 99, 100, 101, 102, 103, 104, 105, 106, 107, 108, 109, 110, 111, 112, 113, 114, 115, 116, 117, 118, 119, 120, 121, 122, 123, 124, 125, 126, 127, 128, 129, 130, 131, 132, 133, 134, 135, 136] (by decide +kernel) (by decide +kernel)
set_option maxRecDepth 20000 in
theorem gX9_strange_X9_strangeOf : GoodIn wsX9_strange (wsV RX9 230 RX9 yX9_strangeOf wsX9_strangeOf) := goodIn_app (goodIn_of _ (by decide +kernel)) ggX9_strange_X9_strangeOf
theorem dX9_strange_0 : decode cX9_strange 0 = .ok (.aload_n 0, 1) := by decide +kernel
theorem dX9_strange_1 : decode cX9_strange 1 = .ok (.iload_n 1, 1) := by decide +kernel
theorem dX9_strange_2 : decode cX9_strange 2 = .ok (.invokevirtual 163, 3) := by decide +kernel
theorem dX9_strange_5 : decode cX9_strange 5 = .ok (.ifCond .eq 11, 3) := by decide +kernel
theorem dX9_strange_8 : decode cX9_strange 8 = .ok (.aload_n 0, 1) := by decide +kernel
theorem dX9_strange_9 : decode cX9_strange 9 = .ok (.iload_n 2, 1) := by decide +kernel
theorem dX9_strange_10 : decode cX9_strange 10 = .ok (.invokevirtual 218, 3) := by decide +kernel
theorem dX9_strange_13 : decode cX9_strange 13 = .ok (.ifCond .ne 6, 3) := by decide +kernel
theorem dX9_strange_16 : decode cX9_strange 16 = .ok (.bipush (-101), 2) := by decide +kernel
theorem dX9_strange_18 : decode cX9_strange 18 = .ok (.ireturn, 1) := by decide +kernel
theorem dX9_strange_19 : decode cX9_strange 19 = .ok (.aload_n 0, 1) := by decide +kernel
theorem dX9_strange_20 : decode cX9_strange 20 = .ok (.iload_n 1, 1) := by decide +kernel
theorem dX9_strange_21 : decode cX9_strange 21 = .ok (.invokevirtual 196, 3) := by decide +kernel
theorem dX9_strange_24 : decode cX9_strange 24 = .ok (.ifCond .ne 6, 3) := by decide +kernel
theorem dX9_strange_27 : decode cX9_strange 27 = .ok (.bipush (-103), 2) := by decide +kernel
theorem dX9_strange_29 : decode cX9_strange 29 = .ok (.ireturn, 1) := by decide +kernel
theorem dX9_strange_30 : decode cX9_strange 30 = .ok (.aload_n 0, 1) := by decide +kernel
theorem dX9_strange_31 : decode cX9_strange 31 = .ok (.invokevirtual 223, 3) := by decide +kernel
theorem dX9_strange_34 : decode cX9_strange 34 = .ok (.aload_n 0, 1) := by decide +kernel
theorem dX9_strange_35 : decode cX9_strange 35 = .ok (.iload_n 1, 1) := by decide +kernel
theorem dX9_strange_36 : decode cX9_strange 36 = .ok (.iload_n 2, 1) := by decide +kernel
theorem dX9_strange_37 : decode cX9_strange 37 = .ok (.invokevirtual 230, 3) := by decide +kernel
theorem dX9_strange_40 : decode cX9_strange 40 = .ok (.ireturn, 1) := by decide +kernel
set_option maxRecDepth 20000 in
theorem ggX9_say_X9_isPlace : GoodIn wsX9_say wsX9_isPlace := goodIn_r _ [5, 6, 7, 8, 9, 4, 10, 11, 12, 13, 14, 96, 97, 98, 99, 100, 101, 102, 103, 104, 105, 106, 107, 108, 109, 110, 111, 112, 113, 114, 115, 116, 117, 118, 119, 120, 121, 122, 123, 124, 125, 126, 127, 128, 129, 130, 131, 132, 133, 134, 135, 136] (by decide +kernel) (by decide +kernel)
set_option maxRecDepth 20000 in
theorem gX9_say_X9_isPlace : GoodIn wsX9_say (wsV RX9 233 RX9 yX9_isPlace wsX9_isPlace) := goodIn_app (goodIn_of _ (by decide +kernel)) ggX9_say_X9_isPlace
set_option maxRecDepth 20000 in
theorem ggX9_say_X9_isTongue : GoodIn wsX9_say wsX9_isTongue := goodIn_r _ [18, 19, 12, 13, 4, 14, 96, 97, 98, 99, 100, 101, 102, 103, 104, 105, 106, 107, 108, 109, 110, 111, 112, 113, 114, 115, 116, 117, 118, 119, 120, 121, 122, 123, 124, 125, 126, 127, 128, 129, 130, 131, 132, 133, 134, 135, 136] (by decide +kernel) (by decide +kernel)
set_option maxRecDepth 20000 in
theorem gX9_say_X9_isTongue : GoodIn wsX9_say (wsV RX9 218 RX9 yX9_isTongue wsX9_isTongue) := goodIn_app (goodIn_of _ (by decide +kernel)) ggX9_say_X9_isTongue
set_option maxRecDepth 20000 in
theorem ggX9_say_X9_isRebuilt : GoodIn wsX9_say wsX9_isRebuilt := goodIn_r _ [23, 24, 96, 97, 98, 99, 100, 101, 102, 103, 104, 105, 106, 107, 108, 109, 110, 111, 112, 113, 114, 115, 116, 117, 118, 119, 120, 121, 122, 123, 124, 125, 126, 127, 128, 129, 130, 131, 132, 133, 134, 135, 136] (by decide +kernel) (by decide +kernel)
set_option maxRecDepth 20000 in
theorem gX9_say_X9_isRebuilt : GoodIn wsX9_say (wsV RX9 196 RX9 yX9_isRebuilt wsX9_isRebuilt) := goodIn_app (goodIn_of _ (by decide +kernel)) ggX9_say_X9_isRebuilt
set_option maxRecDepth 20000 in
theorem ggX9_say_X9_freshen : GoodIn wsX9_say wsX9_freshen := goodIn_r _ [28, 29, 19, 30, 31, 32, 4, 33, 11, 34, 6, 35, 36, 37, 38, 20, 21, 22, 23, 24, 39, 40, 41, 42, 43, 44, 45, 46, 47, 48, 49, 50, 51, 52, 53, 54, 55, 56, 57, 58, 59, 60, 61, 62, 63, 64, 65, 12, 13, 14, 66, 67, 68, 69, 70, 71, 72, 73, 74, 75, 76, 77, 78, 79, 80, 81, 82, 83, 84, 85, 86, 87, 88, 89, 90, 91, 96, 97, 98, 99, 100, 101, 102, 103, 104, 105, 106, 107, 108, 109, 110, 111, 112, 113, 114, 115, 116, 117, 118, 119, 120, 121, 122, 123, 124, 125, 126, 127, 128, 129, 130, 131, 132, 133, 134, 135, 136] (by decide +kernel) (by decide +kernel)
set_option maxRecDepth 20000 in
theorem gX9_say_X9_freshen : GoodIn wsX9_say (wsV RX9 223 RX9 yX9_freshen wsX9_freshen) := goodIn_app (goodIn_of _ (by decide +kernel)) ggX9_say_X9_freshen
set_option maxRecDepth 20000 in
theorem ggX9_say_X9_lawAt : GoodIn wsX9_say wsX9_lawAt := goodIn_r _ [95, 78, 88, 89, 90, 4, 91, 37, 19, 48, 49, 50, 51, 96, 97, 98, 99, 100, 101, 102, 103, 104, 105, 106, 107, 108, 109, 110, 111, 112, 113, 114, 115, 116, 117, 118, 119, 120, 121, 122, 123, 124, 125, 126, 127, 128, 129, 130, 131, 132, 133, 134, 135, 136] (by decide +kernel) (by decide +kernel)
set_option maxRecDepth 20000 in
theorem gX9_say_X9_lawAt : GoodIn wsX9_say (wsV RX9 226 RX9 yX9_lawAt wsX9_lawAt) := goodIn_app (goodIn_of _ (by decide +kernel)) ggX9_say_X9_lawAt
set_option maxRecDepth 20000 in
theorem ggX9_say_X9_oldSound : GoodIn wsX9_say wsX9_oldSound := goodIn_r _ [91, 37, 19, 48, 49, 50, 4, 51, 96, 97, 98, 99, 100, 101, 102, 103, 104, 105, 106, 107, 108, 109, 110, 111, 112, 113, 114, 115, 116, 117, 118, 119, 120, 121, 122, 123, 124, 125, 126, 127, 128, 129, 130, 131, 132, 133, 134, 135, 136] (by decide +kernel) (by decide +kernel)
set_option maxRecDepth 20000 in
theorem gX9_say_X9_oldSound : GoodIn wsX9_say (wsV RX9 205 RX9 yX9_oldSound wsX9_oldSound) := goodIn_app (goodIn_of _ (by decide +kernel)) ggX9_say_X9_oldSound
theorem dX9_say_0 : decode cX9_say 0 = .ok (.aload_n 0, 1) := by decide +kernel
theorem dX9_say_1 : decode cX9_say 1 = .ok (.iload_n 1, 1) := by decide +kernel
theorem dX9_say_2 : decode cX9_say 2 = .ok (.iload_n 3, 1) := by decide +kernel
theorem dX9_say_3 : decode cX9_say 3 = .ok (.invokevirtual 233, 3) := by decide +kernel
theorem dX9_say_6 : decode cX9_say 6 = .ok (.ifCond .eq 11, 3) := by decide +kernel
theorem dX9_say_9 : decode cX9_say 9 = .ok (.aload_n 0, 1) := by decide +kernel
theorem dX9_say_10 : decode cX9_say 10 = .ok (.iload_n 2, 1) := by decide +kernel
theorem dX9_say_11 : decode cX9_say 11 = .ok (.invokevirtual 218, 3) := by decide +kernel
theorem dX9_say_14 : decode cX9_say 14 = .ok (.ifCond .ne 6, 3) := by decide +kernel
theorem dX9_say_17 : decode cX9_say 17 = .ok (.bipush (-101), 2) := by decide +kernel
theorem dX9_say_19 : decode cX9_say 19 = .ok (.ireturn, 1) := by decide +kernel
theorem dX9_say_20 : decode cX9_say 20 = .ok (.aload_n 0, 1) := by decide +kernel
theorem dX9_say_21 : decode cX9_say 21 = .ok (.iload_n 1, 1) := by decide +kernel
theorem dX9_say_22 : decode cX9_say 22 = .ok (.invokevirtual 196, 3) := by decide +kernel
theorem dX9_say_25 : decode cX9_say 25 = .ok (.ifCond .ne 6, 3) := by decide +kernel
theorem dX9_say_28 : decode cX9_say 28 = .ok (.bipush (-103), 2) := by decide +kernel
theorem dX9_say_30 : decode cX9_say 30 = .ok (.ireturn, 1) := by decide +kernel
theorem dX9_say_31 : decode cX9_say 31 = .ok (.aload_n 0, 1) := by decide +kernel
theorem dX9_say_32 : decode cX9_say 32 = .ok (.invokevirtual 223, 3) := by decide +kernel
theorem dX9_say_35 : decode cX9_say 35 = .ok (.aload_n 0, 1) := by decide +kernel
theorem dX9_say_36 : decode cX9_say 36 = .ok (.iload_n 1, 1) := by decide +kernel
theorem dX9_say_37 : decode cX9_say 37 = .ok (.iload_n 2, 1) := by decide +kernel
theorem dX9_say_38 : decode cX9_say 38 = .ok (.iload_n 3, 1) := by decide +kernel
theorem dX9_say_39 : decode cX9_say 39 = .ok (.invokevirtual 226, 3) := by decide +kernel
theorem dX9_say_42 : decode cX9_say 42 = .ok (.istore 4, 2) := by decide +kernel
theorem dX9_say_44 : decode cX9_say 44 = .ok (.iload 4, 2) := by decide +kernel
theorem dX9_say_46 : decode cX9_say 46 = .ok (.iconst (-1), 1) := by decide +kernel
theorem dX9_say_47 : decode cX9_say 47 = .ok (.if_icmp .ne 12, 3) := by decide +kernel
theorem dX9_say_50 : decode cX9_say 50 = .ok (.aload_n 0, 1) := by decide +kernel
theorem dX9_say_51 : decode cX9_say 51 = .ok (.iload_n 1, 1) := by decide +kernel
theorem dX9_say_52 : decode cX9_say 52 = .ok (.iload_n 3, 1) := by decide +kernel
theorem dX9_say_53 : decode cX9_say 53 = .ok (.invokevirtual 205, 3) := by decide +kernel
theorem dX9_say_56 : decode cX9_say 56 = .ok (.goto 5, 3) := by decide +kernel
theorem dX9_say_59 : decode cX9_say 59 = .ok (.iload 4, 2) := by decide +kernel
theorem dX9_say_61 : decode cX9_say 61 = .ok (.ireturn, 1) := by decide +kernel
set_option maxRecDepth 20000 in
theorem ggX9_isBorrowed_X9_strangeOf : GoodIn wsX9_isBorrowed wsX9_strangeOf := goodIn_r _ [6, 1, 7, 8, 9, 10, 5, 11, 12, 13, 14, 15, 16, 17, 18, 19, 20, 21, 22, 23, 24, 25, 26, 27, 28, 29, 30, 31, 32, 33, 34, 35, 36, 37, 38, 39, 40, 41, 42, 43, 44, 45, 46, 47, 48, 49, 50, 51, 52, 53, 54, 55, 56, 57, 58, 59, 60, 61, 62, 63, 64, 65, 66, 67, 68] (by decide +kernel) (by decide +kernel)
set_option maxRecDepth 20000 in
theorem gX9_isBorrowed_X9_strangeOf : GoodIn wsX9_isBorrowed (wsV RX9 230 RX9 yX9_strangeOf wsX9_strangeOf) := goodIn_app (goodIn_of _ (by decide +kernel)) ggX9_isBorrowed_X9_strangeOf
theorem dX9_isBorrowed_0 : decode cX9_isBorrowed 0 = .ok (.aload_n 0, 1) := by decide +kernel
theorem dX9_isBorrowed_1 : decode cX9_isBorrowed 1 = .ok (.iload_n 1, 1) := by decide +kernel
theorem dX9_isBorrowed_2 : decode cX9_isBorrowed 2 = .ok (.iload_n 2, 1) := by decide +kernel
theorem dX9_isBorrowed_3 : decode cX9_isBorrowed 3 = .ok (.invokevirtual 230, 3) := by decide +kernel
theorem dX9_isBorrowed_6 : decode cX9_isBorrowed 6 = .ok (.istore_n 3, 1) := by decide +kernel
theorem dX9_isBorrowed_7 : decode cX9_isBorrowed 7 = .ok (.iload_n 3, 1) := by decide +kernel
theorem dX9_isBorrowed_8 : decode cX9_isBorrowed 8 = .ok (.iconst 1, 1) := by decide +kernel
theorem dX9_isBorrowed_9 : decode cX9_isBorrowed 9 = .ok (.if_icmp .gt 13, 3) := by decide +kernel
theorem dX9_isBorrowed_12 : decode cX9_isBorrowed 12 = .ok (.iload_n 3, 1) := by decide +kernel
theorem dX9_isBorrowed_13 : decode cX9_isBorrowed 13 = .ok (.aload_n 0, 1) := by decide +kernel
theorem dX9_isBorrowed_14 : decode cX9_isBorrowed 14 = .ok (.getfield 25, 3) := by decide +kernel
theorem dX9_isBorrowed_17 : decode cX9_isBorrowed 17 = .ok (.iload_n 1, 1) := by decide +kernel
theorem dX9_isBorrowed_18 : decode cX9_isBorrowed 18 = .ok (.iaload, 1) := by decide +kernel
theorem dX9_isBorrowed_19 : decode cX9_isBorrowed 19 = .ok (.if_icmp .ne 7, 3) := by decide +kernel
theorem dX9_isBorrowed_22 : decode cX9_isBorrowed 22 = .ok (.iconst 1, 1) := by decide +kernel
theorem dX9_isBorrowed_23 : decode cX9_isBorrowed 23 = .ok (.goto 4, 3) := by decide +kernel
theorem dX9_isBorrowed_26 : decode cX9_isBorrowed 26 = .ok (.iconst 0, 1) := by decide +kernel
theorem dX9_isBorrowed_27 : decode cX9_isBorrowed 27 = .ok (.ireturn, 1) := by decide +kernel
set_option maxRecDepth 20000 in
theorem ggX9_strangeAll_X9_strangeOf : GoodIn wsX9_strangeAll wsX9_strangeOf := goodIn_r _ [6, 7, 8, 9, 10, 11, 5, 12, 13, 14, 15, 16, 17, 18, 19, 20, 21, 22, 23, 1, 24, 25, 26, 27, 28, 29, 30, 31, 32, 33, 34, 35, 36, 37, 38, 39, 40, 41, 42, 43, 44, 45, 46, 47, 48, 49, 50, 51, 52, 53, 54, 55, 56, 57, 58, 59, 60, 61, 62, 63, 64, 65, 66, 67, 68] (by decide +kernel) (by decide +kernel)
set_option maxRecDepth 20000 in
theorem gX9_strangeAll_X9_strangeOf : GoodIn wsX9_strangeAll (wsV RX9 230 RX9 yX9_strangeOf wsX9_strangeOf) := goodIn_app (goodIn_of _ (by decide +kernel)) ggX9_strangeAll_X9_strangeOf
theorem dX9_strangeAll_0 : decode cX9_strangeAll 0 = .ok (.iconst 0, 1) := by decide +kernel
theorem dX9_strangeAll_1 : decode cX9_strangeAll 1 = .ok (.istore_n 2, 1) := by decide +kernel
theorem dX9_strangeAll_2 : decode cX9_strangeAll 2 = .ok (.iconst 0, 1) := by decide +kernel
theorem dX9_strangeAll_3 : decode cX9_strangeAll 3 = .ok (.istore_n 3, 1) := by decide +kernel
theorem dX9_strangeAll_4 : decode cX9_strangeAll 4 = .ok (.iload_n 3, 1) := by decide +kernel
theorem dX9_strangeAll_5 : decode cX9_strangeAll 5 = .ok (.aload_n 0, 1) := by decide +kernel
theorem dX9_strangeAll_6 : decode cX9_strangeAll 6 = .ok (.getfield 150, 3) := by decide +kernel
theorem dX9_strangeAll_9 : decode cX9_strangeAll 9 = .ok (.if_icmp .ge 18, 3) := by decide +kernel
theorem dX9_strangeAll_12 : decode cX9_strangeAll 12 = .ok (.iload_n 2, 1) := by decide +kernel
theorem dX9_strangeAll_13 : decode cX9_strangeAll 13 = .ok (.aload_n 0, 1) := by decide +kernel
theorem dX9_strangeAll_14 : decode cX9_strangeAll 14 = .ok (.iload_n 1, 1) := by decide +kernel
theorem dX9_strangeAll_15 : decode cX9_strangeAll 15 = .ok (.iload_n 3, 1) := by decide +kernel
theorem dX9_strangeAll_16 : decode cX9_strangeAll 16 = .ok (.invokevirtual 230, 3) := by decide +kernel
theorem dX9_strangeAll_19 : decode cX9_strangeAll 19 = .ok (.iadd, 1) := by decide +kernel
theorem dX9_strangeAll_20 : decode cX9_strangeAll 20 = .ok (.istore_n 2, 1) := by decide +kernel
theorem dX9_strangeAll_21 : decode cX9_strangeAll 21 = .ok (.iinc 3 1, 3) := by decide +kernel
theorem dX9_strangeAll_24 : decode cX9_strangeAll 24 = .ok (.goto (-20), 3) := by decide +kernel
theorem dX9_strangeAll_27 : decode cX9_strangeAll 27 = .ok (.iload_n 2, 1) := by decide +kernel
theorem dX9_strangeAll_28 : decode cX9_strangeAll 28 = .ok (.ireturn, 1) := by decide +kernel
set_option maxRecDepth 20000 in
theorem ggX9_borrowed_X9_isBorrowed : GoodIn wsX9_borrowed wsX9_isBorrowed := goodIn_r _ [6, 7, 8, 9, 10, 5, 11, 12, 13, 14, 15, 16, 17, 18, 19, 20, 21, 22, 23, 24, 25, 26, 27, 1, 28, 29, 30, 31, 32, 33, 34, 35, 36, 37, 38, 39, 40, 41, 42, 43, 44, 45, 46, 47, 48, 49, 50, 51, 52, 53, 54, 55, 56, 57, 58, 59, 60, 61, 62, 63, 64, 65, 66, 67, 68, 69, 70, 71, 72] (by decide +kernel) (by decide +kernel)
set_option maxRecDepth 20000 in
theorem gX9_borrowed_X9_isBorrowed : GoodIn wsX9_borrowed (wsV RX9 237 RX9 yX9_isBorrowed wsX9_isBorrowed) := goodIn_app (goodIn_of _ (by decide +kernel)) ggX9_borrowed_X9_isBorrowed
theorem dX9_borrowed_0 : decode cX9_borrowed 0 = .ok (.iconst 0, 1) := by decide +kernel
theorem dX9_borrowed_1 : decode cX9_borrowed 1 = .ok (.istore_n 2, 1) := by decide +kernel
theorem dX9_borrowed_2 : decode cX9_borrowed 2 = .ok (.iconst 0, 1) := by decide +kernel
theorem dX9_borrowed_3 : decode cX9_borrowed 3 = .ok (.istore_n 3, 1) := by decide +kernel
theorem dX9_borrowed_4 : decode cX9_borrowed 4 = .ok (.iload_n 3, 1) := by decide +kernel
theorem dX9_borrowed_5 : decode cX9_borrowed 5 = .ok (.aload_n 0, 1) := by decide +kernel
theorem dX9_borrowed_6 : decode cX9_borrowed 6 = .ok (.getfield 150, 3) := by decide +kernel
theorem dX9_borrowed_9 : decode cX9_borrowed 9 = .ok (.if_icmp .ge 28, 3) := by decide +kernel
theorem dX9_borrowed_12 : decode cX9_borrowed 12 = .ok (.iload_n 2, 1) := by decide +kernel
theorem dX9_borrowed_13 : decode cX9_borrowed 13 = .ok (.aload_n 0, 1) := by decide +kernel
theorem dX9_borrowed_14 : decode cX9_borrowed 14 = .ok (.iload_n 1, 1) := by decide +kernel
theorem dX9_borrowed_15 : decode cX9_borrowed 15 = .ok (.iload_n 3, 1) := by decide +kernel
theorem dX9_borrowed_16 : decode cX9_borrowed 16 = .ok (.invokevirtual 237, 3) := by decide +kernel
theorem dX9_borrowed_19 : decode cX9_borrowed 19 = .ok (.ifCond .eq 9, 3) := by decide +kernel
theorem dX9_borrowed_22 : decode cX9_borrowed 22 = .ok (.iconst 1, 1) := by decide +kernel
theorem dX9_borrowed_23 : decode cX9_borrowed 23 = .ok (.iload_n 3, 1) := by decide +kernel
theorem dX9_borrowed_24 : decode cX9_borrowed 24 = .ok (.ishl, 1) := by decide +kernel
theorem dX9_borrowed_25 : decode cX9_borrowed 25 = .ok (.goto 4, 3) := by decide +kernel
theorem dX9_borrowed_28 : decode cX9_borrowed 28 = .ok (.iconst 0, 1) := by decide +kernel
theorem dX9_borrowed_29 : decode cX9_borrowed 29 = .ok (.ior, 1) := by decide +kernel
theorem dX9_borrowed_30 : decode cX9_borrowed 30 = .ok (.istore_n 2, 1) := by decide +kernel
theorem dX9_borrowed_31 : decode cX9_borrowed 31 = .ok (.iinc 3 1, 3) := by decide +kernel
theorem dX9_borrowed_34 : decode cX9_borrowed 34 = .ok (.goto (-30), 3) := by decide +kernel
theorem dX9_borrowed_37 : decode cX9_borrowed 37 = .ok (.iload_n 2, 1) := by decide +kernel
theorem dX9_borrowed_38 : decode cX9_borrowed 38 = .ok (.ireturn, 1) := by decide +kernel
theorem dX9_strip_0 : decode cX9_strip 0 = .ok (.iconst 0, 1) := by decide +kernel
theorem dX9_strip_1 : decode cX9_strip 1 = .ok (.istore 4, 2) := by decide +kernel
theorem dX9_strip_3 : decode cX9_strip 3 = .ok (.iconst 0, 1) := by decide +kernel
theorem dX9_strip_4 : decode cX9_strip 4 = .ok (.istore 5, 2) := by decide +kernel
theorem dX9_strip_6 : decode cX9_strip 6 = .ok (.iload 5, 2) := by decide +kernel
theorem dX9_strip_8 : decode cX9_strip 8 = .ok (.aload_n 0, 1) := by decide +kernel
theorem dX9_strip_9 : decode cX9_strip 9 = .ok (.getfield 25, 3) := by decide +kernel
theorem dX9_strip_12 : decode cX9_strip 12 = .ok (.iload_n 1, 1) := by decide +kernel
theorem dX9_strip_13 : decode cX9_strip 13 = .ok (.iaload, 1) := by decide +kernel
theorem dX9_strip_14 : decode cX9_strip 14 = .ok (.if_icmp .ge 41, 3) := by decide +kernel
theorem dX9_strip_17 : decode cX9_strip 17 = .ok (.aload_n 0, 1) := by decide +kernel
theorem dX9_strip_18 : decode cX9_strip 18 = .ok (.getfield 28, 3) := by decide +kernel
theorem dX9_strip_21 : decode cX9_strip 21 = .ok (.bipush 16, 2) := by decide +kernel
theorem dX9_strip_23 : decode cX9_strip 23 = .ok (.iload_n 1, 1) := by decide +kernel
theorem dX9_strip_24 : decode cX9_strip 24 = .ok (.imul, 1) := by decide +kernel
theorem dX9_strip_25 : decode cX9_strip 25 = .ok (.iconst 4, 1) := by decide +kernel
theorem dX9_strip_26 : decode cX9_strip 26 = .ok (.iload_n 2, 1) := by decide +kernel
theorem dX9_strip_27 : decode cX9_strip 27 = .ok (.imul, 1) := by decide +kernel
theorem dX9_strip_28 : decode cX9_strip 28 = .ok (.iadd, 1) := by decide +kernel
theorem dX9_strip_29 : decode cX9_strip 29 = .ok (.iload 5, 2) := by decide +kernel
theorem dX9_strip_31 : decode cX9_strip 31 = .ok (.iadd, 1) := by decide +kernel
theorem dX9_strip_32 : decode cX9_strip 32 = .ok (.iaload, 1) := by decide +kernel
theorem dX9_strip_33 : decode cX9_strip 33 = .ok (.istore 6, 2) := by decide +kernel
theorem dX9_strip_35 : decode cX9_strip 35 = .ok (.iload 6, 2) := by decide +kernel
theorem dX9_strip_37 : decode cX9_strip 37 = .ok (.ifCond .eq 12, 3) := by decide +kernel
theorem dX9_strip_40 : decode cX9_strip 40 = .ok (.aload_n 3, 1) := by decide +kernel
theorem dX9_strip_41 : decode cX9_strip 41 = .ok (.iload 4, 2) := by decide +kernel
theorem dX9_strip_43 : decode cX9_strip 43 = .ok (.iload 6, 2) := by decide +kernel
theorem dX9_strip_45 : decode cX9_strip 45 = .ok (.iastore, 1) := by decide +kernel
theorem dX9_strip_46 : decode cX9_strip 46 = .ok (.iinc 4 1, 3) := by decide +kernel
theorem dX9_strip_49 : decode cX9_strip 49 = .ok (.iinc 5 1, 3) := by decide +kernel
theorem dX9_strip_52 : decode cX9_strip 52 = .ok (.goto (-46), 3) := by decide +kernel
theorem dX9_strip_55 : decode cX9_strip 55 = .ok (.iload 4, 2) := by decide +kernel
theorem dX9_strip_57 : decode cX9_strip 57 = .ok (.ireturn, 1) := by decide +kernel
set_option maxRecDepth 20000 in
theorem ggX9_line_X9_isSet : GoodIn wsX9_line wsX9_isSet := goodIn_r _ [8, 9, 10, 11, 7, 12, 31, 32, 33, 34, 35, 36, 37, 38, 39, 40, 41, 42, 43, 44, 45, 46, 47, 48, 49, 50, 51, 52, 53, 54, 55, 56, 57, 58, 59, 60, 61, 62, 63, 64, 65, 66, 67, 68, 69, 70, 71] (by decide +kernel) (by decide +kernel)
set_option maxRecDepth 20000 in
theorem gX9_line_X9_isSet : GoodIn wsX9_line (wsV RX9 163 RX9 yX9_isSet wsX9_isSet) := goodIn_app (goodIn_of _ (by decide +kernel)) ggX9_line_X9_isSet
set_option maxRecDepth 20000 in
theorem ggX9_line_X9_isTongue : GoodIn wsX9_line wsX9_isTongue := goodIn_r _ [16, 17, 10, 11, 7, 12, 31, 32, 33, 34, 35, 36, 37, 38, 39, 40, 41, 42, 43, 44, 45, 46, 47, 48, 49, 50, 51, 52, 53, 54, 55, 56, 57, 58, 59, 60, 61, 62, 63, 64, 65, 66, 67, 68, 69, 70, 71] (by decide +kernel) (by decide +kernel)
set_option maxRecDepth 20000 in
theorem gX9_line_X9_isTongue : GoodIn wsX9_line (wsV RX9 218 RX9 yX9_isTongue wsX9_isTongue) := goodIn_app (goodIn_of _ (by decide +kernel)) ggX9_line_X9_isTongue
set_option maxRecDepth 20000 in
theorem ggX9_line_X9_strip : GoodIn wsX9_line wsX9_strip := goodIn_r _ [21, 22, 23, 31, 32, 33, 34, 35, 36, 37, 38, 39, 40, 41, 42, 43, 44, 45, 46, 47, 48, 49, 50, 51, 52, 53, 54, 55, 56, 57, 58, 59, 60, 61, 62, 63, 64, 65, 66, 67, 68, 69, 70, 71] (by decide +kernel) (by decide +kernel)
set_option maxRecDepth 20000 in
theorem gX9_line_X9_strip : GoodIn wsX9_line (wsV RX9 240 RX9 yX9_strip wsX9_strip) := goodIn_app (goodIn_of _ (by decide +kernel)) ggX9_line_X9_strip
set_option maxRecDepth 20000 in
theorem ggX9_line_X9_costOf : GoodIn wsX9_line wsX9_costOf := goodIn_r _ [26, 27, 28, 7, 29, 30, 10, 11, 12] (by decide +kernel) (by decide +kernel)
set_option maxRecDepth 20000 in
theorem gX9_line_X9_costOf : GoodIn wsX9_line (va_wsS RX9 173 yX9_costOf wsX9_costOf) := goodIn_app (goodIn_of _ (by decide +kernel)) ggX9_line_X9_costOf
theorem dX9_line_0 : decode cX9_line 0 = .ok (.aload_n 0, 1) := by decide +kernel
theorem dX9_line_1 : decode cX9_line 1 = .ok (.iload_n 1, 1) := by decide +kernel
theorem dX9_line_2 : decode cX9_line 2 = .ok (.invokevirtual 163, 3) := by decide +kernel
theorem dX9_line_5 : decode cX9_line 5 = .ok (.ifCond .eq 28, 3) := by decide +kernel
theorem dX9_line_8 : decode cX9_line 8 = .ok (.aload_n 0, 1) := by decide +kernel
theorem dX9_line_9 : decode cX9_line 9 = .ok (.iload_n 3, 1) := by decide +kernel
theorem dX9_line_10 : decode cX9_line 10 = .ok (.invokevirtual 163, 3) := by decide +kernel
theorem dX9_line_13 : decode cX9_line 13 = .ok (.ifCond .eq 20, 3) := by decide +kernel
theorem dX9_line_16 : decode cX9_line 16 = .ok (.aload_n 0, 1) := by decide +kernel
theorem dX9_line_17 : decode cX9_line 17 = .ok (.iload_n 2, 1) := by decide +kernel
theorem dX9_line_18 : decode cX9_line 18 = .ok (.invokevirtual 218, 3) := by decide +kernel
theorem dX9_line_21 : decode cX9_line 21 = .ok (.ifCond .eq 12, 3) := by decide +kernel
theorem dX9_line_24 : decode cX9_line 24 = .ok (.aload_n 0, 1) := by decide +kernel
theorem dX9_line_25 : decode cX9_line 25 = .ok (.iload 4, 2) := by decide +kernel
theorem dX9_line_27 : decode cX9_line 27 = .ok (.invokevirtual 218, 3) := by decide +kernel
theorem dX9_line_30 : decode cX9_line 30 = .ok (.ifCond .ne 6, 3) := by decide +kernel
theorem dX9_line_33 : decode cX9_line 33 = .ok (.bipush (-101), 2) := by decide +kernel
theorem dX9_line_35 : decode cX9_line 35 = .ok (.ireturn, 1) := by decide +kernel
theorem dX9_line_36 : decode cX9_line 36 = .ok (.aload_n 0, 1) := by decide +kernel
theorem dX9_line_37 : decode cX9_line 37 = .ok (.iload_n 1, 1) := by decide +kernel
theorem dX9_line_38 : decode cX9_line 38 = .ok (.iload_n 2, 1) := by decide +kernel
theorem dX9_line_39 : decode cX9_line 39 = .ok (.aload_n 0, 1) := by decide +kernel
theorem dX9_line_40 : decode cX9_line 40 = .ok (.getfield 58, 3) := by decide +kernel
theorem dX9_line_43 : decode cX9_line 43 = .ok (.invokevirtual 240, 3) := by decide +kernel
theorem dX9_line_46 : decode cX9_line 46 = .ok (.istore 5, 2) := by decide +kernel
theorem dX9_line_48 : decode cX9_line 48 = .ok (.aload_n 0, 1) := by decide +kernel
theorem dX9_line_49 : decode cX9_line 49 = .ok (.iload_n 3, 1) := by decide +kernel
theorem dX9_line_50 : decode cX9_line 50 = .ok (.iload 4, 2) := by decide +kernel
theorem dX9_line_52 : decode cX9_line 52 = .ok (.aload_n 0, 1) := by decide +kernel
theorem dX9_line_53 : decode cX9_line 53 = .ok (.getfield 61, 3) := by decide +kernel
theorem dX9_line_56 : decode cX9_line 56 = .ok (.invokevirtual 240, 3) := by decide +kernel
theorem dX9_line_59 : decode cX9_line 59 = .ok (.istore 6, 2) := by decide +kernel
theorem dX9_line_61 : decode cX9_line 61 = .ok (.iconst 0, 1) := by decide +kernel
theorem dX9_line_62 : decode cX9_line 62 = .ok (.istore 7, 2) := by decide +kernel
theorem dX9_line_64 : decode cX9_line 64 = .ok (.iload 7, 2) := by decide +kernel
theorem dX9_line_66 : decode cX9_line 66 = .ok (.iload 5, 2) := by decide +kernel
theorem dX9_line_68 : decode cX9_line 68 = .ok (.if_icmp .gt 215, 3) := by decide +kernel
theorem dX9_line_71 : decode cX9_line 71 = .ok (.iconst 0, 1) := by decide +kernel
theorem dX9_line_72 : decode cX9_line 72 = .ok (.istore 8, 2) := by decide +kernel
theorem dX9_line_74 : decode cX9_line 74 = .ok (.iload 8, 2) := by decide +kernel
theorem dX9_line_76 : decode cX9_line 76 = .ok (.iload 6, 2) := by decide +kernel
theorem dX9_line_78 : decode cX9_line 78 = .ok (.if_icmp .gt 199, 3) := by decide +kernel
theorem dX9_line_81 : decode cX9_line 81 = .ok (.iload 7, 2) := by decide +kernel
theorem dX9_line_83 : decode cX9_line 83 = .ok (.ifCond .ne 12, 3) := by decide +kernel
theorem dX9_line_86 : decode cX9_line 86 = .ok (.iload 8, 2) := by decide +kernel
theorem dX9_line_88 : decode cX9_line 88 = .ok (.ifCond .ne 7, 3) := by decide +kernel
theorem dX9_line_91 : decode cX9_line 91 = .ok (.iconst 0, 1) := by decide +kernel
theorem dX9_line_92 : decode cX9_line 92 = .ok (.goto 6, 3) := by decide +kernel
theorem dX9_line_95 : decode cX9_line 95 = .ok (.sipush 9999, 3) := by decide +kernel
theorem dX9_line_98 : decode cX9_line 98 = .ok (.istore 9, 2) := by decide +kernel
theorem dX9_line_100 : decode cX9_line 100 = .ok (.iload 7, 2) := by decide +kernel
theorem dX9_line_102 : decode cX9_line 102 = .ok (.ifCond .ne 9, 3) := by decide +kernel
theorem dX9_line_105 : decode cX9_line 105 = .ok (.sipush 9999, 3) := by decide +kernel
theorem dX9_line_108 : decode cX9_line 108 = .ok (.goto 19, 3) := by decide +kernel
theorem dX9_line_111 : decode cX9_line 111 = .ok (.aload_n 0, 1) := by decide +kernel
theorem dX9_line_112 : decode cX9_line 112 = .ok (.getfield 64, 3) := by decide +kernel
theorem dX9_line_115 : decode cX9_line 115 = .ok (.iconst 5, 1) := by decide +kernel
theorem dX9_line_116 : decode cX9_line 116 = .ok (.iload 7, 2) := by decide +kernel
theorem dX9_line_118 : decode cX9_line 118 = .ok (.imul, 1) := by decide +kernel
theorem dX9_line_119 : decode cX9_line 119 = .ok (.iconst 5, 1) := by decide +kernel
theorem dX9_line_120 : decode cX9_line 120 = .ok (.isub, 1) := by decide +kernel
theorem dX9_line_121 : decode cX9_line 121 = .ok (.iload 8, 2) := by decide +kernel
theorem dX9_line_123 : decode cX9_line 123 = .ok (.iadd, 1) := by decide +kernel
theorem dX9_line_124 : decode cX9_line 124 = .ok (.iaload, 1) := by decide +kernel
theorem dX9_line_125 : decode cX9_line 125 = .ok (.iconst 3, 1) := by decide +kernel
theorem dX9_line_126 : decode cX9_line 126 = .ok (.iadd, 1) := by decide +kernel
theorem dX9_line_127 : decode cX9_line 127 = .ok (.istore 10, 2) := by decide +kernel
theorem dX9_line_129 : decode cX9_line 129 = .ok (.iload 8, 2) := by decide +kernel
theorem dX9_line_131 : decode cX9_line 131 = .ok (.ifCond .ne 9, 3) := by decide +kernel
theorem dX9_line_134 : decode cX9_line 134 = .ok (.sipush 9999, 3) := by decide +kernel
theorem dX9_line_137 : decode cX9_line 137 = .ok (.goto 19, 3) := by decide +kernel
theorem dX9_line_140 : decode cX9_line 140 = .ok (.aload_n 0, 1) := by decide +kernel
theorem dX9_line_141 : decode cX9_line 141 = .ok (.getfield 64, 3) := by decide +kernel
theorem dX9_line_144 : decode cX9_line 144 = .ok (.iconst 5, 1) := by decide +kernel
theorem dX9_line_145 : decode cX9_line 145 = .ok (.iload 7, 2) := by decide +kernel
theorem dX9_line_147 : decode cX9_line 147 = .ok (.imul, 1) := by decide +kernel
theorem dX9_line_148 : decode cX9_line 148 = .ok (.iload 8, 2) := by decide +kernel
theorem dX9_line_150 : decode cX9_line 150 = .ok (.iadd, 1) := by decide +kernel
theorem dX9_line_151 : decode cX9_line 151 = .ok (.iconst 1, 1) := by decide +kernel
theorem dX9_line_152 : decode cX9_line 152 = .ok (.isub, 1) := by decide +kernel
theorem dX9_line_153 : decode cX9_line 153 = .ok (.iaload, 1) := by decide +kernel
theorem dX9_line_154 : decode cX9_line 154 = .ok (.iconst 3, 1) := by decide +kernel
theorem dX9_line_155 : decode cX9_line 155 = .ok (.iadd, 1) := by decide +kernel
theorem dX9_line_156 : decode cX9_line 156 = .ok (.istore 11, 2) := by decide +kernel
theorem dX9_line_158 : decode cX9_line 158 = .ok (.iload 7, 2) := by decide +kernel
theorem dX9_line_160 : decode cX9_line 160 = .ok (.ifCond .eq 8, 3) := by decide +kernel
theorem dX9_line_163 : decode cX9_line 163 = .ok (.iload 8, 2) := by decide +kernel
theorem dX9_line_165 : decode cX9_line 165 = .ok (.ifCond .ne 9, 3) := by decide +kernel
theorem dX9_line_168 : decode cX9_line 168 = .ok (.sipush 9999, 3) := by decide +kernel
theorem dX9_line_171 : decode cX9_line 171 = .ok (.goto 40, 3) := by decide +kernel
theorem dX9_line_174 : decode cX9_line 174 = .ok (.aload_n 0, 1) := by decide +kernel
theorem dX9_line_175 : decode cX9_line 175 = .ok (.getfield 64, 3) := by decide +kernel
theorem dX9_line_178 : decode cX9_line 178 = .ok (.iconst 5, 1) := by decide +kernel
theorem dX9_line_179 : decode cX9_line 179 = .ok (.iload 7, 2) := by decide +kernel
theorem dX9_line_181 : decode cX9_line 181 = .ok (.imul, 1) := by decide +kernel
theorem dX9_line_182 : decode cX9_line 182 = .ok (.iload 8, 2) := by decide +kernel
theorem dX9_line_184 : decode cX9_line 184 = .ok (.iadd, 1) := by decide +kernel
theorem dX9_line_185 : decode cX9_line 185 = .ok (.bipush 6, 2) := by decide +kernel
theorem dX9_line_187 : decode cX9_line 187 = .ok (.isub, 1) := by decide +kernel
theorem dX9_line_188 : decode cX9_line 188 = .ok (.iaload, 1) := by decide +kernel
theorem dX9_line_189 : decode cX9_line 189 = .ok (.aload_n 0, 1) := by decide +kernel
theorem dX9_line_190 : decode cX9_line 190 = .ok (.getfield 58, 3) := by decide +kernel
theorem dX9_line_193 : decode cX9_line 193 = .ok (.iload 7, 2) := by decide +kernel
theorem dX9_line_195 : decode cX9_line 195 = .ok (.iconst 1, 1) := by decide +kernel
theorem dX9_line_196 : decode cX9_line 196 = .ok (.isub, 1) := by decide +kernel
theorem dX9_line_197 : decode cX9_line 197 = .ok (.iaload, 1) := by decide +kernel
theorem dX9_line_198 : decode cX9_line 198 = .ok (.aload_n 0, 1) := by decide +kernel
theorem dX9_line_199 : decode cX9_line 199 = .ok (.getfield 61, 3) := by decide +kernel
theorem dX9_line_202 : decode cX9_line 202 = .ok (.iload 8, 2) := by decide +kernel
theorem dX9_line_204 : decode cX9_line 204 = .ok (.iconst 1, 1) := by decide +kernel
theorem dX9_line_205 : decode cX9_line 205 = .ok (.isub, 1) := by decide +kernel
theorem dX9_line_206 : decode cX9_line 206 = .ok (.iaload, 1) := by decide +kernel
theorem dX9_line_207 : decode cX9_line 207 = .ok (.invokestatic 173, 3) := by decide +kernel
theorem dX9_line_210 : decode cX9_line 210 = .ok (.iadd, 1) := by decide +kernel
theorem dX9_line_211 : decode cX9_line 211 = .ok (.istore 12, 2) := by decide +kernel
theorem dX9_line_213 : decode cX9_line 213 = .ok (.iload 10, 2) := by decide +kernel
theorem dX9_line_215 : decode cX9_line 215 = .ok (.iload 9, 2) := by decide +kernel
theorem dX9_line_217 : decode cX9_line 217 = .ok (.if_icmp .ge 8, 3) := by decide +kernel
theorem dX9_line_220 : decode cX9_line 220 = .ok (.iload 10, 2) := by decide +kernel
theorem dX9_line_222 : decode cX9_line 222 = .ok (.goto 5, 3) := by decide +kernel
theorem dX9_line_225 : decode cX9_line 225 = .ok (.iload 9, 2) := by decide +kernel
theorem dX9_line_227 : decode cX9_line 227 = .ok (.istore 9, 2) := by decide +kernel
theorem dX9_line_229 : decode cX9_line 229 = .ok (.iload 11, 2) := by decide +kernel
theorem dX9_line_231 : decode cX9_line 231 = .ok (.iload 9, 2) := by decide +kernel
theorem dX9_line_233 : decode cX9_line 233 = .ok (.if_icmp .ge 8, 3) := by decide +kernel
theorem dX9_line_236 : decode cX9_line 236 = .ok (.iload 11, 2) := by decide +kernel
theorem dX9_line_238 : decode cX9_line 238 = .ok (.goto 5, 3) := by decide +kernel
theorem dX9_line_241 : decode cX9_line 241 = .ok (.iload 9, 2) := by decide +kernel
theorem dX9_line_243 : decode cX9_line 243 = .ok (.istore 9, 2) := by decide +kernel
theorem dX9_line_245 : decode cX9_line 245 = .ok (.aload_n 0, 1) := by decide +kernel
theorem dX9_line_246 : decode cX9_line 246 = .ok (.getfield 64, 3) := by decide +kernel
theorem dX9_line_249 : decode cX9_line 249 = .ok (.iconst 5, 1) := by decide +kernel
theorem dX9_line_250 : decode cX9_line 250 = .ok (.iload 7, 2) := by decide +kernel
theorem dX9_line_252 : decode cX9_line 252 = .ok (.imul, 1) := by decide +kernel
theorem dX9_line_253 : decode cX9_line 253 = .ok (.iload 8, 2) := by decide +kernel
theorem dX9_line_255 : decode cX9_line 255 = .ok (.iadd, 1) := by decide +kernel
theorem dX9_line_256 : decode cX9_line 256 = .ok (.iload 12, 2) := by decide +kernel
theorem dX9_line_258 : decode cX9_line 258 = .ok (.iload 9, 2) := by decide +kernel
theorem dX9_line_260 : decode cX9_line 260 = .ok (.if_icmp .ge 8, 3) := by decide +kernel
theorem dX9_line_263 : decode cX9_line 263 = .ok (.iload 12, 2) := by decide +kernel
theorem dX9_line_265 : decode cX9_line 265 = .ok (.goto 5, 3) := by decide +kernel
theorem dX9_line_268 : decode cX9_line 268 = .ok (.iload 9, 2) := by decide +kernel
theorem dX9_line_270 : decode cX9_line 270 = .ok (.iastore, 1) := by decide +kernel
theorem dX9_line_271 : decode cX9_line 271 = .ok (.iinc 8 1, 3) := by decide +kernel
theorem dX9_line_274 : decode cX9_line 274 = .ok (.goto (-200), 3) := by decide +kernel
theorem dX9_line_277 : decode cX9_line 277 = .ok (.iinc 7 1, 3) := by decide +kernel
theorem dX9_line_280 : decode cX9_line 280 = .ok (.goto (-216), 3) := by decide +kernel
theorem dX9_line_283 : decode cX9_line 283 = .ok (.aload_n 0, 1) := by decide +kernel
theorem dX9_line_284 : decode cX9_line 284 = .ok (.getfield 64, 3) := by decide +kernel
theorem dX9_line_287 : decode cX9_line 287 = .ok (.iconst 5, 1) := by decide +kernel
theorem dX9_line_288 : decode cX9_line 288 = .ok (.iload 5, 2) := by decide +kernel
theorem dX9_line_290 : decode cX9_line 290 = .ok (.imul, 1) := by decide +kernel
theorem dX9_line_291 : decode cX9_line 291 = .ok (.iload 6, 2) := by decide +kernel
theorem dX9_line_293 : decode cX9_line 293 = .ok (.iadd, 1) := by decide +kernel
theorem dX9_line_294 : decode cX9_line 294 = .ok (.iaload, 1) := by decide +kernel
theorem dX9_line_295 : decode cX9_line 295 = .ok (.ireturn, 1) := by decide +kernel
set_option maxRecDepth 20000 in
theorem ggX9_tellSet_X9_freshen : GoodIn wsX9_tellSet wsX9_freshen := goodIn_r _ [8, 9, 10, 11, 12, 13, 7, 14, 15, 3, 2, 16, 17, 18, 19, 20, 21, 22, 23, 1, 24, 25, 26, 27, 28, 29, 30, 31, 32, 33, 34, 35, 36, 37, 38, 39, 40, 41, 42, 43, 44, 45, 46, 47, 48, 49, 50, 51, 52, 53, 54, 55, 56, 57, 58, 59, 60, 61, 62, 63, 64, 65, 66, 67, 68, 69, 70, 71, 72, 73, 74, 75, 76, 77, 78, 79, 116, 117, 118, 119, 120, 121, 122, 123, 124, 125, 126, 127, 128, 129, 130, 131, 132, 133, 134, 135, 136, 137, 138, 139, 140, 141, 142, 143, 144, 145, 146, 147, 148, 149, 150, 151, 152, 153, 154, 155, 156] (by decide +kernel) (by decide +kernel)
set_option maxRecDepth 20000 in
theorem gX9_tellSet_X9_freshen : GoodIn wsX9_tellSet (wsV RX9 223 RX9 yX9_freshen wsX9_freshen) := goodIn_app (goodIn_of _ (by decide +kernel)) ggX9_tellSet_X9_freshen
set_option maxRecDepth 20000 in
theorem ggX9_tellSet_X9_strangeAll : GoodIn wsX9_tellSet wsX9_strangeAll := goodIn_r _ [83, 10, 84, 85, 86, 7, 87, 2, 17, 20, 21, 22, 23, 1, 88, 89, 90, 91, 66, 76, 77, 78, 79, 18, 33, 34, 35, 36, 116, 117, 118, 119, 120, 121, 122, 123, 124, 125, 126, 127, 128, 129, 130, 131, 132, 133, 134, 135, 136, 137, 138, 139, 140, 141, 142, 143, 144, 145, 146, 147, 148, 149, 150, 151, 152, 153, 154, 155, 156] (by decide +kernel) (by decide +kernel)
set_option maxRecDepth 20000 in
theorem gX9_tellSet_X9_strangeAll : GoodIn wsX9_tellSet (wsV RX9 244 RX9 yX9_strangeAll wsX9_strangeAll) := goodIn_app (goodIn_of _ (by decide +kernel)) ggX9_tellSet_X9_strangeAll
set_option maxRecDepth 20000 in
theorem ggX9_tellSet_X9_borrowed : GoodIn wsX9_tellSet wsX9_borrowed := goodIn_r _ [95, 10, 96, 97, 98, 7, 99, 2, 84, 85, 86, 87, 17, 20, 21, 22, 23, 1, 88, 89, 90, 91, 66, 76, 77, 78, 79, 18, 33, 34, 35, 36, 116, 117, 118, 119, 120, 121, 122, 123, 124, 125, 126, 127, 128, 129, 130, 131, 132, 133, 134, 135, 136, 137, 138, 139, 140, 141, 142, 143, 144, 145, 146, 147, 148, 149, 150, 151, 152, 153, 154, 155, 156] (by decide +kernel) (by decide +kernel)
set_option maxRecDepth 20000 in
theorem gX9_tellSet_X9_borrowed : GoodIn wsX9_tellSet (wsV RX9 247 RX9 yX9_borrowed wsX9_borrowed) := goodIn_app (goodIn_of _ (by decide +kernel)) ggX9_tellSet_X9_borrowed
set_option maxRecDepth 20000 in
theorem ggX9_tellSet_X9_sortsOf : GoodIn wsX9_tellSet wsX9_sortsOf := goodIn_r _ [103, 104, 105, 106, 107, 7, 108, 116, 117, 118, 119, 120, 121, 122, 123, 124, 125, 126, 127, 128, 129, 130, 131, 132, 133, 134, 135, 136, 137, 138, 139, 140, 141, 142, 143, 144, 145, 146, 147, 148, 149, 150, 151, 152, 153, 154, 155, 156] (by decide +kernel) (by decide +kernel)
set_option maxRecDepth 20000 in
theorem gX9_tellSet_X9_sortsOf : GoodIn wsX9_tellSet (wsV RX9 250 RX9 yX9_sortsOf wsX9_sortsOf) := goodIn_app (goodIn_of _ (by decide +kernel)) ggX9_tellSet_X9_sortsOf
set_option maxRecDepth 20000 in
theorem ggX9_tellSet_X9_askOf : GoodIn wsX9_tellSet wsX9_askOf := goodIn_r _ [112, 100, 101, 102, 7, 103, 104, 105, 106, 107, 108, 113, 114, 115, 116, 117, 118, 119, 120, 121, 122, 123, 124, 125, 126, 127, 128, 129, 130, 131, 132, 133, 134, 135, 136, 137, 138, 139, 140, 141, 142, 143, 144, 145, 146, 147, 148, 149, 150, 151, 152, 153, 154, 155, 156] (by decide +kernel) (by decide +kernel)
set_option maxRecDepth 20000 in
theorem gX9_tellSet_X9_askOf : GoodIn wsX9_tellSet (wsV RX9 253 RX9 yX9_askOf wsX9_askOf) := goodIn_app (goodIn_of _ (by decide +kernel)) ggX9_tellSet_X9_askOf
theorem dX9_tellSet_0 : decode cX9_tellSet 0 = .ok (.aload_n 0, 1) := by decide +kernel
theorem dX9_tellSet_1 : decode cX9_tellSet 1 = .ok (.invokevirtual 223, 3) := by decide +kernel
theorem dX9_tellSet_4 : decode cX9_tellSet 4 = .ok (.iload_n 2, 1) := by decide +kernel
theorem dX9_tellSet_5 : decode cX9_tellSet 5 = .ok (.tableswitch 88 0 6 #[43, 50, 57, 64, 70, 76, 82], 43) := by decide +kernel
theorem dX9_tellSet_48 : decode cX9_tellSet 48 = .ok (.aload_n 0, 1) := by decide +kernel
theorem dX9_tellSet_49 : decode cX9_tellSet 49 = .ok (.getfield 22, 3) := by decide +kernel
theorem dX9_tellSet_52 : decode cX9_tellSet 52 = .ok (.iload_n 1, 1) := by decide +kernel
theorem dX9_tellSet_53 : decode cX9_tellSet 53 = .ok (.iaload, 1) := by decide +kernel
theorem dX9_tellSet_54 : decode cX9_tellSet 54 = .ok (.ireturn, 1) := by decide +kernel
theorem dX9_tellSet_55 : decode cX9_tellSet 55 = .ok (.aload_n 0, 1) := by decide +kernel
theorem dX9_tellSet_56 : decode cX9_tellSet 56 = .ok (.getfield 25, 3) := by decide +kernel
theorem dX9_tellSet_59 : decode cX9_tellSet 59 = .ok (.iload_n 1, 1) := by decide +kernel
theorem dX9_tellSet_60 : decode cX9_tellSet 60 = .ok (.iaload, 1) := by decide +kernel
theorem dX9_tellSet_61 : decode cX9_tellSet 61 = .ok (.ireturn, 1) := by decide +kernel
theorem dX9_tellSet_62 : decode cX9_tellSet 62 = .ok (.aload_n 0, 1) := by decide +kernel
theorem dX9_tellSet_63 : decode cX9_tellSet 63 = .ok (.getfield 43, 3) := by decide +kernel
theorem dX9_tellSet_66 : decode cX9_tellSet 66 = .ok (.iload_n 1, 1) := by decide +kernel
theorem dX9_tellSet_67 : decode cX9_tellSet 67 = .ok (.iaload, 1) := by decide +kernel
theorem dX9_tellSet_68 : decode cX9_tellSet 68 = .ok (.ireturn, 1) := by decide +kernel
theorem dX9_tellSet_69 : decode cX9_tellSet 69 = .ok (.aload_n 0, 1) := by decide +kernel
theorem dX9_tellSet_70 : decode cX9_tellSet 70 = .ok (.iload_n 1, 1) := by decide +kernel
theorem dX9_tellSet_71 : decode cX9_tellSet 71 = .ok (.invokevirtual 244, 3) := by decide +kernel
theorem dX9_tellSet_74 : decode cX9_tellSet 74 = .ok (.ireturn, 1) := by decide +kernel
theorem dX9_tellSet_75 : decode cX9_tellSet 75 = .ok (.aload_n 0, 1) := by decide +kernel
theorem dX9_tellSet_76 : decode cX9_tellSet 76 = .ok (.iload_n 1, 1) := by decide +kernel
theorem dX9_tellSet_77 : decode cX9_tellSet 77 = .ok (.invokevirtual 247, 3) := by decide +kernel
theorem dX9_tellSet_80 : decode cX9_tellSet 80 = .ok (.ireturn, 1) := by decide +kernel
theorem dX9_tellSet_81 : decode cX9_tellSet 81 = .ok (.aload_n 0, 1) := by decide +kernel
theorem dX9_tellSet_82 : decode cX9_tellSet 82 = .ok (.iload_n 1, 1) := by decide +kernel
theorem dX9_tellSet_83 : decode cX9_tellSet 83 = .ok (.invokevirtual 250, 3) := by decide +kernel
theorem dX9_tellSet_86 : decode cX9_tellSet 86 = .ok (.ireturn, 1) := by decide +kernel
theorem dX9_tellSet_87 : decode cX9_tellSet 87 = .ok (.aload_n 0, 1) := by decide +kernel
theorem dX9_tellSet_88 : decode cX9_tellSet 88 = .ok (.iload_n 1, 1) := by decide +kernel
theorem dX9_tellSet_89 : decode cX9_tellSet 89 = .ok (.invokevirtual 253, 3) := by decide +kernel
theorem dX9_tellSet_92 : decode cX9_tellSet 92 = .ok (.ireturn, 1) := by decide +kernel
theorem dX9_tellSet_93 : decode cX9_tellSet 93 = .ok (.bipush (-102), 2) := by decide +kernel
theorem dX9_tellSet_95 : decode cX9_tellSet 95 = .ok (.ireturn, 1) := by decide +kernel
set_option maxRecDepth 20000 in
theorem ggX9_set_X9_isSet : GoodIn wsX9_set wsX9_isSet := goodIn_r _ [5, 6, 7, 8, 4, 9, 124, 125, 126, 127, 128, 129, 130, 131, 132, 133, 134, 135, 136, 137, 138, 139, 140, 141, 142, 143, 144, 145, 146, 147, 148, 149, 150, 151, 152, 153, 154, 155, 156, 157, 158, 159, 160, 161, 162, 163, 164] (by decide +kernel) (by decide +kernel)
set_option maxRecDepth 20000 in
theorem gX9_set_X9_isSet : GoodIn wsX9_set (wsV RX9 163 RX9 yX9_isSet wsX9_isSet) := goodIn_app (goodIn_of _ (by decide +kernel)) ggX9_set_X9_isSet
set_option maxRecDepth 20000 in
theorem ggX9_set_X9_tellSet : GoodIn wsX9_set wsX9_tellSet := goodIn_r _ [13, 14, 15, 16, 17, 18, 19, 4, 20, 21, 22, 23, 24, 25, 26, 6, 27, 28, 29, 30, 31, 32, 33, 34, 35, 36, 37, 38, 39, 40, 41, 42, 43, 44, 45, 46, 47, 48, 49, 50, 51, 52, 53, 54, 55, 56, 57, 58, 59, 60, 61, 7, 8, 9, 62, 63, 64, 65, 66, 67, 68, 69, 70, 71, 72, 73, 74, 75, 76, 77, 78, 79, 80, 81, 82, 83, 84, 85, 86, 87, 88, 89, 90, 91, 92, 93, 94, 95, 96, 97, 98, 99, 100, 101, 102, 103, 104, 105, 106, 107, 108, 109, 110, 111, 112, 113, 114, 115, 116, 117, 118, 119, 120, 121, 122, 123, 124, 125, 126, 127, 128, 129, 130, 131, 132, 133, 134, 135, 136, 137, 138, 139, 140, 141, 142, 143, 144, 145, 146, 147, 148, 149, 150, 151, 152, 153, 154, 155, 156, 157, 158, 159, 160, 161, 162, 163, 164] (by decide +kernel) (by decide +kernel)
set_option maxRecDepth 20000 in
theorem gX9_set_X9_tellSet : GoodIn wsX9_set (wsV RX9 256 RX9 yX9_tellSet wsX9_tellSet) := goodIn_app (goodIn_of _ (by decide +kernel)) ggX9_set_X9_tellSet
theorem dX9_set_0 : decode cX9_set 0 = .ok (.aload_n 0, 1) := by decide +kernel
theorem dX9_set_1 : decode cX9_set 1 = .ok (.iload_n 1, 1) := by decide +kernel
theorem dX9_set_2 : decode cX9_set 2 = .ok (.invokevirtual 163, 3) := by decide +kernel
theorem dX9_set_5 : decode cX9_set 5 = .ok (.ifCond .eq 12, 3) := by decide +kernel
theorem dX9_set_8 : decode cX9_set 8 = .ok (.aload_n 0, 1) := by decide +kernel
theorem dX9_set_9 : decode cX9_set 9 = .ok (.iload_n 1, 1) := by decide +kernel
theorem dX9_set_10 : decode cX9_set 10 = .ok (.iload_n 2, 1) := by decide +kernel
theorem dX9_set_11 : decode cX9_set 11 = .ok (.invokevirtual 256, 3) := by decide +kernel
theorem dX9_set_14 : decode cX9_set 14 = .ok (.goto 5, 3) := by decide +kernel
theorem dX9_set_17 : decode cX9_set 17 = .ok (.bipush (-101), 2) := by decide +kernel
theorem dX9_set_19 : decode cX9_set 19 = .ok (.ireturn, 1) := by decide +kernel
set_option maxRecDepth 20000 in
theorem ggX9_as_X9_isSet : GoodIn wsX9_as wsX9_isSet := goodIn_r _ [7, 8, 9, 10, 6, 11, 12, 13, 14, 15, 16, 17, 18, 19, 20, 21, 22, 23, 24, 25, 26, 27, 28, 29, 30, 31, 32, 33, 34, 35, 36, 37, 38, 39, 40, 41, 42, 43, 44, 45, 46, 47, 48, 49, 50, 51, 52] (by decide +kernel) (by decide +kernel)
set_option maxRecDepth 20000 in
theorem gX9_as_X9_isSet : GoodIn wsX9_as (wsV RX9 163 RX9 yX9_isSet wsX9_isSet) := goodIn_app (goodIn_of _ (by decide +kernel)) ggX9_as_X9_isSet
set_option maxRecDepth 20000 in
theorem ggX9_as_X9_in : GoodIn wsX9_as wsX9_in := goodIn_r _ [11] (by decide +kernel) (by decide +kernel)
set_option maxRecDepth 20000 in
theorem gX9_as_X9_in : GoodIn wsX9_as (va_wsS RX9 88 yX9_in wsX9_in) := goodIn_app (goodIn_of _ (by decide +kernel)) ggX9_as_X9_in
theorem dX9_as_0 : decode cX9_as 0 = .ok (.aload_n 0, 1) := by decide +kernel
theorem dX9_as_1 : decode cX9_as 1 = .ok (.iload_n 1, 1) := by decide +kernel
theorem dX9_as_2 : decode cX9_as 2 = .ok (.invokevirtual 163, 3) := by decide +kernel
theorem dX9_as_5 : decode cX9_as 5 = .ok (.ifCond .ne 6, 3) := by decide +kernel
theorem dX9_as_8 : decode cX9_as 8 = .ok (.bipush (-101), 2) := by decide +kernel
theorem dX9_as_10 : decode cX9_as 10 = .ok (.ireturn, 1) := by decide +kernel
theorem dX9_as_11 : decode cX9_as 11 = .ok (.iload_n 2, 1) := by decide +kernel
theorem dX9_as_12 : decode cX9_as 12 = .ok (.i2l, 1) := by decide +kernel
theorem dX9_as_13 : decode cX9_as 13 = .ok (.lconst 0, 1) := by decide +kernel
theorem dX9_as_14 : decode cX9_as 14 = .ok (.ldc2_w 259, 3) := by decide +kernel
theorem dX9_as_17 : decode cX9_as 17 = .ok (.invokestatic 88, 3) := by decide +kernel
theorem dX9_as_20 : decode cX9_as 20 = .ok (.ifCond .ne 6, 3) := by decide +kernel
theorem dX9_as_23 : decode cX9_as 23 = .ok (.bipush (-102), 2) := by decide +kernel
theorem dX9_as_25 : decode cX9_as 25 = .ok (.ireturn, 1) := by decide +kernel
theorem dX9_as_26 : decode cX9_as 26 = .ok (.iload_n 2, 1) := by decide +kernel
theorem dX9_as_27 : decode cX9_as 27 = .ok (.ifCond .eq 28, 3) := by decide +kernel
theorem dX9_as_30 : decode cX9_as 30 = .ok (.iload_n 2, 1) := by decide +kernel
theorem dX9_as_31 : decode cX9_as 31 = .ok (.aload_n 0, 1) := by decide +kernel
theorem dX9_as_32 : decode cX9_as 32 = .ok (.getfield 22, 3) := by decide +kernel
theorem dX9_as_35 : decode cX9_as 35 = .ok (.iload_n 1, 1) := by decide +kernel
theorem dX9_as_36 : decode cX9_as 36 = .ok (.iaload, 1) := by decide +kernel
theorem dX9_as_37 : decode cX9_as 37 = .ok (.if_icmp .eq 18, 3) := by decide +kernel
theorem dX9_as_40 : decode cX9_as 40 = .ok (.iload_n 2, 1) := by decide +kernel
theorem dX9_as_41 : decode cX9_as 41 = .ok (.iconst 1, 1) := by decide +kernel
theorem dX9_as_42 : decode cX9_as 42 = .ok (.if_icmp .ne 17, 3) := by decide +kernel
theorem dX9_as_45 : decode cX9_as 45 = .ok (.aload_n 0, 1) := by decide +kernel
theorem dX9_as_46 : decode cX9_as 46 = .ok (.getfield 22, 3) := by decide +kernel
theorem dX9_as_49 : decode cX9_as 49 = .ok (.iload_n 1, 1) := by decide +kernel
theorem dX9_as_50 : decode cX9_as 50 = .ok (.iaload, 1) := by decide +kernel
theorem dX9_as_51 : decode cX9_as 51 = .ok (.iconst 2, 1) := by decide +kernel
theorem dX9_as_52 : decode cX9_as 52 = .ok (.if_icmp .ne 7, 3) := by decide +kernel
theorem dX9_as_55 : decode cX9_as 55 = .ok (.iconst 1, 1) := by decide +kernel
theorem dX9_as_56 : decode cX9_as 56 = .ok (.goto 4, 3) := by decide +kernel
theorem dX9_as_59 : decode cX9_as 59 = .ok (.iconst 0, 1) := by decide +kernel
theorem dX9_as_60 : decode cX9_as 60 = .ok (.istore_n 3, 1) := by decide +kernel
theorem dX9_as_61 : decode cX9_as 61 = .ok (.iload_n 3, 1) := by decide +kernel
theorem dX9_as_62 : decode cX9_as 62 = .ok (.ifCond .eq 7, 3) := by decide +kernel
theorem dX9_as_65 : decode cX9_as 65 = .ok (.iload_n 1, 1) := by decide +kernel
theorem dX9_as_66 : decode cX9_as 66 = .ok (.goto 4, 3) := by decide +kernel
theorem dX9_as_69 : decode cX9_as 69 = .ok (.iconst (-1), 1) := by decide +kernel
theorem dX9_as_70 : decode cX9_as 70 = .ok (.ireturn, 1) := by decide +kernel
set_option maxRecDepth 20000 in
theorem ggX9_sound_X9_isPlace : GoodIn wsX9_sound wsX9_isPlace := goodIn_r _ [7, 8, 9, 10, 11, 6, 12, 13, 14, 15, 16, 88, 89, 90, 91, 92, 93, 94, 95, 96, 97, 98, 99, 100, 101, 102, 103, 104, 105, 106, 107, 108, 109, 110, 111, 112, 113, 114, 115, 116, 117, 118, 119, 120, 121, 122, 123, 124, 125, 126, 127, 128] (by decide +kernel) (by decide +kernel)
set_option maxRecDepth 20000 in
theorem gX9_sound_X9_isPlace : GoodIn wsX9_sound (wsV RX9 233 RX9 yX9_isPlace wsX9_isPlace) := goodIn_app (goodIn_of _ (by decide +kernel)) ggX9_sound_X9_isPlace
set_option maxRecDepth 20000 in
theorem ggX9_sound_X9_nodesBy : GoodIn wsX9_sound wsX9_nodesBy := goodIn_r _ [20] (by decide +kernel) (by decide +kernel)
set_option maxRecDepth 20000 in
theorem gX9_sound_X9_nodesBy : GoodIn wsX9_sound (wsV RX9 177 RX9 yX9_nodesBy wsX9_nodesBy) := goodIn_app (goodIn_of _ (by decide +kernel)) ggX9_sound_X9_nodesBy
set_option maxRecDepth 20000 in
theorem ggX9_sound_X9_in : GoodIn wsX9_sound wsX9_in := goodIn_r _ [16] (by decide +kernel) (by decide +kernel)
set_option maxRecDepth 20000 in
theorem gX9_sound_X9_in : GoodIn wsX9_sound (va_wsS RX9 88 yX9_in wsX9_in) := goodIn_app (goodIn_of _ (by decide +kernel)) ggX9_sound_X9_in
set_option maxRecDepth 20000 in
theorem ggX9_sound_X9_freshen : GoodIn wsX9_sound wsX9_freshen := goodIn_r _ [24, 25, 1, 26, 27, 28, 6, 29, 13, 30, 8, 31, 32, 2, 33, 34, 35, 36, 37, 38, 39, 40, 41, 42, 43, 44, 45, 46, 47, 17, 18, 19, 20, 48, 49, 50, 51, 52, 53, 54, 55, 56, 57, 58, 59, 60, 61, 14, 15, 16, 62, 63, 64, 65, 66, 67, 68, 69, 70, 71, 72, 73, 74, 75, 76, 77, 78, 79, 80, 81, 82, 83, 84, 85, 86, 87, 88, 89, 90, 91, 92, 93, 94, 95, 96, 97, 98, 99, 100, 101, 102, 103, 104, 105, 106, 107, 108, 109, 110, 111, 112, 113, 114, 115, 116, 117, 118, 119, 120, 121, 122, 123, 124, 125, 126, 127, 128] (by decide +kernel) (by decide +kernel)
set_option maxRecDepth 20000 in
theorem gX9_sound_X9_freshen : GoodIn wsX9_sound (wsV RX9 223 RX9 yX9_freshen wsX9_freshen) := goodIn_app (goodIn_of _ (by decide +kernel)) ggX9_sound_X9_freshen
theorem dX9_sound_0 : decode cX9_sound 0 = .ok (.aload_n 0, 1) := by decide +kernel
theorem dX9_sound_1 : decode cX9_sound 1 = .ok (.iload_n 1, 1) := by decide +kernel
theorem dX9_sound_2 : decode cX9_sound 2 = .ok (.iload_n 3, 1) := by decide +kernel
theorem dX9_sound_3 : decode cX9_sound 3 = .ok (.invokevirtual 233, 3) := by decide +kernel
theorem dX9_sound_6 : decode cX9_sound 6 = .ok (.ifCond .eq 23, 3) := by decide +kernel
theorem dX9_sound_9 : decode cX9_sound 9 = .ok (.iload_n 2, 1) := by decide +kernel
theorem dX9_sound_10 : decode cX9_sound 10 = .ok (.i2l, 1) := by decide +kernel
theorem dX9_sound_11 : decode cX9_sound 11 = .ok (.lconst 0, 1) := by decide +kernel
theorem dX9_sound_12 : decode cX9_sound 12 = .ok (.aload_n 0, 1) := by decide +kernel
theorem dX9_sound_13 : decode cX9_sound 13 = .ok (.aload_n 0, 1) := by decide +kernel
theorem dX9_sound_14 : decode cX9_sound 14 = .ok (.getfield 150, 3) := by decide +kernel
theorem dX9_sound_17 : decode cX9_sound 17 = .ok (.invokevirtual 177, 3) := by decide +kernel
theorem dX9_sound_20 : decode cX9_sound 20 = .ok (.iconst 1, 1) := by decide +kernel
theorem dX9_sound_21 : decode cX9_sound 21 = .ok (.isub, 1) := by decide +kernel
theorem dX9_sound_22 : decode cX9_sound 22 = .ok (.i2l, 1) := by decide +kernel
theorem dX9_sound_23 : decode cX9_sound 23 = .ok (.invokestatic 88, 3) := by decide +kernel
theorem dX9_sound_26 : decode cX9_sound 26 = .ok (.ifCond .ne 6, 3) := by decide +kernel
theorem dX9_sound_29 : decode cX9_sound 29 = .ok (.bipush (-101), 2) := by decide +kernel
theorem dX9_sound_31 : decode cX9_sound 31 = .ok (.ireturn, 1) := by decide +kernel
theorem dX9_sound_32 : decode cX9_sound 32 = .ok (.aload_n 0, 1) := by decide +kernel
theorem dX9_sound_33 : decode cX9_sound 33 = .ok (.invokevirtual 223, 3) := by decide +kernel
theorem dX9_sound_36 : decode cX9_sound 36 = .ok (.aload_n 0, 1) := by decide +kernel
theorem dX9_sound_37 : decode cX9_sound 37 = .ok (.getfield 40, 3) := by decide +kernel
theorem dX9_sound_40 : decode cX9_sound 40 = .ok (.bipush 28, 2) := by decide +kernel
theorem dX9_sound_42 : decode cX9_sound 42 = .ok (.iload_n 1, 1) := by decide +kernel
theorem dX9_sound_43 : decode cX9_sound 43 = .ok (.imul, 1) := by decide +kernel
theorem dX9_sound_44 : decode cX9_sound 44 = .ok (.bipush 7, 2) := by decide +kernel
theorem dX9_sound_46 : decode cX9_sound 46 = .ok (.iload_n 3, 1) := by decide +kernel
theorem dX9_sound_47 : decode cX9_sound 47 = .ok (.imul, 1) := by decide +kernel
theorem dX9_sound_48 : decode cX9_sound 48 = .ok (.iadd, 1) := by decide +kernel
theorem dX9_sound_49 : decode cX9_sound 49 = .ok (.iload_n 2, 1) := by decide +kernel
theorem dX9_sound_50 : decode cX9_sound 50 = .ok (.iadd, 1) := by decide +kernel
theorem dX9_sound_51 : decode cX9_sound 51 = .ok (.iaload, 1) := by decide +kernel
theorem dX9_sound_52 : decode cX9_sound 52 = .ok (.ireturn, 1) := by decide +kernel
theorem dX9_isOnlyNone_0 : decode cX9_isOnlyNone 0 = .ok (.iconst 1, 1) := by decide +kernel
theorem dX9_isOnlyNone_1 : decode cX9_isOnlyNone 1 = .ok (.istore_n 3, 1) := by decide +kernel
theorem dX9_isOnlyNone_2 : decode cX9_isOnlyNone 2 = .ok (.iconst 0, 1) := by decide +kernel
theorem dX9_isOnlyNone_3 : decode cX9_isOnlyNone 3 = .ok (.istore 4, 2) := by decide +kernel
theorem dX9_isOnlyNone_5 : decode cX9_isOnlyNone 5 = .ok (.iload 4, 2) := by decide +kernel
theorem dX9_isOnlyNone_7 : decode cX9_isOnlyNone 7 = .ok (.aload_n 0, 1) := by decide +kernel
theorem dX9_isOnlyNone_8 : decode cX9_isOnlyNone 8 = .ok (.getfield 25, 3) := by decide +kernel
theorem dX9_isOnlyNone_11 : decode cX9_isOnlyNone 11 = .ok (.iload_n 1, 1) := by decide +kernel
theorem dX9_isOnlyNone_12 : decode cX9_isOnlyNone 12 = .ok (.iaload, 1) := by decide +kernel
theorem dX9_isOnlyNone_13 : decode cX9_isOnlyNone 13 = .ok (.if_icmp .ge 38, 3) := by decide +kernel
theorem dX9_isOnlyNone_16 : decode cX9_isOnlyNone 16 = .ok (.iload_n 3, 1) := by decide +kernel
theorem dX9_isOnlyNone_17 : decode cX9_isOnlyNone 17 = .ok (.ifCond .eq 26, 3) := by decide +kernel
theorem dX9_isOnlyNone_20 : decode cX9_isOnlyNone 20 = .ok (.aload_n 0, 1) := by decide +kernel
theorem dX9_isOnlyNone_21 : decode cX9_isOnlyNone 21 = .ok (.getfield 28, 3) := by decide +kernel
theorem dX9_isOnlyNone_24 : decode cX9_isOnlyNone 24 = .ok (.bipush 16, 2) := by decide +kernel
theorem dX9_isOnlyNone_26 : decode cX9_isOnlyNone 26 = .ok (.iload_n 1, 1) := by decide +kernel
theorem dX9_isOnlyNone_27 : decode cX9_isOnlyNone 27 = .ok (.imul, 1) := by decide +kernel
theorem dX9_isOnlyNone_28 : decode cX9_isOnlyNone 28 = .ok (.iconst 4, 1) := by decide +kernel
theorem dX9_isOnlyNone_29 : decode cX9_isOnlyNone 29 = .ok (.iload_n 2, 1) := by decide +kernel
theorem dX9_isOnlyNone_30 : decode cX9_isOnlyNone 30 = .ok (.imul, 1) := by decide +kernel
theorem dX9_isOnlyNone_31 : decode cX9_isOnlyNone 31 = .ok (.iadd, 1) := by decide +kernel
theorem dX9_isOnlyNone_32 : decode cX9_isOnlyNone 32 = .ok (.iload 4, 2) := by decide +kernel
theorem dX9_isOnlyNone_34 : decode cX9_isOnlyNone 34 = .ok (.iadd, 1) := by decide +kernel
theorem dX9_isOnlyNone_35 : decode cX9_isOnlyNone 35 = .ok (.iaload, 1) := by decide +kernel
theorem dX9_isOnlyNone_36 : decode cX9_isOnlyNone 36 = .ok (.ifCond .ne 7, 3) := by decide +kernel
theorem dX9_isOnlyNone_39 : decode cX9_isOnlyNone 39 = .ok (.iconst 1, 1) := by decide +kernel
theorem dX9_isOnlyNone_40 : decode cX9_isOnlyNone 40 = .ok (.goto 4, 3) := by decide +kernel
theorem dX9_isOnlyNone_43 : decode cX9_isOnlyNone 43 = .ok (.iconst 0, 1) := by decide +kernel
theorem dX9_isOnlyNone_44 : decode cX9_isOnlyNone 44 = .ok (.istore_n 3, 1) := by decide +kernel
theorem dX9_isOnlyNone_45 : decode cX9_isOnlyNone 45 = .ok (.iinc 4 1, 3) := by decide +kernel
theorem dX9_isOnlyNone_48 : decode cX9_isOnlyNone 48 = .ok (.goto (-43), 3) := by decide +kernel
theorem dX9_isOnlyNone_51 : decode cX9_isOnlyNone 51 = .ok (.iload_n 3, 1) := by decide +kernel
theorem dX9_isOnlyNone_52 : decode cX9_isOnlyNone 52 = .ok (.ireturn, 1) := by decide +kernel
set_option maxRecDepth 20000 in
theorem ggX9_put_X9_isPlace : GoodIn wsX9_put wsX9_isPlace := goodIn_r _ [8, 9, 10, 11, 12, 7, 13, 14, 15, 16, 17, 27, 28, 29, 30, 31, 32, 33, 34, 35, 36, 37, 38, 39, 40, 41, 42, 43, 44, 45, 46, 47, 48, 49, 50, 51, 52, 53, 54, 55, 56, 57, 58, 59, 60, 61, 62, 63, 64, 65, 66, 67] (by decide +kernel) (by decide +kernel)
set_option maxRecDepth 20000 in
theorem gX9_put_X9_isPlace : GoodIn wsX9_put (wsV RX9 233 RX9 yX9_isPlace wsX9_isPlace) := goodIn_app (goodIn_of _ (by decide +kernel)) ggX9_put_X9_isPlace
set_option maxRecDepth 20000 in
theorem ggX9_put_X9_isTongue : GoodIn wsX9_put wsX9_isTongue := goodIn_r _ [21, 22, 15, 16, 7, 17, 27, 28, 29, 30, 31, 32, 33, 34, 35, 36, 37, 38, 39, 40, 41, 42, 43, 44, 45, 46, 47, 48, 49, 50, 51, 52, 53, 54, 55, 56, 57, 58, 59, 60, 61, 62, 63, 64, 65, 66, 67] (by decide +kernel) (by decide +kernel)
set_option maxRecDepth 20000 in
theorem gX9_put_X9_isTongue : GoodIn wsX9_put (wsV RX9 218 RX9 yX9_isTongue wsX9_isTongue) := goodIn_app (goodIn_of _ (by decide +kernel)) ggX9_put_X9_isTongue
set_option maxRecDepth 20000 in
theorem ggX9_put_X9_in : GoodIn wsX9_put wsX9_in := goodIn_r _ [17] (by decide +kernel) (by decide +kernel)
set_option maxRecDepth 20000 in
theorem gX9_put_X9_in : GoodIn wsX9_put (va_wsS RX9 88 yX9_in wsX9_in) := goodIn_app (goodIn_of _ (by decide +kernel)) ggX9_put_X9_in
set_option maxRecDepth 20000 in
theorem ggX9_put_X9_isOnlyNone : GoodIn wsX9_put wsX9_isOnlyNone := goodIn_r _ [26, 9, 2, 27, 28, 29, 30, 31, 32, 33, 34, 35, 36, 37, 38, 39, 40, 41, 42, 43, 44, 45, 46, 47, 48, 49, 50, 51, 52, 53, 54, 55, 56, 57, 58, 59, 60, 61, 62, 63, 64, 65, 66, 67] (by decide +kernel) (by decide +kernel)
set_option maxRecDepth 20000 in
theorem gX9_put_X9_isOnlyNone : GoodIn wsX9_put (wsV RX9 261 RX9 yX9_isOnlyNone wsX9_isOnlyNone) := goodIn_app (goodIn_of _ (by decide +kernel)) ggX9_put_X9_isOnlyNone
theorem dX9_put_0 : decode cX9_put 0 = .ok (.aload_n 0, 1) := by decide +kernel
theorem dX9_put_1 : decode cX9_put 1 = .ok (.iload_n 1, 1) := by decide +kernel
theorem dX9_put_2 : decode cX9_put 2 = .ok (.iload_n 3, 1) := by decide +kernel
theorem dX9_put_3 : decode cX9_put 3 = .ok (.invokevirtual 233, 3) := by decide +kernel
theorem dX9_put_6 : decode cX9_put 6 = .ok (.ifCond .eq 11, 3) := by decide +kernel
theorem dX9_put_9 : decode cX9_put 9 = .ok (.aload_n 0, 1) := by decide +kernel
theorem dX9_put_10 : decode cX9_put 10 = .ok (.iload_n 2, 1) := by decide +kernel
theorem dX9_put_11 : decode cX9_put 11 = .ok (.invokevirtual 218, 3) := by decide +kernel
theorem dX9_put_14 : decode cX9_put 14 = .ok (.ifCond .ne 6, 3) := by decide +kernel
theorem dX9_put_17 : decode cX9_put 17 = .ok (.bipush (-101), 2) := by decide +kernel
theorem dX9_put_19 : decode cX9_put 19 = .ok (.ireturn, 1) := by decide +kernel
theorem dX9_put_20 : decode cX9_put 20 = .ok (.iload 4, 2) := by decide +kernel
theorem dX9_put_22 : decode cX9_put 22 = .ok (.i2l, 1) := by decide +kernel
theorem dX9_put_23 : decode cX9_put 23 = .ok (.lconst 0, 1) := by decide +kernel
theorem dX9_put_24 : decode cX9_put 24 = .ok (.ldc2_w 171, 3) := by decide +kernel
theorem dX9_put_27 : decode cX9_put 27 = .ok (.invokestatic 88, 3) := by decide +kernel
theorem dX9_put_30 : decode cX9_put 30 = .ok (.ifCond .ne 6, 3) := by decide +kernel
theorem dX9_put_33 : decode cX9_put 33 = .ok (.bipush (-102), 2) := by decide +kernel
theorem dX9_put_35 : decode cX9_put 35 = .ok (.ireturn, 1) := by decide +kernel
theorem dX9_put_36 : decode cX9_put 36 = .ok (.bipush 16, 2) := by decide +kernel
theorem dX9_put_38 : decode cX9_put 38 = .ok (.iload_n 1, 1) := by decide +kernel
theorem dX9_put_39 : decode cX9_put 39 = .ok (.imul, 1) := by decide +kernel
theorem dX9_put_40 : decode cX9_put 40 = .ok (.iconst 4, 1) := by decide +kernel
theorem dX9_put_41 : decode cX9_put 41 = .ok (.iload_n 2, 1) := by decide +kernel
theorem dX9_put_42 : decode cX9_put 42 = .ok (.imul, 1) := by decide +kernel
theorem dX9_put_43 : decode cX9_put 43 = .ok (.iadd, 1) := by decide +kernel
theorem dX9_put_44 : decode cX9_put 44 = .ok (.iload_n 3, 1) := by decide +kernel
theorem dX9_put_45 : decode cX9_put 45 = .ok (.iadd, 1) := by decide +kernel
theorem dX9_put_46 : decode cX9_put 46 = .ok (.istore 5, 2) := by decide +kernel
theorem dX9_put_48 : decode cX9_put 48 = .ok (.aload_n 0, 1) := by decide +kernel
theorem dX9_put_49 : decode cX9_put 49 = .ok (.getfield 28, 3) := by decide +kernel
theorem dX9_put_52 : decode cX9_put 52 = .ok (.iload 5, 2) := by decide +kernel
theorem dX9_put_54 : decode cX9_put 54 = .ok (.iaload, 1) := by decide +kernel
theorem dX9_put_55 : decode cX9_put 55 = .ok (.istore 6, 2) := by decide +kernel
theorem dX9_put_57 : decode cX9_put 57 = .ok (.aload_n 0, 1) := by decide +kernel
theorem dX9_put_58 : decode cX9_put 58 = .ok (.getfield 28, 3) := by decide +kernel
theorem dX9_put_61 : decode cX9_put 61 = .ok (.iload 5, 2) := by decide +kernel
theorem dX9_put_63 : decode cX9_put 63 = .ok (.iload 4, 2) := by decide +kernel
theorem dX9_put_65 : decode cX9_put 65 = .ok (.iastore, 1) := by decide +kernel
theorem dX9_put_66 : decode cX9_put 66 = .ok (.aload_n 0, 1) := by decide +kernel
theorem dX9_put_67 : decode cX9_put 67 = .ok (.iload_n 1, 1) := by decide +kernel
theorem dX9_put_68 : decode cX9_put 68 = .ok (.iload_n 2, 1) := by decide +kernel
theorem dX9_put_69 : decode cX9_put 69 = .ok (.invokevirtual 261, 3) := by decide +kernel
theorem dX9_put_72 : decode cX9_put 72 = .ok (.ifCond .eq 15, 3) := by decide +kernel
theorem dX9_put_75 : decode cX9_put 75 = .ok (.aload_n 0, 1) := by decide +kernel
theorem dX9_put_76 : decode cX9_put 76 = .ok (.getfield 28, 3) := by decide +kernel
theorem dX9_put_79 : decode cX9_put 79 = .ok (.iload 5, 2) := by decide +kernel
theorem dX9_put_81 : decode cX9_put 81 = .ok (.iload 6, 2) := by decide +kernel
theorem dX9_put_83 : decode cX9_put 83 = .ok (.iastore, 1) := by decide +kernel
theorem dX9_put_84 : decode cX9_put 84 = .ok (.bipush (-103), 2) := by decide +kernel
theorem dX9_put_86 : decode cX9_put 86 = .ok (.ireturn, 1) := by decide +kernel
theorem dX9_put_87 : decode cX9_put 87 = .ok (.aload_n 0, 1) := by decide +kernel
theorem dX9_put_88 : decode cX9_put 88 = .ok (.iconst 1, 1) := by decide +kernel
theorem dX9_put_89 : decode cX9_put 89 = .ok (.putfield 153, 3) := by decide +kernel
theorem dX9_put_92 : decode cX9_put 92 = .ok (.iload 6, 2) := by decide +kernel
theorem dX9_put_94 : decode cX9_put 94 = .ok (.ireturn, 1) := by decide +kernel
theorem dX9_layLike_0 : decode cX9_layLike 0 = .ok (.aload_n 0, 1) := by decide +kernel
theorem dX9_layLike_1 : decode cX9_layLike 1 = .ok (.getfield 22, 3) := by decide +kernel
theorem dX9_layLike_4 : decode cX9_layLike 4 = .ok (.iload_n 2, 1) := by decide +kernel
theorem dX9_layLike_5 : decode cX9_layLike 5 = .ok (.aload_n 0, 1) := by decide +kernel
theorem dX9_layLike_6 : decode cX9_layLike 6 = .ok (.getfield 22, 3) := by decide +kernel
theorem dX9_layLike_9 : decode cX9_layLike 9 = .ok (.iload_n 1, 1) := by decide +kernel
theorem dX9_layLike_10 : decode cX9_layLike 10 = .ok (.iaload, 1) := by decide +kernel
theorem dX9_layLike_11 : decode cX9_layLike 11 = .ok (.iastore, 1) := by decide +kernel
theorem dX9_layLike_12 : decode cX9_layLike 12 = .ok (.aload_n 0, 1) := by decide +kernel
theorem dX9_layLike_13 : decode cX9_layLike 13 = .ok (.getfield 25, 3) := by decide +kernel
theorem dX9_layLike_16 : decode cX9_layLike 16 = .ok (.iload_n 2, 1) := by decide +kernel
theorem dX9_layLike_17 : decode cX9_layLike 17 = .ok (.aload_n 0, 1) := by decide +kernel
theorem dX9_layLike_18 : decode cX9_layLike 18 = .ok (.getfield 25, 3) := by decide +kernel
theorem dX9_layLike_21 : decode cX9_layLike 21 = .ok (.iload_n 1, 1) := by decide +kernel
theorem dX9_layLike_22 : decode cX9_layLike 22 = .ok (.iaload, 1) := by decide +kernel
theorem dX9_layLike_23 : decode cX9_layLike 23 = .ok (.iastore, 1) := by decide +kernel
theorem dX9_layLike_24 : decode cX9_layLike 24 = .ok (.iconst 0, 1) := by decide +kernel
theorem dX9_layLike_25 : decode cX9_layLike 25 = .ok (.istore_n 3, 1) := by decide +kernel
theorem dX9_layLike_26 : decode cX9_layLike 26 = .ok (.iload_n 3, 1) := by decide +kernel
theorem dX9_layLike_27 : decode cX9_layLike 27 = .ok (.bipush 16, 2) := by decide +kernel
theorem dX9_layLike_29 : decode cX9_layLike 29 = .ok (.if_icmp .ge 31, 3) := by decide +kernel
theorem dX9_layLike_32 : decode cX9_layLike 32 = .ok (.aload_n 0, 1) := by decide +kernel
theorem dX9_layLike_33 : decode cX9_layLike 33 = .ok (.getfield 28, 3) := by decide +kernel
theorem dX9_layLike_36 : decode cX9_layLike 36 = .ok (.bipush 16, 2) := by decide +kernel
theorem dX9_layLike_38 : decode cX9_layLike 38 = .ok (.iload_n 2, 1) := by decide +kernel
theorem dX9_layLike_39 : decode cX9_layLike 39 = .ok (.imul, 1) := by decide +kernel
theorem dX9_layLike_40 : decode cX9_layLike 40 = .ok (.iload_n 3, 1) := by decide +kernel
theorem dX9_layLike_41 : decode cX9_layLike 41 = .ok (.iadd, 1) := by decide +kernel
theorem dX9_layLike_42 : decode cX9_layLike 42 = .ok (.aload_n 0, 1) := by decide +kernel
theorem dX9_layLike_43 : decode cX9_layLike 43 = .ok (.getfield 28, 3) := by decide +kernel
theorem dX9_layLike_46 : decode cX9_layLike 46 = .ok (.bipush 16, 2) := by decide +kernel
theorem dX9_layLike_48 : decode cX9_layLike 48 = .ok (.iload_n 1, 1) := by decide +kernel
theorem dX9_layLike_49 : decode cX9_layLike 49 = .ok (.imul, 1) := by decide +kernel
theorem dX9_layLike_50 : decode cX9_layLike 50 = .ok (.iload_n 3, 1) := by decide +kernel
theorem dX9_layLike_51 : decode cX9_layLike 51 = .ok (.iadd, 1) := by decide +kernel
theorem dX9_layLike_52 : decode cX9_layLike 52 = .ok (.iaload, 1) := by decide +kernel
theorem dX9_layLike_53 : decode cX9_layLike 53 = .ok (.iastore, 1) := by decide +kernel
theorem dX9_layLike_54 : decode cX9_layLike 54 = .ok (.iinc 3 1, 3) := by decide +kernel
theorem dX9_layLike_57 : decode cX9_layLike 57 = .ok (.goto (-31), 3) := by decide +kernel
theorem dX9_layLike_60 : decode cX9_layLike 60 = .ok (.return_, 1) := by decide +kernel
set_option maxRecDepth 20000 in
theorem ggX9_copy_X9_isSet : GoodIn wsX9_copy wsX9_isSet := goodIn_r _ [7, 1, 8, 9, 6, 10, 18, 19, 20, 21, 22, 23, 24, 25, 26, 27, 28, 29, 30, 31, 32, 33, 34, 35, 36, 37, 38, 39, 40, 41, 42, 43, 44, 45, 46, 47, 48, 49, 50, 51, 52, 53, 54, 55, 56, 57, 58] (by decide +kernel) (by decide +kernel)
set_option maxRecDepth 20000 in
theorem gX9_copy_X9_isSet : GoodIn wsX9_copy (wsV RX9 163 RX9 yX9_isSet wsX9_isSet) := goodIn_app (goodIn_of _ (by decide +kernel)) ggX9_copy_X9_isSet
set_option maxRecDepth 20000 in
theorem ggX9_copy_X9_layLike : GoodIn wsX9_copy wsX9_layLike := goodIn_r _ [14, 15, 16, 17, 18, 19, 20, 21, 22, 23, 24, 25, 26, 27, 28, 29, 30, 31, 32, 33, 34, 35, 36, 37, 38, 39, 40, 41, 42, 43, 44, 45, 46, 47, 48, 49, 50, 51, 52, 53, 54, 55, 56, 57, 58] (by decide +kernel) (by decide +kernel)
set_option maxRecDepth 20000 in
theorem gX9_copy_X9_layLike : GoodIn wsX9_copy (wsV RX9 264 RX9 yX9_layLike wsX9_layLike) := goodIn_app (goodIn_of _ (by decide +kernel)) ggX9_copy_X9_layLike
theorem dX9_copy_0 : decode cX9_copy 0 = .ok (.aload_n 0, 1) := by decide +kernel
theorem dX9_copy_1 : decode cX9_copy 1 = .ok (.iload_n 1, 1) := by decide +kernel
theorem dX9_copy_2 : decode cX9_copy 2 = .ok (.invokevirtual 163, 3) := by decide +kernel
theorem dX9_copy_5 : decode cX9_copy 5 = .ok (.ifCond .ne 6, 3) := by decide +kernel
theorem dX9_copy_8 : decode cX9_copy 8 = .ok (.bipush (-101), 2) := by decide +kernel
theorem dX9_copy_10 : decode cX9_copy 10 = .ok (.ireturn, 1) := by decide +kernel
theorem dX9_copy_11 : decode cX9_copy 11 = .ok (.aload_n 0, 1) := by decide +kernel
theorem dX9_copy_12 : decode cX9_copy 12 = .ok (.getfield 147, 3) := by decide +kernel
theorem dX9_copy_15 : decode cX9_copy 15 = .ok (.bipush 6, 2) := by decide +kernel
theorem dX9_copy_17 : decode cX9_copy 17 = .ok (.if_icmp .ne 6, 3) := by decide +kernel
theorem dX9_copy_20 : decode cX9_copy 20 = .ok (.bipush (-104), 2) := by decide +kernel
theorem dX9_copy_22 : decode cX9_copy 22 = .ok (.ireturn, 1) := by decide +kernel
theorem dX9_copy_23 : decode cX9_copy 23 = .ok (.aload_n 0, 1) := by decide +kernel
theorem dX9_copy_24 : decode cX9_copy 24 = .ok (.iload_n 1, 1) := by decide +kernel
theorem dX9_copy_25 : decode cX9_copy 25 = .ok (.aload_n 0, 1) := by decide +kernel
theorem dX9_copy_26 : decode cX9_copy 26 = .ok (.getfield 147, 3) := by decide +kernel
theorem dX9_copy_29 : decode cX9_copy 29 = .ok (.invokevirtual 264, 3) := by decide +kernel
theorem dX9_copy_32 : decode cX9_copy 32 = .ok (.aload_n 0, 1) := by decide +kernel
theorem dX9_copy_33 : decode cX9_copy 33 = .ok (.dup, 1) := by decide +kernel
theorem dX9_copy_34 : decode cX9_copy 34 = .ok (.getfield 147, 3) := by decide +kernel
theorem dX9_copy_37 : decode cX9_copy 37 = .ok (.iconst 1, 1) := by decide +kernel
theorem dX9_copy_38 : decode cX9_copy 38 = .ok (.iadd, 1) := by decide +kernel
theorem dX9_copy_39 : decode cX9_copy 39 = .ok (.putfield 147, 3) := by decide +kernel
theorem dX9_copy_42 : decode cX9_copy 42 = .ok (.aload_n 0, 1) := by decide +kernel
theorem dX9_copy_43 : decode cX9_copy 43 = .ok (.iconst 1, 1) := by decide +kernel
theorem dX9_copy_44 : decode cX9_copy 44 = .ok (.putfield 153, 3) := by decide +kernel
theorem dX9_copy_47 : decode cX9_copy 47 = .ok (.aload_n 0, 1) := by decide +kernel
theorem dX9_copy_48 : decode cX9_copy 48 = .ok (.getfield 147, 3) := by decide +kernel
theorem dX9_copy_51 : decode cX9_copy 51 = .ok (.iconst 1, 1) := by decide +kernel
theorem dX9_copy_52 : decode cX9_copy 52 = .ok (.isub, 1) := by decide +kernel
theorem dX9_copy_53 : decode cX9_copy 53 = .ok (.ireturn, 1) := by decide +kernel
set_option maxRecDepth 20000 in
theorem ggX9_take_X9_isSet : GoodIn wsX9_take wsX9_isSet := goodIn_r _ [7, 1, 8, 9, 6, 10, 18, 19, 20, 21, 22, 23, 24, 25, 26, 27, 28, 29, 30, 31, 32, 33, 34, 35, 36, 37, 38, 39, 40, 41, 42, 43, 44, 45, 46, 47, 48, 49, 50, 51, 52, 53, 54, 55, 56, 57, 58] (by decide +kernel) (by decide +kernel)
set_option maxRecDepth 20000 in
theorem gX9_take_X9_isSet : GoodIn wsX9_take (wsV RX9 163 RX9 yX9_isSet wsX9_isSet) := goodIn_app (goodIn_of _ (by decide +kernel)) ggX9_take_X9_isSet
set_option maxRecDepth 20000 in
theorem ggX9_take_X9_layLike : GoodIn wsX9_take wsX9_layLike := goodIn_r _ [14, 15, 16, 17, 18, 19, 20, 21, 22, 23, 24, 25, 26, 27, 28, 29, 30, 31, 32, 33, 34, 35, 36, 37, 38, 39, 40, 41, 42, 43, 44, 45, 46, 47, 48, 49, 50, 51, 52, 53, 54, 55, 56, 57, 58] (by decide +kernel) (by decide +kernel)
set_option maxRecDepth 20000 in
theorem gX9_take_X9_layLike : GoodIn wsX9_take (wsV RX9 264 RX9 yX9_layLike wsX9_layLike) := goodIn_app (goodIn_of _ (by decide +kernel)) ggX9_take_X9_layLike
theorem dX9_take_0 : decode cX9_take 0 = .ok (.aload_n 0, 1) := by decide +kernel
theorem dX9_take_1 : decode cX9_take 1 = .ok (.iload_n 1, 1) := by decide +kernel
theorem dX9_take_2 : decode cX9_take 2 = .ok (.invokevirtual 163, 3) := by decide +kernel
theorem dX9_take_5 : decode cX9_take 5 = .ok (.ifCond .ne 6, 3) := by decide +kernel
theorem dX9_take_8 : decode cX9_take 8 = .ok (.bipush (-101), 2) := by decide +kernel
theorem dX9_take_10 : decode cX9_take 10 = .ok (.ireturn, 1) := by decide +kernel
theorem dX9_take_11 : decode cX9_take 11 = .ok (.aload_n 0, 1) := by decide +kernel
theorem dX9_take_12 : decode cX9_take 12 = .ok (.getfield 147, 3) := by decide +kernel
theorem dX9_take_15 : decode cX9_take 15 = .ok (.iconst 1, 1) := by decide +kernel
theorem dX9_take_16 : decode cX9_take 16 = .ok (.if_icmp .ne 6, 3) := by decide +kernel
theorem dX9_take_19 : decode cX9_take 19 = .ok (.bipush (-103), 2) := by decide +kernel
theorem dX9_take_21 : decode cX9_take 21 = .ok (.ireturn, 1) := by decide +kernel
theorem dX9_take_22 : decode cX9_take 22 = .ok (.aload_n 0, 1) := by decide +kernel
theorem dX9_take_23 : decode cX9_take 23 = .ok (.dup, 1) := by decide +kernel
theorem dX9_take_24 : decode cX9_take 24 = .ok (.getfield 147, 3) := by decide +kernel
theorem dX9_take_27 : decode cX9_take 27 = .ok (.iconst 1, 1) := by decide +kernel
theorem dX9_take_28 : decode cX9_take 28 = .ok (.isub, 1) := by decide +kernel
theorem dX9_take_29 : decode cX9_take 29 = .ok (.putfield 147, 3) := by decide +kernel
theorem dX9_take_32 : decode cX9_take 32 = .ok (.iload_n 1, 1) := by decide +kernel
theorem dX9_take_33 : decode cX9_take 33 = .ok (.istore_n 2, 1) := by decide +kernel
theorem dX9_take_34 : decode cX9_take 34 = .ok (.iload_n 2, 1) := by decide +kernel
theorem dX9_take_35 : decode cX9_take 35 = .ok (.aload_n 0, 1) := by decide +kernel
theorem dX9_take_36 : decode cX9_take 36 = .ok (.getfield 147, 3) := by decide +kernel
theorem dX9_take_39 : decode cX9_take 39 = .ok (.if_icmp .ge 17, 3) := by decide +kernel
theorem dX9_take_42 : decode cX9_take 42 = .ok (.aload_n 0, 1) := by decide +kernel
theorem dX9_take_43 : decode cX9_take 43 = .ok (.iload_n 2, 1) := by decide +kernel
theorem dX9_take_44 : decode cX9_take 44 = .ok (.iconst 1, 1) := by decide +kernel

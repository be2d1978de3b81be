theorem dX8_isOfKind_10 : decode cX8_isOfKind 10 = .ok (.iconst 2, 1) := by decide +kernel
theorem dX8_isOfKind_11 : decode cX8_isOfKind 11 = .ok (.if_icmp .ne 12, 3) := by decide +kernel
theorem dX8_isOfKind_14 : decode cX8_isOfKind 14 = .ok (.iload_n 1, 1) := by decide +kernel
theorem dX8_isOfKind_15 : decode cX8_isOfKind 15 = .ok (.iconst 1, 1) := by decide +kernel
theorem dX8_isOfKind_16 : decode cX8_isOfKind 16 = .ok (.if_icmp .ne 7, 3) := by decide +kernel
theorem dX8_isOfKind_19 : decode cX8_isOfKind 19 = .ok (.iconst 1, 1) := by decide +kernel
theorem dX8_isOfKind_20 : decode cX8_isOfKind 20 = .ok (.goto 4, 3) := by decide +kernel
theorem dX8_isOfKind_23 : decode cX8_isOfKind 23 = .ok (.iconst 0, 1) := by decide +kernel
theorem dX8_isOfKind_24 : decode cX8_isOfKind 24 = .ok (.ireturn, 1) := by decide +kernel
theorem dX8_costOf_0 : decode cX8_costOf 0 = .ok (.getstatic 288, 3) := by decide +kernel
theorem dX8_costOf_3 : decode cX8_costOf 3 = .ok (.iload_n 0, 1) := by decide +kernel
theorem dX8_costOf_4 : decode cX8_costOf 4 = .ok (.bipush 9, 2) := by decide +kernel
theorem dX8_costOf_6 : decode cX8_costOf 6 = .ok (.imul, 1) := by decide +kernel
theorem dX8_costOf_7 : decode cX8_costOf 7 = .ok (.iload_n 1, 1) := by decide +kernel
theorem dX8_costOf_8 : decode cX8_costOf 8 = .ok (.iadd, 1) := by decide +kernel
theorem dX8_costOf_9 : decode cX8_costOf 9 = .ok (.iaload, 1) := by decide +kernel
theorem dX8_costOf_10 : decode cX8_costOf 10 = .ok (.ireturn, 1) := by decide +kernel
theorem dX8_nodesOf_0 : decode cX8_nodesOf 0 = .ok (.iload_n 0, 1) := by decide +kernel
theorem dX8_nodesOf_1 : decode cX8_nodesOf 1 = .ok (.iconst 2, 1) := by decide +kernel
theorem dX8_nodesOf_2 : decode cX8_nodesOf 2 = .ok (.if_icmp .ge 7, 3) := by decide +kernel
theorem dX8_nodesOf_5 : decode cX8_nodesOf 5 = .ok (.iconst 0, 1) := by decide +kernel
theorem dX8_nodesOf_6 : decode cX8_nodesOf 6 = .ok (.goto 8, 3) := by decide +kernel
theorem dX8_nodesOf_9 : decode cX8_nodesOf 9 = .ok (.iconst 2, 1) := by decide +kernel
theorem dX8_nodesOf_10 : decode cX8_nodesOf 10 = .ok (.iload_n 0, 1) := by decide +kernel
theorem dX8_nodesOf_11 : decode cX8_nodesOf 11 = .ok (.imul, 1) := by decide +kernel
theorem dX8_nodesOf_12 : decode cX8_nodesOf 12 = .ok (.iconst 1, 1) := by decide +kernel
theorem dX8_nodesOf_13 : decode cX8_nodesOf 13 = .ok (.isub, 1) := by decide +kernel
theorem dX8_nodesOf_14 : decode cX8_nodesOf 14 = .ok (.ireturn, 1) := by decide +kernel
theorem dX8_aheadAt_0 : decode cX8_aheadAt 0 = .ok (.iload_n 0, 1) := by decide +kernel
theorem dX8_aheadAt_1 : decode cX8_aheadAt 1 = .ok (.ifCond .ne 7, 3) := by decide +kernel
theorem dX8_aheadAt_4 : decode cX8_aheadAt 4 = .ok (.iconst 1, 1) := by decide +kernel
theorem dX8_aheadAt_5 : decode cX8_aheadAt 5 = .ok (.goto 4, 3) := by decide +kernel
theorem dX8_aheadAt_8 : decode cX8_aheadAt 8 = .ok (.iconst 0, 1) := by decide +kernel
theorem dX8_aheadAt_9 : decode cX8_aheadAt 9 = .ok (.ireturn, 1) := by decide +kernel
theorem dX8_wordAt_0 : decode cX8_wordAt 0 = .ok (.iload_n 0, 1) := by decide +kernel
theorem dX8_wordAt_1 : decode cX8_wordAt 1 = .ok (.iconst 4, 1) := by decide +kernel
theorem dX8_wordAt_2 : decode cX8_wordAt 2 = .ok (.imul, 1) := by decide +kernel
theorem dX8_wordAt_3 : decode cX8_wordAt 3 = .ok (.iload_n 1, 1) := by decide +kernel
theorem dX8_wordAt_4 : decode cX8_wordAt 4 = .ok (.iadd, 1) := by decide +kernel
theorem dX8_wordAt_5 : decode cX8_wordAt 5 = .ok (.iconst 4, 1) := by decide +kernel
theorem dX8_wordAt_6 : decode cX8_wordAt 6 = .ok (.imul, 1) := by decide +kernel
theorem dX8_wordAt_7 : decode cX8_wordAt 7 = .ok (.ireturn, 1) := by decide +kernel
theorem dX8_nodesAt_0 : decode cX8_nodesAt 0 = .ok (.iload_n 0, 1) := by decide +kernel
theorem dX8_nodesAt_1 : decode cX8_nodesAt 1 = .ok (.iconst 4, 1) := by decide +kernel
theorem dX8_nodesAt_2 : decode cX8_nodesAt 2 = .ok (.imul, 1) := by decide +kernel
theorem dX8_nodesAt_3 : decode cX8_nodesAt 3 = .ok (.iload_n 1, 1) := by decide +kernel
theorem dX8_nodesAt_4 : decode cX8_nodesAt 4 = .ok (.iadd, 1) := by decide +kernel
theorem dX8_nodesAt_5 : decode cX8_nodesAt 5 = .ok (.bipush 7, 2) := by decide +kernel
theorem dX8_nodesAt_7 : decode cX8_nodesAt 7 = .ok (.imul, 1) := by decide +kernel
theorem dX8_nodesAt_8 : decode cX8_nodesAt 8 = .ok (.ireturn, 1) := by decide +kernel
theorem dX8_lawAt_0 : decode cX8_lawAt 0 = .ok (.iload_n 0, 1) := by decide +kernel
theorem dX8_lawAt_1 : decode cX8_lawAt 1 = .ok (.bipush 9, 2) := by decide +kernel
theorem dX8_lawAt_3 : decode cX8_lawAt 3 = .ok (.imul, 1) := by decide +kernel
theorem dX8_lawAt_4 : decode cX8_lawAt 4 = .ok (.iload_n 1, 1) := by decide +kernel
theorem dX8_lawAt_5 : decode cX8_lawAt 5 = .ok (.iadd, 1) := by decide +kernel
theorem dX8_lawAt_6 : decode cX8_lawAt 6 = .ok (.iconst 2, 1) := by decide +kernel
theorem dX8_lawAt_7 : decode cX8_lawAt 7 = .ok (.imul, 1) := by decide +kernel
theorem dX8_lawAt_8 : decode cX8_lawAt 8 = .ok (.iload_n 2, 1) := by decide +kernel
theorem dX8_lawAt_9 : decode cX8_lawAt 9 = .ok (.iadd, 1) := by decide +kernel
theorem dX8_lawAt_10 : decode cX8_lawAt 10 = .ok (.ireturn, 1) := by decide +kernel
theorem dX9_init_0 : decode cX9_init 0 = .ok (.aload_n 0, 1) := by decide +kernel
theorem dX9_init_1 : decode cX9_init 1 = .ok (.invokespecial 1, 3) := by decide +kernel
theorem dX9_init_4 : decode cX9_init 4 = .ok (.aload_n 0, 1) := by decide +kernel
theorem dX9_init_5 : decode cX9_init 5 = .ok (.bipush 110, 2) := by decide +kernel
theorem dX9_init_7 : decode cX9_init 7 = .ok (.newarray .int, 2) := by decide +kernel
theorem dX9_init_9 : decode cX9_init 9 = .ok (.putfield 7, 3) := by decide +kernel
theorem dX9_init_12 : decode cX9_init 12 = .ok (.aload_n 0, 1) := by decide +kernel
theorem dX9_init_13 : decode cX9_init 13 = .ok (.iconst 5, 1) := by decide +kernel
theorem dX9_init_14 : decode cX9_init 14 = .ok (.newarray .int, 2) := by decide +kernel
theorem dX9_init_16 : decode cX9_init 16 = .ok (.putfield 13, 3) := by decide +kernel
theorem dX9_init_19 : decode cX9_init 19 = .ok (.aload_n 0, 1) := by decide +kernel
theorem dX9_init_20 : decode cX9_init 20 = .ok (.iconst 5, 1) := by decide +kernel
theorem dX9_init_21 : decode cX9_init 21 = .ok (.newarray .int, 2) := by decide +kernel
theorem dX9_init_23 : decode cX9_init 23 = .ok (.putfield 16, 3) := by decide +kernel
theorem dX9_init_26 : decode cX9_init 26 = .ok (.aload_n 0, 1) := by decide +kernel
theorem dX9_init_27 : decode cX9_init 27 = .ok (.bipush 80, 2) := by decide +kernel
theorem dX9_init_29 : decode cX9_init 29 = .ok (.newarray .int, 2) := by decide +kernel
theorem dX9_init_31 : decode cX9_init 31 = .ok (.putfield 19, 3) := by decide +kernel
theorem dX9_init_34 : decode cX9_init 34 = .ok (.aload_n 0, 1) := by decide +kernel
theorem dX9_init_35 : decode cX9_init 35 = .ok (.bipush 6, 2) := by decide +kernel
theorem dX9_init_37 : decode cX9_init 37 = .ok (.newarray .int, 2) := by decide +kernel
theorem dX9_init_39 : decode cX9_init 39 = .ok (.putfield 22, 3) := by decide +kernel
theorem dX9_init_42 : decode cX9_init 42 = .ok (.aload_n 0, 1) := by decide +kernel
theorem dX9_init_43 : decode cX9_init 43 = .ok (.bipush 6, 2) := by decide +kernel
theorem dX9_init_45 : decode cX9_init 45 = .ok (.newarray .int, 2) := by decide +kernel
theorem dX9_init_47 : decode cX9_init 47 = .ok (.putfield 25, 3) := by decide +kernel
theorem dX9_init_50 : decode cX9_init 50 = .ok (.aload_n 0, 1) := by decide +kernel
theorem dX9_init_51 : decode cX9_init 51 = .ok (.bipush 96, 2) := by decide +kernel
theorem dX9_init_53 : decode cX9_init 53 = .ok (.newarray .int, 2) := by decide +kernel
theorem dX9_init_55 : decode cX9_init 55 = .ok (.putfield 28, 3) := by decide +kernel
theorem dX9_init_58 : decode cX9_init 58 = .ok (.aload_n 0, 1) := by decide +kernel
theorem dX9_init_59 : decode cX9_init 59 = .ok (.bipush 63, 2) := by decide +kernel
theorem dX9_init_61 : decode cX9_init 61 = .ok (.newarray .int, 2) := by decide +kernel
theorem dX9_init_63 : decode cX9_init 63 = .ok (.putfield 31, 3) := by decide +kernel
theorem dX9_init_66 : decode cX9_init 66 = .ok (.aload_n 0, 1) := by decide +kernel
theorem dX9_init_67 : decode cX9_init 67 = .ok (.bipush 7, 2) := by decide +kernel
theorem dX9_init_69 : decode cX9_init 69 = .ok (.newarray .int, 2) := by decide +kernel
theorem dX9_init_71 : decode cX9_init 71 = .ok (.putfield 34, 3) := by decide +kernel
theorem dX9_init_74 : decode cX9_init 74 = .ok (.aload_n 0, 1) := by decide +kernel
theorem dX9_init_75 : decode cX9_init 75 = .ok (.iconst 4, 1) := by decide +kernel
theorem dX9_init_76 : decode cX9_init 76 = .ok (.newarray .int, 2) := by decide +kernel
theorem dX9_init_78 : decode cX9_init 78 = .ok (.putfield 37, 3) := by decide +kernel
theorem dX9_init_81 : decode cX9_init 81 = .ok (.aload_n 0, 1) := by decide +kernel
theorem dX9_init_82 : decode cX9_init 82 = .ok (.sipush 168, 3) := by decide +kernel
theorem dX9_init_85 : decode cX9_init 85 = .ok (.newarray .int, 2) := by decide +kernel
theorem dX9_init_87 : decode cX9_init 87 = .ok (.putfield 40, 3) := by decide +kernel
theorem dX9_init_90 : decode cX9_init 90 = .ok (.aload_n 0, 1) := by decide +kernel
theorem dX9_init_91 : decode cX9_init 91 = .ok (.bipush 6, 2) := by decide +kernel
theorem dX9_init_93 : decode cX9_init 93 = .ok (.newarray .int, 2) := by decide +kernel
theorem dX9_init_95 : decode cX9_init 95 = .ok (.putfield 43, 3) := by decide +kernel
theorem dX9_init_98 : decode cX9_init 98 = .ok (.aload_n 0, 1) := by decide +kernel
theorem dX9_init_99 : decode cX9_init 99 = .ok (.bipush 72, 2) := by decide +kernel
theorem dX9_init_101 : decode cX9_init 101 = .ok (.newarray .int, 2) := by decide +kernel
theorem dX9_init_103 : decode cX9_init 103 = .ok (.putfield 46, 3) := by decide +kernel
theorem dX9_init_106 : decode cX9_init 106 = .ok (.aload_n 0, 1) := by decide +kernel
theorem dX9_init_107 : decode cX9_init 107 = .ok (.bipush 72, 2) := by decide +kernel
theorem dX9_init_109 : decode cX9_init 109 = .ok (.newarray .int, 2) := by decide +kernel
theorem dX9_init_111 : decode cX9_init 111 = .ok (.putfield 49, 3) := by decide +kernel
theorem dX9_init_114 : decode cX9_init 114 = .ok (.aload_n 0, 1) := by decide +kernel
theorem dX9_init_115 : decode cX9_init 115 = .ok (.bipush 72, 2) := by decide +kernel
theorem dX9_init_117 : decode cX9_init 117 = .ok (.newarray .int, 2) := by decide +kernel
theorem dX9_init_119 : decode cX9_init 119 = .ok (.putfield 52, 3) := by decide +kernel
theorem dX9_init_122 : decode cX9_init 122 = .ok (.aload_n 0, 1) := by decide +kernel
theorem dX9_init_123 : decode cX9_init 123 = .ok (.bipush 9, 2) := by decide +kernel
theorem dX9_init_125 : decode cX9_init 125 = .ok (.newarray .int, 2) := by decide +kernel
theorem dX9_init_127 : decode cX9_init 127 = .ok (.putfield 55, 3) := by decide +kernel
theorem dX9_init_130 : decode cX9_init 130 = .ok (.aload_n 0, 1) := by decide +kernel
theorem dX9_init_131 : decode cX9_init 131 = .ok (.iconst 4, 1) := by decide +kernel
theorem dX9_init_132 : decode cX9_init 132 = .ok (.newarray .int, 2) := by decide +kernel
theorem dX9_init_134 : decode cX9_init 134 = .ok (.putfield 58, 3) := by decide +kernel
theorem dX9_init_137 : decode cX9_init 137 = .ok (.aload_n 0, 1) := by decide +kernel
theorem dX9_init_138 : decode cX9_init 138 = .ok (.iconst 4, 1) := by decide +kernel
theorem dX9_init_139 : decode cX9_init 139 = .ok (.newarray .int, 2) := by decide +kernel
theorem dX9_init_141 : decode cX9_init 141 = .ok (.putfield 61, 3) := by decide +kernel
theorem dX9_init_144 : decode cX9_init 144 = .ok (.aload_n 0, 1) := by decide +kernel
theorem dX9_init_145 : decode cX9_init 145 = .ok (.bipush 25, 2) := by decide +kernel
theorem dX9_init_147 : decode cX9_init 147 = .ok (.newarray .int, 2) := by decide +kernel
theorem dX9_init_149 : decode cX9_init 149 = .ok (.putfield 64, 3) := by decide +kernel
theorem dX9_init_152 : decode cX9_init 152 = .ok (.aload_n 0, 1) := by decide +kernel
theorem dX9_init_153 : decode cX9_init 153 = .ok (.bipush 18, 2) := by decide +kernel
theorem dX9_init_155 : decode cX9_init 155 = .ok (.newarray .int, 2) := by decide +kernel
theorem dX9_init_157 : decode cX9_init 157 = .ok (.putfield 67, 3) := by decide +kernel
theorem dX9_init_160 : decode cX9_init 160 = .ok (.aload_n 0, 1) := by decide +kernel
theorem dX9_init_161 : decode cX9_init 161 = .ok (.bipush 6, 2) := by decide +kernel
theorem dX9_init_163 : decode cX9_init 163 = .ok (.newarray .int, 2) := by decide +kernel
theorem dX9_init_165 : decode cX9_init 165 = .ok (.putfield 70, 3) := by decide +kernel
theorem dX9_init_168 : decode cX9_init 168 = .ok (.aload_n 0, 1) := by decide +kernel
theorem dX9_init_169 : decode cX9_init 169 = .ok (.bipush 6, 2) := by decide +kernel
theorem dX9_init_171 : decode cX9_init 171 = .ok (.newarray .int, 2) := by decide +kernel
theorem dX9_init_173 : decode cX9_init 173 = .ok (.putfield 73, 3) := by decide +kernel
theorem dX9_init_176 : decode cX9_init 176 = .ok (.aload_n 0, 1) := by decide +kernel
theorem dX9_init_177 : decode cX9_init 177 = .ok (.bipush 96, 2) := by decide +kernel
theorem dX9_init_179 : decode cX9_init 179 = .ok (.newarray .int, 2) := by decide +kernel
theorem dX9_init_181 : decode cX9_init 181 = .ok (.putfield 76, 3) := by decide +kernel
theorem dX9_init_184 : decode cX9_init 184 = .ok (.aload_n 0, 1) := by decide +kernel
theorem dX9_init_185 : decode cX9_init 185 = .ok (.bipush 18, 2) := by decide +kernel
theorem dX9_init_187 : decode cX9_init 187 = .ok (.newarray .int, 2) := by decide +kernel
theorem dX9_init_189 : decode cX9_init 189 = .ok (.putfield 79, 3) := by decide +kernel
theorem dX9_init_192 : decode cX9_init 192 = .ok (.aload_n 0, 1) := by decide +kernel
theorem dX9_init_193 : decode cX9_init 193 = .ok (.iconst (-1), 1) := by decide +kernel
theorem dX9_init_194 : decode cX9_init 194 = .ok (.putfield 82, 3) := by decide +kernel
theorem dX9_init_197 : decode cX9_init 197 = .ok (.return_, 1) := by decide +kernel
theorem dX9_in_0 : decode cX9_in 0 = .ok (.lload_n 0, 1) := by decide +kernel
theorem dX9_in_1 : decode cX9_in 1 = .ok (.lload_n 2, 1) := by decide +kernel
theorem dX9_in_2 : decode cX9_in 2 = .ok (.lcmp, 1) := by decide +kernel
theorem dX9_in_3 : decode cX9_in 3 = .ok (.ifCond .lt 14, 3) := by decide +kernel
theorem dX9_in_6 : decode cX9_in 6 = .ok (.lload_n 0, 1) := by decide +kernel
theorem dX9_in_7 : decode cX9_in 7 = .ok (.lload 4, 2) := by decide +kernel
theorem dX9_in_9 : decode cX9_in 9 = .ok (.lcmp, 1) := by decide +kernel
theorem dX9_in_10 : decode cX9_in 10 = .ok (.ifCond .gt 7, 3) := by decide +kernel
theorem dX9_in_13 : decode cX9_in 13 = .ok (.iconst 1, 1) := by decide +kernel
theorem dX9_in_14 : decode cX9_in 14 = .ok (.goto 4, 3) := by decide +kernel
theorem dX9_in_17 : decode cX9_in 17 = .ok (.iconst 0, 1) := by decide +kernel
theorem dX9_in_18 : decode cX9_in 18 = .ok (.ireturn, 1) := by decide +kernel
theorem dX9_copyRow_0 : decode cX9_copyRow 0 = .ok (.iconst 0, 1) := by decide +kernel
theorem dX9_copyRow_1 : decode cX9_copyRow 1 = .ok (.istore_n 2, 1) := by decide +kernel
theorem dX9_copyRow_2 : decode cX9_copyRow 2 = .ok (.iload_n 2, 1) := by decide +kernel
theorem dX9_copyRow_3 : decode cX9_copyRow 3 = .ok (.aload_n 0, 1) := by decide +kernel
theorem dX9_copyRow_4 : decode cX9_copyRow 4 = .ok (.arraylength, 1) := by decide +kernel
theorem dX9_copyRow_5 : decode cX9_copyRow 5 = .ok (.if_icmp .ge 15, 3) := by decide +kernel
theorem dX9_copyRow_8 : decode cX9_copyRow 8 = .ok (.aload_n 1, 1) := by decide +kernel
theorem dX9_copyRow_9 : decode cX9_copyRow 9 = .ok (.iload_n 2, 1) := by decide +kernel
theorem dX9_copyRow_10 : decode cX9_copyRow 10 = .ok (.aload_n 0, 1) := by decide +kernel
theorem dX9_copyRow_11 : decode cX9_copyRow 11 = .ok (.iload_n 2, 1) := by decide +kernel
theorem dX9_copyRow_12 : decode cX9_copyRow 12 = .ok (.iaload, 1) := by decide +kernel
theorem dX9_copyRow_13 : decode cX9_copyRow 13 = .ok (.iastore, 1) := by decide +kernel
theorem dX9_copyRow_14 : decode cX9_copyRow 14 = .ok (.iinc 2 1, 3) := by decide +kernel
theorem dX9_copyRow_17 : decode cX9_copyRow 17 = .ok (.goto (-15), 3) := by decide +kernel
theorem dX9_copyRow_20 : decode cX9_copyRow 20 = .ok (.return_, 1) := by decide +kernel
set_option maxRecDepth 20000 in
theorem ggX9_letter_X9_in : GoodIn wsX9_letter wsX9_in := goodIn_r _ [7] (by decide +kernel) (by decide +kernel)
set_option maxRecDepth 20000 in
theorem gX9_letter_X9_in : GoodIn wsX9_letter (va_wsS RX9 88 yX9_in wsX9_in) := goodIn_app (goodIn_of _ (by decide +kernel)) ggX9_letter_X9_in
theorem dX9_letter_0 : decode cX9_letter 0 = .ok (.iload_n 1, 1) := by decide +kernel
theorem dX9_letter_1 : decode cX9_letter 1 = .ok (.i2l, 1) := by decide +kernel
theorem dX9_letter_2 : decode cX9_letter 2 = .ok (.lconst 1, 1) := by decide +kernel
theorem dX9_letter_3 : decode cX9_letter 3 = .ok (.ldc2_w 86, 3) := by decide +kernel
theorem dX9_letter_6 : decode cX9_letter 6 = .ok (.invokestatic 88, 3) := by decide +kernel
theorem dX9_letter_9 : decode cX9_letter 9 = .ok (.ifCond .ne 6, 3) := by decide +kernel
theorem dX9_letter_12 : decode cX9_letter 12 = .ok (.bipush (-102), 2) := by decide +kernel
theorem dX9_letter_14 : decode cX9_letter 14 = .ok (.ireturn, 1) := by decide +kernel
theorem dX9_letter_15 : decode cX9_letter 15 = .ok (.aload_n 0, 1) := by decide +kernel
theorem dX9_letter_16 : decode cX9_letter 16 = .ok (.getfield 92, 3) := by decide +kernel
theorem dX9_letter_19 : decode cX9_letter 19 = .ok (.bipush 110, 2) := by decide +kernel
theorem dX9_letter_21 : decode cX9_letter 21 = .ok (.if_icmp .ne 6, 3) := by decide +kernel
theorem dX9_letter_24 : decode cX9_letter 24 = .ok (.bipush (-104), 2) := by decide +kernel
theorem dX9_letter_26 : decode cX9_letter 26 = .ok (.ireturn, 1) := by decide +kernel
theorem dX9_letter_27 : decode cX9_letter 27 = .ok (.aload_n 0, 1) := by decide +kernel
theorem dX9_letter_28 : decode cX9_letter 28 = .ok (.getfield 7, 3) := by decide +kernel
theorem dX9_letter_31 : decode cX9_letter 31 = .ok (.aload_n 0, 1) := by decide +kernel
theorem dX9_letter_32 : decode cX9_letter 32 = .ok (.getfield 92, 3) := by decide +kernel
theorem dX9_letter_35 : decode cX9_letter 35 = .ok (.iload_n 1, 1) := by decide +kernel
theorem dX9_letter_36 : decode cX9_letter 36 = .ok (.iastore, 1) := by decide +kernel
theorem dX9_letter_37 : decode cX9_letter 37 = .ok (.aload_n 0, 1) := by decide +kernel
theorem dX9_letter_38 : decode cX9_letter 38 = .ok (.dup, 1) := by decide +kernel
theorem dX9_letter_39 : decode cX9_letter 39 = .ok (.getfield 92, 3) := by decide +kernel
theorem dX9_letter_42 : decode cX9_letter 42 = .ok (.iconst 1, 1) := by decide +kernel
theorem dX9_letter_43 : decode cX9_letter 43 = .ok (.iadd, 1) := by decide +kernel
theorem dX9_letter_44 : decode cX9_letter 44 = .ok (.putfield 92, 3) := by decide +kernel
theorem dX9_letter_47 : decode cX9_letter 47 = .ok (.aload_n 0, 1) := by decide +kernel
theorem dX9_letter_48 : decode cX9_letter 48 = .ok (.getfield 92, 3) := by decide +kernel
theorem dX9_letter_51 : decode cX9_letter 51 = .ok (.ireturn, 1) := by decide +kernel
theorem dX9_blank_0 : decode cX9_blank 0 = .ok (.aload_n 0, 1) := by decide +kernel
theorem dX9_blank_1 : decode cX9_blank 1 = .ok (.getfield 92, 3) := by decide +kernel
theorem dX9_blank_4 : decode cX9_blank 4 = .ok (.istore_n 1, 1) := by decide +kernel
theorem dX9_blank_5 : decode cX9_blank 5 = .ok (.aload_n 0, 1) := by decide +kernel
theorem dX9_blank_6 : decode cX9_blank 6 = .ok (.iconst 0, 1) := by decide +kernel
theorem dX9_blank_7 : decode cX9_blank 7 = .ok (.putfield 92, 3) := by decide +kernel
theorem dX9_blank_10 : decode cX9_blank 10 = .ok (.iload_n 1, 1) := by decide +kernel
theorem dX9_blank_11 : decode cX9_blank 11 = .ok (.ireturn, 1) := by decide +kernel
theorem dX9_kindBy_0 : decode cX9_kindBy 0 = .ok (.iload_n 0, 1) := by decide +kernel
theorem dX9_kindBy_1 : decode cX9_kindBy 1 = .ok (.lookupswitch 61 #[(99, 55), (100, 59), (108, 57), (110, 53), (119, 51)], 51) := by decide +kernel
theorem dX9_kindBy_52 : decode cX9_kindBy 52 = .ok (.iconst 0, 1) := by decide +kernel
theorem dX9_kindBy_53 : decode cX9_kindBy 53 = .ok (.ireturn, 1) := by decide +kernel
theorem dX9_kindBy_54 : decode cX9_kindBy 54 = .ok (.iconst 1, 1) := by decide +kernel
theorem dX9_kindBy_55 : decode cX9_kindBy 55 = .ok (.ireturn, 1) := by decide +kernel
theorem dX9_kindBy_56 : decode cX9_kindBy 56 = .ok (.iconst 2, 1) := by decide +kernel
theorem dX9_kindBy_57 : decode cX9_kindBy 57 = .ok (.ireturn, 1) := by decide +kernel
theorem dX9_kindBy_58 : decode cX9_kindBy 58 = .ok (.iconst 3, 1) := by decide +kernel
theorem dX9_kindBy_59 : decode cX9_kindBy 59 = .ok (.ireturn, 1) := by decide +kernel
theorem dX9_kindBy_60 : decode cX9_kindBy 60 = .ok (.iconst 4, 1) := by decide +kernel
theorem dX9_kindBy_61 : decode cX9_kindBy 61 = .ok (.ireturn, 1) := by decide +kernel
theorem dX9_kindBy_62 : decode cX9_kindBy 62 = .ok (.iconst (-1), 1) := by decide +kernel
theorem dX9_kindBy_63 : decode cX9_kindBy 63 = .ok (.ireturn, 1) := by decide +kernel
theorem dX9_soundBy_0 : decode cX9_soundBy 0 = .ok (.iload_n 0, 1) := by decide +kernel
theorem dX9_soundBy_1 : decode cX9_soundBy 1 = .ok (.lookupswitch 104 #[(46, 83), (97, 85), (101, 87), (102, 101), (107, 95), (111, 89), (112, 91), (115, 98), (116, 93)], 83) := by decide +kernel
theorem dX9_soundBy_84 : decode cX9_soundBy 84 = .ok (.iconst 0, 1) := by decide +kernel
theorem dX9_soundBy_85 : decode cX9_soundBy 85 = .ok (.ireturn, 1) := by decide +kernel
theorem dX9_soundBy_86 : decode cX9_soundBy 86 = .ok (.iconst 1, 1) := by decide +kernel
theorem dX9_soundBy_87 : decode cX9_soundBy 87 = .ok (.ireturn, 1) := by decide +kernel
theorem dX9_soundBy_88 : decode cX9_soundBy 88 = .ok (.iconst 2, 1) := by decide +kernel
theorem dX9_soundBy_89 : decode cX9_soundBy 89 = .ok (.ireturn, 1) := by decide +kernel
theorem dX9_soundBy_90 : decode cX9_soundBy 90 = .ok (.iconst 3, 1) := by decide +kernel
theorem dX9_soundBy_91 : decode cX9_soundBy 91 = .ok (.ireturn, 1) := by decide +kernel
theorem dX9_soundBy_92 : decode cX9_soundBy 92 = .ok (.iconst 4, 1) := by decide +kernel
theorem dX9_soundBy_93 : decode cX9_soundBy 93 = .ok (.ireturn, 1) := by decide +kernel
theorem dX9_soundBy_94 : decode cX9_soundBy 94 = .ok (.iconst 5, 1) := by decide +kernel
theorem dX9_soundBy_95 : decode cX9_soundBy 95 = .ok (.ireturn, 1) := by decide +kernel
theorem dX9_soundBy_96 : decode cX9_soundBy 96 = .ok (.bipush 6, 2) := by decide +kernel
theorem dX9_soundBy_98 : decode cX9_soundBy 98 = .ok (.ireturn, 1) := by decide +kernel
theorem dX9_soundBy_99 : decode cX9_soundBy 99 = .ok (.bipush 7, 2) := by decide +kernel
theorem dX9_soundBy_101 : decode cX9_soundBy 101 = .ok (.ireturn, 1) := by decide +kernel
theorem dX9_soundBy_102 : decode cX9_soundBy 102 = .ok (.bipush 8, 2) := by decide +kernel
theorem dX9_soundBy_104 : decode cX9_soundBy 104 = .ok (.ireturn, 1) := by decide +kernel
theorem dX9_soundBy_105 : decode cX9_soundBy 105 = .ok (.iconst (-1), 1) := by decide +kernel
theorem dX9_soundBy_106 : decode cX9_soundBy 106 = .ok (.ireturn, 1) := by decide +kernel
theorem dX9_isWordWhole_0 : decode cX9_isWordWhole 0 = .ok (.aload_n 0, 1) := by decide +kernel
theorem dX9_isWordWhole_1 : decode cX9_isWordWhole 1 = .ok (.getfield 95, 3) := by decide +kernel
theorem dX9_isWordWhole_4 : decode cX9_isWordWhole 4 = .ok (.ifCond .le 26, 3) := by decide +kernel
theorem dX9_isWordWhole_7 : decode cX9_isWordWhole 7 = .ok (.aload_n 0, 1) := by decide +kernel
theorem dX9_isWordWhole_8 : decode cX9_isWordWhole 8 = .ok (.getfield 98, 3) := by decide +kernel
theorem dX9_isWordWhole_11 : decode cX9_isWordWhole 11 = .ok (.iconst 1, 1) := by decide +kernel
theorem dX9_isWordWhole_12 : decode cX9_isWordWhole 12 = .ok (.if_icmp .eq 14, 3) := by decide +kernel
theorem dX9_isWordWhole_15 : decode cX9_isWordWhole 15 = .ok (.aload_n 0, 1) := by decide +kernel
theorem dX9_isWordWhole_16 : decode cX9_isWordWhole 16 = .ok (.getfield 95, 3) := by decide +kernel
theorem dX9_isWordWhole_19 : decode cX9_isWordWhole 19 = .ok (.aload_n 0, 1) := by decide +kernel
theorem dX9_isWordWhole_20 : decode cX9_isWordWhole 20 = .ok (.getfield 101, 3) := by decide +kernel
theorem dX9_isWordWhole_23 : decode cX9_isWordWhole 23 = .ok (.if_icmp .ne 7, 3) := by decide +kernel
theorem dX9_isWordWhole_26 : decode cX9_isWordWhole 26 = .ok (.iconst 1, 1) := by decide +kernel
theorem dX9_isWordWhole_27 : decode cX9_isWordWhole 27 = .ok (.goto 4, 3) := by decide +kernel
theorem dX9_isWordWhole_30 : decode cX9_isWordWhole 30 = .ok (.iconst 0, 1) := by decide +kernel
theorem dX9_isWordWhole_31 : decode cX9_isWordWhole 31 = .ok (.ireturn, 1) := by decide +kernel
set_option maxRecDepth 20000 in
theorem ggX9_isSetWhole_X9_isWordWhole : GoodIn wsX9_isSetWhole wsX9_isWordWhole := goodIn_r _ [7, 8, 2, 9, 10, 11, 12, 13, 14, 15, 16, 17, 18, 19, 20, 21, 22, 23, 24, 25, 26, 27, 28, 29, 30, 31, 32, 33, 34, 35, 36, 37, 38, 39, 40, 41, 42, 43, 44, 45, 46, 47, 48, 49, 50] (by decide +kernel) (by decide +kernel)
set_option maxRecDepth 20000 in
theorem gX9_isSetWhole_X9_isWordWhole : GoodIn wsX9_isSetWhole (wsV RX9 104 RX9 yX9_isWordWhole wsX9_isWordWhole) := goodIn_app (goodIn_of _ (by decide +kernel)) ggX9_isSetWhole_X9_isWordWhole
theorem dX9_isSetWhole_0 : decode cX9_isSetWhole 0 = .ok (.aload_n 0, 1) := by decide +kernel
theorem dX9_isSetWhole_1 : decode cX9_isSetWhole 1 = .ok (.invokevirtual 104, 3) := by decide +kernel
theorem dX9_isSetWhole_4 : decode cX9_isSetWhole 4 = .ok (.ifCond .eq 36, 3) := by decide +kernel
theorem dX9_isSetWhole_7 : decode cX9_isSetWhole 7 = .ok (.aload_n 0, 1) := by decide +kernel
theorem dX9_isSetWhole_8 : decode cX9_isSetWhole 8 = .ok (.getfield 108, 3) := by decide +kernel
theorem dX9_isSetWhole_11 : decode cX9_isSetWhole 11 = .ok (.ifCond .ne 14, 3) := by decide +kernel
theorem dX9_isSetWhole_14 : decode cX9_isSetWhole 14 = .ok (.aload_n 0, 1) := by decide +kernel
theorem dX9_isSetWhole_15 : decode cX9_isSetWhole 15 = .ok (.getfield 98, 3) := by decide +kernel
theorem dX9_isSetWhole_18 : decode cX9_isSetWhole 18 = .ok (.iconst 1, 1) := by decide +kernel
theorem dX9_isSetWhole_19 : decode cX9_isSetWhole 19 = .ok (.if_icmp .le 21, 3) := by decide +kernel
theorem dX9_isSetWhole_22 : decode cX9_isSetWhole 22 = .ok (.goto 14, 3) := by decide +kernel
theorem dX9_isSetWhole_25 : decode cX9_isSetWhole 25 = .ok (.aload_n 0, 1) := by decide +kernel
theorem dX9_isSetWhole_26 : decode cX9_isSetWhole 26 = .ok (.getfield 98, 3) := by decide +kernel
theorem dX9_isSetWhole_29 : decode cX9_isSetWhole 29 = .ok (.aload_n 0, 1) := by decide +kernel
theorem dX9_isSetWhole_30 : decode cX9_isSetWhole 30 = .ok (.getfield 108, 3) := by decide +kernel
theorem dX9_isSetWhole_33 : decode cX9_isSetWhole 33 = .ok (.if_icmp .ne 7, 3) := by decide +kernel
theorem dX9_isSetWhole_36 : decode cX9_isSetWhole 36 = .ok (.iconst 1, 1) := by decide +kernel
theorem dX9_isSetWhole_37 : decode cX9_isSetWhole 37 = .ok (.goto 4, 3) := by decide +kernel
theorem dX9_isSetWhole_40 : decode cX9_isSetWhole 40 = .ok (.iconst 0, 1) := by decide +kernel
theorem dX9_isSetWhole_41 : decode cX9_isSetWhole 41 = .ok (.ireturn, 1) := by decide +kernel
set_option maxRecDepth 20000 in
theorem ggX9_isBegun_X9_kindBy : GoodIn wsX9_isBegun wsX9_kindBy := goodIn_r _ [9] (by decide +kernel) (by decide +kernel)
set_option maxRecDepth 20000 in
theorem gX9_isBegun_X9_kindBy : GoodIn wsX9_isBegun (va_wsS RX9 111 yX9_kindBy wsX9_kindBy) := goodIn_app (goodIn_of _ (by decide +kernel)) ggX9_isBegun_X9_kindBy
theorem dX9_isBegun_0 : decode cX9_isBegun 0 = .ok (.iload_n 1, 1) := by decide +kernel
theorem dX9_isBegun_1 : decode cX9_isBegun 1 = .ok (.invokestatic 111, 3) := by decide +kernel
theorem dX9_isBegun_4 : decode cX9_isBegun 4 = .ok (.iconst (-1), 1) := by decide +kernel
theorem dX9_isBegun_5 : decode cX9_isBegun 5 = .ok (.if_icmp .eq 11, 3) := by decide +kernel
theorem dX9_isBegun_8 : decode cX9_isBegun 8 = .ok (.aload_n 0, 1) := by decide +kernel
theorem dX9_isBegun_9 : decode cX9_isBegun 9 = .ok (.getfield 115, 3) := by decide +kernel
theorem dX9_isBegun_12 : decode cX9_isBegun 12 = .ok (.iconst 5, 1) := by decide +kernel
theorem dX9_isBegun_13 : decode cX9_isBegun 13 = .ok (.if_icmp .ne 5, 3) := by decide +kernel
theorem dX9_isBegun_16 : decode cX9_isBegun 16 = .ok (.iconst 0, 1) := by decide +kernel
theorem dX9_isBegun_17 : decode cX9_isBegun 17 = .ok (.ireturn, 1) := by decide +kernel
theorem dX9_isBegun_18 : decode cX9_isBegun 18 = .ok (.aload_n 0, 1) := by decide +kernel
theorem dX9_isBegun_19 : decode cX9_isBegun 19 = .ok (.getfield 13, 3) := by decide +kernel
theorem dX9_isBegun_22 : decode cX9_isBegun 22 = .ok (.aload_n 0, 1) := by decide +kernel
theorem dX9_isBegun_23 : decode cX9_isBegun 23 = .ok (.getfield 115, 3) := by decide +kernel
theorem dX9_isBegun_26 : decode cX9_isBegun 26 = .ok (.iload_n 1, 1) := by decide +kernel
theorem dX9_isBegun_27 : decode cX9_isBegun 27 = .ok (.invokestatic 111, 3) := by decide +kernel
theorem dX9_isBegun_30 : decode cX9_isBegun 30 = .ok (.iastore, 1) := by decide +kernel
theorem dX9_isBegun_31 : decode cX9_isBegun 31 = .ok (.aload_n 0, 1) := by decide +kernel
theorem dX9_isBegun_32 : decode cX9_isBegun 32 = .ok (.dup, 1) := by decide +kernel
theorem dX9_isBegun_33 : decode cX9_isBegun 33 = .ok (.getfield 115, 3) := by decide +kernel
theorem dX9_isBegun_36 : decode cX9_isBegun 36 = .ok (.iconst 1, 1) := by decide +kernel
theorem dX9_isBegun_37 : decode cX9_isBegun 37 = .ok (.iadd, 1) := by decide +kernel
theorem dX9_isBegun_38 : decode cX9_isBegun 38 = .ok (.putfield 115, 3) := by decide +kernel
theorem dX9_isBegun_41 : decode cX9_isBegun 41 = .ok (.aload_n 0, 1) := by decide +kernel
theorem dX9_isBegun_42 : decode cX9_isBegun 42 = .ok (.iconst 1, 1) := by decide +kernel
theorem dX9_isBegun_43 : decode cX9_isBegun 43 = .ok (.putfield 98, 3) := by decide +kernel
theorem dX9_isBegun_46 : decode cX9_isBegun 46 = .ok (.aload_n 0, 1) := by decide +kernel
theorem dX9_isBegun_47 : decode cX9_isBegun 47 = .ok (.iconst 0, 1) := by decide +kernel
theorem dX9_isBegun_48 : decode cX9_isBegun 48 = .ok (.putfield 95, 3) := by decide +kernel
theorem dX9_isBegun_51 : decode cX9_isBegun 51 = .ok (.aload_n 0, 1) := by decide +kernel
theorem dX9_isBegun_52 : decode cX9_isBegun 52 = .ok (.iconst 0, 1) := by decide +kernel
theorem dX9_isBegun_53 : decode cX9_isBegun 53 = .ok (.putfield 101, 3) := by decide +kernel
theorem dX9_isBegun_56 : decode cX9_isBegun 56 = .ok (.iconst 1, 1) := by decide +kernel
theorem dX9_isBegun_57 : decode cX9_isBegun 57 = .ok (.ireturn, 1) := by decide +kernel
set_option maxRecDepth 20000 in
theorem ggX9_isSlash_X9_isWordWhole : GoodIn wsX9_isSlash wsX9_isWordWhole := goodIn_r _ [9, 3, 1, 4, 10, 11, 12, 13, 14, 15, 16, 17, 18, 19, 20, 21, 22, 23, 24, 25, 26, 27, 28, 29, 30, 31, 32, 33, 34, 35, 36, 37, 38, 39, 40, 41, 42, 43, 44, 45, 46, 47, 48, 49, 50] (by decide +kernel) (by decide +kernel)
set_option maxRecDepth 20000 in
theorem gX9_isSlash_X9_isWordWhole : GoodIn wsX9_isSlash (wsV RX9 104 RX9 yX9_isWordWhole wsX9_isWordWhole) := goodIn_app (goodIn_of _ (by decide +kernel)) ggX9_isSlash_X9_isWordWhole
theorem dX9_isSlash_0 : decode cX9_isSlash 0 = .ok (.aload_n 0, 1) := by decide +kernel
theorem dX9_isSlash_1 : decode cX9_isSlash 1 = .ok (.invokevirtual 104, 3) := by decide +kernel
theorem dX9_isSlash_4 : decode cX9_isSlash 4 = .ok (.ifCond .eq 29, 3) := by decide +kernel
theorem dX9_isSlash_7 : decode cX9_isSlash 7 = .ok (.aload_n 0, 1) := by decide +kernel
theorem dX9_isSlash_8 : decode cX9_isSlash 8 = .ok (.getfield 98, 3) := by decide +kernel
theorem dX9_isSlash_11 : decode cX9_isSlash 11 = .ok (.aload_n 0, 1) := by decide +kernel
theorem dX9_isSlash_12 : decode cX9_isSlash 12 = .ok (.getfield 108, 3) := by decide +kernel
theorem dX9_isSlash_15 : decode cX9_isSlash 15 = .ok (.ifCond .ne 7, 3) := by decide +kernel
theorem dX9_isSlash_18 : decode cX9_isSlash 18 = .ok (.iconst 4, 1) := by decide +kernel
theorem dX9_isSlash_19 : decode cX9_isSlash 19 = .ok (.goto 7, 3) := by decide +kernel
theorem dX9_isSlash_22 : decode cX9_isSlash 22 = .ok (.aload_n 0, 1) := by decide +kernel
theorem dX9_isSlash_23 : decode cX9_isSlash 23 = .ok (.getfield 108, 3) := by decide +kernel
theorem dX9_isSlash_26 : decode cX9_isSlash 26 = .ok (.if_icmp .ge 7, 3) := by decide +kernel
theorem dX9_isSlash_29 : decode cX9_isSlash 29 = .ok (.iconst 1, 1) := by decide +kernel
theorem dX9_isSlash_30 : decode cX9_isSlash 30 = .ok (.goto 4, 3) := by decide +kernel
theorem dX9_isSlash_33 : decode cX9_isSlash 33 = .ok (.iconst 0, 1) := by decide +kernel
theorem dX9_isSlash_34 : decode cX9_isSlash 34 = .ok (.istore_n 1, 1) := by decide +kernel
theorem dX9_isSlash_35 : decode cX9_isSlash 35 = .ok (.aload_n 0, 1) := by decide +kernel
theorem dX9_isSlash_36 : decode cX9_isSlash 36 = .ok (.aload_n 0, 1) := by decide +kernel
theorem dX9_isSlash_37 : decode cX9_isSlash 37 = .ok (.getfield 98, 3) := by decide +kernel
theorem dX9_isSlash_40 : decode cX9_isSlash 40 = .ok (.iconst 1, 1) := by decide +kernel
theorem dX9_isSlash_41 : decode cX9_isSlash 41 = .ok (.if_icmp .ne 10, 3) := by decide +kernel
theorem dX9_isSlash_44 : decode cX9_isSlash 44 = .ok (.aload_n 0, 1) := by decide +kernel
theorem dX9_isSlash_45 : decode cX9_isSlash 45 = .ok (.getfield 95, 3) := by decide +kernel
theorem dX9_isSlash_48 : decode cX9_isSlash 48 = .ok (.goto 7, 3) := by decide +kernel
theorem dX9_isSlash_51 : decode cX9_isSlash 51 = .ok (.aload_n 0, 1) := by decide +kernel
theorem dX9_isSlash_52 : decode cX9_isSlash 52 = .ok (.getfield 101, 3) := by decide +kernel
theorem dX9_isSlash_55 : decode cX9_isSlash 55 = .ok (.putfield 101, 3) := by decide +kernel
theorem dX9_isSlash_58 : decode cX9_isSlash 58 = .ok (.aload_n 0, 1) := by decide +kernel
theorem dX9_isSlash_59 : decode cX9_isSlash 59 = .ok (.dup, 1) := by decide +kernel
theorem dX9_isSlash_60 : decode cX9_isSlash 60 = .ok (.getfield 98, 3) := by decide +kernel
theorem dX9_isSlash_63 : decode cX9_isSlash 63 = .ok (.iconst 1, 1) := by decide +kernel
theorem dX9_isSlash_64 : decode cX9_isSlash 64 = .ok (.iadd, 1) := by decide +kernel
theorem dX9_isSlash_65 : decode cX9_isSlash 65 = .ok (.putfield 98, 3) := by decide +kernel
theorem dX9_isSlash_68 : decode cX9_isSlash 68 = .ok (.aload_n 0, 1) := by decide +kernel
theorem dX9_isSlash_69 : decode cX9_isSlash 69 = .ok (.iconst 0, 1) := by decide +kernel
theorem dX9_isSlash_70 : decode cX9_isSlash 70 = .ok (.putfield 95, 3) := by decide +kernel
theorem dX9_isSlash_73 : decode cX9_isSlash 73 = .ok (.iload_n 1, 1) := by decide +kernel
theorem dX9_isSlash_74 : decode cX9_isSlash 74 = .ok (.ireturn, 1) := by decide +kernel
set_option maxRecDepth 20000 in
theorem ggX9_isComma_X9_isSetWhole : GoodIn wsX9_isComma wsX9_isSetWhole := goodIn_r _ [8, 2, 3, 9, 10, 11, 7, 12, 13, 14, 15, 16, 17, 18, 19, 20, 21, 22, 23, 24, 25, 26, 27, 28, 29, 30, 31, 32, 33, 34, 35, 36, 37, 38, 39, 40, 41, 42, 43, 44, 45, 46, 47, 48, 49, 50, 51, 52, 53, 54, 55] (by decide +kernel) (by decide +kernel)
set_option maxRecDepth 20000 in
theorem gX9_isComma_X9_isSetWhole : GoodIn wsX9_isComma (wsV RX9 118 RX9 yX9_isSetWhole wsX9_isSetWhole) := goodIn_app (goodIn_of _ (by decide +kernel)) ggX9_isComma_X9_isSetWhole
theorem dX9_isComma_0 : decode cX9_isComma 0 = .ok (.aload_n 0, 1) := by decide +kernel
theorem dX9_isComma_1 : decode cX9_isComma 1 = .ok (.invokevirtual 118, 3) := by decide +kernel
theorem dX9_isComma_4 : decode cX9_isComma 4 = .ok (.ifCond .eq 15, 3) := by decide +kernel
theorem dX9_isComma_7 : decode cX9_isComma 7 = .ok (.aload_n 0, 1) := by decide +kernel
theorem dX9_isComma_8 : decode cX9_isComma 8 = .ok (.getfield 115, 3) := by decide +kernel
theorem dX9_isComma_11 : decode cX9_isComma 11 = .ok (.iconst 5, 1) := by decide +kernel
theorem dX9_isComma_12 : decode cX9_isComma 12 = .ok (.if_icmp .ge 7, 3) := by decide +kernel
theorem dX9_isComma_15 : decode cX9_isComma 15 = .ok (.iconst 1, 1) := by decide +kernel
theorem dX9_isComma_16 : decode cX9_isComma 16 = .ok (.goto 4, 3) := by decide +kernel
theorem dX9_isComma_19 : decode cX9_isComma 19 = .ok (.iconst 0, 1) := by decide +kernel
theorem dX9_isComma_20 : decode cX9_isComma 20 = .ok (.istore_n 1, 1) := by decide +kernel
theorem dX9_isComma_21 : decode cX9_isComma 21 = .ok (.aload_n 0, 1) := by decide +kernel
theorem dX9_isComma_22 : decode cX9_isComma 22 = .ok (.aload_n 0, 1) := by decide +kernel
theorem dX9_isComma_23 : decode cX9_isComma 23 = .ok (.getfield 108, 3) := by decide +kernel
theorem dX9_isComma_26 : decode cX9_isComma 26 = .ok (.ifCond .ne 10, 3) := by decide +kernel
theorem dX9_isComma_29 : decode cX9_isComma 29 = .ok (.aload_n 0, 1) := by decide +kernel
theorem dX9_isComma_30 : decode cX9_isComma 30 = .ok (.getfield 98, 3) := by decide +kernel
theorem dX9_isComma_33 : decode cX9_isComma 33 = .ok (.goto 7, 3) := by decide +kernel
theorem dX9_isComma_36 : decode cX9_isComma 36 = .ok (.aload_n 0, 1) := by decide +kernel
theorem dX9_isComma_37 : decode cX9_isComma 37 = .ok (.getfield 108, 3) := by decide +kernel
theorem dX9_isComma_40 : decode cX9_isComma 40 = .ok (.putfield 108, 3) := by decide +kernel
theorem dX9_isComma_43 : decode cX9_isComma 43 = .ok (.aload_n 0, 1) := by decide +kernel
theorem dX9_isComma_44 : decode cX9_isComma 44 = .ok (.iconst (-1), 1) := by decide +kernel
theorem dX9_isComma_45 : decode cX9_isComma 45 = .ok (.putfield 98, 3) := by decide +kernel
theorem dX9_isComma_48 : decode cX9_isComma 48 = .ok (.iload_n 1, 1) := by decide +kernel
theorem dX9_isComma_49 : decode cX9_isComma 49 = .ok (.ireturn, 1) := by decide +kernel
set_option maxRecDepth 20000 in
theorem ggX9_isSound_X9_soundBy : GoodIn wsX9_isSound wsX9_soundBy := goodIn_r _ [10] (by decide +kernel) (by decide +kernel)
set_option maxRecDepth 20000 in
theorem gX9_isSound_X9_soundBy : GoodIn wsX9_isSound (va_wsS RX9 121 yX9_soundBy wsX9_soundBy) := goodIn_app (goodIn_of _ (by decide +kernel)) ggX9_isSound_X9_soundBy
theorem dX9_isSound_0 : decode cX9_isSound 0 = .ok (.iload_n 1, 1) := by decide +kernel
theorem dX9_isSound_1 : decode cX9_isSound 1 = .ok (.invokestatic 121, 3) := by decide +kernel
theorem dX9_isSound_4 : decode cX9_isSound 4 = .ok (.iconst (-1), 1) := by decide +kernel
theorem dX9_isSound_5 : decode cX9_isSound 5 = .ok (.if_icmp .eq 26, 3) := by decide +kernel
theorem dX9_isSound_8 : decode cX9_isSound 8 = .ok (.aload_n 0, 1) := by decide +kernel
theorem dX9_isSound_9 : decode cX9_isSound 9 = .ok (.getfield 95, 3) := by decide +kernel
theorem dX9_isSound_12 : decode cX9_isSound 12 = .ok (.aload_n 0, 1) := by decide +kernel
theorem dX9_isSound_13 : decode cX9_isSound 13 = .ok (.getfield 98, 3) := by decide +kernel
theorem dX9_isSound_16 : decode cX9_isSound 16 = .ok (.iconst 1, 1) := by decide +kernel
theorem dX9_isSound_17 : decode cX9_isSound 17 = .ok (.if_icmp .ne 7, 3) := by decide +kernel
theorem dX9_isSound_20 : decode cX9_isSound 20 = .ok (.iconst 4, 1) := by decide +kernel
theorem dX9_isSound_21 : decode cX9_isSound 21 = .ok (.goto 7, 3) := by decide +kernel
theorem dX9_isSound_24 : decode cX9_isSound 24 = .ok (.aload_n 0, 1) := by decide +kernel
theorem dX9_isSound_25 : decode cX9_isSound 25 = .ok (.getfield 101, 3) := by decide +kernel
theorem dX9_isSound_28 : decode cX9_isSound 28 = .ok (.if_icmp .ne 5, 3) := by decide +kernel
theorem dX9_isSound_31 : decode cX9_isSound 31 = .ok (.iconst 0, 1) := by decide +kernel
theorem dX9_isSound_32 : decode cX9_isSound 32 = .ok (.ireturn, 1) := by decide +kernel
theorem dX9_isSound_33 : decode cX9_isSound 33 = .ok (.aload_n 0, 1) := by decide +kernel
theorem dX9_isSound_34 : decode cX9_isSound 34 = .ok (.getfield 19, 3) := by decide +kernel
theorem dX9_isSound_37 : decode cX9_isSound 37 = .ok (.bipush 16, 2) := by decide +kernel
theorem dX9_isSound_39 : decode cX9_isSound 39 = .ok (.aload_n 0, 1) := by decide +kernel
theorem dX9_isSound_40 : decode cX9_isSound 40 = .ok (.getfield 115, 3) := by decide +kernel
theorem dX9_isSound_43 : decode cX9_isSound 43 = .ok (.iconst 1, 1) := by decide +kernel
theorem dX9_isSound_44 : decode cX9_isSound 44 = .ok (.isub, 1) := by decide +kernel
theorem dX9_isSound_45 : decode cX9_isSound 45 = .ok (.imul, 1) := by decide +kernel
theorem dX9_isSound_46 : decode cX9_isSound 46 = .ok (.iconst 4, 1) := by decide +kernel
theorem dX9_isSound_47 : decode cX9_isSound 47 = .ok (.aload_n 0, 1) := by decide +kernel
theorem dX9_isSound_48 : decode cX9_isSound 48 = .ok (.getfield 98, 3) := by decide +kernel
theorem dX9_isSound_51 : decode cX9_isSound 51 = .ok (.iconst 1, 1) := by decide +kernel
theorem dX9_isSound_52 : decode cX9_isSound 52 = .ok (.isub, 1) := by decide +kernel
theorem dX9_isSound_53 : decode cX9_isSound 53 = .ok (.imul, 1) := by decide +kernel
theorem dX9_isSound_54 : decode cX9_isSound 54 = .ok (.iadd, 1) := by decide +kernel
theorem dX9_isSound_55 : decode cX9_isSound 55 = .ok (.aload_n 0, 1) := by decide +kernel
theorem dX9_isSound_56 : decode cX9_isSound 56 = .ok (.getfield 95, 3) := by decide +kernel
theorem dX9_isSound_59 : decode cX9_isSound 59 = .ok (.iadd, 1) := by decide +kernel
theorem dX9_isSound_60 : decode cX9_isSound 60 = .ok (.iload_n 1, 1) := by decide +kernel
theorem dX9_isSound_61 : decode cX9_isSound 61 = .ok (.invokestatic 121, 3) := by decide +kernel
theorem dX9_isSound_64 : decode cX9_isSound 64 = .ok (.iastore, 1) := by decide +kernel
theorem dX9_isSound_65 : decode cX9_isSound 65 = .ok (.aload_n 0, 1) := by decide +kernel
theorem dX9_isSound_66 : decode cX9_isSound 66 = .ok (.dup, 1) := by decide +kernel
theorem dX9_isSound_67 : decode cX9_isSound 67 = .ok (.getfield 95, 3) := by decide +kernel
theorem dX9_isSound_70 : decode cX9_isSound 70 = .ok (.iconst 1, 1) := by decide +kernel
theorem dX9_isSound_71 : decode cX9_isSound 71 = .ok (.iadd, 1) := by decide +kernel
theorem dX9_isSound_72 : decode cX9_isSound 72 = .ok (.putfield 95, 3) := by decide +kernel
theorem dX9_isSound_75 : decode cX9_isSound 75 = .ok (.aload_n 0, 1) := by decide +kernel
theorem dX9_isSound_76 : decode cX9_isSound 76 = .ok (.getfield 16, 3) := by decide +kernel
theorem dX9_isSound_79 : decode cX9_isSound 79 = .ok (.aload_n 0, 1) := by decide +kernel
theorem dX9_isSound_80 : decode cX9_isSound 80 = .ok (.getfield 115, 3) := by decide +kernel
theorem dX9_isSound_83 : decode cX9_isSound 83 = .ok (.iconst 1, 1) := by decide +kernel
theorem dX9_isSound_84 : decode cX9_isSound 84 = .ok (.isub, 1) := by decide +kernel
theorem dX9_isSound_85 : decode cX9_isSound 85 = .ok (.aload_n 0, 1) := by decide +kernel
theorem dX9_isSound_86 : decode cX9_isSound 86 = .ok (.getfield 95, 3) := by decide +kernel
theorem dX9_isSound_89 : decode cX9_isSound 89 = .ok (.iastore, 1) := by decide +kernel
theorem dX9_isSound_90 : decode cX9_isSound 90 = .ok (.iconst 1, 1) := by decide +kernel
theorem dX9_isSound_91 : decode cX9_isSound 91 = .ok (.ireturn, 1) := by decide +kernel
set_option maxRecDepth 20000 in
theorem ggX9_isGood_X9_isBegun : GoodIn wsX9_isGood wsX9_isBegun := goodIn_r _ [6, 7, 8, 1, 9, 10, 11, 12, 5, 13, 40, 41, 42, 43, 44, 45, 46, 47, 48, 49, 50, 51, 52, 53, 54, 55, 56, 57, 58, 59, 60, 61, 62, 63, 64, 65, 66, 67, 68, 69, 70, 71, 72, 73, 74, 75, 76, 77, 78, 79, 80] (by decide +kernel) (by decide +kernel)
set_option maxRecDepth 20000 in
theorem gX9_isGood_X9_isBegun : GoodIn wsX9_isGood (wsV RX9 124 RX9 yX9_isBegun wsX9_isBegun) := goodIn_app (goodIn_of _ (by decide +kernel)) ggX9_isGood_X9_isBegun
set_option maxRecDepth 20000 in
theorem ggX9_isGood_X9_isSlash : GoodIn wsX9_isGood wsX9_isSlash := goodIn_r _ [17, 1, 18, 9, 10, 19, 20, 21, 5, 22, 40, 41, 42, 43, 44, 45, 46, 47, 48, 49, 50, 51, 52, 53, 54, 55, 56, 57, 58, 59, 60, 61, 62, 63, 64, 65, 66, 67, 68, 69, 70, 71, 72, 73, 74, 75, 76, 77, 78, 79, 80] (by decide +kernel) (by decide +kernel)
set_option maxRecDepth 20000 in
theorem gX9_isGood_X9_isSlash : GoodIn wsX9_isGood (wsV RX9 128 RX9 yX9_isSlash wsX9_isSlash) := goodIn_app (goodIn_of _ (by decide +kernel)) ggX9_isGood_X9_isSlash
set_option maxRecDepth 20000 in
theorem ggX9_isGood_X9_isComma : GoodIn wsX9_isGood wsX9_isComma := goodIn_r _ [26, 7, 18, 1, 27, 28, 29, 5, 30, 19, 20, 21, 22, 9, 10, 40, 41, 42, 43, 44, 45, 46, 47, 48, 49, 50, 51, 52, 53, 54, 55, 56, 57, 58, 59, 60, 61, 62, 63, 64, 65, 66, 67, 68, 69, 70, 71, 72, 73, 74, 75, 76, 77, 78, 79, 80] (by decide +kernel) (by decide +kernel)
set_option maxRecDepth 20000 in
theorem gX9_isGood_X9_isComma : GoodIn wsX9_isGood (wsV RX9 131 RX9 yX9_isComma wsX9_isComma) := goodIn_app (goodIn_of _ (by decide +kernel)) ggX9_isGood_X9_isComma
set_option maxRecDepth 20000 in
theorem ggX9_isGood_X9_isSound : GoodIn wsX9_isGood wsX9_isSound := goodIn_r _ [34, 9, 1, 10, 35, 7, 36, 37, 38, 5, 39, 40, 41, 42, 43, 44, 45, 46, 47, 48, 49, 50, 51, 52, 53, 54, 55, 56, 57, 58, 59, 60, 61, 62, 63, 64, 65, 66, 67, 68, 69, 70, 71, 72, 73, 74, 75, 76, 77, 78, 79, 80] (by decide +kernel) (by decide +kernel)
set_option maxRecDepth 20000 in
theorem gX9_isGood_X9_isSound : GoodIn wsX9_isGood (wsV RX9 134 RX9 yX9_isSound wsX9_isSound) := goodIn_app (goodIn_of _ (by decide +kernel)) ggX9_isGood_X9_isSound
theorem dX9_isGood_0 : decode cX9_isGood 0 = .ok (.aload_n 0, 1) := by decide +kernel
theorem dX9_isGood_1 : decode cX9_isGood 1 = .ok (.getfield 98, 3) := by decide +kernel
theorem dX9_isGood_4 : decode cX9_isGood 4 = .ok (.iconst (-1), 1) := by decide +kernel
theorem dX9_isGood_5 : decode cX9_isGood 5 = .ok (.if_icmp .ne 9, 3) := by decide +kernel
theorem dX9_isGood_8 : decode cX9_isGood 8 = .ok (.aload_n 0, 1) := by decide +kernel
theorem dX9_isGood_9 : decode cX9_isGood 9 = .ok (.iload_n 1, 1) := by decide +kernel
theorem dX9_isGood_10 : decode cX9_isGood 10 = .ok (.invokevirtual 124, 3) := by decide +kernel
theorem dX9_isGood_13 : decode cX9_isGood 13 = .ok (.ireturn, 1) := by decide +kernel
theorem dX9_isGood_14 : decode cX9_isGood 14 = .ok (.iload_n 1, 1) := by decide +kernel
theorem dX9_isGood_15 : decode cX9_isGood 15 = .ok (.bipush 47, 2) := by decide +kernel
theorem dX9_isGood_17 : decode cX9_isGood 17 = .ok (.if_icmp .ne 10, 3) := by decide +kernel
theorem dX9_isGood_20 : decode cX9_isGood 20 = .ok (.aload_n 0, 1) := by decide +kernel
theorem dX9_isGood_21 : decode cX9_isGood 21 = .ok (.invokevirtual 128, 3) := by decide +kernel
theorem dX9_isGood_24 : decode cX9_isGood 24 = .ok (.goto 21, 3) := by decide +kernel
theorem dX9_isGood_27 : decode cX9_isGood 27 = .ok (.iload_n 1, 1) := by decide +kernel
theorem dX9_isGood_28 : decode cX9_isGood 28 = .ok (.bipush 44, 2) := by decide +kernel
theorem dX9_isGood_30 : decode cX9_isGood 30 = .ok (.if_icmp .ne 10, 3) := by decide +kernel
theorem dX9_isGood_33 : decode cX9_isGood 33 = .ok (.aload_n 0, 1) := by decide +kernel
theorem dX9_isGood_34 : decode cX9_isGood 34 = .ok (.invokevirtual 131, 3) := by decide +kernel
theorem dX9_isGood_37 : decode cX9_isGood 37 = .ok (.goto 8, 3) := by decide +kernel
theorem dX9_isGood_40 : decode cX9_isGood 40 = .ok (.aload_n 0, 1) := by decide +kernel
theorem dX9_isGood_41 : decode cX9_isGood 41 = .ok (.iload_n 1, 1) := by decide +kernel
theorem dX9_isGood_42 : decode cX9_isGood 42 = .ok (.invokevirtual 134, 3) := by decide +kernel
theorem dX9_isGood_45 : decode cX9_isGood 45 = .ok (.ireturn, 1) := by decide +kernel
set_option maxRecDepth 20000 in
theorem ggX9_faultOf_X9_isGood : GoodIn wsX9_faultOf wsX9_isGood := goodIn_r _ [10, 2, 11, 12, 13, 9, 14, 1, 15, 16, 17, 18, 19, 20, 21, 22, 23, 24, 3, 25, 26, 27, 28, 29, 30, 31, 32, 33, 34, 35, 36, 37, 38, 39, 40, 41, 42, 43, 44, 45, 46, 47, 48, 49, 50, 51, 52, 53, 54, 55, 56, 57, 58, 59, 60, 61, 62, 63, 64, 65, 66, 67, 68, 69, 70, 71, 72, 73, 74, 75, 76, 77, 78, 79, 80, 81, 82, 83, 84, 85, 86] (by decide +kernel) (by decide +kernel)
set_option maxRecDepth 20000 in
theorem gX9_faultOf_X9_isGood : GoodIn wsX9_faultOf (wsV RX9 137 RX9 yX9_isGood wsX9_isGood) := goodIn_app (goodIn_of _ (by decide +kernel)) ggX9_faultOf_X9_isGood
theorem dX9_faultOf_0 : decode cX9_faultOf 0 = .ok (.aload_n 0, 1) := by decide +kernel
theorem dX9_faultOf_1 : decode cX9_faultOf 1 = .ok (.iconst 0, 1) := by decide +kernel
theorem dX9_faultOf_2 : decode cX9_faultOf 2 = .ok (.putfield 115, 3) := by decide +kernel
theorem dX9_faultOf_5 : decode cX9_faultOf 5 = .ok (.aload_n 0, 1) := by decide +kernel
theorem dX9_faultOf_6 : decode cX9_faultOf 6 = .ok (.iconst (-1), 1) := by decide +kernel
theorem dX9_faultOf_7 : decode cX9_faultOf 7 = .ok (.putfield 98, 3) := by decide +kernel
theorem dX9_faultOf_10 : decode cX9_faultOf 10 = .ok (.aload_n 0, 1) := by decide +kernel
theorem dX9_faultOf_11 : decode cX9_faultOf 11 = .ok (.iconst 0, 1) := by decide +kernel
theorem dX9_faultOf_12 : decode cX9_faultOf 12 = .ok (.putfield 108, 3) := by decide +kernel
theorem dX9_faultOf_15 : decode cX9_faultOf 15 = .ok (.iconst 0, 1) := by decide +kernel
theorem dX9_faultOf_16 : decode cX9_faultOf 16 = .ok (.istore_n 1, 1) := by decide +kernel
theorem dX9_faultOf_17 : decode cX9_faultOf 17 = .ok (.iload_n 1, 1) := by decide +kernel
theorem dX9_faultOf_18 : decode cX9_faultOf 18 = .ok (.aload_n 0, 1) := by decide +kernel
theorem dX9_faultOf_19 : decode cX9_faultOf 19 = .ok (.getfield 92, 3) := by decide +kernel
theorem dX9_faultOf_22 : decode cX9_faultOf 22 = .ok (.if_icmp .ge 22, 3) := by decide +kernel
theorem dX9_faultOf_25 : decode cX9_faultOf 25 = .ok (.aload_n 0, 1) := by decide +kernel
theorem dX9_faultOf_26 : decode cX9_faultOf 26 = .ok (.aload_n 0, 1) := by decide +kernel
theorem dX9_faultOf_27 : decode cX9_faultOf 27 = .ok (.getfield 7, 3) := by decide +kernel
theorem dX9_faultOf_30 : decode cX9_faultOf 30 = .ok (.iload_n 1, 1) := by decide +kernel
theorem dX9_faultOf_31 : decode cX9_faultOf 31 = .ok (.iaload, 1) := by decide +kernel
theorem dX9_faultOf_32 : decode cX9_faultOf 32 = .ok (.invokevirtual 137, 3) := by decide +kernel
theorem dX9_faultOf_35 : decode cX9_faultOf 35 = .ok (.ifCond .eq 9, 3) := by decide +kernel
theorem dX9_faultOf_38 : decode cX9_faultOf 38 = .ok (.iinc 1 1, 3) := by decide +kernel
theorem dX9_faultOf_41 : decode cX9_faultOf 41 = .ok (.goto (-24), 3) := by decide +kernel
theorem dX9_faultOf_44 : decode cX9_faultOf 44 = .ok (.iload_n 1, 1) := by decide +kernel
theorem dX9_faultOf_45 : decode cX9_faultOf 45 = .ok (.ireturn, 1) := by decide +kernel
set_option maxRecDepth 20000 in
theorem ggX9_fault_X9_faultOf : GoodIn wsX9_fault wsX9_faultOf := goodIn_r _ [5, 6, 7, 8, 9, 10, 11, 12, 13, 4, 14, 15, 16, 17, 18, 19, 20, 21, 22, 23, 24, 25, 26, 27, 28, 29, 30, 31, 32, 33, 34, 35, 36, 37, 38, 39, 40, 41, 42, 43, 44, 45, 46, 47, 48, 49, 50, 51, 52, 53, 54, 55, 56, 57, 58, 59, 60, 61, 62, 63, 64, 65, 66, 67, 68, 69, 70, 71, 72, 73, 74, 75, 76, 77, 78, 79, 80, 81, 82, 83, 84, 85, 86, 87, 88, 89, 90] (by decide +kernel) (by decide +kernel)
set_option maxRecDepth 20000 in
theorem gX9_fault_X9_faultOf : GoodIn wsX9_fault (wsV RX9 140 RX9 yX9_faultOf wsX9_faultOf) := goodIn_app (goodIn_of _ (by decide +kernel)) ggX9_fault_X9_faultOf
theorem dX9_fault_0 : decode cX9_fault 0 = .ok (.aload_n 0, 1) := by decide +kernel
theorem dX9_fault_1 : decode cX9_fault 1 = .ok (.invokevirtual 140, 3) := by decide +kernel
theorem dX9_fault_4 : decode cX9_fault 4 = .ok (.ireturn, 1) := by decide +kernel
theorem dX9_isMute_0 : decode cX9_isMute 0 = .ok (.iconst 0, 1) := by decide +kernel
theorem dX9_isMute_1 : decode cX9_isMute 1 = .ok (.istore_n 1, 1) := by decide +kernel
theorem dX9_isMute_2 : decode cX9_isMute 2 = .ok (.iconst 0, 1) := by decide +kernel
theorem dX9_isMute_3 : decode cX9_isMute 3 = .ok (.istore_n 2, 1) := by decide +kernel
theorem dX9_isMute_4 : decode cX9_isMute 4 = .ok (.iload_n 2, 1) := by decide +kernel
theorem dX9_isMute_5 : decode cX9_isMute 5 = .ok (.aload_n 0, 1) := by decide +kernel
theorem dX9_isMute_6 : decode cX9_isMute 6 = .ok (.getfield 115, 3) := by decide +kernel
theorem dX9_isMute_9 : decode cX9_isMute 9 = .ok (.if_icmp .ge 94, 3) := by decide +kernel
theorem dX9_isMute_12 : decode cX9_isMute 12 = .ok (.iconst 0, 1) := by decide +kernel
theorem dX9_isMute_13 : decode cX9_isMute 13 = .ok (.istore_n 3, 1) := by decide +kernel
theorem dX9_isMute_14 : decode cX9_isMute 14 = .ok (.iload_n 3, 1) := by decide +kernel
theorem dX9_isMute_15 : decode cX9_isMute 15 = .ok (.aload_n 0, 1) := by decide +kernel
theorem dX9_isMute_16 : decode cX9_isMute 16 = .ok (.getfield 98, 3) := by decide +kernel
theorem dX9_isMute_19 : decode cX9_isMute 19 = .ok (.if_icmp .ge 78, 3) := by decide +kernel
theorem dX9_isMute_22 : decode cX9_isMute 22 = .ok (.iconst 1, 1) := by decide +kernel
theorem dX9_isMute_23 : decode cX9_isMute 23 = .ok (.istore 4, 2) := by decide +kernel
theorem dX9_isMute_25 : decode cX9_isMute 25 = .ok (.iconst 0, 1) := by decide +kernel
theorem dX9_isMute_26 : decode cX9_isMute 26 = .ok (.istore 5, 2) := by decide +kernel
theorem dX9_isMute_28 : decode cX9_isMute 28 = .ok (.iload 5, 2) := by decide +kernel
theorem dX9_isMute_30 : decode cX9_isMute 30 = .ok (.aload_n 0, 1) := by decide +kernel
theorem dX9_isMute_31 : decode cX9_isMute 31 = .ok (.getfield 16, 3) := by decide +kernel
theorem dX9_isMute_34 : decode cX9_isMute 34 = .ok (.iload_n 2, 1) := by decide +kernel
theorem dX9_isMute_35 : decode cX9_isMute 35 = .ok (.iaload, 1) := by decide +kernel
theorem dX9_isMute_36 : decode cX9_isMute 36 = .ok (.if_icmp .ge 40, 3) := by decide +kernel
theorem dX9_isMute_39 : decode cX9_isMute 39 = .ok (.iload 4, 2) := by decide +kernel
theorem dX9_isMute_41 : decode cX9_isMute 41 = .ok (.ifCond .eq 26, 3) := by decide +kernel
theorem dX9_isMute_44 : decode cX9_isMute 44 = .ok (.aload_n 0, 1) := by decide +kernel
theorem dX9_isMute_45 : decode cX9_isMute 45 = .ok (.getfield 19, 3) := by decide +kernel
theorem dX9_isMute_48 : decode cX9_isMute 48 = .ok (.bipush 16, 2) := by decide +kernel
theorem dX9_isMute_50 : decode cX9_isMute 50 = .ok (.iload_n 2, 1) := by decide +kernel
theorem dX9_isMute_51 : decode cX9_isMute 51 = .ok (.imul, 1) := by decide +kernel
theorem dX9_isMute_52 : decode cX9_isMute 52 = .ok (.iconst 4, 1) := by decide +kernel
theorem dX9_isMute_53 : decode cX9_isMute 53 = .ok (.iload_n 3, 1) := by decide +kernel
theorem dX9_isMute_54 : decode cX9_isMute 54 = .ok (.imul, 1) := by decide +kernel
theorem dX9_isMute_55 : decode cX9_isMute 55 = .ok (.iadd, 1) := by decide +kernel
theorem dX9_isMute_56 : decode cX9_isMute 56 = .ok (.iload 5, 2) := by decide +kernel
theorem dX9_isMute_58 : decode cX9_isMute 58 = .ok (.iadd, 1) := by decide +kernel
theorem dX9_isMute_59 : decode cX9_isMute 59 = .ok (.iaload, 1) := by decide +kernel
theorem dX9_isMute_60 : decode cX9_isMute 60 = .ok (.ifCond .ne 7, 3) := by decide +kernel
theorem dX9_isMute_63 : decode cX9_isMute 63 = .ok (.iconst 1, 1) := by decide +kernel
theorem dX9_isMute_64 : decode cX9_isMute 64 = .ok (.goto 4, 3) := by decide +kernel
theorem dX9_isMute_67 : decode cX9_isMute 67 = .ok (.iconst 0, 1) := by decide +kernel
theorem dX9_isMute_68 : decode cX9_isMute 68 = .ok (.istore 4, 2) := by decide +kernel
theorem dX9_isMute_70 : decode cX9_isMute 70 = .ok (.iinc 5 1, 3) := by decide +kernel
theorem dX9_isMute_73 : decode cX9_isMute 73 = .ok (.goto (-45), 3) := by decide +kernel
theorem dX9_isMute_76 : decode cX9_isMute 76 = .ok (.iload_n 1, 1) := by decide +kernel
theorem dX9_isMute_77 : decode cX9_isMute 77 = .ok (.ifCond .ne 8, 3) := by decide +kernel
theorem dX9_isMute_80 : decode cX9_isMute 80 = .ok (.iload 4, 2) := by decide +kernel
theorem dX9_isMute_82 : decode cX9_isMute 82 = .ok (.ifCond .eq 7, 3) := by decide +kernel
theorem dX9_isMute_85 : decode cX9_isMute 85 = .ok (.iconst 1, 1) := by decide +kernel
theorem dX9_isMute_86 : decode cX9_isMute 86 = .ok (.goto 4, 3) := by decide +kernel
theorem dX9_isMute_89 : decode cX9_isMute 89 = .ok (.iconst 0, 1) := by decide +kernel
theorem dX9_isMute_90 : decode cX9_isMute 90 = .ok (.istore_n 1, 1) := by decide +kernel
theorem dX9_isMute_91 : decode cX9_isMute 91 = .ok (.iinc 3 1, 3) := by decide +kernel
theorem dX9_isMute_94 : decode cX9_isMute 94 = .ok (.goto (-80), 3) := by decide +kernel
theorem dX9_isMute_97 : decode cX9_isMute 97 = .ok (.iinc 2 1, 3) := by decide +kernel
theorem dX9_isMute_100 : decode cX9_isMute 100 = .ok (.goto (-96), 3) := by decide +kernel
theorem dX9_isMute_103 : decode cX9_isMute 103 = .ok (.iload_n 1, 1) := by decide +kernel
theorem dX9_isMute_104 : decode cX9_isMute 104 = .ok (.ireturn, 1) := by decide +kernel
set_option maxRecDepth 20000 in
theorem ggX9_sets_X9_faultOf : GoodIn wsX9_sets wsX9_faultOf := goodIn_r _ [19, 3, 2, 20, 1, 21, 22, 23, 24, 18, 25, 26, 27, 28, 29, 7, 30, 31, 32, 33, 34, 35, 36, 37, 38, 39, 40, 41, 42, 43, 44, 45, 46, 47, 48, 49, 50, 51, 52, 53, 54, 11, 9, 55, 56, 57, 62, 63, 64, 65, 66, 67, 68, 69, 70, 71, 72, 73, 74, 75, 76, 77, 78, 79, 80, 81, 82, 83, 84, 85, 86, 87, 88, 89, 90, 91, 92, 93, 94, 95, 96, 97, 98, 99, 100, 101, 102] (by decide +kernel) (by decide +kernel)
set_option maxRecDepth 20000 in
theorem gX9_sets_X9_faultOf : GoodIn wsX9_sets (wsV RX9 140 RX9 yX9_faultOf wsX9_faultOf) := goodIn_app (goodIn_of _ (by decide +kernel)) ggX9_sets_X9_faultOf
set_option maxRecDepth 20000 in
theorem ggX9_sets_X9_isSetWhole : GoodIn wsX9_sets wsX9_isSetWhole := goodIn_r _ [50, 20, 2, 39, 40, 41, 18, 42, 30, 31, 62, 63, 64, 65, 66, 67, 68, 69, 70, 71, 72, 73, 74, 75, 76, 77, 78, 79, 80, 81, 82, 83, 84, 85, 86, 87, 88, 89, 90, 91, 92, 93, 94, 95, 96, 97, 98, 99, 100, 101, 102] (by decide +kernel) (by decide +kernel)
set_option maxRecDepth 20000 in
theorem gX9_sets_X9_isSetWhole : GoodIn wsX9_sets (wsV RX9 118 RX9 yX9_isSetWhole wsX9_isSetWhole) := goodIn_app (goodIn_of _ (by decide +kernel)) ggX9_sets_X9_isSetWhole
set_option maxRecDepth 20000 in
theorem ggX9_sets_X9_isMute : GoodIn wsX9_sets wsX9_isMute := goodIn_r _ [61, 3, 2, 9, 11, 62, 63, 64, 65, 66, 67, 68, 69, 70, 71, 72, 73, 74, 75, 76, 77, 78, 79, 80, 81, 82, 83, 84, 85, 86, 87, 88, 89, 90, 91, 92, 93, 94, 95, 96, 97, 98, 99, 100, 101, 102] (by decide +kernel) (by decide +kernel)
set_option maxRecDepth 20000 in
theorem gX9_sets_X9_isMute : GoodIn wsX9_sets (wsV RX9 144 RX9 yX9_isMute wsX9_isMute) := goodIn_app (goodIn_of _ (by decide +kernel)) ggX9_sets_X9_isMute
theorem dX9_sets_0 : decode cX9_sets 0 = .ok (.aload_n 0, 1) := by decide +kernel
theorem dX9_sets_1 : decode cX9_sets 1 = .ok (.invokevirtual 140, 3) := by decide +kernel
theorem dX9_sets_4 : decode cX9_sets 4 = .ok (.aload_n 0, 1) := by decide +kernel
theorem dX9_sets_5 : decode cX9_sets 5 = .ok (.getfield 92, 3) := by decide +kernel
theorem dX9_sets_8 : decode cX9_sets 8 = .ok (.if_icmp .lt 25, 3) := by decide +kernel
theorem dX9_sets_11 : decode cX9_sets 11 = .ok (.aload_n 0, 1) := by decide +kernel
theorem dX9_sets_12 : decode cX9_sets 12 = .ok (.getfield 98, 3) := by decide +kernel
theorem dX9_sets_15 : decode cX9_sets 15 = .ok (.iconst (-1), 1) := by decide +kernel
theorem dX9_sets_16 : decode cX9_sets 16 = .ok (.if_icmp .eq 17, 3) := by decide +kernel
theorem dX9_sets_19 : decode cX9_sets 19 = .ok (.aload_n 0, 1) := by decide +kernel
theorem dX9_sets_20 : decode cX9_sets 20 = .ok (.invokevirtual 118, 3) := by decide +kernel
theorem dX9_sets_23 : decode cX9_sets 23 = .ok (.ifCond .eq 10, 3) := by decide +kernel
theorem dX9_sets_26 : decode cX9_sets 26 = .ok (.aload_n 0, 1) := by decide +kernel
theorem dX9_sets_27 : decode cX9_sets 27 = .ok (.invokevirtual 144, 3) := by decide +kernel
theorem dX9_sets_30 : decode cX9_sets 30 = .ok (.ifCond .eq 6, 3) := by decide +kernel
theorem dX9_sets_33 : decode cX9_sets 33 = .ok (.bipush (-103), 2) := by decide +kernel
theorem dX9_sets_35 : decode cX9_sets 35 = .ok (.ireturn, 1) := by decide +kernel
theorem dX9_sets_36 : decode cX9_sets 36 = .ok (.aload_n 0, 1) := by decide +kernel
theorem dX9_sets_37 : decode cX9_sets 37 = .ok (.aload_n 0, 1) := by decide +kernel
theorem dX9_sets_38 : decode cX9_sets 38 = .ok (.getfield 115, 3) := by decide +kernel
theorem dX9_sets_41 : decode cX9_sets 41 = .ok (.putfield 147, 3) := by decide +kernel
theorem dX9_sets_44 : decode cX9_sets 44 = .ok (.aload_n 0, 1) := by decide +kernel
theorem dX9_sets_45 : decode cX9_sets 45 = .ok (.aload_n 0, 1) := by decide +kernel
theorem dX9_sets_46 : decode cX9_sets 46 = .ok (.getfield 98, 3) := by decide +kernel
theorem dX9_sets_49 : decode cX9_sets 49 = .ok (.putfield 150, 3) := by decide +kernel
theorem dX9_sets_52 : decode cX9_sets 52 = .ok (.iconst 0, 1) := by decide +kernel
theorem dX9_sets_53 : decode cX9_sets 53 = .ok (.istore_n 1, 1) := by decide +kernel
theorem dX9_sets_54 : decode cX9_sets 54 = .ok (.iload_n 1, 1) := by decide +kernel
theorem dX9_sets_55 : decode cX9_sets 55 = .ok (.aload_n 0, 1) := by decide +kernel
theorem dX9_sets_56 : decode cX9_sets 56 = .ok (.getfield 147, 3) := by decide +kernel
theorem dX9_sets_59 : decode cX9_sets 59 = .ok (.if_icmp .ge 33, 3) := by decide +kernel
theorem dX9_sets_62 : decode cX9_sets 62 = .ok (.aload_n 0, 1) := by decide +kernel
theorem dX9_sets_63 : decode cX9_sets 63 = .ok (.getfield 22, 3) := by decide +kernel
theorem dX9_sets_66 : decode cX9_sets 66 = .ok (.iload_n 1, 1) := by decide +kernel
theorem dX9_sets_67 : decode cX9_sets 67 = .ok (.aload_n 0, 1) := by decide +kernel
theorem dX9_sets_68 : decode cX9_sets 68 = .ok (.getfield 13, 3) := by decide +kernel
theorem dX9_sets_71 : decode cX9_sets 71 = .ok (.iload_n 1, 1) := by decide +kernel
theorem dX9_sets_72 : decode cX9_sets 72 = .ok (.iaload, 1) := by decide +kernel
theorem dX9_sets_73 : decode cX9_sets 73 = .ok (.iastore, 1) := by decide +kernel
theorem dX9_sets_74 : decode cX9_sets 74 = .ok (.aload_n 0, 1) := by decide +kernel
theorem dX9_sets_75 : decode cX9_sets 75 = .ok (.getfield 25, 3) := by decide +kernel
theorem dX9_sets_78 : decode cX9_sets 78 = .ok (.iload_n 1, 1) := by decide +kernel
theorem dX9_sets_79 : decode cX9_sets 79 = .ok (.aload_n 0, 1) := by decide +kernel
theorem dX9_sets_80 : decode cX9_sets 80 = .ok (.getfield 16, 3) := by decide +kernel
theorem dX9_sets_83 : decode cX9_sets 83 = .ok (.iload_n 1, 1) := by decide +kernel
theorem dX9_sets_84 : decode cX9_sets 84 = .ok (.iaload, 1) := by decide +kernel
theorem dX9_sets_85 : decode cX9_sets 85 = .ok (.iastore, 1) := by decide +kernel
theorem dX9_sets_86 : decode cX9_sets 86 = .ok (.iinc 1 1, 3) := by decide +kernel
theorem dX9_sets_89 : decode cX9_sets 89 = .ok (.goto (-35), 3) := by decide +kernel
theorem dX9_sets_92 : decode cX9_sets 92 = .ok (.iconst 0, 1) := by decide +kernel
theorem dX9_sets_93 : decode cX9_sets 93 = .ok (.istore_n 1, 1) := by decide +kernel
theorem dX9_sets_94 : decode cX9_sets 94 = .ok (.iload_n 1, 1) := by decide +kernel
theorem dX9_sets_95 : decode cX9_sets 95 = .ok (.bipush 80, 2) := by decide +kernel
theorem dX9_sets_97 : decode cX9_sets 97 = .ok (.if_icmp .ge 21, 3) := by decide +kernel
theorem dX9_sets_100 : decode cX9_sets 100 = .ok (.aload_n 0, 1) := by decide +kernel
theorem dX9_sets_101 : decode cX9_sets 101 = .ok (.getfield 28, 3) := by decide +kernel
theorem dX9_sets_104 : decode cX9_sets 104 = .ok (.iload_n 1, 1) := by decide +kernel
theorem dX9_sets_105 : decode cX9_sets 105 = .ok (.aload_n 0, 1) := by decide +kernel
theorem dX9_sets_106 : decode cX9_sets 106 = .ok (.getfield 19, 3) := by decide +kernel
theorem dX9_sets_109 : decode cX9_sets 109 = .ok (.iload_n 1, 1) := by decide +kernel
theorem dX9_sets_110 : decode cX9_sets 110 = .ok (.iaload, 1) := by decide +kernel
theorem dX9_sets_111 : decode cX9_sets 111 = .ok (.iastore, 1) := by decide +kernel
theorem dX9_sets_112 : decode cX9_sets 112 = .ok (.iinc 1 1, 3) := by decide +kernel
theorem dX9_sets_115 : decode cX9_sets 115 = .ok (.goto (-21), 3) := by decide +kernel
theorem dX9_sets_118 : decode cX9_sets 118 = .ok (.aload_n 0, 1) := by decide +kernel
theorem dX9_sets_119 : decode cX9_sets 119 = .ok (.iconst 1, 1) := by decide +kernel
theorem dX9_sets_120 : decode cX9_sets 120 = .ok (.putfield 153, 3) := by decide +kernel
theorem dX9_sets_123 : decode cX9_sets 123 = .ok (.aload_n 0, 1) := by decide +kernel
theorem dX9_sets_124 : decode cX9_sets 124 = .ok (.iconst 0, 1) := by decide +kernel
theorem dX9_sets_125 : decode cX9_sets 125 = .ok (.putfield 157, 3) := by decide +kernel
theorem dX9_sets_128 : decode cX9_sets 128 = .ok (.aload_n 0, 1) := by decide +kernel
theorem dX9_sets_129 : decode cX9_sets 129 = .ok (.dup, 1) := by decide +kernel
theorem dX9_sets_130 : decode cX9_sets 130 = .ok (.getfield 160, 3) := by decide +kernel
theorem dX9_sets_133 : decode cX9_sets 133 = .ok (.iconst 1, 1) := by decide +kernel
theorem dX9_sets_134 : decode cX9_sets 134 = .ok (.iadd, 1) := by decide +kernel
theorem dX9_sets_135 : decode cX9_sets 135 = .ok (.putfield 160, 3) := by decide +kernel
theorem dX9_sets_138 : decode cX9_sets 138 = .ok (.aload_n 0, 1) := by decide +kernel
theorem dX9_sets_139 : decode cX9_sets 139 = .ok (.iconst 0, 1) := by decide +kernel
theorem dX9_sets_140 : decode cX9_sets 140 = .ok (.putfield 92, 3) := by decide +kernel
theorem dX9_sets_143 : decode cX9_sets 143 = .ok (.aload_n 0, 1) := by decide +kernel
theorem dX9_sets_144 : decode cX9_sets 144 = .ok (.getfield 147, 3) := by decide +kernel
theorem dX9_sets_147 : decode cX9_sets 147 = .ok (.ireturn, 1) := by decide +kernel
theorem dX9_lacks_0 : decode cX9_lacks 0 = .ok (.aload_n 0, 1) := by decide +kernel
theorem dX9_lacks_1 : decode cX9_lacks 1 = .ok (.getfield 147, 3) := by decide +kernel
theorem dX9_lacks_4 : decode cX9_lacks 4 = .ok (.ifCond .ne 7, 3) := by decide +kernel
theorem dX9_lacks_7 : decode cX9_lacks 7 = .ok (.iconst 1, 1) := by decide +kernel
theorem dX9_lacks_8 : decode cX9_lacks 8 = .ok (.goto 4, 3) := by decide +kernel
theorem dX9_lacks_11 : decode cX9_lacks 11 = .ok (.iconst 0, 1) := by decide +kernel
theorem dX9_lacks_12 : decode cX9_lacks 12 = .ok (.ireturn, 1) := by decide +kernel
set_option maxRecDepth 20000 in
theorem ggX9_isSet_X9_in : GoodIn wsX9_isSet wsX9_in := goodIn_r _ [5] (by decide +kernel) (by decide +kernel)
set_option maxRecDepth 20000 in
theorem gX9_isSet_X9_in : GoodIn wsX9_isSet (va_wsS RX9 88 yX9_in wsX9_in) := goodIn_app (goodIn_of _ (by decide +kernel)) ggX9_isSet_X9_in
theorem dX9_isSet_0 : decode cX9_isSet 0 = .ok (.iload_n 1, 1) := by decide +kernel
theorem dX9_isSet_1 : decode cX9_isSet 1 = .ok (.i2l, 1) := by decide +kernel
theorem dX9_isSet_2 : decode cX9_isSet 2 = .ok (.lconst 0, 1) := by decide +kernel
theorem dX9_isSet_3 : decode cX9_isSet 3 = .ok (.aload_n 0, 1) := by decide +kernel
theorem dX9_isSet_4 : decode cX9_isSet 4 = .ok (.getfield 147, 3) := by decide +kernel
theorem dX9_isSet_7 : decode cX9_isSet 7 = .ok (.iconst 1, 1) := by decide +kernel
theorem dX9_isSet_8 : decode cX9_isSet 8 = .ok (.isub, 1) := by decide +kernel
theorem dX9_isSet_9 : decode cX9_isSet 9 = .ok (.i2l, 1) := by decide +kernel
theorem dX9_isSet_10 : decode cX9_isSet 10 = .ok (.invokestatic 88, 3) := by decide +kernel
theorem dX9_isSet_13 : decode cX9_isSet 13 = .ok (.ireturn, 1) := by decide +kernel
set_option maxRecDepth 20000 in
theorem ggX9_isTongue_X9_in : GoodIn wsX9_isTongue wsX9_in := goodIn_r _ [5] (by decide +kernel) (by decide +kernel)
set_option maxRecDepth 20000 in
theorem gX9_isTongue_X9_in : GoodIn wsX9_isTongue (va_wsS RX9 88 yX9_in wsX9_in) := goodIn_app (goodIn_of _ (by decide +kernel)) ggX9_isTongue_X9_in
theorem dX9_isTongue_0 : decode cX9_isTongue 0 = .ok (.iload_n 1, 1) := by decide +kernel
theorem dX9_isTongue_1 : decode cX9_isTongue 1 = .ok (.i2l, 1) := by decide +kernel
theorem dX9_isTongue_2 : decode cX9_isTongue 2 = .ok (.lconst 0, 1) := by decide +kernel
theorem dX9_isTongue_3 : decode cX9_isTongue 3 = .ok (.aload_n 0, 1) := by decide +kernel
theorem dX9_isTongue_4 : decode cX9_isTongue 4 = .ok (.getfield 150, 3) := by decide +kernel
theorem dX9_isTongue_7 : decode cX9_isTongue 7 = .ok (.iconst 1, 1) := by decide +kernel
theorem dX9_isTongue_8 : decode cX9_isTongue 8 = .ok (.isub, 1) := by decide +kernel
theorem dX9_isTongue_9 : decode cX9_isTongue 9 = .ok (.i2l, 1) := by decide +kernel
theorem dX9_isTongue_10 : decode cX9_isTongue 10 = .ok (.invokestatic 88, 3) := by decide +kernel
theorem dX9_isTongue_13 : decode cX9_isTongue 13 = .ok (.ireturn, 1) := by decide +kernel
set_option maxRecDepth 20000 in
theorem ggX9_isPlace_X9_isSet : GoodIn wsX9_isPlace wsX9_isSet := goodIn_r _ [6, 7, 8, 9, 5, 10, 11, 12, 13, 14, 15, 16, 17, 18, 19, 20, 21, 22, 23, 24, 25, 26, 27, 28, 29, 30, 31, 32, 33, 34, 35, 36, 37, 38, 39, 40, 41, 42, 43, 44, 45, 46, 47, 48, 49, 50, 51] (by decide +kernel) (by decide +kernel)
set_option maxRecDepth 20000 in
theorem gX9_isPlace_X9_isSet : GoodIn wsX9_isPlace (wsV RX9 163 RX9 yX9_isSet wsX9_isSet) := goodIn_app (goodIn_of _ (by decide +kernel)) ggX9_isPlace_X9_isSet
set_option maxRecDepth 20000 in
theorem ggX9_isPlace_X9_in : GoodIn wsX9_isPlace wsX9_in := goodIn_r _ [10] (by decide +kernel) (by decide +kernel)
set_option maxRecDepth 20000 in
theorem gX9_isPlace_X9_in : GoodIn wsX9_isPlace (va_wsS RX9 88 yX9_in wsX9_in) := goodIn_app (goodIn_of _ (by decide +kernel)) ggX9_isPlace_X9_in
theorem dX9_isPlace_0 : decode cX9_isPlace 0 = .ok (.aload_n 0, 1) := by decide +kernel
theorem dX9_isPlace_1 : decode cX9_isPlace 1 = .ok (.iload_n 1, 1) := by decide +kernel
theorem dX9_isPlace_2 : decode cX9_isPlace 2 = .ok (.invokevirtual 163, 3) := by decide +kernel
theorem dX9_isPlace_5 : decode cX9_isPlace 5 = .ok (.ifCond .eq 25, 3) := by decide +kernel
theorem dX9_isPlace_8 : decode cX9_isPlace 8 = .ok (.iload_n 2, 1) := by decide +kernel
theorem dX9_isPlace_9 : decode cX9_isPlace 9 = .ok (.i2l, 1) := by decide +kernel
theorem dX9_isPlace_10 : decode cX9_isPlace 10 = .ok (.lconst 0, 1) := by decide +kernel
theorem dX9_isPlace_11 : decode cX9_isPlace 11 = .ok (.aload_n 0, 1) := by decide +kernel
theorem dX9_isPlace_12 : decode cX9_isPlace 12 = .ok (.getfield 25, 3) := by decide +kernel
theorem dX9_isPlace_15 : decode cX9_isPlace 15 = .ok (.iload_n 1, 1) := by decide +kernel
theorem dX9_isPlace_16 : decode cX9_isPlace 16 = .ok (.iaload, 1) := by decide +kernel
theorem dX9_isPlace_17 : decode cX9_isPlace 17 = .ok (.iconst 1, 1) := by decide +kernel
theorem dX9_isPlace_18 : decode cX9_isPlace 18 = .ok (.isub, 1) := by decide +kernel
theorem dX9_isPlace_19 : decode cX9_isPlace 19 = .ok (.i2l, 1) := by decide +kernel
theorem dX9_isPlace_20 : decode cX9_isPlace 20 = .ok (.invokestatic 88, 3) := by decide +kernel
theorem dX9_isPlace_23 : decode cX9_isPlace 23 = .ok (.ifCond .eq 7, 3) := by decide +kernel
theorem dX9_isPlace_26 : decode cX9_isPlace 26 = .ok (.iconst 1, 1) := by decide +kernel
theorem dX9_isPlace_27 : decode cX9_isPlace 27 = .ok (.goto 4, 3) := by decide +kernel
theorem dX9_isPlace_30 : decode cX9_isPlace 30 = .ok (.iconst 0, 1) := by decide +kernel
theorem dX9_isPlace_31 : decode cX9_isPlace 31 = .ok (.ireturn, 1) := by decide +kernel
set_option maxRecDepth 20000 in
theorem ggX9_isVowel_X9_in : GoodIn wsX9_isVowel wsX9_in := goodIn_r _ [5] (by decide +kernel) (by decide +kernel)
set_option maxRecDepth 20000 in
theorem gX9_isVowel_X9_in : GoodIn wsX9_isVowel (va_wsS RX9 88 yX9_in wsX9_in) := goodIn_app (goodIn_of _ (by decide +kernel)) ggX9_isVowel_X9_in
theorem dX9_isVowel_0 : decode cX9_isVowel 0 = .ok (.iload_n 0, 1) := by decide +kernel
theorem dX9_isVowel_1 : decode cX9_isVowel 1 = .ok (.i2l, 1) := by decide +kernel
theorem dX9_isVowel_2 : decode cX9_isVowel 2 = .ok (.lconst 1, 1) := by decide +kernel
theorem dX9_isVowel_3 : decode cX9_isVowel 3 = .ok (.ldc2_w 166, 3) := by decide +kernel
theorem dX9_isVowel_6 : decode cX9_isVowel 6 = .ok (.invokestatic 88, 3) := by decide +kernel
theorem dX9_isVowel_9 : decode cX9_isVowel 9 = .ok (.ireturn, 1) := by decide +kernel
set_option maxRecDepth 20000 in
theorem ggX9_costOf_X9_isVowel : GoodIn wsX9_costOf wsX9_isVowel := goodIn_r _ [4, 5, 6, 7, 3, 8] (by decide +kernel) (by decide +kernel)
set_option maxRecDepth 20000 in
theorem gX9_costOf_X9_isVowel : GoodIn wsX9_costOf (va_wsS RX9 168 yX9_isVowel wsX9_isVowel) := goodIn_app (goodIn_of _ (by decide +kernel)) ggX9_costOf_X9_isVowel
theorem dX9_costOf_0 : decode cX9_costOf 0 = .ok (.iload_n 0, 1) := by decide +kernel
theorem dX9_costOf_1 : decode cX9_costOf 1 = .ok (.iload_n 1, 1) := by decide +kernel
theorem dX9_costOf_2 : decode cX9_costOf 2 = .ok (.if_icmp .ne 7, 3) := by decide +kernel
theorem dX9_costOf_5 : decode cX9_costOf 5 = .ok (.iconst 0, 1) := by decide +kernel
theorem dX9_costOf_6 : decode cX9_costOf 6 = .ok (.goto 31, 3) := by decide +kernel
theorem dX9_costOf_9 : decode cX9_costOf 9 = .ok (.iload_n 0, 1) := by decide +kernel
theorem dX9_costOf_10 : decode cX9_costOf 10 = .ok (.ifCond .eq 7, 3) := by decide +kernel
theorem dX9_costOf_13 : decode cX9_costOf 13 = .ok (.iload_n 1, 1) := by decide +kernel
theorem dX9_costOf_14 : decode cX9_costOf 14 = .ok (.ifCond .ne 7, 3) := by decide +kernel
theorem dX9_costOf_17 : decode cX9_costOf 17 = .ok (.iconst 3, 1) := by decide +kernel
theorem dX9_costOf_18 : decode cX9_costOf 18 = .ok (.goto 19, 3) := by decide +kernel
theorem dX9_costOf_21 : decode cX9_costOf 21 = .ok (.iload_n 0, 1) := by decide +kernel
theorem dX9_costOf_22 : decode cX9_costOf 22 = .ok (.invokestatic 168, 3) := by decide +kernel
theorem dX9_costOf_25 : decode cX9_costOf 25 = .ok (.iload_n 1, 1) := by decide +kernel
theorem dX9_costOf_26 : decode cX9_costOf 26 = .ok (.invokestatic 168, 3) := by decide +kernel
theorem dX9_costOf_29 : decode cX9_costOf 29 = .ok (.if_icmp .ne 7, 3) := by decide +kernel
theorem dX9_costOf_32 : decode cX9_costOf 32 = .ok (.iconst 1, 1) := by decide +kernel
theorem dX9_costOf_33 : decode cX9_costOf 33 = .ok (.goto 4, 3) := by decide +kernel
theorem dX9_costOf_36 : decode cX9_costOf 36 = .ok (.iconst 2, 1) := by decide +kernel
theorem dX9_costOf_37 : decode cX9_costOf 37 = .ok (.ireturn, 1) := by decide +kernel
set_option maxRecDepth 20000 in
theorem ggX9_cost_X9_in : GoodIn wsX9_cost wsX9_in := goodIn_r _ [5] (by decide +kernel) (by decide +kernel)
set_option maxRecDepth 20000 in
theorem gX9_cost_X9_in : GoodIn wsX9_cost (va_wsS RX9 88 yX9_in wsX9_in) := goodIn_app (goodIn_of _ (by decide +kernel)) ggX9_cost_X9_in
set_option maxRecDepth 20000 in
theorem ggX9_cost_X9_costOf : GoodIn wsX9_cost wsX9_costOf := goodIn_r _ [8, 9, 10, 4, 11, 12, 2, 3, 5] (by decide +kernel) (by decide +kernel)
set_option maxRecDepth 20000 in
theorem gX9_cost_X9_costOf : GoodIn wsX9_cost (va_wsS RX9 173 yX9_costOf wsX9_costOf) := goodIn_app (goodIn_of _ (by decide +kernel)) ggX9_cost_X9_costOf
theorem dX9_cost_0 : decode cX9_cost 0 = .ok (.iload_n 1, 1) := by decide +kernel
theorem dX9_cost_1 : decode cX9_cost 1 = .ok (.i2l, 1) := by decide +kernel
theorem dX9_cost_2 : decode cX9_cost 2 = .ok (.lconst 0, 1) := by decide +kernel
theorem dX9_cost_3 : decode cX9_cost 3 = .ok (.ldc2_w 171, 3) := by decide +kernel
theorem dX9_cost_6 : decode cX9_cost 6 = .ok (.invokestatic 88, 3) := by decide +kernel
theorem dX9_cost_9 : decode cX9_cost 9 = .ok (.ifCond .eq 23, 3) := by decide +kernel
theorem dX9_cost_12 : decode cX9_cost 12 = .ok (.iload_n 2, 1) := by decide +kernel
theorem dX9_cost_13 : decode cX9_cost 13 = .ok (.i2l, 1) := by decide +kernel
theorem dX9_cost_14 : decode cX9_cost 14 = .ok (.lconst 0, 1) := by decide +kernel
theorem dX9_cost_15 : decode cX9_cost 15 = .ok (.ldc2_w 171, 3) := by decide +kernel
theorem dX9_cost_18 : decode cX9_cost 18 = .ok (.invokestatic 88, 3) := by decide +kernel
theorem dX9_cost_21 : decode cX9_cost 21 = .ok (.ifCond .eq 11, 3) := by decide +kernel
theorem dX9_cost_24 : decode cX9_cost 24 = .ok (.iload_n 1, 1) := by decide +kernel
theorem dX9_cost_25 : decode cX9_cost 25 = .ok (.iload_n 2, 1) := by decide +kernel
theorem dX9_cost_26 : decode cX9_cost 26 = .ok (.invokestatic 173, 3) := by decide +kernel
theorem dX9_cost_29 : decode cX9_cost 29 = .ok (.goto 5, 3) := by decide +kernel
theorem dX9_cost_32 : decode cX9_cost 32 = .ok (.bipush (-101), 2) := by decide +kernel
theorem dX9_cost_34 : decode cX9_cost 34 = .ok (.ireturn, 1) := by decide +kernel
theorem dX9_nodesBy_0 : decode cX9_nodesBy 0 = .ok (.iconst 2, 1) := by decide +kernel
theorem dX9_nodesBy_1 : decode cX9_nodesBy 1 = .ok (.iload_n 1, 1) := by decide +kernel
theorem dX9_nodesBy_2 : decode cX9_nodesBy 2 = .ok (.imul, 1) := by decide +kernel
theorem dX9_nodesBy_3 : decode cX9_nodesBy 3 = .ok (.iconst 1, 1) := by decide +kernel
theorem dX9_nodesBy_4 : decode cX9_nodesBy 4 = .ok (.isub, 1) := by decide +kernel
theorem dX9_nodesBy_5 : decode cX9_nodesBy 5 = .ok (.ireturn, 1) := by decide +kernel
theorem dX9_belowFirst_0 : decode cX9_belowFirst 0 = .ok (.iload_n 1, 1) := by decide +kernel
theorem dX9_belowFirst_1 : decode cX9_belowFirst 1 = .ok (.iload_n 0, 1) := by decide +kernel
theorem dX9_belowFirst_2 : decode cX9_belowFirst 2 = .ok (.if_icmp .ne 7, 3) := by decide +kernel
theorem dX9_belowFirst_5 : decode cX9_belowFirst 5 = .ok (.iconst 0, 1) := by decide +kernel
theorem dX9_belowFirst_6 : decode cX9_belowFirst 6 = .ok (.goto 22, 3) := by decide +kernel
theorem dX9_belowFirst_9 : decode cX9_belowFirst 9 = .ok (.iload_n 0, 1) := by decide +kernel
theorem dX9_belowFirst_10 : decode cX9_belowFirst 10 = .ok (.iconst 3, 1) := by decide +kernel
theorem dX9_belowFirst_11 : decode cX9_belowFirst 11 = .ok (.if_icmp .ne 7, 3) := by decide +kernel
theorem dX9_belowFirst_14 : decode cX9_belowFirst 14 = .ok (.iconst 3, 1) := by decide +kernel
theorem dX9_belowFirst_15 : decode cX9_belowFirst 15 = .ok (.goto 13, 3) := by decide +kernel
theorem dX9_belowFirst_18 : decode cX9_belowFirst 18 = .ok (.iload_n 1, 1) := by decide +kernel
theorem dX9_belowFirst_19 : decode cX9_belowFirst 19 = .ok (.iconst 5, 1) := by decide +kernel
theorem dX9_belowFirst_20 : decode cX9_belowFirst 20 = .ok (.if_icmp .ne 7, 3) := by decide +kernel
theorem dX9_belowFirst_23 : decode cX9_belowFirst 23 = .ok (.iconst 2, 1) := by decide +kernel
theorem dX9_belowFirst_24 : decode cX9_belowFirst 24 = .ok (.goto 4, 3) := by decide +kernel
theorem dX9_belowFirst_27 : decode cX9_belowFirst 27 = .ok (.iconst 4, 1) := by decide +kernel
theorem dX9_belowFirst_28 : decode cX9_belowFirst 28 = .ok (.ireturn, 1) := by decide +kernel
theorem dX9_belowSecond_0 : decode cX9_belowSecond 0 = .ok (.iload_n 1, 1) := by decide +kernel
theorem dX9_belowSecond_1 : decode cX9_belowSecond 1 = .ok (.iload_n 0, 1) := by decide +kernel
theorem dX9_belowSecond_2 : decode cX9_belowSecond 2 = .ok (.if_icmp .ne 7, 3) := by decide +kernel
theorem dX9_belowSecond_5 : decode cX9_belowSecond 5 = .ok (.iconst 1, 1) := by decide +kernel
theorem dX9_belowSecond_6 : decode cX9_belowSecond 6 = .ok (.goto 22, 3) := by decide +kernel
theorem dX9_belowSecond_9 : decode cX9_belowSecond 9 = .ok (.iload_n 0, 1) := by decide +kernel
theorem dX9_belowSecond_10 : decode cX9_belowSecond 10 = .ok (.iconst 3, 1) := by decide +kernel
theorem dX9_belowSecond_11 : decode cX9_belowSecond 11 = .ok (.if_icmp .ne 7, 3) := by decide +kernel
theorem dX9_belowSecond_14 : decode cX9_belowSecond 14 = .ok (.iconst 2, 1) := by decide +kernel
theorem dX9_belowSecond_15 : decode cX9_belowSecond 15 = .ok (.goto 13, 3) := by decide +kernel
theorem dX9_belowSecond_18 : decode cX9_belowSecond 18 = .ok (.iload_n 1, 1) := by decide +kernel
theorem dX9_belowSecond_19 : decode cX9_belowSecond 19 = .ok (.iconst 5, 1) := by decide +kernel
theorem dX9_belowSecond_20 : decode cX9_belowSecond 20 = .ok (.if_icmp .ne 7, 3) := by decide +kernel
theorem dX9_belowSecond_23 : decode cX9_belowSecond 23 = .ok (.iconst 3, 1) := by decide +kernel
theorem dX9_belowSecond_24 : decode cX9_belowSecond 24 = .ok (.goto 4, 3) := by decide +kernel
theorem dX9_belowSecond_27 : decode cX9_belowSecond 27 = .ok (.iconst 5, 1) := by decide +kernel
theorem dX9_belowSecond_28 : decode cX9_belowSecond 28 = .ok (.ireturn, 1) := by decide +kernel
set_option maxRecDepth 20000 in
theorem ggX9_least_X9_costOf : GoodIn wsX9_least wsX9_costOf := goodIn_r _ [5, 6, 7, 4, 8, 9, 10, 11, 12] (by decide +kernel) (by decide +kernel)
set_option maxRecDepth 20000 in
theorem gX9_least_X9_costOf : GoodIn wsX9_least (va_wsS RX9 173 yX9_costOf wsX9_costOf) := goodIn_app (goodIn_of _ (by decide +kernel)) ggX9_least_X9_costOf
theorem dX9_least_0 : decode cX9_least 0 = .ok (.sipush 9999, 3) := by decide +kernel
theorem dX9_least_3 : decode cX9_least 3 = .ok (.istore_n 3, 1) := by decide +kernel
theorem dX9_least_4 : decode cX9_least 4 = .ok (.iconst 0, 1) := by decide +kernel
theorem dX9_least_5 : decode cX9_least 5 = .ok (.istore 4, 2) := by decide +kernel
theorem dX9_least_7 : decode cX9_least 7 = .ok (.iload 4, 2) := by decide +kernel
theorem dX9_least_9 : decode cX9_least 9 = .ok (.bipush 9, 2) := by decide +kernel
theorem dX9_least_11 : decode cX9_least 11 = .ok (.if_icmp .ge 43, 3) := by decide +kernel
theorem dX9_least_14 : decode cX9_least 14 = .ok (.aload_n 0, 1) := by decide +kernel
theorem dX9_least_15 : decode cX9_least 15 = .ok (.getfield 31, 3) := by decide +kernel
theorem dX9_least_18 : decode cX9_least 18 = .ok (.bipush 9, 2) := by decide +kernel
theorem dX9_least_20 : decode cX9_least 20 = .ok (.iload_n 1, 1) := by decide +kernel
theorem dX9_least_21 : decode cX9_least 21 = .ok (.imul, 1) := by decide +kernel
theorem dX9_least_22 : decode cX9_least 22 = .ok (.iload 4, 2) := by decide +kernel
theorem dX9_least_24 : decode cX9_least 24 = .ok (.iadd, 1) := by decide +kernel
theorem dX9_least_25 : decode cX9_least 25 = .ok (.iaload, 1) := by decide +kernel
theorem dX9_least_26 : decode cX9_least 26 = .ok (.iload 4, 2) := by decide +kernel
theorem dX9_least_28 : decode cX9_least 28 = .ok (.iload_n 2, 1) := by decide +kernel
theorem dX9_least_29 : decode cX9_least 29 = .ok (.invokestatic 173, 3) := by decide +kernel
theorem dX9_least_32 : decode cX9_least 32 = .ok (.iadd, 1) := by decide +kernel
theorem dX9_least_33 : decode cX9_least 33 = .ok (.istore 5, 2) := by decide +kernel
theorem dX9_least_35 : decode cX9_least 35 = .ok (.iload 5, 2) := by decide +kernel
theorem dX9_least_37 : decode cX9_least 37 = .ok (.iload_n 3, 1) := by decide +kernel
theorem dX9_least_38 : decode cX9_least 38 = .ok (.if_icmp .ge 8, 3) := by decide +kernel
theorem dX9_least_41 : decode cX9_least 41 = .ok (.iload 5, 2) := by decide +kernel
theorem dX9_least_43 : decode cX9_least 43 = .ok (.goto 4, 3) := by decide +kernel
theorem dX9_least_46 : decode cX9_least 46 = .ok (.iload_n 3, 1) := by decide +kernel
theorem dX9_least_47 : decode cX9_least 47 = .ok (.istore_n 3, 1) := by decide +kernel
theorem dX9_least_48 : decode cX9_least 48 = .ok (.iinc 4 1, 3) := by decide +kernel
theorem dX9_least_51 : decode cX9_least 51 = .ok (.goto (-44), 3) := by decide +kernel
theorem dX9_least_54 : decode cX9_least 54 = .ok (.iload_n 3, 1) := by decide +kernel
theorem dX9_least_55 : decode cX9_least 55 = .ok (.ireturn, 1) := by decide +kernel
set_option maxRecDepth 20000 in
theorem ggX9_layCosts_X9_nodesBy : GoodIn wsX9_layCosts wsX9_nodesBy := goodIn_r _ [7] (by decide +kernel) (by decide +kernel)
set_option maxRecDepth 20000 in
theorem gX9_layCosts_X9_nodesBy : GoodIn wsX9_layCosts (wsV RX9 177 RX9 yX9_nodesBy wsX9_nodesBy) := goodIn_app (goodIn_of _ (by decide +kernel)) ggX9_layCosts_X9_nodesBy
set_option maxRecDepth 20000 in
theorem ggX9_layCosts_X9_belowFirst : GoodIn wsX9_layCosts wsX9_belowFirst := goodIn_r _ [10] (by decide +kernel) (by decide +kernel)
set_option maxRecDepth 20000 in
theorem gX9_layCosts_X9_belowFirst : GoodIn wsX9_layCosts (va_wsS RX9 180 yX9_belowFirst wsX9_belowFirst) := goodIn_app (goodIn_of _ (by decide +kernel)) ggX9_layCosts_X9_belowFirst
set_option maxRecDepth 20000 in
theorem ggX9_layCosts_X9_least : GoodIn wsX9_layCosts wsX9_least := goodIn_r _ [14, 1, 15, 16, 6, 17, 18, 19, 20, 21, 22, 23, 24, 28, 29, 30, 31, 32, 33, 34, 35, 36, 37, 38, 39, 40, 41, 42, 43, 44, 45, 46, 47, 48, 49, 50, 51, 52, 53, 54, 55, 56, 57, 58, 59, 60, 61, 62, 63, 64, 65, 66, 67, 68] (by decide +kernel) (by decide +kernel)
set_option maxRecDepth 20000 in
theorem gX9_layCosts_X9_least : GoodIn wsX9_layCosts (wsV RX9 183 RX9 yX9_least wsX9_least) := goodIn_app (goodIn_of _ (by decide +kernel)) ggX9_layCosts_X9_least
set_option maxRecDepth 20000 in
theorem ggX9_layCosts_X9_belowSecond : GoodIn wsX9_layCosts wsX9_belowSecond := goodIn_r _ [27] (by decide +kernel) (by decide +kernel)
set_option maxRecDepth 20000 in
theorem gX9_layCosts_X9_belowSecond : GoodIn wsX9_layCosts (va_wsS RX9 186 yX9_belowSecond wsX9_belowSecond) := goodIn_app (goodIn_of _ (by decide +kernel)) ggX9_layCosts_X9_belowSecond
theorem dX9_layCosts_0 : decode cX9_layCosts 0 = .ok (.iconst 0, 1) := by decide +kernel
theorem dX9_layCosts_1 : decode cX9_layCosts 1 = .ok (.istore_n 2, 1) := by decide +kernel
theorem dX9_layCosts_2 : decode cX9_layCosts 2 = .ok (.iload_n 2, 1) := by decide +kernel
theorem dX9_layCosts_3 : decode cX9_layCosts 3 = .ok (.aload_n 0, 1) := by decide +kernel
theorem dX9_layCosts_4 : decode cX9_layCosts 4 = .ok (.iload_n 1, 1) := by decide +kernel
theorem dX9_layCosts_5 : decode cX9_layCosts 5 = .ok (.invokevirtual 177, 3) := by decide +kernel
theorem dX9_layCosts_8 : decode cX9_layCosts 8 = .ok (.if_icmp .ge 80, 3) := by decide +kernel
theorem dX9_layCosts_11 : decode cX9_layCosts 11 = .ok (.iconst 0, 1) := by decide +kernel
theorem dX9_layCosts_12 : decode cX9_layCosts 12 = .ok (.istore_n 3, 1) := by decide +kernel
theorem dX9_layCosts_13 : decode cX9_layCosts 13 = .ok (.iload_n 3, 1) := by decide +kernel
theorem dX9_layCosts_14 : decode cX9_layCosts 14 = .ok (.bipush 9, 2) := by decide +kernel
theorem dX9_layCosts_16 : decode cX9_layCosts 16 = .ok (.if_icmp .ge 66, 3) := by decide +kernel
theorem dX9_layCosts_19 : decode cX9_layCosts 19 = .ok (.aload_n 0, 1) := by decide +kernel
theorem dX9_layCosts_20 : decode cX9_layCosts 20 = .ok (.getfield 31, 3) := by decide +kernel
theorem dX9_layCosts_23 : decode cX9_layCosts 23 = .ok (.bipush 9, 2) := by decide +kernel
theorem dX9_layCosts_25 : decode cX9_layCosts 25 = .ok (.iload_n 2, 1) := by decide +kernel
theorem dX9_layCosts_26 : decode cX9_layCosts 26 = .ok (.imul, 1) := by decide +kernel
theorem dX9_layCosts_27 : decode cX9_layCosts 27 = .ok (.iload_n 3, 1) := by decide +kernel
theorem dX9_layCosts_28 : decode cX9_layCosts 28 = .ok (.iadd, 1) := by decide +kernel
theorem dX9_layCosts_29 : decode cX9_layCosts 29 = .ok (.iload_n 2, 1) := by decide +kernel
theorem dX9_layCosts_30 : decode cX9_layCosts 30 = .ok (.iload_n 1, 1) := by decide +kernel
theorem dX9_layCosts_31 : decode cX9_layCosts 31 = .ok (.if_icmp .ge 23, 3) := by decide +kernel
theorem dX9_layCosts_34 : decode cX9_layCosts 34 = .ok (.iload_n 3, 1) := by decide +kernel
theorem dX9_layCosts_35 : decode cX9_layCosts 35 = .ok (.aload_n 0, 1) := by decide +kernel
theorem dX9_layCosts_36 : decode cX9_layCosts 36 = .ok (.getfield 37, 3) := by decide +kernel
theorem dX9_layCosts_39 : decode cX9_layCosts 39 = .ok (.iload_n 2, 1) := by decide +kernel
theorem dX9_layCosts_40 : decode cX9_layCosts 40 = .ok (.iaload, 1) := by decide +kernel
theorem dX9_layCosts_41 : decode cX9_layCosts 41 = .ok (.if_icmp .ne 7, 3) := by decide +kernel
theorem dX9_layCosts_44 : decode cX9_layCosts 44 = .ok (.iconst 0, 1) := by decide +kernel
theorem dX9_layCosts_45 : decode cX9_layCosts 45 = .ok (.goto 30, 3) := by decide +kernel
theorem dX9_layCosts_48 : decode cX9_layCosts 48 = .ok (.sipush 999, 3) := by decide +kernel
theorem dX9_layCosts_51 : decode cX9_layCosts 51 = .ok (.goto 24, 3) := by decide +kernel
theorem dX9_layCosts_54 : decode cX9_layCosts 54 = .ok (.aload_n 0, 1) := by decide +kernel
theorem dX9_layCosts_55 : decode cX9_layCosts 55 = .ok (.iload_n 1, 1) := by decide +kernel
theorem dX9_layCosts_56 : decode cX9_layCosts 56 = .ok (.iload_n 2, 1) := by decide +kernel
theorem dX9_layCosts_57 : decode cX9_layCosts 57 = .ok (.invokestatic 180, 3) := by decide +kernel
theorem dX9_layCosts_60 : decode cX9_layCosts 60 = .ok (.iload_n 3, 1) := by decide +kernel
theorem dX9_layCosts_61 : decode cX9_layCosts 61 = .ok (.invokevirtual 183, 3) := by decide +kernel
theorem dX9_layCosts_64 : decode cX9_layCosts 64 = .ok (.aload_n 0, 1) := by decide +kernel
theorem dX9_layCosts_65 : decode cX9_layCosts 65 = .ok (.iload_n 1, 1) := by decide +kernel
theorem dX9_layCosts_66 : decode cX9_layCosts 66 = .ok (.iload_n 2, 1) := by decide +kernel
theorem dX9_layCosts_67 : decode cX9_layCosts 67 = .ok (.invokestatic 186, 3) := by decide +kernel
theorem dX9_layCosts_70 : decode cX9_layCosts 70 = .ok (.iload_n 3, 1) := by decide +kernel
theorem dX9_layCosts_71 : decode cX9_layCosts 71 = .ok (.invokevirtual 183, 3) := by decide +kernel
theorem dX9_layCosts_74 : decode cX9_layCosts 74 = .ok (.iadd, 1) := by decide +kernel
theorem dX9_layCosts_75 : decode cX9_layCosts 75 = .ok (.iastore, 1) := by decide +kernel
theorem dX9_layCosts_76 : decode cX9_layCosts 76 = .ok (.iinc 3 1, 3) := by decide +kernel
theorem dX9_layCosts_79 : decode cX9_layCosts 79 = .ok (.goto (-66), 3) := by decide +kernel
theorem dX9_layCosts_82 : decode cX9_layCosts 82 = .ok (.iinc 2 1, 3) := by decide +kernel
theorem dX9_layCosts_85 : decode cX9_layCosts 85 = .ok (.goto (-83), 3) := by decide +kernel
theorem dX9_layCosts_88 : decode cX9_layCosts 88 = .ok (.return_, 1) := by decide +kernel
set_option maxRecDepth 20000 in
theorem ggX9_leastSound_X9_costOf : GoodIn wsX9_leastSound wsX9_costOf := goodIn_r _ [5, 6, 7, 4, 8, 9, 10, 11, 12] (by decide +kernel) (by decide +kernel)
set_option maxRecDepth 20000 in
theorem gX9_leastSound_X9_costOf : GoodIn wsX9_leastSound (va_wsS RX9 173 yX9_costOf wsX9_costOf) := goodIn_app (goodIn_of _ (by decide +kernel)) ggX9_leastSound_X9_costOf
theorem dX9_leastSound_0 : decode cX9_leastSound 0 = .ok (.iconst 0, 1) := by decide +kernel
theorem dX9_leastSound_1 : decode cX9_leastSound 1 = .ok (.istore_n 3, 1) := by decide +kernel
theorem dX9_leastSound_2 : decode cX9_leastSound 2 = .ok (.sipush 9999, 3) := by decide +kernel
theorem dX9_leastSound_5 : decode cX9_leastSound 5 = .ok (.istore 4, 2) := by decide +kernel
theorem dX9_leastSound_7 : decode cX9_leastSound 7 = .ok (.iconst 0, 1) := by decide +kernel
theorem dX9_leastSound_8 : decode cX9_leastSound 8 = .ok (.istore 5, 2) := by decide +kernel
theorem dX9_leastSound_10 : decode cX9_leastSound 10 = .ok (.iload 5, 2) := by decide +kernel
theorem dX9_leastSound_12 : decode cX9_leastSound 12 = .ok (.bipush 9, 2) := by decide +kernel
theorem dX9_leastSound_14 : decode cX9_leastSound 14 = .ok (.if_icmp .ge 69, 3) := by decide +kernel
theorem dX9_leastSound_17 : decode cX9_leastSound 17 = .ok (.aload_n 0, 1) := by decide +kernel
theorem dX9_leastSound_18 : decode cX9_leastSound 18 = .ok (.getfield 31, 3) := by decide +kernel
theorem dX9_leastSound_21 : decode cX9_leastSound 21 = .ok (.bipush 9, 2) := by decide +kernel
theorem dX9_leastSound_23 : decode cX9_leastSound 23 = .ok (.iload_n 1, 1) := by decide +kernel
theorem dX9_leastSound_24 : decode cX9_leastSound 24 = .ok (.imul, 1) := by decide +kernel
theorem dX9_leastSound_25 : decode cX9_leastSound 25 = .ok (.iload 5, 2) := by decide +kernel
theorem dX9_leastSound_27 : decode cX9_leastSound 27 = .ok (.iadd, 1) := by decide +kernel
theorem dX9_leastSound_28 : decode cX9_leastSound 28 = .ok (.iaload, 1) := by decide +kernel
theorem dX9_leastSound_29 : decode cX9_leastSound 29 = .ok (.iload_n 2, 1) := by decide +kernel
theorem dX9_leastSound_30 : decode cX9_leastSound 30 = .ok (.iconst (-1), 1) := by decide +kernel
theorem dX9_leastSound_31 : decode cX9_leastSound 31 = .ok (.if_icmp .ne 7, 3) := by decide +kernel
theorem dX9_leastSound_34 : decode cX9_leastSound 34 = .ok (.iconst 0, 1) := by decide +kernel
theorem dX9_leastSound_35 : decode cX9_leastSound 35 = .ok (.goto 9, 3) := by decide +kernel
theorem dX9_leastSound_38 : decode cX9_leastSound 38 = .ok (.iload 5, 2) := by decide +kernel
theorem dX9_leastSound_40 : decode cX9_leastSound 40 = .ok (.iload_n 2, 1) := by decide +kernel
theorem dX9_leastSound_41 : decode cX9_leastSound 41 = .ok (.invokestatic 173, 3) := by decide +kernel
theorem dX9_leastSound_44 : decode cX9_leastSound 44 = .ok (.iadd, 1) := by decide +kernel
theorem dX9_leastSound_45 : decode cX9_leastSound 45 = .ok (.istore 6, 2) := by decide +kernel
theorem dX9_leastSound_47 : decode cX9_leastSound 47 = .ok (.iload 6, 2) := by decide +kernel
theorem dX9_leastSound_49 : decode cX9_leastSound 49 = .ok (.iload 4, 2) := by decide +kernel
theorem dX9_leastSound_51 : decode cX9_leastSound 51 = .ok (.if_icmp .ge 8, 3) := by decide +kernel
theorem dX9_leastSound_54 : decode cX9_leastSound 54 = .ok (.iload 5, 2) := by decide +kernel
theorem dX9_leastSound_56 : decode cX9_leastSound 56 = .ok (.goto 4, 3) := by decide +kernel
theorem dX9_leastSound_59 : decode cX9_leastSound 59 = .ok (.iload_n 3, 1) := by decide +kernel
theorem dX9_leastSound_60 : decode cX9_leastSound 60 = .ok (.istore_n 3, 1) := by decide +kernel
theorem dX9_leastSound_61 : decode cX9_leastSound 61 = .ok (.iload 6, 2) := by decide +kernel
theorem dX9_leastSound_63 : decode cX9_leastSound 63 = .ok (.iload 4, 2) := by decide +kernel
theorem dX9_leastSound_65 : decode cX9_leastSound 65 = .ok (.if_icmp .ge 8, 3) := by decide +kernel
theorem dX9_leastSound_68 : decode cX9_leastSound 68 = .ok (.iload 6, 2) := by decide +kernel
theorem dX9_leastSound_70 : decode cX9_leastSound 70 = .ok (.goto 5, 3) := by decide +kernel
theorem dX9_leastSound_73 : decode cX9_leastSound 73 = .ok (.iload 4, 2) := by decide +kernel
theorem dX9_leastSound_75 : decode cX9_leastSound 75 = .ok (.istore 4, 2) := by decide +kernel
theorem dX9_leastSound_77 : decode cX9_leastSound 77 = .ok (.iinc 5 1, 3) := by decide +kernel
theorem dX9_leastSound_80 : decode cX9_leastSound 80 = .ok (.goto (-70), 3) := by decide +kernel
theorem dX9_leastSound_83 : decode cX9_leastSound 83 = .ok (.iload_n 3, 1) := by decide +kernel
theorem dX9_leastSound_84 : decode cX9_leastSound 84 = .ok (.ireturn, 1) := by decide +kernel
set_option maxRecDepth 20000 in
theorem ggX9_rebuild_X9_layCosts : GoodIn wsX9_rebuild wsX9_layCosts := goodIn_r _ [7, 2, 8, 9, 10, 11, 6, 12, 13, 14, 15, 16, 17, 18, 19, 20, 21, 22, 23, 24, 25, 26, 27, 28, 29, 30, 31, 32, 37, 38, 39, 40, 41, 42, 43, 44, 45, 46, 47, 48, 49, 50, 51, 52, 53, 54, 55, 56, 57, 58, 59, 60, 61, 62, 63, 64, 65, 66, 67, 68, 69, 70, 71, 72, 73, 74, 75, 76, 77] (by decide +kernel) (by decide +kernel)
set_option maxRecDepth 20000 in
theorem gX9_rebuild_X9_layCosts : GoodIn wsX9_rebuild (wsV RX9 189 RX9 yX9_layCosts wsX9_layCosts) := goodIn_app (goodIn_of _ (by decide +kernel)) ggX9_rebuild_X9_layCosts
set_option maxRecDepth 20000 in
theorem ggX9_rebuild_X9_nodesBy : GoodIn wsX9_rebuild wsX9_nodesBy := goodIn_r _ [12] (by decide +kernel) (by decide +kernel)
set_option maxRecDepth 20000 in
theorem gX9_rebuild_X9_nodesBy : GoodIn wsX9_rebuild (wsV RX9 177 RX9 yX9_nodesBy wsX9_nodesBy) := goodIn_app (goodIn_of _ (by decide +kernel)) ggX9_rebuild_X9_nodesBy
set_option maxRecDepth 20000 in
theorem ggX9_rebuild_X9_leastSound : GoodIn wsX9_rebuild wsX9_leastSound := goodIn_r _ [36, 2, 20, 21, 6, 22, 23, 24, 25, 26, 27, 28, 29, 37, 38, 39, 40, 41, 42, 43, 44, 45, 46, 47, 48, 49, 50, 51, 52, 53, 54, 55, 56, 57, 58, 59, 60, 61, 62, 63, 64, 65, 66, 67, 68, 69, 70, 71, 72, 73, 74, 75, 76, 77] (by decide +kernel) (by decide +kernel)
set_option maxRecDepth 20000 in
theorem gX9_rebuild_X9_leastSound : GoodIn wsX9_rebuild (wsV RX9 193 RX9 yX9_leastSound wsX9_leastSound) := goodIn_app (goodIn_of _ (by decide +kernel)) ggX9_rebuild_X9_leastSound
set_option maxRecDepth 20000 in
theorem ggX9_rebuild_X9_belowFirst : GoodIn wsX9_rebuild wsX9_belowFirst := goodIn_r _ [15] (by decide +kernel) (by decide +kernel)
set_option maxRecDepth 20000 in
theorem gX9_rebuild_X9_belowFirst : GoodIn wsX9_rebuild (va_wsS RX9 180 yX9_belowFirst wsX9_belowFirst) := goodIn_app (goodIn_of _ (by decide +kernel)) ggX9_rebuild_X9_belowFirst
set_option maxRecDepth 20000 in
theorem ggX9_rebuild_X9_belowSecond : GoodIn wsX9_rebuild wsX9_belowSecond := goodIn_r _ [32] (by decide +kernel) (by decide +kernel)
set_option maxRecDepth 20000 in
theorem gX9_rebuild_X9_belowSecond : GoodIn wsX9_rebuild (va_wsS RX9 186 yX9_belowSecond wsX9_belowSecond) := goodIn_app (goodIn_of _ (by decide +kernel)) ggX9_rebuild_X9_belowSecond
theorem dX9_rebuild_0 : decode cX9_rebuild 0 = .ok (.aload_n 0, 1) := by decide +kernel
theorem dX9_rebuild_1 : decode cX9_rebuild 1 = .ok (.iload_n 1, 1) := by decide +kernel
theorem dX9_rebuild_2 : decode cX9_rebuild 2 = .ok (.invokevirtual 189, 3) := by decide +kernel
theorem dX9_rebuild_5 : decode cX9_rebuild 5 = .ok (.aload_n 0, 1) := by decide +kernel
theorem dX9_rebuild_6 : decode cX9_rebuild 6 = .ok (.iload_n 1, 1) := by decide +kernel
theorem dX9_rebuild_7 : decode cX9_rebuild 7 = .ok (.invokevirtual 177, 3) := by decide +kernel
theorem dX9_rebuild_10 : decode cX9_rebuild 10 = .ok (.iconst 1, 1) := by decide +kernel
theorem dX9_rebuild_11 : decode cX9_rebuild 11 = .ok (.isub, 1) := by decide +kernel
theorem dX9_rebuild_12 : decode cX9_rebuild 12 = .ok (.istore_n 2, 1) := by decide +kernel
theorem dX9_rebuild_13 : decode cX9_rebuild 13 = .ok (.aload_n 0, 1) := by decide +kernel
theorem dX9_rebuild_14 : decode cX9_rebuild 14 = .ok (.getfield 34, 3) := by decide +kernel
theorem dX9_rebuild_17 : decode cX9_rebuild 17 = .ok (.iload_n 2, 1) := by decide +kernel
theorem dX9_rebuild_18 : decode cX9_rebuild 18 = .ok (.aload_n 0, 1) := by decide +kernel
theorem dX9_rebuild_19 : decode cX9_rebuild 19 = .ok (.iload_n 2, 1) := by decide +kernel
theorem dX9_rebuild_20 : decode cX9_rebuild 20 = .ok (.iconst (-1), 1) := by decide +kernel
theorem dX9_rebuild_21 : decode cX9_rebuild 21 = .ok (.invokevirtual 193, 3) := by decide +kernel
theorem dX9_rebuild_24 : decode cX9_rebuild 24 = .ok (.iastore, 1) := by decide +kernel
theorem dX9_rebuild_25 : decode cX9_rebuild 25 = .ok (.iload_n 2, 1) := by decide +kernel
theorem dX9_rebuild_26 : decode cX9_rebuild 26 = .ok (.istore_n 3, 1) := by decide +kernel
theorem dX9_rebuild_27 : decode cX9_rebuild 27 = .ok (.iload_n 3, 1) := by decide +kernel
theorem dX9_rebuild_28 : decode cX9_rebuild 28 = .ok (.iload_n 1, 1) := by decide +kernel
theorem dX9_rebuild_29 : decode cX9_rebuild 29 = .ok (.if_icmp .lt 59, 3) := by decide +kernel
theorem dX9_rebuild_32 : decode cX9_rebuild 32 = .ok (.aload_n 0, 1) := by decide +kernel
theorem dX9_rebuild_33 : decode cX9_rebuild 33 = .ok (.getfield 34, 3) := by decide +kernel
theorem dX9_rebuild_36 : decode cX9_rebuild 36 = .ok (.iload_n 1, 1) := by decide +kernel
theorem dX9_rebuild_37 : decode cX9_rebuild 37 = .ok (.iload_n 3, 1) := by decide +kernel
theorem dX9_rebuild_38 : decode cX9_rebuild 38 = .ok (.invokestatic 180, 3) := by decide +kernel
theorem dX9_rebuild_41 : decode cX9_rebuild 41 = .ok (.aload_n 0, 1) := by decide +kernel
theorem dX9_rebuild_42 : decode cX9_rebuild 42 = .ok (.iload_n 1, 1) := by decide +kernel
theorem dX9_rebuild_43 : decode cX9_rebuild 43 = .ok (.iload_n 3, 1) := by decide +kernel
theorem dX9_rebuild_44 : decode cX9_rebuild 44 = .ok (.invokestatic 180, 3) := by decide +kernel
theorem dX9_rebuild_47 : decode cX9_rebuild 47 = .ok (.aload_n 0, 1) := by decide +kernel
theorem dX9_rebuild_48 : decode cX9_rebuild 48 = .ok (.getfield 34, 3) := by decide +kernel
theorem dX9_rebuild_51 : decode cX9_rebuild 51 = .ok (.iload_n 3, 1) := by decide +kernel
theorem dX9_rebuild_52 : decode cX9_rebuild 52 = .ok (.iaload, 1) := by decide +kernel
theorem dX9_rebuild_53 : decode cX9_rebuild 53 = .ok (.invokevirtual 193, 3) := by decide +kernel
theorem dX9_rebuild_56 : decode cX9_rebuild 56 = .ok (.iastore, 1) := by decide +kernel
theorem dX9_rebuild_57 : decode cX9_rebuild 57 = .ok (.aload_n 0, 1) := by decide +kernel
theorem dX9_rebuild_58 : decode cX9_rebuild 58 = .ok (.getfield 34, 3) := by decide +kernel
theorem dX9_rebuild_61 : decode cX9_rebuild 61 = .ok (.iload_n 1, 1) := by decide +kernel
theorem dX9_rebuild_62 : decode cX9_rebuild 62 = .ok (.iload_n 3, 1) := by decide +kernel
theorem dX9_rebuild_63 : decode cX9_rebuild 63 = .ok (.invokestatic 186, 3) := by decide +kernel
theorem dX9_rebuild_66 : decode cX9_rebuild 66 = .ok (.aload_n 0, 1) := by decide +kernel
theorem dX9_rebuild_67 : decode cX9_rebuild 67 = .ok (.iload_n 1, 1) := by decide +kernel
theorem dX9_rebuild_68 : decode cX9_rebuild 68 = .ok (.iload_n 3, 1) := by decide +kernel
theorem dX9_rebuild_69 : decode cX9_rebuild 69 = .ok (.invokestatic 186, 3) := by decide +kernel
theorem dX9_rebuild_72 : decode cX9_rebuild 72 = .ok (.aload_n 0, 1) := by decide +kernel
theorem dX9_rebuild_73 : decode cX9_rebuild 73 = .ok (.getfield 34, 3) := by decide +kernel
theorem dX9_rebuild_76 : decode cX9_rebuild 76 = .ok (.iload_n 3, 1) := by decide +kernel
theorem dX9_rebuild_77 : decode cX9_rebuild 77 = .ok (.iaload, 1) := by decide +kernel
theorem dX9_rebuild_78 : decode cX9_rebuild 78 = .ok (.invokevirtual 193, 3) := by decide +kernel
theorem dX9_rebuild_81 : decode cX9_rebuild 81 = .ok (.iastore, 1) := by decide +kernel
theorem dX9_rebuild_82 : decode cX9_rebuild 82 = .ok (.iinc 3 (-1), 3) := by decide +kernel
theorem dX9_rebuild_85 : decode cX9_rebuild 85 = .ok (.goto (-58), 3) := by decide +kernel
theorem dX9_rebuild_88 : decode cX9_rebuild 88 = .ok (.aload_n 0, 1) := by decide +kernel
theorem dX9_rebuild_89 : decode cX9_rebuild 89 = .ok (.getfield 31, 3) := by decide +kernel
theorem dX9_rebuild_92 : decode cX9_rebuild 92 = .ok (.bipush 9, 2) := by decide +kernel
theorem dX9_rebuild_94 : decode cX9_rebuild 94 = .ok (.iload_n 2, 1) := by decide +kernel
theorem dX9_rebuild_95 : decode cX9_rebuild 95 = .ok (.imul, 1) := by decide +kernel
theorem dX9_rebuild_96 : decode cX9_rebuild 96 = .ok (.aload_n 0, 1) := by decide +kernel
theorem dX9_rebuild_97 : decode cX9_rebuild 97 = .ok (.getfield 34, 3) := by decide +kernel
theorem dX9_rebuild_100 : decode cX9_rebuild 100 = .ok (.iload_n 2, 1) := by decide +kernel
theorem dX9_rebuild_101 : decode cX9_rebuild 101 = .ok (.iaload, 1) := by decide +kernel
theorem dX9_rebuild_102 : decode cX9_rebuild 102 = .ok (.iadd, 1) := by decide +kernel
theorem dX9_rebuild_103 : decode cX9_rebuild 103 = .ok (.iaload, 1) := by decide +kernel
theorem dX9_rebuild_104 : decode cX9_rebuild 104 = .ok (.ireturn, 1) := by decide +kernel
theorem dX9_isRebuilt_0 : decode cX9_isRebuilt 0 = .ok (.aload_n 0, 1) := by decide +kernel
theorem dX9_isRebuilt_1 : decode cX9_isRebuilt 1 = .ok (.getfield 22, 3) := by decide +kernel
theorem dX9_isRebuilt_4 : decode cX9_isRebuilt 4 = .ok (.iload_n 1, 1) := by decide +kernel
theorem dX9_isRebuilt_5 : decode cX9_isRebuilt 5 = .ok (.iaload, 1) := by decide +kernel
theorem dX9_isRebuilt_6 : decode cX9_isRebuilt 6 = .ok (.iconst 2, 1) := by decide +kernel
theorem dX9_isRebuilt_7 : decode cX9_isRebuilt 7 = .ok (.if_icmp .eq 17, 3) := by decide +kernel
theorem dX9_isRebuilt_10 : decode cX9_isRebuilt 10 = .ok (.aload_n 0, 1) := by decide +kernel
theorem dX9_isRebuilt_11 : decode cX9_isRebuilt 11 = .ok (.getfield 22, 3) := by decide +kernel
theorem dX9_isRebuilt_14 : decode cX9_isRebuilt 14 = .ok (.iload_n 1, 1) := by decide +kernel
theorem dX9_isRebuilt_15 : decode cX9_isRebuilt 15 = .ok (.iaload, 1) := by decide +kernel
theorem dX9_isRebuilt_16 : decode cX9_isRebuilt 16 = .ok (.iconst 3, 1) := by decide +kernel
theorem dX9_isRebuilt_17 : decode cX9_isRebuilt 17 = .ok (.if_icmp .eq 7, 3) := by decide +kernel
theorem dX9_isRebuilt_20 : decode cX9_isRebuilt 20 = .ok (.iconst 1, 1) := by decide +kernel
theorem dX9_isRebuilt_21 : decode cX9_isRebuilt 21 = .ok (.goto 4, 3) := by decide +kernel
theorem dX9_isRebuilt_24 : decode cX9_isRebuilt 24 = .ok (.iconst 0, 1) := by decide +kernel
theorem dX9_isRebuilt_25 : decode cX9_isRebuilt 25 = .ok (.ireturn, 1) := by decide +kernel
theorem dX9_weightBy_0 : decode cX9_weightBy 0 = .ok (.iload_n 0, 1) := by decide +kernel
theorem dX9_weightBy_1 : decode cX9_weightBy 1 = .ok (.ifCond .ne 7, 3) := by decide +kernel
theorem dX9_weightBy_4 : decode cX9_weightBy 4 = .ok (.iconst 1, 1) := by decide +kernel
theorem dX9_weightBy_5 : decode cX9_weightBy 5 = .ok (.goto 13, 3) := by decide +kernel
theorem dX9_weightBy_8 : decode cX9_weightBy 8 = .ok (.iload_n 0, 1) := by decide +kernel
theorem dX9_weightBy_9 : decode cX9_weightBy 9 = .ok (.iconst 4, 1) := by decide +kernel
theorem dX9_weightBy_10 : decode cX9_weightBy 10 = .ok (.if_icmp .ne 7, 3) := by decide +kernel
theorem dX9_weightBy_13 : decode cX9_weightBy 13 = .ok (.iconst 2, 1) := by decide +kernel
theorem dX9_weightBy_14 : decode cX9_weightBy 14 = .ok (.goto 4, 3) := by decide +kernel
theorem dX9_weightBy_17 : decode cX9_weightBy 17 = .ok (.iconst 0, 1) := by decide +kernel
theorem dX9_weightBy_18 : decode cX9_weightBy 18 = .ok (.ireturn, 1) := by decide +kernel
set_option maxRecDepth 20000 in
theorem ggX9_oldSound_X9_nodesBy : GoodIn wsX9_oldSound wsX9_nodesBy := goodIn_r _ [7] (by decide +kernel) (by decide +kernel)
set_option maxRecDepth 20000 in
theorem gX9_oldSound_X9_nodesBy : GoodIn wsX9_oldSound (wsV RX9 177 RX9 yX9_nodesBy wsX9_nodesBy) := goodIn_app (goodIn_of _ (by decide +kernel)) ggX9_oldSound_X9_nodesBy
theorem dX9_oldSound_0 : decode cX9_oldSound 0 = .ok (.aload_n 0, 1) := by decide +kernel
theorem dX9_oldSound_1 : decode cX9_oldSound 1 = .ok (.getfield 40, 3) := by decide +kernel
theorem dX9_oldSound_4 : decode cX9_oldSound 4 = .ok (.bipush 28, 2) := by decide +kernel
theorem dX9_oldSound_6 : decode cX9_oldSound 6 = .ok (.iload_n 1, 1) := by decide +kernel
theorem dX9_oldSound_7 : decode cX9_oldSound 7 = .ok (.imul, 1) := by decide +kernel
theorem dX9_oldSound_8 : decode cX9_oldSound 8 = .ok (.bipush 7, 2) := by decide +kernel
theorem dX9_oldSound_10 : decode cX9_oldSound 10 = .ok (.iload_n 2, 1) := by decide +kernel
theorem dX9_oldSound_11 : decode cX9_oldSound 11 = .ok (.imul, 1) := by decide +kernel
theorem dX9_oldSound_12 : decode cX9_oldSound 12 = .ok (.iadd, 1) := by decide +kernel
theorem dX9_oldSound_13 : decode cX9_oldSound 13 = .ok (.aload_n 0, 1) := by decide +kernel
theorem dX9_oldSound_14 : decode cX9_oldSound 14 = .ok (.aload_n 0, 1) := by decide +kernel
theorem dX9_oldSound_15 : decode cX9_oldSound 15 = .ok (.getfield 150, 3) := by decide +kernel
theorem dX9_oldSound_18 : decode cX9_oldSound 18 = .ok (.invokevirtual 177, 3) := by decide +kernel
theorem dX9_oldSound_21 : decode cX9_oldSound 21 = .ok (.iadd, 1) := by decide +kernel
theorem dX9_oldSound_22 : decode cX9_oldSound 22 = .ok (.iconst 1, 1) := by decide +kernel
theorem dX9_oldSound_23 : decode cX9_oldSound 23 = .ok (.isub, 1) := by decide +kernel
theorem dX9_oldSound_24 : decode cX9_oldSound 24 = .ok (.iaload, 1) := by decide +kernel
theorem dX9_oldSound_25 : decode cX9_oldSound 25 = .ok (.ireturn, 1) := by decide +kernel
set_option maxRecDepth 20000 in
theorem ggX9_laySets_X9_isRebuilt : GoodIn wsX9_laySets wsX9_isRebuilt := goodIn_r _ [13, 14, 52, 53, 54, 55, 56, 57, 58, 59, 60, 61, 62, 63, 64, 65, 66, 67, 68, 69, 70, 71, 72, 73, 74, 75, 76, 77, 78, 79, 80, 81, 82, 83, 84, 85, 86, 87, 88, 89, 90, 91, 92] (by decide +kernel) (by decide +kernel)
set_option maxRecDepth 20000 in
theorem gX9_laySets_X9_isRebuilt : GoodIn wsX9_laySets (wsV RX9 196 RX9 yX9_isRebuilt wsX9_isRebuilt) := goodIn_app (goodIn_of _ (by decide +kernel)) ggX9_laySets_X9_isRebuilt
set_option maxRecDepth 20000 in
theorem ggX9_laySets_X9_rebuild : GoodIn wsX9_laySets wsX9_rebuild := goodIn_r _ [18, 8, 19, 20, 21, 22, 12, 23, 5, 24, 25, 26, 27, 28, 29, 30, 31, 32, 33, 34, 35, 36, 37, 38, 39, 40, 41, 42, 43, 44, 45, 46, 47, 48, 49, 50, 51, 52, 53, 54, 55, 56, 57, 58, 59, 60, 61, 62, 63, 64, 65, 66, 67, 68, 69, 70, 71, 72, 73, 74, 75, 76, 77, 78, 79, 80, 81, 82, 83, 84, 85, 86, 87, 88, 89, 90, 91, 92] (by decide +kernel) (by decide +kernel)
set_option maxRecDepth 20000 in
theorem gX9_laySets_X9_rebuild : GoodIn wsX9_laySets (wsV RX9 199 RX9 yX9_rebuild wsX9_rebuild) := goodIn_app (goodIn_of _ (by decide +kernel)) ggX9_laySets_X9_rebuild
theorem dX9_laySets_0 : decode cX9_laySets 0 = .ok (.iconst 0, 1) := by decide +kernel
theorem dX9_laySets_1 : decode cX9_laySets 1 = .ok (.istore_n 1, 1) := by decide +kernel
theorem dX9_laySets_2 : decode cX9_laySets 2 = .ok (.iload_n 1, 1) := by decide +kernel
theorem dX9_laySets_3 : decode cX9_laySets 3 = .ok (.aload_n 0, 1) := by decide +kernel
theorem dX9_laySets_4 : decode cX9_laySets 4 = .ok (.getfield 147, 3) := by decide +kernel
theorem dX9_laySets_7 : decode cX9_laySets 7 = .ok (.if_icmp .ge 173, 3) := by decide +kernel
theorem dX9_laySets_10 : decode cX9_laySets 10 = .ok (.aload_n 0, 1) := by decide +kernel
theorem dX9_laySets_11 : decode cX9_laySets 11 = .ok (.getfield 43, 3) := by decide +kernel
theorem dX9_laySets_14 : decode cX9_laySets 14 = .ok (.iload_n 1, 1) := by decide +kernel
theorem dX9_laySets_15 : decode cX9_laySets 15 = .ok (.aload_n 0, 1) := by decide +kernel
theorem dX9_laySets_16 : decode cX9_laySets 16 = .ok (.iload_n 1, 1) := by decide +kernel
theorem dX9_laySets_17 : decode cX9_laySets 17 = .ok (.invokevirtual 196, 3) := by decide +kernel
theorem dX9_laySets_20 : decode cX9_laySets 20 = .ok (.ifCond .eq 7, 3) := by decide +kernel
theorem dX9_laySets_23 : decode cX9_laySets 23 = .ok (.iconst 0, 1) := by decide +kernel
theorem dX9_laySets_24 : decode cX9_laySets 24 = .ok (.goto 4, 3) := by decide +kernel
theorem dX9_laySets_27 : decode cX9_laySets 27 = .ok (.iconst (-1), 1) := by decide +kernel
theorem dX9_laySets_28 : decode cX9_laySets 28 = .ok (.iastore, 1) := by decide +kernel
theorem dX9_laySets_29 : decode cX9_laySets 29 = .ok (.iconst 0, 1) := by decide +kernel
theorem dX9_laySets_30 : decode cX9_laySets 30 = .ok (.istore_n 2, 1) := by decide +kernel
theorem dX9_laySets_31 : decode cX9_laySets 31 = .ok (.iload_n 2, 1) := by decide +kernel
theorem dX9_laySets_32 : decode cX9_laySets 32 = .ok (.aload_n 0, 1) := by decide +kernel
theorem dX9_laySets_33 : decode cX9_laySets 33 = .ok (.getfield 25, 3) := by decide +kernel
theorem dX9_laySets_36 : decode cX9_laySets 36 = .ok (.iload_n 1, 1) := by decide +kernel
theorem dX9_laySets_37 : decode cX9_laySets 37 = .ok (.iaload, 1) := by decide +kernel
theorem dX9_laySets_38 : decode cX9_laySets 38 = .ok (.if_icmp .ge 136, 3) := by decide +kernel
theorem dX9_laySets_41 : decode cX9_laySets 41 = .ok (.iconst 0, 1) := by decide +kernel
theorem dX9_laySets_42 : decode cX9_laySets 42 = .ok (.istore_n 3, 1) := by decide +kernel
theorem dX9_laySets_43 : decode cX9_laySets 43 = .ok (.iload_n 3, 1) := by decide +kernel
theorem dX9_laySets_44 : decode cX9_laySets 44 = .ok (.aload_n 0, 1) := by decide +kernel
theorem dX9_laySets_45 : decode cX9_laySets 45 = .ok (.getfield 150, 3) := by decide +kernel
theorem dX9_laySets_48 : decode cX9_laySets 48 = .ok (.if_icmp .ge 30, 3) := by decide +kernel
theorem dX9_laySets_51 : decode cX9_laySets 51 = .ok (.aload_n 0, 1) := by decide +kernel
theorem dX9_laySets_52 : decode cX9_laySets 52 = .ok (.getfield 37, 3) := by decide +kernel
theorem dX9_laySets_55 : decode cX9_laySets 55 = .ok (.iload_n 3, 1) := by decide +kernel
theorem dX9_laySets_56 : decode cX9_laySets 56 = .ok (.aload_n 0, 1) := by decide +kernel
theorem dX9_laySets_57 : decode cX9_laySets 57 = .ok (.getfield 28, 3) := by decide +kernel
theorem dX9_laySets_60 : decode cX9_laySets 60 = .ok (.bipush 16, 2) := by decide +kernel

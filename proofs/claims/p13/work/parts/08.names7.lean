theorem dX9_take_45 : decode cX9_take 45 = .ok (.iadd, 1) := by decide +kernel
theorem dX9_take_46 : decode cX9_take 46 = .ok (.iload_n 2, 1) := by decide +kernel
theorem dX9_take_47 : decode cX9_take 47 = .ok (.invokevirtual 264, 3) := by decide +kernel
theorem dX9_take_50 : decode cX9_take 50 = .ok (.iinc 2 1, 3) := by decide +kernel
theorem dX9_take_53 : decode cX9_take 53 = .ok (.goto (-19), 3) := by decide +kernel
theorem dX9_take_56 : decode cX9_take 56 = .ok (.aload_n 0, 1) := by decide +kernel
theorem dX9_take_57 : decode cX9_take 57 = .ok (.iconst 1, 1) := by decide +kernel
theorem dX9_take_58 : decode cX9_take 58 = .ok (.putfield 153, 3) := by decide +kernel
theorem dX9_take_61 : decode cX9_take 61 = .ok (.aload_n 0, 1) := by decide +kernel
theorem dX9_take_62 : decode cX9_take 62 = .ok (.getfield 147, 3) := by decide +kernel
theorem dX9_take_65 : decode cX9_take 65 = .ok (.ireturn, 1) := by decide +kernel
set_option maxRecDepth 20000 in
theorem ggX9_change_X9_isSet : GoodIn wsX9_change wsX9_isSet := goodIn_r _ [8, 9, 10, 11, 7, 12, 13, 14, 15, 16, 17, 18, 19, 20, 21, 22, 23, 24, 25, 26, 27, 28, 29, 30, 31, 32, 33, 34, 35, 36, 37, 38, 39, 40, 41, 42, 43, 44, 45, 46, 47, 48, 49, 50, 51, 52, 53] (by decide +kernel) (by decide +kernel)
set_option maxRecDepth 20000 in
theorem gX9_change_X9_isSet : GoodIn wsX9_change (wsV RX9 163 RX9 yX9_isSet wsX9_isSet) := goodIn_app (goodIn_of _ (by decide +kernel)) ggX9_change_X9_isSet
set_option maxRecDepth 20000 in
theorem ggX9_change_X9_in : GoodIn wsX9_change wsX9_in := goodIn_r _ [12] (by decide +kernel) (by decide +kernel)
set_option maxRecDepth 20000 in
theorem gX9_change_X9_in : GoodIn wsX9_change (va_wsS RX9 88 yX9_in wsX9_in) := goodIn_app (goodIn_of _ (by decide +kernel)) ggX9_change_X9_in
theorem dX9_change_0 : decode cX9_change 0 = .ok (.aload_n 0, 1) := by decide +kernel
theorem dX9_change_1 : decode cX9_change 1 = .ok (.iload_n 1, 1) := by decide +kernel
theorem dX9_change_2 : decode cX9_change 2 = .ok (.invokevirtual 163, 3) := by decide +kernel
theorem dX9_change_5 : decode cX9_change 5 = .ok (.ifCond .ne 6, 3) := by decide +kernel
theorem dX9_change_8 : decode cX9_change 8 = .ok (.bipush (-101), 2) := by decide +kernel
theorem dX9_change_10 : decode cX9_change 10 = .ok (.ireturn, 1) := by decide +kernel
theorem dX9_change_11 : decode cX9_change 11 = .ok (.iload_n 2, 1) := by decide +kernel
theorem dX9_change_12 : decode cX9_change 12 = .ok (.i2l, 1) := by decide +kernel
theorem dX9_change_13 : decode cX9_change 13 = .ok (.lconst 0, 1) := by decide +kernel
theorem dX9_change_14 : decode cX9_change 14 = .ok (.ldc2_w 259, 3) := by decide +kernel
theorem dX9_change_17 : decode cX9_change 17 = .ok (.invokestatic 88, 3) := by decide +kernel
theorem dX9_change_20 : decode cX9_change 20 = .ok (.ifCond .ne 6, 3) := by decide +kernel
theorem dX9_change_23 : decode cX9_change 23 = .ok (.bipush (-102), 2) := by decide +kernel
theorem dX9_change_25 : decode cX9_change 25 = .ok (.ireturn, 1) := by decide +kernel
theorem dX9_change_26 : decode cX9_change 26 = .ok (.aload_n 0, 1) := by decide +kernel
theorem dX9_change_27 : decode cX9_change 27 = .ok (.getfield 22, 3) := by decide +kernel
theorem dX9_change_30 : decode cX9_change 30 = .ok (.iload_n 1, 1) := by decide +kernel
theorem dX9_change_31 : decode cX9_change 31 = .ok (.iaload, 1) := by decide +kernel
theorem dX9_change_32 : decode cX9_change 32 = .ok (.istore_n 3, 1) := by decide +kernel
theorem dX9_change_33 : decode cX9_change 33 = .ok (.aload_n 0, 1) := by decide +kernel
theorem dX9_change_34 : decode cX9_change 34 = .ok (.getfield 22, 3) := by decide +kernel
theorem dX9_change_37 : decode cX9_change 37 = .ok (.iload_n 1, 1) := by decide +kernel
theorem dX9_change_38 : decode cX9_change 38 = .ok (.iload_n 2, 1) := by decide +kernel
theorem dX9_change_39 : decode cX9_change 39 = .ok (.iastore, 1) := by decide +kernel
theorem dX9_change_40 : decode cX9_change 40 = .ok (.aload_n 0, 1) := by decide +kernel
theorem dX9_change_41 : decode cX9_change 41 = .ok (.iconst 1, 1) := by decide +kernel
theorem dX9_change_42 : decode cX9_change 42 = .ok (.putfield 153, 3) := by decide +kernel
theorem dX9_change_45 : decode cX9_change 45 = .ok (.iload_n 3, 1) := by decide +kernel
theorem dX9_change_46 : decode cX9_change 46 = .ok (.ireturn, 1) := by decide +kernel
theorem dX9_changesAll_0 : decode cX9_changesAll 0 = .ok (.iconst 0, 1) := by decide +kernel
theorem dX9_changesAll_1 : decode cX9_changesAll 1 = .ok (.istore_n 1, 1) := by decide +kernel
theorem dX9_changesAll_2 : decode cX9_changesAll 2 = .ok (.iconst 0, 1) := by decide +kernel
theorem dX9_changesAll_3 : decode cX9_changesAll 3 = .ok (.istore_n 2, 1) := by decide +kernel
theorem dX9_changesAll_4 : decode cX9_changesAll 4 = .ok (.iload_n 2, 1) := by decide +kernel
theorem dX9_changesAll_5 : decode cX9_changesAll 5 = .ok (.aload_n 0, 1) := by decide +kernel
theorem dX9_changesAll_6 : decode cX9_changesAll 6 = .ok (.getfield 147, 3) := by decide +kernel
theorem dX9_changesAll_9 : decode cX9_changesAll 9 = .ok (.if_icmp .ge 32, 3) := by decide +kernel
theorem dX9_changesAll_12 : decode cX9_changesAll 12 = .ok (.iload_n 1, 1) := by decide +kernel
theorem dX9_changesAll_13 : decode cX9_changesAll 13 = .ok (.aload_n 0, 1) := by decide +kernel
theorem dX9_changesAll_14 : decode cX9_changesAll 14 = .ok (.getfield 43, 3) := by decide +kernel
theorem dX9_changesAll_17 : decode cX9_changesAll 17 = .ok (.iload_n 2, 1) := by decide +kernel
theorem dX9_changesAll_18 : decode cX9_changesAll 18 = .ok (.iaload, 1) := by decide +kernel
theorem dX9_changesAll_19 : decode cX9_changesAll 19 = .ok (.iconst (-1), 1) := by decide +kernel
theorem dX9_changesAll_20 : decode cX9_changesAll 20 = .ok (.if_icmp .ne 7, 3) := by decide +kernel
theorem dX9_changesAll_23 : decode cX9_changesAll 23 = .ok (.iconst 0, 1) := by decide +kernel
theorem dX9_changesAll_24 : decode cX9_changesAll 24 = .ok (.goto 9, 3) := by decide +kernel
theorem dX9_changesAll_27 : decode cX9_changesAll 27 = .ok (.aload_n 0, 1) := by decide +kernel
theorem dX9_changesAll_28 : decode cX9_changesAll 28 = .ok (.getfield 43, 3) := by decide +kernel
theorem dX9_changesAll_31 : decode cX9_changesAll 31 = .ok (.iload_n 2, 1) := by decide +kernel
theorem dX9_changesAll_32 : decode cX9_changesAll 32 = .ok (.iaload, 1) := by decide +kernel
theorem dX9_changesAll_33 : decode cX9_changesAll 33 = .ok (.iadd, 1) := by decide +kernel
theorem dX9_changesAll_34 : decode cX9_changesAll 34 = .ok (.istore_n 1, 1) := by decide +kernel
theorem dX9_changesAll_35 : decode cX9_changesAll 35 = .ok (.iinc 2 1, 3) := by decide +kernel
theorem dX9_changesAll_38 : decode cX9_changesAll 38 = .ok (.goto (-34), 3) := by decide +kernel
theorem dX9_changesAll_41 : decode cX9_changesAll 41 = .ok (.iload_n 1, 1) := by decide +kernel
theorem dX9_changesAll_42 : decode cX9_changesAll 42 = .ok (.ireturn, 1) := by decide +kernel
set_option maxRecDepth 20000 in
theorem ggX9_swap_X9_isTongue : GoodIn wsX9_swap wsX9_isTongue := goodIn_r _ [8, 9, 10, 11, 7, 12, 88, 89, 90, 91, 92, 93, 94, 95, 96, 97, 98, 99, 100, 101, 102, 103, 104, 105, 106, 107, 108, 109, 110, 111, 112, 113, 114, 115, 116, 117, 118, 119, 120, 121, 122, 123, 124, 125, 126, 127, 128] (by decide +kernel) (by decide +kernel)
set_option maxRecDepth 20000 in
theorem gX9_swap_X9_isTongue : GoodIn wsX9_swap (wsV RX9 218 RX9 yX9_isTongue wsX9_isTongue) := goodIn_app (goodIn_of _ (by decide +kernel)) ggX9_swap_X9_isTongue
set_option maxRecDepth 20000 in
theorem ggX9_swap_X9_freshen : GoodIn wsX9_swap wsX9_freshen := goodIn_r _ [16, 3, 9, 17, 18, 19, 7, 20, 1, 21, 22, 23, 2, 24, 25, 26, 27, 28, 29, 30, 31, 32, 33, 34, 35, 36, 37, 38, 39, 40, 41, 42, 43, 44, 45, 46, 47, 48, 49, 50, 51, 52, 53, 54, 55, 56, 57, 10, 11, 12, 58, 59, 60, 61, 62, 63, 64, 65, 66, 67, 68, 69, 70, 71, 72, 73, 74, 75, 76, 77, 78, 79, 80, 81, 82, 83, 88, 89, 90, 91, 92, 93, 94, 95, 96, 97, 98, 99, 100, 101, 102, 103, 104, 105, 106, 107, 108, 109, 110, 111, 112, 113, 114, 115, 116, 117, 118, 119, 120, 121, 122, 123, 124, 125, 126, 127, 128] (by decide +kernel) (by decide +kernel)
set_option maxRecDepth 20000 in
theorem gX9_swap_X9_freshen : GoodIn wsX9_swap (wsV RX9 223 RX9 yX9_freshen wsX9_freshen) := goodIn_app (goodIn_of _ (by decide +kernel)) ggX9_swap_X9_freshen
set_option maxRecDepth 20000 in
theorem ggX9_swap_X9_changesAll : GoodIn wsX9_swap wsX9_changesAll := goodIn_r _ [87, 1, 21, 88, 89, 90, 91, 92, 93, 94, 95, 96, 97, 98, 99, 100, 101, 102, 103, 104, 105, 106, 107, 108, 109, 110, 111, 112, 113, 114, 115, 116, 117, 118, 119, 120, 121, 122, 123, 124, 125, 126, 127, 128] (by decide +kernel) (by decide +kernel)
set_option maxRecDepth 20000 in
theorem gX9_swap_X9_changesAll : GoodIn wsX9_swap (wsV RX9 268 RX9 yX9_changesAll wsX9_changesAll) := goodIn_app (goodIn_of _ (by decide +kernel)) ggX9_swap_X9_changesAll
theorem dX9_swap_0 : decode cX9_swap 0 = .ok (.aload_n 0, 1) := by decide +kernel
theorem dX9_swap_1 : decode cX9_swap 1 = .ok (.iload_n 1, 1) := by decide +kernel
theorem dX9_swap_2 : decode cX9_swap 2 = .ok (.invokevirtual 218, 3) := by decide +kernel
theorem dX9_swap_5 : decode cX9_swap 5 = .ok (.ifCond .eq 16, 3) := by decide +kernel
theorem dX9_swap_8 : decode cX9_swap 8 = .ok (.aload_n 0, 1) := by decide +kernel
theorem dX9_swap_9 : decode cX9_swap 9 = .ok (.iload_n 2, 1) := by decide +kernel
theorem dX9_swap_10 : decode cX9_swap 10 = .ok (.invokevirtual 218, 3) := by decide +kernel
theorem dX9_swap_13 : decode cX9_swap 13 = .ok (.ifCond .eq 8, 3) := by decide +kernel
theorem dX9_swap_16 : decode cX9_swap 16 = .ok (.iload_n 1, 1) := by decide +kernel
theorem dX9_swap_17 : decode cX9_swap 17 = .ok (.iload_n 2, 1) := by decide +kernel
theorem dX9_swap_18 : decode cX9_swap 18 = .ok (.if_icmp .ne 6, 3) := by decide +kernel
theorem dX9_swap_21 : decode cX9_swap 21 = .ok (.bipush (-101), 2) := by decide +kernel
theorem dX9_swap_23 : decode cX9_swap 23 = .ok (.ireturn, 1) := by decide +kernel
theorem dX9_swap_24 : decode cX9_swap 24 = .ok (.iconst 0, 1) := by decide +kernel
theorem dX9_swap_25 : decode cX9_swap 25 = .ok (.istore_n 3, 1) := by decide +kernel
theorem dX9_swap_26 : decode cX9_swap 26 = .ok (.iload_n 3, 1) := by decide +kernel
theorem dX9_swap_27 : decode cX9_swap 27 = .ok (.iconst 4, 1) := by decide +kernel
theorem dX9_swap_28 : decode cX9_swap 28 = .ok (.aload_n 0, 1) := by decide +kernel
theorem dX9_swap_29 : decode cX9_swap 29 = .ok (.getfield 147, 3) := by decide +kernel
theorem dX9_swap_32 : decode cX9_swap 32 = .ok (.imul, 1) := by decide +kernel
theorem dX9_swap_33 : decode cX9_swap 33 = .ok (.if_icmp .ge 73, 3) := by decide +kernel
theorem dX9_swap_36 : decode cX9_swap 36 = .ok (.bipush 16, 2) := by decide +kernel
theorem dX9_swap_38 : decode cX9_swap 38 = .ok (.iload_n 3, 1) := by decide +kernel
theorem dX9_swap_39 : decode cX9_swap 39 = .ok (.iconst 4, 1) := by decide +kernel
theorem dX9_swap_40 : decode cX9_swap 40 = .ok (.idiv, 1) := by decide +kernel
theorem dX9_swap_41 : decode cX9_swap 41 = .ok (.imul, 1) := by decide +kernel
theorem dX9_swap_42 : decode cX9_swap 42 = .ok (.iconst 4, 1) := by decide +kernel
theorem dX9_swap_43 : decode cX9_swap 43 = .ok (.iload_n 1, 1) := by decide +kernel
theorem dX9_swap_44 : decode cX9_swap 44 = .ok (.imul, 1) := by decide +kernel
theorem dX9_swap_45 : decode cX9_swap 45 = .ok (.iadd, 1) := by decide +kernel
theorem dX9_swap_46 : decode cX9_swap 46 = .ok (.iload_n 3, 1) := by decide +kernel
theorem dX9_swap_47 : decode cX9_swap 47 = .ok (.iconst 4, 1) := by decide +kernel
theorem dX9_swap_48 : decode cX9_swap 48 = .ok (.irem, 1) := by decide +kernel
theorem dX9_swap_49 : decode cX9_swap 49 = .ok (.iadd, 1) := by decide +kernel
theorem dX9_swap_50 : decode cX9_swap 50 = .ok (.istore 4, 2) := by decide +kernel
theorem dX9_swap_52 : decode cX9_swap 52 = .ok (.bipush 16, 2) := by decide +kernel
theorem dX9_swap_54 : decode cX9_swap 54 = .ok (.iload_n 3, 1) := by decide +kernel
theorem dX9_swap_55 : decode cX9_swap 55 = .ok (.iconst 4, 1) := by decide +kernel
theorem dX9_swap_56 : decode cX9_swap 56 = .ok (.idiv, 1) := by decide +kernel
theorem dX9_swap_57 : decode cX9_swap 57 = .ok (.imul, 1) := by decide +kernel
theorem dX9_swap_58 : decode cX9_swap 58 = .ok (.iconst 4, 1) := by decide +kernel
theorem dX9_swap_59 : decode cX9_swap 59 = .ok (.iload_n 2, 1) := by decide +kernel
theorem dX9_swap_60 : decode cX9_swap 60 = .ok (.imul, 1) := by decide +kernel
theorem dX9_swap_61 : decode cX9_swap 61 = .ok (.iadd, 1) := by decide +kernel
theorem dX9_swap_62 : decode cX9_swap 62 = .ok (.iload_n 3, 1) := by decide +kernel
theorem dX9_swap_63 : decode cX9_swap 63 = .ok (.iconst 4, 1) := by decide +kernel
theorem dX9_swap_64 : decode cX9_swap 64 = .ok (.irem, 1) := by decide +kernel
theorem dX9_swap_65 : decode cX9_swap 65 = .ok (.iadd, 1) := by decide +kernel
theorem dX9_swap_66 : decode cX9_swap 66 = .ok (.istore 5, 2) := by decide +kernel
theorem dX9_swap_68 : decode cX9_swap 68 = .ok (.aload_n 0, 1) := by decide +kernel
theorem dX9_swap_69 : decode cX9_swap 69 = .ok (.getfield 28, 3) := by decide +kernel
theorem dX9_swap_72 : decode cX9_swap 72 = .ok (.iload 4, 2) := by decide +kernel
theorem dX9_swap_74 : decode cX9_swap 74 = .ok (.iaload, 1) := by decide +kernel
theorem dX9_swap_75 : decode cX9_swap 75 = .ok (.istore 6, 2) := by decide +kernel
theorem dX9_swap_77 : decode cX9_swap 77 = .ok (.aload_n 0, 1) := by decide +kernel
theorem dX9_swap_78 : decode cX9_swap 78 = .ok (.getfield 28, 3) := by decide +kernel
theorem dX9_swap_81 : decode cX9_swap 81 = .ok (.iload 4, 2) := by decide +kernel
theorem dX9_swap_83 : decode cX9_swap 83 = .ok (.aload_n 0, 1) := by decide +kernel
theorem dX9_swap_84 : decode cX9_swap 84 = .ok (.getfield 28, 3) := by decide +kernel
theorem dX9_swap_87 : decode cX9_swap 87 = .ok (.iload 5, 2) := by decide +kernel
theorem dX9_swap_89 : decode cX9_swap 89 = .ok (.iaload, 1) := by decide +kernel
theorem dX9_swap_90 : decode cX9_swap 90 = .ok (.iastore, 1) := by decide +kernel
theorem dX9_swap_91 : decode cX9_swap 91 = .ok (.aload_n 0, 1) := by decide +kernel
theorem dX9_swap_92 : decode cX9_swap 92 = .ok (.getfield 28, 3) := by decide +kernel
theorem dX9_swap_95 : decode cX9_swap 95 = .ok (.iload 5, 2) := by decide +kernel
theorem dX9_swap_97 : decode cX9_swap 97 = .ok (.iload 6, 2) := by decide +kernel
theorem dX9_swap_99 : decode cX9_swap 99 = .ok (.iastore, 1) := by decide +kernel
theorem dX9_swap_100 : decode cX9_swap 100 = .ok (.iinc 3 1, 3) := by decide +kernel
theorem dX9_swap_103 : decode cX9_swap 103 = .ok (.goto (-77), 3) := by decide +kernel
theorem dX9_swap_106 : decode cX9_swap 106 = .ok (.aload_n 0, 1) := by decide +kernel
theorem dX9_swap_107 : decode cX9_swap 107 = .ok (.iconst 1, 1) := by decide +kernel
theorem dX9_swap_108 : decode cX9_swap 108 = .ok (.putfield 153, 3) := by decide +kernel
theorem dX9_swap_111 : decode cX9_swap 111 = .ok (.aload_n 0, 1) := by decide +kernel
theorem dX9_swap_112 : decode cX9_swap 112 = .ok (.invokevirtual 223, 3) := by decide +kernel
theorem dX9_swap_115 : decode cX9_swap 115 = .ok (.aload_n 0, 1) := by decide +kernel
theorem dX9_swap_116 : decode cX9_swap 116 = .ok (.invokevirtual 268, 3) := by decide +kernel
theorem dX9_swap_119 : decode cX9_swap 119 = .ok (.ireturn, 1) := by decide +kernel
set_option maxRecDepth 20000 in
theorem ggX9_see_X9_isSet : GoodIn wsX9_see wsX9_isSet := goodIn_r _ [8, 9, 10, 11, 7, 12, 13, 14, 15, 16, 17, 18, 19, 20, 21, 22, 23, 24, 25, 26, 27, 28, 29, 30, 31, 32, 33, 34, 35, 36, 37, 38, 39, 40, 41, 42, 43, 44, 45, 46, 47, 48, 49, 50, 51, 52, 53] (by decide +kernel) (by decide +kernel)
set_option maxRecDepth 20000 in
theorem gX9_see_X9_isSet : GoodIn wsX9_see (wsV RX9 163 RX9 yX9_isSet wsX9_isSet) := goodIn_app (goodIn_of _ (by decide +kernel)) ggX9_see_X9_isSet
set_option maxRecDepth 20000 in
theorem ggX9_see_X9_in : GoodIn wsX9_see wsX9_in := goodIn_r _ [12] (by decide +kernel) (by decide +kernel)
set_option maxRecDepth 20000 in
theorem gX9_see_X9_in : GoodIn wsX9_see (va_wsS RX9 88 yX9_in wsX9_in) := goodIn_app (goodIn_of _ (by decide +kernel)) ggX9_see_X9_in
theorem dX9_see_0 : decode cX9_see 0 = .ok (.aload_n 0, 1) := by decide +kernel
theorem dX9_see_1 : decode cX9_see 1 = .ok (.iload_n 1, 1) := by decide +kernel
theorem dX9_see_2 : decode cX9_see 2 = .ok (.invokevirtual 163, 3) := by decide +kernel
theorem dX9_see_5 : decode cX9_see 5 = .ok (.ifCond .ne 6, 3) := by decide +kernel
theorem dX9_see_8 : decode cX9_see 8 = .ok (.bipush (-101), 2) := by decide +kernel
theorem dX9_see_10 : decode cX9_see 10 = .ok (.ireturn, 1) := by decide +kernel
theorem dX9_see_11 : decode cX9_see 11 = .ok (.iload_n 2, 1) := by decide +kernel
theorem dX9_see_12 : decode cX9_see 12 = .ok (.i2l, 1) := by decide +kernel
theorem dX9_see_13 : decode cX9_see 13 = .ok (.lconst 0, 1) := by decide +kernel
theorem dX9_see_14 : decode cX9_see 14 = .ok (.ldc2_w 166, 3) := by decide +kernel
theorem dX9_see_17 : decode cX9_see 17 = .ok (.invokestatic 88, 3) := by decide +kernel
theorem dX9_see_20 : decode cX9_see 20 = .ok (.ifCond .ne 6, 3) := by decide +kernel
theorem dX9_see_23 : decode cX9_see 23 = .ok (.bipush (-102), 2) := by decide +kernel
theorem dX9_see_25 : decode cX9_see 25 = .ok (.ireturn, 1) := by decide +kernel
theorem dX9_see_26 : decode cX9_see 26 = .ok (.aload_n 0, 1) := by decide +kernel
theorem dX9_see_27 : decode cX9_see 27 = .ok (.getfield 157, 3) := by decide +kernel
theorem dX9_see_30 : decode cX9_see 30 = .ok (.bipush 6, 2) := by decide +kernel
theorem dX9_see_32 : decode cX9_see 32 = .ok (.if_icmp .ne 6, 3) := by decide +kernel
theorem dX9_see_35 : decode cX9_see 35 = .ok (.bipush (-104), 2) := by decide +kernel
theorem dX9_see_37 : decode cX9_see 37 = .ok (.ireturn, 1) := by decide +kernel
theorem dX9_see_38 : decode cX9_see 38 = .ok (.aload_n 0, 1) := by decide +kernel
theorem dX9_see_39 : decode cX9_see 39 = .ok (.getfield 67, 3) := by decide +kernel
theorem dX9_see_42 : decode cX9_see 42 = .ok (.iconst 3, 1) := by decide +kernel
theorem dX9_see_43 : decode cX9_see 43 = .ok (.aload_n 0, 1) := by decide +kernel
theorem dX9_see_44 : decode cX9_see 44 = .ok (.getfield 157, 3) := by decide +kernel
theorem dX9_see_47 : decode cX9_see 47 = .ok (.imul, 1) := by decide +kernel
theorem dX9_see_48 : decode cX9_see 48 = .ok (.iload_n 1, 1) := by decide +kernel
theorem dX9_see_49 : decode cX9_see 49 = .ok (.iastore, 1) := by decide +kernel
theorem dX9_see_50 : decode cX9_see 50 = .ok (.aload_n 0, 1) := by decide +kernel
theorem dX9_see_51 : decode cX9_see 51 = .ok (.getfield 67, 3) := by decide +kernel
theorem dX9_see_54 : decode cX9_see 54 = .ok (.iconst 3, 1) := by decide +kernel
theorem dX9_see_55 : decode cX9_see 55 = .ok (.aload_n 0, 1) := by decide +kernel
theorem dX9_see_56 : decode cX9_see 56 = .ok (.getfield 157, 3) := by decide +kernel
theorem dX9_see_59 : decode cX9_see 59 = .ok (.imul, 1) := by decide +kernel
theorem dX9_see_60 : decode cX9_see 60 = .ok (.iconst 1, 1) := by decide +kernel
theorem dX9_see_61 : decode cX9_see 61 = .ok (.iadd, 1) := by decide +kernel
theorem dX9_see_62 : decode cX9_see 62 = .ok (.iload_n 2, 1) := by decide +kernel
theorem dX9_see_63 : decode cX9_see 63 = .ok (.iastore, 1) := by decide +kernel
theorem dX9_see_64 : decode cX9_see 64 = .ok (.aload_n 0, 1) := by decide +kernel
theorem dX9_see_65 : decode cX9_see 65 = .ok (.getfield 67, 3) := by decide +kernel
theorem dX9_see_68 : decode cX9_see 68 = .ok (.iconst 3, 1) := by decide +kernel
theorem dX9_see_69 : decode cX9_see 69 = .ok (.aload_n 0, 1) := by decide +kernel
theorem dX9_see_70 : decode cX9_see 70 = .ok (.getfield 157, 3) := by decide +kernel
theorem dX9_see_73 : decode cX9_see 73 = .ok (.imul, 1) := by decide +kernel
theorem dX9_see_74 : decode cX9_see 74 = .ok (.iconst 2, 1) := by decide +kernel
theorem dX9_see_75 : decode cX9_see 75 = .ok (.iadd, 1) := by decide +kernel
theorem dX9_see_76 : decode cX9_see 76 = .ok (.iload_n 3, 1) := by decide +kernel
theorem dX9_see_77 : decode cX9_see 77 = .ok (.ifCond .eq 7, 3) := by decide +kernel
theorem dX9_see_80 : decode cX9_see 80 = .ok (.iconst 1, 1) := by decide +kernel
theorem dX9_see_81 : decode cX9_see 81 = .ok (.goto 4, 3) := by decide +kernel
theorem dX9_see_84 : decode cX9_see 84 = .ok (.iconst 0, 1) := by decide +kernel
theorem dX9_see_85 : decode cX9_see 85 = .ok (.iastore, 1) := by decide +kernel
theorem dX9_see_86 : decode cX9_see 86 = .ok (.aload_n 0, 1) := by decide +kernel
theorem dX9_see_87 : decode cX9_see 87 = .ok (.dup, 1) := by decide +kernel
theorem dX9_see_88 : decode cX9_see 88 = .ok (.getfield 157, 3) := by decide +kernel
theorem dX9_see_91 : decode cX9_see 91 = .ok (.iconst 1, 1) := by decide +kernel
theorem dX9_see_92 : decode cX9_see 92 = .ok (.iadd, 1) := by decide +kernel
theorem dX9_see_93 : decode cX9_see 93 = .ok (.putfield 157, 3) := by decide +kernel
theorem dX9_see_96 : decode cX9_see 96 = .ok (.aload_n 0, 1) := by decide +kernel
theorem dX9_see_97 : decode cX9_see 97 = .ok (.getfield 157, 3) := by decide +kernel
theorem dX9_see_100 : decode cX9_see 100 = .ok (.ireturn, 1) := by decide +kernel
theorem dX9_forget_0 : decode cX9_forget 0 = .ok (.aload_n 0, 1) := by decide +kernel
theorem dX9_forget_1 : decode cX9_forget 1 = .ok (.getfield 157, 3) := by decide +kernel
theorem dX9_forget_4 : decode cX9_forget 4 = .ok (.istore_n 1, 1) := by decide +kernel
theorem dX9_forget_5 : decode cX9_forget 5 = .ok (.aload_n 0, 1) := by decide +kernel
theorem dX9_forget_6 : decode cX9_forget 6 = .ok (.iconst 0, 1) := by decide +kernel
theorem dX9_forget_7 : decode cX9_forget 7 = .ok (.putfield 157, 3) := by decide +kernel
theorem dX9_forget_10 : decode cX9_forget 10 = .ok (.iload_n 1, 1) := by decide +kernel
theorem dX9_forget_11 : decode cX9_forget 11 = .ok (.ireturn, 1) := by decide +kernel
theorem dX9_sortsBy_0 : decode cX9_sortsBy 0 = .ok (.iload_n 0, 1) := by decide +kernel
theorem dX9_sortsBy_1 : decode cX9_sortsBy 1 = .ok (.tableswitch 36 0 2 #[27, 30, 33], 27) := by decide +kernel
theorem dX9_sortsBy_28 : decode cX9_sortsBy 28 = .ok (.bipush 17, 2) := by decide +kernel
theorem dX9_sortsBy_30 : decode cX9_sortsBy 30 = .ok (.ireturn, 1) := by decide +kernel
theorem dX9_sortsBy_31 : decode cX9_sortsBy 31 = .ok (.bipush 19, 2) := by decide +kernel
theorem dX9_sortsBy_33 : decode cX9_sortsBy 33 = .ok (.ireturn, 1) := by decide +kernel
theorem dX9_sortsBy_34 : decode cX9_sortsBy 34 = .ok (.bipush 16, 2) := by decide +kernel
theorem dX9_sortsBy_36 : decode cX9_sortsBy 36 = .ok (.ireturn, 1) := by decide +kernel
theorem dX9_sortsBy_37 : decode cX9_sortsBy 37 = .ok (.iconst 2, 1) := by decide +kernel
theorem dX9_sortsBy_38 : decode cX9_sortsBy 38 = .ok (.ireturn, 1) := by decide +kernel
set_option maxRecDepth 20000 in
theorem ggX9_sortsOf_X9_sortsBy : GoodIn wsX9_sortsOf wsX9_sortsBy := goodIn_r _ [6] (by decide +kernel) (by decide +kernel)
set_option maxRecDepth 20000 in
theorem gX9_sortsOf_X9_sortsBy : GoodIn wsX9_sortsOf (va_wsS RX9 271 yX9_sortsBy wsX9_sortsBy) := goodIn_app (goodIn_of _ (by decide +kernel)) ggX9_sortsOf_X9_sortsBy
theorem dX9_sortsOf_0 : decode cX9_sortsOf 0 = .ok (.bipush 31, 2) := by decide +kernel
theorem dX9_sortsOf_2 : decode cX9_sortsOf 2 = .ok (.istore_n 2, 1) := by decide +kernel
theorem dX9_sortsOf_3 : decode cX9_sortsOf 3 = .ok (.iconst 0, 1) := by decide +kernel
theorem dX9_sortsOf_4 : decode cX9_sortsOf 4 = .ok (.istore_n 3, 1) := by decide +kernel
theorem dX9_sortsOf_5 : decode cX9_sortsOf 5 = .ok (.iload_n 3, 1) := by decide +kernel
theorem dX9_sortsOf_6 : decode cX9_sortsOf 6 = .ok (.iconst 3, 1) := by decide +kernel
theorem dX9_sortsOf_7 : decode cX9_sortsOf 7 = .ok (.aload_n 0, 1) := by decide +kernel
theorem dX9_sortsOf_8 : decode cX9_sortsOf 8 = .ok (.getfield 157, 3) := by decide +kernel
theorem dX9_sortsOf_11 : decode cX9_sortsOf 11 = .ok (.imul, 1) := by decide +kernel
theorem dX9_sortsOf_12 : decode cX9_sortsOf 12 = .ok (.if_icmp .ge 57, 3) := by decide +kernel
theorem dX9_sortsOf_15 : decode cX9_sortsOf 15 = .ok (.aload_n 0, 1) := by decide +kernel
theorem dX9_sortsOf_16 : decode cX9_sortsOf 16 = .ok (.getfield 67, 3) := by decide +kernel
theorem dX9_sortsOf_19 : decode cX9_sortsOf 19 = .ok (.iload_n 3, 1) := by decide +kernel
theorem dX9_sortsOf_20 : decode cX9_sortsOf 20 = .ok (.iaload, 1) := by decide +kernel
theorem dX9_sortsOf_21 : decode cX9_sortsOf 21 = .ok (.iload_n 1, 1) := by decide +kernel
theorem dX9_sortsOf_22 : decode cX9_sortsOf 22 = .ok (.if_icmp .ne 41, 3) := by decide +kernel
theorem dX9_sortsOf_25 : decode cX9_sortsOf 25 = .ok (.aload_n 0, 1) := by decide +kernel
theorem dX9_sortsOf_26 : decode cX9_sortsOf 26 = .ok (.getfield 67, 3) := by decide +kernel
theorem dX9_sortsOf_29 : decode cX9_sortsOf 29 = .ok (.iload_n 3, 1) := by decide +kernel
theorem dX9_sortsOf_30 : decode cX9_sortsOf 30 = .ok (.iconst 1, 1) := by decide +kernel
theorem dX9_sortsOf_31 : decode cX9_sortsOf 31 = .ok (.iadd, 1) := by decide +kernel
theorem dX9_sortsOf_32 : decode cX9_sortsOf 32 = .ok (.iaload, 1) := by decide +kernel
theorem dX9_sortsOf_33 : decode cX9_sortsOf 33 = .ok (.invokestatic 271, 3) := by decide +kernel
theorem dX9_sortsOf_36 : decode cX9_sortsOf 36 = .ok (.istore 4, 2) := by decide +kernel
theorem dX9_sortsOf_38 : decode cX9_sortsOf 38 = .ok (.iload_n 2, 1) := by decide +kernel
theorem dX9_sortsOf_39 : decode cX9_sortsOf 39 = .ok (.aload_n 0, 1) := by decide +kernel
theorem dX9_sortsOf_40 : decode cX9_sortsOf 40 = .ok (.getfield 67, 3) := by decide +kernel
theorem dX9_sortsOf_43 : decode cX9_sortsOf 43 = .ok (.iload_n 3, 1) := by decide +kernel
theorem dX9_sortsOf_44 : decode cX9_sortsOf 44 = .ok (.iconst 2, 1) := by decide +kernel
theorem dX9_sortsOf_45 : decode cX9_sortsOf 45 = .ok (.iadd, 1) := by decide +kernel
theorem dX9_sortsOf_46 : decode cX9_sortsOf 46 = .ok (.iaload, 1) := by decide +kernel
theorem dX9_sortsOf_47 : decode cX9_sortsOf 47 = .ok (.iconst 1, 1) := by decide +kernel
theorem dX9_sortsOf_48 : decode cX9_sortsOf 48 = .ok (.if_icmp .ne 8, 3) := by decide +kernel
theorem dX9_sortsOf_51 : decode cX9_sortsOf 51 = .ok (.iload 4, 2) := by decide +kernel
theorem dX9_sortsOf_53 : decode cX9_sortsOf 53 = .ok (.goto 8, 3) := by decide +kernel
theorem dX9_sortsOf_56 : decode cX9_sortsOf 56 = .ok (.bipush 31, 2) := by decide +kernel
theorem dX9_sortsOf_58 : decode cX9_sortsOf 58 = .ok (.iload 4, 2) := by decide +kernel
theorem dX9_sortsOf_60 : decode cX9_sortsOf 60 = .ok (.isub, 1) := by decide +kernel
theorem dX9_sortsOf_61 : decode cX9_sortsOf 61 = .ok (.iand, 1) := by decide +kernel
theorem dX9_sortsOf_62 : decode cX9_sortsOf 62 = .ok (.istore_n 2, 1) := by decide +kernel
theorem dX9_sortsOf_63 : decode cX9_sortsOf 63 = .ok (.iinc 3 3, 3) := by decide +kernel
theorem dX9_sortsOf_66 : decode cX9_sortsOf 66 = .ok (.goto (-61), 3) := by decide +kernel
theorem dX9_sortsOf_69 : decode cX9_sortsOf 69 = .ok (.iload_n 2, 1) := by decide +kernel
theorem dX9_sortsOf_70 : decode cX9_sortsOf 70 = .ok (.ireturn, 1) := by decide +kernel
theorem dX9_ones_0 : decode cX9_ones 0 = .ok (.iconst 0, 1) := by decide +kernel
theorem dX9_ones_1 : decode cX9_ones 1 = .ok (.istore_n 1, 1) := by decide +kernel
theorem dX9_ones_2 : decode cX9_ones 2 = .ok (.iconst 0, 1) := by decide +kernel
theorem dX9_ones_3 : decode cX9_ones 3 = .ok (.istore_n 2, 1) := by decide +kernel
theorem dX9_ones_4 : decode cX9_ones 4 = .ok (.iload_n 2, 1) := by decide +kernel
theorem dX9_ones_5 : decode cX9_ones 5 = .ok (.iconst 5, 1) := by decide +kernel
theorem dX9_ones_6 : decode cX9_ones 6 = .ok (.if_icmp .ge 17, 3) := by decide +kernel
theorem dX9_ones_9 : decode cX9_ones 9 = .ok (.iload_n 1, 1) := by decide +kernel
theorem dX9_ones_10 : decode cX9_ones 10 = .ok (.iload_n 0, 1) := by decide +kernel
theorem dX9_ones_11 : decode cX9_ones 11 = .ok (.iload_n 2, 1) := by decide +kernel
theorem dX9_ones_12 : decode cX9_ones 12 = .ok (.ishr, 1) := by decide +kernel
theorem dX9_ones_13 : decode cX9_ones 13 = .ok (.iconst 1, 1) := by decide +kernel
theorem dX9_ones_14 : decode cX9_ones 14 = .ok (.iand, 1) := by decide +kernel
theorem dX9_ones_15 : decode cX9_ones 15 = .ok (.iadd, 1) := by decide +kernel
theorem dX9_ones_16 : decode cX9_ones 16 = .ok (.istore_n 1, 1) := by decide +kernel
theorem dX9_ones_17 : decode cX9_ones 17 = .ok (.iinc 2 1, 3) := by decide +kernel
theorem dX9_ones_20 : decode cX9_ones 20 = .ok (.goto (-16), 3) := by decide +kernel
theorem dX9_ones_23 : decode cX9_ones 23 = .ok (.iload_n 1, 1) := by decide +kernel
theorem dX9_ones_24 : decode cX9_ones 24 = .ok (.ireturn, 1) := by decide +kernel
set_option maxRecDepth 20000 in
theorem ggX9_askOf_X9_sortsOf : GoodIn wsX9_askOf wsX9_sortsOf := goodIn_r _ [5, 6, 7, 8, 9, 4, 10, 14, 15, 16, 17, 18, 19, 20, 21, 22, 23, 24, 25, 26, 27, 28, 29, 30, 31, 32, 33, 34, 35, 36, 37, 38, 39, 40, 41, 42, 43, 44, 45, 46, 47, 48, 49, 50, 51, 52, 53, 54] (by decide +kernel) (by decide +kernel)
set_option maxRecDepth 20000 in
theorem gX9_askOf_X9_sortsOf : GoodIn wsX9_askOf (wsV RX9 250 RX9 yX9_sortsOf wsX9_sortsOf) := goodIn_app (goodIn_of _ (by decide +kernel)) ggX9_askOf_X9_sortsOf
set_option maxRecDepth 20000 in
theorem ggX9_askOf_X9_sortsBy : GoodIn wsX9_askOf wsX9_sortsBy := goodIn_r _ [10] (by decide +kernel) (by decide +kernel)
set_option maxRecDepth 20000 in
theorem gX9_askOf_X9_sortsBy : GoodIn wsX9_askOf (va_wsS RX9 271 yX9_sortsBy wsX9_sortsBy) := goodIn_app (goodIn_of _ (by decide +kernel)) ggX9_askOf_X9_sortsBy
set_option maxRecDepth 20000 in
theorem ggX9_askOf_X9_ones : GoodIn wsX9_askOf wsX9_ones := goodIn_r _ [13] (by decide +kernel) (by decide +kernel)
set_option maxRecDepth 20000 in
theorem gX9_askOf_X9_ones : GoodIn wsX9_askOf (va_wsS RX9 274 yX9_ones wsX9_ones) := goodIn_app (goodIn_of _ (by decide +kernel)) ggX9_askOf_X9_ones
theorem dX9_askOf_0 : decode cX9_askOf 0 = .ok (.aload_n 0, 1) := by decide +kernel
theorem dX9_askOf_1 : decode cX9_askOf 1 = .ok (.iload_n 1, 1) := by decide +kernel
theorem dX9_askOf_2 : decode cX9_askOf 2 = .ok (.invokevirtual 250, 3) := by decide +kernel
theorem dX9_askOf_5 : decode cX9_askOf 5 = .ok (.istore_n 2, 1) := by decide +kernel
theorem dX9_askOf_6 : decode cX9_askOf 6 = .ok (.iconst (-1), 1) := by decide +kernel
theorem dX9_askOf_7 : decode cX9_askOf 7 = .ok (.istore_n 3, 1) := by decide +kernel
theorem dX9_askOf_8 : decode cX9_askOf 8 = .ok (.bipush 6, 2) := by decide +kernel
theorem dX9_askOf_10 : decode cX9_askOf 10 = .ok (.istore 4, 2) := by decide +kernel
theorem dX9_askOf_12 : decode cX9_askOf 12 = .ok (.iconst 0, 1) := by decide +kernel
theorem dX9_askOf_13 : decode cX9_askOf 13 = .ok (.istore 5, 2) := by decide +kernel
theorem dX9_askOf_15 : decode cX9_askOf 15 = .ok (.iload 5, 2) := by decide +kernel
theorem dX9_askOf_17 : decode cX9_askOf 17 = .ok (.iconst 4, 1) := by decide +kernel
theorem dX9_askOf_18 : decode cX9_askOf 18 = .ok (.if_icmp .ge 80, 3) := by decide +kernel
theorem dX9_askOf_21 : decode cX9_askOf 21 = .ok (.iload_n 2, 1) := by decide +kernel
theorem dX9_askOf_22 : decode cX9_askOf 22 = .ok (.ifCond .eq 76, 3) := by decide +kernel
theorem dX9_askOf_25 : decode cX9_askOf 25 = .ok (.iload_n 2, 1) := by decide +kernel
theorem dX9_askOf_26 : decode cX9_askOf 26 = .ok (.iload 5, 2) := by decide +kernel
theorem dX9_askOf_28 : decode cX9_askOf 28 = .ok (.invokestatic 271, 3) := by decide +kernel
theorem dX9_askOf_31 : decode cX9_askOf 31 = .ok (.iand, 1) := by decide +kernel
theorem dX9_askOf_32 : decode cX9_askOf 32 = .ok (.invokestatic 274, 3) := by decide +kernel
theorem dX9_askOf_35 : decode cX9_askOf 35 = .ok (.istore 6, 2) := by decide +kernel
theorem dX9_askOf_37 : decode cX9_askOf 37 = .ok (.iload_n 2, 1) := by decide +kernel
theorem dX9_askOf_38 : decode cX9_askOf 38 = .ok (.invokestatic 274, 3) := by decide +kernel
theorem dX9_askOf_41 : decode cX9_askOf 41 = .ok (.iload 6, 2) := by decide +kernel
theorem dX9_askOf_43 : decode cX9_askOf 43 = .ok (.isub, 1) := by decide +kernel
theorem dX9_askOf_44 : decode cX9_askOf 44 = .ok (.istore 7, 2) := by decide +kernel
theorem dX9_askOf_46 : decode cX9_askOf 46 = .ok (.iload 6, 2) := by decide +kernel
theorem dX9_askOf_48 : decode cX9_askOf 48 = .ok (.iload 7, 2) := by decide +kernel
theorem dX9_askOf_50 : decode cX9_askOf 50 = .ok (.if_icmp .le 8, 3) := by decide +kernel
theorem dX9_askOf_53 : decode cX9_askOf 53 = .ok (.iload 6, 2) := by decide +kernel
theorem dX9_askOf_55 : decode cX9_askOf 55 = .ok (.goto 5, 3) := by decide +kernel
theorem dX9_askOf_58 : decode cX9_askOf 58 = .ok (.iload 7, 2) := by decide +kernel
theorem dX9_askOf_60 : decode cX9_askOf 60 = .ok (.istore 8, 2) := by decide +kernel
theorem dX9_askOf_62 : decode cX9_askOf 62 = .ok (.iload 8, 2) := by decide +kernel
theorem dX9_askOf_64 : decode cX9_askOf 64 = .ok (.iload 4, 2) := by decide +kernel
theorem dX9_askOf_66 : decode cX9_askOf 66 = .ok (.if_icmp .ge 8, 3) := by decide +kernel
theorem dX9_askOf_69 : decode cX9_askOf 69 = .ok (.iload 5, 2) := by decide +kernel
theorem dX9_askOf_71 : decode cX9_askOf 71 = .ok (.goto 4, 3) := by decide +kernel
theorem dX9_askOf_74 : decode cX9_askOf 74 = .ok (.iload_n 3, 1) := by decide +kernel
theorem dX9_askOf_75 : decode cX9_askOf 75 = .ok (.istore_n 3, 1) := by decide +kernel
theorem dX9_askOf_76 : decode cX9_askOf 76 = .ok (.iload 8, 2) := by decide +kernel
theorem dX9_askOf_78 : decode cX9_askOf 78 = .ok (.iload 4, 2) := by decide +kernel
theorem dX9_askOf_80 : decode cX9_askOf 80 = .ok (.if_icmp .ge 8, 3) := by decide +kernel
theorem dX9_askOf_83 : decode cX9_askOf 83 = .ok (.iload 8, 2) := by decide +kernel
theorem dX9_askOf_85 : decode cX9_askOf 85 = .ok (.goto 5, 3) := by decide +kernel
theorem dX9_askOf_88 : decode cX9_askOf 88 = .ok (.iload 4, 2) := by decide +kernel
theorem dX9_askOf_90 : decode cX9_askOf 90 = .ok (.istore 4, 2) := by decide +kernel
theorem dX9_askOf_92 : decode cX9_askOf 92 = .ok (.iinc 5 1, 3) := by decide +kernel
theorem dX9_askOf_95 : decode cX9_askOf 95 = .ok (.goto (-80), 3) := by decide +kernel
theorem dX9_askOf_98 : decode cX9_askOf 98 = .ok (.iload_n 3, 1) := by decide +kernel
theorem dX9_askOf_99 : decode cX9_askOf 99 = .ok (.ireturn, 1) := by decide +kernel
theorem dX9_draw_0 : decode cX9_draw 0 = .ok (.aload_n 0, 1) := by decide +kernel
theorem dX9_draw_1 : decode cX9_draw 1 = .ok (.ldc2_w 277, 3) := by decide +kernel
theorem dX9_draw_4 : decode cX9_draw 4 = .ok (.aload_n 0, 1) := by decide +kernel
theorem dX9_draw_5 : decode cX9_draw 5 = .ok (.getfield 279, 3) := by decide +kernel
theorem dX9_draw_8 : decode cX9_draw 8 = .ok (.i2l, 1) := by decide +kernel
theorem dX9_draw_9 : decode cX9_draw 9 = .ok (.lmul, 1) := by decide +kernel
theorem dX9_draw_10 : decode cX9_draw 10 = .ok (.ldc2_w 282, 3) := by decide +kernel
theorem dX9_draw_13 : decode cX9_draw 13 = .ok (.ladd, 1) := by decide +kernel
theorem dX9_draw_14 : decode cX9_draw 14 = .ok (.ldc2_w 284, 3) := by decide +kernel
theorem dX9_draw_17 : decode cX9_draw 17 = .ok (.land, 1) := by decide +kernel
theorem dX9_draw_18 : decode cX9_draw 18 = .ok (.l2i, 1) := by decide +kernel
theorem dX9_draw_19 : decode cX9_draw 19 = .ok (.putfield 279, 3) := by decide +kernel
theorem dX9_draw_22 : decode cX9_draw 22 = .ok (.aload_n 0, 1) := by decide +kernel
theorem dX9_draw_23 : decode cX9_draw 23 = .ok (.getfield 279, 3) := by decide +kernel
theorem dX9_draw_26 : decode cX9_draw 26 = .ok (.ldc_w 286, 3) := by decide +kernel
theorem dX9_draw_29 : decode cX9_draw 29 = .ok (.idiv, 1) := by decide +kernel
theorem dX9_draw_30 : decode cX9_draw 30 = .ok (.iload_n 1, 1) := by decide +kernel
theorem dX9_draw_31 : decode cX9_draw 31 = .ok (.irem, 1) := by decide +kernel
theorem dX9_draw_32 : decode cX9_draw 32 = .ok (.ireturn, 1) := by decide +kernel
set_option maxRecDepth 20000 in
theorem ggX9_drawn_X9_in : GoodIn wsX9_drawn wsX9_in := goodIn_r _ [9] (by decide +kernel) (by decide +kernel)
set_option maxRecDepth 20000 in
theorem gX9_drawn_X9_in : GoodIn wsX9_drawn (va_wsS RX9 88 yX9_in wsX9_in) := goodIn_app (goodIn_of _ (by decide +kernel)) ggX9_drawn_X9_in
set_option maxRecDepth 20000 in
theorem ggX9_drawn_X9_draw : GoodIn wsX9_drawn wsX9_draw := goodIn_r _ [13, 14, 3, 15, 16, 17, 52, 53, 54, 55, 56, 57, 58, 59, 60, 61, 62, 63, 64, 65, 66, 67, 68, 69, 70, 71, 72, 73, 74, 75, 76, 77, 78, 79, 80, 81, 82, 83, 84, 85, 86, 87, 88, 89, 90, 91, 92] (by decide +kernel) (by decide +kernel)
set_option maxRecDepth 20000 in
theorem gX9_drawn_X9_draw : GoodIn wsX9_drawn (wsV RX9 289 RX9 yX9_draw wsX9_draw) := goodIn_app (goodIn_of _ (by decide +kernel)) ggX9_drawn_X9_draw
set_option maxRecDepth 20000 in
theorem ggX9_drawn_X9_rebuild : GoodIn wsX9_drawn wsX9_rebuild := goodIn_r _ [21, 5, 22, 23, 24, 25, 8, 26, 4, 27, 28, 29, 30, 31, 32, 33, 34, 35, 36, 37, 38, 39, 40, 41, 42, 43, 44, 6, 7, 9, 45, 46, 47, 48, 49, 50, 51, 52, 53, 54, 55, 56, 57, 58, 59, 60, 61, 62, 63, 64, 65, 66, 67, 68, 69, 70, 71, 72, 73, 74, 75, 76, 77, 78, 79, 80, 81, 82, 83, 84, 85, 86, 87, 88, 89, 90, 91, 92] (by decide +kernel) (by decide +kernel)
set_option maxRecDepth 20000 in
theorem gX9_drawn_X9_rebuild : GoodIn wsX9_drawn (wsV RX9 199 RX9 yX9_rebuild wsX9_rebuild) := goodIn_app (goodIn_of _ (by decide +kernel)) ggX9_drawn_X9_rebuild
theorem dX9_drawn_0 : decode cX9_drawn 0 = .ok (.iload_n 1, 1) := by decide +kernel
theorem dX9_drawn_1 : decode cX9_drawn 1 = .ok (.i2l, 1) := by decide +kernel
theorem dX9_drawn_2 : decode cX9_drawn 2 = .ok (.lconst 1, 1) := by decide +kernel
theorem dX9_drawn_3 : decode cX9_drawn 3 = .ok (.ldc2_w 287, 3) := by decide +kernel
theorem dX9_drawn_6 : decode cX9_drawn 6 = .ok (.invokestatic 88, 3) := by decide +kernel
theorem dX9_drawn_9 : decode cX9_drawn 9 = .ok (.ifCond .eq 19, 3) := by decide +kernel
theorem dX9_drawn_12 : decode cX9_drawn 12 = .ok (.iload_n 2, 1) := by decide +kernel
theorem dX9_drawn_13 : decode cX9_drawn 13 = .ok (.ifCond .lt 15, 3) := by decide +kernel
theorem dX9_drawn_16 : decode cX9_drawn 16 = .ok (.iload_n 3, 1) := by decide +kernel
theorem dX9_drawn_17 : decode cX9_drawn 17 = .ok (.i2l, 1) := by decide +kernel
theorem dX9_drawn_18 : decode cX9_drawn 18 = .ok (.lconst 0, 1) := by decide +kernel
theorem dX9_drawn_19 : decode cX9_drawn 19 = .ok (.ldc2_w 221, 3) := by decide +kernel
theorem dX9_drawn_22 : decode cX9_drawn 22 = .ok (.invokestatic 88, 3) := by decide +kernel
theorem dX9_drawn_25 : decode cX9_drawn 25 = .ok (.ifCond .ne 6, 3) := by decide +kernel
theorem dX9_drawn_28 : decode cX9_drawn 28 = .ok (.bipush (-102), 2) := by decide +kernel
theorem dX9_drawn_30 : decode cX9_drawn 30 = .ok (.ireturn, 1) := by decide +kernel
theorem dX9_drawn_31 : decode cX9_drawn 31 = .ok (.aload_n 0, 1) := by decide +kernel
theorem dX9_drawn_32 : decode cX9_drawn 32 = .ok (.iload_n 2, 1) := by decide +kernel
theorem dX9_drawn_33 : decode cX9_drawn 33 = .ok (.putfield 279, 3) := by decide +kernel
theorem dX9_drawn_36 : decode cX9_drawn 36 = .ok (.iconst 0, 1) := by decide +kernel
theorem dX9_drawn_37 : decode cX9_drawn 37 = .ok (.istore 4, 2) := by decide +kernel
theorem dX9_drawn_39 : decode cX9_drawn 39 = .ok (.iconst 0, 1) := by decide +kernel
theorem dX9_drawn_40 : decode cX9_drawn 40 = .ok (.istore 5, 2) := by decide +kernel
theorem dX9_drawn_42 : decode cX9_drawn 42 = .ok (.iconst 0, 1) := by decide +kernel
theorem dX9_drawn_43 : decode cX9_drawn 43 = .ok (.istore 6, 2) := by decide +kernel
theorem dX9_drawn_45 : decode cX9_drawn 45 = .ok (.iload 6, 2) := by decide +kernel
theorem dX9_drawn_47 : decode cX9_drawn 47 = .ok (.iload_n 1, 1) := by decide +kernel
theorem dX9_drawn_48 : decode cX9_drawn 48 = .ok (.if_icmp .ge 109, 3) := by decide +kernel
theorem dX9_drawn_51 : decode cX9_drawn 51 = .ok (.iconst 0, 1) := by decide +kernel
theorem dX9_drawn_52 : decode cX9_drawn 52 = .ok (.istore 7, 2) := by decide +kernel
theorem dX9_drawn_54 : decode cX9_drawn 54 = .ok (.iload 7, 2) := by decide +kernel
theorem dX9_drawn_56 : decode cX9_drawn 56 = .ok (.iconst 4, 1) := by decide +kernel
theorem dX9_drawn_57 : decode cX9_drawn 57 = .ok (.if_icmp .ge 22, 3) := by decide +kernel
theorem dX9_drawn_60 : decode cX9_drawn 60 = .ok (.aload_n 0, 1) := by decide +kernel
theorem dX9_drawn_61 : decode cX9_drawn 61 = .ok (.getfield 37, 3) := by decide +kernel
theorem dX9_drawn_64 : decode cX9_drawn 64 = .ok (.iload 7, 2) := by decide +kernel
theorem dX9_drawn_66 : decode cX9_drawn 66 = .ok (.aload_n 0, 1) := by decide +kernel
theorem dX9_drawn_67 : decode cX9_drawn 67 = .ok (.bipush 9, 2) := by decide +kernel
theorem dX9_drawn_69 : decode cX9_drawn 69 = .ok (.invokevirtual 289, 3) := by decide +kernel
theorem dX9_drawn_72 : decode cX9_drawn 72 = .ok (.iastore, 1) := by decide +kernel
theorem dX9_drawn_73 : decode cX9_drawn 73 = .ok (.iinc 7 1, 3) := by decide +kernel
theorem dX9_drawn_76 : decode cX9_drawn 76 = .ok (.goto (-22), 3) := by decide +kernel
theorem dX9_drawn_79 : decode cX9_drawn 79 = .ok (.iload 4, 2) := by decide +kernel
theorem dX9_drawn_81 : decode cX9_drawn 81 = .ok (.aload_n 0, 1) := by decide +kernel
theorem dX9_drawn_82 : decode cX9_drawn 82 = .ok (.iconst 4, 1) := by decide +kernel
theorem dX9_drawn_83 : decode cX9_drawn 83 = .ok (.invokevirtual 199, 3) := by decide +kernel
theorem dX9_drawn_86 : decode cX9_drawn 86 = .ok (.iadd, 1) := by decide +kernel
theorem dX9_drawn_87 : decode cX9_drawn 87 = .ok (.istore 4, 2) := by decide +kernel
theorem dX9_drawn_89 : decode cX9_drawn 89 = .ok (.iconst 1, 1) := by decide +kernel
theorem dX9_drawn_90 : decode cX9_drawn 90 = .ok (.istore 7, 2) := by decide +kernel
theorem dX9_drawn_92 : decode cX9_drawn 92 = .ok (.iconst 0, 1) := by decide +kernel
theorem dX9_drawn_93 : decode cX9_drawn 93 = .ok (.istore 8, 2) := by decide +kernel
theorem dX9_drawn_95 : decode cX9_drawn 95 = .ok (.iload 8, 2) := by decide +kernel
theorem dX9_drawn_97 : decode cX9_drawn 97 = .ok (.iconst 4, 1) := by decide +kernel
theorem dX9_drawn_98 : decode cX9_drawn 98 = .ok (.if_icmp .ge 38, 3) := by decide +kernel
theorem dX9_drawn_101 : decode cX9_drawn 101 = .ok (.iload 7, 2) := by decide +kernel
theorem dX9_drawn_103 : decode cX9_drawn 103 = .ok (.ifCond .eq 24, 3) := by decide +kernel
theorem dX9_drawn_106 : decode cX9_drawn 106 = .ok (.aload_n 0, 1) := by decide +kernel
theorem dX9_drawn_107 : decode cX9_drawn 107 = .ok (.getfield 37, 3) := by decide +kernel
theorem dX9_drawn_110 : decode cX9_drawn 110 = .ok (.iload 8, 2) := by decide +kernel
theorem dX9_drawn_112 : decode cX9_drawn 112 = .ok (.iaload, 1) := by decide +kernel
theorem dX9_drawn_113 : decode cX9_drawn 113 = .ok (.aload_n 0, 1) := by decide +kernel
theorem dX9_drawn_114 : decode cX9_drawn 114 = .ok (.getfield 34, 3) := by decide +kernel
theorem dX9_drawn_117 : decode cX9_drawn 117 = .ok (.bipush 6, 2) := by decide +kernel
theorem dX9_drawn_119 : decode cX9_drawn 119 = .ok (.iaload, 1) := by decide +kernel
theorem dX9_drawn_120 : decode cX9_drawn 120 = .ok (.if_icmp .eq 7, 3) := by decide +kernel
theorem dX9_drawn_123 : decode cX9_drawn 123 = .ok (.iconst 1, 1) := by decide +kernel
theorem dX9_drawn_124 : decode cX9_drawn 124 = .ok (.goto 4, 3) := by decide +kernel
theorem dX9_drawn_127 : decode cX9_drawn 127 = .ok (.iconst 0, 1) := by decide +kernel
theorem dX9_drawn_128 : decode cX9_drawn 128 = .ok (.istore 7, 2) := by decide +kernel
theorem dX9_drawn_130 : decode cX9_drawn 130 = .ok (.iinc 8 1, 3) := by decide +kernel
theorem dX9_drawn_133 : decode cX9_drawn 133 = .ok (.goto (-38), 3) := by decide +kernel
theorem dX9_drawn_136 : decode cX9_drawn 136 = .ok (.iload 5, 2) := by decide +kernel
theorem dX9_drawn_138 : decode cX9_drawn 138 = .ok (.iload 7, 2) := by decide +kernel
theorem dX9_drawn_140 : decode cX9_drawn 140 = .ok (.ifCond .eq 7, 3) := by decide +kernel
theorem dX9_drawn_143 : decode cX9_drawn 143 = .ok (.iconst 1, 1) := by decide +kernel
theorem dX9_drawn_144 : decode cX9_drawn 144 = .ok (.goto 4, 3) := by decide +kernel
theorem dX9_drawn_147 : decode cX9_drawn 147 = .ok (.iconst 0, 1) := by decide +kernel
theorem dX9_drawn_148 : decode cX9_drawn 148 = .ok (.iadd, 1) := by decide +kernel
theorem dX9_drawn_149 : decode cX9_drawn 149 = .ok (.istore 5, 2) := by decide +kernel
theorem dX9_drawn_151 : decode cX9_drawn 151 = .ok (.iinc 6 1, 3) := by decide +kernel
theorem dX9_drawn_154 : decode cX9_drawn 154 = .ok (.goto (-109), 3) := by decide +kernel
theorem dX9_drawn_157 : decode cX9_drawn 157 = .ok (.iload_n 3, 1) := by decide +kernel
theorem dX9_drawn_158 : decode cX9_drawn 158 = .ok (.ifCond .ne 8, 3) := by decide +kernel
theorem dX9_drawn_161 : decode cX9_drawn 161 = .ok (.iload 4, 2) := by decide +kernel
theorem dX9_drawn_163 : decode cX9_drawn 163 = .ok (.goto 17, 3) := by decide +kernel
theorem dX9_drawn_166 : decode cX9_drawn 166 = .ok (.iload_n 3, 1) := by decide +kernel
theorem dX9_drawn_167 : decode cX9_drawn 167 = .ok (.iconst 1, 1) := by decide +kernel
theorem dX9_drawn_168 : decode cX9_drawn 168 = .ok (.if_icmp .ne 8, 3) := by decide +kernel
theorem dX9_drawn_171 : decode cX9_drawn 171 = .ok (.iload 5, 2) := by decide +kernel
theorem dX9_drawn_173 : decode cX9_drawn 173 = .ok (.goto 7, 3) := by decide +kernel
theorem dX9_drawn_176 : decode cX9_drawn 176 = .ok (.aload_n 0, 1) := by decide +kernel
theorem dX9_drawn_177 : decode cX9_drawn 177 = .ok (.getfield 279, 3) := by decide +kernel
theorem dX9_drawn_180 : decode cX9_drawn 180 = .ok (.ireturn, 1) := by decide +kernel
set_option maxRecDepth 20000 in
theorem ggX9_image_X9_lacks : GoodIn wsX9_image wsX9_lacks := goodIn_r _ [21, 9, 25, 26, 27, 28, 29, 30, 31, 32, 33, 34, 35, 36, 37, 38, 39, 40, 41, 42, 43, 44, 45, 46, 47, 48, 49, 50, 51, 52, 53, 54, 55, 56, 57, 58, 59, 60, 61, 62, 63, 64, 65] (by decide +kernel) (by decide +kernel)
set_option maxRecDepth 20000 in
theorem gX9_image_X9_lacks : GoodIn wsX9_image (wsV RX9 292 RX9 yX9_lacks wsX9_lacks) := goodIn_app (goodIn_of _ (by decide +kernel)) ggX9_image_X9_lacks
set_option maxRecDepth 20000 in
theorem ggX9_image_X9_copyRow : GoodIn wsX9_image wsX9_copyRow := goodIn_r _ [24] (by decide +kernel) (by decide +kernel)
set_option maxRecDepth 20000 in
theorem gX9_image_X9_copyRow : GoodIn wsX9_image (va_wsS RX9 295 yX9_copyRow wsX9_copyRow) := goodIn_app (goodIn_of _ (by decide +kernel)) ggX9_image_X9_copyRow
theorem dX9_image_0 : decode cX9_image 0 = .ok (.aload_n 0, 1) := by decide +kernel
theorem dX9_image_1 : decode cX9_image 1 = .ok (.invokevirtual 292, 3) := by decide +kernel
theorem dX9_image_4 : decode cX9_image 4 = .ok (.ifCond .eq 6, 3) := by decide +kernel
theorem dX9_image_7 : decode cX9_image 7 = .ok (.bipush (-103), 2) := by decide +kernel
theorem dX9_image_9 : decode cX9_image 9 = .ok (.ireturn, 1) := by decide +kernel
theorem dX9_image_10 : decode cX9_image 10 = .ok (.aload_n 0, 1) := by decide +kernel
theorem dX9_image_11 : decode cX9_image 11 = .ok (.getfield 22, 3) := by decide +kernel
theorem dX9_image_14 : decode cX9_image 14 = .ok (.aload_n 0, 1) := by decide +kernel
theorem dX9_image_15 : decode cX9_image 15 = .ok (.getfield 70, 3) := by decide +kernel
theorem dX9_image_18 : decode cX9_image 18 = .ok (.invokestatic 295, 3) := by decide +kernel
theorem dX9_image_21 : decode cX9_image 21 = .ok (.aload_n 0, 1) := by decide +kernel
theorem dX9_image_22 : decode cX9_image 22 = .ok (.getfield 25, 3) := by decide +kernel
theorem dX9_image_25 : decode cX9_image 25 = .ok (.aload_n 0, 1) := by decide +kernel
theorem dX9_image_26 : decode cX9_image 26 = .ok (.getfield 73, 3) := by decide +kernel
theorem dX9_image_29 : decode cX9_image 29 = .ok (.invokestatic 295, 3) := by decide +kernel
theorem dX9_image_32 : decode cX9_image 32 = .ok (.aload_n 0, 1) := by decide +kernel
theorem dX9_image_33 : decode cX9_image 33 = .ok (.getfield 28, 3) := by decide +kernel
theorem dX9_image_36 : decode cX9_image 36 = .ok (.aload_n 0, 1) := by decide +kernel
theorem dX9_image_37 : decode cX9_image 37 = .ok (.getfield 76, 3) := by decide +kernel
theorem dX9_image_40 : decode cX9_image 40 = .ok (.invokestatic 295, 3) := by decide +kernel
theorem dX9_image_43 : decode cX9_image 43 = .ok (.aload_n 0, 1) := by decide +kernel
theorem dX9_image_44 : decode cX9_image 44 = .ok (.getfield 67, 3) := by decide +kernel
theorem dX9_image_47 : decode cX9_image 47 = .ok (.aload_n 0, 1) := by decide +kernel
theorem dX9_image_48 : decode cX9_image 48 = .ok (.getfield 79, 3) := by decide +kernel
theorem dX9_image_51 : decode cX9_image 51 = .ok (.invokestatic 295, 3) := by decide +kernel
theorem dX9_image_54 : decode cX9_image 54 = .ok (.aload_n 0, 1) := by decide +kernel
theorem dX9_image_55 : decode cX9_image 55 = .ok (.aload_n 0, 1) := by decide +kernel
theorem dX9_image_56 : decode cX9_image 56 = .ok (.getfield 147, 3) := by decide +kernel
theorem dX9_image_59 : decode cX9_image 59 = .ok (.putfield 299, 3) := by decide +kernel
theorem dX9_image_62 : decode cX9_image 62 = .ok (.aload_n 0, 1) := by decide +kernel
theorem dX9_image_63 : decode cX9_image 63 = .ok (.aload_n 0, 1) := by decide +kernel
theorem dX9_image_64 : decode cX9_image 64 = .ok (.getfield 150, 3) := by decide +kernel
theorem dX9_image_67 : decode cX9_image 67 = .ok (.putfield 302, 3) := by decide +kernel
theorem dX9_image_70 : decode cX9_image 70 = .ok (.aload_n 0, 1) := by decide +kernel
theorem dX9_image_71 : decode cX9_image 71 = .ok (.aload_n 0, 1) := by decide +kernel
theorem dX9_image_72 : decode cX9_image 72 = .ok (.getfield 157, 3) := by decide +kernel
theorem dX9_image_75 : decode cX9_image 75 = .ok (.putfield 305, 3) := by decide +kernel
theorem dX9_image_78 : decode cX9_image 78 = .ok (.aload_n 0, 1) := by decide +kernel
theorem dX9_image_79 : decode cX9_image 79 = .ok (.aload_n 0, 1) := by decide +kernel
theorem dX9_image_80 : decode cX9_image 80 = .ok (.getfield 160, 3) := by decide +kernel
theorem dX9_image_83 : decode cX9_image 83 = .ok (.putfield 82, 3) := by decide +kernel
theorem dX9_image_86 : decode cX9_image 86 = .ok (.aload_n 0, 1) := by decide +kernel
theorem dX9_image_87 : decode cX9_image 87 = .ok (.getfield 147, 3) := by decide +kernel
theorem dX9_image_90 : decode cX9_image 90 = .ok (.ireturn, 1) := by decide +kernel
set_option maxRecDepth 20000 in
theorem ggX9_restore_X9_copyRow : GoodIn wsX9_restore wsX9_copyRow := goodIn_r _ [21] (by decide +kernel) (by decide +kernel)
set_option maxRecDepth 20000 in
theorem gX9_restore_X9_copyRow : GoodIn wsX9_restore (va_wsS RX9 295 yX9_copyRow wsX9_copyRow) := goodIn_app (goodIn_of _ (by decide +kernel)) ggX9_restore_X9_copyRow
theorem dX9_restore_0 : decode cX9_restore 0 = .ok (.aload_n 0, 1) := by decide +kernel
theorem dX9_restore_1 : decode cX9_restore 1 = .ok (.getfield 82, 3) := by decide +kernel
theorem dX9_restore_4 : decode cX9_restore 4 = .ok (.aload_n 0, 1) := by decide +kernel
theorem dX9_restore_5 : decode cX9_restore 5 = .ok (.getfield 160, 3) := by decide +kernel
theorem dX9_restore_8 : decode cX9_restore 8 = .ok (.if_icmp .eq 6, 3) := by decide +kernel
theorem dX9_restore_11 : decode cX9_restore 11 = .ok (.bipush (-103), 2) := by decide +kernel
theorem dX9_restore_13 : decode cX9_restore 13 = .ok (.ireturn, 1) := by decide +kernel
theorem dX9_restore_14 : decode cX9_restore 14 = .ok (.aload_n 0, 1) := by decide +kernel
theorem dX9_restore_15 : decode cX9_restore 15 = .ok (.getfield 70, 3) := by decide +kernel
theorem dX9_restore_18 : decode cX9_restore 18 = .ok (.aload_n 0, 1) := by decide +kernel
theorem dX9_restore_19 : decode cX9_restore 19 = .ok (.getfield 22, 3) := by decide +kernel
theorem dX9_restore_22 : decode cX9_restore 22 = .ok (.invokestatic 295, 3) := by decide +kernel
theorem dX9_restore_25 : decode cX9_restore 25 = .ok (.aload_n 0, 1) := by decide +kernel
theorem dX9_restore_26 : decode cX9_restore 26 = .ok (.getfield 73, 3) := by decide +kernel
theorem dX9_restore_29 : decode cX9_restore 29 = .ok (.aload_n 0, 1) := by decide +kernel
theorem dX9_restore_30 : decode cX9_restore 30 = .ok (.getfield 25, 3) := by decide +kernel
theorem dX9_restore_33 : decode cX9_restore 33 = .ok (.invokestatic 295, 3) := by decide +kernel
theorem dX9_restore_36 : decode cX9_restore 36 = .ok (.aload_n 0, 1) := by decide +kernel
theorem dX9_restore_37 : decode cX9_restore 37 = .ok (.getfield 76, 3) := by decide +kernel
theorem dX9_restore_40 : decode cX9_restore 40 = .ok (.aload_n 0, 1) := by decide +kernel
theorem dX9_restore_41 : decode cX9_restore 41 = .ok (.getfield 28, 3) := by decide +kernel
theorem dX9_restore_44 : decode cX9_restore 44 = .ok (.invokestatic 295, 3) := by decide +kernel
theorem dX9_restore_47 : decode cX9_restore 47 = .ok (.aload_n 0, 1) := by decide +kernel
theorem dX9_restore_48 : decode cX9_restore 48 = .ok (.getfield 79, 3) := by decide +kernel
theorem dX9_restore_51 : decode cX9_restore 51 = .ok (.aload_n 0, 1) := by decide +kernel
theorem dX9_restore_52 : decode cX9_restore 52 = .ok (.getfield 67, 3) := by decide +kernel
theorem dX9_restore_55 : decode cX9_restore 55 = .ok (.invokestatic 295, 3) := by decide +kernel
theorem dX9_restore_58 : decode cX9_restore 58 = .ok (.aload_n 0, 1) := by decide +kernel
theorem dX9_restore_59 : decode cX9_restore 59 = .ok (.aload_n 0, 1) := by decide +kernel
theorem dX9_restore_60 : decode cX9_restore 60 = .ok (.getfield 299, 3) := by decide +kernel
theorem dX9_restore_63 : decode cX9_restore 63 = .ok (.putfield 147, 3) := by decide +kernel
theorem dX9_restore_66 : decode cX9_restore 66 = .ok (.aload_n 0, 1) := by decide +kernel
theorem dX9_restore_67 : decode cX9_restore 67 = .ok (.aload_n 0, 1) := by decide +kernel
theorem dX9_restore_68 : decode cX9_restore 68 = .ok (.getfield 302, 3) := by decide +kernel
theorem dX9_restore_71 : decode cX9_restore 71 = .ok (.putfield 150, 3) := by decide +kernel
theorem dX9_restore_74 : decode cX9_restore 74 = .ok (.aload_n 0, 1) := by decide +kernel
theorem dX9_restore_75 : decode cX9_restore 75 = .ok (.aload_n 0, 1) := by decide +kernel
theorem dX9_restore_76 : decode cX9_restore 76 = .ok (.getfield 305, 3) := by decide +kernel
theorem dX9_restore_79 : decode cX9_restore 79 = .ok (.putfield 157, 3) := by decide +kernel
theorem dX9_restore_82 : decode cX9_restore 82 = .ok (.aload_n 0, 1) := by decide +kernel
theorem dX9_restore_83 : decode cX9_restore 83 = .ok (.iconst 1, 1) := by decide +kernel
theorem dX9_restore_84 : decode cX9_restore 84 = .ok (.putfield 153, 3) := by decide +kernel
theorem dX9_restore_87 : decode cX9_restore 87 = .ok (.aload_n 0, 1) := by decide +kernel
theorem dX9_restore_88 : decode cX9_restore 88 = .ok (.getfield 147, 3) := by decide +kernel
theorem dX9_restore_91 : decode cX9_restore 91 = .ok (.ireturn, 1) := by decide +kernel
theorem dX9_sumLaws_0 : decode cX9_sumLaws 0 = .ok (.iconst 0, 1) := by decide +kernel
theorem dX9_sumLaws_1 : decode cX9_sumLaws 1 = .ok (.istore_n 2, 1) := by decide +kernel
theorem dX9_sumLaws_2 : decode cX9_sumLaws 2 = .ok (.iconst 0, 1) := by decide +kernel
theorem dX9_sumLaws_3 : decode cX9_sumLaws 3 = .ok (.istore_n 3, 1) := by decide +kernel
theorem dX9_sumLaws_4 : decode cX9_sumLaws 4 = .ok (.iload_n 3, 1) := by decide +kernel
theorem dX9_sumLaws_5 : decode cX9_sumLaws 5 = .ok (.bipush 18, 2) := by decide +kernel
theorem dX9_sumLaws_7 : decode cX9_sumLaws 7 = .ok (.aload_n 0, 1) := by decide +kernel
theorem dX9_sumLaws_8 : decode cX9_sumLaws 8 = .ok (.getfield 150, 3) := by decide +kernel
theorem dX9_sumLaws_11 : decode cX9_sumLaws 11 = .ok (.imul, 1) := by decide +kernel
theorem dX9_sumLaws_12 : decode cX9_sumLaws 12 = .ok (.if_icmp .ge 40, 3) := by decide +kernel
theorem dX9_sumLaws_15 : decode cX9_sumLaws 15 = .ok (.iload_n 2, 1) := by decide +kernel
theorem dX9_sumLaws_16 : decode cX9_sumLaws 16 = .ok (.iload_n 1, 1) := by decide +kernel
theorem dX9_sumLaws_17 : decode cX9_sumLaws 17 = .ok (.ifCond .eq 21, 3) := by decide +kernel
theorem dX9_sumLaws_20 : decode cX9_sumLaws 20 = .ok (.aload_n 0, 1) := by decide +kernel
theorem dX9_sumLaws_21 : decode cX9_sumLaws 21 = .ok (.getfield 46, 3) := by decide +kernel
theorem dX9_sumLaws_24 : decode cX9_sumLaws 24 = .ok (.iload_n 3, 1) := by decide +kernel
theorem dX9_sumLaws_25 : decode cX9_sumLaws 25 = .ok (.iaload, 1) := by decide +kernel
theorem dX9_sumLaws_26 : decode cX9_sumLaws 26 = .ok (.iconst (-1), 1) := by decide +kernel
theorem dX9_sumLaws_27 : decode cX9_sumLaws 27 = .ok (.if_icmp .ne 7, 3) := by decide +kernel
theorem dX9_sumLaws_30 : decode cX9_sumLaws 30 = .ok (.iconst 0, 1) := by decide +kernel
theorem dX9_sumLaws_31 : decode cX9_sumLaws 31 = .ok (.goto 13, 3) := by decide +kernel
theorem dX9_sumLaws_34 : decode cX9_sumLaws 34 = .ok (.iconst 1, 1) := by decide +kernel
theorem dX9_sumLaws_35 : decode cX9_sumLaws 35 = .ok (.goto 9, 3) := by decide +kernel
theorem dX9_sumLaws_38 : decode cX9_sumLaws 38 = .ok (.aload_n 0, 1) := by decide +kernel
theorem dX9_sumLaws_39 : decode cX9_sumLaws 39 = .ok (.getfield 52, 3) := by decide +kernel
theorem dX9_sumLaws_42 : decode cX9_sumLaws 42 = .ok (.iload_n 3, 1) := by decide +kernel
theorem dX9_sumLaws_43 : decode cX9_sumLaws 43 = .ok (.iaload, 1) := by decide +kernel
theorem dX9_sumLaws_44 : decode cX9_sumLaws 44 = .ok (.iadd, 1) := by decide +kernel
theorem dX9_sumLaws_45 : decode cX9_sumLaws 45 = .ok (.istore_n 2, 1) := by decide +kernel
theorem dX9_sumLaws_46 : decode cX9_sumLaws 46 = .ok (.iinc 3 1, 3) := by decide +kernel
theorem dX9_sumLaws_49 : decode cX9_sumLaws 49 = .ok (.goto (-45), 3) := by decide +kernel
theorem dX9_sumLaws_52 : decode cX9_sumLaws 52 = .ok (.iload_n 2, 1) := by decide +kernel
theorem dX9_sumLaws_53 : decode cX9_sumLaws 53 = .ok (.ireturn, 1) := by decide +kernel
set_option maxRecDepth 20000 in
theorem ggX9_borrowedAll_X9_borrowed : GoodIn wsX9_borrowedAll wsX9_borrowed := goodIn_r _ [6, 7, 8, 9, 10, 5, 11, 12, 13, 14, 15, 16, 17, 18, 19, 20, 21, 22, 23, 24, 25, 26, 27, 28, 29, 30, 31, 32, 33, 34, 35, 36, 40, 41, 42, 43, 44, 45, 46, 47, 48, 49, 50, 51, 52, 53, 54, 55, 56, 57, 58, 59, 60, 61, 62, 63, 64, 65, 66, 67, 68, 69, 70, 71, 72, 73, 74, 75, 76, 77, 78, 79, 80] (by decide +kernel) (by decide +kernel)
set_option maxRecDepth 20000 in
theorem gX9_borrowedAll_X9_borrowed : GoodIn wsX9_borrowedAll (wsV RX9 247 RX9 yX9_borrowed wsX9_borrowed) := goodIn_app (goodIn_of _ (by decide +kernel)) ggX9_borrowedAll_X9_borrowed
set_option maxRecDepth 20000 in
theorem ggX9_borrowedAll_X9_ones : GoodIn wsX9_borrowedAll wsX9_ones := goodIn_r _ [39] (by decide +kernel) (by decide +kernel)
set_option maxRecDepth 20000 in
theorem gX9_borrowedAll_X9_ones : GoodIn wsX9_borrowedAll (va_wsS RX9 274 yX9_ones wsX9_ones) := goodIn_app (goodIn_of _ (by decide +kernel)) ggX9_borrowedAll_X9_ones
theorem dX9_borrowedAll_0 : decode cX9_borrowedAll 0 = .ok (.iconst 0, 1) := by decide +kernel
theorem dX9_borrowedAll_1 : decode cX9_borrowedAll 1 = .ok (.istore_n 1, 1) := by decide +kernel
theorem dX9_borrowedAll_2 : decode cX9_borrowedAll 2 = .ok (.iconst 0, 1) := by decide +kernel
theorem dX9_borrowedAll_3 : decode cX9_borrowedAll 3 = .ok (.istore_n 2, 1) := by decide +kernel
theorem dX9_borrowedAll_4 : decode cX9_borrowedAll 4 = .ok (.iload_n 2, 1) := by decide +kernel
theorem dX9_borrowedAll_5 : decode cX9_borrowedAll 5 = .ok (.aload_n 0, 1) := by decide +kernel
theorem dX9_borrowedAll_6 : decode cX9_borrowedAll 6 = .ok (.getfield 147, 3) := by decide +kernel
theorem dX9_borrowedAll_9 : decode cX9_borrowedAll 9 = .ok (.if_icmp .ge 20, 3) := by decide +kernel
theorem dX9_borrowedAll_12 : decode cX9_borrowedAll 12 = .ok (.iload_n 1, 1) := by decide +kernel
theorem dX9_borrowedAll_13 : decode cX9_borrowedAll 13 = .ok (.aload_n 0, 1) := by decide +kernel
theorem dX9_borrowedAll_14 : decode cX9_borrowedAll 14 = .ok (.iload_n 2, 1) := by decide +kernel
theorem dX9_borrowedAll_15 : decode cX9_borrowedAll 15 = .ok (.invokevirtual 247, 3) := by decide +kernel
theorem dX9_borrowedAll_18 : decode cX9_borrowedAll 18 = .ok (.invokestatic 274, 3) := by decide +kernel
theorem dX9_borrowedAll_21 : decode cX9_borrowedAll 21 = .ok (.iadd, 1) := by decide +kernel
theorem dX9_borrowedAll_22 : decode cX9_borrowedAll 22 = .ok (.istore_n 1, 1) := by decide +kernel
theorem dX9_borrowedAll_23 : decode cX9_borrowedAll 23 = .ok (.iinc 2 1, 3) := by decide +kernel
theorem dX9_borrowedAll_26 : decode cX9_borrowedAll 26 = .ok (.goto (-22), 3) := by decide +kernel
theorem dX9_borrowedAll_29 : decode cX9_borrowedAll 29 = .ok (.iload_n 1, 1) := by decide +kernel
theorem dX9_borrowedAll_30 : decode cX9_borrowedAll 30 = .ok (.ireturn, 1) := by decide +kernel
set_option maxRecDepth 20000 in
theorem ggX9_countSets_X9_lacks : GoodIn wsX9_countSets wsX9_lacks := goodIn_r _ [6, 7, 115, 116, 117, 118, 119, 120, 121, 122, 123, 124, 125, 126, 127, 128, 129, 130, 131, 132, 133, 134, 135, 136, 137, 138, 139, 140, 141, 142, 143, 144, 145, 146, 147, 148, 149, 150, 151, 152, 153, 154, 155] (by decide +kernel) (by decide +kernel)
set_option maxRecDepth 20000 in
theorem gX9_countSets_X9_lacks : GoodIn wsX9_countSets (wsV RX9 292 RX9 yX9_lacks wsX9_lacks) := goodIn_app (goodIn_of _ (by decide +kernel)) ggX9_countSets_X9_lacks
set_option maxRecDepth 20000 in
theorem ggX9_countSets_X9_freshen : GoodIn wsX9_countSets wsX9_freshen := goodIn_r _ [11, 12, 1, 13, 14, 15, 5, 16, 7, 17, 18, 19, 20, 21, 22, 23, 24, 25, 26, 27, 28, 29, 30, 31, 32, 33, 34, 35, 36, 37, 38, 39, 40, 41, 42, 43, 44, 45, 46, 47, 48, 49, 50, 51, 52, 53, 54, 55, 56, 57, 58, 59, 60, 61, 62, 63, 64, 65, 66, 67, 68, 69, 70, 71, 72, 73, 74, 75, 76, 77, 78, 79, 80, 81, 82, 83, 115, 116, 117, 118, 119, 120, 121, 122, 123, 124, 125, 126, 127, 128, 129, 130, 131, 132, 133, 134, 135, 136, 137, 138, 139, 140, 141, 142, 143, 144, 145, 146, 147, 148, 149, 150, 151, 152, 153, 154, 155] (by decide +kernel) (by decide +kernel)
set_option maxRecDepth 20000 in
theorem gX9_countSets_X9_freshen : GoodIn wsX9_countSets (wsV RX9 223 RX9 yX9_freshen wsX9_freshen) := goodIn_app (goodIn_of _ (by decide +kernel)) ggX9_countSets_X9_freshen
set_option maxRecDepth 20000 in
theorem ggX9_countSets_X9_nodesBy : GoodIn wsX9_countSets wsX9_nodesBy := goodIn_r _ [40] (by decide +kernel) (by decide +kernel)
set_option maxRecDepth 20000 in
theorem gX9_countSets_X9_nodesBy : GoodIn wsX9_countSets (wsV RX9 177 RX9 yX9_nodesBy wsX9_nodesBy) := goodIn_app (goodIn_of _ (by decide +kernel)) ggX9_countSets_X9_nodesBy
set_option maxRecDepth 20000 in
theorem ggX9_countSets_X9_changesAll : GoodIn wsX9_countSets wsX9_changesAll := goodIn_r _ [87, 7, 17, 115, 116, 117, 118, 119, 120, 121, 122, 123, 124, 125, 126, 127, 128, 129, 130, 131, 132, 133, 134, 135, 136, 137, 138, 139, 140, 141, 142, 143, 144, 145, 146, 147, 148, 149, 150, 151, 152, 153, 154, 155] (by decide +kernel) (by decide +kernel)
set_option maxRecDepth 20000 in
theorem gX9_countSets_X9_changesAll : GoodIn wsX9_countSets (wsV RX9 268 RX9 yX9_changesAll wsX9_changesAll) := goodIn_app (goodIn_of _ (by decide +kernel)) ggX9_countSets_X9_changesAll
set_option maxRecDepth 20000 in
theorem ggX9_countSets_X9_sumLaws : GoodIn wsX9_countSets wsX9_sumLaws := goodIn_r _ [91, 1, 70, 72, 115, 116, 117, 118, 119, 120, 121, 122, 123, 124, 125, 126, 127, 128, 129, 130, 131, 132, 133, 134, 135, 136, 137, 138, 139, 140, 141, 142, 143, 144, 145, 146, 147, 148, 149, 150, 151, 152, 153, 154, 155] (by decide +kernel) (by decide +kernel)
set_option maxRecDepth 20000 in
theorem gX9_countSets_X9_sumLaws : GoodIn wsX9_countSets (wsV RX9 308 RX9 yX9_sumLaws wsX9_sumLaws) := goodIn_app (goodIn_of _ (by decide +kernel)) ggX9_countSets_X9_sumLaws
set_option maxRecDepth 20000 in
theorem ggX9_countSets_X9_borrowedAll : GoodIn wsX9_countSets wsX9_borrowedAll := goodIn_r _ [95, 7, 96, 97, 98, 5, 99, 1, 100, 101, 102, 103, 18, 104, 105, 106, 107, 20, 23, 24, 25, 26, 27, 108, 109, 110, 111, 70, 80, 81, 82, 83, 21, 37, 38, 39, 40, 112, 113, 114, 115, 116, 117, 118, 119, 120, 121, 122, 123, 124, 125, 126, 127, 128, 129, 130, 131, 132, 133, 134, 135, 136, 137, 138, 139, 140, 141, 142, 143, 144, 145, 146, 147, 148, 149, 150, 151, 152, 153, 154, 155] (by decide +kernel) (by decide +kernel)
set_option maxRecDepth 20000 in
theorem gX9_countSets_X9_borrowedAll : GoodIn wsX9_countSets (wsV RX9 312 RX9 yX9_borrowedAll wsX9_borrowedAll) := goodIn_app (goodIn_of _ (by decide +kernel)) ggX9_countSets_X9_borrowedAll
theorem dX9_countSets_0 : decode cX9_countSets 0 = .ok (.aload_n 0, 1) := by decide +kernel
theorem dX9_countSets_1 : decode cX9_countSets 1 = .ok (.invokevirtual 292, 3) := by decide +kernel
theorem dX9_countSets_4 : decode cX9_countSets 4 = .ok (.ifCond .eq 5, 3) := by decide +kernel
theorem dX9_countSets_7 : decode cX9_countSets 7 = .ok (.iconst 0, 1) := by decide +kernel
theorem dX9_countSets_8 : decode cX9_countSets 8 = .ok (.ireturn, 1) := by decide +kernel
theorem dX9_countSets_9 : decode cX9_countSets 9 = .ok (.aload_n 0, 1) := by decide +kernel
theorem dX9_countSets_10 : decode cX9_countSets 10 = .ok (.invokevirtual 223, 3) := by decide +kernel
theorem dX9_countSets_13 : decode cX9_countSets 13 = .ok (.iload_n 1, 1) := by decide +kernel
theorem dX9_countSets_14 : decode cX9_countSets 14 = .ok (.tableswitch 65 1 5 #[34, 39, 48, 53, 59], 34) := by decide +kernel
theorem dX9_countSets_48 : decode cX9_countSets 48 = .ok (.aload_n 0, 1) := by decide +kernel
theorem dX9_countSets_49 : decode cX9_countSets 49 = .ok (.getfield 150, 3) := by decide +kernel
theorem dX9_countSets_52 : decode cX9_countSets 52 = .ok (.ireturn, 1) := by decide +kernel
theorem dX9_countSets_53 : decode cX9_countSets 53 = .ok (.aload_n 0, 1) := by decide +kernel
theorem dX9_countSets_54 : decode cX9_countSets 54 = .ok (.aload_n 0, 1) := by decide +kernel
theorem dX9_countSets_55 : decode cX9_countSets 55 = .ok (.getfield 150, 3) := by decide +kernel
theorem dX9_countSets_58 : decode cX9_countSets 58 = .ok (.invokevirtual 177, 3) := by decide +kernel
theorem dX9_countSets_61 : decode cX9_countSets 61 = .ok (.ireturn, 1) := by decide +kernel
theorem dX9_countSets_62 : decode cX9_countSets 62 = .ok (.aload_n 0, 1) := by decide +kernel
theorem dX9_countSets_63 : decode cX9_countSets 63 = .ok (.invokevirtual 268, 3) := by decide +kernel
theorem dX9_countSets_66 : decode cX9_countSets 66 = .ok (.ireturn, 1) := by decide +kernel
theorem dX9_countSets_67 : decode cX9_countSets 67 = .ok (.aload_n 0, 1) := by decide +kernel
theorem dX9_countSets_68 : decode cX9_countSets 68 = .ok (.iconst 1, 1) := by decide +kernel
theorem dX9_countSets_69 : decode cX9_countSets 69 = .ok (.invokevirtual 308, 3) := by decide +kernel
theorem dX9_countSets_72 : decode cX9_countSets 72 = .ok (.ireturn, 1) := by decide +kernel
theorem dX9_countSets_73 : decode cX9_countSets 73 = .ok (.aload_n 0, 1) := by decide +kernel
theorem dX9_countSets_74 : decode cX9_countSets 74 = .ok (.iconst 0, 1) := by decide +kernel
theorem dX9_countSets_75 : decode cX9_countSets 75 = .ok (.invokevirtual 308, 3) := by decide +kernel
theorem dX9_countSets_78 : decode cX9_countSets 78 = .ok (.ireturn, 1) := by decide +kernel
theorem dX9_countSets_79 : decode cX9_countSets 79 = .ok (.aload_n 0, 1) := by decide +kernel
theorem dX9_countSets_80 : decode cX9_countSets 80 = .ok (.invokevirtual 312, 3) := by decide +kernel
theorem dX9_countSets_83 : decode cX9_countSets 83 = .ok (.ireturn, 1) := by decide +kernel
set_option maxRecDepth 20000 in
theorem ggX9_countOf_X9_countSets : GoodIn wsX9_countOf wsX9_countSets := goodIn_r _ [9, 10, 11, 12, 13, 8, 14, 1, 15, 16, 17, 18, 19, 20, 21, 22, 23, 24, 25, 26, 27, 28, 29, 30, 31, 32, 33, 34, 35, 36, 37, 38, 39, 40, 41, 42, 43, 44, 45, 46, 47, 48, 49, 50, 51, 52, 53, 54, 55, 56, 57, 58, 59, 60, 61, 62, 63, 64, 65, 66, 67, 68, 69, 70, 71, 72, 73, 74, 75, 76, 77, 78, 79, 80, 81, 82, 83, 84, 85, 86, 87, 88, 89, 90, 91, 92, 93, 94, 95, 96, 97, 98, 99, 100, 101, 102, 103, 104, 105, 106, 107, 108, 109, 110, 111, 112, 113, 114, 115, 116, 117, 118, 119, 120, 121, 122, 123, 124, 125, 126, 127, 128, 129, 130, 131, 132, 133, 134, 135, 136, 137, 138, 139, 140, 141, 142, 143, 144, 145, 146, 147, 148, 149, 150, 151, 152, 153, 154, 155, 156, 157, 158, 159, 160, 161, 162] (by decide +kernel) (by decide +kernel)
set_option maxRecDepth 20000 in
theorem gX9_countOf_X9_countSets : GoodIn wsX9_countOf (wsV RX9 315 RX9 yX9_countSets wsX9_countSets) := goodIn_app (goodIn_of _ (by decide +kernel)) ggX9_countOf_X9_countSets
theorem dX9_countOf_0 : decode cX9_countOf 0 = .ok (.iload_n 1, 1) := by decide +kernel
theorem dX9_countOf_1 : decode cX9_countOf 1 = .ok (.tableswitch 81 0 9 #[55, 60, 60, 60, 60, 60, 60, 66, 71, 76], 55) := by decide +kernel
theorem dX9_countOf_56 : decode cX9_countOf 56 = .ok (.aload_n 0, 1) := by decide +kernel
theorem dX9_countOf_57 : decode cX9_countOf 57 = .ok (.getfield 147, 3) := by decide +kernel
theorem dX9_countOf_60 : decode cX9_countOf 60 = .ok (.ireturn, 1) := by decide +kernel
theorem dX9_countOf_61 : decode cX9_countOf 61 = .ok (.aload_n 0, 1) := by decide +kernel
theorem dX9_countOf_62 : decode cX9_countOf 62 = .ok (.iload_n 1, 1) := by decide +kernel
theorem dX9_countOf_63 : decode cX9_countOf 63 = .ok (.invokevirtual 315, 3) := by decide +kernel
theorem dX9_countOf_66 : decode cX9_countOf 66 = .ok (.ireturn, 1) := by decide +kernel
theorem dX9_countOf_67 : decode cX9_countOf 67 = .ok (.aload_n 0, 1) := by decide +kernel
theorem dX9_countOf_68 : decode cX9_countOf 68 = .ok (.getfield 157, 3) := by decide +kernel
theorem dX9_countOf_71 : decode cX9_countOf 71 = .ok (.ireturn, 1) := by decide +kernel
theorem dX9_countOf_72 : decode cX9_countOf 72 = .ok (.aload_n 0, 1) := by decide +kernel
theorem dX9_countOf_73 : decode cX9_countOf 73 = .ok (.getfield 92, 3) := by decide +kernel
theorem dX9_countOf_76 : decode cX9_countOf 76 = .ok (.ireturn, 1) := by decide +kernel
theorem dX9_countOf_77 : decode cX9_countOf 77 = .ok (.aload_n 0, 1) := by decide +kernel
theorem dX9_countOf_78 : decode cX9_countOf 78 = .ok (.getfield 160, 3) := by decide +kernel
theorem dX9_countOf_81 : decode cX9_countOf 81 = .ok (.ireturn, 1) := by decide +kernel
theorem dX9_countOf_82 : decode cX9_countOf 82 = .ok (.bipush (-102), 2) := by decide +kernel
theorem dX9_countOf_84 : decode cX9_countOf 84 = .ok (.ireturn, 1) := by decide +kernel
set_option maxRecDepth 20000 in
theorem ggX9_count_X9_countOf : GoodIn wsX9_count wsX9_countOf := goodIn_r _ [5, 6, 7, 8, 9, 10, 11, 12, 4, 13, 14, 15, 16, 17, 18, 19, 20, 21, 22, 23, 24, 25, 26, 27, 28, 29, 30, 31, 32, 33, 34, 35, 36, 37, 38, 39, 40, 41, 42, 43, 44, 45, 46, 47, 48, 49, 50, 51, 52, 53, 54, 55, 56, 57, 58, 59, 60, 61, 62, 63, 64, 65, 66, 67, 68, 69, 70, 71, 72, 73, 74, 75, 76, 77, 78, 79, 80, 81, 82, 83, 84, 85, 86, 87, 88, 89, 90, 91, 92, 93, 94, 95, 96, 97, 98, 99, 100, 101, 102, 103, 104, 105, 106, 107, 108, 109, 110, 111, 112, 113, 114, 115, 116, 117, 118, 119, 120, 121, 122, 123, 124, 125, 126, 127, 128, 129, 130, 131, 132, 133, 134, 135, 136, 137, 138, 139, 140, 141, 142, 143, 144, 145, 146, 147, 148, 149, 150, 151, 152, 153, 154, 155, 156, 157, 158, 159, 160, 161, 162, 163, 164, 165, 166] (by decide +kernel) (by decide +kernel)
set_option maxRecDepth 20000 in
theorem gX9_count_X9_countOf : GoodIn wsX9_count (wsV RX9 318 RX9 yX9_countOf wsX9_countOf) := goodIn_app (goodIn_of _ (by decide +kernel)) ggX9_count_X9_countOf
theorem dX9_count_0 : decode cX9_count 0 = .ok (.aload_n 0, 1) := by decide +kernel
theorem dX9_count_1 : decode cX9_count 1 = .ok (.iload_n 1, 1) := by decide +kernel
theorem dX9_count_2 : decode cX9_count 2 = .ok (.invokevirtual 318, 3) := by decide +kernel
theorem dX9_count_5 : decode cX9_count 5 = .ok (.ireturn, 1) := by decide +kernel
theorem dX9_note_0 : decode cX9_note 0 = .ok (.aload_n 0, 1) := by decide +kernel
theorem dX9_note_1 : decode cX9_note 1 = .ok (.ldc2_w 321, 3) := by decide +kernel
theorem dX9_note_4 : decode cX9_note 4 = .ok (.aload_n 0, 1) := by decide +kernel
theorem dX9_note_5 : decode cX9_note 5 = .ok (.getfield 323, 3) := by decide +kernel
theorem dX9_note_8 : decode cX9_note 8 = .ok (.lmul, 1) := by decide +kernel
theorem dX9_note_9 : decode cX9_note 9 = .ok (.lload_n 1, 1) := by decide +kernel
theorem dX9_note_10 : decode cX9_note 10 = .ok (.ladd, 1) := by decide +kernel
theorem dX9_note_11 : decode cX9_note 11 = .ok (.putfield 323, 3) := by decide +kernel
theorem dX9_note_14 : decode cX9_note 14 = .ok (.return_, 1) := by decide +kernel
set_option maxRecDepth 20000 in
theorem ggX9_saySet_X9_tellSet : GoodIn wsX9_saySet wsX9_tellSet := goodIn_r _ [8, 9, 1, 10, 11, 12, 13, 7, 14, 15, 2, 16, 17, 18, 19, 20, 21, 22, 3, 23, 24, 25, 26, 27, 28, 29, 30, 31, 32, 33, 34, 35, 36, 37, 38, 39, 40, 41, 42, 43, 44, 45, 46, 47, 48, 49, 50, 51, 52, 53, 54, 55, 56, 57, 58, 59, 60, 61, 62, 63, 64, 65, 66, 67, 68, 69, 70, 71, 72, 73, 74, 75, 76, 77, 78, 79, 80, 81, 82, 83, 84, 85, 86, 87, 88, 89, 90, 91, 92, 93, 94, 95, 96, 97, 98, 99, 100, 101, 102, 103, 104, 105, 106, 107, 108, 109, 110, 111, 112, 113, 114, 115, 116, 117, 118, 119, 126, 127, 128, 129, 130, 131, 132, 133, 134, 135, 136, 137, 138, 139, 140, 141, 142, 143, 144, 145, 146, 147, 148, 149, 150, 151, 152, 153, 154, 155, 156, 157, 158, 159, 160, 161, 162, 163, 164, 165, 166] (by decide +kernel) (by decide +kernel)
set_option maxRecDepth 20000 in
theorem gX9_saySet_X9_tellSet : GoodIn wsX9_saySet (wsV RX9 256 RX9 yX9_tellSet wsX9_tellSet) := goodIn_app (goodIn_of _ (by decide +kernel)) ggX9_saySet_X9_tellSet
set_option maxRecDepth 20000 in
theorem ggX9_saySet_X9_note : GoodIn wsX9_saySet wsX9_note := goodIn_r _ [123, 124, 125, 126, 127, 128, 129, 130, 131, 132, 133, 134, 135, 136, 137, 138, 139, 140, 141, 142, 143, 144, 145, 146, 147, 148, 149, 150, 151, 152, 153, 154, 155, 156, 157, 158, 159, 160, 161, 162, 163, 164, 165, 166] (by decide +kernel) (by decide +kernel)
set_option maxRecDepth 20000 in
theorem gX9_saySet_X9_note : GoodIn wsX9_saySet (wsV RX9 327 RX9 yX9_note wsX9_note) := goodIn_app (goodIn_of _ (by decide +kernel)) ggX9_saySet_X9_note
set_option maxRecDepth 20000 in
theorem ggX9_saySet_X9_nodesBy : GoodIn wsX9_saySet wsX9_nodesBy := goodIn_r _ [40] (by decide +kernel) (by decide +kernel)
set_option maxRecDepth 20000 in
theorem gX9_saySet_X9_nodesBy : GoodIn wsX9_saySet (wsV RX9 177 RX9 yX9_nodesBy wsX9_nodesBy) := goodIn_app (goodIn_of _ (by decide +kernel)) ggX9_saySet_X9_nodesBy
theorem dX9_saySet_0 : decode cX9_saySet 0 = .ok (.iconst 0, 1) := by decide +kernel
theorem dX9_saySet_1 : decode cX9_saySet 1 = .ok (.istore_n 2, 1) := by decide +kernel
theorem dX9_saySet_2 : decode cX9_saySet 2 = .ok (.iload_n 2, 1) := by decide +kernel
theorem dX9_saySet_3 : decode cX9_saySet 3 = .ok (.bipush 7, 2) := by decide +kernel
theorem dX9_saySet_5 : decode cX9_saySet 5 = .ok (.if_icmp .ge 20, 3) := by decide +kernel
theorem dX9_saySet_8 : decode cX9_saySet 8 = .ok (.aload_n 0, 1) := by decide +kernel
theorem dX9_saySet_9 : decode cX9_saySet 9 = .ok (.aload_n 0, 1) := by decide +kernel
theorem dX9_saySet_10 : decode cX9_saySet 10 = .ok (.iload_n 1, 1) := by decide +kernel
theorem dX9_saySet_11 : decode cX9_saySet 11 = .ok (.iload_n 2, 1) := by decide +kernel
theorem dX9_saySet_12 : decode cX9_saySet 12 = .ok (.invokevirtual 256, 3) := by decide +kernel
theorem dX9_saySet_15 : decode cX9_saySet 15 = .ok (.i2l, 1) := by decide +kernel
theorem dX9_saySet_16 : decode cX9_saySet 16 = .ok (.invokevirtual 327, 3) := by decide +kernel
theorem dX9_saySet_19 : decode cX9_saySet 19 = .ok (.iinc 2 1, 3) := by decide +kernel
theorem dX9_saySet_22 : decode cX9_saySet 22 = .ok (.goto (-20), 3) := by decide +kernel
theorem dX9_saySet_25 : decode cX9_saySet 25 = .ok (.iconst 0, 1) := by decide +kernel
theorem dX9_saySet_26 : decode cX9_saySet 26 = .ok (.istore_n 2, 1) := by decide +kernel
theorem dX9_saySet_27 : decode cX9_saySet 27 = .ok (.iload_n 2, 1) := by decide +kernel
theorem dX9_saySet_28 : decode cX9_saySet 28 = .ok (.aload_n 0, 1) := by decide +kernel
theorem dX9_saySet_29 : decode cX9_saySet 29 = .ok (.getfield 25, 3) := by decide +kernel
theorem dX9_saySet_32 : decode cX9_saySet 32 = .ok (.iload_n 1, 1) := by decide +kernel
theorem dX9_saySet_33 : decode cX9_saySet 33 = .ok (.iaload, 1) := by decide +kernel
theorem dX9_saySet_34 : decode cX9_saySet 34 = .ok (.if_icmp .ge 50, 3) := by decide +kernel
theorem dX9_saySet_37 : decode cX9_saySet 37 = .ok (.iconst 0, 1) := by decide +kernel
theorem dX9_saySet_38 : decode cX9_saySet 38 = .ok (.istore_n 3, 1) := by decide +kernel
theorem dX9_saySet_39 : decode cX9_saySet 39 = .ok (.iload_n 3, 1) := by decide +kernel
theorem dX9_saySet_40 : decode cX9_saySet 40 = .ok (.aload_n 0, 1) := by decide +kernel
theorem dX9_saySet_41 : decode cX9_saySet 41 = .ok (.aload_n 0, 1) := by decide +kernel
theorem dX9_saySet_42 : decode cX9_saySet 42 = .ok (.getfield 150, 3) := by decide +kernel
theorem dX9_saySet_45 : decode cX9_saySet 45 = .ok (.invokevirtual 177, 3) := by decide +kernel
theorem dX9_saySet_48 : decode cX9_saySet 48 = .ok (.if_icmp .ge 30, 3) := by decide +kernel
theorem dX9_saySet_51 : decode cX9_saySet 51 = .ok (.aload_n 0, 1) := by decide +kernel
theorem dX9_saySet_52 : decode cX9_saySet 52 = .ok (.aload_n 0, 1) := by decide +kernel
theorem dX9_saySet_53 : decode cX9_saySet 53 = .ok (.getfield 40, 3) := by decide +kernel
theorem dX9_saySet_56 : decode cX9_saySet 56 = .ok (.bipush 28, 2) := by decide +kernel
theorem dX9_saySet_58 : decode cX9_saySet 58 = .ok (.iload_n 1, 1) := by decide +kernel
theorem dX9_saySet_59 : decode cX9_saySet 59 = .ok (.imul, 1) := by decide +kernel
theorem dX9_saySet_60 : decode cX9_saySet 60 = .ok (.bipush 7, 2) := by decide +kernel
theorem dX9_saySet_62 : decode cX9_saySet 62 = .ok (.iload_n 2, 1) := by decide +kernel
theorem dX9_saySet_63 : decode cX9_saySet 63 = .ok (.imul, 1) := by decide +kernel
theorem dX9_saySet_64 : decode cX9_saySet 64 = .ok (.iadd, 1) := by decide +kernel
theorem dX9_saySet_65 : decode cX9_saySet 65 = .ok (.iload_n 3, 1) := by decide +kernel
theorem dX9_saySet_66 : decode cX9_saySet 66 = .ok (.iadd, 1) := by decide +kernel
theorem dX9_saySet_67 : decode cX9_saySet 67 = .ok (.iaload, 1) := by decide +kernel
theorem dX9_saySet_68 : decode cX9_saySet 68 = .ok (.i2l, 1) := by decide +kernel
theorem dX9_saySet_69 : decode cX9_saySet 69 = .ok (.invokevirtual 327, 3) := by decide +kernel
theorem dX9_saySet_72 : decode cX9_saySet 72 = .ok (.iinc 3 1, 3) := by decide +kernel
theorem dX9_saySet_75 : decode cX9_saySet 75 = .ok (.goto (-36), 3) := by decide +kernel
theorem dX9_saySet_78 : decode cX9_saySet 78 = .ok (.iinc 2 1, 3) := by decide +kernel
theorem dX9_saySet_81 : decode cX9_saySet 81 = .ok (.goto (-54), 3) := by decide +kernel
theorem dX9_saySet_84 : decode cX9_saySet 84 = .ok (.return_, 1) := by decide +kernel
set_option maxRecDepth 20000 in
theorem ggX9_digest_X9_saySet : GoodIn wsX9_digest wsX9_saySet := goodIn_r _ [14, 15, 4, 16, 17, 18, 19, 13, 20, 21, 22, 23, 24, 25, 26, 27, 28, 29, 30, 31, 3, 32, 33, 34, 35, 36, 37, 38, 39, 40, 41, 42, 43, 44, 45, 46, 47, 48, 49, 50, 51, 52, 53, 54, 55, 56, 57, 58, 59, 60, 61, 62, 63, 64, 65, 66, 67, 68, 69, 70, 71, 72, 73, 74, 75, 76, 77, 78, 79, 80, 5, 6, 7, 81, 82, 83, 84, 85, 86, 87, 88, 89, 90, 91, 92, 93, 94, 95, 96, 97, 98, 99, 100, 101, 102, 103, 104, 105, 106, 107, 108, 109, 110, 111, 112, 113, 114, 115, 116, 117, 118, 119, 120, 121, 122, 123, 124, 125, 126, 127, 128, 129, 130, 131, 132, 2, 158, 159, 160, 161, 162, 163, 164, 165, 166, 167, 168, 169, 170, 171, 172, 173, 174, 175, 176, 177, 178, 179, 180, 181, 182, 183, 184, 185, 186, 187, 188, 189, 190, 191, 192, 193, 194, 195, 196, 197, 198] (by decide +kernel) (by decide +kernel)
set_option maxRecDepth 20000 in
theorem gX9_digest_X9_saySet : GoodIn wsX9_digest (wsV RX9 333 RX9 yX9_saySet wsX9_saySet) := goodIn_app (goodIn_of _ (by decide +kernel)) ggX9_digest_X9_saySet
set_option maxRecDepth 20000 in
theorem ggX9_digest_X9_note : GoodIn wsX9_digest wsX9_note := goodIn_r _ [131, 132, 2, 158, 159, 160, 161, 162, 163, 164, 165, 166, 167, 168, 169, 170, 171, 172, 173, 174, 175, 176, 177, 178, 179, 180, 181, 182, 183, 184, 185, 186, 187, 188, 189, 190, 191, 192, 193, 194, 195, 196, 197, 198] (by decide +kernel) (by decide +kernel)
set_option maxRecDepth 20000 in
theorem gX9_digest_X9_note : GoodIn wsX9_digest (wsV RX9 327 RX9 yX9_note wsX9_note) := goodIn_app (goodIn_of _ (by decide +kernel)) ggX9_digest_X9_note
set_option maxRecDepth 20000 in
theorem ggX9_digest_X9_countOf : GoodIn wsX9_digest wsX9_countOf := goodIn_r _ [136, 3, 116, 8, 137, 138, 139, 140, 13, 141, 4, 142, 143, 144, 145, 23, 24, 25, 26, 27, 28, 29, 30, 31, 22, 15, 32, 33, 16, 34, 35, 36, 37, 38, 21, 39, 40, 41, 42, 43, 44, 45, 46, 47, 48, 49, 50, 51, 52, 53, 54, 55, 56, 57, 58, 59, 60, 61, 62, 63, 64, 65, 66, 67, 68, 69, 70, 71, 72, 73, 74, 75, 76, 77, 78, 79, 80, 5, 6, 7, 81, 82, 83, 84, 85, 86, 87, 88, 89, 90, 91, 146, 147, 148, 149, 150, 151, 152, 153, 154, 155, 156, 157, 104, 105, 106, 107, 108, 109, 110, 111, 96, 97, 98, 99, 100, 101, 102, 103, 125, 126, 127, 158, 159, 160, 161, 162, 163, 164, 165, 166, 167, 168, 169, 170, 171, 172, 173, 174, 175, 176, 177, 178, 179, 180, 181, 182, 183, 184, 185, 186, 187, 188, 189, 190, 191, 192, 193, 194, 195, 196, 197, 198] (by decide +kernel) (by decide +kernel)
set_option maxRecDepth 20000 in
theorem gX9_digest_X9_countOf : GoodIn wsX9_digest (wsV RX9 318 RX9 yX9_countOf wsX9_countOf) := goodIn_app (goodIn_of _ (by decide +kernel)) ggX9_digest_X9_countOf
theorem dX9_digest_0 : decode cX9_digest 0 = .ok (.aload_n 0, 1) := by decide +kernel
theorem dX9_digest_1 : decode cX9_digest 1 = .ok (.ldc2_w 331, 3) := by decide +kernel
theorem dX9_digest_4 : decode cX9_digest 4 = .ok (.putfield 323, 3) := by decide +kernel
theorem dX9_digest_7 : decode cX9_digest 7 = .ok (.iconst 0, 1) := by decide +kernel
theorem dX9_digest_8 : decode cX9_digest 8 = .ok (.istore_n 1, 1) := by decide +kernel
theorem dX9_digest_9 : decode cX9_digest 9 = .ok (.iload_n 1, 1) := by decide +kernel
theorem dX9_digest_10 : decode cX9_digest 10 = .ok (.aload_n 0, 1) := by decide +kernel
theorem dX9_digest_11 : decode cX9_digest 11 = .ok (.getfield 147, 3) := by decide +kernel
theorem dX9_digest_14 : decode cX9_digest 14 = .ok (.if_icmp .ge 14, 3) := by decide +kernel
theorem dX9_digest_17 : decode cX9_digest 17 = .ok (.aload_n 0, 1) := by decide +kernel
theorem dX9_digest_18 : decode cX9_digest 18 = .ok (.iload_n 1, 1) := by decide +kernel
theorem dX9_digest_19 : decode cX9_digest 19 = .ok (.invokevirtual 333, 3) := by decide +kernel
theorem dX9_digest_22 : decode cX9_digest 22 = .ok (.iinc 1 1, 3) := by decide +kernel
theorem dX9_digest_25 : decode cX9_digest 25 = .ok (.goto (-16), 3) := by decide +kernel
theorem dX9_digest_28 : decode cX9_digest 28 = .ok (.iconst 0, 1) := by decide +kernel
theorem dX9_digest_29 : decode cX9_digest 29 = .ok (.istore_n 1, 1) := by decide +kernel
theorem dX9_digest_30 : decode cX9_digest 30 = .ok (.iload_n 1, 1) := by decide +kernel
theorem dX9_digest_31 : decode cX9_digest 31 = .ok (.bipush 18, 2) := by decide +kernel
theorem dX9_digest_33 : decode cX9_digest 33 = .ok (.aload_n 0, 1) := by decide +kernel
theorem dX9_digest_34 : decode cX9_digest 34 = .ok (.getfield 150, 3) := by decide +kernel
theorem dX9_digest_37 : decode cX9_digest 37 = .ok (.imul, 1) := by decide +kernel
theorem dX9_digest_38 : decode cX9_digest 38 = .ok (.if_icmp .ge 49, 3) := by decide +kernel
theorem dX9_digest_41 : decode cX9_digest 41 = .ok (.aload_n 0, 1) := by decide +kernel
theorem dX9_digest_42 : decode cX9_digest 42 = .ok (.getfield 147, 3) := by decide +kernel
theorem dX9_digest_45 : decode cX9_digest 45 = .ok (.ifCond .le 42, 3) := by decide +kernel
theorem dX9_digest_48 : decode cX9_digest 48 = .ok (.aload_n 0, 1) := by decide +kernel
theorem dX9_digest_49 : decode cX9_digest 49 = .ok (.aload_n 0, 1) := by decide +kernel
theorem dX9_digest_50 : decode cX9_digest 50 = .ok (.getfield 46, 3) := by decide +kernel
theorem dX9_digest_53 : decode cX9_digest 53 = .ok (.iload_n 1, 1) := by decide +kernel
theorem dX9_digest_54 : decode cX9_digest 54 = .ok (.iaload, 1) := by decide +kernel
theorem dX9_digest_55 : decode cX9_digest 55 = .ok (.i2l, 1) := by decide +kernel
theorem dX9_digest_56 : decode cX9_digest 56 = .ok (.invokevirtual 327, 3) := by decide +kernel
theorem dX9_digest_59 : decode cX9_digest 59 = .ok (.aload_n 0, 1) := by decide +kernel
theorem dX9_digest_60 : decode cX9_digest 60 = .ok (.aload_n 0, 1) := by decide +kernel
theorem dX9_digest_61 : decode cX9_digest 61 = .ok (.getfield 49, 3) := by decide +kernel
theorem dX9_digest_64 : decode cX9_digest 64 = .ok (.iload_n 1, 1) := by decide +kernel
theorem dX9_digest_65 : decode cX9_digest 65 = .ok (.iaload, 1) := by decide +kernel
theorem dX9_digest_66 : decode cX9_digest 66 = .ok (.i2l, 1) := by decide +kernel
theorem dX9_digest_67 : decode cX9_digest 67 = .ok (.invokevirtual 327, 3) := by decide +kernel
theorem dX9_digest_70 : decode cX9_digest 70 = .ok (.aload_n 0, 1) := by decide +kernel
theorem dX9_digest_71 : decode cX9_digest 71 = .ok (.aload_n 0, 1) := by decide +kernel
theorem dX9_digest_72 : decode cX9_digest 72 = .ok (.getfield 52, 3) := by decide +kernel
theorem dX9_digest_75 : decode cX9_digest 75 = .ok (.iload_n 1, 1) := by decide +kernel
theorem dX9_digest_76 : decode cX9_digest 76 = .ok (.iaload, 1) := by decide +kernel
theorem dX9_digest_77 : decode cX9_digest 77 = .ok (.i2l, 1) := by decide +kernel
theorem dX9_digest_78 : decode cX9_digest 78 = .ok (.invokevirtual 327, 3) := by decide +kernel
theorem dX9_digest_81 : decode cX9_digest 81 = .ok (.iinc 1 1, 3) := by decide +kernel
theorem dX9_digest_84 : decode cX9_digest 84 = .ok (.goto (-54), 3) := by decide +kernel
theorem dX9_digest_87 : decode cX9_digest 87 = .ok (.iconst 0, 1) := by decide +kernel
theorem dX9_digest_88 : decode cX9_digest 88 = .ok (.istore_n 1, 1) := by decide +kernel
theorem dX9_digest_89 : decode cX9_digest 89 = .ok (.iload_n 1, 1) := by decide +kernel
theorem dX9_digest_90 : decode cX9_digest 90 = .ok (.aload_n 0, 1) := by decide +kernel
theorem dX9_digest_91 : decode cX9_digest 91 = .ok (.getfield 92, 3) := by decide +kernel
theorem dX9_digest_94 : decode cX9_digest 94 = .ok (.if_icmp .ge 20, 3) := by decide +kernel
theorem dX9_digest_97 : decode cX9_digest 97 = .ok (.aload_n 0, 1) := by decide +kernel
theorem dX9_digest_98 : decode cX9_digest 98 = .ok (.aload_n 0, 1) := by decide +kernel
theorem dX9_digest_99 : decode cX9_digest 99 = .ok (.getfield 7, 3) := by decide +kernel
theorem dX9_digest_102 : decode cX9_digest 102 = .ok (.iload_n 1, 1) := by decide +kernel
theorem dX9_digest_103 : decode cX9_digest 103 = .ok (.iaload, 1) := by decide +kernel
theorem dX9_digest_104 : decode cX9_digest 104 = .ok (.i2l, 1) := by decide +kernel
theorem dX9_digest_105 : decode cX9_digest 105 = .ok (.invokevirtual 327, 3) := by decide +kernel
theorem dX9_digest_108 : decode cX9_digest 108 = .ok (.iinc 1 1, 3) := by decide +kernel
theorem dX9_digest_111 : decode cX9_digest 111 = .ok (.goto (-22), 3) := by decide +kernel
theorem dX9_digest_114 : decode cX9_digest 114 = .ok (.iconst 0, 1) := by decide +kernel
theorem dX9_digest_115 : decode cX9_digest 115 = .ok (.istore_n 1, 1) := by decide +kernel
theorem dX9_digest_116 : decode cX9_digest 116 = .ok (.iload_n 1, 1) := by decide +kernel
theorem dX9_digest_117 : decode cX9_digest 117 = .ok (.bipush 10, 2) := by decide +kernel
theorem dX9_digest_119 : decode cX9_digest 119 = .ok (.if_icmp .ge 19, 3) := by decide +kernel
theorem dX9_digest_122 : decode cX9_digest 122 = .ok (.aload_n 0, 1) := by decide +kernel
theorem dX9_digest_123 : decode cX9_digest 123 = .ok (.aload_n 0, 1) := by decide +kernel
theorem dX9_digest_124 : decode cX9_digest 124 = .ok (.iload_n 1, 1) := by decide +kernel
theorem dX9_digest_125 : decode cX9_digest 125 = .ok (.invokevirtual 318, 3) := by decide +kernel
theorem dX9_digest_128 : decode cX9_digest 128 = .ok (.i2l, 1) := by decide +kernel
theorem dX9_digest_129 : decode cX9_digest 129 = .ok (.invokevirtual 327, 3) := by decide +kernel
theorem dX9_digest_132 : decode cX9_digest 132 = .ok (.iinc 1 1, 3) := by decide +kernel
theorem dX9_digest_135 : decode cX9_digest 135 = .ok (.goto (-19), 3) := by decide +kernel
theorem dX9_digest_138 : decode cX9_digest 138 = .ok (.aload_n 0, 1) := by decide +kernel
theorem dX9_digest_139 : decode cX9_digest 139 = .ok (.getfield 323, 3) := by decide +kernel
theorem dX9_digest_142 : decode cX9_digest 142 = .ok (.lreturn, 1) := by decide +kernel
theorem dJ11_isValidCodePoint_9a6ad_0 : decode cJ11_isValidCodePoint_9a6ad 0 = .ok (.iload_n 0, 1) := by decide +kernel
theorem dJ11_isValidCodePoint_9a6ad_1 : decode cJ11_isValidCodePoint_9a6ad 1 = .ok (.bipush 16, 2) := by decide +kernel
theorem dJ11_isValidCodePoint_9a6ad_3 : decode cJ11_isValidCodePoint_9a6ad 3 = .ok (.iushr, 1) := by decide +kernel
theorem dJ11_isValidCodePoint_9a6ad_4 : decode cJ11_isValidCodePoint_9a6ad 4 = .ok (.istore_n 1, 1) := by decide +kernel
theorem dJ11_isValidCodePoint_9a6ad_5 : decode cJ11_isValidCodePoint_9a6ad 5 = .ok (.iload_n 1, 1) := by decide +kernel
theorem dJ11_isValidCodePoint_9a6ad_6 : decode cJ11_isValidCodePoint_9a6ad 6 = .ok (.bipush 17, 2) := by decide +kernel
theorem dJ11_isValidCodePoint_9a6ad_8 : decode cJ11_isValidCodePoint_9a6ad 8 = .ok (.if_icmp .ge 7, 3) := by decide +kernel
theorem dJ11_isValidCodePoint_9a6ad_11 : decode cJ11_isValidCodePoint_9a6ad 11 = .ok (.iconst 1, 1) := by decide +kernel
theorem dJ11_isValidCodePoint_9a6ad_12 : decode cJ11_isValidCodePoint_9a6ad 12 = .ok (.goto 4, 3) := by decide +kernel
theorem dJ11_isValidCodePoint_9a6ad_15 : decode cJ11_isValidCodePoint_9a6ad 15 = .ok (.iconst 0, 1) := by decide +kernel
theorem dJ11_isValidCodePoint_9a6ad_16 : decode cJ11_isValidCodePoint_9a6ad 16 = .ok (.ireturn, 1) := by decide +kernel
theorem dJ11_highSurrogate_5068e_0 : decode cJ11_highSurrogate_5068e 0 = .ok (.iload_n 0, 1) := by decide +kernel
theorem dJ11_highSurrogate_5068e_1 : decode cJ11_highSurrogate_5068e 1 = .ok (.bipush 10, 2) := by decide +kernel
theorem dJ11_highSurrogate_5068e_3 : decode cJ11_highSurrogate_5068e 3 = .ok (.iushr, 1) := by decide +kernel
theorem dJ11_highSurrogate_5068e_4 : decode cJ11_highSurrogate_5068e 4 = .ok (.ldc 110, 2) := by decide +kernel
theorem dJ11_highSurrogate_5068e_6 : decode cJ11_highSurrogate_5068e 6 = .ok (.iadd, 1) := by decide +kernel
theorem dJ11_highSurrogate_5068e_7 : decode cJ11_highSurrogate_5068e 7 = .ok (.i2c, 1) := by decide +kernel
theorem dJ11_highSurrogate_5068e_8 : decode cJ11_highSurrogate_5068e 8 = .ok (.ireturn, 1) := by decide +kernel
theorem dJ11_lowSurrogate_5068e_0 : decode cJ11_lowSurrogate_5068e 0 = .ok (.iload_n 0, 1) := by decide +kernel
theorem dJ11_lowSurrogate_5068e_1 : decode cJ11_lowSurrogate_5068e 1 = .ok (.sipush 1023, 3) := by decide +kernel
theorem dJ11_lowSurrogate_5068e_4 : decode cJ11_lowSurrogate_5068e 4 = .ok (.iand, 1) := by decide +kernel
theorem dJ11_lowSurrogate_5068e_5 : decode cJ11_lowSurrogate_5068e 5 = .ok (.ldc 76, 2) := by decide +kernel
theorem dJ11_lowSurrogate_5068e_7 : decode cJ11_lowSurrogate_5068e 7 = .ok (.iadd, 1) := by decide +kernel
theorem dJ11_lowSurrogate_5068e_8 : decode cJ11_lowSurrogate_5068e 8 = .ok (.i2c, 1) := by decide +kernel
theorem dJ11_lowSurrogate_5068e_9 : decode cJ11_lowSurrogate_5068e 9 = .ok (.ireturn, 1) := by decide +kernel
theorem dJ6_bitCount_0f7a4_0 : decode cJ6_bitCount_0f7a4 0 = .ok (.iload_n 0, 1) := by decide +kernel
theorem dJ6_bitCount_0f7a4_1 : decode cJ6_bitCount_0f7a4 1 = .ok (.iload_n 0, 1) := by decide +kernel
theorem dJ6_bitCount_0f7a4_2 : decode cJ6_bitCount_0f7a4 2 = .ok (.iconst 1, 1) := by decide +kernel
theorem dJ6_bitCount_0f7a4_3 : decode cJ6_bitCount_0f7a4 3 = .ok (.iushr, 1) := by decide +kernel
theorem dJ6_bitCount_0f7a4_4 : decode cJ6_bitCount_0f7a4 4 = .ok (.ldc_w 265, 3) := by decide +kernel
theorem dJ6_bitCount_0f7a4_7 : decode cJ6_bitCount_0f7a4 7 = .ok (.iand, 1) := by decide +kernel
theorem dJ6_bitCount_0f7a4_8 : decode cJ6_bitCount_0f7a4 8 = .ok (.isub, 1) := by decide +kernel
theorem dJ6_bitCount_0f7a4_9 : decode cJ6_bitCount_0f7a4 9 = .ok (.istore_n 0, 1) := by decide +kernel
theorem dJ6_bitCount_0f7a4_10 : decode cJ6_bitCount_0f7a4 10 = .ok (.iload_n 0, 1) := by decide +kernel
theorem dJ6_bitCount_0f7a4_11 : decode cJ6_bitCount_0f7a4 11 = .ok (.ldc_w 266, 3) := by decide +kernel
theorem dJ6_bitCount_0f7a4_14 : decode cJ6_bitCount_0f7a4 14 = .ok (.iand, 1) := by decide +kernel
theorem dJ6_bitCount_0f7a4_15 : decode cJ6_bitCount_0f7a4 15 = .ok (.iload_n 0, 1) := by decide +kernel
theorem dJ6_bitCount_0f7a4_16 : decode cJ6_bitCount_0f7a4 16 = .ok (.iconst 2, 1) := by decide +kernel
theorem dJ6_bitCount_0f7a4_17 : decode cJ6_bitCount_0f7a4 17 = .ok (.iushr, 1) := by decide +kernel
theorem dJ6_bitCount_0f7a4_18 : decode cJ6_bitCount_0f7a4 18 = .ok (.ldc_w 266, 3) := by decide +kernel
theorem dJ6_bitCount_0f7a4_21 : decode cJ6_bitCount_0f7a4 21 = .ok (.iand, 1) := by decide +kernel
theorem dJ6_bitCount_0f7a4_22 : decode cJ6_bitCount_0f7a4 22 = .ok (.iadd, 1) := by decide +kernel
theorem dJ6_bitCount_0f7a4_23 : decode cJ6_bitCount_0f7a4 23 = .ok (.istore_n 0, 1) := by decide +kernel
theorem dJ6_bitCount_0f7a4_24 : decode cJ6_bitCount_0f7a4 24 = .ok (.iload_n 0, 1) := by decide +kernel
theorem dJ6_bitCount_0f7a4_25 : decode cJ6_bitCount_0f7a4 25 = .ok (.iload_n 0, 1) := by decide +kernel
theorem dJ6_bitCount_0f7a4_26 : decode cJ6_bitCount_0f7a4 26 = .ok (.iconst 4, 1) := by decide +kernel
theorem dJ6_bitCount_0f7a4_27 : decode cJ6_bitCount_0f7a4 27 = .ok (.iushr, 1) := by decide +kernel
theorem dJ6_bitCount_0f7a4_28 : decode cJ6_bitCount_0f7a4 28 = .ok (.iadd, 1) := by decide +kernel
theorem dJ6_bitCount_0f7a4_29 : decode cJ6_bitCount_0f7a4 29 = .ok (.ldc_w 267, 3) := by decide +kernel
theorem dJ6_bitCount_0f7a4_32 : decode cJ6_bitCount_0f7a4 32 = .ok (.iand, 1) := by decide +kernel
theorem dJ6_bitCount_0f7a4_33 : decode cJ6_bitCount_0f7a4 33 = .ok (.istore_n 0, 1) := by decide +kernel
theorem dJ6_bitCount_0f7a4_34 : decode cJ6_bitCount_0f7a4 34 = .ok (.iload_n 0, 1) := by decide +kernel
theorem dJ6_bitCount_0f7a4_35 : decode cJ6_bitCount_0f7a4 35 = .ok (.iload_n 0, 1) := by decide +kernel
theorem dJ6_bitCount_0f7a4_36 : decode cJ6_bitCount_0f7a4 36 = .ok (.bipush 8, 2) := by decide +kernel
theorem dJ6_bitCount_0f7a4_38 : decode cJ6_bitCount_0f7a4 38 = .ok (.iushr, 1) := by decide +kernel
theorem dJ6_bitCount_0f7a4_39 : decode cJ6_bitCount_0f7a4 39 = .ok (.iadd, 1) := by decide +kernel
theorem dJ6_bitCount_0f7a4_40 : decode cJ6_bitCount_0f7a4 40 = .ok (.istore_n 0, 1) := by decide +kernel
theorem dJ6_bitCount_0f7a4_41 : decode cJ6_bitCount_0f7a4 41 = .ok (.iload_n 0, 1) := by decide +kernel
theorem dJ6_bitCount_0f7a4_42 : decode cJ6_bitCount_0f7a4 42 = .ok (.iload_n 0, 1) := by decide +kernel
theorem dJ6_bitCount_0f7a4_43 : decode cJ6_bitCount_0f7a4 43 = .ok (.bipush 16, 2) := by decide +kernel
theorem dJ6_bitCount_0f7a4_45 : decode cJ6_bitCount_0f7a4 45 = .ok (.iushr, 1) := by decide +kernel
theorem dJ6_bitCount_0f7a4_46 : decode cJ6_bitCount_0f7a4 46 = .ok (.iadd, 1) := by decide +kernel
theorem dJ6_bitCount_0f7a4_47 : decode cJ6_bitCount_0f7a4 47 = .ok (.istore_n 0, 1) := by decide +kernel
theorem dJ6_bitCount_0f7a4_48 : decode cJ6_bitCount_0f7a4 48 = .ok (.iload_n 0, 1) := by decide +kernel
theorem dJ6_bitCount_0f7a4_49 : decode cJ6_bitCount_0f7a4 49 = .ok (.bipush 63, 2) := by decide +kernel
theorem dJ6_bitCount_0f7a4_51 : decode cJ6_bitCount_0f7a4 51 = .ok (.iand, 1) := by decide +kernel
theorem dJ6_bitCount_0f7a4_52 : decode cJ6_bitCount_0f7a4 52 = .ok (.ireturn, 1) := by decide +kernel
theorem dJ9_max_7cf53_0 : decode cJ9_max_7cf53 0 = .ok (.iload_n 0, 1) := by decide +kernel
theorem dJ9_max_7cf53_1 : decode cJ9_max_7cf53 1 = .ok (.iload_n 1, 1) := by decide +kernel
theorem dJ9_max_7cf53_2 : decode cJ9_max_7cf53 2 = .ok (.if_icmp .lt 7, 3) := by decide +kernel
theorem dJ9_max_7cf53_5 : decode cJ9_max_7cf53 5 = .ok (.iload_n 0, 1) := by decide +kernel
theorem dJ9_max_7cf53_6 : decode cJ9_max_7cf53 6 = .ok (.goto 4, 3) := by decide +kernel
theorem dJ9_max_7cf53_9 : decode cJ9_max_7cf53 9 = .ok (.iload_n 1, 1) := by decide +kernel
theorem dJ9_max_7cf53_10 : decode cJ9_max_7cf53 10 = .ok (.ireturn, 1) := by decide +kernel
theorem dJ9_min_7cf53_0 : decode cJ9_min_7cf53 0 = .ok (.iload_n 0, 1) := by decide +kernel
theorem dJ9_min_7cf53_1 : decode cJ9_min_7cf53 1 = .ok (.iload_n 1, 1) := by decide +kernel
theorem dJ9_min_7cf53_2 : decode cJ9_min_7cf53 2 = .ok (.if_icmp .gt 7, 3) := by decide +kernel
theorem dJ9_min_7cf53_5 : decode cJ9_min_7cf53 5 = .ok (.iload_n 0, 1) := by decide +kernel
theorem dJ9_min_7cf53_6 : decode cJ9_min_7cf53 6 = .ok (.goto 4, 3) := by decide +kernel
theorem dJ9_min_7cf53_9 : decode cJ9_min_7cf53 9 = .ok (.iload_n 1, 1) := by decide +kernel
theorem dJ9_min_7cf53_10 : decode cJ9_min_7cf53 10 = .ok (.ireturn, 1) := by decide +kernel
set_option maxRecDepth 20000 in
theorem ggJ0_length_8abf5_J0_coder_7d493 : GoodIn wsJ0_length_8abf5 wsJ0_coder_7d493 := goodIn_r _ [6, 7, 8] (by decide +kernel) (by decide +kernel)
set_option maxRecDepth 20000 in
theorem gJ0_length_8abf5_J0_coder_7d493 : GoodIn wsJ0_length_8abf5 (wsV RJ0 335 RJ0 yJ0_coder_7d493 wsJ0_coder_7d493) := goodIn_app (goodIn_of _ (by decide +kernel)) ggJ0_length_8abf5_J0_coder_7d493
theorem dJ0_length_8abf5_0 : decode cJ0_length_8abf5 0 = .ok (.aload_n 0, 1) := by decide +kernel
theorem dJ0_length_8abf5_1 : decode cJ0_length_8abf5 1 = .ok (.getfield 9, 3) := by decide +kernel
theorem dJ0_length_8abf5_4 : decode cJ0_length_8abf5 4 = .ok (.arraylength, 1) := by decide +kernel
theorem dJ0_length_8abf5_5 : decode cJ0_length_8abf5 5 = .ok (.aload_n 0, 1) := by decide +kernel
theorem dJ0_length_8abf5_6 : decode cJ0_length_8abf5 6 = .ok (.invokevirtual 335, 3) := by decide +kernel
theorem dJ0_length_8abf5_9 : decode cJ0_length_8abf5 9 = .ok (.ishr, 1) := by decide +kernel
theorem dJ0_length_8abf5_10 : decode cJ0_length_8abf5 10 = .ok (.ireturn, 1) := by decide +kernel
set_option maxRecDepth 20000 in
theorem ggJ0_indexOf_0f7a4_J0_indexOf_7cf53 : GoodIn wsJ0_indexOf_0f7a4 wsJ0_indexOf_7cf53 := goodIn_r _ [5, 6, 7, 8, 9, 4, 10, 11, 12, 13, 14, 15, 16, 17, 18, 19, 20, 21, 22, 23, 24, 25, 26, 27, 28, 29, 30, 31, 32, 33, 34, 35, 36, 37, 38, 39, 40, 41, 42, 43, 44, 45, 46, 47, 48, 49, 50, 51, 52, 53, 54, 55, 56, 57, 58, 59, 60, 61, 62, 63, 64, 65, 66, 67, 68, 69, 70, 71, 72, 73, 74, 75, 76, 77, 78, 79, 80, 81, 82, 83, 84, 85] (by decide +kernel) (by decide +kernel)
set_option maxRecDepth 20000 in
theorem gJ0_indexOf_0f7a4_J0_indexOf_7cf53 : GoodIn wsJ0_indexOf_0f7a4 (wsV RJ0 633 RJ0 yJ0_indexOf_7cf53 wsJ0_indexOf_7cf53) := goodIn_app (goodIn_of _ (by decide +kernel)) ggJ0_indexOf_0f7a4_J0_indexOf_7cf53
theorem dJ0_indexOf_0f7a4_0 : decode cJ0_indexOf_0f7a4 0 = .ok (.aload_n 0, 1) := by decide +kernel
theorem dJ0_indexOf_0f7a4_1 : decode cJ0_indexOf_0f7a4 1 = .ok (.iload_n 1, 1) := by decide +kernel
theorem dJ0_indexOf_0f7a4_2 : decode cJ0_indexOf_0f7a4 2 = .ok (.iconst 0, 1) := by decide +kernel
theorem dJ0_indexOf_0f7a4_3 : decode cJ0_indexOf_0f7a4 3 = .ok (.invokevirtual 633, 3) := by decide +kernel
theorem dJ0_indexOf_0f7a4_6 : decode cJ0_indexOf_0f7a4 6 = .ok (.ireturn, 1) := by decide +kernel
set_option maxRecDepth 20000 in
theorem ggJ0_indexOf_7cf53_J0_isLatin1_aae02 : GoodIn wsJ0_indexOf_7cf53 wsJ0_isLatin1_aae02 := goodIn_r _ [6, 7, 8] (by decide +kernel) (by decide +kernel)
set_option maxRecDepth 20000 in
theorem gJ0_indexOf_7cf53_J0_isLatin1_aae02 : GoodIn wsJ0_indexOf_7cf53 (wsV RJ0 492 RJ0 yJ0_isLatin1_aae02 wsJ0_isLatin1_aae02) := goodIn_app (goodIn_of _ (by decide +kernel)) ggJ0_indexOf_7cf53_J0_isLatin1_aae02
set_option maxRecDepth 20000 in
theorem ggJ0_indexOf_7cf53_J0_length_8abf5 : GoodIn wsJ0_indexOf_7cf53 wsJ0_length_8abf5 := goodIn_r _ [12, 1, 13, 14, 15, 5, 16, 7, 8] (by decide +kernel) (by decide +kernel)
set_option maxRecDepth 20000 in
theorem gJ0_indexOf_7cf53_J0_length_8abf5 : GoodIn wsJ0_indexOf_7cf53 (wsV RJ0 505 RJ0 yJ0_length_8abf5 wsJ0_length_8abf5) := goodIn_app (goodIn_of _ (by decide +kernel)) ggJ0_indexOf_7cf53_J0_length_8abf5
set_option maxRecDepth 20000 in
theorem ggJ0_indexOf_7cf53_J1_indexOf_4cfef : GoodIn wsJ0_indexOf_7cf53 wsJ1_indexOf_4cfef := goodIn_r _ [20, 21, 22, 23, 24, 25, 26, 27, 28, 29, 19, 30, 31, 32, 33] (by decide +kernel) (by decide +kernel)
set_option maxRecDepth 20000 in
theorem gJ0_indexOf_7cf53_J1_indexOf_4cfef : GoodIn wsJ0_indexOf_7cf53 (va_wsS RJ0 637 yJ1_indexOf_4cfef wsJ1_indexOf_4cfef) := goodIn_app (goodIn_of _ (by decide +kernel)) ggJ0_indexOf_7cf53_J1_indexOf_4cfef
set_option maxRecDepth 20000 in
theorem ggJ0_indexOf_7cf53_J2_indexOf_4cfef : GoodIn wsJ0_indexOf_7cf53 wsJ2_indexOf_4cfef := goodIn_r _ [37, 38, 22, 23, 24, 39, 26, 27, 40, 41, 42, 36, 43, 44, 45, 46, 47, 48, 49, 50, 51, 5, 52, 53, 54, 55, 56, 57, 58, 59, 60, 61, 62, 63, 64, 65, 66, 67, 68, 69, 70, 71, 72, 73, 74, 75, 76, 77, 78, 79, 80, 81] (by decide +kernel) (by decide +kernel)
set_option maxRecDepth 20000 in
theorem gJ0_indexOf_7cf53_J2_indexOf_4cfef : GoodIn wsJ0_indexOf_7cf53 (va_wsS RJ0 640 yJ2_indexOf_4cfef wsJ2_indexOf_4cfef) := goodIn_app (goodIn_of _ (by decide +kernel)) ggJ0_indexOf_7cf53_J2_indexOf_4cfef
theorem dJ0_indexOf_7cf53_0 : decode cJ0_indexOf_7cf53 0 = .ok (.aload_n 0, 1) := by decide +kernel
theorem dJ0_indexOf_7cf53_1 : decode cJ0_indexOf_7cf53 1 = .ok (.invokevirtual 492, 3) := by decide +kernel
theorem dJ0_indexOf_7cf53_4 : decode cJ0_indexOf_7cf53 4 = .ok (.ifCond .eq 19, 3) := by decide +kernel
theorem dJ0_indexOf_7cf53_7 : decode cJ0_indexOf_7cf53 7 = .ok (.aload_n 0, 1) := by decide +kernel
theorem dJ0_indexOf_7cf53_8 : decode cJ0_indexOf_7cf53 8 = .ok (.getfield 9, 3) := by decide +kernel
theorem dJ0_indexOf_7cf53_11 : decode cJ0_indexOf_7cf53 11 = .ok (.iload_n 1, 1) := by decide +kernel
theorem dJ0_indexOf_7cf53_12 : decode cJ0_indexOf_7cf53 12 = .ok (.iload_n 2, 1) := by decide +kernel
theorem dJ0_indexOf_7cf53_13 : decode cJ0_indexOf_7cf53 13 = .ok (.aload_n 0, 1) := by decide +kernel
theorem dJ0_indexOf_7cf53_14 : decode cJ0_indexOf_7cf53 14 = .ok (.invokevirtual 505, 3) := by decide +kernel
theorem dJ0_indexOf_7cf53_17 : decode cJ0_indexOf_7cf53 17 = .ok (.invokestatic 637, 3) := by decide +kernel
theorem dJ0_indexOf_7cf53_20 : decode cJ0_indexOf_7cf53 20 = .ok (.goto 16, 3) := by decide +kernel
theorem dJ0_indexOf_7cf53_23 : decode cJ0_indexOf_7cf53 23 = .ok (.aload_n 0, 1) := by decide +kernel
theorem dJ0_indexOf_7cf53_24 : decode cJ0_indexOf_7cf53 24 = .ok (.getfield 9, 3) := by decide +kernel
theorem dJ0_indexOf_7cf53_27 : decode cJ0_indexOf_7cf53 27 = .ok (.iload_n 1, 1) := by decide +kernel
theorem dJ0_indexOf_7cf53_28 : decode cJ0_indexOf_7cf53 28 = .ok (.iload_n 2, 1) := by decide +kernel
theorem dJ0_indexOf_7cf53_29 : decode cJ0_indexOf_7cf53 29 = .ok (.aload_n 0, 1) := by decide +kernel
theorem dJ0_indexOf_7cf53_30 : decode cJ0_indexOf_7cf53 30 = .ok (.invokevirtual 505, 3) := by decide +kernel
theorem dJ0_indexOf_7cf53_33 : decode cJ0_indexOf_7cf53 33 = .ok (.invokestatic 640, 3) := by decide +kernel
theorem dJ0_indexOf_7cf53_36 : decode cJ0_indexOf_7cf53 36 = .ok (.ireturn, 1) := by decide +kernel
theorem dJ0_coder_7d493_0 : decode cJ0_coder_7d493 0 = .ok (.getstatic 38, 3) := by decide +kernel
theorem dJ0_coder_7d493_3 : decode cJ0_coder_7d493 3 = .ok (.ifCond .eq 10, 3) := by decide +kernel
theorem dJ0_coder_7d493_6 : decode cJ0_coder_7d493 6 = .ok (.aload_n 0, 1) := by decide +kernel
theorem dJ0_coder_7d493_7 : decode cJ0_coder_7d493 7 = .ok (.getfield 15, 3) := by decide +kernel
theorem dJ0_coder_7d493_10 : decode cJ0_coder_7d493 10 = .ok (.goto 4, 3) := by decide +kernel
theorem dJ0_coder_7d493_13 : decode cJ0_coder_7d493 13 = .ok (.iconst 1, 1) := by decide +kernel
theorem dJ0_coder_7d493_14 : decode cJ0_coder_7d493 14 = .ok (.ireturn, 1) := by decide +kernel
theorem dJ0_isLatin1_aae02_0 : decode cJ0_isLatin1_aae02 0 = .ok (.getstatic 38, 3) := by decide +kernel
theorem dJ0_isLatin1_aae02_3 : decode cJ0_isLatin1_aae02 3 = .ok (.ifCond .eq 14, 3) := by decide +kernel
theorem dJ0_isLatin1_aae02_6 : decode cJ0_isLatin1_aae02 6 = .ok (.aload_n 0, 1) := by decide +kernel
theorem dJ0_isLatin1_aae02_7 : decode cJ0_isLatin1_aae02 7 = .ok (.getfield 15, 3) := by decide +kernel
theorem dJ0_isLatin1_aae02_10 : decode cJ0_isLatin1_aae02 10 = .ok (.ifCond .ne 7, 3) := by decide +kernel
theorem dJ0_isLatin1_aae02_13 : decode cJ0_isLatin1_aae02 13 = .ok (.iconst 1, 1) := by decide +kernel
theorem dJ0_isLatin1_aae02_14 : decode cJ0_isLatin1_aae02 14 = .ok (.goto 4, 3) := by decide +kernel
theorem dJ0_isLatin1_aae02_17 : decode cJ0_isLatin1_aae02 17 = .ok (.iconst 0, 1) := by decide +kernel
theorem dJ0_isLatin1_aae02_18 : decode cJ0_isLatin1_aae02 18 = .ok (.ireturn, 1) := by decide +kernel
set_option maxRecDepth 20000 in
theorem ggJ0_checkBoundsBeginEnd_23922_J3_checkFromToIndex_8c36e : GoodIn wsJ0_checkBoundsBeginEnd_23922 wsJ3_checkFromToIndex_8c36e := goodIn_r _ [5] (by decide +kernel) (by decide +kernel)
set_option maxRecDepth 20000 in
theorem gJ0_checkBoundsBeginEnd_23922_J3_checkFromToIndex_8c36e : GoodIn wsJ0_checkBoundsBeginEnd_23922 (va_wsS RJ0 1062 yJ3_checkFromToIndex_8c36e wsJ3_checkFromToIndex_8c36e) := goodIn_app (goodIn_of _ (by decide +kernel)) ggJ0_checkBoundsBeginEnd_23922_J3_checkFromToIndex_8c36e
theorem dJ0_checkBoundsBeginEnd_23922_0 : decode cJ0_checkBoundsBeginEnd_23922 0 = .ok (.iload_n 0, 1) := by decide +kernel
theorem dJ0_checkBoundsBeginEnd_23922_1 : decode cJ0_checkBoundsBeginEnd_23922 1 = .ok (.iload_n 1, 1) := by decide +kernel
theorem dJ0_checkBoundsBeginEnd_23922_2 : decode cJ0_checkBoundsBeginEnd_23922 2 = .ok (.iload_n 2, 1) := by decide +kernel
theorem dJ0_checkBoundsBeginEnd_23922_3 : decode cJ0_checkBoundsBeginEnd_23922 3 = .ok (.getstatic 1053, 3) := by decide +kernel
theorem dJ0_checkBoundsBeginEnd_23922_6 : decode cJ0_checkBoundsBeginEnd_23922 6 = .ok (.invokestatic 1062, 3) := by decide +kernel
theorem dJ0_checkBoundsBeginEnd_23922_9 : decode cJ0_checkBoundsBeginEnd_23922 9 = .ok (.pop, 1) := by decide +kernel
theorem dJ0_checkBoundsBeginEnd_23922_10 : decode cJ0_checkBoundsBeginEnd_23922 10 = .ok (.return_, 1) := by decide +kernel
theorem dJ1_canEncode_9a6ad_0 : decode cJ1_canEncode_9a6ad 0 = .ok (.iload_n 0, 1) := by decide +kernel
theorem dJ1_canEncode_9a6ad_1 : decode cJ1_canEncode_9a6ad 1 = .ok (.ifCond .lt 14, 3) := by decide +kernel
theorem dJ1_canEncode_9a6ad_4 : decode cJ1_canEncode_9a6ad 4 = .ok (.iload_n 0, 1) := by decide +kernel
theorem dJ1_canEncode_9a6ad_5 : decode cJ1_canEncode_9a6ad 5 = .ok (.sipush 255, 3) := by decide +kernel
theorem dJ1_canEncode_9a6ad_8 : decode cJ1_canEncode_9a6ad 8 = .ok (.if_icmp .gt 7, 3) := by decide +kernel
theorem dJ1_canEncode_9a6ad_11 : decode cJ1_canEncode_9a6ad 11 = .ok (.iconst 1, 1) := by decide +kernel
theorem dJ1_canEncode_9a6ad_12 : decode cJ1_canEncode_9a6ad 12 = .ok (.goto 4, 3) := by decide +kernel
theorem dJ1_canEncode_9a6ad_15 : decode cJ1_canEncode_9a6ad 15 = .ok (.iconst 0, 1) := by decide +kernel
theorem dJ1_canEncode_9a6ad_16 : decode cJ1_canEncode_9a6ad 16 = .ok (.ireturn, 1) := by decide +kernel
set_option maxRecDepth 20000 in
theorem ggJ1_indexOf_4cfef_J1_canEncode_9a6ad : GoodIn wsJ1_indexOf_4cfef wsJ1_canEncode_9a6ad := goodIn_r _ [11] (by decide +kernel) (by decide +kernel)
set_option maxRecDepth 20000 in
theorem gJ1_indexOf_4cfef_J1_canEncode_9a6ad : GoodIn wsJ1_indexOf_4cfef (va_wsS RJ1 88 yJ1_canEncode_9a6ad wsJ1_canEncode_9a6ad) := goodIn_app (goodIn_of _ (by decide +kernel)) ggJ1_indexOf_4cfef_J1_canEncode_9a6ad
set_option maxRecDepth 20000 in
theorem ggJ1_indexOf_4cfef_J1_indexOfChar_4cfef : GoodIn wsJ1_indexOf_4cfef wsJ1_indexOfChar_4cfef := goodIn_r _ [14] (by decide +kernel) (by decide +kernel)
set_option maxRecDepth 20000 in
theorem gJ1_indexOf_4cfef_J1_indexOfChar_4cfef : GoodIn wsJ1_indexOf_4cfef (va_wsS RJ1 95 yJ1_indexOfChar_4cfef wsJ1_indexOfChar_4cfef) := goodIn_app (goodIn_of _ (by decide +kernel)) ggJ1_indexOf_4cfef_J1_indexOfChar_4cfef
theorem dJ1_indexOf_4cfef_0 : decode cJ1_indexOf_4cfef 0 = .ok (.iload_n 1, 1) := by decide +kernel
theorem dJ1_indexOf_4cfef_1 : decode cJ1_indexOf_4cfef 1 = .ok (.invokestatic 88, 3) := by decide +kernel
theorem dJ1_indexOf_4cfef_4 : decode cJ1_indexOf_4cfef 4 = .ok (.ifCond .ne 5, 3) := by decide +kernel
theorem dJ1_indexOf_4cfef_7 : decode cJ1_indexOf_4cfef 7 = .ok (.iconst (-1), 1) := by decide +kernel
theorem dJ1_indexOf_4cfef_8 : decode cJ1_indexOf_4cfef 8 = .ok (.ireturn, 1) := by decide +kernel
theorem dJ1_indexOf_4cfef_9 : decode cJ1_indexOf_4cfef 9 = .ok (.iload_n 2, 1) := by decide +kernel
theorem dJ1_indexOf_4cfef_10 : decode cJ1_indexOf_4cfef 10 = .ok (.iconst 0, 1) := by decide +kernel
theorem dJ1_indexOf_4cfef_11 : decode cJ1_indexOf_4cfef 11 = .ok (.invokestatic 92, 3) := by decide +kernel
theorem dJ1_indexOf_4cfef_14 : decode cJ1_indexOf_4cfef 14 = .ok (.istore_n 2, 1) := by decide +kernel
theorem dJ1_indexOf_4cfef_15 : decode cJ1_indexOf_4cfef 15 = .ok (.iload_n 3, 1) := by decide +kernel
theorem dJ1_indexOf_4cfef_16 : decode cJ1_indexOf_4cfef 16 = .ok (.aload_n 0, 1) := by decide +kernel
theorem dJ1_indexOf_4cfef_17 : decode cJ1_indexOf_4cfef 17 = .ok (.arraylength, 1) := by decide +kernel
theorem dJ1_indexOf_4cfef_18 : decode cJ1_indexOf_4cfef 18 = .ok (.invokestatic 38, 3) := by decide +kernel
theorem dJ1_indexOf_4cfef_21 : decode cJ1_indexOf_4cfef 21 = .ok (.istore_n 3, 1) := by decide +kernel
theorem dJ1_indexOf_4cfef_22 : decode cJ1_indexOf_4cfef 22 = .ok (.iload_n 2, 1) := by decide +kernel
theorem dJ1_indexOf_4cfef_23 : decode cJ1_indexOf_4cfef 23 = .ok (.iload_n 3, 1) := by decide +kernel
theorem dJ1_indexOf_4cfef_24 : decode cJ1_indexOf_4cfef 24 = .ok (.if_icmp .lt 5, 3) := by decide +kernel
theorem dJ1_indexOf_4cfef_27 : decode cJ1_indexOf_4cfef 27 = .ok (.iconst (-1), 1) := by decide +kernel
theorem dJ1_indexOf_4cfef_28 : decode cJ1_indexOf_4cfef 28 = .ok (.ireturn, 1) := by decide +kernel
theorem dJ1_indexOf_4cfef_29 : decode cJ1_indexOf_4cfef 29 = .ok (.aload_n 0, 1) := by decide +kernel
theorem dJ1_indexOf_4cfef_30 : decode cJ1_indexOf_4cfef 30 = .ok (.iload_n 1, 1) := by decide +kernel
theorem dJ1_indexOf_4cfef_31 : decode cJ1_indexOf_4cfef 31 = .ok (.iload_n 2, 1) := by decide +kernel
theorem dJ1_indexOf_4cfef_32 : decode cJ1_indexOf_4cfef 32 = .ok (.iload_n 3, 1) := by decide +kernel
theorem dJ1_indexOf_4cfef_33 : decode cJ1_indexOf_4cfef 33 = .ok (.invokestatic 95, 3) := by decide +kernel
theorem dJ1_indexOf_4cfef_36 : decode cJ1_indexOf_4cfef 36 = .ok (.ireturn, 1) := by decide +kernel
theorem dJ1_indexOfChar_4cfef_0 : decode cJ1_indexOfChar_4cfef 0 = .ok (.iload_n 1, 1) := by decide +kernel
theorem dJ1_indexOfChar_4cfef_1 : decode cJ1_indexOfChar_4cfef 1 = .ok (.i2b, 1) := by decide +kernel
theorem dJ1_indexOfChar_4cfef_2 : decode cJ1_indexOfChar_4cfef 2 = .ok (.istore 4, 2) := by decide +kernel
theorem dJ1_indexOfChar_4cfef_4 : decode cJ1_indexOfChar_4cfef 4 = .ok (.iload_n 2, 1) := by decide +kernel
theorem dJ1_indexOfChar_4cfef_5 : decode cJ1_indexOfChar_4cfef 5 = .ok (.istore 5, 2) := by decide +kernel
theorem dJ1_indexOfChar_4cfef_7 : decode cJ1_indexOfChar_4cfef 7 = .ok (.iload 5, 2) := by decide +kernel
theorem dJ1_indexOfChar_4cfef_9 : decode cJ1_indexOfChar_4cfef 9 = .ok (.iload_n 3, 1) := by decide +kernel
theorem dJ1_indexOfChar_4cfef_10 : decode cJ1_indexOfChar_4cfef 10 = .ok (.if_icmp .ge 21, 3) := by decide +kernel
theorem dJ1_indexOfChar_4cfef_13 : decode cJ1_indexOfChar_4cfef 13 = .ok (.aload_n 0, 1) := by decide +kernel
theorem dJ1_indexOfChar_4cfef_14 : decode cJ1_indexOfChar_4cfef 14 = .ok (.iload 5, 2) := by decide +kernel
theorem dJ1_indexOfChar_4cfef_16 : decode cJ1_indexOfChar_4cfef 16 = .ok (.baload, 1) := by decide +kernel
theorem dJ1_indexOfChar_4cfef_17 : decode cJ1_indexOfChar_4cfef 17 = .ok (.iload 4, 2) := by decide +kernel
theorem dJ1_indexOfChar_4cfef_19 : decode cJ1_indexOfChar_4cfef 19 = .ok (.if_icmp .ne 6, 3) := by decide +kernel
theorem dJ1_indexOfChar_4cfef_22 : decode cJ1_indexOfChar_4cfef 22 = .ok (.iload 5, 2) := by decide +kernel
theorem dJ1_indexOfChar_4cfef_24 : decode cJ1_indexOfChar_4cfef 24 = .ok (.ireturn, 1) := by decide +kernel
theorem dJ1_indexOfChar_4cfef_25 : decode cJ1_indexOfChar_4cfef 25 = .ok (.iinc 5 1, 3) := by decide +kernel
theorem dJ1_indexOfChar_4cfef_28 : decode cJ1_indexOfChar_4cfef 28 = .ok (.goto (-21), 3) := by decide +kernel
theorem dJ1_indexOfChar_4cfef_31 : decode cJ1_indexOfChar_4cfef 31 = .ok (.iconst (-1), 1) := by decide +kernel
theorem dJ1_indexOfChar_4cfef_32 : decode cJ1_indexOfChar_4cfef 32 = .ok (.ireturn, 1) := by decide +kernel
set_option maxRecDepth 20000 in
theorem ggJ2_getChar_3b067_J2_length_9d52b : GoodIn wsJ2_getChar_3b067 wsJ2_length_9d52b := goodIn_r _ [7] (by decide +kernel) (by decide +kernel)
set_option maxRecDepth 20000 in
theorem gJ2_getChar_3b067_J2_length_9d52b : GoodIn wsJ2_getChar_3b067 (va_wsS RJ2 48 yJ2_length_9d52b wsJ2_length_9d52b) := goodIn_app (goodIn_of _ (by decide +kernel)) ggJ2_getChar_3b067_J2_length_9d52b
theorem dJ2_getChar_3b067_0 : decode cJ2_getChar_3b067 0 = .ok (.getstatic 44, 3) := by decide +kernel
theorem dJ2_getChar_3b067_3 : decode cJ2_getChar_3b067 3 = .ok (.ifCond .ne 25, 3) := by decide +kernel
theorem dJ2_getChar_3b067_6 : decode cJ2_getChar_3b067 6 = .ok (.iload_n 1, 1) := by decide +kernel
theorem dJ2_getChar_3b067_7 : decode cJ2_getChar_3b067 7 = .ok (.ifCond .lt 11, 3) := by decide +kernel
theorem dJ2_getChar_3b067_10 : decode cJ2_getChar_3b067 10 = .ok (.iload_n 1, 1) := by decide +kernel
theorem dJ2_getChar_3b067_11 : decode cJ2_getChar_3b067 11 = .ok (.aload_n 0, 1) := by decide +kernel
theorem dJ2_getChar_3b067_12 : decode cJ2_getChar_3b067 12 = .ok (.invokestatic 48, 3) := by decide +kernel
theorem dJ2_getChar_3b067_15 : decode cJ2_getChar_3b067 15 = .ok (.if_icmp .lt 13, 3) := by decide +kernel
theorem dJ2_getChar_3b067_18 : decode cJ2_getChar_3b067 18 = .ok (.new 52, 3) := by decide +kernel
theorem dJ2_getChar_3b067_21 : decode cJ2_getChar_3b067 21 = .ok (.dup, 1) := by decide +kernel
theorem dJ2_getChar_3b067_22 : decode cJ2_getChar_3b067 22 = .ok (.ldc 54, 2) := by decide +kernel
theorem dJ2_getChar_3b067_24 : decode cJ2_getChar_3b067 24 = .ok (.invokespecial 56, 3) := by decide +kernel
theorem dJ2_getChar_3b067_27 : decode cJ2_getChar_3b067 27 = .ok (.athrow, 1) := by decide +kernel
theorem dJ2_getChar_3b067_28 : decode cJ2_getChar_3b067 28 = .ok (.iload_n 1, 1) := by decide +kernel
theorem dJ2_getChar_3b067_29 : decode cJ2_getChar_3b067 29 = .ok (.iconst 1, 1) := by decide +kernel
theorem dJ2_getChar_3b067_30 : decode cJ2_getChar_3b067 30 = .ok (.ishl, 1) := by decide +kernel
theorem dJ2_getChar_3b067_31 : decode cJ2_getChar_3b067 31 = .ok (.istore_n 1, 1) := by decide +kernel
theorem dJ2_getChar_3b067_32 : decode cJ2_getChar_3b067 32 = .ok (.aload_n 0, 1) := by decide +kernel
theorem dJ2_getChar_3b067_33 : decode cJ2_getChar_3b067 33 = .ok (.iload_n 1, 1) := by decide +kernel
theorem dJ2_getChar_3b067_34 : decode cJ2_getChar_3b067 34 = .ok (.iinc 1 1, 3) := by decide +kernel
theorem dJ2_getChar_3b067_37 : decode cJ2_getChar_3b067 37 = .ok (.baload, 1) := by decide +kernel
theorem dJ2_getChar_3b067_38 : decode cJ2_getChar_3b067 38 = .ok (.sipush 255, 3) := by decide +kernel
theorem dJ2_getChar_3b067_41 : decode cJ2_getChar_3b067 41 = .ok (.iand, 1) := by decide +kernel
theorem dJ2_getChar_3b067_42 : decode cJ2_getChar_3b067 42 = .ok (.getstatic 59, 3) := by decide +kernel
theorem dJ2_getChar_3b067_45 : decode cJ2_getChar_3b067 45 = .ok (.ishl, 1) := by decide +kernel
theorem dJ2_getChar_3b067_46 : decode cJ2_getChar_3b067 46 = .ok (.aload_n 0, 1) := by decide +kernel
theorem dJ2_getChar_3b067_47 : decode cJ2_getChar_3b067 47 = .ok (.iload_n 1, 1) := by decide +kernel
theorem dJ2_getChar_3b067_48 : decode cJ2_getChar_3b067 48 = .ok (.baload, 1) := by decide +kernel
theorem dJ2_getChar_3b067_49 : decode cJ2_getChar_3b067 49 = .ok (.sipush 255, 3) := by decide +kernel
theorem dJ2_getChar_3b067_52 : decode cJ2_getChar_3b067 52 = .ok (.iand, 1) := by decide +kernel
theorem dJ2_getChar_3b067_53 : decode cJ2_getChar_3b067 53 = .ok (.getstatic 63, 3) := by decide +kernel
theorem dJ2_getChar_3b067_56 : decode cJ2_getChar_3b067 56 = .ok (.ishl, 1) := by decide +kernel
theorem dJ2_getChar_3b067_57 : decode cJ2_getChar_3b067 57 = .ok (.ior, 1) := by decide +kernel
theorem dJ2_getChar_3b067_58 : decode cJ2_getChar_3b067 58 = .ok (.i2c, 1) := by decide +kernel
theorem dJ2_getChar_3b067_59 : decode cJ2_getChar_3b067 59 = .ok (.ireturn, 1) := by decide +kernel
theorem dJ2_length_9d52b_0 : decode cJ2_length_9d52b 0 = .ok (.aload_n 0, 1) := by decide +kernel
theorem dJ2_length_9d52b_1 : decode cJ2_length_9d52b 1 = .ok (.arraylength, 1) := by decide +kernel
theorem dJ2_length_9d52b_2 : decode cJ2_length_9d52b 2 = .ok (.iconst 1, 1) := by decide +kernel
theorem dJ2_length_9d52b_3 : decode cJ2_length_9d52b 3 = .ok (.ishr, 1) := by decide +kernel
theorem dJ2_length_9d52b_4 : decode cJ2_length_9d52b 4 = .ok (.ireturn, 1) := by decide +kernel
set_option maxRecDepth 20000 in
theorem ggJ2_indexOf_4cfef_J2_indexOfChar_4cfef : GoodIn wsJ2_indexOf_4cfef wsJ2_indexOfChar_4cfef := goodIn_r _ [12, 13, 14, 11, 15, 16, 17, 18, 19, 20, 21, 22, 23, 24, 25, 26, 27, 28, 29, 30, 31, 32, 33, 34, 35, 36] (by decide +kernel) (by decide +kernel)
set_option maxRecDepth 20000 in
theorem gJ2_indexOf_4cfef_J2_indexOfChar_4cfef : GoodIn wsJ2_indexOf_4cfef (va_wsS RJ2 228 yJ2_indexOfChar_4cfef wsJ2_indexOfChar_4cfef) := goodIn_app (goodIn_of _ (by decide +kernel)) ggJ2_indexOf_4cfef_J2_indexOfChar_4cfef
set_option maxRecDepth 20000 in
theorem ggJ2_indexOf_4cfef_J2_indexOfSupplementary_4cfef : GoodIn wsJ2_indexOf_4cfef wsJ2_indexOfSupplementary_4cfef := goodIn_r _ [39, 40, 41, 42, 43, 44, 45, 46, 47, 48, 49, 50, 51, 13, 14, 11, 15, 16, 17, 18, 19, 20, 21, 22, 23, 24, 25, 26, 27, 31, 32, 33, 34, 35, 36] (by decide +kernel) (by decide +kernel)
set_option maxRecDepth 20000 in
theorem gJ2_indexOf_4cfef_J2_indexOfSupplementary_4cfef : GoodIn wsJ2_indexOf_4cfef (va_wsS RJ2 232 yJ2_indexOfSupplementary_4cfef wsJ2_indexOfSupplementary_4cfef) := goodIn_app (goodIn_of _ (by decide +kernel)) ggJ2_indexOf_4cfef_J2_indexOfSupplementary_4cfef
theorem dJ2_indexOf_4cfef_0 : decode cJ2_indexOf_4cfef 0 = .ok (.iload_n 2, 1) := by decide +kernel
theorem dJ2_indexOf_4cfef_1 : decode cJ2_indexOf_4cfef 1 = .ok (.iconst 0, 1) := by decide +kernel
theorem dJ2_indexOf_4cfef_2 : decode cJ2_indexOf_4cfef 2 = .ok (.invokestatic 224, 3) := by decide +kernel
theorem dJ2_indexOf_4cfef_5 : decode cJ2_indexOf_4cfef 5 = .ok (.istore_n 2, 1) := by decide +kernel
theorem dJ2_indexOf_4cfef_6 : decode cJ2_indexOf_4cfef 6 = .ok (.iload_n 3, 1) := by decide +kernel
theorem dJ2_indexOf_4cfef_7 : decode cJ2_indexOf_4cfef 7 = .ok (.aload_n 0, 1) := by decide +kernel
theorem dJ2_indexOf_4cfef_8 : decode cJ2_indexOf_4cfef 8 = .ok (.arraylength, 1) := by decide +kernel
theorem dJ2_indexOf_4cfef_9 : decode cJ2_indexOf_4cfef 9 = .ok (.iconst 1, 1) := by decide +kernel

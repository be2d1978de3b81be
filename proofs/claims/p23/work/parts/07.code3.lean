theorem dX9_swap_99 : decode cX9_swap 99 = .ok (.iastore, 1) := by decide +kernel
theorem dX9_swap_100 : decode cX9_swap 100 = .ok (.iinc 3 1, 3) := by decide +kernel
theorem dX9_swap_103 : decode cX9_swap 103 = .ok (.goto (-77), 3) := by decide +kernel
theorem dX9_swap_106 : decode cX9_swap 106 = .ok (.aload_n 0, 1) := by decide +kernel
theorem dX9_swap_107 : decode cX9_swap 107 = .ok (.iconst 1, 1) := by decide +kernel
theorem dX9_swap_108 : decode cX9_swap 108 = .ok (.putfield 153, 3) := by decide +kernel
theorem dX9_swap_111 : decode cX9_swap 111 = .ok (.aload_n 0, 1) := by decide +kernel
theorem dX9_swap_112 : decode cX9_swap 112 = .ok (.invokevirtual 223, 3) := by decide +kernel
theorem dX9_swap_115 : decode cX9_swap 115 = .ok (.aload_n 0, 1) := by decide +kernel
theorem dX9_swap_116 : decode cX9_swap 116 = .ok (.invokevirtual 268, 3) := by decide +kernel
theorem dX9_swap_119 : decode cX9_swap 119 = .ok (.ireturn, 1) := by decide +kernel
theorem dX9_see_0 : decode cX9_see 0 = .ok (.aload_n 0, 1) := by decide +kernel
theorem dX9_see_1 : decode cX9_see 1 = .ok (.iload_n 1, 1) := by decide +kernel
theorem dX9_see_2 : decode cX9_see 2 = .ok (.invokevirtual 163, 3) := by decide +kernel
theorem dX9_see_5 : decode cX9_see 5 = .ok (.ifCond .ne 6, 3) := by decide +kernel
theorem dX9_see_8 : decode cX9_see 8 = .ok (.bipush (-101), 2) := by decide +kernel
theorem dX9_see_10 : decode cX9_see 10 = .ok (.ireturn, 1) := by decide +kernel
theorem dX9_see_11 : decode cX9_see 11 = .ok (.iload_n 2, 1) := by decide +kernel
theorem dX9_see_12 : decode cX9_see 12 = .ok (.i2l, 1) := by decide +kernel
theorem dX9_see_13 : decode cX9_see 13 = .ok (.lconst 0, 1) := by decide +kernel
theorem dX9_see_14 : decode cX9_see 14 = .ok (.ldc2_w 166, 3) := by decide +kernel
theorem dX9_see_17 : decode cX9_see 17 = .ok (.invokestatic 88, 3) := by decide +kernel
theorem dX9_see_20 : decode cX9_see 20 = .ok (.ifCond .ne 6, 3) := by decide +kernel
theorem dX9_see_23 : decode cX9_see 23 = .ok (.bipush (-102), 2) := by decide +kernel
theorem dX9_see_25 : decode cX9_see 25 = .ok (.ireturn, 1) := by decide +kernel
theorem dX9_see_26 : decode cX9_see 26 = .ok (.aload_n 0, 1) := by decide +kernel
theorem dX9_see_27 : decode cX9_see 27 = .ok (.getfield 157, 3) := by decide +kernel
theorem dX9_see_30 : decode cX9_see 30 = .ok (.bipush 6, 2) := by decide +kernel
theorem dX9_see_32 : decode cX9_see 32 = .ok (.if_icmp .ne 6, 3) := by decide +kernel
theorem dX9_see_35 : decode cX9_see 35 = .ok (.bipush (-104), 2) := by decide +kernel
theorem dX9_see_37 : decode cX9_see 37 = .ok (.ireturn, 1) := by decide +kernel
theorem dX9_see_38 : decode cX9_see 38 = .ok (.aload_n 0, 1) := by decide +kernel
theorem dX9_see_39 : decode cX9_see 39 = .ok (.getfield 67, 3) := by decide +kernel
theorem dX9_see_42 : decode cX9_see 42 = .ok (.iconst 3, 1) := by decide +kernel
theorem dX9_see_43 : decode cX9_see 43 = .ok (.aload_n 0, 1) := by decide +kernel
theorem dX9_see_44 : decode cX9_see 44 = .ok (.getfield 157, 3) := by decide +kernel
theorem dX9_see_47 : decode cX9_see 47 = .ok (.imul, 1) := by decide +kernel
theorem dX9_see_48 : decode cX9_see 48 = .ok (.iload_n 1, 1) := by decide +kernel
theorem dX9_see_49 : decode cX9_see 49 = .ok (.iastore, 1) := by decide +kernel
theorem dX9_see_50 : decode cX9_see 50 = .ok (.aload_n 0, 1) := by decide +kernel
theorem dX9_see_51 : decode cX9_see 51 = .ok (.getfield 67, 3) := by decide +kernel
theorem dX9_see_54 : decode cX9_see 54 = .ok (.iconst 3, 1) := by decide +kernel
theorem dX9_see_55 : decode cX9_see 55 = .ok (.aload_n 0, 1) := by decide +kernel
theorem dX9_see_56 : decode cX9_see 56 = .ok (.getfield 157, 3) := by decide +kernel
theorem dX9_see_59 : decode cX9_see 59 = .ok (.imul, 1) := by decide +kernel
theorem dX9_see_60 : decode cX9_see 60 = .ok (.iconst 1, 1) := by decide +kernel
theorem dX9_see_61 : decode cX9_see 61 = .ok (.iadd, 1) := by decide +kernel
theorem dX9_see_62 : decode cX9_see 62 = .ok (.iload_n 2, 1) := by decide +kernel
theorem dX9_see_63 : decode cX9_see 63 = .ok (.iastore, 1) := by decide +kernel
theorem dX9_see_64 : decode cX9_see 64 = .ok (.aload_n 0, 1) := by decide +kernel
theorem dX9_see_65 : decode cX9_see 65 = .ok (.getfield 67, 3) := by decide +kernel
theorem dX9_see_68 : decode cX9_see 68 = .ok (.iconst 3, 1) := by decide +kernel
theorem dX9_see_69 : decode cX9_see 69 = .ok (.aload_n 0, 1) := by decide +kernel
theorem dX9_see_70 : decode cX9_see 70 = .ok (.getfield 157, 3) := by decide +kernel
theorem dX9_see_73 : decode cX9_see 73 = .ok (.imul, 1) := by decide +kernel
theorem dX9_see_74 : decode cX9_see 74 = .ok (.iconst 2, 1) := by decide +kernel
theorem dX9_see_75 : decode cX9_see 75 = .ok (.iadd, 1) := by decide +kernel
theorem dX9_see_76 : decode cX9_see 76 = .ok (.iload_n 3, 1) := by decide +kernel
theorem dX9_see_77 : decode cX9_see 77 = .ok (.ifCond .eq 7, 3) := by decide +kernel
theorem dX9_see_80 : decode cX9_see 80 = .ok (.iconst 1, 1) := by decide +kernel
theorem dX9_see_81 : decode cX9_see 81 = .ok (.goto 4, 3) := by decide +kernel
theorem dX9_see_84 : decode cX9_see 84 = .ok (.iconst 0, 1) := by decide +kernel
theorem dX9_see_85 : decode cX9_see 85 = .ok (.iastore, 1) := by decide +kernel
theorem dX9_see_86 : decode cX9_see 86 = .ok (.aload_n 0, 1) := by decide +kernel
theorem dX9_see_87 : decode cX9_see 87 = .ok (.dup, 1) := by decide +kernel
theorem dX9_see_88 : decode cX9_see 88 = .ok (.getfield 157, 3) := by decide +kernel
theorem dX9_see_91 : decode cX9_see 91 = .ok (.iconst 1, 1) := by decide +kernel
theorem dX9_see_92 : decode cX9_see 92 = .ok (.iadd, 1) := by decide +kernel
theorem dX9_see_93 : decode cX9_see 93 = .ok (.putfield 157, 3) := by decide +kernel
theorem dX9_see_96 : decode cX9_see 96 = .ok (.aload_n 0, 1) := by decide +kernel
theorem dX9_see_97 : decode cX9_see 97 = .ok (.getfield 157, 3) := by decide +kernel
theorem dX9_see_100 : decode cX9_see 100 = .ok (.ireturn, 1) := by decide +kernel
theorem dX9_forget_0 : decode cX9_forget 0 = .ok (.aload_n 0, 1) := by decide +kernel
theorem dX9_forget_1 : decode cX9_forget 1 = .ok (.getfield 157, 3) := by decide +kernel
theorem dX9_forget_4 : decode cX9_forget 4 = .ok (.istore_n 1, 1) := by decide +kernel
theorem dX9_forget_5 : decode cX9_forget 5 = .ok (.aload_n 0, 1) := by decide +kernel
theorem dX9_forget_6 : decode cX9_forget 6 = .ok (.iconst 0, 1) := by decide +kernel
theorem dX9_forget_7 : decode cX9_forget 7 = .ok (.putfield 157, 3) := by decide +kernel
theorem dX9_forget_10 : decode cX9_forget 10 = .ok (.iload_n 1, 1) := by decide +kernel
theorem dX9_forget_11 : decode cX9_forget 11 = .ok (.ireturn, 1) := by decide +kernel
theorem dX9_sortsBy_0 : decode cX9_sortsBy 0 = .ok (.iload_n 0, 1) := by decide +kernel
theorem dX9_sortsBy_1 : decode cX9_sortsBy 1 = .ok (.tableswitch 36 0 2 #[27, 30, 33], 27) := by decide +kernel
theorem dX9_sortsBy_28 : decode cX9_sortsBy 28 = .ok (.bipush 17, 2) := by decide +kernel
theorem dX9_sortsBy_30 : decode cX9_sortsBy 30 = .ok (.ireturn, 1) := by decide +kernel
theorem dX9_sortsBy_31 : decode cX9_sortsBy 31 = .ok (.bipush 19, 2) := by decide +kernel
theorem dX9_sortsBy_33 : decode cX9_sortsBy 33 = .ok (.ireturn, 1) := by decide +kernel
theorem dX9_sortsBy_34 : decode cX9_sortsBy 34 = .ok (.bipush 16, 2) := by decide +kernel
theorem dX9_sortsBy_36 : decode cX9_sortsBy 36 = .ok (.ireturn, 1) := by decide +kernel
theorem dX9_sortsBy_37 : decode cX9_sortsBy 37 = .ok (.iconst 2, 1) := by decide +kernel
theorem dX9_sortsBy_38 : decode cX9_sortsBy 38 = .ok (.ireturn, 1) := by decide +kernel
theorem dX9_sortsOf_0 : decode cX9_sortsOf 0 = .ok (.bipush 31, 2) := by decide +kernel
theorem dX9_sortsOf_2 : decode cX9_sortsOf 2 = .ok (.istore_n 2, 1) := by decide +kernel
theorem dX9_sortsOf_3 : decode cX9_sortsOf 3 = .ok (.iconst 0, 1) := by decide +kernel
theorem dX9_sortsOf_4 : decode cX9_sortsOf 4 = .ok (.istore_n 3, 1) := by decide +kernel
theorem dX9_sortsOf_5 : decode cX9_sortsOf 5 = .ok (.iload_n 3, 1) := by decide +kernel
theorem dX9_sortsOf_6 : decode cX9_sortsOf 6 = .ok (.iconst 3, 1) := by decide +kernel
theorem dX9_sortsOf_7 : decode cX9_sortsOf 7 = .ok (.aload_n 0, 1) := by decide +kernel
theorem dX9_sortsOf_8 : decode cX9_sortsOf 8 = .ok (.getfield 157, 3) := by decide +kernel
theorem dX9_sortsOf_11 : decode cX9_sortsOf 11 = .ok (.imul, 1) := by decide +kernel
theorem dX9_sortsOf_12 : decode cX9_sortsOf 12 = .ok (.if_icmp .ge 57, 3) := by decide +kernel
theorem dX9_sortsOf_15 : decode cX9_sortsOf 15 = .ok (.aload_n 0, 1) := by decide +kernel
theorem dX9_sortsOf_16 : decode cX9_sortsOf 16 = .ok (.getfield 67, 3) := by decide +kernel
theorem dX9_sortsOf_19 : decode cX9_sortsOf 19 = .ok (.iload_n 3, 1) := by decide +kernel
theorem dX9_sortsOf_20 : decode cX9_sortsOf 20 = .ok (.iaload, 1) := by decide +kernel
theorem dX9_sortsOf_21 : decode cX9_sortsOf 21 = .ok (.iload_n 1, 1) := by decide +kernel
theorem dX9_sortsOf_22 : decode cX9_sortsOf 22 = .ok (.if_icmp .ne 41, 3) := by decide +kernel
theorem dX9_sortsOf_25 : decode cX9_sortsOf 25 = .ok (.aload_n 0, 1) := by decide +kernel
theorem dX9_sortsOf_26 : decode cX9_sortsOf 26 = .ok (.getfield 67, 3) := by decide +kernel
theorem dX9_sortsOf_29 : decode cX9_sortsOf 29 = .ok (.iload_n 3, 1) := by decide +kernel
theorem dX9_sortsOf_30 : decode cX9_sortsOf 30 = .ok (.iconst 1, 1) := by decide +kernel
theorem dX9_sortsOf_31 : decode cX9_sortsOf 31 = .ok (.iadd, 1) := by decide +kernel
theorem dX9_sortsOf_32 : decode cX9_sortsOf 32 = .ok (.iaload, 1) := by decide +kernel
theorem dX9_sortsOf_33 : decode cX9_sortsOf 33 = .ok (.invokestatic 271, 3) := by decide +kernel
theorem dX9_sortsOf_36 : decode cX9_sortsOf 36 = .ok (.istore 4, 2) := by decide +kernel
theorem dX9_sortsOf_38 : decode cX9_sortsOf 38 = .ok (.iload_n 2, 1) := by decide +kernel
theorem dX9_sortsOf_39 : decode cX9_sortsOf 39 = .ok (.aload_n 0, 1) := by decide +kernel
theorem dX9_sortsOf_40 : decode cX9_sortsOf 40 = .ok (.getfield 67, 3) := by decide +kernel
theorem dX9_sortsOf_43 : decode cX9_sortsOf 43 = .ok (.iload_n 3, 1) := by decide +kernel
theorem dX9_sortsOf_44 : decode cX9_sortsOf 44 = .ok (.iconst 2, 1) := by decide +kernel
theorem dX9_sortsOf_45 : decode cX9_sortsOf 45 = .ok (.iadd, 1) := by decide +kernel
theorem dX9_sortsOf_46 : decode cX9_sortsOf 46 = .ok (.iaload, 1) := by decide +kernel
theorem dX9_sortsOf_47 : decode cX9_sortsOf 47 = .ok (.iconst 1, 1) := by decide +kernel
theorem dX9_sortsOf_48 : decode cX9_sortsOf 48 = .ok (.if_icmp .ne 8, 3) := by decide +kernel
theorem dX9_sortsOf_51 : decode cX9_sortsOf 51 = .ok (.iload 4, 2) := by decide +kernel
theorem dX9_sortsOf_53 : decode cX9_sortsOf 53 = .ok (.goto 8, 3) := by decide +kernel
theorem dX9_sortsOf_56 : decode cX9_sortsOf 56 = .ok (.bipush 31, 2) := by decide +kernel
theorem dX9_sortsOf_58 : decode cX9_sortsOf 58 = .ok (.iload 4, 2) := by decide +kernel
theorem dX9_sortsOf_60 : decode cX9_sortsOf 60 = .ok (.isub, 1) := by decide +kernel
theorem dX9_sortsOf_61 : decode cX9_sortsOf 61 = .ok (.iand, 1) := by decide +kernel
theorem dX9_sortsOf_62 : decode cX9_sortsOf 62 = .ok (.istore_n 2, 1) := by decide +kernel
theorem dX9_sortsOf_63 : decode cX9_sortsOf 63 = .ok (.iinc 3 3, 3) := by decide +kernel
theorem dX9_sortsOf_66 : decode cX9_sortsOf 66 = .ok (.goto (-61), 3) := by decide +kernel
theorem dX9_sortsOf_69 : decode cX9_sortsOf 69 = .ok (.iload_n 2, 1) := by decide +kernel
theorem dX9_sortsOf_70 : decode cX9_sortsOf 70 = .ok (.ireturn, 1) := by decide +kernel
theorem dX9_ones_0 : decode cX9_ones 0 = .ok (.iconst 0, 1) := by decide +kernel
theorem dX9_ones_1 : decode cX9_ones 1 = .ok (.istore_n 1, 1) := by decide +kernel
theorem dX9_ones_2 : decode cX9_ones 2 = .ok (.iconst 0, 1) := by decide +kernel
theorem dX9_ones_3 : decode cX9_ones 3 = .ok (.istore_n 2, 1) := by decide +kernel
theorem dX9_ones_4 : decode cX9_ones 4 = .ok (.iload_n 2, 1) := by decide +kernel
theorem dX9_ones_5 : decode cX9_ones 5 = .ok (.iconst 5, 1) := by decide +kernel
theorem dX9_ones_6 : decode cX9_ones 6 = .ok (.if_icmp .ge 17, 3) := by decide +kernel
theorem dX9_ones_9 : decode cX9_ones 9 = .ok (.iload_n 1, 1) := by decide +kernel
theorem dX9_ones_10 : decode cX9_ones 10 = .ok (.iload_n 0, 1) := by decide +kernel
theorem dX9_ones_11 : decode cX9_ones 11 = .ok (.iload_n 2, 1) := by decide +kernel
theorem dX9_ones_12 : decode cX9_ones 12 = .ok (.ishr, 1) := by decide +kernel
theorem dX9_ones_13 : decode cX9_ones 13 = .ok (.iconst 1, 1) := by decide +kernel
theorem dX9_ones_14 : decode cX9_ones 14 = .ok (.iand, 1) := by decide +kernel
theorem dX9_ones_15 : decode cX9_ones 15 = .ok (.iadd, 1) := by decide +kernel
theorem dX9_ones_16 : decode cX9_ones 16 = .ok (.istore_n 1, 1) := by decide +kernel
theorem dX9_ones_17 : decode cX9_ones 17 = .ok (.iinc 2 1, 3) := by decide +kernel
theorem dX9_ones_20 : decode cX9_ones 20 = .ok (.goto (-16), 3) := by decide +kernel
theorem dX9_ones_23 : decode cX9_ones 23 = .ok (.iload_n 1, 1) := by decide +kernel
theorem dX9_ones_24 : decode cX9_ones 24 = .ok (.ireturn, 1) := by decide +kernel
theorem dX9_askOf_0 : decode cX9_askOf 0 = .ok (.aload_n 0, 1) := by decide +kernel
theorem dX9_askOf_1 : decode cX9_askOf 1 = .ok (.iload_n 1, 1) := by decide +kernel
theorem dX9_askOf_2 : decode cX9_askOf 2 = .ok (.invokevirtual 250, 3) := by decide +kernel
theorem dX9_askOf_5 : decode cX9_askOf 5 = .ok (.istore_n 2, 1) := by decide +kernel
theorem dX9_askOf_6 : decode cX9_askOf 6 = .ok (.iconst (-1), 1) := by decide +kernel
theorem dX9_askOf_7 : decode cX9_askOf 7 = .ok (.istore_n 3, 1) := by decide +kernel
theorem dX9_askOf_8 : decode cX9_askOf 8 = .ok (.bipush 6, 2) := by decide +kernel
theorem dX9_askOf_10 : decode cX9_askOf 10 = .ok (.istore 4, 2) := by decide +kernel
theorem dX9_askOf_12 : decode cX9_askOf 12 = .ok (.iconst 0, 1) := by decide +kernel
theorem dX9_askOf_13 : decode cX9_askOf 13 = .ok (.istore 5, 2) := by decide +kernel
theorem dX9_askOf_15 : decode cX9_askOf 15 = .ok (.iload 5, 2) := by decide +kernel
theorem dX9_askOf_17 : decode cX9_askOf 17 = .ok (.iconst 4, 1) := by decide +kernel
theorem dX9_askOf_18 : decode cX9_askOf 18 = .ok (.if_icmp .ge 80, 3) := by decide +kernel
theorem dX9_askOf_21 : decode cX9_askOf 21 = .ok (.iload_n 2, 1) := by decide +kernel
theorem dX9_askOf_22 : decode cX9_askOf 22 = .ok (.ifCond .eq 76, 3) := by decide +kernel
theorem dX9_askOf_25 : decode cX9_askOf 25 = .ok (.iload_n 2, 1) := by decide +kernel
theorem dX9_askOf_26 : decode cX9_askOf 26 = .ok (.iload 5, 2) := by decide +kernel
theorem dX9_askOf_28 : decode cX9_askOf 28 = .ok (.invokestatic 271, 3) := by decide +kernel
theorem dX9_askOf_31 : decode cX9_askOf 31 = .ok (.iand, 1) := by decide +kernel
theorem dX9_askOf_32 : decode cX9_askOf 32 = .ok (.invokestatic 274, 3) := by decide +kernel
theorem dX9_askOf_35 : decode cX9_askOf 35 = .ok (.istore 6, 2) := by decide +kernel
theorem dX9_askOf_37 : decode cX9_askOf 37 = .ok (.iload_n 2, 1) := by decide +kernel
theorem dX9_askOf_38 : decode cX9_askOf 38 = .ok (.invokestatic 274, 3) := by decide +kernel
theorem dX9_askOf_41 : decode cX9_askOf 41 = .ok (.iload 6, 2) := by decide +kernel
theorem dX9_askOf_43 : decode cX9_askOf 43 = .ok (.isub, 1) := by decide +kernel
theorem dX9_askOf_44 : decode cX9_askOf 44 = .ok (.istore 7, 2) := by decide +kernel
theorem dX9_askOf_46 : decode cX9_askOf 46 = .ok (.iload 6, 2) := by decide +kernel
theorem dX9_askOf_48 : decode cX9_askOf 48 = .ok (.iload 7, 2) := by decide +kernel
theorem dX9_askOf_50 : decode cX9_askOf 50 = .ok (.if_icmp .le 8, 3) := by decide +kernel
theorem dX9_askOf_53 : decode cX9_askOf 53 = .ok (.iload 6, 2) := by decide +kernel
theorem dX9_askOf_55 : decode cX9_askOf 55 = .ok (.goto 5, 3) := by decide +kernel
theorem dX9_askOf_58 : decode cX9_askOf 58 = .ok (.iload 7, 2) := by decide +kernel
theorem dX9_askOf_60 : decode cX9_askOf 60 = .ok (.istore 8, 2) := by decide +kernel
theorem dX9_askOf_62 : decode cX9_askOf 62 = .ok (.iload 8, 2) := by decide +kernel
theorem dX9_askOf_64 : decode cX9_askOf 64 = .ok (.iload 4, 2) := by decide +kernel
theorem dX9_askOf_66 : decode cX9_askOf 66 = .ok (.if_icmp .ge 8, 3) := by decide +kernel
theorem dX9_askOf_69 : decode cX9_askOf 69 = .ok (.iload 5, 2) := by decide +kernel
theorem dX9_askOf_71 : decode cX9_askOf 71 = .ok (.goto 4, 3) := by decide +kernel
theorem dX9_askOf_74 : decode cX9_askOf 74 = .ok (.iload_n 3, 1) := by decide +kernel
theorem dX9_askOf_75 : decode cX9_askOf 75 = .ok (.istore_n 3, 1) := by decide +kernel
theorem dX9_askOf_76 : decode cX9_askOf 76 = .ok (.iload 8, 2) := by decide +kernel
theorem dX9_askOf_78 : decode cX9_askOf 78 = .ok (.iload 4, 2) := by decide +kernel
theorem dX9_askOf_80 : decode cX9_askOf 80 = .ok (.if_icmp .ge 8, 3) := by decide +kernel
theorem dX9_askOf_83 : decode cX9_askOf 83 = .ok (.iload 8, 2) := by decide +kernel
theorem dX9_askOf_85 : decode cX9_askOf 85 = .ok (.goto 5, 3) := by decide +kernel
theorem dX9_askOf_88 : decode cX9_askOf 88 = .ok (.iload 4, 2) := by decide +kernel
theorem dX9_askOf_90 : decode cX9_askOf 90 = .ok (.istore 4, 2) := by decide +kernel
theorem dX9_askOf_92 : decode cX9_askOf 92 = .ok (.iinc 5 1, 3) := by decide +kernel
theorem dX9_askOf_95 : decode cX9_askOf 95 = .ok (.goto (-80), 3) := by decide +kernel
theorem dX9_askOf_98 : decode cX9_askOf 98 = .ok (.iload_n 3, 1) := by decide +kernel
theorem dX9_askOf_99 : decode cX9_askOf 99 = .ok (.ireturn, 1) := by decide +kernel
theorem dX9_draw_0 : decode cX9_draw 0 = .ok (.aload_n 0, 1) := by decide +kernel
theorem dX9_draw_1 : decode cX9_draw 1 = .ok (.ldc2_w 277, 3) := by decide +kernel
theorem dX9_draw_4 : decode cX9_draw 4 = .ok (.aload_n 0, 1) := by decide +kernel
theorem dX9_draw_5 : decode cX9_draw 5 = .ok (.getfield 279, 3) := by decide +kernel
theorem dX9_draw_8 : decode cX9_draw 8 = .ok (.i2l, 1) := by decide +kernel
theorem dX9_draw_9 : decode cX9_draw 9 = .ok (.lmul, 1) := by decide +kernel
theorem dX9_draw_10 : decode cX9_draw 10 = .ok (.ldc2_w 282, 3) := by decide +kernel
theorem dX9_draw_13 : decode cX9_draw 13 = .ok (.ladd, 1) := by decide +kernel
theorem dX9_draw_14 : decode cX9_draw 14 = .ok (.ldc2_w 284, 3) := by decide +kernel
theorem dX9_draw_17 : decode cX9_draw 17 = .ok (.land, 1) := by decide +kernel
theorem dX9_draw_18 : decode cX9_draw 18 = .ok (.l2i, 1) := by decide +kernel
theorem dX9_draw_19 : decode cX9_draw 19 = .ok (.putfield 279, 3) := by decide +kernel
theorem dX9_draw_22 : decode cX9_draw 22 = .ok (.aload_n 0, 1) := by decide +kernel
theorem dX9_draw_23 : decode cX9_draw 23 = .ok (.getfield 279, 3) := by decide +kernel
theorem dX9_draw_26 : decode cX9_draw 26 = .ok (.ldc_w 286, 3) := by decide +kernel
theorem dX9_draw_29 : decode cX9_draw 29 = .ok (.idiv, 1) := by decide +kernel
theorem dX9_draw_30 : decode cX9_draw 30 = .ok (.iload_n 1, 1) := by decide +kernel
theorem dX9_draw_31 : decode cX9_draw 31 = .ok (.irem, 1) := by decide +kernel
theorem dX9_draw_32 : decode cX9_draw 32 = .ok (.ireturn, 1) := by decide +kernel
theorem dX9_drawn_0 : decode cX9_drawn 0 = .ok (.iload_n 1, 1) := by decide +kernel
theorem dX9_drawn_1 : decode cX9_drawn 1 = .ok (.i2l, 1) := by decide +kernel
theorem dX9_drawn_2 : decode cX9_drawn 2 = .ok (.lconst 1, 1) := by decide +kernel
theorem dX9_drawn_3 : decode cX9_drawn 3 = .ok (.ldc2_w 287, 3) := by decide +kernel
theorem dX9_drawn_6 : decode cX9_drawn 6 = .ok (.invokestatic 88, 3) := by decide +kernel
theorem dX9_drawn_9 : decode cX9_drawn 9 = .ok (.ifCond .eq 19, 3) := by decide +kernel
theorem dX9_drawn_12 : decode cX9_drawn 12 = .ok (.iload_n 2, 1) := by decide +kernel
theorem dX9_drawn_13 : decode cX9_drawn 13 = .ok (.ifCond .lt 15, 3) := by decide +kernel
theorem dX9_drawn_16 : decode cX9_drawn 16 = .ok (.iload_n 3, 1) := by decide +kernel
theorem dX9_drawn_17 : decode cX9_drawn 17 = .ok (.i2l, 1) := by decide +kernel
theorem dX9_drawn_18 : decode cX9_drawn 18 = .ok (.lconst 0, 1) := by decide +kernel
theorem dX9_drawn_19 : decode cX9_drawn 19 = .ok (.ldc2_w 221, 3) := by decide +kernel
theorem dX9_drawn_22 : decode cX9_drawn 22 = .ok (.invokestatic 88, 3) := by decide +kernel
theorem dX9_drawn_25 : decode cX9_drawn 25 = .ok (.ifCond .ne 6, 3) := by decide +kernel
theorem dX9_drawn_28 : decode cX9_drawn 28 = .ok (.bipush (-102), 2) := by decide +kernel
theorem dX9_drawn_30 : decode cX9_drawn 30 = .ok (.ireturn, 1) := by decide +kernel
theorem dX9_drawn_31 : decode cX9_drawn 31 = .ok (.aload_n 0, 1) := by decide +kernel
theorem dX9_drawn_32 : decode cX9_drawn 32 = .ok (.iload_n 2, 1) := by decide +kernel
theorem dX9_drawn_33 : decode cX9_drawn 33 = .ok (.putfield 279, 3) := by decide +kernel
theorem dX9_drawn_36 : decode cX9_drawn 36 = .ok (.iconst 0, 1) := by decide +kernel
theorem dX9_drawn_37 : decode cX9_drawn 37 = .ok (.istore 4, 2) := by decide +kernel
theorem dX9_drawn_39 : decode cX9_drawn 39 = .ok (.iconst 0, 1) := by decide +kernel
theorem dX9_drawn_40 : decode cX9_drawn 40 = .ok (.istore 5, 2) := by decide +kernel
theorem dX9_drawn_42 : decode cX9_drawn 42 = .ok (.iconst 0, 1) := by decide +kernel
theorem dX9_drawn_43 : decode cX9_drawn 43 = .ok (.istore 6, 2) := by decide +kernel
theorem dX9_drawn_45 : decode cX9_drawn 45 = .ok (.iload 6, 2) := by decide +kernel
theorem dX9_drawn_47 : decode cX9_drawn 47 = .ok (.iload_n 1, 1) := by decide +kernel
theorem dX9_drawn_48 : decode cX9_drawn 48 = .ok (.if_icmp .ge 109, 3) := by decide +kernel
theorem dX9_drawn_51 : decode cX9_drawn 51 = .ok (.iconst 0, 1) := by decide +kernel
theorem dX9_drawn_52 : decode cX9_drawn 52 = .ok (.istore 7, 2) := by decide +kernel
theorem dX9_drawn_54 : decode cX9_drawn 54 = .ok (.iload 7, 2) := by decide +kernel
theorem dX9_drawn_56 : decode cX9_drawn 56 = .ok (.iconst 4, 1) := by decide +kernel
theorem dX9_drawn_57 : decode cX9_drawn 57 = .ok (.if_icmp .ge 22, 3) := by decide +kernel
theorem dX9_drawn_60 : decode cX9_drawn 60 = .ok (.aload_n 0, 1) := by decide +kernel
theorem dX9_drawn_61 : decode cX9_drawn 61 = .ok (.getfield 37, 3) := by decide +kernel
theorem dX9_drawn_64 : decode cX9_drawn 64 = .ok (.iload 7, 2) := by decide +kernel
theorem dX9_drawn_66 : decode cX9_drawn 66 = .ok (.aload_n 0, 1) := by decide +kernel
theorem dX9_drawn_67 : decode cX9_drawn 67 = .ok (.bipush 9, 2) := by decide +kernel
theorem dX9_drawn_69 : decode cX9_drawn 69 = .ok (.invokevirtual 289, 3) := by decide +kernel
theorem dX9_drawn_72 : decode cX9_drawn 72 = .ok (.iastore, 1) := by decide +kernel
theorem dX9_drawn_73 : decode cX9_drawn 73 = .ok (.iinc 7 1, 3) := by decide +kernel
theorem dX9_drawn_76 : decode cX9_drawn 76 = .ok (.goto (-22), 3) := by decide +kernel
theorem dX9_drawn_79 : decode cX9_drawn 79 = .ok (.iload 4, 2) := by decide +kernel
theorem dX9_drawn_81 : decode cX9_drawn 81 = .ok (.aload_n 0, 1) := by decide +kernel
theorem dX9_drawn_82 : decode cX9_drawn 82 = .ok (.iconst 4, 1) := by decide +kernel
theorem dX9_drawn_83 : decode cX9_drawn 83 = .ok (.invokevirtual 199, 3) := by decide +kernel
theorem dX9_drawn_86 : decode cX9_drawn 86 = .ok (.iadd, 1) := by decide +kernel
theorem dX9_drawn_87 : decode cX9_drawn 87 = .ok (.istore 4, 2) := by decide +kernel
theorem dX9_drawn_89 : decode cX9_drawn 89 = .ok (.iconst 1, 1) := by decide +kernel
theorem dX9_drawn_90 : decode cX9_drawn 90 = .ok (.istore 7, 2) := by decide +kernel
theorem dX9_drawn_92 : decode cX9_drawn 92 = .ok (.iconst 0, 1) := by decide +kernel
theorem dX9_drawn_93 : decode cX9_drawn 93 = .ok (.istore 8, 2) := by decide +kernel
theorem dX9_drawn_95 : decode cX9_drawn 95 = .ok (.iload 8, 2) := by decide +kernel
theorem dX9_drawn_97 : decode cX9_drawn 97 = .ok (.iconst 4, 1) := by decide +kernel
theorem dX9_drawn_98 : decode cX9_drawn 98 = .ok (.if_icmp .ge 38, 3) := by decide +kernel
theorem dX9_drawn_101 : decode cX9_drawn 101 = .ok (.iload 7, 2) := by decide +kernel
theorem dX9_drawn_103 : decode cX9_drawn 103 = .ok (.ifCond .eq 24, 3) := by decide +kernel
theorem dX9_drawn_106 : decode cX9_drawn 106 = .ok (.aload_n 0, 1) := by decide +kernel
theorem dX9_drawn_107 : decode cX9_drawn 107 = .ok (.getfield 37, 3) := by decide +kernel
theorem dX9_drawn_110 : decode cX9_drawn 110 = .ok (.iload 8, 2) := by decide +kernel
theorem dX9_drawn_112 : decode cX9_drawn 112 = .ok (.iaload, 1) := by decide +kernel
theorem dX9_drawn_113 : decode cX9_drawn 113 = .ok (.aload_n 0, 1) := by decide +kernel
theorem dX9_drawn_114 : decode cX9_drawn 114 = .ok (.getfield 34, 3) := by decide +kernel
theorem dX9_drawn_117 : decode cX9_drawn 117 = .ok (.bipush 6, 2) := by decide +kernel
theorem dX9_drawn_119 : decode cX9_drawn 119 = .ok (.iaload, 1) := by decide +kernel
theorem dX9_drawn_120 : decode cX9_drawn 120 = .ok (.if_icmp .eq 7, 3) := by decide +kernel
theorem dX9_drawn_123 : decode cX9_drawn 123 = .ok (.iconst 1, 1) := by decide +kernel
theorem dX9_drawn_124 : decode cX9_drawn 124 = .ok (.goto 4, 3) := by decide +kernel
theorem dX9_drawn_127 : decode cX9_drawn 127 = .ok (.iconst 0, 1) := by decide +kernel
theorem dX9_drawn_128 : decode cX9_drawn 128 = .ok (.istore 7, 2) := by decide +kernel
theorem dX9_drawn_130 : decode cX9_drawn 130 = .ok (.iinc 8 1, 3) := by decide +kernel
theorem dX9_drawn_133 : decode cX9_drawn 133 = .ok (.goto (-38), 3) := by decide +kernel
theorem dX9_drawn_136 : decode cX9_drawn 136 = .ok (.iload 5, 2) := by decide +kernel
theorem dX9_drawn_138 : decode cX9_drawn 138 = .ok (.iload 7, 2) := by decide +kernel
theorem dX9_drawn_140 : decode cX9_drawn 140 = .ok (.ifCond .eq 7, 3) := by decide +kernel
theorem dX9_drawn_143 : decode cX9_drawn 143 = .ok (.iconst 1, 1) := by decide +kernel
theorem dX9_drawn_144 : decode cX9_drawn 144 = .ok (.goto 4, 3) := by decide +kernel
theorem dX9_drawn_147 : decode cX9_drawn 147 = .ok (.iconst 0, 1) := by decide +kernel
theorem dX9_drawn_148 : decode cX9_drawn 148 = .ok (.iadd, 1) := by decide +kernel
theorem dX9_drawn_149 : decode cX9_drawn 149 = .ok (.istore 5, 2) := by decide +kernel
theorem dX9_drawn_151 : decode cX9_drawn 151 = .ok (.iinc 6 1, 3) := by decide +kernel
theorem dX9_drawn_154 : decode cX9_drawn 154 = .ok (.goto (-109), 3) := by decide +kernel
theorem dX9_drawn_157 : decode cX9_drawn 157 = .ok (.iload_n 3, 1) := by decide +kernel
theorem dX9_drawn_158 : decode cX9_drawn 158 = .ok (.ifCond .ne 8, 3) := by decide +kernel
theorem dX9_drawn_161 : decode cX9_drawn 161 = .ok (.iload 4, 2) := by decide +kernel
theorem dX9_drawn_163 : decode cX9_drawn 163 = .ok (.goto 17, 3) := by decide +kernel
theorem dX9_drawn_166 : decode cX9_drawn 166 = .ok (.iload_n 3, 1) := by decide +kernel
theorem dX9_drawn_167 : decode cX9_drawn 167 = .ok (.iconst 1, 1) := by decide +kernel
theorem dX9_drawn_168 : decode cX9_drawn 168 = .ok (.if_icmp .ne 8, 3) := by decide +kernel
theorem dX9_drawn_171 : decode cX9_drawn 171 = .ok (.iload 5, 2) := by decide +kernel
theorem dX9_drawn_173 : decode cX9_drawn 173 = .ok (.goto 7, 3) := by decide +kernel
theorem dX9_drawn_176 : decode cX9_drawn 176 = .ok (.aload_n 0, 1) := by decide +kernel
theorem dX9_drawn_177 : decode cX9_drawn 177 = .ok (.getfield 279, 3) := by decide +kernel
theorem dX9_drawn_180 : decode cX9_drawn 180 = .ok (.ireturn, 1) := by decide +kernel
theorem dX9_image_0 : decode cX9_image 0 = .ok (.aload_n 0, 1) := by decide +kernel
theorem dX9_image_1 : decode cX9_image 1 = .ok (.invokevirtual 292, 3) := by decide +kernel
theorem dX9_image_4 : decode cX9_image 4 = .ok (.ifCond .eq 6, 3) := by decide +kernel
theorem dX9_image_7 : decode cX9_image 7 = .ok (.bipush (-103), 2) := by decide +kernel
theorem dX9_image_9 : decode cX9_image 9 = .ok (.ireturn, 1) := by decide +kernel
theorem dX9_image_10 : decode cX9_image 10 = .ok (.aload_n 0, 1) := by decide +kernel
theorem dX9_image_11 : decode cX9_image 11 = .ok (.getfield 22, 3) := by decide +kernel
theorem dX9_image_14 : decode cX9_image 14 = .ok (.aload_n 0, 1) := by decide +kernel
theorem dX9_image_15 : decode cX9_image 15 = .ok (.getfield 70, 3) := by decide +kernel
theorem dX9_image_18 : decode cX9_image 18 = .ok (.invokestatic 295, 3) := by decide +kernel
theorem dX9_image_21 : decode cX9_image 21 = .ok (.aload_n 0, 1) := by decide +kernel
theorem dX9_image_22 : decode cX9_image 22 = .ok (.getfield 25, 3) := by decide +kernel
theorem dX9_image_25 : decode cX9_image 25 = .ok (.aload_n 0, 1) := by decide +kernel
theorem dX9_image_26 : decode cX9_image 26 = .ok (.getfield 73, 3) := by decide +kernel
theorem dX9_image_29 : decode cX9_image 29 = .ok (.invokestatic 295, 3) := by decide +kernel
theorem dX9_image_32 : decode cX9_image 32 = .ok (.aload_n 0, 1) := by decide +kernel
theorem dX9_image_33 : decode cX9_image 33 = .ok (.getfield 28, 3) := by decide +kernel
theorem dX9_image_36 : decode cX9_image 36 = .ok (.aload_n 0, 1) := by decide +kernel
theorem dX9_image_37 : decode cX9_image 37 = .ok (.getfield 76, 3) := by decide +kernel
theorem dX9_image_40 : decode cX9_image 40 = .ok (.invokestatic 295, 3) := by decide +kernel
theorem dX9_image_43 : decode cX9_image 43 = .ok (.aload_n 0, 1) := by decide +kernel
theorem dX9_image_44 : decode cX9_image 44 = .ok (.getfield 67, 3) := by decide +kernel
theorem dX9_image_47 : decode cX9_image 47 = .ok (.aload_n 0, 1) := by decide +kernel
theorem dX9_image_48 : decode cX9_image 48 = .ok (.getfield 79, 3) := by decide +kernel
theorem dX9_image_51 : decode cX9_image 51 = .ok (.invokestatic 295, 3) := by decide +kernel
theorem dX9_image_54 : decode cX9_image 54 = .ok (.aload_n 0, 1) := by decide +kernel
theorem dX9_image_55 : decode cX9_image 55 = .ok (.aload_n 0, 1) := by decide +kernel
theorem dX9_image_56 : decode cX9_image 56 = .ok (.getfield 147, 3) := by decide +kernel
theorem dX9_image_59 : decode cX9_image 59 = .ok (.putfield 299, 3) := by decide +kernel
theorem dX9_image_62 : decode cX9_image 62 = .ok (.aload_n 0, 1) := by decide +kernel
theorem dX9_image_63 : decode cX9_image 63 = .ok (.aload_n 0, 1) := by decide +kernel
theorem dX9_image_64 : decode cX9_image 64 = .ok (.getfield 150, 3) := by decide +kernel
theorem dX9_image_67 : decode cX9_image 67 = .ok (.putfield 302, 3) := by decide +kernel
theorem dX9_image_70 : decode cX9_image 70 = .ok (.aload_n 0, 1) := by decide +kernel
theorem dX9_image_71 : decode cX9_image 71 = .ok (.aload_n 0, 1) := by decide +kernel
theorem dX9_image_72 : decode cX9_image 72 = .ok (.getfield 157, 3) := by decide +kernel
theorem dX9_image_75 : decode cX9_image 75 = .ok (.putfield 305, 3) := by decide +kernel
theorem dX9_image_78 : decode cX9_image 78 = .ok (.aload_n 0, 1) := by decide +kernel
theorem dX9_image_79 : decode cX9_image 79 = .ok (.aload_n 0, 1) := by decide +kernel
theorem dX9_image_80 : decode cX9_image 80 = .ok (.getfield 160, 3) := by decide +kernel
theorem dX9_image_83 : decode cX9_image 83 = .ok (.putfield 82, 3) := by decide +kernel
theorem dX9_image_86 : decode cX9_image 86 = .ok (.aload_n 0, 1) := by decide +kernel
theorem dX9_image_87 : decode cX9_image 87 = .ok (.getfield 147, 3) := by decide +kernel
theorem dX9_image_90 : decode cX9_image 90 = .ok (.ireturn, 1) := by decide +kernel
theorem dX9_restore_0 : decode cX9_restore 0 = .ok (.aload_n 0, 1) := by decide +kernel
theorem dX9_restore_1 : decode cX9_restore 1 = .ok (.getfield 82, 3) := by decide +kernel
theorem dX9_restore_4 : decode cX9_restore 4 = .ok (.aload_n 0, 1) := by decide +kernel
theorem dX9_restore_5 : decode cX9_restore 5 = .ok (.getfield 160, 3) := by decide +kernel
theorem dX9_restore_8 : decode cX9_restore 8 = .ok (.if_icmp .eq 6, 3) := by decide +kernel
theorem dX9_restore_11 : decode cX9_restore 11 = .ok (.bipush (-103), 2) := by decide +kernel
theorem dX9_restore_13 : decode cX9_restore 13 = .ok (.ireturn, 1) := by decide +kernel
theorem dX9_restore_14 : decode cX9_restore 14 = .ok (.aload_n 0, 1) := by decide +kernel
theorem dX9_restore_15 : decode cX9_restore 15 = .ok (.getfield 70, 3) := by decide +kernel
theorem dX9_restore_18 : decode cX9_restore 18 = .ok (.aload_n 0, 1) := by decide +kernel
theorem dX9_restore_19 : decode cX9_restore 19 = .ok (.getfield 22, 3) := by decide +kernel
theorem dX9_restore_22 : decode cX9_restore 22 = .ok (.invokestatic 295, 3) := by decide +kernel
theorem dX9_restore_25 : decode cX9_restore 25 = .ok (.aload_n 0, 1) := by decide +kernel
theorem dX9_restore_26 : decode cX9_restore 26 = .ok (.getfield 73, 3) := by decide +kernel
theorem dX9_restore_29 : decode cX9_restore 29 = .ok (.aload_n 0, 1) := by decide +kernel
theorem dX9_restore_30 : decode cX9_restore 30 = .ok (.getfield 25, 3) := by decide +kernel
theorem dX9_restore_33 : decode cX9_restore 33 = .ok (.invokestatic 295, 3) := by decide +kernel
theorem dX9_restore_36 : decode cX9_restore 36 = .ok (.aload_n 0, 1) := by decide +kernel
theorem dX9_restore_37 : decode cX9_restore 37 = .ok (.getfield 76, 3) := by decide +kernel
theorem dX9_restore_40 : decode cX9_restore 40 = .ok (.aload_n 0, 1) := by decide +kernel
theorem dX9_restore_41 : decode cX9_restore 41 = .ok (.getfield 28, 3) := by decide +kernel
theorem dX9_restore_44 : decode cX9_restore 44 = .ok (.invokestatic 295, 3) := by decide +kernel
theorem dX9_restore_47 : decode cX9_restore 47 = .ok (.aload_n 0, 1) := by decide +kernel
theorem dX9_restore_48 : decode cX9_restore 48 = .ok (.getfield 79, 3) := by decide +kernel
theorem dX9_restore_51 : decode cX9_restore 51 = .ok (.aload_n 0, 1) := by decide +kernel
theorem dX9_restore_52 : decode cX9_restore 52 = .ok (.getfield 67, 3) := by decide +kernel
theorem dX9_restore_55 : decode cX9_restore 55 = .ok (.invokestatic 295, 3) := by decide +kernel
theorem dX9_restore_58 : decode cX9_restore 58 = .ok (.aload_n 0, 1) := by decide +kernel
theorem dX9_restore_59 : decode cX9_restore 59 = .ok (.aload_n 0, 1) := by decide +kernel
theorem dX9_restore_60 : decode cX9_restore 60 = .ok (.getfield 299, 3) := by decide +kernel
theorem dX9_restore_63 : decode cX9_restore 63 = .ok (.putfield 147, 3) := by decide +kernel
theorem dX9_restore_66 : decode cX9_restore 66 = .ok (.aload_n 0, 1) := by decide +kernel
theorem dX9_restore_67 : decode cX9_restore 67 = .ok (.aload_n 0, 1) := by decide +kernel
theorem dX9_restore_68 : decode cX9_restore 68 = .ok (.getfield 302, 3) := by decide +kernel
theorem dX9_restore_71 : decode cX9_restore 71 = .ok (.putfield 150, 3) := by decide +kernel
theorem dX9_restore_74 : decode cX9_restore 74 = .ok (.aload_n 0, 1) := by decide +kernel
theorem dX9_restore_75 : decode cX9_restore 75 = .ok (.aload_n 0, 1) := by decide +kernel
theorem dX9_restore_76 : decode cX9_restore 76 = .ok (.getfield 305, 3) := by decide +kernel
theorem dX9_restore_79 : decode cX9_restore 79 = .ok (.putfield 157, 3) := by decide +kernel
theorem dX9_restore_82 : decode cX9_restore 82 = .ok (.aload_n 0, 1) := by decide +kernel
theorem dX9_restore_83 : decode cX9_restore 83 = .ok (.iconst 1, 1) := by decide +kernel
theorem dX9_restore_84 : decode cX9_restore 84 = .ok (.putfield 153, 3) := by decide +kernel
theorem dX9_restore_87 : decode cX9_restore 87 = .ok (.aload_n 0, 1) := by decide +kernel
theorem dX9_restore_88 : decode cX9_restore 88 = .ok (.getfield 147, 3) := by decide +kernel
theorem dX9_restore_91 : decode cX9_restore 91 = .ok (.ireturn, 1) := by decide +kernel
theorem dX9_sumLaws_0 : decode cX9_sumLaws 0 = .ok (.iconst 0, 1) := by decide +kernel
theorem dX9_sumLaws_1 : decode cX9_sumLaws 1 = .ok (.istore_n 2, 1) := by decide +kernel
theorem dX9_sumLaws_2 : decode cX9_sumLaws 2 = .ok (.iconst 0, 1) := by decide +kernel
theorem dX9_sumLaws_3 : decode cX9_sumLaws 3 = .ok (.istore_n 3, 1) := by decide +kernel
theorem dX9_sumLaws_4 : decode cX9_sumLaws 4 = .ok (.iload_n 3, 1) := by decide +kernel
theorem dX9_sumLaws_5 : decode cX9_sumLaws 5 = .ok (.bipush 18, 2) := by decide +kernel
theorem dX9_sumLaws_7 : decode cX9_sumLaws 7 = .ok (.aload_n 0, 1) := by decide +kernel
theorem dX9_sumLaws_8 : decode cX9_sumLaws 8 = .ok (.getfield 150, 3) := by decide +kernel
theorem dX9_sumLaws_11 : decode cX9_sumLaws 11 = .ok (.imul, 1) := by decide +kernel
theorem dX9_sumLaws_12 : decode cX9_sumLaws 12 = .ok (.if_icmp .ge 40, 3) := by decide +kernel
theorem dX9_sumLaws_15 : decode cX9_sumLaws 15 = .ok (.iload_n 2, 1) := by decide +kernel
theorem dX9_sumLaws_16 : decode cX9_sumLaws 16 = .ok (.iload_n 1, 1) := by decide +kernel
theorem dX9_sumLaws_17 : decode cX9_sumLaws 17 = .ok (.ifCond .eq 21, 3) := by decide +kernel
theorem dX9_sumLaws_20 : decode cX9_sumLaws 20 = .ok (.aload_n 0, 1) := by decide +kernel
theorem dX9_sumLaws_21 : decode cX9_sumLaws 21 = .ok (.getfield 46, 3) := by decide +kernel
theorem dX9_sumLaws_24 : decode cX9_sumLaws 24 = .ok (.iload_n 3, 1) := by decide +kernel
theorem dX9_sumLaws_25 : decode cX9_sumLaws 25 = .ok (.iaload, 1) := by decide +kernel
theorem dX9_sumLaws_26 : decode cX9_sumLaws 26 = .ok (.iconst (-1), 1) := by decide +kernel
theorem dX9_sumLaws_27 : decode cX9_sumLaws 27 = .ok (.if_icmp .ne 7, 3) := by decide +kernel
theorem dX9_sumLaws_30 : decode cX9_sumLaws 30 = .ok (.iconst 0, 1) := by decide +kernel
theorem dX9_sumLaws_31 : decode cX9_sumLaws 31 = .ok (.goto 13, 3) := by decide +kernel
theorem dX9_sumLaws_34 : decode cX9_sumLaws 34 = .ok (.iconst 1, 1) := by decide +kernel
theorem dX9_sumLaws_35 : decode cX9_sumLaws 35 = .ok (.goto 9, 3) := by decide +kernel
theorem dX9_sumLaws_38 : decode cX9_sumLaws 38 = .ok (.aload_n 0, 1) := by decide +kernel
theorem dX9_sumLaws_39 : decode cX9_sumLaws 39 = .ok (.getfield 52, 3) := by decide +kernel
theorem dX9_sumLaws_42 : decode cX9_sumLaws 42 = .ok (.iload_n 3, 1) := by decide +kernel
theorem dX9_sumLaws_43 : decode cX9_sumLaws 43 = .ok (.iaload, 1) := by decide +kernel
theorem dX9_sumLaws_44 : decode cX9_sumLaws 44 = .ok (.iadd, 1) := by decide +kernel
theorem dX9_sumLaws_45 : decode cX9_sumLaws 45 = .ok (.istore_n 2, 1) := by decide +kernel
theorem dX9_sumLaws_46 : decode cX9_sumLaws 46 = .ok (.iinc 3 1, 3) := by decide +kernel
theorem dX9_sumLaws_49 : decode cX9_sumLaws 49 = .ok (.goto (-45), 3) := by decide +kernel
theorem dX9_sumLaws_52 : decode cX9_sumLaws 52 = .ok (.iload_n 2, 1) := by decide +kernel
theorem dX9_sumLaws_53 : decode cX9_sumLaws 53 = .ok (.ireturn, 1) := by decide +kernel
theorem dX9_borrowedAll_0 : decode cX9_borrowedAll 0 = .ok (.iconst 0, 1) := by decide +kernel
theorem dX9_borrowedAll_1 : decode cX9_borrowedAll 1 = .ok (.istore_n 1, 1) := by decide +kernel
theorem dX9_borrowedAll_2 : decode cX9_borrowedAll 2 = .ok (.iconst 0, 1) := by decide +kernel
theorem dX9_borrowedAll_3 : decode cX9_borrowedAll 3 = .ok (.istore_n 2, 1) := by decide +kernel
theorem dX9_borrowedAll_4 : decode cX9_borrowedAll 4 = .ok (.iload_n 2, 1) := by decide +kernel
theorem dX9_borrowedAll_5 : decode cX9_borrowedAll 5 = .ok (.aload_n 0, 1) := by decide +kernel
theorem dX9_borrowedAll_6 : decode cX9_borrowedAll 6 = .ok (.getfield 147, 3) := by decide +kernel
theorem dX9_borrowedAll_9 : decode cX9_borrowedAll 9 = .ok (.if_icmp .ge 20, 3) := by decide +kernel
theorem dX9_borrowedAll_12 : decode cX9_borrowedAll 12 = .ok (.iload_n 1, 1) := by decide +kernel
theorem dX9_borrowedAll_13 : decode cX9_borrowedAll 13 = .ok (.aload_n 0, 1) := by decide +kernel
theorem dX9_borrowedAll_14 : decode cX9_borrowedAll 14 = .ok (.iload_n 2, 1) := by decide +kernel
theorem dX9_borrowedAll_15 : decode cX9_borrowedAll 15 = .ok (.invokevirtual 247, 3) := by decide +kernel
theorem dX9_borrowedAll_18 : decode cX9_borrowedAll 18 = .ok (.invokestatic 274, 3) := by decide +kernel
theorem dX9_borrowedAll_21 : decode cX9_borrowedAll 21 = .ok (.iadd, 1) := by decide +kernel
theorem dX9_borrowedAll_22 : decode cX9_borrowedAll 22 = .ok (.istore_n 1, 1) := by decide +kernel
theorem dX9_borrowedAll_23 : decode cX9_borrowedAll 23 = .ok (.iinc 2 1, 3) := by decide +kernel
theorem dX9_borrowedAll_26 : decode cX9_borrowedAll 26 = .ok (.goto (-22), 3) := by decide +kernel
theorem dX9_borrowedAll_29 : decode cX9_borrowedAll 29 = .ok (.iload_n 1, 1) := by decide +kernel
theorem dX9_borrowedAll_30 : decode cX9_borrowedAll 30 = .ok (.ireturn, 1) := by decide +kernel
theorem dX9_countSets_0 : decode cX9_countSets 0 = .ok (.aload_n 0, 1) := by decide +kernel
theorem dX9_countSets_1 : decode cX9_countSets 1 = .ok (.invokevirtual 292, 3) := by decide +kernel
theorem dX9_countSets_4 : decode cX9_countSets 4 = .ok (.ifCond .eq 5, 3) := by decide +kernel
theorem dX9_countSets_7 : decode cX9_countSets 7 = .ok (.iconst 0, 1) := by decide +kernel
theorem dX9_countSets_8 : decode cX9_countSets 8 = .ok (.ireturn, 1) := by decide +kernel
theorem dX9_countSets_9 : decode cX9_countSets 9 = .ok (.aload_n 0, 1) := by decide +kernel
theorem dX9_countSets_10 : decode cX9_countSets 10 = .ok (.invokevirtual 223, 3) := by decide +kernel
theorem dX9_countSets_13 : decode cX9_countSets 13 = .ok (.iload_n 1, 1) := by decide +kernel
theorem dX9_countSets_14 : decode cX9_countSets 14 = .ok (.tableswitch 65 1 5 #[34, 39, 48, 53, 59], 34) := by decide +kernel
theorem dX9_countSets_48 : decode cX9_countSets 48 = .ok (.aload_n 0, 1) := by decide +kernel
theorem dX9_countSets_49 : decode cX9_countSets 49 = .ok (.getfield 150, 3) := by decide +kernel
theorem dX9_countSets_52 : decode cX9_countSets 52 = .ok (.ireturn, 1) := by decide +kernel
theorem dX9_countSets_53 : decode cX9_countSets 53 = .ok (.aload_n 0, 1) := by decide +kernel
theorem dX9_countSets_54 : decode cX9_countSets 54 = .ok (.aload_n 0, 1) := by decide +kernel
theorem dX9_countSets_55 : decode cX9_countSets 55 = .ok (.getfield 150, 3) := by decide +kernel
theorem dX9_countSets_58 : decode cX9_countSets 58 = .ok (.invokevirtual 177, 3) := by decide +kernel
theorem dX9_countSets_61 : decode cX9_countSets 61 = .ok (.ireturn, 1) := by decide +kernel
theorem dX9_countSets_62 : decode cX9_countSets 62 = .ok (.aload_n 0, 1) := by decide +kernel
theorem dX9_countSets_63 : decode cX9_countSets 63 = .ok (.invokevirtual 268, 3) := by decide +kernel
theorem dX9_countSets_66 : decode cX9_countSets 66 = .ok (.ireturn, 1) := by decide +kernel
theorem dX9_countSets_67 : decode cX9_countSets 67 = .ok (.aload_n 0, 1) := by decide +kernel
theorem dX9_countSets_68 : decode cX9_countSets 68 = .ok (.iconst 1, 1) := by decide +kernel
theorem dX9_countSets_69 : decode cX9_countSets 69 = .ok (.invokevirtual 308, 3) := by decide +kernel
theorem dX9_countSets_72 : decode cX9_countSets 72 = .ok (.ireturn, 1) := by decide +kernel
theorem dX9_countSets_73 : decode cX9_countSets 73 = .ok (.aload_n 0, 1) := by decide +kernel
theorem dX9_countSets_74 : decode cX9_countSets 74 = .ok (.iconst 0, 1) := by decide +kernel
theorem dX9_countSets_75 : decode cX9_countSets 75 = .ok (.invokevirtual 308, 3) := by decide +kernel
theorem dX9_countSets_78 : decode cX9_countSets 78 = .ok (.ireturn, 1) := by decide +kernel
theorem dX9_countSets_79 : decode cX9_countSets 79 = .ok (.aload_n 0, 1) := by decide +kernel
theorem dX9_countSets_80 : decode cX9_countSets 80 = .ok (.invokevirtual 312, 3) := by decide +kernel
theorem dX9_countSets_83 : decode cX9_countSets 83 = .ok (.ireturn, 1) := by decide +kernel
theorem dX9_countOf_0 : decode cX9_countOf 0 = .ok (.iload_n 1, 1) := by decide +kernel
theorem dX9_countOf_1 : decode cX9_countOf 1 = .ok (.tableswitch 81 0 9 #[55, 60, 60, 60, 60, 60, 60, 66, 71, 76], 55) := by decide +kernel
theorem dX9_countOf_56 : decode cX9_countOf 56 = .ok (.aload_n 0, 1) := by decide +kernel
theorem dX9_countOf_57 : decode cX9_countOf 57 = .ok (.getfield 147, 3) := by decide +kernel
theorem dX9_countOf_60 : decode cX9_countOf 60 = .ok (.ireturn, 1) := by decide +kernel
theorem dX9_countOf_61 : decode cX9_countOf 61 = .ok (.aload_n 0, 1) := by decide +kernel
theorem dX9_countOf_62 : decode cX9_countOf 62 = .ok (.iload_n 1, 1) := by decide +kernel
theorem dX9_countOf_63 : decode cX9_countOf 63 = .ok (.invokevirtual 315, 3) := by decide +kernel
theorem dX9_countOf_66 : decode cX9_countOf 66 = .ok (.ireturn, 1) := by decide +kernel
theorem dX9_countOf_67 : decode cX9_countOf 67 = .ok (.aload_n 0, 1) := by decide +kernel
theorem dX9_countOf_68 : decode cX9_countOf 68 = .ok (.getfield 157, 3) := by decide +kernel
theorem dX9_countOf_71 : decode cX9_countOf 71 = .ok (.ireturn, 1) := by decide +kernel
theorem dX9_countOf_72 : decode cX9_countOf 72 = .ok (.aload_n 0, 1) := by decide +kernel
theorem dX9_countOf_73 : decode cX9_countOf 73 = .ok (.getfield 92, 3) := by decide +kernel
theorem dX9_countOf_76 : decode cX9_countOf 76 = .ok (.ireturn, 1) := by decide +kernel
theorem dX9_countOf_77 : decode cX9_countOf 77 = .ok (.aload_n 0, 1) := by decide +kernel
theorem dX9_countOf_78 : decode cX9_countOf 78 = .ok (.getfield 160, 3) := by decide +kernel
theorem dX9_countOf_81 : decode cX9_countOf 81 = .ok (.ireturn, 1) := by decide +kernel
theorem dX9_countOf_82 : decode cX9_countOf 82 = .ok (.bipush (-102), 2) := by decide +kernel
theorem dX9_countOf_84 : decode cX9_countOf 84 = .ok (.ireturn, 1) := by decide +kernel
theorem dX9_count_0 : decode cX9_count 0 = .ok (.aload_n 0, 1) := by decide +kernel
theorem dX9_count_1 : decode cX9_count 1 = .ok (.iload_n 1, 1) := by decide +kernel
theorem dX9_count_2 : decode cX9_count 2 = .ok (.invokevirtual 318, 3) := by decide +kernel
theorem dX9_count_5 : decode cX9_count 5 = .ok (.ireturn, 1) := by decide +kernel
theorem dX9_note_0 : decode cX9_note 0 = .ok (.aload_n 0, 1) := by decide +kernel
theorem dX9_note_1 : decode cX9_note 1 = .ok (.ldc2_w 321, 3) := by decide +kernel
theorem dX9_note_4 : decode cX9_note 4 = .ok (.aload_n 0, 1) := by decide +kernel
theorem dX9_note_5 : decode cX9_note 5 = .ok (.getfield 323, 3) := by decide +kernel
theorem dX9_note_8 : decode cX9_note 8 = .ok (.lmul, 1) := by decide +kernel
theorem dX9_note_9 : decode cX9_note 9 = .ok (.lload_n 1, 1) := by decide +kernel
theorem dX9_note_10 : decode cX9_note 10 = .ok (.ladd, 1) := by decide +kernel
theorem dX9_note_11 : decode cX9_note 11 = .ok (.putfield 323, 3) := by decide +kernel
theorem dX9_note_14 : decode cX9_note 14 = .ok (.return_, 1) := by decide +kernel
theorem dX9_saySet_0 : decode cX9_saySet 0 = .ok (.iconst 0, 1) := by decide +kernel
theorem dX9_saySet_1 : decode cX9_saySet 1 = .ok (.istore_n 2, 1) := by decide +kernel
theorem dX9_saySet_2 : decode cX9_saySet 2 = .ok (.iload_n 2, 1) := by decide +kernel
theorem dX9_saySet_3 : decode cX9_saySet 3 = .ok (.bipush 7, 2) := by decide +kernel
theorem dX9_saySet_5 : decode cX9_saySet 5 = .ok (.if_icmp .ge 20, 3) := by decide +kernel
theorem dX9_saySet_8 : decode cX9_saySet 8 = .ok (.aload_n 0, 1) := by decide +kernel
theorem dX9_saySet_9 : decode cX9_saySet 9 = .ok (.aload_n 0, 1) := by decide +kernel
theorem dX9_saySet_10 : decode cX9_saySet 10 = .ok (.iload_n 1, 1) := by decide +kernel
theorem dX9_saySet_11 : decode cX9_saySet 11 = .ok (.iload_n 2, 1) := by decide +kernel
theorem dX9_saySet_12 : decode cX9_saySet 12 = .ok (.invokevirtual 256, 3) := by decide +kernel
theorem dX9_saySet_15 : decode cX9_saySet 15 = .ok (.i2l, 1) := by decide +kernel
theorem dX9_saySet_16 : decode cX9_saySet 16 = .ok (.invokevirtual 327, 3) := by decide +kernel
theorem dX9_saySet_19 : decode cX9_saySet 19 = .ok (.iinc 2 1, 3) := by decide +kernel
theorem dX9_saySet_22 : decode cX9_saySet 22 = .ok (.goto (-20), 3) := by decide +kernel
theorem dX9_saySet_25 : decode cX9_saySet 25 = .ok (.iconst 0, 1) := by decide +kernel
theorem dX9_saySet_26 : decode cX9_saySet 26 = .ok (.istore_n 2, 1) := by decide +kernel
theorem dX9_saySet_27 : decode cX9_saySet 27 = .ok (.iload_n 2, 1) := by decide +kernel
theorem dX9_saySet_28 : decode cX9_saySet 28 = .ok (.aload_n 0, 1) := by decide +kernel
theorem dX9_saySet_29 : decode cX9_saySet 29 = .ok (.getfield 25, 3) := by decide +kernel
theorem dX9_saySet_32 : decode cX9_saySet 32 = .ok (.iload_n 1, 1) := by decide +kernel
theorem dX9_saySet_33 : decode cX9_saySet 33 = .ok (.iaload, 1) := by decide +kernel
theorem dX9_saySet_34 : decode cX9_saySet 34 = .ok (.if_icmp .ge 50, 3) := by decide +kernel
theorem dX9_saySet_37 : decode cX9_saySet 37 = .ok (.iconst 0, 1) := by decide +kernel
theorem dX9_saySet_38 : decode cX9_saySet 38 = .ok (.istore_n 3, 1) := by decide +kernel
theorem dX9_saySet_39 : decode cX9_saySet 39 = .ok (.iload_n 3, 1) := by decide +kernel
theorem dX9_saySet_40 : decode cX9_saySet 40 = .ok (.aload_n 0, 1) := by decide +kernel
theorem dX9_saySet_41 : decode cX9_saySet 41 = .ok (.aload_n 0, 1) := by decide +kernel
theorem dX9_saySet_42 : decode cX9_saySet 42 = .ok (.getfield 150, 3) := by decide +kernel
theorem dX9_saySet_45 : decode cX9_saySet 45 = .ok (.invokevirtual 177, 3) := by decide +kernel
theorem dX9_saySet_48 : decode cX9_saySet 48 = .ok (.if_icmp .ge 30, 3) := by decide +kernel
theorem dX9_saySet_51 : decode cX9_saySet 51 = .ok (.aload_n 0, 1) := by decide +kernel
theorem dX9_saySet_52 : decode cX9_saySet 52 = .ok (.aload_n 0, 1) := by decide +kernel
theorem dX9_saySet_53 : decode cX9_saySet 53 = .ok (.getfield 40, 3) := by decide +kernel
theorem dX9_saySet_56 : decode cX9_saySet 56 = .ok (.bipush 28, 2) := by decide +kernel
theorem dX9_saySet_58 : decode cX9_saySet 58 = .ok (.iload_n 1, 1) := by decide +kernel
theorem dX9_saySet_59 : decode cX9_saySet 59 = .ok (.imul, 1) := by decide +kernel
theorem dX9_saySet_60 : decode cX9_saySet 60 = .ok (.bipush 7, 2) := by decide +kernel
theorem dX9_saySet_62 : decode cX9_saySet 62 = .ok (.iload_n 2, 1) := by decide +kernel
theorem dX9_saySet_63 : decode cX9_saySet 63 = .ok (.imul, 1) := by decide +kernel
theorem dX9_saySet_64 : decode cX9_saySet 64 = .ok (.iadd, 1) := by decide +kernel
theorem dX9_saySet_65 : decode cX9_saySet 65 = .ok (.iload_n 3, 1) := by decide +kernel
theorem dX9_saySet_66 : decode cX9_saySet 66 = .ok (.iadd, 1) := by decide +kernel
theorem dX9_saySet_67 : decode cX9_saySet 67 = .ok (.iaload, 1) := by decide +kernel
theorem dX9_saySet_68 : decode cX9_saySet 68 = .ok (.i2l, 1) := by decide +kernel
theorem dX9_saySet_69 : decode cX9_saySet 69 = .ok (.invokevirtual 327, 3) := by decide +kernel
theorem dX9_saySet_72 : decode cX9_saySet 72 = .ok (.iinc 3 1, 3) := by decide +kernel
theorem dX9_saySet_75 : decode cX9_saySet 75 = .ok (.goto (-36), 3) := by decide +kernel
theorem dX9_saySet_78 : decode cX9_saySet 78 = .ok (.iinc 2 1, 3) := by decide +kernel
theorem dX9_saySet_81 : decode cX9_saySet 81 = .ok (.goto (-54), 3) := by decide +kernel
theorem dX9_saySet_84 : decode cX9_saySet 84 = .ok (.return_, 1) := by decide +kernel
theorem dX9_digest_0 : decode cX9_digest 0 = .ok (.aload_n 0, 1) := by decide +kernel
theorem dX9_digest_1 : decode cX9_digest 1 = .ok (.ldc2_w 331, 3) := by decide +kernel
theorem dX9_digest_4 : decode cX9_digest 4 = .ok (.putfield 323, 3) := by decide +kernel
theorem dX9_digest_7 : decode cX9_digest 7 = .ok (.iconst 0, 1) := by decide +kernel
theorem dX9_digest_8 : decode cX9_digest 8 = .ok (.istore_n 1, 1) := by decide +kernel
theorem dX9_digest_9 : decode cX9_digest 9 = .ok (.iload_n 1, 1) := by decide +kernel
theorem dX9_digest_10 : decode cX9_digest 10 = .ok (.aload_n 0, 1) := by decide +kernel
theorem dX9_digest_11 : decode cX9_digest 11 = .ok (.getfield 147, 3) := by decide +kernel
theorem dX9_digest_14 : decode cX9_digest 14 = .ok (.if_icmp .ge 14, 3) := by decide +kernel
theorem dX9_digest_17 : decode cX9_digest 17 = .ok (.aload_n 0, 1) := by decide +kernel
theorem dX9_digest_18 : decode cX9_digest 18 = .ok (.iload_n 1, 1) := by decide +kernel
theorem dX9_digest_19 : decode cX9_digest 19 = .ok (.invokevirtual 333, 3) := by decide +kernel
theorem dX9_digest_22 : decode cX9_digest 22 = .ok (.iinc 1 1, 3) := by decide +kernel
theorem dX9_digest_25 : decode cX9_digest 25 = .ok (.goto (-16), 3) := by decide +kernel
theorem dX9_digest_28 : decode cX9_digest 28 = .ok (.iconst 0, 1) := by decide +kernel
theorem dX9_digest_29 : decode cX9_digest 29 = .ok (.istore_n 1, 1) := by decide +kernel
theorem dX9_digest_30 : decode cX9_digest 30 = .ok (.iload_n 1, 1) := by decide +kernel
theorem dX9_digest_31 : decode cX9_digest 31 = .ok (.bipush 18, 2) := by decide +kernel
theorem dX9_digest_33 : decode cX9_digest 33 = .ok (.aload_n 0, 1) := by decide +kernel
theorem dX9_digest_34 : decode cX9_digest 34 = .ok (.getfield 150, 3) := by decide +kernel
theorem dX9_digest_37 : decode cX9_digest 37 = .ok (.imul, 1) := by decide +kernel
theorem dX9_digest_38 : decode cX9_digest 38 = .ok (.if_icmp .ge 49, 3) := by decide +kernel
theorem dX9_digest_41 : decode cX9_digest 41 = .ok (.aload_n 0, 1) := by decide +kernel
theorem dX9_digest_42 : decode cX9_digest 42 = .ok (.getfield 147, 3) := by decide +kernel
theorem dX9_digest_45 : decode cX9_digest 45 = .ok (.ifCond .le 42, 3) := by decide +kernel
theorem dX9_digest_48 : decode cX9_digest 48 = .ok (.aload_n 0, 1) := by decide +kernel
theorem dX9_digest_49 : decode cX9_digest 49 = .ok (.aload_n 0, 1) := by decide +kernel
theorem dX9_digest_50 : decode cX9_digest 50 = .ok (.getfield 46, 3) := by decide +kernel
theorem dX9_digest_53 : decode cX9_digest 53 = .ok (.iload_n 1, 1) := by decide +kernel
theorem dX9_digest_54 : decode cX9_digest 54 = .ok (.iaload, 1) := by decide +kernel
theorem dX9_digest_55 : decode cX9_digest 55 = .ok (.i2l, 1) := by decide +kernel
theorem dX9_digest_56 : decode cX9_digest 56 = .ok (.invokevirtual 327, 3) := by decide +kernel
theorem dX9_digest_59 : decode cX9_digest 59 = .ok (.aload_n 0, 1) := by decide +kernel
theorem dX9_digest_60 : decode cX9_digest 60 = .ok (.aload_n 0, 1) := by decide +kernel
theorem dX9_digest_61 : decode cX9_digest 61 = .ok (.getfield 49, 3) := by decide +kernel
theorem dX9_digest_64 : decode cX9_digest 64 = .ok (.iload_n 1, 1) := by decide +kernel
theorem dX9_digest_65 : decode cX9_digest 65 = .ok (.iaload, 1) := by decide +kernel
theorem dX9_digest_66 : decode cX9_digest 66 = .ok (.i2l, 1) := by decide +kernel
theorem dX9_digest_67 : decode cX9_digest 67 = .ok (.invokevirtual 327, 3) := by decide +kernel
theorem dX9_digest_70 : decode cX9_digest 70 = .ok (.aload_n 0, 1) := by decide +kernel
theorem dX9_digest_71 : decode cX9_digest 71 = .ok (.aload_n 0, 1) := by decide +kernel
theorem dX9_digest_72 : decode cX9_digest 72 = .ok (.getfield 52, 3) := by decide +kernel
theorem dX9_digest_75 : decode cX9_digest 75 = .ok (.iload_n 1, 1) := by decide +kernel
theorem dX9_digest_76 : decode cX9_digest 76 = .ok (.iaload, 1) := by decide +kernel
theorem dX9_digest_77 : decode cX9_digest 77 = .ok (.i2l, 1) := by decide +kernel
theorem dX9_digest_78 : decode cX9_digest 78 = .ok (.invokevirtual 327, 3) := by decide +kernel
theorem dX9_digest_81 : decode cX9_digest 81 = .ok (.iinc 1 1, 3) := by decide +kernel
theorem dX9_digest_84 : decode cX9_digest 84 = .ok (.goto (-54), 3) := by decide +kernel
theorem dX9_digest_87 : decode cX9_digest 87 = .ok (.iconst 0, 1) := by decide +kernel
theorem dX9_digest_88 : decode cX9_digest 88 = .ok (.istore_n 1, 1) := by decide +kernel
theorem dX9_digest_89 : decode cX9_digest 89 = .ok (.iload_n 1, 1) := by decide +kernel
theorem dX9_digest_90 : decode cX9_digest 90 = .ok (.aload_n 0, 1) := by decide +kernel
theorem dX9_digest_91 : decode cX9_digest 91 = .ok (.getfield 92, 3) := by decide +kernel
theorem dX9_digest_94 : decode cX9_digest 94 = .ok (.if_icmp .ge 20, 3) := by decide +kernel
theorem dX9_digest_97 : decode cX9_digest 97 = .ok (.aload_n 0, 1) := by decide +kernel
theorem dX9_digest_98 : decode cX9_digest 98 = .ok (.aload_n 0, 1) := by decide +kernel
theorem dX9_digest_99 : decode cX9_digest 99 = .ok (.getfield 7, 3) := by decide +kernel
theorem dX9_digest_102 : decode cX9_digest 102 = .ok (.iload_n 1, 1) := by decide +kernel
theorem dX9_digest_103 : decode cX9_digest 103 = .ok (.iaload, 1) := by decide +kernel
theorem dX9_digest_104 : decode cX9_digest 104 = .ok (.i2l, 1) := by decide +kernel
theorem dX9_digest_105 : decode cX9_digest 105 = .ok (.invokevirtual 327, 3) := by decide +kernel
theorem dX9_digest_108 : decode cX9_digest 108 = .ok (.iinc 1 1, 3) := by decide +kernel
theorem dX9_digest_111 : decode cX9_digest 111 = .ok (.goto (-22), 3) := by decide +kernel
theorem dX9_digest_114 : decode cX9_digest 114 = .ok (.iconst 0, 1) := by decide +kernel
theorem dX9_digest_115 : decode cX9_digest 115 = .ok (.istore_n 1, 1) := by decide +kernel
theorem dX9_digest_116 : decode cX9_digest 116 = .ok (.iload_n 1, 1) := by decide +kernel
theorem dX9_digest_117 : decode cX9_digest 117 = .ok (.bipush 10, 2) := by decide +kernel
theorem dX9_digest_119 : decode cX9_digest 119 = .ok (.if_icmp .ge 19, 3) := by decide +kernel
theorem dX9_digest_122 : decode cX9_digest 122 = .ok (.aload_n 0, 1) := by decide +kernel
theorem dX9_digest_123 : decode cX9_digest 123 = .ok (.aload_n 0, 1) := by decide +kernel
theorem dX9_digest_124 : decode cX9_digest 124 = .ok (.iload_n 1, 1) := by decide +kernel
theorem dX9_digest_125 : decode cX9_digest 125 = .ok (.invokevirtual 318, 3) := by decide +kernel
theorem dX9_digest_128 : decode cX9_digest 128 = .ok (.i2l, 1) := by decide +kernel
theorem dX9_digest_129 : decode cX9_digest 129 = .ok (.invokevirtual 327, 3) := by decide +kernel
theorem dX9_digest_132 : decode cX9_digest 132 = .ok (.iinc 1 1, 3) := by decide +kernel
theorem dX9_digest_135 : decode cX9_digest 135 = .ok (.goto (-19), 3) := by decide +kernel
theorem dX9_digest_138 : decode cX9_digest 138 = .ok (.aload_n 0, 1) := by decide +kernel
theorem dX9_digest_139 : decode cX9_digest 139 = .ok (.getfield 323, 3) := by decide +kernel
theorem dX9_digest_142 : decode cX9_digest 142 = .ok (.lreturn, 1) := by decide +kernel
theorem dJ6_bitCount_0f7a4_0 : decode cJ6_bitCount_0f7a4 0 = .ok (.iload_n 0, 1) := by decide +kernel
theorem dJ6_bitCount_0f7a4_1 : decode cJ6_bitCount_0f7a4 1 = .ok (.iload_n 0, 1) := by decide +kernel
theorem dJ6_bitCount_0f7a4_2 : decode cJ6_bitCount_0f7a4 2 = .ok (.iconst 1, 1) := by decide +kernel
theorem dJ6_bitCount_0f7a4_3 : decode cJ6_bitCount_0f7a4 3 = .ok (.iushr, 1) := by decide +kernel
theorem dJ6_bitCount_0f7a4_4 : decode cJ6_bitCount_0f7a4 4 = .ok (.ldc_w 265, 3) := by decide +kernel
theorem dJ6_bitCount_0f7a4_7 : decode cJ6_bitCount_0f7a4 7 = .ok (.iand, 1) := by decide +kernel
theorem dJ6_bitCount_0f7a4_8 : decode cJ6_bitCount_0f7a4 8 = .ok (.isub, 1) := by decide +kernel
theorem dJ6_bitCount_0f7a4_9 : decode cJ6_bitCount_0f7a4 9 = .ok (.istore_n 0, 1) := by decide +kernel
theorem dJ6_bitCount_0f7a4_10 : decode cJ6_bitCount_0f7a4 10 = .ok (.iload_n 0, 1) := by decide +kernel
theorem dJ6_bitCount_0f7a4_11 : decode cJ6_bitCount_0f7a4 11 = .ok (.ldc_w 266, 3) := by decide +kernel
theorem dJ6_bitCount_0f7a4_14 : decode cJ6_bitCount_0f7a4 14 = .ok (.iand, 1) := by decide +kernel
theorem dJ6_bitCount_0f7a4_15 : decode cJ6_bitCount_0f7a4 15 = .ok (.iload_n 0, 1) := by decide +kernel
theorem dJ6_bitCount_0f7a4_16 : decode cJ6_bitCount_0f7a4 16 = .ok (.iconst 2, 1) := by decide +kernel
theorem dJ6_bitCount_0f7a4_17 : decode cJ6_bitCount_0f7a4 17 = .ok (.iushr, 1) := by decide +kernel
theorem dJ6_bitCount_0f7a4_18 : decode cJ6_bitCount_0f7a4 18 = .ok (.ldc_w 266, 3) := by decide +kernel
theorem dJ6_bitCount_0f7a4_21 : decode cJ6_bitCount_0f7a4 21 = .ok (.iand, 1) := by decide +kernel
theorem dJ6_bitCount_0f7a4_22 : decode cJ6_bitCount_0f7a4 22 = .ok (.iadd, 1) := by decide +kernel
theorem dJ6_bitCount_0f7a4_23 : decode cJ6_bitCount_0f7a4 23 = .ok (.istore_n 0, 1) := by decide +kernel
theorem dJ6_bitCount_0f7a4_24 : decode cJ6_bitCount_0f7a4 24 = .ok (.iload_n 0, 1) := by decide +kernel
theorem dJ6_bitCount_0f7a4_25 : decode cJ6_bitCount_0f7a4 25 = .ok (.iload_n 0, 1) := by decide +kernel
theorem dJ6_bitCount_0f7a4_26 : decode cJ6_bitCount_0f7a4 26 = .ok (.iconst 4, 1) := by decide +kernel
theorem dJ6_bitCount_0f7a4_27 : decode cJ6_bitCount_0f7a4 27 = .ok (.iushr, 1) := by decide +kernel
theorem dJ6_bitCount_0f7a4_28 : decode cJ6_bitCount_0f7a4 28 = .ok (.iadd, 1) := by decide +kernel
theorem dJ6_bitCount_0f7a4_29 : decode cJ6_bitCount_0f7a4 29 = .ok (.ldc_w 267, 3) := by decide +kernel
theorem dJ6_bitCount_0f7a4_32 : decode cJ6_bitCount_0f7a4 32 = .ok (.iand, 1) := by decide +kernel
theorem dJ6_bitCount_0f7a4_33 : decode cJ6_bitCount_0f7a4 33 = .ok (.istore_n 0, 1) := by decide +kernel
theorem dJ6_bitCount_0f7a4_34 : decode cJ6_bitCount_0f7a4 34 = .ok (.iload_n 0, 1) := by decide +kernel
theorem dJ6_bitCount_0f7a4_35 : decode cJ6_bitCount_0f7a4 35 = .ok (.iload_n 0, 1) := by decide +kernel
theorem dJ6_bitCount_0f7a4_36 : decode cJ6_bitCount_0f7a4 36 = .ok (.bipush 8, 2) := by decide +kernel
theorem dJ6_bitCount_0f7a4_38 : decode cJ6_bitCount_0f7a4 38 = .ok (.iushr, 1) := by decide +kernel
theorem dJ6_bitCount_0f7a4_39 : decode cJ6_bitCount_0f7a4 39 = .ok (.iadd, 1) := by decide +kernel
theorem dJ6_bitCount_0f7a4_40 : decode cJ6_bitCount_0f7a4 40 = .ok (.istore_n 0, 1) := by decide +kernel
theorem dJ6_bitCount_0f7a4_41 : decode cJ6_bitCount_0f7a4 41 = .ok (.iload_n 0, 1) := by decide +kernel
theorem dJ6_bitCount_0f7a4_42 : decode cJ6_bitCount_0f7a4 42 = .ok (.iload_n 0, 1) := by decide +kernel
theorem dJ6_bitCount_0f7a4_43 : decode cJ6_bitCount_0f7a4 43 = .ok (.bipush 16, 2) := by decide +kernel
theorem dJ6_bitCount_0f7a4_45 : decode cJ6_bitCount_0f7a4 45 = .ok (.iushr, 1) := by decide +kernel
theorem dJ6_bitCount_0f7a4_46 : decode cJ6_bitCount_0f7a4 46 = .ok (.iadd, 1) := by decide +kernel
theorem dJ6_bitCount_0f7a4_47 : decode cJ6_bitCount_0f7a4 47 = .ok (.istore_n 0, 1) := by decide +kernel
theorem dJ6_bitCount_0f7a4_48 : decode cJ6_bitCount_0f7a4 48 = .ok (.iload_n 0, 1) := by decide +kernel
theorem dJ6_bitCount_0f7a4_49 : decode cJ6_bitCount_0f7a4 49 = .ok (.bipush 63, 2) := by decide +kernel
theorem dJ6_bitCount_0f7a4_51 : decode cJ6_bitCount_0f7a4 51 = .ok (.iand, 1) := by decide +kernel
theorem dJ6_bitCount_0f7a4_52 : decode cJ6_bitCount_0f7a4 52 = .ok (.ireturn, 1) := by decide +kernel
theorem dJ0_length_8abf5_0 : decode cJ0_length_8abf5 0 = .ok (.aload_n 0, 1) := by decide +kernel
theorem dJ0_length_8abf5_1 : decode cJ0_length_8abf5 1 = .ok (.getfield 9, 3) := by decide +kernel
theorem dJ0_length_8abf5_4 : decode cJ0_length_8abf5 4 = .ok (.arraylength, 1) := by decide +kernel
theorem dJ0_length_8abf5_5 : decode cJ0_length_8abf5 5 = .ok (.aload_n 0, 1) := by decide +kernel
theorem dJ0_length_8abf5_6 : decode cJ0_length_8abf5 6 = .ok (.invokevirtual 335, 3) := by decide +kernel
theorem dJ0_length_8abf5_9 : decode cJ0_length_8abf5 9 = .ok (.ishr, 1) := by decide +kernel
theorem dJ0_length_8abf5_10 : decode cJ0_length_8abf5 10 = .ok (.ireturn, 1) := by decide +kernel
theorem dJ0_indexOf_0f7a4_0 : decode cJ0_indexOf_0f7a4 0 = .ok (.aload_n 0, 1) := by decide +kernel
theorem dJ0_indexOf_0f7a4_1 : decode cJ0_indexOf_0f7a4 1 = .ok (.iload_n 1, 1) := by decide +kernel
theorem dJ0_indexOf_0f7a4_2 : decode cJ0_indexOf_0f7a4 2 = .ok (.iconst 0, 1) := by decide +kernel
theorem dJ0_indexOf_0f7a4_3 : decode cJ0_indexOf_0f7a4 3 = .ok (.invokevirtual 633, 3) := by decide +kernel
theorem dJ0_indexOf_0f7a4_6 : decode cJ0_indexOf_0f7a4 6 = .ok (.ireturn, 1) := by decide +kernel
theorem dJ0_indexOf_7cf53_0 : decode cJ0_indexOf_7cf53 0 = .ok (.aload_n 0, 1) := by decide +kernel
theorem dJ0_indexOf_7cf53_1 : decode cJ0_indexOf_7cf53 1 = .ok (.invokevirtual 492, 3) := by decide +kernel
theorem dJ0_indexOf_7cf53_4 : decode cJ0_indexOf_7cf53 4 = .ok (.ifCond .eq 19, 3) := by decide +kernel
theorem dJ0_indexOf_7cf53_7 : decode cJ0_indexOf_7cf53 7 = .ok (.aload_n 0, 1) := by decide +kernel
theorem dJ0_indexOf_7cf53_8 : decode cJ0_indexOf_7cf53 8 = .ok (.getfield 9, 3) := by decide +kernel
theorem dJ0_indexOf_7cf53_11 : decode cJ0_indexOf_7cf53 11 = .ok (.iload_n 1, 1) := by decide +kernel
theorem dJ0_indexOf_7cf53_12 : decode cJ0_indexOf_7cf53 12 = .ok (.iload_n 2, 1) := by decide +kernel
theorem dJ0_indexOf_7cf53_13 : decode cJ0_indexOf_7cf53 13 = .ok (.aload_n 0, 1) := by decide +kernel
theorem dJ0_indexOf_7cf53_14 : decode cJ0_indexOf_7cf53 14 = .ok (.invokevirtual 505, 3) := by decide +kernel
theorem dJ0_indexOf_7cf53_17 : decode cJ0_indexOf_7cf53 17 = .ok (.invokestatic 637, 3) := by decide +kernel
theorem dJ0_indexOf_7cf53_20 : decode cJ0_indexOf_7cf53 20 = .ok (.goto 16, 3) := by decide +kernel
theorem dJ0_indexOf_7cf53_23 : decode cJ0_indexOf_7cf53 23 = .ok (.aload_n 0, 1) := by decide +kernel
theorem dJ0_indexOf_7cf53_24 : decode cJ0_indexOf_7cf53 24 = .ok (.getfield 9, 3) := by decide +kernel
theorem dJ0_indexOf_7cf53_27 : decode cJ0_indexOf_7cf53 27 = .ok (.iload_n 1, 1) := by decide +kernel
theorem dJ0_indexOf_7cf53_28 : decode cJ0_indexOf_7cf53 28 = .ok (.iload_n 2, 1) := by decide +kernel
theorem dJ0_indexOf_7cf53_29 : decode cJ0_indexOf_7cf53 29 = .ok (.aload_n 0, 1) := by decide +kernel
theorem dJ0_indexOf_7cf53_30 : decode cJ0_indexOf_7cf53 30 = .ok (.invokevirtual 505, 3) := by decide +kernel
theorem dJ0_indexOf_7cf53_33 : decode cJ0_indexOf_7cf53 33 = .ok (.invokestatic 640, 3) := by decide +kernel
theorem dJ0_indexOf_7cf53_36 : decode cJ0_indexOf_7cf53 36 = .ok (.ireturn, 1) := by decide +kernel
theorem dJ0_coder_7d493_0 : decode cJ0_coder_7d493 0 = .ok (.getstatic 38, 3) := by decide +kernel
theorem dJ0_coder_7d493_3 : decode cJ0_coder_7d493 3 = .ok (.ifCond .eq 10, 3) := by decide +kernel
theorem dJ0_coder_7d493_6 : decode cJ0_coder_7d493 6 = .ok (.aload_n 0, 1) := by decide +kernel
theorem dJ0_coder_7d493_7 : decode cJ0_coder_7d493 7 = .ok (.getfield 15, 3) := by decide +kernel
theorem dJ0_coder_7d493_10 : decode cJ0_coder_7d493 10 = .ok (.goto 4, 3) := by decide +kernel
theorem dJ0_coder_7d493_13 : decode cJ0_coder_7d493 13 = .ok (.iconst 1, 1) := by decide +kernel
theorem dJ0_coder_7d493_14 : decode cJ0_coder_7d493 14 = .ok (.ireturn, 1) := by decide +kernel
theorem dJ0_isLatin1_aae02_0 : decode cJ0_isLatin1_aae02 0 = .ok (.getstatic 38, 3) := by decide +kernel
theorem dJ0_isLatin1_aae02_3 : decode cJ0_isLatin1_aae02 3 = .ok (.ifCond .eq 14, 3) := by decide +kernel
theorem dJ0_isLatin1_aae02_6 : decode cJ0_isLatin1_aae02 6 = .ok (.aload_n 0, 1) := by decide +kernel
theorem dJ0_isLatin1_aae02_7 : decode cJ0_isLatin1_aae02 7 = .ok (.getfield 15, 3) := by decide +kernel
theorem dJ0_isLatin1_aae02_10 : decode cJ0_isLatin1_aae02 10 = .ok (.ifCond .ne 7, 3) := by decide +kernel
theorem dJ0_isLatin1_aae02_13 : decode cJ0_isLatin1_aae02 13 = .ok (.iconst 1, 1) := by decide +kernel
theorem dJ0_isLatin1_aae02_14 : decode cJ0_isLatin1_aae02 14 = .ok (.goto 4, 3) := by decide +kernel
theorem dJ0_isLatin1_aae02_17 : decode cJ0_isLatin1_aae02 17 = .ok (.iconst 0, 1) := by decide +kernel
theorem dJ0_isLatin1_aae02_18 : decode cJ0_isLatin1_aae02 18 = .ok (.ireturn, 1) := by decide +kernel
theorem dJ1_canEncode_9a6ad_0 : decode cJ1_canEncode_9a6ad 0 = .ok (.iload_n 0, 1) := by decide +kernel
theorem dJ1_canEncode_9a6ad_1 : decode cJ1_canEncode_9a6ad 1 = .ok (.ifCond .lt 14, 3) := by decide +kernel
theorem dJ1_canEncode_9a6ad_4 : decode cJ1_canEncode_9a6ad 4 = .ok (.iload_n 0, 1) := by decide +kernel
theorem dJ1_canEncode_9a6ad_5 : decode cJ1_canEncode_9a6ad 5 = .ok (.sipush 255, 3) := by decide +kernel
theorem dJ1_canEncode_9a6ad_8 : decode cJ1_canEncode_9a6ad 8 = .ok (.if_icmp .gt 7, 3) := by decide +kernel
theorem dJ1_canEncode_9a6ad_11 : decode cJ1_canEncode_9a6ad 11 = .ok (.iconst 1, 1) := by decide +kernel
theorem dJ1_canEncode_9a6ad_12 : decode cJ1_canEncode_9a6ad 12 = .ok (.goto 4, 3) := by decide +kernel
theorem dJ1_canEncode_9a6ad_15 : decode cJ1_canEncode_9a6ad 15 = .ok (.iconst 0, 1) := by decide +kernel
theorem dJ1_canEncode_9a6ad_16 : decode cJ1_canEncode_9a6ad 16 = .ok (.ireturn, 1) := by decide +kernel
theorem dJ1_indexOf_4cfef_0 : decode cJ1_indexOf_4cfef 0 = .ok (.iload_n 1, 1) := by decide +kernel
theorem dJ1_indexOf_4cfef_1 : decode cJ1_indexOf_4cfef 1 = .ok (.invokestatic 88, 3) := by decide +kernel
theorem dJ1_indexOf_4cfef_4 : decode cJ1_indexOf_4cfef 4 = .ok (.ifCond .ne 5, 3) := by decide +kernel
theorem dJ1_indexOf_4cfef_7 : decode cJ1_indexOf_4cfef 7 = .ok (.iconst (-1), 1) := by decide +kernel
theorem dJ1_indexOf_4cfef_8 : decode cJ1_indexOf_4cfef 8 = .ok (.ireturn, 1) := by decide +kernel
theorem dJ1_indexOf_4cfef_9 : decode cJ1_indexOf_4cfef 9 = .ok (.iload_n 2, 1) := by decide +kernel
theorem dJ1_indexOf_4cfef_10 : decode cJ1_indexOf_4cfef 10 = .ok (.iconst 0, 1) := by decide +kernel
theorem dJ1_indexOf_4cfef_11 : decode cJ1_indexOf_4cfef 11 = .ok (.invokestatic 92, 3) := by decide +kernel
theorem dJ1_indexOf_4cfef_14 : decode cJ1_indexOf_4cfef 14 = .ok (.istore_n 2, 1) := by decide +kernel
theorem dJ1_indexOf_4cfef_15 : decode cJ1_indexOf_4cfef 15 = .ok (.iload_n 3, 1) := by decide +kernel
theorem dJ1_indexOf_4cfef_16 : decode cJ1_indexOf_4cfef 16 = .ok (.aload_n 0, 1) := by decide +kernel
theorem dJ1_indexOf_4cfef_17 : decode cJ1_indexOf_4cfef 17 = .ok (.arraylength, 1) := by decide +kernel
theorem dJ1_indexOf_4cfef_18 : decode cJ1_indexOf_4cfef 18 = .ok (.invokestatic 38, 3) := by decide +kernel
theorem dJ1_indexOf_4cfef_21 : decode cJ1_indexOf_4cfef 21 = .ok (.istore_n 3, 1) := by decide +kernel
theorem dJ1_indexOf_4cfef_22 : decode cJ1_indexOf_4cfef 22 = .ok (.iload_n 2, 1) := by decide +kernel
theorem dJ1_indexOf_4cfef_23 : decode cJ1_indexOf_4cfef 23 = .ok (.iload_n 3, 1) := by decide +kernel
theorem dJ1_indexOf_4cfef_24 : decode cJ1_indexOf_4cfef 24 = .ok (.if_icmp .lt 5, 3) := by decide +kernel
theorem dJ1_indexOf_4cfef_27 : decode cJ1_indexOf_4cfef 27 = .ok (.iconst (-1), 1) := by decide +kernel
theorem dJ1_indexOf_4cfef_28 : decode cJ1_indexOf_4cfef 28 = .ok (.ireturn, 1) := by decide +kernel
theorem dJ1_indexOf_4cfef_29 : decode cJ1_indexOf_4cfef 29 = .ok (.aload_n 0, 1) := by decide +kernel
theorem dJ1_indexOf_4cfef_30 : decode cJ1_indexOf_4cfef 30 = .ok (.iload_n 1, 1) := by decide +kernel
theorem dJ1_indexOf_4cfef_31 : decode cJ1_indexOf_4cfef 31 = .ok (.iload_n 2, 1) := by decide +kernel
theorem dJ1_indexOf_4cfef_32 : decode cJ1_indexOf_4cfef 32 = .ok (.iload_n 3, 1) := by decide +kernel
theorem dJ1_indexOf_4cfef_33 : decode cJ1_indexOf_4cfef 33 = .ok (.invokestatic 95, 3) := by decide +kernel
theorem dJ1_indexOf_4cfef_36 : decode cJ1_indexOf_4cfef 36 = .ok (.ireturn, 1) := by decide +kernel
theorem dJ1_indexOfChar_4cfef_0 : decode cJ1_indexOfChar_4cfef 0 = .ok (.iload_n 1, 1) := by decide +kernel
theorem dJ1_indexOfChar_4cfef_1 : decode cJ1_indexOfChar_4cfef 1 = .ok (.i2b, 1) := by decide +kernel
theorem dJ1_indexOfChar_4cfef_2 : decode cJ1_indexOfChar_4cfef 2 = .ok (.istore 4, 2) := by decide +kernel
theorem dJ1_indexOfChar_4cfef_4 : decode cJ1_indexOfChar_4cfef 4 = .ok (.iload_n 2, 1) := by decide +kernel
theorem dJ1_indexOfChar_4cfef_5 : decode cJ1_indexOfChar_4cfef 5 = .ok (.istore 5, 2) := by decide +kernel
theorem dJ1_indexOfChar_4cfef_7 : decode cJ1_indexOfChar_4cfef 7 = .ok (.iload 5, 2) := by decide +kernel
theorem dJ1_indexOfChar_4cfef_9 : decode cJ1_indexOfChar_4cfef 9 = .ok (.iload_n 3, 1) := by decide +kernel
theorem dJ1_indexOfChar_4cfef_10 : decode cJ1_indexOfChar_4cfef 10 = .ok (.if_icmp .ge 21, 3) := by decide +kernel
theorem dJ1_indexOfChar_4cfef_13 : decode cJ1_indexOfChar_4cfef 13 = .ok (.aload_n 0, 1) := by decide +kernel
theorem dJ1_indexOfChar_4cfef_14 : decode cJ1_indexOfChar_4cfef 14 = .ok (.iload 5, 2) := by decide +kernel
theorem dJ1_indexOfChar_4cfef_16 : decode cJ1_indexOfChar_4cfef 16 = .ok (.baload, 1) := by decide +kernel
theorem dJ1_indexOfChar_4cfef_17 : decode cJ1_indexOfChar_4cfef 17 = .ok (.iload 4, 2) := by decide +kernel
theorem dJ1_indexOfChar_4cfef_19 : decode cJ1_indexOfChar_4cfef 19 = .ok (.if_icmp .ne 6, 3) := by decide +kernel
theorem dJ1_indexOfChar_4cfef_22 : decode cJ1_indexOfChar_4cfef 22 = .ok (.iload 5, 2) := by decide +kernel
theorem dJ1_indexOfChar_4cfef_24 : decode cJ1_indexOfChar_4cfef 24 = .ok (.ireturn, 1) := by decide +kernel
theorem dJ1_indexOfChar_4cfef_25 : decode cJ1_indexOfChar_4cfef 25 = .ok (.iinc 5 1, 3) := by decide +kernel
theorem dJ1_indexOfChar_4cfef_28 : decode cJ1_indexOfChar_4cfef 28 = .ok (.goto (-21), 3) := by decide +kernel
theorem dJ1_indexOfChar_4cfef_31 : decode cJ1_indexOfChar_4cfef 31 = .ok (.iconst (-1), 1) := by decide +kernel
theorem dJ1_indexOfChar_4cfef_32 : decode cJ1_indexOfChar_4cfef 32 = .ok (.ireturn, 1) := by decide +kernel
theorem dJ7_fill_53178_0 : decode cJ7_fill_53178 0 = .ok (.iconst 0, 1) := by decide +kernel
theorem dJ7_fill_53178_1 : decode cJ7_fill_53178 1 = .ok (.istore_n 2, 1) := by decide +kernel
theorem dJ7_fill_53178_2 : decode cJ7_fill_53178 2 = .ok (.aload_n 0, 1) := by decide +kernel
theorem dJ7_fill_53178_3 : decode cJ7_fill_53178 3 = .ok (.arraylength, 1) := by decide +kernel
theorem dJ7_fill_53178_4 : decode cJ7_fill_53178 4 = .ok (.istore_n 3, 1) := by decide +kernel
theorem dJ7_fill_53178_5 : decode cJ7_fill_53178 5 = .ok (.iload_n 2, 1) := by decide +kernel
theorem dJ7_fill_53178_6 : decode cJ7_fill_53178 6 = .ok (.iload_n 3, 1) := by decide +kernel
theorem dJ7_fill_53178_7 : decode cJ7_fill_53178 7 = .ok (.if_icmp .ge 13, 3) := by decide +kernel
theorem dJ7_fill_53178_10 : decode cJ7_fill_53178 10 = .ok (.aload_n 0, 1) := by decide +kernel
theorem dJ7_fill_53178_11 : decode cJ7_fill_53178 11 = .ok (.iload_n 2, 1) := by decide +kernel
theorem dJ7_fill_53178_12 : decode cJ7_fill_53178 12 = .ok (.iload_n 1, 1) := by decide +kernel
theorem dJ7_fill_53178_13 : decode cJ7_fill_53178 13 = .ok (.iastore, 1) := by decide +kernel
theorem dJ7_fill_53178_14 : decode cJ7_fill_53178 14 = .ok (.iinc 2 1, 3) := by decide +kernel
theorem dJ7_fill_53178_17 : decode cJ7_fill_53178 17 = .ok (.goto (-12), 3) := by decide +kernel
theorem dJ7_fill_53178_20 : decode cJ7_fill_53178 20 = .ok (.return_, 1) := by decide +kernel
theorem dL_law_0 : decode cL_law 0 = .ok (.new 7, 3) := by decide +kernel
theorem dL_law_3 : decode cL_law 3 = .ok (.dup, 1) := by decide +kernel
theorem dL_law_4 : decode cL_law 4 = .ok (.invokespecial 9, 3) := by decide +kernel
theorem dL_law_7 : decode cL_law 7 = .ok (.astore_n 1, 1) := by decide +kernel
theorem dL_law_8 : decode cL_law 8 = .ok (.new 10, 3) := by decide +kernel
theorem dL_law_11 : decode cL_law 11 = .ok (.dup, 1) := by decide +kernel
theorem dL_law_12 : decode cL_law 12 = .ok (.invokespecial 12, 3) := by decide +kernel
theorem dL_law_15 : decode cL_law 15 = .ok (.astore_n 2, 1) := by decide +kernel
theorem dL_law_16 : decode cL_law 16 = .ok (.iconst 0, 1) := by decide +kernel
theorem dL_law_17 : decode cL_law 17 = .ok (.istore_n 3, 1) := by decide +kernel
theorem dL_law_18 : decode cL_law 18 = .ok (.iload_n 3, 1) := by decide +kernel
theorem dL_law_19 : decode cL_law 19 = .ok (.aload_n 0, 1) := by decide +kernel
theorem dL_law_20 : decode cL_law 20 = .ok (.arraylength, 1) := by decide +kernel
theorem dL_law_21 : decode cL_law 21 = .ok (.iconst 5, 1) := by decide +kernel
theorem dL_law_22 : decode cL_law 22 = .ok (.isub, 1) := by decide +kernel
theorem dL_law_23 : decode cL_law 23 = .ok (.if_icmp .gt 855, 3) := by decide +kernel
theorem dL_law_26 : decode cL_law 26 = .ok (.aload_n 0, 1) := by decide +kernel
theorem dL_law_27 : decode cL_law 27 = .ok (.iload_n 3, 1) := by decide +kernel
theorem dL_law_28 : decode cL_law 28 = .ok (.iaload, 1) := by decide +kernel
theorem dL_law_29 : decode cL_law 29 = .ok (.bipush 31, 2) := by decide +kernel
theorem dL_law_31 : decode cL_law 31 = .ok (.iand, 1) := by decide +kernel
theorem dL_law_32 : decode cL_law 32 = .ok (.tableswitch 840 0 23 #[112, 135, 148, 161, 174, 207, 240, 283, 336, 369, 412, 465, 498, 551, 574, 597, 630, 663, 722, 735, 778, 791, 804, 827], 112) := by decide +kernel
theorem dL_law_144 : decode cL_law 144 = .ok (.aload_n 1, 1) := by decide +kernel
theorem dL_law_145 : decode cL_law 145 = .ok (.aload_n 0, 1) := by decide +kernel
theorem dL_law_146 : decode cL_law 146 = .ok (.iload_n 3, 1) := by decide +kernel
theorem dL_law_147 : decode cL_law 147 = .ok (.iconst 1, 1) := by decide +kernel
theorem dL_law_148 : decode cL_law 148 = .ok (.iadd, 1) := by decide +kernel
theorem dL_law_149 : decode cL_law 149 = .ok (.iaload, 1) := by decide +kernel
theorem dL_law_150 : decode cL_law 150 = .ok (.invokevirtual 13, 3) := by decide +kernel
theorem dL_law_153 : decode cL_law 153 = .ok (.pop, 1) := by decide +kernel
theorem dL_law_154 : decode cL_law 154 = .ok (.aload_n 2, 1) := by decide +kernel
theorem dL_law_155 : decode cL_law 155 = .ok (.aload_n 0, 1) := by decide +kernel
theorem dL_law_156 : decode cL_law 156 = .ok (.iload_n 3, 1) := by decide +kernel
theorem dL_law_157 : decode cL_law 157 = .ok (.iconst 1, 1) := by decide +kernel
theorem dL_law_158 : decode cL_law 158 = .ok (.iadd, 1) := by decide +kernel
theorem dL_law_159 : decode cL_law 159 = .ok (.iaload, 1) := by decide +kernel
theorem dL_law_160 : decode cL_law 160 = .ok (.invokevirtual 17, 3) := by decide +kernel
theorem dL_law_163 : decode cL_law 163 = .ok (.pop, 1) := by decide +kernel
theorem dL_law_164 : decode cL_law 164 = .ok (.goto 708, 3) := by decide +kernel
theorem dL_law_167 : decode cL_law 167 = .ok (.aload_n 1, 1) := by decide +kernel
theorem dL_law_168 : decode cL_law 168 = .ok (.invokevirtual 18, 3) := by decide +kernel
theorem dL_law_171 : decode cL_law 171 = .ok (.pop, 1) := by decide +kernel
theorem dL_law_172 : decode cL_law 172 = .ok (.aload_n 2, 1) := by decide +kernel
theorem dL_law_173 : decode cL_law 173 = .ok (.invokevirtual 22, 3) := by decide +kernel
theorem dL_law_176 : decode cL_law 176 = .ok (.pop, 1) := by decide +kernel
theorem dL_law_177 : decode cL_law 177 = .ok (.goto 695, 3) := by decide +kernel
theorem dL_law_180 : decode cL_law 180 = .ok (.aload_n 1, 1) := by decide +kernel
theorem dL_law_181 : decode cL_law 181 = .ok (.invokevirtual 23, 3) := by decide +kernel
theorem dL_law_184 : decode cL_law 184 = .ok (.pop, 1) := by decide +kernel
theorem dL_law_185 : decode cL_law 185 = .ok (.aload_n 2, 1) := by decide +kernel
theorem dL_law_186 : decode cL_law 186 = .ok (.invokevirtual 26, 3) := by decide +kernel
theorem dL_law_189 : decode cL_law 189 = .ok (.pop, 1) := by decide +kernel
theorem dL_law_190 : decode cL_law 190 = .ok (.goto 682, 3) := by decide +kernel
theorem dL_law_193 : decode cL_law 193 = .ok (.aload_n 1, 1) := by decide +kernel
theorem dL_law_194 : decode cL_law 194 = .ok (.invokevirtual 27, 3) := by decide +kernel
theorem dL_law_197 : decode cL_law 197 = .ok (.pop, 1) := by decide +kernel
theorem dL_law_198 : decode cL_law 198 = .ok (.aload_n 2, 1) := by decide +kernel
theorem dL_law_199 : decode cL_law 199 = .ok (.invokevirtual 30, 3) := by decide +kernel
theorem dL_law_202 : decode cL_law 202 = .ok (.pop, 1) := by decide +kernel
theorem dL_law_203 : decode cL_law 203 = .ok (.goto 669, 3) := by decide +kernel
theorem dL_law_206 : decode cL_law 206 = .ok (.aload_n 1, 1) := by decide +kernel
theorem dL_law_207 : decode cL_law 207 = .ok (.aload_n 0, 1) := by decide +kernel
theorem dL_law_208 : decode cL_law 208 = .ok (.iload_n 3, 1) := by decide +kernel
theorem dL_law_209 : decode cL_law 209 = .ok (.iconst 1, 1) := by decide +kernel
theorem dL_law_210 : decode cL_law 210 = .ok (.iadd, 1) := by decide +kernel
theorem dL_law_211 : decode cL_law 211 = .ok (.iaload, 1) := by decide +kernel
theorem dL_law_212 : decode cL_law 212 = .ok (.aload_n 0, 1) := by decide +kernel
theorem dL_law_213 : decode cL_law 213 = .ok (.iload_n 3, 1) := by decide +kernel
theorem dL_law_214 : decode cL_law 214 = .ok (.iconst 2, 1) := by decide +kernel
theorem dL_law_215 : decode cL_law 215 = .ok (.iadd, 1) := by decide +kernel
theorem dL_law_216 : decode cL_law 216 = .ok (.iaload, 1) := by decide +kernel
theorem dL_law_217 : decode cL_law 217 = .ok (.invokevirtual 31, 3) := by decide +kernel
theorem dL_law_220 : decode cL_law 220 = .ok (.pop, 1) := by decide +kernel
theorem dL_law_221 : decode cL_law 221 = .ok (.aload_n 2, 1) := by decide +kernel
theorem dL_law_222 : decode cL_law 222 = .ok (.aload_n 0, 1) := by decide +kernel
theorem dL_law_223 : decode cL_law 223 = .ok (.iload_n 3, 1) := by decide +kernel
theorem dL_law_224 : decode cL_law 224 = .ok (.iconst 1, 1) := by decide +kernel
theorem dL_law_225 : decode cL_law 225 = .ok (.iadd, 1) := by decide +kernel
theorem dL_law_226 : decode cL_law 226 = .ok (.iaload, 1) := by decide +kernel
theorem dL_law_227 : decode cL_law 227 = .ok (.aload_n 0, 1) := by decide +kernel
theorem dL_law_228 : decode cL_law 228 = .ok (.iload_n 3, 1) := by decide +kernel
theorem dL_law_229 : decode cL_law 229 = .ok (.iconst 2, 1) := by decide +kernel
theorem dL_law_230 : decode cL_law 230 = .ok (.iadd, 1) := by decide +kernel
theorem dL_law_231 : decode cL_law 231 = .ok (.iaload, 1) := by decide +kernel
theorem dL_law_232 : decode cL_law 232 = .ok (.invokevirtual 35, 3) := by decide +kernel
theorem dL_law_235 : decode cL_law 235 = .ok (.pop, 1) := by decide +kernel
theorem dL_law_236 : decode cL_law 236 = .ok (.goto 636, 3) := by decide +kernel
theorem dL_law_239 : decode cL_law 239 = .ok (.aload_n 1, 1) := by decide +kernel
theorem dL_law_240 : decode cL_law 240 = .ok (.aload_n 0, 1) := by decide +kernel
theorem dL_law_241 : decode cL_law 241 = .ok (.iload_n 3, 1) := by decide +kernel
theorem dL_law_242 : decode cL_law 242 = .ok (.iconst 1, 1) := by decide +kernel
theorem dL_law_243 : decode cL_law 243 = .ok (.iadd, 1) := by decide +kernel
theorem dL_law_244 : decode cL_law 244 = .ok (.iaload, 1) := by decide +kernel
theorem dL_law_245 : decode cL_law 245 = .ok (.aload_n 0, 1) := by decide +kernel
theorem dL_law_246 : decode cL_law 246 = .ok (.iload_n 3, 1) := by decide +kernel
theorem dL_law_247 : decode cL_law 247 = .ok (.iconst 2, 1) := by decide +kernel
theorem dL_law_248 : decode cL_law 248 = .ok (.iadd, 1) := by decide +kernel
theorem dL_law_249 : decode cL_law 249 = .ok (.iaload, 1) := by decide +kernel
theorem dL_law_250 : decode cL_law 250 = .ok (.invokevirtual 36, 3) := by decide +kernel
theorem dL_law_253 : decode cL_law 253 = .ok (.pop, 1) := by decide +kernel
theorem dL_law_254 : decode cL_law 254 = .ok (.aload_n 2, 1) := by decide +kernel
theorem dL_law_255 : decode cL_law 255 = .ok (.aload_n 0, 1) := by decide +kernel
theorem dL_law_256 : decode cL_law 256 = .ok (.iload_n 3, 1) := by decide +kernel
theorem dL_law_257 : decode cL_law 257 = .ok (.iconst 1, 1) := by decide +kernel
theorem dL_law_258 : decode cL_law 258 = .ok (.iadd, 1) := by decide +kernel
theorem dL_law_259 : decode cL_law 259 = .ok (.iaload, 1) := by decide +kernel
theorem dL_law_260 : decode cL_law 260 = .ok (.aload_n 0, 1) := by decide +kernel
theorem dL_law_261 : decode cL_law 261 = .ok (.iload_n 3, 1) := by decide +kernel
theorem dL_law_262 : decode cL_law 262 = .ok (.iconst 2, 1) := by decide +kernel
theorem dL_law_263 : decode cL_law 263 = .ok (.iadd, 1) := by decide +kernel
theorem dL_law_264 : decode cL_law 264 = .ok (.iaload, 1) := by decide +kernel
theorem dL_law_265 : decode cL_law 265 = .ok (.invokevirtual 39, 3) := by decide +kernel
theorem dL_law_268 : decode cL_law 268 = .ok (.pop, 1) := by decide +kernel
theorem dL_law_269 : decode cL_law 269 = .ok (.goto 603, 3) := by decide +kernel
theorem dL_law_272 : decode cL_law 272 = .ok (.aload_n 1, 1) := by decide +kernel
theorem dL_law_273 : decode cL_law 273 = .ok (.aload_n 0, 1) := by decide +kernel
theorem dL_law_274 : decode cL_law 274 = .ok (.iload_n 3, 1) := by decide +kernel
theorem dL_law_275 : decode cL_law 275 = .ok (.iconst 1, 1) := by decide +kernel
theorem dL_law_276 : decode cL_law 276 = .ok (.iadd, 1) := by decide +kernel
theorem dL_law_277 : decode cL_law 277 = .ok (.iaload, 1) := by decide +kernel
theorem dL_law_278 : decode cL_law 278 = .ok (.aload_n 0, 1) := by decide +kernel
theorem dL_law_279 : decode cL_law 279 = .ok (.iload_n 3, 1) := by decide +kernel
theorem dL_law_280 : decode cL_law 280 = .ok (.iconst 2, 1) := by decide +kernel
theorem dL_law_281 : decode cL_law 281 = .ok (.iadd, 1) := by decide +kernel
theorem dL_law_282 : decode cL_law 282 = .ok (.iaload, 1) := by decide +kernel
theorem dL_law_283 : decode cL_law 283 = .ok (.aload_n 0, 1) := by decide +kernel
theorem dL_law_284 : decode cL_law 284 = .ok (.iload_n 3, 1) := by decide +kernel
theorem dL_law_285 : decode cL_law 285 = .ok (.iconst 3, 1) := by decide +kernel
theorem dL_law_286 : decode cL_law 286 = .ok (.iadd, 1) := by decide +kernel
theorem dL_law_287 : decode cL_law 287 = .ok (.iaload, 1) := by decide +kernel
theorem dL_law_288 : decode cL_law 288 = .ok (.invokevirtual 40, 3) := by decide +kernel
theorem dL_law_291 : decode cL_law 291 = .ok (.pop, 1) := by decide +kernel
theorem dL_law_292 : decode cL_law 292 = .ok (.aload_n 2, 1) := by decide +kernel
theorem dL_law_293 : decode cL_law 293 = .ok (.aload_n 0, 1) := by decide +kernel
theorem dL_law_294 : decode cL_law 294 = .ok (.iload_n 3, 1) := by decide +kernel
theorem dL_law_295 : decode cL_law 295 = .ok (.iconst 1, 1) := by decide +kernel
theorem dL_law_296 : decode cL_law 296 = .ok (.iadd, 1) := by decide +kernel
theorem dL_law_297 : decode cL_law 297 = .ok (.iaload, 1) := by decide +kernel
theorem dL_law_298 : decode cL_law 298 = .ok (.aload_n 0, 1) := by decide +kernel
theorem dL_law_299 : decode cL_law 299 = .ok (.iload_n 3, 1) := by decide +kernel
theorem dL_law_300 : decode cL_law 300 = .ok (.iconst 2, 1) := by decide +kernel
theorem dL_law_301 : decode cL_law 301 = .ok (.iadd, 1) := by decide +kernel
theorem dL_law_302 : decode cL_law 302 = .ok (.iaload, 1) := by decide +kernel
theorem dL_law_303 : decode cL_law 303 = .ok (.aload_n 0, 1) := by decide +kernel
theorem dL_law_304 : decode cL_law 304 = .ok (.iload_n 3, 1) := by decide +kernel
theorem dL_law_305 : decode cL_law 305 = .ok (.iconst 3, 1) := by decide +kernel
theorem dL_law_306 : decode cL_law 306 = .ok (.iadd, 1) := by decide +kernel
theorem dL_law_307 : decode cL_law 307 = .ok (.iaload, 1) := by decide +kernel
theorem dL_law_308 : decode cL_law 308 = .ok (.invokevirtual 44, 3) := by decide +kernel
theorem dL_law_311 : decode cL_law 311 = .ok (.pop, 1) := by decide +kernel
theorem dL_law_312 : decode cL_law 312 = .ok (.goto 560, 3) := by decide +kernel
theorem dL_law_315 : decode cL_law 315 = .ok (.aload_n 1, 1) := by decide +kernel
theorem dL_law_316 : decode cL_law 316 = .ok (.aload_n 0, 1) := by decide +kernel
theorem dL_law_317 : decode cL_law 317 = .ok (.iload_n 3, 1) := by decide +kernel
theorem dL_law_318 : decode cL_law 318 = .ok (.iconst 1, 1) := by decide +kernel
theorem dL_law_319 : decode cL_law 319 = .ok (.iadd, 1) := by decide +kernel
theorem dL_law_320 : decode cL_law 320 = .ok (.iaload, 1) := by decide +kernel
theorem dL_law_321 : decode cL_law 321 = .ok (.aload_n 0, 1) := by decide +kernel
theorem dL_law_322 : decode cL_law 322 = .ok (.iload_n 3, 1) := by decide +kernel
theorem dL_law_323 : decode cL_law 323 = .ok (.iconst 2, 1) := by decide +kernel
theorem dL_law_324 : decode cL_law 324 = .ok (.iadd, 1) := by decide +kernel
theorem dL_law_325 : decode cL_law 325 = .ok (.iaload, 1) := by decide +kernel
theorem dL_law_326 : decode cL_law 326 = .ok (.aload_n 0, 1) := by decide +kernel
theorem dL_law_327 : decode cL_law 327 = .ok (.iload_n 3, 1) := by decide +kernel
theorem dL_law_328 : decode cL_law 328 = .ok (.iconst 3, 1) := by decide +kernel
theorem dL_law_329 : decode cL_law 329 = .ok (.iadd, 1) := by decide +kernel
theorem dL_law_330 : decode cL_law 330 = .ok (.iaload, 1) := by decide +kernel
theorem dL_law_331 : decode cL_law 331 = .ok (.aload_n 0, 1) := by decide +kernel
theorem dL_law_332 : decode cL_law 332 = .ok (.iload_n 3, 1) := by decide +kernel
theorem dL_law_333 : decode cL_law 333 = .ok (.iconst 4, 1) := by decide +kernel
theorem dL_law_334 : decode cL_law 334 = .ok (.iadd, 1) := by decide +kernel
theorem dL_law_335 : decode cL_law 335 = .ok (.iaload, 1) := by decide +kernel
theorem dL_law_336 : decode cL_law 336 = .ok (.invokevirtual 45, 3) := by decide +kernel
theorem dL_law_339 : decode cL_law 339 = .ok (.pop, 1) := by decide +kernel
theorem dL_law_340 : decode cL_law 340 = .ok (.aload_n 2, 1) := by decide +kernel
theorem dL_law_341 : decode cL_law 341 = .ok (.aload_n 0, 1) := by decide +kernel
theorem dL_law_342 : decode cL_law 342 = .ok (.iload_n 3, 1) := by decide +kernel
theorem dL_law_343 : decode cL_law 343 = .ok (.iconst 1, 1) := by decide +kernel
theorem dL_law_344 : decode cL_law 344 = .ok (.iadd, 1) := by decide +kernel
theorem dL_law_345 : decode cL_law 345 = .ok (.iaload, 1) := by decide +kernel
theorem dL_law_346 : decode cL_law 346 = .ok (.aload_n 0, 1) := by decide +kernel
theorem dL_law_347 : decode cL_law 347 = .ok (.iload_n 3, 1) := by decide +kernel
theorem dL_law_348 : decode cL_law 348 = .ok (.iconst 2, 1) := by decide +kernel
theorem dL_law_349 : decode cL_law 349 = .ok (.iadd, 1) := by decide +kernel
theorem dL_law_350 : decode cL_law 350 = .ok (.iaload, 1) := by decide +kernel
theorem dL_law_351 : decode cL_law 351 = .ok (.aload_n 0, 1) := by decide +kernel
theorem dL_law_352 : decode cL_law 352 = .ok (.iload_n 3, 1) := by decide +kernel
theorem dL_law_353 : decode cL_law 353 = .ok (.iconst 3, 1) := by decide +kernel
theorem dL_law_354 : decode cL_law 354 = .ok (.iadd, 1) := by decide +kernel
theorem dL_law_355 : decode cL_law 355 = .ok (.iaload, 1) := by decide +kernel
theorem dL_law_356 : decode cL_law 356 = .ok (.aload_n 0, 1) := by decide +kernel
theorem dL_law_357 : decode cL_law 357 = .ok (.iload_n 3, 1) := by decide +kernel
theorem dL_law_358 : decode cL_law 358 = .ok (.iconst 4, 1) := by decide +kernel
theorem dL_law_359 : decode cL_law 359 = .ok (.iadd, 1) := by decide +kernel
theorem dL_law_360 : decode cL_law 360 = .ok (.iaload, 1) := by decide +kernel
theorem dL_law_361 : decode cL_law 361 = .ok (.invokevirtual 49, 3) := by decide +kernel
theorem dL_law_364 : decode cL_law 364 = .ok (.pop, 1) := by decide +kernel
theorem dL_law_365 : decode cL_law 365 = .ok (.goto 507, 3) := by decide +kernel
theorem dL_law_368 : decode cL_law 368 = .ok (.aload_n 1, 1) := by decide +kernel
theorem dL_law_369 : decode cL_law 369 = .ok (.aload_n 0, 1) := by decide +kernel
theorem dL_law_370 : decode cL_law 370 = .ok (.iload_n 3, 1) := by decide +kernel
theorem dL_law_371 : decode cL_law 371 = .ok (.iconst 1, 1) := by decide +kernel
theorem dL_law_372 : decode cL_law 372 = .ok (.iadd, 1) := by decide +kernel
theorem dL_law_373 : decode cL_law 373 = .ok (.iaload, 1) := by decide +kernel
theorem dL_law_374 : decode cL_law 374 = .ok (.aload_n 0, 1) := by decide +kernel
theorem dL_law_375 : decode cL_law 375 = .ok (.iload_n 3, 1) := by decide +kernel
theorem dL_law_376 : decode cL_law 376 = .ok (.iconst 2, 1) := by decide +kernel
theorem dL_law_377 : decode cL_law 377 = .ok (.iadd, 1) := by decide +kernel
theorem dL_law_378 : decode cL_law 378 = .ok (.iaload, 1) := by decide +kernel
theorem dL_law_379 : decode cL_law 379 = .ok (.invokevirtual 50, 3) := by decide +kernel
theorem dL_law_382 : decode cL_law 382 = .ok (.pop, 1) := by decide +kernel
theorem dL_law_383 : decode cL_law 383 = .ok (.aload_n 2, 1) := by decide +kernel
theorem dL_law_384 : decode cL_law 384 = .ok (.aload_n 0, 1) := by decide +kernel
theorem dL_law_385 : decode cL_law 385 = .ok (.iload_n 3, 1) := by decide +kernel
theorem dL_law_386 : decode cL_law 386 = .ok (.iconst 1, 1) := by decide +kernel
theorem dL_law_387 : decode cL_law 387 = .ok (.iadd, 1) := by decide +kernel
theorem dL_law_388 : decode cL_law 388 = .ok (.iaload, 1) := by decide +kernel
theorem dL_law_389 : decode cL_law 389 = .ok (.aload_n 0, 1) := by decide +kernel
theorem dL_law_390 : decode cL_law 390 = .ok (.iload_n 3, 1) := by decide +kernel
theorem dL_law_391 : decode cL_law 391 = .ok (.iconst 2, 1) := by decide +kernel
theorem dL_law_392 : decode cL_law 392 = .ok (.iadd, 1) := by decide +kernel
theorem dL_law_393 : decode cL_law 393 = .ok (.iaload, 1) := by decide +kernel
theorem dL_law_394 : decode cL_law 394 = .ok (.invokevirtual 53, 3) := by decide +kernel
theorem dL_law_397 : decode cL_law 397 = .ok (.pop, 1) := by decide +kernel
theorem dL_law_398 : decode cL_law 398 = .ok (.goto 474, 3) := by decide +kernel
theorem dL_law_401 : decode cL_law 401 = .ok (.aload_n 1, 1) := by decide +kernel
theorem dL_law_402 : decode cL_law 402 = .ok (.aload_n 0, 1) := by decide +kernel
theorem dL_law_403 : decode cL_law 403 = .ok (.iload_n 3, 1) := by decide +kernel
theorem dL_law_404 : decode cL_law 404 = .ok (.iconst 1, 1) := by decide +kernel
theorem dL_law_405 : decode cL_law 405 = .ok (.iadd, 1) := by decide +kernel
theorem dL_law_406 : decode cL_law 406 = .ok (.iaload, 1) := by decide +kernel
theorem dL_law_407 : decode cL_law 407 = .ok (.aload_n 0, 1) := by decide +kernel
theorem dL_law_408 : decode cL_law 408 = .ok (.iload_n 3, 1) := by decide +kernel
theorem dL_law_409 : decode cL_law 409 = .ok (.iconst 2, 1) := by decide +kernel
theorem dL_law_410 : decode cL_law 410 = .ok (.iadd, 1) := by decide +kernel
theorem dL_law_411 : decode cL_law 411 = .ok (.iaload, 1) := by decide +kernel
theorem dL_law_412 : decode cL_law 412 = .ok (.aload_n 0, 1) := by decide +kernel
theorem dL_law_413 : decode cL_law 413 = .ok (.iload_n 3, 1) := by decide +kernel
theorem dL_law_414 : decode cL_law 414 = .ok (.iconst 3, 1) := by decide +kernel
theorem dL_law_415 : decode cL_law 415 = .ok (.iadd, 1) := by decide +kernel
theorem dL_law_416 : decode cL_law 416 = .ok (.iaload, 1) := by decide +kernel
theorem dL_law_417 : decode cL_law 417 = .ok (.invokevirtual 54, 3) := by decide +kernel
theorem dL_law_420 : decode cL_law 420 = .ok (.pop, 1) := by decide +kernel
theorem dL_law_421 : decode cL_law 421 = .ok (.aload_n 2, 1) := by decide +kernel
theorem dL_law_422 : decode cL_law 422 = .ok (.aload_n 0, 1) := by decide +kernel
theorem dL_law_423 : decode cL_law 423 = .ok (.iload_n 3, 1) := by decide +kernel
theorem dL_law_424 : decode cL_law 424 = .ok (.iconst 1, 1) := by decide +kernel
theorem dL_law_425 : decode cL_law 425 = .ok (.iadd, 1) := by decide +kernel
theorem dL_law_426 : decode cL_law 426 = .ok (.iaload, 1) := by decide +kernel
theorem dL_law_427 : decode cL_law 427 = .ok (.aload_n 0, 1) := by decide +kernel
theorem dL_law_428 : decode cL_law 428 = .ok (.iload_n 3, 1) := by decide +kernel
theorem dL_law_429 : decode cL_law 429 = .ok (.iconst 2, 1) := by decide +kernel
theorem dL_law_430 : decode cL_law 430 = .ok (.iadd, 1) := by decide +kernel
theorem dL_law_431 : decode cL_law 431 = .ok (.iaload, 1) := by decide +kernel
theorem dL_law_432 : decode cL_law 432 = .ok (.aload_n 0, 1) := by decide +kernel
theorem dL_law_433 : decode cL_law 433 = .ok (.iload_n 3, 1) := by decide +kernel
theorem dL_law_434 : decode cL_law 434 = .ok (.iconst 3, 1) := by decide +kernel
theorem dL_law_435 : decode cL_law 435 = .ok (.iadd, 1) := by decide +kernel
theorem dL_law_436 : decode cL_law 436 = .ok (.iaload, 1) := by decide +kernel
theorem dL_law_437 : decode cL_law 437 = .ok (.invokevirtual 57, 3) := by decide +kernel
theorem dL_law_440 : decode cL_law 440 = .ok (.pop, 1) := by decide +kernel
theorem dL_law_441 : decode cL_law 441 = .ok (.goto 431, 3) := by decide +kernel
theorem dL_law_444 : decode cL_law 444 = .ok (.aload_n 1, 1) := by decide +kernel
theorem dL_law_445 : decode cL_law 445 = .ok (.aload_n 0, 1) := by decide +kernel
theorem dL_law_446 : decode cL_law 446 = .ok (.iload_n 3, 1) := by decide +kernel
theorem dL_law_447 : decode cL_law 447 = .ok (.iconst 1, 1) := by decide +kernel
theorem dL_law_448 : decode cL_law 448 = .ok (.iadd, 1) := by decide +kernel
theorem dL_law_449 : decode cL_law 449 = .ok (.iaload, 1) := by decide +kernel
theorem dL_law_450 : decode cL_law 450 = .ok (.aload_n 0, 1) := by decide +kernel
theorem dL_law_451 : decode cL_law 451 = .ok (.iload_n 3, 1) := by decide +kernel
theorem dL_law_452 : decode cL_law 452 = .ok (.iconst 2, 1) := by decide +kernel
theorem dL_law_453 : decode cL_law 453 = .ok (.iadd, 1) := by decide +kernel
theorem dL_law_454 : decode cL_law 454 = .ok (.iaload, 1) := by decide +kernel
theorem dL_law_455 : decode cL_law 455 = .ok (.aload_n 0, 1) := by decide +kernel
theorem dL_law_456 : decode cL_law 456 = .ok (.iload_n 3, 1) := by decide +kernel
theorem dL_law_457 : decode cL_law 457 = .ok (.iconst 3, 1) := by decide +kernel
theorem dL_law_458 : decode cL_law 458 = .ok (.iadd, 1) := by decide +kernel
theorem dL_law_459 : decode cL_law 459 = .ok (.iaload, 1) := by decide +kernel
theorem dL_law_460 : decode cL_law 460 = .ok (.aload_n 0, 1) := by decide +kernel
theorem dL_law_461 : decode cL_law 461 = .ok (.iload_n 3, 1) := by decide +kernel
theorem dL_law_462 : decode cL_law 462 = .ok (.iconst 4, 1) := by decide +kernel
theorem dL_law_463 : decode cL_law 463 = .ok (.iadd, 1) := by decide +kernel
theorem dL_law_464 : decode cL_law 464 = .ok (.iaload, 1) := by decide +kernel
theorem dL_law_465 : decode cL_law 465 = .ok (.invokevirtual 58, 3) := by decide +kernel
theorem dL_law_468 : decode cL_law 468 = .ok (.pop, 1) := by decide +kernel
theorem dL_law_469 : decode cL_law 469 = .ok (.aload_n 2, 1) := by decide +kernel
theorem dL_law_470 : decode cL_law 470 = .ok (.aload_n 0, 1) := by decide +kernel
theorem dL_law_471 : decode cL_law 471 = .ok (.iload_n 3, 1) := by decide +kernel
theorem dL_law_472 : decode cL_law 472 = .ok (.iconst 1, 1) := by decide +kernel
theorem dL_law_473 : decode cL_law 473 = .ok (.iadd, 1) := by decide +kernel
theorem dL_law_474 : decode cL_law 474 = .ok (.iaload, 1) := by decide +kernel
theorem dL_law_475 : decode cL_law 475 = .ok (.aload_n 0, 1) := by decide +kernel
theorem dL_law_476 : decode cL_law 476 = .ok (.iload_n 3, 1) := by decide +kernel
theorem dL_law_477 : decode cL_law 477 = .ok (.iconst 2, 1) := by decide +kernel
theorem dL_law_478 : decode cL_law 478 = .ok (.iadd, 1) := by decide +kernel
theorem dL_law_479 : decode cL_law 479 = .ok (.iaload, 1) := by decide +kernel
theorem dL_law_480 : decode cL_law 480 = .ok (.aload_n 0, 1) := by decide +kernel
theorem dL_law_481 : decode cL_law 481 = .ok (.iload_n 3, 1) := by decide +kernel
theorem dL_law_482 : decode cL_law 482 = .ok (.iconst 3, 1) := by decide +kernel
theorem dL_law_483 : decode cL_law 483 = .ok (.iadd, 1) := by decide +kernel
theorem dL_law_484 : decode cL_law 484 = .ok (.iaload, 1) := by decide +kernel
theorem dL_law_485 : decode cL_law 485 = .ok (.aload_n 0, 1) := by decide +kernel
theorem dL_law_486 : decode cL_law 486 = .ok (.iload_n 3, 1) := by decide +kernel
theorem dL_law_487 : decode cL_law 487 = .ok (.iconst 4, 1) := by decide +kernel
theorem dL_law_488 : decode cL_law 488 = .ok (.iadd, 1) := by decide +kernel
theorem dL_law_489 : decode cL_law 489 = .ok (.iaload, 1) := by decide +kernel
theorem dL_law_490 : decode cL_law 490 = .ok (.invokevirtual 61, 3) := by decide +kernel
theorem dL_law_493 : decode cL_law 493 = .ok (.pop, 1) := by decide +kernel
theorem dL_law_494 : decode cL_law 494 = .ok (.goto 378, 3) := by decide +kernel
theorem dL_law_497 : decode cL_law 497 = .ok (.aload_n 1, 1) := by decide +kernel
theorem dL_law_498 : decode cL_law 498 = .ok (.aload_n 0, 1) := by decide +kernel
theorem dL_law_499 : decode cL_law 499 = .ok (.iload_n 3, 1) := by decide +kernel
theorem dL_law_500 : decode cL_law 500 = .ok (.iconst 1, 1) := by decide +kernel
theorem dL_law_501 : decode cL_law 501 = .ok (.iadd, 1) := by decide +kernel
theorem dL_law_502 : decode cL_law 502 = .ok (.iaload, 1) := by decide +kernel
theorem dL_law_503 : decode cL_law 503 = .ok (.aload_n 0, 1) := by decide +kernel
theorem dL_law_504 : decode cL_law 504 = .ok (.iload_n 3, 1) := by decide +kernel
theorem dL_law_505 : decode cL_law 505 = .ok (.iconst 2, 1) := by decide +kernel
theorem dL_law_506 : decode cL_law 506 = .ok (.iadd, 1) := by decide +kernel
theorem dL_law_507 : decode cL_law 507 = .ok (.iaload, 1) := by decide +kernel
theorem dL_law_508 : decode cL_law 508 = .ok (.invokevirtual 62, 3) := by decide +kernel
theorem dL_law_511 : decode cL_law 511 = .ok (.pop, 1) := by decide +kernel
theorem dL_law_512 : decode cL_law 512 = .ok (.aload_n 2, 1) := by decide +kernel
theorem dL_law_513 : decode cL_law 513 = .ok (.aload_n 0, 1) := by decide +kernel
theorem dL_law_514 : decode cL_law 514 = .ok (.iload_n 3, 1) := by decide +kernel
theorem dL_law_515 : decode cL_law 515 = .ok (.iconst 1, 1) := by decide +kernel
theorem dL_law_516 : decode cL_law 516 = .ok (.iadd, 1) := by decide +kernel
theorem dL_law_517 : decode cL_law 517 = .ok (.iaload, 1) := by decide +kernel
theorem dL_law_518 : decode cL_law 518 = .ok (.aload_n 0, 1) := by decide +kernel
theorem dL_law_519 : decode cL_law 519 = .ok (.iload_n 3, 1) := by decide +kernel
theorem dL_law_520 : decode cL_law 520 = .ok (.iconst 2, 1) := by decide +kernel
theorem dL_law_521 : decode cL_law 521 = .ok (.iadd, 1) := by decide +kernel
theorem dL_law_522 : decode cL_law 522 = .ok (.iaload, 1) := by decide +kernel
theorem dL_law_523 : decode cL_law 523 = .ok (.invokevirtual 65, 3) := by decide +kernel
theorem dL_law_526 : decode cL_law 526 = .ok (.pop, 1) := by decide +kernel
theorem dL_law_527 : decode cL_law 527 = .ok (.goto 345, 3) := by decide +kernel
theorem dL_law_530 : decode cL_law 530 = .ok (.aload_n 1, 1) := by decide +kernel
theorem dL_law_531 : decode cL_law 531 = .ok (.aload_n 0, 1) := by decide +kernel
theorem dL_law_532 : decode cL_law 532 = .ok (.iload_n 3, 1) := by decide +kernel
theorem dL_law_533 : decode cL_law 533 = .ok (.iconst 1, 1) := by decide +kernel
theorem dL_law_534 : decode cL_law 534 = .ok (.iadd, 1) := by decide +kernel
theorem dL_law_535 : decode cL_law 535 = .ok (.iaload, 1) := by decide +kernel
theorem dL_law_536 : decode cL_law 536 = .ok (.aload_n 0, 1) := by decide +kernel
theorem dL_law_537 : decode cL_law 537 = .ok (.iload_n 3, 1) := by decide +kernel
theorem dL_law_538 : decode cL_law 538 = .ok (.iconst 2, 1) := by decide +kernel
theorem dL_law_539 : decode cL_law 539 = .ok (.iadd, 1) := by decide +kernel
theorem dL_law_540 : decode cL_law 540 = .ok (.iaload, 1) := by decide +kernel
theorem dL_law_541 : decode cL_law 541 = .ok (.aload_n 0, 1) := by decide +kernel
theorem dL_law_542 : decode cL_law 542 = .ok (.iload_n 3, 1) := by decide +kernel
theorem dL_law_543 : decode cL_law 543 = .ok (.iconst 3, 1) := by decide +kernel
theorem dL_law_544 : decode cL_law 544 = .ok (.iadd, 1) := by decide +kernel
theorem dL_law_545 : decode cL_law 545 = .ok (.iaload, 1) := by decide +kernel
theorem dL_law_546 : decode cL_law 546 = .ok (.aload_n 0, 1) := by decide +kernel
theorem dL_law_547 : decode cL_law 547 = .ok (.iload_n 3, 1) := by decide +kernel
theorem dL_law_548 : decode cL_law 548 = .ok (.iconst 4, 1) := by decide +kernel
theorem dL_law_549 : decode cL_law 549 = .ok (.iadd, 1) := by decide +kernel
theorem dL_law_550 : decode cL_law 550 = .ok (.iaload, 1) := by decide +kernel
theorem dL_law_551 : decode cL_law 551 = .ok (.invokevirtual 66, 3) := by decide +kernel
theorem dL_law_554 : decode cL_law 554 = .ok (.pop, 1) := by decide +kernel
theorem dL_law_555 : decode cL_law 555 = .ok (.aload_n 2, 1) := by decide +kernel
theorem dL_law_556 : decode cL_law 556 = .ok (.aload_n 0, 1) := by decide +kernel
theorem dL_law_557 : decode cL_law 557 = .ok (.iload_n 3, 1) := by decide +kernel
theorem dL_law_558 : decode cL_law 558 = .ok (.iconst 1, 1) := by decide +kernel
theorem dL_law_559 : decode cL_law 559 = .ok (.iadd, 1) := by decide +kernel
theorem dL_law_560 : decode cL_law 560 = .ok (.iaload, 1) := by decide +kernel
theorem dL_law_561 : decode cL_law 561 = .ok (.aload_n 0, 1) := by decide +kernel
theorem dL_law_562 : decode cL_law 562 = .ok (.iload_n 3, 1) := by decide +kernel
theorem dL_law_563 : decode cL_law 563 = .ok (.iconst 2, 1) := by decide +kernel
theorem dL_law_564 : decode cL_law 564 = .ok (.iadd, 1) := by decide +kernel
theorem dL_law_565 : decode cL_law 565 = .ok (.iaload, 1) := by decide +kernel
theorem dL_law_566 : decode cL_law 566 = .ok (.aload_n 0, 1) := by decide +kernel
theorem dL_law_567 : decode cL_law 567 = .ok (.iload_n 3, 1) := by decide +kernel
theorem dL_law_568 : decode cL_law 568 = .ok (.iconst 3, 1) := by decide +kernel
theorem dL_law_569 : decode cL_law 569 = .ok (.iadd, 1) := by decide +kernel
theorem dL_law_570 : decode cL_law 570 = .ok (.iaload, 1) := by decide +kernel
theorem dL_law_571 : decode cL_law 571 = .ok (.aload_n 0, 1) := by decide +kernel
theorem dL_law_572 : decode cL_law 572 = .ok (.iload_n 3, 1) := by decide +kernel
theorem dL_law_573 : decode cL_law 573 = .ok (.iconst 4, 1) := by decide +kernel
theorem dL_law_574 : decode cL_law 574 = .ok (.iadd, 1) := by decide +kernel
theorem dL_law_575 : decode cL_law 575 = .ok (.iaload, 1) := by decide +kernel
theorem dL_law_576 : decode cL_law 576 = .ok (.invokevirtual 69, 3) := by decide +kernel
theorem dL_law_579 : decode cL_law 579 = .ok (.pop, 1) := by decide +kernel
theorem dL_law_580 : decode cL_law 580 = .ok (.goto 292, 3) := by decide +kernel
theorem dL_law_583 : decode cL_law 583 = .ok (.aload_n 1, 1) := by decide +kernel
theorem dL_law_584 : decode cL_law 584 = .ok (.aload_n 0, 1) := by decide +kernel
theorem dL_law_585 : decode cL_law 585 = .ok (.iload_n 3, 1) := by decide +kernel
theorem dL_law_586 : decode cL_law 586 = .ok (.iconst 1, 1) := by decide +kernel
theorem dL_law_587 : decode cL_law 587 = .ok (.iadd, 1) := by decide +kernel
theorem dL_law_588 : decode cL_law 588 = .ok (.iaload, 1) := by decide +kernel
theorem dL_law_589 : decode cL_law 589 = .ok (.invokevirtual 70, 3) := by decide +kernel
theorem dL_law_592 : decode cL_law 592 = .ok (.pop, 1) := by decide +kernel
theorem dL_law_593 : decode cL_law 593 = .ok (.aload_n 2, 1) := by decide +kernel
theorem dL_law_594 : decode cL_law 594 = .ok (.aload_n 0, 1) := by decide +kernel
theorem dL_law_595 : decode cL_law 595 = .ok (.iload_n 3, 1) := by decide +kernel
theorem dL_law_596 : decode cL_law 596 = .ok (.iconst 1, 1) := by decide +kernel
theorem dL_law_597 : decode cL_law 597 = .ok (.iadd, 1) := by decide +kernel
theorem dL_law_598 : decode cL_law 598 = .ok (.iaload, 1) := by decide +kernel
theorem dL_law_599 : decode cL_law 599 = .ok (.invokevirtual 73, 3) := by decide +kernel
theorem dL_law_602 : decode cL_law 602 = .ok (.pop, 1) := by decide +kernel
theorem dL_law_603 : decode cL_law 603 = .ok (.goto 269, 3) := by decide +kernel
theorem dL_law_606 : decode cL_law 606 = .ok (.aload_n 1, 1) := by decide +kernel
theorem dL_law_607 : decode cL_law 607 = .ok (.aload_n 0, 1) := by decide +kernel
theorem dL_law_608 : decode cL_law 608 = .ok (.iload_n 3, 1) := by decide +kernel
theorem dL_law_609 : decode cL_law 609 = .ok (.iconst 1, 1) := by decide +kernel
theorem dL_law_610 : decode cL_law 610 = .ok (.iadd, 1) := by decide +kernel
theorem dL_law_611 : decode cL_law 611 = .ok (.iaload, 1) := by decide +kernel
theorem dL_law_612 : decode cL_law 612 = .ok (.invokevirtual 74, 3) := by decide +kernel
theorem dL_law_615 : decode cL_law 615 = .ok (.pop, 1) := by decide +kernel
theorem dL_law_616 : decode cL_law 616 = .ok (.aload_n 2, 1) := by decide +kernel
theorem dL_law_617 : decode cL_law 617 = .ok (.aload_n 0, 1) := by decide +kernel
theorem dL_law_618 : decode cL_law 618 = .ok (.iload_n 3, 1) := by decide +kernel
theorem dL_law_619 : decode cL_law 619 = .ok (.iconst 1, 1) := by decide +kernel
theorem dL_law_620 : decode cL_law 620 = .ok (.iadd, 1) := by decide +kernel
theorem dL_law_621 : decode cL_law 621 = .ok (.iaload, 1) := by decide +kernel
theorem dL_law_622 : decode cL_law 622 = .ok (.invokevirtual 77, 3) := by decide +kernel
theorem dL_law_625 : decode cL_law 625 = .ok (.pop, 1) := by decide +kernel
theorem dL_law_626 : decode cL_law 626 = .ok (.goto 246, 3) := by decide +kernel
theorem dL_law_629 : decode cL_law 629 = .ok (.aload_n 1, 1) := by decide +kernel
theorem dL_law_630 : decode cL_law 630 = .ok (.aload_n 0, 1) := by decide +kernel
theorem dL_law_631 : decode cL_law 631 = .ok (.iload_n 3, 1) := by decide +kernel
theorem dL_law_632 : decode cL_law 632 = .ok (.iconst 1, 1) := by decide +kernel
theorem dL_law_633 : decode cL_law 633 = .ok (.iadd, 1) := by decide +kernel
theorem dL_law_634 : decode cL_law 634 = .ok (.iaload, 1) := by decide +kernel
theorem dL_law_635 : decode cL_law 635 = .ok (.aload_n 0, 1) := by decide +kernel
theorem dL_law_636 : decode cL_law 636 = .ok (.iload_n 3, 1) := by decide +kernel
theorem dL_law_637 : decode cL_law 637 = .ok (.iconst 2, 1) := by decide +kernel
theorem dL_law_638 : decode cL_law 638 = .ok (.iadd, 1) := by decide +kernel
theorem dL_law_639 : decode cL_law 639 = .ok (.iaload, 1) := by decide +kernel
theorem dL_law_640 : decode cL_law 640 = .ok (.invokevirtual 78, 3) := by decide +kernel
theorem dL_law_643 : decode cL_law 643 = .ok (.pop, 1) := by decide +kernel
theorem dL_law_644 : decode cL_law 644 = .ok (.aload_n 2, 1) := by decide +kernel
theorem dL_law_645 : decode cL_law 645 = .ok (.aload_n 0, 1) := by decide +kernel
theorem dL_law_646 : decode cL_law 646 = .ok (.iload_n 3, 1) := by decide +kernel
theorem dL_law_647 : decode cL_law 647 = .ok (.iconst 1, 1) := by decide +kernel
theorem dL_law_648 : decode cL_law 648 = .ok (.iadd, 1) := by decide +kernel
theorem dL_law_649 : decode cL_law 649 = .ok (.iaload, 1) := by decide +kernel
theorem dL_law_650 : decode cL_law 650 = .ok (.aload_n 0, 1) := by decide +kernel
theorem dL_law_651 : decode cL_law 651 = .ok (.iload_n 3, 1) := by decide +kernel
theorem dL_law_652 : decode cL_law 652 = .ok (.iconst 2, 1) := by decide +kernel
theorem dL_law_653 : decode cL_law 653 = .ok (.iadd, 1) := by decide +kernel
theorem dL_law_654 : decode cL_law 654 = .ok (.iaload, 1) := by decide +kernel
theorem dL_law_655 : decode cL_law 655 = .ok (.invokevirtual 81, 3) := by decide +kernel
theorem dL_law_658 : decode cL_law 658 = .ok (.pop, 1) := by decide +kernel
theorem dL_law_659 : decode cL_law 659 = .ok (.goto 213, 3) := by decide +kernel
theorem dL_law_662 : decode cL_law 662 = .ok (.aload_n 1, 1) := by decide +kernel
theorem dL_law_663 : decode cL_law 663 = .ok (.aload_n 0, 1) := by decide +kernel
theorem dL_law_664 : decode cL_law 664 = .ok (.iload_n 3, 1) := by decide +kernel
theorem dL_law_665 : decode cL_law 665 = .ok (.iconst 1, 1) := by decide +kernel
theorem dL_law_666 : decode cL_law 666 = .ok (.iadd, 1) := by decide +kernel
theorem dL_law_667 : decode cL_law 667 = .ok (.iaload, 1) := by decide +kernel
theorem dL_law_668 : decode cL_law 668 = .ok (.aload_n 0, 1) := by decide +kernel
theorem dL_law_669 : decode cL_law 669 = .ok (.iload_n 3, 1) := by decide +kernel
theorem dL_law_670 : decode cL_law 670 = .ok (.iconst 2, 1) := by decide +kernel
theorem dL_law_671 : decode cL_law 671 = .ok (.iadd, 1) := by decide +kernel
theorem dL_law_672 : decode cL_law 672 = .ok (.iaload, 1) := by decide +kernel
theorem dL_law_673 : decode cL_law 673 = .ok (.invokevirtual 82, 3) := by decide +kernel
theorem dL_law_676 : decode cL_law 676 = .ok (.pop, 1) := by decide +kernel
theorem dL_law_677 : decode cL_law 677 = .ok (.aload_n 2, 1) := by decide +kernel
theorem dL_law_678 : decode cL_law 678 = .ok (.aload_n 0, 1) := by decide +kernel
theorem dL_law_679 : decode cL_law 679 = .ok (.iload_n 3, 1) := by decide +kernel
theorem dL_law_680 : decode cL_law 680 = .ok (.iconst 1, 1) := by decide +kernel
theorem dL_law_681 : decode cL_law 681 = .ok (.iadd, 1) := by decide +kernel
theorem dL_law_682 : decode cL_law 682 = .ok (.iaload, 1) := by decide +kernel
theorem dL_law_683 : decode cL_law 683 = .ok (.aload_n 0, 1) := by decide +kernel
theorem dL_law_684 : decode cL_law 684 = .ok (.iload_n 3, 1) := by decide +kernel
theorem dL_law_685 : decode cL_law 685 = .ok (.iconst 2, 1) := by decide +kernel
theorem dL_law_686 : decode cL_law 686 = .ok (.iadd, 1) := by decide +kernel
theorem dL_law_687 : decode cL_law 687 = .ok (.iaload, 1) := by decide +kernel
theorem dL_law_688 : decode cL_law 688 = .ok (.invokevirtual 85, 3) := by decide +kernel
theorem dL_law_691 : decode cL_law 691 = .ok (.pop, 1) := by decide +kernel
theorem dL_law_692 : decode cL_law 692 = .ok (.goto 180, 3) := by decide +kernel
theorem dL_law_695 : decode cL_law 695 = .ok (.aload_n 1, 1) := by decide +kernel
theorem dL_law_696 : decode cL_law 696 = .ok (.aload_n 0, 1) := by decide +kernel
theorem dL_law_697 : decode cL_law 697 = .ok (.iload_n 3, 1) := by decide +kernel
theorem dL_law_698 : decode cL_law 698 = .ok (.iconst 1, 1) := by decide +kernel
theorem dL_law_699 : decode cL_law 699 = .ok (.iadd, 1) := by decide +kernel
theorem dL_law_700 : decode cL_law 700 = .ok (.iaload, 1) := by decide +kernel
theorem dL_law_701 : decode cL_law 701 = .ok (.aload_n 0, 1) := by decide +kernel
theorem dL_law_702 : decode cL_law 702 = .ok (.iload_n 3, 1) := by decide +kernel
theorem dL_law_703 : decode cL_law 703 = .ok (.iconst 2, 1) := by decide +kernel
theorem dL_law_704 : decode cL_law 704 = .ok (.iadd, 1) := by decide +kernel
theorem dL_law_705 : decode cL_law 705 = .ok (.iaload, 1) := by decide +kernel
theorem dL_law_706 : decode cL_law 706 = .ok (.aload_n 0, 1) := by decide +kernel
theorem dL_law_707 : decode cL_law 707 = .ok (.iload_n 3, 1) := by decide +kernel
theorem dL_law_708 : decode cL_law 708 = .ok (.iconst 3, 1) := by decide +kernel
theorem dL_law_709 : decode cL_law 709 = .ok (.iadd, 1) := by decide +kernel
theorem dL_law_710 : decode cL_law 710 = .ok (.iaload, 1) := by decide +kernel
theorem dL_law_711 : decode cL_law 711 = .ok (.ifCond .eq 7, 3) := by decide +kernel
theorem dL_law_714 : decode cL_law 714 = .ok (.iconst 1, 1) := by decide +kernel
theorem dL_law_715 : decode cL_law 715 = .ok (.goto 4, 3) := by decide +kernel
theorem dL_law_718 : decode cL_law 718 = .ok (.iconst 0, 1) := by decide +kernel
theorem dL_law_719 : decode cL_law 719 = .ok (.invokevirtual 86, 3) := by decide +kernel
theorem dL_law_722 : decode cL_law 722 = .ok (.pop, 1) := by decide +kernel
theorem dL_law_723 : decode cL_law 723 = .ok (.aload_n 2, 1) := by decide +kernel
theorem dL_law_724 : decode cL_law 724 = .ok (.aload_n 0, 1) := by decide +kernel
theorem dL_law_725 : decode cL_law 725 = .ok (.iload_n 3, 1) := by decide +kernel
theorem dL_law_726 : decode cL_law 726 = .ok (.iconst 1, 1) := by decide +kernel
theorem dL_law_727 : decode cL_law 727 = .ok (.iadd, 1) := by decide +kernel
theorem dL_law_728 : decode cL_law 728 = .ok (.iaload, 1) := by decide +kernel
theorem dL_law_729 : decode cL_law 729 = .ok (.aload_n 0, 1) := by decide +kernel
theorem dL_law_730 : decode cL_law 730 = .ok (.iload_n 3, 1) := by decide +kernel
theorem dL_law_731 : decode cL_law 731 = .ok (.iconst 2, 1) := by decide +kernel
theorem dL_law_732 : decode cL_law 732 = .ok (.iadd, 1) := by decide +kernel
theorem dL_law_733 : decode cL_law 733 = .ok (.iaload, 1) := by decide +kernel
theorem dL_law_734 : decode cL_law 734 = .ok (.aload_n 0, 1) := by decide +kernel
theorem dL_law_735 : decode cL_law 735 = .ok (.iload_n 3, 1) := by decide +kernel
theorem dL_law_736 : decode cL_law 736 = .ok (.iconst 3, 1) := by decide +kernel
theorem dL_law_737 : decode cL_law 737 = .ok (.iadd, 1) := by decide +kernel
theorem dL_law_738 : decode cL_law 738 = .ok (.iaload, 1) := by decide +kernel
theorem dL_law_739 : decode cL_law 739 = .ok (.ifCond .eq 7, 3) := by decide +kernel
theorem dL_law_742 : decode cL_law 742 = .ok (.iconst 1, 1) := by decide +kernel
theorem dL_law_743 : decode cL_law 743 = .ok (.goto 4, 3) := by decide +kernel
theorem dL_law_746 : decode cL_law 746 = .ok (.iconst 0, 1) := by decide +kernel
theorem dL_law_747 : decode cL_law 747 = .ok (.invokevirtual 90, 3) := by decide +kernel
theorem dL_law_750 : decode cL_law 750 = .ok (.pop, 1) := by decide +kernel
theorem dL_law_751 : decode cL_law 751 = .ok (.goto 121, 3) := by decide +kernel
theorem dL_law_754 : decode cL_law 754 = .ok (.aload_n 1, 1) := by decide +kernel
theorem dL_law_755 : decode cL_law 755 = .ok (.invokevirtual 91, 3) := by decide +kernel
theorem dL_law_758 : decode cL_law 758 = .ok (.pop, 1) := by decide +kernel
theorem dL_law_759 : decode cL_law 759 = .ok (.aload_n 2, 1) := by decide +kernel
theorem dL_law_760 : decode cL_law 760 = .ok (.invokevirtual 94, 3) := by decide +kernel
theorem dL_law_763 : decode cL_law 763 = .ok (.pop, 1) := by decide +kernel
theorem dL_law_764 : decode cL_law 764 = .ok (.goto 108, 3) := by decide +kernel
theorem dL_law_767 : decode cL_law 767 = .ok (.aload_n 1, 1) := by decide +kernel
theorem dL_law_768 : decode cL_law 768 = .ok (.aload_n 0, 1) := by decide +kernel
theorem dL_law_769 : decode cL_law 769 = .ok (.iload_n 3, 1) := by decide +kernel
theorem dL_law_770 : decode cL_law 770 = .ok (.iconst 1, 1) := by decide +kernel
theorem dL_law_771 : decode cL_law 771 = .ok (.iadd, 1) := by decide +kernel
theorem dL_law_772 : decode cL_law 772 = .ok (.iaload, 1) := by decide +kernel
theorem dL_law_773 : decode cL_law 773 = .ok (.aload_n 0, 1) := by decide +kernel
theorem dL_law_774 : decode cL_law 774 = .ok (.iload_n 3, 1) := by decide +kernel
theorem dL_law_775 : decode cL_law 775 = .ok (.iconst 2, 1) := by decide +kernel
theorem dL_law_776 : decode cL_law 776 = .ok (.iadd, 1) := by decide +kernel
theorem dL_law_777 : decode cL_law 777 = .ok (.iaload, 1) := by decide +kernel
theorem dL_law_778 : decode cL_law 778 = .ok (.aload_n 0, 1) := by decide +kernel
theorem dL_law_779 : decode cL_law 779 = .ok (.iload_n 3, 1) := by decide +kernel
theorem dL_law_780 : decode cL_law 780 = .ok (.iconst 3, 1) := by decide +kernel
theorem dL_law_781 : decode cL_law 781 = .ok (.iadd, 1) := by decide +kernel
theorem dL_law_782 : decode cL_law 782 = .ok (.iaload, 1) := by decide +kernel
theorem dL_law_783 : decode cL_law 783 = .ok (.invokevirtual 95, 3) := by decide +kernel
theorem dL_law_786 : decode cL_law 786 = .ok (.pop, 1) := by decide +kernel
theorem dL_law_787 : decode cL_law 787 = .ok (.aload_n 2, 1) := by decide +kernel
theorem dL_law_788 : decode cL_law 788 = .ok (.aload_n 0, 1) := by decide +kernel
theorem dL_law_789 : decode cL_law 789 = .ok (.iload_n 3, 1) := by decide +kernel
theorem dL_law_790 : decode cL_law 790 = .ok (.iconst 1, 1) := by decide +kernel
theorem dL_law_791 : decode cL_law 791 = .ok (.iadd, 1) := by decide +kernel
theorem dL_law_792 : decode cL_law 792 = .ok (.iaload, 1) := by decide +kernel
theorem dL_law_793 : decode cL_law 793 = .ok (.aload_n 0, 1) := by decide +kernel
theorem dL_law_794 : decode cL_law 794 = .ok (.iload_n 3, 1) := by decide +kernel
theorem dL_law_795 : decode cL_law 795 = .ok (.iconst 2, 1) := by decide +kernel
theorem dL_law_796 : decode cL_law 796 = .ok (.iadd, 1) := by decide +kernel
theorem dL_law_797 : decode cL_law 797 = .ok (.iaload, 1) := by decide +kernel
theorem dL_law_798 : decode cL_law 798 = .ok (.aload_n 0, 1) := by decide +kernel
theorem dL_law_799 : decode cL_law 799 = .ok (.iload_n 3, 1) := by decide +kernel
theorem dL_law_800 : decode cL_law 800 = .ok (.iconst 3, 1) := by decide +kernel
theorem dL_law_801 : decode cL_law 801 = .ok (.iadd, 1) := by decide +kernel
theorem dL_law_802 : decode cL_law 802 = .ok (.iaload, 1) := by decide +kernel
theorem dL_law_803 : decode cL_law 803 = .ok (.invokevirtual 98, 3) := by decide +kernel
theorem dL_law_806 : decode cL_law 806 = .ok (.pop, 1) := by decide +kernel
theorem dL_law_807 : decode cL_law 807 = .ok (.goto 65, 3) := by decide +kernel
theorem dL_law_810 : decode cL_law 810 = .ok (.aload_n 1, 1) := by decide +kernel
theorem dL_law_811 : decode cL_law 811 = .ok (.invokevirtual 99, 3) := by decide +kernel
theorem dL_law_814 : decode cL_law 814 = .ok (.pop, 1) := by decide +kernel
theorem dL_law_815 : decode cL_law 815 = .ok (.aload_n 2, 1) := by decide +kernel
theorem dL_law_816 : decode cL_law 816 = .ok (.invokevirtual 102, 3) := by decide +kernel
theorem dL_law_819 : decode cL_law 819 = .ok (.pop, 1) := by decide +kernel
theorem dL_law_820 : decode cL_law 820 = .ok (.goto 52, 3) := by decide +kernel
theorem dL_law_823 : decode cL_law 823 = .ok (.aload_n 1, 1) := by decide +kernel
theorem dL_law_824 : decode cL_law 824 = .ok (.invokevirtual 103, 3) := by decide +kernel
theorem dL_law_827 : decode cL_law 827 = .ok (.aload_n 2, 1) := by decide +kernel
theorem dL_law_828 : decode cL_law 828 = .ok (.invokevirtual 106, 3) := by decide +kernel
theorem dL_law_831 : decode cL_law 831 = .ok (.if_icmp .eq 41, 3) := by decide +kernel
theorem dL_law_834 : decode cL_law 834 = .ok (.iconst 0, 1) := by decide +kernel
theorem dL_law_835 : decode cL_law 835 = .ok (.ireturn, 1) := by decide +kernel
theorem dL_law_836 : decode cL_law 836 = .ok (.aload_n 1, 1) := by decide +kernel
theorem dL_law_837 : decode cL_law 837 = .ok (.aload_n 0, 1) := by decide +kernel
theorem dL_law_838 : decode cL_law 838 = .ok (.iload_n 3, 1) := by decide +kernel
theorem dL_law_839 : decode cL_law 839 = .ok (.iconst 1, 1) := by decide +kernel
theorem dL_law_840 : decode cL_law 840 = .ok (.iadd, 1) := by decide +kernel
theorem dL_law_841 : decode cL_law 841 = .ok (.iaload, 1) := by decide +kernel
theorem dL_law_842 : decode cL_law 842 = .ok (.invokevirtual 107, 3) := by decide +kernel
theorem dL_law_845 : decode cL_law 845 = .ok (.pop, 1) := by decide +kernel
theorem dL_law_846 : decode cL_law 846 = .ok (.aload_n 2, 1) := by decide +kernel
theorem dL_law_847 : decode cL_law 847 = .ok (.aload_n 0, 1) := by decide +kernel
theorem dL_law_848 : decode cL_law 848 = .ok (.iload_n 3, 1) := by decide +kernel
theorem dL_law_849 : decode cL_law 849 = .ok (.iconst 1, 1) := by decide +kernel
theorem dL_law_850 : decode cL_law 850 = .ok (.iadd, 1) := by decide +kernel
theorem dL_law_851 : decode cL_law 851 = .ok (.iaload, 1) := by decide +kernel
theorem dL_law_852 : decode cL_law 852 = .ok (.invokevirtual 110, 3) := by decide +kernel
theorem dL_law_855 : decode cL_law 855 = .ok (.pop, 1) := by decide +kernel
theorem dL_law_856 : decode cL_law 856 = .ok (.goto 16, 3) := by decide +kernel
theorem dL_law_859 : decode cL_law 859 = .ok (.aload_n 1, 1) := by decide +kernel
theorem dL_law_860 : decode cL_law 860 = .ok (.invokevirtual 111, 3) := by decide +kernel
theorem dL_law_863 : decode cL_law 863 = .ok (.pop2, 1) := by decide +kernel
theorem dL_law_864 : decode cL_law 864 = .ok (.aload_n 2, 1) := by decide +kernel
theorem dL_law_865 : decode cL_law 865 = .ok (.invokevirtual 115, 3) := by decide +kernel
theorem dL_law_868 : decode cL_law 868 = .ok (.pop2, 1) := by decide +kernel
theorem dL_law_869 : decode cL_law 869 = .ok (.goto 3, 3) := by decide +kernel
theorem dL_law_872 : decode cL_law 872 = .ok (.iinc 3 5, 3) := by decide +kernel
theorem dL_law_875 : decode cL_law 875 = .ok (.goto (-857), 3) := by decide +kernel
theorem dL_law_878 : decode cL_law 878 = .ok (.iconst 1, 1) := by decide +kernel
theorem dL_law_879 : decode cL_law 879 = .ok (.ireturn, 1) := by decide +kernel

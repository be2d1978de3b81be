theorem dX5_become_1 : decode cX5_become 1 = .ok (.aload_n 1, 1) := by decide +kernel
theorem dX5_become_2 : decode cX5_become 2 = .ok (.getfield 21, 3) := by decide +kernel
theorem dX5_become_5 : decode cX5_become 5 = .ok (.putfield 21, 3) := by decide +kernel
theorem dX5_become_8 : decode cX5_become 8 = .ok (.aload_n 0, 1) := by decide +kernel
theorem dX5_become_9 : decode cX5_become 9 = .ok (.aload_n 1, 1) := by decide +kernel
theorem dX5_become_10 : decode cX5_become 10 = .ok (.getfield 25, 3) := by decide +kernel
theorem dX5_become_13 : decode cX5_become 13 = .ok (.putfield 25, 3) := by decide +kernel
theorem dX5_become_16 : decode cX5_become 16 = .ok (.aload_n 1, 1) := by decide +kernel
theorem dX5_become_17 : decode cX5_become 17 = .ok (.getfield 9, 3) := by decide +kernel
theorem dX5_become_20 : decode cX5_become 20 = .ok (.iconst 0, 1) := by decide +kernel
theorem dX5_become_21 : decode cX5_become 21 = .ok (.aload_n 0, 1) := by decide +kernel
theorem dX5_become_22 : decode cX5_become 22 = .ok (.getfield 9, 3) := by decide +kernel
theorem dX5_become_25 : decode cX5_become 25 = .ok (.iconst 0, 1) := by decide +kernel
theorem dX5_become_26 : decode cX5_become 26 = .ok (.bipush 6, 2) := by decide +kernel
theorem dX5_become_28 : decode cX5_become 28 = .ok (.invokestatic 28, 3) := by decide +kernel
theorem dX5_become_31 : decode cX5_become 31 = .ok (.aload_n 1, 1) := by decide +kernel
theorem dX5_become_32 : decode cX5_become 32 = .ok (.getfield 15, 3) := by decide +kernel
theorem dX5_become_35 : decode cX5_become 35 = .ok (.iconst 0, 1) := by decide +kernel
theorem dX5_become_36 : decode cX5_become 36 = .ok (.aload_n 0, 1) := by decide +kernel
theorem dX5_become_37 : decode cX5_become 37 = .ok (.getfield 15, 3) := by decide +kernel
theorem dX5_become_40 : decode cX5_become 40 = .ok (.iconst 0, 1) := by decide +kernel
theorem dX5_become_41 : decode cX5_become 41 = .ok (.bipush 6, 2) := by decide +kernel
theorem dX5_become_43 : decode cX5_become 43 = .ok (.invokestatic 28, 3) := by decide +kernel
theorem dX5_become_46 : decode cX5_become 46 = .ok (.aload_n 1, 1) := by decide +kernel
theorem dX5_become_47 : decode cX5_become 47 = .ok (.getfield 18, 3) := by decide +kernel
theorem dX5_become_50 : decode cX5_become 50 = .ok (.iconst 0, 1) := by decide +kernel
theorem dX5_become_51 : decode cX5_become 51 = .ok (.aload_n 0, 1) := by decide +kernel
theorem dX5_become_52 : decode cX5_become 52 = .ok (.getfield 18, 3) := by decide +kernel
theorem dX5_become_55 : decode cX5_become 55 = .ok (.iconst 0, 1) := by decide +kernel
theorem dX5_become_56 : decode cX5_become 56 = .ok (.bipush 96, 2) := by decide +kernel
theorem dX5_become_58 : decode cX5_become 58 = .ok (.invokestatic 28, 3) := by decide +kernel
theorem dX5_become_61 : decode cX5_become 61 = .ok (.return_, 1) := by decide +kernel
set_option maxRecDepth 20000 in
theorem ggX5_putOver_X8_wordAt : GoodIn wsX5_putOver wsX8_wordAt := goodIn_r _ [10] (by decide +kernel) (by decide +kernel)
set_option maxRecDepth 20000 in
theorem gX5_putOver_X8_wordAt_n34 : GoodIn wsX5_putOver (wsX8_wordAt) := ggX5_putOver_X8_wordAt
theorem dX5_putOver_0 : decode cX5_putOver 0 = .ok (.aload_n 0, 1) := by decide +kernel
theorem dX5_putOver_1 : decode cX5_putOver 1 = .ok (.getfield 9, 3) := by decide +kernel
theorem dX5_putOver_4 : decode cX5_putOver 4 = .ok (.iload_n 2, 1) := by decide +kernel
theorem dX5_putOver_5 : decode cX5_putOver 5 = .ok (.aload_n 0, 1) := by decide +kernel
theorem dX5_putOver_6 : decode cX5_putOver 6 = .ok (.getfield 9, 3) := by decide +kernel
theorem dX5_putOver_9 : decode cX5_putOver 9 = .ok (.iload_n 1, 1) := by decide +kernel
theorem dX5_putOver_10 : decode cX5_putOver 10 = .ok (.iaload, 1) := by decide +kernel
theorem dX5_putOver_11 : decode cX5_putOver 11 = .ok (.iastore, 1) := by decide +kernel
theorem dX5_putOver_12 : decode cX5_putOver 12 = .ok (.aload_n 0, 1) := by decide +kernel
theorem dX5_putOver_13 : decode cX5_putOver 13 = .ok (.getfield 15, 3) := by decide +kernel
theorem dX5_putOver_16 : decode cX5_putOver 16 = .ok (.iload_n 2, 1) := by decide +kernel
theorem dX5_putOver_17 : decode cX5_putOver 17 = .ok (.aload_n 0, 1) := by decide +kernel
theorem dX5_putOver_18 : decode cX5_putOver 18 = .ok (.getfield 15, 3) := by decide +kernel
theorem dX5_putOver_21 : decode cX5_putOver 21 = .ok (.iload_n 1, 1) := by decide +kernel
theorem dX5_putOver_22 : decode cX5_putOver 22 = .ok (.iaload, 1) := by decide +kernel
theorem dX5_putOver_23 : decode cX5_putOver 23 = .ok (.iastore, 1) := by decide +kernel
theorem dX5_putOver_24 : decode cX5_putOver 24 = .ok (.aload_n 0, 1) := by decide +kernel
theorem dX5_putOver_25 : decode cX5_putOver 25 = .ok (.getfield 18, 3) := by decide +kernel
theorem dX5_putOver_28 : decode cX5_putOver 28 = .ok (.iload_n 1, 1) := by decide +kernel
theorem dX5_putOver_29 : decode cX5_putOver 29 = .ok (.iconst 0, 1) := by decide +kernel
theorem dX5_putOver_30 : decode cX5_putOver 30 = .ok (.invokestatic 34, 3) := by decide +kernel
theorem dX5_putOver_33 : decode cX5_putOver 33 = .ok (.aload_n 0, 1) := by decide +kernel
theorem dX5_putOver_34 : decode cX5_putOver 34 = .ok (.getfield 18, 3) := by decide +kernel
theorem dX5_putOver_37 : decode cX5_putOver 37 = .ok (.iload_n 2, 1) := by decide +kernel
theorem dX5_putOver_38 : decode cX5_putOver 38 = .ok (.iconst 0, 1) := by decide +kernel
theorem dX5_putOver_39 : decode cX5_putOver 39 = .ok (.invokestatic 34, 3) := by decide +kernel
theorem dX5_putOver_42 : decode cX5_putOver 42 = .ok (.bipush 16, 2) := by decide +kernel
theorem dX5_putOver_44 : decode cX5_putOver 44 = .ok (.invokestatic 28, 3) := by decide +kernel
theorem dX5_putOver_47 : decode cX5_putOver 47 = .ok (.return_, 1) := by decide +kernel
set_option maxRecDepth 20000 in
theorem ggX5_remove_X5_putOver : GoodIn wsX5_remove wsX5_putOver := goodIn_r _ [6, 7, 8, 9, 10, 11, 12, 13, 14, 15, 16, 17, 18, 19, 20, 21] (by decide +kernel) (by decide +kernel)
set_option maxRecDepth 20000 in
theorem gX5_remove_X5_putOver : GoodIn wsX5_remove (wsV RX5 38 RX5 yX5_putOver wsX5_putOver) := goodIn_app (goodIn_of _ (by decide +kernel)) ggX5_remove_X5_putOver
theorem dX5_remove_0 : decode cX5_remove 0 = .ok (.iload_n 1, 1) := by decide +kernel
theorem dX5_remove_1 : decode cX5_remove 1 = .ok (.iconst 1, 1) := by decide +kernel
theorem dX5_remove_2 : decode cX5_remove 2 = .ok (.iadd, 1) := by decide +kernel
theorem dX5_remove_3 : decode cX5_remove 3 = .ok (.istore_n 2, 1) := by decide +kernel
theorem dX5_remove_4 : decode cX5_remove 4 = .ok (.iload_n 2, 1) := by decide +kernel
theorem dX5_remove_5 : decode cX5_remove 5 = .ok (.aload_n 0, 1) := by decide +kernel
theorem dX5_remove_6 : decode cX5_remove 6 = .ok (.getfield 21, 3) := by decide +kernel
theorem dX5_remove_9 : decode cX5_remove 9 = .ok (.if_icmp .ge 17, 3) := by decide +kernel
theorem dX5_remove_12 : decode cX5_remove 12 = .ok (.aload_n 0, 1) := by decide +kernel
theorem dX5_remove_13 : decode cX5_remove 13 = .ok (.iload_n 2, 1) := by decide +kernel
theorem dX5_remove_14 : decode cX5_remove 14 = .ok (.iload_n 2, 1) := by decide +kernel
theorem dX5_remove_15 : decode cX5_remove 15 = .ok (.iconst 1, 1) := by decide +kernel
theorem dX5_remove_16 : decode cX5_remove 16 = .ok (.isub, 1) := by decide +kernel
theorem dX5_remove_17 : decode cX5_remove 17 = .ok (.invokevirtual 38, 3) := by decide +kernel
theorem dX5_remove_20 : decode cX5_remove 20 = .ok (.iinc 2 1, 3) := by decide +kernel
theorem dX5_remove_23 : decode cX5_remove 23 = .ok (.goto (-19), 3) := by decide +kernel
theorem dX5_remove_26 : decode cX5_remove 26 = .ok (.aload_n 0, 1) := by decide +kernel
theorem dX5_remove_27 : decode cX5_remove 27 = .ok (.dup, 1) := by decide +kernel
theorem dX5_remove_28 : decode cX5_remove 28 = .ok (.getfield 21, 3) := by decide +kernel
theorem dX5_remove_31 : decode cX5_remove 31 = .ok (.iconst 1, 1) := by decide +kernel
theorem dX5_remove_32 : decode cX5_remove 32 = .ok (.isub, 1) := by decide +kernel
theorem dX5_remove_33 : decode cX5_remove 33 = .ok (.putfield 21, 3) := by decide +kernel
theorem dX5_remove_36 : decode cX5_remove 36 = .ok (.return_, 1) := by decide +kernel
set_option maxRecDepth 20000 in
theorem ggX5_exchange_X8_wordAt : GoodIn wsX5_exchange wsX8_wordAt := goodIn_r _ [6] (by decide +kernel) (by decide +kernel)
set_option maxRecDepth 20000 in
theorem gX5_exchange_X8_wordAt_n34 : GoodIn wsX5_exchange (wsX8_wordAt) := ggX5_exchange_X8_wordAt
theorem dX5_exchange_0 : decode cX5_exchange 0 = .ok (.iconst 0, 1) := by decide +kernel
theorem dX5_exchange_1 : decode cX5_exchange 1 = .ok (.istore_n 3, 1) := by decide +kernel
theorem dX5_exchange_2 : decode cX5_exchange 2 = .ok (.iload_n 3, 1) := by decide +kernel
theorem dX5_exchange_3 : decode cX5_exchange 3 = .ok (.aload_n 0, 1) := by decide +kernel
theorem dX5_exchange_4 : decode cX5_exchange 4 = .ok (.getfield 21, 3) := by decide +kernel
theorem dX5_exchange_7 : decode cX5_exchange 7 = .ok (.if_icmp .ge 81, 3) := by decide +kernel
theorem dX5_exchange_10 : decode cX5_exchange 10 = .ok (.iconst 0, 1) := by decide +kernel
theorem dX5_exchange_11 : decode cX5_exchange 11 = .ok (.istore 4, 2) := by decide +kernel
theorem dX5_exchange_13 : decode cX5_exchange 13 = .ok (.iload 4, 2) := by decide +kernel
theorem dX5_exchange_15 : decode cX5_exchange 15 = .ok (.aload_n 0, 1) := by decide +kernel
theorem dX5_exchange_16 : decode cX5_exchange 16 = .ok (.getfield 15, 3) := by decide +kernel
theorem dX5_exchange_19 : decode cX5_exchange 19 = .ok (.iload_n 3, 1) := by decide +kernel
theorem dX5_exchange_20 : decode cX5_exchange 20 = .ok (.iaload, 1) := by decide +kernel
theorem dX5_exchange_21 : decode cX5_exchange 21 = .ok (.if_icmp .ge 61, 3) := by decide +kernel
theorem dX5_exchange_24 : decode cX5_exchange 24 = .ok (.iload_n 3, 1) := by decide +kernel
theorem dX5_exchange_25 : decode cX5_exchange 25 = .ok (.iload_n 1, 1) := by decide +kernel
theorem dX5_exchange_26 : decode cX5_exchange 26 = .ok (.invokestatic 34, 3) := by decide +kernel
theorem dX5_exchange_29 : decode cX5_exchange 29 = .ok (.iload 4, 2) := by decide +kernel
theorem dX5_exchange_31 : decode cX5_exchange 31 = .ok (.iadd, 1) := by decide +kernel
theorem dX5_exchange_32 : decode cX5_exchange 32 = .ok (.istore 5, 2) := by decide +kernel
theorem dX5_exchange_34 : decode cX5_exchange 34 = .ok (.iload_n 3, 1) := by decide +kernel
theorem dX5_exchange_35 : decode cX5_exchange 35 = .ok (.iload_n 2, 1) := by decide +kernel
theorem dX5_exchange_36 : decode cX5_exchange 36 = .ok (.invokestatic 34, 3) := by decide +kernel
theorem dX5_exchange_39 : decode cX5_exchange 39 = .ok (.iload 4, 2) := by decide +kernel
theorem dX5_exchange_41 : decode cX5_exchange 41 = .ok (.iadd, 1) := by decide +kernel
theorem dX5_exchange_42 : decode cX5_exchange 42 = .ok (.istore 6, 2) := by decide +kernel
theorem dX5_exchange_44 : decode cX5_exchange 44 = .ok (.aload_n 0, 1) := by decide +kernel
theorem dX5_exchange_45 : decode cX5_exchange 45 = .ok (.getfield 18, 3) := by decide +kernel
theorem dX5_exchange_48 : decode cX5_exchange 48 = .ok (.iload 5, 2) := by decide +kernel
theorem dX5_exchange_50 : decode cX5_exchange 50 = .ok (.iaload, 1) := by decide +kernel
theorem dX5_exchange_51 : decode cX5_exchange 51 = .ok (.istore 7, 2) := by decide +kernel
theorem dX5_exchange_53 : decode cX5_exchange 53 = .ok (.aload_n 0, 1) := by decide +kernel
theorem dX5_exchange_54 : decode cX5_exchange 54 = .ok (.getfield 18, 3) := by decide +kernel
theorem dX5_exchange_57 : decode cX5_exchange 57 = .ok (.iload 5, 2) := by decide +kernel
theorem dX5_exchange_59 : decode cX5_exchange 59 = .ok (.aload_n 0, 1) := by decide +kernel
theorem dX5_exchange_60 : decode cX5_exchange 60 = .ok (.getfield 18, 3) := by decide +kernel
theorem dX5_exchange_63 : decode cX5_exchange 63 = .ok (.iload 6, 2) := by decide +kernel
theorem dX5_exchange_65 : decode cX5_exchange 65 = .ok (.iaload, 1) := by decide +kernel
theorem dX5_exchange_66 : decode cX5_exchange 66 = .ok (.iastore, 1) := by decide +kernel
theorem dX5_exchange_67 : decode cX5_exchange 67 = .ok (.aload_n 0, 1) := by decide +kernel
theorem dX5_exchange_68 : decode cX5_exchange 68 = .ok (.getfield 18, 3) := by decide +kernel
theorem dX5_exchange_71 : decode cX5_exchange 71 = .ok (.iload 6, 2) := by decide +kernel
theorem dX5_exchange_73 : decode cX5_exchange 73 = .ok (.iload 7, 2) := by decide +kernel
theorem dX5_exchange_75 : decode cX5_exchange 75 = .ok (.iastore, 1) := by decide +kernel
theorem dX5_exchange_76 : decode cX5_exchange 76 = .ok (.iinc 4 1, 3) := by decide +kernel
theorem dX5_exchange_79 : decode cX5_exchange 79 = .ok (.goto (-66), 3) := by decide +kernel
theorem dX5_exchange_82 : decode cX5_exchange 82 = .ok (.iinc 3 1, 3) := by decide +kernel
theorem dX5_exchange_85 : decode cX5_exchange 85 = .ok (.goto (-83), 3) := by decide +kernel
theorem dX5_exchange_88 : decode cX5_exchange 88 = .ok (.return_, 1) := by decide +kernel
set_option maxRecDepth 20000 in
theorem ggX5_isSilentBut_X8_wordAt : GoodIn wsX5_isSilentBut wsX8_wordAt := goodIn_r _ [5] (by decide +kernel) (by decide +kernel)
set_option maxRecDepth 20000 in
theorem gX5_isSilentBut_X8_wordAt_n34 : GoodIn wsX5_isSilentBut (wsX8_wordAt) := ggX5_isSilentBut_X8_wordAt
theorem dX5_isSilentBut_0 : decode cX5_isSilentBut 0 = .ok (.iconst 0, 1) := by decide +kernel
theorem dX5_isSilentBut_1 : decode cX5_isSilentBut 1 = .ok (.istore 4, 2) := by decide +kernel
theorem dX5_isSilentBut_3 : decode cX5_isSilentBut 3 = .ok (.iload 4, 2) := by decide +kernel
theorem dX5_isSilentBut_5 : decode cX5_isSilentBut 5 = .ok (.aload_n 0, 1) := by decide +kernel
theorem dX5_isSilentBut_6 : decode cX5_isSilentBut 6 = .ok (.getfield 15, 3) := by decide +kernel
theorem dX5_isSilentBut_9 : decode cX5_isSilentBut 9 = .ok (.iload_n 1, 1) := by decide +kernel
theorem dX5_isSilentBut_10 : decode cX5_isSilentBut 10 = .ok (.iaload, 1) := by decide +kernel
theorem dX5_isSilentBut_11 : decode cX5_isSilentBut 11 = .ok (.if_icmp .ge 33, 3) := by decide +kernel
theorem dX5_isSilentBut_14 : decode cX5_isSilentBut 14 = .ok (.iload 4, 2) := by decide +kernel
theorem dX5_isSilentBut_16 : decode cX5_isSilentBut 16 = .ok (.iload_n 3, 1) := by decide +kernel
theorem dX5_isSilentBut_17 : decode cX5_isSilentBut 17 = .ok (.if_icmp .eq 21, 3) := by decide +kernel
theorem dX5_isSilentBut_20 : decode cX5_isSilentBut 20 = .ok (.aload_n 0, 1) := by decide +kernel
theorem dX5_isSilentBut_21 : decode cX5_isSilentBut 21 = .ok (.getfield 18, 3) := by decide +kernel
theorem dX5_isSilentBut_24 : decode cX5_isSilentBut 24 = .ok (.iload_n 1, 1) := by decide +kernel
theorem dX5_isSilentBut_25 : decode cX5_isSilentBut 25 = .ok (.iload_n 2, 1) := by decide +kernel
theorem dX5_isSilentBut_26 : decode cX5_isSilentBut 26 = .ok (.invokestatic 34, 3) := by decide +kernel
theorem dX5_isSilentBut_29 : decode cX5_isSilentBut 29 = .ok (.iload 4, 2) := by decide +kernel
theorem dX5_isSilentBut_31 : decode cX5_isSilentBut 31 = .ok (.iadd, 1) := by decide +kernel
theorem dX5_isSilentBut_32 : decode cX5_isSilentBut 32 = .ok (.iaload, 1) := by decide +kernel
theorem dX5_isSilentBut_33 : decode cX5_isSilentBut 33 = .ok (.ifCond .eq 5, 3) := by decide +kernel
theorem dX5_isSilentBut_36 : decode cX5_isSilentBut 36 = .ok (.iconst 0, 1) := by decide +kernel
theorem dX5_isSilentBut_37 : decode cX5_isSilentBut 37 = .ok (.ireturn, 1) := by decide +kernel
theorem dX5_isSilentBut_38 : decode cX5_isSilentBut 38 = .ok (.iinc 4 1, 3) := by decide +kernel
theorem dX5_isSilentBut_41 : decode cX5_isSilentBut 41 = .ok (.goto (-38), 3) := by decide +kernel
theorem dX5_isSilentBut_44 : decode cX5_isSilentBut 44 = .ok (.iconst 1, 1) := by decide +kernel
theorem dX5_isSilentBut_45 : decode cX5_isSilentBut 45 = .ok (.ireturn, 1) := by decide +kernel
set_option maxRecDepth 20000 in
theorem ggX6_init_X2_init : GoodIn wsX6_init wsX2_init := goodIn_r _ [17, 18, 2, 3, 4, 19, 20, 21, 22, 34, 35, 36, 37, 38, 39] (by decide +kernel) (by decide +kernel)
set_option maxRecDepth 20000 in
theorem gX6_init_X2_init_n23 : GoodIn wsX6_init (wsX2_init) := ggX6_init_X2_init
set_option maxRecDepth 20000 in
theorem ggX6_init_X7_init : GoodIn wsX6_init wsX7_init := goodIn_r _ [24, 25, 2, 3, 4, 26, 27, 40, 41, 42] (by decide +kernel) (by decide +kernel)
set_option maxRecDepth 20000 in
theorem gX6_init_X7_init_n30 : GoodIn wsX6_init (wsX7_init) := ggX6_init_X7_init
theorem dX6_init_0 : decode cX6_init 0 = .ok (.aload_n 0, 1) := by decide +kernel
theorem dX6_init_1 : decode cX6_init 1 = .ok (.invokespecial 3, 3) := by decide +kernel
theorem dX6_init_4 : decode cX6_init 4 = .ok (.aload_n 0, 1) := by decide +kernel
theorem dX6_init_5 : decode cX6_init 5 = .ok (.sipush 168, 3) := by decide +kernel
theorem dX6_init_8 : decode cX6_init 8 = .ok (.newarray .int, 2) := by decide +kernel
theorem dX6_init_10 : decode cX6_init 10 = .ok (.putfield 9, 3) := by decide +kernel
theorem dX6_init_13 : decode cX6_init 13 = .ok (.aload_n 0, 1) := by decide +kernel
theorem dX6_init_14 : decode cX6_init 14 = .ok (.bipush 6, 2) := by decide +kernel
theorem dX6_init_16 : decode cX6_init 16 = .ok (.newarray .int, 2) := by decide +kernel
theorem dX6_init_18 : decode cX6_init 18 = .ok (.putfield 15, 3) := by decide +kernel
theorem dX6_init_21 : decode cX6_init 21 = .ok (.aload_n 0, 1) := by decide +kernel
theorem dX6_init_22 : decode cX6_init 22 = .ok (.bipush 24, 2) := by decide +kernel
theorem dX6_init_24 : decode cX6_init 24 = .ok (.newarray .int, 2) := by decide +kernel
theorem dX6_init_26 : decode cX6_init 26 = .ok (.putfield 18, 3) := by decide +kernel
theorem dX6_init_29 : decode cX6_init 29 = .ok (.aload_n 0, 1) := by decide +kernel
theorem dX6_init_30 : decode cX6_init 30 = .ok (.new 21, 3) := by decide +kernel
theorem dX6_init_33 : decode cX6_init 33 = .ok (.dup, 1) := by decide +kernel
theorem dX6_init_34 : decode cX6_init 34 = .ok (.invokespecial 23, 3) := by decide +kernel
theorem dX6_init_37 : decode cX6_init 37 = .ok (.putfield 24, 3) := by decide +kernel
theorem dX6_init_40 : decode cX6_init 40 = .ok (.aload_n 0, 1) := by decide +kernel
theorem dX6_init_41 : decode cX6_init 41 = .ok (.new 28, 3) := by decide +kernel
theorem dX6_init_44 : decode cX6_init 44 = .ok (.dup, 1) := by decide +kernel
theorem dX6_init_45 : decode cX6_init 45 = .ok (.invokespecial 30, 3) := by decide +kernel
theorem dX6_init_48 : decode cX6_init 48 = .ok (.putfield 31, 3) := by decide +kernel
theorem dX6_init_51 : decode cX6_init 51 = .ok (.return_, 1) := by decide +kernel
set_option maxRecDepth 20000 in
theorem ggX6_renew_X7_plant : GoodIn wsX6_renew wsX7_plant := goodIn_r _ [10, 11, 119, 120, 121] (by decide +kernel) (by decide +kernel)
set_option maxRecDepth 20000 in
theorem gX6_renew_X7_plant : GoodIn wsX6_renew (wsV RX6 41 RX7 yX7_plant wsX7_plant) := goodIn_app (goodIn_of _ (by decide +kernel)) ggX6_renew_X7_plant
set_option maxRecDepth 20000 in
theorem ggX6_renew_X6_rebuild : GoodIn wsX6_renew wsX6_rebuild := goodIn_r _ [16, 17, 18, 19, 2, 1, 20, 21, 22, 23, 24, 25, 26, 3, 27, 28, 29, 30, 31, 32, 9, 33, 11, 34, 35, 36, 37, 38, 39, 40, 41, 42, 43, 44, 45, 46, 47, 48, 49, 50, 51, 52, 53, 54, 55, 56, 57, 58, 59, 60, 61, 62, 108, 109, 110, 111, 112, 113, 114, 115, 116, 117, 118, 119, 120, 121] (by decide +kernel) (by decide +kernel)
set_option maxRecDepth 20000 in
theorem gX6_renew_X6_rebuild : GoodIn wsX6_renew (wsV RX6 51 RX6 yX6_rebuild wsX6_rebuild) := goodIn_app (goodIn_of _ (by decide +kernel)) ggX6_renew_X6_rebuild
set_option maxRecDepth 20000 in
theorem ggX6_renew_X2_clear : GoodIn wsX6_renew wsX2_clear := goodIn_r _ [67, 68, 69, 70, 71, 72, 122, 123, 124, 125, 126, 127] (by decide +kernel) (by decide +kernel)
set_option maxRecDepth 20000 in
theorem gX6_renew_X2_clear : GoodIn wsX6_renew (wsV RX6 55 RX2 yX2_clear wsX2_clear) := goodIn_app (goodIn_of _ (by decide +kernel)) ggX6_renew_X2_clear
set_option maxRecDepth 20000 in
theorem ggX6_renew_X6_weigh : GoodIn wsX6_renew wsX6_weigh := goodIn_r _ [76, 18, 19, 2, 21, 5, 77, 78, 79, 15, 80, 22, 61, 28, 62, 36, 37, 27, 29, 81, 82, 83, 84, 85, 86, 87, 66, 88, 68, 114, 115, 116, 117, 118, 108, 109, 110, 111, 112, 113, 122, 123, 124, 125, 126, 127] (by decide +kernel) (by decide +kernel)
set_option maxRecDepth 20000 in
theorem gX6_renew_X6_weigh : GoodIn wsX6_renew (wsV RX6 58 RX6 yX6_weigh wsX6_weigh) := goodIn_app (goodIn_of _ (by decide +kernel)) ggX6_renew_X6_weigh
set_option maxRecDepth 20000 in
theorem ggX6_renew_X2_settle : GoodIn wsX6_renew wsX2_settle := goodIn_r _ [92, 93, 94, 95, 96, 97, 98, 99, 66, 100, 68, 101, 122, 123, 124, 125, 126, 127] (by decide +kernel) (by decide +kernel)
set_option maxRecDepth 20000 in
theorem gX6_renew_X2_settle : GoodIn wsX6_renew (wsV RX6 61 RX2 yX2_settle wsX2_settle) := goodIn_app (goodIn_of _ (by decide +kernel)) ggX6_renew_X2_settle
set_option maxRecDepth 20000 in
theorem ggX6_renew_X6_findStrange : GoodIn wsX6_renew wsX6_findStrange := goodIn_r _ [105, 106, 18, 19, 2, 5, 107, 21, 77, 78, 79, 15, 80, 22, 61, 28, 62, 36, 37, 81, 82, 83, 84, 27, 29, 108, 109, 110, 111, 112, 113, 114, 115, 116, 117, 118, 122, 123, 124, 125, 126, 127] (by decide +kernel) (by decide +kernel)
set_option maxRecDepth 20000 in
theorem gX6_renew_X6_findStrange : GoodIn wsX6_renew (wsV RX6 64 RX6 yX6_findStrange wsX6_findStrange) := goodIn_app (goodIn_of _ (by decide +kernel)) ggX6_renew_X6_findStrange
theorem dX6_renew_0 : decode cX6_renew 0 = .ok (.aload_n 0, 1) := by decide +kernel
theorem dX6_renew_1 : decode cX6_renew 1 = .ok (.getfield 31, 3) := by decide +kernel
theorem dX6_renew_4 : decode cX6_renew 4 = .ok (.aload_n 1, 1) := by decide +kernel
theorem dX6_renew_5 : decode cX6_renew 5 = .ok (.getfield 35, 3) := by decide +kernel
theorem dX6_renew_8 : decode cX6_renew 8 = .ok (.invokevirtual 41, 3) := by decide +kernel
theorem dX6_renew_11 : decode cX6_renew 11 = .ok (.aload_n 0, 1) := by decide +kernel
theorem dX6_renew_12 : decode cX6_renew 12 = .ok (.iconst 0, 1) := by decide +kernel
theorem dX6_renew_13 : decode cX6_renew 13 = .ok (.putfield 45, 3) := by decide +kernel
theorem dX6_renew_16 : decode cX6_renew 16 = .ok (.iconst 0, 1) := by decide +kernel
theorem dX6_renew_17 : decode cX6_renew 17 = .ok (.istore_n 2, 1) := by decide +kernel
theorem dX6_renew_18 : decode cX6_renew 18 = .ok (.iload_n 2, 1) := by decide +kernel
theorem dX6_renew_19 : decode cX6_renew 19 = .ok (.aload_n 1, 1) := by decide +kernel
theorem dX6_renew_20 : decode cX6_renew 20 = .ok (.getfield 48, 3) := by decide +kernel
theorem dX6_renew_23 : decode cX6_renew 23 = .ok (.if_icmp .ge 15, 3) := by decide +kernel
theorem dX6_renew_26 : decode cX6_renew 26 = .ok (.aload_n 0, 1) := by decide +kernel
theorem dX6_renew_27 : decode cX6_renew 27 = .ok (.aload_n 1, 1) := by decide +kernel
theorem dX6_renew_28 : decode cX6_renew 28 = .ok (.iload_n 2, 1) := by decide +kernel
theorem dX6_renew_29 : decode cX6_renew 29 = .ok (.invokevirtual 51, 3) := by decide +kernel
theorem dX6_renew_32 : decode cX6_renew 32 = .ok (.iinc 2 1, 3) := by decide +kernel
theorem dX6_renew_35 : decode cX6_renew 35 = .ok (.goto (-17), 3) := by decide +kernel
theorem dX6_renew_38 : decode cX6_renew 38 = .ok (.aload_n 0, 1) := by decide +kernel
theorem dX6_renew_39 : decode cX6_renew 39 = .ok (.getfield 24, 3) := by decide +kernel
theorem dX6_renew_42 : decode cX6_renew 42 = .ok (.invokevirtual 55, 3) := by decide +kernel
theorem dX6_renew_45 : decode cX6_renew 45 = .ok (.iconst 0, 1) := by decide +kernel
theorem dX6_renew_46 : decode cX6_renew 46 = .ok (.istore_n 2, 1) := by decide +kernel
theorem dX6_renew_47 : decode cX6_renew 47 = .ok (.iload_n 2, 1) := by decide +kernel
theorem dX6_renew_48 : decode cX6_renew 48 = .ok (.aload_n 1, 1) := by decide +kernel
theorem dX6_renew_49 : decode cX6_renew 49 = .ok (.getfield 48, 3) := by decide +kernel
theorem dX6_renew_52 : decode cX6_renew 52 = .ok (.if_icmp .ge 15, 3) := by decide +kernel
theorem dX6_renew_55 : decode cX6_renew 55 = .ok (.aload_n 0, 1) := by decide +kernel
theorem dX6_renew_56 : decode cX6_renew 56 = .ok (.aload_n 1, 1) := by decide +kernel
theorem dX6_renew_57 : decode cX6_renew 57 = .ok (.iload_n 2, 1) := by decide +kernel
theorem dX6_renew_58 : decode cX6_renew 58 = .ok (.invokevirtual 58, 3) := by decide +kernel
theorem dX6_renew_61 : decode cX6_renew 61 = .ok (.iinc 2 1, 3) := by decide +kernel
theorem dX6_renew_64 : decode cX6_renew 64 = .ok (.goto (-17), 3) := by decide +kernel
theorem dX6_renew_67 : decode cX6_renew 67 = .ok (.aload_n 0, 1) := by decide +kernel
theorem dX6_renew_68 : decode cX6_renew 68 = .ok (.getfield 24, 3) := by decide +kernel
theorem dX6_renew_71 : decode cX6_renew 71 = .ok (.aload_n 1, 1) := by decide +kernel
theorem dX6_renew_72 : decode cX6_renew 72 = .ok (.getfield 35, 3) := by decide +kernel
theorem dX6_renew_75 : decode cX6_renew 75 = .ok (.invokevirtual 61, 3) := by decide +kernel
theorem dX6_renew_78 : decode cX6_renew 78 = .ok (.iconst 0, 1) := by decide +kernel
theorem dX6_renew_79 : decode cX6_renew 79 = .ok (.istore_n 2, 1) := by decide +kernel
theorem dX6_renew_80 : decode cX6_renew 80 = .ok (.iload_n 2, 1) := by decide +kernel
theorem dX6_renew_81 : decode cX6_renew 81 = .ok (.aload_n 1, 1) := by decide +kernel
theorem dX6_renew_82 : decode cX6_renew 82 = .ok (.getfield 48, 3) := by decide +kernel
theorem dX6_renew_85 : decode cX6_renew 85 = .ok (.if_icmp .ge 15, 3) := by decide +kernel
theorem dX6_renew_88 : decode cX6_renew 88 = .ok (.aload_n 0, 1) := by decide +kernel
theorem dX6_renew_89 : decode cX6_renew 89 = .ok (.aload_n 1, 1) := by decide +kernel
theorem dX6_renew_90 : decode cX6_renew 90 = .ok (.iload_n 2, 1) := by decide +kernel
theorem dX6_renew_91 : decode cX6_renew 91 = .ok (.invokevirtual 64, 3) := by decide +kernel
theorem dX6_renew_94 : decode cX6_renew 94 = .ok (.iinc 2 1, 3) := by decide +kernel
theorem dX6_renew_97 : decode cX6_renew 97 = .ok (.goto (-17), 3) := by decide +kernel
theorem dX6_renew_100 : decode cX6_renew 100 = .ok (.return_, 1) := by decide +kernel
set_option maxRecDepth 20000 in
theorem ggX6_oldSound_X8_nodesAt : GoodIn wsX6_oldSound wsX8_nodesAt := goodIn_r _ [5] (by decide +kernel) (by decide +kernel)
set_option maxRecDepth 20000 in
theorem gX6_oldSound_X8_nodesAt_n67 : GoodIn wsX6_oldSound (wsX8_nodesAt) := ggX6_oldSound_X8_nodesAt
set_option maxRecDepth 20000 in
theorem ggX6_oldSound_X8_nodesOf : GoodIn wsX6_oldSound wsX8_nodesOf := goodIn_r _ [7] (by decide +kernel) (by decide +kernel)
set_option maxRecDepth 20000 in
theorem gX6_oldSound_X8_nodesOf_n71 : GoodIn wsX6_oldSound (wsX8_nodesOf) := ggX6_oldSound_X8_nodesOf
theorem dX6_oldSound_0 : decode cX6_oldSound 0 = .ok (.aload_n 0, 1) := by decide +kernel
theorem dX6_oldSound_1 : decode cX6_oldSound 1 = .ok (.getfield 9, 3) := by decide +kernel
theorem dX6_oldSound_4 : decode cX6_oldSound 4 = .ok (.iload_n 2, 1) := by decide +kernel
theorem dX6_oldSound_5 : decode cX6_oldSound 5 = .ok (.iload_n 3, 1) := by decide +kernel
theorem dX6_oldSound_6 : decode cX6_oldSound 6 = .ok (.invokestatic 67, 3) := by decide +kernel
theorem dX6_oldSound_9 : decode cX6_oldSound 9 = .ok (.aload_n 1, 1) := by decide +kernel
theorem dX6_oldSound_10 : decode cX6_oldSound 10 = .ok (.getfield 35, 3) := by decide +kernel
theorem dX6_oldSound_13 : decode cX6_oldSound 13 = .ok (.invokestatic 71, 3) := by decide +kernel
theorem dX6_oldSound_16 : decode cX6_oldSound 16 = .ok (.iadd, 1) := by decide +kernel
theorem dX6_oldSound_17 : decode cX6_oldSound 17 = .ok (.iconst 1, 1) := by decide +kernel
theorem dX6_oldSound_18 : decode cX6_oldSound 18 = .ok (.isub, 1) := by decide +kernel
theorem dX6_oldSound_19 : decode cX6_oldSound 19 = .ok (.iaload, 1) := by decide +kernel
theorem dX6_oldSound_20 : decode cX6_oldSound 20 = .ok (.ireturn, 1) := by decide +kernel
theorem dX6_strangeInSet_0 : decode cX6_strangeInSet 0 = .ok (.iconst 0, 1) := by decide +kernel
theorem dX6_strangeInSet_1 : decode cX6_strangeInSet 1 = .ok (.istore_n 2, 1) := by decide +kernel
theorem dX6_strangeInSet_2 : decode cX6_strangeInSet 2 = .ok (.iconst 0, 1) := by decide +kernel
theorem dX6_strangeInSet_3 : decode cX6_strangeInSet 3 = .ok (.istore_n 3, 1) := by decide +kernel
theorem dX6_strangeInSet_4 : decode cX6_strangeInSet 4 = .ok (.iload_n 3, 1) := by decide +kernel
theorem dX6_strangeInSet_5 : decode cX6_strangeInSet 5 = .ok (.iconst 4, 1) := by decide +kernel
theorem dX6_strangeInSet_6 : decode cX6_strangeInSet 6 = .ok (.if_icmp .ge 22, 3) := by decide +kernel
theorem dX6_strangeInSet_9 : decode cX6_strangeInSet 9 = .ok (.iload_n 2, 1) := by decide +kernel
theorem dX6_strangeInSet_10 : decode cX6_strangeInSet 10 = .ok (.aload_n 0, 1) := by decide +kernel
theorem dX6_strangeInSet_11 : decode cX6_strangeInSet 11 = .ok (.getfield 18, 3) := by decide +kernel
theorem dX6_strangeInSet_14 : decode cX6_strangeInSet 14 = .ok (.iload_n 1, 1) := by decide +kernel
theorem dX6_strangeInSet_15 : decode cX6_strangeInSet 15 = .ok (.iconst 4, 1) := by decide +kernel
theorem dX6_strangeInSet_16 : decode cX6_strangeInSet 16 = .ok (.imul, 1) := by decide +kernel
theorem dX6_strangeInSet_17 : decode cX6_strangeInSet 17 = .ok (.iload_n 3, 1) := by decide +kernel
theorem dX6_strangeInSet_18 : decode cX6_strangeInSet 18 = .ok (.iadd, 1) := by decide +kernel
theorem dX6_strangeInSet_19 : decode cX6_strangeInSet 19 = .ok (.iaload, 1) := by decide +kernel
theorem dX6_strangeInSet_20 : decode cX6_strangeInSet 20 = .ok (.iadd, 1) := by decide +kernel
theorem dX6_strangeInSet_21 : decode cX6_strangeInSet 21 = .ok (.istore_n 2, 1) := by decide +kernel
theorem dX6_strangeInSet_22 : decode cX6_strangeInSet 22 = .ok (.iinc 3 1, 3) := by decide +kernel
theorem dX6_strangeInSet_25 : decode cX6_strangeInSet 25 = .ok (.goto (-21), 3) := by decide +kernel
theorem dX6_strangeInSet_28 : decode cX6_strangeInSet 28 = .ok (.iload_n 2, 1) := by decide +kernel
theorem dX6_strangeInSet_29 : decode cX6_strangeInSet 29 = .ok (.ireturn, 1) := by decide +kernel
theorem dX6_borrowedTongues_0 : decode cX6_borrowedTongues 0 = .ok (.iconst 0, 1) := by decide +kernel
theorem dX6_borrowedTongues_1 : decode cX6_borrowedTongues 1 = .ok (.istore_n 3, 1) := by decide +kernel
theorem dX6_borrowedTongues_2 : decode cX6_borrowedTongues 2 = .ok (.iconst 0, 1) := by decide +kernel
theorem dX6_borrowedTongues_3 : decode cX6_borrowedTongues 3 = .ok (.istore 4, 2) := by decide +kernel
theorem dX6_borrowedTongues_5 : decode cX6_borrowedTongues 5 = .ok (.iload 4, 2) := by decide +kernel
theorem dX6_borrowedTongues_7 : decode cX6_borrowedTongues 7 = .ok (.aload_n 1, 1) := by decide +kernel
theorem dX6_borrowedTongues_8 : decode cX6_borrowedTongues 8 = .ok (.getfield 35, 3) := by decide +kernel
theorem dX6_borrowedTongues_11 : decode cX6_borrowedTongues 11 = .ok (.if_icmp .ge 46, 3) := by decide +kernel
theorem dX6_borrowedTongues_14 : decode cX6_borrowedTongues 14 = .ok (.aload_n 0, 1) := by decide +kernel
theorem dX6_borrowedTongues_15 : decode cX6_borrowedTongues 15 = .ok (.getfield 18, 3) := by decide +kernel
theorem dX6_borrowedTongues_18 : decode cX6_borrowedTongues 18 = .ok (.iload_n 2, 1) := by decide +kernel
theorem dX6_borrowedTongues_19 : decode cX6_borrowedTongues 19 = .ok (.iconst 4, 1) := by decide +kernel
theorem dX6_borrowedTongues_20 : decode cX6_borrowedTongues 20 = .ok (.imul, 1) := by decide +kernel
theorem dX6_borrowedTongues_21 : decode cX6_borrowedTongues 21 = .ok (.iload 4, 2) := by decide +kernel
theorem dX6_borrowedTongues_23 : decode cX6_borrowedTongues 23 = .ok (.iadd, 1) := by decide +kernel
theorem dX6_borrowedTongues_24 : decode cX6_borrowedTongues 24 = .ok (.iaload, 1) := by decide +kernel
theorem dX6_borrowedTongues_25 : decode cX6_borrowedTongues 25 = .ok (.istore 5, 2) := by decide +kernel
theorem dX6_borrowedTongues_27 : decode cX6_borrowedTongues 27 = .ok (.iload 5, 2) := by decide +kernel
theorem dX6_borrowedTongues_29 : decode cX6_borrowedTongues 29 = .ok (.iconst 2, 1) := by decide +kernel
theorem dX6_borrowedTongues_30 : decode cX6_borrowedTongues 30 = .ok (.if_icmp .ge 14, 3) := by decide +kernel
theorem dX6_borrowedTongues_33 : decode cX6_borrowedTongues 33 = .ok (.iload 5, 2) := by decide +kernel
theorem dX6_borrowedTongues_35 : decode cX6_borrowedTongues 35 = .ok (.aload_n 1, 1) := by decide +kernel
theorem dX6_borrowedTongues_36 : decode cX6_borrowedTongues 36 = .ok (.getfield 75, 3) := by decide +kernel
theorem dX6_borrowedTongues_39 : decode cX6_borrowedTongues 39 = .ok (.iload_n 2, 1) := by decide +kernel
theorem dX6_borrowedTongues_40 : decode cX6_borrowedTongues 40 = .ok (.iaload, 1) := by decide +kernel
theorem dX6_borrowedTongues_41 : decode cX6_borrowedTongues 41 = .ok (.if_icmp .ne 10, 3) := by decide +kernel
theorem dX6_borrowedTongues_44 : decode cX6_borrowedTongues 44 = .ok (.iload_n 3, 1) := by decide +kernel
theorem dX6_borrowedTongues_45 : decode cX6_borrowedTongues 45 = .ok (.iconst 1, 1) := by decide +kernel
theorem dX6_borrowedTongues_46 : decode cX6_borrowedTongues 46 = .ok (.iload 4, 2) := by decide +kernel
theorem dX6_borrowedTongues_48 : decode cX6_borrowedTongues 48 = .ok (.ishl, 1) := by decide +kernel
theorem dX6_borrowedTongues_49 : decode cX6_borrowedTongues 49 = .ok (.ior, 1) := by decide +kernel
theorem dX6_borrowedTongues_50 : decode cX6_borrowedTongues 50 = .ok (.istore_n 3, 1) := by decide +kernel
theorem dX6_borrowedTongues_51 : decode cX6_borrowedTongues 51 = .ok (.iinc 4 1, 3) := by decide +kernel
theorem dX6_borrowedTongues_54 : decode cX6_borrowedTongues 54 = .ok (.goto (-49), 3) := by decide +kernel
theorem dX6_borrowedTongues_57 : decode cX6_borrowedTongues 57 = .ok (.iload_n 3, 1) := by decide +kernel
theorem dX6_borrowedTongues_58 : decode cX6_borrowedTongues 58 = .ok (.ireturn, 1) := by decide +kernel
set_option maxRecDepth 20000 in
theorem ggX6_borrowedWords_X6_borrowedTongues : GoodIn wsX6_borrowedWords wsX6_borrowedTongues := goodIn_r _ [6, 7, 8, 9, 17, 18, 19, 20, 21, 22, 23, 24, 25, 26, 27] (by decide +kernel) (by decide +kernel)
set_option maxRecDepth 20000 in
theorem gX6_borrowedWords_X6_borrowedTongues : GoodIn wsX6_borrowedWords (wsV RX6 78 RX6 yX6_borrowedTongues wsX6_borrowedTongues) := goodIn_app (goodIn_of _ (by decide +kernel)) ggX6_borrowedWords_X6_borrowedTongues
set_option maxRecDepth 20000 in
theorem ggX6_borrowedWords_J6_bitCount_0f7a4 : GoodIn wsX6_borrowedWords wsJ6_bitCount_0f7a4 := goodIn_r _ [13, 14, 15, 16] (by decide +kernel) (by decide +kernel)
set_option maxRecDepth 20000 in
theorem gX6_borrowedWords_J6_bitCount_0f7a4 : GoodIn wsX6_borrowedWords (va_wsS RX6 82 yJ6_bitCount_0f7a4 wsJ6_bitCount_0f7a4) := goodIn_app (goodIn_of _ (by decide +kernel)) ggX6_borrowedWords_J6_bitCount_0f7a4
theorem dX6_borrowedWords_0 : decode cX6_borrowedWords 0 = .ok (.iconst 0, 1) := by decide +kernel
theorem dX6_borrowedWords_1 : decode cX6_borrowedWords 1 = .ok (.istore_n 2, 1) := by decide +kernel
theorem dX6_borrowedWords_2 : decode cX6_borrowedWords 2 = .ok (.iconst 0, 1) := by decide +kernel
theorem dX6_borrowedWords_3 : decode cX6_borrowedWords 3 = .ok (.istore_n 3, 1) := by decide +kernel
theorem dX6_borrowedWords_4 : decode cX6_borrowedWords 4 = .ok (.iload_n 3, 1) := by decide +kernel
theorem dX6_borrowedWords_5 : decode cX6_borrowedWords 5 = .ok (.aload_n 1, 1) := by decide +kernel
theorem dX6_borrowedWords_6 : decode cX6_borrowedWords 6 = .ok (.getfield 48, 3) := by decide +kernel
theorem dX6_borrowedWords_9 : decode cX6_borrowedWords 9 = .ok (.if_icmp .ge 21, 3) := by decide +kernel
theorem dX6_borrowedWords_12 : decode cX6_borrowedWords 12 = .ok (.iload_n 2, 1) := by decide +kernel
theorem dX6_borrowedWords_13 : decode cX6_borrowedWords 13 = .ok (.aload_n 0, 1) := by decide +kernel
theorem dX6_borrowedWords_14 : decode cX6_borrowedWords 14 = .ok (.aload_n 1, 1) := by decide +kernel
theorem dX6_borrowedWords_15 : decode cX6_borrowedWords 15 = .ok (.iload_n 3, 1) := by decide +kernel
theorem dX6_borrowedWords_16 : decode cX6_borrowedWords 16 = .ok (.invokevirtual 78, 3) := by decide +kernel
theorem dX6_borrowedWords_19 : decode cX6_borrowedWords 19 = .ok (.invokestatic 82, 3) := by decide +kernel
theorem dX6_borrowedWords_22 : decode cX6_borrowedWords 22 = .ok (.iadd, 1) := by decide +kernel
theorem dX6_borrowedWords_23 : decode cX6_borrowedWords 23 = .ok (.istore_n 2, 1) := by decide +kernel
theorem dX6_borrowedWords_24 : decode cX6_borrowedWords 24 = .ok (.iinc 3 1, 3) := by decide +kernel
theorem dX6_borrowedWords_27 : decode cX6_borrowedWords 27 = .ok (.goto (-23), 3) := by decide +kernel
theorem dX6_borrowedWords_30 : decode cX6_borrowedWords 30 = .ok (.iload_n 2, 1) := by decide +kernel
theorem dX6_borrowedWords_31 : decode cX6_borrowedWords 31 = .ok (.ireturn, 1) := by decide +kernel
set_option maxRecDepth 20000 in
theorem ggX6_rebuild_X8_wordAt : GoodIn wsX6_rebuild wsX8_wordAt := goodIn_r _ [16] (by decide +kernel) (by decide +kernel)
set_option maxRecDepth 20000 in
theorem gX6_rebuild_X8_wordAt_n97 : GoodIn wsX6_rebuild (wsX8_wordAt) := ggX6_rebuild_X8_wordAt
set_option maxRecDepth 20000 in
theorem ggX6_rebuild_X7_climb : GoodIn wsX6_rebuild wsX7_climb := goodIn_r _ [21, 22, 23, 24, 25, 15, 26, 27, 28, 29, 20, 30, 31, 32, 33, 34, 63, 64, 65] (by decide +kernel) (by decide +kernel)
set_option maxRecDepth 20000 in
theorem gX6_rebuild_X7_climb : GoodIn wsX6_rebuild (wsV RX6 100 RX7 yX7_climb wsX7_climb) := goodIn_app (goodIn_of _ (by decide +kernel)) ggX6_rebuild_X7_climb
set_option maxRecDepth 20000 in
theorem ggX6_rebuild_X7_descend : GoodIn wsX6_rebuild wsX7_descend := goodIn_r _ [38, 22, 24, 39, 40, 41, 20, 42, 25, 15, 26, 27, 28, 29, 30, 43, 44, 45, 46, 23, 47, 48, 49, 63, 64, 65] (by decide +kernel) (by decide +kernel)
set_option maxRecDepth 20000 in
theorem gX6_rebuild_X7_descend : GoodIn wsX6_rebuild (wsV RX6 104 RX7 yX7_descend wsX7_descend) := goodIn_app (goodIn_of _ (by decide +kernel)) ggX6_rebuild_X7_descend
set_option maxRecDepth 20000 in
theorem ggX6_rebuild_X8_nodesAt : GoodIn wsX6_rebuild wsX8_nodesAt := goodIn_r _ [51] (by decide +kernel) (by decide +kernel)
set_option maxRecDepth 20000 in
theorem gX6_rebuild_X8_nodesAt_n67 : GoodIn wsX6_rebuild (wsX8_nodesAt) := ggX6_rebuild_X8_nodesAt
theorem dX6_rebuild_0 : decode cX6_rebuild 0 = .ok (.aload_n 0, 1) := by decide +kernel
theorem dX6_rebuild_1 : decode cX6_rebuild 1 = .ok (.getfield 15, 3) := by decide +kernel
theorem dX6_rebuild_4 : decode cX6_rebuild 4 = .ok (.iload_n 2, 1) := by decide +kernel
theorem dX6_rebuild_5 : decode cX6_rebuild 5 = .ok (.iconst (-1), 1) := by decide +kernel
theorem dX6_rebuild_6 : decode cX6_rebuild 6 = .ok (.iastore, 1) := by decide +kernel
theorem dX6_rebuild_7 : decode cX6_rebuild 7 = .ok (.getstatic 87, 3) := by decide +kernel
theorem dX6_rebuild_10 : decode cX6_rebuild 10 = .ok (.aload_n 1, 1) := by decide +kernel
theorem dX6_rebuild_11 : decode cX6_rebuild 11 = .ok (.getfield 90, 3) := by decide +kernel
theorem dX6_rebuild_14 : decode cX6_rebuild 14 = .ok (.iload_n 2, 1) := by decide +kernel
theorem dX6_rebuild_15 : decode cX6_rebuild 15 = .ok (.iaload, 1) := by decide +kernel
theorem dX6_rebuild_16 : decode cX6_rebuild 16 = .ok (.iaload, 1) := by decide +kernel
theorem dX6_rebuild_17 : decode cX6_rebuild 17 = .ok (.ifCond .ne 4, 3) := by decide +kernel
theorem dX6_rebuild_20 : decode cX6_rebuild 20 = .ok (.return_, 1) := by decide +kernel
theorem dX6_rebuild_21 : decode cX6_rebuild 21 = .ok (.iconst 0, 1) := by decide +kernel
theorem dX6_rebuild_22 : decode cX6_rebuild 22 = .ok (.istore_n 3, 1) := by decide +kernel
theorem dX6_rebuild_23 : decode cX6_rebuild 23 = .ok (.iconst 0, 1) := by decide +kernel
theorem dX6_rebuild_24 : decode cX6_rebuild 24 = .ok (.istore 4, 2) := by decide +kernel
theorem dX6_rebuild_26 : decode cX6_rebuild 26 = .ok (.iload 4, 2) := by decide +kernel
theorem dX6_rebuild_28 : decode cX6_rebuild 28 = .ok (.aload_n 1, 1) := by decide +kernel
theorem dX6_rebuild_29 : decode cX6_rebuild 29 = .ok (.getfield 75, 3) := by decide +kernel
theorem dX6_rebuild_32 : decode cX6_rebuild 32 = .ok (.iload_n 2, 1) := by decide +kernel
theorem dX6_rebuild_33 : decode cX6_rebuild 33 = .ok (.iaload, 1) := by decide +kernel
theorem dX6_rebuild_34 : decode cX6_rebuild 34 = .ok (.if_icmp .ge 91, 3) := by decide +kernel
theorem dX6_rebuild_37 : decode cX6_rebuild 37 = .ok (.iconst 0, 1) := by decide +kernel
theorem dX6_rebuild_38 : decode cX6_rebuild 38 = .ok (.istore 5, 2) := by decide +kernel
theorem dX6_rebuild_40 : decode cX6_rebuild 40 = .ok (.iload 5, 2) := by decide +kernel
theorem dX6_rebuild_42 : decode cX6_rebuild 42 = .ok (.aload_n 1, 1) := by decide +kernel
theorem dX6_rebuild_43 : decode cX6_rebuild 43 = .ok (.getfield 35, 3) := by decide +kernel
theorem dX6_rebuild_46 : decode cX6_rebuild 46 = .ok (.if_icmp .ge 33, 3) := by decide +kernel
theorem dX6_rebuild_49 : decode cX6_rebuild 49 = .ok (.aload_n 0, 1) := by decide +kernel
theorem dX6_rebuild_50 : decode cX6_rebuild 50 = .ok (.getfield 31, 3) := by decide +kernel
theorem dX6_rebuild_53 : decode cX6_rebuild 53 = .ok (.getfield 93, 3) := by decide +kernel
theorem dX6_rebuild_56 : decode cX6_rebuild 56 = .ok (.iload 5, 2) := by decide +kernel
theorem dX6_rebuild_58 : decode cX6_rebuild 58 = .ok (.aload_n 1, 1) := by decide +kernel
theorem dX6_rebuild_59 : decode cX6_rebuild 59 = .ok (.getfield 94, 3) := by decide +kernel
theorem dX6_rebuild_62 : decode cX6_rebuild 62 = .ok (.iload_n 2, 1) := by decide +kernel
theorem dX6_rebuild_63 : decode cX6_rebuild 63 = .ok (.iload 5, 2) := by decide +kernel
theorem dX6_rebuild_65 : decode cX6_rebuild 65 = .ok (.invokestatic 97, 3) := by decide +kernel
theorem dX6_rebuild_68 : decode cX6_rebuild 68 = .ok (.iload 4, 2) := by decide +kernel
theorem dX6_rebuild_70 : decode cX6_rebuild 70 = .ok (.iadd, 1) := by decide +kernel
theorem dX6_rebuild_71 : decode cX6_rebuild 71 = .ok (.iaload, 1) := by decide +kernel
theorem dX6_rebuild_72 : decode cX6_rebuild 72 = .ok (.iastore, 1) := by decide +kernel
theorem dX6_rebuild_73 : decode cX6_rebuild 73 = .ok (.iinc 5 1, 3) := by decide +kernel
theorem dX6_rebuild_76 : decode cX6_rebuild 76 = .ok (.goto (-36), 3) := by decide +kernel
theorem dX6_rebuild_79 : decode cX6_rebuild 79 = .ok (.iload_n 3, 1) := by decide +kernel
theorem dX6_rebuild_80 : decode cX6_rebuild 80 = .ok (.aload_n 0, 1) := by decide +kernel
theorem dX6_rebuild_81 : decode cX6_rebuild 81 = .ok (.getfield 31, 3) := by decide +kernel
theorem dX6_rebuild_84 : decode cX6_rebuild 84 = .ok (.invokevirtual 100, 3) := by decide +kernel
theorem dX6_rebuild_87 : decode cX6_rebuild 87 = .ok (.iadd, 1) := by decide +kernel
theorem dX6_rebuild_88 : decode cX6_rebuild 88 = .ok (.istore_n 3, 1) := by decide +kernel
theorem dX6_rebuild_89 : decode cX6_rebuild 89 = .ok (.aload_n 0, 1) := by decide +kernel
theorem dX6_rebuild_90 : decode cX6_rebuild 90 = .ok (.getfield 31, 3) := by decide +kernel
theorem dX6_rebuild_93 : decode cX6_rebuild 93 = .ok (.invokevirtual 104, 3) := by decide +kernel
theorem dX6_rebuild_96 : decode cX6_rebuild 96 = .ok (.aload_n 0, 1) := by decide +kernel
theorem dX6_rebuild_97 : decode cX6_rebuild 97 = .ok (.getfield 31, 3) := by decide +kernel
theorem dX6_rebuild_100 : decode cX6_rebuild 100 = .ok (.getfield 93, 3) := by decide +kernel
theorem dX6_rebuild_103 : decode cX6_rebuild 103 = .ok (.iconst 0, 1) := by decide +kernel
theorem dX6_rebuild_104 : decode cX6_rebuild 104 = .ok (.aload_n 0, 1) := by decide +kernel
theorem dX6_rebuild_105 : decode cX6_rebuild 105 = .ok (.getfield 9, 3) := by decide +kernel
theorem dX6_rebuild_108 : decode cX6_rebuild 108 = .ok (.iload_n 2, 1) := by decide +kernel
theorem dX6_rebuild_109 : decode cX6_rebuild 109 = .ok (.iload 4, 2) := by decide +kernel
theorem dX6_rebuild_111 : decode cX6_rebuild 111 = .ok (.invokestatic 67, 3) := by decide +kernel
theorem dX6_rebuild_114 : decode cX6_rebuild 114 = .ok (.bipush 7, 2) := by decide +kernel
theorem dX6_rebuild_116 : decode cX6_rebuild 116 = .ok (.invokestatic 107, 3) := by decide +kernel
theorem dX6_rebuild_119 : decode cX6_rebuild 119 = .ok (.iinc 4 1, 3) := by decide +kernel
theorem dX6_rebuild_122 : decode cX6_rebuild 122 = .ok (.goto (-96), 3) := by decide +kernel
theorem dX6_rebuild_125 : decode cX6_rebuild 125 = .ok (.aload_n 0, 1) := by decide +kernel
theorem dX6_rebuild_126 : decode cX6_rebuild 126 = .ok (.getfield 15, 3) := by decide +kernel
theorem dX6_rebuild_129 : decode cX6_rebuild 129 = .ok (.iload_n 2, 1) := by decide +kernel
theorem dX6_rebuild_130 : decode cX6_rebuild 130 = .ok (.iload_n 3, 1) := by decide +kernel
theorem dX6_rebuild_131 : decode cX6_rebuild 131 = .ok (.iastore, 1) := by decide +kernel
theorem dX6_rebuild_132 : decode cX6_rebuild 132 = .ok (.aload_n 0, 1) := by decide +kernel
theorem dX6_rebuild_133 : decode cX6_rebuild 133 = .ok (.dup, 1) := by decide +kernel
theorem dX6_rebuild_134 : decode cX6_rebuild 134 = .ok (.getfield 45, 3) := by decide +kernel
theorem dX6_rebuild_137 : decode cX6_rebuild 137 = .ok (.iload_n 3, 1) := by decide +kernel
theorem dX6_rebuild_138 : decode cX6_rebuild 138 = .ok (.iadd, 1) := by decide +kernel
theorem dX6_rebuild_139 : decode cX6_rebuild 139 = .ok (.putfield 45, 3) := by decide +kernel
theorem dX6_rebuild_142 : decode cX6_rebuild 142 = .ok (.return_, 1) := by decide +kernel
set_option maxRecDepth 20000 in
theorem ggX6_weigh_X6_oldSound : GoodIn wsX6_weigh wsX6_oldSound := goodIn_r _ [10, 11, 3, 12, 13, 14, 15, 16, 34, 35, 36, 37, 38, 39, 29, 30, 31, 32, 33] (by decide +kernel) (by decide +kernel)
set_option maxRecDepth 20000 in
theorem gX6_weigh_X6_oldSound : GoodIn wsX6_weigh (wsV RX6 116 RX6 yX6_oldSound wsX6_oldSound) := goodIn_app (goodIn_of _ (by decide +kernel)) ggX6_weigh_X6_oldSound
set_option maxRecDepth 20000 in
theorem ggX6_weigh_X8_wordAt : GoodIn wsX6_weigh wsX8_wordAt := goodIn_r _ [18] (by decide +kernel) (by decide +kernel)
set_option maxRecDepth 20000 in
theorem gX6_weigh_X8_wordAt_n97 : GoodIn wsX6_weigh (wsX8_wordAt) := ggX6_weigh_X8_wordAt
set_option maxRecDepth 20000 in
theorem ggX6_weigh_X8_aheadAt : GoodIn wsX6_weigh wsX8_aheadAt := goodIn_r _ [20] (by decide +kernel) (by decide +kernel)
set_option maxRecDepth 20000 in
theorem gX6_weigh_X8_aheadAt_n120 : GoodIn wsX6_weigh (wsX8_aheadAt) := ggX6_weigh_X8_aheadAt
set_option maxRecDepth 20000 in
theorem ggX6_weigh_X8_lawAt : GoodIn wsX6_weigh wsX8_lawAt := goodIn_r _ [22] (by decide +kernel) (by decide +kernel)
set_option maxRecDepth 20000 in
theorem gX6_weigh_X8_lawAt_n123 : GoodIn wsX6_weigh (wsX8_lawAt) := ggX6_weigh_X8_lawAt
set_option maxRecDepth 20000 in
theorem ggX6_weigh_X2_weigh : GoodIn wsX6_weigh wsX2_weigh := goodIn_r _ [27, 28, 40, 41, 42, 43, 44, 45] (by decide +kernel) (by decide +kernel)
set_option maxRecDepth 20000 in
theorem gX6_weigh_X2_weigh : GoodIn wsX6_weigh (wsV RX6 127 RX2 yX2_weigh wsX2_weigh) := goodIn_app (goodIn_of _ (by decide +kernel)) ggX6_weigh_X2_weigh
theorem dX6_weigh_0 : decode cX6_weigh 0 = .ok (.getstatic 113, 3) := by decide +kernel
theorem dX6_weigh_3 : decode cX6_weigh 3 = .ok (.aload_n 1, 1) := by decide +kernel
theorem dX6_weigh_4 : decode cX6_weigh 4 = .ok (.getfield 90, 3) := by decide +kernel
theorem dX6_weigh_7 : decode cX6_weigh 7 = .ok (.iload_n 2, 1) := by decide +kernel
theorem dX6_weigh_8 : decode cX6_weigh 8 = .ok (.iaload, 1) := by decide +kernel
theorem dX6_weigh_9 : decode cX6_weigh 9 = .ok (.iaload, 1) := by decide +kernel
theorem dX6_weigh_10 : decode cX6_weigh 10 = .ok (.istore_n 3, 1) := by decide +kernel
theorem dX6_weigh_11 : decode cX6_weigh 11 = .ok (.iload_n 3, 1) := by decide +kernel
theorem dX6_weigh_12 : decode cX6_weigh 12 = .ok (.ifCond .ne 4, 3) := by decide +kernel
theorem dX6_weigh_15 : decode cX6_weigh 15 = .ok (.return_, 1) := by decide +kernel
theorem dX6_weigh_16 : decode cX6_weigh 16 = .ok (.iconst 0, 1) := by decide +kernel
theorem dX6_weigh_17 : decode cX6_weigh 17 = .ok (.istore 4, 2) := by decide +kernel
theorem dX6_weigh_19 : decode cX6_weigh 19 = .ok (.iload 4, 2) := by decide +kernel
theorem dX6_weigh_21 : decode cX6_weigh 21 = .ok (.aload_n 1, 1) := by decide +kernel
theorem dX6_weigh_22 : decode cX6_weigh 22 = .ok (.getfield 75, 3) := by decide +kernel
theorem dX6_weigh_25 : decode cX6_weigh 25 = .ok (.iload_n 2, 1) := by decide +kernel
theorem dX6_weigh_26 : decode cX6_weigh 26 = .ok (.iaload, 1) := by decide +kernel
theorem dX6_weigh_27 : decode cX6_weigh 27 = .ok (.if_icmp .ge 75, 3) := by decide +kernel
theorem dX6_weigh_30 : decode cX6_weigh 30 = .ok (.aload_n 0, 1) := by decide +kernel
theorem dX6_weigh_31 : decode cX6_weigh 31 = .ok (.aload_n 1, 1) := by decide +kernel
theorem dX6_weigh_32 : decode cX6_weigh 32 = .ok (.iload_n 2, 1) := by decide +kernel
theorem dX6_weigh_33 : decode cX6_weigh 33 = .ok (.iload 4, 2) := by decide +kernel
theorem dX6_weigh_35 : decode cX6_weigh 35 = .ok (.invokevirtual 116, 3) := by decide +kernel
theorem dX6_weigh_38 : decode cX6_weigh 38 = .ok (.istore 5, 2) := by decide +kernel
theorem dX6_weigh_40 : decode cX6_weigh 40 = .ok (.iconst 0, 1) := by decide +kernel
theorem dX6_weigh_41 : decode cX6_weigh 41 = .ok (.istore 6, 2) := by decide +kernel
theorem dX6_weigh_43 : decode cX6_weigh 43 = .ok (.iload 6, 2) := by decide +kernel
theorem dX6_weigh_45 : decode cX6_weigh 45 = .ok (.aload_n 1, 1) := by decide +kernel
theorem dX6_weigh_46 : decode cX6_weigh 46 = .ok (.getfield 35, 3) := by decide +kernel
theorem dX6_weigh_49 : decode cX6_weigh 49 = .ok (.if_icmp .ge 47, 3) := by decide +kernel
theorem dX6_weigh_52 : decode cX6_weigh 52 = .ok (.aload_n 1, 1) := by decide +kernel
theorem dX6_weigh_53 : decode cX6_weigh 53 = .ok (.getfield 94, 3) := by decide +kernel
theorem dX6_weigh_56 : decode cX6_weigh 56 = .ok (.iload_n 2, 1) := by decide +kernel
theorem dX6_weigh_57 : decode cX6_weigh 57 = .ok (.iload 6, 2) := by decide +kernel
theorem dX6_weigh_59 : decode cX6_weigh 59 = .ok (.invokestatic 97, 3) := by decide +kernel
theorem dX6_weigh_62 : decode cX6_weigh 62 = .ok (.iload 4, 2) := by decide +kernel
theorem dX6_weigh_64 : decode cX6_weigh 64 = .ok (.iadd, 1) := by decide +kernel
theorem dX6_weigh_65 : decode cX6_weigh 65 = .ok (.iaload, 1) := by decide +kernel
theorem dX6_weigh_66 : decode cX6_weigh 66 = .ok (.istore 7, 2) := by decide +kernel
theorem dX6_weigh_68 : decode cX6_weigh 68 = .ok (.aload_n 0, 1) := by decide +kernel
theorem dX6_weigh_69 : decode cX6_weigh 69 = .ok (.getfield 24, 3) := by decide +kernel
theorem dX6_weigh_72 : decode cX6_weigh 72 = .ok (.iload 6, 2) := by decide +kernel
theorem dX6_weigh_74 : decode cX6_weigh 74 = .ok (.iload 5, 2) := by decide +kernel
theorem dX6_weigh_76 : decode cX6_weigh 76 = .ok (.iload 4, 2) := by decide +kernel
theorem dX6_weigh_78 : decode cX6_weigh 78 = .ok (.invokestatic 120, 3) := by decide +kernel
theorem dX6_weigh_81 : decode cX6_weigh 81 = .ok (.invokestatic 123, 3) := by decide +kernel
theorem dX6_weigh_84 : decode cX6_weigh 84 = .ok (.iload 7, 2) := by decide +kernel
theorem dX6_weigh_86 : decode cX6_weigh 86 = .ok (.iload_n 3, 1) := by decide +kernel
theorem dX6_weigh_87 : decode cX6_weigh 87 = .ok (.invokevirtual 127, 3) := by decide +kernel
theorem dX6_weigh_90 : decode cX6_weigh 90 = .ok (.iinc 6 1, 3) := by decide +kernel
theorem dX6_weigh_93 : decode cX6_weigh 93 = .ok (.goto (-50), 3) := by decide +kernel
theorem dX6_weigh_96 : decode cX6_weigh 96 = .ok (.iinc 4 1, 3) := by decide +kernel
theorem dX6_weigh_99 : decode cX6_weigh 99 = .ok (.goto (-80), 3) := by decide +kernel
theorem dX6_weigh_102 : decode cX6_weigh 102 = .ok (.return_, 1) := by decide +kernel
set_option maxRecDepth 20000 in
theorem ggX6_findStrange_X6_oldSound : GoodIn wsX6_findStrange wsX6_oldSound := goodIn_r _ [12, 13, 4, 14, 15, 16, 17, 18, 25, 26, 27, 28, 29, 30, 31, 32, 33, 34, 35] (by decide +kernel) (by decide +kernel)
set_option maxRecDepth 20000 in
theorem gX6_findStrange_X6_oldSound : GoodIn wsX6_findStrange (wsV RX6 116 RX6 yX6_oldSound wsX6_oldSound) := goodIn_app (goodIn_of _ (by decide +kernel)) ggX6_findStrange_X6_oldSound
set_option maxRecDepth 20000 in
theorem ggX6_findStrange_X8_aheadAt : GoodIn wsX6_findStrange wsX8_aheadAt := goodIn_r _ [20] (by decide +kernel) (by decide +kernel)
set_option maxRecDepth 20000 in
theorem gX6_findStrange_X8_aheadAt_n120 : GoodIn wsX6_findStrange (wsX8_aheadAt) := ggX6_findStrange_X8_aheadAt
set_option maxRecDepth 20000 in
theorem ggX6_findStrange_X8_lawAt : GoodIn wsX6_findStrange wsX8_lawAt := goodIn_r _ [22] (by decide +kernel) (by decide +kernel)
set_option maxRecDepth 20000 in
theorem gX6_findStrange_X8_lawAt_n123 : GoodIn wsX6_findStrange (wsX8_lawAt) := ggX6_findStrange_X8_lawAt
set_option maxRecDepth 20000 in
theorem ggX6_findStrange_X8_wordAt : GoodIn wsX6_findStrange wsX8_wordAt := goodIn_r _ [24] (by decide +kernel) (by decide +kernel)
set_option maxRecDepth 20000 in
theorem gX6_findStrange_X8_wordAt_n97 : GoodIn wsX6_findStrange (wsX8_wordAt) := ggX6_findStrange_X8_wordAt
theorem dX6_findStrange_0 : decode cX6_findStrange 0 = .ok (.iconst 0, 1) := by decide +kernel
theorem dX6_findStrange_1 : decode cX6_findStrange 1 = .ok (.istore_n 3, 1) := by decide +kernel
theorem dX6_findStrange_2 : decode cX6_findStrange 2 = .ok (.iload_n 3, 1) := by decide +kernel
theorem dX6_findStrange_3 : decode cX6_findStrange 3 = .ok (.iconst 4, 1) := by decide +kernel
theorem dX6_findStrange_4 : decode cX6_findStrange 4 = .ok (.if_icmp .ge 20, 3) := by decide +kernel
theorem dX6_findStrange_7 : decode cX6_findStrange 7 = .ok (.aload_n 0, 1) := by decide +kernel
theorem dX6_findStrange_8 : decode cX6_findStrange 8 = .ok (.getfield 18, 3) := by decide +kernel
theorem dX6_findStrange_11 : decode cX6_findStrange 11 = .ok (.iload_n 2, 1) := by decide +kernel
theorem dX6_findStrange_12 : decode cX6_findStrange 12 = .ok (.iconst 4, 1) := by decide +kernel
theorem dX6_findStrange_13 : decode cX6_findStrange 13 = .ok (.imul, 1) := by decide +kernel
theorem dX6_findStrange_14 : decode cX6_findStrange 14 = .ok (.iload_n 3, 1) := by decide +kernel
theorem dX6_findStrange_15 : decode cX6_findStrange 15 = .ok (.iadd, 1) := by decide +kernel
theorem dX6_findStrange_16 : decode cX6_findStrange 16 = .ok (.iconst 0, 1) := by decide +kernel
theorem dX6_findStrange_17 : decode cX6_findStrange 17 = .ok (.iastore, 1) := by decide +kernel
theorem dX6_findStrange_18 : decode cX6_findStrange 18 = .ok (.iinc 3 1, 3) := by decide +kernel
theorem dX6_findStrange_21 : decode cX6_findStrange 21 = .ok (.goto (-19), 3) := by decide +kernel
theorem dX6_findStrange_24 : decode cX6_findStrange 24 = .ok (.getstatic 87, 3) := by decide +kernel
theorem dX6_findStrange_27 : decode cX6_findStrange 27 = .ok (.aload_n 1, 1) := by decide +kernel
theorem dX6_findStrange_28 : decode cX6_findStrange 28 = .ok (.getfield 90, 3) := by decide +kernel
theorem dX6_findStrange_31 : decode cX6_findStrange 31 = .ok (.iload_n 2, 1) := by decide +kernel
theorem dX6_findStrange_32 : decode cX6_findStrange 32 = .ok (.iaload, 1) := by decide +kernel
theorem dX6_findStrange_33 : decode cX6_findStrange 33 = .ok (.iaload, 1) := by decide +kernel
theorem dX6_findStrange_34 : decode cX6_findStrange 34 = .ok (.ifCond .ne 4, 3) := by decide +kernel
theorem dX6_findStrange_37 : decode cX6_findStrange 37 = .ok (.return_, 1) := by decide +kernel
theorem dX6_findStrange_38 : decode cX6_findStrange 38 = .ok (.iconst 0, 1) := by decide +kernel
theorem dX6_findStrange_39 : decode cX6_findStrange 39 = .ok (.istore_n 3, 1) := by decide +kernel
theorem dX6_findStrange_40 : decode cX6_findStrange 40 = .ok (.iload_n 3, 1) := by decide +kernel
theorem dX6_findStrange_41 : decode cX6_findStrange 41 = .ok (.aload_n 1, 1) := by decide +kernel
theorem dX6_findStrange_42 : decode cX6_findStrange 42 = .ok (.getfield 75, 3) := by decide +kernel
theorem dX6_findStrange_45 : decode cX6_findStrange 45 = .ok (.iload_n 2, 1) := by decide +kernel
theorem dX6_findStrange_46 : decode cX6_findStrange 46 = .ok (.iaload, 1) := by decide +kernel
theorem dX6_findStrange_47 : decode cX6_findStrange 47 = .ok (.if_icmp .ge 100, 3) := by decide +kernel
theorem dX6_findStrange_50 : decode cX6_findStrange 50 = .ok (.aload_n 0, 1) := by decide +kernel
theorem dX6_findStrange_51 : decode cX6_findStrange 51 = .ok (.aload_n 1, 1) := by decide +kernel
theorem dX6_findStrange_52 : decode cX6_findStrange 52 = .ok (.iload_n 2, 1) := by decide +kernel
theorem dX6_findStrange_53 : decode cX6_findStrange 53 = .ok (.iload_n 3, 1) := by decide +kernel
theorem dX6_findStrange_54 : decode cX6_findStrange 54 = .ok (.invokevirtual 116, 3) := by decide +kernel
theorem dX6_findStrange_57 : decode cX6_findStrange 57 = .ok (.istore 4, 2) := by decide +kernel
theorem dX6_findStrange_59 : decode cX6_findStrange 59 = .ok (.iconst 0, 1) := by decide +kernel
theorem dX6_findStrange_60 : decode cX6_findStrange 60 = .ok (.istore 5, 2) := by decide +kernel
theorem dX6_findStrange_62 : decode cX6_findStrange 62 = .ok (.iload 5, 2) := by decide +kernel
theorem dX6_findStrange_64 : decode cX6_findStrange 64 = .ok (.aload_n 1, 1) := by decide +kernel
theorem dX6_findStrange_65 : decode cX6_findStrange 65 = .ok (.getfield 35, 3) := by decide +kernel
theorem dX6_findStrange_68 : decode cX6_findStrange 68 = .ok (.if_icmp .ge 73, 3) := by decide +kernel
theorem dX6_findStrange_71 : decode cX6_findStrange 71 = .ok (.aload_n 0, 1) := by decide +kernel
theorem dX6_findStrange_72 : decode cX6_findStrange 72 = .ok (.getfield 24, 3) := by decide +kernel
theorem dX6_findStrange_75 : decode cX6_findStrange 75 = .ok (.getfield 130, 3) := by decide +kernel
theorem dX6_findStrange_78 : decode cX6_findStrange 78 = .ok (.iload 5, 2) := by decide +kernel
theorem dX6_findStrange_80 : decode cX6_findStrange 80 = .ok (.iload 4, 2) := by decide +kernel
theorem dX6_findStrange_82 : decode cX6_findStrange 82 = .ok (.iload_n 3, 1) := by decide +kernel
theorem dX6_findStrange_83 : decode cX6_findStrange 83 = .ok (.invokestatic 120, 3) := by decide +kernel
theorem dX6_findStrange_86 : decode cX6_findStrange 86 = .ok (.invokestatic 123, 3) := by decide +kernel
theorem dX6_findStrange_89 : decode cX6_findStrange 89 = .ok (.iaload, 1) := by decide +kernel
theorem dX6_findStrange_90 : decode cX6_findStrange 90 = .ok (.istore 6, 2) := by decide +kernel
theorem dX6_findStrange_92 : decode cX6_findStrange 92 = .ok (.aload_n 1, 1) := by decide +kernel
theorem dX6_findStrange_93 : decode cX6_findStrange 93 = .ok (.getfield 94, 3) := by decide +kernel
theorem dX6_findStrange_96 : decode cX6_findStrange 96 = .ok (.iload_n 2, 1) := by decide +kernel
theorem dX6_findStrange_97 : decode cX6_findStrange 97 = .ok (.iload 5, 2) := by decide +kernel
theorem dX6_findStrange_99 : decode cX6_findStrange 99 = .ok (.invokestatic 97, 3) := by decide +kernel
theorem dX6_findStrange_102 : decode cX6_findStrange 102 = .ok (.iload_n 3, 1) := by decide +kernel
theorem dX6_findStrange_103 : decode cX6_findStrange 103 = .ok (.iadd, 1) := by decide +kernel
theorem dX6_findStrange_104 : decode cX6_findStrange 104 = .ok (.iaload, 1) := by decide +kernel
theorem dX6_findStrange_105 : decode cX6_findStrange 105 = .ok (.istore 7, 2) := by decide +kernel
theorem dX6_findStrange_107 : decode cX6_findStrange 107 = .ok (.iload 6, 2) := by decide +kernel
theorem dX6_findStrange_109 : decode cX6_findStrange 109 = .ok (.iconst (-1), 1) := by decide +kernel
theorem dX6_findStrange_110 : decode cX6_findStrange 110 = .ok (.if_icmp .eq 25, 3) := by decide +kernel
theorem dX6_findStrange_113 : decode cX6_findStrange 113 = .ok (.iload 6, 2) := by decide +kernel
theorem dX6_findStrange_115 : decode cX6_findStrange 115 = .ok (.iload 7, 2) := by decide +kernel
theorem dX6_findStrange_117 : decode cX6_findStrange 117 = .ok (.if_icmp .eq 18, 3) := by decide +kernel
theorem dX6_findStrange_120 : decode cX6_findStrange 120 = .ok (.aload_n 0, 1) := by decide +kernel
theorem dX6_findStrange_121 : decode cX6_findStrange 121 = .ok (.getfield 18, 3) := by decide +kernel
theorem dX6_findStrange_124 : decode cX6_findStrange 124 = .ok (.iload_n 2, 1) := by decide +kernel
theorem dX6_findStrange_125 : decode cX6_findStrange 125 = .ok (.iconst 4, 1) := by decide +kernel
theorem dX6_findStrange_126 : decode cX6_findStrange 126 = .ok (.imul, 1) := by decide +kernel
theorem dX6_findStrange_127 : decode cX6_findStrange 127 = .ok (.iload 5, 2) := by decide +kernel
theorem dX6_findStrange_129 : decode cX6_findStrange 129 = .ok (.iadd, 1) := by decide +kernel
theorem dX6_findStrange_130 : decode cX6_findStrange 130 = .ok (.dup2, 1) := by decide +kernel
theorem dX6_findStrange_131 : decode cX6_findStrange 131 = .ok (.iaload, 1) := by decide +kernel
theorem dX6_findStrange_132 : decode cX6_findStrange 132 = .ok (.iconst 1, 1) := by decide +kernel
theorem dX6_findStrange_133 : decode cX6_findStrange 133 = .ok (.iadd, 1) := by decide +kernel
theorem dX6_findStrange_134 : decode cX6_findStrange 134 = .ok (.iastore, 1) := by decide +kernel
theorem dX6_findStrange_135 : decode cX6_findStrange 135 = .ok (.iinc 5 1, 3) := by decide +kernel
theorem dX6_findStrange_138 : decode cX6_findStrange 138 = .ok (.goto (-76), 3) := by decide +kernel
theorem dX6_findStrange_141 : decode cX6_findStrange 141 = .ok (.iinc 3 1, 3) := by decide +kernel
theorem dX6_findStrange_144 : decode cX6_findStrange 144 = .ok (.goto (-104), 3) := by decide +kernel
theorem dX6_findStrange_147 : decode cX6_findStrange 147 = .ok (.return_, 1) := by decide +kernel
theorem dX7_init_0 : decode cX7_init 0 = .ok (.aload_n 0, 1) := by decide +kernel
theorem dX7_init_1 : decode cX7_init 1 = .ok (.invokespecial 3, 3) := by decide +kernel
theorem dX7_init_4 : decode cX7_init 4 = .ok (.aload_n 0, 1) := by decide +kernel
theorem dX7_init_5 : decode cX7_init 5 = .ok (.bipush 7, 2) := by decide +kernel
theorem dX7_init_7 : decode cX7_init 7 = .ok (.newarray .int, 2) := by decide +kernel
theorem dX7_init_9 : decode cX7_init 9 = .ok (.putfield 9, 3) := by decide +kernel
theorem dX7_init_12 : decode cX7_init 12 = .ok (.aload_n 0, 1) := by decide +kernel
theorem dX7_init_13 : decode cX7_init 13 = .ok (.bipush 63, 2) := by decide +kernel
theorem dX7_init_15 : decode cX7_init 15 = .ok (.newarray .int, 2) := by decide +kernel
theorem dX7_init_17 : decode cX7_init 17 = .ok (.putfield 15, 3) := by decide +kernel
theorem dX7_init_20 : decode cX7_init 20 = .ok (.return_, 1) := by decide +kernel
theorem dX7_plant_0 : decode cX7_plant 0 = .ok (.aload_n 0, 1) := by decide +kernel
theorem dX7_plant_1 : decode cX7_plant 1 = .ok (.iload_n 1, 1) := by decide +kernel
theorem dX7_plant_2 : decode cX7_plant 2 = .ok (.putfield 18, 3) := by decide +kernel
theorem dX7_plant_5 : decode cX7_plant 5 = .ok (.return_, 1) := by decide +kernel
set_option maxRecDepth 20000 in
theorem ggX7_root_X8_nodesOf : GoodIn wsX7_root wsX8_nodesOf := goodIn_r _ [4] (by decide +kernel) (by decide +kernel)
set_option maxRecDepth 20000 in
theorem gX7_root_X8_nodesOf_n22 : GoodIn wsX7_root (wsX8_nodesOf) := ggX7_root_X8_nodesOf
theorem dX7_root_0 : decode cX7_root 0 = .ok (.aload_n 0, 1) := by decide +kernel
theorem dX7_root_1 : decode cX7_root 1 = .ok (.getfield 18, 3) := by decide +kernel
theorem dX7_root_4 : decode cX7_root 4 = .ok (.invokestatic 22, 3) := by decide +kernel
theorem dX7_root_7 : decode cX7_root 7 = .ok (.iconst 1, 1) := by decide +kernel
theorem dX7_root_8 : decode cX7_root 8 = .ok (.isub, 1) := by decide +kernel
theorem dX7_root_9 : decode cX7_root 9 = .ok (.ireturn, 1) := by decide +kernel
set_option maxRecDepth 20000 in
theorem ggX7_climb_X8_nodesOf : GoodIn wsX7_climb wsX8_nodesOf := goodIn_r _ [6] (by decide +kernel) (by decide +kernel)
set_option maxRecDepth 20000 in
theorem gX7_climb_X8_nodesOf_n22 : GoodIn wsX7_climb (wsX8_nodesOf) := ggX7_climb_X8_nodesOf
set_option maxRecDepth 20000 in
theorem ggX7_climb_X7_pairOf : GoodIn wsX7_climb wsX7_pairOf := goodIn_r _ [11, 1, 16, 17, 18] (by decide +kernel) (by decide +kernel)
set_option maxRecDepth 20000 in
theorem gX7_climb_X7_pairOf : GoodIn wsX7_climb (wsV RX7 26 RX7 yX7_pairOf wsX7_pairOf) := goodIn_app (goodIn_of _ (by decide +kernel)) ggX7_climb_X7_pairOf
set_option maxRecDepth 20000 in
theorem ggX7_climb_X7_leastBelow : GoodIn wsX7_climb wsX7_leastBelow := goodIn_r _ [15, 1, 3, 2, 16, 17, 18] (by decide +kernel) (by decide +kernel)
set_option maxRecDepth 20000 in
theorem gX7_climb_X7_leastBelow : GoodIn wsX7_climb (wsV RX7 32 RX7 yX7_leastBelow wsX7_leastBelow) := goodIn_app (goodIn_of _ (by decide +kernel)) ggX7_climb_X7_leastBelow
theorem dX7_climb_0 : decode cX7_climb 0 = .ok (.aload_n 0, 1) := by decide +kernel
theorem dX7_climb_1 : decode cX7_climb 1 = .ok (.getfield 18, 3) := by decide +kernel
theorem dX7_climb_4 : decode cX7_climb 4 = .ok (.invokestatic 22, 3) := by decide +kernel
theorem dX7_climb_7 : decode cX7_climb 7 = .ok (.istore_n 1, 1) := by decide +kernel
theorem dX7_climb_8 : decode cX7_climb 8 = .ok (.aload_n 0, 1) := by decide +kernel
theorem dX7_climb_9 : decode cX7_climb 9 = .ok (.getfield 18, 3) := by decide +kernel
theorem dX7_climb_12 : decode cX7_climb 12 = .ok (.istore_n 2, 1) := by decide +kernel
theorem dX7_climb_13 : decode cX7_climb 13 = .ok (.iload_n 2, 1) := by decide +kernel
theorem dX7_climb_14 : decode cX7_climb 14 = .ok (.iload_n 1, 1) := by decide +kernel
theorem dX7_climb_15 : decode cX7_climb 15 = .ok (.if_icmp .ge 68, 3) := by decide +kernel
theorem dX7_climb_18 : decode cX7_climb 18 = .ok (.aload_n 0, 1) := by decide +kernel
theorem dX7_climb_19 : decode cX7_climb 19 = .ok (.iload_n 2, 1) := by decide +kernel
theorem dX7_climb_20 : decode cX7_climb 20 = .ok (.invokevirtual 26, 3) := by decide +kernel
theorem dX7_climb_23 : decode cX7_climb 23 = .ok (.istore_n 3, 1) := by decide +kernel
theorem dX7_climb_24 : decode cX7_climb 24 = .ok (.iconst 0, 1) := by decide +kernel
theorem dX7_climb_25 : decode cX7_climb 25 = .ok (.istore 4, 2) := by decide +kernel
theorem dX7_climb_27 : decode cX7_climb 27 = .ok (.iload 4, 2) := by decide +kernel
theorem dX7_climb_29 : decode cX7_climb 29 = .ok (.bipush 9, 2) := by decide +kernel
theorem dX7_climb_31 : decode cX7_climb 31 = .ok (.if_icmp .ge 46, 3) := by decide +kernel
theorem dX7_climb_34 : decode cX7_climb 34 = .ok (.aload_n 0, 1) := by decide +kernel
theorem dX7_climb_35 : decode cX7_climb 35 = .ok (.getfield 15, 3) := by decide +kernel
theorem dX7_climb_38 : decode cX7_climb 38 = .ok (.iload_n 2, 1) := by decide +kernel
theorem dX7_climb_39 : decode cX7_climb 39 = .ok (.bipush 9, 2) := by decide +kernel
theorem dX7_climb_41 : decode cX7_climb 41 = .ok (.imul, 1) := by decide +kernel
theorem dX7_climb_42 : decode cX7_climb 42 = .ok (.iload 4, 2) := by decide +kernel
theorem dX7_climb_44 : decode cX7_climb 44 = .ok (.iadd, 1) := by decide +kernel
theorem dX7_climb_45 : decode cX7_climb 45 = .ok (.aload_n 0, 1) := by decide +kernel
theorem dX7_climb_46 : decode cX7_climb 46 = .ok (.getstatic 29, 3) := by decide +kernel
theorem dX7_climb_49 : decode cX7_climb 49 = .ok (.iload_n 3, 1) := by decide +kernel
theorem dX7_climb_50 : decode cX7_climb 50 = .ok (.iaload, 1) := by decide +kernel
theorem dX7_climb_51 : decode cX7_climb 51 = .ok (.iload 4, 2) := by decide +kernel
theorem dX7_climb_53 : decode cX7_climb 53 = .ok (.invokevirtual 32, 3) := by decide +kernel
theorem dX7_climb_56 : decode cX7_climb 56 = .ok (.aload_n 0, 1) := by decide +kernel
theorem dX7_climb_57 : decode cX7_climb 57 = .ok (.getstatic 29, 3) := by decide +kernel
theorem dX7_climb_60 : decode cX7_climb 60 = .ok (.iload_n 3, 1) := by decide +kernel
theorem dX7_climb_61 : decode cX7_climb 61 = .ok (.iconst 1, 1) := by decide +kernel
theorem dX7_climb_62 : decode cX7_climb 62 = .ok (.iadd, 1) := by decide +kernel
theorem dX7_climb_63 : decode cX7_climb 63 = .ok (.iaload, 1) := by decide +kernel
theorem dX7_climb_64 : decode cX7_climb 64 = .ok (.iload 4, 2) := by decide +kernel
theorem dX7_climb_66 : decode cX7_climb 66 = .ok (.invokevirtual 32, 3) := by decide +kernel
theorem dX7_climb_69 : decode cX7_climb 69 = .ok (.iadd, 1) := by decide +kernel
theorem dX7_climb_70 : decode cX7_climb 70 = .ok (.iastore, 1) := by decide +kernel
theorem dX7_climb_71 : decode cX7_climb 71 = .ok (.iinc 4 1, 3) := by decide +kernel
theorem dX7_climb_74 : decode cX7_climb 74 = .ok (.goto (-47), 3) := by decide +kernel
theorem dX7_climb_77 : decode cX7_climb 77 = .ok (.iinc 2 1, 3) := by decide +kernel
theorem dX7_climb_80 : decode cX7_climb 80 = .ok (.goto (-67), 3) := by decide +kernel
theorem dX7_climb_83 : decode cX7_climb 83 = .ok (.iload_n 1, 1) := by decide +kernel
theorem dX7_climb_84 : decode cX7_climb 84 = .ok (.iconst 1, 1) := by decide +kernel
theorem dX7_climb_85 : decode cX7_climb 85 = .ok (.isub, 1) := by decide +kernel
theorem dX7_climb_86 : decode cX7_climb 86 = .ok (.istore_n 2, 1) := by decide +kernel
theorem dX7_climb_87 : decode cX7_climb 87 = .ok (.iconst 0, 1) := by decide +kernel
theorem dX7_climb_88 : decode cX7_climb 88 = .ok (.istore_n 3, 1) := by decide +kernel
theorem dX7_climb_89 : decode cX7_climb 89 = .ok (.iconst 1, 1) := by decide +kernel
theorem dX7_climb_90 : decode cX7_climb 90 = .ok (.istore 4, 2) := by decide +kernel
theorem dX7_climb_92 : decode cX7_climb 92 = .ok (.iload 4, 2) := by decide +kernel
theorem dX7_climb_94 : decode cX7_climb 94 = .ok (.bipush 9, 2) := by decide +kernel
theorem dX7_climb_96 : decode cX7_climb 96 = .ok (.if_icmp .ge 38, 3) := by decide +kernel
theorem dX7_climb_99 : decode cX7_climb 99 = .ok (.aload_n 0, 1) := by decide +kernel
theorem dX7_climb_100 : decode cX7_climb 100 = .ok (.getfield 15, 3) := by decide +kernel
theorem dX7_climb_103 : decode cX7_climb 103 = .ok (.iload_n 2, 1) := by decide +kernel
theorem dX7_climb_104 : decode cX7_climb 104 = .ok (.bipush 9, 2) := by decide +kernel
theorem dX7_climb_106 : decode cX7_climb 106 = .ok (.imul, 1) := by decide +kernel
theorem dX7_climb_107 : decode cX7_climb 107 = .ok (.iload 4, 2) := by decide +kernel
theorem dX7_climb_109 : decode cX7_climb 109 = .ok (.iadd, 1) := by decide +kernel
theorem dX7_climb_110 : decode cX7_climb 110 = .ok (.iaload, 1) := by decide +kernel
theorem dX7_climb_111 : decode cX7_climb 111 = .ok (.aload_n 0, 1) := by decide +kernel
theorem dX7_climb_112 : decode cX7_climb 112 = .ok (.getfield 15, 3) := by decide +kernel
theorem dX7_climb_115 : decode cX7_climb 115 = .ok (.iload_n 2, 1) := by decide +kernel
theorem dX7_climb_116 : decode cX7_climb 116 = .ok (.bipush 9, 2) := by decide +kernel
theorem dX7_climb_118 : decode cX7_climb 118 = .ok (.imul, 1) := by decide +kernel
theorem dX7_climb_119 : decode cX7_climb 119 = .ok (.iload_n 3, 1) := by decide +kernel
theorem dX7_climb_120 : decode cX7_climb 120 = .ok (.iadd, 1) := by decide +kernel
theorem dX7_climb_121 : decode cX7_climb 121 = .ok (.iaload, 1) := by decide +kernel
theorem dX7_climb_122 : decode cX7_climb 122 = .ok (.if_icmp .ge 6, 3) := by decide +kernel
theorem dX7_climb_125 : decode cX7_climb 125 = .ok (.iload 4, 2) := by decide +kernel
theorem dX7_climb_127 : decode cX7_climb 127 = .ok (.istore_n 3, 1) := by decide +kernel
theorem dX7_climb_128 : decode cX7_climb 128 = .ok (.iinc 4 1, 3) := by decide +kernel
theorem dX7_climb_131 : decode cX7_climb 131 = .ok (.goto (-39), 3) := by decide +kernel
theorem dX7_climb_134 : decode cX7_climb 134 = .ok (.aload_n 0, 1) := by decide +kernel
theorem dX7_climb_135 : decode cX7_climb 135 = .ok (.getfield 9, 3) := by decide +kernel
theorem dX7_climb_138 : decode cX7_climb 138 = .ok (.iload_n 2, 1) := by decide +kernel
theorem dX7_climb_139 : decode cX7_climb 139 = .ok (.iload_n 3, 1) := by decide +kernel
theorem dX7_climb_140 : decode cX7_climb 140 = .ok (.iastore, 1) := by decide +kernel
theorem dX7_climb_141 : decode cX7_climb 141 = .ok (.aload_n 0, 1) := by decide +kernel
theorem dX7_climb_142 : decode cX7_climb 142 = .ok (.getfield 15, 3) := by decide +kernel
theorem dX7_climb_145 : decode cX7_climb 145 = .ok (.iload_n 2, 1) := by decide +kernel
theorem dX7_climb_146 : decode cX7_climb 146 = .ok (.bipush 9, 2) := by decide +kernel
theorem dX7_climb_148 : decode cX7_climb 148 = .ok (.imul, 1) := by decide +kernel
theorem dX7_climb_149 : decode cX7_climb 149 = .ok (.iload_n 3, 1) := by decide +kernel
theorem dX7_climb_150 : decode cX7_climb 150 = .ok (.iadd, 1) := by decide +kernel
theorem dX7_climb_151 : decode cX7_climb 151 = .ok (.iaload, 1) := by decide +kernel
theorem dX7_climb_152 : decode cX7_climb 152 = .ok (.ireturn, 1) := by decide +kernel
set_option maxRecDepth 20000 in
theorem ggX7_descend_X7_root : GoodIn wsX7_descend wsX7_root := goodIn_r _ [7, 1, 8, 9, 10, 23, 24, 25] (by decide +kernel) (by decide +kernel)
set_option maxRecDepth 20000 in
theorem gX7_descend_X7_root : GoodIn wsX7_descend (wsV RX7 36 RX7 yX7_root wsX7_root) := goodIn_app (goodIn_of _ (by decide +kernel)) ggX7_descend_X7_root
set_option maxRecDepth 20000 in
theorem ggX7_descend_X7_pairOf : GoodIn wsX7_descend wsX7_pairOf := goodIn_r _ [14, 1, 23, 24, 25] (by decide +kernel) (by decide +kernel)
set_option maxRecDepth 20000 in
theorem gX7_descend_X7_pairOf : GoodIn wsX7_descend (wsV RX7 26 RX7 yX7_pairOf wsX7_pairOf) := goodIn_app (goodIn_of _ (by decide +kernel)) ggX7_descend_X7_pairOf
set_option maxRecDepth 20000 in
theorem ggX7_descend_X7_settle : GoodIn wsX7_descend wsX7_settle := goodIn_r _ [18, 1, 19, 2, 20, 9, 21, 22, 23, 24, 25] (by decide +kernel) (by decide +kernel)
set_option maxRecDepth 20000 in
theorem gX7_descend_X7_settle : GoodIn wsX7_descend (wsV RX7 40 RX7 yX7_settle wsX7_settle) := goodIn_app (goodIn_of _ (by decide +kernel)) ggX7_descend_X7_settle
theorem dX7_descend_0 : decode cX7_descend 0 = .ok (.aload_n 0, 1) := by decide +kernel
theorem dX7_descend_1 : decode cX7_descend 1 = .ok (.invokevirtual 36, 3) := by decide +kernel
theorem dX7_descend_4 : decode cX7_descend 4 = .ok (.istore_n 1, 1) := by decide +kernel
theorem dX7_descend_5 : decode cX7_descend 5 = .ok (.iload_n 1, 1) := by decide +kernel
theorem dX7_descend_6 : decode cX7_descend 6 = .ok (.aload_n 0, 1) := by decide +kernel
theorem dX7_descend_7 : decode cX7_descend 7 = .ok (.getfield 18, 3) := by decide +kernel
theorem dX7_descend_10 : decode cX7_descend 10 = .ok (.if_icmp .lt 47, 3) := by decide +kernel
theorem dX7_descend_13 : decode cX7_descend 13 = .ok (.aload_n 0, 1) := by decide +kernel
theorem dX7_descend_14 : decode cX7_descend 14 = .ok (.iload_n 1, 1) := by decide +kernel
theorem dX7_descend_15 : decode cX7_descend 15 = .ok (.invokevirtual 26, 3) := by decide +kernel
theorem dX7_descend_18 : decode cX7_descend 18 = .ok (.istore_n 2, 1) := by decide +kernel
theorem dX7_descend_19 : decode cX7_descend 19 = .ok (.aload_n 0, 1) := by decide +kernel
theorem dX7_descend_20 : decode cX7_descend 20 = .ok (.getstatic 29, 3) := by decide +kernel
theorem dX7_descend_23 : decode cX7_descend 23 = .ok (.iload_n 2, 1) := by decide +kernel
theorem dX7_descend_24 : decode cX7_descend 24 = .ok (.iaload, 1) := by decide +kernel
theorem dX7_descend_25 : decode cX7_descend 25 = .ok (.aload_n 0, 1) := by decide +kernel
theorem dX7_descend_26 : decode cX7_descend 26 = .ok (.getfield 9, 3) := by decide +kernel
theorem dX7_descend_29 : decode cX7_descend 29 = .ok (.iload_n 1, 1) := by decide +kernel
theorem dX7_descend_30 : decode cX7_descend 30 = .ok (.iaload, 1) := by decide +kernel
theorem dX7_descend_31 : decode cX7_descend 31 = .ok (.invokevirtual 40, 3) := by decide +kernel
theorem dX7_descend_34 : decode cX7_descend 34 = .ok (.aload_n 0, 1) := by decide +kernel
theorem dX7_descend_35 : decode cX7_descend 35 = .ok (.getstatic 29, 3) := by decide +kernel
theorem dX7_descend_38 : decode cX7_descend 38 = .ok (.iload_n 2, 1) := by decide +kernel
theorem dX7_descend_39 : decode cX7_descend 39 = .ok (.iconst 1, 1) := by decide +kernel
theorem dX7_descend_40 : decode cX7_descend 40 = .ok (.iadd, 1) := by decide +kernel
theorem dX7_descend_41 : decode cX7_descend 41 = .ok (.iaload, 1) := by decide +kernel
theorem dX7_descend_42 : decode cX7_descend 42 = .ok (.aload_n 0, 1) := by decide +kernel
theorem dX7_descend_43 : decode cX7_descend 43 = .ok (.getfield 9, 3) := by decide +kernel
theorem dX7_descend_46 : decode cX7_descend 46 = .ok (.iload_n 1, 1) := by decide +kernel
theorem dX7_descend_47 : decode cX7_descend 47 = .ok (.iaload, 1) := by decide +kernel
theorem dX7_descend_48 : decode cX7_descend 48 = .ok (.invokevirtual 40, 3) := by decide +kernel
theorem dX7_descend_51 : decode cX7_descend 51 = .ok (.iinc 1 (-1), 3) := by decide +kernel
theorem dX7_descend_54 : decode cX7_descend 54 = .ok (.goto (-49), 3) := by decide +kernel
theorem dX7_descend_57 : decode cX7_descend 57 = .ok (.return_, 1) := by decide +kernel
theorem dX7_pairOf_0 : decode cX7_pairOf 0 = .ok (.getstatic 44, 3) := by decide +kernel
theorem dX7_pairOf_3 : decode cX7_pairOf 3 = .ok (.aload_n 0, 1) := by decide +kernel
theorem dX7_pairOf_4 : decode cX7_pairOf 4 = .ok (.getfield 18, 3) := by decide +kernel
theorem dX7_pairOf_7 : decode cX7_pairOf 7 = .ok (.iaload, 1) := by decide +kernel
theorem dX7_pairOf_8 : decode cX7_pairOf 8 = .ok (.iconst 2, 1) := by decide +kernel
theorem dX7_pairOf_9 : decode cX7_pairOf 9 = .ok (.iload_n 1, 1) := by decide +kernel
theorem dX7_pairOf_10 : decode cX7_pairOf 10 = .ok (.aload_n 0, 1) := by decide +kernel
theorem dX7_pairOf_11 : decode cX7_pairOf 11 = .ok (.getfield 18, 3) := by decide +kernel
theorem dX7_pairOf_14 : decode cX7_pairOf 14 = .ok (.isub, 1) := by decide +kernel
theorem dX7_pairOf_15 : decode cX7_pairOf 15 = .ok (.imul, 1) := by decide +kernel
theorem dX7_pairOf_16 : decode cX7_pairOf 16 = .ok (.iadd, 1) := by decide +kernel
theorem dX7_pairOf_17 : decode cX7_pairOf 17 = .ok (.ireturn, 1) := by decide +kernel
theorem dX7_leastBelow_0 : decode cX7_leastBelow 0 = .ok (.iload_n 2, 1) := by decide +kernel
theorem dX7_leastBelow_1 : decode cX7_leastBelow 1 = .ok (.bipush 9, 2) := by decide +kernel
theorem dX7_leastBelow_3 : decode cX7_leastBelow 3 = .ok (.imul, 1) := by decide +kernel
theorem dX7_leastBelow_4 : decode cX7_leastBelow 4 = .ok (.istore_n 3, 1) := by decide +kernel
theorem dX7_leastBelow_5 : decode cX7_leastBelow 5 = .ok (.iload_n 1, 1) := by decide +kernel
theorem dX7_leastBelow_6 : decode cX7_leastBelow 6 = .ok (.aload_n 0, 1) := by decide +kernel
theorem dX7_leastBelow_7 : decode cX7_leastBelow 7 = .ok (.getfield 18, 3) := by decide +kernel
theorem dX7_leastBelow_10 : decode cX7_leastBelow 10 = .ok (.if_icmp .ge 16, 3) := by decide +kernel
theorem dX7_leastBelow_13 : decode cX7_leastBelow 13 = .ok (.getstatic 47, 3) := by decide +kernel
theorem dX7_leastBelow_16 : decode cX7_leastBelow 16 = .ok (.iload_n 3, 1) := by decide +kernel
theorem dX7_leastBelow_17 : decode cX7_leastBelow 17 = .ok (.aload_n 0, 1) := by decide +kernel
theorem dX7_leastBelow_18 : decode cX7_leastBelow 18 = .ok (.getfield 9, 3) := by decide +kernel
theorem dX7_leastBelow_21 : decode cX7_leastBelow 21 = .ok (.iload_n 1, 1) := by decide +kernel
theorem dX7_leastBelow_22 : decode cX7_leastBelow 22 = .ok (.iaload, 1) := by decide +kernel
theorem dX7_leastBelow_23 : decode cX7_leastBelow 23 = .ok (.iadd, 1) := by decide +kernel
theorem dX7_leastBelow_24 : decode cX7_leastBelow 24 = .ok (.iaload, 1) := by decide +kernel
theorem dX7_leastBelow_25 : decode cX7_leastBelow 25 = .ok (.ireturn, 1) := by decide +kernel
theorem dX7_leastBelow_26 : decode cX7_leastBelow 26 = .ok (.iload_n 1, 1) := by decide +kernel
theorem dX7_leastBelow_27 : decode cX7_leastBelow 27 = .ok (.bipush 9, 2) := by decide +kernel
theorem dX7_leastBelow_29 : decode cX7_leastBelow 29 = .ok (.imul, 1) := by decide +kernel
theorem dX7_leastBelow_30 : decode cX7_leastBelow 30 = .ok (.istore 4, 2) := by decide +kernel
theorem dX7_leastBelow_32 : decode cX7_leastBelow 32 = .ok (.getstatic 47, 3) := by decide +kernel
theorem dX7_leastBelow_35 : decode cX7_leastBelow 35 = .ok (.iload_n 3, 1) := by decide +kernel
theorem dX7_leastBelow_36 : decode cX7_leastBelow 36 = .ok (.iaload, 1) := by decide +kernel
theorem dX7_leastBelow_37 : decode cX7_leastBelow 37 = .ok (.aload_n 0, 1) := by decide +kernel
theorem dX7_leastBelow_38 : decode cX7_leastBelow 38 = .ok (.getfield 15, 3) := by decide +kernel
theorem dX7_leastBelow_41 : decode cX7_leastBelow 41 = .ok (.iload 4, 2) := by decide +kernel
theorem dX7_leastBelow_43 : decode cX7_leastBelow 43 = .ok (.iaload, 1) := by decide +kernel
theorem dX7_leastBelow_44 : decode cX7_leastBelow 44 = .ok (.iadd, 1) := by decide +kernel
theorem dX7_leastBelow_45 : decode cX7_leastBelow 45 = .ok (.istore 5, 2) := by decide +kernel
theorem dX7_leastBelow_47 : decode cX7_leastBelow 47 = .ok (.iconst 1, 1) := by decide +kernel
theorem dX7_leastBelow_48 : decode cX7_leastBelow 48 = .ok (.istore 6, 2) := by decide +kernel
theorem dX7_leastBelow_50 : decode cX7_leastBelow 50 = .ok (.iload 6, 2) := by decide +kernel
theorem dX7_leastBelow_52 : decode cX7_leastBelow 52 = .ok (.bipush 9, 2) := by decide +kernel
theorem dX7_leastBelow_54 : decode cX7_leastBelow 54 = .ok (.if_icmp .ge 41, 3) := by decide +kernel
theorem dX7_leastBelow_57 : decode cX7_leastBelow 57 = .ok (.getstatic 47, 3) := by decide +kernel
theorem dX7_leastBelow_60 : decode cX7_leastBelow 60 = .ok (.iload_n 3, 1) := by decide +kernel
theorem dX7_leastBelow_61 : decode cX7_leastBelow 61 = .ok (.iload 6, 2) := by decide +kernel
theorem dX7_leastBelow_63 : decode cX7_leastBelow 63 = .ok (.iadd, 1) := by decide +kernel
theorem dX7_leastBelow_64 : decode cX7_leastBelow 64 = .ok (.iaload, 1) := by decide +kernel
theorem dX7_leastBelow_65 : decode cX7_leastBelow 65 = .ok (.aload_n 0, 1) := by decide +kernel
theorem dX7_leastBelow_66 : decode cX7_leastBelow 66 = .ok (.getfield 15, 3) := by decide +kernel
theorem dX7_leastBelow_69 : decode cX7_leastBelow 69 = .ok (.iload 4, 2) := by decide +kernel
theorem dX7_leastBelow_71 : decode cX7_leastBelow 71 = .ok (.iload 6, 2) := by decide +kernel
theorem dX7_leastBelow_73 : decode cX7_leastBelow 73 = .ok (.iadd, 1) := by decide +kernel
theorem dX7_leastBelow_74 : decode cX7_leastBelow 74 = .ok (.iaload, 1) := by decide +kernel
theorem dX7_leastBelow_75 : decode cX7_leastBelow 75 = .ok (.iadd, 1) := by decide +kernel
theorem dX7_leastBelow_76 : decode cX7_leastBelow 76 = .ok (.istore 7, 2) := by decide +kernel
theorem dX7_leastBelow_78 : decode cX7_leastBelow 78 = .ok (.iload 7, 2) := by decide +kernel
theorem dX7_leastBelow_80 : decode cX7_leastBelow 80 = .ok (.iload 5, 2) := by decide +kernel
theorem dX7_leastBelow_82 : decode cX7_leastBelow 82 = .ok (.if_icmp .ge 7, 3) := by decide +kernel
theorem dX7_leastBelow_85 : decode cX7_leastBelow 85 = .ok (.iload 7, 2) := by decide +kernel
theorem dX7_leastBelow_87 : decode cX7_leastBelow 87 = .ok (.istore 5, 2) := by decide +kernel
theorem dX7_leastBelow_89 : decode cX7_leastBelow 89 = .ok (.iinc 6 1, 3) := by decide +kernel
theorem dX7_leastBelow_92 : decode cX7_leastBelow 92 = .ok (.goto (-42), 3) := by decide +kernel
theorem dX7_leastBelow_95 : decode cX7_leastBelow 95 = .ok (.iload 5, 2) := by decide +kernel
theorem dX7_leastBelow_97 : decode cX7_leastBelow 97 = .ok (.ireturn, 1) := by decide +kernel
set_option maxRecDepth 20000 in
theorem ggX7_settle_X8_costOf : GoodIn wsX7_settle wsX8_costOf := goodIn_r _ [6, 7] (by decide +kernel) (by decide +kernel)
set_option maxRecDepth 20000 in
theorem gX7_settle_X8_costOf_n50 : GoodIn wsX7_settle (wsX8_costOf) := ggX7_settle_X8_costOf
theorem dX7_settle_0 : decode cX7_settle 0 = .ok (.iload_n 1, 1) := by decide +kernel
theorem dX7_settle_1 : decode cX7_settle 1 = .ok (.aload_n 0, 1) := by decide +kernel
theorem dX7_settle_2 : decode cX7_settle 2 = .ok (.getfield 18, 3) := by decide +kernel
theorem dX7_settle_5 : decode cX7_settle 5 = .ok (.if_icmp .ge 4, 3) := by decide +kernel
theorem dX7_settle_8 : decode cX7_settle 8 = .ok (.return_, 1) := by decide +kernel
theorem dX7_settle_9 : decode cX7_settle 9 = .ok (.iconst 0, 1) := by decide +kernel
theorem dX7_settle_10 : decode cX7_settle 10 = .ok (.istore_n 3, 1) := by decide +kernel
theorem dX7_settle_11 : decode cX7_settle 11 = .ok (.iload_n 2, 1) := by decide +kernel
theorem dX7_settle_12 : decode cX7_settle 12 = .ok (.iconst 0, 1) := by decide +kernel
theorem dX7_settle_13 : decode cX7_settle 13 = .ok (.invokestatic 50, 3) := by decide +kernel
theorem dX7_settle_16 : decode cX7_settle 16 = .ok (.aload_n 0, 1) := by decide +kernel
theorem dX7_settle_17 : decode cX7_settle 17 = .ok (.getfield 15, 3) := by decide +kernel
theorem dX7_settle_20 : decode cX7_settle 20 = .ok (.iload_n 1, 1) := by decide +kernel
theorem dX7_settle_21 : decode cX7_settle 21 = .ok (.bipush 9, 2) := by decide +kernel
theorem dX7_settle_23 : decode cX7_settle 23 = .ok (.imul, 1) := by decide +kernel
theorem dX7_settle_24 : decode cX7_settle 24 = .ok (.iaload, 1) := by decide +kernel
theorem dX7_settle_25 : decode cX7_settle 25 = .ok (.iadd, 1) := by decide +kernel
theorem dX7_settle_26 : decode cX7_settle 26 = .ok (.istore 4, 2) := by decide +kernel
theorem dX7_settle_28 : decode cX7_settle 28 = .ok (.iconst 1, 1) := by decide +kernel
theorem dX7_settle_29 : decode cX7_settle 29 = .ok (.istore 5, 2) := by decide +kernel
theorem dX7_settle_31 : decode cX7_settle 31 = .ok (.iload 5, 2) := by decide +kernel
theorem dX7_settle_33 : decode cX7_settle 33 = .ok (.bipush 9, 2) := by decide +kernel
theorem dX7_settle_35 : decode cX7_settle 35 = .ok (.if_icmp .ge 44, 3) := by decide +kernel
theorem dX7_settle_38 : decode cX7_settle 38 = .ok (.iload_n 2, 1) := by decide +kernel
theorem dX7_settle_39 : decode cX7_settle 39 = .ok (.iload 5, 2) := by decide +kernel
theorem dX7_settle_41 : decode cX7_settle 41 = .ok (.invokestatic 50, 3) := by decide +kernel
theorem dX7_settle_44 : decode cX7_settle 44 = .ok (.aload_n 0, 1) := by decide +kernel
theorem dX7_settle_45 : decode cX7_settle 45 = .ok (.getfield 15, 3) := by decide +kernel
theorem dX7_settle_48 : decode cX7_settle 48 = .ok (.iload_n 1, 1) := by decide +kernel
theorem dX7_settle_49 : decode cX7_settle 49 = .ok (.bipush 9, 2) := by decide +kernel
theorem dX7_settle_51 : decode cX7_settle 51 = .ok (.imul, 1) := by decide +kernel
theorem dX7_settle_52 : decode cX7_settle 52 = .ok (.iload 5, 2) := by decide +kernel
theorem dX7_settle_54 : decode cX7_settle 54 = .ok (.iadd, 1) := by decide +kernel
theorem dX7_settle_55 : decode cX7_settle 55 = .ok (.iaload, 1) := by decide +kernel
theorem dX7_settle_56 : decode cX7_settle 56 = .ok (.iadd, 1) := by decide +kernel
theorem dX7_settle_57 : decode cX7_settle 57 = .ok (.istore 6, 2) := by decide +kernel
theorem dX7_settle_59 : decode cX7_settle 59 = .ok (.iload 6, 2) := by decide +kernel
theorem dX7_settle_61 : decode cX7_settle 61 = .ok (.iload 4, 2) := by decide +kernel
theorem dX7_settle_63 : decode cX7_settle 63 = .ok (.if_icmp .ge 10, 3) := by decide +kernel
theorem dX7_settle_66 : decode cX7_settle 66 = .ok (.iload 6, 2) := by decide +kernel
theorem dX7_settle_68 : decode cX7_settle 68 = .ok (.istore 4, 2) := by decide +kernel
theorem dX7_settle_70 : decode cX7_settle 70 = .ok (.iload 5, 2) := by decide +kernel
theorem dX7_settle_72 : decode cX7_settle 72 = .ok (.istore_n 3, 1) := by decide +kernel
theorem dX7_settle_73 : decode cX7_settle 73 = .ok (.iinc 5 1, 3) := by decide +kernel
theorem dX7_settle_76 : decode cX7_settle 76 = .ok (.goto (-45), 3) := by decide +kernel
theorem dX7_settle_79 : decode cX7_settle 79 = .ok (.aload_n 0, 1) := by decide +kernel
theorem dX7_settle_80 : decode cX7_settle 80 = .ok (.getfield 9, 3) := by decide +kernel
theorem dX7_settle_83 : decode cX7_settle 83 = .ok (.iload_n 1, 1) := by decide +kernel
theorem dX7_settle_84 : decode cX7_settle 84 = .ok (.iload_n 3, 1) := by decide +kernel
theorem dX7_settle_85 : decode cX7_settle 85 = .ok (.iastore, 1) := by decide +kernel
theorem dX7_settle_86 : decode cX7_settle 86 = .ok (.return_, 1) := by decide +kernel
set_option maxRecDepth 20000 in
theorem ggX8_init_X3_init : GoodIn wsX8_init wsX3_init := goodIn_r _ [33, 34, 2, 3, 35, 11, 12, 36, 37, 38, 39, 4, 40, 41, 42, 107, 108, 109, 110, 111, 100, 101, 102, 103, 104, 105, 106] (by decide +kernel) (by decide +kernel)
set_option maxRecDepth 20000 in
theorem gX8_init_X3_init_n15 : GoodIn wsX8_init (wsX3_init) := ggX8_init_X3_init
set_option maxRecDepth 20000 in
theorem ggX8_init_X5_init : GoodIn wsX8_init wsX5_init := goodIn_r _ [38, 39, 2, 3, 4, 40, 41, 42, 107, 108, 109, 110, 111] (by decide +kernel) (by decide +kernel)
set_option maxRecDepth 20000 in
theorem gX8_init_X5_init_n22 : GoodIn wsX8_init (wsX5_init) := ggX8_init_X5_init
set_option maxRecDepth 20000 in
theorem ggX8_init_X4_init : GoodIn wsX8_init wsX4_init := goodIn_r _ [44, 45, 2, 3, 4, 46, 47, 48, 49, 112, 113, 114, 115] (by decide +kernel) (by decide +kernel)
set_option maxRecDepth 20000 in
theorem gX8_init_X4_init_n29 : GoodIn wsX8_init (wsX4_init) := ggX8_init_X4_init
set_option maxRecDepth 20000 in
theorem ggX8_init_X6_init : GoodIn wsX8_init wsX6_init := goodIn_r _ [51, 52, 2, 3, 4, 53, 54, 55, 56, 57, 58, 59, 60, 61, 62, 63, 64, 65, 66, 67, 68, 69, 70, 71, 72, 73, 74, 75, 116, 117, 118, 119, 120, 121, 131, 132, 133, 134, 135, 136, 137, 138, 139] (by decide +kernel) (by decide +kernel)
set_option maxRecDepth 20000 in
theorem gX8_init_X6_init_n36 : GoodIn wsX8_init (wsX6_init) := ggX8_init_X6_init
set_option maxRecDepth 20000 in
theorem ggX8_init_X0_init : GoodIn wsX8_init wsX0_init := goodIn_r _ [77, 78, 2, 3, 4, 79, 80, 81, 122, 123, 124, 125, 126] (by decide +kernel) (by decide +kernel)
set_option maxRecDepth 20000 in
theorem gX8_init_X0_init_n49 : GoodIn wsX8_init (wsX0_init) := ggX8_init_X0_init
set_option maxRecDepth 20000 in
theorem ggX8_init_X1_init : GoodIn wsX8_init wsX1_init := goodIn_r _ [83, 84, 2, 3, 85, 61, 62, 86, 71, 72, 73, 4, 74, 75, 137, 138, 139, 127, 128, 129, 130] (by decide +kernel) (by decide +kernel)
set_option maxRecDepth 20000 in
theorem gX8_init_X1_init_n56 : GoodIn wsX8_init (wsX1_init) := ggX8_init_X1_init
theorem dX8_init_0 : decode cX8_init 0 = .ok (.aload_n 0, 1) := by decide +kernel
theorem dX8_init_1 : decode cX8_init 1 = .ok (.invokespecial 1, 3) := by decide +kernel
theorem dX8_init_4 : decode cX8_init 4 = .ok (.aload_n 0, 1) := by decide +kernel
theorem dX8_init_5 : decode cX8_init 5 = .ok (.bipush 110, 2) := by decide +kernel
theorem dX8_init_7 : decode cX8_init 7 = .ok (.newarray .int, 2) := by decide +kernel
theorem dX8_init_9 : decode cX8_init 9 = .ok (.putfield 9, 3) := by decide +kernel
theorem dX8_init_12 : decode cX8_init 12 = .ok (.aload_n 0, 1) := by decide +kernel
theorem dX8_init_13 : decode cX8_init 13 = .ok (.new 13, 3) := by decide +kernel
theorem dX8_init_16 : decode cX8_init 16 = .ok (.dup, 1) := by decide +kernel
theorem dX8_init_17 : decode cX8_init 17 = .ok (.invokespecial 15, 3) := by decide +kernel
theorem dX8_init_20 : decode cX8_init 20 = .ok (.putfield 16, 3) := by decide +kernel
theorem dX8_init_23 : decode cX8_init 23 = .ok (.aload_n 0, 1) := by decide +kernel
theorem dX8_init_24 : decode cX8_init 24 = .ok (.new 20, 3) := by decide +kernel
theorem dX8_init_27 : decode cX8_init 27 = .ok (.dup, 1) := by decide +kernel
theorem dX8_init_28 : decode cX8_init 28 = .ok (.invokespecial 22, 3) := by decide +kernel
theorem dX8_init_31 : decode cX8_init 31 = .ok (.putfield 23, 3) := by decide +kernel
theorem dX8_init_34 : decode cX8_init 34 = .ok (.aload_n 0, 1) := by decide +kernel
theorem dX8_init_35 : decode cX8_init 35 = .ok (.new 27, 3) := by decide +kernel
theorem dX8_init_38 : decode cX8_init 38 = .ok (.dup, 1) := by decide +kernel
theorem dX8_init_39 : decode cX8_init 39 = .ok (.invokespecial 29, 3) := by decide +kernel
theorem dX8_init_42 : decode cX8_init 42 = .ok (.putfield 30, 3) := by decide +kernel
theorem dX8_init_45 : decode cX8_init 45 = .ok (.aload_n 0, 1) := by decide +kernel
theorem dX8_init_46 : decode cX8_init 46 = .ok (.new 34, 3) := by decide +kernel
theorem dX8_init_49 : decode cX8_init 49 = .ok (.dup, 1) := by decide +kernel
theorem dX8_init_50 : decode cX8_init 50 = .ok (.invokespecial 36, 3) := by decide +kernel
theorem dX8_init_53 : decode cX8_init 53 = .ok (.putfield 37, 3) := by decide +kernel
theorem dX8_init_56 : decode cX8_init 56 = .ok (.aload_n 0, 1) := by decide +kernel
theorem dX8_init_57 : decode cX8_init 57 = .ok (.new 20, 3) := by decide +kernel
theorem dX8_init_60 : decode cX8_init 60 = .ok (.dup, 1) := by decide +kernel
theorem dX8_init_61 : decode cX8_init 61 = .ok (.invokespecial 22, 3) := by decide +kernel
theorem dX8_init_64 : decode cX8_init 64 = .ok (.putfield 41, 3) := by decide +kernel
theorem dX8_init_67 : decode cX8_init 67 = .ok (.aload_n 0, 1) := by decide +kernel
theorem dX8_init_68 : decode cX8_init 68 = .ok (.new 27, 3) := by decide +kernel
theorem dX8_init_71 : decode cX8_init 71 = .ok (.dup, 1) := by decide +kernel
theorem dX8_init_72 : decode cX8_init 72 = .ok (.invokespecial 29, 3) := by decide +kernel
theorem dX8_init_75 : decode cX8_init 75 = .ok (.putfield 44, 3) := by decide +kernel
theorem dX8_init_78 : decode cX8_init 78 = .ok (.aload_n 0, 1) := by decide +kernel
theorem dX8_init_79 : decode cX8_init 79 = .ok (.new 47, 3) := by decide +kernel
theorem dX8_init_82 : decode cX8_init 82 = .ok (.dup, 1) := by decide +kernel
theorem dX8_init_83 : decode cX8_init 83 = .ok (.invokespecial 49, 3) := by decide +kernel
theorem dX8_init_86 : decode cX8_init 86 = .ok (.putfield 50, 3) := by decide +kernel
theorem dX8_init_89 : decode cX8_init 89 = .ok (.aload_n 0, 1) := by decide +kernel
theorem dX8_init_90 : decode cX8_init 90 = .ok (.new 54, 3) := by decide +kernel
theorem dX8_init_93 : decode cX8_init 93 = .ok (.dup, 1) := by decide +kernel
theorem dX8_init_94 : decode cX8_init 94 = .ok (.invokespecial 56, 3) := by decide +kernel
theorem dX8_init_97 : decode cX8_init 97 = .ok (.putfield 57, 3) := by decide +kernel
theorem dX8_init_100 : decode cX8_init 100 = .ok (.return_, 1) := by decide +kernel
theorem dX8_letter_0 : decode cX8_letter 0 = .ok (.iload_n 1, 1) := by decide +kernel
theorem dX8_letter_1 : decode cX8_letter 1 = .ok (.iconst 1, 1) := by decide +kernel
theorem dX8_letter_2 : decode cX8_letter 2 = .ok (.if_icmp .lt 9, 3) := by decide +kernel
theorem dX8_letter_5 : decode cX8_letter 5 = .ok (.iload_n 1, 1) := by decide +kernel
theorem dX8_letter_6 : decode cX8_letter 6 = .ok (.bipush 126, 2) := by decide +kernel
theorem dX8_letter_8 : decode cX8_letter 8 = .ok (.if_icmp .le 6, 3) := by decide +kernel
theorem dX8_letter_11 : decode cX8_letter 11 = .ok (.bipush (-102), 2) := by decide +kernel
theorem dX8_letter_13 : decode cX8_letter 13 = .ok (.ireturn, 1) := by decide +kernel
theorem dX8_letter_14 : decode cX8_letter 14 = .ok (.aload_n 0, 1) := by decide +kernel
theorem dX8_letter_15 : decode cX8_letter 15 = .ok (.getfield 61, 3) := by decide +kernel
theorem dX8_letter_18 : decode cX8_letter 18 = .ok (.bipush 110, 2) := by decide +kernel
theorem dX8_letter_20 : decode cX8_letter 20 = .ok (.if_icmp .lt 6, 3) := by decide +kernel
theorem dX8_letter_23 : decode cX8_letter 23 = .ok (.bipush (-104), 2) := by decide +kernel
theorem dX8_letter_25 : decode cX8_letter 25 = .ok (.ireturn, 1) := by decide +kernel
theorem dX8_letter_26 : decode cX8_letter 26 = .ok (.aload_n 0, 1) := by decide +kernel
theorem dX8_letter_27 : decode cX8_letter 27 = .ok (.getfield 9, 3) := by decide +kernel
theorem dX8_letter_30 : decode cX8_letter 30 = .ok (.aload_n 0, 1) := by decide +kernel
theorem dX8_letter_31 : decode cX8_letter 31 = .ok (.getfield 61, 3) := by decide +kernel
theorem dX8_letter_34 : decode cX8_letter 34 = .ok (.iload_n 1, 1) := by decide +kernel
theorem dX8_letter_35 : decode cX8_letter 35 = .ok (.iastore, 1) := by decide +kernel
theorem dX8_letter_36 : decode cX8_letter 36 = .ok (.aload_n 0, 1) := by decide +kernel
theorem dX8_letter_37 : decode cX8_letter 37 = .ok (.dup, 1) := by decide +kernel
theorem dX8_letter_38 : decode cX8_letter 38 = .ok (.getfield 61, 3) := by decide +kernel
theorem dX8_letter_41 : decode cX8_letter 41 = .ok (.iconst 1, 1) := by decide +kernel
theorem dX8_letter_42 : decode cX8_letter 42 = .ok (.iadd, 1) := by decide +kernel
theorem dX8_letter_43 : decode cX8_letter 43 = .ok (.putfield 61, 3) := by decide +kernel
theorem dX8_letter_46 : decode cX8_letter 46 = .ok (.aload_n 0, 1) := by decide +kernel
theorem dX8_letter_47 : decode cX8_letter 47 = .ok (.getfield 61, 3) := by decide +kernel
theorem dX8_letter_50 : decode cX8_letter 50 = .ok (.ireturn, 1) := by decide +kernel
theorem dX8_blank_0 : decode cX8_blank 0 = .ok (.aload_n 0, 1) := by decide +kernel
theorem dX8_blank_1 : decode cX8_blank 1 = .ok (.getfield 61, 3) := by decide +kernel
theorem dX8_blank_4 : decode cX8_blank 4 = .ok (.istore_n 1, 1) := by decide +kernel
theorem dX8_blank_5 : decode cX8_blank 5 = .ok (.aload_n 0, 1) := by decide +kernel
theorem dX8_blank_6 : decode cX8_blank 6 = .ok (.iconst 0, 1) := by decide +kernel
theorem dX8_blank_7 : decode cX8_blank 7 = .ok (.putfield 61, 3) := by decide +kernel
theorem dX8_blank_10 : decode cX8_blank 10 = .ok (.iload_n 1, 1) := by decide +kernel
theorem dX8_blank_11 : decode cX8_blank 11 = .ok (.ireturn, 1) := by decide +kernel
set_option maxRecDepth 20000 in
theorem ggX8_fault_X8_readPage : GoodIn wsX8_fault wsX8_readPage := goodIn_r _ [5, 6, 7, 8, 9, 10, 11, 12, 13, 14, 15, 16, 17, 18, 19, 20, 21, 22, 23, 24, 25, 26, 27, 28, 29, 30, 31, 32, 33, 34, 35, 36, 37, 38, 39, 40, 41, 42, 43, 44, 45, 46, 47, 48, 49, 50, 51, 52, 53, 54, 55, 56, 57, 58, 59, 60, 61, 62, 63, 64, 65, 66, 67, 68, 69, 70, 71, 72, 73, 74, 75, 76, 77, 78, 79, 80, 81, 82, 83, 84, 85, 86, 87, 88, 89, 90, 91, 92, 93, 94, 95, 96, 97, 98, 99, 100, 101, 102, 103, 104, 105, 106, 107, 108, 109, 110, 111, 112, 113, 114, 115, 116, 117, 118, 119, 120, 121, 122, 123, 124, 125, 126, 127, 128, 129, 130, 131, 132, 133, 134, 135, 136, 137, 138, 139, 140, 141, 142, 143, 144, 145, 146, 147, 148, 149, 150, 151, 4, 152, 153, 154, 155, 156, 157, 158, 159, 160, 161, 162, 163, 164, 165, 166, 167, 168, 169, 170, 171, 172, 173, 174, 175, 176, 177] (by decide +kernel) (by decide +kernel)
set_option maxRecDepth 20000 in
theorem gX8_fault_X8_readPage : GoodIn wsX8_fault (wsV RX8 65 RX8 yX8_readPage wsX8_readPage) := goodIn_app (goodIn_of _ (by decide +kernel)) ggX8_fault_X8_readPage
theorem dX8_fault_0 : decode cX8_fault 0 = .ok (.aload_n 0, 1) := by decide +kernel
theorem dX8_fault_1 : decode cX8_fault 1 = .ok (.invokevirtual 65, 3) := by decide +kernel
theorem dX8_fault_4 : decode cX8_fault 4 = .ok (.ireturn, 1) := by decide +kernel
set_option maxRecDepth 20000 in
theorem ggX8_sets_X8_readPage : GoodIn wsX8_sets wsX8_readPage := goodIn_r _ [14, 2, 1, 15, 16, 17, 18, 19, 20, 21, 22, 23, 24, 25, 26, 27, 28, 29, 30, 31, 32, 33, 34, 35, 36, 37, 38, 39, 40, 41, 42, 43, 44, 45, 46, 47, 48, 49, 50, 51, 52, 53, 54, 55, 56, 57, 58, 59, 60, 61, 62, 63, 64, 65, 66, 67, 68, 69, 70, 71, 72, 73, 74, 75, 76, 77, 78, 79, 80, 81, 82, 83, 84, 85, 86, 87, 88, 89, 90, 91, 92, 93, 94, 95, 96, 97, 98, 99, 100, 101, 102, 103, 104, 105, 106, 107, 108, 109, 110, 111, 112, 113, 114, 115, 116, 117, 118, 119, 120, 121, 122, 123, 124, 125, 126, 127, 128, 129, 130, 131, 132, 133, 134, 135, 136, 137, 138, 139, 140, 141, 142, 143, 144, 145, 146, 147, 148, 149, 150, 151, 152, 153, 154, 155, 156, 157, 158, 13, 159, 184, 185, 186, 187, 188, 189, 190, 191, 192, 193, 194, 195, 196, 197, 198, 199, 200, 201, 202, 203, 204, 205, 206, 207, 208] (by decide +kernel) (by decide +kernel)
set_option maxRecDepth 20000 in
theorem gX8_sets_X8_readPage : GoodIn wsX8_sets (wsV RX8 65 RX8 yX8_readPage wsX8_readPage) := goodIn_app (goodIn_of _ (by decide +kernel)) ggX8_sets_X8_readPage
set_option maxRecDepth 20000 in
theorem ggX8_sets_X3_finish : GoodIn wsX8_sets wsX3_finish := goodIn_r _ [163, 24, 21, 125, 23, 25, 149, 150, 151, 19, 152, 136, 137, 138, 139, 130, 140, 123, 141, 142, 143, 144, 131, 197, 198, 199, 200, 201, 202, 203, 204, 205, 206, 207, 208] (by decide +kernel) (by decide +kernel)
set_option maxRecDepth 20000 in
theorem gX8_sets_X3_finish : GoodIn wsX8_sets (wsV RX8 69 RX3 yX3_finish wsX3_finish) := goodIn_app (goodIn_of _ (by decide +kernel)) ggX8_sets_X3_finish
set_option maxRecDepth 20000 in
theorem ggX8_sets_X5_become : GoodIn wsX8_sets wsX5_become := goodIn_r _ [168, 169, 170, 171, 172, 173, 174, 175, 176, 177, 204, 205, 206, 207, 208] (by decide +kernel) (by decide +kernel)
set_option maxRecDepth 20000 in
theorem gX8_sets_X5_become : GoodIn wsX8_sets (wsV RX8 76 RX5 yX5_become wsX5_become) := goodIn_app (goodIn_of _ (by decide +kernel)) ggX8_sets_X5_become
set_option maxRecDepth 20000 in
theorem ggX8_sets_X4_clear : GoodIn wsX8_sets wsX4_clear := goodIn_r _ [182, 183, 209, 210, 211, 212] (by decide +kernel) (by decide +kernel)
set_option maxRecDepth 20000 in
theorem gX8_sets_X4_clear : GoodIn wsX8_sets (wsV RX8 80 RX4 yX4_clear wsX4_clear) := goodIn_app (goodIn_of _ (by decide +kernel)) ggX8_sets_X4_clear
theorem dX8_sets_0 : decode cX8_sets 0 = .ok (.aload_n 0, 1) := by decide +kernel
theorem dX8_sets_1 : decode cX8_sets 1 = .ok (.invokevirtual 65, 3) := by decide +kernel
theorem dX8_sets_4 : decode cX8_sets 4 = .ok (.aload_n 0, 1) := by decide +kernel
theorem dX8_sets_5 : decode cX8_sets 5 = .ok (.getfield 61, 3) := by decide +kernel
theorem dX8_sets_8 : decode cX8_sets 8 = .ok (.if_icmp .lt 13, 3) := by decide +kernel
theorem dX8_sets_11 : decode cX8_sets 11 = .ok (.aload_n 0, 1) := by decide +kernel
theorem dX8_sets_12 : decode cX8_sets 12 = .ok (.getfield 16, 3) := by decide +kernel
theorem dX8_sets_15 : decode cX8_sets 15 = .ok (.invokevirtual 69, 3) := by decide +kernel
theorem dX8_sets_18 : decode cX8_sets 18 = .ok (.ifCond .ne 6, 3) := by decide +kernel
theorem dX8_sets_21 : decode cX8_sets 21 = .ok (.bipush (-103), 2) := by decide +kernel
theorem dX8_sets_23 : decode cX8_sets 23 = .ok (.ireturn, 1) := by decide +kernel
theorem dX8_sets_24 : decode cX8_sets 24 = .ok (.aload_n 0, 1) := by decide +kernel
theorem dX8_sets_25 : decode cX8_sets 25 = .ok (.getfield 23, 3) := by decide +kernel
theorem dX8_sets_28 : decode cX8_sets 28 = .ok (.aload_n 0, 1) := by decide +kernel
theorem dX8_sets_29 : decode cX8_sets 29 = .ok (.getfield 16, 3) := by decide +kernel
theorem dX8_sets_32 : decode cX8_sets 32 = .ok (.getfield 73, 3) := by decide +kernel
theorem dX8_sets_35 : decode cX8_sets 35 = .ok (.invokevirtual 76, 3) := by decide +kernel
theorem dX8_sets_38 : decode cX8_sets 38 = .ok (.aload_n 0, 1) := by decide +kernel
theorem dX8_sets_39 : decode cX8_sets 39 = .ok (.getfield 30, 3) := by decide +kernel
theorem dX8_sets_42 : decode cX8_sets 42 = .ok (.invokevirtual 80, 3) := by decide +kernel
theorem dX8_sets_45 : decode cX8_sets 45 = .ok (.aload_n 0, 1) := by decide +kernel
theorem dX8_sets_46 : decode cX8_sets 46 = .ok (.iconst 0, 1) := by decide +kernel
theorem dX8_sets_47 : decode cX8_sets 47 = .ok (.putfield 83, 3) := by decide +kernel
theorem dX8_sets_50 : decode cX8_sets 50 = .ok (.aload_n 0, 1) := by decide +kernel
theorem dX8_sets_51 : decode cX8_sets 51 = .ok (.iconst 0, 1) := by decide +kernel
theorem dX8_sets_52 : decode cX8_sets 52 = .ok (.putfield 87, 3) := by decide +kernel
theorem dX8_sets_55 : decode cX8_sets 55 = .ok (.aload_n 0, 1) := by decide +kernel
theorem dX8_sets_56 : decode cX8_sets 56 = .ok (.iconst 0, 1) := by decide +kernel
theorem dX8_sets_57 : decode cX8_sets 57 = .ok (.putfield 61, 3) := by decide +kernel
theorem dX8_sets_60 : decode cX8_sets 60 = .ok (.aload_n 0, 1) := by decide +kernel
theorem dX8_sets_61 : decode cX8_sets 61 = .ok (.dup, 1) := by decide +kernel
theorem dX8_sets_62 : decode cX8_sets 62 = .ok (.getfield 90, 3) := by decide +kernel
theorem dX8_sets_65 : decode cX8_sets 65 = .ok (.iconst 1, 1) := by decide +kernel
theorem dX8_sets_66 : decode cX8_sets 66 = .ok (.iadd, 1) := by decide +kernel
theorem dX8_sets_67 : decode cX8_sets 67 = .ok (.putfield 90, 3) := by decide +kernel
theorem dX8_sets_70 : decode cX8_sets 70 = .ok (.aload_n 0, 1) := by decide +kernel
theorem dX8_sets_71 : decode cX8_sets 71 = .ok (.getfield 23, 3) := by decide +kernel
theorem dX8_sets_74 : decode cX8_sets 74 = .ok (.getfield 93, 3) := by decide +kernel
theorem dX8_sets_77 : decode cX8_sets 77 = .ok (.ireturn, 1) := by decide +kernel
set_option maxRecDepth 20000 in
theorem ggX8_set_X8_isSet : GoodIn wsX8_set wsX8_isSet := goodIn_r _ [5, 6, 7, 171, 172, 173, 174, 175, 176, 177, 178, 179, 180, 181, 182, 183, 184, 185, 186, 187, 188] (by decide +kernel) (by decide +kernel)
set_option maxRecDepth 20000 in
theorem gX8_set_X8_isSet : GoodIn wsX8_set (wsV RX8 96 RX8 yX8_isSet wsX8_isSet) := goodIn_app (goodIn_of _ (by decide +kernel)) ggX8_set_X8_isSet
set_option maxRecDepth 20000 in
theorem ggX8_set_X8_freshenStudy : GoodIn wsX8_set wsX8_freshenStudy := goodIn_r _ [11, 12, 13, 6, 14, 15, 16, 17, 18, 19, 20, 21, 22, 23, 24, 25, 26, 27, 28, 29, 30, 31, 32, 33, 34, 35, 36, 37, 38, 39, 40, 41, 42, 43, 44, 4, 45, 46, 47, 48, 49, 50, 51, 52, 53, 54, 55, 56, 57, 58, 59, 60, 61, 62, 63, 64, 65, 66, 67, 68, 69, 70, 71, 72, 73, 74, 75, 76, 77, 78, 79, 80, 81, 82, 83, 84, 85, 86, 87, 88, 89, 90, 91, 92, 93, 94, 95, 96, 97, 98, 99, 100, 101, 102, 103, 104, 105, 106, 107, 108, 109, 110, 111, 112, 113, 114, 115, 116, 117, 118, 119, 120, 121, 122, 123, 171, 172, 173, 174, 175, 176, 177, 178, 179, 180, 181, 182, 183, 189, 190, 191, 192, 193, 194, 184, 185, 186, 187, 188, 195, 196, 197, 198, 199, 200, 201, 202, 203] (by decide +kernel) (by decide +kernel)
set_option maxRecDepth 20000 in
theorem gX8_set_X8_freshenStudy : GoodIn wsX8_set (wsV RX8 100 RX8 yX8_freshenStudy wsX8_freshenStudy) := goodIn_app (goodIn_of _ (by decide +kernel)) ggX8_set_X8_freshenStudy
set_option maxRecDepth 20000 in
theorem ggX8_set_X8_tellOfSet : GoodIn wsX8_set wsX8_tellOfSet := goodIn_r _ [127, 6, 128, 129, 13, 130, 131, 132, 133, 134, 17, 135, 122, 136, 137, 138, 139, 20, 36, 140, 141, 142, 143, 144, 145, 146, 147, 148, 149, 150, 151, 152, 153, 154, 155, 156, 157, 158, 159, 160, 161, 162, 163, 164, 165, 166, 167, 168, 169, 170, 171, 172, 173, 174, 175, 176, 177, 178, 179, 180, 181, 182, 183, 184, 185, 186, 187, 188, 189, 190, 191, 192, 193, 194, 204, 205, 206, 207] (by decide +kernel) (by decide +kernel)
set_option maxRecDepth 20000 in
theorem gX8_set_X8_tellOfSet : GoodIn wsX8_set (wsV RX8 103 RX8 yX8_tellOfSet wsX8_tellOfSet) := goodIn_app (goodIn_of _ (by decide +kernel)) ggX8_set_X8_tellOfSet
theorem dX8_set_0 : decode cX8_set 0 = .ok (.aload_n 0, 1) := by decide +kernel
theorem dX8_set_1 : decode cX8_set 1 = .ok (.iload_n 1, 1) := by decide +kernel
theorem dX8_set_2 : decode cX8_set 2 = .ok (.invokevirtual 96, 3) := by decide +kernel
theorem dX8_set_5 : decode cX8_set 5 = .ok (.ifCond .ne 6, 3) := by decide +kernel
theorem dX8_set_8 : decode cX8_set 8 = .ok (.bipush (-101), 2) := by decide +kernel
theorem dX8_set_10 : decode cX8_set 10 = .ok (.ireturn, 1) := by decide +kernel
theorem dX8_set_11 : decode cX8_set 11 = .ok (.iload_n 2, 1) := by decide +kernel
theorem dX8_set_12 : decode cX8_set 12 = .ok (.ifCond .lt 9, 3) := by decide +kernel
theorem dX8_set_15 : decode cX8_set 15 = .ok (.iload_n 2, 1) := by decide +kernel
theorem dX8_set_16 : decode cX8_set 16 = .ok (.bipush 7, 2) := by decide +kernel
theorem dX8_set_18 : decode cX8_set 18 = .ok (.if_icmp .lt 6, 3) := by decide +kernel
theorem dX8_set_21 : decode cX8_set 21 = .ok (.bipush (-102), 2) := by decide +kernel
theorem dX8_set_23 : decode cX8_set 23 = .ok (.ireturn, 1) := by decide +kernel
theorem dX8_set_24 : decode cX8_set 24 = .ok (.aload_n 0, 1) := by decide +kernel
theorem dX8_set_25 : decode cX8_set 25 = .ok (.invokevirtual 100, 3) := by decide +kernel
theorem dX8_set_28 : decode cX8_set 28 = .ok (.aload_n 0, 1) := by decide +kernel
theorem dX8_set_29 : decode cX8_set 29 = .ok (.iload_n 1, 1) := by decide +kernel
theorem dX8_set_30 : decode cX8_set 30 = .ok (.iload_n 2, 1) := by decide +kernel
theorem dX8_set_31 : decode cX8_set 31 = .ok (.invokevirtual 103, 3) := by decide +kernel
theorem dX8_set_34 : decode cX8_set 34 = .ok (.ireturn, 1) := by decide +kernel
set_option maxRecDepth 20000 in
theorem ggX8_as_X8_isSet : GoodIn wsX8_as wsX8_isSet := goodIn_r _ [7, 1, 8, 15, 16, 17, 18, 19, 20, 21, 22, 23, 24, 25, 26, 27, 28, 29, 30, 31, 32] (by decide +kernel) (by decide +kernel)
set_option maxRecDepth 20000 in
theorem gX8_as_X8_isSet : GoodIn wsX8_as (wsV RX8 96 RX8 yX8_isSet wsX8_isSet) := goodIn_app (goodIn_of _ (by decide +kernel)) ggX8_as_X8_isSet
set_option maxRecDepth 20000 in
theorem ggX8_as_X8_isKind : GoodIn wsX8_as wsX8_isKind := goodIn_r _ [11] (by decide +kernel) (by decide +kernel)
set_option maxRecDepth 20000 in
theorem gX8_as_X8_isKind : GoodIn wsX8_as (va_wsS RX8 107 yX8_isKind wsX8_isKind) := goodIn_app (goodIn_of _ (by decide +kernel)) ggX8_as_X8_isKind
set_option maxRecDepth 20000 in
theorem ggX8_as_X8_isOfKind : GoodIn wsX8_as wsX8_isOfKind := goodIn_r _ [14] (by decide +kernel) (by decide +kernel)
set_option maxRecDepth 20000 in
theorem gX8_as_X8_isOfKind : GoodIn wsX8_as (va_wsS RX8 113 yX8_isOfKind wsX8_isOfKind) := goodIn_app (goodIn_of _ (by decide +kernel)) ggX8_as_X8_isOfKind
theorem dX8_as_0 : decode cX8_as 0 = .ok (.aload_n 0, 1) := by decide +kernel
theorem dX8_as_1 : decode cX8_as 1 = .ok (.iload_n 1, 1) := by decide +kernel
theorem dX8_as_2 : decode cX8_as 2 = .ok (.invokevirtual 96, 3) := by decide +kernel
theorem dX8_as_5 : decode cX8_as 5 = .ok (.ifCond .ne 6, 3) := by decide +kernel
theorem dX8_as_8 : decode cX8_as 8 = .ok (.bipush (-101), 2) := by decide +kernel
theorem dX8_as_10 : decode cX8_as 10 = .ok (.ireturn, 1) := by decide +kernel
theorem dX8_as_11 : decode cX8_as 11 = .ok (.iload_n 2, 1) := by decide +kernel
theorem dX8_as_12 : decode cX8_as 12 = .ok (.invokestatic 107, 3) := by decide +kernel
theorem dX8_as_15 : decode cX8_as 15 = .ok (.ifCond .ne 6, 3) := by decide +kernel
theorem dX8_as_18 : decode cX8_as 18 = .ok (.bipush (-102), 2) := by decide +kernel
theorem dX8_as_20 : decode cX8_as 20 = .ok (.ireturn, 1) := by decide +kernel
theorem dX8_as_21 : decode cX8_as 21 = .ok (.aload_n 0, 1) := by decide +kernel
theorem dX8_as_22 : decode cX8_as 22 = .ok (.getfield 23, 3) := by decide +kernel
theorem dX8_as_25 : decode cX8_as 25 = .ok (.getfield 110, 3) := by decide +kernel
theorem dX8_as_28 : decode cX8_as 28 = .ok (.iload_n 1, 1) := by decide +kernel
theorem dX8_as_29 : decode cX8_as 29 = .ok (.iaload, 1) := by decide +kernel
theorem dX8_as_30 : decode cX8_as 30 = .ok (.iload_n 2, 1) := by decide +kernel
theorem dX8_as_31 : decode cX8_as 31 = .ok (.invokestatic 113, 3) := by decide +kernel
theorem dX8_as_34 : decode cX8_as 34 = .ok (.ifCond .eq 7, 3) := by decide +kernel
theorem dX8_as_37 : decode cX8_as 37 = .ok (.iload_n 1, 1) := by decide +kernel
theorem dX8_as_38 : decode cX8_as 38 = .ok (.goto 4, 3) := by decide +kernel
theorem dX8_as_41 : decode cX8_as 41 = .ok (.iconst (-1), 1) := by decide +kernel
theorem dX8_as_42 : decode cX8_as 42 = .ok (.ireturn, 1) := by decide +kernel
set_option maxRecDepth 20000 in
theorem ggX8_sound_X8_isSet : GoodIn wsX8_sound wsX8_isSet := goodIn_r _ [5, 6, 7, 145, 146, 147, 148, 149, 150, 151, 152, 153, 154, 155, 156, 157, 158, 159, 160, 161, 162] (by decide +kernel) (by decide +kernel)

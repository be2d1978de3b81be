set_option maxRecDepth 20000 in
theorem gX8_sound_X8_isSet : GoodIn wsX8_sound (wsV RX8 96 RX8 yX8_isSet wsX8_isSet) := goodIn_app (goodIn_of _ (by decide +kernel)) ggX8_sound_X8_isSet
set_option maxRecDepth 20000 in
theorem ggX8_sound_X8_isNode : GoodIn wsX8_sound wsX8_isNode := goodIn_r _ [11, 6, 12, 13, 14, 4, 15, 145, 146, 147, 148, 149, 150, 151, 152, 153, 154, 155, 156, 157, 158, 159, 160, 161, 162] (by decide +kernel) (by decide +kernel)
set_option maxRecDepth 20000 in
theorem gX8_sound_X8_isNode : GoodIn wsX8_sound (wsV RX8 117 RX8 yX8_isNode wsX8_isNode) := goodIn_app (goodIn_of _ (by decide +kernel)) ggX8_sound_X8_isNode
set_option maxRecDepth 20000 in
theorem ggX8_sound_X8_isPlace : GoodIn wsX8_sound wsX8_isPlace := goodIn_r _ [19, 6, 20, 145, 146, 147, 148, 149, 150, 151, 152, 153, 154, 155, 156, 157, 158, 159, 160, 161, 162] (by decide +kernel) (by decide +kernel)
set_option maxRecDepth 20000 in
theorem gX8_sound_X8_isPlace : GoodIn wsX8_sound (wsV RX8 120 RX8 yX8_isPlace wsX8_isPlace) := goodIn_app (goodIn_of _ (by decide +kernel)) ggX8_sound_X8_isPlace
set_option maxRecDepth 20000 in
theorem ggX8_sound_X8_freshenStudy : GoodIn wsX8_sound wsX8_freshenStudy := goodIn_r _ [24, 25, 26, 6, 27, 28, 29, 30, 31, 32, 33, 34, 35, 36, 37, 38, 39, 40, 41, 42, 43, 44, 45, 46, 47, 48, 49, 50, 51, 52, 53, 54, 55, 56, 57, 4, 58, 59, 60, 61, 62, 63, 64, 14, 15, 65, 66, 67, 68, 69, 70, 71, 72, 73, 74, 75, 76, 77, 78, 79, 80, 81, 82, 83, 84, 85, 86, 87, 88, 89, 90, 91, 92, 93, 94, 95, 96, 97, 98, 99, 100, 101, 102, 103, 104, 105, 106, 107, 108, 109, 110, 111, 112, 113, 114, 115, 116, 117, 118, 119, 120, 121, 122, 123, 124, 125, 126, 127, 128, 129, 130, 131, 132, 133, 134, 145, 146, 147, 148, 149, 150, 151, 152, 153, 154, 155, 156, 157, 163, 164, 165, 166, 167, 168, 158, 159, 160, 161, 162, 169, 170, 171, 172, 173, 174, 175, 176, 177] (by decide +kernel) (by decide +kernel)
set_option maxRecDepth 20000 in
theorem gX8_sound_X8_freshenStudy : GoodIn wsX8_sound (wsV RX8 100 RX8 yX8_freshenStudy wsX8_freshenStudy) := goodIn_app (goodIn_of _ (by decide +kernel)) ggX8_sound_X8_freshenStudy
set_option maxRecDepth 20000 in
theorem ggX8_sound_X8_tellOfNode : GoodIn wsX8_sound wsX8_tellOfNode := goodIn_r _ [138, 6, 12, 139, 140, 141, 26, 142, 143, 57, 4, 58, 144, 88, 89, 145, 146, 147, 148, 149, 150, 151, 152, 153, 154, 155, 156, 157, 158, 159, 160, 161, 162, 163, 164, 165, 166, 167, 168] (by decide +kernel) (by decide +kernel)
set_option maxRecDepth 20000 in
theorem gX8_sound_X8_tellOfNode : GoodIn wsX8_sound (wsV RX8 123 RX8 yX8_tellOfNode wsX8_tellOfNode) := goodIn_app (goodIn_of _ (by decide +kernel)) ggX8_sound_X8_tellOfNode
theorem dX8_sound_0 : decode cX8_sound 0 = .ok (.aload_n 0, 1) := by decide +kernel
theorem dX8_sound_1 : decode cX8_sound 1 = .ok (.iload_n 1, 1) := by decide +kernel
theorem dX8_sound_2 : decode cX8_sound 2 = .ok (.invokevirtual 96, 3) := by decide +kernel
theorem dX8_sound_5 : decode cX8_sound 5 = .ok (.ifCond .eq 20, 3) := by decide +kernel
theorem dX8_sound_8 : decode cX8_sound 8 = .ok (.aload_n 0, 1) := by decide +kernel
theorem dX8_sound_9 : decode cX8_sound 9 = .ok (.iload_n 2, 1) := by decide +kernel
theorem dX8_sound_10 : decode cX8_sound 10 = .ok (.invokevirtual 117, 3) := by decide +kernel
theorem dX8_sound_13 : decode cX8_sound 13 = .ok (.ifCond .eq 12, 3) := by decide +kernel
theorem dX8_sound_16 : decode cX8_sound 16 = .ok (.aload_n 0, 1) := by decide +kernel
theorem dX8_sound_17 : decode cX8_sound 17 = .ok (.iload_n 1, 1) := by decide +kernel
theorem dX8_sound_18 : decode cX8_sound 18 = .ok (.iload_n 3, 1) := by decide +kernel
theorem dX8_sound_19 : decode cX8_sound 19 = .ok (.invokevirtual 120, 3) := by decide +kernel
theorem dX8_sound_22 : decode cX8_sound 22 = .ok (.ifCond .ne 6, 3) := by decide +kernel
theorem dX8_sound_25 : decode cX8_sound 25 = .ok (.bipush (-101), 2) := by decide +kernel
theorem dX8_sound_27 : decode cX8_sound 27 = .ok (.ireturn, 1) := by decide +kernel
theorem dX8_sound_28 : decode cX8_sound 28 = .ok (.aload_n 0, 1) := by decide +kernel
theorem dX8_sound_29 : decode cX8_sound 29 = .ok (.invokevirtual 100, 3) := by decide +kernel
theorem dX8_sound_32 : decode cX8_sound 32 = .ok (.aload_n 0, 1) := by decide +kernel
theorem dX8_sound_33 : decode cX8_sound 33 = .ok (.iload_n 1, 1) := by decide +kernel
theorem dX8_sound_34 : decode cX8_sound 34 = .ok (.iload_n 2, 1) := by decide +kernel
theorem dX8_sound_35 : decode cX8_sound 35 = .ok (.iload_n 3, 1) := by decide +kernel
theorem dX8_sound_36 : decode cX8_sound 36 = .ok (.invokevirtual 123, 3) := by decide +kernel
theorem dX8_sound_39 : decode cX8_sound 39 = .ok (.ireturn, 1) := by decide +kernel
set_option maxRecDepth 20000 in
theorem ggX8_law_X8_isTongue : GoodIn wsX8_law wsX8_isTongue := goodIn_r _ [7, 8, 9, 133, 134, 135, 136, 137, 138, 139, 140, 141, 142, 143, 144, 145, 152, 153, 154, 155, 156] (by decide +kernel) (by decide +kernel)
set_option maxRecDepth 20000 in
theorem gX8_law_X8_isTongue : GoodIn wsX8_law (wsV RX8 127 RX8 yX8_isTongue wsX8_isTongue) := goodIn_app (goodIn_of _ (by decide +kernel)) ggX8_law_X8_isTongue
set_option maxRecDepth 20000 in
theorem ggX8_law_X8_isSound : GoodIn wsX8_law wsX8_isSound := goodIn_r _ [12] (by decide +kernel) (by decide +kernel)
set_option maxRecDepth 20000 in
theorem gX8_law_X8_isSound : GoodIn wsX8_law (va_wsS RX8 130 yX8_isSound wsX8_isSound) := goodIn_app (goodIn_of _ (by decide +kernel)) ggX8_law_X8_isSound
set_option maxRecDepth 20000 in
theorem ggX8_law_X8_freshenStudy : GoodIn wsX8_law wsX8_freshenStudy := goodIn_r _ [16, 17, 1, 8, 18, 19, 20, 21, 22, 23, 24, 25, 26, 27, 28, 29, 30, 31, 32, 33, 34, 35, 36, 37, 38, 39, 40, 41, 42, 43, 44, 45, 46, 47, 48, 6, 49, 50, 51, 52, 53, 54, 55, 56, 57, 58, 59, 60, 61, 62, 63, 64, 65, 66, 67, 68, 69, 70, 71, 72, 73, 74, 75, 76, 77, 78, 79, 80, 81, 82, 83, 84, 85, 86, 87, 88, 89, 90, 91, 92, 93, 94, 95, 96, 97, 98, 99, 100, 101, 102, 103, 104, 105, 106, 107, 108, 109, 110, 111, 112, 113, 114, 115, 116, 117, 118, 119, 120, 121, 122, 123, 124, 125, 126, 127, 133, 134, 135, 136, 137, 138, 139, 140, 141, 142, 143, 144, 145, 146, 147, 148, 149, 150, 151, 152, 153, 154, 155, 156, 157, 158, 159, 160, 161, 162, 163, 164, 165] (by decide +kernel) (by decide +kernel)
set_option maxRecDepth 20000 in
theorem gX8_law_X8_freshenStudy : GoodIn wsX8_law (wsV RX8 100 RX8 yX8_freshenStudy wsX8_freshenStudy) := goodIn_app (goodIn_of _ (by decide +kernel)) ggX8_law_X8_freshenStudy
set_option maxRecDepth 20000 in
theorem ggX8_law_X8_lawAt : GoodIn wsX8_law wsX8_lawAt := goodIn_r _ [104] (by decide +kernel) (by decide +kernel)
set_option maxRecDepth 20000 in
theorem gX8_law_X8_lawAt : GoodIn wsX8_law (va_wsS RX8 137 yX8_lawAt wsX8_lawAt) := goodIn_app (goodIn_of _ (by decide +kernel)) ggX8_law_X8_lawAt
set_option maxRecDepth 20000 in
theorem ggX8_law_X2_tell : GoodIn wsX8_law wsX2_tell := goodIn_r _ [132, 115, 121, 116, 160, 161, 162, 163, 164, 165] (by decide +kernel) (by decide +kernel)
set_option maxRecDepth 20000 in
theorem gX8_law_X2_tell : GoodIn wsX8_law (wsV RX8 140 RX2 yX2_tell wsX2_tell) := goodIn_app (goodIn_of _ (by decide +kernel)) ggX8_law_X2_tell
theorem dX8_law_0 : decode cX8_law 0 = .ok (.aload_n 0, 1) := by decide +kernel
theorem dX8_law_1 : decode cX8_law 1 = .ok (.iload_n 1, 1) := by decide +kernel
theorem dX8_law_2 : decode cX8_law 2 = .ok (.invokevirtual 127, 3) := by decide +kernel
theorem dX8_law_5 : decode cX8_law 5 = .ok (.ifCond .eq 10, 3) := by decide +kernel
theorem dX8_law_8 : decode cX8_law 8 = .ok (.iload_n 2, 1) := by decide +kernel
theorem dX8_law_9 : decode cX8_law 9 = .ok (.invokestatic 130, 3) := by decide +kernel
theorem dX8_law_12 : decode cX8_law 12 = .ok (.ifCond .ne 6, 3) := by decide +kernel
theorem dX8_law_15 : decode cX8_law 15 = .ok (.bipush (-101), 2) := by decide +kernel
theorem dX8_law_17 : decode cX8_law 17 = .ok (.ireturn, 1) := by decide +kernel
theorem dX8_law_18 : decode cX8_law 18 = .ok (.iload_n 3, 1) := by decide +kernel
theorem dX8_law_19 : decode cX8_law 19 = .ok (.ifCond .lt 19, 3) := by decide +kernel
theorem dX8_law_22 : decode cX8_law 22 = .ok (.iload_n 3, 1) := by decide +kernel
theorem dX8_law_23 : decode cX8_law 23 = .ok (.iconst 1, 1) := by decide +kernel
theorem dX8_law_24 : decode cX8_law 24 = .ok (.if_icmp .gt 14, 3) := by decide +kernel
theorem dX8_law_27 : decode cX8_law 27 = .ok (.iload 4, 2) := by decide +kernel
theorem dX8_law_29 : decode cX8_law 29 = .ok (.ifCond .lt 9, 3) := by decide +kernel
theorem dX8_law_32 : decode cX8_law 32 = .ok (.iload 4, 2) := by decide +kernel
theorem dX8_law_34 : decode cX8_law 34 = .ok (.iconst 3, 1) := by decide +kernel
theorem dX8_law_35 : decode cX8_law 35 = .ok (.if_icmp .lt 6, 3) := by decide +kernel
theorem dX8_law_38 : decode cX8_law 38 = .ok (.bipush (-102), 2) := by decide +kernel
theorem dX8_law_40 : decode cX8_law 40 = .ok (.ireturn, 1) := by decide +kernel
theorem dX8_law_41 : decode cX8_law 41 = .ok (.aload_n 0, 1) := by decide +kernel
theorem dX8_law_42 : decode cX8_law 42 = .ok (.invokevirtual 100, 3) := by decide +kernel
theorem dX8_law_45 : decode cX8_law 45 = .ok (.aload_n 0, 1) := by decide +kernel
theorem dX8_law_46 : decode cX8_law 46 = .ok (.getfield 37, 3) := by decide +kernel
theorem dX8_law_49 : decode cX8_law 49 = .ok (.getfield 133, 3) := by decide +kernel
theorem dX8_law_52 : decode cX8_law 52 = .ok (.iload_n 1, 1) := by decide +kernel
theorem dX8_law_53 : decode cX8_law 53 = .ok (.iload_n 2, 1) := by decide +kernel
theorem dX8_law_54 : decode cX8_law 54 = .ok (.iload_n 3, 1) := by decide +kernel
theorem dX8_law_55 : decode cX8_law 55 = .ok (.invokestatic 137, 3) := by decide +kernel
theorem dX8_law_58 : decode cX8_law 58 = .ok (.iload 4, 2) := by decide +kernel
theorem dX8_law_60 : decode cX8_law 60 = .ok (.invokevirtual 140, 3) := by decide +kernel
theorem dX8_law_63 : decode cX8_law 63 = .ok (.ireturn, 1) := by decide +kernel
set_option maxRecDepth 20000 in
theorem ggX8_strange_X8_isSet : GoodIn wsX8_strange wsX8_isSet := goodIn_r _ [10, 2, 11, 132, 133, 134, 135, 136, 137, 138, 139, 140, 141, 142, 143, 144, 145, 146, 147, 148, 149] (by decide +kernel) (by decide +kernel)
set_option maxRecDepth 20000 in
theorem gX8_strange_X8_isSet : GoodIn wsX8_strange (wsV RX8 96 RX8 yX8_isSet wsX8_isSet) := goodIn_app (goodIn_of _ (by decide +kernel)) ggX8_strange_X8_isSet
set_option maxRecDepth 20000 in
theorem ggX8_strange_X8_isTongue : GoodIn wsX8_strange wsX8_isTongue := goodIn_r _ [15, 2, 16, 132, 133, 134, 135, 136, 137, 138, 139, 140, 141, 142, 143, 144, 145, 146, 147, 148, 149] (by decide +kernel) (by decide +kernel)
set_option maxRecDepth 20000 in
theorem gX8_strange_X8_isTongue : GoodIn wsX8_strange (wsV RX8 127 RX8 yX8_isTongue wsX8_isTongue) := goodIn_app (goodIn_of _ (by decide +kernel)) ggX8_strange_X8_isTongue
set_option maxRecDepth 20000 in
theorem ggX8_strange_X8_freshenStudy : GoodIn wsX8_strange wsX8_freshenStudy := goodIn_r _ [20, 21, 4, 2, 22, 23, 24, 25, 26, 27, 28, 29, 30, 31, 32, 33, 34, 35, 36, 37, 38, 39, 40, 41, 42, 43, 44, 45, 46, 47, 48, 49, 50, 51, 52, 9, 53, 54, 55, 56, 57, 58, 59, 60, 61, 62, 63, 64, 65, 66, 67, 68, 69, 70, 71, 72, 73, 74, 75, 76, 77, 78, 79, 80, 81, 82, 83, 84, 85, 86, 87, 88, 89, 90, 91, 92, 93, 94, 95, 96, 97, 98, 99, 100, 101, 102, 103, 104, 105, 106, 107, 108, 109, 110, 111, 112, 113, 114, 115, 116, 117, 118, 119, 120, 121, 122, 123, 124, 125, 126, 127, 128, 129, 130, 131, 132, 133, 134, 135, 136, 137, 138, 139, 140, 141, 142, 143, 144, 150, 151, 152, 153, 154, 155, 145, 146, 147, 148, 149, 156, 157, 158, 159, 160, 161, 162, 163, 164] (by decide +kernel) (by decide +kernel)
set_option maxRecDepth 20000 in
theorem gX8_strange_X8_freshenStudy : GoodIn wsX8_strange (wsV RX8 100 RX8 yX8_freshenStudy wsX8_freshenStudy) := goodIn_app (goodIn_of _ (by decide +kernel)) ggX8_strange_X8_freshenStudy
theorem dX8_strange_0 : decode cX8_strange 0 = .ok (.aload_n 0, 1) := by decide +kernel
theorem dX8_strange_1 : decode cX8_strange 1 = .ok (.iload_n 1, 1) := by decide +kernel
theorem dX8_strange_2 : decode cX8_strange 2 = .ok (.invokevirtual 96, 3) := by decide +kernel
theorem dX8_strange_5 : decode cX8_strange 5 = .ok (.ifCond .eq 11, 3) := by decide +kernel
theorem dX8_strange_8 : decode cX8_strange 8 = .ok (.aload_n 0, 1) := by decide +kernel
theorem dX8_strange_9 : decode cX8_strange 9 = .ok (.iload_n 2, 1) := by decide +kernel
theorem dX8_strange_10 : decode cX8_strange 10 = .ok (.invokevirtual 127, 3) := by decide +kernel
theorem dX8_strange_13 : decode cX8_strange 13 = .ok (.ifCond .ne 6, 3) := by decide +kernel
theorem dX8_strange_16 : decode cX8_strange 16 = .ok (.bipush (-101), 2) := by decide +kernel
theorem dX8_strange_18 : decode cX8_strange 18 = .ok (.ireturn, 1) := by decide +kernel
theorem dX8_strange_19 : decode cX8_strange 19 = .ok (.getstatic 145, 3) := by decide +kernel
theorem dX8_strange_22 : decode cX8_strange 22 = .ok (.aload_n 0, 1) := by decide +kernel
theorem dX8_strange_23 : decode cX8_strange 23 = .ok (.getfield 23, 3) := by decide +kernel
theorem dX8_strange_26 : decode cX8_strange 26 = .ok (.getfield 110, 3) := by decide +kernel
theorem dX8_strange_29 : decode cX8_strange 29 = .ok (.iload_n 1, 1) := by decide +kernel
theorem dX8_strange_30 : decode cX8_strange 30 = .ok (.iaload, 1) := by decide +kernel
theorem dX8_strange_31 : decode cX8_strange 31 = .ok (.iaload, 1) := by decide +kernel
theorem dX8_strange_32 : decode cX8_strange 32 = .ok (.ifCond .ne 6, 3) := by decide +kernel
theorem dX8_strange_35 : decode cX8_strange 35 = .ok (.bipush (-103), 2) := by decide +kernel
theorem dX8_strange_37 : decode cX8_strange 37 = .ok (.ireturn, 1) := by decide +kernel
theorem dX8_strange_38 : decode cX8_strange 38 = .ok (.aload_n 0, 1) := by decide +kernel
theorem dX8_strange_39 : decode cX8_strange 39 = .ok (.invokevirtual 100, 3) := by decide +kernel
theorem dX8_strange_42 : decode cX8_strange 42 = .ok (.aload_n 0, 1) := by decide +kernel
theorem dX8_strange_43 : decode cX8_strange 43 = .ok (.getfield 37, 3) := by decide +kernel
theorem dX8_strange_46 : decode cX8_strange 46 = .ok (.getfield 148, 3) := by decide +kernel
theorem dX8_strange_49 : decode cX8_strange 49 = .ok (.iload_n 1, 1) := by decide +kernel
theorem dX8_strange_50 : decode cX8_strange 50 = .ok (.iconst 4, 1) := by decide +kernel
theorem dX8_strange_51 : decode cX8_strange 51 = .ok (.imul, 1) := by decide +kernel
theorem dX8_strange_52 : decode cX8_strange 52 = .ok (.iload_n 2, 1) := by decide +kernel
theorem dX8_strange_53 : decode cX8_strange 53 = .ok (.iadd, 1) := by decide +kernel
theorem dX8_strange_54 : decode cX8_strange 54 = .ok (.iaload, 1) := by decide +kernel
theorem dX8_strange_55 : decode cX8_strange 55 = .ok (.ireturn, 1) := by decide +kernel
set_option maxRecDepth 20000 in
theorem ggX8_say_X8_isSet : GoodIn wsX8_say wsX8_isSet := goodIn_r _ [11, 2, 12, 141, 142, 143, 144, 145, 146, 147, 148, 149, 150, 151, 152, 153, 154, 155, 156, 157, 158] (by decide +kernel) (by decide +kernel)
set_option maxRecDepth 20000 in
theorem gX8_say_X8_isSet : GoodIn wsX8_say (wsV RX8 96 RX8 yX8_isSet wsX8_isSet) := goodIn_app (goodIn_of _ (by decide +kernel)) ggX8_say_X8_isSet
set_option maxRecDepth 20000 in
theorem ggX8_say_X8_isTongue : GoodIn wsX8_say wsX8_isTongue := goodIn_r _ [16, 2, 17, 141, 142, 143, 144, 145, 146, 147, 148, 149, 150, 151, 152, 153, 154, 155, 156, 157, 158] (by decide +kernel) (by decide +kernel)
set_option maxRecDepth 20000 in
theorem gX8_say_X8_isTongue : GoodIn wsX8_say (wsV RX8 127 RX8 yX8_isTongue wsX8_isTongue) := goodIn_app (goodIn_of _ (by decide +kernel)) ggX8_say_X8_isTongue
set_option maxRecDepth 20000 in
theorem ggX8_say_X8_isPlace : GoodIn wsX8_say wsX8_isPlace := goodIn_r _ [21, 2, 22, 141, 142, 143, 144, 145, 146, 147, 148, 149, 150, 151, 152, 153, 154, 155, 156, 157, 158] (by decide +kernel) (by decide +kernel)
set_option maxRecDepth 20000 in
theorem gX8_say_X8_isPlace : GoodIn wsX8_say (wsV RX8 120 RX8 yX8_isPlace wsX8_isPlace) := goodIn_app (goodIn_of _ (by decide +kernel)) ggX8_say_X8_isPlace
set_option maxRecDepth 20000 in
theorem ggX8_say_X8_freshenStudy : GoodIn wsX8_say wsX8_freshenStudy := goodIn_r _ [26, 27, 4, 2, 28, 29, 30, 31, 32, 33, 34, 35, 36, 37, 38, 39, 40, 41, 42, 43, 44, 45, 46, 47, 48, 49, 50, 51, 52, 53, 54, 55, 56, 57, 58, 10, 59, 60, 61, 62, 63, 64, 65, 66, 67, 68, 69, 70, 71, 72, 73, 74, 75, 76, 77, 78, 79, 80, 81, 82, 83, 84, 85, 86, 87, 88, 89, 90, 91, 92, 93, 94, 95, 96, 97, 98, 99, 100, 101, 102, 103, 104, 105, 106, 107, 108, 109, 110, 111, 112, 113, 114, 115, 116, 117, 118, 119, 120, 121, 122, 123, 124, 125, 126, 127, 128, 129, 130, 131, 132, 133, 134, 135, 136, 137, 141, 142, 143, 144, 145, 146, 147, 148, 149, 150, 151, 152, 153, 159, 160, 161, 162, 163, 164, 154, 155, 156, 157, 158, 171, 172, 173, 165, 166, 167, 168, 169, 170] (by decide +kernel) (by decide +kernel)
set_option maxRecDepth 20000 in
theorem gX8_say_X8_freshenStudy : GoodIn wsX8_say (wsV RX8 100 RX8 yX8_freshenStudy wsX8_freshenStudy) := goodIn_app (goodIn_of _ (by decide +kernel)) ggX8_say_X8_freshenStudy
set_option maxRecDepth 20000 in
theorem ggX8_say_X6_oldSound : GoodIn wsX8_say wsX6_oldSound := goodIn_r _ [110, 53, 34, 91, 10, 92, 66, 67, 159, 160, 161, 162, 163, 164, 154, 155, 156, 157, 158] (by decide +kernel) (by decide +kernel)
set_option maxRecDepth 20000 in
theorem gX8_say_X6_oldSound : GoodIn wsX8_say (wsV RX8 151 RX6 yX6_oldSound wsX6_oldSound) := goodIn_app (goodIn_of _ (by decide +kernel)) ggX8_say_X6_oldSound
set_option maxRecDepth 20000 in
theorem ggX8_say_X8_aheadAt : GoodIn wsX8_say wsX8_aheadAt := goodIn_r _ [112] (by decide +kernel) (by decide +kernel)
set_option maxRecDepth 20000 in
theorem gX8_say_X8_aheadAt : GoodIn wsX8_say (va_wsS RX8 158 yX8_aheadAt wsX8_aheadAt) := goodIn_app (goodIn_of _ (by decide +kernel)) ggX8_say_X8_aheadAt
set_option maxRecDepth 20000 in
theorem ggX8_say_X8_lawAt : GoodIn wsX8_say wsX8_lawAt := goodIn_r _ [114] (by decide +kernel) (by decide +kernel)
set_option maxRecDepth 20000 in
theorem gX8_say_X8_lawAt : GoodIn wsX8_say (va_wsS RX8 137 yX8_lawAt wsX8_lawAt) := goodIn_app (goodIn_of _ (by decide +kernel)) ggX8_say_X8_lawAt
theorem dX8_say_0 : decode cX8_say 0 = .ok (.aload_n 0, 1) := by decide +kernel
theorem dX8_say_1 : decode cX8_say 1 = .ok (.iload_n 1, 1) := by decide +kernel
theorem dX8_say_2 : decode cX8_say 2 = .ok (.invokevirtual 96, 3) := by decide +kernel
theorem dX8_say_5 : decode cX8_say 5 = .ok (.ifCond .eq 20, 3) := by decide +kernel
theorem dX8_say_8 : decode cX8_say 8 = .ok (.aload_n 0, 1) := by decide +kernel
theorem dX8_say_9 : decode cX8_say 9 = .ok (.iload_n 2, 1) := by decide +kernel
theorem dX8_say_10 : decode cX8_say 10 = .ok (.invokevirtual 127, 3) := by decide +kernel
theorem dX8_say_13 : decode cX8_say 13 = .ok (.ifCond .eq 12, 3) := by decide +kernel
theorem dX8_say_16 : decode cX8_say 16 = .ok (.aload_n 0, 1) := by decide +kernel
theorem dX8_say_17 : decode cX8_say 17 = .ok (.iload_n 1, 1) := by decide +kernel
theorem dX8_say_18 : decode cX8_say 18 = .ok (.iload_n 3, 1) := by decide +kernel
theorem dX8_say_19 : decode cX8_say 19 = .ok (.invokevirtual 120, 3) := by decide +kernel
theorem dX8_say_22 : decode cX8_say 22 = .ok (.ifCond .ne 6, 3) := by decide +kernel
theorem dX8_say_25 : decode cX8_say 25 = .ok (.bipush (-101), 2) := by decide +kernel
theorem dX8_say_27 : decode cX8_say 27 = .ok (.ireturn, 1) := by decide +kernel
theorem dX8_say_28 : decode cX8_say 28 = .ok (.getstatic 145, 3) := by decide +kernel
theorem dX8_say_31 : decode cX8_say 31 = .ok (.aload_n 0, 1) := by decide +kernel
theorem dX8_say_32 : decode cX8_say 32 = .ok (.getfield 23, 3) := by decide +kernel
theorem dX8_say_35 : decode cX8_say 35 = .ok (.getfield 110, 3) := by decide +kernel
theorem dX8_say_38 : decode cX8_say 38 = .ok (.iload_n 1, 1) := by decide +kernel
theorem dX8_say_39 : decode cX8_say 39 = .ok (.iaload, 1) := by decide +kernel
theorem dX8_say_40 : decode cX8_say 40 = .ok (.iaload, 1) := by decide +kernel
theorem dX8_say_41 : decode cX8_say 41 = .ok (.ifCond .ne 6, 3) := by decide +kernel
theorem dX8_say_44 : decode cX8_say 44 = .ok (.bipush (-103), 2) := by decide +kernel
theorem dX8_say_46 : decode cX8_say 46 = .ok (.ireturn, 1) := by decide +kernel
theorem dX8_say_47 : decode cX8_say 47 = .ok (.aload_n 0, 1) := by decide +kernel
theorem dX8_say_48 : decode cX8_say 48 = .ok (.invokevirtual 100, 3) := by decide +kernel
theorem dX8_say_51 : decode cX8_say 51 = .ok (.aload_n 0, 1) := by decide +kernel
theorem dX8_say_52 : decode cX8_say 52 = .ok (.getfield 37, 3) := by decide +kernel
theorem dX8_say_55 : decode cX8_say 55 = .ok (.aload_n 0, 1) := by decide +kernel
theorem dX8_say_56 : decode cX8_say 56 = .ok (.getfield 23, 3) := by decide +kernel
theorem dX8_say_59 : decode cX8_say 59 = .ok (.iload_n 1, 1) := by decide +kernel
theorem dX8_say_60 : decode cX8_say 60 = .ok (.iload_n 3, 1) := by decide +kernel
theorem dX8_say_61 : decode cX8_say 61 = .ok (.invokevirtual 151, 3) := by decide +kernel
theorem dX8_say_64 : decode cX8_say 64 = .ok (.istore 4, 2) := by decide +kernel
theorem dX8_say_66 : decode cX8_say 66 = .ok (.aload_n 0, 1) := by decide +kernel
theorem dX8_say_67 : decode cX8_say 67 = .ok (.getfield 37, 3) := by decide +kernel
theorem dX8_say_70 : decode cX8_say 70 = .ok (.getfield 133, 3) := by decide +kernel
theorem dX8_say_73 : decode cX8_say 73 = .ok (.getfield 155, 3) := by decide +kernel
theorem dX8_say_76 : decode cX8_say 76 = .ok (.iload_n 2, 1) := by decide +kernel
theorem dX8_say_77 : decode cX8_say 77 = .ok (.iload 4, 2) := by decide +kernel
theorem dX8_say_79 : decode cX8_say 79 = .ok (.iload_n 3, 1) := by decide +kernel
theorem dX8_say_80 : decode cX8_say 80 = .ok (.invokestatic 158, 3) := by decide +kernel
theorem dX8_say_83 : decode cX8_say 83 = .ok (.invokestatic 137, 3) := by decide +kernel
theorem dX8_say_86 : decode cX8_say 86 = .ok (.iaload, 1) := by decide +kernel
theorem dX8_say_87 : decode cX8_say 87 = .ok (.istore 5, 2) := by decide +kernel
theorem dX8_say_89 : decode cX8_say 89 = .ok (.iload 5, 2) := by decide +kernel
theorem dX8_say_91 : decode cX8_say 91 = .ok (.iconst (-1), 1) := by decide +kernel
theorem dX8_say_92 : decode cX8_say 92 = .ok (.if_icmp .ne 8, 3) := by decide +kernel
theorem dX8_say_95 : decode cX8_say 95 = .ok (.iload 4, 2) := by decide +kernel
theorem dX8_say_97 : decode cX8_say 97 = .ok (.goto 5, 3) := by decide +kernel
theorem dX8_say_100 : decode cX8_say 100 = .ok (.iload 5, 2) := by decide +kernel
theorem dX8_say_102 : decode cX8_say 102 = .ok (.ireturn, 1) := by decide +kernel
set_option maxRecDepth 20000 in
theorem ggX8_line_X8_isSet : GoodIn wsX8_line wsX8_isSet := goodIn_r _ [9, 2, 10, 47, 48, 49, 50, 51, 52, 53, 54, 55, 56, 57, 58, 59, 60, 61, 62, 63, 64] (by decide +kernel) (by decide +kernel)
set_option maxRecDepth 20000 in
theorem gX8_line_X8_isSet : GoodIn wsX8_line (wsV RX8 96 RX8 yX8_isSet wsX8_isSet) := goodIn_app (goodIn_of _ (by decide +kernel)) ggX8_line_X8_isSet
set_option maxRecDepth 20000 in
theorem ggX8_line_X8_isTongue : GoodIn wsX8_line wsX8_isTongue := goodIn_r _ [14, 2, 15, 47, 48, 49, 50, 51, 52, 53, 54, 55, 56, 57, 58, 59, 60, 61, 62, 63, 64] (by decide +kernel) (by decide +kernel)
set_option maxRecDepth 20000 in
theorem gX8_line_X8_isTongue : GoodIn wsX8_line (wsV RX8 127 RX8 yX8_isTongue wsX8_isTongue) := goodIn_app (goodIn_of _ (by decide +kernel)) ggX8_line_X8_isTongue
set_option maxRecDepth 20000 in
theorem ggX8_line_X8_wordAt : GoodIn wsX8_line wsX8_wordAt := goodIn_r _ [18] (by decide +kernel) (by decide +kernel)
set_option maxRecDepth 20000 in
theorem gX8_line_X8_wordAt : GoodIn wsX8_line (va_wsS RX8 165 yX8_wordAt wsX8_wordAt) := goodIn_app (goodIn_of _ (by decide +kernel)) ggX8_line_X8_wordAt
set_option maxRecDepth 20000 in
theorem ggX8_line_X0_readFirst : GoodIn wsX8_line wsX0_readFirst := goodIn_r _ [23, 24, 25, 26, 27, 22, 28, 65, 66, 67, 68, 69] (by decide +kernel) (by decide +kernel)
set_option maxRecDepth 20000 in
theorem gX8_line_X0_readFirst : GoodIn wsX8_line (wsV RX8 171 RX0 yX0_readFirst wsX0_readFirst) := goodIn_app (goodIn_of _ (by decide +kernel)) ggX8_line_X0_readFirst
set_option maxRecDepth 20000 in
theorem ggX8_line_X0_readSecond : GoodIn wsX8_line wsX0_readSecond := goodIn_r _ [32, 33, 34, 26, 27, 22, 28, 65, 66, 67, 68, 69] (by decide +kernel) (by decide +kernel)
set_option maxRecDepth 20000 in
theorem gX8_line_X0_readSecond : GoodIn wsX8_line (wsV RX8 175 RX0 yX0_readSecond wsX0_readSecond) := goodIn_app (goodIn_of _ (by decide +kernel)) ggX8_line_X0_readSecond
set_option maxRecDepth 20000 in
theorem ggX8_line_X0_leastCost : GoodIn wsX8_line wsX0_leastCost := goodIn_r _ [38, 34, 39, 25, 24, 33, 40, 41, 42, 43, 44, 8, 45, 46, 65, 66, 67, 68, 69] (by decide +kernel) (by decide +kernel)
set_option maxRecDepth 20000 in
theorem gX8_line_X0_leastCost : GoodIn wsX8_line (wsV RX8 178 RX0 yX0_leastCost wsX0_leastCost) := goodIn_app (goodIn_of _ (by decide +kernel)) ggX8_line_X0_leastCost
theorem dX8_line_0 : decode cX8_line 0 = .ok (.aload_n 0, 1) := by decide +kernel
theorem dX8_line_1 : decode cX8_line 1 = .ok (.iload_n 1, 1) := by decide +kernel
theorem dX8_line_2 : decode cX8_line 2 = .ok (.invokevirtual 96, 3) := by decide +kernel
theorem dX8_line_5 : decode cX8_line 5 = .ok (.ifCond .eq 28, 3) := by decide +kernel
theorem dX8_line_8 : decode cX8_line 8 = .ok (.aload_n 0, 1) := by decide +kernel
theorem dX8_line_9 : decode cX8_line 9 = .ok (.iload_n 2, 1) := by decide +kernel
theorem dX8_line_10 : decode cX8_line 10 = .ok (.invokevirtual 127, 3) := by decide +kernel
theorem dX8_line_13 : decode cX8_line 13 = .ok (.ifCond .eq 20, 3) := by decide +kernel
theorem dX8_line_16 : decode cX8_line 16 = .ok (.aload_n 0, 1) := by decide +kernel
theorem dX8_line_17 : decode cX8_line 17 = .ok (.iload_n 3, 1) := by decide +kernel
theorem dX8_line_18 : decode cX8_line 18 = .ok (.invokevirtual 96, 3) := by decide +kernel
theorem dX8_line_21 : decode cX8_line 21 = .ok (.ifCond .eq 12, 3) := by decide +kernel
theorem dX8_line_24 : decode cX8_line 24 = .ok (.aload_n 0, 1) := by decide +kernel
theorem dX8_line_25 : decode cX8_line 25 = .ok (.iload 4, 2) := by decide +kernel
theorem dX8_line_27 : decode cX8_line 27 = .ok (.invokevirtual 127, 3) := by decide +kernel
theorem dX8_line_30 : decode cX8_line 30 = .ok (.ifCond .ne 6, 3) := by decide +kernel
theorem dX8_line_33 : decode cX8_line 33 = .ok (.bipush (-101), 2) := by decide +kernel
theorem dX8_line_35 : decode cX8_line 35 = .ok (.ireturn, 1) := by decide +kernel
theorem dX8_line_36 : decode cX8_line 36 = .ok (.aload_n 0, 1) := by decide +kernel
theorem dX8_line_37 : decode cX8_line 37 = .ok (.getfield 50, 3) := by decide +kernel
theorem dX8_line_40 : decode cX8_line 40 = .ok (.aload_n 0, 1) := by decide +kernel
theorem dX8_line_41 : decode cX8_line 41 = .ok (.getfield 23, 3) := by decide +kernel
theorem dX8_line_44 : decode cX8_line 44 = .ok (.getfield 162, 3) := by decide +kernel
theorem dX8_line_47 : decode cX8_line 47 = .ok (.iload_n 1, 1) := by decide +kernel
theorem dX8_line_48 : decode cX8_line 48 = .ok (.iload_n 2, 1) := by decide +kernel
theorem dX8_line_49 : decode cX8_line 49 = .ok (.invokestatic 165, 3) := by decide +kernel
theorem dX8_line_52 : decode cX8_line 52 = .ok (.aload_n 0, 1) := by decide +kernel
theorem dX8_line_53 : decode cX8_line 53 = .ok (.getfield 23, 3) := by decide +kernel
theorem dX8_line_56 : decode cX8_line 56 = .ok (.getfield 168, 3) := by decide +kernel
theorem dX8_line_59 : decode cX8_line 59 = .ok (.iload_n 1, 1) := by decide +kernel
theorem dX8_line_60 : decode cX8_line 60 = .ok (.iaload, 1) := by decide +kernel
theorem dX8_line_61 : decode cX8_line 61 = .ok (.invokevirtual 171, 3) := by decide +kernel
theorem dX8_line_64 : decode cX8_line 64 = .ok (.aload_n 0, 1) := by decide +kernel
theorem dX8_line_65 : decode cX8_line 65 = .ok (.getfield 50, 3) := by decide +kernel
theorem dX8_line_68 : decode cX8_line 68 = .ok (.aload_n 0, 1) := by decide +kernel
theorem dX8_line_69 : decode cX8_line 69 = .ok (.getfield 23, 3) := by decide +kernel
theorem dX8_line_72 : decode cX8_line 72 = .ok (.getfield 162, 3) := by decide +kernel
theorem dX8_line_75 : decode cX8_line 75 = .ok (.iload_n 3, 1) := by decide +kernel
theorem dX8_line_76 : decode cX8_line 76 = .ok (.iload 4, 2) := by decide +kernel
theorem dX8_line_78 : decode cX8_line 78 = .ok (.invokestatic 165, 3) := by decide +kernel
theorem dX8_line_81 : decode cX8_line 81 = .ok (.aload_n 0, 1) := by decide +kernel
theorem dX8_line_82 : decode cX8_line 82 = .ok (.getfield 23, 3) := by decide +kernel
theorem dX8_line_85 : decode cX8_line 85 = .ok (.getfield 168, 3) := by decide +kernel
theorem dX8_line_88 : decode cX8_line 88 = .ok (.iload_n 3, 1) := by decide +kernel
theorem dX8_line_89 : decode cX8_line 89 = .ok (.iaload, 1) := by decide +kernel
theorem dX8_line_90 : decode cX8_line 90 = .ok (.invokevirtual 175, 3) := by decide +kernel
theorem dX8_line_93 : decode cX8_line 93 = .ok (.aload_n 0, 1) := by decide +kernel
theorem dX8_line_94 : decode cX8_line 94 = .ok (.getfield 50, 3) := by decide +kernel
theorem dX8_line_97 : decode cX8_line 97 = .ok (.invokevirtual 178, 3) := by decide +kernel
theorem dX8_line_100 : decode cX8_line 100 = .ok (.ireturn, 1) := by decide +kernel
set_option maxRecDepth 20000 in
theorem ggX8_cost_X8_isSound : GoodIn wsX8_cost wsX8_isSound := goodIn_r _ [4] (by decide +kernel) (by decide +kernel)
set_option maxRecDepth 20000 in
theorem gX8_cost_X8_isSound : GoodIn wsX8_cost (va_wsS RX8 130 yX8_isSound wsX8_isSound) := goodIn_app (goodIn_of _ (by decide +kernel)) ggX8_cost_X8_isSound
set_option maxRecDepth 20000 in
theorem ggX8_cost_X8_costOf : GoodIn wsX8_cost wsX8_costOf := goodIn_r _ [7, 8] (by decide +kernel) (by decide +kernel)
set_option maxRecDepth 20000 in
theorem gX8_cost_X8_costOf : GoodIn wsX8_cost (va_wsS RX8 181 yX8_costOf wsX8_costOf) := goodIn_app (goodIn_of _ (by decide +kernel)) ggX8_cost_X8_costOf
theorem dX8_cost_0 : decode cX8_cost 0 = .ok (.iload_n 1, 1) := by decide +kernel
theorem dX8_cost_1 : decode cX8_cost 1 = .ok (.invokestatic 130, 3) := by decide +kernel
theorem dX8_cost_4 : decode cX8_cost 4 = .ok (.ifCond .eq 10, 3) := by decide +kernel
theorem dX8_cost_7 : decode cX8_cost 7 = .ok (.iload_n 2, 1) := by decide +kernel
theorem dX8_cost_8 : decode cX8_cost 8 = .ok (.invokestatic 130, 3) := by decide +kernel
theorem dX8_cost_11 : decode cX8_cost 11 = .ok (.ifCond .ne 6, 3) := by decide +kernel
theorem dX8_cost_14 : decode cX8_cost 14 = .ok (.bipush (-101), 2) := by decide +kernel
theorem dX8_cost_16 : decode cX8_cost 16 = .ok (.ireturn, 1) := by decide +kernel
theorem dX8_cost_17 : decode cX8_cost 17 = .ok (.iload_n 1, 1) := by decide +kernel
theorem dX8_cost_18 : decode cX8_cost 18 = .ok (.iload_n 2, 1) := by decide +kernel
theorem dX8_cost_19 : decode cX8_cost 19 = .ok (.invokestatic 181, 3) := by decide +kernel
theorem dX8_cost_22 : decode cX8_cost 22 = .ok (.ireturn, 1) := by decide +kernel
set_option maxRecDepth 20000 in
theorem ggX8_put_X8_isSet : GoodIn wsX8_put wsX8_isSet := goodIn_r _ [8, 1, 9, 33, 34, 35, 36, 37, 38, 39, 40, 41, 42, 43, 44, 45, 46, 47, 48, 49, 50] (by decide +kernel) (by decide +kernel)
set_option maxRecDepth 20000 in
theorem gX8_put_X8_isSet : GoodIn wsX8_put (wsV RX8 96 RX8 yX8_isSet wsX8_isSet) := goodIn_app (goodIn_of _ (by decide +kernel)) ggX8_put_X8_isSet
set_option maxRecDepth 20000 in
theorem ggX8_put_X8_isTongue : GoodIn wsX8_put wsX8_isTongue := goodIn_r _ [13, 1, 14, 33, 34, 35, 36, 37, 38, 39, 40, 41, 42, 43, 44, 45, 46, 47, 48, 49, 50] (by decide +kernel) (by decide +kernel)
set_option maxRecDepth 20000 in
theorem gX8_put_X8_isTongue : GoodIn wsX8_put (wsV RX8 127 RX8 yX8_isTongue wsX8_isTongue) := goodIn_app (goodIn_of _ (by decide +kernel)) ggX8_put_X8_isTongue
set_option maxRecDepth 20000 in
theorem ggX8_put_X8_isPlace : GoodIn wsX8_put wsX8_isPlace := goodIn_r _ [18, 1, 19, 33, 34, 35, 36, 37, 38, 39, 40, 41, 42, 43, 44, 45, 46, 47, 48, 49, 50] (by decide +kernel) (by decide +kernel)
set_option maxRecDepth 20000 in
theorem gX8_put_X8_isPlace : GoodIn wsX8_put (wsV RX8 120 RX8 yX8_isPlace wsX8_isPlace) := goodIn_app (goodIn_of _ (by decide +kernel)) ggX8_put_X8_isPlace
set_option maxRecDepth 20000 in
theorem ggX8_put_X8_isSound : GoodIn wsX8_put wsX8_isSound := goodIn_r _ [22] (by decide +kernel) (by decide +kernel)
set_option maxRecDepth 20000 in
theorem gX8_put_X8_isSound : GoodIn wsX8_put (va_wsS RX8 130 yX8_isSound wsX8_isSound) := goodIn_app (goodIn_of _ (by decide +kernel)) ggX8_put_X8_isSound
set_option maxRecDepth 20000 in
theorem ggX8_put_X5_isSilentBut : GoodIn wsX8_put wsX5_isSilentBut := goodIn_r _ [27, 28, 29, 30, 7, 31, 46, 47, 48, 49, 50] (by decide +kernel) (by decide +kernel)
set_option maxRecDepth 20000 in
theorem gX8_put_X5_isSilentBut : GoodIn wsX8_put (wsV RX8 184 RX5 yX5_isSilentBut wsX5_isSilentBut) := goodIn_app (goodIn_of _ (by decide +kernel)) ggX8_put_X5_isSilentBut
set_option maxRecDepth 20000 in
theorem ggX8_put_X8_wordAt : GoodIn wsX8_put wsX8_wordAt := goodIn_r _ [31] (by decide +kernel) (by decide +kernel)
set_option maxRecDepth 20000 in
theorem gX8_put_X8_wordAt : GoodIn wsX8_put (va_wsS RX8 165 yX8_wordAt wsX8_wordAt) := goodIn_app (goodIn_of _ (by decide +kernel)) ggX8_put_X8_wordAt
theorem dX8_put_0 : decode cX8_put 0 = .ok (.aload_n 0, 1) := by decide +kernel
theorem dX8_put_1 : decode cX8_put 1 = .ok (.iload_n 1, 1) := by decide +kernel
theorem dX8_put_2 : decode cX8_put 2 = .ok (.invokevirtual 96, 3) := by decide +kernel
theorem dX8_put_5 : decode cX8_put 5 = .ok (.ifCond .eq 20, 3) := by decide +kernel
theorem dX8_put_8 : decode cX8_put 8 = .ok (.aload_n 0, 1) := by decide +kernel
theorem dX8_put_9 : decode cX8_put 9 = .ok (.iload_n 2, 1) := by decide +kernel
theorem dX8_put_10 : decode cX8_put 10 = .ok (.invokevirtual 127, 3) := by decide +kernel
theorem dX8_put_13 : decode cX8_put 13 = .ok (.ifCond .eq 12, 3) := by decide +kernel
theorem dX8_put_16 : decode cX8_put 16 = .ok (.aload_n 0, 1) := by decide +kernel
theorem dX8_put_17 : decode cX8_put 17 = .ok (.iload_n 1, 1) := by decide +kernel
theorem dX8_put_18 : decode cX8_put 18 = .ok (.iload_n 3, 1) := by decide +kernel
theorem dX8_put_19 : decode cX8_put 19 = .ok (.invokevirtual 120, 3) := by decide +kernel
theorem dX8_put_22 : decode cX8_put 22 = .ok (.ifCond .ne 6, 3) := by decide +kernel
theorem dX8_put_25 : decode cX8_put 25 = .ok (.bipush (-101), 2) := by decide +kernel
theorem dX8_put_27 : decode cX8_put 27 = .ok (.ireturn, 1) := by decide +kernel
theorem dX8_put_28 : decode cX8_put 28 = .ok (.iload 4, 2) := by decide +kernel
theorem dX8_put_30 : decode cX8_put 30 = .ok (.invokestatic 130, 3) := by decide +kernel
theorem dX8_put_33 : decode cX8_put 33 = .ok (.ifCond .ne 6, 3) := by decide +kernel
theorem dX8_put_36 : decode cX8_put 36 = .ok (.bipush (-102), 2) := by decide +kernel
theorem dX8_put_38 : decode cX8_put 38 = .ok (.ireturn, 1) := by decide +kernel
theorem dX8_put_39 : decode cX8_put 39 = .ok (.iload 4, 2) := by decide +kernel
theorem dX8_put_41 : decode cX8_put 41 = .ok (.ifCond .ne 19, 3) := by decide +kernel
theorem dX8_put_44 : decode cX8_put 44 = .ok (.aload_n 0, 1) := by decide +kernel
theorem dX8_put_45 : decode cX8_put 45 = .ok (.getfield 23, 3) := by decide +kernel
theorem dX8_put_48 : decode cX8_put 48 = .ok (.iload_n 1, 1) := by decide +kernel
theorem dX8_put_49 : decode cX8_put 49 = .ok (.iload_n 2, 1) := by decide +kernel
theorem dX8_put_50 : decode cX8_put 50 = .ok (.iload_n 3, 1) := by decide +kernel
theorem dX8_put_51 : decode cX8_put 51 = .ok (.invokevirtual 184, 3) := by decide +kernel
theorem dX8_put_54 : decode cX8_put 54 = .ok (.ifCond .eq 6, 3) := by decide +kernel
theorem dX8_put_57 : decode cX8_put 57 = .ok (.bipush (-103), 2) := by decide +kernel
theorem dX8_put_59 : decode cX8_put 59 = .ok (.ireturn, 1) := by decide +kernel
theorem dX8_put_60 : decode cX8_put 60 = .ok (.iload_n 1, 1) := by decide +kernel
theorem dX8_put_61 : decode cX8_put 61 = .ok (.iload_n 2, 1) := by decide +kernel
theorem dX8_put_62 : decode cX8_put 62 = .ok (.invokestatic 165, 3) := by decide +kernel
theorem dX8_put_65 : decode cX8_put 65 = .ok (.iload_n 3, 1) := by decide +kernel
theorem dX8_put_66 : decode cX8_put 66 = .ok (.iadd, 1) := by decide +kernel
theorem dX8_put_67 : decode cX8_put 67 = .ok (.istore 5, 2) := by decide +kernel
theorem dX8_put_69 : decode cX8_put 69 = .ok (.aload_n 0, 1) := by decide +kernel
theorem dX8_put_70 : decode cX8_put 70 = .ok (.getfield 23, 3) := by decide +kernel
theorem dX8_put_73 : decode cX8_put 73 = .ok (.getfield 162, 3) := by decide +kernel
theorem dX8_put_76 : decode cX8_put 76 = .ok (.iload 5, 2) := by decide +kernel
theorem dX8_put_78 : decode cX8_put 78 = .ok (.iaload, 1) := by decide +kernel
theorem dX8_put_79 : decode cX8_put 79 = .ok (.istore 6, 2) := by decide +kernel
theorem dX8_put_81 : decode cX8_put 81 = .ok (.aload_n 0, 1) := by decide +kernel
theorem dX8_put_82 : decode cX8_put 82 = .ok (.getfield 23, 3) := by decide +kernel
theorem dX8_put_85 : decode cX8_put 85 = .ok (.getfield 162, 3) := by decide +kernel
theorem dX8_put_88 : decode cX8_put 88 = .ok (.iload 5, 2) := by decide +kernel
theorem dX8_put_90 : decode cX8_put 90 = .ok (.iload 4, 2) := by decide +kernel
theorem dX8_put_92 : decode cX8_put 92 = .ok (.iastore, 1) := by decide +kernel
theorem dX8_put_93 : decode cX8_put 93 = .ok (.aload_n 0, 1) := by decide +kernel
theorem dX8_put_94 : decode cX8_put 94 = .ok (.iconst 0, 1) := by decide +kernel
theorem dX8_put_95 : decode cX8_put 95 = .ok (.putfield 87, 3) := by decide +kernel
theorem dX8_put_98 : decode cX8_put 98 = .ok (.iload 6, 2) := by decide +kernel
theorem dX8_put_100 : decode cX8_put 100 = .ok (.ireturn, 1) := by decide +kernel
set_option maxRecDepth 20000 in
theorem ggX8_copy_X8_isSet : GoodIn wsX8_copy wsX8_isSet := goodIn_r _ [8, 1, 2, 23, 24, 25, 26, 27, 28, 29, 30, 31, 32, 33, 34, 35, 36, 37, 38, 39, 40] (by decide +kernel) (by decide +kernel)
set_option maxRecDepth 20000 in
theorem gX8_copy_X8_isSet : GoodIn wsX8_copy (wsV RX8 96 RX8 yX8_isSet wsX8_isSet) := goodIn_app (goodIn_of _ (by decide +kernel)) ggX8_copy_X8_isSet
set_option maxRecDepth 20000 in
theorem ggX8_copy_X5_putOver : GoodIn wsX8_copy wsX5_putOver := goodIn_r _ [13, 14, 15, 16, 17, 18, 19, 20, 21, 7, 22, 36, 37, 38, 39, 40] (by decide +kernel) (by decide +kernel)
set_option maxRecDepth 20000 in
theorem gX8_copy_X5_putOver : GoodIn wsX8_copy (wsV RX8 188 RX5 yX5_putOver wsX5_putOver) := goodIn_app (goodIn_of _ (by decide +kernel)) ggX8_copy_X5_putOver
theorem dX8_copy_0 : decode cX8_copy 0 = .ok (.aload_n 0, 1) := by decide +kernel
theorem dX8_copy_1 : decode cX8_copy 1 = .ok (.iload_n 1, 1) := by decide +kernel
theorem dX8_copy_2 : decode cX8_copy 2 = .ok (.invokevirtual 96, 3) := by decide +kernel
theorem dX8_copy_5 : decode cX8_copy 5 = .ok (.ifCond .ne 6, 3) := by decide +kernel
theorem dX8_copy_8 : decode cX8_copy 8 = .ok (.bipush (-101), 2) := by decide +kernel
theorem dX8_copy_10 : decode cX8_copy 10 = .ok (.ireturn, 1) := by decide +kernel
theorem dX8_copy_11 : decode cX8_copy 11 = .ok (.aload_n 0, 1) := by decide +kernel
theorem dX8_copy_12 : decode cX8_copy 12 = .ok (.getfield 23, 3) := by decide +kernel
theorem dX8_copy_15 : decode cX8_copy 15 = .ok (.getfield 93, 3) := by decide +kernel
theorem dX8_copy_18 : decode cX8_copy 18 = .ok (.bipush 6, 2) := by decide +kernel
theorem dX8_copy_20 : decode cX8_copy 20 = .ok (.if_icmp .lt 6, 3) := by decide +kernel
theorem dX8_copy_23 : decode cX8_copy 23 = .ok (.bipush (-104), 2) := by decide +kernel
theorem dX8_copy_25 : decode cX8_copy 25 = .ok (.ireturn, 1) := by decide +kernel
theorem dX8_copy_26 : decode cX8_copy 26 = .ok (.aload_n 0, 1) := by decide +kernel
theorem dX8_copy_27 : decode cX8_copy 27 = .ok (.getfield 23, 3) := by decide +kernel
theorem dX8_copy_30 : decode cX8_copy 30 = .ok (.getfield 93, 3) := by decide +kernel
theorem dX8_copy_33 : decode cX8_copy 33 = .ok (.istore_n 2, 1) := by decide +kernel
theorem dX8_copy_34 : decode cX8_copy 34 = .ok (.aload_n 0, 1) := by decide +kernel
theorem dX8_copy_35 : decode cX8_copy 35 = .ok (.getfield 23, 3) := by decide +kernel
theorem dX8_copy_38 : decode cX8_copy 38 = .ok (.iload_n 1, 1) := by decide +kernel
theorem dX8_copy_39 : decode cX8_copy 39 = .ok (.iload_n 2, 1) := by decide +kernel
theorem dX8_copy_40 : decode cX8_copy 40 = .ok (.invokevirtual 188, 3) := by decide +kernel
theorem dX8_copy_43 : decode cX8_copy 43 = .ok (.aload_n 0, 1) := by decide +kernel
theorem dX8_copy_44 : decode cX8_copy 44 = .ok (.getfield 23, 3) := by decide +kernel
theorem dX8_copy_47 : decode cX8_copy 47 = .ok (.dup, 1) := by decide +kernel
theorem dX8_copy_48 : decode cX8_copy 48 = .ok (.getfield 93, 3) := by decide +kernel
theorem dX8_copy_51 : decode cX8_copy 51 = .ok (.iconst 1, 1) := by decide +kernel
theorem dX8_copy_52 : decode cX8_copy 52 = .ok (.iadd, 1) := by decide +kernel
theorem dX8_copy_53 : decode cX8_copy 53 = .ok (.putfield 93, 3) := by decide +kernel
theorem dX8_copy_56 : decode cX8_copy 56 = .ok (.aload_n 0, 1) := by decide +kernel
theorem dX8_copy_57 : decode cX8_copy 57 = .ok (.iconst 0, 1) := by decide +kernel
theorem dX8_copy_58 : decode cX8_copy 58 = .ok (.putfield 87, 3) := by decide +kernel
theorem dX8_copy_61 : decode cX8_copy 61 = .ok (.iload_n 2, 1) := by decide +kernel
theorem dX8_copy_62 : decode cX8_copy 62 = .ok (.ireturn, 1) := by decide +kernel
set_option maxRecDepth 20000 in
theorem ggX8_take_X8_isSet : GoodIn wsX8_take wsX8_isSet := goodIn_r _ [9, 1, 2, 36, 37, 38, 39, 40, 41, 42, 43, 44, 45, 46, 47, 48, 49, 50, 51, 52, 53] (by decide +kernel) (by decide +kernel)
set_option maxRecDepth 20000 in
theorem gX8_take_X8_isSet : GoodIn wsX8_take (wsV RX8 96 RX8 yX8_isSet wsX8_isSet) := goodIn_app (goodIn_of _ (by decide +kernel)) ggX8_take_X8_isSet
set_option maxRecDepth 20000 in
theorem ggX8_take_X5_remove : GoodIn wsX8_take wsX5_remove := goodIn_r _ [14, 15, 16, 17, 18, 13, 19, 20, 21, 22, 23, 24, 25, 26, 27, 8, 28, 49, 50, 51, 52, 53] (by decide +kernel) (by decide +kernel)
set_option maxRecDepth 20000 in
theorem gX8_take_X5_remove : GoodIn wsX8_take (wsV RX8 192 RX5 yX5_remove wsX5_remove) := goodIn_app (goodIn_of _ (by decide +kernel)) ggX8_take_X5_remove
set_option maxRecDepth 20000 in
theorem ggX8_take_X4_loseSet : GoodIn wsX8_take wsX4_loseSet := goodIn_r _ [33, 34, 35, 54, 55, 56, 57] (by decide +kernel) (by decide +kernel)
set_option maxRecDepth 20000 in
theorem gX8_take_X4_loseSet : GoodIn wsX8_take (wsV RX8 196 RX4 yX4_loseSet wsX4_loseSet) := goodIn_app (goodIn_of _ (by decide +kernel)) ggX8_take_X4_loseSet
theorem dX8_take_0 : decode cX8_take 0 = .ok (.aload_n 0, 1) := by decide +kernel
theorem dX8_take_1 : decode cX8_take 1 = .ok (.iload_n 1, 1) := by decide +kernel
theorem dX8_take_2 : decode cX8_take 2 = .ok (.invokevirtual 96, 3) := by decide +kernel
theorem dX8_take_5 : decode cX8_take 5 = .ok (.ifCond .ne 6, 3) := by decide +kernel
theorem dX8_take_8 : decode cX8_take 8 = .ok (.bipush (-101), 2) := by decide +kernel
theorem dX8_take_10 : decode cX8_take 10 = .ok (.ireturn, 1) := by decide +kernel
theorem dX8_take_11 : decode cX8_take 11 = .ok (.aload_n 0, 1) := by decide +kernel
theorem dX8_take_12 : decode cX8_take 12 = .ok (.getfield 23, 3) := by decide +kernel
theorem dX8_take_15 : decode cX8_take 15 = .ok (.getfield 93, 3) := by decide +kernel
theorem dX8_take_18 : decode cX8_take 18 = .ok (.iconst 1, 1) := by decide +kernel
theorem dX8_take_19 : decode cX8_take 19 = .ok (.if_icmp .ne 6, 3) := by decide +kernel
theorem dX8_take_22 : decode cX8_take 22 = .ok (.bipush (-103), 2) := by decide +kernel
theorem dX8_take_24 : decode cX8_take 24 = .ok (.ireturn, 1) := by decide +kernel
theorem dX8_take_25 : decode cX8_take 25 = .ok (.aload_n 0, 1) := by decide +kernel
theorem dX8_take_26 : decode cX8_take 26 = .ok (.getfield 23, 3) := by decide +kernel
theorem dX8_take_29 : decode cX8_take 29 = .ok (.iload_n 1, 1) := by decide +kernel
theorem dX8_take_30 : decode cX8_take 30 = .ok (.invokevirtual 192, 3) := by decide +kernel
theorem dX8_take_33 : decode cX8_take 33 = .ok (.aload_n 0, 1) := by decide +kernel
theorem dX8_take_34 : decode cX8_take 34 = .ok (.getfield 30, 3) := by decide +kernel
theorem dX8_take_37 : decode cX8_take 37 = .ok (.iload_n 1, 1) := by decide +kernel
theorem dX8_take_38 : decode cX8_take 38 = .ok (.invokevirtual 196, 3) := by decide +kernel
theorem dX8_take_41 : decode cX8_take 41 = .ok (.aload_n 0, 1) := by decide +kernel
theorem dX8_take_42 : decode cX8_take 42 = .ok (.iconst 0, 1) := by decide +kernel
theorem dX8_take_43 : decode cX8_take 43 = .ok (.putfield 87, 3) := by decide +kernel
theorem dX8_take_46 : decode cX8_take 46 = .ok (.aload_n 0, 1) := by decide +kernel
theorem dX8_take_47 : decode cX8_take 47 = .ok (.getfield 23, 3) := by decide +kernel
theorem dX8_take_50 : decode cX8_take 50 = .ok (.getfield 93, 3) := by decide +kernel
theorem dX8_take_53 : decode cX8_take 53 = .ok (.ireturn, 1) := by decide +kernel
set_option maxRecDepth 20000 in
theorem ggX8_change_X8_isSet : GoodIn wsX8_change wsX8_isSet := goodIn_r _ [8, 1, 9, 13, 14, 15, 16, 17, 18, 19, 20, 21, 22, 23, 24, 25, 26, 27, 28, 29, 30] (by decide +kernel) (by decide +kernel)
set_option maxRecDepth 20000 in
theorem gX8_change_X8_isSet : GoodIn wsX8_change (wsV RX8 96 RX8 yX8_isSet wsX8_isSet) := goodIn_app (goodIn_of _ (by decide +kernel)) ggX8_change_X8_isSet
set_option maxRecDepth 20000 in
theorem ggX8_change_X8_isKind : GoodIn wsX8_change wsX8_isKind := goodIn_r _ [12] (by decide +kernel) (by decide +kernel)
set_option maxRecDepth 20000 in
theorem gX8_change_X8_isKind : GoodIn wsX8_change (va_wsS RX8 107 yX8_isKind wsX8_isKind) := goodIn_app (goodIn_of _ (by decide +kernel)) ggX8_change_X8_isKind
theorem dX8_change_0 : decode cX8_change 0 = .ok (.aload_n 0, 1) := by decide +kernel
theorem dX8_change_1 : decode cX8_change 1 = .ok (.iload_n 1, 1) := by decide +kernel
theorem dX8_change_2 : decode cX8_change 2 = .ok (.invokevirtual 96, 3) := by decide +kernel
theorem dX8_change_5 : decode cX8_change 5 = .ok (.ifCond .ne 6, 3) := by decide +kernel
theorem dX8_change_8 : decode cX8_change 8 = .ok (.bipush (-101), 2) := by decide +kernel
theorem dX8_change_10 : decode cX8_change 10 = .ok (.ireturn, 1) := by decide +kernel
theorem dX8_change_11 : decode cX8_change 11 = .ok (.iload_n 2, 1) := by decide +kernel
theorem dX8_change_12 : decode cX8_change 12 = .ok (.invokestatic 107, 3) := by decide +kernel
theorem dX8_change_15 : decode cX8_change 15 = .ok (.ifCond .ne 6, 3) := by decide +kernel
theorem dX8_change_18 : decode cX8_change 18 = .ok (.bipush (-102), 2) := by decide +kernel
theorem dX8_change_20 : decode cX8_change 20 = .ok (.ireturn, 1) := by decide +kernel
theorem dX8_change_21 : decode cX8_change 21 = .ok (.aload_n 0, 1) := by decide +kernel
theorem dX8_change_22 : decode cX8_change 22 = .ok (.getfield 23, 3) := by decide +kernel
theorem dX8_change_25 : decode cX8_change 25 = .ok (.getfield 110, 3) := by decide +kernel
theorem dX8_change_28 : decode cX8_change 28 = .ok (.iload_n 1, 1) := by decide +kernel
theorem dX8_change_29 : decode cX8_change 29 = .ok (.iaload, 1) := by decide +kernel
theorem dX8_change_30 : decode cX8_change 30 = .ok (.istore_n 3, 1) := by decide +kernel
theorem dX8_change_31 : decode cX8_change 31 = .ok (.aload_n 0, 1) := by decide +kernel
theorem dX8_change_32 : decode cX8_change 32 = .ok (.getfield 23, 3) := by decide +kernel
theorem dX8_change_35 : decode cX8_change 35 = .ok (.getfield 110, 3) := by decide +kernel
theorem dX8_change_38 : decode cX8_change 38 = .ok (.iload_n 1, 1) := by decide +kernel
theorem dX8_change_39 : decode cX8_change 39 = .ok (.iload_n 2, 1) := by decide +kernel
theorem dX8_change_40 : decode cX8_change 40 = .ok (.iastore, 1) := by decide +kernel
theorem dX8_change_41 : decode cX8_change 41 = .ok (.aload_n 0, 1) := by decide +kernel
theorem dX8_change_42 : decode cX8_change 42 = .ok (.iconst 0, 1) := by decide +kernel
theorem dX8_change_43 : decode cX8_change 43 = .ok (.putfield 87, 3) := by decide +kernel
theorem dX8_change_46 : decode cX8_change 46 = .ok (.iload_n 3, 1) := by decide +kernel
theorem dX8_change_47 : decode cX8_change 47 = .ok (.ireturn, 1) := by decide +kernel
set_option maxRecDepth 20000 in
theorem ggX8_swap_X8_isTongue : GoodIn wsX8_swap wsX8_isTongue := goodIn_r _ [9, 1, 10, 133, 134, 135, 136, 137, 138, 139, 140, 141, 142, 143, 144, 145, 152, 153, 154, 155, 156] (by decide +kernel) (by decide +kernel)
set_option maxRecDepth 20000 in
theorem gX8_swap_X8_isTongue : GoodIn wsX8_swap (wsV RX8 127 RX8 yX8_isTongue wsX8_isTongue) := goodIn_app (goodIn_of _ (by decide +kernel)) ggX8_swap_X8_isTongue
set_option maxRecDepth 20000 in
theorem ggX8_swap_X5_exchange : GoodIn wsX8_swap wsX5_exchange := goodIn_r _ [15, 16, 17, 18, 19, 8, 20, 152, 153, 154, 155, 156] (by decide +kernel) (by decide +kernel)
set_option maxRecDepth 20000 in
theorem gX8_swap_X5_exchange : GoodIn wsX8_swap (wsV RX8 199 RX5 yX5_exchange wsX5_exchange) := goodIn_app (goodIn_of _ (by decide +kernel)) ggX8_swap_X5_exchange
set_option maxRecDepth 20000 in
theorem ggX8_swap_X8_freshenStudy : GoodIn wsX8_swap wsX8_freshenStudy := goodIn_r _ [24, 2, 3, 1, 25, 26, 27, 28, 29, 30, 31, 32, 33, 34, 35, 36, 37, 38, 39, 40, 41, 42, 43, 44, 45, 46, 47, 48, 49, 50, 51, 52, 53, 54, 19, 8, 20, 55, 56, 57, 58, 59, 60, 61, 62, 63, 64, 65, 66, 67, 68, 69, 70, 71, 72, 73, 74, 75, 76, 77, 78, 79, 80, 81, 82, 83, 84, 85, 86, 87, 88, 89, 90, 91, 92, 93, 94, 95, 96, 97, 98, 99, 100, 101, 102, 103, 104, 105, 106, 107, 108, 109, 110, 111, 112, 113, 114, 115, 116, 117, 118, 119, 120, 121, 122, 123, 124, 125, 126, 127, 128, 129, 130, 131, 132, 133, 134, 135, 136, 137, 138, 139, 140, 141, 142, 143, 144, 145, 146, 147, 148, 149, 150, 151, 152, 153, 154, 155, 156, 157, 158, 159, 160, 161, 162, 163, 164, 165] (by decide +kernel) (by decide +kernel)
set_option maxRecDepth 20000 in
theorem gX8_swap_X8_freshenStudy : GoodIn wsX8_swap (wsV RX8 100 RX8 yX8_freshenStudy wsX8_freshenStudy) := goodIn_app (goodIn_of _ (by decide +kernel)) ggX8_swap_X8_freshenStudy
theorem dX8_swap_0 : decode cX8_swap 0 = .ok (.aload_n 0, 1) := by decide +kernel
theorem dX8_swap_1 : decode cX8_swap 1 = .ok (.iload_n 1, 1) := by decide +kernel
theorem dX8_swap_2 : decode cX8_swap 2 = .ok (.invokevirtual 127, 3) := by decide +kernel
theorem dX8_swap_5 : decode cX8_swap 5 = .ok (.ifCond .eq 16, 3) := by decide +kernel
theorem dX8_swap_8 : decode cX8_swap 8 = .ok (.aload_n 0, 1) := by decide +kernel
theorem dX8_swap_9 : decode cX8_swap 9 = .ok (.iload_n 2, 1) := by decide +kernel
theorem dX8_swap_10 : decode cX8_swap 10 = .ok (.invokevirtual 127, 3) := by decide +kernel
theorem dX8_swap_13 : decode cX8_swap 13 = .ok (.ifCond .eq 8, 3) := by decide +kernel
theorem dX8_swap_16 : decode cX8_swap 16 = .ok (.iload_n 1, 1) := by decide +kernel
theorem dX8_swap_17 : decode cX8_swap 17 = .ok (.iload_n 2, 1) := by decide +kernel
theorem dX8_swap_18 : decode cX8_swap 18 = .ok (.if_icmp .ne 6, 3) := by decide +kernel
theorem dX8_swap_21 : decode cX8_swap 21 = .ok (.bipush (-101), 2) := by decide +kernel
theorem dX8_swap_23 : decode cX8_swap 23 = .ok (.ireturn, 1) := by decide +kernel
theorem dX8_swap_24 : decode cX8_swap 24 = .ok (.aload_n 0, 1) := by decide +kernel
theorem dX8_swap_25 : decode cX8_swap 25 = .ok (.getfield 23, 3) := by decide +kernel
theorem dX8_swap_28 : decode cX8_swap 28 = .ok (.iload_n 1, 1) := by decide +kernel
theorem dX8_swap_29 : decode cX8_swap 29 = .ok (.iload_n 2, 1) := by decide +kernel
theorem dX8_swap_30 : decode cX8_swap 30 = .ok (.invokevirtual 199, 3) := by decide +kernel
theorem dX8_swap_33 : decode cX8_swap 33 = .ok (.aload_n 0, 1) := by decide +kernel
theorem dX8_swap_34 : decode cX8_swap 34 = .ok (.iconst 0, 1) := by decide +kernel
theorem dX8_swap_35 : decode cX8_swap 35 = .ok (.putfield 87, 3) := by decide +kernel
theorem dX8_swap_38 : decode cX8_swap 38 = .ok (.aload_n 0, 1) := by decide +kernel
theorem dX8_swap_39 : decode cX8_swap 39 = .ok (.invokevirtual 100, 3) := by decide +kernel
theorem dX8_swap_42 : decode cX8_swap 42 = .ok (.aload_n 0, 1) := by decide +kernel
theorem dX8_swap_43 : decode cX8_swap 43 = .ok (.getfield 37, 3) := by decide +kernel
theorem dX8_swap_46 : decode cX8_swap 46 = .ok (.getfield 202, 3) := by decide +kernel
theorem dX8_swap_49 : decode cX8_swap 49 = .ok (.ireturn, 1) := by decide +kernel
set_option maxRecDepth 20000 in
theorem ggX8_see_X8_isSet : GoodIn wsX8_see wsX8_isSet := goodIn_r _ [7, 8, 9, 19, 20, 21, 22, 23, 24, 25, 26, 27, 28, 29, 30, 31, 36, 37, 38, 39, 40] (by decide +kernel) (by decide +kernel)
set_option maxRecDepth 20000 in
theorem gX8_see_X8_isSet : GoodIn wsX8_see (wsV RX8 96 RX8 yX8_isSet wsX8_isSet) := goodIn_app (goodIn_of _ (by decide +kernel)) ggX8_see_X8_isSet
set_option maxRecDepth 20000 in
theorem ggX8_see_X4_add : GoodIn wsX8_see wsX4_add := goodIn_r _ [14, 15, 16, 17, 18, 32, 33, 34, 35] (by decide +kernel) (by decide +kernel)
set_option maxRecDepth 20000 in
theorem gX8_see_X4_add : GoodIn wsX8_see (wsV RX8 206 RX4 yX4_add wsX4_add) := goodIn_app (goodIn_of _ (by decide +kernel)) ggX8_see_X4_add
theorem dX8_see_0 : decode cX8_see 0 = .ok (.aload_n 0, 1) := by decide +kernel
theorem dX8_see_1 : decode cX8_see 1 = .ok (.iload_n 1, 1) := by decide +kernel
theorem dX8_see_2 : decode cX8_see 2 = .ok (.invokevirtual 96, 3) := by decide +kernel
theorem dX8_see_5 : decode cX8_see 5 = .ok (.ifCond .ne 6, 3) := by decide +kernel
theorem dX8_see_8 : decode cX8_see 8 = .ok (.bipush (-101), 2) := by decide +kernel
theorem dX8_see_10 : decode cX8_see 10 = .ok (.ireturn, 1) := by decide +kernel
theorem dX8_see_11 : decode cX8_see 11 = .ok (.iload_n 2, 1) := by decide +kernel
theorem dX8_see_12 : decode cX8_see 12 = .ok (.ifCond .lt 8, 3) := by decide +kernel
theorem dX8_see_15 : decode cX8_see 15 = .ok (.iload_n 2, 1) := by decide +kernel
theorem dX8_see_16 : decode cX8_see 16 = .ok (.iconst 4, 1) := by decide +kernel
theorem dX8_see_17 : decode cX8_see 17 = .ok (.if_icmp .lt 6, 3) := by decide +kernel
theorem dX8_see_20 : decode cX8_see 20 = .ok (.bipush (-102), 2) := by decide +kernel
theorem dX8_see_22 : decode cX8_see 22 = .ok (.ireturn, 1) := by decide +kernel
theorem dX8_see_23 : decode cX8_see 23 = .ok (.aload_n 0, 1) := by decide +kernel
theorem dX8_see_24 : decode cX8_see 24 = .ok (.getfield 30, 3) := by decide +kernel
theorem dX8_see_27 : decode cX8_see 27 = .ok (.getfield 205, 3) := by decide +kernel
theorem dX8_see_30 : decode cX8_see 30 = .ok (.bipush 6, 2) := by decide +kernel
theorem dX8_see_32 : decode cX8_see 32 = .ok (.if_icmp .lt 6, 3) := by decide +kernel
theorem dX8_see_35 : decode cX8_see 35 = .ok (.bipush (-104), 2) := by decide +kernel
theorem dX8_see_37 : decode cX8_see 37 = .ok (.ireturn, 1) := by decide +kernel
theorem dX8_see_38 : decode cX8_see 38 = .ok (.aload_n 0, 1) := by decide +kernel
theorem dX8_see_39 : decode cX8_see 39 = .ok (.getfield 30, 3) := by decide +kernel
theorem dX8_see_42 : decode cX8_see 42 = .ok (.iload_n 1, 1) := by decide +kernel
theorem dX8_see_43 : decode cX8_see 43 = .ok (.iload_n 2, 1) := by decide +kernel
theorem dX8_see_44 : decode cX8_see 44 = .ok (.iload_n 3, 1) := by decide +kernel
theorem dX8_see_45 : decode cX8_see 45 = .ok (.invokevirtual 206, 3) := by decide +kernel
theorem dX8_see_48 : decode cX8_see 48 = .ok (.aload_n 0, 1) := by decide +kernel
theorem dX8_see_49 : decode cX8_see 49 = .ok (.getfield 30, 3) := by decide +kernel
theorem dX8_see_52 : decode cX8_see 52 = .ok (.getfield 205, 3) := by decide +kernel
theorem dX8_see_55 : decode cX8_see 55 = .ok (.ireturn, 1) := by decide +kernel
set_option maxRecDepth 20000 in
theorem ggX8_forget_X4_clear : GoodIn wsX8_forget wsX4_clear := goodIn_r _ [7, 8, 22, 23, 24, 25] (by decide +kernel) (by decide +kernel)
set_option maxRecDepth 20000 in
theorem gX8_forget_X4_clear : GoodIn wsX8_forget (wsV RX8 80 RX4 yX4_clear wsX4_clear) := goodIn_app (goodIn_of _ (by decide +kernel)) ggX8_forget_X4_clear
theorem dX8_forget_0 : decode cX8_forget 0 = .ok (.aload_n 0, 1) := by decide +kernel
theorem dX8_forget_1 : decode cX8_forget 1 = .ok (.getfield 30, 3) := by decide +kernel
theorem dX8_forget_4 : decode cX8_forget 4 = .ok (.getfield 205, 3) := by decide +kernel
theorem dX8_forget_7 : decode cX8_forget 7 = .ok (.istore_n 1, 1) := by decide +kernel
theorem dX8_forget_8 : decode cX8_forget 8 = .ok (.aload_n 0, 1) := by decide +kernel
theorem dX8_forget_9 : decode cX8_forget 9 = .ok (.getfield 30, 3) := by decide +kernel
theorem dX8_forget_12 : decode cX8_forget 12 = .ok (.invokevirtual 80, 3) := by decide +kernel
theorem dX8_forget_15 : decode cX8_forget 15 = .ok (.iload_n 1, 1) := by decide +kernel
theorem dX8_forget_16 : decode cX8_forget 16 = .ok (.ireturn, 1) := by decide +kernel
set_option maxRecDepth 20000 in
theorem ggX8_drawn_X1_drawSets : GoodIn wsX8_drawn wsX1_drawSets := goodIn_r _ [9, 10, 11, 12, 13, 14, 15, 16, 17, 18, 19, 20, 21, 22, 23, 8, 24, 25, 26, 27, 28, 29, 30, 31, 32, 33, 34, 35, 36, 37, 38, 39, 40, 41, 42, 43, 44, 45, 46, 47, 48, 49, 50, 51, 52, 53, 67, 68, 69, 70, 71, 72, 73] (by decide +kernel) (by decide +kernel)
set_option maxRecDepth 20000 in
theorem gX8_drawn_X1_drawSets : GoodIn wsX8_drawn (wsV RX8 210 RX1 yX1_drawSets wsX1_drawSets) := goodIn_app (goodIn_of _ (by decide +kernel)) ggX8_drawn_X1_drawSets
theorem dX8_drawn_0 : decode cX8_drawn 0 = .ok (.iload_n 1, 1) := by decide +kernel
theorem dX8_drawn_1 : decode cX8_drawn 1 = .ok (.iconst 1, 1) := by decide +kernel
theorem dX8_drawn_2 : decode cX8_drawn 2 = .ok (.if_icmp .lt 13, 3) := by decide +kernel
theorem dX8_drawn_5 : decode cX8_drawn 5 = .ok (.iload_n 1, 1) := by decide +kernel
theorem dX8_drawn_6 : decode cX8_drawn 6 = .ok (.bipush 40, 2) := by decide +kernel
theorem dX8_drawn_8 : decode cX8_drawn 8 = .ok (.if_icmp .gt 7, 3) := by decide +kernel
theorem dX8_drawn_11 : decode cX8_drawn 11 = .ok (.iload_n 2, 1) := by decide +kernel
theorem dX8_drawn_12 : decode cX8_drawn 12 = .ok (.ifCond .ge 6, 3) := by decide +kernel
theorem dX8_drawn_15 : decode cX8_drawn 15 = .ok (.bipush (-102), 2) := by decide +kernel
theorem dX8_drawn_17 : decode cX8_drawn 17 = .ok (.ireturn, 1) := by decide +kernel
theorem dX8_drawn_18 : decode cX8_drawn 18 = .ok (.iload_n 3, 1) := by decide +kernel
theorem dX8_drawn_19 : decode cX8_drawn 19 = .ok (.ifCond .lt 8, 3) := by decide +kernel
theorem dX8_drawn_22 : decode cX8_drawn 22 = .ok (.iload_n 3, 1) := by decide +kernel
theorem dX8_drawn_23 : decode cX8_drawn 23 = .ok (.iconst 3, 1) := by decide +kernel
theorem dX8_drawn_24 : decode cX8_drawn 24 = .ok (.if_icmp .lt 6, 3) := by decide +kernel
theorem dX8_drawn_27 : decode cX8_drawn 27 = .ok (.bipush (-102), 2) := by decide +kernel
theorem dX8_drawn_29 : decode cX8_drawn 29 = .ok (.ireturn, 1) := by decide +kernel
theorem dX8_drawn_30 : decode cX8_drawn 30 = .ok (.aload_n 0, 1) := by decide +kernel
theorem dX8_drawn_31 : decode cX8_drawn 31 = .ok (.getfield 57, 3) := by decide +kernel
theorem dX8_drawn_34 : decode cX8_drawn 34 = .ok (.iload_n 1, 1) := by decide +kernel
theorem dX8_drawn_35 : decode cX8_drawn 35 = .ok (.iload_n 2, 1) := by decide +kernel
theorem dX8_drawn_36 : decode cX8_drawn 36 = .ok (.invokevirtual 210, 3) := by decide +kernel
theorem dX8_drawn_39 : decode cX8_drawn 39 = .ok (.iload_n 3, 1) := by decide +kernel
theorem dX8_drawn_40 : decode cX8_drawn 40 = .ok (.lookupswitch 44 #[(0, 28), (1, 36)], 28) := by decide +kernel
theorem dX8_drawn_68 : decode cX8_drawn 68 = .ok (.aload_n 0, 1) := by decide +kernel
theorem dX8_drawn_69 : decode cX8_drawn 69 = .ok (.getfield 57, 3) := by decide +kernel
theorem dX8_drawn_72 : decode cX8_drawn 72 = .ok (.getfield 213, 3) := by decide +kernel
theorem dX8_drawn_75 : decode cX8_drawn 75 = .ok (.ireturn, 1) := by decide +kernel
theorem dX8_drawn_76 : decode cX8_drawn 76 = .ok (.aload_n 0, 1) := by decide +kernel
theorem dX8_drawn_77 : decode cX8_drawn 77 = .ok (.getfield 57, 3) := by decide +kernel
theorem dX8_drawn_80 : decode cX8_drawn 80 = .ok (.getfield 216, 3) := by decide +kernel
theorem dX8_drawn_83 : decode cX8_drawn 83 = .ok (.ireturn, 1) := by decide +kernel
theorem dX8_drawn_84 : decode cX8_drawn 84 = .ok (.aload_n 0, 1) := by decide +kernel
theorem dX8_drawn_85 : decode cX8_drawn 85 = .ok (.getfield 57, 3) := by decide +kernel
theorem dX8_drawn_88 : decode cX8_drawn 88 = .ok (.getfield 219, 3) := by decide +kernel
theorem dX8_drawn_91 : decode cX8_drawn 91 = .ok (.ireturn, 1) := by decide +kernel
set_option maxRecDepth 20000 in
theorem ggX8_image_X5_become : GoodIn wsX8_image wsX5_become := goodIn_r _ [11, 12, 13, 14, 15, 16, 17, 18, 19, 20, 47, 48, 49, 50, 51] (by decide +kernel) (by decide +kernel)
set_option maxRecDepth 20000 in
theorem gX8_image_X5_become : GoodIn wsX8_image (wsV RX8 76 RX5 yX5_become wsX5_become) := goodIn_app (goodIn_of _ (by decide +kernel)) ggX8_image_X5_become
set_option maxRecDepth 20000 in
theorem ggX8_image_X4_become : GoodIn wsX8_image wsX4_become := goodIn_r _ [25, 26, 27, 28, 29, 30, 31, 32, 24, 33, 52, 53, 54, 55] (by decide +kernel) (by decide +kernel)
set_option maxRecDepth 20000 in
theorem gX8_image_X4_become : GoodIn wsX8_image (wsV RX8 222 RX4 yX4_become wsX4_become) := goodIn_app (goodIn_of _ (by decide +kernel)) ggX8_image_X4_become
theorem dX8_image_0 : decode cX8_image 0 = .ok (.aload_n 0, 1) := by decide +kernel
theorem dX8_image_1 : decode cX8_image 1 = .ok (.getfield 23, 3) := by decide +kernel
theorem dX8_image_4 : decode cX8_image 4 = .ok (.getfield 93, 3) := by decide +kernel
theorem dX8_image_7 : decode cX8_image 7 = .ok (.ifCond .ne 6, 3) := by decide +kernel
theorem dX8_image_10 : decode cX8_image 10 = .ok (.bipush (-103), 2) := by decide +kernel
theorem dX8_image_12 : decode cX8_image 12 = .ok (.ireturn, 1) := by decide +kernel
theorem dX8_image_13 : decode cX8_image 13 = .ok (.aload_n 0, 1) := by decide +kernel
theorem dX8_image_14 : decode cX8_image 14 = .ok (.getfield 41, 3) := by decide +kernel
theorem dX8_image_17 : decode cX8_image 17 = .ok (.aload_n 0, 1) := by decide +kernel
theorem dX8_image_18 : decode cX8_image 18 = .ok (.getfield 23, 3) := by decide +kernel
theorem dX8_image_21 : decode cX8_image 21 = .ok (.invokevirtual 76, 3) := by decide +kernel
theorem dX8_image_24 : decode cX8_image 24 = .ok (.aload_n 0, 1) := by decide +kernel
theorem dX8_image_25 : decode cX8_image 25 = .ok (.getfield 44, 3) := by decide +kernel
theorem dX8_image_28 : decode cX8_image 28 = .ok (.aload_n 0, 1) := by decide +kernel
theorem dX8_image_29 : decode cX8_image 29 = .ok (.getfield 30, 3) := by decide +kernel
theorem dX8_image_32 : decode cX8_image 32 = .ok (.invokevirtual 222, 3) := by decide +kernel
theorem dX8_image_35 : decode cX8_image 35 = .ok (.aload_n 0, 1) := by decide +kernel
theorem dX8_image_36 : decode cX8_image 36 = .ok (.iconst 1, 1) := by decide +kernel
theorem dX8_image_37 : decode cX8_image 37 = .ok (.putfield 83, 3) := by decide +kernel
theorem dX8_image_40 : decode cX8_image 40 = .ok (.aload_n 0, 1) := by decide +kernel
theorem dX8_image_41 : decode cX8_image 41 = .ok (.getfield 23, 3) := by decide +kernel
theorem dX8_image_44 : decode cX8_image 44 = .ok (.getfield 93, 3) := by decide +kernel
theorem dX8_image_47 : decode cX8_image 47 = .ok (.ireturn, 1) := by decide +kernel
set_option maxRecDepth 20000 in
theorem ggX8_restore_X5_become : GoodIn wsX8_restore wsX5_become := goodIn_r _ [12, 13, 14, 15, 16, 17, 18, 19, 20, 21, 48, 49, 50, 51, 52] (by decide +kernel) (by decide +kernel)
set_option maxRecDepth 20000 in
theorem gX8_restore_X5_become : GoodIn wsX8_restore (wsV RX8 76 RX5 yX5_become wsX5_become) := goodIn_app (goodIn_of _ (by decide +kernel)) ggX8_restore_X5_become
set_option maxRecDepth 20000 in
theorem ggX8_restore_X4_become : GoodIn wsX8_restore wsX4_become := goodIn_r _ [26, 27, 28, 29, 30, 31, 32, 33, 25, 34, 53, 54, 55, 56] (by decide +kernel) (by decide +kernel)
set_option maxRecDepth 20000 in
theorem gX8_restore_X4_become : GoodIn wsX8_restore (wsV RX8 222 RX4 yX4_become wsX4_become) := goodIn_app (goodIn_of _ (by decide +kernel)) ggX8_restore_X4_become
theorem dX8_restore_0 : decode cX8_restore 0 = .ok (.aload_n 0, 1) := by decide +kernel
theorem dX8_restore_1 : decode cX8_restore 1 = .ok (.getfield 83, 3) := by decide +kernel
theorem dX8_restore_4 : decode cX8_restore 4 = .ok (.ifCond .ne 6, 3) := by decide +kernel
theorem dX8_restore_7 : decode cX8_restore 7 = .ok (.bipush (-103), 2) := by decide +kernel
theorem dX8_restore_9 : decode cX8_restore 9 = .ok (.ireturn, 1) := by decide +kernel
theorem dX8_restore_10 : decode cX8_restore 10 = .ok (.aload_n 0, 1) := by decide +kernel
theorem dX8_restore_11 : decode cX8_restore 11 = .ok (.getfield 23, 3) := by decide +kernel
theorem dX8_restore_14 : decode cX8_restore 14 = .ok (.aload_n 0, 1) := by decide +kernel
theorem dX8_restore_15 : decode cX8_restore 15 = .ok (.getfield 41, 3) := by decide +kernel
theorem dX8_restore_18 : decode cX8_restore 18 = .ok (.invokevirtual 76, 3) := by decide +kernel
theorem dX8_restore_21 : decode cX8_restore 21 = .ok (.aload_n 0, 1) := by decide +kernel
theorem dX8_restore_22 : decode cX8_restore 22 = .ok (.getfield 30, 3) := by decide +kernel
theorem dX8_restore_25 : decode cX8_restore 25 = .ok (.aload_n 0, 1) := by decide +kernel
theorem dX8_restore_26 : decode cX8_restore 26 = .ok (.getfield 44, 3) := by decide +kernel
theorem dX8_restore_29 : decode cX8_restore 29 = .ok (.invokevirtual 222, 3) := by decide +kernel
theorem dX8_restore_32 : decode cX8_restore 32 = .ok (.aload_n 0, 1) := by decide +kernel
theorem dX8_restore_33 : decode cX8_restore 33 = .ok (.iconst 0, 1) := by decide +kernel
theorem dX8_restore_34 : decode cX8_restore 34 = .ok (.putfield 87, 3) := by decide +kernel
theorem dX8_restore_37 : decode cX8_restore 37 = .ok (.aload_n 0, 1) := by decide +kernel
theorem dX8_restore_38 : decode cX8_restore 38 = .ok (.getfield 23, 3) := by decide +kernel
theorem dX8_restore_41 : decode cX8_restore 41 = .ok (.getfield 93, 3) := by decide +kernel
theorem dX8_restore_44 : decode cX8_restore 44 = .ok (.ireturn, 1) := by decide +kernel
set_option maxRecDepth 20000 in
theorem ggX8_count_X8_freshenStudy : GoodIn wsX8_count wsX8_freshenStudy := goodIn_r _ [5, 6, 7, 8, 9, 10, 11, 12, 13, 14, 15, 16, 17, 18, 19, 20, 21, 22, 23, 24, 25, 26, 27, 28, 29, 30, 31, 32, 33, 34, 35, 36, 37, 38, 39, 4, 40, 41, 42, 43, 44, 45, 46, 47, 48, 49, 50, 51, 52, 53, 54, 55, 56, 57, 58, 59, 60, 61, 62, 63, 64, 65, 66, 67, 68, 69, 70, 71, 72, 73, 74, 75, 76, 77, 78, 79, 80, 81, 82, 83, 84, 85, 86, 87, 88, 89, 90, 91, 92, 93, 94, 95, 96, 97, 98, 99, 100, 101, 102, 103, 104, 105, 106, 107, 108, 109, 110, 111, 112, 113, 114, 115, 116, 117, 118, 149, 150, 151, 152, 153, 154, 155, 156, 157, 158, 159, 160, 161, 162, 163, 164, 165, 166, 167, 168, 169, 170, 171, 172, 173, 174, 175, 176, 177, 178, 179, 180, 181] (by decide +kernel) (by decide +kernel)
set_option maxRecDepth 20000 in
theorem gX8_count_X8_freshenStudy : GoodIn wsX8_count (wsV RX8 100 RX8 yX8_freshenStudy wsX8_freshenStudy) := goodIn_app (goodIn_of _ (by decide +kernel)) ggX8_count_X8_freshenStudy
set_option maxRecDepth 20000 in
theorem ggX8_count_X8_tellOfAll : GoodIn wsX8_count wsX8_tellOfAll := goodIn_r _ [122, 8, 123, 124, 7, 125, 126, 127, 128, 129, 130, 131, 132, 133, 47, 4, 48, 134, 135, 136, 12, 137, 17, 138, 139, 140, 141, 15, 117, 31, 142, 143, 144, 145, 146, 147, 148, 149, 150, 151, 152, 153, 154, 155, 156, 157, 158, 159, 160, 161, 168, 169, 170, 171, 172, 162, 163, 164, 165, 166, 167, 176, 177, 178, 179, 180, 181, 182, 183, 184, 185] (by decide +kernel) (by decide +kernel)
set_option maxRecDepth 20000 in
theorem gX8_count_X8_tellOfAll : GoodIn wsX8_count (wsV RX8 225 RX8 yX8_tellOfAll wsX8_tellOfAll) := goodIn_app (goodIn_of _ (by decide +kernel)) ggX8_count_X8_tellOfAll
theorem dX8_count_0 : decode cX8_count 0 = .ok (.iload_n 1, 1) := by decide +kernel
theorem dX8_count_1 : decode cX8_count 1 = .ok (.ifCond .lt 9, 3) := by decide +kernel
theorem dX8_count_4 : decode cX8_count 4 = .ok (.iload_n 1, 1) := by decide +kernel
theorem dX8_count_5 : decode cX8_count 5 = .ok (.bipush 10, 2) := by decide +kernel
theorem dX8_count_7 : decode cX8_count 7 = .ok (.if_icmp .lt 6, 3) := by decide +kernel
theorem dX8_count_10 : decode cX8_count 10 = .ok (.bipush (-102), 2) := by decide +kernel
theorem dX8_count_12 : decode cX8_count 12 = .ok (.ireturn, 1) := by decide +kernel
theorem dX8_count_13 : decode cX8_count 13 = .ok (.aload_n 0, 1) := by decide +kernel
theorem dX8_count_14 : decode cX8_count 14 = .ok (.invokevirtual 100, 3) := by decide +kernel
theorem dX8_count_17 : decode cX8_count 17 = .ok (.aload_n 0, 1) := by decide +kernel
theorem dX8_count_18 : decode cX8_count 18 = .ok (.iload_n 1, 1) := by decide +kernel
theorem dX8_count_19 : decode cX8_count 19 = .ok (.invokevirtual 225, 3) := by decide +kernel
theorem dX8_count_22 : decode cX8_count 22 = .ok (.ireturn, 1) := by decide +kernel
set_option maxRecDepth 20000 in
theorem ggX8_digest_X8_freshenStudy : GoodIn wsX8_digest wsX8_freshenStudy := goodIn_r _ [11, 12, 13, 2, 14, 15, 16, 17, 18, 19, 20, 21, 22, 23, 24, 25, 26, 27, 28, 29, 30, 31, 32, 33, 34, 35, 36, 37, 38, 39, 40, 41, 42, 43, 44, 10, 45, 46, 47, 48, 49, 50, 51, 52, 53, 54, 55, 56, 57, 58, 59, 60, 61, 62, 63, 64, 65, 66, 67, 68, 69, 70, 71, 72, 73, 74, 75, 76, 77, 78, 79, 80, 81, 82, 83, 84, 85, 86, 87, 88, 89, 90, 91, 92, 93, 94, 95, 96, 97, 98, 99, 100, 101, 102, 103, 104, 105, 106, 107, 108, 109, 110, 111, 112, 113, 114, 115, 116, 117, 118, 119, 120, 121, 122, 123, 214, 215, 216, 217, 218, 219, 220, 221, 222, 223, 224, 225, 226, 232, 233, 234, 235, 236, 237, 227, 228, 229, 230, 231, 238, 239, 240, 241, 242, 243, 244, 245, 246] (by decide +kernel) (by decide +kernel)
set_option maxRecDepth 20000 in
theorem gX8_digest_X8_freshenStudy : GoodIn wsX8_digest (wsV RX8 100 RX8 yX8_freshenStudy wsX8_freshenStudy) := goodIn_app (goodIn_of _ (by decide +kernel)) ggX8_digest_X8_freshenStudy
set_option maxRecDepth 20000 in
theorem ggX8_digest_X8_digestSet : GoodIn wsX8_digest wsX8_digestSet := goodIn_r _ [127, 2, 4, 128, 129, 130, 131, 10, 132, 133, 13, 134, 135, 136, 137, 138, 17, 139, 122, 140, 141, 142, 143, 20, 36, 144, 145, 146, 147, 148, 149, 150, 151, 152, 153, 154, 155, 156, 157, 158, 159, 160, 161, 162, 163, 164, 165, 166, 167, 168, 169, 170, 171, 172, 173, 174, 175, 176, 177, 178, 179, 52, 53, 180, 181, 182, 183, 184, 185, 186, 187, 44, 45, 188, 77, 78, 214, 215, 216, 217, 218, 219, 220, 221, 222, 223, 224, 225, 226, 227, 228, 229, 230, 231, 232, 233, 234, 235, 236, 237, 247, 248, 249, 250] (by decide +kernel) (by decide +kernel)
set_option maxRecDepth 20000 in
theorem gX8_digest_X8_digestSet : GoodIn wsX8_digest (wsV RX8 230 RX8 yX8_digestSet wsX8_digestSet) := goodIn_app (goodIn_of _ (by decide +kernel)) ggX8_digest_X8_digestSet
set_option maxRecDepth 20000 in
theorem ggX8_digest_X8_digestLaws : GoodIn wsX8_digest wsX8_digestLaws := goodIn_r _ [192, 13, 193, 194, 99, 10, 100, 195, 196, 197, 82, 198, 111, 117, 112, 175, 176, 177, 178, 214, 215, 216, 217, 218, 219, 220, 221, 222, 223, 224, 225, 226, 232, 233, 234, 235, 236, 237, 241, 242, 243, 244, 245, 246] (by decide +kernel) (by decide +kernel)
set_option maxRecDepth 20000 in
theorem gX8_digest_X8_digestLaws : GoodIn wsX8_digest (wsV RX8 237 RX8 yX8_digestLaws wsX8_digestLaws) := goodIn_app (goodIn_of _ (by decide +kernel)) ggX8_digest_X8_digestLaws
set_option maxRecDepth 20000 in
theorem ggX8_digest_X8_mixed : GoodIn wsX8_digest wsX8_mixed := goodIn_r _ [177, 178] (by decide +kernel) (by decide +kernel)
set_option maxRecDepth 20000 in
theorem gX8_digest_X8_mixed : GoodIn wsX8_digest (va_wsS RX8 240 yX8_mixed wsX8_mixed) := goodIn_app (goodIn_of _ (by decide +kernel)) ggX8_digest_X8_mixed
set_option maxRecDepth 20000 in
theorem ggX8_digest_X8_tellOfAll : GoodIn wsX8_digest wsX8_tellOfAll := goodIn_r _ [202, 2, 3, 4, 13, 203, 193, 204, 205, 135, 206, 5, 207, 179, 52, 10, 53, 208, 209, 210, 17, 211, 22, 212, 141, 142, 143, 20, 122, 36, 213, 169, 170, 171, 172, 173, 174, 214, 215, 216, 217, 218, 219, 220, 221, 222, 223, 224, 225, 226, 227, 228, 229, 230, 231, 232, 233, 234, 235, 236, 237, 241, 242, 243, 244, 245, 246, 247, 248, 249, 250] (by decide +kernel) (by decide +kernel)
set_option maxRecDepth 20000 in
theorem gX8_digest_X8_tellOfAll : GoodIn wsX8_digest (wsV RX8 225 RX8 yX8_tellOfAll wsX8_tellOfAll) := goodIn_app (goodIn_of _ (by decide +kernel)) ggX8_digest_X8_tellOfAll
theorem dX8_digest_0 : decode cX8_digest 0 = .ok (.aload_n 0, 1) := by decide +kernel
theorem dX8_digest_1 : decode cX8_digest 1 = .ok (.invokevirtual 100, 3) := by decide +kernel
theorem dX8_digest_4 : decode cX8_digest 4 = .ok (.ldc2_w 228, 3) := by decide +kernel
theorem dX8_digest_7 : decode cX8_digest 7 = .ok (.lstore_n 1, 1) := by decide +kernel
theorem dX8_digest_8 : decode cX8_digest 8 = .ok (.iconst 0, 1) := by decide +kernel
theorem dX8_digest_9 : decode cX8_digest 9 = .ok (.istore_n 3, 1) := by decide +kernel
theorem dX8_digest_10 : decode cX8_digest 10 = .ok (.iload_n 3, 1) := by decide +kernel
theorem dX8_digest_11 : decode cX8_digest 11 = .ok (.aload_n 0, 1) := by decide +kernel
theorem dX8_digest_12 : decode cX8_digest 12 = .ok (.getfield 23, 3) := by decide +kernel
theorem dX8_digest_15 : decode cX8_digest 15 = .ok (.getfield 93, 3) := by decide +kernel
theorem dX8_digest_18 : decode cX8_digest 18 = .ok (.if_icmp .ge 16, 3) := by decide +kernel
theorem dX8_digest_21 : decode cX8_digest 21 = .ok (.aload_n 0, 1) := by decide +kernel
theorem dX8_digest_22 : decode cX8_digest 22 = .ok (.lload_n 1, 1) := by decide +kernel
theorem dX8_digest_23 : decode cX8_digest 23 = .ok (.iload_n 3, 1) := by decide +kernel
theorem dX8_digest_24 : decode cX8_digest 24 = .ok (.invokevirtual 230, 3) := by decide +kernel
theorem dX8_digest_27 : decode cX8_digest 27 = .ok (.lstore_n 1, 1) := by decide +kernel
theorem dX8_digest_28 : decode cX8_digest 28 = .ok (.iinc 3 1, 3) := by decide +kernel
theorem dX8_digest_31 : decode cX8_digest 31 = .ok (.goto (-21), 3) := by decide +kernel
theorem dX8_digest_34 : decode cX8_digest 34 = .ok (.iconst 0, 1) := by decide +kernel
theorem dX8_digest_35 : decode cX8_digest 35 = .ok (.istore_n 3, 1) := by decide +kernel
theorem dX8_digest_36 : decode cX8_digest 36 = .ok (.iload_n 3, 1) := by decide +kernel
theorem dX8_digest_37 : decode cX8_digest 37 = .ok (.aload_n 0, 1) := by decide +kernel
theorem dX8_digest_38 : decode cX8_digest 38 = .ok (.getfield 23, 3) := by decide +kernel
theorem dX8_digest_41 : decode cX8_digest 41 = .ok (.getfield 234, 3) := by decide +kernel
theorem dX8_digest_44 : decode cX8_digest 44 = .ok (.if_icmp .ge 16, 3) := by decide +kernel
theorem dX8_digest_47 : decode cX8_digest 47 = .ok (.aload_n 0, 1) := by decide +kernel
theorem dX8_digest_48 : decode cX8_digest 48 = .ok (.lload_n 1, 1) := by decide +kernel
theorem dX8_digest_49 : decode cX8_digest 49 = .ok (.iload_n 3, 1) := by decide +kernel
theorem dX8_digest_50 : decode cX8_digest 50 = .ok (.invokevirtual 237, 3) := by decide +kernel
theorem dX8_digest_53 : decode cX8_digest 53 = .ok (.lstore_n 1, 1) := by decide +kernel
theorem dX8_digest_54 : decode cX8_digest 54 = .ok (.iinc 3 1, 3) := by decide +kernel
theorem dX8_digest_57 : decode cX8_digest 57 = .ok (.goto (-21), 3) := by decide +kernel
theorem dX8_digest_60 : decode cX8_digest 60 = .ok (.iconst 0, 1) := by decide +kernel
theorem dX8_digest_61 : decode cX8_digest 61 = .ok (.istore_n 3, 1) := by decide +kernel
theorem dX8_digest_62 : decode cX8_digest 62 = .ok (.iload_n 3, 1) := by decide +kernel
theorem dX8_digest_63 : decode cX8_digest 63 = .ok (.aload_n 0, 1) := by decide +kernel
theorem dX8_digest_64 : decode cX8_digest 64 = .ok (.getfield 61, 3) := by decide +kernel
theorem dX8_digest_67 : decode cX8_digest 67 = .ok (.if_icmp .ge 20, 3) := by decide +kernel
theorem dX8_digest_70 : decode cX8_digest 70 = .ok (.lload_n 1, 1) := by decide +kernel
theorem dX8_digest_71 : decode cX8_digest 71 = .ok (.aload_n 0, 1) := by decide +kernel
theorem dX8_digest_72 : decode cX8_digest 72 = .ok (.getfield 9, 3) := by decide +kernel
theorem dX8_digest_75 : decode cX8_digest 75 = .ok (.iload_n 3, 1) := by decide +kernel
theorem dX8_digest_76 : decode cX8_digest 76 = .ok (.iaload, 1) := by decide +kernel
theorem dX8_digest_77 : decode cX8_digest 77 = .ok (.invokestatic 240, 3) := by decide +kernel
theorem dX8_digest_80 : decode cX8_digest 80 = .ok (.lstore_n 1, 1) := by decide +kernel
theorem dX8_digest_81 : decode cX8_digest 81 = .ok (.iinc 3 1, 3) := by decide +kernel
theorem dX8_digest_84 : decode cX8_digest 84 = .ok (.goto (-22), 3) := by decide +kernel
theorem dX8_digest_87 : decode cX8_digest 87 = .ok (.iconst 0, 1) := by decide +kernel
theorem dX8_digest_88 : decode cX8_digest 88 = .ok (.istore_n 3, 1) := by decide +kernel
theorem dX8_digest_89 : decode cX8_digest 89 = .ok (.iload_n 3, 1) := by decide +kernel
theorem dX8_digest_90 : decode cX8_digest 90 = .ok (.bipush 10, 2) := by decide +kernel
theorem dX8_digest_92 : decode cX8_digest 92 = .ok (.if_icmp .ge 19, 3) := by decide +kernel
theorem dX8_digest_95 : decode cX8_digest 95 = .ok (.lload_n 1, 1) := by decide +kernel
theorem dX8_digest_96 : decode cX8_digest 96 = .ok (.aload_n 0, 1) := by decide +kernel
theorem dX8_digest_97 : decode cX8_digest 97 = .ok (.iload_n 3, 1) := by decide +kernel
theorem dX8_digest_98 : decode cX8_digest 98 = .ok (.invokevirtual 225, 3) := by decide +kernel
theorem dX8_digest_101 : decode cX8_digest 101 = .ok (.invokestatic 240, 3) := by decide +kernel
theorem dX8_digest_104 : decode cX8_digest 104 = .ok (.lstore_n 1, 1) := by decide +kernel
theorem dX8_digest_105 : decode cX8_digest 105 = .ok (.iinc 3 1, 3) := by decide +kernel
theorem dX8_digest_108 : decode cX8_digest 108 = .ok (.goto (-19), 3) := by decide +kernel
theorem dX8_digest_111 : decode cX8_digest 111 = .ok (.lload_n 1, 1) := by decide +kernel
theorem dX8_digest_112 : decode cX8_digest 112 = .ok (.lreturn, 1) := by decide +kernel
set_option maxRecDepth 20000 in
theorem ggX8_digestSet_X8_tellOfSet : GoodIn wsX8_digestSet wsX8_tellOfSet := goodIn_r _ [8, 1, 9, 3, 10, 11, 12, 13, 14, 15, 16, 17, 18, 19, 20, 21, 22, 23, 24, 25, 26, 27, 28, 29, 30, 31, 32, 33, 34, 35, 36, 37, 38, 39, 40, 41, 42, 43, 44, 45, 46, 47, 48, 49, 50, 51, 52, 53, 54, 55, 76, 77, 78, 79, 80, 81, 82, 83, 84, 85, 86, 87, 88, 89, 90, 91, 92, 93, 94, 95, 96, 97, 98, 99, 100, 101, 102, 103] (by decide +kernel) (by decide +kernel)
set_option maxRecDepth 20000 in
theorem gX8_digestSet_X8_tellOfSet : GoodIn wsX8_digestSet (wsV RX8 103 RX8 yX8_tellOfSet wsX8_tellOfSet) := goodIn_app (goodIn_of _ (by decide +kernel)) ggX8_digestSet_X8_tellOfSet
set_option maxRecDepth 20000 in
theorem ggX8_digestSet_X8_mixed : GoodIn wsX8_digestSet wsX8_mixed := goodIn_r _ [58, 59] (by decide +kernel) (by decide +kernel)
set_option maxRecDepth 20000 in
theorem gX8_digestSet_X8_mixed : GoodIn wsX8_digestSet (va_wsS RX8 240 yX8_mixed wsX8_mixed) := goodIn_app (goodIn_of _ (by decide +kernel)) ggX8_digestSet_X8_mixed
set_option maxRecDepth 20000 in
theorem ggX8_digestSet_X8_nodesOf : GoodIn wsX8_digestSet wsX8_nodesOf := goodIn_r _ [62] (by decide +kernel) (by decide +kernel)
set_option maxRecDepth 20000 in
theorem gX8_digestSet_X8_nodesOf : GoodIn wsX8_digestSet (va_wsS RX8 243 yX8_nodesOf wsX8_nodesOf) := goodIn_app (goodIn_of _ (by decide +kernel)) ggX8_digestSet_X8_nodesOf
set_option maxRecDepth 20000 in
theorem ggX8_digestSet_X8_tellOfNode : GoodIn wsX8_digestSet wsX8_tellOfNode := goodIn_r _ [66, 1, 2, 67, 68, 9, 10, 69, 70, 71, 7, 72, 73, 74, 75, 76, 77, 78, 79, 80, 81, 82, 83, 84, 85, 86, 87, 88, 89, 90, 91, 92, 93, 94, 95, 96, 97, 98, 99] (by decide +kernel) (by decide +kernel)
set_option maxRecDepth 20000 in
theorem gX8_digestSet_X8_tellOfNode : GoodIn wsX8_digestSet (wsV RX8 123 RX8 yX8_tellOfNode wsX8_tellOfNode) := goodIn_app (goodIn_of _ (by decide +kernel)) ggX8_digestSet_X8_tellOfNode
theorem dX8_digestSet_0 : decode cX8_digestSet 0 = .ok (.lload_n 1, 1) := by decide +kernel
theorem dX8_digestSet_1 : decode cX8_digestSet 1 = .ok (.lstore 4, 2) := by decide +kernel
theorem dX8_digestSet_3 : decode cX8_digestSet 3 = .ok (.iconst 0, 1) := by decide +kernel
theorem dX8_digestSet_4 : decode cX8_digestSet 4 = .ok (.istore 6, 2) := by decide +kernel
theorem dX8_digestSet_6 : decode cX8_digestSet 6 = .ok (.iload 6, 2) := by decide +kernel
theorem dX8_digestSet_8 : decode cX8_digestSet 8 = .ok (.bipush 7, 2) := by decide +kernel
theorem dX8_digestSet_10 : decode cX8_digestSet 10 = .ok (.if_icmp .ge 23, 3) := by decide +kernel
theorem dX8_digestSet_13 : decode cX8_digestSet 13 = .ok (.lload 4, 2) := by decide +kernel
theorem dX8_digestSet_15 : decode cX8_digestSet 15 = .ok (.aload_n 0, 1) := by decide +kernel
theorem dX8_digestSet_16 : decode cX8_digestSet 16 = .ok (.iload_n 3, 1) := by decide +kernel
theorem dX8_digestSet_17 : decode cX8_digestSet 17 = .ok (.iload 6, 2) := by decide +kernel
theorem dX8_digestSet_19 : decode cX8_digestSet 19 = .ok (.invokevirtual 103, 3) := by decide +kernel
theorem dX8_digestSet_22 : decode cX8_digestSet 22 = .ok (.invokestatic 240, 3) := by decide +kernel
theorem dX8_digestSet_25 : decode cX8_digestSet 25 = .ok (.lstore 4, 2) := by decide +kernel
theorem dX8_digestSet_27 : decode cX8_digestSet 27 = .ok (.iinc 6 1, 3) := by decide +kernel
theorem dX8_digestSet_30 : decode cX8_digestSet 30 = .ok (.goto (-24), 3) := by decide +kernel
theorem dX8_digestSet_33 : decode cX8_digestSet 33 = .ok (.aload_n 0, 1) := by decide +kernel
theorem dX8_digestSet_34 : decode cX8_digestSet 34 = .ok (.getfield 23, 3) := by decide +kernel
theorem dX8_digestSet_37 : decode cX8_digestSet 37 = .ok (.getfield 234, 3) := by decide +kernel
theorem dX8_digestSet_40 : decode cX8_digestSet 40 = .ok (.invokestatic 243, 3) := by decide +kernel
theorem dX8_digestSet_43 : decode cX8_digestSet 43 = .ok (.istore 6, 2) := by decide +kernel
theorem dX8_digestSet_45 : decode cX8_digestSet 45 = .ok (.iconst 0, 1) := by decide +kernel
theorem dX8_digestSet_46 : decode cX8_digestSet 46 = .ok (.istore 7, 2) := by decide +kernel
theorem dX8_digestSet_48 : decode cX8_digestSet 48 = .ok (.iload 7, 2) := by decide +kernel
theorem dX8_digestSet_50 : decode cX8_digestSet 50 = .ok (.aload_n 0, 1) := by decide +kernel
theorem dX8_digestSet_51 : decode cX8_digestSet 51 = .ok (.getfield 23, 3) := by decide +kernel
theorem dX8_digestSet_54 : decode cX8_digestSet 54 = .ok (.getfield 168, 3) := by decide +kernel
theorem dX8_digestSet_57 : decode cX8_digestSet 57 = .ok (.iload_n 3, 1) := by decide +kernel
theorem dX8_digestSet_58 : decode cX8_digestSet 58 = .ok (.iaload, 1) := by decide +kernel
theorem dX8_digestSet_59 : decode cX8_digestSet 59 = .ok (.if_icmp .ge 41, 3) := by decide +kernel
theorem dX8_digestSet_62 : decode cX8_digestSet 62 = .ok (.iconst 0, 1) := by decide +kernel
theorem dX8_digestSet_63 : decode cX8_digestSet 63 = .ok (.istore 8, 2) := by decide +kernel
theorem dX8_digestSet_65 : decode cX8_digestSet 65 = .ok (.iload 8, 2) := by decide +kernel
theorem dX8_digestSet_67 : decode cX8_digestSet 67 = .ok (.iload 6, 2) := by decide +kernel
theorem dX8_digestSet_69 : decode cX8_digestSet 69 = .ok (.if_icmp .ge 25, 3) := by decide +kernel
theorem dX8_digestSet_72 : decode cX8_digestSet 72 = .ok (.lload 4, 2) := by decide +kernel
theorem dX8_digestSet_74 : decode cX8_digestSet 74 = .ok (.aload_n 0, 1) := by decide +kernel
theorem dX8_digestSet_75 : decode cX8_digestSet 75 = .ok (.iload_n 3, 1) := by decide +kernel
theorem dX8_digestSet_76 : decode cX8_digestSet 76 = .ok (.iload 8, 2) := by decide +kernel
theorem dX8_digestSet_78 : decode cX8_digestSet 78 = .ok (.iload 7, 2) := by decide +kernel
theorem dX8_digestSet_80 : decode cX8_digestSet 80 = .ok (.invokevirtual 123, 3) := by decide +kernel
theorem dX8_digestSet_83 : decode cX8_digestSet 83 = .ok (.invokestatic 240, 3) := by decide +kernel
theorem dX8_digestSet_86 : decode cX8_digestSet 86 = .ok (.lstore 4, 2) := by decide +kernel
theorem dX8_digestSet_88 : decode cX8_digestSet 88 = .ok (.iinc 8 1, 3) := by decide +kernel
theorem dX8_digestSet_91 : decode cX8_digestSet 91 = .ok (.goto (-26), 3) := by decide +kernel
theorem dX8_digestSet_94 : decode cX8_digestSet 94 = .ok (.iinc 7 1, 3) := by decide +kernel
theorem dX8_digestSet_97 : decode cX8_digestSet 97 = .ok (.goto (-49), 3) := by decide +kernel
theorem dX8_digestSet_100 : decode cX8_digestSet 100 = .ok (.lload 4, 2) := by decide +kernel
theorem dX8_digestSet_102 : decode cX8_digestSet 102 = .ok (.lreturn, 1) := by decide +kernel
set_option maxRecDepth 20000 in
theorem ggX8_digestLaws_X8_lawAt : GoodIn wsX8_digestLaws wsX8_lawAt := goodIn_r _ [6] (by decide +kernel) (by decide +kernel)
set_option maxRecDepth 20000 in
theorem gX8_digestLaws_X8_lawAt : GoodIn wsX8_digestLaws (va_wsS RX8 137 yX8_lawAt wsX8_lawAt) := goodIn_app (goodIn_of _ (by decide +kernel)) ggX8_digestLaws_X8_lawAt
set_option maxRecDepth 20000 in
theorem ggX8_digestLaws_X2_tell : GoodIn wsX8_digestLaws wsX2_tell := goodIn_r _ [11, 12, 13, 14, 38, 39, 40, 41, 42, 43] (by decide +kernel) (by decide +kernel)
set_option maxRecDepth 20000 in
theorem gX8_digestLaws_X2_tell : GoodIn wsX8_digestLaws (wsV RX8 140 RX2 yX2_tell wsX2_tell) := goodIn_app (goodIn_of _ (by decide +kernel)) ggX8_digestLaws_X2_tell
set_option maxRecDepth 20000 in
theorem ggX8_digestLaws_X8_mixed : GoodIn wsX8_digestLaws wsX8_mixed := goodIn_r _ [17, 18] (by decide +kernel) (by decide +kernel)
set_option maxRecDepth 20000 in
theorem gX8_digestLaws_X8_mixed : GoodIn wsX8_digestLaws (va_wsS RX8 240 yX8_mixed wsX8_mixed) := goodIn_app (goodIn_of _ (by decide +kernel)) ggX8_digestLaws_X8_mixed
theorem dX8_digestLaws_0 : decode cX8_digestLaws 0 = .ok (.lload_n 1, 1) := by decide +kernel
theorem dX8_digestLaws_1 : decode cX8_digestLaws 1 = .ok (.lstore 4, 2) := by decide +kernel
theorem dX8_digestLaws_3 : decode cX8_digestLaws 3 = .ok (.iconst 0, 1) := by decide +kernel
theorem dX8_digestLaws_4 : decode cX8_digestLaws 4 = .ok (.istore 6, 2) := by decide +kernel
theorem dX8_digestLaws_6 : decode cX8_digestLaws 6 = .ok (.iload 6, 2) := by decide +kernel
theorem dX8_digestLaws_8 : decode cX8_digestLaws 8 = .ok (.bipush 9, 2) := by decide +kernel
theorem dX8_digestLaws_10 : decode cX8_digestLaws 10 = .ok (.if_icmp .ge 70, 3) := by decide +kernel
theorem dX8_digestLaws_13 : decode cX8_digestLaws 13 = .ok (.iconst 0, 1) := by decide +kernel
theorem dX8_digestLaws_14 : decode cX8_digestLaws 14 = .ok (.istore 7, 2) := by decide +kernel
theorem dX8_digestLaws_16 : decode cX8_digestLaws 16 = .ok (.iload 7, 2) := by decide +kernel
theorem dX8_digestLaws_18 : decode cX8_digestLaws 18 = .ok (.iconst 1, 1) := by decide +kernel
theorem dX8_digestLaws_19 : decode cX8_digestLaws 19 = .ok (.if_icmp .gt 55, 3) := by decide +kernel
theorem dX8_digestLaws_22 : decode cX8_digestLaws 22 = .ok (.iload_n 3, 1) := by decide +kernel
theorem dX8_digestLaws_23 : decode cX8_digestLaws 23 = .ok (.iload 6, 2) := by decide +kernel
theorem dX8_digestLaws_25 : decode cX8_digestLaws 25 = .ok (.iload 7, 2) := by decide +kernel
theorem dX8_digestLaws_27 : decode cX8_digestLaws 27 = .ok (.invokestatic 137, 3) := by decide +kernel
theorem dX8_digestLaws_30 : decode cX8_digestLaws 30 = .ok (.istore 8, 2) := by decide +kernel
theorem dX8_digestLaws_32 : decode cX8_digestLaws 32 = .ok (.iconst 0, 1) := by decide +kernel
theorem dX8_digestLaws_33 : decode cX8_digestLaws 33 = .ok (.istore 9, 2) := by decide +kernel
theorem dX8_digestLaws_35 : decode cX8_digestLaws 35 = .ok (.iload 9, 2) := by decide +kernel
theorem dX8_digestLaws_37 : decode cX8_digestLaws 37 = .ok (.iconst 3, 1) := by decide +kernel
theorem dX8_digestLaws_38 : decode cX8_digestLaws 38 = .ok (.if_icmp .ge 30, 3) := by decide +kernel
theorem dX8_digestLaws_41 : decode cX8_digestLaws 41 = .ok (.lload 4, 2) := by decide +kernel
theorem dX8_digestLaws_43 : decode cX8_digestLaws 43 = .ok (.aload_n 0, 1) := by decide +kernel
theorem dX8_digestLaws_44 : decode cX8_digestLaws 44 = .ok (.getfield 37, 3) := by decide +kernel
theorem dX8_digestLaws_47 : decode cX8_digestLaws 47 = .ok (.getfield 133, 3) := by decide +kernel
theorem dX8_digestLaws_50 : decode cX8_digestLaws 50 = .ok (.iload 8, 2) := by decide +kernel
theorem dX8_digestLaws_52 : decode cX8_digestLaws 52 = .ok (.iload 9, 2) := by decide +kernel
theorem dX8_digestLaws_54 : decode cX8_digestLaws 54 = .ok (.invokevirtual 140, 3) := by decide +kernel
theorem dX8_digestLaws_57 : decode cX8_digestLaws 57 = .ok (.invokestatic 240, 3) := by decide +kernel
theorem dX8_digestLaws_60 : decode cX8_digestLaws 60 = .ok (.lstore 4, 2) := by decide +kernel
theorem dX8_digestLaws_62 : decode cX8_digestLaws 62 = .ok (.iinc 9 1, 3) := by decide +kernel
theorem dX8_digestLaws_65 : decode cX8_digestLaws 65 = .ok (.goto (-30), 3) := by decide +kernel
theorem dX8_digestLaws_68 : decode cX8_digestLaws 68 = .ok (.iinc 7 1, 3) := by decide +kernel
theorem dX8_digestLaws_71 : decode cX8_digestLaws 71 = .ok (.goto (-55), 3) := by decide +kernel
theorem dX8_digestLaws_74 : decode cX8_digestLaws 74 = .ok (.iinc 6 1, 3) := by decide +kernel
theorem dX8_digestLaws_77 : decode cX8_digestLaws 77 = .ok (.goto (-71), 3) := by decide +kernel
theorem dX8_digestLaws_80 : decode cX8_digestLaws 80 = .ok (.lload 4, 2) := by decide +kernel
theorem dX8_digestLaws_82 : decode cX8_digestLaws 82 = .ok (.lreturn, 1) := by decide +kernel
theorem dX8_mixed_0 : decode cX8_mixed 0 = .ok (.ldc2_w 246, 3) := by decide +kernel
theorem dX8_mixed_3 : decode cX8_mixed 3 = .ok (.lload_n 0, 1) := by decide +kernel
theorem dX8_mixed_4 : decode cX8_mixed 4 = .ok (.lmul, 1) := by decide +kernel
theorem dX8_mixed_5 : decode cX8_mixed 5 = .ok (.iload_n 2, 1) := by decide +kernel
theorem dX8_mixed_6 : decode cX8_mixed 6 = .ok (.i2l, 1) := by decide +kernel
theorem dX8_mixed_7 : decode cX8_mixed 7 = .ok (.ladd, 1) := by decide +kernel
theorem dX8_mixed_8 : decode cX8_mixed 8 = .ok (.lreturn, 1) := by decide +kernel
set_option maxRecDepth 20000 in
theorem ggX8_readPage_X3_start : GoodIn wsX8_readPage wsX3_start := goodIn_r _ [8, 9, 10, 11, 12, 13, 162, 163, 164, 165, 166, 167, 168, 169, 170, 171, 172, 173] (by decide +kernel) (by decide +kernel)
set_option maxRecDepth 20000 in
theorem gX8_readPage_X3_start : GoodIn wsX8_readPage (wsV RX8 248 RX3 yX3_start wsX3_start) := goodIn_app (goodIn_of _ (by decide +kernel)) ggX8_readPage_X3_start
set_option maxRecDepth 20000 in
theorem ggX8_readPage_X3_accepts : GoodIn wsX8_readPage wsX3_accepts := goodIn_r _ [17, 12, 18, 19, 20, 21, 22, 23, 24, 25, 26, 27, 28, 29, 30, 31, 32, 33, 34, 35, 36, 37, 38, 39, 40, 41, 42, 43, 44, 45, 46, 47, 48, 49, 50, 51, 52, 53, 54, 55, 56, 57, 58, 59, 60, 61, 62, 63, 64, 65, 66, 67, 68, 69, 70, 71, 72, 73, 74, 75, 76, 77, 78, 79, 80, 81, 82, 83, 84, 85, 86, 87, 88, 89, 90, 91, 92, 93, 94, 95, 96, 97, 98, 99, 100, 101, 102, 103, 104, 105, 106, 107, 108, 109, 7, 110, 9, 10, 111, 112, 113, 114, 115, 116, 117, 118, 119, 120, 121, 122, 123, 11, 124, 125, 126, 127, 128, 129, 130, 131, 132, 13, 133, 134, 135, 136, 137, 138, 139, 140, 141, 142, 143, 144, 145, 146, 147, 148, 162, 163, 164, 165, 166, 167, 168, 169, 170, 171, 172, 173] (by decide +kernel) (by decide +kernel)
set_option maxRecDepth 20000 in
theorem gX8_readPage_X3_accepts : GoodIn wsX8_readPage (wsV RX8 251 RX3 yX3_accepts wsX3_accepts) := goodIn_app (goodIn_of _ (by decide +kernel)) ggX8_readPage_X3_accepts
theorem dX8_readPage_0 : decode cX8_readPage 0 = .ok (.aload_n 0, 1) := by decide +kernel
theorem dX8_readPage_1 : decode cX8_readPage 1 = .ok (.getfield 16, 3) := by decide +kernel
theorem dX8_readPage_4 : decode cX8_readPage 4 = .ok (.invokevirtual 248, 3) := by decide +kernel
theorem dX8_readPage_7 : decode cX8_readPage 7 = .ok (.iconst 0, 1) := by decide +kernel
theorem dX8_readPage_8 : decode cX8_readPage 8 = .ok (.istore_n 1, 1) := by decide +kernel
theorem dX8_readPage_9 : decode cX8_readPage 9 = .ok (.iload_n 1, 1) := by decide +kernel
theorem dX8_readPage_10 : decode cX8_readPage 10 = .ok (.aload_n 0, 1) := by decide +kernel
theorem dX8_readPage_11 : decode cX8_readPage 11 = .ok (.getfield 61, 3) := by decide +kernel
theorem dX8_readPage_14 : decode cX8_readPage 14 = .ok (.if_icmp .ge 25, 3) := by decide +kernel
theorem dX8_readPage_17 : decode cX8_readPage 17 = .ok (.aload_n 0, 1) := by decide +kernel
theorem dX8_readPage_18 : decode cX8_readPage 18 = .ok (.getfield 16, 3) := by decide +kernel
theorem dX8_readPage_21 : decode cX8_readPage 21 = .ok (.aload_n 0, 1) := by decide +kernel
theorem dX8_readPage_22 : decode cX8_readPage 22 = .ok (.getfield 9, 3) := by decide +kernel
theorem dX8_readPage_25 : decode cX8_readPage 25 = .ok (.iload_n 1, 1) := by decide +kernel
theorem dX8_readPage_26 : decode cX8_readPage 26 = .ok (.iaload, 1) := by decide +kernel
theorem dX8_readPage_27 : decode cX8_readPage 27 = .ok (.invokevirtual 251, 3) := by decide +kernel
theorem dX8_readPage_30 : decode cX8_readPage 30 = .ok (.ifCond .eq 9, 3) := by decide +kernel
theorem dX8_readPage_33 : decode cX8_readPage 33 = .ok (.iinc 1 1, 3) := by decide +kernel
theorem dX8_readPage_36 : decode cX8_readPage 36 = .ok (.goto (-27), 3) := by decide +kernel
theorem dX8_readPage_39 : decode cX8_readPage 39 = .ok (.iload_n 1, 1) := by decide +kernel
theorem dX8_readPage_40 : decode cX8_readPage 40 = .ok (.ireturn, 1) := by decide +kernel
set_option maxRecDepth 20000 in
theorem ggX8_freshenStudy_X6_renew : GoodIn wsX8_freshenStudy wsX6_renew := goodIn_r _ [8, 9, 10, 11, 12, 13, 14, 15, 16, 17, 18, 19, 20, 21, 22, 7, 23, 24, 25, 26, 27, 28, 29, 30, 31, 32, 33, 34, 35, 36, 37, 38, 39, 40, 41, 42, 43, 44, 45, 46, 47, 48, 49, 50, 51, 52, 53, 54, 55, 56, 57, 58, 59, 60, 61, 62, 63, 64, 65, 66, 67, 68, 69, 70, 71, 72, 73, 74, 75, 76, 77, 78, 79, 80, 81, 82, 83, 84, 85, 86, 87, 88, 89, 90, 91, 92, 93, 94, 95, 96, 97, 98, 99, 100, 101, 102, 103, 104, 105, 106, 107, 108, 109, 110, 111, 112, 113, 114, 128, 129, 130, 131, 132, 133, 134, 135, 136, 137, 138, 139, 140, 141, 142, 143, 144, 145, 146, 147] (by decide +kernel) (by decide +kernel)
set_option maxRecDepth 20000 in
theorem gX8_freshenStudy_X6_renew : GoodIn wsX8_freshenStudy (wsV RX8 254 RX6 yX6_renew wsX6_renew) := goodIn_app (goodIn_of _ (by decide +kernel)) ggX8_freshenStudy_X6_renew
theorem dX8_freshenStudy_0 : decode cX8_freshenStudy 0 = .ok (.aload_n 0, 1) := by decide +kernel
theorem dX8_freshenStudy_1 : decode cX8_freshenStudy 1 = .ok (.getfield 87, 3) := by decide +kernel
theorem dX8_freshenStudy_4 : decode cX8_freshenStudy 4 = .ok (.ifCond .ne 14, 3) := by decide +kernel
theorem dX8_freshenStudy_7 : decode cX8_freshenStudy 7 = .ok (.aload_n 0, 1) := by decide +kernel
theorem dX8_freshenStudy_8 : decode cX8_freshenStudy 8 = .ok (.getfield 37, 3) := by decide +kernel
theorem dX8_freshenStudy_11 : decode cX8_freshenStudy 11 = .ok (.aload_n 0, 1) := by decide +kernel
theorem dX8_freshenStudy_12 : decode cX8_freshenStudy 12 = .ok (.getfield 23, 3) := by decide +kernel
theorem dX8_freshenStudy_15 : decode cX8_freshenStudy 15 = .ok (.invokevirtual 254, 3) := by decide +kernel
theorem dX8_freshenStudy_18 : decode cX8_freshenStudy 18 = .ok (.aload_n 0, 1) := by decide +kernel
theorem dX8_freshenStudy_19 : decode cX8_freshenStudy 19 = .ok (.iconst 1, 1) := by decide +kernel
theorem dX8_freshenStudy_20 : decode cX8_freshenStudy 20 = .ok (.putfield 87, 3) := by decide +kernel
theorem dX8_freshenStudy_23 : decode cX8_freshenStudy 23 = .ok (.return_, 1) := by decide +kernel
set_option maxRecDepth 20000 in
theorem ggX8_tellOfSet_X6_strangeInSet : GoodIn wsX8_tellOfSet wsX6_strangeInSet := goodIn_r _ [11, 12, 68, 69, 70, 71, 72, 73] (by decide +kernel) (by decide +kernel)
set_option maxRecDepth 20000 in
theorem gX8_tellOfSet_X6_strangeInSet : GoodIn wsX8_tellOfSet (wsV RX8 259 RX6 yX6_strangeInSet wsX6_strangeInSet) := goodIn_app (goodIn_of _ (by decide +kernel)) ggX8_tellOfSet_X6_strangeInSet
set_option maxRecDepth 20000 in
theorem ggX8_tellOfSet_X6_borrowedTongues : GoodIn wsX8_tellOfSet wsX6_borrowedTongues := goodIn_r _ [16, 17, 12, 18, 63, 64, 65, 66, 67, 68, 69, 70, 71, 72, 73] (by decide +kernel) (by decide +kernel)
set_option maxRecDepth 20000 in
theorem gX8_tellOfSet_X6_borrowedTongues : GoodIn wsX8_tellOfSet (wsV RX8 262 RX6 yX6_borrowedTongues wsX6_borrowedTongues) := goodIn_app (goodIn_of _ (by decide +kernel)) ggX8_tellOfSet_X6_borrowedTongues
set_option maxRecDepth 20000 in
theorem ggX8_tellOfSet_X4_sortsOf : GoodIn wsX8_tellOfSet wsX4_sortsOf := goodIn_r _ [23, 24, 25, 26, 27, 28, 29, 22, 30, 31, 32, 33, 74, 75, 76, 77] (by decide +kernel) (by decide +kernel)
set_option maxRecDepth 20000 in
theorem gX8_tellOfSet_X4_sortsOf : GoodIn wsX8_tellOfSet (wsV RX8 266 RX4 yX4_sortsOf wsX4_sortsOf) := goodIn_app (goodIn_of _ (by decide +kernel)) ggX8_tellOfSet_X4_sortsOf
set_option maxRecDepth 20000 in
theorem ggX8_tellOfSet_X4_questionFor : GoodIn wsX8_tellOfSet wsX4_questionFor := goodIn_r _ [37, 38, 39, 40, 41, 42, 20, 21, 22, 23, 24, 25, 26, 27, 28, 29, 30, 31, 32, 33, 43, 44, 45, 46, 47, 48, 49, 74, 75, 76, 77] (by decide +kernel) (by decide +kernel)
set_option maxRecDepth 20000 in
theorem gX8_tellOfSet_X4_questionFor : GoodIn wsX8_tellOfSet (wsV RX8 269 RX4 yX4_questionFor wsX4_questionFor) := goodIn_app (goodIn_of _ (by decide +kernel)) ggX8_tellOfSet_X4_questionFor
theorem dX8_tellOfSet_0 : decode cX8_tellOfSet 0 = .ok (.iload_n 2, 1) := by decide +kernel
theorem dX8_tellOfSet_1 : decode cX8_tellOfSet 1 = .ok (.tableswitch 100 0 5 #[39, 49, 59, 69, 78, 91], 39) := by decide +kernel
theorem dX8_tellOfSet_40 : decode cX8_tellOfSet 40 = .ok (.aload_n 0, 1) := by decide +kernel
theorem dX8_tellOfSet_41 : decode cX8_tellOfSet 41 = .ok (.getfield 23, 3) := by decide +kernel
theorem dX8_tellOfSet_44 : decode cX8_tellOfSet 44 = .ok (.getfield 110, 3) := by decide +kernel
theorem dX8_tellOfSet_47 : decode cX8_tellOfSet 47 = .ok (.iload_n 1, 1) := by decide +kernel
theorem dX8_tellOfSet_48 : decode cX8_tellOfSet 48 = .ok (.iaload, 1) := by decide +kernel
theorem dX8_tellOfSet_49 : decode cX8_tellOfSet 49 = .ok (.ireturn, 1) := by decide +kernel
theorem dX8_tellOfSet_50 : decode cX8_tellOfSet 50 = .ok (.aload_n 0, 1) := by decide +kernel
theorem dX8_tellOfSet_51 : decode cX8_tellOfSet 51 = .ok (.getfield 23, 3) := by decide +kernel
theorem dX8_tellOfSet_54 : decode cX8_tellOfSet 54 = .ok (.getfield 168, 3) := by decide +kernel
theorem dX8_tellOfSet_57 : decode cX8_tellOfSet 57 = .ok (.iload_n 1, 1) := by decide +kernel
theorem dX8_tellOfSet_58 : decode cX8_tellOfSet 58 = .ok (.iaload, 1) := by decide +kernel
theorem dX8_tellOfSet_59 : decode cX8_tellOfSet 59 = .ok (.ireturn, 1) := by decide +kernel
theorem dX8_tellOfSet_60 : decode cX8_tellOfSet 60 = .ok (.aload_n 0, 1) := by decide +kernel
theorem dX8_tellOfSet_61 : decode cX8_tellOfSet 61 = .ok (.getfield 37, 3) := by decide +kernel
theorem dX8_tellOfSet_64 : decode cX8_tellOfSet 64 = .ok (.getfield 257, 3) := by decide +kernel
theorem dX8_tellOfSet_67 : decode cX8_tellOfSet 67 = .ok (.iload_n 1, 1) := by decide +kernel
theorem dX8_tellOfSet_68 : decode cX8_tellOfSet 68 = .ok (.iaload, 1) := by decide +kernel
theorem dX8_tellOfSet_69 : decode cX8_tellOfSet 69 = .ok (.ireturn, 1) := by decide +kernel
theorem dX8_tellOfSet_70 : decode cX8_tellOfSet 70 = .ok (.aload_n 0, 1) := by decide +kernel
theorem dX8_tellOfSet_71 : decode cX8_tellOfSet 71 = .ok (.getfield 37, 3) := by decide +kernel
theorem dX8_tellOfSet_74 : decode cX8_tellOfSet 74 = .ok (.iload_n 1, 1) := by decide +kernel
theorem dX8_tellOfSet_75 : decode cX8_tellOfSet 75 = .ok (.invokevirtual 259, 3) := by decide +kernel
theorem dX8_tellOfSet_78 : decode cX8_tellOfSet 78 = .ok (.ireturn, 1) := by decide +kernel
theorem dX8_tellOfSet_79 : decode cX8_tellOfSet 79 = .ok (.aload_n 0, 1) := by decide +kernel
theorem dX8_tellOfSet_80 : decode cX8_tellOfSet 80 = .ok (.getfield 37, 3) := by decide +kernel
theorem dX8_tellOfSet_83 : decode cX8_tellOfSet 83 = .ok (.aload_n 0, 1) := by decide +kernel
theorem dX8_tellOfSet_84 : decode cX8_tellOfSet 84 = .ok (.getfield 23, 3) := by decide +kernel
theorem dX8_tellOfSet_87 : decode cX8_tellOfSet 87 = .ok (.iload_n 1, 1) := by decide +kernel
theorem dX8_tellOfSet_88 : decode cX8_tellOfSet 88 = .ok (.invokevirtual 262, 3) := by decide +kernel
theorem dX8_tellOfSet_91 : decode cX8_tellOfSet 91 = .ok (.ireturn, 1) := by decide +kernel
theorem dX8_tellOfSet_92 : decode cX8_tellOfSet 92 = .ok (.aload_n 0, 1) := by decide +kernel
theorem dX8_tellOfSet_93 : decode cX8_tellOfSet 93 = .ok (.getfield 30, 3) := by decide +kernel
theorem dX8_tellOfSet_96 : decode cX8_tellOfSet 96 = .ok (.iload_n 1, 1) := by decide +kernel
theorem dX8_tellOfSet_97 : decode cX8_tellOfSet 97 = .ok (.invokevirtual 266, 3) := by decide +kernel
theorem dX8_tellOfSet_100 : decode cX8_tellOfSet 100 = .ok (.ireturn, 1) := by decide +kernel
theorem dX8_tellOfSet_101 : decode cX8_tellOfSet 101 = .ok (.aload_n 0, 1) := by decide +kernel
theorem dX8_tellOfSet_102 : decode cX8_tellOfSet 102 = .ok (.getfield 30, 3) := by decide +kernel
theorem dX8_tellOfSet_105 : decode cX8_tellOfSet 105 = .ok (.iload_n 1, 1) := by decide +kernel
theorem dX8_tellOfSet_106 : decode cX8_tellOfSet 106 = .ok (.invokevirtual 269, 3) := by decide +kernel
theorem dX8_tellOfSet_109 : decode cX8_tellOfSet 109 = .ok (.ireturn, 1) := by decide +kernel
set_option maxRecDepth 20000 in
theorem ggX8_tellOfNode_X8_wordAt : GoodIn wsX8_tellOfNode wsX8_wordAt := goodIn_r _ [11] (by decide +kernel) (by decide +kernel)
set_option maxRecDepth 20000 in
theorem gX8_tellOfNode_X8_wordAt : GoodIn wsX8_tellOfNode (va_wsS RX8 165 yX8_wordAt wsX8_wordAt) := goodIn_app (goodIn_of _ (by decide +kernel)) ggX8_tellOfNode_X8_wordAt
set_option maxRecDepth 20000 in
theorem ggX8_tellOfNode_X8_nodesAt : GoodIn wsX8_tellOfNode wsX8_nodesAt := goodIn_r _ [14] (by decide +kernel) (by decide +kernel)
set_option maxRecDepth 20000 in
theorem gX8_tellOfNode_X8_nodesAt : GoodIn wsX8_tellOfNode (va_wsS RX8 275 yX8_nodesAt wsX8_nodesAt) := goodIn_app (goodIn_of _ (by decide +kernel)) ggX8_tellOfNode_X8_nodesAt
theorem dX8_tellOfNode_0 : decode cX8_tellOfNode 0 = .ok (.iload_n 2, 1) := by decide +kernel
theorem dX8_tellOfNode_1 : decode cX8_tellOfNode 1 = .ok (.aload_n 0, 1) := by decide +kernel
theorem dX8_tellOfNode_2 : decode cX8_tellOfNode 2 = .ok (.getfield 23, 3) := by decide +kernel
theorem dX8_tellOfNode_5 : decode cX8_tellOfNode 5 = .ok (.getfield 234, 3) := by decide +kernel
theorem dX8_tellOfNode_8 : decode cX8_tellOfNode 8 = .ok (.if_icmp .ge 19, 3) := by decide +kernel
theorem dX8_tellOfNode_11 : decode cX8_tellOfNode 11 = .ok (.aload_n 0, 1) := by decide +kernel
theorem dX8_tellOfNode_12 : decode cX8_tellOfNode 12 = .ok (.getfield 23, 3) := by decide +kernel
theorem dX8_tellOfNode_15 : decode cX8_tellOfNode 15 = .ok (.getfield 162, 3) := by decide +kernel
theorem dX8_tellOfNode_18 : decode cX8_tellOfNode 18 = .ok (.iload_n 1, 1) := by decide +kernel
theorem dX8_tellOfNode_19 : decode cX8_tellOfNode 19 = .ok (.iload_n 2, 1) := by decide +kernel
theorem dX8_tellOfNode_20 : decode cX8_tellOfNode 20 = .ok (.invokestatic 165, 3) := by decide +kernel
theorem dX8_tellOfNode_23 : decode cX8_tellOfNode 23 = .ok (.iload_n 3, 1) := by decide +kernel
theorem dX8_tellOfNode_24 : decode cX8_tellOfNode 24 = .ok (.iadd, 1) := by decide +kernel
theorem dX8_tellOfNode_25 : decode cX8_tellOfNode 25 = .ok (.iaload, 1) := by decide +kernel
theorem dX8_tellOfNode_26 : decode cX8_tellOfNode 26 = .ok (.ireturn, 1) := by decide +kernel
theorem dX8_tellOfNode_27 : decode cX8_tellOfNode 27 = .ok (.getstatic 145, 3) := by decide +kernel
theorem dX8_tellOfNode_30 : decode cX8_tellOfNode 30 = .ok (.aload_n 0, 1) := by decide +kernel
theorem dX8_tellOfNode_31 : decode cX8_tellOfNode 31 = .ok (.getfield 23, 3) := by decide +kernel
theorem dX8_tellOfNode_34 : decode cX8_tellOfNode 34 = .ok (.getfield 110, 3) := by decide +kernel
theorem dX8_tellOfNode_37 : decode cX8_tellOfNode 37 = .ok (.iload_n 1, 1) := by decide +kernel
theorem dX8_tellOfNode_38 : decode cX8_tellOfNode 38 = .ok (.iaload, 1) := by decide +kernel
theorem dX8_tellOfNode_39 : decode cX8_tellOfNode 39 = .ok (.iaload, 1) := by decide +kernel
theorem dX8_tellOfNode_40 : decode cX8_tellOfNode 40 = .ok (.ifCond .ne 5, 3) := by decide +kernel
theorem dX8_tellOfNode_43 : decode cX8_tellOfNode 43 = .ok (.iconst (-1), 1) := by decide +kernel
theorem dX8_tellOfNode_44 : decode cX8_tellOfNode 44 = .ok (.ireturn, 1) := by decide +kernel
theorem dX8_tellOfNode_45 : decode cX8_tellOfNode 45 = .ok (.aload_n 0, 1) := by decide +kernel
theorem dX8_tellOfNode_46 : decode cX8_tellOfNode 46 = .ok (.getfield 37, 3) := by decide +kernel
theorem dX8_tellOfNode_49 : decode cX8_tellOfNode 49 = .ok (.getfield 272, 3) := by decide +kernel
theorem dX8_tellOfNode_52 : decode cX8_tellOfNode 52 = .ok (.iload_n 1, 1) := by decide +kernel
theorem dX8_tellOfNode_53 : decode cX8_tellOfNode 53 = .ok (.iload_n 3, 1) := by decide +kernel
theorem dX8_tellOfNode_54 : decode cX8_tellOfNode 54 = .ok (.invokestatic 275, 3) := by decide +kernel
theorem dX8_tellOfNode_57 : decode cX8_tellOfNode 57 = .ok (.iload_n 2, 1) := by decide +kernel
theorem dX8_tellOfNode_58 : decode cX8_tellOfNode 58 = .ok (.iadd, 1) := by decide +kernel
theorem dX8_tellOfNode_59 : decode cX8_tellOfNode 59 = .ok (.iaload, 1) := by decide +kernel
theorem dX8_tellOfNode_60 : decode cX8_tellOfNode 60 = .ok (.ireturn, 1) := by decide +kernel
set_option maxRecDepth 20000 in
theorem ggX8_tellOfAll_X8_nodesOf : GoodIn wsX8_tellOfAll wsX8_nodesOf := goodIn_r _ [16] (by decide +kernel) (by decide +kernel)
set_option maxRecDepth 20000 in
theorem gX8_tellOfAll_X8_nodesOf : GoodIn wsX8_tellOfAll (va_wsS RX8 243 yX8_nodesOf wsX8_nodesOf) := goodIn_app (goodIn_of _ (by decide +kernel)) ggX8_tellOfAll_X8_nodesOf
set_option maxRecDepth 20000 in
theorem ggX8_tellOfAll_X6_borrowedWords : GoodIn wsX8_tellOfAll wsX6_borrowedWords := goodIn_r _ [21, 22, 23, 24, 25, 20, 26, 27, 28, 29, 30, 31, 32, 33, 34, 35, 36, 50, 51, 52, 53, 54, 55, 56, 57, 58, 59, 60] (by decide +kernel) (by decide +kernel)
set_option maxRecDepth 20000 in
theorem gX8_tellOfAll_X6_borrowedWords : GoodIn wsX8_tellOfAll (wsV RX8 284 RX6 yX6_borrowedWords wsX6_borrowedWords) := goodIn_app (goodIn_of _ (by decide +kernel)) ggX8_tellOfAll_X6_borrowedWords
theorem dX8_tellOfAll_0 : decode cX8_tellOfAll 0 = .ok (.iload_n 1, 1) := by decide +kernel
theorem dX8_tellOfAll_1 : decode cX8_tellOfAll 1 = .ok (.tableswitch 133 0 8 #[51, 59, 67, 78, 86, 97, 108, 120, 128], 51) := by decide +kernel
theorem dX8_tellOfAll_52 : decode cX8_tellOfAll 52 = .ok (.aload_n 0, 1) := by decide +kernel
theorem dX8_tellOfAll_53 : decode cX8_tellOfAll 53 = .ok (.getfield 23, 3) := by decide +kernel
theorem dX8_tellOfAll_56 : decode cX8_tellOfAll 56 = .ok (.getfield 93, 3) := by decide +kernel
theorem dX8_tellOfAll_59 : decode cX8_tellOfAll 59 = .ok (.ireturn, 1) := by decide +kernel
theorem dX8_tellOfAll_60 : decode cX8_tellOfAll 60 = .ok (.aload_n 0, 1) := by decide +kernel
theorem dX8_tellOfAll_61 : decode cX8_tellOfAll 61 = .ok (.getfield 23, 3) := by decide +kernel
theorem dX8_tellOfAll_64 : decode cX8_tellOfAll 64 = .ok (.getfield 234, 3) := by decide +kernel
theorem dX8_tellOfAll_67 : decode cX8_tellOfAll 67 = .ok (.ireturn, 1) := by decide +kernel
theorem dX8_tellOfAll_68 : decode cX8_tellOfAll 68 = .ok (.aload_n 0, 1) := by decide +kernel
theorem dX8_tellOfAll_69 : decode cX8_tellOfAll 69 = .ok (.getfield 23, 3) := by decide +kernel
theorem dX8_tellOfAll_72 : decode cX8_tellOfAll 72 = .ok (.getfield 234, 3) := by decide +kernel
theorem dX8_tellOfAll_75 : decode cX8_tellOfAll 75 = .ok (.invokestatic 243, 3) := by decide +kernel
theorem dX8_tellOfAll_78 : decode cX8_tellOfAll 78 = .ok (.ireturn, 1) := by decide +kernel
theorem dX8_tellOfAll_79 : decode cX8_tellOfAll 79 = .ok (.aload_n 0, 1) := by decide +kernel
theorem dX8_tellOfAll_80 : decode cX8_tellOfAll 80 = .ok (.getfield 37, 3) := by decide +kernel
theorem dX8_tellOfAll_83 : decode cX8_tellOfAll 83 = .ok (.getfield 202, 3) := by decide +kernel
theorem dX8_tellOfAll_86 : decode cX8_tellOfAll 86 = .ok (.ireturn, 1) := by decide +kernel
theorem dX8_tellOfAll_87 : decode cX8_tellOfAll 87 = .ok (.aload_n 0, 1) := by decide +kernel
theorem dX8_tellOfAll_88 : decode cX8_tellOfAll 88 = .ok (.getfield 37, 3) := by decide +kernel
theorem dX8_tellOfAll_91 : decode cX8_tellOfAll 91 = .ok (.getfield 133, 3) := by decide +kernel
theorem dX8_tellOfAll_94 : decode cX8_tellOfAll 94 = .ok (.getfield 278, 3) := by decide +kernel
theorem dX8_tellOfAll_97 : decode cX8_tellOfAll 97 = .ok (.ireturn, 1) := by decide +kernel
theorem dX8_tellOfAll_98 : decode cX8_tellOfAll 98 = .ok (.aload_n 0, 1) := by decide +kernel
theorem dX8_tellOfAll_99 : decode cX8_tellOfAll 99 = .ok (.getfield 37, 3) := by decide +kernel
theorem dX8_tellOfAll_102 : decode cX8_tellOfAll 102 = .ok (.getfield 133, 3) := by decide +kernel
theorem dX8_tellOfAll_105 : decode cX8_tellOfAll 105 = .ok (.getfield 281, 3) := by decide +kernel
theorem dX8_tellOfAll_108 : decode cX8_tellOfAll 108 = .ok (.ireturn, 1) := by decide +kernel
theorem dX8_tellOfAll_109 : decode cX8_tellOfAll 109 = .ok (.aload_n 0, 1) := by decide +kernel
theorem dX8_tellOfAll_110 : decode cX8_tellOfAll 110 = .ok (.getfield 37, 3) := by decide +kernel
theorem dX8_tellOfAll_113 : decode cX8_tellOfAll 113 = .ok (.aload_n 0, 1) := by decide +kernel
theorem dX8_tellOfAll_114 : decode cX8_tellOfAll 114 = .ok (.getfield 23, 3) := by decide +kernel
theorem dX8_tellOfAll_117 : decode cX8_tellOfAll 117 = .ok (.invokevirtual 284, 3) := by decide +kernel
theorem dX8_tellOfAll_120 : decode cX8_tellOfAll 120 = .ok (.ireturn, 1) := by decide +kernel
theorem dX8_tellOfAll_121 : decode cX8_tellOfAll 121 = .ok (.aload_n 0, 1) := by decide +kernel
theorem dX8_tellOfAll_122 : decode cX8_tellOfAll 122 = .ok (.getfield 30, 3) := by decide +kernel
theorem dX8_tellOfAll_125 : decode cX8_tellOfAll 125 = .ok (.getfield 205, 3) := by decide +kernel
theorem dX8_tellOfAll_128 : decode cX8_tellOfAll 128 = .ok (.ireturn, 1) := by decide +kernel
theorem dX8_tellOfAll_129 : decode cX8_tellOfAll 129 = .ok (.aload_n 0, 1) := by decide +kernel
theorem dX8_tellOfAll_130 : decode cX8_tellOfAll 130 = .ok (.getfield 61, 3) := by decide +kernel
theorem dX8_tellOfAll_133 : decode cX8_tellOfAll 133 = .ok (.ireturn, 1) := by decide +kernel
theorem dX8_tellOfAll_134 : decode cX8_tellOfAll 134 = .ok (.aload_n 0, 1) := by decide +kernel
theorem dX8_tellOfAll_135 : decode cX8_tellOfAll 135 = .ok (.getfield 90, 3) := by decide +kernel
theorem dX8_tellOfAll_138 : decode cX8_tellOfAll 138 = .ok (.ireturn, 1) := by decide +kernel
theorem dX8_isSet_0 : decode cX8_isSet 0 = .ok (.iload_n 1, 1) := by decide +kernel
theorem dX8_isSet_1 : decode cX8_isSet 1 = .ok (.ifCond .lt 18, 3) := by decide +kernel
theorem dX8_isSet_4 : decode cX8_isSet 4 = .ok (.iload_n 1, 1) := by decide +kernel
theorem dX8_isSet_5 : decode cX8_isSet 5 = .ok (.aload_n 0, 1) := by decide +kernel
theorem dX8_isSet_6 : decode cX8_isSet 6 = .ok (.getfield 23, 3) := by decide +kernel
theorem dX8_isSet_9 : decode cX8_isSet 9 = .ok (.getfield 93, 3) := by decide +kernel
theorem dX8_isSet_12 : decode cX8_isSet 12 = .ok (.if_icmp .ge 7, 3) := by decide +kernel
theorem dX8_isSet_15 : decode cX8_isSet 15 = .ok (.iconst 1, 1) := by decide +kernel
theorem dX8_isSet_16 : decode cX8_isSet 16 = .ok (.goto 4, 3) := by decide +kernel
theorem dX8_isSet_19 : decode cX8_isSet 19 = .ok (.iconst 0, 1) := by decide +kernel
theorem dX8_isSet_20 : decode cX8_isSet 20 = .ok (.ireturn, 1) := by decide +kernel
theorem dX8_isTongue_0 : decode cX8_isTongue 0 = .ok (.iload_n 1, 1) := by decide +kernel
theorem dX8_isTongue_1 : decode cX8_isTongue 1 = .ok (.ifCond .lt 18, 3) := by decide +kernel
theorem dX8_isTongue_4 : decode cX8_isTongue 4 = .ok (.iload_n 1, 1) := by decide +kernel
theorem dX8_isTongue_5 : decode cX8_isTongue 5 = .ok (.aload_n 0, 1) := by decide +kernel
theorem dX8_isTongue_6 : decode cX8_isTongue 6 = .ok (.getfield 23, 3) := by decide +kernel
theorem dX8_isTongue_9 : decode cX8_isTongue 9 = .ok (.getfield 234, 3) := by decide +kernel
theorem dX8_isTongue_12 : decode cX8_isTongue 12 = .ok (.if_icmp .ge 7, 3) := by decide +kernel
theorem dX8_isTongue_15 : decode cX8_isTongue 15 = .ok (.iconst 1, 1) := by decide +kernel
theorem dX8_isTongue_16 : decode cX8_isTongue 16 = .ok (.goto 4, 3) := by decide +kernel
theorem dX8_isTongue_19 : decode cX8_isTongue 19 = .ok (.iconst 0, 1) := by decide +kernel
theorem dX8_isTongue_20 : decode cX8_isTongue 20 = .ok (.ireturn, 1) := by decide +kernel
set_option maxRecDepth 20000 in
theorem ggX8_isNode_X8_nodesOf : GoodIn wsX8_isNode wsX8_nodesOf := goodIn_r _ [6] (by decide +kernel) (by decide +kernel)
set_option maxRecDepth 20000 in
theorem gX8_isNode_X8_nodesOf : GoodIn wsX8_isNode (va_wsS RX8 243 yX8_nodesOf wsX8_nodesOf) := goodIn_app (goodIn_of _ (by decide +kernel)) ggX8_isNode_X8_nodesOf
theorem dX8_isNode_0 : decode cX8_isNode 0 = .ok (.iload_n 1, 1) := by decide +kernel
theorem dX8_isNode_1 : decode cX8_isNode 1 = .ok (.ifCond .lt 21, 3) := by decide +kernel
theorem dX8_isNode_4 : decode cX8_isNode 4 = .ok (.iload_n 1, 1) := by decide +kernel
theorem dX8_isNode_5 : decode cX8_isNode 5 = .ok (.aload_n 0, 1) := by decide +kernel
theorem dX8_isNode_6 : decode cX8_isNode 6 = .ok (.getfield 23, 3) := by decide +kernel
theorem dX8_isNode_9 : decode cX8_isNode 9 = .ok (.getfield 234, 3) := by decide +kernel
theorem dX8_isNode_12 : decode cX8_isNode 12 = .ok (.invokestatic 243, 3) := by decide +kernel
theorem dX8_isNode_15 : decode cX8_isNode 15 = .ok (.if_icmp .ge 7, 3) := by decide +kernel
theorem dX8_isNode_18 : decode cX8_isNode 18 = .ok (.iconst 1, 1) := by decide +kernel
theorem dX8_isNode_19 : decode cX8_isNode 19 = .ok (.goto 4, 3) := by decide +kernel
theorem dX8_isNode_22 : decode cX8_isNode 22 = .ok (.iconst 0, 1) := by decide +kernel
theorem dX8_isNode_23 : decode cX8_isNode 23 = .ok (.ireturn, 1) := by decide +kernel
theorem dX8_isPlace_0 : decode cX8_isPlace 0 = .ok (.iload_n 2, 1) := by decide +kernel
theorem dX8_isPlace_1 : decode cX8_isPlace 1 = .ok (.ifCond .lt 20, 3) := by decide +kernel
theorem dX8_isPlace_4 : decode cX8_isPlace 4 = .ok (.iload_n 2, 1) := by decide +kernel
theorem dX8_isPlace_5 : decode cX8_isPlace 5 = .ok (.aload_n 0, 1) := by decide +kernel
theorem dX8_isPlace_6 : decode cX8_isPlace 6 = .ok (.getfield 23, 3) := by decide +kernel
theorem dX8_isPlace_9 : decode cX8_isPlace 9 = .ok (.getfield 168, 3) := by decide +kernel
theorem dX8_isPlace_12 : decode cX8_isPlace 12 = .ok (.iload_n 1, 1) := by decide +kernel
theorem dX8_isPlace_13 : decode cX8_isPlace 13 = .ok (.iaload, 1) := by decide +kernel
theorem dX8_isPlace_14 : decode cX8_isPlace 14 = .ok (.if_icmp .ge 7, 3) := by decide +kernel
theorem dX8_isPlace_17 : decode cX8_isPlace 17 = .ok (.iconst 1, 1) := by decide +kernel
theorem dX8_isPlace_18 : decode cX8_isPlace 18 = .ok (.goto 4, 3) := by decide +kernel
theorem dX8_isPlace_21 : decode cX8_isPlace 21 = .ok (.iconst 0, 1) := by decide +kernel
theorem dX8_isPlace_22 : decode cX8_isPlace 22 = .ok (.ireturn, 1) := by decide +kernel
theorem dX8_isSound_0 : decode cX8_isSound 0 = .ok (.iload_n 0, 1) := by decide +kernel
theorem dX8_isSound_1 : decode cX8_isSound 1 = .ok (.ifCond .lt 13, 3) := by decide +kernel
theorem dX8_isSound_4 : decode cX8_isSound 4 = .ok (.iload_n 0, 1) := by decide +kernel
theorem dX8_isSound_5 : decode cX8_isSound 5 = .ok (.bipush 9, 2) := by decide +kernel
theorem dX8_isSound_7 : decode cX8_isSound 7 = .ok (.if_icmp .ge 7, 3) := by decide +kernel
theorem dX8_isSound_10 : decode cX8_isSound 10 = .ok (.iconst 1, 1) := by decide +kernel
theorem dX8_isSound_11 : decode cX8_isSound 11 = .ok (.goto 4, 3) := by decide +kernel
theorem dX8_isSound_14 : decode cX8_isSound 14 = .ok (.iconst 0, 1) := by decide +kernel
theorem dX8_isSound_15 : decode cX8_isSound 15 = .ok (.ireturn, 1) := by decide +kernel
theorem dX8_isKind_0 : decode cX8_isKind 0 = .ok (.iload_n 0, 1) := by decide +kernel
theorem dX8_isKind_1 : decode cX8_isKind 1 = .ok (.ifCond .lt 12, 3) := by decide +kernel
theorem dX8_isKind_4 : decode cX8_isKind 4 = .ok (.iload_n 0, 1) := by decide +kernel
theorem dX8_isKind_5 : decode cX8_isKind 5 = .ok (.iconst 5, 1) := by decide +kernel
theorem dX8_isKind_6 : decode cX8_isKind 6 = .ok (.if_icmp .ge 7, 3) := by decide +kernel
theorem dX8_isKind_9 : decode cX8_isKind 9 = .ok (.iconst 1, 1) := by decide +kernel
theorem dX8_isKind_10 : decode cX8_isKind 10 = .ok (.goto 4, 3) := by decide +kernel
theorem dX8_isKind_13 : decode cX8_isKind 13 = .ok (.iconst 0, 1) := by decide +kernel
theorem dX8_isKind_14 : decode cX8_isKind 14 = .ok (.ireturn, 1) := by decide +kernel
theorem dX8_isOfKind_0 : decode cX8_isOfKind 0 = .ok (.iload_n 1, 1) := by decide +kernel
theorem dX8_isOfKind_1 : decode cX8_isOfKind 1 = .ok (.ifCond .eq 18, 3) := by decide +kernel
theorem dX8_isOfKind_4 : decode cX8_isOfKind 4 = .ok (.iload_n 0, 1) := by decide +kernel
theorem dX8_isOfKind_5 : decode cX8_isOfKind 5 = .ok (.iload_n 1, 1) := by decide +kernel
theorem dX8_isOfKind_6 : decode cX8_isOfKind 6 = .ok (.if_icmp .eq 13, 3) := by decide +kernel
theorem dX8_isOfKind_9 : decode cX8_isOfKind 9 = .ok (.iload_n 0, 1) := by decide +kernel

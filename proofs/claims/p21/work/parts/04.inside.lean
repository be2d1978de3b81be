theorem mem_r {big : List Cond} (ws : List Cond) (ps : List Nat) (hp : ws = ps.filterMap (fun i => big[i]?)) : ∀ w ∈ ws, w ∈ big := by
  intro w hw
  rw [hp] at hw
  obtain ⟨i, -, hi⟩ := List.mem_filterMap.mp hw
  exact List.mem_of_getElem? hi
theorem tw_nil : ∀ w ∈ ([] : List Cond), w ∈ lw_tbl := fun _ h => absurd h List.not_mem_nil
set_option maxRecDepth 20000 in
theorem twX00 : ∀ w ∈ wsX00, w ∈ lw_tbl := mem_r _ [277, 279, 281, 283, 285] (by decide +kernel)
theorem inX0 : ∀ w ∈ wsX00, w ∈ lw_tbl := twX00
set_option maxRecDepth 20000 in
theorem twX10 : ∀ w ∈ wsX10, w ∈ lw_tbl := mem_r _ [303, 305, 307, 309] (by decide +kernel)
theorem inX1 : ∀ w ∈ wsX10, w ∈ lw_tbl := twX10
set_option maxRecDepth 20000 in
theorem twX20 : ∀ w ∈ wsX20, w ∈ lw_tbl := mem_r _ [211, 213, 215, 217, 219, 221] (by decide +kernel)
theorem inX2 : ∀ w ∈ wsX20, w ∈ lw_tbl := twX20
set_option maxRecDepth 20000 in
theorem twX30 : ∀ w ∈ wsX30, w ∈ lw_tbl := mem_r _ [151, 153, 155, 157, 159, 161, 163] (by decide +kernel)
theorem inX3 : ∀ w ∈ wsX30, w ∈ lw_tbl := twX30
set_option maxRecDepth 20000 in
theorem twX40 : ∀ w ∈ wsX40, w ∈ lw_tbl := mem_r _ [179, 181, 183, 185] (by decide +kernel)
theorem inX4 : ∀ w ∈ wsX40, w ∈ lw_tbl := twX40
set_option maxRecDepth 20000 in
theorem twX50 : ∀ w ∈ wsX50, w ∈ lw_tbl := mem_r _ [131, 133, 135, 137, 139] (by decide +kernel)
theorem inX5 : ∀ w ∈ wsX50, w ∈ lw_tbl := twX50
set_option maxRecDepth 20000 in
theorem twX60 : ∀ w ∈ wsX60, w ∈ lw_tbl := mem_r _ [253, 255, 257, 259, 261, 263] (by decide +kernel)
theorem inX6 : ∀ w ∈ wsX60, w ∈ lw_tbl := twX60
set_option maxRecDepth 20000 in
theorem twX70 : ∀ w ∈ wsX70, w ∈ lw_tbl := mem_r _ [235, 237, 239] (by decide +kernel)
theorem inX7 : ∀ w ∈ wsX70, w ∈ lw_tbl := twX70
set_option maxRecDepth 20000 in
theorem twX80 : ∀ w ∈ wsX80, w ∈ lw_tbl := mem_r _ [325, 327, 329, 331, 333, 335, 337, 339, 341, 343, 345, 347, 349] (by decide +kernel)
theorem inX8 : ∀ w ∈ wsX80, w ∈ lw_tbl := twX80
set_option maxRecDepth 20000 in
theorem twX90 : ∀ w ∈ wsX90, w ∈ lw_tbl := mem_r _ [913, 915, 917, 919, 921, 923, 925, 927, 929, 931, 933, 935, 937, 939, 941, 943, 945, 947, 949, 951, 953, 955, 957, 959, 961, 963, 965, 967, 969, 971, 973, 975, 977, 979, 981, 983, 985, 987, 989, 991, 993] (by decide +kernel)
theorem inX9 : ∀ w ∈ wsX90, w ∈ lw_tbl := twX90
set_option maxRecDepth 20000 in
theorem twX5_init : ∀ w ∈ wsX5_init, w ∈ lw_tbl := List.forall_mem_cons.mpr ⟨List.mem_of_getElem? (i := 109) (by decide +kernel), List.forall_mem_append.mpr ⟨mem_r _ [110, 97, 98, 142, 119, 123, 127] (by decide +kernel), List.forall_mem_append.mpr ⟨twX50, tw_nil⟩⟩⟩
set_option maxRecDepth 20000 in
theorem twX4_init : ∀ w ∈ wsX4_init, w ∈ lw_tbl := List.forall_mem_cons.mpr ⟨List.mem_of_getElem? (i := 172) (by decide +kernel), List.forall_mem_append.mpr ⟨mem_r _ [173, 97, 98, 142, 176, 177, 188, 178] (by decide +kernel), List.forall_mem_append.mpr ⟨twX40, tw_nil⟩⟩⟩
set_option maxRecDepth 20000 in
theorem twX7_init : ∀ w ∈ wsX7_init, w ∈ lw_tbl := List.forall_mem_cons.mpr ⟨List.mem_of_getElem? (i := 228) (by decide +kernel), List.forall_mem_append.mpr ⟨mem_r _ [229, 97, 98, 142, 231, 234] (by decide +kernel), List.forall_mem_append.mpr ⟨twX70, tw_nil⟩⟩⟩
set_option maxRecDepth 20000 in
theorem twX0_init : ∀ w ∈ wsX0_init, w ∈ lw_tbl := List.forall_mem_cons.mpr ⟨List.mem_of_getElem? (i := 270) (by decide +kernel), List.forall_mem_append.mpr ⟨mem_r _ [271, 97, 98, 142, 272, 273, 276] (by decide +kernel), List.forall_mem_append.mpr ⟨twX00, tw_nil⟩⟩⟩
set_option maxRecDepth 20000 in
theorem twX2_init : ∀ w ∈ wsX2_init, w ∈ lw_tbl := List.forall_mem_cons.mpr ⟨List.mem_of_getElem? (i := 199) (by decide +kernel), List.forall_mem_append.mpr ⟨mem_r _ [200, 97, 98, 142, 201, 204, 205, 210] (by decide +kernel), List.forall_mem_append.mpr ⟨twX20, tw_nil⟩⟩⟩
set_option maxRecDepth 20000 in
theorem twX1_init : ∀ w ∈ wsX1_init, w ∈ lw_tbl := List.forall_mem_cons.mpr ⟨List.mem_of_getElem? (i := 292) (by decide +kernel), List.forall_mem_append.mpr ⟨mem_r _ [293, 97, 98, 294, 225, 78, 227, 302] (by decide +kernel), List.forall_mem_append.mpr ⟨twX70, List.forall_mem_append.mpr ⟨twX10, List.forall_mem_append.mpr ⟨twX7_init, tw_nil⟩⟩⟩⟩⟩
set_option maxRecDepth 20000 in
theorem twX3_init : ∀ w ∈ wsX3_init, w ∈ lw_tbl := List.forall_mem_cons.mpr ⟨List.mem_of_getElem? (i := 103) (by decide +kernel), List.forall_mem_append.mpr ⟨mem_r _ [104, 97, 98, 105, 106, 74, 108, 143] (by decide +kernel), List.forall_mem_append.mpr ⟨twX50, List.forall_mem_append.mpr ⟨twX30, List.forall_mem_append.mpr ⟨twX5_init, tw_nil⟩⟩⟩⟩⟩
set_option maxRecDepth 20000 in
theorem twX6_init : ∀ w ∈ wsX6_init, w ∈ lw_tbl := List.forall_mem_cons.mpr ⟨List.mem_of_getElem? (i := 193) (by decide +kernel), List.forall_mem_append.mpr ⟨mem_r _ [194, 97, 98, 142, 242, 244, 246, 195, 196, 77, 198, 248, 224, 225, 78, 227, 252] (by decide +kernel), List.forall_mem_append.mpr ⟨twX60, List.forall_mem_append.mpr ⟨twX20, List.forall_mem_append.mpr ⟨twX70, List.forall_mem_append.mpr ⟨twX2_init, List.forall_mem_append.mpr ⟨twX7_init, tw_nil⟩⟩⟩⟩⟩⟩⟩
set_option maxRecDepth 20000 in
theorem twX8_init : ∀ w ∈ wsX8_init, w ∈ lw_tbl := List.forall_mem_cons.mpr ⟨List.mem_of_getElem? (i := 95) (by decide +kernel), List.forall_mem_append.mpr ⟨mem_r _ [96, 97, 98, 142, 312, 99, 100, 73, 102, 314, 166, 106, 74, 108, 316, 168, 169, 75, 171, 317, 189, 190, 76, 192, 318, 320, 321, 266, 267, 79, 269, 323, 288, 289, 80, 291, 324] (by decide +kernel), List.forall_mem_append.mpr ⟨twX80, List.forall_mem_append.mpr ⟨twX30, List.forall_mem_append.mpr ⟨twX50, List.forall_mem_append.mpr ⟨twX40, List.forall_mem_append.mpr ⟨twX60, List.forall_mem_append.mpr ⟨twX00, List.forall_mem_append.mpr ⟨twX10, List.forall_mem_append.mpr ⟨twX3_init, List.forall_mem_append.mpr ⟨twX5_init, List.forall_mem_append.mpr ⟨twX4_init, List.forall_mem_append.mpr ⟨twX6_init, List.forall_mem_append.mpr ⟨twX0_init, List.forall_mem_append.mpr ⟨twX1_init, tw_nil⟩⟩⟩⟩⟩⟩⟩⟩⟩⟩⟩⟩⟩⟩⟩
set_option maxRecDepth 20000 in
theorem twX9_init : ∀ w ∈ wsX9_init, w ∈ lw_tbl := List.forall_mem_cons.mpr ⟨List.mem_of_getElem? (i := 870) (by decide +kernel), List.forall_mem_append.mpr ⟨mem_r _ [871, 97, 98, 142, 872, 879, 880, 881, 885, 886, 887, 889, 890, 891, 892, 893, 894, 895, 896, 897, 898, 899, 900, 902, 908, 909, 910, 911, 904] (by decide +kernel), List.forall_mem_append.mpr ⟨twX90, tw_nil⟩⟩⟩
set_option maxRecDepth 20000 in
theorem twX7_plant : ∀ w ∈ wsX7_plant, w ∈ lw_tbl := List.forall_mem_cons.mpr ⟨List.mem_of_getElem? (i := 538) (by decide +kernel), List.forall_mem_append.mpr ⟨mem_r _ [230] (by decide +kernel), List.forall_mem_append.mpr ⟨twX70, tw_nil⟩⟩⟩
set_option maxRecDepth 20000 in
theorem twX8_nodesOf : ∀ w ∈ wsX8_nodesOf, w ∈ lw_tbl := List.forall_mem_cons.mpr ⟨List.mem_of_getElem? (i := 552) (by decide +kernel), List.forall_mem_append.mpr ⟨tw_nil, tw_nil⟩⟩
set_option maxRecDepth 20000 in
theorem twX7_root : ∀ w ∈ wsX7_root, w ∈ lw_tbl := List.forall_mem_cons.mpr ⟨List.mem_of_getElem? (i := 574) (by decide +kernel), List.forall_mem_append.mpr ⟨mem_r _ [230, 72, 551] (by decide +kernel), List.forall_mem_append.mpr ⟨twX70, List.forall_mem_append.mpr ⟨twX8_nodesOf, tw_nil⟩⟩⟩⟩
set_option maxRecDepth 20000 in
theorem twX7_pairOf : ∀ w ∈ wsX7_pairOf, w ∈ lw_tbl := List.forall_mem_cons.mpr ⟨List.mem_of_getElem? (i := 556) (by decide +kernel), List.forall_mem_append.mpr ⟨mem_r _ [230] (by decide +kernel), List.forall_mem_append.mpr ⟨twX70, tw_nil⟩⟩⟩
set_option maxRecDepth 20000 in
theorem twX7_leastBelow : ∀ w ∈ wsX7_leastBelow, w ∈ lw_tbl := List.forall_mem_cons.mpr ⟨List.mem_of_getElem? (i := 564) (by decide +kernel), List.forall_mem_append.mpr ⟨mem_r _ [230, 231, 234] (by decide +kernel), List.forall_mem_append.mpr ⟨twX70, tw_nil⟩⟩⟩
set_option maxRecDepth 20000 in
theorem twX7_climb : ∀ w ∈ wsX7_climb, w ∈ lw_tbl := List.forall_mem_cons.mpr ⟨List.mem_of_getElem? (i := 549) (by decide +kernel), List.forall_mem_append.mpr ⟨mem_r _ [230, 72, 551, 231, 234, 553, 555, 12, 78, 561, 563, 13] (by decide +kernel), List.forall_mem_append.mpr ⟨twX70, List.forall_mem_append.mpr ⟨twX8_nodesOf, List.forall_mem_append.mpr ⟨twX7_pairOf, List.forall_mem_append.mpr ⟨twX7_leastBelow, tw_nil⟩⟩⟩⟩⟩⟩
set_option maxRecDepth 20000 in
theorem twX1_drawSound : ∀ w ∈ wsX1_drawSound, w ∈ lw_tbl := List.forall_mem_cons.mpr ⟨List.mem_of_getElem? (i := 811) (by decide +kernel), List.forall_mem_append.mpr ⟨mem_r _ [812, 296, 813, 814, 815] (by decide +kernel), List.forall_mem_append.mpr ⟨twX10, tw_nil⟩⟩⟩
set_option maxRecDepth 20000 in
theorem twX1_isForeign : ∀ w ∈ wsX1_isForeign, w ∈ lw_tbl := List.forall_mem_cons.mpr ⟨List.mem_of_getElem? (i := 821) (by decide +kernel), List.forall_mem_append.mpr ⟨mem_r _ [302, 232] (by decide +kernel), List.forall_mem_append.mpr ⟨twX10, List.forall_mem_append.mpr ⟨twX70, tw_nil⟩⟩⟩⟩
set_option maxRecDepth 20000 in
theorem twX1_drawSets : ∀ w ∈ wsX1_drawSets, w ∈ lw_tbl := List.forall_mem_cons.mpr ⟨List.mem_of_getElem? (i := 806) (by decide +kernel), List.forall_mem_append.mpr ⟨mem_r _ [296, 298, 300, 302, 232, 807, 536, 537, 78, 808, 810, 23, 80, 816, 547, 548, 817, 572, 573, 818, 820, 24] (by decide +kernel), List.forall_mem_append.mpr ⟨twX10, List.forall_mem_append.mpr ⟨twX70, List.forall_mem_append.mpr ⟨twX7_plant, List.forall_mem_append.mpr ⟨twX1_drawSound, List.forall_mem_append.mpr ⟨twX7_climb, List.forall_mem_append.mpr ⟨twX7_root, List.forall_mem_append.mpr ⟨twX1_isForeign, tw_nil⟩⟩⟩⟩⟩⟩⟩⟩⟩
set_option maxRecDepth 20000 in
theorem twX8_drawn : ∀ w ∈ wsX8_drawn, w ∈ lw_tbl := List.forall_mem_cons.mpr ⟨List.mem_of_getElem? (i := 802) (by decide +kernel), List.forall_mem_append.mpr ⟨mem_r _ [324, 299, 301, 297, 803, 804, 805, 80] (by decide +kernel), List.forall_mem_append.mpr ⟨twX80, List.forall_mem_append.mpr ⟨twX10, List.forall_mem_append.mpr ⟨twX1_drawSets, tw_nil⟩⟩⟩⟩⟩
set_option maxRecDepth 20000 in
theorem twX9_in : ∀ w ∈ wsX9_in, w ∈ lw_tbl := List.forall_mem_cons.mpr ⟨List.mem_of_getElem? (i := 1003) (by decide +kernel), List.forall_mem_append.mpr ⟨tw_nil, tw_nil⟩⟩
set_option maxRecDepth 20000 in
theorem twX9_isVowel : ∀ w ∈ wsX9_isVowel, w ∈ lw_tbl := List.forall_mem_cons.mpr ⟨List.mem_of_getElem? (i := 1068) (by decide +kernel), List.forall_mem_append.mpr ⟨mem_r _ [1069, 1001, 1002, 81] (by decide +kernel), List.forall_mem_append.mpr ⟨twX9_in, tw_nil⟩⟩⟩
set_option maxRecDepth 20000 in
theorem twX9_costOf : ∀ w ∈ wsX9_costOf, w ∈ lw_tbl := List.forall_mem_cons.mpr ⟨List.mem_of_getElem? (i := 1065) (by decide +kernel), List.forall_mem_append.mpr ⟨mem_r _ [1066, 1067, 81] (by decide +kernel), List.forall_mem_append.mpr ⟨twX9_isVowel, tw_nil⟩⟩⟩
set_option maxRecDepth 20000 in
theorem twX9_least : ∀ w ∈ wsX9_least, w ∈ lw_tbl := List.forall_mem_cons.mpr ⟨List.mem_of_getElem? (i := 1109) (by decide +kernel), List.forall_mem_append.mpr ⟨mem_r _ [889, 1063, 1064, 81] (by decide +kernel), List.forall_mem_append.mpr ⟨twX90, List.forall_mem_append.mpr ⟨twX9_costOf, tw_nil⟩⟩⟩⟩
set_option maxRecDepth 20000 in
theorem twX9_nodesBy : ∀ w ∈ wsX9_nodesBy, w ∈ lw_tbl := List.forall_mem_cons.mpr ⟨List.mem_of_getElem? (i := 1102) (by decide +kernel), List.forall_mem_append.mpr ⟨tw_nil, tw_nil⟩⟩
set_option maxRecDepth 20000 in
theorem twX9_belowFirst : ∀ w ∈ wsX9_belowFirst, w ∈ lw_tbl := List.forall_mem_cons.mpr ⟨List.mem_of_getElem? (i := 1105) (by decide +kernel), List.forall_mem_append.mpr ⟨tw_nil, tw_nil⟩⟩
set_option maxRecDepth 20000 in
theorem twX9_belowSecond : ∀ w ∈ wsX9_belowSecond, w ∈ lw_tbl := List.forall_mem_cons.mpr ⟨List.mem_of_getElem? (i := 1112) (by decide +kernel), List.forall_mem_append.mpr ⟨tw_nil, tw_nil⟩⟩
set_option maxRecDepth 20000 in
theorem twX9_layCosts : ∀ w ∈ wsX9_layCosts, w ∈ lw_tbl := List.forall_mem_cons.mpr ⟨List.mem_of_getElem? (i := 1098) (by decide +kernel), List.forall_mem_append.mpr ⟨mem_r _ [889, 891, 1099, 1101, 43, 81, 1103, 1104, 1106, 1108, 44, 1110, 1111] (by decide +kernel), List.forall_mem_append.mpr ⟨twX90, List.forall_mem_append.mpr ⟨twX9_nodesBy, List.forall_mem_append.mpr ⟨twX9_belowFirst, List.forall_mem_append.mpr ⟨twX9_least, List.forall_mem_append.mpr ⟨twX9_belowSecond, tw_nil⟩⟩⟩⟩⟩⟩⟩
set_option maxRecDepth 20000 in
theorem twX9_leastSound : ∀ w ∈ wsX9_leastSound, w ∈ lw_tbl := List.forall_mem_cons.mpr ⟨List.mem_of_getElem? (i := 1116) (by decide +kernel), List.forall_mem_append.mpr ⟨mem_r _ [889, 1063, 1064, 81] (by decide +kernel), List.forall_mem_append.mpr ⟨twX90, List.forall_mem_append.mpr ⟨twX9_costOf, tw_nil⟩⟩⟩⟩
set_option maxRecDepth 20000 in
theorem twX9_rebuild : ∀ w ∈ wsX9_rebuild, w ∈ lw_tbl := List.forall_mem_cons.mpr ⟨List.mem_of_getElem? (i := 1094) (by decide +kernel), List.forall_mem_append.mpr ⟨mem_r _ [890, 889, 1095, 1097, 42, 81, 1099, 1101, 43, 1113, 1115, 45, 1103, 1104, 1110, 1111] (by decide +kernel), List.forall_mem_append.mpr ⟨twX90, List.forall_mem_append.mpr ⟨twX9_layCosts, List.forall_mem_append.mpr ⟨twX9_nodesBy, List.forall_mem_append.mpr ⟨twX9_leastSound, List.forall_mem_append.mpr ⟨twX9_belowFirst, List.forall_mem_append.mpr ⟨twX9_belowSecond, tw_nil⟩⟩⟩⟩⟩⟩⟩⟩
set_option maxRecDepth 20000 in
theorem twX9_draw : ∀ w ∈ wsX9_draw, w ∈ lw_tbl := List.forall_mem_cons.mpr ⟨List.mem_of_getElem? (i := 1255) (by decide +kernel), List.forall_mem_append.mpr ⟨mem_r _ [1256, 903, 1257, 1258, 1259] (by decide +kernel), List.forall_mem_append.mpr ⟨twX90, tw_nil⟩⟩⟩
set_option maxRecDepth 20000 in
theorem twX9_drawn : ∀ w ∈ wsX9_drawn, w ∈ lw_tbl := List.forall_mem_cons.mpr ⟨List.mem_of_getElem? (i := 1250) (by decide +kernel), List.forall_mem_append.mpr ⟨mem_r _ [1251, 1078, 903, 891, 890, 1001, 1002, 81, 1252, 1254, 63, 1091, 1093, 41] (by decide +kernel), List.forall_mem_append.mpr ⟨twX90, List.forall_mem_append.mpr ⟨twX9_in, List.forall_mem_append.mpr ⟨twX9_draw, List.forall_mem_append.mpr ⟨twX9_rebuild, tw_nil⟩⟩⟩⟩⟩⟩
set_option maxRecDepth 20000 in
theorem twX8_isSet : ∀ w ∈ wsX8_isSet, w ∈ lw_tbl := List.forall_mem_cons.mpr ⟨List.mem_of_getElem? (i := 526) (by decide +kernel), List.forall_mem_append.mpr ⟨mem_r _ [316, 114] (by decide +kernel), List.forall_mem_append.mpr ⟨twX80, List.forall_mem_append.mpr ⟨twX50, tw_nil⟩⟩⟩⟩
set_option maxRecDepth 20000 in
theorem twX8_isTongue : ∀ w ∈ wsX8_isTongue, w ∈ lw_tbl := List.forall_mem_cons.mpr ⟨List.mem_of_getElem? (i := 700) (by decide +kernel), List.forall_mem_append.mpr ⟨mem_r _ [316, 118] (by decide +kernel), List.forall_mem_append.mpr ⟨twX80, List.forall_mem_append.mpr ⟨twX50, tw_nil⟩⟩⟩⟩
set_option maxRecDepth 20000 in
theorem twX8_costOf : ∀ w ∈ wsX8_costOf, w ∈ lw_tbl := List.forall_mem_cons.mpr ⟨List.mem_of_getElem? (i := 581) (by decide +kernel), List.forall_mem_append.mpr ⟨mem_r _ [582] (by decide +kernel), tw_nil⟩⟩
set_option maxRecDepth 20000 in
theorem twX4_clear : ∀ w ∈ wsX4_clear, w ∈ lw_tbl := List.forall_mem_cons.mpr ⟨List.mem_of_getElem? (i := 518) (by decide +kernel), List.forall_mem_append.mpr ⟨mem_r _ [174] (by decide +kernel), List.forall_mem_append.mpr ⟨twX40, tw_nil⟩⟩⟩
set_option maxRecDepth 20000 in
theorem twX8_letter : ∀ w ∈ wsX8_letter, w ∈ lw_tbl := List.forall_mem_cons.mpr ⟨List.mem_of_getElem? (i := 355) (by decide +kernel), List.forall_mem_append.mpr ⟨mem_r _ [313, 312] (by decide +kernel), List.forall_mem_append.mpr ⟨twX80, tw_nil⟩⟩⟩
set_option maxRecDepth 20000 in
theorem twX8_blank : ∀ w ∈ wsX8_blank, w ∈ lw_tbl := List.forall_mem_cons.mpr ⟨List.mem_of_getElem? (i := 359) (by decide +kernel), List.forall_mem_append.mpr ⟨mem_r _ [313] (by decide +kernel), List.forall_mem_append.mpr ⟨twX80, tw_nil⟩⟩⟩
set_option maxRecDepth 20000 in
theorem twX3_start : ∀ w ∈ wsX3_start, w ∈ lw_tbl := List.forall_mem_cons.mpr ⟨List.mem_of_getElem? (i := 371) (by decide +kernel), List.forall_mem_append.mpr ⟨mem_r _ [143, 112, 117, 145, 150] (by decide +kernel), List.forall_mem_append.mpr ⟨twX30, List.forall_mem_append.mpr ⟨twX50, tw_nil⟩⟩⟩⟩
set_option maxRecDepth 20000 in
theorem twJ0_isLatin1_aae02 : ∀ w ∈ wsJ0_isLatin1_aae02, w ∈ lw_tbl := List.forall_mem_cons.mpr ⟨List.mem_of_getElem? (i := 388) (by decide +kernel), List.forall_mem_append.mpr ⟨mem_r _ [389, 1309] (by decide +kernel), tw_nil⟩⟩
set_option maxRecDepth 20000 in
theorem twJ0_coder_7d493 : ∀ w ∈ wsJ0_coder_7d493, w ∈ lw_tbl := List.forall_mem_cons.mpr ⟨List.mem_of_getElem? (i := 398) (by decide +kernel), List.forall_mem_append.mpr ⟨mem_r _ [389, 1309] (by decide +kernel), tw_nil⟩⟩
set_option maxRecDepth 20000 in
theorem twJ0_length_8abf5 : ∀ w ∈ wsJ0_length_8abf5, w ∈ lw_tbl := List.forall_mem_cons.mpr ⟨List.mem_of_getElem? (i := 394) (by decide +kernel), List.forall_mem_append.mpr ⟨mem_r _ [1310, 395, 396, 397, 82] (by decide +kernel), List.forall_mem_append.mpr ⟨twJ0_coder_7d493, tw_nil⟩⟩⟩
set_option maxRecDepth 20000 in
theorem twJ1_canEncode_9a6ad : ∀ w ∈ wsJ1_canEncode_9a6ad, w ∈ lw_tbl := List.forall_mem_cons.mpr ⟨List.mem_of_getElem? (i := 404) (by decide +kernel), List.forall_mem_append.mpr ⟨tw_nil, tw_nil⟩⟩
set_option maxRecDepth 20000 in
theorem twJ1_indexOfChar_4cfef : ∀ w ∈ wsJ1_indexOfChar_4cfef, w ∈ lw_tbl := List.forall_mem_cons.mpr ⟨List.mem_of_getElem? (i := 413) (by decide +kernel), List.forall_mem_append.mpr ⟨tw_nil, tw_nil⟩⟩
set_option maxRecDepth 20000 in
theorem twJ1_indexOf_4cfef : ∀ w ∈ wsJ1_indexOf_4cfef, w ∈ lw_tbl := List.forall_mem_cons.mpr ⟨List.mem_of_getElem? (i := 401) (by decide +kernel), List.forall_mem_append.mpr ⟨mem_r _ [405, 406, 84, 407, 408, 409, 410, 402, 403, 83, 411, 412] (by decide +kernel), List.forall_mem_append.mpr ⟨twJ1_canEncode_9a6ad, List.forall_mem_append.mpr ⟨twJ1_indexOfChar_4cfef, tw_nil⟩⟩⟩⟩
set_option maxRecDepth 20000 in
theorem twJ0_indexOf_7cf53 : ∀ w ∈ wsJ0_indexOf_7cf53, w ∈ lw_tbl := List.forall_mem_cons.mpr ⟨List.mem_of_getElem? (i := 384) (by decide +kernel), List.forall_mem_append.mpr ⟨mem_r _ [1310, 385, 386, 387, 82, 391, 392, 393, 399, 400, 83] (by decide +kernel), List.forall_mem_append.mpr ⟨twJ0_isLatin1_aae02, List.forall_mem_append.mpr ⟨twJ0_length_8abf5, List.forall_mem_append.mpr ⟨twJ1_indexOf_4cfef, tw_nil⟩⟩⟩⟩⟩
set_option maxRecDepth 20000 in
theorem twJ0_indexOf_0f7a4 : ∀ w ∈ wsJ0_indexOf_0f7a4, w ∈ lw_tbl := List.forall_mem_cons.mpr ⟨List.mem_of_getElem? (i := 380) (by decide +kernel), List.forall_mem_append.mpr ⟨mem_r _ [381, 382, 383, 82] (by decide +kernel), List.forall_mem_append.mpr ⟨twJ0_indexOf_7cf53, tw_nil⟩⟩⟩
set_option maxRecDepth 20000 in
theorem twX8_wordAt : ∀ w ∈ wsX8_wordAt, w ∈ lw_tbl := List.forall_mem_cons.mpr ⟨List.mem_of_getElem? (i := 498) (by decide +kernel), List.forall_mem_append.mpr ⟨tw_nil, tw_nil⟩⟩
set_option maxRecDepth 20000 in
theorem twX3_acceptsSound : ∀ w ∈ wsX3_acceptsSound, w ∈ lw_tbl := List.forall_mem_cons.mpr ⟨List.mem_of_getElem? (i := 495) (by decide +kernel), List.forall_mem_append.mpr ⟨mem_r _ [147, 143, 125, 146, 148, 128, 72, 497, 149] (by decide +kernel), List.forall_mem_append.mpr ⟨twX30, List.forall_mem_append.mpr ⟨twX50, List.forall_mem_append.mpr ⟨twX8_wordAt, tw_nil⟩⟩⟩⟩⟩
set_option maxRecDepth 20000 in
theorem twX3_wordIsWhole : ∀ w ∈ wsX3_wordIsWhole, w ∈ lw_tbl := List.forall_mem_cons.mpr ⟨List.mem_of_getElem? (i := 478) (by decide +kernel), List.forall_mem_append.mpr ⟨mem_r _ [147, 148, 143, 125, 146] (by decide +kernel), List.forall_mem_append.mpr ⟨twX30, List.forall_mem_append.mpr ⟨twX50, tw_nil⟩⟩⟩⟩
set_option maxRecDepth 20000 in
theorem twX3_setIsWhole : ∀ w ∈ wsX3_setIsWhole, w ∈ lw_tbl := List.forall_mem_cons.mpr ⟨List.mem_of_getElem? (i := 490) (by decide +kernel), List.forall_mem_append.mpr ⟨mem_r _ [147, 143, 117, 475, 477, 4, 73] (by decide +kernel), List.forall_mem_append.mpr ⟨twX30, List.forall_mem_append.mpr ⟨twX50, List.forall_mem_append.mpr ⟨twX3_wordIsWhole, tw_nil⟩⟩⟩⟩⟩
set_option maxRecDepth 20000 in
theorem twX3_closeWord : ∀ w ∈ wsX3_closeWord, w ∈ lw_tbl := List.forall_mem_cons.mpr ⟨List.mem_of_getElem? (i := 482) (by decide +kernel), List.forall_mem_append.mpr ⟨mem_r _ [143, 125, 146, 148, 149, 150] (by decide +kernel), List.forall_mem_append.mpr ⟨twX30, List.forall_mem_append.mpr ⟨twX50, tw_nil⟩⟩⟩⟩
set_option maxRecDepth 20000 in
theorem twX3_endsSet : ∀ w ∈ wsX3_endsSet, w ∈ lw_tbl := List.forall_mem_cons.mpr ⟨List.mem_of_getElem? (i := 486) (by decide +kernel), List.forall_mem_append.mpr ⟨mem_r _ [143, 112, 147, 117, 145, 487, 489, 7, 73, 479, 481, 5] (by decide +kernel), List.forall_mem_append.mpr ⟨twX30, List.forall_mem_append.mpr ⟨twX50, List.forall_mem_append.mpr ⟨twX3_setIsWhole, List.forall_mem_append.mpr ⟨twX3_closeWord, tw_nil⟩⟩⟩⟩⟩⟩
set_option maxRecDepth 20000 in
theorem twX3_openWord : ∀ w ∈ wsX3_openWord, w ∈ lw_tbl := List.forall_mem_cons.mpr ⟨List.mem_of_getElem? (i := 470) (by decide +kernel), List.forall_mem_append.mpr ⟨mem_r _ [148, 149] (by decide +kernel), List.forall_mem_append.mpr ⟨twX30, tw_nil⟩⟩⟩
set_option maxRecDepth 20000 in
theorem twX3_endsWord : ∀ w ∈ wsX3_endsWord, w ∈ lw_tbl := List.forall_mem_cons.mpr ⟨List.mem_of_getElem? (i := 474) (by decide +kernel), List.forall_mem_append.mpr ⟨mem_r _ [143, 117, 147, 475, 477, 4, 73, 479, 481, 5, 467, 469, 2] (by decide +kernel), List.forall_mem_append.mpr ⟨twX30, List.forall_mem_append.mpr ⟨twX50, List.forall_mem_append.mpr ⟨twX3_wordIsWhole, List.forall_mem_append.mpr ⟨twX3_closeWord, List.forall_mem_append.mpr ⟨twX3_openWord, tw_nil⟩⟩⟩⟩⟩⟩⟩
set_option maxRecDepth 20000 in
theorem twX3_acceptsKind : ∀ w ∈ wsX3_acceptsKind, w ∈ lw_tbl := List.forall_mem_cons.mpr ⟨List.mem_of_getElem? (i := 466) (by decide +kernel), List.forall_mem_append.mpr ⟨mem_r _ [143, 112, 146, 120, 147, 145, 467, 469, 2, 73] (by decide +kernel), List.forall_mem_append.mpr ⟨twX30, List.forall_mem_append.mpr ⟨twX50, List.forall_mem_append.mpr ⟨twX3_openWord, tw_nil⟩⟩⟩⟩⟩
set_option maxRecDepth 20000 in
theorem twX3_accepts : ∀ w ∈ wsX3_accepts, w ∈ lw_tbl := List.forall_mem_cons.mpr ⟨List.mem_of_getElem? (i := 375) (by decide +kernel), List.forall_mem_append.mpr ⟨mem_r _ [145, 377, 378, 379, 82, 492, 494, 8, 73, 483, 485, 6, 471, 473, 3, 463, 465, 1] (by decide +kernel), List.forall_mem_append.mpr ⟨twX30, List.forall_mem_append.mpr ⟨twJ0_indexOf_0f7a4, List.forall_mem_append.mpr ⟨twX3_acceptsSound, List.forall_mem_append.mpr ⟨twX3_endsSet, List.forall_mem_append.mpr ⟨twX3_endsWord, List.forall_mem_append.mpr ⟨twX3_acceptsKind, tw_nil⟩⟩⟩⟩⟩⟩⟩⟩
set_option maxRecDepth 20000 in
theorem twX8_readPage : ∀ w ∈ wsX8_readPage, w ∈ lw_tbl := List.forall_mem_cons.mpr ⟨List.mem_of_getElem? (i := 367) (by decide +kernel), List.forall_mem_append.mpr ⟨mem_r _ [314, 313, 312, 368, 369, 370, 73, 372, 373, 374] (by decide +kernel), List.forall_mem_append.mpr ⟨twX80, List.forall_mem_append.mpr ⟨twX3_start, List.forall_mem_append.mpr ⟨twX3_accepts, tw_nil⟩⟩⟩⟩⟩
set_option maxRecDepth 20000 in
theorem twX8_fault : ∀ w ∈ wsX8_fault, w ∈ lw_tbl := List.forall_mem_cons.mpr ⟨List.mem_of_getElem? (i := 363) (by decide +kernel), List.forall_mem_append.mpr ⟨mem_r _ [364, 366, 0, 72] (by decide +kernel), List.forall_mem_append.mpr ⟨twX8_readPage, tw_nil⟩⟩⟩
set_option maxRecDepth 20000 in
theorem twX3_finish : ∀ w ∈ wsX3_finish, w ∈ lw_tbl := List.forall_mem_cons.mpr ⟨List.mem_of_getElem? (i := 507) (by decide +kernel), List.forall_mem_append.mpr ⟨mem_r _ [145, 143, 147, 117, 150, 487, 489, 7, 73, 479, 481, 5] (by decide +kernel), List.forall_mem_append.mpr ⟨twX30, List.forall_mem_append.mpr ⟨twX50, List.forall_mem_append.mpr ⟨twX3_setIsWhole, List.forall_mem_append.mpr ⟨twX3_closeWord, tw_nil⟩⟩⟩⟩⟩⟩
set_option maxRecDepth 20000 in
theorem twX5_become : ∀ w ∈ wsX5_become, w ∈ lw_tbl := List.forall_mem_cons.mpr ⟨List.mem_of_getElem? (i := 511) (by decide +kernel), List.forall_mem_append.mpr ⟨mem_r _ [111, 116, 119, 512, 514, 513, 88, 123, 127] (by decide +kernel), List.forall_mem_append.mpr ⟨twX50, tw_nil⟩⟩⟩
set_option maxRecDepth 20000 in
theorem twX8_sets : ∀ w ∈ wsX8_sets, w ∈ lw_tbl := List.forall_mem_cons.mpr ⟨List.mem_of_getElem? (i := 503) (by decide +kernel), List.forall_mem_append.mpr ⟨mem_r _ [313, 314, 316, 144, 317, 322, 319, 315, 114, 364, 366, 0, 72, 504, 505, 506, 73, 508, 509, 510, 74, 515, 516, 517, 75] (by decide +kernel), List.forall_mem_append.mpr ⟨twX80, List.forall_mem_append.mpr ⟨twX30, List.forall_mem_append.mpr ⟨twX50, List.forall_mem_append.mpr ⟨twX8_readPage, List.forall_mem_append.mpr ⟨twX3_finish, List.forall_mem_append.mpr ⟨twX5_become, List.forall_mem_append.mpr ⟨twX4_clear, tw_nil⟩⟩⟩⟩⟩⟩⟩⟩⟩
set_option maxRecDepth 20000 in
theorem twJ7_fill_53178 : ∀ w ∈ wsJ7_fill_53178, w ∈ lw_tbl := List.forall_mem_cons.mpr ⟨List.mem_of_getElem? (i := 593) (by decide +kernel), List.forall_mem_append.mpr ⟨tw_nil, tw_nil⟩⟩
set_option maxRecDepth 20000 in
theorem twX2_clear : ∀ w ∈ wsX2_clear, w ∈ lw_tbl := List.forall_mem_cons.mpr ⟨List.mem_of_getElem? (i := 590) (by decide +kernel), List.forall_mem_append.mpr ⟨mem_r _ [210, 591, 592, 89] (by decide +kernel), List.forall_mem_append.mpr ⟨twX20, List.forall_mem_append.mpr ⟨twJ7_fill_53178, tw_nil⟩⟩⟩⟩
set_option maxRecDepth 20000 in
theorem twX2_settleLaw : ∀ w ∈ wsX2_settleLaw, w ∈ lw_tbl := List.forall_mem_cons.mpr ⟨List.mem_of_getElem? (i := 622) (by decide +kernel), List.forall_mem_append.mpr ⟨mem_r _ [201, 204, 205, 210] (by decide +kernel), List.forall_mem_append.mpr ⟨twX20, tw_nil⟩⟩⟩
set_option maxRecDepth 20000 in
theorem twX2_settle : ∀ w ∈ wsX2_settle, w ∈ lw_tbl := List.forall_mem_cons.mpr ⟨List.mem_of_getElem? (i := 618) (by decide +kernel), List.forall_mem_append.mpr ⟨mem_r _ [206, 208, 201, 205, 619, 621, 16, 77] (by decide +kernel), List.forall_mem_append.mpr ⟨twX20, List.forall_mem_append.mpr ⟨twX2_settleLaw, tw_nil⟩⟩⟩⟩
set_option maxRecDepth 20000 in
theorem twX8_nodesAt : ∀ w ∈ wsX8_nodesAt, w ∈ lw_tbl := List.forall_mem_cons.mpr ⟨List.mem_of_getElem? (i := 585) (by decide +kernel), List.forall_mem_append.mpr ⟨tw_nil, tw_nil⟩⟩
set_option maxRecDepth 20000 in
theorem twX6_oldSound : ∀ w ∈ wsX6_oldSound, w ∈ lw_tbl := List.forall_mem_cons.mpr ⟨List.mem_of_getElem? (i := 603) (by decide +kernel), List.forall_mem_append.mpr ⟨mem_r _ [242, 72, 584, 115, 551] (by decide +kernel), List.forall_mem_append.mpr ⟨twX60, List.forall_mem_append.mpr ⟨twX50, List.forall_mem_append.mpr ⟨twX8_nodesAt, List.forall_mem_append.mpr ⟨twX8_nodesOf, tw_nil⟩⟩⟩⟩⟩⟩
set_option maxRecDepth 20000 in
theorem twX8_aheadAt : ∀ w ∈ wsX8_aheadAt, w ∈ lw_tbl := List.forall_mem_cons.mpr ⟨List.mem_of_getElem? (i := 607) (by decide +kernel), List.forall_mem_append.mpr ⟨tw_nil, tw_nil⟩⟩
set_option maxRecDepth 20000 in
theorem twX8_lawAt : ∀ w ∈ wsX8_lawAt, w ∈ lw_tbl := List.forall_mem_cons.mpr ⟨List.mem_of_getElem? (i := 610) (by decide +kernel), List.forall_mem_append.mpr ⟨tw_nil, tw_nil⟩⟩
set_option maxRecDepth 20000 in
theorem twX6_findStrange : ∀ w ∈ wsX6_findStrange, w ∈ lw_tbl := List.forall_mem_cons.mpr ⟨List.mem_of_getElem? (i := 626) (by decide +kernel), List.forall_mem_append.mpr ⟨mem_r _ [121, 124, 115, 248, 202, 72, 606, 609, 129, 497, 246, 600, 601, 602, 76] (by decide +kernel), List.forall_mem_append.mpr ⟨twX50, List.forall_mem_append.mpr ⟨twX60, List.forall_mem_append.mpr ⟨twX20, List.forall_mem_append.mpr ⟨twX6_oldSound, List.forall_mem_append.mpr ⟨twX8_aheadAt, List.forall_mem_append.mpr ⟨twX8_lawAt, List.forall_mem_append.mpr ⟨twX8_wordAt, tw_nil⟩⟩⟩⟩⟩⟩⟩⟩⟩
set_option maxRecDepth 20000 in
theorem twX2_weigh : ∀ w ∈ wsX2_weigh, w ∈ lw_tbl := List.forall_mem_cons.mpr ⟨List.mem_of_getElem? (i := 614) (by decide +kernel), List.forall_mem_append.mpr ⟨mem_r _ [210] (by decide +kernel), List.forall_mem_append.mpr ⟨twX20, tw_nil⟩⟩⟩
set_option maxRecDepth 20000 in
theorem twX6_weigh : ∀ w ∈ wsX6_weigh, w ∈ lw_tbl := List.forall_mem_cons.mpr ⟨List.mem_of_getElem? (i := 597) (by decide +kernel), List.forall_mem_append.mpr ⟨mem_r _ [121, 124, 115, 129, 72, 497, 248, 606, 609, 600, 601, 602, 76, 611, 612, 613, 77] (by decide +kernel), List.forall_mem_append.mpr ⟨twX50, List.forall_mem_append.mpr ⟨twX60, List.forall_mem_append.mpr ⟨twX6_oldSound, List.forall_mem_append.mpr ⟨twX8_wordAt, List.forall_mem_append.mpr ⟨twX8_aheadAt, List.forall_mem_append.mpr ⟨twX8_lawAt, List.forall_mem_append.mpr ⟨twX2_weigh, tw_nil⟩⟩⟩⟩⟩⟩⟩⟩⟩
set_option maxRecDepth 20000 in
theorem twX7_settle : ∀ w ∈ wsX7_settle, w ∈ lw_tbl := List.forall_mem_cons.mpr ⟨List.mem_of_getElem? (i := 578) (by decide +kernel), List.forall_mem_append.mpr ⟨mem_r _ [230, 72, 580, 234, 231] (by decide +kernel), List.forall_mem_append.mpr ⟨twX70, List.forall_mem_append.mpr ⟨twX8_costOf, tw_nil⟩⟩⟩⟩
set_option maxRecDepth 20000 in
theorem twX7_descend : ∀ w ∈ wsX7_descend, w ∈ lw_tbl := List.forall_mem_cons.mpr ⟨List.mem_of_getElem? (i := 570) (by decide +kernel), List.forall_mem_append.mpr ⟨mem_r _ [230, 231, 571, 572, 573, 78, 553, 555, 12, 575, 577, 14] (by decide +kernel), List.forall_mem_append.mpr ⟨twX70, List.forall_mem_append.mpr ⟨twX7_root, List.forall_mem_append.mpr ⟨twX7_pairOf, List.forall_mem_append.mpr ⟨twX7_settle, tw_nil⟩⟩⟩⟩⟩⟩
set_option maxRecDepth 20000 in
theorem twX6_rebuild : ∀ w ∈ wsX6_rebuild, w ∈ lw_tbl := List.forall_mem_cons.mpr ⟨List.mem_of_getElem? (i := 542) (by decide +kernel), List.forall_mem_append.mpr ⟨mem_r _ [244, 121, 124, 250, 115, 252, 233, 242, 72, 584, 586, 514, 513, 88, 129, 497, 546, 547, 548, 78, 567, 568, 569] (by decide +kernel), List.forall_mem_append.mpr ⟨twX60, List.forall_mem_append.mpr ⟨twX50, List.forall_mem_append.mpr ⟨twX70, List.forall_mem_append.mpr ⟨twX7_climb, List.forall_mem_append.mpr ⟨twX7_descend, List.forall_mem_append.mpr ⟨twX8_nodesAt, List.forall_mem_append.mpr ⟨twX8_wordAt, tw_nil⟩⟩⟩⟩⟩⟩⟩⟩⟩
set_option maxRecDepth 20000 in
theorem twX6_renew : ∀ w ∈ wsX6_renew, w ∈ lw_tbl := List.forall_mem_cons.mpr ⟨List.mem_of_getElem? (i := 534) (by decide +kernel), List.forall_mem_append.mpr ⟨mem_r _ [252, 115, 250, 113, 248, 535, 536, 537, 78, 587, 588, 589, 77, 615, 616, 617, 623, 625, 17, 76, 594, 596, 15, 539, 541, 11] (by decide +kernel), List.forall_mem_append.mpr ⟨twX60, List.forall_mem_append.mpr ⟨twX50, List.forall_mem_append.mpr ⟨twX7_plant, List.forall_mem_append.mpr ⟨twX2_clear, List.forall_mem_append.mpr ⟨twX2_settle, List.forall_mem_append.mpr ⟨twX6_findStrange, List.forall_mem_append.mpr ⟨twX6_weigh, List.forall_mem_append.mpr ⟨twX6_rebuild, tw_nil⟩⟩⟩⟩⟩⟩⟩⟩⟩⟩
set_option maxRecDepth 20000 in
theorem twX8_freshenStudy : ∀ w ∈ wsX8_freshenStudy, w ∈ lw_tbl := List.forall_mem_cons.mpr ⟨List.mem_of_getElem? (i := 530) (by decide +kernel), List.forall_mem_append.mpr ⟨mem_r _ [319, 318, 316, 531, 532, 533, 76] (by decide +kernel), List.forall_mem_append.mpr ⟨twX80, List.forall_mem_append.mpr ⟨twX6_renew, tw_nil⟩⟩⟩⟩
set_option maxRecDepth 20000 in
theorem twX6_strangeInSet : ∀ w ∈ wsX6_strangeInSet, w ∈ lw_tbl := List.forall_mem_cons.mpr ⟨List.mem_of_getElem? (i := 634) (by decide +kernel), List.forall_mem_append.mpr ⟨mem_r _ [246] (by decide +kernel), List.forall_mem_append.mpr ⟨twX60, tw_nil⟩⟩⟩
set_option maxRecDepth 20000 in
theorem twX6_borrowedTongues : ∀ w ∈ wsX6_borrowedTongues, w ∈ lw_tbl := List.forall_mem_cons.mpr ⟨List.mem_of_getElem? (i := 638) (by decide +kernel), List.forall_mem_append.mpr ⟨mem_r _ [115, 246, 124] (by decide +kernel), List.forall_mem_append.mpr ⟨twX50, List.forall_mem_append.mpr ⟨twX60, tw_nil⟩⟩⟩⟩
set_option maxRecDepth 20000 in
theorem twX4_could : ∀ w ∈ wsX4_could, w ∈ lw_tbl := List.forall_mem_cons.mpr ⟨List.mem_of_getElem? (i := 648) (by decide +kernel), List.forall_mem_append.mpr ⟨tw_nil, tw_nil⟩⟩
set_option maxRecDepth 20000 in
theorem twX4_sortsThatCould : ∀ w ∈ wsX4_sortsThatCould, w ∈ lw_tbl := List.forall_mem_cons.mpr ⟨List.mem_of_getElem? (i := 645) (by decide +kernel), List.forall_mem_append.mpr ⟨mem_r _ [646, 647, 75] (by decide +kernel), List.forall_mem_append.mpr ⟨twX4_could, tw_nil⟩⟩⟩
set_option maxRecDepth 20000 in
theorem twX4_sortsOf : ∀ w ∈ wsX4_sortsOf, w ∈ lw_tbl := List.forall_mem_cons.mpr ⟨List.mem_of_getElem? (i := 642) (by decide +kernel), List.forall_mem_append.mpr ⟨mem_r _ [174, 176, 177, 178, 643, 644, 75] (by decide +kernel), List.forall_mem_append.mpr ⟨twX40, List.forall_mem_append.mpr ⟨twX4_sortsThatCould, tw_nil⟩⟩⟩⟩
set_option maxRecDepth 20000 in
theorem twJ6_bitCount_0f7a4 : ∀ w ∈ wsJ6_bitCount_0f7a4, w ∈ lw_tbl := List.forall_mem_cons.mpr ⟨List.mem_of_getElem? (i := 658) (by decide +kernel), List.forall_mem_append.mpr ⟨mem_r _ [659, 660, 661] (by decide +kernel), tw_nil⟩⟩
set_option maxRecDepth 20000 in
theorem twX4_questionFor : ∀ w ∈ wsX4_questionFor, w ∈ lw_tbl := List.forall_mem_cons.mpr ⟨List.mem_of_getElem? (i := 654) (by decide +kernel), List.forall_mem_append.mpr ⟨mem_r _ [662, 406, 84, 407, 655, 640, 641, 75, 643, 644, 656, 657, 90] (by decide +kernel), List.forall_mem_append.mpr ⟨twX4_sortsOf, List.forall_mem_append.mpr ⟨twX4_sortsThatCould, List.forall_mem_append.mpr ⟨twJ6_bitCount_0f7a4, tw_nil⟩⟩⟩⟩⟩
set_option maxRecDepth 20000 in
theorem twX8_tellOfSet : ∀ w ∈ wsX8_tellOfSet, w ∈ lw_tbl := List.forall_mem_cons.mpr ⟨List.mem_of_getElem? (i := 630) (by decide +kernel), List.forall_mem_append.mpr ⟨mem_r _ [316, 122, 126, 318, 245, 317, 631, 632, 633, 76, 635, 636, 637, 639, 640, 641, 75, 651, 652, 653] (by decide +kernel), List.forall_mem_append.mpr ⟨twX80, List.forall_mem_append.mpr ⟨twX50, List.forall_mem_append.mpr ⟨twX60, List.forall_mem_append.mpr ⟨twX6_strangeInSet, List.forall_mem_append.mpr ⟨twX6_borrowedTongues, List.forall_mem_append.mpr ⟨twX4_sortsOf, List.forall_mem_append.mpr ⟨twX4_questionFor, tw_nil⟩⟩⟩⟩⟩⟩⟩⟩⟩
set_option maxRecDepth 20000 in
theorem twX8_set : ∀ w ∈ wsX8_set, w ∈ lw_tbl := List.forall_mem_cons.mpr ⟨List.mem_of_getElem? (i := 522) (by decide +kernel), List.forall_mem_append.mpr ⟨mem_r _ [523, 525, 9, 72, 527, 529, 10, 627, 629, 18] (by decide +kernel), List.forall_mem_append.mpr ⟨twX8_isSet, List.forall_mem_append.mpr ⟨twX8_freshenStudy, List.forall_mem_append.mpr ⟨twX8_tellOfSet, tw_nil⟩⟩⟩⟩⟩
set_option maxRecDepth 20000 in
theorem twX8_isKind : ∀ w ∈ wsX8_isKind, w ∈ lw_tbl := List.forall_mem_cons.mpr ⟨List.mem_of_getElem? (i := 669) (by decide +kernel), List.forall_mem_append.mpr ⟨tw_nil, tw_nil⟩⟩
set_option maxRecDepth 20000 in
theorem twX8_isOfKind : ∀ w ∈ wsX8_isOfKind, w ∈ lw_tbl := List.forall_mem_cons.mpr ⟨List.mem_of_getElem? (i := 672) (by decide +kernel), List.forall_mem_append.mpr ⟨tw_nil, tw_nil⟩⟩
set_option maxRecDepth 20000 in
theorem twX8_as : ∀ w ∈ wsX8_as, w ∈ lw_tbl := List.forall_mem_cons.mpr ⟨List.mem_of_getElem? (i := 666) (by decide +kernel), List.forall_mem_append.mpr ⟨mem_r _ [316, 122, 523, 525, 9, 72, 667, 668, 670, 671] (by decide +kernel), List.forall_mem_append.mpr ⟨twX80, List.forall_mem_append.mpr ⟨twX50, List.forall_mem_append.mpr ⟨twX8_isSet, List.forall_mem_append.mpr ⟨twX8_isKind, List.forall_mem_append.mpr ⟨twX8_isOfKind, tw_nil⟩⟩⟩⟩⟩⟩⟩
set_option maxRecDepth 20000 in
theorem twX8_isNode : ∀ w ∈ wsX8_isNode, w ∈ lw_tbl := List.forall_mem_cons.mpr ⟨List.mem_of_getElem? (i := 680) (by decide +kernel), List.forall_mem_append.mpr ⟨mem_r _ [316, 118, 681, 551, 72] (by decide +kernel), List.forall_mem_append.mpr ⟨twX80, List.forall_mem_append.mpr ⟨twX50, List.forall_mem_append.mpr ⟨twX8_nodesOf, tw_nil⟩⟩⟩⟩⟩
set_option maxRecDepth 20000 in
theorem twX8_isPlace : ∀ w ∈ wsX8_isPlace, w ∈ lw_tbl := List.forall_mem_cons.mpr ⟨List.mem_of_getElem? (i := 685) (by decide +kernel), List.forall_mem_append.mpr ⟨mem_r _ [316, 126] (by decide +kernel), List.forall_mem_append.mpr ⟨twX80, List.forall_mem_append.mpr ⟨twX50, tw_nil⟩⟩⟩⟩
set_option maxRecDepth 20000 in
theorem twX8_tellOfNode : ∀ w ∈ wsX8_tellOfNode, w ∈ lw_tbl := List.forall_mem_cons.mpr ⟨List.mem_of_getElem? (i := 689) (by decide +kernel), List.forall_mem_append.mpr ⟨mem_r _ [316, 118, 691, 122, 318, 243, 130, 692, 584, 72, 690, 497] (by decide +kernel), List.forall_mem_append.mpr ⟨twX80, List.forall_mem_append.mpr ⟨twX50, List.forall_mem_append.mpr ⟨twX60, List.forall_mem_append.mpr ⟨twX8_nodesAt, List.forall_mem_append.mpr ⟨twX8_wordAt, tw_nil⟩⟩⟩⟩⟩⟩⟩
set_option maxRecDepth 20000 in
theorem twX8_sound : ∀ w ∈ wsX8_sound, w ∈ lw_tbl := List.forall_mem_cons.mpr ⟨List.mem_of_getElem? (i := 676) (by decide +kernel), List.forall_mem_append.mpr ⟨mem_r _ [523, 525, 9, 72, 677, 679, 19, 682, 684, 20, 527, 529, 10, 686, 688, 21] (by decide +kernel), List.forall_mem_append.mpr ⟨twX8_isSet, List.forall_mem_append.mpr ⟨twX8_isNode, List.forall_mem_append.mpr ⟨twX8_isPlace, List.forall_mem_append.mpr ⟨twX8_freshenStudy, List.forall_mem_append.mpr ⟨twX8_tellOfNode, tw_nil⟩⟩⟩⟩⟩⟩⟩
set_option maxRecDepth 20000 in
theorem twX8_strange : ∀ w ∈ wsX8_strange, w ∈ lw_tbl := List.forall_mem_cons.mpr ⟨List.mem_of_getElem? (i := 712) (by decide +kernel), List.forall_mem_append.mpr ⟨mem_r _ [691, 316, 122, 318, 247, 523, 525, 9, 72, 697, 699, 22, 527, 529, 10] (by decide +kernel), List.forall_mem_append.mpr ⟨twX80, List.forall_mem_append.mpr ⟨twX50, List.forall_mem_append.mpr ⟨twX60, List.forall_mem_append.mpr ⟨twX8_isSet, List.forall_mem_append.mpr ⟨twX8_isTongue, List.forall_mem_append.mpr ⟨twX8_freshenStudy, tw_nil⟩⟩⟩⟩⟩⟩⟩⟩
set_option maxRecDepth 20000 in
theorem twX8_say : ∀ w ∈ wsX8_say, w ∈ lw_tbl := List.forall_mem_cons.mpr ⟨List.mem_of_getElem? (i := 716) (by decide +kernel), List.forall_mem_append.mpr ⟨mem_r _ [691, 316, 122, 318, 249, 203, 523, 525, 9, 72, 697, 699, 22, 682, 684, 20, 527, 529, 10, 717, 601, 602, 76, 718, 606, 704, 609] (by decide +kernel), List.forall_mem_append.mpr ⟨twX80, List.forall_mem_append.mpr ⟨twX50, List.forall_mem_append.mpr ⟨twX60, List.forall_mem_append.mpr ⟨twX20, List.forall_mem_append.mpr ⟨twX8_isSet, List.forall_mem_append.mpr ⟨twX8_isTongue, List.forall_mem_append.mpr ⟨twX8_isPlace, List.forall_mem_append.mpr ⟨twX8_freshenStudy, List.forall_mem_append.mpr ⟨twX6_oldSound, List.forall_mem_append.mpr ⟨twX8_aheadAt, List.forall_mem_append.mpr ⟨twX8_lawAt, tw_nil⟩⟩⟩⟩⟩⟩⟩⟩⟩⟩⟩⟩⟩
set_option maxRecDepth 20000 in
theorem twX0_readSounds : ∀ w ∈ wsX0_readSounds, w ∈ lw_tbl := List.forall_mem_cons.mpr ⟨List.mem_of_getElem? (i := 729) (by decide +kernel), List.forall_mem_append.mpr ⟨tw_nil, tw_nil⟩⟩
set_option maxRecDepth 20000 in
theorem twX0_readFirst : ∀ w ∈ wsX0_readFirst, w ∈ lw_tbl := List.forall_mem_cons.mpr ⟨List.mem_of_getElem? (i := 726) (by decide +kernel), List.forall_mem_append.mpr ⟨mem_r _ [272, 274, 727, 728, 79] (by decide +kernel), List.forall_mem_append.mpr ⟨twX00, List.forall_mem_append.mpr ⟨twX0_readSounds, tw_nil⟩⟩⟩⟩
set_option maxRecDepth 20000 in
theorem twX0_readSecond : ∀ w ∈ wsX0_readSecond, w ∈ lw_tbl := List.forall_mem_cons.mpr ⟨List.mem_of_getElem? (i := 733) (by decide +kernel), List.forall_mem_append.mpr ⟨mem_r _ [273, 275, 727, 728, 79] (by decide +kernel), List.forall_mem_append.mpr ⟨twX00, List.forall_mem_append.mpr ⟨twX0_readSounds, tw_nil⟩⟩⟩⟩
set_option maxRecDepth 20000 in
theorem twX0_leastCost : ∀ w ∈ wsX0_leastCost, w ∈ lw_tbl := List.forall_mem_cons.mpr ⟨List.mem_of_getElem? (i := 737) (by decide +kernel), List.forall_mem_append.mpr ⟨mem_r _ [275, 274, 276, 272, 273, 72, 580, 739, 409, 84, 410] (by decide +kernel), List.forall_mem_append.mpr ⟨twX00, List.forall_mem_append.mpr ⟨twX8_costOf, tw_nil⟩⟩⟩⟩
set_option maxRecDepth 20000 in
theorem twX8_line : ∀ w ∈ wsX8_line, w ∈ lw_tbl := List.forall_mem_cons.mpr ⟨List.mem_of_getElem? (i := 722) (by decide +kernel), List.forall_mem_append.mpr ⟨mem_r _ [323, 316, 130, 126, 523, 525, 9, 72, 697, 699, 22, 690, 497, 723, 724, 725, 79, 730, 731, 732, 734, 735, 736] (by decide +kernel), List.forall_mem_append.mpr ⟨twX80, List.forall_mem_append.mpr ⟨twX50, List.forall_mem_append.mpr ⟨twX8_isSet, List.forall_mem_append.mpr ⟨twX8_isTongue, List.forall_mem_append.mpr ⟨twX8_wordAt, List.forall_mem_append.mpr ⟨twX0_readFirst, List.forall_mem_append.mpr ⟨twX0_readSecond, List.forall_mem_append.mpr ⟨twX0_leastCost, tw_nil⟩⟩⟩⟩⟩⟩⟩⟩⟩⟩
set_option maxRecDepth 20000 in
theorem twX8_isSound : ∀ w ∈ wsX8_isSound, w ∈ lw_tbl := List.forall_mem_cons.mpr ⟨List.mem_of_getElem? (i := 703) (by decide +kernel), List.forall_mem_append.mpr ⟨tw_nil, tw_nil⟩⟩
set_option maxRecDepth 20000 in
theorem twX5_isSilentBut : ∀ w ∈ wsX5_isSilentBut, w ∈ lw_tbl := List.forall_mem_cons.mpr ⟨List.mem_of_getElem? (i := 752) (by decide +kernel), List.forall_mem_append.mpr ⟨mem_r _ [123, 127, 72, 497] (by decide +kernel), List.forall_mem_append.mpr ⟨twX50, List.forall_mem_append.mpr ⟨twX8_wordAt, tw_nil⟩⟩⟩⟩
set_option maxRecDepth 20000 in
theorem twX8_put : ∀ w ∈ wsX8_put, w ∈ lw_tbl := List.forall_mem_cons.mpr ⟨List.mem_of_getElem? (i := 748) (by decide +kernel), List.forall_mem_append.mpr ⟨mem_r _ [316, 130, 319, 523, 525, 9, 72, 697, 699, 22, 682, 684, 20, 701, 702, 690, 497, 749, 750, 751, 74] (by decide +kernel), List.forall_mem_append.mpr ⟨twX80, List.forall_mem_append.mpr ⟨twX50, List.forall_mem_append.mpr ⟨twX8_isSet, List.forall_mem_append.mpr ⟨twX8_isTongue, List.forall_mem_append.mpr ⟨twX8_isPlace, List.forall_mem_append.mpr ⟨twX8_isSound, List.forall_mem_append.mpr ⟨twX8_wordAt, List.forall_mem_append.mpr ⟨twX5_isSilentBut, tw_nil⟩⟩⟩⟩⟩⟩⟩⟩⟩⟩
set_option maxRecDepth 20000 in
theorem twX5_putOver : ∀ w ∈ wsX5_putOver, w ∈ lw_tbl := List.forall_mem_cons.mpr ⟨List.mem_of_getElem? (i := 761) (by decide +kernel), List.forall_mem_append.mpr ⟨mem_r _ [119, 123, 127, 72, 497, 512, 514, 513, 88] (by decide +kernel), List.forall_mem_append.mpr ⟨twX50, List.forall_mem_append.mpr ⟨twX8_wordAt, tw_nil⟩⟩⟩⟩
set_option maxRecDepth 20000 in
theorem twX8_copy : ∀ w ∈ wsX8_copy, w ∈ lw_tbl := List.forall_mem_cons.mpr ⟨List.mem_of_getElem? (i := 757) (by decide +kernel), List.forall_mem_append.mpr ⟨mem_r _ [316, 114, 319, 523, 525, 9, 72, 758, 759, 760, 74] (by decide +kernel), List.forall_mem_append.mpr ⟨twX80, List.forall_mem_append.mpr ⟨twX50, List.forall_mem_append.mpr ⟨twX8_isSet, List.forall_mem_append.mpr ⟨twX5_putOver, tw_nil⟩⟩⟩⟩⟩⟩
set_option maxRecDepth 20000 in
theorem twX5_remove : ∀ w ∈ wsX5_remove, w ∈ lw_tbl := List.forall_mem_cons.mpr ⟨List.mem_of_getElem? (i := 769) (by decide +kernel), List.forall_mem_append.mpr ⟨mem_r _ [111, 770, 759, 760, 74] (by decide +kernel), List.forall_mem_append.mpr ⟨twX50, List.forall_mem_append.mpr ⟨twX5_putOver, tw_nil⟩⟩⟩⟩
set_option maxRecDepth 20000 in
theorem twX4_loseSet : ∀ w ∈ wsX4_loseSet, w ∈ lw_tbl := List.forall_mem_cons.mpr ⟨List.mem_of_getElem? (i := 774) (by decide +kernel), List.forall_mem_append.mpr ⟨mem_r _ [174, 176] (by decide +kernel), List.forall_mem_append.mpr ⟨twX40, tw_nil⟩⟩⟩
set_option maxRecDepth 20000 in
theorem twX8_take : ∀ w ∈ wsX8_take, w ∈ lw_tbl := List.forall_mem_cons.mpr ⟨List.mem_of_getElem? (i := 765) (by decide +kernel), List.forall_mem_append.mpr ⟨mem_r _ [316, 114, 317, 319, 523, 525, 9, 72, 766, 767, 768, 74, 771, 772, 773, 75] (by decide +kernel), List.forall_mem_append.mpr ⟨twX80, List.forall_mem_append.mpr ⟨twX50, List.forall_mem_append.mpr ⟨twX8_isSet, List.forall_mem_append.mpr ⟨twX5_remove, List.forall_mem_append.mpr ⟨twX4_loseSet, tw_nil⟩⟩⟩⟩⟩⟩⟩
set_option maxRecDepth 20000 in
theorem twX8_change : ∀ w ∈ wsX8_change, w ∈ lw_tbl := List.forall_mem_cons.mpr ⟨List.mem_of_getElem? (i := 778) (by decide +kernel), List.forall_mem_append.mpr ⟨mem_r _ [316, 122, 319, 523, 525, 9, 72, 667, 668] (by decide +kernel), List.forall_mem_append.mpr ⟨twX80, List.forall_mem_append.mpr ⟨twX50, List.forall_mem_append.mpr ⟨twX8_isSet, List.forall_mem_append.mpr ⟨twX8_isKind, tw_nil⟩⟩⟩⟩⟩⟩
set_option maxRecDepth 20000 in
theorem twX2_tell : ∀ w ∈ wsX2_tell, w ∈ lw_tbl := List.forall_mem_cons.mpr ⟨List.mem_of_getElem? (i := 708) (by decide +kernel), List.forall_mem_append.mpr ⟨mem_r _ [201, 204, 205] (by decide +kernel), List.forall_mem_append.mpr ⟨twX20, tw_nil⟩⟩⟩
set_option maxRecDepth 20000 in
theorem twX8_law : ∀ w ∈ wsX8_law, w ∈ lw_tbl := List.forall_mem_cons.mpr ⟨List.mem_of_getElem? (i := 696) (by decide +kernel), List.forall_mem_append.mpr ⟨mem_r _ [318, 249, 697, 699, 22, 72, 701, 702, 527, 529, 10, 704, 609, 705, 706, 707, 77] (by decide +kernel), List.forall_mem_append.mpr ⟨twX80, List.forall_mem_append.mpr ⟨twX60, List.forall_mem_append.mpr ⟨twX8_isTongue, List.forall_mem_append.mpr ⟨twX8_isSound, List.forall_mem_append.mpr ⟨twX8_freshenStudy, List.forall_mem_append.mpr ⟨twX8_lawAt, List.forall_mem_append.mpr ⟨twX2_tell, tw_nil⟩⟩⟩⟩⟩⟩⟩⟩⟩
set_option maxRecDepth 20000 in
theorem twX5_exchange : ∀ w ∈ wsX5_exchange, w ∈ lw_tbl := List.forall_mem_cons.mpr ⟨List.mem_of_getElem? (i := 786) (by decide +kernel), List.forall_mem_append.mpr ⟨mem_r _ [111, 123, 72, 497, 127] (by decide +kernel), List.forall_mem_append.mpr ⟨twX50, List.forall_mem_append.mpr ⟨twX8_wordAt, tw_nil⟩⟩⟩⟩
set_option maxRecDepth 20000 in
theorem twX8_swap : ∀ w ∈ wsX8_swap, w ∈ lw_tbl := List.forall_mem_cons.mpr ⟨List.mem_of_getElem? (i := 782) (by decide +kernel), List.forall_mem_append.mpr ⟨mem_r _ [316, 319, 318, 251, 697, 699, 22, 72, 783, 784, 785, 74, 527, 529, 10] (by decide +kernel), List.forall_mem_append.mpr ⟨twX80, List.forall_mem_append.mpr ⟨twX60, List.forall_mem_append.mpr ⟨twX8_isTongue, List.forall_mem_append.mpr ⟨twX5_exchange, List.forall_mem_append.mpr ⟨twX8_freshenStudy, tw_nil⟩⟩⟩⟩⟩⟩⟩
set_option maxRecDepth 20000 in
theorem twX4_add : ∀ w ∈ wsX4_add, w ∈ lw_tbl := List.forall_mem_cons.mpr ⟨List.mem_of_getElem? (i := 794) (by decide +kernel), List.forall_mem_append.mpr ⟨mem_r _ [176, 174, 177, 178] (by decide +kernel), List.forall_mem_append.mpr ⟨twX40, tw_nil⟩⟩⟩
set_option maxRecDepth 20000 in
theorem twX8_see : ∀ w ∈ wsX8_see, w ∈ lw_tbl := List.forall_mem_cons.mpr ⟨List.mem_of_getElem? (i := 790) (by decide +kernel), List.forall_mem_append.mpr ⟨mem_r _ [317, 175, 523, 525, 9, 72, 791, 792, 793, 75] (by decide +kernel), List.forall_mem_append.mpr ⟨twX80, List.forall_mem_append.mpr ⟨twX40, List.forall_mem_append.mpr ⟨twX8_isSet, List.forall_mem_append.mpr ⟨twX4_add, tw_nil⟩⟩⟩⟩⟩⟩
set_option maxRecDepth 20000 in
theorem twX8_forget : ∀ w ∈ wsX8_forget, w ∈ lw_tbl := List.forall_mem_cons.mpr ⟨List.mem_of_getElem? (i := 798) (by decide +kernel), List.forall_mem_append.mpr ⟨mem_r _ [317, 175, 515, 516, 517, 75] (by decide +kernel), List.forall_mem_append.mpr ⟨twX80, List.forall_mem_append.mpr ⟨twX40, List.forall_mem_append.mpr ⟨twX4_clear, tw_nil⟩⟩⟩⟩⟩
set_option maxRecDepth 20000 in
theorem twX4_become : ∀ w ∈ wsX4_become, w ∈ lw_tbl := List.forall_mem_cons.mpr ⟨List.mem_of_getElem? (i := 829) (by decide +kernel), List.forall_mem_append.mpr ⟨mem_r _ [174, 176, 177, 178, 830, 792, 793, 75] (by decide +kernel), List.forall_mem_append.mpr ⟨twX40, List.forall_mem_append.mpr ⟨twX4_add, tw_nil⟩⟩⟩⟩
set_option maxRecDepth 20000 in
theorem twX8_image : ∀ w ∈ wsX8_image, w ∈ lw_tbl := List.forall_mem_cons.mpr ⟨List.mem_of_getElem? (i := 825) (by decide +kernel), List.forall_mem_append.mpr ⟨mem_r _ [316, 114, 320, 321, 317, 322, 508, 509, 510, 74, 826, 827, 828, 75] (by decide +kernel), List.forall_mem_append.mpr ⟨twX80, List.forall_mem_append.mpr ⟨twX50, List.forall_mem_append.mpr ⟨twX5_become, List.forall_mem_append.mpr ⟨twX4_become, tw_nil⟩⟩⟩⟩⟩⟩
set_option maxRecDepth 20000 in
theorem twX8_restore : ∀ w ∈ wsX8_restore, w ∈ lw_tbl := List.forall_mem_cons.mpr ⟨List.mem_of_getElem? (i := 834) (by decide +kernel), List.forall_mem_append.mpr ⟨mem_r _ [322, 316, 320, 317, 321, 319, 114, 508, 509, 510, 74, 826, 827, 828, 75] (by decide +kernel), List.forall_mem_append.mpr ⟨twX80, List.forall_mem_append.mpr ⟨twX50, List.forall_mem_append.mpr ⟨twX5_become, List.forall_mem_append.mpr ⟨twX4_become, tw_nil⟩⟩⟩⟩⟩⟩
set_option maxRecDepth 20000 in
theorem twX8_cost : ∀ w ∈ wsX8_cost, w ∈ lw_tbl := List.forall_mem_cons.mpr ⟨List.mem_of_getElem? (i := 743) (by decide +kernel), List.forall_mem_append.mpr ⟨mem_r _ [701, 702, 72, 744, 580] (by decide +kernel), List.forall_mem_append.mpr ⟨twX8_isSound, List.forall_mem_append.mpr ⟨twX8_costOf, tw_nil⟩⟩⟩⟩
set_option maxRecDepth 20000 in
theorem twX6_borrowedWords : ∀ w ∈ wsX6_borrowedWords, w ∈ lw_tbl := List.forall_mem_cons.mpr ⟨List.mem_of_getElem? (i := 846) (by decide +kernel), List.forall_mem_append.mpr ⟨mem_r _ [113, 847, 636, 637, 76, 848, 657, 90] (by decide +kernel), List.forall_mem_append.mpr ⟨twX50, List.forall_mem_append.mpr ⟨twX6_borrowedTongues, List.forall_mem_append.mpr ⟨twJ6_bitCount_0f7a4, tw_nil⟩⟩⟩⟩⟩
set_option maxRecDepth 20000 in
theorem twX8_tellOfAll : ∀ w ∈ wsX8_tellOfAll, w ∈ lw_tbl := List.forall_mem_cons.mpr ⟨List.mem_of_getElem? (i := 842) (by decide +kernel), List.forall_mem_append.mpr ⟨mem_r _ [316, 114, 118, 318, 251, 249, 207, 209, 317, 175, 313, 315, 681, 551, 72, 843, 844, 845, 76] (by decide +kernel), List.forall_mem_append.mpr ⟨twX80, List.forall_mem_append.mpr ⟨twX50, List.forall_mem_append.mpr ⟨twX60, List.forall_mem_append.mpr ⟨twX20, List.forall_mem_append.mpr ⟨twX40, List.forall_mem_append.mpr ⟨twX8_nodesOf, List.forall_mem_append.mpr ⟨twX6_borrowedWords, tw_nil⟩⟩⟩⟩⟩⟩⟩⟩⟩
set_option maxRecDepth 20000 in
theorem twX8_count : ∀ w ∈ wsX8_count, w ∈ lw_tbl := List.forall_mem_cons.mpr ⟨List.mem_of_getElem? (i := 838) (by decide +kernel), List.forall_mem_append.mpr ⟨mem_r _ [527, 529, 10, 72, 839, 841, 25] (by decide +kernel), List.forall_mem_append.mpr ⟨twX8_freshenStudy, List.forall_mem_append.mpr ⟨twX8_tellOfAll, tw_nil⟩⟩⟩⟩
set_option maxRecDepth 20000 in
theorem twX8_mixed : ∀ w ∈ wsX8_mixed, w ∈ lw_tbl := List.forall_mem_cons.mpr ⟨List.mem_of_getElem? (i := 860) (by decide +kernel), List.forall_mem_append.mpr ⟨mem_r _ [861] (by decide +kernel), tw_nil⟩⟩
set_option maxRecDepth 20000 in
theorem twX8_digestLaws : ∀ w ∈ wsX8_digestLaws, w ∈ lw_tbl := List.forall_mem_cons.mpr ⟨List.mem_of_getElem? (i := 865) (by decide +kernel), List.forall_mem_append.mpr ⟨mem_r _ [318, 249, 704, 609, 72, 705, 706, 707, 77, 858, 859] (by decide +kernel), List.forall_mem_append.mpr ⟨twX80, List.forall_mem_append.mpr ⟨twX60, List.forall_mem_append.mpr ⟨twX8_lawAt, List.forall_mem_append.mpr ⟨twX2_tell, List.forall_mem_append.mpr ⟨twX8_mixed, tw_nil⟩⟩⟩⟩⟩⟩⟩
set_option maxRecDepth 20000 in
theorem twX8_digestSet : ∀ w ∈ wsX8_digestSet, w ∈ lw_tbl := List.forall_mem_cons.mpr ⟨List.mem_of_getElem? (i := 857) (by decide +kernel), List.forall_mem_append.mpr ⟨mem_r _ [316, 118, 126, 681, 551, 72, 686, 688, 21, 858, 859, 627, 629, 18] (by decide +kernel), List.forall_mem_append.mpr ⟨twX80, List.forall_mem_append.mpr ⟨twX50, List.forall_mem_append.mpr ⟨twX8_nodesOf, List.forall_mem_append.mpr ⟨twX8_tellOfNode, List.forall_mem_append.mpr ⟨twX8_mixed, List.forall_mem_append.mpr ⟨twX8_tellOfSet, tw_nil⟩⟩⟩⟩⟩⟩⟩⟩
set_option maxRecDepth 20000 in
theorem twX8_digest : ∀ w ∈ wsX8_digest, w ∈ lw_tbl := List.forall_mem_cons.mpr ⟨List.mem_of_getElem? (i := 852) (by decide +kernel), List.forall_mem_append.mpr ⟨mem_r _ [853, 316, 114, 118, 313, 312, 527, 529, 10, 72, 839, 841, 25, 858, 859, 862, 864, 27, 854, 856, 26] (by decide +kernel), List.forall_mem_append.mpr ⟨twX80, List.forall_mem_append.mpr ⟨twX50, List.forall_mem_append.mpr ⟨twX8_freshenStudy, List.forall_mem_append.mpr ⟨twX8_tellOfAll, List.forall_mem_append.mpr ⟨twX8_mixed, List.forall_mem_append.mpr ⟨twX8_digestLaws, List.forall_mem_append.mpr ⟨twX8_digestSet, tw_nil⟩⟩⟩⟩⟩⟩⟩⟩⟩
set_option maxRecDepth 20000 in
theorem twX9_isSet : ∀ w ∈ wsX9_isSet, w ∈ lw_tbl := List.forall_mem_cons.mpr ⟨List.mem_of_getElem? (i := 1139) (by decide +kernel), List.forall_mem_append.mpr ⟨mem_r _ [882, 1001, 1002, 81] (by decide +kernel), List.forall_mem_append.mpr ⟨twX90, List.forall_mem_append.mpr ⟨twX9_in, tw_nil⟩⟩⟩⟩
set_option maxRecDepth 20000 in
theorem twX9_isTongue : ∀ w ∈ wsX9_isTongue, w ∈ lw_tbl := List.forall_mem_cons.mpr ⟨List.mem_of_getElem? (i := 1077) (by decide +kernel), List.forall_mem_append.mpr ⟨mem_r _ [883, 1001, 1002, 81] (by decide +kernel), List.forall_mem_append.mpr ⟨twX90, List.forall_mem_append.mpr ⟨twX9_in, tw_nil⟩⟩⟩⟩
set_option maxRecDepth 20000 in
theorem twX9_isPlace : ∀ w ∈ wsX9_isPlace, w ∈ lw_tbl := List.forall_mem_cons.mpr ⟨List.mem_of_getElem? (i := 1155) (by decide +kernel), List.forall_mem_append.mpr ⟨mem_r _ [886, 1136, 1138, 49, 81, 1001, 1002] (by decide +kernel), List.forall_mem_append.mpr ⟨twX90, List.forall_mem_append.mpr ⟨twX9_isSet, List.forall_mem_append.mpr ⟨twX9_in, tw_nil⟩⟩⟩⟩⟩
set_option maxRecDepth 20000 in
theorem twX9_letter : ∀ w ∈ wsX9_letter, w ∈ lw_tbl := List.forall_mem_cons.mpr ⟨List.mem_of_getElem? (i := 999) (by decide +kernel), List.forall_mem_append.mpr ⟨mem_r _ [1000, 873, 872, 1001, 1002, 81] (by decide +kernel), List.forall_mem_append.mpr ⟨twX90, List.forall_mem_append.mpr ⟨twX9_in, tw_nil⟩⟩⟩⟩
set_option maxRecDepth 20000 in
theorem twX9_blank : ∀ w ∈ wsX9_blank, w ∈ lw_tbl := List.forall_mem_cons.mpr ⟨List.mem_of_getElem? (i := 1007) (by decide +kernel), List.forall_mem_append.mpr ⟨mem_r _ [873] (by decide +kernel), List.forall_mem_append.mpr ⟨twX90, tw_nil⟩⟩⟩
set_option maxRecDepth 20000 in
theorem twX9_soundBy : ∀ w ∈ wsX9_soundBy, w ∈ lw_tbl := List.forall_mem_cons.mpr ⟨List.mem_of_getElem? (i := 1049) (by decide +kernel), List.forall_mem_append.mpr ⟨tw_nil, tw_nil⟩⟩
set_option maxRecDepth 20000 in
theorem twX9_isSound : ∀ w ∈ wsX9_isSound, w ∈ lw_tbl := List.forall_mem_cons.mpr ⟨List.mem_of_getElem? (i := 1046) (by decide +kernel), List.forall_mem_append.mpr ⟨mem_r _ [876, 875, 877, 881, 874, 880, 1047, 1048, 81] (by decide +kernel), List.forall_mem_append.mpr ⟨twX90, List.forall_mem_append.mpr ⟨twX9_soundBy, tw_nil⟩⟩⟩⟩
set_option maxRecDepth 20000 in
theorem twX9_isWordWhole : ∀ w ∈ wsX9_isWordWhole, w ∈ lw_tbl := List.forall_mem_cons.mpr ⟨List.mem_of_getElem? (i := 1034) (by decide +kernel), List.forall_mem_append.mpr ⟨mem_r _ [876, 875, 877] (by decide +kernel), List.forall_mem_append.mpr ⟨twX90, tw_nil⟩⟩⟩
set_option maxRecDepth 20000 in
theorem twX9_isSetWhole : ∀ w ∈ wsX9_isSetWhole, w ∈ lw_tbl := List.forall_mem_cons.mpr ⟨List.mem_of_getElem? (i := 1042) (by decide +kernel), List.forall_mem_append.mpr ⟨mem_r _ [878, 875, 1031, 1033, 32, 81] (by decide +kernel), List.forall_mem_append.mpr ⟨twX90, List.forall_mem_append.mpr ⟨twX9_isWordWhole, tw_nil⟩⟩⟩⟩
set_option maxRecDepth 20000 in
theorem twX9_isComma : ∀ w ∈ wsX9_isComma, w ∈ lw_tbl := List.forall_mem_cons.mpr ⟨List.mem_of_getElem? (i := 1038) (by decide +kernel), List.forall_mem_append.mpr ⟨mem_r _ [878, 875, 874, 1039, 1041, 34, 81] (by decide +kernel), List.forall_mem_append.mpr ⟨twX90, List.forall_mem_append.mpr ⟨twX9_isSetWhole, tw_nil⟩⟩⟩⟩
set_option maxRecDepth 20000 in
theorem twX9_isSlash : ∀ w ∈ wsX9_isSlash, w ∈ lw_tbl := List.forall_mem_cons.mpr ⟨List.mem_of_getElem? (i := 1030) (by decide +kernel), List.forall_mem_append.mpr ⟨mem_r _ [875, 877, 876, 878, 1031, 1033, 32, 81] (by decide +kernel), List.forall_mem_append.mpr ⟨twX90, List.forall_mem_append.mpr ⟨twX9_isWordWhole, tw_nil⟩⟩⟩⟩
set_option maxRecDepth 20000 in
theorem twX9_kindBy : ∀ w ∈ wsX9_kindBy, w ∈ lw_tbl := List.forall_mem_cons.mpr ⟨List.mem_of_getElem? (i := 1026) (by decide +kernel), List.forall_mem_append.mpr ⟨tw_nil, tw_nil⟩⟩
set_option maxRecDepth 20000 in
theorem twX9_isBegun : ∀ w ∈ wsX9_isBegun, w ∈ lw_tbl := List.forall_mem_cons.mpr ⟨List.mem_of_getElem? (i := 1023) (by decide +kernel), List.forall_mem_append.mpr ⟨mem_r _ [874, 879, 875, 876, 877, 1024, 1025, 81] (by decide +kernel), List.forall_mem_append.mpr ⟨twX90, List.forall_mem_append.mpr ⟨twX9_kindBy, tw_nil⟩⟩⟩⟩
set_option maxRecDepth 20000 in
theorem twX9_isGood : ∀ w ∈ wsX9_isGood, w ∈ lw_tbl := List.forall_mem_cons.mpr ⟨List.mem_of_getElem? (i := 1019) (by decide +kernel), List.forall_mem_append.mpr ⟨mem_r _ [875, 1043, 1045, 35, 81, 1035, 1037, 33, 1027, 1029, 31, 1020, 1022, 30] (by decide +kernel), List.forall_mem_append.mpr ⟨twX90, List.forall_mem_append.mpr ⟨twX9_isSound, List.forall_mem_append.mpr ⟨twX9_isComma, List.forall_mem_append.mpr ⟨twX9_isSlash, List.forall_mem_append.mpr ⟨twX9_isBegun, tw_nil⟩⟩⟩⟩⟩⟩⟩
set_option maxRecDepth 20000 in
theorem twX9_faultOf : ∀ w ∈ wsX9_faultOf, w ∈ lw_tbl := List.forall_mem_cons.mpr ⟨List.mem_of_getElem? (i := 1015) (by decide +kernel), List.forall_mem_append.mpr ⟨mem_r _ [874, 875, 878, 873, 872, 1016, 1018, 29, 81] (by decide +kernel), List.forall_mem_append.mpr ⟨twX90, List.forall_mem_append.mpr ⟨twX9_isGood, tw_nil⟩⟩⟩⟩
set_option maxRecDepth 20000 in
theorem twX9_fault : ∀ w ∈ wsX9_fault, w ∈ lw_tbl := List.forall_mem_cons.mpr ⟨List.mem_of_getElem? (i := 1011) (by decide +kernel), List.forall_mem_append.mpr ⟨mem_r _ [1012, 1014, 28, 81] (by decide +kernel), List.forall_mem_append.mpr ⟨twX9_faultOf, tw_nil⟩⟩⟩
set_option maxRecDepth 20000 in
theorem twX9_isMute : ∀ w ∈ wsX9_isMute, w ∈ lw_tbl := List.forall_mem_cons.mpr ⟨List.mem_of_getElem? (i := 1057) (by decide +kernel), List.forall_mem_append.mpr ⟨mem_r _ [874, 875, 880, 881] (by decide +kernel), List.forall_mem_append.mpr ⟨twX90, tw_nil⟩⟩⟩
set_option maxRecDepth 20000 in
theorem twX9_sets : ∀ w ∈ wsX9_sets, w ∈ lw_tbl := List.forall_mem_cons.mpr ⟨List.mem_of_getElem? (i := 1053) (by decide +kernel), List.forall_mem_append.mpr ⟨mem_r _ [873, 875, 874, 882, 883, 888, 901, 884, 887, 881, 885, 879, 886, 880, 1012, 1014, 28, 81, 1039, 1041, 34, 1054, 1056, 36] (by decide +kernel), List.forall_mem_append.mpr ⟨twX90, List.forall_mem_append.mpr ⟨twX9_faultOf, List.forall_mem_append.mpr ⟨twX9_isSetWhole, List.forall_mem_append.mpr ⟨twX9_isMute, tw_nil⟩⟩⟩⟩⟩⟩
set_option maxRecDepth 20000 in
theorem twX9_isRebuilt : ∀ w ∈ wsX9_isRebuilt, w ∈ lw_tbl := List.forall_mem_cons.mpr ⟨List.mem_of_getElem? (i := 1090) (by decide +kernel), List.forall_mem_append.mpr ⟨mem_r _ [885] (by decide +kernel), List.forall_mem_append.mpr ⟨twX90, tw_nil⟩⟩⟩
set_option maxRecDepth 20000 in
theorem twX9_laySets : ∀ w ∈ wsX9_laySets, w ∈ lw_tbl := List.forall_mem_cons.mpr ⟨List.mem_of_getElem? (i := 1086) (by decide +kernel), List.forall_mem_append.mpr ⟨mem_r _ [882, 893, 886, 883, 892, 890, 891, 887, 1087, 1089, 40, 81, 1091, 1093, 41] (by decide +kernel), List.forall_mem_append.mpr ⟨twX90, List.forall_mem_append.mpr ⟨twX9_isRebuilt, List.forall_mem_append.mpr ⟨twX9_rebuild, tw_nil⟩⟩⟩⟩⟩
set_option maxRecDepth 20000 in
theorem twX9_weightBy : ∀ w ∈ wsX9_weightBy, w ∈ lw_tbl := List.forall_mem_cons.mpr ⟨List.mem_of_getElem? (i := 1127) (by decide +kernel), List.forall_mem_append.mpr ⟨tw_nil, tw_nil⟩⟩
set_option maxRecDepth 20000 in
theorem twX9_oldSound : ∀ w ∈ wsX9_oldSound, w ∈ lw_tbl := List.forall_mem_cons.mpr ⟨List.mem_of_getElem? (i := 1131) (by decide +kernel), List.forall_mem_append.mpr ⟨mem_r _ [892, 883, 1099, 1101, 43, 81] (by decide +kernel), List.forall_mem_append.mpr ⟨twX90, List.forall_mem_append.mpr ⟨twX9_nodesBy, tw_nil⟩⟩⟩⟩
set_option maxRecDepth 20000 in
theorem twX9_layTally : ∀ w ∈ wsX9_layTally, w ∈ lw_tbl := List.forall_mem_cons.mpr ⟨List.mem_of_getElem? (i := 1124) (by decide +kernel), List.forall_mem_append.mpr ⟨mem_r _ [882, 885, 886, 897, 887, 1125, 1126, 81, 1128, 1130, 48] (by decide +kernel), List.forall_mem_append.mpr ⟨twX90, List.forall_mem_append.mpr ⟨twX9_weightBy, List.forall_mem_append.mpr ⟨twX9_oldSound, tw_nil⟩⟩⟩⟩⟩
set_option maxRecDepth 20000 in
theorem twX9_layLaw : ∀ w ∈ wsX9_layLaw, w ∈ lw_tbl := List.forall_mem_cons.mpr ⟨List.mem_of_getElem? (i := 1120) (by decide +kernel), List.forall_mem_append.mpr ⟨mem_r _ [894, 895, 896, 897, 1121, 1123, 47, 81] (by decide +kernel), List.forall_mem_append.mpr ⟨twX90, List.forall_mem_append.mpr ⟨twX9_layTally, tw_nil⟩⟩⟩⟩
set_option maxRecDepth 20000 in
theorem twX9_freshen : ∀ w ∈ wsX9_freshen, w ∈ lw_tbl := List.forall_mem_cons.mpr ⟨List.mem_of_getElem? (i := 1082) (by decide +kernel), List.forall_mem_append.mpr ⟨mem_r _ [888, 883, 1083, 1085, 39, 81, 1117, 1119, 46] (by decide +kernel), List.forall_mem_append.mpr ⟨twX90, List.forall_mem_append.mpr ⟨twX9_laySets, List.forall_mem_append.mpr ⟨twX9_layLaw, tw_nil⟩⟩⟩⟩⟩
set_option maxRecDepth 20000 in
theorem twX9_lawAt : ∀ w ∈ wsX9_lawAt, w ∈ lw_tbl := List.forall_mem_cons.mpr ⟨List.mem_of_getElem? (i := 1147) (by decide +kernel), List.forall_mem_append.mpr ⟨mem_r _ [894, 1128, 1130, 48, 81] (by decide +kernel), List.forall_mem_append.mpr ⟨twX90, List.forall_mem_append.mpr ⟨twX9_oldSound, tw_nil⟩⟩⟩⟩
set_option maxRecDepth 20000 in
theorem twX9_strangeOf : ∀ w ∈ wsX9_strangeOf, w ∈ lw_tbl := List.forall_mem_cons.mpr ⟨List.mem_of_getElem? (i := 1143) (by decide +kernel), List.forall_mem_append.mpr ⟨mem_r _ [886, 887, 1087, 1089, 40, 81, 1144, 1146, 51] (by decide +kernel), List.forall_mem_append.mpr ⟨twX90, List.forall_mem_append.mpr ⟨twX9_isRebuilt, List.forall_mem_append.mpr ⟨twX9_lawAt, tw_nil⟩⟩⟩⟩⟩
set_option maxRecDepth 20000 in
theorem twX9_strangeAll : ∀ w ∈ wsX9_strangeAll, w ∈ lw_tbl := List.forall_mem_cons.mpr ⟨List.mem_of_getElem? (i := 1175) (by decide +kernel), List.forall_mem_append.mpr ⟨mem_r _ [883, 1140, 1142, 50, 81] (by decide +kernel), List.forall_mem_append.mpr ⟨twX90, List.forall_mem_append.mpr ⟨twX9_strangeOf, tw_nil⟩⟩⟩⟩
set_option maxRecDepth 20000 in
theorem twX9_isBorrowed : ∀ w ∈ wsX9_isBorrowed, w ∈ lw_tbl := List.forall_mem_cons.mpr ⟨List.mem_of_getElem? (i := 1183) (by decide +kernel), List.forall_mem_append.mpr ⟨mem_r _ [886, 1140, 1142, 50, 81] (by decide +kernel), List.forall_mem_append.mpr ⟨twX90, List.forall_mem_append.mpr ⟨twX9_strangeOf, tw_nil⟩⟩⟩⟩
set_option maxRecDepth 20000 in
theorem twX9_borrowed : ∀ w ∈ wsX9_borrowed, w ∈ lw_tbl := List.forall_mem_cons.mpr ⟨List.mem_of_getElem? (i := 1179) (by decide +kernel), List.forall_mem_append.mpr ⟨mem_r _ [883, 1180, 1182, 57, 81] (by decide +kernel), List.forall_mem_append.mpr ⟨twX90, List.forall_mem_append.mpr ⟨twX9_isBorrowed, tw_nil⟩⟩⟩⟩
set_option maxRecDepth 20000 in
theorem twX9_sortsBy : ∀ w ∈ wsX9_sortsBy, w ∈ lw_tbl := List.forall_mem_cons.mpr ⟨List.mem_of_getElem? (i := 1190) (by decide +kernel), List.forall_mem_append.mpr ⟨tw_nil, tw_nil⟩⟩
set_option maxRecDepth 20000 in
theorem twX9_sortsOf : ∀ w ∈ wsX9_sortsOf, w ∈ lw_tbl := List.forall_mem_cons.mpr ⟨List.mem_of_getElem? (i := 1187) (by decide +kernel), List.forall_mem_append.mpr ⟨mem_r _ [901, 902, 1188, 1189, 81] (by decide +kernel), List.forall_mem_append.mpr ⟨twX90, List.forall_mem_append.mpr ⟨twX9_sortsBy, tw_nil⟩⟩⟩⟩
set_option maxRecDepth 20000 in
theorem twX9_ones : ∀ w ∈ wsX9_ones, w ∈ lw_tbl := List.forall_mem_cons.mpr ⟨List.mem_of_getElem? (i := 1197) (by decide +kernel), List.forall_mem_append.mpr ⟨tw_nil, tw_nil⟩⟩
set_option maxRecDepth 20000 in
theorem twX9_askOf : ∀ w ∈ wsX9_askOf, w ∈ lw_tbl := List.forall_mem_cons.mpr ⟨List.mem_of_getElem? (i := 1194) (by decide +kernel), List.forall_mem_append.mpr ⟨mem_r _ [1184, 1186, 58, 81, 1188, 1189, 1195, 1196] (by decide +kernel), List.forall_mem_append.mpr ⟨twX9_sortsOf, List.forall_mem_append.mpr ⟨twX9_sortsBy, List.forall_mem_append.mpr ⟨twX9_ones, tw_nil⟩⟩⟩⟩⟩
set_option maxRecDepth 20000 in
theorem twX9_tellSet : ∀ w ∈ wsX9_tellSet, w ∈ lw_tbl := List.forall_mem_cons.mpr ⟨List.mem_of_getElem? (i := 1171) (by decide +kernel), List.forall_mem_append.mpr ⟨mem_r _ [885, 886, 893, 1079, 1081, 38, 81, 1172, 1174, 55, 1176, 1178, 56, 1184, 1186, 58, 1191, 1193, 59] (by decide +kernel), List.forall_mem_append.mpr ⟨twX90, List.forall_mem_append.mpr ⟨twX9_freshen, List.forall_mem_append.mpr ⟨twX9_strangeAll, List.forall_mem_append.mpr ⟨twX9_borrowed, List.forall_mem_append.mpr ⟨twX9_sortsOf, List.forall_mem_append.mpr ⟨twX9_askOf, tw_nil⟩⟩⟩⟩⟩⟩⟩⟩
set_option maxRecDepth 20000 in
theorem twX9_set : ∀ w ∈ wsX9_set, w ∈ lw_tbl := List.forall_mem_cons.mpr ⟨List.mem_of_getElem? (i := 1167) (by decide +kernel), List.forall_mem_append.mpr ⟨mem_r _ [1136, 1138, 49, 81, 1168, 1170, 54] (by decide +kernel), List.forall_mem_append.mpr ⟨twX9_isSet, List.forall_mem_append.mpr ⟨twX9_tellSet, tw_nil⟩⟩⟩⟩
set_option maxRecDepth 20000 in
theorem twX9_as : ∀ w ∈ wsX9_as, w ∈ lw_tbl := List.forall_mem_cons.mpr ⟨List.mem_of_getElem? (i := 1201) (by decide +kernel), List.forall_mem_append.mpr ⟨mem_r _ [1202, 885, 1136, 1138, 49, 81, 1001, 1002] (by decide +kernel), List.forall_mem_append.mpr ⟨twX90, List.forall_mem_append.mpr ⟨twX9_isSet, List.forall_mem_append.mpr ⟨twX9_in, tw_nil⟩⟩⟩⟩⟩
set_option maxRecDepth 20000 in
theorem twX9_sound : ∀ w ∈ wsX9_sound, w ∈ lw_tbl := List.forall_mem_cons.mpr ⟨List.mem_of_getElem? (i := 1206) (by decide +kernel), List.forall_mem_append.mpr ⟨mem_r _ [883, 892, 1152, 1154, 52, 81, 1099, 1101, 43, 1001, 1002, 1079, 1081, 38] (by decide +kernel), List.forall_mem_append.mpr ⟨twX90, List.forall_mem_append.mpr ⟨twX9_isPlace, List.forall_mem_append.mpr ⟨twX9_nodesBy, List.forall_mem_append.mpr ⟨twX9_in, List.forall_mem_append.mpr ⟨twX9_freshen, tw_nil⟩⟩⟩⟩⟩⟩⟩
set_option maxRecDepth 20000 in
theorem twX9_strange : ∀ w ∈ wsX9_strange, w ∈ lw_tbl := List.forall_mem_cons.mpr ⟨List.mem_of_getElem? (i := 1135) (by decide +kernel), List.forall_mem_append.mpr ⟨mem_r _ [1136, 1138, 49, 81, 1074, 1076, 37, 1087, 1089, 40, 1079, 1081, 38, 1140, 1142, 50] (by decide +kernel), List.forall_mem_append.mpr ⟨twX9_isSet, List.forall_mem_append.mpr ⟨twX9_isTongue, List.forall_mem_append.mpr ⟨twX9_isRebuilt, List.forall_mem_append.mpr ⟨twX9_freshen, List.forall_mem_append.mpr ⟨twX9_strangeOf, tw_nil⟩⟩⟩⟩⟩⟩⟩
set_option maxRecDepth 20000 in
theorem twX9_say : ∀ w ∈ wsX9_say, w ∈ lw_tbl := List.forall_mem_cons.mpr ⟨List.mem_of_getElem? (i := 1151) (by decide +kernel), List.forall_mem_append.mpr ⟨mem_r _ [1152, 1154, 52, 81, 1074, 1076, 37, 1087, 1089, 40, 1079, 1081, 38, 1144, 1146, 51, 1128, 1130, 48] (by decide +kernel), List.forall_mem_append.mpr ⟨twX9_isPlace, List.forall_mem_append.mpr ⟨twX9_isTongue, List.forall_mem_append.mpr ⟨twX9_isRebuilt, List.forall_mem_append.mpr ⟨twX9_freshen, List.forall_mem_append.mpr ⟨twX9_lawAt, List.forall_mem_append.mpr ⟨twX9_oldSound, tw_nil⟩⟩⟩⟩⟩⟩⟩⟩
set_option maxRecDepth 20000 in
theorem twX9_strip : ∀ w ∈ wsX9_strip, w ∈ lw_tbl := List.forall_mem_cons.mpr ⟨List.mem_of_getElem? (i := 1163) (by decide +kernel), List.forall_mem_append.mpr ⟨mem_r _ [886, 887] (by decide +kernel), List.forall_mem_append.mpr ⟨twX90, tw_nil⟩⟩⟩
set_option maxRecDepth 20000 in
theorem twX9_line : ∀ w ∈ wsX9_line, w ∈ lw_tbl := List.forall_mem_cons.mpr ⟨List.mem_of_getElem? (i := 1159) (by decide +kernel), List.forall_mem_append.mpr ⟨mem_r _ [898, 899, 900, 1136, 1138, 49, 81, 1074, 1076, 37, 1160, 1162, 53, 1063, 1064] (by decide +kernel), List.forall_mem_append.mpr ⟨twX90, List.forall_mem_append.mpr ⟨twX9_isSet, List.forall_mem_append.mpr ⟨twX9_isTongue, List.forall_mem_append.mpr ⟨twX9_strip, List.forall_mem_append.mpr ⟨twX9_costOf, tw_nil⟩⟩⟩⟩⟩⟩⟩
set_option maxRecDepth 20000 in
theorem twX9_isOnlyNone : ∀ w ∈ wsX9_isOnlyNone, w ∈ lw_tbl := List.forall_mem_cons.mpr ⟨List.mem_of_getElem? (i := 1214) (by decide +kernel), List.forall_mem_append.mpr ⟨mem_r _ [886, 887] (by decide +kernel), List.forall_mem_append.mpr ⟨twX90, tw_nil⟩⟩⟩
set_option maxRecDepth 20000 in
theorem twX9_put : ∀ w ∈ wsX9_put, w ∈ lw_tbl := List.forall_mem_cons.mpr ⟨List.mem_of_getElem? (i := 1210) (by decide +kernel), List.forall_mem_append.mpr ⟨mem_r _ [1062, 887, 888, 1152, 1154, 52, 81, 1074, 1076, 37, 1001, 1002, 1211, 1213, 60] (by decide +kernel), List.forall_mem_append.mpr ⟨twX90, List.forall_mem_append.mpr ⟨twX9_isPlace, List.forall_mem_append.mpr ⟨twX9_isTongue, List.forall_mem_append.mpr ⟨twX9_in, List.forall_mem_append.mpr ⟨twX9_isOnlyNone, tw_nil⟩⟩⟩⟩⟩⟩⟩
set_option maxRecDepth 20000 in
theorem twX9_layLike : ∀ w ∈ wsX9_layLike, w ∈ lw_tbl := List.forall_mem_cons.mpr ⟨List.mem_of_getElem? (i := 1222) (by decide +kernel), List.forall_mem_append.mpr ⟨mem_r _ [885, 886, 887] (by decide +kernel), List.forall_mem_append.mpr ⟨twX90, tw_nil⟩⟩⟩
set_option maxRecDepth 20000 in
theorem twX9_copy : ∀ w ∈ wsX9_copy, w ∈ lw_tbl := List.forall_mem_cons.mpr ⟨List.mem_of_getElem? (i := 1218) (by decide +kernel), List.forall_mem_append.mpr ⟨mem_r _ [882, 888, 1136, 1138, 49, 81, 1219, 1221, 61] (by decide +kernel), List.forall_mem_append.mpr ⟨twX90, List.forall_mem_append.mpr ⟨twX9_isSet, List.forall_mem_append.mpr ⟨twX9_layLike, tw_nil⟩⟩⟩⟩⟩
set_option maxRecDepth 20000 in
theorem twX9_take : ∀ w ∈ wsX9_take, w ∈ lw_tbl := List.forall_mem_cons.mpr ⟨List.mem_of_getElem? (i := 1226) (by decide +kernel), List.forall_mem_append.mpr ⟨mem_r _ [882, 888, 1136, 1138, 49, 81, 1219, 1221, 61] (by decide +kernel), List.forall_mem_append.mpr ⟨twX90, List.forall_mem_append.mpr ⟨twX9_isSet, List.forall_mem_append.mpr ⟨twX9_layLike, tw_nil⟩⟩⟩⟩⟩
set_option maxRecDepth 20000 in
theorem twX9_change : ∀ w ∈ wsX9_change, w ∈ lw_tbl := List.forall_mem_cons.mpr ⟨List.mem_of_getElem? (i := 1230) (by decide +kernel), List.forall_mem_append.mpr ⟨mem_r _ [1202, 885, 888, 1136, 1138, 49, 81, 1001, 1002] (by decide +kernel), List.forall_mem_append.mpr ⟨twX90, List.forall_mem_append.mpr ⟨twX9_isSet, List.forall_mem_append.mpr ⟨twX9_in, tw_nil⟩⟩⟩⟩⟩
set_option maxRecDepth 20000 in
theorem twX9_law : ∀ w ∈ wsX9_law, w ∈ lw_tbl := List.forall_mem_cons.mpr ⟨List.mem_of_getElem? (i := 1073) (by decide +kernel), List.forall_mem_append.mpr ⟨mem_r _ [1062, 1078, 896, 895, 894, 1074, 1076, 37, 81, 1001, 1002, 1079, 1081, 38] (by decide +kernel), List.forall_mem_append.mpr ⟨twX90, List.forall_mem_append.mpr ⟨twX9_isTongue, List.forall_mem_append.mpr ⟨twX9_in, List.forall_mem_append.mpr ⟨twX9_freshen, tw_nil⟩⟩⟩⟩⟩⟩
set_option maxRecDepth 20000 in
theorem twX9_changesAll : ∀ w ∈ wsX9_changesAll, w ∈ lw_tbl := List.forall_mem_cons.mpr ⟨List.mem_of_getElem? (i := 1238) (by decide +kernel), List.forall_mem_append.mpr ⟨mem_r _ [882, 893] (by decide +kernel), List.forall_mem_append.mpr ⟨twX90, tw_nil⟩⟩⟩
set_option maxRecDepth 20000 in
theorem twX9_swap : ∀ w ∈ wsX9_swap, w ∈ lw_tbl := List.forall_mem_cons.mpr ⟨List.mem_of_getElem? (i := 1234) (by decide +kernel), List.forall_mem_append.mpr ⟨mem_r _ [882, 888, 887, 1074, 1076, 37, 81, 1079, 1081, 38, 1235, 1237, 62] (by decide +kernel), List.forall_mem_append.mpr ⟨twX90, List.forall_mem_append.mpr ⟨twX9_isTongue, List.forall_mem_append.mpr ⟨twX9_freshen, List.forall_mem_append.mpr ⟨twX9_changesAll, tw_nil⟩⟩⟩⟩⟩⟩
set_option maxRecDepth 20000 in
theorem twX9_see : ∀ w ∈ wsX9_see, w ∈ lw_tbl := List.forall_mem_cons.mpr ⟨List.mem_of_getElem? (i := 1242) (by decide +kernel), List.forall_mem_append.mpr ⟨mem_r _ [1069, 901, 902, 1136, 1138, 49, 81, 1001, 1002] (by decide +kernel), List.forall_mem_append.mpr ⟨twX90, List.forall_mem_append.mpr ⟨twX9_isSet, List.forall_mem_append.mpr ⟨twX9_in, tw_nil⟩⟩⟩⟩⟩
set_option maxRecDepth 20000 in
theorem twX9_forget : ∀ w ∈ wsX9_forget, w ∈ lw_tbl := List.forall_mem_cons.mpr ⟨List.mem_of_getElem? (i := 1246) (by decide +kernel), List.forall_mem_append.mpr ⟨mem_r _ [901] (by decide +kernel), List.forall_mem_append.mpr ⟨twX90, tw_nil⟩⟩⟩
set_option maxRecDepth 20000 in
theorem twX9_lacks : ∀ w ∈ wsX9_lacks, w ∈ lw_tbl := List.forall_mem_cons.mpr ⟨List.mem_of_getElem? (i := 1267) (by decide +kernel), List.forall_mem_append.mpr ⟨mem_r _ [882] (by decide +kernel), List.forall_mem_append.mpr ⟨twX90, tw_nil⟩⟩⟩
set_option maxRecDepth 20000 in
theorem twX9_copyRow : ∀ w ∈ wsX9_copyRow, w ∈ lw_tbl := List.forall_mem_cons.mpr ⟨List.mem_of_getElem? (i := 1270) (by decide +kernel), List.forall_mem_append.mpr ⟨tw_nil, tw_nil⟩⟩
set_option maxRecDepth 20000 in
theorem twX9_image : ∀ w ∈ wsX9_image, w ∈ lw_tbl := List.forall_mem_cons.mpr ⟨List.mem_of_getElem? (i := 1263) (by decide +kernel), List.forall_mem_append.mpr ⟨mem_r _ [885, 908, 886, 909, 887, 910, 902, 911, 882, 905, 883, 906, 901, 907, 884, 904, 1264, 1266, 64, 81, 1268, 1269] (by decide +kernel), List.forall_mem_append.mpr ⟨twX90, List.forall_mem_append.mpr ⟨twX9_lacks, List.forall_mem_append.mpr ⟨twX9_copyRow, tw_nil⟩⟩⟩⟩⟩
set_option maxRecDepth 20000 in
theorem twX9_restore : ∀ w ∈ wsX9_restore, w ∈ lw_tbl := List.forall_mem_cons.mpr ⟨List.mem_of_getElem? (i := 1274) (by decide +kernel), List.forall_mem_append.mpr ⟨mem_r _ [904, 884, 908, 885, 909, 886, 910, 887, 911, 902, 905, 882, 906, 883, 907, 901, 888, 1268, 1269, 81] (by decide +kernel), List.forall_mem_append.mpr ⟨twX90, List.forall_mem_append.mpr ⟨twX9_copyRow, tw_nil⟩⟩⟩⟩
set_option maxRecDepth 20000 in
theorem twX9_cost : ∀ w ∈ wsX9_cost, w ∈ lw_tbl := List.forall_mem_cons.mpr ⟨List.mem_of_getElem? (i := 1061) (by decide +kernel), List.forall_mem_append.mpr ⟨mem_r _ [1062, 1001, 1002, 81, 1063, 1064] (by decide +kernel), List.forall_mem_append.mpr ⟨twX9_in, List.forall_mem_append.mpr ⟨twX9_costOf, tw_nil⟩⟩⟩⟩
set_option maxRecDepth 20000 in
theorem twX9_sumLaws : ∀ w ∈ wsX9_sumLaws, w ∈ lw_tbl := List.forall_mem_cons.mpr ⟨List.mem_of_getElem? (i := 1290) (by decide +kernel), List.forall_mem_append.mpr ⟨mem_r _ [883, 896, 894] (by decide +kernel), List.forall_mem_append.mpr ⟨twX90, tw_nil⟩⟩⟩
set_option maxRecDepth 20000 in
theorem twX9_borrowedAll : ∀ w ∈ wsX9_borrowedAll, w ∈ lw_tbl := List.forall_mem_cons.mpr ⟨List.mem_of_getElem? (i := 1294) (by decide +kernel), List.forall_mem_append.mpr ⟨mem_r _ [882, 1176, 1178, 56, 81, 1195, 1196] (by decide +kernel), List.forall_mem_append.mpr ⟨twX90, List.forall_mem_append.mpr ⟨twX9_borrowed, List.forall_mem_append.mpr ⟨twX9_ones, tw_nil⟩⟩⟩⟩⟩
set_option maxRecDepth 20000 in
theorem twX9_countSets : ∀ w ∈ wsX9_countSets, w ∈ lw_tbl := List.forall_mem_cons.mpr ⟨List.mem_of_getElem? (i := 1286) (by decide +kernel), List.forall_mem_append.mpr ⟨mem_r _ [883, 1264, 1266, 64, 81, 1079, 1081, 38, 1099, 1101, 43, 1235, 1237, 62, 1287, 1289, 67, 1291, 1293, 68] (by decide +kernel), List.forall_mem_append.mpr ⟨twX90, List.forall_mem_append.mpr ⟨twX9_lacks, List.forall_mem_append.mpr ⟨twX9_freshen, List.forall_mem_append.mpr ⟨twX9_nodesBy, List.forall_mem_append.mpr ⟨twX9_changesAll, List.forall_mem_append.mpr ⟨twX9_sumLaws, List.forall_mem_append.mpr ⟨twX9_borrowedAll, tw_nil⟩⟩⟩⟩⟩⟩⟩⟩⟩
set_option maxRecDepth 20000 in
theorem twX9_countOf : ∀ w ∈ wsX9_countOf, w ∈ lw_tbl := List.forall_mem_cons.mpr ⟨List.mem_of_getElem? (i := 1282) (by decide +kernel), List.forall_mem_append.mpr ⟨mem_r _ [882, 901, 873, 884, 1283, 1285, 66, 81] (by decide +kernel), List.forall_mem_append.mpr ⟨twX90, List.forall_mem_append.mpr ⟨twX9_countSets, tw_nil⟩⟩⟩⟩
set_option maxRecDepth 20000 in
theorem twX9_count : ∀ w ∈ wsX9_count, w ∈ lw_tbl := List.forall_mem_cons.mpr ⟨List.mem_of_getElem? (i := 1278) (by decide +kernel), List.forall_mem_append.mpr ⟨mem_r _ [1279, 1281, 65, 81] (by decide +kernel), List.forall_mem_append.mpr ⟨twX9_countOf, tw_nil⟩⟩⟩
set_option maxRecDepth 20000 in
theorem twX9_note : ∀ w ∈ wsX9_note, w ∈ lw_tbl := List.forall_mem_cons.mpr ⟨List.mem_of_getElem? (i := 1307) (by decide +kernel), List.forall_mem_append.mpr ⟨mem_r _ [1308, 912] (by decide +kernel), List.forall_mem_append.mpr ⟨twX90, tw_nil⟩⟩⟩
set_option maxRecDepth 20000 in
theorem twX9_saySet : ∀ w ∈ wsX9_saySet, w ∈ lw_tbl := List.forall_mem_cons.mpr ⟨List.mem_of_getElem? (i := 1303) (by decide +kernel), List.forall_mem_append.mpr ⟨mem_r _ [886, 883, 892, 1099, 1101, 43, 81, 1304, 1306, 70, 1168, 1170, 54] (by decide +kernel), List.forall_mem_append.mpr ⟨twX90, List.forall_mem_append.mpr ⟨twX9_nodesBy, List.forall_mem_append.mpr ⟨twX9_note, List.forall_mem_append.mpr ⟨twX9_tellSet, tw_nil⟩⟩⟩⟩⟩⟩
set_option maxRecDepth 20000 in
theorem twX9_digest : ∀ w ∈ wsX9_digest, w ∈ lw_tbl := List.forall_mem_cons.mpr ⟨List.mem_of_getElem? (i := 1298) (by decide +kernel), List.forall_mem_append.mpr ⟨mem_r _ [1299, 912, 882, 883, 873, 872, 894, 895, 896, 1279, 1281, 65, 81, 1304, 1306, 70, 1300, 1302, 69] (by decide +kernel), List.forall_mem_append.mpr ⟨twX90, List.forall_mem_append.mpr ⟨twX9_countOf, List.forall_mem_append.mpr ⟨twX9_note, List.forall_mem_append.mpr ⟨twX9_saySet, tw_nil⟩⟩⟩⟩⟩⟩
set_option maxRecDepth 20000 in
theorem twL_law : ∀ w ∈ wsL_law, w ∈ lw_tbl := List.forall_mem_append.mpr ⟨mem_r _ [91, 92, 72, 93, 94, 866, 867, 81, 868, 869, 352, 353, 354, 996, 997, 998, 356, 357, 358, 1004, 1005, 1006, 360, 361, 362, 1008, 1009, 1010, 500, 501, 502, 1050, 1051, 1052, 519, 520, 521, 1164, 1165, 1166, 663, 664, 665, 1198, 1199, 1200, 673, 674, 675, 1203, 1204, 1205, 693, 694, 695, 1070, 1071, 1072, 709, 710, 711, 1132, 1133, 1134, 713, 714, 715, 1148, 1149, 1150, 719, 720, 721, 1156, 1157, 1158, 740, 741, 742, 1058, 1059, 1060, 745, 746, 747, 1207, 1208, 1209, 754, 755, 756, 1215, 1216, 1217, 762, 763, 764, 1223, 1224, 1225, 775, 776, 777, 1227, 1228, 1229, 779, 780, 781, 1231, 1232, 1233, 787, 788, 789, 1239, 1240, 1241, 795, 796, 797, 1243, 1244, 1245, 799, 800, 801, 1247, 1248, 1249, 822, 823, 824, 1260, 1261, 1262, 831, 832, 833, 1271, 1272, 1273, 835, 836, 837, 1275, 1276, 1277, 849, 850, 851, 1295, 1296, 1297] (by decide +kernel), List.forall_mem_append.mpr ⟨twX80, List.forall_mem_append.mpr ⟨twX90, List.forall_mem_append.mpr ⟨twX8_letter, List.forall_mem_append.mpr ⟨twX9_letter, List.forall_mem_append.mpr ⟨twX8_blank, List.forall_mem_append.mpr ⟨twX9_blank, List.forall_mem_append.mpr ⟨twX8_fault, List.forall_mem_append.mpr ⟨twX9_fault, List.forall_mem_append.mpr ⟨twX8_sets, List.forall_mem_append.mpr ⟨twX9_sets, List.forall_mem_append.mpr ⟨twX8_set, List.forall_mem_append.mpr ⟨twX9_set, List.forall_mem_append.mpr ⟨twX8_as, List.forall_mem_append.mpr ⟨twX9_as, List.forall_mem_append.mpr ⟨twX8_sound, List.forall_mem_append.mpr ⟨twX9_sound, List.forall_mem_append.mpr ⟨twX8_law, List.forall_mem_append.mpr ⟨twX9_law, List.forall_mem_append.mpr ⟨twX8_strange, List.forall_mem_append.mpr ⟨twX9_strange, List.forall_mem_append.mpr ⟨twX8_say, List.forall_mem_append.mpr ⟨twX9_say, List.forall_mem_append.mpr ⟨twX8_line, List.forall_mem_append.mpr ⟨twX9_line, List.forall_mem_append.mpr ⟨twX8_cost, List.forall_mem_append.mpr ⟨twX9_cost, List.forall_mem_append.mpr ⟨twX8_put, List.forall_mem_append.mpr ⟨twX9_put, List.forall_mem_append.mpr ⟨twX8_copy, List.forall_mem_append.mpr ⟨twX9_copy, List.forall_mem_append.mpr ⟨twX8_take, List.forall_mem_append.mpr ⟨twX9_take, List.forall_mem_append.mpr ⟨twX8_change, List.forall_mem_append.mpr ⟨twX9_change, List.forall_mem_append.mpr ⟨twX8_swap, List.forall_mem_append.mpr ⟨twX9_swap, List.forall_mem_append.mpr ⟨twX8_see, List.forall_mem_append.mpr ⟨twX9_see, List.forall_mem_append.mpr ⟨twX8_forget, List.forall_mem_append.mpr ⟨twX9_forget, List.forall_mem_append.mpr ⟨twX8_drawn, List.forall_mem_append.mpr ⟨twX9_drawn, List.forall_mem_append.mpr ⟨twX8_image, List.forall_mem_append.mpr ⟨twX9_image, List.forall_mem_append.mpr ⟨twX8_restore, List.forall_mem_append.mpr ⟨twX9_restore, List.forall_mem_append.mpr ⟨twX8_count, List.forall_mem_append.mpr ⟨twX9_count, List.forall_mem_append.mpr ⟨twX8_digest, List.forall_mem_append.mpr ⟨twX9_digest, List.forall_mem_append.mpr ⟨twX8_init, List.forall_mem_append.mpr ⟨twX9_init, tw_nil⟩⟩⟩⟩⟩⟩⟩⟩⟩⟩⟩⟩⟩⟩⟩⟩⟩⟩⟩⟩⟩⟩⟩⟩⟩⟩⟩⟩⟩⟩⟩⟩⟩⟩⟩⟩⟩⟩⟩⟩⟩⟩⟩⟩⟩⟩⟩⟩⟩⟩⟩⟩⟩
theorem wsL_law_in : ∀ w ∈ wsL_law, w ∈ lw_tbl := twL_law

theorem mem_r {big : List Cond} (ws : List Cond) (ps : List Nat) (hp : ws = ps.filterMap (fun i => big[i]?)) : ∀ w ∈ ws, w ∈ big := by
  intro w hw
  rw [hp] at hw
  obtain ⟨i, -, hi⟩ := List.mem_filterMap.mp hw
  exact List.mem_of_getElem? hi
theorem tw_nil : ∀ w ∈ ([] : List Cond), w ∈ lw_tbl := fun _ h => absurd h List.not_mem_nil
theorem tb_1 : ∀ w ∈ tables_1_1, w ∈ lw_tbl := fun w h => List.mem_append_right _ (List.mem_append_left _ h)
theorem tb_2 : ∀ w ∈ tables_1_2, w ∈ lw_tbl := fun w h => List.mem_append_right _ (List.mem_append_right _ (List.mem_append_left _ h))
theorem tb_3 : ∀ w ∈ tables_1_3, w ∈ lw_tbl := fun w h => List.mem_append_right _ (List.mem_append_right _ (List.mem_append_right _ (List.mem_append_left _ h)))
theorem tb_4 : ∀ w ∈ tables_1_4, w ∈ lw_tbl := fun w h => List.mem_append_right _ (List.mem_append_right _ (List.mem_append_right _ (List.mem_append_right _ (List.mem_append_left _ h))))
theorem tb_5 : ∀ w ∈ tables_1_5, w ∈ lw_tbl := fun w h => List.mem_append_right _ (List.mem_append_right _ (List.mem_append_right _ (List.mem_append_right _ (List.mem_append_right _ (List.mem_append_left _ h)))))
theorem tb_6 : ∀ w ∈ tables_1_6, w ∈ lw_tbl := fun w h => List.mem_append_right _ (List.mem_append_right _ (List.mem_append_right _ (List.mem_append_right _ (List.mem_append_right _ (List.mem_append_right _ h)))))
set_option maxRecDepth 20000 in
theorem twX00 : ∀ w ∈ wsX00, w ∈ lw_tbl := mem_r _ [277, 279, 281, 283, 285] (by decide +kernel)
theorem inX0 : ∀ w ∈ wsX00, w ∈ lw_tbl := twX00
set_option maxRecDepth 20000 in
theorem twX10 : ∀ w ∈ wsX10, w ∈ lw_tbl := mem_r _ [303, 305, 307, 309] (by decide +kernel)
theorem inX1 : ∀ w ∈ wsX10, w ∈ lw_tbl := twX10
set_option maxRecDepth 20000 in
theorem twX20 : ∀ w ∈ wsX20, w ∈ lw_tbl := mem_r _ [211, 213, 215, 217, 219, 221] (by decide +kernel)
theorem inX2 : ∀ w ∈ wsX20, w ∈ lw_tbl := twX20
set_option maxRecDepth 20000 in
theorem twX30 : ∀ w ∈ wsX30, w ∈ lw_tbl := mem_r _ [151, 153, 155, 157, 159, 161, 163] (by decide +kernel)
theorem inX3 : ∀ w ∈ wsX30, w ∈ lw_tbl := twX30
set_option maxRecDepth 20000 in
theorem twX40 : ∀ w ∈ wsX40, w ∈ lw_tbl := mem_r _ [179, 181, 183, 185] (by decide +kernel)
theorem inX4 : ∀ w ∈ wsX40, w ∈ lw_tbl := twX40
set_option maxRecDepth 20000 in
theorem twX50 : ∀ w ∈ wsX50, w ∈ lw_tbl := mem_r _ [131, 133, 135, 137, 139] (by decide +kernel)
theorem inX5 : ∀ w ∈ wsX50, w ∈ lw_tbl := twX50
set_option maxRecDepth 20000 in
theorem twX60 : ∀ w ∈ wsX60, w ∈ lw_tbl := mem_r _ [253, 255, 257, 259, 261, 263] (by decide +kernel)
theorem inX6 : ∀ w ∈ wsX60, w ∈ lw_tbl := twX60
set_option maxRecDepth 20000 in
theorem twX70 : ∀ w ∈ wsX70, w ∈ lw_tbl := mem_r _ [235, 237, 239] (by decide +kernel)
theorem inX7 : ∀ w ∈ wsX70, w ∈ lw_tbl := twX70
set_option maxRecDepth 20000 in
theorem twX80 : ∀ w ∈ wsX80, w ∈ lw_tbl := mem_r _ [325, 327, 329, 331, 333, 335, 337, 339, 341, 343, 345, 347, 349] (by decide +kernel)
theorem inX8 : ∀ w ∈ wsX80, w ∈ lw_tbl := twX80
set_option maxRecDepth 20000 in
theorem twX90 : ∀ w ∈ wsX90, w ∈ lw_tbl := mem_r _ [913, 915, 917, 919, 921, 923, 925, 927, 929, 931, 933, 935, 937, 939, 941, 943, 945, 947, 949, 951, 953, 955, 957, 959, 961, 963, 965, 967, 969, 971, 973, 975, 977, 979, 981, 983, 985, 987, 989, 991, 993] (by decide +kernel)
theorem inX9 : ∀ w ∈ wsX90, w ∈ lw_tbl := twX90
set_option maxRecDepth 20000 in
theorem uw_0 : (Cond.methodLink RX5 3 objectInit) ∈ lw_tbl := tb_1 _ (List.mem_of_getElem? (i := 39) (by first | rfl | decide +kernel))
set_option maxRecDepth 20000 in
theorem uw_1 : (Cond.instanceMethod objectInit) ∈ lw_tbl := tb_1 _ (List.mem_of_getElem? (i := 26) (by first | rfl | decide +kernel))
set_option maxRecDepth 20000 in
theorem uw_2 : (Cond.code objectInit ⟨#[0xb1]⟩ 1 none) ∈ lw_tbl := tb_1 _ (List.mem_of_getElem? (i := 27) (by first | rfl | decide +kernel))
set_option maxRecDepth 20000 in
theorem uw_3 : (Cond.arrayClass .int) ∈ lw_tbl := tb_1 _ (List.mem_of_getElem? (i := 71) (by first | rfl | decide +kernel))
set_option maxRecDepth 20000 in
theorem uw_4 : (Cond.fieldLink RX5 9 "SoundLaws$Stock" "kinds" "[I") ∈ lw_tbl := tb_1 _ (List.mem_of_getElem? (i := 48) (by first | rfl | decide +kernel))
set_option maxRecDepth 20000 in
theorem uw_5 : (Cond.fieldLink RX5 15 "SoundLaws$Stock" "lengths" "[I") ∈ lw_tbl := tb_1 _ (List.mem_of_getElem? (i := 52) (by first | rfl | decide +kernel))
set_option maxRecDepth 20000 in
theorem uw_6 : (Cond.fieldLink RX5 18 "SoundLaws$Stock" "words" "[I") ∈ lw_tbl := tb_1 _ (List.mem_of_getElem? (i := 56) (by first | rfl | decide +kernel))
set_option maxRecDepth 20000 in
theorem twX5_init : ∀ w ∈ wsX5_init, w ∈ lw_tbl := List.forall_mem_cons.mpr ⟨tb_1 _ (List.mem_of_getElem? (i := 38) (by first | rfl | decide +kernel)), List.forall_mem_append.mpr ⟨List.forall_mem_cons.mpr ⟨uw_0, List.forall_mem_cons.mpr ⟨uw_1, List.forall_mem_cons.mpr ⟨uw_2, List.forall_mem_cons.mpr ⟨uw_3, List.forall_mem_cons.mpr ⟨uw_4, List.forall_mem_cons.mpr ⟨uw_5, List.forall_mem_cons.mpr ⟨uw_6, tw_nil⟩⟩⟩⟩⟩⟩⟩, List.forall_mem_append.mpr ⟨twX50, tw_nil⟩⟩⟩
set_option maxRecDepth 20000 in
theorem uw_7 : (Cond.methodLink RX4 3 objectInit) ∈ lw_tbl := tb_1 _ (List.mem_of_getElem? (i := 102) (by first | rfl | decide +kernel))
set_option maxRecDepth 20000 in
theorem uw_8 : (Cond.fieldLink RX4 9 "SoundLaws$Sightings" "sets" "[I") ∈ lw_tbl := tb_1 _ (List.mem_of_getElem? (i := 105) (by first | rfl | decide +kernel))
set_option maxRecDepth 20000 in
theorem uw_9 : (Cond.fieldLink RX4 15 "SoundLaws$Sightings" "questions" "[I") ∈ lw_tbl := tb_1 _ (List.mem_of_getElem? (i := 106) (by first | rfl | decide +kernel))
set_option maxRecDepth 20000 in
theorem uw_10 : (Cond.arrayClass .boolean) ∈ lw_tbl := tb_1 _ (List.mem_of_getElem? (i := 117) (by first | rfl | decide +kernel))
set_option maxRecDepth 20000 in
theorem uw_11 : (Cond.fieldLink RX4 18 "SoundLaws$Sightings" "answers" "[Z") ∈ lw_tbl := tb_1 _ (List.mem_of_getElem? (i := 107) (by first | rfl | decide +kernel))
set_option maxRecDepth 20000 in
theorem twX4_init : ∀ w ∈ wsX4_init, w ∈ lw_tbl := List.forall_mem_cons.mpr ⟨tb_1 _ (List.mem_of_getElem? (i := 101) (by first | rfl | decide +kernel)), List.forall_mem_append.mpr ⟨List.forall_mem_cons.mpr ⟨uw_7, List.forall_mem_cons.mpr ⟨uw_1, List.forall_mem_cons.mpr ⟨uw_2, List.forall_mem_cons.mpr ⟨uw_3, List.forall_mem_cons.mpr ⟨uw_8, List.forall_mem_cons.mpr ⟨uw_9, List.forall_mem_cons.mpr ⟨uw_10, List.forall_mem_cons.mpr ⟨uw_11, tw_nil⟩⟩⟩⟩⟩⟩⟩⟩, List.forall_mem_append.mpr ⟨twX40, tw_nil⟩⟩⟩
set_option maxRecDepth 20000 in
theorem uw_12 : (Cond.methodLink RX7 3 objectInit) ∈ lw_tbl := tb_1 _ (List.mem_of_getElem? (i := 158) (by first | rfl | decide +kernel))
set_option maxRecDepth 20000 in
theorem uw_13 : (Cond.fieldLink RX7 9 "SoundLaws$Tree" "sounds" "[I") ∈ lw_tbl := tb_1 _ (List.mem_of_getElem? (i := 160) (by first | rfl | decide +kernel))
set_option maxRecDepth 20000 in
theorem uw_14 : (Cond.fieldLink RX7 15 "SoundLaws$Tree" "least" "[I") ∈ lw_tbl := tb_1 _ (List.mem_of_getElem? (i := 163) (by first | rfl | decide +kernel))
set_option maxRecDepth 20000 in
theorem twX7_init : ∀ w ∈ wsX7_init, w ∈ lw_tbl := List.forall_mem_cons.mpr ⟨tb_1 _ (List.mem_of_getElem? (i := 157) (by first | rfl | decide +kernel)), List.forall_mem_append.mpr ⟨List.forall_mem_cons.mpr ⟨uw_12, List.forall_mem_cons.mpr ⟨uw_1, List.forall_mem_cons.mpr ⟨uw_2, List.forall_mem_cons.mpr ⟨uw_3, List.forall_mem_cons.mpr ⟨uw_13, List.forall_mem_cons.mpr ⟨uw_14, tw_nil⟩⟩⟩⟩⟩⟩, List.forall_mem_append.mpr ⟨twX70, tw_nil⟩⟩⟩
set_option maxRecDepth 20000 in
theorem uw_15 : (Cond.methodLink RX0 3 objectInit) ∈ lw_tbl := tb_1 _ (List.mem_of_getElem? (i := 200) (by first | rfl | decide +kernel))
set_option maxRecDepth 20000 in
theorem uw_16 : (Cond.fieldLink RX0 9 "SoundLaws$Aligner" "first" "[I") ∈ lw_tbl := tb_1 _ (List.mem_of_getElem? (i := 201) (by first | rfl | decide +kernel))
set_option maxRecDepth 20000 in
theorem uw_17 : (Cond.fieldLink RX0 15 "SoundLaws$Aligner" "second" "[I") ∈ lw_tbl := tb_1 _ (List.mem_of_getElem? (i := 202) (by first | rfl | decide +kernel))
set_option maxRecDepth 20000 in
theorem uw_18 : (Cond.fieldLink RX0 18 "SoundLaws$Aligner" "row" "[I") ∈ lw_tbl := tb_1 _ (List.mem_of_getElem? (i := 205) (by first | rfl | decide +kernel))
set_option maxRecDepth 20000 in
theorem twX0_init : ∀ w ∈ wsX0_init, w ∈ lw_tbl := List.forall_mem_cons.mpr ⟨tb_1 _ (List.mem_of_getElem? (i := 199) (by first | rfl | decide +kernel)), List.forall_mem_append.mpr ⟨List.forall_mem_cons.mpr ⟨uw_15, List.forall_mem_cons.mpr ⟨uw_1, List.forall_mem_cons.mpr ⟨uw_2, List.forall_mem_cons.mpr ⟨uw_3, List.forall_mem_cons.mpr ⟨uw_16, List.forall_mem_cons.mpr ⟨uw_17, List.forall_mem_cons.mpr ⟨uw_18, tw_nil⟩⟩⟩⟩⟩⟩⟩, List.forall_mem_append.mpr ⟨twX00, tw_nil⟩⟩⟩
set_option maxRecDepth 20000 in
theorem uw_19 : (Cond.methodLink RX2 3 objectInit) ∈ lw_tbl := tb_1 _ (List.mem_of_getElem? (i := 129) (by first | rfl | decide +kernel))
set_option maxRecDepth 20000 in
theorem uw_20 : (Cond.fieldLink RX2 9 "SoundLaws$Laws" "becomes" "[I") ∈ lw_tbl := tb_1 _ (List.mem_of_getElem? (i := 130) (by first | rfl | decide +kernel))
set_option maxRecDepth 20000 in
theorem uw_21 : (Cond.fieldLink RX2 15 "SoundLaws$Laws" "follows" "[I") ∈ lw_tbl := tb_1 _ (List.mem_of_getElem? (i := 133) (by first | rfl | decide +kernel))
set_option maxRecDepth 20000 in
theorem uw_22 : (Cond.fieldLink RX2 18 "SoundLaws$Laws" "exceptions" "[I") ∈ lw_tbl := tb_1 _ (List.mem_of_getElem? (i := 134) (by first | rfl | decide +kernel))
set_option maxRecDepth 20000 in
theorem uw_23 : (Cond.fieldLink RX2 21 "SoundLaws$Laws" "weights" "[I") ∈ lw_tbl := tb_1 _ (List.mem_of_getElem? (i := 139) (by first | rfl | decide +kernel))
set_option maxRecDepth 20000 in
theorem twX2_init : ∀ w ∈ wsX2_init, w ∈ lw_tbl := List.forall_mem_cons.mpr ⟨tb_1 _ (List.mem_of_getElem? (i := 128) (by first | rfl | decide +kernel)), List.forall_mem_append.mpr ⟨List.forall_mem_cons.mpr ⟨uw_19, List.forall_mem_cons.mpr ⟨uw_1, List.forall_mem_cons.mpr ⟨uw_2, List.forall_mem_cons.mpr ⟨uw_3, List.forall_mem_cons.mpr ⟨uw_20, List.forall_mem_cons.mpr ⟨uw_21, List.forall_mem_cons.mpr ⟨uw_22, List.forall_mem_cons.mpr ⟨uw_23, tw_nil⟩⟩⟩⟩⟩⟩⟩⟩, List.forall_mem_append.mpr ⟨twX20, tw_nil⟩⟩⟩
set_option maxRecDepth 20000 in
theorem uw_24 : (Cond.methodLink RX1 3 objectInit) ∈ lw_tbl := tb_1 _ (List.mem_of_getElem? (i := 222) (by first | rfl | decide +kernel))
set_option maxRecDepth 20000 in
theorem uw_25 : (Cond.classLink RX1 9 RX7) ∈ lw_tbl := tb_1 _ (List.mem_of_getElem? (i := 223) (by first | rfl | decide +kernel))
set_option maxRecDepth 20000 in
theorem uw_26 : (Cond.instantiable RX7 3) ∈ lw_tbl := tb_1 _ (List.mem_of_getElem? (i := 154) (by first | rfl | decide +kernel))
set_option maxRecDepth 20000 in
theorem uw_27 : (Cond.initialized RX7) ∈ lw_tbl := tb_1 _ (List.mem_of_getElem? (i := 7) (by first | rfl | decide +kernel))
set_option maxRecDepth 20000 in
theorem uw_28 : (Cond.instanceMethod yX7_init) ∈ lw_tbl := tb_1 _ (List.mem_of_getElem? (i := 156) (by first | rfl | decide +kernel))
set_option maxRecDepth 20000 in
theorem uw_29 : (Cond.fieldLink RX1 12 "SoundLaws$Draws" "tree" "LSoundLaws$Tree;") ∈ lw_tbl := tb_1 _ (List.mem_of_getElem? (i := 231) (by first | rfl | decide +kernel))
set_option maxRecDepth 20000 in
theorem twX1_init : ∀ w ∈ wsX1_init, w ∈ lw_tbl := List.forall_mem_cons.mpr ⟨tb_1 _ (List.mem_of_getElem? (i := 221) (by first | rfl | decide +kernel)), List.forall_mem_append.mpr ⟨List.forall_mem_cons.mpr ⟨uw_24, List.forall_mem_cons.mpr ⟨uw_1, List.forall_mem_cons.mpr ⟨uw_2, List.forall_mem_cons.mpr ⟨uw_25, List.forall_mem_cons.mpr ⟨uw_26, List.forall_mem_cons.mpr ⟨uw_27, List.forall_mem_cons.mpr ⟨uw_28, List.forall_mem_cons.mpr ⟨uw_29, tw_nil⟩⟩⟩⟩⟩⟩⟩⟩, List.forall_mem_append.mpr ⟨twX70, List.forall_mem_append.mpr ⟨twX10, List.forall_mem_append.mpr ⟨twX7_init, tw_nil⟩⟩⟩⟩⟩
set_option maxRecDepth 20000 in
theorem uw_30 : (Cond.methodLink RX3 3 objectInit) ∈ lw_tbl := tb_1 _ (List.mem_of_getElem? (i := 33) (by first | rfl | decide +kernel))
set_option maxRecDepth 20000 in
theorem uw_31 : (Cond.classLink RX3 9 RX5) ∈ lw_tbl := tb_1 _ (List.mem_of_getElem? (i := 34) (by first | rfl | decide +kernel))
set_option maxRecDepth 20000 in
theorem uw_32 : (Cond.instantiable RX5 5) ∈ lw_tbl := tb_1 _ (List.mem_of_getElem? (i := 35) (by first | rfl | decide +kernel))
set_option maxRecDepth 20000 in
theorem uw_33 : (Cond.initialized RX5) ∈ lw_tbl := tb_1 _ (List.mem_of_getElem? (i := 3) (by first | rfl | decide +kernel))
set_option maxRecDepth 20000 in
theorem uw_34 : (Cond.instanceMethod yX5_init) ∈ lw_tbl := tb_1 _ (List.mem_of_getElem? (i := 37) (by first | rfl | decide +kernel))
set_option maxRecDepth 20000 in
theorem uw_35 : (Cond.fieldLink RX3 12 "SoundLaws$Reader" "draft" "LSoundLaws$Stock;") ∈ lw_tbl := tb_1 _ (List.mem_of_getElem? (i := 72) (by first | rfl | decide +kernel))
set_option maxRecDepth 20000 in
theorem twX3_init : ∀ w ∈ wsX3_init, w ∈ lw_tbl := List.forall_mem_cons.mpr ⟨tb_1 _ (List.mem_of_getElem? (i := 32) (by first | rfl | decide +kernel)), List.forall_mem_append.mpr ⟨List.forall_mem_cons.mpr ⟨uw_30, List.forall_mem_cons.mpr ⟨uw_1, List.forall_mem_cons.mpr ⟨uw_2, List.forall_mem_cons.mpr ⟨uw_31, List.forall_mem_cons.mpr ⟨uw_32, List.forall_mem_cons.mpr ⟨uw_33, List.forall_mem_cons.mpr ⟨uw_34, List.forall_mem_cons.mpr ⟨uw_35, tw_nil⟩⟩⟩⟩⟩⟩⟩⟩, List.forall_mem_append.mpr ⟨twX50, List.forall_mem_append.mpr ⟨twX30, List.forall_mem_append.mpr ⟨twX5_init, tw_nil⟩⟩⟩⟩⟩
set_option maxRecDepth 20000 in
theorem uw_36 : (Cond.methodLink RX6 3 objectInit) ∈ lw_tbl := tb_1 _ (List.mem_of_getElem? (i := 123) (by first | rfl | decide +kernel))
set_option maxRecDepth 20000 in
theorem uw_37 : (Cond.fieldLink RX6 9 "SoundLaws$Study" "sounds" "[I") ∈ lw_tbl := tb_1 _ (List.mem_of_getElem? (i := 171) (by first | rfl | decide +kernel))
set_option maxRecDepth 20000 in
theorem uw_38 : (Cond.fieldLink RX6 15 "SoundLaws$Study" "changes" "[I") ∈ lw_tbl := tb_1 _ (List.mem_of_getElem? (i := 173) (by first | rfl | decide +kernel))
set_option maxRecDepth 20000 in
theorem uw_39 : (Cond.fieldLink RX6 18 "SoundLaws$Study" "strangePlaces" "[I") ∈ lw_tbl := tb_1 _ (List.mem_of_getElem? (i := 175) (by first | rfl | decide +kernel))
set_option maxRecDepth 20000 in
theorem uw_40 : (Cond.classLink RX6 21 RX2) ∈ lw_tbl := tb_1 _ (List.mem_of_getElem? (i := 124) (by first | rfl | decide +kernel))
set_option maxRecDepth 20000 in
theorem uw_41 : (Cond.instantiable RX2 6) ∈ lw_tbl := tb_1 _ (List.mem_of_getElem? (i := 125) (by first | rfl | decide +kernel))
set_option maxRecDepth 20000 in
theorem uw_42 : (Cond.initialized RX2) ∈ lw_tbl := tb_1 _ (List.mem_of_getElem? (i := 6) (by first | rfl | decide +kernel))
set_option maxRecDepth 20000 in
theorem uw_43 : (Cond.instanceMethod yX2_init) ∈ lw_tbl := tb_1 _ (List.mem_of_getElem? (i := 127) (by first | rfl | decide +kernel))
set_option maxRecDepth 20000 in
theorem uw_44 : (Cond.fieldLink RX6 24 "SoundLaws$Study" "laws" "LSoundLaws$Laws;") ∈ lw_tbl := tb_1 _ (List.mem_of_getElem? (i := 177) (by first | rfl | decide +kernel))
set_option maxRecDepth 20000 in
theorem uw_45 : (Cond.classLink RX6 28 RX7) ∈ lw_tbl := tb_1 _ (List.mem_of_getElem? (i := 153) (by first | rfl | decide +kernel))
set_option maxRecDepth 20000 in
theorem uw_46 : (Cond.fieldLink RX6 31 "SoundLaws$Study" "tree" "LSoundLaws$Tree;") ∈ lw_tbl := tb_1 _ (List.mem_of_getElem? (i := 181) (by first | rfl | decide +kernel))
set_option maxRecDepth 20000 in
theorem twX6_init : ∀ w ∈ wsX6_init, w ∈ lw_tbl := List.forall_mem_cons.mpr ⟨tb_1 _ (List.mem_of_getElem? (i := 122) (by first | rfl | decide +kernel)), List.forall_mem_append.mpr ⟨List.forall_mem_cons.mpr ⟨uw_36, List.forall_mem_cons.mpr ⟨uw_1, List.forall_mem_cons.mpr ⟨uw_2, List.forall_mem_cons.mpr ⟨uw_3, List.forall_mem_cons.mpr ⟨uw_37, List.forall_mem_cons.mpr ⟨uw_38, List.forall_mem_cons.mpr ⟨uw_39, List.forall_mem_cons.mpr ⟨uw_40, List.forall_mem_cons.mpr ⟨uw_41, List.forall_mem_cons.mpr ⟨uw_42, List.forall_mem_cons.mpr ⟨uw_43, List.forall_mem_cons.mpr ⟨uw_44, List.forall_mem_cons.mpr ⟨uw_45, List.forall_mem_cons.mpr ⟨uw_26, List.forall_mem_cons.mpr ⟨uw_27, List.forall_mem_cons.mpr ⟨uw_28, List.forall_mem_cons.mpr ⟨uw_46, tw_nil⟩⟩⟩⟩⟩⟩⟩⟩⟩⟩⟩⟩⟩⟩⟩⟩⟩, List.forall_mem_append.mpr ⟨twX60, List.forall_mem_append.mpr ⟨twX20, List.forall_mem_append.mpr ⟨twX70, List.forall_mem_append.mpr ⟨twX2_init, List.forall_mem_append.mpr ⟨twX7_init, tw_nil⟩⟩⟩⟩⟩⟩⟩
set_option maxRecDepth 20000 in
theorem uw_47 : (Cond.methodLink RX8 1 objectInit) ∈ lw_tbl := tb_1 _ (List.mem_of_getElem? (i := 25) (by first | rfl | decide +kernel))
set_option maxRecDepth 20000 in
theorem uw_48 : (Cond.fieldLink RX8 9 "SoundLaws" "page" "[I") ∈ lw_tbl := tb_2 _ (List.mem_of_getElem? (i := 1) (by first | rfl | decide +kernel))
set_option maxRecDepth 20000 in
theorem uw_49 : (Cond.classLink RX8 13 RX3) ∈ lw_tbl := tb_1 _ (List.mem_of_getElem? (i := 28) (by first | rfl | decide +kernel))
set_option maxRecDepth 20000 in
theorem uw_50 : (Cond.instantiable RX3 7) ∈ lw_tbl := tb_1 _ (List.mem_of_getElem? (i := 29) (by first | rfl | decide +kernel))
set_option maxRecDepth 20000 in
theorem uw_51 : (Cond.initialized RX3) ∈ lw_tbl := tb_1 _ (List.mem_of_getElem? (i := 2) (by first | rfl | decide +kernel))
set_option maxRecDepth 20000 in
theorem uw_52 : (Cond.instanceMethod yX3_init) ∈ lw_tbl := tb_1 _ (List.mem_of_getElem? (i := 31) (by first | rfl | decide +kernel))
set_option maxRecDepth 20000 in
theorem uw_53 : (Cond.fieldLink RX8 16 "SoundLaws" "reader" "LSoundLaws$Reader;") ∈ lw_tbl := tb_2 _ (List.mem_of_getElem? (i := 3) (by first | rfl | decide +kernel))
set_option maxRecDepth 20000 in
theorem uw_54 : (Cond.classLink RX8 20 RX5) ∈ lw_tbl := tb_1 _ (List.mem_of_getElem? (i := 95) (by first | rfl | decide +kernel))
set_option maxRecDepth 20000 in
theorem uw_55 : (Cond.fieldLink RX8 23 "SoundLaws" "stock" "LSoundLaws$Stock;") ∈ lw_tbl := tb_2 _ (List.mem_of_getElem? (i := 5) (by first | rfl | decide +kernel))
set_option maxRecDepth 20000 in
theorem uw_56 : (Cond.classLink RX8 27 RX4) ∈ lw_tbl := tb_1 _ (List.mem_of_getElem? (i := 97) (by first | rfl | decide +kernel))
set_option maxRecDepth 20000 in
theorem uw_57 : (Cond.instantiable RX4 4) ∈ lw_tbl := tb_1 _ (List.mem_of_getElem? (i := 98) (by first | rfl | decide +kernel))
set_option maxRecDepth 20000 in
theorem uw_58 : (Cond.initialized RX4) ∈ lw_tbl := tb_1 _ (List.mem_of_getElem? (i := 4) (by first | rfl | decide +kernel))
set_option maxRecDepth 20000 in
theorem uw_59 : (Cond.instanceMethod yX4_init) ∈ lw_tbl := tb_1 _ (List.mem_of_getElem? (i := 100) (by first | rfl | decide +kernel))
set_option maxRecDepth 20000 in
theorem uw_60 : (Cond.fieldLink RX8 30 "SoundLaws" "sightings" "LSoundLaws$Sightings;") ∈ lw_tbl := tb_2 _ (List.mem_of_getElem? (i := 6) (by first | rfl | decide +kernel))
set_option maxRecDepth 20000 in
theorem uw_61 : (Cond.classLink RX8 34 RX6) ∈ lw_tbl := tb_1 _ (List.mem_of_getElem? (i := 118) (by first | rfl | decide +kernel))
set_option maxRecDepth 20000 in
theorem uw_62 : (Cond.instantiable RX6 6) ∈ lw_tbl := tb_1 _ (List.mem_of_getElem? (i := 119) (by first | rfl | decide +kernel))
set_option maxRecDepth 20000 in
theorem uw_63 : (Cond.initialized RX6) ∈ lw_tbl := tb_1 _ (List.mem_of_getElem? (i := 5) (by first | rfl | decide +kernel))
set_option maxRecDepth 20000 in
theorem uw_64 : (Cond.instanceMethod yX6_init) ∈ lw_tbl := tb_1 _ (List.mem_of_getElem? (i := 121) (by first | rfl | decide +kernel))
set_option maxRecDepth 20000 in
theorem uw_65 : (Cond.fieldLink RX8 37 "SoundLaws" "study" "LSoundLaws$Study;") ∈ lw_tbl := tb_2 _ (List.mem_of_getElem? (i := 7) (by first | rfl | decide +kernel))
set_option maxRecDepth 20000 in
theorem uw_66 : (Cond.fieldLink RX8 41 "SoundLaws" "keptStock" "LSoundLaws$Stock;") ∈ lw_tbl := tb_2 _ (List.mem_of_getElem? (i := 9) (by first | rfl | decide +kernel))
set_option maxRecDepth 20000 in
theorem uw_67 : (Cond.fieldLink RX8 44 "SoundLaws" "keptSightings" "LSoundLaws$Sightings;") ∈ lw_tbl := tb_2 _ (List.mem_of_getElem? (i := 10) (by first | rfl | decide +kernel))
set_option maxRecDepth 20000 in
theorem uw_68 : (Cond.classLink RX8 47 RX0) ∈ lw_tbl := tb_1 _ (List.mem_of_getElem? (i := 195) (by first | rfl | decide +kernel))
set_option maxRecDepth 20000 in
theorem uw_69 : (Cond.instantiable RX0 5) ∈ lw_tbl := tb_1 _ (List.mem_of_getElem? (i := 196) (by first | rfl | decide +kernel))
set_option maxRecDepth 20000 in
theorem uw_70 : (Cond.initialized RX0) ∈ lw_tbl := tb_1 _ (List.mem_of_getElem? (i := 8) (by first | rfl | decide +kernel))
set_option maxRecDepth 20000 in
theorem uw_71 : (Cond.instanceMethod yX0_init) ∈ lw_tbl := tb_1 _ (List.mem_of_getElem? (i := 198) (by first | rfl | decide +kernel))
set_option maxRecDepth 20000 in
theorem uw_72 : (Cond.fieldLink RX8 50 "SoundLaws" "aligner" "LSoundLaws$Aligner;") ∈ lw_tbl := tb_2 _ (List.mem_of_getElem? (i := 12) (by first | rfl | decide +kernel))
set_option maxRecDepth 20000 in
theorem uw_73 : (Cond.classLink RX8 54 RX1) ∈ lw_tbl := tb_1 _ (List.mem_of_getElem? (i := 217) (by first | rfl | decide +kernel))
set_option maxRecDepth 20000 in
theorem uw_74 : (Cond.instantiable RX1 4) ∈ lw_tbl := tb_1 _ (List.mem_of_getElem? (i := 218) (by first | rfl | decide +kernel))
set_option maxRecDepth 20000 in
theorem uw_75 : (Cond.initialized RX1) ∈ lw_tbl := tb_1 _ (List.mem_of_getElem? (i := 9) (by first | rfl | decide +kernel))
set_option maxRecDepth 20000 in
theorem uw_76 : (Cond.instanceMethod yX1_init) ∈ lw_tbl := tb_1 _ (List.mem_of_getElem? (i := 220) (by first | rfl | decide +kernel))
set_option maxRecDepth 20000 in
theorem uw_77 : (Cond.fieldLink RX8 57 "SoundLaws" "draws" "LSoundLaws$Draws;") ∈ lw_tbl := tb_2 _ (List.mem_of_getElem? (i := 13) (by first | rfl | decide +kernel))
set_option maxRecDepth 20000 in
theorem twX8_init : ∀ w ∈ wsX8_init, w ∈ lw_tbl := List.forall_mem_cons.mpr ⟨tb_1 _ (List.mem_of_getElem? (i := 24) (by first | rfl | decide +kernel)), List.forall_mem_append.mpr ⟨List.forall_mem_cons.mpr ⟨uw_47, List.forall_mem_cons.mpr ⟨uw_1, List.forall_mem_cons.mpr ⟨uw_2, List.forall_mem_cons.mpr ⟨uw_3, List.forall_mem_cons.mpr ⟨uw_48, List.forall_mem_cons.mpr ⟨uw_49, List.forall_mem_cons.mpr ⟨uw_50, List.forall_mem_cons.mpr ⟨uw_51, List.forall_mem_cons.mpr ⟨uw_52, List.forall_mem_cons.mpr ⟨uw_53, List.forall_mem_cons.mpr ⟨uw_54, List.forall_mem_cons.mpr ⟨uw_32, List.forall_mem_cons.mpr ⟨uw_33, List.forall_mem_cons.mpr ⟨uw_34, List.forall_mem_cons.mpr ⟨uw_55, List.forall_mem_cons.mpr ⟨uw_56, List.forall_mem_cons.mpr ⟨uw_57, List.forall_mem_cons.mpr ⟨uw_58, List.forall_mem_cons.mpr ⟨uw_59, List.forall_mem_cons.mpr ⟨uw_60, List.forall_mem_cons.mpr ⟨uw_61, List.forall_mem_cons.mpr ⟨uw_62, List.forall_mem_cons.mpr ⟨uw_63, List.forall_mem_cons.mpr ⟨uw_64, List.forall_mem_cons.mpr ⟨uw_65, List.forall_mem_cons.mpr ⟨uw_66, List.forall_mem_cons.mpr ⟨uw_67, List.forall_mem_cons.mpr ⟨uw_68, List.forall_mem_cons.mpr ⟨uw_69, List.forall_mem_cons.mpr ⟨uw_70, List.forall_mem_cons.mpr ⟨uw_71, List.forall_mem_cons.mpr ⟨uw_72, List.forall_mem_cons.mpr ⟨uw_73, List.forall_mem_cons.mpr ⟨uw_74, List.forall_mem_cons.mpr ⟨uw_75, List.forall_mem_cons.mpr ⟨uw_76, List.forall_mem_cons.mpr ⟨uw_77, tw_nil⟩⟩⟩⟩⟩⟩⟩⟩⟩⟩⟩⟩⟩⟩⟩⟩⟩⟩⟩⟩⟩⟩⟩⟩⟩⟩⟩⟩⟩⟩⟩⟩⟩⟩⟩⟩⟩, List.forall_mem_append.mpr ⟨twX80, List.forall_mem_append.mpr ⟨twX30, List.forall_mem_append.mpr ⟨twX50, List.forall_mem_append.mpr ⟨twX40, List.forall_mem_append.mpr ⟨twX60, List.forall_mem_append.mpr ⟨twX00, List.forall_mem_append.mpr ⟨twX10, List.forall_mem_append.mpr ⟨twX3_init, List.forall_mem_append.mpr ⟨twX5_init, List.forall_mem_append.mpr ⟨twX4_init, List.forall_mem_append.mpr ⟨twX6_init, List.forall_mem_append.mpr ⟨twX0_init, List.forall_mem_append.mpr ⟨twX1_init, tw_nil⟩⟩⟩⟩⟩⟩⟩⟩⟩⟩⟩⟩⟩⟩⟩
set_option maxRecDepth 20000 in
theorem uw_78 : (Cond.methodLink RX9 1 objectInit) ∈ lw_tbl := tb_4 _ (List.mem_of_getElem? (i := 80) (by first | rfl | decide +kernel))
set_option maxRecDepth 20000 in
theorem uw_79 : (Cond.fieldLink RX9 7 "SoundLawsModel" "page" "[I") ∈ lw_tbl := tb_4 _ (List.mem_of_getElem? (i := 81) (by first | rfl | decide +kernel))
set_option maxRecDepth 20000 in
theorem uw_80 : (Cond.fieldLink RX9 13 "SoundLawsModel" "readKinds" "[I") ∈ lw_tbl := tb_4 _ (List.mem_of_getElem? (i := 88) (by first | rfl | decide +kernel))
set_option maxRecDepth 20000 in
theorem uw_81 : (Cond.fieldLink RX9 16 "SoundLawsModel" "readLongs" "[I") ∈ lw_tbl := tb_4 _ (List.mem_of_getElem? (i := 89) (by first | rfl | decide +kernel))
set_option maxRecDepth 20000 in
theorem uw_82 : (Cond.fieldLink RX9 19 "SoundLawsModel" "readSounds" "[I") ∈ lw_tbl := tb_4 _ (List.mem_of_getElem? (i := 90) (by first | rfl | decide +kernel))
set_option maxRecDepth 20000 in
theorem uw_83 : (Cond.fieldLink RX9 22 "SoundLawsModel" "kinds" "[I") ∈ lw_tbl := tb_4 _ (List.mem_of_getElem? (i := 94) (by first | rfl | decide +kernel))
set_option maxRecDepth 20000 in
theorem uw_84 : (Cond.fieldLink RX9 25 "SoundLawsModel" "longs" "[I") ∈ lw_tbl := tb_4 _ (List.mem_of_getElem? (i := 95) (by first | rfl | decide +kernel))
set_option maxRecDepth 20000 in
theorem uw_85 : (Cond.fieldLink RX9 28 "SoundLawsModel" "words" "[I") ∈ lw_tbl := tb_4 _ (List.mem_of_getElem? (i := 96) (by first | rfl | decide +kernel))
set_option maxRecDepth 20000 in
theorem uw_86 : (Cond.fieldLink RX9 31 "SoundLawsModel" "costs" "[I") ∈ lw_tbl := tb_4 _ (List.mem_of_getElem? (i := 98) (by first | rfl | decide +kernel))
set_option maxRecDepth 20000 in
theorem uw_87 : (Cond.fieldLink RX9 34 "SoundLawsModel" "had" "[I") ∈ lw_tbl := tb_4 _ (List.mem_of_getElem? (i := 99) (by first | rfl | decide +kernel))
set_option maxRecDepth 20000 in
theorem uw_88 : (Cond.fieldLink RX9 37 "SoundLawsModel" "said" "[I") ∈ lw_tbl := tb_4 _ (List.mem_of_getElem? (i := 100) (by first | rfl | decide +kernel))
set_option maxRecDepth 20000 in
theorem uw_89 : (Cond.fieldLink RX9 40 "SoundLawsModel" "rebuilt" "[I") ∈ lw_tbl := tb_4 _ (List.mem_of_getElem? (i := 101) (by first | rfl | decide +kernel))
set_option maxRecDepth 20000 in
theorem uw_90 : (Cond.fieldLink RX9 43 "SoundLawsModel" "changes" "[I") ∈ lw_tbl := tb_4 _ (List.mem_of_getElem? (i := 102) (by first | rfl | decide +kernel))
set_option maxRecDepth 20000 in
theorem uw_91 : (Cond.fieldLink RX9 46 "SoundLawsModel" "laws" "[I") ∈ lw_tbl := tb_4 _ (List.mem_of_getElem? (i := 103) (by first | rfl | decide +kernel))
set_option maxRecDepth 20000 in
theorem uw_92 : (Cond.fieldLink RX9 49 "SoundLawsModel" "follows" "[I") ∈ lw_tbl := tb_4 _ (List.mem_of_getElem? (i := 104) (by first | rfl | decide +kernel))
set_option maxRecDepth 20000 in
theorem uw_93 : (Cond.fieldLink RX9 52 "SoundLawsModel" "exceptions" "[I") ∈ lw_tbl := tb_4 _ (List.mem_of_getElem? (i := 105) (by first | rfl | decide +kernel))
set_option maxRecDepth 20000 in
theorem uw_94 : (Cond.fieldLink RX9 55 "SoundLawsModel" "tally" "[I") ∈ lw_tbl := tb_4 _ (List.mem_of_getElem? (i := 106) (by first | rfl | decide +kernel))
set_option maxRecDepth 20000 in
theorem uw_95 : (Cond.fieldLink RX9 58 "SoundLawsModel" "one" "[I") ∈ lw_tbl := tb_4 _ (List.mem_of_getElem? (i := 107) (by first | rfl | decide +kernel))
set_option maxRecDepth 20000 in
theorem uw_96 : (Cond.fieldLink RX9 61 "SoundLawsModel" "other" "[I") ∈ lw_tbl := tb_4 _ (List.mem_of_getElem? (i := 108) (by first | rfl | decide +kernel))
set_option maxRecDepth 20000 in
theorem uw_97 : (Cond.fieldLink RX9 64 "SoundLawsModel" "lines" "[I") ∈ lw_tbl := tb_4 _ (List.mem_of_getElem? (i := 109) (by first | rfl | decide +kernel))
set_option maxRecDepth 20000 in
theorem uw_98 : (Cond.fieldLink RX9 67 "SoundLawsModel" "sights" "[I") ∈ lw_tbl := tb_4 _ (List.mem_of_getElem? (i := 111) (by first | rfl | decide +kernel))
set_option maxRecDepth 20000 in
theorem uw_99 : (Cond.fieldLink RX9 70 "SoundLawsModel" "keptKinds" "[I") ∈ lw_tbl := tb_4 _ (List.mem_of_getElem? (i := 117) (by first | rfl | decide +kernel))
set_option maxRecDepth 20000 in
theorem uw_100 : (Cond.fieldLink RX9 73 "SoundLawsModel" "keptLongs" "[I") ∈ lw_tbl := tb_4 _ (List.mem_of_getElem? (i := 118) (by first | rfl | decide +kernel))
set_option maxRecDepth 20000 in
theorem uw_101 : (Cond.fieldLink RX9 76 "SoundLawsModel" "keptWords" "[I") ∈ lw_tbl := tb_4 _ (List.mem_of_getElem? (i := 119) (by first | rfl | decide +kernel))
set_option maxRecDepth 20000 in
theorem uw_102 : (Cond.fieldLink RX9 79 "SoundLawsModel" "keptSights" "[I") ∈ lw_tbl := tb_4 _ (List.mem_of_getElem? (i := 120) (by first | rfl | decide +kernel))
set_option maxRecDepth 20000 in
theorem uw_103 : (Cond.fieldLink RX9 82 "SoundLawsModel" "keptSets" "I") ∈ lw_tbl := tb_4 _ (List.mem_of_getElem? (i := 113) (by first | rfl | decide +kernel))
set_option maxRecDepth 20000 in
theorem twX9_init : ∀ w ∈ wsX9_init, w ∈ lw_tbl := List.forall_mem_cons.mpr ⟨tb_4 _ (List.mem_of_getElem? (i := 79) (by first | rfl | decide +kernel)), List.forall_mem_append.mpr ⟨List.forall_mem_cons.mpr ⟨uw_78, List.forall_mem_cons.mpr ⟨uw_1, List.forall_mem_cons.mpr ⟨uw_2, List.forall_mem_cons.mpr ⟨uw_3, List.forall_mem_cons.mpr ⟨uw_79, List.forall_mem_cons.mpr ⟨uw_80, List.forall_mem_cons.mpr ⟨uw_81, List.forall_mem_cons.mpr ⟨uw_82, List.forall_mem_cons.mpr ⟨uw_83, List.forall_mem_cons.mpr ⟨uw_84, List.forall_mem_cons.mpr ⟨uw_85, List.forall_mem_cons.mpr ⟨uw_86, List.forall_mem_cons.mpr ⟨uw_87, List.forall_mem_cons.mpr ⟨uw_88, List.forall_mem_cons.mpr ⟨uw_89, List.forall_mem_cons.mpr ⟨uw_90, List.forall_mem_cons.mpr ⟨uw_91, List.forall_mem_cons.mpr ⟨uw_92, List.forall_mem_cons.mpr ⟨uw_93, List.forall_mem_cons.mpr ⟨uw_94, List.forall_mem_cons.mpr ⟨uw_95, List.forall_mem_cons.mpr ⟨uw_96, List.forall_mem_cons.mpr ⟨uw_97, List.forall_mem_cons.mpr ⟨uw_98, List.forall_mem_cons.mpr ⟨uw_99, List.forall_mem_cons.mpr ⟨uw_100, List.forall_mem_cons.mpr ⟨uw_101, List.forall_mem_cons.mpr ⟨uw_102, List.forall_mem_cons.mpr ⟨uw_103, tw_nil⟩⟩⟩⟩⟩⟩⟩⟩⟩⟩⟩⟩⟩⟩⟩⟩⟩⟩⟩⟩⟩⟩⟩⟩⟩⟩⟩⟩⟩, List.forall_mem_append.mpr ⟨twX90, tw_nil⟩⟩⟩
set_option maxRecDepth 20000 in
theorem uw_104 : (Cond.fieldLink RX7 18 "SoundLaws$Tree" "tongues" "I") ∈ lw_tbl := tb_1 _ (List.mem_of_getElem? (i := 159) (by first | rfl | decide +kernel))
set_option maxRecDepth 20000 in
theorem twX7_plant : ∀ w ∈ wsX7_plant, w ∈ lw_tbl := List.forall_mem_cons.mpr ⟨tb_2 _ (List.mem_of_getElem? (i := 227) (by first | rfl | decide +kernel)), List.forall_mem_append.mpr ⟨List.forall_mem_cons.mpr ⟨uw_104, tw_nil⟩, List.forall_mem_append.mpr ⟨twX70, tw_nil⟩⟩⟩
set_option maxRecDepth 20000 in
theorem twX8_nodesOf : ∀ w ∈ wsX8_nodesOf, w ∈ lw_tbl := List.forall_mem_cons.mpr ⟨tb_3 _ (List.mem_of_getElem? (i := 1) (by first | rfl | decide +kernel)), List.forall_mem_append.mpr ⟨tw_nil, tw_nil⟩⟩
set_option maxRecDepth 20000 in
theorem uw_105 : (Cond.initialized RX8) ∈ lw_tbl := tb_1 _ (List.mem_of_getElem? (i := 1) (by first | rfl | decide +kernel))
set_option maxRecDepth 20000 in
theorem uw_106 : (Cond.static yX8_nodesOf) ∈ lw_tbl := tb_3 _ (List.mem_of_getElem? (i := 0) (by first | rfl | decide +kernel))
set_option maxRecDepth 20000 in
theorem twX7_root : ∀ w ∈ wsX7_root, w ∈ lw_tbl := List.forall_mem_cons.mpr ⟨tb_3 _ (List.mem_of_getElem? (i := 23) (by first | rfl | decide +kernel)), List.forall_mem_append.mpr ⟨List.forall_mem_cons.mpr ⟨uw_104, List.forall_mem_cons.mpr ⟨uw_105, List.forall_mem_cons.mpr ⟨uw_106, tw_nil⟩⟩⟩, List.forall_mem_append.mpr ⟨twX70, List.forall_mem_append.mpr ⟨twX8_nodesOf, tw_nil⟩⟩⟩⟩
set_option maxRecDepth 20000 in
theorem twX7_pairOf : ∀ w ∈ wsX7_pairOf, w ∈ lw_tbl := List.forall_mem_cons.mpr ⟨tb_3 _ (List.mem_of_getElem? (i := 5) (by first | rfl | decide +kernel)), List.forall_mem_append.mpr ⟨List.forall_mem_cons.mpr ⟨uw_104, tw_nil⟩, List.forall_mem_append.mpr ⟨twX70, tw_nil⟩⟩⟩
set_option maxRecDepth 20000 in
theorem twX7_leastBelow : ∀ w ∈ wsX7_leastBelow, w ∈ lw_tbl := List.forall_mem_cons.mpr ⟨tb_3 _ (List.mem_of_getElem? (i := 13) (by first | rfl | decide +kernel)), List.forall_mem_append.mpr ⟨List.forall_mem_cons.mpr ⟨uw_104, List.forall_mem_cons.mpr ⟨uw_13, List.forall_mem_cons.mpr ⟨uw_14, tw_nil⟩⟩⟩, List.forall_mem_append.mpr ⟨twX70, tw_nil⟩⟩⟩
set_option maxRecDepth 20000 in
theorem uw_107 : (Cond.methodLink RX7 26 yX7_pairOf) ∈ lw_tbl := tb_3 _ (List.mem_of_getElem? (i := 2) (by first | rfl | decide +kernel))
set_option maxRecDepth 20000 in
theorem uw_108 : (Cond.instanceMethod yX7_pairOf) ∈ lw_tbl := tb_3 _ (List.mem_of_getElem? (i := 4) (by first | rfl | decide +kernel))
set_option maxRecDepth 20000 in
theorem uw_109 : (Cond.selects RX7 yX7_pairOf yX7_pairOf) ∈ lw_tbl := List.mem_of_getElem? (i := 12) (by first | rfl | decide +kernel)
set_option maxRecDepth 20000 in
theorem uw_110 : (Cond.methodLink RX7 32 yX7_leastBelow) ∈ lw_tbl := tb_3 _ (List.mem_of_getElem? (i := 10) (by first | rfl | decide +kernel))
set_option maxRecDepth 20000 in
theorem uw_111 : (Cond.instanceMethod yX7_leastBelow) ∈ lw_tbl := tb_3 _ (List.mem_of_getElem? (i := 12) (by first | rfl | decide +kernel))
set_option maxRecDepth 20000 in
theorem uw_112 : (Cond.selects RX7 yX7_leastBelow yX7_leastBelow) ∈ lw_tbl := List.mem_of_getElem? (i := 13) (by first | rfl | decide +kernel)
set_option maxRecDepth 20000 in
theorem twX7_climb : ∀ w ∈ wsX7_climb, w ∈ lw_tbl := List.forall_mem_cons.mpr ⟨tb_2 _ (List.mem_of_getElem? (i := 238) (by first | rfl | decide +kernel)), List.forall_mem_append.mpr ⟨List.forall_mem_cons.mpr ⟨uw_104, List.forall_mem_cons.mpr ⟨uw_105, List.forall_mem_cons.mpr ⟨uw_106, List.forall_mem_cons.mpr ⟨uw_13, List.forall_mem_cons.mpr ⟨uw_14, List.forall_mem_cons.mpr ⟨uw_107, List.forall_mem_cons.mpr ⟨uw_108, List.forall_mem_cons.mpr ⟨uw_109, List.forall_mem_cons.mpr ⟨uw_27, List.forall_mem_cons.mpr ⟨uw_110, List.forall_mem_cons.mpr ⟨uw_111, List.forall_mem_cons.mpr ⟨uw_112, tw_nil⟩⟩⟩⟩⟩⟩⟩⟩⟩⟩⟩⟩, List.forall_mem_append.mpr ⟨twX70, List.forall_mem_append.mpr ⟨twX8_nodesOf, List.forall_mem_append.mpr ⟨twX7_pairOf, List.forall_mem_append.mpr ⟨twX7_leastBelow, tw_nil⟩⟩⟩⟩⟩⟩
set_option maxRecDepth 20000 in
theorem uw_113 : (Cond.constantLong RX1 50 (1103515245)) ∈ lw_tbl := tb_4 _ (List.mem_of_getElem? (i := 21) (by first | rfl | decide +kernel))
set_option maxRecDepth 20000 in
theorem uw_114 : (Cond.fieldLink RX1 18 "SoundLaws$Draws" "seed" "I") ∈ lw_tbl := tb_1 _ (List.mem_of_getElem? (i := 225) (by first | rfl | decide +kernel))
set_option maxRecDepth 20000 in
theorem uw_115 : (Cond.constantLong RX1 52 (12345)) ∈ lw_tbl := tb_4 _ (List.mem_of_getElem? (i := 22) (by first | rfl | decide +kernel))
set_option maxRecDepth 20000 in
theorem uw_116 : (Cond.constantLong RX1 54 (2147483648)) ∈ lw_tbl := tb_4 _ (List.mem_of_getElem? (i := 23) (by first | rfl | decide +kernel))
set_option maxRecDepth 20000 in
theorem uw_117 : (Cond.constant RX1 56 (65536)) ∈ lw_tbl := tb_4 _ (List.mem_of_getElem? (i := 24) (by first | rfl | decide +kernel))
set_option maxRecDepth 20000 in
theorem twX1_drawSound : ∀ w ∈ wsX1_drawSound, w ∈ lw_tbl := List.forall_mem_cons.mpr ⟨tb_4 _ (List.mem_of_getElem? (i := 20) (by first | rfl | decide +kernel)), List.forall_mem_append.mpr ⟨List.forall_mem_cons.mpr ⟨uw_113, List.forall_mem_cons.mpr ⟨uw_114, List.forall_mem_cons.mpr ⟨uw_115, List.forall_mem_cons.mpr ⟨uw_116, List.forall_mem_cons.mpr ⟨uw_117, tw_nil⟩⟩⟩⟩⟩, List.forall_mem_append.mpr ⟨twX10, tw_nil⟩⟩⟩
set_option maxRecDepth 20000 in
theorem uw_118 : (Cond.fieldLink RX1 32 "SoundLaws$Tree" "sounds" "[I") ∈ lw_tbl := tb_1 _ (List.mem_of_getElem? (i := 161) (by first | rfl | decide +kernel))
set_option maxRecDepth 20000 in
theorem twX1_isForeign : ∀ w ∈ wsX1_isForeign, w ∈ lw_tbl := List.forall_mem_cons.mpr ⟨tb_4 _ (List.mem_of_getElem? (i := 30) (by first | rfl | decide +kernel)), List.forall_mem_append.mpr ⟨List.forall_mem_cons.mpr ⟨uw_29, List.forall_mem_cons.mpr ⟨uw_118, tw_nil⟩⟩, List.forall_mem_append.mpr ⟨twX10, List.forall_mem_append.mpr ⟨twX70, tw_nil⟩⟩⟩⟩
set_option maxRecDepth 20000 in
theorem uw_119 : (Cond.fieldLink RX1 22 "SoundLaws$Draws" "changes" "I") ∈ lw_tbl := tb_1 _ (List.mem_of_getElem? (i := 227) (by first | rfl | decide +kernel))
set_option maxRecDepth 20000 in
theorem uw_120 : (Cond.fieldLink RX1 25 "SoundLaws$Draws" "foreign" "I") ∈ lw_tbl := tb_1 _ (List.mem_of_getElem? (i := 229) (by first | rfl | decide +kernel))
set_option maxRecDepth 20000 in
theorem uw_121 : (Cond.methodLink RX1 28 yX7_plant) ∈ lw_tbl := tb_4 _ (List.mem_of_getElem? (i := 16) (by first | rfl | decide +kernel))
set_option maxRecDepth 20000 in
theorem uw_122 : (Cond.instanceMethod yX7_plant) ∈ lw_tbl := tb_2 _ (List.mem_of_getElem? (i := 225) (by first | rfl | decide +kernel))
set_option maxRecDepth 20000 in
theorem uw_123 : (Cond.selects RX7 yX7_plant yX7_plant) ∈ lw_tbl := tb_2 _ (List.mem_of_getElem? (i := 226) (by first | rfl | decide +kernel))
set_option maxRecDepth 20000 in
theorem uw_124 : (Cond.methodLink RX1 36 yX1_drawSound) ∈ lw_tbl := tb_4 _ (List.mem_of_getElem? (i := 17) (by first | rfl | decide +kernel))
set_option maxRecDepth 20000 in
theorem uw_125 : (Cond.instanceMethod yX1_drawSound) ∈ lw_tbl := tb_4 _ (List.mem_of_getElem? (i := 19) (by first | rfl | decide +kernel))
set_option maxRecDepth 20000 in
theorem uw_126 : (Cond.selects RX1 yX1_drawSound yX1_drawSound) ∈ lw_tbl := List.mem_of_getElem? (i := 23) (by first | rfl | decide +kernel)
set_option maxRecDepth 20000 in
theorem uw_127 : (Cond.methodLink RX1 40 yX7_climb) ∈ lw_tbl := tb_4 _ (List.mem_of_getElem? (i := 25) (by first | rfl | decide +kernel))
set_option maxRecDepth 20000 in
theorem uw_128 : (Cond.instanceMethod yX7_climb) ∈ lw_tbl := tb_2 _ (List.mem_of_getElem? (i := 236) (by first | rfl | decide +kernel))
set_option maxRecDepth 20000 in
theorem uw_129 : (Cond.selects RX7 yX7_climb yX7_climb) ∈ lw_tbl := tb_2 _ (List.mem_of_getElem? (i := 237) (by first | rfl | decide +kernel))
set_option maxRecDepth 20000 in
theorem uw_130 : (Cond.methodLink RX1 43 yX7_root) ∈ lw_tbl := tb_4 _ (List.mem_of_getElem? (i := 26) (by first | rfl | decide +kernel))
set_option maxRecDepth 20000 in
theorem uw_131 : (Cond.instanceMethod yX7_root) ∈ lw_tbl := tb_3 _ (List.mem_of_getElem? (i := 21) (by first | rfl | decide +kernel))
set_option maxRecDepth 20000 in
theorem uw_132 : (Cond.selects RX7 yX7_root yX7_root) ∈ lw_tbl := tb_3 _ (List.mem_of_getElem? (i := 22) (by first | rfl | decide +kernel))
set_option maxRecDepth 20000 in
theorem uw_133 : (Cond.methodLink RX1 46 yX1_isForeign) ∈ lw_tbl := tb_4 _ (List.mem_of_getElem? (i := 27) (by first | rfl | decide +kernel))
set_option maxRecDepth 20000 in
theorem uw_134 : (Cond.instanceMethod yX1_isForeign) ∈ lw_tbl := tb_4 _ (List.mem_of_getElem? (i := 29) (by first | rfl | decide +kernel))
set_option maxRecDepth 20000 in
theorem uw_135 : (Cond.selects RX1 yX1_isForeign yX1_isForeign) ∈ lw_tbl := List.mem_of_getElem? (i := 24) (by first | rfl | decide +kernel)
set_option maxRecDepth 20000 in
theorem twX1_drawSets : ∀ w ∈ wsX1_drawSets, w ∈ lw_tbl := List.forall_mem_cons.mpr ⟨tb_4 _ (List.mem_of_getElem? (i := 15) (by first | rfl | decide +kernel)), List.forall_mem_append.mpr ⟨List.forall_mem_cons.mpr ⟨uw_114, List.forall_mem_cons.mpr ⟨uw_119, List.forall_mem_cons.mpr ⟨uw_120, List.forall_mem_cons.mpr ⟨uw_29, List.forall_mem_cons.mpr ⟨uw_118, List.forall_mem_cons.mpr ⟨uw_121, List.forall_mem_cons.mpr ⟨uw_122, List.forall_mem_cons.mpr ⟨uw_123, List.forall_mem_cons.mpr ⟨uw_27, List.forall_mem_cons.mpr ⟨uw_124, List.forall_mem_cons.mpr ⟨uw_125, List.forall_mem_cons.mpr ⟨uw_126, List.forall_mem_cons.mpr ⟨uw_75, List.forall_mem_cons.mpr ⟨uw_127, List.forall_mem_cons.mpr ⟨uw_128, List.forall_mem_cons.mpr ⟨uw_129, List.forall_mem_cons.mpr ⟨uw_130, List.forall_mem_cons.mpr ⟨uw_131, List.forall_mem_cons.mpr ⟨uw_132, List.forall_mem_cons.mpr ⟨uw_133, List.forall_mem_cons.mpr ⟨uw_134, List.forall_mem_cons.mpr ⟨uw_135, tw_nil⟩⟩⟩⟩⟩⟩⟩⟩⟩⟩⟩⟩⟩⟩⟩⟩⟩⟩⟩⟩⟩⟩, List.forall_mem_append.mpr ⟨twX10, List.forall_mem_append.mpr ⟨twX70, List.forall_mem_append.mpr ⟨twX7_plant, List.forall_mem_append.mpr ⟨twX1_drawSound, List.forall_mem_append.mpr ⟨twX7_climb, List.forall_mem_append.mpr ⟨twX7_root, List.forall_mem_append.mpr ⟨twX1_isForeign, tw_nil⟩⟩⟩⟩⟩⟩⟩⟩⟩
set_option maxRecDepth 20000 in
theorem uw_136 : (Cond.fieldLink RX8 213 "SoundLaws$Draws" "changes" "I") ∈ lw_tbl := tb_1 _ (List.mem_of_getElem? (i := 228) (by first | rfl | decide +kernel))
set_option maxRecDepth 20000 in
theorem uw_137 : (Cond.fieldLink RX8 216 "SoundLaws$Draws" "foreign" "I") ∈ lw_tbl := tb_1 _ (List.mem_of_getElem? (i := 230) (by first | rfl | decide +kernel))
set_option maxRecDepth 20000 in
theorem uw_138 : (Cond.fieldLink RX8 219 "SoundLaws$Draws" "seed" "I") ∈ lw_tbl := tb_1 _ (List.mem_of_getElem? (i := 226) (by first | rfl | decide +kernel))
set_option maxRecDepth 20000 in
theorem uw_139 : (Cond.methodLink RX8 210 yX1_drawSets) ∈ lw_tbl := tb_4 _ (List.mem_of_getElem? (i := 12) (by first | rfl | decide +kernel))
set_option maxRecDepth 20000 in
theorem uw_140 : (Cond.instanceMethod yX1_drawSets) ∈ lw_tbl := tb_4 _ (List.mem_of_getElem? (i := 13) (by first | rfl | decide +kernel))
set_option maxRecDepth 20000 in
theorem uw_141 : (Cond.selects RX1 yX1_drawSets yX1_drawSets) ∈ lw_tbl := tb_4 _ (List.mem_of_getElem? (i := 14) (by first | rfl | decide +kernel))
set_option maxRecDepth 20000 in
theorem twX8_drawn : ∀ w ∈ wsX8_drawn, w ∈ lw_tbl := List.forall_mem_cons.mpr ⟨tb_4 _ (List.mem_of_getElem? (i := 11) (by first | rfl | decide +kernel)), List.forall_mem_append.mpr ⟨List.forall_mem_cons.mpr ⟨uw_77, List.forall_mem_cons.mpr ⟨uw_136, List.forall_mem_cons.mpr ⟨uw_137, List.forall_mem_cons.mpr ⟨uw_138, List.forall_mem_cons.mpr ⟨uw_139, List.forall_mem_cons.mpr ⟨uw_140, List.forall_mem_cons.mpr ⟨uw_141, List.forall_mem_cons.mpr ⟨uw_75, tw_nil⟩⟩⟩⟩⟩⟩⟩⟩, List.forall_mem_append.mpr ⟨twX80, List.forall_mem_append.mpr ⟨twX10, List.forall_mem_append.mpr ⟨twX1_drawSets, tw_nil⟩⟩⟩⟩⟩
set_option maxRecDepth 20000 in
theorem twX9_in : ∀ w ∈ wsX9_in, w ∈ lw_tbl := List.forall_mem_cons.mpr ⟨tb_4 _ (List.mem_of_getElem? (i := 212) (by first | rfl | decide +kernel)), List.forall_mem_append.mpr ⟨tw_nil, tw_nil⟩⟩
set_option maxRecDepth 20000 in
theorem uw_142 : (Cond.constantLong RX9 166 (3)) ∈ lw_tbl := tb_5 _ (List.mem_of_getElem? (i := 38) (by first | rfl | decide +kernel))
set_option maxRecDepth 20000 in
theorem uw_143 : (Cond.methodLink RX9 88 yX9_in) ∈ lw_tbl := tb_4 _ (List.mem_of_getElem? (i := 210) (by first | rfl | decide +kernel))
set_option maxRecDepth 20000 in
theorem uw_144 : (Cond.static yX9_in) ∈ lw_tbl := tb_4 _ (List.mem_of_getElem? (i := 211) (by first | rfl | decide +kernel))
set_option maxRecDepth 20000 in
theorem uw_145 : (Cond.initialized RX9) ∈ lw_tbl := tb_1 _ (List.mem_of_getElem? (i := 10) (by first | rfl | decide +kernel))
set_option maxRecDepth 20000 in
theorem twX9_isVowel : ∀ w ∈ wsX9_isVowel, w ∈ lw_tbl := List.forall_mem_cons.mpr ⟨tb_5 _ (List.mem_of_getElem? (i := 37) (by first | rfl | decide +kernel)), List.forall_mem_append.mpr ⟨List.forall_mem_cons.mpr ⟨uw_142, List.forall_mem_cons.mpr ⟨uw_143, List.forall_mem_cons.mpr ⟨uw_144, List.forall_mem_cons.mpr ⟨uw_145, tw_nil⟩⟩⟩⟩, List.forall_mem_append.mpr ⟨twX9_in, tw_nil⟩⟩⟩
set_option maxRecDepth 20000 in
theorem uw_146 : (Cond.methodLink RX9 168 yX9_isVowel) ∈ lw_tbl := tb_5 _ (List.mem_of_getElem? (i := 35) (by first | rfl | decide +kernel))
set_option maxRecDepth 20000 in
theorem uw_147 : (Cond.static yX9_isVowel) ∈ lw_tbl := tb_5 _ (List.mem_of_getElem? (i := 36) (by first | rfl | decide +kernel))
set_option maxRecDepth 20000 in
theorem twX9_costOf : ∀ w ∈ wsX9_costOf, w ∈ lw_tbl := List.forall_mem_cons.mpr ⟨tb_5 _ (List.mem_of_getElem? (i := 34) (by first | rfl | decide +kernel)), List.forall_mem_append.mpr ⟨List.forall_mem_cons.mpr ⟨uw_146, List.forall_mem_cons.mpr ⟨uw_147, List.forall_mem_cons.mpr ⟨uw_145, tw_nil⟩⟩⟩, List.forall_mem_append.mpr ⟨twX9_isVowel, tw_nil⟩⟩⟩
set_option maxRecDepth 20000 in
theorem uw_148 : (Cond.methodLink RX9 173 yX9_costOf) ∈ lw_tbl := tb_5 _ (List.mem_of_getElem? (i := 32) (by first | rfl | decide +kernel))
set_option maxRecDepth 20000 in
theorem uw_149 : (Cond.static yX9_costOf) ∈ lw_tbl := tb_5 _ (List.mem_of_getElem? (i := 33) (by first | rfl | decide +kernel))
set_option maxRecDepth 20000 in
theorem twX9_least : ∀ w ∈ wsX9_least, w ∈ lw_tbl := List.forall_mem_cons.mpr ⟨tb_5 _ (List.mem_of_getElem? (i := 78) (by first | rfl | decide +kernel)), List.forall_mem_append.mpr ⟨List.forall_mem_cons.mpr ⟨uw_86, List.forall_mem_cons.mpr ⟨uw_148, List.forall_mem_cons.mpr ⟨uw_149, List.forall_mem_cons.mpr ⟨uw_145, tw_nil⟩⟩⟩⟩, List.forall_mem_append.mpr ⟨twX90, List.forall_mem_append.mpr ⟨twX9_costOf, tw_nil⟩⟩⟩⟩
set_option maxRecDepth 20000 in
theorem twX9_nodesBy : ∀ w ∈ wsX9_nodesBy, w ∈ lw_tbl := List.forall_mem_cons.mpr ⟨tb_5 _ (List.mem_of_getElem? (i := 71) (by first | rfl | decide +kernel)), List.forall_mem_append.mpr ⟨tw_nil, tw_nil⟩⟩
set_option maxRecDepth 20000 in
theorem twX9_belowFirst : ∀ w ∈ wsX9_belowFirst, w ∈ lw_tbl := List.forall_mem_cons.mpr ⟨tb_5 _ (List.mem_of_getElem? (i := 74) (by first | rfl | decide +kernel)), List.forall_mem_append.mpr ⟨tw_nil, tw_nil⟩⟩
set_option maxRecDepth 20000 in
theorem twX9_belowSecond : ∀ w ∈ wsX9_belowSecond, w ∈ lw_tbl := List.forall_mem_cons.mpr ⟨tb_5 _ (List.mem_of_getElem? (i := 81) (by first | rfl | decide +kernel)), List.forall_mem_append.mpr ⟨tw_nil, tw_nil⟩⟩
set_option maxRecDepth 20000 in
theorem uw_150 : (Cond.methodLink RX9 177 yX9_nodesBy) ∈ lw_tbl := tb_5 _ (List.mem_of_getElem? (i := 68) (by first | rfl | decide +kernel))
set_option maxRecDepth 20000 in
theorem uw_151 : (Cond.instanceMethod yX9_nodesBy) ∈ lw_tbl := tb_5 _ (List.mem_of_getElem? (i := 70) (by first | rfl | decide +kernel))
set_option maxRecDepth 20000 in
theorem uw_152 : (Cond.selects RX9 yX9_nodesBy yX9_nodesBy) ∈ lw_tbl := List.mem_of_getElem? (i := 43) (by first | rfl | decide +kernel)
set_option maxRecDepth 20000 in
theorem uw_153 : (Cond.methodLink RX9 180 yX9_belowFirst) ∈ lw_tbl := tb_5 _ (List.mem_of_getElem? (i := 72) (by first | rfl | decide +kernel))
set_option maxRecDepth 20000 in
theorem uw_154 : (Cond.static yX9_belowFirst) ∈ lw_tbl := tb_5 _ (List.mem_of_getElem? (i := 73) (by first | rfl | decide +kernel))
set_option maxRecDepth 20000 in
theorem uw_155 : (Cond.methodLink RX9 183 yX9_least) ∈ lw_tbl := tb_5 _ (List.mem_of_getElem? (i := 75) (by first | rfl | decide +kernel))
set_option maxRecDepth 20000 in
theorem uw_156 : (Cond.instanceMethod yX9_least) ∈ lw_tbl := tb_5 _ (List.mem_of_getElem? (i := 77) (by first | rfl | decide +kernel))
set_option maxRecDepth 20000 in
theorem uw_157 : (Cond.selects RX9 yX9_least yX9_least) ∈ lw_tbl := List.mem_of_getElem? (i := 44) (by first | rfl | decide +kernel)
set_option maxRecDepth 20000 in
theorem uw_158 : (Cond.methodLink RX9 186 yX9_belowSecond) ∈ lw_tbl := tb_5 _ (List.mem_of_getElem? (i := 79) (by first | rfl | decide +kernel))
set_option maxRecDepth 20000 in
theorem uw_159 : (Cond.static yX9_belowSecond) ∈ lw_tbl := tb_5 _ (List.mem_of_getElem? (i := 80) (by first | rfl | decide +kernel))
set_option maxRecDepth 20000 in
theorem twX9_layCosts : ∀ w ∈ wsX9_layCosts, w ∈ lw_tbl := List.forall_mem_cons.mpr ⟨tb_5 _ (List.mem_of_getElem? (i := 67) (by first | rfl | decide +kernel)), List.forall_mem_append.mpr ⟨List.forall_mem_cons.mpr ⟨uw_86, List.forall_mem_cons.mpr ⟨uw_88, List.forall_mem_cons.mpr ⟨uw_150, List.forall_mem_cons.mpr ⟨uw_151, List.forall_mem_cons.mpr ⟨uw_152, List.forall_mem_cons.mpr ⟨uw_145, List.forall_mem_cons.mpr ⟨uw_153, List.forall_mem_cons.mpr ⟨uw_154, List.forall_mem_cons.mpr ⟨uw_155, List.forall_mem_cons.mpr ⟨uw_156, List.forall_mem_cons.mpr ⟨uw_157, List.forall_mem_cons.mpr ⟨uw_158, List.forall_mem_cons.mpr ⟨uw_159, tw_nil⟩⟩⟩⟩⟩⟩⟩⟩⟩⟩⟩⟩⟩, List.forall_mem_append.mpr ⟨twX90, List.forall_mem_append.mpr ⟨twX9_nodesBy, List.forall_mem_append.mpr ⟨twX9_belowFirst, List.forall_mem_append.mpr ⟨twX9_least, List.forall_mem_append.mpr ⟨twX9_belowSecond, tw_nil⟩⟩⟩⟩⟩⟩⟩
set_option maxRecDepth 20000 in
theorem twX9_leastSound : ∀ w ∈ wsX9_leastSound, w ∈ lw_tbl := List.forall_mem_cons.mpr ⟨tb_5 _ (List.mem_of_getElem? (i := 85) (by first | rfl | decide +kernel)), List.forall_mem_append.mpr ⟨List.forall_mem_cons.mpr ⟨uw_86, List.forall_mem_cons.mpr ⟨uw_148, List.forall_mem_cons.mpr ⟨uw_149, List.forall_mem_cons.mpr ⟨uw_145, tw_nil⟩⟩⟩⟩, List.forall_mem_append.mpr ⟨twX90, List.forall_mem_append.mpr ⟨twX9_costOf, tw_nil⟩⟩⟩⟩
set_option maxRecDepth 20000 in
theorem uw_160 : (Cond.methodLink RX9 189 yX9_layCosts) ∈ lw_tbl := tb_5 _ (List.mem_of_getElem? (i := 64) (by first | rfl | decide +kernel))
set_option maxRecDepth 20000 in
theorem uw_161 : (Cond.instanceMethod yX9_layCosts) ∈ lw_tbl := tb_5 _ (List.mem_of_getElem? (i := 66) (by first | rfl | decide +kernel))
set_option maxRecDepth 20000 in
theorem uw_162 : (Cond.selects RX9 yX9_layCosts yX9_layCosts) ∈ lw_tbl := List.mem_of_getElem? (i := 42) (by first | rfl | decide +kernel)
set_option maxRecDepth 20000 in
theorem uw_163 : (Cond.methodLink RX9 193 yX9_leastSound) ∈ lw_tbl := tb_5 _ (List.mem_of_getElem? (i := 82) (by first | rfl | decide +kernel))
set_option maxRecDepth 20000 in
theorem uw_164 : (Cond.instanceMethod yX9_leastSound) ∈ lw_tbl := tb_5 _ (List.mem_of_getElem? (i := 84) (by first | rfl | decide +kernel))
set_option maxRecDepth 20000 in
theorem uw_165 : (Cond.selects RX9 yX9_leastSound yX9_leastSound) ∈ lw_tbl := List.mem_of_getElem? (i := 45) (by first | rfl | decide +kernel)
set_option maxRecDepth 20000 in
theorem twX9_rebuild : ∀ w ∈ wsX9_rebuild, w ∈ lw_tbl := List.forall_mem_cons.mpr ⟨tb_5 _ (List.mem_of_getElem? (i := 63) (by first | rfl | decide +kernel)), List.forall_mem_append.mpr ⟨List.forall_mem_cons.mpr ⟨uw_87, List.forall_mem_cons.mpr ⟨uw_86, List.forall_mem_cons.mpr ⟨uw_160, List.forall_mem_cons.mpr ⟨uw_161, List.forall_mem_cons.mpr ⟨uw_162, List.forall_mem_cons.mpr ⟨uw_145, List.forall_mem_cons.mpr ⟨uw_150, List.forall_mem_cons.mpr ⟨uw_151, List.forall_mem_cons.mpr ⟨uw_152, List.forall_mem_cons.mpr ⟨uw_163, List.forall_mem_cons.mpr ⟨uw_164, List.forall_mem_cons.mpr ⟨uw_165, List.forall_mem_cons.mpr ⟨uw_153, List.forall_mem_cons.mpr ⟨uw_154, List.forall_mem_cons.mpr ⟨uw_158, List.forall_mem_cons.mpr ⟨uw_159, tw_nil⟩⟩⟩⟩⟩⟩⟩⟩⟩⟩⟩⟩⟩⟩⟩⟩, List.forall_mem_append.mpr ⟨twX90, List.forall_mem_append.mpr ⟨twX9_layCosts, List.forall_mem_append.mpr ⟨twX9_nodesBy, List.forall_mem_append.mpr ⟨twX9_leastSound, List.forall_mem_append.mpr ⟨twX9_belowFirst, List.forall_mem_append.mpr ⟨twX9_belowSecond, tw_nil⟩⟩⟩⟩⟩⟩⟩⟩
set_option maxRecDepth 20000 in
theorem uw_166 : (Cond.constantLong RX9 277 (1103515245)) ∈ lw_tbl := tb_5 _ (List.mem_of_getElem? (i := 225) (by first | rfl | decide +kernel))
set_option maxRecDepth 20000 in
theorem uw_167 : (Cond.fieldLink RX9 279 "SoundLawsModel" "seedNow" "I") ∈ lw_tbl := tb_4 _ (List.mem_of_getElem? (i := 112) (by first | rfl | decide +kernel))
set_option maxRecDepth 20000 in
theorem uw_168 : (Cond.constantLong RX9 282 (12345)) ∈ lw_tbl := tb_5 _ (List.mem_of_getElem? (i := 226) (by first | rfl | decide +kernel))
set_option maxRecDepth 20000 in
theorem uw_169 : (Cond.constantLong RX9 284 (2147483647)) ∈ lw_tbl := tb_5 _ (List.mem_of_getElem? (i := 227) (by first | rfl | decide +kernel))
set_option maxRecDepth 20000 in
theorem uw_170 : (Cond.constant RX9 286 (65536)) ∈ lw_tbl := tb_5 _ (List.mem_of_getElem? (i := 228) (by first | rfl | decide +kernel))
set_option maxRecDepth 20000 in
theorem twX9_draw : ∀ w ∈ wsX9_draw, w ∈ lw_tbl := List.forall_mem_cons.mpr ⟨tb_5 _ (List.mem_of_getElem? (i := 224) (by first | rfl | decide +kernel)), List.forall_mem_append.mpr ⟨List.forall_mem_cons.mpr ⟨uw_166, List.forall_mem_cons.mpr ⟨uw_167, List.forall_mem_cons.mpr ⟨uw_168, List.forall_mem_cons.mpr ⟨uw_169, List.forall_mem_cons.mpr ⟨uw_170, tw_nil⟩⟩⟩⟩⟩, List.forall_mem_append.mpr ⟨twX90, tw_nil⟩⟩⟩
set_option maxRecDepth 20000 in
theorem uw_171 : (Cond.constantLong RX9 287 (40)) ∈ lw_tbl := tb_5 _ (List.mem_of_getElem? (i := 220) (by first | rfl | decide +kernel))
set_option maxRecDepth 20000 in
theorem uw_172 : (Cond.constantLong RX9 221 (2)) ∈ lw_tbl := tb_5 _ (List.mem_of_getElem? (i := 47) (by first | rfl | decide +kernel))
set_option maxRecDepth 20000 in
theorem uw_173 : (Cond.methodLink RX9 289 yX9_draw) ∈ lw_tbl := tb_5 _ (List.mem_of_getElem? (i := 221) (by first | rfl | decide +kernel))
set_option maxRecDepth 20000 in
theorem uw_174 : (Cond.instanceMethod yX9_draw) ∈ lw_tbl := tb_5 _ (List.mem_of_getElem? (i := 223) (by first | rfl | decide +kernel))
set_option maxRecDepth 20000 in
theorem uw_175 : (Cond.selects RX9 yX9_draw yX9_draw) ∈ lw_tbl := List.mem_of_getElem? (i := 63) (by first | rfl | decide +kernel)
set_option maxRecDepth 20000 in
theorem uw_176 : (Cond.methodLink RX9 199 yX9_rebuild) ∈ lw_tbl := tb_5 _ (List.mem_of_getElem? (i := 60) (by first | rfl | decide +kernel))
set_option maxRecDepth 20000 in
theorem uw_177 : (Cond.instanceMethod yX9_rebuild) ∈ lw_tbl := tb_5 _ (List.mem_of_getElem? (i := 62) (by first | rfl | decide +kernel))
set_option maxRecDepth 20000 in
theorem uw_178 : (Cond.selects RX9 yX9_rebuild yX9_rebuild) ∈ lw_tbl := List.mem_of_getElem? (i := 41) (by first | rfl | decide +kernel)
set_option maxRecDepth 20000 in
theorem twX9_drawn : ∀ w ∈ wsX9_drawn, w ∈ lw_tbl := List.forall_mem_cons.mpr ⟨tb_5 _ (List.mem_of_getElem? (i := 219) (by first | rfl | decide +kernel)), List.forall_mem_append.mpr ⟨List.forall_mem_cons.mpr ⟨uw_171, List.forall_mem_cons.mpr ⟨uw_172, List.forall_mem_cons.mpr ⟨uw_167, List.forall_mem_cons.mpr ⟨uw_88, List.forall_mem_cons.mpr ⟨uw_87, List.forall_mem_cons.mpr ⟨uw_143, List.forall_mem_cons.mpr ⟨uw_144, List.forall_mem_cons.mpr ⟨uw_145, List.forall_mem_cons.mpr ⟨uw_173, List.forall_mem_cons.mpr ⟨uw_174, List.forall_mem_cons.mpr ⟨uw_175, List.forall_mem_cons.mpr ⟨uw_176, List.forall_mem_cons.mpr ⟨uw_177, List.forall_mem_cons.mpr ⟨uw_178, tw_nil⟩⟩⟩⟩⟩⟩⟩⟩⟩⟩⟩⟩⟩⟩, List.forall_mem_append.mpr ⟨twX90, List.forall_mem_append.mpr ⟨twX9_in, List.forall_mem_append.mpr ⟨twX9_draw, List.forall_mem_append.mpr ⟨twX9_rebuild, tw_nil⟩⟩⟩⟩⟩⟩
set_option maxRecDepth 20000 in
theorem uw_179 : (Cond.fieldLink RX8 93 "SoundLaws$Stock" "size" "I") ∈ lw_tbl := tb_1 _ (List.mem_of_getElem? (i := 43) (by first | rfl | decide +kernel))
set_option maxRecDepth 20000 in
theorem twX8_isSet : ∀ w ∈ wsX8_isSet, w ∈ lw_tbl := List.forall_mem_cons.mpr ⟨tb_2 _ (List.mem_of_getElem? (i := 215) (by first | rfl | decide +kernel)), List.forall_mem_append.mpr ⟨List.forall_mem_cons.mpr ⟨uw_55, List.forall_mem_cons.mpr ⟨uw_179, tw_nil⟩⟩, List.forall_mem_append.mpr ⟨twX80, List.forall_mem_append.mpr ⟨twX50, tw_nil⟩⟩⟩⟩
set_option maxRecDepth 20000 in
theorem uw_180 : (Cond.fieldLink RX8 234 "SoundLaws$Stock" "tongues" "I") ∈ lw_tbl := tb_1 _ (List.mem_of_getElem? (i := 47) (by first | rfl | decide +kernel))
set_option maxRecDepth 20000 in
theorem twX8_isTongue : ∀ w ∈ wsX8_isTongue, w ∈ lw_tbl := List.forall_mem_cons.mpr ⟨tb_3 _ (List.mem_of_getElem? (i := 149) (by first | rfl | decide +kernel)), List.forall_mem_append.mpr ⟨List.forall_mem_cons.mpr ⟨uw_55, List.forall_mem_cons.mpr ⟨uw_180, tw_nil⟩⟩, List.forall_mem_append.mpr ⟨twX80, List.forall_mem_append.mpr ⟨twX50, tw_nil⟩⟩⟩⟩
set_option maxRecDepth 20000 in
theorem uw_181 : (Cond.fieldLink RX8 288 "SoundLaws" "COSTS" "[I") ∈ lw_tbl := tb_3 _ (List.mem_of_getElem? (i := 31) (by first | rfl | decide +kernel))
set_option maxRecDepth 20000 in
theorem twX8_costOf : ∀ w ∈ wsX8_costOf, w ∈ lw_tbl := List.forall_mem_cons.mpr ⟨tb_3 _ (List.mem_of_getElem? (i := 30) (by first | rfl | decide +kernel)), List.forall_mem_append.mpr ⟨List.forall_mem_cons.mpr ⟨uw_181, tw_nil⟩, tw_nil⟩⟩
set_option maxRecDepth 20000 in
theorem uw_182 : (Cond.fieldLink RX4 22 "SoundLaws$Sightings" "size" "I") ∈ lw_tbl := tb_1 _ (List.mem_of_getElem? (i := 103) (by first | rfl | decide +kernel))
set_option maxRecDepth 20000 in
theorem twX4_clear : ∀ w ∈ wsX4_clear, w ∈ lw_tbl := List.forall_mem_cons.mpr ⟨tb_2 _ (List.mem_of_getElem? (i := 207) (by first | rfl | decide +kernel)), List.forall_mem_append.mpr ⟨List.forall_mem_cons.mpr ⟨uw_182, tw_nil⟩, List.forall_mem_append.mpr ⟨twX40, tw_nil⟩⟩⟩
set_option maxRecDepth 20000 in
theorem uw_183 : (Cond.fieldLink RX8 61 "SoundLaws" "letters" "I") ∈ lw_tbl := tb_2 _ (List.mem_of_getElem? (i := 2) (by first | rfl | decide +kernel))
set_option maxRecDepth 20000 in
theorem twX8_letter : ∀ w ∈ wsX8_letter, w ∈ lw_tbl := List.forall_mem_cons.mpr ⟨tb_2 _ (List.mem_of_getElem? (i := 44) (by first | rfl | decide +kernel)), List.forall_mem_append.mpr ⟨List.forall_mem_cons.mpr ⟨uw_183, List.forall_mem_cons.mpr ⟨uw_48, tw_nil⟩⟩, List.forall_mem_append.mpr ⟨twX80, tw_nil⟩⟩⟩
set_option maxRecDepth 20000 in
theorem twX8_blank : ∀ w ∈ wsX8_blank, w ∈ lw_tbl := List.forall_mem_cons.mpr ⟨tb_2 _ (List.mem_of_getElem? (i := 48) (by first | rfl | decide +kernel)), List.forall_mem_append.mpr ⟨List.forall_mem_cons.mpr ⟨uw_183, tw_nil⟩, List.forall_mem_append.mpr ⟨twX80, tw_nil⟩⟩⟩
set_option maxRecDepth 20000 in
theorem uw_184 : (Cond.fieldLink RX3 18 "SoundLaws$Stock" "size" "I") ∈ lw_tbl := tb_1 _ (List.mem_of_getElem? (i := 41) (by first | rfl | decide +kernel))
set_option maxRecDepth 20000 in
theorem uw_185 : (Cond.fieldLink RX3 22 "SoundLaws$Stock" "tongues" "I") ∈ lw_tbl := tb_1 _ (List.mem_of_getElem? (i := 46) (by first | rfl | decide +kernel))
set_option maxRecDepth 20000 in
theorem uw_186 : (Cond.fieldLink RX3 25 "SoundLaws$Reader" "kindIsDue" "Z") ∈ lw_tbl := tb_1 _ (List.mem_of_getElem? (i := 74) (by first | rfl | decide +kernel))
set_option maxRecDepth 20000 in
theorem uw_187 : (Cond.fieldLink RX3 29 "SoundLaws$Reader" "hasSilentWord" "Z") ∈ lw_tbl := tb_1 _ (List.mem_of_getElem? (i := 79) (by first | rfl | decide +kernel))
set_option maxRecDepth 20000 in
theorem twX3_start : ∀ w ∈ wsX3_start, w ∈ lw_tbl := List.forall_mem_cons.mpr ⟨tb_2 _ (List.mem_of_getElem? (i := 60) (by first | rfl | decide +kernel)), List.forall_mem_append.mpr ⟨List.forall_mem_cons.mpr ⟨uw_35, List.forall_mem_cons.mpr ⟨uw_184, List.forall_mem_cons.mpr ⟨uw_185, List.forall_mem_cons.mpr ⟨uw_186, List.forall_mem_cons.mpr ⟨uw_187, tw_nil⟩⟩⟩⟩⟩, List.forall_mem_append.mpr ⟨twX30, List.forall_mem_append.mpr ⟨twX50, tw_nil⟩⟩⟩⟩
set_option maxRecDepth 20000 in
theorem uw_188 : (Cond.fieldLink RJ0 38 "java/lang/String" "COMPACT_STRINGS" "Z") ∈ lw_tbl := tb_2 _ (List.mem_of_getElem? (i := 78) (by first | rfl | decide +kernel))
set_option maxRecDepth 20000 in
theorem uw_189 : (Cond.fieldLink RJ0 15 "java/lang/String" "coder" "B") ∈ lw_tbl := tb_6 _ (List.mem_of_getElem? (i := 38) (by first | rfl | decide +kernel))
set_option maxRecDepth 20000 in
theorem twJ0_isLatin1_aae02 : ∀ w ∈ wsJ0_isLatin1_aae02, w ∈ lw_tbl := List.forall_mem_cons.mpr ⟨tb_2 _ (List.mem_of_getElem? (i := 77) (by first | rfl | decide +kernel)), List.forall_mem_append.mpr ⟨List.forall_mem_cons.mpr ⟨uw_188, List.forall_mem_cons.mpr ⟨uw_189, tw_nil⟩⟩, tw_nil⟩⟩
set_option maxRecDepth 20000 in
theorem twJ0_coder_7d493 : ∀ w ∈ wsJ0_coder_7d493, w ∈ lw_tbl := List.forall_mem_cons.mpr ⟨tb_2 _ (List.mem_of_getElem? (i := 87) (by first | rfl | decide +kernel)), List.forall_mem_append.mpr ⟨List.forall_mem_cons.mpr ⟨uw_188, List.forall_mem_cons.mpr ⟨uw_189, tw_nil⟩⟩, tw_nil⟩⟩
set_option maxRecDepth 20000 in
theorem uw_190 : (Cond.fieldLink RJ0 9 "java/lang/String" "value" "[B") ∈ lw_tbl := tb_6 _ (List.mem_of_getElem? (i := 39) (by first | rfl | decide +kernel))
set_option maxRecDepth 20000 in
theorem uw_191 : (Cond.methodLink RJ0 335 yJ0_coder_7d493) ∈ lw_tbl := tb_2 _ (List.mem_of_getElem? (i := 84) (by first | rfl | decide +kernel))
set_option maxRecDepth 20000 in
theorem uw_192 : (Cond.instanceMethod yJ0_coder_7d493) ∈ lw_tbl := tb_2 _ (List.mem_of_getElem? (i := 85) (by first | rfl | decide +kernel))
set_option maxRecDepth 20000 in
theorem uw_193 : (Cond.selects RJ0 yJ0_coder_7d493 yJ0_coder_7d493) ∈ lw_tbl := tb_2 _ (List.mem_of_getElem? (i := 86) (by first | rfl | decide +kernel))
set_option maxRecDepth 20000 in
theorem uw_194 : (Cond.initialized RJ0) ∈ lw_tbl := tb_1 _ (List.mem_of_getElem? (i := 11) (by first | rfl | decide +kernel))
set_option maxRecDepth 20000 in
theorem twJ0_length_8abf5 : ∀ w ∈ wsJ0_length_8abf5, w ∈ lw_tbl := List.forall_mem_cons.mpr ⟨tb_2 _ (List.mem_of_getElem? (i := 83) (by first | rfl | decide +kernel)), List.forall_mem_append.mpr ⟨List.forall_mem_cons.mpr ⟨uw_190, List.forall_mem_cons.mpr ⟨uw_191, List.forall_mem_cons.mpr ⟨uw_192, List.forall_mem_cons.mpr ⟨uw_193, List.forall_mem_cons.mpr ⟨uw_194, tw_nil⟩⟩⟩⟩⟩, List.forall_mem_append.mpr ⟨twJ0_coder_7d493, tw_nil⟩⟩⟩
set_option maxRecDepth 20000 in
theorem twJ1_canEncode_9a6ad : ∀ w ∈ wsJ1_canEncode_9a6ad, w ∈ lw_tbl := List.forall_mem_cons.mpr ⟨tb_2 _ (List.mem_of_getElem? (i := 93) (by first | rfl | decide +kernel)), List.forall_mem_append.mpr ⟨tw_nil, tw_nil⟩⟩
set_option maxRecDepth 20000 in
theorem twJ1_indexOfChar_4cfef : ∀ w ∈ wsJ1_indexOfChar_4cfef, w ∈ lw_tbl := List.forall_mem_cons.mpr ⟨tb_2 _ (List.mem_of_getElem? (i := 102) (by first | rfl | decide +kernel)), List.forall_mem_append.mpr ⟨tw_nil, tw_nil⟩⟩
set_option maxRecDepth 20000 in
theorem uw_195 : (Cond.methodLink RJ1 92 Lib.Math.max.name) ∈ lw_tbl := tb_2 _ (List.mem_of_getElem? (i := 94) (by first | rfl | decide +kernel))
set_option maxRecDepth 20000 in
theorem uw_196 : (Cond.static Lib.Math.max.name) ∈ lw_tbl := tb_2 _ (List.mem_of_getElem? (i := 95) (by first | rfl | decide +kernel))
set_option maxRecDepth 20000 in
theorem uw_197 : (Cond.initialized "java/lang/Math") ∈ lw_tbl := tb_1 _ (List.mem_of_getElem? (i := 13) (by first | rfl | decide +kernel))
set_option maxRecDepth 20000 in
theorem uw_198 : (Cond.code Lib.Math.max.name Lib.Math.max.code 2 (some .int)) ∈ lw_tbl := tb_2 _ (List.mem_of_getElem? (i := 96) (by first | rfl | decide +kernel))
set_option maxRecDepth 20000 in
theorem uw_199 : (Cond.methodLink RJ1 38 Lib.Math.min.name) ∈ lw_tbl := tb_2 _ (List.mem_of_getElem? (i := 97) (by first | rfl | decide +kernel))
set_option maxRecDepth 20000 in
theorem uw_200 : (Cond.static Lib.Math.min.name) ∈ lw_tbl := tb_2 _ (List.mem_of_getElem? (i := 98) (by first | rfl | decide +kernel))
set_option maxRecDepth 20000 in
theorem uw_201 : (Cond.code Lib.Math.min.name Lib.Math.min.code 2 (some .int)) ∈ lw_tbl := tb_2 _ (List.mem_of_getElem? (i := 99) (by first | rfl | decide +kernel))
set_option maxRecDepth 20000 in
theorem uw_202 : (Cond.methodLink RJ1 88 yJ1_canEncode_9a6ad) ∈ lw_tbl := tb_2 _ (List.mem_of_getElem? (i := 91) (by first | rfl | decide +kernel))
set_option maxRecDepth 20000 in
theorem uw_203 : (Cond.static yJ1_canEncode_9a6ad) ∈ lw_tbl := tb_2 _ (List.mem_of_getElem? (i := 92) (by first | rfl | decide +kernel))
set_option maxRecDepth 20000 in
theorem uw_204 : (Cond.initialized RJ1) ∈ lw_tbl := tb_1 _ (List.mem_of_getElem? (i := 12) (by first | rfl | decide +kernel))
set_option maxRecDepth 20000 in
theorem uw_205 : (Cond.methodLink RJ1 95 yJ1_indexOfChar_4cfef) ∈ lw_tbl := tb_2 _ (List.mem_of_getElem? (i := 100) (by first | rfl | decide +kernel))
set_option maxRecDepth 20000 in
theorem uw_206 : (Cond.static yJ1_indexOfChar_4cfef) ∈ lw_tbl := tb_2 _ (List.mem_of_getElem? (i := 101) (by first | rfl | decide +kernel))
set_option maxRecDepth 20000 in
theorem twJ1_indexOf_4cfef : ∀ w ∈ wsJ1_indexOf_4cfef, w ∈ lw_tbl := List.forall_mem_cons.mpr ⟨tb_2 _ (List.mem_of_getElem? (i := 90) (by first | rfl | decide +kernel)), List.forall_mem_append.mpr ⟨List.forall_mem_cons.mpr ⟨uw_195, List.forall_mem_cons.mpr ⟨uw_196, List.forall_mem_cons.mpr ⟨uw_197, List.forall_mem_cons.mpr ⟨uw_198, List.forall_mem_cons.mpr ⟨uw_199, List.forall_mem_cons.mpr ⟨uw_200, List.forall_mem_cons.mpr ⟨uw_201, List.forall_mem_cons.mpr ⟨uw_202, List.forall_mem_cons.mpr ⟨uw_203, List.forall_mem_cons.mpr ⟨uw_204, List.forall_mem_cons.mpr ⟨uw_205, List.forall_mem_cons.mpr ⟨uw_206, tw_nil⟩⟩⟩⟩⟩⟩⟩⟩⟩⟩⟩⟩, List.forall_mem_append.mpr ⟨twJ1_canEncode_9a6ad, List.forall_mem_append.mpr ⟨twJ1_indexOfChar_4cfef, tw_nil⟩⟩⟩⟩
set_option maxRecDepth 20000 in
theorem uw_207 : (Cond.methodLink RJ0 492 yJ0_isLatin1_aae02) ∈ lw_tbl := tb_2 _ (List.mem_of_getElem? (i := 74) (by first | rfl | decide +kernel))
set_option maxRecDepth 20000 in
theorem uw_208 : (Cond.instanceMethod yJ0_isLatin1_aae02) ∈ lw_tbl := tb_2 _ (List.mem_of_getElem? (i := 75) (by first | rfl | decide +kernel))
set_option maxRecDepth 20000 in
theorem uw_209 : (Cond.selects RJ0 yJ0_isLatin1_aae02 yJ0_isLatin1_aae02) ∈ lw_tbl := tb_2 _ (List.mem_of_getElem? (i := 76) (by first | rfl | decide +kernel))
set_option maxRecDepth 20000 in
theorem uw_210 : (Cond.methodLink RJ0 505 yJ0_length_8abf5) ∈ lw_tbl := tb_2 _ (List.mem_of_getElem? (i := 80) (by first | rfl | decide +kernel))
set_option maxRecDepth 20000 in
theorem uw_211 : (Cond.instanceMethod yJ0_length_8abf5) ∈ lw_tbl := tb_2 _ (List.mem_of_getElem? (i := 81) (by first | rfl | decide +kernel))
set_option maxRecDepth 20000 in
theorem uw_212 : (Cond.selects RJ0 yJ0_length_8abf5 yJ0_length_8abf5) ∈ lw_tbl := tb_2 _ (List.mem_of_getElem? (i := 82) (by first | rfl | decide +kernel))
set_option maxRecDepth 20000 in
theorem uw_213 : (Cond.methodLink RJ0 637 yJ1_indexOf_4cfef) ∈ lw_tbl := tb_2 _ (List.mem_of_getElem? (i := 88) (by first | rfl | decide +kernel))
set_option maxRecDepth 20000 in
theorem uw_214 : (Cond.static yJ1_indexOf_4cfef) ∈ lw_tbl := tb_2 _ (List.mem_of_getElem? (i := 89) (by first | rfl | decide +kernel))
set_option maxRecDepth 20000 in
theorem twJ0_indexOf_7cf53 : ∀ w ∈ wsJ0_indexOf_7cf53, w ∈ lw_tbl := List.forall_mem_cons.mpr ⟨tb_2 _ (List.mem_of_getElem? (i := 73) (by first | rfl | decide +kernel)), List.forall_mem_append.mpr ⟨List.forall_mem_cons.mpr ⟨uw_190, List.forall_mem_cons.mpr ⟨uw_207, List.forall_mem_cons.mpr ⟨uw_208, List.forall_mem_cons.mpr ⟨uw_209, List.forall_mem_cons.mpr ⟨uw_194, List.forall_mem_cons.mpr ⟨uw_210, List.forall_mem_cons.mpr ⟨uw_211, List.forall_mem_cons.mpr ⟨uw_212, List.forall_mem_cons.mpr ⟨uw_213, List.forall_mem_cons.mpr ⟨uw_214, List.forall_mem_cons.mpr ⟨uw_204, tw_nil⟩⟩⟩⟩⟩⟩⟩⟩⟩⟩⟩, List.forall_mem_append.mpr ⟨twJ0_isLatin1_aae02, List.forall_mem_append.mpr ⟨twJ0_length_8abf5, List.forall_mem_append.mpr ⟨twJ1_indexOf_4cfef, tw_nil⟩⟩⟩⟩⟩
set_option maxRecDepth 20000 in
theorem uw_215 : (Cond.methodLink RJ0 633 yJ0_indexOf_7cf53) ∈ lw_tbl := tb_2 _ (List.mem_of_getElem? (i := 70) (by first | rfl | decide +kernel))
set_option maxRecDepth 20000 in
theorem uw_216 : (Cond.instanceMethod yJ0_indexOf_7cf53) ∈ lw_tbl := tb_2 _ (List.mem_of_getElem? (i := 71) (by first | rfl | decide +kernel))
set_option maxRecDepth 20000 in
theorem uw_217 : (Cond.selects RJ0 yJ0_indexOf_7cf53 yJ0_indexOf_7cf53) ∈ lw_tbl := tb_2 _ (List.mem_of_getElem? (i := 72) (by first | rfl | decide +kernel))
set_option maxRecDepth 20000 in
theorem twJ0_indexOf_0f7a4 : ∀ w ∈ wsJ0_indexOf_0f7a4, w ∈ lw_tbl := List.forall_mem_cons.mpr ⟨tb_2 _ (List.mem_of_getElem? (i := 69) (by first | rfl | decide +kernel)), List.forall_mem_append.mpr ⟨List.forall_mem_cons.mpr ⟨uw_215, List.forall_mem_cons.mpr ⟨uw_216, List.forall_mem_cons.mpr ⟨uw_217, List.forall_mem_cons.mpr ⟨uw_194, tw_nil⟩⟩⟩⟩, List.forall_mem_append.mpr ⟨twJ0_indexOf_7cf53, tw_nil⟩⟩⟩
set_option maxRecDepth 20000 in
theorem twX8_wordAt : ∀ w ∈ wsX8_wordAt, w ∈ lw_tbl := List.forall_mem_cons.mpr ⟨tb_2 _ (List.mem_of_getElem? (i := 187) (by first | rfl | decide +kernel)), List.forall_mem_append.mpr ⟨tw_nil, tw_nil⟩⟩
set_option maxRecDepth 20000 in
theorem uw_218 : (Cond.fieldLink RX3 62 "SoundLaws$Reader" "tongue" "I") ∈ lw_tbl := tb_1 _ (List.mem_of_getElem? (i := 76) (by first | rfl | decide +kernel))
set_option maxRecDepth 20000 in
theorem uw_219 : (Cond.fieldLink RX3 75 "SoundLaws$Stock" "lengths" "[I") ∈ lw_tbl := tb_1 _ (List.mem_of_getElem? (i := 54) (by first | rfl | decide +kernel))
set_option maxRecDepth 20000 in
theorem uw_220 : (Cond.fieldLink RX3 65 "SoundLaws$Reader" "set" "I") ∈ lw_tbl := tb_1 _ (List.mem_of_getElem? (i := 75) (by first | rfl | decide +kernel))
set_option maxRecDepth 20000 in
theorem uw_221 : (Cond.fieldLink RX3 78 "SoundLaws$Reader" "place" "I") ∈ lw_tbl := tb_1 _ (List.mem_of_getElem? (i := 77) (by first | rfl | decide +kernel))
set_option maxRecDepth 20000 in
theorem uw_222 : (Cond.fieldLink RX3 81 "SoundLaws$Stock" "words" "[I") ∈ lw_tbl := tb_1 _ (List.mem_of_getElem? (i := 57) (by first | rfl | decide +kernel))
set_option maxRecDepth 20000 in
theorem uw_223 : (Cond.static yX8_wordAt) ∈ lw_tbl := tb_2 _ (List.mem_of_getElem? (i := 186) (by first | rfl | decide +kernel))
set_option maxRecDepth 20000 in
theorem uw_224 : (Cond.fieldLink RX3 88 "SoundLaws$Reader" "wordIsSilent" "Z") ∈ lw_tbl := tb_1 _ (List.mem_of_getElem? (i := 78) (by first | rfl | decide +kernel))
set_option maxRecDepth 20000 in
theorem twX3_acceptsSound : ∀ w ∈ wsX3_acceptsSound, w ∈ lw_tbl := List.forall_mem_cons.mpr ⟨tb_2 _ (List.mem_of_getElem? (i := 184) (by first | rfl | decide +kernel)), List.forall_mem_append.mpr ⟨List.forall_mem_cons.mpr ⟨uw_218, List.forall_mem_cons.mpr ⟨uw_35, List.forall_mem_cons.mpr ⟨uw_219, List.forall_mem_cons.mpr ⟨uw_220, List.forall_mem_cons.mpr ⟨uw_221, List.forall_mem_cons.mpr ⟨uw_222, List.forall_mem_cons.mpr ⟨uw_105, List.forall_mem_cons.mpr ⟨uw_223, List.forall_mem_cons.mpr ⟨uw_224, tw_nil⟩⟩⟩⟩⟩⟩⟩⟩⟩, List.forall_mem_append.mpr ⟨twX30, List.forall_mem_append.mpr ⟨twX50, List.forall_mem_append.mpr ⟨twX8_wordAt, tw_nil⟩⟩⟩⟩⟩
set_option maxRecDepth 20000 in
theorem twX3_wordIsWhole : ∀ w ∈ wsX3_wordIsWhole, w ∈ lw_tbl := List.forall_mem_cons.mpr ⟨tb_2 _ (List.mem_of_getElem? (i := 167) (by first | rfl | decide +kernel)), List.forall_mem_append.mpr ⟨List.forall_mem_cons.mpr ⟨uw_218, List.forall_mem_cons.mpr ⟨uw_221, List.forall_mem_cons.mpr ⟨uw_35, List.forall_mem_cons.mpr ⟨uw_219, List.forall_mem_cons.mpr ⟨uw_220, tw_nil⟩⟩⟩⟩⟩, List.forall_mem_append.mpr ⟨twX30, List.forall_mem_append.mpr ⟨twX50, tw_nil⟩⟩⟩⟩
set_option maxRecDepth 20000 in
theorem uw_225 : (Cond.methodLink RX3 91 yX3_wordIsWhole) ∈ lw_tbl := tb_2 _ (List.mem_of_getElem? (i := 164) (by first | rfl | decide +kernel))
set_option maxRecDepth 20000 in
theorem uw_226 : (Cond.instanceMethod yX3_wordIsWhole) ∈ lw_tbl := tb_2 _ (List.mem_of_getElem? (i := 166) (by first | rfl | decide +kernel))
set_option maxRecDepth 20000 in
theorem uw_227 : (Cond.selects RX3 yX3_wordIsWhole yX3_wordIsWhole) ∈ lw_tbl := List.mem_of_getElem? (i := 4) (by first | rfl | decide +kernel)
set_option maxRecDepth 20000 in
theorem twX3_setIsWhole : ∀ w ∈ wsX3_setIsWhole, w ∈ lw_tbl := List.forall_mem_cons.mpr ⟨tb_2 _ (List.mem_of_getElem? (i := 179) (by first | rfl | decide +kernel)), List.forall_mem_append.mpr ⟨List.forall_mem_cons.mpr ⟨uw_218, List.forall_mem_cons.mpr ⟨uw_35, List.forall_mem_cons.mpr ⟨uw_185, List.forall_mem_cons.mpr ⟨uw_225, List.forall_mem_cons.mpr ⟨uw_226, List.forall_mem_cons.mpr ⟨uw_227, List.forall_mem_cons.mpr ⟨uw_51, tw_nil⟩⟩⟩⟩⟩⟩⟩, List.forall_mem_append.mpr ⟨twX30, List.forall_mem_append.mpr ⟨twX50, List.forall_mem_append.mpr ⟨twX3_wordIsWhole, tw_nil⟩⟩⟩⟩⟩
set_option maxRecDepth 20000 in
theorem twX3_closeWord : ∀ w ∈ wsX3_closeWord, w ∈ lw_tbl := List.forall_mem_cons.mpr ⟨tb_2 _ (List.mem_of_getElem? (i := 171) (by first | rfl | decide +kernel)), List.forall_mem_append.mpr ⟨List.forall_mem_cons.mpr ⟨uw_35, List.forall_mem_cons.mpr ⟨uw_219, List.forall_mem_cons.mpr ⟨uw_220, List.forall_mem_cons.mpr ⟨uw_221, List.forall_mem_cons.mpr ⟨uw_224, List.forall_mem_cons.mpr ⟨uw_187, tw_nil⟩⟩⟩⟩⟩⟩, List.forall_mem_append.mpr ⟨twX30, List.forall_mem_append.mpr ⟨twX50, tw_nil⟩⟩⟩⟩
set_option maxRecDepth 20000 in
theorem uw_228 : (Cond.methodLink RX3 56 yX3_setIsWhole) ∈ lw_tbl := tb_2 _ (List.mem_of_getElem? (i := 176) (by first | rfl | decide +kernel))
set_option maxRecDepth 20000 in
theorem uw_229 : (Cond.instanceMethod yX3_setIsWhole) ∈ lw_tbl := tb_2 _ (List.mem_of_getElem? (i := 178) (by first | rfl | decide +kernel))
set_option maxRecDepth 20000 in
theorem uw_230 : (Cond.selects RX3 yX3_setIsWhole yX3_setIsWhole) ∈ lw_tbl := List.mem_of_getElem? (i := 7) (by first | rfl | decide +kernel)
set_option maxRecDepth 20000 in
theorem uw_231 : (Cond.methodLink RX3 59 yX3_closeWord) ∈ lw_tbl := tb_2 _ (List.mem_of_getElem? (i := 168) (by first | rfl | decide +kernel))
set_option maxRecDepth 20000 in
theorem uw_232 : (Cond.instanceMethod yX3_closeWord) ∈ lw_tbl := tb_2 _ (List.mem_of_getElem? (i := 170) (by first | rfl | decide +kernel))
set_option maxRecDepth 20000 in
theorem uw_233 : (Cond.selects RX3 yX3_closeWord yX3_closeWord) ∈ lw_tbl := List.mem_of_getElem? (i := 5) (by first | rfl | decide +kernel)
set_option maxRecDepth 20000 in
theorem twX3_endsSet : ∀ w ∈ wsX3_endsSet, w ∈ lw_tbl := List.forall_mem_cons.mpr ⟨tb_2 _ (List.mem_of_getElem? (i := 175) (by first | rfl | decide +kernel)), List.forall_mem_append.mpr ⟨List.forall_mem_cons.mpr ⟨uw_35, List.forall_mem_cons.mpr ⟨uw_184, List.forall_mem_cons.mpr ⟨uw_218, List.forall_mem_cons.mpr ⟨uw_185, List.forall_mem_cons.mpr ⟨uw_186, List.forall_mem_cons.mpr ⟨uw_228, List.forall_mem_cons.mpr ⟨uw_229, List.forall_mem_cons.mpr ⟨uw_230, List.forall_mem_cons.mpr ⟨uw_51, List.forall_mem_cons.mpr ⟨uw_231, List.forall_mem_cons.mpr ⟨uw_232, List.forall_mem_cons.mpr ⟨uw_233, tw_nil⟩⟩⟩⟩⟩⟩⟩⟩⟩⟩⟩⟩, List.forall_mem_append.mpr ⟨twX30, List.forall_mem_append.mpr ⟨twX50, List.forall_mem_append.mpr ⟨twX3_setIsWhole, List.forall_mem_append.mpr ⟨twX3_closeWord, tw_nil⟩⟩⟩⟩⟩⟩
set_option maxRecDepth 20000 in
theorem twX3_openWord : ∀ w ∈ wsX3_openWord, w ∈ lw_tbl := List.forall_mem_cons.mpr ⟨tb_2 _ (List.mem_of_getElem? (i := 159) (by first | rfl | decide +kernel)), List.forall_mem_append.mpr ⟨List.forall_mem_cons.mpr ⟨uw_221, List.forall_mem_cons.mpr ⟨uw_224, tw_nil⟩⟩, List.forall_mem_append.mpr ⟨twX30, tw_nil⟩⟩⟩
set_option maxRecDepth 20000 in
theorem uw_234 : (Cond.methodLink RX3 72 yX3_openWord) ∈ lw_tbl := tb_2 _ (List.mem_of_getElem? (i := 156) (by first | rfl | decide +kernel))
set_option maxRecDepth 20000 in
theorem uw_235 : (Cond.instanceMethod yX3_openWord) ∈ lw_tbl := tb_2 _ (List.mem_of_getElem? (i := 158) (by first | rfl | decide +kernel))
set_option maxRecDepth 20000 in
theorem uw_236 : (Cond.selects RX3 yX3_openWord yX3_openWord) ∈ lw_tbl := List.mem_of_getElem? (i := 2) (by first | rfl | decide +kernel)
set_option maxRecDepth 20000 in
theorem twX3_endsWord : ∀ w ∈ wsX3_endsWord, w ∈ lw_tbl := List.forall_mem_cons.mpr ⟨tb_2 _ (List.mem_of_getElem? (i := 163) (by first | rfl | decide +kernel)), List.forall_mem_append.mpr ⟨List.forall_mem_cons.mpr ⟨uw_35, List.forall_mem_cons.mpr ⟨uw_185, List.forall_mem_cons.mpr ⟨uw_218, List.forall_mem_cons.mpr ⟨uw_225, List.forall_mem_cons.mpr ⟨uw_226, List.forall_mem_cons.mpr ⟨uw_227, List.forall_mem_cons.mpr ⟨uw_51, List.forall_mem_cons.mpr ⟨uw_231, List.forall_mem_cons.mpr ⟨uw_232, List.forall_mem_cons.mpr ⟨uw_233, List.forall_mem_cons.mpr ⟨uw_234, List.forall_mem_cons.mpr ⟨uw_235, List.forall_mem_cons.mpr ⟨uw_236, tw_nil⟩⟩⟩⟩⟩⟩⟩⟩⟩⟩⟩⟩⟩, List.forall_mem_append.mpr ⟨twX30, List.forall_mem_append.mpr ⟨twX50, List.forall_mem_append.mpr ⟨twX3_wordIsWhole, List.forall_mem_append.mpr ⟨twX3_closeWord, List.forall_mem_append.mpr ⟨twX3_openWord, tw_nil⟩⟩⟩⟩⟩⟩⟩
set_option maxRecDepth 20000 in
theorem uw_237 : (Cond.fieldLink RX3 68 "SoundLaws$Stock" "kinds" "[I") ∈ lw_tbl := tb_1 _ (List.mem_of_getElem? (i := 49) (by first | rfl | decide +kernel))
set_option maxRecDepth 20000 in
theorem twX3_acceptsKind : ∀ w ∈ wsX3_acceptsKind, w ∈ lw_tbl := List.forall_mem_cons.mpr ⟨tb_2 _ (List.mem_of_getElem? (i := 155) (by first | rfl | decide +kernel)), List.forall_mem_append.mpr ⟨List.forall_mem_cons.mpr ⟨uw_35, List.forall_mem_cons.mpr ⟨uw_184, List.forall_mem_cons.mpr ⟨uw_220, List.forall_mem_cons.mpr ⟨uw_237, List.forall_mem_cons.mpr ⟨uw_218, List.forall_mem_cons.mpr ⟨uw_186, List.forall_mem_cons.mpr ⟨uw_234, List.forall_mem_cons.mpr ⟨uw_235, List.forall_mem_cons.mpr ⟨uw_236, List.forall_mem_cons.mpr ⟨uw_51, tw_nil⟩⟩⟩⟩⟩⟩⟩⟩⟩⟩, List.forall_mem_append.mpr ⟨twX30, List.forall_mem_append.mpr ⟨twX50, List.forall_mem_append.mpr ⟨twX3_openWord, tw_nil⟩⟩⟩⟩⟩
set_option maxRecDepth 20000 in
theorem uw_238 : (Cond.methodLink RX3 34 yJ0_indexOf_0f7a4) ∈ lw_tbl := tb_2 _ (List.mem_of_getElem? (i := 66) (by first | rfl | decide +kernel))
set_option maxRecDepth 20000 in
theorem uw_239 : (Cond.instanceMethod yJ0_indexOf_0f7a4) ∈ lw_tbl := tb_2 _ (List.mem_of_getElem? (i := 67) (by first | rfl | decide +kernel))
set_option maxRecDepth 20000 in
theorem uw_240 : (Cond.selects RJ0 yJ0_indexOf_0f7a4 yJ0_indexOf_0f7a4) ∈ lw_tbl := tb_2 _ (List.mem_of_getElem? (i := 68) (by first | rfl | decide +kernel))
set_option maxRecDepth 20000 in
theorem uw_241 : (Cond.methodLink RX3 53 yX3_acceptsSound) ∈ lw_tbl := tb_2 _ (List.mem_of_getElem? (i := 181) (by first | rfl | decide +kernel))
set_option maxRecDepth 20000 in
theorem uw_242 : (Cond.instanceMethod yX3_acceptsSound) ∈ lw_tbl := tb_2 _ (List.mem_of_getElem? (i := 183) (by first | rfl | decide +kernel))
set_option maxRecDepth 20000 in
theorem uw_243 : (Cond.selects RX3 yX3_acceptsSound yX3_acceptsSound) ∈ lw_tbl := List.mem_of_getElem? (i := 8) (by first | rfl | decide +kernel)
set_option maxRecDepth 20000 in
theorem uw_244 : (Cond.methodLink RX3 48 yX3_endsSet) ∈ lw_tbl := tb_2 _ (List.mem_of_getElem? (i := 172) (by first | rfl | decide +kernel))
set_option maxRecDepth 20000 in
theorem uw_245 : (Cond.instanceMethod yX3_endsSet) ∈ lw_tbl := tb_2 _ (List.mem_of_getElem? (i := 174) (by first | rfl | decide +kernel))
set_option maxRecDepth 20000 in
theorem uw_246 : (Cond.selects RX3 yX3_endsSet yX3_endsSet) ∈ lw_tbl := List.mem_of_getElem? (i := 6) (by first | rfl | decide +kernel)
set_option maxRecDepth 20000 in
theorem uw_247 : (Cond.methodLink RX3 44 yX3_endsWord) ∈ lw_tbl := tb_2 _ (List.mem_of_getElem? (i := 160) (by first | rfl | decide +kernel))
set_option maxRecDepth 20000 in
theorem uw_248 : (Cond.instanceMethod yX3_endsWord) ∈ lw_tbl := tb_2 _ (List.mem_of_getElem? (i := 162) (by first | rfl | decide +kernel))
set_option maxRecDepth 20000 in
theorem uw_249 : (Cond.selects RX3 yX3_endsWord yX3_endsWord) ∈ lw_tbl := List.mem_of_getElem? (i := 3) (by first | rfl | decide +kernel)
set_option maxRecDepth 20000 in
theorem uw_250 : (Cond.methodLink RX3 40 yX3_acceptsKind) ∈ lw_tbl := tb_2 _ (List.mem_of_getElem? (i := 152) (by first | rfl | decide +kernel))
set_option maxRecDepth 20000 in
theorem uw_251 : (Cond.instanceMethod yX3_acceptsKind) ∈ lw_tbl := tb_2 _ (List.mem_of_getElem? (i := 154) (by first | rfl | decide +kernel))
set_option maxRecDepth 20000 in
theorem uw_252 : (Cond.selects RX3 yX3_acceptsKind yX3_acceptsKind) ∈ lw_tbl := List.mem_of_getElem? (i := 1) (by first | rfl | decide +kernel)
set_option maxRecDepth 20000 in
theorem twX3_accepts : ∀ w ∈ wsX3_accepts, w ∈ lw_tbl := List.forall_mem_cons.mpr ⟨tb_2 _ (List.mem_of_getElem? (i := 64) (by first | rfl | decide +kernel)), List.forall_mem_append.mpr ⟨List.forall_mem_cons.mpr ⟨uw_186, List.forall_mem_cons.mpr ⟨uw_238, List.forall_mem_cons.mpr ⟨uw_239, List.forall_mem_cons.mpr ⟨uw_240, List.forall_mem_cons.mpr ⟨uw_194, List.forall_mem_cons.mpr ⟨uw_241, List.forall_mem_cons.mpr ⟨uw_242, List.forall_mem_cons.mpr ⟨uw_243, List.forall_mem_cons.mpr ⟨uw_51, List.forall_mem_cons.mpr ⟨uw_244, List.forall_mem_cons.mpr ⟨uw_245, List.forall_mem_cons.mpr ⟨uw_246, List.forall_mem_cons.mpr ⟨uw_247, List.forall_mem_cons.mpr ⟨uw_248, List.forall_mem_cons.mpr ⟨uw_249, List.forall_mem_cons.mpr ⟨uw_250, List.forall_mem_cons.mpr ⟨uw_251, List.forall_mem_cons.mpr ⟨uw_252, tw_nil⟩⟩⟩⟩⟩⟩⟩⟩⟩⟩⟩⟩⟩⟩⟩⟩⟩⟩, List.forall_mem_append.mpr ⟨twX30, List.forall_mem_append.mpr ⟨twJ0_indexOf_0f7a4, List.forall_mem_append.mpr ⟨twX3_acceptsSound, List.forall_mem_append.mpr ⟨twX3_endsSet, List.forall_mem_append.mpr ⟨twX3_endsWord, List.forall_mem_append.mpr ⟨twX3_acceptsKind, tw_nil⟩⟩⟩⟩⟩⟩⟩⟩
set_option maxRecDepth 20000 in
theorem uw_253 : (Cond.methodLink RX8 248 yX3_start) ∈ lw_tbl := tb_2 _ (List.mem_of_getElem? (i := 57) (by first | rfl | decide +kernel))
set_option maxRecDepth 20000 in
theorem uw_254 : (Cond.instanceMethod yX3_start) ∈ lw_tbl := tb_2 _ (List.mem_of_getElem? (i := 58) (by first | rfl | decide +kernel))
set_option maxRecDepth 20000 in
theorem uw_255 : (Cond.selects RX3 yX3_start yX3_start) ∈ lw_tbl := tb_2 _ (List.mem_of_getElem? (i := 59) (by first | rfl | decide +kernel))
set_option maxRecDepth 20000 in
theorem uw_256 : (Cond.methodLink RX8 251 yX3_accepts) ∈ lw_tbl := tb_2 _ (List.mem_of_getElem? (i := 61) (by first | rfl | decide +kernel))
set_option maxRecDepth 20000 in
theorem uw_257 : (Cond.instanceMethod yX3_accepts) ∈ lw_tbl := tb_2 _ (List.mem_of_getElem? (i := 62) (by first | rfl | decide +kernel))
set_option maxRecDepth 20000 in
theorem uw_258 : (Cond.selects RX3 yX3_accepts yX3_accepts) ∈ lw_tbl := tb_2 _ (List.mem_of_getElem? (i := 63) (by first | rfl | decide +kernel))
set_option maxRecDepth 20000 in
theorem twX8_readPage : ∀ w ∈ wsX8_readPage, w ∈ lw_tbl := List.forall_mem_cons.mpr ⟨tb_2 _ (List.mem_of_getElem? (i := 56) (by first | rfl | decide +kernel)), List.forall_mem_append.mpr ⟨List.forall_mem_cons.mpr ⟨uw_53, List.forall_mem_cons.mpr ⟨uw_183, List.forall_mem_cons.mpr ⟨uw_48, List.forall_mem_cons.mpr ⟨uw_253, List.forall_mem_cons.mpr ⟨uw_254, List.forall_mem_cons.mpr ⟨uw_255, List.forall_mem_cons.mpr ⟨uw_51, List.forall_mem_cons.mpr ⟨uw_256, List.forall_mem_cons.mpr ⟨uw_257, List.forall_mem_cons.mpr ⟨uw_258, tw_nil⟩⟩⟩⟩⟩⟩⟩⟩⟩⟩, List.forall_mem_append.mpr ⟨twX80, List.forall_mem_append.mpr ⟨twX3_start, List.forall_mem_append.mpr ⟨twX3_accepts, tw_nil⟩⟩⟩⟩⟩
set_option maxRecDepth 20000 in
theorem uw_259 : (Cond.methodLink RX8 65 yX8_readPage) ∈ lw_tbl := tb_2 _ (List.mem_of_getElem? (i := 53) (by first | rfl | decide +kernel))
set_option maxRecDepth 20000 in
theorem uw_260 : (Cond.instanceMethod yX8_readPage) ∈ lw_tbl := tb_2 _ (List.mem_of_getElem? (i := 55) (by first | rfl | decide +kernel))
set_option maxRecDepth 20000 in
theorem uw_261 : (Cond.selects RX8 yX8_readPage yX8_readPage) ∈ lw_tbl := List.mem_of_getElem? (i := 0) (by first | rfl | decide +kernel)
set_option maxRecDepth 20000 in
theorem twX8_fault : ∀ w ∈ wsX8_fault, w ∈ lw_tbl := List.forall_mem_cons.mpr ⟨tb_2 _ (List.mem_of_getElem? (i := 52) (by first | rfl | decide +kernel)), List.forall_mem_append.mpr ⟨List.forall_mem_cons.mpr ⟨uw_259, List.forall_mem_cons.mpr ⟨uw_260, List.forall_mem_cons.mpr ⟨uw_261, List.forall_mem_cons.mpr ⟨uw_105, tw_nil⟩⟩⟩⟩, List.forall_mem_append.mpr ⟨twX8_readPage, tw_nil⟩⟩⟩
set_option maxRecDepth 20000 in
theorem twX3_finish : ∀ w ∈ wsX3_finish, w ∈ lw_tbl := List.forall_mem_cons.mpr ⟨tb_2 _ (List.mem_of_getElem? (i := 196) (by first | rfl | decide +kernel)), List.forall_mem_append.mpr ⟨List.forall_mem_cons.mpr ⟨uw_186, List.forall_mem_cons.mpr ⟨uw_35, List.forall_mem_cons.mpr ⟨uw_218, List.forall_mem_cons.mpr ⟨uw_185, List.forall_mem_cons.mpr ⟨uw_187, List.forall_mem_cons.mpr ⟨uw_228, List.forall_mem_cons.mpr ⟨uw_229, List.forall_mem_cons.mpr ⟨uw_230, List.forall_mem_cons.mpr ⟨uw_51, List.forall_mem_cons.mpr ⟨uw_231, List.forall_mem_cons.mpr ⟨uw_232, List.forall_mem_cons.mpr ⟨uw_233, tw_nil⟩⟩⟩⟩⟩⟩⟩⟩⟩⟩⟩⟩, List.forall_mem_append.mpr ⟨twX30, List.forall_mem_append.mpr ⟨twX50, List.forall_mem_append.mpr ⟨twX3_setIsWhole, List.forall_mem_append.mpr ⟨twX3_closeWord, tw_nil⟩⟩⟩⟩⟩⟩
set_option maxRecDepth 20000 in
theorem uw_262 : (Cond.fieldLink RX5 21 "SoundLaws$Stock" "size" "I") ∈ lw_tbl := tb_1 _ (List.mem_of_getElem? (i := 40) (by first | rfl | decide +kernel))
set_option maxRecDepth 20000 in
theorem uw_263 : (Cond.fieldLink RX5 25 "SoundLaws$Stock" "tongues" "I") ∈ lw_tbl := tb_1 _ (List.mem_of_getElem? (i := 45) (by first | rfl | decide +kernel))
set_option maxRecDepth 20000 in
theorem uw_264 : (Cond.methodLink RX5 28 arraycopyName) ∈ lw_tbl := tb_2 _ (List.mem_of_getElem? (i := 201) (by first | rfl | decide +kernel))
set_option maxRecDepth 20000 in
theorem uw_265 : (Cond.native arraycopyName) ∈ lw_tbl := tb_2 _ (List.mem_of_getElem? (i := 203) (by first | rfl | decide +kernel))
set_option maxRecDepth 20000 in
theorem uw_266 : (Cond.static arraycopyName) ∈ lw_tbl := tb_2 _ (List.mem_of_getElem? (i := 202) (by first | rfl | decide +kernel))
set_option maxRecDepth 20000 in
theorem uw_267 : (Cond.initialized "java/lang/System") ∈ lw_tbl := tb_1 _ (List.mem_of_getElem? (i := 17) (by first | rfl | decide +kernel))
set_option maxRecDepth 20000 in
theorem twX5_become : ∀ w ∈ wsX5_become, w ∈ lw_tbl := List.forall_mem_cons.mpr ⟨tb_2 _ (List.mem_of_getElem? (i := 200) (by first | rfl | decide +kernel)), List.forall_mem_append.mpr ⟨List.forall_mem_cons.mpr ⟨uw_262, List.forall_mem_cons.mpr ⟨uw_263, List.forall_mem_cons.mpr ⟨uw_4, List.forall_mem_cons.mpr ⟨uw_264, List.forall_mem_cons.mpr ⟨uw_265, List.forall_mem_cons.mpr ⟨uw_266, List.forall_mem_cons.mpr ⟨uw_267, List.forall_mem_cons.mpr ⟨uw_5, List.forall_mem_cons.mpr ⟨uw_6, tw_nil⟩⟩⟩⟩⟩⟩⟩⟩⟩, List.forall_mem_append.mpr ⟨twX50, tw_nil⟩⟩⟩
set_option maxRecDepth 20000 in
theorem uw_268 : (Cond.fieldLink RX8 73 "SoundLaws$Reader" "draft" "LSoundLaws$Stock;") ∈ lw_tbl := tb_1 _ (List.mem_of_getElem? (i := 73) (by first | rfl | decide +kernel))
set_option maxRecDepth 20000 in
theorem uw_269 : (Cond.fieldLink RX8 83 "SoundLaws" "kept" "Z") ∈ lw_tbl := tb_2 _ (List.mem_of_getElem? (i := 11) (by first | rfl | decide +kernel))
set_option maxRecDepth 20000 in
theorem uw_270 : (Cond.fieldLink RX8 87 "SoundLaws" "studied" "Z") ∈ lw_tbl := tb_2 _ (List.mem_of_getElem? (i := 8) (by first | rfl | decide +kernel))
set_option maxRecDepth 20000 in
theorem uw_271 : (Cond.fieldLink RX8 90 "SoundLaws" "readings" "I") ∈ lw_tbl := tb_2 _ (List.mem_of_getElem? (i := 4) (by first | rfl | decide +kernel))
set_option maxRecDepth 20000 in
theorem uw_272 : (Cond.methodLink RX8 69 yX3_finish) ∈ lw_tbl := tb_2 _ (List.mem_of_getElem? (i := 193) (by first | rfl | decide +kernel))
set_option maxRecDepth 20000 in
theorem uw_273 : (Cond.instanceMethod yX3_finish) ∈ lw_tbl := tb_2 _ (List.mem_of_getElem? (i := 194) (by first | rfl | decide +kernel))
set_option maxRecDepth 20000 in
theorem uw_274 : (Cond.selects RX3 yX3_finish yX3_finish) ∈ lw_tbl := tb_2 _ (List.mem_of_getElem? (i := 195) (by first | rfl | decide +kernel))
set_option maxRecDepth 20000 in
theorem uw_275 : (Cond.methodLink RX8 76 yX5_become) ∈ lw_tbl := tb_2 _ (List.mem_of_getElem? (i := 197) (by first | rfl | decide +kernel))
set_option maxRecDepth 20000 in
theorem uw_276 : (Cond.instanceMethod yX5_become) ∈ lw_tbl := tb_2 _ (List.mem_of_getElem? (i := 198) (by first | rfl | decide +kernel))
set_option maxRecDepth 20000 in
theorem uw_277 : (Cond.selects RX5 yX5_become yX5_become) ∈ lw_tbl := tb_2 _ (List.mem_of_getElem? (i := 199) (by first | rfl | decide +kernel))
set_option maxRecDepth 20000 in
theorem uw_278 : (Cond.methodLink RX8 80 yX4_clear) ∈ lw_tbl := tb_2 _ (List.mem_of_getElem? (i := 204) (by first | rfl | decide +kernel))
set_option maxRecDepth 20000 in
theorem uw_279 : (Cond.instanceMethod yX4_clear) ∈ lw_tbl := tb_2 _ (List.mem_of_getElem? (i := 205) (by first | rfl | decide +kernel))
set_option maxRecDepth 20000 in
theorem uw_280 : (Cond.selects RX4 yX4_clear yX4_clear) ∈ lw_tbl := tb_2 _ (List.mem_of_getElem? (i := 206) (by first | rfl | decide +kernel))
set_option maxRecDepth 20000 in
theorem twX8_sets : ∀ w ∈ wsX8_sets, w ∈ lw_tbl := List.forall_mem_cons.mpr ⟨tb_2 _ (List.mem_of_getElem? (i := 192) (by first | rfl | decide +kernel)), List.forall_mem_append.mpr ⟨List.forall_mem_cons.mpr ⟨uw_183, List.forall_mem_cons.mpr ⟨uw_53, List.forall_mem_cons.mpr ⟨uw_55, List.forall_mem_cons.mpr ⟨uw_268, List.forall_mem_cons.mpr ⟨uw_60, List.forall_mem_cons.mpr ⟨uw_269, List.forall_mem_cons.mpr ⟨uw_270, List.forall_mem_cons.mpr ⟨uw_271, List.forall_mem_cons.mpr ⟨uw_179, List.forall_mem_cons.mpr ⟨uw_259, List.forall_mem_cons.mpr ⟨uw_260, List.forall_mem_cons.mpr ⟨uw_261, List.forall_mem_cons.mpr ⟨uw_105, List.forall_mem_cons.mpr ⟨uw_272, List.forall_mem_cons.mpr ⟨uw_273, List.forall_mem_cons.mpr ⟨uw_274, List.forall_mem_cons.mpr ⟨uw_51, List.forall_mem_cons.mpr ⟨uw_275, List.forall_mem_cons.mpr ⟨uw_276, List.forall_mem_cons.mpr ⟨uw_277, List.forall_mem_cons.mpr ⟨uw_33, List.forall_mem_cons.mpr ⟨uw_278, List.forall_mem_cons.mpr ⟨uw_279, List.forall_mem_cons.mpr ⟨uw_280, List.forall_mem_cons.mpr ⟨uw_58, tw_nil⟩⟩⟩⟩⟩⟩⟩⟩⟩⟩⟩⟩⟩⟩⟩⟩⟩⟩⟩⟩⟩⟩⟩⟩⟩, List.forall_mem_append.mpr ⟨twX80, List.forall_mem_append.mpr ⟨twX30, List.forall_mem_append.mpr ⟨twX50, List.forall_mem_append.mpr ⟨twX8_readPage, List.forall_mem_append.mpr ⟨twX3_finish, List.forall_mem_append.mpr ⟨twX5_become, List.forall_mem_append.mpr ⟨twX4_clear, tw_nil⟩⟩⟩⟩⟩⟩⟩⟩⟩
set_option maxRecDepth 20000 in
theorem twJ7_fill_53178 : ∀ w ∈ wsJ7_fill_53178, w ∈ lw_tbl := List.forall_mem_cons.mpr ⟨tb_3 _ (List.mem_of_getElem? (i := 42) (by first | rfl | decide +kernel)), List.forall_mem_append.mpr ⟨tw_nil, tw_nil⟩⟩
set_option maxRecDepth 20000 in
theorem uw_281 : (Cond.methodLink RX2 24 yJ7_fill_53178) ∈ lw_tbl := tb_3 _ (List.mem_of_getElem? (i := 40) (by first | rfl | decide +kernel))
set_option maxRecDepth 20000 in
theorem uw_282 : (Cond.static yJ7_fill_53178) ∈ lw_tbl := tb_3 _ (List.mem_of_getElem? (i := 41) (by first | rfl | decide +kernel))
set_option maxRecDepth 20000 in
theorem uw_283 : (Cond.initialized RJ7) ∈ lw_tbl := tb_1 _ (List.mem_of_getElem? (i := 18) (by first | rfl | decide +kernel))
set_option maxRecDepth 20000 in
theorem twX2_clear : ∀ w ∈ wsX2_clear, w ∈ lw_tbl := List.forall_mem_cons.mpr ⟨tb_3 _ (List.mem_of_getElem? (i := 39) (by first | rfl | decide +kernel)), List.forall_mem_append.mpr ⟨List.forall_mem_cons.mpr ⟨uw_23, List.forall_mem_cons.mpr ⟨uw_281, List.forall_mem_cons.mpr ⟨uw_282, List.forall_mem_cons.mpr ⟨uw_283, tw_nil⟩⟩⟩⟩, List.forall_mem_append.mpr ⟨twX20, List.forall_mem_append.mpr ⟨twJ7_fill_53178, tw_nil⟩⟩⟩⟩
set_option maxRecDepth 20000 in
theorem twX2_settleLaw : ∀ w ∈ wsX2_settleLaw, w ∈ lw_tbl := List.forall_mem_cons.mpr ⟨tb_3 _ (List.mem_of_getElem? (i := 71) (by first | rfl | decide +kernel)), List.forall_mem_append.mpr ⟨List.forall_mem_cons.mpr ⟨uw_20, List.forall_mem_cons.mpr ⟨uw_21, List.forall_mem_cons.mpr ⟨uw_22, List.forall_mem_cons.mpr ⟨uw_23, tw_nil⟩⟩⟩⟩, List.forall_mem_append.mpr ⟨twX20, tw_nil⟩⟩⟩
set_option maxRecDepth 20000 in
theorem uw_284 : (Cond.fieldLink RX2 30 "SoundLaws$Laws" "known" "I") ∈ lw_tbl := tb_1 _ (List.mem_of_getElem? (i := 135) (by first | rfl | decide +kernel))
set_option maxRecDepth 20000 in
theorem uw_285 : (Cond.fieldLink RX2 34 "SoundLaws$Laws" "exceptionsOfAll" "I") ∈ lw_tbl := tb_1 _ (List.mem_of_getElem? (i := 137) (by first | rfl | decide +kernel))
set_option maxRecDepth 20000 in
theorem uw_286 : (Cond.methodLink RX2 37 yX2_settleLaw) ∈ lw_tbl := tb_3 _ (List.mem_of_getElem? (i := 68) (by first | rfl | decide +kernel))
set_option maxRecDepth 20000 in
theorem uw_287 : (Cond.instanceMethod yX2_settleLaw) ∈ lw_tbl := tb_3 _ (List.mem_of_getElem? (i := 70) (by first | rfl | decide +kernel))
set_option maxRecDepth 20000 in
theorem uw_288 : (Cond.selects RX2 yX2_settleLaw yX2_settleLaw) ∈ lw_tbl := List.mem_of_getElem? (i := 16) (by first | rfl | decide +kernel)
set_option maxRecDepth 20000 in
theorem twX2_settle : ∀ w ∈ wsX2_settle, w ∈ lw_tbl := List.forall_mem_cons.mpr ⟨tb_3 _ (List.mem_of_getElem? (i := 67) (by first | rfl | decide +kernel)), List.forall_mem_append.mpr ⟨List.forall_mem_cons.mpr ⟨uw_284, List.forall_mem_cons.mpr ⟨uw_285, List.forall_mem_cons.mpr ⟨uw_20, List.forall_mem_cons.mpr ⟨uw_22, List.forall_mem_cons.mpr ⟨uw_286, List.forall_mem_cons.mpr ⟨uw_287, List.forall_mem_cons.mpr ⟨uw_288, List.forall_mem_cons.mpr ⟨uw_42, tw_nil⟩⟩⟩⟩⟩⟩⟩⟩, List.forall_mem_append.mpr ⟨twX20, List.forall_mem_append.mpr ⟨twX2_settleLaw, tw_nil⟩⟩⟩⟩
set_option maxRecDepth 20000 in
theorem twX8_nodesAt : ∀ w ∈ wsX8_nodesAt, w ∈ lw_tbl := List.forall_mem_cons.mpr ⟨tb_3 _ (List.mem_of_getElem? (i := 34) (by first | rfl | decide +kernel)), List.forall_mem_append.mpr ⟨tw_nil, tw_nil⟩⟩
set_option maxRecDepth 20000 in
theorem uw_289 : (Cond.static yX8_nodesAt) ∈ lw_tbl := tb_3 _ (List.mem_of_getElem? (i := 33) (by first | rfl | decide +kernel))
set_option maxRecDepth 20000 in
theorem uw_290 : (Cond.fieldLink RX6 35 "SoundLaws$Stock" "tongues" "I") ∈ lw_tbl := tb_1 _ (List.mem_of_getElem? (i := 44) (by first | rfl | decide +kernel))
set_option maxRecDepth 20000 in
theorem twX6_oldSound : ∀ w ∈ wsX6_oldSound, w ∈ lw_tbl := List.forall_mem_cons.mpr ⟨tb_3 _ (List.mem_of_getElem? (i := 52) (by first | rfl | decide +kernel)), List.forall_mem_append.mpr ⟨List.forall_mem_cons.mpr ⟨uw_37, List.forall_mem_cons.mpr ⟨uw_105, List.forall_mem_cons.mpr ⟨uw_289, List.forall_mem_cons.mpr ⟨uw_290, List.forall_mem_cons.mpr ⟨uw_106, tw_nil⟩⟩⟩⟩⟩, List.forall_mem_append.mpr ⟨twX60, List.forall_mem_append.mpr ⟨twX50, List.forall_mem_append.mpr ⟨twX8_nodesAt, List.forall_mem_append.mpr ⟨twX8_nodesOf, tw_nil⟩⟩⟩⟩⟩⟩
set_option maxRecDepth 20000 in
theorem twX8_aheadAt : ∀ w ∈ wsX8_aheadAt, w ∈ lw_tbl := List.forall_mem_cons.mpr ⟨tb_3 _ (List.mem_of_getElem? (i := 56) (by first | rfl | decide +kernel)), List.forall_mem_append.mpr ⟨tw_nil, tw_nil⟩⟩
set_option maxRecDepth 20000 in
theorem twX8_lawAt : ∀ w ∈ wsX8_lawAt, w ∈ lw_tbl := List.forall_mem_cons.mpr ⟨tb_3 _ (List.mem_of_getElem? (i := 59) (by first | rfl | decide +kernel)), List.forall_mem_append.mpr ⟨tw_nil, tw_nil⟩⟩
set_option maxRecDepth 20000 in
theorem uw_291 : (Cond.fieldLink RX6 90 "SoundLaws$Stock" "kinds" "[I") ∈ lw_tbl := tb_1 _ (List.mem_of_getElem? (i := 50) (by first | rfl | decide +kernel))
set_option maxRecDepth 20000 in
theorem uw_292 : (Cond.fieldLink RX6 75 "SoundLaws$Stock" "lengths" "[I") ∈ lw_tbl := tb_1 _ (List.mem_of_getElem? (i := 53) (by first | rfl | decide +kernel))
set_option maxRecDepth 20000 in
theorem uw_293 : (Cond.fieldLink RX6 130 "SoundLaws$Laws" "becomes" "[I") ∈ lw_tbl := tb_1 _ (List.mem_of_getElem? (i := 131) (by first | rfl | decide +kernel))
set_option maxRecDepth 20000 in
theorem uw_294 : (Cond.static yX8_aheadAt) ∈ lw_tbl := tb_3 _ (List.mem_of_getElem? (i := 55) (by first | rfl | decide +kernel))
set_option maxRecDepth 20000 in
theorem uw_295 : (Cond.static yX8_lawAt) ∈ lw_tbl := tb_3 _ (List.mem_of_getElem? (i := 58) (by first | rfl | decide +kernel))
set_option maxRecDepth 20000 in
theorem uw_296 : (Cond.fieldLink RX6 94 "SoundLaws$Stock" "words" "[I") ∈ lw_tbl := tb_1 _ (List.mem_of_getElem? (i := 58) (by first | rfl | decide +kernel))
set_option maxRecDepth 20000 in
theorem uw_297 : (Cond.methodLink RX6 116 yX6_oldSound) ∈ lw_tbl := tb_3 _ (List.mem_of_getElem? (i := 49) (by first | rfl | decide +kernel))
set_option maxRecDepth 20000 in
theorem uw_298 : (Cond.instanceMethod yX6_oldSound) ∈ lw_tbl := tb_3 _ (List.mem_of_getElem? (i := 50) (by first | rfl | decide +kernel))
set_option maxRecDepth 20000 in
theorem uw_299 : (Cond.selects RX6 yX6_oldSound yX6_oldSound) ∈ lw_tbl := tb_3 _ (List.mem_of_getElem? (i := 51) (by first | rfl | decide +kernel))
set_option maxRecDepth 20000 in
theorem twX6_findStrange : ∀ w ∈ wsX6_findStrange, w ∈ lw_tbl := List.forall_mem_cons.mpr ⟨tb_3 _ (List.mem_of_getElem? (i := 75) (by first | rfl | decide +kernel)), List.forall_mem_append.mpr ⟨List.forall_mem_cons.mpr ⟨uw_291, List.forall_mem_cons.mpr ⟨uw_292, List.forall_mem_cons.mpr ⟨uw_290, List.forall_mem_cons.mpr ⟨uw_44, List.forall_mem_cons.mpr ⟨uw_293, List.forall_mem_cons.mpr ⟨uw_105, List.forall_mem_cons.mpr ⟨uw_294, List.forall_mem_cons.mpr ⟨uw_295, List.forall_mem_cons.mpr ⟨uw_296, List.forall_mem_cons.mpr ⟨uw_223, List.forall_mem_cons.mpr ⟨uw_39, List.forall_mem_cons.mpr ⟨uw_297, List.forall_mem_cons.mpr ⟨uw_298, List.forall_mem_cons.mpr ⟨uw_299, List.forall_mem_cons.mpr ⟨uw_63, tw_nil⟩⟩⟩⟩⟩⟩⟩⟩⟩⟩⟩⟩⟩⟩⟩, List.forall_mem_append.mpr ⟨twX50, List.forall_mem_append.mpr ⟨twX60, List.forall_mem_append.mpr ⟨twX20, List.forall_mem_append.mpr ⟨twX6_oldSound, List.forall_mem_append.mpr ⟨twX8_aheadAt, List.forall_mem_append.mpr ⟨twX8_lawAt, List.forall_mem_append.mpr ⟨twX8_wordAt, tw_nil⟩⟩⟩⟩⟩⟩⟩⟩⟩
set_option maxRecDepth 20000 in
theorem twX2_weigh : ∀ w ∈ wsX2_weigh, w ∈ lw_tbl := List.forall_mem_cons.mpr ⟨tb_3 _ (List.mem_of_getElem? (i := 63) (by first | rfl | decide +kernel)), List.forall_mem_append.mpr ⟨List.forall_mem_cons.mpr ⟨uw_23, tw_nil⟩, List.forall_mem_append.mpr ⟨twX20, tw_nil⟩⟩⟩
set_option maxRecDepth 20000 in
theorem uw_300 : (Cond.methodLink RX6 127 yX2_weigh) ∈ lw_tbl := tb_3 _ (List.mem_of_getElem? (i := 60) (by first | rfl | decide +kernel))
set_option maxRecDepth 20000 in
theorem uw_301 : (Cond.instanceMethod yX2_weigh) ∈ lw_tbl := tb_3 _ (List.mem_of_getElem? (i := 61) (by first | rfl | decide +kernel))
set_option maxRecDepth 20000 in
theorem uw_302 : (Cond.selects RX2 yX2_weigh yX2_weigh) ∈ lw_tbl := tb_3 _ (List.mem_of_getElem? (i := 62) (by first | rfl | decide +kernel))
set_option maxRecDepth 20000 in
theorem twX6_weigh : ∀ w ∈ wsX6_weigh, w ∈ lw_tbl := List.forall_mem_cons.mpr ⟨tb_3 _ (List.mem_of_getElem? (i := 46) (by first | rfl | decide +kernel)), List.forall_mem_append.mpr ⟨List.forall_mem_cons.mpr ⟨uw_291, List.forall_mem_cons.mpr ⟨uw_292, List.forall_mem_cons.mpr ⟨uw_290, List.forall_mem_cons.mpr ⟨uw_296, List.forall_mem_cons.mpr ⟨uw_105, List.forall_mem_cons.mpr ⟨uw_223, List.forall_mem_cons.mpr ⟨uw_44, List.forall_mem_cons.mpr ⟨uw_294, List.forall_mem_cons.mpr ⟨uw_295, List.forall_mem_cons.mpr ⟨uw_297, List.forall_mem_cons.mpr ⟨uw_298, List.forall_mem_cons.mpr ⟨uw_299, List.forall_mem_cons.mpr ⟨uw_63, List.forall_mem_cons.mpr ⟨uw_300, List.forall_mem_cons.mpr ⟨uw_301, List.forall_mem_cons.mpr ⟨uw_302, List.forall_mem_cons.mpr ⟨uw_42, tw_nil⟩⟩⟩⟩⟩⟩⟩⟩⟩⟩⟩⟩⟩⟩⟩⟩⟩, List.forall_mem_append.mpr ⟨twX50, List.forall_mem_append.mpr ⟨twX60, List.forall_mem_append.mpr ⟨twX6_oldSound, List.forall_mem_append.mpr ⟨twX8_wordAt, List.forall_mem_append.mpr ⟨twX8_aheadAt, List.forall_mem_append.mpr ⟨twX8_lawAt, List.forall_mem_append.mpr ⟨twX2_weigh, tw_nil⟩⟩⟩⟩⟩⟩⟩⟩⟩
set_option maxRecDepth 20000 in
theorem uw_303 : (Cond.static yX8_costOf) ∈ lw_tbl := tb_3 _ (List.mem_of_getElem? (i := 29) (by first | rfl | decide +kernel))
set_option maxRecDepth 20000 in
theorem twX7_settle : ∀ w ∈ wsX7_settle, w ∈ lw_tbl := List.forall_mem_cons.mpr ⟨tb_3 _ (List.mem_of_getElem? (i := 27) (by first | rfl | decide +kernel)), List.forall_mem_append.mpr ⟨List.forall_mem_cons.mpr ⟨uw_104, List.forall_mem_cons.mpr ⟨uw_105, List.forall_mem_cons.mpr ⟨uw_303, List.forall_mem_cons.mpr ⟨uw_14, List.forall_mem_cons.mpr ⟨uw_13, tw_nil⟩⟩⟩⟩⟩, List.forall_mem_append.mpr ⟨twX70, List.forall_mem_append.mpr ⟨twX8_costOf, tw_nil⟩⟩⟩⟩
set_option maxRecDepth 20000 in
theorem uw_304 : (Cond.methodLink RX7 36 yX7_root) ∈ lw_tbl := tb_3 _ (List.mem_of_getElem? (i := 20) (by first | rfl | decide +kernel))
set_option maxRecDepth 20000 in
theorem uw_305 : (Cond.methodLink RX7 40 yX7_settle) ∈ lw_tbl := tb_3 _ (List.mem_of_getElem? (i := 24) (by first | rfl | decide +kernel))
set_option maxRecDepth 20000 in
theorem uw_306 : (Cond.instanceMethod yX7_settle) ∈ lw_tbl := tb_3 _ (List.mem_of_getElem? (i := 26) (by first | rfl | decide +kernel))
set_option maxRecDepth 20000 in
theorem uw_307 : (Cond.selects RX7 yX7_settle yX7_settle) ∈ lw_tbl := List.mem_of_getElem? (i := 14) (by first | rfl | decide +kernel)
set_option maxRecDepth 20000 in
theorem twX7_descend : ∀ w ∈ wsX7_descend, w ∈ lw_tbl := List.forall_mem_cons.mpr ⟨tb_3 _ (List.mem_of_getElem? (i := 19) (by first | rfl | decide +kernel)), List.forall_mem_append.mpr ⟨List.forall_mem_cons.mpr ⟨uw_104, List.forall_mem_cons.mpr ⟨uw_13, List.forall_mem_cons.mpr ⟨uw_304, List.forall_mem_cons.mpr ⟨uw_131, List.forall_mem_cons.mpr ⟨uw_132, List.forall_mem_cons.mpr ⟨uw_27, List.forall_mem_cons.mpr ⟨uw_107, List.forall_mem_cons.mpr ⟨uw_108, List.forall_mem_cons.mpr ⟨uw_109, List.forall_mem_cons.mpr ⟨uw_305, List.forall_mem_cons.mpr ⟨uw_306, List.forall_mem_cons.mpr ⟨uw_307, tw_nil⟩⟩⟩⟩⟩⟩⟩⟩⟩⟩⟩⟩, List.forall_mem_append.mpr ⟨twX70, List.forall_mem_append.mpr ⟨twX7_root, List.forall_mem_append.mpr ⟨twX7_pairOf, List.forall_mem_append.mpr ⟨twX7_settle, tw_nil⟩⟩⟩⟩⟩⟩
set_option maxRecDepth 20000 in
theorem uw_308 : (Cond.fieldLink RX6 45 "SoundLaws$Study" "changesOfAll" "I") ∈ lw_tbl := tb_1 _ (List.mem_of_getElem? (i := 179) (by first | rfl | decide +kernel))
set_option maxRecDepth 20000 in
theorem uw_309 : (Cond.fieldLink RX6 93 "SoundLaws$Tree" "sounds" "[I") ∈ lw_tbl := tb_1 _ (List.mem_of_getElem? (i := 162) (by first | rfl | decide +kernel))
set_option maxRecDepth 20000 in
theorem uw_310 : (Cond.methodLink RX6 107 arraycopyName) ∈ lw_tbl := tb_3 _ (List.mem_of_getElem? (i := 35) (by first | rfl | decide +kernel))
set_option maxRecDepth 20000 in
theorem uw_311 : (Cond.methodLink RX6 100 yX7_climb) ∈ lw_tbl := tb_2 _ (List.mem_of_getElem? (i := 235) (by first | rfl | decide +kernel))
set_option maxRecDepth 20000 in
theorem uw_312 : (Cond.methodLink RX6 104 yX7_descend) ∈ lw_tbl := tb_3 _ (List.mem_of_getElem? (i := 16) (by first | rfl | decide +kernel))
set_option maxRecDepth 20000 in
theorem uw_313 : (Cond.instanceMethod yX7_descend) ∈ lw_tbl := tb_3 _ (List.mem_of_getElem? (i := 17) (by first | rfl | decide +kernel))
set_option maxRecDepth 20000 in
theorem uw_314 : (Cond.selects RX7 yX7_descend yX7_descend) ∈ lw_tbl := tb_3 _ (List.mem_of_getElem? (i := 18) (by first | rfl | decide +kernel))
set_option maxRecDepth 20000 in
theorem twX6_rebuild : ∀ w ∈ wsX6_rebuild, w ∈ lw_tbl := List.forall_mem_cons.mpr ⟨tb_2 _ (List.mem_of_getElem? (i := 231) (by first | rfl | decide +kernel)), List.forall_mem_append.mpr ⟨List.forall_mem_cons.mpr ⟨uw_38, List.forall_mem_cons.mpr ⟨uw_291, List.forall_mem_cons.mpr ⟨uw_292, List.forall_mem_cons.mpr ⟨uw_308, List.forall_mem_cons.mpr ⟨uw_290, List.forall_mem_cons.mpr ⟨uw_46, List.forall_mem_cons.mpr ⟨uw_309, List.forall_mem_cons.mpr ⟨uw_37, List.forall_mem_cons.mpr ⟨uw_105, List.forall_mem_cons.mpr ⟨uw_289, List.forall_mem_cons.mpr ⟨uw_310, List.forall_mem_cons.mpr ⟨uw_265, List.forall_mem_cons.mpr ⟨uw_266, List.forall_mem_cons.mpr ⟨uw_267, List.forall_mem_cons.mpr ⟨uw_296, List.forall_mem_cons.mpr ⟨uw_223, List.forall_mem_cons.mpr ⟨uw_311, List.forall_mem_cons.mpr ⟨uw_128, List.forall_mem_cons.mpr ⟨uw_129, List.forall_mem_cons.mpr ⟨uw_27, List.forall_mem_cons.mpr ⟨uw_312, List.forall_mem_cons.mpr ⟨uw_313, List.forall_mem_cons.mpr ⟨uw_314, tw_nil⟩⟩⟩⟩⟩⟩⟩⟩⟩⟩⟩⟩⟩⟩⟩⟩⟩⟩⟩⟩⟩⟩⟩, List.forall_mem_append.mpr ⟨twX60, List.forall_mem_append.mpr ⟨twX50, List.forall_mem_append.mpr ⟨twX70, List.forall_mem_append.mpr ⟨twX7_climb, List.forall_mem_append.mpr ⟨twX7_descend, List.forall_mem_append.mpr ⟨twX8_nodesAt, List.forall_mem_append.mpr ⟨twX8_wordAt, tw_nil⟩⟩⟩⟩⟩⟩⟩⟩⟩
set_option maxRecDepth 20000 in
theorem uw_315 : (Cond.fieldLink RX6 48 "SoundLaws$Stock" "size" "I") ∈ lw_tbl := tb_1 _ (List.mem_of_getElem? (i := 42) (by first | rfl | decide +kernel))
set_option maxRecDepth 20000 in
theorem uw_316 : (Cond.methodLink RX6 41 yX7_plant) ∈ lw_tbl := tb_2 _ (List.mem_of_getElem? (i := 224) (by first | rfl | decide +kernel))
set_option maxRecDepth 20000 in
theorem uw_317 : (Cond.methodLink RX6 55 yX2_clear) ∈ lw_tbl := tb_3 _ (List.mem_of_getElem? (i := 36) (by first | rfl | decide +kernel))
set_option maxRecDepth 20000 in
theorem uw_318 : (Cond.instanceMethod yX2_clear) ∈ lw_tbl := tb_3 _ (List.mem_of_getElem? (i := 37) (by first | rfl | decide +kernel))
set_option maxRecDepth 20000 in
theorem uw_319 : (Cond.selects RX2 yX2_clear yX2_clear) ∈ lw_tbl := tb_3 _ (List.mem_of_getElem? (i := 38) (by first | rfl | decide +kernel))
set_option maxRecDepth 20000 in
theorem uw_320 : (Cond.methodLink RX6 61 yX2_settle) ∈ lw_tbl := tb_3 _ (List.mem_of_getElem? (i := 64) (by first | rfl | decide +kernel))
set_option maxRecDepth 20000 in
theorem uw_321 : (Cond.instanceMethod yX2_settle) ∈ lw_tbl := tb_3 _ (List.mem_of_getElem? (i := 65) (by first | rfl | decide +kernel))
set_option maxRecDepth 20000 in
theorem uw_322 : (Cond.selects RX2 yX2_settle yX2_settle) ∈ lw_tbl := tb_3 _ (List.mem_of_getElem? (i := 66) (by first | rfl | decide +kernel))
set_option maxRecDepth 20000 in
theorem uw_323 : (Cond.methodLink RX6 64 yX6_findStrange) ∈ lw_tbl := tb_3 _ (List.mem_of_getElem? (i := 72) (by first | rfl | decide +kernel))
set_option maxRecDepth 20000 in
theorem uw_324 : (Cond.instanceMethod yX6_findStrange) ∈ lw_tbl := tb_3 _ (List.mem_of_getElem? (i := 74) (by first | rfl | decide +kernel))
set_option maxRecDepth 20000 in
theorem uw_325 : (Cond.selects RX6 yX6_findStrange yX6_findStrange) ∈ lw_tbl := List.mem_of_getElem? (i := 17) (by first | rfl | decide +kernel)
set_option maxRecDepth 20000 in
theorem uw_326 : (Cond.methodLink RX6 58 yX6_weigh) ∈ lw_tbl := tb_3 _ (List.mem_of_getElem? (i := 43) (by first | rfl | decide +kernel))
set_option maxRecDepth 20000 in
theorem uw_327 : (Cond.instanceMethod yX6_weigh) ∈ lw_tbl := tb_3 _ (List.mem_of_getElem? (i := 45) (by first | rfl | decide +kernel))
set_option maxRecDepth 20000 in
theorem uw_328 : (Cond.selects RX6 yX6_weigh yX6_weigh) ∈ lw_tbl := List.mem_of_getElem? (i := 15) (by first | rfl | decide +kernel)
set_option maxRecDepth 20000 in
theorem uw_329 : (Cond.methodLink RX6 51 yX6_rebuild) ∈ lw_tbl := tb_2 _ (List.mem_of_getElem? (i := 228) (by first | rfl | decide +kernel))
set_option maxRecDepth 20000 in
theorem uw_330 : (Cond.instanceMethod yX6_rebuild) ∈ lw_tbl := tb_2 _ (List.mem_of_getElem? (i := 230) (by first | rfl | decide +kernel))
set_option maxRecDepth 20000 in
theorem uw_331 : (Cond.selects RX6 yX6_rebuild yX6_rebuild) ∈ lw_tbl := List.mem_of_getElem? (i := 11) (by first | rfl | decide +kernel)
set_option maxRecDepth 20000 in
theorem twX6_renew : ∀ w ∈ wsX6_renew, w ∈ lw_tbl := List.forall_mem_cons.mpr ⟨tb_2 _ (List.mem_of_getElem? (i := 223) (by first | rfl | decide +kernel)), List.forall_mem_append.mpr ⟨List.forall_mem_cons.mpr ⟨uw_46, List.forall_mem_cons.mpr ⟨uw_290, List.forall_mem_cons.mpr ⟨uw_308, List.forall_mem_cons.mpr ⟨uw_315, List.forall_mem_cons.mpr ⟨uw_44, List.forall_mem_cons.mpr ⟨uw_316, List.forall_mem_cons.mpr ⟨uw_122, List.forall_mem_cons.mpr ⟨uw_123, List.forall_mem_cons.mpr ⟨uw_27, List.forall_mem_cons.mpr ⟨uw_317, List.forall_mem_cons.mpr ⟨uw_318, List.forall_mem_cons.mpr ⟨uw_319, List.forall_mem_cons.mpr ⟨uw_42, List.forall_mem_cons.mpr ⟨uw_320, List.forall_mem_cons.mpr ⟨uw_321, List.forall_mem_cons.mpr ⟨uw_322, List.forall_mem_cons.mpr ⟨uw_323, List.forall_mem_cons.mpr ⟨uw_324, List.forall_mem_cons.mpr ⟨uw_325, List.forall_mem_cons.mpr ⟨uw_63, List.forall_mem_cons.mpr ⟨uw_326, List.forall_mem_cons.mpr ⟨uw_327, List.forall_mem_cons.mpr ⟨uw_328, List.forall_mem_cons.mpr ⟨uw_329, List.forall_mem_cons.mpr ⟨uw_330, List.forall_mem_cons.mpr ⟨uw_331, tw_nil⟩⟩⟩⟩⟩⟩⟩⟩⟩⟩⟩⟩⟩⟩⟩⟩⟩⟩⟩⟩⟩⟩⟩⟩⟩⟩, List.forall_mem_append.mpr ⟨twX60, List.forall_mem_append.mpr ⟨twX50, List.forall_mem_append.mpr ⟨twX7_plant, List.forall_mem_append.mpr ⟨twX2_clear, List.forall_mem_append.mpr ⟨twX2_settle, List.forall_mem_append.mpr ⟨twX6_findStrange, List.forall_mem_append.mpr ⟨twX6_weigh, List.forall_mem_append.mpr ⟨twX6_rebuild, tw_nil⟩⟩⟩⟩⟩⟩⟩⟩⟩⟩
set_option maxRecDepth 20000 in
theorem uw_332 : (Cond.methodLink RX8 254 yX6_renew) ∈ lw_tbl := tb_2 _ (List.mem_of_getElem? (i := 220) (by first | rfl | decide +kernel))
set_option maxRecDepth 20000 in
theorem uw_333 : (Cond.instanceMethod yX6_renew) ∈ lw_tbl := tb_2 _ (List.mem_of_getElem? (i := 221) (by first | rfl | decide +kernel))
set_option maxRecDepth 20000 in
theorem uw_334 : (Cond.selects RX6 yX6_renew yX6_renew) ∈ lw_tbl := tb_2 _ (List.mem_of_getElem? (i := 222) (by first | rfl | decide +kernel))
set_option maxRecDepth 20000 in
theorem twX8_freshenStudy : ∀ w ∈ wsX8_freshenStudy, w ∈ lw_tbl := List.forall_mem_cons.mpr ⟨tb_2 _ (List.mem_of_getElem? (i := 219) (by first | rfl | decide +kernel)), List.forall_mem_append.mpr ⟨List.forall_mem_cons.mpr ⟨uw_270, List.forall_mem_cons.mpr ⟨uw_65, List.forall_mem_cons.mpr ⟨uw_55, List.forall_mem_cons.mpr ⟨uw_332, List.forall_mem_cons.mpr ⟨uw_333, List.forall_mem_cons.mpr ⟨uw_334, List.forall_mem_cons.mpr ⟨uw_63, tw_nil⟩⟩⟩⟩⟩⟩⟩, List.forall_mem_append.mpr ⟨twX80, List.forall_mem_append.mpr ⟨twX6_renew, tw_nil⟩⟩⟩⟩
set_option maxRecDepth 20000 in
theorem twX6_strangeInSet : ∀ w ∈ wsX6_strangeInSet, w ∈ lw_tbl := List.forall_mem_cons.mpr ⟨tb_3 _ (List.mem_of_getElem? (i := 83) (by first | rfl | decide +kernel)), List.forall_mem_append.mpr ⟨List.forall_mem_cons.mpr ⟨uw_39, tw_nil⟩, List.forall_mem_append.mpr ⟨twX60, tw_nil⟩⟩⟩
set_option maxRecDepth 20000 in
theorem twX6_borrowedTongues : ∀ w ∈ wsX6_borrowedTongues, w ∈ lw_tbl := List.forall_mem_cons.mpr ⟨tb_3 _ (List.mem_of_getElem? (i := 87) (by first | rfl | decide +kernel)), List.forall_mem_append.mpr ⟨List.forall_mem_cons.mpr ⟨uw_290, List.forall_mem_cons.mpr ⟨uw_39, List.forall_mem_cons.mpr ⟨uw_292, tw_nil⟩⟩⟩, List.forall_mem_append.mpr ⟨twX50, List.forall_mem_append.mpr ⟨twX60, tw_nil⟩⟩⟩⟩
set_option maxRecDepth 20000 in
theorem twX4_could : ∀ w ∈ wsX4_could, w ∈ lw_tbl := List.forall_mem_cons.mpr ⟨tb_3 _ (List.mem_of_getElem? (i := 97) (by first | rfl | decide +kernel)), List.forall_mem_append.mpr ⟨tw_nil, tw_nil⟩⟩
set_option maxRecDepth 20000 in
theorem uw_335 : (Cond.methodLink RX4 48 yX4_could) ∈ lw_tbl := tb_3 _ (List.mem_of_getElem? (i := 95) (by first | rfl | decide +kernel))
set_option maxRecDepth 20000 in
theorem uw_336 : (Cond.static yX4_could) ∈ lw_tbl := tb_3 _ (List.mem_of_getElem? (i := 96) (by first | rfl | decide +kernel))
set_option maxRecDepth 20000 in
theorem twX4_sortsThatCould : ∀ w ∈ wsX4_sortsThatCould, w ∈ lw_tbl := List.forall_mem_cons.mpr ⟨tb_3 _ (List.mem_of_getElem? (i := 94) (by first | rfl | decide +kernel)), List.forall_mem_append.mpr ⟨List.forall_mem_cons.mpr ⟨uw_335, List.forall_mem_cons.mpr ⟨uw_336, List.forall_mem_cons.mpr ⟨uw_58, tw_nil⟩⟩⟩, List.forall_mem_append.mpr ⟨twX4_could, tw_nil⟩⟩⟩
set_option maxRecDepth 20000 in
theorem uw_337 : (Cond.methodLink RX4 30 yX4_sortsThatCould) ∈ lw_tbl := tb_3 _ (List.mem_of_getElem? (i := 92) (by first | rfl | decide +kernel))
set_option maxRecDepth 20000 in
theorem uw_338 : (Cond.static yX4_sortsThatCould) ∈ lw_tbl := tb_3 _ (List.mem_of_getElem? (i := 93) (by first | rfl | decide +kernel))
set_option maxRecDepth 20000 in
theorem twX4_sortsOf : ∀ w ∈ wsX4_sortsOf, w ∈ lw_tbl := List.forall_mem_cons.mpr ⟨tb_3 _ (List.mem_of_getElem? (i := 91) (by first | rfl | decide +kernel)), List.forall_mem_append.mpr ⟨List.forall_mem_cons.mpr ⟨uw_182, List.forall_mem_cons.mpr ⟨uw_8, List.forall_mem_cons.mpr ⟨uw_9, List.forall_mem_cons.mpr ⟨uw_11, List.forall_mem_cons.mpr ⟨uw_337, List.forall_mem_cons.mpr ⟨uw_338, List.forall_mem_cons.mpr ⟨uw_58, tw_nil⟩⟩⟩⟩⟩⟩⟩, List.forall_mem_append.mpr ⟨twX40, List.forall_mem_append.mpr ⟨twX4_sortsThatCould, tw_nil⟩⟩⟩⟩
set_option maxRecDepth 20000 in
theorem uw_339 : (Cond.constant RJ6 265 (1431655765)) ∈ lw_tbl := tb_3 _ (List.mem_of_getElem? (i := 108) (by first | rfl | decide +kernel))
set_option maxRecDepth 20000 in
theorem uw_340 : (Cond.constant RJ6 266 (858993459)) ∈ lw_tbl := tb_3 _ (List.mem_of_getElem? (i := 109) (by first | rfl | decide +kernel))
set_option maxRecDepth 20000 in
theorem uw_341 : (Cond.constant RJ6 267 (252645135)) ∈ lw_tbl := tb_3 _ (List.mem_of_getElem? (i := 110) (by first | rfl | decide +kernel))
set_option maxRecDepth 20000 in
theorem twJ6_bitCount_0f7a4 : ∀ w ∈ wsJ6_bitCount_0f7a4, w ∈ lw_tbl := List.forall_mem_cons.mpr ⟨tb_3 _ (List.mem_of_getElem? (i := 107) (by first | rfl | decide +kernel)), List.forall_mem_append.mpr ⟨List.forall_mem_cons.mpr ⟨uw_339, List.forall_mem_cons.mpr ⟨uw_340, List.forall_mem_cons.mpr ⟨uw_341, tw_nil⟩⟩⟩, tw_nil⟩⟩
set_option maxRecDepth 20000 in
theorem uw_342 : (Cond.methodLink RX4 42 Lib.Math.max.name) ∈ lw_tbl := tb_3 _ (List.mem_of_getElem? (i := 111) (by first | rfl | decide +kernel))
set_option maxRecDepth 20000 in
theorem uw_343 : (Cond.methodLink RX4 34 yX4_sortsOf) ∈ lw_tbl := tb_3 _ (List.mem_of_getElem? (i := 104) (by first | rfl | decide +kernel))
set_option maxRecDepth 20000 in
theorem uw_344 : (Cond.instanceMethod yX4_sortsOf) ∈ lw_tbl := tb_3 _ (List.mem_of_getElem? (i := 89) (by first | rfl | decide +kernel))
set_option maxRecDepth 20000 in
theorem uw_345 : (Cond.selects RX4 yX4_sortsOf yX4_sortsOf) ∈ lw_tbl := tb_3 _ (List.mem_of_getElem? (i := 90) (by first | rfl | decide +kernel))
set_option maxRecDepth 20000 in
theorem uw_346 : (Cond.methodLink RX4 37 yJ6_bitCount_0f7a4) ∈ lw_tbl := tb_3 _ (List.mem_of_getElem? (i := 105) (by first | rfl | decide +kernel))
set_option maxRecDepth 20000 in
theorem uw_347 : (Cond.static yJ6_bitCount_0f7a4) ∈ lw_tbl := tb_3 _ (List.mem_of_getElem? (i := 106) (by first | rfl | decide +kernel))
set_option maxRecDepth 20000 in
theorem uw_348 : (Cond.initialized RJ6) ∈ lw_tbl := tb_1 _ (List.mem_of_getElem? (i := 19) (by first | rfl | decide +kernel))
set_option maxRecDepth 20000 in
theorem twX4_questionFor : ∀ w ∈ wsX4_questionFor, w ∈ lw_tbl := List.forall_mem_cons.mpr ⟨tb_3 _ (List.mem_of_getElem? (i := 103) (by first | rfl | decide +kernel)), List.forall_mem_append.mpr ⟨List.forall_mem_cons.mpr ⟨uw_342, List.forall_mem_cons.mpr ⟨uw_196, List.forall_mem_cons.mpr ⟨uw_197, List.forall_mem_cons.mpr ⟨uw_198, List.forall_mem_cons.mpr ⟨uw_343, List.forall_mem_cons.mpr ⟨uw_344, List.forall_mem_cons.mpr ⟨uw_345, List.forall_mem_cons.mpr ⟨uw_58, List.forall_mem_cons.mpr ⟨uw_337, List.forall_mem_cons.mpr ⟨uw_338, List.forall_mem_cons.mpr ⟨uw_346, List.forall_mem_cons.mpr ⟨uw_347, List.forall_mem_cons.mpr ⟨uw_348, tw_nil⟩⟩⟩⟩⟩⟩⟩⟩⟩⟩⟩⟩⟩, List.forall_mem_append.mpr ⟨twX4_sortsOf, List.forall_mem_append.mpr ⟨twX4_sortsThatCould, List.forall_mem_append.mpr ⟨twJ6_bitCount_0f7a4, tw_nil⟩⟩⟩⟩⟩
set_option maxRecDepth 20000 in
theorem uw_349 : (Cond.fieldLink RX8 110 "SoundLaws$Stock" "kinds" "[I") ∈ lw_tbl := tb_1 _ (List.mem_of_getElem? (i := 51) (by first | rfl | decide +kernel))
set_option maxRecDepth 20000 in
theorem uw_350 : (Cond.fieldLink RX8 168 "SoundLaws$Stock" "lengths" "[I") ∈ lw_tbl := tb_1 _ (List.mem_of_getElem? (i := 55) (by first | rfl | decide +kernel))
set_option maxRecDepth 20000 in
theorem uw_351 : (Cond.fieldLink RX8 257 "SoundLaws$Study" "changes" "[I") ∈ lw_tbl := tb_1 _ (List.mem_of_getElem? (i := 174) (by first | rfl | decide +kernel))
set_option maxRecDepth 20000 in
theorem uw_352 : (Cond.methodLink RX8 259 yX6_strangeInSet) ∈ lw_tbl := tb_3 _ (List.mem_of_getElem? (i := 80) (by first | rfl | decide +kernel))
set_option maxRecDepth 20000 in
theorem uw_353 : (Cond.instanceMethod yX6_strangeInSet) ∈ lw_tbl := tb_3 _ (List.mem_of_getElem? (i := 81) (by first | rfl | decide +kernel))
set_option maxRecDepth 20000 in
theorem uw_354 : (Cond.selects RX6 yX6_strangeInSet yX6_strangeInSet) ∈ lw_tbl := tb_3 _ (List.mem_of_getElem? (i := 82) (by first | rfl | decide +kernel))
set_option maxRecDepth 20000 in
theorem uw_355 : (Cond.methodLink RX8 262 yX6_borrowedTongues) ∈ lw_tbl := tb_3 _ (List.mem_of_getElem? (i := 84) (by first | rfl | decide +kernel))
set_option maxRecDepth 20000 in
theorem uw_356 : (Cond.instanceMethod yX6_borrowedTongues) ∈ lw_tbl := tb_3 _ (List.mem_of_getElem? (i := 85) (by first | rfl | decide +kernel))
set_option maxRecDepth 20000 in
theorem uw_357 : (Cond.selects RX6 yX6_borrowedTongues yX6_borrowedTongues) ∈ lw_tbl := tb_3 _ (List.mem_of_getElem? (i := 86) (by first | rfl | decide +kernel))
set_option maxRecDepth 20000 in
theorem uw_358 : (Cond.methodLink RX8 266 yX4_sortsOf) ∈ lw_tbl := tb_3 _ (List.mem_of_getElem? (i := 88) (by first | rfl | decide +kernel))
set_option maxRecDepth 20000 in
theorem uw_359 : (Cond.methodLink RX8 269 yX4_questionFor) ∈ lw_tbl := tb_3 _ (List.mem_of_getElem? (i := 100) (by first | rfl | decide +kernel))
set_option maxRecDepth 20000 in
theorem uw_360 : (Cond.instanceMethod yX4_questionFor) ∈ lw_tbl := tb_3 _ (List.mem_of_getElem? (i := 101) (by first | rfl | decide +kernel))
set_option maxRecDepth 20000 in
theorem uw_361 : (Cond.selects RX4 yX4_questionFor yX4_questionFor) ∈ lw_tbl := tb_3 _ (List.mem_of_getElem? (i := 102) (by first | rfl | decide +kernel))
set_option maxRecDepth 20000 in
theorem twX8_tellOfSet : ∀ w ∈ wsX8_tellOfSet, w ∈ lw_tbl := List.forall_mem_cons.mpr ⟨tb_3 _ (List.mem_of_getElem? (i := 79) (by first | rfl | decide +kernel)), List.forall_mem_append.mpr ⟨List.forall_mem_cons.mpr ⟨uw_55, List.forall_mem_cons.mpr ⟨uw_349, List.forall_mem_cons.mpr ⟨uw_350, List.forall_mem_cons.mpr ⟨uw_65, List.forall_mem_cons.mpr ⟨uw_351, List.forall_mem_cons.mpr ⟨uw_60, List.forall_mem_cons.mpr ⟨uw_352, List.forall_mem_cons.mpr ⟨uw_353, List.forall_mem_cons.mpr ⟨uw_354, List.forall_mem_cons.mpr ⟨uw_63, List.forall_mem_cons.mpr ⟨uw_355, List.forall_mem_cons.mpr ⟨uw_356, List.forall_mem_cons.mpr ⟨uw_357, List.forall_mem_cons.mpr ⟨uw_358, List.forall_mem_cons.mpr ⟨uw_344, List.forall_mem_cons.mpr ⟨uw_345, List.forall_mem_cons.mpr ⟨uw_58, List.forall_mem_cons.mpr ⟨uw_359, List.forall_mem_cons.mpr ⟨uw_360, List.forall_mem_cons.mpr ⟨uw_361, tw_nil⟩⟩⟩⟩⟩⟩⟩⟩⟩⟩⟩⟩⟩⟩⟩⟩⟩⟩⟩⟩, List.forall_mem_append.mpr ⟨twX80, List.forall_mem_append.mpr ⟨twX50, List.forall_mem_append.mpr ⟨twX60, List.forall_mem_append.mpr ⟨twX6_strangeInSet, List.forall_mem_append.mpr ⟨twX6_borrowedTongues, List.forall_mem_append.mpr ⟨twX4_sortsOf, List.forall_mem_append.mpr ⟨twX4_questionFor, tw_nil⟩⟩⟩⟩⟩⟩⟩⟩⟩
set_option maxRecDepth 20000 in
theorem uw_362 : (Cond.methodLink RX8 96 yX8_isSet) ∈ lw_tbl := tb_2 _ (List.mem_of_getElem? (i := 212) (by first | rfl | decide +kernel))
set_option maxRecDepth 20000 in
theorem uw_363 : (Cond.instanceMethod yX8_isSet) ∈ lw_tbl := tb_2 _ (List.mem_of_getElem? (i := 214) (by first | rfl | decide +kernel))
set_option maxRecDepth 20000 in
theorem uw_364 : (Cond.selects RX8 yX8_isSet yX8_isSet) ∈ lw_tbl := List.mem_of_getElem? (i := 9) (by first | rfl | decide +kernel)
set_option maxRecDepth 20000 in
theorem uw_365 : (Cond.methodLink RX8 100 yX8_freshenStudy) ∈ lw_tbl := tb_2 _ (List.mem_of_getElem? (i := 216) (by first | rfl | decide +kernel))
set_option maxRecDepth 20000 in
theorem uw_366 : (Cond.instanceMethod yX8_freshenStudy) ∈ lw_tbl := tb_2 _ (List.mem_of_getElem? (i := 218) (by first | rfl | decide +kernel))
set_option maxRecDepth 20000 in
theorem uw_367 : (Cond.selects RX8 yX8_freshenStudy yX8_freshenStudy) ∈ lw_tbl := List.mem_of_getElem? (i := 10) (by first | rfl | decide +kernel)
set_option maxRecDepth 20000 in
theorem uw_368 : (Cond.methodLink RX8 103 yX8_tellOfSet) ∈ lw_tbl := tb_3 _ (List.mem_of_getElem? (i := 76) (by first | rfl | decide +kernel))
set_option maxRecDepth 20000 in
theorem uw_369 : (Cond.instanceMethod yX8_tellOfSet) ∈ lw_tbl := tb_3 _ (List.mem_of_getElem? (i := 78) (by first | rfl | decide +kernel))
set_option maxRecDepth 20000 in
theorem uw_370 : (Cond.selects RX8 yX8_tellOfSet yX8_tellOfSet) ∈ lw_tbl := List.mem_of_getElem? (i := 18) (by first | rfl | decide +kernel)
set_option maxRecDepth 20000 in
theorem twX8_set : ∀ w ∈ wsX8_set, w ∈ lw_tbl := List.forall_mem_cons.mpr ⟨tb_2 _ (List.mem_of_getElem? (i := 211) (by first | rfl | decide +kernel)), List.forall_mem_append.mpr ⟨List.forall_mem_cons.mpr ⟨uw_362, List.forall_mem_cons.mpr ⟨uw_363, List.forall_mem_cons.mpr ⟨uw_364, List.forall_mem_cons.mpr ⟨uw_105, List.forall_mem_cons.mpr ⟨uw_365, List.forall_mem_cons.mpr ⟨uw_366, List.forall_mem_cons.mpr ⟨uw_367, List.forall_mem_cons.mpr ⟨uw_368, List.forall_mem_cons.mpr ⟨uw_369, List.forall_mem_cons.mpr ⟨uw_370, tw_nil⟩⟩⟩⟩⟩⟩⟩⟩⟩⟩, List.forall_mem_append.mpr ⟨twX8_isSet, List.forall_mem_append.mpr ⟨twX8_freshenStudy, List.forall_mem_append.mpr ⟨twX8_tellOfSet, tw_nil⟩⟩⟩⟩⟩
set_option maxRecDepth 20000 in
theorem twX8_isKind : ∀ w ∈ wsX8_isKind, w ∈ lw_tbl := List.forall_mem_cons.mpr ⟨tb_3 _ (List.mem_of_getElem? (i := 118) (by first | rfl | decide +kernel)), List.forall_mem_append.mpr ⟨tw_nil, tw_nil⟩⟩
set_option maxRecDepth 20000 in
theorem twX8_isOfKind : ∀ w ∈ wsX8_isOfKind, w ∈ lw_tbl := List.forall_mem_cons.mpr ⟨tb_3 _ (List.mem_of_getElem? (i := 121) (by first | rfl | decide +kernel)), List.forall_mem_append.mpr ⟨tw_nil, tw_nil⟩⟩
set_option maxRecDepth 20000 in
theorem uw_371 : (Cond.methodLink RX8 107 yX8_isKind) ∈ lw_tbl := tb_3 _ (List.mem_of_getElem? (i := 116) (by first | rfl | decide +kernel))
set_option maxRecDepth 20000 in
theorem uw_372 : (Cond.static yX8_isKind) ∈ lw_tbl := tb_3 _ (List.mem_of_getElem? (i := 117) (by first | rfl | decide +kernel))
set_option maxRecDepth 20000 in
theorem uw_373 : (Cond.methodLink RX8 113 yX8_isOfKind) ∈ lw_tbl := tb_3 _ (List.mem_of_getElem? (i := 119) (by first | rfl | decide +kernel))
set_option maxRecDepth 20000 in
theorem uw_374 : (Cond.static yX8_isOfKind) ∈ lw_tbl := tb_3 _ (List.mem_of_getElem? (i := 120) (by first | rfl | decide +kernel))
set_option maxRecDepth 20000 in
theorem twX8_as : ∀ w ∈ wsX8_as, w ∈ lw_tbl := List.forall_mem_cons.mpr ⟨tb_3 _ (List.mem_of_getElem? (i := 115) (by first | rfl | decide +kernel)), List.forall_mem_append.mpr ⟨List.forall_mem_cons.mpr ⟨uw_55, List.forall_mem_cons.mpr ⟨uw_349, List.forall_mem_cons.mpr ⟨uw_362, List.forall_mem_cons.mpr ⟨uw_363, List.forall_mem_cons.mpr ⟨uw_364, List.forall_mem_cons.mpr ⟨uw_105, List.forall_mem_cons.mpr ⟨uw_371, List.forall_mem_cons.mpr ⟨uw_372, List.forall_mem_cons.mpr ⟨uw_373, List.forall_mem_cons.mpr ⟨uw_374, tw_nil⟩⟩⟩⟩⟩⟩⟩⟩⟩⟩, List.forall_mem_append.mpr ⟨twX80, List.forall_mem_append.mpr ⟨twX50, List.forall_mem_append.mpr ⟨twX8_isSet, List.forall_mem_append.mpr ⟨twX8_isKind, List.forall_mem_append.mpr ⟨twX8_isOfKind, tw_nil⟩⟩⟩⟩⟩⟩⟩
set_option maxRecDepth 20000 in
theorem uw_375 : (Cond.methodLink RX8 243 yX8_nodesOf) ∈ lw_tbl := tb_3 _ (List.mem_of_getElem? (i := 130) (by first | rfl | decide +kernel))
set_option maxRecDepth 20000 in
theorem twX8_isNode : ∀ w ∈ wsX8_isNode, w ∈ lw_tbl := List.forall_mem_cons.mpr ⟨tb_3 _ (List.mem_of_getElem? (i := 129) (by first | rfl | decide +kernel)), List.forall_mem_append.mpr ⟨List.forall_mem_cons.mpr ⟨uw_55, List.forall_mem_cons.mpr ⟨uw_180, List.forall_mem_cons.mpr ⟨uw_375, List.forall_mem_cons.mpr ⟨uw_106, List.forall_mem_cons.mpr ⟨uw_105, tw_nil⟩⟩⟩⟩⟩, List.forall_mem_append.mpr ⟨twX80, List.forall_mem_append.mpr ⟨twX50, List.forall_mem_append.mpr ⟨twX8_nodesOf, tw_nil⟩⟩⟩⟩⟩
set_option maxRecDepth 20000 in
theorem twX8_isPlace : ∀ w ∈ wsX8_isPlace, w ∈ lw_tbl := List.forall_mem_cons.mpr ⟨tb_3 _ (List.mem_of_getElem? (i := 134) (by first | rfl | decide +kernel)), List.forall_mem_append.mpr ⟨List.forall_mem_cons.mpr ⟨uw_55, List.forall_mem_cons.mpr ⟨uw_350, tw_nil⟩⟩, List.forall_mem_append.mpr ⟨twX80, List.forall_mem_append.mpr ⟨twX50, tw_nil⟩⟩⟩⟩
set_option maxRecDepth 20000 in
theorem uw_376 : (Cond.fieldLink RX8 145 "SoundLaws" "REBUILDS" "[I") ∈ lw_tbl := tb_3 _ (List.mem_of_getElem? (i := 140) (by first | rfl | decide +kernel))
set_option maxRecDepth 20000 in
theorem uw_377 : (Cond.fieldLink RX8 272 "SoundLaws$Study" "sounds" "[I") ∈ lw_tbl := tb_1 _ (List.mem_of_getElem? (i := 172) (by first | rfl | decide +kernel))
set_option maxRecDepth 20000 in
theorem uw_378 : (Cond.fieldLink RX8 162 "SoundLaws$Stock" "words" "[I") ∈ lw_tbl := tb_1 _ (List.mem_of_getElem? (i := 59) (by first | rfl | decide +kernel))
set_option maxRecDepth 20000 in
theorem uw_379 : (Cond.methodLink RX8 275 yX8_nodesAt) ∈ lw_tbl := tb_3 _ (List.mem_of_getElem? (i := 141) (by first | rfl | decide +kernel))
set_option maxRecDepth 20000 in
theorem uw_380 : (Cond.methodLink RX8 165 yX8_wordAt) ∈ lw_tbl := tb_3 _ (List.mem_of_getElem? (i := 139) (by first | rfl | decide +kernel))
set_option maxRecDepth 20000 in
theorem twX8_tellOfNode : ∀ w ∈ wsX8_tellOfNode, w ∈ lw_tbl := List.forall_mem_cons.mpr ⟨tb_3 _ (List.mem_of_getElem? (i := 138) (by first | rfl | decide +kernel)), List.forall_mem_append.mpr ⟨List.forall_mem_cons.mpr ⟨uw_55, List.forall_mem_cons.mpr ⟨uw_180, List.forall_mem_cons.mpr ⟨uw_376, List.forall_mem_cons.mpr ⟨uw_349, List.forall_mem_cons.mpr ⟨uw_65, List.forall_mem_cons.mpr ⟨uw_377, List.forall_mem_cons.mpr ⟨uw_378, List.forall_mem_cons.mpr ⟨uw_379, List.forall_mem_cons.mpr ⟨uw_289, List.forall_mem_cons.mpr ⟨uw_105, List.forall_mem_cons.mpr ⟨uw_380, List.forall_mem_cons.mpr ⟨uw_223, tw_nil⟩⟩⟩⟩⟩⟩⟩⟩⟩⟩⟩⟩, List.forall_mem_append.mpr ⟨twX80, List.forall_mem_append.mpr ⟨twX50, List.forall_mem_append.mpr ⟨twX60, List.forall_mem_append.mpr ⟨twX8_nodesAt, List.forall_mem_append.mpr ⟨twX8_wordAt, tw_nil⟩⟩⟩⟩⟩⟩⟩
set_option maxRecDepth 20000 in
theorem uw_381 : (Cond.methodLink RX8 117 yX8_isNode) ∈ lw_tbl := tb_3 _ (List.mem_of_getElem? (i := 126) (by first | rfl | decide +kernel))
set_option maxRecDepth 20000 in
theorem uw_382 : (Cond.instanceMethod yX8_isNode) ∈ lw_tbl := tb_3 _ (List.mem_of_getElem? (i := 128) (by first | rfl | decide +kernel))
set_option maxRecDepth 20000 in
theorem uw_383 : (Cond.selects RX8 yX8_isNode yX8_isNode) ∈ lw_tbl := List.mem_of_getElem? (i := 19) (by first | rfl | decide +kernel)
set_option maxRecDepth 20000 in
theorem uw_384 : (Cond.methodLink RX8 120 yX8_isPlace) ∈ lw_tbl := tb_3 _ (List.mem_of_getElem? (i := 131) (by first | rfl | decide +kernel))
set_option maxRecDepth 20000 in
theorem uw_385 : (Cond.instanceMethod yX8_isPlace) ∈ lw_tbl := tb_3 _ (List.mem_of_getElem? (i := 133) (by first | rfl | decide +kernel))
set_option maxRecDepth 20000 in
theorem uw_386 : (Cond.selects RX8 yX8_isPlace yX8_isPlace) ∈ lw_tbl := List.mem_of_getElem? (i := 20) (by first | rfl | decide +kernel)
set_option maxRecDepth 20000 in
theorem uw_387 : (Cond.methodLink RX8 123 yX8_tellOfNode) ∈ lw_tbl := tb_3 _ (List.mem_of_getElem? (i := 135) (by first | rfl | decide +kernel))
set_option maxRecDepth 20000 in
theorem uw_388 : (Cond.instanceMethod yX8_tellOfNode) ∈ lw_tbl := tb_3 _ (List.mem_of_getElem? (i := 137) (by first | rfl | decide +kernel))
set_option maxRecDepth 20000 in
theorem uw_389 : (Cond.selects RX8 yX8_tellOfNode yX8_tellOfNode) ∈ lw_tbl := List.mem_of_getElem? (i := 21) (by first | rfl | decide +kernel)
set_option maxRecDepth 20000 in
theorem twX8_sound : ∀ w ∈ wsX8_sound, w ∈ lw_tbl := List.forall_mem_cons.mpr ⟨tb_3 _ (List.mem_of_getElem? (i := 125) (by first | rfl | decide +kernel)), List.forall_mem_append.mpr ⟨List.forall_mem_cons.mpr ⟨uw_362, List.forall_mem_cons.mpr ⟨uw_363, List.forall_mem_cons.mpr ⟨uw_364, List.forall_mem_cons.mpr ⟨uw_105, List.forall_mem_cons.mpr ⟨uw_381, List.forall_mem_cons.mpr ⟨uw_382, List.forall_mem_cons.mpr ⟨uw_383, List.forall_mem_cons.mpr ⟨uw_384, List.forall_mem_cons.mpr ⟨uw_385, List.forall_mem_cons.mpr ⟨uw_386, List.forall_mem_cons.mpr ⟨uw_365, List.forall_mem_cons.mpr ⟨uw_366, List.forall_mem_cons.mpr ⟨uw_367, List.forall_mem_cons.mpr ⟨uw_387, List.forall_mem_cons.mpr ⟨uw_388, List.forall_mem_cons.mpr ⟨uw_389, tw_nil⟩⟩⟩⟩⟩⟩⟩⟩⟩⟩⟩⟩⟩⟩⟩⟩, List.forall_mem_append.mpr ⟨twX8_isSet, List.forall_mem_append.mpr ⟨twX8_isNode, List.forall_mem_append.mpr ⟨twX8_isPlace, List.forall_mem_append.mpr ⟨twX8_freshenStudy, List.forall_mem_append.mpr ⟨twX8_tellOfNode, tw_nil⟩⟩⟩⟩⟩⟩⟩
set_option maxRecDepth 20000 in
theorem uw_390 : (Cond.fieldLink RX8 148 "SoundLaws$Study" "strangePlaces" "[I") ∈ lw_tbl := tb_1 _ (List.mem_of_getElem? (i := 176) (by first | rfl | decide +kernel))
set_option maxRecDepth 20000 in
theorem uw_391 : (Cond.methodLink RX8 127 yX8_isTongue) ∈ lw_tbl := tb_3 _ (List.mem_of_getElem? (i := 146) (by first | rfl | decide +kernel))
set_option maxRecDepth 20000 in
theorem uw_392 : (Cond.instanceMethod yX8_isTongue) ∈ lw_tbl := tb_3 _ (List.mem_of_getElem? (i := 148) (by first | rfl | decide +kernel))
set_option maxRecDepth 20000 in
theorem uw_393 : (Cond.selects RX8 yX8_isTongue yX8_isTongue) ∈ lw_tbl := List.mem_of_getElem? (i := 22) (by first | rfl | decide +kernel)
set_option maxRecDepth 20000 in
theorem twX8_strange : ∀ w ∈ wsX8_strange, w ∈ lw_tbl := List.forall_mem_cons.mpr ⟨tb_3 _ (List.mem_of_getElem? (i := 161) (by first | rfl | decide +kernel)), List.forall_mem_append.mpr ⟨List.forall_mem_cons.mpr ⟨uw_376, List.forall_mem_cons.mpr ⟨uw_55, List.forall_mem_cons.mpr ⟨uw_349, List.forall_mem_cons.mpr ⟨uw_65, List.forall_mem_cons.mpr ⟨uw_390, List.forall_mem_cons.mpr ⟨uw_362, List.forall_mem_cons.mpr ⟨uw_363, List.forall_mem_cons.mpr ⟨uw_364, List.forall_mem_cons.mpr ⟨uw_105, List.forall_mem_cons.mpr ⟨uw_391, List.forall_mem_cons.mpr ⟨uw_392, List.forall_mem_cons.mpr ⟨uw_393, List.forall_mem_cons.mpr ⟨uw_365, List.forall_mem_cons.mpr ⟨uw_366, List.forall_mem_cons.mpr ⟨uw_367, tw_nil⟩⟩⟩⟩⟩⟩⟩⟩⟩⟩⟩⟩⟩⟩⟩, List.forall_mem_append.mpr ⟨twX80, List.forall_mem_append.mpr ⟨twX50, List.forall_mem_append.mpr ⟨twX60, List.forall_mem_append.mpr ⟨twX8_isSet, List.forall_mem_append.mpr ⟨twX8_isTongue, List.forall_mem_append.mpr ⟨twX8_freshenStudy, tw_nil⟩⟩⟩⟩⟩⟩⟩⟩
set_option maxRecDepth 20000 in
theorem uw_394 : (Cond.fieldLink RX8 133 "SoundLaws$Study" "laws" "LSoundLaws$Laws;") ∈ lw_tbl := tb_1 _ (List.mem_of_getElem? (i := 178) (by first | rfl | decide +kernel))
set_option maxRecDepth 20000 in
theorem uw_395 : (Cond.fieldLink RX8 155 "SoundLaws$Laws" "becomes" "[I") ∈ lw_tbl := tb_1 _ (List.mem_of_getElem? (i := 132) (by first | rfl | decide +kernel))
set_option maxRecDepth 20000 in
theorem uw_396 : (Cond.methodLink RX8 151 yX6_oldSound) ∈ lw_tbl := tb_3 _ (List.mem_of_getElem? (i := 166) (by first | rfl | decide +kernel))
set_option maxRecDepth 20000 in
theorem uw_397 : (Cond.methodLink RX8 158 yX8_aheadAt) ∈ lw_tbl := tb_3 _ (List.mem_of_getElem? (i := 167) (by first | rfl | decide +kernel))
set_option maxRecDepth 20000 in
theorem uw_398 : (Cond.methodLink RX8 137 yX8_lawAt) ∈ lw_tbl := tb_3 _ (List.mem_of_getElem? (i := 153) (by first | rfl | decide +kernel))
set_option maxRecDepth 20000 in
theorem twX8_say : ∀ w ∈ wsX8_say, w ∈ lw_tbl := List.forall_mem_cons.mpr ⟨tb_3 _ (List.mem_of_getElem? (i := 165) (by first | rfl | decide +kernel)), List.forall_mem_append.mpr ⟨List.forall_mem_cons.mpr ⟨uw_376, List.forall_mem_cons.mpr ⟨uw_55, List.forall_mem_cons.mpr ⟨uw_349, List.forall_mem_cons.mpr ⟨uw_65, List.forall_mem_cons.mpr ⟨uw_394, List.forall_mem_cons.mpr ⟨uw_395, List.forall_mem_cons.mpr ⟨uw_362, List.forall_mem_cons.mpr ⟨uw_363, List.forall_mem_cons.mpr ⟨uw_364, List.forall_mem_cons.mpr ⟨uw_105, List.forall_mem_cons.mpr ⟨uw_391, List.forall_mem_cons.mpr ⟨uw_392, List.forall_mem_cons.mpr ⟨uw_393, List.forall_mem_cons.mpr ⟨uw_384, List.forall_mem_cons.mpr ⟨uw_385, List.forall_mem_cons.mpr ⟨uw_386, List.forall_mem_cons.mpr ⟨uw_365, List.forall_mem_cons.mpr ⟨uw_366, List.forall_mem_cons.mpr ⟨uw_367, List.forall_mem_cons.mpr ⟨uw_396, List.forall_mem_cons.mpr ⟨uw_298, List.forall_mem_cons.mpr ⟨uw_299, List.forall_mem_cons.mpr ⟨uw_63, List.forall_mem_cons.mpr ⟨uw_397, List.forall_mem_cons.mpr ⟨uw_294, List.forall_mem_cons.mpr ⟨uw_398, List.forall_mem_cons.mpr ⟨uw_295, tw_nil⟩⟩⟩⟩⟩⟩⟩⟩⟩⟩⟩⟩⟩⟩⟩⟩⟩⟩⟩⟩⟩⟩⟩⟩⟩⟩⟩, List.forall_mem_append.mpr ⟨twX80, List.forall_mem_append.mpr ⟨twX50, List.forall_mem_append.mpr ⟨twX60, List.forall_mem_append.mpr ⟨twX20, List.forall_mem_append.mpr ⟨twX8_isSet, List.forall_mem_append.mpr ⟨twX8_isTongue, List.forall_mem_append.mpr ⟨twX8_isPlace, List.forall_mem_append.mpr ⟨twX8_freshenStudy, List.forall_mem_append.mpr ⟨twX6_oldSound, List.forall_mem_append.mpr ⟨twX8_aheadAt, List.forall_mem_append.mpr ⟨twX8_lawAt, tw_nil⟩⟩⟩⟩⟩⟩⟩⟩⟩⟩⟩⟩⟩
set_option maxRecDepth 20000 in
theorem twX0_readSounds : ∀ w ∈ wsX0_readSounds, w ∈ lw_tbl := List.forall_mem_cons.mpr ⟨tb_3 _ (List.mem_of_getElem? (i := 178) (by first | rfl | decide +kernel)), List.forall_mem_append.mpr ⟨tw_nil, tw_nil⟩⟩
set_option maxRecDepth 20000 in
theorem uw_399 : (Cond.fieldLink RX0 25 "SoundLaws$Aligner" "firstLength" "I") ∈ lw_tbl := tb_1 _ (List.mem_of_getElem? (i := 203) (by first | rfl | decide +kernel))
set_option maxRecDepth 20000 in
theorem uw_400 : (Cond.methodLink RX0 21 yX0_readSounds) ∈ lw_tbl := tb_3 _ (List.mem_of_getElem? (i := 176) (by first | rfl | decide +kernel))
set_option maxRecDepth 20000 in
theorem uw_401 : (Cond.static yX0_readSounds) ∈ lw_tbl := tb_3 _ (List.mem_of_getElem? (i := 177) (by first | rfl | decide +kernel))
set_option maxRecDepth 20000 in
theorem twX0_readFirst : ∀ w ∈ wsX0_readFirst, w ∈ lw_tbl := List.forall_mem_cons.mpr ⟨tb_3 _ (List.mem_of_getElem? (i := 175) (by first | rfl | decide +kernel)), List.forall_mem_append.mpr ⟨List.forall_mem_cons.mpr ⟨uw_16, List.forall_mem_cons.mpr ⟨uw_399, List.forall_mem_cons.mpr ⟨uw_400, List.forall_mem_cons.mpr ⟨uw_401, List.forall_mem_cons.mpr ⟨uw_70, tw_nil⟩⟩⟩⟩⟩, List.forall_mem_append.mpr ⟨twX00, List.forall_mem_append.mpr ⟨twX0_readSounds, tw_nil⟩⟩⟩⟩
set_option maxRecDepth 20000 in
theorem uw_402 : (Cond.fieldLink RX0 29 "SoundLaws$Aligner" "secondLength" "I") ∈ lw_tbl := tb_1 _ (List.mem_of_getElem? (i := 204) (by first | rfl | decide +kernel))
set_option maxRecDepth 20000 in
theorem twX0_readSecond : ∀ w ∈ wsX0_readSecond, w ∈ lw_tbl := List.forall_mem_cons.mpr ⟨tb_3 _ (List.mem_of_getElem? (i := 182) (by first | rfl | decide +kernel)), List.forall_mem_append.mpr ⟨List.forall_mem_cons.mpr ⟨uw_17, List.forall_mem_cons.mpr ⟨uw_402, List.forall_mem_cons.mpr ⟨uw_400, List.forall_mem_cons.mpr ⟨uw_401, List.forall_mem_cons.mpr ⟨uw_70, tw_nil⟩⟩⟩⟩⟩, List.forall_mem_append.mpr ⟨twX00, List.forall_mem_append.mpr ⟨twX0_readSounds, tw_nil⟩⟩⟩⟩
set_option maxRecDepth 20000 in
theorem uw_403 : (Cond.methodLink RX0 36 Lib.Math.min.name) ∈ lw_tbl := tb_3 _ (List.mem_of_getElem? (i := 188) (by first | rfl | decide +kernel))
set_option maxRecDepth 20000 in
theorem twX0_leastCost : ∀ w ∈ wsX0_leastCost, w ∈ lw_tbl := List.forall_mem_cons.mpr ⟨tb_3 _ (List.mem_of_getElem? (i := 186) (by first | rfl | decide +kernel)), List.forall_mem_append.mpr ⟨List.forall_mem_cons.mpr ⟨uw_402, List.forall_mem_cons.mpr ⟨uw_399, List.forall_mem_cons.mpr ⟨uw_18, List.forall_mem_cons.mpr ⟨uw_16, List.forall_mem_cons.mpr ⟨uw_17, List.forall_mem_cons.mpr ⟨uw_105, List.forall_mem_cons.mpr ⟨uw_303, List.forall_mem_cons.mpr ⟨uw_403, List.forall_mem_cons.mpr ⟨uw_200, List.forall_mem_cons.mpr ⟨uw_197, List.forall_mem_cons.mpr ⟨uw_201, tw_nil⟩⟩⟩⟩⟩⟩⟩⟩⟩⟩⟩, List.forall_mem_append.mpr ⟨twX00, List.forall_mem_append.mpr ⟨twX8_costOf, tw_nil⟩⟩⟩⟩
set_option maxRecDepth 20000 in
theorem uw_404 : (Cond.methodLink RX8 171 yX0_readFirst) ∈ lw_tbl := tb_3 _ (List.mem_of_getElem? (i := 172) (by first | rfl | decide +kernel))
set_option maxRecDepth 20000 in
theorem uw_405 : (Cond.instanceMethod yX0_readFirst) ∈ lw_tbl := tb_3 _ (List.mem_of_getElem? (i := 173) (by first | rfl | decide +kernel))
set_option maxRecDepth 20000 in
theorem uw_406 : (Cond.selects RX0 yX0_readFirst yX0_readFirst) ∈ lw_tbl := tb_3 _ (List.mem_of_getElem? (i := 174) (by first | rfl | decide +kernel))
set_option maxRecDepth 20000 in
theorem uw_407 : (Cond.methodLink RX8 175 yX0_readSecond) ∈ lw_tbl := tb_3 _ (List.mem_of_getElem? (i := 179) (by first | rfl | decide +kernel))
set_option maxRecDepth 20000 in
theorem uw_408 : (Cond.instanceMethod yX0_readSecond) ∈ lw_tbl := tb_3 _ (List.mem_of_getElem? (i := 180) (by first | rfl | decide +kernel))
set_option maxRecDepth 20000 in
theorem uw_409 : (Cond.selects RX0 yX0_readSecond yX0_readSecond) ∈ lw_tbl := tb_3 _ (List.mem_of_getElem? (i := 181) (by first | rfl | decide +kernel))
set_option maxRecDepth 20000 in
theorem uw_410 : (Cond.methodLink RX8 178 yX0_leastCost) ∈ lw_tbl := tb_3 _ (List.mem_of_getElem? (i := 183) (by first | rfl | decide +kernel))
set_option maxRecDepth 20000 in
theorem uw_411 : (Cond.instanceMethod yX0_leastCost) ∈ lw_tbl := tb_3 _ (List.mem_of_getElem? (i := 184) (by first | rfl | decide +kernel))
set_option maxRecDepth 20000 in
theorem uw_412 : (Cond.selects RX0 yX0_leastCost yX0_leastCost) ∈ lw_tbl := tb_3 _ (List.mem_of_getElem? (i := 185) (by first | rfl | decide +kernel))
set_option maxRecDepth 20000 in
theorem twX8_line : ∀ w ∈ wsX8_line, w ∈ lw_tbl := List.forall_mem_cons.mpr ⟨tb_3 _ (List.mem_of_getElem? (i := 171) (by first | rfl | decide +kernel)), List.forall_mem_append.mpr ⟨List.forall_mem_cons.mpr ⟨uw_72, List.forall_mem_cons.mpr ⟨uw_55, List.forall_mem_cons.mpr ⟨uw_378, List.forall_mem_cons.mpr ⟨uw_350, List.forall_mem_cons.mpr ⟨uw_362, List.forall_mem_cons.mpr ⟨uw_363, List.forall_mem_cons.mpr ⟨uw_364, List.forall_mem_cons.mpr ⟨uw_105, List.forall_mem_cons.mpr ⟨uw_391, List.forall_mem_cons.mpr ⟨uw_392, List.forall_mem_cons.mpr ⟨uw_393, List.forall_mem_cons.mpr ⟨uw_380, List.forall_mem_cons.mpr ⟨uw_223, List.forall_mem_cons.mpr ⟨uw_404, List.forall_mem_cons.mpr ⟨uw_405, List.forall_mem_cons.mpr ⟨uw_406, List.forall_mem_cons.mpr ⟨uw_70, List.forall_mem_cons.mpr ⟨uw_407, List.forall_mem_cons.mpr ⟨uw_408, List.forall_mem_cons.mpr ⟨uw_409, List.forall_mem_cons.mpr ⟨uw_410, List.forall_mem_cons.mpr ⟨uw_411, List.forall_mem_cons.mpr ⟨uw_412, tw_nil⟩⟩⟩⟩⟩⟩⟩⟩⟩⟩⟩⟩⟩⟩⟩⟩⟩⟩⟩⟩⟩⟩⟩, List.forall_mem_append.mpr ⟨twX80, List.forall_mem_append.mpr ⟨twX50, List.forall_mem_append.mpr ⟨twX8_isSet, List.forall_mem_append.mpr ⟨twX8_isTongue, List.forall_mem_append.mpr ⟨twX8_wordAt, List.forall_mem_append.mpr ⟨twX0_readFirst, List.forall_mem_append.mpr ⟨twX0_readSecond, List.forall_mem_append.mpr ⟨twX0_leastCost, tw_nil⟩⟩⟩⟩⟩⟩⟩⟩⟩⟩
set_option maxRecDepth 20000 in
theorem twX8_isSound : ∀ w ∈ wsX8_isSound, w ∈ lw_tbl := List.forall_mem_cons.mpr ⟨tb_3 _ (List.mem_of_getElem? (i := 152) (by first | rfl | decide +kernel)), List.forall_mem_append.mpr ⟨tw_nil, tw_nil⟩⟩
set_option maxRecDepth 20000 in
theorem twX5_isSilentBut : ∀ w ∈ wsX5_isSilentBut, w ∈ lw_tbl := List.forall_mem_cons.mpr ⟨tb_3 _ (List.mem_of_getElem? (i := 201) (by first | rfl | decide +kernel)), List.forall_mem_append.mpr ⟨List.forall_mem_cons.mpr ⟨uw_5, List.forall_mem_cons.mpr ⟨uw_6, List.forall_mem_cons.mpr ⟨uw_105, List.forall_mem_cons.mpr ⟨uw_223, tw_nil⟩⟩⟩⟩, List.forall_mem_append.mpr ⟨twX50, List.forall_mem_append.mpr ⟨twX8_wordAt, tw_nil⟩⟩⟩⟩
set_option maxRecDepth 20000 in
theorem uw_413 : (Cond.methodLink RX8 130 yX8_isSound) ∈ lw_tbl := tb_3 _ (List.mem_of_getElem? (i := 150) (by first | rfl | decide +kernel))
set_option maxRecDepth 20000 in
theorem uw_414 : (Cond.static yX8_isSound) ∈ lw_tbl := tb_3 _ (List.mem_of_getElem? (i := 151) (by first | rfl | decide +kernel))
set_option maxRecDepth 20000 in
theorem uw_415 : (Cond.methodLink RX8 184 yX5_isSilentBut) ∈ lw_tbl := tb_3 _ (List.mem_of_getElem? (i := 198) (by first | rfl | decide +kernel))
set_option maxRecDepth 20000 in
theorem uw_416 : (Cond.instanceMethod yX5_isSilentBut) ∈ lw_tbl := tb_3 _ (List.mem_of_getElem? (i := 199) (by first | rfl | decide +kernel))
set_option maxRecDepth 20000 in
theorem uw_417 : (Cond.selects RX5 yX5_isSilentBut yX5_isSilentBut) ∈ lw_tbl := tb_3 _ (List.mem_of_getElem? (i := 200) (by first | rfl | decide +kernel))
set_option maxRecDepth 20000 in
theorem twX8_put : ∀ w ∈ wsX8_put, w ∈ lw_tbl := List.forall_mem_cons.mpr ⟨tb_3 _ (List.mem_of_getElem? (i := 197) (by first | rfl | decide +kernel)), List.forall_mem_append.mpr ⟨List.forall_mem_cons.mpr ⟨uw_55, List.forall_mem_cons.mpr ⟨uw_378, List.forall_mem_cons.mpr ⟨uw_270, List.forall_mem_cons.mpr ⟨uw_362, List.forall_mem_cons.mpr ⟨uw_363, List.forall_mem_cons.mpr ⟨uw_364, List.forall_mem_cons.mpr ⟨uw_105, List.forall_mem_cons.mpr ⟨uw_391, List.forall_mem_cons.mpr ⟨uw_392, List.forall_mem_cons.mpr ⟨uw_393, List.forall_mem_cons.mpr ⟨uw_384, List.forall_mem_cons.mpr ⟨uw_385, List.forall_mem_cons.mpr ⟨uw_386, List.forall_mem_cons.mpr ⟨uw_413, List.forall_mem_cons.mpr ⟨uw_414, List.forall_mem_cons.mpr ⟨uw_380, List.forall_mem_cons.mpr ⟨uw_223, List.forall_mem_cons.mpr ⟨uw_415, List.forall_mem_cons.mpr ⟨uw_416, List.forall_mem_cons.mpr ⟨uw_417, List.forall_mem_cons.mpr ⟨uw_33, tw_nil⟩⟩⟩⟩⟩⟩⟩⟩⟩⟩⟩⟩⟩⟩⟩⟩⟩⟩⟩⟩⟩, List.forall_mem_append.mpr ⟨twX80, List.forall_mem_append.mpr ⟨twX50, List.forall_mem_append.mpr ⟨twX8_isSet, List.forall_mem_append.mpr ⟨twX8_isTongue, List.forall_mem_append.mpr ⟨twX8_isPlace, List.forall_mem_append.mpr ⟨twX8_isSound, List.forall_mem_append.mpr ⟨twX8_wordAt, List.forall_mem_append.mpr ⟨twX5_isSilentBut, tw_nil⟩⟩⟩⟩⟩⟩⟩⟩⟩⟩
set_option maxRecDepth 20000 in
theorem twX5_putOver : ∀ w ∈ wsX5_putOver, w ∈ lw_tbl := List.forall_mem_cons.mpr ⟨tb_3 _ (List.mem_of_getElem? (i := 210) (by first | rfl | decide +kernel)), List.forall_mem_append.mpr ⟨List.forall_mem_cons.mpr ⟨uw_4, List.forall_mem_cons.mpr ⟨uw_5, List.forall_mem_cons.mpr ⟨uw_6, List.forall_mem_cons.mpr ⟨uw_105, List.forall_mem_cons.mpr ⟨uw_223, List.forall_mem_cons.mpr ⟨uw_264, List.forall_mem_cons.mpr ⟨uw_265, List.forall_mem_cons.mpr ⟨uw_266, List.forall_mem_cons.mpr ⟨uw_267, tw_nil⟩⟩⟩⟩⟩⟩⟩⟩⟩, List.forall_mem_append.mpr ⟨twX50, List.forall_mem_append.mpr ⟨twX8_wordAt, tw_nil⟩⟩⟩⟩
set_option maxRecDepth 20000 in
theorem uw_418 : (Cond.methodLink RX8 188 yX5_putOver) ∈ lw_tbl := tb_3 _ (List.mem_of_getElem? (i := 207) (by first | rfl | decide +kernel))
set_option maxRecDepth 20000 in
theorem uw_419 : (Cond.instanceMethod yX5_putOver) ∈ lw_tbl := tb_3 _ (List.mem_of_getElem? (i := 208) (by first | rfl | decide +kernel))
set_option maxRecDepth 20000 in
theorem uw_420 : (Cond.selects RX5 yX5_putOver yX5_putOver) ∈ lw_tbl := tb_3 _ (List.mem_of_getElem? (i := 209) (by first | rfl | decide +kernel))
set_option maxRecDepth 20000 in
theorem twX8_copy : ∀ w ∈ wsX8_copy, w ∈ lw_tbl := List.forall_mem_cons.mpr ⟨tb_3 _ (List.mem_of_getElem? (i := 206) (by first | rfl | decide +kernel)), List.forall_mem_append.mpr ⟨List.forall_mem_cons.mpr ⟨uw_55, List.forall_mem_cons.mpr ⟨uw_179, List.forall_mem_cons.mpr ⟨uw_270, List.forall_mem_cons.mpr ⟨uw_362, List.forall_mem_cons.mpr ⟨uw_363, List.forall_mem_cons.mpr ⟨uw_364, List.forall_mem_cons.mpr ⟨uw_105, List.forall_mem_cons.mpr ⟨uw_418, List.forall_mem_cons.mpr ⟨uw_419, List.forall_mem_cons.mpr ⟨uw_420, List.forall_mem_cons.mpr ⟨uw_33, tw_nil⟩⟩⟩⟩⟩⟩⟩⟩⟩⟩⟩, List.forall_mem_append.mpr ⟨twX80, List.forall_mem_append.mpr ⟨twX50, List.forall_mem_append.mpr ⟨twX8_isSet, List.forall_mem_append.mpr ⟨twX5_putOver, tw_nil⟩⟩⟩⟩⟩⟩
set_option maxRecDepth 20000 in
theorem uw_421 : (Cond.methodLink RX5 38 yX5_putOver) ∈ lw_tbl := tb_3 _ (List.mem_of_getElem? (i := 219) (by first | rfl | decide +kernel))
set_option maxRecDepth 20000 in
theorem twX5_remove : ∀ w ∈ wsX5_remove, w ∈ lw_tbl := List.forall_mem_cons.mpr ⟨tb_3 _ (List.mem_of_getElem? (i := 218) (by first | rfl | decide +kernel)), List.forall_mem_append.mpr ⟨List.forall_mem_cons.mpr ⟨uw_262, List.forall_mem_cons.mpr ⟨uw_421, List.forall_mem_cons.mpr ⟨uw_419, List.forall_mem_cons.mpr ⟨uw_420, List.forall_mem_cons.mpr ⟨uw_33, tw_nil⟩⟩⟩⟩⟩, List.forall_mem_append.mpr ⟨twX50, List.forall_mem_append.mpr ⟨twX5_putOver, tw_nil⟩⟩⟩⟩
set_option maxRecDepth 20000 in
theorem twX4_loseSet : ∀ w ∈ wsX4_loseSet, w ∈ lw_tbl := List.forall_mem_cons.mpr ⟨tb_3 _ (List.mem_of_getElem? (i := 223) (by first | rfl | decide +kernel)), List.forall_mem_append.mpr ⟨List.forall_mem_cons.mpr ⟨uw_182, List.forall_mem_cons.mpr ⟨uw_8, tw_nil⟩⟩, List.forall_mem_append.mpr ⟨twX40, tw_nil⟩⟩⟩
set_option maxRecDepth 20000 in
theorem uw_422 : (Cond.methodLink RX8 192 yX5_remove) ∈ lw_tbl := tb_3 _ (List.mem_of_getElem? (i := 215) (by first | rfl | decide +kernel))
set_option maxRecDepth 20000 in
theorem uw_423 : (Cond.instanceMethod yX5_remove) ∈ lw_tbl := tb_3 _ (List.mem_of_getElem? (i := 216) (by first | rfl | decide +kernel))
set_option maxRecDepth 20000 in
theorem uw_424 : (Cond.selects RX5 yX5_remove yX5_remove) ∈ lw_tbl := tb_3 _ (List.mem_of_getElem? (i := 217) (by first | rfl | decide +kernel))
set_option maxRecDepth 20000 in
theorem uw_425 : (Cond.methodLink RX8 196 yX4_loseSet) ∈ lw_tbl := tb_3 _ (List.mem_of_getElem? (i := 220) (by first | rfl | decide +kernel))
set_option maxRecDepth 20000 in
theorem uw_426 : (Cond.instanceMethod yX4_loseSet) ∈ lw_tbl := tb_3 _ (List.mem_of_getElem? (i := 221) (by first | rfl | decide +kernel))
set_option maxRecDepth 20000 in
theorem uw_427 : (Cond.selects RX4 yX4_loseSet yX4_loseSet) ∈ lw_tbl := tb_3 _ (List.mem_of_getElem? (i := 222) (by first | rfl | decide +kernel))
set_option maxRecDepth 20000 in
theorem twX8_take : ∀ w ∈ wsX8_take, w ∈ lw_tbl := List.forall_mem_cons.mpr ⟨tb_3 _ (List.mem_of_getElem? (i := 214) (by first | rfl | decide +kernel)), List.forall_mem_append.mpr ⟨List.forall_mem_cons.mpr ⟨uw_55, List.forall_mem_cons.mpr ⟨uw_179, List.forall_mem_cons.mpr ⟨uw_60, List.forall_mem_cons.mpr ⟨uw_270, List.forall_mem_cons.mpr ⟨uw_362, List.forall_mem_cons.mpr ⟨uw_363, List.forall_mem_cons.mpr ⟨uw_364, List.forall_mem_cons.mpr ⟨uw_105, List.forall_mem_cons.mpr ⟨uw_422, List.forall_mem_cons.mpr ⟨uw_423, List.forall_mem_cons.mpr ⟨uw_424, List.forall_mem_cons.mpr ⟨uw_33, List.forall_mem_cons.mpr ⟨uw_425, List.forall_mem_cons.mpr ⟨uw_426, List.forall_mem_cons.mpr ⟨uw_427, List.forall_mem_cons.mpr ⟨uw_58, tw_nil⟩⟩⟩⟩⟩⟩⟩⟩⟩⟩⟩⟩⟩⟩⟩⟩, List.forall_mem_append.mpr ⟨twX80, List.forall_mem_append.mpr ⟨twX50, List.forall_mem_append.mpr ⟨twX8_isSet, List.forall_mem_append.mpr ⟨twX5_remove, List.forall_mem_append.mpr ⟨twX4_loseSet, tw_nil⟩⟩⟩⟩⟩⟩⟩
set_option maxRecDepth 20000 in
theorem twX8_change : ∀ w ∈ wsX8_change, w ∈ lw_tbl := List.forall_mem_cons.mpr ⟨tb_3 _ (List.mem_of_getElem? (i := 227) (by first | rfl | decide +kernel)), List.forall_mem_append.mpr ⟨List.forall_mem_cons.mpr ⟨uw_55, List.forall_mem_cons.mpr ⟨uw_349, List.forall_mem_cons.mpr ⟨uw_270, List.forall_mem_cons.mpr ⟨uw_362, List.forall_mem_cons.mpr ⟨uw_363, List.forall_mem_cons.mpr ⟨uw_364, List.forall_mem_cons.mpr ⟨uw_105, List.forall_mem_cons.mpr ⟨uw_371, List.forall_mem_cons.mpr ⟨uw_372, tw_nil⟩⟩⟩⟩⟩⟩⟩⟩⟩, List.forall_mem_append.mpr ⟨twX80, List.forall_mem_append.mpr ⟨twX50, List.forall_mem_append.mpr ⟨twX8_isSet, List.forall_mem_append.mpr ⟨twX8_isKind, tw_nil⟩⟩⟩⟩⟩⟩
set_option maxRecDepth 20000 in
theorem twX2_tell : ∀ w ∈ wsX2_tell, w ∈ lw_tbl := List.forall_mem_cons.mpr ⟨tb_3 _ (List.mem_of_getElem? (i := 157) (by first | rfl | decide +kernel)), List.forall_mem_append.mpr ⟨List.forall_mem_cons.mpr ⟨uw_20, List.forall_mem_cons.mpr ⟨uw_21, List.forall_mem_cons.mpr ⟨uw_22, tw_nil⟩⟩⟩, List.forall_mem_append.mpr ⟨twX20, tw_nil⟩⟩⟩
set_option maxRecDepth 20000 in
theorem uw_428 : (Cond.methodLink RX8 140 yX2_tell) ∈ lw_tbl := tb_3 _ (List.mem_of_getElem? (i := 154) (by first | rfl | decide +kernel))
set_option maxRecDepth 20000 in
theorem uw_429 : (Cond.instanceMethod yX2_tell) ∈ lw_tbl := tb_3 _ (List.mem_of_getElem? (i := 155) (by first | rfl | decide +kernel))
set_option maxRecDepth 20000 in
theorem uw_430 : (Cond.selects RX2 yX2_tell yX2_tell) ∈ lw_tbl := tb_3 _ (List.mem_of_getElem? (i := 156) (by first | rfl | decide +kernel))
set_option maxRecDepth 20000 in
theorem twX8_law : ∀ w ∈ wsX8_law, w ∈ lw_tbl := List.forall_mem_cons.mpr ⟨tb_3 _ (List.mem_of_getElem? (i := 145) (by first | rfl | decide +kernel)), List.forall_mem_append.mpr ⟨List.forall_mem_cons.mpr ⟨uw_65, List.forall_mem_cons.mpr ⟨uw_394, List.forall_mem_cons.mpr ⟨uw_391, List.forall_mem_cons.mpr ⟨uw_392, List.forall_mem_cons.mpr ⟨uw_393, List.forall_mem_cons.mpr ⟨uw_105, List.forall_mem_cons.mpr ⟨uw_413, List.forall_mem_cons.mpr ⟨uw_414, List.forall_mem_cons.mpr ⟨uw_365, List.forall_mem_cons.mpr ⟨uw_366, List.forall_mem_cons.mpr ⟨uw_367, List.forall_mem_cons.mpr ⟨uw_398, List.forall_mem_cons.mpr ⟨uw_295, List.forall_mem_cons.mpr ⟨uw_428, List.forall_mem_cons.mpr ⟨uw_429, List.forall_mem_cons.mpr ⟨uw_430, List.forall_mem_cons.mpr ⟨uw_42, tw_nil⟩⟩⟩⟩⟩⟩⟩⟩⟩⟩⟩⟩⟩⟩⟩⟩⟩, List.forall_mem_append.mpr ⟨twX80, List.forall_mem_append.mpr ⟨twX60, List.forall_mem_append.mpr ⟨twX8_isTongue, List.forall_mem_append.mpr ⟨twX8_isSound, List.forall_mem_append.mpr ⟨twX8_freshenStudy, List.forall_mem_append.mpr ⟨twX8_lawAt, List.forall_mem_append.mpr ⟨twX2_tell, tw_nil⟩⟩⟩⟩⟩⟩⟩⟩⟩
set_option maxRecDepth 20000 in
theorem twX5_exchange : ∀ w ∈ wsX5_exchange, w ∈ lw_tbl := List.forall_mem_cons.mpr ⟨tb_3 _ (List.mem_of_getElem? (i := 235) (by first | rfl | decide +kernel)), List.forall_mem_append.mpr ⟨List.forall_mem_cons.mpr ⟨uw_262, List.forall_mem_cons.mpr ⟨uw_5, List.forall_mem_cons.mpr ⟨uw_105, List.forall_mem_cons.mpr ⟨uw_223, List.forall_mem_cons.mpr ⟨uw_6, tw_nil⟩⟩⟩⟩⟩, List.forall_mem_append.mpr ⟨twX50, List.forall_mem_append.mpr ⟨twX8_wordAt, tw_nil⟩⟩⟩⟩
set_option maxRecDepth 20000 in
theorem uw_431 : (Cond.fieldLink RX8 202 "SoundLaws$Study" "changesOfAll" "I") ∈ lw_tbl := tb_1 _ (List.mem_of_getElem? (i := 180) (by first | rfl | decide +kernel))
set_option maxRecDepth 20000 in
theorem uw_432 : (Cond.methodLink RX8 199 yX5_exchange) ∈ lw_tbl := tb_3 _ (List.mem_of_getElem? (i := 232) (by first | rfl | decide +kernel))
set_option maxRecDepth 20000 in
theorem uw_433 : (Cond.instanceMethod yX5_exchange) ∈ lw_tbl := tb_3 _ (List.mem_of_getElem? (i := 233) (by first | rfl | decide +kernel))
set_option maxRecDepth 20000 in
theorem uw_434 : (Cond.selects RX5 yX5_exchange yX5_exchange) ∈ lw_tbl := tb_3 _ (List.mem_of_getElem? (i := 234) (by first | rfl | decide +kernel))
set_option maxRecDepth 20000 in
theorem twX8_swap : ∀ w ∈ wsX8_swap, w ∈ lw_tbl := List.forall_mem_cons.mpr ⟨tb_3 _ (List.mem_of_getElem? (i := 231) (by first | rfl | decide +kernel)), List.forall_mem_append.mpr ⟨List.forall_mem_cons.mpr ⟨uw_55, List.forall_mem_cons.mpr ⟨uw_270, List.forall_mem_cons.mpr ⟨uw_65, List.forall_mem_cons.mpr ⟨uw_431, List.forall_mem_cons.mpr ⟨uw_391, List.forall_mem_cons.mpr ⟨uw_392, List.forall_mem_cons.mpr ⟨uw_393, List.forall_mem_cons.mpr ⟨uw_105, List.forall_mem_cons.mpr ⟨uw_432, List.forall_mem_cons.mpr ⟨uw_433, List.forall_mem_cons.mpr ⟨uw_434, List.forall_mem_cons.mpr ⟨uw_33, List.forall_mem_cons.mpr ⟨uw_365, List.forall_mem_cons.mpr ⟨uw_366, List.forall_mem_cons.mpr ⟨uw_367, tw_nil⟩⟩⟩⟩⟩⟩⟩⟩⟩⟩⟩⟩⟩⟩⟩, List.forall_mem_append.mpr ⟨twX80, List.forall_mem_append.mpr ⟨twX60, List.forall_mem_append.mpr ⟨twX8_isTongue, List.forall_mem_append.mpr ⟨twX5_exchange, List.forall_mem_append.mpr ⟨twX8_freshenStudy, tw_nil⟩⟩⟩⟩⟩⟩⟩
set_option maxRecDepth 20000 in
theorem twX4_add : ∀ w ∈ wsX4_add, w ∈ lw_tbl := List.forall_mem_cons.mpr ⟨tb_4 _ (List.mem_of_getElem? (i := 3) (by first | rfl | decide +kernel)), List.forall_mem_append.mpr ⟨List.forall_mem_cons.mpr ⟨uw_8, List.forall_mem_cons.mpr ⟨uw_182, List.forall_mem_cons.mpr ⟨uw_9, List.forall_mem_cons.mpr ⟨uw_11, tw_nil⟩⟩⟩⟩, List.forall_mem_append.mpr ⟨twX40, tw_nil⟩⟩⟩
set_option maxRecDepth 20000 in
theorem uw_435 : (Cond.fieldLink RX8 205 "SoundLaws$Sightings" "size" "I") ∈ lw_tbl := tb_1 _ (List.mem_of_getElem? (i := 104) (by first | rfl | decide +kernel))
set_option maxRecDepth 20000 in
theorem uw_436 : (Cond.methodLink RX8 206 yX4_add) ∈ lw_tbl := tb_4 _ (List.mem_of_getElem? (i := 0) (by first | rfl | decide +kernel))
set_option maxRecDepth 20000 in
theorem uw_437 : (Cond.instanceMethod yX4_add) ∈ lw_tbl := tb_4 _ (List.mem_of_getElem? (i := 1) (by first | rfl | decide +kernel))
set_option maxRecDepth 20000 in
theorem uw_438 : (Cond.selects RX4 yX4_add yX4_add) ∈ lw_tbl := tb_4 _ (List.mem_of_getElem? (i := 2) (by first | rfl | decide +kernel))
set_option maxRecDepth 20000 in
theorem twX8_see : ∀ w ∈ wsX8_see, w ∈ lw_tbl := List.forall_mem_cons.mpr ⟨tb_3 _ (List.mem_of_getElem? (i := 239) (by first | rfl | decide +kernel)), List.forall_mem_append.mpr ⟨List.forall_mem_cons.mpr ⟨uw_60, List.forall_mem_cons.mpr ⟨uw_435, List.forall_mem_cons.mpr ⟨uw_362, List.forall_mem_cons.mpr ⟨uw_363, List.forall_mem_cons.mpr ⟨uw_364, List.forall_mem_cons.mpr ⟨uw_105, List.forall_mem_cons.mpr ⟨uw_436, List.forall_mem_cons.mpr ⟨uw_437, List.forall_mem_cons.mpr ⟨uw_438, List.forall_mem_cons.mpr ⟨uw_58, tw_nil⟩⟩⟩⟩⟩⟩⟩⟩⟩⟩, List.forall_mem_append.mpr ⟨twX80, List.forall_mem_append.mpr ⟨twX40, List.forall_mem_append.mpr ⟨twX8_isSet, List.forall_mem_append.mpr ⟨twX4_add, tw_nil⟩⟩⟩⟩⟩⟩
set_option maxRecDepth 20000 in
theorem twX8_forget : ∀ w ∈ wsX8_forget, w ∈ lw_tbl := List.forall_mem_cons.mpr ⟨tb_4 _ (List.mem_of_getElem? (i := 7) (by first | rfl | decide +kernel)), List.forall_mem_append.mpr ⟨List.forall_mem_cons.mpr ⟨uw_60, List.forall_mem_cons.mpr ⟨uw_435, List.forall_mem_cons.mpr ⟨uw_278, List.forall_mem_cons.mpr ⟨uw_279, List.forall_mem_cons.mpr ⟨uw_280, List.forall_mem_cons.mpr ⟨uw_58, tw_nil⟩⟩⟩⟩⟩⟩, List.forall_mem_append.mpr ⟨twX80, List.forall_mem_append.mpr ⟨twX40, List.forall_mem_append.mpr ⟨twX4_clear, tw_nil⟩⟩⟩⟩⟩
set_option maxRecDepth 20000 in
theorem uw_439 : (Cond.methodLink RX4 26 yX4_add) ∈ lw_tbl := tb_4 _ (List.mem_of_getElem? (i := 39) (by first | rfl | decide +kernel))
set_option maxRecDepth 20000 in
theorem twX4_become : ∀ w ∈ wsX4_become, w ∈ lw_tbl := List.forall_mem_cons.mpr ⟨tb_4 _ (List.mem_of_getElem? (i := 38) (by first | rfl | decide +kernel)), List.forall_mem_append.mpr ⟨List.forall_mem_cons.mpr ⟨uw_182, List.forall_mem_cons.mpr ⟨uw_8, List.forall_mem_cons.mpr ⟨uw_9, List.forall_mem_cons.mpr ⟨uw_11, List.forall_mem_cons.mpr ⟨uw_439, List.forall_mem_cons.mpr ⟨uw_437, List.forall_mem_cons.mpr ⟨uw_438, List.forall_mem_cons.mpr ⟨uw_58, tw_nil⟩⟩⟩⟩⟩⟩⟩⟩, List.forall_mem_append.mpr ⟨twX40, List.forall_mem_append.mpr ⟨twX4_add, tw_nil⟩⟩⟩⟩
set_option maxRecDepth 20000 in
theorem uw_440 : (Cond.methodLink RX8 222 yX4_become) ∈ lw_tbl := tb_4 _ (List.mem_of_getElem? (i := 35) (by first | rfl | decide +kernel))
set_option maxRecDepth 20000 in
theorem uw_441 : (Cond.instanceMethod yX4_become) ∈ lw_tbl := tb_4 _ (List.mem_of_getElem? (i := 36) (by first | rfl | decide +kernel))
set_option maxRecDepth 20000 in
theorem uw_442 : (Cond.selects RX4 yX4_become yX4_become) ∈ lw_tbl := tb_4 _ (List.mem_of_getElem? (i := 37) (by first | rfl | decide +kernel))
set_option maxRecDepth 20000 in
theorem twX8_image : ∀ w ∈ wsX8_image, w ∈ lw_tbl := List.forall_mem_cons.mpr ⟨tb_4 _ (List.mem_of_getElem? (i := 34) (by first | rfl | decide +kernel)), List.forall_mem_append.mpr ⟨List.forall_mem_cons.mpr ⟨uw_55, List.forall_mem_cons.mpr ⟨uw_179, List.forall_mem_cons.mpr ⟨uw_66, List.forall_mem_cons.mpr ⟨uw_67, List.forall_mem_cons.mpr ⟨uw_60, List.forall_mem_cons.mpr ⟨uw_269, List.forall_mem_cons.mpr ⟨uw_275, List.forall_mem_cons.mpr ⟨uw_276, List.forall_mem_cons.mpr ⟨uw_277, List.forall_mem_cons.mpr ⟨uw_33, List.forall_mem_cons.mpr ⟨uw_440, List.forall_mem_cons.mpr ⟨uw_441, List.forall_mem_cons.mpr ⟨uw_442, List.forall_mem_cons.mpr ⟨uw_58, tw_nil⟩⟩⟩⟩⟩⟩⟩⟩⟩⟩⟩⟩⟩⟩, List.forall_mem_append.mpr ⟨twX80, List.forall_mem_append.mpr ⟨twX50, List.forall_mem_append.mpr ⟨twX5_become, List.forall_mem_append.mpr ⟨twX4_become, tw_nil⟩⟩⟩⟩⟩⟩
set_option maxRecDepth 20000 in
theorem twX8_restore : ∀ w ∈ wsX8_restore, w ∈ lw_tbl := List.forall_mem_cons.mpr ⟨tb_4 _ (List.mem_of_getElem? (i := 43) (by first | rfl | decide +kernel)), List.forall_mem_append.mpr ⟨List.forall_mem_cons.mpr ⟨uw_269, List.forall_mem_cons.mpr ⟨uw_55, List.forall_mem_cons.mpr ⟨uw_66, List.forall_mem_cons.mpr ⟨uw_60, List.forall_mem_cons.mpr ⟨uw_67, List.forall_mem_cons.mpr ⟨uw_270, List.forall_mem_cons.mpr ⟨uw_179, List.forall_mem_cons.mpr ⟨uw_275, List.forall_mem_cons.mpr ⟨uw_276, List.forall_mem_cons.mpr ⟨uw_277, List.forall_mem_cons.mpr ⟨uw_33, List.forall_mem_cons.mpr ⟨uw_440, List.forall_mem_cons.mpr ⟨uw_441, List.forall_mem_cons.mpr ⟨uw_442, List.forall_mem_cons.mpr ⟨uw_58, tw_nil⟩⟩⟩⟩⟩⟩⟩⟩⟩⟩⟩⟩⟩⟩⟩, List.forall_mem_append.mpr ⟨twX80, List.forall_mem_append.mpr ⟨twX50, List.forall_mem_append.mpr ⟨twX5_become, List.forall_mem_append.mpr ⟨twX4_become, tw_nil⟩⟩⟩⟩⟩⟩
set_option maxRecDepth 20000 in
theorem uw_443 : (Cond.methodLink RX8 181 yX8_costOf) ∈ lw_tbl := tb_3 _ (List.mem_of_getElem? (i := 193) (by first | rfl | decide +kernel))
set_option maxRecDepth 20000 in
theorem twX8_cost : ∀ w ∈ wsX8_cost, w ∈ lw_tbl := List.forall_mem_cons.mpr ⟨tb_3 _ (List.mem_of_getElem? (i := 192) (by first | rfl | decide +kernel)), List.forall_mem_append.mpr ⟨List.forall_mem_cons.mpr ⟨uw_413, List.forall_mem_cons.mpr ⟨uw_414, List.forall_mem_cons.mpr ⟨uw_105, List.forall_mem_cons.mpr ⟨uw_443, List.forall_mem_cons.mpr ⟨uw_303, tw_nil⟩⟩⟩⟩⟩, List.forall_mem_append.mpr ⟨twX8_isSound, List.forall_mem_append.mpr ⟨twX8_costOf, tw_nil⟩⟩⟩⟩
set_option maxRecDepth 20000 in
theorem uw_444 : (Cond.methodLink RX6 78 yX6_borrowedTongues) ∈ lw_tbl := tb_4 _ (List.mem_of_getElem? (i := 56) (by first | rfl | decide +kernel))
set_option maxRecDepth 20000 in
theorem uw_445 : (Cond.methodLink RX6 82 yJ6_bitCount_0f7a4) ∈ lw_tbl := tb_4 _ (List.mem_of_getElem? (i := 57) (by first | rfl | decide +kernel))
set_option maxRecDepth 20000 in
theorem twX6_borrowedWords : ∀ w ∈ wsX6_borrowedWords, w ∈ lw_tbl := List.forall_mem_cons.mpr ⟨tb_4 _ (List.mem_of_getElem? (i := 55) (by first | rfl | decide +kernel)), List.forall_mem_append.mpr ⟨List.forall_mem_cons.mpr ⟨uw_315, List.forall_mem_cons.mpr ⟨uw_444, List.forall_mem_cons.mpr ⟨uw_356, List.forall_mem_cons.mpr ⟨uw_357, List.forall_mem_cons.mpr ⟨uw_63, List.forall_mem_cons.mpr ⟨uw_445, List.forall_mem_cons.mpr ⟨uw_347, List.forall_mem_cons.mpr ⟨uw_348, tw_nil⟩⟩⟩⟩⟩⟩⟩⟩, List.forall_mem_append.mpr ⟨twX50, List.forall_mem_append.mpr ⟨twX6_borrowedTongues, List.forall_mem_append.mpr ⟨twJ6_bitCount_0f7a4, tw_nil⟩⟩⟩⟩⟩
set_option maxRecDepth 20000 in
theorem uw_446 : (Cond.fieldLink RX8 278 "SoundLaws$Laws" "known" "I") ∈ lw_tbl := tb_1 _ (List.mem_of_getElem? (i := 136) (by first | rfl | decide +kernel))
set_option maxRecDepth 20000 in
theorem uw_447 : (Cond.fieldLink RX8 281 "SoundLaws$Laws" "exceptionsOfAll" "I") ∈ lw_tbl := tb_1 _ (List.mem_of_getElem? (i := 138) (by first | rfl | decide +kernel))
set_option maxRecDepth 20000 in
theorem uw_448 : (Cond.methodLink RX8 284 yX6_borrowedWords) ∈ lw_tbl := tb_4 _ (List.mem_of_getElem? (i := 52) (by first | rfl | decide +kernel))
set_option maxRecDepth 20000 in
theorem uw_449 : (Cond.instanceMethod yX6_borrowedWords) ∈ lw_tbl := tb_4 _ (List.mem_of_getElem? (i := 53) (by first | rfl | decide +kernel))
set_option maxRecDepth 20000 in
theorem uw_450 : (Cond.selects RX6 yX6_borrowedWords yX6_borrowedWords) ∈ lw_tbl := tb_4 _ (List.mem_of_getElem? (i := 54) (by first | rfl | decide +kernel))
set_option maxRecDepth 20000 in
theorem twX8_tellOfAll : ∀ w ∈ wsX8_tellOfAll, w ∈ lw_tbl := List.forall_mem_cons.mpr ⟨tb_4 _ (List.mem_of_getElem? (i := 51) (by first | rfl | decide +kernel)), List.forall_mem_append.mpr ⟨List.forall_mem_cons.mpr ⟨uw_55, List.forall_mem_cons.mpr ⟨uw_179, List.forall_mem_cons.mpr ⟨uw_180, List.forall_mem_cons.mpr ⟨uw_65, List.forall_mem_cons.mpr ⟨uw_431, List.forall_mem_cons.mpr ⟨uw_394, List.forall_mem_cons.mpr ⟨uw_446, List.forall_mem_cons.mpr ⟨uw_447, List.forall_mem_cons.mpr ⟨uw_60, List.forall_mem_cons.mpr ⟨uw_435, List.forall_mem_cons.mpr ⟨uw_183, List.forall_mem_cons.mpr ⟨uw_271, List.forall_mem_cons.mpr ⟨uw_375, List.forall_mem_cons.mpr ⟨uw_106, List.forall_mem_cons.mpr ⟨uw_105, List.forall_mem_cons.mpr ⟨uw_448, List.forall_mem_cons.mpr ⟨uw_449, List.forall_mem_cons.mpr ⟨uw_450, List.forall_mem_cons.mpr ⟨uw_63, tw_nil⟩⟩⟩⟩⟩⟩⟩⟩⟩⟩⟩⟩⟩⟩⟩⟩⟩⟩⟩, List.forall_mem_append.mpr ⟨twX80, List.forall_mem_append.mpr ⟨twX50, List.forall_mem_append.mpr ⟨twX60, List.forall_mem_append.mpr ⟨twX20, List.forall_mem_append.mpr ⟨twX40, List.forall_mem_append.mpr ⟨twX8_nodesOf, List.forall_mem_append.mpr ⟨twX6_borrowedWords, tw_nil⟩⟩⟩⟩⟩⟩⟩⟩⟩
set_option maxRecDepth 20000 in
theorem uw_451 : (Cond.methodLink RX8 225 yX8_tellOfAll) ∈ lw_tbl := tb_4 _ (List.mem_of_getElem? (i := 48) (by first | rfl | decide +kernel))
set_option maxRecDepth 20000 in
theorem uw_452 : (Cond.instanceMethod yX8_tellOfAll) ∈ lw_tbl := tb_4 _ (List.mem_of_getElem? (i := 50) (by first | rfl | decide +kernel))
set_option maxRecDepth 20000 in
theorem uw_453 : (Cond.selects RX8 yX8_tellOfAll yX8_tellOfAll) ∈ lw_tbl := List.mem_of_getElem? (i := 25) (by first | rfl | decide +kernel)
set_option maxRecDepth 20000 in
theorem twX8_count : ∀ w ∈ wsX8_count, w ∈ lw_tbl := List.forall_mem_cons.mpr ⟨tb_4 _ (List.mem_of_getElem? (i := 47) (by first | rfl | decide +kernel)), List.forall_mem_append.mpr ⟨List.forall_mem_cons.mpr ⟨uw_365, List.forall_mem_cons.mpr ⟨uw_366, List.forall_mem_cons.mpr ⟨uw_367, List.forall_mem_cons.mpr ⟨uw_105, List.forall_mem_cons.mpr ⟨uw_451, List.forall_mem_cons.mpr ⟨uw_452, List.forall_mem_cons.mpr ⟨uw_453, tw_nil⟩⟩⟩⟩⟩⟩⟩, List.forall_mem_append.mpr ⟨twX8_freshenStudy, List.forall_mem_append.mpr ⟨twX8_tellOfAll, tw_nil⟩⟩⟩⟩
set_option maxRecDepth 20000 in
theorem uw_454 : (Cond.constantLong RX8 246 (31)) ∈ lw_tbl := tb_4 _ (List.mem_of_getElem? (i := 70) (by first | rfl | decide +kernel))
set_option maxRecDepth 20000 in
theorem twX8_mixed : ∀ w ∈ wsX8_mixed, w ∈ lw_tbl := List.forall_mem_cons.mpr ⟨tb_4 _ (List.mem_of_getElem? (i := 69) (by first | rfl | decide +kernel)), List.forall_mem_append.mpr ⟨List.forall_mem_cons.mpr ⟨uw_454, tw_nil⟩, tw_nil⟩⟩
set_option maxRecDepth 20000 in
theorem uw_455 : (Cond.methodLink RX8 240 yX8_mixed) ∈ lw_tbl := tb_4 _ (List.mem_of_getElem? (i := 67) (by first | rfl | decide +kernel))
set_option maxRecDepth 20000 in
theorem uw_456 : (Cond.static yX8_mixed) ∈ lw_tbl := tb_4 _ (List.mem_of_getElem? (i := 68) (by first | rfl | decide +kernel))
set_option maxRecDepth 20000 in
theorem twX8_digestLaws : ∀ w ∈ wsX8_digestLaws, w ∈ lw_tbl := List.forall_mem_cons.mpr ⟨tb_4 _ (List.mem_of_getElem? (i := 74) (by first | rfl | decide +kernel)), List.forall_mem_append.mpr ⟨List.forall_mem_cons.mpr ⟨uw_65, List.forall_mem_cons.mpr ⟨uw_394, List.forall_mem_cons.mpr ⟨uw_398, List.forall_mem_cons.mpr ⟨uw_295, List.forall_mem_cons.mpr ⟨uw_105, List.forall_mem_cons.mpr ⟨uw_428, List.forall_mem_cons.mpr ⟨uw_429, List.forall_mem_cons.mpr ⟨uw_430, List.forall_mem_cons.mpr ⟨uw_42, List.forall_mem_cons.mpr ⟨uw_455, List.forall_mem_cons.mpr ⟨uw_456, tw_nil⟩⟩⟩⟩⟩⟩⟩⟩⟩⟩⟩, List.forall_mem_append.mpr ⟨twX80, List.forall_mem_append.mpr ⟨twX60, List.forall_mem_append.mpr ⟨twX8_lawAt, List.forall_mem_append.mpr ⟨twX2_tell, List.forall_mem_append.mpr ⟨twX8_mixed, tw_nil⟩⟩⟩⟩⟩⟩⟩
set_option maxRecDepth 20000 in
theorem twX8_digestSet : ∀ w ∈ wsX8_digestSet, w ∈ lw_tbl := List.forall_mem_cons.mpr ⟨tb_4 _ (List.mem_of_getElem? (i := 66) (by first | rfl | decide +kernel)), List.forall_mem_append.mpr ⟨List.forall_mem_cons.mpr ⟨uw_55, List.forall_mem_cons.mpr ⟨uw_180, List.forall_mem_cons.mpr ⟨uw_350, List.forall_mem_cons.mpr ⟨uw_375, List.forall_mem_cons.mpr ⟨uw_106, List.forall_mem_cons.mpr ⟨uw_105, List.forall_mem_cons.mpr ⟨uw_387, List.forall_mem_cons.mpr ⟨uw_388, List.forall_mem_cons.mpr ⟨uw_389, List.forall_mem_cons.mpr ⟨uw_455, List.forall_mem_cons.mpr ⟨uw_456, List.forall_mem_cons.mpr ⟨uw_368, List.forall_mem_cons.mpr ⟨uw_369, List.forall_mem_cons.mpr ⟨uw_370, tw_nil⟩⟩⟩⟩⟩⟩⟩⟩⟩⟩⟩⟩⟩⟩, List.forall_mem_append.mpr ⟨twX80, List.forall_mem_append.mpr ⟨twX50, List.forall_mem_append.mpr ⟨twX8_nodesOf, List.forall_mem_append.mpr ⟨twX8_tellOfNode, List.forall_mem_append.mpr ⟨twX8_mixed, List.forall_mem_append.mpr ⟨twX8_tellOfSet, tw_nil⟩⟩⟩⟩⟩⟩⟩⟩
set_option maxRecDepth 20000 in
theorem uw_457 : (Cond.constantLong RX8 228 (1459)) ∈ lw_tbl := tb_4 _ (List.mem_of_getElem? (i := 62) (by first | rfl | decide +kernel))
set_option maxRecDepth 20000 in
theorem uw_458 : (Cond.methodLink RX8 237 yX8_digestLaws) ∈ lw_tbl := tb_4 _ (List.mem_of_getElem? (i := 71) (by first | rfl | decide +kernel))
set_option maxRecDepth 20000 in
theorem uw_459 : (Cond.instanceMethod yX8_digestLaws) ∈ lw_tbl := tb_4 _ (List.mem_of_getElem? (i := 73) (by first | rfl | decide +kernel))
set_option maxRecDepth 20000 in
theorem uw_460 : (Cond.selects RX8 yX8_digestLaws yX8_digestLaws) ∈ lw_tbl := List.mem_of_getElem? (i := 27) (by first | rfl | decide +kernel)
set_option maxRecDepth 20000 in
theorem uw_461 : (Cond.methodLink RX8 230 yX8_digestSet) ∈ lw_tbl := tb_4 _ (List.mem_of_getElem? (i := 63) (by first | rfl | decide +kernel))
set_option maxRecDepth 20000 in
theorem uw_462 : (Cond.instanceMethod yX8_digestSet) ∈ lw_tbl := tb_4 _ (List.mem_of_getElem? (i := 65) (by first | rfl | decide +kernel))
set_option maxRecDepth 20000 in
theorem uw_463 : (Cond.selects RX8 yX8_digestSet yX8_digestSet) ∈ lw_tbl := List.mem_of_getElem? (i := 26) (by first | rfl | decide +kernel)
set_option maxRecDepth 20000 in
theorem twX8_digest : ∀ w ∈ wsX8_digest, w ∈ lw_tbl := List.forall_mem_cons.mpr ⟨tb_4 _ (List.mem_of_getElem? (i := 61) (by first | rfl | decide +kernel)), List.forall_mem_append.mpr ⟨List.forall_mem_cons.mpr ⟨uw_457, List.forall_mem_cons.mpr ⟨uw_55, List.forall_mem_cons.mpr ⟨uw_179, List.forall_mem_cons.mpr ⟨uw_180, List.forall_mem_cons.mpr ⟨uw_183, List.forall_mem_cons.mpr ⟨uw_48, List.forall_mem_cons.mpr ⟨uw_365, List.forall_mem_cons.mpr ⟨uw_366, List.forall_mem_cons.mpr ⟨uw_367, List.forall_mem_cons.mpr ⟨uw_105, List.forall_mem_cons.mpr ⟨uw_451, List.forall_mem_cons.mpr ⟨uw_452, List.forall_mem_cons.mpr ⟨uw_453, List.forall_mem_cons.mpr ⟨uw_455, List.forall_mem_cons.mpr ⟨uw_456, List.forall_mem_cons.mpr ⟨uw_458, List.forall_mem_cons.mpr ⟨uw_459, List.forall_mem_cons.mpr ⟨uw_460, List.forall_mem_cons.mpr ⟨uw_461, List.forall_mem_cons.mpr ⟨uw_462, List.forall_mem_cons.mpr ⟨uw_463, tw_nil⟩⟩⟩⟩⟩⟩⟩⟩⟩⟩⟩⟩⟩⟩⟩⟩⟩⟩⟩⟩⟩, List.forall_mem_append.mpr ⟨twX80, List.forall_mem_append.mpr ⟨twX50, List.forall_mem_append.mpr ⟨twX8_freshenStudy, List.forall_mem_append.mpr ⟨twX8_tellOfAll, List.forall_mem_append.mpr ⟨twX8_mixed, List.forall_mem_append.mpr ⟨twX8_digestLaws, List.forall_mem_append.mpr ⟨twX8_digestSet, tw_nil⟩⟩⟩⟩⟩⟩⟩⟩⟩
set_option maxRecDepth 20000 in
theorem uw_464 : (Cond.fieldLink RX9 147 "SoundLawsModel" "sets" "I") ∈ lw_tbl := tb_4 _ (List.mem_of_getElem? (i := 91) (by first | rfl | decide +kernel))
set_option maxRecDepth 20000 in
theorem twX9_isSet : ∀ w ∈ wsX9_isSet, w ∈ lw_tbl := List.forall_mem_cons.mpr ⟨tb_5 _ (List.mem_of_getElem? (i := 108) (by first | rfl | decide +kernel)), List.forall_mem_append.mpr ⟨List.forall_mem_cons.mpr ⟨uw_464, List.forall_mem_cons.mpr ⟨uw_143, List.forall_mem_cons.mpr ⟨uw_144, List.forall_mem_cons.mpr ⟨uw_145, tw_nil⟩⟩⟩⟩, List.forall_mem_append.mpr ⟨twX90, List.forall_mem_append.mpr ⟨twX9_in, tw_nil⟩⟩⟩⟩
set_option maxRecDepth 20000 in
theorem uw_465 : (Cond.fieldLink RX9 150 "SoundLawsModel" "tongues" "I") ∈ lw_tbl := tb_4 _ (List.mem_of_getElem? (i := 92) (by first | rfl | decide +kernel))
set_option maxRecDepth 20000 in
theorem twX9_isTongue : ∀ w ∈ wsX9_isTongue, w ∈ lw_tbl := List.forall_mem_cons.mpr ⟨tb_5 _ (List.mem_of_getElem? (i := 46) (by first | rfl | decide +kernel)), List.forall_mem_append.mpr ⟨List.forall_mem_cons.mpr ⟨uw_465, List.forall_mem_cons.mpr ⟨uw_143, List.forall_mem_cons.mpr ⟨uw_144, List.forall_mem_cons.mpr ⟨uw_145, tw_nil⟩⟩⟩⟩, List.forall_mem_append.mpr ⟨twX90, List.forall_mem_append.mpr ⟨twX9_in, tw_nil⟩⟩⟩⟩
set_option maxRecDepth 20000 in
theorem uw_466 : (Cond.methodLink RX9 163 yX9_isSet) ∈ lw_tbl := tb_5 _ (List.mem_of_getElem? (i := 105) (by first | rfl | decide +kernel))
set_option maxRecDepth 20000 in
theorem uw_467 : (Cond.instanceMethod yX9_isSet) ∈ lw_tbl := tb_5 _ (List.mem_of_getElem? (i := 107) (by first | rfl | decide +kernel))
set_option maxRecDepth 20000 in
theorem uw_468 : (Cond.selects RX9 yX9_isSet yX9_isSet) ∈ lw_tbl := List.mem_of_getElem? (i := 49) (by first | rfl | decide +kernel)
set_option maxRecDepth 20000 in
theorem twX9_isPlace : ∀ w ∈ wsX9_isPlace, w ∈ lw_tbl := List.forall_mem_cons.mpr ⟨tb_5 _ (List.mem_of_getElem? (i := 124) (by first | rfl | decide +kernel)), List.forall_mem_append.mpr ⟨List.forall_mem_cons.mpr ⟨uw_84, List.forall_mem_cons.mpr ⟨uw_466, List.forall_mem_cons.mpr ⟨uw_467, List.forall_mem_cons.mpr ⟨uw_468, List.forall_mem_cons.mpr ⟨uw_145, List.forall_mem_cons.mpr ⟨uw_143, List.forall_mem_cons.mpr ⟨uw_144, tw_nil⟩⟩⟩⟩⟩⟩⟩, List.forall_mem_append.mpr ⟨twX90, List.forall_mem_append.mpr ⟨twX9_isSet, List.forall_mem_append.mpr ⟨twX9_in, tw_nil⟩⟩⟩⟩⟩
set_option maxRecDepth 20000 in
theorem uw_469 : (Cond.constantLong RX9 86 (126)) ∈ lw_tbl := tb_4 _ (List.mem_of_getElem? (i := 209) (by first | rfl | decide +kernel))
set_option maxRecDepth 20000 in
theorem uw_470 : (Cond.fieldLink RX9 92 "SoundLawsModel" "pageMany" "I") ∈ lw_tbl := tb_4 _ (List.mem_of_getElem? (i := 82) (by first | rfl | decide +kernel))
set_option maxRecDepth 20000 in
theorem twX9_letter : ∀ w ∈ wsX9_letter, w ∈ lw_tbl := List.forall_mem_cons.mpr ⟨tb_4 _ (List.mem_of_getElem? (i := 208) (by first | rfl | decide +kernel)), List.forall_mem_append.mpr ⟨List.forall_mem_cons.mpr ⟨uw_469, List.forall_mem_cons.mpr ⟨uw_470, List.forall_mem_cons.mpr ⟨uw_79, List.forall_mem_cons.mpr ⟨uw_143, List.forall_mem_cons.mpr ⟨uw_144, List.forall_mem_cons.mpr ⟨uw_145, tw_nil⟩⟩⟩⟩⟩⟩, List.forall_mem_append.mpr ⟨twX90, List.forall_mem_append.mpr ⟨twX9_in, tw_nil⟩⟩⟩⟩
set_option maxRecDepth 20000 in
theorem twX9_blank : ∀ w ∈ wsX9_blank, w ∈ lw_tbl := List.forall_mem_cons.mpr ⟨tb_4 _ (List.mem_of_getElem? (i := 216) (by first | rfl | decide +kernel)), List.forall_mem_append.mpr ⟨List.forall_mem_cons.mpr ⟨uw_470, tw_nil⟩, List.forall_mem_append.mpr ⟨twX90, tw_nil⟩⟩⟩
set_option maxRecDepth 20000 in
theorem twX9_soundBy : ∀ w ∈ wsX9_soundBy, w ∈ lw_tbl := List.forall_mem_cons.mpr ⟨tb_5 _ (List.mem_of_getElem? (i := 18) (by first | rfl | decide +kernel)), List.forall_mem_append.mpr ⟨tw_nil, tw_nil⟩⟩
set_option maxRecDepth 20000 in
theorem uw_471 : (Cond.fieldLink RX9 95 "SoundLawsModel" "readHere" "I") ∈ lw_tbl := tb_4 _ (List.mem_of_getElem? (i := 85) (by first | rfl | decide +kernel))
set_option maxRecDepth 20000 in
theorem uw_472 : (Cond.fieldLink RX9 98 "SoundLawsModel" "readWords" "I") ∈ lw_tbl := tb_4 _ (List.mem_of_getElem? (i := 84) (by first | rfl | decide +kernel))
set_option maxRecDepth 20000 in
theorem uw_473 : (Cond.fieldLink RX9 101 "SoundLawsModel" "readLong" "I") ∈ lw_tbl := tb_4 _ (List.mem_of_getElem? (i := 86) (by first | rfl | decide +kernel))
set_option maxRecDepth 20000 in
theorem uw_474 : (Cond.fieldLink RX9 115 "SoundLawsModel" "readSets" "I") ∈ lw_tbl := tb_4 _ (List.mem_of_getElem? (i := 83) (by first | rfl | decide +kernel))
set_option maxRecDepth 20000 in
theorem uw_475 : (Cond.methodLink RX9 121 yX9_soundBy) ∈ lw_tbl := tb_5 _ (List.mem_of_getElem? (i := 16) (by first | rfl | decide +kernel))
set_option maxRecDepth 20000 in
theorem uw_476 : (Cond.static yX9_soundBy) ∈ lw_tbl := tb_5 _ (List.mem_of_getElem? (i := 17) (by first | rfl | decide +kernel))
set_option maxRecDepth 20000 in
theorem twX9_isSound : ∀ w ∈ wsX9_isSound, w ∈ lw_tbl := List.forall_mem_cons.mpr ⟨tb_5 _ (List.mem_of_getElem? (i := 15) (by first | rfl | decide +kernel)), List.forall_mem_append.mpr ⟨List.forall_mem_cons.mpr ⟨uw_471, List.forall_mem_cons.mpr ⟨uw_472, List.forall_mem_cons.mpr ⟨uw_473, List.forall_mem_cons.mpr ⟨uw_82, List.forall_mem_cons.mpr ⟨uw_474, List.forall_mem_cons.mpr ⟨uw_81, List.forall_mem_cons.mpr ⟨uw_475, List.forall_mem_cons.mpr ⟨uw_476, List.forall_mem_cons.mpr ⟨uw_145, tw_nil⟩⟩⟩⟩⟩⟩⟩⟩⟩, List.forall_mem_append.mpr ⟨twX90, List.forall_mem_append.mpr ⟨twX9_soundBy, tw_nil⟩⟩⟩⟩
set_option maxRecDepth 20000 in
theorem twX9_isWordWhole : ∀ w ∈ wsX9_isWordWhole, w ∈ lw_tbl := List.forall_mem_cons.mpr ⟨tb_5 _ (List.mem_of_getElem? (i := 3) (by first | rfl | decide +kernel)), List.forall_mem_append.mpr ⟨List.forall_mem_cons.mpr ⟨uw_471, List.forall_mem_cons.mpr ⟨uw_472, List.forall_mem_cons.mpr ⟨uw_473, tw_nil⟩⟩⟩, List.forall_mem_append.mpr ⟨twX90, tw_nil⟩⟩⟩
set_option maxRecDepth 20000 in
theorem uw_477 : (Cond.fieldLink RX9 108 "SoundLawsModel" "readTongues" "I") ∈ lw_tbl := tb_4 _ (List.mem_of_getElem? (i := 87) (by first | rfl | decide +kernel))
set_option maxRecDepth 20000 in
theorem uw_478 : (Cond.methodLink RX9 104 yX9_isWordWhole) ∈ lw_tbl := tb_5 _ (List.mem_of_getElem? (i := 0) (by first | rfl | decide +kernel))
set_option maxRecDepth 20000 in
theorem uw_479 : (Cond.instanceMethod yX9_isWordWhole) ∈ lw_tbl := tb_5 _ (List.mem_of_getElem? (i := 2) (by first | rfl | decide +kernel))
set_option maxRecDepth 20000 in
theorem uw_480 : (Cond.selects RX9 yX9_isWordWhole yX9_isWordWhole) ∈ lw_tbl := List.mem_of_getElem? (i := 32) (by first | rfl | decide +kernel)
set_option maxRecDepth 20000 in
theorem twX9_isSetWhole : ∀ w ∈ wsX9_isSetWhole, w ∈ lw_tbl := List.forall_mem_cons.mpr ⟨tb_5 _ (List.mem_of_getElem? (i := 11) (by first | rfl | decide +kernel)), List.forall_mem_append.mpr ⟨List.forall_mem_cons.mpr ⟨uw_477, List.forall_mem_cons.mpr ⟨uw_472, List.forall_mem_cons.mpr ⟨uw_478, List.forall_mem_cons.mpr ⟨uw_479, List.forall_mem_cons.mpr ⟨uw_480, List.forall_mem_cons.mpr ⟨uw_145, tw_nil⟩⟩⟩⟩⟩⟩, List.forall_mem_append.mpr ⟨twX90, List.forall_mem_append.mpr ⟨twX9_isWordWhole, tw_nil⟩⟩⟩⟩
set_option maxRecDepth 20000 in
theorem uw_481 : (Cond.methodLink RX9 118 yX9_isSetWhole) ∈ lw_tbl := tb_5 _ (List.mem_of_getElem? (i := 8) (by first | rfl | decide +kernel))
set_option maxRecDepth 20000 in
theorem uw_482 : (Cond.instanceMethod yX9_isSetWhole) ∈ lw_tbl := tb_5 _ (List.mem_of_getElem? (i := 10) (by first | rfl | decide +kernel))
set_option maxRecDepth 20000 in
theorem uw_483 : (Cond.selects RX9 yX9_isSetWhole yX9_isSetWhole) ∈ lw_tbl := List.mem_of_getElem? (i := 34) (by first | rfl | decide +kernel)
set_option maxRecDepth 20000 in
theorem twX9_isComma : ∀ w ∈ wsX9_isComma, w ∈ lw_tbl := List.forall_mem_cons.mpr ⟨tb_5 _ (List.mem_of_getElem? (i := 7) (by first | rfl | decide +kernel)), List.forall_mem_append.mpr ⟨List.forall_mem_cons.mpr ⟨uw_477, List.forall_mem_cons.mpr ⟨uw_472, List.forall_mem_cons.mpr ⟨uw_474, List.forall_mem_cons.mpr ⟨uw_481, List.forall_mem_cons.mpr ⟨uw_482, List.forall_mem_cons.mpr ⟨uw_483, List.forall_mem_cons.mpr ⟨uw_145, tw_nil⟩⟩⟩⟩⟩⟩⟩, List.forall_mem_append.mpr ⟨twX90, List.forall_mem_append.mpr ⟨twX9_isSetWhole, tw_nil⟩⟩⟩⟩
set_option maxRecDepth 20000 in
theorem twX9_isSlash : ∀ w ∈ wsX9_isSlash, w ∈ lw_tbl := List.forall_mem_cons.mpr ⟨tb_4 _ (List.mem_of_getElem? (i := 239) (by first | rfl | decide +kernel)), List.forall_mem_append.mpr ⟨List.forall_mem_cons.mpr ⟨uw_472, List.forall_mem_cons.mpr ⟨uw_473, List.forall_mem_cons.mpr ⟨uw_471, List.forall_mem_cons.mpr ⟨uw_477, List.forall_mem_cons.mpr ⟨uw_478, List.forall_mem_cons.mpr ⟨uw_479, List.forall_mem_cons.mpr ⟨uw_480, List.forall_mem_cons.mpr ⟨uw_145, tw_nil⟩⟩⟩⟩⟩⟩⟩⟩, List.forall_mem_append.mpr ⟨twX90, List.forall_mem_append.mpr ⟨twX9_isWordWhole, tw_nil⟩⟩⟩⟩
set_option maxRecDepth 20000 in
theorem twX9_kindBy : ∀ w ∈ wsX9_kindBy, w ∈ lw_tbl := List.forall_mem_cons.mpr ⟨tb_4 _ (List.mem_of_getElem? (i := 235) (by first | rfl | decide +kernel)), List.forall_mem_append.mpr ⟨tw_nil, tw_nil⟩⟩
set_option maxRecDepth 20000 in
theorem uw_484 : (Cond.methodLink RX9 111 yX9_kindBy) ∈ lw_tbl := tb_4 _ (List.mem_of_getElem? (i := 233) (by first | rfl | decide +kernel))
set_option maxRecDepth 20000 in
theorem uw_485 : (Cond.static yX9_kindBy) ∈ lw_tbl := tb_4 _ (List.mem_of_getElem? (i := 234) (by first | rfl | decide +kernel))
set_option maxRecDepth 20000 in
theorem twX9_isBegun : ∀ w ∈ wsX9_isBegun, w ∈ lw_tbl := List.forall_mem_cons.mpr ⟨tb_4 _ (List.mem_of_getElem? (i := 232) (by first | rfl | decide +kernel)), List.forall_mem_append.mpr ⟨List.forall_mem_cons.mpr ⟨uw_474, List.forall_mem_cons.mpr ⟨uw_80, List.forall_mem_cons.mpr ⟨uw_472, List.forall_mem_cons.mpr ⟨uw_471, List.forall_mem_cons.mpr ⟨uw_473, List.forall_mem_cons.mpr ⟨uw_484, List.forall_mem_cons.mpr ⟨uw_485, List.forall_mem_cons.mpr ⟨uw_145, tw_nil⟩⟩⟩⟩⟩⟩⟩⟩, List.forall_mem_append.mpr ⟨twX90, List.forall_mem_append.mpr ⟨twX9_kindBy, tw_nil⟩⟩⟩⟩
set_option maxRecDepth 20000 in
theorem uw_486 : (Cond.methodLink RX9 134 yX9_isSound) ∈ lw_tbl := tb_5 _ (List.mem_of_getElem? (i := 12) (by first | rfl | decide +kernel))
set_option maxRecDepth 20000 in
theorem uw_487 : (Cond.instanceMethod yX9_isSound) ∈ lw_tbl := tb_5 _ (List.mem_of_getElem? (i := 14) (by first | rfl | decide +kernel))
set_option maxRecDepth 20000 in
theorem uw_488 : (Cond.selects RX9 yX9_isSound yX9_isSound) ∈ lw_tbl := List.mem_of_getElem? (i := 35) (by first | rfl | decide +kernel)
set_option maxRecDepth 20000 in
theorem uw_489 : (Cond.methodLink RX9 131 yX9_isComma) ∈ lw_tbl := tb_5 _ (List.mem_of_getElem? (i := 4) (by first | rfl | decide +kernel))
set_option maxRecDepth 20000 in
theorem uw_490 : (Cond.instanceMethod yX9_isComma) ∈ lw_tbl := tb_5 _ (List.mem_of_getElem? (i := 6) (by first | rfl | decide +kernel))
set_option maxRecDepth 20000 in
theorem uw_491 : (Cond.selects RX9 yX9_isComma yX9_isComma) ∈ lw_tbl := List.mem_of_getElem? (i := 33) (by first | rfl | decide +kernel)
set_option maxRecDepth 20000 in
theorem uw_492 : (Cond.methodLink RX9 128 yX9_isSlash) ∈ lw_tbl := tb_4 _ (List.mem_of_getElem? (i := 236) (by first | rfl | decide +kernel))
set_option maxRecDepth 20000 in
theorem uw_493 : (Cond.instanceMethod yX9_isSlash) ∈ lw_tbl := tb_4 _ (List.mem_of_getElem? (i := 238) (by first | rfl | decide +kernel))
set_option maxRecDepth 20000 in
theorem uw_494 : (Cond.selects RX9 yX9_isSlash yX9_isSlash) ∈ lw_tbl := List.mem_of_getElem? (i := 31) (by first | rfl | decide +kernel)
set_option maxRecDepth 20000 in
theorem uw_495 : (Cond.methodLink RX9 124 yX9_isBegun) ∈ lw_tbl := tb_4 _ (List.mem_of_getElem? (i := 229) (by first | rfl | decide +kernel))
set_option maxRecDepth 20000 in
theorem uw_496 : (Cond.instanceMethod yX9_isBegun) ∈ lw_tbl := tb_4 _ (List.mem_of_getElem? (i := 231) (by first | rfl | decide +kernel))
set_option maxRecDepth 20000 in
theorem uw_497 : (Cond.selects RX9 yX9_isBegun yX9_isBegun) ∈ lw_tbl := List.mem_of_getElem? (i := 30) (by first | rfl | decide +kernel)
set_option maxRecDepth 20000 in
theorem twX9_isGood : ∀ w ∈ wsX9_isGood, w ∈ lw_tbl := List.forall_mem_cons.mpr ⟨tb_4 _ (List.mem_of_getElem? (i := 228) (by first | rfl | decide +kernel)), List.forall_mem_append.mpr ⟨List.forall_mem_cons.mpr ⟨uw_472, List.forall_mem_cons.mpr ⟨uw_486, List.forall_mem_cons.mpr ⟨uw_487, List.forall_mem_cons.mpr ⟨uw_488, List.forall_mem_cons.mpr ⟨uw_145, List.forall_mem_cons.mpr ⟨uw_489, List.forall_mem_cons.mpr ⟨uw_490, List.forall_mem_cons.mpr ⟨uw_491, List.forall_mem_cons.mpr ⟨uw_492, List.forall_mem_cons.mpr ⟨uw_493, List.forall_mem_cons.mpr ⟨uw_494, List.forall_mem_cons.mpr ⟨uw_495, List.forall_mem_cons.mpr ⟨uw_496, List.forall_mem_cons.mpr ⟨uw_497, tw_nil⟩⟩⟩⟩⟩⟩⟩⟩⟩⟩⟩⟩⟩⟩, List.forall_mem_append.mpr ⟨twX90, List.forall_mem_append.mpr ⟨twX9_isSound, List.forall_mem_append.mpr ⟨twX9_isComma, List.forall_mem_append.mpr ⟨twX9_isSlash, List.forall_mem_append.mpr ⟨twX9_isBegun, tw_nil⟩⟩⟩⟩⟩⟩⟩
set_option maxRecDepth 20000 in
theorem uw_498 : (Cond.methodLink RX9 137 yX9_isGood) ∈ lw_tbl := tb_4 _ (List.mem_of_getElem? (i := 225) (by first | rfl | decide +kernel))
set_option maxRecDepth 20000 in
theorem uw_499 : (Cond.instanceMethod yX9_isGood) ∈ lw_tbl := tb_4 _ (List.mem_of_getElem? (i := 227) (by first | rfl | decide +kernel))
set_option maxRecDepth 20000 in
theorem uw_500 : (Cond.selects RX9 yX9_isGood yX9_isGood) ∈ lw_tbl := List.mem_of_getElem? (i := 29) (by first | rfl | decide +kernel)
set_option maxRecDepth 20000 in
theorem twX9_faultOf : ∀ w ∈ wsX9_faultOf, w ∈ lw_tbl := List.forall_mem_cons.mpr ⟨tb_4 _ (List.mem_of_getElem? (i := 224) (by first | rfl | decide +kernel)), List.forall_mem_append.mpr ⟨List.forall_mem_cons.mpr ⟨uw_474, List.forall_mem_cons.mpr ⟨uw_472, List.forall_mem_cons.mpr ⟨uw_477, List.forall_mem_cons.mpr ⟨uw_470, List.forall_mem_cons.mpr ⟨uw_79, List.forall_mem_cons.mpr ⟨uw_498, List.forall_mem_cons.mpr ⟨uw_499, List.forall_mem_cons.mpr ⟨uw_500, List.forall_mem_cons.mpr ⟨uw_145, tw_nil⟩⟩⟩⟩⟩⟩⟩⟩⟩, List.forall_mem_append.mpr ⟨twX90, List.forall_mem_append.mpr ⟨twX9_isGood, tw_nil⟩⟩⟩⟩
set_option maxRecDepth 20000 in
theorem uw_501 : (Cond.methodLink RX9 140 yX9_faultOf) ∈ lw_tbl := tb_4 _ (List.mem_of_getElem? (i := 221) (by first | rfl | decide +kernel))
set_option maxRecDepth 20000 in
theorem uw_502 : (Cond.instanceMethod yX9_faultOf) ∈ lw_tbl := tb_4 _ (List.mem_of_getElem? (i := 223) (by first | rfl | decide +kernel))
set_option maxRecDepth 20000 in
theorem uw_503 : (Cond.selects RX9 yX9_faultOf yX9_faultOf) ∈ lw_tbl := List.mem_of_getElem? (i := 28) (by first | rfl | decide +kernel)
set_option maxRecDepth 20000 in
theorem twX9_fault : ∀ w ∈ wsX9_fault, w ∈ lw_tbl := List.forall_mem_cons.mpr ⟨tb_4 _ (List.mem_of_getElem? (i := 220) (by first | rfl | decide +kernel)), List.forall_mem_append.mpr ⟨List.forall_mem_cons.mpr ⟨uw_501, List.forall_mem_cons.mpr ⟨uw_502, List.forall_mem_cons.mpr ⟨uw_503, List.forall_mem_cons.mpr ⟨uw_145, tw_nil⟩⟩⟩⟩, List.forall_mem_append.mpr ⟨twX9_faultOf, tw_nil⟩⟩⟩
set_option maxRecDepth 20000 in
theorem twX9_isMute : ∀ w ∈ wsX9_isMute, w ∈ lw_tbl := List.forall_mem_cons.mpr ⟨tb_5 _ (List.mem_of_getElem? (i := 26) (by first | rfl | decide +kernel)), List.forall_mem_append.mpr ⟨List.forall_mem_cons.mpr ⟨uw_474, List.forall_mem_cons.mpr ⟨uw_472, List.forall_mem_cons.mpr ⟨uw_81, List.forall_mem_cons.mpr ⟨uw_82, tw_nil⟩⟩⟩⟩, List.forall_mem_append.mpr ⟨twX90, tw_nil⟩⟩⟩
set_option maxRecDepth 20000 in
theorem uw_504 : (Cond.fieldLink RX9 153 "SoundLawsModel" "old" "Z") ∈ lw_tbl := tb_4 _ (List.mem_of_getElem? (i := 97) (by first | rfl | decide +kernel))
set_option maxRecDepth 20000 in
theorem uw_505 : (Cond.fieldLink RX9 157 "SoundLawsModel" "seenMany" "I") ∈ lw_tbl := tb_4 _ (List.mem_of_getElem? (i := 110) (by first | rfl | decide +kernel))
set_option maxRecDepth 20000 in
theorem uw_506 : (Cond.fieldLink RX9 160 "SoundLawsModel" "setsRead" "I") ∈ lw_tbl := tb_4 _ (List.mem_of_getElem? (i := 93) (by first | rfl | decide +kernel))
set_option maxRecDepth 20000 in
theorem uw_507 : (Cond.methodLink RX9 144 yX9_isMute) ∈ lw_tbl := tb_5 _ (List.mem_of_getElem? (i := 23) (by first | rfl | decide +kernel))
set_option maxRecDepth 20000 in
theorem uw_508 : (Cond.instanceMethod yX9_isMute) ∈ lw_tbl := tb_5 _ (List.mem_of_getElem? (i := 25) (by first | rfl | decide +kernel))
set_option maxRecDepth 20000 in
theorem uw_509 : (Cond.selects RX9 yX9_isMute yX9_isMute) ∈ lw_tbl := List.mem_of_getElem? (i := 36) (by first | rfl | decide +kernel)
set_option maxRecDepth 20000 in
theorem twX9_sets : ∀ w ∈ wsX9_sets, w ∈ lw_tbl := List.forall_mem_cons.mpr ⟨tb_5 _ (List.mem_of_getElem? (i := 22) (by first | rfl | decide +kernel)), List.forall_mem_append.mpr ⟨List.forall_mem_cons.mpr ⟨uw_470, List.forall_mem_cons.mpr ⟨uw_472, List.forall_mem_cons.mpr ⟨uw_474, List.forall_mem_cons.mpr ⟨uw_464, List.forall_mem_cons.mpr ⟨uw_465, List.forall_mem_cons.mpr ⟨uw_504, List.forall_mem_cons.mpr ⟨uw_505, List.forall_mem_cons.mpr ⟨uw_506, List.forall_mem_cons.mpr ⟨uw_85, List.forall_mem_cons.mpr ⟨uw_82, List.forall_mem_cons.mpr ⟨uw_83, List.forall_mem_cons.mpr ⟨uw_80, List.forall_mem_cons.mpr ⟨uw_84, List.forall_mem_cons.mpr ⟨uw_81, List.forall_mem_cons.mpr ⟨uw_501, List.forall_mem_cons.mpr ⟨uw_502, List.forall_mem_cons.mpr ⟨uw_503, List.forall_mem_cons.mpr ⟨uw_145, List.forall_mem_cons.mpr ⟨uw_481, List.forall_mem_cons.mpr ⟨uw_482, List.forall_mem_cons.mpr ⟨uw_483, List.forall_mem_cons.mpr ⟨uw_507, List.forall_mem_cons.mpr ⟨uw_508, List.forall_mem_cons.mpr ⟨uw_509, tw_nil⟩⟩⟩⟩⟩⟩⟩⟩⟩⟩⟩⟩⟩⟩⟩⟩⟩⟩⟩⟩⟩⟩⟩⟩, List.forall_mem_append.mpr ⟨twX90, List.forall_mem_append.mpr ⟨twX9_faultOf, List.forall_mem_append.mpr ⟨twX9_isSetWhole, List.forall_mem_append.mpr ⟨twX9_isMute, tw_nil⟩⟩⟩⟩⟩⟩
set_option maxRecDepth 20000 in
theorem twX9_isRebuilt : ∀ w ∈ wsX9_isRebuilt, w ∈ lw_tbl := List.forall_mem_cons.mpr ⟨tb_5 _ (List.mem_of_getElem? (i := 59) (by first | rfl | decide +kernel)), List.forall_mem_append.mpr ⟨List.forall_mem_cons.mpr ⟨uw_83, tw_nil⟩, List.forall_mem_append.mpr ⟨twX90, tw_nil⟩⟩⟩
set_option maxRecDepth 20000 in
theorem uw_510 : (Cond.methodLink RX9 196 yX9_isRebuilt) ∈ lw_tbl := tb_5 _ (List.mem_of_getElem? (i := 56) (by first | rfl | decide +kernel))
set_option maxRecDepth 20000 in
theorem uw_511 : (Cond.instanceMethod yX9_isRebuilt) ∈ lw_tbl := tb_5 _ (List.mem_of_getElem? (i := 58) (by first | rfl | decide +kernel))
set_option maxRecDepth 20000 in
theorem uw_512 : (Cond.selects RX9 yX9_isRebuilt yX9_isRebuilt) ∈ lw_tbl := List.mem_of_getElem? (i := 40) (by first | rfl | decide +kernel)
set_option maxRecDepth 20000 in
theorem twX9_laySets : ∀ w ∈ wsX9_laySets, w ∈ lw_tbl := List.forall_mem_cons.mpr ⟨tb_5 _ (List.mem_of_getElem? (i := 55) (by first | rfl | decide +kernel)), List.forall_mem_append.mpr ⟨List.forall_mem_cons.mpr ⟨uw_464, List.forall_mem_cons.mpr ⟨uw_90, List.forall_mem_cons.mpr ⟨uw_84, List.forall_mem_cons.mpr ⟨uw_465, List.forall_mem_cons.mpr ⟨uw_89, List.forall_mem_cons.mpr ⟨uw_87, List.forall_mem_cons.mpr ⟨uw_88, List.forall_mem_cons.mpr ⟨uw_85, List.forall_mem_cons.mpr ⟨uw_510, List.forall_mem_cons.mpr ⟨uw_511, List.forall_mem_cons.mpr ⟨uw_512, List.forall_mem_cons.mpr ⟨uw_145, List.forall_mem_cons.mpr ⟨uw_176, List.forall_mem_cons.mpr ⟨uw_177, List.forall_mem_cons.mpr ⟨uw_178, tw_nil⟩⟩⟩⟩⟩⟩⟩⟩⟩⟩⟩⟩⟩⟩⟩, List.forall_mem_append.mpr ⟨twX90, List.forall_mem_append.mpr ⟨twX9_isRebuilt, List.forall_mem_append.mpr ⟨twX9_rebuild, tw_nil⟩⟩⟩⟩⟩
set_option maxRecDepth 20000 in
theorem twX9_weightBy : ∀ w ∈ wsX9_weightBy, w ∈ lw_tbl := List.forall_mem_cons.mpr ⟨tb_5 _ (List.mem_of_getElem? (i := 96) (by first | rfl | decide +kernel)), List.forall_mem_append.mpr ⟨tw_nil, tw_nil⟩⟩
set_option maxRecDepth 20000 in
theorem twX9_oldSound : ∀ w ∈ wsX9_oldSound, w ∈ lw_tbl := List.forall_mem_cons.mpr ⟨tb_5 _ (List.mem_of_getElem? (i := 100) (by first | rfl | decide +kernel)), List.forall_mem_append.mpr ⟨List.forall_mem_cons.mpr ⟨uw_89, List.forall_mem_cons.mpr ⟨uw_465, List.forall_mem_cons.mpr ⟨uw_150, List.forall_mem_cons.mpr ⟨uw_151, List.forall_mem_cons.mpr ⟨uw_152, List.forall_mem_cons.mpr ⟨uw_145, tw_nil⟩⟩⟩⟩⟩⟩, List.forall_mem_append.mpr ⟨twX90, List.forall_mem_append.mpr ⟨twX9_nodesBy, tw_nil⟩⟩⟩⟩
set_option maxRecDepth 20000 in
theorem uw_513 : (Cond.methodLink RX9 202 yX9_weightBy) ∈ lw_tbl := tb_5 _ (List.mem_of_getElem? (i := 94) (by first | rfl | decide +kernel))
set_option maxRecDepth 20000 in
theorem uw_514 : (Cond.static yX9_weightBy) ∈ lw_tbl := tb_5 _ (List.mem_of_getElem? (i := 95) (by first | rfl | decide +kernel))
set_option maxRecDepth 20000 in
theorem uw_515 : (Cond.methodLink RX9 205 yX9_oldSound) ∈ lw_tbl := tb_5 _ (List.mem_of_getElem? (i := 97) (by first | rfl | decide +kernel))
set_option maxRecDepth 20000 in
theorem uw_516 : (Cond.instanceMethod yX9_oldSound) ∈ lw_tbl := tb_5 _ (List.mem_of_getElem? (i := 99) (by first | rfl | decide +kernel))
set_option maxRecDepth 20000 in
theorem uw_517 : (Cond.selects RX9 yX9_oldSound yX9_oldSound) ∈ lw_tbl := List.mem_of_getElem? (i := 48) (by first | rfl | decide +kernel)
set_option maxRecDepth 20000 in
theorem twX9_layTally : ∀ w ∈ wsX9_layTally, w ∈ lw_tbl := List.forall_mem_cons.mpr ⟨tb_5 _ (List.mem_of_getElem? (i := 93) (by first | rfl | decide +kernel)), List.forall_mem_append.mpr ⟨List.forall_mem_cons.mpr ⟨uw_464, List.forall_mem_cons.mpr ⟨uw_83, List.forall_mem_cons.mpr ⟨uw_84, List.forall_mem_cons.mpr ⟨uw_94, List.forall_mem_cons.mpr ⟨uw_85, List.forall_mem_cons.mpr ⟨uw_513, List.forall_mem_cons.mpr ⟨uw_514, List.forall_mem_cons.mpr ⟨uw_145, List.forall_mem_cons.mpr ⟨uw_515, List.forall_mem_cons.mpr ⟨uw_516, List.forall_mem_cons.mpr ⟨uw_517, tw_nil⟩⟩⟩⟩⟩⟩⟩⟩⟩⟩⟩, List.forall_mem_append.mpr ⟨twX90, List.forall_mem_append.mpr ⟨twX9_weightBy, List.forall_mem_append.mpr ⟨twX9_oldSound, tw_nil⟩⟩⟩⟩⟩
set_option maxRecDepth 20000 in
theorem uw_518 : (Cond.methodLink RX9 208 yX9_layTally) ∈ lw_tbl := tb_5 _ (List.mem_of_getElem? (i := 90) (by first | rfl | decide +kernel))
set_option maxRecDepth 20000 in
theorem uw_519 : (Cond.instanceMethod yX9_layTally) ∈ lw_tbl := tb_5 _ (List.mem_of_getElem? (i := 92) (by first | rfl | decide +kernel))
set_option maxRecDepth 20000 in
theorem uw_520 : (Cond.selects RX9 yX9_layTally yX9_layTally) ∈ lw_tbl := List.mem_of_getElem? (i := 47) (by first | rfl | decide +kernel)
set_option maxRecDepth 20000 in
theorem twX9_layLaw : ∀ w ∈ wsX9_layLaw, w ∈ lw_tbl := List.forall_mem_cons.mpr ⟨tb_5 _ (List.mem_of_getElem? (i := 89) (by first | rfl | decide +kernel)), List.forall_mem_append.mpr ⟨List.forall_mem_cons.mpr ⟨uw_91, List.forall_mem_cons.mpr ⟨uw_92, List.forall_mem_cons.mpr ⟨uw_93, List.forall_mem_cons.mpr ⟨uw_94, List.forall_mem_cons.mpr ⟨uw_518, List.forall_mem_cons.mpr ⟨uw_519, List.forall_mem_cons.mpr ⟨uw_520, List.forall_mem_cons.mpr ⟨uw_145, tw_nil⟩⟩⟩⟩⟩⟩⟩⟩, List.forall_mem_append.mpr ⟨twX90, List.forall_mem_append.mpr ⟨twX9_layTally, tw_nil⟩⟩⟩⟩
set_option maxRecDepth 20000 in
theorem uw_521 : (Cond.methodLink RX9 212 yX9_laySets) ∈ lw_tbl := tb_5 _ (List.mem_of_getElem? (i := 52) (by first | rfl | decide +kernel))
set_option maxRecDepth 20000 in
theorem uw_522 : (Cond.instanceMethod yX9_laySets) ∈ lw_tbl := tb_5 _ (List.mem_of_getElem? (i := 54) (by first | rfl | decide +kernel))
set_option maxRecDepth 20000 in
theorem uw_523 : (Cond.selects RX9 yX9_laySets yX9_laySets) ∈ lw_tbl := List.mem_of_getElem? (i := 39) (by first | rfl | decide +kernel)
set_option maxRecDepth 20000 in
theorem uw_524 : (Cond.methodLink RX9 215 yX9_layLaw) ∈ lw_tbl := tb_5 _ (List.mem_of_getElem? (i := 86) (by first | rfl | decide +kernel))
set_option maxRecDepth 20000 in
theorem uw_525 : (Cond.instanceMethod yX9_layLaw) ∈ lw_tbl := tb_5 _ (List.mem_of_getElem? (i := 88) (by first | rfl | decide +kernel))
set_option maxRecDepth 20000 in
theorem uw_526 : (Cond.selects RX9 yX9_layLaw yX9_layLaw) ∈ lw_tbl := List.mem_of_getElem? (i := 46) (by first | rfl | decide +kernel)
set_option maxRecDepth 20000 in
theorem twX9_freshen : ∀ w ∈ wsX9_freshen, w ∈ lw_tbl := List.forall_mem_cons.mpr ⟨tb_5 _ (List.mem_of_getElem? (i := 51) (by first | rfl | decide +kernel)), List.forall_mem_append.mpr ⟨List.forall_mem_cons.mpr ⟨uw_504, List.forall_mem_cons.mpr ⟨uw_465, List.forall_mem_cons.mpr ⟨uw_521, List.forall_mem_cons.mpr ⟨uw_522, List.forall_mem_cons.mpr ⟨uw_523, List.forall_mem_cons.mpr ⟨uw_145, List.forall_mem_cons.mpr ⟨uw_524, List.forall_mem_cons.mpr ⟨uw_525, List.forall_mem_cons.mpr ⟨uw_526, tw_nil⟩⟩⟩⟩⟩⟩⟩⟩⟩, List.forall_mem_append.mpr ⟨twX90, List.forall_mem_append.mpr ⟨twX9_laySets, List.forall_mem_append.mpr ⟨twX9_layLaw, tw_nil⟩⟩⟩⟩⟩
set_option maxRecDepth 20000 in
theorem twX9_lawAt : ∀ w ∈ wsX9_lawAt, w ∈ lw_tbl := List.forall_mem_cons.mpr ⟨tb_5 _ (List.mem_of_getElem? (i := 116) (by first | rfl | decide +kernel)), List.forall_mem_append.mpr ⟨List.forall_mem_cons.mpr ⟨uw_91, List.forall_mem_cons.mpr ⟨uw_515, List.forall_mem_cons.mpr ⟨uw_516, List.forall_mem_cons.mpr ⟨uw_517, List.forall_mem_cons.mpr ⟨uw_145, tw_nil⟩⟩⟩⟩⟩, List.forall_mem_append.mpr ⟨twX90, List.forall_mem_append.mpr ⟨twX9_oldSound, tw_nil⟩⟩⟩⟩
set_option maxRecDepth 20000 in
theorem uw_527 : (Cond.methodLink RX9 226 yX9_lawAt) ∈ lw_tbl := tb_5 _ (List.mem_of_getElem? (i := 113) (by first | rfl | decide +kernel))
set_option maxRecDepth 20000 in
theorem uw_528 : (Cond.instanceMethod yX9_lawAt) ∈ lw_tbl := tb_5 _ (List.mem_of_getElem? (i := 115) (by first | rfl | decide +kernel))
set_option maxRecDepth 20000 in
theorem uw_529 : (Cond.selects RX9 yX9_lawAt yX9_lawAt) ∈ lw_tbl := List.mem_of_getElem? (i := 51) (by first | rfl | decide +kernel)
set_option maxRecDepth 20000 in
theorem twX9_strangeOf : ∀ w ∈ wsX9_strangeOf, w ∈ lw_tbl := List.forall_mem_cons.mpr ⟨tb_5 _ (List.mem_of_getElem? (i := 112) (by first | rfl | decide +kernel)), List.forall_mem_append.mpr ⟨List.forall_mem_cons.mpr ⟨uw_84, List.forall_mem_cons.mpr ⟨uw_85, List.forall_mem_cons.mpr ⟨uw_510, List.forall_mem_cons.mpr ⟨uw_511, List.forall_mem_cons.mpr ⟨uw_512, List.forall_mem_cons.mpr ⟨uw_145, List.forall_mem_cons.mpr ⟨uw_527, List.forall_mem_cons.mpr ⟨uw_528, List.forall_mem_cons.mpr ⟨uw_529, tw_nil⟩⟩⟩⟩⟩⟩⟩⟩⟩, List.forall_mem_append.mpr ⟨twX90, List.forall_mem_append.mpr ⟨twX9_isRebuilt, List.forall_mem_append.mpr ⟨twX9_lawAt, tw_nil⟩⟩⟩⟩⟩
set_option maxRecDepth 20000 in
theorem uw_530 : (Cond.methodLink RX9 230 yX9_strangeOf) ∈ lw_tbl := tb_5 _ (List.mem_of_getElem? (i := 109) (by first | rfl | decide +kernel))
set_option maxRecDepth 20000 in
theorem uw_531 : (Cond.instanceMethod yX9_strangeOf) ∈ lw_tbl := tb_5 _ (List.mem_of_getElem? (i := 111) (by first | rfl | decide +kernel))
set_option maxRecDepth 20000 in
theorem uw_532 : (Cond.selects RX9 yX9_strangeOf yX9_strangeOf) ∈ lw_tbl := List.mem_of_getElem? (i := 50) (by first | rfl | decide +kernel)
set_option maxRecDepth 20000 in
theorem twX9_strangeAll : ∀ w ∈ wsX9_strangeAll, w ∈ lw_tbl := List.forall_mem_cons.mpr ⟨tb_5 _ (List.mem_of_getElem? (i := 144) (by first | rfl | decide +kernel)), List.forall_mem_append.mpr ⟨List.forall_mem_cons.mpr ⟨uw_465, List.forall_mem_cons.mpr ⟨uw_530, List.forall_mem_cons.mpr ⟨uw_531, List.forall_mem_cons.mpr ⟨uw_532, List.forall_mem_cons.mpr ⟨uw_145, tw_nil⟩⟩⟩⟩⟩, List.forall_mem_append.mpr ⟨twX90, List.forall_mem_append.mpr ⟨twX9_strangeOf, tw_nil⟩⟩⟩⟩
set_option maxRecDepth 20000 in
theorem twX9_isBorrowed : ∀ w ∈ wsX9_isBorrowed, w ∈ lw_tbl := List.forall_mem_cons.mpr ⟨tb_5 _ (List.mem_of_getElem? (i := 152) (by first | rfl | decide +kernel)), List.forall_mem_append.mpr ⟨List.forall_mem_cons.mpr ⟨uw_84, List.forall_mem_cons.mpr ⟨uw_530, List.forall_mem_cons.mpr ⟨uw_531, List.forall_mem_cons.mpr ⟨uw_532, List.forall_mem_cons.mpr ⟨uw_145, tw_nil⟩⟩⟩⟩⟩, List.forall_mem_append.mpr ⟨twX90, List.forall_mem_append.mpr ⟨twX9_strangeOf, tw_nil⟩⟩⟩⟩
set_option maxRecDepth 20000 in
theorem uw_533 : (Cond.methodLink RX9 237 yX9_isBorrowed) ∈ lw_tbl := tb_5 _ (List.mem_of_getElem? (i := 149) (by first | rfl | decide +kernel))
set_option maxRecDepth 20000 in
theorem uw_534 : (Cond.instanceMethod yX9_isBorrowed) ∈ lw_tbl := tb_5 _ (List.mem_of_getElem? (i := 151) (by first | rfl | decide +kernel))
set_option maxRecDepth 20000 in
theorem uw_535 : (Cond.selects RX9 yX9_isBorrowed yX9_isBorrowed) ∈ lw_tbl := List.mem_of_getElem? (i := 57) (by first | rfl | decide +kernel)
set_option maxRecDepth 20000 in
theorem twX9_borrowed : ∀ w ∈ wsX9_borrowed, w ∈ lw_tbl := List.forall_mem_cons.mpr ⟨tb_5 _ (List.mem_of_getElem? (i := 148) (by first | rfl | decide +kernel)), List.forall_mem_append.mpr ⟨List.forall_mem_cons.mpr ⟨uw_465, List.forall_mem_cons.mpr ⟨uw_533, List.forall_mem_cons.mpr ⟨uw_534, List.forall_mem_cons.mpr ⟨uw_535, List.forall_mem_cons.mpr ⟨uw_145, tw_nil⟩⟩⟩⟩⟩, List.forall_mem_append.mpr ⟨twX90, List.forall_mem_append.mpr ⟨twX9_isBorrowed, tw_nil⟩⟩⟩⟩
set_option maxRecDepth 20000 in
theorem twX9_sortsBy : ∀ w ∈ wsX9_sortsBy, w ∈ lw_tbl := List.forall_mem_cons.mpr ⟨tb_5 _ (List.mem_of_getElem? (i := 159) (by first | rfl | decide +kernel)), List.forall_mem_append.mpr ⟨tw_nil, tw_nil⟩⟩
set_option maxRecDepth 20000 in
theorem uw_536 : (Cond.methodLink RX9 271 yX9_sortsBy) ∈ lw_tbl := tb_5 _ (List.mem_of_getElem? (i := 157) (by first | rfl | decide +kernel))
set_option maxRecDepth 20000 in
theorem uw_537 : (Cond.static yX9_sortsBy) ∈ lw_tbl := tb_5 _ (List.mem_of_getElem? (i := 158) (by first | rfl | decide +kernel))
set_option maxRecDepth 20000 in
theorem twX9_sortsOf : ∀ w ∈ wsX9_sortsOf, w ∈ lw_tbl := List.forall_mem_cons.mpr ⟨tb_5 _ (List.mem_of_getElem? (i := 156) (by first | rfl | decide +kernel)), List.forall_mem_append.mpr ⟨List.forall_mem_cons.mpr ⟨uw_505, List.forall_mem_cons.mpr ⟨uw_98, List.forall_mem_cons.mpr ⟨uw_536, List.forall_mem_cons.mpr ⟨uw_537, List.forall_mem_cons.mpr ⟨uw_145, tw_nil⟩⟩⟩⟩⟩, List.forall_mem_append.mpr ⟨twX90, List.forall_mem_append.mpr ⟨twX9_sortsBy, tw_nil⟩⟩⟩⟩
set_option maxRecDepth 20000 in
theorem twX9_ones : ∀ w ∈ wsX9_ones, w ∈ lw_tbl := List.forall_mem_cons.mpr ⟨tb_5 _ (List.mem_of_getElem? (i := 166) (by first | rfl | decide +kernel)), List.forall_mem_append.mpr ⟨tw_nil, tw_nil⟩⟩
set_option maxRecDepth 20000 in
theorem uw_538 : (Cond.methodLink RX9 250 yX9_sortsOf) ∈ lw_tbl := tb_5 _ (List.mem_of_getElem? (i := 153) (by first | rfl | decide +kernel))
set_option maxRecDepth 20000 in
theorem uw_539 : (Cond.instanceMethod yX9_sortsOf) ∈ lw_tbl := tb_5 _ (List.mem_of_getElem? (i := 155) (by first | rfl | decide +kernel))
set_option maxRecDepth 20000 in
theorem uw_540 : (Cond.selects RX9 yX9_sortsOf yX9_sortsOf) ∈ lw_tbl := List.mem_of_getElem? (i := 58) (by first | rfl | decide +kernel)
set_option maxRecDepth 20000 in
theorem uw_541 : (Cond.methodLink RX9 274 yX9_ones) ∈ lw_tbl := tb_5 _ (List.mem_of_getElem? (i := 164) (by first | rfl | decide +kernel))
set_option maxRecDepth 20000 in
theorem uw_542 : (Cond.static yX9_ones) ∈ lw_tbl := tb_5 _ (List.mem_of_getElem? (i := 165) (by first | rfl | decide +kernel))
set_option maxRecDepth 20000 in
theorem twX9_askOf : ∀ w ∈ wsX9_askOf, w ∈ lw_tbl := List.forall_mem_cons.mpr ⟨tb_5 _ (List.mem_of_getElem? (i := 163) (by first | rfl | decide +kernel)), List.forall_mem_append.mpr ⟨List.forall_mem_cons.mpr ⟨uw_538, List.forall_mem_cons.mpr ⟨uw_539, List.forall_mem_cons.mpr ⟨uw_540, List.forall_mem_cons.mpr ⟨uw_145, List.forall_mem_cons.mpr ⟨uw_536, List.forall_mem_cons.mpr ⟨uw_537, List.forall_mem_cons.mpr ⟨uw_541, List.forall_mem_cons.mpr ⟨uw_542, tw_nil⟩⟩⟩⟩⟩⟩⟩⟩, List.forall_mem_append.mpr ⟨twX9_sortsOf, List.forall_mem_append.mpr ⟨twX9_sortsBy, List.forall_mem_append.mpr ⟨twX9_ones, tw_nil⟩⟩⟩⟩⟩
set_option maxRecDepth 20000 in
theorem uw_543 : (Cond.methodLink RX9 223 yX9_freshen) ∈ lw_tbl := tb_5 _ (List.mem_of_getElem? (i := 48) (by first | rfl | decide +kernel))
set_option maxRecDepth 20000 in
theorem uw_544 : (Cond.instanceMethod yX9_freshen) ∈ lw_tbl := tb_5 _ (List.mem_of_getElem? (i := 50) (by first | rfl | decide +kernel))
set_option maxRecDepth 20000 in
theorem uw_545 : (Cond.selects RX9 yX9_freshen yX9_freshen) ∈ lw_tbl := List.mem_of_getElem? (i := 38) (by first | rfl | decide +kernel)
set_option maxRecDepth 20000 in
theorem uw_546 : (Cond.methodLink RX9 244 yX9_strangeAll) ∈ lw_tbl := tb_5 _ (List.mem_of_getElem? (i := 141) (by first | rfl | decide +kernel))
set_option maxRecDepth 20000 in
theorem uw_547 : (Cond.instanceMethod yX9_strangeAll) ∈ lw_tbl := tb_5 _ (List.mem_of_getElem? (i := 143) (by first | rfl | decide +kernel))
set_option maxRecDepth 20000 in
theorem uw_548 : (Cond.selects RX9 yX9_strangeAll yX9_strangeAll) ∈ lw_tbl := List.mem_of_getElem? (i := 55) (by first | rfl | decide +kernel)
set_option maxRecDepth 20000 in
theorem uw_549 : (Cond.methodLink RX9 247 yX9_borrowed) ∈ lw_tbl := tb_5 _ (List.mem_of_getElem? (i := 145) (by first | rfl | decide +kernel))
set_option maxRecDepth 20000 in
theorem uw_550 : (Cond.instanceMethod yX9_borrowed) ∈ lw_tbl := tb_5 _ (List.mem_of_getElem? (i := 147) (by first | rfl | decide +kernel))
set_option maxRecDepth 20000 in
theorem uw_551 : (Cond.selects RX9 yX9_borrowed yX9_borrowed) ∈ lw_tbl := List.mem_of_getElem? (i := 56) (by first | rfl | decide +kernel)
set_option maxRecDepth 20000 in
theorem uw_552 : (Cond.methodLink RX9 253 yX9_askOf) ∈ lw_tbl := tb_5 _ (List.mem_of_getElem? (i := 160) (by first | rfl | decide +kernel))
set_option maxRecDepth 20000 in
theorem uw_553 : (Cond.instanceMethod yX9_askOf) ∈ lw_tbl := tb_5 _ (List.mem_of_getElem? (i := 162) (by first | rfl | decide +kernel))
set_option maxRecDepth 20000 in
theorem uw_554 : (Cond.selects RX9 yX9_askOf yX9_askOf) ∈ lw_tbl := List.mem_of_getElem? (i := 59) (by first | rfl | decide +kernel)
set_option maxRecDepth 20000 in
theorem twX9_tellSet : ∀ w ∈ wsX9_tellSet, w ∈ lw_tbl := List.forall_mem_cons.mpr ⟨tb_5 _ (List.mem_of_getElem? (i := 140) (by first | rfl | decide +kernel)), List.forall_mem_append.mpr ⟨List.forall_mem_cons.mpr ⟨uw_83, List.forall_mem_cons.mpr ⟨uw_84, List.forall_mem_cons.mpr ⟨uw_90, List.forall_mem_cons.mpr ⟨uw_543, List.forall_mem_cons.mpr ⟨uw_544, List.forall_mem_cons.mpr ⟨uw_545, List.forall_mem_cons.mpr ⟨uw_145, List.forall_mem_cons.mpr ⟨uw_546, List.forall_mem_cons.mpr ⟨uw_547, List.forall_mem_cons.mpr ⟨uw_548, List.forall_mem_cons.mpr ⟨uw_549, List.forall_mem_cons.mpr ⟨uw_550, List.forall_mem_cons.mpr ⟨uw_551, List.forall_mem_cons.mpr ⟨uw_538, List.forall_mem_cons.mpr ⟨uw_539, List.forall_mem_cons.mpr ⟨uw_540, List.forall_mem_cons.mpr ⟨uw_552, List.forall_mem_cons.mpr ⟨uw_553, List.forall_mem_cons.mpr ⟨uw_554, tw_nil⟩⟩⟩⟩⟩⟩⟩⟩⟩⟩⟩⟩⟩⟩⟩⟩⟩⟩⟩, List.forall_mem_append.mpr ⟨twX90, List.forall_mem_append.mpr ⟨twX9_freshen, List.forall_mem_append.mpr ⟨twX9_strangeAll, List.forall_mem_append.mpr ⟨twX9_borrowed, List.forall_mem_append.mpr ⟨twX9_sortsOf, List.forall_mem_append.mpr ⟨twX9_askOf, tw_nil⟩⟩⟩⟩⟩⟩⟩⟩
set_option maxRecDepth 20000 in
theorem uw_555 : (Cond.methodLink RX9 256 yX9_tellSet) ∈ lw_tbl := tb_5 _ (List.mem_of_getElem? (i := 137) (by first | rfl | decide +kernel))
set_option maxRecDepth 20000 in
theorem uw_556 : (Cond.instanceMethod yX9_tellSet) ∈ lw_tbl := tb_5 _ (List.mem_of_getElem? (i := 139) (by first | rfl | decide +kernel))
set_option maxRecDepth 20000 in
theorem uw_557 : (Cond.selects RX9 yX9_tellSet yX9_tellSet) ∈ lw_tbl := List.mem_of_getElem? (i := 54) (by first | rfl | decide +kernel)
set_option maxRecDepth 20000 in
theorem twX9_set : ∀ w ∈ wsX9_set, w ∈ lw_tbl := List.forall_mem_cons.mpr ⟨tb_5 _ (List.mem_of_getElem? (i := 136) (by first | rfl | decide +kernel)), List.forall_mem_append.mpr ⟨List.forall_mem_cons.mpr ⟨uw_466, List.forall_mem_cons.mpr ⟨uw_467, List.forall_mem_cons.mpr ⟨uw_468, List.forall_mem_cons.mpr ⟨uw_145, List.forall_mem_cons.mpr ⟨uw_555, List.forall_mem_cons.mpr ⟨uw_556, List.forall_mem_cons.mpr ⟨uw_557, tw_nil⟩⟩⟩⟩⟩⟩⟩, List.forall_mem_append.mpr ⟨twX9_isSet, List.forall_mem_append.mpr ⟨twX9_tellSet, tw_nil⟩⟩⟩⟩
set_option maxRecDepth 20000 in
theorem uw_558 : (Cond.constantLong RX9 259 (4)) ∈ lw_tbl := tb_5 _ (List.mem_of_getElem? (i := 171) (by first | rfl | decide +kernel))
set_option maxRecDepth 20000 in
theorem twX9_as : ∀ w ∈ wsX9_as, w ∈ lw_tbl := List.forall_mem_cons.mpr ⟨tb_5 _ (List.mem_of_getElem? (i := 170) (by first | rfl | decide +kernel)), List.forall_mem_append.mpr ⟨List.forall_mem_cons.mpr ⟨uw_558, List.forall_mem_cons.mpr ⟨uw_83, List.forall_mem_cons.mpr ⟨uw_466, List.forall_mem_cons.mpr ⟨uw_467, List.forall_mem_cons.mpr ⟨uw_468, List.forall_mem_cons.mpr ⟨uw_145, List.forall_mem_cons.mpr ⟨uw_143, List.forall_mem_cons.mpr ⟨uw_144, tw_nil⟩⟩⟩⟩⟩⟩⟩⟩, List.forall_mem_append.mpr ⟨twX90, List.forall_mem_append.mpr ⟨twX9_isSet, List.forall_mem_append.mpr ⟨twX9_in, tw_nil⟩⟩⟩⟩⟩
set_option maxRecDepth 20000 in
theorem uw_559 : (Cond.methodLink RX9 233 yX9_isPlace) ∈ lw_tbl := tb_5 _ (List.mem_of_getElem? (i := 121) (by first | rfl | decide +kernel))
set_option maxRecDepth 20000 in
theorem uw_560 : (Cond.instanceMethod yX9_isPlace) ∈ lw_tbl := tb_5 _ (List.mem_of_getElem? (i := 123) (by first | rfl | decide +kernel))
set_option maxRecDepth 20000 in
theorem uw_561 : (Cond.selects RX9 yX9_isPlace yX9_isPlace) ∈ lw_tbl := List.mem_of_getElem? (i := 52) (by first | rfl | decide +kernel)
set_option maxRecDepth 20000 in
theorem twX9_sound : ∀ w ∈ wsX9_sound, w ∈ lw_tbl := List.forall_mem_cons.mpr ⟨tb_5 _ (List.mem_of_getElem? (i := 175) (by first | rfl | decide +kernel)), List.forall_mem_append.mpr ⟨List.forall_mem_cons.mpr ⟨uw_465, List.forall_mem_cons.mpr ⟨uw_89, List.forall_mem_cons.mpr ⟨uw_559, List.forall_mem_cons.mpr ⟨uw_560, List.forall_mem_cons.mpr ⟨uw_561, List.forall_mem_cons.mpr ⟨uw_145, List.forall_mem_cons.mpr ⟨uw_150, List.forall_mem_cons.mpr ⟨uw_151, List.forall_mem_cons.mpr ⟨uw_152, List.forall_mem_cons.mpr ⟨uw_143, List.forall_mem_cons.mpr ⟨uw_144, List.forall_mem_cons.mpr ⟨uw_543, List.forall_mem_cons.mpr ⟨uw_544, List.forall_mem_cons.mpr ⟨uw_545, tw_nil⟩⟩⟩⟩⟩⟩⟩⟩⟩⟩⟩⟩⟩⟩, List.forall_mem_append.mpr ⟨twX90, List.forall_mem_append.mpr ⟨twX9_isPlace, List.forall_mem_append.mpr ⟨twX9_nodesBy, List.forall_mem_append.mpr ⟨twX9_in, List.forall_mem_append.mpr ⟨twX9_freshen, tw_nil⟩⟩⟩⟩⟩⟩⟩
set_option maxRecDepth 20000 in
theorem uw_562 : (Cond.methodLink RX9 218 yX9_isTongue) ∈ lw_tbl := tb_5 _ (List.mem_of_getElem? (i := 43) (by first | rfl | decide +kernel))
set_option maxRecDepth 20000 in
theorem uw_563 : (Cond.instanceMethod yX9_isTongue) ∈ lw_tbl := tb_5 _ (List.mem_of_getElem? (i := 45) (by first | rfl | decide +kernel))
set_option maxRecDepth 20000 in
theorem uw_564 : (Cond.selects RX9 yX9_isTongue yX9_isTongue) ∈ lw_tbl := List.mem_of_getElem? (i := 37) (by first | rfl | decide +kernel)
set_option maxRecDepth 20000 in
theorem twX9_strange : ∀ w ∈ wsX9_strange, w ∈ lw_tbl := List.forall_mem_cons.mpr ⟨tb_5 _ (List.mem_of_getElem? (i := 104) (by first | rfl | decide +kernel)), List.forall_mem_append.mpr ⟨List.forall_mem_cons.mpr ⟨uw_466, List.forall_mem_cons.mpr ⟨uw_467, List.forall_mem_cons.mpr ⟨uw_468, List.forall_mem_cons.mpr ⟨uw_145, List.forall_mem_cons.mpr ⟨uw_562, List.forall_mem_cons.mpr ⟨uw_563, List.forall_mem_cons.mpr ⟨uw_564, List.forall_mem_cons.mpr ⟨uw_510, List.forall_mem_cons.mpr ⟨uw_511, List.forall_mem_cons.mpr ⟨uw_512, List.forall_mem_cons.mpr ⟨uw_543, List.forall_mem_cons.mpr ⟨uw_544, List.forall_mem_cons.mpr ⟨uw_545, List.forall_mem_cons.mpr ⟨uw_530, List.forall_mem_cons.mpr ⟨uw_531, List.forall_mem_cons.mpr ⟨uw_532, tw_nil⟩⟩⟩⟩⟩⟩⟩⟩⟩⟩⟩⟩⟩⟩⟩⟩, List.forall_mem_append.mpr ⟨twX9_isSet, List.forall_mem_append.mpr ⟨twX9_isTongue, List.forall_mem_append.mpr ⟨twX9_isRebuilt, List.forall_mem_append.mpr ⟨twX9_freshen, List.forall_mem_append.mpr ⟨twX9_strangeOf, tw_nil⟩⟩⟩⟩⟩⟩⟩
set_option maxRecDepth 20000 in
theorem twX9_say : ∀ w ∈ wsX9_say, w ∈ lw_tbl := List.forall_mem_cons.mpr ⟨tb_5 _ (List.mem_of_getElem? (i := 120) (by first | rfl | decide +kernel)), List.forall_mem_append.mpr ⟨List.forall_mem_cons.mpr ⟨uw_559, List.forall_mem_cons.mpr ⟨uw_560, List.forall_mem_cons.mpr ⟨uw_561, List.forall_mem_cons.mpr ⟨uw_145, List.forall_mem_cons.mpr ⟨uw_562, List.forall_mem_cons.mpr ⟨uw_563, List.forall_mem_cons.mpr ⟨uw_564, List.forall_mem_cons.mpr ⟨uw_510, List.forall_mem_cons.mpr ⟨uw_511, List.forall_mem_cons.mpr ⟨uw_512, List.forall_mem_cons.mpr ⟨uw_543, List.forall_mem_cons.mpr ⟨uw_544, List.forall_mem_cons.mpr ⟨uw_545, List.forall_mem_cons.mpr ⟨uw_527, List.forall_mem_cons.mpr ⟨uw_528, List.forall_mem_cons.mpr ⟨uw_529, List.forall_mem_cons.mpr ⟨uw_515, List.forall_mem_cons.mpr ⟨uw_516, List.forall_mem_cons.mpr ⟨uw_517, tw_nil⟩⟩⟩⟩⟩⟩⟩⟩⟩⟩⟩⟩⟩⟩⟩⟩⟩⟩⟩, List.forall_mem_append.mpr ⟨twX9_isPlace, List.forall_mem_append.mpr ⟨twX9_isTongue, List.forall_mem_append.mpr ⟨twX9_isRebuilt, List.forall_mem_append.mpr ⟨twX9_freshen, List.forall_mem_append.mpr ⟨twX9_lawAt, List.forall_mem_append.mpr ⟨twX9_oldSound, tw_nil⟩⟩⟩⟩⟩⟩⟩⟩
set_option maxRecDepth 20000 in
theorem twX9_strip : ∀ w ∈ wsX9_strip, w ∈ lw_tbl := List.forall_mem_cons.mpr ⟨tb_5 _ (List.mem_of_getElem? (i := 132) (by first | rfl | decide +kernel)), List.forall_mem_append.mpr ⟨List.forall_mem_cons.mpr ⟨uw_84, List.forall_mem_cons.mpr ⟨uw_85, tw_nil⟩⟩, List.forall_mem_append.mpr ⟨twX90, tw_nil⟩⟩⟩
set_option maxRecDepth 20000 in
theorem uw_565 : (Cond.methodLink RX9 240 yX9_strip) ∈ lw_tbl := tb_5 _ (List.mem_of_getElem? (i := 129) (by first | rfl | decide +kernel))
set_option maxRecDepth 20000 in
theorem uw_566 : (Cond.instanceMethod yX9_strip) ∈ lw_tbl := tb_5 _ (List.mem_of_getElem? (i := 131) (by first | rfl | decide +kernel))
set_option maxRecDepth 20000 in
theorem uw_567 : (Cond.selects RX9 yX9_strip yX9_strip) ∈ lw_tbl := List.mem_of_getElem? (i := 53) (by first | rfl | decide +kernel)
set_option maxRecDepth 20000 in
theorem twX9_line : ∀ w ∈ wsX9_line, w ∈ lw_tbl := List.forall_mem_cons.mpr ⟨tb_5 _ (List.mem_of_getElem? (i := 128) (by first | rfl | decide +kernel)), List.forall_mem_append.mpr ⟨List.forall_mem_cons.mpr ⟨uw_95, List.forall_mem_cons.mpr ⟨uw_96, List.forall_mem_cons.mpr ⟨uw_97, List.forall_mem_cons.mpr ⟨uw_466, List.forall_mem_cons.mpr ⟨uw_467, List.forall_mem_cons.mpr ⟨uw_468, List.forall_mem_cons.mpr ⟨uw_145, List.forall_mem_cons.mpr ⟨uw_562, List.forall_mem_cons.mpr ⟨uw_563, List.forall_mem_cons.mpr ⟨uw_564, List.forall_mem_cons.mpr ⟨uw_565, List.forall_mem_cons.mpr ⟨uw_566, List.forall_mem_cons.mpr ⟨uw_567, List.forall_mem_cons.mpr ⟨uw_148, List.forall_mem_cons.mpr ⟨uw_149, tw_nil⟩⟩⟩⟩⟩⟩⟩⟩⟩⟩⟩⟩⟩⟩⟩, List.forall_mem_append.mpr ⟨twX90, List.forall_mem_append.mpr ⟨twX9_isSet, List.forall_mem_append.mpr ⟨twX9_isTongue, List.forall_mem_append.mpr ⟨twX9_strip, List.forall_mem_append.mpr ⟨twX9_costOf, tw_nil⟩⟩⟩⟩⟩⟩⟩
set_option maxRecDepth 20000 in
theorem twX9_isOnlyNone : ∀ w ∈ wsX9_isOnlyNone, w ∈ lw_tbl := List.forall_mem_cons.mpr ⟨tb_5 _ (List.mem_of_getElem? (i := 183) (by first | rfl | decide +kernel)), List.forall_mem_append.mpr ⟨List.forall_mem_cons.mpr ⟨uw_84, List.forall_mem_cons.mpr ⟨uw_85, tw_nil⟩⟩, List.forall_mem_append.mpr ⟨twX90, tw_nil⟩⟩⟩
set_option maxRecDepth 20000 in
theorem uw_568 : (Cond.constantLong RX9 171 (8)) ∈ lw_tbl := tb_5 _ (List.mem_of_getElem? (i := 31) (by first | rfl | decide +kernel))
set_option maxRecDepth 20000 in
theorem uw_569 : (Cond.methodLink RX9 261 yX9_isOnlyNone) ∈ lw_tbl := tb_5 _ (List.mem_of_getElem? (i := 180) (by first | rfl | decide +kernel))
set_option maxRecDepth 20000 in
theorem uw_570 : (Cond.instanceMethod yX9_isOnlyNone) ∈ lw_tbl := tb_5 _ (List.mem_of_getElem? (i := 182) (by first | rfl | decide +kernel))
set_option maxRecDepth 20000 in
theorem uw_571 : (Cond.selects RX9 yX9_isOnlyNone yX9_isOnlyNone) ∈ lw_tbl := List.mem_of_getElem? (i := 60) (by first | rfl | decide +kernel)
set_option maxRecDepth 20000 in
theorem twX9_put : ∀ w ∈ wsX9_put, w ∈ lw_tbl := List.forall_mem_cons.mpr ⟨tb_5 _ (List.mem_of_getElem? (i := 179) (by first | rfl | decide +kernel)), List.forall_mem_append.mpr ⟨List.forall_mem_cons.mpr ⟨uw_568, List.forall_mem_cons.mpr ⟨uw_85, List.forall_mem_cons.mpr ⟨uw_504, List.forall_mem_cons.mpr ⟨uw_559, List.forall_mem_cons.mpr ⟨uw_560, List.forall_mem_cons.mpr ⟨uw_561, List.forall_mem_cons.mpr ⟨uw_145, List.forall_mem_cons.mpr ⟨uw_562, List.forall_mem_cons.mpr ⟨uw_563, List.forall_mem_cons.mpr ⟨uw_564, List.forall_mem_cons.mpr ⟨uw_143, List.forall_mem_cons.mpr ⟨uw_144, List.forall_mem_cons.mpr ⟨uw_569, List.forall_mem_cons.mpr ⟨uw_570, List.forall_mem_cons.mpr ⟨uw_571, tw_nil⟩⟩⟩⟩⟩⟩⟩⟩⟩⟩⟩⟩⟩⟩⟩, List.forall_mem_append.mpr ⟨twX90, List.forall_mem_append.mpr ⟨twX9_isPlace, List.forall_mem_append.mpr ⟨twX9_isTongue, List.forall_mem_append.mpr ⟨twX9_in, List.forall_mem_append.mpr ⟨twX9_isOnlyNone, tw_nil⟩⟩⟩⟩⟩⟩⟩
set_option maxRecDepth 20000 in
theorem twX9_layLike : ∀ w ∈ wsX9_layLike, w ∈ lw_tbl := List.forall_mem_cons.mpr ⟨tb_5 _ (List.mem_of_getElem? (i := 191) (by first | rfl | decide +kernel)), List.forall_mem_append.mpr ⟨List.forall_mem_cons.mpr ⟨uw_83, List.forall_mem_cons.mpr ⟨uw_84, List.forall_mem_cons.mpr ⟨uw_85, tw_nil⟩⟩⟩, List.forall_mem_append.mpr ⟨twX90, tw_nil⟩⟩⟩
set_option maxRecDepth 20000 in
theorem uw_572 : (Cond.methodLink RX9 264 yX9_layLike) ∈ lw_tbl := tb_5 _ (List.mem_of_getElem? (i := 188) (by first | rfl | decide +kernel))
set_option maxRecDepth 20000 in
theorem uw_573 : (Cond.instanceMethod yX9_layLike) ∈ lw_tbl := tb_5 _ (List.mem_of_getElem? (i := 190) (by first | rfl | decide +kernel))
set_option maxRecDepth 20000 in
theorem uw_574 : (Cond.selects RX9 yX9_layLike yX9_layLike) ∈ lw_tbl := List.mem_of_getElem? (i := 61) (by first | rfl | decide +kernel)
set_option maxRecDepth 20000 in
theorem twX9_copy : ∀ w ∈ wsX9_copy, w ∈ lw_tbl := List.forall_mem_cons.mpr ⟨tb_5 _ (List.mem_of_getElem? (i := 187) (by first | rfl | decide +kernel)), List.forall_mem_append.mpr ⟨List.forall_mem_cons.mpr ⟨uw_464, List.forall_mem_cons.mpr ⟨uw_504, List.forall_mem_cons.mpr ⟨uw_466, List.forall_mem_cons.mpr ⟨uw_467, List.forall_mem_cons.mpr ⟨uw_468, List.forall_mem_cons.mpr ⟨uw_145, List.forall_mem_cons.mpr ⟨uw_572, List.forall_mem_cons.mpr ⟨uw_573, List.forall_mem_cons.mpr ⟨uw_574, tw_nil⟩⟩⟩⟩⟩⟩⟩⟩⟩, List.forall_mem_append.mpr ⟨twX90, List.forall_mem_append.mpr ⟨twX9_isSet, List.forall_mem_append.mpr ⟨twX9_layLike, tw_nil⟩⟩⟩⟩⟩
set_option maxRecDepth 20000 in
theorem twX9_take : ∀ w ∈ wsX9_take, w ∈ lw_tbl := List.forall_mem_cons.mpr ⟨tb_5 _ (List.mem_of_getElem? (i := 195) (by first | rfl | decide +kernel)), List.forall_mem_append.mpr ⟨List.forall_mem_cons.mpr ⟨uw_464, List.forall_mem_cons.mpr ⟨uw_504, List.forall_mem_cons.mpr ⟨uw_466, List.forall_mem_cons.mpr ⟨uw_467, List.forall_mem_cons.mpr ⟨uw_468, List.forall_mem_cons.mpr ⟨uw_145, List.forall_mem_cons.mpr ⟨uw_572, List.forall_mem_cons.mpr ⟨uw_573, List.forall_mem_cons.mpr ⟨uw_574, tw_nil⟩⟩⟩⟩⟩⟩⟩⟩⟩, List.forall_mem_append.mpr ⟨twX90, List.forall_mem_append.mpr ⟨twX9_isSet, List.forall_mem_append.mpr ⟨twX9_layLike, tw_nil⟩⟩⟩⟩⟩
set_option maxRecDepth 20000 in
theorem twX9_change : ∀ w ∈ wsX9_change, w ∈ lw_tbl := List.forall_mem_cons.mpr ⟨tb_5 _ (List.mem_of_getElem? (i := 199) (by first | rfl | decide +kernel)), List.forall_mem_append.mpr ⟨List.forall_mem_cons.mpr ⟨uw_558, List.forall_mem_cons.mpr ⟨uw_83, List.forall_mem_cons.mpr ⟨uw_504, List.forall_mem_cons.mpr ⟨uw_466, List.forall_mem_cons.mpr ⟨uw_467, List.forall_mem_cons.mpr ⟨uw_468, List.forall_mem_cons.mpr ⟨uw_145, List.forall_mem_cons.mpr ⟨uw_143, List.forall_mem_cons.mpr ⟨uw_144, tw_nil⟩⟩⟩⟩⟩⟩⟩⟩⟩, List.forall_mem_append.mpr ⟨twX90, List.forall_mem_append.mpr ⟨twX9_isSet, List.forall_mem_append.mpr ⟨twX9_in, tw_nil⟩⟩⟩⟩⟩
set_option maxRecDepth 20000 in
theorem twX9_law : ∀ w ∈ wsX9_law, w ∈ lw_tbl := List.forall_mem_cons.mpr ⟨tb_5 _ (List.mem_of_getElem? (i := 42) (by first | rfl | decide +kernel)), List.forall_mem_append.mpr ⟨List.forall_mem_cons.mpr ⟨uw_568, List.forall_mem_cons.mpr ⟨uw_172, List.forall_mem_cons.mpr ⟨uw_93, List.forall_mem_cons.mpr ⟨uw_92, List.forall_mem_cons.mpr ⟨uw_91, List.forall_mem_cons.mpr ⟨uw_562, List.forall_mem_cons.mpr ⟨uw_563, List.forall_mem_cons.mpr ⟨uw_564, List.forall_mem_cons.mpr ⟨uw_145, List.forall_mem_cons.mpr ⟨uw_143, List.forall_mem_cons.mpr ⟨uw_144, List.forall_mem_cons.mpr ⟨uw_543, List.forall_mem_cons.mpr ⟨uw_544, List.forall_mem_cons.mpr ⟨uw_545, tw_nil⟩⟩⟩⟩⟩⟩⟩⟩⟩⟩⟩⟩⟩⟩, List.forall_mem_append.mpr ⟨twX90, List.forall_mem_append.mpr ⟨twX9_isTongue, List.forall_mem_append.mpr ⟨twX9_in, List.forall_mem_append.mpr ⟨twX9_freshen, tw_nil⟩⟩⟩⟩⟩⟩
set_option maxRecDepth 20000 in
theorem twX9_changesAll : ∀ w ∈ wsX9_changesAll, w ∈ lw_tbl := List.forall_mem_cons.mpr ⟨tb_5 _ (List.mem_of_getElem? (i := 207) (by first | rfl | decide +kernel)), List.forall_mem_append.mpr ⟨List.forall_mem_cons.mpr ⟨uw_464, List.forall_mem_cons.mpr ⟨uw_90, tw_nil⟩⟩, List.forall_mem_append.mpr ⟨twX90, tw_nil⟩⟩⟩
set_option maxRecDepth 20000 in
theorem uw_575 : (Cond.methodLink RX9 268 yX9_changesAll) ∈ lw_tbl := tb_5 _ (List.mem_of_getElem? (i := 204) (by first | rfl | decide +kernel))
set_option maxRecDepth 20000 in
theorem uw_576 : (Cond.instanceMethod yX9_changesAll) ∈ lw_tbl := tb_5 _ (List.mem_of_getElem? (i := 206) (by first | rfl | decide +kernel))
set_option maxRecDepth 20000 in
theorem uw_577 : (Cond.selects RX9 yX9_changesAll yX9_changesAll) ∈ lw_tbl := List.mem_of_getElem? (i := 62) (by first | rfl | decide +kernel)
set_option maxRecDepth 20000 in
theorem twX9_swap : ∀ w ∈ wsX9_swap, w ∈ lw_tbl := List.forall_mem_cons.mpr ⟨tb_5 _ (List.mem_of_getElem? (i := 203) (by first | rfl | decide +kernel)), List.forall_mem_append.mpr ⟨List.forall_mem_cons.mpr ⟨uw_464, List.forall_mem_cons.mpr ⟨uw_504, List.forall_mem_cons.mpr ⟨uw_85, List.forall_mem_cons.mpr ⟨uw_562, List.forall_mem_cons.mpr ⟨uw_563, List.forall_mem_cons.mpr ⟨uw_564, List.forall_mem_cons.mpr ⟨uw_145, List.forall_mem_cons.mpr ⟨uw_543, List.forall_mem_cons.mpr ⟨uw_544, List.forall_mem_cons.mpr ⟨uw_545, List.forall_mem_cons.mpr ⟨uw_575, List.forall_mem_cons.mpr ⟨uw_576, List.forall_mem_cons.mpr ⟨uw_577, tw_nil⟩⟩⟩⟩⟩⟩⟩⟩⟩⟩⟩⟩⟩, List.forall_mem_append.mpr ⟨twX90, List.forall_mem_append.mpr ⟨twX9_isTongue, List.forall_mem_append.mpr ⟨twX9_freshen, List.forall_mem_append.mpr ⟨twX9_changesAll, tw_nil⟩⟩⟩⟩⟩⟩
set_option maxRecDepth 20000 in
theorem twX9_see : ∀ w ∈ wsX9_see, w ∈ lw_tbl := List.forall_mem_cons.mpr ⟨tb_5 _ (List.mem_of_getElem? (i := 211) (by first | rfl | decide +kernel)), List.forall_mem_append.mpr ⟨List.forall_mem_cons.mpr ⟨uw_142, List.forall_mem_cons.mpr ⟨uw_505, List.forall_mem_cons.mpr ⟨uw_98, List.forall_mem_cons.mpr ⟨uw_466, List.forall_mem_cons.mpr ⟨uw_467, List.forall_mem_cons.mpr ⟨uw_468, List.forall_mem_cons.mpr ⟨uw_145, List.forall_mem_cons.mpr ⟨uw_143, List.forall_mem_cons.mpr ⟨uw_144, tw_nil⟩⟩⟩⟩⟩⟩⟩⟩⟩, List.forall_mem_append.mpr ⟨twX90, List.forall_mem_append.mpr ⟨twX9_isSet, List.forall_mem_append.mpr ⟨twX9_in, tw_nil⟩⟩⟩⟩⟩
set_option maxRecDepth 20000 in
theorem twX9_forget : ∀ w ∈ wsX9_forget, w ∈ lw_tbl := List.forall_mem_cons.mpr ⟨tb_5 _ (List.mem_of_getElem? (i := 215) (by first | rfl | decide +kernel)), List.forall_mem_append.mpr ⟨List.forall_mem_cons.mpr ⟨uw_505, tw_nil⟩, List.forall_mem_append.mpr ⟨twX90, tw_nil⟩⟩⟩
set_option maxRecDepth 20000 in
theorem twX9_lacks : ∀ w ∈ wsX9_lacks, w ∈ lw_tbl := List.forall_mem_cons.mpr ⟨tb_5 _ (List.mem_of_getElem? (i := 236) (by first | rfl | decide +kernel)), List.forall_mem_append.mpr ⟨List.forall_mem_cons.mpr ⟨uw_464, tw_nil⟩, List.forall_mem_append.mpr ⟨twX90, tw_nil⟩⟩⟩
set_option maxRecDepth 20000 in
theorem twX9_copyRow : ∀ w ∈ wsX9_copyRow, w ∈ lw_tbl := List.forall_mem_cons.mpr ⟨tb_5 _ (List.mem_of_getElem? (i := 239) (by first | rfl | decide +kernel)), List.forall_mem_append.mpr ⟨tw_nil, tw_nil⟩⟩
set_option maxRecDepth 20000 in
theorem uw_578 : (Cond.fieldLink RX9 299 "SoundLawsModel" "keptMany" "I") ∈ lw_tbl := tb_4 _ (List.mem_of_getElem? (i := 114) (by first | rfl | decide +kernel))
set_option maxRecDepth 20000 in
theorem uw_579 : (Cond.fieldLink RX9 302 "SoundLawsModel" "keptTongues" "I") ∈ lw_tbl := tb_4 _ (List.mem_of_getElem? (i := 115) (by first | rfl | decide +kernel))
set_option maxRecDepth 20000 in
theorem uw_580 : (Cond.fieldLink RX9 305 "SoundLawsModel" "keptSeen" "I") ∈ lw_tbl := tb_4 _ (List.mem_of_getElem? (i := 116) (by first | rfl | decide +kernel))
set_option maxRecDepth 20000 in
theorem uw_581 : (Cond.methodLink RX9 292 yX9_lacks) ∈ lw_tbl := tb_5 _ (List.mem_of_getElem? (i := 233) (by first | rfl | decide +kernel))
set_option maxRecDepth 20000 in
theorem uw_582 : (Cond.instanceMethod yX9_lacks) ∈ lw_tbl := tb_5 _ (List.mem_of_getElem? (i := 235) (by first | rfl | decide +kernel))
set_option maxRecDepth 20000 in
theorem uw_583 : (Cond.selects RX9 yX9_lacks yX9_lacks) ∈ lw_tbl := List.mem_of_getElem? (i := 64) (by first | rfl | decide +kernel)
set_option maxRecDepth 20000 in
theorem uw_584 : (Cond.methodLink RX9 295 yX9_copyRow) ∈ lw_tbl := tb_5 _ (List.mem_of_getElem? (i := 237) (by first | rfl | decide +kernel))
set_option maxRecDepth 20000 in
theorem uw_585 : (Cond.static yX9_copyRow) ∈ lw_tbl := tb_5 _ (List.mem_of_getElem? (i := 238) (by first | rfl | decide +kernel))
set_option maxRecDepth 20000 in
theorem twX9_image : ∀ w ∈ wsX9_image, w ∈ lw_tbl := List.forall_mem_cons.mpr ⟨tb_5 _ (List.mem_of_getElem? (i := 232) (by first | rfl | decide +kernel)), List.forall_mem_append.mpr ⟨List.forall_mem_cons.mpr ⟨uw_83, List.forall_mem_cons.mpr ⟨uw_99, List.forall_mem_cons.mpr ⟨uw_84, List.forall_mem_cons.mpr ⟨uw_100, List.forall_mem_cons.mpr ⟨uw_85, List.forall_mem_cons.mpr ⟨uw_101, List.forall_mem_cons.mpr ⟨uw_98, List.forall_mem_cons.mpr ⟨uw_102, List.forall_mem_cons.mpr ⟨uw_464, List.forall_mem_cons.mpr ⟨uw_578, List.forall_mem_cons.mpr ⟨uw_465, List.forall_mem_cons.mpr ⟨uw_579, List.forall_mem_cons.mpr ⟨uw_505, List.forall_mem_cons.mpr ⟨uw_580, List.forall_mem_cons.mpr ⟨uw_506, List.forall_mem_cons.mpr ⟨uw_103, List.forall_mem_cons.mpr ⟨uw_581, List.forall_mem_cons.mpr ⟨uw_582, List.forall_mem_cons.mpr ⟨uw_583, List.forall_mem_cons.mpr ⟨uw_145, List.forall_mem_cons.mpr ⟨uw_584, List.forall_mem_cons.mpr ⟨uw_585, tw_nil⟩⟩⟩⟩⟩⟩⟩⟩⟩⟩⟩⟩⟩⟩⟩⟩⟩⟩⟩⟩⟩⟩, List.forall_mem_append.mpr ⟨twX90, List.forall_mem_append.mpr ⟨twX9_lacks, List.forall_mem_append.mpr ⟨twX9_copyRow, tw_nil⟩⟩⟩⟩⟩
set_option maxRecDepth 20000 in
theorem twX9_restore : ∀ w ∈ wsX9_restore, w ∈ lw_tbl := List.forall_mem_cons.mpr ⟨tb_6 _ (List.mem_of_getElem? (i := 3) (by first | rfl | decide +kernel)), List.forall_mem_append.mpr ⟨List.forall_mem_cons.mpr ⟨uw_103, List.forall_mem_cons.mpr ⟨uw_506, List.forall_mem_cons.mpr ⟨uw_99, List.forall_mem_cons.mpr ⟨uw_83, List.forall_mem_cons.mpr ⟨uw_100, List.forall_mem_cons.mpr ⟨uw_84, List.forall_mem_cons.mpr ⟨uw_101, List.forall_mem_cons.mpr ⟨uw_85, List.forall_mem_cons.mpr ⟨uw_102, List.forall_mem_cons.mpr ⟨uw_98, List.forall_mem_cons.mpr ⟨uw_578, List.forall_mem_cons.mpr ⟨uw_464, List.forall_mem_cons.mpr ⟨uw_579, List.forall_mem_cons.mpr ⟨uw_465, List.forall_mem_cons.mpr ⟨uw_580, List.forall_mem_cons.mpr ⟨uw_505, List.forall_mem_cons.mpr ⟨uw_504, List.forall_mem_cons.mpr ⟨uw_584, List.forall_mem_cons.mpr ⟨uw_585, List.forall_mem_cons.mpr ⟨uw_145, tw_nil⟩⟩⟩⟩⟩⟩⟩⟩⟩⟩⟩⟩⟩⟩⟩⟩⟩⟩⟩⟩, List.forall_mem_append.mpr ⟨twX90, List.forall_mem_append.mpr ⟨twX9_copyRow, tw_nil⟩⟩⟩⟩
set_option maxRecDepth 20000 in
theorem twX9_cost : ∀ w ∈ wsX9_cost, w ∈ lw_tbl := List.forall_mem_cons.mpr ⟨tb_5 _ (List.mem_of_getElem? (i := 30) (by first | rfl | decide +kernel)), List.forall_mem_append.mpr ⟨List.forall_mem_cons.mpr ⟨uw_568, List.forall_mem_cons.mpr ⟨uw_143, List.forall_mem_cons.mpr ⟨uw_144, List.forall_mem_cons.mpr ⟨uw_145, List.forall_mem_cons.mpr ⟨uw_148, List.forall_mem_cons.mpr ⟨uw_149, tw_nil⟩⟩⟩⟩⟩⟩, List.forall_mem_append.mpr ⟨twX9_in, List.forall_mem_append.mpr ⟨twX9_costOf, tw_nil⟩⟩⟩⟩
set_option maxRecDepth 20000 in
theorem twX9_sumLaws : ∀ w ∈ wsX9_sumLaws, w ∈ lw_tbl := List.forall_mem_cons.mpr ⟨tb_6 _ (List.mem_of_getElem? (i := 19) (by first | rfl | decide +kernel)), List.forall_mem_append.mpr ⟨List.forall_mem_cons.mpr ⟨uw_465, List.forall_mem_cons.mpr ⟨uw_93, List.forall_mem_cons.mpr ⟨uw_91, tw_nil⟩⟩⟩, List.forall_mem_append.mpr ⟨twX90, tw_nil⟩⟩⟩
set_option maxRecDepth 20000 in
theorem twX9_borrowedAll : ∀ w ∈ wsX9_borrowedAll, w ∈ lw_tbl := List.forall_mem_cons.mpr ⟨tb_6 _ (List.mem_of_getElem? (i := 23) (by first | rfl | decide +kernel)), List.forall_mem_append.mpr ⟨List.forall_mem_cons.mpr ⟨uw_464, List.forall_mem_cons.mpr ⟨uw_549, List.forall_mem_cons.mpr ⟨uw_550, List.forall_mem_cons.mpr ⟨uw_551, List.forall_mem_cons.mpr ⟨uw_145, List.forall_mem_cons.mpr ⟨uw_541, List.forall_mem_cons.mpr ⟨uw_542, tw_nil⟩⟩⟩⟩⟩⟩⟩, List.forall_mem_append.mpr ⟨twX90, List.forall_mem_append.mpr ⟨twX9_borrowed, List.forall_mem_append.mpr ⟨twX9_ones, tw_nil⟩⟩⟩⟩⟩
set_option maxRecDepth 20000 in
theorem uw_586 : (Cond.methodLink RX9 308 yX9_sumLaws) ∈ lw_tbl := tb_6 _ (List.mem_of_getElem? (i := 16) (by first | rfl | decide +kernel))
set_option maxRecDepth 20000 in
theorem uw_587 : (Cond.instanceMethod yX9_sumLaws) ∈ lw_tbl := tb_6 _ (List.mem_of_getElem? (i := 18) (by first | rfl | decide +kernel))
set_option maxRecDepth 20000 in
theorem uw_588 : (Cond.selects RX9 yX9_sumLaws yX9_sumLaws) ∈ lw_tbl := List.mem_of_getElem? (i := 67) (by first | rfl | decide +kernel)
set_option maxRecDepth 20000 in
theorem uw_589 : (Cond.methodLink RX9 312 yX9_borrowedAll) ∈ lw_tbl := tb_6 _ (List.mem_of_getElem? (i := 20) (by first | rfl | decide +kernel))
set_option maxRecDepth 20000 in
theorem uw_590 : (Cond.instanceMethod yX9_borrowedAll) ∈ lw_tbl := tb_6 _ (List.mem_of_getElem? (i := 22) (by first | rfl | decide +kernel))
set_option maxRecDepth 20000 in
theorem uw_591 : (Cond.selects RX9 yX9_borrowedAll yX9_borrowedAll) ∈ lw_tbl := List.mem_of_getElem? (i := 68) (by first | rfl | decide +kernel)
set_option maxRecDepth 20000 in
theorem twX9_countSets : ∀ w ∈ wsX9_countSets, w ∈ lw_tbl := List.forall_mem_cons.mpr ⟨tb_6 _ (List.mem_of_getElem? (i := 15) (by first | rfl | decide +kernel)), List.forall_mem_append.mpr ⟨List.forall_mem_cons.mpr ⟨uw_465, List.forall_mem_cons.mpr ⟨uw_581, List.forall_mem_cons.mpr ⟨uw_582, List.forall_mem_cons.mpr ⟨uw_583, List.forall_mem_cons.mpr ⟨uw_145, List.forall_mem_cons.mpr ⟨uw_543, List.forall_mem_cons.mpr ⟨uw_544, List.forall_mem_cons.mpr ⟨uw_545, List.forall_mem_cons.mpr ⟨uw_150, List.forall_mem_cons.mpr ⟨uw_151, List.forall_mem_cons.mpr ⟨uw_152, List.forall_mem_cons.mpr ⟨uw_575, List.forall_mem_cons.mpr ⟨uw_576, List.forall_mem_cons.mpr ⟨uw_577, List.forall_mem_cons.mpr ⟨uw_586, List.forall_mem_cons.mpr ⟨uw_587, List.forall_mem_cons.mpr ⟨uw_588, List.forall_mem_cons.mpr ⟨uw_589, List.forall_mem_cons.mpr ⟨uw_590, List.forall_mem_cons.mpr ⟨uw_591, tw_nil⟩⟩⟩⟩⟩⟩⟩⟩⟩⟩⟩⟩⟩⟩⟩⟩⟩⟩⟩⟩, List.forall_mem_append.mpr ⟨twX90, List.forall_mem_append.mpr ⟨twX9_lacks, List.forall_mem_append.mpr ⟨twX9_freshen, List.forall_mem_append.mpr ⟨twX9_nodesBy, List.forall_mem_append.mpr ⟨twX9_changesAll, List.forall_mem_append.mpr ⟨twX9_sumLaws, List.forall_mem_append.mpr ⟨twX9_borrowedAll, tw_nil⟩⟩⟩⟩⟩⟩⟩⟩⟩
set_option maxRecDepth 20000 in
theorem uw_592 : (Cond.methodLink RX9 315 yX9_countSets) ∈ lw_tbl := tb_6 _ (List.mem_of_getElem? (i := 12) (by first | rfl | decide +kernel))
set_option maxRecDepth 20000 in
theorem uw_593 : (Cond.instanceMethod yX9_countSets) ∈ lw_tbl := tb_6 _ (List.mem_of_getElem? (i := 14) (by first | rfl | decide +kernel))
set_option maxRecDepth 20000 in
theorem uw_594 : (Cond.selects RX9 yX9_countSets yX9_countSets) ∈ lw_tbl := List.mem_of_getElem? (i := 66) (by first | rfl | decide +kernel)
set_option maxRecDepth 20000 in
theorem twX9_countOf : ∀ w ∈ wsX9_countOf, w ∈ lw_tbl := List.forall_mem_cons.mpr ⟨tb_6 _ (List.mem_of_getElem? (i := 11) (by first | rfl | decide +kernel)), List.forall_mem_append.mpr ⟨List.forall_mem_cons.mpr ⟨uw_464, List.forall_mem_cons.mpr ⟨uw_505, List.forall_mem_cons.mpr ⟨uw_470, List.forall_mem_cons.mpr ⟨uw_506, List.forall_mem_cons.mpr ⟨uw_592, List.forall_mem_cons.mpr ⟨uw_593, List.forall_mem_cons.mpr ⟨uw_594, List.forall_mem_cons.mpr ⟨uw_145, tw_nil⟩⟩⟩⟩⟩⟩⟩⟩, List.forall_mem_append.mpr ⟨twX90, List.forall_mem_append.mpr ⟨twX9_countSets, tw_nil⟩⟩⟩⟩
set_option maxRecDepth 20000 in
theorem uw_595 : (Cond.methodLink RX9 318 yX9_countOf) ∈ lw_tbl := tb_6 _ (List.mem_of_getElem? (i := 8) (by first | rfl | decide +kernel))
set_option maxRecDepth 20000 in
theorem uw_596 : (Cond.instanceMethod yX9_countOf) ∈ lw_tbl := tb_6 _ (List.mem_of_getElem? (i := 10) (by first | rfl | decide +kernel))
set_option maxRecDepth 20000 in
theorem uw_597 : (Cond.selects RX9 yX9_countOf yX9_countOf) ∈ lw_tbl := List.mem_of_getElem? (i := 65) (by first | rfl | decide +kernel)
set_option maxRecDepth 20000 in
theorem twX9_count : ∀ w ∈ wsX9_count, w ∈ lw_tbl := List.forall_mem_cons.mpr ⟨tb_6 _ (List.mem_of_getElem? (i := 7) (by first | rfl | decide +kernel)), List.forall_mem_append.mpr ⟨List.forall_mem_cons.mpr ⟨uw_595, List.forall_mem_cons.mpr ⟨uw_596, List.forall_mem_cons.mpr ⟨uw_597, List.forall_mem_cons.mpr ⟨uw_145, tw_nil⟩⟩⟩⟩, List.forall_mem_append.mpr ⟨twX9_countOf, tw_nil⟩⟩⟩
set_option maxRecDepth 20000 in
theorem uw_598 : (Cond.constantLong RX9 321 (31)) ∈ lw_tbl := tb_6 _ (List.mem_of_getElem? (i := 37) (by first | rfl | decide +kernel))
set_option maxRecDepth 20000 in
theorem uw_599 : (Cond.fieldLink RX9 323 "SoundLawsModel" "hash" "J") ∈ lw_tbl := tb_4 _ (List.mem_of_getElem? (i := 121) (by first | rfl | decide +kernel))
set_option maxRecDepth 20000 in
theorem twX9_note : ∀ w ∈ wsX9_note, w ∈ lw_tbl := List.forall_mem_cons.mpr ⟨tb_6 _ (List.mem_of_getElem? (i := 36) (by first | rfl | decide +kernel)), List.forall_mem_append.mpr ⟨List.forall_mem_cons.mpr ⟨uw_598, List.forall_mem_cons.mpr ⟨uw_599, tw_nil⟩⟩, List.forall_mem_append.mpr ⟨twX90, tw_nil⟩⟩⟩
set_option maxRecDepth 20000 in
theorem uw_600 : (Cond.methodLink RX9 327 yX9_note) ∈ lw_tbl := tb_6 _ (List.mem_of_getElem? (i := 33) (by first | rfl | decide +kernel))
set_option maxRecDepth 20000 in
theorem uw_601 : (Cond.instanceMethod yX9_note) ∈ lw_tbl := tb_6 _ (List.mem_of_getElem? (i := 35) (by first | rfl | decide +kernel))
set_option maxRecDepth 20000 in
theorem uw_602 : (Cond.selects RX9 yX9_note yX9_note) ∈ lw_tbl := List.mem_of_getElem? (i := 70) (by first | rfl | decide +kernel)
set_option maxRecDepth 20000 in
theorem twX9_saySet : ∀ w ∈ wsX9_saySet, w ∈ lw_tbl := List.forall_mem_cons.mpr ⟨tb_6 _ (List.mem_of_getElem? (i := 32) (by first | rfl | decide +kernel)), List.forall_mem_append.mpr ⟨List.forall_mem_cons.mpr ⟨uw_84, List.forall_mem_cons.mpr ⟨uw_465, List.forall_mem_cons.mpr ⟨uw_89, List.forall_mem_cons.mpr ⟨uw_150, List.forall_mem_cons.mpr ⟨uw_151, List.forall_mem_cons.mpr ⟨uw_152, List.forall_mem_cons.mpr ⟨uw_145, List.forall_mem_cons.mpr ⟨uw_600, List.forall_mem_cons.mpr ⟨uw_601, List.forall_mem_cons.mpr ⟨uw_602, List.forall_mem_cons.mpr ⟨uw_555, List.forall_mem_cons.mpr ⟨uw_556, List.forall_mem_cons.mpr ⟨uw_557, tw_nil⟩⟩⟩⟩⟩⟩⟩⟩⟩⟩⟩⟩⟩, List.forall_mem_append.mpr ⟨twX90, List.forall_mem_append.mpr ⟨twX9_nodesBy, List.forall_mem_append.mpr ⟨twX9_note, List.forall_mem_append.mpr ⟨twX9_tellSet, tw_nil⟩⟩⟩⟩⟩⟩
set_option maxRecDepth 20000 in
theorem uw_603 : (Cond.constantLong RX9 331 (1459)) ∈ lw_tbl := tb_6 _ (List.mem_of_getElem? (i := 28) (by first | rfl | decide +kernel))
set_option maxRecDepth 20000 in
theorem uw_604 : (Cond.methodLink RX9 333 yX9_saySet) ∈ lw_tbl := tb_6 _ (List.mem_of_getElem? (i := 29) (by first | rfl | decide +kernel))
set_option maxRecDepth 20000 in
theorem uw_605 : (Cond.instanceMethod yX9_saySet) ∈ lw_tbl := tb_6 _ (List.mem_of_getElem? (i := 31) (by first | rfl | decide +kernel))
set_option maxRecDepth 20000 in
theorem uw_606 : (Cond.selects RX9 yX9_saySet yX9_saySet) ∈ lw_tbl := List.mem_of_getElem? (i := 69) (by first | rfl | decide +kernel)
set_option maxRecDepth 20000 in
theorem twX9_digest : ∀ w ∈ wsX9_digest, w ∈ lw_tbl := List.forall_mem_cons.mpr ⟨tb_6 _ (List.mem_of_getElem? (i := 27) (by first | rfl | decide +kernel)), List.forall_mem_append.mpr ⟨List.forall_mem_cons.mpr ⟨uw_603, List.forall_mem_cons.mpr ⟨uw_599, List.forall_mem_cons.mpr ⟨uw_464, List.forall_mem_cons.mpr ⟨uw_465, List.forall_mem_cons.mpr ⟨uw_470, List.forall_mem_cons.mpr ⟨uw_79, List.forall_mem_cons.mpr ⟨uw_91, List.forall_mem_cons.mpr ⟨uw_92, List.forall_mem_cons.mpr ⟨uw_93, List.forall_mem_cons.mpr ⟨uw_595, List.forall_mem_cons.mpr ⟨uw_596, List.forall_mem_cons.mpr ⟨uw_597, List.forall_mem_cons.mpr ⟨uw_145, List.forall_mem_cons.mpr ⟨uw_600, List.forall_mem_cons.mpr ⟨uw_601, List.forall_mem_cons.mpr ⟨uw_602, List.forall_mem_cons.mpr ⟨uw_604, List.forall_mem_cons.mpr ⟨uw_605, List.forall_mem_cons.mpr ⟨uw_606, tw_nil⟩⟩⟩⟩⟩⟩⟩⟩⟩⟩⟩⟩⟩⟩⟩⟩⟩⟩⟩, List.forall_mem_append.mpr ⟨twX90, List.forall_mem_append.mpr ⟨twX9_countOf, List.forall_mem_append.mpr ⟨twX9_note, List.forall_mem_append.mpr ⟨twX9_saySet, tw_nil⟩⟩⟩⟩⟩⟩
set_option maxRecDepth 20000 in
theorem uw_607 : (Cond.classLink RL 7 RX8) ∈ lw_tbl := tb_1 _ (List.mem_of_getElem? (i := 20) (by first | rfl | decide +kernel))
set_option maxRecDepth 20000 in
theorem uw_608 : (Cond.instantiable RX8 13) ∈ lw_tbl := tb_1 _ (List.mem_of_getElem? (i := 21) (by first | rfl | decide +kernel))
set_option maxRecDepth 20000 in
theorem uw_609 : (Cond.methodLink RL 9 yX8_init) ∈ lw_tbl := tb_1 _ (List.mem_of_getElem? (i := 22) (by first | rfl | decide +kernel))
set_option maxRecDepth 20000 in
theorem uw_610 : (Cond.instanceMethod yX8_init) ∈ lw_tbl := tb_1 _ (List.mem_of_getElem? (i := 23) (by first | rfl | decide +kernel))
set_option maxRecDepth 20000 in
theorem uw_611 : (Cond.classLink RL 10 RX9) ∈ lw_tbl := tb_4 _ (List.mem_of_getElem? (i := 75) (by first | rfl | decide +kernel))
set_option maxRecDepth 20000 in
theorem uw_612 : (Cond.instantiable RX9 41) ∈ lw_tbl := tb_4 _ (List.mem_of_getElem? (i := 76) (by first | rfl | decide +kernel))
set_option maxRecDepth 20000 in
theorem uw_613 : (Cond.methodLink RL 12 yX9_init) ∈ lw_tbl := tb_4 _ (List.mem_of_getElem? (i := 77) (by first | rfl | decide +kernel))
set_option maxRecDepth 20000 in
theorem uw_614 : (Cond.instanceMethod yX9_init) ∈ lw_tbl := tb_4 _ (List.mem_of_getElem? (i := 78) (by first | rfl | decide +kernel))
set_option maxRecDepth 20000 in
theorem uw_615 : (Cond.methodLink RL 13 yX8_letter) ∈ lw_tbl := tb_2 _ (List.mem_of_getElem? (i := 41) (by first | rfl | decide +kernel))
set_option maxRecDepth 20000 in
theorem uw_616 : (Cond.instanceMethod yX8_letter) ∈ lw_tbl := tb_2 _ (List.mem_of_getElem? (i := 42) (by first | rfl | decide +kernel))
set_option maxRecDepth 20000 in
theorem uw_617 : (Cond.selects RX8 yX8_letter yX8_letter) ∈ lw_tbl := tb_2 _ (List.mem_of_getElem? (i := 43) (by first | rfl | decide +kernel))
set_option maxRecDepth 20000 in
theorem uw_618 : (Cond.methodLink RL 17 yX9_letter) ∈ lw_tbl := tb_4 _ (List.mem_of_getElem? (i := 205) (by first | rfl | decide +kernel))
set_option maxRecDepth 20000 in
theorem uw_619 : (Cond.instanceMethod yX9_letter) ∈ lw_tbl := tb_4 _ (List.mem_of_getElem? (i := 206) (by first | rfl | decide +kernel))
set_option maxRecDepth 20000 in
theorem uw_620 : (Cond.selects RX9 yX9_letter yX9_letter) ∈ lw_tbl := tb_4 _ (List.mem_of_getElem? (i := 207) (by first | rfl | decide +kernel))
set_option maxRecDepth 20000 in
theorem uw_621 : (Cond.methodLink RL 18 yX8_blank) ∈ lw_tbl := tb_2 _ (List.mem_of_getElem? (i := 45) (by first | rfl | decide +kernel))
set_option maxRecDepth 20000 in
theorem uw_622 : (Cond.instanceMethod yX8_blank) ∈ lw_tbl := tb_2 _ (List.mem_of_getElem? (i := 46) (by first | rfl | decide +kernel))
set_option maxRecDepth 20000 in
theorem uw_623 : (Cond.selects RX8 yX8_blank yX8_blank) ∈ lw_tbl := tb_2 _ (List.mem_of_getElem? (i := 47) (by first | rfl | decide +kernel))
set_option maxRecDepth 20000 in
theorem uw_624 : (Cond.methodLink RL 22 yX9_blank) ∈ lw_tbl := tb_4 _ (List.mem_of_getElem? (i := 213) (by first | rfl | decide +kernel))
set_option maxRecDepth 20000 in
theorem uw_625 : (Cond.instanceMethod yX9_blank) ∈ lw_tbl := tb_4 _ (List.mem_of_getElem? (i := 214) (by first | rfl | decide +kernel))
set_option maxRecDepth 20000 in
theorem uw_626 : (Cond.selects RX9 yX9_blank yX9_blank) ∈ lw_tbl := tb_4 _ (List.mem_of_getElem? (i := 215) (by first | rfl | decide +kernel))
set_option maxRecDepth 20000 in
theorem uw_627 : (Cond.methodLink RL 23 yX8_fault) ∈ lw_tbl := tb_2 _ (List.mem_of_getElem? (i := 49) (by first | rfl | decide +kernel))
set_option maxRecDepth 20000 in
theorem uw_628 : (Cond.instanceMethod yX8_fault) ∈ lw_tbl := tb_2 _ (List.mem_of_getElem? (i := 50) (by first | rfl | decide +kernel))
set_option maxRecDepth 20000 in
theorem uw_629 : (Cond.selects RX8 yX8_fault yX8_fault) ∈ lw_tbl := tb_2 _ (List.mem_of_getElem? (i := 51) (by first | rfl | decide +kernel))
set_option maxRecDepth 20000 in
theorem uw_630 : (Cond.methodLink RL 26 yX9_fault) ∈ lw_tbl := tb_4 _ (List.mem_of_getElem? (i := 217) (by first | rfl | decide +kernel))
set_option maxRecDepth 20000 in
theorem uw_631 : (Cond.instanceMethod yX9_fault) ∈ lw_tbl := tb_4 _ (List.mem_of_getElem? (i := 218) (by first | rfl | decide +kernel))
set_option maxRecDepth 20000 in
theorem uw_632 : (Cond.selects RX9 yX9_fault yX9_fault) ∈ lw_tbl := tb_4 _ (List.mem_of_getElem? (i := 219) (by first | rfl | decide +kernel))
set_option maxRecDepth 20000 in
theorem uw_633 : (Cond.methodLink RL 27 yX8_sets) ∈ lw_tbl := tb_2 _ (List.mem_of_getElem? (i := 189) (by first | rfl | decide +kernel))
set_option maxRecDepth 20000 in
theorem uw_634 : (Cond.instanceMethod yX8_sets) ∈ lw_tbl := tb_2 _ (List.mem_of_getElem? (i := 190) (by first | rfl | decide +kernel))
set_option maxRecDepth 20000 in
theorem uw_635 : (Cond.selects RX8 yX8_sets yX8_sets) ∈ lw_tbl := tb_2 _ (List.mem_of_getElem? (i := 191) (by first | rfl | decide +kernel))
set_option maxRecDepth 20000 in
theorem uw_636 : (Cond.methodLink RL 30 yX9_sets) ∈ lw_tbl := tb_5 _ (List.mem_of_getElem? (i := 19) (by first | rfl | decide +kernel))
set_option maxRecDepth 20000 in
theorem uw_637 : (Cond.instanceMethod yX9_sets) ∈ lw_tbl := tb_5 _ (List.mem_of_getElem? (i := 20) (by first | rfl | decide +kernel))
set_option maxRecDepth 20000 in
theorem uw_638 : (Cond.selects RX9 yX9_sets yX9_sets) ∈ lw_tbl := tb_5 _ (List.mem_of_getElem? (i := 21) (by first | rfl | decide +kernel))
set_option maxRecDepth 20000 in
theorem uw_639 : (Cond.methodLink RL 31 yX8_set) ∈ lw_tbl := tb_2 _ (List.mem_of_getElem? (i := 208) (by first | rfl | decide +kernel))
set_option maxRecDepth 20000 in
theorem uw_640 : (Cond.instanceMethod yX8_set) ∈ lw_tbl := tb_2 _ (List.mem_of_getElem? (i := 209) (by first | rfl | decide +kernel))
set_option maxRecDepth 20000 in
theorem uw_641 : (Cond.selects RX8 yX8_set yX8_set) ∈ lw_tbl := tb_2 _ (List.mem_of_getElem? (i := 210) (by first | rfl | decide +kernel))
set_option maxRecDepth 20000 in
theorem uw_642 : (Cond.methodLink RL 35 yX9_set) ∈ lw_tbl := tb_5 _ (List.mem_of_getElem? (i := 133) (by first | rfl | decide +kernel))
set_option maxRecDepth 20000 in
theorem uw_643 : (Cond.instanceMethod yX9_set) ∈ lw_tbl := tb_5 _ (List.mem_of_getElem? (i := 134) (by first | rfl | decide +kernel))
set_option maxRecDepth 20000 in
theorem uw_644 : (Cond.selects RX9 yX9_set yX9_set) ∈ lw_tbl := tb_5 _ (List.mem_of_getElem? (i := 135) (by first | rfl | decide +kernel))
set_option maxRecDepth 20000 in
theorem uw_645 : (Cond.methodLink RL 36 yX8_as) ∈ lw_tbl := tb_3 _ (List.mem_of_getElem? (i := 112) (by first | rfl | decide +kernel))
set_option maxRecDepth 20000 in
theorem uw_646 : (Cond.instanceMethod yX8_as) ∈ lw_tbl := tb_3 _ (List.mem_of_getElem? (i := 113) (by first | rfl | decide +kernel))
set_option maxRecDepth 20000 in
theorem uw_647 : (Cond.selects RX8 yX8_as yX8_as) ∈ lw_tbl := tb_3 _ (List.mem_of_getElem? (i := 114) (by first | rfl | decide +kernel))
set_option maxRecDepth 20000 in
theorem uw_648 : (Cond.methodLink RL 39 yX9_as) ∈ lw_tbl := tb_5 _ (List.mem_of_getElem? (i := 167) (by first | rfl | decide +kernel))
set_option maxRecDepth 20000 in
theorem uw_649 : (Cond.instanceMethod yX9_as) ∈ lw_tbl := tb_5 _ (List.mem_of_getElem? (i := 168) (by first | rfl | decide +kernel))
set_option maxRecDepth 20000 in
theorem uw_650 : (Cond.selects RX9 yX9_as yX9_as) ∈ lw_tbl := tb_5 _ (List.mem_of_getElem? (i := 169) (by first | rfl | decide +kernel))
set_option maxRecDepth 20000 in
theorem uw_651 : (Cond.methodLink RL 40 yX8_sound) ∈ lw_tbl := tb_3 _ (List.mem_of_getElem? (i := 122) (by first | rfl | decide +kernel))
set_option maxRecDepth 20000 in
theorem uw_652 : (Cond.instanceMethod yX8_sound) ∈ lw_tbl := tb_3 _ (List.mem_of_getElem? (i := 123) (by first | rfl | decide +kernel))
set_option maxRecDepth 20000 in
theorem uw_653 : (Cond.selects RX8 yX8_sound yX8_sound) ∈ lw_tbl := tb_3 _ (List.mem_of_getElem? (i := 124) (by first | rfl | decide +kernel))
set_option maxRecDepth 20000 in
theorem uw_654 : (Cond.methodLink RL 44 yX9_sound) ∈ lw_tbl := tb_5 _ (List.mem_of_getElem? (i := 172) (by first | rfl | decide +kernel))
set_option maxRecDepth 20000 in
theorem uw_655 : (Cond.instanceMethod yX9_sound) ∈ lw_tbl := tb_5 _ (List.mem_of_getElem? (i := 173) (by first | rfl | decide +kernel))
set_option maxRecDepth 20000 in
theorem uw_656 : (Cond.selects RX9 yX9_sound yX9_sound) ∈ lw_tbl := tb_5 _ (List.mem_of_getElem? (i := 174) (by first | rfl | decide +kernel))
set_option maxRecDepth 20000 in
theorem uw_657 : (Cond.methodLink RL 45 yX8_law) ∈ lw_tbl := tb_3 _ (List.mem_of_getElem? (i := 142) (by first | rfl | decide +kernel))
set_option maxRecDepth 20000 in
theorem uw_658 : (Cond.instanceMethod yX8_law) ∈ lw_tbl := tb_3 _ (List.mem_of_getElem? (i := 143) (by first | rfl | decide +kernel))
set_option maxRecDepth 20000 in
theorem uw_659 : (Cond.selects RX8 yX8_law yX8_law) ∈ lw_tbl := tb_3 _ (List.mem_of_getElem? (i := 144) (by first | rfl | decide +kernel))
set_option maxRecDepth 20000 in
theorem uw_660 : (Cond.methodLink RL 49 yX9_law) ∈ lw_tbl := tb_5 _ (List.mem_of_getElem? (i := 39) (by first | rfl | decide +kernel))
set_option maxRecDepth 20000 in
theorem uw_661 : (Cond.instanceMethod yX9_law) ∈ lw_tbl := tb_5 _ (List.mem_of_getElem? (i := 40) (by first | rfl | decide +kernel))
set_option maxRecDepth 20000 in
theorem uw_662 : (Cond.selects RX9 yX9_law yX9_law) ∈ lw_tbl := tb_5 _ (List.mem_of_getElem? (i := 41) (by first | rfl | decide +kernel))
set_option maxRecDepth 20000 in
theorem uw_663 : (Cond.methodLink RL 50 yX8_strange) ∈ lw_tbl := tb_3 _ (List.mem_of_getElem? (i := 158) (by first | rfl | decide +kernel))
set_option maxRecDepth 20000 in
theorem uw_664 : (Cond.instanceMethod yX8_strange) ∈ lw_tbl := tb_3 _ (List.mem_of_getElem? (i := 159) (by first | rfl | decide +kernel))
set_option maxRecDepth 20000 in
theorem uw_665 : (Cond.selects RX8 yX8_strange yX8_strange) ∈ lw_tbl := tb_3 _ (List.mem_of_getElem? (i := 160) (by first | rfl | decide +kernel))
set_option maxRecDepth 20000 in
theorem uw_666 : (Cond.methodLink RL 53 yX9_strange) ∈ lw_tbl := tb_5 _ (List.mem_of_getElem? (i := 101) (by first | rfl | decide +kernel))
set_option maxRecDepth 20000 in
theorem uw_667 : (Cond.instanceMethod yX9_strange) ∈ lw_tbl := tb_5 _ (List.mem_of_getElem? (i := 102) (by first | rfl | decide +kernel))
set_option maxRecDepth 20000 in
theorem uw_668 : (Cond.selects RX9 yX9_strange yX9_strange) ∈ lw_tbl := tb_5 _ (List.mem_of_getElem? (i := 103) (by first | rfl | decide +kernel))
set_option maxRecDepth 20000 in
theorem uw_669 : (Cond.methodLink RL 54 yX8_say) ∈ lw_tbl := tb_3 _ (List.mem_of_getElem? (i := 162) (by first | rfl | decide +kernel))
set_option maxRecDepth 20000 in
theorem uw_670 : (Cond.instanceMethod yX8_say) ∈ lw_tbl := tb_3 _ (List.mem_of_getElem? (i := 163) (by first | rfl | decide +kernel))
set_option maxRecDepth 20000 in
theorem uw_671 : (Cond.selects RX8 yX8_say yX8_say) ∈ lw_tbl := tb_3 _ (List.mem_of_getElem? (i := 164) (by first | rfl | decide +kernel))
set_option maxRecDepth 20000 in
theorem uw_672 : (Cond.methodLink RL 57 yX9_say) ∈ lw_tbl := tb_5 _ (List.mem_of_getElem? (i := 117) (by first | rfl | decide +kernel))
set_option maxRecDepth 20000 in
theorem uw_673 : (Cond.instanceMethod yX9_say) ∈ lw_tbl := tb_5 _ (List.mem_of_getElem? (i := 118) (by first | rfl | decide +kernel))
set_option maxRecDepth 20000 in
theorem uw_674 : (Cond.selects RX9 yX9_say yX9_say) ∈ lw_tbl := tb_5 _ (List.mem_of_getElem? (i := 119) (by first | rfl | decide +kernel))
set_option maxRecDepth 20000 in
theorem uw_675 : (Cond.methodLink RL 58 yX8_line) ∈ lw_tbl := tb_3 _ (List.mem_of_getElem? (i := 168) (by first | rfl | decide +kernel))
set_option maxRecDepth 20000 in
theorem uw_676 : (Cond.instanceMethod yX8_line) ∈ lw_tbl := tb_3 _ (List.mem_of_getElem? (i := 169) (by first | rfl | decide +kernel))
set_option maxRecDepth 20000 in
theorem uw_677 : (Cond.selects RX8 yX8_line yX8_line) ∈ lw_tbl := tb_3 _ (List.mem_of_getElem? (i := 170) (by first | rfl | decide +kernel))
set_option maxRecDepth 20000 in
theorem uw_678 : (Cond.methodLink RL 61 yX9_line) ∈ lw_tbl := tb_5 _ (List.mem_of_getElem? (i := 125) (by first | rfl | decide +kernel))
set_option maxRecDepth 20000 in
theorem uw_679 : (Cond.instanceMethod yX9_line) ∈ lw_tbl := tb_5 _ (List.mem_of_getElem? (i := 126) (by first | rfl | decide +kernel))
set_option maxRecDepth 20000 in
theorem uw_680 : (Cond.selects RX9 yX9_line yX9_line) ∈ lw_tbl := tb_5 _ (List.mem_of_getElem? (i := 127) (by first | rfl | decide +kernel))
set_option maxRecDepth 20000 in
theorem uw_681 : (Cond.methodLink RL 62 yX8_cost) ∈ lw_tbl := tb_3 _ (List.mem_of_getElem? (i := 189) (by first | rfl | decide +kernel))
set_option maxRecDepth 20000 in
theorem uw_682 : (Cond.instanceMethod yX8_cost) ∈ lw_tbl := tb_3 _ (List.mem_of_getElem? (i := 190) (by first | rfl | decide +kernel))
set_option maxRecDepth 20000 in
theorem uw_683 : (Cond.selects RX8 yX8_cost yX8_cost) ∈ lw_tbl := tb_3 _ (List.mem_of_getElem? (i := 191) (by first | rfl | decide +kernel))
set_option maxRecDepth 20000 in
theorem uw_684 : (Cond.methodLink RL 65 yX9_cost) ∈ lw_tbl := tb_5 _ (List.mem_of_getElem? (i := 27) (by first | rfl | decide +kernel))
set_option maxRecDepth 20000 in
theorem uw_685 : (Cond.instanceMethod yX9_cost) ∈ lw_tbl := tb_5 _ (List.mem_of_getElem? (i := 28) (by first | rfl | decide +kernel))
set_option maxRecDepth 20000 in
theorem uw_686 : (Cond.selects RX9 yX9_cost yX9_cost) ∈ lw_tbl := tb_5 _ (List.mem_of_getElem? (i := 29) (by first | rfl | decide +kernel))
set_option maxRecDepth 20000 in
theorem uw_687 : (Cond.methodLink RL 66 yX8_put) ∈ lw_tbl := tb_3 _ (List.mem_of_getElem? (i := 194) (by first | rfl | decide +kernel))
set_option maxRecDepth 20000 in
theorem uw_688 : (Cond.instanceMethod yX8_put) ∈ lw_tbl := tb_3 _ (List.mem_of_getElem? (i := 195) (by first | rfl | decide +kernel))
set_option maxRecDepth 20000 in
theorem uw_689 : (Cond.selects RX8 yX8_put yX8_put) ∈ lw_tbl := tb_3 _ (List.mem_of_getElem? (i := 196) (by first | rfl | decide +kernel))
set_option maxRecDepth 20000 in
theorem uw_690 : (Cond.methodLink RL 69 yX9_put) ∈ lw_tbl := tb_5 _ (List.mem_of_getElem? (i := 176) (by first | rfl | decide +kernel))
set_option maxRecDepth 20000 in
theorem uw_691 : (Cond.instanceMethod yX9_put) ∈ lw_tbl := tb_5 _ (List.mem_of_getElem? (i := 177) (by first | rfl | decide +kernel))
set_option maxRecDepth 20000 in
theorem uw_692 : (Cond.selects RX9 yX9_put yX9_put) ∈ lw_tbl := tb_5 _ (List.mem_of_getElem? (i := 178) (by first | rfl | decide +kernel))
set_option maxRecDepth 20000 in
theorem uw_693 : (Cond.methodLink RL 70 yX8_copy) ∈ lw_tbl := tb_3 _ (List.mem_of_getElem? (i := 203) (by first | rfl | decide +kernel))
set_option maxRecDepth 20000 in
theorem uw_694 : (Cond.instanceMethod yX8_copy) ∈ lw_tbl := tb_3 _ (List.mem_of_getElem? (i := 204) (by first | rfl | decide +kernel))
set_option maxRecDepth 20000 in
theorem uw_695 : (Cond.selects RX8 yX8_copy yX8_copy) ∈ lw_tbl := tb_3 _ (List.mem_of_getElem? (i := 205) (by first | rfl | decide +kernel))
set_option maxRecDepth 20000 in
theorem uw_696 : (Cond.methodLink RL 73 yX9_copy) ∈ lw_tbl := tb_5 _ (List.mem_of_getElem? (i := 184) (by first | rfl | decide +kernel))
set_option maxRecDepth 20000 in
theorem uw_697 : (Cond.instanceMethod yX9_copy) ∈ lw_tbl := tb_5 _ (List.mem_of_getElem? (i := 185) (by first | rfl | decide +kernel))
set_option maxRecDepth 20000 in
theorem uw_698 : (Cond.selects RX9 yX9_copy yX9_copy) ∈ lw_tbl := tb_5 _ (List.mem_of_getElem? (i := 186) (by first | rfl | decide +kernel))
set_option maxRecDepth 20000 in
theorem uw_699 : (Cond.methodLink RL 74 yX8_take) ∈ lw_tbl := tb_3 _ (List.mem_of_getElem? (i := 211) (by first | rfl | decide +kernel))
set_option maxRecDepth 20000 in
theorem uw_700 : (Cond.instanceMethod yX8_take) ∈ lw_tbl := tb_3 _ (List.mem_of_getElem? (i := 212) (by first | rfl | decide +kernel))
set_option maxRecDepth 20000 in
theorem uw_701 : (Cond.selects RX8 yX8_take yX8_take) ∈ lw_tbl := tb_3 _ (List.mem_of_getElem? (i := 213) (by first | rfl | decide +kernel))
set_option maxRecDepth 20000 in
theorem uw_702 : (Cond.methodLink RL 77 yX9_take) ∈ lw_tbl := tb_5 _ (List.mem_of_getElem? (i := 192) (by first | rfl | decide +kernel))
set_option maxRecDepth 20000 in
theorem uw_703 : (Cond.instanceMethod yX9_take) ∈ lw_tbl := tb_5 _ (List.mem_of_getElem? (i := 193) (by first | rfl | decide +kernel))
set_option maxRecDepth 20000 in
theorem uw_704 : (Cond.selects RX9 yX9_take yX9_take) ∈ lw_tbl := tb_5 _ (List.mem_of_getElem? (i := 194) (by first | rfl | decide +kernel))
set_option maxRecDepth 20000 in
theorem uw_705 : (Cond.methodLink RL 78 yX8_change) ∈ lw_tbl := tb_3 _ (List.mem_of_getElem? (i := 224) (by first | rfl | decide +kernel))
set_option maxRecDepth 20000 in
theorem uw_706 : (Cond.instanceMethod yX8_change) ∈ lw_tbl := tb_3 _ (List.mem_of_getElem? (i := 225) (by first | rfl | decide +kernel))
set_option maxRecDepth 20000 in
theorem uw_707 : (Cond.selects RX8 yX8_change yX8_change) ∈ lw_tbl := tb_3 _ (List.mem_of_getElem? (i := 226) (by first | rfl | decide +kernel))
set_option maxRecDepth 20000 in
theorem uw_708 : (Cond.methodLink RL 81 yX9_change) ∈ lw_tbl := tb_5 _ (List.mem_of_getElem? (i := 196) (by first | rfl | decide +kernel))
set_option maxRecDepth 20000 in
theorem uw_709 : (Cond.instanceMethod yX9_change) ∈ lw_tbl := tb_5 _ (List.mem_of_getElem? (i := 197) (by first | rfl | decide +kernel))
set_option maxRecDepth 20000 in
theorem uw_710 : (Cond.selects RX9 yX9_change yX9_change) ∈ lw_tbl := tb_5 _ (List.mem_of_getElem? (i := 198) (by first | rfl | decide +kernel))
set_option maxRecDepth 20000 in
theorem uw_711 : (Cond.methodLink RL 82 yX8_swap) ∈ lw_tbl := tb_3 _ (List.mem_of_getElem? (i := 228) (by first | rfl | decide +kernel))
set_option maxRecDepth 20000 in
theorem uw_712 : (Cond.instanceMethod yX8_swap) ∈ lw_tbl := tb_3 _ (List.mem_of_getElem? (i := 229) (by first | rfl | decide +kernel))
set_option maxRecDepth 20000 in
theorem uw_713 : (Cond.selects RX8 yX8_swap yX8_swap) ∈ lw_tbl := tb_3 _ (List.mem_of_getElem? (i := 230) (by first | rfl | decide +kernel))
set_option maxRecDepth 20000 in
theorem uw_714 : (Cond.methodLink RL 85 yX9_swap) ∈ lw_tbl := tb_5 _ (List.mem_of_getElem? (i := 200) (by first | rfl | decide +kernel))
set_option maxRecDepth 20000 in
theorem uw_715 : (Cond.instanceMethod yX9_swap) ∈ lw_tbl := tb_5 _ (List.mem_of_getElem? (i := 201) (by first | rfl | decide +kernel))
set_option maxRecDepth 20000 in
theorem uw_716 : (Cond.selects RX9 yX9_swap yX9_swap) ∈ lw_tbl := tb_5 _ (List.mem_of_getElem? (i := 202) (by first | rfl | decide +kernel))
set_option maxRecDepth 20000 in
theorem uw_717 : (Cond.methodLink RL 86 yX8_see) ∈ lw_tbl := tb_3 _ (List.mem_of_getElem? (i := 236) (by first | rfl | decide +kernel))
set_option maxRecDepth 20000 in
theorem uw_718 : (Cond.instanceMethod yX8_see) ∈ lw_tbl := tb_3 _ (List.mem_of_getElem? (i := 237) (by first | rfl | decide +kernel))
set_option maxRecDepth 20000 in
theorem uw_719 : (Cond.selects RX8 yX8_see yX8_see) ∈ lw_tbl := tb_3 _ (List.mem_of_getElem? (i := 238) (by first | rfl | decide +kernel))
set_option maxRecDepth 20000 in
theorem uw_720 : (Cond.methodLink RL 90 yX9_see) ∈ lw_tbl := tb_5 _ (List.mem_of_getElem? (i := 208) (by first | rfl | decide +kernel))
set_option maxRecDepth 20000 in
theorem uw_721 : (Cond.instanceMethod yX9_see) ∈ lw_tbl := tb_5 _ (List.mem_of_getElem? (i := 209) (by first | rfl | decide +kernel))
set_option maxRecDepth 20000 in
theorem uw_722 : (Cond.selects RX9 yX9_see yX9_see) ∈ lw_tbl := tb_5 _ (List.mem_of_getElem? (i := 210) (by first | rfl | decide +kernel))
set_option maxRecDepth 20000 in
theorem uw_723 : (Cond.methodLink RL 91 yX8_forget) ∈ lw_tbl := tb_4 _ (List.mem_of_getElem? (i := 4) (by first | rfl | decide +kernel))
set_option maxRecDepth 20000 in
theorem uw_724 : (Cond.instanceMethod yX8_forget) ∈ lw_tbl := tb_4 _ (List.mem_of_getElem? (i := 5) (by first | rfl | decide +kernel))
set_option maxRecDepth 20000 in
theorem uw_725 : (Cond.selects RX8 yX8_forget yX8_forget) ∈ lw_tbl := tb_4 _ (List.mem_of_getElem? (i := 6) (by first | rfl | decide +kernel))
set_option maxRecDepth 20000 in
theorem uw_726 : (Cond.methodLink RL 94 yX9_forget) ∈ lw_tbl := tb_5 _ (List.mem_of_getElem? (i := 212) (by first | rfl | decide +kernel))
set_option maxRecDepth 20000 in
theorem uw_727 : (Cond.instanceMethod yX9_forget) ∈ lw_tbl := tb_5 _ (List.mem_of_getElem? (i := 213) (by first | rfl | decide +kernel))
set_option maxRecDepth 20000 in
theorem uw_728 : (Cond.selects RX9 yX9_forget yX9_forget) ∈ lw_tbl := tb_5 _ (List.mem_of_getElem? (i := 214) (by first | rfl | decide +kernel))
set_option maxRecDepth 20000 in
theorem uw_729 : (Cond.methodLink RL 95 yX8_drawn) ∈ lw_tbl := tb_4 _ (List.mem_of_getElem? (i := 8) (by first | rfl | decide +kernel))
set_option maxRecDepth 20000 in
theorem uw_730 : (Cond.instanceMethod yX8_drawn) ∈ lw_tbl := tb_4 _ (List.mem_of_getElem? (i := 9) (by first | rfl | decide +kernel))
set_option maxRecDepth 20000 in
theorem uw_731 : (Cond.selects RX8 yX8_drawn yX8_drawn) ∈ lw_tbl := tb_4 _ (List.mem_of_getElem? (i := 10) (by first | rfl | decide +kernel))
set_option maxRecDepth 20000 in
theorem uw_732 : (Cond.methodLink RL 98 yX9_drawn) ∈ lw_tbl := tb_5 _ (List.mem_of_getElem? (i := 216) (by first | rfl | decide +kernel))
set_option maxRecDepth 20000 in
theorem uw_733 : (Cond.instanceMethod yX9_drawn) ∈ lw_tbl := tb_5 _ (List.mem_of_getElem? (i := 217) (by first | rfl | decide +kernel))
set_option maxRecDepth 20000 in
theorem uw_734 : (Cond.selects RX9 yX9_drawn yX9_drawn) ∈ lw_tbl := tb_5 _ (List.mem_of_getElem? (i := 218) (by first | rfl | decide +kernel))
set_option maxRecDepth 20000 in
theorem uw_735 : (Cond.methodLink RL 99 yX8_image) ∈ lw_tbl := tb_4 _ (List.mem_of_getElem? (i := 31) (by first | rfl | decide +kernel))
set_option maxRecDepth 20000 in
theorem uw_736 : (Cond.instanceMethod yX8_image) ∈ lw_tbl := tb_4 _ (List.mem_of_getElem? (i := 32) (by first | rfl | decide +kernel))
set_option maxRecDepth 20000 in
theorem uw_737 : (Cond.selects RX8 yX8_image yX8_image) ∈ lw_tbl := tb_4 _ (List.mem_of_getElem? (i := 33) (by first | rfl | decide +kernel))
set_option maxRecDepth 20000 in
theorem uw_738 : (Cond.methodLink RL 102 yX9_image) ∈ lw_tbl := tb_5 _ (List.mem_of_getElem? (i := 229) (by first | rfl | decide +kernel))
set_option maxRecDepth 20000 in
theorem uw_739 : (Cond.instanceMethod yX9_image) ∈ lw_tbl := tb_5 _ (List.mem_of_getElem? (i := 230) (by first | rfl | decide +kernel))
set_option maxRecDepth 20000 in
theorem uw_740 : (Cond.selects RX9 yX9_image yX9_image) ∈ lw_tbl := tb_5 _ (List.mem_of_getElem? (i := 231) (by first | rfl | decide +kernel))
set_option maxRecDepth 20000 in
theorem uw_741 : (Cond.methodLink RL 103 yX8_restore) ∈ lw_tbl := tb_4 _ (List.mem_of_getElem? (i := 40) (by first | rfl | decide +kernel))
set_option maxRecDepth 20000 in
theorem uw_742 : (Cond.instanceMethod yX8_restore) ∈ lw_tbl := tb_4 _ (List.mem_of_getElem? (i := 41) (by first | rfl | decide +kernel))
set_option maxRecDepth 20000 in
theorem uw_743 : (Cond.selects RX8 yX8_restore yX8_restore) ∈ lw_tbl := tb_4 _ (List.mem_of_getElem? (i := 42) (by first | rfl | decide +kernel))
set_option maxRecDepth 20000 in
theorem uw_744 : (Cond.methodLink RL 106 yX9_restore) ∈ lw_tbl := tb_6 _ (List.mem_of_getElem? (i := 0) (by first | rfl | decide +kernel))
set_option maxRecDepth 20000 in
theorem uw_745 : (Cond.instanceMethod yX9_restore) ∈ lw_tbl := tb_6 _ (List.mem_of_getElem? (i := 1) (by first | rfl | decide +kernel))
set_option maxRecDepth 20000 in
theorem uw_746 : (Cond.selects RX9 yX9_restore yX9_restore) ∈ lw_tbl := tb_6 _ (List.mem_of_getElem? (i := 2) (by first | rfl | decide +kernel))
set_option maxRecDepth 20000 in
theorem uw_747 : (Cond.methodLink RL 107 yX8_count) ∈ lw_tbl := tb_4 _ (List.mem_of_getElem? (i := 44) (by first | rfl | decide +kernel))
set_option maxRecDepth 20000 in
theorem uw_748 : (Cond.instanceMethod yX8_count) ∈ lw_tbl := tb_4 _ (List.mem_of_getElem? (i := 45) (by first | rfl | decide +kernel))
set_option maxRecDepth 20000 in
theorem uw_749 : (Cond.selects RX8 yX8_count yX8_count) ∈ lw_tbl := tb_4 _ (List.mem_of_getElem? (i := 46) (by first | rfl | decide +kernel))
set_option maxRecDepth 20000 in
theorem uw_750 : (Cond.methodLink RL 110 yX9_count) ∈ lw_tbl := tb_6 _ (List.mem_of_getElem? (i := 4) (by first | rfl | decide +kernel))
set_option maxRecDepth 20000 in
theorem uw_751 : (Cond.instanceMethod yX9_count) ∈ lw_tbl := tb_6 _ (List.mem_of_getElem? (i := 5) (by first | rfl | decide +kernel))
set_option maxRecDepth 20000 in
theorem uw_752 : (Cond.selects RX9 yX9_count yX9_count) ∈ lw_tbl := tb_6 _ (List.mem_of_getElem? (i := 6) (by first | rfl | decide +kernel))
set_option maxRecDepth 20000 in
theorem uw_753 : (Cond.methodLink RL 111 yX8_digest) ∈ lw_tbl := tb_4 _ (List.mem_of_getElem? (i := 58) (by first | rfl | decide +kernel))
set_option maxRecDepth 20000 in
theorem uw_754 : (Cond.instanceMethod yX8_digest) ∈ lw_tbl := tb_4 _ (List.mem_of_getElem? (i := 59) (by first | rfl | decide +kernel))
set_option maxRecDepth 20000 in
theorem uw_755 : (Cond.selects RX8 yX8_digest yX8_digest) ∈ lw_tbl := tb_4 _ (List.mem_of_getElem? (i := 60) (by first | rfl | decide +kernel))
set_option maxRecDepth 20000 in
theorem uw_756 : (Cond.methodLink RL 115 yX9_digest) ∈ lw_tbl := tb_6 _ (List.mem_of_getElem? (i := 24) (by first | rfl | decide +kernel))
set_option maxRecDepth 20000 in
theorem uw_757 : (Cond.instanceMethod yX9_digest) ∈ lw_tbl := tb_6 _ (List.mem_of_getElem? (i := 25) (by first | rfl | decide +kernel))
set_option maxRecDepth 20000 in
theorem uw_758 : (Cond.selects RX9 yX9_digest yX9_digest) ∈ lw_tbl := tb_6 _ (List.mem_of_getElem? (i := 26) (by first | rfl | decide +kernel))
set_option maxRecDepth 20000 in
theorem twL_law : ∀ w ∈ wsL_law, w ∈ lw_tbl := List.forall_mem_append.mpr ⟨List.forall_mem_cons.mpr ⟨uw_607, List.forall_mem_cons.mpr ⟨uw_608, List.forall_mem_cons.mpr ⟨uw_105, List.forall_mem_cons.mpr ⟨uw_609, List.forall_mem_cons.mpr ⟨uw_610, List.forall_mem_cons.mpr ⟨uw_611, List.forall_mem_cons.mpr ⟨uw_612, List.forall_mem_cons.mpr ⟨uw_145, List.forall_mem_cons.mpr ⟨uw_613, List.forall_mem_cons.mpr ⟨uw_614, List.forall_mem_cons.mpr ⟨uw_615, List.forall_mem_cons.mpr ⟨uw_616, List.forall_mem_cons.mpr ⟨uw_617, List.forall_mem_cons.mpr ⟨uw_618, List.forall_mem_cons.mpr ⟨uw_619, List.forall_mem_cons.mpr ⟨uw_620, List.forall_mem_cons.mpr ⟨uw_621, List.forall_mem_cons.mpr ⟨uw_622, List.forall_mem_cons.mpr ⟨uw_623, List.forall_mem_cons.mpr ⟨uw_624, List.forall_mem_cons.mpr ⟨uw_625, List.forall_mem_cons.mpr ⟨uw_626, List.forall_mem_cons.mpr ⟨uw_627, List.forall_mem_cons.mpr ⟨uw_628, List.forall_mem_cons.mpr ⟨uw_629, List.forall_mem_cons.mpr ⟨uw_630, List.forall_mem_cons.mpr ⟨uw_631, List.forall_mem_cons.mpr ⟨uw_632, List.forall_mem_cons.mpr ⟨uw_633, List.forall_mem_cons.mpr ⟨uw_634, List.forall_mem_cons.mpr ⟨uw_635, List.forall_mem_cons.mpr ⟨uw_636, List.forall_mem_cons.mpr ⟨uw_637, List.forall_mem_cons.mpr ⟨uw_638, List.forall_mem_cons.mpr ⟨uw_639, List.forall_mem_cons.mpr ⟨uw_640, List.forall_mem_cons.mpr ⟨uw_641, List.forall_mem_cons.mpr ⟨uw_642, List.forall_mem_cons.mpr ⟨uw_643, List.forall_mem_cons.mpr ⟨uw_644, List.forall_mem_cons.mpr ⟨uw_645, List.forall_mem_cons.mpr ⟨uw_646, List.forall_mem_cons.mpr ⟨uw_647, List.forall_mem_cons.mpr ⟨uw_648, List.forall_mem_cons.mpr ⟨uw_649, List.forall_mem_cons.mpr ⟨uw_650, List.forall_mem_cons.mpr ⟨uw_651, List.forall_mem_cons.mpr ⟨uw_652, List.forall_mem_cons.mpr ⟨uw_653, List.forall_mem_cons.mpr ⟨uw_654, List.forall_mem_cons.mpr ⟨uw_655, List.forall_mem_cons.mpr ⟨uw_656, List.forall_mem_cons.mpr ⟨uw_657, List.forall_mem_cons.mpr ⟨uw_658, List.forall_mem_cons.mpr ⟨uw_659, List.forall_mem_cons.mpr ⟨uw_660, List.forall_mem_cons.mpr ⟨uw_661, List.forall_mem_cons.mpr ⟨uw_662, List.forall_mem_cons.mpr ⟨uw_663, List.forall_mem_cons.mpr ⟨uw_664, List.forall_mem_cons.mpr ⟨uw_665, List.forall_mem_cons.mpr ⟨uw_666, List.forall_mem_cons.mpr ⟨uw_667, List.forall_mem_cons.mpr ⟨uw_668, List.forall_mem_cons.mpr ⟨uw_669, List.forall_mem_cons.mpr ⟨uw_670, List.forall_mem_cons.mpr ⟨uw_671, List.forall_mem_cons.mpr ⟨uw_672, List.forall_mem_cons.mpr ⟨uw_673, List.forall_mem_cons.mpr ⟨uw_674, List.forall_mem_cons.mpr ⟨uw_675, List.forall_mem_cons.mpr ⟨uw_676, List.forall_mem_cons.mpr ⟨uw_677, List.forall_mem_cons.mpr ⟨uw_678, List.forall_mem_cons.mpr ⟨uw_679, List.forall_mem_cons.mpr ⟨uw_680, List.forall_mem_cons.mpr ⟨uw_681, List.forall_mem_cons.mpr ⟨uw_682, List.forall_mem_cons.mpr ⟨uw_683, List.forall_mem_cons.mpr ⟨uw_684, List.forall_mem_cons.mpr ⟨uw_685, List.forall_mem_cons.mpr ⟨uw_686, List.forall_mem_cons.mpr ⟨uw_687, List.forall_mem_cons.mpr ⟨uw_688, List.forall_mem_cons.mpr ⟨uw_689, List.forall_mem_cons.mpr ⟨uw_690, List.forall_mem_cons.mpr ⟨uw_691, List.forall_mem_cons.mpr ⟨uw_692, List.forall_mem_cons.mpr ⟨uw_693, List.forall_mem_cons.mpr ⟨uw_694, List.forall_mem_cons.mpr ⟨uw_695, List.forall_mem_cons.mpr ⟨uw_696, List.forall_mem_cons.mpr ⟨uw_697, List.forall_mem_cons.mpr ⟨uw_698, List.forall_mem_cons.mpr ⟨uw_699, List.forall_mem_cons.mpr ⟨uw_700, List.forall_mem_cons.mpr ⟨uw_701, List.forall_mem_cons.mpr ⟨uw_702, List.forall_mem_cons.mpr ⟨uw_703, List.forall_mem_cons.mpr ⟨uw_704, List.forall_mem_cons.mpr ⟨uw_705, List.forall_mem_cons.mpr ⟨uw_706, List.forall_mem_cons.mpr ⟨uw_707, List.forall_mem_cons.mpr ⟨uw_708, List.forall_mem_cons.mpr ⟨uw_709, List.forall_mem_cons.mpr ⟨uw_710, List.forall_mem_cons.mpr ⟨uw_711, List.forall_mem_cons.mpr ⟨uw_712, List.forall_mem_cons.mpr ⟨uw_713, List.forall_mem_cons.mpr ⟨uw_714, List.forall_mem_cons.mpr ⟨uw_715, List.forall_mem_cons.mpr ⟨uw_716, List.forall_mem_cons.mpr ⟨uw_717, List.forall_mem_cons.mpr ⟨uw_718, List.forall_mem_cons.mpr ⟨uw_719, List.forall_mem_cons.mpr ⟨uw_720, List.forall_mem_cons.mpr ⟨uw_721, List.forall_mem_cons.mpr ⟨uw_722, List.forall_mem_cons.mpr ⟨uw_723, List.forall_mem_cons.mpr ⟨uw_724, List.forall_mem_cons.mpr ⟨uw_725, List.forall_mem_cons.mpr ⟨uw_726, List.forall_mem_cons.mpr ⟨uw_727, List.forall_mem_cons.mpr ⟨uw_728, List.forall_mem_cons.mpr ⟨uw_729, List.forall_mem_cons.mpr ⟨uw_730, List.forall_mem_cons.mpr ⟨uw_731, List.forall_mem_cons.mpr ⟨uw_732, List.forall_mem_cons.mpr ⟨uw_733, List.forall_mem_cons.mpr ⟨uw_734, List.forall_mem_cons.mpr ⟨uw_735, List.forall_mem_cons.mpr ⟨uw_736, List.forall_mem_cons.mpr ⟨uw_737, List.forall_mem_cons.mpr ⟨uw_738, List.forall_mem_cons.mpr ⟨uw_739, List.forall_mem_cons.mpr ⟨uw_740, List.forall_mem_cons.mpr ⟨uw_741, List.forall_mem_cons.mpr ⟨uw_742, List.forall_mem_cons.mpr ⟨uw_743, List.forall_mem_cons.mpr ⟨uw_744, List.forall_mem_cons.mpr ⟨uw_745, List.forall_mem_cons.mpr ⟨uw_746, List.forall_mem_cons.mpr ⟨uw_747, List.forall_mem_cons.mpr ⟨uw_748, List.forall_mem_cons.mpr ⟨uw_749, List.forall_mem_cons.mpr ⟨uw_750, List.forall_mem_cons.mpr ⟨uw_751, List.forall_mem_cons.mpr ⟨uw_752, List.forall_mem_cons.mpr ⟨uw_753, List.forall_mem_cons.mpr ⟨uw_754, List.forall_mem_cons.mpr ⟨uw_755, List.forall_mem_cons.mpr ⟨uw_756, List.forall_mem_cons.mpr ⟨uw_757, List.forall_mem_cons.mpr ⟨uw_758, tw_nil⟩⟩⟩⟩⟩⟩⟩⟩⟩⟩⟩⟩⟩⟩⟩⟩⟩⟩⟩⟩⟩⟩⟩⟩⟩⟩⟩⟩⟩⟩⟩⟩⟩⟩⟩⟩⟩⟩⟩⟩⟩⟩⟩⟩⟩⟩⟩⟩⟩⟩⟩⟩⟩⟩⟩⟩⟩⟩⟩⟩⟩⟩⟩⟩⟩⟩⟩⟩⟩⟩⟩⟩⟩⟩⟩⟩⟩⟩⟩⟩⟩⟩⟩⟩⟩⟩⟩⟩⟩⟩⟩⟩⟩⟩⟩⟩⟩⟩⟩⟩⟩⟩⟩⟩⟩⟩⟩⟩⟩⟩⟩⟩⟩⟩⟩⟩⟩⟩⟩⟩⟩⟩⟩⟩⟩⟩⟩⟩⟩⟩⟩⟩⟩⟩⟩⟩⟩⟩⟩⟩⟩⟩⟩⟩⟩⟩⟩⟩⟩⟩⟩⟩⟩⟩, List.forall_mem_append.mpr ⟨twX80, List.forall_mem_append.mpr ⟨twX90, List.forall_mem_append.mpr ⟨twX8_letter, List.forall_mem_append.mpr ⟨twX9_letter, List.forall_mem_append.mpr ⟨twX8_blank, List.forall_mem_append.mpr ⟨twX9_blank, List.forall_mem_append.mpr ⟨twX8_fault, List.forall_mem_append.mpr ⟨twX9_fault, List.forall_mem_append.mpr ⟨twX8_sets, List.forall_mem_append.mpr ⟨twX9_sets, List.forall_mem_append.mpr ⟨twX8_set, List.forall_mem_append.mpr ⟨twX9_set, List.forall_mem_append.mpr ⟨twX8_as, List.forall_mem_append.mpr ⟨twX9_as, List.forall_mem_append.mpr ⟨twX8_sound, List.forall_mem_append.mpr ⟨twX9_sound, List.forall_mem_append.mpr ⟨twX8_law, List.forall_mem_append.mpr ⟨twX9_law, List.forall_mem_append.mpr ⟨twX8_strange, List.forall_mem_append.mpr ⟨twX9_strange, List.forall_mem_append.mpr ⟨twX8_say, List.forall_mem_append.mpr ⟨twX9_say, List.forall_mem_append.mpr ⟨twX8_line, List.forall_mem_append.mpr ⟨twX9_line, List.forall_mem_append.mpr ⟨twX8_cost, List.forall_mem_append.mpr ⟨twX9_cost, List.forall_mem_append.mpr ⟨twX8_put, List.forall_mem_append.mpr ⟨twX9_put, List.forall_mem_append.mpr ⟨twX8_copy, List.forall_mem_append.mpr ⟨twX9_copy, List.forall_mem_append.mpr ⟨twX8_take, List.forall_mem_append.mpr ⟨twX9_take, List.forall_mem_append.mpr ⟨twX8_change, List.forall_mem_append.mpr ⟨twX9_change, List.forall_mem_append.mpr ⟨twX8_swap, List.forall_mem_append.mpr ⟨twX9_swap, List.forall_mem_append.mpr ⟨twX8_see, List.forall_mem_append.mpr ⟨twX9_see, List.forall_mem_append.mpr ⟨twX8_forget, List.forall_mem_append.mpr ⟨twX9_forget, List.forall_mem_append.mpr ⟨twX8_drawn, List.forall_mem_append.mpr ⟨twX9_drawn, List.forall_mem_append.mpr ⟨twX8_image, List.forall_mem_append.mpr ⟨twX9_image, List.forall_mem_append.mpr ⟨twX8_restore, List.forall_mem_append.mpr ⟨twX9_restore, List.forall_mem_append.mpr ⟨twX8_count, List.forall_mem_append.mpr ⟨twX9_count, List.forall_mem_append.mpr ⟨twX8_digest, List.forall_mem_append.mpr ⟨twX9_digest, List.forall_mem_append.mpr ⟨twX8_init, List.forall_mem_append.mpr ⟨twX9_init, tw_nil⟩⟩⟩⟩⟩⟩⟩⟩⟩⟩⟩⟩⟩⟩⟩⟩⟩⟩⟩⟩⟩⟩⟩⟩⟩⟩⟩⟩⟩⟩⟩⟩⟩⟩⟩⟩⟩⟩⟩⟩⟩⟩⟩⟩⟩⟩⟩⟩⟩⟩⟩⟩⟩
theorem wsL_law_in : ∀ w ∈ wsL_law, w ∈ lw_tbl := twL_law

set_option maxHeartbeats 8000000 in
set_option maxRecDepth 100000 in
theorem law_loop {p : Program} {l : Launch} {e : Env} {s : State} {m : MethodId} {below : List Frame} {meth : Method} {c : Code} {b L : Nat} {xs : Nat → Int32} {g : GG} (hx : p.tables.exec = Jvm.exec) (hb : c.code = code) (hr : meth.sig.returnType = ret) (hml : c.maxLocals = 4) (hown : s.vm.findClass RL = some m.cls) (hts : ∀ w ∈ wsL_law, w.before #[Value.ref b] s = true) (hX : va_X b L xs s s.heap) (hbl : b < s.heap.size) (hlocks : meth.locks = false) (hE : ek g s) (hZ : es g (fun q : Nat => s.heap.size ≤ q) s s.heap) (hA : ∀ q : Nat, s.heap.size ≤ q → (fun q : Nat => s.heap.size ≤ q) q) (hbA : ¬ (fun q : Nat => s.heap.size ≤ q) b) (hLb : L ≤ 2560) (ad : Nat → Nat) : ∀ (fu i : Nat), i ≤ L → L < i + fu → ∀ (w : va_W), INV g ad i w → ∀ (H : Heap) (locs : List Loc) (ls : Array Slot), va_P g.1 vwCl w H → va_D (fun q : Nat => s.heap.size ≤ q) w → va_S (fun q : Nat => s.heap.size ≤ q) s.heap H locs → lv_has ls 4 [(0, .ref b), (1, .ref (ad 0)), (2, .ref (ad 43)), (3, .int (nI i))] → W p l e room_1 s m #[Value.ref b] below meth c H locs 68 2754 (lw_Z below #[Value.ref b] s) (F0 m 18 ls []) := by
  intro fu
  induction fu with
  | zero => intro i hi hfu; exact absurd hfu (by omega)
  | succ fu ih =>
    intro i hi hfu w hI H locs ls hP hD hS hl
    have hK9 : i + 5 ≤ L → (∀ w : va_W, INV g ad (i + 5) w → ∀ (H : Heap) (locs : List Loc) (ls : Array Slot), va_P g.1 vwCl w H → va_D (fun q : Nat => s.heap.size ≤ q) w → va_S (fun q : Nat => s.heap.size ≤ q) s.heap H locs → lv_has ls 4 [(0, .ref b), (1, .ref (ad 0)), (2, .ref (ad 43)), (3, .int (nI i))] → W p l e room_1 s m #[Value.ref b] below meth c H locs 68 2754 (lw_Z below #[Value.ref b] s) (F0 m 872 ls [])) := by
      intro hi5 w hI H locs ls hP hD hS hl
      refine lv_iinc (v := (nI (i + 5))) (lv' := [(3, .int (nI (i + 5))), (0, .ref b), (1, .ref (ad 0)), (2, .ref (ad 43))]) hx hb dL_law_872 hl (k := 3) rfl (nI_add i 5) (by decide) rfl (fun ls hl => ?_)
      refine lv_goto (tgt := 18) hx hb dL_law_875 (by decide) ?_
      exact ih (i + 5) hi5 (by omega) w hI H locs ls hP hD hS (lv_sub hl [1, 2, 3, 0] rfl)
    refine lv_iload_n hx hb dL_law_18 rfl (lv_at hl 3 rfl) ?_
    refine lv_aload_n hx hb dL_law_19 rfl (lv_at hl 0 rfl) ?_
    refine va_slen hx hb hX hbl hbA hS dL_law_20 ?_
    refine lv_iconst (v := 5) hx hb dL_law_21 (by decide) ?_
    refine lv_isub hx hb dL_law_22 ?_
    refine lv_icmp_gt (tgt := 878) hx hb dL_law_23 (by decide) (fun c23_1 => ?_) (fun c23_1 => ?_)
    · skip
      refine lv_iconst (v := 1) hx hb dL_law_878 (by decide) ?_
      refine va_forget hS.2.2 ?_
      exact lw_ret hx hb hr hlocks dL_law_879
    · skip
      have hi5 : i + 5 ≤ L := nlt5 hi hLb c23_1
      refine lv_aload_n hx hb dL_law_26 rfl (lv_at hl 0 rfl) ?_
      refine lv_iload_n hx hb dL_law_27 rfl (lv_at hl 3 rfl) ?_
      refine k_sld i rfl (by omega) (by omega) hx hb hX hbl hbA hS dL_law_28 ?_
      refine lv_bipush (v := 31) hx hb dL_law_29 (by decide) ?_
      refine lv_iand hx hb dL_law_31 ?_
      refine lv_topi (fun x_2 ex_2 => ?_)
      have hi5 : i + 5 ≤ L := nlt5 hi hLb c23_1
      have hlq := lv_sub hl [0, 1, 2, 3] rfl
      by_cases w32_0 : x_2 = 0
      · refine lv_tableIn (tgt := 144) (off := 112) hx hb dL_law_32 (by rw [w32_0]; decide) (by rw [w32_0]; decide) (by rw [w32_0]; decide) (by decide) ?_
        exact law_0 hx hb hr hml hown hts hX hbl hlocks hE hZ hA hbA hLb i hi5 ad hI hP hD hS hlq (hK9 hi5)
      by_cases w32_1 : x_2 = 1
      · refine lv_tableIn (tgt := 167) (off := 135) hx hb dL_law_32 (by rw [w32_1]; decide) (by rw [w32_1]; decide) (by rw [w32_1]; decide) (by decide) ?_
        exact law_1 hx hb hr hml hown hts hX hbl hlocks hE hZ hA hbA hLb i hi5 ad hI hP hD hS hlq (hK9 hi5)
      by_cases w32_2 : x_2 = 2
      · refine lv_tableIn (tgt := 180) (off := 148) hx hb dL_law_32 (by rw [w32_2]; decide) (by rw [w32_2]; decide) (by rw [w32_2]; decide) (by decide) ?_
        exact law_2 hx hb hr hml hown hts hX hbl hlocks hE hZ hA hbA hLb i hi5 ad hI hP hD hS hlq (hK9 hi5)
      by_cases w32_3 : x_2 = 3
      · refine lv_tableIn (tgt := 193) (off := 161) hx hb dL_law_32 (by rw [w32_3]; decide) (by rw [w32_3]; decide) (by rw [w32_3]; decide) (by decide) ?_
        exact law_3 hx hb hr hml hown hts hX hbl hlocks hE hZ hA hbA hLb i hi5 ad hI hP hD hS hlq (hK9 hi5)
      by_cases w32_4 : x_2 = 4
      · refine lv_tableIn (tgt := 206) (off := 174) hx hb dL_law_32 (by rw [w32_4]; decide) (by rw [w32_4]; decide) (by rw [w32_4]; decide) (by decide) ?_
        exact law_4 hx hb hr hml hown hts hX hbl hlocks hE hZ hA hbA hLb i hi5 ad hI hP hD hS hlq (hK9 hi5)
      by_cases w32_5 : x_2 = 5
      · refine lv_tableIn (tgt := 239) (off := 207) hx hb dL_law_32 (by rw [w32_5]; decide) (by rw [w32_5]; decide) (by rw [w32_5]; decide) (by decide) ?_
        exact law_5 hx hb hr hml hown hts hX hbl hlocks hE hZ hA hbA hLb i hi5 ad hI hP hD hS hlq (hK9 hi5)
      by_cases w32_6 : x_2 = 6
      · refine lv_tableIn (tgt := 272) (off := 240) hx hb dL_law_32 (by rw [w32_6]; decide) (by rw [w32_6]; decide) (by rw [w32_6]; decide) (by decide) ?_
        exact law_6 hx hb hr hml hown hts hX hbl hlocks hE hZ hA hbA hLb i hi5 ad hI hP hD hS hlq (hK9 hi5)
      by_cases w32_7 : x_2 = 7
      · refine lv_tableIn (tgt := 315) (off := 283) hx hb dL_law_32 (by rw [w32_7]; decide) (by rw [w32_7]; decide) (by rw [w32_7]; decide) (by decide) ?_
        exact law_7 hx hb hr hml hown hts hX hbl hlocks hE hZ hA hbA hLb i hi5 ad hI hP hD hS hlq (hK9 hi5)
      by_cases w32_8 : x_2 = 8
      · refine lv_tableIn (tgt := 368) (off := 336) hx hb dL_law_32 (by rw [w32_8]; decide) (by rw [w32_8]; decide) (by rw [w32_8]; decide) (by decide) ?_
        exact law_8 hx hb hr hml hown hts hX hbl hlocks hE hZ hA hbA hLb i hi5 ad hI hP hD hS hlq (hK9 hi5)
      by_cases w32_9 : x_2 = 9
      · refine lv_tableIn (tgt := 401) (off := 369) hx hb dL_law_32 (by rw [w32_9]; decide) (by rw [w32_9]; decide) (by rw [w32_9]; decide) (by decide) ?_
        exact law_9 hx hb hr hml hown hts hX hbl hlocks hE hZ hA hbA hLb i hi5 ad hI hP hD hS hlq (hK9 hi5)
      by_cases w32_10 : x_2 = 10
      · refine lv_tableIn (tgt := 444) (off := 412) hx hb dL_law_32 (by rw [w32_10]; decide) (by rw [w32_10]; decide) (by rw [w32_10]; decide) (by decide) ?_
        exact law_10 hx hb hr hml hown hts hX hbl hlocks hE hZ hA hbA hLb i hi5 ad hI hP hD hS hlq (hK9 hi5)
      by_cases w32_11 : x_2 = 11
      · refine lv_tableIn (tgt := 497) (off := 465) hx hb dL_law_32 (by rw [w32_11]; decide) (by rw [w32_11]; decide) (by rw [w32_11]; decide) (by decide) ?_
        exact law_11 hx hb hr hml hown hts hX hbl hlocks hE hZ hA hbA hLb i hi5 ad hI hP hD hS hlq (hK9 hi5)
      by_cases w32_12 : x_2 = 12
      · refine lv_tableIn (tgt := 530) (off := 498) hx hb dL_law_32 (by rw [w32_12]; decide) (by rw [w32_12]; decide) (by rw [w32_12]; decide) (by decide) ?_
        exact law_12 hx hb hr hml hown hts hX hbl hlocks hE hZ hA hbA hLb i hi5 ad hI hP hD hS hlq (hK9 hi5)
      by_cases w32_13 : x_2 = 13
      · refine lv_tableIn (tgt := 583) (off := 551) hx hb dL_law_32 (by rw [w32_13]; decide) (by rw [w32_13]; decide) (by rw [w32_13]; decide) (by decide) ?_
        exact law_13 hx hb hr hml hown hts hX hbl hlocks hE hZ hA hbA hLb i hi5 ad hI hP hD hS hlq (hK9 hi5)
      by_cases w32_14 : x_2 = 14
      · refine lv_tableIn (tgt := 606) (off := 574) hx hb dL_law_32 (by rw [w32_14]; decide) (by rw [w32_14]; decide) (by rw [w32_14]; decide) (by decide) ?_
        exact law_14 hx hb hr hml hown hts hX hbl hlocks hE hZ hA hbA hLb i hi5 ad hI hP hD hS hlq (hK9 hi5)
      by_cases w32_15 : x_2 = 15
      · refine lv_tableIn (tgt := 629) (off := 597) hx hb dL_law_32 (by rw [w32_15]; decide) (by rw [w32_15]; decide) (by rw [w32_15]; decide) (by decide) ?_
        exact law_15 hx hb hr hml hown hts hX hbl hlocks hE hZ hA hbA hLb i hi5 ad hI hP hD hS hlq (hK9 hi5)
      by_cases w32_16 : x_2 = 16
      · refine lv_tableIn (tgt := 662) (off := 630) hx hb dL_law_32 (by rw [w32_16]; decide) (by rw [w32_16]; decide) (by rw [w32_16]; decide) (by decide) ?_
        exact law_16 hx hb hr hml hown hts hX hbl hlocks hE hZ hA hbA hLb i hi5 ad hI hP hD hS hlq (hK9 hi5)
      by_cases w32_17 : x_2 = 17
      · refine lv_tableIn (tgt := 695) (off := 663) hx hb dL_law_32 (by rw [w32_17]; decide) (by rw [w32_17]; decide) (by rw [w32_17]; decide) (by decide) ?_
        exact law_17 hx hb hr hml hown hts hX hbl hlocks hE hZ hA hbA hLb i hi5 ad hI hP hD hS hlq (hK9 hi5)
      by_cases w32_18 : x_2 = 18
      · refine lv_tableIn (tgt := 754) (off := 722) hx hb dL_law_32 (by rw [w32_18]; decide) (by rw [w32_18]; decide) (by rw [w32_18]; decide) (by decide) ?_
        exact law_18 hx hb hr hml hown hts hX hbl hlocks hE hZ hA hbA hLb i hi5 ad hI hP hD hS hlq (hK9 hi5)
      by_cases w32_19 : x_2 = 19
      · refine lv_tableIn (tgt := 767) (off := 735) hx hb dL_law_32 (by rw [w32_19]; decide) (by rw [w32_19]; decide) (by rw [w32_19]; decide) (by decide) ?_
        exact law_19 hx hb hr hml hown hts hX hbl hlocks hE hZ hA hbA hLb i hi5 ad hI hP hD hS hlq (hK9 hi5)
      by_cases w32_20 : x_2 = 20
      · refine lv_tableIn (tgt := 810) (off := 778) hx hb dL_law_32 (by rw [w32_20]; decide) (by rw [w32_20]; decide) (by rw [w32_20]; decide) (by decide) ?_
        exact law_20 hx hb hr hml hown hts hX hbl hlocks hE hZ hA hbA hLb i hi5 ad hI hP hD hS hlq (hK9 hi5)
      by_cases w32_21 : x_2 = 21
      · refine lv_tableIn (tgt := 823) (off := 791) hx hb dL_law_32 (by rw [w32_21]; decide) (by rw [w32_21]; decide) (by rw [w32_21]; decide) (by decide) ?_
        exact law_21 hx hb hr hml hown hts hX hbl hlocks hE hZ hA hbA hLb i hi5 ad hI hP hD hS hlq (hK9 hi5)
      by_cases w32_22 : x_2 = 22
      · refine lv_tableIn (tgt := 836) (off := 804) hx hb dL_law_32 (by rw [w32_22]; decide) (by rw [w32_22]; decide) (by rw [w32_22]; decide) (by decide) ?_
        exact law_22 hx hb hr hml hown hts hX hbl hlocks hE hZ hA hbA hLb i hi5 ad hI hP hD hS hlq (hK9 hi5)
      by_cases w32_23 : x_2 = 23
      · refine lv_tableIn (tgt := 859) (off := 827) hx hb dL_law_32 (by rw [w32_23]; decide) (by rw [w32_23]; decide) (by rw [w32_23]; decide) (by decide) ?_
        exact law_23 hx hb hr hml hown hts hX hbl hlocks hE hZ hA hbA hLb i hi5 ad hI hP hD hS hlq (hK9 hi5)
      refine lv_tableOut (tgt := 872) hx hb dL_law_32 (by have q0 := lv_neT w32_0 (show (0 : Int32).toInt = 0 from rfl); have q1 := lv_neT w32_1 (show (1 : Int32).toInt = 1 from rfl); have q2 := lv_neT w32_2 (show (2 : Int32).toInt = 2 from rfl); have q3 := lv_neT w32_3 (show (3 : Int32).toInt = 3 from rfl); have q4 := lv_neT w32_4 (show (4 : Int32).toInt = 4 from rfl); have q5 := lv_neT w32_5 (show (5 : Int32).toInt = 5 from rfl); have q6 := lv_neT w32_6 (show (6 : Int32).toInt = 6 from rfl); have q7 := lv_neT w32_7 (show (7 : Int32).toInt = 7 from rfl); have q8 := lv_neT w32_8 (show (8 : Int32).toInt = 8 from rfl); have q9 := lv_neT w32_9 (show (9 : Int32).toInt = 9 from rfl); have q10 := lv_neT w32_10 (show (10 : Int32).toInt = 10 from rfl); have q11 := lv_neT w32_11 (show (11 : Int32).toInt = 11 from rfl); have q12 := lv_neT w32_12 (show (12 : Int32).toInt = 12 from rfl); have q13 := lv_neT w32_13 (show (13 : Int32).toInt = 13 from rfl); have q14 := lv_neT w32_14 (show (14 : Int32).toInt = 14 from rfl); have q15 := lv_neT w32_15 (show (15 : Int32).toInt = 15 from rfl); have q16 := lv_neT w32_16 (show (16 : Int32).toInt = 16 from rfl); have q17 := lv_neT w32_17 (show (17 : Int32).toInt = 17 from rfl); have q18 := lv_neT w32_18 (show (18 : Int32).toInt = 18 from rfl); have q19 := lv_neT w32_19 (show (19 : Int32).toInt = 19 from rfl); have q20 := lv_neT w32_20 (show (20 : Int32).toInt = 20 from rfl); have q21 := lv_neT w32_21 (show (21 : Int32).toInt = 21 from rfl); have q22 := lv_neT w32_22 (show (22 : Int32).toInt = 22 from rfl); have q23 := lv_neT w32_23 (show (23 : Int32).toInt = 23 from rfl); omega) (by decide) ?_
      exact law_out hx hb hr hml hown hts hX hbl hlocks hE hZ hA hbA hLb i hi5 ad hI hP hD hS hlq (hK9 hi5)

theorem nw_in : ∀ w ∈ nw_list, w ∈ lw_tbl := mem_r _ [101, 107, 167, 170, 191, 197, 226, 268, 290, 295, 496, 543, 545, 550, 557, 559, 565, 579, 583, 598, 604, 605, 608, 649, 650, 738, 753] (by decide +kernel)
set_option maxRecDepth 20000 in
theorem in_COSTS : ∀ j, j < 81 → Cond.eq (.elem (.static "SoundLaws" "COSTS" "[I") (.int (Int32.ofNat j))) (.int (tb_COSTS.getD j 0)) ∈ flatC (Jvm.Cond.and given_1 narrow_1) := by decide +kernel
set_option maxRecDepth 20000 in
theorem ia_COSTS : Cond.arrayOf (.static "SoundLaws" "COSTS" "[I") .int ∈ flatC (Jvm.Cond.and given_1 narrow_1) := by decide +kernel
set_option maxRecDepth 20000 in
theorem il_COSTS : Cond.eq (.length (.static "SoundLaws" "COSTS" "[I")) (.int (Int32.ofNat 81)) ∈ flatC (Jvm.Cond.and given_1 narrow_1) := by decide +kernel
set_option maxRecDepth 20000 in
theorem in_PAIRS : ∀ j, j < 12 → Cond.eq (.elem (.static "SoundLaws" "PAIRS" "[I") (.int (Int32.ofNat j))) (.int (tb_PAIRS.getD j 0)) ∈ flatC (Jvm.Cond.and given_1 narrow_1) := by decide +kernel
set_option maxRecDepth 20000 in
theorem ia_PAIRS : Cond.arrayOf (.static "SoundLaws" "PAIRS" "[I") .int ∈ flatC (Jvm.Cond.and given_1 narrow_1) := by decide +kernel
set_option maxRecDepth 20000 in
theorem il_PAIRS : Cond.eq (.length (.static "SoundLaws" "PAIRS" "[I")) (.int (Int32.ofNat 12)) ∈ flatC (Jvm.Cond.and given_1 narrow_1) := by decide +kernel
set_option maxRecDepth 20000 in
theorem in_FIRST_PAIR : ∀ j, j < 5 → Cond.eq (.elem (.static "SoundLaws" "FIRST_PAIR" "[I") (.int (Int32.ofNat j))) (.int (tb_FIRST_PAIR.getD j 0)) ∈ flatC (Jvm.Cond.and given_1 narrow_1) := by decide +kernel
set_option maxRecDepth 20000 in
theorem ia_FIRST_PAIR : Cond.arrayOf (.static "SoundLaws" "FIRST_PAIR" "[I") .int ∈ flatC (Jvm.Cond.and given_1 narrow_1) := by decide +kernel
set_option maxRecDepth 20000 in
theorem il_FIRST_PAIR : Cond.eq (.length (.static "SoundLaws" "FIRST_PAIR" "[I")) (.int (Int32.ofNat 5)) ∈ flatC (Jvm.Cond.and given_1 narrow_1) := by decide +kernel
set_option maxRecDepth 20000 in
theorem in_WEIGHTS : ∀ j, j < 5 → Cond.eq (.elem (.static "SoundLaws" "WEIGHTS" "[I") (.int (Int32.ofNat j))) (.int (tb_WEIGHTS.getD j 0)) ∈ flatC (Jvm.Cond.and given_1 narrow_1) := by decide +kernel
set_option maxRecDepth 20000 in
theorem ia_WEIGHTS : Cond.arrayOf (.static "SoundLaws" "WEIGHTS" "[I") .int ∈ flatC (Jvm.Cond.and given_1 narrow_1) := by decide +kernel
set_option maxRecDepth 20000 in
theorem il_WEIGHTS : Cond.eq (.length (.static "SoundLaws" "WEIGHTS" "[I")) (.int (Int32.ofNat 5)) ∈ flatC (Jvm.Cond.and given_1 narrow_1) := by decide +kernel
set_option maxRecDepth 20000 in
theorem in_REBUILDS : ∀ j, j < 5 → Cond.eq (.elem (.static "SoundLaws" "REBUILDS" "[I") (.int (Int32.ofNat j))) (.int (tb_REBUILDS.getD j 0)) ∈ flatC (Jvm.Cond.and given_1 narrow_1) := by decide +kernel
set_option maxRecDepth 20000 in
theorem ia_REBUILDS : Cond.arrayOf (.static "SoundLaws" "REBUILDS" "[I") .int ∈ flatC (Jvm.Cond.and given_1 narrow_1) := by decide +kernel
set_option maxRecDepth 20000 in
theorem il_REBUILDS : Cond.eq (.length (.static "SoundLaws" "REBUILDS" "[I")) (.int (Int32.ofNat 5)) ∈ flatC (Jvm.Cond.and given_1 narrow_1) := by decide +kernel
set_option maxHeartbeats 4000000 in
theorem env_at {p : Program} {s : State} {m : MethodId} {meth : Method} {c : Code} {b L : Nat} {xs : Nat → Int32} (C0 : lw_At p s m meth c b L xs) : ∃ g : GG, ek g s ∧ es g (fun q : Nat => s.heap.size ≤ q) s s.heap := by
  obtain ⟨hx, hb, hr, hml, hown, hts, hX, hbl, hlocks, hgv⟩ := id C0
  obtain ⟨c0, iS0, hKn0⟩ := u_known (C := RX0) (T := TX0) (N := 5) (n := 5) hts inX0 (hts (.instantiable RX0 5) (List.mem_of_getElem? (i := 267) (by decide +kernel)))
  obtain ⟨c1, iS1, hKn1⟩ := u_known (C := RX1) (T := TX1) (N := 4) (n := 4) hts inX1 (hts (.instantiable RX1 4) (List.mem_of_getElem? (i := 289) (by decide +kernel)))
  obtain ⟨c2, iS2, hKn2⟩ := u_known (C := RX2) (T := TX2) (N := 6) (n := 6) hts inX2 (hts (.instantiable RX2 6) (List.mem_of_getElem? (i := 196) (by decide +kernel)))
  obtain ⟨c3, iS3, hKn3⟩ := u_known (C := RX3) (T := TX3) (N := 7) (n := 7) hts inX3 (hts (.instantiable RX3 7) (List.mem_of_getElem? (i := 100) (by decide +kernel)))
  obtain ⟨c4, iS4, hKn4⟩ := u_known (C := RX4) (T := TX4) (N := 4) (n := 4) hts inX4 (hts (.instantiable RX4 4) (List.mem_of_getElem? (i := 169) (by decide +kernel)))
  obtain ⟨c5, iS5, hKn5⟩ := u_known (C := RX5) (T := TX5) (N := 5) (n := 5) hts inX5 (hts (.instantiable RX5 5) (List.mem_of_getElem? (i := 106) (by decide +kernel)))
  obtain ⟨c6, iS6, hKn6⟩ := u_known (C := RX6) (T := TX6) (N := 6) (n := 6) hts inX6 (hts (.instantiable RX6 6) (List.mem_of_getElem? (i := 190) (by decide +kernel)))
  obtain ⟨c7, iS7, hKn7⟩ := u_known (C := RX7) (T := TX7) (N := 3) (n := 3) hts inX7 (hts (.instantiable RX7 3) (List.mem_of_getElem? (i := 225) (by decide +kernel)))
  obtain ⟨c8, iS8, hKn8⟩ := u_known (C := RX8) (T := TX8) (N := 13) (n := 13) hts inX8 (hts (.instantiable RX8 13) (List.mem_of_getElem? (i := 92) (by decide +kernel)))
  obtain ⟨c9, iS9, hKn9⟩ := u_known (C := RX9) (T := TX9) (N := 41) (n := 41) hts inX9 (hts (.instantiable RX9 41) (List.mem_of_getElem? (i := 867) (by decide +kernel)))
  obtain ⟨dC, dI, hKc⟩ : ∃ (dC : Nat → ClassId) (dI : Nat → Nat → Nat), ∀ (k : Nat) (q : vw_C), vwCl[k]? = some q → u_Kn s q.1 q.2.1 q.2.2 (dC k) (dI k) := by
    refine ⟨fun k => match k with | 0 => c0 | 1 => c1 | 2 => c2 | 3 => c3 | 4 => c4 | 5 => c5 | 6 => c6 | 7 => c7 | 8 => c8 | _ => c9, fun k => match k with | 0 => iS0 | 1 => iS1 | 2 => iS2 | 3 => iS3 | 4 => iS4 | 5 => iS5 | 6 => iS6 | 7 => iS7 | 8 => iS8 | _ => iS9, ?_⟩
    intro k q hq
    match k, hq with
    | 0, hq => cases hq; exact hKn0
    | 1, hq => cases hq; exact hKn1
    | 2, hq => cases hq; exact hKn2
    | 3, hq => cases hq; exact hKn3
    | 4, hq => cases hq; exact hKn4
    | 5, hq => cases hq; exact hKn5
    | 6, hq => cases hq; exact hKn6
    | 7, hq => cases hq; exact hKn7
    | 8, hq => cases hq; exact hKn8
    | 9, hq => cases hq; exact hKn9
    | k + 10, hq => simp [vwCl] at hq
  obtain ⟨cI, kI, compI, hI1, hI2, hI3⟩ := Cond.arrayClass_spec (hts (.arrayClass .int) (List.mem_of_getElem? (i := 142) (by decide +kernel)))
  obtain ⟨cZ, kZ, compZ, hZ1, hZ2, hZ3⟩ := Cond.arrayClass_spec (hts (.arrayClass .boolean) (List.mem_of_getElem? (i := 188) (by decide +kernel)))
  have hK : va_K (dC, dI) vwCl [(cI, .int), (cZ, .boolean)] s := by
    refine ⟨hKc, fun k q hk => ?_⟩
    match k, hk with
    | 0, hk => cases hk; exact ⟨fun n z => ⟨fun k h => (by cases h), kI, hI2, compI, hI3⟩, hI1⟩
    | 1, hk => cases hk; exact ⟨fun n z => ⟨fun k h => (by cases h), kZ, hZ2, compZ, hZ3⟩, hZ1⟩
    | k + 2, hk => simp at hk
  have hs := flat_of_before _ hgv
  obtain ⟨t0, ht0, hT0⟩ := va_Tof (tm := .static "SoundLaws" "COSTS" "[I") (ty := .int) (N := 81) (f := tf_COSTS) (A := fun q : Nat => s.heap.size ≤ q) (by decide) (hs _ ia_COSTS) (va_eqt (hs _ il_COSTS)) (fun j hj => va_eqt (hs _ (in_COSTS j hj))) (fun a h => Nat.not_le.mpr h)
  have hZ00 : va_Z "SoundLaws" "COSTS" "[I" (.ref t0) (fun q : Nat => s.heap.size ≤ q) s s.heap := va_Zof (hts (.laysStatic "SoundLaws" "COSTS" "[I") (List.mem_of_getElem? (i := 566) (by decide +kernel))) (hts (.initialized "SoundLaws") (List.mem_of_getElem? (i := 72) (by decide +kernel))) ht0 (fun a h => Nat.not_le.mpr h)
  obtain ⟨t1, ht1, hT1⟩ := va_Tof (tm := .static "SoundLaws" "PAIRS" "[I") (ty := .int) (N := 12) (f := tf_PAIRS) (A := fun q : Nat => s.heap.size ≤ q) (by decide) (hs _ ia_PAIRS) (va_eqt (hs _ il_PAIRS)) (fun j hj => va_eqt (hs _ (in_PAIRS j hj))) (fun a h => Nat.not_le.mpr h)
  have hZ11 : va_Z "SoundLaws" "PAIRS" "[I" (.ref t1) (fun q : Nat => s.heap.size ≤ q) s s.heap := va_Zof (hts (.laysStatic "SoundLaws" "PAIRS" "[I") (List.mem_of_getElem? (i := 560) (by decide +kernel))) (hts (.initialized "SoundLaws") (List.mem_of_getElem? (i := 72) (by decide +kernel))) ht1 (fun a h => Nat.not_le.mpr h)
  obtain ⟨t2, ht2, hT2⟩ := va_Tof (tm := .static "SoundLaws" "FIRST_PAIR" "[I") (ty := .int) (N := 5) (f := tf_FIRST_PAIR) (A := fun q : Nat => s.heap.size ≤ q) (by decide) (hs _ ia_FIRST_PAIR) (va_eqt (hs _ il_FIRST_PAIR)) (fun j hj => va_eqt (hs _ (in_FIRST_PAIR j hj))) (fun a h => Nat.not_le.mpr h)
  have hZ22 : va_Z "SoundLaws" "FIRST_PAIR" "[I" (.ref t2) (fun q : Nat => s.heap.size ≤ q) s s.heap := va_Zof (hts (.laysStatic "SoundLaws" "FIRST_PAIR" "[I") (List.mem_of_getElem? (i := 558) (by decide +kernel))) (hts (.initialized "SoundLaws") (List.mem_of_getElem? (i := 72) (by decide +kernel))) ht2 (fun a h => Nat.not_le.mpr h)
  obtain ⟨t3, ht3, hT3⟩ := va_Tof (tm := .static "SoundLaws" "WEIGHTS" "[I") (ty := .int) (N := 5) (f := tf_WEIGHTS) (A := fun q : Nat => s.heap.size ≤ q) (by decide) (hs _ ia_WEIGHTS) (va_eqt (hs _ il_WEIGHTS)) (fun j hj => va_eqt (hs _ (in_WEIGHTS j hj))) (fun a h => Nat.not_le.mpr h)
  have hZ33 : va_Z "SoundLaws" "WEIGHTS" "[I" (.ref t3) (fun q : Nat => s.heap.size ≤ q) s s.heap := va_Zof (hts (.laysStatic "SoundLaws" "WEIGHTS" "[I") (List.mem_of_getElem? (i := 599) (by decide +kernel))) (hts (.initialized "SoundLaws") (List.mem_of_getElem? (i := 72) (by decide +kernel))) ht3 (fun a h => Nat.not_le.mpr h)
  obtain ⟨t4, ht4, hT4⟩ := va_Tof (tm := .static "SoundLaws" "REBUILDS" "[I") (ty := .int) (N := 5) (f := tf_REBUILDS) (A := fun q : Nat => s.heap.size ≤ q) (by decide) (hs _ ia_REBUILDS) (va_eqt (hs _ il_REBUILDS)) (fun j hj => va_eqt (hs _ (in_REBUILDS j hj))) (fun a h => Nat.not_le.mpr h)
  have hZ44 : va_Z "SoundLaws" "REBUILDS" "[I" (.ref t4) (fun q : Nat => s.heap.size ≤ q) s s.heap := va_Zof (hts (.laysStatic "SoundLaws" "REBUILDS" "[I") (List.mem_of_getElem? (i := 544) (by decide +kernel))) (hts (.initialized "SoundLaws") (List.mem_of_getElem? (i := 72) (by decide +kernel))) ht4 (fun a h => Nat.not_le.mpr h)
  exact ⟨((dC, dI), cI, cZ, fun k => match k with | 0 => t0 | 1 => t1 | 2 => t2 | 3 => t3 | _ => t4), ⟨hK, fun w hw => va_Nw.of (nw_tabs w hw) (hts w (nw_in w hw))⟩, hZ00, hT0, hZ11, hT1, hZ22, hT2, hZ33, hT3, hZ44, hT4⟩
theorem lg_self (x : Int64) : lg_cmp x x = 0 := by
  unfold lg_cmp
  rw [if_neg Int64.lt_irrefl, if_pos rfl]
theorem qL_0 : (Cond.classLink RL 7 RX8) ∈ wsL_law := List.mem_of_getElem? (i := 0) (by decide +kernel)
theorem qL_1 : (Cond.instantiable RX8 13) ∈ wsL_law := List.mem_of_getElem? (i := 1) (by decide +kernel)
theorem qL_2 : (Cond.initialized RX8) ∈ wsL_law := List.mem_of_getElem? (i := 2) (by decide +kernel)
theorem qL_6 : (Cond.methodLink RL 9 yX8_init) ∈ wsL_law := List.mem_of_getElem? (i := 6) (by decide +kernel)
theorem qL_7 : (Cond.instanceMethod yX8_init) ∈ wsL_law := List.mem_of_getElem? (i := 7) (by decide +kernel)
theorem qL_3 : (Cond.classLink RL 10 RX9) ∈ wsL_law := List.mem_of_getElem? (i := 3) (by decide +kernel)
theorem qL_4 : (Cond.instantiable RX9 41) ∈ wsL_law := List.mem_of_getElem? (i := 4) (by decide +kernel)
theorem qL_5 : (Cond.initialized RX9) ∈ wsL_law := List.mem_of_getElem? (i := 5) (by decide +kernel)
theorem qL_95 : (Cond.methodLink RL 12 yX9_init) ∈ wsL_law := List.mem_of_getElem? (i := 95) (by decide +kernel)
theorem qL_96 : (Cond.instanceMethod yX9_init) ∈ wsL_law := List.mem_of_getElem? (i := 96) (by decide +kernel)

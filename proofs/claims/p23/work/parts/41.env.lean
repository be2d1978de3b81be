theorem nw_in : ∀ w ∈ nw_list, w ∈ lw_tbl := mem_r _ [101, 107, 167, 170, 191, 197, 226, 268, 290, 295, 496, 543, 545, 550, 557, 559, 565, 579, 583, 598, 604, 605, 608, 649, 650, 738, 753] (by decide +kernel)
set_option maxRecDepth 20000 in
theorem in_COSTS : ∀ j, j < 81 → Cond.eq (.elem (.static "SoundLaws" "COSTS" "[I") (.int (Int32.ofNat j))) (.int (tb_COSTS.getD j 0)) ∈ flatC (Jvm.Cond.and given_1 narrow_1) := by decide +kernel
set_option maxRecDepth 20000 in
theorem ia_COSTS : Cond.arrayOf (.static "SoundLaws" "COSTS" "[I") .int ∈ flatC (Jvm.Cond.and given_1 narrow_1) := by decide +kernel
set_option maxRecDepth 20000 in
theorem il_COSTS : Cond.eq (.length (.static "SoundLaws" "COSTS" "[I")) (.int (Int32.ofNat 81)) ∈ flatC (Jvm.Cond.and given_1 narrow_1) := by decide +kernel
set_option maxRecDepth 20000 in
theorem in_PAIRS : ∀ j, j < 12 → Cond.eq (.elem (.static "SoundLaws" "PAIRS" "[I") (.int (Int32.ofNat j))) (.int (tb_PAIRS.getD j 0)) ∈ flatC (Jvm.Cond.and given_1 narrow_1) := by decide +kernel
set_option maxRecDepth 20000 in
theorem ia_PAIRS : Cond.arrayOf (.static "SoundLaws" "PAIRS" "[I") .int ∈ flatC (Jvm.Cond.and given_1 narrow_1) := by decide +kernel
set_option maxRecDepth 20000 in
theorem il_PAIRS : Cond.eq (.length (.static "SoundLaws" "PAIRS" "[I")) (.int (Int32.ofNat 12)) ∈ flatC (Jvm.Cond.and given_1 narrow_1) := by decide +kernel
set_option maxRecDepth 20000 in
theorem in_FIRST_PAIR : ∀ j, j < 5 → Cond.eq (.elem (.static "SoundLaws" "FIRST_PAIR" "[I") (.int (Int32.ofNat j))) (.int (tb_FIRST_PAIR.getD j 0)) ∈ flatC (Jvm.Cond.and given_1 narrow_1) := by decide +kernel
set_option maxRecDepth 20000 in
theorem ia_FIRST_PAIR : Cond.arrayOf (.static "SoundLaws" "FIRST_PAIR" "[I") .int ∈ flatC (Jvm.Cond.and given_1 narrow_1) := by decide +kernel
set_option maxRecDepth 20000 in
theorem il_FIRST_PAIR : Cond.eq (.length (.static "SoundLaws" "FIRST_PAIR" "[I")) (.int (Int32.ofNat 5)) ∈ flatC (Jvm.Cond.and given_1 narrow_1) := by decide +kernel
set_option maxRecDepth 20000 in
theorem in_WEIGHTS : ∀ j, j < 5 → Cond.eq (.elem (.static "SoundLaws" "WEIGHTS" "[I") (.int (Int32.ofNat j))) (.int (tb_WEIGHTS.getD j 0)) ∈ flatC (Jvm.Cond.and given_1 narrow_1) := by decide +kernel
set_option maxRecDepth 20000 in
theorem ia_WEIGHTS : Cond.arrayOf (.static "SoundLaws" "WEIGHTS" "[I") .int ∈ flatC (Jvm.Cond.and given_1 narrow_1) := by decide +kernel
set_option maxRecDepth 20000 in
theorem il_WEIGHTS : Cond.eq (.length (.static "SoundLaws" "WEIGHTS" "[I")) (.int (Int32.ofNat 5)) ∈ flatC (Jvm.Cond.and given_1 narrow_1) := by decide +kernel
set_option maxRecDepth 20000 in
theorem in_REBUILDS : ∀ j, j < 5 → Cond.eq (.elem (.static "SoundLaws" "REBUILDS" "[I") (.int (Int32.ofNat j))) (.int (tb_REBUILDS.getD j 0)) ∈ flatC (Jvm.Cond.and given_1 narrow_1) := by decide +kernel
set_option maxRecDepth 20000 in
theorem ia_REBUILDS : Cond.arrayOf (.static "SoundLaws" "REBUILDS" "[I") .int ∈ flatC (Jvm.Cond.and given_1 narrow_1) := by decide +kernel
set_option maxRecDepth 20000 in
theorem il_REBUILDS : Cond.eq (.length (.static "SoundLaws" "REBUILDS" "[I")) (.int (Int32.ofNat 5)) ∈ flatC (Jvm.Cond.and given_1 narrow_1) := by decide +kernel
def tmS (i : Nat) : Term := if i = 0 then .string RX3 32 else .string RX3 51
set_option maxRecDepth 20000 in
theorem se_ex : ∀ i, i < 2 → Cond.exactly (tmS i) "java/lang/String" ∈ flatC (Jvm.Cond.and given_1 narrow_1) := by decide +kernel
set_option maxRecDepth 20000 in
theorem se_co : ∀ i, i < 2 → Cond.eq (.field (tmS i) "java/lang/String" "coder" "B") (.int 0) ∈ flatC (Jvm.Cond.and given_1 narrow_1) := by decide +kernel
set_option maxRecDepth 20000 in
theorem se_ar : ∀ i, i < 2 → Cond.arrayOf (.field (tmS i) "java/lang/String" "value" "[B") .byte ∈ flatC (Jvm.Cond.and given_1 narrow_1) := by decide +kernel
set_option maxRecDepth 20000 in
theorem se_le : ∀ i, i < 2 → Cond.eq (.length (.field (tmS i) "java/lang/String" "value" "[B")) (.int (Int32.ofNat (lenS.getD i 0))) ∈ flatC (Jvm.Cond.and given_1 narrow_1) := by decide +kernel
set_option maxRecDepth 20000 in
theorem se_el : ∀ i, i < 2 → ∀ j, j < lenS.getD i 0 → Cond.eq (.elem (.field (tmS i) "java/lang/String" "value" "[B") (.int (Int32.ofNat j))) (.int ((bytS.getD i []).getD j 0)) ∈ flatC (Jvm.Cond.and given_1 narrow_1) := by decide +kernel
set_option maxRecDepth 20000 in
theorem se_ne : Cond.not (Cond.eq (tmS 0) (tmS 1)) ∈ flatC (Jvm.Cond.and given_1 narrow_1) := by decide +kernel
set_option maxRecDepth 20000 in
theorem se_cs : Cond.eq (.static "java/lang/String" "COMPACT_STRINGS" "Z") (.int 1) ∈ flatC (Jvm.Cond.and given_1 narrow_1) := by decide +kernel
set_option maxHeartbeats 4000000 in
theorem env_at {p : Program} {s : State} {m : MethodId} {meth : Method} {c : Code} {b L : Nat} {xs : Nat → Int32} (C0 : lw_At p s m meth c b L xs) : ∃ g : GG, ek g s ∧ es g (fun q : Nat => s.heap.size ≤ q) s s.heap := by
  obtain ⟨hx, hb, hr, hml, hown, hts, hX, hbl, hlocks, hgv⟩ := id C0
  obtain ⟨c0, iS0, hKn0⟩ := u_known (C := RX0) (T := TX0) (N := 5) (n := 5) hts inX0 (hts (.instantiable RX0 5) (List.mem_of_getElem? (i := 267) (by decide +kernel)))
  obtain ⟨c1, iS1, hKn1⟩ := u_known (C := RX1) (T := TX1) (N := 4) (n := 4) hts inX1 (hts (.instantiable RX1 4) (List.mem_of_getElem? (i := 289) (by decide +kernel)))
  obtain ⟨c2, iS2, hKn2⟩ := u_known (C := RX2) (T := TX2) (N := 6) (n := 6) hts inX2 (hts (.instantiable RX2 6) (List.mem_of_getElem? (i := 196) (by decide +kernel)))
  obtain ⟨c3, iS3, hKn3⟩ := u_known (C := RX3) (T := TX3) (N := 7) (n := 7) hts inX3 (hts (.instantiable RX3 7) (List.mem_of_getElem? (i := 100) (by decide +kernel)))
  obtain ⟨c4, iS4, hKn4⟩ := u_known (C := RX4) (T := TX4) (N := 4) (n := 4) hts inX4 (hts (.instantiable RX4 4) (List.mem_of_getElem? (i := 169) (by decide +kernel)))
  obtain ⟨c5, iS5, hKn5⟩ := u_known (C := RX5) (T := TX5) (N := 5) (n := 5) hts inX5 (hts (.instantiable RX5 5) (List.mem_of_getElem? (i := 106) (by decide +kernel)))
  obtain ⟨c6, iS6, hKn6⟩ := u_known (C := RX6) (T := TX6) (N := 6) (n := 6) hts inX6 (hts (.instantiable RX6 6) (List.mem_of_getElem? (i := 190) (by decide +kernel)))
  obtain ⟨c7, iS7, hKn7⟩ := u_known (C := RX7) (T := TX7) (N := 3) (n := 3) hts inX7 (hts (.instantiable RX7 3) (List.mem_of_getElem? (i := 225) (by decide +kernel)))
  obtain ⟨c8, iS8, hKn8⟩ := u_known (C := RX8) (T := TX8) (N := 13) (n := 13) hts inX8 (hts (.instantiable RX8 13) (List.mem_of_getElem? (i := 92) (by decide +kernel)))
  obtain ⟨c9, iS9, hKn9⟩ := u_known (C := RX9) (T := TX9) (N := 41) (n := 41) hts inX9 (hts (.instantiable RX9 41) (List.mem_of_getElem? (i := 867) (by decide +kernel)))
  obtain ⟨dC, dI, hKc⟩ : ∃ (dC : Nat → ClassId) (dI : Nat → Nat → Nat), ∀ (k : Nat) (q : vw_C), vwCl[k]? = some q → u_Kn s q.1 q.2.1 q.2.2 (dC k) (dI k) := by
    refine ⟨fun k => match k with | 0 => c0 | 1 => c1 | 2 => c2 | 3 => c3 | 4 => c4 | 5 => c5 | 6 => c6 | 7 => c7 | 8 => c8 | _ => c9, fun k => match k with | 0 => iS0 | 1 => iS1 | 2 => iS2 | 3 => iS3 | 4 => iS4 | 5 => iS5 | 6 => iS6 | 7 => iS7 | 8 => iS8 | _ => iS9, ?_⟩
    intro k q hq
    match k, hq with
    | 0, hq => cases hq; exact hKn0
    | 1, hq => cases hq; exact hKn1
    | 2, hq => cases hq; exact hKn2
    | 3, hq => cases hq; exact hKn3
    | 4, hq => cases hq; exact hKn4
    | 5, hq => cases hq; exact hKn5
    | 6, hq => cases hq; exact hKn6
    | 7, hq => cases hq; exact hKn7
    | 8, hq => cases hq; exact hKn8
    | 9, hq => cases hq; exact hKn9
    | k + 10, hq => simp [vwCl] at hq
  obtain ⟨cI, kI, compI, hI1, hI2, hI3⟩ := Cond.arrayClass_spec (hts (.arrayClass .int) (List.mem_of_getElem? (i := 142) (by decide +kernel)))
  obtain ⟨cZ, kZ, compZ, hZ1, hZ2, hZ3⟩ := Cond.arrayClass_spec (hts (.arrayClass .boolean) (List.mem_of_getElem? (i := 188) (by decide +kernel)))
  have hK : va_K (dC, dI) vwCl [(cI, .int), (cZ, .boolean)] s := by
    refine ⟨hKc, fun k q hk => ?_⟩
    match k, hk with
    | 0, hk => cases hk; exact ⟨fun n z => ⟨fun k h => (by cases h), kI, hI2, compI, hI3⟩, hI1⟩
    | 1, hk => cases hk; exact ⟨fun n z => ⟨fun k h => (by cases h), kZ, hZ2, compZ, hZ3⟩, hZ1⟩
    | k + 2, hk => simp at hk
  have hs := flat_of_before _ hgv
  obtain ⟨t0, ht0, hT0⟩ := va_Tof (tm := .static "SoundLaws" "COSTS" "[I") (ty := .int) (N := 81) (f := tf_COSTS) (A := fun q : Nat => s.heap.size ≤ q) (by decide) (hs _ ia_COSTS) (va_eqt (hs _ il_COSTS)) (fun j hj => va_eqt (hs _ (in_COSTS j hj))) (fun a h => Nat.not_le.mpr h)
  have hZ00 : va_Z "SoundLaws" "COSTS" "[I" (.ref t0) (fun q : Nat => s.heap.size ≤ q) s s.heap := va_Zof (hts (.laysStatic "SoundLaws" "COSTS" "[I") (List.mem_of_getElem? (i := 566) (by decide +kernel))) (hts (.initialized "SoundLaws") (List.mem_of_getElem? (i := 72) (by decide +kernel))) ht0 (fun a h => Nat.not_le.mpr h)
  obtain ⟨t1, ht1, hT1⟩ := va_Tof (tm := .static "SoundLaws" "PAIRS" "[I") (ty := .int) (N := 12) (f := tf_PAIRS) (A := fun q : Nat => s.heap.size ≤ q) (by decide) (hs _ ia_PAIRS) (va_eqt (hs _ il_PAIRS)) (fun j hj => va_eqt (hs _ (in_PAIRS j hj))) (fun a h => Nat.not_le.mpr h)
  have hZ11 : va_Z "SoundLaws" "PAIRS" "[I" (.ref t1) (fun q : Nat => s.heap.size ≤ q) s s.heap := va_Zof (hts (.laysStatic "SoundLaws" "PAIRS" "[I") (List.mem_of_getElem? (i := 560) (by decide +kernel))) (hts (.initialized "SoundLaws") (List.mem_of_getElem? (i := 72) (by decide +kernel))) ht1 (fun a h => Nat.not_le.mpr h)
  obtain ⟨t2, ht2, hT2⟩ := va_Tof (tm := .static "SoundLaws" "FIRST_PAIR" "[I") (ty := .int) (N := 5) (f := tf_FIRST_PAIR) (A := fun q : Nat => s.heap.size ≤ q) (by decide) (hs _ ia_FIRST_PAIR) (va_eqt (hs _ il_FIRST_PAIR)) (fun j hj => va_eqt (hs _ (in_FIRST_PAIR j hj))) (fun a h => Nat.not_le.mpr h)
  have hZ22 : va_Z "SoundLaws" "FIRST_PAIR" "[I" (.ref t2) (fun q : Nat => s.heap.size ≤ q) s s.heap := va_Zof (hts (.laysStatic "SoundLaws" "FIRST_PAIR" "[I") (List.mem_of_getElem? (i := 558) (by decide +kernel))) (hts (.initialized "SoundLaws") (List.mem_of_getElem? (i := 72) (by decide +kernel))) ht2 (fun a h => Nat.not_le.mpr h)
  obtain ⟨t3, ht3, hT3⟩ := va_Tof (tm := .static "SoundLaws" "WEIGHTS" "[I") (ty := .int) (N := 5) (f := tf_WEIGHTS) (A := fun q : Nat => s.heap.size ≤ q) (by decide) (hs _ ia_WEIGHTS) (va_eqt (hs _ il_WEIGHTS)) (fun j hj => va_eqt (hs _ (in_WEIGHTS j hj))) (fun a h => Nat.not_le.mpr h)
  have hZ33 : va_Z "SoundLaws" "WEIGHTS" "[I" (.ref t3) (fun q : Nat => s.heap.size ≤ q) s s.heap := va_Zof (hts (.laysStatic "SoundLaws" "WEIGHTS" "[I") (List.mem_of_getElem? (i := 599) (by decide +kernel))) (hts (.initialized "SoundLaws") (List.mem_of_getElem? (i := 72) (by decide +kernel))) ht3 (fun a h => Nat.not_le.mpr h)
  obtain ⟨t4, ht4, hT4⟩ := va_Tof (tm := .static "SoundLaws" "REBUILDS" "[I") (ty := .int) (N := 5) (f := tf_REBUILDS) (A := fun q : Nat => s.heap.size ≤ q) (by decide) (hs _ ia_REBUILDS) (va_eqt (hs _ il_REBUILDS)) (fun j hj => va_eqt (hs _ (in_REBUILDS j hj))) (fun a h => Nat.not_le.mpr h)
  have hZ44 : va_Z "SoundLaws" "REBUILDS" "[I" (.ref t4) (fun q : Nat => s.heap.size ≤ q) s s.heap := va_Zof (hts (.laysStatic "SoundLaws" "REBUILDS" "[I") (List.mem_of_getElem? (i := 544) (by decide +kernel))) (hts (.initialized "SoundLaws") (List.mem_of_getElem? (i := 72) (by decide +kernel))) ht4 (fun a h => Nat.not_le.mpr h)
  have hZc : va_Z "java/lang/String" "COMPACT_STRINGS" "Z" (.int 1) (fun q : Nat => s.heap.size ≤ q) s s.heap := va_Zof (hts (.laysStatic "java/lang/String" "COMPACT_STRINGS" "Z") (List.mem_of_getElem? (i := 390) (by decide +kernel))) (hts (.initialized "java/lang/String") (List.mem_of_getElem? (i := 82) (by decide +kernel))) (va_eqt (hs _ se_cs)) (fun a h => Nat.not_le.mpr h)
  obtain ⟨aK, aV, hSS, hev⟩ := vk_Sof (N := 2) (tm := tmS) (len := lenS) (byt := bytS) (A := fun q : Nat => s.heap.size ≤ q) (args := #[Value.ref b]) (s := s) (fun i hi => by match i, hi with | 0, _ => decide | 1, _ => decide) (fun i hi => hs _ (se_ex i hi)) (fun i hi => hs _ (se_co i hi)) (fun i hi => hs _ (se_ar i hi)) (fun i hi => hs _ (se_le i hi)) (fun i hi j hj => hs _ (se_el i hi j hj)) (fun i j hi hj hij => by
    match i, j, hi, hj with
    | 0, 0, _, _ => exact absurd rfl hij
    | 0, 1, _, _ => exact Or.inl (hs _ se_ne)
    | 1, 0, _, _ => exact Or.inr (hs _ se_ne)
    | 1, 1, _, _ => exact absurd rfl hij) (fun a h => Nat.not_le.mpr h)
  have hS2 : vk_S 2 lenS bytS (fun i => (fun k : Nat => match k with | 0 => t0 | 1 => t1 | 2 => t2 | 3 => t3 | 4 => t4 | 5 => aK 0 | 6 => aK 1 | 7 => aV 0 | _ => aV 1) (5 + i)) (fun i => (fun k : Nat => match k with | 0 => t0 | 1 => t1 | 2 => t2 | 3 => t3 | 4 => t4 | 5 => aK 0 | 6 => aK 1 | 7 => aV 0 | _ => aV 1) (7 + i)) (fun q : Nat => s.heap.size ≤ q) s s.heap := by
    refine ⟨fun i hi => ?_, fun i j hi hj hij => ?_⟩
    · match i, hi with
      | 0, _ => exact hSS.1 0 (by decide)
      | 1, _ => exact hSS.1 1 (by decide)
    · match i, j, hi, hj, hij with
      | 0, 0, _, _, _ => rfl
      | 0, 1, _, _, q => exact absurd (hSS.2 0 1 (by decide) (by decide) q) (by decide)
      | 1, 0, _, _, q => exact absurd (hSS.2 1 0 (by decide) (by decide) q) (by decide)
      | 1, 1, _, _, _ => rfl
  exact ⟨((dC, dI), cI, cZ, fun k => match k with | 0 => t0 | 1 => t1 | 2 => t2 | 3 => t3 | 4 => t4 | 5 => aK 0 | 6 => aK 1 | 7 => aV 0 | _ => aV 1), ⟨hK, fun w hw => va_Nw.of (nw_tabs w hw) (hts w (nw_in w hw)), vk_R.of (hts (.stringRef RX3 32 "wncld") (List.mem_of_getElem? (i := 376) (by decide +kernel))) (hev 0 (by decide)), vk_R.of (hts (.stringRef RX3 51 ".aeoptksf") (List.mem_of_getElem? (i := 491) (by decide +kernel))) (hev 1 (by decide))⟩, hZ00, hT0, hZ11, hT1, hZ22, hT2, hZ33, hT3, hZ44, hT4, hZc, hS2⟩
theorem lg_self (x : Int64) : lg_cmp x x = 0 := by
  unfold lg_cmp
  rw [if_neg Int64.lt_irrefl, if_pos rfl]
theorem lw5 : ∀ L, L < 5 → ∀ i, i < 5 → Int32.ofNat L - 5 < nI i := by decide
theorem nlt5 {i L : Nat} (hi : i ≤ L) (hL : L ≤ 2560) (h : ¬ Int32.ofNat L - 5 < nI i) : i + 5 ≤ L := by
  rcases Nat.lt_or_ge L 5 with q | q
  · exact absurd (lw5 L q i (by omega)) h
  · have e : Int32.ofNat L - 5 = nI (L - 5) := pk_sub (a := L) (b := 5) q
    rw [e] at h
    exact Nat.not_lt.mp (fun w => h (nI_lt (by omega) (by omega)))
theorem qL_0 : (Cond.classLink RL 7 RX8) ∈ wsL_law := List.mem_of_getElem? (i := 0) (by decide +kernel)
theorem qL_1 : (Cond.instantiable RX8 13) ∈ wsL_law := List.mem_of_getElem? (i := 1) (by decide +kernel)
theorem qL_2 : (Cond.initialized RX8) ∈ wsL_law := List.mem_of_getElem? (i := 2) (by decide +kernel)
theorem qL_3 : (Cond.methodLink RL 9 yX8_init) ∈ wsL_law := List.mem_of_getElem? (i := 3) (by decide +kernel)
theorem qL_4 : (Cond.instanceMethod yX8_init) ∈ wsL_law := List.mem_of_getElem? (i := 4) (by decide +kernel)
theorem qL_5 : (Cond.classLink RL 10 RX9) ∈ wsL_law := List.mem_of_getElem? (i := 5) (by decide +kernel)
theorem qL_6 : (Cond.instantiable RX9 41) ∈ wsL_law := List.mem_of_getElem? (i := 6) (by decide +kernel)
theorem qL_7 : (Cond.initialized RX9) ∈ wsL_law := List.mem_of_getElem? (i := 7) (by decide +kernel)
theorem qL_8 : (Cond.methodLink RL 12 yX9_init) ∈ wsL_law := List.mem_of_getElem? (i := 8) (by decide +kernel)
theorem qL_9 : (Cond.instanceMethod yX9_init) ∈ wsL_law := List.mem_of_getElem? (i := 9) (by decide +kernel)
def INV (g : GG) (ad : Nat → Nat) (i : Nat) (w : va_W) : Prop := ∃ (N : Nat → Nat) (J : Nat → Int32) (F : Nat → Nat → Int32) (x40 : Int64), w = [((ad 0), .inr (8, [.ref (ad 1), .int (nI (N 0)), .ref (ad 2), .int (J 0), .ref (ad 7), .ref (ad 11), .ref (ad 15), .int (J 1), .ref (ad 27), .ref (ad 31), .int (J 2), .ref (ad 35), .ref (ad 39)])), ((ad 1), ai g 110 (F 0)), ((ad 2), .inr (3, [.ref (ad 3), .int (nI (N 1)), .int (nI (N 2)), .int (nI (N 3)), .int (nI (N 4)), .int (nI (N 5)), .int (nI (N 6))])), ((ad 3), .inr (5, [.int (nI (N 7)), .int (nI (N 8)), .ref (ad 4), .ref (ad 5), .ref (ad 6)])), ((ad 4), ai g 6 (F 1)), ((ad 5), ai g 6 (F 2)), ((ad 6), ai g 96 (F 3)), ((ad 7), .inr (5, [.int (nI (N 9)), .int (nI (N 10)), .ref (ad 8), .ref (ad 9), .ref (ad 10)])), ((ad 8), ai g 6 (F 4)), ((ad 9), ai g 6 (F 5)), ((ad 10), ai g 96 (F 6)), ((ad 11), .inr (4, [.int (nI (N 11)), .ref (ad 12), .ref (ad 13), .ref (ad 14)])), ((ad 12), ai g 6 (F 7)), ((ad 13), ai g 6 (F 8)), ((ad 14), az g 6 (F 9)), ((ad 15), .inr (6, [.ref (ad 16), .ref (ad 17), .ref (ad 18), .ref (ad 19), .int (J 3), .ref (ad 24)])), ((ad 16), ai g 168 (F 10)), ((ad 17), ai g 6 (F 11)), ((ad 18), ai g 24 (F 12)), ((ad 19), .inr (2, [.ref (ad 20), .ref (ad 21), .ref (ad 22), .int (J 4), .int (J 5), .ref (ad 23)])), ((ad 20), ai g 72 (F 13)), ((ad 21), ai g 72 (F 14)), ((ad 22), ai g 72 (F 15)), ((ad 23), ai g 648 (F 16)), ((ad 24), .inr (7, [.int (J 6), .ref (ad 25), .ref (ad 26)])), ((ad 25), ai g 7 (F 17)), ((ad 26), ai g 63 (F 18)), ((ad 27), .inr (5, [.int (nI (N 12)), .int (nI (N 13)), .ref (ad 28), .ref (ad 29), .ref (ad 30)])), ((ad 28), ai g 6 (F 19)), ((ad 29), ai g 6 (F 20)), ((ad 30), ai g 96 (F 21)), ((ad 31), .inr (4, [.int (nI (N 14)), .ref (ad 32), .ref (ad 33), .ref (ad 34)])), ((ad 32), ai g 6 (F 22)), ((ad 33), ai g 6 (F 23)), ((ad 34), az g 6 (F 24)), ((ad 35), .inr (0, [.ref (ad 36), .ref (ad 37), .int (J 7), .int (J 8), .ref (ad 38)])), ((ad 36), ai g 4 (F 25)), ((ad 37), ai g 4 (F 26)), ((ad 38), ai g 5 (F 27)), ((ad 39), .inr (1, [.int (J 9), .int (J 10), .int (J 11), .ref (ad 40)])), ((ad 40), .inr (7, [.int (J 12), .ref (ad 41), .ref (ad 42)])), ((ad 41), ai g 7 (F 28)), ((ad 42), ai g 63 (F 29)), ((ad 43), .inr (9, [.ref (ad 44), .int (nI (N 0)), .int (J 13), .int (J 14), .int (J 15), .int (J 16), .int (J 17), .ref (ad 45), .ref (ad 46), .ref (ad 47), .int (nI (N 9)), .int (nI (N 10)), .int (J 0), .ref (ad 48), .ref (ad 49), .ref (ad 50), .int (J 18), .ref (ad 51), .ref (ad 52), .ref (ad 53), .ref (ad 54), .ref (ad 55), .ref (ad 56), .ref (ad 57), .ref (ad 58), .ref (ad 59), .ref (ad 60), .ref (ad 61), .ref (ad 62), .int (nI (N 11)), .ref (ad 63), .int (J 19), .int (J 20), .int (nI (N 15)), .int (nI (N 16)), .int (nI (N 17)), .ref (ad 64), .ref (ad 65), .ref (ad 66), .ref (ad 67), .long x40])), ((ad 44), ai g 110 (F 0)), ((ad 45), ai g 5 (F 30)), ((ad 46), ai g 5 (F 31)), ((ad 47), ai g 80 (F 32)), ((ad 48), ai g 6 (F 33)), ((ad 49), ai g 6 (F 34)), ((ad 50), ai g 96 (F 35)), ((ad 51), ai g 63 (F 36)), ((ad 52), ai g 7 (F 37)), ((ad 53), ai g 4 (F 38)), ((ad 54), ai g 168 (F 39)), ((ad 55), ai g 6 (F 40)), ((ad 56), ai g 72 (F 41)), ((ad 57), ai g 72 (F 42)), ((ad 58), ai g 72 (F 43)), ((ad 59), ai g 9 (F 44)), ((ad 60), ai g 4 (F 45)), ((ad 61), ai g 4 (F 46)), ((ad 62), ai g 25 (F 47)), ((ad 63), ai g 18 (F 48)), ((ad 64), ai g 6 (F 49)), ((ad 65), ai g 6 (F 50)), ((ad 66), ai g 96 (F 51)), ((ad 67), ai g 18 (F 52))] ∧ ((N 0) ≤ 110) ∧ (pgr (N 0) (F 0)) ∧ (RI ((N 1), (N 2), (N 3), (N 4), (N 5), (N 6), (N 7), (N 8), (F 1), (F 2), (F 3))) ∧ (gst (N 9) (N 10) (F 4) (F 5) (F 6)) ∧ (rng 168 9 (F 10)) ∧ (rng 7 9 (F 17)) ∧ ((N 11) ≤ 6) ∧ (∀ i, i < (N 11) → vp_nar .boolean ((F 9) i) = (F 9) i) ∧ (gst (N 12) (N 13) (F 19) (F 20) (F 21)) ∧ ((N 14) ≤ 6) ∧ (∀ i, i < (N 14) → vp_nar .boolean ((F 24) i) = (F 24) i) ∧ (rng 4 9 (F 25)) ∧ (rng 4 9 (F 26)) ∧ (∀ k, k < 5 → (F 30) k = (F 1) k) ∧ (∀ i, i < 80 → (F 32) i = (F 3) i) ∧ (rng 7 9 (F 37)) ∧ (gst (N 15) (N 16) (F 49) (F 50) (F 51)) ∧ ((N 17) ≤ 6) ∧ (gst (N 9) (N 10) (F 33) (F 34) (F 35)) ∧ ((J 18) = 0 → FR (N 9) (N 10) (F 33) (F 34) (F 39)) ∧ (EQs (N 9) (N 10) (F 4) (F 5) (F 6) (F 33) (F 34) (F 35)) ∧ (KPs (J 2) (J 20) (J 0) (N 12) (N 13) (N 14) (N 15) (N 16) (N 17) (F 19) (F 20) (F 21) (F 49) (F 50) (F 51)) ∧ (REs (J 0) (J 20) i)
theorem gst_0 : gst 0 0 (fun _ => 0) (fun _ => 0) (fun _ => 0) := ⟨by omega, fun h => absurd h (Nat.lt_irrefl 0), by omega, rng_0 (by decide), rng_0 (by decide), rng_0 (by decide)⟩

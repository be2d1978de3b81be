def po_X5_init (g : GG) (h0 : Nat) : va_W → Prop := fun w => ∃ (q1 : Nat) (q2 : Nat) (q3 : Nat), w = [(h0, .inr (5, [.int 0, .int 0, .ref q1, .ref q2, .ref q3])), (q1, ai g 6 (fun _ => 0)), (q2, ai g 6 (fun _ => 0)), (q3, ai g 96 (fun _ => 0))]
theorem q_X5_init_0 : (Cond.methodLink RX5 3 objectInit) ∈ wsX5_init := by decide +kernel
theorem q_X5_init_1 : (Cond.instanceMethod objectInit) ∈ wsX5_init := by decide +kernel
theorem q_X5_init_2 : (Cond.code objectInit ⟨#[0xb1]⟩ 1 none) ∈ wsX5_init := by decide +kernel
theorem q_X5_init_3 : (Cond.arrayClass .int) ∈ wsX5_init := by decide +kernel
theorem q_X5_init_f5 : ∀ w ∈ u_ws RX5 TX5 5, w ∈ wsX5_init := by decide +kernel
theorem q_X5_init_5 : (Cond.fieldLink RX5 9 "SoundLaws$Stock" "kinds" "[I") ∈ wsX5_init := by decide +kernel
theorem q_X5_init_6 : (Cond.fieldLink RX5 15 "SoundLaws$Stock" "lengths" "[I") ∈ wsX5_init := by decide +kernel
theorem q_X5_init_7 : (Cond.fieldLink RX5 18 "SoundLaws$Stock" "words" "[I") ∈ wsX5_init := by decide +kernel
set_option maxHeartbeats 1500000 in
set_option maxRecDepth 100000 in
theorem c_X5_init (l : Launch) (g : GG) (h0 : Nat)  (sz : Nat) : MetV l yX5_init wsX5_init ({ frames := 1, cells := 3, slots := 108, locals := 12 }) g [.ref h0] [(h0, .inr (5, [.int 0, .int 0, .null, .null, .null]))] sz (po_X5_init g h0) 3 108 := by
  refine k_of (l := l) (y := yX5_init) (ws := wsX5_init) (rm := { frames := 1, cells := 3, slots := 108, locals := 12 }) (mc := 3) (ms := 108) (av := [.ref h0]) (g := g) (wc := [(h0, .inr (5, [.int 0, .int 0, .null, .null, .null]))]) (Qc := fun A => va_Qv (po_X5_init g h0) (bk g A) A) (cc := cX5_init) (maxL := 1) (ret := none) (by decide) rfl (Nat.le_of_ble_eq_true rfl) ?_ sz
  intro p e s m below meth c hx hb hr hts hown hlocks hnm hml A hA hE hZ hP hD hS ls hl
  have hown : s.vm.findClass RX5 = some m.cls := hown
  have hl : lv_has ls 1 [(0, .ref h0)] := hl
  refine lv_aload_n hx hb dX5_init_0 rfl (lv_at hl 0 rfl) ?_
  refine W.objInit hx hb hown (hts (.methodLink RX5 3 objectInit) q_X5_init_0) (hts (.instanceMethod objectInit) q_X5_init_1) (hts (.code objectInit ⟨#[0xb1]⟩ 1 none) q_X5_init_2) rfl (by rw [hml]; exact hl.1) rfl dX5_init_1 (Nat.le_of_ble_eq_true rfl) (Nat.le_of_ble_eq_true rfl) ?_
  refine W.eq (g2 := F0 m 4 ls []) rfl ?_
  refine lv_aload_n hx hb dX5_init_4 rfl (lv_at hl 0 rfl) ?_
  refine lv_bipush (v := 6) hx hb dX5_init_5 (by decide) ?_
  refine k_newi 6 hx hb (hts (.arrayClass .int) q_X5_init_3) hE hP hD hS hA (by decide) (by decide) (by decide) (Nat.le_of_ble_eq_true rfl) (Nat.le_of_ble_eq_true rfl) dX5_init_7 (fun q_1 H hP hD hS => ?_)
  have hP : va_P g.1 vwCl [(h0, .inr (5, [.int 0, .int 0, .null, .null, .null])), (q_1, ai g 6 (fun _ => 0))] H := hP
  have hD : va_D A [(h0, .inr (5, [.int 0, .int 0, .null, .null, .null])), (q_1, ai g 6 (fun _ => 0))] := hD
  refine W.widen (k := 1) (n := 6) (Nat.le_of_ble_eq_true rfl) (Nat.le_of_ble_eq_true rfl) ?_
  refine va_putF (D := g.1) (ci := 5) (v := .ref q_1) (ty := .array .int) (C := RX5) (T := TX5) (N := 5) hx hb hts q_X5_init_f5 tyX5 tyX5_ok nmX5 hown hE.1 hP hD hS 0 rfl rfl 2 (by decide) (hts (.fieldLink RX5 9 "SoundLaws$Stock" "kinds" "[I") q_X5_init_5) (fun _ h9 => h9) rfl hnm rfl (by decide +kernel) rfl rfl (Nat.le_of_ble_eq_true rfl) dX5_init_9 (fun H locs hP hD hS => ?_)
  have hP : va_P g.1 vwCl [(h0, .inr (5, [.int 0, .int 0, .ref q_1, .null, .null])), (q_1, ai g 6 (fun _ => 0))] H := hP
  have hD : va_D A [(h0, .inr (5, [.int 0, .int 0, .ref q_1, .null, .null])), (q_1, ai g 6 (fun _ => 0))] := hD
  refine lv_aload_n hx hb dX5_init_12 rfl (lv_at hl 0 rfl) ?_
  refine lv_bipush (v := 6) hx hb dX5_init_13 (by decide) ?_
  refine k_newi 6 hx hb (hts (.arrayClass .int) q_X5_init_3) hE hP hD hS hA (by decide) (by decide) (by decide) (Nat.le_of_ble_eq_true rfl) (Nat.le_of_ble_eq_true rfl) dX5_init_15 (fun q_2 H hP hD hS => ?_)
  have hP : va_P g.1 vwCl [(h0, .inr (5, [.int 0, .int 0, .ref q_1, .null, .null])), (q_1, ai g 6 (fun _ => 0)), (q_2, ai g 6 (fun _ => 0))] H := hP
  have hD : va_D A [(h0, .inr (5, [.int 0, .int 0, .ref q_1, .null, .null])), (q_1, ai g 6 (fun _ => 0)), (q_2, ai g 6 (fun _ => 0))] := hD
  refine W.widen (k := 2) (n := 12) (Nat.le_of_ble_eq_true rfl) (Nat.le_of_ble_eq_true rfl) ?_
  refine va_putF (D := g.1) (ci := 5) (v := .ref q_2) (ty := .array .int) (C := RX5) (T := TX5) (N := 5) hx hb hts q_X5_init_f5 tyX5 tyX5_ok nmX5 hown hE.1 hP hD hS 0 rfl rfl 3 (by decide) (hts (.fieldLink RX5 15 "SoundLaws$Stock" "lengths" "[I") q_X5_init_6) (fun _ h9 => h9) rfl hnm rfl (by decide +kernel) rfl rfl (Nat.le_of_ble_eq_true rfl) dX5_init_17 (fun H locs hP hD hS => ?_)
  have hP : va_P g.1 vwCl [(h0, .inr (5, [.int 0, .int 0, .ref q_1, .ref q_2, .null])), (q_1, ai g 6 (fun _ => 0)), (q_2, ai g 6 (fun _ => 0))] H := hP
  have hD : va_D A [(h0, .inr (5, [.int 0, .int 0, .ref q_1, .ref q_2, .null])), (q_1, ai g 6 (fun _ => 0)), (q_2, ai g 6 (fun _ => 0))] := hD
  refine lv_aload_n hx hb dX5_init_20 rfl (lv_at hl 0 rfl) ?_
  refine lv_bipush (v := 96) hx hb dX5_init_21 (by decide) ?_
  refine k_newi 96 hx hb (hts (.arrayClass .int) q_X5_init_3) hE hP hD hS hA (by decide) (by decide) (by decide) (Nat.le_of_ble_eq_true rfl) (Nat.le_of_ble_eq_true rfl) dX5_init_23 (fun q_3 H hP hD hS => ?_)
  have hP : va_P g.1 vwCl [(h0, .inr (5, [.int 0, .int 0, .ref q_1, .ref q_2, .null])), (q_1, ai g 6 (fun _ => 0)), (q_2, ai g 6 (fun _ => 0)), (q_3, ai g 96 (fun _ => 0))] H := hP
  have hD : va_D A [(h0, .inr (5, [.int 0, .int 0, .ref q_1, .ref q_2, .null])), (q_1, ai g 6 (fun _ => 0)), (q_2, ai g 6 (fun _ => 0)), (q_3, ai g 96 (fun _ => 0))] := hD
  refine W.widen (k := 3) (n := 108) (Nat.le_of_ble_eq_true rfl) (Nat.le_of_ble_eq_true rfl) ?_
  refine va_putF (D := g.1) (ci := 5) (v := .ref q_3) (ty := .array .int) (C := RX5) (T := TX5) (N := 5) hx hb hts q_X5_init_f5 tyX5 tyX5_ok nmX5 hown hE.1 hP hD hS 0 rfl rfl 4 (by decide) (hts (.fieldLink RX5 18 "SoundLaws$Stock" "words" "[I") q_X5_init_7) (fun _ h9 => h9) rfl hnm rfl (by decide +kernel) rfl rfl (Nat.le_of_ble_eq_true rfl) dX5_init_25 (fun H locs hP hD hS => ?_)
  have hP : va_P g.1 vwCl [(h0, .inr (5, [.int 0, .int 0, .ref q_1, .ref q_2, .ref q_3])), (q_1, ai g 6 (fun _ => 0)), (q_2, ai g 6 (fun _ => 0)), (q_3, ai g 96 (fun _ => 0))] H := hP
  have hD : va_D A [(h0, .inr (5, [.int 0, .int 0, .ref q_1, .ref q_2, .ref q_3])), (q_1, ai g 6 (fun _ => 0)), (q_2, ai g 6 (fun _ => 0)), (q_3, ai g 96 (fun _ => 0))] := hD
  refine W.widen (k := 3) (n := 108) (Nat.le_of_ble_eq_true rfl) (Nat.le_of_ble_eq_true rfl) ?_
  exact k_rv hx hb hr hlocks hS hP hD ⟨q_1, q_2, q_3, rfl⟩ dX5_init_28
def po_X4_init (g : GG) (h0 : Nat) : va_W → Prop := fun w => ∃ (q1 : Nat) (q2 : Nat) (q3 : Nat), w = [(h0, .inr (4, [.int 0, .ref q1, .ref q2, .ref q3])), (q1, ai g 6 (fun _ => 0)), (q2, ai g 6 (fun _ => 0)), (q3, az g 6 (fun _ => 0))]
theorem q_X4_init_0 : (Cond.methodLink RX4 3 objectInit) ∈ wsX4_init := by decide +kernel
theorem q_X4_init_1 : (Cond.instanceMethod objectInit) ∈ wsX4_init := by decide +kernel
theorem q_X4_init_2 : (Cond.code objectInit ⟨#[0xb1]⟩ 1 none) ∈ wsX4_init := by decide +kernel
theorem q_X4_init_3 : (Cond.arrayClass .int) ∈ wsX4_init := by decide +kernel
theorem q_X4_init_f4 : ∀ w ∈ u_ws RX4 TX4 4, w ∈ wsX4_init := by decide +kernel
theorem q_X4_init_5 : (Cond.fieldLink RX4 9 "SoundLaws$Sightings" "sets" "[I") ∈ wsX4_init := by decide +kernel
theorem q_X4_init_6 : (Cond.fieldLink RX4 15 "SoundLaws$Sightings" "questions" "[I") ∈ wsX4_init := by decide +kernel
theorem q_X4_init_7 : (Cond.arrayClass .boolean) ∈ wsX4_init := by decide +kernel
theorem q_X4_init_8 : (Cond.fieldLink RX4 18 "SoundLaws$Sightings" "answers" "[Z") ∈ wsX4_init := by decide +kernel
set_option maxHeartbeats 1500000 in
set_option maxRecDepth 100000 in
theorem c_X4_init (l : Launch) (g : GG) (h0 : Nat)  (sz : Nat) : MetV l yX4_init wsX4_init ({ frames := 1, cells := 3, slots := 18, locals := 12 }) g [.ref h0] [(h0, .inr (4, [.int 0, .null, .null, .null]))] sz (po_X4_init g h0) 3 18 := by
  refine k_of (l := l) (y := yX4_init) (ws := wsX4_init) (rm := { frames := 1, cells := 3, slots := 18, locals := 12 }) (mc := 3) (ms := 18) (av := [.ref h0]) (g := g) (wc := [(h0, .inr (4, [.int 0, .null, .null, .null]))]) (Qc := fun A => va_Qv (po_X4_init g h0) (bk g A) A) (cc := cX4_init) (maxL := 1) (ret := none) (by decide) rfl (Nat.le_of_ble_eq_true rfl) ?_ sz
  intro p e s m below meth c hx hb hr hts hown hlocks hnm hml A hA hE hZ hP hD hS ls hl
  have hown : s.vm.findClass RX4 = some m.cls := hown
  have hl : lv_has ls 1 [(0, .ref h0)] := hl
  refine lv_aload_n hx hb dX4_init_0 rfl (lv_at hl 0 rfl) ?_
  refine W.objInit hx hb hown (hts (.methodLink RX4 3 objectInit) q_X4_init_0) (hts (.instanceMethod objectInit) q_X4_init_1) (hts (.code objectInit ⟨#[0xb1]⟩ 1 none) q_X4_init_2) rfl (by rw [hml]; exact hl.1) rfl dX4_init_1 (Nat.le_of_ble_eq_true rfl) (Nat.le_of_ble_eq_true rfl) ?_
  refine W.eq (g2 := F0 m 4 ls []) rfl ?_
  refine lv_aload_n hx hb dX4_init_4 rfl (lv_at hl 0 rfl) ?_
  refine lv_bipush (v := 6) hx hb dX4_init_5 (by decide) ?_
  refine k_newi 6 hx hb (hts (.arrayClass .int) q_X4_init_3) hE hP hD hS hA (by decide) (by decide) (by decide) (Nat.le_of_ble_eq_true rfl) (Nat.le_of_ble_eq_true rfl) dX4_init_7 (fun q_1 H hP hD hS => ?_)
  have hP : va_P g.1 vwCl [(h0, .inr (4, [.int 0, .null, .null, .null])), (q_1, ai g 6 (fun _ => 0))] H := hP
  have hD : va_D A [(h0, .inr (4, [.int 0, .null, .null, .null])), (q_1, ai g 6 (fun _ => 0))] := hD
  refine W.widen (k := 1) (n := 6) (Nat.le_of_ble_eq_true rfl) (Nat.le_of_ble_eq_true rfl) ?_
  refine va_putF (D := g.1) (ci := 4) (v := .ref q_1) (ty := .array .int) (C := RX4) (T := TX4) (N := 4) hx hb hts q_X4_init_f4 tyX4 tyX4_ok nmX4 hown hE.1 hP hD hS 0 rfl rfl 1 (by decide) (hts (.fieldLink RX4 9 "SoundLaws$Sightings" "sets" "[I") q_X4_init_5) (fun _ h9 => h9) rfl hnm rfl (by decide +kernel) rfl rfl (Nat.le_of_ble_eq_true rfl) dX4_init_9 (fun H locs hP hD hS => ?_)
  have hP : va_P g.1 vwCl [(h0, .inr (4, [.int 0, .ref q_1, .null, .null])), (q_1, ai g 6 (fun _ => 0))] H := hP
  have hD : va_D A [(h0, .inr (4, [.int 0, .ref q_1, .null, .null])), (q_1, ai g 6 (fun _ => 0))] := hD
  refine lv_aload_n hx hb dX4_init_12 rfl (lv_at hl 0 rfl) ?_
  refine lv_bipush (v := 6) hx hb dX4_init_13 (by decide) ?_
  refine k_newi 6 hx hb (hts (.arrayClass .int) q_X4_init_3) hE hP hD hS hA (by decide) (by decide) (by decide) (Nat.le_of_ble_eq_true rfl) (Nat.le_of_ble_eq_true rfl) dX4_init_15 (fun q_2 H hP hD hS => ?_)
  have hP : va_P g.1 vwCl [(h0, .inr (4, [.int 0, .ref q_1, .null, .null])), (q_1, ai g 6 (fun _ => 0)), (q_2, ai g 6 (fun _ => 0))] H := hP
  have hD : va_D A [(h0, .inr (4, [.int 0, .ref q_1, .null, .null])), (q_1, ai g 6 (fun _ => 0)), (q_2, ai g 6 (fun _ => 0))] := hD
  refine W.widen (k := 2) (n := 12) (Nat.le_of_ble_eq_true rfl) (Nat.le_of_ble_eq_true rfl) ?_
  refine va_putF (D := g.1) (ci := 4) (v := .ref q_2) (ty := .array .int) (C := RX4) (T := TX4) (N := 4) hx hb hts q_X4_init_f4 tyX4 tyX4_ok nmX4 hown hE.1 hP hD hS 0 rfl rfl 2 (by decide) (hts (.fieldLink RX4 15 "SoundLaws$Sightings" "questions" "[I") q_X4_init_6) (fun _ h9 => h9) rfl hnm rfl (by decide +kernel) rfl rfl (Nat.le_of_ble_eq_true rfl) dX4_init_17 (fun H locs hP hD hS => ?_)
  have hP : va_P g.1 vwCl [(h0, .inr (4, [.int 0, .ref q_1, .ref q_2, .null])), (q_1, ai g 6 (fun _ => 0)), (q_2, ai g 6 (fun _ => 0))] H := hP
  have hD : va_D A [(h0, .inr (4, [.int 0, .ref q_1, .ref q_2, .null])), (q_1, ai g 6 (fun _ => 0)), (q_2, ai g 6 (fun _ => 0))] := hD
  refine lv_aload_n hx hb dX4_init_20 rfl (lv_at hl 0 rfl) ?_
  refine lv_bipush (v := 6) hx hb dX4_init_21 (by decide) ?_
  refine k_newz 6 hx hb (hts (.arrayClass .boolean) q_X4_init_7) hE hP hD hS hA (by decide) (by decide) (by decide) (Nat.le_of_ble_eq_true rfl) (Nat.le_of_ble_eq_true rfl) dX4_init_23 (fun q_3 H hP hD hS => ?_)
  have hP : va_P g.1 vwCl [(h0, .inr (4, [.int 0, .ref q_1, .ref q_2, .null])), (q_1, ai g 6 (fun _ => 0)), (q_2, ai g 6 (fun _ => 0)), (q_3, az g 6 (fun _ => 0))] H := hP
  have hD : va_D A [(h0, .inr (4, [.int 0, .ref q_1, .ref q_2, .null])), (q_1, ai g 6 (fun _ => 0)), (q_2, ai g 6 (fun _ => 0)), (q_3, az g 6 (fun _ => 0))] := hD
  refine W.widen (k := 3) (n := 18) (Nat.le_of_ble_eq_true rfl) (Nat.le_of_ble_eq_true rfl) ?_
  refine va_putF (D := g.1) (ci := 4) (v := .ref q_3) (ty := .array .boolean) (C := RX4) (T := TX4) (N := 4) hx hb hts q_X4_init_f4 tyX4 tyX4_ok nmX4 hown hE.1 hP hD hS 0 rfl rfl 3 (by decide) (hts (.fieldLink RX4 18 "SoundLaws$Sightings" "answers" "[Z") q_X4_init_8) (fun _ h9 => h9) rfl hnm rfl (by decide +kernel) rfl rfl (Nat.le_of_ble_eq_true rfl) dX4_init_25 (fun H locs hP hD hS => ?_)
  have hP : va_P g.1 vwCl [(h0, .inr (4, [.int 0, .ref q_1, .ref q_2, .ref q_3])), (q_1, ai g 6 (fun _ => 0)), (q_2, ai g 6 (fun _ => 0)), (q_3, az g 6 (fun _ => 0))] H := hP
  have hD : va_D A [(h0, .inr (4, [.int 0, .ref q_1, .ref q_2, .ref q_3])), (q_1, ai g 6 (fun _ => 0)), (q_2, ai g 6 (fun _ => 0)), (q_3, az g 6 (fun _ => 0))] := hD
  refine W.widen (k := 3) (n := 18) (Nat.le_of_ble_eq_true rfl) (Nat.le_of_ble_eq_true rfl) ?_
  exact k_rv hx hb hr hlocks hS hP hD ⟨q_1, q_2, q_3, rfl⟩ dX4_init_28
def po_X7_init (g : GG) (h0 : Nat) : va_W → Prop := fun w => ∃ (q1 : Nat) (q2 : Nat), w = [(h0, .inr (7, [.int 0, .ref q1, .ref q2])), (q1, ai g 7 (fun _ => 0)), (q2, ai g 63 (fun _ => 0))]
theorem q_X7_init_0 : (Cond.methodLink RX7 3 objectInit) ∈ wsX7_init := by decide +kernel
theorem q_X7_init_1 : (Cond.instanceMethod objectInit) ∈ wsX7_init := by decide +kernel
theorem q_X7_init_2 : (Cond.code objectInit ⟨#[0xb1]⟩ 1 none) ∈ wsX7_init := by decide +kernel
theorem q_X7_init_3 : (Cond.arrayClass .int) ∈ wsX7_init := by decide +kernel
theorem q_X7_init_f7 : ∀ w ∈ u_ws RX7 TX7 3, w ∈ wsX7_init := by decide +kernel
theorem q_X7_init_5 : (Cond.fieldLink RX7 9 "SoundLaws$Tree" "sounds" "[I") ∈ wsX7_init := by decide +kernel
theorem q_X7_init_6 : (Cond.fieldLink RX7 15 "SoundLaws$Tree" "least" "[I") ∈ wsX7_init := by decide +kernel
set_option maxHeartbeats 1500000 in
set_option maxRecDepth 100000 in
theorem c_X7_init (l : Launch) (g : GG) (h0 : Nat)  (sz : Nat) : MetV l yX7_init wsX7_init ({ frames := 1, cells := 2, slots := 70, locals := 12 }) g [.ref h0] [(h0, .inr (7, [.int 0, .null, .null]))] sz (po_X7_init g h0) 2 70 := by
  refine k_of (l := l) (y := yX7_init) (ws := wsX7_init) (rm := { frames := 1, cells := 2, slots := 70, locals := 12 }) (mc := 2) (ms := 70) (av := [.ref h0]) (g := g) (wc := [(h0, .inr (7, [.int 0, .null, .null]))]) (Qc := fun A => va_Qv (po_X7_init g h0) (bk g A) A) (cc := cX7_init) (maxL := 1) (ret := none) (by decide) rfl (Nat.le_of_ble_eq_true rfl) ?_ sz
  intro p e s m below meth c hx hb hr hts hown hlocks hnm hml A hA hE hZ hP hD hS ls hl
  have hown : s.vm.findClass RX7 = some m.cls := hown
  have hl : lv_has ls 1 [(0, .ref h0)] := hl
  refine lv_aload_n hx hb dX7_init_0 rfl (lv_at hl 0 rfl) ?_
  refine W.objInit hx hb hown (hts (.methodLink RX7 3 objectInit) q_X7_init_0) (hts (.instanceMethod objectInit) q_X7_init_1) (hts (.code objectInit ⟨#[0xb1]⟩ 1 none) q_X7_init_2) rfl (by rw [hml]; exact hl.1) rfl dX7_init_1 (Nat.le_of_ble_eq_true rfl) (Nat.le_of_ble_eq_true rfl) ?_
  refine W.eq (g2 := F0 m 4 ls []) rfl ?_
  refine lv_aload_n hx hb dX7_init_4 rfl (lv_at hl 0 rfl) ?_
  refine lv_bipush (v := 7) hx hb dX7_init_5 (by decide) ?_
  refine k_newi 7 hx hb (hts (.arrayClass .int) q_X7_init_3) hE hP hD hS hA (by decide) (by decide) (by decide) (Nat.le_of_ble_eq_true rfl) (Nat.le_of_ble_eq_true rfl) dX7_init_7 (fun q_1 H hP hD hS => ?_)
  have hP : va_P g.1 vwCl [(h0, .inr (7, [.int 0, .null, .null])), (q_1, ai g 7 (fun _ => 0))] H := hP
  have hD : va_D A [(h0, .inr (7, [.int 0, .null, .null])), (q_1, ai g 7 (fun _ => 0))] := hD
  refine W.widen (k := 1) (n := 7) (Nat.le_of_ble_eq_true rfl) (Nat.le_of_ble_eq_true rfl) ?_
  refine va_putF (D := g.1) (ci := 7) (v := .ref q_1) (ty := .array .int) (C := RX7) (T := TX7) (N := 3) hx hb hts q_X7_init_f7 tyX7 tyX7_ok nmX7 hown hE.1 hP hD hS 0 rfl rfl 1 (by decide) (hts (.fieldLink RX7 9 "SoundLaws$Tree" "sounds" "[I") q_X7_init_5) (fun _ h9 => h9) rfl hnm rfl (by decide +kernel) rfl rfl (Nat.le_of_ble_eq_true rfl) dX7_init_9 (fun H locs hP hD hS => ?_)
  have hP : va_P g.1 vwCl [(h0, .inr (7, [.int 0, .ref q_1, .null])), (q_1, ai g 7 (fun _ => 0))] H := hP
  have hD : va_D A [(h0, .inr (7, [.int 0, .ref q_1, .null])), (q_1, ai g 7 (fun _ => 0))] := hD
  refine lv_aload_n hx hb dX7_init_12 rfl (lv_at hl 0 rfl) ?_
  refine lv_bipush (v := 63) hx hb dX7_init_13 (by decide) ?_
  refine k_newi 63 hx hb (hts (.arrayClass .int) q_X7_init_3) hE hP hD hS hA (by decide) (by decide) (by decide) (Nat.le_of_ble_eq_true rfl) (Nat.le_of_ble_eq_true rfl) dX7_init_15 (fun q_2 H hP hD hS => ?_)
  have hP : va_P g.1 vwCl [(h0, .inr (7, [.int 0, .ref q_1, .null])), (q_1, ai g 7 (fun _ => 0)), (q_2, ai g 63 (fun _ => 0))] H := hP
  have hD : va_D A [(h0, .inr (7, [.int 0, .ref q_1, .null])), (q_1, ai g 7 (fun _ => 0)), (q_2, ai g 63 (fun _ => 0))] := hD
  refine W.widen (k := 2) (n := 70) (Nat.le_of_ble_eq_true rfl) (Nat.le_of_ble_eq_true rfl) ?_
  refine va_putF (D := g.1) (ci := 7) (v := .ref q_2) (ty := .array .int) (C := RX7) (T := TX7) (N := 3) hx hb hts q_X7_init_f7 tyX7 tyX7_ok nmX7 hown hE.1 hP hD hS 0 rfl rfl 2 (by decide) (hts (.fieldLink RX7 15 "SoundLaws$Tree" "least" "[I") q_X7_init_6) (fun _ h9 => h9) rfl hnm rfl (by decide +kernel) rfl rfl (Nat.le_of_ble_eq_true rfl) dX7_init_17 (fun H locs hP hD hS => ?_)
  have hP : va_P g.1 vwCl [(h0, .inr (7, [.int 0, .ref q_1, .ref q_2])), (q_1, ai g 7 (fun _ => 0)), (q_2, ai g 63 (fun _ => 0))] H := hP
  have hD : va_D A [(h0, .inr (7, [.int 0, .ref q_1, .ref q_2])), (q_1, ai g 7 (fun _ => 0)), (q_2, ai g 63 (fun _ => 0))] := hD
  refine W.widen (k := 2) (n := 70) (Nat.le_of_ble_eq_true rfl) (Nat.le_of_ble_eq_true rfl) ?_
  exact k_rv hx hb hr hlocks hS hP hD ⟨q_1, q_2, rfl⟩ dX7_init_20
def po_X0_init (g : GG) (h0 : Nat) : va_W → Prop := fun w => ∃ (q1 : Nat) (q2 : Nat) (q3 : Nat), w = [(h0, .inr (0, [.ref q1, .ref q2, .int 0, .int 0, .ref q3])), (q1, ai g 4 (fun _ => 0)), (q2, ai g 4 (fun _ => 0)), (q3, ai g 5 (fun _ => 0))]
theorem q_X0_init_0 : (Cond.methodLink RX0 3 objectInit) ∈ wsX0_init := by decide +kernel
theorem q_X0_init_1 : (Cond.instanceMethod objectInit) ∈ wsX0_init := by decide +kernel
theorem q_X0_init_2 : (Cond.code objectInit ⟨#[0xb1]⟩ 1 none) ∈ wsX0_init := by decide +kernel
theorem q_X0_init_3 : (Cond.arrayClass .int) ∈ wsX0_init := by decide +kernel
theorem q_X0_init_f0 : ∀ w ∈ u_ws RX0 TX0 5, w ∈ wsX0_init := by decide +kernel
theorem q_X0_init_5 : (Cond.fieldLink RX0 9 "SoundLaws$Aligner" "first" "[I") ∈ wsX0_init := by decide +kernel
theorem q_X0_init_6 : (Cond.fieldLink RX0 15 "SoundLaws$Aligner" "second" "[I") ∈ wsX0_init := by decide +kernel
theorem q_X0_init_7 : (Cond.fieldLink RX0 18 "SoundLaws$Aligner" "row" "[I") ∈ wsX0_init := by decide +kernel
set_option maxHeartbeats 1500000 in
set_option maxRecDepth 100000 in
theorem c_X0_init (l : Launch) (g : GG) (h0 : Nat)  (sz : Nat) : MetV l yX0_init wsX0_init ({ frames := 1, cells := 3, slots := 13, locals := 12 }) g [.ref h0] [(h0, .inr (0, [.null, .null, .int 0, .int 0, .null]))] sz (po_X0_init g h0) 3 13 := by
  refine k_of (l := l) (y := yX0_init) (ws := wsX0_init) (rm := { frames := 1, cells := 3, slots := 13, locals := 12 }) (mc := 3) (ms := 13) (av := [.ref h0]) (g := g) (wc := [(h0, .inr (0, [.null, .null, .int 0, .int 0, .null]))]) (Qc := fun A => va_Qv (po_X0_init g h0) (bk g A) A) (cc := cX0_init) (maxL := 1) (ret := none) (by decide) rfl (Nat.le_of_ble_eq_true rfl) ?_ sz
  intro p e s m below meth c hx hb hr hts hown hlocks hnm hml A hA hE hZ hP hD hS ls hl
  have hown : s.vm.findClass RX0 = some m.cls := hown
  have hl : lv_has ls 1 [(0, .ref h0)] := hl
  refine lv_aload_n hx hb dX0_init_0 rfl (lv_at hl 0 rfl) ?_
  refine W.objInit hx hb hown (hts (.methodLink RX0 3 objectInit) q_X0_init_0) (hts (.instanceMethod objectInit) q_X0_init_1) (hts (.code objectInit ⟨#[0xb1]⟩ 1 none) q_X0_init_2) rfl (by rw [hml]; exact hl.1) rfl dX0_init_1 (Nat.le_of_ble_eq_true rfl) (Nat.le_of_ble_eq_true rfl) ?_
  refine W.eq (g2 := F0 m 4 ls []) rfl ?_
  refine lv_aload_n hx hb dX0_init_4 rfl (lv_at hl 0 rfl) ?_
  refine lv_iconst (v := 4) hx hb dX0_init_5 (by decide) ?_
  refine k_newi 4 hx hb (hts (.arrayClass .int) q_X0_init_3) hE hP hD hS hA (by decide) (by decide) (by decide) (Nat.le_of_ble_eq_true rfl) (Nat.le_of_ble_eq_true rfl) dX0_init_6 (fun q_1 H hP hD hS => ?_)
  have hP : va_P g.1 vwCl [(h0, .inr (0, [.null, .null, .int 0, .int 0, .null])), (q_1, ai g 4 (fun _ => 0))] H := hP
  have hD : va_D A [(h0, .inr (0, [.null, .null, .int 0, .int 0, .null])), (q_1, ai g 4 (fun _ => 0))] := hD
  refine W.widen (k := 1) (n := 4) (Nat.le_of_ble_eq_true rfl) (Nat.le_of_ble_eq_true rfl) ?_
  refine va_putF (D := g.1) (ci := 0) (v := .ref q_1) (ty := .array .int) (C := RX0) (T := TX0) (N := 5) hx hb hts q_X0_init_f0 tyX0 tyX0_ok nmX0 hown hE.1 hP hD hS 0 rfl rfl 0 (by decide) (hts (.fieldLink RX0 9 "SoundLaws$Aligner" "first" "[I") q_X0_init_5) (fun _ h9 => h9) rfl hnm rfl (by decide +kernel) rfl rfl (Nat.le_of_ble_eq_true rfl) dX0_init_8 (fun H locs hP hD hS => ?_)
  have hP : va_P g.1 vwCl [(h0, .inr (0, [.ref q_1, .null, .int 0, .int 0, .null])), (q_1, ai g 4 (fun _ => 0))] H := hP
  have hD : va_D A [(h0, .inr (0, [.ref q_1, .null, .int 0, .int 0, .null])), (q_1, ai g 4 (fun _ => 0))] := hD
  refine lv_aload_n hx hb dX0_init_11 rfl (lv_at hl 0 rfl) ?_
  refine lv_iconst (v := 4) hx hb dX0_init_12 (by decide) ?_
  refine k_newi 4 hx hb (hts (.arrayClass .int) q_X0_init_3) hE hP hD hS hA (by decide) (by decide) (by decide) (Nat.le_of_ble_eq_true rfl) (Nat.le_of_ble_eq_true rfl) dX0_init_13 (fun q_2 H hP hD hS => ?_)
  have hP : va_P g.1 vwCl [(h0, .inr (0, [.ref q_1, .null, .int 0, .int 0, .null])), (q_1, ai g 4 (fun _ => 0)), (q_2, ai g 4 (fun _ => 0))] H := hP
  have hD : va_D A [(h0, .inr (0, [.ref q_1, .null, .int 0, .int 0, .null])), (q_1, ai g 4 (fun _ => 0)), (q_2, ai g 4 (fun _ => 0))] := hD
  refine W.widen (k := 2) (n := 8) (Nat.le_of_ble_eq_true rfl) (Nat.le_of_ble_eq_true rfl) ?_
  refine va_putF (D := g.1) (ci := 0) (v := .ref q_2) (ty := .array .int) (C := RX0) (T := TX0) (N := 5) hx hb hts q_X0_init_f0 tyX0 tyX0_ok nmX0 hown hE.1 hP hD hS 0 rfl rfl 1 (by decide) (hts (.fieldLink RX0 15 "SoundLaws$Aligner" "second" "[I") q_X0_init_6) (fun _ h9 => h9) rfl hnm rfl (by decide +kernel) rfl rfl (Nat.le_of_ble_eq_true rfl) dX0_init_15 (fun H locs hP hD hS => ?_)
  have hP : va_P g.1 vwCl [(h0, .inr (0, [.ref q_1, .ref q_2, .int 0, .int 0, .null])), (q_1, ai g 4 (fun _ => 0)), (q_2, ai g 4 (fun _ => 0))] H := hP
  have hD : va_D A [(h0, .inr (0, [.ref q_1, .ref q_2, .int 0, .int 0, .null])), (q_1, ai g 4 (fun _ => 0)), (q_2, ai g 4 (fun _ => 0))] := hD
  refine lv_aload_n hx hb dX0_init_18 rfl (lv_at hl 0 rfl) ?_
  refine lv_iconst (v := 5) hx hb dX0_init_19 (by decide) ?_
  refine k_newi 5 hx hb (hts (.arrayClass .int) q_X0_init_3) hE hP hD hS hA (by decide) (by decide) (by decide) (Nat.le_of_ble_eq_true rfl) (Nat.le_of_ble_eq_true rfl) dX0_init_20 (fun q_3 H hP hD hS => ?_)
  have hP : va_P g.1 vwCl [(h0, .inr (0, [.ref q_1, .ref q_2, .int 0, .int 0, .null])), (q_1, ai g 4 (fun _ => 0)), (q_2, ai g 4 (fun _ => 0)), (q_3, ai g 5 (fun _ => 0))] H := hP
  have hD : va_D A [(h0, .inr (0, [.ref q_1, .ref q_2, .int 0, .int 0, .null])), (q_1, ai g 4 (fun _ => 0)), (q_2, ai g 4 (fun _ => 0)), (q_3, ai g 5 (fun _ => 0))] := hD
  refine W.widen (k := 3) (n := 13) (Nat.le_of_ble_eq_true rfl) (Nat.le_of_ble_eq_true rfl) ?_
  refine va_putF (D := g.1) (ci := 0) (v := .ref q_3) (ty := .array .int) (C := RX0) (T := TX0) (N := 5) hx hb hts q_X0_init_f0 tyX0 tyX0_ok nmX0 hown hE.1 hP hD hS 0 rfl rfl 4 (by decide) (hts (.fieldLink RX0 18 "SoundLaws$Aligner" "row" "[I") q_X0_init_7) (fun _ h9 => h9) rfl hnm rfl (by decide +kernel) rfl rfl (Nat.le_of_ble_eq_true rfl) dX0_init_22 (fun H locs hP hD hS => ?_)
  have hP : va_P g.1 vwCl [(h0, .inr (0, [.ref q_1, .ref q_2, .int 0, .int 0, .ref q_3])), (q_1, ai g 4 (fun _ => 0)), (q_2, ai g 4 (fun _ => 0)), (q_3, ai g 5 (fun _ => 0))] H := hP
  have hD : va_D A [(h0, .inr (0, [.ref q_1, .ref q_2, .int 0, .int 0, .ref q_3])), (q_1, ai g 4 (fun _ => 0)), (q_2, ai g 4 (fun _ => 0)), (q_3, ai g 5 (fun _ => 0))] := hD
  refine W.widen (k := 3) (n := 13) (Nat.le_of_ble_eq_true rfl) (Nat.le_of_ble_eq_true rfl) ?_
  exact k_rv hx hb hr hlocks hS hP hD ⟨q_1, q_2, q_3, rfl⟩ dX0_init_25
def po_X2_init (g : GG) (h0 : Nat) : va_W → Prop := fun w => ∃ (q1 : Nat) (q2 : Nat) (q3 : Nat) (q4 : Nat), w = [(h0, .inr (2, [.ref q1, .ref q2, .ref q3, .int 0, .int 0, .ref q4])), (q1, ai g 72 (fun _ => 0)), (q2, ai g 72 (fun _ => 0)), (q3, ai g 72 (fun _ => 0)), (q4, ai g 648 (fun _ => 0))]
theorem q_X2_init_0 : (Cond.methodLink RX2 3 objectInit) ∈ wsX2_init := by decide +kernel
theorem q_X2_init_1 : (Cond.instanceMethod objectInit) ∈ wsX2_init := by decide +kernel
theorem q_X2_init_2 : (Cond.code objectInit ⟨#[0xb1]⟩ 1 none) ∈ wsX2_init := by decide +kernel
theorem q_X2_init_3 : (Cond.arrayClass .int) ∈ wsX2_init := by decide +kernel
theorem q_X2_init_f2 : ∀ w ∈ u_ws RX2 TX2 6, w ∈ wsX2_init := by decide +kernel
theorem q_X2_init_5 : (Cond.fieldLink RX2 9 "SoundLaws$Laws" "becomes" "[I") ∈ wsX2_init := by decide +kernel
theorem q_X2_init_6 : (Cond.fieldLink RX2 15 "SoundLaws$Laws" "follows" "[I") ∈ wsX2_init := by decide +kernel
theorem q_X2_init_7 : (Cond.fieldLink RX2 18 "SoundLaws$Laws" "exceptions" "[I") ∈ wsX2_init := by decide +kernel
theorem q_X2_init_8 : (Cond.fieldLink RX2 21 "SoundLaws$Laws" "weights" "[I") ∈ wsX2_init := by decide +kernel
set_option maxHeartbeats 1500000 in
set_option maxRecDepth 100000 in
theorem c_X2_init (l : Launch) (g : GG) (h0 : Nat)  (sz : Nat) : MetV l yX2_init wsX2_init ({ frames := 1, cells := 4, slots := 864, locals := 12 }) g [.ref h0] [(h0, .inr (2, [.null, .null, .null, .int 0, .int 0, .null]))] sz (po_X2_init g h0) 4 864 := by
  refine k_of (l := l) (y := yX2_init) (ws := wsX2_init) (rm := { frames := 1, cells := 4, slots := 864, locals := 12 }) (mc := 4) (ms := 864) (av := [.ref h0]) (g := g) (wc := [(h0, .inr (2, [.null, .null, .null, .int 0, .int 0, .null]))]) (Qc := fun A => va_Qv (po_X2_init g h0) (bk g A) A) (cc := cX2_init) (maxL := 1) (ret := none) (by decide) rfl (Nat.le_of_ble_eq_true rfl) ?_ sz
  intro p e s m below meth c hx hb hr hts hown hlocks hnm hml A hA hE hZ hP hD hS ls hl
  have hown : s.vm.findClass RX2 = some m.cls := hown
  have hl : lv_has ls 1 [(0, .ref h0)] := hl
  refine lv_aload_n hx hb dX2_init_0 rfl (lv_at hl 0 rfl) ?_
  refine W.objInit hx hb hown (hts (.methodLink RX2 3 objectInit) q_X2_init_0) (hts (.instanceMethod objectInit) q_X2_init_1) (hts (.code objectInit ⟨#[0xb1]⟩ 1 none) q_X2_init_2) rfl (by rw [hml]; exact hl.1) rfl dX2_init_1 (Nat.le_of_ble_eq_true rfl) (Nat.le_of_ble_eq_true rfl) ?_
  refine W.eq (g2 := F0 m 4 ls []) rfl ?_
  refine lv_aload_n hx hb dX2_init_4 rfl (lv_at hl 0 rfl) ?_
  refine lv_bipush (v := 72) hx hb dX2_init_5 (by decide) ?_
  refine k_newi 72 hx hb (hts (.arrayClass .int) q_X2_init_3) hE hP hD hS hA (by decide) (by decide) (by decide) (Nat.le_of_ble_eq_true rfl) (Nat.le_of_ble_eq_true rfl) dX2_init_7 (fun q_1 H hP hD hS => ?_)
  have hP : va_P g.1 vwCl [(h0, .inr (2, [.null, .null, .null, .int 0, .int 0, .null])), (q_1, ai g 72 (fun _ => 0))] H := hP
  have hD : va_D A [(h0, .inr (2, [.null, .null, .null, .int 0, .int 0, .null])), (q_1, ai g 72 (fun _ => 0))] := hD
  refine W.widen (k := 1) (n := 72) (Nat.le_of_ble_eq_true rfl) (Nat.le_of_ble_eq_true rfl) ?_
  refine va_putF (D := g.1) (ci := 2) (v := .ref q_1) (ty := .array .int) (C := RX2) (T := TX2) (N := 6) hx hb hts q_X2_init_f2 tyX2 tyX2_ok nmX2 hown hE.1 hP hD hS 0 rfl rfl 0 (by decide) (hts (.fieldLink RX2 9 "SoundLaws$Laws" "becomes" "[I") q_X2_init_5) (fun _ h9 => h9) rfl hnm rfl (by decide +kernel) rfl rfl (Nat.le_of_ble_eq_true rfl) dX2_init_9 (fun H locs hP hD hS => ?_)
  have hP : va_P g.1 vwCl [(h0, .inr (2, [.ref q_1, .null, .null, .int 0, .int 0, .null])), (q_1, ai g 72 (fun _ => 0))] H := hP
  have hD : va_D A [(h0, .inr (2, [.ref q_1, .null, .null, .int 0, .int 0, .null])), (q_1, ai g 72 (fun _ => 0))] := hD
  refine lv_aload_n hx hb dX2_init_12 rfl (lv_at hl 0 rfl) ?_
  refine lv_bipush (v := 72) hx hb dX2_init_13 (by decide) ?_
  refine k_newi 72 hx hb (hts (.arrayClass .int) q_X2_init_3) hE hP hD hS hA (by decide) (by decide) (by decide) (Nat.le_of_ble_eq_true rfl) (Nat.le_of_ble_eq_true rfl) dX2_init_15 (fun q_2 H hP hD hS => ?_)
  have hP : va_P g.1 vwCl [(h0, .inr (2, [.ref q_1, .null, .null, .int 0, .int 0, .null])), (q_1, ai g 72 (fun _ => 0)), (q_2, ai g 72 (fun _ => 0))] H := hP
  have hD : va_D A [(h0, .inr (2, [.ref q_1, .null, .null, .int 0, .int 0, .null])), (q_1, ai g 72 (fun _ => 0)), (q_2, ai g 72 (fun _ => 0))] := hD
  refine W.widen (k := 2) (n := 144) (Nat.le_of_ble_eq_true rfl) (Nat.le_of_ble_eq_true rfl) ?_
  refine va_putF (D := g.1) (ci := 2) (v := .ref q_2) (ty := .array .int) (C := RX2) (T := TX2) (N := 6) hx hb hts q_X2_init_f2 tyX2 tyX2_ok nmX2 hown hE.1 hP hD hS 0 rfl rfl 1 (by decide) (hts (.fieldLink RX2 15 "SoundLaws$Laws" "follows" "[I") q_X2_init_6) (fun _ h9 => h9) rfl hnm rfl (by decide +kernel) rfl rfl (Nat.le_of_ble_eq_true rfl) dX2_init_17 (fun H locs hP hD hS => ?_)
  have hP : va_P g.1 vwCl [(h0, .inr (2, [.ref q_1, .ref q_2, .null, .int 0, .int 0, .null])), (q_1, ai g 72 (fun _ => 0)), (q_2, ai g 72 (fun _ => 0))] H := hP
  have hD : va_D A [(h0, .inr (2, [.ref q_1, .ref q_2, .null, .int 0, .int 0, .null])), (q_1, ai g 72 (fun _ => 0)), (q_2, ai g 72 (fun _ => 0))] := hD
  refine lv_aload_n hx hb dX2_init_20 rfl (lv_at hl 0 rfl) ?_
  refine lv_bipush (v := 72) hx hb dX2_init_21 (by decide) ?_
  refine k_newi 72 hx hb (hts (.arrayClass .int) q_X2_init_3) hE hP hD hS hA (by decide) (by decide) (by decide) (Nat.le_of_ble_eq_true rfl) (Nat.le_of_ble_eq_true rfl) dX2_init_23 (fun q_3 H hP hD hS => ?_)
  have hP : va_P g.1 vwCl [(h0, .inr (2, [.ref q_1, .ref q_2, .null, .int 0, .int 0, .null])), (q_1, ai g 72 (fun _ => 0)), (q_2, ai g 72 (fun _ => 0)), (q_3, ai g 72 (fun _ => 0))] H := hP
  have hD : va_D A [(h0, .inr (2, [.ref q_1, .ref q_2, .null, .int 0, .int 0, .null])), (q_1, ai g 72 (fun _ => 0)), (q_2, ai g 72 (fun _ => 0)), (q_3, ai g 72 (fun _ => 0))] := hD
  refine W.widen (k := 3) (n := 216) (Nat.le_of_ble_eq_true rfl) (Nat.le_of_ble_eq_true rfl) ?_
  refine va_putF (D := g.1) (ci := 2) (v := .ref q_3) (ty := .array .int) (C := RX2) (T := TX2) (N := 6) hx hb hts q_X2_init_f2 tyX2 tyX2_ok nmX2 hown hE.1 hP hD hS 0 rfl rfl 2 (by decide) (hts (.fieldLink RX2 18 "SoundLaws$Laws" "exceptions" "[I") q_X2_init_7) (fun _ h9 => h9) rfl hnm rfl (by decide +kernel) rfl rfl (Nat.le_of_ble_eq_true rfl) dX2_init_25 (fun H locs hP hD hS => ?_)
  have hP : va_P g.1 vwCl [(h0, .inr (2, [.ref q_1, .ref q_2, .ref q_3, .int 0, .int 0, .null])), (q_1, ai g 72 (fun _ => 0)), (q_2, ai g 72 (fun _ => 0)), (q_3, ai g 72 (fun _ => 0))] H := hP
  have hD : va_D A [(h0, .inr (2, [.ref q_1, .ref q_2, .ref q_3, .int 0, .int 0, .null])), (q_1, ai g 72 (fun _ => 0)), (q_2, ai g 72 (fun _ => 0)), (q_3, ai g 72 (fun _ => 0))] := hD
  refine lv_aload_n hx hb dX2_init_28 rfl (lv_at hl 0 rfl) ?_
  refine lv_sipush (v := 648) hx hb dX2_init_29 (by decide) ?_
  refine k_newi 648 hx hb (hts (.arrayClass .int) q_X2_init_3) hE hP hD hS hA (by decide) (by decide) (by decide) (Nat.le_of_ble_eq_true rfl) (Nat.le_of_ble_eq_true rfl) dX2_init_32 (fun q_4 H hP hD hS => ?_)
  have hP : va_P g.1 vwCl [(h0, .inr (2, [.ref q_1, .ref q_2, .ref q_3, .int 0, .int 0, .null])), (q_1, ai g 72 (fun _ => 0)), (q_2, ai g 72 (fun _ => 0)), (q_3, ai g 72 (fun _ => 0)), (q_4, ai g 648 (fun _ => 0))] H := hP
  have hD : va_D A [(h0, .inr (2, [.ref q_1, .ref q_2, .ref q_3, .int 0, .int 0, .null])), (q_1, ai g 72 (fun _ => 0)), (q_2, ai g 72 (fun _ => 0)), (q_3, ai g 72 (fun _ => 0)), (q_4, ai g 648 (fun _ => 0))] := hD
  refine W.widen (k := 4) (n := 864) (Nat.le_of_ble_eq_true rfl) (Nat.le_of_ble_eq_true rfl) ?_
  refine va_putF (D := g.1) (ci := 2) (v := .ref q_4) (ty := .array .int) (C := RX2) (T := TX2) (N := 6) hx hb hts q_X2_init_f2 tyX2 tyX2_ok nmX2 hown hE.1 hP hD hS 0 rfl rfl 5 (by decide) (hts (.fieldLink RX2 21 "SoundLaws$Laws" "weights" "[I") q_X2_init_8) (fun _ h9 => h9) rfl hnm rfl (by decide +kernel) rfl rfl (Nat.le_of_ble_eq_true rfl) dX2_init_34 (fun H locs hP hD hS => ?_)
  have hP : va_P g.1 vwCl [(h0, .inr (2, [.ref q_1, .ref q_2, .ref q_3, .int 0, .int 0, .ref q_4])), (q_1, ai g 72 (fun _ => 0)), (q_2, ai g 72 (fun _ => 0)), (q_3, ai g 72 (fun _ => 0)), (q_4, ai g 648 (fun _ => 0))] H := hP
  have hD : va_D A [(h0, .inr (2, [.ref q_1, .ref q_2, .ref q_3, .int 0, .int 0, .ref q_4])), (q_1, ai g 72 (fun _ => 0)), (q_2, ai g 72 (fun _ => 0)), (q_3, ai g 72 (fun _ => 0)), (q_4, ai g 648 (fun _ => 0))] := hD
  refine W.widen (k := 4) (n := 864) (Nat.le_of_ble_eq_true rfl) (Nat.le_of_ble_eq_true rfl) ?_
  exact k_rv hx hb hr hlocks hS hP hD ⟨q_1, q_2, q_3, q_4, rfl⟩ dX2_init_37
def po_X1_init (g : GG) (h0 : Nat) : va_W → Prop := fun w => ∃ (q1 : Nat) (q2 : Nat) (q3 : Nat), w = [(h0, .inr (1, [.int 0, .int 0, .int 0, .ref q1])), (q1, .inr (7, [.int 0, .ref q2, .ref q3])), (q2, ai g 7 (fun _ => 0)), (q3, ai g 63 (fun _ => 0))]
theorem q_X1_init_0 : (Cond.methodLink RX1 3 objectInit) ∈ wsX1_init := by decide +kernel
theorem q_X1_init_1 : (Cond.instanceMethod objectInit) ∈ wsX1_init := by decide +kernel
theorem q_X1_init_2 : (Cond.code objectInit ⟨#[0xb1]⟩ 1 none) ∈ wsX1_init := by decide +kernel
theorem q_X1_init_f7 : ∀ w ∈ u_ws RX7 TX7 3, w ∈ wsX1_init := by decide +kernel
theorem q_X1_init_4 : (Cond.classLink RX1 9 RX7) ∈ wsX1_init := by decide +kernel
theorem q_X1_init_5 : (Cond.instantiable RX7 3) ∈ wsX1_init := by decide +kernel
theorem q_X1_init_6 : (Cond.initialized RX7) ∈ wsX1_init := by decide +kernel
theorem q_X1_init_7 : (Cond.instanceMethod yX7_init) ∈ wsX1_init := by decide +kernel
theorem q_X1_init_f1 : ∀ w ∈ u_ws RX1 TX1 4, w ∈ wsX1_init := by decide +kernel
theorem q_X1_init_9 : (Cond.fieldLink RX1 12 "SoundLaws$Draws" "tree" "LSoundLaws$Tree;") ∈ wsX1_init := by decide +kernel
set_option maxHeartbeats 1500000 in
set_option maxRecDepth 100000 in
theorem c_X1_init (l : Launch) (g : GG) (h0 : Nat)  (sz : Nat) : MetV l yX1_init wsX1_init ({ frames := 2, cells := 3, slots := 73, locals := 32 }) g [.ref h0] [(h0, .inr (1, [.int 0, .int 0, .int 0, .null]))] sz (po_X1_init g h0) 3 73 := by
  refine k_of (l := l) (y := yX1_init) (ws := wsX1_init) (rm := { frames := 2, cells := 3, slots := 73, locals := 32 }) (mc := 3) (ms := 73) (av := [.ref h0]) (g := g) (wc := [(h0, .inr (1, [.int 0, .int 0, .int 0, .null]))]) (Qc := fun A => va_Qv (po_X1_init g h0) (bk g A) A) (cc := cX1_init) (maxL := 1) (ret := none) (by decide) rfl (Nat.le_of_ble_eq_true rfl) ?_ sz
  intro p e s m below meth c hx hb hr hts hown hlocks hnm hml A hA hE hZ hP hD hS ls hl
  have hown : s.vm.findClass RX1 = some m.cls := hown
  have hl : lv_has ls 1 [(0, .ref h0)] := hl
  refine lv_aload_n hx hb dX1_init_0 rfl (lv_at hl 0 rfl) ?_
  refine W.objInit hx hb hown (hts (.methodLink RX1 3 objectInit) q_X1_init_0) (hts (.instanceMethod objectInit) q_X1_init_1) (hts (.code objectInit ⟨#[0xb1]⟩ 1 none) q_X1_init_2) rfl (by rw [hml]; exact hl.1) rfl dX1_init_1 (Nat.le_of_ble_eq_true rfl) (Nat.le_of_ble_eq_true rfl) ?_
  refine W.eq (g2 := F0 m 4 ls []) rfl ?_
  refine lv_aload_n hx hb dX1_init_4 rfl (lv_at hl 0 rfl) ?_
  refine va_new (D := g.1) (ci := 7) (fs := [.int 0, .null, .null]) (C := RX7) (T := TX7) (N := 3) hx hb hts q_X1_init_f7 tyX7 tyX7_ok hown (hts (.classLink RX1 9 RX7) q_X1_init_4) (hts (.instantiable RX7 3) q_X1_init_5) (hts (.initialized RX7) q_X1_init_6) hE.1 hP hD hS hA rfl (by intro j hj; match j, hj with | 0, _ => rfl | 1, _ => rfl | 2, _ => rfl | (k + 3), h => exact absurd h (by omega)) (Nat.le_of_ble_eq_true rfl) (Nat.le_of_ble_eq_true rfl) dX1_init_5 (fun q_1 H hP hD hS => ?_)
  have hP : va_P g.1 vwCl [(h0, .inr (1, [.int 0, .int 0, .int 0, .null])), (q_1, .inr (7, [.int 0, .null, .null]))] H := hP
  have hD : va_D A [(h0, .inr (1, [.int 0, .int 0, .int 0, .null])), (q_1, .inr (7, [.int 0, .null, .null]))] := hD
  refine W.widen (k := 1) (n := 3) (Nat.le_of_ble_eq_true rfl) (Nat.le_of_ble_eq_true rfl) ?_
  refine lv_dup hx hb dX1_init_8 rfl ?_
  refine k_cv (wr := [(h0, .inr (1, [.int 0, .int 0, .int 0, .null]))]) hP hD hS hA [1] [0] rfl rfl (by decide) (by decide) (va_runIN (As := []) (rest := [.ref q_1, .ref h0]) ⟨hx, hb, hml, hown, hts⟩ (c_X7_init l g q_1  H.size) ⟨va_cnB 0 hts gX1_init_X7_init_n11 rfl rfl rfl (hE.nw 9 rfl) (hts (.initialized RX7) q_X1_init_6) (by decide +kernel) ⟨Nat.le_of_ble_eq_true rfl, Nat.le_of_ble_eq_true rfl⟩, rfl, (hts (.instanceMethod yX7_init) q_X1_init_7)⟩ (k_preS hE hZ hP hD hS hA [1] rfl (by decide)) rfl rfl hl.1 rfl (lv_room (Nat.le_of_ble_eq_true rfl)) dX1_init_9 ⟨Nat.le_of_ble_eq_true rfl, Nat.le_of_ble_eq_true rfl⟩) (fun w1 H locs hw hP hD hS => ?_)
  obtain ⟨q1_3, q2_4, rfl⟩ := hw
  have hP : va_P g.1 vwCl [(h0, .inr (1, [.int 0, .int 0, .int 0, .null])), (q_1, .inr (7, [.int 0, .ref q1_3, .ref q2_4])), (q1_3, ai g 7 (fun _ => 0)), (q2_4, ai g 63 (fun _ => 0))] H := hP
  have hD : va_D A [(h0, .inr (1, [.int 0, .int 0, .int 0, .null])), (q_1, .inr (7, [.int 0, .ref q1_3, .ref q2_4])), (q1_3, ai g 7 (fun _ => 0)), (q2_4, ai g 63 (fun _ => 0))] := hD
  refine W.widen (k := 3) (n := 73) (Nat.le_of_ble_eq_true rfl) (Nat.le_of_ble_eq_true rfl) ?_
  refine va_putF (D := g.1) (ci := 1) (v := .ref q_1) (ty := .object "SoundLaws$Tree") (C := RX1) (T := TX1) (N := 4) hx hb hts q_X1_init_f1 tyX1 tyX1_ok nmX1 hown hE.1 hP hD hS 0 rfl rfl 3 (by decide) (hts (.fieldLink RX1 12 "SoundLaws$Draws" "tree" "LSoundLaws$Tree;") q_X1_init_9) (fun _ h9 => h9) rfl hnm rfl (by decide +kernel) rfl rfl (Nat.le_of_ble_eq_true rfl) dX1_init_12 (fun H locs hP hD hS => ?_)
  have hP : va_P g.1 vwCl [(h0, .inr (1, [.int 0, .int 0, .int 0, .ref q_1])), (q_1, .inr (7, [.int 0, .ref q1_3, .ref q2_4])), (q1_3, ai g 7 (fun _ => 0)), (q2_4, ai g 63 (fun _ => 0))] H := hP
  have hD : va_D A [(h0, .inr (1, [.int 0, .int 0, .int 0, .ref q_1])), (q_1, .inr (7, [.int 0, .ref q1_3, .ref q2_4])), (q1_3, ai g 7 (fun _ => 0)), (q2_4, ai g 63 (fun _ => 0))] := hD
  refine W.widen (k := 3) (n := 73) (Nat.le_of_ble_eq_true rfl) (Nat.le_of_ble_eq_true rfl) ?_
  exact k_rv hx hb hr hlocks hS hP hD ⟨q_1, q1_3, q2_4, rfl⟩ dX1_init_15
def po_X3_init (g : GG) (h0 : Nat) : va_W → Prop := fun w => ∃ (q1 : Nat) (q2 : Nat) (q3 : Nat) (q4 : Nat), w = [(h0, .inr (3, [.ref q1, .int 0, .int 0, .int 0, .int 0, .int 0, .int 0])), (q1, .inr (5, [.int 0, .int 0, .ref q2, .ref q3, .ref q4])), (q2, ai g 6 (fun _ => 0)), (q3, ai g 6 (fun _ => 0)), (q4, ai g 96 (fun _ => 0))]
theorem q_X3_init_0 : (Cond.methodLink RX3 3 objectInit) ∈ wsX3_init := by decide +kernel
theorem q_X3_init_1 : (Cond.instanceMethod objectInit) ∈ wsX3_init := by decide +kernel
theorem q_X3_init_2 : (Cond.code objectInit ⟨#[0xb1]⟩ 1 none) ∈ wsX3_init := by decide +kernel
theorem q_X3_init_f5 : ∀ w ∈ u_ws RX5 TX5 5, w ∈ wsX3_init := by decide +kernel
theorem q_X3_init_4 : (Cond.classLink RX3 9 RX5) ∈ wsX3_init := by decide +kernel
theorem q_X3_init_5 : (Cond.instantiable RX5 5) ∈ wsX3_init := by decide +kernel
theorem q_X3_init_6 : (Cond.initialized RX5) ∈ wsX3_init := by decide +kernel
theorem q_X3_init_7 : (Cond.instanceMethod yX5_init) ∈ wsX3_init := by decide +kernel
theorem q_X3_init_f3 : ∀ w ∈ u_ws RX3 TX3 7, w ∈ wsX3_init := by decide +kernel
theorem q_X3_init_9 : (Cond.fieldLink RX3 12 "SoundLaws$Reader" "draft" "LSoundLaws$Stock;") ∈ wsX3_init := by decide +kernel
set_option maxHeartbeats 1500000 in
set_option maxRecDepth 100000 in
theorem c_X3_init (l : Launch) (g : GG) (h0 : Nat)  (sz : Nat) : MetV l yX3_init wsX3_init ({ frames := 2, cells := 4, slots := 113, locals := 32 }) g [.ref h0] [(h0, .inr (3, [.null, .int 0, .int 0, .int 0, .int 0, .int 0, .int 0]))] sz (po_X3_init g h0) 4 113 := by
  refine k_of (l := l) (y := yX3_init) (ws := wsX3_init) (rm := { frames := 2, cells := 4, slots := 113, locals := 32 }) (mc := 4) (ms := 113) (av := [.ref h0]) (g := g) (wc := [(h0, .inr (3, [.null, .int 0, .int 0, .int 0, .int 0, .int 0, .int 0]))]) (Qc := fun A => va_Qv (po_X3_init g h0) (bk g A) A) (cc := cX3_init) (maxL := 1) (ret := none) (by decide) rfl (Nat.le_of_ble_eq_true rfl) ?_ sz
  intro p e s m below meth c hx hb hr hts hown hlocks hnm hml A hA hE hZ hP hD hS ls hl
  have hown : s.vm.findClass RX3 = some m.cls := hown
  have hl : lv_has ls 1 [(0, .ref h0)] := hl
  refine lv_aload_n hx hb dX3_init_0 rfl (lv_at hl 0 rfl) ?_
  refine W.objInit hx hb hown (hts (.methodLink RX3 3 objectInit) q_X3_init_0) (hts (.instanceMethod objectInit) q_X3_init_1) (hts (.code objectInit ⟨#[0xb1]⟩ 1 none) q_X3_init_2) rfl (by rw [hml]; exact hl.1) rfl dX3_init_1 (Nat.le_of_ble_eq_true rfl) (Nat.le_of_ble_eq_true rfl) ?_
  refine W.eq (g2 := F0 m 4 ls []) rfl ?_
  refine lv_aload_n hx hb dX3_init_4 rfl (lv_at hl 0 rfl) ?_
  refine va_new (D := g.1) (ci := 5) (fs := [.int 0, .int 0, .null, .null, .null]) (C := RX5) (T := TX5) (N := 5) hx hb hts q_X3_init_f5 tyX5 tyX5_ok hown (hts (.classLink RX3 9 RX5) q_X3_init_4) (hts (.instantiable RX5 5) q_X3_init_5) (hts (.initialized RX5) q_X3_init_6) hE.1 hP hD hS hA rfl (by intro j hj; match j, hj with | 0, _ => rfl | 1, _ => rfl | 2, _ => rfl | 3, _ => rfl | 4, _ => rfl | (k + 5), h => exact absurd h (by omega)) (Nat.le_of_ble_eq_true rfl) (Nat.le_of_ble_eq_true rfl) dX3_init_5 (fun q_1 H hP hD hS => ?_)
  have hP : va_P g.1 vwCl [(h0, .inr (3, [.null, .int 0, .int 0, .int 0, .int 0, .int 0, .int 0])), (q_1, .inr (5, [.int 0, .int 0, .null, .null, .null]))] H := hP
  have hD : va_D A [(h0, .inr (3, [.null, .int 0, .int 0, .int 0, .int 0, .int 0, .int 0])), (q_1, .inr (5, [.int 0, .int 0, .null, .null, .null]))] := hD
  refine W.widen (k := 1) (n := 5) (Nat.le_of_ble_eq_true rfl) (Nat.le_of_ble_eq_true rfl) ?_
  refine lv_dup hx hb dX3_init_8 rfl ?_
  refine k_cv (wr := [(h0, .inr (3, [.null, .int 0, .int 0, .int 0, .int 0, .int 0, .int 0]))]) hP hD hS hA [1] [0] rfl rfl (by decide) (by decide) (va_runIN (As := []) (rest := [.ref q_1, .ref h0]) ⟨hx, hb, hml, hown, hts⟩ (c_X5_init l g q_1  H.size) ⟨va_cnB 0 hts gX3_init_X5_init_n11 rfl rfl rfl (hE.nw 1 rfl) (hts (.initialized RX5) q_X3_init_6) (by decide +kernel) ⟨Nat.le_of_ble_eq_true rfl, Nat.le_of_ble_eq_true rfl⟩, rfl, (hts (.instanceMethod yX5_init) q_X3_init_7)⟩ (k_preS hE hZ hP hD hS hA [1] rfl (by decide)) rfl rfl hl.1 rfl (lv_room (Nat.le_of_ble_eq_true rfl)) dX3_init_9 ⟨Nat.le_of_ble_eq_true rfl, Nat.le_of_ble_eq_true rfl⟩) (fun w1 H locs hw hP hD hS => ?_)
  obtain ⟨q1_3, q2_4, q3_5, rfl⟩ := hw
  have hP : va_P g.1 vwCl [(h0, .inr (3, [.null, .int 0, .int 0, .int 0, .int 0, .int 0, .int 0])), (q_1, .inr (5, [.int 0, .int 0, .ref q1_3, .ref q2_4, .ref q3_5])), (q1_3, ai g 6 (fun _ => 0)), (q2_4, ai g 6 (fun _ => 0)), (q3_5, ai g 96 (fun _ => 0))] H := hP
  have hD : va_D A [(h0, .inr (3, [.null, .int 0, .int 0, .int 0, .int 0, .int 0, .int 0])), (q_1, .inr (5, [.int 0, .int 0, .ref q1_3, .ref q2_4, .ref q3_5])), (q1_3, ai g 6 (fun _ => 0)), (q2_4, ai g 6 (fun _ => 0)), (q3_5, ai g 96 (fun _ => 0))] := hD
  refine W.widen (k := 4) (n := 113) (Nat.le_of_ble_eq_true rfl) (Nat.le_of_ble_eq_true rfl) ?_
  refine va_putF (D := g.1) (ci := 3) (v := .ref q_1) (ty := .object "SoundLaws$Stock") (C := RX3) (T := TX3) (N := 7) hx hb hts q_X3_init_f3 tyX3 tyX3_ok nmX3 hown hE.1 hP hD hS 0 rfl rfl 0 (by decide) (hts (.fieldLink RX3 12 "SoundLaws$Reader" "draft" "LSoundLaws$Stock;") q_X3_init_9) (fun _ h9 => h9) rfl hnm rfl (by decide +kernel) rfl rfl (Nat.le_of_ble_eq_true rfl) dX3_init_12 (fun H locs hP hD hS => ?_)
  have hP : va_P g.1 vwCl [(h0, .inr (3, [.ref q_1, .int 0, .int 0, .int 0, .int 0, .int 0, .int 0])), (q_1, .inr (5, [.int 0, .int 0, .ref q1_3, .ref q2_4, .ref q3_5])), (q1_3, ai g 6 (fun _ => 0)), (q2_4, ai g 6 (fun _ => 0)), (q3_5, ai g 96 (fun _ => 0))] H := hP
  have hD : va_D A [(h0, .inr (3, [.ref q_1, .int 0, .int 0, .int 0, .int 0, .int 0, .int 0])), (q_1, .inr (5, [.int 0, .int 0, .ref q1_3, .ref q2_4, .ref q3_5])), (q1_3, ai g 6 (fun _ => 0)), (q2_4, ai g 6 (fun _ => 0)), (q3_5, ai g 96 (fun _ => 0))] := hD
  refine W.widen (k := 4) (n := 113) (Nat.le_of_ble_eq_true rfl) (Nat.le_of_ble_eq_true rfl) ?_
  exact k_rv hx hb hr hlocks hS hP hD ⟨q_1, q1_3, q2_4, q3_5, rfl⟩ dX3_init_15
def po_X6_init (g : GG) (h0 : Nat) : va_W → Prop := fun w => ∃ (q1 : Nat) (q2 : Nat) (q3 : Nat) (lw : Nat) (l1 : Nat) (l2 : Nat) (l3 : Nat) (l4 : Nat) (tr : Nat) (t1 : Nat) (t2 : Nat), w = [(h0, .inr (6, [.ref q1, .ref q2, .ref q3, .ref lw, .int 0, .ref tr])), (q1, ai g 168 (fun _ => 0)), (q2, ai g 6 (fun _ => 0)), (q3, ai g 24 (fun _ => 0)), (lw, .inr (2, [.ref l1, .ref l2, .ref l3, .int 0, .int 0, .ref l4])), (l1, ai g 72 (fun _ => 0)), (l2, ai g 72 (fun _ => 0)), (l3, ai g 72 (fun _ => 0)), (l4, ai g 648 (fun _ => 0)), (tr, .inr (7, [.int 0, .ref t1, .ref t2])), (t1, ai g 7 (fun _ => 0)), (t2, ai g 63 (fun _ => 0))]
theorem q_X6_init_0 : (Cond.methodLink RX6 3 objectInit) ∈ wsX6_init := by decide +kernel
theorem q_X6_init_1 : (Cond.instanceMethod objectInit) ∈ wsX6_init := by decide +kernel
theorem q_X6_init_2 : (Cond.code objectInit ⟨#[0xb1]⟩ 1 none) ∈ wsX6_init := by decide +kernel
theorem q_X6_init_3 : (Cond.arrayClass .int) ∈ wsX6_init := by decide +kernel
theorem q_X6_init_f6 : ∀ w ∈ u_ws RX6 TX6 6, w ∈ wsX6_init := by decide +kernel
theorem q_X6_init_5 : (Cond.fieldLink RX6 9 "SoundLaws$Study" "sounds" "[I") ∈ wsX6_init := by decide +kernel
theorem q_X6_init_6 : (Cond.fieldLink RX6 15 "SoundLaws$Study" "changes" "[I") ∈ wsX6_init := by decide +kernel
theorem q_X6_init_7 : (Cond.fieldLink RX6 18 "SoundLaws$Study" "strangePlaces" "[I") ∈ wsX6_init := by decide +kernel
theorem q_X6_init_f2 : ∀ w ∈ u_ws RX2 TX2 6, w ∈ wsX6_init := by decide +kernel
theorem q_X6_init_9 : (Cond.classLink RX6 21 RX2) ∈ wsX6_init := by decide +kernel
theorem q_X6_init_10 : (Cond.instantiable RX2 6) ∈ wsX6_init := by decide +kernel
theorem q_X6_init_11 : (Cond.initialized RX2) ∈ wsX6_init := by decide +kernel
theorem q_X6_init_12 : (Cond.instanceMethod yX2_init) ∈ wsX6_init := by decide +kernel
theorem q_X6_init_13 : (Cond.fieldLink RX6 24 "SoundLaws$Study" "laws" "LSoundLaws$Laws;") ∈ wsX6_init := by decide +kernel
theorem q_X6_init_f7 : ∀ w ∈ u_ws RX7 TX7 3, w ∈ wsX6_init := by decide +kernel
theorem q_X6_init_15 : (Cond.classLink RX6 28 RX7) ∈ wsX6_init := by decide +kernel
theorem q_X6_init_16 : (Cond.instantiable RX7 3) ∈ wsX6_init := by decide +kernel
theorem q_X6_init_17 : (Cond.initialized RX7) ∈ wsX6_init := by decide +kernel
theorem q_X6_init_18 : (Cond.instanceMethod yX7_init) ∈ wsX6_init := by decide +kernel
theorem q_X6_init_19 : (Cond.fieldLink RX6 31 "SoundLaws$Study" "tree" "LSoundLaws$Tree;") ∈ wsX6_init := by decide +kernel
set_option maxHeartbeats 1500000 in
set_option maxRecDepth 100000 in
theorem c_X6_init (l : Launch) (g : GG) (h0 : Nat)  (sz : Nat) : MetV l yX6_init wsX6_init ({ frames := 2, cells := 11, slots := 1141, locals := 32 }) g [.ref h0] [(h0, .inr (6, [.null, .null, .null, .null, .int 0, .null]))] sz (po_X6_init g h0) 11 1141 := by
  refine k_of (l := l) (y := yX6_init) (ws := wsX6_init) (rm := { frames := 2, cells := 11, slots := 1141, locals := 32 }) (mc := 11) (ms := 1141) (av := [.ref h0]) (g := g) (wc := [(h0, .inr (6, [.null, .null, .null, .null, .int 0, .null]))]) (Qc := fun A => va_Qv (po_X6_init g h0) (bk g A) A) (cc := cX6_init) (maxL := 1) (ret := none) (by decide) rfl (Nat.le_of_ble_eq_true rfl) ?_ sz
  intro p e s m below meth c hx hb hr hts hown hlocks hnm hml A hA hE hZ hP hD hS ls hl
  have hown : s.vm.findClass RX6 = some m.cls := hown
  have hl : lv_has ls 1 [(0, .ref h0)] := hl
  refine lv_aload_n hx hb dX6_init_0 rfl (lv_at hl 0 rfl) ?_
  refine W.objInit hx hb hown (hts (.methodLink RX6 3 objectInit) q_X6_init_0) (hts (.instanceMethod objectInit) q_X6_init_1) (hts (.code objectInit ⟨#[0xb1]⟩ 1 none) q_X6_init_2) rfl (by rw [hml]; exact hl.1) rfl dX6_init_1 (Nat.le_of_ble_eq_true rfl) (Nat.le_of_ble_eq_true rfl) ?_
  refine W.eq (g2 := F0 m 4 ls []) rfl ?_
  refine lv_aload_n hx hb dX6_init_4 rfl (lv_at hl 0 rfl) ?_
  refine lv_sipush (v := 168) hx hb dX6_init_5 (by decide) ?_
  refine k_newi 168 hx hb (hts (.arrayClass .int) q_X6_init_3) hE hP hD hS hA (by decide) (by decide) (by decide) (Nat.le_of_ble_eq_true rfl) (Nat.le_of_ble_eq_true rfl) dX6_init_8 (fun q_1 H hP hD hS => ?_)
  have hP : va_P g.1 vwCl [(h0, .inr (6, [.null, .null, .null, .null, .int 0, .null])), (q_1, ai g 168 (fun _ => 0))] H := hP
  have hD : va_D A [(h0, .inr (6, [.null, .null, .null, .null, .int 0, .null])), (q_1, ai g 168 (fun _ => 0))] := hD
  refine W.widen (k := 1) (n := 168) (Nat.le_of_ble_eq_true rfl) (Nat.le_of_ble_eq_true rfl) ?_
  refine va_putF (D := g.1) (ci := 6) (v := .ref q_1) (ty := .array .int) (C := RX6) (T := TX6) (N := 6) hx hb hts q_X6_init_f6 tyX6 tyX6_ok nmX6 hown hE.1 hP hD hS 0 rfl rfl 0 (by decide) (hts (.fieldLink RX6 9 "SoundLaws$Study" "sounds" "[I") q_X6_init_5) (fun _ h9 => h9) rfl hnm rfl (by decide +kernel) rfl rfl (Nat.le_of_ble_eq_true rfl) dX6_init_10 (fun H locs hP hD hS => ?_)
  have hP : va_P g.1 vwCl [(h0, .inr (6, [.ref q_1, .null, .null, .null, .int 0, .null])), (q_1, ai g 168 (fun _ => 0))] H := hP
  have hD : va_D A [(h0, .inr (6, [.ref q_1, .null, .null, .null, .int 0, .null])), (q_1, ai g 168 (fun _ => 0))] := hD
  refine lv_aload_n hx hb dX6_init_13 rfl (lv_at hl 0 rfl) ?_
  refine lv_bipush (v := 6) hx hb dX6_init_14 (by decide) ?_
  refine k_newi 6 hx hb (hts (.arrayClass .int) q_X6_init_3) hE hP hD hS hA (by decide) (by decide) (by decide) (Nat.le_of_ble_eq_true rfl) (Nat.le_of_ble_eq_true rfl) dX6_init_16 (fun q_2 H hP hD hS => ?_)
  have hP : va_P g.1 vwCl [(h0, .inr (6, [.ref q_1, .null, .null, .null, .int 0, .null])), (q_1, ai g 168 (fun _ => 0)), (q_2, ai g 6 (fun _ => 0))] H := hP
  have hD : va_D A [(h0, .inr (6, [.ref q_1, .null, .null, .null, .int 0, .null])), (q_1, ai g 168 (fun _ => 0)), (q_2, ai g 6 (fun _ => 0))] := hD
  refine W.widen (k := 2) (n := 174) (Nat.le_of_ble_eq_true rfl) (Nat.le_of_ble_eq_true rfl) ?_
  refine va_putF (D := g.1) (ci := 6) (v := .ref q_2) (ty := .array .int) (C := RX6) (T := TX6) (N := 6) hx hb hts q_X6_init_f6 tyX6 tyX6_ok nmX6 hown hE.1 hP hD hS 0 rfl rfl 1 (by decide) (hts (.fieldLink RX6 15 "SoundLaws$Study" "changes" "[I") q_X6_init_6) (fun _ h9 => h9) rfl hnm rfl (by decide +kernel) rfl rfl (Nat.le_of_ble_eq_true rfl) dX6_init_18 (fun H locs hP hD hS => ?_)
  have hP : va_P g.1 vwCl [(h0, .inr (6, [.ref q_1, .ref q_2, .null, .null, .int 0, .null])), (q_1, ai g 168 (fun _ => 0)), (q_2, ai g 6 (fun _ => 0))] H := hP
  have hD : va_D A [(h0, .inr (6, [.ref q_1, .ref q_2, .null, .null, .int 0, .null])), (q_1, ai g 168 (fun _ => 0)), (q_2, ai g 6 (fun _ => 0))] := hD
  refine lv_aload_n hx hb dX6_init_21 rfl (lv_at hl 0 rfl) ?_
  refine lv_bipush (v := 24) hx hb dX6_init_22 (by decide) ?_
  refine k_newi 24 hx hb (hts (.arrayClass .int) q_X6_init_3) hE hP hD hS hA (by decide) (by decide) (by decide) (Nat.le_of_ble_eq_true rfl) (Nat.le_of_ble_eq_true rfl) dX6_init_24 (fun q_3 H hP hD hS => ?_)
  have hP : va_P g.1 vwCl [(h0, .inr (6, [.ref q_1, .ref q_2, .null, .null, .int 0, .null])), (q_1, ai g 168 (fun _ => 0)), (q_2, ai g 6 (fun _ => 0)), (q_3, ai g 24 (fun _ => 0))] H := hP
  have hD : va_D A [(h0, .inr (6, [.ref q_1, .ref q_2, .null, .null, .int 0, .null])), (q_1, ai g 168 (fun _ => 0)), (q_2, ai g 6 (fun _ => 0)), (q_3, ai g 24 (fun _ => 0))] := hD
  refine W.widen (k := 3) (n := 198) (Nat.le_of_ble_eq_true rfl) (Nat.le_of_ble_eq_true rfl) ?_
  refine va_putF (D := g.1) (ci := 6) (v := .ref q_3) (ty := .array .int) (C := RX6) (T := TX6) (N := 6) hx hb hts q_X6_init_f6 tyX6 tyX6_ok nmX6 hown hE.1 hP hD hS 0 rfl rfl 2 (by decide) (hts (.fieldLink RX6 18 "SoundLaws$Study" "strangePlaces" "[I") q_X6_init_7) (fun _ h9 => h9) rfl hnm rfl (by decide +kernel) rfl rfl (Nat.le_of_ble_eq_true rfl) dX6_init_26 (fun H locs hP hD hS => ?_)
  have hP : va_P g.1 vwCl [(h0, .inr (6, [.ref q_1, .ref q_2, .ref q_3, .null, .int 0, .null])), (q_1, ai g 168 (fun _ => 0)), (q_2, ai g 6 (fun _ => 0)), (q_3, ai g 24 (fun _ => 0))] H := hP
  have hD : va_D A [(h0, .inr (6, [.ref q_1, .ref q_2, .ref q_3, .null, .int 0, .null])), (q_1, ai g 168 (fun _ => 0)), (q_2, ai g 6 (fun _ => 0)), (q_3, ai g 24 (fun _ => 0))] := hD
  refine lv_aload_n hx hb dX6_init_29 rfl (lv_at hl 0 rfl) ?_
  refine va_new (D := g.1) (ci := 2) (fs := [.null, .null, .null, .int 0, .int 0, .null]) (C := RX2) (T := TX2) (N := 6) hx hb hts q_X6_init_f2 tyX2 tyX2_ok hown (hts (.classLink RX6 21 RX2) q_X6_init_9) (hts (.instantiable RX2 6) q_X6_init_10) (hts (.initialized RX2) q_X6_init_11) hE.1 hP hD hS hA rfl (by intro j hj; match j, hj with | 0, _ => rfl | 1, _ => rfl | 2, _ => rfl | 3, _ => rfl | 4, _ => rfl | 5, _ => rfl | (k + 6), h => exact absurd h (by omega)) (Nat.le_of_ble_eq_true rfl) (Nat.le_of_ble_eq_true rfl) dX6_init_30 (fun q_4 H hP hD hS => ?_)
  have hP : va_P g.1 vwCl [(h0, .inr (6, [.ref q_1, .ref q_2, .ref q_3, .null, .int 0, .null])), (q_1, ai g 168 (fun _ => 0)), (q_2, ai g 6 (fun _ => 0)), (q_3, ai g 24 (fun _ => 0)), (q_4, .inr (2, [.null, .null, .null, .int 0, .int 0, .null]))] H := hP
  have hD : va_D A [(h0, .inr (6, [.ref q_1, .ref q_2, .ref q_3, .null, .int 0, .null])), (q_1, ai g 168 (fun _ => 0)), (q_2, ai g 6 (fun _ => 0)), (q_3, ai g 24 (fun _ => 0)), (q_4, .inr (2, [.null, .null, .null, .int 0, .int 0, .null]))] := hD
  refine W.widen (k := 4) (n := 204) (Nat.le_of_ble_eq_true rfl) (Nat.le_of_ble_eq_true rfl) ?_
  refine lv_dup hx hb dX6_init_33 rfl ?_
  refine k_cv (wr := [(h0, .inr (6, [.ref q_1, .ref q_2, .ref q_3, .null, .int 0, .null])), (q_1, ai g 168 (fun _ => 0)), (q_2, ai g 6 (fun _ => 0)), (q_3, ai g 24 (fun _ => 0))]) hP hD hS hA [4] [0, 1, 2, 3] rfl rfl (by decide) (by decide) (va_runIN (As := []) (rest := [.ref q_4, .ref h0]) ⟨hx, hb, hml, hown, hts⟩ (c_X2_init l g q_4  H.size) ⟨va_cnB 0 hts gX6_init_X2_init_n23 rfl rfl rfl (hE.nw 5 rfl) (hts (.initialized RX2) q_X6_init_11) (by decide +kernel) ⟨Nat.le_of_ble_eq_true rfl, Nat.le_of_ble_eq_true rfl⟩, rfl, (hts (.instanceMethod yX2_init) q_X6_init_12)⟩ (k_preS hE hZ hP hD hS hA [4] rfl (by decide)) rfl rfl hl.1 rfl (lv_room (Nat.le_of_ble_eq_true rfl)) dX6_init_34 ⟨Nat.le_of_ble_eq_true rfl, Nat.le_of_ble_eq_true rfl⟩) (fun w1 H locs hw hP hD hS => ?_)
  obtain ⟨q1_6, q2_7, q3_8, q4_9, rfl⟩ := hw
  have hP : va_P g.1 vwCl [(h0, .inr (6, [.ref q_1, .ref q_2, .ref q_3, .null, .int 0, .null])), (q_1, ai g 168 (fun _ => 0)), (q_2, ai g 6 (fun _ => 0)), (q_3, ai g 24 (fun _ => 0)), (q_4, .inr (2, [.ref q1_6, .ref q2_7, .ref q3_8, .int 0, .int 0, .ref q4_9])), (q1_6, ai g 72 (fun _ => 0)), (q2_7, ai g 72 (fun _ => 0)), (q3_8, ai g 72 (fun _ => 0)), (q4_9, ai g 648 (fun _ => 0))] H := hP
  have hD : va_D A [(h0, .inr (6, [.ref q_1, .ref q_2, .ref q_3, .null, .int 0, .null])), (q_1, ai g 168 (fun _ => 0)), (q_2, ai g 6 (fun _ => 0)), (q_3, ai g 24 (fun _ => 0)), (q_4, .inr (2, [.ref q1_6, .ref q2_7, .ref q3_8, .int 0, .int 0, .ref q4_9])), (q1_6, ai g 72 (fun _ => 0)), (q2_7, ai g 72 (fun _ => 0)), (q3_8, ai g 72 (fun _ => 0)), (q4_9, ai g 648 (fun _ => 0))] := hD
  refine W.widen (k := 8) (n := 1068) (Nat.le_of_ble_eq_true rfl) (Nat.le_of_ble_eq_true rfl) ?_
  refine va_putF (D := g.1) (ci := 6) (v := .ref q_4) (ty := .object "SoundLaws$Laws") (C := RX6) (T := TX6) (N := 6) hx hb hts q_X6_init_f6 tyX6 tyX6_ok nmX6 hown hE.1 hP hD hS 0 rfl rfl 3 (by decide) (hts (.fieldLink RX6 24 "SoundLaws$Study" "laws" "LSoundLaws$Laws;") q_X6_init_13) (fun _ h9 => h9) rfl hnm rfl (by decide +kernel) rfl rfl (Nat.le_of_ble_eq_true rfl) dX6_init_37 (fun H locs hP hD hS => ?_)
  have hP : va_P g.1 vwCl [(h0, .inr (6, [.ref q_1, .ref q_2, .ref q_3, .ref q_4, .int 0, .null])), (q_1, ai g 168 (fun _ => 0)), (q_2, ai g 6 (fun _ => 0)), (q_3, ai g 24 (fun _ => 0)), (q_4, .inr (2, [.ref q1_6, .ref q2_7, .ref q3_8, .int 0, .int 0, .ref q4_9])), (q1_6, ai g 72 (fun _ => 0)), (q2_7, ai g 72 (fun _ => 0)), (q3_8, ai g 72 (fun _ => 0)), (q4_9, ai g 648 (fun _ => 0))] H := hP
  have hD : va_D A [(h0, .inr (6, [.ref q_1, .ref q_2, .ref q_3, .ref q_4, .int 0, .null])), (q_1, ai g 168 (fun _ => 0)), (q_2, ai g 6 (fun _ => 0)), (q_3, ai g 24 (fun _ => 0)), (q_4, .inr (2, [.ref q1_6, .ref q2_7, .ref q3_8, .int 0, .int 0, .ref q4_9])), (q1_6, ai g 72 (fun _ => 0)), (q2_7, ai g 72 (fun _ => 0)), (q3_8, ai g 72 (fun _ => 0)), (q4_9, ai g 648 (fun _ => 0))] := hD
  refine lv_aload_n hx hb dX6_init_40 rfl (lv_at hl 0 rfl) ?_
  refine va_new (D := g.1) (ci := 7) (fs := [.int 0, .null, .null]) (C := RX7) (T := TX7) (N := 3) hx hb hts q_X6_init_f7 tyX7 tyX7_ok hown (hts (.classLink RX6 28 RX7) q_X6_init_15) (hts (.instantiable RX7 3) q_X6_init_16) (hts (.initialized RX7) q_X6_init_17) hE.1 hP hD hS hA rfl (by intro j hj; match j, hj with | 0, _ => rfl | 1, _ => rfl | 2, _ => rfl | (k + 3), h => exact absurd h (by omega)) (Nat.le_of_ble_eq_true rfl) (Nat.le_of_ble_eq_true rfl) dX6_init_41 (fun q_10 H hP hD hS => ?_)
  have hP : va_P g.1 vwCl [(h0, .inr (6, [.ref q_1, .ref q_2, .ref q_3, .ref q_4, .int 0, .null])), (q_1, ai g 168 (fun _ => 0)), (q_2, ai g 6 (fun _ => 0)), (q_3, ai g 24 (fun _ => 0)), (q_4, .inr (2, [.ref q1_6, .ref q2_7, .ref q3_8, .int 0, .int 0, .ref q4_9])), (q1_6, ai g 72 (fun _ => 0)), (q2_7, ai g 72 (fun _ => 0)), (q3_8, ai g 72 (fun _ => 0)), (q4_9, ai g 648 (fun _ => 0)), (q_10, .inr (7, [.int 0, .null, .null]))] H := hP
  have hD : va_D A [(h0, .inr (6, [.ref q_1, .ref q_2, .ref q_3, .ref q_4, .int 0, .null])), (q_1, ai g 168 (fun _ => 0)), (q_2, ai g 6 (fun _ => 0)), (q_3, ai g 24 (fun _ => 0)), (q_4, .inr (2, [.ref q1_6, .ref q2_7, .ref q3_8, .int 0, .int 0, .ref q4_9])), (q1_6, ai g 72 (fun _ => 0)), (q2_7, ai g 72 (fun _ => 0)), (q3_8, ai g 72 (fun _ => 0)), (q4_9, ai g 648 (fun _ => 0)), (q_10, .inr (7, [.int 0, .null, .null]))] := hD
  refine W.widen (k := 9) (n := 1071) (Nat.le_of_ble_eq_true rfl) (Nat.le_of_ble_eq_true rfl) ?_
  refine lv_dup hx hb dX6_init_44 rfl ?_
  refine k_cv (wr := [(h0, .inr (6, [.ref q_1, .ref q_2, .ref q_3, .ref q_4, .int 0, .null])), (q_1, ai g 168 (fun _ => 0)), (q_2, ai g 6 (fun _ => 0)), (q_3, ai g 24 (fun _ => 0)), (q_4, .inr (2, [.ref q1_6, .ref q2_7, .ref q3_8, .int 0, .int 0, .ref q4_9])), (q1_6, ai g 72 (fun _ => 0)), (q2_7, ai g 72 (fun _ => 0)), (q3_8, ai g 72 (fun _ => 0)), (q4_9, ai g 648 (fun _ => 0))]) hP hD hS hA [9] [0, 1, 2, 3, 4, 5, 6, 7, 8] rfl rfl (by decide) (by decide) (va_runIN (As := []) (rest := [.ref q_10, .ref h0]) ⟨hx, hb, hml, hown, hts⟩ (c_X7_init l g q_10  H.size) ⟨va_cnB 0 hts gX6_init_X7_init_n30 rfl rfl rfl (hE.nw 6 rfl) (hts (.initialized RX7) q_X6_init_17) (by decide +kernel) ⟨Nat.le_of_ble_eq_true rfl, Nat.le_of_ble_eq_true rfl⟩, rfl, (hts (.instanceMethod yX7_init) q_X6_init_18)⟩ (k_preS hE hZ hP hD hS hA [9] rfl (by decide)) rfl rfl hl.1 rfl (lv_room (Nat.le_of_ble_eq_true rfl)) dX6_init_45 ⟨Nat.le_of_ble_eq_true rfl, Nat.le_of_ble_eq_true rfl⟩) (fun w1 H locs hw hP hD hS => ?_)
  obtain ⟨q1_12, q2_13, rfl⟩ := hw
  have hP : va_P g.1 vwCl [(h0, .inr (6, [.ref q_1, .ref q_2, .ref q_3, .ref q_4, .int 0, .null])), (q_1, ai g 168 (fun _ => 0)), (q_2, ai g 6 (fun _ => 0)), (q_3, ai g 24 (fun _ => 0)), (q_4, .inr (2, [.ref q1_6, .ref q2_7, .ref q3_8, .int 0, .int 0, .ref q4_9])), (q1_6, ai g 72 (fun _ => 0)), (q2_7, ai g 72 (fun _ => 0)), (q3_8, ai g 72 (fun _ => 0)), (q4_9, ai g 648 (fun _ => 0)), (q_10, .inr (7, [.int 0, .ref q1_12, .ref q2_13])), (q1_12, ai g 7 (fun _ => 0)), (q2_13, ai g 63 (fun _ => 0))] H := hP
  have hD : va_D A [(h0, .inr (6, [.ref q_1, .ref q_2, .ref q_3, .ref q_4, .int 0, .null])), (q_1, ai g 168 (fun _ => 0)), (q_2, ai g 6 (fun _ => 0)), (q_3, ai g 24 (fun _ => 0)), (q_4, .inr (2, [.ref q1_6, .ref q2_7, .ref q3_8, .int 0, .int 0, .ref q4_9])), (q1_6, ai g 72 (fun _ => 0)), (q2_7, ai g 72 (fun _ => 0)), (q3_8, ai g 72 (fun _ => 0)), (q4_9, ai g 648 (fun _ => 0)), (q_10, .inr (7, [.int 0, .ref q1_12, .ref q2_13])), (q1_12, ai g 7 (fun _ => 0)), (q2_13, ai g 63 (fun _ => 0))] := hD
  refine W.widen (k := 11) (n := 1141) (Nat.le_of_ble_eq_true rfl) (Nat.le_of_ble_eq_true rfl) ?_
  refine va_putF (D := g.1) (ci := 6) (v := .ref q_10) (ty := .object "SoundLaws$Tree") (C := RX6) (T := TX6) (N := 6) hx hb hts q_X6_init_f6 tyX6 tyX6_ok nmX6 hown hE.1 hP hD hS 0 rfl rfl 5 (by decide) (hts (.fieldLink RX6 31 "SoundLaws$Study" "tree" "LSoundLaws$Tree;") q_X6_init_19) (fun _ h9 => h9) rfl hnm rfl (by decide +kernel) rfl rfl (Nat.le_of_ble_eq_true rfl) dX6_init_48 (fun H locs hP hD hS => ?_)
  have hP : va_P g.1 vwCl [(h0, .inr (6, [.ref q_1, .ref q_2, .ref q_3, .ref q_4, .int 0, .ref q_10])), (q_1, ai g 168 (fun _ => 0)), (q_2, ai g 6 (fun _ => 0)), (q_3, ai g 24 (fun _ => 0)), (q_4, .inr (2, [.ref q1_6, .ref q2_7, .ref q3_8, .int 0, .int 0, .ref q4_9])), (q1_6, ai g 72 (fun _ => 0)), (q2_7, ai g 72 (fun _ => 0)), (q3_8, ai g 72 (fun _ => 0)), (q4_9, ai g 648 (fun _ => 0)), (q_10, .inr (7, [.int 0, .ref q1_12, .ref q2_13])), (q1_12, ai g 7 (fun _ => 0)), (q2_13, ai g 63 (fun _ => 0))] H := hP
  have hD : va_D A [(h0, .inr (6, [.ref q_1, .ref q_2, .ref q_3, .ref q_4, .int 0, .ref q_10])), (q_1, ai g 168 (fun _ => 0)), (q_2, ai g 6 (fun _ => 0)), (q_3, ai g 24 (fun _ => 0)), (q_4, .inr (2, [.ref q1_6, .ref q2_7, .ref q3_8, .int 0, .int 0, .ref q4_9])), (q1_6, ai g 72 (fun _ => 0)), (q2_7, ai g 72 (fun _ => 0)), (q3_8, ai g 72 (fun _ => 0)), (q4_9, ai g 648 (fun _ => 0)), (q_10, .inr (7, [.int 0, .ref q1_12, .ref q2_13])), (q1_12, ai g 7 (fun _ => 0)), (q2_13, ai g 63 (fun _ => 0))] := hD
  refine W.widen (k := 11) (n := 1141) (Nat.le_of_ble_eq_true rfl) (Nat.le_of_ble_eq_true rfl) ?_
  exact k_rv hx hb hr hlocks hS hP hD ⟨q_1, q_2, q_3, q_4, q1_6, q2_7, q3_8, q4_9, q_10, q1_12, q2_13, rfl⟩ dX6_init_51

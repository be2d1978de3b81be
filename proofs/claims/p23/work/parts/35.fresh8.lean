def po_X8_isSound (g : GG) (p1 : Int32) : Int32 → va_W → Prop := fun (r : Int32) w => w = [] ∧ (isS p1 = r)
set_option maxHeartbeats 1500000 in
set_option maxRecDepth 100000 in
theorem c_X8_isSound (l : Launch) (g : GG) (p1 : Int32)  (sz : Nat) : MetI l yX8_isSound wsX8_isSound ({ frames := 0, cells := 0, slots := 0, locals := 0 }) g [.int p1] [] sz (po_X8_isSound g p1) 0 0 := by
  refine k_of (l := l) (y := yX8_isSound) (ws := wsX8_isSound) (rm := { frames := 0, cells := 0, slots := 0, locals := 0 }) (mc := 0) (ms := 0) (av := [.int p1]) (g := g) (wc := []) (Qc := fun A => va_Qi (po_X8_isSound g p1) (bk g A) A) (cc := cX8_isSound) (maxL := 1) (ret := (some .boolean)) (by decide) rfl (Nat.le_of_ble_eq_true rfl) ?_ sz
  intro p e s m below meth c hx hb hr hts hown hlocks hnm hml A hA hE hZ hP hD hS ls hl
  have hown : s.vm.findClass RX8 = some m.cls := hown
  have hl : lv_has ls 1 [(0, .int p1)] := hl
  refine lv_iload_n hx hb dX8_isSound_0 rfl (lv_at hl 0 rfl) ?_
  refine lv_if_lt (tgt := 14) hx hb dX8_isSound_1 (by decide) (fun c1_1 => ?_) (fun c1_1 => ?_)
  · skip
    refine lv_iconst (v := 0) hx hb dX8_isSound_14 (by decide) ?_
    refine W.widen (k := 0) (n := 0) (Nat.le_of_ble_eq_true rfl) (Nat.le_of_ble_eq_true rfl) ?_
    exact k_rz hx hb hr hlocks hS hP hD rfl ⟨rfl, (by unfold isS; rw [if_pos (Or.inl c1_1)])⟩ dX8_isSound_15
  · skip
    refine lv_iload_n hx hb dX8_isSound_4 rfl (lv_at hl 0 rfl) ?_
    refine lv_bipush (v := 9) hx hb dX8_isSound_5 (by decide) ?_
    refine lv_icmp_ge (tgt := 14) hx hb dX8_isSound_7 (by decide) (fun c7_2 => ?_) (fun c7_2 => ?_)
    · skip
      refine lv_iconst (v := 0) hx hb dX8_isSound_14 (by decide) ?_
      refine W.widen (k := 0) (n := 0) (Nat.le_of_ble_eq_true rfl) (Nat.le_of_ble_eq_true rfl) ?_
      exact k_rz hx hb hr hlocks hS hP hD rfl ⟨rfl, (by unfold isS; rw [if_pos (Or.inr (i_nlt c7_2))])⟩ dX8_isSound_15
    · skip
      refine lv_iconst (v := 1) hx hb dX8_isSound_10 (by decide) ?_
      refine lv_goto (tgt := 15) hx hb dX8_isSound_11 (by decide) ?_
      refine W.widen (k := 0) (n := 0) (Nat.le_of_ble_eq_true rfl) (Nat.le_of_ble_eq_true rfl) ?_
      exact k_rz hx hb hr hlocks hS hP hD rfl ⟨rfl, (by unfold isS; rw [if_neg (fun h => h.elim c1_1 (fun q => c7_2 (Int32.not_lt.mp q)))])⟩ dX8_isSound_15
def po_X8_costOf (g : GG) (i : Nat) (j : Nat) : Int32 → va_W → Prop := fun (r : Int32) w => w = [] ∧ (cs i j = r)
theorem q_X8_costOf_0 : (Cond.fieldLink RX8 288 "SoundLaws" "COSTS" "[I") ∈ wsX8_costOf := by decide +kernel
set_option maxHeartbeats 1500000 in
set_option maxRecDepth 100000 in
theorem c_X8_costOf (l : Launch) (g : GG) (i : Nat) (j : Nat) (hi : i < 9) (hj : j < 9) (sz : Nat) : MetI l yX8_costOf wsX8_costOf ({ frames := 0, cells := 0, slots := 0, locals := 0 }) g [.int (nI i), .int (nI j)] [] sz (po_X8_costOf g i j) 0 0 := by
  refine k_of (l := l) (y := yX8_costOf) (ws := wsX8_costOf) (rm := { frames := 0, cells := 0, slots := 0, locals := 0 }) (mc := 0) (ms := 0) (av := [.int (nI i), .int (nI j)]) (g := g) (wc := []) (Qc := fun A => va_Qi (po_X8_costOf g i j) (bk g A) A) (cc := cX8_costOf) (maxL := 2) (ret := (some .int)) (by decide) rfl (Nat.le_of_ble_eq_true rfl) ?_ sz
  intro p e s m below meth c hx hb hr hts hown hlocks hnm hml A hA hE hZ hP hD hS ls hl
  have hown : s.vm.findClass RX8 = some m.cls := hown
  have hl : lv_has ls 2 [(0, .int (nI i)), (1, .int (nI j))] := hl
  refine va_gets hx hb hZ.zCOSTS hS hown (hts (.fieldLink RX8 288 "SoundLaws" "COSTS" "[I") q_X8_costOf_0) (fun _ h9 => h9) dX8_costOf_0 ?_
  refine lv_iload_n hx hb dX8_costOf_3 rfl (lv_at hl 0 rfl) ?_
  refine lv_bipush (v := 9) hx hb dX8_costOf_4 (by decide) ?_
  refine lv_imul hx hb dX8_costOf_6 ?_
  refine lv_iload_n hx hb dX8_costOf_7 rfl (lv_at hl 1 rfl) ?_
  refine lv_iadd hx hb dX8_costOf_8 ?_
  refine k_tld (9 * i + j) (by rw [show (9 : Int32) = nI 9 from rfl, pk_mul, nI_add, Nat.mul_comm]) (by omega) hx hb hZ.tCOSTS hS (by decide) (v := tb_COSTS.getD (9 * i + j) 0) rfl dX8_costOf_9 ?_
  refine W.widen (k := 0) (n := 0) (Nat.le_of_ble_eq_true rfl) (Nat.le_of_ble_eq_true rfl) ?_
  exact k_ri hx hb hr hlocks hS hP hD ⟨rfl, rfl⟩ dX8_costOf_10
def po_X4_clear (g : GG) (h0 : Nat) (q1 : Nat) (q2 : Nat) (q3 : Nat) (z : Int32) : va_W → Prop := fun w => w = [(h0, .inr (4, [.int 0, .ref q1, .ref q2, .ref q3]))]
theorem q_X4_clear_f4 : ∀ w ∈ u_ws RX4 TX4 4, w ∈ wsX4_clear := by decide +kernel
theorem q_X4_clear_1 : (Cond.fieldLink RX4 22 "SoundLaws$Sightings" "size" "I") ∈ wsX4_clear := by decide +kernel
set_option maxHeartbeats 1500000 in
set_option maxRecDepth 100000 in
theorem c_X4_clear (l : Launch) (g : GG) (h0 : Nat) (q1 : Nat) (q2 : Nat) (q3 : Nat) (z : Int32)  (sz : Nat) : MetV l yX4_clear wsX4_clear ({ frames := 0, cells := 0, slots := 0, locals := 0 }) g [.ref h0] [(h0, .inr (4, [.int z, .ref q1, .ref q2, .ref q3]))] sz (po_X4_clear g h0 q1 q2 q3 z) 0 0 := by
  refine k_of (l := l) (y := yX4_clear) (ws := wsX4_clear) (rm := { frames := 0, cells := 0, slots := 0, locals := 0 }) (mc := 0) (ms := 0) (av := [.ref h0]) (g := g) (wc := [(h0, .inr (4, [.int z, .ref q1, .ref q2, .ref q3]))]) (Qc := fun A => va_Qv (po_X4_clear g h0 q1 q2 q3 z) (bk g A) A) (cc := cX4_clear) (maxL := 1) (ret := none) (by decide) rfl (Nat.le_of_ble_eq_true rfl) ?_ sz
  intro p e s m below meth c hx hb hr hts hown hlocks hnm hml A hA hE hZ hP hD hS ls hl
  have hown : s.vm.findClass RX4 = some m.cls := hown
  have hl : lv_has ls 1 [(0, .ref h0)] := hl
  refine lv_aload_n hx hb dX4_clear_0 rfl (lv_at hl 0 rfl) ?_
  refine lv_iconst (v := 0) hx hb dX4_clear_1 (by decide) ?_
  refine va_put (D := g.1) (ci := 4) (v := .int 0) (ty := .int) (C := RX4) (T := TX4) (N := 4) hx hb hts q_X4_clear_f4 tyX4 tyX4_ok nmX4 hown hE.1 hP hD hS 0 rfl rfl 0 (by decide) (hts (.fieldLink RX4 22 "SoundLaws$Sightings" "size" "I") q_X4_clear_1) (fun _ h9 => h9) rfl (by decide +kernel) rfl rfl (Nat.le_of_ble_eq_true rfl) dX4_clear_2 (fun H locs hP hD hS => ?_)
  have hP : va_P g.1 vwCl [(h0, .inr (4, [.int 0, .ref q1, .ref q2, .ref q3]))] H := hP
  have hD : va_D A [(h0, .inr (4, [.int 0, .ref q1, .ref q2, .ref q3]))] := hD
  refine W.widen (k := 0) (n := 0) (Nat.le_of_ble_eq_true rfl) (Nat.le_of_ble_eq_true rfl) ?_
  exact k_rv hx hb hr hlocks hS hP hD rfl dX4_clear_5

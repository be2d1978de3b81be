def po_X8_isSet (g : GG) (h0 : Nat) (pg : Nat) (rd : Nat) (sk : Nat) (si : Nat) (sy : Nat) (ks : Nat) (ki : Nat) (al : Nat) (dr : Nat) (sk1 : Nat) (sk2 : Nat) (sk3 : Nat) (p1 : Int32) : Int32 → va_W → Prop := fun (r : Int32) w => w = [(h0, .inr (8, [.ref pg, .int 0, .ref rd, .int 0, .ref sk, .ref si, .ref sy, .int 0, .ref ks, .ref ki, .int 0, .ref al, .ref dr])), (sk, .inr (5, [.int 0, .int 0, .ref sk1, .ref sk2, .ref sk3]))] ∧ (0 = r)
theorem q_X8_isSet_f8 : ∀ w ∈ u_ws RX8 TX8 13, w ∈ wsX8_isSet := by decide +kernel
theorem q_X8_isSet_1 : (Cond.fieldLink RX8 23 "SoundLaws" "stock" "LSoundLaws$Stock;") ∈ wsX8_isSet := by decide +kernel
theorem q_X8_isSet_f5 : ∀ w ∈ u_ws RX5 TX5 5, w ∈ wsX8_isSet := by decide +kernel
theorem q_X8_isSet_3 : (Cond.fieldLink RX8 93 "SoundLaws$Stock" "size" "I") ∈ wsX8_isSet := by decide +kernel
set_option maxHeartbeats 1500000 in
set_option maxRecDepth 100000 in
theorem c_X8_isSet (l : Launch) (g : GG) (h0 : Nat) (pg : Nat) (rd : Nat) (sk : Nat) (si : Nat) (sy : Nat) (ks : Nat) (ki : Nat) (al : Nat) (dr : Nat) (sk1 : Nat) (sk2 : Nat) (sk3 : Nat) (p1 : Int32)  (sz : Nat) : MetI l yX8_isSet wsX8_isSet ({ frames := 0, cells := 0, slots := 0, locals := 0 }) g [.ref h0, .int p1] [(h0, .inr (8, [.ref pg, .int 0, .ref rd, .int 0, .ref sk, .ref si, .ref sy, .int 0, .ref ks, .ref ki, .int 0, .ref al, .ref dr])), (sk, .inr (5, [.int 0, .int 0, .ref sk1, .ref sk2, .ref sk3]))] sz (po_X8_isSet g h0 pg rd sk si sy ks ki al dr sk1 sk2 sk3 p1) 0 0 := by
  refine k_of (l := l) (y := yX8_isSet) (ws := wsX8_isSet) (rm := { frames := 0, cells := 0, slots := 0, locals := 0 }) (mc := 0) (ms := 0) (av := [.ref h0, .int p1]) (g := g) (wc := [(h0, .inr (8, [.ref pg, .int 0, .ref rd, .int 0, .ref sk, .ref si, .ref sy, .int 0, .ref ks, .ref ki, .int 0, .ref al, .ref dr])), (sk, .inr (5, [.int 0, .int 0, .ref sk1, .ref sk2, .ref sk3]))]) (Qc := fun A => va_Qi (po_X8_isSet g h0 pg rd sk si sy ks ki al dr sk1 sk2 sk3 p1) (bk g A) A) (cc := cX8_isSet) (maxL := 2) (ret := (some .boolean)) (by decide) rfl (Nat.le_of_ble_eq_true rfl) ?_ sz
  intro p e s m below meth c hx hb hr hts hown hlocks hnm hml A hA hE hZ hP hD hS ls hl
  have hown : s.vm.findClass RX8 = some m.cls := hown
  have hl : lv_has ls 2 [(0, .ref h0), (1, .int p1)] := hl
  refine lv_iload_n hx hb dX8_isSet_0 rfl (lv_at hl 1 rfl) ?_
  refine lv_if_lt (tgt := 19) hx hb dX8_isSet_1 (by decide) (fun c1_1 => ?_) (fun c1_1 => ?_)
  · skip
    refine lv_iconst (v := 0) hx hb dX8_isSet_19 (by decide) ?_
    refine W.widen (k := 0) (n := 0) (Nat.le_of_ble_eq_true rfl) (Nat.le_of_ble_eq_true rfl) ?_
    exact k_rz hx hb hr hlocks hS hP hD rfl ⟨rfl, rfl⟩ dX8_isSet_20
  · skip
    refine lv_iload_n hx hb dX8_isSet_4 rfl (lv_at hl 1 rfl) ?_
    refine lv_aload_n hx hb dX8_isSet_5 rfl (lv_at hl 0 rfl) ?_
    refine va_get (D := g.1) (ci := 8) (v := .ref sk) (C := RX8) (T := TX8) (N := 13) hx hb hts q_X8_isSet_f8 hown hE.1 hP 0 rfl rfl 4 (by decide) (hts (.fieldLink RX8 23 "SoundLaws" "stock" "LSoundLaws$Stock;") q_X8_isSet_1) (fun _ h9 => h9) rfl dX8_isSet_6 ?_
    refine va_get (D := g.1) (ci := 5) (v := .int 0) (C := RX5) (T := TX5) (N := 5) hx hb hts q_X8_isSet_f5 hown hE.1 hP 1 rfl rfl 0 (by decide) (hts (.fieldLink RX8 93 "SoundLaws$Stock" "size" "I") q_X8_isSet_3) (fun _ h9 => h9) rfl dX8_isSet_9 ?_
    refine lv_icmp_ge (tgt := 19) hx hb dX8_isSet_12 (by decide) (fun c12_2 => ?_) (fun c12_2 => ?_)
    · skip
      refine lv_iconst (v := 0) hx hb dX8_isSet_19 (by decide) ?_
      refine W.widen (k := 0) (n := 0) (Nat.le_of_ble_eq_true rfl) (Nat.le_of_ble_eq_true rfl) ?_
      exact k_rz hx hb hr hlocks hS hP hD rfl ⟨rfl, rfl⟩ dX8_isSet_20
    · exact (show False from c12_2 (Int32.not_lt.mp c1_1)).elim
def po_X8_isTongue (g : GG) (h0 : Nat) (pg : Nat) (rd : Nat) (sk : Nat) (si : Nat) (sy : Nat) (ks : Nat) (ki : Nat) (al : Nat) (dr : Nat) (sk1 : Nat) (sk2 : Nat) (sk3 : Nat) (p1 : Int32) : Int32 → va_W → Prop := fun (r : Int32) w => w = [(h0, .inr (8, [.ref pg, .int 0, .ref rd, .int 0, .ref sk, .ref si, .ref sy, .int 0, .ref ks, .ref ki, .int 0, .ref al, .ref dr])), (sk, .inr (5, [.int 0, .int 0, .ref sk1, .ref sk2, .ref sk3]))] ∧ (0 = r)
theorem q_X8_isTongue_f8 : ∀ w ∈ u_ws RX8 TX8 13, w ∈ wsX8_isTongue := by decide +kernel
theorem q_X8_isTongue_1 : (Cond.fieldLink RX8 23 "SoundLaws" "stock" "LSoundLaws$Stock;") ∈ wsX8_isTongue := by decide +kernel
theorem q_X8_isTongue_f5 : ∀ w ∈ u_ws RX5 TX5 5, w ∈ wsX8_isTongue := by decide +kernel
theorem q_X8_isTongue_3 : (Cond.fieldLink RX8 234 "SoundLaws$Stock" "tongues" "I") ∈ wsX8_isTongue := by decide +kernel
set_option maxHeartbeats 1500000 in
set_option maxRecDepth 100000 in
theorem c_X8_isTongue (l : Launch) (g : GG) (h0 : Nat) (pg : Nat) (rd : Nat) (sk : Nat) (si : Nat) (sy : Nat) (ks : Nat) (ki : Nat) (al : Nat) (dr : Nat) (sk1 : Nat) (sk2 : Nat) (sk3 : Nat) (p1 : Int32)  (sz : Nat) : MetI l yX8_isTongue wsX8_isTongue ({ frames := 0, cells := 0, slots := 0, locals := 0 }) g [.ref h0, .int p1] [(h0, .inr (8, [.ref pg, .int 0, .ref rd, .int 0, .ref sk, .ref si, .ref sy, .int 0, .ref ks, .ref ki, .int 0, .ref al, .ref dr])), (sk, .inr (5, [.int 0, .int 0, .ref sk1, .ref sk2, .ref sk3]))] sz (po_X8_isTongue g h0 pg rd sk si sy ks ki al dr sk1 sk2 sk3 p1) 0 0 := by
  refine k_of (l := l) (y := yX8_isTongue) (ws := wsX8_isTongue) (rm := { frames := 0, cells := 0, slots := 0, locals := 0 }) (mc := 0) (ms := 0) (av := [.ref h0, .int p1]) (g := g) (wc := [(h0, .inr (8, [.ref pg, .int 0, .ref rd, .int 0, .ref sk, .ref si, .ref sy, .int 0, .ref ks, .ref ki, .int 0, .ref al, .ref dr])), (sk, .inr (5, [.int 0, .int 0, .ref sk1, .ref sk2, .ref sk3]))]) (Qc := fun A => va_Qi (po_X8_isTongue g h0 pg rd sk si sy ks ki al dr sk1 sk2 sk3 p1) (bk g A) A) (cc := cX8_isTongue) (maxL := 2) (ret := (some .boolean)) (by decide) rfl (Nat.le_of_ble_eq_true rfl) ?_ sz
  intro p e s m below meth c hx hb hr hts hown hlocks hnm hml A hA hE hZ hP hD hS ls hl
  have hown : s.vm.findClass RX8 = some m.cls := hown
  have hl : lv_has ls 2 [(0, .ref h0), (1, .int p1)] := hl
  refine lv_iload_n hx hb dX8_isTongue_0 rfl (lv_at hl 1 rfl) ?_
  refine lv_if_lt (tgt := 19) hx hb dX8_isTongue_1 (by decide) (fun c1_1 => ?_) (fun c1_1 => ?_)
  · skip
    refine lv_iconst (v := 0) hx hb dX8_isTongue_19 (by decide) ?_
    refine W.widen (k := 0) (n := 0) (Nat.le_of_ble_eq_true rfl) (Nat.le_of_ble_eq_true rfl) ?_
    exact k_rz hx hb hr hlocks hS hP hD rfl ⟨rfl, rfl⟩ dX8_isTongue_20
  · skip
    refine lv_iload_n hx hb dX8_isTongue_4 rfl (lv_at hl 1 rfl) ?_
    refine lv_aload_n hx hb dX8_isTongue_5 rfl (lv_at hl 0 rfl) ?_
    refine va_get (D := g.1) (ci := 8) (v := .ref sk) (C := RX8) (T := TX8) (N := 13) hx hb hts q_X8_isTongue_f8 hown hE.1 hP 0 rfl rfl 4 (by decide) (hts (.fieldLink RX8 23 "SoundLaws" "stock" "LSoundLaws$Stock;") q_X8_isTongue_1) (fun _ h9 => h9) rfl dX8_isTongue_6 ?_
    refine va_get (D := g.1) (ci := 5) (v := .int 0) (C := RX5) (T := TX5) (N := 5) hx hb hts q_X8_isTongue_f5 hown hE.1 hP 1 rfl rfl 1 (by decide) (hts (.fieldLink RX8 234 "SoundLaws$Stock" "tongues" "I") q_X8_isTongue_3) (fun _ h9 => h9) rfl dX8_isTongue_9 ?_
    refine lv_icmp_ge (tgt := 19) hx hb dX8_isTongue_12 (by decide) (fun c12_2 => ?_) (fun c12_2 => ?_)
    · skip
      refine lv_iconst (v := 0) hx hb dX8_isTongue_19 (by decide) ?_
      refine W.widen (k := 0) (n := 0) (Nat.le_of_ble_eq_true rfl) (Nat.le_of_ble_eq_true rfl) ?_
      exact k_rz hx hb hr hlocks hS hP hD rfl ⟨rfl, rfl⟩ dX8_isTongue_20
    · exact (show False from c12_2 (Int32.not_lt.mp c1_1)).elim
def po_X8_isSound (g : GG) (p1 : Int32) : Int32 → va_W → Prop := fun (r : Int32) w => w = [] ∧ (isS p1 = r)
set_option maxHeartbeats 1500000 in
set_option maxRecDepth 100000 in
theorem c_X8_isSound (l : Launch) (g : GG) (p1 : Int32)  (sz : Nat) : MetI l yX8_isSound wsX8_isSound ({ frames := 0, cells := 0, slots := 0, locals := 0 }) g [.int p1] [] sz (po_X8_isSound g p1) 0 0 := by
  refine k_of (l := l) (y := yX8_isSound) (ws := wsX8_isSound) (rm := { frames := 0, cells := 0, slots := 0, locals := 0 }) (mc := 0) (ms := 0) (av := [.int p1]) (g := g) (wc := []) (Qc := fun A => va_Qi (po_X8_isSound g p1) (bk g A) A) (cc := cX8_isSound) (maxL := 1) (ret := (some .boolean)) (by decide) rfl (Nat.le_of_ble_eq_true rfl) ?_ sz
  intro p e s m below meth c hx hb hr hts hown hlocks hnm hml A hA hE hZ hP hD hS ls hl
  have hown : s.vm.findClass RX8 = some m.cls := hown
  have hl : lv_has ls 1 [(0, .int p1)] := hl
  refine lv_iload_n hx hb dX8_isSound_0 rfl (lv_at hl 0 rfl) ?_
  refine lv_if_lt (tgt := 14) hx hb dX8_isSound_1 (by decide) (fun c1_1 => ?_) (fun c1_1 => ?_)
  · skip
    refine lv_iconst (v := 0) hx hb dX8_isSound_14 (by decide) ?_
    refine W.widen (k := 0) (n := 0) (Nat.le_of_ble_eq_true rfl) (Nat.le_of_ble_eq_true rfl) ?_
    exact k_rz hx hb hr hlocks hS hP hD rfl ⟨rfl, (by unfold isS; rw [if_pos (Or.inl c1_1)])⟩ dX8_isSound_15
  · skip
    refine lv_iload_n hx hb dX8_isSound_4 rfl (lv_at hl 0 rfl) ?_
    refine lv_bipush (v := 9) hx hb dX8_isSound_5 (by decide) ?_
    refine lv_icmp_ge (tgt := 14) hx hb dX8_isSound_7 (by decide) (fun c7_2 => ?_) (fun c7_2 => ?_)
    · skip
      refine lv_iconst (v := 0) hx hb dX8_isSound_14 (by decide) ?_
      refine W.widen (k := 0) (n := 0) (Nat.le_of_ble_eq_true rfl) (Nat.le_of_ble_eq_true rfl) ?_
      exact k_rz hx hb hr hlocks hS hP hD rfl ⟨rfl, (by unfold isS; rw [if_pos (Or.inr (i_nlt c7_2))])⟩ dX8_isSound_15
    · skip
      refine lv_iconst (v := 1) hx hb dX8_isSound_10 (by decide) ?_
      refine lv_goto (tgt := 15) hx hb dX8_isSound_11 (by decide) ?_
      refine W.widen (k := 0) (n := 0) (Nat.le_of_ble_eq_true rfl) (Nat.le_of_ble_eq_true rfl) ?_
      exact k_rz hx hb hr hlocks hS hP hD rfl ⟨rfl, (by unfold isS; rw [if_neg (fun h => h.elim c1_1 (fun q => c7_2 (Int32.not_lt.mp q)))])⟩ dX8_isSound_15
def po_X8_costOf (g : GG) (i : Nat) (j : Nat) : Int32 → va_W → Prop := fun (r : Int32) w => w = [] ∧ (cs i j = r)
theorem q_X8_costOf_0 : (Cond.fieldLink RX8 288 "SoundLaws" "COSTS" "[I") ∈ wsX8_costOf := by decide +kernel
set_option maxHeartbeats 1500000 in
set_option maxRecDepth 100000 in
theorem c_X8_costOf (l : Launch) (g : GG) (i : Nat) (j : Nat) (hi : i < 9) (hj : j < 9) (sz : Nat) : MetI l yX8_costOf wsX8_costOf ({ frames := 0, cells := 0, slots := 0, locals := 0 }) g [.int (nI i), .int (nI j)] [] sz (po_X8_costOf g i j) 0 0 := by
  refine k_of (l := l) (y := yX8_costOf) (ws := wsX8_costOf) (rm := { frames := 0, cells := 0, slots := 0, locals := 0 }) (mc := 0) (ms := 0) (av := [.int (nI i), .int (nI j)]) (g := g) (wc := []) (Qc := fun A => va_Qi (po_X8_costOf g i j) (bk g A) A) (cc := cX8_costOf) (maxL := 2) (ret := (some .int)) (by decide) rfl (Nat.le_of_ble_eq_true rfl) ?_ sz
  intro p e s m below meth c hx hb hr hts hown hlocks hnm hml A hA hE hZ hP hD hS ls hl
  have hown : s.vm.findClass RX8 = some m.cls := hown
  have hl : lv_has ls 2 [(0, .int (nI i)), (1, .int (nI j))] := hl
  refine va_gets hx hb hZ.zCOSTS hS hown (hts (.fieldLink RX8 288 "SoundLaws" "COSTS" "[I") q_X8_costOf_0) (fun _ h9 => h9) dX8_costOf_0 ?_
  refine lv_iload_n hx hb dX8_costOf_3 rfl (lv_at hl 0 rfl) ?_
  refine lv_bipush (v := 9) hx hb dX8_costOf_4 (by decide) ?_
  refine lv_imul hx hb dX8_costOf_6 ?_
  refine lv_iload_n hx hb dX8_costOf_7 rfl (lv_at hl 1 rfl) ?_
  refine lv_iadd hx hb dX8_costOf_8 ?_
  refine k_tld (9 * i + j) (by rw [show (9 : Int32) = nI 9 from rfl, pk_mul, nI_add, Nat.mul_comm]) (by omega) hx hb hZ.tCOSTS hS (by decide) (v := tb_COSTS.getD (9 * i + j) 0) rfl dX8_costOf_9 ?_
  refine W.widen (k := 0) (n := 0) (Nat.le_of_ble_eq_true rfl) (Nat.le_of_ble_eq_true rfl) ?_
  exact k_ri hx hb hr hlocks hS hP hD ⟨rfl, rfl⟩ dX8_costOf_10
def po_X4_clear (g : GG) (h0 : Nat) (q1 : Nat) (q2 : Nat) (q3 : Nat) (z : Int32) : va_W → Prop := fun w => w = [(h0, .inr (4, [.int 0, .ref q1, .ref q2, .ref q3]))]
theorem q_X4_clear_f4 : ∀ w ∈ u_ws RX4 TX4 4, w ∈ wsX4_clear := by decide +kernel
theorem q_X4_clear_1 : (Cond.fieldLink RX4 22 "SoundLaws$Sightings" "size" "I") ∈ wsX4_clear := by decide +kernel
set_option maxHeartbeats 1500000 in
set_option maxRecDepth 100000 in
theorem c_X4_clear (l : Launch) (g : GG) (h0 : Nat) (q1 : Nat) (q2 : Nat) (q3 : Nat) (z : Int32)  (sz : Nat) : MetV l yX4_clear wsX4_clear ({ frames := 0, cells := 0, slots := 0, locals := 0 }) g [.ref h0] [(h0, .inr (4, [.int z, .ref q1, .ref q2, .ref q3]))] sz (po_X4_clear g h0 q1 q2 q3 z) 0 0 := by
  refine k_of (l := l) (y := yX4_clear) (ws := wsX4_clear) (rm := { frames := 0, cells := 0, slots := 0, locals := 0 }) (mc := 0) (ms := 0) (av := [.ref h0]) (g := g) (wc := [(h0, .inr (4, [.int z, .ref q1, .ref q2, .ref q3]))]) (Qc := fun A => va_Qv (po_X4_clear g h0 q1 q2 q3 z) (bk g A) A) (cc := cX4_clear) (maxL := 1) (ret := none) (by decide) rfl (Nat.le_of_ble_eq_true rfl) ?_ sz
  intro p e s m below meth c hx hb hr hts hown hlocks hnm hml A hA hE hZ hP hD hS ls hl
  have hown : s.vm.findClass RX4 = some m.cls := hown
  have hl : lv_has ls 1 [(0, .ref h0)] := hl
  refine lv_aload_n hx hb dX4_clear_0 rfl (lv_at hl 0 rfl) ?_
  refine lv_iconst (v := 0) hx hb dX4_clear_1 (by decide) ?_
  refine va_put (D := g.1) (ci := 4) (v := .int 0) (ty := .int) (C := RX4) (T := TX4) (N := 4) hx hb hts q_X4_clear_f4 tyX4 tyX4_ok nmX4 hown hE.1 hP hD hS 0 rfl rfl 0 (by decide) (hts (.fieldLink RX4 22 "SoundLaws$Sightings" "size" "I") q_X4_clear_1) (fun _ h9 => h9) rfl (by decide +kernel) rfl rfl (Nat.le_of_ble_eq_true rfl) dX4_clear_2 (fun H locs hP hD hS => ?_)
  have hP : va_P g.1 vwCl [(h0, .inr (4, [.int 0, .ref q1, .ref q2, .ref q3]))] H := hP
  have hD : va_D A [(h0, .inr (4, [.int 0, .ref q1, .ref q2, .ref q3]))] := hD
  refine W.widen (k := 0) (n := 0) (Nat.le_of_ble_eq_true rfl) (Nat.le_of_ble_eq_true rfl) ?_
  exact k_rv hx hb hr hlocks hS hP hD rfl dX4_clear_5
def po_X8_letter (g : GG) (h0 : Nat) (pg : Nat) (rd : Nat) (sk : Nat) (si : Nat) (sy : Nat) (ks : Nat) (ki : Nat) (al : Nat) (dr : Nat) (p1 : Int32) : Int32 → va_W → Prop := fun (r : Int32) w => w = [] ∧ (rLet p1 = r)
theorem q_X8_letter_f8 : ∀ w ∈ u_ws RX8 TX8 13, w ∈ wsX8_letter := by decide +kernel
theorem q_X8_letter_1 : (Cond.fieldLink RX8 61 "SoundLaws" "letters" "I") ∈ wsX8_letter := by decide +kernel
theorem q_X8_letter_2 : (Cond.fieldLink RX8 9 "SoundLaws" "page" "[I") ∈ wsX8_letter := by decide +kernel
set_option maxHeartbeats 1500000 in
set_option maxRecDepth 100000 in
theorem c_X8_letter (l : Launch) (g : GG) (h0 : Nat) (pg : Nat) (rd : Nat) (sk : Nat) (si : Nat) (sy : Nat) (ks : Nat) (ki : Nat) (al : Nat) (dr : Nat) (p1 : Int32)  (sz : Nat) : MetI l yX8_letter wsX8_letter ({ frames := 0, cells := 0, slots := 0, locals := 0 }) g [.ref h0, .int p1] [(h0, .inr (8, [.ref pg, .int 0, .ref rd, .int 0, .ref sk, .ref si, .ref sy, .int 0, .ref ks, .ref ki, .int 0, .ref al, .ref dr])), (pg, ai g 110 (fun _ => 0))] sz (po_X8_letter g h0 pg rd sk si sy ks ki al dr p1) 0 0 := by
  refine k_of (l := l) (y := yX8_letter) (ws := wsX8_letter) (rm := { frames := 0, cells := 0, slots := 0, locals := 0 }) (mc := 0) (ms := 0) (av := [.ref h0, .int p1]) (g := g) (wc := [(h0, .inr (8, [.ref pg, .int 0, .ref rd, .int 0, .ref sk, .ref si, .ref sy, .int 0, .ref ks, .ref ki, .int 0, .ref al, .ref dr])), (pg, ai g 110 (fun _ => 0))]) (Qc := fun A => va_Qi (po_X8_letter g h0 pg rd sk si sy ks ki al dr p1) (bk g A) A) (cc := cX8_letter) (maxL := 2) (ret := (some .int)) (by decide) rfl (Nat.le_of_ble_eq_true rfl) ?_ sz
  intro p e s m below meth c hx hb hr hts hown hlocks hnm hml A hA hE hZ hP hD hS ls hl
  have hown : s.vm.findClass RX8 = some m.cls := hown
  have hl : lv_has ls 2 [(0, .ref h0), (1, .int p1)] := hl
  refine lv_iload_n hx hb dX8_letter_0 rfl (lv_at hl 1 rfl) ?_
  refine lv_iconst (v := 1) hx hb dX8_letter_1 (by decide) ?_
  refine lv_icmp_lt (tgt := 11) hx hb dX8_letter_2 (by decide) (fun c2_1 => ?_) (fun c2_1 => ?_)
  · skip
    refine lv_bipush (v := (-102)) hx hb dX8_letter_11 (by decide) ?_
    refine W.widen (k := 0) (n := 0) (Nat.le_of_ble_eq_true rfl) (Nat.le_of_ble_eq_true rfl) ?_
    have hP9 := hP.sub (ws' := []) [] rfl
    have hD9 := hD.sub (ws' := []) [] (by decide) rfl
    exact k_ri hx hb hr hlocks hS hP9 hD9 ⟨rfl, (by unfold rLet; rw [if_pos (Or.inl c2_1)])⟩ dX8_letter_13
  · skip
    refine lv_iload_n hx hb dX8_letter_5 rfl (lv_at hl 1 rfl) ?_
    refine lv_bipush (v := 126) hx hb dX8_letter_6 (by decide) ?_
    refine lv_icmp_le (tgt := 14) hx hb dX8_letter_8 (by decide) (fun c8_2 => ?_) (fun c8_2 => ?_)
    · skip
      refine lv_aload_n hx hb dX8_letter_14 rfl (lv_at hl 0 rfl) ?_
      refine va_get (D := g.1) (ci := 8) (v := .int 0) (C := RX8) (T := TX8) (N := 13) hx hb hts q_X8_letter_f8 hown hE.1 hP 0 rfl rfl 1 (by decide) (hts (.fieldLink RX8 61 "SoundLaws" "letters" "I") q_X8_letter_1) (fun _ h9 => h9) rfl dX8_letter_15 ?_
      refine lv_bipush (v := 110) hx hb dX8_letter_18 (by decide) ?_
      refine lv_icmp_lt (tgt := 26) hx hb dX8_letter_20 (by decide) (fun c20_3 => ?_) (fun c20_3 => ?_)
      · skip
        refine lv_aload_n hx hb dX8_letter_26 rfl (lv_at hl 0 rfl) ?_
        refine va_get (D := g.1) (ci := 8) (v := .ref pg) (C := RX8) (T := TX8) (N := 13) hx hb hts q_X8_letter_f8 hown hE.1 hP 0 rfl rfl 0 (by decide) (hts (.fieldLink RX8 9 "SoundLaws" "page" "[I") q_X8_letter_2) (fun _ h9 => h9) rfl dX8_letter_27 ?_
        refine lv_aload_n hx hb dX8_letter_30 rfl (lv_at hl 0 rfl) ?_
        refine va_get (D := g.1) (ci := 8) (v := .int 0) (C := RX8) (T := TX8) (N := 13) hx hb hts q_X8_letter_f8 hown hE.1 hP 0 rfl rfl 1 (by decide) (hts (.fieldLink RX8 61 "SoundLaws" "letters" "I") q_X8_letter_1) (fun _ h9 => h9) rfl dX8_letter_31 ?_
        refine lv_iload_n hx hb dX8_letter_34 rfl (lv_at hl 1 rfl) ?_
        refine k_ast (x := p1) 0 (by decide) (by decide) hx hb hE hP hD hS 1 rfl (by decide) dX8_letter_35 (fun H locs hP hD hS => ?_)
        have hP : va_P g.1 vwCl [(h0, .inr (8, [.ref pg, .int 0, .ref rd, .int 0, .ref sk, .ref si, .ref sy, .int 0, .ref ks, .ref ki, .int 0, .ref al, .ref dr])), (pg, ai g 110 (upd (fun _ => 0) 0 p1))] H := hP
        have hD : va_D A [(h0, .inr (8, [.ref pg, .int 0, .ref rd, .int 0, .ref sk, .ref si, .ref sy, .int 0, .ref ks, .ref ki, .int 0, .ref al, .ref dr])), (pg, ai g 110 (upd (fun _ => 0) 0 p1))] := hD
        refine lv_aload_n hx hb dX8_letter_36 rfl (lv_at hl 0 rfl) ?_
        refine lv_dup hx hb dX8_letter_37 rfl ?_
        refine va_get (D := g.1) (ci := 8) (v := .int 0) (C := RX8) (T := TX8) (N := 13) hx hb hts q_X8_letter_f8 hown hE.1 hP 0 rfl rfl 1 (by decide) (hts (.fieldLink RX8 61 "SoundLaws" "letters" "I") q_X8_letter_1) (fun _ h9 => h9) rfl dX8_letter_38 ?_
        refine lv_iconst (v := 1) hx hb dX8_letter_41 (by decide) ?_
        refine lv_iadd hx hb dX8_letter_42 ?_
        refine lv_topi (fun x_4 ex_4 => ?_)
        obtain rfl : x_4 = 1 := ex_4.trans (by decide)
        refine va_put (D := g.1) (ci := 8) (v := .int 1) (ty := .int) (C := RX8) (T := TX8) (N := 13) hx hb hts q_X8_letter_f8 tyX8 tyX8_ok nmX8 hown hE.1 hP hD hS 0 rfl rfl 1 (by decide) (hts (.fieldLink RX8 61 "SoundLaws" "letters" "I") q_X8_letter_1) (fun _ h9 => h9) rfl (by decide +kernel) rfl rfl (Nat.le_of_ble_eq_true rfl) dX8_letter_43 (fun H locs hP hD hS => ?_)
        have hP : va_P g.1 vwCl [(h0, .inr (8, [.ref pg, .int 1, .ref rd, .int 0, .ref sk, .ref si, .ref sy, .int 0, .ref ks, .ref ki, .int 0, .ref al, .ref dr])), (pg, ai g 110 (upd (fun _ => 0) 0 p1))] H := hP
        have hD : va_D A [(h0, .inr (8, [.ref pg, .int 1, .ref rd, .int 0, .ref sk, .ref si, .ref sy, .int 0, .ref ks, .ref ki, .int 0, .ref al, .ref dr])), (pg, ai g 110 (upd (fun _ => 0) 0 p1))] := hD
        refine lv_aload_n hx hb dX8_letter_46 rfl (lv_at hl 0 rfl) ?_
        refine va_get (D := g.1) (ci := 8) (v := .int 1) (C := RX8) (T := TX8) (N := 13) hx hb hts q_X8_letter_f8 hown hE.1 hP 0 rfl rfl 1 (by decide) (hts (.fieldLink RX8 61 "SoundLaws" "letters" "I") q_X8_letter_1) (fun _ h9 => h9) rfl dX8_letter_47 ?_
        refine W.widen (k := 0) (n := 0) (Nat.le_of_ble_eq_true rfl) (Nat.le_of_ble_eq_true rfl) ?_
        have hP9 := hP.sub (ws' := []) [] rfl
        have hD9 := hD.sub (ws' := []) [] (by decide) rfl
        exact k_ri hx hb hr hlocks hS hP9 hD9 ⟨rfl, (by unfold rLet; rw [if_neg (fun h => h.elim c2_1 (i_nlt c8_2))])⟩ dX8_letter_50
      · exact absurd c20_3 (by decide)
    · skip
      refine lv_bipush (v := (-102)) hx hb dX8_letter_11 (by decide) ?_
      refine W.widen (k := 0) (n := 0) (Nat.le_of_ble_eq_true rfl) (Nat.le_of_ble_eq_true rfl) ?_
      have hP9 := hP.sub (ws' := []) [] rfl
      have hD9 := hD.sub (ws' := []) [] (by decide) rfl
      exact k_ri hx hb hr hlocks hS hP9 hD9 ⟨rfl, (by unfold rLet; rw [if_pos (Or.inr (i_nle c8_2))])⟩ dX8_letter_13
def po_X8_blank (g : GG) (h0 : Nat) (pg : Nat) (rd : Nat) (sk : Nat) (si : Nat) (sy : Nat) (ks : Nat) (ki : Nat) (al : Nat) (dr : Nat) : Int32 → va_W → Prop := fun (r : Int32) w => w = [] ∧ (0 = r)
theorem q_X8_blank_f8 : ∀ w ∈ u_ws RX8 TX8 13, w ∈ wsX8_blank := by decide +kernel
theorem q_X8_blank_1 : (Cond.fieldLink RX8 61 "SoundLaws" "letters" "I") ∈ wsX8_blank := by decide +kernel
set_option maxHeartbeats 1500000 in
set_option maxRecDepth 100000 in
theorem c_X8_blank (l : Launch) (g : GG) (h0 : Nat) (pg : Nat) (rd : Nat) (sk : Nat) (si : Nat) (sy : Nat) (ks : Nat) (ki : Nat) (al : Nat) (dr : Nat)  (sz : Nat) : MetI l yX8_blank wsX8_blank ({ frames := 0, cells := 0, slots := 0, locals := 0 }) g [.ref h0] [(h0, .inr (8, [.ref pg, .int 0, .ref rd, .int 0, .ref sk, .ref si, .ref sy, .int 0, .ref ks, .ref ki, .int 0, .ref al, .ref dr]))] sz (po_X8_blank g h0 pg rd sk si sy ks ki al dr) 0 0 := by
  refine k_of (l := l) (y := yX8_blank) (ws := wsX8_blank) (rm := { frames := 0, cells := 0, slots := 0, locals := 0 }) (mc := 0) (ms := 0) (av := [.ref h0]) (g := g) (wc := [(h0, .inr (8, [.ref pg, .int 0, .ref rd, .int 0, .ref sk, .ref si, .ref sy, .int 0, .ref ks, .ref ki, .int 0, .ref al, .ref dr]))]) (Qc := fun A => va_Qi (po_X8_blank g h0 pg rd sk si sy ks ki al dr) (bk g A) A) (cc := cX8_blank) (maxL := 2) (ret := (some .int)) (by decide) rfl (Nat.le_of_ble_eq_true rfl) ?_ sz
  intro p e s m below meth c hx hb hr hts hown hlocks hnm hml A hA hE hZ hP hD hS ls hl
  have hown : s.vm.findClass RX8 = some m.cls := hown
  have hl : lv_has ls 2 [(0, .ref h0)] := hl
  refine lv_aload_n hx hb dX8_blank_0 rfl (lv_at hl 0 rfl) ?_
  refine va_get (D := g.1) (ci := 8) (v := .int 0) (C := RX8) (T := TX8) (N := 13) hx hb hts q_X8_blank_f8 hown hE.1 hP 0 rfl rfl 1 (by decide) (hts (.fieldLink RX8 61 "SoundLaws" "letters" "I") q_X8_blank_1) (fun _ h9 => h9) rfl dX8_blank_1 ?_
  refine lv_istore_n (lv' := [(1, .int 0), (0, .ref h0)]) hx hb dX8_blank_4 rfl hl (by decide) rfl (fun ls hl => ?_)
  refine lv_aload_n hx hb dX8_blank_5 rfl (lv_at hl 1 rfl) ?_
  refine lv_iconst (v := 0) hx hb dX8_blank_6 (by decide) ?_
  refine va_put (D := g.1) (ci := 8) (v := .int 0) (ty := .int) (C := RX8) (T := TX8) (N := 13) hx hb hts q_X8_blank_f8 tyX8 tyX8_ok nmX8 hown hE.1 hP hD hS 0 rfl rfl 1 (by decide) (hts (.fieldLink RX8 61 "SoundLaws" "letters" "I") q_X8_blank_1) (fun _ h9 => h9) rfl (by decide +kernel) rfl rfl (Nat.le_of_ble_eq_true rfl) dX8_blank_7 (fun H locs hP hD hS => ?_)
  have hP : va_P g.1 vwCl [(h0, .inr (8, [.ref pg, .int 0, .ref rd, .int 0, .ref sk, .ref si, .ref sy, .int 0, .ref ks, .ref ki, .int 0, .ref al, .ref dr]))] H := hP
  have hD : va_D A [(h0, .inr (8, [.ref pg, .int 0, .ref rd, .int 0, .ref sk, .ref si, .ref sy, .int 0, .ref ks, .ref ki, .int 0, .ref al, .ref dr]))] := hD
  refine lv_iload_n hx hb dX8_blank_10 rfl (lv_at hl 0 rfl) ?_
  refine W.widen (k := 0) (n := 0) (Nat.le_of_ble_eq_true rfl) (Nat.le_of_ble_eq_true rfl) ?_
  have hP9 := hP.sub (ws' := []) [] rfl
  have hD9 := hD.sub (ws' := []) [] (by decide) rfl
  exact k_ri hx hb hr hlocks hS hP9 hD9 ⟨rfl, rfl⟩ dX8_blank_11
def po_X3_start (g : GG) (rd : Nat) (rt : Nat) (rt1 : Nat) (rt2 : Nat) (rt3 : Nat) : va_W → Prop := fun w => w = [(rd, .inr (3, [.ref rt, .int 1, .int 0, .int 0, .int 0, .int 0, .int 0])), (rt, .inr (5, [.int 0, .int 0, .ref rt1, .ref rt2, .ref rt3]))]
theorem q_X3_start_f3 : ∀ w ∈ u_ws RX3 TX3 7, w ∈ wsX3_start := by decide +kernel
theorem q_X3_start_1 : (Cond.fieldLink RX3 12 "SoundLaws$Reader" "draft" "LSoundLaws$Stock;") ∈ wsX3_start := by decide +kernel
theorem q_X3_start_f5 : ∀ w ∈ u_ws RX5 TX5 5, w ∈ wsX3_start := by decide +kernel
theorem q_X3_start_3 : (Cond.fieldLink RX3 18 "SoundLaws$Stock" "size" "I") ∈ wsX3_start := by decide +kernel
theorem q_X3_start_4 : (Cond.fieldLink RX3 22 "SoundLaws$Stock" "tongues" "I") ∈ wsX3_start := by decide +kernel
theorem q_X3_start_5 : (Cond.fieldLink RX3 25 "SoundLaws$Reader" "kindIsDue" "Z") ∈ wsX3_start := by decide +kernel
theorem q_X3_start_6 : (Cond.fieldLink RX3 29 "SoundLaws$Reader" "hasSilentWord" "Z") ∈ wsX3_start := by decide +kernel
set_option maxHeartbeats 1500000 in
set_option maxRecDepth 100000 in
theorem c_X3_start (l : Launch) (g : GG) (rd : Nat) (rt : Nat) (rt1 : Nat) (rt2 : Nat) (rt3 : Nat)  (sz : Nat) : MetV l yX3_start wsX3_start ({ frames := 0, cells := 0, slots := 0, locals := 0 }) g [.ref rd] [(rd, .inr (3, [.ref rt, .int 0, .int 0, .int 0, .int 0, .int 0, .int 0])), (rt, .inr (5, [.int 0, .int 0, .ref rt1, .ref rt2, .ref rt3]))] sz (po_X3_start g rd rt rt1 rt2 rt3) 0 0 := by
  refine k_of (l := l) (y := yX3_start) (ws := wsX3_start) (rm := { frames := 0, cells := 0, slots := 0, locals := 0 }) (mc := 0) (ms := 0) (av := [.ref rd]) (g := g) (wc := [(rd, .inr (3, [.ref rt, .int 0, .int 0, .int 0, .int 0, .int 0, .int 0])), (rt, .inr (5, [.int 0, .int 0, .ref rt1, .ref rt2, .ref rt3]))]) (Qc := fun A => va_Qv (po_X3_start g rd rt rt1 rt2 rt3) (bk g A) A) (cc := cX3_start) (maxL := 1) (ret := none) (by decide) rfl (Nat.le_of_ble_eq_true rfl) ?_ sz
  intro p e s m below meth c hx hb hr hts hown hlocks hnm hml A hA hE hZ hP hD hS ls hl
  have hown : s.vm.findClass RX3 = some m.cls := hown
  have hl : lv_has ls 1 [(0, .ref rd)] := hl
  refine lv_aload_n hx hb dX3_start_0 rfl (lv_at hl 0 rfl) ?_
  refine va_get (D := g.1) (ci := 3) (v := .ref rt) (C := RX3) (T := TX3) (N := 7) hx hb hts q_X3_start_f3 hown hE.1 hP 0 rfl rfl 0 (by decide) (hts (.fieldLink RX3 12 "SoundLaws$Reader" "draft" "LSoundLaws$Stock;") q_X3_start_1) (fun _ h9 => h9) rfl dX3_start_1 ?_
  refine lv_iconst (v := 0) hx hb dX3_start_4 (by decide) ?_
  refine va_put (D := g.1) (ci := 5) (v := .int 0) (ty := .int) (C := RX5) (T := TX5) (N := 5) hx hb hts q_X3_start_f5 tyX5 tyX5_ok nmX5 hown hE.1 hP hD hS 1 rfl rfl 0 (by decide) (hts (.fieldLink RX3 18 "SoundLaws$Stock" "size" "I") q_X3_start_3) (fun _ h9 => h9) rfl (by decide +kernel) rfl rfl (Nat.le_of_ble_eq_true rfl) dX3_start_5 (fun H locs hP hD hS => ?_)
  have hP : va_P g.1 vwCl [(rd, .inr (3, [.ref rt, .int 0, .int 0, .int 0, .int 0, .int 0, .int 0])), (rt, .inr (5, [.int 0, .int 0, .ref rt1, .ref rt2, .ref rt3]))] H := hP
  have hD : va_D A [(rd, .inr (3, [.ref rt, .int 0, .int 0, .int 0, .int 0, .int 0, .int 0])), (rt, .inr (5, [.int 0, .int 0, .ref rt1, .ref rt2, .ref rt3]))] := hD
  refine lv_aload_n hx hb dX3_start_8 rfl (lv_at hl 0 rfl) ?_
  refine va_get (D := g.1) (ci := 3) (v := .ref rt) (C := RX3) (T := TX3) (N := 7) hx hb hts q_X3_start_f3 hown hE.1 hP 0 rfl rfl 0 (by decide) (hts (.fieldLink RX3 12 "SoundLaws$Reader" "draft" "LSoundLaws$Stock;") q_X3_start_1) (fun _ h9 => h9) rfl dX3_start_9 ?_
  refine lv_iconst (v := 0) hx hb dX3_start_12 (by decide) ?_
  refine va_put (D := g.1) (ci := 5) (v := .int 0) (ty := .int) (C := RX5) (T := TX5) (N := 5) hx hb hts q_X3_start_f5 tyX5 tyX5_ok nmX5 hown hE.1 hP hD hS 1 rfl rfl 1 (by decide) (hts (.fieldLink RX3 22 "SoundLaws$Stock" "tongues" "I") q_X3_start_4) (fun _ h9 => h9) rfl (by decide +kernel) rfl rfl (Nat.le_of_ble_eq_true rfl) dX3_start_13 (fun H locs hP hD hS => ?_)
  have hP : va_P g.1 vwCl [(rd, .inr (3, [.ref rt, .int 0, .int 0, .int 0, .int 0, .int 0, .int 0])), (rt, .inr (5, [.int 0, .int 0, .ref rt1, .ref rt2, .ref rt3]))] H := hP
  have hD : va_D A [(rd, .inr (3, [.ref rt, .int 0, .int 0, .int 0, .int 0, .int 0, .int 0])), (rt, .inr (5, [.int 0, .int 0, .ref rt1, .ref rt2, .ref rt3]))] := hD
  refine lv_aload_n hx hb dX3_start_16 rfl (lv_at hl 0 rfl) ?_
  refine lv_iconst (v := 1) hx hb dX3_start_17 (by decide) ?_
  refine va_put (D := g.1) (ci := 3) (v := .int 1) (ty := .boolean) (C := RX3) (T := TX3) (N := 7) hx hb hts q_X3_start_f3 tyX3 tyX3_ok nmX3 hown hE.1 hP hD hS 0 rfl rfl 1 (by decide) (hts (.fieldLink RX3 25 "SoundLaws$Reader" "kindIsDue" "Z") q_X3_start_5) (fun _ h9 => h9) rfl (by decide +kernel) rfl rfl (Nat.le_of_ble_eq_true rfl) dX3_start_18 (fun H locs hP hD hS => ?_)
  have hP : va_P g.1 vwCl [(rd, .inr (3, [.ref rt, .int 1, .int 0, .int 0, .int 0, .int 0, .int 0])), (rt, .inr (5, [.int 0, .int 0, .ref rt1, .ref rt2, .ref rt3]))] H := hP
  have hD : va_D A [(rd, .inr (3, [.ref rt, .int 1, .int 0, .int 0, .int 0, .int 0, .int 0])), (rt, .inr (5, [.int 0, .int 0, .ref rt1, .ref rt2, .ref rt3]))] := hD
  refine lv_aload_n hx hb dX3_start_21 rfl (lv_at hl 0 rfl) ?_
  refine lv_iconst (v := 0) hx hb dX3_start_22 (by decide) ?_
  refine va_put (D := g.1) (ci := 3) (v := .int 0) (ty := .boolean) (C := RX3) (T := TX3) (N := 7) hx hb hts q_X3_start_f3 tyX3 tyX3_ok nmX3 hown hE.1 hP hD hS 0 rfl rfl 6 (by decide) (hts (.fieldLink RX3 29 "SoundLaws$Reader" "hasSilentWord" "Z") q_X3_start_6) (fun _ h9 => h9) rfl (by decide +kernel) rfl rfl (Nat.le_of_ble_eq_true rfl) dX3_start_23 (fun H locs hP hD hS => ?_)
  have hP : va_P g.1 vwCl [(rd, .inr (3, [.ref rt, .int 1, .int 0, .int 0, .int 0, .int 0, .int 0])), (rt, .inr (5, [.int 0, .int 0, .ref rt1, .ref rt2, .ref rt3]))] H := hP
  have hD : va_D A [(rd, .inr (3, [.ref rt, .int 1, .int 0, .int 0, .int 0, .int 0, .int 0])), (rt, .inr (5, [.int 0, .int 0, .ref rt1, .ref rt2, .ref rt3]))] := hD
  refine W.widen (k := 0) (n := 0) (Nat.le_of_ble_eq_true rfl) (Nat.le_of_ble_eq_true rfl) ?_
  exact k_rv hx hb hr hlocks hS hP hD rfl dX3_start_26
def po_X8_readPage (g : GG) (h0 : Nat) (pg : Nat) (rd : Nat) (sk : Nat) (si : Nat) (sy : Nat) (ks : Nat) (ki : Nat) (al : Nat) (dr : Nat) (rt : Nat) (rt1 : Nat) (rt2 : Nat) (rt3 : Nat) : Int32 → va_W → Prop := fun (r : Int32) w => w = [(h0, .inr (8, [.ref pg, .int 0, .ref rd, .int 0, .ref sk, .ref si, .ref sy, .int 0, .ref ks, .ref ki, .int 0, .ref al, .ref dr])), (rd, .inr (3, [.ref rt, .int 1, .int 0, .int 0, .int 0, .int 0, .int 0])), (rt, .inr (5, [.int 0, .int 0, .ref rt1, .ref rt2, .ref rt3]))] ∧ (0 = r)
theorem q_X8_readPage_f8 : ∀ w ∈ u_ws RX8 TX8 13, w ∈ wsX8_readPage := by decide +kernel
theorem q_X8_readPage_1 : (Cond.fieldLink RX8 16 "SoundLaws" "reader" "LSoundLaws$Reader;") ∈ wsX8_readPage := by decide +kernel
theorem q_X8_readPage_2 : (Cond.fieldLink RX8 61 "SoundLaws" "letters" "I") ∈ wsX8_readPage := by decide +kernel
set_option maxHeartbeats 1500000 in
set_option maxRecDepth 100000 in
theorem c_X8_readPage (l : Launch) (g : GG) (h0 : Nat) (pg : Nat) (rd : Nat) (sk : Nat) (si : Nat) (sy : Nat) (ks : Nat) (ki : Nat) (al : Nat) (dr : Nat) (rt : Nat) (rt1 : Nat) (rt2 : Nat) (rt3 : Nat)  (sz : Nat) : MetI l yX8_readPage wsX8_readPage ({ frames := 1, cells := 0, slots := 0, locals := 20 }) g [.ref h0] [(h0, .inr (8, [.ref pg, .int 0, .ref rd, .int 0, .ref sk, .ref si, .ref sy, .int 0, .ref ks, .ref ki, .int 0, .ref al, .ref dr])), (rd, .inr (3, [.ref rt, .int 0, .int 0, .int 0, .int 0, .int 0, .int 0])), (rt, .inr (5, [.int 0, .int 0, .ref rt1, .ref rt2, .ref rt3]))] sz (po_X8_readPage g h0 pg rd sk si sy ks ki al dr rt rt1 rt2 rt3) 0 0 := by
  refine k_of (l := l) (y := yX8_readPage) (ws := wsX8_readPage) (rm := { frames := 1, cells := 0, slots := 0, locals := 20 }) (mc := 0) (ms := 0) (av := [.ref h0]) (g := g) (wc := [(h0, .inr (8, [.ref pg, .int 0, .ref rd, .int 0, .ref sk, .ref si, .ref sy, .int 0, .ref ks, .ref ki, .int 0, .ref al, .ref dr])), (rd, .inr (3, [.ref rt, .int 0, .int 0, .int 0, .int 0, .int 0, .int 0])), (rt, .inr (5, [.int 0, .int 0, .ref rt1, .ref rt2, .ref rt3]))]) (Qc := fun A => va_Qi (po_X8_readPage g h0 pg rd sk si sy ks ki al dr rt rt1 rt2 rt3) (bk g A) A) (cc := cX8_readPage) (maxL := 2) (ret := (some .int)) (by decide) rfl (Nat.le_of_ble_eq_true rfl) ?_ sz
  intro p e s m below meth c hx hb hr hts hown hlocks hnm hml A hA hE hZ hP hD hS ls hl
  have hown : s.vm.findClass RX8 = some m.cls := hown
  have hl : lv_has ls 2 [(0, .ref h0)] := hl
  refine lv_aload_n hx hb dX8_readPage_0 rfl (lv_at hl 0 rfl) ?_
  refine va_get (D := g.1) (ci := 8) (v := .ref rd) (C := RX8) (T := TX8) (N := 13) hx hb hts q_X8_readPage_f8 hown hE.1 hP 0 rfl rfl 2 (by decide) (hts (.fieldLink RX8 16 "SoundLaws" "reader" "LSoundLaws$Reader;") q_X8_readPage_1) (fun _ h9 => h9) rfl dX8_readPage_1 ?_
  refine k_cv (wr := [(h0, .inr (8, [.ref pg, .int 0, .ref rd, .int 0, .ref sk, .ref si, .ref sy, .int 0, .ref ks, .ref ki, .int 0, .ref al, .ref dr]))]) hP hD hS hA [1, 2] [0] rfl rfl (by decide) (by decide) (va_runV (As := []) (rest := []) ⟨hx, hb, hml, hown, hts⟩ (c_X3_start l g rd rt rt1 rt2 rt3  s.heap.size) (cwV 0 hts gX8_readPage_X3_start rfl rfl rfl (by decide +kernel) ⟨Nat.le_of_ble_eq_true rfl, Nat.le_of_ble_eq_true rfl⟩) (k_preV hE hZ hP hD hS hA [1, 2] rfl (by decide) (va_recv hE.1 hP (ci := 3) (q0 := 1) rfl rfl)) rfl rfl hl.1 rfl (lv_room (Nat.le_of_ble_eq_true rfl)) dX8_readPage_4 ⟨Nat.le_of_ble_eq_true rfl, Nat.le_of_ble_eq_true rfl⟩) (fun w1 H locs hw hP hD hS => ?_)
  obtain rfl := hw
  have hP : va_P g.1 vwCl [(h0, .inr (8, [.ref pg, .int 0, .ref rd, .int 0, .ref sk, .ref si, .ref sy, .int 0, .ref ks, .ref ki, .int 0, .ref al, .ref dr])), (rd, .inr (3, [.ref rt, .int 1, .int 0, .int 0, .int 0, .int 0, .int 0])), (rt, .inr (5, [.int 0, .int 0, .ref rt1, .ref rt2, .ref rt3]))] H := hP
  have hD : va_D A [(h0, .inr (8, [.ref pg, .int 0, .ref rd, .int 0, .ref sk, .ref si, .ref sy, .int 0, .ref ks, .ref ki, .int 0, .ref al, .ref dr])), (rd, .inr (3, [.ref rt, .int 1, .int 0, .int 0, .int 0, .int 0, .int 0])), (rt, .inr (5, [.int 0, .int 0, .ref rt1, .ref rt2, .ref rt3]))] := hD
  refine lv_iconst (v := 0) hx hb dX8_readPage_7 (by decide) ?_
  refine lv_istore_n (lv' := [(1, .int 0), (0, .ref h0)]) hx hb dX8_readPage_8 rfl hl (by decide) rfl (fun ls hl => ?_)
  refine lv_iload_n hx hb dX8_readPage_9 rfl (lv_at hl 0 rfl) ?_
  refine lv_aload_n hx hb dX8_readPage_10 rfl (lv_at hl 1 rfl) ?_
  refine va_get (D := g.1) (ci := 8) (v := .int 0) (C := RX8) (T := TX8) (N := 13) hx hb hts q_X8_readPage_f8 hown hE.1 hP 0 rfl rfl 1 (by decide) (hts (.fieldLink RX8 61 "SoundLaws" "letters" "I") q_X8_readPage_2) (fun _ h9 => h9) rfl dX8_readPage_11 ?_
  refine lv_icmp_ge (tgt := 39) hx hb dX8_readPage_14 (by decide) (fun c14_2 => ?_) (fun c14_2 => ?_)
  · skip
    refine lv_iload_n hx hb dX8_readPage_39 rfl (lv_at hl 0 rfl) ?_
    refine W.widen (k := 0) (n := 0) (Nat.le_of_ble_eq_true rfl) (Nat.le_of_ble_eq_true rfl) ?_
    exact k_ri hx hb hr hlocks hS hP hD ⟨rfl, rfl⟩ dX8_readPage_40
  · exact absurd c14_2 (by decide)
def po_X8_fault (g : GG) (h0 : Nat) (pg : Nat) (rd : Nat) (sk : Nat) (si : Nat) (sy : Nat) (ks : Nat) (ki : Nat) (al : Nat) (dr : Nat) (rt : Nat) (rt1 : Nat) (rt2 : Nat) (rt3 : Nat) : Int32 → va_W → Prop := fun (r : Int32) w => w = [] ∧ (0 = r)
set_option maxHeartbeats 1500000 in
set_option maxRecDepth 100000 in
theorem c_X8_fault (l : Launch) (g : GG) (h0 : Nat) (pg : Nat) (rd : Nat) (sk : Nat) (si : Nat) (sy : Nat) (ks : Nat) (ki : Nat) (al : Nat) (dr : Nat) (rt : Nat) (rt1 : Nat) (rt2 : Nat) (rt3 : Nat)  (sz : Nat) : MetI l yX8_fault wsX8_fault ({ frames := 2, cells := 0, slots := 0, locals := 41 }) g [.ref h0] [(h0, .inr (8, [.ref pg, .int 0, .ref rd, .int 0, .ref sk, .ref si, .ref sy, .int 0, .ref ks, .ref ki, .int 0, .ref al, .ref dr])), (rd, .inr (3, [.ref rt, .int 0, .int 0, .int 0, .int 0, .int 0, .int 0])), (rt, .inr (5, [.int 0, .int 0, .ref rt1, .ref rt2, .ref rt3]))] sz (po_X8_fault g h0 pg rd sk si sy ks ki al dr rt rt1 rt2 rt3) 0 0 := by
  refine k_of (l := l) (y := yX8_fault) (ws := wsX8_fault) (rm := { frames := 2, cells := 0, slots := 0, locals := 41 }) (mc := 0) (ms := 0) (av := [.ref h0]) (g := g) (wc := [(h0, .inr (8, [.ref pg, .int 0, .ref rd, .int 0, .ref sk, .ref si, .ref sy, .int 0, .ref ks, .ref ki, .int 0, .ref al, .ref dr])), (rd, .inr (3, [.ref rt, .int 0, .int 0, .int 0, .int 0, .int 0, .int 0])), (rt, .inr (5, [.int 0, .int 0, .ref rt1, .ref rt2, .ref rt3]))]) (Qc := fun A => va_Qi (po_X8_fault g h0 pg rd sk si sy ks ki al dr rt rt1 rt2 rt3) (bk g A) A) (cc := cX8_fault) (maxL := 1) (ret := (some .int)) (by decide) rfl (Nat.le_of_ble_eq_true rfl) ?_ sz
  intro p e s m below meth c hx hb hr hts hown hlocks hnm hml A hA hE hZ hP hD hS ls hl
  have hown : s.vm.findClass RX8 = some m.cls := hown
  have hl : lv_has ls 1 [(0, .ref h0)] := hl
  refine lv_aload_n hx hb dX8_fault_0 rfl (lv_at hl 0 rfl) ?_
  refine k_ci (wr := []) hP hD hS hA [0, 1, 2] [] rfl rfl (by decide) (by decide) (va_runV (As := []) (rest := []) ⟨hx, hb, hml, hown, hts⟩ (c_X8_readPage l g h0 pg rd sk si sy ks ki al dr rt rt1 rt2 rt3  s.heap.size) (cwV 0 hts gX8_fault_X8_readPage rfl rfl rfl (by decide +kernel) ⟨Nat.le_of_ble_eq_true rfl, Nat.le_of_ble_eq_true rfl⟩) (k_preV hE hZ hP hD hS hA [0, 1, 2] rfl (by decide) (va_recv hE.1 hP (ci := 8) (q0 := 0) rfl rfl)) rfl rfl hl.1 rfl (lv_room (Nat.le_of_ble_eq_true rfl)) dX8_fault_1 ⟨Nat.le_of_ble_eq_true rfl, Nat.le_of_ble_eq_true rfl⟩) (fun r_1 w1 H locs hw hP hD hS => ?_)
  obtain ⟨rfl, rfl⟩ := hw
  have hP : va_P g.1 vwCl [(h0, .inr (8, [.ref pg, .int 0, .ref rd, .int 0, .ref sk, .ref si, .ref sy, .int 0, .ref ks, .ref ki, .int 0, .ref al, .ref dr])), (rd, .inr (3, [.ref rt, .int 1, .int 0, .int 0, .int 0, .int 0, .int 0])), (rt, .inr (5, [.int 0, .int 0, .ref rt1, .ref rt2, .ref rt3]))] H := hP
  have hD : va_D A [(h0, .inr (8, [.ref pg, .int 0, .ref rd, .int 0, .ref sk, .ref si, .ref sy, .int 0, .ref ks, .ref ki, .int 0, .ref al, .ref dr])), (rd, .inr (3, [.ref rt, .int 1, .int 0, .int 0, .int 0, .int 0, .int 0])), (rt, .inr (5, [.int 0, .int 0, .ref rt1, .ref rt2, .ref rt3]))] := hD
  refine W.widen (k := 0) (n := 0) (Nat.le_of_ble_eq_true rfl) (Nat.le_of_ble_eq_true rfl) ?_
  have hP9 := hP.sub (ws' := []) [] rfl
  have hD9 := hD.sub (ws' := []) [] (by decide) rfl
  exact k_ri hx hb hr hlocks hS hP9 hD9 ⟨rfl, rfl⟩ dX8_fault_4
def po_X3_finish (g : GG) (rd : Nat) (rt : Nat) : Int32 → va_W → Prop := fun (r : Int32) w => w = [(rd, .inr (3, [.ref rt, .int 1, .int 0, .int 0, .int 0, .int 0, .int 0]))] ∧ (0 = r)
theorem q_X3_finish_f3 : ∀ w ∈ u_ws RX3 TX3 7, w ∈ wsX3_finish := by decide +kernel
theorem q_X3_finish_1 : (Cond.fieldLink RX3 25 "SoundLaws$Reader" "kindIsDue" "Z") ∈ wsX3_finish := by decide +kernel
set_option maxHeartbeats 1500000 in
set_option maxRecDepth 100000 in
theorem c_X3_finish (l : Launch) (g : GG) (rd : Nat) (rt : Nat)  (sz : Nat) : MetI l yX3_finish wsX3_finish ({ frames := 0, cells := 0, slots := 0, locals := 0 }) g [.ref rd] [(rd, .inr (3, [.ref rt, .int 1, .int 0, .int 0, .int 0, .int 0, .int 0]))] sz (po_X3_finish g rd rt) 0 0 := by
  refine k_of (l := l) (y := yX3_finish) (ws := wsX3_finish) (rm := { frames := 0, cells := 0, slots := 0, locals := 0 }) (mc := 0) (ms := 0) (av := [.ref rd]) (g := g) (wc := [(rd, .inr (3, [.ref rt, .int 1, .int 0, .int 0, .int 0, .int 0, .int 0]))]) (Qc := fun A => va_Qi (po_X3_finish g rd rt) (bk g A) A) (cc := cX3_finish) (maxL := 1) (ret := (some .boolean)) (by decide) rfl (Nat.le_of_ble_eq_true rfl) ?_ sz
  intro p e s m below meth c hx hb hr hts hown hlocks hnm hml A hA hE hZ hP hD hS ls hl
  have hown : s.vm.findClass RX3 = some m.cls := hown
  have hl : lv_has ls 1 [(0, .ref rd)] := hl
  refine lv_aload_n hx hb dX3_finish_0 rfl (lv_at hl 0 rfl) ?_
  refine va_get (D := g.1) (ci := 3) (v := .int 1) (C := RX3) (T := TX3) (N := 7) hx hb hts q_X3_finish_f3 hown hE.1 hP 0 rfl rfl 1 (by decide) (hts (.fieldLink RX3 25 "SoundLaws$Reader" "kindIsDue" "Z") q_X3_finish_1) (fun _ h9 => h9) rfl dX3_finish_1 ?_
  refine lv_if_ne (tgt := 14) hx hb dX3_finish_4 (by decide) (fun c4_1 => ?_) (fun c4_1 => ?_)
  · skip
    refine lv_iconst (v := 0) hx hb dX3_finish_14 (by decide) ?_
    refine W.widen (k := 0) (n := 0) (Nat.le_of_ble_eq_true rfl) (Nat.le_of_ble_eq_true rfl) ?_
    exact k_rz hx hb hr hlocks hS hP hD rfl ⟨rfl, rfl⟩ dX3_finish_15
  · exact absurd c4_1 (by decide)
def po_X8_sets (g : GG) (h0 : Nat) (pg : Nat) (rd : Nat) (sk : Nat) (si : Nat) (sy : Nat) (ks : Nat) (ki : Nat) (al : Nat) (dr : Nat) (rt : Nat) (rt1 : Nat) (rt2 : Nat) (rt3 : Nat) : Int32 → va_W → Prop := fun (r : Int32) w => w = [] ∧ ((-103) = r)
theorem q_X8_sets_f8 : ∀ w ∈ u_ws RX8 TX8 13, w ∈ wsX8_sets := by decide +kernel
theorem q_X8_sets_1 : (Cond.fieldLink RX8 61 "SoundLaws" "letters" "I") ∈ wsX8_sets := by decide +kernel
theorem q_X8_sets_2 : (Cond.fieldLink RX8 16 "SoundLaws" "reader" "LSoundLaws$Reader;") ∈ wsX8_sets := by decide +kernel
set_option maxHeartbeats 1500000 in
set_option maxRecDepth 100000 in
theorem c_X8_sets (l : Launch) (g : GG) (h0 : Nat) (pg : Nat) (rd : Nat) (sk : Nat) (si : Nat) (sy : Nat) (ks : Nat) (ki : Nat) (al : Nat) (dr : Nat) (rt : Nat) (rt1 : Nat) (rt2 : Nat) (rt3 : Nat)  (sz : Nat) : MetI l yX8_sets wsX8_sets ({ frames := 2, cells := 0, slots := 0, locals := 41 }) g [.ref h0] [(h0, .inr (8, [.ref pg, .int 0, .ref rd, .int 0, .ref sk, .ref si, .ref sy, .int 0, .ref ks, .ref ki, .int 0, .ref al, .ref dr])), (rd, .inr (3, [.ref rt, .int 0, .int 0, .int 0, .int 0, .int 0, .int 0])), (rt, .inr (5, [.int 0, .int 0, .ref rt1, .ref rt2, .ref rt3]))] sz (po_X8_sets g h0 pg rd sk si sy ks ki al dr rt rt1 rt2 rt3) 0 0 := by
  refine k_of (l := l) (y := yX8_sets) (ws := wsX8_sets) (rm := { frames := 2, cells := 0, slots := 0, locals := 41 }) (mc := 0) (ms := 0) (av := [.ref h0]) (g := g) (wc := [(h0, .inr (8, [.ref pg, .int 0, .ref rd, .int 0, .ref sk, .ref si, .ref sy, .int 0, .ref ks, .ref ki, .int 0, .ref al, .ref dr])), (rd, .inr (3, [.ref rt, .int 0, .int 0, .int 0, .int 0, .int 0, .int 0])), (rt, .inr (5, [.int 0, .int 0, .ref rt1, .ref rt2, .ref rt3]))]) (Qc := fun A => va_Qi (po_X8_sets g h0 pg rd sk si sy ks ki al dr rt rt1 rt2 rt3) (bk g A) A) (cc := cX8_sets) (maxL := 1) (ret := (some .int)) (by decide) rfl (Nat.le_of_ble_eq_true rfl) ?_ sz
  intro p e s m below meth c hx hb hr hts hown hlocks hnm hml A hA hE hZ hP hD hS ls hl
  have hown : s.vm.findClass RX8 = some m.cls := hown
  have hl : lv_has ls 1 [(0, .ref h0)] := hl
  refine lv_aload_n hx hb dX8_sets_0 rfl (lv_at hl 0 rfl) ?_
  refine k_ci (wr := []) hP hD hS hA [0, 1, 2] [] rfl rfl (by decide) (by decide) (va_runV (As := []) (rest := []) ⟨hx, hb, hml, hown, hts⟩ (c_X8_readPage l g h0 pg rd sk si sy ks ki al dr rt rt1 rt2 rt3  s.heap.size) (cwV 0 hts gX8_sets_X8_readPage rfl rfl rfl (by decide +kernel) ⟨Nat.le_of_ble_eq_true rfl, Nat.le_of_ble_eq_true rfl⟩) (k_preV hE hZ hP hD hS hA [0, 1, 2] rfl (by decide) (va_recv hE.1 hP (ci := 8) (q0 := 0) rfl rfl)) rfl rfl hl.1 rfl (lv_room (Nat.le_of_ble_eq_true rfl)) dX8_sets_1 ⟨Nat.le_of_ble_eq_true rfl, Nat.le_of_ble_eq_true rfl⟩) (fun r_1 w1 H locs hw hP hD hS => ?_)
  obtain ⟨rfl, rfl⟩ := hw
  have hP : va_P g.1 vwCl [(h0, .inr (8, [.ref pg, .int 0, .ref rd, .int 0, .ref sk, .ref si, .ref sy, .int 0, .ref ks, .ref ki, .int 0, .ref al, .ref dr])), (rd, .inr (3, [.ref rt, .int 1, .int 0, .int 0, .int 0, .int 0, .int 0])), (rt, .inr (5, [.int 0, .int 0, .ref rt1, .ref rt2, .ref rt3]))] H := hP
  have hD : va_D A [(h0, .inr (8, [.ref pg, .int 0, .ref rd, .int 0, .ref sk, .ref si, .ref sy, .int 0, .ref ks, .ref ki, .int 0, .ref al, .ref dr])), (rd, .inr (3, [.ref rt, .int 1, .int 0, .int 0, .int 0, .int 0, .int 0])), (rt, .inr (5, [.int 0, .int 0, .ref rt1, .ref rt2, .ref rt3]))] := hD
  refine lv_aload_n hx hb dX8_sets_4 rfl (lv_at hl 0 rfl) ?_
  refine va_get (D := g.1) (ci := 8) (v := .int 0) (C := RX8) (T := TX8) (N := 13) hx hb hts q_X8_sets_f8 hown hE.1 hP 0 rfl rfl 1 (by decide) (hts (.fieldLink RX8 61 "SoundLaws" "letters" "I") q_X8_sets_1) (fun _ h9 => h9) rfl dX8_sets_5 ?_
  refine lv_icmp_lt (tgt := 21) hx hb dX8_sets_8 (by decide) (fun c8_3 => ?_) (fun c8_3 => ?_)
  · exact absurd c8_3 (by decide)
  · skip
    refine lv_aload_n hx hb dX8_sets_11 rfl (lv_at hl 0 rfl) ?_
    refine va_get (D := g.1) (ci := 8) (v := .ref rd) (C := RX8) (T := TX8) (N := 13) hx hb hts q_X8_sets_f8 hown hE.1 hP 0 rfl rfl 2 (by decide) (hts (.fieldLink RX8 16 "SoundLaws" "reader" "LSoundLaws$Reader;") q_X8_sets_2) (fun _ h9 => h9) rfl dX8_sets_12 ?_
    refine k_ci (wr := [(h0, .inr (8, [.ref pg, .int 0, .ref rd, .int 0, .ref sk, .ref si, .ref sy, .int 0, .ref ks, .ref ki, .int 0, .ref al, .ref dr])), (rt, .inr (5, [.int 0, .int 0, .ref rt1, .ref rt2, .ref rt3]))]) hP hD hS hA [1] [0, 2] rfl rfl (by decide) (by decide) (va_runV (As := []) (rest := []) ⟨hx, hb, hml, hown, hts⟩ (c_X3_finish l g rd rt  H.size) (cwV 0 hts gX8_sets_X3_finish rfl rfl rfl (by decide +kernel) ⟨Nat.le_of_ble_eq_true rfl, Nat.le_of_ble_eq_true rfl⟩) (k_preV hE hZ hP hD hS hA [1] rfl (by decide) (va_recv hE.1 hP (ci := 3) (q0 := 1) rfl rfl)) rfl rfl hl.1 rfl (lv_room (Nat.le_of_ble_eq_true rfl)) dX8_sets_15 ⟨Nat.le_of_ble_eq_true rfl, Nat.le_of_ble_eq_true rfl⟩) (fun r_4 w1 H locs hw hP hD hS => ?_)
    obtain ⟨rfl, rfl⟩ := hw
    have hP : va_P g.1 vwCl [(h0, .inr (8, [.ref pg, .int 0, .ref rd, .int 0, .ref sk, .ref si, .ref sy, .int 0, .ref ks, .ref ki, .int 0, .ref al, .ref dr])), (rt, .inr (5, [.int 0, .int 0, .ref rt1, .ref rt2, .ref rt3])), (rd, .inr (3, [.ref rt, .int 1, .int 0, .int 0, .int 0, .int 0, .int 0]))] H := hP
    have hD : va_D A [(h0, .inr (8, [.ref pg, .int 0, .ref rd, .int 0, .ref sk, .ref si, .ref sy, .int 0, .ref ks, .ref ki, .int 0, .ref al, .ref dr])), (rt, .inr (5, [.int 0, .int 0, .ref rt1, .ref rt2, .ref rt3])), (rd, .inr (3, [.ref rt, .int 1, .int 0, .int 0, .int 0, .int 0, .int 0]))] := hD
    refine lv_if_ne (tgt := 24) hx hb dX8_sets_18 (by decide) (fun c18_6 => ?_) (fun c18_6 => ?_)
    · exact absurd c18_6 (by decide)
    · skip
      refine lv_bipush (v := (-103)) hx hb dX8_sets_21 (by decide) ?_
      refine W.widen (k := 0) (n := 0) (Nat.le_of_ble_eq_true rfl) (Nat.le_of_ble_eq_true rfl) ?_
      have hP9 := hP.sub (ws' := []) [] rfl
      have hD9 := hD.sub (ws' := []) [] (by decide) rfl
      exact k_ri hx hb hr hlocks hS hP9 hD9 ⟨rfl, rfl⟩ dX8_sets_23
def po_X8_set (g : GG) (h0 : Nat) (pg : Nat) (rd : Nat) (sk : Nat) (si : Nat) (sy : Nat) (ks : Nat) (ki : Nat) (al : Nat) (dr : Nat) (sk1 : Nat) (sk2 : Nat) (sk3 : Nat) (p1 : Int32) (p2 : Int32) : Int32 → va_W → Prop := fun (r : Int32) w => w = [] ∧ ((-101) = r)
set_option maxHeartbeats 1500000 in
set_option maxRecDepth 100000 in
theorem c_X8_set (l : Launch) (g : GG) (h0 : Nat) (pg : Nat) (rd : Nat) (sk : Nat) (si : Nat) (sy : Nat) (ks : Nat) (ki : Nat) (al : Nat) (dr : Nat) (sk1 : Nat) (sk2 : Nat) (sk3 : Nat) (p1 : Int32) (p2 : Int32)  (sz : Nat) : MetI l yX8_set wsX8_set ({ frames := 1, cells := 0, slots := 0, locals := 21 }) g [.ref h0, .int p1, .int p2] [(h0, .inr (8, [.ref pg, .int 0, .ref rd, .int 0, .ref sk, .ref si, .ref sy, .int 0, .ref ks, .ref ki, .int 0, .ref al, .ref dr])), (sk, .inr (5, [.int 0, .int 0, .ref sk1, .ref sk2, .ref sk3]))] sz (po_X8_set g h0 pg rd sk si sy ks ki al dr sk1 sk2 sk3 p1 p2) 0 0 := by
  refine k_of (l := l) (y := yX8_set) (ws := wsX8_set) (rm := { frames := 1, cells := 0, slots := 0, locals := 21 }) (mc := 0) (ms := 0) (av := [.ref h0, .int p1, .int p2]) (g := g) (wc := [(h0, .inr (8, [.ref pg, .int 0, .ref rd, .int 0, .ref sk, .ref si, .ref sy, .int 0, .ref ks, .ref ki, .int 0, .ref al, .ref dr])), (sk, .inr (5, [.int 0, .int 0, .ref sk1, .ref sk2, .ref sk3]))]) (Qc := fun A => va_Qi (po_X8_set g h0 pg rd sk si sy ks ki al dr sk1 sk2 sk3 p1 p2) (bk g A) A) (cc := cX8_set) (maxL := 3) (ret := (some .int)) (by decide) rfl (Nat.le_of_ble_eq_true rfl) ?_ sz
  intro p e s m below meth c hx hb hr hts hown hlocks hnm hml A hA hE hZ hP hD hS ls hl
  have hown : s.vm.findClass RX8 = some m.cls := hown
  have hl : lv_has ls 3 [(0, .ref h0), (1, .int p1), (2, .int p2)] := hl
  refine lv_aload_n hx hb dX8_set_0 rfl (lv_at hl 0 rfl) ?_
  refine lv_iload_n hx hb dX8_set_1 rfl (lv_at hl 1 rfl) ?_
  refine k_ci (wr := []) hP hD hS hA [0, 1] [] rfl rfl (by decide) (by decide) (va_runV (As := [.int p1]) (rest := []) ⟨hx, hb, hml, hown, hts⟩ (c_X8_isSet l g h0 pg rd sk si sy ks ki al dr sk1 sk2 sk3 p1  s.heap.size) (cwV 1 hts gX8_set_X8_isSet rfl rfl rfl (by decide +kernel) ⟨Nat.le_of_ble_eq_true rfl, Nat.le_of_ble_eq_true rfl⟩) (k_preV hE hZ hP hD hS hA [0, 1] rfl (by decide) (va_recv hE.1 hP (ci := 8) (q0 := 0) rfl rfl)) rfl rfl hl.1 rfl (lv_room (Nat.le_of_ble_eq_true rfl)) dX8_set_2 ⟨Nat.le_of_ble_eq_true rfl, Nat.le_of_ble_eq_true rfl⟩) (fun r_1 w1 H locs hw hP hD hS => ?_)
  obtain ⟨rfl, rfl⟩ := hw
  have hP : va_P g.1 vwCl [(h0, .inr (8, [.ref pg, .int 0, .ref rd, .int 0, .ref sk, .ref si, .ref sy, .int 0, .ref ks, .ref ki, .int 0, .ref al, .ref dr])), (sk, .inr (5, [.int 0, .int 0, .ref sk1, .ref sk2, .ref sk3]))] H := hP
  have hD : va_D A [(h0, .inr (8, [.ref pg, .int 0, .ref rd, .int 0, .ref sk, .ref si, .ref sy, .int 0, .ref ks, .ref ki, .int 0, .ref al, .ref dr])), (sk, .inr (5, [.int 0, .int 0, .ref sk1, .ref sk2, .ref sk3]))] := hD
  refine lv_if_ne (tgt := 11) hx hb dX8_set_5 (by decide) (fun c5_3 => ?_) (fun c5_3 => ?_)
  · exact absurd c5_3 (by decide)
  · skip
    refine lv_bipush (v := (-101)) hx hb dX8_set_8 (by decide) ?_
    refine W.widen (k := 0) (n := 0) (Nat.le_of_ble_eq_true rfl) (Nat.le_of_ble_eq_true rfl) ?_
    have hP9 := hP.sub (ws' := []) [] rfl
    have hD9 := hD.sub (ws' := []) [] (by decide) rfl
    exact k_ri hx hb hr hlocks hS hP9 hD9 ⟨rfl, rfl⟩ dX8_set_10
def po_X8_as (g : GG) (h0 : Nat) (pg : Nat) (rd : Nat) (sk : Nat) (si : Nat) (sy : Nat) (ks : Nat) (ki : Nat) (al : Nat) (dr : Nat) (sk1 : Nat) (sk2 : Nat) (sk3 : Nat) (p1 : Int32) (p2 : Int32) : Int32 → va_W → Prop := fun (r : Int32) w => w = [] ∧ ((-101) = r)
set_option maxHeartbeats 1500000 in
set_option maxRecDepth 100000 in
theorem c_X8_as (l : Launch) (g : GG) (h0 : Nat) (pg : Nat) (rd : Nat) (sk : Nat) (si : Nat) (sy : Nat) (ks : Nat) (ki : Nat) (al : Nat) (dr : Nat) (sk1 : Nat) (sk2 : Nat) (sk3 : Nat) (p1 : Int32) (p2 : Int32)  (sz : Nat) : MetI l yX8_as wsX8_as ({ frames := 1, cells := 0, slots := 0, locals := 21 }) g [.ref h0, .int p1, .int p2] [(h0, .inr (8, [.ref pg, .int 0, .ref rd, .int 0, .ref sk, .ref si, .ref sy, .int 0, .ref ks, .ref ki, .int 0, .ref al, .ref dr])), (sk, .inr (5, [.int 0, .int 0, .ref sk1, .ref sk2, .ref sk3]))] sz (po_X8_as g h0 pg rd sk si sy ks ki al dr sk1 sk2 sk3 p1 p2) 0 0 := by
  refine k_of (l := l) (y := yX8_as) (ws := wsX8_as) (rm := { frames := 1, cells := 0, slots := 0, locals := 21 }) (mc := 0) (ms := 0) (av := [.ref h0, .int p1, .int p2]) (g := g) (wc := [(h0, .inr (8, [.ref pg, .int 0, .ref rd, .int 0, .ref sk, .ref si, .ref sy, .int 0, .ref ks, .ref ki, .int 0, .ref al, .ref dr])), (sk, .inr (5, [.int 0, .int 0, .ref sk1, .ref sk2, .ref sk3]))]) (Qc := fun A => va_Qi (po_X8_as g h0 pg rd sk si sy ks ki al dr sk1 sk2 sk3 p1 p2) (bk g A) A) (cc := cX8_as) (maxL := 3) (ret := (some .int)) (by decide) rfl (Nat.le_of_ble_eq_true rfl) ?_ sz
  intro p e s m below meth c hx hb hr hts hown hlocks hnm hml A hA hE hZ hP hD hS ls hl
  have hown : s.vm.findClass RX8 = some m.cls := hown
  have hl : lv_has ls 3 [(0, .ref h0), (1, .int p1), (2, .int p2)] := hl
  refine lv_aload_n hx hb dX8_as_0 rfl (lv_at hl 0 rfl) ?_
  refine lv_iload_n hx hb dX8_as_1 rfl (lv_at hl 1 rfl) ?_
  refine k_ci (wr := []) hP hD hS hA [0, 1] [] rfl rfl (by decide) (by decide) (va_runV (As := [.int p1]) (rest := []) ⟨hx, hb, hml, hown, hts⟩ (c_X8_isSet l g h0 pg rd sk si sy ks ki al dr sk1 sk2 sk3 p1  s.heap.size) (cwV 1 hts gX8_as_X8_isSet rfl rfl rfl (by decide +kernel) ⟨Nat.le_of_ble_eq_true rfl, Nat.le_of_ble_eq_true rfl⟩) (k_preV hE hZ hP hD hS hA [0, 1] rfl (by decide) (va_recv hE.1 hP (ci := 8) (q0 := 0) rfl rfl)) rfl rfl hl.1 rfl (lv_room (Nat.le_of_ble_eq_true rfl)) dX8_as_2 ⟨Nat.le_of_ble_eq_true rfl, Nat.le_of_ble_eq_true rfl⟩) (fun r_1 w1 H locs hw hP hD hS => ?_)
  obtain ⟨rfl, rfl⟩ := hw
  have hP : va_P g.1 vwCl [(h0, .inr (8, [.ref pg, .int 0, .ref rd, .int 0, .ref sk, .ref si, .ref sy, .int 0, .ref ks, .ref ki, .int 0, .ref al, .ref dr])), (sk, .inr (5, [.int 0, .int 0, .ref sk1, .ref sk2, .ref sk3]))] H := hP
  have hD : va_D A [(h0, .inr (8, [.ref pg, .int 0, .ref rd, .int 0, .ref sk, .ref si, .ref sy, .int 0, .ref ks, .ref ki, .int 0, .ref al, .ref dr])), (sk, .inr (5, [.int 0, .int 0, .ref sk1, .ref sk2, .ref sk3]))] := hD
  refine lv_if_ne (tgt := 11) hx hb dX8_as_5 (by decide) (fun c5_3 => ?_) (fun c5_3 => ?_)
  · exact absurd c5_3 (by decide)
  · skip
    refine lv_bipush (v := (-101)) hx hb dX8_as_8 (by decide) ?_
    refine W.widen (k := 0) (n := 0) (Nat.le_of_ble_eq_true rfl) (Nat.le_of_ble_eq_true rfl) ?_
    have hP9 := hP.sub (ws' := []) [] rfl
    have hD9 := hD.sub (ws' := []) [] (by decide) rfl
    exact k_ri hx hb hr hlocks hS hP9 hD9 ⟨rfl, rfl⟩ dX8_as_10
def po_X8_sound (g : GG) (h0 : Nat) (pg : Nat) (rd : Nat) (sk : Nat) (si : Nat) (sy : Nat) (ks : Nat) (ki : Nat) (al : Nat) (dr : Nat) (sk1 : Nat) (sk2 : Nat) (sk3 : Nat) (p1 : Int32) (p2 : Int32) (p3 : Int32) : Int32 → va_W → Prop := fun (r : Int32) w => w = [] ∧ ((-101) = r)
set_option maxHeartbeats 1500000 in
set_option maxRecDepth 100000 in
theorem c_X8_sound (l : Launch) (g : GG) (h0 : Nat) (pg : Nat) (rd : Nat) (sk : Nat) (si : Nat) (sy : Nat) (ks : Nat) (ki : Nat) (al : Nat) (dr : Nat) (sk1 : Nat) (sk2 : Nat) (sk3 : Nat) (p1 : Int32) (p2 : Int32) (p3 : Int32)  (sz : Nat) : MetI l yX8_sound wsX8_sound ({ frames := 1, cells := 0, slots := 0, locals := 21 }) g [.ref h0, .int p1, .int p2, .int p3] [(h0, .inr (8, [.ref pg, .int 0, .ref rd, .int 0, .ref sk, .ref si, .ref sy, .int 0, .ref ks, .ref ki, .int 0, .ref al, .ref dr])), (sk, .inr (5, [.int 0, .int 0, .ref sk1, .ref sk2, .ref sk3]))] sz (po_X8_sound g h0 pg rd sk si sy ks ki al dr sk1 sk2 sk3 p1 p2 p3) 0 0 := by
  refine k_of (l := l) (y := yX8_sound) (ws := wsX8_sound) (rm := { frames := 1, cells := 0, slots := 0, locals := 21 }) (mc := 0) (ms := 0) (av := [.ref h0, .int p1, .int p2, .int p3]) (g := g) (wc := [(h0, .inr (8, [.ref pg, .int 0, .ref rd, .int 0, .ref sk, .ref si, .ref sy, .int 0, .ref ks, .ref ki, .int 0, .ref al, .ref dr])), (sk, .inr (5, [.int 0, .int 0, .ref sk1, .ref sk2, .ref sk3]))]) (Qc := fun A => va_Qi (po_X8_sound g h0 pg rd sk si sy ks ki al dr sk1 sk2 sk3 p1 p2 p3) (bk g A) A) (cc := cX8_sound) (maxL := 4) (ret := (some .int)) (by decide) rfl (Nat.le_of_ble_eq_true rfl) ?_ sz
  intro p e s m below meth c hx hb hr hts hown hlocks hnm hml A hA hE hZ hP hD hS ls hl
  have hown : s.vm.findClass RX8 = some m.cls := hown
  have hl : lv_has ls 4 [(0, .ref h0), (1, .int p1), (2, .int p2), (3, .int p3)] := hl
  refine lv_aload_n hx hb dX8_sound_0 rfl (lv_at hl 0 rfl) ?_
  refine lv_iload_n hx hb dX8_sound_1 rfl (lv_at hl 1 rfl) ?_
  refine k_ci (wr := []) hP hD hS hA [0, 1] [] rfl rfl (by decide) (by decide) (va_runV (As := [.int p1]) (rest := []) ⟨hx, hb, hml, hown, hts⟩ (c_X8_isSet l g h0 pg rd sk si sy ks ki al dr sk1 sk2 sk3 p1  s.heap.size) (cwV 1 hts gX8_sound_X8_isSet rfl rfl rfl (by decide +kernel) ⟨Nat.le_of_ble_eq_true rfl, Nat.le_of_ble_eq_true rfl⟩) (k_preV hE hZ hP hD hS hA [0, 1] rfl (by decide) (va_recv hE.1 hP (ci := 8) (q0 := 0) rfl rfl)) rfl rfl hl.1 rfl (lv_room (Nat.le_of_ble_eq_true rfl)) dX8_sound_2 ⟨Nat.le_of_ble_eq_true rfl, Nat.le_of_ble_eq_true rfl⟩) (fun r_1 w1 H locs hw hP hD hS => ?_)
  obtain ⟨rfl, rfl⟩ := hw
  have hP : va_P g.1 vwCl [(h0, .inr (8, [.ref pg, .int 0, .ref rd, .int 0, .ref sk, .ref si, .ref sy, .int 0, .ref ks, .ref ki, .int 0, .ref al, .ref dr])), (sk, .inr (5, [.int 0, .int 0, .ref sk1, .ref sk2, .ref sk3]))] H := hP
  have hD : va_D A [(h0, .inr (8, [.ref pg, .int 0, .ref rd, .int 0, .ref sk, .ref si, .ref sy, .int 0, .ref ks, .ref ki, .int 0, .ref al, .ref dr])), (sk, .inr (5, [.int 0, .int 0, .ref sk1, .ref sk2, .ref sk3]))] := hD
  refine lv_if_eq (tgt := 25) hx hb dX8_sound_5 (by decide) (fun c5_3 => ?_) (fun c5_3 => ?_)
  · skip
    refine lv_bipush (v := (-101)) hx hb dX8_sound_25 (by decide) ?_
    refine W.widen (k := 0) (n := 0) (Nat.le_of_ble_eq_true rfl) (Nat.le_of_ble_eq_true rfl) ?_
    have hP9 := hP.sub (ws' := []) [] rfl
    have hD9 := hD.sub (ws' := []) [] (by decide) rfl
    exact k_ri hx hb hr hlocks hS hP9 hD9 ⟨rfl, rfl⟩ dX8_sound_27
  · exact absurd c5_3 (by decide)
def po_X8_strange (g : GG) (h0 : Nat) (pg : Nat) (rd : Nat) (sk : Nat) (si : Nat) (sy : Nat) (ks : Nat) (ki : Nat) (al : Nat) (dr : Nat) (sk1 : Nat) (sk2 : Nat) (sk3 : Nat) (p1 : Int32) (p2 : Int32) : Int32 → va_W → Prop := fun (r : Int32) w => w = [] ∧ ((-101) = r)
set_option maxHeartbeats 1500000 in
set_option maxRecDepth 100000 in
theorem c_X8_strange (l : Launch) (g : GG) (h0 : Nat) (pg : Nat) (rd : Nat) (sk : Nat) (si : Nat) (sy : Nat) (ks : Nat) (ki : Nat) (al : Nat) (dr : Nat) (sk1 : Nat) (sk2 : Nat) (sk3 : Nat) (p1 : Int32) (p2 : Int32)  (sz : Nat) : MetI l yX8_strange wsX8_strange ({ frames := 1, cells := 0, slots := 0, locals := 21 }) g [.ref h0, .int p1, .int p2] [(h0, .inr (8, [.ref pg, .int 0, .ref rd, .int 0, .ref sk, .ref si, .ref sy, .int 0, .ref ks, .ref ki, .int 0, .ref al, .ref dr])), (sk, .inr (5, [.int 0, .int 0, .ref sk1, .ref sk2, .ref sk3]))] sz (po_X8_strange g h0 pg rd sk si sy ks ki al dr sk1 sk2 sk3 p1 p2) 0 0 := by
  refine k_of (l := l) (y := yX8_strange) (ws := wsX8_strange) (rm := { frames := 1, cells := 0, slots := 0, locals := 21 }) (mc := 0) (ms := 0) (av := [.ref h0, .int p1, .int p2]) (g := g) (wc := [(h0, .inr (8, [.ref pg, .int 0, .ref rd, .int 0, .ref sk, .ref si, .ref sy, .int 0, .ref ks, .ref ki, .int 0, .ref al, .ref dr])), (sk, .inr (5, [.int 0, .int 0, .ref sk1, .ref sk2, .ref sk3]))]) (Qc := fun A => va_Qi (po_X8_strange g h0 pg rd sk si sy ks ki al dr sk1 sk2 sk3 p1 p2) (bk g A) A) (cc := cX8_strange) (maxL := 3) (ret := (some .int)) (by decide) rfl (Nat.le_of_ble_eq_true rfl) ?_ sz
  intro p e s m below meth c hx hb hr hts hown hlocks hnm hml A hA hE hZ hP hD hS ls hl
  have hown : s.vm.findClass RX8 = some m.cls := hown
  have hl : lv_has ls 3 [(0, .ref h0), (1, .int p1), (2, .int p2)] := hl
  refine lv_aload_n hx hb dX8_strange_0 rfl (lv_at hl 0 rfl) ?_
  refine lv_iload_n hx hb dX8_strange_1 rfl (lv_at hl 1 rfl) ?_
  refine k_ci (wr := []) hP hD hS hA [0, 1] [] rfl rfl (by decide) (by decide) (va_runV (As := [.int p1]) (rest := []) ⟨hx, hb, hml, hown, hts⟩ (c_X8_isSet l g h0 pg rd sk si sy ks ki al dr sk1 sk2 sk3 p1  s.heap.size) (cwV 1 hts gX8_strange_X8_isSet rfl rfl rfl (by decide +kernel) ⟨Nat.le_of_ble_eq_true rfl, Nat.le_of_ble_eq_true rfl⟩) (k_preV hE hZ hP hD hS hA [0, 1] rfl (by decide) (va_recv hE.1 hP (ci := 8) (q0 := 0) rfl rfl)) rfl rfl hl.1 rfl (lv_room (Nat.le_of_ble_eq_true rfl)) dX8_strange_2 ⟨Nat.le_of_ble_eq_true rfl, Nat.le_of_ble_eq_true rfl⟩) (fun r_1 w1 H locs hw hP hD hS => ?_)
  obtain ⟨rfl, rfl⟩ := hw
  have hP : va_P g.1 vwCl [(h0, .inr (8, [.ref pg, .int 0, .ref rd, .int 0, .ref sk, .ref si, .ref sy, .int 0, .ref ks, .ref ki, .int 0, .ref al, .ref dr])), (sk, .inr (5, [.int 0, .int 0, .ref sk1, .ref sk2, .ref sk3]))] H := hP
  have hD : va_D A [(h0, .inr (8, [.ref pg, .int 0, .ref rd, .int 0, .ref sk, .ref si, .ref sy, .int 0, .ref ks, .ref ki, .int 0, .ref al, .ref dr])), (sk, .inr (5, [.int 0, .int 0, .ref sk1, .ref sk2, .ref sk3]))] := hD
  refine lv_if_eq (tgt := 16) hx hb dX8_strange_5 (by decide) (fun c5_3 => ?_) (fun c5_3 => ?_)
  · skip
    refine lv_bipush (v := (-101)) hx hb dX8_strange_16 (by decide) ?_
    refine W.widen (k := 0) (n := 0) (Nat.le_of_ble_eq_true rfl) (Nat.le_of_ble_eq_true rfl) ?_
    have hP9 := hP.sub (ws' := []) [] rfl
    have hD9 := hD.sub (ws' := []) [] (by decide) rfl
    exact k_ri hx hb hr hlocks hS hP9 hD9 ⟨rfl, rfl⟩ dX8_strange_18
  · exact absurd c5_3 (by decide)
def po_X8_say (g : GG) (h0 : Nat) (pg : Nat) (rd : Nat) (sk : Nat) (si : Nat) (sy : Nat) (ks : Nat) (ki : Nat) (al : Nat) (dr : Nat) (sk1 : Nat) (sk2 : Nat) (sk3 : Nat) (p1 : Int32) (p2 : Int32) (p3 : Int32) : Int32 → va_W → Prop := fun (r : Int32) w => w = [] ∧ ((-101) = r)
set_option maxHeartbeats 1500000 in
set_option maxRecDepth 100000 in
theorem c_X8_say (l : Launch) (g : GG) (h0 : Nat) (pg : Nat) (rd : Nat) (sk : Nat) (si : Nat) (sy : Nat) (ks : Nat) (ki : Nat) (al : Nat) (dr : Nat) (sk1 : Nat) (sk2 : Nat) (sk3 : Nat) (p1 : Int32) (p2 : Int32) (p3 : Int32)  (sz : Nat) : MetI l yX8_say wsX8_say ({ frames := 1, cells := 0, slots := 0, locals := 21 }) g [.ref h0, .int p1, .int p2, .int p3] [(h0, .inr (8, [.ref pg, .int 0, .ref rd, .int 0, .ref sk, .ref si, .ref sy, .int 0, .ref ks, .ref ki, .int 0, .ref al, .ref dr])), (sk, .inr (5, [.int 0, .int 0, .ref sk1, .ref sk2, .ref sk3]))] sz (po_X8_say g h0 pg rd sk si sy ks ki al dr sk1 sk2 sk3 p1 p2 p3) 0 0 := by
  refine k_of (l := l) (y := yX8_say) (ws := wsX8_say) (rm := { frames := 1, cells := 0, slots := 0, locals := 21 }) (mc := 0) (ms := 0) (av := [.ref h0, .int p1, .int p2, .int p3]) (g := g) (wc := [(h0, .inr (8, [.ref pg, .int 0, .ref rd, .int 0, .ref sk, .ref si, .ref sy, .int 0, .ref ks, .ref ki, .int 0, .ref al, .ref dr])), (sk, .inr (5, [.int 0, .int 0, .ref sk1, .ref sk2, .ref sk3]))]) (Qc := fun A => va_Qi (po_X8_say g h0 pg rd sk si sy ks ki al dr sk1 sk2 sk3 p1 p2 p3) (bk g A) A) (cc := cX8_say) (maxL := 6) (ret := (some .int)) (by decide) rfl (Nat.le_of_ble_eq_true rfl) ?_ sz
  intro p e s m below meth c hx hb hr hts hown hlocks hnm hml A hA hE hZ hP hD hS ls hl
  have hown : s.vm.findClass RX8 = some m.cls := hown
  have hl : lv_has ls 6 [(0, .ref h0), (1, .int p1), (2, .int p2), (3, .int p3)] := hl
  refine lv_aload_n hx hb dX8_say_0 rfl (lv_at hl 0 rfl) ?_
  refine lv_iload_n hx hb dX8_say_1 rfl (lv_at hl 1 rfl) ?_
  refine k_ci (wr := []) hP hD hS hA [0, 1] [] rfl rfl (by decide) (by decide) (va_runV (As := [.int p1]) (rest := []) ⟨hx, hb, hml, hown, hts⟩ (c_X8_isSet l g h0 pg rd sk si sy ks ki al dr sk1 sk2 sk3 p1  s.heap.size) (cwV 1 hts gX8_say_X8_isSet rfl rfl rfl (by decide +kernel) ⟨Nat.le_of_ble_eq_true rfl, Nat.le_of_ble_eq_true rfl⟩) (k_preV hE hZ hP hD hS hA [0, 1] rfl (by decide) (va_recv hE.1 hP (ci := 8) (q0 := 0) rfl rfl)) rfl rfl hl.1 rfl (lv_room (Nat.le_of_ble_eq_true rfl)) dX8_say_2 ⟨Nat.le_of_ble_eq_true rfl, Nat.le_of_ble_eq_true rfl⟩) (fun r_1 w1 H locs hw hP hD hS => ?_)
  obtain ⟨rfl, rfl⟩ := hw
  have hP : va_P g.1 vwCl [(h0, .inr (8, [.ref pg, .int 0, .ref rd, .int 0, .ref sk, .ref si, .ref sy, .int 0, .ref ks, .ref ki, .int 0, .ref al, .ref dr])), (sk, .inr (5, [.int 0, .int 0, .ref sk1, .ref sk2, .ref sk3]))] H := hP
  have hD : va_D A [(h0, .inr (8, [.ref pg, .int 0, .ref rd, .int 0, .ref sk, .ref si, .ref sy, .int 0, .ref ks, .ref ki, .int 0, .ref al, .ref dr])), (sk, .inr (5, [.int 0, .int 0, .ref sk1, .ref sk2, .ref sk3]))] := hD
  refine lv_if_eq (tgt := 25) hx hb dX8_say_5 (by decide) (fun c5_3 => ?_) (fun c5_3 => ?_)
  · skip
    refine lv_bipush (v := (-101)) hx hb dX8_say_25 (by decide) ?_
    refine W.widen (k := 0) (n := 0) (Nat.le_of_ble_eq_true rfl) (Nat.le_of_ble_eq_true rfl) ?_
    have hP9 := hP.sub (ws' := []) [] rfl
    have hD9 := hD.sub (ws' := []) [] (by decide) rfl
    exact k_ri hx hb hr hlocks hS hP9 hD9 ⟨rfl, rfl⟩ dX8_say_27
  · exact absurd c5_3 (by decide)
def po_X8_line (g : GG) (h0 : Nat) (pg : Nat) (rd : Nat) (sk : Nat) (si : Nat) (sy : Nat) (ks : Nat) (ki : Nat) (al : Nat) (dr : Nat) (sk1 : Nat) (sk2 : Nat) (sk3 : Nat) (p1 : Int32) (p2 : Int32) (p3 : Int32) (p4 : Int32) : Int32 → va_W → Prop := fun (r : Int32) w => w = [] ∧ ((-101) = r)
set_option maxHeartbeats 1500000 in
set_option maxRecDepth 100000 in
theorem c_X8_line (l : Launch) (g : GG) (h0 : Nat) (pg : Nat) (rd : Nat) (sk : Nat) (si : Nat) (sy : Nat) (ks : Nat) (ki : Nat) (al : Nat) (dr : Nat) (sk1 : Nat) (sk2 : Nat) (sk3 : Nat) (p1 : Int32) (p2 : Int32) (p3 : Int32) (p4 : Int32)  (sz : Nat) : MetI l yX8_line wsX8_line ({ frames := 1, cells := 0, slots := 0, locals := 21 }) g [.ref h0, .int p1, .int p2, .int p3, .int p4] [(h0, .inr (8, [.ref pg, .int 0, .ref rd, .int 0, .ref sk, .ref si, .ref sy, .int 0, .ref ks, .ref ki, .int 0, .ref al, .ref dr])), (sk, .inr (5, [.int 0, .int 0, .ref sk1, .ref sk2, .ref sk3]))] sz (po_X8_line g h0 pg rd sk si sy ks ki al dr sk1 sk2 sk3 p1 p2 p3 p4) 0 0 := by
  refine k_of (l := l) (y := yX8_line) (ws := wsX8_line) (rm := { frames := 1, cells := 0, slots := 0, locals := 21 }) (mc := 0) (ms := 0) (av := [.ref h0, .int p1, .int p2, .int p3, .int p4]) (g := g) (wc := [(h0, .inr (8, [.ref pg, .int 0, .ref rd, .int 0, .ref sk, .ref si, .ref sy, .int 0, .ref ks, .ref ki, .int 0, .ref al, .ref dr])), (sk, .inr (5, [.int 0, .int 0, .ref sk1, .ref sk2, .ref sk3]))]) (Qc := fun A => va_Qi (po_X8_line g h0 pg rd sk si sy ks ki al dr sk1 sk2 sk3 p1 p2 p3 p4) (bk g A) A) (cc := cX8_line) (maxL := 5) (ret := (some .int)) (by decide) rfl (Nat.le_of_ble_eq_true rfl) ?_ sz
  intro p e s m below meth c hx hb hr hts hown hlocks hnm hml A hA hE hZ hP hD hS ls hl
  have hown : s.vm.findClass RX8 = some m.cls := hown
  have hl : lv_has ls 5 [(0, .ref h0), (1, .int p1), (2, .int p2), (3, .int p3), (4, .int p4)] := hl
  refine lv_aload_n hx hb dX8_line_0 rfl (lv_at hl 0 rfl) ?_
  refine lv_iload_n hx hb dX8_line_1 rfl (lv_at hl 1 rfl) ?_
  refine k_ci (wr := []) hP hD hS hA [0, 1] [] rfl rfl (by decide) (by decide) (va_runV (As := [.int p1]) (rest := []) ⟨hx, hb, hml, hown, hts⟩ (c_X8_isSet l g h0 pg rd sk si sy ks ki al dr sk1 sk2 sk3 p1  s.heap.size) (cwV 1 hts gX8_line_X8_isSet rfl rfl rfl (by decide +kernel) ⟨Nat.le_of_ble_eq_true rfl, Nat.le_of_ble_eq_true rfl⟩) (k_preV hE hZ hP hD hS hA [0, 1] rfl (by decide) (va_recv hE.1 hP (ci := 8) (q0 := 0) rfl rfl)) rfl rfl hl.1 rfl (lv_room (Nat.le_of_ble_eq_true rfl)) dX8_line_2 ⟨Nat.le_of_ble_eq_true rfl, Nat.le_of_ble_eq_true rfl⟩) (fun r_1 w1 H locs hw hP hD hS => ?_)
  obtain ⟨rfl, rfl⟩ := hw
  have hP : va_P g.1 vwCl [(h0, .inr (8, [.ref pg, .int 0, .ref rd, .int 0, .ref sk, .ref si, .ref sy, .int 0, .ref ks, .ref ki, .int 0, .ref al, .ref dr])), (sk, .inr (5, [.int 0, .int 0, .ref sk1, .ref sk2, .ref sk3]))] H := hP
  have hD : va_D A [(h0, .inr (8, [.ref pg, .int 0, .ref rd, .int 0, .ref sk, .ref si, .ref sy, .int 0, .ref ks, .ref ki, .int 0, .ref al, .ref dr])), (sk, .inr (5, [.int 0, .int 0, .ref sk1, .ref sk2, .ref sk3]))] := hD
  refine lv_if_eq (tgt := 33) hx hb dX8_line_5 (by decide) (fun c5_3 => ?_) (fun c5_3 => ?_)
  · skip
    refine lv_bipush (v := (-101)) hx hb dX8_line_33 (by decide) ?_
    refine W.widen (k := 0) (n := 0) (Nat.le_of_ble_eq_true rfl) (Nat.le_of_ble_eq_true rfl) ?_
    have hP9 := hP.sub (ws' := []) [] rfl
    have hD9 := hD.sub (ws' := []) [] (by decide) rfl
    exact k_ri hx hb hr hlocks hS hP9 hD9 ⟨rfl, rfl⟩ dX8_line_35
  · exact absurd c5_3 (by decide)
def po_X8_put (g : GG) (h0 : Nat) (pg : Nat) (rd : Nat) (sk : Nat) (si : Nat) (sy : Nat) (ks : Nat) (ki : Nat) (al : Nat) (dr : Nat) (sk1 : Nat) (sk2 : Nat) (sk3 : Nat) (p1 : Int32) (p2 : Int32) (p3 : Int32) (p4 : Int32) : Int32 → va_W → Prop := fun (r : Int32) w => w = [] ∧ ((-101) = r)
set_option maxHeartbeats 1500000 in
set_option maxRecDepth 100000 in
theorem c_X8_put (l : Launch) (g : GG) (h0 : Nat) (pg : Nat) (rd : Nat) (sk : Nat) (si : Nat) (sy : Nat) (ks : Nat) (ki : Nat) (al : Nat) (dr : Nat) (sk1 : Nat) (sk2 : Nat) (sk3 : Nat) (p1 : Int32) (p2 : Int32) (p3 : Int32) (p4 : Int32)  (sz : Nat) : MetI l yX8_put wsX8_put ({ frames := 1, cells := 0, slots := 0, locals := 21 }) g [.ref h0, .int p1, .int p2, .int p3, .int p4] [(h0, .inr (8, [.ref pg, .int 0, .ref rd, .int 0, .ref sk, .ref si, .ref sy, .int 0, .ref ks, .ref ki, .int 0, .ref al, .ref dr])), (sk, .inr (5, [.int 0, .int 0, .ref sk1, .ref sk2, .ref sk3]))] sz (po_X8_put g h0 pg rd sk si sy ks ki al dr sk1 sk2 sk3 p1 p2 p3 p4) 0 0 := by
  refine k_of (l := l) (y := yX8_put) (ws := wsX8_put) (rm := { frames := 1, cells := 0, slots := 0, locals := 21 }) (mc := 0) (ms := 0) (av := [.ref h0, .int p1, .int p2, .int p3, .int p4]) (g := g) (wc := [(h0, .inr (8, [.ref pg, .int 0, .ref rd, .int 0, .ref sk, .ref si, .ref sy, .int 0, .ref ks, .ref ki, .int 0, .ref al, .ref dr])), (sk, .inr (5, [.int 0, .int 0, .ref sk1, .ref sk2, .ref sk3]))]) (Qc := fun A => va_Qi (po_X8_put g h0 pg rd sk si sy ks ki al dr sk1 sk2 sk3 p1 p2 p3 p4) (bk g A) A) (cc := cX8_put) (maxL := 7) (ret := (some .int)) (by decide) rfl (Nat.le_of_ble_eq_true rfl) ?_ sz
  intro p e s m below meth c hx hb hr hts hown hlocks hnm hml A hA hE hZ hP hD hS ls hl
  have hown : s.vm.findClass RX8 = some m.cls := hown
  have hl : lv_has ls 7 [(0, .ref h0), (1, .int p1), (2, .int p2), (3, .int p3), (4, .int p4)] := hl
  refine lv_aload_n hx hb dX8_put_0 rfl (lv_at hl 0 rfl) ?_
  refine lv_iload_n hx hb dX8_put_1 rfl (lv_at hl 1 rfl) ?_
  refine k_ci (wr := []) hP hD hS hA [0, 1] [] rfl rfl (by decide) (by decide) (va_runV (As := [.int p1]) (rest := []) ⟨hx, hb, hml, hown, hts⟩ (c_X8_isSet l g h0 pg rd sk si sy ks ki al dr sk1 sk2 sk3 p1  s.heap.size) (cwV 1 hts gX8_put_X8_isSet rfl rfl rfl (by decide +kernel) ⟨Nat.le_of_ble_eq_true rfl, Nat.le_of_ble_eq_true rfl⟩) (k_preV hE hZ hP hD hS hA [0, 1] rfl (by decide) (va_recv hE.1 hP (ci := 8) (q0 := 0) rfl rfl)) rfl rfl hl.1 rfl (lv_room (Nat.le_of_ble_eq_true rfl)) dX8_put_2 ⟨Nat.le_of_ble_eq_true rfl, Nat.le_of_ble_eq_true rfl⟩) (fun r_1 w1 H locs hw hP hD hS => ?_)
  obtain ⟨rfl, rfl⟩ := hw
  have hP : va_P g.1 vwCl [(h0, .inr (8, [.ref pg, .int 0, .ref rd, .int 0, .ref sk, .ref si, .ref sy, .int 0, .ref ks, .ref ki, .int 0, .ref al, .ref dr])), (sk, .inr (5, [.int 0, .int 0, .ref sk1, .ref sk2, .ref sk3]))] H := hP
  have hD : va_D A [(h0, .inr (8, [.ref pg, .int 0, .ref rd, .int 0, .ref sk, .ref si, .ref sy, .int 0, .ref ks, .ref ki, .int 0, .ref al, .ref dr])), (sk, .inr (5, [.int 0, .int 0, .ref sk1, .ref sk2, .ref sk3]))] := hD
  refine lv_if_eq (tgt := 25) hx hb dX8_put_5 (by decide) (fun c5_3 => ?_) (fun c5_3 => ?_)
  · skip
    refine lv_bipush (v := (-101)) hx hb dX8_put_25 (by decide) ?_
    refine W.widen (k := 0) (n := 0) (Nat.le_of_ble_eq_true rfl) (Nat.le_of_ble_eq_true rfl) ?_
    have hP9 := hP.sub (ws' := []) [] rfl
    have hD9 := hD.sub (ws' := []) [] (by decide) rfl
    exact k_ri hx hb hr hlocks hS hP9 hD9 ⟨rfl, rfl⟩ dX8_put_27
  · exact absurd c5_3 (by decide)
def po_X8_copy (g : GG) (h0 : Nat) (pg : Nat) (rd : Nat) (sk : Nat) (si : Nat) (sy : Nat) (ks : Nat) (ki : Nat) (al : Nat) (dr : Nat) (sk1 : Nat) (sk2 : Nat) (sk3 : Nat) (p1 : Int32) : Int32 → va_W → Prop := fun (r : Int32) w => w = [] ∧ ((-101) = r)
set_option maxHeartbeats 1500000 in
set_option maxRecDepth 100000 in
theorem c_X8_copy (l : Launch) (g : GG) (h0 : Nat) (pg : Nat) (rd : Nat) (sk : Nat) (si : Nat) (sy : Nat) (ks : Nat) (ki : Nat) (al : Nat) (dr : Nat) (sk1 : Nat) (sk2 : Nat) (sk3 : Nat) (p1 : Int32)  (sz : Nat) : MetI l yX8_copy wsX8_copy ({ frames := 1, cells := 0, slots := 0, locals := 21 }) g [.ref h0, .int p1] [(h0, .inr (8, [.ref pg, .int 0, .ref rd, .int 0, .ref sk, .ref si, .ref sy, .int 0, .ref ks, .ref ki, .int 0, .ref al, .ref dr])), (sk, .inr (5, [.int 0, .int 0, .ref sk1, .ref sk2, .ref sk3]))] sz (po_X8_copy g h0 pg rd sk si sy ks ki al dr sk1 sk2 sk3 p1) 0 0 := by
  refine k_of (l := l) (y := yX8_copy) (ws := wsX8_copy) (rm := { frames := 1, cells := 0, slots := 0, locals := 21 }) (mc := 0) (ms := 0) (av := [.ref h0, .int p1]) (g := g) (wc := [(h0, .inr (8, [.ref pg, .int 0, .ref rd, .int 0, .ref sk, .ref si, .ref sy, .int 0, .ref ks, .ref ki, .int 0, .ref al, .ref dr])), (sk, .inr (5, [.int 0, .int 0, .ref sk1, .ref sk2, .ref sk3]))]) (Qc := fun A => va_Qi (po_X8_copy g h0 pg rd sk si sy ks ki al dr sk1 sk2 sk3 p1) (bk g A) A) (cc := cX8_copy) (maxL := 3) (ret := (some .int)) (by decide) rfl (Nat.le_of_ble_eq_true rfl) ?_ sz
  intro p e s m below meth c hx hb hr hts hown hlocks hnm hml A hA hE hZ hP hD hS ls hl
  have hown : s.vm.findClass RX8 = some m.cls := hown
  have hl : lv_has ls 3 [(0, .ref h0), (1, .int p1)] := hl
  refine lv_aload_n hx hb dX8_copy_0 rfl (lv_at hl 0 rfl) ?_
  refine lv_iload_n hx hb dX8_copy_1 rfl (lv_at hl 1 rfl) ?_
  refine k_ci (wr := []) hP hD hS hA [0, 1] [] rfl rfl (by decide) (by decide) (va_runV (As := [.int p1]) (rest := []) ⟨hx, hb, hml, hown, hts⟩ (c_X8_isSet l g h0 pg rd sk si sy ks ki al dr sk1 sk2 sk3 p1  s.heap.size) (cwV 1 hts gX8_copy_X8_isSet rfl rfl rfl (by decide +kernel) ⟨Nat.le_of_ble_eq_true rfl, Nat.le_of_ble_eq_true rfl⟩) (k_preV hE hZ hP hD hS hA [0, 1] rfl (by decide) (va_recv hE.1 hP (ci := 8) (q0 := 0) rfl rfl)) rfl rfl hl.1 rfl (lv_room (Nat.le_of_ble_eq_true rfl)) dX8_copy_2 ⟨Nat.le_of_ble_eq_true rfl, Nat.le_of_ble_eq_true rfl⟩) (fun r_1 w1 H locs hw hP hD hS => ?_)
  obtain ⟨rfl, rfl⟩ := hw
  have hP : va_P g.1 vwCl [(h0, .inr (8, [.ref pg, .int 0, .ref rd, .int 0, .ref sk, .ref si, .ref sy, .int 0, .ref ks, .ref ki, .int 0, .ref al, .ref dr])), (sk, .inr (5, [.int 0, .int 0, .ref sk1, .ref sk2, .ref sk3]))] H := hP
  have hD : va_D A [(h0, .inr (8, [.ref pg, .int 0, .ref rd, .int 0, .ref sk, .ref si, .ref sy, .int 0, .ref ks, .ref ki, .int 0, .ref al, .ref dr])), (sk, .inr (5, [.int 0, .int 0, .ref sk1, .ref sk2, .ref sk3]))] := hD
  refine lv_if_ne (tgt := 11) hx hb dX8_copy_5 (by decide) (fun c5_3 => ?_) (fun c5_3 => ?_)
  · exact absurd c5_3 (by decide)
  · skip
    refine lv_bipush (v := (-101)) hx hb dX8_copy_8 (by decide) ?_
    refine W.widen (k := 0) (n := 0) (Nat.le_of_ble_eq_true rfl) (Nat.le_of_ble_eq_true rfl) ?_
    have hP9 := hP.sub (ws' := []) [] rfl
    have hD9 := hD.sub (ws' := []) [] (by decide) rfl
    exact k_ri hx hb hr hlocks hS hP9 hD9 ⟨rfl, rfl⟩ dX8_copy_10
def po_X8_take (g : GG) (h0 : Nat) (pg : Nat) (rd : Nat) (sk : Nat) (si : Nat) (sy : Nat) (ks : Nat) (ki : Nat) (al : Nat) (dr : Nat) (sk1 : Nat) (sk2 : Nat) (sk3 : Nat) (p1 : Int32) : Int32 → va_W → Prop := fun (r : Int32) w => w = [] ∧ ((-101) = r)
set_option maxHeartbeats 1500000 in
set_option maxRecDepth 100000 in
theorem c_X8_take (l : Launch) (g : GG) (h0 : Nat) (pg : Nat) (rd : Nat) (sk : Nat) (si : Nat) (sy : Nat) (ks : Nat) (ki : Nat) (al : Nat) (dr : Nat) (sk1 : Nat) (sk2 : Nat) (sk3 : Nat) (p1 : Int32)  (sz : Nat) : MetI l yX8_take wsX8_take ({ frames := 1, cells := 0, slots := 0, locals := 21 }) g [.ref h0, .int p1] [(h0, .inr (8, [.ref pg, .int 0, .ref rd, .int 0, .ref sk, .ref si, .ref sy, .int 0, .ref ks, .ref ki, .int 0, .ref al, .ref dr])), (sk, .inr (5, [.int 0, .int 0, .ref sk1, .ref sk2, .ref sk3]))] sz (po_X8_take g h0 pg rd sk si sy ks ki al dr sk1 sk2 sk3 p1) 0 0 := by
  refine k_of (l := l) (y := yX8_take) (ws := wsX8_take) (rm := { frames := 1, cells := 0, slots := 0, locals := 21 }) (mc := 0) (ms := 0) (av := [.ref h0, .int p1]) (g := g) (wc := [(h0, .inr (8, [.ref pg, .int 0, .ref rd, .int 0, .ref sk, .ref si, .ref sy, .int 0, .ref ks, .ref ki, .int 0, .ref al, .ref dr])), (sk, .inr (5, [.int 0, .int 0, .ref sk1, .ref sk2, .ref sk3]))]) (Qc := fun A => va_Qi (po_X8_take g h0 pg rd sk si sy ks ki al dr sk1 sk2 sk3 p1) (bk g A) A) (cc := cX8_take) (maxL := 2) (ret := (some .int)) (by decide) rfl (Nat.le_of_ble_eq_true rfl) ?_ sz
  intro p e s m below meth c hx hb hr hts hown hlocks hnm hml A hA hE hZ hP hD hS ls hl
  have hown : s.vm.findClass RX8 = some m.cls := hown
  have hl : lv_has ls 2 [(0, .ref h0), (1, .int p1)] := hl
  refine lv_aload_n hx hb dX8_take_0 rfl (lv_at hl 0 rfl) ?_
  refine lv_iload_n hx hb dX8_take_1 rfl (lv_at hl 1 rfl) ?_
  refine k_ci (wr := []) hP hD hS hA [0, 1] [] rfl rfl (by decide) (by decide) (va_runV (As := [.int p1]) (rest := []) ⟨hx, hb, hml, hown, hts⟩ (c_X8_isSet l g h0 pg rd sk si sy ks ki al dr sk1 sk2 sk3 p1  s.heap.size) (cwV 1 hts gX8_take_X8_isSet rfl rfl rfl (by decide +kernel) ⟨Nat.le_of_ble_eq_true rfl, Nat.le_of_ble_eq_true rfl⟩) (k_preV hE hZ hP hD hS hA [0, 1] rfl (by decide) (va_recv hE.1 hP (ci := 8) (q0 := 0) rfl rfl)) rfl rfl hl.1 rfl (lv_room (Nat.le_of_ble_eq_true rfl)) dX8_take_2 ⟨Nat.le_of_ble_eq_true rfl, Nat.le_of_ble_eq_true rfl⟩) (fun r_1 w1 H locs hw hP hD hS => ?_)
  obtain ⟨rfl, rfl⟩ := hw
  have hP : va_P g.1 vwCl [(h0, .inr (8, [.ref pg, .int 0, .ref rd, .int 0, .ref sk, .ref si, .ref sy, .int 0, .ref ks, .ref ki, .int 0, .ref al, .ref dr])), (sk, .inr (5, [.int 0, .int 0, .ref sk1, .ref sk2, .ref sk3]))] H := hP
  have hD : va_D A [(h0, .inr (8, [.ref pg, .int 0, .ref rd, .int 0, .ref sk, .ref si, .ref sy, .int 0, .ref ks, .ref ki, .int 0, .ref al, .ref dr])), (sk, .inr (5, [.int 0, .int 0, .ref sk1, .ref sk2, .ref sk3]))] := hD
  refine lv_if_ne (tgt := 11) hx hb dX8_take_5 (by decide) (fun c5_3 => ?_) (fun c5_3 => ?_)
  · exact absurd c5_3 (by decide)
  · skip
    refine lv_bipush (v := (-101)) hx hb dX8_take_8 (by decide) ?_
    refine W.widen (k := 0) (n := 0) (Nat.le_of_ble_eq_true rfl) (Nat.le_of_ble_eq_true rfl) ?_
    have hP9 := hP.sub (ws' := []) [] rfl
    have hD9 := hD.sub (ws' := []) [] (by decide) rfl
    exact k_ri hx hb hr hlocks hS hP9 hD9 ⟨rfl, rfl⟩ dX8_take_10
def po_X8_change (g : GG) (h0 : Nat) (pg : Nat) (rd : Nat) (sk : Nat) (si : Nat) (sy : Nat) (ks : Nat) (ki : Nat) (al : Nat) (dr : Nat) (sk1 : Nat) (sk2 : Nat) (sk3 : Nat) (p1 : Int32) (p2 : Int32) : Int32 → va_W → Prop := fun (r : Int32) w => w = [] ∧ ((-101) = r)
set_option maxHeartbeats 1500000 in
set_option maxRecDepth 100000 in
theorem c_X8_change (l : Launch) (g : GG) (h0 : Nat) (pg : Nat) (rd : Nat) (sk : Nat) (si : Nat) (sy : Nat) (ks : Nat) (ki : Nat) (al : Nat) (dr : Nat) (sk1 : Nat) (sk2 : Nat) (sk3 : Nat) (p1 : Int32) (p2 : Int32)  (sz : Nat) : MetI l yX8_change wsX8_change ({ frames := 1, cells := 0, slots := 0, locals := 21 }) g [.ref h0, .int p1, .int p2] [(h0, .inr (8, [.ref pg, .int 0, .ref rd, .int 0, .ref sk, .ref si, .ref sy, .int 0, .ref ks, .ref ki, .int 0, .ref al, .ref dr])), (sk, .inr (5, [.int 0, .int 0, .ref sk1, .ref sk2, .ref sk3]))] sz (po_X8_change g h0 pg rd sk si sy ks ki al dr sk1 sk2 sk3 p1 p2) 0 0 := by
  refine k_of (l := l) (y := yX8_change) (ws := wsX8_change) (rm := { frames := 1, cells := 0, slots := 0, locals := 21 }) (mc := 0) (ms := 0) (av := [.ref h0, .int p1, .int p2]) (g := g) (wc := [(h0, .inr (8, [.ref pg, .int 0, .ref rd, .int 0, .ref sk, .ref si, .ref sy, .int 0, .ref ks, .ref ki, .int 0, .ref al, .ref dr])), (sk, .inr (5, [.int 0, .int 0, .ref sk1, .ref sk2, .ref sk3]))]) (Qc := fun A => va_Qi (po_X8_change g h0 pg rd sk si sy ks ki al dr sk1 sk2 sk3 p1 p2) (bk g A) A) (cc := cX8_change) (maxL := 4) (ret := (some .int)) (by decide) rfl (Nat.le_of_ble_eq_true rfl) ?_ sz
  intro p e s m below meth c hx hb hr hts hown hlocks hnm hml A hA hE hZ hP hD hS ls hl
  have hown : s.vm.findClass RX8 = some m.cls := hown
  have hl : lv_has ls 4 [(0, .ref h0), (1, .int p1), (2, .int p2)] := hl
  refine lv_aload_n hx hb dX8_change_0 rfl (lv_at hl 0 rfl) ?_
  refine lv_iload_n hx hb dX8_change_1 rfl (lv_at hl 1 rfl) ?_
  refine k_ci (wr := []) hP hD hS hA [0, 1] [] rfl rfl (by decide) (by decide) (va_runV (As := [.int p1]) (rest := []) ⟨hx, hb, hml, hown, hts⟩ (c_X8_isSet l g h0 pg rd sk si sy ks ki al dr sk1 sk2 sk3 p1  s.heap.size) (cwV 1 hts gX8_change_X8_isSet rfl rfl rfl (by decide +kernel) ⟨Nat.le_of_ble_eq_true rfl, Nat.le_of_ble_eq_true rfl⟩) (k_preV hE hZ hP hD hS hA [0, 1] rfl (by decide) (va_recv hE.1 hP (ci := 8) (q0 := 0) rfl rfl)) rfl rfl hl.1 rfl (lv_room (Nat.le_of_ble_eq_true rfl)) dX8_change_2 ⟨Nat.le_of_ble_eq_true rfl, Nat.le_of_ble_eq_true rfl⟩) (fun r_1 w1 H locs hw hP hD hS => ?_)
  obtain ⟨rfl, rfl⟩ := hw
  have hP : va_P g.1 vwCl [(h0, .inr (8, [.ref pg, .int 0, .ref rd, .int 0, .ref sk, .ref si, .ref sy, .int 0, .ref ks, .ref ki, .int 0, .ref al, .ref dr])), (sk, .inr (5, [.int 0, .int 0, .ref sk1, .ref sk2, .ref sk3]))] H := hP
  have hD : va_D A [(h0, .inr (8, [.ref pg, .int 0, .ref rd, .int 0, .ref sk, .ref si, .ref sy, .int 0, .ref ks, .ref ki, .int 0, .ref al, .ref dr])), (sk, .inr (5, [.int 0, .int 0, .ref sk1, .ref sk2, .ref sk3]))] := hD
  refine lv_if_ne (tgt := 11) hx hb dX8_change_5 (by decide) (fun c5_3 => ?_) (fun c5_3 => ?_)
  · exact absurd c5_3 (by decide)
  · skip
    refine lv_bipush (v := (-101)) hx hb dX8_change_8 (by decide) ?_
    refine W.widen (k := 0) (n := 0) (Nat.le_of_ble_eq_true rfl) (Nat.le_of_ble_eq_true rfl) ?_
    have hP9 := hP.sub (ws' := []) [] rfl
    have hD9 := hD.sub (ws' := []) [] (by decide) rfl
    exact k_ri hx hb hr hlocks hS hP9 hD9 ⟨rfl, rfl⟩ dX8_change_10
def po_X8_law (g : GG) (h0 : Nat) (pg : Nat) (rd : Nat) (sk : Nat) (si : Nat) (sy : Nat) (ks : Nat) (ki : Nat) (al : Nat) (dr : Nat) (sk1 : Nat) (sk2 : Nat) (sk3 : Nat) (p1 : Int32) (p2 : Int32) (p3 : Int32) (p4 : Int32) : Int32 → va_W → Prop := fun (r : Int32) w => w = [] ∧ ((-101) = r)
set_option maxHeartbeats 1500000 in
set_option maxRecDepth 100000 in
theorem c_X8_law (l : Launch) (g : GG) (h0 : Nat) (pg : Nat) (rd : Nat) (sk : Nat) (si : Nat) (sy : Nat) (ks : Nat) (ki : Nat) (al : Nat) (dr : Nat) (sk1 : Nat) (sk2 : Nat) (sk3 : Nat) (p1 : Int32) (p2 : Int32) (p3 : Int32) (p4 : Int32)  (sz : Nat) : MetI l yX8_law wsX8_law ({ frames := 1, cells := 0, slots := 0, locals := 21 }) g [.ref h0, .int p1, .int p2, .int p3, .int p4] [(h0, .inr (8, [.ref pg, .int 0, .ref rd, .int 0, .ref sk, .ref si, .ref sy, .int 0, .ref ks, .ref ki, .int 0, .ref al, .ref dr])), (sk, .inr (5, [.int 0, .int 0, .ref sk1, .ref sk2, .ref sk3]))] sz (po_X8_law g h0 pg rd sk si sy ks ki al dr sk1 sk2 sk3 p1 p2 p3 p4) 0 0 := by
  refine k_of (l := l) (y := yX8_law) (ws := wsX8_law) (rm := { frames := 1, cells := 0, slots := 0, locals := 21 }) (mc := 0) (ms := 0) (av := [.ref h0, .int p1, .int p2, .int p3, .int p4]) (g := g) (wc := [(h0, .inr (8, [.ref pg, .int 0, .ref rd, .int 0, .ref sk, .ref si, .ref sy, .int 0, .ref ks, .ref ki, .int 0, .ref al, .ref dr])), (sk, .inr (5, [.int 0, .int 0, .ref sk1, .ref sk2, .ref sk3]))]) (Qc := fun A => va_Qi (po_X8_law g h0 pg rd sk si sy ks ki al dr sk1 sk2 sk3 p1 p2 p3 p4) (bk g A) A) (cc := cX8_law) (maxL := 5) (ret := (some .int)) (by decide) rfl (Nat.le_of_ble_eq_true rfl) ?_ sz
  intro p e s m below meth c hx hb hr hts hown hlocks hnm hml A hA hE hZ hP hD hS ls hl
  have hown : s.vm.findClass RX8 = some m.cls := hown
  have hl : lv_has ls 5 [(0, .ref h0), (1, .int p1), (2, .int p2), (3, .int p3), (4, .int p4)] := hl
  refine lv_aload_n hx hb dX8_law_0 rfl (lv_at hl 0 rfl) ?_
  refine lv_iload_n hx hb dX8_law_1 rfl (lv_at hl 1 rfl) ?_
  refine k_ci (wr := []) hP hD hS hA [0, 1] [] rfl rfl (by decide) (by decide) (va_runV (As := [.int p1]) (rest := []) ⟨hx, hb, hml, hown, hts⟩ (c_X8_isTongue l g h0 pg rd sk si sy ks ki al dr sk1 sk2 sk3 p1  s.heap.size) (cwV 1 hts gX8_law_X8_isTongue rfl rfl rfl (by decide +kernel) ⟨Nat.le_of_ble_eq_true rfl, Nat.le_of_ble_eq_true rfl⟩) (k_preV hE hZ hP hD hS hA [0, 1] rfl (by decide) (va_recv hE.1 hP (ci := 8) (q0 := 0) rfl rfl)) rfl rfl hl.1 rfl (lv_room (Nat.le_of_ble_eq_true rfl)) dX8_law_2 ⟨Nat.le_of_ble_eq_true rfl, Nat.le_of_ble_eq_true rfl⟩) (fun r_1 w1 H locs hw hP hD hS => ?_)
  obtain ⟨rfl, rfl⟩ := hw
  have hP : va_P g.1 vwCl [(h0, .inr (8, [.ref pg, .int 0, .ref rd, .int 0, .ref sk, .ref si, .ref sy, .int 0, .ref ks, .ref ki, .int 0, .ref al, .ref dr])), (sk, .inr (5, [.int 0, .int 0, .ref sk1, .ref sk2, .ref sk3]))] H := hP
  have hD : va_D A [(h0, .inr (8, [.ref pg, .int 0, .ref rd, .int 0, .ref sk, .ref si, .ref sy, .int 0, .ref ks, .ref ki, .int 0, .ref al, .ref dr])), (sk, .inr (5, [.int 0, .int 0, .ref sk1, .ref sk2, .ref sk3]))] := hD
  refine lv_if_eq (tgt := 15) hx hb dX8_law_5 (by decide) (fun c5_3 => ?_) (fun c5_3 => ?_)
  · skip
    refine lv_bipush (v := (-101)) hx hb dX8_law_15 (by decide) ?_
    refine W.widen (k := 0) (n := 0) (Nat.le_of_ble_eq_true rfl) (Nat.le_of_ble_eq_true rfl) ?_
    have hP9 := hP.sub (ws' := []) [] rfl
    have hD9 := hD.sub (ws' := []) [] (by decide) rfl
    exact k_ri hx hb hr hlocks hS hP9 hD9 ⟨rfl, rfl⟩ dX8_law_17
  · exact absurd c5_3 (by decide)
def po_X8_swap (g : GG) (h0 : Nat) (pg : Nat) (rd : Nat) (sk : Nat) (si : Nat) (sy : Nat) (ks : Nat) (ki : Nat) (al : Nat) (dr : Nat) (sk1 : Nat) (sk2 : Nat) (sk3 : Nat) (p1 : Int32) (p2 : Int32) : Int32 → va_W → Prop := fun (r : Int32) w => w = [] ∧ ((-101) = r)
set_option maxHeartbeats 1500000 in
set_option maxRecDepth 100000 in
theorem c_X8_swap (l : Launch) (g : GG) (h0 : Nat) (pg : Nat) (rd : Nat) (sk : Nat) (si : Nat) (sy : Nat) (ks : Nat) (ki : Nat) (al : Nat) (dr : Nat) (sk1 : Nat) (sk2 : Nat) (sk3 : Nat) (p1 : Int32) (p2 : Int32)  (sz : Nat) : MetI l yX8_swap wsX8_swap ({ frames := 1, cells := 0, slots := 0, locals := 21 }) g [.ref h0, .int p1, .int p2] [(h0, .inr (8, [.ref pg, .int 0, .ref rd, .int 0, .ref sk, .ref si, .ref sy, .int 0, .ref ks, .ref ki, .int 0, .ref al, .ref dr])), (sk, .inr (5, [.int 0, .int 0, .ref sk1, .ref sk2, .ref sk3]))] sz (po_X8_swap g h0 pg rd sk si sy ks ki al dr sk1 sk2 sk3 p1 p2) 0 0 := by
  refine k_of (l := l) (y := yX8_swap) (ws := wsX8_swap) (rm := { frames := 1, cells := 0, slots := 0, locals := 21 }) (mc := 0) (ms := 0) (av := [.ref h0, .int p1, .int p2]) (g := g) (wc := [(h0, .inr (8, [.ref pg, .int 0, .ref rd, .int 0, .ref sk, .ref si, .ref sy, .int 0, .ref ks, .ref ki, .int 0, .ref al, .ref dr])), (sk, .inr (5, [.int 0, .int 0, .ref sk1, .ref sk2, .ref sk3]))]) (Qc := fun A => va_Qi (po_X8_swap g h0 pg rd sk si sy ks ki al dr sk1 sk2 sk3 p1 p2) (bk g A) A) (cc := cX8_swap) (maxL := 3) (ret := (some .int)) (by decide) rfl (Nat.le_of_ble_eq_true rfl) ?_ sz
  intro p e s m below meth c hx hb hr hts hown hlocks hnm hml A hA hE hZ hP hD hS ls hl
  have hown : s.vm.findClass RX8 = some m.cls := hown
  have hl : lv_has ls 3 [(0, .ref h0), (1, .int p1), (2, .int p2)] := hl
  refine lv_aload_n hx hb dX8_swap_0 rfl (lv_at hl 0 rfl) ?_
  refine lv_iload_n hx hb dX8_swap_1 rfl (lv_at hl 1 rfl) ?_
  refine k_ci (wr := []) hP hD hS hA [0, 1] [] rfl rfl (by decide) (by decide) (va_runV (As := [.int p1]) (rest := []) ⟨hx, hb, hml, hown, hts⟩ (c_X8_isTongue l g h0 pg rd sk si sy ks ki al dr sk1 sk2 sk3 p1  s.heap.size) (cwV 1 hts gX8_swap_X8_isTongue rfl rfl rfl (by decide +kernel) ⟨Nat.le_of_ble_eq_true rfl, Nat.le_of_ble_eq_true rfl⟩) (k_preV hE hZ hP hD hS hA [0, 1] rfl (by decide) (va_recv hE.1 hP (ci := 8) (q0 := 0) rfl rfl)) rfl rfl hl.1 rfl (lv_room (Nat.le_of_ble_eq_true rfl)) dX8_swap_2 ⟨Nat.le_of_ble_eq_true rfl, Nat.le_of_ble_eq_true rfl⟩) (fun r_1 w1 H locs hw hP hD hS => ?_)
  obtain ⟨rfl, rfl⟩ := hw
  have hP : va_P g.1 vwCl [(h0, .inr (8, [.ref pg, .int 0, .ref rd, .int 0, .ref sk, .ref si, .ref sy, .int 0, .ref ks, .ref ki, .int 0, .ref al, .ref dr])), (sk, .inr (5, [.int 0, .int 0, .ref sk1, .ref sk2, .ref sk3]))] H := hP
  have hD : va_D A [(h0, .inr (8, [.ref pg, .int 0, .ref rd, .int 0, .ref sk, .ref si, .ref sy, .int 0, .ref ks, .ref ki, .int 0, .ref al, .ref dr])), (sk, .inr (5, [.int 0, .int 0, .ref sk1, .ref sk2, .ref sk3]))] := hD
  refine lv_if_eq (tgt := 21) hx hb dX8_swap_5 (by decide) (fun c5_3 => ?_) (fun c5_3 => ?_)
  · skip
    refine lv_bipush (v := (-101)) hx hb dX8_swap_21 (by decide) ?_
    refine W.widen (k := 0) (n := 0) (Nat.le_of_ble_eq_true rfl) (Nat.le_of_ble_eq_true rfl) ?_
    have hP9 := hP.sub (ws' := []) [] rfl
    have hD9 := hD.sub (ws' := []) [] (by decide) rfl
    exact k_ri hx hb hr hlocks hS hP9 hD9 ⟨rfl, rfl⟩ dX8_swap_23
  · exact absurd c5_3 (by decide)
def po_X8_see (g : GG) (h0 : Nat) (pg : Nat) (rd : Nat) (sk : Nat) (si : Nat) (sy : Nat) (ks : Nat) (ki : Nat) (al : Nat) (dr : Nat) (sk1 : Nat) (sk2 : Nat) (sk3 : Nat) (p1 : Int32) (p2 : Int32) (p3 : Int32) : Int32 → va_W → Prop := fun (r : Int32) w => w = [] ∧ ((-101) = r)
set_option maxHeartbeats 1500000 in
set_option maxRecDepth 100000 in
theorem c_X8_see (l : Launch) (g : GG) (h0 : Nat) (pg : Nat) (rd : Nat) (sk : Nat) (si : Nat) (sy : Nat) (ks : Nat) (ki : Nat) (al : Nat) (dr : Nat) (sk1 : Nat) (sk2 : Nat) (sk3 : Nat) (p1 : Int32) (p2 : Int32) (p3 : Int32)  (sz : Nat) : MetI l yX8_see wsX8_see ({ frames := 1, cells := 0, slots := 0, locals := 21 }) g [.ref h0, .int p1, .int p2, .int p3] [(h0, .inr (8, [.ref pg, .int 0, .ref rd, .int 0, .ref sk, .ref si, .ref sy, .int 0, .ref ks, .ref ki, .int 0, .ref al, .ref dr])), (sk, .inr (5, [.int 0, .int 0, .ref sk1, .ref sk2, .ref sk3]))] sz (po_X8_see g h0 pg rd sk si sy ks ki al dr sk1 sk2 sk3 p1 p2 p3) 0 0 := by
  refine k_of (l := l) (y := yX8_see) (ws := wsX8_see) (rm := { frames := 1, cells := 0, slots := 0, locals := 21 }) (mc := 0) (ms := 0) (av := [.ref h0, .int p1, .int p2, .int p3]) (g := g) (wc := [(h0, .inr (8, [.ref pg, .int 0, .ref rd, .int 0, .ref sk, .ref si, .ref sy, .int 0, .ref ks, .ref ki, .int 0, .ref al, .ref dr])), (sk, .inr (5, [.int 0, .int 0, .ref sk1, .ref sk2, .ref sk3]))]) (Qc := fun A => va_Qi (po_X8_see g h0 pg rd sk si sy ks ki al dr sk1 sk2 sk3 p1 p2 p3) (bk g A) A) (cc := cX8_see) (maxL := 4) (ret := (some .int)) (by decide) rfl (Nat.le_of_ble_eq_true rfl) ?_ sz
  intro p e s m below meth c hx hb hr hts hown hlocks hnm hml A hA hE hZ hP hD hS ls hl
  have hown : s.vm.findClass RX8 = some m.cls := hown
  have hl : lv_has ls 4 [(0, .ref h0), (1, .int p1), (2, .int p2), (3, .int p3)] := hl
  refine lv_aload_n hx hb dX8_see_0 rfl (lv_at hl 0 rfl) ?_
  refine lv_iload_n hx hb dX8_see_1 rfl (lv_at hl 1 rfl) ?_
  refine k_ci (wr := []) hP hD hS hA [0, 1] [] rfl rfl (by decide) (by decide) (va_runV (As := [.int p1]) (rest := []) ⟨hx, hb, hml, hown, hts⟩ (c_X8_isSet l g h0 pg rd sk si sy ks ki al dr sk1 sk2 sk3 p1  s.heap.size) (cwV 1 hts gX8_see_X8_isSet rfl rfl rfl (by decide +kernel) ⟨Nat.le_of_ble_eq_true rfl, Nat.le_of_ble_eq_true rfl⟩) (k_preV hE hZ hP hD hS hA [0, 1] rfl (by decide) (va_recv hE.1 hP (ci := 8) (q0 := 0) rfl rfl)) rfl rfl hl.1 rfl (lv_room (Nat.le_of_ble_eq_true rfl)) dX8_see_2 ⟨Nat.le_of_ble_eq_true rfl, Nat.le_of_ble_eq_true rfl⟩) (fun r_1 w1 H locs hw hP hD hS => ?_)
  obtain ⟨rfl, rfl⟩ := hw
  have hP : va_P g.1 vwCl [(h0, .inr (8, [.ref pg, .int 0, .ref rd, .int 0, .ref sk, .ref si, .ref sy, .int 0, .ref ks, .ref ki, .int 0, .ref al, .ref dr])), (sk, .inr (5, [.int 0, .int 0, .ref sk1, .ref sk2, .ref sk3]))] H := hP
  have hD : va_D A [(h0, .inr (8, [.ref pg, .int 0, .ref rd, .int 0, .ref sk, .ref si, .ref sy, .int 0, .ref ks, .ref ki, .int 0, .ref al, .ref dr])), (sk, .inr (5, [.int 0, .int 0, .ref sk1, .ref sk2, .ref sk3]))] := hD
  refine lv_if_ne (tgt := 11) hx hb dX8_see_5 (by decide) (fun c5_3 => ?_) (fun c5_3 => ?_)
  · exact absurd c5_3 (by decide)
  · skip
    refine lv_bipush (v := (-101)) hx hb dX8_see_8 (by decide) ?_
    refine W.widen (k := 0) (n := 0) (Nat.le_of_ble_eq_true rfl) (Nat.le_of_ble_eq_true rfl) ?_
    have hP9 := hP.sub (ws' := []) [] rfl
    have hD9 := hD.sub (ws' := []) [] (by decide) rfl
    exact k_ri hx hb hr hlocks hS hP9 hD9 ⟨rfl, rfl⟩ dX8_see_10
def po_X8_forget (g : GG) (h0 : Nat) (pg : Nat) (rd : Nat) (sk : Nat) (si : Nat) (sy : Nat) (ks : Nat) (ki : Nat) (al : Nat) (dr : Nat) (si1 : Nat) (si2 : Nat) (si3 : Nat) : Int32 → va_W → Prop := fun (r : Int32) w => w = [] ∧ (0 = r)
theorem q_X8_forget_f8 : ∀ w ∈ u_ws RX8 TX8 13, w ∈ wsX8_forget := by decide +kernel
theorem q_X8_forget_1 : (Cond.fieldLink RX8 30 "SoundLaws" "sightings" "LSoundLaws$Sightings;") ∈ wsX8_forget := by decide +kernel
theorem q_X8_forget_f4 : ∀ w ∈ u_ws RX4 TX4 4, w ∈ wsX8_forget := by decide +kernel
theorem q_X8_forget_3 : (Cond.fieldLink RX8 205 "SoundLaws$Sightings" "size" "I") ∈ wsX8_forget := by decide +kernel
set_option maxHeartbeats 1500000 in
set_option maxRecDepth 100000 in
theorem c_X8_forget (l : Launch) (g : GG) (h0 : Nat) (pg : Nat) (rd : Nat) (sk : Nat) (si : Nat) (sy : Nat) (ks : Nat) (ki : Nat) (al : Nat) (dr : Nat) (si1 : Nat) (si2 : Nat) (si3 : Nat)  (sz : Nat) : MetI l yX8_forget wsX8_forget ({ frames := 1, cells := 0, slots := 0, locals := 20 }) g [.ref h0] [(h0, .inr (8, [.ref pg, .int 0, .ref rd, .int 0, .ref sk, .ref si, .ref sy, .int 0, .ref ks, .ref ki, .int 0, .ref al, .ref dr])), (si, .inr (4, [.int 0, .ref si1, .ref si2, .ref si3]))] sz (po_X8_forget g h0 pg rd sk si sy ks ki al dr si1 si2 si3) 0 0 := by
  refine k_of (l := l) (y := yX8_forget) (ws := wsX8_forget) (rm := { frames := 1, cells := 0, slots := 0, locals := 20 }) (mc := 0) (ms := 0) (av := [.ref h0]) (g := g) (wc := [(h0, .inr (8, [.ref pg, .int 0, .ref rd, .int 0, .ref sk, .ref si, .ref sy, .int 0, .ref ks, .ref ki, .int 0, .ref al, .ref dr])), (si, .inr (4, [.int 0, .ref si1, .ref si2, .ref si3]))]) (Qc := fun A => va_Qi (po_X8_forget g h0 pg rd sk si sy ks ki al dr si1 si2 si3) (bk g A) A) (cc := cX8_forget) (maxL := 2) (ret := (some .int)) (by decide) rfl (Nat.le_of_ble_eq_true rfl) ?_ sz
  intro p e s m below meth c hx hb hr hts hown hlocks hnm hml A hA hE hZ hP hD hS ls hl
  have hown : s.vm.findClass RX8 = some m.cls := hown
  have hl : lv_has ls 2 [(0, .ref h0)] := hl
  refine lv_aload_n hx hb dX8_forget_0 rfl (lv_at hl 0 rfl) ?_
  refine va_get (D := g.1) (ci := 8) (v := .ref si) (C := RX8) (T := TX8) (N := 13) hx hb hts q_X8_forget_f8 hown hE.1 hP 0 rfl rfl 5 (by decide) (hts (.fieldLink RX8 30 "SoundLaws" "sightings" "LSoundLaws$Sightings;") q_X8_forget_1) (fun _ h9 => h9) rfl dX8_forget_1 ?_
  refine va_get (D := g.1) (ci := 4) (v := .int 0) (C := RX4) (T := TX4) (N := 4) hx hb hts q_X8_forget_f4 hown hE.1 hP 1 rfl rfl 0 (by decide) (hts (.fieldLink RX8 205 "SoundLaws$Sightings" "size" "I") q_X8_forget_3) (fun _ h9 => h9) rfl dX8_forget_4 ?_
  refine lv_istore_n (lv' := [(1, .int 0), (0, .ref h0)]) hx hb dX8_forget_7 rfl hl (by decide) rfl (fun ls hl => ?_)
  refine lv_aload_n hx hb dX8_forget_8 rfl (lv_at hl 1 rfl) ?_
  refine va_get (D := g.1) (ci := 8) (v := .ref si) (C := RX8) (T := TX8) (N := 13) hx hb hts q_X8_forget_f8 hown hE.1 hP 0 rfl rfl 5 (by decide) (hts (.fieldLink RX8 30 "SoundLaws" "sightings" "LSoundLaws$Sightings;") q_X8_forget_1) (fun _ h9 => h9) rfl dX8_forget_9 ?_
  refine k_cv (wr := [(h0, .inr (8, [.ref pg, .int 0, .ref rd, .int 0, .ref sk, .ref si, .ref sy, .int 0, .ref ks, .ref ki, .int 0, .ref al, .ref dr]))]) hP hD hS hA [1] [0] rfl rfl (by decide) (by decide) (va_runV (As := []) (rest := []) ⟨hx, hb, hml, hown, hts⟩ (c_X4_clear l g si si1 si2 si3 0  s.heap.size) (cwV 0 hts gX8_forget_X4_clear rfl rfl rfl (by decide +kernel) ⟨Nat.le_of_ble_eq_true rfl, Nat.le_of_ble_eq_true rfl⟩) (k_preV hE hZ hP hD hS hA [1] rfl (by decide) (va_recv hE.1 hP (ci := 4) (q0 := 1) rfl rfl)) rfl rfl hl.1 rfl (lv_room (Nat.le_of_ble_eq_true rfl)) dX8_forget_12 ⟨Nat.le_of_ble_eq_true rfl, Nat.le_of_ble_eq_true rfl⟩) (fun w1 H locs hw hP hD hS => ?_)
  obtain rfl := hw
  have hP : va_P g.1 vwCl [(h0, .inr (8, [.ref pg, .int 0, .ref rd, .int 0, .ref sk, .ref si, .ref sy, .int 0, .ref ks, .ref ki, .int 0, .ref al, .ref dr])), (si, .inr (4, [.int 0, .ref si1, .ref si2, .ref si3]))] H := hP
  have hD : va_D A [(h0, .inr (8, [.ref pg, .int 0, .ref rd, .int 0, .ref sk, .ref si, .ref sy, .int 0, .ref ks, .ref ki, .int 0, .ref al, .ref dr])), (si, .inr (4, [.int 0, .ref si1, .ref si2, .ref si3]))] := hD
  refine lv_iload_n hx hb dX8_forget_15 rfl (lv_at hl 0 rfl) ?_
  refine W.widen (k := 0) (n := 0) (Nat.le_of_ble_eq_true rfl) (Nat.le_of_ble_eq_true rfl) ?_
  have hP9 := hP.sub (ws' := []) [] rfl
  have hD9 := hD.sub (ws' := []) [] (by decide) rfl
  exact k_ri hx hb hr hlocks hS hP9 hD9 ⟨rfl, rfl⟩ dX8_forget_16
def po_X8_image (g : GG) (h0 : Nat) (pg : Nat) (rd : Nat) (sk : Nat) (si : Nat) (sy : Nat) (ks : Nat) (ki : Nat) (al : Nat) (dr : Nat) (sk1 : Nat) (sk2 : Nat) (sk3 : Nat) : Int32 → va_W → Prop := fun (r : Int32) w => w = [] ∧ ((-103) = r)
theorem q_X8_image_f8 : ∀ w ∈ u_ws RX8 TX8 13, w ∈ wsX8_image := by decide +kernel
theorem q_X8_image_1 : (Cond.fieldLink RX8 23 "SoundLaws" "stock" "LSoundLaws$Stock;") ∈ wsX8_image := by decide +kernel
theorem q_X8_image_f5 : ∀ w ∈ u_ws RX5 TX5 5, w ∈ wsX8_image := by decide +kernel
theorem q_X8_image_3 : (Cond.fieldLink RX8 93 "SoundLaws$Stock" "size" "I") ∈ wsX8_image := by decide +kernel
set_option maxHeartbeats 1500000 in
set_option maxRecDepth 100000 in
theorem c_X8_image (l : Launch) (g : GG) (h0 : Nat) (pg : Nat) (rd : Nat) (sk : Nat) (si : Nat) (sy : Nat) (ks : Nat) (ki : Nat) (al : Nat) (dr : Nat) (sk1 : Nat) (sk2 : Nat) (sk3 : Nat)  (sz : Nat) : MetI l yX8_image wsX8_image ({ frames := 0, cells := 0, slots := 0, locals := 0 }) g [.ref h0] [(h0, .inr (8, [.ref pg, .int 0, .ref rd, .int 0, .ref sk, .ref si, .ref sy, .int 0, .ref ks, .ref ki, .int 0, .ref al, .ref dr])), (sk, .inr (5, [.int 0, .int 0, .ref sk1, .ref sk2, .ref sk3]))] sz (po_X8_image g h0 pg rd sk si sy ks ki al dr sk1 sk2 sk3) 0 0 := by
  refine k_of (l := l) (y := yX8_image) (ws := wsX8_image) (rm := { frames := 0, cells := 0, slots := 0, locals := 0 }) (mc := 0) (ms := 0) (av := [.ref h0]) (g := g) (wc := [(h0, .inr (8, [.ref pg, .int 0, .ref rd, .int 0, .ref sk, .ref si, .ref sy, .int 0, .ref ks, .ref ki, .int 0, .ref al, .ref dr])), (sk, .inr (5, [.int 0, .int 0, .ref sk1, .ref sk2, .ref sk3]))]) (Qc := fun A => va_Qi (po_X8_image g h0 pg rd sk si sy ks ki al dr sk1 sk2 sk3) (bk g A) A) (cc := cX8_image) (maxL := 1) (ret := (some .int)) (by decide) rfl (Nat.le_of_ble_eq_true rfl) ?_ sz
  intro p e s m below meth c hx hb hr hts hown hlocks hnm hml A hA hE hZ hP hD hS ls hl
  have hown : s.vm.findClass RX8 = some m.cls := hown
  have hl : lv_has ls 1 [(0, .ref h0)] := hl
  refine lv_aload_n hx hb dX8_image_0 rfl (lv_at hl 0 rfl) ?_
  refine va_get (D := g.1) (ci := 8) (v := .ref sk) (C := RX8) (T := TX8) (N := 13) hx hb hts q_X8_image_f8 hown hE.1 hP 0 rfl rfl 4 (by decide) (hts (.fieldLink RX8 23 "SoundLaws" "stock" "LSoundLaws$Stock;") q_X8_image_1) (fun _ h9 => h9) rfl dX8_image_1 ?_
  refine va_get (D := g.1) (ci := 5) (v := .int 0) (C := RX5) (T := TX5) (N := 5) hx hb hts q_X8_image_f5 hown hE.1 hP 1 rfl rfl 0 (by decide) (hts (.fieldLink RX8 93 "SoundLaws$Stock" "size" "I") q_X8_image_3) (fun _ h9 => h9) rfl dX8_image_4 ?_
  refine lv_if_ne (tgt := 13) hx hb dX8_image_7 (by decide) (fun c7_1 => ?_) (fun c7_1 => ?_)
  · exact absurd c7_1 (by decide)
  · skip
    refine lv_bipush (v := (-103)) hx hb dX8_image_10 (by decide) ?_
    refine W.widen (k := 0) (n := 0) (Nat.le_of_ble_eq_true rfl) (Nat.le_of_ble_eq_true rfl) ?_
    have hP9 := hP.sub (ws' := []) [] rfl
    have hD9 := hD.sub (ws' := []) [] (by decide) rfl
    exact k_ri hx hb hr hlocks hS hP9 hD9 ⟨rfl, rfl⟩ dX8_image_12
def po_X8_restore (g : GG) (h0 : Nat) (pg : Nat) (rd : Nat) (sk : Nat) (si : Nat) (sy : Nat) (ks : Nat) (ki : Nat) (al : Nat) (dr : Nat) : Int32 → va_W → Prop := fun (r : Int32) w => w = [] ∧ ((-103) = r)
theorem q_X8_restore_f8 : ∀ w ∈ u_ws RX8 TX8 13, w ∈ wsX8_restore := by decide +kernel
theorem q_X8_restore_1 : (Cond.fieldLink RX8 83 "SoundLaws" "kept" "Z") ∈ wsX8_restore := by decide +kernel
set_option maxHeartbeats 1500000 in
set_option maxRecDepth 100000 in
theorem c_X8_restore (l : Launch) (g : GG) (h0 : Nat) (pg : Nat) (rd : Nat) (sk : Nat) (si : Nat) (sy : Nat) (ks : Nat) (ki : Nat) (al : Nat) (dr : Nat)  (sz : Nat) : MetI l yX8_restore wsX8_restore ({ frames := 0, cells := 0, slots := 0, locals := 0 }) g [.ref h0] [(h0, .inr (8, [.ref pg, .int 0, .ref rd, .int 0, .ref sk, .ref si, .ref sy, .int 0, .ref ks, .ref ki, .int 0, .ref al, .ref dr]))] sz (po_X8_restore g h0 pg rd sk si sy ks ki al dr) 0 0 := by
  refine k_of (l := l) (y := yX8_restore) (ws := wsX8_restore) (rm := { frames := 0, cells := 0, slots := 0, locals := 0 }) (mc := 0) (ms := 0) (av := [.ref h0]) (g := g) (wc := [(h0, .inr (8, [.ref pg, .int 0, .ref rd, .int 0, .ref sk, .ref si, .ref sy, .int 0, .ref ks, .ref ki, .int 0, .ref al, .ref dr]))]) (Qc := fun A => va_Qi (po_X8_restore g h0 pg rd sk si sy ks ki al dr) (bk g A) A) (cc := cX8_restore) (maxL := 1) (ret := (some .int)) (by decide) rfl (Nat.le_of_ble_eq_true rfl) ?_ sz
  intro p e s m below meth c hx hb hr hts hown hlocks hnm hml A hA hE hZ hP hD hS ls hl
  have hown : s.vm.findClass RX8 = some m.cls := hown
  have hl : lv_has ls 1 [(0, .ref h0)] := hl
  refine lv_aload_n hx hb dX8_restore_0 rfl (lv_at hl 0 rfl) ?_
  refine va_get (D := g.1) (ci := 8) (v := .int 0) (C := RX8) (T := TX8) (N := 13) hx hb hts q_X8_restore_f8 hown hE.1 hP 0 rfl rfl 10 (by decide) (hts (.fieldLink RX8 83 "SoundLaws" "kept" "Z") q_X8_restore_1) (fun _ h9 => h9) rfl dX8_restore_1 ?_
  refine lv_if_ne (tgt := 10) hx hb dX8_restore_4 (by decide) (fun c4_1 => ?_) (fun c4_1 => ?_)
  · exact absurd c4_1 (by decide)
  · skip
    refine lv_bipush (v := (-103)) hx hb dX8_restore_7 (by decide) ?_
    refine W.widen (k := 0) (n := 0) (Nat.le_of_ble_eq_true rfl) (Nat.le_of_ble_eq_true rfl) ?_
    have hP9 := hP.sub (ws' := []) [] rfl
    have hD9 := hD.sub (ws' := []) [] (by decide) rfl
    exact k_ri hx hb hr hlocks hS hP9 hD9 ⟨rfl, rfl⟩ dX8_restore_9
def po_X8_cost (g : GG) (h0 : Nat) (pg : Nat) (rd : Nat) (sk : Nat) (si : Nat) (sy : Nat) (ks : Nat) (ki : Nat) (al : Nat) (dr : Nat) (p1 : Int32) (p2 : Int32) : Int32 → va_W → Prop := fun (r : Int32) w => w = [] ∧ (rC p1 p2 = r)
set_option maxHeartbeats 1500000 in
set_option maxRecDepth 100000 in
theorem c_X8_cost (l : Launch) (g : GG) (h0 : Nat) (pg : Nat) (rd : Nat) (sk : Nat) (si : Nat) (sy : Nat) (ks : Nat) (ki : Nat) (al : Nat) (dr : Nat) (p1 : Int32) (p2 : Int32)  (sz : Nat) : MetI l yX8_cost wsX8_cost ({ frames := 1, cells := 0, slots := 0, locals := 21 }) g [.ref h0, .int p1, .int p2] [(h0, .inr (8, [.ref pg, .int 0, .ref rd, .int 0, .ref sk, .ref si, .ref sy, .int 0, .ref ks, .ref ki, .int 0, .ref al, .ref dr]))] sz (po_X8_cost g h0 pg rd sk si sy ks ki al dr p1 p2) 0 0 := by
  refine k_of (l := l) (y := yX8_cost) (ws := wsX8_cost) (rm := { frames := 1, cells := 0, slots := 0, locals := 21 }) (mc := 0) (ms := 0) (av := [.ref h0, .int p1, .int p2]) (g := g) (wc := [(h0, .inr (8, [.ref pg, .int 0, .ref rd, .int 0, .ref sk, .ref si, .ref sy, .int 0, .ref ks, .ref ki, .int 0, .ref al, .ref dr]))]) (Qc := fun A => va_Qi (po_X8_cost g h0 pg rd sk si sy ks ki al dr p1 p2) (bk g A) A) (cc := cX8_cost) (maxL := 3) (ret := (some .int)) (by decide) rfl (Nat.le_of_ble_eq_true rfl) ?_ sz
  intro p e s m below meth c hx hb hr hts hown hlocks hnm hml A hA hE hZ hP hD hS ls hl
  have hown : s.vm.findClass RX8 = some m.cls := hown
  have hl : lv_has ls 3 [(0, .ref h0), (1, .int p1), (2, .int p2)] := hl
  refine lv_iload_n hx hb dX8_cost_0 rfl (lv_at hl 1 rfl) ?_
  refine k_ci (wr := [(h0, .inr (8, [.ref pg, .int 0, .ref rd, .int 0, .ref sk, .ref si, .ref sy, .int 0, .ref ks, .ref ki, .int 0, .ref al, .ref dr]))]) hP hD hS hA [] [0] rfl rfl (by decide) (by decide) (va_runS (As := [.int p1]) (rest := []) ⟨hx, hb, hml, hown, hts⟩ (c_X8_isSound l g p1  s.heap.size) (va_cwS 1 hts gX8_cost_X8_isSound rfl rfl rfl (by decide +kernel) ⟨Nat.le_of_ble_eq_true rfl, Nat.le_of_ble_eq_true rfl⟩) (k_preS hE hZ hP hD hS hA [] rfl (by decide)) rfl rfl hl.1 rfl (lv_room (Nat.le_of_ble_eq_true rfl)) dX8_cost_1 ⟨Nat.le_of_ble_eq_true rfl, Nat.le_of_ble_eq_true rfl⟩) (fun r_1 w1 H locs hw hP hD hS => ?_)
  obtain ⟨rfl, rfl⟩ := hw
  have hP : va_P g.1 vwCl [(h0, .inr (8, [.ref pg, .int 0, .ref rd, .int 0, .ref sk, .ref si, .ref sy, .int 0, .ref ks, .ref ki, .int 0, .ref al, .ref dr]))] H := hP
  have hD : va_D A [(h0, .inr (8, [.ref pg, .int 0, .ref rd, .int 0, .ref sk, .ref si, .ref sy, .int 0, .ref ks, .ref ki, .int 0, .ref al, .ref dr]))] := hD
  refine lv_if_eq (tgt := 14) hx hb dX8_cost_4 (by decide) (fun c4_3 => ?_) (fun c4_3 => ?_)
  · skip
    refine lv_bipush (v := (-101)) hx hb dX8_cost_14 (by decide) ?_
    refine W.widen (k := 0) (n := 0) (Nat.le_of_ble_eq_true rfl) (Nat.le_of_ble_eq_true rfl) ?_
    have hP9 := hP.sub (ws' := []) [] rfl
    have hD9 := hD.sub (ws' := []) [] (by decide) rfl
    exact k_ri hx hb hr hlocks hS hP9 hD9 ⟨rfl, (by unfold rC; rw [if_pos (Or.inl (isS_0 c4_3))])⟩ dX8_cost_16
  · skip
    refine lv_iload_n hx hb dX8_cost_7 rfl (lv_at hl 2 rfl) ?_
    refine k_ci (wr := [(h0, .inr (8, [.ref pg, .int 0, .ref rd, .int 0, .ref sk, .ref si, .ref sy, .int 0, .ref ks, .ref ki, .int 0, .ref al, .ref dr]))]) hP hD hS hA [] [0] rfl rfl (by decide) (by decide) (va_runS (As := [.int p2]) (rest := []) ⟨hx, hb, hml, hown, hts⟩ (c_X8_isSound l g p2  H.size) (va_cwS 1 hts gX8_cost_X8_isSound rfl rfl rfl (by decide +kernel) ⟨Nat.le_of_ble_eq_true rfl, Nat.le_of_ble_eq_true rfl⟩) (k_preS hE hZ hP hD hS hA [] rfl (by decide)) rfl rfl hl.1 rfl (lv_room (Nat.le_of_ble_eq_true rfl)) dX8_cost_8 ⟨Nat.le_of_ble_eq_true rfl, Nat.le_of_ble_eq_true rfl⟩) (fun r_4 w1 H locs hw hP hD hS => ?_)
    obtain ⟨rfl, rfl⟩ := hw
    have hP : va_P g.1 vwCl [(h0, .inr (8, [.ref pg, .int 0, .ref rd, .int 0, .ref sk, .ref si, .ref sy, .int 0, .ref ks, .ref ki, .int 0, .ref al, .ref dr]))] H := hP
    have hD : va_D A [(h0, .inr (8, [.ref pg, .int 0, .ref rd, .int 0, .ref sk, .ref si, .ref sy, .int 0, .ref ks, .ref ki, .int 0, .ref al, .ref dr]))] := hD
    refine lv_if_ne (tgt := 17) hx hb dX8_cost_11 (by decide) (fun c11_6 => ?_) (fun c11_6 => ?_)
    · skip
      obtain ⟨i, hi, rfl⟩ := isS_of (p := p1) c4_3
      obtain ⟨j, hj, rfl⟩ := isS_of (p := p2) c11_6
      refine lv_iload_n hx hb dX8_cost_17 rfl (lv_at hl 1 rfl) ?_
      refine lv_iload_n hx hb dX8_cost_18 rfl (lv_at hl 2 rfl) ?_
      refine k_ci (wr := [(h0, .inr (8, [.ref pg, .int 0, .ref rd, .int 0, .ref sk, .ref si, .ref sy, .int 0, .ref ks, .ref ki, .int 0, .ref al, .ref dr]))]) hP hD hS hA [] [0] rfl rfl (by decide) (by decide) (va_runS (As := [.int (nI i), .int (nI j)]) (rest := []) ⟨hx, hb, hml, hown, hts⟩ (c_X8_costOf l g i j (by assumption) (by assumption) H.size) (va_cwS 2 hts gX8_cost_X8_costOf rfl rfl rfl (by decide +kernel) ⟨Nat.le_of_ble_eq_true rfl, Nat.le_of_ble_eq_true rfl⟩) (k_preS hE hZ hP hD hS hA [] rfl (by decide)) rfl rfl hl.1 rfl (lv_room (Nat.le_of_ble_eq_true rfl)) dX8_cost_19 ⟨Nat.le_of_ble_eq_true rfl, Nat.le_of_ble_eq_true rfl⟩) (fun r_7 w1 H locs hw hP hD hS => ?_)
      obtain ⟨rfl, rfl⟩ := hw
      have hP : va_P g.1 vwCl [(h0, .inr (8, [.ref pg, .int 0, .ref rd, .int 0, .ref sk, .ref si, .ref sy, .int 0, .ref ks, .ref ki, .int 0, .ref al, .ref dr]))] H := hP
      have hD : va_D A [(h0, .inr (8, [.ref pg, .int 0, .ref rd, .int 0, .ref sk, .ref si, .ref sy, .int 0, .ref ks, .ref ki, .int 0, .ref al, .ref dr]))] := hD
      refine W.widen (k := 0) (n := 0) (Nat.le_of_ble_eq_true rfl) (Nat.le_of_ble_eq_true rfl) ?_
      have hP9 := hP.sub (ws' := []) [] rfl
      have hD9 := hD.sub (ws' := []) [] (by decide) rfl
      exact k_ri hx hb hr hlocks hS hP9 hD9 ⟨rfl, (rC_nI hi hj)⟩ dX8_cost_22
    · skip
      refine lv_bipush (v := (-101)) hx hb dX8_cost_14 (by decide) ?_
      refine W.widen (k := 0) (n := 0) (Nat.le_of_ble_eq_true rfl) (Nat.le_of_ble_eq_true rfl) ?_
      have hP9 := hP.sub (ws' := []) [] rfl
      have hD9 := hD.sub (ws' := []) [] (by decide) rfl
      exact k_ri hx hb hr hlocks hS hP9 hD9 ⟨rfl, (by unfold rC; rw [if_pos (Or.inr (isS_0 c11_6))])⟩ dX8_cost_16

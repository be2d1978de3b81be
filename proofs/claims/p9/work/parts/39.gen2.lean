def po_X8_change_g (g : GG) (h0 : Nat) (pg : Nat) (rd : Nat) (si : Nat) (sy : Nat) (ks : Nat) (ki : Nat) (al : Nat) (dr : Nat) (le : Int32) (re : Int32) (kp : Int32) (sd : Int32) (sk : Nat) (s1 : Nat) (s2 : Nat) (s3 : Nat) (z : Nat) (t : Nat) (K : Nat → Int32) (p1 : Int32) (p2 : Int32) : Int32 → va_W → Prop := fun (r : Int32) w => ∃ (sd2 : Int32) (K2 : Nat → Int32), w = [(h0, .inr (8, [.ref pg, .int le, .ref rd, .int re, .ref sk, .ref si, .ref sy, .int sd2, .ref ks, .ref ki, .int kp, .ref al, .ref dr])), (sk, .inr (5, [.int (nI z), .int (nI t), .ref s1, .ref s2, .ref s3])), (s1, ai g 6 K2)] ∧ (rCh p1 p2 z K = r) ∧ ((sd2 = sd ∧ K2 = K) ∨ (sd2 = 0 ∧ ∃ k, k < z ∧ p1 = nI k ∧ ¬ isI p2 5 = 0 ∧ K2 = upd K k p2))
theorem q_X8_change_g_f8 : ∀ w ∈ u_ws RX8 TX8 13, w ∈ wsX8_change := by decide +kernel
theorem q_X8_change_g_1 : (Cond.fieldLink RX8 23 "SoundLaws" "stock" "LSoundLaws$Stock;") ∈ wsX8_change := by decide +kernel
theorem q_X8_change_g_f5 : ∀ w ∈ u_ws RX5 TX5 5, w ∈ wsX8_change := by decide +kernel
theorem q_X8_change_g_3 : (Cond.fieldLink RX8 110 "SoundLaws$Stock" "kinds" "[I") ∈ wsX8_change := by decide +kernel
theorem q_X8_change_g_4 : (Cond.fieldLink RX8 87 "SoundLaws" "studied" "Z") ∈ wsX8_change := by decide +kernel
set_option maxHeartbeats 1500000 in
set_option maxRecDepth 100000 in
theorem c_X8_change_g (l : Launch) (g : GG) (h0 : Nat) (pg : Nat) (rd : Nat) (si : Nat) (sy : Nat) (ks : Nat) (ki : Nat) (al : Nat) (dr : Nat) (le : Int32) (re : Int32) (kp : Int32) (sd : Int32) (sk : Nat) (s1 : Nat) (s2 : Nat) (s3 : Nat) (z : Nat) (t : Nat) (K : Nat → Int32) (p1 : Int32) (p2 : Int32) (hz : z ≤ 6) (sz : Nat) : MetI l yX8_change wsX8_change ({ frames := 1, cells := 0, slots := 0, locals := 21 }) g [.ref h0, .int p1, .int p2] [(h0, .inr (8, [.ref pg, .int le, .ref rd, .int re, .ref sk, .ref si, .ref sy, .int sd, .ref ks, .ref ki, .int kp, .ref al, .ref dr])), (sk, .inr (5, [.int (nI z), .int (nI t), .ref s1, .ref s2, .ref s3])), (s1, ai g 6 K)] sz (po_X8_change_g g h0 pg rd si sy ks ki al dr le re kp sd sk s1 s2 s3 z t K p1 p2) 0 0 := by
  refine k_of (l := l) (y := yX8_change) (ws := wsX8_change) (rm := { frames := 1, cells := 0, slots := 0, locals := 21 }) (mc := 0) (ms := 0) (av := [.ref h0, .int p1, .int p2]) (g := g) (wc := [(h0, .inr (8, [.ref pg, .int le, .ref rd, .int re, .ref sk, .ref si, .ref sy, .int sd, .ref ks, .ref ki, .int kp, .ref al, .ref dr])), (sk, .inr (5, [.int (nI z), .int (nI t), .ref s1, .ref s2, .ref s3])), (s1, ai g 6 K)]) (Qc := fun A => va_Qi (po_X8_change_g g h0 pg rd si sy ks ki al dr le re kp sd sk s1 s2 s3 z t K p1 p2) (bk g A) A) (cc := cX8_change) (maxL := 4) (ret := (some .int)) (by decide) rfl (Nat.le_of_ble_eq_true rfl) ?_ sz
  intro p e s m below meth c hx hb hr hts hown hlocks hnm hml A hA hE hZ hP hD hS ls hl
  have hown : s.vm.findClass RX8 = some m.cls := hown
  have hl : lv_has ls 4 [(0, .ref h0), (1, .int p1), (2, .int p2)] := hl
  refine lv_aload_n hx hb dX8_change_0 rfl (lv_at hl 0 rfl) ?_
  refine lv_iload_n hx hb dX8_change_1 rfl (lv_at hl 1 rfl) ?_
  refine k_ci (wr := [(s1, ai g 6 K)]) hP hD hS hA [0, 1] [2] rfl rfl (by decide) (by decide) (va_runV (As := [.int p1]) (rest := []) ⟨hx, hb, hml, hown, hts⟩ (c_X8_isSet_g l g h0 pg rd si sy ks ki al dr le re sd kp sk s1 s2 s3 z t p1  s.heap.size) (cwV 1 hts gX8_change_X8_isSet rfl rfl rfl (by decide +kernel) ⟨Nat.le_of_ble_eq_true rfl, Nat.le_of_ble_eq_true rfl⟩) (k_preV hE hZ hP hD hS hA [0, 1] rfl (by decide) (va_recv hE.1 hP (ci := 8) (q0 := 0) rfl rfl)) rfl rfl hl.1 rfl (lv_room (Nat.le_of_ble_eq_true rfl)) dX8_change_2 ⟨Nat.le_of_ble_eq_true rfl, Nat.le_of_ble_eq_true rfl⟩) (fun r_1 w1 H locs hw hP hD hS => ?_)
  obtain ⟨rfl, rfl⟩ := hw
  have hP : va_P g.1 vwCl [(s1, ai g 6 K), (h0, .inr (8, [.ref pg, .int le, .ref rd, .int re, .ref sk, .ref si, .ref sy, .int sd, .ref ks, .ref ki, .int kp, .ref al, .ref dr])), (sk, .inr (5, [.int (nI z), .int (nI t), .ref s1, .ref s2, .ref s3]))] H := hP
  have hD : va_D A [(s1, ai g 6 K), (h0, .inr (8, [.ref pg, .int le, .ref rd, .int re, .ref sk, .ref si, .ref sy, .int sd, .ref ks, .ref ki, .int kp, .ref al, .ref dr])), (sk, .inr (5, [.int (nI z), .int (nI t), .ref s1, .ref s2, .ref s3]))] := hD
  refine lv_if_ne (tgt := 11) hx hb dX8_change_5 (by decide) (fun c5_3 => ?_) (fun c5_3 => ?_)
  · skip
    refine lv_iload_n hx hb dX8_change_11 rfl (lv_at hl 2 rfl) ?_
    refine k_ci (wr := [(s1, ai g 6 K), (h0, .inr (8, [.ref pg, .int le, .ref rd, .int re, .ref sk, .ref si, .ref sy, .int sd, .ref ks, .ref ki, .int kp, .ref al, .ref dr])), (sk, .inr (5, [.int (nI z), .int (nI t), .ref s1, .ref s2, .ref s3]))]) hP hD hS hA [] [0, 1, 2] rfl rfl (by decide) (by decide) (va_runS (As := [.int p2]) (rest := []) ⟨hx, hb, hml, hown, hts⟩ (c_X8_isKind_g l g p2  H.size) (va_cwS 1 hts gX8_change_X8_isKind rfl rfl rfl (by decide +kernel) ⟨Nat.le_of_ble_eq_true rfl, Nat.le_of_ble_eq_true rfl⟩) (k_preS hE hZ hP hD hS hA [] rfl (by decide)) rfl rfl hl.1 rfl (lv_room (Nat.le_of_ble_eq_true rfl)) dX8_change_12 ⟨Nat.le_of_ble_eq_true rfl, Nat.le_of_ble_eq_true rfl⟩) (fun r_4 w1 H locs hw hP hD hS => ?_)
    obtain ⟨rfl, rfl⟩ := hw
    have hP : va_P g.1 vwCl [(s1, ai g 6 K), (h0, .inr (8, [.ref pg, .int le, .ref rd, .int re, .ref sk, .ref si, .ref sy, .int sd, .ref ks, .ref ki, .int kp, .ref al, .ref dr])), (sk, .inr (5, [.int (nI z), .int (nI t), .ref s1, .ref s2, .ref s3]))] H := hP
    have hD : va_D A [(s1, ai g 6 K), (h0, .inr (8, [.ref pg, .int le, .ref rd, .int re, .ref sk, .ref si, .ref sy, .int sd, .ref ks, .ref ki, .int kp, .ref al, .ref dr])), (sk, .inr (5, [.int (nI z), .int (nI t), .ref s1, .ref s2, .ref s3]))] := hD
    refine lv_if_ne (tgt := 21) hx hb dX8_change_15 (by decide) (fun c15_6 => ?_) (fun c15_6 => ?_)
    · skip
      obtain ⟨k1, hk1, rfl⟩ := isI_of (p := p1) (by omega) c5_3
      refine lv_aload_n hx hb dX8_change_21 rfl (lv_at hl 0 rfl) ?_
      refine va_get (D := g.1) (ci := 8) (v := .ref sk) (C := RX8) (T := TX8) (N := 13) hx hb hts q_X8_change_g_f8 hown hE.1 hP 1 rfl rfl 4 (by decide) (hts (.fieldLink RX8 23 "SoundLaws" "stock" "LSoundLaws$Stock;") q_X8_change_g_1) (fun _ h9 => h9) rfl dX8_change_22 ?_
      refine va_get (D := g.1) (ci := 5) (v := .ref s1) (C := RX5) (T := TX5) (N := 5) hx hb hts q_X8_change_g_f5 hown hE.1 hP 2 rfl rfl 2 (by decide) (hts (.fieldLink RX8 110 "SoundLaws$Stock" "kinds" "[I") q_X8_change_g_3) (fun _ h9 => h9) rfl dX8_change_25 ?_
      refine lv_iload_n hx hb dX8_change_28 rfl (lv_at hl 1 rfl) ?_
      refine k_ald k1 rfl (by omega) hx hb hE hP 0 rfl (by decide) dX8_change_29 ?_
      refine lv_istore_n (lv' := [(3, .int (K k1)), (0, .ref h0), (1, .int (nI k1)), (2, .int p2)]) hx hb dX8_change_30 rfl hl (by decide) rfl (fun ls hl => ?_)
      refine lv_aload_n hx hb dX8_change_31 rfl (lv_at hl 1 rfl) ?_
      refine va_get (D := g.1) (ci := 8) (v := .ref sk) (C := RX8) (T := TX8) (N := 13) hx hb hts q_X8_change_g_f8 hown hE.1 hP 1 rfl rfl 4 (by decide) (hts (.fieldLink RX8 23 "SoundLaws" "stock" "LSoundLaws$Stock;") q_X8_change_g_1) (fun _ h9 => h9) rfl dX8_change_32 ?_
      refine va_get (D := g.1) (ci := 5) (v := .ref s1) (C := RX5) (T := TX5) (N := 5) hx hb hts q_X8_change_g_f5 hown hE.1 hP 2 rfl rfl 2 (by decide) (hts (.fieldLink RX8 110 "SoundLaws$Stock" "kinds" "[I") q_X8_change_g_3) (fun _ h9 => h9) rfl dX8_change_35 ?_
      refine lv_iload_n hx hb dX8_change_38 rfl (lv_at hl 2 rfl) ?_
      refine lv_iload_n hx hb dX8_change_39 rfl (lv_at hl 3 rfl) ?_
      refine k_ast (x := p2) k1 rfl (by omega) hx hb hE hP hD hS 0 rfl (by decide) dX8_change_40 (fun H locs hP hD hS => ?_)
      have hP : va_P g.1 vwCl [(s1, ai g 6 (upd K k1 p2)), (h0, .inr (8, [.ref pg, .int le, .ref rd, .int re, .ref sk, .ref si, .ref sy, .int sd, .ref ks, .ref ki, .int kp, .ref al, .ref dr])), (sk, .inr (5, [.int (nI z), .int (nI t), .ref s1, .ref s2, .ref s3]))] H := hP
      have hD : va_D A [(s1, ai g 6 (upd K k1 p2)), (h0, .inr (8, [.ref pg, .int le, .ref rd, .int re, .ref sk, .ref si, .ref sy, .int sd, .ref ks, .ref ki, .int kp, .ref al, .ref dr])), (sk, .inr (5, [.int (nI z), .int (nI t), .ref s1, .ref s2, .ref s3]))] := hD
      refine lv_aload_n hx hb dX8_change_41 rfl (lv_at hl 1 rfl) ?_
      refine lv_iconst (v := 0) hx hb dX8_change_42 (by decide) ?_
      refine va_put (D := g.1) (ci := 8) (v := .int 0) (ty := .boolean) (C := RX8) (T := TX8) (N := 13) hx hb hts q_X8_change_g_f8 tyX8 tyX8_ok nmX8 hown hE.1 hP hD hS 1 rfl rfl 7 (by decide) (hts (.fieldLink RX8 87 "SoundLaws" "studied" "Z") q_X8_change_g_4) (fun _ h9 => h9) rfl (by decide +kernel) rfl rfl (Nat.le_of_ble_eq_true rfl) dX8_change_43 (fun H locs hP hD hS => ?_)
      have hP : va_P g.1 vwCl [(s1, ai g 6 (upd K k1 p2)), (h0, .inr (8, [.ref pg, .int le, .ref rd, .int re, .ref sk, .ref si, .ref sy, .int 0, .ref ks, .ref ki, .int kp, .ref al, .ref dr])), (sk, .inr (5, [.int (nI z), .int (nI t), .ref s1, .ref s2, .ref s3]))] H := hP
      have hD : va_D A [(s1, ai g 6 (upd K k1 p2)), (h0, .inr (8, [.ref pg, .int le, .ref rd, .int re, .ref sk, .ref si, .ref sy, .int 0, .ref ks, .ref ki, .int kp, .ref al, .ref dr])), (sk, .inr (5, [.int (nI z), .int (nI t), .ref s1, .ref s2, .ref s3]))] := hD
      refine lv_iload_n hx hb dX8_change_46 rfl (lv_at hl 0 rfl) ?_
      refine W.widen (k := 0) (n := 0) (Nat.le_of_ble_eq_true rfl) (Nat.le_of_ble_eq_true rfl) ?_
      have hP9 := hP.sub (ws' := [(h0, .inr (8, [.ref pg, .int le, .ref rd, .int re, .ref sk, .ref si, .ref sy, .int 0, .ref ks, .ref ki, .int kp, .ref al, .ref dr])), (sk, .inr (5, [.int (nI z), .int (nI t), .ref s1, .ref s2, .ref s3])), (s1, ai g 6 (upd K k1 p2))]) [1, 2, 0] rfl
      have hD9 := hD.sub (ws' := [(h0, .inr (8, [.ref pg, .int le, .ref rd, .int re, .ref sk, .ref si, .ref sy, .int 0, .ref ks, .ref ki, .int kp, .ref al, .ref dr])), (sk, .inr (5, [.int (nI z), .int (nI t), .ref s1, .ref s2, .ref s3])), (s1, ai g 6 (upd K k1 p2))]) [1, 2, 0] (by decide) rfl
      exact k_ri hx hb hr hlocks hS hP9 hD9 ⟨0, (upd K k1 p2), rfl, (by unfold rCh; rw [if_neg c5_3, if_neg c15_6, nI_clamp (by omega)]), Or.inr ⟨rfl, k1, hk1, rfl, c15_6, rfl⟩⟩ dX8_change_47
    · skip
      refine lv_bipush (v := (-102)) hx hb dX8_change_18 (by decide) ?_
      refine W.widen (k := 0) (n := 0) (Nat.le_of_ble_eq_true rfl) (Nat.le_of_ble_eq_true rfl) ?_
      have hP9 := hP.sub (ws' := [(h0, .inr (8, [.ref pg, .int le, .ref rd, .int re, .ref sk, .ref si, .ref sy, .int sd, .ref ks, .ref ki, .int kp, .ref al, .ref dr])), (sk, .inr (5, [.int (nI z), .int (nI t), .ref s1, .ref s2, .ref s3])), (s1, ai g 6 K)]) [1, 2, 0] rfl
      have hD9 := hD.sub (ws' := [(h0, .inr (8, [.ref pg, .int le, .ref rd, .int re, .ref sk, .ref si, .ref sy, .int sd, .ref ks, .ref ki, .int kp, .ref al, .ref dr])), (sk, .inr (5, [.int (nI z), .int (nI t), .ref s1, .ref s2, .ref s3])), (s1, ai g 6 K)]) [1, 2, 0] (by decide) rfl
      exact k_ri hx hb hr hlocks hS hP9 hD9 ⟨sd, K, rfl, (by unfold rCh; rw [if_neg c5_3, if_pos c15_6]), Or.inl ⟨rfl, rfl⟩⟩ dX8_change_20
  · skip
    refine lv_bipush (v := (-101)) hx hb dX8_change_8 (by decide) ?_
    refine W.widen (k := 0) (n := 0) (Nat.le_of_ble_eq_true rfl) (Nat.le_of_ble_eq_true rfl) ?_
    have hP9 := hP.sub (ws' := [(h0, .inr (8, [.ref pg, .int le, .ref rd, .int re, .ref sk, .ref si, .ref sy, .int sd, .ref ks, .ref ki, .int kp, .ref al, .ref dr])), (sk, .inr (5, [.int (nI z), .int (nI t), .ref s1, .ref s2, .ref s3])), (s1, ai g 6 K)]) [1, 2, 0] rfl
    have hD9 := hD.sub (ws' := [(h0, .inr (8, [.ref pg, .int le, .ref rd, .int re, .ref sk, .ref si, .ref sy, .int sd, .ref ks, .ref ki, .int kp, .ref al, .ref dr])), (sk, .inr (5, [.int (nI z), .int (nI t), .ref s1, .ref s2, .ref s3])), (s1, ai g 6 K)]) [1, 2, 0] (by decide) rfl
    exact k_ri hx hb hr hlocks hS hP9 hD9 ⟨sd, K, rfl, (by unfold rCh; rw [if_pos c5_3]), Or.inl ⟨rfl, rfl⟩⟩ dX8_change_10
def po_X8_copy_g (g : GG) (h0 : Nat) (pg : Nat) (rd : Nat) (si : Nat) (sy : Nat) (ks : Nat) (ki : Nat) (al : Nat) (dr : Nat) (le : Int32) (re : Int32) (kp : Int32) (sd : Int32) (sk : Nat) (s1 : Nat) (s2 : Nat) (s3 : Nat) (z : Nat) (t : Nat) (K : Nat → Int32) (L : Nat → Int32) (V : Nat → Int32) (p1 : Int32) : Int32 → va_W → Prop := fun (r : Int32) w => ∃ (sd2 : Int32) (z2 : Nat) (K2 : Nat → Int32) (L2 : Nat → Int32) (V2 : Nat → Int32), w = [(h0, .inr (8, [.ref pg, .int le, .ref rd, .int re, .ref sk, .ref si, .ref sy, .int sd2, .ref ks, .ref ki, .int kp, .ref al, .ref dr])), (sk, .inr (5, [.int (nI z2), .int (nI t), .ref s1, .ref s2, .ref s3])), (s1, ai g 6 K2), (s2, ai g 6 L2), (s3, ai g 96 V2)] ∧ (rCp p1 z = r) ∧ ((sd2 = sd ∧ z2 = z ∧ K2 = K ∧ L2 = L ∧ V2 = V) ∨ (sd2 = 0 ∧ z < 6 ∧ z2 = z + 1 ∧ ∃ k, k < z ∧ p1 = nI k ∧ K2 = upd K z (K k) ∧ L2 = upd L z (L k) ∧ V2 = va_cpy V V (16 * k) (16 * z) 16))
theorem q_X8_copy_g_f8 : ∀ w ∈ u_ws RX8 TX8 13, w ∈ wsX8_copy := by decide +kernel
theorem q_X8_copy_g_1 : (Cond.fieldLink RX8 23 "SoundLaws" "stock" "LSoundLaws$Stock;") ∈ wsX8_copy := by decide +kernel
theorem q_X8_copy_g_f5 : ∀ w ∈ u_ws RX5 TX5 5, w ∈ wsX8_copy := by decide +kernel
theorem q_X8_copy_g_3 : (Cond.fieldLink RX8 93 "SoundLaws$Stock" "size" "I") ∈ wsX8_copy := by decide +kernel
theorem q_X8_copy_g_4 : (Cond.fieldLink RX8 87 "SoundLaws" "studied" "Z") ∈ wsX8_copy := by decide +kernel
set_option maxHeartbeats 1500000 in
set_option maxRecDepth 100000 in
theorem c_X8_copy_g (l : Launch) (g : GG) (h0 : Nat) (pg : Nat) (rd : Nat) (si : Nat) (sy : Nat) (ks : Nat) (ki : Nat) (al : Nat) (dr : Nat) (le : Int32) (re : Int32) (kp : Int32) (sd : Int32) (sk : Nat) (s1 : Nat) (s2 : Nat) (s3 : Nat) (z : Nat) (t : Nat) (K : Nat → Int32) (L : Nat → Int32) (V : Nat → Int32) (p1 : Int32) (hz : z ≤ 6) (sz : Nat) : MetI l yX8_copy wsX8_copy ({ frames := 2, cells := 0, slots := 0, locals := 62 }) g [.ref h0, .int p1] [(h0, .inr (8, [.ref pg, .int le, .ref rd, .int re, .ref sk, .ref si, .ref sy, .int sd, .ref ks, .ref ki, .int kp, .ref al, .ref dr])), (sk, .inr (5, [.int (nI z), .int (nI t), .ref s1, .ref s2, .ref s3])), (s1, ai g 6 K), (s2, ai g 6 L), (s3, ai g 96 V)] sz (po_X8_copy_g g h0 pg rd si sy ks ki al dr le re kp sd sk s1 s2 s3 z t K L V p1) 0 0 := by
  refine k_of (l := l) (y := yX8_copy) (ws := wsX8_copy) (rm := { frames := 2, cells := 0, slots := 0, locals := 62 }) (mc := 0) (ms := 0) (av := [.ref h0, .int p1]) (g := g) (wc := [(h0, .inr (8, [.ref pg, .int le, .ref rd, .int re, .ref sk, .ref si, .ref sy, .int sd, .ref ks, .ref ki, .int kp, .ref al, .ref dr])), (sk, .inr (5, [.int (nI z), .int (nI t), .ref s1, .ref s2, .ref s3])), (s1, ai g 6 K), (s2, ai g 6 L), (s3, ai g 96 V)]) (Qc := fun A => va_Qi (po_X8_copy_g g h0 pg rd si sy ks ki al dr le re kp sd sk s1 s2 s3 z t K L V p1) (bk g A) A) (cc := cX8_copy) (maxL := 3) (ret := (some .int)) (by decide) rfl (Nat.le_of_ble_eq_true rfl) ?_ sz
  intro p e s m below meth c hx hb hr hts hown hlocks hnm hml A hA hE hZ hP hD hS ls hl
  have hown : s.vm.findClass RX8 = some m.cls := hown
  have hl : lv_has ls 3 [(0, .ref h0), (1, .int p1)] := hl
  refine lv_aload_n hx hb dX8_copy_0 rfl (lv_at hl 0 rfl) ?_
  refine lv_iload_n hx hb dX8_copy_1 rfl (lv_at hl 1 rfl) ?_
  refine k_ci (wr := [(s1, ai g 6 K), (s2, ai g 6 L), (s3, ai g 96 V)]) hP hD hS hA [0, 1] [2, 3, 4] rfl rfl (by decide) (by decide) (va_runV (As := [.int p1]) (rest := []) ⟨hx, hb, hml, hown, hts⟩ (c_X8_isSet_g l g h0 pg rd si sy ks ki al dr le re sd kp sk s1 s2 s3 z t p1  s.heap.size) (cwV 1 hts gX8_copy_X8_isSet rfl rfl rfl (by decide +kernel) ⟨Nat.le_of_ble_eq_true rfl, Nat.le_of_ble_eq_true rfl⟩) (k_preV hE hZ hP hD hS hA [0, 1] rfl (by decide) (va_recv hE.1 hP (ci := 8) (q0 := 0) rfl rfl)) rfl rfl hl.1 rfl (lv_room (Nat.le_of_ble_eq_true rfl)) dX8_copy_2 ⟨Nat.le_of_ble_eq_true rfl, Nat.le_of_ble_eq_true rfl⟩) (fun r_1 w1 H locs hw hP hD hS => ?_)
  obtain ⟨rfl, rfl⟩ := hw
  have hP : va_P g.1 vwCl [(s1, ai g 6 K), (s2, ai g 6 L), (s3, ai g 96 V), (h0, .inr (8, [.ref pg, .int le, .ref rd, .int re, .ref sk, .ref si, .ref sy, .int sd, .ref ks, .ref ki, .int kp, .ref al, .ref dr])), (sk, .inr (5, [.int (nI z), .int (nI t), .ref s1, .ref s2, .ref s3]))] H := hP
  have hD : va_D A [(s1, ai g 6 K), (s2, ai g 6 L), (s3, ai g 96 V), (h0, .inr (8, [.ref pg, .int le, .ref rd, .int re, .ref sk, .ref si, .ref sy, .int sd, .ref ks, .ref ki, .int kp, .ref al, .ref dr])), (sk, .inr (5, [.int (nI z), .int (nI t), .ref s1, .ref s2, .ref s3]))] := hD
  refine lv_if_ne (tgt := 11) hx hb dX8_copy_5 (by decide) (fun c5_3 => ?_) (fun c5_3 => ?_)
  · skip
    refine lv_aload_n hx hb dX8_copy_11 rfl (lv_at hl 0 rfl) ?_
    refine va_get (D := g.1) (ci := 8) (v := .ref sk) (C := RX8) (T := TX8) (N := 13) hx hb hts q_X8_copy_g_f8 hown hE.1 hP 3 rfl rfl 4 (by decide) (hts (.fieldLink RX8 23 "SoundLaws" "stock" "LSoundLaws$Stock;") q_X8_copy_g_1) (fun _ h9 => h9) rfl dX8_copy_12 ?_
    refine va_get (D := g.1) (ci := 5) (v := .int (nI z)) (C := RX5) (T := TX5) (N := 5) hx hb hts q_X8_copy_g_f5 hown hE.1 hP 4 rfl rfl 0 (by decide) (hts (.fieldLink RX8 93 "SoundLaws$Stock" "size" "I") q_X8_copy_g_3) (fun _ h9 => h9) rfl dX8_copy_15 ?_
    refine lv_bipush (v := 6) hx hb dX8_copy_18 (by decide) ?_
    refine lv_icmp_lt (tgt := 26) hx hb dX8_copy_20 (by decide) (fun c20_4 => ?_) (fun c20_4 => ?_)
    · skip
      obtain ⟨k1, hk1, rfl⟩ := isI_of (p := p1) (by omega) c5_3
      have hz6 : z < 6 := (nI_ltI (b := 6) (by omega) (by decide)).mp c20_4
      refine lv_aload_n hx hb dX8_copy_26 rfl (lv_at hl 0 rfl) ?_
      refine va_get (D := g.1) (ci := 8) (v := .ref sk) (C := RX8) (T := TX8) (N := 13) hx hb hts q_X8_copy_g_f8 hown hE.1 hP 3 rfl rfl 4 (by decide) (hts (.fieldLink RX8 23 "SoundLaws" "stock" "LSoundLaws$Stock;") q_X8_copy_g_1) (fun _ h9 => h9) rfl dX8_copy_27 ?_
      refine va_get (D := g.1) (ci := 5) (v := .int (nI z)) (C := RX5) (T := TX5) (N := 5) hx hb hts q_X8_copy_g_f5 hown hE.1 hP 4 rfl rfl 0 (by decide) (hts (.fieldLink RX8 93 "SoundLaws$Stock" "size" "I") q_X8_copy_g_3) (fun _ h9 => h9) rfl dX8_copy_30 ?_
      refine lv_istore_n (lv' := [(2, .int (nI z)), (0, .ref h0), (1, .int (nI k1))]) hx hb dX8_copy_33 rfl hl (by decide) rfl (fun ls hl => ?_)
      refine lv_aload_n hx hb dX8_copy_34 rfl (lv_at hl 1 rfl) ?_
      refine va_get (D := g.1) (ci := 8) (v := .ref sk) (C := RX8) (T := TX8) (N := 13) hx hb hts q_X8_copy_g_f8 hown hE.1 hP 3 rfl rfl 4 (by decide) (hts (.fieldLink RX8 23 "SoundLaws" "stock" "LSoundLaws$Stock;") q_X8_copy_g_1) (fun _ h9 => h9) rfl dX8_copy_35 ?_
      refine lv_iload_n hx hb dX8_copy_38 rfl (lv_at hl 2 rfl) ?_
      refine lv_iload_n hx hb dX8_copy_39 rfl (lv_at hl 0 rfl) ?_
      refine k_cv (wr := [(h0, .inr (8, [.ref pg, .int le, .ref rd, .int re, .ref sk, .ref si, .ref sy, .int sd, .ref ks, .ref ki, .int kp, .ref al, .ref dr]))]) hP hD hS hA [4, 0, 1, 2] [3] rfl rfl (by decide) (by decide) (va_runV (As := [.int (nI k1), .int (nI z)]) (rest := []) ⟨hx, hb, hml, hown, hts⟩ (c_X5_putOver_g l g sk s1 s2 s3 K L V (nI z) (nI t) k1 z (by first | assumption | omega) (by first | assumption | omega) H.size) (cwV 2 hts gX8_copy_X5_putOver rfl rfl rfl (by decide +kernel) ⟨Nat.le_of_ble_eq_true rfl, Nat.le_of_ble_eq_true rfl⟩) (k_preV hE hZ hP hD hS hA [4, 0, 1, 2] rfl (by decide) (va_recv hE.1 hP (ci := 5) (q0 := 4) rfl rfl)) rfl rfl hl.1 rfl (lv_room (Nat.le_of_ble_eq_true rfl)) dX8_copy_40 ⟨Nat.le_of_ble_eq_true rfl, Nat.le_of_ble_eq_true rfl⟩) (fun w1 H locs hw hP hD hS => ?_)
      obtain rfl := hw
      have hP : va_P g.1 vwCl [(h0, .inr (8, [.ref pg, .int le, .ref rd, .int re, .ref sk, .ref si, .ref sy, .int sd, .ref ks, .ref ki, .int kp, .ref al, .ref dr])), (sk, .inr (5, [.int (nI z), .int (nI t), .ref s1, .ref s2, .ref s3])), (s1, ai g 6 (upd K z (K k1))), (s2, ai g 6 (upd L z (L k1))), (s3, ai g 96 (va_cpy V V (16 * k1) (16 * z) 16))] H := hP
      have hD : va_D A [(h0, .inr (8, [.ref pg, .int le, .ref rd, .int re, .ref sk, .ref si, .ref sy, .int sd, .ref ks, .ref ki, .int kp, .ref al, .ref dr])), (sk, .inr (5, [.int (nI z), .int (nI t), .ref s1, .ref s2, .ref s3])), (s1, ai g 6 (upd K z (K k1))), (s2, ai g 6 (upd L z (L k1))), (s3, ai g 96 (va_cpy V V (16 * k1) (16 * z) 16))] := hD
      refine lv_aload_n hx hb dX8_copy_43 rfl (lv_at hl 1 rfl) ?_
      refine va_get (D := g.1) (ci := 8) (v := .ref sk) (C := RX8) (T := TX8) (N := 13) hx hb hts q_X8_copy_g_f8 hown hE.1 hP 0 rfl rfl 4 (by decide) (hts (.fieldLink RX8 23 "SoundLaws" "stock" "LSoundLaws$Stock;") q_X8_copy_g_1) (fun _ h9 => h9) rfl dX8_copy_44 ?_
      refine lv_dup hx hb dX8_copy_47 rfl ?_
      refine va_get (D := g.1) (ci := 5) (v := .int (nI z)) (C := RX5) (T := TX5) (N := 5) hx hb hts q_X8_copy_g_f5 hown hE.1 hP 1 rfl rfl 0 (by decide) (hts (.fieldLink RX8 93 "SoundLaws$Stock" "size" "I") q_X8_copy_g_3) (fun _ h9 => h9) rfl dX8_copy_48 ?_
      refine lv_iconst (v := 1) hx hb dX8_copy_51 (by decide) ?_
      refine lv_iadd hx hb dX8_copy_52 ?_
      refine lv_topi (fun x_6 ex_6 => ?_)
      obtain rfl : x_6 = nI (z + 1) := by rw [ex_6]; exact nI_1 z
      refine va_put (D := g.1) (ci := 5) (v := .int (nI (z + 1))) (ty := .int) (C := RX5) (T := TX5) (N := 5) hx hb hts q_X8_copy_g_f5 tyX5 tyX5_ok nmX5 hown hE.1 hP hD hS 1 rfl rfl 0 (by decide) (hts (.fieldLink RX8 93 "SoundLaws$Stock" "size" "I") q_X8_copy_g_3) (fun _ h9 => h9) rfl (by decide +kernel) rfl rfl (Nat.le_of_ble_eq_true rfl) dX8_copy_53 (fun H locs hP hD hS => ?_)
      have hP : va_P g.1 vwCl [(h0, .inr (8, [.ref pg, .int le, .ref rd, .int re, .ref sk, .ref si, .ref sy, .int sd, .ref ks, .ref ki, .int kp, .ref al, .ref dr])), (sk, .inr (5, [.int (nI (z + 1)), .int (nI t), .ref s1, .ref s2, .ref s3])), (s1, ai g 6 (upd K z (K k1))), (s2, ai g 6 (upd L z (L k1))), (s3, ai g 96 (va_cpy V V (16 * k1) (16 * z) 16))] H := hP
      have hD : va_D A [(h0, .inr (8, [.ref pg, .int le, .ref rd, .int re, .ref sk, .ref si, .ref sy, .int sd, .ref ks, .ref ki, .int kp, .ref al, .ref dr])), (sk, .inr (5, [.int (nI (z + 1)), .int (nI t), .ref s1, .ref s2, .ref s3])), (s1, ai g 6 (upd K z (K k1))), (s2, ai g 6 (upd L z (L k1))), (s3, ai g 96 (va_cpy V V (16 * k1) (16 * z) 16))] := hD
      refine lv_aload_n hx hb dX8_copy_56 rfl (lv_at hl 1 rfl) ?_
      refine lv_iconst (v := 0) hx hb dX8_copy_57 (by decide) ?_
      refine va_put (D := g.1) (ci := 8) (v := .int 0) (ty := .boolean) (C := RX8) (T := TX8) (N := 13) hx hb hts q_X8_copy_g_f8 tyX8 tyX8_ok nmX8 hown hE.1 hP hD hS 0 rfl rfl 7 (by decide) (hts (.fieldLink RX8 87 "SoundLaws" "studied" "Z") q_X8_copy_g_4) (fun _ h9 => h9) rfl (by decide +kernel) rfl rfl (Nat.le_of_ble_eq_true rfl) dX8_copy_58 (fun H locs hP hD hS => ?_)
      have hP : va_P g.1 vwCl [(h0, .inr (8, [.ref pg, .int le, .ref rd, .int re, .ref sk, .ref si, .ref sy, .int 0, .ref ks, .ref ki, .int kp, .ref al, .ref dr])), (sk, .inr (5, [.int (nI (z + 1)), .int (nI t), .ref s1, .ref s2, .ref s3])), (s1, ai g 6 (upd K z (K k1))), (s2, ai g 6 (upd L z (L k1))), (s3, ai g 96 (va_cpy V V (16 * k1) (16 * z) 16))] H := hP
      have hD : va_D A [(h0, .inr (8, [.ref pg, .int le, .ref rd, .int re, .ref sk, .ref si, .ref sy, .int 0, .ref ks, .ref ki, .int kp, .ref al, .ref dr])), (sk, .inr (5, [.int (nI (z + 1)), .int (nI t), .ref s1, .ref s2, .ref s3])), (s1, ai g 6 (upd K z (K k1))), (s2, ai g 6 (upd L z (L k1))), (s3, ai g 96 (va_cpy V V (16 * k1) (16 * z) 16))] := hD
      refine lv_iload_n hx hb dX8_copy_61 rfl (lv_at hl 0 rfl) ?_
      refine W.widen (k := 0) (n := 0) (Nat.le_of_ble_eq_true rfl) (Nat.le_of_ble_eq_true rfl) ?_
      exact k_ri hx hb hr hlocks hS hP hD ⟨0, (z + 1), (upd K z (K k1)), (upd L z (L k1)), (va_cpy V V (16 * k1) (16 * z) 16), rfl, (by unfold rCp; rw [if_neg c5_3, if_pos hz6]), Or.inr ⟨rfl, hz6, rfl, k1, hk1, rfl, rfl, rfl, rfl⟩⟩ dX8_copy_62
    · skip
      refine lv_bipush (v := (-104)) hx hb dX8_copy_23 (by decide) ?_
      refine W.widen (k := 0) (n := 0) (Nat.le_of_ble_eq_true rfl) (Nat.le_of_ble_eq_true rfl) ?_
      have hP9 := hP.sub (ws' := [(h0, .inr (8, [.ref pg, .int le, .ref rd, .int re, .ref sk, .ref si, .ref sy, .int sd, .ref ks, .ref ki, .int kp, .ref al, .ref dr])), (sk, .inr (5, [.int (nI z), .int (nI t), .ref s1, .ref s2, .ref s3])), (s1, ai g 6 K), (s2, ai g 6 L), (s3, ai g 96 V)]) [3, 4, 0, 1, 2] rfl
      have hD9 := hD.sub (ws' := [(h0, .inr (8, [.ref pg, .int le, .ref rd, .int re, .ref sk, .ref si, .ref sy, .int sd, .ref ks, .ref ki, .int kp, .ref al, .ref dr])), (sk, .inr (5, [.int (nI z), .int (nI t), .ref s1, .ref s2, .ref s3])), (s1, ai g 6 K), (s2, ai g 6 L), (s3, ai g 96 V)]) [3, 4, 0, 1, 2] (by decide) rfl
      exact k_ri hx hb hr hlocks hS hP9 hD9 ⟨sd, z, K, L, V, rfl, (by unfold rCp; rw [if_neg c5_3, if_neg (fun q => c20_4 (nI_lt (b := 6) q (by decide)))]), Or.inl ⟨rfl, rfl, rfl, rfl, rfl⟩⟩ dX8_copy_25
  · skip
    refine lv_bipush (v := (-101)) hx hb dX8_copy_8 (by decide) ?_
    refine W.widen (k := 0) (n := 0) (Nat.le_of_ble_eq_true rfl) (Nat.le_of_ble_eq_true rfl) ?_
    have hP9 := hP.sub (ws' := [(h0, .inr (8, [.ref pg, .int le, .ref rd, .int re, .ref sk, .ref si, .ref sy, .int sd, .ref ks, .ref ki, .int kp, .ref al, .ref dr])), (sk, .inr (5, [.int (nI z), .int (nI t), .ref s1, .ref s2, .ref s3])), (s1, ai g 6 K), (s2, ai g 6 L), (s3, ai g 96 V)]) [3, 4, 0, 1, 2] rfl
    have hD9 := hD.sub (ws' := [(h0, .inr (8, [.ref pg, .int le, .ref rd, .int re, .ref sk, .ref si, .ref sy, .int sd, .ref ks, .ref ki, .int kp, .ref al, .ref dr])), (sk, .inr (5, [.int (nI z), .int (nI t), .ref s1, .ref s2, .ref s3])), (s1, ai g 6 K), (s2, ai g 6 L), (s3, ai g 96 V)]) [3, 4, 0, 1, 2] (by decide) rfl
    exact k_ri hx hb hr hlocks hS hP9 hD9 ⟨sd, z, K, L, V, rfl, (by unfold rCp; rw [if_pos c5_3]), Or.inl ⟨rfl, rfl, rfl, rfl, rfl⟩⟩ dX8_copy_10
def po_X4_loseSet_g (g : GG) (q1 : Nat) (q2 : Nat) (q3 : Nat) (si : Nat) (A1 : Nat → Int32) (A2 : Nat → Int32) (A3 : Nat → Int32) (n : Nat) (p1 : Int32) : va_W → Prop := fun w => ∃ (C1 : Nat → Int32), w = [(si, .inr (4, [.int (nI n), .ref q1, .ref q2, .ref q3])), (q1, ai g 6 C1), (q2, ai g 6 A2), (q3, az g 6 A3)]
theorem q_X4_loseSet_g_f4 : ∀ w ∈ u_ws RX4 TX4 4, w ∈ wsX4_loseSet := by decide +kernel
theorem q_X4_loseSet_g_1 : (Cond.fieldLink RX4 22 "SoundLaws$Sightings" "size" "I") ∈ wsX4_loseSet := by decide +kernel
theorem q_X4_loseSet_g_2 : (Cond.fieldLink RX4 9 "SoundLaws$Sightings" "sets" "[I") ∈ wsX4_loseSet := by decide +kernel
set_option maxHeartbeats 1500000 in
set_option maxRecDepth 100000 in
theorem c_X4_loseSet_g (l : Launch) (g : GG) (q1 : Nat) (q2 : Nat) (q3 : Nat) (si : Nat) (A1 : Nat → Int32) (A2 : Nat → Int32) (A3 : Nat → Int32) (n : Nat) (p1 : Int32) (hn : n ≤ 6) (sz : Nat) : MetV l yX4_loseSet wsX4_loseSet ({ frames := 0, cells := 0, slots := 0, locals := 0 }) g [.ref si, .int p1] [(si, .inr (4, [.int (nI n), .ref q1, .ref q2, .ref q3])), (q1, ai g 6 A1), (q2, ai g 6 A2), (q3, az g 6 A3)] sz (po_X4_loseSet_g g q1 q2 q3 si A1 A2 A3 n p1) 0 0 := by
  refine k_of (l := l) (y := yX4_loseSet) (ws := wsX4_loseSet) (rm := { frames := 0, cells := 0, slots := 0, locals := 0 }) (mc := 0) (ms := 0) (av := [.ref si, .int p1]) (g := g) (wc := [(si, .inr (4, [.int (nI n), .ref q1, .ref q2, .ref q3])), (q1, ai g 6 A1), (q2, ai g 6 A2), (q3, az g 6 A3)]) (Qc := fun A => va_Qv (po_X4_loseSet_g g q1 q2 q3 si A1 A2 A3 n p1) (bk g A) A) (cc := cX4_loseSet) (maxL := 3) (ret := none) (by decide) rfl (Nat.le_of_ble_eq_true rfl) ?_ sz
  intro p e s m below meth c hx hb hr hts hown hlocks hnm hml A hA hE hZ hP hD hS ls hl
  have hown : s.vm.findClass RX4 = some m.cls := hown
  have hl : lv_has ls 3 [(0, .ref si), (1, .int p1)] := hl
  refine lv_iconst (v := 0) hx hb dX4_loseSet_0 (by decide) ?_
  refine lv_istore_n (lv' := [(2, .int 0), (0, .ref si), (1, .int p1)]) hx hb dX4_loseSet_1 rfl hl (by decide) rfl (fun ls hl => ?_)
  have loop2 : ∀ (fu : Nat) (j : Nat) (C1 : Nat → Int32), (hj : j ≤ n) → n - j < fu → ∀ (H : Heap) (locs : List Loc) (ls : Array Slot), va_P g.1 vwCl [(si, .inr (4, [.int (nI n), .ref q1, .ref q2, .ref q3])), (q1, ai g 6 C1), (q2, ai g 6 A2), (q3, az g 6 A3)] H → va_D A [(si, .inr (4, [.int (nI n), .ref q1, .ref q2, .ref q3])), (q1, ai g 6 C1), (q2, ai g 6 A2), (q3, az g 6 A3)] → va_S A s.heap H locs → lv_has ls 3 [(0, .ref si), (1, .int p1), (2, .int (nI j))] → W p l e ({ frames := 0, cells := 0, slots := 0, locals := 0 }) s m [.ref si, .int p1].toArray below meth c H locs 0 0 (MQ below (va_Qv (po_X4_loseSet_g g q1 q2 q3 si A1 A2 A3 n p1) (bk g A) A) [.ref si, .int p1].toArray s 0 0 A) (F0 m 2 ls []) := by
    intro fu
    induction fu with
    | zero => intro j C1 hj hfu; exact absurd hfu (Nat.not_lt_zero _)
    | succ fu ih =>
      intro j C1 hj hfu H locs ls hP hD hS hl
      have ih2 := ih
      refine lv_iload_n hx hb dX4_loseSet_2 rfl (lv_at hl 2 rfl) ?_
      refine lv_aload_n hx hb dX4_loseSet_3 rfl (lv_at hl 0 rfl) ?_
      refine va_get (D := g.1) (ci := 4) (v := .int (nI n)) (C := RX4) (T := TX4) (N := 4) hx hb hts q_X4_loseSet_g_f4 hown hE.1 hP 0 rfl rfl 0 (by decide) (hts (.fieldLink RX4 22 "SoundLaws$Sightings" "size" "I") q_X4_loseSet_g_1) (fun _ h9 => h9) rfl dX4_loseSet_4 ?_
      refine lv_icmp_ge (tgt := 56) hx hb dX4_loseSet_7 (by decide) (fun c7_1 => ?_) (fun c7_1 => ?_)
      · skip
        refine W.widen (k := 0) (n := 0) (Nat.le_of_ble_eq_true rfl) (Nat.le_of_ble_eq_true rfl) ?_
        exact k_rv hx hb hr hlocks hS hP hD ⟨C1, rfl⟩ dX4_loseSet_56
      · skip
        have hj9 := lt_of_nle (k := n) (n := j) (by omega) (by omega) c7_1
        refine lv_aload_n hx hb dX4_loseSet_10 rfl (lv_at hl 0 rfl) ?_
        refine va_get (D := g.1) (ci := 4) (v := .ref q1) (C := RX4) (T := TX4) (N := 4) hx hb hts q_X4_loseSet_g_f4 hown hE.1 hP 0 rfl rfl 1 (by decide) (hts (.fieldLink RX4 9 "SoundLaws$Sightings" "sets" "[I") q_X4_loseSet_g_2) (fun _ h9 => h9) rfl dX4_loseSet_11 ?_
        refine lv_iload_n hx hb dX4_loseSet_14 rfl (lv_at hl 2 rfl) ?_
        refine k_ald j rfl (by omega) hx hb hE hP 1 rfl (by decide) dX4_loseSet_15 ?_
        refine lv_iload_n hx hb dX4_loseSet_16 rfl (lv_at hl 1 rfl) ?_
        refine lv_icmp_ne (tgt := 30) hx hb dX4_loseSet_17 (by decide) (fun c17_2 => ?_) (fun c17_2 => ?_)
        · skip
          refine lv_aload_n hx hb dX4_loseSet_30 rfl (lv_at hl 0 rfl) ?_
          refine va_get (D := g.1) (ci := 4) (v := .ref q1) (C := RX4) (T := TX4) (N := 4) hx hb hts q_X4_loseSet_g_f4 hown hE.1 hP 0 rfl rfl 1 (by decide) (hts (.fieldLink RX4 9 "SoundLaws$Sightings" "sets" "[I") q_X4_loseSet_g_2) (fun _ h9 => h9) rfl dX4_loseSet_31 ?_
          refine lv_iload_n hx hb dX4_loseSet_34 rfl (lv_at hl 2 rfl) ?_
          refine k_ald j rfl (by omega) hx hb hE hP 1 rfl (by decide) dX4_loseSet_35 ?_
          refine lv_iload_n hx hb dX4_loseSet_36 rfl (lv_at hl 1 rfl) ?_
          refine lv_icmp_le (tgt := 50) hx hb dX4_loseSet_37 (by decide) (fun c37_3 => ?_) (fun c37_3 => ?_)
          · skip
            refine lv_iinc (v := (nI (j + 1))) (lv' := [(2, .int (nI (j + 1))), (0, .ref si), (1, .int p1)]) hx hb dX4_loseSet_50 hl (k := 2) rfl (nI_1 _) (by decide) rfl (fun ls hl => ?_)
            refine lv_goto (tgt := 2) hx hb dX4_loseSet_53 (by decide) ?_
            exact ih2 (j + 1) _ (by omega) (by omega) _ _ _ hP hD hS (lv_sub hl [1, 2, 0] rfl)
          · skip
            refine lv_aload_n hx hb dX4_loseSet_40 rfl (lv_at hl 0 rfl) ?_
            refine va_get (D := g.1) (ci := 4) (v := .ref q1) (C := RX4) (T := TX4) (N := 4) hx hb hts q_X4_loseSet_g_f4 hown hE.1 hP 0 rfl rfl 1 (by decide) (hts (.fieldLink RX4 9 "SoundLaws$Sightings" "sets" "[I") q_X4_loseSet_g_2) (fun _ h9 => h9) rfl dX4_loseSet_41 ?_
            refine lv_iload_n hx hb dX4_loseSet_44 rfl (lv_at hl 2 rfl) ?_
            refine lv_dup2_11 hx hb dX4_loseSet_45 rfl rfl ?_
            refine k_ald j rfl (by omega) hx hb hE hP 1 rfl (by decide) dX4_loseSet_46 ?_
            refine lv_iconst (v := 1) hx hb dX4_loseSet_47 (by decide) ?_
            refine lv_isub hx hb dX4_loseSet_48 ?_
            refine lv_topi (fun x_4 ex_4 => ?_)
            refine k_ast (x := x_4) j rfl (by omega) hx hb hE hP hD hS 1 rfl (by decide) dX4_loseSet_49 (fun H locs hP hD hS => ?_)
            have hP : va_P g.1 vwCl [(si, .inr (4, [.int (nI n), .ref q1, .ref q2, .ref q3])), (q1, ai g 6 (upd C1 j x_4)), (q2, ai g 6 A2), (q3, az g 6 A3)] H := hP
            have hD : va_D A [(si, .inr (4, [.int (nI n), .ref q1, .ref q2, .ref q3])), (q1, ai g 6 (upd C1 j x_4)), (q2, ai g 6 A2), (q3, az g 6 A3)] := hD
            refine lv_iinc (v := (nI (j + 1))) (lv' := [(2, .int (nI (j + 1))), (0, .ref si), (1, .int p1)]) hx hb dX4_loseSet_50 hl (k := 2) rfl (nI_1 _) (by decide) rfl (fun ls hl => ?_)
            refine lv_goto (tgt := 2) hx hb dX4_loseSet_53 (by decide) ?_
            exact ih2 (j + 1) _ (by omega) (by omega) _ _ _ hP hD hS (lv_sub hl [1, 2, 0] rfl)
        · skip
          refine lv_aload_n hx hb dX4_loseSet_20 rfl (lv_at hl 0 rfl) ?_
          refine va_get (D := g.1) (ci := 4) (v := .ref q1) (C := RX4) (T := TX4) (N := 4) hx hb hts q_X4_loseSet_g_f4 hown hE.1 hP 0 rfl rfl 1 (by decide) (hts (.fieldLink RX4 9 "SoundLaws$Sightings" "sets" "[I") q_X4_loseSet_g_2) (fun _ h9 => h9) rfl dX4_loseSet_21 ?_
          refine lv_iload_n hx hb dX4_loseSet_24 rfl (lv_at hl 2 rfl) ?_
          refine lv_iconst (v := (-1)) hx hb dX4_loseSet_25 (by decide) ?_
          refine k_ast (x := (-1)) j rfl (by omega) hx hb hE hP hD hS 1 rfl (by decide) dX4_loseSet_26 (fun H locs hP hD hS => ?_)
          have hP : va_P g.1 vwCl [(si, .inr (4, [.int (nI n), .ref q1, .ref q2, .ref q3])), (q1, ai g 6 (upd C1 j (-1))), (q2, ai g 6 A2), (q3, az g 6 A3)] H := hP
          have hD : va_D A [(si, .inr (4, [.int (nI n), .ref q1, .ref q2, .ref q3])), (q1, ai g 6 (upd C1 j (-1))), (q2, ai g 6 A2), (q3, az g 6 A3)] := hD
          refine lv_goto (tgt := 50) hx hb dX4_loseSet_27 (by decide) ?_
          refine lv_iinc (v := (nI (j + 1))) (lv' := [(2, .int (nI (j + 1))), (0, .ref si), (1, .int p1)]) hx hb dX4_loseSet_50 hl (k := 2) rfl (nI_1 _) (by decide) rfl (fun ls hl => ?_)
          refine lv_goto (tgt := 2) hx hb dX4_loseSet_53 (by decide) ?_
          exact ih2 (j + 1) _ (by omega) (by omega) _ _ _ hP hD hS (lv_sub hl [1, 2, 0] rfl)
  exact loop2 _ 0 A1 (Nat.zero_le n) (Nat.lt_succ_self _) _ _ _ hP hD hS (lv_sub hl [1, 2, 0] rfl)
def po_X8_take_g (g : GG) (h0 : Nat) (pg : Nat) (rd : Nat) (sy : Nat) (ks : Nat) (ki : Nat) (al : Nat) (dr : Nat) (le : Int32) (re : Int32) (kp : Int32) (sd : Int32) (sk : Nat) (s1 : Nat) (s2 : Nat) (s3 : Nat) (z : Nat) (t : Nat) (K : Nat → Int32) (L : Nat → Int32) (V : Nat → Int32) (q1 : Nat) (q2 : Nat) (q3 : Nat) (si : Nat) (A1 : Nat → Int32) (A2 : Nat → Int32) (A3 : Nat → Int32) (n : Nat) (p1 : Int32) : Int32 → va_W → Prop := fun (r : Int32) w => ∃ (sd2 : Int32) (z2 : Nat) (K2 : Nat → Int32) (L2 : Nat → Int32) (V2 : Nat → Int32) (C1 : Nat → Int32), w = [(h0, .inr (8, [.ref pg, .int le, .ref rd, .int re, .ref sk, .ref si, .ref sy, .int sd2, .ref ks, .ref ki, .int kp, .ref al, .ref dr])), (sk, .inr (5, [.int (nI z2), .int (nI t), .ref s1, .ref s2, .ref s3])), (s1, ai g 6 K2), (s2, ai g 6 L2), (s3, ai g 96 V2), (si, .inr (4, [.int (nI n), .ref q1, .ref q2, .ref q3])), (q1, ai g 6 C1), (q2, ai g 6 A2), (q3, az g 6 A3)] ∧ (rTk p1 z = r) ∧ ((sd2 = sd ∧ z2 = z ∧ K2 = K ∧ L2 = L ∧ V2 = V ∧ C1 = A1) ∨ (sd2 = 0 ∧ ¬ z = 1 ∧ z2 = z - 1 ∧ ∃ k, k < z ∧ p1 = nI k ∧ (∀ i, i < 6 → K2 i = K (sh k z i)) ∧ (∀ i, i < 6 → L2 i = L (sh k z i)) ∧ (∀ i, i < 6 → ∀ x, x < 16 → V2 (16 * i + x) = V (16 * sh k z i + x))))
theorem q_X8_take_g_f8 : ∀ w ∈ u_ws RX8 TX8 13, w ∈ wsX8_take := by decide +kernel
theorem q_X8_take_g_1 : (Cond.fieldLink RX8 23 "SoundLaws" "stock" "LSoundLaws$Stock;") ∈ wsX8_take := by decide +kernel
theorem q_X8_take_g_f5 : ∀ w ∈ u_ws RX5 TX5 5, w ∈ wsX8_take := by decide +kernel
theorem q_X8_take_g_3 : (Cond.fieldLink RX8 93 "SoundLaws$Stock" "size" "I") ∈ wsX8_take := by decide +kernel
theorem q_X8_take_g_4 : (Cond.fieldLink RX8 30 "SoundLaws" "sightings" "LSoundLaws$Sightings;") ∈ wsX8_take := by decide +kernel
theorem q_X8_take_g_5 : (Cond.fieldLink RX8 87 "SoundLaws" "studied" "Z") ∈ wsX8_take := by decide +kernel
set_option maxHeartbeats 1500000 in
set_option maxRecDepth 100000 in
theorem c_X8_take_g (l : Launch) (g : GG) (h0 : Nat) (pg : Nat) (rd : Nat) (sy : Nat) (ks : Nat) (ki : Nat) (al : Nat) (dr : Nat) (le : Int32) (re : Int32) (kp : Int32) (sd : Int32) (sk : Nat) (s1 : Nat) (s2 : Nat) (s3 : Nat) (z : Nat) (t : Nat) (K : Nat → Int32) (L : Nat → Int32) (V : Nat → Int32) (q1 : Nat) (q2 : Nat) (q3 : Nat) (si : Nat) (A1 : Nat → Int32) (A2 : Nat → Int32) (A3 : Nat → Int32) (n : Nat) (p1 : Int32) (hz : z ≤ 6) (hn : n ≤ 6) (sz : Nat) : MetI l yX8_take wsX8_take ({ frames := 3, cells := 0, slots := 0, locals := 84 }) g [.ref h0, .int p1] [(h0, .inr (8, [.ref pg, .int le, .ref rd, .int re, .ref sk, .ref si, .ref sy, .int sd, .ref ks, .ref ki, .int kp, .ref al, .ref dr])), (sk, .inr (5, [.int (nI z), .int (nI t), .ref s1, .ref s2, .ref s3])), (s1, ai g 6 K), (s2, ai g 6 L), (s3, ai g 96 V), (si, .inr (4, [.int (nI n), .ref q1, .ref q2, .ref q3])), (q1, ai g 6 A1), (q2, ai g 6 A2), (q3, az g 6 A3)] sz (po_X8_take_g g h0 pg rd sy ks ki al dr le re kp sd sk s1 s2 s3 z t K L V q1 q2 q3 si A1 A2 A3 n p1) 0 0 := by
  refine k_of (l := l) (y := yX8_take) (ws := wsX8_take) (rm := { frames := 3, cells := 0, slots := 0, locals := 84 }) (mc := 0) (ms := 0) (av := [.ref h0, .int p1]) (g := g) (wc := [(h0, .inr (8, [.ref pg, .int le, .ref rd, .int re, .ref sk, .ref si, .ref sy, .int sd, .ref ks, .ref ki, .int kp, .ref al, .ref dr])), (sk, .inr (5, [.int (nI z), .int (nI t), .ref s1, .ref s2, .ref s3])), (s1, ai g 6 K), (s2, ai g 6 L), (s3, ai g 96 V), (si, .inr (4, [.int (nI n), .ref q1, .ref q2, .ref q3])), (q1, ai g 6 A1), (q2, ai g 6 A2), (q3, az g 6 A3)]) (Qc := fun A => va_Qi (po_X8_take_g g h0 pg rd sy ks ki al dr le re kp sd sk s1 s2 s3 z t K L V q1 q2 q3 si A1 A2 A3 n p1) (bk g A) A) (cc := cX8_take) (maxL := 2) (ret := (some .int)) (by decide) rfl (Nat.le_of_ble_eq_true rfl) ?_ sz
  intro p e s m below meth c hx hb hr hts hown hlocks hnm hml A hA hE hZ hP hD hS ls hl
  have hown : s.vm.findClass RX8 = some m.cls := hown
  have hl : lv_has ls 2 [(0, .ref h0), (1, .int p1)] := hl
  refine lv_aload_n hx hb dX8_take_0 rfl (lv_at hl 0 rfl) ?_
  refine lv_iload_n hx hb dX8_take_1 rfl (lv_at hl 1 rfl) ?_
  refine k_ci (wr := [(s1, ai g 6 K), (s2, ai g 6 L), (s3, ai g 96 V), (si, .inr (4, [.int (nI n), .ref q1, .ref q2, .ref q3])), (q1, ai g 6 A1), (q2, ai g 6 A2), (q3, az g 6 A3)]) hP hD hS hA [0, 1] [2, 3, 4, 5, 6, 7, 8] rfl rfl (by decide) (by decide) (va_runV (As := [.int p1]) (rest := []) ⟨hx, hb, hml, hown, hts⟩ (c_X8_isSet_g l g h0 pg rd si sy ks ki al dr le re sd kp sk s1 s2 s3 z t p1  s.heap.size) (cwV 1 hts gX8_take_X8_isSet rfl rfl rfl (by decide +kernel) ⟨Nat.le_of_ble_eq_true rfl, Nat.le_of_ble_eq_true rfl⟩) (k_preV hE hZ hP hD hS hA [0, 1] rfl (by decide) (va_recv hE.1 hP (ci := 8) (q0 := 0) rfl rfl)) rfl rfl hl.1 rfl (lv_room (Nat.le_of_ble_eq_true rfl)) dX8_take_2 ⟨Nat.le_of_ble_eq_true rfl, Nat.le_of_ble_eq_true rfl⟩) (fun r_1 w1 H locs hw hP hD hS => ?_)
  obtain ⟨rfl, rfl⟩ := hw
  have hP : va_P g.1 vwCl [(s1, ai g 6 K), (s2, ai g 6 L), (s3, ai g 96 V), (si, .inr (4, [.int (nI n), .ref q1, .ref q2, .ref q3])), (q1, ai g 6 A1), (q2, ai g 6 A2), (q3, az g 6 A3), (h0, .inr (8, [.ref pg, .int le, .ref rd, .int re, .ref sk, .ref si, .ref sy, .int sd, .ref ks, .ref ki, .int kp, .ref al, .ref dr])), (sk, .inr (5, [.int (nI z), .int (nI t), .ref s1, .ref s2, .ref s3]))] H := hP
  have hD : va_D A [(s1, ai g 6 K), (s2, ai g 6 L), (s3, ai g 96 V), (si, .inr (4, [.int (nI n), .ref q1, .ref q2, .ref q3])), (q1, ai g 6 A1), (q2, ai g 6 A2), (q3, az g 6 A3), (h0, .inr (8, [.ref pg, .int le, .ref rd, .int re, .ref sk, .ref si, .ref sy, .int sd, .ref ks, .ref ki, .int kp, .ref al, .ref dr])), (sk, .inr (5, [.int (nI z), .int (nI t), .ref s1, .ref s2, .ref s3]))] := hD
  refine lv_if_ne (tgt := 11) hx hb dX8_take_5 (by decide) (fun c5_3 => ?_) (fun c5_3 => ?_)
  · skip
    refine lv_aload_n hx hb dX8_take_11 rfl (lv_at hl 0 rfl) ?_
    refine va_get (D := g.1) (ci := 8) (v := .ref sk) (C := RX8) (T := TX8) (N := 13) hx hb hts q_X8_take_g_f8 hown hE.1 hP 7 rfl rfl 4 (by decide) (hts (.fieldLink RX8 23 "SoundLaws" "stock" "LSoundLaws$Stock;") q_X8_take_g_1) (fun _ h9 => h9) rfl dX8_take_12 ?_
    refine va_get (D := g.1) (ci := 5) (v := .int (nI z)) (C := RX5) (T := TX5) (N := 5) hx hb hts q_X8_take_g_f5 hown hE.1 hP 8 rfl rfl 0 (by decide) (hts (.fieldLink RX8 93 "SoundLaws$Stock" "size" "I") q_X8_take_g_3) (fun _ h9 => h9) rfl dX8_take_15 ?_
    refine lv_iconst (v := 1) hx hb dX8_take_18 (by decide) ?_
    refine lv_icmp_ne (tgt := 25) hx hb dX8_take_19 (by decide) (fun c19_4 => ?_) (fun c19_4 => ?_)
    · skip
      obtain ⟨k1, hk1, rfl⟩ := isI_of (p := p1) (by omega) c5_3
      have hz1 : ¬ z = 1 := fun q => c19_4 (by rw [q]; rfl)
      refine lv_aload_n hx hb dX8_take_25 rfl (lv_at hl 0 rfl) ?_
      refine va_get (D := g.1) (ci := 8) (v := .ref sk) (C := RX8) (T := TX8) (N := 13) hx hb hts q_X8_take_g_f8 hown hE.1 hP 7 rfl rfl 4 (by decide) (hts (.fieldLink RX8 23 "SoundLaws" "stock" "LSoundLaws$Stock;") q_X8_take_g_1) (fun _ h9 => h9) rfl dX8_take_26 ?_
      refine lv_iload_n hx hb dX8_take_29 rfl (lv_at hl 1 rfl) ?_
      refine k_cv (wr := [(si, .inr (4, [.int (nI n), .ref q1, .ref q2, .ref q3])), (q1, ai g 6 A1), (q2, ai g 6 A2), (q3, az g 6 A3), (h0, .inr (8, [.ref pg, .int le, .ref rd, .int re, .ref sk, .ref si, .ref sy, .int sd, .ref ks, .ref ki, .int kp, .ref al, .ref dr]))]) hP hD hS hA [8, 0, 1, 2] [3, 4, 5, 6, 7] rfl rfl (by decide) (by decide) (va_runV (As := [.int (nI k1)]) (rest := []) ⟨hx, hb, hml, hown, hts⟩ (c_X5_remove_g l g sk s1 s2 s3 K L V (nI t) z k1 (by first | assumption | omega) (by first | assumption | omega) H.size) (cwV 1 hts gX8_take_X5_remove rfl rfl rfl (by decide +kernel) ⟨Nat.le_of_ble_eq_true rfl, Nat.le_of_ble_eq_true rfl⟩) (k_preV hE hZ hP hD hS hA [8, 0, 1, 2] rfl (by decide) (va_recv hE.1 hP (ci := 5) (q0 := 8) rfl rfl)) rfl rfl hl.1 rfl (lv_room (Nat.le_of_ble_eq_true rfl)) dX8_take_30 ⟨Nat.le_of_ble_eq_true rfl, Nat.le_of_ble_eq_true rfl⟩) (fun w1 H locs hw hP hD hS => ?_)
      obtain ⟨C1_6, C2_7, C3_8, rfl, e1_9, e2_10, e3_11⟩ := hw
      have hP : va_P g.1 vwCl [(si, .inr (4, [.int (nI n), .ref q1, .ref q2, .ref q3])), (q1, ai g 6 A1), (q2, ai g 6 A2), (q3, az g 6 A3), (h0, .inr (8, [.ref pg, .int le, .ref rd, .int re, .ref sk, .ref si, .ref sy, .int sd, .ref ks, .ref ki, .int kp, .ref al, .ref dr])), (sk, .inr (5, [.int (nI (z - 1)), .int (nI t), .ref s1, .ref s2, .ref s3])), (s1, ai g 6 C1_6), (s2, ai g 6 C2_7), (s3, ai g 96 C3_8)] H := hP
      have hD : va_D A [(si, .inr (4, [.int (nI n), .ref q1, .ref q2, .ref q3])), (q1, ai g 6 A1), (q2, ai g 6 A2), (q3, az g 6 A3), (h0, .inr (8, [.ref pg, .int le, .ref rd, .int re, .ref sk, .ref si, .ref sy, .int sd, .ref ks, .ref ki, .int kp, .ref al, .ref dr])), (sk, .inr (5, [.int (nI (z - 1)), .int (nI t), .ref s1, .ref s2, .ref s3])), (s1, ai g 6 C1_6), (s2, ai g 6 C2_7), (s3, ai g 96 C3_8)] := hD
      refine lv_aload_n hx hb dX8_take_33 rfl (lv_at hl 0 rfl) ?_
      refine va_get (D := g.1) (ci := 8) (v := .ref si) (C := RX8) (T := TX8) (N := 13) hx hb hts q_X8_take_g_f8 hown hE.1 hP 4 rfl rfl 5 (by decide) (hts (.fieldLink RX8 30 "SoundLaws" "sightings" "LSoundLaws$Sightings;") q_X8_take_g_4) (fun _ h9 => h9) rfl dX8_take_34 ?_
      refine lv_iload_n hx hb dX8_take_37 rfl (lv_at hl 1 rfl) ?_
      refine k_cv (wr := [(h0, .inr (8, [.ref pg, .int le, .ref rd, .int re, .ref sk, .ref si, .ref sy, .int sd, .ref ks, .ref ki, .int kp, .ref al, .ref dr])), (sk, .inr (5, [.int (nI (z - 1)), .int (nI t), .ref s1, .ref s2, .ref s3])), (s1, ai g 6 C1_6), (s2, ai g 6 C2_7), (s3, ai g 96 C3_8)]) hP hD hS hA [0, 1, 2, 3] [4, 5, 6, 7, 8] rfl rfl (by decide) (by decide) (va_runV (As := [.int (nI k1)]) (rest := []) ⟨hx, hb, hml, hown, hts⟩ (c_X4_loseSet_g l g q1 q2 q3 si A1 A2 A3 n (nI k1) (by first | assumption | omega) H.size) (cwV 1 hts gX8_take_X4_loseSet rfl rfl rfl (by decide +kernel) ⟨Nat.le_of_ble_eq_true rfl, Nat.le_of_ble_eq_true rfl⟩) (k_preV hE hZ hP hD hS hA [0, 1, 2, 3] rfl (by decide) (va_recv hE.1 hP (ci := 4) (q0 := 0) rfl rfl)) rfl rfl hl.1 rfl (lv_room (Nat.le_of_ble_eq_true rfl)) dX8_take_38 ⟨Nat.le_of_ble_eq_true rfl, Nat.le_of_ble_eq_true rfl⟩) (fun w1 H locs hw hP hD hS => ?_)
      obtain ⟨C1_13, rfl⟩ := hw
      have hP : va_P g.1 vwCl [(h0, .inr (8, [.ref pg, .int le, .ref rd, .int re, .ref sk, .ref si, .ref sy, .int sd, .ref ks, .ref ki, .int kp, .ref al, .ref dr])), (sk, .inr (5, [.int (nI (z - 1)), .int (nI t), .ref s1, .ref s2, .ref s3])), (s1, ai g 6 C1_6), (s2, ai g 6 C2_7), (s3, ai g 96 C3_8), (si, .inr (4, [.int (nI n), .ref q1, .ref q2, .ref q3])), (q1, ai g 6 C1_13), (q2, ai g 6 A2), (q3, az g 6 A3)] H := hP
      have hD : va_D A [(h0, .inr (8, [.ref pg, .int le, .ref rd, .int re, .ref sk, .ref si, .ref sy, .int sd, .ref ks, .ref ki, .int kp, .ref al, .ref dr])), (sk, .inr (5, [.int (nI (z - 1)), .int (nI t), .ref s1, .ref s2, .ref s3])), (s1, ai g 6 C1_6), (s2, ai g 6 C2_7), (s3, ai g 96 C3_8), (si, .inr (4, [.int (nI n), .ref q1, .ref q2, .ref q3])), (q1, ai g 6 C1_13), (q2, ai g 6 A2), (q3, az g 6 A3)] := hD
      refine lv_aload_n hx hb dX8_take_41 rfl (lv_at hl 0 rfl) ?_
      refine lv_iconst (v := 0) hx hb dX8_take_42 (by decide) ?_
      refine va_put (D := g.1) (ci := 8) (v := .int 0) (ty := .boolean) (C := RX8) (T := TX8) (N := 13) hx hb hts q_X8_take_g_f8 tyX8 tyX8_ok nmX8 hown hE.1 hP hD hS 0 rfl rfl 7 (by decide) (hts (.fieldLink RX8 87 "SoundLaws" "studied" "Z") q_X8_take_g_5) (fun _ h9 => h9) rfl (by decide +kernel) rfl rfl (Nat.le_of_ble_eq_true rfl) dX8_take_43 (fun H locs hP hD hS => ?_)
      have hP : va_P g.1 vwCl [(h0, .inr (8, [.ref pg, .int le, .ref rd, .int re, .ref sk, .ref si, .ref sy, .int 0, .ref ks, .ref ki, .int kp, .ref al, .ref dr])), (sk, .inr (5, [.int (nI (z - 1)), .int (nI t), .ref s1, .ref s2, .ref s3])), (s1, ai g 6 C1_6), (s2, ai g 6 C2_7), (s3, ai g 96 C3_8), (si, .inr (4, [.int (nI n), .ref q1, .ref q2, .ref q3])), (q1, ai g 6 C1_13), (q2, ai g 6 A2), (q3, az g 6 A3)] H := hP
      have hD : va_D A [(h0, .inr (8, [.ref pg, .int le, .ref rd, .int re, .ref sk, .ref si, .ref sy, .int 0, .ref ks, .ref ki, .int kp, .ref al, .ref dr])), (sk, .inr (5, [.int (nI (z - 1)), .int (nI t), .ref s1, .ref s2, .ref s3])), (s1, ai g 6 C1_6), (s2, ai g 6 C2_7), (s3, ai g 96 C3_8), (si, .inr (4, [.int (nI n), .ref q1, .ref q2, .ref q3])), (q1, ai g 6 C1_13), (q2, ai g 6 A2), (q3, az g 6 A3)] := hD
      refine lv_aload_n hx hb dX8_take_46 rfl (lv_at hl 0 rfl) ?_
      refine va_get (D := g.1) (ci := 8) (v := .ref sk) (C := RX8) (T := TX8) (N := 13) hx hb hts q_X8_take_g_f8 hown hE.1 hP 0 rfl rfl 4 (by decide) (hts (.fieldLink RX8 23 "SoundLaws" "stock" "LSoundLaws$Stock;") q_X8_take_g_1) (fun _ h9 => h9) rfl dX8_take_47 ?_
      refine va_get (D := g.1) (ci := 5) (v := .int (nI (z - 1))) (C := RX5) (T := TX5) (N := 5) hx hb hts q_X8_take_g_f5 hown hE.1 hP 1 rfl rfl 0 (by decide) (hts (.fieldLink RX8 93 "SoundLaws$Stock" "size" "I") q_X8_take_g_3) (fun _ h9 => h9) rfl dX8_take_50 ?_
      refine W.widen (k := 0) (n := 0) (Nat.le_of_ble_eq_true rfl) (Nat.le_of_ble_eq_true rfl) ?_
      exact k_ri hx hb hr hlocks hS hP hD ⟨0, (z - 1), C1_6, C2_7, C3_8, C1_13, rfl, (by unfold rTk; rw [if_neg c5_3, if_neg hz1]), Or.inr ⟨rfl, hz1, rfl, k1, hk1, rfl, e1_9, e2_10, e3_11⟩⟩ dX8_take_53
    · skip
      refine lv_bipush (v := (-103)) hx hb dX8_take_22 (by decide) ?_
      refine W.widen (k := 0) (n := 0) (Nat.le_of_ble_eq_true rfl) (Nat.le_of_ble_eq_true rfl) ?_
      have hP9 := hP.sub (ws' := [(h0, .inr (8, [.ref pg, .int le, .ref rd, .int re, .ref sk, .ref si, .ref sy, .int sd, .ref ks, .ref ki, .int kp, .ref al, .ref dr])), (sk, .inr (5, [.int (nI z), .int (nI t), .ref s1, .ref s2, .ref s3])), (s1, ai g 6 K), (s2, ai g 6 L), (s3, ai g 96 V), (si, .inr (4, [.int (nI n), .ref q1, .ref q2, .ref q3])), (q1, ai g 6 A1), (q2, ai g 6 A2), (q3, az g 6 A3)]) [7, 8, 0, 1, 2, 3, 4, 5, 6] rfl
      have hD9 := hD.sub (ws' := [(h0, .inr (8, [.ref pg, .int le, .ref rd, .int re, .ref sk, .ref si, .ref sy, .int sd, .ref ks, .ref ki, .int kp, .ref al, .ref dr])), (sk, .inr (5, [.int (nI z), .int (nI t), .ref s1, .ref s2, .ref s3])), (s1, ai g 6 K), (s2, ai g 6 L), (s3, ai g 96 V), (si, .inr (4, [.int (nI n), .ref q1, .ref q2, .ref q3])), (q1, ai g 6 A1), (q2, ai g 6 A2), (q3, az g 6 A3)]) [7, 8, 0, 1, 2, 3, 4, 5, 6] (by decide) rfl
      exact k_ri hx hb hr hlocks hS hP9 hD9 ⟨sd, z, K, L, V, A1, rfl, (by unfold rTk; rw [if_neg c5_3, if_pos ((nI_eq (b := 1) (by omega) (by decide)).mp c19_4)]), Or.inl ⟨rfl, rfl, rfl, rfl, rfl, rfl⟩⟩ dX8_take_24
  · skip
    refine lv_bipush (v := (-101)) hx hb dX8_take_8 (by decide) ?_
    refine W.widen (k := 0) (n := 0) (Nat.le_of_ble_eq_true rfl) (Nat.le_of_ble_eq_true rfl) ?_
    have hP9 := hP.sub (ws' := [(h0, .inr (8, [.ref pg, .int le, .ref rd, .int re, .ref sk, .ref si, .ref sy, .int sd, .ref ks, .ref ki, .int kp, .ref al, .ref dr])), (sk, .inr (5, [.int (nI z), .int (nI t), .ref s1, .ref s2, .ref s3])), (s1, ai g 6 K), (s2, ai g 6 L), (s3, ai g 96 V), (si, .inr (4, [.int (nI n), .ref q1, .ref q2, .ref q3])), (q1, ai g 6 A1), (q2, ai g 6 A2), (q3, az g 6 A3)]) [7, 8, 0, 1, 2, 3, 4, 5, 6] rfl
    have hD9 := hD.sub (ws' := [(h0, .inr (8, [.ref pg, .int le, .ref rd, .int re, .ref sk, .ref si, .ref sy, .int sd, .ref ks, .ref ki, .int kp, .ref al, .ref dr])), (sk, .inr (5, [.int (nI z), .int (nI t), .ref s1, .ref s2, .ref s3])), (s1, ai g 6 K), (s2, ai g 6 L), (s3, ai g 96 V), (si, .inr (4, [.int (nI n), .ref q1, .ref q2, .ref q3])), (q1, ai g 6 A1), (q2, ai g 6 A2), (q3, az g 6 A3)]) [7, 8, 0, 1, 2, 3, 4, 5, 6] (by decide) rfl
    exact k_ri hx hb hr hlocks hS hP9 hD9 ⟨sd, z, K, L, V, A1, rfl, (by unfold rTk; rw [if_pos c5_3]), Or.inl ⟨rfl, rfl, rfl, rfl, rfl, rfl⟩⟩ dX8_take_10
def po_X8_isPlace_g (g : GG) (h0 : Nat) (pg : Nat) (rd : Nat) (si : Nat) (sy : Nat) (ks : Nat) (ki : Nat) (al : Nat) (dr : Nat) (le : Int32) (re : Int32) (sd : Int32) (kp : Int32) (sk : Nat) (s1 : Nat) (s2 : Nat) (s3 : Nat) (z : Nat) (t : Nat) (L : Nat → Int32) (k : Nat) (n : Nat) (p1 : Int32) : Int32 → va_W → Prop := fun (r : Int32) w => w = [(h0, .inr (8, [.ref pg, .int le, .ref rd, .int re, .ref sk, .ref si, .ref sy, .int sd, .ref ks, .ref ki, .int kp, .ref al, .ref dr])), (sk, .inr (5, [.int (nI z), .int (nI t), .ref s1, .ref s2, .ref s3])), (s2, ai g 6 L)] ∧ (isI p1 n = r)
theorem q_X8_isPlace_g_f8 : ∀ w ∈ u_ws RX8 TX8 13, w ∈ wsX8_isPlace := by decide +kernel
theorem q_X8_isPlace_g_1 : (Cond.fieldLink RX8 23 "SoundLaws" "stock" "LSoundLaws$Stock;") ∈ wsX8_isPlace := by decide +kernel
theorem q_X8_isPlace_g_f5 : ∀ w ∈ u_ws RX5 TX5 5, w ∈ wsX8_isPlace := by decide +kernel
theorem q_X8_isPlace_g_3 : (Cond.fieldLink RX8 168 "SoundLaws$Stock" "lengths" "[I") ∈ wsX8_isPlace := by decide +kernel
set_option maxHeartbeats 1500000 in
set_option maxRecDepth 100000 in
theorem c_X8_isPlace_g (l : Launch) (g : GG) (h0 : Nat) (pg : Nat) (rd : Nat) (si : Nat) (sy : Nat) (ks : Nat) (ki : Nat) (al : Nat) (dr : Nat) (le : Int32) (re : Int32) (sd : Int32) (kp : Int32) (sk : Nat) (s1 : Nat) (s2 : Nat) (s3 : Nat) (z : Nat) (t : Nat) (L : Nat → Int32) (k : Nat) (n : Nat) (p1 : Int32) (hk : k < 6) (hL : L k = nI n) (sz : Nat) : MetI l yX8_isPlace wsX8_isPlace ({ frames := 0, cells := 0, slots := 0, locals := 0 }) g [.ref h0, .int (nI k), .int p1] [(h0, .inr (8, [.ref pg, .int le, .ref rd, .int re, .ref sk, .ref si, .ref sy, .int sd, .ref ks, .ref ki, .int kp, .ref al, .ref dr])), (sk, .inr (5, [.int (nI z), .int (nI t), .ref s1, .ref s2, .ref s3])), (s2, ai g 6 L)] sz (po_X8_isPlace_g g h0 pg rd si sy ks ki al dr le re sd kp sk s1 s2 s3 z t L k n p1) 0 0 := by
  refine k_of (l := l) (y := yX8_isPlace) (ws := wsX8_isPlace) (rm := { frames := 0, cells := 0, slots := 0, locals := 0 }) (mc := 0) (ms := 0) (av := [.ref h0, .int (nI k), .int p1]) (g := g) (wc := [(h0, .inr (8, [.ref pg, .int le, .ref rd, .int re, .ref sk, .ref si, .ref sy, .int sd, .ref ks, .ref ki, .int kp, .ref al, .ref dr])), (sk, .inr (5, [.int (nI z), .int (nI t), .ref s1, .ref s2, .ref s3])), (s2, ai g 6 L)]) (Qc := fun A => va_Qi (po_X8_isPlace_g g h0 pg rd si sy ks ki al dr le re sd kp sk s1 s2 s3 z t L k n p1) (bk g A) A) (cc := cX8_isPlace) (maxL := 3) (ret := (some .boolean)) (by decide) rfl (Nat.le_of_ble_eq_true rfl) ?_ sz
  intro p e s m below meth c hx hb hr hts hown hlocks hnm hml A hA hE hZ hP hD hS ls hl
  have hown : s.vm.findClass RX8 = some m.cls := hown
  have hl : lv_has ls 3 [(0, .ref h0), (1, .int (nI k)), (2, .int p1)] := hl
  refine lv_iload_n hx hb dX8_isPlace_0 rfl (lv_at hl 2 rfl) ?_
  refine lv_if_lt (tgt := 21) hx hb dX8_isPlace_1 (by decide) (fun c1_1 => ?_) (fun c1_1 => ?_)
  · skip
    refine lv_iconst (v := 0) hx hb dX8_isPlace_21 (by decide) ?_
    refine W.widen (k := 0) (n := 0) (Nat.le_of_ble_eq_true rfl) (Nat.le_of_ble_eq_true rfl) ?_
    exact k_rz hx hb hr hlocks hS hP hD rfl ⟨rfl, (isI_lo c1_1)⟩ dX8_isPlace_22
  · skip
    refine lv_iload_n hx hb dX8_isPlace_4 rfl (lv_at hl 2 rfl) ?_
    refine lv_aload_n hx hb dX8_isPlace_5 rfl (lv_at hl 0 rfl) ?_
    refine va_get (D := g.1) (ci := 8) (v := .ref sk) (C := RX8) (T := TX8) (N := 13) hx hb hts q_X8_isPlace_g_f8 hown hE.1 hP 0 rfl rfl 4 (by decide) (hts (.fieldLink RX8 23 "SoundLaws" "stock" "LSoundLaws$Stock;") q_X8_isPlace_g_1) (fun _ h9 => h9) rfl dX8_isPlace_6 ?_
    refine va_get (D := g.1) (ci := 5) (v := .ref s2) (C := RX5) (T := TX5) (N := 5) hx hb hts q_X8_isPlace_g_f5 hown hE.1 hP 1 rfl rfl 3 (by decide) (hts (.fieldLink RX8 168 "SoundLaws$Stock" "lengths" "[I") q_X8_isPlace_g_3) (fun _ h9 => h9) rfl dX8_isPlace_9 ?_
    refine lv_iload_n hx hb dX8_isPlace_12 rfl (lv_at hl 1 rfl) ?_
    refine k_ald k rfl (by omega) hx hb hE hP 2 rfl (by decide) dX8_isPlace_13 ?_
    refine lv_topi (fun x_2 ex_2 => ?_)
    obtain rfl : x_2 = nI n := by rw [ex_2]; exact hL
    refine lv_icmp_ge (tgt := 21) hx hb dX8_isPlace_14 (by decide) (fun c14_3 => ?_) (fun c14_3 => ?_)
    · skip
      refine lv_iconst (v := 0) hx hb dX8_isPlace_21 (by decide) ?_
      refine W.widen (k := 0) (n := 0) (Nat.le_of_ble_eq_true rfl) (Nat.le_of_ble_eq_true rfl) ?_
      exact k_rz hx hb hr hlocks hS hP hD rfl ⟨rfl, (isI_hi c14_3)⟩ dX8_isPlace_22
    · skip
      refine lv_iconst (v := 1) hx hb dX8_isPlace_17 (by decide) ?_
      refine lv_goto (tgt := 22) hx hb dX8_isPlace_18 (by decide) ?_
      refine W.widen (k := 0) (n := 0) (Nat.le_of_ble_eq_true rfl) (Nat.le_of_ble_eq_true rfl) ?_
      exact k_rz hx hb hr hlocks hS hP hD rfl ⟨rfl, (isI_in c1_1 c14_3)⟩ dX8_isPlace_22

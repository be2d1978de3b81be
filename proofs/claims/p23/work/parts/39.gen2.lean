def po_X4_loseSet_g (g : GG) (q1 : Nat) (q2 : Nat) (q3 : Nat) (si : Nat) (A1 : Nat → Int32) (A2 : Nat → Int32) (A3 : Nat → Int32) (n : Nat) (p1 : Int32) : va_W → Prop := fun w => ∃ (C1 : Nat → Int32), w = [(si, .inr (4, [.int (nI n), .ref q1, .ref q2, .ref q3])), (q1, ai g 6 C1), (q2, ai g 6 A2), (q3, az g 6 A3)]
theorem q_X4_loseSet_g_f4 : ∀ w ∈ u_ws RX4 TX4 4, w ∈ wsX4_loseSet := by decide +kernel
theorem q_X4_loseSet_g_1 : (Cond.fieldLink RX4 22 "SoundLaws$Sightings" "size" "I") ∈ wsX4_loseSet := by decide +kernel
theorem q_X4_loseSet_g_2 : (Cond.fieldLink RX4 9 "SoundLaws$Sightings" "sets" "[I") ∈ wsX4_loseSet := by decide +kernel
set_option maxHeartbeats 1500000 in
set_option maxRecDepth 100000 in
theorem c_X4_loseSet_g (l : Launch) (g : GG) (q1 : Nat) (q2 : Nat) (q3 : Nat) (si : Nat) (A1 : Nat → Int32) (A2 : Nat → Int32) (A3 : Nat → Int32) (n : Nat) (p1 : Int32) (hn : n ≤ 6) (sz : Nat) : MetV l yX4_loseSet wsX4_loseSet ({ frames := 0, cells := 0, slots := 0, locals := 0 }) g [.ref si, .int p1] [(si, .inr (4, [.int (nI n), .ref q1, .ref q2, .ref q3])), (q1, ai g 6 A1), (q2, ai g 6 A2), (q3, az g 6 A3)] sz (po_X4_loseSet_g g q1 q2 q3 si A1 A2 A3 n p1) 0 0 := by
  refine k_of (l := l) (y := yX4_loseSet) (ws := wsX4_loseSet) (rm := { frames := 0, cells := 0, slots := 0, locals := 0 }) (mc := 0) (ms := 0) (av := [.ref si, .int p1]) (g := g) (wc := [(si, .inr (4, [.int (nI n), .ref q1, .ref q2, .ref q3])), (q1, ai g 6 A1), (q2, ai g 6 A2), (q3, az g 6 A3)]) (Qc := fun A => va_Qv (po_X4_loseSet_g g q1 q2 q3 si A1 A2 A3 n p1) (bk g A) A) (cc := cX4_loseSet) (maxL := 3) (ret := none) (by decide) rfl (Nat.le_of_ble_eq_true rfl) ?_ sz
  intro p e s m below meth c hx hb hr hts hown hlocks hnm hml A hA hE hZ hP hD hS ls hl
  have hown : s.vm.findClass RX4 = some m.cls := hown
  have hl : lv_has ls 3 [(0, .ref si), (1, .int p1)] := hl
  refine lv_iconst (v := 0) hx hb dX4_loseSet_0 (by decide) ?_
  refine lv_istore_n (lv' := [(2, .int 0), (0, .ref si), (1, .int p1)]) hx hb dX4_loseSet_1 rfl hl (by decide) rfl (fun ls hl => ?_)
  have loop2 : ∀ (fu : Nat) (j : Nat) (C1 : Nat → Int32), (hj : j ≤ n) → n - j < fu → ∀ (H : Heap) (locs : List Loc) (ls : Array Slot), va_P g.1 vwCl [(si, .inr (4, [.int (nI n), .ref q1, .ref q2, .ref q3])), (q1, ai g 6 C1), (q2, ai g 6 A2), (q3, az g 6 A3)] H → va_D A [(si, .inr (4, [.int (nI n), .ref q1, .ref q2, .ref q3])), (q1, ai g 6 C1), (q2, ai g 6 A2), (q3, az g 6 A3)] → va_S A s.heap H locs → lv_has ls 3 [(0, .ref si), (1, .int p1), (2, .int (nI j))] → W p l e ({ frames := 0, cells := 0, slots := 0, locals := 0 }) s m [.ref si, .int p1].toArray below meth c H locs 0 0 (MQ below (va_Qv (po_X4_loseSet_g g q1 q2 q3 si A1 A2 A3 n p1) (bk g A) A) [.ref si, .int p1].toArray s 0 0 A) (F0 m 2 ls []) := by
    intro fu
    induction fu with
    | zero => intro j C1 hj hfu; exact absurd hfu (Nat.not_lt_zero _)
    | succ fu ih =>
      intro j C1 hj hfu H locs ls hP hD hS hl
      have ih2 := ih
      refine lv_iload_n hx hb dX4_loseSet_2 rfl (lv_at hl 2 rfl) ?_
      refine lv_aload_n hx hb dX4_loseSet_3 rfl (lv_at hl 0 rfl) ?_
      refine va_get (D := g.1) (ci := 4) (v := .int (nI n)) (C := RX4) (T := TX4) (N := 4) hx hb hts q_X4_loseSet_g_f4 hown hE.1 hP 0 rfl rfl 0 (by decide) (hts (.fieldLink RX4 22 "SoundLaws$Sightings" "size" "I") q_X4_loseSet_g_1) (fun _ h9 => h9) rfl dX4_loseSet_4 ?_
      refine lv_icmp_ge (tgt := 56) hx hb dX4_loseSet_7 (by decide) (fun c7_1 => ?_) (fun c7_1 => ?_)
      · skip
        refine W.widen (k := 0) (n := 0) (Nat.le_of_ble_eq_true rfl) (Nat.le_of_ble_eq_true rfl) ?_
        exact k_rv hx hb hr hlocks hS hP hD ⟨C1, rfl⟩ dX4_loseSet_56
      · skip
        have hj9 := lt_of_nle (k := n) (n := j) (by omega) (by omega) c7_1
        refine lv_aload_n hx hb dX4_loseSet_10 rfl (lv_at hl 0 rfl) ?_
        refine va_get (D := g.1) (ci := 4) (v := .ref q1) (C := RX4) (T := TX4) (N := 4) hx hb hts q_X4_loseSet_g_f4 hown hE.1 hP 0 rfl rfl 1 (by decide) (hts (.fieldLink RX4 9 "SoundLaws$Sightings" "sets" "[I") q_X4_loseSet_g_2) (fun _ h9 => h9) rfl dX4_loseSet_11 ?_
        refine lv_iload_n hx hb dX4_loseSet_14 rfl (lv_at hl 2 rfl) ?_
        refine k_ald j rfl (by omega) hx hb hE hP 1 rfl (by decide) dX4_loseSet_15 ?_
        refine lv_iload_n hx hb dX4_loseSet_16 rfl (lv_at hl 1 rfl) ?_
        refine lv_icmp_ne (tgt := 30) hx hb dX4_loseSet_17 (by decide) (fun c17_2 => ?_) (fun c17_2 => ?_)
        · skip
          refine lv_aload_n hx hb dX4_loseSet_30 rfl (lv_at hl 0 rfl) ?_
          refine va_get (D := g.1) (ci := 4) (v := .ref q1) (C := RX4) (T := TX4) (N := 4) hx hb hts q_X4_loseSet_g_f4 hown hE.1 hP 0 rfl rfl 1 (by decide) (hts (.fieldLink RX4 9 "SoundLaws$Sightings" "sets" "[I") q_X4_loseSet_g_2) (fun _ h9 => h9) rfl dX4_loseSet_31 ?_
          refine lv_iload_n hx hb dX4_loseSet_34 rfl (lv_at hl 2 rfl) ?_
          refine k_ald j rfl (by omega) hx hb hE hP 1 rfl (by decide) dX4_loseSet_35 ?_
          refine lv_iload_n hx hb dX4_loseSet_36 rfl (lv_at hl 1 rfl) ?_
          refine lv_icmp_le (tgt := 50) hx hb dX4_loseSet_37 (by decide) (fun c37_3 => ?_) (fun c37_3 => ?_)
          · skip
            refine lv_iinc (v := (nI (j + 1))) (lv' := [(2, .int (nI (j + 1))), (0, .ref si), (1, .int p1)]) hx hb dX4_loseSet_50 hl (k := 2) rfl (nI_1 _) (by decide) rfl (fun ls hl => ?_)
            refine lv_goto (tgt := 2) hx hb dX4_loseSet_53 (by decide) ?_
            exact ih2 (j + 1) _ (by omega) (by omega) _ _ _ hP hD hS (lv_sub hl [1, 2, 0] rfl)
          · skip
            refine lv_aload_n hx hb dX4_loseSet_40 rfl (lv_at hl 0 rfl) ?_
            refine va_get (D := g.1) (ci := 4) (v := .ref q1) (C := RX4) (T := TX4) (N := 4) hx hb hts q_X4_loseSet_g_f4 hown hE.1 hP 0 rfl rfl 1 (by decide) (hts (.fieldLink RX4 9 "SoundLaws$Sightings" "sets" "[I") q_X4_loseSet_g_2) (fun _ h9 => h9) rfl dX4_loseSet_41 ?_
            refine lv_iload_n hx hb dX4_loseSet_44 rfl (lv_at hl 2 rfl) ?_
            refine lv_dup2_11 hx hb dX4_loseSet_45 rfl rfl ?_
            refine k_ald j rfl (by omega) hx hb hE hP 1 rfl (by decide) dX4_loseSet_46 ?_
            refine lv_iconst (v := 1) hx hb dX4_loseSet_47 (by decide) ?_
            refine lv_isub hx hb dX4_loseSet_48 ?_
            refine lv_topi (fun x_4 ex_4 => ?_)
            refine k_ast (x := x_4) j rfl (by omega) hx hb hE hP hD hS 1 rfl (by decide) dX4_loseSet_49 (fun H locs hP hD hS => ?_)
            have hP : va_P g.1 vwCl [(si, .inr (4, [.int (nI n), .ref q1, .ref q2, .ref q3])), (q1, ai g 6 (upd C1 j x_4)), (q2, ai g 6 A2), (q3, az g 6 A3)] H := hP
            have hD : va_D A [(si, .inr (4, [.int (nI n), .ref q1, .ref q2, .ref q3])), (q1, ai g 6 (upd C1 j x_4)), (q2, ai g 6 A2), (q3, az g 6 A3)] := hD
            refine lv_iinc (v := (nI (j + 1))) (lv' := [(2, .int (nI (j + 1))), (0, .ref si), (1, .int p1)]) hx hb dX4_loseSet_50 hl (k := 2) rfl (nI_1 _) (by decide) rfl (fun ls hl => ?_)
            refine lv_goto (tgt := 2) hx hb dX4_loseSet_53 (by decide) ?_
            exact ih2 (j + 1) _ (by omega) (by omega) _ _ _ hP hD hS (lv_sub hl [1, 2, 0] rfl)
        · skip
          refine lv_aload_n hx hb dX4_loseSet_20 rfl (lv_at hl 0 rfl) ?_
          refine va_get (D := g.1) (ci := 4) (v := .ref q1) (C := RX4) (T := TX4) (N := 4) hx hb hts q_X4_loseSet_g_f4 hown hE.1 hP 0 rfl rfl 1 (by decide) (hts (.fieldLink RX4 9 "SoundLaws$Sightings" "sets" "[I") q_X4_loseSet_g_2) (fun _ h9 => h9) rfl dX4_loseSet_21 ?_
          refine lv_iload_n hx hb dX4_loseSet_24 rfl (lv_at hl 2 rfl) ?_
          refine lv_iconst (v := (-1)) hx hb dX4_loseSet_25 (by decide) ?_
          refine k_ast (x := (-1)) j rfl (by omega) hx hb hE hP hD hS 1 rfl (by decide) dX4_loseSet_26 (fun H locs hP hD hS => ?_)
          have hP : va_P g.1 vwCl [(si, .inr (4, [.int (nI n), .ref q1, .ref q2, .ref q3])), (q1, ai g 6 (upd C1 j (-1))), (q2, ai g 6 A2), (q3, az g 6 A3)] H := hP
          have hD : va_D A [(si, .inr (4, [.int (nI n), .ref q1, .ref q2, .ref q3])), (q1, ai g 6 (upd C1 j (-1))), (q2, ai g 6 A2), (q3, az g 6 A3)] := hD
          refine lv_goto (tgt := 50) hx hb dX4_loseSet_27 (by decide) ?_
          refine lv_iinc (v := (nI (j + 1))) (lv' := [(2, .int (nI (j + 1))), (0, .ref si), (1, .int p1)]) hx hb dX4_loseSet_50 hl (k := 2) rfl (nI_1 _) (by decide) rfl (fun ls hl => ?_)
          refine lv_goto (tgt := 2) hx hb dX4_loseSet_53 (by decide) ?_
          exact ih2 (j + 1) _ (by omega) (by omega) _ _ _ hP hD hS (lv_sub hl [1, 2, 0] rfl)
  exact loop2 _ 0 A1 (Nat.zero_le n) (Nat.lt_succ_self _) _ _ _ hP hD hS (lv_sub hl [1, 2, 0] rfl)
def po_X8_isPlace_g (g : GG) (h0 : Nat) (pg : Nat) (rd : Nat) (si : Nat) (sy : Nat) (ks : Nat) (ki : Nat) (al : Nat) (dr : Nat) (le : Int32) (re : Int32) (sd : Int32) (kp : Int32) (sk : Nat) (s1 : Nat) (s2 : Nat) (s3 : Nat) (z : Nat) (t : Nat) (L : Nat → Int32) (k : Nat) (n : Nat) (p1 : Int32) : Int32 → va_W → Prop := fun (r : Int32) w => w = [(h0, .inr (8, [.ref pg, .int le, .ref rd, .int re, .ref sk, .ref si, .ref sy, .int sd, .ref ks, .ref ki, .int kp, .ref al, .ref dr])), (sk, .inr (5, [.int (nI z), .int (nI t), .ref s1, .ref s2, .ref s3])), (s2, ai g 6 L)] ∧ (isI p1 n = r)
theorem q_X8_isPlace_g_f8 : ∀ w ∈ u_ws RX8 TX8 13, w ∈ wsX8_isPlace := by decide +kernel
theorem q_X8_isPlace_g_1 : (Cond.fieldLink RX8 23 "SoundLaws" "stock" "LSoundLaws$Stock;") ∈ wsX8_isPlace := by decide +kernel
theorem q_X8_isPlace_g_f5 : ∀ w ∈ u_ws RX5 TX5 5, w ∈ wsX8_isPlace := by decide +kernel
theorem q_X8_isPlace_g_3 : (Cond.fieldLink RX8 168 "SoundLaws$Stock" "lengths" "[I") ∈ wsX8_isPlace := by decide +kernel
set_option maxHeartbeats 1500000 in
set_option maxRecDepth 100000 in
theorem c_X8_isPlace_g (l : Launch) (g : GG) (h0 : Nat) (pg : Nat) (rd : Nat) (si : Nat) (sy : Nat) (ks : Nat) (ki : Nat) (al : Nat) (dr : Nat) (le : Int32) (re : Int32) (sd : Int32) (kp : Int32) (sk : Nat) (s1 : Nat) (s2 : Nat) (s3 : Nat) (z : Nat) (t : Nat) (L : Nat → Int32) (k : Nat) (n : Nat) (p1 : Int32) (hk : k < 6) (hL : L k = nI n) (sz : Nat) : MetI l yX8_isPlace wsX8_isPlace ({ frames := 0, cells := 0, slots := 0, locals := 0 }) g [.ref h0, .int (nI k), .int p1] [(h0, .inr (8, [.ref pg, .int le, .ref rd, .int re, .ref sk, .ref si, .ref sy, .int sd, .ref ks, .ref ki, .int kp, .ref al, .ref dr])), (sk, .inr (5, [.int (nI z), .int (nI t), .ref s1, .ref s2, .ref s3])), (s2, ai g 6 L)] sz (po_X8_isPlace_g g h0 pg rd si sy ks ki al dr le re sd kp sk s1 s2 s3 z t L k n p1) 0 0 := by
  refine k_of (l := l) (y := yX8_isPlace) (ws := wsX8_isPlace) (rm := { frames := 0, cells := 0, slots := 0, locals := 0 }) (mc := 0) (ms := 0) (av := [.ref h0, .int (nI k), .int p1]) (g := g) (wc := [(h0, .inr (8, [.ref pg, .int le, .ref rd, .int re, .ref sk, .ref si, .ref sy, .int sd, .ref ks, .ref ki, .int kp, .ref al, .ref dr])), (sk, .inr (5, [.int (nI z), .int (nI t), .ref s1, .ref s2, .ref s3])), (s2, ai g 6 L)]) (Qc := fun A => va_Qi (po_X8_isPlace_g g h0 pg rd si sy ks ki al dr le re sd kp sk s1 s2 s3 z t L k n p1) (bk g A) A) (cc := cX8_isPlace) (maxL := 3) (ret := (some .boolean)) (by decide) rfl (Nat.le_of_ble_eq_true rfl) ?_ sz
  intro p e s m below meth c hx hb hr hts hown hlocks hnm hml A hA hE hZ hP hD hS ls hl
  have hown : s.vm.findClass RX8 = some m.cls := hown
  have hl : lv_has ls 3 [(0, .ref h0), (1, .int (nI k)), (2, .int p1)] := hl
  refine lv_iload_n hx hb dX8_isPlace_0 rfl (lv_at hl 2 rfl) ?_
  refine lv_if_lt (tgt := 21) hx hb dX8_isPlace_1 (by decide) (fun c1_1 => ?_) (fun c1_1 => ?_)
  · skip
    refine lv_iconst (v := 0) hx hb dX8_isPlace_21 (by decide) ?_
    refine W.widen (k := 0) (n := 0) (Nat.le_of_ble_eq_true rfl) (Nat.le_of_ble_eq_true rfl) ?_
    exact k_rz hx hb hr hlocks hS hP hD rfl ⟨rfl, (isI_lo c1_1)⟩ dX8_isPlace_22
  · skip
    refine lv_iload_n hx hb dX8_isPlace_4 rfl (lv_at hl 2 rfl) ?_
    refine lv_aload_n hx hb dX8_isPlace_5 rfl (lv_at hl 0 rfl) ?_
    refine va_get (D := g.1) (ci := 8) (v := .ref sk) (C := RX8) (T := TX8) (N := 13) hx hb hts q_X8_isPlace_g_f8 hown hE.1 hP 0 rfl rfl 4 (by decide) (hts (.fieldLink RX8 23 "SoundLaws" "stock" "LSoundLaws$Stock;") q_X8_isPlace_g_1) (fun _ h9 => h9) rfl dX8_isPlace_6 ?_
    refine va_get (D := g.1) (ci := 5) (v := .ref s2) (C := RX5) (T := TX5) (N := 5) hx hb hts q_X8_isPlace_g_f5 hown hE.1 hP 1 rfl rfl 3 (by decide) (hts (.fieldLink RX8 168 "SoundLaws$Stock" "lengths" "[I") q_X8_isPlace_g_3) (fun _ h9 => h9) rfl dX8_isPlace_9 ?_
    refine lv_iload_n hx hb dX8_isPlace_12 rfl (lv_at hl 1 rfl) ?_
    refine k_ald k rfl (by omega) hx hb hE hP 2 rfl (by decide) dX8_isPlace_13 ?_
    refine lv_topi (fun x_2 ex_2 => ?_)
    obtain rfl : x_2 = nI n := by rw [ex_2]; exact hL
    refine lv_icmp_ge (tgt := 21) hx hb dX8_isPlace_14 (by decide) (fun c14_3 => ?_) (fun c14_3 => ?_)
    · skip
      refine lv_iconst (v := 0) hx hb dX8_isPlace_21 (by decide) ?_
      refine W.widen (k := 0) (n := 0) (Nat.le_of_ble_eq_true rfl) (Nat.le_of_ble_eq_true rfl) ?_
      exact k_rz hx hb hr hlocks hS hP hD rfl ⟨rfl, (isI_hi c14_3)⟩ dX8_isPlace_22
    · skip
      refine lv_iconst (v := 1) hx hb dX8_isPlace_17 (by decide) ?_
      refine lv_goto (tgt := 22) hx hb dX8_isPlace_18 (by decide) ?_
      refine W.widen (k := 0) (n := 0) (Nat.le_of_ble_eq_true rfl) (Nat.le_of_ble_eq_true rfl) ?_
      exact k_rz hx hb hr hlocks hS hP hD rfl ⟨rfl, (isI_in c1_1 c14_3)⟩ dX8_isPlace_22

def po_X9_belowFirst_g (g : GG) (t : Nat) (nd : Nat) : Int32 → va_W → Prop := fun (r : Int32) w => w = [] ∧ (∃ b, b < 6 ∧ r = nI b)
set_option maxHeartbeats 1500000 in
set_option maxRecDepth 100000 in
theorem c_X9_belowFirst_g (l : Launch) (g : GG) (t : Nat) (nd : Nat)  (sz : Nat) : MetI l yX9_belowFirst wsX9_belowFirst ({ frames := 0, cells := 0, slots := 0, locals := 0 }) g [.int (nI t), .int (nI nd)] [] sz (po_X9_belowFirst_g g t nd) 0 0 := by
  refine k_of (l := l) (y := yX9_belowFirst) (ws := wsX9_belowFirst) (rm := { frames := 0, cells := 0, slots := 0, locals := 0 }) (mc := 0) (ms := 0) (av := [.int (nI t), .int (nI nd)]) (g := g) (wc := []) (Qc := fun A => va_Qi (po_X9_belowFirst_g g t nd) (bk g A) A) (cc := cX9_belowFirst) (maxL := 2) (ret := (some .int)) (by decide) rfl (Nat.le_of_ble_eq_true rfl) ?_ sz
  intro p e s m below meth c hx hb hr hts hown hlocks hnm hml A hA hE hZ hP hD hS ls hl
  have hown : s.vm.findClass RX9 = some m.cls := hown
  have hl : lv_has ls 2 [(0, .int (nI t)), (1, .int (nI nd))] := hl
  refine lv_iload_n hx hb dX9_belowFirst_0 rfl (lv_at hl 1 rfl) ?_
  refine lv_iload_n hx hb dX9_belowFirst_1 rfl (lv_at hl 0 rfl) ?_
  refine lv_icmp_ne (tgt := 9) hx hb dX9_belowFirst_2 (by decide) (fun c2_1 => ?_) (fun c2_1 => ?_)
  · skip
    refine lv_iload_n hx hb dX9_belowFirst_9 rfl (lv_at hl 0 rfl) ?_
    refine lv_iconst (v := 3) hx hb dX9_belowFirst_10 (by decide) ?_
    refine lv_icmp_ne (tgt := 18) hx hb dX9_belowFirst_11 (by decide) (fun c11_2 => ?_) (fun c11_2 => ?_)
    · skip
      refine lv_iload_n hx hb dX9_belowFirst_18 rfl (lv_at hl 1 rfl) ?_
      refine lv_iconst (v := 5) hx hb dX9_belowFirst_19 (by decide) ?_
      refine lv_icmp_ne (tgt := 27) hx hb dX9_belowFirst_20 (by decide) (fun c20_3 => ?_) (fun c20_3 => ?_)
      · skip
        refine lv_iconst (v := 4) hx hb dX9_belowFirst_27 (by decide) ?_
        refine W.widen (k := 0) (n := 0) (Nat.le_of_ble_eq_true rfl) (Nat.le_of_ble_eq_true rfl) ?_
        exact k_ri hx hb hr hlocks hS hP hD ⟨rfl, ⟨4, by decide, rfl⟩⟩ dX9_belowFirst_28
      · skip
        refine lv_iconst (v := 2) hx hb dX9_belowFirst_23 (by decide) ?_
        refine lv_goto (tgt := 28) hx hb dX9_belowFirst_24 (by decide) ?_
        refine W.widen (k := 0) (n := 0) (Nat.le_of_ble_eq_true rfl) (Nat.le_of_ble_eq_true rfl) ?_
        exact k_ri hx hb hr hlocks hS hP hD ⟨rfl, ⟨2, by decide, rfl⟩⟩ dX9_belowFirst_28
    · skip
      refine lv_iconst (v := 3) hx hb dX9_belowFirst_14 (by decide) ?_
      refine lv_goto (tgt := 28) hx hb dX9_belowFirst_15 (by decide) ?_
      refine W.widen (k := 0) (n := 0) (Nat.le_of_ble_eq_true rfl) (Nat.le_of_ble_eq_true rfl) ?_
      exact k_ri hx hb hr hlocks hS hP hD ⟨rfl, ⟨3, by decide, rfl⟩⟩ dX9_belowFirst_28
  · skip
    refine lv_iconst (v := 0) hx hb dX9_belowFirst_5 (by decide) ?_
    refine lv_goto (tgt := 28) hx hb dX9_belowFirst_6 (by decide) ?_
    refine W.widen (k := 0) (n := 0) (Nat.le_of_ble_eq_true rfl) (Nat.le_of_ble_eq_true rfl) ?_
    exact k_ri hx hb hr hlocks hS hP hD ⟨rfl, ⟨0, by decide, rfl⟩⟩ dX9_belowFirst_28
def po_X9_belowSecond_g (g : GG) (t : Nat) (nd : Nat) : Int32 → va_W → Prop := fun (r : Int32) w => w = [] ∧ (∃ b, b < 6 ∧ r = nI b)
set_option maxHeartbeats 1500000 in
set_option maxRecDepth 100000 in
theorem c_X9_belowSecond_g (l : Launch) (g : GG) (t : Nat) (nd : Nat)  (sz : Nat) : MetI l yX9_belowSecond wsX9_belowSecond ({ frames := 0, cells := 0, slots := 0, locals := 0 }) g [.int (nI t), .int (nI nd)] [] sz (po_X9_belowSecond_g g t nd) 0 0 := by
  refine k_of (l := l) (y := yX9_belowSecond) (ws := wsX9_belowSecond) (rm := { frames := 0, cells := 0, slots := 0, locals := 0 }) (mc := 0) (ms := 0) (av := [.int (nI t), .int (nI nd)]) (g := g) (wc := []) (Qc := fun A => va_Qi (po_X9_belowSecond_g g t nd) (bk g A) A) (cc := cX9_belowSecond) (maxL := 2) (ret := (some .int)) (by decide) rfl (Nat.le_of_ble_eq_true rfl) ?_ sz
  intro p e s m below meth c hx hb hr hts hown hlocks hnm hml A hA hE hZ hP hD hS ls hl
  have hown : s.vm.findClass RX9 = some m.cls := hown
  have hl : lv_has ls 2 [(0, .int (nI t)), (1, .int (nI nd))] := hl
  refine lv_iload_n hx hb dX9_belowSecond_0 rfl (lv_at hl 1 rfl) ?_
  refine lv_iload_n hx hb dX9_belowSecond_1 rfl (lv_at hl 0 rfl) ?_
  refine lv_icmp_ne (tgt := 9) hx hb dX9_belowSecond_2 (by decide) (fun c2_1 => ?_) (fun c2_1 => ?_)
  · skip
    refine lv_iload_n hx hb dX9_belowSecond_9 rfl (lv_at hl 0 rfl) ?_
    refine lv_iconst (v := 3) hx hb dX9_belowSecond_10 (by decide) ?_
    refine lv_icmp_ne (tgt := 18) hx hb dX9_belowSecond_11 (by decide) (fun c11_2 => ?_) (fun c11_2 => ?_)
    · skip
      refine lv_iload_n hx hb dX9_belowSecond_18 rfl (lv_at hl 1 rfl) ?_
      refine lv_iconst (v := 5) hx hb dX9_belowSecond_19 (by decide) ?_
      refine lv_icmp_ne (tgt := 27) hx hb dX9_belowSecond_20 (by decide) (fun c20_3 => ?_) (fun c20_3 => ?_)
      · skip
        refine lv_iconst (v := 5) hx hb dX9_belowSecond_27 (by decide) ?_
        refine W.widen (k := 0) (n := 0) (Nat.le_of_ble_eq_true rfl) (Nat.le_of_ble_eq_true rfl) ?_
        exact k_ri hx hb hr hlocks hS hP hD ⟨rfl, ⟨5, by decide, rfl⟩⟩ dX9_belowSecond_28
      · skip
        refine lv_iconst (v := 3) hx hb dX9_belowSecond_23 (by decide) ?_
        refine lv_goto (tgt := 28) hx hb dX9_belowSecond_24 (by decide) ?_
        refine W.widen (k := 0) (n := 0) (Nat.le_of_ble_eq_true rfl) (Nat.le_of_ble_eq_true rfl) ?_
        exact k_ri hx hb hr hlocks hS hP hD ⟨rfl, ⟨3, by decide, rfl⟩⟩ dX9_belowSecond_28
    · skip
      refine lv_iconst (v := 2) hx hb dX9_belowSecond_14 (by decide) ?_
      refine lv_goto (tgt := 28) hx hb dX9_belowSecond_15 (by decide) ?_
      refine W.widen (k := 0) (n := 0) (Nat.le_of_ble_eq_true rfl) (Nat.le_of_ble_eq_true rfl) ?_
      exact k_ri hx hb hr hlocks hS hP hD ⟨rfl, ⟨2, by decide, rfl⟩⟩ dX9_belowSecond_28
  · skip
    refine lv_iconst (v := 1) hx hb dX9_belowSecond_5 (by decide) ?_
    refine lv_goto (tgt := 28) hx hb dX9_belowSecond_6 (by decide) ?_
    refine W.widen (k := 0) (n := 0) (Nat.le_of_ble_eq_true rfl) (Nat.le_of_ble_eq_true rfl) ?_
    exact k_ri hx hb hr hlocks hS hP hD ⟨rfl, ⟨1, by decide, rfl⟩⟩ dX9_belowSecond_28
def po_X9_least_g (g : GG) (k0 : Nat) (m0 : Nat) (s1 : Int32) (s2 : Int32) (s3 : Int32) (s4 : Int32) (s5 : Int32) (s6 : Int32) (m7 : Nat) (m8 : Nat) (m9 : Nat) (s10 : Int32) (s11 : Int32) (s12 : Int32) (m13 : Nat) (m14 : Nat) (m15 : Nat) (s16 : Int32) (m17 : Nat) (m18 : Nat) (m19 : Nat) (m20 : Nat) (m21 : Nat) (m22 : Nat) (m23 : Nat) (m24 : Nat) (m25 : Nat) (m26 : Nat) (m27 : Nat) (m28 : Nat) (s29 : Int32) (m30 : Nat) (s31 : Int32) (s32 : Int32) (s33 : Int32) (s34 : Int32) (s35 : Int32) (m36 : Nat) (m37 : Nat) (m38 : Nat) (m39 : Nat) (s40 : Int64) (fc : Nat → Int32) (nd : Nat) (p1 : Int32) : Int32 → va_W → Prop := fun (r : Int32) w => w = [(k0, .inr (9, [.ref m0, .int s1, .int s2, .int s3, .int s4, .int s5, .int s6, .ref m7, .ref m8, .ref m9, .int s10, .int s11, .int s12, .ref m13, .ref m14, .ref m15, .int s16, .ref m17, .ref m18, .ref m19, .ref m20, .ref m21, .ref m22, .ref m23, .ref m24, .ref m25, .ref m26, .ref m27, .ref m28, .int s29, .ref m30, .int s31, .int s32, .int s33, .int s34, .int s35, .ref m36, .ref m37, .ref m38, .ref m39, .long s40])), (m17, ai g 63 fc)]
theorem q_X9_least_g_f9 : ∀ w ∈ u_ws RX9 TX9 41, w ∈ wsX9_least := by decide +kernel
theorem q_X9_least_g_1 : (Cond.fieldLink RX9 31 "SoundLawsModel" "costs" "[I") ∈ wsX9_least := by decide +kernel
set_option maxHeartbeats 1500000 in
set_option maxRecDepth 100000 in
theorem c_X9_least_g (l : Launch) (g : GG) (k0 : Nat) (m0 : Nat) (s1 : Int32) (s2 : Int32) (s3 : Int32) (s4 : Int32) (s5 : Int32) (s6 : Int32) (m7 : Nat) (m8 : Nat) (m9 : Nat) (s10 : Int32) (s11 : Int32) (s12 : Int32) (m13 : Nat) (m14 : Nat) (m15 : Nat) (s16 : Int32) (m17 : Nat) (m18 : Nat) (m19 : Nat) (m20 : Nat) (m21 : Nat) (m22 : Nat) (m23 : Nat) (m24 : Nat) (m25 : Nat) (m26 : Nat) (m27 : Nat) (m28 : Nat) (s29 : Int32) (m30 : Nat) (s31 : Int32) (s32 : Int32) (s33 : Int32) (s34 : Int32) (s35 : Int32) (m36 : Nat) (m37 : Nat) (m38 : Nat) (m39 : Nat) (s40 : Int64) (fc : Nat → Int32) (nd : Nat) (p1 : Int32) (hnd : nd < 7) (sz : Nat) : MetI l yX9_least wsX9_least ({ frames := 3, cells := 0, slots := 0, locals := 66 }) g [.ref k0, .int (nI nd), .int p1] [(k0, .inr (9, [.ref m0, .int s1, .int s2, .int s3, .int s4, .int s5, .int s6, .ref m7, .ref m8, .ref m9, .int s10, .int s11, .int s12, .ref m13, .ref m14, .ref m15, .int s16, .ref m17, .ref m18, .ref m19, .ref m20, .ref m21, .ref m22, .ref m23, .ref m24, .ref m25, .ref m26, .ref m27, .ref m28, .int s29, .ref m30, .int s31, .int s32, .int s33, .int s34, .int s35, .ref m36, .ref m37, .ref m38, .ref m39, .long s40])), (m17, ai g 63 fc)] sz (po_X9_least_g g k0 m0 s1 s2 s3 s4 s5 s6 m7 m8 m9 s10 s11 s12 m13 m14 m15 s16 m17 m18 m19 m20 m21 m22 m23 m24 m25 m26 m27 m28 s29 m30 s31 s32 s33 s34 s35 m36 m37 m38 m39 s40 fc nd p1) 0 0 := by
  refine k_of (l := l) (y := yX9_least) (ws := wsX9_least) (rm := { frames := 3, cells := 0, slots := 0, locals := 66 }) (mc := 0) (ms := 0) (av := [.ref k0, .int (nI nd), .int p1]) (g := g) (wc := [(k0, .inr (9, [.ref m0, .int s1, .int s2, .int s3, .int s4, .int s5, .int s6, .ref m7, .ref m8, .ref m9, .int s10, .int s11, .int s12, .ref m13, .ref m14, .ref m15, .int s16, .ref m17, .ref m18, .ref m19, .ref m20, .ref m21, .ref m22, .ref m23, .ref m24, .ref m25, .ref m26, .ref m27, .ref m28, .int s29, .ref m30, .int s31, .int s32, .int s33, .int s34, .int s35, .ref m36, .ref m37, .ref m38, .ref m39, .long s40])), (m17, ai g 63 fc)]) (Qc := fun A => va_Qi (po_X9_least_g g k0 m0 s1 s2 s3 s4 s5 s6 m7 m8 m9 s10 s11 s12 m13 m14 m15 s16 m17 m18 m19 m20 m21 m22 m23 m24 m25 m26 m27 m28 s29 m30 s31 s32 s33 s34 s35 m36 m37 m38 m39 s40 fc nd p1) (bk g A) A) (cc := cX9_least) (maxL := 6) (ret := (some .int)) (by decide) rfl (Nat.le_of_ble_eq_true rfl) ?_ sz
  intro p e s m below meth c hx hb hr hts hown hlocks hnm hml A hA hE hZ hP hD hS ls hl
  have hown : s.vm.findClass RX9 = some m.cls := hown
  have hl : lv_has ls 6 [(0, .ref k0), (1, .int (nI nd)), (2, .int p1)] := hl
  refine lv_sipush (v := 9999) hx hb dX9_least_0 (by decide) ?_
  refine lv_istore_n (lv' := [(3, .int 9999), (0, .ref k0), (1, .int (nI nd)), (2, .int p1)]) hx hb dX9_least_3 rfl hl (by decide) rfl (fun ls hl => ?_)
  refine lv_iconst (v := 0) hx hb dX9_least_4 (by decide) ?_
  refine lv_istore (lv' := [(4, .int 0), (3, .int 9999), (0, .ref k0), (1, .int (nI nd)), (2, .int p1)]) hx hb dX9_least_5 hl (by decide) rfl (fun ls hl => ?_)
  have loop7 : ∀ (fu : Nat) (j : Nat) (x3 : Int32), (hj : j ≤ 9) → 9 - j < fu → ∀ (H : Heap) (locs : List Loc) (ls : Array Slot), va_P g.1 vwCl [(k0, .inr (9, [.ref m0, .int s1, .int s2, .int s3, .int s4, .int s5, .int s6, .ref m7, .ref m8, .ref m9, .int s10, .int s11, .int s12, .ref m13, .ref m14, .ref m15, .int s16, .ref m17, .ref m18, .ref m19, .ref m20, .ref m21, .ref m22, .ref m23, .ref m24, .ref m25, .ref m26, .ref m27, .ref m28, .int s29, .ref m30, .int s31, .int s32, .int s33, .int s34, .int s35, .ref m36, .ref m37, .ref m38, .ref m39, .long s40])), (m17, ai g 63 fc)] H → va_D A [(k0, .inr (9, [.ref m0, .int s1, .int s2, .int s3, .int s4, .int s5, .int s6, .ref m7, .ref m8, .ref m9, .int s10, .int s11, .int s12, .ref m13, .ref m14, .ref m15, .int s16, .ref m17, .ref m18, .ref m19, .ref m20, .ref m21, .ref m22, .ref m23, .ref m24, .ref m25, .ref m26, .ref m27, .ref m28, .int s29, .ref m30, .int s31, .int s32, .int s33, .int s34, .int s35, .ref m36, .ref m37, .ref m38, .ref m39, .long s40])), (m17, ai g 63 fc)] → va_S A s.heap H locs → lv_has ls 6 [(0, .ref k0), (1, .int (nI nd)), (2, .int p1), (3, .int x3), (4, .int (nI j))] → W p l e ({ frames := 3, cells := 0, slots := 0, locals := 66 }) s m [.ref k0, .int (nI nd), .int p1].toArray below meth c H locs 0 0 (MQ below (va_Qi (po_X9_least_g g k0 m0 s1 s2 s3 s4 s5 s6 m7 m8 m9 s10 s11 s12 m13 m14 m15 s16 m17 m18 m19 m20 m21 m22 m23 m24 m25 m26 m27 m28 s29 m30 s31 s32 s33 s34 s35 m36 m37 m38 m39 s40 fc nd p1) (bk g A) A) [.ref k0, .int (nI nd), .int p1].toArray s 0 0 A) (F0 m 7 ls []) := by
    intro fu
    induction fu with
    | zero => intro j x3 hj hfu; exact absurd hfu (Nat.not_lt_zero _)
    | succ fu ih =>
      intro j x3 hj hfu H locs ls hP hD hS hl
      have ih7 := ih
      refine lv_iload hx hb dX9_least_7 (lv_at hl 4 rfl) ?_
      refine lv_bipush (v := 9) hx hb dX9_least_9 (by decide) ?_
      refine lv_icmp_ge (tgt := 54) hx hb dX9_least_11 (by decide) (fun c11_1 => ?_) (fun c11_1 => ?_)
      · skip
        refine lv_iload_n hx hb dX9_least_54 rfl (lv_at hl 3 rfl) ?_
        refine W.widen (k := 0) (n := 0) (Nat.le_of_ble_eq_true rfl) (Nat.le_of_ble_eq_true rfl) ?_
        exact k_ri hx hb hr hlocks hS hP hD rfl dX9_least_55
      · skip
        have hj9 := lt_of_nle (k := 9) (n := j) (by decide) (by omega) c11_1
        refine lv_aload_n hx hb dX9_least_14 rfl (lv_at hl 0 rfl) ?_
        refine va_get (D := g.1) (ci := 9) (v := .ref m17) (C := RX9) (T := TX9) (N := 41) hx hb hts q_X9_least_g_f9 hown hE.1 hP 0 rfl rfl 17 (by decide) (hts (.fieldLink RX9 31 "SoundLawsModel" "costs" "[I") q_X9_least_g_1) (fun _ h9 => h9) rfl dX9_least_15 ?_
        refine lv_bipush (v := 9) hx hb dX9_least_18 (by decide) ?_
        refine lv_iload_n hx hb dX9_least_20 rfl (lv_at hl 1 rfl) ?_
        refine lv_imul hx hb dX9_least_21 ?_
        refine lv_iload hx hb dX9_least_22 (lv_at hl 4 rfl) ?_
        refine lv_iadd hx hb dX9_least_24 ?_
        refine k_ald (9 * nd + j) (by rw [show (9 : Int32) = nI 9 from rfl, pk_mul, nI_add]) (by omega) hx hb hE hP 1 rfl (by decide) dX9_least_25 ?_
        refine lv_iload hx hb dX9_least_26 (lv_at hl 4 rfl) ?_
        refine lv_iload_n hx hb dX9_least_28 rfl (lv_at hl 2 rfl) ?_
        refine k_ci (wr := [(k0, .inr (9, [.ref m0, .int s1, .int s2, .int s3, .int s4, .int s5, .int s6, .ref m7, .ref m8, .ref m9, .int s10, .int s11, .int s12, .ref m13, .ref m14, .ref m15, .int s16, .ref m17, .ref m18, .ref m19, .ref m20, .ref m21, .ref m22, .ref m23, .ref m24, .ref m25, .ref m26, .ref m27, .ref m28, .int s29, .ref m30, .int s31, .int s32, .int s33, .int s34, .int s35, .ref m36, .ref m37, .ref m38, .ref m39, .long s40])), (m17, ai g 63 fc)]) hP hD hS hA [] [0, 1] rfl rfl (by decide) (by decide) (va_runS (As := [.int (nI j), .int p1]) (rest := [.int (fc (9 * nd + j))]) ⟨hx, hb, hml, hown, hts⟩ (c_X9_costOf l g (nI j) p1  H.size) (va_cwS 2 hts gX9_least_X9_costOf rfl rfl rfl (by decide +kernel) ⟨Nat.le_of_ble_eq_true rfl, Nat.le_of_ble_eq_true rfl⟩) (k_preS hE hZ hP hD hS hA [] rfl (by decide)) rfl rfl hl.1 rfl (lv_room (Nat.le_of_ble_eq_true rfl)) dX9_least_29 ⟨Nat.le_of_ble_eq_true rfl, Nat.le_of_ble_eq_true rfl⟩) (fun r_2 w1 H locs hw hP hD hS => ?_)
        obtain ⟨rfl, rfl⟩ := hw
        have hP : va_P g.1 vwCl [(k0, .inr (9, [.ref m0, .int s1, .int s2, .int s3, .int s4, .int s5, .int s6, .ref m7, .ref m8, .ref m9, .int s10, .int s11, .int s12, .ref m13, .ref m14, .ref m15, .int s16, .ref m17, .ref m18, .ref m19, .ref m20, .ref m21, .ref m22, .ref m23, .ref m24, .ref m25, .ref m26, .ref m27, .ref m28, .int s29, .ref m30, .int s31, .int s32, .int s33, .int s34, .int s35, .ref m36, .ref m37, .ref m38, .ref m39, .long s40])), (m17, ai g 63 fc)] H := hP
        have hD : va_D A [(k0, .inr (9, [.ref m0, .int s1, .int s2, .int s3, .int s4, .int s5, .int s6, .ref m7, .ref m8, .ref m9, .int s10, .int s11, .int s12, .ref m13, .ref m14, .ref m15, .int s16, .ref m17, .ref m18, .ref m19, .ref m20, .ref m21, .ref m22, .ref m23, .ref m24, .ref m25, .ref m26, .ref m27, .ref m28, .int s29, .ref m30, .int s31, .int s32, .int s33, .int s34, .int s35, .ref m36, .ref m37, .ref m38, .ref m39, .long s40])), (m17, ai g 63 fc)] := hD
        refine lv_iadd hx hb dX9_least_32 ?_
        refine lv_topi (fun x5 ex5 => ?_)
        refine lv_istore (lv' := [(5, .int x5), (0, .ref k0), (1, .int (nI nd)), (2, .int p1), (3, .int x3), (4, .int (nI j))]) hx hb dX9_least_33 hl (by decide) rfl (fun ls hl => ?_)
        refine lv_iload hx hb dX9_least_35 (lv_at hl 0 rfl) ?_
        refine lv_iload_n hx hb dX9_least_37 rfl (lv_at hl 4 rfl) ?_
        refine lv_icmp_ge (tgt := 46) hx hb dX9_least_38 (by decide) (fun c38_4 => ?_) (fun c38_4 => ?_)
        · skip
          refine lv_iload_n hx hb dX9_least_46 rfl (lv_at hl 4 rfl) ?_
          refine lv_istore_n (lv' := [(3, .int x3), (5, .int x5), (0, .ref k0), (1, .int (nI nd)), (2, .int p1), (4, .int (nI j))]) hx hb dX9_least_47 rfl hl (by decide) rfl (fun ls hl => ?_)
          refine lv_iinc (v := (nI (j + 1))) (lv' := [(4, .int (nI (j + 1))), (3, .int x3), (5, .int x5), (0, .ref k0), (1, .int (nI nd)), (2, .int p1)]) hx hb dX9_least_48 hl (k := 5) rfl (nI_1 _) (by decide) rfl (fun ls hl => ?_)
          refine lv_goto (tgt := 7) hx hb dX9_least_51 (by decide) ?_
          exact ih7 (j + 1) _ (by omega) (by omega) _ _ _ hP hD hS (lv_sub hl [3, 4, 5, 1, 0] rfl)
        · skip
          refine lv_iload hx hb dX9_least_41 (lv_at hl 0 rfl) ?_
          refine lv_goto (tgt := 47) hx hb dX9_least_43 (by decide) ?_
          refine lv_istore_n (lv' := [(3, .int x5), (5, .int x5), (0, .ref k0), (1, .int (nI nd)), (2, .int p1), (4, .int (nI j))]) hx hb dX9_least_47 rfl hl (by decide) rfl (fun ls hl => ?_)
          refine lv_iinc (v := (nI (j + 1))) (lv' := [(4, .int (nI (j + 1))), (3, .int x5), (5, .int x5), (0, .ref k0), (1, .int (nI nd)), (2, .int p1)]) hx hb dX9_least_48 hl (k := 5) rfl (nI_1 _) (by decide) rfl (fun ls hl => ?_)
          refine lv_goto (tgt := 7) hx hb dX9_least_51 (by decide) ?_
          exact ih7 (j + 1) _ (by omega) (by omega) _ _ _ hP hD hS (lv_sub hl [3, 4, 5, 1, 0] rfl)
  exact loop7 _ 0 9999 (Nat.zero_le 9) (Nat.lt_succ_self _) _ _ _ hP hD hS (lv_sub hl [2, 3, 4, 1, 0] rfl)
def po_X9_layCosts_g (g : GG) (k0 : Nat) (m0 : Nat) (s1 : Int32) (s2 : Int32) (s3 : Int32) (s4 : Int32) (s5 : Int32) (s6 : Int32) (m7 : Nat) (m8 : Nat) (m9 : Nat) (s10 : Int32) (s11 : Int32) (s12 : Int32) (m13 : Nat) (m14 : Nat) (m15 : Nat) (s16 : Int32) (m17 : Nat) (m18 : Nat) (m19 : Nat) (m20 : Nat) (m21 : Nat) (m22 : Nat) (m23 : Nat) (m24 : Nat) (m25 : Nat) (m26 : Nat) (m27 : Nat) (m28 : Nat) (s29 : Int32) (m30 : Nat) (s31 : Int32) (s32 : Int32) (s33 : Int32) (s34 : Int32) (s35 : Int32) (m36 : Nat) (m37 : Nat) (m38 : Nat) (m39 : Nat) (s40 : Int64) (fc : Nat → Int32) (fs : Nat → Int32) (t : Nat) : va_W → Prop := fun w => ∃ (gc : Nat → Int32), w = [(k0, .inr (9, [.ref m0, .int s1, .int s2, .int s3, .int s4, .int s5, .int s6, .ref m7, .ref m8, .ref m9, .int s10, .int s11, .int s12, .ref m13, .ref m14, .ref m15, .int s16, .ref m17, .ref m18, .ref m19, .ref m20, .ref m21, .ref m22, .ref m23, .ref m24, .ref m25, .ref m26, .ref m27, .ref m28, .int s29, .ref m30, .int s31, .int s32, .int s33, .int s34, .int s35, .ref m36, .ref m37, .ref m38, .ref m39, .long s40])), (m17, ai g 63 gc), (m19, ai g 4 fs)]
theorem q_X9_layCosts_g_f9 : ∀ w ∈ u_ws RX9 TX9 41, w ∈ wsX9_layCosts := by decide +kernel
theorem q_X9_layCosts_g_1 : (Cond.fieldLink RX9 31 "SoundLawsModel" "costs" "[I") ∈ wsX9_layCosts := by decide +kernel
theorem q_X9_layCosts_g_2 : (Cond.fieldLink RX9 37 "SoundLawsModel" "said" "[I") ∈ wsX9_layCosts := by decide +kernel
set_option maxHeartbeats 1500000 in
set_option maxRecDepth 100000 in
theorem c_X9_layCosts_g (l : Launch) (g : GG) (k0 : Nat) (m0 : Nat) (s1 : Int32) (s2 : Int32) (s3 : Int32) (s4 : Int32) (s5 : Int32) (s6 : Int32) (m7 : Nat) (m8 : Nat) (m9 : Nat) (s10 : Int32) (s11 : Int32) (s12 : Int32) (m13 : Nat) (m14 : Nat) (m15 : Nat) (s16 : Int32) (m17 : Nat) (m18 : Nat) (m19 : Nat) (m20 : Nat) (m21 : Nat) (m22 : Nat) (m23 : Nat) (m24 : Nat) (m25 : Nat) (m26 : Nat) (m27 : Nat) (m28 : Nat) (s29 : Int32) (m30 : Nat) (s31 : Int32) (s32 : Int32) (s33 : Int32) (s34 : Int32) (s35 : Int32) (m36 : Nat) (m37 : Nat) (m38 : Nat) (m39 : Nat) (s40 : Int64) (fc : Nat → Int32) (fs : Nat → Int32) (t : Nat) (ht : 2 ≤ t) (ht4 : t ≤ 4) (sz : Nat) : MetV l yX9_layCosts wsX9_layCosts ({ frames := 4, cells := 0, slots := 0, locals := 91 }) g [.ref k0, .int (nI t)] [(k0, .inr (9, [.ref m0, .int s1, .int s2, .int s3, .int s4, .int s5, .int s6, .ref m7, .ref m8, .ref m9, .int s10, .int s11, .int s12, .ref m13, .ref m14, .ref m15, .int s16, .ref m17, .ref m18, .ref m19, .ref m20, .ref m21, .ref m22, .ref m23, .ref m24, .ref m25, .ref m26, .ref m27, .ref m28, .int s29, .ref m30, .int s31, .int s32, .int s33, .int s34, .int s35, .ref m36, .ref m37, .ref m38, .ref m39, .long s40])), (m17, ai g 63 fc), (m19, ai g 4 fs)] sz (po_X9_layCosts_g g k0 m0 s1 s2 s3 s4 s5 s6 m7 m8 m9 s10 s11 s12 m13 m14 m15 s16 m17 m18 m19 m20 m21 m22 m23 m24 m25 m26 m27 m28 s29 m30 s31 s32 s33 s34 s35 m36 m37 m38 m39 s40 fc fs t) 0 0 := by
  refine k_of (l := l) (y := yX9_layCosts) (ws := wsX9_layCosts) (rm := { frames := 4, cells := 0, slots := 0, locals := 91 }) (mc := 0) (ms := 0) (av := [.ref k0, .int (nI t)]) (g := g) (wc := [(k0, .inr (9, [.ref m0, .int s1, .int s2, .int s3, .int s4, .int s5, .int s6, .ref m7, .ref m8, .ref m9, .int s10, .int s11, .int s12, .ref m13, .ref m14, .ref m15, .int s16, .ref m17, .ref m18, .ref m19, .ref m20, .ref m21, .ref m22, .ref m23, .ref m24, .ref m25, .ref m26, .ref m27, .ref m28, .int s29, .ref m30, .int s31, .int s32, .int s33, .int s34, .int s35, .ref m36, .ref m37, .ref m38, .ref m39, .long s40])), (m17, ai g 63 fc), (m19, ai g 4 fs)]) (Qc := fun A => va_Qv (po_X9_layCosts_g g k0 m0 s1 s2 s3 s4 s5 s6 m7 m8 m9 s10 s11 s12 m13 m14 m15 s16 m17 m18 m19 m20 m21 m22 m23 m24 m25 m26 m27 m28 s29 m30 s31 s32 s33 s34 s35 m36 m37 m38 m39 s40 fc fs t) (bk g A) A) (cc := cX9_layCosts) (maxL := 4) (ret := none) (by decide) rfl (Nat.le_of_ble_eq_true rfl) ?_ sz
  intro p e s m below meth c hx hb hr hts hown hlocks hnm hml A hA hE hZ hP hD hS ls hl
  have hown : s.vm.findClass RX9 = some m.cls := hown
  have hl : lv_has ls 4 [(0, .ref k0), (1, .int (nI t))] := hl
  refine lv_iconst (v := 0) hx hb dX9_layCosts_0 (by decide) ?_
  refine lv_istore_n (lv' := [(2, .int 0), (0, .ref k0), (1, .int (nI t))]) hx hb dX9_layCosts_1 rfl hl (by decide) rfl (fun ls hl => ?_)
  have loop2 : ∀ (fu : Nat) (nd : Nat) (v1 : Nat → Int32), (hnd : nd ≤ 2 * t - 1) → 2 * t - 1 - nd < fu → ∀ (H : Heap) (locs : List Loc) (ls : Array Slot), va_P g.1 vwCl [(k0, .inr (9, [.ref m0, .int s1, .int s2, .int s3, .int s4, .int s5, .int s6, .ref m7, .ref m8, .ref m9, .int s10, .int s11, .int s12, .ref m13, .ref m14, .ref m15, .int s16, .ref m17, .ref m18, .ref m19, .ref m20, .ref m21, .ref m22, .ref m23, .ref m24, .ref m25, .ref m26, .ref m27, .ref m28, .int s29, .ref m30, .int s31, .int s32, .int s33, .int s34, .int s35, .ref m36, .ref m37, .ref m38, .ref m39, .long s40])), (m17, ai g 63 v1), (m19, ai g 4 fs)] H → va_D A [(k0, .inr (9, [.ref m0, .int s1, .int s2, .int s3, .int s4, .int s5, .int s6, .ref m7, .ref m8, .ref m9, .int s10, .int s11, .int s12, .ref m13, .ref m14, .ref m15, .int s16, .ref m17, .ref m18, .ref m19, .ref m20, .ref m21, .ref m22, .ref m23, .ref m24, .ref m25, .ref m26, .ref m27, .ref m28, .int s29, .ref m30, .int s31, .int s32, .int s33, .int s34, .int s35, .ref m36, .ref m37, .ref m38, .ref m39, .long s40])), (m17, ai g 63 v1), (m19, ai g 4 fs)] → va_S A s.heap H locs → lv_has ls 4 [(0, .ref k0), (1, .int (nI t)), (2, .int (nI nd))] → W p l e ({ frames := 4, cells := 0, slots := 0, locals := 91 }) s m [.ref k0, .int (nI t)].toArray below meth c H locs 0 0 (MQ below (va_Qv (po_X9_layCosts_g g k0 m0 s1 s2 s3 s4 s5 s6 m7 m8 m9 s10 s11 s12 m13 m14 m15 s16 m17 m18 m19 m20 m21 m22 m23 m24 m25 m26 m27 m28 s29 m30 s31 s32 s33 s34 s35 m36 m37 m38 m39 s40 fc fs t) (bk g A) A) [.ref k0, .int (nI t)].toArray s 0 0 A) (F0 m 2 ls []) := by
    intro fu
    induction fu with
    | zero => intro nd v1 hnd hfu; exact absurd hfu (Nat.not_lt_zero _)
    | succ fu ih =>
      intro nd v1 hnd hfu H locs ls hP hD hS hl
      have ih2 := ih
      refine lv_iload_n hx hb dX9_layCosts_2 rfl (lv_at hl 2 rfl) ?_
      refine lv_aload_n hx hb dX9_layCosts_3 rfl (lv_at hl 0 rfl) ?_
      refine lv_iload_n hx hb dX9_layCosts_4 rfl (lv_at hl 1 rfl) ?_
      refine k_ci (wr := [(k0, .inr (9, [.ref m0, .int s1, .int s2, .int s3, .int s4, .int s5, .int s6, .ref m7, .ref m8, .ref m9, .int s10, .int s11, .int s12, .ref m13, .ref m14, .ref m15, .int s16, .ref m17, .ref m18, .ref m19, .ref m20, .ref m21, .ref m22, .ref m23, .ref m24, .ref m25, .ref m26, .ref m27, .ref m28, .int s29, .ref m30, .int s31, .int s32, .int s33, .int s34, .int s35, .ref m36, .ref m37, .ref m38, .ref m39, .long s40])), (m17, ai g 63 v1), (m19, ai g 4 fs)]) hP hD hS hA [] [0, 1, 2] rfl rfl (by decide) (by decide) (va_runV (As := [.int (nI t)]) (rest := [.int (nI nd)]) ⟨hx, hb, hml, hown, hts⟩ (c_X9_nodesBy_g l g k0 t (by first | assumption | omega) (by first | assumption | omega) H.size) (cwV 1 hts gX9_layCosts_X9_nodesBy rfl rfl rfl (by decide +kernel) ⟨Nat.le_of_ble_eq_true rfl, Nat.le_of_ble_eq_true rfl⟩) (k_preV hE hZ hP hD hS hA [] rfl (by decide) (va_recv hE.1 hP (ci := 9) (q0 := 0) rfl rfl)) rfl rfl hl.1 rfl (lv_room (Nat.le_of_ble_eq_true rfl)) dX9_layCosts_5 ⟨Nat.le_of_ble_eq_true rfl, Nat.le_of_ble_eq_true rfl⟩) (fun r_1 w1 H locs hw hP hD hS => ?_)
      obtain ⟨rfl, rfl⟩ := hw
      have hP : va_P g.1 vwCl [(k0, .inr (9, [.ref m0, .int s1, .int s2, .int s3, .int s4, .int s5, .int s6, .ref m7, .ref m8, .ref m9, .int s10, .int s11, .int s12, .ref m13, .ref m14, .ref m15, .int s16, .ref m17, .ref m18, .ref m19, .ref m20, .ref m21, .ref m22, .ref m23, .ref m24, .ref m25, .ref m26, .ref m27, .ref m28, .int s29, .ref m30, .int s31, .int s32, .int s33, .int s34, .int s35, .ref m36, .ref m37, .ref m38, .ref m39, .long s40])), (m17, ai g 63 v1), (m19, ai g 4 fs)] H := hP
      have hD : va_D A [(k0, .inr (9, [.ref m0, .int s1, .int s2, .int s3, .int s4, .int s5, .int s6, .ref m7, .ref m8, .ref m9, .int s10, .int s11, .int s12, .ref m13, .ref m14, .ref m15, .int s16, .ref m17, .ref m18, .ref m19, .ref m20, .ref m21, .ref m22, .ref m23, .ref m24, .ref m25, .ref m26, .ref m27, .ref m28, .int s29, .ref m30, .int s31, .int s32, .int s33, .int s34, .int s35, .ref m36, .ref m37, .ref m38, .ref m39, .long s40])), (m17, ai g 63 v1), (m19, ai g 4 fs)] := hD
      refine lv_icmp_ge (tgt := 88) hx hb dX9_layCosts_8 (by decide) (fun c8_3 => ?_) (fun c8_3 => ?_)
      · skip
        refine W.widen (k := 0) (n := 0) (Nat.le_of_ble_eq_true rfl) (Nat.le_of_ble_eq_true rfl) ?_
        exact k_rv hx hb hr hlocks hS hP hD ⟨v1, rfl⟩ dX9_layCosts_88
      · skip
        have hnd9 := lt_of_nle (k := 2 * t - 1) (n := nd) (by omega) (by omega) c8_3
        refine lv_iconst (v := 0) hx hb dX9_layCosts_11 (by decide) ?_
        refine lv_istore_n (lv' := [(3, .int 0), (0, .ref k0), (1, .int (nI t)), (2, .int (nI nd))]) hx hb dX9_layCosts_12 rfl hl (by decide) rfl (fun ls hl => ?_)
        have loop13 : ∀ (fu : Nat) (sd : Nat) (v2 : Nat → Int32), (hs : sd ≤ 9) → 9 - sd < fu → ∀ (H : Heap) (locs : List Loc) (ls : Array Slot), va_P g.1 vwCl [(k0, .inr (9, [.ref m0, .int s1, .int s2, .int s3, .int s4, .int s5, .int s6, .ref m7, .ref m8, .ref m9, .int s10, .int s11, .int s12, .ref m13, .ref m14, .ref m15, .int s16, .ref m17, .ref m18, .ref m19, .ref m20, .ref m21, .ref m22, .ref m23, .ref m24, .ref m25, .ref m26, .ref m27, .ref m28, .int s29, .ref m30, .int s31, .int s32, .int s33, .int s34, .int s35, .ref m36, .ref m37, .ref m38, .ref m39, .long s40])), (m17, ai g 63 v2), (m19, ai g 4 fs)] H → va_D A [(k0, .inr (9, [.ref m0, .int s1, .int s2, .int s3, .int s4, .int s5, .int s6, .ref m7, .ref m8, .ref m9, .int s10, .int s11, .int s12, .ref m13, .ref m14, .ref m15, .int s16, .ref m17, .ref m18, .ref m19, .ref m20, .ref m21, .ref m22, .ref m23, .ref m24, .ref m25, .ref m26, .ref m27, .ref m28, .int s29, .ref m30, .int s31, .int s32, .int s33, .int s34, .int s35, .ref m36, .ref m37, .ref m38, .ref m39, .long s40])), (m17, ai g 63 v2), (m19, ai g 4 fs)] → va_S A s.heap H locs → lv_has ls 4 [(0, .ref k0), (1, .int (nI t)), (2, .int (nI nd)), (3, .int (nI sd))] → W p l e ({ frames := 4, cells := 0, slots := 0, locals := 91 }) s m [.ref k0, .int (nI t)].toArray below meth c H locs 0 0 (MQ below (va_Qv (po_X9_layCosts_g g k0 m0 s1 s2 s3 s4 s5 s6 m7 m8 m9 s10 s11 s12 m13 m14 m15 s16 m17 m18 m19 m20 m21 m22 m23 m24 m25 m26 m27 m28 s29 m30 s31 s32 s33 s34 s35 m36 m37 m38 m39 s40 fc fs t) (bk g A) A) [.ref k0, .int (nI t)].toArray s 0 0 A) (F0 m 13 ls []) := by
          intro fu
          induction fu with
          | zero => intro sd v2 hs hfu; exact absurd hfu (Nat.not_lt_zero _)
          | succ fu ih =>
            intro sd v2 hs hfu H locs ls hP hD hS hl
            have ih13 := ih
            refine lv_iload_n hx hb dX9_layCosts_13 rfl (lv_at hl 3 rfl) ?_
            refine lv_bipush (v := 9) hx hb dX9_layCosts_14 (by decide) ?_
            refine lv_icmp_ge (tgt := 82) hx hb dX9_layCosts_16 (by decide) (fun c16_4 => ?_) (fun c16_4 => ?_)
            · skip
              refine lv_iinc (v := (nI (nd + 1))) (lv' := [(2, .int (nI (nd + 1))), (0, .ref k0), (1, .int (nI t)), (3, .int (nI sd))]) hx hb dX9_layCosts_82 hl (k := 2) rfl (nI_1 _) (by decide) rfl (fun ls hl => ?_)
              refine lv_goto (tgt := 2) hx hb dX9_layCosts_85 (by decide) ?_
              exact ih2 (nd + 1) _ (by omega) (by omega) _ _ _ hP hD hS (lv_sub hl [1, 2, 0] rfl)
            · skip
              have hs9 := lt_of_nle (k := 9) (n := sd) (by decide) (by omega) c16_4
              refine lv_aload_n hx hb dX9_layCosts_19 rfl (lv_at hl 0 rfl) ?_
              refine va_get (D := g.1) (ci := 9) (v := .ref m17) (C := RX9) (T := TX9) (N := 41) hx hb hts q_X9_layCosts_g_f9 hown hE.1 hP 0 rfl rfl 17 (by decide) (hts (.fieldLink RX9 31 "SoundLawsModel" "costs" "[I") q_X9_layCosts_g_1) (fun _ h9 => h9) rfl dX9_layCosts_20 ?_
              refine lv_bipush (v := 9) hx hb dX9_layCosts_23 (by decide) ?_
              refine lv_iload_n hx hb dX9_layCosts_25 rfl (lv_at hl 2 rfl) ?_
              refine lv_imul hx hb dX9_layCosts_26 ?_
              refine lv_iload_n hx hb dX9_layCosts_27 rfl (lv_at hl 3 rfl) ?_
              refine lv_iadd hx hb dX9_layCosts_28 ?_
              refine lv_iload_n hx hb dX9_layCosts_29 rfl (lv_at hl 2 rfl) ?_
              refine lv_iload_n hx hb dX9_layCosts_30 rfl (lv_at hl 1 rfl) ?_
              refine lv_icmp_ge (tgt := 54) hx hb dX9_layCosts_31 (by decide) (fun c31_5 => ?_) (fun c31_5 => ?_)
              · skip
                refine lv_aload_n hx hb dX9_layCosts_54 rfl (lv_at hl 0 rfl) ?_
                refine lv_iload_n hx hb dX9_layCosts_55 rfl (lv_at hl 1 rfl) ?_
                refine lv_iload_n hx hb dX9_layCosts_56 rfl (lv_at hl 2 rfl) ?_
                refine k_ci (wr := [(k0, .inr (9, [.ref m0, .int s1, .int s2, .int s3, .int s4, .int s5, .int s6, .ref m7, .ref m8, .ref m9, .int s10, .int s11, .int s12, .ref m13, .ref m14, .ref m15, .int s16, .ref m17, .ref m18, .ref m19, .ref m20, .ref m21, .ref m22, .ref m23, .ref m24, .ref m25, .ref m26, .ref m27, .ref m28, .int s29, .ref m30, .int s31, .int s32, .int s33, .int s34, .int s35, .ref m36, .ref m37, .ref m38, .ref m39, .long s40])), (m17, ai g 63 v2), (m19, ai g 4 fs)]) hP hD hS hA [] [0, 1, 2] rfl rfl (by decide) (by decide) (va_runS (As := [.int (nI t), .int (nI nd)]) (rest := [.ref k0, .int ((9 * (nI nd)) + (nI sd)), .ref m17]) ⟨hx, hb, hml, hown, hts⟩ (c_X9_belowFirst_g l g t nd  H.size) (va_cwS 2 hts gX9_layCosts_X9_belowFirst rfl rfl rfl (by decide +kernel) ⟨Nat.le_of_ble_eq_true rfl, Nat.le_of_ble_eq_true rfl⟩) (k_preS hE hZ hP hD hS hA [] rfl (by decide)) rfl rfl hl.1 rfl (lv_room (Nat.le_of_ble_eq_true rfl)) dX9_layCosts_57 ⟨Nat.le_of_ble_eq_true rfl, Nat.le_of_ble_eq_true rfl⟩) (fun r_6 w1 H locs hw hP hD hS => ?_)
                obtain ⟨rfl, hb_7⟩ := hw
                have hP : va_P g.1 vwCl [(k0, .inr (9, [.ref m0, .int s1, .int s2, .int s3, .int s4, .int s5, .int s6, .ref m7, .ref m8, .ref m9, .int s10, .int s11, .int s12, .ref m13, .ref m14, .ref m15, .int s16, .ref m17, .ref m18, .ref m19, .ref m20, .ref m21, .ref m22, .ref m23, .ref m24, .ref m25, .ref m26, .ref m27, .ref m28, .int s29, .ref m30, .int s31, .int s32, .int s33, .int s34, .int s35, .ref m36, .ref m37, .ref m38, .ref m39, .long s40])), (m17, ai g 63 v2), (m19, ai g 4 fs)] H := hP
                have hD : va_D A [(k0, .inr (9, [.ref m0, .int s1, .int s2, .int s3, .int s4, .int s5, .int s6, .ref m7, .ref m8, .ref m9, .int s10, .int s11, .int s12, .ref m13, .ref m14, .ref m15, .int s16, .ref m17, .ref m18, .ref m19, .ref m20, .ref m21, .ref m22, .ref m23, .ref m24, .ref m25, .ref m26, .ref m27, .ref m28, .int s29, .ref m30, .int s31, .int s32, .int s33, .int s34, .int s35, .ref m36, .ref m37, .ref m38, .ref m39, .long s40])), (m17, ai g 63 v2), (m19, ai g 4 fs)] := hD
                obtain ⟨b1, hb1, eb1⟩ := hb_7
                subst eb1
                refine lv_iload_n hx hb dX9_layCosts_60 rfl (lv_at hl 3 rfl) ?_
                refine k_ci (wr := [(m19, ai g 4 fs)]) hP hD hS hA [0, 1] [2] rfl rfl (by decide) (by decide) (va_runV (As := [.int (nI b1), .int (nI sd)]) (rest := [.int ((9 * (nI nd)) + (nI sd)), .ref m17]) ⟨hx, hb, hml, hown, hts⟩ (c_X9_least_g l g k0 m0 s1 s2 s3 s4 s5 s6 m7 m8 m9 s10 s11 s12 m13 m14 m15 s16 m17 m18 m19 m20 m21 m22 m23 m24 m25 m26 m27 m28 s29 m30 s31 s32 s33 s34 s35 m36 m37 m38 m39 s40 v2 b1 (nI sd) (by first | assumption | omega) H.size) (cwV 2 hts gX9_layCosts_X9_least rfl rfl rfl (by decide +kernel) ⟨Nat.le_of_ble_eq_true rfl, Nat.le_of_ble_eq_true rfl⟩) (k_preV hE hZ hP hD hS hA [0, 1] rfl (by decide) (va_recv hE.1 hP (ci := 9) (q0 := 0) rfl rfl)) rfl rfl hl.1 rfl (lv_room (Nat.le_of_ble_eq_true rfl)) dX9_layCosts_61 ⟨Nat.le_of_ble_eq_true rfl, Nat.le_of_ble_eq_true rfl⟩) (fun r_8 w1 H locs hw hP hD hS => ?_)
                obtain rfl := hw
                have hP : va_P g.1 vwCl [(m19, ai g 4 fs), (k0, .inr (9, [.ref m0, .int s1, .int s2, .int s3, .int s4, .int s5, .int s6, .ref m7, .ref m8, .ref m9, .int s10, .int s11, .int s12, .ref m13, .ref m14, .ref m15, .int s16, .ref m17, .ref m18, .ref m19, .ref m20, .ref m21, .ref m22, .ref m23, .ref m24, .ref m25, .ref m26, .ref m27, .ref m28, .int s29, .ref m30, .int s31, .int s32, .int s33, .int s34, .int s35, .ref m36, .ref m37, .ref m38, .ref m39, .long s40])), (m17, ai g 63 v2)] H := hP
                have hD : va_D A [(m19, ai g 4 fs), (k0, .inr (9, [.ref m0, .int s1, .int s2, .int s3, .int s4, .int s5, .int s6, .ref m7, .ref m8, .ref m9, .int s10, .int s11, .int s12, .ref m13, .ref m14, .ref m15, .int s16, .ref m17, .ref m18, .ref m19, .ref m20, .ref m21, .ref m22, .ref m23, .ref m24, .ref m25, .ref m26, .ref m27, .ref m28, .int s29, .ref m30, .int s31, .int s32, .int s33, .int s34, .int s35, .ref m36, .ref m37, .ref m38, .ref m39, .long s40])), (m17, ai g 63 v2)] := hD
                refine lv_aload_n hx hb dX9_layCosts_64 rfl (lv_at hl 0 rfl) ?_
                refine lv_iload_n hx hb dX9_layCosts_65 rfl (lv_at hl 1 rfl) ?_
                refine lv_iload_n hx hb dX9_layCosts_66 rfl (lv_at hl 2 rfl) ?_
                refine k_ci (wr := [(m19, ai g 4 fs), (k0, .inr (9, [.ref m0, .int s1, .int s2, .int s3, .int s4, .int s5, .int s6, .ref m7, .ref m8, .ref m9, .int s10, .int s11, .int s12, .ref m13, .ref m14, .ref m15, .int s16, .ref m17, .ref m18, .ref m19, .ref m20, .ref m21, .ref m22, .ref m23, .ref m24, .ref m25, .ref m26, .ref m27, .ref m28, .int s29, .ref m30, .int s31, .int s32, .int s33, .int s34, .int s35, .ref m36, .ref m37, .ref m38, .ref m39, .long s40])), (m17, ai g 63 v2)]) hP hD hS hA [] [0, 1, 2] rfl rfl (by decide) (by decide) (va_runS (As := [.int (nI t), .int (nI nd)]) (rest := [.ref k0, .int r_8, .int ((9 * (nI nd)) + (nI sd)), .ref m17]) ⟨hx, hb, hml, hown, hts⟩ (c_X9_belowSecond_g l g t nd  H.size) (va_cwS 2 hts gX9_layCosts_X9_belowSecond rfl rfl rfl (by decide +kernel) ⟨Nat.le_of_ble_eq_true rfl, Nat.le_of_ble_eq_true rfl⟩) (k_preS hE hZ hP hD hS hA [] rfl (by decide)) rfl rfl hl.1 rfl (lv_room (Nat.le_of_ble_eq_true rfl)) dX9_layCosts_67 ⟨Nat.le_of_ble_eq_true rfl, Nat.le_of_ble_eq_true rfl⟩) (fun r_9 w1 H locs hw hP hD hS => ?_)
                obtain ⟨rfl, hb_10⟩ := hw
                have hP : va_P g.1 vwCl [(m19, ai g 4 fs), (k0, .inr (9, [.ref m0, .int s1, .int s2, .int s3, .int s4, .int s5, .int s6, .ref m7, .ref m8, .ref m9, .int s10, .int s11, .int s12, .ref m13, .ref m14, .ref m15, .int s16, .ref m17, .ref m18, .ref m19, .ref m20, .ref m21, .ref m22, .ref m23, .ref m24, .ref m25, .ref m26, .ref m27, .ref m28, .int s29, .ref m30, .int s31, .int s32, .int s33, .int s34, .int s35, .ref m36, .ref m37, .ref m38, .ref m39, .long s40])), (m17, ai g 63 v2)] H := hP
                have hD : va_D A [(m19, ai g 4 fs), (k0, .inr (9, [.ref m0, .int s1, .int s2, .int s3, .int s4, .int s5, .int s6, .ref m7, .ref m8, .ref m9, .int s10, .int s11, .int s12, .ref m13, .ref m14, .ref m15, .int s16, .ref m17, .ref m18, .ref m19, .ref m20, .ref m21, .ref m22, .ref m23, .ref m24, .ref m25, .ref m26, .ref m27, .ref m28, .int s29, .ref m30, .int s31, .int s32, .int s33, .int s34, .int s35, .ref m36, .ref m37, .ref m38, .ref m39, .long s40])), (m17, ai g 63 v2)] := hD
                obtain ⟨b2, hb2, eb2⟩ := hb_10
                subst eb2
                refine lv_iload_n hx hb dX9_layCosts_70 rfl (lv_at hl 3 rfl) ?_
                refine k_ci (wr := [(m19, ai g 4 fs)]) hP hD hS hA [1, 2] [0] rfl rfl (by decide) (by decide) (va_runV (As := [.int (nI b2), .int (nI sd)]) (rest := [.int r_8, .int ((9 * (nI nd)) + (nI sd)), .ref m17]) ⟨hx, hb, hml, hown, hts⟩ (c_X9_least_g l g k0 m0 s1 s2 s3 s4 s5 s6 m7 m8 m9 s10 s11 s12 m13 m14 m15 s16 m17 m18 m19 m20 m21 m22 m23 m24 m25 m26 m27 m28 s29 m30 s31 s32 s33 s34 s35 m36 m37 m38 m39 s40 v2 b2 (nI sd) (by first | assumption | omega) H.size) (cwV 2 hts gX9_layCosts_X9_least rfl rfl rfl (by decide +kernel) ⟨Nat.le_of_ble_eq_true rfl, Nat.le_of_ble_eq_true rfl⟩) (k_preV hE hZ hP hD hS hA [1, 2] rfl (by decide) (va_recv hE.1 hP (ci := 9) (q0 := 1) rfl rfl)) rfl rfl hl.1 rfl (lv_room (Nat.le_of_ble_eq_true rfl)) dX9_layCosts_71 ⟨Nat.le_of_ble_eq_true rfl, Nat.le_of_ble_eq_true rfl⟩) (fun r_11 w1 H locs hw hP hD hS => ?_)
                obtain rfl := hw
                have hP : va_P g.1 vwCl [(m19, ai g 4 fs), (k0, .inr (9, [.ref m0, .int s1, .int s2, .int s3, .int s4, .int s5, .int s6, .ref m7, .ref m8, .ref m9, .int s10, .int s11, .int s12, .ref m13, .ref m14, .ref m15, .int s16, .ref m17, .ref m18, .ref m19, .ref m20, .ref m21, .ref m22, .ref m23, .ref m24, .ref m25, .ref m26, .ref m27, .ref m28, .int s29, .ref m30, .int s31, .int s32, .int s33, .int s34, .int s35, .ref m36, .ref m37, .ref m38, .ref m39, .long s40])), (m17, ai g 63 v2)] H := hP
                have hD : va_D A [(m19, ai g 4 fs), (k0, .inr (9, [.ref m0, .int s1, .int s2, .int s3, .int s4, .int s5, .int s6, .ref m7, .ref m8, .ref m9, .int s10, .int s11, .int s12, .ref m13, .ref m14, .ref m15, .int s16, .ref m17, .ref m18, .ref m19, .ref m20, .ref m21, .ref m22, .ref m23, .ref m24, .ref m25, .ref m26, .ref m27, .ref m28, .int s29, .ref m30, .int s31, .int s32, .int s33, .int s34, .int s35, .ref m36, .ref m37, .ref m38, .ref m39, .long s40])), (m17, ai g 63 v2)] := hD
                refine lv_iadd hx hb dX9_layCosts_74 ?_
                refine lv_topi (fun x_12 ex_12 => ?_)
                refine k_ast (x := x_12) (9 * nd + sd) (by rw [show (9 : Int32) = nI 9 from rfl, pk_mul, nI_add]) (by omega) hx hb hE hP hD hS 2 rfl (by decide) dX9_layCosts_75 (fun H locs hP hD hS => ?_)
                have hP : va_P g.1 vwCl [(m19, ai g 4 fs), (k0, .inr (9, [.ref m0, .int s1, .int s2, .int s3, .int s4, .int s5, .int s6, .ref m7, .ref m8, .ref m9, .int s10, .int s11, .int s12, .ref m13, .ref m14, .ref m15, .int s16, .ref m17, .ref m18, .ref m19, .ref m20, .ref m21, .ref m22, .ref m23, .ref m24, .ref m25, .ref m26, .ref m27, .ref m28, .int s29, .ref m30, .int s31, .int s32, .int s33, .int s34, .int s35, .ref m36, .ref m37, .ref m38, .ref m39, .long s40])), (m17, ai g 63 (upd v2 (9 * nd + sd) x_12))] H := hP
                have hD : va_D A [(m19, ai g 4 fs), (k0, .inr (9, [.ref m0, .int s1, .int s2, .int s3, .int s4, .int s5, .int s6, .ref m7, .ref m8, .ref m9, .int s10, .int s11, .int s12, .ref m13, .ref m14, .ref m15, .int s16, .ref m17, .ref m18, .ref m19, .ref m20, .ref m21, .ref m22, .ref m23, .ref m24, .ref m25, .ref m26, .ref m27, .ref m28, .int s29, .ref m30, .int s31, .int s32, .int s33, .int s34, .int s35, .ref m36, .ref m37, .ref m38, .ref m39, .long s40])), (m17, ai g 63 (upd v2 (9 * nd + sd) x_12))] := hD
                refine lv_iinc (v := (nI (sd + 1))) (lv' := [(3, .int (nI (sd + 1))), (0, .ref k0), (1, .int (nI t)), (2, .int (nI nd))]) hx hb dX9_layCosts_76 hl (k := 3) rfl (nI_1 _) (by decide) rfl (fun ls hl => ?_)
                refine lv_goto (tgt := 13) hx hb dX9_layCosts_79 (by decide) ?_
                exact ih13 (sd + 1) _ (by omega) (by omega) _ _ _ (hP.sub [1, 2, 0] rfl) (hD.sub [1, 2, 0] (by decide) rfl) hS (lv_sub hl [1, 2, 3, 0] rfl)
              · skip
                have hnt := lt_of_nle (k := t) (n := nd) (by omega) (by omega) c31_5
                refine lv_iload_n hx hb dX9_layCosts_34 rfl (lv_at hl 3 rfl) ?_
                refine lv_aload_n hx hb dX9_layCosts_35 rfl (lv_at hl 0 rfl) ?_
                refine va_get (D := g.1) (ci := 9) (v := .ref m19) (C := RX9) (T := TX9) (N := 41) hx hb hts q_X9_layCosts_g_f9 hown hE.1 hP 0 rfl rfl 19 (by decide) (hts (.fieldLink RX9 37 "SoundLawsModel" "said" "[I") q_X9_layCosts_g_2) (fun _ h9 => h9) rfl dX9_layCosts_36 ?_
                refine lv_iload_n hx hb dX9_layCosts_39 rfl (lv_at hl 2 rfl) ?_
                refine k_ald nd rfl (by omega) hx hb hE hP 2 rfl (by decide) dX9_layCosts_40 ?_
                refine lv_icmp_ne (tgt := 48) hx hb dX9_layCosts_41 (by decide) (fun c41_13 => ?_) (fun c41_13 => ?_)
                · skip
                  refine lv_sipush (v := 999) hx hb dX9_layCosts_48 (by decide) ?_
                  refine lv_goto (tgt := 75) hx hb dX9_layCosts_51 (by decide) ?_
                  refine k_ast (x := 999) (9 * nd + sd) (by rw [show (9 : Int32) = nI 9 from rfl, pk_mul, nI_add]) (by omega) hx hb hE hP hD hS 1 rfl (by decide) dX9_layCosts_75 (fun H locs hP hD hS => ?_)
                  have hP : va_P g.1 vwCl [(k0, .inr (9, [.ref m0, .int s1, .int s2, .int s3, .int s4, .int s5, .int s6, .ref m7, .ref m8, .ref m9, .int s10, .int s11, .int s12, .ref m13, .ref m14, .ref m15, .int s16, .ref m17, .ref m18, .ref m19, .ref m20, .ref m21, .ref m22, .ref m23, .ref m24, .ref m25, .ref m26, .ref m27, .ref m28, .int s29, .ref m30, .int s31, .int s32, .int s33, .int s34, .int s35, .ref m36, .ref m37, .ref m38, .ref m39, .long s40])), (m17, ai g 63 (upd v2 (9 * nd + sd) 999)), (m19, ai g 4 fs)] H := hP
                  have hD : va_D A [(k0, .inr (9, [.ref m0, .int s1, .int s2, .int s3, .int s4, .int s5, .int s6, .ref m7, .ref m8, .ref m9, .int s10, .int s11, .int s12, .ref m13, .ref m14, .ref m15, .int s16, .ref m17, .ref m18, .ref m19, .ref m20, .ref m21, .ref m22, .ref m23, .ref m24, .ref m25, .ref m26, .ref m27, .ref m28, .int s29, .ref m30, .int s31, .int s32, .int s33, .int s34, .int s35, .ref m36, .ref m37, .ref m38, .ref m39, .long s40])), (m17, ai g 63 (upd v2 (9 * nd + sd) 999)), (m19, ai g 4 fs)] := hD
                  refine lv_iinc (v := (nI (sd + 1))) (lv' := [(3, .int (nI (sd + 1))), (0, .ref k0), (1, .int (nI t)), (2, .int (nI nd))]) hx hb dX9_layCosts_76 hl (k := 3) rfl (nI_1 _) (by decide) rfl (fun ls hl => ?_)
                  refine lv_goto (tgt := 13) hx hb dX9_layCosts_79 (by decide) ?_
                  exact ih13 (sd + 1) _ (by omega) (by omega) _ _ _ hP hD hS (lv_sub hl [1, 2, 3, 0] rfl)
                · skip
                  refine lv_iconst (v := 0) hx hb dX9_layCosts_44 (by decide) ?_
                  refine lv_goto (tgt := 75) hx hb dX9_layCosts_45 (by decide) ?_
                  refine k_ast (x := 0) (9 * nd + sd) (by rw [show (9 : Int32) = nI 9 from rfl, pk_mul, nI_add]) (by omega) hx hb hE hP hD hS 1 rfl (by decide) dX9_layCosts_75 (fun H locs hP hD hS => ?_)
                  have hP : va_P g.1 vwCl [(k0, .inr (9, [.ref m0, .int s1, .int s2, .int s3, .int s4, .int s5, .int s6, .ref m7, .ref m8, .ref m9, .int s10, .int s11, .int s12, .ref m13, .ref m14, .ref m15, .int s16, .ref m17, .ref m18, .ref m19, .ref m20, .ref m21, .ref m22, .ref m23, .ref m24, .ref m25, .ref m26, .ref m27, .ref m28, .int s29, .ref m30, .int s31, .int s32, .int s33, .int s34, .int s35, .ref m36, .ref m37, .ref m38, .ref m39, .long s40])), (m17, ai g 63 (upd v2 (9 * nd + sd) 0)), (m19, ai g 4 fs)] H := hP
                  have hD : va_D A [(k0, .inr (9, [.ref m0, .int s1, .int s2, .int s3, .int s4, .int s5, .int s6, .ref m7, .ref m8, .ref m9, .int s10, .int s11, .int s12, .ref m13, .ref m14, .ref m15, .int s16, .ref m17, .ref m18, .ref m19, .ref m20, .ref m21, .ref m22, .ref m23, .ref m24, .ref m25, .ref m26, .ref m27, .ref m28, .int s29, .ref m30, .int s31, .int s32, .int s33, .int s34, .int s35, .ref m36, .ref m37, .ref m38, .ref m39, .long s40])), (m17, ai g 63 (upd v2 (9 * nd + sd) 0)), (m19, ai g 4 fs)] := hD
                  refine lv_iinc (v := (nI (sd + 1))) (lv' := [(3, .int (nI (sd + 1))), (0, .ref k0), (1, .int (nI t)), (2, .int (nI nd))]) hx hb dX9_layCosts_76 hl (k := 3) rfl (nI_1 _) (by decide) rfl (fun ls hl => ?_)
                  refine lv_goto (tgt := 13) hx hb dX9_layCosts_79 (by decide) ?_
                  exact ih13 (sd + 1) _ (by omega) (by omega) _ _ _ hP hD hS (lv_sub hl [1, 2, 3, 0] rfl)
        exact loop13 _ 0 v1 (Nat.zero_le 9) (Nat.lt_succ_self _) _ _ _ hP hD hS (lv_sub hl [1, 2, 3, 0] rfl)
  exact loop2 _ 0 fc (Nat.zero_le _) (Nat.lt_succ_self _) _ _ _ hP hD hS (lv_sub hl [1, 2, 0] rfl)
def po_X9_leastSound_g (g : GG) (k0 : Nat) (m0 : Nat) (s1 : Int32) (s2 : Int32) (s3 : Int32) (s4 : Int32) (s5 : Int32) (s6 : Int32) (m7 : Nat) (m8 : Nat) (m9 : Nat) (s10 : Int32) (s11 : Int32) (s12 : Int32) (m13 : Nat) (m14 : Nat) (m15 : Nat) (s16 : Int32) (m17 : Nat) (m18 : Nat) (m19 : Nat) (m20 : Nat) (m21 : Nat) (m22 : Nat) (m23 : Nat) (m24 : Nat) (m25 : Nat) (m26 : Nat) (m27 : Nat) (m28 : Nat) (s29 : Int32) (m30 : Nat) (s31 : Int32) (s32 : Int32) (s33 : Int32) (s34 : Int32) (s35 : Int32) (m36 : Nat) (m37 : Nat) (m38 : Nat) (m39 : Nat) (s40 : Int64) (fc : Nat → Int32) (nd : Nat) (p1 : Int32) : Int32 → va_W → Prop := fun (r : Int32) w => w = [(k0, .inr (9, [.ref m0, .int s1, .int s2, .int s3, .int s4, .int s5, .int s6, .ref m7, .ref m8, .ref m9, .int s10, .int s11, .int s12, .ref m13, .ref m14, .ref m15, .int s16, .ref m17, .ref m18, .ref m19, .ref m20, .ref m21, .ref m22, .ref m23, .ref m24, .ref m25, .ref m26, .ref m27, .ref m28, .int s29, .ref m30, .int s31, .int s32, .int s33, .int s34, .int s35, .ref m36, .ref m37, .ref m38, .ref m39, .long s40])), (m17, ai g 63 fc)] ∧ (∃ v, v < 9 ∧ r = nI v)
theorem q_X9_leastSound_g_f9 : ∀ w ∈ u_ws RX9 TX9 41, w ∈ wsX9_leastSound := by decide +kernel
theorem q_X9_leastSound_g_1 : (Cond.fieldLink RX9 31 "SoundLawsModel" "costs" "[I") ∈ wsX9_leastSound := by decide +kernel
set_option maxHeartbeats 1500000 in
set_option maxRecDepth 100000 in
theorem c_X9_leastSound_g (l : Launch) (g : GG) (k0 : Nat) (m0 : Nat) (s1 : Int32) (s2 : Int32) (s3 : Int32) (s4 : Int32) (s5 : Int32) (s6 : Int32) (m7 : Nat) (m8 : Nat) (m9 : Nat) (s10 : Int32) (s11 : Int32) (s12 : Int32) (m13 : Nat) (m14 : Nat) (m15 : Nat) (s16 : Int32) (m17 : Nat) (m18 : Nat) (m19 : Nat) (m20 : Nat) (m21 : Nat) (m22 : Nat) (m23 : Nat) (m24 : Nat) (m25 : Nat) (m26 : Nat) (m27 : Nat) (m28 : Nat) (s29 : Int32) (m30 : Nat) (s31 : Int32) (s32 : Int32) (s33 : Int32) (s34 : Int32) (s35 : Int32) (m36 : Nat) (m37 : Nat) (m38 : Nat) (m39 : Nat) (s40 : Int64) (fc : Nat → Int32) (nd : Nat) (p1 : Int32) (hnd : nd < 7) (sz : Nat) : MetI l yX9_leastSound wsX9_leastSound ({ frames := 3, cells := 0, slots := 0, locals := 66 }) g [.ref k0, .int (nI nd), .int p1] [(k0, .inr (9, [.ref m0, .int s1, .int s2, .int s3, .int s4, .int s5, .int s6, .ref m7, .ref m8, .ref m9, .int s10, .int s11, .int s12, .ref m13, .ref m14, .ref m15, .int s16, .ref m17, .ref m18, .ref m19, .ref m20, .ref m21, .ref m22, .ref m23, .ref m24, .ref m25, .ref m26, .ref m27, .ref m28, .int s29, .ref m30, .int s31, .int s32, .int s33, .int s34, .int s35, .ref m36, .ref m37, .ref m38, .ref m39, .long s40])), (m17, ai g 63 fc)] sz (po_X9_leastSound_g g k0 m0 s1 s2 s3 s4 s5 s6 m7 m8 m9 s10 s11 s12 m13 m14 m15 s16 m17 m18 m19 m20 m21 m22 m23 m24 m25 m26 m27 m28 s29 m30 s31 s32 s33 s34 s35 m36 m37 m38 m39 s40 fc nd p1) 0 0 := by
  refine k_of (l := l) (y := yX9_leastSound) (ws := wsX9_leastSound) (rm := { frames := 3, cells := 0, slots := 0, locals := 66 }) (mc := 0) (ms := 0) (av := [.ref k0, .int (nI nd), .int p1]) (g := g) (wc := [(k0, .inr (9, [.ref m0, .int s1, .int s2, .int s3, .int s4, .int s5, .int s6, .ref m7, .ref m8, .ref m9, .int s10, .int s11, .int s12, .ref m13, .ref m14, .ref m15, .int s16, .ref m17, .ref m18, .ref m19, .ref m20, .ref m21, .ref m22, .ref m23, .ref m24, .ref m25, .ref m26, .ref m27, .ref m28, .int s29, .ref m30, .int s31, .int s32, .int s33, .int s34, .int s35, .ref m36, .ref m37, .ref m38, .ref m39, .long s40])), (m17, ai g 63 fc)]) (Qc := fun A => va_Qi (po_X9_leastSound_g g k0 m0 s1 s2 s3 s4 s5 s6 m7 m8 m9 s10 s11 s12 m13 m14 m15 s16 m17 m18 m19 m20 m21 m22 m23 m24 m25 m26 m27 m28 s29 m30 s31 s32 s33 s34 s35 m36 m37 m38 m39 s40 fc nd p1) (bk g A) A) (cc := cX9_leastSound) (maxL := 7) (ret := (some .int)) (by decide) rfl (Nat.le_of_ble_eq_true rfl) ?_ sz
  intro p e s m below meth c hx hb hr hts hown hlocks hnm hml A hA hE hZ hP hD hS ls hl
  have hown : s.vm.findClass RX9 = some m.cls := hown
  have hl : lv_has ls 7 [(0, .ref k0), (1, .int (nI nd)), (2, .int p1)] := hl
  refine lv_iconst (v := 0) hx hb dX9_leastSound_0 (by decide) ?_
  refine lv_istore_n (lv' := [(3, .int 0), (0, .ref k0), (1, .int (nI nd)), (2, .int p1)]) hx hb dX9_leastSound_1 rfl hl (by decide) rfl (fun ls hl => ?_)
  refine lv_sipush (v := 9999) hx hb dX9_leastSound_2 (by decide) ?_
  refine lv_istore (lv' := [(4, .int 9999), (3, .int 0), (0, .ref k0), (1, .int (nI nd)), (2, .int p1)]) hx hb dX9_leastSound_5 hl (by decide) rfl (fun ls hl => ?_)
  refine lv_iconst (v := 0) hx hb dX9_leastSound_7 (by decide) ?_
  refine lv_istore (lv' := [(5, .int 0), (4, .int 9999), (3, .int 0), (0, .ref k0), (1, .int (nI nd)), (2, .int p1)]) hx hb dX9_leastSound_8 hl (by decide) rfl (fun ls hl => ?_)
  have loop10 : ∀ (fu : Nat) (j v : Nat) (x4 : Int32), (hj : j ≤ 9) → (hv : v < 9) → 9 - j < fu → ∀ (H : Heap) (locs : List Loc) (ls : Array Slot), va_P g.1 vwCl [(k0, .inr (9, [.ref m0, .int s1, .int s2, .int s3, .int s4, .int s5, .int s6, .ref m7, .ref m8, .ref m9, .int s10, .int s11, .int s12, .ref m13, .ref m14, .ref m15, .int s16, .ref m17, .ref m18, .ref m19, .ref m20, .ref m21, .ref m22, .ref m23, .ref m24, .ref m25, .ref m26, .ref m27, .ref m28, .int s29, .ref m30, .int s31, .int s32, .int s33, .int s34, .int s35, .ref m36, .ref m37, .ref m38, .ref m39, .long s40])), (m17, ai g 63 fc)] H → va_D A [(k0, .inr (9, [.ref m0, .int s1, .int s2, .int s3, .int s4, .int s5, .int s6, .ref m7, .ref m8, .ref m9, .int s10, .int s11, .int s12, .ref m13, .ref m14, .ref m15, .int s16, .ref m17, .ref m18, .ref m19, .ref m20, .ref m21, .ref m22, .ref m23, .ref m24, .ref m25, .ref m26, .ref m27, .ref m28, .int s29, .ref m30, .int s31, .int s32, .int s33, .int s34, .int s35, .ref m36, .ref m37, .ref m38, .ref m39, .long s40])), (m17, ai g 63 fc)] → va_S A s.heap H locs → lv_has ls 7 [(0, .ref k0), (1, .int (nI nd)), (2, .int p1), (3, .int (nI v)), (4, .int x4), (5, .int (nI j))] → W p l e ({ frames := 3, cells := 0, slots := 0, locals := 66 }) s m [.ref k0, .int (nI nd), .int p1].toArray below meth c H locs 0 0 (MQ below (va_Qi (po_X9_leastSound_g g k0 m0 s1 s2 s3 s4 s5 s6 m7 m8 m9 s10 s11 s12 m13 m14 m15 s16 m17 m18 m19 m20 m21 m22 m23 m24 m25 m26 m27 m28 s29 m30 s31 s32 s33 s34 s35 m36 m37 m38 m39 s40 fc nd p1) (bk g A) A) [.ref k0, .int (nI nd), .int p1].toArray s 0 0 A) (F0 m 10 ls []) := by
    intro fu
    induction fu with
    | zero => intro j v x4 hj hv hfu; exact absurd hfu (Nat.not_lt_zero _)
    | succ fu ih =>
      intro j v x4 hj hv hfu H locs ls hP hD hS hl
      have ih10 := ih
      refine lv_iload hx hb dX9_leastSound_10 (lv_at hl 5 rfl) ?_
      refine lv_bipush (v := 9) hx hb dX9_leastSound_12 (by decide) ?_
      refine lv_icmp_ge (tgt := 83) hx hb dX9_leastSound_14 (by decide) (fun c14_1 => ?_) (fun c14_1 => ?_)
      · skip
        refine lv_iload_n hx hb dX9_leastSound_83 rfl (lv_at hl 3 rfl) ?_
        refine W.widen (k := 0) (n := 0) (Nat.le_of_ble_eq_true rfl) (Nat.le_of_ble_eq_true rfl) ?_
        exact k_ri hx hb hr hlocks hS hP hD ⟨rfl, ⟨v, hv, rfl⟩⟩ dX9_leastSound_84
      · skip
        have hj9 := lt_of_nle (k := 9) (n := j) (by decide) (by omega) c14_1
        refine lv_aload_n hx hb dX9_leastSound_17 rfl (lv_at hl 0 rfl) ?_
        refine va_get (D := g.1) (ci := 9) (v := .ref m17) (C := RX9) (T := TX9) (N := 41) hx hb hts q_X9_leastSound_g_f9 hown hE.1 hP 0 rfl rfl 17 (by decide) (hts (.fieldLink RX9 31 "SoundLawsModel" "costs" "[I") q_X9_leastSound_g_1) (fun _ h9 => h9) rfl dX9_leastSound_18 ?_
        refine lv_bipush (v := 9) hx hb dX9_leastSound_21 (by decide) ?_
        refine lv_iload_n hx hb dX9_leastSound_23 rfl (lv_at hl 1 rfl) ?_
        refine lv_imul hx hb dX9_leastSound_24 ?_
        refine lv_iload hx hb dX9_leastSound_25 (lv_at hl 5 rfl) ?_
        refine lv_iadd hx hb dX9_leastSound_27 ?_
        refine k_ald (9 * nd + j) (by rw [show (9 : Int32) = nI 9 from rfl, pk_mul, nI_add]) (by omega) hx hb hE hP 1 rfl (by decide) dX9_leastSound_28 ?_
        refine lv_iload_n hx hb dX9_leastSound_29 rfl (lv_at hl 2 rfl) ?_
        refine lv_iconst (v := (-1)) hx hb dX9_leastSound_30 (by decide) ?_
        refine lv_icmp_ne (tgt := 38) hx hb dX9_leastSound_31 (by decide) (fun c31_2 => ?_) (fun c31_2 => ?_)
        · skip
          refine lv_iload hx hb dX9_leastSound_38 (lv_at hl 5 rfl) ?_
          refine lv_iload_n hx hb dX9_leastSound_40 rfl (lv_at hl 2 rfl) ?_
          refine k_ci (wr := [(k0, .inr (9, [.ref m0, .int s1, .int s2, .int s3, .int s4, .int s5, .int s6, .ref m7, .ref m8, .ref m9, .int s10, .int s11, .int s12, .ref m13, .ref m14, .ref m15, .int s16, .ref m17, .ref m18, .ref m19, .ref m20, .ref m21, .ref m22, .ref m23, .ref m24, .ref m25, .ref m26, .ref m27, .ref m28, .int s29, .ref m30, .int s31, .int s32, .int s33, .int s34, .int s35, .ref m36, .ref m37, .ref m38, .ref m39, .long s40])), (m17, ai g 63 fc)]) hP hD hS hA [] [0, 1] rfl rfl (by decide) (by decide) (va_runS (As := [.int (nI j), .int p1]) (rest := [.int (fc (9 * nd + j))]) ⟨hx, hb, hml, hown, hts⟩ (c_X9_costOf l g (nI j) p1  H.size) (va_cwS 2 hts gX9_leastSound_X9_costOf rfl rfl rfl (by decide +kernel) ⟨Nat.le_of_ble_eq_true rfl, Nat.le_of_ble_eq_true rfl⟩) (k_preS hE hZ hP hD hS hA [] rfl (by decide)) rfl rfl hl.1 rfl (lv_room (Nat.le_of_ble_eq_true rfl)) dX9_leastSound_41 ⟨Nat.le_of_ble_eq_true rfl, Nat.le_of_ble_eq_true rfl⟩) (fun r_3 w1 H locs hw hP hD hS => ?_)
          obtain ⟨rfl, rfl⟩ := hw
          have hP : va_P g.1 vwCl [(k0, .inr (9, [.ref m0, .int s1, .int s2, .int s3, .int s4, .int s5, .int s6, .ref m7, .ref m8, .ref m9, .int s10, .int s11, .int s12, .ref m13, .ref m14, .ref m15, .int s16, .ref m17, .ref m18, .ref m19, .ref m20, .ref m21, .ref m22, .ref m23, .ref m24, .ref m25, .ref m26, .ref m27, .ref m28, .int s29, .ref m30, .int s31, .int s32, .int s33, .int s34, .int s35, .ref m36, .ref m37, .ref m38, .ref m39, .long s40])), (m17, ai g 63 fc)] H := hP
          have hD : va_D A [(k0, .inr (9, [.ref m0, .int s1, .int s2, .int s3, .int s4, .int s5, .int s6, .ref m7, .ref m8, .ref m9, .int s10, .int s11, .int s12, .ref m13, .ref m14, .ref m15, .int s16, .ref m17, .ref m18, .ref m19, .ref m20, .ref m21, .ref m22, .ref m23, .ref m24, .ref m25, .ref m26, .ref m27, .ref m28, .int s29, .ref m30, .int s31, .int s32, .int s33, .int s34, .int s35, .ref m36, .ref m37, .ref m38, .ref m39, .long s40])), (m17, ai g 63 fc)] := hD
          refine lv_iadd hx hb dX9_leastSound_44 ?_
          refine lv_topi (fun x6 ex6 => ?_)
          refine lv_istore (lv' := [(6, .int x6), (0, .ref k0), (1, .int (nI nd)), (2, .int p1), (3, .int (nI v)), (4, .int x4), (5, .int (nI j))]) hx hb dX9_leastSound_45 hl (by decide) rfl (fun ls hl => ?_)
          refine lv_iload hx hb dX9_leastSound_47 (lv_at hl 0 rfl) ?_
          refine lv_iload hx hb dX9_leastSound_49 (lv_at hl 5 rfl) ?_
          refine lv_icmp_ge (tgt := 59) hx hb dX9_leastSound_51 (by decide) (fun c51_5 => ?_) (fun c51_5 => ?_)
          · skip
            refine lv_iload_n hx hb dX9_leastSound_59 rfl (lv_at hl 4 rfl) ?_
            refine lv_istore_n (lv' := [(3, .int (nI v)), (6, .int x6), (0, .ref k0), (1, .int (nI nd)), (2, .int p1), (4, .int x4), (5, .int (nI j))]) hx hb dX9_leastSound_60 rfl hl (by decide) rfl (fun ls hl => ?_)
            refine lv_iload hx hb dX9_leastSound_61 (lv_at hl 1 rfl) ?_
            refine lv_iload hx hb dX9_leastSound_63 (lv_at hl 5 rfl) ?_
            refine lv_icmp_ge (tgt := 73) hx hb dX9_leastSound_65 (by decide) (fun c65_6 => ?_) (fun c65_6 => ?_)
            · skip
              refine lv_iload hx hb dX9_leastSound_73 (lv_at hl 5 rfl) ?_
              refine lv_istore (lv' := [(4, .int x4), (3, .int (nI v)), (6, .int x6), (0, .ref k0), (1, .int (nI nd)), (2, .int p1), (5, .int (nI j))]) hx hb dX9_leastSound_75 hl (by decide) rfl (fun ls hl => ?_)
              refine lv_iinc (v := (nI (j + 1))) (lv' := [(5, .int (nI (j + 1))), (4, .int x4), (3, .int (nI v)), (6, .int x6), (0, .ref k0), (1, .int (nI nd)), (2, .int p1)]) hx hb dX9_leastSound_77 hl (k := 6) rfl (nI_1 _) (by decide) rfl (fun ls hl => ?_)
              refine lv_goto (tgt := 10) hx hb dX9_leastSound_80 (by decide) ?_
              exact ih10 (j + 1) v _ (by omega) (by omega) (by omega) _ _ _ hP hD hS (lv_sub hl [4, 5, 6, 2, 1, 0] rfl)
            · skip
              refine lv_iload hx hb dX9_leastSound_68 (lv_at hl 1 rfl) ?_
              refine lv_goto (tgt := 75) hx hb dX9_leastSound_70 (by decide) ?_
              refine lv_istore (lv' := [(4, .int x6), (3, .int (nI v)), (6, .int x6), (0, .ref k0), (1, .int (nI nd)), (2, .int p1), (5, .int (nI j))]) hx hb dX9_leastSound_75 hl (by decide) rfl (fun ls hl => ?_)
              refine lv_iinc (v := (nI (j + 1))) (lv' := [(5, .int (nI (j + 1))), (4, .int x6), (3, .int (nI v)), (6, .int x6), (0, .ref k0), (1, .int (nI nd)), (2, .int p1)]) hx hb dX9_leastSound_77 hl (k := 6) rfl (nI_1 _) (by decide) rfl (fun ls hl => ?_)
              refine lv_goto (tgt := 10) hx hb dX9_leastSound_80 (by decide) ?_
              exact ih10 (j + 1) v _ (by omega) (by omega) (by omega) _ _ _ hP hD hS (lv_sub hl [4, 5, 6, 2, 1, 0] rfl)
          · skip
            refine lv_iload hx hb dX9_leastSound_54 (lv_at hl 6 rfl) ?_
            refine lv_goto (tgt := 60) hx hb dX9_leastSound_56 (by decide) ?_
            refine lv_istore_n (lv' := [(3, .int (nI j)), (6, .int x6), (0, .ref k0), (1, .int (nI nd)), (2, .int p1), (4, .int x4), (5, .int (nI j))]) hx hb dX9_leastSound_60 rfl hl (by decide) rfl (fun ls hl => ?_)
            refine lv_iload hx hb dX9_leastSound_61 (lv_at hl 1 rfl) ?_
            refine lv_iload hx hb dX9_leastSound_63 (lv_at hl 5 rfl) ?_
            refine lv_icmp_ge (tgt := 73) hx hb dX9_leastSound_65 (by decide) (fun c65_7 => ?_) (fun c65_7 => ?_)
            · skip
              refine lv_iload hx hb dX9_leastSound_73 (lv_at hl 5 rfl) ?_
              refine lv_istore (lv' := [(4, .int x4), (3, .int (nI j)), (6, .int x6), (0, .ref k0), (1, .int (nI nd)), (2, .int p1), (5, .int (nI j))]) hx hb dX9_leastSound_75 hl (by decide) rfl (fun ls hl => ?_)
              refine lv_iinc (v := (nI (j + 1))) (lv' := [(5, .int (nI (j + 1))), (4, .int x4), (3, .int (nI j)), (6, .int x6), (0, .ref k0), (1, .int (nI nd)), (2, .int p1)]) hx hb dX9_leastSound_77 hl (k := 6) rfl (nI_1 _) (by decide) rfl (fun ls hl => ?_)
              refine lv_goto (tgt := 10) hx hb dX9_leastSound_80 (by decide) ?_
              exact ih10 (j + 1) j _ (by omega) (by omega) (by omega) _ _ _ hP hD hS (lv_sub hl [4, 5, 6, 2, 1, 0] rfl)
            · skip
              refine lv_iload hx hb dX9_leastSound_68 (lv_at hl 1 rfl) ?_
              refine lv_goto (tgt := 75) hx hb dX9_leastSound_70 (by decide) ?_
              refine lv_istore (lv' := [(4, .int x6), (3, .int (nI j)), (6, .int x6), (0, .ref k0), (1, .int (nI nd)), (2, .int p1), (5, .int (nI j))]) hx hb dX9_leastSound_75 hl (by decide) rfl (fun ls hl => ?_)
              refine lv_iinc (v := (nI (j + 1))) (lv' := [(5, .int (nI (j + 1))), (4, .int x6), (3, .int (nI j)), (6, .int x6), (0, .ref k0), (1, .int (nI nd)), (2, .int p1)]) hx hb dX9_leastSound_77 hl (k := 6) rfl (nI_1 _) (by decide) rfl (fun ls hl => ?_)
              refine lv_goto (tgt := 10) hx hb dX9_leastSound_80 (by decide) ?_
              exact ih10 (j + 1) j _ (by omega) (by omega) (by omega) _ _ _ hP hD hS (lv_sub hl [4, 5, 6, 2, 1, 0] rfl)
        · skip
          refine lv_iconst (v := 0) hx hb dX9_leastSound_34 (by decide) ?_
          refine lv_goto (tgt := 44) hx hb dX9_leastSound_35 (by decide) ?_
          refine lv_iadd hx hb dX9_leastSound_44 ?_
          refine lv_topi (fun x6 ex6 => ?_)
          refine lv_istore (lv' := [(6, .int x6), (0, .ref k0), (1, .int (nI nd)), (2, .int p1), (3, .int (nI v)), (4, .int x4), (5, .int (nI j))]) hx hb dX9_leastSound_45 hl (by decide) rfl (fun ls hl => ?_)
          refine lv_iload hx hb dX9_leastSound_47 (lv_at hl 0 rfl) ?_
          refine lv_iload hx hb dX9_leastSound_49 (lv_at hl 5 rfl) ?_
          refine lv_icmp_ge (tgt := 59) hx hb dX9_leastSound_51 (by decide) (fun c51_8 => ?_) (fun c51_8 => ?_)
          · skip
            refine lv_iload_n hx hb dX9_leastSound_59 rfl (lv_at hl 4 rfl) ?_
            refine lv_istore_n (lv' := [(3, .int (nI v)), (6, .int x6), (0, .ref k0), (1, .int (nI nd)), (2, .int p1), (4, .int x4), (5, .int (nI j))]) hx hb dX9_leastSound_60 rfl hl (by decide) rfl (fun ls hl => ?_)
            refine lv_iload hx hb dX9_leastSound_61 (lv_at hl 1 rfl) ?_
            refine lv_iload hx hb dX9_leastSound_63 (lv_at hl 5 rfl) ?_
            refine lv_icmp_ge (tgt := 73) hx hb dX9_leastSound_65 (by decide) (fun c65_9 => ?_) (fun c65_9 => ?_)
            · skip
              refine lv_iload hx hb dX9_leastSound_73 (lv_at hl 5 rfl) ?_
              refine lv_istore (lv' := [(4, .int x4), (3, .int (nI v)), (6, .int x6), (0, .ref k0), (1, .int (nI nd)), (2, .int p1), (5, .int (nI j))]) hx hb dX9_leastSound_75 hl (by decide) rfl (fun ls hl => ?_)
              refine lv_iinc (v := (nI (j + 1))) (lv' := [(5, .int (nI (j + 1))), (4, .int x4), (3, .int (nI v)), (6, .int x6), (0, .ref k0), (1, .int (nI nd)), (2, .int p1)]) hx hb dX9_leastSound_77 hl (k := 6) rfl (nI_1 _) (by decide) rfl (fun ls hl => ?_)
              refine lv_goto (tgt := 10) hx hb dX9_leastSound_80 (by decide) ?_
              exact ih10 (j + 1) v _ (by omega) (by omega) (by omega) _ _ _ hP hD hS (lv_sub hl [4, 5, 6, 2, 1, 0] rfl)
            · skip
              refine lv_iload hx hb dX9_leastSound_68 (lv_at hl 1 rfl) ?_
              refine lv_goto (tgt := 75) hx hb dX9_leastSound_70 (by decide) ?_
              refine lv_istore (lv' := [(4, .int x6), (3, .int (nI v)), (6, .int x6), (0, .ref k0), (1, .int (nI nd)), (2, .int p1), (5, .int (nI j))]) hx hb dX9_leastSound_75 hl (by decide) rfl (fun ls hl => ?_)
              refine lv_iinc (v := (nI (j + 1))) (lv' := [(5, .int (nI (j + 1))), (4, .int x6), (3, .int (nI v)), (6, .int x6), (0, .ref k0), (1, .int (nI nd)), (2, .int p1)]) hx hb dX9_leastSound_77 hl (k := 6) rfl (nI_1 _) (by decide) rfl (fun ls hl => ?_)
              refine lv_goto (tgt := 10) hx hb dX9_leastSound_80 (by decide) ?_
              exact ih10 (j + 1) v _ (by omega) (by omega) (by omega) _ _ _ hP hD hS (lv_sub hl [4, 5, 6, 2, 1, 0] rfl)
          · skip
            refine lv_iload hx hb dX9_leastSound_54 (lv_at hl 6 rfl) ?_
            refine lv_goto (tgt := 60) hx hb dX9_leastSound_56 (by decide) ?_
            refine lv_istore_n (lv' := [(3, .int (nI j)), (6, .int x6), (0, .ref k0), (1, .int (nI nd)), (2, .int p1), (4, .int x4), (5, .int (nI j))]) hx hb dX9_leastSound_60 rfl hl (by decide) rfl (fun ls hl => ?_)
            refine lv_iload hx hb dX9_leastSound_61 (lv_at hl 1 rfl) ?_
            refine lv_iload hx hb dX9_leastSound_63 (lv_at hl 5 rfl) ?_
            refine lv_icmp_ge (tgt := 73) hx hb dX9_leastSound_65 (by decide) (fun c65_10 => ?_) (fun c65_10 => ?_)
            · skip
              refine lv_iload hx hb dX9_leastSound_73 (lv_at hl 5 rfl) ?_
              refine lv_istore (lv' := [(4, .int x4), (3, .int (nI j)), (6, .int x6), (0, .ref k0), (1, .int (nI nd)), (2, .int p1), (5, .int (nI j))]) hx hb dX9_leastSound_75 hl (by decide) rfl (fun ls hl => ?_)
              refine lv_iinc (v := (nI (j + 1))) (lv' := [(5, .int (nI (j + 1))), (4, .int x4), (3, .int (nI j)), (6, .int x6), (0, .ref k0), (1, .int (nI nd)), (2, .int p1)]) hx hb dX9_leastSound_77 hl (k := 6) rfl (nI_1 _) (by decide) rfl (fun ls hl => ?_)
              refine lv_goto (tgt := 10) hx hb dX9_leastSound_80 (by decide) ?_
              exact ih10 (j + 1) j _ (by omega) (by omega) (by omega) _ _ _ hP hD hS (lv_sub hl [4, 5, 6, 2, 1, 0] rfl)
            · skip
              refine lv_iload hx hb dX9_leastSound_68 (lv_at hl 1 rfl) ?_
              refine lv_goto (tgt := 75) hx hb dX9_leastSound_70 (by decide) ?_
              refine lv_istore (lv' := [(4, .int x6), (3, .int (nI j)), (6, .int x6), (0, .ref k0), (1, .int (nI nd)), (2, .int p1), (5, .int (nI j))]) hx hb dX9_leastSound_75 hl (by decide) rfl (fun ls hl => ?_)
              refine lv_iinc (v := (nI (j + 1))) (lv' := [(5, .int (nI (j + 1))), (4, .int x6), (3, .int (nI j)), (6, .int x6), (0, .ref k0), (1, .int (nI nd)), (2, .int p1)]) hx hb dX9_leastSound_77 hl (k := 6) rfl (nI_1 _) (by decide) rfl (fun ls hl => ?_)
              refine lv_goto (tgt := 10) hx hb dX9_leastSound_80 (by decide) ?_
              exact ih10 (j + 1) j _ (by omega) (by omega) (by omega) _ _ _ hP hD hS (lv_sub hl [4, 5, 6, 2, 1, 0] rfl)
  exact loop10 _ 0 0 9999 (Nat.zero_le 9) (by decide) (Nat.lt_succ_self _) _ _ _ hP hD hS (lv_sub hl [3, 4, 5, 2, 1, 0] rfl)
def po_X9_rebuild_g (g : GG) (k0 : Nat) (m0 : Nat) (s1 : Int32) (s2 : Int32) (s3 : Int32) (s4 : Int32) (s5 : Int32) (s6 : Int32) (m7 : Nat) (m8 : Nat) (m9 : Nat) (s10 : Int32) (s11 : Int32) (s12 : Int32) (m13 : Nat) (m14 : Nat) (m15 : Nat) (s16 : Int32) (m17 : Nat) (m18 : Nat) (m19 : Nat) (m20 : Nat) (m21 : Nat) (m22 : Nat) (m23 : Nat) (m24 : Nat) (m25 : Nat) (m26 : Nat) (m27 : Nat) (m28 : Nat) (s29 : Int32) (m30 : Nat) (s31 : Int32) (s32 : Int32) (s33 : Int32) (s34 : Int32) (s35 : Int32) (m36 : Nat) (m37 : Nat) (m38 : Nat) (m39 : Nat) (s40 : Int64) (fc : Nat → Int32) (fs : Nat → Int32) (fh : Nat → Int32) (t : Nat) : Int32 → va_W → Prop := fun (r : Int32) w => ∃ (gc : Nat → Int32) (gh : Nat → Int32), w = [(k0, .inr (9, [.ref m0, .int s1, .int s2, .int s3, .int s4, .int s5, .int s6, .ref m7, .ref m8, .ref m9, .int s10, .int s11, .int s12, .ref m13, .ref m14, .ref m15, .int s16, .ref m17, .ref m18, .ref m19, .ref m20, .ref m21, .ref m22, .ref m23, .ref m24, .ref m25, .ref m26, .ref m27, .ref m28, .int s29, .ref m30, .int s31, .int s32, .int s33, .int s34, .int s35, .ref m36, .ref m37, .ref m38, .ref m39, .long s40])), (m17, ai g 63 gc), (m18, ai g 7 gh), (m19, ai g 4 fs)] ∧ (rng 7 9 gh)
theorem q_X9_rebuild_g_f9 : ∀ w ∈ u_ws RX9 TX9 41, w ∈ wsX9_rebuild := by decide +kernel
theorem q_X9_rebuild_g_1 : (Cond.fieldLink RX9 34 "SoundLawsModel" "had" "[I") ∈ wsX9_rebuild := by decide +kernel
theorem q_X9_rebuild_g_2 : (Cond.fieldLink RX9 31 "SoundLawsModel" "costs" "[I") ∈ wsX9_rebuild := by decide +kernel
set_option maxHeartbeats 1500000 in
set_option maxRecDepth 100000 in
theorem c_X9_rebuild_g (l : Launch) (g : GG) (k0 : Nat) (m0 : Nat) (s1 : Int32) (s2 : Int32) (s3 : Int32) (s4 : Int32) (s5 : Int32) (s6 : Int32) (m7 : Nat) (m8 : Nat) (m9 : Nat) (s10 : Int32) (s11 : Int32) (s12 : Int32) (m13 : Nat) (m14 : Nat) (m15 : Nat) (s16 : Int32) (m17 : Nat) (m18 : Nat) (m19 : Nat) (m20 : Nat) (m21 : Nat) (m22 : Nat) (m23 : Nat) (m24 : Nat) (m25 : Nat) (m26 : Nat) (m27 : Nat) (m28 : Nat) (s29 : Int32) (m30 : Nat) (s31 : Int32) (s32 : Int32) (s33 : Int32) (s34 : Int32) (s35 : Int32) (m36 : Nat) (m37 : Nat) (m38 : Nat) (m39 : Nat) (s40 : Int64) (fc : Nat → Int32) (fs : Nat → Int32) (fh : Nat → Int32) (t : Nat) (ht : 2 ≤ t) (ht4 : t ≤ 4) (hh : rng 7 9 fh) (sz : Nat) : MetI l yX9_rebuild wsX9_rebuild ({ frames := 5, cells := 0, slots := 0, locals := 114 }) g [.ref k0, .int (nI t)] [(k0, .inr (9, [.ref m0, .int s1, .int s2, .int s3, .int s4, .int s5, .int s6, .ref m7, .ref m8, .ref m9, .int s10, .int s11, .int s12, .ref m13, .ref m14, .ref m15, .int s16, .ref m17, .ref m18, .ref m19, .ref m20, .ref m21, .ref m22, .ref m23, .ref m24, .ref m25, .ref m26, .ref m27, .ref m28, .int s29, .ref m30, .int s31, .int s32, .int s33, .int s34, .int s35, .ref m36, .ref m37, .ref m38, .ref m39, .long s40])), (m17, ai g 63 fc), (m18, ai g 7 fh), (m19, ai g 4 fs)] sz (po_X9_rebuild_g g k0 m0 s1 s2 s3 s4 s5 s6 m7 m8 m9 s10 s11 s12 m13 m14 m15 s16 m17 m18 m19 m20 m21 m22 m23 m24 m25 m26 m27 m28 s29 m30 s31 s32 s33 s34 s35 m36 m37 m38 m39 s40 fc fs fh t) 0 0 := by
  refine k_of (l := l) (y := yX9_rebuild) (ws := wsX9_rebuild) (rm := { frames := 5, cells := 0, slots := 0, locals := 114 }) (mc := 0) (ms := 0) (av := [.ref k0, .int (nI t)]) (g := g) (wc := [(k0, .inr (9, [.ref m0, .int s1, .int s2, .int s3, .int s4, .int s5, .int s6, .ref m7, .ref m8, .ref m9, .int s10, .int s11, .int s12, .ref m13, .ref m14, .ref m15, .int s16, .ref m17, .ref m18, .ref m19, .ref m20, .ref m21, .ref m22, .ref m23, .ref m24, .ref m25, .ref m26, .ref m27, .ref m28, .int s29, .ref m30, .int s31, .int s32, .int s33, .int s34, .int s35, .ref m36, .ref m37, .ref m38, .ref m39, .long s40])), (m17, ai g 63 fc), (m18, ai g 7 fh), (m19, ai g 4 fs)]) (Qc := fun A => va_Qi (po_X9_rebuild_g g k0 m0 s1 s2 s3 s4 s5 s6 m7 m8 m9 s10 s11 s12 m13 m14 m15 s16 m17 m18 m19 m20 m21 m22 m23 m24 m25 m26 m27 m28 s29 m30 s31 s32 s33 s34 s35 m36 m37 m38 m39 s40 fc fs fh t) (bk g A) A) (cc := cX9_rebuild) (maxL := 4) (ret := (some .int)) (by decide) rfl (Nat.le_of_ble_eq_true rfl) ?_ sz
  intro p e s m below meth c hx hb hr hts hown hlocks hnm hml A hA hE hZ hP hD hS ls hl
  have hown : s.vm.findClass RX9 = some m.cls := hown
  have hl : lv_has ls 4 [(0, .ref k0), (1, .int (nI t))] := hl
  refine lv_aload_n hx hb dX9_rebuild_0 rfl (lv_at hl 0 rfl) ?_
  refine lv_iload_n hx hb dX9_rebuild_1 rfl (lv_at hl 1 rfl) ?_
  refine k_cv (wr := [(m18, ai g 7 fh)]) hP hD hS hA [0, 1, 3] [2] rfl rfl (by decide) (by decide) (va_runV (As := [.int (nI t)]) (rest := []) ⟨hx, hb, hml, hown, hts⟩ (c_X9_layCosts_g l g k0 m0 s1 s2 s3 s4 s5 s6 m7 m8 m9 s10 s11 s12 m13 m14 m15 s16 m17 m18 m19 m20 m21 m22 m23 m24 m25 m26 m27 m28 s29 m30 s31 s32 s33 s34 s35 m36 m37 m38 m39 s40 fc fs t (by first | assumption | omega) (by first | assumption | omega) s.heap.size) (cwV 1 hts gX9_rebuild_X9_layCosts rfl rfl rfl (by decide +kernel) ⟨Nat.le_of_ble_eq_true rfl, Nat.le_of_ble_eq_true rfl⟩) (k_preV hE hZ hP hD hS hA [0, 1, 3] rfl (by decide) (va_recv hE.1 hP (ci := 9) (q0 := 0) rfl rfl)) rfl rfl hl.1 rfl (lv_room (Nat.le_of_ble_eq_true rfl)) dX9_rebuild_2 ⟨Nat.le_of_ble_eq_true rfl, Nat.le_of_ble_eq_true rfl⟩) (fun w1 H locs hw hP hD hS => ?_)
  obtain ⟨gc_2, rfl⟩ := hw
  have hP : va_P g.1 vwCl [(m18, ai g 7 fh), (k0, .inr (9, [.ref m0, .int s1, .int s2, .int s3, .int s4, .int s5, .int s6, .ref m7, .ref m8, .ref m9, .int s10, .int s11, .int s12, .ref m13, .ref m14, .ref m15, .int s16, .ref m17, .ref m18, .ref m19, .ref m20, .ref m21, .ref m22, .ref m23, .ref m24, .ref m25, .ref m26, .ref m27, .ref m28, .int s29, .ref m30, .int s31, .int s32, .int s33, .int s34, .int s35, .ref m36, .ref m37, .ref m38, .ref m39, .long s40])), (m17, ai g 63 gc_2), (m19, ai g 4 fs)] H := hP
  have hD : va_D A [(m18, ai g 7 fh), (k0, .inr (9, [.ref m0, .int s1, .int s2, .int s3, .int s4, .int s5, .int s6, .ref m7, .ref m8, .ref m9, .int s10, .int s11, .int s12, .ref m13, .ref m14, .ref m15, .int s16, .ref m17, .ref m18, .ref m19, .ref m20, .ref m21, .ref m22, .ref m23, .ref m24, .ref m25, .ref m26, .ref m27, .ref m28, .int s29, .ref m30, .int s31, .int s32, .int s33, .int s34, .int s35, .ref m36, .ref m37, .ref m38, .ref m39, .long s40])), (m17, ai g 63 gc_2), (m19, ai g 4 fs)] := hD
  refine lv_aload_n hx hb dX9_rebuild_5 rfl (lv_at hl 0 rfl) ?_
  refine lv_iload_n hx hb dX9_rebuild_6 rfl (lv_at hl 1 rfl) ?_
  refine k_ci (wr := [(m18, ai g 7 fh), (k0, .inr (9, [.ref m0, .int s1, .int s2, .int s3, .int s4, .int s5, .int s6, .ref m7, .ref m8, .ref m9, .int s10, .int s11, .int s12, .ref m13, .ref m14, .ref m15, .int s16, .ref m17, .ref m18, .ref m19, .ref m20, .ref m21, .ref m22, .ref m23, .ref m24, .ref m25, .ref m26, .ref m27, .ref m28, .int s29, .ref m30, .int s31, .int s32, .int s33, .int s34, .int s35, .ref m36, .ref m37, .ref m38, .ref m39, .long s40])), (m17, ai g 63 gc_2), (m19, ai g 4 fs)]) hP hD hS hA [] [0, 1, 2, 3] rfl rfl (by decide) (by decide) (va_runV (As := [.int (nI t)]) (rest := []) ⟨hx, hb, hml, hown, hts⟩ (c_X9_nodesBy_g l g k0 t (by first | assumption | omega) (by first | assumption | omega) H.size) (cwV 1 hts gX9_rebuild_X9_nodesBy rfl rfl rfl (by decide +kernel) ⟨Nat.le_of_ble_eq_true rfl, Nat.le_of_ble_eq_true rfl⟩) (k_preV hE hZ hP hD hS hA [] rfl (by decide) (va_recv hE.1 hP (ci := 9) (q0 := 1) rfl rfl)) rfl rfl hl.1 rfl (lv_room (Nat.le_of_ble_eq_true rfl)) dX9_rebuild_7 ⟨Nat.le_of_ble_eq_true rfl, Nat.le_of_ble_eq_true rfl⟩) (fun r_3 w1 H locs hw hP hD hS => ?_)
  obtain ⟨rfl, rfl⟩ := hw
  have hP : va_P g.1 vwCl [(m18, ai g 7 fh), (k0, .inr (9, [.ref m0, .int s1, .int s2, .int s3, .int s4, .int s5, .int s6, .ref m7, .ref m8, .ref m9, .int s10, .int s11, .int s12, .ref m13, .ref m14, .ref m15, .int s16, .ref m17, .ref m18, .ref m19, .ref m20, .ref m21, .ref m22, .ref m23, .ref m24, .ref m25, .ref m26, .ref m27, .ref m28, .int s29, .ref m30, .int s31, .int s32, .int s33, .int s34, .int s35, .ref m36, .ref m37, .ref m38, .ref m39, .long s40])), (m17, ai g 63 gc_2), (m19, ai g 4 fs)] H := hP
  have hD : va_D A [(m18, ai g 7 fh), (k0, .inr (9, [.ref m0, .int s1, .int s2, .int s3, .int s4, .int s5, .int s6, .ref m7, .ref m8, .ref m9, .int s10, .int s11, .int s12, .ref m13, .ref m14, .ref m15, .int s16, .ref m17, .ref m18, .ref m19, .ref m20, .ref m21, .ref m22, .ref m23, .ref m24, .ref m25, .ref m26, .ref m27, .ref m28, .int s29, .ref m30, .int s31, .int s32, .int s33, .int s34, .int s35, .ref m36, .ref m37, .ref m38, .ref m39, .long s40])), (m17, ai g 63 gc_2), (m19, ai g 4 fs)] := hD
  refine lv_iconst (v := 1) hx hb dX9_rebuild_10 (by decide) ?_
  refine lv_isub hx hb dX9_rebuild_11 ?_
  refine lv_topi (fun x_5 ex_5 => ?_)
  obtain rfl : x_5 = nI (2 * t - 1 - 1) := by rw [ex_5]; exact pk_sub (b := 1) (by omega)
  refine lv_istore_n (lv' := [(2, .int (nI (2 * t - 1 - 1))), (0, .ref k0), (1, .int (nI t))]) hx hb dX9_rebuild_12 rfl hl (by decide) rfl (fun ls hl => ?_)
  refine lv_aload_n hx hb dX9_rebuild_13 rfl (lv_at hl 1 rfl) ?_
  refine va_get (D := g.1) (ci := 9) (v := .ref m18) (C := RX9) (T := TX9) (N := 41) hx hb hts q_X9_rebuild_g_f9 hown hE.1 hP 1 rfl rfl 18 (by decide) (hts (.fieldLink RX9 34 "SoundLawsModel" "had" "[I") q_X9_rebuild_g_1) (fun _ h9 => h9) rfl dX9_rebuild_14 ?_
  refine lv_iload_n hx hb dX9_rebuild_17 rfl (lv_at hl 0 rfl) ?_
  refine lv_aload_n hx hb dX9_rebuild_18 rfl (lv_at hl 1 rfl) ?_
  refine lv_iload_n hx hb dX9_rebuild_19 rfl (lv_at hl 0 rfl) ?_
  refine lv_iconst (v := (-1)) hx hb dX9_rebuild_20 (by decide) ?_
  refine k_ci (wr := [(m18, ai g 7 fh), (m19, ai g 4 fs)]) hP hD hS hA [1, 2] [0, 3] rfl rfl (by decide) (by decide) (va_runV (As := [.int (nI (2 * t - 1 - 1)), .int (-1)]) (rest := [.int (nI (2 * t - 1 - 1)), .ref m18]) ⟨hx, hb, hml, hown, hts⟩ (c_X9_leastSound_g l g k0 m0 s1 s2 s3 s4 s5 s6 m7 m8 m9 s10 s11 s12 m13 m14 m15 s16 m17 m18 m19 m20 m21 m22 m23 m24 m25 m26 m27 m28 s29 m30 s31 s32 s33 s34 s35 m36 m37 m38 m39 s40 gc_2 (2 * t - 1 - 1) (-1) (by first | assumption | omega) H.size) (cwV 2 hts gX9_rebuild_X9_leastSound rfl rfl rfl (by decide +kernel) ⟨Nat.le_of_ble_eq_true rfl, Nat.le_of_ble_eq_true rfl⟩) (k_preV hE hZ hP hD hS hA [1, 2] rfl (by decide) (va_recv hE.1 hP (ci := 9) (q0 := 1) rfl rfl)) rfl rfl hl.1 rfl (lv_room (Nat.le_of_ble_eq_true rfl)) dX9_rebuild_21 ⟨Nat.le_of_ble_eq_true rfl, Nat.le_of_ble_eq_true rfl⟩) (fun r_6 w1 H locs hw hP hD hS => ?_)
  obtain ⟨rfl, hv_7⟩ := hw
  have hP : va_P g.1 vwCl [(m18, ai g 7 fh), (m19, ai g 4 fs), (k0, .inr (9, [.ref m0, .int s1, .int s2, .int s3, .int s4, .int s5, .int s6, .ref m7, .ref m8, .ref m9, .int s10, .int s11, .int s12, .ref m13, .ref m14, .ref m15, .int s16, .ref m17, .ref m18, .ref m19, .ref m20, .ref m21, .ref m22, .ref m23, .ref m24, .ref m25, .ref m26, .ref m27, .ref m28, .int s29, .ref m30, .int s31, .int s32, .int s33, .int s34, .int s35, .ref m36, .ref m37, .ref m38, .ref m39, .long s40])), (m17, ai g 63 gc_2)] H := hP
  have hD : va_D A [(m18, ai g 7 fh), (m19, ai g 4 fs), (k0, .inr (9, [.ref m0, .int s1, .int s2, .int s3, .int s4, .int s5, .int s6, .ref m7, .ref m8, .ref m9, .int s10, .int s11, .int s12, .ref m13, .ref m14, .ref m15, .int s16, .ref m17, .ref m18, .ref m19, .ref m20, .ref m21, .ref m22, .ref m23, .ref m24, .ref m25, .ref m26, .ref m27, .ref m28, .int s29, .ref m30, .int s31, .int s32, .int s33, .int s34, .int s35, .ref m36, .ref m37, .ref m38, .ref m39, .long s40])), (m17, ai g 63 gc_2)] := hD
  obtain ⟨w0, hw0, ew0⟩ := hv_7
  subst ew0
  refine k_ast (x := (nI w0)) (2 * t - 1 - 1) rfl (by omega) hx hb hE hP hD hS 0 rfl (by decide) dX9_rebuild_24 (fun H locs hP hD hS => ?_)
  have hP : va_P g.1 vwCl [(m18, ai g 7 (upd fh (2 * t - 1 - 1) (nI w0))), (m19, ai g 4 fs), (k0, .inr (9, [.ref m0, .int s1, .int s2, .int s3, .int s4, .int s5, .int s6, .ref m7, .ref m8, .ref m9, .int s10, .int s11, .int s12, .ref m13, .ref m14, .ref m15, .int s16, .ref m17, .ref m18, .ref m19, .ref m20, .ref m21, .ref m22, .ref m23, .ref m24, .ref m25, .ref m26, .ref m27, .ref m28, .int s29, .ref m30, .int s31, .int s32, .int s33, .int s34, .int s35, .ref m36, .ref m37, .ref m38, .ref m39, .long s40])), (m17, ai g 63 gc_2)] H := hP
  have hD : va_D A [(m18, ai g 7 (upd fh (2 * t - 1 - 1) (nI w0))), (m19, ai g 4 fs), (k0, .inr (9, [.ref m0, .int s1, .int s2, .int s3, .int s4, .int s5, .int s6, .ref m7, .ref m8, .ref m9, .int s10, .int s11, .int s12, .ref m13, .ref m14, .ref m15, .int s16, .ref m17, .ref m18, .ref m19, .ref m20, .ref m21, .ref m22, .ref m23, .ref m24, .ref m25, .ref m26, .ref m27, .ref m28, .int s29, .ref m30, .int s31, .int s32, .int s33, .int s34, .int s35, .ref m36, .ref m37, .ref m38, .ref m39, .long s40])), (m17, ai g 63 gc_2)] := hD
  refine lv_iload_n hx hb dX9_rebuild_25 rfl (lv_at hl 0 rfl) ?_
  refine lv_istore_n (lv' := [(3, .int (nI (2 * t - 1 - 1))), (2, .int (nI (2 * t - 1 - 1))), (0, .ref k0), (1, .int (nI t))]) hx hb dX9_rebuild_26 rfl hl (by decide) rfl (fun ls hl => ?_)
  have loop27 : ∀ (fu : Nat) (nd : Nat) (h1 : Nat → Int32), (hn1 : t - 1 ≤ nd) → (hn2 : nd ≤ 2 * t - 1 - 1) → (hh1 : rng 7 9 h1) → nd < fu → ∀ (H : Heap) (locs : List Loc) (ls : Array Slot), va_P g.1 vwCl [(m18, ai g 7 h1), (m19, ai g 4 fs), (k0, .inr (9, [.ref m0, .int s1, .int s2, .int s3, .int s4, .int s5, .int s6, .ref m7, .ref m8, .ref m9, .int s10, .int s11, .int s12, .ref m13, .ref m14, .ref m15, .int s16, .ref m17, .ref m18, .ref m19, .ref m20, .ref m21, .ref m22, .ref m23, .ref m24, .ref m25, .ref m26, .ref m27, .ref m28, .int s29, .ref m30, .int s31, .int s32, .int s33, .int s34, .int s35, .ref m36, .ref m37, .ref m38, .ref m39, .long s40])), (m17, ai g 63 gc_2)] H → va_D A [(m18, ai g 7 h1), (m19, ai g 4 fs), (k0, .inr (9, [.ref m0, .int s1, .int s2, .int s3, .int s4, .int s5, .int s6, .ref m7, .ref m8, .ref m9, .int s10, .int s11, .int s12, .ref m13, .ref m14, .ref m15, .int s16, .ref m17, .ref m18, .ref m19, .ref m20, .ref m21, .ref m22, .ref m23, .ref m24, .ref m25, .ref m26, .ref m27, .ref m28, .int s29, .ref m30, .int s31, .int s32, .int s33, .int s34, .int s35, .ref m36, .ref m37, .ref m38, .ref m39, .long s40])), (m17, ai g 63 gc_2)] → va_S A s.heap H locs → lv_has ls 4 [(0, .ref k0), (1, .int (nI t)), (2, .int (nI (2 * t - 1 - 1))), (3, .int (nI nd))] → W p l e ({ frames := 5, cells := 0, slots := 0, locals := 114 }) s m [.ref k0, .int (nI t)].toArray below meth c H locs 0 0 (MQ below (va_Qi (po_X9_rebuild_g g k0 m0 s1 s2 s3 s4 s5 s6 m7 m8 m9 s10 s11 s12 m13 m14 m15 s16 m17 m18 m19 m20 m21 m22 m23 m24 m25 m26 m27 m28 s29 m30 s31 s32 s33 s34 s35 m36 m37 m38 m39 s40 fc fs fh t) (bk g A) A) [.ref k0, .int (nI t)].toArray s 0 0 A) (F0 m 27 ls []) := by
    intro fu
    induction fu with
    | zero => intro nd h1 hn1 hn2 hh1 hfu; exact absurd hfu (Nat.not_lt_zero _)
    | succ fu ih =>
      intro nd h1 hn1 hn2 hh1 hfu H locs ls hP hD hS hl
      have ih27 := ih
      refine lv_iload_n hx hb dX9_rebuild_27 rfl (lv_at hl 3 rfl) ?_
      refine lv_iload_n hx hb dX9_rebuild_28 rfl (lv_at hl 1 rfl) ?_
      refine lv_icmp_lt (tgt := 88) hx hb dX9_rebuild_29 (by decide) (fun c29_8 => ?_) (fun c29_8 => ?_)
      · skip
        refine lv_aload_n hx hb dX9_rebuild_88 rfl (lv_at hl 0 rfl) ?_
        refine va_get (D := g.1) (ci := 9) (v := .ref m17) (C := RX9) (T := TX9) (N := 41) hx hb hts q_X9_rebuild_g_f9 hown hE.1 hP 2 rfl rfl 17 (by decide) (hts (.fieldLink RX9 31 "SoundLawsModel" "costs" "[I") q_X9_rebuild_g_2) (fun _ h9 => h9) rfl dX9_rebuild_89 ?_
        refine lv_bipush (v := 9) hx hb dX9_rebuild_92 (by decide) ?_
        refine lv_iload_n hx hb dX9_rebuild_94 rfl (lv_at hl 2 rfl) ?_
        refine lv_imul hx hb dX9_rebuild_95 ?_
        refine lv_aload_n hx hb dX9_rebuild_96 rfl (lv_at hl 0 rfl) ?_
        refine va_get (D := g.1) (ci := 9) (v := .ref m18) (C := RX9) (T := TX9) (N := 41) hx hb hts q_X9_rebuild_g_f9 hown hE.1 hP 2 rfl rfl 18 (by decide) (hts (.fieldLink RX9 34 "SoundLawsModel" "had" "[I") q_X9_rebuild_g_1) (fun _ h9 => h9) rfl dX9_rebuild_97 ?_
        refine lv_iload_n hx hb dX9_rebuild_100 rfl (lv_at hl 2 rfl) ?_
        refine k_ald (2 * t - 1 - 1) rfl (by omega) hx hb hE hP 0 rfl (by decide) dX9_rebuild_101 ?_
        obtain ⟨v9, hv9, ev9⟩ := hh1 (2 * t - 1 - 1) (by omega)
        refine lv_topi (fun x_9 ex_9 => ?_)
        obtain rfl : x_9 = nI v9 := by rw [ex_9]; exact ev9
        refine lv_iadd hx hb dX9_rebuild_102 ?_
        refine k_ald (9 * (2 * t - 1 - 1) + v9) (by rw [show (9 : Int32) = nI 9 from rfl, pk_mul, nI_add]) (by omega) hx hb hE hP 3 rfl (by decide) dX9_rebuild_103 ?_
        refine W.widen (k := 0) (n := 0) (Nat.le_of_ble_eq_true rfl) (Nat.le_of_ble_eq_true rfl) ?_
        have hP9 := hP.sub (ws' := [(k0, .inr (9, [.ref m0, .int s1, .int s2, .int s3, .int s4, .int s5, .int s6, .ref m7, .ref m8, .ref m9, .int s10, .int s11, .int s12, .ref m13, .ref m14, .ref m15, .int s16, .ref m17, .ref m18, .ref m19, .ref m20, .ref m21, .ref m22, .ref m23, .ref m24, .ref m25, .ref m26, .ref m27, .ref m28, .int s29, .ref m30, .int s31, .int s32, .int s33, .int s34, .int s35, .ref m36, .ref m37, .ref m38, .ref m39, .long s40])), (m17, ai g 63 gc_2), (m18, ai g 7 h1), (m19, ai g 4 fs)]) [2, 3, 0, 1] rfl
        have hD9 := hD.sub (ws' := [(k0, .inr (9, [.ref m0, .int s1, .int s2, .int s3, .int s4, .int s5, .int s6, .ref m7, .ref m8, .ref m9, .int s10, .int s11, .int s12, .ref m13, .ref m14, .ref m15, .int s16, .ref m17, .ref m18, .ref m19, .ref m20, .ref m21, .ref m22, .ref m23, .ref m24, .ref m25, .ref m26, .ref m27, .ref m28, .int s29, .ref m30, .int s31, .int s32, .int s33, .int s34, .int s35, .ref m36, .ref m37, .ref m38, .ref m39, .long s40])), (m17, ai g 63 gc_2), (m18, ai g 7 h1), (m19, ai g 4 fs)]) [2, 3, 0, 1] (by decide) rfl
        exact k_ri hx hb hr hlocks hS hP9 hD9 ⟨gc_2, h1, rfl, hh1⟩ dX9_rebuild_104
      · skip
        have hnt := ge_of_nlt (k := t) (n := nd) (by omega) (by omega) c29_8
        refine lv_aload_n hx hb dX9_rebuild_32 rfl (lv_at hl 0 rfl) ?_
        refine va_get (D := g.1) (ci := 9) (v := .ref m18) (C := RX9) (T := TX9) (N := 41) hx hb hts q_X9_rebuild_g_f9 hown hE.1 hP 2 rfl rfl 18 (by decide) (hts (.fieldLink RX9 34 "SoundLawsModel" "had" "[I") q_X9_rebuild_g_1) (fun _ h9 => h9) rfl dX9_rebuild_33 ?_
        refine lv_iload_n hx hb dX9_rebuild_36 rfl (lv_at hl 1 rfl) ?_
        refine lv_iload_n hx hb dX9_rebuild_37 rfl (lv_at hl 3 rfl) ?_
        refine k_ci (wr := [(m18, ai g 7 h1), (m19, ai g 4 fs), (k0, .inr (9, [.ref m0, .int s1, .int s2, .int s3, .int s4, .int s5, .int s6, .ref m7, .ref m8, .ref m9, .int s10, .int s11, .int s12, .ref m13, .ref m14, .ref m15, .int s16, .ref m17, .ref m18, .ref m19, .ref m20, .ref m21, .ref m22, .ref m23, .ref m24, .ref m25, .ref m26, .ref m27, .ref m28, .int s29, .ref m30, .int s31, .int s32, .int s33, .int s34, .int s35, .ref m36, .ref m37, .ref m38, .ref m39, .long s40])), (m17, ai g 63 gc_2)]) hP hD hS hA [] [0, 1, 2, 3] rfl rfl (by decide) (by decide) (va_runS (As := [.int (nI t), .int (nI nd)]) (rest := [.ref m18]) ⟨hx, hb, hml, hown, hts⟩ (c_X9_belowFirst_g l g t nd  H.size) (va_cwS 2 hts gX9_rebuild_X9_belowFirst rfl rfl rfl (by decide +kernel) ⟨Nat.le_of_ble_eq_true rfl, Nat.le_of_ble_eq_true rfl⟩) (k_preS hE hZ hP hD hS hA [] rfl (by decide)) rfl rfl hl.1 rfl (lv_room (Nat.le_of_ble_eq_true rfl)) dX9_rebuild_38 ⟨Nat.le_of_ble_eq_true rfl, Nat.le_of_ble_eq_true rfl⟩) (fun r_10 w1 H locs hw hP hD hS => ?_)
        obtain ⟨rfl, hb_11⟩ := hw
        have hP : va_P g.1 vwCl [(m18, ai g 7 h1), (m19, ai g 4 fs), (k0, .inr (9, [.ref m0, .int s1, .int s2, .int s3, .int s4, .int s5, .int s6, .ref m7, .ref m8, .ref m9, .int s10, .int s11, .int s12, .ref m13, .ref m14, .ref m15, .int s16, .ref m17, .ref m18, .ref m19, .ref m20, .ref m21, .ref m22, .ref m23, .ref m24, .ref m25, .ref m26, .ref m27, .ref m28, .int s29, .ref m30, .int s31, .int s32, .int s33, .int s34, .int s35, .ref m36, .ref m37, .ref m38, .ref m39, .long s40])), (m17, ai g 63 gc_2)] H := hP
        have hD : va_D A [(m18, ai g 7 h1), (m19, ai g 4 fs), (k0, .inr (9, [.ref m0, .int s1, .int s2, .int s3, .int s4, .int s5, .int s6, .ref m7, .ref m8, .ref m9, .int s10, .int s11, .int s12, .ref m13, .ref m14, .ref m15, .int s16, .ref m17, .ref m18, .ref m19, .ref m20, .ref m21, .ref m22, .ref m23, .ref m24, .ref m25, .ref m26, .ref m27, .ref m28, .int s29, .ref m30, .int s31, .int s32, .int s33, .int s34, .int s35, .ref m36, .ref m37, .ref m38, .ref m39, .long s40])), (m17, ai g 63 gc_2)] := hD
        obtain ⟨b1, hb1, eb1⟩ := hb_11
        subst eb1
        refine lv_aload_n hx hb dX9_rebuild_41 rfl (lv_at hl 0 rfl) ?_
        refine lv_iload_n hx hb dX9_rebuild_42 rfl (lv_at hl 1 rfl) ?_
        refine lv_iload_n hx hb dX9_rebuild_43 rfl (lv_at hl 3 rfl) ?_
        refine k_ci (wr := [(m18, ai g 7 h1), (m19, ai g 4 fs), (k0, .inr (9, [.ref m0, .int s1, .int s2, .int s3, .int s4, .int s5, .int s6, .ref m7, .ref m8, .ref m9, .int s10, .int s11, .int s12, .ref m13, .ref m14, .ref m15, .int s16, .ref m17, .ref m18, .ref m19, .ref m20, .ref m21, .ref m22, .ref m23, .ref m24, .ref m25, .ref m26, .ref m27, .ref m28, .int s29, .ref m30, .int s31, .int s32, .int s33, .int s34, .int s35, .ref m36, .ref m37, .ref m38, .ref m39, .long s40])), (m17, ai g 63 gc_2)]) hP hD hS hA [] [0, 1, 2, 3] rfl rfl (by decide) (by decide) (va_runS (As := [.int (nI t), .int (nI nd)]) (rest := [.ref k0, .int (nI b1), .ref m18]) ⟨hx, hb, hml, hown, hts⟩ (c_X9_belowFirst_g l g t nd  H.size) (va_cwS 2 hts gX9_rebuild_X9_belowFirst rfl rfl rfl (by decide +kernel) ⟨Nat.le_of_ble_eq_true rfl, Nat.le_of_ble_eq_true rfl⟩) (k_preS hE hZ hP hD hS hA [] rfl (by decide)) rfl rfl hl.1 rfl (lv_room (Nat.le_of_ble_eq_true rfl)) dX9_rebuild_44 ⟨Nat.le_of_ble_eq_true rfl, Nat.le_of_ble_eq_true rfl⟩) (fun r_12 w1 H locs hw hP hD hS => ?_)
        obtain ⟨rfl, hb_13⟩ := hw
        have hP : va_P g.1 vwCl [(m18, ai g 7 h1), (m19, ai g 4 fs), (k0, .inr (9, [.ref m0, .int s1, .int s2, .int s3, .int s4, .int s5, .int s6, .ref m7, .ref m8, .ref m9, .int s10, .int s11, .int s12, .ref m13, .ref m14, .ref m15, .int s16, .ref m17, .ref m18, .ref m19, .ref m20, .ref m21, .ref m22, .ref m23, .ref m24, .ref m25, .ref m26, .ref m27, .ref m28, .int s29, .ref m30, .int s31, .int s32, .int s33, .int s34, .int s35, .ref m36, .ref m37, .ref m38, .ref m39, .long s40])), (m17, ai g 63 gc_2)] H := hP
        have hD : va_D A [(m18, ai g 7 h1), (m19, ai g 4 fs), (k0, .inr (9, [.ref m0, .int s1, .int s2, .int s3, .int s4, .int s5, .int s6, .ref m7, .ref m8, .ref m9, .int s10, .int s11, .int s12, .ref m13, .ref m14, .ref m15, .int s16, .ref m17, .ref m18, .ref m19, .ref m20, .ref m21, .ref m22, .ref m23, .ref m24, .ref m25, .ref m26, .ref m27, .ref m28, .int s29, .ref m30, .int s31, .int s32, .int s33, .int s34, .int s35, .ref m36, .ref m37, .ref m38, .ref m39, .long s40])), (m17, ai g 63 gc_2)] := hD
        obtain ⟨b2, hb2, eb2⟩ := hb_13
        subst eb2
        refine lv_aload_n hx hb dX9_rebuild_47 rfl (lv_at hl 0 rfl) ?_
        refine va_get (D := g.1) (ci := 9) (v := .ref m18) (C := RX9) (T := TX9) (N := 41) hx hb hts q_X9_rebuild_g_f9 hown hE.1 hP 2 rfl rfl 18 (by decide) (hts (.fieldLink RX9 34 "SoundLawsModel" "had" "[I") q_X9_rebuild_g_1) (fun _ h9 => h9) rfl dX9_rebuild_48 ?_
        refine lv_iload_n hx hb dX9_rebuild_51 rfl (lv_at hl 3 rfl) ?_
        refine k_ald nd rfl (by omega) hx hb hE hP 0 rfl (by decide) dX9_rebuild_52 ?_
        refine k_ci (wr := [(m18, ai g 7 h1), (m19, ai g 4 fs)]) hP hD hS hA [2, 3] [0, 1] rfl rfl (by decide) (by decide) (va_runV (As := [.int (nI b2), .int (h1 nd)]) (rest := [.int (nI b1), .ref m18]) ⟨hx, hb, hml, hown, hts⟩ (c_X9_leastSound_g l g k0 m0 s1 s2 s3 s4 s5 s6 m7 m8 m9 s10 s11 s12 m13 m14 m15 s16 m17 m18 m19 m20 m21 m22 m23 m24 m25 m26 m27 m28 s29 m30 s31 s32 s33 s34 s35 m36 m37 m38 m39 s40 gc_2 b2 (h1 nd) (by first | assumption | omega) H.size) (cwV 2 hts gX9_rebuild_X9_leastSound rfl rfl rfl (by decide +kernel) ⟨Nat.le_of_ble_eq_true rfl, Nat.le_of_ble_eq_true rfl⟩) (k_preV hE hZ hP hD hS hA [2, 3] rfl (by decide) (va_recv hE.1 hP (ci := 9) (q0 := 2) rfl rfl)) rfl rfl hl.1 rfl (lv_room (Nat.le_of_ble_eq_true rfl)) dX9_rebuild_53 ⟨Nat.le_of_ble_eq_true rfl, Nat.le_of_ble_eq_true rfl⟩) (fun r_14 w1 H locs hw hP hD hS => ?_)
        obtain ⟨rfl, hv_15⟩ := hw
        have hP : va_P g.1 vwCl [(m18, ai g 7 h1), (m19, ai g 4 fs), (k0, .inr (9, [.ref m0, .int s1, .int s2, .int s3, .int s4, .int s5, .int s6, .ref m7, .ref m8, .ref m9, .int s10, .int s11, .int s12, .ref m13, .ref m14, .ref m15, .int s16, .ref m17, .ref m18, .ref m19, .ref m20, .ref m21, .ref m22, .ref m23, .ref m24, .ref m25, .ref m26, .ref m27, .ref m28, .int s29, .ref m30, .int s31, .int s32, .int s33, .int s34, .int s35, .ref m36, .ref m37, .ref m38, .ref m39, .long s40])), (m17, ai g 63 gc_2)] H := hP
        have hD : va_D A [(m18, ai g 7 h1), (m19, ai g 4 fs), (k0, .inr (9, [.ref m0, .int s1, .int s2, .int s3, .int s4, .int s5, .int s6, .ref m7, .ref m8, .ref m9, .int s10, .int s11, .int s12, .ref m13, .ref m14, .ref m15, .int s16, .ref m17, .ref m18, .ref m19, .ref m20, .ref m21, .ref m22, .ref m23, .ref m24, .ref m25, .ref m26, .ref m27, .ref m28, .int s29, .ref m30, .int s31, .int s32, .int s33, .int s34, .int s35, .ref m36, .ref m37, .ref m38, .ref m39, .long s40])), (m17, ai g 63 gc_2)] := hD
        obtain ⟨w1, hw1, ew1⟩ := hv_15
        subst ew1
        refine k_ast (x := (nI w1)) b1 rfl (by omega) hx hb hE hP hD hS 0 rfl (by decide) dX9_rebuild_56 (fun H locs hP hD hS => ?_)
        have hP : va_P g.1 vwCl [(m18, ai g 7 (upd h1 b1 (nI w1))), (m19, ai g 4 fs), (k0, .inr (9, [.ref m0, .int s1, .int s2, .int s3, .int s4, .int s5, .int s6, .ref m7, .ref m8, .ref m9, .int s10, .int s11, .int s12, .ref m13, .ref m14, .ref m15, .int s16, .ref m17, .ref m18, .ref m19, .ref m20, .ref m21, .ref m22, .ref m23, .ref m24, .ref m25, .ref m26, .ref m27, .ref m28, .int s29, .ref m30, .int s31, .int s32, .int s33, .int s34, .int s35, .ref m36, .ref m37, .ref m38, .ref m39, .long s40])), (m17, ai g 63 gc_2)] H := hP
        have hD : va_D A [(m18, ai g 7 (upd h1 b1 (nI w1))), (m19, ai g 4 fs), (k0, .inr (9, [.ref m0, .int s1, .int s2, .int s3, .int s4, .int s5, .int s6, .ref m7, .ref m8, .ref m9, .int s10, .int s11, .int s12, .ref m13, .ref m14, .ref m15, .int s16, .ref m17, .ref m18, .ref m19, .ref m20, .ref m21, .ref m22, .ref m23, .ref m24, .ref m25, .ref m26, .ref m27, .ref m28, .int s29, .ref m30, .int s31, .int s32, .int s33, .int s34, .int s35, .ref m36, .ref m37, .ref m38, .ref m39, .long s40])), (m17, ai g 63 gc_2)] := hD
        refine lv_aload_n hx hb dX9_rebuild_57 rfl (lv_at hl 0 rfl) ?_
        refine va_get (D := g.1) (ci := 9) (v := .ref m18) (C := RX9) (T := TX9) (N := 41) hx hb hts q_X9_rebuild_g_f9 hown hE.1 hP 2 rfl rfl 18 (by decide) (hts (.fieldLink RX9 34 "SoundLawsModel" "had" "[I") q_X9_rebuild_g_1) (fun _ h9 => h9) rfl dX9_rebuild_58 ?_
        refine lv_iload_n hx hb dX9_rebuild_61 rfl (lv_at hl 1 rfl) ?_
        refine lv_iload_n hx hb dX9_rebuild_62 rfl (lv_at hl 3 rfl) ?_
        refine k_ci (wr := [(m18, ai g 7 (upd h1 b1 (nI w1))), (m19, ai g 4 fs), (k0, .inr (9, [.ref m0, .int s1, .int s2, .int s3, .int s4, .int s5, .int s6, .ref m7, .ref m8, .ref m9, .int s10, .int s11, .int s12, .ref m13, .ref m14, .ref m15, .int s16, .ref m17, .ref m18, .ref m19, .ref m20, .ref m21, .ref m22, .ref m23, .ref m24, .ref m25, .ref m26, .ref m27, .ref m28, .int s29, .ref m30, .int s31, .int s32, .int s33, .int s34, .int s35, .ref m36, .ref m37, .ref m38, .ref m39, .long s40])), (m17, ai g 63 gc_2)]) hP hD hS hA [] [0, 1, 2, 3] rfl rfl (by decide) (by decide) (va_runS (As := [.int (nI t), .int (nI nd)]) (rest := [.ref m18]) ⟨hx, hb, hml, hown, hts⟩ (c_X9_belowSecond_g l g t nd  H.size) (va_cwS 2 hts gX9_rebuild_X9_belowSecond rfl rfl rfl (by decide +kernel) ⟨Nat.le_of_ble_eq_true rfl, Nat.le_of_ble_eq_true rfl⟩) (k_preS hE hZ hP hD hS hA [] rfl (by decide)) rfl rfl hl.1 rfl (lv_room (Nat.le_of_ble_eq_true rfl)) dX9_rebuild_63 ⟨Nat.le_of_ble_eq_true rfl, Nat.le_of_ble_eq_true rfl⟩) (fun r_16 w1 H locs hw hP hD hS => ?_)
        obtain ⟨rfl, hb_17⟩ := hw
        have hP : va_P g.1 vwCl [(m18, ai g 7 (upd h1 b1 (nI w1))), (m19, ai g 4 fs), (k0, .inr (9, [.ref m0, .int s1, .int s2, .int s3, .int s4, .int s5, .int s6, .ref m7, .ref m8, .ref m9, .int s10, .int s11, .int s12, .ref m13, .ref m14, .ref m15, .int s16, .ref m17, .ref m18, .ref m19, .ref m20, .ref m21, .ref m22, .ref m23, .ref m24, .ref m25, .ref m26, .ref m27, .ref m28, .int s29, .ref m30, .int s31, .int s32, .int s33, .int s34, .int s35, .ref m36, .ref m37, .ref m38, .ref m39, .long s40])), (m17, ai g 63 gc_2)] H := hP
        have hD : va_D A [(m18, ai g 7 (upd h1 b1 (nI w1))), (m19, ai g 4 fs), (k0, .inr (9, [.ref m0, .int s1, .int s2, .int s3, .int s4, .int s5, .int s6, .ref m7, .ref m8, .ref m9, .int s10, .int s11, .int s12, .ref m13, .ref m14, .ref m15, .int s16, .ref m17, .ref m18, .ref m19, .ref m20, .ref m21, .ref m22, .ref m23, .ref m24, .ref m25, .ref m26, .ref m27, .ref m28, .int s29, .ref m30, .int s31, .int s32, .int s33, .int s34, .int s35, .ref m36, .ref m37, .ref m38, .ref m39, .long s40])), (m17, ai g 63 gc_2)] := hD
        obtain ⟨b3, hb3, eb3⟩ := hb_17
        subst eb3
        refine lv_aload_n hx hb dX9_rebuild_66 rfl (lv_at hl 0 rfl) ?_
        refine lv_iload_n hx hb dX9_rebuild_67 rfl (lv_at hl 1 rfl) ?_
        refine lv_iload_n hx hb dX9_rebuild_68 rfl (lv_at hl 3 rfl) ?_
        refine k_ci (wr := [(m18, ai g 7 (upd h1 b1 (nI w1))), (m19, ai g 4 fs), (k0, .inr (9, [.ref m0, .int s1, .int s2, .int s3, .int s4, .int s5, .int s6, .ref m7, .ref m8, .ref m9, .int s10, .int s11, .int s12, .ref m13, .ref m14, .ref m15, .int s16, .ref m17, .ref m18, .ref m19, .ref m20, .ref m21, .ref m22, .ref m23, .ref m24, .ref m25, .ref m26, .ref m27, .ref m28, .int s29, .ref m30, .int s31, .int s32, .int s33, .int s34, .int s35, .ref m36, .ref m37, .ref m38, .ref m39, .long s40])), (m17, ai g 63 gc_2)]) hP hD hS hA [] [0, 1, 2, 3] rfl rfl (by decide) (by decide) (va_runS (As := [.int (nI t), .int (nI nd)]) (rest := [.ref k0, .int (nI b3), .ref m18]) ⟨hx, hb, hml, hown, hts⟩ (c_X9_belowSecond_g l g t nd  H.size) (va_cwS 2 hts gX9_rebuild_X9_belowSecond rfl rfl rfl (by decide +kernel) ⟨Nat.le_of_ble_eq_true rfl, Nat.le_of_ble_eq_true rfl⟩) (k_preS hE hZ hP hD hS hA [] rfl (by decide)) rfl rfl hl.1 rfl (lv_room (Nat.le_of_ble_eq_true rfl)) dX9_rebuild_69 ⟨Nat.le_of_ble_eq_true rfl, Nat.le_of_ble_eq_true rfl⟩) (fun r_18 w1 H locs hw hP hD hS => ?_)
        obtain ⟨rfl, hb_19⟩ := hw
        have hP : va_P g.1 vwCl [(m18, ai g 7 (upd h1 b1 (nI w1))), (m19, ai g 4 fs), (k0, .inr (9, [.ref m0, .int s1, .int s2, .int s3, .int s4, .int s5, .int s6, .ref m7, .ref m8, .ref m9, .int s10, .int s11, .int s12, .ref m13, .ref m14, .ref m15, .int s16, .ref m17, .ref m18, .ref m19, .ref m20, .ref m21, .ref m22, .ref m23, .ref m24, .ref m25, .ref m26, .ref m27, .ref m28, .int s29, .ref m30, .int s31, .int s32, .int s33, .int s34, .int s35, .ref m36, .ref m37, .ref m38, .ref m39, .long s40])), (m17, ai g 63 gc_2)] H := hP
        have hD : va_D A [(m18, ai g 7 (upd h1 b1 (nI w1))), (m19, ai g 4 fs), (k0, .inr (9, [.ref m0, .int s1, .int s2, .int s3, .int s4, .int s5, .int s6, .ref m7, .ref m8, .ref m9, .int s10, .int s11, .int s12, .ref m13, .ref m14, .ref m15, .int s16, .ref m17, .ref m18, .ref m19, .ref m20, .ref m21, .ref m22, .ref m23, .ref m24, .ref m25, .ref m26, .ref m27, .ref m28, .int s29, .ref m30, .int s31, .int s32, .int s33, .int s34, .int s35, .ref m36, .ref m37, .ref m38, .ref m39, .long s40])), (m17, ai g 63 gc_2)] := hD
        obtain ⟨b4, hb4, eb4⟩ := hb_19
        subst eb4
        refine lv_aload_n hx hb dX9_rebuild_72 rfl (lv_at hl 0 rfl) ?_
        refine va_get (D := g.1) (ci := 9) (v := .ref m18) (C := RX9) (T := TX9) (N := 41) hx hb hts q_X9_rebuild_g_f9 hown hE.1 hP 2 rfl rfl 18 (by decide) (hts (.fieldLink RX9 34 "SoundLawsModel" "had" "[I") q_X9_rebuild_g_1) (fun _ h9 => h9) rfl dX9_rebuild_73 ?_
        refine lv_iload_n hx hb dX9_rebuild_76 rfl (lv_at hl 3 rfl) ?_
        refine k_ald nd rfl (by omega) hx hb hE hP 0 rfl (by decide) dX9_rebuild_77 ?_
        refine k_ci (wr := [(m18, ai g 7 (upd h1 b1 (nI w1))), (m19, ai g 4 fs)]) hP hD hS hA [2, 3] [0, 1] rfl rfl (by decide) (by decide) (va_runV (As := [.int (nI b4), .int ((upd h1 b1 (nI w1)) nd)]) (rest := [.int (nI b3), .ref m18]) ⟨hx, hb, hml, hown, hts⟩ (c_X9_leastSound_g l g k0 m0 s1 s2 s3 s4 s5 s6 m7 m8 m9 s10 s11 s12 m13 m14 m15 s16 m17 m18 m19 m20 m21 m22 m23 m24 m25 m26 m27 m28 s29 m30 s31 s32 s33 s34 s35 m36 m37 m38 m39 s40 gc_2 b4 ((upd h1 b1 (nI w1)) nd) (by first | assumption | omega) H.size) (cwV 2 hts gX9_rebuild_X9_leastSound rfl rfl rfl (by decide +kernel) ⟨Nat.le_of_ble_eq_true rfl, Nat.le_of_ble_eq_true rfl⟩) (k_preV hE hZ hP hD hS hA [2, 3] rfl (by decide) (va_recv hE.1 hP (ci := 9) (q0 := 2) rfl rfl)) rfl rfl hl.1 rfl (lv_room (Nat.le_of_ble_eq_true rfl)) dX9_rebuild_78 ⟨Nat.le_of_ble_eq_true rfl, Nat.le_of_ble_eq_true rfl⟩) (fun r_20 w1 H locs hw hP hD hS => ?_)
        obtain ⟨rfl, hv_21⟩ := hw
        have hP : va_P g.1 vwCl [(m18, ai g 7 (upd h1 b1 (nI w1))), (m19, ai g 4 fs), (k0, .inr (9, [.ref m0, .int s1, .int s2, .int s3, .int s4, .int s5, .int s6, .ref m7, .ref m8, .ref m9, .int s10, .int s11, .int s12, .ref m13, .ref m14, .ref m15, .int s16, .ref m17, .ref m18, .ref m19, .ref m20, .ref m21, .ref m22, .ref m23, .ref m24, .ref m25, .ref m26, .ref m27, .ref m28, .int s29, .ref m30, .int s31, .int s32, .int s33, .int s34, .int s35, .ref m36, .ref m37, .ref m38, .ref m39, .long s40])), (m17, ai g 63 gc_2)] H := hP
        have hD : va_D A [(m18, ai g 7 (upd h1 b1 (nI w1))), (m19, ai g 4 fs), (k0, .inr (9, [.ref m0, .int s1, .int s2, .int s3, .int s4, .int s5, .int s6, .ref m7, .ref m8, .ref m9, .int s10, .int s11, .int s12, .ref m13, .ref m14, .ref m15, .int s16, .ref m17, .ref m18, .ref m19, .ref m20, .ref m21, .ref m22, .ref m23, .ref m24, .ref m25, .ref m26, .ref m27, .ref m28, .int s29, .ref m30, .int s31, .int s32, .int s33, .int s34, .int s35, .ref m36, .ref m37, .ref m38, .ref m39, .long s40])), (m17, ai g 63 gc_2)] := hD
        obtain ⟨w2, hw2, ew2⟩ := hv_21
        subst ew2
        refine k_ast (x := (nI w2)) b3 rfl (by omega) hx hb hE hP hD hS 0 rfl (by decide) dX9_rebuild_81 (fun H locs hP hD hS => ?_)
        have hP : va_P g.1 vwCl [(m18, ai g 7 (upd (upd h1 b1 (nI w1)) b3 (nI w2))), (m19, ai g 4 fs), (k0, .inr (9, [.ref m0, .int s1, .int s2, .int s3, .int s4, .int s5, .int s6, .ref m7, .ref m8, .ref m9, .int s10, .int s11, .int s12, .ref m13, .ref m14, .ref m15, .int s16, .ref m17, .ref m18, .ref m19, .ref m20, .ref m21, .ref m22, .ref m23, .ref m24, .ref m25, .ref m26, .ref m27, .ref m28, .int s29, .ref m30, .int s31, .int s32, .int s33, .int s34, .int s35, .ref m36, .ref m37, .ref m38, .ref m39, .long s40])), (m17, ai g 63 gc_2)] H := hP
        have hD : va_D A [(m18, ai g 7 (upd (upd h1 b1 (nI w1)) b3 (nI w2))), (m19, ai g 4 fs), (k0, .inr (9, [.ref m0, .int s1, .int s2, .int s3, .int s4, .int s5, .int s6, .ref m7, .ref m8, .ref m9, .int s10, .int s11, .int s12, .ref m13, .ref m14, .ref m15, .int s16, .ref m17, .ref m18, .ref m19, .ref m20, .ref m21, .ref m22, .ref m23, .ref m24, .ref m25, .ref m26, .ref m27, .ref m28, .int s29, .ref m30, .int s31, .int s32, .int s33, .int s34, .int s35, .ref m36, .ref m37, .ref m38, .ref m39, .long s40])), (m17, ai g 63 gc_2)] := hD
        refine lv_iinc (v := (nI (nd - 1))) (lv' := [(3, .int (nI (nd - 1))), (0, .ref k0), (1, .int (nI t)), (2, .int (nI (2 * t - 1 - 1)))]) hx hb dX9_rebuild_82 hl (k := 3) rfl (nI_m1 (by omega)) (by decide) rfl (fun ls hl => ?_)
        refine lv_goto (tgt := 27) hx hb dX9_rebuild_85 (by decide) ?_
        exact ih27 (nd - 1) _ (by omega) (by omega) (rng_upd (rng_upd hh1 hw1) hw2) (by omega) _ _ _ hP hD hS (lv_sub hl [1, 2, 3, 0] rfl)
  exact loop27 _ (2 * t - 1 - 1) _ (by omega) (Nat.le_refl _) (rng_upd hh hw0) (Nat.lt_succ_self _) _ _ _ hP hD hS (lv_sub hl [2, 3, 1, 0] rfl)

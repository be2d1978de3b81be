def po_X9_weightBy_g (g : GG) (p1 : Int32) : Int32 → va_W → Prop := fun (r : Int32) w => w = []
set_option maxHeartbeats 1500000 in
set_option maxRecDepth 100000 in
theorem c_X9_weightBy_g (l : Launch) (g : GG) (p1 : Int32)  (sz : Nat) : MetI l yX9_weightBy wsX9_weightBy ({ frames := 0, cells := 0, slots := 0, locals := 0 }) g [.int p1] [] sz (po_X9_weightBy_g g p1) 0 0 := by
  refine k_of (l := l) (y := yX9_weightBy) (ws := wsX9_weightBy) (rm := { frames := 0, cells := 0, slots := 0, locals := 0 }) (mc := 0) (ms := 0) (av := [.int p1]) (g := g) (wc := []) (Qc := fun A => va_Qi (po_X9_weightBy_g g p1) (bk g A) A) (cc := cX9_weightBy) (maxL := 1) (ret := (some .int)) (by decide) rfl (Nat.le_of_ble_eq_true rfl) ?_ sz
  intro p e s m below meth c hx hb hr hts hown hlocks hnm hml A hA hE hZ hP hD hS ls hl
  have hown : s.vm.findClass RX9 = some m.cls := hown
  have hl : lv_has ls 1 [(0, .int p1)] := hl
  refine lv_iload_n hx hb dX9_weightBy_0 rfl (lv_at hl 0 rfl) ?_
  refine lv_if_ne (tgt := 8) hx hb dX9_weightBy_1 (by decide) (fun c1_1 => ?_) (fun c1_1 => ?_)
  · skip
    refine lv_iload_n hx hb dX9_weightBy_8 rfl (lv_at hl 0 rfl) ?_
    refine lv_iconst (v := 4) hx hb dX9_weightBy_9 (by decide) ?_
    refine lv_icmp_ne (tgt := 17) hx hb dX9_weightBy_10 (by decide) (fun c10_2 => ?_) (fun c10_2 => ?_)
    · skip
      refine lv_iconst (v := 0) hx hb dX9_weightBy_17 (by decide) ?_
      refine W.widen (k := 0) (n := 0) (Nat.le_of_ble_eq_true rfl) (Nat.le_of_ble_eq_true rfl) ?_
      exact k_ri hx hb hr hlocks hS hP hD rfl dX9_weightBy_18
    · skip
      refine lv_iconst (v := 2) hx hb dX9_weightBy_13 (by decide) ?_
      refine lv_goto (tgt := 18) hx hb dX9_weightBy_14 (by decide) ?_
      refine W.widen (k := 0) (n := 0) (Nat.le_of_ble_eq_true rfl) (Nat.le_of_ble_eq_true rfl) ?_
      exact k_ri hx hb hr hlocks hS hP hD rfl dX9_weightBy_18
  · skip
    refine lv_iconst (v := 1) hx hb dX9_weightBy_4 (by decide) ?_
    refine lv_goto (tgt := 18) hx hb dX9_weightBy_5 (by decide) ?_
    refine W.widen (k := 0) (n := 0) (Nat.le_of_ble_eq_true rfl) (Nat.le_of_ble_eq_true rfl) ?_
    exact k_ri hx hb hr hlocks hS hP hD rfl dX9_weightBy_18
def po_X9_oldSound_g (g : GG) (k0 : Nat) (m0 : Nat) (s1 : Int32) (s2 : Int32) (s3 : Int32) (s4 : Int32) (s5 : Int32) (s6 : Int32) (m7 : Nat) (m8 : Nat) (m9 : Nat) (s10 : Int32) (s12 : Int32) (m13 : Nat) (m14 : Nat) (m15 : Nat) (s16 : Int32) (m17 : Nat) (m18 : Nat) (m19 : Nat) (m20 : Nat) (m21 : Nat) (m22 : Nat) (m23 : Nat) (m24 : Nat) (m25 : Nat) (m26 : Nat) (m27 : Nat) (m28 : Nat) (s29 : Int32) (m30 : Nat) (s31 : Int32) (s32 : Int32) (s33 : Int32) (s34 : Int32) (s35 : Int32) (m36 : Nat) (m37 : Nat) (m38 : Nat) (m39 : Nat) (s40 : Int64) (t : Nat) (Rb : Nat → Int32) (k : Nat) (n : Nat) : Int32 → va_W → Prop := fun (r : Int32) w => w = [(k0, .inr (9, [.ref m0, .int s1, .int s2, .int s3, .int s4, .int s5, .int s6, .ref m7, .ref m8, .ref m9, .int s10, .int (nI t), .int s12, .ref m13, .ref m14, .ref m15, .int s16, .ref m17, .ref m18, .ref m19, .ref m20, .ref m21, .ref m22, .ref m23, .ref m24, .ref m25, .ref m26, .ref m27, .ref m28, .int s29, .ref m30, .int s31, .int s32, .int s33, .int s34, .int s35, .ref m36, .ref m37, .ref m38, .ref m39, .long s40])), (m20, ai g 168 Rb)] ∧ (Rb (28 * k + 7 * n + (2 * t - 2)) = r)
theorem q_X9_oldSound_g_f9 : ∀ w ∈ u_ws RX9 TX9 41, w ∈ wsX9_oldSound := by decide +kernel
theorem q_X9_oldSound_g_1 : (Cond.fieldLink RX9 40 "SoundLawsModel" "rebuilt" "[I") ∈ wsX9_oldSound := by decide +kernel
theorem q_X9_oldSound_g_2 : (Cond.fieldLink RX9 150 "SoundLawsModel" "tongues" "I") ∈ wsX9_oldSound := by decide +kernel
set_option maxHeartbeats 1500000 in
set_option maxRecDepth 100000 in
theorem c_X9_oldSound_g (l : Launch) (g : GG) (k0 : Nat) (m0 : Nat) (s1 : Int32) (s2 : Int32) (s3 : Int32) (s4 : Int32) (s5 : Int32) (s6 : Int32) (m7 : Nat) (m8 : Nat) (m9 : Nat) (s10 : Int32) (s12 : Int32) (m13 : Nat) (m14 : Nat) (m15 : Nat) (s16 : Int32) (m17 : Nat) (m18 : Nat) (m19 : Nat) (m20 : Nat) (m21 : Nat) (m22 : Nat) (m23 : Nat) (m24 : Nat) (m25 : Nat) (m26 : Nat) (m27 : Nat) (m28 : Nat) (s29 : Int32) (m30 : Nat) (s31 : Int32) (s32 : Int32) (s33 : Int32) (s34 : Int32) (s35 : Int32) (m36 : Nat) (m37 : Nat) (m38 : Nat) (m39 : Nat) (s40 : Int64) (t : Nat) (Rb : Nat → Int32) (k : Nat) (n : Nat) (ht : 2 ≤ t) (ht4 : t ≤ 4) (hk : k < 6) (hn : n < 4) (sz : Nat) : MetI l yX9_oldSound wsX9_oldSound ({ frames := 1, cells := 0, slots := 0, locals := 21 }) g [.ref k0, .int (nI k), .int (nI n)] [(k0, .inr (9, [.ref m0, .int s1, .int s2, .int s3, .int s4, .int s5, .int s6, .ref m7, .ref m8, .ref m9, .int s10, .int (nI t), .int s12, .ref m13, .ref m14, .ref m15, .int s16, .ref m17, .ref m18, .ref m19, .ref m20, .ref m21, .ref m22, .ref m23, .ref m24, .ref m25, .ref m26, .ref m27, .ref m28, .int s29, .ref m30, .int s31, .int s32, .int s33, .int s34, .int s35, .ref m36, .ref m37, .ref m38, .ref m39, .long s40])), (m20, ai g 168 Rb)] sz (po_X9_oldSound_g g k0 m0 s1 s2 s3 s4 s5 s6 m7 m8 m9 s10 s12 m13 m14 m15 s16 m17 m18 m19 m20 m21 m22 m23 m24 m25 m26 m27 m28 s29 m30 s31 s32 s33 s34 s35 m36 m37 m38 m39 s40 t Rb k n) 0 0 := by
  refine k_of (l := l) (y := yX9_oldSound) (ws := wsX9_oldSound) (rm := { frames := 1, cells := 0, slots := 0, locals := 21 }) (mc := 0) (ms := 0) (av := [.ref k0, .int (nI k), .int (nI n)]) (g := g) (wc := [(k0, .inr (9, [.ref m0, .int s1, .int s2, .int s3, .int s4, .int s5, .int s6, .ref m7, .ref m8, .ref m9, .int s10, .int (nI t), .int s12, .ref m13, .ref m14, .ref m15, .int s16, .ref m17, .ref m18, .ref m19, .ref m20, .ref m21, .ref m22, .ref m23, .ref m24, .ref m25, .ref m26, .ref m27, .ref m28, .int s29, .ref m30, .int s31, .int s32, .int s33, .int s34, .int s35, .ref m36, .ref m37, .ref m38, .ref m39, .long s40])), (m20, ai g 168 Rb)]) (Qc := fun A => va_Qi (po_X9_oldSound_g g k0 m0 s1 s2 s3 s4 s5 s6 m7 m8 m9 s10 s12 m13 m14 m15 s16 m17 m18 m19 m20 m21 m22 m23 m24 m25 m26 m27 m28 s29 m30 s31 s32 s33 s34 s35 m36 m37 m38 m39 s40 t Rb k n) (bk g A) A) (cc := cX9_oldSound) (maxL := 3) (ret := (some .int)) (by decide) rfl (Nat.le_of_ble_eq_true rfl) ?_ sz
  intro p e s m below meth c hx hb hr hts hown hlocks hnm hml A hA hE hZ hP hD hS ls hl
  have hown : s.vm.findClass RX9 = some m.cls := hown
  have hl : lv_has ls 3 [(0, .ref k0), (1, .int (nI k)), (2, .int (nI n))] := hl
  refine lv_aload_n hx hb dX9_oldSound_0 rfl (lv_at hl 0 rfl) ?_
  refine va_get (D := g.1) (ci := 9) (v := .ref m20) (C := RX9) (T := TX9) (N := 41) hx hb hts q_X9_oldSound_g_f9 hown hE.1 hP 0 rfl rfl 20 (by decide) (hts (.fieldLink RX9 40 "SoundLawsModel" "rebuilt" "[I") q_X9_oldSound_g_1) (fun _ h9 => h9) rfl dX9_oldSound_1 ?_
  refine lv_bipush (v := 28) hx hb dX9_oldSound_4 (by decide) ?_
  refine lv_iload_n hx hb dX9_oldSound_6 rfl (lv_at hl 1 rfl) ?_
  refine lv_imul hx hb dX9_oldSound_7 ?_
  refine lv_bipush (v := 7) hx hb dX9_oldSound_8 (by decide) ?_
  refine lv_iload_n hx hb dX9_oldSound_10 rfl (lv_at hl 2 rfl) ?_
  refine lv_imul hx hb dX9_oldSound_11 ?_
  refine lv_iadd hx hb dX9_oldSound_12 ?_
  refine lv_aload_n hx hb dX9_oldSound_13 rfl (lv_at hl 0 rfl) ?_
  refine lv_aload_n hx hb dX9_oldSound_14 rfl (lv_at hl 0 rfl) ?_
  refine va_get (D := g.1) (ci := 9) (v := .int (nI t)) (C := RX9) (T := TX9) (N := 41) hx hb hts q_X9_oldSound_g_f9 hown hE.1 hP 0 rfl rfl 11 (by decide) (hts (.fieldLink RX9 150 "SoundLawsModel" "tongues" "I") q_X9_oldSound_g_2) (fun _ h9 => h9) rfl dX9_oldSound_15 ?_
  refine k_ci (wr := [(k0, .inr (9, [.ref m0, .int s1, .int s2, .int s3, .int s4, .int s5, .int s6, .ref m7, .ref m8, .ref m9, .int s10, .int (nI t), .int s12, .ref m13, .ref m14, .ref m15, .int s16, .ref m17, .ref m18, .ref m19, .ref m20, .ref m21, .ref m22, .ref m23, .ref m24, .ref m25, .ref m26, .ref m27, .ref m28, .int s29, .ref m30, .int s31, .int s32, .int s33, .int s34, .int s35, .ref m36, .ref m37, .ref m38, .ref m39, .long s40])), (m20, ai g 168 Rb)]) hP hD hS hA [] [0, 1] rfl rfl (by decide) (by decide) (va_runV (As := [.int (nI t)]) (rest := [.int ((28 * (nI k)) + (7 * (nI n))), .ref m20]) ⟨hx, hb, hml, hown, hts⟩ (c_X9_nodesBy_g l g k0 t (by first | assumption | omega) (by first | assumption | omega) s.heap.size) (cwV 1 hts gX9_oldSound_X9_nodesBy rfl rfl rfl (by decide +kernel) ⟨Nat.le_of_ble_eq_true rfl, Nat.le_of_ble_eq_true rfl⟩) (k_preV hE hZ hP hD hS hA [] rfl (by decide) (va_recv hE.1 hP (ci := 9) (q0 := 0) rfl rfl)) rfl rfl hl.1 rfl (lv_room (Nat.le_of_ble_eq_true rfl)) dX9_oldSound_18 ⟨Nat.le_of_ble_eq_true rfl, Nat.le_of_ble_eq_true rfl⟩) (fun r_1 w1 H locs hw hP hD hS => ?_)
  obtain ⟨rfl, rfl⟩ := hw
  have hP : va_P g.1 vwCl [(k0, .inr (9, [.ref m0, .int s1, .int s2, .int s3, .int s4, .int s5, .int s6, .ref m7, .ref m8, .ref m9, .int s10, .int (nI t), .int s12, .ref m13, .ref m14, .ref m15, .int s16, .ref m17, .ref m18, .ref m19, .ref m20, .ref m21, .ref m22, .ref m23, .ref m24, .ref m25, .ref m26, .ref m27, .ref m28, .int s29, .ref m30, .int s31, .int s32, .int s33, .int s34, .int s35, .ref m36, .ref m37, .ref m38, .ref m39, .long s40])), (m20, ai g 168 Rb)] H := hP
  have hD : va_D A [(k0, .inr (9, [.ref m0, .int s1, .int s2, .int s3, .int s4, .int s5, .int s6, .ref m7, .ref m8, .ref m9, .int s10, .int (nI t), .int s12, .ref m13, .ref m14, .ref m15, .int s16, .ref m17, .ref m18, .ref m19, .ref m20, .ref m21, .ref m22, .ref m23, .ref m24, .ref m25, .ref m26, .ref m27, .ref m28, .int s29, .ref m30, .int s31, .int s32, .int s33, .int s34, .int s35, .ref m36, .ref m37, .ref m38, .ref m39, .long s40])), (m20, ai g 168 Rb)] := hD
  refine lv_iadd hx hb dX9_oldSound_21 ?_
  refine lv_iconst (v := 1) hx hb dX9_oldSound_22 (by decide) ?_
  refine lv_isub hx hb dX9_oldSound_23 ?_
  refine lv_topi (fun x_3 ex_3 => ?_)
  obtain rfl : x_3 = nI (28 * k + 7 * n + (2 * t - 2)) := by rw [ex_3]; rw [show (28 : Int32) = nI 28 from rfl, show (7 : Int32) = nI 7 from rfl, pk_mul, pk_mul, nI_add, nI_add, show (1 : Int32) = nI 1 from rfl, pk_sub (by omega)]; congr 1; omega
  refine k_ald (28 * k + 7 * n + (2 * t - 2)) rfl (by omega) hx hb hE hP 1 rfl (by decide) dX9_oldSound_24 ?_
  refine W.widen (k := 0) (n := 0) (Nat.le_of_ble_eq_true rfl) (Nat.le_of_ble_eq_true rfl) ?_
  exact k_ri hx hb hr hlocks hS hP hD ⟨rfl, rfl⟩ dX9_oldSound_25
def po_X9_layTally_g (g : GG) (k0 : Nat) (m0 : Nat) (s1 : Int32) (s2 : Int32) (s3 : Int32) (s4 : Int32) (s5 : Int32) (s6 : Int32) (m7 : Nat) (m8 : Nat) (m9 : Nat) (s12 : Int32) (m13 : Nat) (m14 : Nat) (m15 : Nat) (s16 : Int32) (m17 : Nat) (m18 : Nat) (m19 : Nat) (m20 : Nat) (m21 : Nat) (m22 : Nat) (m23 : Nat) (m24 : Nat) (m25 : Nat) (m26 : Nat) (m27 : Nat) (m28 : Nat) (s29 : Int32) (m30 : Nat) (s31 : Int32) (s32 : Int32) (s33 : Int32) (s34 : Int32) (s35 : Int32) (m36 : Nat) (m37 : Nat) (m38 : Nat) (m39 : Nat) (s40 : Int64) (z : Nat) (t : Nat) (K : Nat → Int32) (L : Nat → Int32) (V : Nat → Int32) (Rb : Nat → Int32) (Ty : Nat → Int32) (u : Nat) (p1 : Int32) (p2 : Int32) : va_W → Prop := fun w => ∃ (Ty2 : Nat → Int32), w = [(k0, .inr (9, [.ref m0, .int s1, .int s2, .int s3, .int s4, .int s5, .int s6, .ref m7, .ref m8, .ref m9, .int (nI z), .int (nI t), .int s12, .ref m13, .ref m14, .ref m15, .int s16, .ref m17, .ref m18, .ref m19, .ref m20, .ref m21, .ref m22, .ref m23, .ref m24, .ref m25, .ref m26, .ref m27, .ref m28, .int s29, .ref m30, .int s31, .int s32, .int s33, .int s34, .int s35, .ref m36, .ref m37, .ref m38, .ref m39, .long s40])), (m13, ai g 6 K), (m14, ai g 6 L), (m15, ai g 96 V), (m20, ai g 168 Rb), (m25, ai g 9 Ty2)]
theorem q_X9_layTally_g_f9 : ∀ w ∈ u_ws RX9 TX9 41, w ∈ wsX9_layTally := by decide +kernel
theorem q_X9_layTally_g_1 : (Cond.fieldLink RX9 147 "SoundLawsModel" "sets" "I") ∈ wsX9_layTally := by decide +kernel
theorem q_X9_layTally_g_2 : (Cond.fieldLink RX9 22 "SoundLawsModel" "kinds" "[I") ∈ wsX9_layTally := by decide +kernel
theorem q_X9_layTally_g_3 : (Cond.fieldLink RX9 25 "SoundLawsModel" "longs" "[I") ∈ wsX9_layTally := by decide +kernel
theorem q_X9_layTally_g_4 : (Cond.fieldLink RX9 55 "SoundLawsModel" "tally" "[I") ∈ wsX9_layTally := by decide +kernel
theorem q_X9_layTally_g_5 : (Cond.fieldLink RX9 28 "SoundLawsModel" "words" "[I") ∈ wsX9_layTally := by decide +kernel
set_option maxHeartbeats 1500000 in
set_option maxRecDepth 100000 in
theorem c_X9_layTally_g (l : Launch) (g : GG) (k0 : Nat) (m0 : Nat) (s1 : Int32) (s2 : Int32) (s3 : Int32) (s4 : Int32) (s5 : Int32) (s6 : Int32) (m7 : Nat) (m8 : Nat) (m9 : Nat) (s12 : Int32) (m13 : Nat) (m14 : Nat) (m15 : Nat) (s16 : Int32) (m17 : Nat) (m18 : Nat) (m19 : Nat) (m20 : Nat) (m21 : Nat) (m22 : Nat) (m23 : Nat) (m24 : Nat) (m25 : Nat) (m26 : Nat) (m27 : Nat) (m28 : Nat) (s29 : Int32) (m30 : Nat) (s31 : Int32) (s32 : Int32) (s33 : Int32) (s34 : Int32) (s35 : Int32) (m36 : Nat) (m37 : Nat) (m38 : Nat) (m39 : Nat) (s40 : Int64) (z : Nat) (t : Nat) (K : Nat → Int32) (L : Nat → Int32) (V : Nat → Int32) (Rb : Nat → Int32) (Ty : Nat → Int32) (u : Nat) (p1 : Int32) (p2 : Int32) (hg : gst z t K L V) (hu : u < t) (sz : Nat) : MetV l yX9_layTally wsX9_layTally ({ frames := 2, cells := 0, slots := 0, locals := 43 }) g [.ref k0, .int (nI u), .int p1, .int p2] [(k0, .inr (9, [.ref m0, .int s1, .int s2, .int s3, .int s4, .int s5, .int s6, .ref m7, .ref m8, .ref m9, .int (nI z), .int (nI t), .int s12, .ref m13, .ref m14, .ref m15, .int s16, .ref m17, .ref m18, .ref m19, .ref m20, .ref m21, .ref m22, .ref m23, .ref m24, .ref m25, .ref m26, .ref m27, .ref m28, .int s29, .ref m30, .int s31, .int s32, .int s33, .int s34, .int s35, .ref m36, .ref m37, .ref m38, .ref m39, .long s40])), (m13, ai g 6 K), (m14, ai g 6 L), (m15, ai g 96 V), (m20, ai g 168 Rb), (m25, ai g 9 Ty)] sz (po_X9_layTally_g g k0 m0 s1 s2 s3 s4 s5 s6 m7 m8 m9 s12 m13 m14 m15 s16 m17 m18 m19 m20 m21 m22 m23 m24 m25 m26 m27 m28 s29 m30 s31 s32 s33 s34 s35 m36 m37 m38 m39 s40 z t K L V Rb Ty u p1 p2) 0 0 := by
  refine k_of (l := l) (y := yX9_layTally) (ws := wsX9_layTally) (rm := { frames := 2, cells := 0, slots := 0, locals := 43 }) (mc := 0) (ms := 0) (av := [.ref k0, .int (nI u), .int p1, .int p2]) (g := g) (wc := [(k0, .inr (9, [.ref m0, .int s1, .int s2, .int s3, .int s4, .int s5, .int s6, .ref m7, .ref m8, .ref m9, .int (nI z), .int (nI t), .int s12, .ref m13, .ref m14, .ref m15, .int s16, .ref m17, .ref m18, .ref m19, .ref m20, .ref m21, .ref m22, .ref m23, .ref m24, .ref m25, .ref m26, .ref m27, .ref m28, .int s29, .ref m30, .int s31, .int s32, .int s33, .int s34, .int s35, .ref m36, .ref m37, .ref m38, .ref m39, .long s40])), (m13, ai g 6 K), (m14, ai g 6 L), (m15, ai g 96 V), (m20, ai g 168 Rb), (m25, ai g 9 Ty)]) (Qc := fun A => va_Qv (po_X9_layTally_g g k0 m0 s1 s2 s3 s4 s5 s6 m7 m8 m9 s12 m13 m14 m15 s16 m17 m18 m19 m20 m21 m22 m23 m24 m25 m26 m27 m28 s29 m30 s31 s32 s33 s34 s35 m36 m37 m38 m39 s40 z t K L V Rb Ty u p1 p2) (bk g A) A) (cc := cX9_layTally) (maxL := 7) (ret := none) (by decide) rfl (Nat.le_of_ble_eq_true rfl) ?_ sz
  intro p e s m below meth c hx hb hr hts hown hlocks hnm hml A hA hE hZ hP hD hS ls hl
  have hown : s.vm.findClass RX9 = some m.cls := hown
  have hl : lv_has ls 7 [(0, .ref k0), (1, .int (nI u)), (2, .int p1), (3, .int p2)] := hl
  obtain ⟨hz, hzt, ht4, hK, hL, hV⟩ := id hg
  refine lv_iconst (v := 0) hx hb dX9_layTally_0 (by decide) ?_
  refine lv_istore (lv' := [(4, .int 0), (0, .ref k0), (1, .int (nI u)), (2, .int p1), (3, .int p2)]) hx hb dX9_layTally_1 hl (by decide) rfl (fun ls hl => ?_)
  have loop3 : ∀ (fu : Nat) (j : Nat) (T1 : Nat → Int32), (hj : j ≤ 9) → 9 - j < fu → ∀ (H : Heap) (locs : List Loc) (ls : Array Slot), va_P g.1 vwCl [(k0, .inr (9, [.ref m0, .int s1, .int s2, .int s3, .int s4, .int s5, .int s6, .ref m7, .ref m8, .ref m9, .int (nI z), .int (nI t), .int s12, .ref m13, .ref m14, .ref m15, .int s16, .ref m17, .ref m18, .ref m19, .ref m20, .ref m21, .ref m22, .ref m23, .ref m24, .ref m25, .ref m26, .ref m27, .ref m28, .int s29, .ref m30, .int s31, .int s32, .int s33, .int s34, .int s35, .ref m36, .ref m37, .ref m38, .ref m39, .long s40])), (m13, ai g 6 K), (m14, ai g 6 L), (m15, ai g 96 V), (m20, ai g 168 Rb), (m25, ai g 9 T1)] H → va_D A [(k0, .inr (9, [.ref m0, .int s1, .int s2, .int s3, .int s4, .int s5, .int s6, .ref m7, .ref m8, .ref m9, .int (nI z), .int (nI t), .int s12, .ref m13, .ref m14, .ref m15, .int s16, .ref m17, .ref m18, .ref m19, .ref m20, .ref m21, .ref m22, .ref m23, .ref m24, .ref m25, .ref m26, .ref m27, .ref m28, .int s29, .ref m30, .int s31, .int s32, .int s33, .int s34, .int s35, .ref m36, .ref m37, .ref m38, .ref m39, .long s40])), (m13, ai g 6 K), (m14, ai g 6 L), (m15, ai g 96 V), (m20, ai g 168 Rb), (m25, ai g 9 T1)] → va_S A s.heap H locs → lv_has ls 7 [(0, .ref k0), (1, .int (nI u)), (2, .int p1), (3, .int p2), (4, .int (nI j))] → W p l e ({ frames := 2, cells := 0, slots := 0, locals := 43 }) s m [.ref k0, .int (nI u), .int p1, .int p2].toArray below meth c H locs 0 0 (MQ below (va_Qv (po_X9_layTally_g g k0 m0 s1 s2 s3 s4 s5 s6 m7 m8 m9 s12 m13 m14 m15 s16 m17 m18 m19 m20 m21 m22 m23 m24 m25 m26 m27 m28 s29 m30 s31 s32 s33 s34 s35 m36 m37 m38 m39 s40 z t K L V Rb Ty u p1 p2) (bk g A) A) [.ref k0, .int (nI u), .int p1, .int p2].toArray s 0 0 A) (F0 m 3 ls []) := by
    intro fu
    induction fu with
    | zero => intro j T1 hj hfu; exact absurd hfu (Nat.not_lt_zero _)
    | succ fu ih =>
      intro j T1 hj hfu H locs ls hP hD hS hl
      have ih3 := ih
      refine lv_iload hx hb dX9_layTally_3 (lv_at hl 4 rfl) ?_
      refine lv_bipush (v := 9) hx hb dX9_layTally_5 (by decide) ?_
      refine lv_icmp_ge (tgt := 24) hx hb dX9_layTally_7 (by decide) (fun c7_1 => ?_) (fun c7_1 => ?_)
      · skip
        refine lv_iconst (v := 0) hx hb dX9_layTally_24 (by decide) ?_
        refine lv_istore (lv' := [(4, .int 0), (0, .ref k0), (1, .int (nI u)), (2, .int p1), (3, .int p2)]) hx hb dX9_layTally_25 hl (by decide) rfl (fun ls hl => ?_)
        have loop27 : ∀ (fu : Nat) (a : Nat) (T2 : Nat → Int32), (ha : a ≤ z) → z - a < fu → ∀ (H : Heap) (locs : List Loc) (ls : Array Slot), va_P g.1 vwCl [(k0, .inr (9, [.ref m0, .int s1, .int s2, .int s3, .int s4, .int s5, .int s6, .ref m7, .ref m8, .ref m9, .int (nI z), .int (nI t), .int s12, .ref m13, .ref m14, .ref m15, .int s16, .ref m17, .ref m18, .ref m19, .ref m20, .ref m21, .ref m22, .ref m23, .ref m24, .ref m25, .ref m26, .ref m27, .ref m28, .int s29, .ref m30, .int s31, .int s32, .int s33, .int s34, .int s35, .ref m36, .ref m37, .ref m38, .ref m39, .long s40])), (m13, ai g 6 K), (m14, ai g 6 L), (m15, ai g 96 V), (m20, ai g 168 Rb), (m25, ai g 9 T2)] H → va_D A [(k0, .inr (9, [.ref m0, .int s1, .int s2, .int s3, .int s4, .int s5, .int s6, .ref m7, .ref m8, .ref m9, .int (nI z), .int (nI t), .int s12, .ref m13, .ref m14, .ref m15, .int s16, .ref m17, .ref m18, .ref m19, .ref m20, .ref m21, .ref m22, .ref m23, .ref m24, .ref m25, .ref m26, .ref m27, .ref m28, .int s29, .ref m30, .int s31, .int s32, .int s33, .int s34, .int s35, .ref m36, .ref m37, .ref m38, .ref m39, .long s40])), (m13, ai g 6 K), (m14, ai g 6 L), (m15, ai g 96 V), (m20, ai g 168 Rb), (m25, ai g 9 T2)] → va_S A s.heap H locs → lv_has ls 7 [(0, .ref k0), (1, .int (nI u)), (2, .int p1), (3, .int p2), (4, .int (nI a))] → W p l e ({ frames := 2, cells := 0, slots := 0, locals := 43 }) s m [.ref k0, .int (nI u), .int p1, .int p2].toArray below meth c H locs 0 0 (MQ below (va_Qv (po_X9_layTally_g g k0 m0 s1 s2 s3 s4 s5 s6 m7 m8 m9 s12 m13 m14 m15 s16 m17 m18 m19 m20 m21 m22 m23 m24 m25 m26 m27 m28 s29 m30 s31 s32 s33 s34 s35 m36 m37 m38 m39 s40 z t K L V Rb Ty u p1 p2) (bk g A) A) [.ref k0, .int (nI u), .int p1, .int p2].toArray s 0 0 A) (F0 m 27 ls []) := by
          intro fu
          induction fu with
          | zero => intro a T2 ha hfu; exact absurd hfu (Nat.not_lt_zero _)
          | succ fu ih =>
            intro a T2 ha hfu H locs ls hP hD hS hl
            have ih27 := ih
            refine lv_iload hx hb dX9_layTally_27 (lv_at hl 4 rfl) ?_
            refine lv_aload_n hx hb dX9_layTally_29 rfl (lv_at hl 0 rfl) ?_
            refine va_get (D := g.1) (ci := 9) (v := .int (nI z)) (C := RX9) (T := TX9) (N := 41) hx hb hts q_X9_layTally_g_f9 hown hE.1 hP 0 rfl rfl 10 (by decide) (hts (.fieldLink RX9 147 "SoundLawsModel" "sets" "I") q_X9_layTally_g_1) (fun _ h9 => h9) rfl dX9_layTally_30 ?_
            refine lv_icmp_ge (tgt := 142) hx hb dX9_layTally_33 (by decide) (fun c33_2 => ?_) (fun c33_2 => ?_)
            · skip
              refine W.widen (k := 0) (n := 0) (Nat.le_of_ble_eq_true rfl) (Nat.le_of_ble_eq_true rfl) ?_
              exact k_rv hx hb hr hlocks hS hP hD ⟨T2, rfl⟩ dX9_layTally_142
            · skip
              have ha9 := lt_of_nle (k := z) (n := a) (by omega) (by omega) c33_2
              have ht := hzt (by omega)
              refine lv_aload_n hx hb dX9_layTally_36 rfl (lv_at hl 0 rfl) ?_
              refine va_get (D := g.1) (ci := 9) (v := .ref m13) (C := RX9) (T := TX9) (N := 41) hx hb hts q_X9_layTally_g_f9 hown hE.1 hP 0 rfl rfl 13 (by decide) (hts (.fieldLink RX9 22 "SoundLawsModel" "kinds" "[I") q_X9_layTally_g_2) (fun _ h9 => h9) rfl dX9_layTally_37 ?_
              refine lv_iload hx hb dX9_layTally_40 (lv_at hl 4 rfl) ?_
              refine k_ald a rfl (by omega) hx hb hE hP 1 rfl (by decide) dX9_layTally_42 ?_
              refine k_ci (wr := [(k0, .inr (9, [.ref m0, .int s1, .int s2, .int s3, .int s4, .int s5, .int s6, .ref m7, .ref m8, .ref m9, .int (nI z), .int (nI t), .int s12, .ref m13, .ref m14, .ref m15, .int s16, .ref m17, .ref m18, .ref m19, .ref m20, .ref m21, .ref m22, .ref m23, .ref m24, .ref m25, .ref m26, .ref m27, .ref m28, .int s29, .ref m30, .int s31, .int s32, .int s33, .int s34, .int s35, .ref m36, .ref m37, .ref m38, .ref m39, .long s40])), (m13, ai g 6 K), (m14, ai g 6 L), (m15, ai g 96 V), (m20, ai g 168 Rb), (m25, ai g 9 T2)]) hP hD hS hA [] [0, 1, 2, 3, 4, 5] rfl rfl (by decide) (by decide) (va_runS (As := [.int (K a)]) (rest := []) ⟨hx, hb, hml, hown, hts⟩ (c_X9_weightBy_g l g (K a)  H.size) (va_cwS 1 hts gX9_layTally_X9_weightBy rfl rfl rfl (by decide +kernel) ⟨Nat.le_of_ble_eq_true rfl, Nat.le_of_ble_eq_true rfl⟩) (k_preS hE hZ hP hD hS hA [] rfl (by decide)) rfl rfl hl.1 rfl (lv_room (Nat.le_of_ble_eq_true rfl)) dX9_layTally_43 ⟨Nat.le_of_ble_eq_true rfl, Nat.le_of_ble_eq_true rfl⟩) (fun r_3 w1 H locs hw hP hD hS => ?_)
              obtain rfl := hw
              have hP : va_P g.1 vwCl [(k0, .inr (9, [.ref m0, .int s1, .int s2, .int s3, .int s4, .int s5, .int s6, .ref m7, .ref m8, .ref m9, .int (nI z), .int (nI t), .int s12, .ref m13, .ref m14, .ref m15, .int s16, .ref m17, .ref m18, .ref m19, .ref m20, .ref m21, .ref m22, .ref m23, .ref m24, .ref m25, .ref m26, .ref m27, .ref m28, .int s29, .ref m30, .int s31, .int s32, .int s33, .int s34, .int s35, .ref m36, .ref m37, .ref m38, .ref m39, .long s40])), (m13, ai g 6 K), (m14, ai g 6 L), (m15, ai g 96 V), (m20, ai g 168 Rb), (m25, ai g 9 T2)] H := hP
              have hD : va_D A [(k0, .inr (9, [.ref m0, .int s1, .int s2, .int s3, .int s4, .int s5, .int s6, .ref m7, .ref m8, .ref m9, .int (nI z), .int (nI t), .int s12, .ref m13, .ref m14, .ref m15, .int s16, .ref m17, .ref m18, .ref m19, .ref m20, .ref m21, .ref m22, .ref m23, .ref m24, .ref m25, .ref m26, .ref m27, .ref m28, .int s29, .ref m30, .int s31, .int s32, .int s33, .int s34, .int s35, .ref m36, .ref m37, .ref m38, .ref m39, .long s40])), (m13, ai g 6 K), (m14, ai g 6 L), (m15, ai g 96 V), (m20, ai g 168 Rb), (m25, ai g 9 T2)] := hD
              refine lv_istore (lv' := [(5, .int r_3), (0, .ref k0), (1, .int (nI u)), (2, .int p1), (3, .int p2), (4, .int (nI a))]) hx hb dX9_layTally_46 hl (by decide) rfl (fun ls hl => ?_)
              refine lv_iconst (v := 0) hx hb dX9_layTally_48 (by decide) ?_
              refine lv_istore (lv' := [(6, .int 0), (5, .int r_3), (0, .ref k0), (1, .int (nI u)), (2, .int p1), (3, .int p2), (4, .int (nI a))]) hx hb dX9_layTally_49 hl (by decide) rfl (fun ls hl => ?_)
              obtain ⟨n, hn, en⟩ := hL (a) (by omega)
              have loop51 : ∀ (fu : Nat) (q : Nat) (T3 : Nat → Int32), (hq : q ≤ n) → n - q < fu → ∀ (H : Heap) (locs : List Loc) (ls : Array Slot), va_P g.1 vwCl [(k0, .inr (9, [.ref m0, .int s1, .int s2, .int s3, .int s4, .int s5, .int s6, .ref m7, .ref m8, .ref m9, .int (nI z), .int (nI t), .int s12, .ref m13, .ref m14, .ref m15, .int s16, .ref m17, .ref m18, .ref m19, .ref m20, .ref m21, .ref m22, .ref m23, .ref m24, .ref m25, .ref m26, .ref m27, .ref m28, .int s29, .ref m30, .int s31, .int s32, .int s33, .int s34, .int s35, .ref m36, .ref m37, .ref m38, .ref m39, .long s40])), (m13, ai g 6 K), (m14, ai g 6 L), (m15, ai g 96 V), (m20, ai g 168 Rb), (m25, ai g 9 T3)] H → va_D A [(k0, .inr (9, [.ref m0, .int s1, .int s2, .int s3, .int s4, .int s5, .int s6, .ref m7, .ref m8, .ref m9, .int (nI z), .int (nI t), .int s12, .ref m13, .ref m14, .ref m15, .int s16, .ref m17, .ref m18, .ref m19, .ref m20, .ref m21, .ref m22, .ref m23, .ref m24, .ref m25, .ref m26, .ref m27, .ref m28, .int s29, .ref m30, .int s31, .int s32, .int s33, .int s34, .int s35, .ref m36, .ref m37, .ref m38, .ref m39, .long s40])), (m13, ai g 6 K), (m14, ai g 6 L), (m15, ai g 96 V), (m20, ai g 168 Rb), (m25, ai g 9 T3)] → va_S A s.heap H locs → lv_has ls 7 [(0, .ref k0), (1, .int (nI u)), (2, .int p1), (3, .int p2), (4, .int (nI a)), (5, .int r_3), (6, .int (nI q))] → W p l e ({ frames := 2, cells := 0, slots := 0, locals := 43 }) s m [.ref k0, .int (nI u), .int p1, .int p2].toArray below meth c H locs 0 0 (MQ below (va_Qv (po_X9_layTally_g g k0 m0 s1 s2 s3 s4 s5 s6 m7 m8 m9 s12 m13 m14 m15 s16 m17 m18 m19 m20 m21 m22 m23 m24 m25 m26 m27 m28 s29 m30 s31 s32 s33 s34 s35 m36 m37 m38 m39 s40 z t K L V Rb Ty u p1 p2) (bk g A) A) [.ref k0, .int (nI u), .int p1, .int p2].toArray s 0 0 A) (F0 m 51 ls []) := by
                intro fu
                induction fu with
                | zero => intro q T3 hq hfu; exact absurd hfu (Nat.not_lt_zero _)
                | succ fu ih =>
                  intro q T3 hq hfu H locs ls hP hD hS hl
                  have ih51 := ih
                  refine lv_iload hx hb dX9_layTally_51 (lv_at hl 6 rfl) ?_
                  refine lv_aload_n hx hb dX9_layTally_53 rfl (lv_at hl 0 rfl) ?_
                  refine va_get (D := g.1) (ci := 9) (v := .ref m14) (C := RX9) (T := TX9) (N := 41) hx hb hts q_X9_layTally_g_f9 hown hE.1 hP 0 rfl rfl 14 (by decide) (hts (.fieldLink RX9 25 "SoundLawsModel" "longs" "[I") q_X9_layTally_g_3) (fun _ h9 => h9) rfl dX9_layTally_54 ?_
                  refine lv_iload hx hb dX9_layTally_57 (lv_at hl 4 rfl) ?_
                  refine k_ald a rfl (by omega) hx hb hE hP 2 rfl (by decide) dX9_layTally_59 ?_
                  refine lv_topi (fun x_4 ex_4 => ?_)
                  obtain rfl : x_4 = nI n := by rw [ex_4]; exact en
                  refine lv_icmp_ge (tgt := 136) hx hb dX9_layTally_60 (by decide) (fun c60_5 => ?_) (fun c60_5 => ?_)
                  · skip
                    refine lv_iinc (v := (nI (a + 1))) (lv' := [(4, .int (nI (a + 1))), (0, .ref k0), (1, .int (nI u)), (2, .int p1), (3, .int p2), (5, .int r_3), (6, .int (nI q))]) hx hb dX9_layTally_136 hl (k := 4) rfl (nI_1 _) (by decide) rfl (fun ls hl => ?_)
                    refine lv_goto (tgt := 27) hx hb dX9_layTally_139 (by decide) ?_
                    exact ih27 (a + 1) _ (by omega) (by omega) _ _ _ hP hD hS (lv_sub hl [1, 2, 3, 4, 0] rfl)
                  · skip
                    have hq9 := lt_of_nle (k := n) (n := q) (by omega) (by omega) c60_5
                    refine lv_iload hx hb dX9_layTally_63 (lv_at hl 5 rfl) ?_
                    refine lv_if_le (tgt := 136) hx hb dX9_layTally_65 (by decide) (fun c65_6 => ?_) (fun c65_6 => ?_)
                    · skip
                      refine lv_iinc (v := (nI (a + 1))) (lv' := [(4, .int (nI (a + 1))), (0, .ref k0), (1, .int (nI u)), (2, .int p1), (3, .int p2), (5, .int r_3), (6, .int (nI q))]) hx hb dX9_layTally_136 hl (k := 4) rfl (nI_1 _) (by decide) rfl (fun ls hl => ?_)
                      refine lv_goto (tgt := 27) hx hb dX9_layTally_139 (by decide) ?_
                      exact ih27 (a + 1) _ (by omega) (by omega) _ _ _ hP hD hS (lv_sub hl [1, 2, 3, 4, 0] rfl)
                    · skip
                      refine lv_iload hx hb dX9_layTally_68 (lv_at hl 6 rfl) ?_
                      refine lv_if_ne (tgt := 77) hx hb dX9_layTally_70 (by decide) (fun c70_7 => ?_) (fun c70_7 => ?_)
                      · skip
                        refine lv_iconst (v := 0) hx hb dX9_layTally_77 (by decide) ?_
                        refine lv_iload_n hx hb dX9_layTally_78 rfl (lv_at hl 3 rfl) ?_
                        refine lv_iconst (v := 1) hx hb dX9_layTally_79 (by decide) ?_
                        refine lv_icmp_ne (tgt := 87) hx hb dX9_layTally_80 (by decide) (fun c80_8 => ?_) (fun c80_8 => ?_)
                        · skip
                          refine lv_iconst (v := 0) hx hb dX9_layTally_87 (by decide) ?_
                          refine lv_icmp_ne (tgt := 130) hx hb dX9_layTally_88 (by decide) (fun c88_9 => ?_) (fun c88_9 => ?_)
                          · exact absurd c88_9 (by decide)
                          · skip
                            refine lv_aload_n hx hb dX9_layTally_91 rfl (lv_at hl 0 rfl) ?_
                            refine lv_iload hx hb dX9_layTally_92 (lv_at hl 4 rfl) ?_
                            refine lv_iload hx hb dX9_layTally_94 (lv_at hl 6 rfl) ?_
                            refine k_ci (wr := [(m13, ai g 6 K), (m14, ai g 6 L), (m15, ai g 96 V), (m25, ai g 9 T3)]) hP hD hS hA [0, 4] [1, 2, 3, 5] rfl rfl (by decide) (by decide) (va_runV (As := [.int (nI a), .int (nI q)]) (rest := []) ⟨hx, hb, hml, hown, hts⟩ (c_X9_oldSound_g l g k0 m0 s1 s2 s3 s4 s5 s6 m7 m8 m9 (nI z) s12 m13 m14 m15 s16 m17 m18 m19 m20 m21 m22 m23 m24 m25 m26 m27 m28 s29 m30 s31 s32 s33 s34 s35 m36 m37 m38 m39 s40 t Rb a q (by first | assumption | omega) (by first | assumption | omega) (by first | assumption | omega) (by first | assumption | omega) H.size) (cwV 2 hts gX9_layTally_X9_oldSound rfl rfl rfl (by decide +kernel) ⟨Nat.le_of_ble_eq_true rfl, Nat.le_of_ble_eq_true rfl⟩) (k_preV hE hZ hP hD hS hA [0, 4] rfl (by decide) (va_recv hE.1 hP (ci := 9) (q0 := 0) rfl rfl)) rfl rfl hl.1 rfl (lv_room (Nat.le_of_ble_eq_true rfl)) dX9_layTally_96 ⟨Nat.le_of_ble_eq_true rfl, Nat.le_of_ble_eq_true rfl⟩) (fun r_10 w1 H locs hw hP hD hS => ?_)
                            obtain ⟨rfl, rfl⟩ := hw
                            have hP : va_P g.1 vwCl [(m13, ai g 6 K), (m14, ai g 6 L), (m15, ai g 96 V), (m25, ai g 9 T3), (k0, .inr (9, [.ref m0, .int s1, .int s2, .int s3, .int s4, .int s5, .int s6, .ref m7, .ref m8, .ref m9, .int (nI z), .int (nI t), .int s12, .ref m13, .ref m14, .ref m15, .int s16, .ref m17, .ref m18, .ref m19, .ref m20, .ref m21, .ref m22, .ref m23, .ref m24, .ref m25, .ref m26, .ref m27, .ref m28, .int s29, .ref m30, .int s31, .int s32, .int s33, .int s34, .int s35, .ref m36, .ref m37, .ref m38, .ref m39, .long s40])), (m20, ai g 168 Rb)] H := hP
                            have hD : va_D A [(m13, ai g 6 K), (m14, ai g 6 L), (m15, ai g 96 V), (m25, ai g 9 T3), (k0, .inr (9, [.ref m0, .int s1, .int s2, .int s3, .int s4, .int s5, .int s6, .ref m7, .ref m8, .ref m9, .int (nI z), .int (nI t), .int s12, .ref m13, .ref m14, .ref m15, .int s16, .ref m17, .ref m18, .ref m19, .ref m20, .ref m21, .ref m22, .ref m23, .ref m24, .ref m25, .ref m26, .ref m27, .ref m28, .int s29, .ref m30, .int s31, .int s32, .int s33, .int s34, .int s35, .ref m36, .ref m37, .ref m38, .ref m39, .long s40])), (m20, ai g 168 Rb)] := hD
                            refine lv_iload_n hx hb dX9_layTally_99 rfl (lv_at hl 2 rfl) ?_
                            refine lv_icmp_ne (tgt := 130) hx hb dX9_layTally_100 (by decide) (fun c100_12 => ?_) (fun c100_12 => ?_)
                            · skip
                              refine lv_iinc (v := (nI (q + 1))) (lv' := [(6, .int (nI (q + 1))), (0, .ref k0), (1, .int (nI u)), (2, .int p1), (3, .int p2), (4, .int (nI a)), (5, .int r_3)]) hx hb dX9_layTally_130 hl (k := 6) rfl (nI_1 _) (by decide) rfl (fun ls hl => ?_)
                              refine lv_goto (tgt := 51) hx hb dX9_layTally_133 (by decide) ?_
                              exact ih51 (q + 1) _ (by omega) (by omega) _ _ _ (hP.sub [4, 0, 1, 2, 5, 3] rfl) (hD.sub [4, 0, 1, 2, 5, 3] (by decide) rfl) hS (lv_sub hl [1, 2, 3, 4, 5, 6, 0] rfl)
                            · skip
                              refine lv_aload_n hx hb dX9_layTally_103 rfl (lv_at hl 0 rfl) ?_
                              refine va_get (D := g.1) (ci := 9) (v := .ref m25) (C := RX9) (T := TX9) (N := 41) hx hb hts q_X9_layTally_g_f9 hown hE.1 hP 4 rfl rfl 25 (by decide) (hts (.fieldLink RX9 55 "SoundLawsModel" "tally" "[I") q_X9_layTally_g_4) (fun _ h9 => h9) rfl dX9_layTally_104 ?_
                              refine lv_aload_n hx hb dX9_layTally_107 rfl (lv_at hl 0 rfl) ?_
                              refine va_get (D := g.1) (ci := 9) (v := .ref m15) (C := RX9) (T := TX9) (N := 41) hx hb hts q_X9_layTally_g_f9 hown hE.1 hP 4 rfl rfl 15 (by decide) (hts (.fieldLink RX9 28 "SoundLawsModel" "words" "[I") q_X9_layTally_g_5) (fun _ h9 => h9) rfl dX9_layTally_108 ?_
                              refine lv_bipush (v := 16) hx hb dX9_layTally_111 (by decide) ?_
                              refine lv_iload hx hb dX9_layTally_113 (lv_at hl 4 rfl) ?_
                              refine lv_imul hx hb dX9_layTally_115 ?_
                              refine lv_iconst (v := 4) hx hb dX9_layTally_116 (by decide) ?_
                              refine lv_iload_n hx hb dX9_layTally_117 rfl (lv_at hl 1 rfl) ?_
                              refine lv_imul hx hb dX9_layTally_118 ?_
                              refine lv_iadd hx hb dX9_layTally_119 ?_
                              refine lv_iload hx hb dX9_layTally_120 (lv_at hl 6 rfl) ?_
                              refine lv_iadd hx hb dX9_layTally_122 ?_
                              refine k_ald (16 * a + 4 * u + q) (by rw [show (16 : Int32) = nI 16 from rfl, show (4 : Int32) = nI 4 from rfl, pk_mul, pk_mul, nI_add, nI_add]) (by omega) hx hb hE hP 2 rfl (by decide) dX9_layTally_123 ?_
                              obtain ⟨vv, hvv, evv⟩ := hV (16 * a + 4 * u + q) (by omega)
                              refine lv_topi (fun x_13 ex_13 => ?_)
                              obtain rfl : x_13 = nI vv := by rw [ex_13]; exact evv
                              refine lv_dup2_11 hx hb dX9_layTally_124 rfl rfl ?_
                              refine k_ald vv rfl (by omega) hx hb hE hP 3 rfl (by decide) dX9_layTally_125 ?_
                              refine lv_iload hx hb dX9_layTally_126 (lv_at hl 5 rfl) ?_
                              refine lv_iadd hx hb dX9_layTally_128 ?_
                              refine lv_topi (fun x_14 ex_14 => ?_)
                              refine k_ast (x := x_14) vv rfl (by omega) hx hb hE hP hD hS 3 rfl (by decide) dX9_layTally_129 (fun H locs hP hD hS => ?_)
                              have hP : va_P g.1 vwCl [(m13, ai g 6 K), (m14, ai g 6 L), (m15, ai g 96 V), (m25, ai g 9 (upd T3 vv x_14)), (k0, .inr (9, [.ref m0, .int s1, .int s2, .int s3, .int s4, .int s5, .int s6, .ref m7, .ref m8, .ref m9, .int (nI z), .int (nI t), .int s12, .ref m13, .ref m14, .ref m15, .int s16, .ref m17, .ref m18, .ref m19, .ref m20, .ref m21, .ref m22, .ref m23, .ref m24, .ref m25, .ref m26, .ref m27, .ref m28, .int s29, .ref m30, .int s31, .int s32, .int s33, .int s34, .int s35, .ref m36, .ref m37, .ref m38, .ref m39, .long s40])), (m20, ai g 168 Rb)] H := hP
                              have hD : va_D A [(m13, ai g 6 K), (m14, ai g 6 L), (m15, ai g 96 V), (m25, ai g 9 (upd T3 vv x_14)), (k0, .inr (9, [.ref m0, .int s1, .int s2, .int s3, .int s4, .int s5, .int s6, .ref m7, .ref m8, .ref m9, .int (nI z), .int (nI t), .int s12, .ref m13, .ref m14, .ref m15, .int s16, .ref m17, .ref m18, .ref m19, .ref m20, .ref m21, .ref m22, .ref m23, .ref m24, .ref m25, .ref m26, .ref m27, .ref m28, .int s29, .ref m30, .int s31, .int s32, .int s33, .int s34, .int s35, .ref m36, .ref m37, .ref m38, .ref m39, .long s40])), (m20, ai g 168 Rb)] := hD
                              refine lv_iinc (v := (nI (q + 1))) (lv' := [(6, .int (nI (q + 1))), (0, .ref k0), (1, .int (nI u)), (2, .int p1), (3, .int p2), (4, .int (nI a)), (5, .int r_3)]) hx hb dX9_layTally_130 hl (k := 6) rfl (nI_1 _) (by decide) rfl (fun ls hl => ?_)
                              refine lv_goto (tgt := 51) hx hb dX9_layTally_133 (by decide) ?_
                              exact ih51 (q + 1) _ (by omega) (by omega) _ _ _ (hP.sub [4, 0, 1, 2, 5, 3] rfl) (hD.sub [4, 0, 1, 2, 5, 3] (by decide) rfl) hS (lv_sub hl [1, 2, 3, 4, 5, 6, 0] rfl)
                        · skip
                          refine lv_iconst (v := 1) hx hb dX9_layTally_83 (by decide) ?_
                          refine lv_goto (tgt := 88) hx hb dX9_layTally_84 (by decide) ?_
                          refine lv_icmp_ne (tgt := 130) hx hb dX9_layTally_88 (by decide) (fun c88_15 => ?_) (fun c88_15 => ?_)
                          · skip
                            refine lv_iinc (v := (nI (q + 1))) (lv' := [(6, .int (nI (q + 1))), (0, .ref k0), (1, .int (nI u)), (2, .int p1), (3, .int p2), (4, .int (nI a)), (5, .int r_3)]) hx hb dX9_layTally_130 hl (k := 6) rfl (nI_1 _) (by decide) rfl (fun ls hl => ?_)
                            refine lv_goto (tgt := 51) hx hb dX9_layTally_133 (by decide) ?_
                            exact ih51 (q + 1) _ (by omega) (by omega) _ _ _ hP hD hS (lv_sub hl [1, 2, 3, 4, 5, 6, 0] rfl)
                          · exact absurd c88_15 (by decide)
                      · skip
                        refine lv_iconst (v := 1) hx hb dX9_layTally_73 (by decide) ?_
                        refine lv_goto (tgt := 78) hx hb dX9_layTally_74 (by decide) ?_
                        refine lv_iload_n hx hb dX9_layTally_78 rfl (lv_at hl 3 rfl) ?_
                        refine lv_iconst (v := 1) hx hb dX9_layTally_79 (by decide) ?_
                        refine lv_icmp_ne (tgt := 87) hx hb dX9_layTally_80 (by decide) (fun c80_16 => ?_) (fun c80_16 => ?_)
                        · skip
                          refine lv_iconst (v := 0) hx hb dX9_layTally_87 (by decide) ?_
                          refine lv_icmp_ne (tgt := 130) hx hb dX9_layTally_88 (by decide) (fun c88_17 => ?_) (fun c88_17 => ?_)
                          · skip
                            refine lv_iinc (v := (nI (q + 1))) (lv' := [(6, .int (nI (q + 1))), (0, .ref k0), (1, .int (nI u)), (2, .int p1), (3, .int p2), (4, .int (nI a)), (5, .int r_3)]) hx hb dX9_layTally_130 hl (k := 6) rfl (nI_1 _) (by decide) rfl (fun ls hl => ?_)
                            refine lv_goto (tgt := 51) hx hb dX9_layTally_133 (by decide) ?_
                            exact ih51 (q + 1) _ (by omega) (by omega) _ _ _ hP hD hS (lv_sub hl [1, 2, 3, 4, 5, 6, 0] rfl)
                          · exact absurd c88_17 (by decide)
                        · skip
                          refine lv_iconst (v := 1) hx hb dX9_layTally_83 (by decide) ?_
                          refine lv_goto (tgt := 88) hx hb dX9_layTally_84 (by decide) ?_
                          refine lv_icmp_ne (tgt := 130) hx hb dX9_layTally_88 (by decide) (fun c88_18 => ?_) (fun c88_18 => ?_)
                          · exact absurd c88_18 (by decide)
                          · skip
                            refine lv_aload_n hx hb dX9_layTally_91 rfl (lv_at hl 0 rfl) ?_
                            refine lv_iload hx hb dX9_layTally_92 (lv_at hl 4 rfl) ?_
                            refine lv_iload hx hb dX9_layTally_94 (lv_at hl 6 rfl) ?_
                            refine k_ci (wr := [(m13, ai g 6 K), (m14, ai g 6 L), (m15, ai g 96 V), (m25, ai g 9 T3)]) hP hD hS hA [0, 4] [1, 2, 3, 5] rfl rfl (by decide) (by decide) (va_runV (As := [.int (nI a), .int (nI q)]) (rest := []) ⟨hx, hb, hml, hown, hts⟩ (c_X9_oldSound_g l g k0 m0 s1 s2 s3 s4 s5 s6 m7 m8 m9 (nI z) s12 m13 m14 m15 s16 m17 m18 m19 m20 m21 m22 m23 m24 m25 m26 m27 m28 s29 m30 s31 s32 s33 s34 s35 m36 m37 m38 m39 s40 t Rb a q (by first | assumption | omega) (by first | assumption | omega) (by first | assumption | omega) (by first | assumption | omega) H.size) (cwV 2 hts gX9_layTally_X9_oldSound rfl rfl rfl (by decide +kernel) ⟨Nat.le_of_ble_eq_true rfl, Nat.le_of_ble_eq_true rfl⟩) (k_preV hE hZ hP hD hS hA [0, 4] rfl (by decide) (va_recv hE.1 hP (ci := 9) (q0 := 0) rfl rfl)) rfl rfl hl.1 rfl (lv_room (Nat.le_of_ble_eq_true rfl)) dX9_layTally_96 ⟨Nat.le_of_ble_eq_true rfl, Nat.le_of_ble_eq_true rfl⟩) (fun r_19 w1 H locs hw hP hD hS => ?_)
                            obtain ⟨rfl, rfl⟩ := hw
                            have hP : va_P g.1 vwCl [(m13, ai g 6 K), (m14, ai g 6 L), (m15, ai g 96 V), (m25, ai g 9 T3), (k0, .inr (9, [.ref m0, .int s1, .int s2, .int s3, .int s4, .int s5, .int s6, .ref m7, .ref m8, .ref m9, .int (nI z), .int (nI t), .int s12, .ref m13, .ref m14, .ref m15, .int s16, .ref m17, .ref m18, .ref m19, .ref m20, .ref m21, .ref m22, .ref m23, .ref m24, .ref m25, .ref m26, .ref m27, .ref m28, .int s29, .ref m30, .int s31, .int s32, .int s33, .int s34, .int s35, .ref m36, .ref m37, .ref m38, .ref m39, .long s40])), (m20, ai g 168 Rb)] H := hP
                            have hD : va_D A [(m13, ai g 6 K), (m14, ai g 6 L), (m15, ai g 96 V), (m25, ai g 9 T3), (k0, .inr (9, [.ref m0, .int s1, .int s2, .int s3, .int s4, .int s5, .int s6, .ref m7, .ref m8, .ref m9, .int (nI z), .int (nI t), .int s12, .ref m13, .ref m14, .ref m15, .int s16, .ref m17, .ref m18, .ref m19, .ref m20, .ref m21, .ref m22, .ref m23, .ref m24, .ref m25, .ref m26, .ref m27, .ref m28, .int s29, .ref m30, .int s31, .int s32, .int s33, .int s34, .int s35, .ref m36, .ref m37, .ref m38, .ref m39, .long s40])), (m20, ai g 168 Rb)] := hD
                            refine lv_iload_n hx hb dX9_layTally_99 rfl (lv_at hl 2 rfl) ?_
                            refine lv_icmp_ne (tgt := 130) hx hb dX9_layTally_100 (by decide) (fun c100_21 => ?_) (fun c100_21 => ?_)
                            · skip
                              refine lv_iinc (v := (nI (q + 1))) (lv' := [(6, .int (nI (q + 1))), (0, .ref k0), (1, .int (nI u)), (2, .int p1), (3, .int p2), (4, .int (nI a)), (5, .int r_3)]) hx hb dX9_layTally_130 hl (k := 6) rfl (nI_1 _) (by decide) rfl (fun ls hl => ?_)
                              refine lv_goto (tgt := 51) hx hb dX9_layTally_133 (by decide) ?_
                              exact ih51 (q + 1) _ (by omega) (by omega) _ _ _ (hP.sub [4, 0, 1, 2, 5, 3] rfl) (hD.sub [4, 0, 1, 2, 5, 3] (by decide) rfl) hS (lv_sub hl [1, 2, 3, 4, 5, 6, 0] rfl)
                            · skip
                              refine lv_aload_n hx hb dX9_layTally_103 rfl (lv_at hl 0 rfl) ?_
                              refine va_get (D := g.1) (ci := 9) (v := .ref m25) (C := RX9) (T := TX9) (N := 41) hx hb hts q_X9_layTally_g_f9 hown hE.1 hP 4 rfl rfl 25 (by decide) (hts (.fieldLink RX9 55 "SoundLawsModel" "tally" "[I") q_X9_layTally_g_4) (fun _ h9 => h9) rfl dX9_layTally_104 ?_
                              refine lv_aload_n hx hb dX9_layTally_107 rfl (lv_at hl 0 rfl) ?_
                              refine va_get (D := g.1) (ci := 9) (v := .ref m15) (C := RX9) (T := TX9) (N := 41) hx hb hts q_X9_layTally_g_f9 hown hE.1 hP 4 rfl rfl 15 (by decide) (hts (.fieldLink RX9 28 "SoundLawsModel" "words" "[I") q_X9_layTally_g_5) (fun _ h9 => h9) rfl dX9_layTally_108 ?_
                              refine lv_bipush (v := 16) hx hb dX9_layTally_111 (by decide) ?_
                              refine lv_iload hx hb dX9_layTally_113 (lv_at hl 4 rfl) ?_
                              refine lv_imul hx hb dX9_layTally_115 ?_
                              refine lv_iconst (v := 4) hx hb dX9_layTally_116 (by decide) ?_
                              refine lv_iload_n hx hb dX9_layTally_117 rfl (lv_at hl 1 rfl) ?_
                              refine lv_imul hx hb dX9_layTally_118 ?_
                              refine lv_iadd hx hb dX9_layTally_119 ?_
                              refine lv_iload hx hb dX9_layTally_120 (lv_at hl 6 rfl) ?_
                              refine lv_iadd hx hb dX9_layTally_122 ?_
                              refine k_ald (16 * a + 4 * u + q) (by rw [show (16 : Int32) = nI 16 from rfl, show (4 : Int32) = nI 4 from rfl, pk_mul, pk_mul, nI_add, nI_add]) (by omega) hx hb hE hP 2 rfl (by decide) dX9_layTally_123 ?_
                              obtain ⟨vv, hvv, evv⟩ := hV (16 * a + 4 * u + q) (by omega)
                              refine lv_topi (fun x_22 ex_22 => ?_)
                              obtain rfl : x_22 = nI vv := by rw [ex_22]; exact evv
                              refine lv_dup2_11 hx hb dX9_layTally_124 rfl rfl ?_
                              refine k_ald vv rfl (by omega) hx hb hE hP 3 rfl (by decide) dX9_layTally_125 ?_
                              refine lv_iload hx hb dX9_layTally_126 (lv_at hl 5 rfl) ?_
                              refine lv_iadd hx hb dX9_layTally_128 ?_
                              refine lv_topi (fun x_23 ex_23 => ?_)
                              refine k_ast (x := x_23) vv rfl (by omega) hx hb hE hP hD hS 3 rfl (by decide) dX9_layTally_129 (fun H locs hP hD hS => ?_)
                              have hP : va_P g.1 vwCl [(m13, ai g 6 K), (m14, ai g 6 L), (m15, ai g 96 V), (m25, ai g 9 (upd T3 vv x_23)), (k0, .inr (9, [.ref m0, .int s1, .int s2, .int s3, .int s4, .int s5, .int s6, .ref m7, .ref m8, .ref m9, .int (nI z), .int (nI t), .int s12, .ref m13, .ref m14, .ref m15, .int s16, .ref m17, .ref m18, .ref m19, .ref m20, .ref m21, .ref m22, .ref m23, .ref m24, .ref m25, .ref m26, .ref m27, .ref m28, .int s29, .ref m30, .int s31, .int s32, .int s33, .int s34, .int s35, .ref m36, .ref m37, .ref m38, .ref m39, .long s40])), (m20, ai g 168 Rb)] H := hP
                              have hD : va_D A [(m13, ai g 6 K), (m14, ai g 6 L), (m15, ai g 96 V), (m25, ai g 9 (upd T3 vv x_23)), (k0, .inr (9, [.ref m0, .int s1, .int s2, .int s3, .int s4, .int s5, .int s6, .ref m7, .ref m8, .ref m9, .int (nI z), .int (nI t), .int s12, .ref m13, .ref m14, .ref m15, .int s16, .ref m17, .ref m18, .ref m19, .ref m20, .ref m21, .ref m22, .ref m23, .ref m24, .ref m25, .ref m26, .ref m27, .ref m28, .int s29, .ref m30, .int s31, .int s32, .int s33, .int s34, .int s35, .ref m36, .ref m37, .ref m38, .ref m39, .long s40])), (m20, ai g 168 Rb)] := hD
                              refine lv_iinc (v := (nI (q + 1))) (lv' := [(6, .int (nI (q + 1))), (0, .ref k0), (1, .int (nI u)), (2, .int p1), (3, .int p2), (4, .int (nI a)), (5, .int r_3)]) hx hb dX9_layTally_130 hl (k := 6) rfl (nI_1 _) (by decide) rfl (fun ls hl => ?_)
                              refine lv_goto (tgt := 51) hx hb dX9_layTally_133 (by decide) ?_
                              exact ih51 (q + 1) _ (by omega) (by omega) _ _ _ (hP.sub [4, 0, 1, 2, 5, 3] rfl) (hD.sub [4, 0, 1, 2, 5, 3] (by decide) rfl) hS (lv_sub hl [1, 2, 3, 4, 5, 6, 0] rfl)
              exact loop51 _ 0 T2 (Nat.zero_le n) (Nat.lt_succ_self _) _ _ _ hP hD hS (lv_sub hl [2, 3, 4, 5, 6, 1, 0] rfl)
        exact loop27 _ 0 T1 (Nat.zero_le z) (Nat.lt_succ_self _) _ _ _ hP hD hS (lv_sub hl [1, 2, 3, 4, 0] rfl)
      · skip
        have hj9 := lt_of_nle (k := 9) (n := j) (by decide) (by omega) c7_1
        refine lv_aload_n hx hb dX9_layTally_10 rfl (lv_at hl 0 rfl) ?_
        refine va_get (D := g.1) (ci := 9) (v := .ref m25) (C := RX9) (T := TX9) (N := 41) hx hb hts q_X9_layTally_g_f9 hown hE.1 hP 0 rfl rfl 25 (by decide) (hts (.fieldLink RX9 55 "SoundLawsModel" "tally" "[I") q_X9_layTally_g_4) (fun _ h9 => h9) rfl dX9_layTally_11 ?_
        refine lv_iload hx hb dX9_layTally_14 (lv_at hl 4 rfl) ?_
        refine lv_iconst (v := 0) hx hb dX9_layTally_16 (by decide) ?_
        refine k_ast (x := 0) j rfl (by omega) hx hb hE hP hD hS 5 rfl (by decide) dX9_layTally_17 (fun H locs hP hD hS => ?_)
        have hP : va_P g.1 vwCl [(k0, .inr (9, [.ref m0, .int s1, .int s2, .int s3, .int s4, .int s5, .int s6, .ref m7, .ref m8, .ref m9, .int (nI z), .int (nI t), .int s12, .ref m13, .ref m14, .ref m15, .int s16, .ref m17, .ref m18, .ref m19, .ref m20, .ref m21, .ref m22, .ref m23, .ref m24, .ref m25, .ref m26, .ref m27, .ref m28, .int s29, .ref m30, .int s31, .int s32, .int s33, .int s34, .int s35, .ref m36, .ref m37, .ref m38, .ref m39, .long s40])), (m13, ai g 6 K), (m14, ai g 6 L), (m15, ai g 96 V), (m20, ai g 168 Rb), (m25, ai g 9 (upd T1 j 0))] H := hP
        have hD : va_D A [(k0, .inr (9, [.ref m0, .int s1, .int s2, .int s3, .int s4, .int s5, .int s6, .ref m7, .ref m8, .ref m9, .int (nI z), .int (nI t), .int s12, .ref m13, .ref m14, .ref m15, .int s16, .ref m17, .ref m18, .ref m19, .ref m20, .ref m21, .ref m22, .ref m23, .ref m24, .ref m25, .ref m26, .ref m27, .ref m28, .int s29, .ref m30, .int s31, .int s32, .int s33, .int s34, .int s35, .ref m36, .ref m37, .ref m38, .ref m39, .long s40])), (m13, ai g 6 K), (m14, ai g 6 L), (m15, ai g 96 V), (m20, ai g 168 Rb), (m25, ai g 9 (upd T1 j 0))] := hD
        refine lv_iinc (v := (nI (j + 1))) (lv' := [(4, .int (nI (j + 1))), (0, .ref k0), (1, .int (nI u)), (2, .int p1), (3, .int p2)]) hx hb dX9_layTally_18 hl (k := 4) rfl (nI_1 _) (by decide) rfl (fun ls hl => ?_)
        refine lv_goto (tgt := 3) hx hb dX9_layTally_21 (by decide) ?_
        exact ih3 (j + 1) _ (by omega) (by omega) _ _ _ hP hD hS (lv_sub hl [1, 2, 3, 4, 0] rfl)
  exact loop3 _ 0 Ty (Nat.zero_le 9) (Nat.lt_succ_self _) _ _ _ hP hD hS (lv_sub hl [1, 2, 3, 4, 0] rfl)
def po_X9_layLaw_g (g : GG) (k0 : Nat) (m0 : Nat) (s1 : Int32) (s2 : Int32) (s3 : Int32) (s4 : Int32) (s5 : Int32) (s6 : Int32) (m7 : Nat) (m8 : Nat) (m9 : Nat) (s12 : Int32) (m13 : Nat) (m14 : Nat) (m15 : Nat) (s16 : Int32) (m17 : Nat) (m18 : Nat) (m19 : Nat) (m20 : Nat) (m21 : Nat) (m22 : Nat) (m23 : Nat) (m24 : Nat) (m25 : Nat) (m26 : Nat) (m27 : Nat) (m28 : Nat) (s29 : Int32) (m30 : Nat) (s31 : Int32) (s32 : Int32) (s33 : Int32) (s34 : Int32) (s35 : Int32) (m36 : Nat) (m37 : Nat) (m38 : Nat) (m39 : Nat) (s40 : Int64) (z : Nat) (t : Nat) (K : Nat → Int32) (L : Nat → Int32) (V : Nat → Int32) (Rb : Nat → Int32) (Ty : Nat → Int32) (W1 : Nat → Int32) (W2 : Nat → Int32) (W3 : Nat → Int32) (u : Nat) (sd : Nat) (ahd : Nat) : va_W → Prop := fun w => ∃ (X1 : Nat → Int32) (X2 : Nat → Int32) (X3 : Nat → Int32) (Ty2 : Nat → Int32), w = [(k0, .inr (9, [.ref m0, .int s1, .int s2, .int s3, .int s4, .int s5, .int s6, .ref m7, .ref m8, .ref m9, .int (nI z), .int (nI t), .int s12, .ref m13, .ref m14, .ref m15, .int s16, .ref m17, .ref m18, .ref m19, .ref m20, .ref m21, .ref m22, .ref m23, .ref m24, .ref m25, .ref m26, .ref m27, .ref m28, .int s29, .ref m30, .int s31, .int s32, .int s33, .int s34, .int s35, .ref m36, .ref m37, .ref m38, .ref m39, .long s40])), (m13, ai g 6 K), (m14, ai g 6 L), (m15, ai g 96 V), (m20, ai g 168 Rb), (m25, ai g 9 Ty2), (m22, ai g 72 X1), (m23, ai g 72 X2), (m24, ai g 72 X3)]
theorem q_X9_layLaw_g_f9 : ∀ w ∈ u_ws RX9 TX9 41, w ∈ wsX9_layLaw := by decide +kernel
theorem q_X9_layLaw_g_1 : (Cond.fieldLink RX9 46 "SoundLawsModel" "laws" "[I") ∈ wsX9_layLaw := by decide +kernel
theorem q_X9_layLaw_g_2 : (Cond.fieldLink RX9 49 "SoundLawsModel" "follows" "[I") ∈ wsX9_layLaw := by decide +kernel
theorem q_X9_layLaw_g_3 : (Cond.fieldLink RX9 52 "SoundLawsModel" "exceptions" "[I") ∈ wsX9_layLaw := by decide +kernel
theorem q_X9_layLaw_g_4 : (Cond.fieldLink RX9 55 "SoundLawsModel" "tally" "[I") ∈ wsX9_layLaw := by decide +kernel
set_option maxHeartbeats 1500000 in
set_option maxRecDepth 100000 in
theorem c_X9_layLaw_g (l : Launch) (g : GG) (k0 : Nat) (m0 : Nat) (s1 : Int32) (s2 : Int32) (s3 : Int32) (s4 : Int32) (s5 : Int32) (s6 : Int32) (m7 : Nat) (m8 : Nat) (m9 : Nat) (s12 : Int32) (m13 : Nat) (m14 : Nat) (m15 : Nat) (s16 : Int32) (m17 : Nat) (m18 : Nat) (m19 : Nat) (m20 : Nat) (m21 : Nat) (m22 : Nat) (m23 : Nat) (m24 : Nat) (m25 : Nat) (m26 : Nat) (m27 : Nat) (m28 : Nat) (s29 : Int32) (m30 : Nat) (s31 : Int32) (s32 : Int32) (s33 : Int32) (s34 : Int32) (s35 : Int32) (m36 : Nat) (m37 : Nat) (m38 : Nat) (m39 : Nat) (s40 : Int64) (z : Nat) (t : Nat) (K : Nat → Int32) (L : Nat → Int32) (V : Nat → Int32) (Rb : Nat → Int32) (Ty : Nat → Int32) (W1 : Nat → Int32) (W2 : Nat → Int32) (W3 : Nat → Int32) (u : Nat) (sd : Nat) (ahd : Nat) (hg : gst z t K L V) (hu : u < t) (hsd : sd < 9) (hah : ahd < 2) (sz : Nat) : MetV l yX9_layLaw wsX9_layLaw ({ frames := 3, cells := 0, slots := 0, locals := 69 }) g [.ref k0, .int (nI u), .int (nI sd), .int (nI ahd)] [(k0, .inr (9, [.ref m0, .int s1, .int s2, .int s3, .int s4, .int s5, .int s6, .ref m7, .ref m8, .ref m9, .int (nI z), .int (nI t), .int s12, .ref m13, .ref m14, .ref m15, .int s16, .ref m17, .ref m18, .ref m19, .ref m20, .ref m21, .ref m22, .ref m23, .ref m24, .ref m25, .ref m26, .ref m27, .ref m28, .int s29, .ref m30, .int s31, .int s32, .int s33, .int s34, .int s35, .ref m36, .ref m37, .ref m38, .ref m39, .long s40])), (m13, ai g 6 K), (m14, ai g 6 L), (m15, ai g 96 V), (m20, ai g 168 Rb), (m25, ai g 9 Ty), (m22, ai g 72 W1), (m23, ai g 72 W2), (m24, ai g 72 W3)] sz (po_X9_layLaw_g g k0 m0 s1 s2 s3 s4 s5 s6 m7 m8 m9 s12 m13 m14 m15 s16 m17 m18 m19 m20 m21 m22 m23 m24 m25 m26 m27 m28 s29 m30 s31 s32 s33 s34 s35 m36 m37 m38 m39 s40 z t K L V Rb Ty W1 W2 W3 u sd ahd) 0 0 := by
  refine k_of (l := l) (y := yX9_layLaw) (ws := wsX9_layLaw) (rm := { frames := 3, cells := 0, slots := 0, locals := 69 }) (mc := 0) (ms := 0) (av := [.ref k0, .int (nI u), .int (nI sd), .int (nI ahd)]) (g := g) (wc := [(k0, .inr (9, [.ref m0, .int s1, .int s2, .int s3, .int s4, .int s5, .int s6, .ref m7, .ref m8, .ref m9, .int (nI z), .int (nI t), .int s12, .ref m13, .ref m14, .ref m15, .int s16, .ref m17, .ref m18, .ref m19, .ref m20, .ref m21, .ref m22, .ref m23, .ref m24, .ref m25, .ref m26, .ref m27, .ref m28, .int s29, .ref m30, .int s31, .int s32, .int s33, .int s34, .int s35, .ref m36, .ref m37, .ref m38, .ref m39, .long s40])), (m13, ai g 6 K), (m14, ai g 6 L), (m15, ai g 96 V), (m20, ai g 168 Rb), (m25, ai g 9 Ty), (m22, ai g 72 W1), (m23, ai g 72 W2), (m24, ai g 72 W3)]) (Qc := fun A => va_Qv (po_X9_layLaw_g g k0 m0 s1 s2 s3 s4 s5 s6 m7 m8 m9 s12 m13 m14 m15 s16 m17 m18 m19 m20 m21 m22 m23 m24 m25 m26 m27 m28 s29 m30 s31 s32 s33 s34 s35 m36 m37 m38 m39 s40 z t K L V Rb Ty W1 W2 W3 u sd ahd) (bk g A) A) (cc := cX9_layLaw) (maxL := 8) (ret := none) (by decide) rfl (Nat.le_of_ble_eq_true rfl) ?_ sz
  intro p e s m below meth c hx hb hr hts hown hlocks hnm hml A hA hE hZ hP hD hS ls hl
  have hown : s.vm.findClass RX9 = some m.cls := hown
  have hl : lv_has ls 8 [(0, .ref k0), (1, .int (nI u)), (2, .int (nI sd)), (3, .int (nI ahd))] := hl
  obtain ⟨hz, hzt, ht4, hK, hL, hV⟩ := id hg
  refine lv_aload_n hx hb dX9_layLaw_0 rfl (lv_at hl 0 rfl) ?_
  refine lv_iload_n hx hb dX9_layLaw_1 rfl (lv_at hl 1 rfl) ?_
  refine lv_iload_n hx hb dX9_layLaw_2 rfl (lv_at hl 2 rfl) ?_
  refine lv_iload_n hx hb dX9_layLaw_3 rfl (lv_at hl 3 rfl) ?_
  refine k_cv (wr := [(m22, ai g 72 W1), (m23, ai g 72 W2), (m24, ai g 72 W3)]) hP hD hS hA [0, 1, 2, 3, 4, 5] [6, 7, 8] rfl rfl (by decide) (by decide) (va_runV (As := [.int (nI u), .int (nI sd), .int (nI ahd)]) (rest := []) ⟨hx, hb, hml, hown, hts⟩ (c_X9_layTally_g l g k0 m0 s1 s2 s3 s4 s5 s6 m7 m8 m9 s12 m13 m14 m15 s16 m17 m18 m19 m20 m21 m22 m23 m24 m25 m26 m27 m28 s29 m30 s31 s32 s33 s34 s35 m36 m37 m38 m39 s40 z t K L V Rb Ty u (nI sd) (nI ahd) (by first | assumption | omega) (by first | assumption | omega) s.heap.size) (cwV 3 hts gX9_layLaw_X9_layTally rfl rfl rfl (by decide +kernel) ⟨Nat.le_of_ble_eq_true rfl, Nat.le_of_ble_eq_true rfl⟩) (k_preV hE hZ hP hD hS hA [0, 1, 2, 3, 4, 5] rfl (by decide) (va_recv hE.1 hP (ci := 9) (q0 := 0) rfl rfl)) rfl rfl hl.1 rfl (lv_room (Nat.le_of_ble_eq_true rfl)) dX9_layLaw_4 ⟨Nat.le_of_ble_eq_true rfl, Nat.le_of_ble_eq_true rfl⟩) (fun w1 H locs hw hP hD hS => ?_)
  obtain ⟨Ty2_2, rfl⟩ := hw
  have hP : va_P g.1 vwCl [(m22, ai g 72 W1), (m23, ai g 72 W2), (m24, ai g 72 W3), (k0, .inr (9, [.ref m0, .int s1, .int s2, .int s3, .int s4, .int s5, .int s6, .ref m7, .ref m8, .ref m9, .int (nI z), .int (nI t), .int s12, .ref m13, .ref m14, .ref m15, .int s16, .ref m17, .ref m18, .ref m19, .ref m20, .ref m21, .ref m22, .ref m23, .ref m24, .ref m25, .ref m26, .ref m27, .ref m28, .int s29, .ref m30, .int s31, .int s32, .int s33, .int s34, .int s35, .ref m36, .ref m37, .ref m38, .ref m39, .long s40])), (m13, ai g 6 K), (m14, ai g 6 L), (m15, ai g 96 V), (m20, ai g 168 Rb), (m25, ai g 9 Ty2_2)] H := hP
  have hD : va_D A [(m22, ai g 72 W1), (m23, ai g 72 W2), (m24, ai g 72 W3), (k0, .inr (9, [.ref m0, .int s1, .int s2, .int s3, .int s4, .int s5, .int s6, .ref m7, .ref m8, .ref m9, .int (nI z), .int (nI t), .int s12, .ref m13, .ref m14, .ref m15, .int s16, .ref m17, .ref m18, .ref m19, .ref m20, .ref m21, .ref m22, .ref m23, .ref m24, .ref m25, .ref m26, .ref m27, .ref m28, .int s29, .ref m30, .int s31, .int s32, .int s33, .int s34, .int s35, .ref m36, .ref m37, .ref m38, .ref m39, .long s40])), (m13, ai g 6 K), (m14, ai g 6 L), (m15, ai g 96 V), (m20, ai g 168 Rb), (m25, ai g 9 Ty2_2)] := hD
  refine lv_iconst (v := (-1)) hx hb dX9_layLaw_7 (by decide) ?_
  refine lv_istore (lv' := [(4, .int (-1)), (0, .ref k0), (1, .int (nI u)), (2, .int (nI sd)), (3, .int (nI ahd))]) hx hb dX9_layLaw_8 hl (by decide) rfl (fun ls hl => ?_)
  refine lv_iconst (v := 0) hx hb dX9_layLaw_10 (by decide) ?_
  refine lv_istore (lv' := [(5, .int 0), (4, .int (-1)), (0, .ref k0), (1, .int (nI u)), (2, .int (nI sd)), (3, .int (nI ahd))]) hx hb dX9_layLaw_11 hl (by decide) rfl (fun ls hl => ?_)
  refine lv_iconst (v := 0) hx hb dX9_layLaw_13 (by decide) ?_
  refine lv_istore (lv' := [(6, .int 0), (5, .int 0), (4, .int (-1)), (0, .ref k0), (1, .int (nI u)), (2, .int (nI sd)), (3, .int (nI ahd))]) hx hb dX9_layLaw_14 hl (by decide) rfl (fun ls hl => ?_)
  refine lv_iconst (v := 0) hx hb dX9_layLaw_16 (by decide) ?_
  refine lv_istore (lv' := [(7, .int 0), (6, .int 0), (5, .int 0), (4, .int (-1)), (0, .ref k0), (1, .int (nI u)), (2, .int (nI sd)), (3, .int (nI ahd))]) hx hb dX9_layLaw_17 hl (by decide) rfl (fun ls hl => ?_)
  have loop19 : ∀ (fu : Nat) (j : Nat) (x4 x5 x6 : Int32), (hj : j ≤ 9) → 9 - j < fu → ∀ (H : Heap) (locs : List Loc) (ls : Array Slot), va_P g.1 vwCl [(m22, ai g 72 W1), (m23, ai g 72 W2), (m24, ai g 72 W3), (k0, .inr (9, [.ref m0, .int s1, .int s2, .int s3, .int s4, .int s5, .int s6, .ref m7, .ref m8, .ref m9, .int (nI z), .int (nI t), .int s12, .ref m13, .ref m14, .ref m15, .int s16, .ref m17, .ref m18, .ref m19, .ref m20, .ref m21, .ref m22, .ref m23, .ref m24, .ref m25, .ref m26, .ref m27, .ref m28, .int s29, .ref m30, .int s31, .int s32, .int s33, .int s34, .int s35, .ref m36, .ref m37, .ref m38, .ref m39, .long s40])), (m13, ai g 6 K), (m14, ai g 6 L), (m15, ai g 96 V), (m20, ai g 168 Rb), (m25, ai g 9 Ty2_2)] H → va_D A [(m22, ai g 72 W1), (m23, ai g 72 W2), (m24, ai g 72 W3), (k0, .inr (9, [.ref m0, .int s1, .int s2, .int s3, .int s4, .int s5, .int s6, .ref m7, .ref m8, .ref m9, .int (nI z), .int (nI t), .int s12, .ref m13, .ref m14, .ref m15, .int s16, .ref m17, .ref m18, .ref m19, .ref m20, .ref m21, .ref m22, .ref m23, .ref m24, .ref m25, .ref m26, .ref m27, .ref m28, .int s29, .ref m30, .int s31, .int s32, .int s33, .int s34, .int s35, .ref m36, .ref m37, .ref m38, .ref m39, .long s40])), (m13, ai g 6 K), (m14, ai g 6 L), (m15, ai g 96 V), (m20, ai g 168 Rb), (m25, ai g 9 Ty2_2)] → va_S A s.heap H locs → lv_has ls 8 [(0, .ref k0), (1, .int (nI u)), (2, .int (nI sd)), (3, .int (nI ahd)), (4, .int x4), (5, .int x5), (6, .int x6), (7, .int (nI j))] → W p l e ({ frames := 3, cells := 0, slots := 0, locals := 69 }) s m [.ref k0, .int (nI u), .int (nI sd), .int (nI ahd)].toArray below meth c H locs 0 0 (MQ below (va_Qv (po_X9_layLaw_g g k0 m0 s1 s2 s3 s4 s5 s6 m7 m8 m9 s12 m13 m14 m15 s16 m17 m18 m19 m20 m21 m22 m23 m24 m25 m26 m27 m28 s29 m30 s31 s32 s33 s34 s35 m36 m37 m38 m39 s40 z t K L V Rb Ty W1 W2 W3 u sd ahd) (bk g A) A) [.ref k0, .int (nI u), .int (nI sd), .int (nI ahd)].toArray s 0 0 A) (F0 m 19 ls []) := by
    intro fu
    induction fu with
    | zero => intro j x4 x5 x6 hj hfu; exact absurd hfu (Nat.not_lt_zero _)
    | succ fu ih =>
      intro j x4 x5 x6 hj hfu H locs ls hP hD hS hl
      have ih19 := ih
      refine lv_iload hx hb dX9_layLaw_19 (lv_at hl 7 rfl) ?_
      refine lv_bipush (v := 9) hx hb dX9_layLaw_21 (by decide) ?_
      refine lv_icmp_ge (tgt := 91) hx hb dX9_layLaw_23 (by decide) (fun c23_3 => ?_) (fun c23_3 => ?_)
      · skip
        refine lv_bipush (v := 18) hx hb dX9_layLaw_91 (by decide) ?_
        refine lv_iload_n hx hb dX9_layLaw_93 rfl (lv_at hl 1 rfl) ?_
        refine lv_imul hx hb dX9_layLaw_94 ?_
        refine lv_iconst (v := 2) hx hb dX9_layLaw_95 (by decide) ?_
        refine lv_iload_n hx hb dX9_layLaw_96 rfl (lv_at hl 2 rfl) ?_
        refine lv_imul hx hb dX9_layLaw_97 ?_
        refine lv_iadd hx hb dX9_layLaw_98 ?_
        refine lv_iload_n hx hb dX9_layLaw_99 rfl (lv_at hl 3 rfl) ?_
        refine lv_iadd hx hb dX9_layLaw_100 ?_
        refine lv_topi (fun x_4 ex_4 => ?_)
        obtain rfl : x_4 = nI (18 * u + 2 * sd + ahd) := by rw [ex_4]; rw [show (18 : Int32) = nI 18 from rfl, show (2 : Int32) = nI 2 from rfl, pk_mul, pk_mul, nI_add, nI_add]
        refine lv_istore (lv' := [(7, .int (nI (18 * u + 2 * sd + ahd))), (0, .ref k0), (1, .int (nI u)), (2, .int (nI sd)), (3, .int (nI ahd)), (4, .int x4), (5, .int x5), (6, .int x6)]) hx hb dX9_layLaw_101 hl (by decide) rfl (fun ls hl => ?_)
        refine lv_aload_n hx hb dX9_layLaw_103 rfl (lv_at hl 1 rfl) ?_
        refine va_get (D := g.1) (ci := 9) (v := .ref m22) (C := RX9) (T := TX9) (N := 41) hx hb hts q_X9_layLaw_g_f9 hown hE.1 hP 3 rfl rfl 22 (by decide) (hts (.fieldLink RX9 46 "SoundLawsModel" "laws" "[I") q_X9_layLaw_g_1) (fun _ h9 => h9) rfl dX9_layLaw_104 ?_
        refine lv_iload hx hb dX9_layLaw_107 (lv_at hl 0 rfl) ?_
        refine lv_iload hx hb dX9_layLaw_109 (lv_at hl 5 rfl) ?_
        refine k_ast (x := x4) (18 * u + 2 * sd + ahd) rfl (by omega) hx hb hE hP hD hS 0 rfl (by decide) dX9_layLaw_111 (fun H locs hP hD hS => ?_)
        have hP : va_P g.1 vwCl [(m22, ai g 72 (upd W1 (18 * u + 2 * sd + ahd) x4)), (m23, ai g 72 W2), (m24, ai g 72 W3), (k0, .inr (9, [.ref m0, .int s1, .int s2, .int s3, .int s4, .int s5, .int s6, .ref m7, .ref m8, .ref m9, .int (nI z), .int (nI t), .int s12, .ref m13, .ref m14, .ref m15, .int s16, .ref m17, .ref m18, .ref m19, .ref m20, .ref m21, .ref m22, .ref m23, .ref m24, .ref m25, .ref m26, .ref m27, .ref m28, .int s29, .ref m30, .int s31, .int s32, .int s33, .int s34, .int s35, .ref m36, .ref m37, .ref m38, .ref m39, .long s40])), (m13, ai g 6 K), (m14, ai g 6 L), (m15, ai g 96 V), (m20, ai g 168 Rb), (m25, ai g 9 Ty2_2)] H := hP
        have hD : va_D A [(m22, ai g 72 (upd W1 (18 * u + 2 * sd + ahd) x4)), (m23, ai g 72 W2), (m24, ai g 72 W3), (k0, .inr (9, [.ref m0, .int s1, .int s2, .int s3, .int s4, .int s5, .int s6, .ref m7, .ref m8, .ref m9, .int (nI z), .int (nI t), .int s12, .ref m13, .ref m14, .ref m15, .int s16, .ref m17, .ref m18, .ref m19, .ref m20, .ref m21, .ref m22, .ref m23, .ref m24, .ref m25, .ref m26, .ref m27, .ref m28, .int s29, .ref m30, .int s31, .int s32, .int s33, .int s34, .int s35, .ref m36, .ref m37, .ref m38, .ref m39, .long s40])), (m13, ai g 6 K), (m14, ai g 6 L), (m15, ai g 96 V), (m20, ai g 168 Rb), (m25, ai g 9 Ty2_2)] := hD
        refine lv_aload_n hx hb dX9_layLaw_112 rfl (lv_at hl 1 rfl) ?_
        refine va_get (D := g.1) (ci := 9) (v := .ref m23) (C := RX9) (T := TX9) (N := 41) hx hb hts q_X9_layLaw_g_f9 hown hE.1 hP 3 rfl rfl 23 (by decide) (hts (.fieldLink RX9 49 "SoundLawsModel" "follows" "[I") q_X9_layLaw_g_2) (fun _ h9 => h9) rfl dX9_layLaw_113 ?_
        refine lv_iload hx hb dX9_layLaw_116 (lv_at hl 0 rfl) ?_
        refine lv_iload hx hb dX9_layLaw_118 (lv_at hl 6 rfl) ?_
        refine k_ast (x := x5) (18 * u + 2 * sd + ahd) rfl (by omega) hx hb hE hP hD hS 1 rfl (by decide) dX9_layLaw_120 (fun H locs hP hD hS => ?_)
        have hP : va_P g.1 vwCl [(m22, ai g 72 (upd W1 (18 * u + 2 * sd + ahd) x4)), (m23, ai g 72 (upd W2 (18 * u + 2 * sd + ahd) x5)), (m24, ai g 72 W3), (k0, .inr (9, [.ref m0, .int s1, .int s2, .int s3, .int s4, .int s5, .int s6, .ref m7, .ref m8, .ref m9, .int (nI z), .int (nI t), .int s12, .ref m13, .ref m14, .ref m15, .int s16, .ref m17, .ref m18, .ref m19, .ref m20, .ref m21, .ref m22, .ref m23, .ref m24, .ref m25, .ref m26, .ref m27, .ref m28, .int s29, .ref m30, .int s31, .int s32, .int s33, .int s34, .int s35, .ref m36, .ref m37, .ref m38, .ref m39, .long s40])), (m13, ai g 6 K), (m14, ai g 6 L), (m15, ai g 96 V), (m20, ai g 168 Rb), (m25, ai g 9 Ty2_2)] H := hP
        have hD : va_D A [(m22, ai g 72 (upd W1 (18 * u + 2 * sd + ahd) x4)), (m23, ai g 72 (upd W2 (18 * u + 2 * sd + ahd) x5)), (m24, ai g 72 W3), (k0, .inr (9, [.ref m0, .int s1, .int s2, .int s3, .int s4, .int s5, .int s6, .ref m7, .ref m8, .ref m9, .int (nI z), .int (nI t), .int s12, .ref m13, .ref m14, .ref m15, .int s16, .ref m17, .ref m18, .ref m19, .ref m20, .ref m21, .ref m22, .ref m23, .ref m24, .ref m25, .ref m26, .ref m27, .ref m28, .int s29, .ref m30, .int s31, .int s32, .int s33, .int s34, .int s35, .ref m36, .ref m37, .ref m38, .ref m39, .long s40])), (m13, ai g 6 K), (m14, ai g 6 L), (m15, ai g 96 V), (m20, ai g 168 Rb), (m25, ai g 9 Ty2_2)] := hD
        refine lv_aload_n hx hb dX9_layLaw_121 rfl (lv_at hl 1 rfl) ?_
        refine va_get (D := g.1) (ci := 9) (v := .ref m24) (C := RX9) (T := TX9) (N := 41) hx hb hts q_X9_layLaw_g_f9 hown hE.1 hP 3 rfl rfl 24 (by decide) (hts (.fieldLink RX9 52 "SoundLawsModel" "exceptions" "[I") q_X9_layLaw_g_3) (fun _ h9 => h9) rfl dX9_layLaw_122 ?_
        refine lv_iload hx hb dX9_layLaw_125 (lv_at hl 0 rfl) ?_
        refine lv_iload hx hb dX9_layLaw_127 (lv_at hl 7 rfl) ?_
        refine lv_iload hx hb dX9_layLaw_129 (lv_at hl 6 rfl) ?_
        refine lv_isub hx hb dX9_layLaw_131 ?_
        refine lv_topi (fun x_5 ex_5 => ?_)
        refine k_ast (x := x_5) (18 * u + 2 * sd + ahd) rfl (by omega) hx hb hE hP hD hS 2 rfl (by decide) dX9_layLaw_132 (fun H locs hP hD hS => ?_)
        have hP : va_P g.1 vwCl [(m22, ai g 72 (upd W1 (18 * u + 2 * sd + ahd) x4)), (m23, ai g 72 (upd W2 (18 * u + 2 * sd + ahd) x5)), (m24, ai g 72 (upd W3 (18 * u + 2 * sd + ahd) x_5)), (k0, .inr (9, [.ref m0, .int s1, .int s2, .int s3, .int s4, .int s5, .int s6, .ref m7, .ref m8, .ref m9, .int (nI z), .int (nI t), .int s12, .ref m13, .ref m14, .ref m15, .int s16, .ref m17, .ref m18, .ref m19, .ref m20, .ref m21, .ref m22, .ref m23, .ref m24, .ref m25, .ref m26, .ref m27, .ref m28, .int s29, .ref m30, .int s31, .int s32, .int s33, .int s34, .int s35, .ref m36, .ref m37, .ref m38, .ref m39, .long s40])), (m13, ai g 6 K), (m14, ai g 6 L), (m15, ai g 96 V), (m20, ai g 168 Rb), (m25, ai g 9 Ty2_2)] H := hP
        have hD : va_D A [(m22, ai g 72 (upd W1 (18 * u + 2 * sd + ahd) x4)), (m23, ai g 72 (upd W2 (18 * u + 2 * sd + ahd) x5)), (m24, ai g 72 (upd W3 (18 * u + 2 * sd + ahd) x_5)), (k0, .inr (9, [.ref m0, .int s1, .int s2, .int s3, .int s4, .int s5, .int s6, .ref m7, .ref m8, .ref m9, .int (nI z), .int (nI t), .int s12, .ref m13, .ref m14, .ref m15, .int s16, .ref m17, .ref m18, .ref m19, .ref m20, .ref m21, .ref m22, .ref m23, .ref m24, .ref m25, .ref m26, .ref m27, .ref m28, .int s29, .ref m30, .int s31, .int s32, .int s33, .int s34, .int s35, .ref m36, .ref m37, .ref m38, .ref m39, .long s40])), (m13, ai g 6 K), (m14, ai g 6 L), (m15, ai g 96 V), (m20, ai g 168 Rb), (m25, ai g 9 Ty2_2)] := hD
        refine W.widen (k := 0) (n := 0) (Nat.le_of_ble_eq_true rfl) (Nat.le_of_ble_eq_true rfl) ?_
        have hP9 := hP.sub (ws' := [(k0, .inr (9, [.ref m0, .int s1, .int s2, .int s3, .int s4, .int s5, .int s6, .ref m7, .ref m8, .ref m9, .int (nI z), .int (nI t), .int s12, .ref m13, .ref m14, .ref m15, .int s16, .ref m17, .ref m18, .ref m19, .ref m20, .ref m21, .ref m22, .ref m23, .ref m24, .ref m25, .ref m26, .ref m27, .ref m28, .int s29, .ref m30, .int s31, .int s32, .int s33, .int s34, .int s35, .ref m36, .ref m37, .ref m38, .ref m39, .long s40])), (m13, ai g 6 K), (m14, ai g 6 L), (m15, ai g 96 V), (m20, ai g 168 Rb), (m25, ai g 9 Ty2_2), (m22, ai g 72 (upd W1 (18 * u + 2 * sd + ahd) x4)), (m23, ai g 72 (upd W2 (18 * u + 2 * sd + ahd) x5)), (m24, ai g 72 (upd W3 (18 * u + 2 * sd + ahd) x_5))]) [3, 4, 5, 6, 7, 8, 0, 1, 2] rfl
        have hD9 := hD.sub (ws' := [(k0, .inr (9, [.ref m0, .int s1, .int s2, .int s3, .int s4, .int s5, .int s6, .ref m7, .ref m8, .ref m9, .int (nI z), .int (nI t), .int s12, .ref m13, .ref m14, .ref m15, .int s16, .ref m17, .ref m18, .ref m19, .ref m20, .ref m21, .ref m22, .ref m23, .ref m24, .ref m25, .ref m26, .ref m27, .ref m28, .int s29, .ref m30, .int s31, .int s32, .int s33, .int s34, .int s35, .ref m36, .ref m37, .ref m38, .ref m39, .long s40])), (m13, ai g 6 K), (m14, ai g 6 L), (m15, ai g 96 V), (m20, ai g 168 Rb), (m25, ai g 9 Ty2_2), (m22, ai g 72 (upd W1 (18 * u + 2 * sd + ahd) x4)), (m23, ai g 72 (upd W2 (18 * u + 2 * sd + ahd) x5)), (m24, ai g 72 (upd W3 (18 * u + 2 * sd + ahd) x_5))]) [3, 4, 5, 6, 7, 8, 0, 1, 2] (by decide) rfl
        exact k_rv hx hb hr hlocks hS hP9 hD9 ⟨(upd W1 (18 * u + 2 * sd + ahd) x4), (upd W2 (18 * u + 2 * sd + ahd) x5), (upd W3 (18 * u + 2 * sd + ahd) x_5), Ty2_2, rfl⟩ dX9_layLaw_133
      · skip
        have hj9 := lt_of_nle (k := 9) (n := j) (by decide) (by omega) c23_3
        refine lv_iload hx hb dX9_layLaw_26 (lv_at hl 6 rfl) ?_
        refine lv_aload_n hx hb dX9_layLaw_28 rfl (lv_at hl 0 rfl) ?_
        refine va_get (D := g.1) (ci := 9) (v := .ref m25) (C := RX9) (T := TX9) (N := 41) hx hb hts q_X9_layLaw_g_f9 hown hE.1 hP 3 rfl rfl 25 (by decide) (hts (.fieldLink RX9 55 "SoundLawsModel" "tally" "[I") q_X9_layLaw_g_4) (fun _ h9 => h9) rfl dX9_layLaw_29 ?_
        refine lv_iload hx hb dX9_layLaw_32 (lv_at hl 7 rfl) ?_
        refine k_ald j rfl (by omega) hx hb hE hP 8 rfl (by decide) dX9_layLaw_34 ?_
        refine lv_iadd hx hb dX9_layLaw_35 ?_
        refine lv_topi (fun x6b ex6b => ?_)
        refine lv_istore (lv' := [(6, .int x6b), (0, .ref k0), (1, .int (nI u)), (2, .int (nI sd)), (3, .int (nI ahd)), (4, .int x4), (5, .int x5), (7, .int (nI j))]) hx hb dX9_layLaw_36 hl (by decide) rfl (fun ls hl => ?_)
        refine lv_aload_n hx hb dX9_layLaw_38 rfl (lv_at hl 1 rfl) ?_
        refine va_get (D := g.1) (ci := 9) (v := .ref m25) (C := RX9) (T := TX9) (N := 41) hx hb hts q_X9_layLaw_g_f9 hown hE.1 hP 3 rfl rfl 25 (by decide) (hts (.fieldLink RX9 55 "SoundLawsModel" "tally" "[I") q_X9_layLaw_g_4) (fun _ h9 => h9) rfl dX9_layLaw_39 ?_
        refine lv_iload hx hb dX9_layLaw_42 (lv_at hl 7 rfl) ?_
        refine k_ald j rfl (by omega) hx hb hE hP 8 rfl (by decide) dX9_layLaw_44 ?_
        refine lv_iload hx hb dX9_layLaw_45 (lv_at hl 6 rfl) ?_
        refine lv_icmp_le (tgt := 55) hx hb dX9_layLaw_47 (by decide) (fun c47_6 => ?_) (fun c47_6 => ?_)
        · skip
          refine lv_iload hx hb dX9_layLaw_55 (lv_at hl 5 rfl) ?_
          refine lv_istore (lv' := [(4, .int x4), (6, .int x6b), (0, .ref k0), (1, .int (nI u)), (2, .int (nI sd)), (3, .int (nI ahd)), (5, .int x5), (7, .int (nI j))]) hx hb dX9_layLaw_57 hl (by decide) rfl (fun ls hl => ?_)
          refine lv_aload_n hx hb dX9_layLaw_59 rfl (lv_at hl 2 rfl) ?_
          refine va_get (D := g.1) (ci := 9) (v := .ref m25) (C := RX9) (T := TX9) (N := 41) hx hb hts q_X9_layLaw_g_f9 hown hE.1 hP 3 rfl rfl 25 (by decide) (hts (.fieldLink RX9 55 "SoundLawsModel" "tally" "[I") q_X9_layLaw_g_4) (fun _ h9 => h9) rfl dX9_layLaw_60 ?_
          refine lv_iload hx hb dX9_layLaw_63 (lv_at hl 7 rfl) ?_
          refine k_ald j rfl (by omega) hx hb hE hP 8 rfl (by decide) dX9_layLaw_65 ?_
          refine lv_iload hx hb dX9_layLaw_66 (lv_at hl 6 rfl) ?_
          refine lv_icmp_le (tgt := 81) hx hb dX9_layLaw_68 (by decide) (fun c68_7 => ?_) (fun c68_7 => ?_)
          · skip
            refine lv_iload hx hb dX9_layLaw_81 (lv_at hl 6 rfl) ?_
            refine lv_istore (lv' := [(5, .int x5), (4, .int x4), (6, .int x6b), (0, .ref k0), (1, .int (nI u)), (2, .int (nI sd)), (3, .int (nI ahd)), (7, .int (nI j))]) hx hb dX9_layLaw_83 hl (by decide) rfl (fun ls hl => ?_)
            refine lv_iinc (v := (nI (j + 1))) (lv' := [(7, .int (nI (j + 1))), (5, .int x5), (4, .int x4), (6, .int x6b), (0, .ref k0), (1, .int (nI u)), (2, .int (nI sd)), (3, .int (nI ahd))]) hx hb dX9_layLaw_85 hl (k := 7) rfl (nI_1 _) (by decide) rfl (fun ls hl => ?_)
            refine lv_goto (tgt := 19) hx hb dX9_layLaw_88 (by decide) ?_
            exact ih19 (j + 1) _ _ _ (by omega) (by omega) _ _ _ hP hD hS (lv_sub hl [4, 5, 6, 7, 2, 1, 3, 0] rfl)
          · skip
            refine lv_aload_n hx hb dX9_layLaw_71 rfl (lv_at hl 2 rfl) ?_
            refine va_get (D := g.1) (ci := 9) (v := .ref m25) (C := RX9) (T := TX9) (N := 41) hx hb hts q_X9_layLaw_g_f9 hown hE.1 hP 3 rfl rfl 25 (by decide) (hts (.fieldLink RX9 55 "SoundLawsModel" "tally" "[I") q_X9_layLaw_g_4) (fun _ h9 => h9) rfl dX9_layLaw_72 ?_
            refine lv_iload hx hb dX9_layLaw_75 (lv_at hl 7 rfl) ?_
            refine k_ald j rfl (by omega) hx hb hE hP 8 rfl (by decide) dX9_layLaw_77 ?_
            refine lv_goto (tgt := 83) hx hb dX9_layLaw_78 (by decide) ?_
            refine lv_topi (fun x5b ex5b => ?_)
            refine lv_istore (lv' := [(5, .int x5b), (4, .int x4), (6, .int x6b), (0, .ref k0), (1, .int (nI u)), (2, .int (nI sd)), (3, .int (nI ahd)), (7, .int (nI j))]) hx hb dX9_layLaw_83 hl (by decide) rfl (fun ls hl => ?_)
            refine lv_iinc (v := (nI (j + 1))) (lv' := [(7, .int (nI (j + 1))), (5, .int x5b), (4, .int x4), (6, .int x6b), (0, .ref k0), (1, .int (nI u)), (2, .int (nI sd)), (3, .int (nI ahd))]) hx hb dX9_layLaw_85 hl (k := 7) rfl (nI_1 _) (by decide) rfl (fun ls hl => ?_)
            refine lv_goto (tgt := 19) hx hb dX9_layLaw_88 (by decide) ?_
            exact ih19 (j + 1) _ _ _ (by omega) (by omega) _ _ _ hP hD hS (lv_sub hl [4, 5, 6, 7, 2, 1, 3, 0] rfl)
        · skip
          refine lv_iload hx hb dX9_layLaw_50 (lv_at hl 7 rfl) ?_
          refine lv_goto (tgt := 57) hx hb dX9_layLaw_52 (by decide) ?_
          refine lv_istore (lv' := [(4, .int (nI j)), (6, .int x6b), (0, .ref k0), (1, .int (nI u)), (2, .int (nI sd)), (3, .int (nI ahd)), (5, .int x5), (7, .int (nI j))]) hx hb dX9_layLaw_57 hl (by decide) rfl (fun ls hl => ?_)
          refine lv_aload_n hx hb dX9_layLaw_59 rfl (lv_at hl 2 rfl) ?_
          refine va_get (D := g.1) (ci := 9) (v := .ref m25) (C := RX9) (T := TX9) (N := 41) hx hb hts q_X9_layLaw_g_f9 hown hE.1 hP 3 rfl rfl 25 (by decide) (hts (.fieldLink RX9 55 "SoundLawsModel" "tally" "[I") q_X9_layLaw_g_4) (fun _ h9 => h9) rfl dX9_layLaw_60 ?_
          refine lv_iload hx hb dX9_layLaw_63 (lv_at hl 7 rfl) ?_
          refine k_ald j rfl (by omega) hx hb hE hP 8 rfl (by decide) dX9_layLaw_65 ?_
          refine lv_iload hx hb dX9_layLaw_66 (lv_at hl 6 rfl) ?_
          refine lv_icmp_le (tgt := 81) hx hb dX9_layLaw_68 (by decide) (fun c68_8 => ?_) (fun c68_8 => ?_)
          · skip
            refine lv_iload hx hb dX9_layLaw_81 (lv_at hl 6 rfl) ?_
            refine lv_istore (lv' := [(5, .int x5), (4, .int (nI j)), (6, .int x6b), (0, .ref k0), (1, .int (nI u)), (2, .int (nI sd)), (3, .int (nI ahd)), (7, .int (nI j))]) hx hb dX9_layLaw_83 hl (by decide) rfl (fun ls hl => ?_)
            refine lv_iinc (v := (nI (j + 1))) (lv' := [(7, .int (nI (j + 1))), (5, .int x5), (4, .int (nI j)), (6, .int x6b), (0, .ref k0), (1, .int (nI u)), (2, .int (nI sd)), (3, .int (nI ahd))]) hx hb dX9_layLaw_85 hl (k := 7) rfl (nI_1 _) (by decide) rfl (fun ls hl => ?_)
            refine lv_goto (tgt := 19) hx hb dX9_layLaw_88 (by decide) ?_
            exact ih19 (j + 1) _ _ _ (by omega) (by omega) _ _ _ hP hD hS (lv_sub hl [4, 5, 6, 7, 2, 1, 3, 0] rfl)
          · skip
            refine lv_aload_n hx hb dX9_layLaw_71 rfl (lv_at hl 2 rfl) ?_
            refine va_get (D := g.1) (ci := 9) (v := .ref m25) (C := RX9) (T := TX9) (N := 41) hx hb hts q_X9_layLaw_g_f9 hown hE.1 hP 3 rfl rfl 25 (by decide) (hts (.fieldLink RX9 55 "SoundLawsModel" "tally" "[I") q_X9_layLaw_g_4) (fun _ h9 => h9) rfl dX9_layLaw_72 ?_
            refine lv_iload hx hb dX9_layLaw_75 (lv_at hl 7 rfl) ?_
            refine k_ald j rfl (by omega) hx hb hE hP 8 rfl (by decide) dX9_layLaw_77 ?_
            refine lv_goto (tgt := 83) hx hb dX9_layLaw_78 (by decide) ?_
            refine lv_topi (fun x5b ex5b => ?_)
            refine lv_istore (lv' := [(5, .int x5b), (4, .int (nI j)), (6, .int x6b), (0, .ref k0), (1, .int (nI u)), (2, .int (nI sd)), (3, .int (nI ahd)), (7, .int (nI j))]) hx hb dX9_layLaw_83 hl (by decide) rfl (fun ls hl => ?_)
            refine lv_iinc (v := (nI (j + 1))) (lv' := [(7, .int (nI (j + 1))), (5, .int x5b), (4, .int (nI j)), (6, .int x6b), (0, .ref k0), (1, .int (nI u)), (2, .int (nI sd)), (3, .int (nI ahd))]) hx hb dX9_layLaw_85 hl (k := 7) rfl (nI_1 _) (by decide) rfl (fun ls hl => ?_)
            refine lv_goto (tgt := 19) hx hb dX9_layLaw_88 (by decide) ?_
            exact ih19 (j + 1) _ _ _ (by omega) (by omega) _ _ _ hP hD hS (lv_sub hl [4, 5, 6, 7, 2, 1, 3, 0] rfl)
  exact loop19 _ 0 (-1) 0 0 (Nat.zero_le 9) (Nat.lt_succ_self _) _ _ _ hP hD hS (lv_sub hl [4, 5, 6, 7, 3, 2, 1, 0] rfl)
def po_X9_freshen_g (g : GG) (k0 : Nat) (m0 : Nat) (s1 : Int32) (s2 : Int32) (s3 : Int32) (s4 : Int32) (s5 : Int32) (s6 : Int32) (m7 : Nat) (m8 : Nat) (m9 : Nat) (s12 : Int32) (m13 : Nat) (m14 : Nat) (m15 : Nat) (s16 : Int32) (m17 : Nat) (m18 : Nat) (m19 : Nat) (m20 : Nat) (m21 : Nat) (m22 : Nat) (m23 : Nat) (m24 : Nat) (m25 : Nat) (m26 : Nat) (m27 : Nat) (m28 : Nat) (s29 : Int32) (m30 : Nat) (s31 : Int32) (s32 : Int32) (s33 : Int32) (s34 : Int32) (s35 : Int32) (m36 : Nat) (m37 : Nat) (m38 : Nat) (m39 : Nat) (s40 : Int64) (z : Nat) (t : Nat) (K : Nat → Int32) (L : Nat → Int32) (V : Nat → Int32) (fc : Nat → Int32) (fh : Nat → Int32) (fs : Nat → Int32) (Rb : Nat → Int32) (Cg : Nat → Int32) (Ty : Nat → Int32) (W1 : Nat → Int32) (W2 : Nat → Int32) (W3 : Nat → Int32) : va_W → Prop := fun w => ∃ (o9 : Int32) (fc9 : Nat → Int32) (fh9 : Nat → Int32) (fs9 : Nat → Int32) (Rb9 : Nat → Int32) (Cg9 : Nat → Int32) (Ty9 : Nat → Int32) (W19 : Nat → Int32) (W29 : Nat → Int32) (W39 : Nat → Int32), w = [(k0, .inr (9, [.ref m0, .int s1, .int s2, .int s3, .int s4, .int s5, .int s6, .ref m7, .ref m8, .ref m9, .int (nI z), .int (nI t), .int s12, .ref m13, .ref m14, .ref m15, .int o9, .ref m17, .ref m18, .ref m19, .ref m20, .ref m21, .ref m22, .ref m23, .ref m24, .ref m25, .ref m26, .ref m27, .ref m28, .int s29, .ref m30, .int s31, .int s32, .int s33, .int s34, .int s35, .ref m36, .ref m37, .ref m38, .ref m39, .long s40])), (m13, ai g 6 K), (m14, ai g 6 L), (m15, ai g 96 V), (m17, ai g 63 fc9), (m18, ai g 7 fh9), (m19, ai g 4 fs9), (m20, ai g 168 Rb9), (m21, ai g 6 Cg9), (m25, ai g 9 Ty9), (m22, ai g 72 W19), (m23, ai g 72 W29), (m24, ai g 72 W39)] ∧ (FR z t K L Rb9) ∧ (rng 7 9 fh9)
theorem q_X9_freshen_g_f9 : ∀ w ∈ u_ws RX9 TX9 41, w ∈ wsX9_freshen := by decide +kernel
theorem q_X9_freshen_g_1 : (Cond.fieldLink RX9 153 "SoundLawsModel" "old" "Z") ∈ wsX9_freshen := by decide +kernel
theorem q_X9_freshen_g_2 : (Cond.fieldLink RX9 150 "SoundLawsModel" "tongues" "I") ∈ wsX9_freshen := by decide +kernel
set_option maxHeartbeats 1500000 in
set_option maxRecDepth 100000 in
theorem c_X9_freshen_g (l : Launch) (g : GG) (k0 : Nat) (m0 : Nat) (s1 : Int32) (s2 : Int32) (s3 : Int32) (s4 : Int32) (s5 : Int32) (s6 : Int32) (m7 : Nat) (m8 : Nat) (m9 : Nat) (s12 : Int32) (m13 : Nat) (m14 : Nat) (m15 : Nat) (s16 : Int32) (m17 : Nat) (m18 : Nat) (m19 : Nat) (m20 : Nat) (m21 : Nat) (m22 : Nat) (m23 : Nat) (m24 : Nat) (m25 : Nat) (m26 : Nat) (m27 : Nat) (m28 : Nat) (s29 : Int32) (m30 : Nat) (s31 : Int32) (s32 : Int32) (s33 : Int32) (s34 : Int32) (s35 : Int32) (m36 : Nat) (m37 : Nat) (m38 : Nat) (m39 : Nat) (s40 : Int64) (z : Nat) (t : Nat) (K : Nat → Int32) (L : Nat → Int32) (V : Nat → Int32) (fc : Nat → Int32) (fh : Nat → Int32) (fs : Nat → Int32) (Rb : Nat → Int32) (Cg : Nat → Int32) (Ty : Nat → Int32) (W1 : Nat → Int32) (W2 : Nat → Int32) (W3 : Nat → Int32) (hg : gst z t K L V) (hh : rng 7 9 fh) (hfr : s16 = 0 → FR z t K L Rb) (sz : Nat) : MetV l yX9_freshen wsX9_freshen ({ frames := 7, cells := 0, slots := 0, locals := 160 }) g [.ref k0] [(k0, .inr (9, [.ref m0, .int s1, .int s2, .int s3, .int s4, .int s5, .int s6, .ref m7, .ref m8, .ref m9, .int (nI z), .int (nI t), .int s12, .ref m13, .ref m14, .ref m15, .int s16, .ref m17, .ref m18, .ref m19, .ref m20, .ref m21, .ref m22, .ref m23, .ref m24, .ref m25, .ref m26, .ref m27, .ref m28, .int s29, .ref m30, .int s31, .int s32, .int s33, .int s34, .int s35, .ref m36, .ref m37, .ref m38, .ref m39, .long s40])), (m13, ai g 6 K), (m14, ai g 6 L), (m15, ai g 96 V), (m17, ai g 63 fc), (m18, ai g 7 fh), (m19, ai g 4 fs), (m20, ai g 168 Rb), (m21, ai g 6 Cg), (m25, ai g 9 Ty), (m22, ai g 72 W1), (m23, ai g 72 W2), (m24, ai g 72 W3)] sz (po_X9_freshen_g g k0 m0 s1 s2 s3 s4 s5 s6 m7 m8 m9 s12 m13 m14 m15 s16 m17 m18 m19 m20 m21 m22 m23 m24 m25 m26 m27 m28 s29 m30 s31 s32 s33 s34 s35 m36 m37 m38 m39 s40 z t K L V fc fh fs Rb Cg Ty W1 W2 W3) 0 0 := by
  refine k_of (l := l) (y := yX9_freshen) (ws := wsX9_freshen) (rm := { frames := 7, cells := 0, slots := 0, locals := 160 }) (mc := 0) (ms := 0) (av := [.ref k0]) (g := g) (wc := [(k0, .inr (9, [.ref m0, .int s1, .int s2, .int s3, .int s4, .int s5, .int s6, .ref m7, .ref m8, .ref m9, .int (nI z), .int (nI t), .int s12, .ref m13, .ref m14, .ref m15, .int s16, .ref m17, .ref m18, .ref m19, .ref m20, .ref m21, .ref m22, .ref m23, .ref m24, .ref m25, .ref m26, .ref m27, .ref m28, .int s29, .ref m30, .int s31, .int s32, .int s33, .int s34, .int s35, .ref m36, .ref m37, .ref m38, .ref m39, .long s40])), (m13, ai g 6 K), (m14, ai g 6 L), (m15, ai g 96 V), (m17, ai g 63 fc), (m18, ai g 7 fh), (m19, ai g 4 fs), (m20, ai g 168 Rb), (m21, ai g 6 Cg), (m25, ai g 9 Ty), (m22, ai g 72 W1), (m23, ai g 72 W2), (m24, ai g 72 W3)]) (Qc := fun A => va_Qv (po_X9_freshen_g g k0 m0 s1 s2 s3 s4 s5 s6 m7 m8 m9 s12 m13 m14 m15 s16 m17 m18 m19 m20 m21 m22 m23 m24 m25 m26 m27 m28 s29 m30 s31 s32 s33 s34 s35 m36 m37 m38 m39 s40 z t K L V fc fh fs Rb Cg Ty W1 W2 W3) (bk g A) A) (cc := cX9_freshen) (maxL := 2) (ret := none) (by decide) rfl (Nat.le_of_ble_eq_true rfl) ?_ sz
  intro p e s m below meth c hx hb hr hts hown hlocks hnm hml A hA hE hZ hP hD hS ls hl
  have hown : s.vm.findClass RX9 = some m.cls := hown
  have hl : lv_has ls 2 [(0, .ref k0)] := hl
  obtain ⟨hz, hzt, ht4, hK, hL, hV⟩ := id hg
  refine lv_aload_n hx hb dX9_freshen_0 rfl (lv_at hl 0 rfl) ?_
  refine va_get (D := g.1) (ci := 9) (v := .int s16) (C := RX9) (T := TX9) (N := 41) hx hb hts q_X9_freshen_g_f9 hown hE.1 hP 0 rfl rfl 16 (by decide) (hts (.fieldLink RX9 153 "SoundLawsModel" "old" "Z") q_X9_freshen_g_1) (fun _ h9 => h9) rfl dX9_freshen_1 ?_
  refine lv_if_ne (tgt := 8) hx hb dX9_freshen_4 (by decide) (fun c4_1 => ?_) (fun c4_1 => ?_)
  · skip
    refine lv_aload_n hx hb dX9_freshen_8 rfl (lv_at hl 0 rfl) ?_
    refine k_cv (wr := [(m25, ai g 9 Ty), (m22, ai g 72 W1), (m23, ai g 72 W2), (m24, ai g 72 W3)]) hP hD hS hA [0, 1, 2, 3, 4, 5, 6, 7, 8] [9, 10, 11, 12] rfl rfl (by decide) (by decide) (va_runV (As := []) (rest := []) ⟨hx, hb, hml, hown, hts⟩ (c_X9_laySets_g l g k0 m0 s1 s2 s3 s4 s5 s6 m7 m8 m9 s12 m13 m14 m15 s16 m17 m18 m19 m20 m21 m22 m23 m24 m25 m26 m27 m28 s29 m30 s31 s32 s33 s34 s35 m36 m37 m38 m39 s40 z t K L V fc fh fs Rb Cg (by first | assumption | omega) (by first | assumption | omega) s.heap.size) (cwV 0 hts gX9_freshen_X9_laySets rfl rfl rfl (by decide +kernel) ⟨Nat.le_of_ble_eq_true rfl, Nat.le_of_ble_eq_true rfl⟩) (k_preV hE hZ hP hD hS hA [0, 1, 2, 3, 4, 5, 6, 7, 8] rfl (by decide) (va_recv hE.1 hP (ci := 9) (q0 := 0) rfl rfl)) rfl rfl hl.1 rfl (lv_room (Nat.le_of_ble_eq_true rfl)) dX9_freshen_9 ⟨Nat.le_of_ble_eq_true rfl, Nat.le_of_ble_eq_true rfl⟩) (fun w1 H locs hw hP hD hS => ?_)
    obtain ⟨fc4_3, fh4_4, fs4_5, Rb4_6, Cg4_7, rfl, hF_8, hh4_9⟩ := hw
    have hP : va_P g.1 vwCl [(m25, ai g 9 Ty), (m22, ai g 72 W1), (m23, ai g 72 W2), (m24, ai g 72 W3), (k0, .inr (9, [.ref m0, .int s1, .int s2, .int s3, .int s4, .int s5, .int s6, .ref m7, .ref m8, .ref m9, .int (nI z), .int (nI t), .int s12, .ref m13, .ref m14, .ref m15, .int s16, .ref m17, .ref m18, .ref m19, .ref m20, .ref m21, .ref m22, .ref m23, .ref m24, .ref m25, .ref m26, .ref m27, .ref m28, .int s29, .ref m30, .int s31, .int s32, .int s33, .int s34, .int s35, .ref m36, .ref m37, .ref m38, .ref m39, .long s40])), (m13, ai g 6 K), (m14, ai g 6 L), (m15, ai g 96 V), (m17, ai g 63 fc4_3), (m18, ai g 7 fh4_4), (m19, ai g 4 fs4_5), (m20, ai g 168 Rb4_6), (m21, ai g 6 Cg4_7)] H := hP
    have hD : va_D A [(m25, ai g 9 Ty), (m22, ai g 72 W1), (m23, ai g 72 W2), (m24, ai g 72 W3), (k0, .inr (9, [.ref m0, .int s1, .int s2, .int s3, .int s4, .int s5, .int s6, .ref m7, .ref m8, .ref m9, .int (nI z), .int (nI t), .int s12, .ref m13, .ref m14, .ref m15, .int s16, .ref m17, .ref m18, .ref m19, .ref m20, .ref m21, .ref m22, .ref m23, .ref m24, .ref m25, .ref m26, .ref m27, .ref m28, .int s29, .ref m30, .int s31, .int s32, .int s33, .int s34, .int s35, .ref m36, .ref m37, .ref m38, .ref m39, .long s40])), (m13, ai g 6 K), (m14, ai g 6 L), (m15, ai g 96 V), (m17, ai g 63 fc4_3), (m18, ai g 7 fh4_4), (m19, ai g 4 fs4_5), (m20, ai g 168 Rb4_6), (m21, ai g 6 Cg4_7)] := hD
    refine lv_iconst (v := 0) hx hb dX9_freshen_12 (by decide) ?_
    refine lv_istore_n (lv' := [(1, .int 0), (0, .ref k0)]) hx hb dX9_freshen_13 rfl hl (by decide) rfl (fun ls hl => ?_)
    have loop14 : ∀ (fu : Nat) (j : Nat) (T9 X1 X2 X3 : Nat → Int32), (hj : j ≤ 18 * t) → 18 * t - j < fu → ∀ (H : Heap) (locs : List Loc) (ls : Array Slot), va_P g.1 vwCl [(m25, ai g 9 T9), (m22, ai g 72 X1), (m23, ai g 72 X2), (m24, ai g 72 X3), (k0, .inr (9, [.ref m0, .int s1, .int s2, .int s3, .int s4, .int s5, .int s6, .ref m7, .ref m8, .ref m9, .int (nI z), .int (nI t), .int s12, .ref m13, .ref m14, .ref m15, .int s16, .ref m17, .ref m18, .ref m19, .ref m20, .ref m21, .ref m22, .ref m23, .ref m24, .ref m25, .ref m26, .ref m27, .ref m28, .int s29, .ref m30, .int s31, .int s32, .int s33, .int s34, .int s35, .ref m36, .ref m37, .ref m38, .ref m39, .long s40])), (m13, ai g 6 K), (m14, ai g 6 L), (m15, ai g 96 V), (m17, ai g 63 fc4_3), (m18, ai g 7 fh4_4), (m19, ai g 4 fs4_5), (m20, ai g 168 Rb4_6), (m21, ai g 6 Cg4_7)] H → va_D A [(m25, ai g 9 T9), (m22, ai g 72 X1), (m23, ai g 72 X2), (m24, ai g 72 X3), (k0, .inr (9, [.ref m0, .int s1, .int s2, .int s3, .int s4, .int s5, .int s6, .ref m7, .ref m8, .ref m9, .int (nI z), .int (nI t), .int s12, .ref m13, .ref m14, .ref m15, .int s16, .ref m17, .ref m18, .ref m19, .ref m20, .ref m21, .ref m22, .ref m23, .ref m24, .ref m25, .ref m26, .ref m27, .ref m28, .int s29, .ref m30, .int s31, .int s32, .int s33, .int s34, .int s35, .ref m36, .ref m37, .ref m38, .ref m39, .long s40])), (m13, ai g 6 K), (m14, ai g 6 L), (m15, ai g 96 V), (m17, ai g 63 fc4_3), (m18, ai g 7 fh4_4), (m19, ai g 4 fs4_5), (m20, ai g 168 Rb4_6), (m21, ai g 6 Cg4_7)] → va_S A s.heap H locs → lv_has ls 2 [(0, .ref k0), (1, .int (nI j))] → W p l e ({ frames := 7, cells := 0, slots := 0, locals := 160 }) s m [.ref k0].toArray below meth c H locs 0 0 (MQ below (va_Qv (po_X9_freshen_g g k0 m0 s1 s2 s3 s4 s5 s6 m7 m8 m9 s12 m13 m14 m15 s16 m17 m18 m19 m20 m21 m22 m23 m24 m25 m26 m27 m28 s29 m30 s31 s32 s33 s34 s35 m36 m37 m38 m39 s40 z t K L V fc fh fs Rb Cg Ty W1 W2 W3) (bk g A) A) [.ref k0].toArray s 0 0 A) (F0 m 14 ls []) := by
      intro fu
      induction fu with
      | zero => intro j T9 X1 X2 X3 hj hfu; exact absurd hfu (Nat.not_lt_zero _)
      | succ fu ih =>
        intro j T9 X1 X2 X3 hj hfu H locs ls hP hD hS hl
        have ih14 := ih
        refine lv_iload_n hx hb dX9_freshen_14 rfl (lv_at hl 1 rfl) ?_
        refine lv_bipush (v := 18) hx hb dX9_freshen_15 (by decide) ?_
        refine lv_aload_n hx hb dX9_freshen_17 rfl (lv_at hl 0 rfl) ?_
        refine va_get (D := g.1) (ci := 9) (v := .int (nI t)) (C := RX9) (T := TX9) (N := 41) hx hb hts q_X9_freshen_g_f9 hown hE.1 hP 4 rfl rfl 11 (by decide) (hts (.fieldLink RX9 150 "SoundLawsModel" "tongues" "I") q_X9_freshen_g_2) (fun _ h9 => h9) rfl dX9_freshen_18 ?_
        refine lv_imul hx hb dX9_freshen_21 ?_
        refine lv_topi (fun x_10 ex_10 => ?_)
        obtain rfl : x_10 = nI (18 * t) := by rw [ex_10]; rw [show (18 : Int32) = nI 18 from rfl, pk_mul]
        refine lv_icmp_ge (tgt := 48) hx hb dX9_freshen_22 (by decide) (fun c22_11 => ?_) (fun c22_11 => ?_)
        · skip
          refine lv_aload_n hx hb dX9_freshen_48 rfl (lv_at hl 0 rfl) ?_
          refine lv_iconst (v := 0) hx hb dX9_freshen_49 (by decide) ?_
          refine va_put (D := g.1) (ci := 9) (v := .int 0) (ty := .boolean) (C := RX9) (T := TX9) (N := 41) hx hb hts q_X9_freshen_g_f9 tyX9 tyX9_ok nmX9 hown hE.1 hP hD hS 4 rfl rfl 16 (by decide) (hts (.fieldLink RX9 153 "SoundLawsModel" "old" "Z") q_X9_freshen_g_1) (fun _ h9 => h9) rfl (by decide +kernel) rfl rfl (Nat.le_of_ble_eq_true rfl) dX9_freshen_50 (fun H locs hP hD hS => ?_)
          have hP : va_P g.1 vwCl [(m25, ai g 9 T9), (m22, ai g 72 X1), (m23, ai g 72 X2), (m24, ai g 72 X3), (k0, .inr (9, [.ref m0, .int s1, .int s2, .int s3, .int s4, .int s5, .int s6, .ref m7, .ref m8, .ref m9, .int (nI z), .int (nI t), .int s12, .ref m13, .ref m14, .ref m15, .int 0, .ref m17, .ref m18, .ref m19, .ref m20, .ref m21, .ref m22, .ref m23, .ref m24, .ref m25, .ref m26, .ref m27, .ref m28, .int s29, .ref m30, .int s31, .int s32, .int s33, .int s34, .int s35, .ref m36, .ref m37, .ref m38, .ref m39, .long s40])), (m13, ai g 6 K), (m14, ai g 6 L), (m15, ai g 96 V), (m17, ai g 63 fc4_3), (m18, ai g 7 fh4_4), (m19, ai g 4 fs4_5), (m20, ai g 168 Rb4_6), (m21, ai g 6 Cg4_7)] H := hP
          have hD : va_D A [(m25, ai g 9 T9), (m22, ai g 72 X1), (m23, ai g 72 X2), (m24, ai g 72 X3), (k0, .inr (9, [.ref m0, .int s1, .int s2, .int s3, .int s4, .int s5, .int s6, .ref m7, .ref m8, .ref m9, .int (nI z), .int (nI t), .int s12, .ref m13, .ref m14, .ref m15, .int 0, .ref m17, .ref m18, .ref m19, .ref m20, .ref m21, .ref m22, .ref m23, .ref m24, .ref m25, .ref m26, .ref m27, .ref m28, .int s29, .ref m30, .int s31, .int s32, .int s33, .int s34, .int s35, .ref m36, .ref m37, .ref m38, .ref m39, .long s40])), (m13, ai g 6 K), (m14, ai g 6 L), (m15, ai g 96 V), (m17, ai g 63 fc4_3), (m18, ai g 7 fh4_4), (m19, ai g 4 fs4_5), (m20, ai g 168 Rb4_6), (m21, ai g 6 Cg4_7)] := hD
          refine W.widen (k := 0) (n := 0) (Nat.le_of_ble_eq_true rfl) (Nat.le_of_ble_eq_true rfl) ?_
          have hP9 := hP.sub (ws' := [(k0, .inr (9, [.ref m0, .int s1, .int s2, .int s3, .int s4, .int s5, .int s6, .ref m7, .ref m8, .ref m9, .int (nI z), .int (nI t), .int s12, .ref m13, .ref m14, .ref m15, .int 0, .ref m17, .ref m18, .ref m19, .ref m20, .ref m21, .ref m22, .ref m23, .ref m24, .ref m25, .ref m26, .ref m27, .ref m28, .int s29, .ref m30, .int s31, .int s32, .int s33, .int s34, .int s35, .ref m36, .ref m37, .ref m38, .ref m39, .long s40])), (m13, ai g 6 K), (m14, ai g 6 L), (m15, ai g 96 V), (m17, ai g 63 fc4_3), (m18, ai g 7 fh4_4), (m19, ai g 4 fs4_5), (m20, ai g 168 Rb4_6), (m21, ai g 6 Cg4_7), (m25, ai g 9 T9), (m22, ai g 72 X1), (m23, ai g 72 X2), (m24, ai g 72 X3)]) [4, 5, 6, 7, 8, 9, 10, 11, 12, 0, 1, 2, 3] rfl
          have hD9 := hD.sub (ws' := [(k0, .inr (9, [.ref m0, .int s1, .int s2, .int s3, .int s4, .int s5, .int s6, .ref m7, .ref m8, .ref m9, .int (nI z), .int (nI t), .int s12, .ref m13, .ref m14, .ref m15, .int 0, .ref m17, .ref m18, .ref m19, .ref m20, .ref m21, .ref m22, .ref m23, .ref m24, .ref m25, .ref m26, .ref m27, .ref m28, .int s29, .ref m30, .int s31, .int s32, .int s33, .int s34, .int s35, .ref m36, .ref m37, .ref m38, .ref m39, .long s40])), (m13, ai g 6 K), (m14, ai g 6 L), (m15, ai g 96 V), (m17, ai g 63 fc4_3), (m18, ai g 7 fh4_4), (m19, ai g 4 fs4_5), (m20, ai g 168 Rb4_6), (m21, ai g 6 Cg4_7), (m25, ai g 9 T9), (m22, ai g 72 X1), (m23, ai g 72 X2), (m24, ai g 72 X3)]) [4, 5, 6, 7, 8, 9, 10, 11, 12, 0, 1, 2, 3] (by decide) rfl
          exact k_rv hx hb hr hlocks hS hP9 hD9 ⟨0, fc4_3, fh4_4, fs4_5, Rb4_6, Cg4_7, T9, X1, X2, X3, rfl, hF_8, hh4_9⟩ dX9_freshen_53
        · skip
          have hj9 := lt_of_nle (k := 18 * t) (n := j) (by omega) (by omega) c22_11
          refine lv_aload_n hx hb dX9_freshen_25 rfl (lv_at hl 0 rfl) ?_
          refine lv_iload_n hx hb dX9_freshen_26 rfl (lv_at hl 1 rfl) ?_
          refine lv_bipush (v := 18) hx hb dX9_freshen_27 (by decide) ?_
          refine lv_idiv hx hb dX9_freshen_29 (by decide) ?_
          refine lv_topi (fun x_12 ex_12 => ?_)
          obtain rfl : x_12 = nI (j / 18) := by rw [ex_12]; exact pk_div (d := 18) (by omega) (by decide) (by decide)
          refine lv_iload_n hx hb dX9_freshen_30 rfl (lv_at hl 1 rfl) ?_
          refine lv_bipush (v := 18) hx hb dX9_freshen_31 (by decide) ?_
          refine lv_irem hx hb dX9_freshen_33 (by decide) ?_
          refine lv_topi (fun x_13 ex_13 => ?_)
          obtain rfl : x_13 = nI (j % 18) := by rw [ex_13]; exact pk_rem (d := 18) (by omega) (by decide) (by decide)
          refine lv_iconst (v := 2) hx hb dX9_freshen_34 (by decide) ?_
          refine lv_idiv hx hb dX9_freshen_35 (by decide) ?_
          refine lv_topi (fun x_14 ex_14 => ?_)
          obtain rfl : x_14 = nI (j % 18 / 2) := by rw [ex_14]; exact pk_div (d := 2) (by omega) (by decide) (by decide)
          refine lv_iload_n hx hb dX9_freshen_36 rfl (lv_at hl 1 rfl) ?_
          refine lv_iconst (v := 2) hx hb dX9_freshen_37 (by decide) ?_
          refine lv_irem hx hb dX9_freshen_38 (by decide) ?_
          refine lv_topi (fun x_15 ex_15 => ?_)
          obtain rfl : x_15 = nI (j % 2) := by rw [ex_15]; exact pk_rem (d := 2) (by omega) (by decide) (by decide)
          refine k_cv (wr := [(m17, ai g 63 fc4_3), (m18, ai g 7 fh4_4), (m19, ai g 4 fs4_5), (m21, ai g 6 Cg4_7)]) hP hD hS hA [4, 5, 6, 7, 11, 0, 1, 2, 3] [8, 9, 10, 12] rfl rfl (by decide) (by decide) (va_runV (As := [.int (nI (j / 18)), .int (nI (j % 18 / 2)), .int (nI (j % 2))]) (rest := []) ⟨hx, hb, hml, hown, hts⟩ (c_X9_layLaw_g l g k0 m0 s1 s2 s3 s4 s5 s6 m7 m8 m9 s12 m13 m14 m15 s16 m17 m18 m19 m20 m21 m22 m23 m24 m25 m26 m27 m28 s29 m30 s31 s32 s33 s34 s35 m36 m37 m38 m39 s40 z t K L V Rb4_6 T9 X1 X2 X3 (j / 18) (j % 18 / 2) (j % 2) (by first | assumption | omega) (by first | assumption | omega) (by first | assumption | omega) (by first | assumption | omega) H.size) (cwV 3 hts gX9_freshen_X9_layLaw rfl rfl rfl (by decide +kernel) ⟨Nat.le_of_ble_eq_true rfl, Nat.le_of_ble_eq_true rfl⟩) (k_preV hE hZ hP hD hS hA [4, 5, 6, 7, 11, 0, 1, 2, 3] rfl (by decide) (va_recv hE.1 hP (ci := 9) (q0 := 4) rfl rfl)) rfl rfl hl.1 rfl (lv_room (Nat.le_of_ble_eq_true rfl)) dX9_freshen_39 ⟨Nat.le_of_ble_eq_true rfl, Nat.le_of_ble_eq_true rfl⟩) (fun w1 H locs hw hP hD hS => ?_)
          obtain ⟨X1_17, X2_18, X3_19, Ty2_20, rfl⟩ := hw
          have hP : va_P g.1 vwCl [(m17, ai g 63 fc4_3), (m18, ai g 7 fh4_4), (m19, ai g 4 fs4_5), (m21, ai g 6 Cg4_7), (k0, .inr (9, [.ref m0, .int s1, .int s2, .int s3, .int s4, .int s5, .int s6, .ref m7, .ref m8, .ref m9, .int (nI z), .int (nI t), .int s12, .ref m13, .ref m14, .ref m15, .int s16, .ref m17, .ref m18, .ref m19, .ref m20, .ref m21, .ref m22, .ref m23, .ref m24, .ref m25, .ref m26, .ref m27, .ref m28, .int s29, .ref m30, .int s31, .int s32, .int s33, .int s34, .int s35, .ref m36, .ref m37, .ref m38, .ref m39, .long s40])), (m13, ai g 6 K), (m14, ai g 6 L), (m15, ai g 96 V), (m20, ai g 168 Rb4_6), (m25, ai g 9 Ty2_20), (m22, ai g 72 X1_17), (m23, ai g 72 X2_18), (m24, ai g 72 X3_19)] H := hP
          have hD : va_D A [(m17, ai g 63 fc4_3), (m18, ai g 7 fh4_4), (m19, ai g 4 fs4_5), (m21, ai g 6 Cg4_7), (k0, .inr (9, [.ref m0, .int s1, .int s2, .int s3, .int s4, .int s5, .int s6, .ref m7, .ref m8, .ref m9, .int (nI z), .int (nI t), .int s12, .ref m13, .ref m14, .ref m15, .int s16, .ref m17, .ref m18, .ref m19, .ref m20, .ref m21, .ref m22, .ref m23, .ref m24, .ref m25, .ref m26, .ref m27, .ref m28, .int s29, .ref m30, .int s31, .int s32, .int s33, .int s34, .int s35, .ref m36, .ref m37, .ref m38, .ref m39, .long s40])), (m13, ai g 6 K), (m14, ai g 6 L), (m15, ai g 96 V), (m20, ai g 168 Rb4_6), (m25, ai g 9 Ty2_20), (m22, ai g 72 X1_17), (m23, ai g 72 X2_18), (m24, ai g 72 X3_19)] := hD
          refine lv_iinc (v := (nI (j + 1))) (lv' := [(1, .int (nI (j + 1))), (0, .ref k0)]) hx hb dX9_freshen_42 hl (k := 1) rfl (nI_1 _) (by decide) rfl (fun ls hl => ?_)
          refine lv_goto (tgt := 14) hx hb dX9_freshen_45 (by decide) ?_
          exact ih14 (j + 1) _ _ _ _ (by omega) (by omega) _ _ _ (hP.sub [9, 10, 11, 12, 4, 5, 6, 7, 0, 1, 2, 8, 3] rfl) (hD.sub [9, 10, 11, 12, 4, 5, 6, 7, 0, 1, 2, 8, 3] (by decide) rfl) hS (lv_sub hl [1, 0] rfl)
    exact loop14 _ 0 Ty W1 W2 W3 (Nat.zero_le _) (Nat.lt_succ_self _) _ _ _ hP hD hS (lv_sub hl [1, 0] rfl)
  · skip
    refine W.widen (k := 0) (n := 0) (Nat.le_of_ble_eq_true rfl) (Nat.le_of_ble_eq_true rfl) ?_
    exact k_rv hx hb hr hlocks hS hP hD ⟨s16, fc, fh, fs, Rb, Cg, Ty, W1, W2, W3, rfl, (hfr c4_1), hh⟩ dX9_freshen_7

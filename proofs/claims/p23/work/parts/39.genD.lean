def po_X9_lawAt_g (g : GG) (k0 : Nat) (m0 : Nat) (s1 : Int32) (s2 : Int32) (s3 : Int32) (s4 : Int32) (s5 : Int32) (s6 : Int32) (m7 : Nat) (m8 : Nat) (m9 : Nat) (s10 : Int32) (s12 : Int32) (m13 : Nat) (m14 : Nat) (m15 : Nat) (s16 : Int32) (m17 : Nat) (m18 : Nat) (m19 : Nat) (m20 : Nat) (m21 : Nat) (m22 : Nat) (m23 : Nat) (m24 : Nat) (m25 : Nat) (m26 : Nat) (m27 : Nat) (m28 : Nat) (s29 : Int32) (m30 : Nat) (s31 : Int32) (s32 : Int32) (s33 : Int32) (s34 : Int32) (s35 : Int32) (m36 : Nat) (m37 : Nat) (m38 : Nat) (m39 : Nat) (s40 : Int64) (t : Nat) (Rb : Nat → Int32) (W1 : Nat → Int32) (k : Nat) (u : Nat) (n : Nat) : Int32 → va_W → Prop := fun (r : Int32) w => w = [(k0, .inr (9, [.ref m0, .int s1, .int s2, .int s3, .int s4, .int s5, .int s6, .ref m7, .ref m8, .ref m9, .int s10, .int (nI t), .int s12, .ref m13, .ref m14, .ref m15, .int s16, .ref m17, .ref m18, .ref m19, .ref m20, .ref m21, .ref m22, .ref m23, .ref m24, .ref m25, .ref m26, .ref m27, .ref m28, .int s29, .ref m30, .int s31, .int s32, .int s33, .int s34, .int s35, .ref m36, .ref m37, .ref m38, .ref m39, .long s40])), (m20, ai g 168 Rb), (m22, ai g 72 W1)]
theorem q_X9_lawAt_g_f9 : ∀ w ∈ u_ws RX9 TX9 41, w ∈ wsX9_lawAt := by decide +kernel
theorem q_X9_lawAt_g_1 : (Cond.fieldLink RX9 46 "SoundLawsModel" "laws" "[I") ∈ wsX9_lawAt := by decide +kernel
set_option maxHeartbeats 1500000 in
set_option maxRecDepth 100000 in
theorem c_X9_lawAt_g (l : Launch) (g : GG) (k0 : Nat) (m0 : Nat) (s1 : Int32) (s2 : Int32) (s3 : Int32) (s4 : Int32) (s5 : Int32) (s6 : Int32) (m7 : Nat) (m8 : Nat) (m9 : Nat) (s10 : Int32) (s12 : Int32) (m13 : Nat) (m14 : Nat) (m15 : Nat) (s16 : Int32) (m17 : Nat) (m18 : Nat) (m19 : Nat) (m20 : Nat) (m21 : Nat) (m22 : Nat) (m23 : Nat) (m24 : Nat) (m25 : Nat) (m26 : Nat) (m27 : Nat) (m28 : Nat) (s29 : Int32) (m30 : Nat) (s31 : Int32) (s32 : Int32) (s33 : Int32) (s34 : Int32) (s35 : Int32) (m36 : Nat) (m37 : Nat) (m38 : Nat) (m39 : Nat) (s40 : Int64) (t : Nat) (Rb : Nat → Int32) (W1 : Nat → Int32) (k : Nat) (u : Nat) (n : Nat) (ht : 2 ≤ t) (ht4 : t ≤ 4) (hk : k < 6) (hn : n < 4) (hu : u < t) (hv : ∃ v, v < 9 ∧ Rb (28 * k + 7 * n + (2 * t - 2)) = nI v) (sz : Nat) : MetI l yX9_lawAt wsX9_lawAt ({ frames := 2, cells := 0, slots := 0, locals := 43 }) g [.ref k0, .int (nI k), .int (nI u), .int (nI n)] [(k0, .inr (9, [.ref m0, .int s1, .int s2, .int s3, .int s4, .int s5, .int s6, .ref m7, .ref m8, .ref m9, .int s10, .int (nI t), .int s12, .ref m13, .ref m14, .ref m15, .int s16, .ref m17, .ref m18, .ref m19, .ref m20, .ref m21, .ref m22, .ref m23, .ref m24, .ref m25, .ref m26, .ref m27, .ref m28, .int s29, .ref m30, .int s31, .int s32, .int s33, .int s34, .int s35, .ref m36, .ref m37, .ref m38, .ref m39, .long s40])), (m20, ai g 168 Rb), (m22, ai g 72 W1)] sz (po_X9_lawAt_g g k0 m0 s1 s2 s3 s4 s5 s6 m7 m8 m9 s10 s12 m13 m14 m15 s16 m17 m18 m19 m20 m21 m22 m23 m24 m25 m26 m27 m28 s29 m30 s31 s32 s33 s34 s35 m36 m37 m38 m39 s40 t Rb W1 k u n) 0 0 := by
  refine k_of (l := l) (y := yX9_lawAt) (ws := wsX9_lawAt) (rm := { frames := 2, cells := 0, slots := 0, locals := 43 }) (mc := 0) (ms := 0) (av := [.ref k0, .int (nI k), .int (nI u), .int (nI n)]) (g := g) (wc := [(k0, .inr (9, [.ref m0, .int s1, .int s2, .int s3, .int s4, .int s5, .int s6, .ref m7, .ref m8, .ref m9, .int s10, .int (nI t), .int s12, .ref m13, .ref m14, .ref m15, .int s16, .ref m17, .ref m18, .ref m19, .ref m20, .ref m21, .ref m22, .ref m23, .ref m24, .ref m25, .ref m26, .ref m27, .ref m28, .int s29, .ref m30, .int s31, .int s32, .int s33, .int s34, .int s35, .ref m36, .ref m37, .ref m38, .ref m39, .long s40])), (m20, ai g 168 Rb), (m22, ai g 72 W1)]) (Qc := fun A => va_Qi (po_X9_lawAt_g g k0 m0 s1 s2 s3 s4 s5 s6 m7 m8 m9 s10 s12 m13 m14 m15 s16 m17 m18 m19 m20 m21 m22 m23 m24 m25 m26 m27 m28 s29 m30 s31 s32 s33 s34 s35 m36 m37 m38 m39 s40 t Rb W1 k u n) (bk g A) A) (cc := cX9_lawAt) (maxL := 4) (ret := (some .int)) (by decide) rfl (Nat.le_of_ble_eq_true rfl) ?_ sz
  intro p e s m below meth c hx hb hr hts hown hlocks hnm hml A hA hE hZ hP hD hS ls hl
  have hown : s.vm.findClass RX9 = some m.cls := hown
  have hl : lv_has ls 4 [(0, .ref k0), (1, .int (nI k)), (2, .int (nI u)), (3, .int (nI n))] := hl
  obtain ⟨vv, hvv, evv⟩ := id hv
  refine lv_aload_n hx hb dX9_lawAt_0 rfl (lv_at hl 0 rfl) ?_
  refine va_get (D := g.1) (ci := 9) (v := .ref m22) (C := RX9) (T := TX9) (N := 41) hx hb hts q_X9_lawAt_g_f9 hown hE.1 hP 0 rfl rfl 22 (by decide) (hts (.fieldLink RX9 46 "SoundLawsModel" "laws" "[I") q_X9_lawAt_g_1) (fun _ h9 => h9) rfl dX9_lawAt_1 ?_
  refine lv_bipush (v := 18) hx hb dX9_lawAt_4 (by decide) ?_
  refine lv_iload_n hx hb dX9_lawAt_6 rfl (lv_at hl 2 rfl) ?_
  refine lv_imul hx hb dX9_lawAt_7 ?_
  refine lv_iconst (v := 2) hx hb dX9_lawAt_8 (by decide) ?_
  refine lv_aload_n hx hb dX9_lawAt_9 rfl (lv_at hl 0 rfl) ?_
  refine lv_iload_n hx hb dX9_lawAt_10 rfl (lv_at hl 1 rfl) ?_
  refine lv_iload_n hx hb dX9_lawAt_11 rfl (lv_at hl 3 rfl) ?_
  refine k_ci (wr := [(m22, ai g 72 W1)]) hP hD hS hA [0, 1] [2] rfl rfl (by decide) (by decide) (va_runV (As := [.int (nI k), .int (nI n)]) (rest := [.int 2, .int (18 * (nI u)), .ref m22]) ⟨hx, hb, hml, hown, hts⟩ (c_X9_oldSound_g l g k0 m0 s1 s2 s3 s4 s5 s6 m7 m8 m9 s10 s12 m13 m14 m15 s16 m17 m18 m19 m20 m21 m22 m23 m24 m25 m26 m27 m28 s29 m30 s31 s32 s33 s34 s35 m36 m37 m38 m39 s40 t Rb k n (by first | assumption | omega) (by first | assumption | omega) (by first | assumption | omega) (by first | assumption | omega) s.heap.size) (cwV 2 hts gX9_lawAt_X9_oldSound rfl rfl rfl (by decide +kernel) ⟨Nat.le_of_ble_eq_true rfl, Nat.le_of_ble_eq_true rfl⟩) (k_preV hE hZ hP hD hS hA [0, 1] rfl (by decide) (va_recv hE.1 hP (ci := 9) (q0 := 0) rfl rfl)) rfl rfl hl.1 rfl (lv_room (Nat.le_of_ble_eq_true rfl)) dX9_lawAt_12 ⟨Nat.le_of_ble_eq_true rfl, Nat.le_of_ble_eq_true rfl⟩) (fun r_1 w1 H locs hw hP hD hS => ?_)
  obtain ⟨rfl, rfl⟩ := hw
  have hP : va_P g.1 vwCl [(m22, ai g 72 W1), (k0, .inr (9, [.ref m0, .int s1, .int s2, .int s3, .int s4, .int s5, .int s6, .ref m7, .ref m8, .ref m9, .int s10, .int (nI t), .int s12, .ref m13, .ref m14, .ref m15, .int s16, .ref m17, .ref m18, .ref m19, .ref m20, .ref m21, .ref m22, .ref m23, .ref m24, .ref m25, .ref m26, .ref m27, .ref m28, .int s29, .ref m30, .int s31, .int s32, .int s33, .int s34, .int s35, .ref m36, .ref m37, .ref m38, .ref m39, .long s40])), (m20, ai g 168 Rb)] H := hP
  have hD : va_D A [(m22, ai g 72 W1), (k0, .inr (9, [.ref m0, .int s1, .int s2, .int s3, .int s4, .int s5, .int s6, .ref m7, .ref m8, .ref m9, .int s10, .int (nI t), .int s12, .ref m13, .ref m14, .ref m15, .int s16, .ref m17, .ref m18, .ref m19, .ref m20, .ref m21, .ref m22, .ref m23, .ref m24, .ref m25, .ref m26, .ref m27, .ref m28, .int s29, .ref m30, .int s31, .int s32, .int s33, .int s34, .int s35, .ref m36, .ref m37, .ref m38, .ref m39, .long s40])), (m20, ai g 168 Rb)] := hD
  refine lv_topi (fun x_3 ex_3 => ?_)
  obtain rfl : x_3 = nI vv := by rw [ex_3]; exact evv
  refine lv_imul hx hb dX9_lawAt_15 ?_
  refine lv_iadd hx hb dX9_lawAt_16 ?_
  refine lv_iload_n hx hb dX9_lawAt_17 rfl (lv_at hl 3 rfl) ?_
  refine lv_if_ne (tgt := 25) hx hb dX9_lawAt_18 (by decide) (fun c18_4 => ?_) (fun c18_4 => ?_)
  · skip
    refine lv_iconst (v := 0) hx hb dX9_lawAt_25 (by decide) ?_
    refine lv_iadd hx hb dX9_lawAt_26 ?_
    refine k_ald (18 * u + 2 * vv + 0) (by rw [show (18 : Int32) = nI 18 from rfl, show (2 : Int32) = nI 2 from rfl, pk_mul, pk_mul, nI_add]; exact nI_add _ 0) (by omega) hx hb hE hP 0 rfl (by decide) dX9_lawAt_27 ?_
    refine W.widen (k := 0) (n := 0) (Nat.le_of_ble_eq_true rfl) (Nat.le_of_ble_eq_true rfl) ?_
    have hP9 := hP.sub (ws' := [(k0, .inr (9, [.ref m0, .int s1, .int s2, .int s3, .int s4, .int s5, .int s6, .ref m7, .ref m8, .ref m9, .int s10, .int (nI t), .int s12, .ref m13, .ref m14, .ref m15, .int s16, .ref m17, .ref m18, .ref m19, .ref m20, .ref m21, .ref m22, .ref m23, .ref m24, .ref m25, .ref m26, .ref m27, .ref m28, .int s29, .ref m30, .int s31, .int s32, .int s33, .int s34, .int s35, .ref m36, .ref m37, .ref m38, .ref m39, .long s40])), (m20, ai g 168 Rb), (m22, ai g 72 W1)]) [1, 2, 0] rfl
    have hD9 := hD.sub (ws' := [(k0, .inr (9, [.ref m0, .int s1, .int s2, .int s3, .int s4, .int s5, .int s6, .ref m7, .ref m8, .ref m9, .int s10, .int (nI t), .int s12, .ref m13, .ref m14, .ref m15, .int s16, .ref m17, .ref m18, .ref m19, .ref m20, .ref m21, .ref m22, .ref m23, .ref m24, .ref m25, .ref m26, .ref m27, .ref m28, .int s29, .ref m30, .int s31, .int s32, .int s33, .int s34, .int s35, .ref m36, .ref m37, .ref m38, .ref m39, .long s40])), (m20, ai g 168 Rb), (m22, ai g 72 W1)]) [1, 2, 0] (by decide) rfl
    exact k_ri hx hb hr hlocks hS hP9 hD9 rfl dX9_lawAt_28
  · skip
    refine lv_iconst (v := 1) hx hb dX9_lawAt_21 (by decide) ?_
    refine lv_goto (tgt := 26) hx hb dX9_lawAt_22 (by decide) ?_
    refine lv_iadd hx hb dX9_lawAt_26 ?_
    refine k_ald (18 * u + 2 * vv + 1) (by rw [show (18 : Int32) = nI 18 from rfl, show (2 : Int32) = nI 2 from rfl, pk_mul, pk_mul, nI_add]; exact nI_add _ 1) (by omega) hx hb hE hP 0 rfl (by decide) dX9_lawAt_27 ?_
    refine W.widen (k := 0) (n := 0) (Nat.le_of_ble_eq_true rfl) (Nat.le_of_ble_eq_true rfl) ?_
    have hP9 := hP.sub (ws' := [(k0, .inr (9, [.ref m0, .int s1, .int s2, .int s3, .int s4, .int s5, .int s6, .ref m7, .ref m8, .ref m9, .int s10, .int (nI t), .int s12, .ref m13, .ref m14, .ref m15, .int s16, .ref m17, .ref m18, .ref m19, .ref m20, .ref m21, .ref m22, .ref m23, .ref m24, .ref m25, .ref m26, .ref m27, .ref m28, .int s29, .ref m30, .int s31, .int s32, .int s33, .int s34, .int s35, .ref m36, .ref m37, .ref m38, .ref m39, .long s40])), (m20, ai g 168 Rb), (m22, ai g 72 W1)]) [1, 2, 0] rfl
    have hD9 := hD.sub (ws' := [(k0, .inr (9, [.ref m0, .int s1, .int s2, .int s3, .int s4, .int s5, .int s6, .ref m7, .ref m8, .ref m9, .int s10, .int (nI t), .int s12, .ref m13, .ref m14, .ref m15, .int s16, .ref m17, .ref m18, .ref m19, .ref m20, .ref m21, .ref m22, .ref m23, .ref m24, .ref m25, .ref m26, .ref m27, .ref m28, .int s29, .ref m30, .int s31, .int s32, .int s33, .int s34, .int s35, .ref m36, .ref m37, .ref m38, .ref m39, .long s40])), (m20, ai g 168 Rb), (m22, ai g 72 W1)]) [1, 2, 0] (by decide) rfl
    exact k_ri hx hb hr hlocks hS hP9 hD9 rfl dX9_lawAt_28
def po_X9_strangeOf_g (g : GG) (k0 : Nat) (m0 : Nat) (s1 : Int32) (s2 : Int32) (s3 : Int32) (s4 : Int32) (s5 : Int32) (s6 : Int32) (m7 : Nat) (m8 : Nat) (m9 : Nat) (s10 : Int32) (s12 : Int32) (m13 : Nat) (m14 : Nat) (m15 : Nat) (s16 : Int32) (m17 : Nat) (m18 : Nat) (m19 : Nat) (m20 : Nat) (m21 : Nat) (m22 : Nat) (m23 : Nat) (m24 : Nat) (m25 : Nat) (m26 : Nat) (m27 : Nat) (m28 : Nat) (s29 : Int32) (m30 : Nat) (s31 : Int32) (s32 : Int32) (s33 : Int32) (s34 : Int32) (s35 : Int32) (m36 : Nat) (m37 : Nat) (m38 : Nat) (m39 : Nat) (s40 : Int64) (t : Nat) (K : Nat → Int32) (L : Nat → Int32) (V : Nat → Int32) (Rb : Nat → Int32) (W1 : Nat → Int32) (k : Nat) (u : Nat) : Int32 → va_W → Prop := fun (r : Int32) w => w = [(k0, .inr (9, [.ref m0, .int s1, .int s2, .int s3, .int s4, .int s5, .int s6, .ref m7, .ref m8, .ref m9, .int s10, .int (nI t), .int s12, .ref m13, .ref m14, .ref m15, .int s16, .ref m17, .ref m18, .ref m19, .ref m20, .ref m21, .ref m22, .ref m23, .ref m24, .ref m25, .ref m26, .ref m27, .ref m28, .int s29, .ref m30, .int s31, .int s32, .int s33, .int s34, .int s35, .ref m36, .ref m37, .ref m38, .ref m39, .long s40])), (m13, ai g 6 K), (m14, ai g 6 L), (m15, ai g 96 V), (m20, ai g 168 Rb), (m22, ai g 72 W1)]
theorem q_X9_strangeOf_g_f9 : ∀ w ∈ u_ws RX9 TX9 41, w ∈ wsX9_strangeOf := by decide +kernel
theorem q_X9_strangeOf_g_1 : (Cond.fieldLink RX9 25 "SoundLawsModel" "longs" "[I") ∈ wsX9_strangeOf := by decide +kernel
theorem q_X9_strangeOf_g_2 : (Cond.fieldLink RX9 28 "SoundLawsModel" "words" "[I") ∈ wsX9_strangeOf := by decide +kernel
set_option maxHeartbeats 1500000 in
set_option maxRecDepth 100000 in
theorem c_X9_strangeOf_g (l : Launch) (g : GG) (k0 : Nat) (m0 : Nat) (s1 : Int32) (s2 : Int32) (s3 : Int32) (s4 : Int32) (s5 : Int32) (s6 : Int32) (m7 : Nat) (m8 : Nat) (m9 : Nat) (s10 : Int32) (s12 : Int32) (m13 : Nat) (m14 : Nat) (m15 : Nat) (s16 : Int32) (m17 : Nat) (m18 : Nat) (m19 : Nat) (m20 : Nat) (m21 : Nat) (m22 : Nat) (m23 : Nat) (m24 : Nat) (m25 : Nat) (m26 : Nat) (m27 : Nat) (m28 : Nat) (s29 : Int32) (m30 : Nat) (s31 : Int32) (s32 : Int32) (s33 : Int32) (s34 : Int32) (s35 : Int32) (m36 : Nat) (m37 : Nat) (m38 : Nat) (m39 : Nat) (s40 : Int64) (t : Nat) (K : Nat → Int32) (L : Nat → Int32) (V : Nat → Int32) (Rb : Nat → Int32) (W1 : Nat → Int32) (k : Nat) (u : Nat) (ht : 2 ≤ t) (ht4 : t ≤ 4) (hk : k < 6) (hL : rng 6 5 L) (hF : ¬ irb (K k) = 0 → ∀ m, m < 5 → L k = nI m → ∀ n, n < m → ∃ v, v < 9 ∧ Rb (28 * k + 7 * n + (2 * t - 2)) = nI v) (hu : u < t) (sz : Nat) : MetI l yX9_strangeOf wsX9_strangeOf ({ frames := 3, cells := 0, slots := 0, locals := 66 }) g [.ref k0, .int (nI k), .int (nI u)] [(k0, .inr (9, [.ref m0, .int s1, .int s2, .int s3, .int s4, .int s5, .int s6, .ref m7, .ref m8, .ref m9, .int s10, .int (nI t), .int s12, .ref m13, .ref m14, .ref m15, .int s16, .ref m17, .ref m18, .ref m19, .ref m20, .ref m21, .ref m22, .ref m23, .ref m24, .ref m25, .ref m26, .ref m27, .ref m28, .int s29, .ref m30, .int s31, .int s32, .int s33, .int s34, .int s35, .ref m36, .ref m37, .ref m38, .ref m39, .long s40])), (m13, ai g 6 K), (m14, ai g 6 L), (m15, ai g 96 V), (m20, ai g 168 Rb), (m22, ai g 72 W1)] sz (po_X9_strangeOf_g g k0 m0 s1 s2 s3 s4 s5 s6 m7 m8 m9 s10 s12 m13 m14 m15 s16 m17 m18 m19 m20 m21 m22 m23 m24 m25 m26 m27 m28 s29 m30 s31 s32 s33 s34 s35 m36 m37 m38 m39 s40 t K L V Rb W1 k u) 0 0 := by
  refine k_of (l := l) (y := yX9_strangeOf) (ws := wsX9_strangeOf) (rm := { frames := 3, cells := 0, slots := 0, locals := 66 }) (mc := 0) (ms := 0) (av := [.ref k0, .int (nI k), .int (nI u)]) (g := g) (wc := [(k0, .inr (9, [.ref m0, .int s1, .int s2, .int s3, .int s4, .int s5, .int s6, .ref m7, .ref m8, .ref m9, .int s10, .int (nI t), .int s12, .ref m13, .ref m14, .ref m15, .int s16, .ref m17, .ref m18, .ref m19, .ref m20, .ref m21, .ref m22, .ref m23, .ref m24, .ref m25, .ref m26, .ref m27, .ref m28, .int s29, .ref m30, .int s31, .int s32, .int s33, .int s34, .int s35, .ref m36, .ref m37, .ref m38, .ref m39, .long s40])), (m13, ai g 6 K), (m14, ai g 6 L), (m15, ai g 96 V), (m20, ai g 168 Rb), (m22, ai g 72 W1)]) (Qc := fun A => va_Qi (po_X9_strangeOf_g g k0 m0 s1 s2 s3 s4 s5 s6 m7 m8 m9 s10 s12 m13 m14 m15 s16 m17 m18 m19 m20 m21 m22 m23 m24 m25 m26 m27 m28 s29 m30 s31 s32 s33 s34 s35 m36 m37 m38 m39 s40 t K L V Rb W1 k u) (bk g A) A) (cc := cX9_strangeOf) (maxL := 6) (ret := (some .int)) (by decide) rfl (Nat.le_of_ble_eq_true rfl) ?_ sz
  intro p e s m below meth c hx hb hr hts hown hlocks hnm hml A hA hE hZ hP hD hS ls hl
  have hown : s.vm.findClass RX9 = some m.cls := hown
  have hl : lv_has ls 6 [(0, .ref k0), (1, .int (nI k)), (2, .int (nI u))] := hl
  obtain ⟨n, hn, en⟩ := hL (k) (by omega)
  refine lv_iconst (v := 0) hx hb dX9_strangeOf_0 (by decide) ?_
  refine lv_istore_n (lv' := [(3, .int 0), (0, .ref k0), (1, .int (nI k)), (2, .int (nI u))]) hx hb dX9_strangeOf_1 rfl hl (by decide) rfl (fun ls hl => ?_)
  refine lv_iconst (v := 0) hx hb dX9_strangeOf_2 (by decide) ?_
  refine lv_istore (lv' := [(4, .int 0), (3, .int 0), (0, .ref k0), (1, .int (nI k)), (2, .int (nI u))]) hx hb dX9_strangeOf_3 hl (by decide) rfl (fun ls hl => ?_)
  have loop5 : ∀ (fu : Nat) (q : Nat) (x3 : Int32), (hq : q ≤ n) → n - q < fu → ∀ (H : Heap) (locs : List Loc) (ls : Array Slot), va_P g.1 vwCl [(k0, .inr (9, [.ref m0, .int s1, .int s2, .int s3, .int s4, .int s5, .int s6, .ref m7, .ref m8, .ref m9, .int s10, .int (nI t), .int s12, .ref m13, .ref m14, .ref m15, .int s16, .ref m17, .ref m18, .ref m19, .ref m20, .ref m21, .ref m22, .ref m23, .ref m24, .ref m25, .ref m26, .ref m27, .ref m28, .int s29, .ref m30, .int s31, .int s32, .int s33, .int s34, .int s35, .ref m36, .ref m37, .ref m38, .ref m39, .long s40])), (m13, ai g 6 K), (m14, ai g 6 L), (m15, ai g 96 V), (m20, ai g 168 Rb), (m22, ai g 72 W1)] H → va_D A [(k0, .inr (9, [.ref m0, .int s1, .int s2, .int s3, .int s4, .int s5, .int s6, .ref m7, .ref m8, .ref m9, .int s10, .int (nI t), .int s12, .ref m13, .ref m14, .ref m15, .int s16, .ref m17, .ref m18, .ref m19, .ref m20, .ref m21, .ref m22, .ref m23, .ref m24, .ref m25, .ref m26, .ref m27, .ref m28, .int s29, .ref m30, .int s31, .int s32, .int s33, .int s34, .int s35, .ref m36, .ref m37, .ref m38, .ref m39, .long s40])), (m13, ai g 6 K), (m14, ai g 6 L), (m15, ai g 96 V), (m20, ai g 168 Rb), (m22, ai g 72 W1)] → va_S A s.heap H locs → lv_has ls 6 [(0, .ref k0), (1, .int (nI k)), (2, .int (nI u)), (3, .int x3), (4, .int (nI q))] → W p l e ({ frames := 3, cells := 0, slots := 0, locals := 66 }) s m [.ref k0, .int (nI k), .int (nI u)].toArray below meth c H locs 0 0 (MQ below (va_Qi (po_X9_strangeOf_g g k0 m0 s1 s2 s3 s4 s5 s6 m7 m8 m9 s10 s12 m13 m14 m15 s16 m17 m18 m19 m20 m21 m22 m23 m24 m25 m26 m27 m28 s29 m30 s31 s32 s33 s34 s35 m36 m37 m38 m39 s40 t K L V Rb W1 k u) (bk g A) A) [.ref k0, .int (nI k), .int (nI u)].toArray s 0 0 A) (F0 m 5 ls []) := by
    intro fu
    induction fu with
    | zero => intro q x3 hq hfu; exact absurd hfu (Nat.not_lt_zero _)
    | succ fu ih =>
      intro q x3 hq hfu H locs ls hP hD hS hl
      have ih5 := ih
      refine lv_iload hx hb dX9_strangeOf_5 (lv_at hl 4 rfl) ?_
      refine lv_aload_n hx hb dX9_strangeOf_7 rfl (lv_at hl 0 rfl) ?_
      refine va_get (D := g.1) (ci := 9) (v := .ref m14) (C := RX9) (T := TX9) (N := 41) hx hb hts q_X9_strangeOf_g_f9 hown hE.1 hP 0 rfl rfl 14 (by decide) (hts (.fieldLink RX9 25 "SoundLawsModel" "longs" "[I") q_X9_strangeOf_g_1) (fun _ h9 => h9) rfl dX9_strangeOf_8 ?_
      refine lv_iload_n hx hb dX9_strangeOf_11 rfl (lv_at hl 1 rfl) ?_
      refine k_ald k rfl (by omega) hx hb hE hP 2 rfl (by decide) dX9_strangeOf_12 ?_
      refine lv_topi (fun x_1 ex_1 => ?_)
      obtain rfl : x_1 = nI n := by rw [ex_1]; exact en
      refine lv_icmp_ge (tgt := 75) hx hb dX9_strangeOf_13 (by decide) (fun c13_2 => ?_) (fun c13_2 => ?_)
      · skip
        refine lv_iload_n hx hb dX9_strangeOf_75 rfl (lv_at hl 3 rfl) ?_
        refine W.widen (k := 0) (n := 0) (Nat.le_of_ble_eq_true rfl) (Nat.le_of_ble_eq_true rfl) ?_
        exact k_ri hx hb hr hlocks hS hP hD rfl dX9_strangeOf_76
      · skip
        have hq9 := lt_of_nle (k := n) (n := q) (by omega) (by omega) c13_2
        refine lv_aload_n hx hb dX9_strangeOf_16 rfl (lv_at hl 0 rfl) ?_
        refine lv_iload_n hx hb dX9_strangeOf_17 rfl (lv_at hl 1 rfl) ?_
        refine k_ci (wr := [(m14, ai g 6 L), (m15, ai g 96 V), (m20, ai g 168 Rb), (m22, ai g 72 W1)]) hP hD hS hA [0, 1] [2, 3, 4, 5] rfl rfl (by decide) (by decide) (va_runV (As := [.int (nI k)]) (rest := []) ⟨hx, hb, hml, hown, hts⟩ (c_X9_isRebuilt_b l g k0 m0 s1 s2 s3 s4 s5 s6 m7 m8 m9 s10 (nI t) s12 m13 m14 m15 s16 m17 m18 m19 m20 m21 m22 m23 m24 m25 m26 m27 m28 s29 m30 s31 s32 s33 s34 s35 m36 m37 m38 m39 s40 K k (by first | assumption | omega) H.size) (cwV 1 hts gX9_strangeOf_X9_isRebuilt rfl rfl rfl (by decide +kernel) ⟨Nat.le_of_ble_eq_true rfl, Nat.le_of_ble_eq_true rfl⟩) (k_preV hE hZ hP hD hS hA [0, 1] rfl (by decide) (va_recv hE.1 hP (ci := 9) (q0 := 0) rfl rfl)) rfl rfl hl.1 rfl (lv_room (Nat.le_of_ble_eq_true rfl)) dX9_strangeOf_18 ⟨Nat.le_of_ble_eq_true rfl, Nat.le_of_ble_eq_true rfl⟩) (fun r_3 w1 H locs hw hP hD hS => ?_)
        obtain ⟨rfl, rfl⟩ := hw
        have hP : va_P g.1 vwCl [(m14, ai g 6 L), (m15, ai g 96 V), (m20, ai g 168 Rb), (m22, ai g 72 W1), (k0, .inr (9, [.ref m0, .int s1, .int s2, .int s3, .int s4, .int s5, .int s6, .ref m7, .ref m8, .ref m9, .int s10, .int (nI t), .int s12, .ref m13, .ref m14, .ref m15, .int s16, .ref m17, .ref m18, .ref m19, .ref m20, .ref m21, .ref m22, .ref m23, .ref m24, .ref m25, .ref m26, .ref m27, .ref m28, .int s29, .ref m30, .int s31, .int s32, .int s33, .int s34, .int s35, .ref m36, .ref m37, .ref m38, .ref m39, .long s40])), (m13, ai g 6 K)] H := hP
        have hD : va_D A [(m14, ai g 6 L), (m15, ai g 96 V), (m20, ai g 168 Rb), (m22, ai g 72 W1), (k0, .inr (9, [.ref m0, .int s1, .int s2, .int s3, .int s4, .int s5, .int s6, .ref m7, .ref m8, .ref m9, .int s10, .int (nI t), .int s12, .ref m13, .ref m14, .ref m15, .int s16, .ref m17, .ref m18, .ref m19, .ref m20, .ref m21, .ref m22, .ref m23, .ref m24, .ref m25, .ref m26, .ref m27, .ref m28, .int s29, .ref m30, .int s31, .int s32, .int s33, .int s34, .int s35, .ref m36, .ref m37, .ref m38, .ref m39, .long s40])), (m13, ai g 6 K)] := hD
        refine lv_if_eq (tgt := 75) hx hb dX9_strangeOf_21 (by decide) (fun c21_5 => ?_) (fun c21_5 => ?_)
        · skip
          refine lv_iload_n hx hb dX9_strangeOf_75 rfl (lv_at hl 3 rfl) ?_
          refine W.widen (k := 0) (n := 0) (Nat.le_of_ble_eq_true rfl) (Nat.le_of_ble_eq_true rfl) ?_
          have hP9 := hP.sub (ws' := [(k0, .inr (9, [.ref m0, .int s1, .int s2, .int s3, .int s4, .int s5, .int s6, .ref m7, .ref m8, .ref m9, .int s10, .int (nI t), .int s12, .ref m13, .ref m14, .ref m15, .int s16, .ref m17, .ref m18, .ref m19, .ref m20, .ref m21, .ref m22, .ref m23, .ref m24, .ref m25, .ref m26, .ref m27, .ref m28, .int s29, .ref m30, .int s31, .int s32, .int s33, .int s34, .int s35, .ref m36, .ref m37, .ref m38, .ref m39, .long s40])), (m13, ai g 6 K), (m14, ai g 6 L), (m15, ai g 96 V), (m20, ai g 168 Rb), (m22, ai g 72 W1)]) [4, 5, 0, 1, 2, 3] rfl
          have hD9 := hD.sub (ws' := [(k0, .inr (9, [.ref m0, .int s1, .int s2, .int s3, .int s4, .int s5, .int s6, .ref m7, .ref m8, .ref m9, .int s10, .int (nI t), .int s12, .ref m13, .ref m14, .ref m15, .int s16, .ref m17, .ref m18, .ref m19, .ref m20, .ref m21, .ref m22, .ref m23, .ref m24, .ref m25, .ref m26, .ref m27, .ref m28, .int s29, .ref m30, .int s31, .int s32, .int s33, .int s34, .int s35, .ref m36, .ref m37, .ref m38, .ref m39, .long s40])), (m13, ai g 6 K), (m14, ai g 6 L), (m15, ai g 96 V), (m20, ai g 168 Rb), (m22, ai g 72 W1)]) [4, 5, 0, 1, 2, 3] (by decide) rfl
          exact k_ri hx hb hr hlocks hS hP9 hD9 rfl dX9_strangeOf_76
        · skip
          refine lv_aload_n hx hb dX9_strangeOf_24 rfl (lv_at hl 0 rfl) ?_
          refine lv_iload_n hx hb dX9_strangeOf_25 rfl (lv_at hl 1 rfl) ?_
          refine lv_iload_n hx hb dX9_strangeOf_26 rfl (lv_at hl 2 rfl) ?_
          refine lv_iload hx hb dX9_strangeOf_27 (lv_at hl 4 rfl) ?_
          refine k_ci (wr := [(m14, ai g 6 L), (m15, ai g 96 V), (m13, ai g 6 K)]) hP hD hS hA [4, 2, 3] [0, 1, 5] rfl rfl (by decide) (by decide) (va_runV (As := [.int (nI k), .int (nI u), .int (nI q)]) (rest := []) ⟨hx, hb, hml, hown, hts⟩ (c_X9_lawAt_g l g k0 m0 s1 s2 s3 s4 s5 s6 m7 m8 m9 s10 s12 m13 m14 m15 s16 m17 m18 m19 m20 m21 m22 m23 m24 m25 m26 m27 m28 s29 m30 s31 s32 s33 s34 s35 m36 m37 m38 m39 s40 t Rb W1 k u q (by first | assumption | omega) (by first | assumption | omega) (by first | assumption | omega) (by first | assumption | omega) (by first | assumption | omega) (hF c21_5 n hn en q hq9) H.size) (cwV 3 hts gX9_strangeOf_X9_lawAt rfl rfl rfl (by decide +kernel) ⟨Nat.le_of_ble_eq_true rfl, Nat.le_of_ble_eq_true rfl⟩) (k_preV hE hZ hP hD hS hA [4, 2, 3] rfl (by decide) (va_recv hE.1 hP (ci := 9) (q0 := 4) rfl rfl)) rfl rfl hl.1 rfl (lv_room (Nat.le_of_ble_eq_true rfl)) dX9_strangeOf_29 ⟨Nat.le_of_ble_eq_true rfl, Nat.le_of_ble_eq_true rfl⟩) (fun r_6 w1 H locs hw hP hD hS => ?_)
          obtain rfl := hw
          have hP : va_P g.1 vwCl [(m14, ai g 6 L), (m15, ai g 96 V), (m13, ai g 6 K), (k0, .inr (9, [.ref m0, .int s1, .int s2, .int s3, .int s4, .int s5, .int s6, .ref m7, .ref m8, .ref m9, .int s10, .int (nI t), .int s12, .ref m13, .ref m14, .ref m15, .int s16, .ref m17, .ref m18, .ref m19, .ref m20, .ref m21, .ref m22, .ref m23, .ref m24, .ref m25, .ref m26, .ref m27, .ref m28, .int s29, .ref m30, .int s31, .int s32, .int s33, .int s34, .int s35, .ref m36, .ref m37, .ref m38, .ref m39, .long s40])), (m20, ai g 168 Rb), (m22, ai g 72 W1)] H := hP
          have hD : va_D A [(m14, ai g 6 L), (m15, ai g 96 V), (m13, ai g 6 K), (k0, .inr (9, [.ref m0, .int s1, .int s2, .int s3, .int s4, .int s5, .int s6, .ref m7, .ref m8, .ref m9, .int s10, .int (nI t), .int s12, .ref m13, .ref m14, .ref m15, .int s16, .ref m17, .ref m18, .ref m19, .ref m20, .ref m21, .ref m22, .ref m23, .ref m24, .ref m25, .ref m26, .ref m27, .ref m28, .int s29, .ref m30, .int s31, .int s32, .int s33, .int s34, .int s35, .ref m36, .ref m37, .ref m38, .ref m39, .long s40])), (m20, ai g 168 Rb), (m22, ai g 72 W1)] := hD
          refine lv_istore (lv' := [(5, .int r_6), (0, .ref k0), (1, .int (nI k)), (2, .int (nI u)), (3, .int x3), (4, .int (nI q))]) hx hb dX9_strangeOf_32 hl (by decide) rfl (fun ls hl => ?_)
          refine lv_iload_n hx hb dX9_strangeOf_34 rfl (lv_at hl 4 rfl) ?_
          refine lv_iload hx hb dX9_strangeOf_35 (lv_at hl 0 rfl) ?_
          refine lv_iconst (v := (-1)) hx hb dX9_strangeOf_37 (by decide) ?_
          refine lv_icmp_eq (tgt := 66) hx hb dX9_strangeOf_38 (by decide) (fun c38_7 => ?_) (fun c38_7 => ?_)
          · skip
            refine lv_iconst (v := 0) hx hb dX9_strangeOf_66 (by decide) ?_
            refine lv_iadd hx hb dX9_strangeOf_67 ?_
            refine lv_topi (fun x_8 ex_8 => ?_)
            refine lv_istore_n (lv' := [(3, .int x_8), (5, .int r_6), (0, .ref k0), (1, .int (nI k)), (2, .int (nI u)), (4, .int (nI q))]) hx hb dX9_strangeOf_68 rfl hl (by decide) rfl (fun ls hl => ?_)
            refine lv_iinc (v := (nI (q + 1))) (lv' := [(4, .int (nI (q + 1))), (3, .int x_8), (5, .int r_6), (0, .ref k0), (1, .int (nI k)), (2, .int (nI u))]) hx hb dX9_strangeOf_69 hl (k := 5) rfl (nI_1 _) (by decide) rfl (fun ls hl => ?_)
            refine lv_goto (tgt := 5) hx hb dX9_strangeOf_72 (by decide) ?_
            exact ih5 (q + 1) _ (by omega) (by omega) _ _ _ (hP.sub [3, 2, 0, 1, 4, 5] rfl) (hD.sub [3, 2, 0, 1, 4, 5] (by decide) rfl) hS (lv_sub hl [3, 4, 5, 1, 0] rfl)
          · skip
            refine lv_iload hx hb dX9_strangeOf_41 (lv_at hl 0 rfl) ?_
            refine lv_aload_n hx hb dX9_strangeOf_43 rfl (lv_at hl 1 rfl) ?_
            refine va_get (D := g.1) (ci := 9) (v := .ref m15) (C := RX9) (T := TX9) (N := 41) hx hb hts q_X9_strangeOf_g_f9 hown hE.1 hP 3 rfl rfl 15 (by decide) (hts (.fieldLink RX9 28 "SoundLawsModel" "words" "[I") q_X9_strangeOf_g_2) (fun _ h9 => h9) rfl dX9_strangeOf_44 ?_
            refine lv_bipush (v := 16) hx hb dX9_strangeOf_47 (by decide) ?_
            refine lv_iload_n hx hb dX9_strangeOf_49 rfl (lv_at hl 2 rfl) ?_
            refine lv_imul hx hb dX9_strangeOf_50 ?_
            refine lv_iconst (v := 4) hx hb dX9_strangeOf_51 (by decide) ?_
            refine lv_iload_n hx hb dX9_strangeOf_52 rfl (lv_at hl 3 rfl) ?_
            refine lv_imul hx hb dX9_strangeOf_53 ?_
            refine lv_iadd hx hb dX9_strangeOf_54 ?_
            refine lv_iload hx hb dX9_strangeOf_55 (lv_at hl 5 rfl) ?_
            refine lv_iadd hx hb dX9_strangeOf_57 ?_
            refine k_ald (16 * k + 4 * u + q) (by rw [show (16 : Int32) = nI 16 from rfl, show (4 : Int32) = nI 4 from rfl, pk_mul, pk_mul, nI_add, nI_add]) (by omega) hx hb hE hP 1 rfl (by decide) dX9_strangeOf_58 ?_
            refine lv_icmp_eq (tgt := 66) hx hb dX9_strangeOf_59 (by decide) (fun c59_9 => ?_) (fun c59_9 => ?_)
            · skip
              refine lv_iconst (v := 0) hx hb dX9_strangeOf_66 (by decide) ?_
              refine lv_iadd hx hb dX9_strangeOf_67 ?_
              refine lv_topi (fun x_10 ex_10 => ?_)
              refine lv_istore_n (lv' := [(3, .int x_10), (5, .int r_6), (0, .ref k0), (1, .int (nI k)), (2, .int (nI u)), (4, .int (nI q))]) hx hb dX9_strangeOf_68 rfl hl (by decide) rfl (fun ls hl => ?_)
              refine lv_iinc (v := (nI (q + 1))) (lv' := [(4, .int (nI (q + 1))), (3, .int x_10), (5, .int r_6), (0, .ref k0), (1, .int (nI k)), (2, .int (nI u))]) hx hb dX9_strangeOf_69 hl (k := 5) rfl (nI_1 _) (by decide) rfl (fun ls hl => ?_)
              refine lv_goto (tgt := 5) hx hb dX9_strangeOf_72 (by decide) ?_
              exact ih5 (q + 1) _ (by omega) (by omega) _ _ _ (hP.sub [3, 2, 0, 1, 4, 5] rfl) (hD.sub [3, 2, 0, 1, 4, 5] (by decide) rfl) hS (lv_sub hl [3, 4, 5, 1, 0] rfl)
            · skip
              refine lv_iconst (v := 1) hx hb dX9_strangeOf_62 (by decide) ?_
              refine lv_goto (tgt := 67) hx hb dX9_strangeOf_63 (by decide) ?_
              refine lv_iadd hx hb dX9_strangeOf_67 ?_
              refine lv_topi (fun x_11 ex_11 => ?_)
              refine lv_istore_n (lv' := [(3, .int x_11), (5, .int r_6), (0, .ref k0), (1, .int (nI k)), (2, .int (nI u)), (4, .int (nI q))]) hx hb dX9_strangeOf_68 rfl hl (by decide) rfl (fun ls hl => ?_)
              refine lv_iinc (v := (nI (q + 1))) (lv' := [(4, .int (nI (q + 1))), (3, .int x_11), (5, .int r_6), (0, .ref k0), (1, .int (nI k)), (2, .int (nI u))]) hx hb dX9_strangeOf_69 hl (k := 5) rfl (nI_1 _) (by decide) rfl (fun ls hl => ?_)
              refine lv_goto (tgt := 5) hx hb dX9_strangeOf_72 (by decide) ?_
              exact ih5 (q + 1) _ (by omega) (by omega) _ _ _ (hP.sub [3, 2, 0, 1, 4, 5] rfl) (hD.sub [3, 2, 0, 1, 4, 5] (by decide) rfl) hS (lv_sub hl [3, 4, 5, 1, 0] rfl)
  exact loop5 _ 0 0 (Nat.zero_le n) (Nat.lt_succ_self _) _ _ _ hP hD hS (lv_sub hl [2, 3, 4, 1, 0] rfl)
def po_X9_isBorrowed_g (g : GG) (k0 : Nat) (m0 : Nat) (s1 : Int32) (s2 : Int32) (s3 : Int32) (s4 : Int32) (s5 : Int32) (s6 : Int32) (m7 : Nat) (m8 : Nat) (m9 : Nat) (s10 : Int32) (s12 : Int32) (m13 : Nat) (m14 : Nat) (m15 : Nat) (s16 : Int32) (m17 : Nat) (m18 : Nat) (m19 : Nat) (m20 : Nat) (m21 : Nat) (m22 : Nat) (m23 : Nat) (m24 : Nat) (m25 : Nat) (m26 : Nat) (m27 : Nat) (m28 : Nat) (s29 : Int32) (m30 : Nat) (s31 : Int32) (s32 : Int32) (s33 : Int32) (s34 : Int32) (s35 : Int32) (m36 : Nat) (m37 : Nat) (m38 : Nat) (m39 : Nat) (s40 : Int64) (t : Nat) (K : Nat → Int32) (L : Nat → Int32) (V : Nat → Int32) (Rb : Nat → Int32) (W1 : Nat → Int32) (k : Nat) (u : Nat) : Int32 → va_W → Prop := fun (r : Int32) w => w = [(k0, .inr (9, [.ref m0, .int s1, .int s2, .int s3, .int s4, .int s5, .int s6, .ref m7, .ref m8, .ref m9, .int s10, .int (nI t), .int s12, .ref m13, .ref m14, .ref m15, .int s16, .ref m17, .ref m18, .ref m19, .ref m20, .ref m21, .ref m22, .ref m23, .ref m24, .ref m25, .ref m26, .ref m27, .ref m28, .int s29, .ref m30, .int s31, .int s32, .int s33, .int s34, .int s35, .ref m36, .ref m37, .ref m38, .ref m39, .long s40])), (m13, ai g 6 K), (m14, ai g 6 L), (m15, ai g 96 V), (m20, ai g 168 Rb), (m22, ai g 72 W1)]
theorem q_X9_isBorrowed_g_f9 : ∀ w ∈ u_ws RX9 TX9 41, w ∈ wsX9_isBorrowed := by decide +kernel
theorem q_X9_isBorrowed_g_1 : (Cond.fieldLink RX9 25 "SoundLawsModel" "longs" "[I") ∈ wsX9_isBorrowed := by decide +kernel
set_option maxHeartbeats 1500000 in
set_option maxRecDepth 100000 in
theorem c_X9_isBorrowed_g (l : Launch) (g : GG) (k0 : Nat) (m0 : Nat) (s1 : Int32) (s2 : Int32) (s3 : Int32) (s4 : Int32) (s5 : Int32) (s6 : Int32) (m7 : Nat) (m8 : Nat) (m9 : Nat) (s10 : Int32) (s12 : Int32) (m13 : Nat) (m14 : Nat) (m15 : Nat) (s16 : Int32) (m17 : Nat) (m18 : Nat) (m19 : Nat) (m20 : Nat) (m21 : Nat) (m22 : Nat) (m23 : Nat) (m24 : Nat) (m25 : Nat) (m26 : Nat) (m27 : Nat) (m28 : Nat) (s29 : Int32) (m30 : Nat) (s31 : Int32) (s32 : Int32) (s33 : Int32) (s34 : Int32) (s35 : Int32) (m36 : Nat) (m37 : Nat) (m38 : Nat) (m39 : Nat) (s40 : Int64) (t : Nat) (K : Nat → Int32) (L : Nat → Int32) (V : Nat → Int32) (Rb : Nat → Int32) (W1 : Nat → Int32) (k : Nat) (u : Nat) (ht : 2 ≤ t) (ht4 : t ≤ 4) (hk : k < 6) (hL : rng 6 5 L) (hF : ¬ irb (K k) = 0 → ∀ m, m < 5 → L k = nI m → ∀ n, n < m → ∃ v, v < 9 ∧ Rb (28 * k + 7 * n + (2 * t - 2)) = nI v) (hu : u < t) (sz : Nat) : MetI l yX9_isBorrowed wsX9_isBorrowed ({ frames := 4, cells := 0, slots := 0, locals := 91 }) g [.ref k0, .int (nI k), .int (nI u)] [(k0, .inr (9, [.ref m0, .int s1, .int s2, .int s3, .int s4, .int s5, .int s6, .ref m7, .ref m8, .ref m9, .int s10, .int (nI t), .int s12, .ref m13, .ref m14, .ref m15, .int s16, .ref m17, .ref m18, .ref m19, .ref m20, .ref m21, .ref m22, .ref m23, .ref m24, .ref m25, .ref m26, .ref m27, .ref m28, .int s29, .ref m30, .int s31, .int s32, .int s33, .int s34, .int s35, .ref m36, .ref m37, .ref m38, .ref m39, .long s40])), (m13, ai g 6 K), (m14, ai g 6 L), (m15, ai g 96 V), (m20, ai g 168 Rb), (m22, ai g 72 W1)] sz (po_X9_isBorrowed_g g k0 m0 s1 s2 s3 s4 s5 s6 m7 m8 m9 s10 s12 m13 m14 m15 s16 m17 m18 m19 m20 m21 m22 m23 m24 m25 m26 m27 m28 s29 m30 s31 s32 s33 s34 s35 m36 m37 m38 m39 s40 t K L V Rb W1 k u) 0 0 := by
  refine k_of (l := l) (y := yX9_isBorrowed) (ws := wsX9_isBorrowed) (rm := { frames := 4, cells := 0, slots := 0, locals := 91 }) (mc := 0) (ms := 0) (av := [.ref k0, .int (nI k), .int (nI u)]) (g := g) (wc := [(k0, .inr (9, [.ref m0, .int s1, .int s2, .int s3, .int s4, .int s5, .int s6, .ref m7, .ref m8, .ref m9, .int s10, .int (nI t), .int s12, .ref m13, .ref m14, .ref m15, .int s16, .ref m17, .ref m18, .ref m19, .ref m20, .ref m21, .ref m22, .ref m23, .ref m24, .ref m25, .ref m26, .ref m27, .ref m28, .int s29, .ref m30, .int s31, .int s32, .int s33, .int s34, .int s35, .ref m36, .ref m37, .ref m38, .ref m39, .long s40])), (m13, ai g 6 K), (m14, ai g 6 L), (m15, ai g 96 V), (m20, ai g 168 Rb), (m22, ai g 72 W1)]) (Qc := fun A => va_Qi (po_X9_isBorrowed_g g k0 m0 s1 s2 s3 s4 s5 s6 m7 m8 m9 s10 s12 m13 m14 m15 s16 m17 m18 m19 m20 m21 m22 m23 m24 m25 m26 m27 m28 s29 m30 s31 s32 s33 s34 s35 m36 m37 m38 m39 s40 t K L V Rb W1 k u) (bk g A) A) (cc := cX9_isBorrowed) (maxL := 4) (ret := (some .boolean)) (by decide) rfl (Nat.le_of_ble_eq_true rfl) ?_ sz
  intro p e s m below meth c hx hb hr hts hown hlocks hnm hml A hA hE hZ hP hD hS ls hl
  have hown : s.vm.findClass RX9 = some m.cls := hown
  have hl : lv_has ls 4 [(0, .ref k0), (1, .int (nI k)), (2, .int (nI u))] := hl
  refine lv_aload_n hx hb dX9_isBorrowed_0 rfl (lv_at hl 0 rfl) ?_
  refine lv_iload_n hx hb dX9_isBorrowed_1 rfl (lv_at hl 1 rfl) ?_
  refine lv_iload_n hx hb dX9_isBorrowed_2 rfl (lv_at hl 2 rfl) ?_
  refine k_ci (wr := []) hP hD hS hA [0, 1, 2, 3, 4, 5] [] rfl rfl (by decide) (by decide) (va_runV (As := [.int (nI k), .int (nI u)]) (rest := []) ⟨hx, hb, hml, hown, hts⟩ (c_X9_strangeOf_g l g k0 m0 s1 s2 s3 s4 s5 s6 m7 m8 m9 s10 s12 m13 m14 m15 s16 m17 m18 m19 m20 m21 m22 m23 m24 m25 m26 m27 m28 s29 m30 s31 s32 s33 s34 s35 m36 m37 m38 m39 s40 t K L V Rb W1 k u (by first | assumption | omega) (by first | assumption | omega) (by first | assumption | omega) (by first | assumption | omega) (by first | assumption | omega) (by first | assumption | omega) s.heap.size) (cwV 2 hts gX9_isBorrowed_X9_strangeOf rfl rfl rfl (by decide +kernel) ⟨Nat.le_of_ble_eq_true rfl, Nat.le_of_ble_eq_true rfl⟩) (k_preV hE hZ hP hD hS hA [0, 1, 2, 3, 4, 5] rfl (by decide) (va_recv hE.1 hP (ci := 9) (q0 := 0) rfl rfl)) rfl rfl hl.1 rfl (lv_room (Nat.le_of_ble_eq_true rfl)) dX9_isBorrowed_3 ⟨Nat.le_of_ble_eq_true rfl, Nat.le_of_ble_eq_true rfl⟩) (fun r_1 w1 H locs hw hP hD hS => ?_)
  obtain rfl := hw
  have hP : va_P g.1 vwCl [(k0, .inr (9, [.ref m0, .int s1, .int s2, .int s3, .int s4, .int s5, .int s6, .ref m7, .ref m8, .ref m9, .int s10, .int (nI t), .int s12, .ref m13, .ref m14, .ref m15, .int s16, .ref m17, .ref m18, .ref m19, .ref m20, .ref m21, .ref m22, .ref m23, .ref m24, .ref m25, .ref m26, .ref m27, .ref m28, .int s29, .ref m30, .int s31, .int s32, .int s33, .int s34, .int s35, .ref m36, .ref m37, .ref m38, .ref m39, .long s40])), (m13, ai g 6 K), (m14, ai g 6 L), (m15, ai g 96 V), (m20, ai g 168 Rb), (m22, ai g 72 W1)] H := hP
  have hD : va_D A [(k0, .inr (9, [.ref m0, .int s1, .int s2, .int s3, .int s4, .int s5, .int s6, .ref m7, .ref m8, .ref m9, .int s10, .int (nI t), .int s12, .ref m13, .ref m14, .ref m15, .int s16, .ref m17, .ref m18, .ref m19, .ref m20, .ref m21, .ref m22, .ref m23, .ref m24, .ref m25, .ref m26, .ref m27, .ref m28, .int s29, .ref m30, .int s31, .int s32, .int s33, .int s34, .int s35, .ref m36, .ref m37, .ref m38, .ref m39, .long s40])), (m13, ai g 6 K), (m14, ai g 6 L), (m15, ai g 96 V), (m20, ai g 168 Rb), (m22, ai g 72 W1)] := hD
  refine lv_istore_n (lv' := [(3, .int r_1), (0, .ref k0), (1, .int (nI k)), (2, .int (nI u))]) hx hb dX9_isBorrowed_6 rfl hl (by decide) rfl (fun ls hl => ?_)
  refine lv_iload_n hx hb dX9_isBorrowed_7 rfl (lv_at hl 0 rfl) ?_
  refine lv_iconst (v := 1) hx hb dX9_isBorrowed_8 (by decide) ?_
  refine lv_icmp_gt (tgt := 22) hx hb dX9_isBorrowed_9 (by decide) (fun c9_2 => ?_) (fun c9_2 => ?_)
  · skip
    refine lv_iconst (v := 1) hx hb dX9_isBorrowed_22 (by decide) ?_
    refine lv_goto (tgt := 27) hx hb dX9_isBorrowed_23 (by decide) ?_
    refine W.widen (k := 0) (n := 0) (Nat.le_of_ble_eq_true rfl) (Nat.le_of_ble_eq_true rfl) ?_
    exact k_rz hx hb hr hlocks hS hP hD rfl rfl dX9_isBorrowed_27
  · skip
    refine lv_iload_n hx hb dX9_isBorrowed_12 rfl (lv_at hl 0 rfl) ?_
    refine lv_aload_n hx hb dX9_isBorrowed_13 rfl (lv_at hl 1 rfl) ?_
    refine va_get (D := g.1) (ci := 9) (v := .ref m14) (C := RX9) (T := TX9) (N := 41) hx hb hts q_X9_isBorrowed_g_f9 hown hE.1 hP 0 rfl rfl 14 (by decide) (hts (.fieldLink RX9 25 "SoundLawsModel" "longs" "[I") q_X9_isBorrowed_g_1) (fun _ h9 => h9) rfl dX9_isBorrowed_14 ?_
    refine lv_iload_n hx hb dX9_isBorrowed_17 rfl (lv_at hl 2 rfl) ?_
    refine k_ald k rfl (by omega) hx hb hE hP 2 rfl (by decide) dX9_isBorrowed_18 ?_
    refine lv_icmp_ne (tgt := 26) hx hb dX9_isBorrowed_19 (by decide) (fun c19_3 => ?_) (fun c19_3 => ?_)
    · skip
      refine lv_iconst (v := 0) hx hb dX9_isBorrowed_26 (by decide) ?_
      refine W.widen (k := 0) (n := 0) (Nat.le_of_ble_eq_true rfl) (Nat.le_of_ble_eq_true rfl) ?_
      exact k_rz hx hb hr hlocks hS hP hD rfl rfl dX9_isBorrowed_27
    · skip
      refine lv_iconst (v := 1) hx hb dX9_isBorrowed_22 (by decide) ?_
      refine lv_goto (tgt := 27) hx hb dX9_isBorrowed_23 (by decide) ?_
      refine W.widen (k := 0) (n := 0) (Nat.le_of_ble_eq_true rfl) (Nat.le_of_ble_eq_true rfl) ?_
      exact k_rz hx hb hr hlocks hS hP hD rfl rfl dX9_isBorrowed_27
def po_X9_strangeAll_g (g : GG) (k0 : Nat) (m0 : Nat) (s1 : Int32) (s2 : Int32) (s3 : Int32) (s4 : Int32) (s5 : Int32) (s6 : Int32) (m7 : Nat) (m8 : Nat) (m9 : Nat) (s10 : Int32) (s12 : Int32) (m13 : Nat) (m14 : Nat) (m15 : Nat) (s16 : Int32) (m17 : Nat) (m18 : Nat) (m19 : Nat) (m20 : Nat) (m21 : Nat) (m22 : Nat) (m23 : Nat) (m24 : Nat) (m25 : Nat) (m26 : Nat) (m27 : Nat) (m28 : Nat) (s29 : Int32) (m30 : Nat) (s31 : Int32) (s32 : Int32) (s33 : Int32) (s34 : Int32) (s35 : Int32) (m36 : Nat) (m37 : Nat) (m38 : Nat) (m39 : Nat) (s40 : Int64) (t : Nat) (K : Nat → Int32) (L : Nat → Int32) (V : Nat → Int32) (Rb : Nat → Int32) (W1 : Nat → Int32) (k : Nat) : Int32 → va_W → Prop := fun (r : Int32) w => w = [(k0, .inr (9, [.ref m0, .int s1, .int s2, .int s3, .int s4, .int s5, .int s6, .ref m7, .ref m8, .ref m9, .int s10, .int (nI t), .int s12, .ref m13, .ref m14, .ref m15, .int s16, .ref m17, .ref m18, .ref m19, .ref m20, .ref m21, .ref m22, .ref m23, .ref m24, .ref m25, .ref m26, .ref m27, .ref m28, .int s29, .ref m30, .int s31, .int s32, .int s33, .int s34, .int s35, .ref m36, .ref m37, .ref m38, .ref m39, .long s40])), (m13, ai g 6 K), (m14, ai g 6 L), (m15, ai g 96 V), (m20, ai g 168 Rb), (m22, ai g 72 W1)]
theorem q_X9_strangeAll_g_f9 : ∀ w ∈ u_ws RX9 TX9 41, w ∈ wsX9_strangeAll := by decide +kernel
theorem q_X9_strangeAll_g_1 : (Cond.fieldLink RX9 150 "SoundLawsModel" "tongues" "I") ∈ wsX9_strangeAll := by decide +kernel
set_option maxHeartbeats 1500000 in
set_option maxRecDepth 100000 in
theorem c_X9_strangeAll_g (l : Launch) (g : GG) (k0 : Nat) (m0 : Nat) (s1 : Int32) (s2 : Int32) (s3 : Int32) (s4 : Int32) (s5 : Int32) (s6 : Int32) (m7 : Nat) (m8 : Nat) (m9 : Nat) (s10 : Int32) (s12 : Int32) (m13 : Nat) (m14 : Nat) (m15 : Nat) (s16 : Int32) (m17 : Nat) (m18 : Nat) (m19 : Nat) (m20 : Nat) (m21 : Nat) (m22 : Nat) (m23 : Nat) (m24 : Nat) (m25 : Nat) (m26 : Nat) (m27 : Nat) (m28 : Nat) (s29 : Int32) (m30 : Nat) (s31 : Int32) (s32 : Int32) (s33 : Int32) (s34 : Int32) (s35 : Int32) (m36 : Nat) (m37 : Nat) (m38 : Nat) (m39 : Nat) (s40 : Int64) (t : Nat) (K : Nat → Int32) (L : Nat → Int32) (V : Nat → Int32) (Rb : Nat → Int32) (W1 : Nat → Int32) (k : Nat) (ht : 2 ≤ t) (ht4 : t ≤ 4) (hk : k < 6) (hL : rng 6 5 L) (hF : ¬ irb (K k) = 0 → ∀ m, m < 5 → L k = nI m → ∀ n, n < m → ∃ v, v < 9 ∧ Rb (28 * k + 7 * n + (2 * t - 2)) = nI v) (sz : Nat) : MetI l yX9_strangeAll wsX9_strangeAll ({ frames := 4, cells := 0, slots := 0, locals := 91 }) g [.ref k0, .int (nI k)] [(k0, .inr (9, [.ref m0, .int s1, .int s2, .int s3, .int s4, .int s5, .int s6, .ref m7, .ref m8, .ref m9, .int s10, .int (nI t), .int s12, .ref m13, .ref m14, .ref m15, .int s16, .ref m17, .ref m18, .ref m19, .ref m20, .ref m21, .ref m22, .ref m23, .ref m24, .ref m25, .ref m26, .ref m27, .ref m28, .int s29, .ref m30, .int s31, .int s32, .int s33, .int s34, .int s35, .ref m36, .ref m37, .ref m38, .ref m39, .long s40])), (m13, ai g 6 K), (m14, ai g 6 L), (m15, ai g 96 V), (m20, ai g 168 Rb), (m22, ai g 72 W1)] sz (po_X9_strangeAll_g g k0 m0 s1 s2 s3 s4 s5 s6 m7 m8 m9 s10 s12 m13 m14 m15 s16 m17 m18 m19 m20 m21 m22 m23 m24 m25 m26 m27 m28 s29 m30 s31 s32 s33 s34 s35 m36 m37 m38 m39 s40 t K L V Rb W1 k) 0 0 := by
  refine k_of (l := l) (y := yX9_strangeAll) (ws := wsX9_strangeAll) (rm := { frames := 4, cells := 0, slots := 0, locals := 91 }) (mc := 0) (ms := 0) (av := [.ref k0, .int (nI k)]) (g := g) (wc := [(k0, .inr (9, [.ref m0, .int s1, .int s2, .int s3, .int s4, .int s5, .int s6, .ref m7, .ref m8, .ref m9, .int s10, .int (nI t), .int s12, .ref m13, .ref m14, .ref m15, .int s16, .ref m17, .ref m18, .ref m19, .ref m20, .ref m21, .ref m22, .ref m23, .ref m24, .ref m25, .ref m26, .ref m27, .ref m28, .int s29, .ref m30, .int s31, .int s32, .int s33, .int s34, .int s35, .ref m36, .ref m37, .ref m38, .ref m39, .long s40])), (m13, ai g 6 K), (m14, ai g 6 L), (m15, ai g 96 V), (m20, ai g 168 Rb), (m22, ai g 72 W1)]) (Qc := fun A => va_Qi (po_X9_strangeAll_g g k0 m0 s1 s2 s3 s4 s5 s6 m7 m8 m9 s10 s12 m13 m14 m15 s16 m17 m18 m19 m20 m21 m22 m23 m24 m25 m26 m27 m28 s29 m30 s31 s32 s33 s34 s35 m36 m37 m38 m39 s40 t K L V Rb W1 k) (bk g A) A) (cc := cX9_strangeAll) (maxL := 4) (ret := (some .int)) (by decide) rfl (Nat.le_of_ble_eq_true rfl) ?_ sz
  intro p e s m below meth c hx hb hr hts hown hlocks hnm hml A hA hE hZ hP hD hS ls hl
  have hown : s.vm.findClass RX9 = some m.cls := hown
  have hl : lv_has ls 4 [(0, .ref k0), (1, .int (nI k))] := hl
  refine lv_iconst (v := 0) hx hb dX9_strangeAll_0 (by decide) ?_
  refine lv_istore_n (lv' := [(2, .int 0), (0, .ref k0), (1, .int (nI k))]) hx hb dX9_strangeAll_1 rfl hl (by decide) rfl (fun ls hl => ?_)
  refine lv_iconst (v := 0) hx hb dX9_strangeAll_2 (by decide) ?_
  refine lv_istore_n (lv' := [(3, .int 0), (2, .int 0), (0, .ref k0), (1, .int (nI k))]) hx hb dX9_strangeAll_3 rfl hl (by decide) rfl (fun ls hl => ?_)
  have loop4 : ∀ (fu : Nat) (u : Nat) (x2 : Int32), (hu : u ≤ t) → t - u < fu → ∀ (H : Heap) (locs : List Loc) (ls : Array Slot), va_P g.1 vwCl [(k0, .inr (9, [.ref m0, .int s1, .int s2, .int s3, .int s4, .int s5, .int s6, .ref m7, .ref m8, .ref m9, .int s10, .int (nI t), .int s12, .ref m13, .ref m14, .ref m15, .int s16, .ref m17, .ref m18, .ref m19, .ref m20, .ref m21, .ref m22, .ref m23, .ref m24, .ref m25, .ref m26, .ref m27, .ref m28, .int s29, .ref m30, .int s31, .int s32, .int s33, .int s34, .int s35, .ref m36, .ref m37, .ref m38, .ref m39, .long s40])), (m13, ai g 6 K), (m14, ai g 6 L), (m15, ai g 96 V), (m20, ai g 168 Rb), (m22, ai g 72 W1)] H → va_D A [(k0, .inr (9, [.ref m0, .int s1, .int s2, .int s3, .int s4, .int s5, .int s6, .ref m7, .ref m8, .ref m9, .int s10, .int (nI t), .int s12, .ref m13, .ref m14, .ref m15, .int s16, .ref m17, .ref m18, .ref m19, .ref m20, .ref m21, .ref m22, .ref m23, .ref m24, .ref m25, .ref m26, .ref m27, .ref m28, .int s29, .ref m30, .int s31, .int s32, .int s33, .int s34, .int s35, .ref m36, .ref m37, .ref m38, .ref m39, .long s40])), (m13, ai g 6 K), (m14, ai g 6 L), (m15, ai g 96 V), (m20, ai g 168 Rb), (m22, ai g 72 W1)] → va_S A s.heap H locs → lv_has ls 4 [(0, .ref k0), (1, .int (nI k)), (2, .int x2), (3, .int (nI u))] → W p l e ({ frames := 4, cells := 0, slots := 0, locals := 91 }) s m [.ref k0, .int (nI k)].toArray below meth c H locs 0 0 (MQ below (va_Qi (po_X9_strangeAll_g g k0 m0 s1 s2 s3 s4 s5 s6 m7 m8 m9 s10 s12 m13 m14 m15 s16 m17 m18 m19 m20 m21 m22 m23 m24 m25 m26 m27 m28 s29 m30 s31 s32 s33 s34 s35 m36 m37 m38 m39 s40 t K L V Rb W1 k) (bk g A) A) [.ref k0, .int (nI k)].toArray s 0 0 A) (F0 m 4 ls []) := by
    intro fu
    induction fu with
    | zero => intro u x2 hu hfu; exact absurd hfu (Nat.not_lt_zero _)
    | succ fu ih =>
      intro u x2 hu hfu H locs ls hP hD hS hl
      have ih4 := ih
      refine lv_iload_n hx hb dX9_strangeAll_4 rfl (lv_at hl 3 rfl) ?_
      refine lv_aload_n hx hb dX9_strangeAll_5 rfl (lv_at hl 0 rfl) ?_
      refine va_get (D := g.1) (ci := 9) (v := .int (nI t)) (C := RX9) (T := TX9) (N := 41) hx hb hts q_X9_strangeAll_g_f9 hown hE.1 hP 0 rfl rfl 11 (by decide) (hts (.fieldLink RX9 150 "SoundLawsModel" "tongues" "I") q_X9_strangeAll_g_1) (fun _ h9 => h9) rfl dX9_strangeAll_6 ?_
      refine lv_icmp_ge (tgt := 27) hx hb dX9_strangeAll_9 (by decide) (fun c9_1 => ?_) (fun c9_1 => ?_)
      · skip
        refine lv_iload_n hx hb dX9_strangeAll_27 rfl (lv_at hl 2 rfl) ?_
        refine W.widen (k := 0) (n := 0) (Nat.le_of_ble_eq_true rfl) (Nat.le_of_ble_eq_true rfl) ?_
        exact k_ri hx hb hr hlocks hS hP hD rfl dX9_strangeAll_28
      · skip
        have hu9 := lt_of_nle (k := t) (n := u) (by omega) (by omega) c9_1
        refine lv_iload_n hx hb dX9_strangeAll_12 rfl (lv_at hl 2 rfl) ?_
        refine lv_aload_n hx hb dX9_strangeAll_13 rfl (lv_at hl 0 rfl) ?_
        refine lv_iload_n hx hb dX9_strangeAll_14 rfl (lv_at hl 1 rfl) ?_
        refine lv_iload_n hx hb dX9_strangeAll_15 rfl (lv_at hl 3 rfl) ?_
        refine k_ci (wr := []) hP hD hS hA [0, 1, 2, 3, 4, 5] [] rfl rfl (by decide) (by decide) (va_runV (As := [.int (nI k), .int (nI u)]) (rest := [.int x2]) ⟨hx, hb, hml, hown, hts⟩ (c_X9_strangeOf_g l g k0 m0 s1 s2 s3 s4 s5 s6 m7 m8 m9 s10 s12 m13 m14 m15 s16 m17 m18 m19 m20 m21 m22 m23 m24 m25 m26 m27 m28 s29 m30 s31 s32 s33 s34 s35 m36 m37 m38 m39 s40 t K L V Rb W1 k u (by first | assumption | omega) (by first | assumption | omega) (by first | assumption | omega) (by first | assumption | omega) (by first | assumption | omega) (by first | assumption | omega) H.size) (cwV 2 hts gX9_strangeAll_X9_strangeOf rfl rfl rfl (by decide +kernel) ⟨Nat.le_of_ble_eq_true rfl, Nat.le_of_ble_eq_true rfl⟩) (k_preV hE hZ hP hD hS hA [0, 1, 2, 3, 4, 5] rfl (by decide) (va_recv hE.1 hP (ci := 9) (q0 := 0) rfl rfl)) rfl rfl hl.1 rfl (lv_room (Nat.le_of_ble_eq_true rfl)) dX9_strangeAll_16 ⟨Nat.le_of_ble_eq_true rfl, Nat.le_of_ble_eq_true rfl⟩) (fun r_2 w1 H locs hw hP hD hS => ?_)
        obtain rfl := hw
        have hP : va_P g.1 vwCl [(k0, .inr (9, [.ref m0, .int s1, .int s2, .int s3, .int s4, .int s5, .int s6, .ref m7, .ref m8, .ref m9, .int s10, .int (nI t), .int s12, .ref m13, .ref m14, .ref m15, .int s16, .ref m17, .ref m18, .ref m19, .ref m20, .ref m21, .ref m22, .ref m23, .ref m24, .ref m25, .ref m26, .ref m27, .ref m28, .int s29, .ref m30, .int s31, .int s32, .int s33, .int s34, .int s35, .ref m36, .ref m37, .ref m38, .ref m39, .long s40])), (m13, ai g 6 K), (m14, ai g 6 L), (m15, ai g 96 V), (m20, ai g 168 Rb), (m22, ai g 72 W1)] H := hP
        have hD : va_D A [(k0, .inr (9, [.ref m0, .int s1, .int s2, .int s3, .int s4, .int s5, .int s6, .ref m7, .ref m8, .ref m9, .int s10, .int (nI t), .int s12, .ref m13, .ref m14, .ref m15, .int s16, .ref m17, .ref m18, .ref m19, .ref m20, .ref m21, .ref m22, .ref m23, .ref m24, .ref m25, .ref m26, .ref m27, .ref m28, .int s29, .ref m30, .int s31, .int s32, .int s33, .int s34, .int s35, .ref m36, .ref m37, .ref m38, .ref m39, .long s40])), (m13, ai g 6 K), (m14, ai g 6 L), (m15, ai g 96 V), (m20, ai g 168 Rb), (m22, ai g 72 W1)] := hD
        refine lv_iadd hx hb dX9_strangeAll_19 ?_
        refine lv_topi (fun x_3 ex_3 => ?_)
        refine lv_istore_n (lv' := [(2, .int x_3), (0, .ref k0), (1, .int (nI k)), (3, .int (nI u))]) hx hb dX9_strangeAll_20 rfl hl (by decide) rfl (fun ls hl => ?_)
        refine lv_iinc (v := (nI (u + 1))) (lv' := [(3, .int (nI (u + 1))), (2, .int x_3), (0, .ref k0), (1, .int (nI k))]) hx hb dX9_strangeAll_21 hl (k := 3) rfl (nI_1 _) (by decide) rfl (fun ls hl => ?_)
        refine lv_goto (tgt := 4) hx hb dX9_strangeAll_24 (by decide) ?_
        exact ih4 (u + 1) _ (by omega) (by omega) _ _ _ hP hD hS (lv_sub hl [2, 3, 1, 0] rfl)
  exact loop4 _ 0 0 (Nat.zero_le t) (Nat.lt_succ_self _) _ _ _ hP hD hS (lv_sub hl [2, 3, 1, 0] rfl)
def po_X9_borrowed_g (g : GG) (k0 : Nat) (m0 : Nat) (s1 : Int32) (s2 : Int32) (s3 : Int32) (s4 : Int32) (s5 : Int32) (s6 : Int32) (m7 : Nat) (m8 : Nat) (m9 : Nat) (s10 : Int32) (s12 : Int32) (m13 : Nat) (m14 : Nat) (m15 : Nat) (s16 : Int32) (m17 : Nat) (m18 : Nat) (m19 : Nat) (m20 : Nat) (m21 : Nat) (m22 : Nat) (m23 : Nat) (m24 : Nat) (m25 : Nat) (m26 : Nat) (m27 : Nat) (m28 : Nat) (s29 : Int32) (m30 : Nat) (s31 : Int32) (s32 : Int32) (s33 : Int32) (s34 : Int32) (s35 : Int32) (m36 : Nat) (m37 : Nat) (m38 : Nat) (m39 : Nat) (s40 : Int64) (t : Nat) (K : Nat → Int32) (L : Nat → Int32) (V : Nat → Int32) (Rb : Nat → Int32) (W1 : Nat → Int32) (k : Nat) : Int32 → va_W → Prop := fun (r : Int32) w => w = [(k0, .inr (9, [.ref m0, .int s1, .int s2, .int s3, .int s4, .int s5, .int s6, .ref m7, .ref m8, .ref m9, .int s10, .int (nI t), .int s12, .ref m13, .ref m14, .ref m15, .int s16, .ref m17, .ref m18, .ref m19, .ref m20, .ref m21, .ref m22, .ref m23, .ref m24, .ref m25, .ref m26, .ref m27, .ref m28, .int s29, .ref m30, .int s31, .int s32, .int s33, .int s34, .int s35, .ref m36, .ref m37, .ref m38, .ref m39, .long s40])), (m13, ai g 6 K), (m14, ai g 6 L), (m15, ai g 96 V), (m20, ai g 168 Rb), (m22, ai g 72 W1)]
theorem q_X9_borrowed_g_f9 : ∀ w ∈ u_ws RX9 TX9 41, w ∈ wsX9_borrowed := by decide +kernel
theorem q_X9_borrowed_g_1 : (Cond.fieldLink RX9 150 "SoundLawsModel" "tongues" "I") ∈ wsX9_borrowed := by decide +kernel
set_option maxHeartbeats 1500000 in
set_option maxRecDepth 100000 in
theorem c_X9_borrowed_g (l : Launch) (g : GG) (k0 : Nat) (m0 : Nat) (s1 : Int32) (s2 : Int32) (s3 : Int32) (s4 : Int32) (s5 : Int32) (s6 : Int32) (m7 : Nat) (m8 : Nat) (m9 : Nat) (s10 : Int32) (s12 : Int32) (m13 : Nat) (m14 : Nat) (m15 : Nat) (s16 : Int32) (m17 : Nat) (m18 : Nat) (m19 : Nat) (m20 : Nat) (m21 : Nat) (m22 : Nat) (m23 : Nat) (m24 : Nat) (m25 : Nat) (m26 : Nat) (m27 : Nat) (m28 : Nat) (s29 : Int32) (m30 : Nat) (s31 : Int32) (s32 : Int32) (s33 : Int32) (s34 : Int32) (s35 : Int32) (m36 : Nat) (m37 : Nat) (m38 : Nat) (m39 : Nat) (s40 : Int64) (t : Nat) (K : Nat → Int32) (L : Nat → Int32) (V : Nat → Int32) (Rb : Nat → Int32) (W1 : Nat → Int32) (k : Nat) (ht : 2 ≤ t) (ht4 : t ≤ 4) (hk : k < 6) (hL : rng 6 5 L) (hF : ¬ irb (K k) = 0 → ∀ m, m < 5 → L k = nI m → ∀ n, n < m → ∃ v, v < 9 ∧ Rb (28 * k + 7 * n + (2 * t - 2)) = nI v) (sz : Nat) : MetI l yX9_borrowed wsX9_borrowed ({ frames := 5, cells := 0, slots := 0, locals := 114 }) g [.ref k0, .int (nI k)] [(k0, .inr (9, [.ref m0, .int s1, .int s2, .int s3, .int s4, .int s5, .int s6, .ref m7, .ref m8, .ref m9, .int s10, .int (nI t), .int s12, .ref m13, .ref m14, .ref m15, .int s16, .ref m17, .ref m18, .ref m19, .ref m20, .ref m21, .ref m22, .ref m23, .ref m24, .ref m25, .ref m26, .ref m27, .ref m28, .int s29, .ref m30, .int s31, .int s32, .int s33, .int s34, .int s35, .ref m36, .ref m37, .ref m38, .ref m39, .long s40])), (m13, ai g 6 K), (m14, ai g 6 L), (m15, ai g 96 V), (m20, ai g 168 Rb), (m22, ai g 72 W1)] sz (po_X9_borrowed_g g k0 m0 s1 s2 s3 s4 s5 s6 m7 m8 m9 s10 s12 m13 m14 m15 s16 m17 m18 m19 m20 m21 m22 m23 m24 m25 m26 m27 m28 s29 m30 s31 s32 s33 s34 s35 m36 m37 m38 m39 s40 t K L V Rb W1 k) 0 0 := by
  refine k_of (l := l) (y := yX9_borrowed) (ws := wsX9_borrowed) (rm := { frames := 5, cells := 0, slots := 0, locals := 114 }) (mc := 0) (ms := 0) (av := [.ref k0, .int (nI k)]) (g := g) (wc := [(k0, .inr (9, [.ref m0, .int s1, .int s2, .int s3, .int s4, .int s5, .int s6, .ref m7, .ref m8, .ref m9, .int s10, .int (nI t), .int s12, .ref m13, .ref m14, .ref m15, .int s16, .ref m17, .ref m18, .ref m19, .ref m20, .ref m21, .ref m22, .ref m23, .ref m24, .ref m25, .ref m26, .ref m27, .ref m28, .int s29, .ref m30, .int s31, .int s32, .int s33, .int s34, .int s35, .ref m36, .ref m37, .ref m38, .ref m39, .long s40])), (m13, ai g 6 K), (m14, ai g 6 L), (m15, ai g 96 V), (m20, ai g 168 Rb), (m22, ai g 72 W1)]) (Qc := fun A => va_Qi (po_X9_borrowed_g g k0 m0 s1 s2 s3 s4 s5 s6 m7 m8 m9 s10 s12 m13 m14 m15 s16 m17 m18 m19 m20 m21 m22 m23 m24 m25 m26 m27 m28 s29 m30 s31 s32 s33 s34 s35 m36 m37 m38 m39 s40 t K L V Rb W1 k) (bk g A) A) (cc := cX9_borrowed) (maxL := 4) (ret := (some .int)) (by decide) rfl (Nat.le_of_ble_eq_true rfl) ?_ sz
  intro p e s m below meth c hx hb hr hts hown hlocks hnm hml A hA hE hZ hP hD hS ls hl
  have hown : s.vm.findClass RX9 = some m.cls := hown
  have hl : lv_has ls 4 [(0, .ref k0), (1, .int (nI k))] := hl
  refine lv_iconst (v := 0) hx hb dX9_borrowed_0 (by decide) ?_
  refine lv_istore_n (lv' := [(2, .int 0), (0, .ref k0), (1, .int (nI k))]) hx hb dX9_borrowed_1 rfl hl (by decide) rfl (fun ls hl => ?_)
  refine lv_iconst (v := 0) hx hb dX9_borrowed_2 (by decide) ?_
  refine lv_istore_n (lv' := [(3, .int 0), (2, .int 0), (0, .ref k0), (1, .int (nI k))]) hx hb dX9_borrowed_3 rfl hl (by decide) rfl (fun ls hl => ?_)
  have loop4 : ∀ (fu : Nat) (u : Nat) (x2 : Int32), (hu : u ≤ t) → t - u < fu → ∀ (H : Heap) (locs : List Loc) (ls : Array Slot), va_P g.1 vwCl [(k0, .inr (9, [.ref m0, .int s1, .int s2, .int s3, .int s4, .int s5, .int s6, .ref m7, .ref m8, .ref m9, .int s10, .int (nI t), .int s12, .ref m13, .ref m14, .ref m15, .int s16, .ref m17, .ref m18, .ref m19, .ref m20, .ref m21, .ref m22, .ref m23, .ref m24, .ref m25, .ref m26, .ref m27, .ref m28, .int s29, .ref m30, .int s31, .int s32, .int s33, .int s34, .int s35, .ref m36, .ref m37, .ref m38, .ref m39, .long s40])), (m13, ai g 6 K), (m14, ai g 6 L), (m15, ai g 96 V), (m20, ai g 168 Rb), (m22, ai g 72 W1)] H → va_D A [(k0, .inr (9, [.ref m0, .int s1, .int s2, .int s3, .int s4, .int s5, .int s6, .ref m7, .ref m8, .ref m9, .int s10, .int (nI t), .int s12, .ref m13, .ref m14, .ref m15, .int s16, .ref m17, .ref m18, .ref m19, .ref m20, .ref m21, .ref m22, .ref m23, .ref m24, .ref m25, .ref m26, .ref m27, .ref m28, .int s29, .ref m30, .int s31, .int s32, .int s33, .int s34, .int s35, .ref m36, .ref m37, .ref m38, .ref m39, .long s40])), (m13, ai g 6 K), (m14, ai g 6 L), (m15, ai g 96 V), (m20, ai g 168 Rb), (m22, ai g 72 W1)] → va_S A s.heap H locs → lv_has ls 4 [(0, .ref k0), (1, .int (nI k)), (2, .int x2), (3, .int (nI u))] → W p l e ({ frames := 5, cells := 0, slots := 0, locals := 114 }) s m [.ref k0, .int (nI k)].toArray below meth c H locs 0 0 (MQ below (va_Qi (po_X9_borrowed_g g k0 m0 s1 s2 s3 s4 s5 s6 m7 m8 m9 s10 s12 m13 m14 m15 s16 m17 m18 m19 m20 m21 m22 m23 m24 m25 m26 m27 m28 s29 m30 s31 s32 s33 s34 s35 m36 m37 m38 m39 s40 t K L V Rb W1 k) (bk g A) A) [.ref k0, .int (nI k)].toArray s 0 0 A) (F0 m 4 ls []) := by
    intro fu
    induction fu with
    | zero => intro u x2 hu hfu; exact absurd hfu (Nat.not_lt_zero _)
    | succ fu ih =>
      intro u x2 hu hfu H locs ls hP hD hS hl
      have ih4 := ih
      refine lv_iload_n hx hb dX9_borrowed_4 rfl (lv_at hl 3 rfl) ?_
      refine lv_aload_n hx hb dX9_borrowed_5 rfl (lv_at hl 0 rfl) ?_
      refine va_get (D := g.1) (ci := 9) (v := .int (nI t)) (C := RX9) (T := TX9) (N := 41) hx hb hts q_X9_borrowed_g_f9 hown hE.1 hP 0 rfl rfl 11 (by decide) (hts (.fieldLink RX9 150 "SoundLawsModel" "tongues" "I") q_X9_borrowed_g_1) (fun _ h9 => h9) rfl dX9_borrowed_6 ?_
      refine lv_icmp_ge (tgt := 37) hx hb dX9_borrowed_9 (by decide) (fun c9_1 => ?_) (fun c9_1 => ?_)
      · skip
        refine lv_iload_n hx hb dX9_borrowed_37 rfl (lv_at hl 2 rfl) ?_
        refine W.widen (k := 0) (n := 0) (Nat.le_of_ble_eq_true rfl) (Nat.le_of_ble_eq_true rfl) ?_
        exact k_ri hx hb hr hlocks hS hP hD rfl dX9_borrowed_38
      · skip
        have hu9 := lt_of_nle (k := t) (n := u) (by omega) (by omega) c9_1
        refine lv_iload_n hx hb dX9_borrowed_12 rfl (lv_at hl 2 rfl) ?_
        refine lv_aload_n hx hb dX9_borrowed_13 rfl (lv_at hl 0 rfl) ?_
        refine lv_iload_n hx hb dX9_borrowed_14 rfl (lv_at hl 1 rfl) ?_
        refine lv_iload_n hx hb dX9_borrowed_15 rfl (lv_at hl 3 rfl) ?_
        refine k_ci (wr := []) hP hD hS hA [0, 1, 2, 3, 4, 5] [] rfl rfl (by decide) (by decide) (va_runV (As := [.int (nI k), .int (nI u)]) (rest := [.int x2]) ⟨hx, hb, hml, hown, hts⟩ (c_X9_isBorrowed_g l g k0 m0 s1 s2 s3 s4 s5 s6 m7 m8 m9 s10 s12 m13 m14 m15 s16 m17 m18 m19 m20 m21 m22 m23 m24 m25 m26 m27 m28 s29 m30 s31 s32 s33 s34 s35 m36 m37 m38 m39 s40 t K L V Rb W1 k u (by first | assumption | omega) (by first | assumption | omega) (by first | assumption | omega) (by first | assumption | omega) (by first | assumption | omega) (by first | assumption | omega) H.size) (cwV 2 hts gX9_borrowed_X9_isBorrowed rfl rfl rfl (by decide +kernel) ⟨Nat.le_of_ble_eq_true rfl, Nat.le_of_ble_eq_true rfl⟩) (k_preV hE hZ hP hD hS hA [0, 1, 2, 3, 4, 5] rfl (by decide) (va_recv hE.1 hP (ci := 9) (q0 := 0) rfl rfl)) rfl rfl hl.1 rfl (lv_room (Nat.le_of_ble_eq_true rfl)) dX9_borrowed_16 ⟨Nat.le_of_ble_eq_true rfl, Nat.le_of_ble_eq_true rfl⟩) (fun r_2 w1 H locs hw hP hD hS => ?_)
        obtain rfl := hw
        have hP : va_P g.1 vwCl [(k0, .inr (9, [.ref m0, .int s1, .int s2, .int s3, .int s4, .int s5, .int s6, .ref m7, .ref m8, .ref m9, .int s10, .int (nI t), .int s12, .ref m13, .ref m14, .ref m15, .int s16, .ref m17, .ref m18, .ref m19, .ref m20, .ref m21, .ref m22, .ref m23, .ref m24, .ref m25, .ref m26, .ref m27, .ref m28, .int s29, .ref m30, .int s31, .int s32, .int s33, .int s34, .int s35, .ref m36, .ref m37, .ref m38, .ref m39, .long s40])), (m13, ai g 6 K), (m14, ai g 6 L), (m15, ai g 96 V), (m20, ai g 168 Rb), (m22, ai g 72 W1)] H := hP
        have hD : va_D A [(k0, .inr (9, [.ref m0, .int s1, .int s2, .int s3, .int s4, .int s5, .int s6, .ref m7, .ref m8, .ref m9, .int s10, .int (nI t), .int s12, .ref m13, .ref m14, .ref m15, .int s16, .ref m17, .ref m18, .ref m19, .ref m20, .ref m21, .ref m22, .ref m23, .ref m24, .ref m25, .ref m26, .ref m27, .ref m28, .int s29, .ref m30, .int s31, .int s32, .int s33, .int s34, .int s35, .ref m36, .ref m37, .ref m38, .ref m39, .long s40])), (m13, ai g 6 K), (m14, ai g 6 L), (m15, ai g 96 V), (m20, ai g 168 Rb), (m22, ai g 72 W1)] := hD
        refine lv_if_eq (tgt := 28) hx hb dX9_borrowed_19 (by decide) (fun c19_3 => ?_) (fun c19_3 => ?_)
        · skip
          refine lv_iconst (v := 0) hx hb dX9_borrowed_28 (by decide) ?_
          refine lv_ior hx hb dX9_borrowed_29 ?_
          refine lv_topi (fun x_4 ex_4 => ?_)
          refine lv_istore_n (lv' := [(2, .int x_4), (0, .ref k0), (1, .int (nI k)), (3, .int (nI u))]) hx hb dX9_borrowed_30 rfl hl (by decide) rfl (fun ls hl => ?_)
          refine lv_iinc (v := (nI (u + 1))) (lv' := [(3, .int (nI (u + 1))), (2, .int x_4), (0, .ref k0), (1, .int (nI k))]) hx hb dX9_borrowed_31 hl (k := 3) rfl (nI_1 _) (by decide) rfl (fun ls hl => ?_)
          refine lv_goto (tgt := 4) hx hb dX9_borrowed_34 (by decide) ?_
          exact ih4 (u + 1) _ (by omega) (by omega) _ _ _ hP hD hS (lv_sub hl [2, 3, 1, 0] rfl)
        · skip
          refine lv_iconst (v := 1) hx hb dX9_borrowed_22 (by decide) ?_
          refine lv_iload_n hx hb dX9_borrowed_23 rfl (lv_at hl 3 rfl) ?_
          refine lv_ishl hx hb dX9_borrowed_24 ?_
          refine lv_goto (tgt := 29) hx hb dX9_borrowed_25 (by decide) ?_
          refine lv_ior hx hb dX9_borrowed_29 ?_
          refine lv_topi (fun x_5 ex_5 => ?_)
          refine lv_istore_n (lv' := [(2, .int x_5), (0, .ref k0), (1, .int (nI k)), (3, .int (nI u))]) hx hb dX9_borrowed_30 rfl hl (by decide) rfl (fun ls hl => ?_)
          refine lv_iinc (v := (nI (u + 1))) (lv' := [(3, .int (nI (u + 1))), (2, .int x_5), (0, .ref k0), (1, .int (nI k))]) hx hb dX9_borrowed_31 hl (k := 3) rfl (nI_1 _) (by decide) rfl (fun ls hl => ?_)
          refine lv_goto (tgt := 4) hx hb dX9_borrowed_34 (by decide) ?_
          exact ih4 (u + 1) _ (by omega) (by omega) _ _ _ hP hD hS (lv_sub hl [2, 3, 1, 0] rfl)
  exact loop4 _ 0 0 (Nat.zero_le t) (Nat.lt_succ_self _) _ _ _ hP hD hS (lv_sub hl [2, 3, 1, 0] rfl)
def po_X9_sortsBy_g (g : GG) (p1 : Int32) : Int32 → va_W → Prop := fun (r : Int32) w => w = []
set_option maxHeartbeats 1500000 in
set_option maxRecDepth 100000 in
theorem c_X9_sortsBy_g (l : Launch) (g : GG) (p1 : Int32)  (sz : Nat) : MetI l yX9_sortsBy wsX9_sortsBy ({ frames := 0, cells := 0, slots := 0, locals := 0 }) g [.int p1] [] sz (po_X9_sortsBy_g g p1) 0 0 := by
  refine k_of (l := l) (y := yX9_sortsBy) (ws := wsX9_sortsBy) (rm := { frames := 0, cells := 0, slots := 0, locals := 0 }) (mc := 0) (ms := 0) (av := [.int p1]) (g := g) (wc := []) (Qc := fun A => va_Qi (po_X9_sortsBy_g g p1) (bk g A) A) (cc := cX9_sortsBy) (maxL := 1) (ret := (some .int)) (by decide) rfl (Nat.le_of_ble_eq_true rfl) ?_ sz
  intro p e s m below meth c hx hb hr hts hown hlocks hnm hml A hA hE hZ hP hD hS ls hl
  have hown : s.vm.findClass RX9 = some m.cls := hown
  have hl : lv_has ls 1 [(0, .int p1)] := hl
  refine lv_iload_n hx hb dX9_sortsBy_0 rfl (lv_at hl 0 rfl) ?_
  by_cases w1_0 : p1 = 0
  · refine lv_tableIn (tgt := 28) (off := 27) hx hb dX9_sortsBy_1 (by rw [w1_0]; decide) (by rw [w1_0]; decide) (by rw [w1_0]; decide) (by decide) ?_
    refine lv_bipush (v := 17) hx hb dX9_sortsBy_28 (by decide) ?_
    refine W.widen (k := 0) (n := 0) (Nat.le_of_ble_eq_true rfl) (Nat.le_of_ble_eq_true rfl) ?_
    exact k_ri hx hb hr hlocks hS hP hD rfl dX9_sortsBy_30
  by_cases w1_1 : p1 = 1
  · refine lv_tableIn (tgt := 31) (off := 30) hx hb dX9_sortsBy_1 (by rw [w1_1]; decide) (by rw [w1_1]; decide) (by rw [w1_1]; decide) (by decide) ?_
    refine lv_bipush (v := 19) hx hb dX9_sortsBy_31 (by decide) ?_
    refine W.widen (k := 0) (n := 0) (Nat.le_of_ble_eq_true rfl) (Nat.le_of_ble_eq_true rfl) ?_
    exact k_ri hx hb hr hlocks hS hP hD rfl dX9_sortsBy_33
  by_cases w1_2 : p1 = 2
  · refine lv_tableIn (tgt := 34) (off := 33) hx hb dX9_sortsBy_1 (by rw [w1_2]; decide) (by rw [w1_2]; decide) (by rw [w1_2]; decide) (by decide) ?_
    refine lv_bipush (v := 16) hx hb dX9_sortsBy_34 (by decide) ?_
    refine W.widen (k := 0) (n := 0) (Nat.le_of_ble_eq_true rfl) (Nat.le_of_ble_eq_true rfl) ?_
    exact k_ri hx hb hr hlocks hS hP hD rfl dX9_sortsBy_36
  refine lv_tableOut (tgt := 37) hx hb dX9_sortsBy_1 (by have q0 := lv_neT w1_0 (show (0 : Int32).toInt = 0 from rfl); have q1 := lv_neT w1_1 (show (1 : Int32).toInt = 1 from rfl); have q2 := lv_neT w1_2 (show (2 : Int32).toInt = 2 from rfl); omega) (by decide) ?_
  refine lv_iconst (v := 2) hx hb dX9_sortsBy_37 (by decide) ?_
  refine W.widen (k := 0) (n := 0) (Nat.le_of_ble_eq_true rfl) (Nat.le_of_ble_eq_true rfl) ?_
  exact k_ri hx hb hr hlocks hS hP hD rfl dX9_sortsBy_38
def po_X9_sortsOf_g (g : GG) (k0 : Nat) (m0 : Nat) (s1 : Int32) (s2 : Int32) (s3 : Int32) (s4 : Int32) (s5 : Int32) (s6 : Int32) (m7 : Nat) (m8 : Nat) (m9 : Nat) (s10 : Int32) (s11 : Int32) (s12 : Int32) (m13 : Nat) (m14 : Nat) (m15 : Nat) (s16 : Int32) (m17 : Nat) (m18 : Nat) (m19 : Nat) (m20 : Nat) (m21 : Nat) (m22 : Nat) (m23 : Nat) (m24 : Nat) (m25 : Nat) (m26 : Nat) (m27 : Nat) (m28 : Nat) (m30 : Nat) (s31 : Int32) (s32 : Int32) (s33 : Int32) (s34 : Int32) (s35 : Int32) (m36 : Nat) (m37 : Nat) (m38 : Nat) (m39 : Nat) (s40 : Int64) (n : Nat) (Sg : Nat → Int32) (p1 : Int32) : Int32 → va_W → Prop := fun (r : Int32) w => w = [(k0, .inr (9, [.ref m0, .int s1, .int s2, .int s3, .int s4, .int s5, .int s6, .ref m7, .ref m8, .ref m9, .int s10, .int s11, .int s12, .ref m13, .ref m14, .ref m15, .int s16, .ref m17, .ref m18, .ref m19, .ref m20, .ref m21, .ref m22, .ref m23, .ref m24, .ref m25, .ref m26, .ref m27, .ref m28, .int (nI n), .ref m30, .int s31, .int s32, .int s33, .int s34, .int s35, .ref m36, .ref m37, .ref m38, .ref m39, .long s40])), (m30, ai g 18 Sg)]
theorem q_X9_sortsOf_g_f9 : ∀ w ∈ u_ws RX9 TX9 41, w ∈ wsX9_sortsOf := by decide +kernel
theorem q_X9_sortsOf_g_1 : (Cond.fieldLink RX9 157 "SoundLawsModel" "seenMany" "I") ∈ wsX9_sortsOf := by decide +kernel
theorem q_X9_sortsOf_g_2 : (Cond.fieldLink RX9 67 "SoundLawsModel" "sights" "[I") ∈ wsX9_sortsOf := by decide +kernel
set_option maxHeartbeats 1500000 in
set_option maxRecDepth 100000 in
theorem c_X9_sortsOf_g (l : Launch) (g : GG) (k0 : Nat) (m0 : Nat) (s1 : Int32) (s2 : Int32) (s3 : Int32) (s4 : Int32) (s5 : Int32) (s6 : Int32) (m7 : Nat) (m8 : Nat) (m9 : Nat) (s10 : Int32) (s11 : Int32) (s12 : Int32) (m13 : Nat) (m14 : Nat) (m15 : Nat) (s16 : Int32) (m17 : Nat) (m18 : Nat) (m19 : Nat) (m20 : Nat) (m21 : Nat) (m22 : Nat) (m23 : Nat) (m24 : Nat) (m25 : Nat) (m26 : Nat) (m27 : Nat) (m28 : Nat) (m30 : Nat) (s31 : Int32) (s32 : Int32) (s33 : Int32) (s34 : Int32) (s35 : Int32) (m36 : Nat) (m37 : Nat) (m38 : Nat) (m39 : Nat) (s40 : Int64) (n : Nat) (Sg : Nat → Int32) (p1 : Int32) (hn : n ≤ 6) (sz : Nat) : MetI l yX9_sortsOf wsX9_sortsOf ({ frames := 1, cells := 0, slots := 0, locals := 20 }) g [.ref k0, .int p1] [(k0, .inr (9, [.ref m0, .int s1, .int s2, .int s3, .int s4, .int s5, .int s6, .ref m7, .ref m8, .ref m9, .int s10, .int s11, .int s12, .ref m13, .ref m14, .ref m15, .int s16, .ref m17, .ref m18, .ref m19, .ref m20, .ref m21, .ref m22, .ref m23, .ref m24, .ref m25, .ref m26, .ref m27, .ref m28, .int (nI n), .ref m30, .int s31, .int s32, .int s33, .int s34, .int s35, .ref m36, .ref m37, .ref m38, .ref m39, .long s40])), (m30, ai g 18 Sg)] sz (po_X9_sortsOf_g g k0 m0 s1 s2 s3 s4 s5 s6 m7 m8 m9 s10 s11 s12 m13 m14 m15 s16 m17 m18 m19 m20 m21 m22 m23 m24 m25 m26 m27 m28 m30 s31 s32 s33 s34 s35 m36 m37 m38 m39 s40 n Sg p1) 0 0 := by
  refine k_of (l := l) (y := yX9_sortsOf) (ws := wsX9_sortsOf) (rm := { frames := 1, cells := 0, slots := 0, locals := 20 }) (mc := 0) (ms := 0) (av := [.ref k0, .int p1]) (g := g) (wc := [(k0, .inr (9, [.ref m0, .int s1, .int s2, .int s3, .int s4, .int s5, .int s6, .ref m7, .ref m8, .ref m9, .int s10, .int s11, .int s12, .ref m13, .ref m14, .ref m15, .int s16, .ref m17, .ref m18, .ref m19, .ref m20, .ref m21, .ref m22, .ref m23, .ref m24, .ref m25, .ref m26, .ref m27, .ref m28, .int (nI n), .ref m30, .int s31, .int s32, .int s33, .int s34, .int s35, .ref m36, .ref m37, .ref m38, .ref m39, .long s40])), (m30, ai g 18 Sg)]) (Qc := fun A => va_Qi (po_X9_sortsOf_g g k0 m0 s1 s2 s3 s4 s5 s6 m7 m8 m9 s10 s11 s12 m13 m14 m15 s16 m17 m18 m19 m20 m21 m22 m23 m24 m25 m26 m27 m28 m30 s31 s32 s33 s34 s35 m36 m37 m38 m39 s40 n Sg p1) (bk g A) A) (cc := cX9_sortsOf) (maxL := 5) (ret := (some .int)) (by decide) rfl (Nat.le_of_ble_eq_true rfl) ?_ sz
  intro p e s m below meth c hx hb hr hts hown hlocks hnm hml A hA hE hZ hP hD hS ls hl
  have hown : s.vm.findClass RX9 = some m.cls := hown
  have hl : lv_has ls 5 [(0, .ref k0), (1, .int p1)] := hl
  refine lv_bipush (v := 31) hx hb dX9_sortsOf_0 (by decide) ?_
  refine lv_istore_n (lv' := [(2, .int 31), (0, .ref k0), (1, .int p1)]) hx hb dX9_sortsOf_2 rfl hl (by decide) rfl (fun ls hl => ?_)
  refine lv_iconst (v := 0) hx hb dX9_sortsOf_3 (by decide) ?_
  refine lv_istore_n (lv' := [(3, .int 0), (2, .int 31), (0, .ref k0), (1, .int p1)]) hx hb dX9_sortsOf_4 rfl hl (by decide) rfl (fun ls hl => ?_)
  have loop5 : ∀ (fu : Nat) (a : Nat) (x2 : Int32), (ha : a ≤ n) → n - a < fu → ∀ (H : Heap) (locs : List Loc) (ls : Array Slot), va_P g.1 vwCl [(k0, .inr (9, [.ref m0, .int s1, .int s2, .int s3, .int s4, .int s5, .int s6, .ref m7, .ref m8, .ref m9, .int s10, .int s11, .int s12, .ref m13, .ref m14, .ref m15, .int s16, .ref m17, .ref m18, .ref m19, .ref m20, .ref m21, .ref m22, .ref m23, .ref m24, .ref m25, .ref m26, .ref m27, .ref m28, .int (nI n), .ref m30, .int s31, .int s32, .int s33, .int s34, .int s35, .ref m36, .ref m37, .ref m38, .ref m39, .long s40])), (m30, ai g 18 Sg)] H → va_D A [(k0, .inr (9, [.ref m0, .int s1, .int s2, .int s3, .int s4, .int s5, .int s6, .ref m7, .ref m8, .ref m9, .int s10, .int s11, .int s12, .ref m13, .ref m14, .ref m15, .int s16, .ref m17, .ref m18, .ref m19, .ref m20, .ref m21, .ref m22, .ref m23, .ref m24, .ref m25, .ref m26, .ref m27, .ref m28, .int (nI n), .ref m30, .int s31, .int s32, .int s33, .int s34, .int s35, .ref m36, .ref m37, .ref m38, .ref m39, .long s40])), (m30, ai g 18 Sg)] → va_S A s.heap H locs → lv_has ls 5 [(0, .ref k0), (1, .int p1), (2, .int x2), (3, .int (nI (3 * a)))] → W p l e ({ frames := 1, cells := 0, slots := 0, locals := 20 }) s m [.ref k0, .int p1].toArray below meth c H locs 0 0 (MQ below (va_Qi (po_X9_sortsOf_g g k0 m0 s1 s2 s3 s4 s5 s6 m7 m8 m9 s10 s11 s12 m13 m14 m15 s16 m17 m18 m19 m20 m21 m22 m23 m24 m25 m26 m27 m28 m30 s31 s32 s33 s34 s35 m36 m37 m38 m39 s40 n Sg p1) (bk g A) A) [.ref k0, .int p1].toArray s 0 0 A) (F0 m 5 ls []) := by
    intro fu
    induction fu with
    | zero => intro a x2 ha hfu; exact absurd hfu (Nat.not_lt_zero _)
    | succ fu ih =>
      intro a x2 ha hfu H locs ls hP hD hS hl
      have ih5 := ih
      refine lv_iload_n hx hb dX9_sortsOf_5 rfl (lv_at hl 3 rfl) ?_
      refine lv_iconst (v := 3) hx hb dX9_sortsOf_6 (by decide) ?_
      refine lv_aload_n hx hb dX9_sortsOf_7 rfl (lv_at hl 0 rfl) ?_
      refine va_get (D := g.1) (ci := 9) (v := .int (nI n)) (C := RX9) (T := TX9) (N := 41) hx hb hts q_X9_sortsOf_g_f9 hown hE.1 hP 0 rfl rfl 29 (by decide) (hts (.fieldLink RX9 157 "SoundLawsModel" "seenMany" "I") q_X9_sortsOf_g_1) (fun _ h9 => h9) rfl dX9_sortsOf_8 ?_
      refine lv_imul hx hb dX9_sortsOf_11 ?_
      refine lv_topi (fun x_1 ex_1 => ?_)
      obtain rfl : x_1 = nI (3 * n) := by rw [ex_1]; rw [show (3 : Int32) = nI 3 from rfl, pk_mul]
      refine lv_icmp_ge (tgt := 69) hx hb dX9_sortsOf_12 (by decide) (fun c12_2 => ?_) (fun c12_2 => ?_)
      · skip
        refine lv_iload_n hx hb dX9_sortsOf_69 rfl (lv_at hl 2 rfl) ?_
        refine W.widen (k := 0) (n := 0) (Nat.le_of_ble_eq_true rfl) (Nat.le_of_ble_eq_true rfl) ?_
        exact k_ri hx hb hr hlocks hS hP hD rfl dX9_sortsOf_70
      · skip
        have ha9 := lt_of_nle (k := 3 * n) (n := 3 * a) (by omega) (by omega) c12_2
        refine lv_aload_n hx hb dX9_sortsOf_15 rfl (lv_at hl 0 rfl) ?_
        refine va_get (D := g.1) (ci := 9) (v := .ref m30) (C := RX9) (T := TX9) (N := 41) hx hb hts q_X9_sortsOf_g_f9 hown hE.1 hP 0 rfl rfl 30 (by decide) (hts (.fieldLink RX9 67 "SoundLawsModel" "sights" "[I") q_X9_sortsOf_g_2) (fun _ h9 => h9) rfl dX9_sortsOf_16 ?_
        refine lv_iload_n hx hb dX9_sortsOf_19 rfl (lv_at hl 3 rfl) ?_
        refine k_ald (3 * a) rfl (by omega) hx hb hE hP 1 rfl (by decide) dX9_sortsOf_20 ?_
        refine lv_iload_n hx hb dX9_sortsOf_21 rfl (lv_at hl 1 rfl) ?_
        refine lv_icmp_ne (tgt := 63) hx hb dX9_sortsOf_22 (by decide) (fun c22_3 => ?_) (fun c22_3 => ?_)
        · skip
          obtain ⟨x63, ex63⟩ : ∃ y : Int32, y = (nI (3 * a)) + (3) := ⟨_, rfl⟩
          refine lv_iinc (v := x63) (lv' := [(3, .int x63), (0, .ref k0), (1, .int p1), (2, .int x2)]) hx hb dX9_sortsOf_63 hl (k := 3) rfl (by rw [ex63]; rfl) (by decide) rfl (fun ls hl => ?_)
          have e9 : x63 = nI (3 * (a + 1)) := by rw [ex63, show (3 : Int32) = nI 3 from rfl, nI_add]; congr 1
          subst e9
          refine lv_goto (tgt := 5) hx hb dX9_sortsOf_66 (by decide) ?_
          exact ih5 (a + 1) _ (by omega) (by omega) _ _ _ hP hD hS (lv_sub hl [1, 2, 3, 0] rfl)
        · skip
          refine lv_aload_n hx hb dX9_sortsOf_25 rfl (lv_at hl 0 rfl) ?_
          refine va_get (D := g.1) (ci := 9) (v := .ref m30) (C := RX9) (T := TX9) (N := 41) hx hb hts q_X9_sortsOf_g_f9 hown hE.1 hP 0 rfl rfl 30 (by decide) (hts (.fieldLink RX9 67 "SoundLawsModel" "sights" "[I") q_X9_sortsOf_g_2) (fun _ h9 => h9) rfl dX9_sortsOf_26 ?_
          refine lv_iload_n hx hb dX9_sortsOf_29 rfl (lv_at hl 3 rfl) ?_
          refine lv_iconst (v := 1) hx hb dX9_sortsOf_30 (by decide) ?_
          refine lv_iadd hx hb dX9_sortsOf_31 ?_
          refine k_ald (3 * a + 1) (nI_1 _) (by omega) hx hb hE hP 1 rfl (by decide) dX9_sortsOf_32 ?_
          refine k_ci (wr := [(k0, .inr (9, [.ref m0, .int s1, .int s2, .int s3, .int s4, .int s5, .int s6, .ref m7, .ref m8, .ref m9, .int s10, .int s11, .int s12, .ref m13, .ref m14, .ref m15, .int s16, .ref m17, .ref m18, .ref m19, .ref m20, .ref m21, .ref m22, .ref m23, .ref m24, .ref m25, .ref m26, .ref m27, .ref m28, .int (nI n), .ref m30, .int s31, .int s32, .int s33, .int s34, .int s35, .ref m36, .ref m37, .ref m38, .ref m39, .long s40])), (m30, ai g 18 Sg)]) hP hD hS hA [] [0, 1] rfl rfl (by decide) (by decide) (va_runS (As := [.int (Sg (3 * a + 1))]) (rest := []) ⟨hx, hb, hml, hown, hts⟩ (c_X9_sortsBy_g l g (Sg (3 * a + 1))  H.size) (va_cwS 1 hts gX9_sortsOf_X9_sortsBy rfl rfl rfl (by decide +kernel) ⟨Nat.le_of_ble_eq_true rfl, Nat.le_of_ble_eq_true rfl⟩) (k_preS hE hZ hP hD hS hA [] rfl (by decide)) rfl rfl hl.1 rfl (lv_room (Nat.le_of_ble_eq_true rfl)) dX9_sortsOf_33 ⟨Nat.le_of_ble_eq_true rfl, Nat.le_of_ble_eq_true rfl⟩) (fun r_4 w1 H locs hw hP hD hS => ?_)
          obtain rfl := hw
          have hP : va_P g.1 vwCl [(k0, .inr (9, [.ref m0, .int s1, .int s2, .int s3, .int s4, .int s5, .int s6, .ref m7, .ref m8, .ref m9, .int s10, .int s11, .int s12, .ref m13, .ref m14, .ref m15, .int s16, .ref m17, .ref m18, .ref m19, .ref m20, .ref m21, .ref m22, .ref m23, .ref m24, .ref m25, .ref m26, .ref m27, .ref m28, .int (nI n), .ref m30, .int s31, .int s32, .int s33, .int s34, .int s35, .ref m36, .ref m37, .ref m38, .ref m39, .long s40])), (m30, ai g 18 Sg)] H := hP
          have hD : va_D A [(k0, .inr (9, [.ref m0, .int s1, .int s2, .int s3, .int s4, .int s5, .int s6, .ref m7, .ref m8, .ref m9, .int s10, .int s11, .int s12, .ref m13, .ref m14, .ref m15, .int s16, .ref m17, .ref m18, .ref m19, .ref m20, .ref m21, .ref m22, .ref m23, .ref m24, .ref m25, .ref m26, .ref m27, .ref m28, .int (nI n), .ref m30, .int s31, .int s32, .int s33, .int s34, .int s35, .ref m36, .ref m37, .ref m38, .ref m39, .long s40])), (m30, ai g 18 Sg)] := hD
          refine lv_istore (lv' := [(4, .int r_4), (0, .ref k0), (1, .int p1), (2, .int x2), (3, .int (nI (3 * a)))]) hx hb dX9_sortsOf_36 hl (by decide) rfl (fun ls hl => ?_)
          refine lv_iload_n hx hb dX9_sortsOf_38 rfl (lv_at hl 3 rfl) ?_
          refine lv_aload_n hx hb dX9_sortsOf_39 rfl (lv_at hl 1 rfl) ?_
          refine va_get (D := g.1) (ci := 9) (v := .ref m30) (C := RX9) (T := TX9) (N := 41) hx hb hts q_X9_sortsOf_g_f9 hown hE.1 hP 0 rfl rfl 30 (by decide) (hts (.fieldLink RX9 67 "SoundLawsModel" "sights" "[I") q_X9_sortsOf_g_2) (fun _ h9 => h9) rfl dX9_sortsOf_40 ?_
          refine lv_iload_n hx hb dX9_sortsOf_43 rfl (lv_at hl 4 rfl) ?_
          refine lv_iconst (v := 2) hx hb dX9_sortsOf_44 (by decide) ?_
          refine lv_iadd hx hb dX9_sortsOf_45 ?_
          refine k_ald (3 * a + 2) (nI_add _ 2) (by omega) hx hb hE hP 1 rfl (by decide) dX9_sortsOf_46 ?_
          refine lv_iconst (v := 1) hx hb dX9_sortsOf_47 (by decide) ?_
          refine lv_icmp_ne (tgt := 56) hx hb dX9_sortsOf_48 (by decide) (fun c48_5 => ?_) (fun c48_5 => ?_)
          · skip
            refine lv_bipush (v := 31) hx hb dX9_sortsOf_56 (by decide) ?_
            refine lv_iload hx hb dX9_sortsOf_58 (lv_at hl 0 rfl) ?_
            refine lv_isub hx hb dX9_sortsOf_60 ?_
            refine lv_iand hx hb dX9_sortsOf_61 ?_
            refine lv_topi (fun x_6 ex_6 => ?_)
            refine lv_istore_n (lv' := [(2, .int x_6), (4, .int r_4), (0, .ref k0), (1, .int p1), (3, .int (nI (3 * a)))]) hx hb dX9_sortsOf_62 rfl hl (by decide) rfl (fun ls hl => ?_)
            obtain ⟨x63, ex63⟩ : ∃ y : Int32, y = (nI (3 * a)) + (3) := ⟨_, rfl⟩
            refine lv_iinc (v := x63) (lv' := [(3, .int x63), (2, .int x_6), (4, .int r_4), (0, .ref k0), (1, .int p1)]) hx hb dX9_sortsOf_63 hl (k := 4) rfl (by rw [ex63]; rfl) (by decide) rfl (fun ls hl => ?_)
            have e9 : x63 = nI (3 * (a + 1)) := by rw [ex63, show (3 : Int32) = nI 3 from rfl, nI_add]; congr 1
            subst e9
            refine lv_goto (tgt := 5) hx hb dX9_sortsOf_66 (by decide) ?_
            exact ih5 (a + 1) _ (by omega) (by omega) _ _ _ hP hD hS (lv_sub hl [3, 4, 1, 0] rfl)
          · skip
            refine lv_iload hx hb dX9_sortsOf_51 (lv_at hl 0 rfl) ?_
            refine lv_goto (tgt := 61) hx hb dX9_sortsOf_53 (by decide) ?_
            refine lv_iand hx hb dX9_sortsOf_61 ?_
            refine lv_topi (fun x_7 ex_7 => ?_)
            refine lv_istore_n (lv' := [(2, .int x_7), (4, .int r_4), (0, .ref k0), (1, .int p1), (3, .int (nI (3 * a)))]) hx hb dX9_sortsOf_62 rfl hl (by decide) rfl (fun ls hl => ?_)
            obtain ⟨x63, ex63⟩ : ∃ y : Int32, y = (nI (3 * a)) + (3) := ⟨_, rfl⟩
            refine lv_iinc (v := x63) (lv' := [(3, .int x63), (2, .int x_7), (4, .int r_4), (0, .ref k0), (1, .int p1)]) hx hb dX9_sortsOf_63 hl (k := 4) rfl (by rw [ex63]; rfl) (by decide) rfl (fun ls hl => ?_)
            have e9 : x63 = nI (3 * (a + 1)) := by rw [ex63, show (3 : Int32) = nI 3 from rfl, nI_add]; congr 1
            subst e9
            refine lv_goto (tgt := 5) hx hb dX9_sortsOf_66 (by decide) ?_
            exact ih5 (a + 1) _ (by omega) (by omega) _ _ _ hP hD hS (lv_sub hl [3, 4, 1, 0] rfl)
  exact loop5 _ 0 31 (Nat.zero_le n) (Nat.lt_succ_self _) _ _ _ hP hD hS (lv_sub hl [2, 3, 1, 0] rfl)
def po_X9_ones_g (g : GG) (p1 : Int32) : Int32 → va_W → Prop := fun (r : Int32) w => w = []
set_option maxHeartbeats 1500000 in
set_option maxRecDepth 100000 in
theorem c_X9_ones_g (l : Launch) (g : GG) (p1 : Int32)  (sz : Nat) : MetI l yX9_ones wsX9_ones ({ frames := 0, cells := 0, slots := 0, locals := 0 }) g [.int p1] [] sz (po_X9_ones_g g p1) 0 0 := by
  refine k_of (l := l) (y := yX9_ones) (ws := wsX9_ones) (rm := { frames := 0, cells := 0, slots := 0, locals := 0 }) (mc := 0) (ms := 0) (av := [.int p1]) (g := g) (wc := []) (Qc := fun A => va_Qi (po_X9_ones_g g p1) (bk g A) A) (cc := cX9_ones) (maxL := 3) (ret := (some .int)) (by decide) rfl (Nat.le_of_ble_eq_true rfl) ?_ sz
  intro p e s m below meth c hx hb hr hts hown hlocks hnm hml A hA hE hZ hP hD hS ls hl
  have hown : s.vm.findClass RX9 = some m.cls := hown
  have hl : lv_has ls 3 [(0, .int p1)] := hl
  refine lv_iconst (v := 0) hx hb dX9_ones_0 (by decide) ?_
  refine lv_istore_n (lv' := [(1, .int 0), (0, .int p1)]) hx hb dX9_ones_1 rfl hl (by decide) rfl (fun ls hl => ?_)
  refine lv_iconst (v := 0) hx hb dX9_ones_2 (by decide) ?_
  refine lv_istore_n (lv' := [(2, .int 0), (1, .int 0), (0, .int p1)]) hx hb dX9_ones_3 rfl hl (by decide) rfl (fun ls hl => ?_)
  have loop4 : ∀ (fu : Nat) (j : Nat) (x1 : Int32), (hj : j ≤ 5) → 5 - j < fu → ∀ (H : Heap) (locs : List Loc) (ls : Array Slot), va_P g.1 vwCl [] H → va_D A [] → va_S A s.heap H locs → lv_has ls 3 [(0, .int p1), (1, .int x1), (2, .int (nI j))] → W p l e ({ frames := 0, cells := 0, slots := 0, locals := 0 }) s m [.int p1].toArray below meth c H locs 0 0 (MQ below (va_Qi (po_X9_ones_g g p1) (bk g A) A) [.int p1].toArray s 0 0 A) (F0 m 4 ls []) := by
    intro fu
    induction fu with
    | zero => intro j x1 hj hfu; exact absurd hfu (Nat.not_lt_zero _)
    | succ fu ih =>
      intro j x1 hj hfu H locs ls hP hD hS hl
      have ih4 := ih
      refine lv_iload_n hx hb dX9_ones_4 rfl (lv_at hl 2 rfl) ?_
      refine lv_iconst (v := 5) hx hb dX9_ones_5 (by decide) ?_
      refine lv_icmp_ge (tgt := 23) hx hb dX9_ones_6 (by decide) (fun c6_1 => ?_) (fun c6_1 => ?_)
      · skip
        refine lv_iload_n hx hb dX9_ones_23 rfl (lv_at hl 1 rfl) ?_
        refine W.widen (k := 0) (n := 0) (Nat.le_of_ble_eq_true rfl) (Nat.le_of_ble_eq_true rfl) ?_
        exact k_ri hx hb hr hlocks hS hP hD rfl dX9_ones_24
      · skip
        have hj9 := lt_of_nle (k := 5) (n := j) (by decide) (by omega) c6_1
        refine lv_iload_n hx hb dX9_ones_9 rfl (lv_at hl 1 rfl) ?_
        refine lv_iload_n hx hb dX9_ones_10 rfl (lv_at hl 0 rfl) ?_
        refine lv_iload_n hx hb dX9_ones_11 rfl (lv_at hl 2 rfl) ?_
        refine lv_ishr hx hb dX9_ones_12 ?_
        refine lv_iconst (v := 1) hx hb dX9_ones_13 (by decide) ?_
        refine lv_iand hx hb dX9_ones_14 ?_
        refine lv_iadd hx hb dX9_ones_15 ?_
        refine lv_topi (fun x_2 ex_2 => ?_)
        refine lv_istore_n (lv' := [(1, .int x_2), (0, .int p1), (2, .int (nI j))]) hx hb dX9_ones_16 rfl hl (by decide) rfl (fun ls hl => ?_)
        refine lv_iinc (v := (nI (j + 1))) (lv' := [(2, .int (nI (j + 1))), (1, .int x_2), (0, .int p1)]) hx hb dX9_ones_17 hl (k := 2) rfl (nI_1 _) (by decide) rfl (fun ls hl => ?_)
        refine lv_goto (tgt := 4) hx hb dX9_ones_20 (by decide) ?_
        exact ih4 (j + 1) _ (by omega) (by omega) _ _ _ hP hD hS (lv_sub hl [2, 1, 0] rfl)
  exact loop4 _ 0 0 (Nat.zero_le 5) (Nat.lt_succ_self _) _ _ _ hP hD hS (lv_sub hl [2, 1, 0] rfl)
def po_X9_askOf_g (g : GG) (k0 : Nat) (m0 : Nat) (s1 : Int32) (s2 : Int32) (s3 : Int32) (s4 : Int32) (s5 : Int32) (s6 : Int32) (m7 : Nat) (m8 : Nat) (m9 : Nat) (s10 : Int32) (s11 : Int32) (s12 : Int32) (m13 : Nat) (m14 : Nat) (m15 : Nat) (s16 : Int32) (m17 : Nat) (m18 : Nat) (m19 : Nat) (m20 : Nat) (m21 : Nat) (m22 : Nat) (m23 : Nat) (m24 : Nat) (m25 : Nat) (m26 : Nat) (m27 : Nat) (m28 : Nat) (m30 : Nat) (s31 : Int32) (s32 : Int32) (s33 : Int32) (s34 : Int32) (s35 : Int32) (m36 : Nat) (m37 : Nat) (m38 : Nat) (m39 : Nat) (s40 : Int64) (n : Nat) (Sg : Nat → Int32) (p1 : Int32) : Int32 → va_W → Prop := fun (r : Int32) w => w = [(k0, .inr (9, [.ref m0, .int s1, .int s2, .int s3, .int s4, .int s5, .int s6, .ref m7, .ref m8, .ref m9, .int s10, .int s11, .int s12, .ref m13, .ref m14, .ref m15, .int s16, .ref m17, .ref m18, .ref m19, .ref m20, .ref m21, .ref m22, .ref m23, .ref m24, .ref m25, .ref m26, .ref m27, .ref m28, .int (nI n), .ref m30, .int s31, .int s32, .int s33, .int s34, .int s35, .ref m36, .ref m37, .ref m38, .ref m39, .long s40])), (m30, ai g 18 Sg)]
set_option maxHeartbeats 1500000 in
set_option maxRecDepth 100000 in
theorem c_X9_askOf_g (l : Launch) (g : GG) (k0 : Nat) (m0 : Nat) (s1 : Int32) (s2 : Int32) (s3 : Int32) (s4 : Int32) (s5 : Int32) (s6 : Int32) (m7 : Nat) (m8 : Nat) (m9 : Nat) (s10 : Int32) (s11 : Int32) (s12 : Int32) (m13 : Nat) (m14 : Nat) (m15 : Nat) (s16 : Int32) (m17 : Nat) (m18 : Nat) (m19 : Nat) (m20 : Nat) (m21 : Nat) (m22 : Nat) (m23 : Nat) (m24 : Nat) (m25 : Nat) (m26 : Nat) (m27 : Nat) (m28 : Nat) (m30 : Nat) (s31 : Int32) (s32 : Int32) (s33 : Int32) (s34 : Int32) (s35 : Int32) (m36 : Nat) (m37 : Nat) (m38 : Nat) (m39 : Nat) (s40 : Int64) (n : Nat) (Sg : Nat → Int32) (p1 : Int32) (hn : n ≤ 6) (sz : Nat) : MetI l yX9_askOf wsX9_askOf ({ frames := 2, cells := 0, slots := 0, locals := 44 }) g [.ref k0, .int p1] [(k0, .inr (9, [.ref m0, .int s1, .int s2, .int s3, .int s4, .int s5, .int s6, .ref m7, .ref m8, .ref m9, .int s10, .int s11, .int s12, .ref m13, .ref m14, .ref m15, .int s16, .ref m17, .ref m18, .ref m19, .ref m20, .ref m21, .ref m22, .ref m23, .ref m24, .ref m25, .ref m26, .ref m27, .ref m28, .int (nI n), .ref m30, .int s31, .int s32, .int s33, .int s34, .int s35, .ref m36, .ref m37, .ref m38, .ref m39, .long s40])), (m30, ai g 18 Sg)] sz (po_X9_askOf_g g k0 m0 s1 s2 s3 s4 s5 s6 m7 m8 m9 s10 s11 s12 m13 m14 m15 s16 m17 m18 m19 m20 m21 m22 m23 m24 m25 m26 m27 m28 m30 s31 s32 s33 s34 s35 m36 m37 m38 m39 s40 n Sg p1) 0 0 := by
  refine k_of (l := l) (y := yX9_askOf) (ws := wsX9_askOf) (rm := { frames := 2, cells := 0, slots := 0, locals := 44 }) (mc := 0) (ms := 0) (av := [.ref k0, .int p1]) (g := g) (wc := [(k0, .inr (9, [.ref m0, .int s1, .int s2, .int s3, .int s4, .int s5, .int s6, .ref m7, .ref m8, .ref m9, .int s10, .int s11, .int s12, .ref m13, .ref m14, .ref m15, .int s16, .ref m17, .ref m18, .ref m19, .ref m20, .ref m21, .ref m22, .ref m23, .ref m24, .ref m25, .ref m26, .ref m27, .ref m28, .int (nI n), .ref m30, .int s31, .int s32, .int s33, .int s34, .int s35, .ref m36, .ref m37, .ref m38, .ref m39, .long s40])), (m30, ai g 18 Sg)]) (Qc := fun A => va_Qi (po_X9_askOf_g g k0 m0 s1 s2 s3 s4 s5 s6 m7 m8 m9 s10 s11 s12 m13 m14 m15 s16 m17 m18 m19 m20 m21 m22 m23 m24 m25 m26 m27 m28 m30 s31 s32 s33 s34 s35 m36 m37 m38 m39 s40 n Sg p1) (bk g A) A) (cc := cX9_askOf) (maxL := 9) (ret := (some .int)) (by decide) rfl (Nat.le_of_ble_eq_true rfl) ?_ sz
  intro p e s m below meth c hx hb hr hts hown hlocks hnm hml A hA hE hZ hP hD hS ls hl
  have hown : s.vm.findClass RX9 = some m.cls := hown
  have hl : lv_has ls 9 [(0, .ref k0), (1, .int p1)] := hl
  refine lv_aload_n hx hb dX9_askOf_0 rfl (lv_at hl 0 rfl) ?_
  refine lv_iload_n hx hb dX9_askOf_1 rfl (lv_at hl 1 rfl) ?_
  refine k_ci (wr := []) hP hD hS hA [0, 1] [] rfl rfl (by decide) (by decide) (va_runV (As := [.int p1]) (rest := []) ⟨hx, hb, hml, hown, hts⟩ (c_X9_sortsOf_g l g k0 m0 s1 s2 s3 s4 s5 s6 m7 m8 m9 s10 s11 s12 m13 m14 m15 s16 m17 m18 m19 m20 m21 m22 m23 m24 m25 m26 m27 m28 m30 s31 s32 s33 s34 s35 m36 m37 m38 m39 s40 n Sg p1 (by first | assumption | omega) s.heap.size) (cwV 1 hts gX9_askOf_X9_sortsOf rfl rfl rfl (by decide +kernel) ⟨Nat.le_of_ble_eq_true rfl, Nat.le_of_ble_eq_true rfl⟩) (k_preV hE hZ hP hD hS hA [0, 1] rfl (by decide) (va_recv hE.1 hP (ci := 9) (q0 := 0) rfl rfl)) rfl rfl hl.1 rfl (lv_room (Nat.le_of_ble_eq_true rfl)) dX9_askOf_2 ⟨Nat.le_of_ble_eq_true rfl, Nat.le_of_ble_eq_true rfl⟩) (fun r_1 w1 H locs hw hP hD hS => ?_)
  obtain rfl := hw
  have hP : va_P g.1 vwCl [(k0, .inr (9, [.ref m0, .int s1, .int s2, .int s3, .int s4, .int s5, .int s6, .ref m7, .ref m8, .ref m9, .int s10, .int s11, .int s12, .ref m13, .ref m14, .ref m15, .int s16, .ref m17, .ref m18, .ref m19, .ref m20, .ref m21, .ref m22, .ref m23, .ref m24, .ref m25, .ref m26, .ref m27, .ref m28, .int (nI n), .ref m30, .int s31, .int s32, .int s33, .int s34, .int s35, .ref m36, .ref m37, .ref m38, .ref m39, .long s40])), (m30, ai g 18 Sg)] H := hP
  have hD : va_D A [(k0, .inr (9, [.ref m0, .int s1, .int s2, .int s3, .int s4, .int s5, .int s6, .ref m7, .ref m8, .ref m9, .int s10, .int s11, .int s12, .ref m13, .ref m14, .ref m15, .int s16, .ref m17, .ref m18, .ref m19, .ref m20, .ref m21, .ref m22, .ref m23, .ref m24, .ref m25, .ref m26, .ref m27, .ref m28, .int (nI n), .ref m30, .int s31, .int s32, .int s33, .int s34, .int s35, .ref m36, .ref m37, .ref m38, .ref m39, .long s40])), (m30, ai g 18 Sg)] := hD
  refine lv_istore_n (lv' := [(2, .int r_1), (0, .ref k0), (1, .int p1)]) hx hb dX9_askOf_5 rfl hl (by decide) rfl (fun ls hl => ?_)
  refine lv_iconst (v := (-1)) hx hb dX9_askOf_6 (by decide) ?_
  refine lv_istore_n (lv' := [(3, .int (-1)), (2, .int r_1), (0, .ref k0), (1, .int p1)]) hx hb dX9_askOf_7 rfl hl (by decide) rfl (fun ls hl => ?_)
  refine lv_bipush (v := 6) hx hb dX9_askOf_8 (by decide) ?_
  refine lv_istore (lv' := [(4, .int 6), (3, .int (-1)), (2, .int r_1), (0, .ref k0), (1, .int p1)]) hx hb dX9_askOf_10 hl (by decide) rfl (fun ls hl => ?_)
  refine lv_iconst (v := 0) hx hb dX9_askOf_12 (by decide) ?_
  refine lv_istore (lv' := [(5, .int 0), (4, .int 6), (3, .int (-1)), (2, .int r_1), (0, .ref k0), (1, .int p1)]) hx hb dX9_askOf_13 hl (by decide) rfl (fun ls hl => ?_)
  have loop15 : ∀ (fu : Nat) (j : Nat) (x3 x4 : Int32), (hj : j ≤ 4) → 4 - j < fu → ∀ (H : Heap) (locs : List Loc) (ls : Array Slot), va_P g.1 vwCl [(k0, .inr (9, [.ref m0, .int s1, .int s2, .int s3, .int s4, .int s5, .int s6, .ref m7, .ref m8, .ref m9, .int s10, .int s11, .int s12, .ref m13, .ref m14, .ref m15, .int s16, .ref m17, .ref m18, .ref m19, .ref m20, .ref m21, .ref m22, .ref m23, .ref m24, .ref m25, .ref m26, .ref m27, .ref m28, .int (nI n), .ref m30, .int s31, .int s32, .int s33, .int s34, .int s35, .ref m36, .ref m37, .ref m38, .ref m39, .long s40])), (m30, ai g 18 Sg)] H → va_D A [(k0, .inr (9, [.ref m0, .int s1, .int s2, .int s3, .int s4, .int s5, .int s6, .ref m7, .ref m8, .ref m9, .int s10, .int s11, .int s12, .ref m13, .ref m14, .ref m15, .int s16, .ref m17, .ref m18, .ref m19, .ref m20, .ref m21, .ref m22, .ref m23, .ref m24, .ref m25, .ref m26, .ref m27, .ref m28, .int (nI n), .ref m30, .int s31, .int s32, .int s33, .int s34, .int s35, .ref m36, .ref m37, .ref m38, .ref m39, .long s40])), (m30, ai g 18 Sg)] → va_S A s.heap H locs → lv_has ls 9 [(0, .ref k0), (1, .int p1), (2, .int r_1), (3, .int x3), (4, .int x4), (5, .int (nI j))] → W p l e ({ frames := 2, cells := 0, slots := 0, locals := 44 }) s m [.ref k0, .int p1].toArray below meth c H locs 0 0 (MQ below (va_Qi (po_X9_askOf_g g k0 m0 s1 s2 s3 s4 s5 s6 m7 m8 m9 s10 s11 s12 m13 m14 m15 s16 m17 m18 m19 m20 m21 m22 m23 m24 m25 m26 m27 m28 m30 s31 s32 s33 s34 s35 m36 m37 m38 m39 s40 n Sg p1) (bk g A) A) [.ref k0, .int p1].toArray s 0 0 A) (F0 m 15 ls []) := by
    intro fu
    induction fu with
    | zero => intro j x3 x4 hj hfu; exact absurd hfu (Nat.not_lt_zero _)
    | succ fu ih =>
      intro j x3 x4 hj hfu H locs ls hP hD hS hl
      have ih15 := ih
      refine lv_iload hx hb dX9_askOf_15 (lv_at hl 5 rfl) ?_
      refine lv_iconst (v := 4) hx hb dX9_askOf_17 (by decide) ?_
      refine lv_icmp_ge (tgt := 98) hx hb dX9_askOf_18 (by decide) (fun c18_2 => ?_) (fun c18_2 => ?_)
      · skip
        refine lv_iload_n hx hb dX9_askOf_98 rfl (lv_at hl 3 rfl) ?_
        refine W.widen (k := 0) (n := 0) (Nat.le_of_ble_eq_true rfl) (Nat.le_of_ble_eq_true rfl) ?_
        exact k_ri hx hb hr hlocks hS hP hD rfl dX9_askOf_99
      · skip
        have hj9 := lt_of_nle (k := 4) (n := j) (by decide) (by omega) c18_2
        refine lv_iload_n hx hb dX9_askOf_21 rfl (lv_at hl 2 rfl) ?_
        refine lv_if_eq (tgt := 98) hx hb dX9_askOf_22 (by decide) (fun c22_3 => ?_) (fun c22_3 => ?_)
        · skip
          refine lv_iload_n hx hb dX9_askOf_98 rfl (lv_at hl 3 rfl) ?_
          refine W.widen (k := 0) (n := 0) (Nat.le_of_ble_eq_true rfl) (Nat.le_of_ble_eq_true rfl) ?_
          exact k_ri hx hb hr hlocks hS hP hD rfl dX9_askOf_99
        · skip
          refine lv_iload_n hx hb dX9_askOf_25 rfl (lv_at hl 2 rfl) ?_
          refine lv_iload hx hb dX9_askOf_26 (lv_at hl 5 rfl) ?_
          refine k_ci (wr := [(k0, .inr (9, [.ref m0, .int s1, .int s2, .int s3, .int s4, .int s5, .int s6, .ref m7, .ref m8, .ref m9, .int s10, .int s11, .int s12, .ref m13, .ref m14, .ref m15, .int s16, .ref m17, .ref m18, .ref m19, .ref m20, .ref m21, .ref m22, .ref m23, .ref m24, .ref m25, .ref m26, .ref m27, .ref m28, .int (nI n), .ref m30, .int s31, .int s32, .int s33, .int s34, .int s35, .ref m36, .ref m37, .ref m38, .ref m39, .long s40])), (m30, ai g 18 Sg)]) hP hD hS hA [] [0, 1] rfl rfl (by decide) (by decide) (va_runS (As := [.int (nI j)]) (rest := [.int r_1]) ⟨hx, hb, hml, hown, hts⟩ (c_X9_sortsBy_g l g (nI j)  H.size) (va_cwS 1 hts gX9_askOf_X9_sortsBy rfl rfl rfl (by decide +kernel) ⟨Nat.le_of_ble_eq_true rfl, Nat.le_of_ble_eq_true rfl⟩) (k_preS hE hZ hP hD hS hA [] rfl (by decide)) rfl rfl hl.1 rfl (lv_room (Nat.le_of_ble_eq_true rfl)) dX9_askOf_28 ⟨Nat.le_of_ble_eq_true rfl, Nat.le_of_ble_eq_true rfl⟩) (fun r_4 w1 H locs hw hP hD hS => ?_)
          obtain rfl := hw
          have hP : va_P g.1 vwCl [(k0, .inr (9, [.ref m0, .int s1, .int s2, .int s3, .int s4, .int s5, .int s6, .ref m7, .ref m8, .ref m9, .int s10, .int s11, .int s12, .ref m13, .ref m14, .ref m15, .int s16, .ref m17, .ref m18, .ref m19, .ref m20, .ref m21, .ref m22, .ref m23, .ref m24, .ref m25, .ref m26, .ref m27, .ref m28, .int (nI n), .ref m30, .int s31, .int s32, .int s33, .int s34, .int s35, .ref m36, .ref m37, .ref m38, .ref m39, .long s40])), (m30, ai g 18 Sg)] H := hP
          have hD : va_D A [(k0, .inr (9, [.ref m0, .int s1, .int s2, .int s3, .int s4, .int s5, .int s6, .ref m7, .ref m8, .ref m9, .int s10, .int s11, .int s12, .ref m13, .ref m14, .ref m15, .int s16, .ref m17, .ref m18, .ref m19, .ref m20, .ref m21, .ref m22, .ref m23, .ref m24, .ref m25, .ref m26, .ref m27, .ref m28, .int (nI n), .ref m30, .int s31, .int s32, .int s33, .int s34, .int s35, .ref m36, .ref m37, .ref m38, .ref m39, .long s40])), (m30, ai g 18 Sg)] := hD
          refine lv_iand hx hb dX9_askOf_31 ?_
          refine k_ci (wr := [(k0, .inr (9, [.ref m0, .int s1, .int s2, .int s3, .int s4, .int s5, .int s6, .ref m7, .ref m8, .ref m9, .int s10, .int s11, .int s12, .ref m13, .ref m14, .ref m15, .int s16, .ref m17, .ref m18, .ref m19, .ref m20, .ref m21, .ref m22, .ref m23, .ref m24, .ref m25, .ref m26, .ref m27, .ref m28, .int (nI n), .ref m30, .int s31, .int s32, .int s33, .int s34, .int s35, .ref m36, .ref m37, .ref m38, .ref m39, .long s40])), (m30, ai g 18 Sg)]) hP hD hS hA [] [0, 1] rfl rfl (by decide) (by decide) (va_runS (As := [.int (r_1 &&& r_4)]) (rest := []) ⟨hx, hb, hml, hown, hts⟩ (c_X9_ones_g l g (r_1 &&& r_4)  H.size) (va_cwS 1 hts gX9_askOf_X9_ones rfl rfl rfl (by decide +kernel) ⟨Nat.le_of_ble_eq_true rfl, Nat.le_of_ble_eq_true rfl⟩) (k_preS hE hZ hP hD hS hA [] rfl (by decide)) rfl rfl hl.1 rfl (lv_room (Nat.le_of_ble_eq_true rfl)) dX9_askOf_32 ⟨Nat.le_of_ble_eq_true rfl, Nat.le_of_ble_eq_true rfl⟩) (fun r_5 w1 H locs hw hP hD hS => ?_)
          obtain rfl := hw
          have hP : va_P g.1 vwCl [(k0, .inr (9, [.ref m0, .int s1, .int s2, .int s3, .int s4, .int s5, .int s6, .ref m7, .ref m8, .ref m9, .int s10, .int s11, .int s12, .ref m13, .ref m14, .ref m15, .int s16, .ref m17, .ref m18, .ref m19, .ref m20, .ref m21, .ref m22, .ref m23, .ref m24, .ref m25, .ref m26, .ref m27, .ref m28, .int (nI n), .ref m30, .int s31, .int s32, .int s33, .int s34, .int s35, .ref m36, .ref m37, .ref m38, .ref m39, .long s40])), (m30, ai g 18 Sg)] H := hP
          have hD : va_D A [(k0, .inr (9, [.ref m0, .int s1, .int s2, .int s3, .int s4, .int s5, .int s6, .ref m7, .ref m8, .ref m9, .int s10, .int s11, .int s12, .ref m13, .ref m14, .ref m15, .int s16, .ref m17, .ref m18, .ref m19, .ref m20, .ref m21, .ref m22, .ref m23, .ref m24, .ref m25, .ref m26, .ref m27, .ref m28, .int (nI n), .ref m30, .int s31, .int s32, .int s33, .int s34, .int s35, .ref m36, .ref m37, .ref m38, .ref m39, .long s40])), (m30, ai g 18 Sg)] := hD
          refine lv_istore (lv' := [(6, .int r_5), (0, .ref k0), (1, .int p1), (2, .int r_1), (3, .int x3), (4, .int x4), (5, .int (nI j))]) hx hb dX9_askOf_35 hl (by decide) rfl (fun ls hl => ?_)
          refine lv_iload_n hx hb dX9_askOf_37 rfl (lv_at hl 3 rfl) ?_
          refine k_ci (wr := [(k0, .inr (9, [.ref m0, .int s1, .int s2, .int s3, .int s4, .int s5, .int s6, .ref m7, .ref m8, .ref m9, .int s10, .int s11, .int s12, .ref m13, .ref m14, .ref m15, .int s16, .ref m17, .ref m18, .ref m19, .ref m20, .ref m21, .ref m22, .ref m23, .ref m24, .ref m25, .ref m26, .ref m27, .ref m28, .int (nI n), .ref m30, .int s31, .int s32, .int s33, .int s34, .int s35, .ref m36, .ref m37, .ref m38, .ref m39, .long s40])), (m30, ai g 18 Sg)]) hP hD hS hA [] [0, 1] rfl rfl (by decide) (by decide) (va_runS (As := [.int r_1]) (rest := []) ⟨hx, hb, hml, hown, hts⟩ (c_X9_ones_g l g r_1  H.size) (va_cwS 1 hts gX9_askOf_X9_ones rfl rfl rfl (by decide +kernel) ⟨Nat.le_of_ble_eq_true rfl, Nat.le_of_ble_eq_true rfl⟩) (k_preS hE hZ hP hD hS hA [] rfl (by decide)) rfl rfl hl.1 rfl (lv_room (Nat.le_of_ble_eq_true rfl)) dX9_askOf_38 ⟨Nat.le_of_ble_eq_true rfl, Nat.le_of_ble_eq_true rfl⟩) (fun r_6 w1 H locs hw hP hD hS => ?_)
          obtain rfl := hw
          have hP : va_P g.1 vwCl [(k0, .inr (9, [.ref m0, .int s1, .int s2, .int s3, .int s4, .int s5, .int s6, .ref m7, .ref m8, .ref m9, .int s10, .int s11, .int s12, .ref m13, .ref m14, .ref m15, .int s16, .ref m17, .ref m18, .ref m19, .ref m20, .ref m21, .ref m22, .ref m23, .ref m24, .ref m25, .ref m26, .ref m27, .ref m28, .int (nI n), .ref m30, .int s31, .int s32, .int s33, .int s34, .int s35, .ref m36, .ref m37, .ref m38, .ref m39, .long s40])), (m30, ai g 18 Sg)] H := hP
          have hD : va_D A [(k0, .inr (9, [.ref m0, .int s1, .int s2, .int s3, .int s4, .int s5, .int s6, .ref m7, .ref m8, .ref m9, .int s10, .int s11, .int s12, .ref m13, .ref m14, .ref m15, .int s16, .ref m17, .ref m18, .ref m19, .ref m20, .ref m21, .ref m22, .ref m23, .ref m24, .ref m25, .ref m26, .ref m27, .ref m28, .int (nI n), .ref m30, .int s31, .int s32, .int s33, .int s34, .int s35, .ref m36, .ref m37, .ref m38, .ref m39, .long s40])), (m30, ai g 18 Sg)] := hD
          refine lv_iload hx hb dX9_askOf_41 (lv_at hl 0 rfl) ?_
          refine lv_isub hx hb dX9_askOf_43 ?_
          refine lv_topi (fun x_7 ex_7 => ?_)
          refine lv_istore (lv' := [(7, .int x_7), (6, .int r_5), (0, .ref k0), (1, .int p1), (2, .int r_1), (3, .int x3), (4, .int x4), (5, .int (nI j))]) hx hb dX9_askOf_44 hl (by decide) rfl (fun ls hl => ?_)
          refine lv_iload hx hb dX9_askOf_46 (lv_at hl 1 rfl) ?_
          refine lv_iload hx hb dX9_askOf_48 (lv_at hl 0 rfl) ?_
          refine lv_icmp_le (tgt := 58) hx hb dX9_askOf_50 (by decide) (fun c50_8 => ?_) (fun c50_8 => ?_)
          · skip
            refine lv_iload hx hb dX9_askOf_58 (lv_at hl 0 rfl) ?_
            refine lv_istore (lv' := [(8, .int x_7), (7, .int x_7), (6, .int r_5), (0, .ref k0), (1, .int p1), (2, .int r_1), (3, .int x3), (4, .int x4), (5, .int (nI j))]) hx hb dX9_askOf_60 hl (by decide) rfl (fun ls hl => ?_)
            refine lv_iload hx hb dX9_askOf_62 (lv_at hl 0 rfl) ?_
            refine lv_iload hx hb dX9_askOf_64 (lv_at hl 7 rfl) ?_
            refine lv_icmp_ge (tgt := 74) hx hb dX9_askOf_66 (by decide) (fun c66_9 => ?_) (fun c66_9 => ?_)
            · skip
              refine lv_iload_n hx hb dX9_askOf_74 rfl (lv_at hl 6 rfl) ?_
              refine lv_istore_n (lv' := [(3, .int x3), (8, .int x_7), (7, .int x_7), (6, .int r_5), (0, .ref k0), (1, .int p1), (2, .int r_1), (4, .int x4), (5, .int (nI j))]) hx hb dX9_askOf_75 rfl hl (by decide) rfl (fun ls hl => ?_)
              refine lv_iload hx hb dX9_askOf_76 (lv_at hl 1 rfl) ?_
              refine lv_iload hx hb dX9_askOf_78 (lv_at hl 7 rfl) ?_
              refine lv_icmp_ge (tgt := 88) hx hb dX9_askOf_80 (by decide) (fun c80_10 => ?_) (fun c80_10 => ?_)
              · skip
                refine lv_iload hx hb dX9_askOf_88 (lv_at hl 7 rfl) ?_
                refine lv_istore (lv' := [(4, .int x4), (3, .int x3), (8, .int x_7), (7, .int x_7), (6, .int r_5), (0, .ref k0), (1, .int p1), (2, .int r_1), (5, .int (nI j))]) hx hb dX9_askOf_90 hl (by decide) rfl (fun ls hl => ?_)
                refine lv_iinc (v := (nI (j + 1))) (lv' := [(5, .int (nI (j + 1))), (4, .int x4), (3, .int x3), (8, .int x_7), (7, .int x_7), (6, .int r_5), (0, .ref k0), (1, .int p1), (2, .int r_1)]) hx hb dX9_askOf_92 hl (k := 8) rfl (nI_1 _) (by decide) rfl (fun ls hl => ?_)
                refine lv_goto (tgt := 15) hx hb dX9_askOf_95 (by decide) ?_
                exact ih15 (j + 1) _ _ (by omega) (by omega) _ _ _ hP hD hS (lv_sub hl [6, 7, 8, 2, 1, 0] rfl)
              · skip
                refine lv_iload hx hb dX9_askOf_83 (lv_at hl 1 rfl) ?_
                refine lv_goto (tgt := 90) hx hb dX9_askOf_85 (by decide) ?_
                refine lv_istore (lv' := [(4, .int x_7), (3, .int x3), (8, .int x_7), (7, .int x_7), (6, .int r_5), (0, .ref k0), (1, .int p1), (2, .int r_1), (5, .int (nI j))]) hx hb dX9_askOf_90 hl (by decide) rfl (fun ls hl => ?_)
                refine lv_iinc (v := (nI (j + 1))) (lv' := [(5, .int (nI (j + 1))), (4, .int x_7), (3, .int x3), (8, .int x_7), (7, .int x_7), (6, .int r_5), (0, .ref k0), (1, .int p1), (2, .int r_1)]) hx hb dX9_askOf_92 hl (k := 8) rfl (nI_1 _) (by decide) rfl (fun ls hl => ?_)
                refine lv_goto (tgt := 15) hx hb dX9_askOf_95 (by decide) ?_
                exact ih15 (j + 1) _ _ (by omega) (by omega) _ _ _ hP hD hS (lv_sub hl [6, 7, 8, 2, 1, 0] rfl)
            · skip
              refine lv_iload hx hb dX9_askOf_69 (lv_at hl 8 rfl) ?_
              refine lv_goto (tgt := 75) hx hb dX9_askOf_71 (by decide) ?_
              refine lv_istore_n (lv' := [(3, .int (nI j)), (8, .int x_7), (7, .int x_7), (6, .int r_5), (0, .ref k0), (1, .int p1), (2, .int r_1), (4, .int x4), (5, .int (nI j))]) hx hb dX9_askOf_75 rfl hl (by decide) rfl (fun ls hl => ?_)
              refine lv_iload hx hb dX9_askOf_76 (lv_at hl 1 rfl) ?_
              refine lv_iload hx hb dX9_askOf_78 (lv_at hl 7 rfl) ?_
              refine lv_icmp_ge (tgt := 88) hx hb dX9_askOf_80 (by decide) (fun c80_11 => ?_) (fun c80_11 => ?_)
              · skip
                refine lv_iload hx hb dX9_askOf_88 (lv_at hl 7 rfl) ?_
                refine lv_istore (lv' := [(4, .int x4), (3, .int (nI j)), (8, .int x_7), (7, .int x_7), (6, .int r_5), (0, .ref k0), (1, .int p1), (2, .int r_1), (5, .int (nI j))]) hx hb dX9_askOf_90 hl (by decide) rfl (fun ls hl => ?_)
                refine lv_iinc (v := (nI (j + 1))) (lv' := [(5, .int (nI (j + 1))), (4, .int x4), (3, .int (nI j)), (8, .int x_7), (7, .int x_7), (6, .int r_5), (0, .ref k0), (1, .int p1), (2, .int r_1)]) hx hb dX9_askOf_92 hl (k := 8) rfl (nI_1 _) (by decide) rfl (fun ls hl => ?_)
                refine lv_goto (tgt := 15) hx hb dX9_askOf_95 (by decide) ?_
                exact ih15 (j + 1) _ _ (by omega) (by omega) _ _ _ hP hD hS (lv_sub hl [6, 7, 8, 2, 1, 0] rfl)
              · skip
                refine lv_iload hx hb dX9_askOf_83 (lv_at hl 1 rfl) ?_
                refine lv_goto (tgt := 90) hx hb dX9_askOf_85 (by decide) ?_
                refine lv_istore (lv' := [(4, .int x_7), (3, .int (nI j)), (8, .int x_7), (7, .int x_7), (6, .int r_5), (0, .ref k0), (1, .int p1), (2, .int r_1), (5, .int (nI j))]) hx hb dX9_askOf_90 hl (by decide) rfl (fun ls hl => ?_)
                refine lv_iinc (v := (nI (j + 1))) (lv' := [(5, .int (nI (j + 1))), (4, .int x_7), (3, .int (nI j)), (8, .int x_7), (7, .int x_7), (6, .int r_5), (0, .ref k0), (1, .int p1), (2, .int r_1)]) hx hb dX9_askOf_92 hl (k := 8) rfl (nI_1 _) (by decide) rfl (fun ls hl => ?_)
                refine lv_goto (tgt := 15) hx hb dX9_askOf_95 (by decide) ?_
                exact ih15 (j + 1) _ _ (by omega) (by omega) _ _ _ hP hD hS (lv_sub hl [6, 7, 8, 2, 1, 0] rfl)
          · skip
            refine lv_iload hx hb dX9_askOf_53 (lv_at hl 1 rfl) ?_
            refine lv_goto (tgt := 60) hx hb dX9_askOf_55 (by decide) ?_
            refine lv_istore (lv' := [(8, .int r_5), (7, .int x_7), (6, .int r_5), (0, .ref k0), (1, .int p1), (2, .int r_1), (3, .int x3), (4, .int x4), (5, .int (nI j))]) hx hb dX9_askOf_60 hl (by decide) rfl (fun ls hl => ?_)
            refine lv_iload hx hb dX9_askOf_62 (lv_at hl 0 rfl) ?_
            refine lv_iload hx hb dX9_askOf_64 (lv_at hl 7 rfl) ?_
            refine lv_icmp_ge (tgt := 74) hx hb dX9_askOf_66 (by decide) (fun c66_12 => ?_) (fun c66_12 => ?_)
            · skip
              refine lv_iload_n hx hb dX9_askOf_74 rfl (lv_at hl 6 rfl) ?_
              refine lv_istore_n (lv' := [(3, .int x3), (8, .int r_5), (7, .int x_7), (6, .int r_5), (0, .ref k0), (1, .int p1), (2, .int r_1), (4, .int x4), (5, .int (nI j))]) hx hb dX9_askOf_75 rfl hl (by decide) rfl (fun ls hl => ?_)
              refine lv_iload hx hb dX9_askOf_76 (lv_at hl 1 rfl) ?_
              refine lv_iload hx hb dX9_askOf_78 (lv_at hl 7 rfl) ?_
              refine lv_icmp_ge (tgt := 88) hx hb dX9_askOf_80 (by decide) (fun c80_13 => ?_) (fun c80_13 => ?_)
              · skip
                refine lv_iload hx hb dX9_askOf_88 (lv_at hl 7 rfl) ?_
                refine lv_istore (lv' := [(4, .int x4), (3, .int x3), (8, .int r_5), (7, .int x_7), (6, .int r_5), (0, .ref k0), (1, .int p1), (2, .int r_1), (5, .int (nI j))]) hx hb dX9_askOf_90 hl (by decide) rfl (fun ls hl => ?_)
                refine lv_iinc (v := (nI (j + 1))) (lv' := [(5, .int (nI (j + 1))), (4, .int x4), (3, .int x3), (8, .int r_5), (7, .int x_7), (6, .int r_5), (0, .ref k0), (1, .int p1), (2, .int r_1)]) hx hb dX9_askOf_92 hl (k := 8) rfl (nI_1 _) (by decide) rfl (fun ls hl => ?_)
                refine lv_goto (tgt := 15) hx hb dX9_askOf_95 (by decide) ?_
                exact ih15 (j + 1) _ _ (by omega) (by omega) _ _ _ hP hD hS (lv_sub hl [6, 7, 8, 2, 1, 0] rfl)
              · skip
                refine lv_iload hx hb dX9_askOf_83 (lv_at hl 1 rfl) ?_
                refine lv_goto (tgt := 90) hx hb dX9_askOf_85 (by decide) ?_
                refine lv_istore (lv' := [(4, .int r_5), (3, .int x3), (8, .int r_5), (7, .int x_7), (6, .int r_5), (0, .ref k0), (1, .int p1), (2, .int r_1), (5, .int (nI j))]) hx hb dX9_askOf_90 hl (by decide) rfl (fun ls hl => ?_)
                refine lv_iinc (v := (nI (j + 1))) (lv' := [(5, .int (nI (j + 1))), (4, .int r_5), (3, .int x3), (8, .int r_5), (7, .int x_7), (6, .int r_5), (0, .ref k0), (1, .int p1), (2, .int r_1)]) hx hb dX9_askOf_92 hl (k := 8) rfl (nI_1 _) (by decide) rfl (fun ls hl => ?_)
                refine lv_goto (tgt := 15) hx hb dX9_askOf_95 (by decide) ?_
                exact ih15 (j + 1) _ _ (by omega) (by omega) _ _ _ hP hD hS (lv_sub hl [6, 7, 8, 2, 1, 0] rfl)
            · skip
              refine lv_iload hx hb dX9_askOf_69 (lv_at hl 8 rfl) ?_
              refine lv_goto (tgt := 75) hx hb dX9_askOf_71 (by decide) ?_
              refine lv_istore_n (lv' := [(3, .int (nI j)), (8, .int r_5), (7, .int x_7), (6, .int r_5), (0, .ref k0), (1, .int p1), (2, .int r_1), (4, .int x4), (5, .int (nI j))]) hx hb dX9_askOf_75 rfl hl (by decide) rfl (fun ls hl => ?_)
              refine lv_iload hx hb dX9_askOf_76 (lv_at hl 1 rfl) ?_
              refine lv_iload hx hb dX9_askOf_78 (lv_at hl 7 rfl) ?_
              refine lv_icmp_ge (tgt := 88) hx hb dX9_askOf_80 (by decide) (fun c80_14 => ?_) (fun c80_14 => ?_)
              · skip
                refine lv_iload hx hb dX9_askOf_88 (lv_at hl 7 rfl) ?_
                refine lv_istore (lv' := [(4, .int x4), (3, .int (nI j)), (8, .int r_5), (7, .int x_7), (6, .int r_5), (0, .ref k0), (1, .int p1), (2, .int r_1), (5, .int (nI j))]) hx hb dX9_askOf_90 hl (by decide) rfl (fun ls hl => ?_)
                refine lv_iinc (v := (nI (j + 1))) (lv' := [(5, .int (nI (j + 1))), (4, .int x4), (3, .int (nI j)), (8, .int r_5), (7, .int x_7), (6, .int r_5), (0, .ref k0), (1, .int p1), (2, .int r_1)]) hx hb dX9_askOf_92 hl (k := 8) rfl (nI_1 _) (by decide) rfl (fun ls hl => ?_)
                refine lv_goto (tgt := 15) hx hb dX9_askOf_95 (by decide) ?_
                exact ih15 (j + 1) _ _ (by omega) (by omega) _ _ _ hP hD hS (lv_sub hl [6, 7, 8, 2, 1, 0] rfl)
              · skip
                refine lv_iload hx hb dX9_askOf_83 (lv_at hl 1 rfl) ?_
                refine lv_goto (tgt := 90) hx hb dX9_askOf_85 (by decide) ?_
                refine lv_istore (lv' := [(4, .int r_5), (3, .int (nI j)), (8, .int r_5), (7, .int x_7), (6, .int r_5), (0, .ref k0), (1, .int p1), (2, .int r_1), (5, .int (nI j))]) hx hb dX9_askOf_90 hl (by decide) rfl (fun ls hl => ?_)
                refine lv_iinc (v := (nI (j + 1))) (lv' := [(5, .int (nI (j + 1))), (4, .int r_5), (3, .int (nI j)), (8, .int r_5), (7, .int x_7), (6, .int r_5), (0, .ref k0), (1, .int p1), (2, .int r_1)]) hx hb dX9_askOf_92 hl (k := 8) rfl (nI_1 _) (by decide) rfl (fun ls hl => ?_)
                refine lv_goto (tgt := 15) hx hb dX9_askOf_95 (by decide) ?_
                exact ih15 (j + 1) _ _ (by omega) (by omega) _ _ _ hP hD hS (lv_sub hl [6, 7, 8, 2, 1, 0] rfl)
  exact loop15 _ 0 (-1) 6 (Nat.zero_le 4) (Nat.lt_succ_self _) _ _ _ hP hD hS (lv_sub hl [4, 5, 3, 2, 1, 0] rfl)

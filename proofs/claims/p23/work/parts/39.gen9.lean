/-! the reference's tests of a number's range -/
theorem nI_m1z (z : Nat) (hz : z < 2 ^ 31) (p : Int32) : (nI z - 1 < p) ↔ ¬ p < nI z := by
  cases z with
  | zero =>
    rw [fa_lt, fa_lt, show (nI 0 - 1 : Int32).toInt = -1 from rfl, show (nI 0).toInt = 0 from rfl]
    omega
  | succ y =>
    rw [nI_pred, fa_lt, fa_lt, nI_toInt (by omega), nI_toInt (by omega)]
    omega
theorem inL_isI (z : Nat) (hz : z < 2 ^ 31) (p : Int32) : inL p.toInt64 0 (nI z - 1 : Int32).toInt64 = isI p z := by
  have h1 : p.toInt64 < 0 ↔ p < 0 := fa_wide_lt p 0
  have h2 : (nI z - 1 : Int32).toInt64 < p.toInt64 ↔ ¬ p < nI z := (fa_wide_lt _ _).trans (nI_m1z z hz p)
  unfold inL isI
  simp only [h1, h2]
theorem inL_n (n : Nat) (hn : n + 1 < 2 ^ 31) (p : Int32) : inL p.toInt64 0 (nI n : Int32).toInt64 = isI p (n + 1) := by
  have h1 : p.toInt64 < 0 ↔ p < 0 := fa_wide_lt p 0
  have h2 : (nI n : Int32).toInt64 < p.toInt64 ↔ ¬ p < nI (n + 1) := (fa_wide_lt _ _).trans (by
    rw [fa_lt, fa_lt, nI_toInt (by omega), nI_toInt (by omega)]; omega)
  unfold inL isI
  simp only [h1, h2]
theorem rng_at_upd {n b i j : Nat} {f : Nat → Int32} (h : rng n b f) (hi : i < n) : rng n b (upd f j (f i)) := by
  obtain ⟨v, hv, e⟩ := h i hi
  rw [e]
  exact rng_upd h hv
theorem b3_nar {x : Int32} (h : x = 0 ∨ x = 1) : narrow .boolean (.int x) = .int x := by
  rcases h with h | h <;> rw [h] <;> rfl
theorem rng_eq {n b : Nat} {f h : Nat → Int32} (hf : rng n b f) (e : ∀ i, i < n → h i = f i) : rng n b h := fun i hi => by
  obtain ⟨v, hv, q⟩ := hf i hi
  exact ⟨v, hv, (e i hi).trans q⟩
theorem gst_eq {z t : Nat} {K L V K2 L2 V2 : Nat → Int32} (h : gst z t K L V) (e1 : ∀ i, i < 6 → K2 i = K i) (e2 : ∀ i, i < 6 → L2 i = L i) (e3 : ∀ i, i < 96 → V2 i = V i) : gst z t K2 L2 V2 := ⟨h.1, h.2.1, h.2.2.1, rng_eq h.2.2.2.1 e1, rng_eq h.2.2.2.2.1 e2, rng_eq h.2.2.2.2.2 e3⟩
def po_X9_isSet_g (g : GG) (k0 : Nat) (m0 : Nat) (s1 : Int32) (s2 : Int32) (s3 : Int32) (s4 : Int32) (s5 : Int32) (s6 : Int32) (m7 : Nat) (m8 : Nat) (m9 : Nat) (s11 : Int32) (s12 : Int32) (m13 : Nat) (m14 : Nat) (m15 : Nat) (s16 : Int32) (m17 : Nat) (m18 : Nat) (m19 : Nat) (m20 : Nat) (m21 : Nat) (m22 : Nat) (m23 : Nat) (m24 : Nat) (m25 : Nat) (m26 : Nat) (m27 : Nat) (m28 : Nat) (s29 : Int32) (m30 : Nat) (s31 : Int32) (s32 : Int32) (s33 : Int32) (s34 : Int32) (s35 : Int32) (m36 : Nat) (m37 : Nat) (m38 : Nat) (m39 : Nat) (s40 : Int64) (z : Nat) (p1 : Int32) : Int32 → va_W → Prop := fun (r : Int32) w => w = [(k0, .inr (9, [.ref m0, .int s1, .int s2, .int s3, .int s4, .int s5, .int s6, .ref m7, .ref m8, .ref m9, .int (nI z), .int s11, .int s12, .ref m13, .ref m14, .ref m15, .int s16, .ref m17, .ref m18, .ref m19, .ref m20, .ref m21, .ref m22, .ref m23, .ref m24, .ref m25, .ref m26, .ref m27, .ref m28, .int s29, .ref m30, .int s31, .int s32, .int s33, .int s34, .int s35, .ref m36, .ref m37, .ref m38, .ref m39, .long s40]))] ∧ (isI p1 z = r)
theorem q_X9_isSet_g_f9 : ∀ w ∈ u_ws RX9 TX9 41, w ∈ wsX9_isSet := by decide +kernel
theorem q_X9_isSet_g_1 : (Cond.fieldLink RX9 147 "SoundLawsModel" "sets" "I") ∈ wsX9_isSet := by decide +kernel
set_option maxHeartbeats 1500000 in
set_option maxRecDepth 100000 in
theorem c_X9_isSet_g (l : Launch) (g : GG) (k0 : Nat) (m0 : Nat) (s1 : Int32) (s2 : Int32) (s3 : Int32) (s4 : Int32) (s5 : Int32) (s6 : Int32) (m7 : Nat) (m8 : Nat) (m9 : Nat) (s11 : Int32) (s12 : Int32) (m13 : Nat) (m14 : Nat) (m15 : Nat) (s16 : Int32) (m17 : Nat) (m18 : Nat) (m19 : Nat) (m20 : Nat) (m21 : Nat) (m22 : Nat) (m23 : Nat) (m24 : Nat) (m25 : Nat) (m26 : Nat) (m27 : Nat) (m28 : Nat) (s29 : Int32) (m30 : Nat) (s31 : Int32) (s32 : Int32) (s33 : Int32) (s34 : Int32) (s35 : Int32) (m36 : Nat) (m37 : Nat) (m38 : Nat) (m39 : Nat) (s40 : Int64) (z : Nat) (p1 : Int32) (hz : z ≤ 6) (sz : Nat) : MetI l yX9_isSet wsX9_isSet ({ frames := 1, cells := 0, slots := 0, locals := 25 }) g [.ref k0, .int p1] [(k0, .inr (9, [.ref m0, .int s1, .int s2, .int s3, .int s4, .int s5, .int s6, .ref m7, .ref m8, .ref m9, .int (nI z), .int s11, .int s12, .ref m13, .ref m14, .ref m15, .int s16, .ref m17, .ref m18, .ref m19, .ref m20, .ref m21, .ref m22, .ref m23, .ref m24, .ref m25, .ref m26, .ref m27, .ref m28, .int s29, .ref m30, .int s31, .int s32, .int s33, .int s34, .int s35, .ref m36, .ref m37, .ref m38, .ref m39, .long s40]))] sz (po_X9_isSet_g g k0 m0 s1 s2 s3 s4 s5 s6 m7 m8 m9 s11 s12 m13 m14 m15 s16 m17 m18 m19 m20 m21 m22 m23 m24 m25 m26 m27 m28 s29 m30 s31 s32 s33 s34 s35 m36 m37 m38 m39 s40 z p1) 0 0 := by
  refine k_of (l := l) (y := yX9_isSet) (ws := wsX9_isSet) (rm := { frames := 1, cells := 0, slots := 0, locals := 25 }) (mc := 0) (ms := 0) (av := [.ref k0, .int p1]) (g := g) (wc := [(k0, .inr (9, [.ref m0, .int s1, .int s2, .int s3, .int s4, .int s5, .int s6, .ref m7, .ref m8, .ref m9, .int (nI z), .int s11, .int s12, .ref m13, .ref m14, .ref m15, .int s16, .ref m17, .ref m18, .ref m19, .ref m20, .ref m21, .ref m22, .ref m23, .ref m24, .ref m25, .ref m26, .ref m27, .ref m28, .int s29, .ref m30, .int s31, .int s32, .int s33, .int s34, .int s35, .ref m36, .ref m37, .ref m38, .ref m39, .long s40]))]) (Qc := fun A => va_Qi (po_X9_isSet_g g k0 m0 s1 s2 s3 s4 s5 s6 m7 m8 m9 s11 s12 m13 m14 m15 s16 m17 m18 m19 m20 m21 m22 m23 m24 m25 m26 m27 m28 s29 m30 s31 s32 s33 s34 s35 m36 m37 m38 m39 s40 z p1) (bk g A) A) (cc := cX9_isSet) (maxL := 2) (ret := (some .boolean)) (by decide) rfl (Nat.le_of_ble_eq_true rfl) ?_ sz
  intro p e s m below meth c hx hb hr hts hown hlocks hnm hml A hA hE hZ hP hD hS ls hl
  have hown : s.vm.findClass RX9 = some m.cls := hown
  have hl : lv_has ls 2 [(0, .ref k0), (1, .int p1)] := hl
  refine lv_iload_n hx hb dX9_isSet_0 rfl (lv_at hl 1 rfl) ?_
  refine lv_i2l hx hb dX9_isSet_1 rfl ?_
  refine lv_lconst (v := 0) hx hb dX9_isSet_2 (by decide) ?_
  refine lv_aload_n hx hb dX9_isSet_3 rfl (lv_at hl 0 rfl) ?_
  refine va_get (D := g.1) (ci := 9) (v := .int (nI z)) (C := RX9) (T := TX9) (N := 41) hx hb hts q_X9_isSet_g_f9 hown hE.1 hP 0 rfl rfl 10 (by decide) (hts (.fieldLink RX9 147 "SoundLawsModel" "sets" "I") q_X9_isSet_g_1) (fun _ h9 => h9) rfl dX9_isSet_4 ?_
  refine lv_iconst (v := 1) hx hb dX9_isSet_7 (by decide) ?_
  refine lv_isub hx hb dX9_isSet_8 ?_
  refine lv_i2l hx hb dX9_isSet_9 rfl ?_
  refine k_ci (wr := [(k0, .inr (9, [.ref m0, .int s1, .int s2, .int s3, .int s4, .int s5, .int s6, .ref m7, .ref m8, .ref m9, .int (nI z), .int s11, .int s12, .ref m13, .ref m14, .ref m15, .int s16, .ref m17, .ref m18, .ref m19, .ref m20, .ref m21, .ref m22, .ref m23, .ref m24, .ref m25, .ref m26, .ref m27, .ref m28, .int s29, .ref m30, .int s31, .int s32, .int s33, .int s34, .int s35, .ref m36, .ref m37, .ref m38, .ref m39, .long s40]))]) hP hD hS hA [] [0] rfl rfl (by decide) (by decide) (va_runS (As := [.long ((p1 : Int32).toInt64), .long 0, .long ((((nI z) - 1) : Int32).toInt64)]) (rest := []) ⟨hx, hb, hml, hown, hts⟩ (c_X9_in l g ((p1 : Int32).toInt64) 0 ((((nI z) - 1) : Int32).toInt64)  s.heap.size) (va_cwS 3 hts gX9_isSet_X9_in rfl rfl rfl (by decide +kernel) ⟨Nat.le_of_ble_eq_true rfl, Nat.le_of_ble_eq_true rfl⟩) (k_preS hE hZ hP hD hS hA [] rfl (by decide)) rfl rfl hl.1 rfl (lv_room (Nat.le_of_ble_eq_true rfl)) dX9_isSet_10 ⟨Nat.le_of_ble_eq_true rfl, Nat.le_of_ble_eq_true rfl⟩) (fun r_1 w1 H locs hw hP hD hS => ?_)
  obtain ⟨rfl, rfl⟩ := hw
  have hP : va_P g.1 vwCl [(k0, .inr (9, [.ref m0, .int s1, .int s2, .int s3, .int s4, .int s5, .int s6, .ref m7, .ref m8, .ref m9, .int (nI z), .int s11, .int s12, .ref m13, .ref m14, .ref m15, .int s16, .ref m17, .ref m18, .ref m19, .ref m20, .ref m21, .ref m22, .ref m23, .ref m24, .ref m25, .ref m26, .ref m27, .ref m28, .int s29, .ref m30, .int s31, .int s32, .int s33, .int s34, .int s35, .ref m36, .ref m37, .ref m38, .ref m39, .long s40]))] H := hP
  have hD : va_D A [(k0, .inr (9, [.ref m0, .int s1, .int s2, .int s3, .int s4, .int s5, .int s6, .ref m7, .ref m8, .ref m9, .int (nI z), .int s11, .int s12, .ref m13, .ref m14, .ref m15, .int s16, .ref m17, .ref m18, .ref m19, .ref m20, .ref m21, .ref m22, .ref m23, .ref m24, .ref m25, .ref m26, .ref m27, .ref m28, .int s29, .ref m30, .int s31, .int s32, .int s33, .int s34, .int s35, .ref m36, .ref m37, .ref m38, .ref m39, .long s40]))] := hD
  refine lv_topi (fun x_3 ex_3 => ?_)
  obtain rfl : x_3 = isI p1 z := by rw [ex_3]; exact inL_isI z (by omega) p1
  refine W.widen (k := 0) (n := 0) (Nat.le_of_ble_eq_true rfl) (Nat.le_of_ble_eq_true rfl) ?_
  exact k_rz hx hb hr hlocks hS hP hD (isI_nar _ _) ⟨rfl, rfl⟩ dX9_isSet_13
def po_X9_isTongue_g (g : GG) (k0 : Nat) (m0 : Nat) (s1 : Int32) (s2 : Int32) (s3 : Int32) (s4 : Int32) (s5 : Int32) (s6 : Int32) (m7 : Nat) (m8 : Nat) (m9 : Nat) (s10 : Int32) (s12 : Int32) (m13 : Nat) (m14 : Nat) (m15 : Nat) (s16 : Int32) (m17 : Nat) (m18 : Nat) (m19 : Nat) (m20 : Nat) (m21 : Nat) (m22 : Nat) (m23 : Nat) (m24 : Nat) (m25 : Nat) (m26 : Nat) (m27 : Nat) (m28 : Nat) (s29 : Int32) (m30 : Nat) (s31 : Int32) (s32 : Int32) (s33 : Int32) (s34 : Int32) (s35 : Int32) (m36 : Nat) (m37 : Nat) (m38 : Nat) (m39 : Nat) (s40 : Int64) (t : Nat) (p1 : Int32) : Int32 → va_W → Prop := fun (r : Int32) w => w = [(k0, .inr (9, [.ref m0, .int s1, .int s2, .int s3, .int s4, .int s5, .int s6, .ref m7, .ref m8, .ref m9, .int s10, .int (nI t), .int s12, .ref m13, .ref m14, .ref m15, .int s16, .ref m17, .ref m18, .ref m19, .ref m20, .ref m21, .ref m22, .ref m23, .ref m24, .ref m25, .ref m26, .ref m27, .ref m28, .int s29, .ref m30, .int s31, .int s32, .int s33, .int s34, .int s35, .ref m36, .ref m37, .ref m38, .ref m39, .long s40]))] ∧ (isI p1 t = r)
theorem q_X9_isTongue_g_f9 : ∀ w ∈ u_ws RX9 TX9 41, w ∈ wsX9_isTongue := by decide +kernel
theorem q_X9_isTongue_g_1 : (Cond.fieldLink RX9 150 "SoundLawsModel" "tongues" "I") ∈ wsX9_isTongue := by decide +kernel
set_option maxHeartbeats 1500000 in
set_option maxRecDepth 100000 in
theorem c_X9_isTongue_g (l : Launch) (g : GG) (k0 : Nat) (m0 : Nat) (s1 : Int32) (s2 : Int32) (s3 : Int32) (s4 : Int32) (s5 : Int32) (s6 : Int32) (m7 : Nat) (m8 : Nat) (m9 : Nat) (s10 : Int32) (s12 : Int32) (m13 : Nat) (m14 : Nat) (m15 : Nat) (s16 : Int32) (m17 : Nat) (m18 : Nat) (m19 : Nat) (m20 : Nat) (m21 : Nat) (m22 : Nat) (m23 : Nat) (m24 : Nat) (m25 : Nat) (m26 : Nat) (m27 : Nat) (m28 : Nat) (s29 : Int32) (m30 : Nat) (s31 : Int32) (s32 : Int32) (s33 : Int32) (s34 : Int32) (s35 : Int32) (m36 : Nat) (m37 : Nat) (m38 : Nat) (m39 : Nat) (s40 : Int64) (t : Nat) (p1 : Int32) (ht4 : t ≤ 4) (sz : Nat) : MetI l yX9_isTongue wsX9_isTongue ({ frames := 1, cells := 0, slots := 0, locals := 25 }) g [.ref k0, .int p1] [(k0, .inr (9, [.ref m0, .int s1, .int s2, .int s3, .int s4, .int s5, .int s6, .ref m7, .ref m8, .ref m9, .int s10, .int (nI t), .int s12, .ref m13, .ref m14, .ref m15, .int s16, .ref m17, .ref m18, .ref m19, .ref m20, .ref m21, .ref m22, .ref m23, .ref m24, .ref m25, .ref m26, .ref m27, .ref m28, .int s29, .ref m30, .int s31, .int s32, .int s33, .int s34, .int s35, .ref m36, .ref m37, .ref m38, .ref m39, .long s40]))] sz (po_X9_isTongue_g g k0 m0 s1 s2 s3 s4 s5 s6 m7 m8 m9 s10 s12 m13 m14 m15 s16 m17 m18 m19 m20 m21 m22 m23 m24 m25 m26 m27 m28 s29 m30 s31 s32 s33 s34 s35 m36 m37 m38 m39 s40 t p1) 0 0 := by
  refine k_of (l := l) (y := yX9_isTongue) (ws := wsX9_isTongue) (rm := { frames := 1, cells := 0, slots := 0, locals := 25 }) (mc := 0) (ms := 0) (av := [.ref k0, .int p1]) (g := g) (wc := [(k0, .inr (9, [.ref m0, .int s1, .int s2, .int s3, .int s4, .int s5, .int s6, .ref m7, .ref m8, .ref m9, .int s10, .int (nI t), .int s12, .ref m13, .ref m14, .ref m15, .int s16, .ref m17, .ref m18, .ref m19, .ref m20, .ref m21, .ref m22, .ref m23, .ref m24, .ref m25, .ref m26, .ref m27, .ref m28, .int s29, .ref m30, .int s31, .int s32, .int s33, .int s34, .int s35, .ref m36, .ref m37, .ref m38, .ref m39, .long s40]))]) (Qc := fun A => va_Qi (po_X9_isTongue_g g k0 m0 s1 s2 s3 s4 s5 s6 m7 m8 m9 s10 s12 m13 m14 m15 s16 m17 m18 m19 m20 m21 m22 m23 m24 m25 m26 m27 m28 s29 m30 s31 s32 s33 s34 s35 m36 m37 m38 m39 s40 t p1) (bk g A) A) (cc := cX9_isTongue) (maxL := 2) (ret := (some .boolean)) (by decide) rfl (Nat.le_of_ble_eq_true rfl) ?_ sz
  intro p e s m below meth c hx hb hr hts hown hlocks hnm hml A hA hE hZ hP hD hS ls hl
  have hown : s.vm.findClass RX9 = some m.cls := hown
  have hl : lv_has ls 2 [(0, .ref k0), (1, .int p1)] := hl
  refine lv_iload_n hx hb dX9_isTongue_0 rfl (lv_at hl 1 rfl) ?_
  refine lv_i2l hx hb dX9_isTongue_1 rfl ?_
  refine lv_lconst (v := 0) hx hb dX9_isTongue_2 (by decide) ?_
  refine lv_aload_n hx hb dX9_isTongue_3 rfl (lv_at hl 0 rfl) ?_
  refine va_get (D := g.1) (ci := 9) (v := .int (nI t)) (C := RX9) (T := TX9) (N := 41) hx hb hts q_X9_isTongue_g_f9 hown hE.1 hP 0 rfl rfl 11 (by decide) (hts (.fieldLink RX9 150 "SoundLawsModel" "tongues" "I") q_X9_isTongue_g_1) (fun _ h9 => h9) rfl dX9_isTongue_4 ?_
  refine lv_iconst (v := 1) hx hb dX9_isTongue_7 (by decide) ?_
  refine lv_isub hx hb dX9_isTongue_8 ?_
  refine lv_i2l hx hb dX9_isTongue_9 rfl ?_
  refine k_ci (wr := [(k0, .inr (9, [.ref m0, .int s1, .int s2, .int s3, .int s4, .int s5, .int s6, .ref m7, .ref m8, .ref m9, .int s10, .int (nI t), .int s12, .ref m13, .ref m14, .ref m15, .int s16, .ref m17, .ref m18, .ref m19, .ref m20, .ref m21, .ref m22, .ref m23, .ref m24, .ref m25, .ref m26, .ref m27, .ref m28, .int s29, .ref m30, .int s31, .int s32, .int s33, .int s34, .int s35, .ref m36, .ref m37, .ref m38, .ref m39, .long s40]))]) hP hD hS hA [] [0] rfl rfl (by decide) (by decide) (va_runS (As := [.long ((p1 : Int32).toInt64), .long 0, .long ((((nI t) - 1) : Int32).toInt64)]) (rest := []) ⟨hx, hb, hml, hown, hts⟩ (c_X9_in l g ((p1 : Int32).toInt64) 0 ((((nI t) - 1) : Int32).toInt64)  s.heap.size) (va_cwS 3 hts gX9_isTongue_X9_in rfl rfl rfl (by decide +kernel) ⟨Nat.le_of_ble_eq_true rfl, Nat.le_of_ble_eq_true rfl⟩) (k_preS hE hZ hP hD hS hA [] rfl (by decide)) rfl rfl hl.1 rfl (lv_room (Nat.le_of_ble_eq_true rfl)) dX9_isTongue_10 ⟨Nat.le_of_ble_eq_true rfl, Nat.le_of_ble_eq_true rfl⟩) (fun r_1 w1 H locs hw hP hD hS => ?_)
  obtain ⟨rfl, rfl⟩ := hw
  have hP : va_P g.1 vwCl [(k0, .inr (9, [.ref m0, .int s1, .int s2, .int s3, .int s4, .int s5, .int s6, .ref m7, .ref m8, .ref m9, .int s10, .int (nI t), .int s12, .ref m13, .ref m14, .ref m15, .int s16, .ref m17, .ref m18, .ref m19, .ref m20, .ref m21, .ref m22, .ref m23, .ref m24, .ref m25, .ref m26, .ref m27, .ref m28, .int s29, .ref m30, .int s31, .int s32, .int s33, .int s34, .int s35, .ref m36, .ref m37, .ref m38, .ref m39, .long s40]))] H := hP
  have hD : va_D A [(k0, .inr (9, [.ref m0, .int s1, .int s2, .int s3, .int s4, .int s5, .int s6, .ref m7, .ref m8, .ref m9, .int s10, .int (nI t), .int s12, .ref m13, .ref m14, .ref m15, .int s16, .ref m17, .ref m18, .ref m19, .ref m20, .ref m21, .ref m22, .ref m23, .ref m24, .ref m25, .ref m26, .ref m27, .ref m28, .int s29, .ref m30, .int s31, .int s32, .int s33, .int s34, .int s35, .ref m36, .ref m37, .ref m38, .ref m39, .long s40]))] := hD
  refine lv_topi (fun x_3 ex_3 => ?_)
  obtain rfl : x_3 = isI p1 t := by rw [ex_3]; exact inL_isI t (by omega) p1
  refine W.widen (k := 0) (n := 0) (Nat.le_of_ble_eq_true rfl) (Nat.le_of_ble_eq_true rfl) ?_
  exact k_rz hx hb hr hlocks hS hP hD (isI_nar _ _) ⟨rfl, rfl⟩ dX9_isTongue_13
def po_X9_isPlace_g (g : GG) (k0 : Nat) (m0 : Nat) (s1 : Int32) (s2 : Int32) (s3 : Int32) (s4 : Int32) (s5 : Int32) (s6 : Int32) (m7 : Nat) (m8 : Nat) (m9 : Nat) (s11 : Int32) (s12 : Int32) (m13 : Nat) (m14 : Nat) (m15 : Nat) (s16 : Int32) (m17 : Nat) (m18 : Nat) (m19 : Nat) (m20 : Nat) (m21 : Nat) (m22 : Nat) (m23 : Nat) (m24 : Nat) (m25 : Nat) (m26 : Nat) (m27 : Nat) (m28 : Nat) (s29 : Int32) (m30 : Nat) (s31 : Int32) (s32 : Int32) (s33 : Int32) (s34 : Int32) (s35 : Int32) (m36 : Nat) (m37 : Nat) (m38 : Nat) (m39 : Nat) (s40 : Int64) (z : Nat) (L : Nat → Int32) (p1 : Int32) (p2 : Int32) : Int32 → va_W → Prop := fun (r : Int32) w => w = [(k0, .inr (9, [.ref m0, .int s1, .int s2, .int s3, .int s4, .int s5, .int s6, .ref m7, .ref m8, .ref m9, .int (nI z), .int s11, .int s12, .ref m13, .ref m14, .ref m15, .int s16, .ref m17, .ref m18, .ref m19, .ref m20, .ref m21, .ref m22, .ref m23, .ref m24, .ref m25, .ref m26, .ref m27, .ref m28, .int s29, .ref m30, .int s31, .int s32, .int s33, .int s34, .int s35, .ref m36, .ref m37, .ref m38, .ref m39, .long s40])), (m14, ai g 6 L)] ∧ (¬ r = 0 → ∃ k, k < z ∧ p1 = nI k ∧ ∃ n, n < 5 ∧ L k = nI n ∧ ∃ q, q < n ∧ p2 = nI q)
theorem q_X9_isPlace_g_f9 : ∀ w ∈ u_ws RX9 TX9 41, w ∈ wsX9_isPlace := by decide +kernel
theorem q_X9_isPlace_g_1 : (Cond.fieldLink RX9 25 "SoundLawsModel" "longs" "[I") ∈ wsX9_isPlace := by decide +kernel
set_option maxHeartbeats 1500000 in
set_option maxRecDepth 100000 in
theorem c_X9_isPlace_g (l : Launch) (g : GG) (k0 : Nat) (m0 : Nat) (s1 : Int32) (s2 : Int32) (s3 : Int32) (s4 : Int32) (s5 : Int32) (s6 : Int32) (m7 : Nat) (m8 : Nat) (m9 : Nat) (s11 : Int32) (s12 : Int32) (m13 : Nat) (m14 : Nat) (m15 : Nat) (s16 : Int32) (m17 : Nat) (m18 : Nat) (m19 : Nat) (m20 : Nat) (m21 : Nat) (m22 : Nat) (m23 : Nat) (m24 : Nat) (m25 : Nat) (m26 : Nat) (m27 : Nat) (m28 : Nat) (s29 : Int32) (m30 : Nat) (s31 : Int32) (s32 : Int32) (s33 : Int32) (s34 : Int32) (s35 : Int32) (m36 : Nat) (m37 : Nat) (m38 : Nat) (m39 : Nat) (s40 : Int64) (z : Nat) (L : Nat → Int32) (p1 : Int32) (p2 : Int32) (hz : z ≤ 6) (hL : rng 6 5 L) (sz : Nat) : MetI l yX9_isPlace wsX9_isPlace ({ frames := 2, cells := 0, slots := 0, locals := 46 }) g [.ref k0, .int p1, .int p2] [(k0, .inr (9, [.ref m0, .int s1, .int s2, .int s3, .int s4, .int s5, .int s6, .ref m7, .ref m8, .ref m9, .int (nI z), .int s11, .int s12, .ref m13, .ref m14, .ref m15, .int s16, .ref m17, .ref m18, .ref m19, .ref m20, .ref m21, .ref m22, .ref m23, .ref m24, .ref m25, .ref m26, .ref m27, .ref m28, .int s29, .ref m30, .int s31, .int s32, .int s33, .int s34, .int s35, .ref m36, .ref m37, .ref m38, .ref m39, .long s40])), (m14, ai g 6 L)] sz (po_X9_isPlace_g g k0 m0 s1 s2 s3 s4 s5 s6 m7 m8 m9 s11 s12 m13 m14 m15 s16 m17 m18 m19 m20 m21 m22 m23 m24 m25 m26 m27 m28 s29 m30 s31 s32 s33 s34 s35 m36 m37 m38 m39 s40 z L p1 p2) 0 0 := by
  refine k_of (l := l) (y := yX9_isPlace) (ws := wsX9_isPlace) (rm := { frames := 2, cells := 0, slots := 0, locals := 46 }) (mc := 0) (ms := 0) (av := [.ref k0, .int p1, .int p2]) (g := g) (wc := [(k0, .inr (9, [.ref m0, .int s1, .int s2, .int s3, .int s4, .int s5, .int s6, .ref m7, .ref m8, .ref m9, .int (nI z), .int s11, .int s12, .ref m13, .ref m14, .ref m15, .int s16, .ref m17, .ref m18, .ref m19, .ref m20, .ref m21, .ref m22, .ref m23, .ref m24, .ref m25, .ref m26, .ref m27, .ref m28, .int s29, .ref m30, .int s31, .int s32, .int s33, .int s34, .int s35, .ref m36, .ref m37, .ref m38, .ref m39, .long s40])), (m14, ai g 6 L)]) (Qc := fun A => va_Qi (po_X9_isPlace_g g k0 m0 s1 s2 s3 s4 s5 s6 m7 m8 m9 s11 s12 m13 m14 m15 s16 m17 m18 m19 m20 m21 m22 m23 m24 m25 m26 m27 m28 s29 m30 s31 s32 s33 s34 s35 m36 m37 m38 m39 s40 z L p1 p2) (bk g A) A) (cc := cX9_isPlace) (maxL := 3) (ret := (some .boolean)) (by decide) rfl (Nat.le_of_ble_eq_true rfl) ?_ sz
  intro p e s m below meth c hx hb hr hts hown hlocks hnm hml A hA hE hZ hP hD hS ls hl
  have hown : s.vm.findClass RX9 = some m.cls := hown
  have hl : lv_has ls 3 [(0, .ref k0), (1, .int p1), (2, .int p2)] := hl
  refine lv_aload_n hx hb dX9_isPlace_0 rfl (lv_at hl 0 rfl) ?_
  refine lv_iload_n hx hb dX9_isPlace_1 rfl (lv_at hl 1 rfl) ?_
  refine k_ci (wr := [(m14, ai g 6 L)]) hP hD hS hA [0] [1] rfl rfl (by decide) (by decide) (va_runV (As := [.int p1]) (rest := []) ⟨hx, hb, hml, hown, hts⟩ (c_X9_isSet_g l g k0 m0 s1 s2 s3 s4 s5 s6 m7 m8 m9 s11 s12 m13 m14 m15 s16 m17 m18 m19 m20 m21 m22 m23 m24 m25 m26 m27 m28 s29 m30 s31 s32 s33 s34 s35 m36 m37 m38 m39 s40 z p1 (by first | assumption | omega) s.heap.size) (cwV 1 hts gX9_isPlace_X9_isSet rfl rfl rfl (by decide +kernel) ⟨Nat.le_of_ble_eq_true rfl, Nat.le_of_ble_eq_true rfl⟩) (k_preV hE hZ hP hD hS hA [0] rfl (by decide) (va_recv hE.1 hP (ci := 9) (q0 := 0) rfl rfl)) rfl rfl hl.1 rfl (lv_room (Nat.le_of_ble_eq_true rfl)) dX9_isPlace_2 ⟨Nat.le_of_ble_eq_true rfl, Nat.le_of_ble_eq_true rfl⟩) (fun r_1 w1 H locs hw hP hD hS => ?_)
  obtain ⟨rfl, rfl⟩ := hw
  have hP : va_P g.1 vwCl [(m14, ai g 6 L), (k0, .inr (9, [.ref m0, .int s1, .int s2, .int s3, .int s4, .int s5, .int s6, .ref m7, .ref m8, .ref m9, .int (nI z), .int s11, .int s12, .ref m13, .ref m14, .ref m15, .int s16, .ref m17, .ref m18, .ref m19, .ref m20, .ref m21, .ref m22, .ref m23, .ref m24, .ref m25, .ref m26, .ref m27, .ref m28, .int s29, .ref m30, .int s31, .int s32, .int s33, .int s34, .int s35, .ref m36, .ref m37, .ref m38, .ref m39, .long s40]))] H := hP
  have hD : va_D A [(m14, ai g 6 L), (k0, .inr (9, [.ref m0, .int s1, .int s2, .int s3, .int s4, .int s5, .int s6, .ref m7, .ref m8, .ref m9, .int (nI z), .int s11, .int s12, .ref m13, .ref m14, .ref m15, .int s16, .ref m17, .ref m18, .ref m19, .ref m20, .ref m21, .ref m22, .ref m23, .ref m24, .ref m25, .ref m26, .ref m27, .ref m28, .int s29, .ref m30, .int s31, .int s32, .int s33, .int s34, .int s35, .ref m36, .ref m37, .ref m38, .ref m39, .long s40]))] := hD
  refine lv_if_eq (tgt := 30) hx hb dX9_isPlace_5 (by decide) (fun c5_3 => ?_) (fun c5_3 => ?_)
  · skip
    refine lv_iconst (v := 0) hx hb dX9_isPlace_30 (by decide) ?_
    refine W.widen (k := 0) (n := 0) (Nat.le_of_ble_eq_true rfl) (Nat.le_of_ble_eq_true rfl) ?_
    have hP9 := hP.sub (ws' := [(k0, .inr (9, [.ref m0, .int s1, .int s2, .int s3, .int s4, .int s5, .int s6, .ref m7, .ref m8, .ref m9, .int (nI z), .int s11, .int s12, .ref m13, .ref m14, .ref m15, .int s16, .ref m17, .ref m18, .ref m19, .ref m20, .ref m21, .ref m22, .ref m23, .ref m24, .ref m25, .ref m26, .ref m27, .ref m28, .int s29, .ref m30, .int s31, .int s32, .int s33, .int s34, .int s35, .ref m36, .ref m37, .ref m38, .ref m39, .long s40])), (m14, ai g 6 L)]) [1, 0] rfl
    have hD9 := hD.sub (ws' := [(k0, .inr (9, [.ref m0, .int s1, .int s2, .int s3, .int s4, .int s5, .int s6, .ref m7, .ref m8, .ref m9, .int (nI z), .int s11, .int s12, .ref m13, .ref m14, .ref m15, .int s16, .ref m17, .ref m18, .ref m19, .ref m20, .ref m21, .ref m22, .ref m23, .ref m24, .ref m25, .ref m26, .ref m27, .ref m28, .int s29, .ref m30, .int s31, .int s32, .int s33, .int s34, .int s35, .ref m36, .ref m37, .ref m38, .ref m39, .long s40])), (m14, ai g 6 L)]) [1, 0] (by decide) rfl
    exact k_rz hx hb hr hlocks hS hP9 hD9 rfl ⟨rfl, (fun h => absurd rfl h)⟩ dX9_isPlace_31
  · skip
    obtain ⟨k1, hk1, rfl⟩ := isI_of (p := p1) (by omega) c5_3
    obtain ⟨n1, hn1, en1⟩ := hL k1 (by omega)
    refine lv_iload_n hx hb dX9_isPlace_8 rfl (lv_at hl 2 rfl) ?_
    refine lv_i2l hx hb dX9_isPlace_9 rfl ?_
    refine lv_lconst (v := 0) hx hb dX9_isPlace_10 (by decide) ?_
    refine lv_aload_n hx hb dX9_isPlace_11 rfl (lv_at hl 0 rfl) ?_
    refine va_get (D := g.1) (ci := 9) (v := .ref m14) (C := RX9) (T := TX9) (N := 41) hx hb hts q_X9_isPlace_g_f9 hown hE.1 hP 1 rfl rfl 14 (by decide) (hts (.fieldLink RX9 25 "SoundLawsModel" "longs" "[I") q_X9_isPlace_g_1) (fun _ h9 => h9) rfl dX9_isPlace_12 ?_
    refine lv_iload_n hx hb dX9_isPlace_15 rfl (lv_at hl 1 rfl) ?_
    refine k_ald k1 rfl (by omega) hx hb hE hP 0 rfl (by decide) dX9_isPlace_16 ?_
    refine lv_topi (fun x_4 ex_4 => ?_)
    obtain rfl : x_4 = nI n1 := by rw [ex_4]; exact en1
    refine lv_iconst (v := 1) hx hb dX9_isPlace_17 (by decide) ?_
    refine lv_isub hx hb dX9_isPlace_18 ?_
    refine lv_i2l hx hb dX9_isPlace_19 rfl ?_
    refine k_ci (wr := [(m14, ai g 6 L), (k0, .inr (9, [.ref m0, .int s1, .int s2, .int s3, .int s4, .int s5, .int s6, .ref m7, .ref m8, .ref m9, .int (nI z), .int s11, .int s12, .ref m13, .ref m14, .ref m15, .int s16, .ref m17, .ref m18, .ref m19, .ref m20, .ref m21, .ref m22, .ref m23, .ref m24, .ref m25, .ref m26, .ref m27, .ref m28, .int s29, .ref m30, .int s31, .int s32, .int s33, .int s34, .int s35, .ref m36, .ref m37, .ref m38, .ref m39, .long s40]))]) hP hD hS hA [] [0, 1] rfl rfl (by decide) (by decide) (va_runS (As := [.long ((p2 : Int32).toInt64), .long 0, .long ((((nI n1) - 1) : Int32).toInt64)]) (rest := []) ⟨hx, hb, hml, hown, hts⟩ (c_X9_in l g ((p2 : Int32).toInt64) 0 ((((nI n1) - 1) : Int32).toInt64)  H.size) (va_cwS 3 hts gX9_isPlace_X9_in rfl rfl rfl (by decide +kernel) ⟨Nat.le_of_ble_eq_true rfl, Nat.le_of_ble_eq_true rfl⟩) (k_preS hE hZ hP hD hS hA [] rfl (by decide)) rfl rfl hl.1 rfl (lv_room (Nat.le_of_ble_eq_true rfl)) dX9_isPlace_20 ⟨Nat.le_of_ble_eq_true rfl, Nat.le_of_ble_eq_true rfl⟩) (fun r_5 w1 H locs hw hP hD hS => ?_)
    obtain ⟨rfl, rfl⟩ := hw
    have hP : va_P g.1 vwCl [(m14, ai g 6 L), (k0, .inr (9, [.ref m0, .int s1, .int s2, .int s3, .int s4, .int s5, .int s6, .ref m7, .ref m8, .ref m9, .int (nI z), .int s11, .int s12, .ref m13, .ref m14, .ref m15, .int s16, .ref m17, .ref m18, .ref m19, .ref m20, .ref m21, .ref m22, .ref m23, .ref m24, .ref m25, .ref m26, .ref m27, .ref m28, .int s29, .ref m30, .int s31, .int s32, .int s33, .int s34, .int s35, .ref m36, .ref m37, .ref m38, .ref m39, .long s40]))] H := hP
    have hD : va_D A [(m14, ai g 6 L), (k0, .inr (9, [.ref m0, .int s1, .int s2, .int s3, .int s4, .int s5, .int s6, .ref m7, .ref m8, .ref m9, .int (nI z), .int s11, .int s12, .ref m13, .ref m14, .ref m15, .int s16, .ref m17, .ref m18, .ref m19, .ref m20, .ref m21, .ref m22, .ref m23, .ref m24, .ref m25, .ref m26, .ref m27, .ref m28, .int s29, .ref m30, .int s31, .int s32, .int s33, .int s34, .int s35, .ref m36, .ref m37, .ref m38, .ref m39, .long s40]))] := hD
    refine lv_topi (fun x_7 ex_7 => ?_)
    obtain rfl : x_7 = isI p2 n1 := by rw [ex_7]; exact inL_isI n1 (by omega) p2
    refine lv_if_eq (tgt := 30) hx hb dX9_isPlace_23 (by decide) (fun c23_8 => ?_) (fun c23_8 => ?_)
    · skip
      refine lv_iconst (v := 0) hx hb dX9_isPlace_30 (by decide) ?_
      refine W.widen (k := 0) (n := 0) (Nat.le_of_ble_eq_true rfl) (Nat.le_of_ble_eq_true rfl) ?_
      have hP9 := hP.sub (ws' := [(k0, .inr (9, [.ref m0, .int s1, .int s2, .int s3, .int s4, .int s5, .int s6, .ref m7, .ref m8, .ref m9, .int (nI z), .int s11, .int s12, .ref m13, .ref m14, .ref m15, .int s16, .ref m17, .ref m18, .ref m19, .ref m20, .ref m21, .ref m22, .ref m23, .ref m24, .ref m25, .ref m26, .ref m27, .ref m28, .int s29, .ref m30, .int s31, .int s32, .int s33, .int s34, .int s35, .ref m36, .ref m37, .ref m38, .ref m39, .long s40])), (m14, ai g 6 L)]) [1, 0] rfl
      have hD9 := hD.sub (ws' := [(k0, .inr (9, [.ref m0, .int s1, .int s2, .int s3, .int s4, .int s5, .int s6, .ref m7, .ref m8, .ref m9, .int (nI z), .int s11, .int s12, .ref m13, .ref m14, .ref m15, .int s16, .ref m17, .ref m18, .ref m19, .ref m20, .ref m21, .ref m22, .ref m23, .ref m24, .ref m25, .ref m26, .ref m27, .ref m28, .int s29, .ref m30, .int s31, .int s32, .int s33, .int s34, .int s35, .ref m36, .ref m37, .ref m38, .ref m39, .long s40])), (m14, ai g 6 L)]) [1, 0] (by decide) rfl
      exact k_rz hx hb hr hlocks hS hP9 hD9 rfl ⟨rfl, (fun h => absurd rfl h)⟩ dX9_isPlace_31
    · skip
      refine lv_iconst (v := 1) hx hb dX9_isPlace_26 (by decide) ?_
      refine lv_goto (tgt := 31) hx hb dX9_isPlace_27 (by decide) ?_
      refine W.widen (k := 0) (n := 0) (Nat.le_of_ble_eq_true rfl) (Nat.le_of_ble_eq_true rfl) ?_
      have hP9 := hP.sub (ws' := [(k0, .inr (9, [.ref m0, .int s1, .int s2, .int s3, .int s4, .int s5, .int s6, .ref m7, .ref m8, .ref m9, .int (nI z), .int s11, .int s12, .ref m13, .ref m14, .ref m15, .int s16, .ref m17, .ref m18, .ref m19, .ref m20, .ref m21, .ref m22, .ref m23, .ref m24, .ref m25, .ref m26, .ref m27, .ref m28, .int s29, .ref m30, .int s31, .int s32, .int s33, .int s34, .int s35, .ref m36, .ref m37, .ref m38, .ref m39, .long s40])), (m14, ai g 6 L)]) [1, 0] rfl
      have hD9 := hD.sub (ws' := [(k0, .inr (9, [.ref m0, .int s1, .int s2, .int s3, .int s4, .int s5, .int s6, .ref m7, .ref m8, .ref m9, .int (nI z), .int s11, .int s12, .ref m13, .ref m14, .ref m15, .int s16, .ref m17, .ref m18, .ref m19, .ref m20, .ref m21, .ref m22, .ref m23, .ref m24, .ref m25, .ref m26, .ref m27, .ref m28, .int s29, .ref m30, .int s31, .int s32, .int s33, .int s34, .int s35, .ref m36, .ref m37, .ref m38, .ref m39, .long s40])), (m14, ai g 6 L)]) [1, 0] (by decide) rfl
      exact k_rz hx hb hr hlocks hS hP9 hD9 rfl ⟨rfl, (fun _ => ⟨k1, hk1, rfl, n1, hn1, en1, isI_of (by omega) c23_8⟩)⟩ dX9_isPlace_31
def po_X9_blank_g (g : GG) (k0 : Nat) (m0 : Nat) (s1 : Int32) (s2 : Int32) (s3 : Int32) (s4 : Int32) (s5 : Int32) (s6 : Int32) (m7 : Nat) (m8 : Nat) (m9 : Nat) (s10 : Int32) (s11 : Int32) (s12 : Int32) (m13 : Nat) (m14 : Nat) (m15 : Nat) (s16 : Int32) (m17 : Nat) (m18 : Nat) (m19 : Nat) (m20 : Nat) (m21 : Nat) (m22 : Nat) (m23 : Nat) (m24 : Nat) (m25 : Nat) (m26 : Nat) (m27 : Nat) (m28 : Nat) (s29 : Int32) (m30 : Nat) (s31 : Int32) (s32 : Int32) (s33 : Int32) (s34 : Int32) (s35 : Int32) (m36 : Nat) (m37 : Nat) (m38 : Nat) (m39 : Nat) (s40 : Int64) : Int32 → va_W → Prop := fun (r : Int32) w => w = [(k0, .inr (9, [.ref m0, .int 0, .int s2, .int s3, .int s4, .int s5, .int s6, .ref m7, .ref m8, .ref m9, .int s10, .int s11, .int s12, .ref m13, .ref m14, .ref m15, .int s16, .ref m17, .ref m18, .ref m19, .ref m20, .ref m21, .ref m22, .ref m23, .ref m24, .ref m25, .ref m26, .ref m27, .ref m28, .int s29, .ref m30, .int s31, .int s32, .int s33, .int s34, .int s35, .ref m36, .ref m37, .ref m38, .ref m39, .long s40]))] ∧ (s1 = r)
theorem q_X9_blank_g_f9 : ∀ w ∈ u_ws RX9 TX9 41, w ∈ wsX9_blank := by decide +kernel
theorem q_X9_blank_g_1 : (Cond.fieldLink RX9 92 "SoundLawsModel" "pageMany" "I") ∈ wsX9_blank := by decide +kernel
set_option maxHeartbeats 1500000 in
set_option maxRecDepth 100000 in
theorem c_X9_blank_g (l : Launch) (g : GG) (k0 : Nat) (m0 : Nat) (s1 : Int32) (s2 : Int32) (s3 : Int32) (s4 : Int32) (s5 : Int32) (s6 : Int32) (m7 : Nat) (m8 : Nat) (m9 : Nat) (s10 : Int32) (s11 : Int32) (s12 : Int32) (m13 : Nat) (m14 : Nat) (m15 : Nat) (s16 : Int32) (m17 : Nat) (m18 : Nat) (m19 : Nat) (m20 : Nat) (m21 : Nat) (m22 : Nat) (m23 : Nat) (m24 : Nat) (m25 : Nat) (m26 : Nat) (m27 : Nat) (m28 : Nat) (s29 : Int32) (m30 : Nat) (s31 : Int32) (s32 : Int32) (s33 : Int32) (s34 : Int32) (s35 : Int32) (m36 : Nat) (m37 : Nat) (m38 : Nat) (m39 : Nat) (s40 : Int64)  (sz : Nat) : MetI l yX9_blank wsX9_blank ({ frames := 0, cells := 0, slots := 0, locals := 0 }) g [.ref k0] [(k0, .inr (9, [.ref m0, .int s1, .int s2, .int s3, .int s4, .int s5, .int s6, .ref m7, .ref m8, .ref m9, .int s10, .int s11, .int s12, .ref m13, .ref m14, .ref m15, .int s16, .ref m17, .ref m18, .ref m19, .ref m20, .ref m21, .ref m22, .ref m23, .ref m24, .ref m25, .ref m26, .ref m27, .ref m28, .int s29, .ref m30, .int s31, .int s32, .int s33, .int s34, .int s35, .ref m36, .ref m37, .ref m38, .ref m39, .long s40]))] sz (po_X9_blank_g g k0 m0 s1 s2 s3 s4 s5 s6 m7 m8 m9 s10 s11 s12 m13 m14 m15 s16 m17 m18 m19 m20 m21 m22 m23 m24 m25 m26 m27 m28 s29 m30 s31 s32 s33 s34 s35 m36 m37 m38 m39 s40) 0 0 := by
  refine k_of (l := l) (y := yX9_blank) (ws := wsX9_blank) (rm := { frames := 0, cells := 0, slots := 0, locals := 0 }) (mc := 0) (ms := 0) (av := [.ref k0]) (g := g) (wc := [(k0, .inr (9, [.ref m0, .int s1, .int s2, .int s3, .int s4, .int s5, .int s6, .ref m7, .ref m8, .ref m9, .int s10, .int s11, .int s12, .ref m13, .ref m14, .ref m15, .int s16, .ref m17, .ref m18, .ref m19, .ref m20, .ref m21, .ref m22, .ref m23, .ref m24, .ref m25, .ref m26, .ref m27, .ref m28, .int s29, .ref m30, .int s31, .int s32, .int s33, .int s34, .int s35, .ref m36, .ref m37, .ref m38, .ref m39, .long s40]))]) (Qc := fun A => va_Qi (po_X9_blank_g g k0 m0 s1 s2 s3 s4 s5 s6 m7 m8 m9 s10 s11 s12 m13 m14 m15 s16 m17 m18 m19 m20 m21 m22 m23 m24 m25 m26 m27 m28 s29 m30 s31 s32 s33 s34 s35 m36 m37 m38 m39 s40) (bk g A) A) (cc := cX9_blank) (maxL := 2) (ret := (some .int)) (by decide) rfl (Nat.le_of_ble_eq_true rfl) ?_ sz
  intro p e s m below meth c hx hb hr hts hown hlocks hnm hml A hA hE hZ hP hD hS ls hl
  have hown : s.vm.findClass RX9 = some m.cls := hown
  have hl : lv_has ls 2 [(0, .ref k0)] := hl
  refine lv_aload_n hx hb dX9_blank_0 rfl (lv_at hl 0 rfl) ?_
  refine va_get (D := g.1) (ci := 9) (v := .int s1) (C := RX9) (T := TX9) (N := 41) hx hb hts q_X9_blank_g_f9 hown hE.1 hP 0 rfl rfl 1 (by decide) (hts (.fieldLink RX9 92 "SoundLawsModel" "pageMany" "I") q_X9_blank_g_1) (fun _ h9 => h9) rfl dX9_blank_1 ?_
  refine lv_istore_n (lv' := [(1, .int s1), (0, .ref k0)]) hx hb dX9_blank_4 rfl hl (by decide) rfl (fun ls hl => ?_)
  refine lv_aload_n hx hb dX9_blank_5 rfl (lv_at hl 1 rfl) ?_
  refine lv_iconst (v := 0) hx hb dX9_blank_6 (by decide) ?_
  refine va_put (D := g.1) (ci := 9) (v := .int 0) (ty := .int) (C := RX9) (T := TX9) (N := 41) hx hb hts q_X9_blank_g_f9 tyX9 tyX9_ok nmX9 hown hE.1 hP hD hS 0 rfl rfl 1 (by decide) (hts (.fieldLink RX9 92 "SoundLawsModel" "pageMany" "I") q_X9_blank_g_1) (fun _ h9 => h9) rfl (by decide +kernel) rfl rfl (Nat.le_of_ble_eq_true rfl) dX9_blank_7 (fun H locs hP hD hS => ?_)
  have hP : va_P g.1 vwCl [(k0, .inr (9, [.ref m0, .int 0, .int s2, .int s3, .int s4, .int s5, .int s6, .ref m7, .ref m8, .ref m9, .int s10, .int s11, .int s12, .ref m13, .ref m14, .ref m15, .int s16, .ref m17, .ref m18, .ref m19, .ref m20, .ref m21, .ref m22, .ref m23, .ref m24, .ref m25, .ref m26, .ref m27, .ref m28, .int s29, .ref m30, .int s31, .int s32, .int s33, .int s34, .int s35, .ref m36, .ref m37, .ref m38, .ref m39, .long s40]))] H := hP
  have hD : va_D A [(k0, .inr (9, [.ref m0, .int 0, .int s2, .int s3, .int s4, .int s5, .int s6, .ref m7, .ref m8, .ref m9, .int s10, .int s11, .int s12, .ref m13, .ref m14, .ref m15, .int s16, .ref m17, .ref m18, .ref m19, .ref m20, .ref m21, .ref m22, .ref m23, .ref m24, .ref m25, .ref m26, .ref m27, .ref m28, .int s29, .ref m30, .int s31, .int s32, .int s33, .int s34, .int s35, .ref m36, .ref m37, .ref m38, .ref m39, .long s40]))] := hD
  refine lv_iload_n hx hb dX9_blank_10 rfl (lv_at hl 0 rfl) ?_
  refine W.widen (k := 0) (n := 0) (Nat.le_of_ble_eq_true rfl) (Nat.le_of_ble_eq_true rfl) ?_
  exact k_ri hx hb hr hlocks hS hP hD ⟨rfl, rfl⟩ dX9_blank_11
def po_X9_forget_g (g : GG) (k0 : Nat) (m0 : Nat) (s1 : Int32) (s2 : Int32) (s3 : Int32) (s4 : Int32) (s5 : Int32) (s6 : Int32) (m7 : Nat) (m8 : Nat) (m9 : Nat) (s10 : Int32) (s11 : Int32) (s12 : Int32) (m13 : Nat) (m14 : Nat) (m15 : Nat) (s16 : Int32) (m17 : Nat) (m18 : Nat) (m19 : Nat) (m20 : Nat) (m21 : Nat) (m22 : Nat) (m23 : Nat) (m24 : Nat) (m25 : Nat) (m26 : Nat) (m27 : Nat) (m28 : Nat) (s29 : Int32) (m30 : Nat) (s31 : Int32) (s32 : Int32) (s33 : Int32) (s34 : Int32) (s35 : Int32) (m36 : Nat) (m37 : Nat) (m38 : Nat) (m39 : Nat) (s40 : Int64) : Int32 → va_W → Prop := fun (r : Int32) w => w = [(k0, .inr (9, [.ref m0, .int s1, .int s2, .int s3, .int s4, .int s5, .int s6, .ref m7, .ref m8, .ref m9, .int s10, .int s11, .int s12, .ref m13, .ref m14, .ref m15, .int s16, .ref m17, .ref m18, .ref m19, .ref m20, .ref m21, .ref m22, .ref m23, .ref m24, .ref m25, .ref m26, .ref m27, .ref m28, .int 0, .ref m30, .int s31, .int s32, .int s33, .int s34, .int s35, .ref m36, .ref m37, .ref m38, .ref m39, .long s40]))] ∧ (s29 = r)
theorem q_X9_forget_g_f9 : ∀ w ∈ u_ws RX9 TX9 41, w ∈ wsX9_forget := by decide +kernel
theorem q_X9_forget_g_1 : (Cond.fieldLink RX9 157 "SoundLawsModel" "seenMany" "I") ∈ wsX9_forget := by decide +kernel
set_option maxHeartbeats 1500000 in
set_option maxRecDepth 100000 in
theorem c_X9_forget_g (l : Launch) (g : GG) (k0 : Nat) (m0 : Nat) (s1 : Int32) (s2 : Int32) (s3 : Int32) (s4 : Int32) (s5 : Int32) (s6 : Int32) (m7 : Nat) (m8 : Nat) (m9 : Nat) (s10 : Int32) (s11 : Int32) (s12 : Int32) (m13 : Nat) (m14 : Nat) (m15 : Nat) (s16 : Int32) (m17 : Nat) (m18 : Nat) (m19 : Nat) (m20 : Nat) (m21 : Nat) (m22 : Nat) (m23 : Nat) (m24 : Nat) (m25 : Nat) (m26 : Nat) (m27 : Nat) (m28 : Nat) (s29 : Int32) (m30 : Nat) (s31 : Int32) (s32 : Int32) (s33 : Int32) (s34 : Int32) (s35 : Int32) (m36 : Nat) (m37 : Nat) (m38 : Nat) (m39 : Nat) (s40 : Int64)  (sz : Nat) : MetI l yX9_forget wsX9_forget ({ frames := 0, cells := 0, slots := 0, locals := 0 }) g [.ref k0] [(k0, .inr (9, [.ref m0, .int s1, .int s2, .int s3, .int s4, .int s5, .int s6, .ref m7, .ref m8, .ref m9, .int s10, .int s11, .int s12, .ref m13, .ref m14, .ref m15, .int s16, .ref m17, .ref m18, .ref m19, .ref m20, .ref m21, .ref m22, .ref m23, .ref m24, .ref m25, .ref m26, .ref m27, .ref m28, .int s29, .ref m30, .int s31, .int s32, .int s33, .int s34, .int s35, .ref m36, .ref m37, .ref m38, .ref m39, .long s40]))] sz (po_X9_forget_g g k0 m0 s1 s2 s3 s4 s5 s6 m7 m8 m9 s10 s11 s12 m13 m14 m15 s16 m17 m18 m19 m20 m21 m22 m23 m24 m25 m26 m27 m28 s29 m30 s31 s32 s33 s34 s35 m36 m37 m38 m39 s40) 0 0 := by
  refine k_of (l := l) (y := yX9_forget) (ws := wsX9_forget) (rm := { frames := 0, cells := 0, slots := 0, locals := 0 }) (mc := 0) (ms := 0) (av := [.ref k0]) (g := g) (wc := [(k0, .inr (9, [.ref m0, .int s1, .int s2, .int s3, .int s4, .int s5, .int s6, .ref m7, .ref m8, .ref m9, .int s10, .int s11, .int s12, .ref m13, .ref m14, .ref m15, .int s16, .ref m17, .ref m18, .ref m19, .ref m20, .ref m21, .ref m22, .ref m23, .ref m24, .ref m25, .ref m26, .ref m27, .ref m28, .int s29, .ref m30, .int s31, .int s32, .int s33, .int s34, .int s35, .ref m36, .ref m37, .ref m38, .ref m39, .long s40]))]) (Qc := fun A => va_Qi (po_X9_forget_g g k0 m0 s1 s2 s3 s4 s5 s6 m7 m8 m9 s10 s11 s12 m13 m14 m15 s16 m17 m18 m19 m20 m21 m22 m23 m24 m25 m26 m27 m28 s29 m30 s31 s32 s33 s34 s35 m36 m37 m38 m39 s40) (bk g A) A) (cc := cX9_forget) (maxL := 2) (ret := (some .int)) (by decide) rfl (Nat.le_of_ble_eq_true rfl) ?_ sz
  intro p e s m below meth c hx hb hr hts hown hlocks hnm hml A hA hE hZ hP hD hS ls hl
  have hown : s.vm.findClass RX9 = some m.cls := hown
  have hl : lv_has ls 2 [(0, .ref k0)] := hl
  refine lv_aload_n hx hb dX9_forget_0 rfl (lv_at hl 0 rfl) ?_
  refine va_get (D := g.1) (ci := 9) (v := .int s29) (C := RX9) (T := TX9) (N := 41) hx hb hts q_X9_forget_g_f9 hown hE.1 hP 0 rfl rfl 29 (by decide) (hts (.fieldLink RX9 157 "SoundLawsModel" "seenMany" "I") q_X9_forget_g_1) (fun _ h9 => h9) rfl dX9_forget_1 ?_
  refine lv_istore_n (lv' := [(1, .int s29), (0, .ref k0)]) hx hb dX9_forget_4 rfl hl (by decide) rfl (fun ls hl => ?_)
  refine lv_aload_n hx hb dX9_forget_5 rfl (lv_at hl 1 rfl) ?_
  refine lv_iconst (v := 0) hx hb dX9_forget_6 (by decide) ?_
  refine va_put (D := g.1) (ci := 9) (v := .int 0) (ty := .int) (C := RX9) (T := TX9) (N := 41) hx hb hts q_X9_forget_g_f9 tyX9 tyX9_ok nmX9 hown hE.1 hP hD hS 0 rfl rfl 29 (by decide) (hts (.fieldLink RX9 157 "SoundLawsModel" "seenMany" "I") q_X9_forget_g_1) (fun _ h9 => h9) rfl (by decide +kernel) rfl rfl (Nat.le_of_ble_eq_true rfl) dX9_forget_7 (fun H locs hP hD hS => ?_)
  have hP : va_P g.1 vwCl [(k0, .inr (9, [.ref m0, .int s1, .int s2, .int s3, .int s4, .int s5, .int s6, .ref m7, .ref m8, .ref m9, .int s10, .int s11, .int s12, .ref m13, .ref m14, .ref m15, .int s16, .ref m17, .ref m18, .ref m19, .ref m20, .ref m21, .ref m22, .ref m23, .ref m24, .ref m25, .ref m26, .ref m27, .ref m28, .int 0, .ref m30, .int s31, .int s32, .int s33, .int s34, .int s35, .ref m36, .ref m37, .ref m38, .ref m39, .long s40]))] H := hP
  have hD : va_D A [(k0, .inr (9, [.ref m0, .int s1, .int s2, .int s3, .int s4, .int s5, .int s6, .ref m7, .ref m8, .ref m9, .int s10, .int s11, .int s12, .ref m13, .ref m14, .ref m15, .int s16, .ref m17, .ref m18, .ref m19, .ref m20, .ref m21, .ref m22, .ref m23, .ref m24, .ref m25, .ref m26, .ref m27, .ref m28, .int 0, .ref m30, .int s31, .int s32, .int s33, .int s34, .int s35, .ref m36, .ref m37, .ref m38, .ref m39, .long s40]))] := hD
  refine lv_iload_n hx hb dX9_forget_10 rfl (lv_at hl 0 rfl) ?_
  refine W.widen (k := 0) (n := 0) (Nat.le_of_ble_eq_true rfl) (Nat.le_of_ble_eq_true rfl) ?_
  exact k_ri hx hb hr hlocks hS hP hD ⟨rfl, rfl⟩ dX9_forget_11
def po_X9_nodesBy_g (g : GG) (k0 : Nat) (t : Nat) : Int32 → va_W → Prop := fun (r : Int32) w => w = [] ∧ (nI (2 * t - 1) = r)
set_option maxHeartbeats 1500000 in
set_option maxRecDepth 100000 in
theorem c_X9_nodesBy_g (l : Launch) (g : GG) (k0 : Nat) (t : Nat) (ht : 1 ≤ t) (ht4 : t ≤ 4) (sz : Nat) : MetI l yX9_nodesBy wsX9_nodesBy ({ frames := 0, cells := 0, slots := 0, locals := 0 }) g [.ref k0, .int (nI t)] [] sz (po_X9_nodesBy_g g k0 t) 0 0 := by
  refine k_of (l := l) (y := yX9_nodesBy) (ws := wsX9_nodesBy) (rm := { frames := 0, cells := 0, slots := 0, locals := 0 }) (mc := 0) (ms := 0) (av := [.ref k0, .int (nI t)]) (g := g) (wc := []) (Qc := fun A => va_Qi (po_X9_nodesBy_g g k0 t) (bk g A) A) (cc := cX9_nodesBy) (maxL := 2) (ret := (some .int)) (by decide) rfl (Nat.le_of_ble_eq_true rfl) ?_ sz
  intro p e s m below meth c hx hb hr hts hown hlocks hnm hml A hA hE hZ hP hD hS ls hl
  have hown : s.vm.findClass RX9 = some m.cls := hown
  have hl : lv_has ls 2 [(0, .ref k0), (1, .int (nI t))] := hl
  refine lv_iconst (v := 2) hx hb dX9_nodesBy_0 (by decide) ?_
  refine lv_iload_n hx hb dX9_nodesBy_1 rfl (lv_at hl 1 rfl) ?_
  refine lv_imul hx hb dX9_nodesBy_2 ?_
  refine lv_iconst (v := 1) hx hb dX9_nodesBy_3 (by decide) ?_
  refine lv_isub hx hb dX9_nodesBy_4 ?_
  refine lv_topi (fun x_1 ex_1 => ?_)
  obtain rfl : x_1 = nI (2 * t - 1) := by rw [ex_1]; rw [show (2 : Int32) = nI 2 from rfl, pk_mul, show (1 : Int32) = nI 1 from rfl, pk_sub (by omega)]
  refine W.widen (k := 0) (n := 0) (Nat.le_of_ble_eq_true rfl) (Nat.le_of_ble_eq_true rfl) ?_
  exact k_ri hx hb hr hlocks hS hP hD ⟨rfl, rfl⟩ dX9_nodesBy_5
def po_X9_note_g (g : GG) (k0 : Nat) (m0 : Nat) (s1 : Int32) (s2 : Int32) (s3 : Int32) (s4 : Int32) (s5 : Int32) (s6 : Int32) (m7 : Nat) (m8 : Nat) (m9 : Nat) (s10 : Int32) (s11 : Int32) (s12 : Int32) (m13 : Nat) (m14 : Nat) (m15 : Nat) (s16 : Int32) (m17 : Nat) (m18 : Nat) (m19 : Nat) (m20 : Nat) (m21 : Nat) (m22 : Nat) (m23 : Nat) (m24 : Nat) (m25 : Nat) (m26 : Nat) (m27 : Nat) (m28 : Nat) (s29 : Int32) (m30 : Nat) (s31 : Int32) (s32 : Int32) (s33 : Int32) (s34 : Int32) (s35 : Int32) (m36 : Nat) (m37 : Nat) (m38 : Nat) (m39 : Nat) (s40 : Int64) (v : Int64) : va_W → Prop := fun w => ∃ (h40 : Int64), w = [(k0, .inr (9, [.ref m0, .int s1, .int s2, .int s3, .int s4, .int s5, .int s6, .ref m7, .ref m8, .ref m9, .int s10, .int s11, .int s12, .ref m13, .ref m14, .ref m15, .int s16, .ref m17, .ref m18, .ref m19, .ref m20, .ref m21, .ref m22, .ref m23, .ref m24, .ref m25, .ref m26, .ref m27, .ref m28, .int s29, .ref m30, .int s31, .int s32, .int s33, .int s34, .int s35, .ref m36, .ref m37, .ref m38, .ref m39, .long h40]))]
theorem q_X9_note_g_0 : (Cond.constantLong RX9 321 (31)) ∈ wsX9_note := by decide +kernel
theorem q_X9_note_g_f9 : ∀ w ∈ u_ws RX9 TX9 41, w ∈ wsX9_note := by decide +kernel
theorem q_X9_note_g_2 : (Cond.fieldLink RX9 323 "SoundLawsModel" "hash" "J") ∈ wsX9_note := by decide +kernel
set_option maxHeartbeats 1500000 in
set_option maxRecDepth 100000 in
theorem c_X9_note_g (l : Launch) (g : GG) (k0 : Nat) (m0 : Nat) (s1 : Int32) (s2 : Int32) (s3 : Int32) (s4 : Int32) (s5 : Int32) (s6 : Int32) (m7 : Nat) (m8 : Nat) (m9 : Nat) (s10 : Int32) (s11 : Int32) (s12 : Int32) (m13 : Nat) (m14 : Nat) (m15 : Nat) (s16 : Int32) (m17 : Nat) (m18 : Nat) (m19 : Nat) (m20 : Nat) (m21 : Nat) (m22 : Nat) (m23 : Nat) (m24 : Nat) (m25 : Nat) (m26 : Nat) (m27 : Nat) (m28 : Nat) (s29 : Int32) (m30 : Nat) (s31 : Int32) (s32 : Int32) (s33 : Int32) (s34 : Int32) (s35 : Int32) (m36 : Nat) (m37 : Nat) (m38 : Nat) (m39 : Nat) (s40 : Int64) (v : Int64)  (sz : Nat) : MetV l yX9_note wsX9_note ({ frames := 0, cells := 0, slots := 0, locals := 0 }) g [.ref k0, .long v] [(k0, .inr (9, [.ref m0, .int s1, .int s2, .int s3, .int s4, .int s5, .int s6, .ref m7, .ref m8, .ref m9, .int s10, .int s11, .int s12, .ref m13, .ref m14, .ref m15, .int s16, .ref m17, .ref m18, .ref m19, .ref m20, .ref m21, .ref m22, .ref m23, .ref m24, .ref m25, .ref m26, .ref m27, .ref m28, .int s29, .ref m30, .int s31, .int s32, .int s33, .int s34, .int s35, .ref m36, .ref m37, .ref m38, .ref m39, .long s40]))] sz (po_X9_note_g g k0 m0 s1 s2 s3 s4 s5 s6 m7 m8 m9 s10 s11 s12 m13 m14 m15 s16 m17 m18 m19 m20 m21 m22 m23 m24 m25 m26 m27 m28 s29 m30 s31 s32 s33 s34 s35 m36 m37 m38 m39 s40 v) 0 0 := by
  refine k_of (l := l) (y := yX9_note) (ws := wsX9_note) (rm := { frames := 0, cells := 0, slots := 0, locals := 0 }) (mc := 0) (ms := 0) (av := [.ref k0, .long v]) (g := g) (wc := [(k0, .inr (9, [.ref m0, .int s1, .int s2, .int s3, .int s4, .int s5, .int s6, .ref m7, .ref m8, .ref m9, .int s10, .int s11, .int s12, .ref m13, .ref m14, .ref m15, .int s16, .ref m17, .ref m18, .ref m19, .ref m20, .ref m21, .ref m22, .ref m23, .ref m24, .ref m25, .ref m26, .ref m27, .ref m28, .int s29, .ref m30, .int s31, .int s32, .int s33, .int s34, .int s35, .ref m36, .ref m37, .ref m38, .ref m39, .long s40]))]) (Qc := fun A => va_Qv (po_X9_note_g g k0 m0 s1 s2 s3 s4 s5 s6 m7 m8 m9 s10 s11 s12 m13 m14 m15 s16 m17 m18 m19 m20 m21 m22 m23 m24 m25 m26 m27 m28 s29 m30 s31 s32 s33 s34 s35 m36 m37 m38 m39 s40 v) (bk g A) A) (cc := cX9_note) (maxL := 3) (ret := none) (by decide) rfl (Nat.le_of_ble_eq_true rfl) ?_ sz
  intro p e s m below meth c hx hb hr hts hown hlocks hnm hml A hA hE hZ hP hD hS ls hl
  have hown : s.vm.findClass RX9 = some m.cls := hown
  have hl : lv_has ls 3 [(0, .ref k0), (1, .long v)] := hl
  refine lv_aload_n hx hb dX9_note_0 rfl (lv_at hl 0 rfl) ?_
  refine lv_ldc2 hx hb hown (hts (.constantLong RX9 321 (31)) q_X9_note_g_0) dX9_note_1 ?_
  refine lv_aload_n hx hb dX9_note_4 rfl (lv_at hl 0 rfl) ?_
  refine va_get (D := g.1) (ci := 9) (v := .long s40) (C := RX9) (T := TX9) (N := 41) hx hb hts q_X9_note_g_f9 hown hE.1 hP 0 rfl rfl 40 (by decide) (hts (.fieldLink RX9 323 "SoundLawsModel" "hash" "J") q_X9_note_g_2) (fun _ h9 => h9) rfl dX9_note_5 ?_
  refine lv_lmul hx hb dX9_note_8 ?_
  refine lv_lload_n hx hb dX9_note_9 rfl (lv_at hl 1 rfl) ?_
  refine lv_ladd hx hb dX9_note_10 ?_
  refine lv_topl (fun x_1 ex_1 => ?_)
  refine va_put (D := g.1) (ci := 9) (v := .long x_1) (ty := .long) (C := RX9) (T := TX9) (N := 41) hx hb hts q_X9_note_g_f9 tyX9 tyX9_ok nmX9 hown hE.1 hP hD hS 0 rfl rfl 40 (by decide) (hts (.fieldLink RX9 323 "SoundLawsModel" "hash" "J") q_X9_note_g_2) (fun _ h9 => h9) rfl (by decide +kernel) rfl rfl (Nat.le_of_ble_eq_true rfl) dX9_note_11 (fun H locs hP hD hS => ?_)
  have hP : va_P g.1 vwCl [(k0, .inr (9, [.ref m0, .int s1, .int s2, .int s3, .int s4, .int s5, .int s6, .ref m7, .ref m8, .ref m9, .int s10, .int s11, .int s12, .ref m13, .ref m14, .ref m15, .int s16, .ref m17, .ref m18, .ref m19, .ref m20, .ref m21, .ref m22, .ref m23, .ref m24, .ref m25, .ref m26, .ref m27, .ref m28, .int s29, .ref m30, .int s31, .int s32, .int s33, .int s34, .int s35, .ref m36, .ref m37, .ref m38, .ref m39, .long x_1]))] H := hP
  have hD : va_D A [(k0, .inr (9, [.ref m0, .int s1, .int s2, .int s3, .int s4, .int s5, .int s6, .ref m7, .ref m8, .ref m9, .int s10, .int s11, .int s12, .ref m13, .ref m14, .ref m15, .int s16, .ref m17, .ref m18, .ref m19, .ref m20, .ref m21, .ref m22, .ref m23, .ref m24, .ref m25, .ref m26, .ref m27, .ref m28, .int s29, .ref m30, .int s31, .int s32, .int s33, .int s34, .int s35, .ref m36, .ref m37, .ref m38, .ref m39, .long x_1]))] := hD
  refine W.widen (k := 0) (n := 0) (Nat.le_of_ble_eq_true rfl) (Nat.le_of_ble_eq_true rfl) ?_
  exact k_rv hx hb hr hlocks hS hP hD ⟨x_1, rfl⟩ dX9_note_14
def po_X9_copyRow_6 (g : GG) (v0 : Nat) (w0 : Nat) (V : Nat → Int32) (M : Nat → Int32) : va_W → Prop := fun w => ∃ (M2 : Nat → Int32), w = [(v0, ai g 6 V), (w0, ai g 6 M2)] ∧ (∀ i, i < 6 → M2 i = V i)
set_option maxHeartbeats 1500000 in
set_option maxRecDepth 100000 in
theorem c_X9_copyRow_6 (l : Launch) (g : GG) (v0 : Nat) (w0 : Nat) (V : Nat → Int32) (M : Nat → Int32)  (sz : Nat) : MetV l yX9_copyRow wsX9_copyRow ({ frames := 0, cells := 0, slots := 0, locals := 0 }) g [.ref v0, .ref w0] [(v0, ai g 6 V), (w0, ai g 6 M)] sz (po_X9_copyRow_6 g v0 w0 V M) 0 0 := by
  refine k_of (l := l) (y := yX9_copyRow) (ws := wsX9_copyRow) (rm := { frames := 0, cells := 0, slots := 0, locals := 0 }) (mc := 0) (ms := 0) (av := [.ref v0, .ref w0]) (g := g) (wc := [(v0, ai g 6 V), (w0, ai g 6 M)]) (Qc := fun A => va_Qv (po_X9_copyRow_6 g v0 w0 V M) (bk g A) A) (cc := cX9_copyRow) (maxL := 3) (ret := none) (by decide) rfl (Nat.le_of_ble_eq_true rfl) ?_ sz
  intro p e s m below meth c hx hb hr hts hown hlocks hnm hml A hA hE hZ hP hD hS ls hl
  have hown : s.vm.findClass RX9 = some m.cls := hown
  have hl : lv_has ls 3 [(0, .ref v0), (1, .ref w0)] := hl
  refine lv_iconst (v := 0) hx hb dX9_copyRow_0 (by decide) ?_
  refine lv_istore_n (lv' := [(2, .int 0), (0, .ref v0), (1, .ref w0)]) hx hb dX9_copyRow_1 rfl hl (by decide) rfl (fun ls hl => ?_)
  have loop2 : ∀ (fu : Nat) (j : Nat) (M2 : Nat → Int32), (hj : j ≤ 6) → (hM : ∀ i, i < j → M2 i = V i) → 6 - j < fu → ∀ (H : Heap) (locs : List Loc) (ls : Array Slot), va_P g.1 vwCl [(v0, ai g 6 V), (w0, ai g 6 M2)] H → va_D A [(v0, ai g 6 V), (w0, ai g 6 M2)] → va_S A s.heap H locs → lv_has ls 3 [(0, .ref v0), (1, .ref w0), (2, .int (nI j))] → W p l e ({ frames := 0, cells := 0, slots := 0, locals := 0 }) s m [.ref v0, .ref w0].toArray below meth c H locs 0 0 (MQ below (va_Qv (po_X9_copyRow_6 g v0 w0 V M) (bk g A) A) [.ref v0, .ref w0].toArray s 0 0 A) (F0 m 2 ls []) := by
    intro fu
    induction fu with
    | zero => intro j M2 hj hM hfu; exact absurd hfu (Nat.not_lt_zero _)
    | succ fu ih =>
      intro j M2 hj hM hfu H locs ls hP hD hS hl
      have ih2 := ih
      refine lv_iload_n hx hb dX9_copyRow_2 rfl (lv_at hl 2 rfl) ?_
      refine lv_aload_n hx hb dX9_copyRow_3 rfl (lv_at hl 0 rfl) ?_
      refine va_alen (D := g.1) (v := 6) hx hb hE.1 hP 0 0 rfl rfl rfl dX9_copyRow_4 ?_
      refine lv_icmp_ge (tgt := 20) hx hb dX9_copyRow_5 (by decide) (fun c5_1 => ?_) (fun c5_1 => ?_)
      · skip
        have hj9 := ge_of_le (k := 6) (n := j) (by decide) (by omega) c5_1
        refine W.widen (k := 0) (n := 0) (Nat.le_of_ble_eq_true rfl) (Nat.le_of_ble_eq_true rfl) ?_
        exact k_rv hx hb hr hlocks hS hP hD ⟨M2, rfl, (fun i hi => hM i (by omega))⟩ dX9_copyRow_20
      · skip
        have hj9 := lt_of_nle (k := 6) (n := j) (by decide) (by omega) c5_1
        refine lv_aload_n hx hb dX9_copyRow_8 rfl (lv_at hl 1 rfl) ?_
        refine lv_iload_n hx hb dX9_copyRow_9 rfl (lv_at hl 2 rfl) ?_
        refine lv_aload_n hx hb dX9_copyRow_10 rfl (lv_at hl 0 rfl) ?_
        refine lv_iload_n hx hb dX9_copyRow_11 rfl (lv_at hl 2 rfl) ?_
        refine k_ald j rfl (by omega) hx hb hE hP 0 rfl (by decide) dX9_copyRow_12 ?_
        refine k_ast (x := (V j)) j rfl (by omega) hx hb hE hP hD hS 1 rfl (by decide) dX9_copyRow_13 (fun H locs hP hD hS => ?_)
        have hP : va_P g.1 vwCl [(v0, ai g 6 V), (w0, ai g 6 (upd M2 j (V j)))] H := hP
        have hD : va_D A [(v0, ai g 6 V), (w0, ai g 6 (upd M2 j (V j)))] := hD
        refine lv_iinc (v := (nI (j + 1))) (lv' := [(2, .int (nI (j + 1))), (0, .ref v0), (1, .ref w0)]) hx hb dX9_copyRow_14 hl (k := 2) rfl (nI_1 _) (by decide) rfl (fun ls hl => ?_)
        refine lv_goto (tgt := 2) hx hb dX9_copyRow_17 (by decide) ?_
        exact ih2 (j + 1) _ (by omega) (up_s hM rfl) (by omega) _ _ _ hP hD hS (lv_sub hl [1, 2, 0] rfl)
  exact loop2 _ 0 M (Nat.zero_le _) (fun i h => absurd h (Nat.not_lt_zero i)) (Nat.lt_succ_self _) _ _ _ hP hD hS (lv_sub hl [1, 2, 0] rfl)
def po_X9_copyRow_96 (g : GG) (v0 : Nat) (w0 : Nat) (V : Nat → Int32) (M : Nat → Int32) : va_W → Prop := fun w => ∃ (M2 : Nat → Int32), w = [(v0, ai g 96 V), (w0, ai g 96 M2)] ∧ (∀ i, i < 96 → M2 i = V i)
set_option maxHeartbeats 1500000 in
set_option maxRecDepth 100000 in
theorem c_X9_copyRow_96 (l : Launch) (g : GG) (v0 : Nat) (w0 : Nat) (V : Nat → Int32) (M : Nat → Int32)  (sz : Nat) : MetV l yX9_copyRow wsX9_copyRow ({ frames := 0, cells := 0, slots := 0, locals := 0 }) g [.ref v0, .ref w0] [(v0, ai g 96 V), (w0, ai g 96 M)] sz (po_X9_copyRow_96 g v0 w0 V M) 0 0 := by
  refine k_of (l := l) (y := yX9_copyRow) (ws := wsX9_copyRow) (rm := { frames := 0, cells := 0, slots := 0, locals := 0 }) (mc := 0) (ms := 0) (av := [.ref v0, .ref w0]) (g := g) (wc := [(v0, ai g 96 V), (w0, ai g 96 M)]) (Qc := fun A => va_Qv (po_X9_copyRow_96 g v0 w0 V M) (bk g A) A) (cc := cX9_copyRow) (maxL := 3) (ret := none) (by decide) rfl (Nat.le_of_ble_eq_true rfl) ?_ sz
  intro p e s m below meth c hx hb hr hts hown hlocks hnm hml A hA hE hZ hP hD hS ls hl
  have hown : s.vm.findClass RX9 = some m.cls := hown
  have hl : lv_has ls 3 [(0, .ref v0), (1, .ref w0)] := hl
  refine lv_iconst (v := 0) hx hb dX9_copyRow_0 (by decide) ?_
  refine lv_istore_n (lv' := [(2, .int 0), (0, .ref v0), (1, .ref w0)]) hx hb dX9_copyRow_1 rfl hl (by decide) rfl (fun ls hl => ?_)
  have loop2 : ∀ (fu : Nat) (j : Nat) (M2 : Nat → Int32), (hj : j ≤ 96) → (hM : ∀ i, i < j → M2 i = V i) → 96 - j < fu → ∀ (H : Heap) (locs : List Loc) (ls : Array Slot), va_P g.1 vwCl [(v0, ai g 96 V), (w0, ai g 96 M2)] H → va_D A [(v0, ai g 96 V), (w0, ai g 96 M2)] → va_S A s.heap H locs → lv_has ls 3 [(0, .ref v0), (1, .ref w0), (2, .int (nI j))] → W p l e ({ frames := 0, cells := 0, slots := 0, locals := 0 }) s m [.ref v0, .ref w0].toArray below meth c H locs 0 0 (MQ below (va_Qv (po_X9_copyRow_96 g v0 w0 V M) (bk g A) A) [.ref v0, .ref w0].toArray s 0 0 A) (F0 m 2 ls []) := by
    intro fu
    induction fu with
    | zero => intro j M2 hj hM hfu; exact absurd hfu (Nat.not_lt_zero _)
    | succ fu ih =>
      intro j M2 hj hM hfu H locs ls hP hD hS hl
      have ih2 := ih
      refine lv_iload_n hx hb dX9_copyRow_2 rfl (lv_at hl 2 rfl) ?_
      refine lv_aload_n hx hb dX9_copyRow_3 rfl (lv_at hl 0 rfl) ?_
      refine va_alen (D := g.1) (v := 96) hx hb hE.1 hP 0 0 rfl rfl rfl dX9_copyRow_4 ?_
      refine lv_icmp_ge (tgt := 20) hx hb dX9_copyRow_5 (by decide) (fun c5_1 => ?_) (fun c5_1 => ?_)
      · skip
        have hj9 := ge_of_le (k := 96) (n := j) (by decide) (by omega) c5_1
        refine W.widen (k := 0) (n := 0) (Nat.le_of_ble_eq_true rfl) (Nat.le_of_ble_eq_true rfl) ?_
        exact k_rv hx hb hr hlocks hS hP hD ⟨M2, rfl, (fun i hi => hM i (by omega))⟩ dX9_copyRow_20
      · skip
        have hj9 := lt_of_nle (k := 96) (n := j) (by decide) (by omega) c5_1
        refine lv_aload_n hx hb dX9_copyRow_8 rfl (lv_at hl 1 rfl) ?_
        refine lv_iload_n hx hb dX9_copyRow_9 rfl (lv_at hl 2 rfl) ?_
        refine lv_aload_n hx hb dX9_copyRow_10 rfl (lv_at hl 0 rfl) ?_
        refine lv_iload_n hx hb dX9_copyRow_11 rfl (lv_at hl 2 rfl) ?_
        refine k_ald j rfl (by omega) hx hb hE hP 0 rfl (by decide) dX9_copyRow_12 ?_
        refine k_ast (x := (V j)) j rfl (by omega) hx hb hE hP hD hS 1 rfl (by decide) dX9_copyRow_13 (fun H locs hP hD hS => ?_)
        have hP : va_P g.1 vwCl [(v0, ai g 96 V), (w0, ai g 96 (upd M2 j (V j)))] H := hP
        have hD : va_D A [(v0, ai g 96 V), (w0, ai g 96 (upd M2 j (V j)))] := hD
        refine lv_iinc (v := (nI (j + 1))) (lv' := [(2, .int (nI (j + 1))), (0, .ref v0), (1, .ref w0)]) hx hb dX9_copyRow_14 hl (k := 2) rfl (nI_1 _) (by decide) rfl (fun ls hl => ?_)
        refine lv_goto (tgt := 2) hx hb dX9_copyRow_17 (by decide) ?_
        exact ih2 (j + 1) _ (by omega) (up_s hM rfl) (by omega) _ _ _ hP hD hS (lv_sub hl [1, 2, 0] rfl)
  exact loop2 _ 0 M (Nat.zero_le _) (fun i h => absurd h (Nat.not_lt_zero i)) (Nat.lt_succ_self _) _ _ _ hP hD hS (lv_sub hl [1, 2, 0] rfl)
def po_X9_copyRow_18 (g : GG) (v0 : Nat) (w0 : Nat) (V : Nat → Int32) (M : Nat → Int32) : va_W → Prop := fun w => ∃ (M2 : Nat → Int32), w = [(v0, ai g 18 V), (w0, ai g 18 M2)] ∧ (∀ i, i < 18 → M2 i = V i)
set_option maxHeartbeats 1500000 in
set_option maxRecDepth 100000 in
theorem c_X9_copyRow_18 (l : Launch) (g : GG) (v0 : Nat) (w0 : Nat) (V : Nat → Int32) (M : Nat → Int32)  (sz : Nat) : MetV l yX9_copyRow wsX9_copyRow ({ frames := 0, cells := 0, slots := 0, locals := 0 }) g [.ref v0, .ref w0] [(v0, ai g 18 V), (w0, ai g 18 M)] sz (po_X9_copyRow_18 g v0 w0 V M) 0 0 := by
  refine k_of (l := l) (y := yX9_copyRow) (ws := wsX9_copyRow) (rm := { frames := 0, cells := 0, slots := 0, locals := 0 }) (mc := 0) (ms := 0) (av := [.ref v0, .ref w0]) (g := g) (wc := [(v0, ai g 18 V), (w0, ai g 18 M)]) (Qc := fun A => va_Qv (po_X9_copyRow_18 g v0 w0 V M) (bk g A) A) (cc := cX9_copyRow) (maxL := 3) (ret := none) (by decide) rfl (Nat.le_of_ble_eq_true rfl) ?_ sz
  intro p e s m below meth c hx hb hr hts hown hlocks hnm hml A hA hE hZ hP hD hS ls hl
  have hown : s.vm.findClass RX9 = some m.cls := hown
  have hl : lv_has ls 3 [(0, .ref v0), (1, .ref w0)] := hl
  refine lv_iconst (v := 0) hx hb dX9_copyRow_0 (by decide) ?_
  refine lv_istore_n (lv' := [(2, .int 0), (0, .ref v0), (1, .ref w0)]) hx hb dX9_copyRow_1 rfl hl (by decide) rfl (fun ls hl => ?_)
  have loop2 : ∀ (fu : Nat) (j : Nat) (M2 : Nat → Int32), (hj : j ≤ 18) → (hM : ∀ i, i < j → M2 i = V i) → 18 - j < fu → ∀ (H : Heap) (locs : List Loc) (ls : Array Slot), va_P g.1 vwCl [(v0, ai g 18 V), (w0, ai g 18 M2)] H → va_D A [(v0, ai g 18 V), (w0, ai g 18 M2)] → va_S A s.heap H locs → lv_has ls 3 [(0, .ref v0), (1, .ref w0), (2, .int (nI j))] → W p l e ({ frames := 0, cells := 0, slots := 0, locals := 0 }) s m [.ref v0, .ref w0].toArray below meth c H locs 0 0 (MQ below (va_Qv (po_X9_copyRow_18 g v0 w0 V M) (bk g A) A) [.ref v0, .ref w0].toArray s 0 0 A) (F0 m 2 ls []) := by
    intro fu
    induction fu with
    | zero => intro j M2 hj hM hfu; exact absurd hfu (Nat.not_lt_zero _)
    | succ fu ih =>
      intro j M2 hj hM hfu H locs ls hP hD hS hl
      have ih2 := ih
      refine lv_iload_n hx hb dX9_copyRow_2 rfl (lv_at hl 2 rfl) ?_
      refine lv_aload_n hx hb dX9_copyRow_3 rfl (lv_at hl 0 rfl) ?_
      refine va_alen (D := g.1) (v := 18) hx hb hE.1 hP 0 0 rfl rfl rfl dX9_copyRow_4 ?_
      refine lv_icmp_ge (tgt := 20) hx hb dX9_copyRow_5 (by decide) (fun c5_1 => ?_) (fun c5_1 => ?_)
      · skip
        have hj9 := ge_of_le (k := 18) (n := j) (by decide) (by omega) c5_1
        refine W.widen (k := 0) (n := 0) (Nat.le_of_ble_eq_true rfl) (Nat.le_of_ble_eq_true rfl) ?_
        exact k_rv hx hb hr hlocks hS hP hD ⟨M2, rfl, (fun i hi => hM i (by omega))⟩ dX9_copyRow_20
      · skip
        have hj9 := lt_of_nle (k := 18) (n := j) (by decide) (by omega) c5_1
        refine lv_aload_n hx hb dX9_copyRow_8 rfl (lv_at hl 1 rfl) ?_
        refine lv_iload_n hx hb dX9_copyRow_9 rfl (lv_at hl 2 rfl) ?_
        refine lv_aload_n hx hb dX9_copyRow_10 rfl (lv_at hl 0 rfl) ?_
        refine lv_iload_n hx hb dX9_copyRow_11 rfl (lv_at hl 2 rfl) ?_
        refine k_ald j rfl (by omega) hx hb hE hP 0 rfl (by decide) dX9_copyRow_12 ?_
        refine k_ast (x := (V j)) j rfl (by omega) hx hb hE hP hD hS 1 rfl (by decide) dX9_copyRow_13 (fun H locs hP hD hS => ?_)
        have hP : va_P g.1 vwCl [(v0, ai g 18 V), (w0, ai g 18 (upd M2 j (V j)))] H := hP
        have hD : va_D A [(v0, ai g 18 V), (w0, ai g 18 (upd M2 j (V j)))] := hD
        refine lv_iinc (v := (nI (j + 1))) (lv' := [(2, .int (nI (j + 1))), (0, .ref v0), (1, .ref w0)]) hx hb dX9_copyRow_14 hl (k := 2) rfl (nI_1 _) (by decide) rfl (fun ls hl => ?_)
        refine lv_goto (tgt := 2) hx hb dX9_copyRow_17 (by decide) ?_
        exact ih2 (j + 1) _ (by omega) (up_s hM rfl) (by omega) _ _ _ hP hD hS (lv_sub hl [1, 2, 0] rfl)
  exact loop2 _ 0 M (Nat.zero_le _) (fun i h => absurd h (Nat.not_lt_zero i)) (Nat.lt_succ_self _) _ _ _ hP hD hS (lv_sub hl [1, 2, 0] rfl)

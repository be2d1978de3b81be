def irb (x : Int32) : Int32 := if x = 2 ∨ x = 3 then 0 else 1
def FR (z t : Nat) (K L Rb : Nat → Int32) : Prop := ∀ k, k < z → ¬ irb (K k) = 0 → ∀ m, m < 5 → L k = nI m → ∀ n, n < m → ∃ v, v < 9 ∧ Rb (28 * k + 7 * n + (2 * t - 2)) = nI v
def FC (a q t : Nat) (K Rb : Nat → Int32) : Prop := ¬ irb (K a) = 0 → ∀ n, n < q → ∃ v, v < 9 ∧ Rb (28 * a + 7 * n + (2 * t - 2)) = nI v
theorem FR_upd {a t i : Nat} {K L Rb : Nat → Int32} {x : Int32} (ht4 : t ≤ 4) (h : FR a t K L Rb) (hi : 28 * a ≤ i) : FR a t K L (upd Rb i x) := fun k hk hr m hm hL n hn => by
  obtain ⟨v, hv, e⟩ := h k hk hr m hm hL n hn
  exact ⟨v, hv, by rw [pk_un (by omega)]; exact e⟩
theorem FC_upd {a q t i : Nat} {K Rb : Nat → Int32} {x : Int32} (ht4 : t ≤ 4) (h : FC a q t K Rb) (hi : 28 * a + 7 * q ≤ i) : FC a q t K (upd Rb i x) := fun hr n hn => by
  obtain ⟨v, hv, e⟩ := h hr n hn
  exact ⟨v, hv, by rw [pk_un (by omega)]; exact e⟩
theorem FC_s {a q t : Nat} {K Rb : Nat → Int32} (h : FC a q t K Rb) (h2 : ¬ irb (K a) = 0 → ∃ v, v < 9 ∧ Rb (28 * a + 7 * q + (2 * t - 2)) = nI v) : FC a (q + 1) t K Rb := fun hr n hn => by
  by_cases e : n = q
  · rw [e]; exact h2 hr
  · exact h hr n (by omega)
theorem FR_s {a t n : Nat} {K L Rb : Nat → Int32} (hn : n < 5) (eL : L a = nI n) (h : FR a t K L Rb) (hc : FC a n t K Rb) : FR (a + 1) t K L Rb := fun k hk hr m hm hL j hj => by
  by_cases e : k = a
  · subst e
    have hmn : m = n := (nI_eq (by omega) (by omega)).mp (hL.symm.trans eL)
    subst hmn
    exact hc hr j hj
  · exact h k (by omega) hr m hm hL j hj
theorem last_upd {a q t nd : Nat} {K Rb : Nat → Int32} {x : Int32} (ht : 2 ≤ t) (h : 2 * t - 2 < nd → ¬ irb (K a) = 0 → ∃ v, v < 9 ∧ Rb (28 * a + 7 * q + (2 * t - 2)) = nI v) (hx : nd = 2 * t - 2 → ¬ irb (K a) = 0 → ∃ v, v < 9 ∧ x = nI v) : 2 * t - 2 < nd + 1 → ¬ irb (K a) = 0 → ∃ v, v < 9 ∧ upd Rb (28 * a + 7 * q + nd) x (28 * a + 7 * q + (2 * t - 2)) = nI v := fun h1 hr => by
  by_cases e : nd = 2 * t - 2
  · obtain ⟨v, hv, ex⟩ := hx e hr
    exact ⟨v, hv, by rw [← e, pk_us]; exact ex⟩
  · obtain ⟨v, hv, ex⟩ := h (by omega) hr
    exact ⟨v, hv, by rw [pk_un (by omega)]; exact ex⟩
def po_X9_isRebuilt_b (g : GG) (k0 : Nat) (m0 : Nat) (s1 : Int32) (s2 : Int32) (s3 : Int32) (s4 : Int32) (s5 : Int32) (s6 : Int32) (m7 : Nat) (m8 : Nat) (m9 : Nat) (s10 : Int32) (s11 : Int32) (s12 : Int32) (m13 : Nat) (m14 : Nat) (m15 : Nat) (s16 : Int32) (m17 : Nat) (m18 : Nat) (m19 : Nat) (m20 : Nat) (m21 : Nat) (m22 : Nat) (m23 : Nat) (m24 : Nat) (m25 : Nat) (m26 : Nat) (m27 : Nat) (m28 : Nat) (s29 : Int32) (m30 : Nat) (s31 : Int32) (s32 : Int32) (s33 : Int32) (s34 : Int32) (s35 : Int32) (m36 : Nat) (m37 : Nat) (m38 : Nat) (m39 : Nat) (s40 : Int64) (K : Nat → Int32) (k : Nat) : Int32 → va_W → Prop := fun (r : Int32) w => w = [(k0, .inr (9, [.ref m0, .int s1, .int s2, .int s3, .int s4, .int s5, .int s6, .ref m7, .ref m8, .ref m9, .int s10, .int s11, .int s12, .ref m13, .ref m14, .ref m15, .int s16, .ref m17, .ref m18, .ref m19, .ref m20, .ref m21, .ref m22, .ref m23, .ref m24, .ref m25, .ref m26, .ref m27, .ref m28, .int s29, .ref m30, .int s31, .int s32, .int s33, .int s34, .int s35, .ref m36, .ref m37, .ref m38, .ref m39, .long s40])), (m13, ai g 6 K)] ∧ (irb (K k) = r)
theorem q_X9_isRebuilt_b_f9 : ∀ w ∈ u_ws RX9 TX9 41, w ∈ wsX9_isRebuilt := by decide +kernel
theorem q_X9_isRebuilt_b_1 : (Cond.fieldLink RX9 22 "SoundLawsModel" "kinds" "[I") ∈ wsX9_isRebuilt := by decide +kernel
set_option maxHeartbeats 1500000 in
set_option maxRecDepth 100000 in
theorem c_X9_isRebuilt_b (l : Launch) (g : GG) (k0 : Nat) (m0 : Nat) (s1 : Int32) (s2 : Int32) (s3 : Int32) (s4 : Int32) (s5 : Int32) (s6 : Int32) (m7 : Nat) (m8 : Nat) (m9 : Nat) (s10 : Int32) (s11 : Int32) (s12 : Int32) (m13 : Nat) (m14 : Nat) (m15 : Nat) (s16 : Int32) (m17 : Nat) (m18 : Nat) (m19 : Nat) (m20 : Nat) (m21 : Nat) (m22 : Nat) (m23 : Nat) (m24 : Nat) (m25 : Nat) (m26 : Nat) (m27 : Nat) (m28 : Nat) (s29 : Int32) (m30 : Nat) (s31 : Int32) (s32 : Int32) (s33 : Int32) (s34 : Int32) (s35 : Int32) (m36 : Nat) (m37 : Nat) (m38 : Nat) (m39 : Nat) (s40 : Int64) (K : Nat → Int32) (k : Nat) (hk : k < 6) (sz : Nat) : MetI l yX9_isRebuilt wsX9_isRebuilt ({ frames := 0, cells := 0, slots := 0, locals := 0 }) g [.ref k0, .int (nI k)] [(k0, .inr (9, [.ref m0, .int s1, .int s2, .int s3, .int s4, .int s5, .int s6, .ref m7, .ref m8, .ref m9, .int s10, .int s11, .int s12, .ref m13, .ref m14, .ref m15, .int s16, .ref m17, .ref m18, .ref m19, .ref m20, .ref m21, .ref m22, .ref m23, .ref m24, .ref m25, .ref m26, .ref m27, .ref m28, .int s29, .ref m30, .int s31, .int s32, .int s33, .int s34, .int s35, .ref m36, .ref m37, .ref m38, .ref m39, .long s40])), (m13, ai g 6 K)] sz (po_X9_isRebuilt_b g k0 m0 s1 s2 s3 s4 s5 s6 m7 m8 m9 s10 s11 s12 m13 m14 m15 s16 m17 m18 m19 m20 m21 m22 m23 m24 m25 m26 m27 m28 s29 m30 s31 s32 s33 s34 s35 m36 m37 m38 m39 s40 K k) 0 0 := by
  refine k_of (l := l) (y := yX9_isRebuilt) (ws := wsX9_isRebuilt) (rm := { frames := 0, cells := 0, slots := 0, locals := 0 }) (mc := 0) (ms := 0) (av := [.ref k0, .int (nI k)]) (g := g) (wc := [(k0, .inr (9, [.ref m0, .int s1, .int s2, .int s3, .int s4, .int s5, .int s6, .ref m7, .ref m8, .ref m9, .int s10, .int s11, .int s12, .ref m13, .ref m14, .ref m15, .int s16, .ref m17, .ref m18, .ref m19, .ref m20, .ref m21, .ref m22, .ref m23, .ref m24, .ref m25, .ref m26, .ref m27, .ref m28, .int s29, .ref m30, .int s31, .int s32, .int s33, .int s34, .int s35, .ref m36, .ref m37, .ref m38, .ref m39, .long s40])), (m13, ai g 6 K)]) (Qc := fun A => va_Qi (po_X9_isRebuilt_b g k0 m0 s1 s2 s3 s4 s5 s6 m7 m8 m9 s10 s11 s12 m13 m14 m15 s16 m17 m18 m19 m20 m21 m22 m23 m24 m25 m26 m27 m28 s29 m30 s31 s32 s33 s34 s35 m36 m37 m38 m39 s40 K k) (bk g A) A) (cc := cX9_isRebuilt) (maxL := 2) (ret := (some .boolean)) (by decide) rfl (Nat.le_of_ble_eq_true rfl) ?_ sz
  intro p e s m below meth c hx hb hr hts hown hlocks hnm hml A hA hE hZ hP hD hS ls hl
  have hown : s.vm.findClass RX9 = some m.cls := hown
  have hl : lv_has ls 2 [(0, .ref k0), (1, .int (nI k))] := hl
  refine lv_aload_n hx hb dX9_isRebuilt_0 rfl (lv_at hl 0 rfl) ?_
  refine va_get (D := g.1) (ci := 9) (v := .ref m13) (C := RX9) (T := TX9) (N := 41) hx hb hts q_X9_isRebuilt_b_f9 hown hE.1 hP 0 rfl rfl 13 (by decide) (hts (.fieldLink RX9 22 "SoundLawsModel" "kinds" "[I") q_X9_isRebuilt_b_1) (fun _ h9 => h9) rfl dX9_isRebuilt_1 ?_
  refine lv_iload_n hx hb dX9_isRebuilt_4 rfl (lv_at hl 1 rfl) ?_
  refine k_ald k rfl (by omega) hx hb hE hP 1 rfl (by decide) dX9_isRebuilt_5 ?_
  refine lv_iconst (v := 2) hx hb dX9_isRebuilt_6 (by decide) ?_
  refine lv_icmp_eq (tgt := 24) hx hb dX9_isRebuilt_7 (by decide) (fun c7_1 => ?_) (fun c7_1 => ?_)
  · skip
    refine lv_iconst (v := 0) hx hb dX9_isRebuilt_24 (by decide) ?_
    refine W.widen (k := 0) (n := 0) (Nat.le_of_ble_eq_true rfl) (Nat.le_of_ble_eq_true rfl) ?_
    exact k_rz hx hb hr hlocks hS hP hD rfl ⟨rfl, (by unfold irb; rw [if_pos (Or.inl c7_1)])⟩ dX9_isRebuilt_25
  · skip
    refine lv_aload_n hx hb dX9_isRebuilt_10 rfl (lv_at hl 0 rfl) ?_
    refine va_get (D := g.1) (ci := 9) (v := .ref m13) (C := RX9) (T := TX9) (N := 41) hx hb hts q_X9_isRebuilt_b_f9 hown hE.1 hP 0 rfl rfl 13 (by decide) (hts (.fieldLink RX9 22 "SoundLawsModel" "kinds" "[I") q_X9_isRebuilt_b_1) (fun _ h9 => h9) rfl dX9_isRebuilt_11 ?_
    refine lv_iload_n hx hb dX9_isRebuilt_14 rfl (lv_at hl 1 rfl) ?_
    refine k_ald k rfl (by omega) hx hb hE hP 1 rfl (by decide) dX9_isRebuilt_15 ?_
    refine lv_iconst (v := 3) hx hb dX9_isRebuilt_16 (by decide) ?_
    refine lv_icmp_eq (tgt := 24) hx hb dX9_isRebuilt_17 (by decide) (fun c17_2 => ?_) (fun c17_2 => ?_)
    · skip
      refine lv_iconst (v := 0) hx hb dX9_isRebuilt_24 (by decide) ?_
      refine W.widen (k := 0) (n := 0) (Nat.le_of_ble_eq_true rfl) (Nat.le_of_ble_eq_true rfl) ?_
      exact k_rz hx hb hr hlocks hS hP hD rfl ⟨rfl, (by unfold irb; rw [if_pos (Or.inr c17_2)])⟩ dX9_isRebuilt_25
    · skip
      refine lv_iconst (v := 1) hx hb dX9_isRebuilt_20 (by decide) ?_
      refine lv_goto (tgt := 25) hx hb dX9_isRebuilt_21 (by decide) ?_
      refine W.widen (k := 0) (n := 0) (Nat.le_of_ble_eq_true rfl) (Nat.le_of_ble_eq_true rfl) ?_
      exact k_rz hx hb hr hlocks hS hP hD rfl ⟨rfl, (by unfold irb; rw [if_neg (fun h => h.elim c7_1 c17_2)])⟩ dX9_isRebuilt_25

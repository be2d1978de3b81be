def po_X8_aheadAt_g (g : GG) (i : Nat) : Int32 → va_W → Prop := fun (r : Int32) w => w = [] ∧ (nI (ah i) = r)
set_option maxHeartbeats 1500000 in
set_option maxRecDepth 100000 in
theorem c_X8_aheadAt_g (l : Launch) (g : GG) (i : Nat) (hi : i < 6) (sz : Nat) : MetI l yX8_aheadAt wsX8_aheadAt ({ frames := 0, cells := 0, slots := 0, locals := 0 }) g [.int (nI i)] [] sz (po_X8_aheadAt_g g i) 0 0 := by
  refine k_of (l := l) (y := yX8_aheadAt) (ws := wsX8_aheadAt) (rm := { frames := 0, cells := 0, slots := 0, locals := 0 }) (mc := 0) (ms := 0) (av := [.int (nI i)]) (g := g) (wc := []) (Qc := fun A => va_Qi (po_X8_aheadAt_g g i) (bk g A) A) (cc := cX8_aheadAt) (maxL := 1) (ret := (some .int)) (by decide) rfl (Nat.le_of_ble_eq_true rfl) ?_ sz
  intro p e s m below meth c hx hb hr hts hown hlocks hnm hml A hA hE hZ hP hD hS ls hl
  have hown : s.vm.findClass RX8 = some m.cls := hown
  have hl : lv_has ls 1 [(0, .int (nI i))] := hl
  refine lv_iload_n hx hb dX8_aheadAt_0 rfl (lv_at hl 0 rfl) ?_
  refine lv_if_ne (tgt := 8) hx hb dX8_aheadAt_1 (by decide) (fun c1_1 => ?_) (fun c1_1 => ?_)
  · skip
    refine lv_iconst (v := 0) hx hb dX8_aheadAt_8 (by decide) ?_
    refine W.widen (k := 0) (n := 0) (Nat.le_of_ble_eq_true rfl) (Nat.le_of_ble_eq_true rfl) ?_
    exact k_ri hx hb hr hlocks hS hP hD ⟨rfl, (by unfold ah; rw [if_neg (fun q => c1_1 (by rw [q]; rfl))]; rfl)⟩ dX8_aheadAt_9
  · skip
    refine lv_iconst (v := 1) hx hb dX8_aheadAt_4 (by decide) ?_
    refine lv_goto (tgt := 9) hx hb dX8_aheadAt_5 (by decide) ?_
    refine W.widen (k := 0) (n := 0) (Nat.le_of_ble_eq_true rfl) (Nat.le_of_ble_eq_true rfl) ?_
    exact k_ri hx hb hr hlocks hS hP hD ⟨rfl, (by unfold ah; rw [if_pos ((nI_eq (b := 0) (by omega) (by decide)).mp c1_1)]; rfl)⟩ dX8_aheadAt_9
def po_X6_strangeInSet_g (g : GG) (sy : Nat) (y1 : Nat) (y2 : Nat) (y3 : Nat) (lw : Nat) (tr : Nat) (chg : Int32) (S3 : Nat → Int32) (k : Nat) : Int32 → va_W → Prop := fun (r : Int32) w => w = [(sy, .inr (6, [.ref y1, .ref y2, .ref y3, .ref lw, .int chg, .ref tr])), (y3, ai g 24 S3)]
theorem q_X6_strangeInSet_g_f6 : ∀ w ∈ u_ws RX6 TX6 6, w ∈ wsX6_strangeInSet := by decide +kernel
theorem q_X6_strangeInSet_g_1 : (Cond.fieldLink RX6 18 "SoundLaws$Study" "strangePlaces" "[I") ∈ wsX6_strangeInSet := by decide +kernel
set_option maxHeartbeats 1500000 in
set_option maxRecDepth 100000 in
theorem c_X6_strangeInSet_g (l : Launch) (g : GG) (sy : Nat) (y1 : Nat) (y2 : Nat) (y3 : Nat) (lw : Nat) (tr : Nat) (chg : Int32) (S3 : Nat → Int32) (k : Nat) (hk : k < 6) (sz : Nat) : MetI l yX6_strangeInSet wsX6_strangeInSet ({ frames := 0, cells := 0, slots := 0, locals := 0 }) g [.ref sy, .int (nI k)] [(sy, .inr (6, [.ref y1, .ref y2, .ref y3, .ref lw, .int chg, .ref tr])), (y3, ai g 24 S3)] sz (po_X6_strangeInSet_g g sy y1 y2 y3 lw tr chg S3 k) 0 0 := by
  refine k_of (l := l) (y := yX6_strangeInSet) (ws := wsX6_strangeInSet) (rm := { frames := 0, cells := 0, slots := 0, locals := 0 }) (mc := 0) (ms := 0) (av := [.ref sy, .int (nI k)]) (g := g) (wc := [(sy, .inr (6, [.ref y1, .ref y2, .ref y3, .ref lw, .int chg, .ref tr])), (y3, ai g 24 S3)]) (Qc := fun A => va_Qi (po_X6_strangeInSet_g g sy y1 y2 y3 lw tr chg S3 k) (bk g A) A) (cc := cX6_strangeInSet) (maxL := 4) (ret := (some .int)) (by decide) rfl (Nat.le_of_ble_eq_true rfl) ?_ sz
  intro p e s m below meth c hx hb hr hts hown hlocks hnm hml A hA hE hZ hP hD hS ls hl
  have hown : s.vm.findClass RX6 = some m.cls := hown
  have hl : lv_has ls 4 [(0, .ref sy), (1, .int (nI k))] := hl
  refine lv_iconst (v := 0) hx hb dX6_strangeInSet_0 (by decide) ?_
  refine lv_istore_n (lv' := [(2, .int 0), (0, .ref sy), (1, .int (nI k))]) hx hb dX6_strangeInSet_1 rfl hl (by decide) rfl (fun ls hl => ?_)
  refine lv_iconst (v := 0) hx hb dX6_strangeInSet_2 (by decide) ?_
  refine lv_istore_n (lv' := [(3, .int 0), (2, .int 0), (0, .ref sy), (1, .int (nI k))]) hx hb dX6_strangeInSet_3 rfl hl (by decide) rfl (fun ls hl => ?_)
  have loop4 : ∀ (fu : Nat) (u : Nat) (x2 : Int32), (hu : u ≤ 4) → 4 - u < fu → ∀ (H : Heap) (locs : List Loc) (ls : Array Slot), va_P g.1 vwCl [(sy, .inr (6, [.ref y1, .ref y2, .ref y3, .ref lw, .int chg, .ref tr])), (y3, ai g 24 S3)] H → va_D A [(sy, .inr (6, [.ref y1, .ref y2, .ref y3, .ref lw, .int chg, .ref tr])), (y3, ai g 24 S3)] → va_S A s.heap H locs → lv_has ls 4 [(0, .ref sy), (1, .int (nI k)), (2, .int x2), (3, .int (nI u))] → W p l e ({ frames := 0, cells := 0, slots := 0, locals := 0 }) s m [.ref sy, .int (nI k)].toArray below meth c H locs 0 0 (MQ below (va_Qi (po_X6_strangeInSet_g g sy y1 y2 y3 lw tr chg S3 k) (bk g A) A) [.ref sy, .int (nI k)].toArray s 0 0 A) (F0 m 4 ls []) := by
    intro fu
    induction fu with
    | zero => intro u x2 hu hfu; exact absurd hfu (Nat.not_lt_zero _)
    | succ fu ih =>
      intro u x2 hu hfu H locs ls hP hD hS hl
      have ih4 := ih
      refine lv_iload_n hx hb dX6_strangeInSet_4 rfl (lv_at hl 3 rfl) ?_
      refine lv_iconst (v := 4) hx hb dX6_strangeInSet_5 (by decide) ?_
      refine lv_icmp_ge (tgt := 28) hx hb dX6_strangeInSet_6 (by decide) (fun c6_1 => ?_) (fun c6_1 => ?_)
      · skip
        refine lv_iload_n hx hb dX6_strangeInSet_28 rfl (lv_at hl 2 rfl) ?_
        refine W.widen (k := 0) (n := 0) (Nat.le_of_ble_eq_true rfl) (Nat.le_of_ble_eq_true rfl) ?_
        exact k_ri hx hb hr hlocks hS hP hD rfl dX6_strangeInSet_29
      · skip
        have hu9 := lt_of_nle (k := 4) (n := u) (by decide) (by omega) c6_1
        refine lv_iload_n hx hb dX6_strangeInSet_9 rfl (lv_at hl 2 rfl) ?_
        refine lv_aload_n hx hb dX6_strangeInSet_10 rfl (lv_at hl 0 rfl) ?_
        refine va_get (D := g.1) (ci := 6) (v := .ref y3) (C := RX6) (T := TX6) (N := 6) hx hb hts q_X6_strangeInSet_g_f6 hown hE.1 hP 0 rfl rfl 2 (by decide) (hts (.fieldLink RX6 18 "SoundLaws$Study" "strangePlaces" "[I") q_X6_strangeInSet_g_1) (fun _ h9 => h9) rfl dX6_strangeInSet_11 ?_
        refine lv_iload_n hx hb dX6_strangeInSet_14 rfl (lv_at hl 1 rfl) ?_
        refine lv_iconst (v := 4) hx hb dX6_strangeInSet_15 (by decide) ?_
        refine lv_imul hx hb dX6_strangeInSet_16 ?_
        refine lv_iload_n hx hb dX6_strangeInSet_17 rfl (lv_at hl 3 rfl) ?_
        refine lv_iadd hx hb dX6_strangeInSet_18 ?_
        refine k_ald (4 * k + u) (by rw [show (4 : Int32) = nI 4 from rfl, pk_mul, nI_add, Nat.mul_comm]) (by omega) hx hb hE hP 1 rfl (by decide) dX6_strangeInSet_19 ?_
        refine lv_iadd hx hb dX6_strangeInSet_20 ?_
        refine lv_topi (fun x2b ex2b => ?_)
        refine lv_istore_n (lv' := [(2, .int x2b), (0, .ref sy), (1, .int (nI k)), (3, .int (nI u))]) hx hb dX6_strangeInSet_21 rfl hl (by decide) rfl (fun ls hl => ?_)
        refine lv_iinc (v := (nI (u + 1))) (lv' := [(3, .int (nI (u + 1))), (2, .int x2b), (0, .ref sy), (1, .int (nI k))]) hx hb dX6_strangeInSet_22 hl (k := 3) rfl (nI_1 _) (by decide) rfl (fun ls hl => ?_)
        refine lv_goto (tgt := 4) hx hb dX6_strangeInSet_25 (by decide) ?_
        exact ih4 (u + 1) _ (by omega) (by omega) _ _ _ hP hD hS (lv_sub hl [2, 3, 1, 0] rfl)
  exact loop4 _ 0 0 (Nat.zero_le 4) (Nat.lt_succ_self _) _ _ _ hP hD hS (lv_sub hl [2, 3, 1, 0] rfl)
def po_X6_borrowedTongues_g (g : GG) (sy : Nat) (y1 : Nat) (y2 : Nat) (y3 : Nat) (lw : Nat) (tr : Nat) (chg : Int32) (S3 : Nat → Int32) (L : Nat → Int32) (sk : Nat) (s1 : Nat) (s2 : Nat) (s3 : Nat) (z : Nat) (t : Nat) (k : Nat) : Int32 → va_W → Prop := fun (r : Int32) w => w = [(sy, .inr (6, [.ref y1, .ref y2, .ref y3, .ref lw, .int chg, .ref tr])), (y3, ai g 24 S3), (sk, .inr (5, [.int (nI z), .int (nI t), .ref s1, .ref s2, .ref s3])), (s2, ai g 6 L)]
theorem q_X6_borrowedTongues_g_f5 : ∀ w ∈ u_ws RX5 TX5 5, w ∈ wsX6_borrowedTongues := by decide +kernel
theorem q_X6_borrowedTongues_g_1 : (Cond.fieldLink RX6 35 "SoundLaws$Stock" "tongues" "I") ∈ wsX6_borrowedTongues := by decide +kernel
theorem q_X6_borrowedTongues_g_f6 : ∀ w ∈ u_ws RX6 TX6 6, w ∈ wsX6_borrowedTongues := by decide +kernel
theorem q_X6_borrowedTongues_g_3 : (Cond.fieldLink RX6 18 "SoundLaws$Study" "strangePlaces" "[I") ∈ wsX6_borrowedTongues := by decide +kernel
theorem q_X6_borrowedTongues_g_4 : (Cond.fieldLink RX6 75 "SoundLaws$Stock" "lengths" "[I") ∈ wsX6_borrowedTongues := by decide +kernel
set_option maxHeartbeats 1500000 in
set_option maxRecDepth 100000 in
theorem c_X6_borrowedTongues_g (l : Launch) (g : GG) (sy : Nat) (y1 : Nat) (y2 : Nat) (y3 : Nat) (lw : Nat) (tr : Nat) (chg : Int32) (S3 : Nat → Int32) (L : Nat → Int32) (sk : Nat) (s1 : Nat) (s2 : Nat) (s3 : Nat) (z : Nat) (t : Nat) (k : Nat) (ht4 : t ≤ 4) (hk : k < 6) (sz : Nat) : MetI l yX6_borrowedTongues wsX6_borrowedTongues ({ frames := 0, cells := 0, slots := 0, locals := 0 }) g [.ref sy, .ref sk, .int (nI k)] [(sy, .inr (6, [.ref y1, .ref y2, .ref y3, .ref lw, .int chg, .ref tr])), (y3, ai g 24 S3), (sk, .inr (5, [.int (nI z), .int (nI t), .ref s1, .ref s2, .ref s3])), (s2, ai g 6 L)] sz (po_X6_borrowedTongues_g g sy y1 y2 y3 lw tr chg S3 L sk s1 s2 s3 z t k) 0 0 := by
  refine k_of (l := l) (y := yX6_borrowedTongues) (ws := wsX6_borrowedTongues) (rm := { frames := 0, cells := 0, slots := 0, locals := 0 }) (mc := 0) (ms := 0) (av := [.ref sy, .ref sk, .int (nI k)]) (g := g) (wc := [(sy, .inr (6, [.ref y1, .ref y2, .ref y3, .ref lw, .int chg, .ref tr])), (y3, ai g 24 S3), (sk, .inr (5, [.int (nI z), .int (nI t), .ref s1, .ref s2, .ref s3])), (s2, ai g 6 L)]) (Qc := fun A => va_Qi (po_X6_borrowedTongues_g g sy y1 y2 y3 lw tr chg S3 L sk s1 s2 s3 z t k) (bk g A) A) (cc := cX6_borrowedTongues) (maxL := 6) (ret := (some .int)) (by decide) rfl (Nat.le_of_ble_eq_true rfl) ?_ sz
  intro p e s m below meth c hx hb hr hts hown hlocks hnm hml A hA hE hZ hP hD hS ls hl
  have hown : s.vm.findClass RX6 = some m.cls := hown
  have hl : lv_has ls 6 [(0, .ref sy), (1, .ref sk), (2, .int (nI k))] := hl
  refine lv_iconst (v := 0) hx hb dX6_borrowedTongues_0 (by decide) ?_
  refine lv_istore_n (lv' := [(3, .int 0), (0, .ref sy), (1, .ref sk), (2, .int (nI k))]) hx hb dX6_borrowedTongues_1 rfl hl (by decide) rfl (fun ls hl => ?_)
  refine lv_iconst (v := 0) hx hb dX6_borrowedTongues_2 (by decide) ?_
  refine lv_istore (lv' := [(4, .int 0), (3, .int 0), (0, .ref sy), (1, .ref sk), (2, .int (nI k))]) hx hb dX6_borrowedTongues_3 hl (by decide) rfl (fun ls hl => ?_)
  have loop5 : ∀ (fu : Nat) (u : Nat) (x3 : Int32), (hu : u ≤ t) → t - u < fu → ∀ (H : Heap) (locs : List Loc) (ls : Array Slot), va_P g.1 vwCl [(sy, .inr (6, [.ref y1, .ref y2, .ref y3, .ref lw, .int chg, .ref tr])), (y3, ai g 24 S3), (sk, .inr (5, [.int (nI z), .int (nI t), .ref s1, .ref s2, .ref s3])), (s2, ai g 6 L)] H → va_D A [(sy, .inr (6, [.ref y1, .ref y2, .ref y3, .ref lw, .int chg, .ref tr])), (y3, ai g 24 S3), (sk, .inr (5, [.int (nI z), .int (nI t), .ref s1, .ref s2, .ref s3])), (s2, ai g 6 L)] → va_S A s.heap H locs → lv_has ls 6 [(0, .ref sy), (1, .ref sk), (2, .int (nI k)), (3, .int x3), (4, .int (nI u))] → W p l e ({ frames := 0, cells := 0, slots := 0, locals := 0 }) s m [.ref sy, .ref sk, .int (nI k)].toArray below meth c H locs 0 0 (MQ below (va_Qi (po_X6_borrowedTongues_g g sy y1 y2 y3 lw tr chg S3 L sk s1 s2 s3 z t k) (bk g A) A) [.ref sy, .ref sk, .int (nI k)].toArray s 0 0 A) (F0 m 5 ls []) := by
    intro fu
    induction fu with
    | zero => intro u x3 hu hfu; exact absurd hfu (Nat.not_lt_zero _)
    | succ fu ih =>
      intro u x3 hu hfu H locs ls hP hD hS hl
      have ih5 := ih
      refine lv_iload hx hb dX6_borrowedTongues_5 (lv_at hl 4 rfl) ?_
      refine lv_aload_n hx hb dX6_borrowedTongues_7 rfl (lv_at hl 1 rfl) ?_
      refine va_get (D := g.1) (ci := 5) (v := .int (nI t)) (C := RX5) (T := TX5) (N := 5) hx hb hts q_X6_borrowedTongues_g_f5 hown hE.1 hP 2 rfl rfl 1 (by decide) (hts (.fieldLink RX6 35 "SoundLaws$Stock" "tongues" "I") q_X6_borrowedTongues_g_1) (fun _ h9 => h9) rfl dX6_borrowedTongues_8 ?_
      refine lv_icmp_ge (tgt := 57) hx hb dX6_borrowedTongues_11 (by decide) (fun c11_1 => ?_) (fun c11_1 => ?_)
      · skip
        refine lv_iload_n hx hb dX6_borrowedTongues_57 rfl (lv_at hl 3 rfl) ?_
        refine W.widen (k := 0) (n := 0) (Nat.le_of_ble_eq_true rfl) (Nat.le_of_ble_eq_true rfl) ?_
        exact k_ri hx hb hr hlocks hS hP hD rfl dX6_borrowedTongues_58
      · skip
        have hu9 := lt_of_nle (k := t) (n := u) (by omega) (by omega) c11_1
        refine lv_aload_n hx hb dX6_borrowedTongues_14 rfl (lv_at hl 0 rfl) ?_
        refine va_get (D := g.1) (ci := 6) (v := .ref y3) (C := RX6) (T := TX6) (N := 6) hx hb hts q_X6_borrowedTongues_g_f6 hown hE.1 hP 0 rfl rfl 2 (by decide) (hts (.fieldLink RX6 18 "SoundLaws$Study" "strangePlaces" "[I") q_X6_borrowedTongues_g_3) (fun _ h9 => h9) rfl dX6_borrowedTongues_15 ?_
        refine lv_iload_n hx hb dX6_borrowedTongues_18 rfl (lv_at hl 2 rfl) ?_
        refine lv_iconst (v := 4) hx hb dX6_borrowedTongues_19 (by decide) ?_
        refine lv_imul hx hb dX6_borrowedTongues_20 ?_
        refine lv_iload hx hb dX6_borrowedTongues_21 (lv_at hl 4 rfl) ?_
        refine lv_iadd hx hb dX6_borrowedTongues_23 ?_
        refine k_ald (4 * k + u) (by rw [show (4 : Int32) = nI 4 from rfl, pk_mul, nI_add, Nat.mul_comm]) (by omega) hx hb hE hP 1 rfl (by decide) dX6_borrowedTongues_24 ?_
        refine lv_topi (fun x5 ex5 => ?_)
        refine lv_istore (lv' := [(5, .int x5), (0, .ref sy), (1, .ref sk), (2, .int (nI k)), (3, .int x3), (4, .int (nI u))]) hx hb dX6_borrowedTongues_25 hl (by decide) rfl (fun ls hl => ?_)
        refine lv_iload hx hb dX6_borrowedTongues_27 (lv_at hl 0 rfl) ?_
        refine lv_iconst (v := 2) hx hb dX6_borrowedTongues_29 (by decide) ?_
        refine lv_icmp_ge (tgt := 44) hx hb dX6_borrowedTongues_30 (by decide) (fun c30_2 => ?_) (fun c30_2 => ?_)
        · skip
          refine lv_iload_n hx hb dX6_borrowedTongues_44 rfl (lv_at hl 4 rfl) ?_
          refine lv_iconst (v := 1) hx hb dX6_borrowedTongues_45 (by decide) ?_
          refine lv_iload hx hb dX6_borrowedTongues_46 (lv_at hl 5 rfl) ?_
          refine lv_ishl hx hb dX6_borrowedTongues_48 ?_
          refine lv_ior hx hb dX6_borrowedTongues_49 ?_
          refine lv_topi (fun x3b ex3b => ?_)
          refine lv_istore_n (lv' := [(3, .int x3b), (5, .int x5), (0, .ref sy), (1, .ref sk), (2, .int (nI k)), (4, .int (nI u))]) hx hb dX6_borrowedTongues_50 rfl hl (by decide) rfl (fun ls hl => ?_)
          refine lv_iinc (v := (nI (u + 1))) (lv' := [(4, .int (nI (u + 1))), (3, .int x3b), (5, .int x5), (0, .ref sy), (1, .ref sk), (2, .int (nI k))]) hx hb dX6_borrowedTongues_51 hl (k := 5) rfl (nI_1 _) (by decide) rfl (fun ls hl => ?_)
          refine lv_goto (tgt := 5) hx hb dX6_borrowedTongues_54 (by decide) ?_
          exact ih5 (u + 1) _ (by omega) (by omega) _ _ _ hP hD hS (lv_sub hl [3, 4, 5, 1, 0] rfl)
        · skip
          refine lv_iload hx hb dX6_borrowedTongues_33 (lv_at hl 0 rfl) ?_
          refine lv_aload_n hx hb dX6_borrowedTongues_35 rfl (lv_at hl 2 rfl) ?_
          refine va_get (D := g.1) (ci := 5) (v := .ref s2) (C := RX5) (T := TX5) (N := 5) hx hb hts q_X6_borrowedTongues_g_f5 hown hE.1 hP 2 rfl rfl 3 (by decide) (hts (.fieldLink RX6 75 "SoundLaws$Stock" "lengths" "[I") q_X6_borrowedTongues_g_4) (fun _ h9 => h9) rfl dX6_borrowedTongues_36 ?_
          refine lv_iload_n hx hb dX6_borrowedTongues_39 rfl (lv_at hl 3 rfl) ?_
          refine k_ald k rfl (by omega) hx hb hE hP 3 rfl (by decide) dX6_borrowedTongues_40 ?_
          refine lv_icmp_ne (tgt := 51) hx hb dX6_borrowedTongues_41 (by decide) (fun c41_3 => ?_) (fun c41_3 => ?_)
          · skip
            refine lv_iinc (v := (nI (u + 1))) (lv' := [(4, .int (nI (u + 1))), (5, .int x5), (0, .ref sy), (1, .ref sk), (2, .int (nI k)), (3, .int x3)]) hx hb dX6_borrowedTongues_51 hl (k := 5) rfl (nI_1 _) (by decide) rfl (fun ls hl => ?_)
            refine lv_goto (tgt := 5) hx hb dX6_borrowedTongues_54 (by decide) ?_
            exact ih5 (u + 1) _ (by omega) (by omega) _ _ _ hP hD hS (lv_sub hl [2, 3, 4, 5, 0] rfl)
          · skip
            refine lv_iload_n hx hb dX6_borrowedTongues_44 rfl (lv_at hl 4 rfl) ?_
            refine lv_iconst (v := 1) hx hb dX6_borrowedTongues_45 (by decide) ?_
            refine lv_iload hx hb dX6_borrowedTongues_46 (lv_at hl 5 rfl) ?_
            refine lv_ishl hx hb dX6_borrowedTongues_48 ?_
            refine lv_ior hx hb dX6_borrowedTongues_49 ?_
            refine lv_topi (fun x3b ex3b => ?_)
            refine lv_istore_n (lv' := [(3, .int x3b), (5, .int x5), (0, .ref sy), (1, .ref sk), (2, .int (nI k)), (4, .int (nI u))]) hx hb dX6_borrowedTongues_50 rfl hl (by decide) rfl (fun ls hl => ?_)
            refine lv_iinc (v := (nI (u + 1))) (lv' := [(4, .int (nI (u + 1))), (3, .int x3b), (5, .int x5), (0, .ref sy), (1, .ref sk), (2, .int (nI k))]) hx hb dX6_borrowedTongues_51 hl (k := 5) rfl (nI_1 _) (by decide) rfl (fun ls hl => ?_)
            refine lv_goto (tgt := 5) hx hb dX6_borrowedTongues_54 (by decide) ?_
            exact ih5 (u + 1) _ (by omega) (by omega) _ _ _ hP hD hS (lv_sub hl [3, 4, 5, 1, 0] rfl)
  exact loop5 _ 0 0 (Nat.zero_le t) (Nat.lt_succ_self _) _ _ _ hP hD hS (lv_sub hl [2, 3, 4, 1, 0] rfl)
def po_J6_bitCount_0f7a4_g (g : GG) (p1 : Int32) : Int32 → va_W → Prop := fun (r : Int32) w => w = []
theorem q_J6_bitCount_0f7a4_g_0 : (Cond.constant RJ6 265 (1431655765)) ∈ wsJ6_bitCount_0f7a4 := by decide +kernel
theorem q_J6_bitCount_0f7a4_g_1 : (Cond.constant RJ6 266 (858993459)) ∈ wsJ6_bitCount_0f7a4 := by decide +kernel
theorem q_J6_bitCount_0f7a4_g_2 : (Cond.constant RJ6 267 (252645135)) ∈ wsJ6_bitCount_0f7a4 := by decide +kernel
set_option maxHeartbeats 1500000 in
set_option maxRecDepth 100000 in
theorem c_J6_bitCount_0f7a4_g (l : Launch) (g : GG) (p1 : Int32)  (sz : Nat) : MetI l yJ6_bitCount_0f7a4 wsJ6_bitCount_0f7a4 ({ frames := 0, cells := 0, slots := 0, locals := 0 }) g [.int p1] [] sz (po_J6_bitCount_0f7a4_g g p1) 0 0 := by
  refine k_of (l := l) (y := yJ6_bitCount_0f7a4) (ws := wsJ6_bitCount_0f7a4) (rm := { frames := 0, cells := 0, slots := 0, locals := 0 }) (mc := 0) (ms := 0) (av := [.int p1]) (g := g) (wc := []) (Qc := fun A => va_Qi (po_J6_bitCount_0f7a4_g g p1) (bk g A) A) (cc := cJ6_bitCount_0f7a4) (maxL := 1) (ret := (some .int)) (by decide) rfl (Nat.le_of_ble_eq_true rfl) ?_ sz
  intro p e s m below meth c hx hb hr hts hown hlocks hnm hml A hA hE hZ hP hD hS ls hl
  have hown : s.vm.findClass RJ6 = some m.cls := hown
  have hl : lv_has ls 1 [(0, .int p1)] := hl
  refine lv_iload_n hx hb dJ6_bitCount_0f7a4_0 rfl (lv_at hl 0 rfl) ?_
  refine lv_iload_n hx hb dJ6_bitCount_0f7a4_1 rfl (lv_at hl 0 rfl) ?_
  refine lv_iconst (v := 1) hx hb dJ6_bitCount_0f7a4_2 (by decide) ?_
  refine lv_iushr hx hb dJ6_bitCount_0f7a4_3 rfl ?_
  refine lv_ldcw hx hb hown (hts (.constant RJ6 265 (1431655765)) q_J6_bitCount_0f7a4_g_0) dJ6_bitCount_0f7a4_4 ?_
  refine lv_iand hx hb dJ6_bitCount_0f7a4_7 ?_
  refine lv_isub hx hb dJ6_bitCount_0f7a4_8 ?_
  refine lv_topi (fun x_1 ex_1 => ?_)
  refine lv_istore_n (lv' := [(0, .int x_1)]) hx hb dJ6_bitCount_0f7a4_9 rfl hl (by decide) rfl (fun ls hl => ?_)
  refine lv_iload_n hx hb dJ6_bitCount_0f7a4_10 rfl (lv_at hl 0 rfl) ?_
  refine lv_ldcw hx hb hown (hts (.constant RJ6 266 (858993459)) q_J6_bitCount_0f7a4_g_1) dJ6_bitCount_0f7a4_11 ?_
  refine lv_iand hx hb dJ6_bitCount_0f7a4_14 ?_
  refine lv_iload_n hx hb dJ6_bitCount_0f7a4_15 rfl (lv_at hl 0 rfl) ?_
  refine lv_iconst (v := 2) hx hb dJ6_bitCount_0f7a4_16 (by decide) ?_
  refine lv_iushr hx hb dJ6_bitCount_0f7a4_17 rfl ?_
  refine lv_ldcw hx hb hown (hts (.constant RJ6 266 (858993459)) q_J6_bitCount_0f7a4_g_1) dJ6_bitCount_0f7a4_18 ?_
  refine lv_iand hx hb dJ6_bitCount_0f7a4_21 ?_
  refine lv_iadd hx hb dJ6_bitCount_0f7a4_22 ?_
  refine lv_topi (fun x_2 ex_2 => ?_)
  refine lv_istore_n (lv' := [(0, .int x_2)]) hx hb dJ6_bitCount_0f7a4_23 rfl hl (by decide) rfl (fun ls hl => ?_)
  refine lv_iload_n hx hb dJ6_bitCount_0f7a4_24 rfl (lv_at hl 0 rfl) ?_
  refine lv_iload_n hx hb dJ6_bitCount_0f7a4_25 rfl (lv_at hl 0 rfl) ?_
  refine lv_iconst (v := 4) hx hb dJ6_bitCount_0f7a4_26 (by decide) ?_
  refine lv_iushr hx hb dJ6_bitCount_0f7a4_27 rfl ?_
  refine lv_iadd hx hb dJ6_bitCount_0f7a4_28 ?_
  refine lv_ldcw hx hb hown (hts (.constant RJ6 267 (252645135)) q_J6_bitCount_0f7a4_g_2) dJ6_bitCount_0f7a4_29 ?_
  refine lv_iand hx hb dJ6_bitCount_0f7a4_32 ?_
  refine lv_topi (fun x_3 ex_3 => ?_)
  refine lv_istore_n (lv' := [(0, .int x_3)]) hx hb dJ6_bitCount_0f7a4_33 rfl hl (by decide) rfl (fun ls hl => ?_)
  refine lv_iload_n hx hb dJ6_bitCount_0f7a4_34 rfl (lv_at hl 0 rfl) ?_
  refine lv_iload_n hx hb dJ6_bitCount_0f7a4_35 rfl (lv_at hl 0 rfl) ?_
  refine lv_bipush (v := 8) hx hb dJ6_bitCount_0f7a4_36 (by decide) ?_
  refine lv_iushr hx hb dJ6_bitCount_0f7a4_38 rfl ?_
  refine lv_iadd hx hb dJ6_bitCount_0f7a4_39 ?_
  refine lv_topi (fun x_4 ex_4 => ?_)
  refine lv_istore_n (lv' := [(0, .int x_4)]) hx hb dJ6_bitCount_0f7a4_40 rfl hl (by decide) rfl (fun ls hl => ?_)
  refine lv_iload_n hx hb dJ6_bitCount_0f7a4_41 rfl (lv_at hl 0 rfl) ?_
  refine lv_iload_n hx hb dJ6_bitCount_0f7a4_42 rfl (lv_at hl 0 rfl) ?_
  refine lv_bipush (v := 16) hx hb dJ6_bitCount_0f7a4_43 (by decide) ?_
  refine lv_iushr hx hb dJ6_bitCount_0f7a4_45 rfl ?_
  refine lv_iadd hx hb dJ6_bitCount_0f7a4_46 ?_
  refine lv_topi (fun x_5 ex_5 => ?_)
  refine lv_istore_n (lv' := [(0, .int x_5)]) hx hb dJ6_bitCount_0f7a4_47 rfl hl (by decide) rfl (fun ls hl => ?_)
  refine lv_iload_n hx hb dJ6_bitCount_0f7a4_48 rfl (lv_at hl 0 rfl) ?_
  refine lv_bipush (v := 63) hx hb dJ6_bitCount_0f7a4_49 (by decide) ?_
  refine lv_iand hx hb dJ6_bitCount_0f7a4_51 ?_
  refine W.widen (k := 0) (n := 0) (Nat.le_of_ble_eq_true rfl) (Nat.le_of_ble_eq_true rfl) ?_
  exact k_ri hx hb hr hlocks hS hP hD rfl dJ6_bitCount_0f7a4_52
def po_X6_borrowedWords_g (g : GG) (sy : Nat) (y1 : Nat) (y2 : Nat) (y3 : Nat) (lw : Nat) (tr : Nat) (chg : Int32) (S3 : Nat → Int32) (L : Nat → Int32) (sk : Nat) (s1 : Nat) (s2 : Nat) (s3 : Nat) (z : Nat) (t : Nat) : Int32 → va_W → Prop := fun (r : Int32) w => w = [(sy, .inr (6, [.ref y1, .ref y2, .ref y3, .ref lw, .int chg, .ref tr])), (y3, ai g 24 S3), (sk, .inr (5, [.int (nI z), .int (nI t), .ref s1, .ref s2, .ref s3])), (s2, ai g 6 L)]
theorem q_X6_borrowedWords_g_f5 : ∀ w ∈ u_ws RX5 TX5 5, w ∈ wsX6_borrowedWords := by decide +kernel
theorem q_X6_borrowedWords_g_1 : (Cond.fieldLink RX6 48 "SoundLaws$Stock" "size" "I") ∈ wsX6_borrowedWords := by decide +kernel
set_option maxHeartbeats 1500000 in
set_option maxRecDepth 100000 in
theorem c_X6_borrowedWords_g (l : Launch) (g : GG) (sy : Nat) (y1 : Nat) (y2 : Nat) (y3 : Nat) (lw : Nat) (tr : Nat) (chg : Int32) (S3 : Nat → Int32) (L : Nat → Int32) (sk : Nat) (s1 : Nat) (s2 : Nat) (s3 : Nat) (z : Nat) (t : Nat) (ht4 : t ≤ 4) (hz : z ≤ 6) (sz : Nat) : MetI l yX6_borrowedWords wsX6_borrowedWords ({ frames := 1, cells := 0, slots := 0, locals := 25 }) g [.ref sy, .ref sk] [(sy, .inr (6, [.ref y1, .ref y2, .ref y3, .ref lw, .int chg, .ref tr])), (y3, ai g 24 S3), (sk, .inr (5, [.int (nI z), .int (nI t), .ref s1, .ref s2, .ref s3])), (s2, ai g 6 L)] sz (po_X6_borrowedWords_g g sy y1 y2 y3 lw tr chg S3 L sk s1 s2 s3 z t) 0 0 := by
  refine k_of (l := l) (y := yX6_borrowedWords) (ws := wsX6_borrowedWords) (rm := { frames := 1, cells := 0, slots := 0, locals := 25 }) (mc := 0) (ms := 0) (av := [.ref sy, .ref sk]) (g := g) (wc := [(sy, .inr (6, [.ref y1, .ref y2, .ref y3, .ref lw, .int chg, .ref tr])), (y3, ai g 24 S3), (sk, .inr (5, [.int (nI z), .int (nI t), .ref s1, .ref s2, .ref s3])), (s2, ai g 6 L)]) (Qc := fun A => va_Qi (po_X6_borrowedWords_g g sy y1 y2 y3 lw tr chg S3 L sk s1 s2 s3 z t) (bk g A) A) (cc := cX6_borrowedWords) (maxL := 4) (ret := (some .int)) (by decide) rfl (Nat.le_of_ble_eq_true rfl) ?_ sz
  intro p e s m below meth c hx hb hr hts hown hlocks hnm hml A hA hE hZ hP hD hS ls hl
  have hown : s.vm.findClass RX6 = some m.cls := hown
  have hl : lv_has ls 4 [(0, .ref sy), (1, .ref sk)] := hl
  refine lv_iconst (v := 0) hx hb dX6_borrowedWords_0 (by decide) ?_
  refine lv_istore_n (lv' := [(2, .int 0), (0, .ref sy), (1, .ref sk)]) hx hb dX6_borrowedWords_1 rfl hl (by decide) rfl (fun ls hl => ?_)
  refine lv_iconst (v := 0) hx hb dX6_borrowedWords_2 (by decide) ?_
  refine lv_istore_n (lv' := [(3, .int 0), (2, .int 0), (0, .ref sy), (1, .ref sk)]) hx hb dX6_borrowedWords_3 rfl hl (by decide) rfl (fun ls hl => ?_)
  have loop4 : ∀ (fu : Nat) (a : Nat) (x2 : Int32), (ha : a ≤ z) → z - a < fu → ∀ (H : Heap) (locs : List Loc) (ls : Array Slot), va_P g.1 vwCl [(sy, .inr (6, [.ref y1, .ref y2, .ref y3, .ref lw, .int chg, .ref tr])), (y3, ai g 24 S3), (sk, .inr (5, [.int (nI z), .int (nI t), .ref s1, .ref s2, .ref s3])), (s2, ai g 6 L)] H → va_D A [(sy, .inr (6, [.ref y1, .ref y2, .ref y3, .ref lw, .int chg, .ref tr])), (y3, ai g 24 S3), (sk, .inr (5, [.int (nI z), .int (nI t), .ref s1, .ref s2, .ref s3])), (s2, ai g 6 L)] → va_S A s.heap H locs → lv_has ls 4 [(0, .ref sy), (1, .ref sk), (2, .int x2), (3, .int (nI a))] → W p l e ({ frames := 1, cells := 0, slots := 0, locals := 25 }) s m [.ref sy, .ref sk].toArray below meth c H locs 0 0 (MQ below (va_Qi (po_X6_borrowedWords_g g sy y1 y2 y3 lw tr chg S3 L sk s1 s2 s3 z t) (bk g A) A) [.ref sy, .ref sk].toArray s 0 0 A) (F0 m 4 ls []) := by
    intro fu
    induction fu with
    | zero => intro a x2 ha hfu; exact absurd hfu (Nat.not_lt_zero _)
    | succ fu ih =>
      intro a x2 ha hfu H locs ls hP hD hS hl
      have ih4 := ih
      refine lv_iload_n hx hb dX6_borrowedWords_4 rfl (lv_at hl 3 rfl) ?_
      refine lv_aload_n hx hb dX6_borrowedWords_5 rfl (lv_at hl 1 rfl) ?_
      refine va_get (D := g.1) (ci := 5) (v := .int (nI z)) (C := RX5) (T := TX5) (N := 5) hx hb hts q_X6_borrowedWords_g_f5 hown hE.1 hP 2 rfl rfl 0 (by decide) (hts (.fieldLink RX6 48 "SoundLaws$Stock" "size" "I") q_X6_borrowedWords_g_1) (fun _ h9 => h9) rfl dX6_borrowedWords_6 ?_
      refine lv_icmp_ge (tgt := 30) hx hb dX6_borrowedWords_9 (by decide) (fun c9_1 => ?_) (fun c9_1 => ?_)
      · skip
        refine lv_iload_n hx hb dX6_borrowedWords_30 rfl (lv_at hl 2 rfl) ?_
        refine W.widen (k := 0) (n := 0) (Nat.le_of_ble_eq_true rfl) (Nat.le_of_ble_eq_true rfl) ?_
        exact k_ri hx hb hr hlocks hS hP hD rfl dX6_borrowedWords_31
      · skip
        have ha9 := lt_of_nle (k := z) (n := a) (by omega) (by omega) c9_1
        refine lv_iload_n hx hb dX6_borrowedWords_12 rfl (lv_at hl 2 rfl) ?_
        refine lv_aload_n hx hb dX6_borrowedWords_13 rfl (lv_at hl 0 rfl) ?_
        refine lv_aload_n hx hb dX6_borrowedWords_14 rfl (lv_at hl 1 rfl) ?_
        refine lv_iload_n hx hb dX6_borrowedWords_15 rfl (lv_at hl 3 rfl) ?_
        refine k_ci (wr := []) hP hD hS hA [0, 1, 2, 3] [] rfl rfl (by decide) (by decide) (va_runV (As := [.ref sk, .int (nI a)]) (rest := [.int x2]) ⟨hx, hb, hml, hown, hts⟩ (c_X6_borrowedTongues_g l g sy y1 y2 y3 lw tr chg S3 L sk s1 s2 s3 z t a (by first | assumption | omega) (by first | assumption | omega) H.size) (cwV 2 hts gX6_borrowedWords_X6_borrowedTongues rfl rfl rfl (by decide +kernel) ⟨Nat.le_of_ble_eq_true rfl, Nat.le_of_ble_eq_true rfl⟩) (k_preV hE hZ hP hD hS hA [0, 1, 2, 3] rfl (by decide) (va_recv hE.1 hP (ci := 6) (q0 := 0) rfl rfl)) rfl rfl hl.1 rfl (lv_room (Nat.le_of_ble_eq_true rfl)) dX6_borrowedWords_16 ⟨Nat.le_of_ble_eq_true rfl, Nat.le_of_ble_eq_true rfl⟩) (fun r_2 w1 H locs hw hP hD hS => ?_)
        obtain rfl := hw
        have hP : va_P g.1 vwCl [(sy, .inr (6, [.ref y1, .ref y2, .ref y3, .ref lw, .int chg, .ref tr])), (y3, ai g 24 S3), (sk, .inr (5, [.int (nI z), .int (nI t), .ref s1, .ref s2, .ref s3])), (s2, ai g 6 L)] H := hP
        have hD : va_D A [(sy, .inr (6, [.ref y1, .ref y2, .ref y3, .ref lw, .int chg, .ref tr])), (y3, ai g 24 S3), (sk, .inr (5, [.int (nI z), .int (nI t), .ref s1, .ref s2, .ref s3])), (s2, ai g 6 L)] := hD
        refine k_ci (wr := [(sy, .inr (6, [.ref y1, .ref y2, .ref y3, .ref lw, .int chg, .ref tr])), (y3, ai g 24 S3), (sk, .inr (5, [.int (nI z), .int (nI t), .ref s1, .ref s2, .ref s3])), (s2, ai g 6 L)]) hP hD hS hA [] [0, 1, 2, 3] rfl rfl (by decide) (by decide) (va_runS (As := [.int r_2]) (rest := [.int x2]) ⟨hx, hb, hml, hown, hts⟩ (c_J6_bitCount_0f7a4_g l g r_2  H.size) (va_cwS 1 hts gX6_borrowedWords_J6_bitCount_0f7a4 rfl rfl rfl (by decide +kernel) ⟨Nat.le_of_ble_eq_true rfl, Nat.le_of_ble_eq_true rfl⟩) (k_preS hE hZ hP hD hS hA [] rfl (by decide)) rfl rfl hl.1 rfl (lv_room (Nat.le_of_ble_eq_true rfl)) dX6_borrowedWords_19 ⟨Nat.le_of_ble_eq_true rfl, Nat.le_of_ble_eq_true rfl⟩) (fun r_3 w1 H locs hw hP hD hS => ?_)
        obtain rfl := hw
        have hP : va_P g.1 vwCl [(sy, .inr (6, [.ref y1, .ref y2, .ref y3, .ref lw, .int chg, .ref tr])), (y3, ai g 24 S3), (sk, .inr (5, [.int (nI z), .int (nI t), .ref s1, .ref s2, .ref s3])), (s2, ai g 6 L)] H := hP
        have hD : va_D A [(sy, .inr (6, [.ref y1, .ref y2, .ref y3, .ref lw, .int chg, .ref tr])), (y3, ai g 24 S3), (sk, .inr (5, [.int (nI z), .int (nI t), .ref s1, .ref s2, .ref s3])), (s2, ai g 6 L)] := hD
        refine lv_iadd hx hb dX6_borrowedWords_22 ?_
        refine lv_topi (fun x2b ex2b => ?_)
        refine lv_istore_n (lv' := [(2, .int x2b), (0, .ref sy), (1, .ref sk), (3, .int (nI a))]) hx hb dX6_borrowedWords_23 rfl hl (by decide) rfl (fun ls hl => ?_)
        refine lv_iinc (v := (nI (a + 1))) (lv' := [(3, .int (nI (a + 1))), (2, .int x2b), (0, .ref sy), (1, .ref sk)]) hx hb dX6_borrowedWords_24 hl (k := 3) rfl (nI_1 _) (by decide) rfl (fun ls hl => ?_)
        refine lv_goto (tgt := 4) hx hb dX6_borrowedWords_27 (by decide) ?_
        exact ih4 (a + 1) _ (by omega) (by omega) _ _ _ hP hD hS (lv_sub hl [2, 3, 1, 0] rfl)
  exact loop4 _ 0 0 (Nat.zero_le z) (Nat.lt_succ_self _) _ _ _ hP hD hS (lv_sub hl [2, 3, 1, 0] rfl)

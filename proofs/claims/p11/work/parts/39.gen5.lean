def po_X4_could_g (g : GG) (k : Nat) (p1 : Int32) : Int32 → va_W → Prop := fun (r : Int32) w => w = []
set_option maxHeartbeats 1500000 in
set_option maxRecDepth 100000 in
theorem c_X4_could_g (l : Launch) (g : GG) (k : Nat) (p1 : Int32) (hk : k < 5) (sz : Nat) : MetI l yX4_could wsX4_could ({ frames := 0, cells := 0, slots := 0, locals := 0 }) g [.int (nI k), .int p1] [] sz (po_X4_could_g g k p1) 0 0 := by
  refine k_of (l := l) (y := yX4_could) (ws := wsX4_could) (rm := { frames := 0, cells := 0, slots := 0, locals := 0 }) (mc := 0) (ms := 0) (av := [.int (nI k), .int p1]) (g := g) (wc := []) (Qc := fun A => va_Qi (po_X4_could_g g k p1) (bk g A) A) (cc := cX4_could) (maxL := 2) (ret := (some .boolean)) (by decide) rfl (Nat.le_of_ble_eq_true rfl) ?_ sz
  intro p e s m below meth c hx hb hr hts hown hlocks hnm hml A hA hE hZ hP hD hS ls hl
  have hown : s.vm.findClass RX4 = some m.cls := hown
  have hl : lv_has ls 2 [(0, .int (nI k)), (1, .int p1)] := hl
  refine lv_iload_n hx hb dX4_could_0 rfl (lv_at hl 1 rfl) ?_
  by_cases w1_0 : p1 = 0
  · refine lv_tableIn (tgt := 28) (off := 27) hx hb dX4_could_1 (by rw [w1_0]; decide) (by rw [w1_0]; decide) (by rw [w1_0]; decide) (by decide) ?_
    refine va_getsN hx hb hZ.zWEIGHTS hS hown (va_Nw.use rfl (hE.nw (w := .fieldLinkNest RX4 52 "SoundLaws" "WEIGHTS" "[I" RX8) 23 rfl)) (fun _ h9 => h9) dX4_could_28 ?_
    refine lv_iload_n hx hb dX4_could_31 rfl (lv_at hl 0 rfl) ?_
    refine k_tld k rfl (by omega) hx hb hZ.tWEIGHTS hS (by decide) (v := tb_WEIGHTS.getD k 0) rfl dX4_could_32 ?_
    refine lv_if_le (tgt := 40) hx hb dX4_could_33 (by decide) (fun c33_1 => ?_) (fun c33_1 => ?_)
    · skip
      refine lv_iconst (v := 0) hx hb dX4_could_40 (by decide) ?_
      refine W.widen (k := 0) (n := 0) (Nat.le_of_ble_eq_true rfl) (Nat.le_of_ble_eq_true rfl) ?_
      exact k_rz hx hb hr hlocks hS hP hD rfl rfl dX4_could_41
    · skip
      refine lv_iconst (v := 1) hx hb dX4_could_36 (by decide) ?_
      refine lv_goto (tgt := 41) hx hb dX4_could_37 (by decide) ?_
      refine W.widen (k := 0) (n := 0) (Nat.le_of_ble_eq_true rfl) (Nat.le_of_ble_eq_true rfl) ?_
      exact k_rz hx hb hr hlocks hS hP hD rfl rfl dX4_could_41
  by_cases w1_1 : p1 = 1
  · refine lv_tableIn (tgt := 42) (off := 41) hx hb dX4_could_1 (by rw [w1_1]; decide) (by rw [w1_1]; decide) (by rw [w1_1]; decide) (by decide) ?_
    refine va_getsN hx hb hZ.zREBUILDS hS hown (va_Nw.use rfl (hE.nw (w := .fieldLinkNest RX4 55 "SoundLaws" "REBUILDS" "[I" RX8) 24 rfl)) (fun _ h9 => h9) dX4_could_42 ?_
    refine lv_iload_n hx hb dX4_could_45 rfl (lv_at hl 0 rfl) ?_
    refine k_tld k rfl (by omega) hx hb hZ.tREBUILDS hS (by decide) (v := tb_REBUILDS.getD k 0) rfl dX4_could_46 ?_
    refine lv_if_eq (tgt := 54) hx hb dX4_could_47 (by decide) (fun c47_2 => ?_) (fun c47_2 => ?_)
    · skip
      refine lv_iconst (v := 0) hx hb dX4_could_54 (by decide) ?_
      refine W.widen (k := 0) (n := 0) (Nat.le_of_ble_eq_true rfl) (Nat.le_of_ble_eq_true rfl) ?_
      exact k_rz hx hb hr hlocks hS hP hD rfl rfl dX4_could_55
    · skip
      refine lv_iconst (v := 1) hx hb dX4_could_50 (by decide) ?_
      refine lv_goto (tgt := 55) hx hb dX4_could_51 (by decide) ?_
      refine W.widen (k := 0) (n := 0) (Nat.le_of_ble_eq_true rfl) (Nat.le_of_ble_eq_true rfl) ?_
      exact k_rz hx hb hr hlocks hS hP hD rfl rfl dX4_could_55
  by_cases w1_2 : p1 = 2
  · refine lv_tableIn (tgt := 56) (off := 55) hx hb dX4_could_1 (by rw [w1_2]; decide) (by rw [w1_2]; decide) (by rw [w1_2]; decide) (by decide) ?_
    refine va_getsN hx hb hZ.zWEIGHTS hS hown (va_Nw.use rfl (hE.nw (w := .fieldLinkNest RX4 52 "SoundLaws" "WEIGHTS" "[I" RX8) 23 rfl)) (fun _ h9 => h9) dX4_could_56 ?_
    refine lv_iload_n hx hb dX4_could_59 rfl (lv_at hl 0 rfl) ?_
    refine k_tld k rfl (by omega) hx hb hZ.tWEIGHTS hS (by decide) (v := tb_WEIGHTS.getD k 0) rfl dX4_could_60 ?_
    refine lv_iconst (v := 2) hx hb dX4_could_61 (by decide) ?_
    refine lv_icmp_ne (tgt := 69) hx hb dX4_could_62 (by decide) (fun c62_3 => ?_) (fun c62_3 => ?_)
    · skip
      refine lv_iconst (v := 0) hx hb dX4_could_69 (by decide) ?_
      refine W.widen (k := 0) (n := 0) (Nat.le_of_ble_eq_true rfl) (Nat.le_of_ble_eq_true rfl) ?_
      exact k_rz hx hb hr hlocks hS hP hD rfl rfl dX4_could_70
    · skip
      refine lv_iconst (v := 1) hx hb dX4_could_65 (by decide) ?_
      refine lv_goto (tgt := 70) hx hb dX4_could_66 (by decide) ?_
      refine W.widen (k := 0) (n := 0) (Nat.le_of_ble_eq_true rfl) (Nat.le_of_ble_eq_true rfl) ?_
      exact k_rz hx hb hr hlocks hS hP hD rfl rfl dX4_could_70
  refine lv_tableOut (tgt := 71) hx hb dX4_could_1 (by have q0 := lv_neT w1_0 (show (0 : Int32).toInt = 0 from rfl); have q1 := lv_neT w1_1 (show (1 : Int32).toInt = 1 from rfl); have q2 := lv_neT w1_2 (show (2 : Int32).toInt = 2 from rfl); omega) (by decide) ?_
  refine va_getsN hx hb hZ.zREBUILDS hS hown (va_Nw.use rfl (hE.nw (w := .fieldLinkNest RX4 55 "SoundLaws" "REBUILDS" "[I" RX8) 24 rfl)) (fun _ h9 => h9) dX4_could_71 ?_
  refine lv_iload_n hx hb dX4_could_74 rfl (lv_at hl 0 rfl) ?_
  refine k_tld k rfl (by omega) hx hb hZ.tREBUILDS hS (by decide) (v := tb_REBUILDS.getD k 0) rfl dX4_could_75 ?_
  refine lv_if_eq (tgt := 91) hx hb dX4_could_76 (by decide) (fun c76_4 => ?_) (fun c76_4 => ?_)
  · skip
    refine lv_iconst (v := 0) hx hb dX4_could_91 (by decide) ?_
    refine W.widen (k := 0) (n := 0) (Nat.le_of_ble_eq_true rfl) (Nat.le_of_ble_eq_true rfl) ?_
    exact k_rz hx hb hr hlocks hS hP hD rfl rfl dX4_could_92
  · skip
    refine va_getsN hx hb hZ.zWEIGHTS hS hown (va_Nw.use rfl (hE.nw (w := .fieldLinkNest RX4 52 "SoundLaws" "WEIGHTS" "[I" RX8) 23 rfl)) (fun _ h9 => h9) dX4_could_79 ?_
    refine lv_iload_n hx hb dX4_could_82 rfl (lv_at hl 0 rfl) ?_
    refine k_tld k rfl (by omega) hx hb hZ.tWEIGHTS hS (by decide) (v := tb_WEIGHTS.getD k 0) rfl dX4_could_83 ?_
    refine lv_if_ne (tgt := 91) hx hb dX4_could_84 (by decide) (fun c84_5 => ?_) (fun c84_5 => ?_)
    · skip
      refine lv_iconst (v := 0) hx hb dX4_could_91 (by decide) ?_
      refine W.widen (k := 0) (n := 0) (Nat.le_of_ble_eq_true rfl) (Nat.le_of_ble_eq_true rfl) ?_
      exact k_rz hx hb hr hlocks hS hP hD rfl rfl dX4_could_92
    · skip
      refine lv_iconst (v := 1) hx hb dX4_could_87 (by decide) ?_
      refine lv_goto (tgt := 92) hx hb dX4_could_88 (by decide) ?_
      refine W.widen (k := 0) (n := 0) (Nat.le_of_ble_eq_true rfl) (Nat.le_of_ble_eq_true rfl) ?_
      exact k_rz hx hb hr hlocks hS hP hD rfl rfl dX4_could_92
def po_X4_sortsThatCould_g (g : GG) (p1 : Int32) : Int32 → va_W → Prop := fun (r : Int32) w => w = []
set_option maxHeartbeats 1500000 in
set_option maxRecDepth 100000 in
theorem c_X4_sortsThatCould_g (l : Launch) (g : GG) (p1 : Int32)  (sz : Nat) : MetI l yX4_sortsThatCould wsX4_sortsThatCould ({ frames := 1, cells := 0, slots := 0, locals := 21 }) g [.int p1] [] sz (po_X4_sortsThatCould_g g p1) 0 0 := by
  refine k_of (l := l) (y := yX4_sortsThatCould) (ws := wsX4_sortsThatCould) (rm := { frames := 1, cells := 0, slots := 0, locals := 21 }) (mc := 0) (ms := 0) (av := [.int p1]) (g := g) (wc := []) (Qc := fun A => va_Qi (po_X4_sortsThatCould_g g p1) (bk g A) A) (cc := cX4_sortsThatCould) (maxL := 3) (ret := (some .int)) (by decide) rfl (Nat.le_of_ble_eq_true rfl) ?_ sz
  intro p e s m below meth c hx hb hr hts hown hlocks hnm hml A hA hE hZ hP hD hS ls hl
  have hown : s.vm.findClass RX4 = some m.cls := hown
  have hl : lv_has ls 3 [(0, .int p1)] := hl
  refine lv_iconst (v := 0) hx hb dX4_sortsThatCould_0 (by decide) ?_
  refine lv_istore_n (lv' := [(1, .int 0), (0, .int p1)]) hx hb dX4_sortsThatCould_1 rfl hl (by decide) rfl (fun ls hl => ?_)
  refine lv_iconst (v := 0) hx hb dX4_sortsThatCould_2 (by decide) ?_
  refine lv_istore_n (lv' := [(2, .int 0), (1, .int 0), (0, .int p1)]) hx hb dX4_sortsThatCould_3 rfl hl (by decide) rfl (fun ls hl => ?_)
  have loop4 : ∀ (fu : Nat) (k : Nat) (x1 : Int32), (hk : k ≤ 5) → 5 - k < fu → ∀ (H : Heap) (locs : List Loc) (ls : Array Slot), va_P g.1 vwCl [] H → va_D A [] → va_S A s.heap H locs → lv_has ls 3 [(0, .int p1), (1, .int x1), (2, .int (nI k))] → W p l e ({ frames := 1, cells := 0, slots := 0, locals := 21 }) s m [.int p1].toArray below meth c H locs 0 0 (MQ below (va_Qi (po_X4_sortsThatCould_g g p1) (bk g A) A) [.int p1].toArray s 0 0 A) (F0 m 4 ls []) := by
    intro fu
    induction fu with
    | zero => intro k x1 hk hfu; exact absurd hfu (Nat.not_lt_zero _)
    | succ fu ih =>
      intro k x1 hk hfu H locs ls hP hD hS hl
      have ih4 := ih
      refine lv_iload_n hx hb dX4_sortsThatCould_4 rfl (lv_at hl 2 rfl) ?_
      refine lv_iconst (v := 5) hx hb dX4_sortsThatCould_5 (by decide) ?_
      refine lv_icmp_ge (tgt := 29) hx hb dX4_sortsThatCould_6 (by decide) (fun c6_1 => ?_) (fun c6_1 => ?_)
      · skip
        refine lv_iload_n hx hb dX4_sortsThatCould_29 rfl (lv_at hl 1 rfl) ?_
        refine W.widen (k := 0) (n := 0) (Nat.le_of_ble_eq_true rfl) (Nat.le_of_ble_eq_true rfl) ?_
        exact k_ri hx hb hr hlocks hS hP hD rfl dX4_sortsThatCould_30
      · skip
        have hk9 := lt_of_nle (k := 5) (n := k) (by decide) (by omega) c6_1
        refine lv_iload_n hx hb dX4_sortsThatCould_9 rfl (lv_at hl 2 rfl) ?_
        refine lv_iload_n hx hb dX4_sortsThatCould_10 rfl (lv_at hl 0 rfl) ?_
        refine k_ci (wr := []) hP hD hS hA [] [] rfl rfl (by decide) (by decide) (va_runS (As := [.int (nI k), .int p1]) (rest := []) ⟨hx, hb, hml, hown, hts⟩ (c_X4_could_g l g k p1 (by first | assumption | omega) H.size) (va_cwS 2 hts gX4_sortsThatCould_X4_could rfl rfl rfl (by decide +kernel) ⟨Nat.le_of_ble_eq_true rfl, Nat.le_of_ble_eq_true rfl⟩) (k_preS hE hZ hP hD hS hA [] rfl (by decide)) rfl rfl hl.1 rfl (lv_room (Nat.le_of_ble_eq_true rfl)) dX4_sortsThatCould_11 ⟨Nat.le_of_ble_eq_true rfl, Nat.le_of_ble_eq_true rfl⟩) (fun r_2 w1 H locs hw hP hD hS => ?_)
        obtain rfl := hw
        have hP : va_P g.1 vwCl [] H := hP
        have hD : va_D A [] := hD
        refine lv_if_eq (tgt := 23) hx hb dX4_sortsThatCould_14 (by decide) (fun c14_3 => ?_) (fun c14_3 => ?_)
        · skip
          refine lv_iinc (v := (nI (k + 1))) (lv' := [(2, .int (nI (k + 1))), (0, .int p1), (1, .int x1)]) hx hb dX4_sortsThatCould_23 hl (k := 2) rfl (nI_1 _) (by decide) rfl (fun ls hl => ?_)
          refine lv_goto (tgt := 4) hx hb dX4_sortsThatCould_26 (by decide) ?_
          exact ih4 (k + 1) _ (by omega) (by omega) _ _ _ hP hD hS (lv_sub hl [1, 2, 0] rfl)
        · skip
          refine lv_iload_n hx hb dX4_sortsThatCould_17 rfl (lv_at hl 1 rfl) ?_
          refine lv_iconst (v := 1) hx hb dX4_sortsThatCould_18 (by decide) ?_
          refine lv_iload_n hx hb dX4_sortsThatCould_19 rfl (lv_at hl 2 rfl) ?_
          refine lv_ishl hx hb dX4_sortsThatCould_20 ?_
          refine lv_ior hx hb dX4_sortsThatCould_21 ?_
          refine lv_topi (fun x1b ex1b => ?_)
          refine lv_istore_n (lv' := [(1, .int x1b), (0, .int p1), (2, .int (nI k))]) hx hb dX4_sortsThatCould_22 rfl hl (by decide) rfl (fun ls hl => ?_)
          refine lv_iinc (v := (nI (k + 1))) (lv' := [(2, .int (nI (k + 1))), (1, .int x1b), (0, .int p1)]) hx hb dX4_sortsThatCould_23 hl (k := 2) rfl (nI_1 _) (by decide) rfl (fun ls hl => ?_)
          refine lv_goto (tgt := 4) hx hb dX4_sortsThatCould_26 (by decide) ?_
          exact ih4 (k + 1) _ (by omega) (by omega) _ _ _ hP hD hS (lv_sub hl [2, 1, 0] rfl)
  exact loop4 _ 0 0 (Nat.zero_le 5) (Nat.lt_succ_self _) _ _ _ hP hD hS (lv_sub hl [2, 1, 0] rfl)
def po_X4_sortsOf_g (g : GG) (q1 : Nat) (q2 : Nat) (q3 : Nat) (si : Nat) (A1 : Nat → Int32) (A2 : Nat → Int32) (A3 : Nat → Int32) (n : Nat) (p1 : Int32) : Int32 → va_W → Prop := fun (r : Int32) w => w = [(si, .inr (4, [.int (nI n), .ref q1, .ref q2, .ref q3])), (q1, ai g 6 A1), (q2, ai g 6 A2), (q3, az g 6 A3)]
theorem q_X4_sortsOf_g_f4 : ∀ w ∈ u_ws RX4 TX4 4, w ∈ wsX4_sortsOf := by decide +kernel
theorem q_X4_sortsOf_g_1 : (Cond.fieldLink RX4 22 "SoundLaws$Sightings" "size" "I") ∈ wsX4_sortsOf := by decide +kernel
theorem q_X4_sortsOf_g_2 : (Cond.fieldLink RX4 9 "SoundLaws$Sightings" "sets" "[I") ∈ wsX4_sortsOf := by decide +kernel
theorem q_X4_sortsOf_g_3 : (Cond.fieldLink RX4 15 "SoundLaws$Sightings" "questions" "[I") ∈ wsX4_sortsOf := by decide +kernel
theorem q_X4_sortsOf_g_4 : (Cond.fieldLink RX4 18 "SoundLaws$Sightings" "answers" "[Z") ∈ wsX4_sortsOf := by decide +kernel
set_option maxHeartbeats 1500000 in
set_option maxRecDepth 100000 in
theorem c_X4_sortsOf_g (l : Launch) (g : GG) (q1 : Nat) (q2 : Nat) (q3 : Nat) (si : Nat) (A1 : Nat → Int32) (A2 : Nat → Int32) (A3 : Nat → Int32) (n : Nat) (p1 : Int32) (hn : n ≤ 6) (sz : Nat) : MetI l yX4_sortsOf wsX4_sortsOf ({ frames := 2, cells := 0, slots := 0, locals := 43 }) g [.ref si, .int p1] [(si, .inr (4, [.int (nI n), .ref q1, .ref q2, .ref q3])), (q1, ai g 6 A1), (q2, ai g 6 A2), (q3, az g 6 A3)] sz (po_X4_sortsOf_g g q1 q2 q3 si A1 A2 A3 n p1) 0 0 := by
  refine k_of (l := l) (y := yX4_sortsOf) (ws := wsX4_sortsOf) (rm := { frames := 2, cells := 0, slots := 0, locals := 43 }) (mc := 0) (ms := 0) (av := [.ref si, .int p1]) (g := g) (wc := [(si, .inr (4, [.int (nI n), .ref q1, .ref q2, .ref q3])), (q1, ai g 6 A1), (q2, ai g 6 A2), (q3, az g 6 A3)]) (Qc := fun A => va_Qi (po_X4_sortsOf_g g q1 q2 q3 si A1 A2 A3 n p1) (bk g A) A) (cc := cX4_sortsOf) (maxL := 5) (ret := (some .int)) (by decide) rfl (Nat.le_of_ble_eq_true rfl) ?_ sz
  intro p e s m below meth c hx hb hr hts hown hlocks hnm hml A hA hE hZ hP hD hS ls hl
  have hown : s.vm.findClass RX4 = some m.cls := hown
  have hl : lv_has ls 5 [(0, .ref si), (1, .int p1)] := hl
  refine lv_bipush (v := 31) hx hb dX4_sortsOf_0 (by decide) ?_
  refine lv_istore_n (lv' := [(2, .int 31), (0, .ref si), (1, .int p1)]) hx hb dX4_sortsOf_2 rfl hl (by decide) rfl (fun ls hl => ?_)
  refine lv_iconst (v := 0) hx hb dX4_sortsOf_3 (by decide) ?_
  refine lv_istore_n (lv' := [(3, .int 0), (2, .int 31), (0, .ref si), (1, .int p1)]) hx hb dX4_sortsOf_4 rfl hl (by decide) rfl (fun ls hl => ?_)
  have loop5 : ∀ (fu : Nat) (a : Nat) (x2 : Int32), (ha : a ≤ n) → n - a < fu → ∀ (H : Heap) (locs : List Loc) (ls : Array Slot), va_P g.1 vwCl [(si, .inr (4, [.int (nI n), .ref q1, .ref q2, .ref q3])), (q1, ai g 6 A1), (q2, ai g 6 A2), (q3, az g 6 A3)] H → va_D A [(si, .inr (4, [.int (nI n), .ref q1, .ref q2, .ref q3])), (q1, ai g 6 A1), (q2, ai g 6 A2), (q3, az g 6 A3)] → va_S A s.heap H locs → lv_has ls 5 [(0, .ref si), (1, .int p1), (2, .int x2), (3, .int (nI a))] → W p l e ({ frames := 2, cells := 0, slots := 0, locals := 43 }) s m [.ref si, .int p1].toArray below meth c H locs 0 0 (MQ below (va_Qi (po_X4_sortsOf_g g q1 q2 q3 si A1 A2 A3 n p1) (bk g A) A) [.ref si, .int p1].toArray s 0 0 A) (F0 m 5 ls []) := by
    intro fu
    induction fu with
    | zero => intro a x2 ha hfu; exact absurd hfu (Nat.not_lt_zero _)
    | succ fu ih =>
      intro a x2 ha hfu H locs ls hP hD hS hl
      have ih5 := ih
      refine lv_iload_n hx hb dX4_sortsOf_5 rfl (lv_at hl 3 rfl) ?_
      refine lv_aload_n hx hb dX4_sortsOf_6 rfl (lv_at hl 0 rfl) ?_
      refine va_get (D := g.1) (ci := 4) (v := .int (nI n)) (C := RX4) (T := TX4) (N := 4) hx hb hts q_X4_sortsOf_g_f4 hown hE.1 hP 0 rfl rfl 0 (by decide) (hts (.fieldLink RX4 22 "SoundLaws$Sightings" "size" "I") q_X4_sortsOf_g_1) (fun _ h9 => h9) rfl dX4_sortsOf_7 ?_
      refine lv_icmp_ge (tgt := 61) hx hb dX4_sortsOf_10 (by decide) (fun c10_1 => ?_) (fun c10_1 => ?_)
      · skip
        refine lv_iload_n hx hb dX4_sortsOf_61 rfl (lv_at hl 2 rfl) ?_
        refine W.widen (k := 0) (n := 0) (Nat.le_of_ble_eq_true rfl) (Nat.le_of_ble_eq_true rfl) ?_
        exact k_ri hx hb hr hlocks hS hP hD rfl dX4_sortsOf_62
      · skip
        have ha9 := lt_of_nle (k := n) (n := a) (by omega) (by omega) c10_1
        refine lv_aload_n hx hb dX4_sortsOf_13 rfl (lv_at hl 0 rfl) ?_
        refine va_get (D := g.1) (ci := 4) (v := .ref q1) (C := RX4) (T := TX4) (N := 4) hx hb hts q_X4_sortsOf_g_f4 hown hE.1 hP 0 rfl rfl 1 (by decide) (hts (.fieldLink RX4 9 "SoundLaws$Sightings" "sets" "[I") q_X4_sortsOf_g_2) (fun _ h9 => h9) rfl dX4_sortsOf_14 ?_
        refine lv_iload_n hx hb dX4_sortsOf_17 rfl (lv_at hl 3 rfl) ?_
        refine k_ald a rfl (by omega) hx hb hE hP 1 rfl (by decide) dX4_sortsOf_18 ?_
        refine lv_iload_n hx hb dX4_sortsOf_19 rfl (lv_at hl 1 rfl) ?_
        refine lv_icmp_ne (tgt := 55) hx hb dX4_sortsOf_20 (by decide) (fun c20_2 => ?_) (fun c20_2 => ?_)
        · skip
          refine lv_iinc (v := (nI (a + 1))) (lv' := [(3, .int (nI (a + 1))), (0, .ref si), (1, .int p1), (2, .int x2)]) hx hb dX4_sortsOf_55 hl (k := 3) rfl (nI_1 _) (by decide) rfl (fun ls hl => ?_)
          refine lv_goto (tgt := 5) hx hb dX4_sortsOf_58 (by decide) ?_
          exact ih5 (a + 1) _ (by omega) (by omega) _ _ _ hP hD hS (lv_sub hl [1, 2, 3, 0] rfl)
        · skip
          refine lv_aload_n hx hb dX4_sortsOf_23 rfl (lv_at hl 0 rfl) ?_
          refine va_get (D := g.1) (ci := 4) (v := .ref q2) (C := RX4) (T := TX4) (N := 4) hx hb hts q_X4_sortsOf_g_f4 hown hE.1 hP 0 rfl rfl 2 (by decide) (hts (.fieldLink RX4 15 "SoundLaws$Sightings" "questions" "[I") q_X4_sortsOf_g_3) (fun _ h9 => h9) rfl dX4_sortsOf_24 ?_
          refine lv_iload_n hx hb dX4_sortsOf_27 rfl (lv_at hl 3 rfl) ?_
          refine k_ald a rfl (by omega) hx hb hE hP 2 rfl (by decide) dX4_sortsOf_28 ?_
          refine k_ci (wr := [(si, .inr (4, [.int (nI n), .ref q1, .ref q2, .ref q3])), (q1, ai g 6 A1), (q2, ai g 6 A2), (q3, az g 6 A3)]) hP hD hS hA [] [0, 1, 2, 3] rfl rfl (by decide) (by decide) (va_runS (As := [.int (A2 a)]) (rest := []) ⟨hx, hb, hml, hown, hts⟩ (c_X4_sortsThatCould_g l g (A2 a)  H.size) (va_cwS 1 hts gX4_sortsOf_X4_sortsThatCould rfl rfl rfl (by decide +kernel) ⟨Nat.le_of_ble_eq_true rfl, Nat.le_of_ble_eq_true rfl⟩) (k_preS hE hZ hP hD hS hA [] rfl (by decide)) rfl rfl hl.1 rfl (lv_room (Nat.le_of_ble_eq_true rfl)) dX4_sortsOf_29 ⟨Nat.le_of_ble_eq_true rfl, Nat.le_of_ble_eq_true rfl⟩) (fun r_3 w1 H locs hw hP hD hS => ?_)
          obtain rfl := hw
          have hP : va_P g.1 vwCl [(si, .inr (4, [.int (nI n), .ref q1, .ref q2, .ref q3])), (q1, ai g 6 A1), (q2, ai g 6 A2), (q3, az g 6 A3)] H := hP
          have hD : va_D A [(si, .inr (4, [.int (nI n), .ref q1, .ref q2, .ref q3])), (q1, ai g 6 A1), (q2, ai g 6 A2), (q3, az g 6 A3)] := hD
          refine lv_istore (lv' := [(4, .int r_3), (0, .ref si), (1, .int p1), (2, .int x2), (3, .int (nI a))]) hx hb dX4_sortsOf_32 hl (by decide) rfl (fun ls hl => ?_)
          refine lv_iload_n hx hb dX4_sortsOf_34 rfl (lv_at hl 3 rfl) ?_
          refine lv_aload_n hx hb dX4_sortsOf_35 rfl (lv_at hl 1 rfl) ?_
          refine va_get (D := g.1) (ci := 4) (v := .ref q3) (C := RX4) (T := TX4) (N := 4) hx hb hts q_X4_sortsOf_g_f4 hown hE.1 hP 0 rfl rfl 3 (by decide) (hts (.fieldLink RX4 18 "SoundLaws$Sightings" "answers" "[Z") q_X4_sortsOf_g_4) (fun _ h9 => h9) rfl dX4_sortsOf_36 ?_
          refine lv_iload_n hx hb dX4_sortsOf_39 rfl (lv_at hl 4 rfl) ?_
          refine k_zld a rfl (by omega) hx hb hE hP 3 rfl (by decide) dX4_sortsOf_40 ?_
          refine lv_if_eq (tgt := 49) hx hb dX4_sortsOf_41 (by decide) (fun c41_4 => ?_) (fun c41_4 => ?_)
          · skip
            refine lv_iload hx hb dX4_sortsOf_49 (lv_at hl 0 rfl) ?_
            refine lv_iconst (v := (-1)) hx hb dX4_sortsOf_51 (by decide) ?_
            refine lv_ixor hx hb dX4_sortsOf_52 ?_
            refine lv_iand hx hb dX4_sortsOf_53 ?_
            refine lv_topi (fun x2b ex2b => ?_)
            refine lv_istore_n (lv' := [(2, .int x2b), (4, .int r_3), (0, .ref si), (1, .int p1), (3, .int (nI a))]) hx hb dX4_sortsOf_54 rfl hl (by decide) rfl (fun ls hl => ?_)
            refine lv_iinc (v := (nI (a + 1))) (lv' := [(3, .int (nI (a + 1))), (2, .int x2b), (4, .int r_3), (0, .ref si), (1, .int p1)]) hx hb dX4_sortsOf_55 hl (k := 4) rfl (nI_1 _) (by decide) rfl (fun ls hl => ?_)
            refine lv_goto (tgt := 5) hx hb dX4_sortsOf_58 (by decide) ?_
            exact ih5 (a + 1) _ (by omega) (by omega) _ _ _ hP hD hS (lv_sub hl [3, 4, 1, 0] rfl)
          · skip
            refine lv_iload hx hb dX4_sortsOf_44 (lv_at hl 0 rfl) ?_
            refine lv_goto (tgt := 53) hx hb dX4_sortsOf_46 (by decide) ?_
            refine lv_iand hx hb dX4_sortsOf_53 ?_
            refine lv_topi (fun x2b ex2b => ?_)
            refine lv_istore_n (lv' := [(2, .int x2b), (4, .int r_3), (0, .ref si), (1, .int p1), (3, .int (nI a))]) hx hb dX4_sortsOf_54 rfl hl (by decide) rfl (fun ls hl => ?_)
            refine lv_iinc (v := (nI (a + 1))) (lv' := [(3, .int (nI (a + 1))), (2, .int x2b), (4, .int r_3), (0, .ref si), (1, .int p1)]) hx hb dX4_sortsOf_55 hl (k := 4) rfl (nI_1 _) (by decide) rfl (fun ls hl => ?_)
            refine lv_goto (tgt := 5) hx hb dX4_sortsOf_58 (by decide) ?_
            exact ih5 (a + 1) _ (by omega) (by omega) _ _ _ hP hD hS (lv_sub hl [3, 4, 1, 0] rfl)
  exact loop5 _ 0 31 (Nat.zero_le n) (Nat.lt_succ_self _) _ _ _ hP hD hS (lv_sub hl [2, 3, 1, 0] rfl)
def po_X4_questionFor_g (g : GG) (q1 : Nat) (q2 : Nat) (q3 : Nat) (si : Nat) (A1 : Nat → Int32) (A2 : Nat → Int32) (A3 : Nat → Int32) (n : Nat) (p1 : Int32) : Int32 → va_W → Prop := fun (r : Int32) w => w = [(si, .inr (4, [.int (nI n), .ref q1, .ref q2, .ref q3])), (q1, ai g 6 A1), (q2, ai g 6 A2), (q3, az g 6 A3)]
theorem q_X4_questionFor_g_0 : (Cond.methodLink RX4 42 Lib.Math.max.name) ∈ wsX4_questionFor := by decide +kernel
theorem q_X4_questionFor_g_1 : (Cond.static Lib.Math.max.name) ∈ wsX4_questionFor := by decide +kernel
theorem q_X4_questionFor_g_2 : (Cond.initialized "java/lang/Math") ∈ wsX4_questionFor := by decide +kernel
theorem q_X4_questionFor_g_3 : (Cond.code Lib.Math.max.name Lib.Math.max.code 2 (some .int)) ∈ wsX4_questionFor := by decide +kernel
set_option maxHeartbeats 1500000 in
set_option maxRecDepth 100000 in
theorem c_X4_questionFor_g (l : Launch) (g : GG) (q1 : Nat) (q2 : Nat) (q3 : Nat) (si : Nat) (A1 : Nat → Int32) (A2 : Nat → Int32) (A3 : Nat → Int32) (n : Nat) (p1 : Int32) (hn : n ≤ 6) (sz : Nat) : MetI l yX4_questionFor wsX4_questionFor ({ frames := 3, cells := 0, slots := 0, locals := 67 }) g [.ref si, .int p1] [(si, .inr (4, [.int (nI n), .ref q1, .ref q2, .ref q3])), (q1, ai g 6 A1), (q2, ai g 6 A2), (q3, az g 6 A3)] sz (po_X4_questionFor_g g q1 q2 q3 si A1 A2 A3 n p1) 0 0 := by
  refine k_of (l := l) (y := yX4_questionFor) (ws := wsX4_questionFor) (rm := { frames := 3, cells := 0, slots := 0, locals := 67 }) (mc := 0) (ms := 0) (av := [.ref si, .int p1]) (g := g) (wc := [(si, .inr (4, [.int (nI n), .ref q1, .ref q2, .ref q3])), (q1, ai g 6 A1), (q2, ai g 6 A2), (q3, az g 6 A3)]) (Qc := fun A => va_Qi (po_X4_questionFor_g g q1 q2 q3 si A1 A2 A3 n p1) (bk g A) A) (cc := cX4_questionFor) (maxL := 8) (ret := (some .int)) (by decide) rfl (Nat.le_of_ble_eq_true rfl) ?_ sz
  intro p e s m below meth c hx hb hr hts hown hlocks hnm hml A hA hE hZ hP hD hS ls hl
  have hown : s.vm.findClass RX4 = some m.cls := hown
  have hl : lv_has ls 8 [(0, .ref si), (1, .int p1)] := hl
  refine lv_aload_n hx hb dX4_questionFor_0 rfl (lv_at hl 0 rfl) ?_
  refine lv_iload_n hx hb dX4_questionFor_1 rfl (lv_at hl 1 rfl) ?_
  refine k_ci (wr := []) hP hD hS hA [0, 1, 2, 3] [] rfl rfl (by decide) (by decide) (va_runV (As := [.int p1]) (rest := []) ⟨hx, hb, hml, hown, hts⟩ (c_X4_sortsOf_g l g q1 q2 q3 si A1 A2 A3 n p1 (by first | assumption | omega) s.heap.size) (cwV 1 hts gX4_questionFor_X4_sortsOf rfl rfl rfl (by decide +kernel) ⟨Nat.le_of_ble_eq_true rfl, Nat.le_of_ble_eq_true rfl⟩) (k_preV hE hZ hP hD hS hA [0, 1, 2, 3] rfl (by decide) (va_recv hE.1 hP (ci := 4) (q0 := 0) rfl rfl)) rfl rfl hl.1 rfl (lv_room (Nat.le_of_ble_eq_true rfl)) dX4_questionFor_2 ⟨Nat.le_of_ble_eq_true rfl, Nat.le_of_ble_eq_true rfl⟩) (fun r_1 w1 H locs hw hP hD hS => ?_)
  obtain rfl := hw
  have hP : va_P g.1 vwCl [(si, .inr (4, [.int (nI n), .ref q1, .ref q2, .ref q3])), (q1, ai g 6 A1), (q2, ai g 6 A2), (q3, az g 6 A3)] H := hP
  have hD : va_D A [(si, .inr (4, [.int (nI n), .ref q1, .ref q2, .ref q3])), (q1, ai g 6 A1), (q2, ai g 6 A2), (q3, az g 6 A3)] := hD
  refine lv_istore_n (lv' := [(2, .int r_1), (0, .ref si), (1, .int p1)]) hx hb dX4_questionFor_5 rfl hl (by decide) rfl (fun ls hl => ?_)
  refine lv_iconst (v := (-1)) hx hb dX4_questionFor_6 (by decide) ?_
  refine lv_istore_n (lv' := [(3, .int (-1)), (2, .int r_1), (0, .ref si), (1, .int p1)]) hx hb dX4_questionFor_7 rfl hl (by decide) rfl (fun ls hl => ?_)
  refine lv_iconst (v := 0) hx hb dX4_questionFor_8 (by decide) ?_
  refine lv_istore (lv' := [(4, .int 0), (3, .int (-1)), (2, .int r_1), (0, .ref si), (1, .int p1)]) hx hb dX4_questionFor_9 hl (by decide) rfl (fun ls hl => ?_)
  refine lv_iconst (v := 0) hx hb dX4_questionFor_11 (by decide) ?_
  refine lv_istore (lv' := [(5, .int 0), (4, .int 0), (3, .int (-1)), (2, .int r_1), (0, .ref si), (1, .int p1)]) hx hb dX4_questionFor_12 hl (by decide) rfl (fun ls hl => ?_)
  have loop14 : ∀ (fu : Nat) (a : Nat) (x3 x4 : Int32), (ha : a ≤ 4) → 4 - a < fu → ∀ (H : Heap) (locs : List Loc) (ls : Array Slot), va_P g.1 vwCl [(si, .inr (4, [.int (nI n), .ref q1, .ref q2, .ref q3])), (q1, ai g 6 A1), (q2, ai g 6 A2), (q3, az g 6 A3)] H → va_D A [(si, .inr (4, [.int (nI n), .ref q1, .ref q2, .ref q3])), (q1, ai g 6 A1), (q2, ai g 6 A2), (q3, az g 6 A3)] → va_S A s.heap H locs → lv_has ls 8 [(0, .ref si), (1, .int p1), (2, .int r_1), (3, .int x3), (4, .int x4), (5, .int (nI a))] → W p l e ({ frames := 3, cells := 0, slots := 0, locals := 67 }) s m [.ref si, .int p1].toArray below meth c H locs 0 0 (MQ below (va_Qi (po_X4_questionFor_g g q1 q2 q3 si A1 A2 A3 n p1) (bk g A) A) [.ref si, .int p1].toArray s 0 0 A) (F0 m 14 ls []) := by
    intro fu
    induction fu with
    | zero => intro a x3 x4 ha hfu; exact absurd hfu (Nat.not_lt_zero _)
    | succ fu ih =>
      intro a x3 x4 ha hfu H locs ls hP hD hS hl
      have ih14 := ih
      refine lv_iload hx hb dX4_questionFor_14 (lv_at hl 5 rfl) ?_
      refine lv_iconst (v := 4) hx hb dX4_questionFor_16 (by decide) ?_
      refine lv_icmp_ge (tgt := 77) hx hb dX4_questionFor_17 (by decide) (fun c17_2 => ?_) (fun c17_2 => ?_)
      · skip
        refine lv_iload_n hx hb dX4_questionFor_77 rfl (lv_at hl 3 rfl) ?_
        refine W.widen (k := 0) (n := 0) (Nat.le_of_ble_eq_true rfl) (Nat.le_of_ble_eq_true rfl) ?_
        exact k_ri hx hb hr hlocks hS hP hD rfl dX4_questionFor_78
      · skip
        have ha9 := lt_of_nle (k := 4) (n := a) (by decide) (by omega) c17_2
        refine lv_iload_n hx hb dX4_questionFor_20 rfl (lv_at hl 2 rfl) ?_
        refine lv_if_eq (tgt := 77) hx hb dX4_questionFor_21 (by decide) (fun c21_3 => ?_) (fun c21_3 => ?_)
        · skip
          refine lv_iload_n hx hb dX4_questionFor_77 rfl (lv_at hl 3 rfl) ?_
          refine W.widen (k := 0) (n := 0) (Nat.le_of_ble_eq_true rfl) (Nat.le_of_ble_eq_true rfl) ?_
          exact k_ri hx hb hr hlocks hS hP hD rfl dX4_questionFor_78
        · skip
          refine lv_iload hx hb dX4_questionFor_24 (lv_at hl 5 rfl) ?_
          refine k_ci (wr := [(si, .inr (4, [.int (nI n), .ref q1, .ref q2, .ref q3])), (q1, ai g 6 A1), (q2, ai g 6 A2), (q3, az g 6 A3)]) hP hD hS hA [] [0, 1, 2, 3] rfl rfl (by decide) (by decide) (va_runS (As := [.int (nI a)]) (rest := []) ⟨hx, hb, hml, hown, hts⟩ (c_X4_sortsThatCould_g l g (nI a)  H.size) (va_cwS 1 hts gX4_questionFor_X4_sortsThatCould rfl rfl rfl (by decide +kernel) ⟨Nat.le_of_ble_eq_true rfl, Nat.le_of_ble_eq_true rfl⟩) (k_preS hE hZ hP hD hS hA [] rfl (by decide)) rfl rfl hl.1 rfl (lv_room (Nat.le_of_ble_eq_true rfl)) dX4_questionFor_26 ⟨Nat.le_of_ble_eq_true rfl, Nat.le_of_ble_eq_true rfl⟩) (fun r_4 w1 H locs hw hP hD hS => ?_)
          obtain rfl := hw
          have hP : va_P g.1 vwCl [(si, .inr (4, [.int (nI n), .ref q1, .ref q2, .ref q3])), (q1, ai g 6 A1), (q2, ai g 6 A2), (q3, az g 6 A3)] H := hP
          have hD : va_D A [(si, .inr (4, [.int (nI n), .ref q1, .ref q2, .ref q3])), (q1, ai g 6 A1), (q2, ai g 6 A2), (q3, az g 6 A3)] := hD
          refine lv_istore (lv' := [(6, .int r_4), (0, .ref si), (1, .int p1), (2, .int r_1), (3, .int x3), (4, .int x4), (5, .int (nI a))]) hx hb dX4_questionFor_29 hl (by decide) rfl (fun ls hl => ?_)
          refine lv_iload_n hx hb dX4_questionFor_31 rfl (lv_at hl 3 rfl) ?_
          refine lv_iload hx hb dX4_questionFor_32 (lv_at hl 0 rfl) ?_
          refine lv_iand hx hb dX4_questionFor_34 ?_
          refine k_ci (wr := [(si, .inr (4, [.int (nI n), .ref q1, .ref q2, .ref q3])), (q1, ai g 6 A1), (q2, ai g 6 A2), (q3, az g 6 A3)]) hP hD hS hA [] [0, 1, 2, 3] rfl rfl (by decide) (by decide) (va_runS (As := [.int (r_1 &&& r_4)]) (rest := []) ⟨hx, hb, hml, hown, hts⟩ (c_J6_bitCount_0f7a4_g l g (r_1 &&& r_4)  H.size) (va_cwS 1 hts gX4_questionFor_J6_bitCount_0f7a4 rfl rfl rfl (by decide +kernel) ⟨Nat.le_of_ble_eq_true rfl, Nat.le_of_ble_eq_true rfl⟩) (k_preS hE hZ hP hD hS hA [] rfl (by decide)) rfl rfl hl.1 rfl (lv_room (Nat.le_of_ble_eq_true rfl)) dX4_questionFor_35 ⟨Nat.le_of_ble_eq_true rfl, Nat.le_of_ble_eq_true rfl⟩) (fun r_5 w1 H locs hw hP hD hS => ?_)
          obtain rfl := hw
          have hP : va_P g.1 vwCl [(si, .inr (4, [.int (nI n), .ref q1, .ref q2, .ref q3])), (q1, ai g 6 A1), (q2, ai g 6 A2), (q3, az g 6 A3)] H := hP
          have hD : va_D A [(si, .inr (4, [.int (nI n), .ref q1, .ref q2, .ref q3])), (q1, ai g 6 A1), (q2, ai g 6 A2), (q3, az g 6 A3)] := hD
          refine lv_iload_n hx hb dX4_questionFor_38 rfl (lv_at hl 3 rfl) ?_
          refine lv_iload hx hb dX4_questionFor_39 (lv_at hl 0 rfl) ?_
          refine lv_iconst (v := (-1)) hx hb dX4_questionFor_41 (by decide) ?_
          refine lv_ixor hx hb dX4_questionFor_42 ?_
          refine lv_iand hx hb dX4_questionFor_43 ?_
          refine k_ci (wr := [(si, .inr (4, [.int (nI n), .ref q1, .ref q2, .ref q3])), (q1, ai g 6 A1), (q2, ai g 6 A2), (q3, az g 6 A3)]) hP hD hS hA [] [0, 1, 2, 3] rfl rfl (by decide) (by decide) (va_runS (As := [.int (r_1 &&& (r_4 ^^^ (-1)))]) (rest := [.int r_5]) ⟨hx, hb, hml, hown, hts⟩ (c_J6_bitCount_0f7a4_g l g (r_1 &&& (r_4 ^^^ (-1)))  H.size) (va_cwS 1 hts gX4_questionFor_J6_bitCount_0f7a4 rfl rfl rfl (by decide +kernel) ⟨Nat.le_of_ble_eq_true rfl, Nat.le_of_ble_eq_true rfl⟩) (k_preS hE hZ hP hD hS hA [] rfl (by decide)) rfl rfl hl.1 rfl (lv_room (Nat.le_of_ble_eq_true rfl)) dX4_questionFor_44 ⟨Nat.le_of_ble_eq_true rfl, Nat.le_of_ble_eq_true rfl⟩) (fun r_6 w1 H locs hw hP hD hS => ?_)
          obtain rfl := hw
          have hP : va_P g.1 vwCl [(si, .inr (4, [.int (nI n), .ref q1, .ref q2, .ref q3])), (q1, ai g 6 A1), (q2, ai g 6 A2), (q3, az g 6 A3)] H := hP
          have hD : va_D A [(si, .inr (4, [.int (nI n), .ref q1, .ref q2, .ref q3])), (q1, ai g 6 A1), (q2, ai g 6 A2), (q3, az g 6 A3)] := hD
          refine va_mmax hx hb (by rw [hml]; exact hl.1.symm) hown (hts (.methodLink RX4 42 Lib.Math.max.name) q_X4_questionFor_g_0) (hts (.static Lib.Math.max.name) q_X4_questionFor_g_1) (hts (.initialized "java/lang/Math") q_X4_questionFor_g_2) (hts (.code Lib.Math.max.name Lib.Math.max.code 2 (some .int)) q_X4_questionFor_g_3) (Nat.le_of_ble_eq_true rfl) (Nat.le_of_ble_eq_true rfl) (Nat.le_of_ble_eq_true rfl) (Nat.le_of_ble_eq_true rfl) dX4_questionFor_47 ?_
          refine lv_topi (fun x7 ex7 => ?_)
          refine lv_istore (lv' := [(7, .int x7), (6, .int r_4), (0, .ref si), (1, .int p1), (2, .int r_1), (3, .int x3), (4, .int x4), (5, .int (nI a))]) hx hb dX4_questionFor_50 hl (by decide) rfl (fun ls hl => ?_)
          refine lv_iload_n hx hb dX4_questionFor_52 rfl (lv_at hl 5 rfl) ?_
          refine lv_iconst (v := (-1)) hx hb dX4_questionFor_53 (by decide) ?_
          refine lv_icmp_eq (tgt := 64) hx hb dX4_questionFor_54 (by decide) (fun c54_7 => ?_) (fun c54_7 => ?_)
          · skip
            refine lv_iload hx hb dX4_questionFor_64 (lv_at hl 7 rfl) ?_
            refine lv_istore_n (lv' := [(3, .int (nI a)), (7, .int x7), (6, .int r_4), (0, .ref si), (1, .int p1), (2, .int r_1), (4, .int x4), (5, .int (nI a))]) hx hb dX4_questionFor_66 rfl hl (by decide) rfl (fun ls hl => ?_)
            refine lv_iload hx hb dX4_questionFor_67 (lv_at hl 1 rfl) ?_
            refine lv_istore (lv' := [(4, .int x7), (3, .int (nI a)), (7, .int x7), (6, .int r_4), (0, .ref si), (1, .int p1), (2, .int r_1), (5, .int (nI a))]) hx hb dX4_questionFor_69 hl (by decide) rfl (fun ls hl => ?_)
            refine lv_iinc (v := (nI (a + 1))) (lv' := [(5, .int (nI (a + 1))), (4, .int x7), (3, .int (nI a)), (7, .int x7), (6, .int r_4), (0, .ref si), (1, .int p1), (2, .int r_1)]) hx hb dX4_questionFor_71 hl (k := 7) rfl (nI_1 _) (by decide) rfl (fun ls hl => ?_)
            refine lv_goto (tgt := 14) hx hb dX4_questionFor_74 (by decide) ?_
            exact ih14 (a + 1) _ _ (by omega) (by omega) _ _ _ hP hD hS (lv_sub hl [5, 6, 7, 2, 1, 0] rfl)
          · skip
            refine lv_iload hx hb dX4_questionFor_57 (lv_at hl 0 rfl) ?_
            refine lv_iload hx hb dX4_questionFor_59 (lv_at hl 6 rfl) ?_
            refine lv_icmp_ge (tgt := 71) hx hb dX4_questionFor_61 (by decide) (fun c61_8 => ?_) (fun c61_8 => ?_)
            · skip
              refine lv_iinc (v := (nI (a + 1))) (lv' := [(5, .int (nI (a + 1))), (7, .int x7), (6, .int r_4), (0, .ref si), (1, .int p1), (2, .int r_1), (3, .int x3), (4, .int x4)]) hx hb dX4_questionFor_71 hl (k := 7) rfl (nI_1 _) (by decide) rfl (fun ls hl => ?_)
              refine lv_goto (tgt := 14) hx hb dX4_questionFor_74 (by decide) ?_
              exact ih14 (a + 1) _ _ (by omega) (by omega) _ _ _ hP hD hS (lv_sub hl [3, 4, 5, 6, 7, 0] rfl)
            · skip
              refine lv_iload hx hb dX4_questionFor_64 (lv_at hl 7 rfl) ?_
              refine lv_istore_n (lv' := [(3, .int (nI a)), (7, .int x7), (6, .int r_4), (0, .ref si), (1, .int p1), (2, .int r_1), (4, .int x4), (5, .int (nI a))]) hx hb dX4_questionFor_66 rfl hl (by decide) rfl (fun ls hl => ?_)
              refine lv_iload hx hb dX4_questionFor_67 (lv_at hl 1 rfl) ?_
              refine lv_istore (lv' := [(4, .int x7), (3, .int (nI a)), (7, .int x7), (6, .int r_4), (0, .ref si), (1, .int p1), (2, .int r_1), (5, .int (nI a))]) hx hb dX4_questionFor_69 hl (by decide) rfl (fun ls hl => ?_)
              refine lv_iinc (v := (nI (a + 1))) (lv' := [(5, .int (nI (a + 1))), (4, .int x7), (3, .int (nI a)), (7, .int x7), (6, .int r_4), (0, .ref si), (1, .int p1), (2, .int r_1)]) hx hb dX4_questionFor_71 hl (k := 7) rfl (nI_1 _) (by decide) rfl (fun ls hl => ?_)
              refine lv_goto (tgt := 14) hx hb dX4_questionFor_74 (by decide) ?_
              exact ih14 (a + 1) _ _ (by omega) (by omega) _ _ _ hP hD hS (lv_sub hl [5, 6, 7, 2, 1, 0] rfl)
  exact loop14 _ 0 (-1) 0 (Nat.zero_le 4) (Nat.lt_succ_self _) _ _ _ hP hD hS (lv_sub hl [4, 5, 3, 2, 1, 0] rfl)
def po_X8_tellOfSet_g (g : GG) (h0 : Nat) (pg : Nat) (rd : Nat) (si : Nat) (ks : Nat) (ki : Nat) (al : Nat) (dr : Nat) (le : Int32) (re : Int32) (kp : Int32) (sd : Int32) (sk : Nat) (s1 : Nat) (s2 : Nat) (s3 : Nat) (z : Nat) (t : Nat) (K : Nat → Int32) (L : Nat → Int32) (V : Nat → Int32) (sy : Nat) (y1 : Nat) (y2 : Nat) (y3 : Nat) (lw : Nat) (tr : Nat) (chg : Int32) (S1 : Nat → Int32) (S2 : Nat → Int32) (S3 : Nat → Int32) (q1 : Nat) (q2 : Nat) (q3 : Nat) (n : Nat) (A1 : Nat → Int32) (A2 : Nat → Int32) (A3 : Nat → Int32) (k : Nat) (p1 : Int32) : Int32 → va_W → Prop := fun (r : Int32) w => w = [(h0, .inr (8, [.ref pg, .int le, .ref rd, .int re, .ref sk, .ref si, .ref sy, .int sd, .ref ks, .ref ki, .int kp, .ref al, .ref dr])), (sk, .inr (5, [.int (nI z), .int (nI t), .ref s1, .ref s2, .ref s3])), (s1, ai g 6 K), (s2, ai g 6 L), (s3, ai g 96 V), (sy, .inr (6, [.ref y1, .ref y2, .ref y3, .ref lw, .int chg, .ref tr])), (y1, ai g 168 S1), (y2, ai g 6 S2), (y3, ai g 24 S3), (si, .inr (4, [.int (nI n), .ref q1, .ref q2, .ref q3])), (q1, ai g 6 A1), (q2, ai g 6 A2), (q3, az g 6 A3)]
theorem q_X8_tellOfSet_g_f8 : ∀ w ∈ u_ws RX8 TX8 13, w ∈ wsX8_tellOfSet := by decide +kernel
theorem q_X8_tellOfSet_g_1 : (Cond.fieldLink RX8 23 "SoundLaws" "stock" "LSoundLaws$Stock;") ∈ wsX8_tellOfSet := by decide +kernel
theorem q_X8_tellOfSet_g_f5 : ∀ w ∈ u_ws RX5 TX5 5, w ∈ wsX8_tellOfSet := by decide +kernel
theorem q_X8_tellOfSet_g_3 : (Cond.fieldLink RX8 110 "SoundLaws$Stock" "kinds" "[I") ∈ wsX8_tellOfSet := by decide +kernel
theorem q_X8_tellOfSet_g_4 : (Cond.fieldLink RX8 168 "SoundLaws$Stock" "lengths" "[I") ∈ wsX8_tellOfSet := by decide +kernel
theorem q_X8_tellOfSet_g_5 : (Cond.fieldLink RX8 37 "SoundLaws" "study" "LSoundLaws$Study;") ∈ wsX8_tellOfSet := by decide +kernel
theorem q_X8_tellOfSet_g_f6 : ∀ w ∈ u_ws RX6 TX6 6, w ∈ wsX8_tellOfSet := by decide +kernel
theorem q_X8_tellOfSet_g_7 : (Cond.fieldLink RX8 257 "SoundLaws$Study" "changes" "[I") ∈ wsX8_tellOfSet := by decide +kernel
theorem q_X8_tellOfSet_g_8 : (Cond.fieldLink RX8 30 "SoundLaws" "sightings" "LSoundLaws$Sightings;") ∈ wsX8_tellOfSet := by decide +kernel
set_option maxHeartbeats 1500000 in
set_option maxRecDepth 100000 in
theorem c_X8_tellOfSet_g (l : Launch) (g : GG) (h0 : Nat) (pg : Nat) (rd : Nat) (si : Nat) (ks : Nat) (ki : Nat) (al : Nat) (dr : Nat) (le : Int32) (re : Int32) (kp : Int32) (sd : Int32) (sk : Nat) (s1 : Nat) (s2 : Nat) (s3 : Nat) (z : Nat) (t : Nat) (K : Nat → Int32) (L : Nat → Int32) (V : Nat → Int32) (sy : Nat) (y1 : Nat) (y2 : Nat) (y3 : Nat) (lw : Nat) (tr : Nat) (chg : Int32) (S1 : Nat → Int32) (S2 : Nat → Int32) (S3 : Nat → Int32) (q1 : Nat) (q2 : Nat) (q3 : Nat) (n : Nat) (A1 : Nat → Int32) (A2 : Nat → Int32) (A3 : Nat → Int32) (k : Nat) (p1 : Int32) (hk : k < 6) (ht4 : t ≤ 4) (hn : n ≤ 6) (sz : Nat) : MetI l yX8_tellOfSet wsX8_tellOfSet ({ frames := 4, cells := 0, slots := 0, locals := 94 }) g [.ref h0, .int (nI k), .int p1] [(h0, .inr (8, [.ref pg, .int le, .ref rd, .int re, .ref sk, .ref si, .ref sy, .int sd, .ref ks, .ref ki, .int kp, .ref al, .ref dr])), (sk, .inr (5, [.int (nI z), .int (nI t), .ref s1, .ref s2, .ref s3])), (s1, ai g 6 K), (s2, ai g 6 L), (s3, ai g 96 V), (sy, .inr (6, [.ref y1, .ref y2, .ref y3, .ref lw, .int chg, .ref tr])), (y1, ai g 168 S1), (y2, ai g 6 S2), (y3, ai g 24 S3), (si, .inr (4, [.int (nI n), .ref q1, .ref q2, .ref q3])), (q1, ai g 6 A1), (q2, ai g 6 A2), (q3, az g 6 A3)] sz (po_X8_tellOfSet_g g h0 pg rd si ks ki al dr le re kp sd sk s1 s2 s3 z t K L V sy y1 y2 y3 lw tr chg S1 S2 S3 q1 q2 q3 n A1 A2 A3 k p1) 0 0 := by
  refine k_of (l := l) (y := yX8_tellOfSet) (ws := wsX8_tellOfSet) (rm := { frames := 4, cells := 0, slots := 0, locals := 94 }) (mc := 0) (ms := 0) (av := [.ref h0, .int (nI k), .int p1]) (g := g) (wc := [(h0, .inr (8, [.ref pg, .int le, .ref rd, .int re, .ref sk, .ref si, .ref sy, .int sd, .ref ks, .ref ki, .int kp, .ref al, .ref dr])), (sk, .inr (5, [.int (nI z), .int (nI t), .ref s1, .ref s2, .ref s3])), (s1, ai g 6 K), (s2, ai g 6 L), (s3, ai g 96 V), (sy, .inr (6, [.ref y1, .ref y2, .ref y3, .ref lw, .int chg, .ref tr])), (y1, ai g 168 S1), (y2, ai g 6 S2), (y3, ai g 24 S3), (si, .inr (4, [.int (nI n), .ref q1, .ref q2, .ref q3])), (q1, ai g 6 A1), (q2, ai g 6 A2), (q3, az g 6 A3)]) (Qc := fun A => va_Qi (po_X8_tellOfSet_g g h0 pg rd si ks ki al dr le re kp sd sk s1 s2 s3 z t K L V sy y1 y2 y3 lw tr chg S1 S2 S3 q1 q2 q3 n A1 A2 A3 k p1) (bk g A) A) (cc := cX8_tellOfSet) (maxL := 3) (ret := (some .int)) (by decide) rfl (Nat.le_of_ble_eq_true rfl) ?_ sz
  intro p e s m below meth c hx hb hr hts hown hlocks hnm hml A hA hE hZ hP hD hS ls hl
  have hown : s.vm.findClass RX8 = some m.cls := hown
  have hl : lv_has ls 3 [(0, .ref h0), (1, .int (nI k)), (2, .int p1)] := hl
  refine lv_iload_n hx hb dX8_tellOfSet_0 rfl (lv_at hl 2 rfl) ?_
  by_cases w1_0 : p1 = 0
  · refine lv_tableIn (tgt := 40) (off := 39) hx hb dX8_tellOfSet_1 (by rw [w1_0]; decide) (by rw [w1_0]; decide) (by rw [w1_0]; decide) (by decide) ?_
    refine lv_aload_n hx hb dX8_tellOfSet_40 rfl (lv_at hl 0 rfl) ?_
    refine va_get (D := g.1) (ci := 8) (v := .ref sk) (C := RX8) (T := TX8) (N := 13) hx hb hts q_X8_tellOfSet_g_f8 hown hE.1 hP 0 rfl rfl 4 (by decide) (hts (.fieldLink RX8 23 "SoundLaws" "stock" "LSoundLaws$Stock;") q_X8_tellOfSet_g_1) (fun _ h9 => h9) rfl dX8_tellOfSet_41 ?_
    refine va_get (D := g.1) (ci := 5) (v := .ref s1) (C := RX5) (T := TX5) (N := 5) hx hb hts q_X8_tellOfSet_g_f5 hown hE.1 hP 1 rfl rfl 2 (by decide) (hts (.fieldLink RX8 110 "SoundLaws$Stock" "kinds" "[I") q_X8_tellOfSet_g_3) (fun _ h9 => h9) rfl dX8_tellOfSet_44 ?_
    refine lv_iload_n hx hb dX8_tellOfSet_47 rfl (lv_at hl 1 rfl) ?_
    refine k_ald k rfl (by omega) hx hb hE hP 2 rfl (by decide) dX8_tellOfSet_48 ?_
    refine W.widen (k := 0) (n := 0) (Nat.le_of_ble_eq_true rfl) (Nat.le_of_ble_eq_true rfl) ?_
    exact k_ri hx hb hr hlocks hS hP hD rfl dX8_tellOfSet_49
  by_cases w1_1 : p1 = 1
  · refine lv_tableIn (tgt := 50) (off := 49) hx hb dX8_tellOfSet_1 (by rw [w1_1]; decide) (by rw [w1_1]; decide) (by rw [w1_1]; decide) (by decide) ?_
    refine lv_aload_n hx hb dX8_tellOfSet_50 rfl (lv_at hl 0 rfl) ?_
    refine va_get (D := g.1) (ci := 8) (v := .ref sk) (C := RX8) (T := TX8) (N := 13) hx hb hts q_X8_tellOfSet_g_f8 hown hE.1 hP 0 rfl rfl 4 (by decide) (hts (.fieldLink RX8 23 "SoundLaws" "stock" "LSoundLaws$Stock;") q_X8_tellOfSet_g_1) (fun _ h9 => h9) rfl dX8_tellOfSet_51 ?_
    refine va_get (D := g.1) (ci := 5) (v := .ref s2) (C := RX5) (T := TX5) (N := 5) hx hb hts q_X8_tellOfSet_g_f5 hown hE.1 hP 1 rfl rfl 3 (by decide) (hts (.fieldLink RX8 168 "SoundLaws$Stock" "lengths" "[I") q_X8_tellOfSet_g_4) (fun _ h9 => h9) rfl dX8_tellOfSet_54 ?_
    refine lv_iload_n hx hb dX8_tellOfSet_57 rfl (lv_at hl 1 rfl) ?_
    refine k_ald k rfl (by omega) hx hb hE hP 3 rfl (by decide) dX8_tellOfSet_58 ?_
    refine W.widen (k := 0) (n := 0) (Nat.le_of_ble_eq_true rfl) (Nat.le_of_ble_eq_true rfl) ?_
    exact k_ri hx hb hr hlocks hS hP hD rfl dX8_tellOfSet_59
  by_cases w1_2 : p1 = 2
  · refine lv_tableIn (tgt := 60) (off := 59) hx hb dX8_tellOfSet_1 (by rw [w1_2]; decide) (by rw [w1_2]; decide) (by rw [w1_2]; decide) (by decide) ?_
    refine lv_aload_n hx hb dX8_tellOfSet_60 rfl (lv_at hl 0 rfl) ?_
    refine va_get (D := g.1) (ci := 8) (v := .ref sy) (C := RX8) (T := TX8) (N := 13) hx hb hts q_X8_tellOfSet_g_f8 hown hE.1 hP 0 rfl rfl 6 (by decide) (hts (.fieldLink RX8 37 "SoundLaws" "study" "LSoundLaws$Study;") q_X8_tellOfSet_g_5) (fun _ h9 => h9) rfl dX8_tellOfSet_61 ?_
    refine va_get (D := g.1) (ci := 6) (v := .ref y2) (C := RX6) (T := TX6) (N := 6) hx hb hts q_X8_tellOfSet_g_f6 hown hE.1 hP 5 rfl rfl 1 (by decide) (hts (.fieldLink RX8 257 "SoundLaws$Study" "changes" "[I") q_X8_tellOfSet_g_7) (fun _ h9 => h9) rfl dX8_tellOfSet_64 ?_
    refine lv_iload_n hx hb dX8_tellOfSet_67 rfl (lv_at hl 1 rfl) ?_
    refine k_ald k rfl (by omega) hx hb hE hP 7 rfl (by decide) dX8_tellOfSet_68 ?_
    refine W.widen (k := 0) (n := 0) (Nat.le_of_ble_eq_true rfl) (Nat.le_of_ble_eq_true rfl) ?_
    exact k_ri hx hb hr hlocks hS hP hD rfl dX8_tellOfSet_69
  by_cases w1_3 : p1 = 3
  · refine lv_tableIn (tgt := 70) (off := 69) hx hb dX8_tellOfSet_1 (by rw [w1_3]; decide) (by rw [w1_3]; decide) (by rw [w1_3]; decide) (by decide) ?_
    refine lv_aload_n hx hb dX8_tellOfSet_70 rfl (lv_at hl 0 rfl) ?_
    refine va_get (D := g.1) (ci := 8) (v := .ref sy) (C := RX8) (T := TX8) (N := 13) hx hb hts q_X8_tellOfSet_g_f8 hown hE.1 hP 0 rfl rfl 6 (by decide) (hts (.fieldLink RX8 37 "SoundLaws" "study" "LSoundLaws$Study;") q_X8_tellOfSet_g_5) (fun _ h9 => h9) rfl dX8_tellOfSet_71 ?_
    refine lv_iload_n hx hb dX8_tellOfSet_74 rfl (lv_at hl 1 rfl) ?_
    refine k_ci (wr := [(h0, .inr (8, [.ref pg, .int le, .ref rd, .int re, .ref sk, .ref si, .ref sy, .int sd, .ref ks, .ref ki, .int kp, .ref al, .ref dr])), (sk, .inr (5, [.int (nI z), .int (nI t), .ref s1, .ref s2, .ref s3])), (s1, ai g 6 K), (s2, ai g 6 L), (s3, ai g 96 V), (y1, ai g 168 S1), (y2, ai g 6 S2), (si, .inr (4, [.int (nI n), .ref q1, .ref q2, .ref q3])), (q1, ai g 6 A1), (q2, ai g 6 A2), (q3, az g 6 A3)]) hP hD hS hA [5, 8] [0, 1, 2, 3, 4, 6, 7, 9, 10, 11, 12] rfl rfl (by decide) (by decide) (va_runV (As := [.int (nI k)]) (rest := []) ⟨hx, hb, hml, hown, hts⟩ (c_X6_strangeInSet_g l g sy y1 y2 y3 lw tr chg S3 k (by first | assumption | omega) s.heap.size) (cwV 1 hts gX8_tellOfSet_X6_strangeInSet rfl rfl rfl (by decide +kernel) ⟨Nat.le_of_ble_eq_true rfl, Nat.le_of_ble_eq_true rfl⟩) (k_preV hE hZ hP hD hS hA [5, 8] rfl (by decide) (va_recv hE.1 hP (ci := 6) (q0 := 5) rfl rfl)) rfl rfl hl.1 rfl (lv_room (Nat.le_of_ble_eq_true rfl)) dX8_tellOfSet_75 ⟨Nat.le_of_ble_eq_true rfl, Nat.le_of_ble_eq_true rfl⟩) (fun r_1 w1 H locs hw hP hD hS => ?_)
    obtain rfl := hw
    have hP : va_P g.1 vwCl [(h0, .inr (8, [.ref pg, .int le, .ref rd, .int re, .ref sk, .ref si, .ref sy, .int sd, .ref ks, .ref ki, .int kp, .ref al, .ref dr])), (sk, .inr (5, [.int (nI z), .int (nI t), .ref s1, .ref s2, .ref s3])), (s1, ai g 6 K), (s2, ai g 6 L), (s3, ai g 96 V), (y1, ai g 168 S1), (y2, ai g 6 S2), (si, .inr (4, [.int (nI n), .ref q1, .ref q2, .ref q3])), (q1, ai g 6 A1), (q2, ai g 6 A2), (q3, az g 6 A3), (sy, .inr (6, [.ref y1, .ref y2, .ref y3, .ref lw, .int chg, .ref tr])), (y3, ai g 24 S3)] H := hP
    have hD : va_D A [(h0, .inr (8, [.ref pg, .int le, .ref rd, .int re, .ref sk, .ref si, .ref sy, .int sd, .ref ks, .ref ki, .int kp, .ref al, .ref dr])), (sk, .inr (5, [.int (nI z), .int (nI t), .ref s1, .ref s2, .ref s3])), (s1, ai g 6 K), (s2, ai g 6 L), (s3, ai g 96 V), (y1, ai g 168 S1), (y2, ai g 6 S2), (si, .inr (4, [.int (nI n), .ref q1, .ref q2, .ref q3])), (q1, ai g 6 A1), (q2, ai g 6 A2), (q3, az g 6 A3), (sy, .inr (6, [.ref y1, .ref y2, .ref y3, .ref lw, .int chg, .ref tr])), (y3, ai g 24 S3)] := hD
    refine W.widen (k := 0) (n := 0) (Nat.le_of_ble_eq_true rfl) (Nat.le_of_ble_eq_true rfl) ?_
    have hP9 := hP.sub (ws' := [(h0, .inr (8, [.ref pg, .int le, .ref rd, .int re, .ref sk, .ref si, .ref sy, .int sd, .ref ks, .ref ki, .int kp, .ref al, .ref dr])), (sk, .inr (5, [.int (nI z), .int (nI t), .ref s1, .ref s2, .ref s3])), (s1, ai g 6 K), (s2, ai g 6 L), (s3, ai g 96 V), (sy, .inr (6, [.ref y1, .ref y2, .ref y3, .ref lw, .int chg, .ref tr])), (y1, ai g 168 S1), (y2, ai g 6 S2), (y3, ai g 24 S3), (si, .inr (4, [.int (nI n), .ref q1, .ref q2, .ref q3])), (q1, ai g 6 A1), (q2, ai g 6 A2), (q3, az g 6 A3)]) [0, 1, 2, 3, 4, 11, 5, 6, 12, 7, 8, 9, 10] rfl
    have hD9 := hD.sub (ws' := [(h0, .inr (8, [.ref pg, .int le, .ref rd, .int re, .ref sk, .ref si, .ref sy, .int sd, .ref ks, .ref ki, .int kp, .ref al, .ref dr])), (sk, .inr (5, [.int (nI z), .int (nI t), .ref s1, .ref s2, .ref s3])), (s1, ai g 6 K), (s2, ai g 6 L), (s3, ai g 96 V), (sy, .inr (6, [.ref y1, .ref y2, .ref y3, .ref lw, .int chg, .ref tr])), (y1, ai g 168 S1), (y2, ai g 6 S2), (y3, ai g 24 S3), (si, .inr (4, [.int (nI n), .ref q1, .ref q2, .ref q3])), (q1, ai g 6 A1), (q2, ai g 6 A2), (q3, az g 6 A3)]) [0, 1, 2, 3, 4, 11, 5, 6, 12, 7, 8, 9, 10] (by decide) rfl
    exact k_ri hx hb hr hlocks hS hP9 hD9 rfl dX8_tellOfSet_78
  by_cases w1_4 : p1 = 4
  · refine lv_tableIn (tgt := 79) (off := 78) hx hb dX8_tellOfSet_1 (by rw [w1_4]; decide) (by rw [w1_4]; decide) (by rw [w1_4]; decide) (by decide) ?_
    refine lv_aload_n hx hb dX8_tellOfSet_79 rfl (lv_at hl 0 rfl) ?_
    refine va_get (D := g.1) (ci := 8) (v := .ref sy) (C := RX8) (T := TX8) (N := 13) hx hb hts q_X8_tellOfSet_g_f8 hown hE.1 hP 0 rfl rfl 6 (by decide) (hts (.fieldLink RX8 37 "SoundLaws" "study" "LSoundLaws$Study;") q_X8_tellOfSet_g_5) (fun _ h9 => h9) rfl dX8_tellOfSet_80 ?_
    refine lv_aload_n hx hb dX8_tellOfSet_83 rfl (lv_at hl 0 rfl) ?_
    refine va_get (D := g.1) (ci := 8) (v := .ref sk) (C := RX8) (T := TX8) (N := 13) hx hb hts q_X8_tellOfSet_g_f8 hown hE.1 hP 0 rfl rfl 4 (by decide) (hts (.fieldLink RX8 23 "SoundLaws" "stock" "LSoundLaws$Stock;") q_X8_tellOfSet_g_1) (fun _ h9 => h9) rfl dX8_tellOfSet_84 ?_
    refine lv_iload_n hx hb dX8_tellOfSet_87 rfl (lv_at hl 1 rfl) ?_
    refine k_ci (wr := [(h0, .inr (8, [.ref pg, .int le, .ref rd, .int re, .ref sk, .ref si, .ref sy, .int sd, .ref ks, .ref ki, .int kp, .ref al, .ref dr])), (s1, ai g 6 K), (s3, ai g 96 V), (y1, ai g 168 S1), (y2, ai g 6 S2), (si, .inr (4, [.int (nI n), .ref q1, .ref q2, .ref q3])), (q1, ai g 6 A1), (q2, ai g 6 A2), (q3, az g 6 A3)]) hP hD hS hA [5, 8, 1, 3] [0, 2, 4, 6, 7, 9, 10, 11, 12] rfl rfl (by decide) (by decide) (va_runV (As := [.ref sk, .int (nI k)]) (rest := []) ⟨hx, hb, hml, hown, hts⟩ (c_X6_borrowedTongues_g l g sy y1 y2 y3 lw tr chg S3 L sk s1 s2 s3 z t k (by first | assumption | omega) (by first | assumption | omega) s.heap.size) (cwV 2 hts gX8_tellOfSet_X6_borrowedTongues rfl rfl rfl (by decide +kernel) ⟨Nat.le_of_ble_eq_true rfl, Nat.le_of_ble_eq_true rfl⟩) (k_preV hE hZ hP hD hS hA [5, 8, 1, 3] rfl (by decide) (va_recv hE.1 hP (ci := 6) (q0 := 5) rfl rfl)) rfl rfl hl.1 rfl (lv_room (Nat.le_of_ble_eq_true rfl)) dX8_tellOfSet_88 ⟨Nat.le_of_ble_eq_true rfl, Nat.le_of_ble_eq_true rfl⟩) (fun r_2 w1 H locs hw hP hD hS => ?_)
    obtain rfl := hw
    have hP : va_P g.1 vwCl [(h0, .inr (8, [.ref pg, .int le, .ref rd, .int re, .ref sk, .ref si, .ref sy, .int sd, .ref ks, .ref ki, .int kp, .ref al, .ref dr])), (s1, ai g 6 K), (s3, ai g 96 V), (y1, ai g 168 S1), (y2, ai g 6 S2), (si, .inr (4, [.int (nI n), .ref q1, .ref q2, .ref q3])), (q1, ai g 6 A1), (q2, ai g 6 A2), (q3, az g 6 A3), (sy, .inr (6, [.ref y1, .ref y2, .ref y3, .ref lw, .int chg, .ref tr])), (y3, ai g 24 S3), (sk, .inr (5, [.int (nI z), .int (nI t), .ref s1, .ref s2, .ref s3])), (s2, ai g 6 L)] H := hP
    have hD : va_D A [(h0, .inr (8, [.ref pg, .int le, .ref rd, .int re, .ref sk, .ref si, .ref sy, .int sd, .ref ks, .ref ki, .int kp, .ref al, .ref dr])), (s1, ai g 6 K), (s3, ai g 96 V), (y1, ai g 168 S1), (y2, ai g 6 S2), (si, .inr (4, [.int (nI n), .ref q1, .ref q2, .ref q3])), (q1, ai g 6 A1), (q2, ai g 6 A2), (q3, az g 6 A3), (sy, .inr (6, [.ref y1, .ref y2, .ref y3, .ref lw, .int chg, .ref tr])), (y3, ai g 24 S3), (sk, .inr (5, [.int (nI z), .int (nI t), .ref s1, .ref s2, .ref s3])), (s2, ai g 6 L)] := hD
    refine W.widen (k := 0) (n := 0) (Nat.le_of_ble_eq_true rfl) (Nat.le_of_ble_eq_true rfl) ?_
    have hP9 := hP.sub (ws' := [(h0, .inr (8, [.ref pg, .int le, .ref rd, .int re, .ref sk, .ref si, .ref sy, .int sd, .ref ks, .ref ki, .int kp, .ref al, .ref dr])), (sk, .inr (5, [.int (nI z), .int (nI t), .ref s1, .ref s2, .ref s3])), (s1, ai g 6 K), (s2, ai g 6 L), (s3, ai g 96 V), (sy, .inr (6, [.ref y1, .ref y2, .ref y3, .ref lw, .int chg, .ref tr])), (y1, ai g 168 S1), (y2, ai g 6 S2), (y3, ai g 24 S3), (si, .inr (4, [.int (nI n), .ref q1, .ref q2, .ref q3])), (q1, ai g 6 A1), (q2, ai g 6 A2), (q3, az g 6 A3)]) [0, 11, 1, 12, 2, 9, 3, 4, 10, 5, 6, 7, 8] rfl
    have hD9 := hD.sub (ws' := [(h0, .inr (8, [.ref pg, .int le, .ref rd, .int re, .ref sk, .ref si, .ref sy, .int sd, .ref ks, .ref ki, .int kp, .ref al, .ref dr])), (sk, .inr (5, [.int (nI z), .int (nI t), .ref s1, .ref s2, .ref s3])), (s1, ai g 6 K), (s2, ai g 6 L), (s3, ai g 96 V), (sy, .inr (6, [.ref y1, .ref y2, .ref y3, .ref lw, .int chg, .ref tr])), (y1, ai g 168 S1), (y2, ai g 6 S2), (y3, ai g 24 S3), (si, .inr (4, [.int (nI n), .ref q1, .ref q2, .ref q3])), (q1, ai g 6 A1), (q2, ai g 6 A2), (q3, az g 6 A3)]) [0, 11, 1, 12, 2, 9, 3, 4, 10, 5, 6, 7, 8] (by decide) rfl
    exact k_ri hx hb hr hlocks hS hP9 hD9 rfl dX8_tellOfSet_91
  by_cases w1_5 : p1 = 5
  · refine lv_tableIn (tgt := 92) (off := 91) hx hb dX8_tellOfSet_1 (by rw [w1_5]; decide) (by rw [w1_5]; decide) (by rw [w1_5]; decide) (by decide) ?_
    refine lv_aload_n hx hb dX8_tellOfSet_92 rfl (lv_at hl 0 rfl) ?_
    refine va_get (D := g.1) (ci := 8) (v := .ref si) (C := RX8) (T := TX8) (N := 13) hx hb hts q_X8_tellOfSet_g_f8 hown hE.1 hP 0 rfl rfl 5 (by decide) (hts (.fieldLink RX8 30 "SoundLaws" "sightings" "LSoundLaws$Sightings;") q_X8_tellOfSet_g_8) (fun _ h9 => h9) rfl dX8_tellOfSet_93 ?_
    refine lv_iload_n hx hb dX8_tellOfSet_96 rfl (lv_at hl 1 rfl) ?_
    refine k_ci (wr := [(h0, .inr (8, [.ref pg, .int le, .ref rd, .int re, .ref sk, .ref si, .ref sy, .int sd, .ref ks, .ref ki, .int kp, .ref al, .ref dr])), (sk, .inr (5, [.int (nI z), .int (nI t), .ref s1, .ref s2, .ref s3])), (s1, ai g 6 K), (s2, ai g 6 L), (s3, ai g 96 V), (sy, .inr (6, [.ref y1, .ref y2, .ref y3, .ref lw, .int chg, .ref tr])), (y1, ai g 168 S1), (y2, ai g 6 S2), (y3, ai g 24 S3)]) hP hD hS hA [9, 10, 11, 12] [0, 1, 2, 3, 4, 5, 6, 7, 8] rfl rfl (by decide) (by decide) (va_runV (As := [.int (nI k)]) (rest := []) ⟨hx, hb, hml, hown, hts⟩ (c_X4_sortsOf_g l g q1 q2 q3 si A1 A2 A3 n (nI k) (by first | assumption | omega) s.heap.size) (cwV 1 hts gX8_tellOfSet_X4_sortsOf rfl rfl rfl (by decide +kernel) ⟨Nat.le_of_ble_eq_true rfl, Nat.le_of_ble_eq_true rfl⟩) (k_preV hE hZ hP hD hS hA [9, 10, 11, 12] rfl (by decide) (va_recv hE.1 hP (ci := 4) (q0 := 9) rfl rfl)) rfl rfl hl.1 rfl (lv_room (Nat.le_of_ble_eq_true rfl)) dX8_tellOfSet_97 ⟨Nat.le_of_ble_eq_true rfl, Nat.le_of_ble_eq_true rfl⟩) (fun r_3 w1 H locs hw hP hD hS => ?_)
    obtain rfl := hw
    have hP : va_P g.1 vwCl [(h0, .inr (8, [.ref pg, .int le, .ref rd, .int re, .ref sk, .ref si, .ref sy, .int sd, .ref ks, .ref ki, .int kp, .ref al, .ref dr])), (sk, .inr (5, [.int (nI z), .int (nI t), .ref s1, .ref s2, .ref s3])), (s1, ai g 6 K), (s2, ai g 6 L), (s3, ai g 96 V), (sy, .inr (6, [.ref y1, .ref y2, .ref y3, .ref lw, .int chg, .ref tr])), (y1, ai g 168 S1), (y2, ai g 6 S2), (y3, ai g 24 S3), (si, .inr (4, [.int (nI n), .ref q1, .ref q2, .ref q3])), (q1, ai g 6 A1), (q2, ai g 6 A2), (q3, az g 6 A3)] H := hP
    have hD : va_D A [(h0, .inr (8, [.ref pg, .int le, .ref rd, .int re, .ref sk, .ref si, .ref sy, .int sd, .ref ks, .ref ki, .int kp, .ref al, .ref dr])), (sk, .inr (5, [.int (nI z), .int (nI t), .ref s1, .ref s2, .ref s3])), (s1, ai g 6 K), (s2, ai g 6 L), (s3, ai g 96 V), (sy, .inr (6, [.ref y1, .ref y2, .ref y3, .ref lw, .int chg, .ref tr])), (y1, ai g 168 S1), (y2, ai g 6 S2), (y3, ai g 24 S3), (si, .inr (4, [.int (nI n), .ref q1, .ref q2, .ref q3])), (q1, ai g 6 A1), (q2, ai g 6 A2), (q3, az g 6 A3)] := hD
    refine W.widen (k := 0) (n := 0) (Nat.le_of_ble_eq_true rfl) (Nat.le_of_ble_eq_true rfl) ?_
    exact k_ri hx hb hr hlocks hS hP hD rfl dX8_tellOfSet_100
  refine lv_tableOut (tgt := 101) hx hb dX8_tellOfSet_1 (by have q0 := lv_neT w1_0 (show (0 : Int32).toInt = 0 from rfl); have q1 := lv_neT w1_1 (show (1 : Int32).toInt = 1 from rfl); have q2 := lv_neT w1_2 (show (2 : Int32).toInt = 2 from rfl); have q3 := lv_neT w1_3 (show (3 : Int32).toInt = 3 from rfl); have q4 := lv_neT w1_4 (show (4 : Int32).toInt = 4 from rfl); have q5 := lv_neT w1_5 (show (5 : Int32).toInt = 5 from rfl); omega) (by decide) ?_
  refine lv_aload_n hx hb dX8_tellOfSet_101 rfl (lv_at hl 0 rfl) ?_
  refine va_get (D := g.1) (ci := 8) (v := .ref si) (C := RX8) (T := TX8) (N := 13) hx hb hts q_X8_tellOfSet_g_f8 hown hE.1 hP 0 rfl rfl 5 (by decide) (hts (.fieldLink RX8 30 "SoundLaws" "sightings" "LSoundLaws$Sightings;") q_X8_tellOfSet_g_8) (fun _ h9 => h9) rfl dX8_tellOfSet_102 ?_
  refine lv_iload_n hx hb dX8_tellOfSet_105 rfl (lv_at hl 1 rfl) ?_
  refine k_ci (wr := [(h0, .inr (8, [.ref pg, .int le, .ref rd, .int re, .ref sk, .ref si, .ref sy, .int sd, .ref ks, .ref ki, .int kp, .ref al, .ref dr])), (sk, .inr (5, [.int (nI z), .int (nI t), .ref s1, .ref s2, .ref s3])), (s1, ai g 6 K), (s2, ai g 6 L), (s3, ai g 96 V), (sy, .inr (6, [.ref y1, .ref y2, .ref y3, .ref lw, .int chg, .ref tr])), (y1, ai g 168 S1), (y2, ai g 6 S2), (y3, ai g 24 S3)]) hP hD hS hA [9, 10, 11, 12] [0, 1, 2, 3, 4, 5, 6, 7, 8] rfl rfl (by decide) (by decide) (va_runV (As := [.int (nI k)]) (rest := []) ⟨hx, hb, hml, hown, hts⟩ (c_X4_questionFor_g l g q1 q2 q3 si A1 A2 A3 n (nI k) (by first | assumption | omega) s.heap.size) (cwV 1 hts gX8_tellOfSet_X4_questionFor rfl rfl rfl (by decide +kernel) ⟨Nat.le_of_ble_eq_true rfl, Nat.le_of_ble_eq_true rfl⟩) (k_preV hE hZ hP hD hS hA [9, 10, 11, 12] rfl (by decide) (va_recv hE.1 hP (ci := 4) (q0 := 9) rfl rfl)) rfl rfl hl.1 rfl (lv_room (Nat.le_of_ble_eq_true rfl)) dX8_tellOfSet_106 ⟨Nat.le_of_ble_eq_true rfl, Nat.le_of_ble_eq_true rfl⟩) (fun r_4 w1 H locs hw hP hD hS => ?_)
  obtain rfl := hw
  have hP : va_P g.1 vwCl [(h0, .inr (8, [.ref pg, .int le, .ref rd, .int re, .ref sk, .ref si, .ref sy, .int sd, .ref ks, .ref ki, .int kp, .ref al, .ref dr])), (sk, .inr (5, [.int (nI z), .int (nI t), .ref s1, .ref s2, .ref s3])), (s1, ai g 6 K), (s2, ai g 6 L), (s3, ai g 96 V), (sy, .inr (6, [.ref y1, .ref y2, .ref y3, .ref lw, .int chg, .ref tr])), (y1, ai g 168 S1), (y2, ai g 6 S2), (y3, ai g 24 S3), (si, .inr (4, [.int (nI n), .ref q1, .ref q2, .ref q3])), (q1, ai g 6 A1), (q2, ai g 6 A2), (q3, az g 6 A3)] H := hP
  have hD : va_D A [(h0, .inr (8, [.ref pg, .int le, .ref rd, .int re, .ref sk, .ref si, .ref sy, .int sd, .ref ks, .ref ki, .int kp, .ref al, .ref dr])), (sk, .inr (5, [.int (nI z), .int (nI t), .ref s1, .ref s2, .ref s3])), (s1, ai g 6 K), (s2, ai g 6 L), (s3, ai g 96 V), (sy, .inr (6, [.ref y1, .ref y2, .ref y3, .ref lw, .int chg, .ref tr])), (y1, ai g 168 S1), (y2, ai g 6 S2), (y3, ai g 24 S3), (si, .inr (4, [.int (nI n), .ref q1, .ref q2, .ref q3])), (q1, ai g 6 A1), (q2, ai g 6 A2), (q3, az g 6 A3)] := hD
  refine W.widen (k := 0) (n := 0) (Nat.le_of_ble_eq_true rfl) (Nat.le_of_ble_eq_true rfl) ?_
  exact k_ri hx hb hr hlocks hS hP hD rfl dX8_tellOfSet_109
def po_X8_isNode_g (g : GG) (h0 : Nat) (pg : Nat) (rd : Nat) (si : Nat) (ks : Nat) (ki : Nat) (al : Nat) (dr : Nat) (le : Int32) (re : Int32) (kp : Int32) (sd : Int32) (sy : Nat) (sk : Nat) (s1 : Nat) (s2 : Nat) (s3 : Nat) (z : Nat) (t : Nat) (p1 : Int32) : Int32 → va_W → Prop := fun (r : Int32) w => w = [(h0, .inr (8, [.ref pg, .int le, .ref rd, .int re, .ref sk, .ref si, .ref sy, .int sd, .ref ks, .ref ki, .int kp, .ref al, .ref dr])), (sk, .inr (5, [.int (nI z), .int (nI t), .ref s1, .ref s2, .ref s3]))] ∧ (isI p1 (nod t) = r)
theorem q_X8_isNode_g_f8 : ∀ w ∈ u_ws RX8 TX8 13, w ∈ wsX8_isNode := by decide +kernel
theorem q_X8_isNode_g_1 : (Cond.fieldLink RX8 23 "SoundLaws" "stock" "LSoundLaws$Stock;") ∈ wsX8_isNode := by decide +kernel
theorem q_X8_isNode_g_f5 : ∀ w ∈ u_ws RX5 TX5 5, w ∈ wsX8_isNode := by decide +kernel
theorem q_X8_isNode_g_3 : (Cond.fieldLink RX8 234 "SoundLaws$Stock" "tongues" "I") ∈ wsX8_isNode := by decide +kernel
set_option maxHeartbeats 1500000 in
set_option maxRecDepth 100000 in
theorem c_X8_isNode_g (l : Launch) (g : GG) (h0 : Nat) (pg : Nat) (rd : Nat) (si : Nat) (ks : Nat) (ki : Nat) (al : Nat) (dr : Nat) (le : Int32) (re : Int32) (kp : Int32) (sd : Int32) (sy : Nat) (sk : Nat) (s1 : Nat) (s2 : Nat) (s3 : Nat) (z : Nat) (t : Nat) (p1 : Int32) (ht4 : t ≤ 4) (sz : Nat) : MetI l yX8_isNode wsX8_isNode ({ frames := 1, cells := 0, slots := 0, locals := 20 }) g [.ref h0, .int p1] [(h0, .inr (8, [.ref pg, .int le, .ref rd, .int re, .ref sk, .ref si, .ref sy, .int sd, .ref ks, .ref ki, .int kp, .ref al, .ref dr])), (sk, .inr (5, [.int (nI z), .int (nI t), .ref s1, .ref s2, .ref s3]))] sz (po_X8_isNode_g g h0 pg rd si ks ki al dr le re kp sd sy sk s1 s2 s3 z t p1) 0 0 := by
  refine k_of (l := l) (y := yX8_isNode) (ws := wsX8_isNode) (rm := { frames := 1, cells := 0, slots := 0, locals := 20 }) (mc := 0) (ms := 0) (av := [.ref h0, .int p1]) (g := g) (wc := [(h0, .inr (8, [.ref pg, .int le, .ref rd, .int re, .ref sk, .ref si, .ref sy, .int sd, .ref ks, .ref ki, .int kp, .ref al, .ref dr])), (sk, .inr (5, [.int (nI z), .int (nI t), .ref s1, .ref s2, .ref s3]))]) (Qc := fun A => va_Qi (po_X8_isNode_g g h0 pg rd si ks ki al dr le re kp sd sy sk s1 s2 s3 z t p1) (bk g A) A) (cc := cX8_isNode) (maxL := 2) (ret := (some .boolean)) (by decide) rfl (Nat.le_of_ble_eq_true rfl) ?_ sz
  intro p e s m below meth c hx hb hr hts hown hlocks hnm hml A hA hE hZ hP hD hS ls hl
  have hown : s.vm.findClass RX8 = some m.cls := hown
  have hl : lv_has ls 2 [(0, .ref h0), (1, .int p1)] := hl
  refine lv_iload_n hx hb dX8_isNode_0 rfl (lv_at hl 1 rfl) ?_
  refine lv_if_lt (tgt := 22) hx hb dX8_isNode_1 (by decide) (fun c1_1 => ?_) (fun c1_1 => ?_)
  · skip
    refine lv_iconst (v := 0) hx hb dX8_isNode_22 (by decide) ?_
    refine W.widen (k := 0) (n := 0) (Nat.le_of_ble_eq_true rfl) (Nat.le_of_ble_eq_true rfl) ?_
    exact k_rz hx hb hr hlocks hS hP hD rfl ⟨rfl, (isI_lo c1_1)⟩ dX8_isNode_23
  · skip
    refine lv_iload_n hx hb dX8_isNode_4 rfl (lv_at hl 1 rfl) ?_
    refine lv_aload_n hx hb dX8_isNode_5 rfl (lv_at hl 0 rfl) ?_
    refine va_get (D := g.1) (ci := 8) (v := .ref sk) (C := RX8) (T := TX8) (N := 13) hx hb hts q_X8_isNode_g_f8 hown hE.1 hP 0 rfl rfl 4 (by decide) (hts (.fieldLink RX8 23 "SoundLaws" "stock" "LSoundLaws$Stock;") q_X8_isNode_g_1) (fun _ h9 => h9) rfl dX8_isNode_6 ?_
    refine va_get (D := g.1) (ci := 5) (v := .int (nI t)) (C := RX5) (T := TX5) (N := 5) hx hb hts q_X8_isNode_g_f5 hown hE.1 hP 1 rfl rfl 1 (by decide) (hts (.fieldLink RX8 234 "SoundLaws$Stock" "tongues" "I") q_X8_isNode_g_3) (fun _ h9 => h9) rfl dX8_isNode_9 ?_
    refine k_ci (wr := [(h0, .inr (8, [.ref pg, .int le, .ref rd, .int re, .ref sk, .ref si, .ref sy, .int sd, .ref ks, .ref ki, .int kp, .ref al, .ref dr])), (sk, .inr (5, [.int (nI z), .int (nI t), .ref s1, .ref s2, .ref s3]))]) hP hD hS hA [] [0, 1] rfl rfl (by decide) (by decide) (va_runS (As := [.int (nI t)]) (rest := [.int p1]) ⟨hx, hb, hml, hown, hts⟩ (c_X8_nodesOf_g l g t (by first | assumption | omega) s.heap.size) (va_cwS 1 hts gX8_isNode_X8_nodesOf rfl rfl rfl (by decide +kernel) ⟨Nat.le_of_ble_eq_true rfl, Nat.le_of_ble_eq_true rfl⟩) (k_preS hE hZ hP hD hS hA [] rfl (by decide)) rfl rfl hl.1 rfl (lv_room (Nat.le_of_ble_eq_true rfl)) dX8_isNode_12 ⟨Nat.le_of_ble_eq_true rfl, Nat.le_of_ble_eq_true rfl⟩) (fun r_2 w1 H locs hw hP hD hS => ?_)
    obtain ⟨rfl, rfl⟩ := hw
    have hP : va_P g.1 vwCl [(h0, .inr (8, [.ref pg, .int le, .ref rd, .int re, .ref sk, .ref si, .ref sy, .int sd, .ref ks, .ref ki, .int kp, .ref al, .ref dr])), (sk, .inr (5, [.int (nI z), .int (nI t), .ref s1, .ref s2, .ref s3]))] H := hP
    have hD : va_D A [(h0, .inr (8, [.ref pg, .int le, .ref rd, .int re, .ref sk, .ref si, .ref sy, .int sd, .ref ks, .ref ki, .int kp, .ref al, .ref dr])), (sk, .inr (5, [.int (nI z), .int (nI t), .ref s1, .ref s2, .ref s3]))] := hD
    refine lv_icmp_ge (tgt := 22) hx hb dX8_isNode_15 (by decide) (fun c15_4 => ?_) (fun c15_4 => ?_)
    · skip
      refine lv_iconst (v := 0) hx hb dX8_isNode_22 (by decide) ?_
      refine W.widen (k := 0) (n := 0) (Nat.le_of_ble_eq_true rfl) (Nat.le_of_ble_eq_true rfl) ?_
      exact k_rz hx hb hr hlocks hS hP hD rfl ⟨rfl, (isI_hi c15_4)⟩ dX8_isNode_23
    · skip
      refine lv_iconst (v := 1) hx hb dX8_isNode_18 (by decide) ?_
      refine lv_goto (tgt := 23) hx hb dX8_isNode_19 (by decide) ?_
      refine W.widen (k := 0) (n := 0) (Nat.le_of_ble_eq_true rfl) (Nat.le_of_ble_eq_true rfl) ?_
      exact k_rz hx hb hr hlocks hS hP hD rfl ⟨rfl, (isI_in c1_1 c15_4)⟩ dX8_isNode_23
def po_X8_tellOfNode_g (g : GG) (h0 : Nat) (pg : Nat) (rd : Nat) (si : Nat) (ks : Nat) (ki : Nat) (al : Nat) (dr : Nat) (le : Int32) (re : Int32) (kp : Int32) (sd : Int32) (sk : Nat) (s1 : Nat) (s2 : Nat) (s3 : Nat) (z : Nat) (t : Nat) (K : Nat → Int32) (L : Nat → Int32) (V : Nat → Int32) (sy : Nat) (y1 : Nat) (y2 : Nat) (y3 : Nat) (lw : Nat) (tr : Nat) (chg : Int32) (S1 : Nat → Int32) (k : Nat) (nd : Nat) (q : Nat) : Int32 → va_W → Prop := fun (r : Int32) w => w = [(h0, .inr (8, [.ref pg, .int le, .ref rd, .int re, .ref sk, .ref si, .ref sy, .int sd, .ref ks, .ref ki, .int kp, .ref al, .ref dr])), (sk, .inr (5, [.int (nI z), .int (nI t), .ref s1, .ref s2, .ref s3])), (s1, ai g 6 K), (s2, ai g 6 L), (s3, ai g 96 V), (sy, .inr (6, [.ref y1, .ref y2, .ref y3, .ref lw, .int chg, .ref tr])), (y1, ai g 168 S1)]
theorem q_X8_tellOfNode_g_f8 : ∀ w ∈ u_ws RX8 TX8 13, w ∈ wsX8_tellOfNode := by decide +kernel
theorem q_X8_tellOfNode_g_1 : (Cond.fieldLink RX8 23 "SoundLaws" "stock" "LSoundLaws$Stock;") ∈ wsX8_tellOfNode := by decide +kernel
theorem q_X8_tellOfNode_g_f5 : ∀ w ∈ u_ws RX5 TX5 5, w ∈ wsX8_tellOfNode := by decide +kernel
theorem q_X8_tellOfNode_g_3 : (Cond.fieldLink RX8 234 "SoundLaws$Stock" "tongues" "I") ∈ wsX8_tellOfNode := by decide +kernel
theorem q_X8_tellOfNode_g_4 : (Cond.fieldLink RX8 145 "SoundLaws" "REBUILDS" "[I") ∈ wsX8_tellOfNode := by decide +kernel
theorem q_X8_tellOfNode_g_5 : (Cond.fieldLink RX8 110 "SoundLaws$Stock" "kinds" "[I") ∈ wsX8_tellOfNode := by decide +kernel
theorem q_X8_tellOfNode_g_6 : (Cond.fieldLink RX8 37 "SoundLaws" "study" "LSoundLaws$Study;") ∈ wsX8_tellOfNode := by decide +kernel
theorem q_X8_tellOfNode_g_f6 : ∀ w ∈ u_ws RX6 TX6 6, w ∈ wsX8_tellOfNode := by decide +kernel
theorem q_X8_tellOfNode_g_8 : (Cond.fieldLink RX8 272 "SoundLaws$Study" "sounds" "[I") ∈ wsX8_tellOfNode := by decide +kernel
theorem q_X8_tellOfNode_g_9 : (Cond.fieldLink RX8 162 "SoundLaws$Stock" "words" "[I") ∈ wsX8_tellOfNode := by decide +kernel
set_option maxHeartbeats 1500000 in
set_option maxRecDepth 100000 in
theorem c_X8_tellOfNode_g (l : Launch) (g : GG) (h0 : Nat) (pg : Nat) (rd : Nat) (si : Nat) (ks : Nat) (ki : Nat) (al : Nat) (dr : Nat) (le : Int32) (re : Int32) (kp : Int32) (sd : Int32) (sk : Nat) (s1 : Nat) (s2 : Nat) (s3 : Nat) (z : Nat) (t : Nat) (K : Nat → Int32) (L : Nat → Int32) (V : Nat → Int32) (sy : Nat) (y1 : Nat) (y2 : Nat) (y3 : Nat) (lw : Nat) (tr : Nat) (chg : Int32) (S1 : Nat → Int32) (k : Nat) (nd : Nat) (q : Nat) (hk : k < 6) (ht4 : t ≤ 4) (hnd : nd < 7) (hq : q < 4) (hK : rng 6 5 K) (sz : Nat) : MetI l yX8_tellOfNode wsX8_tellOfNode ({ frames := 1, cells := 0, slots := 0, locals := 21 }) g [.ref h0, .int (nI k), .int (nI nd), .int (nI q)] [(h0, .inr (8, [.ref pg, .int le, .ref rd, .int re, .ref sk, .ref si, .ref sy, .int sd, .ref ks, .ref ki, .int kp, .ref al, .ref dr])), (sk, .inr (5, [.int (nI z), .int (nI t), .ref s1, .ref s2, .ref s3])), (s1, ai g 6 K), (s2, ai g 6 L), (s3, ai g 96 V), (sy, .inr (6, [.ref y1, .ref y2, .ref y3, .ref lw, .int chg, .ref tr])), (y1, ai g 168 S1)] sz (po_X8_tellOfNode_g g h0 pg rd si ks ki al dr le re kp sd sk s1 s2 s3 z t K L V sy y1 y2 y3 lw tr chg S1 k nd q) 0 0 := by
  refine k_of (l := l) (y := yX8_tellOfNode) (ws := wsX8_tellOfNode) (rm := { frames := 1, cells := 0, slots := 0, locals := 21 }) (mc := 0) (ms := 0) (av := [.ref h0, .int (nI k), .int (nI nd), .int (nI q)]) (g := g) (wc := [(h0, .inr (8, [.ref pg, .int le, .ref rd, .int re, .ref sk, .ref si, .ref sy, .int sd, .ref ks, .ref ki, .int kp, .ref al, .ref dr])), (sk, .inr (5, [.int (nI z), .int (nI t), .ref s1, .ref s2, .ref s3])), (s1, ai g 6 K), (s2, ai g 6 L), (s3, ai g 96 V), (sy, .inr (6, [.ref y1, .ref y2, .ref y3, .ref lw, .int chg, .ref tr])), (y1, ai g 168 S1)]) (Qc := fun A => va_Qi (po_X8_tellOfNode_g g h0 pg rd si ks ki al dr le re kp sd sk s1 s2 s3 z t K L V sy y1 y2 y3 lw tr chg S1 k nd q) (bk g A) A) (cc := cX8_tellOfNode) (maxL := 4) (ret := (some .int)) (by decide) rfl (Nat.le_of_ble_eq_true rfl) ?_ sz
  intro p e s m below meth c hx hb hr hts hown hlocks hnm hml A hA hE hZ hP hD hS ls hl
  have hown : s.vm.findClass RX8 = some m.cls := hown
  have hl : lv_has ls 4 [(0, .ref h0), (1, .int (nI k)), (2, .int (nI nd)), (3, .int (nI q))] := hl
  refine lv_iload_n hx hb dX8_tellOfNode_0 rfl (lv_at hl 2 rfl) ?_
  refine lv_aload_n hx hb dX8_tellOfNode_1 rfl (lv_at hl 0 rfl) ?_
  refine va_get (D := g.1) (ci := 8) (v := .ref sk) (C := RX8) (T := TX8) (N := 13) hx hb hts q_X8_tellOfNode_g_f8 hown hE.1 hP 0 rfl rfl 4 (by decide) (hts (.fieldLink RX8 23 "SoundLaws" "stock" "LSoundLaws$Stock;") q_X8_tellOfNode_g_1) (fun _ h9 => h9) rfl dX8_tellOfNode_2 ?_
  refine va_get (D := g.1) (ci := 5) (v := .int (nI t)) (C := RX5) (T := TX5) (N := 5) hx hb hts q_X8_tellOfNode_g_f5 hown hE.1 hP 1 rfl rfl 1 (by decide) (hts (.fieldLink RX8 234 "SoundLaws$Stock" "tongues" "I") q_X8_tellOfNode_g_3) (fun _ h9 => h9) rfl dX8_tellOfNode_5 ?_
  refine lv_icmp_ge (tgt := 27) hx hb dX8_tellOfNode_8 (by decide) (fun c8_1 => ?_) (fun c8_1 => ?_)
  · skip
    refine va_gets hx hb hZ.zREBUILDS hS hown (hts (.fieldLink RX8 145 "SoundLaws" "REBUILDS" "[I") q_X8_tellOfNode_g_4) (fun _ h9 => h9) dX8_tellOfNode_27 ?_
    refine lv_aload_n hx hb dX8_tellOfNode_30 rfl (lv_at hl 0 rfl) ?_
    refine va_get (D := g.1) (ci := 8) (v := .ref sk) (C := RX8) (T := TX8) (N := 13) hx hb hts q_X8_tellOfNode_g_f8 hown hE.1 hP 0 rfl rfl 4 (by decide) (hts (.fieldLink RX8 23 "SoundLaws" "stock" "LSoundLaws$Stock;") q_X8_tellOfNode_g_1) (fun _ h9 => h9) rfl dX8_tellOfNode_31 ?_
    refine va_get (D := g.1) (ci := 5) (v := .ref s1) (C := RX5) (T := TX5) (N := 5) hx hb hts q_X8_tellOfNode_g_f5 hown hE.1 hP 1 rfl rfl 2 (by decide) (hts (.fieldLink RX8 110 "SoundLaws$Stock" "kinds" "[I") q_X8_tellOfNode_g_5) (fun _ h9 => h9) rfl dX8_tellOfNode_34 ?_
    refine lv_iload_n hx hb dX8_tellOfNode_37 rfl (lv_at hl 1 rfl) ?_
    refine k_ald k rfl (by omega) hx hb hE hP 2 rfl (by decide) dX8_tellOfNode_38 ?_
    obtain ⟨kk, hkk, ekk⟩ := hK (k) (by omega)
    refine lv_topi (fun x_2 ex_2 => ?_)
    obtain rfl : x_2 = nI kk := by rw [ex_2]; exact ekk
    refine k_tld kk rfl (by omega) hx hb hZ.tREBUILDS hS (by decide) (v := tb_REBUILDS.getD kk 0) rfl dX8_tellOfNode_39 ?_
    refine lv_if_ne (tgt := 45) hx hb dX8_tellOfNode_40 (by decide) (fun c40_3 => ?_) (fun c40_3 => ?_)
    · skip
      refine lv_aload_n hx hb dX8_tellOfNode_45 rfl (lv_at hl 0 rfl) ?_
      refine va_get (D := g.1) (ci := 8) (v := .ref sy) (C := RX8) (T := TX8) (N := 13) hx hb hts q_X8_tellOfNode_g_f8 hown hE.1 hP 0 rfl rfl 6 (by decide) (hts (.fieldLink RX8 37 "SoundLaws" "study" "LSoundLaws$Study;") q_X8_tellOfNode_g_6) (fun _ h9 => h9) rfl dX8_tellOfNode_46 ?_
      refine va_get (D := g.1) (ci := 6) (v := .ref y1) (C := RX6) (T := TX6) (N := 6) hx hb hts q_X8_tellOfNode_g_f6 hown hE.1 hP 5 rfl rfl 0 (by decide) (hts (.fieldLink RX8 272 "SoundLaws$Study" "sounds" "[I") q_X8_tellOfNode_g_8) (fun _ h9 => h9) rfl dX8_tellOfNode_49 ?_
      refine lv_iload_n hx hb dX8_tellOfNode_52 rfl (lv_at hl 1 rfl) ?_
      refine lv_iload_n hx hb dX8_tellOfNode_53 rfl (lv_at hl 3 rfl) ?_
      refine k_ci (wr := [(h0, .inr (8, [.ref pg, .int le, .ref rd, .int re, .ref sk, .ref si, .ref sy, .int sd, .ref ks, .ref ki, .int kp, .ref al, .ref dr])), (sk, .inr (5, [.int (nI z), .int (nI t), .ref s1, .ref s2, .ref s3])), (s1, ai g 6 K), (s2, ai g 6 L), (s3, ai g 96 V), (sy, .inr (6, [.ref y1, .ref y2, .ref y3, .ref lw, .int chg, .ref tr])), (y1, ai g 168 S1)]) hP hD hS hA [] [0, 1, 2, 3, 4, 5, 6] rfl rfl (by decide) (by decide) (va_runS (As := [.int (nI k), .int (nI q)]) (rest := [.ref y1]) ⟨hx, hb, hml, hown, hts⟩ (c_X8_nodesAt_g l g k q  s.heap.size) (va_cwS 2 hts gX8_tellOfNode_X8_nodesAt rfl rfl rfl (by decide +kernel) ⟨Nat.le_of_ble_eq_true rfl, Nat.le_of_ble_eq_true rfl⟩) (k_preS hE hZ hP hD hS hA [] rfl (by decide)) rfl rfl hl.1 rfl (lv_room (Nat.le_of_ble_eq_true rfl)) dX8_tellOfNode_54 ⟨Nat.le_of_ble_eq_true rfl, Nat.le_of_ble_eq_true rfl⟩) (fun r_4 w1 H locs hw hP hD hS => ?_)
      obtain ⟨rfl, rfl⟩ := hw
      have hP : va_P g.1 vwCl [(h0, .inr (8, [.ref pg, .int le, .ref rd, .int re, .ref sk, .ref si, .ref sy, .int sd, .ref ks, .ref ki, .int kp, .ref al, .ref dr])), (sk, .inr (5, [.int (nI z), .int (nI t), .ref s1, .ref s2, .ref s3])), (s1, ai g 6 K), (s2, ai g 6 L), (s3, ai g 96 V), (sy, .inr (6, [.ref y1, .ref y2, .ref y3, .ref lw, .int chg, .ref tr])), (y1, ai g 168 S1)] H := hP
      have hD : va_D A [(h0, .inr (8, [.ref pg, .int le, .ref rd, .int re, .ref sk, .ref si, .ref sy, .int sd, .ref ks, .ref ki, .int kp, .ref al, .ref dr])), (sk, .inr (5, [.int (nI z), .int (nI t), .ref s1, .ref s2, .ref s3])), (s1, ai g 6 K), (s2, ai g 6 L), (s3, ai g 96 V), (sy, .inr (6, [.ref y1, .ref y2, .ref y3, .ref lw, .int chg, .ref tr])), (y1, ai g 168 S1)] := hD
      refine lv_iload_n hx hb dX8_tellOfNode_57 rfl (lv_at hl 2 rfl) ?_
      refine lv_iadd hx hb dX8_tellOfNode_58 ?_
      refine k_ald (28 * k + 7 * q + nd) (nI_add _ _) (by omega) hx hb hE hP 6 rfl (by decide) dX8_tellOfNode_59 ?_
      refine W.widen (k := 0) (n := 0) (Nat.le_of_ble_eq_true rfl) (Nat.le_of_ble_eq_true rfl) ?_
      exact k_ri hx hb hr hlocks hS hP hD rfl dX8_tellOfNode_60
    · skip
      refine lv_iconst (v := (-1)) hx hb dX8_tellOfNode_43 (by decide) ?_
      refine W.widen (k := 0) (n := 0) (Nat.le_of_ble_eq_true rfl) (Nat.le_of_ble_eq_true rfl) ?_
      exact k_ri hx hb hr hlocks hS hP hD rfl dX8_tellOfNode_44
  · skip
    have hnt := lt_of_nle (k := t) (n := nd) (by omega) (by omega) c8_1
    refine lv_aload_n hx hb dX8_tellOfNode_11 rfl (lv_at hl 0 rfl) ?_
    refine va_get (D := g.1) (ci := 8) (v := .ref sk) (C := RX8) (T := TX8) (N := 13) hx hb hts q_X8_tellOfNode_g_f8 hown hE.1 hP 0 rfl rfl 4 (by decide) (hts (.fieldLink RX8 23 "SoundLaws" "stock" "LSoundLaws$Stock;") q_X8_tellOfNode_g_1) (fun _ h9 => h9) rfl dX8_tellOfNode_12 ?_
    refine va_get (D := g.1) (ci := 5) (v := .ref s3) (C := RX5) (T := TX5) (N := 5) hx hb hts q_X8_tellOfNode_g_f5 hown hE.1 hP 1 rfl rfl 4 (by decide) (hts (.fieldLink RX8 162 "SoundLaws$Stock" "words" "[I") q_X8_tellOfNode_g_9) (fun _ h9 => h9) rfl dX8_tellOfNode_15 ?_
    refine lv_iload_n hx hb dX8_tellOfNode_18 rfl (lv_at hl 1 rfl) ?_
    refine lv_iload_n hx hb dX8_tellOfNode_19 rfl (lv_at hl 2 rfl) ?_
    refine k_ci (wr := [(h0, .inr (8, [.ref pg, .int le, .ref rd, .int re, .ref sk, .ref si, .ref sy, .int sd, .ref ks, .ref ki, .int kp, .ref al, .ref dr])), (sk, .inr (5, [.int (nI z), .int (nI t), .ref s1, .ref s2, .ref s3])), (s1, ai g 6 K), (s2, ai g 6 L), (s3, ai g 96 V), (sy, .inr (6, [.ref y1, .ref y2, .ref y3, .ref lw, .int chg, .ref tr])), (y1, ai g 168 S1)]) hP hD hS hA [] [0, 1, 2, 3, 4, 5, 6] rfl rfl (by decide) (by decide) (va_runS (As := [.int (nI k), .int (nI nd)]) (rest := [.ref s3]) ⟨hx, hb, hml, hown, hts⟩ (c_X8_wordAt_g l g k nd  s.heap.size) (va_cwS 2 hts gX8_tellOfNode_X8_wordAt rfl rfl rfl (by decide +kernel) ⟨Nat.le_of_ble_eq_true rfl, Nat.le_of_ble_eq_true rfl⟩) (k_preS hE hZ hP hD hS hA [] rfl (by decide)) rfl rfl hl.1 rfl (lv_room (Nat.le_of_ble_eq_true rfl)) dX8_tellOfNode_20 ⟨Nat.le_of_ble_eq_true rfl, Nat.le_of_ble_eq_true rfl⟩) (fun r_6 w1 H locs hw hP hD hS => ?_)
    obtain ⟨rfl, rfl⟩ := hw
    have hP : va_P g.1 vwCl [(h0, .inr (8, [.ref pg, .int le, .ref rd, .int re, .ref sk, .ref si, .ref sy, .int sd, .ref ks, .ref ki, .int kp, .ref al, .ref dr])), (sk, .inr (5, [.int (nI z), .int (nI t), .ref s1, .ref s2, .ref s3])), (s1, ai g 6 K), (s2, ai g 6 L), (s3, ai g 96 V), (sy, .inr (6, [.ref y1, .ref y2, .ref y3, .ref lw, .int chg, .ref tr])), (y1, ai g 168 S1)] H := hP
    have hD : va_D A [(h0, .inr (8, [.ref pg, .int le, .ref rd, .int re, .ref sk, .ref si, .ref sy, .int sd, .ref ks, .ref ki, .int kp, .ref al, .ref dr])), (sk, .inr (5, [.int (nI z), .int (nI t), .ref s1, .ref s2, .ref s3])), (s1, ai g 6 K), (s2, ai g 6 L), (s3, ai g 96 V), (sy, .inr (6, [.ref y1, .ref y2, .ref y3, .ref lw, .int chg, .ref tr])), (y1, ai g 168 S1)] := hD
    refine lv_iload_n hx hb dX8_tellOfNode_23 rfl (lv_at hl 3 rfl) ?_
    refine lv_iadd hx hb dX8_tellOfNode_24 ?_
    refine k_ald (16 * k + 4 * nd + q) (nI_add _ _) (by omega) hx hb hE hP 4 rfl (by decide) dX8_tellOfNode_25 ?_
    refine W.widen (k := 0) (n := 0) (Nat.le_of_ble_eq_true rfl) (Nat.le_of_ble_eq_true rfl) ?_
    exact k_ri hx hb hr hlocks hS hP hD rfl dX8_tellOfNode_26

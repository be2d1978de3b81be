def po_J7_fill_53178 (g : GG) (a0 : Nat) (f : Nat → Int32) : va_W → Prop := fun w => ∃ (f1 : Nat → Int32), w = [(a0, ai g 648 f1)] ∧ (∀ j, j < 648 → f1 j = 0)
set_option maxHeartbeats 4000000 in
set_option maxRecDepth 100000 in
theorem c_J7_fill_53178 (l : Launch) (g : GG) (a0 : Nat) (f : Nat → Int32)  (sz : Nat) : MetV l yJ7_fill_53178 wsJ7_fill_53178 ({ frames := 0, cells := 0, slots := 0, locals := 0 }) g [.ref a0, .int 0] [(a0, ai g 648 f)] sz (po_J7_fill_53178 g a0 f) 0 0 := by
  refine k_of (g := g) (wc := [(a0, ai g 648 f)]) (Qc := fun A => va_Qv (po_J7_fill_53178 g a0 f) (bk g A) A) (cc := cJ7_fill_53178) (maxL := 4) (ret := none) (by decide) rfl (Nat.le_of_ble_eq_true rfl) ?_ sz
  intro p e s m below meth c hx hb hr hts hown hlocks hnm hml A hA hE hZ hP hD hS ls hl
  have hown : s.vm.findClass RJ7 = some m.cls := hown
  have hl : lv_has ls 4 [(0, .ref a0), (1, .int 0)] := hl
  refine lv_iconst (v := 0) hx hb dJ7_fill_53178_0 (by decide) ?_
  refine lv_istore_n (lv' := [(2, .int 0), (0, .ref a0), (1, .int 0)]) hx hb dJ7_fill_53178_1 rfl hl (by decide) rfl (fun ls hl => ?_)
  refine lv_aload_n hx hb dJ7_fill_53178_2 rfl (lv_at hl 1 rfl) ?_
  refine va_alen (D := g.1) (v := 648) hx hb hE.1 hP 0 0 rfl rfl (by decide) dJ7_fill_53178_3 ?_
  refine lv_istore_n (lv' := [(3, .int 648), (2, .int 0), (0, .ref a0), (1, .int 0)]) hx hb dJ7_fill_53178_4 rfl hl (by decide) rfl (fun ls hl => ?_)
  have loop5 : ∀ (n : Nat) (j : Nat) (u : Nat → Int32), (hj : j ≤ 648) → (hu : ∀ t, t < j → u t = 0) → 648 - j < n → ∀ (H : Heap) (locs : List Loc) (ls : Array Slot), va_P g.1 vwCl [(a0, ai g 648 u)] H → va_D A [(a0, ai g 648 u)] → va_S A s.heap H locs → lv_has ls 4 [(0, .ref a0), (1, .int 0), (2, .int (nI j)), (3, .int 648)] → W p l e ({ frames := 0, cells := 0, slots := 0, locals := 0 }) s m [.ref a0, .int 0].toArray below meth c H locs 0 0 (MQ below (va_Qv (po_J7_fill_53178 g a0 f) (bk g A) A) [.ref a0, .int 0].toArray s 0 0 A) (F0 m 5 ls []) := by
    intro n
    induction n with
    | zero => intro j u hj hu hfu; exact absurd hfu (Nat.not_lt_zero _)
    | succ n ih =>
      intro j u hj hu hfu H locs ls hP hD hS hl
      have ih5 := ih
      refine lv_iload_n hx hb dJ7_fill_53178_5 rfl (lv_at hl 2 rfl) ?_
      refine lv_iload_n hx hb dJ7_fill_53178_6 rfl (lv_at hl 3 rfl) ?_
      refine lv_icmp_ge (tgt := 20) hx hb dJ7_fill_53178_7 (by decide) (fun c7_1 => ?_) (fun c7_1 => ?_)
      · skip
        have hj9 := ge_of_le (k := 648) (n := j) (by decide) (by omega) c7_1
        refine W.widen (k := 0) (n := 0) (Nat.le_of_ble_eq_true rfl) (Nat.le_of_ble_eq_true rfl) ?_
        exact k_rv hx hb hr hlocks hS hP hD ⟨u, rfl, (fun t ht => hu t (by omega))⟩ dJ7_fill_53178_20
      · skip
        have hj9 := lt_of_nle (k := 648) (n := j) (by decide) (by omega) c7_1
        refine lv_aload_n hx hb dJ7_fill_53178_10 rfl (lv_at hl 0 rfl) ?_
        refine lv_iload_n hx hb dJ7_fill_53178_11 rfl (lv_at hl 2 rfl) ?_
        refine lv_iload_n hx hb dJ7_fill_53178_12 rfl (lv_at hl 1 rfl) ?_
        refine k_ast (x := 0) j rfl (by omega) hx hb hE hP hD hS 0 rfl (by decide) dJ7_fill_53178_13 (fun H locs hP hD hS => ?_)
        have hP : va_P g.1 vwCl [(a0, ai g 648 (upd u j 0))] H := hP
        have hD : va_D A [(a0, ai g 648 (upd u j 0))] := hD
        refine lv_iinc (v := (nI (j + 1))) (lv' := [(2, .int (nI (j + 1))), (0, .ref a0), (1, .int 0), (3, .int 648)]) hx hb dJ7_fill_53178_14 hl (k := 2) rfl (nI_1 _) (by decide) rfl (fun ls hl => ?_)
        refine lv_goto (tgt := 5) hx hb dJ7_fill_53178_17 (by decide) ?_
        exact ih5 (j + 1) (upd u j 0) (by omega) (fun t ht => by by_cases hk : t = j <;> [(rw [hk, pk_us]); (rw [pk_un hk]; exact hu t (by omega))]) (by omega) _ _ _ hP hD hS (lv_sub hl [1, 2, 0, 3] rfl)
  exact loop5 _ 0 f (Nat.zero_le 648) (fun t ht => absurd ht (Nat.not_lt_zero t)) (Nat.lt_succ_self _) _ _ _ hP hD hS (lv_sub hl [2, 3, 1, 0] rfl)
def po_X2_clear (g : GG) (lw : Nat) (lw1 : Nat) (lw2 : Nat) (lw3 : Nat) (lw4 : Nat) : va_W → Prop := fun w => ∃ (f1 : Nat → Int32), w = [(lw, .inr (2, [.ref lw1, .ref lw2, .ref lw3, .int 0, .int 0, .ref lw4])), (lw4, ai g 648 f1)]
theorem q_X2_clear_f2 : ∀ w ∈ u_ws RX2 TX2 6, w ∈ wsX2_clear := by decide +kernel
theorem q_X2_clear_1 : (Cond.fieldLink RX2 21 "SoundLaws$Laws" "weights" "[I") ∈ wsX2_clear := by decide +kernel
set_option maxHeartbeats 4000000 in
set_option maxRecDepth 100000 in
theorem c_X2_clear (l : Launch) (g : GG) (lw : Nat) (lw1 : Nat) (lw2 : Nat) (lw3 : Nat) (lw4 : Nat)  (sz : Nat) : MetV l yX2_clear wsX2_clear ({ frames := 1, cells := 0, slots := 0, locals := 23 }) g [.ref lw] [(lw, .inr (2, [.ref lw1, .ref lw2, .ref lw3, .int 0, .int 0, .ref lw4])), (lw4, ai g 648 (fun _ => 0))] sz (po_X2_clear g lw lw1 lw2 lw3 lw4) 0 0 := by
  refine k_of (g := g) (wc := [(lw, .inr (2, [.ref lw1, .ref lw2, .ref lw3, .int 0, .int 0, .ref lw4])), (lw4, ai g 648 (fun _ => 0))]) (Qc := fun A => va_Qv (po_X2_clear g lw lw1 lw2 lw3 lw4) (bk g A) A) (cc := cX2_clear) (maxL := 1) (ret := none) (by decide) rfl (Nat.le_of_ble_eq_true rfl) ?_ sz
  intro p e s m below meth c hx hb hr hts hown hlocks hnm hml A hA hE hZ hP hD hS ls hl
  have hown : s.vm.findClass RX2 = some m.cls := hown
  have hl : lv_has ls 1 [(0, .ref lw)] := hl
  refine lv_aload_n hx hb dX2_clear_0 rfl (lv_at hl 0 rfl) ?_
  refine va_get (D := g.1) (ci := 2) (v := .ref lw4) (C := RX2) (T := TX2) (N := 6) hx hb hts q_X2_clear_f2 hown hE.1 hP 0 rfl rfl 5 (by decide) (hts (.fieldLink RX2 21 "SoundLaws$Laws" "weights" "[I") q_X2_clear_1) (fun _ h9 => h9) rfl dX2_clear_1 ?_
  refine lv_iconst (v := 0) hx hb dX2_clear_4 (by decide) ?_
  refine k_cv (wr := [(lw, .inr (2, [.ref lw1, .ref lw2, .ref lw3, .int 0, .int 0, .ref lw4]))]) hP hD hS hA [1] [0] rfl rfl (by decide) (by decide) (va_runS (As := [.ref lw4, .int 0]) (rest := []) ⟨hx, hb, hml, hown, hts⟩ (c_J7_fill_53178 l g lw4 (fun _ => 0)  H.size) (va_cwS 2 hts gX2_clear_J7_fill_53178 rfl rfl rfl (by decide +kernel) ⟨Nat.le_of_ble_eq_true rfl, Nat.le_of_ble_eq_true rfl⟩) (k_preS hE hZ hP hD hS hA [1] rfl (by decide)) rfl rfl hl.1 rfl (lv_room (Nat.le_of_ble_eq_true rfl)) dX2_clear_5 ⟨Nat.le_of_ble_eq_true rfl, Nat.le_of_ble_eq_true rfl⟩) (fun w1 H locs hw hP hD hS => ?_)
  obtain ⟨f1_2, rfl, hf1_3⟩ := hw
  have hP : va_P g.1 vwCl [(lw, .inr (2, [.ref lw1, .ref lw2, .ref lw3, .int 0, .int 0, .ref lw4])), (lw4, ai g 648 f1_2)] H := hP
  have hD : va_D A [(lw, .inr (2, [.ref lw1, .ref lw2, .ref lw3, .int 0, .int 0, .ref lw4])), (lw4, ai g 648 f1_2)] := hD
  refine W.widen (k := 0) (n := 0) (Nat.le_of_ble_eq_true rfl) (Nat.le_of_ble_eq_true rfl) ?_
  exact k_rv hx hb hr hlocks hS hP hD ⟨f1_2, rfl⟩ dX2_clear_8
def po_X2_settle (g : GG) (lw : Nat) (lw1 : Nat) (lw2 : Nat) (lw3 : Nat) (lw4 : Nat) : va_W → Prop := fun w => w = [(lw, .inr (2, [.ref lw1, .ref lw2, .ref lw3, .int 0, .int 0, .ref lw4]))]
theorem q_X2_settle_f2 : ∀ w ∈ u_ws RX2 TX2 6, w ∈ wsX2_settle := by decide +kernel
theorem q_X2_settle_1 : (Cond.fieldLink RX2 30 "SoundLaws$Laws" "known" "I") ∈ wsX2_settle := by decide +kernel
theorem q_X2_settle_2 : (Cond.fieldLink RX2 34 "SoundLaws$Laws" "exceptionsOfAll" "I") ∈ wsX2_settle := by decide +kernel
set_option maxHeartbeats 4000000 in
set_option maxRecDepth 100000 in
theorem c_X2_settle (l : Launch) (g : GG) (lw : Nat) (lw1 : Nat) (lw2 : Nat) (lw3 : Nat) (lw4 : Nat)  (sz : Nat) : MetV l yX2_settle wsX2_settle ({ frames := 0, cells := 0, slots := 0, locals := 0 }) g [.ref lw, .int 0] [(lw, .inr (2, [.ref lw1, .ref lw2, .ref lw3, .int 0, .int 0, .ref lw4]))] sz (po_X2_settle g lw lw1 lw2 lw3 lw4) 0 0 := by
  refine k_of (g := g) (wc := [(lw, .inr (2, [.ref lw1, .ref lw2, .ref lw3, .int 0, .int 0, .ref lw4]))]) (Qc := fun A => va_Qv (po_X2_settle g lw lw1 lw2 lw3 lw4) (bk g A) A) (cc := cX2_settle) (maxL := 3) (ret := none) (by decide) rfl (Nat.le_of_ble_eq_true rfl) ?_ sz
  intro p e s m below meth c hx hb hr hts hown hlocks hnm hml A hA hE hZ hP hD hS ls hl
  have hown : s.vm.findClass RX2 = some m.cls := hown
  have hl : lv_has ls 3 [(0, .ref lw), (1, .int 0)] := hl
  refine lv_aload_n hx hb dX2_settle_0 rfl (lv_at hl 0 rfl) ?_
  refine lv_iconst (v := 0) hx hb dX2_settle_1 (by decide) ?_
  refine va_put (D := g.1) (ci := 2) (v := .int 0) (ty := .int) (C := RX2) (T := TX2) (N := 6) hx hb hts q_X2_settle_f2 tyX2 tyX2_ok nmX2 hown hE.1 hP hD hS 0 rfl rfl 3 (by decide) (hts (.fieldLink RX2 30 "SoundLaws$Laws" "known" "I") q_X2_settle_1) (fun _ h9 => h9) rfl (by decide +kernel) rfl rfl (Nat.le_of_ble_eq_true rfl) dX2_settle_2 (fun H locs hP hD hS => ?_)
  have hP : va_P g.1 vwCl [(lw, .inr (2, [.ref lw1, .ref lw2, .ref lw3, .int 0, .int 0, .ref lw4]))] H := hP
  have hD : va_D A [(lw, .inr (2, [.ref lw1, .ref lw2, .ref lw3, .int 0, .int 0, .ref lw4]))] := hD
  refine lv_aload_n hx hb dX2_settle_5 rfl (lv_at hl 0 rfl) ?_
  refine lv_iconst (v := 0) hx hb dX2_settle_6 (by decide) ?_
  refine va_put (D := g.1) (ci := 2) (v := .int 0) (ty := .int) (C := RX2) (T := TX2) (N := 6) hx hb hts q_X2_settle_f2 tyX2 tyX2_ok nmX2 hown hE.1 hP hD hS 0 rfl rfl 4 (by decide) (hts (.fieldLink RX2 34 "SoundLaws$Laws" "exceptionsOfAll" "I") q_X2_settle_2) (fun _ h9 => h9) rfl (by decide +kernel) rfl rfl (Nat.le_of_ble_eq_true rfl) dX2_settle_7 (fun H locs hP hD hS => ?_)
  have hP : va_P g.1 vwCl [(lw, .inr (2, [.ref lw1, .ref lw2, .ref lw3, .int 0, .int 0, .ref lw4]))] H := hP
  have hD : va_D A [(lw, .inr (2, [.ref lw1, .ref lw2, .ref lw3, .int 0, .int 0, .ref lw4]))] := hD
  refine lv_iconst (v := 0) hx hb dX2_settle_10 (by decide) ?_
  refine lv_istore_n (lv' := [(2, .int 0), (0, .ref lw), (1, .int 0)]) hx hb dX2_settle_11 rfl hl (by decide) rfl (fun ls hl => ?_)
  refine lv_iload_n hx hb dX2_settle_12 rfl (lv_at hl 0 rfl) ?_
  refine lv_iload_n hx hb dX2_settle_13 rfl (lv_at hl 2 rfl) ?_
  refine lv_bipush (v := 9) hx hb dX2_settle_14 (by decide) ?_
  refine lv_imul hx hb dX2_settle_16 ?_
  refine lv_topi (fun x_1 ex_1 => ?_)
  obtain rfl : x_1 = 0 := ex_1.trans (by decide)
  refine lv_iconst (v := 2) hx hb dX2_settle_17 (by decide) ?_
  refine lv_imul hx hb dX2_settle_18 ?_
  refine lv_topi (fun x_2 ex_2 => ?_)
  obtain rfl : x_2 = 0 := ex_2.trans (by decide)
  refine lv_icmp_ge (tgt := 68) hx hb dX2_settle_19 (by decide) (fun c19_3 => ?_) (fun c19_3 => ?_)
  · skip
    refine W.widen (k := 0) (n := 0) (Nat.le_of_ble_eq_true rfl) (Nat.le_of_ble_eq_true rfl) ?_
    exact k_rv hx hb hr hlocks hS hP hD rfl dX2_settle_68
  · exact absurd c19_3 (by decide)
def po_X6_renew (g : GG) (sy : Nat) (sy1 : Nat) (sy2 : Nat) (sy3 : Nat) (lw : Nat) (tr : Nat) (sk : Nat) (sk1 : Nat) (sk2 : Nat) (sk3 : Nat) (lw1 : Nat) (lw2 : Nat) (lw3 : Nat) (lw4 : Nat) (tr1 : Nat) (tr2 : Nat) : va_W → Prop := fun w => ∃ (f1 : Nat → Int32), w = [(sy, .inr (6, [.ref sy1, .ref sy2, .ref sy3, .ref lw, .int 0, .ref tr])), (sk, .inr (5, [.int 0, .int 0, .ref sk1, .ref sk2, .ref sk3])), (lw, .inr (2, [.ref lw1, .ref lw2, .ref lw3, .int 0, .int 0, .ref lw4])), (lw4, ai g 648 f1), (tr, .inr (7, [.int 0, .ref tr1, .ref tr2]))]
theorem q_X6_renew_f6 : ∀ w ∈ u_ws RX6 TX6 6, w ∈ wsX6_renew := by decide +kernel
theorem q_X6_renew_1 : (Cond.fieldLink RX6 31 "SoundLaws$Study" "tree" "LSoundLaws$Tree;") ∈ wsX6_renew := by decide +kernel
theorem q_X6_renew_f5 : ∀ w ∈ u_ws RX5 TX5 5, w ∈ wsX6_renew := by decide +kernel
theorem q_X6_renew_3 : (Cond.fieldLink RX6 35 "SoundLaws$Stock" "tongues" "I") ∈ wsX6_renew := by decide +kernel
theorem q_X6_renew_4 : (Cond.fieldLink RX6 45 "SoundLaws$Study" "changesOfAll" "I") ∈ wsX6_renew := by decide +kernel
theorem q_X6_renew_5 : (Cond.fieldLink RX6 48 "SoundLaws$Stock" "size" "I") ∈ wsX6_renew := by decide +kernel
theorem q_X6_renew_6 : (Cond.fieldLink RX6 24 "SoundLaws$Study" "laws" "LSoundLaws$Laws;") ∈ wsX6_renew := by decide +kernel
set_option maxHeartbeats 4000000 in
set_option maxRecDepth 100000 in
theorem c_X6_renew (l : Launch) (g : GG) (sy : Nat) (sy1 : Nat) (sy2 : Nat) (sy3 : Nat) (lw : Nat) (tr : Nat) (sk : Nat) (sk1 : Nat) (sk2 : Nat) (sk3 : Nat) (lw1 : Nat) (lw2 : Nat) (lw3 : Nat) (lw4 : Nat) (tr1 : Nat) (tr2 : Nat)  (sz : Nat) : MetV l yX6_renew wsX6_renew ({ frames := 2, cells := 0, slots := 0, locals := 43 }) g [.ref sy, .ref sk] [(sy, .inr (6, [.ref sy1, .ref sy2, .ref sy3, .ref lw, .int 0, .ref tr])), (sk, .inr (5, [.int 0, .int 0, .ref sk1, .ref sk2, .ref sk3])), (lw, .inr (2, [.ref lw1, .ref lw2, .ref lw3, .int 0, .int 0, .ref lw4])), (lw4, ai g 648 (fun _ => 0)), (tr, .inr (7, [.int 0, .ref tr1, .ref tr2]))] sz (po_X6_renew g sy sy1 sy2 sy3 lw tr sk sk1 sk2 sk3 lw1 lw2 lw3 lw4 tr1 tr2) 0 0 := by
  refine k_of (g := g) (wc := [(sy, .inr (6, [.ref sy1, .ref sy2, .ref sy3, .ref lw, .int 0, .ref tr])), (sk, .inr (5, [.int 0, .int 0, .ref sk1, .ref sk2, .ref sk3])), (lw, .inr (2, [.ref lw1, .ref lw2, .ref lw3, .int 0, .int 0, .ref lw4])), (lw4, ai g 648 (fun _ => 0)), (tr, .inr (7, [.int 0, .ref tr1, .ref tr2]))]) (Qc := fun A => va_Qv (po_X6_renew g sy sy1 sy2 sy3 lw tr sk sk1 sk2 sk3 lw1 lw2 lw3 lw4 tr1 tr2) (bk g A) A) (cc := cX6_renew) (maxL := 3) (ret := none) (by decide) rfl (Nat.le_of_ble_eq_true rfl) ?_ sz
  intro p e s m below meth c hx hb hr hts hown hlocks hnm hml A hA hE hZ hP hD hS ls hl
  have hown : s.vm.findClass RX6 = some m.cls := hown
  have hl : lv_has ls 3 [(0, .ref sy), (1, .ref sk)] := hl
  refine lv_aload_n hx hb dX6_renew_0 rfl (lv_at hl 0 rfl) ?_
  refine va_get (D := g.1) (ci := 6) (v := .ref tr) (C := RX6) (T := TX6) (N := 6) hx hb hts q_X6_renew_f6 hown hE.1 hP 0 rfl rfl 5 (by decide) (hts (.fieldLink RX6 31 "SoundLaws$Study" "tree" "LSoundLaws$Tree;") q_X6_renew_1) (fun _ h9 => h9) rfl dX6_renew_1 ?_
  refine lv_aload_n hx hb dX6_renew_4 rfl (lv_at hl 1 rfl) ?_
  refine va_get (D := g.1) (ci := 5) (v := .int 0) (C := RX5) (T := TX5) (N := 5) hx hb hts q_X6_renew_f5 hown hE.1 hP 1 rfl rfl 1 (by decide) (hts (.fieldLink RX6 35 "SoundLaws$Stock" "tongues" "I") q_X6_renew_3) (fun _ h9 => h9) rfl dX6_renew_5 ?_
  refine k_cv (wr := [(sy, .inr (6, [.ref sy1, .ref sy2, .ref sy3, .ref lw, .int 0, .ref tr])), (sk, .inr (5, [.int 0, .int 0, .ref sk1, .ref sk2, .ref sk3])), (lw, .inr (2, [.ref lw1, .ref lw2, .ref lw3, .int 0, .int 0, .ref lw4])), (lw4, ai g 648 (fun _ => 0))]) hP hD hS hA [4] [0, 1, 2, 3] rfl rfl (by decide) (by decide) (va_runV (As := [.int 0]) (rest := []) ⟨hx, hb, hml, hown, hts⟩ (c_X7_plant l g tr tr1 tr2 0 0  H.size) (cwV 1 hts gX6_renew_X7_plant rfl rfl rfl (by decide +kernel) ⟨Nat.le_of_ble_eq_true rfl, Nat.le_of_ble_eq_true rfl⟩) (k_preV hE hZ hP hD hS hA [4] rfl (by decide) (va_recv hE.1 hP (ci := 7) (q0 := 4) rfl rfl)) rfl rfl hl.1 rfl (lv_room (Nat.le_of_ble_eq_true rfl)) dX6_renew_8 ⟨Nat.le_of_ble_eq_true rfl, Nat.le_of_ble_eq_true rfl⟩) (fun w1 H locs hw hP hD hS => ?_)
  obtain rfl := hw
  have hP : va_P g.1 vwCl [(sy, .inr (6, [.ref sy1, .ref sy2, .ref sy3, .ref lw, .int 0, .ref tr])), (sk, .inr (5, [.int 0, .int 0, .ref sk1, .ref sk2, .ref sk3])), (lw, .inr (2, [.ref lw1, .ref lw2, .ref lw3, .int 0, .int 0, .ref lw4])), (lw4, ai g 648 (fun _ => 0)), (tr, .inr (7, [.int 0, .ref tr1, .ref tr2]))] H := hP
  have hD : va_D A [(sy, .inr (6, [.ref sy1, .ref sy2, .ref sy3, .ref lw, .int 0, .ref tr])), (sk, .inr (5, [.int 0, .int 0, .ref sk1, .ref sk2, .ref sk3])), (lw, .inr (2, [.ref lw1, .ref lw2, .ref lw3, .int 0, .int 0, .ref lw4])), (lw4, ai g 648 (fun _ => 0)), (tr, .inr (7, [.int 0, .ref tr1, .ref tr2]))] := hD
  refine lv_aload_n hx hb dX6_renew_11 rfl (lv_at hl 0 rfl) ?_
  refine lv_iconst (v := 0) hx hb dX6_renew_12 (by decide) ?_
  refine va_put (D := g.1) (ci := 6) (v := .int 0) (ty := .int) (C := RX6) (T := TX6) (N := 6) hx hb hts q_X6_renew_f6 tyX6 tyX6_ok nmX6 hown hE.1 hP hD hS 0 rfl rfl 4 (by decide) (hts (.fieldLink RX6 45 "SoundLaws$Study" "changesOfAll" "I") q_X6_renew_4) (fun _ h9 => h9) rfl (by decide +kernel) rfl rfl (Nat.le_of_ble_eq_true rfl) dX6_renew_13 (fun H locs hP hD hS => ?_)
  have hP : va_P g.1 vwCl [(sy, .inr (6, [.ref sy1, .ref sy2, .ref sy3, .ref lw, .int 0, .ref tr])), (sk, .inr (5, [.int 0, .int 0, .ref sk1, .ref sk2, .ref sk3])), (lw, .inr (2, [.ref lw1, .ref lw2, .ref lw3, .int 0, .int 0, .ref lw4])), (lw4, ai g 648 (fun _ => 0)), (tr, .inr (7, [.int 0, .ref tr1, .ref tr2]))] H := hP
  have hD : va_D A [(sy, .inr (6, [.ref sy1, .ref sy2, .ref sy3, .ref lw, .int 0, .ref tr])), (sk, .inr (5, [.int 0, .int 0, .ref sk1, .ref sk2, .ref sk3])), (lw, .inr (2, [.ref lw1, .ref lw2, .ref lw3, .int 0, .int 0, .ref lw4])), (lw4, ai g 648 (fun _ => 0)), (tr, .inr (7, [.int 0, .ref tr1, .ref tr2]))] := hD
  refine lv_iconst (v := 0) hx hb dX6_renew_16 (by decide) ?_
  refine lv_istore_n (lv' := [(2, .int 0), (0, .ref sy), (1, .ref sk)]) hx hb dX6_renew_17 rfl hl (by decide) rfl (fun ls hl => ?_)
  refine lv_iload_n hx hb dX6_renew_18 rfl (lv_at hl 0 rfl) ?_
  refine lv_aload_n hx hb dX6_renew_19 rfl (lv_at hl 2 rfl) ?_
  refine va_get (D := g.1) (ci := 5) (v := .int 0) (C := RX5) (T := TX5) (N := 5) hx hb hts q_X6_renew_f5 hown hE.1 hP 1 rfl rfl 0 (by decide) (hts (.fieldLink RX6 48 "SoundLaws$Stock" "size" "I") q_X6_renew_5) (fun _ h9 => h9) rfl dX6_renew_20 ?_
  refine lv_icmp_ge (tgt := 38) hx hb dX6_renew_23 (by decide) (fun c23_2 => ?_) (fun c23_2 => ?_)
  · skip
    refine lv_aload_n hx hb dX6_renew_38 rfl (lv_at hl 1 rfl) ?_
    refine va_get (D := g.1) (ci := 6) (v := .ref lw) (C := RX6) (T := TX6) (N := 6) hx hb hts q_X6_renew_f6 hown hE.1 hP 0 rfl rfl 3 (by decide) (hts (.fieldLink RX6 24 "SoundLaws$Study" "laws" "LSoundLaws$Laws;") q_X6_renew_6) (fun _ h9 => h9) rfl dX6_renew_39 ?_
    refine k_cv (wr := [(sy, .inr (6, [.ref sy1, .ref sy2, .ref sy3, .ref lw, .int 0, .ref tr])), (sk, .inr (5, [.int 0, .int 0, .ref sk1, .ref sk2, .ref sk3])), (tr, .inr (7, [.int 0, .ref tr1, .ref tr2]))]) hP hD hS hA [2, 3] [0, 1, 4] rfl rfl (by decide) (by decide) (va_runV (As := []) (rest := []) ⟨hx, hb, hml, hown, hts⟩ (c_X2_clear l g lw lw1 lw2 lw3 lw4  H.size) (cwV 0 hts gX6_renew_X2_clear rfl rfl rfl (by decide +kernel) ⟨Nat.le_of_ble_eq_true rfl, Nat.le_of_ble_eq_true rfl⟩) (k_preV hE hZ hP hD hS hA [2, 3] rfl (by decide) (va_recv hE.1 hP (ci := 2) (q0 := 2) rfl rfl)) rfl rfl hl.1 rfl (lv_room (Nat.le_of_ble_eq_true rfl)) dX6_renew_42 ⟨Nat.le_of_ble_eq_true rfl, Nat.le_of_ble_eq_true rfl⟩) (fun w1 H locs hw hP hD hS => ?_)
    obtain ⟨f1_4, rfl⟩ := hw
    have hP : va_P g.1 vwCl [(sy, .inr (6, [.ref sy1, .ref sy2, .ref sy3, .ref lw, .int 0, .ref tr])), (sk, .inr (5, [.int 0, .int 0, .ref sk1, .ref sk2, .ref sk3])), (tr, .inr (7, [.int 0, .ref tr1, .ref tr2])), (lw, .inr (2, [.ref lw1, .ref lw2, .ref lw3, .int 0, .int 0, .ref lw4])), (lw4, ai g 648 f1_4)] H := hP
    have hD : va_D A [(sy, .inr (6, [.ref sy1, .ref sy2, .ref sy3, .ref lw, .int 0, .ref tr])), (sk, .inr (5, [.int 0, .int 0, .ref sk1, .ref sk2, .ref sk3])), (tr, .inr (7, [.int 0, .ref tr1, .ref tr2])), (lw, .inr (2, [.ref lw1, .ref lw2, .ref lw3, .int 0, .int 0, .ref lw4])), (lw4, ai g 648 f1_4)] := hD
    refine lv_iconst (v := 0) hx hb dX6_renew_45 (by decide) ?_
    refine lv_istore_n (lv' := [(2, .int 0), (0, .ref sy), (1, .ref sk)]) hx hb dX6_renew_46 rfl hl (by decide) rfl (fun ls hl => ?_)
    refine lv_iload_n hx hb dX6_renew_47 rfl (lv_at hl 0 rfl) ?_
    refine lv_aload_n hx hb dX6_renew_48 rfl (lv_at hl 2 rfl) ?_
    refine va_get (D := g.1) (ci := 5) (v := .int 0) (C := RX5) (T := TX5) (N := 5) hx hb hts q_X6_renew_f5 hown hE.1 hP 1 rfl rfl 0 (by decide) (hts (.fieldLink RX6 48 "SoundLaws$Stock" "size" "I") q_X6_renew_5) (fun _ h9 => h9) rfl dX6_renew_49 ?_
    refine lv_icmp_ge (tgt := 67) hx hb dX6_renew_52 (by decide) (fun c52_5 => ?_) (fun c52_5 => ?_)
    · skip
      refine lv_aload_n hx hb dX6_renew_67 rfl (lv_at hl 1 rfl) ?_
      refine va_get (D := g.1) (ci := 6) (v := .ref lw) (C := RX6) (T := TX6) (N := 6) hx hb hts q_X6_renew_f6 hown hE.1 hP 0 rfl rfl 3 (by decide) (hts (.fieldLink RX6 24 "SoundLaws$Study" "laws" "LSoundLaws$Laws;") q_X6_renew_6) (fun _ h9 => h9) rfl dX6_renew_68 ?_
      refine lv_aload_n hx hb dX6_renew_71 rfl (lv_at hl 2 rfl) ?_
      refine va_get (D := g.1) (ci := 5) (v := .int 0) (C := RX5) (T := TX5) (N := 5) hx hb hts q_X6_renew_f5 hown hE.1 hP 1 rfl rfl 1 (by decide) (hts (.fieldLink RX6 35 "SoundLaws$Stock" "tongues" "I") q_X6_renew_3) (fun _ h9 => h9) rfl dX6_renew_72 ?_
      refine k_cv (wr := [(sy, .inr (6, [.ref sy1, .ref sy2, .ref sy3, .ref lw, .int 0, .ref tr])), (sk, .inr (5, [.int 0, .int 0, .ref sk1, .ref sk2, .ref sk3])), (tr, .inr (7, [.int 0, .ref tr1, .ref tr2])), (lw4, ai g 648 f1_4)]) hP hD hS hA [3] [0, 1, 2, 4] rfl rfl (by decide) (by decide) (va_runV (As := [.int 0]) (rest := []) ⟨hx, hb, hml, hown, hts⟩ (c_X2_settle l g lw lw1 lw2 lw3 lw4  H.size) (cwV 1 hts gX6_renew_X2_settle rfl rfl rfl (by decide +kernel) ⟨Nat.le_of_ble_eq_true rfl, Nat.le_of_ble_eq_true rfl⟩) (k_preV hE hZ hP hD hS hA [3] rfl (by decide) (va_recv hE.1 hP (ci := 2) (q0 := 3) rfl rfl)) rfl rfl hl.1 rfl (lv_room (Nat.le_of_ble_eq_true rfl)) dX6_renew_75 ⟨Nat.le_of_ble_eq_true rfl, Nat.le_of_ble_eq_true rfl⟩) (fun w1 H locs hw hP hD hS => ?_)
      obtain rfl := hw
      have hP : va_P g.1 vwCl [(sy, .inr (6, [.ref sy1, .ref sy2, .ref sy3, .ref lw, .int 0, .ref tr])), (sk, .inr (5, [.int 0, .int 0, .ref sk1, .ref sk2, .ref sk3])), (tr, .inr (7, [.int 0, .ref tr1, .ref tr2])), (lw4, ai g 648 f1_4), (lw, .inr (2, [.ref lw1, .ref lw2, .ref lw3, .int 0, .int 0, .ref lw4]))] H := hP
      have hD : va_D A [(sy, .inr (6, [.ref sy1, .ref sy2, .ref sy3, .ref lw, .int 0, .ref tr])), (sk, .inr (5, [.int 0, .int 0, .ref sk1, .ref sk2, .ref sk3])), (tr, .inr (7, [.int 0, .ref tr1, .ref tr2])), (lw4, ai g 648 f1_4), (lw, .inr (2, [.ref lw1, .ref lw2, .ref lw3, .int 0, .int 0, .ref lw4]))] := hD
      refine lv_iconst (v := 0) hx hb dX6_renew_78 (by decide) ?_
      refine lv_istore_n (lv' := [(2, .int 0), (0, .ref sy), (1, .ref sk)]) hx hb dX6_renew_79 rfl hl (by decide) rfl (fun ls hl => ?_)
      refine lv_iload_n hx hb dX6_renew_80 rfl (lv_at hl 0 rfl) ?_
      refine lv_aload_n hx hb dX6_renew_81 rfl (lv_at hl 2 rfl) ?_
      refine va_get (D := g.1) (ci := 5) (v := .int 0) (C := RX5) (T := TX5) (N := 5) hx hb hts q_X6_renew_f5 hown hE.1 hP 1 rfl rfl 0 (by decide) (hts (.fieldLink RX6 48 "SoundLaws$Stock" "size" "I") q_X6_renew_5) (fun _ h9 => h9) rfl dX6_renew_82 ?_
      refine lv_icmp_ge (tgt := 100) hx hb dX6_renew_85 (by decide) (fun c85_7 => ?_) (fun c85_7 => ?_)
      · skip
        refine W.widen (k := 0) (n := 0) (Nat.le_of_ble_eq_true rfl) (Nat.le_of_ble_eq_true rfl) ?_
        have hP9 := hP.sub (ws' := [(sy, .inr (6, [.ref sy1, .ref sy2, .ref sy3, .ref lw, .int 0, .ref tr])), (sk, .inr (5, [.int 0, .int 0, .ref sk1, .ref sk2, .ref sk3])), (lw, .inr (2, [.ref lw1, .ref lw2, .ref lw3, .int 0, .int 0, .ref lw4])), (lw4, ai g 648 f1_4), (tr, .inr (7, [.int 0, .ref tr1, .ref tr2]))]) [0, 1, 4, 3, 2] rfl
        have hD9 := hD.sub (ws' := [(sy, .inr (6, [.ref sy1, .ref sy2, .ref sy3, .ref lw, .int 0, .ref tr])), (sk, .inr (5, [.int 0, .int 0, .ref sk1, .ref sk2, .ref sk3])), (lw, .inr (2, [.ref lw1, .ref lw2, .ref lw3, .int 0, .int 0, .ref lw4])), (lw4, ai g 648 f1_4), (tr, .inr (7, [.int 0, .ref tr1, .ref tr2]))]) [0, 1, 4, 3, 2] (by decide) rfl
        exact k_rv hx hb hr hlocks hS hP9 hD9 ⟨f1_4, rfl⟩ dX6_renew_100
      · exact absurd c85_7 (by decide)
    · exact absurd c52_5 (by decide)
  · exact absurd c23_2 (by decide)
def po_X8_freshenStudy (g : GG) (h0 : Nat) (pg : Nat) (rd : Nat) (sk : Nat) (si : Nat) (sy : Nat) (ks : Nat) (ki : Nat) (al : Nat) (dr : Nat) (sy1 : Nat) (sy2 : Nat) (sy3 : Nat) (lw : Nat) (tr : Nat) (sk1 : Nat) (sk2 : Nat) (sk3 : Nat) (lw1 : Nat) (lw2 : Nat) (lw3 : Nat) (lw4 : Nat) (tr1 : Nat) (tr2 : Nat) : va_W → Prop := fun w => ∃ (f1 : Nat → Int32), w = [(h0, .inr (8, [.ref pg, .int 0, .ref rd, .int 0, .ref sk, .ref si, .ref sy, .int 1, .ref ks, .ref ki, .int 0, .ref al, .ref dr])), (sy, .inr (6, [.ref sy1, .ref sy2, .ref sy3, .ref lw, .int 0, .ref tr])), (sk, .inr (5, [.int 0, .int 0, .ref sk1, .ref sk2, .ref sk3])), (lw, .inr (2, [.ref lw1, .ref lw2, .ref lw3, .int 0, .int 0, .ref lw4])), (lw4, ai g 648 f1), (tr, .inr (7, [.int 0, .ref tr1, .ref tr2]))]
theorem q_X8_freshenStudy_f8 : ∀ w ∈ u_ws RX8 TX8 13, w ∈ wsX8_freshenStudy := by decide +kernel
theorem q_X8_freshenStudy_1 : (Cond.fieldLink RX8 87 "SoundLaws" "studied" "Z") ∈ wsX8_freshenStudy := by decide +kernel
theorem q_X8_freshenStudy_2 : (Cond.fieldLink RX8 37 "SoundLaws" "study" "LSoundLaws$Study;") ∈ wsX8_freshenStudy := by decide +kernel
theorem q_X8_freshenStudy_3 : (Cond.fieldLink RX8 23 "SoundLaws" "stock" "LSoundLaws$Stock;") ∈ wsX8_freshenStudy := by decide +kernel
set_option maxHeartbeats 4000000 in
set_option maxRecDepth 100000 in
theorem c_X8_freshenStudy (l : Launch) (g : GG) (h0 : Nat) (pg : Nat) (rd : Nat) (sk : Nat) (si : Nat) (sy : Nat) (ks : Nat) (ki : Nat) (al : Nat) (dr : Nat) (sy1 : Nat) (sy2 : Nat) (sy3 : Nat) (lw : Nat) (tr : Nat) (sk1 : Nat) (sk2 : Nat) (sk3 : Nat) (lw1 : Nat) (lw2 : Nat) (lw3 : Nat) (lw4 : Nat) (tr1 : Nat) (tr2 : Nat)  (sz : Nat) : MetV l yX8_freshenStudy wsX8_freshenStudy ({ frames := 3, cells := 0, slots := 0, locals := 65 }) g [.ref h0] [(h0, .inr (8, [.ref pg, .int 0, .ref rd, .int 0, .ref sk, .ref si, .ref sy, .int 0, .ref ks, .ref ki, .int 0, .ref al, .ref dr])), (sy, .inr (6, [.ref sy1, .ref sy2, .ref sy3, .ref lw, .int 0, .ref tr])), (sk, .inr (5, [.int 0, .int 0, .ref sk1, .ref sk2, .ref sk3])), (lw, .inr (2, [.ref lw1, .ref lw2, .ref lw3, .int 0, .int 0, .ref lw4])), (lw4, ai g 648 (fun _ => 0)), (tr, .inr (7, [.int 0, .ref tr1, .ref tr2]))] sz (po_X8_freshenStudy g h0 pg rd sk si sy ks ki al dr sy1 sy2 sy3 lw tr sk1 sk2 sk3 lw1 lw2 lw3 lw4 tr1 tr2) 0 0 := by
  refine k_of (g := g) (wc := [(h0, .inr (8, [.ref pg, .int 0, .ref rd, .int 0, .ref sk, .ref si, .ref sy, .int 0, .ref ks, .ref ki, .int 0, .ref al, .ref dr])), (sy, .inr (6, [.ref sy1, .ref sy2, .ref sy3, .ref lw, .int 0, .ref tr])), (sk, .inr (5, [.int 0, .int 0, .ref sk1, .ref sk2, .ref sk3])), (lw, .inr (2, [.ref lw1, .ref lw2, .ref lw3, .int 0, .int 0, .ref lw4])), (lw4, ai g 648 (fun _ => 0)), (tr, .inr (7, [.int 0, .ref tr1, .ref tr2]))]) (Qc := fun A => va_Qv (po_X8_freshenStudy g h0 pg rd sk si sy ks ki al dr sy1 sy2 sy3 lw tr sk1 sk2 sk3 lw1 lw2 lw3 lw4 tr1 tr2) (bk g A) A) (cc := cX8_freshenStudy) (maxL := 1) (ret := none) (by decide) rfl (Nat.le_of_ble_eq_true rfl) ?_ sz
  intro p e s m below meth c hx hb hr hts hown hlocks hnm hml A hA hE hZ hP hD hS ls hl
  have hown : s.vm.findClass RX8 = some m.cls := hown
  have hl : lv_has ls 1 [(0, .ref h0)] := hl
  refine lv_aload_n hx hb dX8_freshenStudy_0 rfl (lv_at hl 0 rfl) ?_
  refine va_get (D := g.1) (ci := 8) (v := .int 0) (C := RX8) (T := TX8) (N := 13) hx hb hts q_X8_freshenStudy_f8 hown hE.1 hP 0 rfl rfl 7 (by decide) (hts (.fieldLink RX8 87 "SoundLaws" "studied" "Z") q_X8_freshenStudy_1) (fun _ h9 => h9) rfl dX8_freshenStudy_1 ?_
  refine lv_if_ne (tgt := 18) hx hb dX8_freshenStudy_4 (by decide) (fun c4_1 => ?_) (fun c4_1 => ?_)
  · exact absurd c4_1 (by decide)
  · skip
    refine lv_aload_n hx hb dX8_freshenStudy_7 rfl (lv_at hl 0 rfl) ?_
    refine va_get (D := g.1) (ci := 8) (v := .ref sy) (C := RX8) (T := TX8) (N := 13) hx hb hts q_X8_freshenStudy_f8 hown hE.1 hP 0 rfl rfl 6 (by decide) (hts (.fieldLink RX8 37 "SoundLaws" "study" "LSoundLaws$Study;") q_X8_freshenStudy_2) (fun _ h9 => h9) rfl dX8_freshenStudy_8 ?_
    refine lv_aload_n hx hb dX8_freshenStudy_11 rfl (lv_at hl 0 rfl) ?_
    refine va_get (D := g.1) (ci := 8) (v := .ref sk) (C := RX8) (T := TX8) (N := 13) hx hb hts q_X8_freshenStudy_f8 hown hE.1 hP 0 rfl rfl 4 (by decide) (hts (.fieldLink RX8 23 "SoundLaws" "stock" "LSoundLaws$Stock;") q_X8_freshenStudy_3) (fun _ h9 => h9) rfl dX8_freshenStudy_12 ?_
    refine k_cv (wr := [(h0, .inr (8, [.ref pg, .int 0, .ref rd, .int 0, .ref sk, .ref si, .ref sy, .int 0, .ref ks, .ref ki, .int 0, .ref al, .ref dr]))]) hP hD hS hA [1, 2, 3, 4, 5] [0] rfl rfl (by decide) (by decide) (va_runV (As := [.ref sk]) (rest := []) ⟨hx, hb, hml, hown, hts⟩ (c_X6_renew l g sy sy1 sy2 sy3 lw tr sk sk1 sk2 sk3 lw1 lw2 lw3 lw4 tr1 tr2  H.size) (cwV 1 hts gX8_freshenStudy_X6_renew rfl rfl rfl (by decide +kernel) ⟨Nat.le_of_ble_eq_true rfl, Nat.le_of_ble_eq_true rfl⟩) (k_preV hE hZ hP hD hS hA [1, 2, 3, 4, 5] rfl (by decide) (va_recv hE.1 hP (ci := 6) (q0 := 1) rfl rfl)) rfl rfl hl.1 rfl (lv_room (Nat.le_of_ble_eq_true rfl)) dX8_freshenStudy_15 ⟨Nat.le_of_ble_eq_true rfl, Nat.le_of_ble_eq_true rfl⟩) (fun w1 H locs hw hP hD hS => ?_)
    obtain ⟨f1_3, rfl⟩ := hw
    have hP : va_P g.1 vwCl [(h0, .inr (8, [.ref pg, .int 0, .ref rd, .int 0, .ref sk, .ref si, .ref sy, .int 0, .ref ks, .ref ki, .int 0, .ref al, .ref dr])), (sy, .inr (6, [.ref sy1, .ref sy2, .ref sy3, .ref lw, .int 0, .ref tr])), (sk, .inr (5, [.int 0, .int 0, .ref sk1, .ref sk2, .ref sk3])), (lw, .inr (2, [.ref lw1, .ref lw2, .ref lw3, .int 0, .int 0, .ref lw4])), (lw4, ai g 648 f1_3), (tr, .inr (7, [.int 0, .ref tr1, .ref tr2]))] H := hP
    have hD : va_D A [(h0, .inr (8, [.ref pg, .int 0, .ref rd, .int 0, .ref sk, .ref si, .ref sy, .int 0, .ref ks, .ref ki, .int 0, .ref al, .ref dr])), (sy, .inr (6, [.ref sy1, .ref sy2, .ref sy3, .ref lw, .int 0, .ref tr])), (sk, .inr (5, [.int 0, .int 0, .ref sk1, .ref sk2, .ref sk3])), (lw, .inr (2, [.ref lw1, .ref lw2, .ref lw3, .int 0, .int 0, .ref lw4])), (lw4, ai g 648 f1_3), (tr, .inr (7, [.int 0, .ref tr1, .ref tr2]))] := hD
    refine lv_aload_n hx hb dX8_freshenStudy_18 rfl (lv_at hl 0 rfl) ?_
    refine lv_iconst (v := 1) hx hb dX8_freshenStudy_19 (by decide) ?_
    refine va_put (D := g.1) (ci := 8) (v := .int 1) (ty := .boolean) (C := RX8) (T := TX8) (N := 13) hx hb hts q_X8_freshenStudy_f8 tyX8 tyX8_ok nmX8 hown hE.1 hP hD hS 0 rfl rfl 7 (by decide) (hts (.fieldLink RX8 87 "SoundLaws" "studied" "Z") q_X8_freshenStudy_1) (fun _ h9 => h9) rfl (by decide +kernel) rfl rfl (Nat.le_of_ble_eq_true rfl) dX8_freshenStudy_20 (fun H locs hP hD hS => ?_)
    have hP : va_P g.1 vwCl [(h0, .inr (8, [.ref pg, .int 0, .ref rd, .int 0, .ref sk, .ref si, .ref sy, .int 1, .ref ks, .ref ki, .int 0, .ref al, .ref dr])), (sy, .inr (6, [.ref sy1, .ref sy2, .ref sy3, .ref lw, .int 0, .ref tr])), (sk, .inr (5, [.int 0, .int 0, .ref sk1, .ref sk2, .ref sk3])), (lw, .inr (2, [.ref lw1, .ref lw2, .ref lw3, .int 0, .int 0, .ref lw4])), (lw4, ai g 648 f1_3), (tr, .inr (7, [.int 0, .ref tr1, .ref tr2]))] H := hP
    have hD : va_D A [(h0, .inr (8, [.ref pg, .int 0, .ref rd, .int 0, .ref sk, .ref si, .ref sy, .int 1, .ref ks, .ref ki, .int 0, .ref al, .ref dr])), (sy, .inr (6, [.ref sy1, .ref sy2, .ref sy3, .ref lw, .int 0, .ref tr])), (sk, .inr (5, [.int 0, .int 0, .ref sk1, .ref sk2, .ref sk3])), (lw, .inr (2, [.ref lw1, .ref lw2, .ref lw3, .int 0, .int 0, .ref lw4])), (lw4, ai g 648 f1_3), (tr, .inr (7, [.int 0, .ref tr1, .ref tr2]))] := hD
    refine W.widen (k := 0) (n := 0) (Nat.le_of_ble_eq_true rfl) (Nat.le_of_ble_eq_true rfl) ?_
    exact k_rv hx hb hr hlocks hS hP hD ⟨f1_3, rfl⟩ dX8_freshenStudy_23
def po_X6_borrowedWords (g : GG) (sy : Nat) (sy1 : Nat) (sy2 : Nat) (sy3 : Nat) (lw : Nat) (tr : Nat) (sk : Nat) (sk1 : Nat) (sk2 : Nat) (sk3 : Nat) : Int32 → va_W → Prop := fun (r : Int32) w => w = [(sy, .inr (6, [.ref sy1, .ref sy2, .ref sy3, .ref lw, .int 0, .ref tr])), (sk, .inr (5, [.int 0, .int 0, .ref sk1, .ref sk2, .ref sk3]))] ∧ (r = 0)
theorem q_X6_borrowedWords_f5 : ∀ w ∈ u_ws RX5 TX5 5, w ∈ wsX6_borrowedWords := by decide +kernel
theorem q_X6_borrowedWords_1 : (Cond.fieldLink RX6 48 "SoundLaws$Stock" "size" "I") ∈ wsX6_borrowedWords := by decide +kernel
set_option maxHeartbeats 4000000 in
set_option maxRecDepth 100000 in
theorem c_X6_borrowedWords (l : Launch) (g : GG) (sy : Nat) (sy1 : Nat) (sy2 : Nat) (sy3 : Nat) (lw : Nat) (tr : Nat) (sk : Nat) (sk1 : Nat) (sk2 : Nat) (sk3 : Nat)  (sz : Nat) : MetI l yX6_borrowedWords wsX6_borrowedWords ({ frames := 0, cells := 0, slots := 0, locals := 0 }) g [.ref sy, .ref sk] [(sy, .inr (6, [.ref sy1, .ref sy2, .ref sy3, .ref lw, .int 0, .ref tr])), (sk, .inr (5, [.int 0, .int 0, .ref sk1, .ref sk2, .ref sk3]))] sz (po_X6_borrowedWords g sy sy1 sy2 sy3 lw tr sk sk1 sk2 sk3) 0 0 := by
  refine k_of (g := g) (wc := [(sy, .inr (6, [.ref sy1, .ref sy2, .ref sy3, .ref lw, .int 0, .ref tr])), (sk, .inr (5, [.int 0, .int 0, .ref sk1, .ref sk2, .ref sk3]))]) (Qc := fun A => va_Qi (po_X6_borrowedWords g sy sy1 sy2 sy3 lw tr sk sk1 sk2 sk3) (bk g A) A) (cc := cX6_borrowedWords) (maxL := 4) (ret := (some .int)) (by decide) rfl (Nat.le_of_ble_eq_true rfl) ?_ sz
  intro p e s m below meth c hx hb hr hts hown hlocks hnm hml A hA hE hZ hP hD hS ls hl
  have hown : s.vm.findClass RX6 = some m.cls := hown
  have hl : lv_has ls 4 [(0, .ref sy), (1, .ref sk)] := hl
  refine lv_iconst (v := 0) hx hb dX6_borrowedWords_0 (by decide) ?_
  refine lv_istore_n (lv' := [(2, .int 0), (0, .ref sy), (1, .ref sk)]) hx hb dX6_borrowedWords_1 rfl hl (by decide) rfl (fun ls hl => ?_)
  refine lv_iconst (v := 0) hx hb dX6_borrowedWords_2 (by decide) ?_
  refine lv_istore_n (lv' := [(3, .int 0), (2, .int 0), (0, .ref sy), (1, .ref sk)]) hx hb dX6_borrowedWords_3 rfl hl (by decide) rfl (fun ls hl => ?_)
  refine lv_iload_n hx hb dX6_borrowedWords_4 rfl (lv_at hl 0 rfl) ?_
  refine lv_aload_n hx hb dX6_borrowedWords_5 rfl (lv_at hl 3 rfl) ?_
  refine va_get (D := g.1) (ci := 5) (v := .int 0) (C := RX5) (T := TX5) (N := 5) hx hb hts q_X6_borrowedWords_f5 hown hE.1 hP 1 rfl rfl 0 (by decide) (hts (.fieldLink RX6 48 "SoundLaws$Stock" "size" "I") q_X6_borrowedWords_1) (fun _ h9 => h9) rfl dX6_borrowedWords_6 ?_
  refine lv_icmp_ge (tgt := 30) hx hb dX6_borrowedWords_9 (by decide) (fun c9_1 => ?_) (fun c9_1 => ?_)
  · skip
    refine lv_iload_n hx hb dX6_borrowedWords_30 rfl (lv_at hl 1 rfl) ?_
    refine W.widen (k := 0) (n := 0) (Nat.le_of_ble_eq_true rfl) (Nat.le_of_ble_eq_true rfl) ?_
    exact k_ri hx hb hr hlocks hS hP hD ⟨rfl, rfl⟩ dX6_borrowedWords_31
  · exact absurd c9_1 (by decide)
def po_X8_tellOfAll (g : GG) (h0 : Nat) (pg : Nat) (rd : Nat) (sk : Nat) (si : Nat) (sy : Nat) (ks : Nat) (ki : Nat) (al : Nat) (dr : Nat) (sk1 : Nat) (sk2 : Nat) (sk3 : Nat) (sy1 : Nat) (sy2 : Nat) (sy3 : Nat) (lw : Nat) (tr : Nat) (lw1 : Nat) (lw2 : Nat) (lw3 : Nat) (lw4 : Nat) (si1 : Nat) (si2 : Nat) (si3 : Nat) (p1 : Int32) : Int32 → va_W → Prop := fun (r : Int32) w => w = [(h0, .inr (8, [.ref pg, .int 0, .ref rd, .int 0, .ref sk, .ref si, .ref sy, .int 1, .ref ks, .ref ki, .int 0, .ref al, .ref dr])), (sk, .inr (5, [.int 0, .int 0, .ref sk1, .ref sk2, .ref sk3])), (sy, .inr (6, [.ref sy1, .ref sy2, .ref sy3, .ref lw, .int 0, .ref tr])), (lw, .inr (2, [.ref lw1, .ref lw2, .ref lw3, .int 0, .int 0, .ref lw4])), (si, .inr (4, [.int 0, .ref si1, .ref si2, .ref si3]))] ∧ (r = 0)
theorem q_X8_tellOfAll_f8 : ∀ w ∈ u_ws RX8 TX8 13, w ∈ wsX8_tellOfAll := by decide +kernel
theorem q_X8_tellOfAll_1 : (Cond.fieldLink RX8 23 "SoundLaws" "stock" "LSoundLaws$Stock;") ∈ wsX8_tellOfAll := by decide +kernel
theorem q_X8_tellOfAll_f5 : ∀ w ∈ u_ws RX5 TX5 5, w ∈ wsX8_tellOfAll := by decide +kernel
theorem q_X8_tellOfAll_3 : (Cond.fieldLink RX8 93 "SoundLaws$Stock" "size" "I") ∈ wsX8_tellOfAll := by decide +kernel
theorem q_X8_tellOfAll_4 : (Cond.fieldLink RX8 234 "SoundLaws$Stock" "tongues" "I") ∈ wsX8_tellOfAll := by decide +kernel
theorem q_X8_tellOfAll_5 : (Cond.fieldLink RX8 37 "SoundLaws" "study" "LSoundLaws$Study;") ∈ wsX8_tellOfAll := by decide +kernel
theorem q_X8_tellOfAll_f6 : ∀ w ∈ u_ws RX6 TX6 6, w ∈ wsX8_tellOfAll := by decide +kernel
theorem q_X8_tellOfAll_7 : (Cond.fieldLink RX8 202 "SoundLaws$Study" "changesOfAll" "I") ∈ wsX8_tellOfAll := by decide +kernel
theorem q_X8_tellOfAll_8 : (Cond.fieldLink RX8 133 "SoundLaws$Study" "laws" "LSoundLaws$Laws;") ∈ wsX8_tellOfAll := by decide +kernel
theorem q_X8_tellOfAll_f2 : ∀ w ∈ u_ws RX2 TX2 6, w ∈ wsX8_tellOfAll := by decide +kernel
theorem q_X8_tellOfAll_10 : (Cond.fieldLink RX8 278 "SoundLaws$Laws" "known" "I") ∈ wsX8_tellOfAll := by decide +kernel
theorem q_X8_tellOfAll_11 : (Cond.fieldLink RX8 281 "SoundLaws$Laws" "exceptionsOfAll" "I") ∈ wsX8_tellOfAll := by decide +kernel
theorem q_X8_tellOfAll_12 : (Cond.fieldLink RX8 30 "SoundLaws" "sightings" "LSoundLaws$Sightings;") ∈ wsX8_tellOfAll := by decide +kernel
theorem q_X8_tellOfAll_f4 : ∀ w ∈ u_ws RX4 TX4 4, w ∈ wsX8_tellOfAll := by decide +kernel
theorem q_X8_tellOfAll_14 : (Cond.fieldLink RX8 205 "SoundLaws$Sightings" "size" "I") ∈ wsX8_tellOfAll := by decide +kernel
theorem q_X8_tellOfAll_15 : (Cond.fieldLink RX8 61 "SoundLaws" "letters" "I") ∈ wsX8_tellOfAll := by decide +kernel
theorem q_X8_tellOfAll_16 : (Cond.fieldLink RX8 90 "SoundLaws" "readings" "I") ∈ wsX8_tellOfAll := by decide +kernel
set_option maxHeartbeats 4000000 in
set_option maxRecDepth 100000 in
theorem c_X8_tellOfAll (l : Launch) (g : GG) (h0 : Nat) (pg : Nat) (rd : Nat) (sk : Nat) (si : Nat) (sy : Nat) (ks : Nat) (ki : Nat) (al : Nat) (dr : Nat) (sk1 : Nat) (sk2 : Nat) (sk3 : Nat) (sy1 : Nat) (sy2 : Nat) (sy3 : Nat) (lw : Nat) (tr : Nat) (lw1 : Nat) (lw2 : Nat) (lw3 : Nat) (lw4 : Nat) (si1 : Nat) (si2 : Nat) (si3 : Nat) (p1 : Int32)  (sz : Nat) : MetI l yX8_tellOfAll wsX8_tellOfAll ({ frames := 1, cells := 0, slots := 0, locals := 23 }) g [.ref h0, .int p1] [(h0, .inr (8, [.ref pg, .int 0, .ref rd, .int 0, .ref sk, .ref si, .ref sy, .int 1, .ref ks, .ref ki, .int 0, .ref al, .ref dr])), (sk, .inr (5, [.int 0, .int 0, .ref sk1, .ref sk2, .ref sk3])), (sy, .inr (6, [.ref sy1, .ref sy2, .ref sy3, .ref lw, .int 0, .ref tr])), (lw, .inr (2, [.ref lw1, .ref lw2, .ref lw3, .int 0, .int 0, .ref lw4])), (si, .inr (4, [.int 0, .ref si1, .ref si2, .ref si3]))] sz (po_X8_tellOfAll g h0 pg rd sk si sy ks ki al dr sk1 sk2 sk3 sy1 sy2 sy3 lw tr lw1 lw2 lw3 lw4 si1 si2 si3 p1) 0 0 := by
  refine k_of (g := g) (wc := [(h0, .inr (8, [.ref pg, .int 0, .ref rd, .int 0, .ref sk, .ref si, .ref sy, .int 1, .ref ks, .ref ki, .int 0, .ref al, .ref dr])), (sk, .inr (5, [.int 0, .int 0, .ref sk1, .ref sk2, .ref sk3])), (sy, .inr (6, [.ref sy1, .ref sy2, .ref sy3, .ref lw, .int 0, .ref tr])), (lw, .inr (2, [.ref lw1, .ref lw2, .ref lw3, .int 0, .int 0, .ref lw4])), (si, .inr (4, [.int 0, .ref si1, .ref si2, .ref si3]))]) (Qc := fun A => va_Qi (po_X8_tellOfAll g h0 pg rd sk si sy ks ki al dr sk1 sk2 sk3 sy1 sy2 sy3 lw tr lw1 lw2 lw3 lw4 si1 si2 si3 p1) (bk g A) A) (cc := cX8_tellOfAll) (maxL := 2) (ret := (some .int)) (by decide) rfl (Nat.le_of_ble_eq_true rfl) ?_ sz
  intro p e s m below meth c hx hb hr hts hown hlocks hnm hml A hA hE hZ hP hD hS ls hl
  have hown : s.vm.findClass RX8 = some m.cls := hown
  have hl : lv_has ls 2 [(0, .ref h0), (1, .int p1)] := hl
  refine lv_iload_n hx hb dX8_tellOfAll_0 rfl (lv_at hl 1 rfl) ?_
  by_cases w1_0 : p1 = 0
  · refine lv_tableIn (tgt := 52) (off := 51) hx hb dX8_tellOfAll_1 (by rw [w1_0]; decide) (by rw [w1_0]; decide) (by rw [w1_0]; decide) (by decide) ?_
    refine lv_aload_n hx hb dX8_tellOfAll_52 rfl (lv_at hl 0 rfl) ?_
    refine va_get (D := g.1) (ci := 8) (v := .ref sk) (C := RX8) (T := TX8) (N := 13) hx hb hts q_X8_tellOfAll_f8 hown hE.1 hP 0 rfl rfl 4 (by decide) (hts (.fieldLink RX8 23 "SoundLaws" "stock" "LSoundLaws$Stock;") q_X8_tellOfAll_1) (fun _ h9 => h9) rfl dX8_tellOfAll_53 ?_
    refine va_get (D := g.1) (ci := 5) (v := .int 0) (C := RX5) (T := TX5) (N := 5) hx hb hts q_X8_tellOfAll_f5 hown hE.1 hP 1 rfl rfl 0 (by decide) (hts (.fieldLink RX8 93 "SoundLaws$Stock" "size" "I") q_X8_tellOfAll_3) (fun _ h9 => h9) rfl dX8_tellOfAll_56 ?_
    refine W.widen (k := 0) (n := 0) (Nat.le_of_ble_eq_true rfl) (Nat.le_of_ble_eq_true rfl) ?_
    exact k_ri hx hb hr hlocks hS hP hD ⟨rfl, rfl⟩ dX8_tellOfAll_59
  by_cases w1_1 : p1 = 1
  · refine lv_tableIn (tgt := 60) (off := 59) hx hb dX8_tellOfAll_1 (by rw [w1_1]; decide) (by rw [w1_1]; decide) (by rw [w1_1]; decide) (by decide) ?_
    refine lv_aload_n hx hb dX8_tellOfAll_60 rfl (lv_at hl 0 rfl) ?_
    refine va_get (D := g.1) (ci := 8) (v := .ref sk) (C := RX8) (T := TX8) (N := 13) hx hb hts q_X8_tellOfAll_f8 hown hE.1 hP 0 rfl rfl 4 (by decide) (hts (.fieldLink RX8 23 "SoundLaws" "stock" "LSoundLaws$Stock;") q_X8_tellOfAll_1) (fun _ h9 => h9) rfl dX8_tellOfAll_61 ?_
    refine va_get (D := g.1) (ci := 5) (v := .int 0) (C := RX5) (T := TX5) (N := 5) hx hb hts q_X8_tellOfAll_f5 hown hE.1 hP 1 rfl rfl 1 (by decide) (hts (.fieldLink RX8 234 "SoundLaws$Stock" "tongues" "I") q_X8_tellOfAll_4) (fun _ h9 => h9) rfl dX8_tellOfAll_64 ?_
    refine W.widen (k := 0) (n := 0) (Nat.le_of_ble_eq_true rfl) (Nat.le_of_ble_eq_true rfl) ?_
    exact k_ri hx hb hr hlocks hS hP hD ⟨rfl, rfl⟩ dX8_tellOfAll_67
  by_cases w1_2 : p1 = 2
  · refine lv_tableIn (tgt := 68) (off := 67) hx hb dX8_tellOfAll_1 (by rw [w1_2]; decide) (by rw [w1_2]; decide) (by rw [w1_2]; decide) (by decide) ?_
    refine lv_aload_n hx hb dX8_tellOfAll_68 rfl (lv_at hl 0 rfl) ?_
    refine va_get (D := g.1) (ci := 8) (v := .ref sk) (C := RX8) (T := TX8) (N := 13) hx hb hts q_X8_tellOfAll_f8 hown hE.1 hP 0 rfl rfl 4 (by decide) (hts (.fieldLink RX8 23 "SoundLaws" "stock" "LSoundLaws$Stock;") q_X8_tellOfAll_1) (fun _ h9 => h9) rfl dX8_tellOfAll_69 ?_
    refine va_get (D := g.1) (ci := 5) (v := .int 0) (C := RX5) (T := TX5) (N := 5) hx hb hts q_X8_tellOfAll_f5 hown hE.1 hP 1 rfl rfl 1 (by decide) (hts (.fieldLink RX8 234 "SoundLaws$Stock" "tongues" "I") q_X8_tellOfAll_4) (fun _ h9 => h9) rfl dX8_tellOfAll_72 ?_
    refine k_ci (wr := [(h0, .inr (8, [.ref pg, .int 0, .ref rd, .int 0, .ref sk, .ref si, .ref sy, .int 1, .ref ks, .ref ki, .int 0, .ref al, .ref dr])), (sk, .inr (5, [.int 0, .int 0, .ref sk1, .ref sk2, .ref sk3])), (sy, .inr (6, [.ref sy1, .ref sy2, .ref sy3, .ref lw, .int 0, .ref tr])), (lw, .inr (2, [.ref lw1, .ref lw2, .ref lw3, .int 0, .int 0, .ref lw4])), (si, .inr (4, [.int 0, .ref si1, .ref si2, .ref si3]))]) hP hD hS hA [] [0, 1, 2, 3, 4] rfl rfl (by decide) (by decide) (va_runS (As := [.int 0]) (rest := []) ⟨hx, hb, hml, hown, hts⟩ (c_X8_nodesOf_0 l g   H.size) (va_cwS 1 hts gX8_tellOfAll_X8_nodesOf rfl rfl rfl (by decide +kernel) ⟨Nat.le_of_ble_eq_true rfl, Nat.le_of_ble_eq_true rfl⟩) (k_preS hE hZ hP hD hS hA [] rfl (by decide)) rfl rfl hl.1 rfl (lv_room (Nat.le_of_ble_eq_true rfl)) dX8_tellOfAll_75 ⟨Nat.le_of_ble_eq_true rfl, Nat.le_of_ble_eq_true rfl⟩) (fun r_1 w1 H locs hw hP hD hS => ?_)
    obtain ⟨rfl, rfl⟩ := hw
    have hP : va_P g.1 vwCl [(h0, .inr (8, [.ref pg, .int 0, .ref rd, .int 0, .ref sk, .ref si, .ref sy, .int 1, .ref ks, .ref ki, .int 0, .ref al, .ref dr])), (sk, .inr (5, [.int 0, .int 0, .ref sk1, .ref sk2, .ref sk3])), (sy, .inr (6, [.ref sy1, .ref sy2, .ref sy3, .ref lw, .int 0, .ref tr])), (lw, .inr (2, [.ref lw1, .ref lw2, .ref lw3, .int 0, .int 0, .ref lw4])), (si, .inr (4, [.int 0, .ref si1, .ref si2, .ref si3]))] H := hP
    have hD : va_D A [(h0, .inr (8, [.ref pg, .int 0, .ref rd, .int 0, .ref sk, .ref si, .ref sy, .int 1, .ref ks, .ref ki, .int 0, .ref al, .ref dr])), (sk, .inr (5, [.int 0, .int 0, .ref sk1, .ref sk2, .ref sk3])), (sy, .inr (6, [.ref sy1, .ref sy2, .ref sy3, .ref lw, .int 0, .ref tr])), (lw, .inr (2, [.ref lw1, .ref lw2, .ref lw3, .int 0, .int 0, .ref lw4])), (si, .inr (4, [.int 0, .ref si1, .ref si2, .ref si3]))] := hD
    refine W.widen (k := 0) (n := 0) (Nat.le_of_ble_eq_true rfl) (Nat.le_of_ble_eq_true rfl) ?_
    exact k_ri hx hb hr hlocks hS hP hD ⟨rfl, rfl⟩ dX8_tellOfAll_78
  by_cases w1_3 : p1 = 3
  · refine lv_tableIn (tgt := 79) (off := 78) hx hb dX8_tellOfAll_1 (by rw [w1_3]; decide) (by rw [w1_3]; decide) (by rw [w1_3]; decide) (by decide) ?_
    refine lv_aload_n hx hb dX8_tellOfAll_79 rfl (lv_at hl 0 rfl) ?_
    refine va_get (D := g.1) (ci := 8) (v := .ref sy) (C := RX8) (T := TX8) (N := 13) hx hb hts q_X8_tellOfAll_f8 hown hE.1 hP 0 rfl rfl 6 (by decide) (hts (.fieldLink RX8 37 "SoundLaws" "study" "LSoundLaws$Study;") q_X8_tellOfAll_5) (fun _ h9 => h9) rfl dX8_tellOfAll_80 ?_
    refine va_get (D := g.1) (ci := 6) (v := .int 0) (C := RX6) (T := TX6) (N := 6) hx hb hts q_X8_tellOfAll_f6 hown hE.1 hP 2 rfl rfl 4 (by decide) (hts (.fieldLink RX8 202 "SoundLaws$Study" "changesOfAll" "I") q_X8_tellOfAll_7) (fun _ h9 => h9) rfl dX8_tellOfAll_83 ?_
    refine W.widen (k := 0) (n := 0) (Nat.le_of_ble_eq_true rfl) (Nat.le_of_ble_eq_true rfl) ?_
    exact k_ri hx hb hr hlocks hS hP hD ⟨rfl, rfl⟩ dX8_tellOfAll_86
  by_cases w1_4 : p1 = 4
  · refine lv_tableIn (tgt := 87) (off := 86) hx hb dX8_tellOfAll_1 (by rw [w1_4]; decide) (by rw [w1_4]; decide) (by rw [w1_4]; decide) (by decide) ?_
    refine lv_aload_n hx hb dX8_tellOfAll_87 rfl (lv_at hl 0 rfl) ?_
    refine va_get (D := g.1) (ci := 8) (v := .ref sy) (C := RX8) (T := TX8) (N := 13) hx hb hts q_X8_tellOfAll_f8 hown hE.1 hP 0 rfl rfl 6 (by decide) (hts (.fieldLink RX8 37 "SoundLaws" "study" "LSoundLaws$Study;") q_X8_tellOfAll_5) (fun _ h9 => h9) rfl dX8_tellOfAll_88 ?_
    refine va_get (D := g.1) (ci := 6) (v := .ref lw) (C := RX6) (T := TX6) (N := 6) hx hb hts q_X8_tellOfAll_f6 hown hE.1 hP 2 rfl rfl 3 (by decide) (hts (.fieldLink RX8 133 "SoundLaws$Study" "laws" "LSoundLaws$Laws;") q_X8_tellOfAll_8) (fun _ h9 => h9) rfl dX8_tellOfAll_91 ?_
    refine va_get (D := g.1) (ci := 2) (v := .int 0) (C := RX2) (T := TX2) (N := 6) hx hb hts q_X8_tellOfAll_f2 hown hE.1 hP 3 rfl rfl 3 (by decide) (hts (.fieldLink RX8 278 "SoundLaws$Laws" "known" "I") q_X8_tellOfAll_10) (fun _ h9 => h9) rfl dX8_tellOfAll_94 ?_
    refine W.widen (k := 0) (n := 0) (Nat.le_of_ble_eq_true rfl) (Nat.le_of_ble_eq_true rfl) ?_
    exact k_ri hx hb hr hlocks hS hP hD ⟨rfl, rfl⟩ dX8_tellOfAll_97
  by_cases w1_5 : p1 = 5
  · refine lv_tableIn (tgt := 98) (off := 97) hx hb dX8_tellOfAll_1 (by rw [w1_5]; decide) (by rw [w1_5]; decide) (by rw [w1_5]; decide) (by decide) ?_
    refine lv_aload_n hx hb dX8_tellOfAll_98 rfl (lv_at hl 0 rfl) ?_
    refine va_get (D := g.1) (ci := 8) (v := .ref sy) (C := RX8) (T := TX8) (N := 13) hx hb hts q_X8_tellOfAll_f8 hown hE.1 hP 0 rfl rfl 6 (by decide) (hts (.fieldLink RX8 37 "SoundLaws" "study" "LSoundLaws$Study;") q_X8_tellOfAll_5) (fun _ h9 => h9) rfl dX8_tellOfAll_99 ?_
    refine va_get (D := g.1) (ci := 6) (v := .ref lw) (C := RX6) (T := TX6) (N := 6) hx hb hts q_X8_tellOfAll_f6 hown hE.1 hP 2 rfl rfl 3 (by decide) (hts (.fieldLink RX8 133 "SoundLaws$Study" "laws" "LSoundLaws$Laws;") q_X8_tellOfAll_8) (fun _ h9 => h9) rfl dX8_tellOfAll_102 ?_
    refine va_get (D := g.1) (ci := 2) (v := .int 0) (C := RX2) (T := TX2) (N := 6) hx hb hts q_X8_tellOfAll_f2 hown hE.1 hP 3 rfl rfl 4 (by decide) (hts (.fieldLink RX8 281 "SoundLaws$Laws" "exceptionsOfAll" "I") q_X8_tellOfAll_11) (fun _ h9 => h9) rfl dX8_tellOfAll_105 ?_
    refine W.widen (k := 0) (n := 0) (Nat.le_of_ble_eq_true rfl) (Nat.le_of_ble_eq_true rfl) ?_
    exact k_ri hx hb hr hlocks hS hP hD ⟨rfl, rfl⟩ dX8_tellOfAll_108
  by_cases w1_6 : p1 = 6
  · refine lv_tableIn (tgt := 109) (off := 108) hx hb dX8_tellOfAll_1 (by rw [w1_6]; decide) (by rw [w1_6]; decide) (by rw [w1_6]; decide) (by decide) ?_
    refine lv_aload_n hx hb dX8_tellOfAll_109 rfl (lv_at hl 0 rfl) ?_
    refine va_get (D := g.1) (ci := 8) (v := .ref sy) (C := RX8) (T := TX8) (N := 13) hx hb hts q_X8_tellOfAll_f8 hown hE.1 hP 0 rfl rfl 6 (by decide) (hts (.fieldLink RX8 37 "SoundLaws" "study" "LSoundLaws$Study;") q_X8_tellOfAll_5) (fun _ h9 => h9) rfl dX8_tellOfAll_110 ?_
    refine lv_aload_n hx hb dX8_tellOfAll_113 rfl (lv_at hl 0 rfl) ?_
    refine va_get (D := g.1) (ci := 8) (v := .ref sk) (C := RX8) (T := TX8) (N := 13) hx hb hts q_X8_tellOfAll_f8 hown hE.1 hP 0 rfl rfl 4 (by decide) (hts (.fieldLink RX8 23 "SoundLaws" "stock" "LSoundLaws$Stock;") q_X8_tellOfAll_1) (fun _ h9 => h9) rfl dX8_tellOfAll_114 ?_
    refine k_ci (wr := [(h0, .inr (8, [.ref pg, .int 0, .ref rd, .int 0, .ref sk, .ref si, .ref sy, .int 1, .ref ks, .ref ki, .int 0, .ref al, .ref dr])), (lw, .inr (2, [.ref lw1, .ref lw2, .ref lw3, .int 0, .int 0, .ref lw4])), (si, .inr (4, [.int 0, .ref si1, .ref si2, .ref si3]))]) hP hD hS hA [2, 1] [0, 3, 4] rfl rfl (by decide) (by decide) (va_runV (As := [.ref sk]) (rest := []) ⟨hx, hb, hml, hown, hts⟩ (c_X6_borrowedWords l g sy sy1 sy2 sy3 lw tr sk sk1 sk2 sk3  H.size) (cwV 1 hts gX8_tellOfAll_X6_borrowedWords rfl rfl rfl (by decide +kernel) ⟨Nat.le_of_ble_eq_true rfl, Nat.le_of_ble_eq_true rfl⟩) (k_preV hE hZ hP hD hS hA [2, 1] rfl (by decide) (va_recv hE.1 hP (ci := 6) (q0 := 2) rfl rfl)) rfl rfl hl.1 rfl (lv_room (Nat.le_of_ble_eq_true rfl)) dX8_tellOfAll_117 ⟨Nat.le_of_ble_eq_true rfl, Nat.le_of_ble_eq_true rfl⟩) (fun r_3 w1 H locs hw hP hD hS => ?_)
    obtain ⟨rfl, rfl⟩ := hw
    have hP : va_P g.1 vwCl [(h0, .inr (8, [.ref pg, .int 0, .ref rd, .int 0, .ref sk, .ref si, .ref sy, .int 1, .ref ks, .ref ki, .int 0, .ref al, .ref dr])), (lw, .inr (2, [.ref lw1, .ref lw2, .ref lw3, .int 0, .int 0, .ref lw4])), (si, .inr (4, [.int 0, .ref si1, .ref si2, .ref si3])), (sy, .inr (6, [.ref sy1, .ref sy2, .ref sy3, .ref lw, .int 0, .ref tr])), (sk, .inr (5, [.int 0, .int 0, .ref sk1, .ref sk2, .ref sk3]))] H := hP
    have hD : va_D A [(h0, .inr (8, [.ref pg, .int 0, .ref rd, .int 0, .ref sk, .ref si, .ref sy, .int 1, .ref ks, .ref ki, .int 0, .ref al, .ref dr])), (lw, .inr (2, [.ref lw1, .ref lw2, .ref lw3, .int 0, .int 0, .ref lw4])), (si, .inr (4, [.int 0, .ref si1, .ref si2, .ref si3])), (sy, .inr (6, [.ref sy1, .ref sy2, .ref sy3, .ref lw, .int 0, .ref tr])), (sk, .inr (5, [.int 0, .int 0, .ref sk1, .ref sk2, .ref sk3]))] := hD
    refine W.widen (k := 0) (n := 0) (Nat.le_of_ble_eq_true rfl) (Nat.le_of_ble_eq_true rfl) ?_
    have hP9 := hP.sub (ws' := [(h0, .inr (8, [.ref pg, .int 0, .ref rd, .int 0, .ref sk, .ref si, .ref sy, .int 1, .ref ks, .ref ki, .int 0, .ref al, .ref dr])), (sk, .inr (5, [.int 0, .int 0, .ref sk1, .ref sk2, .ref sk3])), (sy, .inr (6, [.ref sy1, .ref sy2, .ref sy3, .ref lw, .int 0, .ref tr])), (lw, .inr (2, [.ref lw1, .ref lw2, .ref lw3, .int 0, .int 0, .ref lw4])), (si, .inr (4, [.int 0, .ref si1, .ref si2, .ref si3]))]) [0, 4, 3, 1, 2] rfl
    have hD9 := hD.sub (ws' := [(h0, .inr (8, [.ref pg, .int 0, .ref rd, .int 0, .ref sk, .ref si, .ref sy, .int 1, .ref ks, .ref ki, .int 0, .ref al, .ref dr])), (sk, .inr (5, [.int 0, .int 0, .ref sk1, .ref sk2, .ref sk3])), (sy, .inr (6, [.ref sy1, .ref sy2, .ref sy3, .ref lw, .int 0, .ref tr])), (lw, .inr (2, [.ref lw1, .ref lw2, .ref lw3, .int 0, .int 0, .ref lw4])), (si, .inr (4, [.int 0, .ref si1, .ref si2, .ref si3]))]) [0, 4, 3, 1, 2] (by decide) rfl
    exact k_ri hx hb hr hlocks hS hP9 hD9 ⟨rfl, rfl⟩ dX8_tellOfAll_120
  by_cases w1_7 : p1 = 7
  · refine lv_tableIn (tgt := 121) (off := 120) hx hb dX8_tellOfAll_1 (by rw [w1_7]; decide) (by rw [w1_7]; decide) (by rw [w1_7]; decide) (by decide) ?_
    refine lv_aload_n hx hb dX8_tellOfAll_121 rfl (lv_at hl 0 rfl) ?_
    refine va_get (D := g.1) (ci := 8) (v := .ref si) (C := RX8) (T := TX8) (N := 13) hx hb hts q_X8_tellOfAll_f8 hown hE.1 hP 0 rfl rfl 5 (by decide) (hts (.fieldLink RX8 30 "SoundLaws" "sightings" "LSoundLaws$Sightings;") q_X8_tellOfAll_12) (fun _ h9 => h9) rfl dX8_tellOfAll_122 ?_
    refine va_get (D := g.1) (ci := 4) (v := .int 0) (C := RX4) (T := TX4) (N := 4) hx hb hts q_X8_tellOfAll_f4 hown hE.1 hP 4 rfl rfl 0 (by decide) (hts (.fieldLink RX8 205 "SoundLaws$Sightings" "size" "I") q_X8_tellOfAll_14) (fun _ h9 => h9) rfl dX8_tellOfAll_125 ?_
    refine W.widen (k := 0) (n := 0) (Nat.le_of_ble_eq_true rfl) (Nat.le_of_ble_eq_true rfl) ?_
    exact k_ri hx hb hr hlocks hS hP hD ⟨rfl, rfl⟩ dX8_tellOfAll_128
  by_cases w1_8 : p1 = 8
  · refine lv_tableIn (tgt := 129) (off := 128) hx hb dX8_tellOfAll_1 (by rw [w1_8]; decide) (by rw [w1_8]; decide) (by rw [w1_8]; decide) (by decide) ?_
    refine lv_aload_n hx hb dX8_tellOfAll_129 rfl (lv_at hl 0 rfl) ?_
    refine va_get (D := g.1) (ci := 8) (v := .int 0) (C := RX8) (T := TX8) (N := 13) hx hb hts q_X8_tellOfAll_f8 hown hE.1 hP 0 rfl rfl 1 (by decide) (hts (.fieldLink RX8 61 "SoundLaws" "letters" "I") q_X8_tellOfAll_15) (fun _ h9 => h9) rfl dX8_tellOfAll_130 ?_
    refine W.widen (k := 0) (n := 0) (Nat.le_of_ble_eq_true rfl) (Nat.le_of_ble_eq_true rfl) ?_
    exact k_ri hx hb hr hlocks hS hP hD ⟨rfl, rfl⟩ dX8_tellOfAll_133
  refine lv_tableOut (tgt := 134) hx hb dX8_tellOfAll_1 (by have q0 := lv_neT w1_0 (show (0 : Int32).toInt = 0 from rfl); have q1 := lv_neT w1_1 (show (1 : Int32).toInt = 1 from rfl); have q2 := lv_neT w1_2 (show (2 : Int32).toInt = 2 from rfl); have q3 := lv_neT w1_3 (show (3 : Int32).toInt = 3 from rfl); have q4 := lv_neT w1_4 (show (4 : Int32).toInt = 4 from rfl); have q5 := lv_neT w1_5 (show (5 : Int32).toInt = 5 from rfl); have q6 := lv_neT w1_6 (show (6 : Int32).toInt = 6 from rfl); have q7 := lv_neT w1_7 (show (7 : Int32).toInt = 7 from rfl); have q8 := lv_neT w1_8 (show (8 : Int32).toInt = 8 from rfl); omega) (by decide) ?_
  refine lv_aload_n hx hb dX8_tellOfAll_134 rfl (lv_at hl 0 rfl) ?_
  refine va_get (D := g.1) (ci := 8) (v := .int 0) (C := RX8) (T := TX8) (N := 13) hx hb hts q_X8_tellOfAll_f8 hown hE.1 hP 0 rfl rfl 3 (by decide) (hts (.fieldLink RX8 90 "SoundLaws" "readings" "I") q_X8_tellOfAll_16) (fun _ h9 => h9) rfl dX8_tellOfAll_135 ?_
  refine W.widen (k := 0) (n := 0) (Nat.le_of_ble_eq_true rfl) (Nat.le_of_ble_eq_true rfl) ?_
  exact k_ri hx hb hr hlocks hS hP hD ⟨rfl, rfl⟩ dX8_tellOfAll_138
def po_X8_count (g : GG) (h0 : Nat) (pg : Nat) (rd : Nat) (sk : Nat) (si : Nat) (sy : Nat) (ks : Nat) (ki : Nat) (al : Nat) (dr : Nat) (sy1 : Nat) (sy2 : Nat) (sy3 : Nat) (lw : Nat) (tr : Nat) (sk1 : Nat) (sk2 : Nat) (sk3 : Nat) (lw1 : Nat) (lw2 : Nat) (lw3 : Nat) (lw4 : Nat) (tr1 : Nat) (tr2 : Nat) (si1 : Nat) (si2 : Nat) (si3 : Nat) (p1 : Int32) : Int32 → va_W → Prop := fun (r : Int32) w => w = [] ∧ (r = rN p1)
set_option maxHeartbeats 4000000 in
set_option maxRecDepth 100000 in
theorem c_X8_count (l : Launch) (g : GG) (h0 : Nat) (pg : Nat) (rd : Nat) (sk : Nat) (si : Nat) (sy : Nat) (ks : Nat) (ki : Nat) (al : Nat) (dr : Nat) (sy1 : Nat) (sy2 : Nat) (sy3 : Nat) (lw : Nat) (tr : Nat) (sk1 : Nat) (sk2 : Nat) (sk3 : Nat) (lw1 : Nat) (lw2 : Nat) (lw3 : Nat) (lw4 : Nat) (tr1 : Nat) (tr2 : Nat) (si1 : Nat) (si2 : Nat) (si3 : Nat) (p1 : Int32)  (sz : Nat) : MetI l yX8_count wsX8_count ({ frames := 4, cells := 0, slots := 0, locals := 85 }) g [.ref h0, .int p1] [(h0, .inr (8, [.ref pg, .int 0, .ref rd, .int 0, .ref sk, .ref si, .ref sy, .int 0, .ref ks, .ref ki, .int 0, .ref al, .ref dr])), (sy, .inr (6, [.ref sy1, .ref sy2, .ref sy3, .ref lw, .int 0, .ref tr])), (sk, .inr (5, [.int 0, .int 0, .ref sk1, .ref sk2, .ref sk3])), (lw, .inr (2, [.ref lw1, .ref lw2, .ref lw3, .int 0, .int 0, .ref lw4])), (lw4, ai g 648 (fun _ => 0)), (tr, .inr (7, [.int 0, .ref tr1, .ref tr2])), (si, .inr (4, [.int 0, .ref si1, .ref si2, .ref si3]))] sz (po_X8_count g h0 pg rd sk si sy ks ki al dr sy1 sy2 sy3 lw tr sk1 sk2 sk3 lw1 lw2 lw3 lw4 tr1 tr2 si1 si2 si3 p1) 0 0 := by
  refine k_of (g := g) (wc := [(h0, .inr (8, [.ref pg, .int 0, .ref rd, .int 0, .ref sk, .ref si, .ref sy, .int 0, .ref ks, .ref ki, .int 0, .ref al, .ref dr])), (sy, .inr (6, [.ref sy1, .ref sy2, .ref sy3, .ref lw, .int 0, .ref tr])), (sk, .inr (5, [.int 0, .int 0, .ref sk1, .ref sk2, .ref sk3])), (lw, .inr (2, [.ref lw1, .ref lw2, .ref lw3, .int 0, .int 0, .ref lw4])), (lw4, ai g 648 (fun _ => 0)), (tr, .inr (7, [.int 0, .ref tr1, .ref tr2])), (si, .inr (4, [.int 0, .ref si1, .ref si2, .ref si3]))]) (Qc := fun A => va_Qi (po_X8_count g h0 pg rd sk si sy ks ki al dr sy1 sy2 sy3 lw tr sk1 sk2 sk3 lw1 lw2 lw3 lw4 tr1 tr2 si1 si2 si3 p1) (bk g A) A) (cc := cX8_count) (maxL := 2) (ret := (some .int)) (by decide) rfl (Nat.le_of_ble_eq_true rfl) ?_ sz
  intro p e s m below meth c hx hb hr hts hown hlocks hnm hml A hA hE hZ hP hD hS ls hl
  have hown : s.vm.findClass RX8 = some m.cls := hown
  have hl : lv_has ls 2 [(0, .ref h0), (1, .int p1)] := hl
  refine lv_iload_n hx hb dX8_count_0 rfl (lv_at hl 1 rfl) ?_
  refine lv_if_lt (tgt := 10) hx hb dX8_count_1 (by decide) (fun c1_1 => ?_) (fun c1_1 => ?_)
  · skip
    refine lv_bipush (v := (-102)) hx hb dX8_count_10 (by decide) ?_
    refine W.widen (k := 0) (n := 0) (Nat.le_of_ble_eq_true rfl) (Nat.le_of_ble_eq_true rfl) ?_
    have hP9 := hP.sub (ws' := []) [] rfl
    have hD9 := hD.sub (ws' := []) [] (by decide) rfl
    exact k_ri hx hb hr hlocks hS hP9 hD9 ⟨rfl, (by unfold rN; rw [if_pos (Or.inl c1_1)])⟩ dX8_count_12
  · skip
    refine lv_iload_n hx hb dX8_count_4 rfl (lv_at hl 1 rfl) ?_
    refine lv_bipush (v := 10) hx hb dX8_count_5 (by decide) ?_
    refine lv_icmp_lt (tgt := 13) hx hb dX8_count_7 (by decide) (fun c7_2 => ?_) (fun c7_2 => ?_)
    · skip
      refine lv_aload_n hx hb dX8_count_13 rfl (lv_at hl 0 rfl) ?_
      refine k_cv (wr := [(si, .inr (4, [.int 0, .ref si1, .ref si2, .ref si3]))]) hP hD hS hA [0, 1, 2, 3, 4, 5] [6] rfl rfl (by decide) (by decide) (va_runV (As := []) (rest := []) ⟨hx, hb, hml, hown, hts⟩ (c_X8_freshenStudy l g h0 pg rd sk si sy ks ki al dr sy1 sy2 sy3 lw tr sk1 sk2 sk3 lw1 lw2 lw3 lw4 tr1 tr2  H.size) (cwV 0 hts gX8_count_X8_freshenStudy rfl rfl rfl (by decide +kernel) ⟨Nat.le_of_ble_eq_true rfl, Nat.le_of_ble_eq_true rfl⟩) (k_preV hE hZ hP hD hS hA [0, 1, 2, 3, 4, 5] rfl (by decide) (va_recv hE.1 hP (ci := 8) (q0 := 0) rfl rfl)) rfl rfl hl.1 rfl (lv_room (Nat.le_of_ble_eq_true rfl)) dX8_count_14 ⟨Nat.le_of_ble_eq_true rfl, Nat.le_of_ble_eq_true rfl⟩) (fun w1 H locs hw hP hD hS => ?_)
      obtain ⟨f1_4, rfl⟩ := hw
      have hP : va_P g.1 vwCl [(si, .inr (4, [.int 0, .ref si1, .ref si2, .ref si3])), (h0, .inr (8, [.ref pg, .int 0, .ref rd, .int 0, .ref sk, .ref si, .ref sy, .int 1, .ref ks, .ref ki, .int 0, .ref al, .ref dr])), (sy, .inr (6, [.ref sy1, .ref sy2, .ref sy3, .ref lw, .int 0, .ref tr])), (sk, .inr (5, [.int 0, .int 0, .ref sk1, .ref sk2, .ref sk3])), (lw, .inr (2, [.ref lw1, .ref lw2, .ref lw3, .int 0, .int 0, .ref lw4])), (lw4, ai g 648 f1_4), (tr, .inr (7, [.int 0, .ref tr1, .ref tr2]))] H := hP
      have hD : va_D A [(si, .inr (4, [.int 0, .ref si1, .ref si2, .ref si3])), (h0, .inr (8, [.ref pg, .int 0, .ref rd, .int 0, .ref sk, .ref si, .ref sy, .int 1, .ref ks, .ref ki, .int 0, .ref al, .ref dr])), (sy, .inr (6, [.ref sy1, .ref sy2, .ref sy3, .ref lw, .int 0, .ref tr])), (sk, .inr (5, [.int 0, .int 0, .ref sk1, .ref sk2, .ref sk3])), (lw, .inr (2, [.ref lw1, .ref lw2, .ref lw3, .int 0, .int 0, .ref lw4])), (lw4, ai g 648 f1_4), (tr, .inr (7, [.int 0, .ref tr1, .ref tr2]))] := hD
      refine lv_aload_n hx hb dX8_count_17 rfl (lv_at hl 0 rfl) ?_
      refine lv_iload_n hx hb dX8_count_18 rfl (lv_at hl 1 rfl) ?_
      refine k_ci (wr := [(lw4, ai g 648 f1_4), (tr, .inr (7, [.int 0, .ref tr1, .ref tr2]))]) hP hD hS hA [1, 3, 2, 4, 0] [5, 6] rfl rfl (by decide) (by decide) (va_runV (As := [.int p1]) (rest := []) ⟨hx, hb, hml, hown, hts⟩ (c_X8_tellOfAll l g h0 pg rd sk si sy ks ki al dr sk1 sk2 sk3 sy1 sy2 sy3 lw tr lw1 lw2 lw3 lw4 si1 si2 si3 p1  H.size) (cwV 1 hts gX8_count_X8_tellOfAll rfl rfl rfl (by decide +kernel) ⟨Nat.le_of_ble_eq_true rfl, Nat.le_of_ble_eq_true rfl⟩) (k_preV hE hZ hP hD hS hA [1, 3, 2, 4, 0] rfl (by decide) (va_recv hE.1 hP (ci := 8) (q0 := 1) rfl rfl)) rfl rfl hl.1 rfl (lv_room (Nat.le_of_ble_eq_true rfl)) dX8_count_19 ⟨Nat.le_of_ble_eq_true rfl, Nat.le_of_ble_eq_true rfl⟩) (fun r_5 w1 H locs hw hP hD hS => ?_)
      obtain ⟨rfl, rfl⟩ := hw
      have hP : va_P g.1 vwCl [(lw4, ai g 648 f1_4), (tr, .inr (7, [.int 0, .ref tr1, .ref tr2])), (h0, .inr (8, [.ref pg, .int 0, .ref rd, .int 0, .ref sk, .ref si, .ref sy, .int 1, .ref ks, .ref ki, .int 0, .ref al, .ref dr])), (sk, .inr (5, [.int 0, .int 0, .ref sk1, .ref sk2, .ref sk3])), (sy, .inr (6, [.ref sy1, .ref sy2, .ref sy3, .ref lw, .int 0, .ref tr])), (lw, .inr (2, [.ref lw1, .ref lw2, .ref lw3, .int 0, .int 0, .ref lw4])), (si, .inr (4, [.int 0, .ref si1, .ref si2, .ref si3]))] H := hP
      have hD : va_D A [(lw4, ai g 648 f1_4), (tr, .inr (7, [.int 0, .ref tr1, .ref tr2])), (h0, .inr (8, [.ref pg, .int 0, .ref rd, .int 0, .ref sk, .ref si, .ref sy, .int 1, .ref ks, .ref ki, .int 0, .ref al, .ref dr])), (sk, .inr (5, [.int 0, .int 0, .ref sk1, .ref sk2, .ref sk3])), (sy, .inr (6, [.ref sy1, .ref sy2, .ref sy3, .ref lw, .int 0, .ref tr])), (lw, .inr (2, [.ref lw1, .ref lw2, .ref lw3, .int 0, .int 0, .ref lw4])), (si, .inr (4, [.int 0, .ref si1, .ref si2, .ref si3]))] := hD
      refine W.widen (k := 0) (n := 0) (Nat.le_of_ble_eq_true rfl) (Nat.le_of_ble_eq_true rfl) ?_
      have hP9 := hP.sub (ws' := []) [] rfl
      have hD9 := hD.sub (ws' := []) [] (by decide) rfl
      exact k_ri hx hb hr hlocks hS hP9 hD9 ⟨rfl, (by unfold rN; rw [if_neg (fun h => h.elim c1_1 (fun q => q c7_2))])⟩ dX8_count_22
    · skip
      refine lv_bipush (v := (-102)) hx hb dX8_count_10 (by decide) ?_
      refine W.widen (k := 0) (n := 0) (Nat.le_of_ble_eq_true rfl) (Nat.le_of_ble_eq_true rfl) ?_
      have hP9 := hP.sub (ws' := []) [] rfl
      have hD9 := hD.sub (ws' := []) [] (by decide) rfl
      exact k_ri hx hb hr hlocks hS hP9 hD9 ⟨rfl, (by unfold rN; rw [if_pos (Or.inr c7_2)])⟩ dX8_count_12
def po_X8_mixed (g : GG) (v : Int64) (x : Int32) : Int64 → va_W → Prop := fun (r : Int64) w => w = [] ∧ (r = 31 * v + x.toInt64)
theorem q_X8_mixed_0 : (Cond.constantLong RX8 246 (31)) ∈ wsX8_mixed := by decide +kernel
set_option maxHeartbeats 4000000 in
set_option maxRecDepth 100000 in
theorem c_X8_mixed (l : Launch) (g : GG) (v : Int64) (x : Int32)  (sz : Nat) : MetL l yX8_mixed wsX8_mixed ({ frames := 0, cells := 0, slots := 0, locals := 0 }) g [.long v, .int x] [] sz (po_X8_mixed g v x) 0 0 := by
  refine k_of (g := g) (wc := []) (Qc := fun A => va_Ql (po_X8_mixed g v x) (bk g A) A) (cc := cX8_mixed) (maxL := 3) (ret := (some .long)) (by decide) rfl (Nat.le_of_ble_eq_true rfl) ?_ sz
  intro p e s m below meth c hx hb hr hts hown hlocks hnm hml A hA hE hZ hP hD hS ls hl
  have hown : s.vm.findClass RX8 = some m.cls := hown
  have hl : lv_has ls 3 [(0, .long v), (2, .int x)] := hl
  refine lv_ldc2 hx hb hown (hts (.constantLong RX8 246 (31)) q_X8_mixed_0) dX8_mixed_0 ?_
  refine lv_lload_n hx hb dX8_mixed_3 rfl (lv_at hl 0 rfl) ?_
  refine lv_lmul hx hb dX8_mixed_4 ?_
  refine lv_iload_n hx hb dX8_mixed_5 rfl (lv_at hl 1 rfl) ?_
  refine lv_i2l hx hb dX8_mixed_6 rfl ?_
  refine lv_ladd hx hb dX8_mixed_7 ?_
  refine W.widen (k := 0) (n := 0) (Nat.le_of_ble_eq_true rfl) (Nat.le_of_ble_eq_true rfl) ?_
  exact k_rl hx hb hr hlocks hS hP hD ⟨rfl, rfl⟩ dX8_mixed_8
def po_X8_digest (g : GG) (h0 : Nat) (pg : Nat) (rd : Nat) (sk : Nat) (si : Nat) (sy : Nat) (ks : Nat) (ki : Nat) (al : Nat) (dr : Nat) (sy1 : Nat) (sy2 : Nat) (sy3 : Nat) (lw : Nat) (tr : Nat) (sk1 : Nat) (sk2 : Nat) (sk3 : Nat) (lw1 : Nat) (lw2 : Nat) (lw3 : Nat) (lw4 : Nat) (tr1 : Nat) (tr2 : Nat) (si1 : Nat) (si2 : Nat) (si3 : Nat) : Int64 → va_W → Prop := fun (r : Int64) w => w = [] ∧ (r = hD 10)
theorem q_X8_digest_0 : (Cond.constantLong RX8 228 (1459)) ∈ wsX8_digest := by decide +kernel
theorem q_X8_digest_f8 : ∀ w ∈ u_ws RX8 TX8 13, w ∈ wsX8_digest := by decide +kernel
theorem q_X8_digest_2 : (Cond.fieldLink RX8 23 "SoundLaws" "stock" "LSoundLaws$Stock;") ∈ wsX8_digest := by decide +kernel
theorem q_X8_digest_f5 : ∀ w ∈ u_ws RX5 TX5 5, w ∈ wsX8_digest := by decide +kernel
theorem q_X8_digest_4 : (Cond.fieldLink RX8 93 "SoundLaws$Stock" "size" "I") ∈ wsX8_digest := by decide +kernel
theorem q_X8_digest_5 : (Cond.fieldLink RX8 234 "SoundLaws$Stock" "tongues" "I") ∈ wsX8_digest := by decide +kernel
theorem q_X8_digest_6 : (Cond.fieldLink RX8 61 "SoundLaws" "letters" "I") ∈ wsX8_digest := by decide +kernel
set_option maxHeartbeats 4000000 in
set_option maxRecDepth 100000 in
theorem c_X8_digest (l : Launch) (g : GG) (h0 : Nat) (pg : Nat) (rd : Nat) (sk : Nat) (si : Nat) (sy : Nat) (ks : Nat) (ki : Nat) (al : Nat) (dr : Nat) (sy1 : Nat) (sy2 : Nat) (sy3 : Nat) (lw : Nat) (tr : Nat) (sk1 : Nat) (sk2 : Nat) (sk3 : Nat) (lw1 : Nat) (lw2 : Nat) (lw3 : Nat) (lw4 : Nat) (tr1 : Nat) (tr2 : Nat) (si1 : Nat) (si2 : Nat) (si3 : Nat)  (sz : Nat) : MetL l yX8_digest wsX8_digest ({ frames := 4, cells := 0, slots := 0, locals := 85 }) g [.ref h0] [(h0, .inr (8, [.ref pg, .int 0, .ref rd, .int 0, .ref sk, .ref si, .ref sy, .int 0, .ref ks, .ref ki, .int 0, .ref al, .ref dr])), (sy, .inr (6, [.ref sy1, .ref sy2, .ref sy3, .ref lw, .int 0, .ref tr])), (sk, .inr (5, [.int 0, .int 0, .ref sk1, .ref sk2, .ref sk3])), (lw, .inr (2, [.ref lw1, .ref lw2, .ref lw3, .int 0, .int 0, .ref lw4])), (lw4, ai g 648 (fun _ => 0)), (tr, .inr (7, [.int 0, .ref tr1, .ref tr2])), (si, .inr (4, [.int 0, .ref si1, .ref si2, .ref si3]))] sz (po_X8_digest g h0 pg rd sk si sy ks ki al dr sy1 sy2 sy3 lw tr sk1 sk2 sk3 lw1 lw2 lw3 lw4 tr1 tr2 si1 si2 si3) 0 0 := by
  refine k_of (g := g) (wc := [(h0, .inr (8, [.ref pg, .int 0, .ref rd, .int 0, .ref sk, .ref si, .ref sy, .int 0, .ref ks, .ref ki, .int 0, .ref al, .ref dr])), (sy, .inr (6, [.ref sy1, .ref sy2, .ref sy3, .ref lw, .int 0, .ref tr])), (sk, .inr (5, [.int 0, .int 0, .ref sk1, .ref sk2, .ref sk3])), (lw, .inr (2, [.ref lw1, .ref lw2, .ref lw3, .int 0, .int 0, .ref lw4])), (lw4, ai g 648 (fun _ => 0)), (tr, .inr (7, [.int 0, .ref tr1, .ref tr2])), (si, .inr (4, [.int 0, .ref si1, .ref si2, .ref si3]))]) (Qc := fun A => va_Ql (po_X8_digest g h0 pg rd sk si sy ks ki al dr sy1 sy2 sy3 lw tr sk1 sk2 sk3 lw1 lw2 lw3 lw4 tr1 tr2 si1 si2 si3) (bk g A) A) (cc := cX8_digest) (maxL := 4) (ret := (some .long)) (by decide) rfl (Nat.le_of_ble_eq_true rfl) ?_ sz
  intro p e s m below meth c hx hb hr hts hown hlocks hnm hml A hA hE hZ hP hD hS ls hl
  have hown : s.vm.findClass RX8 = some m.cls := hown
  have hl : lv_has ls 4 [(0, .ref h0)] := hl
  refine lv_aload_n hx hb dX8_digest_0 rfl (lv_at hl 0 rfl) ?_
  refine k_cv (wr := [(si, .inr (4, [.int 0, .ref si1, .ref si2, .ref si3]))]) hP hD hS hA [0, 1, 2, 3, 4, 5] [6] rfl rfl (by decide) (by decide) (va_runV (As := []) (rest := []) ⟨hx, hb, hml, hown, hts⟩ (c_X8_freshenStudy l g h0 pg rd sk si sy ks ki al dr sy1 sy2 sy3 lw tr sk1 sk2 sk3 lw1 lw2 lw3 lw4 tr1 tr2  H.size) (cwV 0 hts gX8_digest_X8_freshenStudy rfl rfl rfl (by decide +kernel) ⟨Nat.le_of_ble_eq_true rfl, Nat.le_of_ble_eq_true rfl⟩) (k_preV hE hZ hP hD hS hA [0, 1, 2, 3, 4, 5] rfl (by decide) (va_recv hE.1 hP (ci := 8) (q0 := 0) rfl rfl)) rfl rfl hl.1 rfl (lv_room (Nat.le_of_ble_eq_true rfl)) dX8_digest_1 ⟨Nat.le_of_ble_eq_true rfl, Nat.le_of_ble_eq_true rfl⟩) (fun w1 H locs hw hP hD hS => ?_)
  obtain ⟨f1_2, rfl⟩ := hw
  have hP : va_P g.1 vwCl [(si, .inr (4, [.int 0, .ref si1, .ref si2, .ref si3])), (h0, .inr (8, [.ref pg, .int 0, .ref rd, .int 0, .ref sk, .ref si, .ref sy, .int 1, .ref ks, .ref ki, .int 0, .ref al, .ref dr])), (sy, .inr (6, [.ref sy1, .ref sy2, .ref sy3, .ref lw, .int 0, .ref tr])), (sk, .inr (5, [.int 0, .int 0, .ref sk1, .ref sk2, .ref sk3])), (lw, .inr (2, [.ref lw1, .ref lw2, .ref lw3, .int 0, .int 0, .ref lw4])), (lw4, ai g 648 f1_2), (tr, .inr (7, [.int 0, .ref tr1, .ref tr2]))] H := hP
  have hD : va_D A [(si, .inr (4, [.int 0, .ref si1, .ref si2, .ref si3])), (h0, .inr (8, [.ref pg, .int 0, .ref rd, .int 0, .ref sk, .ref si, .ref sy, .int 1, .ref ks, .ref ki, .int 0, .ref al, .ref dr])), (sy, .inr (6, [.ref sy1, .ref sy2, .ref sy3, .ref lw, .int 0, .ref tr])), (sk, .inr (5, [.int 0, .int 0, .ref sk1, .ref sk2, .ref sk3])), (lw, .inr (2, [.ref lw1, .ref lw2, .ref lw3, .int 0, .int 0, .ref lw4])), (lw4, ai g 648 f1_2), (tr, .inr (7, [.int 0, .ref tr1, .ref tr2]))] := hD
  refine lv_ldc2 hx hb hown (hts (.constantLong RX8 228 (1459)) q_X8_digest_0) dX8_digest_4 ?_
  refine lv_topl (fun x_3 ex_3 => ?_)
  obtain rfl : x_3 = hD 0 := by rw [ex_3]; rfl
  refine lv_topl (fun x_4 ex_4 => ?_)
  refine lv_lstore_n (lv' := [(1, .long x_4), (0, .ref h0)]) hx hb dX8_digest_7 rfl hl (by decide) rfl (fun ls hl => ?_)
  refine lv_iconst (v := 0) hx hb dX8_digest_8 (by decide) ?_
  refine lv_istore_n (lv' := [(3, .int 0), (1, .long x_4), (0, .ref h0)]) hx hb dX8_digest_9 rfl hl (by decide) rfl (fun ls hl => ?_)
  refine lv_iload_n hx hb dX8_digest_10 rfl (lv_at hl 0 rfl) ?_
  refine lv_aload_n hx hb dX8_digest_11 rfl (lv_at hl 2 rfl) ?_
  refine va_get (D := g.1) (ci := 8) (v := .ref sk) (C := RX8) (T := TX8) (N := 13) hx hb hts q_X8_digest_f8 hown hE.1 hP 1 rfl rfl 4 (by decide) (hts (.fieldLink RX8 23 "SoundLaws" "stock" "LSoundLaws$Stock;") q_X8_digest_2) (fun _ h9 => h9) rfl dX8_digest_12 ?_
  refine va_get (D := g.1) (ci := 5) (v := .int 0) (C := RX5) (T := TX5) (N := 5) hx hb hts q_X8_digest_f5 hown hE.1 hP 3 rfl rfl 0 (by decide) (hts (.fieldLink RX8 93 "SoundLaws$Stock" "size" "I") q_X8_digest_4) (fun _ h9 => h9) rfl dX8_digest_15 ?_
  refine lv_icmp_ge (tgt := 34) hx hb dX8_digest_18 (by decide) (fun c18_5 => ?_) (fun c18_5 => ?_)
  · skip
    refine lv_iconst (v := 0) hx hb dX8_digest_34 (by decide) ?_
    refine lv_istore_n (lv' := [(3, .int 0), (1, .long x_4), (0, .ref h0)]) hx hb dX8_digest_35 rfl hl (by decide) rfl (fun ls hl => ?_)
    refine lv_iload_n hx hb dX8_digest_36 rfl (lv_at hl 0 rfl) ?_
    refine lv_aload_n hx hb dX8_digest_37 rfl (lv_at hl 2 rfl) ?_
    refine va_get (D := g.1) (ci := 8) (v := .ref sk) (C := RX8) (T := TX8) (N := 13) hx hb hts q_X8_digest_f8 hown hE.1 hP 1 rfl rfl 4 (by decide) (hts (.fieldLink RX8 23 "SoundLaws" "stock" "LSoundLaws$Stock;") q_X8_digest_2) (fun _ h9 => h9) rfl dX8_digest_38 ?_
    refine va_get (D := g.1) (ci := 5) (v := .int 0) (C := RX5) (T := TX5) (N := 5) hx hb hts q_X8_digest_f5 hown hE.1 hP 3 rfl rfl 1 (by decide) (hts (.fieldLink RX8 234 "SoundLaws$Stock" "tongues" "I") q_X8_digest_5) (fun _ h9 => h9) rfl dX8_digest_41 ?_
    refine lv_icmp_ge (tgt := 60) hx hb dX8_digest_44 (by decide) (fun c44_6 => ?_) (fun c44_6 => ?_)
    · skip
      refine lv_iconst (v := 0) hx hb dX8_digest_60 (by decide) ?_
      refine lv_istore_n (lv' := [(3, .int 0), (1, .long x_4), (0, .ref h0)]) hx hb dX8_digest_61 rfl hl (by decide) rfl (fun ls hl => ?_)
      refine lv_iload_n hx hb dX8_digest_62 rfl (lv_at hl 0 rfl) ?_
      refine lv_aload_n hx hb dX8_digest_63 rfl (lv_at hl 2 rfl) ?_
      refine va_get (D := g.1) (ci := 8) (v := .int 0) (C := RX8) (T := TX8) (N := 13) hx hb hts q_X8_digest_f8 hown hE.1 hP 1 rfl rfl 1 (by decide) (hts (.fieldLink RX8 61 "SoundLaws" "letters" "I") q_X8_digest_6) (fun _ h9 => h9) rfl dX8_digest_64 ?_
      refine lv_icmp_ge (tgt := 87) hx hb dX8_digest_67 (by decide) (fun c67_7 => ?_) (fun c67_7 => ?_)
      · skip
        refine lv_iconst (v := 0) hx hb dX8_digest_87 (by decide) ?_
        refine lv_istore_n (lv' := [(3, .int 0), (1, .long x_4), (0, .ref h0)]) hx hb dX8_digest_88 rfl hl (by decide) rfl (fun ls hl => ?_)
        refine lv_iload_n hx hb dX8_digest_89 rfl (lv_at hl 0 rfl) ?_
        refine lv_bipush (v := 10) hx hb dX8_digest_90 (by decide) ?_
        refine lv_icmp_ge (tgt := 111) hx hb dX8_digest_92 (by decide) (fun c92_8 => ?_) (fun c92_8 => ?_)
        · exact absurd c92_8 (by decide)
        · skip
          refine lv_lload_n hx hb dX8_digest_95 rfl (lv_at hl 1 rfl) ?_
          refine lv_aload_n hx hb dX8_digest_96 rfl (lv_at hl 2 rfl) ?_
          refine lv_iload_n hx hb dX8_digest_97 rfl (lv_at hl 0 rfl) ?_
          refine k_ci (wr := [(lw4, ai g 648 f1_2), (tr, .inr (7, [.int 0, .ref tr1, .ref tr2]))]) hP hD hS hA [1, 3, 2, 4, 0] [5, 6] rfl rfl (by decide) (by decide) (va_runV (As := [.int 0]) (rest := [.long x_4]) ⟨hx, hb, hml, hown, hts⟩ (c_X8_tellOfAll l g h0 pg rd sk si sy ks ki al dr sk1 sk2 sk3 sy1 sy2 sy3 lw tr lw1 lw2 lw3 lw4 si1 si2 si3 0  H.size) (cwV 1 hts gX8_digest_X8_tellOfAll rfl rfl rfl (by decide +kernel) ⟨Nat.le_of_ble_eq_true rfl, Nat.le_of_ble_eq_true rfl⟩) (k_preV hE hZ hP hD hS hA [1, 3, 2, 4, 0] rfl (by decide) (va_recv hE.1 hP (ci := 8) (q0 := 1) rfl rfl)) rfl rfl hl.1 rfl (lv_room (Nat.le_of_ble_eq_true rfl)) dX8_digest_98 ⟨Nat.le_of_ble_eq_true rfl, Nat.le_of_ble_eq_true rfl⟩) (fun r_9 w1 H locs hw hP hD hS => ?_)
          obtain ⟨rfl, rfl⟩ := hw
          have hP : va_P g.1 vwCl [(lw4, ai g 648 f1_2), (tr, .inr (7, [.int 0, .ref tr1, .ref tr2])), (h0, .inr (8, [.ref pg, .int 0, .ref rd, .int 0, .ref sk, .ref si, .ref sy, .int 1, .ref ks, .ref ki, .int 0, .ref al, .ref dr])), (sk, .inr (5, [.int 0, .int 0, .ref sk1, .ref sk2, .ref sk3])), (sy, .inr (6, [.ref sy1, .ref sy2, .ref sy3, .ref lw, .int 0, .ref tr])), (lw, .inr (2, [.ref lw1, .ref lw2, .ref lw3, .int 0, .int 0, .ref lw4])), (si, .inr (4, [.int 0, .ref si1, .ref si2, .ref si3]))] H := hP
          have hD : va_D A [(lw4, ai g 648 f1_2), (tr, .inr (7, [.int 0, .ref tr1, .ref tr2])), (h0, .inr (8, [.ref pg, .int 0, .ref rd, .int 0, .ref sk, .ref si, .ref sy, .int 1, .ref ks, .ref ki, .int 0, .ref al, .ref dr])), (sk, .inr (5, [.int 0, .int 0, .ref sk1, .ref sk2, .ref sk3])), (sy, .inr (6, [.ref sy1, .ref sy2, .ref sy3, .ref lw, .int 0, .ref tr])), (lw, .inr (2, [.ref lw1, .ref lw2, .ref lw3, .int 0, .int 0, .ref lw4])), (si, .inr (4, [.int 0, .ref si1, .ref si2, .ref si3]))] := hD
          refine k_cl (wr := [(lw4, ai g 648 f1_2), (tr, .inr (7, [.int 0, .ref tr1, .ref tr2])), (h0, .inr (8, [.ref pg, .int 0, .ref rd, .int 0, .ref sk, .ref si, .ref sy, .int 1, .ref ks, .ref ki, .int 0, .ref al, .ref dr])), (sk, .inr (5, [.int 0, .int 0, .ref sk1, .ref sk2, .ref sk3])), (sy, .inr (6, [.ref sy1, .ref sy2, .ref sy3, .ref lw, .int 0, .ref tr])), (lw, .inr (2, [.ref lw1, .ref lw2, .ref lw3, .int 0, .int 0, .ref lw4])), (si, .inr (4, [.int 0, .ref si1, .ref si2, .ref si3]))]) hP hD hS hA [] [0, 1, 2, 3, 4, 5, 6] rfl rfl (by decide) (by decide) (va_runS (As := [.long x_4, .int 0]) (rest := []) ⟨hx, hb, hml, hown, hts⟩ (c_X8_mixed l g x_4 0  H.size) (va_cwS 2 hts gX8_digest_X8_mixed rfl rfl rfl (by decide +kernel) ⟨Nat.le_of_ble_eq_true rfl, Nat.le_of_ble_eq_true rfl⟩) (k_preS hE hZ hP hD hS hA [] rfl (by decide)) rfl rfl hl.1 rfl (lv_room (Nat.le_of_ble_eq_true rfl)) dX8_digest_101 ⟨Nat.le_of_ble_eq_true rfl, Nat.le_of_ble_eq_true rfl⟩) (fun r_11 w1 H locs hw hP hD hS => ?_)
          obtain ⟨rfl, rfl⟩ := hw
          have hP : va_P g.1 vwCl [(lw4, ai g 648 f1_2), (tr, .inr (7, [.int 0, .ref tr1, .ref tr2])), (h0, .inr (8, [.ref pg, .int 0, .ref rd, .int 0, .ref sk, .ref si, .ref sy, .int 1, .ref ks, .ref ki, .int 0, .ref al, .ref dr])), (sk, .inr (5, [.int 0, .int 0, .ref sk1, .ref sk2, .ref sk3])), (sy, .inr (6, [.ref sy1, .ref sy2, .ref sy3, .ref lw, .int 0, .ref tr])), (lw, .inr (2, [.ref lw1, .ref lw2, .ref lw3, .int 0, .int 0, .ref lw4])), (si, .inr (4, [.int 0, .ref si1, .ref si2, .ref si3]))] H := hP
          have hD : va_D A [(lw4, ai g 648 f1_2), (tr, .inr (7, [.int 0, .ref tr1, .ref tr2])), (h0, .inr (8, [.ref pg, .int 0, .ref rd, .int 0, .ref sk, .ref si, .ref sy, .int 1, .ref ks, .ref ki, .int 0, .ref al, .ref dr])), (sk, .inr (5, [.int 0, .int 0, .ref sk1, .ref sk2, .ref sk3])), (sy, .inr (6, [.ref sy1, .ref sy2, .ref sy3, .ref lw, .int 0, .ref tr])), (lw, .inr (2, [.ref lw1, .ref lw2, .ref lw3, .int 0, .int 0, .ref lw4])), (si, .inr (4, [.int 0, .ref si1, .ref si2, .ref si3]))] := hD
          refine lv_topl (fun x_13 ex_13 => ?_)
          obtain rfl : x_13 = hD 1 := by rw [ex_13]; rfl
          refine lv_topl (fun x_14 ex_14 => ?_)
          refine lv_lstore_n (lv' := [(1, .long x_14), (3, .int 0), (0, .ref h0)]) hx hb dX8_digest_104 rfl hl (by decide) rfl (fun ls hl => ?_)
          refine lv_iinc (v := 1) (lv' := [(3, .int 1), (1, .long x_14), (0, .ref h0)]) hx hb dX8_digest_105 hl (k := 1) rfl (by decide) (by decide) rfl (fun ls hl => ?_)
          refine lv_goto (tgt := 89) hx hb dX8_digest_108 (by decide) ?_
          refine lv_iload_n hx hb dX8_digest_89 rfl (lv_at hl 0 rfl) ?_
          refine lv_bipush (v := 10) hx hb dX8_digest_90 (by decide) ?_
          refine lv_icmp_ge (tgt := 111) hx hb dX8_digest_92 (by decide) (fun c92_15 => ?_) (fun c92_15 => ?_)
          · exact absurd c92_15 (by decide)
          · skip
            refine lv_lload_n hx hb dX8_digest_95 rfl (lv_at hl 1 rfl) ?_
            refine lv_aload_n hx hb dX8_digest_96 rfl (lv_at hl 2 rfl) ?_
            refine lv_iload_n hx hb dX8_digest_97 rfl (lv_at hl 0 rfl) ?_
            refine k_ci (wr := [(lw4, ai g 648 f1_2), (tr, .inr (7, [.int 0, .ref tr1, .ref tr2]))]) hP hD hS hA [2, 3, 4, 5, 6] [0, 1] rfl rfl (by decide) (by decide) (va_runV (As := [.int 1]) (rest := [.long x_14]) ⟨hx, hb, hml, hown, hts⟩ (c_X8_tellOfAll l g h0 pg rd sk si sy ks ki al dr sk1 sk2 sk3 sy1 sy2 sy3 lw tr lw1 lw2 lw3 lw4 si1 si2 si3 1  H.size) (cwV 1 hts gX8_digest_X8_tellOfAll rfl rfl rfl (by decide +kernel) ⟨Nat.le_of_ble_eq_true rfl, Nat.le_of_ble_eq_true rfl⟩) (k_preV hE hZ hP hD hS hA [2, 3, 4, 5, 6] rfl (by decide) (va_recv hE.1 hP (ci := 8) (q0 := 2) rfl rfl)) rfl rfl hl.1 rfl (lv_room (Nat.le_of_ble_eq_true rfl)) dX8_digest_98 ⟨Nat.le_of_ble_eq_true rfl, Nat.le_of_ble_eq_true rfl⟩) (fun r_16 w1 H locs hw hP hD hS => ?_)
            obtain ⟨rfl, rfl⟩ := hw
            have hP : va_P g.1 vwCl [(lw4, ai g 648 f1_2), (tr, .inr (7, [.int 0, .ref tr1, .ref tr2])), (h0, .inr (8, [.ref pg, .int 0, .ref rd, .int 0, .ref sk, .ref si, .ref sy, .int 1, .ref ks, .ref ki, .int 0, .ref al, .ref dr])), (sk, .inr (5, [.int 0, .int 0, .ref sk1, .ref sk2, .ref sk3])), (sy, .inr (6, [.ref sy1, .ref sy2, .ref sy3, .ref lw, .int 0, .ref tr])), (lw, .inr (2, [.ref lw1, .ref lw2, .ref lw3, .int 0, .int 0, .ref lw4])), (si, .inr (4, [.int 0, .ref si1, .ref si2, .ref si3]))] H := hP
            have hD : va_D A [(lw4, ai g 648 f1_2), (tr, .inr (7, [.int 0, .ref tr1, .ref tr2])), (h0, .inr (8, [.ref pg, .int 0, .ref rd, .int 0, .ref sk, .ref si, .ref sy, .int 1, .ref ks, .ref ki, .int 0, .ref al, .ref dr])), (sk, .inr (5, [.int 0, .int 0, .ref sk1, .ref sk2, .ref sk3])), (sy, .inr (6, [.ref sy1, .ref sy2, .ref sy3, .ref lw, .int 0, .ref tr])), (lw, .inr (2, [.ref lw1, .ref lw2, .ref lw3, .int 0, .int 0, .ref lw4])), (si, .inr (4, [.int 0, .ref si1, .ref si2, .ref si3]))] := hD
            refine k_cl (wr := [(lw4, ai g 648 f1_2), (tr, .inr (7, [.int 0, .ref tr1, .ref tr2])), (h0, .inr (8, [.ref pg, .int 0, .ref rd, .int 0, .ref sk, .ref si, .ref sy, .int 1, .ref ks, .ref ki, .int 0, .ref al, .ref dr])), (sk, .inr (5, [.int 0, .int 0, .ref sk1, .ref sk2, .ref sk3])), (sy, .inr (6, [.ref sy1, .ref sy2, .ref sy3, .ref lw, .int 0, .ref tr])), (lw, .inr (2, [.ref lw1, .ref lw2, .ref lw3, .int 0, .int 0, .ref lw4])), (si, .inr (4, [.int 0, .ref si1, .ref si2, .ref si3]))]) hP hD hS hA [] [0, 1, 2, 3, 4, 5, 6] rfl rfl (by decide) (by decide) (va_runS (As := [.long x_14, .int 0]) (rest := []) ⟨hx, hb, hml, hown, hts⟩ (c_X8_mixed l g x_14 0  H.size) (va_cwS 2 hts gX8_digest_X8_mixed rfl rfl rfl (by decide +kernel) ⟨Nat.le_of_ble_eq_true rfl, Nat.le_of_ble_eq_true rfl⟩) (k_preS hE hZ hP hD hS hA [] rfl (by decide)) rfl rfl hl.1 rfl (lv_room (Nat.le_of_ble_eq_true rfl)) dX8_digest_101 ⟨Nat.le_of_ble_eq_true rfl, Nat.le_of_ble_eq_true rfl⟩) (fun r_18 w1 H locs hw hP hD hS => ?_)
            obtain ⟨rfl, rfl⟩ := hw
            have hP : va_P g.1 vwCl [(lw4, ai g 648 f1_2), (tr, .inr (7, [.int 0, .ref tr1, .ref tr2])), (h0, .inr (8, [.ref pg, .int 0, .ref rd, .int 0, .ref sk, .ref si, .ref sy, .int 1, .ref ks, .ref ki, .int 0, .ref al, .ref dr])), (sk, .inr (5, [.int 0, .int 0, .ref sk1, .ref sk2, .ref sk3])), (sy, .inr (6, [.ref sy1, .ref sy2, .ref sy3, .ref lw, .int 0, .ref tr])), (lw, .inr (2, [.ref lw1, .ref lw2, .ref lw3, .int 0, .int 0, .ref lw4])), (si, .inr (4, [.int 0, .ref si1, .ref si2, .ref si3]))] H := hP
            have hD : va_D A [(lw4, ai g 648 f1_2), (tr, .inr (7, [.int 0, .ref tr1, .ref tr2])), (h0, .inr (8, [.ref pg, .int 0, .ref rd, .int 0, .ref sk, .ref si, .ref sy, .int 1, .ref ks, .ref ki, .int 0, .ref al, .ref dr])), (sk, .inr (5, [.int 0, .int 0, .ref sk1, .ref sk2, .ref sk3])), (sy, .inr (6, [.ref sy1, .ref sy2, .ref sy3, .ref lw, .int 0, .ref tr])), (lw, .inr (2, [.ref lw1, .ref lw2, .ref lw3, .int 0, .int 0, .ref lw4])), (si, .inr (4, [.int 0, .ref si1, .ref si2, .ref si3]))] := hD
            refine lv_topl (fun x_20 ex_20 => ?_)
            obtain rfl : x_20 = hD 2 := by rw [ex_20]; rfl
            refine lv_topl (fun x_21 ex_21 => ?_)
            refine lv_lstore_n (lv' := [(1, .long x_21), (3, .int 1), (0, .ref h0)]) hx hb dX8_digest_104 rfl hl (by decide) rfl (fun ls hl => ?_)
            refine lv_iinc (v := 2) (lv' := [(3, .int 2), (1, .long x_21), (0, .ref h0)]) hx hb dX8_digest_105 hl (k := 1) rfl (by decide) (by decide) rfl (fun ls hl => ?_)
            refine lv_goto (tgt := 89) hx hb dX8_digest_108 (by decide) ?_
            refine lv_iload_n hx hb dX8_digest_89 rfl (lv_at hl 0 rfl) ?_
            refine lv_bipush (v := 10) hx hb dX8_digest_90 (by decide) ?_
            refine lv_icmp_ge (tgt := 111) hx hb dX8_digest_92 (by decide) (fun c92_22 => ?_) (fun c92_22 => ?_)
            · exact absurd c92_22 (by decide)
            · skip
              refine lv_lload_n hx hb dX8_digest_95 rfl (lv_at hl 1 rfl) ?_
              refine lv_aload_n hx hb dX8_digest_96 rfl (lv_at hl 2 rfl) ?_
              refine lv_iload_n hx hb dX8_digest_97 rfl (lv_at hl 0 rfl) ?_
              refine k_ci (wr := [(lw4, ai g 648 f1_2), (tr, .inr (7, [.int 0, .ref tr1, .ref tr2]))]) hP hD hS hA [2, 3, 4, 5, 6] [0, 1] rfl rfl (by decide) (by decide) (va_runV (As := [.int 2]) (rest := [.long x_21]) ⟨hx, hb, hml, hown, hts⟩ (c_X8_tellOfAll l g h0 pg rd sk si sy ks ki al dr sk1 sk2 sk3 sy1 sy2 sy3 lw tr lw1 lw2 lw3 lw4 si1 si2 si3 2  H.size) (cwV 1 hts gX8_digest_X8_tellOfAll rfl rfl rfl (by decide +kernel) ⟨Nat.le_of_ble_eq_true rfl, Nat.le_of_ble_eq_true rfl⟩) (k_preV hE hZ hP hD hS hA [2, 3, 4, 5, 6] rfl (by decide) (va_recv hE.1 hP (ci := 8) (q0 := 2) rfl rfl)) rfl rfl hl.1 rfl (lv_room (Nat.le_of_ble_eq_true rfl)) dX8_digest_98 ⟨Nat.le_of_ble_eq_true rfl, Nat.le_of_ble_eq_true rfl⟩) (fun r_23 w1 H locs hw hP hD hS => ?_)
              obtain ⟨rfl, rfl⟩ := hw
              have hP : va_P g.1 vwCl [(lw4, ai g 648 f1_2), (tr, .inr (7, [.int 0, .ref tr1, .ref tr2])), (h0, .inr (8, [.ref pg, .int 0, .ref rd, .int 0, .ref sk, .ref si, .ref sy, .int 1, .ref ks, .ref ki, .int 0, .ref al, .ref dr])), (sk, .inr (5, [.int 0, .int 0, .ref sk1, .ref sk2, .ref sk3])), (sy, .inr (6, [.ref sy1, .ref sy2, .ref sy3, .ref lw, .int 0, .ref tr])), (lw, .inr (2, [.ref lw1, .ref lw2, .ref lw3, .int 0, .int 0, .ref lw4])), (si, .inr (4, [.int 0, .ref si1, .ref si2, .ref si3]))] H := hP
              have hD : va_D A [(lw4, ai g 648 f1_2), (tr, .inr (7, [.int 0, .ref tr1, .ref tr2])), (h0, .inr (8, [.ref pg, .int 0, .ref rd, .int 0, .ref sk, .ref si, .ref sy, .int 1, .ref ks, .ref ki, .int 0, .ref al, .ref dr])), (sk, .inr (5, [.int 0, .int 0, .ref sk1, .ref sk2, .ref sk3])), (sy, .inr (6, [.ref sy1, .ref sy2, .ref sy3, .ref lw, .int 0, .ref tr])), (lw, .inr (2, [.ref lw1, .ref lw2, .ref lw3, .int 0, .int 0, .ref lw4])), (si, .inr (4, [.int 0, .ref si1, .ref si2, .ref si3]))] := hD
              refine k_cl (wr := [(lw4, ai g 648 f1_2), (tr, .inr (7, [.int 0, .ref tr1, .ref tr2])), (h0, .inr (8, [.ref pg, .int 0, .ref rd, .int 0, .ref sk, .ref si, .ref sy, .int 1, .ref ks, .ref ki, .int 0, .ref al, .ref dr])), (sk, .inr (5, [.int 0, .int 0, .ref sk1, .ref sk2, .ref sk3])), (sy, .inr (6, [.ref sy1, .ref sy2, .ref sy3, .ref lw, .int 0, .ref tr])), (lw, .inr (2, [.ref lw1, .ref lw2, .ref lw3, .int 0, .int 0, .ref lw4])), (si, .inr (4, [.int 0, .ref si1, .ref si2, .ref si3]))]) hP hD hS hA [] [0, 1, 2, 3, 4, 5, 6] rfl rfl (by decide) (by decide) (va_runS (As := [.long x_21, .int 0]) (rest := []) ⟨hx, hb, hml, hown, hts⟩ (c_X8_mixed l g x_21 0  H.size) (va_cwS 2 hts gX8_digest_X8_mixed rfl rfl rfl (by decide +kernel) ⟨Nat.le_of_ble_eq_true rfl, Nat.le_of_ble_eq_true rfl⟩) (k_preS hE hZ hP hD hS hA [] rfl (by decide)) rfl rfl hl.1 rfl (lv_room (Nat.le_of_ble_eq_true rfl)) dX8_digest_101 ⟨Nat.le_of_ble_eq_true rfl, Nat.le_of_ble_eq_true rfl⟩) (fun r_25 w1 H locs hw hP hD hS => ?_)
              obtain ⟨rfl, rfl⟩ := hw
              have hP : va_P g.1 vwCl [(lw4, ai g 648 f1_2), (tr, .inr (7, [.int 0, .ref tr1, .ref tr2])), (h0, .inr (8, [.ref pg, .int 0, .ref rd, .int 0, .ref sk, .ref si, .ref sy, .int 1, .ref ks, .ref ki, .int 0, .ref al, .ref dr])), (sk, .inr (5, [.int 0, .int 0, .ref sk1, .ref sk2, .ref sk3])), (sy, .inr (6, [.ref sy1, .ref sy2, .ref sy3, .ref lw, .int 0, .ref tr])), (lw, .inr (2, [.ref lw1, .ref lw2, .ref lw3, .int 0, .int 0, .ref lw4])), (si, .inr (4, [.int 0, .ref si1, .ref si2, .ref si3]))] H := hP
              have hD : va_D A [(lw4, ai g 648 f1_2), (tr, .inr (7, [.int 0, .ref tr1, .ref tr2])), (h0, .inr (8, [.ref pg, .int 0, .ref rd, .int 0, .ref sk, .ref si, .ref sy, .int 1, .ref ks, .ref ki, .int 0, .ref al, .ref dr])), (sk, .inr (5, [.int 0, .int 0, .ref sk1, .ref sk2, .ref sk3])), (sy, .inr (6, [.ref sy1, .ref sy2, .ref sy3, .ref lw, .int 0, .ref tr])), (lw, .inr (2, [.ref lw1, .ref lw2, .ref lw3, .int 0, .int 0, .ref lw4])), (si, .inr (4, [.int 0, .ref si1, .ref si2, .ref si3]))] := hD
              refine lv_topl (fun x_27 ex_27 => ?_)
              obtain rfl : x_27 = hD 3 := by rw [ex_27]; rfl
              refine lv_topl (fun x_28 ex_28 => ?_)
              refine lv_lstore_n (lv' := [(1, .long x_28), (3, .int 2), (0, .ref h0)]) hx hb dX8_digest_104 rfl hl (by decide) rfl (fun ls hl => ?_)
              refine lv_iinc (v := 3) (lv' := [(3, .int 3), (1, .long x_28), (0, .ref h0)]) hx hb dX8_digest_105 hl (k := 1) rfl (by decide) (by decide) rfl (fun ls hl => ?_)
              refine lv_goto (tgt := 89) hx hb dX8_digest_108 (by decide) ?_
              refine lv_iload_n hx hb dX8_digest_89 rfl (lv_at hl 0 rfl) ?_
              refine lv_bipush (v := 10) hx hb dX8_digest_90 (by decide) ?_
              refine lv_icmp_ge (tgt := 111) hx hb dX8_digest_92 (by decide) (fun c92_29 => ?_) (fun c92_29 => ?_)
              · exact absurd c92_29 (by decide)
              · skip
                refine lv_lload_n hx hb dX8_digest_95 rfl (lv_at hl 1 rfl) ?_
                refine lv_aload_n hx hb dX8_digest_96 rfl (lv_at hl 2 rfl) ?_
                refine lv_iload_n hx hb dX8_digest_97 rfl (lv_at hl 0 rfl) ?_
                refine k_ci (wr := [(lw4, ai g 648 f1_2), (tr, .inr (7, [.int 0, .ref tr1, .ref tr2]))]) hP hD hS hA [2, 3, 4, 5, 6] [0, 1] rfl rfl (by decide) (by decide) (va_runV (As := [.int 3]) (rest := [.long x_28]) ⟨hx, hb, hml, hown, hts⟩ (c_X8_tellOfAll l g h0 pg rd sk si sy ks ki al dr sk1 sk2 sk3 sy1 sy2 sy3 lw tr lw1 lw2 lw3 lw4 si1 si2 si3 3  H.size) (cwV 1 hts gX8_digest_X8_tellOfAll rfl rfl rfl (by decide +kernel) ⟨Nat.le_of_ble_eq_true rfl, Nat.le_of_ble_eq_true rfl⟩) (k_preV hE hZ hP hD hS hA [2, 3, 4, 5, 6] rfl (by decide) (va_recv hE.1 hP (ci := 8) (q0 := 2) rfl rfl)) rfl rfl hl.1 rfl (lv_room (Nat.le_of_ble_eq_true rfl)) dX8_digest_98 ⟨Nat.le_of_ble_eq_true rfl, Nat.le_of_ble_eq_true rfl⟩) (fun r_30 w1 H locs hw hP hD hS => ?_)
                obtain ⟨rfl, rfl⟩ := hw
                have hP : va_P g.1 vwCl [(lw4, ai g 648 f1_2), (tr, .inr (7, [.int 0, .ref tr1, .ref tr2])), (h0, .inr (8, [.ref pg, .int 0, .ref rd, .int 0, .ref sk, .ref si, .ref sy, .int 1, .ref ks, .ref ki, .int 0, .ref al, .ref dr])), (sk, .inr (5, [.int 0, .int 0, .ref sk1, .ref sk2, .ref sk3])), (sy, .inr (6, [.ref sy1, .ref sy2, .ref sy3, .ref lw, .int 0, .ref tr])), (lw, .inr (2, [.ref lw1, .ref lw2, .ref lw3, .int 0, .int 0, .ref lw4])), (si, .inr (4, [.int 0, .ref si1, .ref si2, .ref si3]))] H := hP
                have hD : va_D A [(lw4, ai g 648 f1_2), (tr, .inr (7, [.int 0, .ref tr1, .ref tr2])), (h0, .inr (8, [.ref pg, .int 0, .ref rd, .int 0, .ref sk, .ref si, .ref sy, .int 1, .ref ks, .ref ki, .int 0, .ref al, .ref dr])), (sk, .inr (5, [.int 0, .int 0, .ref sk1, .ref sk2, .ref sk3])), (sy, .inr (6, [.ref sy1, .ref sy2, .ref sy3, .ref lw, .int 0, .ref tr])), (lw, .inr (2, [.ref lw1, .ref lw2, .ref lw3, .int 0, .int 0, .ref lw4])), (si, .inr (4, [.int 0, .ref si1, .ref si2, .ref si3]))] := hD
                refine k_cl (wr := [(lw4, ai g 648 f1_2), (tr, .inr (7, [.int 0, .ref tr1, .ref tr2])), (h0, .inr (8, [.ref pg, .int 0, .ref rd, .int 0, .ref sk, .ref si, .ref sy, .int 1, .ref ks, .ref ki, .int 0, .ref al, .ref dr])), (sk, .inr (5, [.int 0, .int 0, .ref sk1, .ref sk2, .ref sk3])), (sy, .inr (6, [.ref sy1, .ref sy2, .ref sy3, .ref lw, .int 0, .ref tr])), (lw, .inr (2, [.ref lw1, .ref lw2, .ref lw3, .int 0, .int 0, .ref lw4])), (si, .inr (4, [.int 0, .ref si1, .ref si2, .ref si3]))]) hP hD hS hA [] [0, 1, 2, 3, 4, 5, 6] rfl rfl (by decide) (by decide) (va_runS (As := [.long x_28, .int 0]) (rest := []) ⟨hx, hb, hml, hown, hts⟩ (c_X8_mixed l g x_28 0  H.size) (va_cwS 2 hts gX8_digest_X8_mixed rfl rfl rfl (by decide +kernel) ⟨Nat.le_of_ble_eq_true rfl, Nat.le_of_ble_eq_true rfl⟩) (k_preS hE hZ hP hD hS hA [] rfl (by decide)) rfl rfl hl.1 rfl (lv_room (Nat.le_of_ble_eq_true rfl)) dX8_digest_101 ⟨Nat.le_of_ble_eq_true rfl, Nat.le_of_ble_eq_true rfl⟩) (fun r_32 w1 H locs hw hP hD hS => ?_)
                obtain ⟨rfl, rfl⟩ := hw
                have hP : va_P g.1 vwCl [(lw4, ai g 648 f1_2), (tr, .inr (7, [.int 0, .ref tr1, .ref tr2])), (h0, .inr (8, [.ref pg, .int 0, .ref rd, .int 0, .ref sk, .ref si, .ref sy, .int 1, .ref ks, .ref ki, .int 0, .ref al, .ref dr])), (sk, .inr (5, [.int 0, .int 0, .ref sk1, .ref sk2, .ref sk3])), (sy, .inr (6, [.ref sy1, .ref sy2, .ref sy3, .ref lw, .int 0, .ref tr])), (lw, .inr (2, [.ref lw1, .ref lw2, .ref lw3, .int 0, .int 0, .ref lw4])), (si, .inr (4, [.int 0, .ref si1, .ref si2, .ref si3]))] H := hP
                have hD : va_D A [(lw4, ai g 648 f1_2), (tr, .inr (7, [.int 0, .ref tr1, .ref tr2])), (h0, .inr (8, [.ref pg, .int 0, .ref rd, .int 0, .ref sk, .ref si, .ref sy, .int 1, .ref ks, .ref ki, .int 0, .ref al, .ref dr])), (sk, .inr (5, [.int 0, .int 0, .ref sk1, .ref sk2, .ref sk3])), (sy, .inr (6, [.ref sy1, .ref sy2, .ref sy3, .ref lw, .int 0, .ref tr])), (lw, .inr (2, [.ref lw1, .ref lw2, .ref lw3, .int 0, .int 0, .ref lw4])), (si, .inr (4, [.int 0, .ref si1, .ref si2, .ref si3]))] := hD
                refine lv_topl (fun x_34 ex_34 => ?_)
                obtain rfl : x_34 = hD 4 := by rw [ex_34]; rfl
                refine lv_topl (fun x_35 ex_35 => ?_)
                refine lv_lstore_n (lv' := [(1, .long x_35), (3, .int 3), (0, .ref h0)]) hx hb dX8_digest_104 rfl hl (by decide) rfl (fun ls hl => ?_)
                refine lv_iinc (v := 4) (lv' := [(3, .int 4), (1, .long x_35), (0, .ref h0)]) hx hb dX8_digest_105 hl (k := 1) rfl (by decide) (by decide) rfl (fun ls hl => ?_)
                refine lv_goto (tgt := 89) hx hb dX8_digest_108 (by decide) ?_
                refine lv_iload_n hx hb dX8_digest_89 rfl (lv_at hl 0 rfl) ?_
                refine lv_bipush (v := 10) hx hb dX8_digest_90 (by decide) ?_
                refine lv_icmp_ge (tgt := 111) hx hb dX8_digest_92 (by decide) (fun c92_36 => ?_) (fun c92_36 => ?_)
                · exact absurd c92_36 (by decide)
                · skip
                  refine lv_lload_n hx hb dX8_digest_95 rfl (lv_at hl 1 rfl) ?_
                  refine lv_aload_n hx hb dX8_digest_96 rfl (lv_at hl 2 rfl) ?_
                  refine lv_iload_n hx hb dX8_digest_97 rfl (lv_at hl 0 rfl) ?_
                  refine k_ci (wr := [(lw4, ai g 648 f1_2), (tr, .inr (7, [.int 0, .ref tr1, .ref tr2]))]) hP hD hS hA [2, 3, 4, 5, 6] [0, 1] rfl rfl (by decide) (by decide) (va_runV (As := [.int 4]) (rest := [.long x_35]) ⟨hx, hb, hml, hown, hts⟩ (c_X8_tellOfAll l g h0 pg rd sk si sy ks ki al dr sk1 sk2 sk3 sy1 sy2 sy3 lw tr lw1 lw2 lw3 lw4 si1 si2 si3 4  H.size) (cwV 1 hts gX8_digest_X8_tellOfAll rfl rfl rfl (by decide +kernel) ⟨Nat.le_of_ble_eq_true rfl, Nat.le_of_ble_eq_true rfl⟩) (k_preV hE hZ hP hD hS hA [2, 3, 4, 5, 6] rfl (by decide) (va_recv hE.1 hP (ci := 8) (q0 := 2) rfl rfl)) rfl rfl hl.1 rfl (lv_room (Nat.le_of_ble_eq_true rfl)) dX8_digest_98 ⟨Nat.le_of_ble_eq_true rfl, Nat.le_of_ble_eq_true rfl⟩) (fun r_37 w1 H locs hw hP hD hS => ?_)
                  obtain ⟨rfl, rfl⟩ := hw
                  have hP : va_P g.1 vwCl [(lw4, ai g 648 f1_2), (tr, .inr (7, [.int 0, .ref tr1, .ref tr2])), (h0, .inr (8, [.ref pg, .int 0, .ref rd, .int 0, .ref sk, .ref si, .ref sy, .int 1, .ref ks, .ref ki, .int 0, .ref al, .ref dr])), (sk, .inr (5, [.int 0, .int 0, .ref sk1, .ref sk2, .ref sk3])), (sy, .inr (6, [.ref sy1, .ref sy2, .ref sy3, .ref lw, .int 0, .ref tr])), (lw, .inr (2, [.ref lw1, .ref lw2, .ref lw3, .int 0, .int 0, .ref lw4])), (si, .inr (4, [.int 0, .ref si1, .ref si2, .ref si3]))] H := hP
                  have hD : va_D A [(lw4, ai g 648 f1_2), (tr, .inr (7, [.int 0, .ref tr1, .ref tr2])), (h0, .inr (8, [.ref pg, .int 0, .ref rd, .int 0, .ref sk, .ref si, .ref sy, .int 1, .ref ks, .ref ki, .int 0, .ref al, .ref dr])), (sk, .inr (5, [.int 0, .int 0, .ref sk1, .ref sk2, .ref sk3])), (sy, .inr (6, [.ref sy1, .ref sy2, .ref sy3, .ref lw, .int 0, .ref tr])), (lw, .inr (2, [.ref lw1, .ref lw2, .ref lw3, .int 0, .int 0, .ref lw4])), (si, .inr (4, [.int 0, .ref si1, .ref si2, .ref si3]))] := hD
                  refine k_cl (wr := [(lw4, ai g 648 f1_2), (tr, .inr (7, [.int 0, .ref tr1, .ref tr2])), (h0, .inr (8, [.ref pg, .int 0, .ref rd, .int 0, .ref sk, .ref si, .ref sy, .int 1, .ref ks, .ref ki, .int 0, .ref al, .ref dr])), (sk, .inr (5, [.int 0, .int 0, .ref sk1, .ref sk2, .ref sk3])), (sy, .inr (6, [.ref sy1, .ref sy2, .ref sy3, .ref lw, .int 0, .ref tr])), (lw, .inr (2, [.ref lw1, .ref lw2, .ref lw3, .int 0, .int 0, .ref lw4])), (si, .inr (4, [.int 0, .ref si1, .ref si2, .ref si3]))]) hP hD hS hA [] [0, 1, 2, 3, 4, 5, 6] rfl rfl (by decide) (by decide) (va_runS (As := [.long x_35, .int 0]) (rest := []) ⟨hx, hb, hml, hown, hts⟩ (c_X8_mixed l g x_35 0  H.size) (va_cwS 2 hts gX8_digest_X8_mixed rfl rfl rfl (by decide +kernel) ⟨Nat.le_of_ble_eq_true rfl, Nat.le_of_ble_eq_true rfl⟩) (k_preS hE hZ hP hD hS hA [] rfl (by decide)) rfl rfl hl.1 rfl (lv_room (Nat.le_of_ble_eq_true rfl)) dX8_digest_101 ⟨Nat.le_of_ble_eq_true rfl, Nat.le_of_ble_eq_true rfl⟩) (fun r_39 w1 H locs hw hP hD hS => ?_)
                  obtain ⟨rfl, rfl⟩ := hw
                  have hP : va_P g.1 vwCl [(lw4, ai g 648 f1_2), (tr, .inr (7, [.int 0, .ref tr1, .ref tr2])), (h0, .inr (8, [.ref pg, .int 0, .ref rd, .int 0, .ref sk, .ref si, .ref sy, .int 1, .ref ks, .ref ki, .int 0, .ref al, .ref dr])), (sk, .inr (5, [.int 0, .int 0, .ref sk1, .ref sk2, .ref sk3])), (sy, .inr (6, [.ref sy1, .ref sy2, .ref sy3, .ref lw, .int 0, .ref tr])), (lw, .inr (2, [.ref lw1, .ref lw2, .ref lw3, .int 0, .int 0, .ref lw4])), (si, .inr (4, [.int 0, .ref si1, .ref si2, .ref si3]))] H := hP
                  have hD : va_D A [(lw4, ai g 648 f1_2), (tr, .inr (7, [.int 0, .ref tr1, .ref tr2])), (h0, .inr (8, [.ref pg, .int 0, .ref rd, .int 0, .ref sk, .ref si, .ref sy, .int 1, .ref ks, .ref ki, .int 0, .ref al, .ref dr])), (sk, .inr (5, [.int 0, .int 0, .ref sk1, .ref sk2, .ref sk3])), (sy, .inr (6, [.ref sy1, .ref sy2, .ref sy3, .ref lw, .int 0, .ref tr])), (lw, .inr (2, [.ref lw1, .ref lw2, .ref lw3, .int 0, .int 0, .ref lw4])), (si, .inr (4, [.int 0, .ref si1, .ref si2, .ref si3]))] := hD
                  refine lv_topl (fun x_41 ex_41 => ?_)
                  obtain rfl : x_41 = hD 5 := by rw [ex_41]; rfl
                  refine lv_topl (fun x_42 ex_42 => ?_)
                  refine lv_lstore_n (lv' := [(1, .long x_42), (3, .int 4), (0, .ref h0)]) hx hb dX8_digest_104 rfl hl (by decide) rfl (fun ls hl => ?_)
                  refine lv_iinc (v := 5) (lv' := [(3, .int 5), (1, .long x_42), (0, .ref h0)]) hx hb dX8_digest_105 hl (k := 1) rfl (by decide) (by decide) rfl (fun ls hl => ?_)
                  refine lv_goto (tgt := 89) hx hb dX8_digest_108 (by decide) ?_
                  refine lv_iload_n hx hb dX8_digest_89 rfl (lv_at hl 0 rfl) ?_
                  refine lv_bipush (v := 10) hx hb dX8_digest_90 (by decide) ?_
                  refine lv_icmp_ge (tgt := 111) hx hb dX8_digest_92 (by decide) (fun c92_43 => ?_) (fun c92_43 => ?_)
                  · exact absurd c92_43 (by decide)
                  · skip
                    refine lv_lload_n hx hb dX8_digest_95 rfl (lv_at hl 1 rfl) ?_
                    refine lv_aload_n hx hb dX8_digest_96 rfl (lv_at hl 2 rfl) ?_
                    refine lv_iload_n hx hb dX8_digest_97 rfl (lv_at hl 0 rfl) ?_
                    refine k_ci (wr := [(lw4, ai g 648 f1_2), (tr, .inr (7, [.int 0, .ref tr1, .ref tr2]))]) hP hD hS hA [2, 3, 4, 5, 6] [0, 1] rfl rfl (by decide) (by decide) (va_runV (As := [.int 5]) (rest := [.long x_42]) ⟨hx, hb, hml, hown, hts⟩ (c_X8_tellOfAll l g h0 pg rd sk si sy ks ki al dr sk1 sk2 sk3 sy1 sy2 sy3 lw tr lw1 lw2 lw3 lw4 si1 si2 si3 5  H.size) (cwV 1 hts gX8_digest_X8_tellOfAll rfl rfl rfl (by decide +kernel) ⟨Nat.le_of_ble_eq_true rfl, Nat.le_of_ble_eq_true rfl⟩) (k_preV hE hZ hP hD hS hA [2, 3, 4, 5, 6] rfl (by decide) (va_recv hE.1 hP (ci := 8) (q0 := 2) rfl rfl)) rfl rfl hl.1 rfl (lv_room (Nat.le_of_ble_eq_true rfl)) dX8_digest_98 ⟨Nat.le_of_ble_eq_true rfl, Nat.le_of_ble_eq_true rfl⟩) (fun r_44 w1 H locs hw hP hD hS => ?_)
                    obtain ⟨rfl, rfl⟩ := hw
                    have hP : va_P g.1 vwCl [(lw4, ai g 648 f1_2), (tr, .inr (7, [.int 0, .ref tr1, .ref tr2])), (h0, .inr (8, [.ref pg, .int 0, .ref rd, .int 0, .ref sk, .ref si, .ref sy, .int 1, .ref ks, .ref ki, .int 0, .ref al, .ref dr])), (sk, .inr (5, [.int 0, .int 0, .ref sk1, .ref sk2, .ref sk3])), (sy, .inr (6, [.ref sy1, .ref sy2, .ref sy3, .ref lw, .int 0, .ref tr])), (lw, .inr (2, [.ref lw1, .ref lw2, .ref lw3, .int 0, .int 0, .ref lw4])), (si, .inr (4, [.int 0, .ref si1, .ref si2, .ref si3]))] H := hP
                    have hD : va_D A [(lw4, ai g 648 f1_2), (tr, .inr (7, [.int 0, .ref tr1, .ref tr2])), (h0, .inr (8, [.ref pg, .int 0, .ref rd, .int 0, .ref sk, .ref si, .ref sy, .int 1, .ref ks, .ref ki, .int 0, .ref al, .ref dr])), (sk, .inr (5, [.int 0, .int 0, .ref sk1, .ref sk2, .ref sk3])), (sy, .inr (6, [.ref sy1, .ref sy2, .ref sy3, .ref lw, .int 0, .ref tr])), (lw, .inr (2, [.ref lw1, .ref lw2, .ref lw3, .int 0, .int 0, .ref lw4])), (si, .inr (4, [.int 0, .ref si1, .ref si2, .ref si3]))] := hD
                    refine k_cl (wr := [(lw4, ai g 648 f1_2), (tr, .inr (7, [.int 0, .ref tr1, .ref tr2])), (h0, .inr (8, [.ref pg, .int 0, .ref rd, .int 0, .ref sk, .ref si, .ref sy, .int 1, .ref ks, .ref ki, .int 0, .ref al, .ref dr])), (sk, .inr (5, [.int 0, .int 0, .ref sk1, .ref sk2, .ref sk3])), (sy, .inr (6, [.ref sy1, .ref sy2, .ref sy3, .ref lw, .int 0, .ref tr])), (lw, .inr (2, [.ref lw1, .ref lw2, .ref lw3, .int 0, .int 0, .ref lw4])), (si, .inr (4, [.int 0, .ref si1, .ref si2, .ref si3]))]) hP hD hS hA [] [0, 1, 2, 3, 4, 5, 6] rfl rfl (by decide) (by decide) (va_runS (As := [.long x_42, .int 0]) (rest := []) ⟨hx, hb, hml, hown, hts⟩ (c_X8_mixed l g x_42 0  H.size) (va_cwS 2 hts gX8_digest_X8_mixed rfl rfl rfl (by decide +kernel) ⟨Nat.le_of_ble_eq_true rfl, Nat.le_of_ble_eq_true rfl⟩) (k_preS hE hZ hP hD hS hA [] rfl (by decide)) rfl rfl hl.1 rfl (lv_room (Nat.le_of_ble_eq_true rfl)) dX8_digest_101 ⟨Nat.le_of_ble_eq_true rfl, Nat.le_of_ble_eq_true rfl⟩) (fun r_46 w1 H locs hw hP hD hS => ?_)
                    obtain ⟨rfl, rfl⟩ := hw
                    have hP : va_P g.1 vwCl [(lw4, ai g 648 f1_2), (tr, .inr (7, [.int 0, .ref tr1, .ref tr2])), (h0, .inr (8, [.ref pg, .int 0, .ref rd, .int 0, .ref sk, .ref si, .ref sy, .int 1, .ref ks, .ref ki, .int 0, .ref al, .ref dr])), (sk, .inr (5, [.int 0, .int 0, .ref sk1, .ref sk2, .ref sk3])), (sy, .inr (6, [.ref sy1, .ref sy2, .ref sy3, .ref lw, .int 0, .ref tr])), (lw, .inr (2, [.ref lw1, .ref lw2, .ref lw3, .int 0, .int 0, .ref lw4])), (si, .inr (4, [.int 0, .ref si1, .ref si2, .ref si3]))] H := hP
                    have hD : va_D A [(lw4, ai g 648 f1_2), (tr, .inr (7, [.int 0, .ref tr1, .ref tr2])), (h0, .inr (8, [.ref pg, .int 0, .ref rd, .int 0, .ref sk, .ref si, .ref sy, .int 1, .ref ks, .ref ki, .int 0, .ref al, .ref dr])), (sk, .inr (5, [.int 0, .int 0, .ref sk1, .ref sk2, .ref sk3])), (sy, .inr (6, [.ref sy1, .ref sy2, .ref sy3, .ref lw, .int 0, .ref tr])), (lw, .inr (2, [.ref lw1, .ref lw2, .ref lw3, .int 0, .int 0, .ref lw4])), (si, .inr (4, [.int 0, .ref si1, .ref si2, .ref si3]))] := hD
                    refine lv_topl (fun x_48 ex_48 => ?_)
                    obtain rfl : x_48 = hD 6 := by rw [ex_48]; rfl
                    refine lv_topl (fun x_49 ex_49 => ?_)
                    refine lv_lstore_n (lv' := [(1, .long x_49), (3, .int 5), (0, .ref h0)]) hx hb dX8_digest_104 rfl hl (by decide) rfl (fun ls hl => ?_)
                    refine lv_iinc (v := 6) (lv' := [(3, .int 6), (1, .long x_49), (0, .ref h0)]) hx hb dX8_digest_105 hl (k := 1) rfl (by decide) (by decide) rfl (fun ls hl => ?_)
                    refine lv_goto (tgt := 89) hx hb dX8_digest_108 (by decide) ?_
                    refine lv_iload_n hx hb dX8_digest_89 rfl (lv_at hl 0 rfl) ?_
                    refine lv_bipush (v := 10) hx hb dX8_digest_90 (by decide) ?_
                    refine lv_icmp_ge (tgt := 111) hx hb dX8_digest_92 (by decide) (fun c92_50 => ?_) (fun c92_50 => ?_)
                    · exact absurd c92_50 (by decide)
                    · skip
                      refine lv_lload_n hx hb dX8_digest_95 rfl (lv_at hl 1 rfl) ?_
                      refine lv_aload_n hx hb dX8_digest_96 rfl (lv_at hl 2 rfl) ?_
                      refine lv_iload_n hx hb dX8_digest_97 rfl (lv_at hl 0 rfl) ?_
                      refine k_ci (wr := [(lw4, ai g 648 f1_2), (tr, .inr (7, [.int 0, .ref tr1, .ref tr2]))]) hP hD hS hA [2, 3, 4, 5, 6] [0, 1] rfl rfl (by decide) (by decide) (va_runV (As := [.int 6]) (rest := [.long x_49]) ⟨hx, hb, hml, hown, hts⟩ (c_X8_tellOfAll l g h0 pg rd sk si sy ks ki al dr sk1 sk2 sk3 sy1 sy2 sy3 lw tr lw1 lw2 lw3 lw4 si1 si2 si3 6  H.size) (cwV 1 hts gX8_digest_X8_tellOfAll rfl rfl rfl (by decide +kernel) ⟨Nat.le_of_ble_eq_true rfl, Nat.le_of_ble_eq_true rfl⟩) (k_preV hE hZ hP hD hS hA [2, 3, 4, 5, 6] rfl (by decide) (va_recv hE.1 hP (ci := 8) (q0 := 2) rfl rfl)) rfl rfl hl.1 rfl (lv_room (Nat.le_of_ble_eq_true rfl)) dX8_digest_98 ⟨Nat.le_of_ble_eq_true rfl, Nat.le_of_ble_eq_true rfl⟩) (fun r_51 w1 H locs hw hP hD hS => ?_)
                      obtain ⟨rfl, rfl⟩ := hw
                      have hP : va_P g.1 vwCl [(lw4, ai g 648 f1_2), (tr, .inr (7, [.int 0, .ref tr1, .ref tr2])), (h0, .inr (8, [.ref pg, .int 0, .ref rd, .int 0, .ref sk, .ref si, .ref sy, .int 1, .ref ks, .ref ki, .int 0, .ref al, .ref dr])), (sk, .inr (5, [.int 0, .int 0, .ref sk1, .ref sk2, .ref sk3])), (sy, .inr (6, [.ref sy1, .ref sy2, .ref sy3, .ref lw, .int 0, .ref tr])), (lw, .inr (2, [.ref lw1, .ref lw2, .ref lw3, .int 0, .int 0, .ref lw4])), (si, .inr (4, [.int 0, .ref si1, .ref si2, .ref si3]))] H := hP
                      have hD : va_D A [(lw4, ai g 648 f1_2), (tr, .inr (7, [.int 0, .ref tr1, .ref tr2])), (h0, .inr (8, [.ref pg, .int 0, .ref rd, .int 0, .ref sk, .ref si, .ref sy, .int 1, .ref ks, .ref ki, .int 0, .ref al, .ref dr])), (sk, .inr (5, [.int 0, .int 0, .ref sk1, .ref sk2, .ref sk3])), (sy, .inr (6, [.ref sy1, .ref sy2, .ref sy3, .ref lw, .int 0, .ref tr])), (lw, .inr (2, [.ref lw1, .ref lw2, .ref lw3, .int 0, .int 0, .ref lw4])), (si, .inr (4, [.int 0, .ref si1, .ref si2, .ref si3]))] := hD
                      refine k_cl (wr := [(lw4, ai g 648 f1_2), (tr, .inr (7, [.int 0, .ref tr1, .ref tr2])), (h0, .inr (8, [.ref pg, .int 0, .ref rd, .int 0, .ref sk, .ref si, .ref sy, .int 1, .ref ks, .ref ki, .int 0, .ref al, .ref dr])), (sk, .inr (5, [.int 0, .int 0, .ref sk1, .ref sk2, .ref sk3])), (sy, .inr (6, [.ref sy1, .ref sy2, .ref sy3, .ref lw, .int 0, .ref tr])), (lw, .inr (2, [.ref lw1, .ref lw2, .ref lw3, .int 0, .int 0, .ref lw4])), (si, .inr (4, [.int 0, .ref si1, .ref si2, .ref si3]))]) hP hD hS hA [] [0, 1, 2, 3, 4, 5, 6] rfl rfl (by decide) (by decide) (va_runS (As := [.long x_49, .int 0]) (rest := []) ⟨hx, hb, hml, hown, hts⟩ (c_X8_mixed l g x_49 0  H.size) (va_cwS 2 hts gX8_digest_X8_mixed rfl rfl rfl (by decide +kernel) ⟨Nat.le_of_ble_eq_true rfl, Nat.le_of_ble_eq_true rfl⟩) (k_preS hE hZ hP hD hS hA [] rfl (by decide)) rfl rfl hl.1 rfl (lv_room (Nat.le_of_ble_eq_true rfl)) dX8_digest_101 ⟨Nat.le_of_ble_eq_true rfl, Nat.le_of_ble_eq_true rfl⟩) (fun r_53 w1 H locs hw hP hD hS => ?_)
                      obtain ⟨rfl, rfl⟩ := hw
                      have hP : va_P g.1 vwCl [(lw4, ai g 648 f1_2), (tr, .inr (7, [.int 0, .ref tr1, .ref tr2])), (h0, .inr (8, [.ref pg, .int 0, .ref rd, .int 0, .ref sk, .ref si, .ref sy, .int 1, .ref ks, .ref ki, .int 0, .ref al, .ref dr])), (sk, .inr (5, [.int 0, .int 0, .ref sk1, .ref sk2, .ref sk3])), (sy, .inr (6, [.ref sy1, .ref sy2, .ref sy3, .ref lw, .int 0, .ref tr])), (lw, .inr (2, [.ref lw1, .ref lw2, .ref lw3, .int 0, .int 0, .ref lw4])), (si, .inr (4, [.int 0, .ref si1, .ref si2, .ref si3]))] H := hP
                      have hD : va_D A [(lw4, ai g 648 f1_2), (tr, .inr (7, [.int 0, .ref tr1, .ref tr2])), (h0, .inr (8, [.ref pg, .int 0, .ref rd, .int 0, .ref sk, .ref si, .ref sy, .int 1, .ref ks, .ref ki, .int 0, .ref al, .ref dr])), (sk, .inr (5, [.int 0, .int 0, .ref sk1, .ref sk2, .ref sk3])), (sy, .inr (6, [.ref sy1, .ref sy2, .ref sy3, .ref lw, .int 0, .ref tr])), (lw, .inr (2, [.ref lw1, .ref lw2, .ref lw3, .int 0, .int 0, .ref lw4])), (si, .inr (4, [.int 0, .ref si1, .ref si2, .ref si3]))] := hD
                      refine lv_topl (fun x_55 ex_55 => ?_)
                      obtain rfl : x_55 = hD 7 := by rw [ex_55]; rfl
                      refine lv_topl (fun x_56 ex_56 => ?_)
                      refine lv_lstore_n (lv' := [(1, .long x_56), (3, .int 6), (0, .ref h0)]) hx hb dX8_digest_104 rfl hl (by decide) rfl (fun ls hl => ?_)
                      refine lv_iinc (v := 7) (lv' := [(3, .int 7), (1, .long x_56), (0, .ref h0)]) hx hb dX8_digest_105 hl (k := 1) rfl (by decide) (by decide) rfl (fun ls hl => ?_)
                      refine lv_goto (tgt := 89) hx hb dX8_digest_108 (by decide) ?_
                      refine lv_iload_n hx hb dX8_digest_89 rfl (lv_at hl 0 rfl) ?_
                      refine lv_bipush (v := 10) hx hb dX8_digest_90 (by decide) ?_
                      refine lv_icmp_ge (tgt := 111) hx hb dX8_digest_92 (by decide) (fun c92_57 => ?_) (fun c92_57 => ?_)
                      · exact absurd c92_57 (by decide)
                      · skip
                        refine lv_lload_n hx hb dX8_digest_95 rfl (lv_at hl 1 rfl) ?_
                        refine lv_aload_n hx hb dX8_digest_96 rfl (lv_at hl 2 rfl) ?_
                        refine lv_iload_n hx hb dX8_digest_97 rfl (lv_at hl 0 rfl) ?_
                        refine k_ci (wr := [(lw4, ai g 648 f1_2), (tr, .inr (7, [.int 0, .ref tr1, .ref tr2]))]) hP hD hS hA [2, 3, 4, 5, 6] [0, 1] rfl rfl (by decide) (by decide) (va_runV (As := [.int 7]) (rest := [.long x_56]) ⟨hx, hb, hml, hown, hts⟩ (c_X8_tellOfAll l g h0 pg rd sk si sy ks ki al dr sk1 sk2 sk3 sy1 sy2 sy3 lw tr lw1 lw2 lw3 lw4 si1 si2 si3 7  H.size) (cwV 1 hts gX8_digest_X8_tellOfAll rfl rfl rfl (by decide +kernel) ⟨Nat.le_of_ble_eq_true rfl, Nat.le_of_ble_eq_true rfl⟩) (k_preV hE hZ hP hD hS hA [2, 3, 4, 5, 6] rfl (by decide) (va_recv hE.1 hP (ci := 8) (q0 := 2) rfl rfl)) rfl rfl hl.1 rfl (lv_room (Nat.le_of_ble_eq_true rfl)) dX8_digest_98 ⟨Nat.le_of_ble_eq_true rfl, Nat.le_of_ble_eq_true rfl⟩) (fun r_58 w1 H locs hw hP hD hS => ?_)
                        obtain ⟨rfl, rfl⟩ := hw
                        have hP : va_P g.1 vwCl [(lw4, ai g 648 f1_2), (tr, .inr (7, [.int 0, .ref tr1, .ref tr2])), (h0, .inr (8, [.ref pg, .int 0, .ref rd, .int 0, .ref sk, .ref si, .ref sy, .int 1, .ref ks, .ref ki, .int 0, .ref al, .ref dr])), (sk, .inr (5, [.int 0, .int 0, .ref sk1, .ref sk2, .ref sk3])), (sy, .inr (6, [.ref sy1, .ref sy2, .ref sy3, .ref lw, .int 0, .ref tr])), (lw, .inr (2, [.ref lw1, .ref lw2, .ref lw3, .int 0, .int 0, .ref lw4])), (si, .inr (4, [.int 0, .ref si1, .ref si2, .ref si3]))] H := hP
                        have hD : va_D A [(lw4, ai g 648 f1_2), (tr, .inr (7, [.int 0, .ref tr1, .ref tr2])), (h0, .inr (8, [.ref pg, .int 0, .ref rd, .int 0, .ref sk, .ref si, .ref sy, .int 1, .ref ks, .ref ki, .int 0, .ref al, .ref dr])), (sk, .inr (5, [.int 0, .int 0, .ref sk1, .ref sk2, .ref sk3])), (sy, .inr (6, [.ref sy1, .ref sy2, .ref sy3, .ref lw, .int 0, .ref tr])), (lw, .inr (2, [.ref lw1, .ref lw2, .ref lw3, .int 0, .int 0, .ref lw4])), (si, .inr (4, [.int 0, .ref si1, .ref si2, .ref si3]))] := hD
                        refine k_cl (wr := [(lw4, ai g 648 f1_2), (tr, .inr (7, [.int 0, .ref tr1, .ref tr2])), (h0, .inr (8, [.ref pg, .int 0, .ref rd, .int 0, .ref sk, .ref si, .ref sy, .int 1, .ref ks, .ref ki, .int 0, .ref al, .ref dr])), (sk, .inr (5, [.int 0, .int 0, .ref sk1, .ref sk2, .ref sk3])), (sy, .inr (6, [.ref sy1, .ref sy2, .ref sy3, .ref lw, .int 0, .ref tr])), (lw, .inr (2, [.ref lw1, .ref lw2, .ref lw3, .int 0, .int 0, .ref lw4])), (si, .inr (4, [.int 0, .ref si1, .ref si2, .ref si3]))]) hP hD hS hA [] [0, 1, 2, 3, 4, 5, 6] rfl rfl (by decide) (by decide) (va_runS (As := [.long x_56, .int 0]) (rest := []) ⟨hx, hb, hml, hown, hts⟩ (c_X8_mixed l g x_56 0  H.size) (va_cwS 2 hts gX8_digest_X8_mixed rfl rfl rfl (by decide +kernel) ⟨Nat.le_of_ble_eq_true rfl, Nat.le_of_ble_eq_true rfl⟩) (k_preS hE hZ hP hD hS hA [] rfl (by decide)) rfl rfl hl.1 rfl (lv_room (Nat.le_of_ble_eq_true rfl)) dX8_digest_101 ⟨Nat.le_of_ble_eq_true rfl, Nat.le_of_ble_eq_true rfl⟩) (fun r_60 w1 H locs hw hP hD hS => ?_)
                        obtain ⟨rfl, rfl⟩ := hw
                        have hP : va_P g.1 vwCl [(lw4, ai g 648 f1_2), (tr, .inr (7, [.int 0, .ref tr1, .ref tr2])), (h0, .inr (8, [.ref pg, .int 0, .ref rd, .int 0, .ref sk, .ref si, .ref sy, .int 1, .ref ks, .ref ki, .int 0, .ref al, .ref dr])), (sk, .inr (5, [.int 0, .int 0, .ref sk1, .ref sk2, .ref sk3])), (sy, .inr (6, [.ref sy1, .ref sy2, .ref sy3, .ref lw, .int 0, .ref tr])), (lw, .inr (2, [.ref lw1, .ref lw2, .ref lw3, .int 0, .int 0, .ref lw4])), (si, .inr (4, [.int 0, .ref si1, .ref si2, .ref si3]))] H := hP
                        have hD : va_D A [(lw4, ai g 648 f1_2), (tr, .inr (7, [.int 0, .ref tr1, .ref tr2])), (h0, .inr (8, [.ref pg, .int 0, .ref rd, .int 0, .ref sk, .ref si, .ref sy, .int 1, .ref ks, .ref ki, .int 0, .ref al, .ref dr])), (sk, .inr (5, [.int 0, .int 0, .ref sk1, .ref sk2, .ref sk3])), (sy, .inr (6, [.ref sy1, .ref sy2, .ref sy3, .ref lw, .int 0, .ref tr])), (lw, .inr (2, [.ref lw1, .ref lw2, .ref lw3, .int 0, .int 0, .ref lw4])), (si, .inr (4, [.int 0, .ref si1, .ref si2, .ref si3]))] := hD
                        refine lv_topl (fun x_62 ex_62 => ?_)
                        obtain rfl : x_62 = hD 8 := by rw [ex_62]; rfl
                        refine lv_topl (fun x_63 ex_63 => ?_)
                        refine lv_lstore_n (lv' := [(1, .long x_63), (3, .int 7), (0, .ref h0)]) hx hb dX8_digest_104 rfl hl (by decide) rfl (fun ls hl => ?_)
                        refine lv_iinc (v := 8) (lv' := [(3, .int 8), (1, .long x_63), (0, .ref h0)]) hx hb dX8_digest_105 hl (k := 1) rfl (by decide) (by decide) rfl (fun ls hl => ?_)
                        refine lv_goto (tgt := 89) hx hb dX8_digest_108 (by decide) ?_
                        refine lv_iload_n hx hb dX8_digest_89 rfl (lv_at hl 0 rfl) ?_
                        refine lv_bipush (v := 10) hx hb dX8_digest_90 (by decide) ?_
                        refine lv_icmp_ge (tgt := 111) hx hb dX8_digest_92 (by decide) (fun c92_64 => ?_) (fun c92_64 => ?_)
                        · exact absurd c92_64 (by decide)
                        · skip
                          refine lv_lload_n hx hb dX8_digest_95 rfl (lv_at hl 1 rfl) ?_
                          refine lv_aload_n hx hb dX8_digest_96 rfl (lv_at hl 2 rfl) ?_
                          refine lv_iload_n hx hb dX8_digest_97 rfl (lv_at hl 0 rfl) ?_
                          refine k_ci (wr := [(lw4, ai g 648 f1_2), (tr, .inr (7, [.int 0, .ref tr1, .ref tr2]))]) hP hD hS hA [2, 3, 4, 5, 6] [0, 1] rfl rfl (by decide) (by decide) (va_runV (As := [.int 8]) (rest := [.long x_63]) ⟨hx, hb, hml, hown, hts⟩ (c_X8_tellOfAll l g h0 pg rd sk si sy ks ki al dr sk1 sk2 sk3 sy1 sy2 sy3 lw tr lw1 lw2 lw3 lw4 si1 si2 si3 8  H.size) (cwV 1 hts gX8_digest_X8_tellOfAll rfl rfl rfl (by decide +kernel) ⟨Nat.le_of_ble_eq_true rfl, Nat.le_of_ble_eq_true rfl⟩) (k_preV hE hZ hP hD hS hA [2, 3, 4, 5, 6] rfl (by decide) (va_recv hE.1 hP (ci := 8) (q0 := 2) rfl rfl)) rfl rfl hl.1 rfl (lv_room (Nat.le_of_ble_eq_true rfl)) dX8_digest_98 ⟨Nat.le_of_ble_eq_true rfl, Nat.le_of_ble_eq_true rfl⟩) (fun r_65 w1 H locs hw hP hD hS => ?_)
                          obtain ⟨rfl, rfl⟩ := hw
                          have hP : va_P g.1 vwCl [(lw4, ai g 648 f1_2), (tr, .inr (7, [.int 0, .ref tr1, .ref tr2])), (h0, .inr (8, [.ref pg, .int 0, .ref rd, .int 0, .ref sk, .ref si, .ref sy, .int 1, .ref ks, .ref ki, .int 0, .ref al, .ref dr])), (sk, .inr (5, [.int 0, .int 0, .ref sk1, .ref sk2, .ref sk3])), (sy, .inr (6, [.ref sy1, .ref sy2, .ref sy3, .ref lw, .int 0, .ref tr])), (lw, .inr (2, [.ref lw1, .ref lw2, .ref lw3, .int 0, .int 0, .ref lw4])), (si, .inr (4, [.int 0, .ref si1, .ref si2, .ref si3]))] H := hP
                          have hD : va_D A [(lw4, ai g 648 f1_2), (tr, .inr (7, [.int 0, .ref tr1, .ref tr2])), (h0, .inr (8, [.ref pg, .int 0, .ref rd, .int 0, .ref sk, .ref si, .ref sy, .int 1, .ref ks, .ref ki, .int 0, .ref al, .ref dr])), (sk, .inr (5, [.int 0, .int 0, .ref sk1, .ref sk2, .ref sk3])), (sy, .inr (6, [.ref sy1, .ref sy2, .ref sy3, .ref lw, .int 0, .ref tr])), (lw, .inr (2, [.ref lw1, .ref lw2, .ref lw3, .int 0, .int 0, .ref lw4])), (si, .inr (4, [.int 0, .ref si1, .ref si2, .ref si3]))] := hD
                          refine k_cl (wr := [(lw4, ai g 648 f1_2), (tr, .inr (7, [.int 0, .ref tr1, .ref tr2])), (h0, .inr (8, [.ref pg, .int 0, .ref rd, .int 0, .ref sk, .ref si, .ref sy, .int 1, .ref ks, .ref ki, .int 0, .ref al, .ref dr])), (sk, .inr (5, [.int 0, .int 0, .ref sk1, .ref sk2, .ref sk3])), (sy, .inr (6, [.ref sy1, .ref sy2, .ref sy3, .ref lw, .int 0, .ref tr])), (lw, .inr (2, [.ref lw1, .ref lw2, .ref lw3, .int 0, .int 0, .ref lw4])), (si, .inr (4, [.int 0, .ref si1, .ref si2, .ref si3]))]) hP hD hS hA [] [0, 1, 2, 3, 4, 5, 6] rfl rfl (by decide) (by decide) (va_runS (As := [.long x_63, .int 0]) (rest := []) ⟨hx, hb, hml, hown, hts⟩ (c_X8_mixed l g x_63 0  H.size) (va_cwS 2 hts gX8_digest_X8_mixed rfl rfl rfl (by decide +kernel) ⟨Nat.le_of_ble_eq_true rfl, Nat.le_of_ble_eq_true rfl⟩) (k_preS hE hZ hP hD hS hA [] rfl (by decide)) rfl rfl hl.1 rfl (lv_room (Nat.le_of_ble_eq_true rfl)) dX8_digest_101 ⟨Nat.le_of_ble_eq_true rfl, Nat.le_of_ble_eq_true rfl⟩) (fun r_67 w1 H locs hw hP hD hS => ?_)
                          obtain ⟨rfl, rfl⟩ := hw
                          have hP : va_P g.1 vwCl [(lw4, ai g 648 f1_2), (tr, .inr (7, [.int 0, .ref tr1, .ref tr2])), (h0, .inr (8, [.ref pg, .int 0, .ref rd, .int 0, .ref sk, .ref si, .ref sy, .int 1, .ref ks, .ref ki, .int 0, .ref al, .ref dr])), (sk, .inr (5, [.int 0, .int 0, .ref sk1, .ref sk2, .ref sk3])), (sy, .inr (6, [.ref sy1, .ref sy2, .ref sy3, .ref lw, .int 0, .ref tr])), (lw, .inr (2, [.ref lw1, .ref lw2, .ref lw3, .int 0, .int 0, .ref lw4])), (si, .inr (4, [.int 0, .ref si1, .ref si2, .ref si3]))] H := hP
                          have hD : va_D A [(lw4, ai g 648 f1_2), (tr, .inr (7, [.int 0, .ref tr1, .ref tr2])), (h0, .inr (8, [.ref pg, .int 0, .ref rd, .int 0, .ref sk, .ref si, .ref sy, .int 1, .ref ks, .ref ki, .int 0, .ref al, .ref dr])), (sk, .inr (5, [.int 0, .int 0, .ref sk1, .ref sk2, .ref sk3])), (sy, .inr (6, [.ref sy1, .ref sy2, .ref sy3, .ref lw, .int 0, .ref tr])), (lw, .inr (2, [.ref lw1, .ref lw2, .ref lw3, .int 0, .int 0, .ref lw4])), (si, .inr (4, [.int 0, .ref si1, .ref si2, .ref si3]))] := hD
                          refine lv_topl (fun x_69 ex_69 => ?_)
                          obtain rfl : x_69 = hD 9 := by rw [ex_69]; rfl
                          refine lv_topl (fun x_70 ex_70 => ?_)
                          refine lv_lstore_n (lv' := [(1, .long x_70), (3, .int 8), (0, .ref h0)]) hx hb dX8_digest_104 rfl hl (by decide) rfl (fun ls hl => ?_)
                          refine lv_iinc (v := 9) (lv' := [(3, .int 9), (1, .long x_70), (0, .ref h0)]) hx hb dX8_digest_105 hl (k := 1) rfl (by decide) (by decide) rfl (fun ls hl => ?_)
                          refine lv_goto (tgt := 89) hx hb dX8_digest_108 (by decide) ?_
                          refine lv_iload_n hx hb dX8_digest_89 rfl (lv_at hl 0 rfl) ?_
                          refine lv_bipush (v := 10) hx hb dX8_digest_90 (by decide) ?_
                          refine lv_icmp_ge (tgt := 111) hx hb dX8_digest_92 (by decide) (fun c92_71 => ?_) (fun c92_71 => ?_)
                          · exact absurd c92_71 (by decide)
                          · skip
                            refine lv_lload_n hx hb dX8_digest_95 rfl (lv_at hl 1 rfl) ?_
                            refine lv_aload_n hx hb dX8_digest_96 rfl (lv_at hl 2 rfl) ?_
                            refine lv_iload_n hx hb dX8_digest_97 rfl (lv_at hl 0 rfl) ?_
                            refine k_ci (wr := [(lw4, ai g 648 f1_2), (tr, .inr (7, [.int 0, .ref tr1, .ref tr2]))]) hP hD hS hA [2, 3, 4, 5, 6] [0, 1] rfl rfl (by decide) (by decide) (va_runV (As := [.int 9]) (rest := [.long x_70]) ⟨hx, hb, hml, hown, hts⟩ (c_X8_tellOfAll l g h0 pg rd sk si sy ks ki al dr sk1 sk2 sk3 sy1 sy2 sy3 lw tr lw1 lw2 lw3 lw4 si1 si2 si3 9  H.size) (cwV 1 hts gX8_digest_X8_tellOfAll rfl rfl rfl (by decide +kernel) ⟨Nat.le_of_ble_eq_true rfl, Nat.le_of_ble_eq_true rfl⟩) (k_preV hE hZ hP hD hS hA [2, 3, 4, 5, 6] rfl (by decide) (va_recv hE.1 hP (ci := 8) (q0 := 2) rfl rfl)) rfl rfl hl.1 rfl (lv_room (Nat.le_of_ble_eq_true rfl)) dX8_digest_98 ⟨Nat.le_of_ble_eq_true rfl, Nat.le_of_ble_eq_true rfl⟩) (fun r_72 w1 H locs hw hP hD hS => ?_)
                            obtain ⟨rfl, rfl⟩ := hw
                            have hP : va_P g.1 vwCl [(lw4, ai g 648 f1_2), (tr, .inr (7, [.int 0, .ref tr1, .ref tr2])), (h0, .inr (8, [.ref pg, .int 0, .ref rd, .int 0, .ref sk, .ref si, .ref sy, .int 1, .ref ks, .ref ki, .int 0, .ref al, .ref dr])), (sk, .inr (5, [.int 0, .int 0, .ref sk1, .ref sk2, .ref sk3])), (sy, .inr (6, [.ref sy1, .ref sy2, .ref sy3, .ref lw, .int 0, .ref tr])), (lw, .inr (2, [.ref lw1, .ref lw2, .ref lw3, .int 0, .int 0, .ref lw4])), (si, .inr (4, [.int 0, .ref si1, .ref si2, .ref si3]))] H := hP
                            have hD : va_D A [(lw4, ai g 648 f1_2), (tr, .inr (7, [.int 0, .ref tr1, .ref tr2])), (h0, .inr (8, [.ref pg, .int 0, .ref rd, .int 0, .ref sk, .ref si, .ref sy, .int 1, .ref ks, .ref ki, .int 0, .ref al, .ref dr])), (sk, .inr (5, [.int 0, .int 0, .ref sk1, .ref sk2, .ref sk3])), (sy, .inr (6, [.ref sy1, .ref sy2, .ref sy3, .ref lw, .int 0, .ref tr])), (lw, .inr (2, [.ref lw1, .ref lw2, .ref lw3, .int 0, .int 0, .ref lw4])), (si, .inr (4, [.int 0, .ref si1, .ref si2, .ref si3]))] := hD
                            refine k_cl (wr := [(lw4, ai g 648 f1_2), (tr, .inr (7, [.int 0, .ref tr1, .ref tr2])), (h0, .inr (8, [.ref pg, .int 0, .ref rd, .int 0, .ref sk, .ref si, .ref sy, .int 1, .ref ks, .ref ki, .int 0, .ref al, .ref dr])), (sk, .inr (5, [.int 0, .int 0, .ref sk1, .ref sk2, .ref sk3])), (sy, .inr (6, [.ref sy1, .ref sy2, .ref sy3, .ref lw, .int 0, .ref tr])), (lw, .inr (2, [.ref lw1, .ref lw2, .ref lw3, .int 0, .int 0, .ref lw4])), (si, .inr (4, [.int 0, .ref si1, .ref si2, .ref si3]))]) hP hD hS hA [] [0, 1, 2, 3, 4, 5, 6] rfl rfl (by decide) (by decide) (va_runS (As := [.long x_70, .int 0]) (rest := []) ⟨hx, hb, hml, hown, hts⟩ (c_X8_mixed l g x_70 0  H.size) (va_cwS 2 hts gX8_digest_X8_mixed rfl rfl rfl (by decide +kernel) ⟨Nat.le_of_ble_eq_true rfl, Nat.le_of_ble_eq_true rfl⟩) (k_preS hE hZ hP hD hS hA [] rfl (by decide)) rfl rfl hl.1 rfl (lv_room (Nat.le_of_ble_eq_true rfl)) dX8_digest_101 ⟨Nat.le_of_ble_eq_true rfl, Nat.le_of_ble_eq_true rfl⟩) (fun r_74 w1 H locs hw hP hD hS => ?_)
                            obtain ⟨rfl, rfl⟩ := hw
                            have hP : va_P g.1 vwCl [(lw4, ai g 648 f1_2), (tr, .inr (7, [.int 0, .ref tr1, .ref tr2])), (h0, .inr (8, [.ref pg, .int 0, .ref rd, .int 0, .ref sk, .ref si, .ref sy, .int 1, .ref ks, .ref ki, .int 0, .ref al, .ref dr])), (sk, .inr (5, [.int 0, .int 0, .ref sk1, .ref sk2, .ref sk3])), (sy, .inr (6, [.ref sy1, .ref sy2, .ref sy3, .ref lw, .int 0, .ref tr])), (lw, .inr (2, [.ref lw1, .ref lw2, .ref lw3, .int 0, .int 0, .ref lw4])), (si, .inr (4, [.int 0, .ref si1, .ref si2, .ref si3]))] H := hP
                            have hD : va_D A [(lw4, ai g 648 f1_2), (tr, .inr (7, [.int 0, .ref tr1, .ref tr2])), (h0, .inr (8, [.ref pg, .int 0, .ref rd, .int 0, .ref sk, .ref si, .ref sy, .int 1, .ref ks, .ref ki, .int 0, .ref al, .ref dr])), (sk, .inr (5, [.int 0, .int 0, .ref sk1, .ref sk2, .ref sk3])), (sy, .inr (6, [.ref sy1, .ref sy2, .ref sy3, .ref lw, .int 0, .ref tr])), (lw, .inr (2, [.ref lw1, .ref lw2, .ref lw3, .int 0, .int 0, .ref lw4])), (si, .inr (4, [.int 0, .ref si1, .ref si2, .ref si3]))] := hD
                            refine lv_topl (fun x_76 ex_76 => ?_)
                            obtain rfl : x_76 = hD 10 := by rw [ex_76]; rfl
                            refine lv_topl (fun x_77 ex_77 => ?_)
                            refine lv_lstore_n (lv' := [(1, .long x_77), (3, .int 9), (0, .ref h0)]) hx hb dX8_digest_104 rfl hl (by decide) rfl (fun ls hl => ?_)
                            refine lv_iinc (v := 10) (lv' := [(3, .int 10), (1, .long x_77), (0, .ref h0)]) hx hb dX8_digest_105 hl (k := 1) rfl (by decide) (by decide) rfl (fun ls hl => ?_)
                            refine lv_goto (tgt := 89) hx hb dX8_digest_108 (by decide) ?_
                            refine lv_iload_n hx hb dX8_digest_89 rfl (lv_at hl 0 rfl) ?_
                            refine lv_bipush (v := 10) hx hb dX8_digest_90 (by decide) ?_
                            refine lv_icmp_ge (tgt := 111) hx hb dX8_digest_92 (by decide) (fun c92_78 => ?_) (fun c92_78 => ?_)
                            · skip
                              refine lv_lload_n hx hb dX8_digest_111 rfl (lv_at hl 1 rfl) ?_
                              refine W.widen (k := 0) (n := 0) (Nat.le_of_ble_eq_true rfl) (Nat.le_of_ble_eq_true rfl) ?_
                              have hP9 := hP.sub (ws' := []) [] rfl
                              have hD9 := hD.sub (ws' := []) [] (by decide) rfl
                              exact k_rl hx hb hr hlocks hS hP9 hD9 ⟨rfl, rfl⟩ dX8_digest_112
                            · exact absurd c92_78 (by decide)
      · exact absurd c67_7 (by decide)
    · exact absurd c44_6 (by decide)
  · exact absurd c18_5 (by decide)
def po_X9_isSet (g : GG) (k0 : Nat) (m0 : Nat) (m7 : Nat) (m8 : Nat) (m9 : Nat) (m13 : Nat) (m14 : Nat) (m15 : Nat) (m17 : Nat) (m18 : Nat) (m19 : Nat) (m20 : Nat) (m21 : Nat) (m22 : Nat) (m23 : Nat) (m24 : Nat) (m25 : Nat) (m26 : Nat) (m27 : Nat) (m28 : Nat) (m30 : Nat) (m36 : Nat) (m37 : Nat) (m38 : Nat) (m39 : Nat) (p1 : Int32) : Int32 → va_W → Prop := fun (r : Int32) w => w = [(k0, .inr (9, [.ref m0, .int 0, .int 0, .int 0, .int 0, .int 0, .int 0, .ref m7, .ref m8, .ref m9, .int 0, .int 0, .int 0, .ref m13, .ref m14, .ref m15, .int 0, .ref m17, .ref m18, .ref m19, .ref m20, .ref m21, .ref m22, .ref m23, .ref m24, .ref m25, .ref m26, .ref m27, .ref m28, .int 0, .ref m30, .int 0, .int (-1), .int 0, .int 0, .int 0, .ref m36, .ref m37, .ref m38, .ref m39, .long 0]))] ∧ (r = 0)
theorem q_X9_isSet_f9 : ∀ w ∈ u_ws RX9 TX9 41, w ∈ wsX9_isSet := by decide +kernel
theorem q_X9_isSet_1 : (Cond.fieldLink RX9 147 "SoundLawsModel" "sets" "I") ∈ wsX9_isSet := by decide +kernel
set_option maxHeartbeats 4000000 in
set_option maxRecDepth 100000 in
theorem c_X9_isSet (l : Launch) (g : GG) (k0 : Nat) (m0 : Nat) (m7 : Nat) (m8 : Nat) (m9 : Nat) (m13 : Nat) (m14 : Nat) (m15 : Nat) (m17 : Nat) (m18 : Nat) (m19 : Nat) (m20 : Nat) (m21 : Nat) (m22 : Nat) (m23 : Nat) (m24 : Nat) (m25 : Nat) (m26 : Nat) (m27 : Nat) (m28 : Nat) (m30 : Nat) (m36 : Nat) (m37 : Nat) (m38 : Nat) (m39 : Nat) (p1 : Int32)  (sz : Nat) : MetI l yX9_isSet wsX9_isSet ({ frames := 1, cells := 0, slots := 0, locals := 25 }) g [.ref k0, .int p1] [(k0, .inr (9, [.ref m0, .int 0, .int 0, .int 0, .int 0, .int 0, .int 0, .ref m7, .ref m8, .ref m9, .int 0, .int 0, .int 0, .ref m13, .ref m14, .ref m15, .int 0, .ref m17, .ref m18, .ref m19, .ref m20, .ref m21, .ref m22, .ref m23, .ref m24, .ref m25, .ref m26, .ref m27, .ref m28, .int 0, .ref m30, .int 0, .int (-1), .int 0, .int 0, .int 0, .ref m36, .ref m37, .ref m38, .ref m39, .long 0]))] sz (po_X9_isSet g k0 m0 m7 m8 m9 m13 m14 m15 m17 m18 m19 m20 m21 m22 m23 m24 m25 m26 m27 m28 m30 m36 m37 m38 m39 p1) 0 0 := by
  refine k_of (g := g) (wc := [(k0, .inr (9, [.ref m0, .int 0, .int 0, .int 0, .int 0, .int 0, .int 0, .ref m7, .ref m8, .ref m9, .int 0, .int 0, .int 0, .ref m13, .ref m14, .ref m15, .int 0, .ref m17, .ref m18, .ref m19, .ref m20, .ref m21, .ref m22, .ref m23, .ref m24, .ref m25, .ref m26, .ref m27, .ref m28, .int 0, .ref m30, .int 0, .int (-1), .int 0, .int 0, .int 0, .ref m36, .ref m37, .ref m38, .ref m39, .long 0]))]) (Qc := fun A => va_Qi (po_X9_isSet g k0 m0 m7 m8 m9 m13 m14 m15 m17 m18 m19 m20 m21 m22 m23 m24 m25 m26 m27 m28 m30 m36 m37 m38 m39 p1) (bk g A) A) (cc := cX9_isSet) (maxL := 2) (ret := (some .boolean)) (by decide) rfl (Nat.le_of_ble_eq_true rfl) ?_ sz
  intro p e s m below meth c hx hb hr hts hown hlocks hnm hml A hA hE hZ hP hD hS ls hl
  have hown : s.vm.findClass RX9 = some m.cls := hown
  have hl : lv_has ls 2 [(0, .ref k0), (1, .int p1)] := hl
  refine lv_iload_n hx hb dX9_isSet_0 rfl (lv_at hl 1 rfl) ?_
  refine lv_i2l hx hb dX9_isSet_1 rfl ?_
  refine lv_lconst (v := 0) hx hb dX9_isSet_2 (by decide) ?_
  refine lv_aload_n hx hb dX9_isSet_3 rfl (lv_at hl 0 rfl) ?_
  refine va_get (D := g.1) (ci := 9) (v := .int 0) (C := RX9) (T := TX9) (N := 41) hx hb hts q_X9_isSet_f9 hown hE.1 hP 0 rfl rfl 10 (by decide) (hts (.fieldLink RX9 147 "SoundLawsModel" "sets" "I") q_X9_isSet_1) (fun _ h9 => h9) rfl dX9_isSet_4 ?_
  refine lv_iconst (v := 1) hx hb dX9_isSet_7 (by decide) ?_
  refine lv_isub hx hb dX9_isSet_8 ?_
  refine lv_topi (fun x_1 ex_1 => ?_)
  obtain rfl : x_1 = (-1) := ex_1.trans (by decide)
  refine lv_i2l hx hb dX9_isSet_9 rfl ?_
  refine k_ci (wr := [(k0, .inr (9, [.ref m0, .int 0, .int 0, .int 0, .int 0, .int 0, .int 0, .ref m7, .ref m8, .ref m9, .int 0, .int 0, .int 0, .ref m13, .ref m14, .ref m15, .int 0, .ref m17, .ref m18, .ref m19, .ref m20, .ref m21, .ref m22, .ref m23, .ref m24, .ref m25, .ref m26, .ref m27, .ref m28, .int 0, .ref m30, .int 0, .int (-1), .int 0, .int 0, .int 0, .ref m36, .ref m37, .ref m38, .ref m39, .long 0]))]) hP hD hS hA [] [0] rfl rfl (by decide) (by decide) (va_runS (As := [.long ((p1 : Int32).toInt64), .long 0, .long (((-1) : Int32).toInt64)]) (rest := []) ⟨hx, hb, hml, hown, hts⟩ (c_X9_in l g ((p1 : Int32).toInt64) 0 (((-1) : Int32).toInt64)  H.size) (va_cwS 3 hts gX9_isSet_X9_in rfl rfl rfl (by decide +kernel) ⟨Nat.le_of_ble_eq_true rfl, Nat.le_of_ble_eq_true rfl⟩) (k_preS hE hZ hP hD hS hA [] rfl (by decide)) rfl rfl hl.1 rfl (lv_room (Nat.le_of_ble_eq_true rfl)) dX9_isSet_10 ⟨Nat.le_of_ble_eq_true rfl, Nat.le_of_ble_eq_true rfl⟩) (fun r_2 w1 H locs hw hP hD hS => ?_)
  obtain ⟨rfl, rfl⟩ := hw
  have hP : va_P g.1 vwCl [(k0, .inr (9, [.ref m0, .int 0, .int 0, .int 0, .int 0, .int 0, .int 0, .ref m7, .ref m8, .ref m9, .int 0, .int 0, .int 0, .ref m13, .ref m14, .ref m15, .int 0, .ref m17, .ref m18, .ref m19, .ref m20, .ref m21, .ref m22, .ref m23, .ref m24, .ref m25, .ref m26, .ref m27, .ref m28, .int 0, .ref m30, .int 0, .int (-1), .int 0, .int 0, .int 0, .ref m36, .ref m37, .ref m38, .ref m39, .long 0]))] H := hP
  have hD : va_D A [(k0, .inr (9, [.ref m0, .int 0, .int 0, .int 0, .int 0, .int 0, .int 0, .ref m7, .ref m8, .ref m9, .int 0, .int 0, .int 0, .ref m13, .ref m14, .ref m15, .int 0, .ref m17, .ref m18, .ref m19, .ref m20, .ref m21, .ref m22, .ref m23, .ref m24, .ref m25, .ref m26, .ref m27, .ref m28, .int 0, .ref m30, .int 0, .int (-1), .int 0, .int 0, .int 0, .ref m36, .ref m37, .ref m38, .ref m39, .long 0]))] := hD
  refine lv_topi (fun x_4 ex_4 => ?_)
  obtain rfl : x_4 = 0 := by rw [ex_4]; exact in_m1 _
  refine W.widen (k := 0) (n := 0) (Nat.le_of_ble_eq_true rfl) (Nat.le_of_ble_eq_true rfl) ?_
  exact k_rz hx hb hr hlocks hS hP hD rfl ⟨rfl, rfl⟩ dX9_isSet_13
def po_X9_isTongue (g : GG) (k0 : Nat) (m0 : Nat) (m7 : Nat) (m8 : Nat) (m9 : Nat) (m13 : Nat) (m14 : Nat) (m15 : Nat) (m17 : Nat) (m18 : Nat) (m19 : Nat) (m20 : Nat) (m21 : Nat) (m22 : Nat) (m23 : Nat) (m24 : Nat) (m25 : Nat) (m26 : Nat) (m27 : Nat) (m28 : Nat) (m30 : Nat) (m36 : Nat) (m37 : Nat) (m38 : Nat) (m39 : Nat) (p1 : Int32) : Int32 → va_W → Prop := fun (r : Int32) w => w = [(k0, .inr (9, [.ref m0, .int 0, .int 0, .int 0, .int 0, .int 0, .int 0, .ref m7, .ref m8, .ref m9, .int 0, .int 0, .int 0, .ref m13, .ref m14, .ref m15, .int 0, .ref m17, .ref m18, .ref m19, .ref m20, .ref m21, .ref m22, .ref m23, .ref m24, .ref m25, .ref m26, .ref m27, .ref m28, .int 0, .ref m30, .int 0, .int (-1), .int 0, .int 0, .int 0, .ref m36, .ref m37, .ref m38, .ref m39, .long 0]))] ∧ (r = 0)
theorem q_X9_isTongue_f9 : ∀ w ∈ u_ws RX9 TX9 41, w ∈ wsX9_isTongue := by decide +kernel
theorem q_X9_isTongue_1 : (Cond.fieldLink RX9 150 "SoundLawsModel" "tongues" "I") ∈ wsX9_isTongue := by decide +kernel
set_option maxHeartbeats 4000000 in
set_option maxRecDepth 100000 in
theorem c_X9_isTongue (l : Launch) (g : GG) (k0 : Nat) (m0 : Nat) (m7 : Nat) (m8 : Nat) (m9 : Nat) (m13 : Nat) (m14 : Nat) (m15 : Nat) (m17 : Nat) (m18 : Nat) (m19 : Nat) (m20 : Nat) (m21 : Nat) (m22 : Nat) (m23 : Nat) (m24 : Nat) (m25 : Nat) (m26 : Nat) (m27 : Nat) (m28 : Nat) (m30 : Nat) (m36 : Nat) (m37 : Nat) (m38 : Nat) (m39 : Nat) (p1 : Int32)  (sz : Nat) : MetI l yX9_isTongue wsX9_isTongue ({ frames := 1, cells := 0, slots := 0, locals := 25 }) g [.ref k0, .int p1] [(k0, .inr (9, [.ref m0, .int 0, .int 0, .int 0, .int 0, .int 0, .int 0, .ref m7, .ref m8, .ref m9, .int 0, .int 0, .int 0, .ref m13, .ref m14, .ref m15, .int 0, .ref m17, .ref m18, .ref m19, .ref m20, .ref m21, .ref m22, .ref m23, .ref m24, .ref m25, .ref m26, .ref m27, .ref m28, .int 0, .ref m30, .int 0, .int (-1), .int 0, .int 0, .int 0, .ref m36, .ref m37, .ref m38, .ref m39, .long 0]))] sz (po_X9_isTongue g k0 m0 m7 m8 m9 m13 m14 m15 m17 m18 m19 m20 m21 m22 m23 m24 m25 m26 m27 m28 m30 m36 m37 m38 m39 p1) 0 0 := by
  refine k_of (g := g) (wc := [(k0, .inr (9, [.ref m0, .int 0, .int 0, .int 0, .int 0, .int 0, .int 0, .ref m7, .ref m8, .ref m9, .int 0, .int 0, .int 0, .ref m13, .ref m14, .ref m15, .int 0, .ref m17, .ref m18, .ref m19, .ref m20, .ref m21, .ref m22, .ref m23, .ref m24, .ref m25, .ref m26, .ref m27, .ref m28, .int 0, .ref m30, .int 0, .int (-1), .int 0, .int 0, .int 0, .ref m36, .ref m37, .ref m38, .ref m39, .long 0]))]) (Qc := fun A => va_Qi (po_X9_isTongue g k0 m0 m7 m8 m9 m13 m14 m15 m17 m18 m19 m20 m21 m22 m23 m24 m25 m26 m27 m28 m30 m36 m37 m38 m39 p1) (bk g A) A) (cc := cX9_isTongue) (maxL := 2) (ret := (some .boolean)) (by decide) rfl (Nat.le_of_ble_eq_true rfl) ?_ sz
  intro p e s m below meth c hx hb hr hts hown hlocks hnm hml A hA hE hZ hP hD hS ls hl
  have hown : s.vm.findClass RX9 = some m.cls := hown
  have hl : lv_has ls 2 [(0, .ref k0), (1, .int p1)] := hl
  refine lv_iload_n hx hb dX9_isTongue_0 rfl (lv_at hl 1 rfl) ?_
  refine lv_i2l hx hb dX9_isTongue_1 rfl ?_
  refine lv_lconst (v := 0) hx hb dX9_isTongue_2 (by decide) ?_
  refine lv_aload_n hx hb dX9_isTongue_3 rfl (lv_at hl 0 rfl) ?_
  refine va_get (D := g.1) (ci := 9) (v := .int 0) (C := RX9) (T := TX9) (N := 41) hx hb hts q_X9_isTongue_f9 hown hE.1 hP 0 rfl rfl 11 (by decide) (hts (.fieldLink RX9 150 "SoundLawsModel" "tongues" "I") q_X9_isTongue_1) (fun _ h9 => h9) rfl dX9_isTongue_4 ?_
  refine lv_iconst (v := 1) hx hb dX9_isTongue_7 (by decide) ?_
  refine lv_isub hx hb dX9_isTongue_8 ?_
  refine lv_topi (fun x_1 ex_1 => ?_)
  obtain rfl : x_1 = (-1) := ex_1.trans (by decide)
  refine lv_i2l hx hb dX9_isTongue_9 rfl ?_
  refine k_ci (wr := [(k0, .inr (9, [.ref m0, .int 0, .int 0, .int 0, .int 0, .int 0, .int 0, .ref m7, .ref m8, .ref m9, .int 0, .int 0, .int 0, .ref m13, .ref m14, .ref m15, .int 0, .ref m17, .ref m18, .ref m19, .ref m20, .ref m21, .ref m22, .ref m23, .ref m24, .ref m25, .ref m26, .ref m27, .ref m28, .int 0, .ref m30, .int 0, .int (-1), .int 0, .int 0, .int 0, .ref m36, .ref m37, .ref m38, .ref m39, .long 0]))]) hP hD hS hA [] [0] rfl rfl (by decide) (by decide) (va_runS (As := [.long ((p1 : Int32).toInt64), .long 0, .long (((-1) : Int32).toInt64)]) (rest := []) ⟨hx, hb, hml, hown, hts⟩ (c_X9_in l g ((p1 : Int32).toInt64) 0 (((-1) : Int32).toInt64)  H.size) (va_cwS 3 hts gX9_isTongue_X9_in rfl rfl rfl (by decide +kernel) ⟨Nat.le_of_ble_eq_true rfl, Nat.le_of_ble_eq_true rfl⟩) (k_preS hE hZ hP hD hS hA [] rfl (by decide)) rfl rfl hl.1 rfl (lv_room (Nat.le_of_ble_eq_true rfl)) dX9_isTongue_10 ⟨Nat.le_of_ble_eq_true rfl, Nat.le_of_ble_eq_true rfl⟩) (fun r_2 w1 H locs hw hP hD hS => ?_)
  obtain ⟨rfl, rfl⟩ := hw
  have hP : va_P g.1 vwCl [(k0, .inr (9, [.ref m0, .int 0, .int 0, .int 0, .int 0, .int 0, .int 0, .ref m7, .ref m8, .ref m9, .int 0, .int 0, .int 0, .ref m13, .ref m14, .ref m15, .int 0, .ref m17, .ref m18, .ref m19, .ref m20, .ref m21, .ref m22, .ref m23, .ref m24, .ref m25, .ref m26, .ref m27, .ref m28, .int 0, .ref m30, .int 0, .int (-1), .int 0, .int 0, .int 0, .ref m36, .ref m37, .ref m38, .ref m39, .long 0]))] H := hP
  have hD : va_D A [(k0, .inr (9, [.ref m0, .int 0, .int 0, .int 0, .int 0, .int 0, .int 0, .ref m7, .ref m8, .ref m9, .int 0, .int 0, .int 0, .ref m13, .ref m14, .ref m15, .int 0, .ref m17, .ref m18, .ref m19, .ref m20, .ref m21, .ref m22, .ref m23, .ref m24, .ref m25, .ref m26, .ref m27, .ref m28, .int 0, .ref m30, .int 0, .int (-1), .int 0, .int 0, .int 0, .ref m36, .ref m37, .ref m38, .ref m39, .long 0]))] := hD
  refine lv_topi (fun x_4 ex_4 => ?_)
  obtain rfl : x_4 = 0 := by rw [ex_4]; exact in_m1 _
  refine W.widen (k := 0) (n := 0) (Nat.le_of_ble_eq_true rfl) (Nat.le_of_ble_eq_true rfl) ?_
  exact k_rz hx hb hr hlocks hS hP hD rfl ⟨rfl, rfl⟩ dX9_isTongue_13
def po_X9_isPlace (g : GG) (k0 : Nat) (m0 : Nat) (m7 : Nat) (m8 : Nat) (m9 : Nat) (m13 : Nat) (m14 : Nat) (m15 : Nat) (m17 : Nat) (m18 : Nat) (m19 : Nat) (m20 : Nat) (m21 : Nat) (m22 : Nat) (m23 : Nat) (m24 : Nat) (m25 : Nat) (m26 : Nat) (m27 : Nat) (m28 : Nat) (m30 : Nat) (m36 : Nat) (m37 : Nat) (m38 : Nat) (m39 : Nat) (p1 : Int32) (p2 : Int32) : Int32 → va_W → Prop := fun (r : Int32) w => w = [(k0, .inr (9, [.ref m0, .int 0, .int 0, .int 0, .int 0, .int 0, .int 0, .ref m7, .ref m8, .ref m9, .int 0, .int 0, .int 0, .ref m13, .ref m14, .ref m15, .int 0, .ref m17, .ref m18, .ref m19, .ref m20, .ref m21, .ref m22, .ref m23, .ref m24, .ref m25, .ref m26, .ref m27, .ref m28, .int 0, .ref m30, .int 0, .int (-1), .int 0, .int 0, .int 0, .ref m36, .ref m37, .ref m38, .ref m39, .long 0]))] ∧ (r = 0)
set_option maxHeartbeats 4000000 in
set_option maxRecDepth 100000 in
theorem c_X9_isPlace (l : Launch) (g : GG) (k0 : Nat) (m0 : Nat) (m7 : Nat) (m8 : Nat) (m9 : Nat) (m13 : Nat) (m14 : Nat) (m15 : Nat) (m17 : Nat) (m18 : Nat) (m19 : Nat) (m20 : Nat) (m21 : Nat) (m22 : Nat) (m23 : Nat) (m24 : Nat) (m25 : Nat) (m26 : Nat) (m27 : Nat) (m28 : Nat) (m30 : Nat) (m36 : Nat) (m37 : Nat) (m38 : Nat) (m39 : Nat) (p1 : Int32) (p2 : Int32)  (sz : Nat) : MetI l yX9_isPlace wsX9_isPlace ({ frames := 2, cells := 0, slots := 0, locals := 46 }) g [.ref k0, .int p1, .int p2] [(k0, .inr (9, [.ref m0, .int 0, .int 0, .int 0, .int 0, .int 0, .int 0, .ref m7, .ref m8, .ref m9, .int 0, .int 0, .int 0, .ref m13, .ref m14, .ref m15, .int 0, .ref m17, .ref m18, .ref m19, .ref m20, .ref m21, .ref m22, .ref m23, .ref m24, .ref m25, .ref m26, .ref m27, .ref m28, .int 0, .ref m30, .int 0, .int (-1), .int 0, .int 0, .int 0, .ref m36, .ref m37, .ref m38, .ref m39, .long 0]))] sz (po_X9_isPlace g k0 m0 m7 m8 m9 m13 m14 m15 m17 m18 m19 m20 m21 m22 m23 m24 m25 m26 m27 m28 m30 m36 m37 m38 m39 p1 p2) 0 0 := by
  refine k_of (g := g) (wc := [(k0, .inr (9, [.ref m0, .int 0, .int 0, .int 0, .int 0, .int 0, .int 0, .ref m7, .ref m8, .ref m9, .int 0, .int 0, .int 0, .ref m13, .ref m14, .ref m15, .int 0, .ref m17, .ref m18, .ref m19, .ref m20, .ref m21, .ref m22, .ref m23, .ref m24, .ref m25, .ref m26, .ref m27, .ref m28, .int 0, .ref m30, .int 0, .int (-1), .int 0, .int 0, .int 0, .ref m36, .ref m37, .ref m38, .ref m39, .long 0]))]) (Qc := fun A => va_Qi (po_X9_isPlace g k0 m0 m7 m8 m9 m13 m14 m15 m17 m18 m19 m20 m21 m22 m23 m24 m25 m26 m27 m28 m30 m36 m37 m38 m39 p1 p2) (bk g A) A) (cc := cX9_isPlace) (maxL := 3) (ret := (some .boolean)) (by decide) rfl (Nat.le_of_ble_eq_true rfl) ?_ sz
  intro p e s m below meth c hx hb hr hts hown hlocks hnm hml A hA hE hZ hP hD hS ls hl
  have hown : s.vm.findClass RX9 = some m.cls := hown
  have hl : lv_has ls 3 [(0, .ref k0), (1, .int p1), (2, .int p2)] := hl
  refine lv_aload_n hx hb dX9_isPlace_0 rfl (lv_at hl 0 rfl) ?_
  refine lv_iload_n hx hb dX9_isPlace_1 rfl (lv_at hl 1 rfl) ?_
  refine k_ci (wr := []) hP hD hS hA [0] [] rfl rfl (by decide) (by decide) (va_runV (As := [.int p1]) (rest := []) ⟨hx, hb, hml, hown, hts⟩ (c_X9_isSet l g k0 m0 m7 m8 m9 m13 m14 m15 m17 m18 m19 m20 m21 m22 m23 m24 m25 m26 m27 m28 m30 m36 m37 m38 m39 p1  H.size) (cwV 1 hts gX9_isPlace_X9_isSet rfl rfl rfl (by decide +kernel) ⟨Nat.le_of_ble_eq_true rfl, Nat.le_of_ble_eq_true rfl⟩) (k_preV hE hZ hP hD hS hA [0] rfl (by decide) (va_recv hE.1 hP (ci := 9) (q0 := 0) rfl rfl)) rfl rfl hl.1 rfl (lv_room (Nat.le_of_ble_eq_true rfl)) dX9_isPlace_2 ⟨Nat.le_of_ble_eq_true rfl, Nat.le_of_ble_eq_true rfl⟩) (fun r_1 w1 H locs hw hP hD hS => ?_)
  obtain ⟨rfl, rfl⟩ := hw
  have hP : va_P g.1 vwCl [(k0, .inr (9, [.ref m0, .int 0, .int 0, .int 0, .int 0, .int 0, .int 0, .ref m7, .ref m8, .ref m9, .int 0, .int 0, .int 0, .ref m13, .ref m14, .ref m15, .int 0, .ref m17, .ref m18, .ref m19, .ref m20, .ref m21, .ref m22, .ref m23, .ref m24, .ref m25, .ref m26, .ref m27, .ref m28, .int 0, .ref m30, .int 0, .int (-1), .int 0, .int 0, .int 0, .ref m36, .ref m37, .ref m38, .ref m39, .long 0]))] H := hP
  have hD : va_D A [(k0, .inr (9, [.ref m0, .int 0, .int 0, .int 0, .int 0, .int 0, .int 0, .ref m7, .ref m8, .ref m9, .int 0, .int 0, .int 0, .ref m13, .ref m14, .ref m15, .int 0, .ref m17, .ref m18, .ref m19, .ref m20, .ref m21, .ref m22, .ref m23, .ref m24, .ref m25, .ref m26, .ref m27, .ref m28, .int 0, .ref m30, .int 0, .int (-1), .int 0, .int 0, .int 0, .ref m36, .ref m37, .ref m38, .ref m39, .long 0]))] := hD
  refine lv_if_eq (tgt := 30) hx hb dX9_isPlace_5 (by decide) (fun c5_3 => ?_) (fun c5_3 => ?_)
  · skip
    refine lv_iconst (v := 0) hx hb dX9_isPlace_30 (by decide) ?_
    refine W.widen (k := 0) (n := 0) (Nat.le_of_ble_eq_true rfl) (Nat.le_of_ble_eq_true rfl) ?_
    exact k_rz hx hb hr hlocks hS hP hD rfl ⟨rfl, rfl⟩ dX9_isPlace_31
  · exact absurd c5_3 (by decide)
def po_X9_letter (g : GG) (k0 : Nat) (m0 : Nat) (m7 : Nat) (m8 : Nat) (m9 : Nat) (m13 : Nat) (m14 : Nat) (m15 : Nat) (m17 : Nat) (m18 : Nat) (m19 : Nat) (m20 : Nat) (m21 : Nat) (m22 : Nat) (m23 : Nat) (m24 : Nat) (m25 : Nat) (m26 : Nat) (m27 : Nat) (m28 : Nat) (m30 : Nat) (m36 : Nat) (m37 : Nat) (m38 : Nat) (m39 : Nat) (p1 : Int32) : Int32 → va_W → Prop := fun (r : Int32) w => w = [] ∧ (r = rLet p1)
theorem q_X9_letter_0 : (Cond.constantLong RX9 86 (126)) ∈ wsX9_letter := by decide +kernel
theorem q_X9_letter_f9 : ∀ w ∈ u_ws RX9 TX9 41, w ∈ wsX9_letter := by decide +kernel
theorem q_X9_letter_2 : (Cond.fieldLink RX9 92 "SoundLawsModel" "pageMany" "I") ∈ wsX9_letter := by decide +kernel
theorem q_X9_letter_3 : (Cond.fieldLink RX9 7 "SoundLawsModel" "page" "[I") ∈ wsX9_letter := by decide +kernel
set_option maxHeartbeats 4000000 in
set_option maxRecDepth 100000 in
theorem c_X9_letter (l : Launch) (g : GG) (k0 : Nat) (m0 : Nat) (m7 : Nat) (m8 : Nat) (m9 : Nat) (m13 : Nat) (m14 : Nat) (m15 : Nat) (m17 : Nat) (m18 : Nat) (m19 : Nat) (m20 : Nat) (m21 : Nat) (m22 : Nat) (m23 : Nat) (m24 : Nat) (m25 : Nat) (m26 : Nat) (m27 : Nat) (m28 : Nat) (m30 : Nat) (m36 : Nat) (m37 : Nat) (m38 : Nat) (m39 : Nat) (p1 : Int32)  (sz : Nat) : MetI l yX9_letter wsX9_letter ({ frames := 1, cells := 0, slots := 0, locals := 25 }) g [.ref k0, .int p1] [(k0, .inr (9, [.ref m0, .int 0, .int 0, .int 0, .int 0, .int 0, .int 0, .ref m7, .ref m8, .ref m9, .int 0, .int 0, .int 0, .ref m13, .ref m14, .ref m15, .int 0, .ref m17, .ref m18, .ref m19, .ref m20, .ref m21, .ref m22, .ref m23, .ref m24, .ref m25, .ref m26, .ref m27, .ref m28, .int 0, .ref m30, .int 0, .int (-1), .int 0, .int 0, .int 0, .ref m36, .ref m37, .ref m38, .ref m39, .long 0])), (m0, ai g 110 (fun _ => 0))] sz (po_X9_letter g k0 m0 m7 m8 m9 m13 m14 m15 m17 m18 m19 m20 m21 m22 m23 m24 m25 m26 m27 m28 m30 m36 m37 m38 m39 p1) 0 0 := by
  refine k_of (g := g) (wc := [(k0, .inr (9, [.ref m0, .int 0, .int 0, .int 0, .int 0, .int 0, .int 0, .ref m7, .ref m8, .ref m9, .int 0, .int 0, .int 0, .ref m13, .ref m14, .ref m15, .int 0, .ref m17, .ref m18, .ref m19, .ref m20, .ref m21, .ref m22, .ref m23, .ref m24, .ref m25, .ref m26, .ref m27, .ref m28, .int 0, .ref m30, .int 0, .int (-1), .int 0, .int 0, .int 0, .ref m36, .ref m37, .ref m38, .ref m39, .long 0])), (m0, ai g 110 (fun _ => 0))]) (Qc := fun A => va_Qi (po_X9_letter g k0 m0 m7 m8 m9 m13 m14 m15 m17 m18 m19 m20 m21 m22 m23 m24 m25 m26 m27 m28 m30 m36 m37 m38 m39 p1) (bk g A) A) (cc := cX9_letter) (maxL := 2) (ret := (some .int)) (by decide) rfl (Nat.le_of_ble_eq_true rfl) ?_ sz
  intro p e s m below meth c hx hb hr hts hown hlocks hnm hml A hA hE hZ hP hD hS ls hl
  have hown : s.vm.findClass RX9 = some m.cls := hown
  have hl : lv_has ls 2 [(0, .ref k0), (1, .int p1)] := hl
  refine lv_iload_n hx hb dX9_letter_0 rfl (lv_at hl 1 rfl) ?_
  refine lv_i2l hx hb dX9_letter_1 rfl ?_
  refine lv_lconst (v := 1) hx hb dX9_letter_2 (by decide) ?_
  refine lv_ldc2 hx hb hown (hts (.constantLong RX9 86 (126)) q_X9_letter_0) dX9_letter_3 ?_
  refine k_ci (wr := [(k0, .inr (9, [.ref m0, .int 0, .int 0, .int 0, .int 0, .int 0, .int 0, .ref m7, .ref m8, .ref m9, .int 0, .int 0, .int 0, .ref m13, .ref m14, .ref m15, .int 0, .ref m17, .ref m18, .ref m19, .ref m20, .ref m21, .ref m22, .ref m23, .ref m24, .ref m25, .ref m26, .ref m27, .ref m28, .int 0, .ref m30, .int 0, .int (-1), .int 0, .int 0, .int 0, .ref m36, .ref m37, .ref m38, .ref m39, .long 0])), (m0, ai g 110 (fun _ => 0))]) hP hD hS hA [] [0, 1] rfl rfl (by decide) (by decide) (va_runS (As := [.long ((p1 : Int32).toInt64), .long 1, .long 126]) (rest := []) ⟨hx, hb, hml, hown, hts⟩ (c_X9_in l g ((p1 : Int32).toInt64) 1 126  H.size) (va_cwS 3 hts gX9_letter_X9_in rfl rfl rfl (by decide +kernel) ⟨Nat.le_of_ble_eq_true rfl, Nat.le_of_ble_eq_true rfl⟩) (k_preS hE hZ hP hD hS hA [] rfl (by decide)) rfl rfl hl.1 rfl (lv_room (Nat.le_of_ble_eq_true rfl)) dX9_letter_6 ⟨Nat.le_of_ble_eq_true rfl, Nat.le_of_ble_eq_true rfl⟩) (fun r_1 w1 H locs hw hP hD hS => ?_)
  obtain ⟨rfl, rfl⟩ := hw
  have hP : va_P g.1 vwCl [(k0, .inr (9, [.ref m0, .int 0, .int 0, .int 0, .int 0, .int 0, .int 0, .ref m7, .ref m8, .ref m9, .int 0, .int 0, .int 0, .ref m13, .ref m14, .ref m15, .int 0, .ref m17, .ref m18, .ref m19, .ref m20, .ref m21, .ref m22, .ref m23, .ref m24, .ref m25, .ref m26, .ref m27, .ref m28, .int 0, .ref m30, .int 0, .int (-1), .int 0, .int 0, .int 0, .ref m36, .ref m37, .ref m38, .ref m39, .long 0])), (m0, ai g 110 (fun _ => 0))] H := hP
  have hD : va_D A [(k0, .inr (9, [.ref m0, .int 0, .int 0, .int 0, .int 0, .int 0, .int 0, .ref m7, .ref m8, .ref m9, .int 0, .int 0, .int 0, .ref m13, .ref m14, .ref m15, .int 0, .ref m17, .ref m18, .ref m19, .ref m20, .ref m21, .ref m22, .ref m23, .ref m24, .ref m25, .ref m26, .ref m27, .ref m28, .int 0, .ref m30, .int 0, .int (-1), .int 0, .int 0, .int 0, .ref m36, .ref m37, .ref m38, .ref m39, .long 0])), (m0, ai g 110 (fun _ => 0))] := hD
  refine lv_if_ne (tgt := 15) hx hb dX9_letter_9 (by decide) (fun c9_3 => ?_) (fun c9_3 => ?_)
  · skip
    refine lv_aload_n hx hb dX9_letter_15 rfl (lv_at hl 0 rfl) ?_
    refine va_get (D := g.1) (ci := 9) (v := .int 0) (C := RX9) (T := TX9) (N := 41) hx hb hts q_X9_letter_f9 hown hE.1 hP 0 rfl rfl 1 (by decide) (hts (.fieldLink RX9 92 "SoundLawsModel" "pageMany" "I") q_X9_letter_2) (fun _ h9 => h9) rfl dX9_letter_16 ?_
    refine lv_bipush (v := 110) hx hb dX9_letter_19 (by decide) ?_
    refine lv_icmp_ne (tgt := 27) hx hb dX9_letter_21 (by decide) (fun c21_4 => ?_) (fun c21_4 => ?_)
    · skip
      refine lv_aload_n hx hb dX9_letter_27 rfl (lv_at hl 0 rfl) ?_
      refine va_get (D := g.1) (ci := 9) (v := .ref m0) (C := RX9) (T := TX9) (N := 41) hx hb hts q_X9_letter_f9 hown hE.1 hP 0 rfl rfl 0 (by decide) (hts (.fieldLink RX9 7 "SoundLawsModel" "page" "[I") q_X9_letter_3) (fun _ h9 => h9) rfl dX9_letter_28 ?_
      refine lv_aload_n hx hb dX9_letter_31 rfl (lv_at hl 0 rfl) ?_
      refine va_get (D := g.1) (ci := 9) (v := .int 0) (C := RX9) (T := TX9) (N := 41) hx hb hts q_X9_letter_f9 hown hE.1 hP 0 rfl rfl 1 (by decide) (hts (.fieldLink RX9 92 "SoundLawsModel" "pageMany" "I") q_X9_letter_2) (fun _ h9 => h9) rfl dX9_letter_32 ?_
      refine lv_iload_n hx hb dX9_letter_35 rfl (lv_at hl 1 rfl) ?_
      refine k_ast (x := p1) 0 (by decide) (by decide) hx hb hE hP hD hS 1 rfl (by decide) dX9_letter_36 (fun H locs hP hD hS => ?_)
      have hP : va_P g.1 vwCl [(k0, .inr (9, [.ref m0, .int 0, .int 0, .int 0, .int 0, .int 0, .int 0, .ref m7, .ref m8, .ref m9, .int 0, .int 0, .int 0, .ref m13, .ref m14, .ref m15, .int 0, .ref m17, .ref m18, .ref m19, .ref m20, .ref m21, .ref m22, .ref m23, .ref m24, .ref m25, .ref m26, .ref m27, .ref m28, .int 0, .ref m30, .int 0, .int (-1), .int 0, .int 0, .int 0, .ref m36, .ref m37, .ref m38, .ref m39, .long 0])), (m0, ai g 110 (upd (fun _ => 0) 0 p1))] H := hP
      have hD : va_D A [(k0, .inr (9, [.ref m0, .int 0, .int 0, .int 0, .int 0, .int 0, .int 0, .ref m7, .ref m8, .ref m9, .int 0, .int 0, .int 0, .ref m13, .ref m14, .ref m15, .int 0, .ref m17, .ref m18, .ref m19, .ref m20, .ref m21, .ref m22, .ref m23, .ref m24, .ref m25, .ref m26, .ref m27, .ref m28, .int 0, .ref m30, .int 0, .int (-1), .int 0, .int 0, .int 0, .ref m36, .ref m37, .ref m38, .ref m39, .long 0])), (m0, ai g 110 (upd (fun _ => 0) 0 p1))] := hD
      refine lv_aload_n hx hb dX9_letter_37 rfl (lv_at hl 0 rfl) ?_
      refine lv_dup hx hb dX9_letter_38 rfl ?_
      refine va_get (D := g.1) (ci := 9) (v := .int 0) (C := RX9) (T := TX9) (N := 41) hx hb hts q_X9_letter_f9 hown hE.1 hP 0 rfl rfl 1 (by decide) (hts (.fieldLink RX9 92 "SoundLawsModel" "pageMany" "I") q_X9_letter_2) (fun _ h9 => h9) rfl dX9_letter_39 ?_
      refine lv_iconst (v := 1) hx hb dX9_letter_42 (by decide) ?_
      refine lv_iadd hx hb dX9_letter_43 ?_
      refine lv_topi (fun x_5 ex_5 => ?_)
      obtain rfl : x_5 = 1 := ex_5.trans (by decide)
      refine va_put (D := g.1) (ci := 9) (v := .int 1) (ty := .int) (C := RX9) (T := TX9) (N := 41) hx hb hts q_X9_letter_f9 tyX9 tyX9_ok nmX9 hown hE.1 hP hD hS 0 rfl rfl 1 (by decide) (hts (.fieldLink RX9 92 "SoundLawsModel" "pageMany" "I") q_X9_letter_2) (fun _ h9 => h9) rfl (by decide +kernel) rfl rfl (Nat.le_of_ble_eq_true rfl) dX9_letter_44 (fun H locs hP hD hS => ?_)
      have hP : va_P g.1 vwCl [(k0, .inr (9, [.ref m0, .int 1, .int 0, .int 0, .int 0, .int 0, .int 0, .ref m7, .ref m8, .ref m9, .int 0, .int 0, .int 0, .ref m13, .ref m14, .ref m15, .int 0, .ref m17, .ref m18, .ref m19, .ref m20, .ref m21, .ref m22, .ref m23, .ref m24, .ref m25, .ref m26, .ref m27, .ref m28, .int 0, .ref m30, .int 0, .int (-1), .int 0, .int 0, .int 0, .ref m36, .ref m37, .ref m38, .ref m39, .long 0])), (m0, ai g 110 (upd (fun _ => 0) 0 p1))] H := hP
      have hD : va_D A [(k0, .inr (9, [.ref m0, .int 1, .int 0, .int 0, .int 0, .int 0, .int 0, .ref m7, .ref m8, .ref m9, .int 0, .int 0, .int 0, .ref m13, .ref m14, .ref m15, .int 0, .ref m17, .ref m18, .ref m19, .ref m20, .ref m21, .ref m22, .ref m23, .ref m24, .ref m25, .ref m26, .ref m27, .ref m28, .int 0, .ref m30, .int 0, .int (-1), .int 0, .int 0, .int 0, .ref m36, .ref m37, .ref m38, .ref m39, .long 0])), (m0, ai g 110 (upd (fun _ => 0) 0 p1))] := hD
      refine lv_aload_n hx hb dX9_letter_47 rfl (lv_at hl 0 rfl) ?_
      refine va_get (D := g.1) (ci := 9) (v := .int 1) (C := RX9) (T := TX9) (N := 41) hx hb hts q_X9_letter_f9 hown hE.1 hP 0 rfl rfl 1 (by decide) (hts (.fieldLink RX9 92 "SoundLawsModel" "pageMany" "I") q_X9_letter_2) (fun _ h9 => h9) rfl dX9_letter_48 ?_
      refine W.widen (k := 0) (n := 0) (Nat.le_of_ble_eq_true rfl) (Nat.le_of_ble_eq_true rfl) ?_
      have hP9 := hP.sub (ws' := []) [] rfl
      have hD9 := hD.sub (ws' := []) [] (by decide) rfl
      exact k_ri hx hb hr hlocks hS hP9 hD9 ⟨rfl, (by unfold rLet; rw [if_neg (fun h => h.elim (in_ne (x := p1) (a := 1) (b := 126) c9_3).1 (in_ne (x := p1) (a := 1) (b := 126) c9_3).2)])⟩ dX9_letter_51
    · exact absurd c21_4 (by decide)
  · skip
    refine lv_bipush (v := (-102)) hx hb dX9_letter_12 (by decide) ?_
    refine W.widen (k := 0) (n := 0) (Nat.le_of_ble_eq_true rfl) (Nat.le_of_ble_eq_true rfl) ?_
    have hP9 := hP.sub (ws' := []) [] rfl
    have hD9 := hD.sub (ws' := []) [] (by decide) rfl
    exact k_ri hx hb hr hlocks hS hP9 hD9 ⟨rfl, (by unfold rLet; rw [if_pos (in_eq (x := p1) (a := 1) (b := 126) c9_3)])⟩ dX9_letter_14
def po_X9_blank (g : GG) (k0 : Nat) (m0 : Nat) (m7 : Nat) (m8 : Nat) (m9 : Nat) (m13 : Nat) (m14 : Nat) (m15 : Nat) (m17 : Nat) (m18 : Nat) (m19 : Nat) (m20 : Nat) (m21 : Nat) (m22 : Nat) (m23 : Nat) (m24 : Nat) (m25 : Nat) (m26 : Nat) (m27 : Nat) (m28 : Nat) (m30 : Nat) (m36 : Nat) (m37 : Nat) (m38 : Nat) (m39 : Nat) : Int32 → va_W → Prop := fun (r : Int32) w => w = [] ∧ (r = 0)
theorem q_X9_blank_f9 : ∀ w ∈ u_ws RX9 TX9 41, w ∈ wsX9_blank := by decide +kernel
theorem q_X9_blank_1 : (Cond.fieldLink RX9 92 "SoundLawsModel" "pageMany" "I") ∈ wsX9_blank := by decide +kernel
set_option maxHeartbeats 4000000 in
set_option maxRecDepth 100000 in
theorem c_X9_blank (l : Launch) (g : GG) (k0 : Nat) (m0 : Nat) (m7 : Nat) (m8 : Nat) (m9 : Nat) (m13 : Nat) (m14 : Nat) (m15 : Nat) (m17 : Nat) (m18 : Nat) (m19 : Nat) (m20 : Nat) (m21 : Nat) (m22 : Nat) (m23 : Nat) (m24 : Nat) (m25 : Nat) (m26 : Nat) (m27 : Nat) (m28 : Nat) (m30 : Nat) (m36 : Nat) (m37 : Nat) (m38 : Nat) (m39 : Nat)  (sz : Nat) : MetI l yX9_blank wsX9_blank ({ frames := 0, cells := 0, slots := 0, locals := 0 }) g [.ref k0] [(k0, .inr (9, [.ref m0, .int 0, .int 0, .int 0, .int 0, .int 0, .int 0, .ref m7, .ref m8, .ref m9, .int 0, .int 0, .int 0, .ref m13, .ref m14, .ref m15, .int 0, .ref m17, .ref m18, .ref m19, .ref m20, .ref m21, .ref m22, .ref m23, .ref m24, .ref m25, .ref m26, .ref m27, .ref m28, .int 0, .ref m30, .int 0, .int (-1), .int 0, .int 0, .int 0, .ref m36, .ref m37, .ref m38, .ref m39, .long 0]))] sz (po_X9_blank g k0 m0 m7 m8 m9 m13 m14 m15 m17 m18 m19 m20 m21 m22 m23 m24 m25 m26 m27 m28 m30 m36 m37 m38 m39) 0 0 := by
  refine k_of (g := g) (wc := [(k0, .inr (9, [.ref m0, .int 0, .int 0, .int 0, .int 0, .int 0, .int 0, .ref m7, .ref m8, .ref m9, .int 0, .int 0, .int 0, .ref m13, .ref m14, .ref m15, .int 0, .ref m17, .ref m18, .ref m19, .ref m20, .ref m21, .ref m22, .ref m23, .ref m24, .ref m25, .ref m26, .ref m27, .ref m28, .int 0, .ref m30, .int 0, .int (-1), .int 0, .int 0, .int 0, .ref m36, .ref m37, .ref m38, .ref m39, .long 0]))]) (Qc := fun A => va_Qi (po_X9_blank g k0 m0 m7 m8 m9 m13 m14 m15 m17 m18 m19 m20 m21 m22 m23 m24 m25 m26 m27 m28 m30 m36 m37 m38 m39) (bk g A) A) (cc := cX9_blank) (maxL := 2) (ret := (some .int)) (by decide) rfl (Nat.le_of_ble_eq_true rfl) ?_ sz
  intro p e s m below meth c hx hb hr hts hown hlocks hnm hml A hA hE hZ hP hD hS ls hl
  have hown : s.vm.findClass RX9 = some m.cls := hown
  have hl : lv_has ls 2 [(0, .ref k0)] := hl
  refine lv_aload_n hx hb dX9_blank_0 rfl (lv_at hl 0 rfl) ?_
  refine va_get (D := g.1) (ci := 9) (v := .int 0) (C := RX9) (T := TX9) (N := 41) hx hb hts q_X9_blank_f9 hown hE.1 hP 0 rfl rfl 1 (by decide) (hts (.fieldLink RX9 92 "SoundLawsModel" "pageMany" "I") q_X9_blank_1) (fun _ h9 => h9) rfl dX9_blank_1 ?_
  refine lv_istore_n (lv' := [(1, .int 0), (0, .ref k0)]) hx hb dX9_blank_4 rfl hl (by decide) rfl (fun ls hl => ?_)
  refine lv_aload_n hx hb dX9_blank_5 rfl (lv_at hl 1 rfl) ?_
  refine lv_iconst (v := 0) hx hb dX9_blank_6 (by decide) ?_
  refine va_put (D := g.1) (ci := 9) (v := .int 0) (ty := .int) (C := RX9) (T := TX9) (N := 41) hx hb hts q_X9_blank_f9 tyX9 tyX9_ok nmX9 hown hE.1 hP hD hS 0 rfl rfl 1 (by decide) (hts (.fieldLink RX9 92 "SoundLawsModel" "pageMany" "I") q_X9_blank_1) (fun _ h9 => h9) rfl (by decide +kernel) rfl rfl (Nat.le_of_ble_eq_true rfl) dX9_blank_7 (fun H locs hP hD hS => ?_)
  have hP : va_P g.1 vwCl [(k0, .inr (9, [.ref m0, .int 0, .int 0, .int 0, .int 0, .int 0, .int 0, .ref m7, .ref m8, .ref m9, .int 0, .int 0, .int 0, .ref m13, .ref m14, .ref m15, .int 0, .ref m17, .ref m18, .ref m19, .ref m20, .ref m21, .ref m22, .ref m23, .ref m24, .ref m25, .ref m26, .ref m27, .ref m28, .int 0, .ref m30, .int 0, .int (-1), .int 0, .int 0, .int 0, .ref m36, .ref m37, .ref m38, .ref m39, .long 0]))] H := hP
  have hD : va_D A [(k0, .inr (9, [.ref m0, .int 0, .int 0, .int 0, .int 0, .int 0, .int 0, .ref m7, .ref m8, .ref m9, .int 0, .int 0, .int 0, .ref m13, .ref m14, .ref m15, .int 0, .ref m17, .ref m18, .ref m19, .ref m20, .ref m21, .ref m22, .ref m23, .ref m24, .ref m25, .ref m26, .ref m27, .ref m28, .int 0, .ref m30, .int 0, .int (-1), .int 0, .int 0, .int 0, .ref m36, .ref m37, .ref m38, .ref m39, .long 0]))] := hD
  refine lv_iload_n hx hb dX9_blank_10 rfl (lv_at hl 0 rfl) ?_
  refine W.widen (k := 0) (n := 0) (Nat.le_of_ble_eq_true rfl) (Nat.le_of_ble_eq_true rfl) ?_
  have hP9 := hP.sub (ws' := []) [] rfl
  have hD9 := hD.sub (ws' := []) [] (by decide) rfl
  exact k_ri hx hb hr hlocks hS hP9 hD9 ⟨rfl, rfl⟩ dX9_blank_11
def po_X9_faultOf (g : GG) (k0 : Nat) (m0 : Nat) (m7 : Nat) (m8 : Nat) (m9 : Nat) (m13 : Nat) (m14 : Nat) (m15 : Nat) (m17 : Nat) (m18 : Nat) (m19 : Nat) (m20 : Nat) (m21 : Nat) (m22 : Nat) (m23 : Nat) (m24 : Nat) (m25 : Nat) (m26 : Nat) (m27 : Nat) (m28 : Nat) (m30 : Nat) (m36 : Nat) (m37 : Nat) (m38 : Nat) (m39 : Nat) : Int32 → va_W → Prop := fun (r : Int32) w => w = [(k0, .inr (9, [.ref m0, .int 0, .int 0, .int (-1), .int 0, .int 0, .int 0, .ref m7, .ref m8, .ref m9, .int 0, .int 0, .int 0, .ref m13, .ref m14, .ref m15, .int 0, .ref m17, .ref m18, .ref m19, .ref m20, .ref m21, .ref m22, .ref m23, .ref m24, .ref m25, .ref m26, .ref m27, .ref m28, .int 0, .ref m30, .int 0, .int (-1), .int 0, .int 0, .int 0, .ref m36, .ref m37, .ref m38, .ref m39, .long 0]))] ∧ (r = 0)
theorem q_X9_faultOf_f9 : ∀ w ∈ u_ws RX9 TX9 41, w ∈ wsX9_faultOf := by decide +kernel
theorem q_X9_faultOf_1 : (Cond.fieldLink RX9 115 "SoundLawsModel" "readSets" "I") ∈ wsX9_faultOf := by decide +kernel
theorem q_X9_faultOf_2 : (Cond.fieldLink RX9 98 "SoundLawsModel" "readWords" "I") ∈ wsX9_faultOf := by decide +kernel
theorem q_X9_faultOf_3 : (Cond.fieldLink RX9 108 "SoundLawsModel" "readTongues" "I") ∈ wsX9_faultOf := by decide +kernel
theorem q_X9_faultOf_4 : (Cond.fieldLink RX9 92 "SoundLawsModel" "pageMany" "I") ∈ wsX9_faultOf := by decide +kernel
set_option maxHeartbeats 4000000 in
set_option maxRecDepth 100000 in
theorem c_X9_faultOf (l : Launch) (g : GG) (k0 : Nat) (m0 : Nat) (m7 : Nat) (m8 : Nat) (m9 : Nat) (m13 : Nat) (m14 : Nat) (m15 : Nat) (m17 : Nat) (m18 : Nat) (m19 : Nat) (m20 : Nat) (m21 : Nat) (m22 : Nat) (m23 : Nat) (m24 : Nat) (m25 : Nat) (m26 : Nat) (m27 : Nat) (m28 : Nat) (m30 : Nat) (m36 : Nat) (m37 : Nat) (m38 : Nat) (m39 : Nat)  (sz : Nat) : MetI l yX9_faultOf wsX9_faultOf ({ frames := 0, cells := 0, slots := 0, locals := 0 }) g [.ref k0] [(k0, .inr (9, [.ref m0, .int 0, .int 0, .int 0, .int 0, .int 0, .int 0, .ref m7, .ref m8, .ref m9, .int 0, .int 0, .int 0, .ref m13, .ref m14, .ref m15, .int 0, .ref m17, .ref m18, .ref m19, .ref m20, .ref m21, .ref m22, .ref m23, .ref m24, .ref m25, .ref m26, .ref m27, .ref m28, .int 0, .ref m30, .int 0, .int (-1), .int 0, .int 0, .int 0, .ref m36, .ref m37, .ref m38, .ref m39, .long 0]))] sz (po_X9_faultOf g k0 m0 m7 m8 m9 m13 m14 m15 m17 m18 m19 m20 m21 m22 m23 m24 m25 m26 m27 m28 m30 m36 m37 m38 m39) 0 0 := by
  refine k_of (g := g) (wc := [(k0, .inr (9, [.ref m0, .int 0, .int 0, .int 0, .int 0, .int 0, .int 0, .ref m7, .ref m8, .ref m9, .int 0, .int 0, .int 0, .ref m13, .ref m14, .ref m15, .int 0, .ref m17, .ref m18, .ref m19, .ref m20, .ref m21, .ref m22, .ref m23, .ref m24, .ref m25, .ref m26, .ref m27, .ref m28, .int 0, .ref m30, .int 0, .int (-1), .int 0, .int 0, .int 0, .ref m36, .ref m37, .ref m38, .ref m39, .long 0]))]) (Qc := fun A => va_Qi (po_X9_faultOf g k0 m0 m7 m8 m9 m13 m14 m15 m17 m18 m19 m20 m21 m22 m23 m24 m25 m26 m27 m28 m30 m36 m37 m38 m39) (bk g A) A) (cc := cX9_faultOf) (maxL := 2) (ret := (some .int)) (by decide) rfl (Nat.le_of_ble_eq_true rfl) ?_ sz
  intro p e s m below meth c hx hb hr hts hown hlocks hnm hml A hA hE hZ hP hD hS ls hl
  have hown : s.vm.findClass RX9 = some m.cls := hown
  have hl : lv_has ls 2 [(0, .ref k0)] := hl
  refine lv_aload_n hx hb dX9_faultOf_0 rfl (lv_at hl 0 rfl) ?_
  refine lv_iconst (v := 0) hx hb dX9_faultOf_1 (by decide) ?_
  refine va_put (D := g.1) (ci := 9) (v := .int 0) (ty := .int) (C := RX9) (T := TX9) (N := 41) hx hb hts q_X9_faultOf_f9 tyX9 tyX9_ok nmX9 hown hE.1 hP hD hS 0 rfl rfl 2 (by decide) (hts (.fieldLink RX9 115 "SoundLawsModel" "readSets" "I") q_X9_faultOf_1) (fun _ h9 => h9) rfl (by decide +kernel) rfl rfl (Nat.le_of_ble_eq_true rfl) dX9_faultOf_2 (fun H locs hP hD hS => ?_)
  have hP : va_P g.1 vwCl [(k0, .inr (9, [.ref m0, .int 0, .int 0, .int 0, .int 0, .int 0, .int 0, .ref m7, .ref m8, .ref m9, .int 0, .int 0, .int 0, .ref m13, .ref m14, .ref m15, .int 0, .ref m17, .ref m18, .ref m19, .ref m20, .ref m21, .ref m22, .ref m23, .ref m24, .ref m25, .ref m26, .ref m27, .ref m28, .int 0, .ref m30, .int 0, .int (-1), .int 0, .int 0, .int 0, .ref m36, .ref m37, .ref m38, .ref m39, .long 0]))] H := hP
  have hD : va_D A [(k0, .inr (9, [.ref m0, .int 0, .int 0, .int 0, .int 0, .int 0, .int 0, .ref m7, .ref m8, .ref m9, .int 0, .int 0, .int 0, .ref m13, .ref m14, .ref m15, .int 0, .ref m17, .ref m18, .ref m19, .ref m20, .ref m21, .ref m22, .ref m23, .ref m24, .ref m25, .ref m26, .ref m27, .ref m28, .int 0, .ref m30, .int 0, .int (-1), .int 0, .int 0, .int 0, .ref m36, .ref m37, .ref m38, .ref m39, .long 0]))] := hD
  refine lv_aload_n hx hb dX9_faultOf_5 rfl (lv_at hl 0 rfl) ?_
  refine lv_iconst (v := (-1)) hx hb dX9_faultOf_6 (by decide) ?_
  refine va_put (D := g.1) (ci := 9) (v := .int (-1)) (ty := .int) (C := RX9) (T := TX9) (N := 41) hx hb hts q_X9_faultOf_f9 tyX9 tyX9_ok nmX9 hown hE.1 hP hD hS 0 rfl rfl 3 (by decide) (hts (.fieldLink RX9 98 "SoundLawsModel" "readWords" "I") q_X9_faultOf_2) (fun _ h9 => h9) rfl (by decide +kernel) rfl rfl (Nat.le_of_ble_eq_true rfl) dX9_faultOf_7 (fun H locs hP hD hS => ?_)
  have hP : va_P g.1 vwCl [(k0, .inr (9, [.ref m0, .int 0, .int 0, .int (-1), .int 0, .int 0, .int 0, .ref m7, .ref m8, .ref m9, .int 0, .int 0, .int 0, .ref m13, .ref m14, .ref m15, .int 0, .ref m17, .ref m18, .ref m19, .ref m20, .ref m21, .ref m22, .ref m23, .ref m24, .ref m25, .ref m26, .ref m27, .ref m28, .int 0, .ref m30, .int 0, .int (-1), .int 0, .int 0, .int 0, .ref m36, .ref m37, .ref m38, .ref m39, .long 0]))] H := hP
  have hD : va_D A [(k0, .inr (9, [.ref m0, .int 0, .int 0, .int (-1), .int 0, .int 0, .int 0, .ref m7, .ref m8, .ref m9, .int 0, .int 0, .int 0, .ref m13, .ref m14, .ref m15, .int 0, .ref m17, .ref m18, .ref m19, .ref m20, .ref m21, .ref m22, .ref m23, .ref m24, .ref m25, .ref m26, .ref m27, .ref m28, .int 0, .ref m30, .int 0, .int (-1), .int 0, .int 0, .int 0, .ref m36, .ref m37, .ref m38, .ref m39, .long 0]))] := hD
  refine lv_aload_n hx hb dX9_faultOf_10 rfl (lv_at hl 0 rfl) ?_
  refine lv_iconst (v := 0) hx hb dX9_faultOf_11 (by decide) ?_
  refine va_put (D := g.1) (ci := 9) (v := .int 0) (ty := .int) (C := RX9) (T := TX9) (N := 41) hx hb hts q_X9_faultOf_f9 tyX9 tyX9_ok nmX9 hown hE.1 hP hD hS 0 rfl rfl 6 (by decide) (hts (.fieldLink RX9 108 "SoundLawsModel" "readTongues" "I") q_X9_faultOf_3) (fun _ h9 => h9) rfl (by decide +kernel) rfl rfl (Nat.le_of_ble_eq_true rfl) dX9_faultOf_12 (fun H locs hP hD hS => ?_)
  have hP : va_P g.1 vwCl [(k0, .inr (9, [.ref m0, .int 0, .int 0, .int (-1), .int 0, .int 0, .int 0, .ref m7, .ref m8, .ref m9, .int 0, .int 0, .int 0, .ref m13, .ref m14, .ref m15, .int 0, .ref m17, .ref m18, .ref m19, .ref m20, .ref m21, .ref m22, .ref m23, .ref m24, .ref m25, .ref m26, .ref m27, .ref m28, .int 0, .ref m30, .int 0, .int (-1), .int 0, .int 0, .int 0, .ref m36, .ref m37, .ref m38, .ref m39, .long 0]))] H := hP
  have hD : va_D A [(k0, .inr (9, [.ref m0, .int 0, .int 0, .int (-1), .int 0, .int 0, .int 0, .ref m7, .ref m8, .ref m9, .int 0, .int 0, .int 0, .ref m13, .ref m14, .ref m15, .int 0, .ref m17, .ref m18, .ref m19, .ref m20, .ref m21, .ref m22, .ref m23, .ref m24, .ref m25, .ref m26, .ref m27, .ref m28, .int 0, .ref m30, .int 0, .int (-1), .int 0, .int 0, .int 0, .ref m36, .ref m37, .ref m38, .ref m39, .long 0]))] := hD
  refine lv_iconst (v := 0) hx hb dX9_faultOf_15 (by decide) ?_
  refine lv_istore_n (lv' := [(1, .int 0), (0, .ref k0)]) hx hb dX9_faultOf_16 rfl hl (by decide) rfl (fun ls hl => ?_)
  refine lv_iload_n hx hb dX9_faultOf_17 rfl (lv_at hl 0 rfl) ?_
  refine lv_aload_n hx hb dX9_faultOf_18 rfl (lv_at hl 1 rfl) ?_
  refine va_get (D := g.1) (ci := 9) (v := .int 0) (C := RX9) (T := TX9) (N := 41) hx hb hts q_X9_faultOf_f9 hown hE.1 hP 0 rfl rfl 1 (by decide) (hts (.fieldLink RX9 92 "SoundLawsModel" "pageMany" "I") q_X9_faultOf_4) (fun _ h9 => h9) rfl dX9_faultOf_19 ?_
  refine lv_icmp_ge (tgt := 44) hx hb dX9_faultOf_22 (by decide) (fun c22_1 => ?_) (fun c22_1 => ?_)
  · skip
    refine lv_iload_n hx hb dX9_faultOf_44 rfl (lv_at hl 0 rfl) ?_
    refine W.widen (k := 0) (n := 0) (Nat.le_of_ble_eq_true rfl) (Nat.le_of_ble_eq_true rfl) ?_
    exact k_ri hx hb hr hlocks hS hP hD ⟨rfl, rfl⟩ dX9_faultOf_45
  · exact absurd c22_1 (by decide)
def po_X9_fault (g : GG) (k0 : Nat) (m0 : Nat) (m7 : Nat) (m8 : Nat) (m9 : Nat) (m13 : Nat) (m14 : Nat) (m15 : Nat) (m17 : Nat) (m18 : Nat) (m19 : Nat) (m20 : Nat) (m21 : Nat) (m22 : Nat) (m23 : Nat) (m24 : Nat) (m25 : Nat) (m26 : Nat) (m27 : Nat) (m28 : Nat) (m30 : Nat) (m36 : Nat) (m37 : Nat) (m38 : Nat) (m39 : Nat) : Int32 → va_W → Prop := fun (r : Int32) w => w = [] ∧ (r = 0)
set_option maxHeartbeats 4000000 in
set_option maxRecDepth 100000 in
theorem c_X9_fault (l : Launch) (g : GG) (k0 : Nat) (m0 : Nat) (m7 : Nat) (m8 : Nat) (m9 : Nat) (m13 : Nat) (m14 : Nat) (m15 : Nat) (m17 : Nat) (m18 : Nat) (m19 : Nat) (m20 : Nat) (m21 : Nat) (m22 : Nat) (m23 : Nat) (m24 : Nat) (m25 : Nat) (m26 : Nat) (m27 : Nat) (m28 : Nat) (m30 : Nat) (m36 : Nat) (m37 : Nat) (m38 : Nat) (m39 : Nat)  (sz : Nat) : MetI l yX9_fault wsX9_fault ({ frames := 1, cells := 0, slots := 0, locals := 21 }) g [.ref k0] [(k0, .inr (9, [.ref m0, .int 0, .int 0, .int 0, .int 0, .int 0, .int 0, .ref m7, .ref m8, .ref m9, .int 0, .int 0, .int 0, .ref m13, .ref m14, .ref m15, .int 0, .ref m17, .ref m18, .ref m19, .ref m20, .ref m21, .ref m22, .ref m23, .ref m24, .ref m25, .ref m26, .ref m27, .ref m28, .int 0, .ref m30, .int 0, .int (-1), .int 0, .int 0, .int 0, .ref m36, .ref m37, .ref m38, .ref m39, .long 0]))] sz (po_X9_fault g k0 m0 m7 m8 m9 m13 m14 m15 m17 m18 m19 m20 m21 m22 m23 m24 m25 m26 m27 m28 m30 m36 m37 m38 m39) 0 0 := by
  refine k_of (g := g) (wc := [(k0, .inr (9, [.ref m0, .int 0, .int 0, .int 0, .int 0, .int 0, .int 0, .ref m7, .ref m8, .ref m9, .int 0, .int 0, .int 0, .ref m13, .ref m14, .ref m15, .int 0, .ref m17, .ref m18, .ref m19, .ref m20, .ref m21, .ref m22, .ref m23, .ref m24, .ref m25, .ref m26, .ref m27, .ref m28, .int 0, .ref m30, .int 0, .int (-1), .int 0, .int 0, .int 0, .ref m36, .ref m37, .ref m38, .ref m39, .long 0]))]) (Qc := fun A => va_Qi (po_X9_fault g k0 m0 m7 m8 m9 m13 m14 m15 m17 m18 m19 m20 m21 m22 m23 m24 m25 m26 m27 m28 m30 m36 m37 m38 m39) (bk g A) A) (cc := cX9_fault) (maxL := 1) (ret := (some .int)) (by decide) rfl (Nat.le_of_ble_eq_true rfl) ?_ sz
  intro p e s m below meth c hx hb hr hts hown hlocks hnm hml A hA hE hZ hP hD hS ls hl
  have hown : s.vm.findClass RX9 = some m.cls := hown
  have hl : lv_has ls 1 [(0, .ref k0)] := hl
  refine lv_aload_n hx hb dX9_fault_0 rfl (lv_at hl 0 rfl) ?_
  refine k_ci (wr := []) hP hD hS hA [0] [] rfl rfl (by decide) (by decide) (va_runV (As := []) (rest := []) ⟨hx, hb, hml, hown, hts⟩ (c_X9_faultOf l g k0 m0 m7 m8 m9 m13 m14 m15 m17 m18 m19 m20 m21 m22 m23 m24 m25 m26 m27 m28 m30 m36 m37 m38 m39  H.size) (cwV 0 hts gX9_fault_X9_faultOf rfl rfl rfl (by decide +kernel) ⟨Nat.le_of_ble_eq_true rfl, Nat.le_of_ble_eq_true rfl⟩) (k_preV hE hZ hP hD hS hA [0] rfl (by decide) (va_recv hE.1 hP (ci := 9) (q0 := 0) rfl rfl)) rfl rfl hl.1 rfl (lv_room (Nat.le_of_ble_eq_true rfl)) dX9_fault_1 ⟨Nat.le_of_ble_eq_true rfl, Nat.le_of_ble_eq_true rfl⟩) (fun r_1 w1 H locs hw hP hD hS => ?_)
  obtain ⟨rfl, rfl⟩ := hw
  have hP : va_P g.1 vwCl [(k0, .inr (9, [.ref m0, .int 0, .int 0, .int (-1), .int 0, .int 0, .int 0, .ref m7, .ref m8, .ref m9, .int 0, .int 0, .int 0, .ref m13, .ref m14, .ref m15, .int 0, .ref m17, .ref m18, .ref m19, .ref m20, .ref m21, .ref m22, .ref m23, .ref m24, .ref m25, .ref m26, .ref m27, .ref m28, .int 0, .ref m30, .int 0, .int (-1), .int 0, .int 0, .int 0, .ref m36, .ref m37, .ref m38, .ref m39, .long 0]))] H := hP
  have hD : va_D A [(k0, .inr (9, [.ref m0, .int 0, .int 0, .int (-1), .int 0, .int 0, .int 0, .ref m7, .ref m8, .ref m9, .int 0, .int 0, .int 0, .ref m13, .ref m14, .ref m15, .int 0, .ref m17, .ref m18, .ref m19, .ref m20, .ref m21, .ref m22, .ref m23, .ref m24, .ref m25, .ref m26, .ref m27, .ref m28, .int 0, .ref m30, .int 0, .int (-1), .int 0, .int 0, .int 0, .ref m36, .ref m37, .ref m38, .ref m39, .long 0]))] := hD
  refine W.widen (k := 0) (n := 0) (Nat.le_of_ble_eq_true rfl) (Nat.le_of_ble_eq_true rfl) ?_
  have hP9 := hP.sub (ws' := []) [] rfl
  have hD9 := hD.sub (ws' := []) [] (by decide) rfl
  exact k_ri hx hb hr hlocks hS hP9 hD9 ⟨rfl, rfl⟩ dX9_fault_4
def po_X9_sets (g : GG) (k0 : Nat) (m0 : Nat) (m7 : Nat) (m8 : Nat) (m9 : Nat) (m13 : Nat) (m14 : Nat) (m15 : Nat) (m17 : Nat) (m18 : Nat) (m19 : Nat) (m20 : Nat) (m21 : Nat) (m22 : Nat) (m23 : Nat) (m24 : Nat) (m25 : Nat) (m26 : Nat) (m27 : Nat) (m28 : Nat) (m30 : Nat) (m36 : Nat) (m37 : Nat) (m38 : Nat) (m39 : Nat) : Int32 → va_W → Prop := fun (r : Int32) w => w = [] ∧ (r = (-103))
theorem q_X9_sets_f9 : ∀ w ∈ u_ws RX9 TX9 41, w ∈ wsX9_sets := by decide +kernel
theorem q_X9_sets_1 : (Cond.fieldLink RX9 92 "SoundLawsModel" "pageMany" "I") ∈ wsX9_sets := by decide +kernel
theorem q_X9_sets_2 : (Cond.fieldLink RX9 98 "SoundLawsModel" "readWords" "I") ∈ wsX9_sets := by decide +kernel
set_option maxHeartbeats 4000000 in
set_option maxRecDepth 100000 in
theorem c_X9_sets (l : Launch) (g : GG) (k0 : Nat) (m0 : Nat) (m7 : Nat) (m8 : Nat) (m9 : Nat) (m13 : Nat) (m14 : Nat) (m15 : Nat) (m17 : Nat) (m18 : Nat) (m19 : Nat) (m20 : Nat) (m21 : Nat) (m22 : Nat) (m23 : Nat) (m24 : Nat) (m25 : Nat) (m26 : Nat) (m27 : Nat) (m28 : Nat) (m30 : Nat) (m36 : Nat) (m37 : Nat) (m38 : Nat) (m39 : Nat)  (sz : Nat) : MetI l yX9_sets wsX9_sets ({ frames := 1, cells := 0, slots := 0, locals := 21 }) g [.ref k0] [(k0, .inr (9, [.ref m0, .int 0, .int 0, .int 0, .int 0, .int 0, .int 0, .ref m7, .ref m8, .ref m9, .int 0, .int 0, .int 0, .ref m13, .ref m14, .ref m15, .int 0, .ref m17, .ref m18, .ref m19, .ref m20, .ref m21, .ref m22, .ref m23, .ref m24, .ref m25, .ref m26, .ref m27, .ref m28, .int 0, .ref m30, .int 0, .int (-1), .int 0, .int 0, .int 0, .ref m36, .ref m37, .ref m38, .ref m39, .long 0]))] sz (po_X9_sets g k0 m0 m7 m8 m9 m13 m14 m15 m17 m18 m19 m20 m21 m22 m23 m24 m25 m26 m27 m28 m30 m36 m37 m38 m39) 0 0 := by
  refine k_of (g := g) (wc := [(k0, .inr (9, [.ref m0, .int 0, .int 0, .int 0, .int 0, .int 0, .int 0, .ref m7, .ref m8, .ref m9, .int 0, .int 0, .int 0, .ref m13, .ref m14, .ref m15, .int 0, .ref m17, .ref m18, .ref m19, .ref m20, .ref m21, .ref m22, .ref m23, .ref m24, .ref m25, .ref m26, .ref m27, .ref m28, .int 0, .ref m30, .int 0, .int (-1), .int 0, .int 0, .int 0, .ref m36, .ref m37, .ref m38, .ref m39, .long 0]))]) (Qc := fun A => va_Qi (po_X9_sets g k0 m0 m7 m8 m9 m13 m14 m15 m17 m18 m19 m20 m21 m22 m23 m24 m25 m26 m27 m28 m30 m36 m37 m38 m39) (bk g A) A) (cc := cX9_sets) (maxL := 2) (ret := (some .int)) (by decide) rfl (Nat.le_of_ble_eq_true rfl) ?_ sz
  intro p e s m below meth c hx hb hr hts hown hlocks hnm hml A hA hE hZ hP hD hS ls hl
  have hown : s.vm.findClass RX9 = some m.cls := hown
  have hl : lv_has ls 2 [(0, .ref k0)] := hl
  refine lv_aload_n hx hb dX9_sets_0 rfl (lv_at hl 0 rfl) ?_
  refine k_ci (wr := []) hP hD hS hA [0] [] rfl rfl (by decide) (by decide) (va_runV (As := []) (rest := []) ⟨hx, hb, hml, hown, hts⟩ (c_X9_faultOf l g k0 m0 m7 m8 m9 m13 m14 m15 m17 m18 m19 m20 m21 m22 m23 m24 m25 m26 m27 m28 m30 m36 m37 m38 m39  H.size) (cwV 0 hts gX9_sets_X9_faultOf rfl rfl rfl (by decide +kernel) ⟨Nat.le_of_ble_eq_true rfl, Nat.le_of_ble_eq_true rfl⟩) (k_preV hE hZ hP hD hS hA [0] rfl (by decide) (va_recv hE.1 hP (ci := 9) (q0 := 0) rfl rfl)) rfl rfl hl.1 rfl (lv_room (Nat.le_of_ble_eq_true rfl)) dX9_sets_1 ⟨Nat.le_of_ble_eq_true rfl, Nat.le_of_ble_eq_true rfl⟩) (fun r_1 w1 H locs hw hP hD hS => ?_)
  obtain ⟨rfl, rfl⟩ := hw
  have hP : va_P g.1 vwCl [(k0, .inr (9, [.ref m0, .int 0, .int 0, .int (-1), .int 0, .int 0, .int 0, .ref m7, .ref m8, .ref m9, .int 0, .int 0, .int 0, .ref m13, .ref m14, .ref m15, .int 0, .ref m17, .ref m18, .ref m19, .ref m20, .ref m21, .ref m22, .ref m23, .ref m24, .ref m25, .ref m26, .ref m27, .ref m28, .int 0, .ref m30, .int 0, .int (-1), .int 0, .int 0, .int 0, .ref m36, .ref m37, .ref m38, .ref m39, .long 0]))] H := hP
  have hD : va_D A [(k0, .inr (9, [.ref m0, .int 0, .int 0, .int (-1), .int 0, .int 0, .int 0, .ref m7, .ref m8, .ref m9, .int 0, .int 0, .int 0, .ref m13, .ref m14, .ref m15, .int 0, .ref m17, .ref m18, .ref m19, .ref m20, .ref m21, .ref m22, .ref m23, .ref m24, .ref m25, .ref m26, .ref m27, .ref m28, .int 0, .ref m30, .int 0, .int (-1), .int 0, .int 0, .int 0, .ref m36, .ref m37, .ref m38, .ref m39, .long 0]))] := hD
  refine lv_aload_n hx hb dX9_sets_4 rfl (lv_at hl 0 rfl) ?_
  refine va_get (D := g.1) (ci := 9) (v := .int 0) (C := RX9) (T := TX9) (N := 41) hx hb hts q_X9_sets_f9 hown hE.1 hP 0 rfl rfl 1 (by decide) (hts (.fieldLink RX9 92 "SoundLawsModel" "pageMany" "I") q_X9_sets_1) (fun _ h9 => h9) rfl dX9_sets_5 ?_
  refine lv_icmp_lt (tgt := 33) hx hb dX9_sets_8 (by decide) (fun c8_3 => ?_) (fun c8_3 => ?_)
  · exact absurd c8_3 (by decide)
  · skip
    refine lv_aload_n hx hb dX9_sets_11 rfl (lv_at hl 0 rfl) ?_
    refine va_get (D := g.1) (ci := 9) (v := .int (-1)) (C := RX9) (T := TX9) (N := 41) hx hb hts q_X9_sets_f9 hown hE.1 hP 0 rfl rfl 3 (by decide) (hts (.fieldLink RX9 98 "SoundLawsModel" "readWords" "I") q_X9_sets_2) (fun _ h9 => h9) rfl dX9_sets_12 ?_
    refine lv_iconst (v := (-1)) hx hb dX9_sets_15 (by decide) ?_
    refine lv_icmp_eq (tgt := 33) hx hb dX9_sets_16 (by decide) (fun c16_4 => ?_) (fun c16_4 => ?_)
    · skip
      refine lv_bipush (v := (-103)) hx hb dX9_sets_33 (by decide) ?_
      refine W.widen (k := 0) (n := 0) (Nat.le_of_ble_eq_true rfl) (Nat.le_of_ble_eq_true rfl) ?_
      have hP9 := hP.sub (ws' := []) [] rfl
      have hD9 := hD.sub (ws' := []) [] (by decide) rfl
      exact k_ri hx hb hr hlocks hS hP9 hD9 ⟨rfl, rfl⟩ dX9_sets_35
    · exact absurd c16_4 (by decide)
def po_X9_set (g : GG) (k0 : Nat) (m0 : Nat) (m7 : Nat) (m8 : Nat) (m9 : Nat) (m13 : Nat) (m14 : Nat) (m15 : Nat) (m17 : Nat) (m18 : Nat) (m19 : Nat) (m20 : Nat) (m21 : Nat) (m22 : Nat) (m23 : Nat) (m24 : Nat) (m25 : Nat) (m26 : Nat) (m27 : Nat) (m28 : Nat) (m30 : Nat) (m36 : Nat) (m37 : Nat) (m38 : Nat) (m39 : Nat) (p1 : Int32) (p2 : Int32) : Int32 → va_W → Prop := fun (r : Int32) w => w = [] ∧ (r = (-101))
set_option maxHeartbeats 4000000 in
set_option maxRecDepth 100000 in
theorem c_X9_set (l : Launch) (g : GG) (k0 : Nat) (m0 : Nat) (m7 : Nat) (m8 : Nat) (m9 : Nat) (m13 : Nat) (m14 : Nat) (m15 : Nat) (m17 : Nat) (m18 : Nat) (m19 : Nat) (m20 : Nat) (m21 : Nat) (m22 : Nat) (m23 : Nat) (m24 : Nat) (m25 : Nat) (m26 : Nat) (m27 : Nat) (m28 : Nat) (m30 : Nat) (m36 : Nat) (m37 : Nat) (m38 : Nat) (m39 : Nat) (p1 : Int32) (p2 : Int32)  (sz : Nat) : MetI l yX9_set wsX9_set ({ frames := 2, cells := 0, slots := 0, locals := 46 }) g [.ref k0, .int p1, .int p2] [(k0, .inr (9, [.ref m0, .int 0, .int 0, .int 0, .int 0, .int 0, .int 0, .ref m7, .ref m8, .ref m9, .int 0, .int 0, .int 0, .ref m13, .ref m14, .ref m15, .int 0, .ref m17, .ref m18, .ref m19, .ref m20, .ref m21, .ref m22, .ref m23, .ref m24, .ref m25, .ref m26, .ref m27, .ref m28, .int 0, .ref m30, .int 0, .int (-1), .int 0, .int 0, .int 0, .ref m36, .ref m37, .ref m38, .ref m39, .long 0]))] sz (po_X9_set g k0 m0 m7 m8 m9 m13 m14 m15 m17 m18 m19 m20 m21 m22 m23 m24 m25 m26 m27 m28 m30 m36 m37 m38 m39 p1 p2) 0 0 := by
  refine k_of (g := g) (wc := [(k0, .inr (9, [.ref m0, .int 0, .int 0, .int 0, .int 0, .int 0, .int 0, .ref m7, .ref m8, .ref m9, .int 0, .int 0, .int 0, .ref m13, .ref m14, .ref m15, .int 0, .ref m17, .ref m18, .ref m19, .ref m20, .ref m21, .ref m22, .ref m23, .ref m24, .ref m25, .ref m26, .ref m27, .ref m28, .int 0, .ref m30, .int 0, .int (-1), .int 0, .int 0, .int 0, .ref m36, .ref m37, .ref m38, .ref m39, .long 0]))]) (Qc := fun A => va_Qi (po_X9_set g k0 m0 m7 m8 m9 m13 m14 m15 m17 m18 m19 m20 m21 m22 m23 m24 m25 m26 m27 m28 m30 m36 m37 m38 m39 p1 p2) (bk g A) A) (cc := cX9_set) (maxL := 3) (ret := (some .int)) (by decide) rfl (Nat.le_of_ble_eq_true rfl) ?_ sz
  intro p e s m below meth c hx hb hr hts hown hlocks hnm hml A hA hE hZ hP hD hS ls hl
  have hown : s.vm.findClass RX9 = some m.cls := hown
  have hl : lv_has ls 3 [(0, .ref k0), (1, .int p1), (2, .int p2)] := hl
  refine lv_aload_n hx hb dX9_set_0 rfl (lv_at hl 0 rfl) ?_
  refine lv_iload_n hx hb dX9_set_1 rfl (lv_at hl 1 rfl) ?_
  refine k_ci (wr := []) hP hD hS hA [0] [] rfl rfl (by decide) (by decide) (va_runV (As := [.int p1]) (rest := []) ⟨hx, hb, hml, hown, hts⟩ (c_X9_isSet l g k0 m0 m7 m8 m9 m13 m14 m15 m17 m18 m19 m20 m21 m22 m23 m24 m25 m26 m27 m28 m30 m36 m37 m38 m39 p1  H.size) (cwV 1 hts gX9_set_X9_isSet rfl rfl rfl (by decide +kernel) ⟨Nat.le_of_ble_eq_true rfl, Nat.le_of_ble_eq_true rfl⟩) (k_preV hE hZ hP hD hS hA [0] rfl (by decide) (va_recv hE.1 hP (ci := 9) (q0 := 0) rfl rfl)) rfl rfl hl.1 rfl (lv_room (Nat.le_of_ble_eq_true rfl)) dX9_set_2 ⟨Nat.le_of_ble_eq_true rfl, Nat.le_of_ble_eq_true rfl⟩) (fun r_1 w1 H locs hw hP hD hS => ?_)
  obtain ⟨rfl, rfl⟩ := hw
  have hP : va_P g.1 vwCl [(k0, .inr (9, [.ref m0, .int 0, .int 0, .int 0, .int 0, .int 0, .int 0, .ref m7, .ref m8, .ref m9, .int 0, .int 0, .int 0, .ref m13, .ref m14, .ref m15, .int 0, .ref m17, .ref m18, .ref m19, .ref m20, .ref m21, .ref m22, .ref m23, .ref m24, .ref m25, .ref m26, .ref m27, .ref m28, .int 0, .ref m30, .int 0, .int (-1), .int 0, .int 0, .int 0, .ref m36, .ref m37, .ref m38, .ref m39, .long 0]))] H := hP
  have hD : va_D A [(k0, .inr (9, [.ref m0, .int 0, .int 0, .int 0, .int 0, .int 0, .int 0, .ref m7, .ref m8, .ref m9, .int 0, .int 0, .int 0, .ref m13, .ref m14, .ref m15, .int 0, .ref m17, .ref m18, .ref m19, .ref m20, .ref m21, .ref m22, .ref m23, .ref m24, .ref m25, .ref m26, .ref m27, .ref m28, .int 0, .ref m30, .int 0, .int (-1), .int 0, .int 0, .int 0, .ref m36, .ref m37, .ref m38, .ref m39, .long 0]))] := hD
  refine lv_if_eq (tgt := 17) hx hb dX9_set_5 (by decide) (fun c5_3 => ?_) (fun c5_3 => ?_)
  · skip
    refine lv_bipush (v := (-101)) hx hb dX9_set_17 (by decide) ?_
    refine W.widen (k := 0) (n := 0) (Nat.le_of_ble_eq_true rfl) (Nat.le_of_ble_eq_true rfl) ?_
    have hP9 := hP.sub (ws' := []) [] rfl
    have hD9 := hD.sub (ws' := []) [] (by decide) rfl
    exact k_ri hx hb hr hlocks hS hP9 hD9 ⟨rfl, rfl⟩ dX9_set_19
  · exact absurd c5_3 (by decide)
def po_X9_as (g : GG) (k0 : Nat) (m0 : Nat) (m7 : Nat) (m8 : Nat) (m9 : Nat) (m13 : Nat) (m14 : Nat) (m15 : Nat) (m17 : Nat) (m18 : Nat) (m19 : Nat) (m20 : Nat) (m21 : Nat) (m22 : Nat) (m23 : Nat) (m24 : Nat) (m25 : Nat) (m26 : Nat) (m27 : Nat) (m28 : Nat) (m30 : Nat) (m36 : Nat) (m37 : Nat) (m38 : Nat) (m39 : Nat) (p1 : Int32) (p2 : Int32) : Int32 → va_W → Prop := fun (r : Int32) w => w = [] ∧ (r = (-101))
set_option maxHeartbeats 4000000 in
set_option maxRecDepth 100000 in
theorem c_X9_as (l : Launch) (g : GG) (k0 : Nat) (m0 : Nat) (m7 : Nat) (m8 : Nat) (m9 : Nat) (m13 : Nat) (m14 : Nat) (m15 : Nat) (m17 : Nat) (m18 : Nat) (m19 : Nat) (m20 : Nat) (m21 : Nat) (m22 : Nat) (m23 : Nat) (m24 : Nat) (m25 : Nat) (m26 : Nat) (m27 : Nat) (m28 : Nat) (m30 : Nat) (m36 : Nat) (m37 : Nat) (m38 : Nat) (m39 : Nat) (p1 : Int32) (p2 : Int32)  (sz : Nat) : MetI l yX9_as wsX9_as ({ frames := 2, cells := 0, slots := 0, locals := 46 }) g [.ref k0, .int p1, .int p2] [(k0, .inr (9, [.ref m0, .int 0, .int 0, .int 0, .int 0, .int 0, .int 0, .ref m7, .ref m8, .ref m9, .int 0, .int 0, .int 0, .ref m13, .ref m14, .ref m15, .int 0, .ref m17, .ref m18, .ref m19, .ref m20, .ref m21, .ref m22, .ref m23, .ref m24, .ref m25, .ref m26, .ref m27, .ref m28, .int 0, .ref m30, .int 0, .int (-1), .int 0, .int 0, .int 0, .ref m36, .ref m37, .ref m38, .ref m39, .long 0]))] sz (po_X9_as g k0 m0 m7 m8 m9 m13 m14 m15 m17 m18 m19 m20 m21 m22 m23 m24 m25 m26 m27 m28 m30 m36 m37 m38 m39 p1 p2) 0 0 := by
  refine k_of (g := g) (wc := [(k0, .inr (9, [.ref m0, .int 0, .int 0, .int 0, .int 0, .int 0, .int 0, .ref m7, .ref m8, .ref m9, .int 0, .int 0, .int 0, .ref m13, .ref m14, .ref m15, .int 0, .ref m17, .ref m18, .ref m19, .ref m20, .ref m21, .ref m22, .ref m23, .ref m24, .ref m25, .ref m26, .ref m27, .ref m28, .int 0, .ref m30, .int 0, .int (-1), .int 0, .int 0, .int 0, .ref m36, .ref m37, .ref m38, .ref m39, .long 0]))]) (Qc := fun A => va_Qi (po_X9_as g k0 m0 m7 m8 m9 m13 m14 m15 m17 m18 m19 m20 m21 m22 m23 m24 m25 m26 m27 m28 m30 m36 m37 m38 m39 p1 p2) (bk g A) A) (cc := cX9_as) (maxL := 4) (ret := (some .int)) (by decide) rfl (Nat.le_of_ble_eq_true rfl) ?_ sz
  intro p e s m below meth c hx hb hr hts hown hlocks hnm hml A hA hE hZ hP hD hS ls hl
  have hown : s.vm.findClass RX9 = some m.cls := hown
  have hl : lv_has ls 4 [(0, .ref k0), (1, .int p1), (2, .int p2)] := hl
  refine lv_aload_n hx hb dX9_as_0 rfl (lv_at hl 0 rfl) ?_
  refine lv_iload_n hx hb dX9_as_1 rfl (lv_at hl 1 rfl) ?_
  refine k_ci (wr := []) hP hD hS hA [0] [] rfl rfl (by decide) (by decide) (va_runV (As := [.int p1]) (rest := []) ⟨hx, hb, hml, hown, hts⟩ (c_X9_isSet l g k0 m0 m7 m8 m9 m13 m14 m15 m17 m18 m19 m20 m21 m22 m23 m24 m25 m26 m27 m28 m30 m36 m37 m38 m39 p1  H.size) (cwV 1 hts gX9_as_X9_isSet rfl rfl rfl (by decide +kernel) ⟨Nat.le_of_ble_eq_true rfl, Nat.le_of_ble_eq_true rfl⟩) (k_preV hE hZ hP hD hS hA [0] rfl (by decide) (va_recv hE.1 hP (ci := 9) (q0 := 0) rfl rfl)) rfl rfl hl.1 rfl (lv_room (Nat.le_of_ble_eq_true rfl)) dX9_as_2 ⟨Nat.le_of_ble_eq_true rfl, Nat.le_of_ble_eq_true rfl⟩) (fun r_1 w1 H locs hw hP hD hS => ?_)
  obtain ⟨rfl, rfl⟩ := hw
  have hP : va_P g.1 vwCl [(k0, .inr (9, [.ref m0, .int 0, .int 0, .int 0, .int 0, .int 0, .int 0, .ref m7, .ref m8, .ref m9, .int 0, .int 0, .int 0, .ref m13, .ref m14, .ref m15, .int 0, .ref m17, .ref m18, .ref m19, .ref m20, .ref m21, .ref m22, .ref m23, .ref m24, .ref m25, .ref m26, .ref m27, .ref m28, .int 0, .ref m30, .int 0, .int (-1), .int 0, .int 0, .int 0, .ref m36, .ref m37, .ref m38, .ref m39, .long 0]))] H := hP
  have hD : va_D A [(k0, .inr (9, [.ref m0, .int 0, .int 0, .int 0, .int 0, .int 0, .int 0, .ref m7, .ref m8, .ref m9, .int 0, .int 0, .int 0, .ref m13, .ref m14, .ref m15, .int 0, .ref m17, .ref m18, .ref m19, .ref m20, .ref m21, .ref m22, .ref m23, .ref m24, .ref m25, .ref m26, .ref m27, .ref m28, .int 0, .ref m30, .int 0, .int (-1), .int 0, .int 0, .int 0, .ref m36, .ref m37, .ref m38, .ref m39, .long 0]))] := hD
  refine lv_if_ne (tgt := 11) hx hb dX9_as_5 (by decide) (fun c5_3 => ?_) (fun c5_3 => ?_)
  · exact absurd c5_3 (by decide)
  · skip
    refine lv_bipush (v := (-101)) hx hb dX9_as_8 (by decide) ?_
    refine W.widen (k := 0) (n := 0) (Nat.le_of_ble_eq_true rfl) (Nat.le_of_ble_eq_true rfl) ?_
    have hP9 := hP.sub (ws' := []) [] rfl
    have hD9 := hD.sub (ws' := []) [] (by decide) rfl
    exact k_ri hx hb hr hlocks hS hP9 hD9 ⟨rfl, rfl⟩ dX9_as_10
def po_X9_sound (g : GG) (k0 : Nat) (m0 : Nat) (m7 : Nat) (m8 : Nat) (m9 : Nat) (m13 : Nat) (m14 : Nat) (m15 : Nat) (m17 : Nat) (m18 : Nat) (m19 : Nat) (m20 : Nat) (m21 : Nat) (m22 : Nat) (m23 : Nat) (m24 : Nat) (m25 : Nat) (m26 : Nat) (m27 : Nat) (m28 : Nat) (m30 : Nat) (m36 : Nat) (m37 : Nat) (m38 : Nat) (m39 : Nat) (p1 : Int32) (p2 : Int32) (p3 : Int32) : Int32 → va_W → Prop := fun (r : Int32) w => w = [] ∧ (r = (-101))
set_option maxHeartbeats 4000000 in
set_option maxRecDepth 100000 in
theorem c_X9_sound (l : Launch) (g : GG) (k0 : Nat) (m0 : Nat) (m7 : Nat) (m8 : Nat) (m9 : Nat) (m13 : Nat) (m14 : Nat) (m15 : Nat) (m17 : Nat) (m18 : Nat) (m19 : Nat) (m20 : Nat) (m21 : Nat) (m22 : Nat) (m23 : Nat) (m24 : Nat) (m25 : Nat) (m26 : Nat) (m27 : Nat) (m28 : Nat) (m30 : Nat) (m36 : Nat) (m37 : Nat) (m38 : Nat) (m39 : Nat) (p1 : Int32) (p2 : Int32) (p3 : Int32)  (sz : Nat) : MetI l yX9_sound wsX9_sound ({ frames := 3, cells := 0, slots := 0, locals := 68 }) g [.ref k0, .int p1, .int p2, .int p3] [(k0, .inr (9, [.ref m0, .int 0, .int 0, .int 0, .int 0, .int 0, .int 0, .ref m7, .ref m8, .ref m9, .int 0, .int 0, .int 0, .ref m13, .ref m14, .ref m15, .int 0, .ref m17, .ref m18, .ref m19, .ref m20, .ref m21, .ref m22, .ref m23, .ref m24, .ref m25, .ref m26, .ref m27, .ref m28, .int 0, .ref m30, .int 0, .int (-1), .int 0, .int 0, .int 0, .ref m36, .ref m37, .ref m38, .ref m39, .long 0]))] sz (po_X9_sound g k0 m0 m7 m8 m9 m13 m14 m15 m17 m18 m19 m20 m21 m22 m23 m24 m25 m26 m27 m28 m30 m36 m37 m38 m39 p1 p2 p3) 0 0 := by
  refine k_of (g := g) (wc := [(k0, .inr (9, [.ref m0, .int 0, .int 0, .int 0, .int 0, .int 0, .int 0, .ref m7, .ref m8, .ref m9, .int 0, .int 0, .int 0, .ref m13, .ref m14, .ref m15, .int 0, .ref m17, .ref m18, .ref m19, .ref m20, .ref m21, .ref m22, .ref m23, .ref m24, .ref m25, .ref m26, .ref m27, .ref m28, .int 0, .ref m30, .int 0, .int (-1), .int 0, .int 0, .int 0, .ref m36, .ref m37, .ref m38, .ref m39, .long 0]))]) (Qc := fun A => va_Qi (po_X9_sound g k0 m0 m7 m8 m9 m13 m14 m15 m17 m18 m19 m20 m21 m22 m23 m24 m25 m26 m27 m28 m30 m36 m37 m38 m39 p1 p2 p3) (bk g A) A) (cc := cX9_sound) (maxL := 4) (ret := (some .int)) (by decide) rfl (Nat.le_of_ble_eq_true rfl) ?_ sz
  intro p e s m below meth c hx hb hr hts hown hlocks hnm hml A hA hE hZ hP hD hS ls hl
  have hown : s.vm.findClass RX9 = some m.cls := hown
  have hl : lv_has ls 4 [(0, .ref k0), (1, .int p1), (2, .int p2), (3, .int p3)] := hl
  refine lv_aload_n hx hb dX9_sound_0 rfl (lv_at hl 0 rfl) ?_
  refine lv_iload_n hx hb dX9_sound_1 rfl (lv_at hl 1 rfl) ?_
  refine lv_iload_n hx hb dX9_sound_2 rfl (lv_at hl 3 rfl) ?_
  refine k_ci (wr := []) hP hD hS hA [0] [] rfl rfl (by decide) (by decide) (va_runV (As := [.int p1, .int p3]) (rest := []) ⟨hx, hb, hml, hown, hts⟩ (c_X9_isPlace l g k0 m0 m7 m8 m9 m13 m14 m15 m17 m18 m19 m20 m21 m22 m23 m24 m25 m26 m27 m28 m30 m36 m37 m38 m39 p1 p3  H.size) (cwV 2 hts gX9_sound_X9_isPlace rfl rfl rfl (by decide +kernel) ⟨Nat.le_of_ble_eq_true rfl, Nat.le_of_ble_eq_true rfl⟩) (k_preV hE hZ hP hD hS hA [0] rfl (by decide) (va_recv hE.1 hP (ci := 9) (q0 := 0) rfl rfl)) rfl rfl hl.1 rfl (lv_room (Nat.le_of_ble_eq_true rfl)) dX9_sound_3 ⟨Nat.le_of_ble_eq_true rfl, Nat.le_of_ble_eq_true rfl⟩) (fun r_1 w1 H locs hw hP hD hS => ?_)
  obtain ⟨rfl, rfl⟩ := hw
  have hP : va_P g.1 vwCl [(k0, .inr (9, [.ref m0, .int 0, .int 0, .int 0, .int 0, .int 0, .int 0, .ref m7, .ref m8, .ref m9, .int 0, .int 0, .int 0, .ref m13, .ref m14, .ref m15, .int 0, .ref m17, .ref m18, .ref m19, .ref m20, .ref m21, .ref m22, .ref m23, .ref m24, .ref m25, .ref m26, .ref m27, .ref m28, .int 0, .ref m30, .int 0, .int (-1), .int 0, .int 0, .int 0, .ref m36, .ref m37, .ref m38, .ref m39, .long 0]))] H := hP
  have hD : va_D A [(k0, .inr (9, [.ref m0, .int 0, .int 0, .int 0, .int 0, .int 0, .int 0, .ref m7, .ref m8, .ref m9, .int 0, .int 0, .int 0, .ref m13, .ref m14, .ref m15, .int 0, .ref m17, .ref m18, .ref m19, .ref m20, .ref m21, .ref m22, .ref m23, .ref m24, .ref m25, .ref m26, .ref m27, .ref m28, .int 0, .ref m30, .int 0, .int (-1), .int 0, .int 0, .int 0, .ref m36, .ref m37, .ref m38, .ref m39, .long 0]))] := hD
  refine lv_if_eq (tgt := 29) hx hb dX9_sound_6 (by decide) (fun c6_3 => ?_) (fun c6_3 => ?_)
  · skip
    refine lv_bipush (v := (-101)) hx hb dX9_sound_29 (by decide) ?_
    refine W.widen (k := 0) (n := 0) (Nat.le_of_ble_eq_true rfl) (Nat.le_of_ble_eq_true rfl) ?_
    have hP9 := hP.sub (ws' := []) [] rfl
    have hD9 := hD.sub (ws' := []) [] (by decide) rfl
    exact k_ri hx hb hr hlocks hS hP9 hD9 ⟨rfl, rfl⟩ dX9_sound_31
  · exact absurd c6_3 (by decide)
def po_X9_strange (g : GG) (k0 : Nat) (m0 : Nat) (m7 : Nat) (m8 : Nat) (m9 : Nat) (m13 : Nat) (m14 : Nat) (m15 : Nat) (m17 : Nat) (m18 : Nat) (m19 : Nat) (m20 : Nat) (m21 : Nat) (m22 : Nat) (m23 : Nat) (m24 : Nat) (m25 : Nat) (m26 : Nat) (m27 : Nat) (m28 : Nat) (m30 : Nat) (m36 : Nat) (m37 : Nat) (m38 : Nat) (m39 : Nat) (p1 : Int32) (p2 : Int32) : Int32 → va_W → Prop := fun (r : Int32) w => w = [] ∧ (r = (-101))
set_option maxHeartbeats 4000000 in
set_option maxRecDepth 100000 in
theorem c_X9_strange (l : Launch) (g : GG) (k0 : Nat) (m0 : Nat) (m7 : Nat) (m8 : Nat) (m9 : Nat) (m13 : Nat) (m14 : Nat) (m15 : Nat) (m17 : Nat) (m18 : Nat) (m19 : Nat) (m20 : Nat) (m21 : Nat) (m22 : Nat) (m23 : Nat) (m24 : Nat) (m25 : Nat) (m26 : Nat) (m27 : Nat) (m28 : Nat) (m30 : Nat) (m36 : Nat) (m37 : Nat) (m38 : Nat) (m39 : Nat) (p1 : Int32) (p2 : Int32)  (sz : Nat) : MetI l yX9_strange wsX9_strange ({ frames := 2, cells := 0, slots := 0, locals := 46 }) g [.ref k0, .int p1, .int p2] [(k0, .inr (9, [.ref m0, .int 0, .int 0, .int 0, .int 0, .int 0, .int 0, .ref m7, .ref m8, .ref m9, .int 0, .int 0, .int 0, .ref m13, .ref m14, .ref m15, .int 0, .ref m17, .ref m18, .ref m19, .ref m20, .ref m21, .ref m22, .ref m23, .ref m24, .ref m25, .ref m26, .ref m27, .ref m28, .int 0, .ref m30, .int 0, .int (-1), .int 0, .int 0, .int 0, .ref m36, .ref m37, .ref m38, .ref m39, .long 0]))] sz (po_X9_strange g k0 m0 m7 m8 m9 m13 m14 m15 m17 m18 m19 m20 m21 m22 m23 m24 m25 m26 m27 m28 m30 m36 m37 m38 m39 p1 p2) 0 0 := by
  refine k_of (g := g) (wc := [(k0, .inr (9, [.ref m0, .int 0, .int 0, .int 0, .int 0, .int 0, .int 0, .ref m7, .ref m8, .ref m9, .int 0, .int 0, .int 0, .ref m13, .ref m14, .ref m15, .int 0, .ref m17, .ref m18, .ref m19, .ref m20, .ref m21, .ref m22, .ref m23, .ref m24, .ref m25, .ref m26, .ref m27, .ref m28, .int 0, .ref m30, .int 0, .int (-1), .int 0, .int 0, .int 0, .ref m36, .ref m37, .ref m38, .ref m39, .long 0]))]) (Qc := fun A => va_Qi (po_X9_strange g k0 m0 m7 m8 m9 m13 m14 m15 m17 m18 m19 m20 m21 m22 m23 m24 m25 m26 m27 m28 m30 m36 m37 m38 m39 p1 p2) (bk g A) A) (cc := cX9_strange) (maxL := 3) (ret := (some .int)) (by decide) rfl (Nat.le_of_ble_eq_true rfl) ?_ sz
  intro p e s m below meth c hx hb hr hts hown hlocks hnm hml A hA hE hZ hP hD hS ls hl
  have hown : s.vm.findClass RX9 = some m.cls := hown
  have hl : lv_has ls 3 [(0, .ref k0), (1, .int p1), (2, .int p2)] := hl
  refine lv_aload_n hx hb dX9_strange_0 rfl (lv_at hl 0 rfl) ?_
  refine lv_iload_n hx hb dX9_strange_1 rfl (lv_at hl 1 rfl) ?_
  refine k_ci (wr := []) hP hD hS hA [0] [] rfl rfl (by decide) (by decide) (va_runV (As := [.int p1]) (rest := []) ⟨hx, hb, hml, hown, hts⟩ (c_X9_isSet l g k0 m0 m7 m8 m9 m13 m14 m15 m17 m18 m19 m20 m21 m22 m23 m24 m25 m26 m27 m28 m30 m36 m37 m38 m39 p1  H.size) (cwV 1 hts gX9_strange_X9_isSet rfl rfl rfl (by decide +kernel) ⟨Nat.le_of_ble_eq_true rfl, Nat.le_of_ble_eq_true rfl⟩) (k_preV hE hZ hP hD hS hA [0] rfl (by decide) (va_recv hE.1 hP (ci := 9) (q0 := 0) rfl rfl)) rfl rfl hl.1 rfl (lv_room (Nat.le_of_ble_eq_true rfl)) dX9_strange_2 ⟨Nat.le_of_ble_eq_true rfl, Nat.le_of_ble_eq_true rfl⟩) (fun r_1 w1 H locs hw hP hD hS => ?_)
  obtain ⟨rfl, rfl⟩ := hw
  have hP : va_P g.1 vwCl [(k0, .inr (9, [.ref m0, .int 0, .int 0, .int 0, .int 0, .int 0, .int 0, .ref m7, .ref m8, .ref m9, .int 0, .int 0, .int 0, .ref m13, .ref m14, .ref m15, .int 0, .ref m17, .ref m18, .ref m19, .ref m20, .ref m21, .ref m22, .ref m23, .ref m24, .ref m25, .ref m26, .ref m27, .ref m28, .int 0, .ref m30, .int 0, .int (-1), .int 0, .int 0, .int 0, .ref m36, .ref m37, .ref m38, .ref m39, .long 0]))] H := hP
  have hD : va_D A [(k0, .inr (9, [.ref m0, .int 0, .int 0, .int 0, .int 0, .int 0, .int 0, .ref m7, .ref m8, .ref m9, .int 0, .int 0, .int 0, .ref m13, .ref m14, .ref m15, .int 0, .ref m17, .ref m18, .ref m19, .ref m20, .ref m21, .ref m22, .ref m23, .ref m24, .ref m25, .ref m26, .ref m27, .ref m28, .int 0, .ref m30, .int 0, .int (-1), .int 0, .int 0, .int 0, .ref m36, .ref m37, .ref m38, .ref m39, .long 0]))] := hD
  refine lv_if_eq (tgt := 16) hx hb dX9_strange_5 (by decide) (fun c5_3 => ?_) (fun c5_3 => ?_)
  · skip
    refine lv_bipush (v := (-101)) hx hb dX9_strange_16 (by decide) ?_
    refine W.widen (k := 0) (n := 0) (Nat.le_of_ble_eq_true rfl) (Nat.le_of_ble_eq_true rfl) ?_
    have hP9 := hP.sub (ws' := []) [] rfl
    have hD9 := hD.sub (ws' := []) [] (by decide) rfl
    exact k_ri hx hb hr hlocks hS hP9 hD9 ⟨rfl, rfl⟩ dX9_strange_18
  · exact absurd c5_3 (by decide)
def po_X9_say (g : GG) (k0 : Nat) (m0 : Nat) (m7 : Nat) (m8 : Nat) (m9 : Nat) (m13 : Nat) (m14 : Nat) (m15 : Nat) (m17 : Nat) (m18 : Nat) (m19 : Nat) (m20 : Nat) (m21 : Nat) (m22 : Nat) (m23 : Nat) (m24 : Nat) (m25 : Nat) (m26 : Nat) (m27 : Nat) (m28 : Nat) (m30 : Nat) (m36 : Nat) (m37 : Nat) (m38 : Nat) (m39 : Nat) (p1 : Int32) (p2 : Int32) (p3 : Int32) : Int32 → va_W → Prop := fun (r : Int32) w => w = [] ∧ (r = (-101))
set_option maxHeartbeats 4000000 in
set_option maxRecDepth 100000 in
theorem c_X9_say (l : Launch) (g : GG) (k0 : Nat) (m0 : Nat) (m7 : Nat) (m8 : Nat) (m9 : Nat) (m13 : Nat) (m14 : Nat) (m15 : Nat) (m17 : Nat) (m18 : Nat) (m19 : Nat) (m20 : Nat) (m21 : Nat) (m22 : Nat) (m23 : Nat) (m24 : Nat) (m25 : Nat) (m26 : Nat) (m27 : Nat) (m28 : Nat) (m30 : Nat) (m36 : Nat) (m37 : Nat) (m38 : Nat) (m39 : Nat) (p1 : Int32) (p2 : Int32) (p3 : Int32)  (sz : Nat) : MetI l yX9_say wsX9_say ({ frames := 3, cells := 0, slots := 0, locals := 68 }) g [.ref k0, .int p1, .int p2, .int p3] [(k0, .inr (9, [.ref m0, .int 0, .int 0, .int 0, .int 0, .int 0, .int 0, .ref m7, .ref m8, .ref m9, .int 0, .int 0, .int 0, .ref m13, .ref m14, .ref m15, .int 0, .ref m17, .ref m18, .ref m19, .ref m20, .ref m21, .ref m22, .ref m23, .ref m24, .ref m25, .ref m26, .ref m27, .ref m28, .int 0, .ref m30, .int 0, .int (-1), .int 0, .int 0, .int 0, .ref m36, .ref m37, .ref m38, .ref m39, .long 0]))] sz (po_X9_say g k0 m0 m7 m8 m9 m13 m14 m15 m17 m18 m19 m20 m21 m22 m23 m24 m25 m26 m27 m28 m30 m36 m37 m38 m39 p1 p2 p3) 0 0 := by
  refine k_of (g := g) (wc := [(k0, .inr (9, [.ref m0, .int 0, .int 0, .int 0, .int 0, .int 0, .int 0, .ref m7, .ref m8, .ref m9, .int 0, .int 0, .int 0, .ref m13, .ref m14, .ref m15, .int 0, .ref m17, .ref m18, .ref m19, .ref m20, .ref m21, .ref m22, .ref m23, .ref m24, .ref m25, .ref m26, .ref m27, .ref m28, .int 0, .ref m30, .int 0, .int (-1), .int 0, .int 0, .int 0, .ref m36, .ref m37, .ref m38, .ref m39, .long 0]))]) (Qc := fun A => va_Qi (po_X9_say g k0 m0 m7 m8 m9 m13 m14 m15 m17 m18 m19 m20 m21 m22 m23 m24 m25 m26 m27 m28 m30 m36 m37 m38 m39 p1 p2 p3) (bk g A) A) (cc := cX9_say) (maxL := 5) (ret := (some .int)) (by decide) rfl (Nat.le_of_ble_eq_true rfl) ?_ sz
  intro p e s m below meth c hx hb hr hts hown hlocks hnm hml A hA hE hZ hP hD hS ls hl
  have hown : s.vm.findClass RX9 = some m.cls := hown
  have hl : lv_has ls 5 [(0, .ref k0), (1, .int p1), (2, .int p2), (3, .int p3)] := hl
  refine lv_aload_n hx hb dX9_say_0 rfl (lv_at hl 0 rfl) ?_
  refine lv_iload_n hx hb dX9_say_1 rfl (lv_at hl 1 rfl) ?_
  refine lv_iload_n hx hb dX9_say_2 rfl (lv_at hl 3 rfl) ?_
  refine k_ci (wr := []) hP hD hS hA [0] [] rfl rfl (by decide) (by decide) (va_runV (As := [.int p1, .int p3]) (rest := []) ⟨hx, hb, hml, hown, hts⟩ (c_X9_isPlace l g k0 m0 m7 m8 m9 m13 m14 m15 m17 m18 m19 m20 m21 m22 m23 m24 m25 m26 m27 m28 m30 m36 m37 m38 m39 p1 p3  H.size) (cwV 2 hts gX9_say_X9_isPlace rfl rfl rfl (by decide +kernel) ⟨Nat.le_of_ble_eq_true rfl, Nat.le_of_ble_eq_true rfl⟩) (k_preV hE hZ hP hD hS hA [0] rfl (by decide) (va_recv hE.1 hP (ci := 9) (q0 := 0) rfl rfl)) rfl rfl hl.1 rfl (lv_room (Nat.le_of_ble_eq_true rfl)) dX9_say_3 ⟨Nat.le_of_ble_eq_true rfl, Nat.le_of_ble_eq_true rfl⟩) (fun r_1 w1 H locs hw hP hD hS => ?_)
  obtain ⟨rfl, rfl⟩ := hw
  have hP : va_P g.1 vwCl [(k0, .inr (9, [.ref m0, .int 0, .int 0, .int 0, .int 0, .int 0, .int 0, .ref m7, .ref m8, .ref m9, .int 0, .int 0, .int 0, .ref m13, .ref m14, .ref m15, .int 0, .ref m17, .ref m18, .ref m19, .ref m20, .ref m21, .ref m22, .ref m23, .ref m24, .ref m25, .ref m26, .ref m27, .ref m28, .int 0, .ref m30, .int 0, .int (-1), .int 0, .int 0, .int 0, .ref m36, .ref m37, .ref m38, .ref m39, .long 0]))] H := hP
  have hD : va_D A [(k0, .inr (9, [.ref m0, .int 0, .int 0, .int 0, .int 0, .int 0, .int 0, .ref m7, .ref m8, .ref m9, .int 0, .int 0, .int 0, .ref m13, .ref m14, .ref m15, .int 0, .ref m17, .ref m18, .ref m19, .ref m20, .ref m21, .ref m22, .ref m23, .ref m24, .ref m25, .ref m26, .ref m27, .ref m28, .int 0, .ref m30, .int 0, .int (-1), .int 0, .int 0, .int 0, .ref m36, .ref m37, .ref m38, .ref m39, .long 0]))] := hD
  refine lv_if_eq (tgt := 17) hx hb dX9_say_6 (by decide) (fun c6_3 => ?_) (fun c6_3 => ?_)
  · skip
    refine lv_bipush (v := (-101)) hx hb dX9_say_17 (by decide) ?_
    refine W.widen (k := 0) (n := 0) (Nat.le_of_ble_eq_true rfl) (Nat.le_of_ble_eq_true rfl) ?_
    have hP9 := hP.sub (ws' := []) [] rfl
    have hD9 := hD.sub (ws' := []) [] (by decide) rfl
    exact k_ri hx hb hr hlocks hS hP9 hD9 ⟨rfl, rfl⟩ dX9_say_19
  · exact absurd c6_3 (by decide)
def po_X9_line (g : GG) (k0 : Nat) (m0 : Nat) (m7 : Nat) (m8 : Nat) (m9 : Nat) (m13 : Nat) (m14 : Nat) (m15 : Nat) (m17 : Nat) (m18 : Nat) (m19 : Nat) (m20 : Nat) (m21 : Nat) (m22 : Nat) (m23 : Nat) (m24 : Nat) (m25 : Nat) (m26 : Nat) (m27 : Nat) (m28 : Nat) (m30 : Nat) (m36 : Nat) (m37 : Nat) (m38 : Nat) (m39 : Nat) (p1 : Int32) (p2 : Int32) (p3 : Int32) (p4 : Int32) : Int32 → va_W → Prop := fun (r : Int32) w => w = [] ∧ (r = (-101))
set_option maxHeartbeats 4000000 in
set_option maxRecDepth 100000 in
theorem c_X9_line (l : Launch) (g : GG) (k0 : Nat) (m0 : Nat) (m7 : Nat) (m8 : Nat) (m9 : Nat) (m13 : Nat) (m14 : Nat) (m15 : Nat) (m17 : Nat) (m18 : Nat) (m19 : Nat) (m20 : Nat) (m21 : Nat) (m22 : Nat) (m23 : Nat) (m24 : Nat) (m25 : Nat) (m26 : Nat) (m27 : Nat) (m28 : Nat) (m30 : Nat) (m36 : Nat) (m37 : Nat) (m38 : Nat) (m39 : Nat) (p1 : Int32) (p2 : Int32) (p3 : Int32) (p4 : Int32)  (sz : Nat) : MetI l yX9_line wsX9_line ({ frames := 2, cells := 0, slots := 0, locals := 46 }) g [.ref k0, .int p1, .int p2, .int p3, .int p4] [(k0, .inr (9, [.ref m0, .int 0, .int 0, .int 0, .int 0, .int 0, .int 0, .ref m7, .ref m8, .ref m9, .int 0, .int 0, .int 0, .ref m13, .ref m14, .ref m15, .int 0, .ref m17, .ref m18, .ref m19, .ref m20, .ref m21, .ref m22, .ref m23, .ref m24, .ref m25, .ref m26, .ref m27, .ref m28, .int 0, .ref m30, .int 0, .int (-1), .int 0, .int 0, .int 0, .ref m36, .ref m37, .ref m38, .ref m39, .long 0]))] sz (po_X9_line g k0 m0 m7 m8 m9 m13 m14 m15 m17 m18 m19 m20 m21 m22 m23 m24 m25 m26 m27 m28 m30 m36 m37 m38 m39 p1 p2 p3 p4) 0 0 := by
  refine k_of (g := g) (wc := [(k0, .inr (9, [.ref m0, .int 0, .int 0, .int 0, .int 0, .int 0, .int 0, .ref m7, .ref m8, .ref m9, .int 0, .int 0, .int 0, .ref m13, .ref m14, .ref m15, .int 0, .ref m17, .ref m18, .ref m19, .ref m20, .ref m21, .ref m22, .ref m23, .ref m24, .ref m25, .ref m26, .ref m27, .ref m28, .int 0, .ref m30, .int 0, .int (-1), .int 0, .int 0, .int 0, .ref m36, .ref m37, .ref m38, .ref m39, .long 0]))]) (Qc := fun A => va_Qi (po_X9_line g k0 m0 m7 m8 m9 m13 m14 m15 m17 m18 m19 m20 m21 m22 m23 m24 m25 m26 m27 m28 m30 m36 m37 m38 m39 p1 p2 p3 p4) (bk g A) A) (cc := cX9_line) (maxL := 13) (ret := (some .int)) (by decide) rfl (Nat.le_of_ble_eq_true rfl) ?_ sz
  intro p e s m below meth c hx hb hr hts hown hlocks hnm hml A hA hE hZ hP hD hS ls hl
  have hown : s.vm.findClass RX9 = some m.cls := hown
  have hl : lv_has ls 13 [(0, .ref k0), (1, .int p1), (2, .int p2), (3, .int p3), (4, .int p4)] := hl
  refine lv_aload_n hx hb dX9_line_0 rfl (lv_at hl 0 rfl) ?_
  refine lv_iload_n hx hb dX9_line_1 rfl (lv_at hl 1 rfl) ?_
  refine k_ci (wr := []) hP hD hS hA [0] [] rfl rfl (by decide) (by decide) (va_runV (As := [.int p1]) (rest := []) ⟨hx, hb, hml, hown, hts⟩ (c_X9_isSet l g k0 m0 m7 m8 m9 m13 m14 m15 m17 m18 m19 m20 m21 m22 m23 m24 m25 m26 m27 m28 m30 m36 m37 m38 m39 p1  H.size) (cwV 1 hts gX9_line_X9_isSet rfl rfl rfl (by decide +kernel) ⟨Nat.le_of_ble_eq_true rfl, Nat.le_of_ble_eq_true rfl⟩) (k_preV hE hZ hP hD hS hA [0] rfl (by decide) (va_recv hE.1 hP (ci := 9) (q0 := 0) rfl rfl)) rfl rfl hl.1 rfl (lv_room (Nat.le_of_ble_eq_true rfl)) dX9_line_2 ⟨Nat.le_of_ble_eq_true rfl, Nat.le_of_ble_eq_true rfl⟩) (fun r_1 w1 H locs hw hP hD hS => ?_)
  obtain ⟨rfl, rfl⟩ := hw
  have hP : va_P g.1 vwCl [(k0, .inr (9, [.ref m0, .int 0, .int 0, .int 0, .int 0, .int 0, .int 0, .ref m7, .ref m8, .ref m9, .int 0, .int 0, .int 0, .ref m13, .ref m14, .ref m15, .int 0, .ref m17, .ref m18, .ref m19, .ref m20, .ref m21, .ref m22, .ref m23, .ref m24, .ref m25, .ref m26, .ref m27, .ref m28, .int 0, .ref m30, .int 0, .int (-1), .int 0, .int 0, .int 0, .ref m36, .ref m37, .ref m38, .ref m39, .long 0]))] H := hP
  have hD : va_D A [(k0, .inr (9, [.ref m0, .int 0, .int 0, .int 0, .int 0, .int 0, .int 0, .ref m7, .ref m8, .ref m9, .int 0, .int 0, .int 0, .ref m13, .ref m14, .ref m15, .int 0, .ref m17, .ref m18, .ref m19, .ref m20, .ref m21, .ref m22, .ref m23, .ref m24, .ref m25, .ref m26, .ref m27, .ref m28, .int 0, .ref m30, .int 0, .int (-1), .int 0, .int 0, .int 0, .ref m36, .ref m37, .ref m38, .ref m39, .long 0]))] := hD
  refine lv_if_eq (tgt := 33) hx hb dX9_line_5 (by decide) (fun c5_3 => ?_) (fun c5_3 => ?_)
  · skip
    refine lv_bipush (v := (-101)) hx hb dX9_line_33 (by decide) ?_
    refine W.widen (k := 0) (n := 0) (Nat.le_of_ble_eq_true rfl) (Nat.le_of_ble_eq_true rfl) ?_
    have hP9 := hP.sub (ws' := []) [] rfl
    have hD9 := hD.sub (ws' := []) [] (by decide) rfl
    exact k_ri hx hb hr hlocks hS hP9 hD9 ⟨rfl, rfl⟩ dX9_line_35
  · exact absurd c5_3 (by decide)
def po_X9_put (g : GG) (k0 : Nat) (m0 : Nat) (m7 : Nat) (m8 : Nat) (m9 : Nat) (m13 : Nat) (m14 : Nat) (m15 : Nat) (m17 : Nat) (m18 : Nat) (m19 : Nat) (m20 : Nat) (m21 : Nat) (m22 : Nat) (m23 : Nat) (m24 : Nat) (m25 : Nat) (m26 : Nat) (m27 : Nat) (m28 : Nat) (m30 : Nat) (m36 : Nat) (m37 : Nat) (m38 : Nat) (m39 : Nat) (p1 : Int32) (p2 : Int32) (p3 : Int32) (p4 : Int32) : Int32 → va_W → Prop := fun (r : Int32) w => w = [] ∧ (r = (-101))
set_option maxHeartbeats 4000000 in
set_option maxRecDepth 100000 in
theorem c_X9_put (l : Launch) (g : GG) (k0 : Nat) (m0 : Nat) (m7 : Nat) (m8 : Nat) (m9 : Nat) (m13 : Nat) (m14 : Nat) (m15 : Nat) (m17 : Nat) (m18 : Nat) (m19 : Nat) (m20 : Nat) (m21 : Nat) (m22 : Nat) (m23 : Nat) (m24 : Nat) (m25 : Nat) (m26 : Nat) (m27 : Nat) (m28 : Nat) (m30 : Nat) (m36 : Nat) (m37 : Nat) (m38 : Nat) (m39 : Nat) (p1 : Int32) (p2 : Int32) (p3 : Int32) (p4 : Int32)  (sz : Nat) : MetI l yX9_put wsX9_put ({ frames := 3, cells := 0, slots := 0, locals := 68 }) g [.ref k0, .int p1, .int p2, .int p3, .int p4] [(k0, .inr (9, [.ref m0, .int 0, .int 0, .int 0, .int 0, .int 0, .int 0, .ref m7, .ref m8, .ref m9, .int 0, .int 0, .int 0, .ref m13, .ref m14, .ref m15, .int 0, .ref m17, .ref m18, .ref m19, .ref m20, .ref m21, .ref m22, .ref m23, .ref m24, .ref m25, .ref m26, .ref m27, .ref m28, .int 0, .ref m30, .int 0, .int (-1), .int 0, .int 0, .int 0, .ref m36, .ref m37, .ref m38, .ref m39, .long 0]))] sz (po_X9_put g k0 m0 m7 m8 m9 m13 m14 m15 m17 m18 m19 m20 m21 m22 m23 m24 m25 m26 m27 m28 m30 m36 m37 m38 m39 p1 p2 p3 p4) 0 0 := by
  refine k_of (g := g) (wc := [(k0, .inr (9, [.ref m0, .int 0, .int 0, .int 0, .int 0, .int 0, .int 0, .ref m7, .ref m8, .ref m9, .int 0, .int 0, .int 0, .ref m13, .ref m14, .ref m15, .int 0, .ref m17, .ref m18, .ref m19, .ref m20, .ref m21, .ref m22, .ref m23, .ref m24, .ref m25, .ref m26, .ref m27, .ref m28, .int 0, .ref m30, .int 0, .int (-1), .int 0, .int 0, .int 0, .ref m36, .ref m37, .ref m38, .ref m39, .long 0]))]) (Qc := fun A => va_Qi (po_X9_put g k0 m0 m7 m8 m9 m13 m14 m15 m17 m18 m19 m20 m21 m22 m23 m24 m25 m26 m27 m28 m30 m36 m37 m38 m39 p1 p2 p3 p4) (bk g A) A) (cc := cX9_put) (maxL := 7) (ret := (some .int)) (by decide) rfl (Nat.le_of_ble_eq_true rfl) ?_ sz
  intro p e s m below meth c hx hb hr hts hown hlocks hnm hml A hA hE hZ hP hD hS ls hl
  have hown : s.vm.findClass RX9 = some m.cls := hown
  have hl : lv_has ls 7 [(0, .ref k0), (1, .int p1), (2, .int p2), (3, .int p3), (4, .int p4)] := hl
  refine lv_aload_n hx hb dX9_put_0 rfl (lv_at hl 0 rfl) ?_
  refine lv_iload_n hx hb dX9_put_1 rfl (lv_at hl 1 rfl) ?_
  refine lv_iload_n hx hb dX9_put_2 rfl (lv_at hl 3 rfl) ?_
  refine k_ci (wr := []) hP hD hS hA [0] [] rfl rfl (by decide) (by decide) (va_runV (As := [.int p1, .int p3]) (rest := []) ⟨hx, hb, hml, hown, hts⟩ (c_X9_isPlace l g k0 m0 m7 m8 m9 m13 m14 m15 m17 m18 m19 m20 m21 m22 m23 m24 m25 m26 m27 m28 m30 m36 m37 m38 m39 p1 p3  H.size) (cwV 2 hts gX9_put_X9_isPlace rfl rfl rfl (by decide +kernel) ⟨Nat.le_of_ble_eq_true rfl, Nat.le_of_ble_eq_true rfl⟩) (k_preV hE hZ hP hD hS hA [0] rfl (by decide) (va_recv hE.1 hP (ci := 9) (q0 := 0) rfl rfl)) rfl rfl hl.1 rfl (lv_room (Nat.le_of_ble_eq_true rfl)) dX9_put_3 ⟨Nat.le_of_ble_eq_true rfl, Nat.le_of_ble_eq_true rfl⟩) (fun r_1 w1 H locs hw hP hD hS => ?_)
  obtain ⟨rfl, rfl⟩ := hw
  have hP : va_P g.1 vwCl [(k0, .inr (9, [.ref m0, .int 0, .int 0, .int 0, .int 0, .int 0, .int 0, .ref m7, .ref m8, .ref m9, .int 0, .int 0, .int 0, .ref m13, .ref m14, .ref m15, .int 0, .ref m17, .ref m18, .ref m19, .ref m20, .ref m21, .ref m22, .ref m23, .ref m24, .ref m25, .ref m26, .ref m27, .ref m28, .int 0, .ref m30, .int 0, .int (-1), .int 0, .int 0, .int 0, .ref m36, .ref m37, .ref m38, .ref m39, .long 0]))] H := hP
  have hD : va_D A [(k0, .inr (9, [.ref m0, .int 0, .int 0, .int 0, .int 0, .int 0, .int 0, .ref m7, .ref m8, .ref m9, .int 0, .int 0, .int 0, .ref m13, .ref m14, .ref m15, .int 0, .ref m17, .ref m18, .ref m19, .ref m20, .ref m21, .ref m22, .ref m23, .ref m24, .ref m25, .ref m26, .ref m27, .ref m28, .int 0, .ref m30, .int 0, .int (-1), .int 0, .int 0, .int 0, .ref m36, .ref m37, .ref m38, .ref m39, .long 0]))] := hD
  refine lv_if_eq (tgt := 17) hx hb dX9_put_6 (by decide) (fun c6_3 => ?_) (fun c6_3 => ?_)
  · skip
    refine lv_bipush (v := (-101)) hx hb dX9_put_17 (by decide) ?_
    refine W.widen (k := 0) (n := 0) (Nat.le_of_ble_eq_true rfl) (Nat.le_of_ble_eq_true rfl) ?_
    have hP9 := hP.sub (ws' := []) [] rfl
    have hD9 := hD.sub (ws' := []) [] (by decide) rfl
    exact k_ri hx hb hr hlocks hS hP9 hD9 ⟨rfl, rfl⟩ dX9_put_19
  · exact absurd c6_3 (by decide)
def po_X9_copy (g : GG) (k0 : Nat) (m0 : Nat) (m7 : Nat) (m8 : Nat) (m9 : Nat) (m13 : Nat) (m14 : Nat) (m15 : Nat) (m17 : Nat) (m18 : Nat) (m19 : Nat) (m20 : Nat) (m21 : Nat) (m22 : Nat) (m23 : Nat) (m24 : Nat) (m25 : Nat) (m26 : Nat) (m27 : Nat) (m28 : Nat) (m30 : Nat) (m36 : Nat) (m37 : Nat) (m38 : Nat) (m39 : Nat) (p1 : Int32) : Int32 → va_W → Prop := fun (r : Int32) w => w = [] ∧ (r = (-101))
set_option maxHeartbeats 4000000 in
set_option maxRecDepth 100000 in
theorem c_X9_copy (l : Launch) (g : GG) (k0 : Nat) (m0 : Nat) (m7 : Nat) (m8 : Nat) (m9 : Nat) (m13 : Nat) (m14 : Nat) (m15 : Nat) (m17 : Nat) (m18 : Nat) (m19 : Nat) (m20 : Nat) (m21 : Nat) (m22 : Nat) (m23 : Nat) (m24 : Nat) (m25 : Nat) (m26 : Nat) (m27 : Nat) (m28 : Nat) (m30 : Nat) (m36 : Nat) (m37 : Nat) (m38 : Nat) (m39 : Nat) (p1 : Int32)  (sz : Nat) : MetI l yX9_copy wsX9_copy ({ frames := 2, cells := 0, slots := 0, locals := 46 }) g [.ref k0, .int p1] [(k0, .inr (9, [.ref m0, .int 0, .int 0, .int 0, .int 0, .int 0, .int 0, .ref m7, .ref m8, .ref m9, .int 0, .int 0, .int 0, .ref m13, .ref m14, .ref m15, .int 0, .ref m17, .ref m18, .ref m19, .ref m20, .ref m21, .ref m22, .ref m23, .ref m24, .ref m25, .ref m26, .ref m27, .ref m28, .int 0, .ref m30, .int 0, .int (-1), .int 0, .int 0, .int 0, .ref m36, .ref m37, .ref m38, .ref m39, .long 0]))] sz (po_X9_copy g k0 m0 m7 m8 m9 m13 m14 m15 m17 m18 m19 m20 m21 m22 m23 m24 m25 m26 m27 m28 m30 m36 m37 m38 m39 p1) 0 0 := by
  refine k_of (g := g) (wc := [(k0, .inr (9, [.ref m0, .int 0, .int 0, .int 0, .int 0, .int 0, .int 0, .ref m7, .ref m8, .ref m9, .int 0, .int 0, .int 0, .ref m13, .ref m14, .ref m15, .int 0, .ref m17, .ref m18, .ref m19, .ref m20, .ref m21, .ref m22, .ref m23, .ref m24, .ref m25, .ref m26, .ref m27, .ref m28, .int 0, .ref m30, .int 0, .int (-1), .int 0, .int 0, .int 0, .ref m36, .ref m37, .ref m38, .ref m39, .long 0]))]) (Qc := fun A => va_Qi (po_X9_copy g k0 m0 m7 m8 m9 m13 m14 m15 m17 m18 m19 m20 m21 m22 m23 m24 m25 m26 m27 m28 m30 m36 m37 m38 m39 p1) (bk g A) A) (cc := cX9_copy) (maxL := 2) (ret := (some .int)) (by decide) rfl (Nat.le_of_ble_eq_true rfl) ?_ sz
  intro p e s m below meth c hx hb hr hts hown hlocks hnm hml A hA hE hZ hP hD hS ls hl
  have hown : s.vm.findClass RX9 = some m.cls := hown
  have hl : lv_has ls 2 [(0, .ref k0), (1, .int p1)] := hl
  refine lv_aload_n hx hb dX9_copy_0 rfl (lv_at hl 0 rfl) ?_
  refine lv_iload_n hx hb dX9_copy_1 rfl (lv_at hl 1 rfl) ?_
  refine k_ci (wr := []) hP hD hS hA [0] [] rfl rfl (by decide) (by decide) (va_runV (As := [.int p1]) (rest := []) ⟨hx, hb, hml, hown, hts⟩ (c_X9_isSet l g k0 m0 m7 m8 m9 m13 m14 m15 m17 m18 m19 m20 m21 m22 m23 m24 m25 m26 m27 m28 m30 m36 m37 m38 m39 p1  H.size) (cwV 1 hts gX9_copy_X9_isSet rfl rfl rfl (by decide +kernel) ⟨Nat.le_of_ble_eq_true rfl, Nat.le_of_ble_eq_true rfl⟩) (k_preV hE hZ hP hD hS hA [0] rfl (by decide) (va_recv hE.1 hP (ci := 9) (q0 := 0) rfl rfl)) rfl rfl hl.1 rfl (lv_room (Nat.le_of_ble_eq_true rfl)) dX9_copy_2 ⟨Nat.le_of_ble_eq_true rfl, Nat.le_of_ble_eq_true rfl⟩) (fun r_1 w1 H locs hw hP hD hS => ?_)
  obtain ⟨rfl, rfl⟩ := hw
  have hP : va_P g.1 vwCl [(k0, .inr (9, [.ref m0, .int 0, .int 0, .int 0, .int 0, .int 0, .int 0, .ref m7, .ref m8, .ref m9, .int 0, .int 0, .int 0, .ref m13, .ref m14, .ref m15, .int 0, .ref m17, .ref m18, .ref m19, .ref m20, .ref m21, .ref m22, .ref m23, .ref m24, .ref m25, .ref m26, .ref m27, .ref m28, .int 0, .ref m30, .int 0, .int (-1), .int 0, .int 0, .int 0, .ref m36, .ref m37, .ref m38, .ref m39, .long 0]))] H := hP
  have hD : va_D A [(k0, .inr (9, [.ref m0, .int 0, .int 0, .int 0, .int 0, .int 0, .int 0, .ref m7, .ref m8, .ref m9, .int 0, .int 0, .int 0, .ref m13, .ref m14, .ref m15, .int 0, .ref m17, .ref m18, .ref m19, .ref m20, .ref m21, .ref m22, .ref m23, .ref m24, .ref m25, .ref m26, .ref m27, .ref m28, .int 0, .ref m30, .int 0, .int (-1), .int 0, .int 0, .int 0, .ref m36, .ref m37, .ref m38, .ref m39, .long 0]))] := hD
  refine lv_if_ne (tgt := 11) hx hb dX9_copy_5 (by decide) (fun c5_3 => ?_) (fun c5_3 => ?_)
  · exact absurd c5_3 (by decide)
  · skip
    refine lv_bipush (v := (-101)) hx hb dX9_copy_8 (by decide) ?_
    refine W.widen (k := 0) (n := 0) (Nat.le_of_ble_eq_true rfl) (Nat.le_of_ble_eq_true rfl) ?_
    have hP9 := hP.sub (ws' := []) [] rfl
    have hD9 := hD.sub (ws' := []) [] (by decide) rfl
    exact k_ri hx hb hr hlocks hS hP9 hD9 ⟨rfl, rfl⟩ dX9_copy_10
def po_X9_take (g : GG) (k0 : Nat) (m0 : Nat) (m7 : Nat) (m8 : Nat) (m9 : Nat) (m13 : Nat) (m14 : Nat) (m15 : Nat) (m17 : Nat) (m18 : Nat) (m19 : Nat) (m20 : Nat) (m21 : Nat) (m22 : Nat) (m23 : Nat) (m24 : Nat) (m25 : Nat) (m26 : Nat) (m27 : Nat) (m28 : Nat) (m30 : Nat) (m36 : Nat) (m37 : Nat) (m38 : Nat) (m39 : Nat) (p1 : Int32) : Int32 → va_W → Prop := fun (r : Int32) w => w = [] ∧ (r = (-101))
set_option maxHeartbeats 4000000 in
set_option maxRecDepth 100000 in
theorem c_X9_take (l : Launch) (g : GG) (k0 : Nat) (m0 : Nat) (m7 : Nat) (m8 : Nat) (m9 : Nat) (m13 : Nat) (m14 : Nat) (m15 : Nat) (m17 : Nat) (m18 : Nat) (m19 : Nat) (m20 : Nat) (m21 : Nat) (m22 : Nat) (m23 : Nat) (m24 : Nat) (m25 : Nat) (m26 : Nat) (m27 : Nat) (m28 : Nat) (m30 : Nat) (m36 : Nat) (m37 : Nat) (m38 : Nat) (m39 : Nat) (p1 : Int32)  (sz : Nat) : MetI l yX9_take wsX9_take ({ frames := 2, cells := 0, slots := 0, locals := 46 }) g [.ref k0, .int p1] [(k0, .inr (9, [.ref m0, .int 0, .int 0, .int 0, .int 0, .int 0, .int 0, .ref m7, .ref m8, .ref m9, .int 0, .int 0, .int 0, .ref m13, .ref m14, .ref m15, .int 0, .ref m17, .ref m18, .ref m19, .ref m20, .ref m21, .ref m22, .ref m23, .ref m24, .ref m25, .ref m26, .ref m27, .ref m28, .int 0, .ref m30, .int 0, .int (-1), .int 0, .int 0, .int 0, .ref m36, .ref m37, .ref m38, .ref m39, .long 0]))] sz (po_X9_take g k0 m0 m7 m8 m9 m13 m14 m15 m17 m18 m19 m20 m21 m22 m23 m24 m25 m26 m27 m28 m30 m36 m37 m38 m39 p1) 0 0 := by
  refine k_of (g := g) (wc := [(k0, .inr (9, [.ref m0, .int 0, .int 0, .int 0, .int 0, .int 0, .int 0, .ref m7, .ref m8, .ref m9, .int 0, .int 0, .int 0, .ref m13, .ref m14, .ref m15, .int 0, .ref m17, .ref m18, .ref m19, .ref m20, .ref m21, .ref m22, .ref m23, .ref m24, .ref m25, .ref m26, .ref m27, .ref m28, .int 0, .ref m30, .int 0, .int (-1), .int 0, .int 0, .int 0, .ref m36, .ref m37, .ref m38, .ref m39, .long 0]))]) (Qc := fun A => va_Qi (po_X9_take g k0 m0 m7 m8 m9 m13 m14 m15 m17 m18 m19 m20 m21 m22 m23 m24 m25 m26 m27 m28 m30 m36 m37 m38 m39 p1) (bk g A) A) (cc := cX9_take) (maxL := 3) (ret := (some .int)) (by decide) rfl (Nat.le_of_ble_eq_true rfl) ?_ sz
  intro p e s m below meth c hx hb hr hts hown hlocks hnm hml A hA hE hZ hP hD hS ls hl
  have hown : s.vm.findClass RX9 = some m.cls := hown
  have hl : lv_has ls 3 [(0, .ref k0), (1, .int p1)] := hl
  refine lv_aload_n hx hb dX9_take_0 rfl (lv_at hl 0 rfl) ?_
  refine lv_iload_n hx hb dX9_take_1 rfl (lv_at hl 1 rfl) ?_
  refine k_ci (wr := []) hP hD hS hA [0] [] rfl rfl (by decide) (by decide) (va_runV (As := [.int p1]) (rest := []) ⟨hx, hb, hml, hown, hts⟩ (c_X9_isSet l g k0 m0 m7 m8 m9 m13 m14 m15 m17 m18 m19 m20 m21 m22 m23 m24 m25 m26 m27 m28 m30 m36 m37 m38 m39 p1  H.size) (cwV 1 hts gX9_take_X9_isSet rfl rfl rfl (by decide +kernel) ⟨Nat.le_of_ble_eq_true rfl, Nat.le_of_ble_eq_true rfl⟩) (k_preV hE hZ hP hD hS hA [0] rfl (by decide) (va_recv hE.1 hP (ci := 9) (q0 := 0) rfl rfl)) rfl rfl hl.1 rfl (lv_room (Nat.le_of_ble_eq_true rfl)) dX9_take_2 ⟨Nat.le_of_ble_eq_true rfl, Nat.le_of_ble_eq_true rfl⟩) (fun r_1 w1 H locs hw hP hD hS => ?_)
  obtain ⟨rfl, rfl⟩ := hw
  have hP : va_P g.1 vwCl [(k0, .inr (9, [.ref m0, .int 0, .int 0, .int 0, .int 0, .int 0, .int 0, .ref m7, .ref m8, .ref m9, .int 0, .int 0, .int 0, .ref m13, .ref m14, .ref m15, .int 0, .ref m17, .ref m18, .ref m19, .ref m20, .ref m21, .ref m22, .ref m23, .ref m24, .ref m25, .ref m26, .ref m27, .ref m28, .int 0, .ref m30, .int 0, .int (-1), .int 0, .int 0, .int 0, .ref m36, .ref m37, .ref m38, .ref m39, .long 0]))] H := hP
  have hD : va_D A [(k0, .inr (9, [.ref m0, .int 0, .int 0, .int 0, .int 0, .int 0, .int 0, .ref m7, .ref m8, .ref m9, .int 0, .int 0, .int 0, .ref m13, .ref m14, .ref m15, .int 0, .ref m17, .ref m18, .ref m19, .ref m20, .ref m21, .ref m22, .ref m23, .ref m24, .ref m25, .ref m26, .ref m27, .ref m28, .int 0, .ref m30, .int 0, .int (-1), .int 0, .int 0, .int 0, .ref m36, .ref m37, .ref m38, .ref m39, .long 0]))] := hD
  refine lv_if_ne (tgt := 11) hx hb dX9_take_5 (by decide) (fun c5_3 => ?_) (fun c5_3 => ?_)
  · exact absurd c5_3 (by decide)
  · skip
    refine lv_bipush (v := (-101)) hx hb dX9_take_8 (by decide) ?_
    refine W.widen (k := 0) (n := 0) (Nat.le_of_ble_eq_true rfl) (Nat.le_of_ble_eq_true rfl) ?_
    have hP9 := hP.sub (ws' := []) [] rfl
    have hD9 := hD.sub (ws' := []) [] (by decide) rfl
    exact k_ri hx hb hr hlocks hS hP9 hD9 ⟨rfl, rfl⟩ dX9_take_10
def po_X9_change (g : GG) (k0 : Nat) (m0 : Nat) (m7 : Nat) (m8 : Nat) (m9 : Nat) (m13 : Nat) (m14 : Nat) (m15 : Nat) (m17 : Nat) (m18 : Nat) (m19 : Nat) (m20 : Nat) (m21 : Nat) (m22 : Nat) (m23 : Nat) (m24 : Nat) (m25 : Nat) (m26 : Nat) (m27 : Nat) (m28 : Nat) (m30 : Nat) (m36 : Nat) (m37 : Nat) (m38 : Nat) (m39 : Nat) (p1 : Int32) (p2 : Int32) : Int32 → va_W → Prop := fun (r : Int32) w => w = [] ∧ (r = (-101))
set_option maxHeartbeats 4000000 in
set_option maxRecDepth 100000 in
theorem c_X9_change (l : Launch) (g : GG) (k0 : Nat) (m0 : Nat) (m7 : Nat) (m8 : Nat) (m9 : Nat) (m13 : Nat) (m14 : Nat) (m15 : Nat) (m17 : Nat) (m18 : Nat) (m19 : Nat) (m20 : Nat) (m21 : Nat) (m22 : Nat) (m23 : Nat) (m24 : Nat) (m25 : Nat) (m26 : Nat) (m27 : Nat) (m28 : Nat) (m30 : Nat) (m36 : Nat) (m37 : Nat) (m38 : Nat) (m39 : Nat) (p1 : Int32) (p2 : Int32)  (sz : Nat) : MetI l yX9_change wsX9_change ({ frames := 2, cells := 0, slots := 0, locals := 46 }) g [.ref k0, .int p1, .int p2] [(k0, .inr (9, [.ref m0, .int 0, .int 0, .int 0, .int 0, .int 0, .int 0, .ref m7, .ref m8, .ref m9, .int 0, .int 0, .int 0, .ref m13, .ref m14, .ref m15, .int 0, .ref m17, .ref m18, .ref m19, .ref m20, .ref m21, .ref m22, .ref m23, .ref m24, .ref m25, .ref m26, .ref m27, .ref m28, .int 0, .ref m30, .int 0, .int (-1), .int 0, .int 0, .int 0, .ref m36, .ref m37, .ref m38, .ref m39, .long 0]))] sz (po_X9_change g k0 m0 m7 m8 m9 m13 m14 m15 m17 m18 m19 m20 m21 m22 m23 m24 m25 m26 m27 m28 m30 m36 m37 m38 m39 p1 p2) 0 0 := by
  refine k_of (g := g) (wc := [(k0, .inr (9, [.ref m0, .int 0, .int 0, .int 0, .int 0, .int 0, .int 0, .ref m7, .ref m8, .ref m9, .int 0, .int 0, .int 0, .ref m13, .ref m14, .ref m15, .int 0, .ref m17, .ref m18, .ref m19, .ref m20, .ref m21, .ref m22, .ref m23, .ref m24, .ref m25, .ref m26, .ref m27, .ref m28, .int 0, .ref m30, .int 0, .int (-1), .int 0, .int 0, .int 0, .ref m36, .ref m37, .ref m38, .ref m39, .long 0]))]) (Qc := fun A => va_Qi (po_X9_change g k0 m0 m7 m8 m9 m13 m14 m15 m17 m18 m19 m20 m21 m22 m23 m24 m25 m26 m27 m28 m30 m36 m37 m38 m39 p1 p2) (bk g A) A) (cc := cX9_change) (maxL := 4) (ret := (some .int)) (by decide) rfl (Nat.le_of_ble_eq_true rfl) ?_ sz
  intro p e s m below meth c hx hb hr hts hown hlocks hnm hml A hA hE hZ hP hD hS ls hl
  have hown : s.vm.findClass RX9 = some m.cls := hown
  have hl : lv_has ls 4 [(0, .ref k0), (1, .int p1), (2, .int p2)] := hl
  refine lv_aload_n hx hb dX9_change_0 rfl (lv_at hl 0 rfl) ?_
  refine lv_iload_n hx hb dX9_change_1 rfl (lv_at hl 1 rfl) ?_
  refine k_ci (wr := []) hP hD hS hA [0] [] rfl rfl (by decide) (by decide) (va_runV (As := [.int p1]) (rest := []) ⟨hx, hb, hml, hown, hts⟩ (c_X9_isSet l g k0 m0 m7 m8 m9 m13 m14 m15 m17 m18 m19 m20 m21 m22 m23 m24 m25 m26 m27 m28 m30 m36 m37 m38 m39 p1  H.size) (cwV 1 hts gX9_change_X9_isSet rfl rfl rfl (by decide +kernel) ⟨Nat.le_of_ble_eq_true rfl, Nat.le_of_ble_eq_true rfl⟩) (k_preV hE hZ hP hD hS hA [0] rfl (by decide) (va_recv hE.1 hP (ci := 9) (q0 := 0) rfl rfl)) rfl rfl hl.1 rfl (lv_room (Nat.le_of_ble_eq_true rfl)) dX9_change_2 ⟨Nat.le_of_ble_eq_true rfl, Nat.le_of_ble_eq_true rfl⟩) (fun r_1 w1 H locs hw hP hD hS => ?_)
  obtain ⟨rfl, rfl⟩ := hw
  have hP : va_P g.1 vwCl [(k0, .inr (9, [.ref m0, .int 0, .int 0, .int 0, .int 0, .int 0, .int 0, .ref m7, .ref m8, .ref m9, .int 0, .int 0, .int 0, .ref m13, .ref m14, .ref m15, .int 0, .ref m17, .ref m18, .ref m19, .ref m20, .ref m21, .ref m22, .ref m23, .ref m24, .ref m25, .ref m26, .ref m27, .ref m28, .int 0, .ref m30, .int 0, .int (-1), .int 0, .int 0, .int 0, .ref m36, .ref m37, .ref m38, .ref m39, .long 0]))] H := hP
  have hD : va_D A [(k0, .inr (9, [.ref m0, .int 0, .int 0, .int 0, .int 0, .int 0, .int 0, .ref m7, .ref m8, .ref m9, .int 0, .int 0, .int 0, .ref m13, .ref m14, .ref m15, .int 0, .ref m17, .ref m18, .ref m19, .ref m20, .ref m21, .ref m22, .ref m23, .ref m24, .ref m25, .ref m26, .ref m27, .ref m28, .int 0, .ref m30, .int 0, .int (-1), .int 0, .int 0, .int 0, .ref m36, .ref m37, .ref m38, .ref m39, .long 0]))] := hD
  refine lv_if_ne (tgt := 11) hx hb dX9_change_5 (by decide) (fun c5_3 => ?_) (fun c5_3 => ?_)
  · exact absurd c5_3 (by decide)
  · skip
    refine lv_bipush (v := (-101)) hx hb dX9_change_8 (by decide) ?_
    refine W.widen (k := 0) (n := 0) (Nat.le_of_ble_eq_true rfl) (Nat.le_of_ble_eq_true rfl) ?_
    have hP9 := hP.sub (ws' := []) [] rfl
    have hD9 := hD.sub (ws' := []) [] (by decide) rfl
    exact k_ri hx hb hr hlocks hS hP9 hD9 ⟨rfl, rfl⟩ dX9_change_10
def po_X9_law (g : GG) (k0 : Nat) (m0 : Nat) (m7 : Nat) (m8 : Nat) (m9 : Nat) (m13 : Nat) (m14 : Nat) (m15 : Nat) (m17 : Nat) (m18 : Nat) (m19 : Nat) (m20 : Nat) (m21 : Nat) (m22 : Nat) (m23 : Nat) (m24 : Nat) (m25 : Nat) (m26 : Nat) (m27 : Nat) (m28 : Nat) (m30 : Nat) (m36 : Nat) (m37 : Nat) (m38 : Nat) (m39 : Nat) (p1 : Int32) (p2 : Int32) (p3 : Int32) (p4 : Int32) : Int32 → va_W → Prop := fun (r : Int32) w => w = [] ∧ (r = (-101))
set_option maxHeartbeats 4000000 in
set_option maxRecDepth 100000 in
theorem c_X9_law (l : Launch) (g : GG) (k0 : Nat) (m0 : Nat) (m7 : Nat) (m8 : Nat) (m9 : Nat) (m13 : Nat) (m14 : Nat) (m15 : Nat) (m17 : Nat) (m18 : Nat) (m19 : Nat) (m20 : Nat) (m21 : Nat) (m22 : Nat) (m23 : Nat) (m24 : Nat) (m25 : Nat) (m26 : Nat) (m27 : Nat) (m28 : Nat) (m30 : Nat) (m36 : Nat) (m37 : Nat) (m38 : Nat) (m39 : Nat) (p1 : Int32) (p2 : Int32) (p3 : Int32) (p4 : Int32)  (sz : Nat) : MetI l yX9_law wsX9_law ({ frames := 2, cells := 0, slots := 0, locals := 46 }) g [.ref k0, .int p1, .int p2, .int p3, .int p4] [(k0, .inr (9, [.ref m0, .int 0, .int 0, .int 0, .int 0, .int 0, .int 0, .ref m7, .ref m8, .ref m9, .int 0, .int 0, .int 0, .ref m13, .ref m14, .ref m15, .int 0, .ref m17, .ref m18, .ref m19, .ref m20, .ref m21, .ref m22, .ref m23, .ref m24, .ref m25, .ref m26, .ref m27, .ref m28, .int 0, .ref m30, .int 0, .int (-1), .int 0, .int 0, .int 0, .ref m36, .ref m37, .ref m38, .ref m39, .long 0]))] sz (po_X9_law g k0 m0 m7 m8 m9 m13 m14 m15 m17 m18 m19 m20 m21 m22 m23 m24 m25 m26 m27 m28 m30 m36 m37 m38 m39 p1 p2 p3 p4) 0 0 := by
  refine k_of (g := g) (wc := [(k0, .inr (9, [.ref m0, .int 0, .int 0, .int 0, .int 0, .int 0, .int 0, .ref m7, .ref m8, .ref m9, .int 0, .int 0, .int 0, .ref m13, .ref m14, .ref m15, .int 0, .ref m17, .ref m18, .ref m19, .ref m20, .ref m21, .ref m22, .ref m23, .ref m24, .ref m25, .ref m26, .ref m27, .ref m28, .int 0, .ref m30, .int 0, .int (-1), .int 0, .int 0, .int 0, .ref m36, .ref m37, .ref m38, .ref m39, .long 0]))]) (Qc := fun A => va_Qi (po_X9_law g k0 m0 m7 m8 m9 m13 m14 m15 m17 m18 m19 m20 m21 m22 m23 m24 m25 m26 m27 m28 m30 m36 m37 m38 m39 p1 p2 p3 p4) (bk g A) A) (cc := cX9_law) (maxL := 6) (ret := (some .int)) (by decide) rfl (Nat.le_of_ble_eq_true rfl) ?_ sz
  intro p e s m below meth c hx hb hr hts hown hlocks hnm hml A hA hE hZ hP hD hS ls hl
  have hown : s.vm.findClass RX9 = some m.cls := hown
  have hl : lv_has ls 6 [(0, .ref k0), (1, .int p1), (2, .int p2), (3, .int p3), (4, .int p4)] := hl
  refine lv_aload_n hx hb dX9_law_0 rfl (lv_at hl 0 rfl) ?_
  refine lv_iload_n hx hb dX9_law_1 rfl (lv_at hl 1 rfl) ?_
  refine k_ci (wr := []) hP hD hS hA [0] [] rfl rfl (by decide) (by decide) (va_runV (As := [.int p1]) (rest := []) ⟨hx, hb, hml, hown, hts⟩ (c_X9_isTongue l g k0 m0 m7 m8 m9 m13 m14 m15 m17 m18 m19 m20 m21 m22 m23 m24 m25 m26 m27 m28 m30 m36 m37 m38 m39 p1  H.size) (cwV 1 hts gX9_law_X9_isTongue rfl rfl rfl (by decide +kernel) ⟨Nat.le_of_ble_eq_true rfl, Nat.le_of_ble_eq_true rfl⟩) (k_preV hE hZ hP hD hS hA [0] rfl (by decide) (va_recv hE.1 hP (ci := 9) (q0 := 0) rfl rfl)) rfl rfl hl.1 rfl (lv_room (Nat.le_of_ble_eq_true rfl)) dX9_law_2 ⟨Nat.le_of_ble_eq_true rfl, Nat.le_of_ble_eq_true rfl⟩) (fun r_1 w1 H locs hw hP hD hS => ?_)
  obtain ⟨rfl, rfl⟩ := hw
  have hP : va_P g.1 vwCl [(k0, .inr (9, [.ref m0, .int 0, .int 0, .int 0, .int 0, .int 0, .int 0, .ref m7, .ref m8, .ref m9, .int 0, .int 0, .int 0, .ref m13, .ref m14, .ref m15, .int 0, .ref m17, .ref m18, .ref m19, .ref m20, .ref m21, .ref m22, .ref m23, .ref m24, .ref m25, .ref m26, .ref m27, .ref m28, .int 0, .ref m30, .int 0, .int (-1), .int 0, .int 0, .int 0, .ref m36, .ref m37, .ref m38, .ref m39, .long 0]))] H := hP
  have hD : va_D A [(k0, .inr (9, [.ref m0, .int 0, .int 0, .int 0, .int 0, .int 0, .int 0, .ref m7, .ref m8, .ref m9, .int 0, .int 0, .int 0, .ref m13, .ref m14, .ref m15, .int 0, .ref m17, .ref m18, .ref m19, .ref m20, .ref m21, .ref m22, .ref m23, .ref m24, .ref m25, .ref m26, .ref m27, .ref m28, .int 0, .ref m30, .int 0, .int (-1), .int 0, .int 0, .int 0, .ref m36, .ref m37, .ref m38, .ref m39, .long 0]))] := hD
  refine lv_if_eq (tgt := 20) hx hb dX9_law_5 (by decide) (fun c5_3 => ?_) (fun c5_3 => ?_)
  · skip
    refine lv_bipush (v := (-101)) hx hb dX9_law_20 (by decide) ?_
    refine W.widen (k := 0) (n := 0) (Nat.le_of_ble_eq_true rfl) (Nat.le_of_ble_eq_true rfl) ?_
    have hP9 := hP.sub (ws' := []) [] rfl
    have hD9 := hD.sub (ws' := []) [] (by decide) rfl
    exact k_ri hx hb hr hlocks hS hP9 hD9 ⟨rfl, rfl⟩ dX9_law_22
  · exact absurd c5_3 (by decide)
def po_X9_swap (g : GG) (k0 : Nat) (m0 : Nat) (m7 : Nat) (m8 : Nat) (m9 : Nat) (m13 : Nat) (m14 : Nat) (m15 : Nat) (m17 : Nat) (m18 : Nat) (m19 : Nat) (m20 : Nat) (m21 : Nat) (m22 : Nat) (m23 : Nat) (m24 : Nat) (m25 : Nat) (m26 : Nat) (m27 : Nat) (m28 : Nat) (m30 : Nat) (m36 : Nat) (m37 : Nat) (m38 : Nat) (m39 : Nat) (p1 : Int32) (p2 : Int32) : Int32 → va_W → Prop := fun (r : Int32) w => w = [] ∧ (r = (-101))
set_option maxHeartbeats 4000000 in
set_option maxRecDepth 100000 in
theorem c_X9_swap (l : Launch) (g : GG) (k0 : Nat) (m0 : Nat) (m7 : Nat) (m8 : Nat) (m9 : Nat) (m13 : Nat) (m14 : Nat) (m15 : Nat) (m17 : Nat) (m18 : Nat) (m19 : Nat) (m20 : Nat) (m21 : Nat) (m22 : Nat) (m23 : Nat) (m24 : Nat) (m25 : Nat) (m26 : Nat) (m27 : Nat) (m28 : Nat) (m30 : Nat) (m36 : Nat) (m37 : Nat) (m38 : Nat) (m39 : Nat) (p1 : Int32) (p2 : Int32)  (sz : Nat) : MetI l yX9_swap wsX9_swap ({ frames := 2, cells := 0, slots := 0, locals := 46 }) g [.ref k0, .int p1, .int p2] [(k0, .inr (9, [.ref m0, .int 0, .int 0, .int 0, .int 0, .int 0, .int 0, .ref m7, .ref m8, .ref m9, .int 0, .int 0, .int 0, .ref m13, .ref m14, .ref m15, .int 0, .ref m17, .ref m18, .ref m19, .ref m20, .ref m21, .ref m22, .ref m23, .ref m24, .ref m25, .ref m26, .ref m27, .ref m28, .int 0, .ref m30, .int 0, .int (-1), .int 0, .int 0, .int 0, .ref m36, .ref m37, .ref m38, .ref m39, .long 0]))] sz (po_X9_swap g k0 m0 m7 m8 m9 m13 m14 m15 m17 m18 m19 m20 m21 m22 m23 m24 m25 m26 m27 m28 m30 m36 m37 m38 m39 p1 p2) 0 0 := by
  refine k_of (g := g) (wc := [(k0, .inr (9, [.ref m0, .int 0, .int 0, .int 0, .int 0, .int 0, .int 0, .ref m7, .ref m8, .ref m9, .int 0, .int 0, .int 0, .ref m13, .ref m14, .ref m15, .int 0, .ref m17, .ref m18, .ref m19, .ref m20, .ref m21, .ref m22, .ref m23, .ref m24, .ref m25, .ref m26, .ref m27, .ref m28, .int 0, .ref m30, .int 0, .int (-1), .int 0, .int 0, .int 0, .ref m36, .ref m37, .ref m38, .ref m39, .long 0]))]) (Qc := fun A => va_Qi (po_X9_swap g k0 m0 m7 m8 m9 m13 m14 m15 m17 m18 m19 m20 m21 m22 m23 m24 m25 m26 m27 m28 m30 m36 m37 m38 m39 p1 p2) (bk g A) A) (cc := cX9_swap) (maxL := 7) (ret := (some .int)) (by decide) rfl (Nat.le_of_ble_eq_true rfl) ?_ sz
  intro p e s m below meth c hx hb hr hts hown hlocks hnm hml A hA hE hZ hP hD hS ls hl
  have hown : s.vm.findClass RX9 = some m.cls := hown
  have hl : lv_has ls 7 [(0, .ref k0), (1, .int p1), (2, .int p2)] := hl
  refine lv_aload_n hx hb dX9_swap_0 rfl (lv_at hl 0 rfl) ?_
  refine lv_iload_n hx hb dX9_swap_1 rfl (lv_at hl 1 rfl) ?_
  refine k_ci (wr := []) hP hD hS hA [0] [] rfl rfl (by decide) (by decide) (va_runV (As := [.int p1]) (rest := []) ⟨hx, hb, hml, hown, hts⟩ (c_X9_isTongue l g k0 m0 m7 m8 m9 m13 m14 m15 m17 m18 m19 m20 m21 m22 m23 m24 m25 m26 m27 m28 m30 m36 m37 m38 m39 p1  H.size) (cwV 1 hts gX9_swap_X9_isTongue rfl rfl rfl (by decide +kernel) ⟨Nat.le_of_ble_eq_true rfl, Nat.le_of_ble_eq_true rfl⟩) (k_preV hE hZ hP hD hS hA [0] rfl (by decide) (va_recv hE.1 hP (ci := 9) (q0 := 0) rfl rfl)) rfl rfl hl.1 rfl (lv_room (Nat.le_of_ble_eq_true rfl)) dX9_swap_2 ⟨Nat.le_of_ble_eq_true rfl, Nat.le_of_ble_eq_true rfl⟩) (fun r_1 w1 H locs hw hP hD hS => ?_)
  obtain ⟨rfl, rfl⟩ := hw
  have hP : va_P g.1 vwCl [(k0, .inr (9, [.ref m0, .int 0, .int 0, .int 0, .int 0, .int 0, .int 0, .ref m7, .ref m8, .ref m9, .int 0, .int 0, .int 0, .ref m13, .ref m14, .ref m15, .int 0, .ref m17, .ref m18, .ref m19, .ref m20, .ref m21, .ref m22, .ref m23, .ref m24, .ref m25, .ref m26, .ref m27, .ref m28, .int 0, .ref m30, .int 0, .int (-1), .int 0, .int 0, .int 0, .ref m36, .ref m37, .ref m38, .ref m39, .long 0]))] H := hP
  have hD : va_D A [(k0, .inr (9, [.ref m0, .int 0, .int 0, .int 0, .int 0, .int 0, .int 0, .ref m7, .ref m8, .ref m9, .int 0, .int 0, .int 0, .ref m13, .ref m14, .ref m15, .int 0, .ref m17, .ref m18, .ref m19, .ref m20, .ref m21, .ref m22, .ref m23, .ref m24, .ref m25, .ref m26, .ref m27, .ref m28, .int 0, .ref m30, .int 0, .int (-1), .int 0, .int 0, .int 0, .ref m36, .ref m37, .ref m38, .ref m39, .long 0]))] := hD
  refine lv_if_eq (tgt := 21) hx hb dX9_swap_5 (by decide) (fun c5_3 => ?_) (fun c5_3 => ?_)
  · skip
    refine lv_bipush (v := (-101)) hx hb dX9_swap_21 (by decide) ?_
    refine W.widen (k := 0) (n := 0) (Nat.le_of_ble_eq_true rfl) (Nat.le_of_ble_eq_true rfl) ?_
    have hP9 := hP.sub (ws' := []) [] rfl
    have hD9 := hD.sub (ws' := []) [] (by decide) rfl
    exact k_ri hx hb hr hlocks hS hP9 hD9 ⟨rfl, rfl⟩ dX9_swap_23
  · exact absurd c5_3 (by decide)
def po_X9_see (g : GG) (k0 : Nat) (m0 : Nat) (m7 : Nat) (m8 : Nat) (m9 : Nat) (m13 : Nat) (m14 : Nat) (m15 : Nat) (m17 : Nat) (m18 : Nat) (m19 : Nat) (m20 : Nat) (m21 : Nat) (m22 : Nat) (m23 : Nat) (m24 : Nat) (m25 : Nat) (m26 : Nat) (m27 : Nat) (m28 : Nat) (m30 : Nat) (m36 : Nat) (m37 : Nat) (m38 : Nat) (m39 : Nat) (p1 : Int32) (p2 : Int32) (p3 : Int32) : Int32 → va_W → Prop := fun (r : Int32) w => w = [] ∧ (r = (-101))
set_option maxHeartbeats 4000000 in
set_option maxRecDepth 100000 in
theorem c_X9_see (l : Launch) (g : GG) (k0 : Nat) (m0 : Nat) (m7 : Nat) (m8 : Nat) (m9 : Nat) (m13 : Nat) (m14 : Nat) (m15 : Nat) (m17 : Nat) (m18 : Nat) (m19 : Nat) (m20 : Nat) (m21 : Nat) (m22 : Nat) (m23 : Nat) (m24 : Nat) (m25 : Nat) (m26 : Nat) (m27 : Nat) (m28 : Nat) (m30 : Nat) (m36 : Nat) (m37 : Nat) (m38 : Nat) (m39 : Nat) (p1 : Int32) (p2 : Int32) (p3 : Int32)  (sz : Nat) : MetI l yX9_see wsX9_see ({ frames := 2, cells := 0, slots := 0, locals := 46 }) g [.ref k0, .int p1, .int p2, .int p3] [(k0, .inr (9, [.ref m0, .int 0, .int 0, .int 0, .int 0, .int 0, .int 0, .ref m7, .ref m8, .ref m9, .int 0, .int 0, .int 0, .ref m13, .ref m14, .ref m15, .int 0, .ref m17, .ref m18, .ref m19, .ref m20, .ref m21, .ref m22, .ref m23, .ref m24, .ref m25, .ref m26, .ref m27, .ref m28, .int 0, .ref m30, .int 0, .int (-1), .int 0, .int 0, .int 0, .ref m36, .ref m37, .ref m38, .ref m39, .long 0]))] sz (po_X9_see g k0 m0 m7 m8 m9 m13 m14 m15 m17 m18 m19 m20 m21 m22 m23 m24 m25 m26 m27 m28 m30 m36 m37 m38 m39 p1 p2 p3) 0 0 := by
  refine k_of (g := g) (wc := [(k0, .inr (9, [.ref m0, .int 0, .int 0, .int 0, .int 0, .int 0, .int 0, .ref m7, .ref m8, .ref m9, .int 0, .int 0, .int 0, .ref m13, .ref m14, .ref m15, .int 0, .ref m17, .ref m18, .ref m19, .ref m20, .ref m21, .ref m22, .ref m23, .ref m24, .ref m25, .ref m26, .ref m27, .ref m28, .int 0, .ref m30, .int 0, .int (-1), .int 0, .int 0, .int 0, .ref m36, .ref m37, .ref m38, .ref m39, .long 0]))]) (Qc := fun A => va_Qi (po_X9_see g k0 m0 m7 m8 m9 m13 m14 m15 m17 m18 m19 m20 m21 m22 m23 m24 m25 m26 m27 m28 m30 m36 m37 m38 m39 p1 p2 p3) (bk g A) A) (cc := cX9_see) (maxL := 4) (ret := (some .int)) (by decide) rfl (Nat.le_of_ble_eq_true rfl) ?_ sz
  intro p e s m below meth c hx hb hr hts hown hlocks hnm hml A hA hE hZ hP hD hS ls hl
  have hown : s.vm.findClass RX9 = some m.cls := hown
  have hl : lv_has ls 4 [(0, .ref k0), (1, .int p1), (2, .int p2), (3, .int p3)] := hl
  refine lv_aload_n hx hb dX9_see_0 rfl (lv_at hl 0 rfl) ?_
  refine lv_iload_n hx hb dX9_see_1 rfl (lv_at hl 1 rfl) ?_
  refine k_ci (wr := []) hP hD hS hA [0] [] rfl rfl (by decide) (by decide) (va_runV (As := [.int p1]) (rest := []) ⟨hx, hb, hml, hown, hts⟩ (c_X9_isSet l g k0 m0 m7 m8 m9 m13 m14 m15 m17 m18 m19 m20 m21 m22 m23 m24 m25 m26 m27 m28 m30 m36 m37 m38 m39 p1  H.size) (cwV 1 hts gX9_see_X9_isSet rfl rfl rfl (by decide +kernel) ⟨Nat.le_of_ble_eq_true rfl, Nat.le_of_ble_eq_true rfl⟩) (k_preV hE hZ hP hD hS hA [0] rfl (by decide) (va_recv hE.1 hP (ci := 9) (q0 := 0) rfl rfl)) rfl rfl hl.1 rfl (lv_room (Nat.le_of_ble_eq_true rfl)) dX9_see_2 ⟨Nat.le_of_ble_eq_true rfl, Nat.le_of_ble_eq_true rfl⟩) (fun r_1 w1 H locs hw hP hD hS => ?_)
  obtain ⟨rfl, rfl⟩ := hw
  have hP : va_P g.1 vwCl [(k0, .inr (9, [.ref m0, .int 0, .int 0, .int 0, .int 0, .int 0, .int 0, .ref m7, .ref m8, .ref m9, .int 0, .int 0, .int 0, .ref m13, .ref m14, .ref m15, .int 0, .ref m17, .ref m18, .ref m19, .ref m20, .ref m21, .ref m22, .ref m23, .ref m24, .ref m25, .ref m26, .ref m27, .ref m28, .int 0, .ref m30, .int 0, .int (-1), .int 0, .int 0, .int 0, .ref m36, .ref m37, .ref m38, .ref m39, .long 0]))] H := hP
  have hD : va_D A [(k0, .inr (9, [.ref m0, .int 0, .int 0, .int 0, .int 0, .int 0, .int 0, .ref m7, .ref m8, .ref m9, .int 0, .int 0, .int 0, .ref m13, .ref m14, .ref m15, .int 0, .ref m17, .ref m18, .ref m19, .ref m20, .ref m21, .ref m22, .ref m23, .ref m24, .ref m25, .ref m26, .ref m27, .ref m28, .int 0, .ref m30, .int 0, .int (-1), .int 0, .int 0, .int 0, .ref m36, .ref m37, .ref m38, .ref m39, .long 0]))] := hD
  refine lv_if_ne (tgt := 11) hx hb dX9_see_5 (by decide) (fun c5_3 => ?_) (fun c5_3 => ?_)
  · exact absurd c5_3 (by decide)
  · skip
    refine lv_bipush (v := (-101)) hx hb dX9_see_8 (by decide) ?_
    refine W.widen (k := 0) (n := 0) (Nat.le_of_ble_eq_true rfl) (Nat.le_of_ble_eq_true rfl) ?_
    have hP9 := hP.sub (ws' := []) [] rfl
    have hD9 := hD.sub (ws' := []) [] (by decide) rfl
    exact k_ri hx hb hr hlocks hS hP9 hD9 ⟨rfl, rfl⟩ dX9_see_10
def po_X9_forget (g : GG) (k0 : Nat) (m0 : Nat) (m7 : Nat) (m8 : Nat) (m9 : Nat) (m13 : Nat) (m14 : Nat) (m15 : Nat) (m17 : Nat) (m18 : Nat) (m19 : Nat) (m20 : Nat) (m21 : Nat) (m22 : Nat) (m23 : Nat) (m24 : Nat) (m25 : Nat) (m26 : Nat) (m27 : Nat) (m28 : Nat) (m30 : Nat) (m36 : Nat) (m37 : Nat) (m38 : Nat) (m39 : Nat) : Int32 → va_W → Prop := fun (r : Int32) w => w = [] ∧ (r = 0)
theorem q_X9_forget_f9 : ∀ w ∈ u_ws RX9 TX9 41, w ∈ wsX9_forget := by decide +kernel
theorem q_X9_forget_1 : (Cond.fieldLink RX9 157 "SoundLawsModel" "seenMany" "I") ∈ wsX9_forget := by decide +kernel
set_option maxHeartbeats 4000000 in
set_option maxRecDepth 100000 in
theorem c_X9_forget (l : Launch) (g : GG) (k0 : Nat) (m0 : Nat) (m7 : Nat) (m8 : Nat) (m9 : Nat) (m13 : Nat) (m14 : Nat) (m15 : Nat) (m17 : Nat) (m18 : Nat) (m19 : Nat) (m20 : Nat) (m21 : Nat) (m22 : Nat) (m23 : Nat) (m24 : Nat) (m25 : Nat) (m26 : Nat) (m27 : Nat) (m28 : Nat) (m30 : Nat) (m36 : Nat) (m37 : Nat) (m38 : Nat) (m39 : Nat)  (sz : Nat) : MetI l yX9_forget wsX9_forget ({ frames := 0, cells := 0, slots := 0, locals := 0 }) g [.ref k0] [(k0, .inr (9, [.ref m0, .int 0, .int 0, .int 0, .int 0, .int 0, .int 0, .ref m7, .ref m8, .ref m9, .int 0, .int 0, .int 0, .ref m13, .ref m14, .ref m15, .int 0, .ref m17, .ref m18, .ref m19, .ref m20, .ref m21, .ref m22, .ref m23, .ref m24, .ref m25, .ref m26, .ref m27, .ref m28, .int 0, .ref m30, .int 0, .int (-1), .int 0, .int 0, .int 0, .ref m36, .ref m37, .ref m38, .ref m39, .long 0]))] sz (po_X9_forget g k0 m0 m7 m8 m9 m13 m14 m15 m17 m18 m19 m20 m21 m22 m23 m24 m25 m26 m27 m28 m30 m36 m37 m38 m39) 0 0 := by
  refine k_of (g := g) (wc := [(k0, .inr (9, [.ref m0, .int 0, .int 0, .int 0, .int 0, .int 0, .int 0, .ref m7, .ref m8, .ref m9, .int 0, .int 0, .int 0, .ref m13, .ref m14, .ref m15, .int 0, .ref m17, .ref m18, .ref m19, .ref m20, .ref m21, .ref m22, .ref m23, .ref m24, .ref m25, .ref m26, .ref m27, .ref m28, .int 0, .ref m30, .int 0, .int (-1), .int 0, .int 0, .int 0, .ref m36, .ref m37, .ref m38, .ref m39, .long 0]))]) (Qc := fun A => va_Qi (po_X9_forget g k0 m0 m7 m8 m9 m13 m14 m15 m17 m18 m19 m20 m21 m22 m23 m24 m25 m26 m27 m28 m30 m36 m37 m38 m39) (bk g A) A) (cc := cX9_forget) (maxL := 2) (ret := (some .int)) (by decide) rfl (Nat.le_of_ble_eq_true rfl) ?_ sz
  intro p e s m below meth c hx hb hr hts hown hlocks hnm hml A hA hE hZ hP hD hS ls hl
  have hown : s.vm.findClass RX9 = some m.cls := hown
  have hl : lv_has ls 2 [(0, .ref k0)] := hl
  refine lv_aload_n hx hb dX9_forget_0 rfl (lv_at hl 0 rfl) ?_
  refine va_get (D := g.1) (ci := 9) (v := .int 0) (C := RX9) (T := TX9) (N := 41) hx hb hts q_X9_forget_f9 hown hE.1 hP 0 rfl rfl 29 (by decide) (hts (.fieldLink RX9 157 "SoundLawsModel" "seenMany" "I") q_X9_forget_1) (fun _ h9 => h9) rfl dX9_forget_1 ?_
  refine lv_istore_n (lv' := [(1, .int 0), (0, .ref k0)]) hx hb dX9_forget_4 rfl hl (by decide) rfl (fun ls hl => ?_)
  refine lv_aload_n hx hb dX9_forget_5 rfl (lv_at hl 1 rfl) ?_
  refine lv_iconst (v := 0) hx hb dX9_forget_6 (by decide) ?_
  refine va_put (D := g.1) (ci := 9) (v := .int 0) (ty := .int) (C := RX9) (T := TX9) (N := 41) hx hb hts q_X9_forget_f9 tyX9 tyX9_ok nmX9 hown hE.1 hP hD hS 0 rfl rfl 29 (by decide) (hts (.fieldLink RX9 157 "SoundLawsModel" "seenMany" "I") q_X9_forget_1) (fun _ h9 => h9) rfl (by decide +kernel) rfl rfl (Nat.le_of_ble_eq_true rfl) dX9_forget_7 (fun H locs hP hD hS => ?_)
  have hP : va_P g.1 vwCl [(k0, .inr (9, [.ref m0, .int 0, .int 0, .int 0, .int 0, .int 0, .int 0, .ref m7, .ref m8, .ref m9, .int 0, .int 0, .int 0, .ref m13, .ref m14, .ref m15, .int 0, .ref m17, .ref m18, .ref m19, .ref m20, .ref m21, .ref m22, .ref m23, .ref m24, .ref m25, .ref m26, .ref m27, .ref m28, .int 0, .ref m30, .int 0, .int (-1), .int 0, .int 0, .int 0, .ref m36, .ref m37, .ref m38, .ref m39, .long 0]))] H := hP
  have hD : va_D A [(k0, .inr (9, [.ref m0, .int 0, .int 0, .int 0, .int 0, .int 0, .int 0, .ref m7, .ref m8, .ref m9, .int 0, .int 0, .int 0, .ref m13, .ref m14, .ref m15, .int 0, .ref m17, .ref m18, .ref m19, .ref m20, .ref m21, .ref m22, .ref m23, .ref m24, .ref m25, .ref m26, .ref m27, .ref m28, .int 0, .ref m30, .int 0, .int (-1), .int 0, .int 0, .int 0, .ref m36, .ref m37, .ref m38, .ref m39, .long 0]))] := hD
  refine lv_iload_n hx hb dX9_forget_10 rfl (lv_at hl 0 rfl) ?_
  refine W.widen (k := 0) (n := 0) (Nat.le_of_ble_eq_true rfl) (Nat.le_of_ble_eq_true rfl) ?_
  have hP9 := hP.sub (ws' := []) [] rfl
  have hD9 := hD.sub (ws' := []) [] (by decide) rfl
  exact k_ri hx hb hr hlocks hS hP9 hD9 ⟨rfl, rfl⟩ dX9_forget_11
def po_X9_lacks (g : GG) (k0 : Nat) (m0 : Nat) (m7 : Nat) (m8 : Nat) (m9 : Nat) (m13 : Nat) (m14 : Nat) (m15 : Nat) (m17 : Nat) (m18 : Nat) (m19 : Nat) (m20 : Nat) (m21 : Nat) (m22 : Nat) (m23 : Nat) (m24 : Nat) (m25 : Nat) (m26 : Nat) (m27 : Nat) (m28 : Nat) (m30 : Nat) (m36 : Nat) (m37 : Nat) (m38 : Nat) (m39 : Nat) (hh : Int64) : Int32 → va_W → Prop := fun (r : Int32) w => w = [(k0, .inr (9, [.ref m0, .int 0, .int 0, .int 0, .int 0, .int 0, .int 0, .ref m7, .ref m8, .ref m9, .int 0, .int 0, .int 0, .ref m13, .ref m14, .ref m15, .int 0, .ref m17, .ref m18, .ref m19, .ref m20, .ref m21, .ref m22, .ref m23, .ref m24, .ref m25, .ref m26, .ref m27, .ref m28, .int 0, .ref m30, .int 0, .int (-1), .int 0, .int 0, .int 0, .ref m36, .ref m37, .ref m38, .ref m39, .long hh]))] ∧ (r = 1)
theorem q_X9_lacks_f9 : ∀ w ∈ u_ws RX9 TX9 41, w ∈ wsX9_lacks := by decide +kernel
theorem q_X9_lacks_1 : (Cond.fieldLink RX9 147 "SoundLawsModel" "sets" "I") ∈ wsX9_lacks := by decide +kernel
set_option maxHeartbeats 4000000 in
set_option maxRecDepth 100000 in
theorem c_X9_lacks (l : Launch) (g : GG) (k0 : Nat) (m0 : Nat) (m7 : Nat) (m8 : Nat) (m9 : Nat) (m13 : Nat) (m14 : Nat) (m15 : Nat) (m17 : Nat) (m18 : Nat) (m19 : Nat) (m20 : Nat) (m21 : Nat) (m22 : Nat) (m23 : Nat) (m24 : Nat) (m25 : Nat) (m26 : Nat) (m27 : Nat) (m28 : Nat) (m30 : Nat) (m36 : Nat) (m37 : Nat) (m38 : Nat) (m39 : Nat) (hh : Int64)  (sz : Nat) : MetI l yX9_lacks wsX9_lacks ({ frames := 0, cells := 0, slots := 0, locals := 0 }) g [.ref k0] [(k0, .inr (9, [.ref m0, .int 0, .int 0, .int 0, .int 0, .int 0, .int 0, .ref m7, .ref m8, .ref m9, .int 0, .int 0, .int 0, .ref m13, .ref m14, .ref m15, .int 0, .ref m17, .ref m18, .ref m19, .ref m20, .ref m21, .ref m22, .ref m23, .ref m24, .ref m25, .ref m26, .ref m27, .ref m28, .int 0, .ref m30, .int 0, .int (-1), .int 0, .int 0, .int 0, .ref m36, .ref m37, .ref m38, .ref m39, .long hh]))] sz (po_X9_lacks g k0 m0 m7 m8 m9 m13 m14 m15 m17 m18 m19 m20 m21 m22 m23 m24 m25 m26 m27 m28 m30 m36 m37 m38 m39 hh) 0 0 := by
  refine k_of (g := g) (wc := [(k0, .inr (9, [.ref m0, .int 0, .int 0, .int 0, .int 0, .int 0, .int 0, .ref m7, .ref m8, .ref m9, .int 0, .int 0, .int 0, .ref m13, .ref m14, .ref m15, .int 0, .ref m17, .ref m18, .ref m19, .ref m20, .ref m21, .ref m22, .ref m23, .ref m24, .ref m25, .ref m26, .ref m27, .ref m28, .int 0, .ref m30, .int 0, .int (-1), .int 0, .int 0, .int 0, .ref m36, .ref m37, .ref m38, .ref m39, .long hh]))]) (Qc := fun A => va_Qi (po_X9_lacks g k0 m0 m7 m8 m9 m13 m14 m15 m17 m18 m19 m20 m21 m22 m23 m24 m25 m26 m27 m28 m30 m36 m37 m38 m39 hh) (bk g A) A) (cc := cX9_lacks) (maxL := 1) (ret := (some .boolean)) (by decide) rfl (Nat.le_of_ble_eq_true rfl) ?_ sz
  intro p e s m below meth c hx hb hr hts hown hlocks hnm hml A hA hE hZ hP hD hS ls hl
  have hown : s.vm.findClass RX9 = some m.cls := hown
  have hl : lv_has ls 1 [(0, .ref k0)] := hl
  refine lv_aload_n hx hb dX9_lacks_0 rfl (lv_at hl 0 rfl) ?_
  refine va_get (D := g.1) (ci := 9) (v := .int 0) (C := RX9) (T := TX9) (N := 41) hx hb hts q_X9_lacks_f9 hown hE.1 hP 0 rfl rfl 10 (by decide) (hts (.fieldLink RX9 147 "SoundLawsModel" "sets" "I") q_X9_lacks_1) (fun _ h9 => h9) rfl dX9_lacks_1 ?_
  refine lv_if_ne (tgt := 11) hx hb dX9_lacks_4 (by decide) (fun c4_1 => ?_) (fun c4_1 => ?_)
  · exact absurd c4_1 (by decide)
  · skip
    refine lv_iconst (v := 1) hx hb dX9_lacks_7 (by decide) ?_
    refine lv_goto (tgt := 12) hx hb dX9_lacks_8 (by decide) ?_
    refine W.widen (k := 0) (n := 0) (Nat.le_of_ble_eq_true rfl) (Nat.le_of_ble_eq_true rfl) ?_
    exact k_rz hx hb hr hlocks hS hP hD rfl ⟨rfl, rfl⟩ dX9_lacks_12
def po_X9_image (g : GG) (k0 : Nat) (m0 : Nat) (m7 : Nat) (m8 : Nat) (m9 : Nat) (m13 : Nat) (m14 : Nat) (m15 : Nat) (m17 : Nat) (m18 : Nat) (m19 : Nat) (m20 : Nat) (m21 : Nat) (m22 : Nat) (m23 : Nat) (m24 : Nat) (m25 : Nat) (m26 : Nat) (m27 : Nat) (m28 : Nat) (m30 : Nat) (m36 : Nat) (m37 : Nat) (m38 : Nat) (m39 : Nat) : Int32 → va_W → Prop := fun (r : Int32) w => w = [] ∧ (r = (-103))
set_option maxHeartbeats 4000000 in
set_option maxRecDepth 100000 in
theorem c_X9_image (l : Launch) (g : GG) (k0 : Nat) (m0 : Nat) (m7 : Nat) (m8 : Nat) (m9 : Nat) (m13 : Nat) (m14 : Nat) (m15 : Nat) (m17 : Nat) (m18 : Nat) (m19 : Nat) (m20 : Nat) (m21 : Nat) (m22 : Nat) (m23 : Nat) (m24 : Nat) (m25 : Nat) (m26 : Nat) (m27 : Nat) (m28 : Nat) (m30 : Nat) (m36 : Nat) (m37 : Nat) (m38 : Nat) (m39 : Nat)  (sz : Nat) : MetI l yX9_image wsX9_image ({ frames := 1, cells := 0, slots := 0, locals := 20 }) g [.ref k0] [(k0, .inr (9, [.ref m0, .int 0, .int 0, .int 0, .int 0, .int 0, .int 0, .ref m7, .ref m8, .ref m9, .int 0, .int 0, .int 0, .ref m13, .ref m14, .ref m15, .int 0, .ref m17, .ref m18, .ref m19, .ref m20, .ref m21, .ref m22, .ref m23, .ref m24, .ref m25, .ref m26, .ref m27, .ref m28, .int 0, .ref m30, .int 0, .int (-1), .int 0, .int 0, .int 0, .ref m36, .ref m37, .ref m38, .ref m39, .long 0]))] sz (po_X9_image g k0 m0 m7 m8 m9 m13 m14 m15 m17 m18 m19 m20 m21 m22 m23 m24 m25 m26 m27 m28 m30 m36 m37 m38 m39) 0 0 := by
  refine k_of (g := g) (wc := [(k0, .inr (9, [.ref m0, .int 0, .int 0, .int 0, .int 0, .int 0, .int 0, .ref m7, .ref m8, .ref m9, .int 0, .int 0, .int 0, .ref m13, .ref m14, .ref m15, .int 0, .ref m17, .ref m18, .ref m19, .ref m20, .ref m21, .ref m22, .ref m23, .ref m24, .ref m25, .ref m26, .ref m27, .ref m28, .int 0, .ref m30, .int 0, .int (-1), .int 0, .int 0, .int 0, .ref m36, .ref m37, .ref m38, .ref m39, .long 0]))]) (Qc := fun A => va_Qi (po_X9_image g k0 m0 m7 m8 m9 m13 m14 m15 m17 m18 m19 m20 m21 m22 m23 m24 m25 m26 m27 m28 m30 m36 m37 m38 m39) (bk g A) A) (cc := cX9_image) (maxL := 1) (ret := (some .int)) (by decide) rfl (Nat.le_of_ble_eq_true rfl) ?_ sz
  intro p e s m below meth c hx hb hr hts hown hlocks hnm hml A hA hE hZ hP hD hS ls hl
  have hown : s.vm.findClass RX9 = some m.cls := hown
  have hl : lv_has ls 1 [(0, .ref k0)] := hl
  refine lv_aload_n hx hb dX9_image_0 rfl (lv_at hl 0 rfl) ?_
  refine k_ci (wr := []) hP hD hS hA [0] [] rfl rfl (by decide) (by decide) (va_runV (As := []) (rest := []) ⟨hx, hb, hml, hown, hts⟩ (c_X9_lacks l g k0 m0 m7 m8 m9 m13 m14 m15 m17 m18 m19 m20 m21 m22 m23 m24 m25 m26 m27 m28 m30 m36 m37 m38 m39 0  H.size) (cwV 0 hts gX9_image_X9_lacks rfl rfl rfl (by decide +kernel) ⟨Nat.le_of_ble_eq_true rfl, Nat.le_of_ble_eq_true rfl⟩) (k_preV hE hZ hP hD hS hA [0] rfl (by decide) (va_recv hE.1 hP (ci := 9) (q0 := 0) rfl rfl)) rfl rfl hl.1 rfl (lv_room (Nat.le_of_ble_eq_true rfl)) dX9_image_1 ⟨Nat.le_of_ble_eq_true rfl, Nat.le_of_ble_eq_true rfl⟩) (fun r_1 w1 H locs hw hP hD hS => ?_)
  obtain ⟨rfl, rfl⟩ := hw
  have hP : va_P g.1 vwCl [(k0, .inr (9, [.ref m0, .int 0, .int 0, .int 0, .int 0, .int 0, .int 0, .ref m7, .ref m8, .ref m9, .int 0, .int 0, .int 0, .ref m13, .ref m14, .ref m15, .int 0, .ref m17, .ref m18, .ref m19, .ref m20, .ref m21, .ref m22, .ref m23, .ref m24, .ref m25, .ref m26, .ref m27, .ref m28, .int 0, .ref m30, .int 0, .int (-1), .int 0, .int 0, .int 0, .ref m36, .ref m37, .ref m38, .ref m39, .long 0]))] H := hP
  have hD : va_D A [(k0, .inr (9, [.ref m0, .int 0, .int 0, .int 0, .int 0, .int 0, .int 0, .ref m7, .ref m8, .ref m9, .int 0, .int 0, .int 0, .ref m13, .ref m14, .ref m15, .int 0, .ref m17, .ref m18, .ref m19, .ref m20, .ref m21, .ref m22, .ref m23, .ref m24, .ref m25, .ref m26, .ref m27, .ref m28, .int 0, .ref m30, .int 0, .int (-1), .int 0, .int 0, .int 0, .ref m36, .ref m37, .ref m38, .ref m39, .long 0]))] := hD
  refine lv_if_eq (tgt := 10) hx hb dX9_image_4 (by decide) (fun c4_3 => ?_) (fun c4_3 => ?_)
  · exact absurd c4_3 (by decide)
  · skip
    refine lv_bipush (v := (-103)) hx hb dX9_image_7 (by decide) ?_
    refine W.widen (k := 0) (n := 0) (Nat.le_of_ble_eq_true rfl) (Nat.le_of_ble_eq_true rfl) ?_
    have hP9 := hP.sub (ws' := []) [] rfl
    have hD9 := hD.sub (ws' := []) [] (by decide) rfl
    exact k_ri hx hb hr hlocks hS hP9 hD9 ⟨rfl, rfl⟩ dX9_image_9
def po_X9_restore (g : GG) (k0 : Nat) (m0 : Nat) (m7 : Nat) (m8 : Nat) (m9 : Nat) (m13 : Nat) (m14 : Nat) (m15 : Nat) (m17 : Nat) (m18 : Nat) (m19 : Nat) (m20 : Nat) (m21 : Nat) (m22 : Nat) (m23 : Nat) (m24 : Nat) (m25 : Nat) (m26 : Nat) (m27 : Nat) (m28 : Nat) (m30 : Nat) (m36 : Nat) (m37 : Nat) (m38 : Nat) (m39 : Nat) : Int32 → va_W → Prop := fun (r : Int32) w => w = [] ∧ (r = (-103))
theorem q_X9_restore_f9 : ∀ w ∈ u_ws RX9 TX9 41, w ∈ wsX9_restore := by decide +kernel
theorem q_X9_restore_1 : (Cond.fieldLink RX9 82 "SoundLawsModel" "keptSets" "I") ∈ wsX9_restore := by decide +kernel
theorem q_X9_restore_2 : (Cond.fieldLink RX9 160 "SoundLawsModel" "setsRead" "I") ∈ wsX9_restore := by decide +kernel
set_option maxHeartbeats 4000000 in
set_option maxRecDepth 100000 in
theorem c_X9_restore (l : Launch) (g : GG) (k0 : Nat) (m0 : Nat) (m7 : Nat) (m8 : Nat) (m9 : Nat) (m13 : Nat) (m14 : Nat) (m15 : Nat) (m17 : Nat) (m18 : Nat) (m19 : Nat) (m20 : Nat) (m21 : Nat) (m22 : Nat) (m23 : Nat) (m24 : Nat) (m25 : Nat) (m26 : Nat) (m27 : Nat) (m28 : Nat) (m30 : Nat) (m36 : Nat) (m37 : Nat) (m38 : Nat) (m39 : Nat)  (sz : Nat) : MetI l yX9_restore wsX9_restore ({ frames := 0, cells := 0, slots := 0, locals := 0 }) g [.ref k0] [(k0, .inr (9, [.ref m0, .int 0, .int 0, .int 0, .int 0, .int 0, .int 0, .ref m7, .ref m8, .ref m9, .int 0, .int 0, .int 0, .ref m13, .ref m14, .ref m15, .int 0, .ref m17, .ref m18, .ref m19, .ref m20, .ref m21, .ref m22, .ref m23, .ref m24, .ref m25, .ref m26, .ref m27, .ref m28, .int 0, .ref m30, .int 0, .int (-1), .int 0, .int 0, .int 0, .ref m36, .ref m37, .ref m38, .ref m39, .long 0]))] sz (po_X9_restore g k0 m0 m7 m8 m9 m13 m14 m15 m17 m18 m19 m20 m21 m22 m23 m24 m25 m26 m27 m28 m30 m36 m37 m38 m39) 0 0 := by
  refine k_of (g := g) (wc := [(k0, .inr (9, [.ref m0, .int 0, .int 0, .int 0, .int 0, .int 0, .int 0, .ref m7, .ref m8, .ref m9, .int 0, .int 0, .int 0, .ref m13, .ref m14, .ref m15, .int 0, .ref m17, .ref m18, .ref m19, .ref m20, .ref m21, .ref m22, .ref m23, .ref m24, .ref m25, .ref m26, .ref m27, .ref m28, .int 0, .ref m30, .int 0, .int (-1), .int 0, .int 0, .int 0, .ref m36, .ref m37, .ref m38, .ref m39, .long 0]))]) (Qc := fun A => va_Qi (po_X9_restore g k0 m0 m7 m8 m9 m13 m14 m15 m17 m18 m19 m20 m21 m22 m23 m24 m25 m26 m27 m28 m30 m36 m37 m38 m39) (bk g A) A) (cc := cX9_restore) (maxL := 1) (ret := (some .int)) (by decide) rfl (Nat.le_of_ble_eq_true rfl) ?_ sz
  intro p e s m below meth c hx hb hr hts hown hlocks hnm hml A hA hE hZ hP hD hS ls hl
  have hown : s.vm.findClass RX9 = some m.cls := hown
  have hl : lv_has ls 1 [(0, .ref k0)] := hl
  refine lv_aload_n hx hb dX9_restore_0 rfl (lv_at hl 0 rfl) ?_
  refine va_get (D := g.1) (ci := 9) (v := .int (-1)) (C := RX9) (T := TX9) (N := 41) hx hb hts q_X9_restore_f9 hown hE.1 hP 0 rfl rfl 32 (by decide) (hts (.fieldLink RX9 82 "SoundLawsModel" "keptSets" "I") q_X9_restore_1) (fun _ h9 => h9) rfl dX9_restore_1 ?_
  refine lv_aload_n hx hb dX9_restore_4 rfl (lv_at hl 0 rfl) ?_
  refine va_get (D := g.1) (ci := 9) (v := .int 0) (C := RX9) (T := TX9) (N := 41) hx hb hts q_X9_restore_f9 hown hE.1 hP 0 rfl rfl 12 (by decide) (hts (.fieldLink RX9 160 "SoundLawsModel" "setsRead" "I") q_X9_restore_2) (fun _ h9 => h9) rfl dX9_restore_5 ?_
  refine lv_icmp_eq (tgt := 14) hx hb dX9_restore_8 (by decide) (fun c8_1 => ?_) (fun c8_1 => ?_)
  · exact absurd c8_1 (by decide)
  · skip
    refine lv_bipush (v := (-103)) hx hb dX9_restore_11 (by decide) ?_
    refine W.widen (k := 0) (n := 0) (Nat.le_of_ble_eq_true rfl) (Nat.le_of_ble_eq_true rfl) ?_
    have hP9 := hP.sub (ws' := []) [] rfl
    have hD9 := hD.sub (ws' := []) [] (by decide) rfl
    exact k_ri hx hb hr hlocks hS hP9 hD9 ⟨rfl, rfl⟩ dX9_restore_13
def po_X9_cost (g : GG) (k0 : Nat) (m0 : Nat) (m7 : Nat) (m8 : Nat) (m9 : Nat) (m13 : Nat) (m14 : Nat) (m15 : Nat) (m17 : Nat) (m18 : Nat) (m19 : Nat) (m20 : Nat) (m21 : Nat) (m22 : Nat) (m23 : Nat) (m24 : Nat) (m25 : Nat) (m26 : Nat) (m27 : Nat) (m28 : Nat) (m30 : Nat) (m36 : Nat) (m37 : Nat) (m38 : Nat) (m39 : Nat) (p1 : Int32) (p2 : Int32) : Int32 → va_W → Prop := fun (r : Int32) w => w = [] ∧ (r = rC p1 p2)
theorem q_X9_cost_0 : (Cond.constantLong RX9 171 (8)) ∈ wsX9_cost := by decide +kernel
set_option maxHeartbeats 4000000 in
set_option maxRecDepth 100000 in
theorem c_X9_cost (l : Launch) (g : GG) (k0 : Nat) (m0 : Nat) (m7 : Nat) (m8 : Nat) (m9 : Nat) (m13 : Nat) (m14 : Nat) (m15 : Nat) (m17 : Nat) (m18 : Nat) (m19 : Nat) (m20 : Nat) (m21 : Nat) (m22 : Nat) (m23 : Nat) (m24 : Nat) (m25 : Nat) (m26 : Nat) (m27 : Nat) (m28 : Nat) (m30 : Nat) (m36 : Nat) (m37 : Nat) (m38 : Nat) (m39 : Nat) (p1 : Int32) (p2 : Int32)  (sz : Nat) : MetI l yX9_cost wsX9_cost ({ frames := 3, cells := 0, slots := 0, locals := 66 }) g [.ref k0, .int p1, .int p2] [(k0, .inr (9, [.ref m0, .int 0, .int 0, .int 0, .int 0, .int 0, .int 0, .ref m7, .ref m8, .ref m9, .int 0, .int 0, .int 0, .ref m13, .ref m14, .ref m15, .int 0, .ref m17, .ref m18, .ref m19, .ref m20, .ref m21, .ref m22, .ref m23, .ref m24, .ref m25, .ref m26, .ref m27, .ref m28, .int 0, .ref m30, .int 0, .int (-1), .int 0, .int 0, .int 0, .ref m36, .ref m37, .ref m38, .ref m39, .long 0]))] sz (po_X9_cost g k0 m0 m7 m8 m9 m13 m14 m15 m17 m18 m19 m20 m21 m22 m23 m24 m25 m26 m27 m28 m30 m36 m37 m38 m39 p1 p2) 0 0 := by
  refine k_of (g := g) (wc := [(k0, .inr (9, [.ref m0, .int 0, .int 0, .int 0, .int 0, .int 0, .int 0, .ref m7, .ref m8, .ref m9, .int 0, .int 0, .int 0, .ref m13, .ref m14, .ref m15, .int 0, .ref m17, .ref m18, .ref m19, .ref m20, .ref m21, .ref m22, .ref m23, .ref m24, .ref m25, .ref m26, .ref m27, .ref m28, .int 0, .ref m30, .int 0, .int (-1), .int 0, .int 0, .int 0, .ref m36, .ref m37, .ref m38, .ref m39, .long 0]))]) (Qc := fun A => va_Qi (po_X9_cost g k0 m0 m7 m8 m9 m13 m14 m15 m17 m18 m19 m20 m21 m22 m23 m24 m25 m26 m27 m28 m30 m36 m37 m38 m39 p1 p2) (bk g A) A) (cc := cX9_cost) (maxL := 3) (ret := (some .int)) (by decide) rfl (Nat.le_of_ble_eq_true rfl) ?_ sz
  intro p e s m below meth c hx hb hr hts hown hlocks hnm hml A hA hE hZ hP hD hS ls hl
  have hown : s.vm.findClass RX9 = some m.cls := hown
  have hl : lv_has ls 3 [(0, .ref k0), (1, .int p1), (2, .int p2)] := hl
  refine lv_iload_n hx hb dX9_cost_0 rfl (lv_at hl 1 rfl) ?_
  refine lv_i2l hx hb dX9_cost_1 rfl ?_
  refine lv_lconst (v := 0) hx hb dX9_cost_2 (by decide) ?_
  refine lv_ldc2 hx hb hown (hts (.constantLong RX9 171 (8)) q_X9_cost_0) dX9_cost_3 ?_
  refine k_ci (wr := [(k0, .inr (9, [.ref m0, .int 0, .int 0, .int 0, .int 0, .int 0, .int 0, .ref m7, .ref m8, .ref m9, .int 0, .int 0, .int 0, .ref m13, .ref m14, .ref m15, .int 0, .ref m17, .ref m18, .ref m19, .ref m20, .ref m21, .ref m22, .ref m23, .ref m24, .ref m25, .ref m26, .ref m27, .ref m28, .int 0, .ref m30, .int 0, .int (-1), .int 0, .int 0, .int 0, .ref m36, .ref m37, .ref m38, .ref m39, .long 0]))]) hP hD hS hA [] [0] rfl rfl (by decide) (by decide) (va_runS (As := [.long ((p1 : Int32).toInt64), .long 0, .long 8]) (rest := []) ⟨hx, hb, hml, hown, hts⟩ (c_X9_in l g ((p1 : Int32).toInt64) 0 8  H.size) (va_cwS 3 hts gX9_cost_X9_in rfl rfl rfl (by decide +kernel) ⟨Nat.le_of_ble_eq_true rfl, Nat.le_of_ble_eq_true rfl⟩) (k_preS hE hZ hP hD hS hA [] rfl (by decide)) rfl rfl hl.1 rfl (lv_room (Nat.le_of_ble_eq_true rfl)) dX9_cost_6 ⟨Nat.le_of_ble_eq_true rfl, Nat.le_of_ble_eq_true rfl⟩) (fun r_1 w1 H locs hw hP hD hS => ?_)
  obtain ⟨rfl, rfl⟩ := hw
  have hP : va_P g.1 vwCl [(k0, .inr (9, [.ref m0, .int 0, .int 0, .int 0, .int 0, .int 0, .int 0, .ref m7, .ref m8, .ref m9, .int 0, .int 0, .int 0, .ref m13, .ref m14, .ref m15, .int 0, .ref m17, .ref m18, .ref m19, .ref m20, .ref m21, .ref m22, .ref m23, .ref m24, .ref m25, .ref m26, .ref m27, .ref m28, .int 0, .ref m30, .int 0, .int (-1), .int 0, .int 0, .int 0, .ref m36, .ref m37, .ref m38, .ref m39, .long 0]))] H := hP
  have hD : va_D A [(k0, .inr (9, [.ref m0, .int 0, .int 0, .int 0, .int 0, .int 0, .int 0, .ref m7, .ref m8, .ref m9, .int 0, .int 0, .int 0, .ref m13, .ref m14, .ref m15, .int 0, .ref m17, .ref m18, .ref m19, .ref m20, .ref m21, .ref m22, .ref m23, .ref m24, .ref m25, .ref m26, .ref m27, .ref m28, .int 0, .ref m30, .int 0, .int (-1), .int 0, .int 0, .int 0, .ref m36, .ref m37, .ref m38, .ref m39, .long 0]))] := hD
  refine lv_if_eq (tgt := 32) hx hb dX9_cost_9 (by decide) (fun c9_3 => ?_) (fun c9_3 => ?_)
  · skip
    refine lv_bipush (v := (-101)) hx hb dX9_cost_32 (by decide) ?_
    refine W.widen (k := 0) (n := 0) (Nat.le_of_ble_eq_true rfl) (Nat.le_of_ble_eq_true rfl) ?_
    have hP9 := hP.sub (ws' := []) [] rfl
    have hD9 := hD.sub (ws' := []) [] (by decide) rfl
    exact k_ri hx hb hr hlocks hS hP9 hD9 ⟨rfl, (by unfold rC; rw [if_pos (Or.inl ((in_eq (x := p1) (a := 0) (b := 8) c9_3).imp id (lt9_iff _).mp))])⟩ dX9_cost_34
  · skip
    refine lv_iload_n hx hb dX9_cost_12 rfl (lv_at hl 2 rfl) ?_
    refine lv_i2l hx hb dX9_cost_13 rfl ?_
    refine lv_lconst (v := 0) hx hb dX9_cost_14 (by decide) ?_
    refine lv_ldc2 hx hb hown (hts (.constantLong RX9 171 (8)) q_X9_cost_0) dX9_cost_15 ?_
    refine k_ci (wr := [(k0, .inr (9, [.ref m0, .int 0, .int 0, .int 0, .int 0, .int 0, .int 0, .ref m7, .ref m8, .ref m9, .int 0, .int 0, .int 0, .ref m13, .ref m14, .ref m15, .int 0, .ref m17, .ref m18, .ref m19, .ref m20, .ref m21, .ref m22, .ref m23, .ref m24, .ref m25, .ref m26, .ref m27, .ref m28, .int 0, .ref m30, .int 0, .int (-1), .int 0, .int 0, .int 0, .ref m36, .ref m37, .ref m38, .ref m39, .long 0]))]) hP hD hS hA [] [0] rfl rfl (by decide) (by decide) (va_runS (As := [.long ((p2 : Int32).toInt64), .long 0, .long 8]) (rest := []) ⟨hx, hb, hml, hown, hts⟩ (c_X9_in l g ((p2 : Int32).toInt64) 0 8  H.size) (va_cwS 3 hts gX9_cost_X9_in rfl rfl rfl (by decide +kernel) ⟨Nat.le_of_ble_eq_true rfl, Nat.le_of_ble_eq_true rfl⟩) (k_preS hE hZ hP hD hS hA [] rfl (by decide)) rfl rfl hl.1 rfl (lv_room (Nat.le_of_ble_eq_true rfl)) dX9_cost_18 ⟨Nat.le_of_ble_eq_true rfl, Nat.le_of_ble_eq_true rfl⟩) (fun r_4 w1 H locs hw hP hD hS => ?_)
    obtain ⟨rfl, rfl⟩ := hw
    have hP : va_P g.1 vwCl [(k0, .inr (9, [.ref m0, .int 0, .int 0, .int 0, .int 0, .int 0, .int 0, .ref m7, .ref m8, .ref m9, .int 0, .int 0, .int 0, .ref m13, .ref m14, .ref m15, .int 0, .ref m17, .ref m18, .ref m19, .ref m20, .ref m21, .ref m22, .ref m23, .ref m24, .ref m25, .ref m26, .ref m27, .ref m28, .int 0, .ref m30, .int 0, .int (-1), .int 0, .int 0, .int 0, .ref m36, .ref m37, .ref m38, .ref m39, .long 0]))] H := hP
    have hD : va_D A [(k0, .inr (9, [.ref m0, .int 0, .int 0, .int 0, .int 0, .int 0, .int 0, .ref m7, .ref m8, .ref m9, .int 0, .int 0, .int 0, .ref m13, .ref m14, .ref m15, .int 0, .ref m17, .ref m18, .ref m19, .ref m20, .ref m21, .ref m22, .ref m23, .ref m24, .ref m25, .ref m26, .ref m27, .ref m28, .int 0, .ref m30, .int 0, .int (-1), .int 0, .int 0, .int 0, .ref m36, .ref m37, .ref m38, .ref m39, .long 0]))] := hD
    refine lv_if_eq (tgt := 32) hx hb dX9_cost_21 (by decide) (fun c21_6 => ?_) (fun c21_6 => ?_)
    · skip
      refine lv_bipush (v := (-101)) hx hb dX9_cost_32 (by decide) ?_
      refine W.widen (k := 0) (n := 0) (Nat.le_of_ble_eq_true rfl) (Nat.le_of_ble_eq_true rfl) ?_
      have hP9 := hP.sub (ws' := []) [] rfl
      have hD9 := hD.sub (ws' := []) [] (by decide) rfl
      exact k_ri hx hb hr hlocks hS hP9 hD9 ⟨rfl, (by unfold rC; rw [if_pos (Or.inr ((in_eq (x := p2) (a := 0) (b := 8) c21_6).imp id (lt9_iff _).mp))])⟩ dX9_cost_34
    · skip
      have hi_p1 := in_ne (x := p1) (a := 0) (b := 8) c9_3
      have hi_p2 := in_ne (x := p2) (a := 0) (b := 8) c21_6
      obtain ⟨i, hi, rfl⟩ := isS_of (p := p1) (fun q => (isS_0 q).elim hi_p1.1 (fun r => hi_p1.2 ((lt9_iff _).mpr r)))
      obtain ⟨j, hj, rfl⟩ := isS_of (p := p2) (fun q => (isS_0 q).elim hi_p2.1 (fun r => hi_p2.2 ((lt9_iff _).mpr r)))
      refine lv_iload_n hx hb dX9_cost_24 rfl (lv_at hl 1 rfl) ?_
      refine lv_iload_n hx hb dX9_cost_25 rfl (lv_at hl 2 rfl) ?_
      refine k_ci (wr := [(k0, .inr (9, [.ref m0, .int 0, .int 0, .int 0, .int 0, .int 0, .int 0, .ref m7, .ref m8, .ref m9, .int 0, .int 0, .int 0, .ref m13, .ref m14, .ref m15, .int 0, .ref m17, .ref m18, .ref m19, .ref m20, .ref m21, .ref m22, .ref m23, .ref m24, .ref m25, .ref m26, .ref m27, .ref m28, .int 0, .ref m30, .int 0, .int (-1), .int 0, .int 0, .int 0, .ref m36, .ref m37, .ref m38, .ref m39, .long 0]))]) hP hD hS hA [] [0] rfl rfl (by decide) (by decide) (va_runS (As := [.int (nI i), .int (nI j)]) (rest := []) ⟨hx, hb, hml, hown, hts⟩ (c_X9_costOf l g (nI i) (nI j)  H.size) (va_cwS 2 hts gX9_cost_X9_costOf rfl rfl rfl (by decide +kernel) ⟨Nat.le_of_ble_eq_true rfl, Nat.le_of_ble_eq_true rfl⟩) (k_preS hE hZ hP hD hS hA [] rfl (by decide)) rfl rfl hl.1 rfl (lv_room (Nat.le_of_ble_eq_true rfl)) dX9_cost_26 ⟨Nat.le_of_ble_eq_true rfl, Nat.le_of_ble_eq_true rfl⟩) (fun r_7 w1 H locs hw hP hD hS => ?_)
      obtain ⟨rfl, rfl⟩ := hw
      have hP : va_P g.1 vwCl [(k0, .inr (9, [.ref m0, .int 0, .int 0, .int 0, .int 0, .int 0, .int 0, .ref m7, .ref m8, .ref m9, .int 0, .int 0, .int 0, .ref m13, .ref m14, .ref m15, .int 0, .ref m17, .ref m18, .ref m19, .ref m20, .ref m21, .ref m22, .ref m23, .ref m24, .ref m25, .ref m26, .ref m27, .ref m28, .int 0, .ref m30, .int 0, .int (-1), .int 0, .int 0, .int 0, .ref m36, .ref m37, .ref m38, .ref m39, .long 0]))] H := hP
      have hD : va_D A [(k0, .inr (9, [.ref m0, .int 0, .int 0, .int 0, .int 0, .int 0, .int 0, .ref m7, .ref m8, .ref m9, .int 0, .int 0, .int 0, .ref m13, .ref m14, .ref m15, .int 0, .ref m17, .ref m18, .ref m19, .ref m20, .ref m21, .ref m22, .ref m23, .ref m24, .ref m25, .ref m26, .ref m27, .ref m28, .int 0, .ref m30, .int 0, .int (-1), .int 0, .int 0, .int 0, .ref m36, .ref m37, .ref m38, .ref m39, .long 0]))] := hD
      refine lv_goto (tgt := 34) hx hb dX9_cost_29 (by decide) ?_
      refine W.widen (k := 0) (n := 0) (Nat.le_of_ble_eq_true rfl) (Nat.le_of_ble_eq_true rfl) ?_
      have hP9 := hP.sub (ws' := []) [] rfl
      have hD9 := hD.sub (ws' := []) [] (by decide) rfl
      exact k_ri hx hb hr hlocks hS hP9 hD9 ⟨rfl, (by rw [rC_nI hi hj, cm_cs i hi j hj, cm_sym i hi j hj])⟩ dX9_cost_34
def po_X9_countSets (g : GG) (k0 : Nat) (m0 : Nat) (m7 : Nat) (m8 : Nat) (m9 : Nat) (m13 : Nat) (m14 : Nat) (m15 : Nat) (m17 : Nat) (m18 : Nat) (m19 : Nat) (m20 : Nat) (m21 : Nat) (m22 : Nat) (m23 : Nat) (m24 : Nat) (m25 : Nat) (m26 : Nat) (m27 : Nat) (m28 : Nat) (m30 : Nat) (m36 : Nat) (m37 : Nat) (m38 : Nat) (m39 : Nat) (hh : Int64) (p1 : Int32) : Int32 → va_W → Prop := fun (r : Int32) w => w = [(k0, .inr (9, [.ref m0, .int 0, .int 0, .int 0, .int 0, .int 0, .int 0, .ref m7, .ref m8, .ref m9, .int 0, .int 0, .int 0, .ref m13, .ref m14, .ref m15, .int 0, .ref m17, .ref m18, .ref m19, .ref m20, .ref m21, .ref m22, .ref m23, .ref m24, .ref m25, .ref m26, .ref m27, .ref m28, .int 0, .ref m30, .int 0, .int (-1), .int 0, .int 0, .int 0, .ref m36, .ref m37, .ref m38, .ref m39, .long hh]))] ∧ (r = 0)
set_option maxHeartbeats 4000000 in
set_option maxRecDepth 100000 in
theorem c_X9_countSets (l : Launch) (g : GG) (k0 : Nat) (m0 : Nat) (m7 : Nat) (m8 : Nat) (m9 : Nat) (m13 : Nat) (m14 : Nat) (m15 : Nat) (m17 : Nat) (m18 : Nat) (m19 : Nat) (m20 : Nat) (m21 : Nat) (m22 : Nat) (m23 : Nat) (m24 : Nat) (m25 : Nat) (m26 : Nat) (m27 : Nat) (m28 : Nat) (m30 : Nat) (m36 : Nat) (m37 : Nat) (m38 : Nat) (m39 : Nat) (hh : Int64) (p1 : Int32)  (sz : Nat) : MetI l yX9_countSets wsX9_countSets ({ frames := 1, cells := 0, slots := 0, locals := 20 }) g [.ref k0, .int p1] [(k0, .inr (9, [.ref m0, .int 0, .int 0, .int 0, .int 0, .int 0, .int 0, .ref m7, .ref m8, .ref m9, .int 0, .int 0, .int 0, .ref m13, .ref m14, .ref m15, .int 0, .ref m17, .ref m18, .ref m19, .ref m20, .ref m21, .ref m22, .ref m23, .ref m24, .ref m25, .ref m26, .ref m27, .ref m28, .int 0, .ref m30, .int 0, .int (-1), .int 0, .int 0, .int 0, .ref m36, .ref m37, .ref m38, .ref m39, .long hh]))] sz (po_X9_countSets g k0 m0 m7 m8 m9 m13 m14 m15 m17 m18 m19 m20 m21 m22 m23 m24 m25 m26 m27 m28 m30 m36 m37 m38 m39 hh p1) 0 0 := by
  refine k_of (g := g) (wc := [(k0, .inr (9, [.ref m0, .int 0, .int 0, .int 0, .int 0, .int 0, .int 0, .ref m7, .ref m8, .ref m9, .int 0, .int 0, .int 0, .ref m13, .ref m14, .ref m15, .int 0, .ref m17, .ref m18, .ref m19, .ref m20, .ref m21, .ref m22, .ref m23, .ref m24, .ref m25, .ref m26, .ref m27, .ref m28, .int 0, .ref m30, .int 0, .int (-1), .int 0, .int 0, .int 0, .ref m36, .ref m37, .ref m38, .ref m39, .long hh]))]) (Qc := fun A => va_Qi (po_X9_countSets g k0 m0 m7 m8 m9 m13 m14 m15 m17 m18 m19 m20 m21 m22 m23 m24 m25 m26 m27 m28 m30 m36 m37 m38 m39 hh p1) (bk g A) A) (cc := cX9_countSets) (maxL := 2) (ret := (some .int)) (by decide) rfl (Nat.le_of_ble_eq_true rfl) ?_ sz
  intro p e s m below meth c hx hb hr hts hown hlocks hnm hml A hA hE hZ hP hD hS ls hl
  have hown : s.vm.findClass RX9 = some m.cls := hown
  have hl : lv_has ls 2 [(0, .ref k0), (1, .int p1)] := hl
  refine lv_aload_n hx hb dX9_countSets_0 rfl (lv_at hl 0 rfl) ?_
  refine k_ci (wr := []) hP hD hS hA [0] [] rfl rfl (by decide) (by decide) (va_runV (As := []) (rest := []) ⟨hx, hb, hml, hown, hts⟩ (c_X9_lacks l g k0 m0 m7 m8 m9 m13 m14 m15 m17 m18 m19 m20 m21 m22 m23 m24 m25 m26 m27 m28 m30 m36 m37 m38 m39 hh  H.size) (cwV 0 hts gX9_countSets_X9_lacks rfl rfl rfl (by decide +kernel) ⟨Nat.le_of_ble_eq_true rfl, Nat.le_of_ble_eq_true rfl⟩) (k_preV hE hZ hP hD hS hA [0] rfl (by decide) (va_recv hE.1 hP (ci := 9) (q0 := 0) rfl rfl)) rfl rfl hl.1 rfl (lv_room (Nat.le_of_ble_eq_true rfl)) dX9_countSets_1 ⟨Nat.le_of_ble_eq_true rfl, Nat.le_of_ble_eq_true rfl⟩) (fun r_1 w1 H locs hw hP hD hS => ?_)
  obtain ⟨rfl, rfl⟩ := hw
  have hP : va_P g.1 vwCl [(k0, .inr (9, [.ref m0, .int 0, .int 0, .int 0, .int 0, .int 0, .int 0, .ref m7, .ref m8, .ref m9, .int 0, .int 0, .int 0, .ref m13, .ref m14, .ref m15, .int 0, .ref m17, .ref m18, .ref m19, .ref m20, .ref m21, .ref m22, .ref m23, .ref m24, .ref m25, .ref m26, .ref m27, .ref m28, .int 0, .ref m30, .int 0, .int (-1), .int 0, .int 0, .int 0, .ref m36, .ref m37, .ref m38, .ref m39, .long hh]))] H := hP
  have hD : va_D A [(k0, .inr (9, [.ref m0, .int 0, .int 0, .int 0, .int 0, .int 0, .int 0, .ref m7, .ref m8, .ref m9, .int 0, .int 0, .int 0, .ref m13, .ref m14, .ref m15, .int 0, .ref m17, .ref m18, .ref m19, .ref m20, .ref m21, .ref m22, .ref m23, .ref m24, .ref m25, .ref m26, .ref m27, .ref m28, .int 0, .ref m30, .int 0, .int (-1), .int 0, .int 0, .int 0, .ref m36, .ref m37, .ref m38, .ref m39, .long hh]))] := hD
  refine lv_if_eq (tgt := 9) hx hb dX9_countSets_4 (by decide) (fun c4_3 => ?_) (fun c4_3 => ?_)
  · exact absurd c4_3 (by decide)
  · skip
    refine lv_iconst (v := 0) hx hb dX9_countSets_7 (by decide) ?_
    refine W.widen (k := 0) (n := 0) (Nat.le_of_ble_eq_true rfl) (Nat.le_of_ble_eq_true rfl) ?_
    exact k_ri hx hb hr hlocks hS hP hD ⟨rfl, rfl⟩ dX9_countSets_8
def po_X9_countOf (g : GG) (k0 : Nat) (m0 : Nat) (m7 : Nat) (m8 : Nat) (m9 : Nat) (m13 : Nat) (m14 : Nat) (m15 : Nat) (m17 : Nat) (m18 : Nat) (m19 : Nat) (m20 : Nat) (m21 : Nat) (m22 : Nat) (m23 : Nat) (m24 : Nat) (m25 : Nat) (m26 : Nat) (m27 : Nat) (m28 : Nat) (m30 : Nat) (m36 : Nat) (m37 : Nat) (m38 : Nat) (m39 : Nat) (hh : Int64) (p1 : Int32) : Int32 → va_W → Prop := fun (r : Int32) w => w = [(k0, .inr (9, [.ref m0, .int 0, .int 0, .int 0, .int 0, .int 0, .int 0, .ref m7, .ref m8, .ref m9, .int 0, .int 0, .int 0, .ref m13, .ref m14, .ref m15, .int 0, .ref m17, .ref m18, .ref m19, .ref m20, .ref m21, .ref m22, .ref m23, .ref m24, .ref m25, .ref m26, .ref m27, .ref m28, .int 0, .ref m30, .int 0, .int (-1), .int 0, .int 0, .int 0, .ref m36, .ref m37, .ref m38, .ref m39, .long hh]))] ∧ (r = rN p1)
theorem q_X9_countOf_f9 : ∀ w ∈ u_ws RX9 TX9 41, w ∈ wsX9_countOf := by decide +kernel
theorem q_X9_countOf_1 : (Cond.fieldLink RX9 147 "SoundLawsModel" "sets" "I") ∈ wsX9_countOf := by decide +kernel
theorem q_X9_countOf_2 : (Cond.fieldLink RX9 157 "SoundLawsModel" "seenMany" "I") ∈ wsX9_countOf := by decide +kernel
theorem q_X9_countOf_3 : (Cond.fieldLink RX9 92 "SoundLawsModel" "pageMany" "I") ∈ wsX9_countOf := by decide +kernel
theorem q_X9_countOf_4 : (Cond.fieldLink RX9 160 "SoundLawsModel" "setsRead" "I") ∈ wsX9_countOf := by decide +kernel
set_option maxHeartbeats 4000000 in
set_option maxRecDepth 100000 in
theorem c_X9_countOf (l : Launch) (g : GG) (k0 : Nat) (m0 : Nat) (m7 : Nat) (m8 : Nat) (m9 : Nat) (m13 : Nat) (m14 : Nat) (m15 : Nat) (m17 : Nat) (m18 : Nat) (m19 : Nat) (m20 : Nat) (m21 : Nat) (m22 : Nat) (m23 : Nat) (m24 : Nat) (m25 : Nat) (m26 : Nat) (m27 : Nat) (m28 : Nat) (m30 : Nat) (m36 : Nat) (m37 : Nat) (m38 : Nat) (m39 : Nat) (hh : Int64) (p1 : Int32)  (sz : Nat) : MetI l yX9_countOf wsX9_countOf ({ frames := 2, cells := 0, slots := 0, locals := 41 }) g [.ref k0, .int p1] [(k0, .inr (9, [.ref m0, .int 0, .int 0, .int 0, .int 0, .int 0, .int 0, .ref m7, .ref m8, .ref m9, .int 0, .int 0, .int 0, .ref m13, .ref m14, .ref m15, .int 0, .ref m17, .ref m18, .ref m19, .ref m20, .ref m21, .ref m22, .ref m23, .ref m24, .ref m25, .ref m26, .ref m27, .ref m28, .int 0, .ref m30, .int 0, .int (-1), .int 0, .int 0, .int 0, .ref m36, .ref m37, .ref m38, .ref m39, .long hh]))] sz (po_X9_countOf g k0 m0 m7 m8 m9 m13 m14 m15 m17 m18 m19 m20 m21 m22 m23 m24 m25 m26 m27 m28 m30 m36 m37 m38 m39 hh p1) 0 0 := by
  refine k_of (g := g) (wc := [(k0, .inr (9, [.ref m0, .int 0, .int 0, .int 0, .int 0, .int 0, .int 0, .ref m7, .ref m8, .ref m9, .int 0, .int 0, .int 0, .ref m13, .ref m14, .ref m15, .int 0, .ref m17, .ref m18, .ref m19, .ref m20, .ref m21, .ref m22, .ref m23, .ref m24, .ref m25, .ref m26, .ref m27, .ref m28, .int 0, .ref m30, .int 0, .int (-1), .int 0, .int 0, .int 0, .ref m36, .ref m37, .ref m38, .ref m39, .long hh]))]) (Qc := fun A => va_Qi (po_X9_countOf g k0 m0 m7 m8 m9 m13 m14 m15 m17 m18 m19 m20 m21 m22 m23 m24 m25 m26 m27 m28 m30 m36 m37 m38 m39 hh p1) (bk g A) A) (cc := cX9_countOf) (maxL := 2) (ret := (some .int)) (by decide) rfl (Nat.le_of_ble_eq_true rfl) ?_ sz
  intro p e s m below meth c hx hb hr hts hown hlocks hnm hml A hA hE hZ hP hD hS ls hl
  have hown : s.vm.findClass RX9 = some m.cls := hown
  have hl : lv_has ls 2 [(0, .ref k0), (1, .int p1)] := hl
  refine lv_iload_n hx hb dX9_countOf_0 rfl (lv_at hl 1 rfl) ?_
  by_cases w1_0 : p1 = 0
  · refine lv_tableIn (tgt := 56) (off := 55) hx hb dX9_countOf_1 (by rw [w1_0]; decide) (by rw [w1_0]; decide) (by rw [w1_0]; decide) (by decide) ?_
    refine lv_aload_n hx hb dX9_countOf_56 rfl (lv_at hl 0 rfl) ?_
    refine va_get (D := g.1) (ci := 9) (v := .int 0) (C := RX9) (T := TX9) (N := 41) hx hb hts q_X9_countOf_f9 hown hE.1 hP 0 rfl rfl 10 (by decide) (hts (.fieldLink RX9 147 "SoundLawsModel" "sets" "I") q_X9_countOf_1) (fun _ h9 => h9) rfl dX9_countOf_57 ?_
    refine W.widen (k := 0) (n := 0) (Nat.le_of_ble_eq_true rfl) (Nat.le_of_ble_eq_true rfl) ?_
    exact k_ri hx hb hr hlocks hS hP hD ⟨rfl, (by rw [w1_0]; decide)⟩ dX9_countOf_60
  by_cases w1_1 : p1 = 1
  · refine lv_tableIn (tgt := 61) (off := 60) hx hb dX9_countOf_1 (by rw [w1_1]; decide) (by rw [w1_1]; decide) (by rw [w1_1]; decide) (by decide) ?_
    refine lv_aload_n hx hb dX9_countOf_61 rfl (lv_at hl 0 rfl) ?_
    refine lv_iload_n hx hb dX9_countOf_62 rfl (lv_at hl 1 rfl) ?_
    refine k_ci (wr := []) hP hD hS hA [0] [] rfl rfl (by decide) (by decide) (va_runV (As := [.int p1]) (rest := []) ⟨hx, hb, hml, hown, hts⟩ (c_X9_countSets l g k0 m0 m7 m8 m9 m13 m14 m15 m17 m18 m19 m20 m21 m22 m23 m24 m25 m26 m27 m28 m30 m36 m37 m38 m39 hh p1  H.size) (cwV 1 hts gX9_countOf_X9_countSets rfl rfl rfl (by decide +kernel) ⟨Nat.le_of_ble_eq_true rfl, Nat.le_of_ble_eq_true rfl⟩) (k_preV hE hZ hP hD hS hA [0] rfl (by decide) (va_recv hE.1 hP (ci := 9) (q0 := 0) rfl rfl)) rfl rfl hl.1 rfl (lv_room (Nat.le_of_ble_eq_true rfl)) dX9_countOf_63 ⟨Nat.le_of_ble_eq_true rfl, Nat.le_of_ble_eq_true rfl⟩) (fun r_1 w1 H locs hw hP hD hS => ?_)
    obtain ⟨rfl, rfl⟩ := hw
    have hP : va_P g.1 vwCl [(k0, .inr (9, [.ref m0, .int 0, .int 0, .int 0, .int 0, .int 0, .int 0, .ref m7, .ref m8, .ref m9, .int 0, .int 0, .int 0, .ref m13, .ref m14, .ref m15, .int 0, .ref m17, .ref m18, .ref m19, .ref m20, .ref m21, .ref m22, .ref m23, .ref m24, .ref m25, .ref m26, .ref m27, .ref m28, .int 0, .ref m30, .int 0, .int (-1), .int 0, .int 0, .int 0, .ref m36, .ref m37, .ref m38, .ref m39, .long hh]))] H := hP
    have hD : va_D A [(k0, .inr (9, [.ref m0, .int 0, .int 0, .int 0, .int 0, .int 0, .int 0, .ref m7, .ref m8, .ref m9, .int 0, .int 0, .int 0, .ref m13, .ref m14, .ref m15, .int 0, .ref m17, .ref m18, .ref m19, .ref m20, .ref m21, .ref m22, .ref m23, .ref m24, .ref m25, .ref m26, .ref m27, .ref m28, .int 0, .ref m30, .int 0, .int (-1), .int 0, .int 0, .int 0, .ref m36, .ref m37, .ref m38, .ref m39, .long hh]))] := hD
    refine W.widen (k := 0) (n := 0) (Nat.le_of_ble_eq_true rfl) (Nat.le_of_ble_eq_true rfl) ?_
    exact k_ri hx hb hr hlocks hS hP hD ⟨rfl, (by rw [w1_1]; decide)⟩ dX9_countOf_66
  by_cases w1_2 : p1 = 2
  · refine lv_tableIn (tgt := 61) (off := 60) hx hb dX9_countOf_1 (by rw [w1_2]; decide) (by rw [w1_2]; decide) (by rw [w1_2]; decide) (by decide) ?_
    refine lv_aload_n hx hb dX9_countOf_61 rfl (lv_at hl 0 rfl) ?_
    refine lv_iload_n hx hb dX9_countOf_62 rfl (lv_at hl 1 rfl) ?_
    refine k_ci (wr := []) hP hD hS hA [0] [] rfl rfl (by decide) (by decide) (va_runV (As := [.int p1]) (rest := []) ⟨hx, hb, hml, hown, hts⟩ (c_X9_countSets l g k0 m0 m7 m8 m9 m13 m14 m15 m17 m18 m19 m20 m21 m22 m23 m24 m25 m26 m27 m28 m30 m36 m37 m38 m39 hh p1  H.size) (cwV 1 hts gX9_countOf_X9_countSets rfl rfl rfl (by decide +kernel) ⟨Nat.le_of_ble_eq_true rfl, Nat.le_of_ble_eq_true rfl⟩) (k_preV hE hZ hP hD hS hA [0] rfl (by decide) (va_recv hE.1 hP (ci := 9) (q0 := 0) rfl rfl)) rfl rfl hl.1 rfl (lv_room (Nat.le_of_ble_eq_true rfl)) dX9_countOf_63 ⟨Nat.le_of_ble_eq_true rfl, Nat.le_of_ble_eq_true rfl⟩) (fun r_3 w1 H locs hw hP hD hS => ?_)
    obtain ⟨rfl, rfl⟩ := hw
    have hP : va_P g.1 vwCl [(k0, .inr (9, [.ref m0, .int 0, .int 0, .int 0, .int 0, .int 0, .int 0, .ref m7, .ref m8, .ref m9, .int 0, .int 0, .int 0, .ref m13, .ref m14, .ref m15, .int 0, .ref m17, .ref m18, .ref m19, .ref m20, .ref m21, .ref m22, .ref m23, .ref m24, .ref m25, .ref m26, .ref m27, .ref m28, .int 0, .ref m30, .int 0, .int (-1), .int 0, .int 0, .int 0, .ref m36, .ref m37, .ref m38, .ref m39, .long hh]))] H := hP
    have hD : va_D A [(k0, .inr (9, [.ref m0, .int 0, .int 0, .int 0, .int 0, .int 0, .int 0, .ref m7, .ref m8, .ref m9, .int 0, .int 0, .int 0, .ref m13, .ref m14, .ref m15, .int 0, .ref m17, .ref m18, .ref m19, .ref m20, .ref m21, .ref m22, .ref m23, .ref m24, .ref m25, .ref m26, .ref m27, .ref m28, .int 0, .ref m30, .int 0, .int (-1), .int 0, .int 0, .int 0, .ref m36, .ref m37, .ref m38, .ref m39, .long hh]))] := hD
    refine W.widen (k := 0) (n := 0) (Nat.le_of_ble_eq_true rfl) (Nat.le_of_ble_eq_true rfl) ?_
    exact k_ri hx hb hr hlocks hS hP hD ⟨rfl, (by rw [w1_2]; decide)⟩ dX9_countOf_66
  by_cases w1_3 : p1 = 3
  · refine lv_tableIn (tgt := 61) (off := 60) hx hb dX9_countOf_1 (by rw [w1_3]; decide) (by rw [w1_3]; decide) (by rw [w1_3]; decide) (by decide) ?_
    refine lv_aload_n hx hb dX9_countOf_61 rfl (lv_at hl 0 rfl) ?_
    refine lv_iload_n hx hb dX9_countOf_62 rfl (lv_at hl 1 rfl) ?_
    refine k_ci (wr := []) hP hD hS hA [0] [] rfl rfl (by decide) (by decide) (va_runV (As := [.int p1]) (rest := []) ⟨hx, hb, hml, hown, hts⟩ (c_X9_countSets l g k0 m0 m7 m8 m9 m13 m14 m15 m17 m18 m19 m20 m21 m22 m23 m24 m25 m26 m27 m28 m30 m36 m37 m38 m39 hh p1  H.size) (cwV 1 hts gX9_countOf_X9_countSets rfl rfl rfl (by decide +kernel) ⟨Nat.le_of_ble_eq_true rfl, Nat.le_of_ble_eq_true rfl⟩) (k_preV hE hZ hP hD hS hA [0] rfl (by decide) (va_recv hE.1 hP (ci := 9) (q0 := 0) rfl rfl)) rfl rfl hl.1 rfl (lv_room (Nat.le_of_ble_eq_true rfl)) dX9_countOf_63 ⟨Nat.le_of_ble_eq_true rfl, Nat.le_of_ble_eq_true rfl⟩) (fun r_5 w1 H locs hw hP hD hS => ?_)
    obtain ⟨rfl, rfl⟩ := hw
    have hP : va_P g.1 vwCl [(k0, .inr (9, [.ref m0, .int 0, .int 0, .int 0, .int 0, .int 0, .int 0, .ref m7, .ref m8, .ref m9, .int 0, .int 0, .int 0, .ref m13, .ref m14, .ref m15, .int 0, .ref m17, .ref m18, .ref m19, .ref m20, .ref m21, .ref m22, .ref m23, .ref m24, .ref m25, .ref m26, .ref m27, .ref m28, .int 0, .ref m30, .int 0, .int (-1), .int 0, .int 0, .int 0, .ref m36, .ref m37, .ref m38, .ref m39, .long hh]))] H := hP
    have hD : va_D A [(k0, .inr (9, [.ref m0, .int 0, .int 0, .int 0, .int 0, .int 0, .int 0, .ref m7, .ref m8, .ref m9, .int 0, .int 0, .int 0, .ref m13, .ref m14, .ref m15, .int 0, .ref m17, .ref m18, .ref m19, .ref m20, .ref m21, .ref m22, .ref m23, .ref m24, .ref m25, .ref m26, .ref m27, .ref m28, .int 0, .ref m30, .int 0, .int (-1), .int 0, .int 0, .int 0, .ref m36, .ref m37, .ref m38, .ref m39, .long hh]))] := hD
    refine W.widen (k := 0) (n := 0) (Nat.le_of_ble_eq_true rfl) (Nat.le_of_ble_eq_true rfl) ?_
    exact k_ri hx hb hr hlocks hS hP hD ⟨rfl, (by rw [w1_3]; decide)⟩ dX9_countOf_66
  by_cases w1_4 : p1 = 4
  · refine lv_tableIn (tgt := 61) (off := 60) hx hb dX9_countOf_1 (by rw [w1_4]; decide) (by rw [w1_4]; decide) (by rw [w1_4]; decide) (by decide) ?_
    refine lv_aload_n hx hb dX9_countOf_61 rfl (lv_at hl 0 rfl) ?_
    refine lv_iload_n hx hb dX9_countOf_62 rfl (lv_at hl 1 rfl) ?_
    refine k_ci (wr := []) hP hD hS hA [0] [] rfl rfl (by decide) (by decide) (va_runV (As := [.int p1]) (rest := []) ⟨hx, hb, hml, hown, hts⟩ (c_X9_countSets l g k0 m0 m7 m8 m9 m13 m14 m15 m17 m18 m19 m20 m21 m22 m23 m24 m25 m26 m27 m28 m30 m36 m37 m38 m39 hh p1  H.size) (cwV 1 hts gX9_countOf_X9_countSets rfl rfl rfl (by decide +kernel) ⟨Nat.le_of_ble_eq_true rfl, Nat.le_of_ble_eq_true rfl⟩) (k_preV hE hZ hP hD hS hA [0] rfl (by decide) (va_recv hE.1 hP (ci := 9) (q0 := 0) rfl rfl)) rfl rfl hl.1 rfl (lv_room (Nat.le_of_ble_eq_true rfl)) dX9_countOf_63 ⟨Nat.le_of_ble_eq_true rfl, Nat.le_of_ble_eq_true rfl⟩) (fun r_7 w1 H locs hw hP hD hS => ?_)
    obtain ⟨rfl, rfl⟩ := hw
    have hP : va_P g.1 vwCl [(k0, .inr (9, [.ref m0, .int 0, .int 0, .int 0, .int 0, .int 0, .int 0, .ref m7, .ref m8, .ref m9, .int 0, .int 0, .int 0, .ref m13, .ref m14, .ref m15, .int 0, .ref m17, .ref m18, .ref m19, .ref m20, .ref m21, .ref m22, .ref m23, .ref m24, .ref m25, .ref m26, .ref m27, .ref m28, .int 0, .ref m30, .int 0, .int (-1), .int 0, .int 0, .int 0, .ref m36, .ref m37, .ref m38, .ref m39, .long hh]))] H := hP
    have hD : va_D A [(k0, .inr (9, [.ref m0, .int 0, .int 0, .int 0, .int 0, .int 0, .int 0, .ref m7, .ref m8, .ref m9, .int 0, .int 0, .int 0, .ref m13, .ref m14, .ref m15, .int 0, .ref m17, .ref m18, .ref m19, .ref m20, .ref m21, .ref m22, .ref m23, .ref m24, .ref m25, .ref m26, .ref m27, .ref m28, .int 0, .ref m30, .int 0, .int (-1), .int 0, .int 0, .int 0, .ref m36, .ref m37, .ref m38, .ref m39, .long hh]))] := hD
    refine W.widen (k := 0) (n := 0) (Nat.le_of_ble_eq_true rfl) (Nat.le_of_ble_eq_true rfl) ?_
    exact k_ri hx hb hr hlocks hS hP hD ⟨rfl, (by rw [w1_4]; decide)⟩ dX9_countOf_66
  by_cases w1_5 : p1 = 5
  · refine lv_tableIn (tgt := 61) (off := 60) hx hb dX9_countOf_1 (by rw [w1_5]; decide) (by rw [w1_5]; decide) (by rw [w1_5]; decide) (by decide) ?_
    refine lv_aload_n hx hb dX9_countOf_61 rfl (lv_at hl 0 rfl) ?_
    refine lv_iload_n hx hb dX9_countOf_62 rfl (lv_at hl 1 rfl) ?_
    refine k_ci (wr := []) hP hD hS hA [0] [] rfl rfl (by decide) (by decide) (va_runV (As := [.int p1]) (rest := []) ⟨hx, hb, hml, hown, hts⟩ (c_X9_countSets l g k0 m0 m7 m8 m9 m13 m14 m15 m17 m18 m19 m20 m21 m22 m23 m24 m25 m26 m27 m28 m30 m36 m37 m38 m39 hh p1  H.size) (cwV 1 hts gX9_countOf_X9_countSets rfl rfl rfl (by decide +kernel) ⟨Nat.le_of_ble_eq_true rfl, Nat.le_of_ble_eq_true rfl⟩) (k_preV hE hZ hP hD hS hA [0] rfl (by decide) (va_recv hE.1 hP (ci := 9) (q0 := 0) rfl rfl)) rfl rfl hl.1 rfl (lv_room (Nat.le_of_ble_eq_true rfl)) dX9_countOf_63 ⟨Nat.le_of_ble_eq_true rfl, Nat.le_of_ble_eq_true rfl⟩) (fun r_9 w1 H locs hw hP hD hS => ?_)
    obtain ⟨rfl, rfl⟩ := hw
    have hP : va_P g.1 vwCl [(k0, .inr (9, [.ref m0, .int 0, .int 0, .int 0, .int 0, .int 0, .int 0, .ref m7, .ref m8, .ref m9, .int 0, .int 0, .int 0, .ref m13, .ref m14, .ref m15, .int 0, .ref m17, .ref m18, .ref m19, .ref m20, .ref m21, .ref m22, .ref m23, .ref m24, .ref m25, .ref m26, .ref m27, .ref m28, .int 0, .ref m30, .int 0, .int (-1), .int 0, .int 0, .int 0, .ref m36, .ref m37, .ref m38, .ref m39, .long hh]))] H := hP
    have hD : va_D A [(k0, .inr (9, [.ref m0, .int 0, .int 0, .int 0, .int 0, .int 0, .int 0, .ref m7, .ref m8, .ref m9, .int 0, .int 0, .int 0, .ref m13, .ref m14, .ref m15, .int 0, .ref m17, .ref m18, .ref m19, .ref m20, .ref m21, .ref m22, .ref m23, .ref m24, .ref m25, .ref m26, .ref m27, .ref m28, .int 0, .ref m30, .int 0, .int (-1), .int 0, .int 0, .int 0, .ref m36, .ref m37, .ref m38, .ref m39, .long hh]))] := hD
    refine W.widen (k := 0) (n := 0) (Nat.le_of_ble_eq_true rfl) (Nat.le_of_ble_eq_true rfl) ?_
    exact k_ri hx hb hr hlocks hS hP hD ⟨rfl, (by rw [w1_5]; decide)⟩ dX9_countOf_66
  by_cases w1_6 : p1 = 6
  · refine lv_tableIn (tgt := 61) (off := 60) hx hb dX9_countOf_1 (by rw [w1_6]; decide) (by rw [w1_6]; decide) (by rw [w1_6]; decide) (by decide) ?_
    refine lv_aload_n hx hb dX9_countOf_61 rfl (lv_at hl 0 rfl) ?_
    refine lv_iload_n hx hb dX9_countOf_62 rfl (lv_at hl 1 rfl) ?_
    refine k_ci (wr := []) hP hD hS hA [0] [] rfl rfl (by decide) (by decide) (va_runV (As := [.int p1]) (rest := []) ⟨hx, hb, hml, hown, hts⟩ (c_X9_countSets l g k0 m0 m7 m8 m9 m13 m14 m15 m17 m18 m19 m20 m21 m22 m23 m24 m25 m26 m27 m28 m30 m36 m37 m38 m39 hh p1  H.size) (cwV 1 hts gX9_countOf_X9_countSets rfl rfl rfl (by decide +kernel) ⟨Nat.le_of_ble_eq_true rfl, Nat.le_of_ble_eq_true rfl⟩) (k_preV hE hZ hP hD hS hA [0] rfl (by decide) (va_recv hE.1 hP (ci := 9) (q0 := 0) rfl rfl)) rfl rfl hl.1 rfl (lv_room (Nat.le_of_ble_eq_true rfl)) dX9_countOf_63 ⟨Nat.le_of_ble_eq_true rfl, Nat.le_of_ble_eq_true rfl⟩) (fun r_11 w1 H locs hw hP hD hS => ?_)
    obtain ⟨rfl, rfl⟩ := hw
    have hP : va_P g.1 vwCl [(k0, .inr (9, [.ref m0, .int 0, .int 0, .int 0, .int 0, .int 0, .int 0, .ref m7, .ref m8, .ref m9, .int 0, .int 0, .int 0, .ref m13, .ref m14, .ref m15, .int 0, .ref m17, .ref m18, .ref m19, .ref m20, .ref m21, .ref m22, .ref m23, .ref m24, .ref m25, .ref m26, .ref m27, .ref m28, .int 0, .ref m30, .int 0, .int (-1), .int 0, .int 0, .int 0, .ref m36, .ref m37, .ref m38, .ref m39, .long hh]))] H := hP
    have hD : va_D A [(k0, .inr (9, [.ref m0, .int 0, .int 0, .int 0, .int 0, .int 0, .int 0, .ref m7, .ref m8, .ref m9, .int 0, .int 0, .int 0, .ref m13, .ref m14, .ref m15, .int 0, .ref m17, .ref m18, .ref m19, .ref m20, .ref m21, .ref m22, .ref m23, .ref m24, .ref m25, .ref m26, .ref m27, .ref m28, .int 0, .ref m30, .int 0, .int (-1), .int 0, .int 0, .int 0, .ref m36, .ref m37, .ref m38, .ref m39, .long hh]))] := hD
    refine W.widen (k := 0) (n := 0) (Nat.le_of_ble_eq_true rfl) (Nat.le_of_ble_eq_true rfl) ?_
    exact k_ri hx hb hr hlocks hS hP hD ⟨rfl, (by rw [w1_6]; decide)⟩ dX9_countOf_66
  by_cases w1_7 : p1 = 7
  · refine lv_tableIn (tgt := 67) (off := 66) hx hb dX9_countOf_1 (by rw [w1_7]; decide) (by rw [w1_7]; decide) (by rw [w1_7]; decide) (by decide) ?_
    refine lv_aload_n hx hb dX9_countOf_67 rfl (lv_at hl 0 rfl) ?_
    refine va_get (D := g.1) (ci := 9) (v := .int 0) (C := RX9) (T := TX9) (N := 41) hx hb hts q_X9_countOf_f9 hown hE.1 hP 0 rfl rfl 29 (by decide) (hts (.fieldLink RX9 157 "SoundLawsModel" "seenMany" "I") q_X9_countOf_2) (fun _ h9 => h9) rfl dX9_countOf_68 ?_
    refine W.widen (k := 0) (n := 0) (Nat.le_of_ble_eq_true rfl) (Nat.le_of_ble_eq_true rfl) ?_
    exact k_ri hx hb hr hlocks hS hP hD ⟨rfl, (by rw [w1_7]; decide)⟩ dX9_countOf_71
  by_cases w1_8 : p1 = 8
  · refine lv_tableIn (tgt := 72) (off := 71) hx hb dX9_countOf_1 (by rw [w1_8]; decide) (by rw [w1_8]; decide) (by rw [w1_8]; decide) (by decide) ?_
    refine lv_aload_n hx hb dX9_countOf_72 rfl (lv_at hl 0 rfl) ?_
    refine va_get (D := g.1) (ci := 9) (v := .int 0) (C := RX9) (T := TX9) (N := 41) hx hb hts q_X9_countOf_f9 hown hE.1 hP 0 rfl rfl 1 (by decide) (hts (.fieldLink RX9 92 "SoundLawsModel" "pageMany" "I") q_X9_countOf_3) (fun _ h9 => h9) rfl dX9_countOf_73 ?_
    refine W.widen (k := 0) (n := 0) (Nat.le_of_ble_eq_true rfl) (Nat.le_of_ble_eq_true rfl) ?_
    exact k_ri hx hb hr hlocks hS hP hD ⟨rfl, (by rw [w1_8]; decide)⟩ dX9_countOf_76
  by_cases w1_9 : p1 = 9
  · refine lv_tableIn (tgt := 77) (off := 76) hx hb dX9_countOf_1 (by rw [w1_9]; decide) (by rw [w1_9]; decide) (by rw [w1_9]; decide) (by decide) ?_
    refine lv_aload_n hx hb dX9_countOf_77 rfl (lv_at hl 0 rfl) ?_
    refine va_get (D := g.1) (ci := 9) (v := .int 0) (C := RX9) (T := TX9) (N := 41) hx hb hts q_X9_countOf_f9 hown hE.1 hP 0 rfl rfl 12 (by decide) (hts (.fieldLink RX9 160 "SoundLawsModel" "setsRead" "I") q_X9_countOf_4) (fun _ h9 => h9) rfl dX9_countOf_78 ?_
    refine W.widen (k := 0) (n := 0) (Nat.le_of_ble_eq_true rfl) (Nat.le_of_ble_eq_true rfl) ?_
    exact k_ri hx hb hr hlocks hS hP hD ⟨rfl, (by rw [w1_9]; decide)⟩ dX9_countOf_81
  refine lv_tableOut (tgt := 82) hx hb dX9_countOf_1 (by have q0 := lv_neT w1_0 (show (0 : Int32).toInt = 0 from rfl); have q1 := lv_neT w1_1 (show (1 : Int32).toInt = 1 from rfl); have q2 := lv_neT w1_2 (show (2 : Int32).toInt = 2 from rfl); have q3 := lv_neT w1_3 (show (3 : Int32).toInt = 3 from rfl); have q4 := lv_neT w1_4 (show (4 : Int32).toInt = 4 from rfl); have q5 := lv_neT w1_5 (show (5 : Int32).toInt = 5 from rfl); have q6 := lv_neT w1_6 (show (6 : Int32).toInt = 6 from rfl); have q7 := lv_neT w1_7 (show (7 : Int32).toInt = 7 from rfl); have q8 := lv_neT w1_8 (show (8 : Int32).toInt = 8 from rfl); have q9 := lv_neT w1_9 (show (9 : Int32).toInt = 9 from rfl); omega) (by decide) ?_
  refine lv_bipush (v := (-102)) hx hb dX9_countOf_82 (by decide) ?_
  refine W.widen (k := 0) (n := 0) (Nat.le_of_ble_eq_true rfl) (Nat.le_of_ble_eq_true rfl) ?_
  exact k_ri hx hb hr hlocks hS hP hD ⟨rfl, (by unfold rN; rw [if_pos (by have q : ¬ (¬ p1 < 0 ∧ p1 < 10) := (fun q => by obtain ⟨i, hi, rfl⟩ := nI_of (x := p1) q.1; have h9 := (nI_ltI hi (by decide)).mp q.2; have z0 := fun e : i = 0 => w1_0 (by rw [e]; rfl); have z1 := fun e : i = 1 => w1_1 (by rw [e]; rfl); have z2 := fun e : i = 2 => w1_2 (by rw [e]; rfl); have z3 := fun e : i = 3 => w1_3 (by rw [e]; rfl); have z4 := fun e : i = 4 => w1_4 (by rw [e]; rfl); have z5 := fun e : i = 5 => w1_5 (by rw [e]; rfl); have z6 := fun e : i = 6 => w1_6 (by rw [e]; rfl); have z7 := fun e : i = 7 => w1_7 (by rw [e]; rfl); have z8 := fun e : i = 8 => w1_8 (by rw [e]; rfl); have z9 := fun e : i = 9 => w1_9 (by rw [e]; rfl); omega); by_cases h : p1 < 0; exact Or.inl h; exact Or.inr (fun r => q ⟨h, r⟩))])⟩ dX9_countOf_84
def po_X9_count (g : GG) (k0 : Nat) (m0 : Nat) (m7 : Nat) (m8 : Nat) (m9 : Nat) (m13 : Nat) (m14 : Nat) (m15 : Nat) (m17 : Nat) (m18 : Nat) (m19 : Nat) (m20 : Nat) (m21 : Nat) (m22 : Nat) (m23 : Nat) (m24 : Nat) (m25 : Nat) (m26 : Nat) (m27 : Nat) (m28 : Nat) (m30 : Nat) (m36 : Nat) (m37 : Nat) (m38 : Nat) (m39 : Nat) (p1 : Int32) : Int32 → va_W → Prop := fun (r : Int32) w => w = [] ∧ (r = rN p1)
set_option maxHeartbeats 4000000 in
set_option maxRecDepth 100000 in
theorem c_X9_count (l : Launch) (g : GG) (k0 : Nat) (m0 : Nat) (m7 : Nat) (m8 : Nat) (m9 : Nat) (m13 : Nat) (m14 : Nat) (m15 : Nat) (m17 : Nat) (m18 : Nat) (m19 : Nat) (m20 : Nat) (m21 : Nat) (m22 : Nat) (m23 : Nat) (m24 : Nat) (m25 : Nat) (m26 : Nat) (m27 : Nat) (m28 : Nat) (m30 : Nat) (m36 : Nat) (m37 : Nat) (m38 : Nat) (m39 : Nat) (p1 : Int32)  (sz : Nat) : MetI l yX9_count wsX9_count ({ frames := 3, cells := 0, slots := 0, locals := 62 }) g [.ref k0, .int p1] [(k0, .inr (9, [.ref m0, .int 0, .int 0, .int 0, .int 0, .int 0, .int 0, .ref m7, .ref m8, .ref m9, .int 0, .int 0, .int 0, .ref m13, .ref m14, .ref m15, .int 0, .ref m17, .ref m18, .ref m19, .ref m20, .ref m21, .ref m22, .ref m23, .ref m24, .ref m25, .ref m26, .ref m27, .ref m28, .int 0, .ref m30, .int 0, .int (-1), .int 0, .int 0, .int 0, .ref m36, .ref m37, .ref m38, .ref m39, .long 0]))] sz (po_X9_count g k0 m0 m7 m8 m9 m13 m14 m15 m17 m18 m19 m20 m21 m22 m23 m24 m25 m26 m27 m28 m30 m36 m37 m38 m39 p1) 0 0 := by
  refine k_of (g := g) (wc := [(k0, .inr (9, [.ref m0, .int 0, .int 0, .int 0, .int 0, .int 0, .int 0, .ref m7, .ref m8, .ref m9, .int 0, .int 0, .int 0, .ref m13, .ref m14, .ref m15, .int 0, .ref m17, .ref m18, .ref m19, .ref m20, .ref m21, .ref m22, .ref m23, .ref m24, .ref m25, .ref m26, .ref m27, .ref m28, .int 0, .ref m30, .int 0, .int (-1), .int 0, .int 0, .int 0, .ref m36, .ref m37, .ref m38, .ref m39, .long 0]))]) (Qc := fun A => va_Qi (po_X9_count g k0 m0 m7 m8 m9 m13 m14 m15 m17 m18 m19 m20 m21 m22 m23 m24 m25 m26 m27 m28 m30 m36 m37 m38 m39 p1) (bk g A) A) (cc := cX9_count) (maxL := 2) (ret := (some .int)) (by decide) rfl (Nat.le_of_ble_eq_true rfl) ?_ sz
  intro p e s m below meth c hx hb hr hts hown hlocks hnm hml A hA hE hZ hP hD hS ls hl
  have hown : s.vm.findClass RX9 = some m.cls := hown
  have hl : lv_has ls 2 [(0, .ref k0), (1, .int p1)] := hl
  refine lv_aload_n hx hb dX9_count_0 rfl (lv_at hl 0 rfl) ?_
  refine lv_iload_n hx hb dX9_count_1 rfl (lv_at hl 1 rfl) ?_
  refine k_ci (wr := []) hP hD hS hA [0] [] rfl rfl (by decide) (by decide) (va_runV (As := [.int p1]) (rest := []) ⟨hx, hb, hml, hown, hts⟩ (c_X9_countOf l g k0 m0 m7 m8 m9 m13 m14 m15 m17 m18 m19 m20 m21 m22 m23 m24 m25 m26 m27 m28 m30 m36 m37 m38 m39 0 p1  H.size) (cwV 1 hts gX9_count_X9_countOf rfl rfl rfl (by decide +kernel) ⟨Nat.le_of_ble_eq_true rfl, Nat.le_of_ble_eq_true rfl⟩) (k_preV hE hZ hP hD hS hA [0] rfl (by decide) (va_recv hE.1 hP (ci := 9) (q0 := 0) rfl rfl)) rfl rfl hl.1 rfl (lv_room (Nat.le_of_ble_eq_true rfl)) dX9_count_2 ⟨Nat.le_of_ble_eq_true rfl, Nat.le_of_ble_eq_true rfl⟩) (fun r_1 w1 H locs hw hP hD hS => ?_)
  obtain ⟨rfl, rfl⟩ := hw
  have hP : va_P g.1 vwCl [(k0, .inr (9, [.ref m0, .int 0, .int 0, .int 0, .int 0, .int 0, .int 0, .ref m7, .ref m8, .ref m9, .int 0, .int 0, .int 0, .ref m13, .ref m14, .ref m15, .int 0, .ref m17, .ref m18, .ref m19, .ref m20, .ref m21, .ref m22, .ref m23, .ref m24, .ref m25, .ref m26, .ref m27, .ref m28, .int 0, .ref m30, .int 0, .int (-1), .int 0, .int 0, .int 0, .ref m36, .ref m37, .ref m38, .ref m39, .long 0]))] H := hP
  have hD : va_D A [(k0, .inr (9, [.ref m0, .int 0, .int 0, .int 0, .int 0, .int 0, .int 0, .ref m7, .ref m8, .ref m9, .int 0, .int 0, .int 0, .ref m13, .ref m14, .ref m15, .int 0, .ref m17, .ref m18, .ref m19, .ref m20, .ref m21, .ref m22, .ref m23, .ref m24, .ref m25, .ref m26, .ref m27, .ref m28, .int 0, .ref m30, .int 0, .int (-1), .int 0, .int 0, .int 0, .ref m36, .ref m37, .ref m38, .ref m39, .long 0]))] := hD
  refine W.widen (k := 0) (n := 0) (Nat.le_of_ble_eq_true rfl) (Nat.le_of_ble_eq_true rfl) ?_
  have hP9 := hP.sub (ws' := []) [] rfl
  have hD9 := hD.sub (ws' := []) [] (by decide) rfl
  exact k_ri hx hb hr hlocks hS hP9 hD9 ⟨rfl, rfl⟩ dX9_count_5
def po_X9_note (g : GG) (k0 : Nat) (m0 : Nat) (s1 : Int32) (s2 : Int32) (s3 : Int32) (s4 : Int32) (s5 : Int32) (s6 : Int32) (m7 : Nat) (m8 : Nat) (m9 : Nat) (s10 : Int32) (s11 : Int32) (s12 : Int32) (m13 : Nat) (m14 : Nat) (m15 : Nat) (s16 : Int32) (m17 : Nat) (m18 : Nat) (m19 : Nat) (m20 : Nat) (m21 : Nat) (m22 : Nat) (m23 : Nat) (m24 : Nat) (m25 : Nat) (m26 : Nat) (m27 : Nat) (m28 : Nat) (s29 : Int32) (m30 : Nat) (s31 : Int32) (s32 : Int32) (s33 : Int32) (s34 : Int32) (s35 : Int32) (m36 : Nat) (m37 : Nat) (m38 : Nat) (m39 : Nat) (s40 : Int64) (v : Int64) : va_W → Prop := fun w => w = [(k0, .inr (9, [.ref m0, .int s1, .int s2, .int s3, .int s4, .int s5, .int s6, .ref m7, .ref m8, .ref m9, .int s10, .int s11, .int s12, .ref m13, .ref m14, .ref m15, .int s16, .ref m17, .ref m18, .ref m19, .ref m20, .ref m21, .ref m22, .ref m23, .ref m24, .ref m25, .ref m26, .ref m27, .ref m28, .int s29, .ref m30, .int s31, .int s32, .int s33, .int s34, .int s35, .ref m36, .ref m37, .ref m38, .ref m39, .long (31 * s40 + v)]))]
theorem q_X9_note_0 : (Cond.constantLong RX9 321 (31)) ∈ wsX9_note := by decide +kernel
theorem q_X9_note_f9 : ∀ w ∈ u_ws RX9 TX9 41, w ∈ wsX9_note := by decide +kernel
theorem q_X9_note_2 : (Cond.fieldLink RX9 323 "SoundLawsModel" "hash" "J") ∈ wsX9_note := by decide +kernel
set_option maxHeartbeats 4000000 in
set_option maxRecDepth 100000 in
theorem c_X9_note (l : Launch) (g : GG) (k0 : Nat) (m0 : Nat) (s1 : Int32) (s2 : Int32) (s3 : Int32) (s4 : Int32) (s5 : Int32) (s6 : Int32) (m7 : Nat) (m8 : Nat) (m9 : Nat) (s10 : Int32) (s11 : Int32) (s12 : Int32) (m13 : Nat) (m14 : Nat) (m15 : Nat) (s16 : Int32) (m17 : Nat) (m18 : Nat) (m19 : Nat) (m20 : Nat) (m21 : Nat) (m22 : Nat) (m23 : Nat) (m24 : Nat) (m25 : Nat) (m26 : Nat) (m27 : Nat) (m28 : Nat) (s29 : Int32) (m30 : Nat) (s31 : Int32) (s32 : Int32) (s33 : Int32) (s34 : Int32) (s35 : Int32) (m36 : Nat) (m37 : Nat) (m38 : Nat) (m39 : Nat) (s40 : Int64) (v : Int64)  (sz : Nat) : MetV l yX9_note wsX9_note ({ frames := 0, cells := 0, slots := 0, locals := 0 }) g [.ref k0, .long v] [(k0, .inr (9, [.ref m0, .int s1, .int s2, .int s3, .int s4, .int s5, .int s6, .ref m7, .ref m8, .ref m9, .int s10, .int s11, .int s12, .ref m13, .ref m14, .ref m15, .int s16, .ref m17, .ref m18, .ref m19, .ref m20, .ref m21, .ref m22, .ref m23, .ref m24, .ref m25, .ref m26, .ref m27, .ref m28, .int s29, .ref m30, .int s31, .int s32, .int s33, .int s34, .int s35, .ref m36, .ref m37, .ref m38, .ref m39, .long s40]))] sz (po_X9_note g k0 m0 s1 s2 s3 s4 s5 s6 m7 m8 m9 s10 s11 s12 m13 m14 m15 s16 m17 m18 m19 m20 m21 m22 m23 m24 m25 m26 m27 m28 s29 m30 s31 s32 s33 s34 s35 m36 m37 m38 m39 s40 v) 0 0 := by
  refine k_of (g := g) (wc := [(k0, .inr (9, [.ref m0, .int s1, .int s2, .int s3, .int s4, .int s5, .int s6, .ref m7, .ref m8, .ref m9, .int s10, .int s11, .int s12, .ref m13, .ref m14, .ref m15, .int s16, .ref m17, .ref m18, .ref m19, .ref m20, .ref m21, .ref m22, .ref m23, .ref m24, .ref m25, .ref m26, .ref m27, .ref m28, .int s29, .ref m30, .int s31, .int s32, .int s33, .int s34, .int s35, .ref m36, .ref m37, .ref m38, .ref m39, .long s40]))]) (Qc := fun A => va_Qv (po_X9_note g k0 m0 s1 s2 s3 s4 s5 s6 m7 m8 m9 s10 s11 s12 m13 m14 m15 s16 m17 m18 m19 m20 m21 m22 m23 m24 m25 m26 m27 m28 s29 m30 s31 s32 s33 s34 s35 m36 m37 m38 m39 s40 v) (bk g A) A) (cc := cX9_note) (maxL := 3) (ret := none) (by decide) rfl (Nat.le_of_ble_eq_true rfl) ?_ sz
  intro p e s m below meth c hx hb hr hts hown hlocks hnm hml A hA hE hZ hP hD hS ls hl
  have hown : s.vm.findClass RX9 = some m.cls := hown
  have hl : lv_has ls 3 [(0, .ref k0), (1, .long v)] := hl
  refine lv_aload_n hx hb dX9_note_0 rfl (lv_at hl 0 rfl) ?_
  refine lv_ldc2 hx hb hown (hts (.constantLong RX9 321 (31)) q_X9_note_0) dX9_note_1 ?_
  refine lv_aload_n hx hb dX9_note_4 rfl (lv_at hl 0 rfl) ?_
  refine va_get (D := g.1) (ci := 9) (v := .long s40) (C := RX9) (T := TX9) (N := 41) hx hb hts q_X9_note_f9 hown hE.1 hP 0 rfl rfl 40 (by decide) (hts (.fieldLink RX9 323 "SoundLawsModel" "hash" "J") q_X9_note_2) (fun _ h9 => h9) rfl dX9_note_5 ?_
  refine lv_lmul hx hb dX9_note_8 ?_
  refine lv_lload_n hx hb dX9_note_9 rfl (lv_at hl 1 rfl) ?_
  refine lv_ladd hx hb dX9_note_10 ?_
  refine lv_topl (fun x_1 ex_1 => ?_)
  refine va_put (D := g.1) (ci := 9) (v := .long x_1) (ty := .long) (C := RX9) (T := TX9) (N := 41) hx hb hts q_X9_note_f9 tyX9 tyX9_ok nmX9 hown hE.1 hP hD hS 0 rfl rfl 40 (by decide) (hts (.fieldLink RX9 323 "SoundLawsModel" "hash" "J") q_X9_note_2) (fun _ h9 => h9) rfl (by decide +kernel) rfl rfl (Nat.le_of_ble_eq_true rfl) dX9_note_11 (fun H locs hP hD hS => ?_)
  have hP : va_P g.1 vwCl [(k0, .inr (9, [.ref m0, .int s1, .int s2, .int s3, .int s4, .int s5, .int s6, .ref m7, .ref m8, .ref m9, .int s10, .int s11, .int s12, .ref m13, .ref m14, .ref m15, .int s16, .ref m17, .ref m18, .ref m19, .ref m20, .ref m21, .ref m22, .ref m23, .ref m24, .ref m25, .ref m26, .ref m27, .ref m28, .int s29, .ref m30, .int s31, .int s32, .int s33, .int s34, .int s35, .ref m36, .ref m37, .ref m38, .ref m39, .long x_1]))] H := hP
  have hD : va_D A [(k0, .inr (9, [.ref m0, .int s1, .int s2, .int s3, .int s4, .int s5, .int s6, .ref m7, .ref m8, .ref m9, .int s10, .int s11, .int s12, .ref m13, .ref m14, .ref m15, .int s16, .ref m17, .ref m18, .ref m19, .ref m20, .ref m21, .ref m22, .ref m23, .ref m24, .ref m25, .ref m26, .ref m27, .ref m28, .int s29, .ref m30, .int s31, .int s32, .int s33, .int s34, .int s35, .ref m36, .ref m37, .ref m38, .ref m39, .long x_1]))] := hD
  refine W.widen (k := 0) (n := 0) (Nat.le_of_ble_eq_true rfl) (Nat.le_of_ble_eq_true rfl) ?_
  exact k_rv hx hb hr hlocks hS hP hD rfl dX9_note_14
def po_X9_digest (g : GG) (k0 : Nat) (m0 : Nat) (m7 : Nat) (m8 : Nat) (m9 : Nat) (m13 : Nat) (m14 : Nat) (m15 : Nat) (m17 : Nat) (m18 : Nat) (m19 : Nat) (m20 : Nat) (m21 : Nat) (m22 : Nat) (m23 : Nat) (m24 : Nat) (m25 : Nat) (m26 : Nat) (m27 : Nat) (m28 : Nat) (m30 : Nat) (m36 : Nat) (m37 : Nat) (m38 : Nat) (m39 : Nat) : Int64 → va_W → Prop := fun (r : Int64) w => w = [] ∧ (r = hD 10)
theorem q_X9_digest_0 : (Cond.constantLong RX9 331 (1459)) ∈ wsX9_digest := by decide +kernel
theorem q_X9_digest_f9 : ∀ w ∈ u_ws RX9 TX9 41, w ∈ wsX9_digest := by decide +kernel
theorem q_X9_digest_2 : (Cond.fieldLink RX9 323 "SoundLawsModel" "hash" "J") ∈ wsX9_digest := by decide +kernel
theorem q_X9_digest_3 : (Cond.fieldLink RX9 147 "SoundLawsModel" "sets" "I") ∈ wsX9_digest := by decide +kernel
theorem q_X9_digest_4 : (Cond.fieldLink RX9 150 "SoundLawsModel" "tongues" "I") ∈ wsX9_digest := by decide +kernel
theorem q_X9_digest_5 : (Cond.fieldLink RX9 92 "SoundLawsModel" "pageMany" "I") ∈ wsX9_digest := by decide +kernel
set_option maxHeartbeats 4000000 in
set_option maxRecDepth 100000 in
theorem c_X9_digest (l : Launch) (g : GG) (k0 : Nat) (m0 : Nat) (m7 : Nat) (m8 : Nat) (m9 : Nat) (m13 : Nat) (m14 : Nat) (m15 : Nat) (m17 : Nat) (m18 : Nat) (m19 : Nat) (m20 : Nat) (m21 : Nat) (m22 : Nat) (m23 : Nat) (m24 : Nat) (m25 : Nat) (m26 : Nat) (m27 : Nat) (m28 : Nat) (m30 : Nat) (m36 : Nat) (m37 : Nat) (m38 : Nat) (m39 : Nat)  (sz : Nat) : MetL l yX9_digest wsX9_digest ({ frames := 3, cells := 0, slots := 0, locals := 62 }) g [.ref k0] [(k0, .inr (9, [.ref m0, .int 0, .int 0, .int 0, .int 0, .int 0, .int 0, .ref m7, .ref m8, .ref m9, .int 0, .int 0, .int 0, .ref m13, .ref m14, .ref m15, .int 0, .ref m17, .ref m18, .ref m19, .ref m20, .ref m21, .ref m22, .ref m23, .ref m24, .ref m25, .ref m26, .ref m27, .ref m28, .int 0, .ref m30, .int 0, .int (-1), .int 0, .int 0, .int 0, .ref m36, .ref m37, .ref m38, .ref m39, .long 0]))] sz (po_X9_digest g k0 m0 m7 m8 m9 m13 m14 m15 m17 m18 m19 m20 m21 m22 m23 m24 m25 m26 m27 m28 m30 m36 m37 m38 m39) 0 0 := by
  refine k_of (g := g) (wc := [(k0, .inr (9, [.ref m0, .int 0, .int 0, .int 0, .int 0, .int 0, .int 0, .ref m7, .ref m8, .ref m9, .int 0, .int 0, .int 0, .ref m13, .ref m14, .ref m15, .int 0, .ref m17, .ref m18, .ref m19, .ref m20, .ref m21, .ref m22, .ref m23, .ref m24, .ref m25, .ref m26, .ref m27, .ref m28, .int 0, .ref m30, .int 0, .int (-1), .int 0, .int 0, .int 0, .ref m36, .ref m37, .ref m38, .ref m39, .long 0]))]) (Qc := fun A => va_Ql (po_X9_digest g k0 m0 m7 m8 m9 m13 m14 m15 m17 m18 m19 m20 m21 m22 m23 m24 m25 m26 m27 m28 m30 m36 m37 m38 m39) (bk g A) A) (cc := cX9_digest) (maxL := 2) (ret := (some .long)) (by decide) rfl (Nat.le_of_ble_eq_true rfl) ?_ sz
  intro p e s m below meth c hx hb hr hts hown hlocks hnm hml A hA hE hZ hP hD hS ls hl
  have hown : s.vm.findClass RX9 = some m.cls := hown
  have hl : lv_has ls 2 [(0, .ref k0)] := hl
  refine lv_aload_n hx hb dX9_digest_0 rfl (lv_at hl 0 rfl) ?_
  refine lv_ldc2 hx hb hown (hts (.constantLong RX9 331 (1459)) q_X9_digest_0) dX9_digest_1 ?_
  refine va_put (D := g.1) (ci := 9) (v := .long 1459) (ty := .long) (C := RX9) (T := TX9) (N := 41) hx hb hts q_X9_digest_f9 tyX9 tyX9_ok nmX9 hown hE.1 hP hD hS 0 rfl rfl 40 (by decide) (hts (.fieldLink RX9 323 "SoundLawsModel" "hash" "J") q_X9_digest_2) (fun _ h9 => h9) rfl (by decide +kernel) rfl rfl (Nat.le_of_ble_eq_true rfl) dX9_digest_4 (fun H locs hP hD hS => ?_)
  have hP : va_P g.1 vwCl [(k0, .inr (9, [.ref m0, .int 0, .int 0, .int 0, .int 0, .int 0, .int 0, .ref m7, .ref m8, .ref m9, .int 0, .int 0, .int 0, .ref m13, .ref m14, .ref m15, .int 0, .ref m17, .ref m18, .ref m19, .ref m20, .ref m21, .ref m22, .ref m23, .ref m24, .ref m25, .ref m26, .ref m27, .ref m28, .int 0, .ref m30, .int 0, .int (-1), .int 0, .int 0, .int 0, .ref m36, .ref m37, .ref m38, .ref m39, .long 1459]))] H := hP
  have hD : va_D A [(k0, .inr (9, [.ref m0, .int 0, .int 0, .int 0, .int 0, .int 0, .int 0, .ref m7, .ref m8, .ref m9, .int 0, .int 0, .int 0, .ref m13, .ref m14, .ref m15, .int 0, .ref m17, .ref m18, .ref m19, .ref m20, .ref m21, .ref m22, .ref m23, .ref m24, .ref m25, .ref m26, .ref m27, .ref m28, .int 0, .ref m30, .int 0, .int (-1), .int 0, .int 0, .int 0, .ref m36, .ref m37, .ref m38, .ref m39, .long 1459]))] := hD
  refine lv_iconst (v := 0) hx hb dX9_digest_7 (by decide) ?_
  refine lv_istore_n (lv' := [(1, .int 0), (0, .ref k0)]) hx hb dX9_digest_8 rfl hl (by decide) rfl (fun ls hl => ?_)
  refine lv_iload_n hx hb dX9_digest_9 rfl (lv_at hl 0 rfl) ?_
  refine lv_aload_n hx hb dX9_digest_10 rfl (lv_at hl 1 rfl) ?_
  refine va_get (D := g.1) (ci := 9) (v := .int 0) (C := RX9) (T := TX9) (N := 41) hx hb hts q_X9_digest_f9 hown hE.1 hP 0 rfl rfl 10 (by decide) (hts (.fieldLink RX9 147 "SoundLawsModel" "sets" "I") q_X9_digest_3) (fun _ h9 => h9) rfl dX9_digest_11 ?_
  refine lv_icmp_ge (tgt := 28) hx hb dX9_digest_14 (by decide) (fun c14_1 => ?_) (fun c14_1 => ?_)
  · skip
    refine lv_iconst (v := 0) hx hb dX9_digest_28 (by decide) ?_
    refine lv_istore_n (lv' := [(1, .int 0), (0, .ref k0)]) hx hb dX9_digest_29 rfl hl (by decide) rfl (fun ls hl => ?_)
    refine lv_iload_n hx hb dX9_digest_30 rfl (lv_at hl 0 rfl) ?_
    refine lv_bipush (v := 18) hx hb dX9_digest_31 (by decide) ?_
    refine lv_aload_n hx hb dX9_digest_33 rfl (lv_at hl 1 rfl) ?_
    refine va_get (D := g.1) (ci := 9) (v := .int 0) (C := RX9) (T := TX9) (N := 41) hx hb hts q_X9_digest_f9 hown hE.1 hP 0 rfl rfl 11 (by decide) (hts (.fieldLink RX9 150 "SoundLawsModel" "tongues" "I") q_X9_digest_4) (fun _ h9 => h9) rfl dX9_digest_34 ?_
    refine lv_imul hx hb dX9_digest_37 ?_
    refine lv_topi (fun x_2 ex_2 => ?_)
    obtain rfl : x_2 = 0 := ex_2.trans (by decide)
    refine lv_icmp_ge (tgt := 87) hx hb dX9_digest_38 (by decide) (fun c38_3 => ?_) (fun c38_3 => ?_)
    · skip
      refine lv_iconst (v := 0) hx hb dX9_digest_87 (by decide) ?_
      refine lv_istore_n (lv' := [(1, .int 0), (0, .ref k0)]) hx hb dX9_digest_88 rfl hl (by decide) rfl (fun ls hl => ?_)
      refine lv_iload_n hx hb dX9_digest_89 rfl (lv_at hl 0 rfl) ?_
      refine lv_aload_n hx hb dX9_digest_90 rfl (lv_at hl 1 rfl) ?_
      refine va_get (D := g.1) (ci := 9) (v := .int 0) (C := RX9) (T := TX9) (N := 41) hx hb hts q_X9_digest_f9 hown hE.1 hP 0 rfl rfl 1 (by decide) (hts (.fieldLink RX9 92 "SoundLawsModel" "pageMany" "I") q_X9_digest_5) (fun _ h9 => h9) rfl dX9_digest_91 ?_
      refine lv_icmp_ge (tgt := 114) hx hb dX9_digest_94 (by decide) (fun c94_4 => ?_) (fun c94_4 => ?_)
      · skip
        refine lv_iconst (v := 0) hx hb dX9_digest_114 (by decide) ?_
        refine lv_istore_n (lv' := [(1, .int 0), (0, .ref k0)]) hx hb dX9_digest_115 rfl hl (by decide) rfl (fun ls hl => ?_)
        refine lv_iload_n hx hb dX9_digest_116 rfl (lv_at hl 0 rfl) ?_
        refine lv_bipush (v := 10) hx hb dX9_digest_117 (by decide) ?_
        refine lv_icmp_ge (tgt := 138) hx hb dX9_digest_119 (by decide) (fun c119_5 => ?_) (fun c119_5 => ?_)
        · exact absurd c119_5 (by decide)
        · skip
          have hP : va_P g.1 vwCl [(k0, .inr (9, [.ref m0, .int 0, .int 0, .int 0, .int 0, .int 0, .int 0, .ref m7, .ref m8, .ref m9, .int 0, .int 0, .int 0, .ref m13, .ref m14, .ref m15, .int 0, .ref m17, .ref m18, .ref m19, .ref m20, .ref m21, .ref m22, .ref m23, .ref m24, .ref m25, .ref m26, .ref m27, .ref m28, .int 0, .ref m30, .int 0, .int (-1), .int 0, .int 0, .int 0, .ref m36, .ref m37, .ref m38, .ref m39, .long (hD 0)]))] H := hP
          have hD : va_D A [(k0, .inr (9, [.ref m0, .int 0, .int 0, .int 0, .int 0, .int 0, .int 0, .ref m7, .ref m8, .ref m9, .int 0, .int 0, .int 0, .ref m13, .ref m14, .ref m15, .int 0, .ref m17, .ref m18, .ref m19, .ref m20, .ref m21, .ref m22, .ref m23, .ref m24, .ref m25, .ref m26, .ref m27, .ref m28, .int 0, .ref m30, .int 0, .int (-1), .int 0, .int 0, .int 0, .ref m36, .ref m37, .ref m38, .ref m39, .long (hD 0)]))] := hD
          refine lv_aload_n hx hb dX9_digest_122 rfl (lv_at hl 1 rfl) ?_
          refine lv_aload_n hx hb dX9_digest_123 rfl (lv_at hl 1 rfl) ?_
          refine lv_iload_n hx hb dX9_digest_124 rfl (lv_at hl 0 rfl) ?_
          refine k_ci (wr := []) hP hD hS hA [0] [] rfl rfl (by decide) (by decide) (va_runV (As := [.int 0]) (rest := [.ref k0]) ⟨hx, hb, hml, hown, hts⟩ (c_X9_countOf l g k0 m0 m7 m8 m9 m13 m14 m15 m17 m18 m19 m20 m21 m22 m23 m24 m25 m26 m27 m28 m30 m36 m37 m38 m39 (hD 0) 0  H.size) (cwV 1 hts gX9_digest_X9_countOf rfl rfl rfl (by decide +kernel) ⟨Nat.le_of_ble_eq_true rfl, Nat.le_of_ble_eq_true rfl⟩) (k_preV hE hZ hP hD hS hA [0] rfl (by decide) (va_recv hE.1 hP (ci := 9) (q0 := 0) rfl rfl)) rfl rfl hl.1 rfl (lv_room (Nat.le_of_ble_eq_true rfl)) dX9_digest_125 ⟨Nat.le_of_ble_eq_true rfl, Nat.le_of_ble_eq_true rfl⟩) (fun r_6 w1 H locs hw hP hD hS => ?_)
          obtain ⟨rfl, rfl⟩ := hw
          have hP : va_P g.1 vwCl [(k0, .inr (9, [.ref m0, .int 0, .int 0, .int 0, .int 0, .int 0, .int 0, .ref m7, .ref m8, .ref m9, .int 0, .int 0, .int 0, .ref m13, .ref m14, .ref m15, .int 0, .ref m17, .ref m18, .ref m19, .ref m20, .ref m21, .ref m22, .ref m23, .ref m24, .ref m25, .ref m26, .ref m27, .ref m28, .int 0, .ref m30, .int 0, .int (-1), .int 0, .int 0, .int 0, .ref m36, .ref m37, .ref m38, .ref m39, .long (hD 0)]))] H := hP
          have hD : va_D A [(k0, .inr (9, [.ref m0, .int 0, .int 0, .int 0, .int 0, .int 0, .int 0, .ref m7, .ref m8, .ref m9, .int 0, .int 0, .int 0, .ref m13, .ref m14, .ref m15, .int 0, .ref m17, .ref m18, .ref m19, .ref m20, .ref m21, .ref m22, .ref m23, .ref m24, .ref m25, .ref m26, .ref m27, .ref m28, .int 0, .ref m30, .int 0, .int (-1), .int 0, .int 0, .int 0, .ref m36, .ref m37, .ref m38, .ref m39, .long (hD 0)]))] := hD
          refine lv_topi (fun x_8 ex_8 => ?_)
          obtain rfl : x_8 = 0 := by rw [ex_8]; decide
          refine lv_i2l hx hb dX9_digest_128 rfl ?_
          refine k_cv (wr := []) hP hD hS hA [0] [] rfl rfl (by decide) (by decide) (va_runV (As := [.long ((0 : Int32).toInt64)]) (rest := []) ⟨hx, hb, hml, hown, hts⟩ (c_X9_note l g k0 m0 0 0 0 0 0 0 m7 m8 m9 0 0 0 m13 m14 m15 0 m17 m18 m19 m20 m21 m22 m23 m24 m25 m26 m27 m28 0 m30 0 (-1) 0 0 0 m36 m37 m38 m39 (hD 0) ((0 : Int32).toInt64)  H.size) (cwV 1 hts gX9_digest_X9_note rfl rfl rfl (by decide +kernel) ⟨Nat.le_of_ble_eq_true rfl, Nat.le_of_ble_eq_true rfl⟩) (k_preV hE hZ hP hD hS hA [0] rfl (by decide) (va_recv hE.1 hP (ci := 9) (q0 := 0) rfl rfl)) rfl rfl hl.1 rfl (lv_room (Nat.le_of_ble_eq_true rfl)) dX9_digest_129 ⟨Nat.le_of_ble_eq_true rfl, Nat.le_of_ble_eq_true rfl⟩) (fun w1 H locs hw hP hD hS => ?_)
          obtain rfl := hw
          have hP : va_P g.1 vwCl [(k0, .inr (9, [.ref m0, .int 0, .int 0, .int 0, .int 0, .int 0, .int 0, .ref m7, .ref m8, .ref m9, .int 0, .int 0, .int 0, .ref m13, .ref m14, .ref m15, .int 0, .ref m17, .ref m18, .ref m19, .ref m20, .ref m21, .ref m22, .ref m23, .ref m24, .ref m25, .ref m26, .ref m27, .ref m28, .int 0, .ref m30, .int 0, .int (-1), .int 0, .int 0, .int 0, .ref m36, .ref m37, .ref m38, .ref m39, .long (31 * (hD 0) + ((0 : Int32).toInt64))]))] H := hP
          have hD : va_D A [(k0, .inr (9, [.ref m0, .int 0, .int 0, .int 0, .int 0, .int 0, .int 0, .ref m7, .ref m8, .ref m9, .int 0, .int 0, .int 0, .ref m13, .ref m14, .ref m15, .int 0, .ref m17, .ref m18, .ref m19, .ref m20, .ref m21, .ref m22, .ref m23, .ref m24, .ref m25, .ref m26, .ref m27, .ref m28, .int 0, .ref m30, .int 0, .int (-1), .int 0, .int 0, .int 0, .ref m36, .ref m37, .ref m38, .ref m39, .long (31 * (hD 0) + ((0 : Int32).toInt64))]))] := hD
          refine lv_iinc (v := 1) (lv' := [(1, .int 1), (0, .ref k0)]) hx hb dX9_digest_132 hl (k := 0) rfl (by decide) (by decide) rfl (fun ls hl => ?_)
          refine lv_goto (tgt := 116) hx hb dX9_digest_135 (by decide) ?_
          refine lv_iload_n hx hb dX9_digest_116 rfl (lv_at hl 0 rfl) ?_
          refine lv_bipush (v := 10) hx hb dX9_digest_117 (by decide) ?_
          refine lv_icmp_ge (tgt := 138) hx hb dX9_digest_119 (by decide) (fun c119_10 => ?_) (fun c119_10 => ?_)
          · exact absurd c119_10 (by decide)
          · skip
            have hP : va_P g.1 vwCl [(k0, .inr (9, [.ref m0, .int 0, .int 0, .int 0, .int 0, .int 0, .int 0, .ref m7, .ref m8, .ref m9, .int 0, .int 0, .int 0, .ref m13, .ref m14, .ref m15, .int 0, .ref m17, .ref m18, .ref m19, .ref m20, .ref m21, .ref m22, .ref m23, .ref m24, .ref m25, .ref m26, .ref m27, .ref m28, .int 0, .ref m30, .int 0, .int (-1), .int 0, .int 0, .int 0, .ref m36, .ref m37, .ref m38, .ref m39, .long (hD 1)]))] H := hP
            have hD : va_D A [(k0, .inr (9, [.ref m0, .int 0, .int 0, .int 0, .int 0, .int 0, .int 0, .ref m7, .ref m8, .ref m9, .int 0, .int 0, .int 0, .ref m13, .ref m14, .ref m15, .int 0, .ref m17, .ref m18, .ref m19, .ref m20, .ref m21, .ref m22, .ref m23, .ref m24, .ref m25, .ref m26, .ref m27, .ref m28, .int 0, .ref m30, .int 0, .int (-1), .int 0, .int 0, .int 0, .ref m36, .ref m37, .ref m38, .ref m39, .long (hD 1)]))] := hD
            refine lv_aload_n hx hb dX9_digest_122 rfl (lv_at hl 1 rfl) ?_
            refine lv_aload_n hx hb dX9_digest_123 rfl (lv_at hl 1 rfl) ?_
            refine lv_iload_n hx hb dX9_digest_124 rfl (lv_at hl 0 rfl) ?_
            refine k_ci (wr := []) hP hD hS hA [0] [] rfl rfl (by decide) (by decide) (va_runV (As := [.int 1]) (rest := [.ref k0]) ⟨hx, hb, hml, hown, hts⟩ (c_X9_countOf l g k0 m0 m7 m8 m9 m13 m14 m15 m17 m18 m19 m20 m21 m22 m23 m24 m25 m26 m27 m28 m30 m36 m37 m38 m39 (hD 1) 1  H.size) (cwV 1 hts gX9_digest_X9_countOf rfl rfl rfl (by decide +kernel) ⟨Nat.le_of_ble_eq_true rfl, Nat.le_of_ble_eq_true rfl⟩) (k_preV hE hZ hP hD hS hA [0] rfl (by decide) (va_recv hE.1 hP (ci := 9) (q0 := 0) rfl rfl)) rfl rfl hl.1 rfl (lv_room (Nat.le_of_ble_eq_true rfl)) dX9_digest_125 ⟨Nat.le_of_ble_eq_true rfl, Nat.le_of_ble_eq_true rfl⟩) (fun r_11 w1 H locs hw hP hD hS => ?_)
            obtain ⟨rfl, rfl⟩ := hw
            have hP : va_P g.1 vwCl [(k0, .inr (9, [.ref m0, .int 0, .int 0, .int 0, .int 0, .int 0, .int 0, .ref m7, .ref m8, .ref m9, .int 0, .int 0, .int 0, .ref m13, .ref m14, .ref m15, .int 0, .ref m17, .ref m18, .ref m19, .ref m20, .ref m21, .ref m22, .ref m23, .ref m24, .ref m25, .ref m26, .ref m27, .ref m28, .int 0, .ref m30, .int 0, .int (-1), .int 0, .int 0, .int 0, .ref m36, .ref m37, .ref m38, .ref m39, .long (hD 1)]))] H := hP
            have hD : va_D A [(k0, .inr (9, [.ref m0, .int 0, .int 0, .int 0, .int 0, .int 0, .int 0, .ref m7, .ref m8, .ref m9, .int 0, .int 0, .int 0, .ref m13, .ref m14, .ref m15, .int 0, .ref m17, .ref m18, .ref m19, .ref m20, .ref m21, .ref m22, .ref m23, .ref m24, .ref m25, .ref m26, .ref m27, .ref m28, .int 0, .ref m30, .int 0, .int (-1), .int 0, .int 0, .int 0, .ref m36, .ref m37, .ref m38, .ref m39, .long (hD 1)]))] := hD
            refine lv_topi (fun x_13 ex_13 => ?_)
            obtain rfl : x_13 = 0 := by rw [ex_13]; decide
            refine lv_i2l hx hb dX9_digest_128 rfl ?_
            refine k_cv (wr := []) hP hD hS hA [0] [] rfl rfl (by decide) (by decide) (va_runV (As := [.long ((0 : Int32).toInt64)]) (rest := []) ⟨hx, hb, hml, hown, hts⟩ (c_X9_note l g k0 m0 0 0 0 0 0 0 m7 m8 m9 0 0 0 m13 m14 m15 0 m17 m18 m19 m20 m21 m22 m23 m24 m25 m26 m27 m28 0 m30 0 (-1) 0 0 0 m36 m37 m38 m39 (hD 1) ((0 : Int32).toInt64)  H.size) (cwV 1 hts gX9_digest_X9_note rfl rfl rfl (by decide +kernel) ⟨Nat.le_of_ble_eq_true rfl, Nat.le_of_ble_eq_true rfl⟩) (k_preV hE hZ hP hD hS hA [0] rfl (by decide) (va_recv hE.1 hP (ci := 9) (q0 := 0) rfl rfl)) rfl rfl hl.1 rfl (lv_room (Nat.le_of_ble_eq_true rfl)) dX9_digest_129 ⟨Nat.le_of_ble_eq_true rfl, Nat.le_of_ble_eq_true rfl⟩) (fun w1 H locs hw hP hD hS => ?_)
            obtain rfl := hw
            have hP : va_P g.1 vwCl [(k0, .inr (9, [.ref m0, .int 0, .int 0, .int 0, .int 0, .int 0, .int 0, .ref m7, .ref m8, .ref m9, .int 0, .int 0, .int 0, .ref m13, .ref m14, .ref m15, .int 0, .ref m17, .ref m18, .ref m19, .ref m20, .ref m21, .ref m22, .ref m23, .ref m24, .ref m25, .ref m26, .ref m27, .ref m28, .int 0, .ref m30, .int 0, .int (-1), .int 0, .int 0, .int 0, .ref m36, .ref m37, .ref m38, .ref m39, .long (31 * (hD 1) + ((0 : Int32).toInt64))]))] H := hP
            have hD : va_D A [(k0, .inr (9, [.ref m0, .int 0, .int 0, .int 0, .int 0, .int 0, .int 0, .ref m7, .ref m8, .ref m9, .int 0, .int 0, .int 0, .ref m13, .ref m14, .ref m15, .int 0, .ref m17, .ref m18, .ref m19, .ref m20, .ref m21, .ref m22, .ref m23, .ref m24, .ref m25, .ref m26, .ref m27, .ref m28, .int 0, .ref m30, .int 0, .int (-1), .int 0, .int 0, .int 0, .ref m36, .ref m37, .ref m38, .ref m39, .long (31 * (hD 1) + ((0 : Int32).toInt64))]))] := hD
            refine lv_iinc (v := 2) (lv' := [(1, .int 2), (0, .ref k0)]) hx hb dX9_digest_132 hl (k := 0) rfl (by decide) (by decide) rfl (fun ls hl => ?_)
            refine lv_goto (tgt := 116) hx hb dX9_digest_135 (by decide) ?_
            refine lv_iload_n hx hb dX9_digest_116 rfl (lv_at hl 0 rfl) ?_
            refine lv_bipush (v := 10) hx hb dX9_digest_117 (by decide) ?_
            refine lv_icmp_ge (tgt := 138) hx hb dX9_digest_119 (by decide) (fun c119_15 => ?_) (fun c119_15 => ?_)
            · exact absurd c119_15 (by decide)
            · skip
              have hP : va_P g.1 vwCl [(k0, .inr (9, [.ref m0, .int 0, .int 0, .int 0, .int 0, .int 0, .int 0, .ref m7, .ref m8, .ref m9, .int 0, .int 0, .int 0, .ref m13, .ref m14, .ref m15, .int 0, .ref m17, .ref m18, .ref m19, .ref m20, .ref m21, .ref m22, .ref m23, .ref m24, .ref m25, .ref m26, .ref m27, .ref m28, .int 0, .ref m30, .int 0, .int (-1), .int 0, .int 0, .int 0, .ref m36, .ref m37, .ref m38, .ref m39, .long (hD 2)]))] H := hP
              have hD : va_D A [(k0, .inr (9, [.ref m0, .int 0, .int 0, .int 0, .int 0, .int 0, .int 0, .ref m7, .ref m8, .ref m9, .int 0, .int 0, .int 0, .ref m13, .ref m14, .ref m15, .int 0, .ref m17, .ref m18, .ref m19, .ref m20, .ref m21, .ref m22, .ref m23, .ref m24, .ref m25, .ref m26, .ref m27, .ref m28, .int 0, .ref m30, .int 0, .int (-1), .int 0, .int 0, .int 0, .ref m36, .ref m37, .ref m38, .ref m39, .long (hD 2)]))] := hD
              refine lv_aload_n hx hb dX9_digest_122 rfl (lv_at hl 1 rfl) ?_
              refine lv_aload_n hx hb dX9_digest_123 rfl (lv_at hl 1 rfl) ?_
              refine lv_iload_n hx hb dX9_digest_124 rfl (lv_at hl 0 rfl) ?_
              refine k_ci (wr := []) hP hD hS hA [0] [] rfl rfl (by decide) (by decide) (va_runV (As := [.int 2]) (rest := [.ref k0]) ⟨hx, hb, hml, hown, hts⟩ (c_X9_countOf l g k0 m0 m7 m8 m9 m13 m14 m15 m17 m18 m19 m20 m21 m22 m23 m24 m25 m26 m27 m28 m30 m36 m37 m38 m39 (hD 2) 2  H.size) (cwV 1 hts gX9_digest_X9_countOf rfl rfl rfl (by decide +kernel) ⟨Nat.le_of_ble_eq_true rfl, Nat.le_of_ble_eq_true rfl⟩) (k_preV hE hZ hP hD hS hA [0] rfl (by decide) (va_recv hE.1 hP (ci := 9) (q0 := 0) rfl rfl)) rfl rfl hl.1 rfl (lv_room (Nat.le_of_ble_eq_true rfl)) dX9_digest_125 ⟨Nat.le_of_ble_eq_true rfl, Nat.le_of_ble_eq_true rfl⟩) (fun r_16 w1 H locs hw hP hD hS => ?_)
              obtain ⟨rfl, rfl⟩ := hw
              have hP : va_P g.1 vwCl [(k0, .inr (9, [.ref m0, .int 0, .int 0, .int 0, .int 0, .int 0, .int 0, .ref m7, .ref m8, .ref m9, .int 0, .int 0, .int 0, .ref m13, .ref m14, .ref m15, .int 0, .ref m17, .ref m18, .ref m19, .ref m20, .ref m21, .ref m22, .ref m23, .ref m24, .ref m25, .ref m26, .ref m27, .ref m28, .int 0, .ref m30, .int 0, .int (-1), .int 0, .int 0, .int 0, .ref m36, .ref m37, .ref m38, .ref m39, .long (hD 2)]))] H := hP
              have hD : va_D A [(k0, .inr (9, [.ref m0, .int 0, .int 0, .int 0, .int 0, .int 0, .int 0, .ref m7, .ref m8, .ref m9, .int 0, .int 0, .int 0, .ref m13, .ref m14, .ref m15, .int 0, .ref m17, .ref m18, .ref m19, .ref m20, .ref m21, .ref m22, .ref m23, .ref m24, .ref m25, .ref m26, .ref m27, .ref m28, .int 0, .ref m30, .int 0, .int (-1), .int 0, .int 0, .int 0, .ref m36, .ref m37, .ref m38, .ref m39, .long (hD 2)]))] := hD
              refine lv_topi (fun x_18 ex_18 => ?_)
              obtain rfl : x_18 = 0 := by rw [ex_18]; decide
              refine lv_i2l hx hb dX9_digest_128 rfl ?_
              refine k_cv (wr := []) hP hD hS hA [0] [] rfl rfl (by decide) (by decide) (va_runV (As := [.long ((0 : Int32).toInt64)]) (rest := []) ⟨hx, hb, hml, hown, hts⟩ (c_X9_note l g k0 m0 0 0 0 0 0 0 m7 m8 m9 0 0 0 m13 m14 m15 0 m17 m18 m19 m20 m21 m22 m23 m24 m25 m26 m27 m28 0 m30 0 (-1) 0 0 0 m36 m37 m38 m39 (hD 2) ((0 : Int32).toInt64)  H.size) (cwV 1 hts gX9_digest_X9_note rfl rfl rfl (by decide +kernel) ⟨Nat.le_of_ble_eq_true rfl, Nat.le_of_ble_eq_true rfl⟩) (k_preV hE hZ hP hD hS hA [0] rfl (by decide) (va_recv hE.1 hP (ci := 9) (q0 := 0) rfl rfl)) rfl rfl hl.1 rfl (lv_room (Nat.le_of_ble_eq_true rfl)) dX9_digest_129 ⟨Nat.le_of_ble_eq_true rfl, Nat.le_of_ble_eq_true rfl⟩) (fun w1 H locs hw hP hD hS => ?_)
              obtain rfl := hw
              have hP : va_P g.1 vwCl [(k0, .inr (9, [.ref m0, .int 0, .int 0, .int 0, .int 0, .int 0, .int 0, .ref m7, .ref m8, .ref m9, .int 0, .int 0, .int 0, .ref m13, .ref m14, .ref m15, .int 0, .ref m17, .ref m18, .ref m19, .ref m20, .ref m21, .ref m22, .ref m23, .ref m24, .ref m25, .ref m26, .ref m27, .ref m28, .int 0, .ref m30, .int 0, .int (-1), .int 0, .int 0, .int 0, .ref m36, .ref m37, .ref m38, .ref m39, .long (31 * (hD 2) + ((0 : Int32).toInt64))]))] H := hP
              have hD : va_D A [(k0, .inr (9, [.ref m0, .int 0, .int 0, .int 0, .int 0, .int 0, .int 0, .ref m7, .ref m8, .ref m9, .int 0, .int 0, .int 0, .ref m13, .ref m14, .ref m15, .int 0, .ref m17, .ref m18, .ref m19, .ref m20, .ref m21, .ref m22, .ref m23, .ref m24, .ref m25, .ref m26, .ref m27, .ref m28, .int 0, .ref m30, .int 0, .int (-1), .int 0, .int 0, .int 0, .ref m36, .ref m37, .ref m38, .ref m39, .long (31 * (hD 2) + ((0 : Int32).toInt64))]))] := hD
              refine lv_iinc (v := 3) (lv' := [(1, .int 3), (0, .ref k0)]) hx hb dX9_digest_132 hl (k := 0) rfl (by decide) (by decide) rfl (fun ls hl => ?_)
              refine lv_goto (tgt := 116) hx hb dX9_digest_135 (by decide) ?_
              refine lv_iload_n hx hb dX9_digest_116 rfl (lv_at hl 0 rfl) ?_
              refine lv_bipush (v := 10) hx hb dX9_digest_117 (by decide) ?_
              refine lv_icmp_ge (tgt := 138) hx hb dX9_digest_119 (by decide) (fun c119_20 => ?_) (fun c119_20 => ?_)
              · exact absurd c119_20 (by decide)
              · skip
                have hP : va_P g.1 vwCl [(k0, .inr (9, [.ref m0, .int 0, .int 0, .int 0, .int 0, .int 0, .int 0, .ref m7, .ref m8, .ref m9, .int 0, .int 0, .int 0, .ref m13, .ref m14, .ref m15, .int 0, .ref m17, .ref m18, .ref m19, .ref m20, .ref m21, .ref m22, .ref m23, .ref m24, .ref m25, .ref m26, .ref m27, .ref m28, .int 0, .ref m30, .int 0, .int (-1), .int 0, .int 0, .int 0, .ref m36, .ref m37, .ref m38, .ref m39, .long (hD 3)]))] H := hP
                have hD : va_D A [(k0, .inr (9, [.ref m0, .int 0, .int 0, .int 0, .int 0, .int 0, .int 0, .ref m7, .ref m8, .ref m9, .int 0, .int 0, .int 0, .ref m13, .ref m14, .ref m15, .int 0, .ref m17, .ref m18, .ref m19, .ref m20, .ref m21, .ref m22, .ref m23, .ref m24, .ref m25, .ref m26, .ref m27, .ref m28, .int 0, .ref m30, .int 0, .int (-1), .int 0, .int 0, .int 0, .ref m36, .ref m37, .ref m38, .ref m39, .long (hD 3)]))] := hD
                refine lv_aload_n hx hb dX9_digest_122 rfl (lv_at hl 1 rfl) ?_
                refine lv_aload_n hx hb dX9_digest_123 rfl (lv_at hl 1 rfl) ?_
                refine lv_iload_n hx hb dX9_digest_124 rfl (lv_at hl 0 rfl) ?_
                refine k_ci (wr := []) hP hD hS hA [0] [] rfl rfl (by decide) (by decide) (va_runV (As := [.int 3]) (rest := [.ref k0]) ⟨hx, hb, hml, hown, hts⟩ (c_X9_countOf l g k0 m0 m7 m8 m9 m13 m14 m15 m17 m18 m19 m20 m21 m22 m23 m24 m25 m26 m27 m28 m30 m36 m37 m38 m39 (hD 3) 3  H.size) (cwV 1 hts gX9_digest_X9_countOf rfl rfl rfl (by decide +kernel) ⟨Nat.le_of_ble_eq_true rfl, Nat.le_of_ble_eq_true rfl⟩) (k_preV hE hZ hP hD hS hA [0] rfl (by decide) (va_recv hE.1 hP (ci := 9) (q0 := 0) rfl rfl)) rfl rfl hl.1 rfl (lv_room (Nat.le_of_ble_eq_true rfl)) dX9_digest_125 ⟨Nat.le_of_ble_eq_true rfl, Nat.le_of_ble_eq_true rfl⟩) (fun r_21 w1 H locs hw hP hD hS => ?_)
                obtain ⟨rfl, rfl⟩ := hw
                have hP : va_P g.1 vwCl [(k0, .inr (9, [.ref m0, .int 0, .int 0, .int 0, .int 0, .int 0, .int 0, .ref m7, .ref m8, .ref m9, .int 0, .int 0, .int 0, .ref m13, .ref m14, .ref m15, .int 0, .ref m17, .ref m18, .ref m19, .ref m20, .ref m21, .ref m22, .ref m23, .ref m24, .ref m25, .ref m26, .ref m27, .ref m28, .int 0, .ref m30, .int 0, .int (-1), .int 0, .int 0, .int 0, .ref m36, .ref m37, .ref m38, .ref m39, .long (hD 3)]))] H := hP
                have hD : va_D A [(k0, .inr (9, [.ref m0, .int 0, .int 0, .int 0, .int 0, .int 0, .int 0, .ref m7, .ref m8, .ref m9, .int 0, .int 0, .int 0, .ref m13, .ref m14, .ref m15, .int 0, .ref m17, .ref m18, .ref m19, .ref m20, .ref m21, .ref m22, .ref m23, .ref m24, .ref m25, .ref m26, .ref m27, .ref m28, .int 0, .ref m30, .int 0, .int (-1), .int 0, .int 0, .int 0, .ref m36, .ref m37, .ref m38, .ref m39, .long (hD 3)]))] := hD
                refine lv_topi (fun x_23 ex_23 => ?_)
                obtain rfl : x_23 = 0 := by rw [ex_23]; decide
                refine lv_i2l hx hb dX9_digest_128 rfl ?_
                refine k_cv (wr := []) hP hD hS hA [0] [] rfl rfl (by decide) (by decide) (va_runV (As := [.long ((0 : Int32).toInt64)]) (rest := []) ⟨hx, hb, hml, hown, hts⟩ (c_X9_note l g k0 m0 0 0 0 0 0 0 m7 m8 m9 0 0 0 m13 m14 m15 0 m17 m18 m19 m20 m21 m22 m23 m24 m25 m26 m27 m28 0 m30 0 (-1) 0 0 0 m36 m37 m38 m39 (hD 3) ((0 : Int32).toInt64)  H.size) (cwV 1 hts gX9_digest_X9_note rfl rfl rfl (by decide +kernel) ⟨Nat.le_of_ble_eq_true rfl, Nat.le_of_ble_eq_true rfl⟩) (k_preV hE hZ hP hD hS hA [0] rfl (by decide) (va_recv hE.1 hP (ci := 9) (q0 := 0) rfl rfl)) rfl rfl hl.1 rfl (lv_room (Nat.le_of_ble_eq_true rfl)) dX9_digest_129 ⟨Nat.le_of_ble_eq_true rfl, Nat.le_of_ble_eq_true rfl⟩) (fun w1 H locs hw hP hD hS => ?_)
                obtain rfl := hw
                have hP : va_P g.1 vwCl [(k0, .inr (9, [.ref m0, .int 0, .int 0, .int 0, .int 0, .int 0, .int 0, .ref m7, .ref m8, .ref m9, .int 0, .int 0, .int 0, .ref m13, .ref m14, .ref m15, .int 0, .ref m17, .ref m18, .ref m19, .ref m20, .ref m21, .ref m22, .ref m23, .ref m24, .ref m25, .ref m26, .ref m27, .ref m28, .int 0, .ref m30, .int 0, .int (-1), .int 0, .int 0, .int 0, .ref m36, .ref m37, .ref m38, .ref m39, .long (31 * (hD 3) + ((0 : Int32).toInt64))]))] H := hP
                have hD : va_D A [(k0, .inr (9, [.ref m0, .int 0, .int 0, .int 0, .int 0, .int 0, .int 0, .ref m7, .ref m8, .ref m9, .int 0, .int 0, .int 0, .ref m13, .ref m14, .ref m15, .int 0, .ref m17, .ref m18, .ref m19, .ref m20, .ref m21, .ref m22, .ref m23, .ref m24, .ref m25, .ref m26, .ref m27, .ref m28, .int 0, .ref m30, .int 0, .int (-1), .int 0, .int 0, .int 0, .ref m36, .ref m37, .ref m38, .ref m39, .long (31 * (hD 3) + ((0 : Int32).toInt64))]))] := hD
                refine lv_iinc (v := 4) (lv' := [(1, .int 4), (0, .ref k0)]) hx hb dX9_digest_132 hl (k := 0) rfl (by decide) (by decide) rfl (fun ls hl => ?_)
                refine lv_goto (tgt := 116) hx hb dX9_digest_135 (by decide) ?_
                refine lv_iload_n hx hb dX9_digest_116 rfl (lv_at hl 0 rfl) ?_
                refine lv_bipush (v := 10) hx hb dX9_digest_117 (by decide) ?_
                refine lv_icmp_ge (tgt := 138) hx hb dX9_digest_119 (by decide) (fun c119_25 => ?_) (fun c119_25 => ?_)
                · exact absurd c119_25 (by decide)
                · skip
                  have hP : va_P g.1 vwCl [(k0, .inr (9, [.ref m0, .int 0, .int 0, .int 0, .int 0, .int 0, .int 0, .ref m7, .ref m8, .ref m9, .int 0, .int 0, .int 0, .ref m13, .ref m14, .ref m15, .int 0, .ref m17, .ref m18, .ref m19, .ref m20, .ref m21, .ref m22, .ref m23, .ref m24, .ref m25, .ref m26, .ref m27, .ref m28, .int 0, .ref m30, .int 0, .int (-1), .int 0, .int 0, .int 0, .ref m36, .ref m37, .ref m38, .ref m39, .long (hD 4)]))] H := hP
                  have hD : va_D A [(k0, .inr (9, [.ref m0, .int 0, .int 0, .int 0, .int 0, .int 0, .int 0, .ref m7, .ref m8, .ref m9, .int 0, .int 0, .int 0, .ref m13, .ref m14, .ref m15, .int 0, .ref m17, .ref m18, .ref m19, .ref m20, .ref m21, .ref m22, .ref m23, .ref m24, .ref m25, .ref m26, .ref m27, .ref m28, .int 0, .ref m30, .int 0, .int (-1), .int 0, .int 0, .int 0, .ref m36, .ref m37, .ref m38, .ref m39, .long (hD 4)]))] := hD
                  refine lv_aload_n hx hb dX9_digest_122 rfl (lv_at hl 1 rfl) ?_
                  refine lv_aload_n hx hb dX9_digest_123 rfl (lv_at hl 1 rfl) ?_
                  refine lv_iload_n hx hb dX9_digest_124 rfl (lv_at hl 0 rfl) ?_
                  refine k_ci (wr := []) hP hD hS hA [0] [] rfl rfl (by decide) (by decide) (va_runV (As := [.int 4]) (rest := [.ref k0]) ⟨hx, hb, hml, hown, hts⟩ (c_X9_countOf l g k0 m0 m7 m8 m9 m13 m14 m15 m17 m18 m19 m20 m21 m22 m23 m24 m25 m26 m27 m28 m30 m36 m37 m38 m39 (hD 4) 4  H.size) (cwV 1 hts gX9_digest_X9_countOf rfl rfl rfl (by decide +kernel) ⟨Nat.le_of_ble_eq_true rfl, Nat.le_of_ble_eq_true rfl⟩) (k_preV hE hZ hP hD hS hA [0] rfl (by decide) (va_recv hE.1 hP (ci := 9) (q0 := 0) rfl rfl)) rfl rfl hl.1 rfl (lv_room (Nat.le_of_ble_eq_true rfl)) dX9_digest_125 ⟨Nat.le_of_ble_eq_true rfl, Nat.le_of_ble_eq_true rfl⟩) (fun r_26 w1 H locs hw hP hD hS => ?_)
                  obtain ⟨rfl, rfl⟩ := hw
                  have hP : va_P g.1 vwCl [(k0, .inr (9, [.ref m0, .int 0, .int 0, .int 0, .int 0, .int 0, .int 0, .ref m7, .ref m8, .ref m9, .int 0, .int 0, .int 0, .ref m13, .ref m14, .ref m15, .int 0, .ref m17, .ref m18, .ref m19, .ref m20, .ref m21, .ref m22, .ref m23, .ref m24, .ref m25, .ref m26, .ref m27, .ref m28, .int 0, .ref m30, .int 0, .int (-1), .int 0, .int 0, .int 0, .ref m36, .ref m37, .ref m38, .ref m39, .long (hD 4)]))] H := hP
                  have hD : va_D A [(k0, .inr (9, [.ref m0, .int 0, .int 0, .int 0, .int 0, .int 0, .int 0, .ref m7, .ref m8, .ref m9, .int 0, .int 0, .int 0, .ref m13, .ref m14, .ref m15, .int 0, .ref m17, .ref m18, .ref m19, .ref m20, .ref m21, .ref m22, .ref m23, .ref m24, .ref m25, .ref m26, .ref m27, .ref m28, .int 0, .ref m30, .int 0, .int (-1), .int 0, .int 0, .int 0, .ref m36, .ref m37, .ref m38, .ref m39, .long (hD 4)]))] := hD
                  refine lv_topi (fun x_28 ex_28 => ?_)
                  obtain rfl : x_28 = 0 := by rw [ex_28]; decide
                  refine lv_i2l hx hb dX9_digest_128 rfl ?_
                  refine k_cv (wr := []) hP hD hS hA [0] [] rfl rfl (by decide) (by decide) (va_runV (As := [.long ((0 : Int32).toInt64)]) (rest := []) ⟨hx, hb, hml, hown, hts⟩ (c_X9_note l g k0 m0 0 0 0 0 0 0 m7 m8 m9 0 0 0 m13 m14 m15 0 m17 m18 m19 m20 m21 m22 m23 m24 m25 m26 m27 m28 0 m30 0 (-1) 0 0 0 m36 m37 m38 m39 (hD 4) ((0 : Int32).toInt64)  H.size) (cwV 1 hts gX9_digest_X9_note rfl rfl rfl (by decide +kernel) ⟨Nat.le_of_ble_eq_true rfl, Nat.le_of_ble_eq_true rfl⟩) (k_preV hE hZ hP hD hS hA [0] rfl (by decide) (va_recv hE.1 hP (ci := 9) (q0 := 0) rfl rfl)) rfl rfl hl.1 rfl (lv_room (Nat.le_of_ble_eq_true rfl)) dX9_digest_129 ⟨Nat.le_of_ble_eq_true rfl, Nat.le_of_ble_eq_true rfl⟩) (fun w1 H locs hw hP hD hS => ?_)
                  obtain rfl := hw
                  have hP : va_P g.1 vwCl [(k0, .inr (9, [.ref m0, .int 0, .int 0, .int 0, .int 0, .int 0, .int 0, .ref m7, .ref m8, .ref m9, .int 0, .int 0, .int 0, .ref m13, .ref m14, .ref m15, .int 0, .ref m17, .ref m18, .ref m19, .ref m20, .ref m21, .ref m22, .ref m23, .ref m24, .ref m25, .ref m26, .ref m27, .ref m28, .int 0, .ref m30, .int 0, .int (-1), .int 0, .int 0, .int 0, .ref m36, .ref m37, .ref m38, .ref m39, .long (31 * (hD 4) + ((0 : Int32).toInt64))]))] H := hP
                  have hD : va_D A [(k0, .inr (9, [.ref m0, .int 0, .int 0, .int 0, .int 0, .int 0, .int 0, .ref m7, .ref m8, .ref m9, .int 0, .int 0, .int 0, .ref m13, .ref m14, .ref m15, .int 0, .ref m17, .ref m18, .ref m19, .ref m20, .ref m21, .ref m22, .ref m23, .ref m24, .ref m25, .ref m26, .ref m27, .ref m28, .int 0, .ref m30, .int 0, .int (-1), .int 0, .int 0, .int 0, .ref m36, .ref m37, .ref m38, .ref m39, .long (31 * (hD 4) + ((0 : Int32).toInt64))]))] := hD
                  refine lv_iinc (v := 5) (lv' := [(1, .int 5), (0, .ref k0)]) hx hb dX9_digest_132 hl (k := 0) rfl (by decide) (by decide) rfl (fun ls hl => ?_)
                  refine lv_goto (tgt := 116) hx hb dX9_digest_135 (by decide) ?_
                  refine lv_iload_n hx hb dX9_digest_116 rfl (lv_at hl 0 rfl) ?_
                  refine lv_bipush (v := 10) hx hb dX9_digest_117 (by decide) ?_
                  refine lv_icmp_ge (tgt := 138) hx hb dX9_digest_119 (by decide) (fun c119_30 => ?_) (fun c119_30 => ?_)
                  · exact absurd c119_30 (by decide)
                  · skip
                    have hP : va_P g.1 vwCl [(k0, .inr (9, [.ref m0, .int 0, .int 0, .int 0, .int 0, .int 0, .int 0, .ref m7, .ref m8, .ref m9, .int 0, .int 0, .int 0, .ref m13, .ref m14, .ref m15, .int 0, .ref m17, .ref m18, .ref m19, .ref m20, .ref m21, .ref m22, .ref m23, .ref m24, .ref m25, .ref m26, .ref m27, .ref m28, .int 0, .ref m30, .int 0, .int (-1), .int 0, .int 0, .int 0, .ref m36, .ref m37, .ref m38, .ref m39, .long (hD 5)]))] H := hP
                    have hD : va_D A [(k0, .inr (9, [.ref m0, .int 0, .int 0, .int 0, .int 0, .int 0, .int 0, .ref m7, .ref m8, .ref m9, .int 0, .int 0, .int 0, .ref m13, .ref m14, .ref m15, .int 0, .ref m17, .ref m18, .ref m19, .ref m20, .ref m21, .ref m22, .ref m23, .ref m24, .ref m25, .ref m26, .ref m27, .ref m28, .int 0, .ref m30, .int 0, .int (-1), .int 0, .int 0, .int 0, .ref m36, .ref m37, .ref m38, .ref m39, .long (hD 5)]))] := hD
                    refine lv_aload_n hx hb dX9_digest_122 rfl (lv_at hl 1 rfl) ?_
                    refine lv_aload_n hx hb dX9_digest_123 rfl (lv_at hl 1 rfl) ?_
                    refine lv_iload_n hx hb dX9_digest_124 rfl (lv_at hl 0 rfl) ?_
                    refine k_ci (wr := []) hP hD hS hA [0] [] rfl rfl (by decide) (by decide) (va_runV (As := [.int 5]) (rest := [.ref k0]) ⟨hx, hb, hml, hown, hts⟩ (c_X9_countOf l g k0 m0 m7 m8 m9 m13 m14 m15 m17 m18 m19 m20 m21 m22 m23 m24 m25 m26 m27 m28 m30 m36 m37 m38 m39 (hD 5) 5  H.size) (cwV 1 hts gX9_digest_X9_countOf rfl rfl rfl (by decide +kernel) ⟨Nat.le_of_ble_eq_true rfl, Nat.le_of_ble_eq_true rfl⟩) (k_preV hE hZ hP hD hS hA [0] rfl (by decide) (va_recv hE.1 hP (ci := 9) (q0 := 0) rfl rfl)) rfl rfl hl.1 rfl (lv_room (Nat.le_of_ble_eq_true rfl)) dX9_digest_125 ⟨Nat.le_of_ble_eq_true rfl, Nat.le_of_ble_eq_true rfl⟩) (fun r_31 w1 H locs hw hP hD hS => ?_)
                    obtain ⟨rfl, rfl⟩ := hw
                    have hP : va_P g.1 vwCl [(k0, .inr (9, [.ref m0, .int 0, .int 0, .int 0, .int 0, .int 0, .int 0, .ref m7, .ref m8, .ref m9, .int 0, .int 0, .int 0, .ref m13, .ref m14, .ref m15, .int 0, .ref m17, .ref m18, .ref m19, .ref m20, .ref m21, .ref m22, .ref m23, .ref m24, .ref m25, .ref m26, .ref m27, .ref m28, .int 0, .ref m30, .int 0, .int (-1), .int 0, .int 0, .int 0, .ref m36, .ref m37, .ref m38, .ref m39, .long (hD 5)]))] H := hP
                    have hD : va_D A [(k0, .inr (9, [.ref m0, .int 0, .int 0, .int 0, .int 0, .int 0, .int 0, .ref m7, .ref m8, .ref m9, .int 0, .int 0, .int 0, .ref m13, .ref m14, .ref m15, .int 0, .ref m17, .ref m18, .ref m19, .ref m20, .ref m21, .ref m22, .ref m23, .ref m24, .ref m25, .ref m26, .ref m27, .ref m28, .int 0, .ref m30, .int 0, .int (-1), .int 0, .int 0, .int 0, .ref m36, .ref m37, .ref m38, .ref m39, .long (hD 5)]))] := hD
                    refine lv_topi (fun x_33 ex_33 => ?_)
                    obtain rfl : x_33 = 0 := by rw [ex_33]; decide
                    refine lv_i2l hx hb dX9_digest_128 rfl ?_
                    refine k_cv (wr := []) hP hD hS hA [0] [] rfl rfl (by decide) (by decide) (va_runV (As := [.long ((0 : Int32).toInt64)]) (rest := []) ⟨hx, hb, hml, hown, hts⟩ (c_X9_note l g k0 m0 0 0 0 0 0 0 m7 m8 m9 0 0 0 m13 m14 m15 0 m17 m18 m19 m20 m21 m22 m23 m24 m25 m26 m27 m28 0 m30 0 (-1) 0 0 0 m36 m37 m38 m39 (hD 5) ((0 : Int32).toInt64)  H.size) (cwV 1 hts gX9_digest_X9_note rfl rfl rfl (by decide +kernel) ⟨Nat.le_of_ble_eq_true rfl, Nat.le_of_ble_eq_true rfl⟩) (k_preV hE hZ hP hD hS hA [0] rfl (by decide) (va_recv hE.1 hP (ci := 9) (q0 := 0) rfl rfl)) rfl rfl hl.1 rfl (lv_room (Nat.le_of_ble_eq_true rfl)) dX9_digest_129 ⟨Nat.le_of_ble_eq_true rfl, Nat.le_of_ble_eq_true rfl⟩) (fun w1 H locs hw hP hD hS => ?_)
                    obtain rfl := hw
                    have hP : va_P g.1 vwCl [(k0, .inr (9, [.ref m0, .int 0, .int 0, .int 0, .int 0, .int 0, .int 0, .ref m7, .ref m8, .ref m9, .int 0, .int 0, .int 0, .ref m13, .ref m14, .ref m15, .int 0, .ref m17, .ref m18, .ref m19, .ref m20, .ref m21, .ref m22, .ref m23, .ref m24, .ref m25, .ref m26, .ref m27, .ref m28, .int 0, .ref m30, .int 0, .int (-1), .int 0, .int 0, .int 0, .ref m36, .ref m37, .ref m38, .ref m39, .long (31 * (hD 5) + ((0 : Int32).toInt64))]))] H := hP
                    have hD : va_D A [(k0, .inr (9, [.ref m0, .int 0, .int 0, .int 0, .int 0, .int 0, .int 0, .ref m7, .ref m8, .ref m9, .int 0, .int 0, .int 0, .ref m13, .ref m14, .ref m15, .int 0, .ref m17, .ref m18, .ref m19, .ref m20, .ref m21, .ref m22, .ref m23, .ref m24, .ref m25, .ref m26, .ref m27, .ref m28, .int 0, .ref m30, .int 0, .int (-1), .int 0, .int 0, .int 0, .ref m36, .ref m37, .ref m38, .ref m39, .long (31 * (hD 5) + ((0 : Int32).toInt64))]))] := hD
                    refine lv_iinc (v := 6) (lv' := [(1, .int 6), (0, .ref k0)]) hx hb dX9_digest_132 hl (k := 0) rfl (by decide) (by decide) rfl (fun ls hl => ?_)
                    refine lv_goto (tgt := 116) hx hb dX9_digest_135 (by decide) ?_
                    refine lv_iload_n hx hb dX9_digest_116 rfl (lv_at hl 0 rfl) ?_
                    refine lv_bipush (v := 10) hx hb dX9_digest_117 (by decide) ?_
                    refine lv_icmp_ge (tgt := 138) hx hb dX9_digest_119 (by decide) (fun c119_35 => ?_) (fun c119_35 => ?_)
                    · exact absurd c119_35 (by decide)
                    · skip
                      have hP : va_P g.1 vwCl [(k0, .inr (9, [.ref m0, .int 0, .int 0, .int 0, .int 0, .int 0, .int 0, .ref m7, .ref m8, .ref m9, .int 0, .int 0, .int 0, .ref m13, .ref m14, .ref m15, .int 0, .ref m17, .ref m18, .ref m19, .ref m20, .ref m21, .ref m22, .ref m23, .ref m24, .ref m25, .ref m26, .ref m27, .ref m28, .int 0, .ref m30, .int 0, .int (-1), .int 0, .int 0, .int 0, .ref m36, .ref m37, .ref m38, .ref m39, .long (hD 6)]))] H := hP
                      have hD : va_D A [(k0, .inr (9, [.ref m0, .int 0, .int 0, .int 0, .int 0, .int 0, .int 0, .ref m7, .ref m8, .ref m9, .int 0, .int 0, .int 0, .ref m13, .ref m14, .ref m15, .int 0, .ref m17, .ref m18, .ref m19, .ref m20, .ref m21, .ref m22, .ref m23, .ref m24, .ref m25, .ref m26, .ref m27, .ref m28, .int 0, .ref m30, .int 0, .int (-1), .int 0, .int 0, .int 0, .ref m36, .ref m37, .ref m38, .ref m39, .long (hD 6)]))] := hD
                      refine lv_aload_n hx hb dX9_digest_122 rfl (lv_at hl 1 rfl) ?_
                      refine lv_aload_n hx hb dX9_digest_123 rfl (lv_at hl 1 rfl) ?_
                      refine lv_iload_n hx hb dX9_digest_124 rfl (lv_at hl 0 rfl) ?_
                      refine k_ci (wr := []) hP hD hS hA [0] [] rfl rfl (by decide) (by decide) (va_runV (As := [.int 6]) (rest := [.ref k0]) ⟨hx, hb, hml, hown, hts⟩ (c_X9_countOf l g k0 m0 m7 m8 m9 m13 m14 m15 m17 m18 m19 m20 m21 m22 m23 m24 m25 m26 m27 m28 m30 m36 m37 m38 m39 (hD 6) 6  H.size) (cwV 1 hts gX9_digest_X9_countOf rfl rfl rfl (by decide +kernel) ⟨Nat.le_of_ble_eq_true rfl, Nat.le_of_ble_eq_true rfl⟩) (k_preV hE hZ hP hD hS hA [0] rfl (by decide) (va_recv hE.1 hP (ci := 9) (q0 := 0) rfl rfl)) rfl rfl hl.1 rfl (lv_room (Nat.le_of_ble_eq_true rfl)) dX9_digest_125 ⟨Nat.le_of_ble_eq_true rfl, Nat.le_of_ble_eq_true rfl⟩) (fun r_36 w1 H locs hw hP hD hS => ?_)
                      obtain ⟨rfl, rfl⟩ := hw
                      have hP : va_P g.1 vwCl [(k0, .inr (9, [.ref m0, .int 0, .int 0, .int 0, .int 0, .int 0, .int 0, .ref m7, .ref m8, .ref m9, .int 0, .int 0, .int 0, .ref m13, .ref m14, .ref m15, .int 0, .ref m17, .ref m18, .ref m19, .ref m20, .ref m21, .ref m22, .ref m23, .ref m24, .ref m25, .ref m26, .ref m27, .ref m28, .int 0, .ref m30, .int 0, .int (-1), .int 0, .int 0, .int 0, .ref m36, .ref m37, .ref m38, .ref m39, .long (hD 6)]))] H := hP
                      have hD : va_D A [(k0, .inr (9, [.ref m0, .int 0, .int 0, .int 0, .int 0, .int 0, .int 0, .ref m7, .ref m8, .ref m9, .int 0, .int 0, .int 0, .ref m13, .ref m14, .ref m15, .int 0, .ref m17, .ref m18, .ref m19, .ref m20, .ref m21, .ref m22, .ref m23, .ref m24, .ref m25, .ref m26, .ref m27, .ref m28, .int 0, .ref m30, .int 0, .int (-1), .int 0, .int 0, .int 0, .ref m36, .ref m37, .ref m38, .ref m39, .long (hD 6)]))] := hD
                      refine lv_topi (fun x_38 ex_38 => ?_)
                      obtain rfl : x_38 = 0 := by rw [ex_38]; decide
                      refine lv_i2l hx hb dX9_digest_128 rfl ?_
                      refine k_cv (wr := []) hP hD hS hA [0] [] rfl rfl (by decide) (by decide) (va_runV (As := [.long ((0 : Int32).toInt64)]) (rest := []) ⟨hx, hb, hml, hown, hts⟩ (c_X9_note l g k0 m0 0 0 0 0 0 0 m7 m8 m9 0 0 0 m13 m14 m15 0 m17 m18 m19 m20 m21 m22 m23 m24 m25 m26 m27 m28 0 m30 0 (-1) 0 0 0 m36 m37 m38 m39 (hD 6) ((0 : Int32).toInt64)  H.size) (cwV 1 hts gX9_digest_X9_note rfl rfl rfl (by decide +kernel) ⟨Nat.le_of_ble_eq_true rfl, Nat.le_of_ble_eq_true rfl⟩) (k_preV hE hZ hP hD hS hA [0] rfl (by decide) (va_recv hE.1 hP (ci := 9) (q0 := 0) rfl rfl)) rfl rfl hl.1 rfl (lv_room (Nat.le_of_ble_eq_true rfl)) dX9_digest_129 ⟨Nat.le_of_ble_eq_true rfl, Nat.le_of_ble_eq_true rfl⟩) (fun w1 H locs hw hP hD hS => ?_)
                      obtain rfl := hw
                      have hP : va_P g.1 vwCl [(k0, .inr (9, [.ref m0, .int 0, .int 0, .int 0, .int 0, .int 0, .int 0, .ref m7, .ref m8, .ref m9, .int 0, .int 0, .int 0, .ref m13, .ref m14, .ref m15, .int 0, .ref m17, .ref m18, .ref m19, .ref m20, .ref m21, .ref m22, .ref m23, .ref m24, .ref m25, .ref m26, .ref m27, .ref m28, .int 0, .ref m30, .int 0, .int (-1), .int 0, .int 0, .int 0, .ref m36, .ref m37, .ref m38, .ref m39, .long (31 * (hD 6) + ((0 : Int32).toInt64))]))] H := hP
                      have hD : va_D A [(k0, .inr (9, [.ref m0, .int 0, .int 0, .int 0, .int 0, .int 0, .int 0, .ref m7, .ref m8, .ref m9, .int 0, .int 0, .int 0, .ref m13, .ref m14, .ref m15, .int 0, .ref m17, .ref m18, .ref m19, .ref m20, .ref m21, .ref m22, .ref m23, .ref m24, .ref m25, .ref m26, .ref m27, .ref m28, .int 0, .ref m30, .int 0, .int (-1), .int 0, .int 0, .int 0, .ref m36, .ref m37, .ref m38, .ref m39, .long (31 * (hD 6) + ((0 : Int32).toInt64))]))] := hD
                      refine lv_iinc (v := 7) (lv' := [(1, .int 7), (0, .ref k0)]) hx hb dX9_digest_132 hl (k := 0) rfl (by decide) (by decide) rfl (fun ls hl => ?_)
                      refine lv_goto (tgt := 116) hx hb dX9_digest_135 (by decide) ?_
                      refine lv_iload_n hx hb dX9_digest_116 rfl (lv_at hl 0 rfl) ?_
                      refine lv_bipush (v := 10) hx hb dX9_digest_117 (by decide) ?_
                      refine lv_icmp_ge (tgt := 138) hx hb dX9_digest_119 (by decide) (fun c119_40 => ?_) (fun c119_40 => ?_)
                      · exact absurd c119_40 (by decide)
                      · skip
                        have hP : va_P g.1 vwCl [(k0, .inr (9, [.ref m0, .int 0, .int 0, .int 0, .int 0, .int 0, .int 0, .ref m7, .ref m8, .ref m9, .int 0, .int 0, .int 0, .ref m13, .ref m14, .ref m15, .int 0, .ref m17, .ref m18, .ref m19, .ref m20, .ref m21, .ref m22, .ref m23, .ref m24, .ref m25, .ref m26, .ref m27, .ref m28, .int 0, .ref m30, .int 0, .int (-1), .int 0, .int 0, .int 0, .ref m36, .ref m37, .ref m38, .ref m39, .long (hD 7)]))] H := hP
                        have hD : va_D A [(k0, .inr (9, [.ref m0, .int 0, .int 0, .int 0, .int 0, .int 0, .int 0, .ref m7, .ref m8, .ref m9, .int 0, .int 0, .int 0, .ref m13, .ref m14, .ref m15, .int 0, .ref m17, .ref m18, .ref m19, .ref m20, .ref m21, .ref m22, .ref m23, .ref m24, .ref m25, .ref m26, .ref m27, .ref m28, .int 0, .ref m30, .int 0, .int (-1), .int 0, .int 0, .int 0, .ref m36, .ref m37, .ref m38, .ref m39, .long (hD 7)]))] := hD
                        refine lv_aload_n hx hb dX9_digest_122 rfl (lv_at hl 1 rfl) ?_
                        refine lv_aload_n hx hb dX9_digest_123 rfl (lv_at hl 1 rfl) ?_
                        refine lv_iload_n hx hb dX9_digest_124 rfl (lv_at hl 0 rfl) ?_
                        refine k_ci (wr := []) hP hD hS hA [0] [] rfl rfl (by decide) (by decide) (va_runV (As := [.int 7]) (rest := [.ref k0]) ⟨hx, hb, hml, hown, hts⟩ (c_X9_countOf l g k0 m0 m7 m8 m9 m13 m14 m15 m17 m18 m19 m20 m21 m22 m23 m24 m25 m26 m27 m28 m30 m36 m37 m38 m39 (hD 7) 7  H.size) (cwV 1 hts gX9_digest_X9_countOf rfl rfl rfl (by decide +kernel) ⟨Nat.le_of_ble_eq_true rfl, Nat.le_of_ble_eq_true rfl⟩) (k_preV hE hZ hP hD hS hA [0] rfl (by decide) (va_recv hE.1 hP (ci := 9) (q0 := 0) rfl rfl)) rfl rfl hl.1 rfl (lv_room (Nat.le_of_ble_eq_true rfl)) dX9_digest_125 ⟨Nat.le_of_ble_eq_true rfl, Nat.le_of_ble_eq_true rfl⟩) (fun r_41 w1 H locs hw hP hD hS => ?_)
                        obtain ⟨rfl, rfl⟩ := hw
                        have hP : va_P g.1 vwCl [(k0, .inr (9, [.ref m0, .int 0, .int 0, .int 0, .int 0, .int 0, .int 0, .ref m7, .ref m8, .ref m9, .int 0, .int 0, .int 0, .ref m13, .ref m14, .ref m15, .int 0, .ref m17, .ref m18, .ref m19, .ref m20, .ref m21, .ref m22, .ref m23, .ref m24, .ref m25, .ref m26, .ref m27, .ref m28, .int 0, .ref m30, .int 0, .int (-1), .int 0, .int 0, .int 0, .ref m36, .ref m37, .ref m38, .ref m39, .long (hD 7)]))] H := hP
                        have hD : va_D A [(k0, .inr (9, [.ref m0, .int 0, .int 0, .int 0, .int 0, .int 0, .int 0, .ref m7, .ref m8, .ref m9, .int 0, .int 0, .int 0, .ref m13, .ref m14, .ref m15, .int 0, .ref m17, .ref m18, .ref m19, .ref m20, .ref m21, .ref m22, .ref m23, .ref m24, .ref m25, .ref m26, .ref m27, .ref m28, .int 0, .ref m30, .int 0, .int (-1), .int 0, .int 0, .int 0, .ref m36, .ref m37, .ref m38, .ref m39, .long (hD 7)]))] := hD
                        refine lv_topi (fun x_43 ex_43 => ?_)
                        obtain rfl : x_43 = 0 := by rw [ex_43]; decide
                        refine lv_i2l hx hb dX9_digest_128 rfl ?_
                        refine k_cv (wr := []) hP hD hS hA [0] [] rfl rfl (by decide) (by decide) (va_runV (As := [.long ((0 : Int32).toInt64)]) (rest := []) ⟨hx, hb, hml, hown, hts⟩ (c_X9_note l g k0 m0 0 0 0 0 0 0 m7 m8 m9 0 0 0 m13 m14 m15 0 m17 m18 m19 m20 m21 m22 m23 m24 m25 m26 m27 m28 0 m30 0 (-1) 0 0 0 m36 m37 m38 m39 (hD 7) ((0 : Int32).toInt64)  H.size) (cwV 1 hts gX9_digest_X9_note rfl rfl rfl (by decide +kernel) ⟨Nat.le_of_ble_eq_true rfl, Nat.le_of_ble_eq_true rfl⟩) (k_preV hE hZ hP hD hS hA [0] rfl (by decide) (va_recv hE.1 hP (ci := 9) (q0 := 0) rfl rfl)) rfl rfl hl.1 rfl (lv_room (Nat.le_of_ble_eq_true rfl)) dX9_digest_129 ⟨Nat.le_of_ble_eq_true rfl, Nat.le_of_ble_eq_true rfl⟩) (fun w1 H locs hw hP hD hS => ?_)
                        obtain rfl := hw
                        have hP : va_P g.1 vwCl [(k0, .inr (9, [.ref m0, .int 0, .int 0, .int 0, .int 0, .int 0, .int 0, .ref m7, .ref m8, .ref m9, .int 0, .int 0, .int 0, .ref m13, .ref m14, .ref m15, .int 0, .ref m17, .ref m18, .ref m19, .ref m20, .ref m21, .ref m22, .ref m23, .ref m24, .ref m25, .ref m26, .ref m27, .ref m28, .int 0, .ref m30, .int 0, .int (-1), .int 0, .int 0, .int 0, .ref m36, .ref m37, .ref m38, .ref m39, .long (31 * (hD 7) + ((0 : Int32).toInt64))]))] H := hP
                        have hD : va_D A [(k0, .inr (9, [.ref m0, .int 0, .int 0, .int 0, .int 0, .int 0, .int 0, .ref m7, .ref m8, .ref m9, .int 0, .int 0, .int 0, .ref m13, .ref m14, .ref m15, .int 0, .ref m17, .ref m18, .ref m19, .ref m20, .ref m21, .ref m22, .ref m23, .ref m24, .ref m25, .ref m26, .ref m27, .ref m28, .int 0, .ref m30, .int 0, .int (-1), .int 0, .int 0, .int 0, .ref m36, .ref m37, .ref m38, .ref m39, .long (31 * (hD 7) + ((0 : Int32).toInt64))]))] := hD
                        refine lv_iinc (v := 8) (lv' := [(1, .int 8), (0, .ref k0)]) hx hb dX9_digest_132 hl (k := 0) rfl (by decide) (by decide) rfl (fun ls hl => ?_)
                        refine lv_goto (tgt := 116) hx hb dX9_digest_135 (by decide) ?_
                        refine lv_iload_n hx hb dX9_digest_116 rfl (lv_at hl 0 rfl) ?_
                        refine lv_bipush (v := 10) hx hb dX9_digest_117 (by decide) ?_
                        refine lv_icmp_ge (tgt := 138) hx hb dX9_digest_119 (by decide) (fun c119_45 => ?_) (fun c119_45 => ?_)
                        · exact absurd c119_45 (by decide)
                        · skip
                          have hP : va_P g.1 vwCl [(k0, .inr (9, [.ref m0, .int 0, .int 0, .int 0, .int 0, .int 0, .int 0, .ref m7, .ref m8, .ref m9, .int 0, .int 0, .int 0, .ref m13, .ref m14, .ref m15, .int 0, .ref m17, .ref m18, .ref m19, .ref m20, .ref m21, .ref m22, .ref m23, .ref m24, .ref m25, .ref m26, .ref m27, .ref m28, .int 0, .ref m30, .int 0, .int (-1), .int 0, .int 0, .int 0, .ref m36, .ref m37, .ref m38, .ref m39, .long (hD 8)]))] H := hP
                          have hD : va_D A [(k0, .inr (9, [.ref m0, .int 0, .int 0, .int 0, .int 0, .int 0, .int 0, .ref m7, .ref m8, .ref m9, .int 0, .int 0, .int 0, .ref m13, .ref m14, .ref m15, .int 0, .ref m17, .ref m18, .ref m19, .ref m20, .ref m21, .ref m22, .ref m23, .ref m24, .ref m25, .ref m26, .ref m27, .ref m28, .int 0, .ref m30, .int 0, .int (-1), .int 0, .int 0, .int 0, .ref m36, .ref m37, .ref m38, .ref m39, .long (hD 8)]))] := hD
                          refine lv_aload_n hx hb dX9_digest_122 rfl (lv_at hl 1 rfl) ?_
                          refine lv_aload_n hx hb dX9_digest_123 rfl (lv_at hl 1 rfl) ?_
                          refine lv_iload_n hx hb dX9_digest_124 rfl (lv_at hl 0 rfl) ?_
                          refine k_ci (wr := []) hP hD hS hA [0] [] rfl rfl (by decide) (by decide) (va_runV (As := [.int 8]) (rest := [.ref k0]) ⟨hx, hb, hml, hown, hts⟩ (c_X9_countOf l g k0 m0 m7 m8 m9 m13 m14 m15 m17 m18 m19 m20 m21 m22 m23 m24 m25 m26 m27 m28 m30 m36 m37 m38 m39 (hD 8) 8  H.size) (cwV 1 hts gX9_digest_X9_countOf rfl rfl rfl (by decide +kernel) ⟨Nat.le_of_ble_eq_true rfl, Nat.le_of_ble_eq_true rfl⟩) (k_preV hE hZ hP hD hS hA [0] rfl (by decide) (va_recv hE.1 hP (ci := 9) (q0 := 0) rfl rfl)) rfl rfl hl.1 rfl (lv_room (Nat.le_of_ble_eq_true rfl)) dX9_digest_125 ⟨Nat.le_of_ble_eq_true rfl, Nat.le_of_ble_eq_true rfl⟩) (fun r_46 w1 H locs hw hP hD hS => ?_)
                          obtain ⟨rfl, rfl⟩ := hw
                          have hP : va_P g.1 vwCl [(k0, .inr (9, [.ref m0, .int 0, .int 0, .int 0, .int 0, .int 0, .int 0, .ref m7, .ref m8, .ref m9, .int 0, .int 0, .int 0, .ref m13, .ref m14, .ref m15, .int 0, .ref m17, .ref m18, .ref m19, .ref m20, .ref m21, .ref m22, .ref m23, .ref m24, .ref m25, .ref m26, .ref m27, .ref m28, .int 0, .ref m30, .int 0, .int (-1), .int 0, .int 0, .int 0, .ref m36, .ref m37, .ref m38, .ref m39, .long (hD 8)]))] H := hP
                          have hD : va_D A [(k0, .inr (9, [.ref m0, .int 0, .int 0, .int 0, .int 0, .int 0, .int 0, .ref m7, .ref m8, .ref m9, .int 0, .int 0, .int 0, .ref m13, .ref m14, .ref m15, .int 0, .ref m17, .ref m18, .ref m19, .ref m20, .ref m21, .ref m22, .ref m23, .ref m24, .ref m25, .ref m26, .ref m27, .ref m28, .int 0, .ref m30, .int 0, .int (-1), .int 0, .int 0, .int 0, .ref m36, .ref m37, .ref m38, .ref m39, .long (hD 8)]))] := hD
                          refine lv_topi (fun x_48 ex_48 => ?_)
                          obtain rfl : x_48 = 0 := by rw [ex_48]; decide
                          refine lv_i2l hx hb dX9_digest_128 rfl ?_
                          refine k_cv (wr := []) hP hD hS hA [0] [] rfl rfl (by decide) (by decide) (va_runV (As := [.long ((0 : Int32).toInt64)]) (rest := []) ⟨hx, hb, hml, hown, hts⟩ (c_X9_note l g k0 m0 0 0 0 0 0 0 m7 m8 m9 0 0 0 m13 m14 m15 0 m17 m18 m19 m20 m21 m22 m23 m24 m25 m26 m27 m28 0 m30 0 (-1) 0 0 0 m36 m37 m38 m39 (hD 8) ((0 : Int32).toInt64)  H.size) (cwV 1 hts gX9_digest_X9_note rfl rfl rfl (by decide +kernel) ⟨Nat.le_of_ble_eq_true rfl, Nat.le_of_ble_eq_true rfl⟩) (k_preV hE hZ hP hD hS hA [0] rfl (by decide) (va_recv hE.1 hP (ci := 9) (q0 := 0) rfl rfl)) rfl rfl hl.1 rfl (lv_room (Nat.le_of_ble_eq_true rfl)) dX9_digest_129 ⟨Nat.le_of_ble_eq_true rfl, Nat.le_of_ble_eq_true rfl⟩) (fun w1 H locs hw hP hD hS => ?_)
                          obtain rfl := hw
                          have hP : va_P g.1 vwCl [(k0, .inr (9, [.ref m0, .int 0, .int 0, .int 0, .int 0, .int 0, .int 0, .ref m7, .ref m8, .ref m9, .int 0, .int 0, .int 0, .ref m13, .ref m14, .ref m15, .int 0, .ref m17, .ref m18, .ref m19, .ref m20, .ref m21, .ref m22, .ref m23, .ref m24, .ref m25, .ref m26, .ref m27, .ref m28, .int 0, .ref m30, .int 0, .int (-1), .int 0, .int 0, .int 0, .ref m36, .ref m37, .ref m38, .ref m39, .long (31 * (hD 8) + ((0 : Int32).toInt64))]))] H := hP
                          have hD : va_D A [(k0, .inr (9, [.ref m0, .int 0, .int 0, .int 0, .int 0, .int 0, .int 0, .ref m7, .ref m8, .ref m9, .int 0, .int 0, .int 0, .ref m13, .ref m14, .ref m15, .int 0, .ref m17, .ref m18, .ref m19, .ref m20, .ref m21, .ref m22, .ref m23, .ref m24, .ref m25, .ref m26, .ref m27, .ref m28, .int 0, .ref m30, .int 0, .int (-1), .int 0, .int 0, .int 0, .ref m36, .ref m37, .ref m38, .ref m39, .long (31 * (hD 8) + ((0 : Int32).toInt64))]))] := hD
                          refine lv_iinc (v := 9) (lv' := [(1, .int 9), (0, .ref k0)]) hx hb dX9_digest_132 hl (k := 0) rfl (by decide) (by decide) rfl (fun ls hl => ?_)
                          refine lv_goto (tgt := 116) hx hb dX9_digest_135 (by decide) ?_
                          refine lv_iload_n hx hb dX9_digest_116 rfl (lv_at hl 0 rfl) ?_
                          refine lv_bipush (v := 10) hx hb dX9_digest_117 (by decide) ?_
                          refine lv_icmp_ge (tgt := 138) hx hb dX9_digest_119 (by decide) (fun c119_50 => ?_) (fun c119_50 => ?_)
                          · exact absurd c119_50 (by decide)
                          · skip
                            have hP : va_P g.1 vwCl [(k0, .inr (9, [.ref m0, .int 0, .int 0, .int 0, .int 0, .int 0, .int 0, .ref m7, .ref m8, .ref m9, .int 0, .int 0, .int 0, .ref m13, .ref m14, .ref m15, .int 0, .ref m17, .ref m18, .ref m19, .ref m20, .ref m21, .ref m22, .ref m23, .ref m24, .ref m25, .ref m26, .ref m27, .ref m28, .int 0, .ref m30, .int 0, .int (-1), .int 0, .int 0, .int 0, .ref m36, .ref m37, .ref m38, .ref m39, .long (hD 9)]))] H := hP
                            have hD : va_D A [(k0, .inr (9, [.ref m0, .int 0, .int 0, .int 0, .int 0, .int 0, .int 0, .ref m7, .ref m8, .ref m9, .int 0, .int 0, .int 0, .ref m13, .ref m14, .ref m15, .int 0, .ref m17, .ref m18, .ref m19, .ref m20, .ref m21, .ref m22, .ref m23, .ref m24, .ref m25, .ref m26, .ref m27, .ref m28, .int 0, .ref m30, .int 0, .int (-1), .int 0, .int 0, .int 0, .ref m36, .ref m37, .ref m38, .ref m39, .long (hD 9)]))] := hD
                            refine lv_aload_n hx hb dX9_digest_122 rfl (lv_at hl 1 rfl) ?_
                            refine lv_aload_n hx hb dX9_digest_123 rfl (lv_at hl 1 rfl) ?_
                            refine lv_iload_n hx hb dX9_digest_124 rfl (lv_at hl 0 rfl) ?_
                            refine k_ci (wr := []) hP hD hS hA [0] [] rfl rfl (by decide) (by decide) (va_runV (As := [.int 9]) (rest := [.ref k0]) ⟨hx, hb, hml, hown, hts⟩ (c_X9_countOf l g k0 m0 m7 m8 m9 m13 m14 m15 m17 m18 m19 m20 m21 m22 m23 m24 m25 m26 m27 m28 m30 m36 m37 m38 m39 (hD 9) 9  H.size) (cwV 1 hts gX9_digest_X9_countOf rfl rfl rfl (by decide +kernel) ⟨Nat.le_of_ble_eq_true rfl, Nat.le_of_ble_eq_true rfl⟩) (k_preV hE hZ hP hD hS hA [0] rfl (by decide) (va_recv hE.1 hP (ci := 9) (q0 := 0) rfl rfl)) rfl rfl hl.1 rfl (lv_room (Nat.le_of_ble_eq_true rfl)) dX9_digest_125 ⟨Nat.le_of_ble_eq_true rfl, Nat.le_of_ble_eq_true rfl⟩) (fun r_51 w1 H locs hw hP hD hS => ?_)
                            obtain ⟨rfl, rfl⟩ := hw
                            have hP : va_P g.1 vwCl [(k0, .inr (9, [.ref m0, .int 0, .int 0, .int 0, .int 0, .int 0, .int 0, .ref m7, .ref m8, .ref m9, .int 0, .int 0, .int 0, .ref m13, .ref m14, .ref m15, .int 0, .ref m17, .ref m18, .ref m19, .ref m20, .ref m21, .ref m22, .ref m23, .ref m24, .ref m25, .ref m26, .ref m27, .ref m28, .int 0, .ref m30, .int 0, .int (-1), .int 0, .int 0, .int 0, .ref m36, .ref m37, .ref m38, .ref m39, .long (hD 9)]))] H := hP
                            have hD : va_D A [(k0, .inr (9, [.ref m0, .int 0, .int 0, .int 0, .int 0, .int 0, .int 0, .ref m7, .ref m8, .ref m9, .int 0, .int 0, .int 0, .ref m13, .ref m14, .ref m15, .int 0, .ref m17, .ref m18, .ref m19, .ref m20, .ref m21, .ref m22, .ref m23, .ref m24, .ref m25, .ref m26, .ref m27, .ref m28, .int 0, .ref m30, .int 0, .int (-1), .int 0, .int 0, .int 0, .ref m36, .ref m37, .ref m38, .ref m39, .long (hD 9)]))] := hD
                            refine lv_topi (fun x_53 ex_53 => ?_)
                            obtain rfl : x_53 = 0 := by rw [ex_53]; decide
                            refine lv_i2l hx hb dX9_digest_128 rfl ?_
                            refine k_cv (wr := []) hP hD hS hA [0] [] rfl rfl (by decide) (by decide) (va_runV (As := [.long ((0 : Int32).toInt64)]) (rest := []) ⟨hx, hb, hml, hown, hts⟩ (c_X9_note l g k0 m0 0 0 0 0 0 0 m7 m8 m9 0 0 0 m13 m14 m15 0 m17 m18 m19 m20 m21 m22 m23 m24 m25 m26 m27 m28 0 m30 0 (-1) 0 0 0 m36 m37 m38 m39 (hD 9) ((0 : Int32).toInt64)  H.size) (cwV 1 hts gX9_digest_X9_note rfl rfl rfl (by decide +kernel) ⟨Nat.le_of_ble_eq_true rfl, Nat.le_of_ble_eq_true rfl⟩) (k_preV hE hZ hP hD hS hA [0] rfl (by decide) (va_recv hE.1 hP (ci := 9) (q0 := 0) rfl rfl)) rfl rfl hl.1 rfl (lv_room (Nat.le_of_ble_eq_true rfl)) dX9_digest_129 ⟨Nat.le_of_ble_eq_true rfl, Nat.le_of_ble_eq_true rfl⟩) (fun w1 H locs hw hP hD hS => ?_)
                            obtain rfl := hw
                            have hP : va_P g.1 vwCl [(k0, .inr (9, [.ref m0, .int 0, .int 0, .int 0, .int 0, .int 0, .int 0, .ref m7, .ref m8, .ref m9, .int 0, .int 0, .int 0, .ref m13, .ref m14, .ref m15, .int 0, .ref m17, .ref m18, .ref m19, .ref m20, .ref m21, .ref m22, .ref m23, .ref m24, .ref m25, .ref m26, .ref m27, .ref m28, .int 0, .ref m30, .int 0, .int (-1), .int 0, .int 0, .int 0, .ref m36, .ref m37, .ref m38, .ref m39, .long (31 * (hD 9) + ((0 : Int32).toInt64))]))] H := hP
                            have hD : va_D A [(k0, .inr (9, [.ref m0, .int 0, .int 0, .int 0, .int 0, .int 0, .int 0, .ref m7, .ref m8, .ref m9, .int 0, .int 0, .int 0, .ref m13, .ref m14, .ref m15, .int 0, .ref m17, .ref m18, .ref m19, .ref m20, .ref m21, .ref m22, .ref m23, .ref m24, .ref m25, .ref m26, .ref m27, .ref m28, .int 0, .ref m30, .int 0, .int (-1), .int 0, .int 0, .int 0, .ref m36, .ref m37, .ref m38, .ref m39, .long (31 * (hD 9) + ((0 : Int32).toInt64))]))] := hD
                            refine lv_iinc (v := 10) (lv' := [(1, .int 10), (0, .ref k0)]) hx hb dX9_digest_132 hl (k := 0) rfl (by decide) (by decide) rfl (fun ls hl => ?_)
                            refine lv_goto (tgt := 116) hx hb dX9_digest_135 (by decide) ?_
                            refine lv_iload_n hx hb dX9_digest_116 rfl (lv_at hl 0 rfl) ?_
                            refine lv_bipush (v := 10) hx hb dX9_digest_117 (by decide) ?_
                            refine lv_icmp_ge (tgt := 138) hx hb dX9_digest_119 (by decide) (fun c119_55 => ?_) (fun c119_55 => ?_)
                            · skip
                              have hP : va_P g.1 vwCl [(k0, .inr (9, [.ref m0, .int 0, .int 0, .int 0, .int 0, .int 0, .int 0, .ref m7, .ref m8, .ref m9, .int 0, .int 0, .int 0, .ref m13, .ref m14, .ref m15, .int 0, .ref m17, .ref m18, .ref m19, .ref m20, .ref m21, .ref m22, .ref m23, .ref m24, .ref m25, .ref m26, .ref m27, .ref m28, .int 0, .ref m30, .int 0, .int (-1), .int 0, .int 0, .int 0, .ref m36, .ref m37, .ref m38, .ref m39, .long (hD 10)]))] H := hP
                              have hD : va_D A [(k0, .inr (9, [.ref m0, .int 0, .int 0, .int 0, .int 0, .int 0, .int 0, .ref m7, .ref m8, .ref m9, .int 0, .int 0, .int 0, .ref m13, .ref m14, .ref m15, .int 0, .ref m17, .ref m18, .ref m19, .ref m20, .ref m21, .ref m22, .ref m23, .ref m24, .ref m25, .ref m26, .ref m27, .ref m28, .int 0, .ref m30, .int 0, .int (-1), .int 0, .int 0, .int 0, .ref m36, .ref m37, .ref m38, .ref m39, .long (hD 10)]))] := hD
                              refine lv_aload_n hx hb dX9_digest_138 rfl (lv_at hl 1 rfl) ?_
                              refine va_get (D := g.1) (ci := 9) (v := .long (hD 10)) (C := RX9) (T := TX9) (N := 41) hx hb hts q_X9_digest_f9 hown hE.1 hP 0 rfl rfl 40 (by decide) (hts (.fieldLink RX9 323 "SoundLawsModel" "hash" "J") q_X9_digest_2) (fun _ h9 => h9) rfl dX9_digest_139 ?_
                              refine W.widen (k := 0) (n := 0) (Nat.le_of_ble_eq_true rfl) (Nat.le_of_ble_eq_true rfl) ?_
                              have hP9 := hP.sub (ws' := []) [] rfl
                              have hD9 := hD.sub (ws' := []) [] (by decide) rfl
                              exact k_rl hx hb hr hlocks hS hP9 hD9 ⟨rfl, rfl⟩ dX9_digest_142
                            · exact absurd c119_55 (by decide)
      · exact absurd c94_4 (by decide)
    · exact absurd c38_3 (by decide)
  · exact absurd c14_1 (by decide)

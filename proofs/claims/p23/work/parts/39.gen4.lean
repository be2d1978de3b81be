def po_X8_aheadAt_g (g : GG) (i : Nat) : Int32 → va_W → Prop := fun (r : Int32) w => w = [] ∧ (nI (ah i) = r)
set_option maxHeartbeats 1500000 in
set_option maxRecDepth 100000 in
theorem c_X8_aheadAt_g (l : Launch) (g : GG) (i : Nat) (hi : i < 6) (sz : Nat) : MetI l yX8_aheadAt wsX8_aheadAt ({ frames := 0, cells := 0, slots := 0, locals := 0 }) g [.int (nI i)] [] sz (po_X8_aheadAt_g g i) 0 0 := by
  refine k_of (l := l) (y := yX8_aheadAt) (ws := wsX8_aheadAt) (rm := { frames := 0, cells := 0, slots := 0, locals := 0 }) (mc := 0) (ms := 0) (av := [.int (nI i)]) (g := g) (wc := []) (Qc := fun A => va_Qi (po_X8_aheadAt_g g i) (bk g A) A) (cc := cX8_aheadAt) (maxL := 1) (ret := (some .int)) (by decide) rfl (Nat.le_of_ble_eq_true rfl) ?_ sz
  intro p e s m below meth c hx hb hr hts hown hlocks hnm hml A hA hE hZ hP hD hS ls hl
  have hown : s.vm.findClass RX8 = some m.cls := hown
  have hl : lv_has ls 1 [(0, .int (nI i))] := hl
  refine lv_iload_n hx hb dX8_aheadAt_0 rfl (lv_at hl 0 rfl) ?_
  refine lv_if_ne (tgt := 8) hx hb dX8_aheadAt_1 (by decide) (fun c1_1 => ?_) (fun c1_1 => ?_)
  · skip
    refine lv_iconst (v := 0) hx hb dX8_aheadAt_8 (by decide) ?_
    refine W.widen (k := 0) (n := 0) (Nat.le_of_ble_eq_true rfl) (Nat.le_of_ble_eq_true rfl) ?_
    exact k_ri hx hb hr hlocks hS hP hD ⟨rfl, (by unfold ah; rw [if_neg (fun q => c1_1 (by rw [q]; rfl))]; rfl)⟩ dX8_aheadAt_9
  · skip
    refine lv_iconst (v := 1) hx hb dX8_aheadAt_4 (by decide) ?_
    refine lv_goto (tgt := 9) hx hb dX8_aheadAt_5 (by decide) ?_
    refine W.widen (k := 0) (n := 0) (Nat.le_of_ble_eq_true rfl) (Nat.le_of_ble_eq_true rfl) ?_
    exact k_ri hx hb hr hlocks hS hP hD ⟨rfl, (by unfold ah; rw [if_pos ((nI_eq (b := 0) (by omega) (by decide)).mp c1_1)]; rfl)⟩ dX8_aheadAt_9
def po_X6_oldSound_g (g : GG) (sy : Nat) (y1 : Nat) (y2 : Nat) (y3 : Nat) (lw : Nat) (tr : Nat) (chg : Int32) (S1 : Nat → Int32) (sk : Nat) (s1 : Nat) (s2 : Nat) (s3 : Nat) (z : Nat) (t : Nat) (k : Nat) (q : Nat) : Int32 → va_W → Prop := fun (r : Int32) w => w = [(sy, .inr (6, [.ref y1, .ref y2, .ref y3, .ref lw, .int chg, .ref tr])), (y1, ai g 168 S1), (sk, .inr (5, [.int (nI z), .int (nI t), .ref s1, .ref s2, .ref s3]))] ∧ (∃ v, v < 9 ∧ r = nI v)
theorem q_X6_oldSound_g_f6 : ∀ w ∈ u_ws RX6 TX6 6, w ∈ wsX6_oldSound := by decide +kernel
theorem q_X6_oldSound_g_1 : (Cond.fieldLink RX6 9 "SoundLaws$Study" "sounds" "[I") ∈ wsX6_oldSound := by decide +kernel
theorem q_X6_oldSound_g_2 : (Cond.initialized RX8) ∈ wsX6_oldSound := by decide +kernel
theorem q_X6_oldSound_g_3 : (Cond.static yX8_nodesAt) ∈ wsX6_oldSound := by decide +kernel
theorem q_X6_oldSound_g_f5 : ∀ w ∈ u_ws RX5 TX5 5, w ∈ wsX6_oldSound := by decide +kernel
theorem q_X6_oldSound_g_5 : (Cond.fieldLink RX6 35 "SoundLaws$Stock" "tongues" "I") ∈ wsX6_oldSound := by decide +kernel
theorem q_X6_oldSound_g_6 : (Cond.static yX8_nodesOf) ∈ wsX6_oldSound := by decide +kernel
set_option maxHeartbeats 1500000 in
set_option maxRecDepth 100000 in
theorem c_X6_oldSound_g (l : Launch) (g : GG) (sy : Nat) (y1 : Nat) (y2 : Nat) (y3 : Nat) (lw : Nat) (tr : Nat) (chg : Int32) (S1 : Nat → Int32) (sk : Nat) (s1 : Nat) (s2 : Nat) (s3 : Nat) (z : Nat) (t : Nat) (k : Nat) (q : Nat) (ht : 2 ≤ t) (ht4 : t ≤ 4) (hS1 : rng 168 9 S1) (hk : k < 6) (hq : q < 4) (sz : Nat) : MetI l yX6_oldSound wsX6_oldSound ({ frames := 1, cells := 0, slots := 0, locals := 21 }) g [.ref sy, .ref sk, .int (nI k), .int (nI q)] [(sy, .inr (6, [.ref y1, .ref y2, .ref y3, .ref lw, .int chg, .ref tr])), (y1, ai g 168 S1), (sk, .inr (5, [.int (nI z), .int (nI t), .ref s1, .ref s2, .ref s3]))] sz (po_X6_oldSound_g g sy y1 y2 y3 lw tr chg S1 sk s1 s2 s3 z t k q) 0 0 := by
  refine k_of (l := l) (y := yX6_oldSound) (ws := wsX6_oldSound) (rm := { frames := 1, cells := 0, slots := 0, locals := 21 }) (mc := 0) (ms := 0) (av := [.ref sy, .ref sk, .int (nI k), .int (nI q)]) (g := g) (wc := [(sy, .inr (6, [.ref y1, .ref y2, .ref y3, .ref lw, .int chg, .ref tr])), (y1, ai g 168 S1), (sk, .inr (5, [.int (nI z), .int (nI t), .ref s1, .ref s2, .ref s3]))]) (Qc := fun A => va_Qi (po_X6_oldSound_g g sy y1 y2 y3 lw tr chg S1 sk s1 s2 s3 z t k q) (bk g A) A) (cc := cX6_oldSound) (maxL := 4) (ret := (some .int)) (by decide) rfl (Nat.le_of_ble_eq_true rfl) ?_ sz
  intro p e s m below meth c hx hb hr hts hown hlocks hnm hml A hA hE hZ hP hD hS ls hl
  have hown : s.vm.findClass RX6 = some m.cls := hown
  have hl : lv_has ls 4 [(0, .ref sy), (1, .ref sk), (2, .int (nI k)), (3, .int (nI q))] := hl
  refine lv_aload_n hx hb dX6_oldSound_0 rfl (lv_at hl 0 rfl) ?_
  refine va_get (D := g.1) (ci := 6) (v := .ref y1) (C := RX6) (T := TX6) (N := 6) hx hb hts q_X6_oldSound_g_f6 hown hE.1 hP 0 rfl rfl 0 (by decide) (hts (.fieldLink RX6 9 "SoundLaws$Study" "sounds" "[I") q_X6_oldSound_g_1) (fun _ h9 => h9) rfl dX6_oldSound_1 ?_
  refine lv_iload_n hx hb dX6_oldSound_4 rfl (lv_at hl 2 rfl) ?_
  refine lv_iload_n hx hb dX6_oldSound_5 rfl (lv_at hl 3 rfl) ?_
  refine k_ci (wr := [(sy, .inr (6, [.ref y1, .ref y2, .ref y3, .ref lw, .int chg, .ref tr])), (y1, ai g 168 S1), (sk, .inr (5, [.int (nI z), .int (nI t), .ref s1, .ref s2, .ref s3]))]) hP hD hS hA [] [0, 1, 2] rfl rfl (by decide) (by decide) (va_runSN (As := [.int (nI k), .int (nI q)]) (rest := [.ref y1]) ⟨hx, hb, hml, hown, hts⟩ (c_X8_nodesAt_g l g k q  s.heap.size) ⟨va_cnB 2 hts gX6_oldSound_X8_nodesAt_n67 rfl rfl rfl (hE.nw 18 rfl) (hts (.initialized RX8) q_X6_oldSound_g_2) (by decide +kernel) ⟨Nat.le_of_ble_eq_true rfl, Nat.le_of_ble_eq_true rfl⟩, (hts (.static yX8_nodesAt) q_X6_oldSound_g_3), trivial⟩ (k_preS hE hZ hP hD hS hA [] rfl (by decide)) rfl rfl hl.1 rfl (lv_room (Nat.le_of_ble_eq_true rfl)) dX6_oldSound_6 ⟨Nat.le_of_ble_eq_true rfl, Nat.le_of_ble_eq_true rfl⟩) (fun r_1 w1 H locs hw hP hD hS => ?_)
  obtain ⟨rfl, rfl⟩ := hw
  have hP : va_P g.1 vwCl [(sy, .inr (6, [.ref y1, .ref y2, .ref y3, .ref lw, .int chg, .ref tr])), (y1, ai g 168 S1), (sk, .inr (5, [.int (nI z), .int (nI t), .ref s1, .ref s2, .ref s3]))] H := hP
  have hD : va_D A [(sy, .inr (6, [.ref y1, .ref y2, .ref y3, .ref lw, .int chg, .ref tr])), (y1, ai g 168 S1), (sk, .inr (5, [.int (nI z), .int (nI t), .ref s1, .ref s2, .ref s3]))] := hD
  refine lv_aload_n hx hb dX6_oldSound_9 rfl (lv_at hl 1 rfl) ?_
  refine va_get (D := g.1) (ci := 5) (v := .int (nI t)) (C := RX5) (T := TX5) (N := 5) hx hb hts q_X6_oldSound_g_f5 hown hE.1 hP 2 rfl rfl 1 (by decide) (hts (.fieldLink RX6 35 "SoundLaws$Stock" "tongues" "I") q_X6_oldSound_g_5) (fun _ h9 => h9) rfl dX6_oldSound_10 ?_
  refine k_ci (wr := [(sy, .inr (6, [.ref y1, .ref y2, .ref y3, .ref lw, .int chg, .ref tr])), (y1, ai g 168 S1), (sk, .inr (5, [.int (nI z), .int (nI t), .ref s1, .ref s2, .ref s3]))]) hP hD hS hA [] [0, 1, 2] rfl rfl (by decide) (by decide) (va_runSN (As := [.int (nI t)]) (rest := [.int (nI (28 * k + 7 * q)), .ref y1]) ⟨hx, hb, hml, hown, hts⟩ (c_X8_nodesOf_g l g t (by first | assumption | omega) H.size) ⟨va_cnB 1 hts gX6_oldSound_X8_nodesOf_n71 rfl rfl rfl (hE.nw 20 rfl) (hts (.initialized RX8) q_X6_oldSound_g_2) (by decide +kernel) ⟨Nat.le_of_ble_eq_true rfl, Nat.le_of_ble_eq_true rfl⟩, (hts (.static yX8_nodesOf) q_X6_oldSound_g_6), trivial⟩ (k_preS hE hZ hP hD hS hA [] rfl (by decide)) rfl rfl hl.1 rfl (lv_room (Nat.le_of_ble_eq_true rfl)) dX6_oldSound_13 ⟨Nat.le_of_ble_eq_true rfl, Nat.le_of_ble_eq_true rfl⟩) (fun r_3 w1 H locs hw hP hD hS => ?_)
  obtain ⟨rfl, rfl⟩ := hw
  have hP : va_P g.1 vwCl [(sy, .inr (6, [.ref y1, .ref y2, .ref y3, .ref lw, .int chg, .ref tr])), (y1, ai g 168 S1), (sk, .inr (5, [.int (nI z), .int (nI t), .ref s1, .ref s2, .ref s3]))] H := hP
  have hD : va_D A [(sy, .inr (6, [.ref y1, .ref y2, .ref y3, .ref lw, .int chg, .ref tr])), (y1, ai g 168 S1), (sk, .inr (5, [.int (nI z), .int (nI t), .ref s1, .ref s2, .ref s3]))] := hD
  refine lv_iadd hx hb dX6_oldSound_16 ?_
  refine lv_iconst (v := 1) hx hb dX6_oldSound_17 (by decide) ?_
  refine lv_isub hx hb dX6_oldSound_18 ?_
  have hno := nod_eq ht; have hno7 := nod_le ht4
  refine lv_topi (fun x_5 ex_5 => ?_)
  obtain rfl : x_5 = nI (28 * k + 7 * q + nod t - 1) := by rw [ex_5]; rw [nI_add, show (1 : Int32) = nI 1 from rfl, pk_sub (by omega)]
  refine k_ald (28 * k + 7 * q + nod t - 1) rfl (by omega) hx hb hE hP 1 rfl (by decide) dX6_oldSound_19 ?_
  refine W.widen (k := 0) (n := 0) (Nat.le_of_ble_eq_true rfl) (Nat.le_of_ble_eq_true rfl) ?_
  exact k_ri hx hb hr hlocks hS hP hD ⟨rfl, (hS1 _ (by omega))⟩ dX6_oldSound_20
def po_X6_rebuild_g (g : GG) (sy : Nat) (y1 : Nat) (y2 : Nat) (y3 : Nat) (lw : Nat) (tr : Nat) (chg : Int32) (S1 : Nat → Int32) (S2 : Nat → Int32) (S3 : Nat → Int32) (sk : Nat) (s1 : Nat) (s2 : Nat) (s3 : Nat) (z : Nat) (t : Nat) (K : Nat → Int32) (L : Nat → Int32) (V : Nat → Int32) (t1 : Nat) (t2 : Nat) (f : Nat → Int32) (fl : Nat → Int32) (k : Nat) : va_W → Prop := fun w => ∃ (c2 : Int32) (T1 : Nat → Int32) (T2 : Nat → Int32) (f2 : Nat → Int32) (fl2 : Nat → Int32), w = [(sy, .inr (6, [.ref y1, .ref y2, .ref y3, .ref lw, .int c2, .ref tr])), (y1, ai g 168 T1), (y2, ai g 6 T2), (y3, ai g 24 S3), (sk, .inr (5, [.int (nI z), .int (nI t), .ref s1, .ref s2, .ref s3])), (s1, ai g 6 K), (s2, ai g 6 L), (s3, ai g 96 V), (tr, .inr (7, [.int (nI t), .ref t1, .ref t2])), (t1, ai g 7 f2), (t2, ai g 63 fl2)] ∧ (rng 168 9 T1) ∧ (rng 7 9 f2)
theorem q_X6_rebuild_g_f6 : ∀ w ∈ u_ws RX6 TX6 6, w ∈ wsX6_rebuild := by decide +kernel
theorem q_X6_rebuild_g_1 : (Cond.fieldLink RX6 15 "SoundLaws$Study" "changes" "[I") ∈ wsX6_rebuild := by decide +kernel
theorem q_X6_rebuild_g_f5 : ∀ w ∈ u_ws RX5 TX5 5, w ∈ wsX6_rebuild := by decide +kernel
theorem q_X6_rebuild_g_3 : (Cond.fieldLink RX6 90 "SoundLaws$Stock" "kinds" "[I") ∈ wsX6_rebuild := by decide +kernel
theorem q_X6_rebuild_g_4 : (Cond.fieldLink RX6 75 "SoundLaws$Stock" "lengths" "[I") ∈ wsX6_rebuild := by decide +kernel
theorem q_X6_rebuild_g_5 : (Cond.fieldLink RX6 45 "SoundLaws$Study" "changesOfAll" "I") ∈ wsX6_rebuild := by decide +kernel
theorem q_X6_rebuild_g_6 : (Cond.fieldLink RX6 35 "SoundLaws$Stock" "tongues" "I") ∈ wsX6_rebuild := by decide +kernel
theorem q_X6_rebuild_g_7 : (Cond.fieldLink RX6 31 "SoundLaws$Study" "tree" "LSoundLaws$Tree;") ∈ wsX6_rebuild := by decide +kernel
theorem q_X6_rebuild_g_f7 : ∀ w ∈ u_ws RX7 TX7 3, w ∈ wsX6_rebuild := by decide +kernel
theorem q_X6_rebuild_g_9 : (Cond.fieldLink RX6 93 "SoundLaws$Tree" "sounds" "[I") ∈ wsX6_rebuild := by decide +kernel
theorem q_X6_rebuild_g_10 : (Cond.fieldLink RX6 9 "SoundLaws$Study" "sounds" "[I") ∈ wsX6_rebuild := by decide +kernel
theorem q_X6_rebuild_g_11 : (Cond.initialized RX8) ∈ wsX6_rebuild := by decide +kernel
theorem q_X6_rebuild_g_12 : (Cond.static yX8_nodesAt) ∈ wsX6_rebuild := by decide +kernel
theorem q_X6_rebuild_g_13 : (Cond.methodLink RX6 107 arraycopyName) ∈ wsX6_rebuild := by decide +kernel
theorem q_X6_rebuild_g_14 : (Cond.native arraycopyName) ∈ wsX6_rebuild := by decide +kernel
theorem q_X6_rebuild_g_15 : (Cond.static arraycopyName) ∈ wsX6_rebuild := by decide +kernel
theorem q_X6_rebuild_g_16 : (Cond.initialized "java/lang/System") ∈ wsX6_rebuild := by decide +kernel
theorem q_X6_rebuild_g_17 : (Cond.fieldLink RX6 94 "SoundLaws$Stock" "words" "[I") ∈ wsX6_rebuild := by decide +kernel
theorem q_X6_rebuild_g_18 : (Cond.static yX8_wordAt) ∈ wsX6_rebuild := by decide +kernel
set_option maxHeartbeats 1500000 in
set_option maxRecDepth 100000 in
theorem c_X6_rebuild_g (l : Launch) (g : GG) (sy : Nat) (y1 : Nat) (y2 : Nat) (y3 : Nat) (lw : Nat) (tr : Nat) (chg : Int32) (S1 : Nat → Int32) (S2 : Nat → Int32) (S3 : Nat → Int32) (sk : Nat) (s1 : Nat) (s2 : Nat) (s3 : Nat) (z : Nat) (t : Nat) (K : Nat → Int32) (L : Nat → Int32) (V : Nat → Int32) (t1 : Nat) (t2 : Nat) (f : Nat → Int32) (fl : Nat → Int32) (k : Nat) (ht : 2 ≤ t) (ht4 : t ≤ 4) (hK : rng 6 5 K) (hL : rng 6 5 L) (hV : rng 96 9 V) (hS1 : rng 168 9 S1) (hf : rng 7 9 f) (hk : k < 6) (sz : Nat) : MetV l yX6_rebuild wsX6_rebuild ({ frames := 3, cells := 0, slots := 0, locals := 69 }) g [.ref sy, .ref sk, .int (nI k)] [(sy, .inr (6, [.ref y1, .ref y2, .ref y3, .ref lw, .int chg, .ref tr])), (y1, ai g 168 S1), (y2, ai g 6 S2), (y3, ai g 24 S3), (sk, .inr (5, [.int (nI z), .int (nI t), .ref s1, .ref s2, .ref s3])), (s1, ai g 6 K), (s2, ai g 6 L), (s3, ai g 96 V), (tr, .inr (7, [.int (nI t), .ref t1, .ref t2])), (t1, ai g 7 f), (t2, ai g 63 fl)] sz (po_X6_rebuild_g g sy y1 y2 y3 lw tr chg S1 S2 S3 sk s1 s2 s3 z t K L V t1 t2 f fl k) 0 0 := by
  refine k_of (l := l) (y := yX6_rebuild) (ws := wsX6_rebuild) (rm := { frames := 3, cells := 0, slots := 0, locals := 69 }) (mc := 0) (ms := 0) (av := [.ref sy, .ref sk, .int (nI k)]) (g := g) (wc := [(sy, .inr (6, [.ref y1, .ref y2, .ref y3, .ref lw, .int chg, .ref tr])), (y1, ai g 168 S1), (y2, ai g 6 S2), (y3, ai g 24 S3), (sk, .inr (5, [.int (nI z), .int (nI t), .ref s1, .ref s2, .ref s3])), (s1, ai g 6 K), (s2, ai g 6 L), (s3, ai g 96 V), (tr, .inr (7, [.int (nI t), .ref t1, .ref t2])), (t1, ai g 7 f), (t2, ai g 63 fl)]) (Qc := fun A => va_Qv (po_X6_rebuild_g g sy y1 y2 y3 lw tr chg S1 S2 S3 sk s1 s2 s3 z t K L V t1 t2 f fl k) (bk g A) A) (cc := cX6_rebuild) (maxL := 6) (ret := none) (by decide) rfl (Nat.le_of_ble_eq_true rfl) ?_ sz
  intro p e s m below meth c hx hb hr hts hown hlocks hnm hml A hA hE hZ hP hD hS ls hl
  have hown : s.vm.findClass RX6 = some m.cls := hown
  have hl : lv_has ls 6 [(0, .ref sy), (1, .ref sk), (2, .int (nI k))] := hl
  refine lv_aload_n hx hb dX6_rebuild_0 rfl (lv_at hl 0 rfl) ?_
  refine va_get (D := g.1) (ci := 6) (v := .ref y2) (C := RX6) (T := TX6) (N := 6) hx hb hts q_X6_rebuild_g_f6 hown hE.1 hP 0 rfl rfl 1 (by decide) (hts (.fieldLink RX6 15 "SoundLaws$Study" "changes" "[I") q_X6_rebuild_g_1) (fun _ h9 => h9) rfl dX6_rebuild_1 ?_
  refine lv_iload_n hx hb dX6_rebuild_4 rfl (lv_at hl 2 rfl) ?_
  refine lv_iconst (v := (-1)) hx hb dX6_rebuild_5 (by decide) ?_
  refine k_ast (x := (-1)) k rfl (by omega) hx hb hE hP hD hS 2 rfl (by decide) dX6_rebuild_6 (fun H locs hP hD hS => ?_)
  have hP : va_P g.1 vwCl [(sy, .inr (6, [.ref y1, .ref y2, .ref y3, .ref lw, .int chg, .ref tr])), (y1, ai g 168 S1), (y2, ai g 6 (upd S2 k (-1))), (y3, ai g 24 S3), (sk, .inr (5, [.int (nI z), .int (nI t), .ref s1, .ref s2, .ref s3])), (s1, ai g 6 K), (s2, ai g 6 L), (s3, ai g 96 V), (tr, .inr (7, [.int (nI t), .ref t1, .ref t2])), (t1, ai g 7 f), (t2, ai g 63 fl)] H := hP
  have hD : va_D A [(sy, .inr (6, [.ref y1, .ref y2, .ref y3, .ref lw, .int chg, .ref tr])), (y1, ai g 168 S1), (y2, ai g 6 (upd S2 k (-1))), (y3, ai g 24 S3), (sk, .inr (5, [.int (nI z), .int (nI t), .ref s1, .ref s2, .ref s3])), (s1, ai g 6 K), (s2, ai g 6 L), (s3, ai g 96 V), (tr, .inr (7, [.int (nI t), .ref t1, .ref t2])), (t1, ai g 7 f), (t2, ai g 63 fl)] := hD
  refine va_getsN hx hb hZ.zREBUILDS hS hown (va_Nw.use rfl (hE.nw (w := .fieldLinkNest RX6 87 "SoundLaws" "REBUILDS" "[I" RX8) 11 rfl)) (fun _ h9 => h9) dX6_rebuild_7 ?_
  refine lv_aload_n hx hb dX6_rebuild_10 rfl (lv_at hl 1 rfl) ?_
  refine va_get (D := g.1) (ci := 5) (v := .ref s1) (C := RX5) (T := TX5) (N := 5) hx hb hts q_X6_rebuild_g_f5 hown hE.1 hP 4 rfl rfl 2 (by decide) (hts (.fieldLink RX6 90 "SoundLaws$Stock" "kinds" "[I") q_X6_rebuild_g_3) (fun _ h9 => h9) rfl dX6_rebuild_11 ?_
  refine lv_iload_n hx hb dX6_rebuild_14 rfl (lv_at hl 2 rfl) ?_
  refine k_ald k rfl (by omega) hx hb hE hP 5 rfl (by decide) dX6_rebuild_15 ?_
  obtain ⟨kk, hkk, ekk⟩ := hK (k) (by omega)
  refine lv_topi (fun x_1 ex_1 => ?_)
  obtain rfl : x_1 = nI kk := by rw [ex_1]; exact ekk
  refine k_tld kk rfl (by omega) hx hb hZ.tREBUILDS hS (by decide) (v := tb_REBUILDS.getD kk 0) rfl dX6_rebuild_16 ?_
  refine lv_if_ne (tgt := 21) hx hb dX6_rebuild_17 (by decide) (fun c17_2 => ?_) (fun c17_2 => ?_)
  · skip
    refine lv_iconst (v := 0) hx hb dX6_rebuild_21 (by decide) ?_
    refine lv_istore_n (lv' := [(3, .int 0), (0, .ref sy), (1, .ref sk), (2, .int (nI k))]) hx hb dX6_rebuild_22 rfl hl (by decide) rfl (fun ls hl => ?_)
    refine lv_iconst (v := 0) hx hb dX6_rebuild_23 (by decide) ?_
    refine lv_istore (lv' := [(4, .int 0), (3, .int 0), (0, .ref sy), (1, .ref sk), (2, .int (nI k))]) hx hb dX6_rebuild_24 hl (by decide) rfl (fun ls hl => ?_)
    obtain ⟨n, hn, en⟩ := hL (k) (by omega)
    have loop26 : ∀ (fu : Nat) (q : Nat) (x3 : Int32) (T1 f1 fl1 : Nat → Int32), (hq : q ≤ n) → (hT : rng 168 9 T1) → (hf1 : rng 7 9 f1) → n - q < fu → ∀ (H : Heap) (locs : List Loc) (ls : Array Slot), va_P g.1 vwCl [(sy, .inr (6, [.ref y1, .ref y2, .ref y3, .ref lw, .int chg, .ref tr])), (y1, ai g 168 T1), (y2, ai g 6 (upd S2 k (-1))), (y3, ai g 24 S3), (sk, .inr (5, [.int (nI z), .int (nI t), .ref s1, .ref s2, .ref s3])), (s1, ai g 6 K), (s2, ai g 6 L), (s3, ai g 96 V), (tr, .inr (7, [.int (nI t), .ref t1, .ref t2])), (t1, ai g 7 f1), (t2, ai g 63 fl1)] H → va_D A [(sy, .inr (6, [.ref y1, .ref y2, .ref y3, .ref lw, .int chg, .ref tr])), (y1, ai g 168 T1), (y2, ai g 6 (upd S2 k (-1))), (y3, ai g 24 S3), (sk, .inr (5, [.int (nI z), .int (nI t), .ref s1, .ref s2, .ref s3])), (s1, ai g 6 K), (s2, ai g 6 L), (s3, ai g 96 V), (tr, .inr (7, [.int (nI t), .ref t1, .ref t2])), (t1, ai g 7 f1), (t2, ai g 63 fl1)] → va_S A s.heap H locs → lv_has ls 6 [(0, .ref sy), (1, .ref sk), (2, .int (nI k)), (3, .int x3), (4, .int (nI q))] → W p l e ({ frames := 3, cells := 0, slots := 0, locals := 69 }) s m [.ref sy, .ref sk, .int (nI k)].toArray below meth c H locs 0 0 (MQ below (va_Qv (po_X6_rebuild_g g sy y1 y2 y3 lw tr chg S1 S2 S3 sk s1 s2 s3 z t K L V t1 t2 f fl k) (bk g A) A) [.ref sy, .ref sk, .int (nI k)].toArray s 0 0 A) (F0 m 26 ls []) := by
      intro fu
      induction fu with
      | zero => intro q x3 T1 f1 fl1 hq hT hf1 hfu; exact absurd hfu (Nat.not_lt_zero _)
      | succ fu ih =>
        intro q x3 T1 f1 fl1 hq hT hf1 hfu H locs ls hP hD hS hl
        have ih26 := ih
        refine lv_iload hx hb dX6_rebuild_26 (lv_at hl 4 rfl) ?_
        refine lv_aload_n hx hb dX6_rebuild_28 rfl (lv_at hl 1 rfl) ?_
        refine va_get (D := g.1) (ci := 5) (v := .ref s2) (C := RX5) (T := TX5) (N := 5) hx hb hts q_X6_rebuild_g_f5 hown hE.1 hP 4 rfl rfl 3 (by decide) (hts (.fieldLink RX6 75 "SoundLaws$Stock" "lengths" "[I") q_X6_rebuild_g_4) (fun _ h9 => h9) rfl dX6_rebuild_29 ?_
        refine lv_iload_n hx hb dX6_rebuild_32 rfl (lv_at hl 2 rfl) ?_
        refine k_ald k rfl (by omega) hx hb hE hP 6 rfl (by decide) dX6_rebuild_33 ?_
        refine lv_topi (fun x_3 ex_3 => ?_)
        obtain rfl : x_3 = nI n := by rw [ex_3]; exact en
        refine lv_icmp_ge (tgt := 125) hx hb dX6_rebuild_34 (by decide) (fun c34_4 => ?_) (fun c34_4 => ?_)
        · skip
          refine lv_aload_n hx hb dX6_rebuild_125 rfl (lv_at hl 0 rfl) ?_
          refine va_get (D := g.1) (ci := 6) (v := .ref y2) (C := RX6) (T := TX6) (N := 6) hx hb hts q_X6_rebuild_g_f6 hown hE.1 hP 0 rfl rfl 1 (by decide) (hts (.fieldLink RX6 15 "SoundLaws$Study" "changes" "[I") q_X6_rebuild_g_1) (fun _ h9 => h9) rfl dX6_rebuild_126 ?_
          refine lv_iload_n hx hb dX6_rebuild_129 rfl (lv_at hl 2 rfl) ?_
          refine lv_iload_n hx hb dX6_rebuild_130 rfl (lv_at hl 3 rfl) ?_
          refine k_ast (x := x3) k rfl (by omega) hx hb hE hP hD hS 2 rfl (by decide) dX6_rebuild_131 (fun H locs hP hD hS => ?_)
          have hP : va_P g.1 vwCl [(sy, .inr (6, [.ref y1, .ref y2, .ref y3, .ref lw, .int chg, .ref tr])), (y1, ai g 168 T1), (y2, ai g 6 (upd (upd S2 k (-1)) k x3)), (y3, ai g 24 S3), (sk, .inr (5, [.int (nI z), .int (nI t), .ref s1, .ref s2, .ref s3])), (s1, ai g 6 K), (s2, ai g 6 L), (s3, ai g 96 V), (tr, .inr (7, [.int (nI t), .ref t1, .ref t2])), (t1, ai g 7 f1), (t2, ai g 63 fl1)] H := hP
          have hD : va_D A [(sy, .inr (6, [.ref y1, .ref y2, .ref y3, .ref lw, .int chg, .ref tr])), (y1, ai g 168 T1), (y2, ai g 6 (upd (upd S2 k (-1)) k x3)), (y3, ai g 24 S3), (sk, .inr (5, [.int (nI z), .int (nI t), .ref s1, .ref s2, .ref s3])), (s1, ai g 6 K), (s2, ai g 6 L), (s3, ai g 96 V), (tr, .inr (7, [.int (nI t), .ref t1, .ref t2])), (t1, ai g 7 f1), (t2, ai g 63 fl1)] := hD
          refine lv_aload_n hx hb dX6_rebuild_132 rfl (lv_at hl 0 rfl) ?_
          refine lv_dup hx hb dX6_rebuild_133 rfl ?_
          refine va_get (D := g.1) (ci := 6) (v := .int chg) (C := RX6) (T := TX6) (N := 6) hx hb hts q_X6_rebuild_g_f6 hown hE.1 hP 0 rfl rfl 4 (by decide) (hts (.fieldLink RX6 45 "SoundLaws$Study" "changesOfAll" "I") q_X6_rebuild_g_5) (fun _ h9 => h9) rfl dX6_rebuild_134 ?_
          refine lv_iload_n hx hb dX6_rebuild_137 rfl (lv_at hl 3 rfl) ?_
          refine lv_iadd hx hb dX6_rebuild_138 ?_
          refine lv_topi (fun x_5 ex_5 => ?_)
          refine va_put (D := g.1) (ci := 6) (v := .int x_5) (ty := .int) (C := RX6) (T := TX6) (N := 6) hx hb hts q_X6_rebuild_g_f6 tyX6 tyX6_ok nmX6 hown hE.1 hP hD hS 0 rfl rfl 4 (by decide) (hts (.fieldLink RX6 45 "SoundLaws$Study" "changesOfAll" "I") q_X6_rebuild_g_5) (fun _ h9 => h9) rfl (by decide +kernel) rfl rfl (Nat.le_of_ble_eq_true rfl) dX6_rebuild_139 (fun H locs hP hD hS => ?_)
          have hP : va_P g.1 vwCl [(sy, .inr (6, [.ref y1, .ref y2, .ref y3, .ref lw, .int x_5, .ref tr])), (y1, ai g 168 T1), (y2, ai g 6 (upd (upd S2 k (-1)) k x3)), (y3, ai g 24 S3), (sk, .inr (5, [.int (nI z), .int (nI t), .ref s1, .ref s2, .ref s3])), (s1, ai g 6 K), (s2, ai g 6 L), (s3, ai g 96 V), (tr, .inr (7, [.int (nI t), .ref t1, .ref t2])), (t1, ai g 7 f1), (t2, ai g 63 fl1)] H := hP
          have hD : va_D A [(sy, .inr (6, [.ref y1, .ref y2, .ref y3, .ref lw, .int x_5, .ref tr])), (y1, ai g 168 T1), (y2, ai g 6 (upd (upd S2 k (-1)) k x3)), (y3, ai g 24 S3), (sk, .inr (5, [.int (nI z), .int (nI t), .ref s1, .ref s2, .ref s3])), (s1, ai g 6 K), (s2, ai g 6 L), (s3, ai g 96 V), (tr, .inr (7, [.int (nI t), .ref t1, .ref t2])), (t1, ai g 7 f1), (t2, ai g 63 fl1)] := hD
          refine W.widen (k := 0) (n := 0) (Nat.le_of_ble_eq_true rfl) (Nat.le_of_ble_eq_true rfl) ?_
          exact k_rv hx hb hr hlocks hS hP hD ⟨x_5, T1, (upd (upd S2 k (-1)) k x3), f1, fl1, rfl, hT, hf1⟩ dX6_rebuild_142
        · skip
          have hq9 := lt_of_nle (k := n) (n := q) (by omega) (by omega) c34_4
          refine lv_iconst (v := 0) hx hb dX6_rebuild_37 (by decide) ?_
          refine lv_istore (lv' := [(5, .int 0), (0, .ref sy), (1, .ref sk), (2, .int (nI k)), (3, .int x3), (4, .int (nI q))]) hx hb dX6_rebuild_38 hl (by decide) rfl (fun ls hl => ?_)
          have loop40 : ∀ (fu : Nat) (u : Nat) (f3 : Nat → Int32), (hu : u ≤ t) → (hf3 : rng 7 9 f3) → t - u < fu → ∀ (H : Heap) (locs : List Loc) (ls : Array Slot), va_P g.1 vwCl [(sy, .inr (6, [.ref y1, .ref y2, .ref y3, .ref lw, .int chg, .ref tr])), (y1, ai g 168 T1), (y2, ai g 6 (upd S2 k (-1))), (y3, ai g 24 S3), (sk, .inr (5, [.int (nI z), .int (nI t), .ref s1, .ref s2, .ref s3])), (s1, ai g 6 K), (s2, ai g 6 L), (s3, ai g 96 V), (tr, .inr (7, [.int (nI t), .ref t1, .ref t2])), (t1, ai g 7 f3), (t2, ai g 63 fl1)] H → va_D A [(sy, .inr (6, [.ref y1, .ref y2, .ref y3, .ref lw, .int chg, .ref tr])), (y1, ai g 168 T1), (y2, ai g 6 (upd S2 k (-1))), (y3, ai g 24 S3), (sk, .inr (5, [.int (nI z), .int (nI t), .ref s1, .ref s2, .ref s3])), (s1, ai g 6 K), (s2, ai g 6 L), (s3, ai g 96 V), (tr, .inr (7, [.int (nI t), .ref t1, .ref t2])), (t1, ai g 7 f3), (t2, ai g 63 fl1)] → va_S A s.heap H locs → lv_has ls 6 [(0, .ref sy), (1, .ref sk), (2, .int (nI k)), (3, .int x3), (4, .int (nI q)), (5, .int (nI u))] → W p l e ({ frames := 3, cells := 0, slots := 0, locals := 69 }) s m [.ref sy, .ref sk, .int (nI k)].toArray below meth c H locs 0 0 (MQ below (va_Qv (po_X6_rebuild_g g sy y1 y2 y3 lw tr chg S1 S2 S3 sk s1 s2 s3 z t K L V t1 t2 f fl k) (bk g A) A) [.ref sy, .ref sk, .int (nI k)].toArray s 0 0 A) (F0 m 40 ls []) := by
            intro fu
            induction fu with
            | zero => intro u f3 hu hf3 hfu; exact absurd hfu (Nat.not_lt_zero _)
            | succ fu ih =>
              intro u f3 hu hf3 hfu H locs ls hP hD hS hl
              have ih40 := ih
              refine lv_iload hx hb dX6_rebuild_40 (lv_at hl 5 rfl) ?_
              refine lv_aload_n hx hb dX6_rebuild_42 rfl (lv_at hl 1 rfl) ?_
              refine va_get (D := g.1) (ci := 5) (v := .int (nI t)) (C := RX5) (T := TX5) (N := 5) hx hb hts q_X6_rebuild_g_f5 hown hE.1 hP 4 rfl rfl 1 (by decide) (hts (.fieldLink RX6 35 "SoundLaws$Stock" "tongues" "I") q_X6_rebuild_g_6) (fun _ h9 => h9) rfl dX6_rebuild_43 ?_
              refine lv_icmp_ge (tgt := 79) hx hb dX6_rebuild_46 (by decide) (fun c46_6 => ?_) (fun c46_6 => ?_)
              · skip
                refine lv_iload_n hx hb dX6_rebuild_79 rfl (lv_at hl 3 rfl) ?_
                refine lv_aload_n hx hb dX6_rebuild_80 rfl (lv_at hl 0 rfl) ?_
                refine va_get (D := g.1) (ci := 6) (v := .ref tr) (C := RX6) (T := TX6) (N := 6) hx hb hts q_X6_rebuild_g_f6 hown hE.1 hP 0 rfl rfl 5 (by decide) (hts (.fieldLink RX6 31 "SoundLaws$Study" "tree" "LSoundLaws$Tree;") q_X6_rebuild_g_7) (fun _ h9 => h9) rfl dX6_rebuild_81 ?_
                refine k_ci (wr := [(sy, .inr (6, [.ref y1, .ref y2, .ref y3, .ref lw, .int chg, .ref tr])), (y1, ai g 168 T1), (y2, ai g 6 (upd S2 k (-1))), (y3, ai g 24 S3), (sk, .inr (5, [.int (nI z), .int (nI t), .ref s1, .ref s2, .ref s3])), (s1, ai g 6 K), (s2, ai g 6 L), (s3, ai g 96 V)]) hP hD hS hA [8, 9, 10] [0, 1, 2, 3, 4, 5, 6, 7] rfl rfl (by decide) (by decide) (va_runV (As := []) (rest := [.int x3]) ⟨hx, hb, hml, hown, hts⟩ (c_X7_climb_g l g tr t1 t2 t f3 fl1 (by first | assumption | omega) (by first | assumption | omega) (by first | assumption | omega) H.size) (cwV 0 hts gX6_rebuild_X7_climb rfl rfl rfl (by decide +kernel) ⟨Nat.le_of_ble_eq_true rfl, Nat.le_of_ble_eq_true rfl⟩) (k_preV hE hZ hP hD hS hA [8, 9, 10] rfl (by decide) (va_recv hE.1 hP (ci := 7) (q0 := 8) rfl rfl)) rfl rfl hl.1 rfl (lv_room (Nat.le_of_ble_eq_true rfl)) dX6_rebuild_84 ⟨Nat.le_of_ble_eq_true rfl, Nat.le_of_ble_eq_true rfl⟩) (fun r_7 w1 H locs hw hP hD hS => ?_)
                obtain ⟨f2_8, gl_9, rfl, hf2_10⟩ := hw
                have hP : va_P g.1 vwCl [(sy, .inr (6, [.ref y1, .ref y2, .ref y3, .ref lw, .int chg, .ref tr])), (y1, ai g 168 T1), (y2, ai g 6 (upd S2 k (-1))), (y3, ai g 24 S3), (sk, .inr (5, [.int (nI z), .int (nI t), .ref s1, .ref s2, .ref s3])), (s1, ai g 6 K), (s2, ai g 6 L), (s3, ai g 96 V), (tr, .inr (7, [.int (nI t), .ref t1, .ref t2])), (t1, ai g 7 f2_8), (t2, ai g 63 gl_9)] H := hP
                have hD : va_D A [(sy, .inr (6, [.ref y1, .ref y2, .ref y3, .ref lw, .int chg, .ref tr])), (y1, ai g 168 T1), (y2, ai g 6 (upd S2 k (-1))), (y3, ai g 24 S3), (sk, .inr (5, [.int (nI z), .int (nI t), .ref s1, .ref s2, .ref s3])), (s1, ai g 6 K), (s2, ai g 6 L), (s3, ai g 96 V), (tr, .inr (7, [.int (nI t), .ref t1, .ref t2])), (t1, ai g 7 f2_8), (t2, ai g 63 gl_9)] := hD
                refine lv_iadd hx hb dX6_rebuild_87 ?_
                refine lv_topi (fun x3b ex3b => ?_)
                refine lv_istore_n (lv' := [(3, .int x3b), (0, .ref sy), (1, .ref sk), (2, .int (nI k)), (4, .int (nI q)), (5, .int (nI u))]) hx hb dX6_rebuild_88 rfl hl (by decide) rfl (fun ls hl => ?_)
                refine lv_aload_n hx hb dX6_rebuild_89 rfl (lv_at hl 1 rfl) ?_
                refine va_get (D := g.1) (ci := 6) (v := .ref tr) (C := RX6) (T := TX6) (N := 6) hx hb hts q_X6_rebuild_g_f6 hown hE.1 hP 0 rfl rfl 5 (by decide) (hts (.fieldLink RX6 31 "SoundLaws$Study" "tree" "LSoundLaws$Tree;") q_X6_rebuild_g_7) (fun _ h9 => h9) rfl dX6_rebuild_90 ?_
                refine k_cv (wr := [(sy, .inr (6, [.ref y1, .ref y2, .ref y3, .ref lw, .int chg, .ref tr])), (y1, ai g 168 T1), (y2, ai g 6 (upd S2 k (-1))), (y3, ai g 24 S3), (sk, .inr (5, [.int (nI z), .int (nI t), .ref s1, .ref s2, .ref s3])), (s1, ai g 6 K), (s2, ai g 6 L), (s3, ai g 96 V)]) hP hD hS hA [8, 9, 10] [0, 1, 2, 3, 4, 5, 6, 7] rfl rfl (by decide) (by decide) (va_runV (As := []) (rest := []) ⟨hx, hb, hml, hown, hts⟩ (c_X7_descend_g l g tr t1 t2 t f2_8 gl_9 (by first | assumption | omega) (by first | assumption | omega) (by first | assumption | omega) H.size) (cwV 0 hts gX6_rebuild_X7_descend rfl rfl rfl (by decide +kernel) ⟨Nat.le_of_ble_eq_true rfl, Nat.le_of_ble_eq_true rfl⟩) (k_preV hE hZ hP hD hS hA [8, 9, 10] rfl (by decide) (va_recv hE.1 hP (ci := 7) (q0 := 8) rfl rfl)) rfl rfl hl.1 rfl (lv_room (Nat.le_of_ble_eq_true rfl)) dX6_rebuild_93 ⟨Nat.le_of_ble_eq_true rfl, Nat.le_of_ble_eq_true rfl⟩) (fun w1 H locs hw hP hD hS => ?_)
                obtain ⟨f2_12, rfl, hf2_13⟩ := hw
                have hP : va_P g.1 vwCl [(sy, .inr (6, [.ref y1, .ref y2, .ref y3, .ref lw, .int chg, .ref tr])), (y1, ai g 168 T1), (y2, ai g 6 (upd S2 k (-1))), (y3, ai g 24 S3), (sk, .inr (5, [.int (nI z), .int (nI t), .ref s1, .ref s2, .ref s3])), (s1, ai g 6 K), (s2, ai g 6 L), (s3, ai g 96 V), (tr, .inr (7, [.int (nI t), .ref t1, .ref t2])), (t1, ai g 7 f2_12), (t2, ai g 63 gl_9)] H := hP
                have hD : va_D A [(sy, .inr (6, [.ref y1, .ref y2, .ref y3, .ref lw, .int chg, .ref tr])), (y1, ai g 168 T1), (y2, ai g 6 (upd S2 k (-1))), (y3, ai g 24 S3), (sk, .inr (5, [.int (nI z), .int (nI t), .ref s1, .ref s2, .ref s3])), (s1, ai g 6 K), (s2, ai g 6 L), (s3, ai g 96 V), (tr, .inr (7, [.int (nI t), .ref t1, .ref t2])), (t1, ai g 7 f2_12), (t2, ai g 63 gl_9)] := hD
                refine lv_aload_n hx hb dX6_rebuild_96 rfl (lv_at hl 1 rfl) ?_
                refine va_get (D := g.1) (ci := 6) (v := .ref tr) (C := RX6) (T := TX6) (N := 6) hx hb hts q_X6_rebuild_g_f6 hown hE.1 hP 0 rfl rfl 5 (by decide) (hts (.fieldLink RX6 31 "SoundLaws$Study" "tree" "LSoundLaws$Tree;") q_X6_rebuild_g_7) (fun _ h9 => h9) rfl dX6_rebuild_97 ?_
                refine va_get (D := g.1) (ci := 7) (v := .ref t1) (C := RX7) (T := TX7) (N := 3) hx hb hts q_X6_rebuild_g_f7 hown hE.1 hP 8 rfl rfl 1 (by decide) (hts (.fieldLink RX6 93 "SoundLaws$Tree" "sounds" "[I") q_X6_rebuild_g_9) (fun _ h9 => h9) rfl dX6_rebuild_100 ?_
                refine lv_iconst (v := 0) hx hb dX6_rebuild_103 (by decide) ?_
                refine lv_aload_n hx hb dX6_rebuild_104 rfl (lv_at hl 1 rfl) ?_
                refine va_get (D := g.1) (ci := 6) (v := .ref y1) (C := RX6) (T := TX6) (N := 6) hx hb hts q_X6_rebuild_g_f6 hown hE.1 hP 0 rfl rfl 0 (by decide) (hts (.fieldLink RX6 9 "SoundLaws$Study" "sounds" "[I") q_X6_rebuild_g_10) (fun _ h9 => h9) rfl dX6_rebuild_105 ?_
                refine lv_iload_n hx hb dX6_rebuild_108 rfl (lv_at hl 3 rfl) ?_
                refine lv_iload hx hb dX6_rebuild_109 (lv_at hl 4 rfl) ?_
                refine k_ci (wr := [(sy, .inr (6, [.ref y1, .ref y2, .ref y3, .ref lw, .int chg, .ref tr])), (y1, ai g 168 T1), (y2, ai g 6 (upd S2 k (-1))), (y3, ai g 24 S3), (sk, .inr (5, [.int (nI z), .int (nI t), .ref s1, .ref s2, .ref s3])), (s1, ai g 6 K), (s2, ai g 6 L), (s3, ai g 96 V), (tr, .inr (7, [.int (nI t), .ref t1, .ref t2])), (t1, ai g 7 f2_12), (t2, ai g 63 gl_9)]) hP hD hS hA [] [0, 1, 2, 3, 4, 5, 6, 7, 8, 9, 10] rfl rfl (by decide) (by decide) (va_runSN (As := [.int (nI k), .int (nI q)]) (rest := [.ref y1, .int 0, .ref t1]) ⟨hx, hb, hml, hown, hts⟩ (c_X8_nodesAt_g l g k q  H.size) ⟨va_cnB 2 hts gX6_rebuild_X8_nodesAt_n67 rfl rfl rfl (hE.nw 18 rfl) (hts (.initialized RX8) q_X6_rebuild_g_11) (by decide +kernel) ⟨Nat.le_of_ble_eq_true rfl, Nat.le_of_ble_eq_true rfl⟩, (hts (.static yX8_nodesAt) q_X6_rebuild_g_12), trivial⟩ (k_preS hE hZ hP hD hS hA [] rfl (by decide)) rfl rfl hl.1 rfl (lv_room (Nat.le_of_ble_eq_true rfl)) dX6_rebuild_111 ⟨Nat.le_of_ble_eq_true rfl, Nat.le_of_ble_eq_true rfl⟩) (fun r_14 w1 H locs hw hP hD hS => ?_)
                obtain ⟨rfl, rfl⟩ := hw
                have hP : va_P g.1 vwCl [(sy, .inr (6, [.ref y1, .ref y2, .ref y3, .ref lw, .int chg, .ref tr])), (y1, ai g 168 T1), (y2, ai g 6 (upd S2 k (-1))), (y3, ai g 24 S3), (sk, .inr (5, [.int (nI z), .int (nI t), .ref s1, .ref s2, .ref s3])), (s1, ai g 6 K), (s2, ai g 6 L), (s3, ai g 96 V), (tr, .inr (7, [.int (nI t), .ref t1, .ref t2])), (t1, ai g 7 f2_12), (t2, ai g 63 gl_9)] H := hP
                have hD : va_D A [(sy, .inr (6, [.ref y1, .ref y2, .ref y3, .ref lw, .int chg, .ref tr])), (y1, ai g 168 T1), (y2, ai g 6 (upd S2 k (-1))), (y3, ai g 24 S3), (sk, .inr (5, [.int (nI z), .int (nI t), .ref s1, .ref s2, .ref s3])), (s1, ai g 6 K), (s2, ai g 6 L), (s3, ai g 96 V), (tr, .inr (7, [.int (nI t), .ref t1, .ref t2])), (t1, ai g 7 f2_12), (t2, ai g 63 gl_9)] := hD
                refine lv_bipush (v := 7) hx hb dX6_rebuild_114 (by decide) ?_
                refine k_cpy 0 (28 * k + 7 * q) 7 (by decide) rfl (by decide) (by omega) (by omega) (by decide) (by decide) hx hb (by rw [hml]; exact hl.1.symm) hown (hts (.methodLink RX6 107 arraycopyName) q_X6_rebuild_g_13) (hts (.native arraycopyName) q_X6_rebuild_g_14) (hts (.static arraycopyName) q_X6_rebuild_g_15) (hts (.initialized "java/lang/System") q_X6_rebuild_g_16) hE hP hD hS 9 1 rfl rfl (Nat.le_of_ble_eq_true rfl) (Nat.le_of_ble_eq_true rfl) dX6_rebuild_116 (fun H locs hP hD hS => ?_)
                have hP : va_P g.1 vwCl [(sy, .inr (6, [.ref y1, .ref y2, .ref y3, .ref lw, .int chg, .ref tr])), (y1, ai g 168 (va_cpy f2_12 T1 0 (28 * k + 7 * q) 7)), (y2, ai g 6 (upd S2 k (-1))), (y3, ai g 24 S3), (sk, .inr (5, [.int (nI z), .int (nI t), .ref s1, .ref s2, .ref s3])), (s1, ai g 6 K), (s2, ai g 6 L), (s3, ai g 96 V), (tr, .inr (7, [.int (nI t), .ref t1, .ref t2])), (t1, ai g 7 f2_12), (t2, ai g 63 gl_9)] H := hP
                have hD : va_D A [(sy, .inr (6, [.ref y1, .ref y2, .ref y3, .ref lw, .int chg, .ref tr])), (y1, ai g 168 (va_cpy f2_12 T1 0 (28 * k + 7 * q) 7)), (y2, ai g 6 (upd S2 k (-1))), (y3, ai g 24 S3), (sk, .inr (5, [.int (nI z), .int (nI t), .ref s1, .ref s2, .ref s3])), (s1, ai g 6 K), (s2, ai g 6 L), (s3, ai g 96 V), (tr, .inr (7, [.int (nI t), .ref t1, .ref t2])), (t1, ai g 7 f2_12), (t2, ai g 63 gl_9)] := hD
                refine lv_iinc (v := (nI (q + 1))) (lv' := [(4, .int (nI (q + 1))), (3, .int x3b), (0, .ref sy), (1, .ref sk), (2, .int (nI k)), (5, .int (nI u))]) hx hb dX6_rebuild_119 hl (k := 4) rfl (nI_1 _) (by decide) rfl (fun ls hl => ?_)
                refine lv_goto (tgt := 26) hx hb dX6_rebuild_122 (by decide) ?_
                exact ih26 (q + 1) _ _ _ _ (by omega) (rng_cpy hf2_13 hT (by omega)) hf2_13 (by omega) _ _ _ hP hD hS (lv_sub hl [2, 3, 4, 1, 0] rfl)
              · skip
                have hu9 := lt_of_nle (k := t) (n := u) (by omega) (by omega) c46_6
                refine lv_aload_n hx hb dX6_rebuild_49 rfl (lv_at hl 0 rfl) ?_
                refine va_get (D := g.1) (ci := 6) (v := .ref tr) (C := RX6) (T := TX6) (N := 6) hx hb hts q_X6_rebuild_g_f6 hown hE.1 hP 0 rfl rfl 5 (by decide) (hts (.fieldLink RX6 31 "SoundLaws$Study" "tree" "LSoundLaws$Tree;") q_X6_rebuild_g_7) (fun _ h9 => h9) rfl dX6_rebuild_50 ?_
                refine va_get (D := g.1) (ci := 7) (v := .ref t1) (C := RX7) (T := TX7) (N := 3) hx hb hts q_X6_rebuild_g_f7 hown hE.1 hP 8 rfl rfl 1 (by decide) (hts (.fieldLink RX6 93 "SoundLaws$Tree" "sounds" "[I") q_X6_rebuild_g_9) (fun _ h9 => h9) rfl dX6_rebuild_53 ?_
                refine lv_iload hx hb dX6_rebuild_56 (lv_at hl 5 rfl) ?_
                refine lv_aload_n hx hb dX6_rebuild_58 rfl (lv_at hl 1 rfl) ?_
                refine va_get (D := g.1) (ci := 5) (v := .ref s3) (C := RX5) (T := TX5) (N := 5) hx hb hts q_X6_rebuild_g_f5 hown hE.1 hP 4 rfl rfl 4 (by decide) (hts (.fieldLink RX6 94 "SoundLaws$Stock" "words" "[I") q_X6_rebuild_g_17) (fun _ h9 => h9) rfl dX6_rebuild_59 ?_
                refine lv_iload_n hx hb dX6_rebuild_62 rfl (lv_at hl 2 rfl) ?_
                refine lv_iload hx hb dX6_rebuild_63 (lv_at hl 5 rfl) ?_
                refine k_ci (wr := [(sy, .inr (6, [.ref y1, .ref y2, .ref y3, .ref lw, .int chg, .ref tr])), (y1, ai g 168 T1), (y2, ai g 6 (upd S2 k (-1))), (y3, ai g 24 S3), (sk, .inr (5, [.int (nI z), .int (nI t), .ref s1, .ref s2, .ref s3])), (s1, ai g 6 K), (s2, ai g 6 L), (s3, ai g 96 V), (tr, .inr (7, [.int (nI t), .ref t1, .ref t2])), (t1, ai g 7 f3), (t2, ai g 63 fl1)]) hP hD hS hA [] [0, 1, 2, 3, 4, 5, 6, 7, 8, 9, 10] rfl rfl (by decide) (by decide) (va_runSN (As := [.int (nI k), .int (nI u)]) (rest := [.ref s3, .int (nI u), .ref t1]) ⟨hx, hb, hml, hown, hts⟩ (c_X8_wordAt_g l g k u  H.size) ⟨va_cnB 2 hts gX6_rebuild_X8_wordAt_n97 rfl rfl rfl (hE.nw 12 rfl) (hts (.initialized RX8) q_X6_rebuild_g_11) (by decide +kernel) ⟨Nat.le_of_ble_eq_true rfl, Nat.le_of_ble_eq_true rfl⟩, (hts (.static yX8_wordAt) q_X6_rebuild_g_18), trivial⟩ (k_preS hE hZ hP hD hS hA [] rfl (by decide)) rfl rfl hl.1 rfl (lv_room (Nat.le_of_ble_eq_true rfl)) dX6_rebuild_65 ⟨Nat.le_of_ble_eq_true rfl, Nat.le_of_ble_eq_true rfl⟩) (fun r_16 w1 H locs hw hP hD hS => ?_)
                obtain ⟨rfl, rfl⟩ := hw
                have hP : va_P g.1 vwCl [(sy, .inr (6, [.ref y1, .ref y2, .ref y3, .ref lw, .int chg, .ref tr])), (y1, ai g 168 T1), (y2, ai g 6 (upd S2 k (-1))), (y3, ai g 24 S3), (sk, .inr (5, [.int (nI z), .int (nI t), .ref s1, .ref s2, .ref s3])), (s1, ai g 6 K), (s2, ai g 6 L), (s3, ai g 96 V), (tr, .inr (7, [.int (nI t), .ref t1, .ref t2])), (t1, ai g 7 f3), (t2, ai g 63 fl1)] H := hP
                have hD : va_D A [(sy, .inr (6, [.ref y1, .ref y2, .ref y3, .ref lw, .int chg, .ref tr])), (y1, ai g 168 T1), (y2, ai g 6 (upd S2 k (-1))), (y3, ai g 24 S3), (sk, .inr (5, [.int (nI z), .int (nI t), .ref s1, .ref s2, .ref s3])), (s1, ai g 6 K), (s2, ai g 6 L), (s3, ai g 96 V), (tr, .inr (7, [.int (nI t), .ref t1, .ref t2])), (t1, ai g 7 f3), (t2, ai g 63 fl1)] := hD
                refine lv_iload hx hb dX6_rebuild_68 (lv_at hl 4 rfl) ?_
                refine lv_iadd hx hb dX6_rebuild_70 ?_
                refine k_ald (16 * k + 4 * u + q) (nI_add _ _) (by omega) hx hb hE hP 7 rfl (by decide) dX6_rebuild_71 ?_
                obtain ⟨vv, hvv, evv⟩ := hV (16 * k + 4 * u + q) (by omega)
                refine lv_topi (fun x_18 ex_18 => ?_)
                obtain rfl : x_18 = nI vv := by rw [ex_18]; exact evv
                refine k_ast (x := (nI vv)) u rfl (by omega) hx hb hE hP hD hS 9 rfl (by decide) dX6_rebuild_72 (fun H locs hP hD hS => ?_)
                have hP : va_P g.1 vwCl [(sy, .inr (6, [.ref y1, .ref y2, .ref y3, .ref lw, .int chg, .ref tr])), (y1, ai g 168 T1), (y2, ai g 6 (upd S2 k (-1))), (y3, ai g 24 S3), (sk, .inr (5, [.int (nI z), .int (nI t), .ref s1, .ref s2, .ref s3])), (s1, ai g 6 K), (s2, ai g 6 L), (s3, ai g 96 V), (tr, .inr (7, [.int (nI t), .ref t1, .ref t2])), (t1, ai g 7 (upd f3 u (nI vv))), (t2, ai g 63 fl1)] H := hP
                have hD : va_D A [(sy, .inr (6, [.ref y1, .ref y2, .ref y3, .ref lw, .int chg, .ref tr])), (y1, ai g 168 T1), (y2, ai g 6 (upd S2 k (-1))), (y3, ai g 24 S3), (sk, .inr (5, [.int (nI z), .int (nI t), .ref s1, .ref s2, .ref s3])), (s1, ai g 6 K), (s2, ai g 6 L), (s3, ai g 96 V), (tr, .inr (7, [.int (nI t), .ref t1, .ref t2])), (t1, ai g 7 (upd f3 u (nI vv))), (t2, ai g 63 fl1)] := hD
                refine lv_iinc (v := (nI (u + 1))) (lv' := [(5, .int (nI (u + 1))), (0, .ref sy), (1, .ref sk), (2, .int (nI k)), (3, .int x3), (4, .int (nI q))]) hx hb dX6_rebuild_73 hl (k := 5) rfl (nI_1 _) (by decide) rfl (fun ls hl => ?_)
                refine lv_goto (tgt := 40) hx hb dX6_rebuild_76 (by decide) ?_
                exact ih40 (u + 1) _ (by omega) (rng_upd hf3 hvv) (by omega) _ _ _ hP hD hS (lv_sub hl [1, 2, 3, 4, 5, 0] rfl)
          exact loop40 _ 0 f1 (Nat.zero_le t) hf1 (Nat.lt_succ_self _) _ _ _ hP hD hS (lv_sub hl [1, 2, 3, 4, 5, 0] rfl)
    exact loop26 _ 0 0 S1 f fl (Nat.zero_le n) hS1 hf (Nat.lt_succ_self _) _ _ _ hP hD hS (lv_sub hl [2, 3, 4, 1, 0] rfl)
  · skip
    refine W.widen (k := 0) (n := 0) (Nat.le_of_ble_eq_true rfl) (Nat.le_of_ble_eq_true rfl) ?_
    exact k_rv hx hb hr hlocks hS hP hD ⟨chg, S1, (upd S2 k (-1)), f, fl, rfl, hS1, hf⟩ dX6_rebuild_20
def po_X6_weigh_g (g : GG) (sy : Nat) (y1 : Nat) (y2 : Nat) (y3 : Nat) (lw : Nat) (tr : Nat) (chg : Int32) (S1 : Nat → Int32) (sk : Nat) (s1 : Nat) (s2 : Nat) (s3 : Nat) (z : Nat) (t : Nat) (K : Nat → Int32) (L : Nat → Int32) (V : Nat → Int32) (l1 : Nat) (l2 : Nat) (l3 : Nat) (l4 : Nat) (kn : Int32) (xo : Int32) (F4 : Nat → Int32) (k : Nat) : va_W → Prop := fun w => ∃ (G4 : Nat → Int32), w = [(sy, .inr (6, [.ref y1, .ref y2, .ref y3, .ref lw, .int chg, .ref tr])), (y1, ai g 168 S1), (sk, .inr (5, [.int (nI z), .int (nI t), .ref s1, .ref s2, .ref s3])), (s1, ai g 6 K), (s2, ai g 6 L), (s3, ai g 96 V), (lw, .inr (2, [.ref l1, .ref l2, .ref l3, .int kn, .int xo, .ref l4])), (l4, ai g 648 G4)]
theorem q_X6_weigh_g_f5 : ∀ w ∈ u_ws RX5 TX5 5, w ∈ wsX6_weigh := by decide +kernel
theorem q_X6_weigh_g_1 : (Cond.fieldLink RX6 90 "SoundLaws$Stock" "kinds" "[I") ∈ wsX6_weigh := by decide +kernel
theorem q_X6_weigh_g_2 : (Cond.fieldLink RX6 75 "SoundLaws$Stock" "lengths" "[I") ∈ wsX6_weigh := by decide +kernel
theorem q_X6_weigh_g_3 : (Cond.fieldLink RX6 35 "SoundLaws$Stock" "tongues" "I") ∈ wsX6_weigh := by decide +kernel
theorem q_X6_weigh_g_4 : (Cond.fieldLink RX6 94 "SoundLaws$Stock" "words" "[I") ∈ wsX6_weigh := by decide +kernel
theorem q_X6_weigh_g_5 : (Cond.initialized RX8) ∈ wsX6_weigh := by decide +kernel
theorem q_X6_weigh_g_6 : (Cond.static yX8_wordAt) ∈ wsX6_weigh := by decide +kernel
theorem q_X6_weigh_g_f6 : ∀ w ∈ u_ws RX6 TX6 6, w ∈ wsX6_weigh := by decide +kernel
theorem q_X6_weigh_g_8 : (Cond.fieldLink RX6 24 "SoundLaws$Study" "laws" "LSoundLaws$Laws;") ∈ wsX6_weigh := by decide +kernel
theorem q_X6_weigh_g_9 : (Cond.static yX8_aheadAt) ∈ wsX6_weigh := by decide +kernel
theorem q_X6_weigh_g_10 : (Cond.static yX8_lawAt) ∈ wsX6_weigh := by decide +kernel
set_option maxHeartbeats 1500000 in
set_option maxRecDepth 100000 in
theorem c_X6_weigh_g (l : Launch) (g : GG) (sy : Nat) (y1 : Nat) (y2 : Nat) (y3 : Nat) (lw : Nat) (tr : Nat) (chg : Int32) (S1 : Nat → Int32) (sk : Nat) (s1 : Nat) (s2 : Nat) (s3 : Nat) (z : Nat) (t : Nat) (K : Nat → Int32) (L : Nat → Int32) (V : Nat → Int32) (l1 : Nat) (l2 : Nat) (l3 : Nat) (l4 : Nat) (kn : Int32) (xo : Int32) (F4 : Nat → Int32) (k : Nat) (ht : 2 ≤ t) (ht4 : t ≤ 4) (hK : rng 6 5 K) (hL : rng 6 5 L) (hV : rng 96 9 V) (hS1 : rng 168 9 S1) (hk : k < 6) (sz : Nat) : MetV l yX6_weigh wsX6_weigh ({ frames := 2, cells := 0, slots := 0, locals := 44 }) g [.ref sy, .ref sk, .int (nI k)] [(sy, .inr (6, [.ref y1, .ref y2, .ref y3, .ref lw, .int chg, .ref tr])), (y1, ai g 168 S1), (sk, .inr (5, [.int (nI z), .int (nI t), .ref s1, .ref s2, .ref s3])), (s1, ai g 6 K), (s2, ai g 6 L), (s3, ai g 96 V), (lw, .inr (2, [.ref l1, .ref l2, .ref l3, .int kn, .int xo, .ref l4])), (l4, ai g 648 F4)] sz (po_X6_weigh_g g sy y1 y2 y3 lw tr chg S1 sk s1 s2 s3 z t K L V l1 l2 l3 l4 kn xo F4 k) 0 0 := by
  refine k_of (l := l) (y := yX6_weigh) (ws := wsX6_weigh) (rm := { frames := 2, cells := 0, slots := 0, locals := 44 }) (mc := 0) (ms := 0) (av := [.ref sy, .ref sk, .int (nI k)]) (g := g) (wc := [(sy, .inr (6, [.ref y1, .ref y2, .ref y3, .ref lw, .int chg, .ref tr])), (y1, ai g 168 S1), (sk, .inr (5, [.int (nI z), .int (nI t), .ref s1, .ref s2, .ref s3])), (s1, ai g 6 K), (s2, ai g 6 L), (s3, ai g 96 V), (lw, .inr (2, [.ref l1, .ref l2, .ref l3, .int kn, .int xo, .ref l4])), (l4, ai g 648 F4)]) (Qc := fun A => va_Qv (po_X6_weigh_g g sy y1 y2 y3 lw tr chg S1 sk s1 s2 s3 z t K L V l1 l2 l3 l4 kn xo F4 k) (bk g A) A) (cc := cX6_weigh) (maxL := 8) (ret := none) (by decide) rfl (Nat.le_of_ble_eq_true rfl) ?_ sz
  intro p e s m below meth c hx hb hr hts hown hlocks hnm hml A hA hE hZ hP hD hS ls hl
  have hown : s.vm.findClass RX6 = some m.cls := hown
  have hl : lv_has ls 8 [(0, .ref sy), (1, .ref sk), (2, .int (nI k))] := hl
  refine va_getsN hx hb hZ.zWEIGHTS hS hown (va_Nw.use rfl (hE.nw (w := .fieldLinkNest RX6 113 "SoundLaws" "WEIGHTS" "[I" RX8) 19 rfl)) (fun _ h9 => h9) dX6_weigh_0 ?_
  refine lv_aload_n hx hb dX6_weigh_3 rfl (lv_at hl 1 rfl) ?_
  refine va_get (D := g.1) (ci := 5) (v := .ref s1) (C := RX5) (T := TX5) (N := 5) hx hb hts q_X6_weigh_g_f5 hown hE.1 hP 2 rfl rfl 2 (by decide) (hts (.fieldLink RX6 90 "SoundLaws$Stock" "kinds" "[I") q_X6_weigh_g_1) (fun _ h9 => h9) rfl dX6_weigh_4 ?_
  refine lv_iload_n hx hb dX6_weigh_7 rfl (lv_at hl 2 rfl) ?_
  refine k_ald k rfl (by omega) hx hb hE hP 3 rfl (by decide) dX6_weigh_8 ?_
  obtain ⟨kk, hkk, ekk⟩ := hK (k) (by omega)
  refine lv_topi (fun x_1 ex_1 => ?_)
  obtain rfl : x_1 = nI kk := by rw [ex_1]; exact ekk
  refine k_tld kk rfl (by omega) hx hb hZ.tWEIGHTS hS (by decide) (v := tb_WEIGHTS.getD kk 0) rfl dX6_weigh_9 ?_
  refine lv_topi (fun x3 ex3 => ?_)
  refine lv_istore_n (lv' := [(3, .int x3), (0, .ref sy), (1, .ref sk), (2, .int (nI k))]) hx hb dX6_weigh_10 rfl hl (by decide) rfl (fun ls hl => ?_)
  refine lv_iload_n hx hb dX6_weigh_11 rfl (lv_at hl 0 rfl) ?_
  refine lv_if_ne (tgt := 16) hx hb dX6_weigh_12 (by decide) (fun c12_2 => ?_) (fun c12_2 => ?_)
  · skip
    refine lv_iconst (v := 0) hx hb dX6_weigh_16 (by decide) ?_
    refine lv_istore (lv' := [(4, .int 0), (3, .int x3), (0, .ref sy), (1, .ref sk), (2, .int (nI k))]) hx hb dX6_weigh_17 hl (by decide) rfl (fun ls hl => ?_)
    obtain ⟨n, hn, en⟩ := hL (k) (by omega)
    have loop19 : ∀ (fu : Nat) (q : Nat) (G4 : Nat → Int32), (hq : q ≤ n) → n - q < fu → ∀ (H : Heap) (locs : List Loc) (ls : Array Slot), va_P g.1 vwCl [(sy, .inr (6, [.ref y1, .ref y2, .ref y3, .ref lw, .int chg, .ref tr])), (y1, ai g 168 S1), (sk, .inr (5, [.int (nI z), .int (nI t), .ref s1, .ref s2, .ref s3])), (s1, ai g 6 K), (s2, ai g 6 L), (s3, ai g 96 V), (lw, .inr (2, [.ref l1, .ref l2, .ref l3, .int kn, .int xo, .ref l4])), (l4, ai g 648 G4)] H → va_D A [(sy, .inr (6, [.ref y1, .ref y2, .ref y3, .ref lw, .int chg, .ref tr])), (y1, ai g 168 S1), (sk, .inr (5, [.int (nI z), .int (nI t), .ref s1, .ref s2, .ref s3])), (s1, ai g 6 K), (s2, ai g 6 L), (s3, ai g 96 V), (lw, .inr (2, [.ref l1, .ref l2, .ref l3, .int kn, .int xo, .ref l4])), (l4, ai g 648 G4)] → va_S A s.heap H locs → lv_has ls 8 [(0, .ref sy), (1, .ref sk), (2, .int (nI k)), (3, .int x3), (4, .int (nI q))] → W p l e ({ frames := 2, cells := 0, slots := 0, locals := 44 }) s m [.ref sy, .ref sk, .int (nI k)].toArray below meth c H locs 0 0 (MQ below (va_Qv (po_X6_weigh_g g sy y1 y2 y3 lw tr chg S1 sk s1 s2 s3 z t K L V l1 l2 l3 l4 kn xo F4 k) (bk g A) A) [.ref sy, .ref sk, .int (nI k)].toArray s 0 0 A) (F0 m 19 ls []) := by
      intro fu
      induction fu with
      | zero => intro q G4 hq hfu; exact absurd hfu (Nat.not_lt_zero _)
      | succ fu ih =>
        intro q G4 hq hfu H locs ls hP hD hS hl
        have ih19 := ih
        refine lv_iload hx hb dX6_weigh_19 (lv_at hl 4 rfl) ?_
        refine lv_aload_n hx hb dX6_weigh_21 rfl (lv_at hl 1 rfl) ?_
        refine va_get (D := g.1) (ci := 5) (v := .ref s2) (C := RX5) (T := TX5) (N := 5) hx hb hts q_X6_weigh_g_f5 hown hE.1 hP 2 rfl rfl 3 (by decide) (hts (.fieldLink RX6 75 "SoundLaws$Stock" "lengths" "[I") q_X6_weigh_g_2) (fun _ h9 => h9) rfl dX6_weigh_22 ?_
        refine lv_iload_n hx hb dX6_weigh_25 rfl (lv_at hl 2 rfl) ?_
        refine k_ald k rfl (by omega) hx hb hE hP 4 rfl (by decide) dX6_weigh_26 ?_
        refine lv_topi (fun x_3 ex_3 => ?_)
        obtain rfl : x_3 = nI n := by rw [ex_3]; exact en
        refine lv_icmp_ge (tgt := 102) hx hb dX6_weigh_27 (by decide) (fun c27_4 => ?_) (fun c27_4 => ?_)
        · skip
          refine W.widen (k := 0) (n := 0) (Nat.le_of_ble_eq_true rfl) (Nat.le_of_ble_eq_true rfl) ?_
          exact k_rv hx hb hr hlocks hS hP hD ⟨G4, rfl⟩ dX6_weigh_102
        · skip
          have hq9 := lt_of_nle (k := n) (n := q) (by omega) (by omega) c27_4
          refine lv_aload_n hx hb dX6_weigh_30 rfl (lv_at hl 0 rfl) ?_
          refine lv_aload_n hx hb dX6_weigh_31 rfl (lv_at hl 1 rfl) ?_
          refine lv_iload_n hx hb dX6_weigh_32 rfl (lv_at hl 2 rfl) ?_
          refine lv_iload hx hb dX6_weigh_33 (lv_at hl 4 rfl) ?_
          refine k_ci (wr := [(s1, ai g 6 K), (s2, ai g 6 L), (s3, ai g 96 V), (lw, .inr (2, [.ref l1, .ref l2, .ref l3, .int kn, .int xo, .ref l4])), (l4, ai g 648 G4)]) hP hD hS hA [0, 1, 2] [3, 4, 5, 6, 7] rfl rfl (by decide) (by decide) (va_runV (As := [.ref sk, .int (nI k), .int (nI q)]) (rest := []) ⟨hx, hb, hml, hown, hts⟩ (c_X6_oldSound_g l g sy y1 y2 y3 lw tr chg S1 sk s1 s2 s3 z t k q (by first | assumption | omega) (by first | assumption | omega) (by first | assumption | omega) (by first | assumption | omega) (by first | assumption | omega) H.size) (cwV 3 hts gX6_weigh_X6_oldSound rfl rfl rfl (by decide +kernel) ⟨Nat.le_of_ble_eq_true rfl, Nat.le_of_ble_eq_true rfl⟩) (k_preV hE hZ hP hD hS hA [0, 1, 2] rfl (by decide) (va_recv hE.1 hP (ci := 6) (q0 := 0) rfl rfl)) rfl rfl hl.1 rfl (lv_room (Nat.le_of_ble_eq_true rfl)) dX6_weigh_35 ⟨Nat.le_of_ble_eq_true rfl, Nat.le_of_ble_eq_true rfl⟩) (fun r_5 w1 H locs hw hP hD hS => ?_)
          obtain ⟨rfl, hv_6⟩ := hw
          have hP : va_P g.1 vwCl [(s1, ai g 6 K), (s2, ai g 6 L), (s3, ai g 96 V), (lw, .inr (2, [.ref l1, .ref l2, .ref l3, .int kn, .int xo, .ref l4])), (l4, ai g 648 G4), (sy, .inr (6, [.ref y1, .ref y2, .ref y3, .ref lw, .int chg, .ref tr])), (y1, ai g 168 S1), (sk, .inr (5, [.int (nI z), .int (nI t), .ref s1, .ref s2, .ref s3]))] H := hP
          have hD : va_D A [(s1, ai g 6 K), (s2, ai g 6 L), (s3, ai g 96 V), (lw, .inr (2, [.ref l1, .ref l2, .ref l3, .int kn, .int xo, .ref l4])), (l4, ai g 648 G4), (sy, .inr (6, [.ref y1, .ref y2, .ref y3, .ref lw, .int chg, .ref tr])), (y1, ai g 168 S1), (sk, .inr (5, [.int (nI z), .int (nI t), .ref s1, .ref s2, .ref s3]))] := hD
          obtain ⟨ov, hov, eov⟩ := hv_6
          subst eov
          refine lv_istore (lv' := [(5, .int (nI ov)), (0, .ref sy), (1, .ref sk), (2, .int (nI k)), (3, .int x3), (4, .int (nI q))]) hx hb dX6_weigh_38 hl (by decide) rfl (fun ls hl => ?_)
          refine lv_iconst (v := 0) hx hb dX6_weigh_40 (by decide) ?_
          refine lv_istore (lv' := [(6, .int 0), (5, .int (nI ov)), (0, .ref sy), (1, .ref sk), (2, .int (nI k)), (3, .int x3), (4, .int (nI q))]) hx hb dX6_weigh_41 hl (by decide) rfl (fun ls hl => ?_)
          have loop43 : ∀ (fu : Nat) (u : Nat) (M4 : Nat → Int32), (hu : u ≤ t) → t - u < fu → ∀ (H : Heap) (locs : List Loc) (ls : Array Slot), va_P g.1 vwCl [(s1, ai g 6 K), (s2, ai g 6 L), (s3, ai g 96 V), (lw, .inr (2, [.ref l1, .ref l2, .ref l3, .int kn, .int xo, .ref l4])), (l4, ai g 648 M4), (sy, .inr (6, [.ref y1, .ref y2, .ref y3, .ref lw, .int chg, .ref tr])), (y1, ai g 168 S1), (sk, .inr (5, [.int (nI z), .int (nI t), .ref s1, .ref s2, .ref s3]))] H → va_D A [(s1, ai g 6 K), (s2, ai g 6 L), (s3, ai g 96 V), (lw, .inr (2, [.ref l1, .ref l2, .ref l3, .int kn, .int xo, .ref l4])), (l4, ai g 648 M4), (sy, .inr (6, [.ref y1, .ref y2, .ref y3, .ref lw, .int chg, .ref tr])), (y1, ai g 168 S1), (sk, .inr (5, [.int (nI z), .int (nI t), .ref s1, .ref s2, .ref s3]))] → va_S A s.heap H locs → lv_has ls 8 [(0, .ref sy), (1, .ref sk), (2, .int (nI k)), (3, .int x3), (4, .int (nI q)), (5, .int (nI ov)), (6, .int (nI u))] → W p l e ({ frames := 2, cells := 0, slots := 0, locals := 44 }) s m [.ref sy, .ref sk, .int (nI k)].toArray below meth c H locs 0 0 (MQ below (va_Qv (po_X6_weigh_g g sy y1 y2 y3 lw tr chg S1 sk s1 s2 s3 z t K L V l1 l2 l3 l4 kn xo F4 k) (bk g A) A) [.ref sy, .ref sk, .int (nI k)].toArray s 0 0 A) (F0 m 43 ls []) := by
            intro fu
            induction fu with
            | zero => intro u M4 hu hfu; exact absurd hfu (Nat.not_lt_zero _)
            | succ fu ih =>
              intro u M4 hu hfu H locs ls hP hD hS hl
              have ih43 := ih
              refine lv_iload hx hb dX6_weigh_43 (lv_at hl 6 rfl) ?_
              refine lv_aload_n hx hb dX6_weigh_45 rfl (lv_at hl 1 rfl) ?_
              refine va_get (D := g.1) (ci := 5) (v := .int (nI t)) (C := RX5) (T := TX5) (N := 5) hx hb hts q_X6_weigh_g_f5 hown hE.1 hP 7 rfl rfl 1 (by decide) (hts (.fieldLink RX6 35 "SoundLaws$Stock" "tongues" "I") q_X6_weigh_g_3) (fun _ h9 => h9) rfl dX6_weigh_46 ?_
              refine lv_icmp_ge (tgt := 96) hx hb dX6_weigh_49 (by decide) (fun c49_7 => ?_) (fun c49_7 => ?_)
              · skip
                refine lv_iinc (v := (nI (q + 1))) (lv' := [(4, .int (nI (q + 1))), (0, .ref sy), (1, .ref sk), (2, .int (nI k)), (3, .int x3), (5, .int (nI ov)), (6, .int (nI u))]) hx hb dX6_weigh_96 hl (k := 4) rfl (nI_1 _) (by decide) rfl (fun ls hl => ?_)
                refine lv_goto (tgt := 19) hx hb dX6_weigh_99 (by decide) ?_
                exact ih19 (q + 1) _ (by omega) (by omega) _ _ _ (hP.sub [5, 6, 7, 0, 1, 2, 3, 4] rfl) (hD.sub [5, 6, 7, 0, 1, 2, 3, 4] (by decide) rfl) hS (lv_sub hl [1, 2, 3, 4, 0] rfl)
              · skip
                have hu9 := lt_of_nle (k := t) (n := u) (by omega) (by omega) c49_7
                refine lv_aload_n hx hb dX6_weigh_52 rfl (lv_at hl 1 rfl) ?_
                refine va_get (D := g.1) (ci := 5) (v := .ref s3) (C := RX5) (T := TX5) (N := 5) hx hb hts q_X6_weigh_g_f5 hown hE.1 hP 7 rfl rfl 4 (by decide) (hts (.fieldLink RX6 94 "SoundLaws$Stock" "words" "[I") q_X6_weigh_g_4) (fun _ h9 => h9) rfl dX6_weigh_53 ?_
                refine lv_iload_n hx hb dX6_weigh_56 rfl (lv_at hl 2 rfl) ?_
                refine lv_iload hx hb dX6_weigh_57 (lv_at hl 6 rfl) ?_
                refine k_ci (wr := [(s1, ai g 6 K), (s2, ai g 6 L), (s3, ai g 96 V), (lw, .inr (2, [.ref l1, .ref l2, .ref l3, .int kn, .int xo, .ref l4])), (l4, ai g 648 M4), (sy, .inr (6, [.ref y1, .ref y2, .ref y3, .ref lw, .int chg, .ref tr])), (y1, ai g 168 S1), (sk, .inr (5, [.int (nI z), .int (nI t), .ref s1, .ref s2, .ref s3]))]) hP hD hS hA [] [0, 1, 2, 3, 4, 5, 6, 7] rfl rfl (by decide) (by decide) (va_runSN (As := [.int (nI k), .int (nI u)]) (rest := [.ref s3]) ⟨hx, hb, hml, hown, hts⟩ (c_X8_wordAt_g l g k u  H.size) ⟨va_cnB 2 hts gX6_weigh_X8_wordAt_n97 rfl rfl rfl (hE.nw 12 rfl) (hts (.initialized RX8) q_X6_weigh_g_5) (by decide +kernel) ⟨Nat.le_of_ble_eq_true rfl, Nat.le_of_ble_eq_true rfl⟩, (hts (.static yX8_wordAt) q_X6_weigh_g_6), trivial⟩ (k_preS hE hZ hP hD hS hA [] rfl (by decide)) rfl rfl hl.1 rfl (lv_room (Nat.le_of_ble_eq_true rfl)) dX6_weigh_59 ⟨Nat.le_of_ble_eq_true rfl, Nat.le_of_ble_eq_true rfl⟩) (fun r_8 w1 H locs hw hP hD hS => ?_)
                obtain ⟨rfl, rfl⟩ := hw
                have hP : va_P g.1 vwCl [(s1, ai g 6 K), (s2, ai g 6 L), (s3, ai g 96 V), (lw, .inr (2, [.ref l1, .ref l2, .ref l3, .int kn, .int xo, .ref l4])), (l4, ai g 648 M4), (sy, .inr (6, [.ref y1, .ref y2, .ref y3, .ref lw, .int chg, .ref tr])), (y1, ai g 168 S1), (sk, .inr (5, [.int (nI z), .int (nI t), .ref s1, .ref s2, .ref s3]))] H := hP
                have hD : va_D A [(s1, ai g 6 K), (s2, ai g 6 L), (s3, ai g 96 V), (lw, .inr (2, [.ref l1, .ref l2, .ref l3, .int kn, .int xo, .ref l4])), (l4, ai g 648 M4), (sy, .inr (6, [.ref y1, .ref y2, .ref y3, .ref lw, .int chg, .ref tr])), (y1, ai g 168 S1), (sk, .inr (5, [.int (nI z), .int (nI t), .ref s1, .ref s2, .ref s3]))] := hD
                refine lv_iload hx hb dX6_weigh_62 (lv_at hl 4 rfl) ?_
                refine lv_iadd hx hb dX6_weigh_64 ?_
                refine k_ald (16 * k + 4 * u + q) (nI_add _ _) (by omega) hx hb hE hP 2 rfl (by decide) dX6_weigh_65 ?_
                obtain ⟨vv, hvv, evv⟩ := hV (16 * k + 4 * u + q) (by omega)
                refine lv_topi (fun x_10 ex_10 => ?_)
                obtain rfl : x_10 = nI vv := by rw [ex_10]; exact evv
                refine lv_istore (lv' := [(7, .int (nI vv)), (0, .ref sy), (1, .ref sk), (2, .int (nI k)), (3, .int x3), (4, .int (nI q)), (5, .int (nI ov)), (6, .int (nI u))]) hx hb dX6_weigh_66 hl (by decide) rfl (fun ls hl => ?_)
                refine lv_aload_n hx hb dX6_weigh_68 rfl (lv_at hl 1 rfl) ?_
                refine va_get (D := g.1) (ci := 6) (v := .ref lw) (C := RX6) (T := TX6) (N := 6) hx hb hts q_X6_weigh_g_f6 hown hE.1 hP 5 rfl rfl 3 (by decide) (hts (.fieldLink RX6 24 "SoundLaws$Study" "laws" "LSoundLaws$Laws;") q_X6_weigh_g_8) (fun _ h9 => h9) rfl dX6_weigh_69 ?_
                refine lv_iload hx hb dX6_weigh_72 (lv_at hl 7 rfl) ?_
                refine lv_iload hx hb dX6_weigh_74 (lv_at hl 6 rfl) ?_
                refine lv_iload hx hb dX6_weigh_76 (lv_at hl 5 rfl) ?_
                refine k_ci (wr := [(s1, ai g 6 K), (s2, ai g 6 L), (s3, ai g 96 V), (lw, .inr (2, [.ref l1, .ref l2, .ref l3, .int kn, .int xo, .ref l4])), (l4, ai g 648 M4), (sy, .inr (6, [.ref y1, .ref y2, .ref y3, .ref lw, .int chg, .ref tr])), (y1, ai g 168 S1), (sk, .inr (5, [.int (nI z), .int (nI t), .ref s1, .ref s2, .ref s3]))]) hP hD hS hA [] [0, 1, 2, 3, 4, 5, 6, 7] rfl rfl (by decide) (by decide) (va_runSN (As := [.int (nI q)]) (rest := [.int (nI ov), .int (nI u), .ref lw]) ⟨hx, hb, hml, hown, hts⟩ (c_X8_aheadAt_g l g q (by first | assumption | omega) H.size) ⟨va_cnB 1 hts gX6_weigh_X8_aheadAt_n120 rfl rfl rfl (hE.nw 21 rfl) (hts (.initialized RX8) q_X6_weigh_g_5) (by decide +kernel) ⟨Nat.le_of_ble_eq_true rfl, Nat.le_of_ble_eq_true rfl⟩, (hts (.static yX8_aheadAt) q_X6_weigh_g_9), trivial⟩ (k_preS hE hZ hP hD hS hA [] rfl (by decide)) rfl rfl hl.1 rfl (lv_room (Nat.le_of_ble_eq_true rfl)) dX6_weigh_78 ⟨Nat.le_of_ble_eq_true rfl, Nat.le_of_ble_eq_true rfl⟩) (fun r_11 w1 H locs hw hP hD hS => ?_)
                obtain ⟨rfl, rfl⟩ := hw
                have hP : va_P g.1 vwCl [(s1, ai g 6 K), (s2, ai g 6 L), (s3, ai g 96 V), (lw, .inr (2, [.ref l1, .ref l2, .ref l3, .int kn, .int xo, .ref l4])), (l4, ai g 648 M4), (sy, .inr (6, [.ref y1, .ref y2, .ref y3, .ref lw, .int chg, .ref tr])), (y1, ai g 168 S1), (sk, .inr (5, [.int (nI z), .int (nI t), .ref s1, .ref s2, .ref s3]))] H := hP
                have hD : va_D A [(s1, ai g 6 K), (s2, ai g 6 L), (s3, ai g 96 V), (lw, .inr (2, [.ref l1, .ref l2, .ref l3, .int kn, .int xo, .ref l4])), (l4, ai g 648 M4), (sy, .inr (6, [.ref y1, .ref y2, .ref y3, .ref lw, .int chg, .ref tr])), (y1, ai g 168 S1), (sk, .inr (5, [.int (nI z), .int (nI t), .ref s1, .ref s2, .ref s3]))] := hD
                refine k_ci (wr := [(s1, ai g 6 K), (s2, ai g 6 L), (s3, ai g 96 V), (lw, .inr (2, [.ref l1, .ref l2, .ref l3, .int kn, .int xo, .ref l4])), (l4, ai g 648 M4), (sy, .inr (6, [.ref y1, .ref y2, .ref y3, .ref lw, .int chg, .ref tr])), (y1, ai g 168 S1), (sk, .inr (5, [.int (nI z), .int (nI t), .ref s1, .ref s2, .ref s3]))]) hP hD hS hA [] [0, 1, 2, 3, 4, 5, 6, 7] rfl rfl (by decide) (by decide) (va_runSN (As := [.int (nI u), .int (nI ov), .int (nI (ah q))]) (rest := [.ref lw]) ⟨hx, hb, hml, hown, hts⟩ (c_X8_lawAt_g l g u ov (ah q)  H.size) ⟨va_cnB 3 hts gX6_weigh_X8_lawAt_n123 rfl rfl rfl (hE.nw 22 rfl) (hts (.initialized RX8) q_X6_weigh_g_5) (by decide +kernel) ⟨Nat.le_of_ble_eq_true rfl, Nat.le_of_ble_eq_true rfl⟩, (hts (.static yX8_lawAt) q_X6_weigh_g_10), trivial⟩ (k_preS hE hZ hP hD hS hA [] rfl (by decide)) rfl rfl hl.1 rfl (lv_room (Nat.le_of_ble_eq_true rfl)) dX6_weigh_81 ⟨Nat.le_of_ble_eq_true rfl, Nat.le_of_ble_eq_true rfl⟩) (fun r_13 w1 H locs hw hP hD hS => ?_)
                obtain ⟨rfl, rfl⟩ := hw
                have hP : va_P g.1 vwCl [(s1, ai g 6 K), (s2, ai g 6 L), (s3, ai g 96 V), (lw, .inr (2, [.ref l1, .ref l2, .ref l3, .int kn, .int xo, .ref l4])), (l4, ai g 648 M4), (sy, .inr (6, [.ref y1, .ref y2, .ref y3, .ref lw, .int chg, .ref tr])), (y1, ai g 168 S1), (sk, .inr (5, [.int (nI z), .int (nI t), .ref s1, .ref s2, .ref s3]))] H := hP
                have hD : va_D A [(s1, ai g 6 K), (s2, ai g 6 L), (s3, ai g 96 V), (lw, .inr (2, [.ref l1, .ref l2, .ref l3, .int kn, .int xo, .ref l4])), (l4, ai g 648 M4), (sy, .inr (6, [.ref y1, .ref y2, .ref y3, .ref lw, .int chg, .ref tr])), (y1, ai g 168 S1), (sk, .inr (5, [.int (nI z), .int (nI t), .ref s1, .ref s2, .ref s3]))] := hD
                have hah := ah_lt q
                refine lv_iload hx hb dX6_weigh_84 (lv_at hl 0 rfl) ?_
                refine lv_iload_n hx hb dX6_weigh_86 rfl (lv_at hl 4 rfl) ?_
                refine k_cv (wr := [(s1, ai g 6 K), (s2, ai g 6 L), (s3, ai g 96 V), (sy, .inr (6, [.ref y1, .ref y2, .ref y3, .ref lw, .int chg, .ref tr])), (y1, ai g 168 S1), (sk, .inr (5, [.int (nI z), .int (nI t), .ref s1, .ref s2, .ref s3]))]) hP hD hS hA [3, 4] [0, 1, 2, 5, 6, 7] rfl rfl (by decide) (by decide) (va_runV (As := [.int (nI (18 * u + 2 * ov + (ah q))), .int (nI vv), .int x3]) (rest := []) ⟨hx, hb, hml, hown, hts⟩ (c_X2_weigh_g l g lw l1 l2 l3 l4 kn xo M4 (18 * u + 2 * ov + (ah q)) vv x3 (by first | assumption | omega) (by first | assumption | omega) H.size) (cwV 3 hts gX6_weigh_X2_weigh rfl rfl rfl (by decide +kernel) ⟨Nat.le_of_ble_eq_true rfl, Nat.le_of_ble_eq_true rfl⟩) (k_preV hE hZ hP hD hS hA [3, 4] rfl (by decide) (va_recv hE.1 hP (ci := 2) (q0 := 3) rfl rfl)) rfl rfl hl.1 rfl (lv_room (Nat.le_of_ble_eq_true rfl)) dX6_weigh_87 ⟨Nat.le_of_ble_eq_true rfl, Nat.le_of_ble_eq_true rfl⟩) (fun w1 H locs hw hP hD hS => ?_)
                obtain ⟨G4_16, rfl⟩ := hw
                have hP : va_P g.1 vwCl [(s1, ai g 6 K), (s2, ai g 6 L), (s3, ai g 96 V), (sy, .inr (6, [.ref y1, .ref y2, .ref y3, .ref lw, .int chg, .ref tr])), (y1, ai g 168 S1), (sk, .inr (5, [.int (nI z), .int (nI t), .ref s1, .ref s2, .ref s3])), (lw, .inr (2, [.ref l1, .ref l2, .ref l3, .int kn, .int xo, .ref l4])), (l4, ai g 648 G4_16)] H := hP
                have hD : va_D A [(s1, ai g 6 K), (s2, ai g 6 L), (s3, ai g 96 V), (sy, .inr (6, [.ref y1, .ref y2, .ref y3, .ref lw, .int chg, .ref tr])), (y1, ai g 168 S1), (sk, .inr (5, [.int (nI z), .int (nI t), .ref s1, .ref s2, .ref s3])), (lw, .inr (2, [.ref l1, .ref l2, .ref l3, .int kn, .int xo, .ref l4])), (l4, ai g 648 G4_16)] := hD
                refine lv_iinc (v := (nI (u + 1))) (lv' := [(6, .int (nI (u + 1))), (7, .int (nI vv)), (0, .ref sy), (1, .ref sk), (2, .int (nI k)), (3, .int x3), (4, .int (nI q)), (5, .int (nI ov))]) hx hb dX6_weigh_90 hl (k := 7) rfl (nI_1 _) (by decide) rfl (fun ls hl => ?_)
                refine lv_goto (tgt := 43) hx hb dX6_weigh_93 (by decide) ?_
                exact ih43 (u + 1) _ (by omega) (by omega) _ _ _ (hP.sub [0, 1, 2, 6, 7, 3, 4, 5] rfl) (hD.sub [0, 1, 2, 6, 7, 3, 4, 5] (by decide) rfl) hS (lv_sub hl [2, 3, 4, 5, 6, 7, 0] rfl)
          exact loop43 _ 0 G4 (Nat.zero_le t) (Nat.lt_succ_self _) _ _ _ hP hD hS (lv_sub hl [2, 3, 4, 5, 6, 1, 0] rfl)
    exact loop19 _ 0 F4 (Nat.zero_le n) (Nat.lt_succ_self _) _ _ _ hP hD hS (lv_sub hl [2, 3, 4, 1, 0] rfl)
  · skip
    refine W.widen (k := 0) (n := 0) (Nat.le_of_ble_eq_true rfl) (Nat.le_of_ble_eq_true rfl) ?_
    exact k_rv hx hb hr hlocks hS hP hD ⟨F4, rfl⟩ dX6_weigh_15
def po_X6_findStrange_g (g : GG) (sy : Nat) (y1 : Nat) (y2 : Nat) (y3 : Nat) (lw : Nat) (tr : Nat) (chg : Int32) (S1 : Nat → Int32) (S3 : Nat → Int32) (sk : Nat) (s1 : Nat) (s2 : Nat) (s3 : Nat) (z : Nat) (t : Nat) (K : Nat → Int32) (L : Nat → Int32) (V : Nat → Int32) (l1 : Nat) (l2 : Nat) (l3 : Nat) (l4 : Nat) (kn : Int32) (xo : Int32) (F1 : Nat → Int32) (k : Nat) : va_W → Prop := fun w => ∃ (T3 : Nat → Int32), w = [(sy, .inr (6, [.ref y1, .ref y2, .ref y3, .ref lw, .int chg, .ref tr])), (y1, ai g 168 S1), (y3, ai g 24 T3), (sk, .inr (5, [.int (nI z), .int (nI t), .ref s1, .ref s2, .ref s3])), (s1, ai g 6 K), (s2, ai g 6 L), (s3, ai g 96 V), (lw, .inr (2, [.ref l1, .ref l2, .ref l3, .int kn, .int xo, .ref l4])), (l1, ai g 72 F1)]
theorem q_X6_findStrange_g_f5 : ∀ w ∈ u_ws RX5 TX5 5, w ∈ wsX6_findStrange := by decide +kernel
theorem q_X6_findStrange_g_1 : (Cond.fieldLink RX6 90 "SoundLaws$Stock" "kinds" "[I") ∈ wsX6_findStrange := by decide +kernel
theorem q_X6_findStrange_g_2 : (Cond.fieldLink RX6 75 "SoundLaws$Stock" "lengths" "[I") ∈ wsX6_findStrange := by decide +kernel
theorem q_X6_findStrange_g_3 : (Cond.fieldLink RX6 35 "SoundLaws$Stock" "tongues" "I") ∈ wsX6_findStrange := by decide +kernel
theorem q_X6_findStrange_g_f6 : ∀ w ∈ u_ws RX6 TX6 6, w ∈ wsX6_findStrange := by decide +kernel
theorem q_X6_findStrange_g_5 : (Cond.fieldLink RX6 24 "SoundLaws$Study" "laws" "LSoundLaws$Laws;") ∈ wsX6_findStrange := by decide +kernel
theorem q_X6_findStrange_g_f2 : ∀ w ∈ u_ws RX2 TX2 6, w ∈ wsX6_findStrange := by decide +kernel
theorem q_X6_findStrange_g_7 : (Cond.fieldLink RX6 130 "SoundLaws$Laws" "becomes" "[I") ∈ wsX6_findStrange := by decide +kernel
theorem q_X6_findStrange_g_8 : (Cond.initialized RX8) ∈ wsX6_findStrange := by decide +kernel
theorem q_X6_findStrange_g_9 : (Cond.static yX8_aheadAt) ∈ wsX6_findStrange := by decide +kernel
theorem q_X6_findStrange_g_10 : (Cond.static yX8_lawAt) ∈ wsX6_findStrange := by decide +kernel
theorem q_X6_findStrange_g_11 : (Cond.fieldLink RX6 94 "SoundLaws$Stock" "words" "[I") ∈ wsX6_findStrange := by decide +kernel
theorem q_X6_findStrange_g_12 : (Cond.static yX8_wordAt) ∈ wsX6_findStrange := by decide +kernel
theorem q_X6_findStrange_g_13 : (Cond.fieldLink RX6 18 "SoundLaws$Study" "strangePlaces" "[I") ∈ wsX6_findStrange := by decide +kernel
set_option maxHeartbeats 1500000 in
set_option maxRecDepth 100000 in
theorem c_X6_findStrange_g (l : Launch) (g : GG) (sy : Nat) (y1 : Nat) (y2 : Nat) (y3 : Nat) (lw : Nat) (tr : Nat) (chg : Int32) (S1 : Nat → Int32) (S3 : Nat → Int32) (sk : Nat) (s1 : Nat) (s2 : Nat) (s3 : Nat) (z : Nat) (t : Nat) (K : Nat → Int32) (L : Nat → Int32) (V : Nat → Int32) (l1 : Nat) (l2 : Nat) (l3 : Nat) (l4 : Nat) (kn : Int32) (xo : Int32) (F1 : Nat → Int32) (k : Nat) (ht : 2 ≤ t) (ht4 : t ≤ 4) (hK : rng 6 5 K) (hL : rng 6 5 L) (hV : rng 96 9 V) (hS1 : rng 168 9 S1) (hk : k < 6) (sz : Nat) : MetV l yX6_findStrange wsX6_findStrange ({ frames := 2, cells := 0, slots := 0, locals := 44 }) g [.ref sy, .ref sk, .int (nI k)] [(sy, .inr (6, [.ref y1, .ref y2, .ref y3, .ref lw, .int chg, .ref tr])), (y1, ai g 168 S1), (y3, ai g 24 S3), (sk, .inr (5, [.int (nI z), .int (nI t), .ref s1, .ref s2, .ref s3])), (s1, ai g 6 K), (s2, ai g 6 L), (s3, ai g 96 V), (lw, .inr (2, [.ref l1, .ref l2, .ref l3, .int kn, .int xo, .ref l4])), (l1, ai g 72 F1)] sz (po_X6_findStrange_g g sy y1 y2 y3 lw tr chg S1 S3 sk s1 s2 s3 z t K L V l1 l2 l3 l4 kn xo F1 k) 0 0 := by
  refine k_of (l := l) (y := yX6_findStrange) (ws := wsX6_findStrange) (rm := { frames := 2, cells := 0, slots := 0, locals := 44 }) (mc := 0) (ms := 0) (av := [.ref sy, .ref sk, .int (nI k)]) (g := g) (wc := [(sy, .inr (6, [.ref y1, .ref y2, .ref y3, .ref lw, .int chg, .ref tr])), (y1, ai g 168 S1), (y3, ai g 24 S3), (sk, .inr (5, [.int (nI z), .int (nI t), .ref s1, .ref s2, .ref s3])), (s1, ai g 6 K), (s2, ai g 6 L), (s3, ai g 96 V), (lw, .inr (2, [.ref l1, .ref l2, .ref l3, .int kn, .int xo, .ref l4])), (l1, ai g 72 F1)]) (Qc := fun A => va_Qv (po_X6_findStrange_g g sy y1 y2 y3 lw tr chg S1 S3 sk s1 s2 s3 z t K L V l1 l2 l3 l4 kn xo F1 k) (bk g A) A) (cc := cX6_findStrange) (maxL := 8) (ret := none) (by decide) rfl (Nat.le_of_ble_eq_true rfl) ?_ sz
  intro p e s m below meth c hx hb hr hts hown hlocks hnm hml A hA hE hZ hP hD hS ls hl
  have hown : s.vm.findClass RX6 = some m.cls := hown
  have hl : lv_has ls 8 [(0, .ref sy), (1, .ref sk), (2, .int (nI k))] := hl
  refine lv_iconst (v := 0) hx hb dX6_findStrange_0 (by decide) ?_
  refine lv_istore_n (lv' := [(3, .int 0), (0, .ref sy), (1, .ref sk), (2, .int (nI k))]) hx hb dX6_findStrange_1 rfl hl (by decide) rfl (fun ls hl => ?_)
  have loop2 : ∀ (fu : Nat) (u : Nat) (M3 : Nat → Int32), (hu : u ≤ 4) → 4 - u < fu → ∀ (H : Heap) (locs : List Loc) (ls : Array Slot), va_P g.1 vwCl [(sy, .inr (6, [.ref y1, .ref y2, .ref y3, .ref lw, .int chg, .ref tr])), (y1, ai g 168 S1), (y3, ai g 24 M3), (sk, .inr (5, [.int (nI z), .int (nI t), .ref s1, .ref s2, .ref s3])), (s1, ai g 6 K), (s2, ai g 6 L), (s3, ai g 96 V), (lw, .inr (2, [.ref l1, .ref l2, .ref l3, .int kn, .int xo, .ref l4])), (l1, ai g 72 F1)] H → va_D A [(sy, .inr (6, [.ref y1, .ref y2, .ref y3, .ref lw, .int chg, .ref tr])), (y1, ai g 168 S1), (y3, ai g 24 M3), (sk, .inr (5, [.int (nI z), .int (nI t), .ref s1, .ref s2, .ref s3])), (s1, ai g 6 K), (s2, ai g 6 L), (s3, ai g 96 V), (lw, .inr (2, [.ref l1, .ref l2, .ref l3, .int kn, .int xo, .ref l4])), (l1, ai g 72 F1)] → va_S A s.heap H locs → lv_has ls 8 [(0, .ref sy), (1, .ref sk), (2, .int (nI k)), (3, .int (nI u))] → W p l e ({ frames := 2, cells := 0, slots := 0, locals := 44 }) s m [.ref sy, .ref sk, .int (nI k)].toArray below meth c H locs 0 0 (MQ below (va_Qv (po_X6_findStrange_g g sy y1 y2 y3 lw tr chg S1 S3 sk s1 s2 s3 z t K L V l1 l2 l3 l4 kn xo F1 k) (bk g A) A) [.ref sy, .ref sk, .int (nI k)].toArray s 0 0 A) (F0 m 2 ls []) := by
    intro fu
    induction fu with
    | zero => intro u M3 hu hfu; exact absurd hfu (Nat.not_lt_zero _)
    | succ fu ih =>
      intro u M3 hu hfu H locs ls hP hD hS hl
      have ih2 := ih
      refine lv_iload_n hx hb dX6_findStrange_2 rfl (lv_at hl 3 rfl) ?_
      refine lv_iconst (v := 4) hx hb dX6_findStrange_3 (by decide) ?_
      refine lv_icmp_ge (tgt := 24) hx hb dX6_findStrange_4 (by decide) (fun c4_1 => ?_) (fun c4_1 => ?_)
      · skip
        refine va_getsN hx hb hZ.zREBUILDS hS hown (va_Nw.use rfl (hE.nw (w := .fieldLinkNest RX6 87 "SoundLaws" "REBUILDS" "[I" RX8) 11 rfl)) (fun _ h9 => h9) dX6_findStrange_24 ?_
        refine lv_aload_n hx hb dX6_findStrange_27 rfl (lv_at hl 1 rfl) ?_
        refine va_get (D := g.1) (ci := 5) (v := .ref s1) (C := RX5) (T := TX5) (N := 5) hx hb hts q_X6_findStrange_g_f5 hown hE.1 hP 3 rfl rfl 2 (by decide) (hts (.fieldLink RX6 90 "SoundLaws$Stock" "kinds" "[I") q_X6_findStrange_g_1) (fun _ h9 => h9) rfl dX6_findStrange_28 ?_
        refine lv_iload_n hx hb dX6_findStrange_31 rfl (lv_at hl 2 rfl) ?_
        refine k_ald k rfl (by omega) hx hb hE hP 4 rfl (by decide) dX6_findStrange_32 ?_
        obtain ⟨kk, hkk, ekk⟩ := hK (k) (by omega)
        refine lv_topi (fun x_2 ex_2 => ?_)
        obtain rfl : x_2 = nI kk := by rw [ex_2]; exact ekk
        refine k_tld kk rfl (by omega) hx hb hZ.tREBUILDS hS (by decide) (v := tb_REBUILDS.getD kk 0) rfl dX6_findStrange_33 ?_
        refine lv_if_ne (tgt := 38) hx hb dX6_findStrange_34 (by decide) (fun c34_3 => ?_) (fun c34_3 => ?_)
        · skip
          refine lv_iconst (v := 0) hx hb dX6_findStrange_38 (by decide) ?_
          refine lv_istore_n (lv' := [(3, .int 0), (0, .ref sy), (1, .ref sk), (2, .int (nI k))]) hx hb dX6_findStrange_39 rfl hl (by decide) rfl (fun ls hl => ?_)
          obtain ⟨n, hn, en⟩ := hL (k) (by omega)
          have loop40 : ∀ (fu : Nat) (q : Nat) (T3 : Nat → Int32), (hq : q ≤ n) → n - q < fu → ∀ (H : Heap) (locs : List Loc) (ls : Array Slot), va_P g.1 vwCl [(sy, .inr (6, [.ref y1, .ref y2, .ref y3, .ref lw, .int chg, .ref tr])), (y1, ai g 168 S1), (y3, ai g 24 T3), (sk, .inr (5, [.int (nI z), .int (nI t), .ref s1, .ref s2, .ref s3])), (s1, ai g 6 K), (s2, ai g 6 L), (s3, ai g 96 V), (lw, .inr (2, [.ref l1, .ref l2, .ref l3, .int kn, .int xo, .ref l4])), (l1, ai g 72 F1)] H → va_D A [(sy, .inr (6, [.ref y1, .ref y2, .ref y3, .ref lw, .int chg, .ref tr])), (y1, ai g 168 S1), (y3, ai g 24 T3), (sk, .inr (5, [.int (nI z), .int (nI t), .ref s1, .ref s2, .ref s3])), (s1, ai g 6 K), (s2, ai g 6 L), (s3, ai g 96 V), (lw, .inr (2, [.ref l1, .ref l2, .ref l3, .int kn, .int xo, .ref l4])), (l1, ai g 72 F1)] → va_S A s.heap H locs → lv_has ls 8 [(0, .ref sy), (1, .ref sk), (2, .int (nI k)), (3, .int (nI q))] → W p l e ({ frames := 2, cells := 0, slots := 0, locals := 44 }) s m [.ref sy, .ref sk, .int (nI k)].toArray below meth c H locs 0 0 (MQ below (va_Qv (po_X6_findStrange_g g sy y1 y2 y3 lw tr chg S1 S3 sk s1 s2 s3 z t K L V l1 l2 l3 l4 kn xo F1 k) (bk g A) A) [.ref sy, .ref sk, .int (nI k)].toArray s 0 0 A) (F0 m 40 ls []) := by
            intro fu
            induction fu with
            | zero => intro q T3 hq hfu; exact absurd hfu (Nat.not_lt_zero _)
            | succ fu ih =>
              intro q T3 hq hfu H locs ls hP hD hS hl
              have ih40 := ih
              refine lv_iload_n hx hb dX6_findStrange_40 rfl (lv_at hl 3 rfl) ?_
              refine lv_aload_n hx hb dX6_findStrange_41 rfl (lv_at hl 1 rfl) ?_
              refine va_get (D := g.1) (ci := 5) (v := .ref s2) (C := RX5) (T := TX5) (N := 5) hx hb hts q_X6_findStrange_g_f5 hown hE.1 hP 3 rfl rfl 3 (by decide) (hts (.fieldLink RX6 75 "SoundLaws$Stock" "lengths" "[I") q_X6_findStrange_g_2) (fun _ h9 => h9) rfl dX6_findStrange_42 ?_
              refine lv_iload_n hx hb dX6_findStrange_45 rfl (lv_at hl 2 rfl) ?_
              refine k_ald k rfl (by omega) hx hb hE hP 5 rfl (by decide) dX6_findStrange_46 ?_
              refine lv_topi (fun x_4 ex_4 => ?_)
              obtain rfl : x_4 = nI n := by rw [ex_4]; exact en
              refine lv_icmp_ge (tgt := 147) hx hb dX6_findStrange_47 (by decide) (fun c47_5 => ?_) (fun c47_5 => ?_)
              · skip
                refine W.widen (k := 0) (n := 0) (Nat.le_of_ble_eq_true rfl) (Nat.le_of_ble_eq_true rfl) ?_
                exact k_rv hx hb hr hlocks hS hP hD ⟨T3, rfl⟩ dX6_findStrange_147
              · skip
                have hq9 := lt_of_nle (k := n) (n := q) (by omega) (by omega) c47_5
                refine lv_aload_n hx hb dX6_findStrange_50 rfl (lv_at hl 0 rfl) ?_
                refine lv_aload_n hx hb dX6_findStrange_51 rfl (lv_at hl 1 rfl) ?_
                refine lv_iload_n hx hb dX6_findStrange_52 rfl (lv_at hl 2 rfl) ?_
                refine lv_iload_n hx hb dX6_findStrange_53 rfl (lv_at hl 3 rfl) ?_
                refine k_ci (wr := [(y3, ai g 24 T3), (s1, ai g 6 K), (s2, ai g 6 L), (s3, ai g 96 V), (lw, .inr (2, [.ref l1, .ref l2, .ref l3, .int kn, .int xo, .ref l4])), (l1, ai g 72 F1)]) hP hD hS hA [0, 1, 3] [2, 4, 5, 6, 7, 8] rfl rfl (by decide) (by decide) (va_runV (As := [.ref sk, .int (nI k), .int (nI q)]) (rest := []) ⟨hx, hb, hml, hown, hts⟩ (c_X6_oldSound_g l g sy y1 y2 y3 lw tr chg S1 sk s1 s2 s3 z t k q (by first | assumption | omega) (by first | assumption | omega) (by first | assumption | omega) (by first | assumption | omega) (by first | assumption | omega) H.size) (cwV 3 hts gX6_findStrange_X6_oldSound rfl rfl rfl (by decide +kernel) ⟨Nat.le_of_ble_eq_true rfl, Nat.le_of_ble_eq_true rfl⟩) (k_preV hE hZ hP hD hS hA [0, 1, 3] rfl (by decide) (va_recv hE.1 hP (ci := 6) (q0 := 0) rfl rfl)) rfl rfl hl.1 rfl (lv_room (Nat.le_of_ble_eq_true rfl)) dX6_findStrange_54 ⟨Nat.le_of_ble_eq_true rfl, Nat.le_of_ble_eq_true rfl⟩) (fun r_6 w1 H locs hw hP hD hS => ?_)
                obtain ⟨rfl, hv_7⟩ := hw
                have hP : va_P g.1 vwCl [(y3, ai g 24 T3), (s1, ai g 6 K), (s2, ai g 6 L), (s3, ai g 96 V), (lw, .inr (2, [.ref l1, .ref l2, .ref l3, .int kn, .int xo, .ref l4])), (l1, ai g 72 F1), (sy, .inr (6, [.ref y1, .ref y2, .ref y3, .ref lw, .int chg, .ref tr])), (y1, ai g 168 S1), (sk, .inr (5, [.int (nI z), .int (nI t), .ref s1, .ref s2, .ref s3]))] H := hP
                have hD : va_D A [(y3, ai g 24 T3), (s1, ai g 6 K), (s2, ai g 6 L), (s3, ai g 96 V), (lw, .inr (2, [.ref l1, .ref l2, .ref l3, .int kn, .int xo, .ref l4])), (l1, ai g 72 F1), (sy, .inr (6, [.ref y1, .ref y2, .ref y3, .ref lw, .int chg, .ref tr])), (y1, ai g 168 S1), (sk, .inr (5, [.int (nI z), .int (nI t), .ref s1, .ref s2, .ref s3]))] := hD
                obtain ⟨ov, hov, eov⟩ := hv_7
                subst eov
                refine lv_istore (lv' := [(4, .int (nI ov)), (0, .ref sy), (1, .ref sk), (2, .int (nI k)), (3, .int (nI q))]) hx hb dX6_findStrange_57 hl (by decide) rfl (fun ls hl => ?_)
                refine lv_iconst (v := 0) hx hb dX6_findStrange_59 (by decide) ?_
                refine lv_istore (lv' := [(5, .int 0), (4, .int (nI ov)), (0, .ref sy), (1, .ref sk), (2, .int (nI k)), (3, .int (nI q))]) hx hb dX6_findStrange_60 hl (by decide) rfl (fun ls hl => ?_)
                have loop62 : ∀ (fu : Nat) (u : Nat) (P3 : Nat → Int32), (hu : u ≤ t) → t - u < fu → ∀ (H : Heap) (locs : List Loc) (ls : Array Slot), va_P g.1 vwCl [(y3, ai g 24 P3), (s1, ai g 6 K), (s2, ai g 6 L), (s3, ai g 96 V), (lw, .inr (2, [.ref l1, .ref l2, .ref l3, .int kn, .int xo, .ref l4])), (l1, ai g 72 F1), (sy, .inr (6, [.ref y1, .ref y2, .ref y3, .ref lw, .int chg, .ref tr])), (y1, ai g 168 S1), (sk, .inr (5, [.int (nI z), .int (nI t), .ref s1, .ref s2, .ref s3]))] H → va_D A [(y3, ai g 24 P3), (s1, ai g 6 K), (s2, ai g 6 L), (s3, ai g 96 V), (lw, .inr (2, [.ref l1, .ref l2, .ref l3, .int kn, .int xo, .ref l4])), (l1, ai g 72 F1), (sy, .inr (6, [.ref y1, .ref y2, .ref y3, .ref lw, .int chg, .ref tr])), (y1, ai g 168 S1), (sk, .inr (5, [.int (nI z), .int (nI t), .ref s1, .ref s2, .ref s3]))] → va_S A s.heap H locs → lv_has ls 8 [(0, .ref sy), (1, .ref sk), (2, .int (nI k)), (3, .int (nI q)), (4, .int (nI ov)), (5, .int (nI u))] → W p l e ({ frames := 2, cells := 0, slots := 0, locals := 44 }) s m [.ref sy, .ref sk, .int (nI k)].toArray below meth c H locs 0 0 (MQ below (va_Qv (po_X6_findStrange_g g sy y1 y2 y3 lw tr chg S1 S3 sk s1 s2 s3 z t K L V l1 l2 l3 l4 kn xo F1 k) (bk g A) A) [.ref sy, .ref sk, .int (nI k)].toArray s 0 0 A) (F0 m 62 ls []) := by
                  intro fu
                  induction fu with
                  | zero => intro u P3 hu hfu; exact absurd hfu (Nat.not_lt_zero _)
                  | succ fu ih =>
                    intro u P3 hu hfu H locs ls hP hD hS hl
                    have ih62 := ih
                    refine lv_iload hx hb dX6_findStrange_62 (lv_at hl 5 rfl) ?_
                    refine lv_aload_n hx hb dX6_findStrange_64 rfl (lv_at hl 1 rfl) ?_
                    refine va_get (D := g.1) (ci := 5) (v := .int (nI t)) (C := RX5) (T := TX5) (N := 5) hx hb hts q_X6_findStrange_g_f5 hown hE.1 hP 8 rfl rfl 1 (by decide) (hts (.fieldLink RX6 35 "SoundLaws$Stock" "tongues" "I") q_X6_findStrange_g_3) (fun _ h9 => h9) rfl dX6_findStrange_65 ?_
                    refine lv_icmp_ge (tgt := 141) hx hb dX6_findStrange_68 (by decide) (fun c68_8 => ?_) (fun c68_8 => ?_)
                    · skip
                      refine lv_iinc (v := (nI (q + 1))) (lv' := [(3, .int (nI (q + 1))), (0, .ref sy), (1, .ref sk), (2, .int (nI k)), (4, .int (nI ov)), (5, .int (nI u))]) hx hb dX6_findStrange_141 hl (k := 3) rfl (nI_1 _) (by decide) rfl (fun ls hl => ?_)
                      refine lv_goto (tgt := 40) hx hb dX6_findStrange_144 (by decide) ?_
                      exact ih40 (q + 1) _ (by omega) (by omega) _ _ _ (hP.sub [6, 7, 0, 8, 1, 2, 3, 4, 5] rfl) (hD.sub [6, 7, 0, 8, 1, 2, 3, 4, 5] (by decide) rfl) hS (lv_sub hl [1, 2, 3, 0] rfl)
                    · skip
                      have hu9 := lt_of_nle (k := t) (n := u) (by omega) (by omega) c68_8
                      refine lv_aload_n hx hb dX6_findStrange_71 rfl (lv_at hl 0 rfl) ?_
                      refine va_get (D := g.1) (ci := 6) (v := .ref lw) (C := RX6) (T := TX6) (N := 6) hx hb hts q_X6_findStrange_g_f6 hown hE.1 hP 6 rfl rfl 3 (by decide) (hts (.fieldLink RX6 24 "SoundLaws$Study" "laws" "LSoundLaws$Laws;") q_X6_findStrange_g_5) (fun _ h9 => h9) rfl dX6_findStrange_72 ?_
                      refine va_get (D := g.1) (ci := 2) (v := .ref l1) (C := RX2) (T := TX2) (N := 6) hx hb hts q_X6_findStrange_g_f2 hown hE.1 hP 4 rfl rfl 0 (by decide) (hts (.fieldLink RX6 130 "SoundLaws$Laws" "becomes" "[I") q_X6_findStrange_g_7) (fun _ h9 => h9) rfl dX6_findStrange_75 ?_
                      refine lv_iload hx hb dX6_findStrange_78 (lv_at hl 5 rfl) ?_
                      refine lv_iload hx hb dX6_findStrange_80 (lv_at hl 4 rfl) ?_
                      refine lv_iload_n hx hb dX6_findStrange_82 rfl (lv_at hl 3 rfl) ?_
                      refine k_ci (wr := [(y3, ai g 24 P3), (s1, ai g 6 K), (s2, ai g 6 L), (s3, ai g 96 V), (lw, .inr (2, [.ref l1, .ref l2, .ref l3, .int kn, .int xo, .ref l4])), (l1, ai g 72 F1), (sy, .inr (6, [.ref y1, .ref y2, .ref y3, .ref lw, .int chg, .ref tr])), (y1, ai g 168 S1), (sk, .inr (5, [.int (nI z), .int (nI t), .ref s1, .ref s2, .ref s3]))]) hP hD hS hA [] [0, 1, 2, 3, 4, 5, 6, 7, 8] rfl rfl (by decide) (by decide) (va_runSN (As := [.int (nI q)]) (rest := [.int (nI ov), .int (nI u), .ref l1]) ⟨hx, hb, hml, hown, hts⟩ (c_X8_aheadAt_g l g q (by first | assumption | omega) H.size) ⟨va_cnB 1 hts gX6_findStrange_X8_aheadAt_n120 rfl rfl rfl (hE.nw 21 rfl) (hts (.initialized RX8) q_X6_findStrange_g_8) (by decide +kernel) ⟨Nat.le_of_ble_eq_true rfl, Nat.le_of_ble_eq_true rfl⟩, (hts (.static yX8_aheadAt) q_X6_findStrange_g_9), trivial⟩ (k_preS hE hZ hP hD hS hA [] rfl (by decide)) rfl rfl hl.1 rfl (lv_room (Nat.le_of_ble_eq_true rfl)) dX6_findStrange_83 ⟨Nat.le_of_ble_eq_true rfl, Nat.le_of_ble_eq_true rfl⟩) (fun r_9 w1 H locs hw hP hD hS => ?_)
                      obtain ⟨rfl, rfl⟩ := hw
                      have hP : va_P g.1 vwCl [(y3, ai g 24 P3), (s1, ai g 6 K), (s2, ai g 6 L), (s3, ai g 96 V), (lw, .inr (2, [.ref l1, .ref l2, .ref l3, .int kn, .int xo, .ref l4])), (l1, ai g 72 F1), (sy, .inr (6, [.ref y1, .ref y2, .ref y3, .ref lw, .int chg, .ref tr])), (y1, ai g 168 S1), (sk, .inr (5, [.int (nI z), .int (nI t), .ref s1, .ref s2, .ref s3]))] H := hP
                      have hD : va_D A [(y3, ai g 24 P3), (s1, ai g 6 K), (s2, ai g 6 L), (s3, ai g 96 V), (lw, .inr (2, [.ref l1, .ref l2, .ref l3, .int kn, .int xo, .ref l4])), (l1, ai g 72 F1), (sy, .inr (6, [.ref y1, .ref y2, .ref y3, .ref lw, .int chg, .ref tr])), (y1, ai g 168 S1), (sk, .inr (5, [.int (nI z), .int (nI t), .ref s1, .ref s2, .ref s3]))] := hD
                      refine k_ci (wr := [(y3, ai g 24 P3), (s1, ai g 6 K), (s2, ai g 6 L), (s3, ai g 96 V), (lw, .inr (2, [.ref l1, .ref l2, .ref l3, .int kn, .int xo, .ref l4])), (l1, ai g 72 F1), (sy, .inr (6, [.ref y1, .ref y2, .ref y3, .ref lw, .int chg, .ref tr])), (y1, ai g 168 S1), (sk, .inr (5, [.int (nI z), .int (nI t), .ref s1, .ref s2, .ref s3]))]) hP hD hS hA [] [0, 1, 2, 3, 4, 5, 6, 7, 8] rfl rfl (by decide) (by decide) (va_runSN (As := [.int (nI u), .int (nI ov), .int (nI (ah q))]) (rest := [.ref l1]) ⟨hx, hb, hml, hown, hts⟩ (c_X8_lawAt_g l g u ov (ah q)  H.size) ⟨va_cnB 3 hts gX6_findStrange_X8_lawAt_n123 rfl rfl rfl (hE.nw 22 rfl) (hts (.initialized RX8) q_X6_findStrange_g_8) (by decide +kernel) ⟨Nat.le_of_ble_eq_true rfl, Nat.le_of_ble_eq_true rfl⟩, (hts (.static yX8_lawAt) q_X6_findStrange_g_10), trivial⟩ (k_preS hE hZ hP hD hS hA [] rfl (by decide)) rfl rfl hl.1 rfl (lv_room (Nat.le_of_ble_eq_true rfl)) dX6_findStrange_86 ⟨Nat.le_of_ble_eq_true rfl, Nat.le_of_ble_eq_true rfl⟩) (fun r_11 w1 H locs hw hP hD hS => ?_)
                      obtain ⟨rfl, rfl⟩ := hw
                      have hP : va_P g.1 vwCl [(y3, ai g 24 P3), (s1, ai g 6 K), (s2, ai g 6 L), (s3, ai g 96 V), (lw, .inr (2, [.ref l1, .ref l2, .ref l3, .int kn, .int xo, .ref l4])), (l1, ai g 72 F1), (sy, .inr (6, [.ref y1, .ref y2, .ref y3, .ref lw, .int chg, .ref tr])), (y1, ai g 168 S1), (sk, .inr (5, [.int (nI z), .int (nI t), .ref s1, .ref s2, .ref s3]))] H := hP
                      have hD : va_D A [(y3, ai g 24 P3), (s1, ai g 6 K), (s2, ai g 6 L), (s3, ai g 96 V), (lw, .inr (2, [.ref l1, .ref l2, .ref l3, .int kn, .int xo, .ref l4])), (l1, ai g 72 F1), (sy, .inr (6, [.ref y1, .ref y2, .ref y3, .ref lw, .int chg, .ref tr])), (y1, ai g 168 S1), (sk, .inr (5, [.int (nI z), .int (nI t), .ref s1, .ref s2, .ref s3]))] := hD
                      have hah := ah_lt q
                      refine k_ald (18 * u + 2 * ov + (ah q)) rfl (by omega) hx hb hE hP 5 rfl (by decide) dX6_findStrange_89 ?_
                      refine lv_topi (fun x6 ex6 => ?_)
                      refine lv_istore (lv' := [(6, .int x6), (0, .ref sy), (1, .ref sk), (2, .int (nI k)), (3, .int (nI q)), (4, .int (nI ov)), (5, .int (nI u))]) hx hb dX6_findStrange_90 hl (by decide) rfl (fun ls hl => ?_)
                      refine lv_aload_n hx hb dX6_findStrange_92 rfl (lv_at hl 2 rfl) ?_
                      refine va_get (D := g.1) (ci := 5) (v := .ref s3) (C := RX5) (T := TX5) (N := 5) hx hb hts q_X6_findStrange_g_f5 hown hE.1 hP 8 rfl rfl 4 (by decide) (hts (.fieldLink RX6 94 "SoundLaws$Stock" "words" "[I") q_X6_findStrange_g_11) (fun _ h9 => h9) rfl dX6_findStrange_93 ?_
                      refine lv_iload_n hx hb dX6_findStrange_96 rfl (lv_at hl 3 rfl) ?_
                      refine lv_iload hx hb dX6_findStrange_97 (lv_at hl 6 rfl) ?_
                      refine k_ci (wr := [(y3, ai g 24 P3), (s1, ai g 6 K), (s2, ai g 6 L), (s3, ai g 96 V), (lw, .inr (2, [.ref l1, .ref l2, .ref l3, .int kn, .int xo, .ref l4])), (l1, ai g 72 F1), (sy, .inr (6, [.ref y1, .ref y2, .ref y3, .ref lw, .int chg, .ref tr])), (y1, ai g 168 S1), (sk, .inr (5, [.int (nI z), .int (nI t), .ref s1, .ref s2, .ref s3]))]) hP hD hS hA [] [0, 1, 2, 3, 4, 5, 6, 7, 8] rfl rfl (by decide) (by decide) (va_runSN (As := [.int (nI k), .int (nI u)]) (rest := [.ref s3]) ⟨hx, hb, hml, hown, hts⟩ (c_X8_wordAt_g l g k u  H.size) ⟨va_cnB 2 hts gX6_findStrange_X8_wordAt_n97 rfl rfl rfl (hE.nw 12 rfl) (hts (.initialized RX8) q_X6_findStrange_g_8) (by decide +kernel) ⟨Nat.le_of_ble_eq_true rfl, Nat.le_of_ble_eq_true rfl⟩, (hts (.static yX8_wordAt) q_X6_findStrange_g_12), trivial⟩ (k_preS hE hZ hP hD hS hA [] rfl (by decide)) rfl rfl hl.1 rfl (lv_room (Nat.le_of_ble_eq_true rfl)) dX6_findStrange_99 ⟨Nat.le_of_ble_eq_true rfl, Nat.le_of_ble_eq_true rfl⟩) (fun r_13 w1 H locs hw hP hD hS => ?_)
                      obtain ⟨rfl, rfl⟩ := hw
                      have hP : va_P g.1 vwCl [(y3, ai g 24 P3), (s1, ai g 6 K), (s2, ai g 6 L), (s3, ai g 96 V), (lw, .inr (2, [.ref l1, .ref l2, .ref l3, .int kn, .int xo, .ref l4])), (l1, ai g 72 F1), (sy, .inr (6, [.ref y1, .ref y2, .ref y3, .ref lw, .int chg, .ref tr])), (y1, ai g 168 S1), (sk, .inr (5, [.int (nI z), .int (nI t), .ref s1, .ref s2, .ref s3]))] H := hP
                      have hD : va_D A [(y3, ai g 24 P3), (s1, ai g 6 K), (s2, ai g 6 L), (s3, ai g 96 V), (lw, .inr (2, [.ref l1, .ref l2, .ref l3, .int kn, .int xo, .ref l4])), (l1, ai g 72 F1), (sy, .inr (6, [.ref y1, .ref y2, .ref y3, .ref lw, .int chg, .ref tr])), (y1, ai g 168 S1), (sk, .inr (5, [.int (nI z), .int (nI t), .ref s1, .ref s2, .ref s3]))] := hD
                      refine lv_iload_n hx hb dX6_findStrange_102 rfl (lv_at hl 4 rfl) ?_
                      refine lv_iadd hx hb dX6_findStrange_103 ?_
                      refine k_ald (16 * k + 4 * u + q) (nI_add _ _) (by omega) hx hb hE hP 3 rfl (by decide) dX6_findStrange_104 ?_
                      refine lv_topi (fun x7 ex7 => ?_)
                      refine lv_istore (lv' := [(7, .int x7), (6, .int x6), (0, .ref sy), (1, .ref sk), (2, .int (nI k)), (3, .int (nI q)), (4, .int (nI ov)), (5, .int (nI u))]) hx hb dX6_findStrange_105 hl (by decide) rfl (fun ls hl => ?_)
                      refine lv_iload hx hb dX6_findStrange_107 (lv_at hl 1 rfl) ?_
                      refine lv_iconst (v := (-1)) hx hb dX6_findStrange_109 (by decide) ?_
                      refine lv_icmp_eq (tgt := 135) hx hb dX6_findStrange_110 (by decide) (fun c110_15 => ?_) (fun c110_15 => ?_)
                      · skip
                        refine lv_iinc (v := (nI (u + 1))) (lv' := [(5, .int (nI (u + 1))), (7, .int x7), (6, .int x6), (0, .ref sy), (1, .ref sk), (2, .int (nI k)), (3, .int (nI q)), (4, .int (nI ov))]) hx hb dX6_findStrange_135 hl (k := 7) rfl (nI_1 _) (by decide) rfl (fun ls hl => ?_)
                        refine lv_goto (tgt := 62) hx hb dX6_findStrange_138 (by decide) ?_
                        exact ih62 (u + 1) _ (by omega) (by omega) _ _ _ hP hD hS (lv_sub hl [3, 4, 5, 6, 7, 0] rfl)
                      · skip
                        refine lv_iload hx hb dX6_findStrange_113 (lv_at hl 1 rfl) ?_
                        refine lv_iload hx hb dX6_findStrange_115 (lv_at hl 0 rfl) ?_
                        refine lv_icmp_eq (tgt := 135) hx hb dX6_findStrange_117 (by decide) (fun c117_16 => ?_) (fun c117_16 => ?_)
                        · skip
                          refine lv_iinc (v := (nI (u + 1))) (lv' := [(5, .int (nI (u + 1))), (7, .int x7), (6, .int x6), (0, .ref sy), (1, .ref sk), (2, .int (nI k)), (3, .int (nI q)), (4, .int (nI ov))]) hx hb dX6_findStrange_135 hl (k := 7) rfl (nI_1 _) (by decide) rfl (fun ls hl => ?_)
                          refine lv_goto (tgt := 62) hx hb dX6_findStrange_138 (by decide) ?_
                          exact ih62 (u + 1) _ (by omega) (by omega) _ _ _ hP hD hS (lv_sub hl [3, 4, 5, 6, 7, 0] rfl)
                        · skip
                          refine lv_aload_n hx hb dX6_findStrange_120 rfl (lv_at hl 2 rfl) ?_
                          refine va_get (D := g.1) (ci := 6) (v := .ref y3) (C := RX6) (T := TX6) (N := 6) hx hb hts q_X6_findStrange_g_f6 hown hE.1 hP 6 rfl rfl 2 (by decide) (hts (.fieldLink RX6 18 "SoundLaws$Study" "strangePlaces" "[I") q_X6_findStrange_g_13) (fun _ h9 => h9) rfl dX6_findStrange_121 ?_
                          refine lv_iload_n hx hb dX6_findStrange_124 rfl (lv_at hl 4 rfl) ?_
                          refine lv_iconst (v := 4) hx hb dX6_findStrange_125 (by decide) ?_
                          refine lv_imul hx hb dX6_findStrange_126 ?_
                          refine lv_iload hx hb dX6_findStrange_127 (lv_at hl 7 rfl) ?_
                          refine lv_iadd hx hb dX6_findStrange_129 ?_
                          refine lv_dup2_11 hx hb dX6_findStrange_130 rfl rfl ?_
                          refine k_ald (4 * k + u) (by rw [show (4 : Int32) = nI 4 from rfl, pk_mul, nI_add, Nat.mul_comm]) (by omega) hx hb hE hP 0 rfl (by decide) dX6_findStrange_131 ?_
                          refine lv_iconst (v := 1) hx hb dX6_findStrange_132 (by decide) ?_
                          refine lv_iadd hx hb dX6_findStrange_133 ?_
                          refine lv_topi (fun x_17 ex_17 => ?_)
                          refine k_ast (x := x_17) (4 * k + u) (by rw [show (4 : Int32) = nI 4 from rfl, pk_mul, nI_add, Nat.mul_comm]) (by omega) hx hb hE hP hD hS 0 rfl (by decide) dX6_findStrange_134 (fun H locs hP hD hS => ?_)
                          have hP : va_P g.1 vwCl [(y3, ai g 24 (upd P3 (4 * k + u) x_17)), (s1, ai g 6 K), (s2, ai g 6 L), (s3, ai g 96 V), (lw, .inr (2, [.ref l1, .ref l2, .ref l3, .int kn, .int xo, .ref l4])), (l1, ai g 72 F1), (sy, .inr (6, [.ref y1, .ref y2, .ref y3, .ref lw, .int chg, .ref tr])), (y1, ai g 168 S1), (sk, .inr (5, [.int (nI z), .int (nI t), .ref s1, .ref s2, .ref s3]))] H := hP
                          have hD : va_D A [(y3, ai g 24 (upd P3 (4 * k + u) x_17)), (s1, ai g 6 K), (s2, ai g 6 L), (s3, ai g 96 V), (lw, .inr (2, [.ref l1, .ref l2, .ref l3, .int kn, .int xo, .ref l4])), (l1, ai g 72 F1), (sy, .inr (6, [.ref y1, .ref y2, .ref y3, .ref lw, .int chg, .ref tr])), (y1, ai g 168 S1), (sk, .inr (5, [.int (nI z), .int (nI t), .ref s1, .ref s2, .ref s3]))] := hD
                          refine lv_iinc (v := (nI (u + 1))) (lv' := [(5, .int (nI (u + 1))), (7, .int x7), (6, .int x6), (0, .ref sy), (1, .ref sk), (2, .int (nI k)), (3, .int (nI q)), (4, .int (nI ov))]) hx hb dX6_findStrange_135 hl (k := 7) rfl (nI_1 _) (by decide) rfl (fun ls hl => ?_)
                          refine lv_goto (tgt := 62) hx hb dX6_findStrange_138 (by decide) ?_
                          exact ih62 (u + 1) _ (by omega) (by omega) _ _ _ hP hD hS (lv_sub hl [3, 4, 5, 6, 7, 0] rfl)
                exact loop62 _ 0 T3 (Nat.zero_le t) (Nat.lt_succ_self _) _ _ _ hP hD hS (lv_sub hl [2, 3, 4, 5, 1, 0] rfl)
          exact loop40 _ 0 M3 (Nat.zero_le n) (Nat.lt_succ_self _) _ _ _ hP hD hS (lv_sub hl [1, 2, 3, 0] rfl)
        · skip
          refine W.widen (k := 0) (n := 0) (Nat.le_of_ble_eq_true rfl) (Nat.le_of_ble_eq_true rfl) ?_
          exact k_rv hx hb hr hlocks hS hP hD ⟨M3, rfl⟩ dX6_findStrange_37
      · skip
        have hu9 := lt_of_nle (k := 4) (n := u) (by decide) (by omega) c4_1
        refine lv_aload_n hx hb dX6_findStrange_7 rfl (lv_at hl 0 rfl) ?_
        refine va_get (D := g.1) (ci := 6) (v := .ref y3) (C := RX6) (T := TX6) (N := 6) hx hb hts q_X6_findStrange_g_f6 hown hE.1 hP 0 rfl rfl 2 (by decide) (hts (.fieldLink RX6 18 "SoundLaws$Study" "strangePlaces" "[I") q_X6_findStrange_g_13) (fun _ h9 => h9) rfl dX6_findStrange_8 ?_
        refine lv_iload_n hx hb dX6_findStrange_11 rfl (lv_at hl 2 rfl) ?_
        refine lv_iconst (v := 4) hx hb dX6_findStrange_12 (by decide) ?_
        refine lv_imul hx hb dX6_findStrange_13 ?_
        refine lv_iload_n hx hb dX6_findStrange_14 rfl (lv_at hl 3 rfl) ?_
        refine lv_iadd hx hb dX6_findStrange_15 ?_
        refine lv_iconst (v := 0) hx hb dX6_findStrange_16 (by decide) ?_
        refine k_ast (x := 0) (4 * k + u) (by rw [show (4 : Int32) = nI 4 from rfl, pk_mul, nI_add, Nat.mul_comm]) (by omega) hx hb hE hP hD hS 2 rfl (by decide) dX6_findStrange_17 (fun H locs hP hD hS => ?_)
        have hP : va_P g.1 vwCl [(sy, .inr (6, [.ref y1, .ref y2, .ref y3, .ref lw, .int chg, .ref tr])), (y1, ai g 168 S1), (y3, ai g 24 (upd M3 (4 * k + u) 0)), (sk, .inr (5, [.int (nI z), .int (nI t), .ref s1, .ref s2, .ref s3])), (s1, ai g 6 K), (s2, ai g 6 L), (s3, ai g 96 V), (lw, .inr (2, [.ref l1, .ref l2, .ref l3, .int kn, .int xo, .ref l4])), (l1, ai g 72 F1)] H := hP
        have hD : va_D A [(sy, .inr (6, [.ref y1, .ref y2, .ref y3, .ref lw, .int chg, .ref tr])), (y1, ai g 168 S1), (y3, ai g 24 (upd M3 (4 * k + u) 0)), (sk, .inr (5, [.int (nI z), .int (nI t), .ref s1, .ref s2, .ref s3])), (s1, ai g 6 K), (s2, ai g 6 L), (s3, ai g 96 V), (lw, .inr (2, [.ref l1, .ref l2, .ref l3, .int kn, .int xo, .ref l4])), (l1, ai g 72 F1)] := hD
        refine lv_iinc (v := (nI (u + 1))) (lv' := [(3, .int (nI (u + 1))), (0, .ref sy), (1, .ref sk), (2, .int (nI k))]) hx hb dX6_findStrange_18 hl (k := 3) rfl (nI_1 _) (by decide) rfl (fun ls hl => ?_)
        refine lv_goto (tgt := 2) hx hb dX6_findStrange_21 (by decide) ?_
        exact ih2 (u + 1) _ (by omega) (by omega) _ _ _ hP hD hS (lv_sub hl [1, 2, 3, 0] rfl)
  exact loop2 _ 0 S3 (Nat.zero_le 4) (Nat.lt_succ_self _) _ _ _ hP hD hS (lv_sub hl [1, 2, 3, 0] rfl)
def po_X6_renew_g (g : GG) (sy : Nat) (y1 : Nat) (y2 : Nat) (y3 : Nat) (lw : Nat) (tr : Nat) (chg : Int32) (S1 : Nat → Int32) (S2 : Nat → Int32) (S3 : Nat → Int32) (sk : Nat) (s1 : Nat) (s2 : Nat) (s3 : Nat) (z : Nat) (t : Nat) (K : Nat → Int32) (L : Nat → Int32) (V : Nat → Int32) (tg : Int32) (t1 : Nat) (t2 : Nat) (f : Nat → Int32) (fl : Nat → Int32) (l1 : Nat) (l2 : Nat) (l3 : Nat) (l4 : Nat) (kn : Int32) (xo : Int32) (F1 : Nat → Int32) (F2 : Nat → Int32) (F3 : Nat → Int32) (F4 : Nat → Int32) : va_W → Prop := fun w => ∃ (c2 : Int32) (k2 : Int32) (x2 : Int32) (T1 : Nat → Int32) (T2 : Nat → Int32) (T3 : Nat → Int32) (f2 : Nat → Int32) (fl2 : Nat → Int32) (G1 : Nat → Int32) (G2 : Nat → Int32) (G3 : Nat → Int32) (G4 : Nat → Int32), w = [(sy, .inr (6, [.ref y1, .ref y2, .ref y3, .ref lw, .int c2, .ref tr])), (y1, ai g 168 T1), (y2, ai g 6 T2), (y3, ai g 24 T3), (sk, .inr (5, [.int (nI z), .int (nI t), .ref s1, .ref s2, .ref s3])), (s1, ai g 6 K), (s2, ai g 6 L), (s3, ai g 96 V), (tr, .inr (7, [.int (nI t), .ref t1, .ref t2])), (t1, ai g 7 f2), (t2, ai g 63 fl2), (lw, .inr (2, [.ref l1, .ref l2, .ref l3, .int k2, .int x2, .ref l4])), (l1, ai g 72 G1), (l2, ai g 72 G2), (l3, ai g 72 G3), (l4, ai g 648 G4)] ∧ (rng 168 9 T1) ∧ (rng 7 9 f2)
theorem q_X6_renew_g_f6 : ∀ w ∈ u_ws RX6 TX6 6, w ∈ wsX6_renew := by decide +kernel
theorem q_X6_renew_g_1 : (Cond.fieldLink RX6 31 "SoundLaws$Study" "tree" "LSoundLaws$Tree;") ∈ wsX6_renew := by decide +kernel
theorem q_X6_renew_g_f5 : ∀ w ∈ u_ws RX5 TX5 5, w ∈ wsX6_renew := by decide +kernel
theorem q_X6_renew_g_3 : (Cond.fieldLink RX6 35 "SoundLaws$Stock" "tongues" "I") ∈ wsX6_renew := by decide +kernel
theorem q_X6_renew_g_4 : (Cond.fieldLink RX6 45 "SoundLaws$Study" "changesOfAll" "I") ∈ wsX6_renew := by decide +kernel
theorem q_X6_renew_g_5 : (Cond.fieldLink RX6 48 "SoundLaws$Stock" "size" "I") ∈ wsX6_renew := by decide +kernel
theorem q_X6_renew_g_6 : (Cond.fieldLink RX6 24 "SoundLaws$Study" "laws" "LSoundLaws$Laws;") ∈ wsX6_renew := by decide +kernel
set_option maxHeartbeats 1500000 in
set_option maxRecDepth 100000 in
theorem c_X6_renew_g (l : Launch) (g : GG) (sy : Nat) (y1 : Nat) (y2 : Nat) (y3 : Nat) (lw : Nat) (tr : Nat) (chg : Int32) (S1 : Nat → Int32) (S2 : Nat → Int32) (S3 : Nat → Int32) (sk : Nat) (s1 : Nat) (s2 : Nat) (s3 : Nat) (z : Nat) (t : Nat) (K : Nat → Int32) (L : Nat → Int32) (V : Nat → Int32) (tg : Int32) (t1 : Nat) (t2 : Nat) (f : Nat → Int32) (fl : Nat → Int32) (l1 : Nat) (l2 : Nat) (l3 : Nat) (l4 : Nat) (kn : Int32) (xo : Int32) (F1 : Nat → Int32) (F2 : Nat → Int32) (F3 : Nat → Int32) (F4 : Nat → Int32) (hz : z ≤ 6) (hzt : 0 < z → 2 ≤ t) (ht4 : t ≤ 4) (hK : rng 6 5 K) (hL : rng 6 5 L) (hV : rng 96 9 V) (hS1 : rng 168 9 S1) (hf : rng 7 9 f) (sz : Nat) : MetV l yX6_renew wsX6_renew ({ frames := 4, cells := 0, slots := 0, locals := 94 }) g [.ref sy, .ref sk] [(sy, .inr (6, [.ref y1, .ref y2, .ref y3, .ref lw, .int chg, .ref tr])), (y1, ai g 168 S1), (y2, ai g 6 S2), (y3, ai g 24 S3), (sk, .inr (5, [.int (nI z), .int (nI t), .ref s1, .ref s2, .ref s3])), (s1, ai g 6 K), (s2, ai g 6 L), (s3, ai g 96 V), (tr, .inr (7, [.int tg, .ref t1, .ref t2])), (t1, ai g 7 f), (t2, ai g 63 fl), (lw, .inr (2, [.ref l1, .ref l2, .ref l3, .int kn, .int xo, .ref l4])), (l1, ai g 72 F1), (l2, ai g 72 F2), (l3, ai g 72 F3), (l4, ai g 648 F4)] sz (po_X6_renew_g g sy y1 y2 y3 lw tr chg S1 S2 S3 sk s1 s2 s3 z t K L V tg t1 t2 f fl l1 l2 l3 l4 kn xo F1 F2 F3 F4) 0 0 := by
  refine k_of (l := l) (y := yX6_renew) (ws := wsX6_renew) (rm := { frames := 4, cells := 0, slots := 0, locals := 94 }) (mc := 0) (ms := 0) (av := [.ref sy, .ref sk]) (g := g) (wc := [(sy, .inr (6, [.ref y1, .ref y2, .ref y3, .ref lw, .int chg, .ref tr])), (y1, ai g 168 S1), (y2, ai g 6 S2), (y3, ai g 24 S3), (sk, .inr (5, [.int (nI z), .int (nI t), .ref s1, .ref s2, .ref s3])), (s1, ai g 6 K), (s2, ai g 6 L), (s3, ai g 96 V), (tr, .inr (7, [.int tg, .ref t1, .ref t2])), (t1, ai g 7 f), (t2, ai g 63 fl), (lw, .inr (2, [.ref l1, .ref l2, .ref l3, .int kn, .int xo, .ref l4])), (l1, ai g 72 F1), (l2, ai g 72 F2), (l3, ai g 72 F3), (l4, ai g 648 F4)]) (Qc := fun A => va_Qv (po_X6_renew_g g sy y1 y2 y3 lw tr chg S1 S2 S3 sk s1 s2 s3 z t K L V tg t1 t2 f fl l1 l2 l3 l4 kn xo F1 F2 F3 F4) (bk g A) A) (cc := cX6_renew) (maxL := 3) (ret := none) (by decide) rfl (Nat.le_of_ble_eq_true rfl) ?_ sz
  intro p e s m below meth c hx hb hr hts hown hlocks hnm hml A hA hE hZ hP hD hS ls hl
  have hown : s.vm.findClass RX6 = some m.cls := hown
  have hl : lv_has ls 3 [(0, .ref sy), (1, .ref sk)] := hl
  refine lv_aload_n hx hb dX6_renew_0 rfl (lv_at hl 0 rfl) ?_
  refine va_get (D := g.1) (ci := 6) (v := .ref tr) (C := RX6) (T := TX6) (N := 6) hx hb hts q_X6_renew_g_f6 hown hE.1 hP 0 rfl rfl 5 (by decide) (hts (.fieldLink RX6 31 "SoundLaws$Study" "tree" "LSoundLaws$Tree;") q_X6_renew_g_1) (fun _ h9 => h9) rfl dX6_renew_1 ?_
  refine lv_aload_n hx hb dX6_renew_4 rfl (lv_at hl 1 rfl) ?_
  refine va_get (D := g.1) (ci := 5) (v := .int (nI t)) (C := RX5) (T := TX5) (N := 5) hx hb hts q_X6_renew_g_f5 hown hE.1 hP 4 rfl rfl 1 (by decide) (hts (.fieldLink RX6 35 "SoundLaws$Stock" "tongues" "I") q_X6_renew_g_3) (fun _ h9 => h9) rfl dX6_renew_5 ?_
  refine k_cv (wr := [(sy, .inr (6, [.ref y1, .ref y2, .ref y3, .ref lw, .int chg, .ref tr])), (y1, ai g 168 S1), (y2, ai g 6 S2), (y3, ai g 24 S3), (sk, .inr (5, [.int (nI z), .int (nI t), .ref s1, .ref s2, .ref s3])), (s1, ai g 6 K), (s2, ai g 6 L), (s3, ai g 96 V), (t1, ai g 7 f), (t2, ai g 63 fl), (lw, .inr (2, [.ref l1, .ref l2, .ref l3, .int kn, .int xo, .ref l4])), (l1, ai g 72 F1), (l2, ai g 72 F2), (l3, ai g 72 F3), (l4, ai g 648 F4)]) hP hD hS hA [8] [0, 1, 2, 3, 4, 5, 6, 7, 9, 10, 11, 12, 13, 14, 15] rfl rfl (by decide) (by decide) (va_runV (As := [.int (nI t)]) (rest := []) ⟨hx, hb, hml, hown, hts⟩ (c_X7_plant l g tr t1 t2 tg (nI t)  s.heap.size) (cwV 1 hts gX6_renew_X7_plant rfl rfl rfl (by decide +kernel) ⟨Nat.le_of_ble_eq_true rfl, Nat.le_of_ble_eq_true rfl⟩) (k_preV hE hZ hP hD hS hA [8] rfl (by decide) (va_recv hE.1 hP (ci := 7) (q0 := 8) rfl rfl)) rfl rfl hl.1 rfl (lv_room (Nat.le_of_ble_eq_true rfl)) dX6_renew_8 ⟨Nat.le_of_ble_eq_true rfl, Nat.le_of_ble_eq_true rfl⟩) (fun w1 H locs hw hP hD hS => ?_)
  obtain rfl := hw
  have hP : va_P g.1 vwCl [(sy, .inr (6, [.ref y1, .ref y2, .ref y3, .ref lw, .int chg, .ref tr])), (y1, ai g 168 S1), (y2, ai g 6 S2), (y3, ai g 24 S3), (sk, .inr (5, [.int (nI z), .int (nI t), .ref s1, .ref s2, .ref s3])), (s1, ai g 6 K), (s2, ai g 6 L), (s3, ai g 96 V), (t1, ai g 7 f), (t2, ai g 63 fl), (lw, .inr (2, [.ref l1, .ref l2, .ref l3, .int kn, .int xo, .ref l4])), (l1, ai g 72 F1), (l2, ai g 72 F2), (l3, ai g 72 F3), (l4, ai g 648 F4), (tr, .inr (7, [.int (nI t), .ref t1, .ref t2]))] H := hP
  have hD : va_D A [(sy, .inr (6, [.ref y1, .ref y2, .ref y3, .ref lw, .int chg, .ref tr])), (y1, ai g 168 S1), (y2, ai g 6 S2), (y3, ai g 24 S3), (sk, .inr (5, [.int (nI z), .int (nI t), .ref s1, .ref s2, .ref s3])), (s1, ai g 6 K), (s2, ai g 6 L), (s3, ai g 96 V), (t1, ai g 7 f), (t2, ai g 63 fl), (lw, .inr (2, [.ref l1, .ref l2, .ref l3, .int kn, .int xo, .ref l4])), (l1, ai g 72 F1), (l2, ai g 72 F2), (l3, ai g 72 F3), (l4, ai g 648 F4), (tr, .inr (7, [.int (nI t), .ref t1, .ref t2]))] := hD
  refine lv_aload_n hx hb dX6_renew_11 rfl (lv_at hl 0 rfl) ?_
  refine lv_iconst (v := 0) hx hb dX6_renew_12 (by decide) ?_
  refine va_put (D := g.1) (ci := 6) (v := .int 0) (ty := .int) (C := RX6) (T := TX6) (N := 6) hx hb hts q_X6_renew_g_f6 tyX6 tyX6_ok nmX6 hown hE.1 hP hD hS 0 rfl rfl 4 (by decide) (hts (.fieldLink RX6 45 "SoundLaws$Study" "changesOfAll" "I") q_X6_renew_g_4) (fun _ h9 => h9) rfl (by decide +kernel) rfl rfl (Nat.le_of_ble_eq_true rfl) dX6_renew_13 (fun H locs hP hD hS => ?_)
  have hP : va_P g.1 vwCl [(sy, .inr (6, [.ref y1, .ref y2, .ref y3, .ref lw, .int 0, .ref tr])), (y1, ai g 168 S1), (y2, ai g 6 S2), (y3, ai g 24 S3), (sk, .inr (5, [.int (nI z), .int (nI t), .ref s1, .ref s2, .ref s3])), (s1, ai g 6 K), (s2, ai g 6 L), (s3, ai g 96 V), (t1, ai g 7 f), (t2, ai g 63 fl), (lw, .inr (2, [.ref l1, .ref l2, .ref l3, .int kn, .int xo, .ref l4])), (l1, ai g 72 F1), (l2, ai g 72 F2), (l3, ai g 72 F3), (l4, ai g 648 F4), (tr, .inr (7, [.int (nI t), .ref t1, .ref t2]))] H := hP
  have hD : va_D A [(sy, .inr (6, [.ref y1, .ref y2, .ref y3, .ref lw, .int 0, .ref tr])), (y1, ai g 168 S1), (y2, ai g 6 S2), (y3, ai g 24 S3), (sk, .inr (5, [.int (nI z), .int (nI t), .ref s1, .ref s2, .ref s3])), (s1, ai g 6 K), (s2, ai g 6 L), (s3, ai g 96 V), (t1, ai g 7 f), (t2, ai g 63 fl), (lw, .inr (2, [.ref l1, .ref l2, .ref l3, .int kn, .int xo, .ref l4])), (l1, ai g 72 F1), (l2, ai g 72 F2), (l3, ai g 72 F3), (l4, ai g 648 F4), (tr, .inr (7, [.int (nI t), .ref t1, .ref t2]))] := hD
  refine lv_iconst (v := 0) hx hb dX6_renew_16 (by decide) ?_
  refine lv_istore_n (lv' := [(2, .int 0), (0, .ref sy), (1, .ref sk)]) hx hb dX6_renew_17 rfl hl (by decide) rfl (fun ls hl => ?_)
  have loop18 : ∀ (fu : Nat) (a : Nat) (c2 : Int32) (T1 T2 f2 fl2 : Nat → Int32), (ha : a ≤ z) → (h1 : rng 168 9 T1) → (h2 : rng 7 9 f2) → z - a < fu → ∀ (H : Heap) (locs : List Loc) (ls : Array Slot), va_P g.1 vwCl [(sy, .inr (6, [.ref y1, .ref y2, .ref y3, .ref lw, .int c2, .ref tr])), (y1, ai g 168 T1), (y2, ai g 6 T2), (y3, ai g 24 S3), (sk, .inr (5, [.int (nI z), .int (nI t), .ref s1, .ref s2, .ref s3])), (s1, ai g 6 K), (s2, ai g 6 L), (s3, ai g 96 V), (t1, ai g 7 f2), (t2, ai g 63 fl2), (lw, .inr (2, [.ref l1, .ref l2, .ref l3, .int kn, .int xo, .ref l4])), (l1, ai g 72 F1), (l2, ai g 72 F2), (l3, ai g 72 F3), (l4, ai g 648 F4), (tr, .inr (7, [.int (nI t), .ref t1, .ref t2]))] H → va_D A [(sy, .inr (6, [.ref y1, .ref y2, .ref y3, .ref lw, .int c2, .ref tr])), (y1, ai g 168 T1), (y2, ai g 6 T2), (y3, ai g 24 S3), (sk, .inr (5, [.int (nI z), .int (nI t), .ref s1, .ref s2, .ref s3])), (s1, ai g 6 K), (s2, ai g 6 L), (s3, ai g 96 V), (t1, ai g 7 f2), (t2, ai g 63 fl2), (lw, .inr (2, [.ref l1, .ref l2, .ref l3, .int kn, .int xo, .ref l4])), (l1, ai g 72 F1), (l2, ai g 72 F2), (l3, ai g 72 F3), (l4, ai g 648 F4), (tr, .inr (7, [.int (nI t), .ref t1, .ref t2]))] → va_S A s.heap H locs → lv_has ls 3 [(0, .ref sy), (1, .ref sk), (2, .int (nI a))] → W p l e ({ frames := 4, cells := 0, slots := 0, locals := 94 }) s m [.ref sy, .ref sk].toArray below meth c H locs 0 0 (MQ below (va_Qv (po_X6_renew_g g sy y1 y2 y3 lw tr chg S1 S2 S3 sk s1 s2 s3 z t K L V tg t1 t2 f fl l1 l2 l3 l4 kn xo F1 F2 F3 F4) (bk g A) A) [.ref sy, .ref sk].toArray s 0 0 A) (F0 m 18 ls []) := by
    intro fu
    induction fu with
    | zero => intro a c2 T1 T2 f2 fl2 ha h1 h2 hfu; exact absurd hfu (Nat.not_lt_zero _)
    | succ fu ih =>
      intro a c2 T1 T2 f2 fl2 ha h1 h2 hfu H locs ls hP hD hS hl
      have ih18 := ih
      refine lv_iload_n hx hb dX6_renew_18 rfl (lv_at hl 2 rfl) ?_
      refine lv_aload_n hx hb dX6_renew_19 rfl (lv_at hl 1 rfl) ?_
      refine va_get (D := g.1) (ci := 5) (v := .int (nI z)) (C := RX5) (T := TX5) (N := 5) hx hb hts q_X6_renew_g_f5 hown hE.1 hP 4 rfl rfl 0 (by decide) (hts (.fieldLink RX6 48 "SoundLaws$Stock" "size" "I") q_X6_renew_g_5) (fun _ h9 => h9) rfl dX6_renew_20 ?_
      refine lv_icmp_ge (tgt := 38) hx hb dX6_renew_23 (by decide) (fun c23_2 => ?_) (fun c23_2 => ?_)
      · skip
        refine lv_aload_n hx hb dX6_renew_38 rfl (lv_at hl 0 rfl) ?_
        refine va_get (D := g.1) (ci := 6) (v := .ref lw) (C := RX6) (T := TX6) (N := 6) hx hb hts q_X6_renew_g_f6 hown hE.1 hP 0 rfl rfl 3 (by decide) (hts (.fieldLink RX6 24 "SoundLaws$Study" "laws" "LSoundLaws$Laws;") q_X6_renew_g_6) (fun _ h9 => h9) rfl dX6_renew_39 ?_
        refine k_cv (wr := [(sy, .inr (6, [.ref y1, .ref y2, .ref y3, .ref lw, .int c2, .ref tr])), (y1, ai g 168 T1), (y2, ai g 6 T2), (y3, ai g 24 S3), (sk, .inr (5, [.int (nI z), .int (nI t), .ref s1, .ref s2, .ref s3])), (s1, ai g 6 K), (s2, ai g 6 L), (s3, ai g 96 V), (t1, ai g 7 f2), (t2, ai g 63 fl2), (l1, ai g 72 F1), (l2, ai g 72 F2), (l3, ai g 72 F3), (tr, .inr (7, [.int (nI t), .ref t1, .ref t2]))]) hP hD hS hA [10, 14] [0, 1, 2, 3, 4, 5, 6, 7, 8, 9, 11, 12, 13, 15] rfl rfl (by decide) (by decide) (va_runV (As := []) (rest := []) ⟨hx, hb, hml, hown, hts⟩ (c_X2_clear_g l g lw l1 l2 l3 l4 kn xo F4  H.size) (cwV 0 hts gX6_renew_X2_clear rfl rfl rfl (by decide +kernel) ⟨Nat.le_of_ble_eq_true rfl, Nat.le_of_ble_eq_true rfl⟩) (k_preV hE hZ hP hD hS hA [10, 14] rfl (by decide) (va_recv hE.1 hP (ci := 2) (q0 := 10) rfl rfl)) rfl rfl hl.1 rfl (lv_room (Nat.le_of_ble_eq_true rfl)) dX6_renew_42 ⟨Nat.le_of_ble_eq_true rfl, Nat.le_of_ble_eq_true rfl⟩) (fun w1 H locs hw hP hD hS => ?_)
        obtain ⟨G4_4, rfl⟩ := hw
        have hP : va_P g.1 vwCl [(sy, .inr (6, [.ref y1, .ref y2, .ref y3, .ref lw, .int c2, .ref tr])), (y1, ai g 168 T1), (y2, ai g 6 T2), (y3, ai g 24 S3), (sk, .inr (5, [.int (nI z), .int (nI t), .ref s1, .ref s2, .ref s3])), (s1, ai g 6 K), (s2, ai g 6 L), (s3, ai g 96 V), (t1, ai g 7 f2), (t2, ai g 63 fl2), (l1, ai g 72 F1), (l2, ai g 72 F2), (l3, ai g 72 F3), (tr, .inr (7, [.int (nI t), .ref t1, .ref t2])), (lw, .inr (2, [.ref l1, .ref l2, .ref l3, .int kn, .int xo, .ref l4])), (l4, ai g 648 G4_4)] H := hP
        have hD : va_D A [(sy, .inr (6, [.ref y1, .ref y2, .ref y3, .ref lw, .int c2, .ref tr])), (y1, ai g 168 T1), (y2, ai g 6 T2), (y3, ai g 24 S3), (sk, .inr (5, [.int (nI z), .int (nI t), .ref s1, .ref s2, .ref s3])), (s1, ai g 6 K), (s2, ai g 6 L), (s3, ai g 96 V), (t1, ai g 7 f2), (t2, ai g 63 fl2), (l1, ai g 72 F1), (l2, ai g 72 F2), (l3, ai g 72 F3), (tr, .inr (7, [.int (nI t), .ref t1, .ref t2])), (lw, .inr (2, [.ref l1, .ref l2, .ref l3, .int kn, .int xo, .ref l4])), (l4, ai g 648 G4_4)] := hD
        refine lv_iconst (v := 0) hx hb dX6_renew_45 (by decide) ?_
        refine lv_istore_n (lv' := [(2, .int 0), (0, .ref sy), (1, .ref sk)]) hx hb dX6_renew_46 rfl hl (by decide) rfl (fun ls hl => ?_)
        have loop47 : ∀ (fu : Nat) (b : Nat) (G4 : Nat → Int32), (hb9x : b ≤ z) → z - b < fu → ∀ (H : Heap) (locs : List Loc) (ls : Array Slot), va_P g.1 vwCl [(sy, .inr (6, [.ref y1, .ref y2, .ref y3, .ref lw, .int c2, .ref tr])), (y1, ai g 168 T1), (y2, ai g 6 T2), (y3, ai g 24 S3), (sk, .inr (5, [.int (nI z), .int (nI t), .ref s1, .ref s2, .ref s3])), (s1, ai g 6 K), (s2, ai g 6 L), (s3, ai g 96 V), (t1, ai g 7 f2), (t2, ai g 63 fl2), (l1, ai g 72 F1), (l2, ai g 72 F2), (l3, ai g 72 F3), (tr, .inr (7, [.int (nI t), .ref t1, .ref t2])), (lw, .inr (2, [.ref l1, .ref l2, .ref l3, .int kn, .int xo, .ref l4])), (l4, ai g 648 G4)] H → va_D A [(sy, .inr (6, [.ref y1, .ref y2, .ref y3, .ref lw, .int c2, .ref tr])), (y1, ai g 168 T1), (y2, ai g 6 T2), (y3, ai g 24 S3), (sk, .inr (5, [.int (nI z), .int (nI t), .ref s1, .ref s2, .ref s3])), (s1, ai g 6 K), (s2, ai g 6 L), (s3, ai g 96 V), (t1, ai g 7 f2), (t2, ai g 63 fl2), (l1, ai g 72 F1), (l2, ai g 72 F2), (l3, ai g 72 F3), (tr, .inr (7, [.int (nI t), .ref t1, .ref t2])), (lw, .inr (2, [.ref l1, .ref l2, .ref l3, .int kn, .int xo, .ref l4])), (l4, ai g 648 G4)] → va_S A s.heap H locs → lv_has ls 3 [(0, .ref sy), (1, .ref sk), (2, .int (nI b))] → W p l e ({ frames := 4, cells := 0, slots := 0, locals := 94 }) s m [.ref sy, .ref sk].toArray below meth c H locs 0 0 (MQ below (va_Qv (po_X6_renew_g g sy y1 y2 y3 lw tr chg S1 S2 S3 sk s1 s2 s3 z t K L V tg t1 t2 f fl l1 l2 l3 l4 kn xo F1 F2 F3 F4) (bk g A) A) [.ref sy, .ref sk].toArray s 0 0 A) (F0 m 47 ls []) := by
          intro fu
          induction fu with
          | zero => intro b G4 hb9x hfu; exact absurd hfu (Nat.not_lt_zero _)
          | succ fu ih =>
            intro b G4 hb9x hfu H locs ls hP hD hS hl
            have ih47 := ih
            refine lv_iload_n hx hb dX6_renew_47 rfl (lv_at hl 2 rfl) ?_
            refine lv_aload_n hx hb dX6_renew_48 rfl (lv_at hl 1 rfl) ?_
            refine va_get (D := g.1) (ci := 5) (v := .int (nI z)) (C := RX5) (T := TX5) (N := 5) hx hb hts q_X6_renew_g_f5 hown hE.1 hP 4 rfl rfl 0 (by decide) (hts (.fieldLink RX6 48 "SoundLaws$Stock" "size" "I") q_X6_renew_g_5) (fun _ h9 => h9) rfl dX6_renew_49 ?_
            refine lv_icmp_ge (tgt := 67) hx hb dX6_renew_52 (by decide) (fun c52_5 => ?_) (fun c52_5 => ?_)
            · skip
              refine lv_aload_n hx hb dX6_renew_67 rfl (lv_at hl 0 rfl) ?_
              refine va_get (D := g.1) (ci := 6) (v := .ref lw) (C := RX6) (T := TX6) (N := 6) hx hb hts q_X6_renew_g_f6 hown hE.1 hP 0 rfl rfl 3 (by decide) (hts (.fieldLink RX6 24 "SoundLaws$Study" "laws" "LSoundLaws$Laws;") q_X6_renew_g_6) (fun _ h9 => h9) rfl dX6_renew_68 ?_
              refine lv_aload_n hx hb dX6_renew_71 rfl (lv_at hl 1 rfl) ?_
              refine va_get (D := g.1) (ci := 5) (v := .int (nI t)) (C := RX5) (T := TX5) (N := 5) hx hb hts q_X6_renew_g_f5 hown hE.1 hP 4 rfl rfl 1 (by decide) (hts (.fieldLink RX6 35 "SoundLaws$Stock" "tongues" "I") q_X6_renew_g_3) (fun _ h9 => h9) rfl dX6_renew_72 ?_
              refine k_cv (wr := [(sy, .inr (6, [.ref y1, .ref y2, .ref y3, .ref lw, .int c2, .ref tr])), (y1, ai g 168 T1), (y2, ai g 6 T2), (y3, ai g 24 S3), (sk, .inr (5, [.int (nI z), .int (nI t), .ref s1, .ref s2, .ref s3])), (s1, ai g 6 K), (s2, ai g 6 L), (s3, ai g 96 V), (t1, ai g 7 f2), (t2, ai g 63 fl2), (tr, .inr (7, [.int (nI t), .ref t1, .ref t2]))]) hP hD hS hA [14, 10, 11, 12, 15] [0, 1, 2, 3, 4, 5, 6, 7, 8, 9, 13] rfl rfl (by decide) (by decide) (va_runV (As := [.int (nI t)]) (rest := []) ⟨hx, hb, hml, hown, hts⟩ (c_X2_settle_g l g lw l1 l2 l3 l4 kn xo F1 F2 F3 G4 t (by first | assumption | omega) H.size) (cwV 1 hts gX6_renew_X2_settle rfl rfl rfl (by decide +kernel) ⟨Nat.le_of_ble_eq_true rfl, Nat.le_of_ble_eq_true rfl⟩) (k_preV hE hZ hP hD hS hA [14, 10, 11, 12, 15] rfl (by decide) (va_recv hE.1 hP (ci := 2) (q0 := 14) rfl rfl)) rfl rfl hl.1 rfl (lv_room (Nat.le_of_ble_eq_true rfl)) dX6_renew_75 ⟨Nat.le_of_ble_eq_true rfl, Nat.le_of_ble_eq_true rfl⟩) (fun w1 H locs hw hP hD hS => ?_)
              obtain ⟨k2_7, x2_8, G1_9, G2_10, G3_11, rfl⟩ := hw
              have hP : va_P g.1 vwCl [(sy, .inr (6, [.ref y1, .ref y2, .ref y3, .ref lw, .int c2, .ref tr])), (y1, ai g 168 T1), (y2, ai g 6 T2), (y3, ai g 24 S3), (sk, .inr (5, [.int (nI z), .int (nI t), .ref s1, .ref s2, .ref s3])), (s1, ai g 6 K), (s2, ai g 6 L), (s3, ai g 96 V), (t1, ai g 7 f2), (t2, ai g 63 fl2), (tr, .inr (7, [.int (nI t), .ref t1, .ref t2])), (lw, .inr (2, [.ref l1, .ref l2, .ref l3, .int k2_7, .int x2_8, .ref l4])), (l1, ai g 72 G1_9), (l2, ai g 72 G2_10), (l3, ai g 72 G3_11), (l4, ai g 648 G4)] H := hP
              have hD : va_D A [(sy, .inr (6, [.ref y1, .ref y2, .ref y3, .ref lw, .int c2, .ref tr])), (y1, ai g 168 T1), (y2, ai g 6 T2), (y3, ai g 24 S3), (sk, .inr (5, [.int (nI z), .int (nI t), .ref s1, .ref s2, .ref s3])), (s1, ai g 6 K), (s2, ai g 6 L), (s3, ai g 96 V), (t1, ai g 7 f2), (t2, ai g 63 fl2), (tr, .inr (7, [.int (nI t), .ref t1, .ref t2])), (lw, .inr (2, [.ref l1, .ref l2, .ref l3, .int k2_7, .int x2_8, .ref l4])), (l1, ai g 72 G1_9), (l2, ai g 72 G2_10), (l3, ai g 72 G3_11), (l4, ai g 648 G4)] := hD
              refine lv_iconst (v := 0) hx hb dX6_renew_78 (by decide) ?_
              refine lv_istore_n (lv' := [(2, .int 0), (0, .ref sy), (1, .ref sk)]) hx hb dX6_renew_79 rfl hl (by decide) rfl (fun ls hl => ?_)
              have loop80 : ∀ (fu : Nat) (d : Nat) (T3 : Nat → Int32), (hd9x : d ≤ z) → z - d < fu → ∀ (H : Heap) (locs : List Loc) (ls : Array Slot), va_P g.1 vwCl [(sy, .inr (6, [.ref y1, .ref y2, .ref y3, .ref lw, .int c2, .ref tr])), (y1, ai g 168 T1), (y2, ai g 6 T2), (y3, ai g 24 T3), (sk, .inr (5, [.int (nI z), .int (nI t), .ref s1, .ref s2, .ref s3])), (s1, ai g 6 K), (s2, ai g 6 L), (s3, ai g 96 V), (t1, ai g 7 f2), (t2, ai g 63 fl2), (tr, .inr (7, [.int (nI t), .ref t1, .ref t2])), (lw, .inr (2, [.ref l1, .ref l2, .ref l3, .int k2_7, .int x2_8, .ref l4])), (l1, ai g 72 G1_9), (l2, ai g 72 G2_10), (l3, ai g 72 G3_11), (l4, ai g 648 G4)] H → va_D A [(sy, .inr (6, [.ref y1, .ref y2, .ref y3, .ref lw, .int c2, .ref tr])), (y1, ai g 168 T1), (y2, ai g 6 T2), (y3, ai g 24 T3), (sk, .inr (5, [.int (nI z), .int (nI t), .ref s1, .ref s2, .ref s3])), (s1, ai g 6 K), (s2, ai g 6 L), (s3, ai g 96 V), (t1, ai g 7 f2), (t2, ai g 63 fl2), (tr, .inr (7, [.int (nI t), .ref t1, .ref t2])), (lw, .inr (2, [.ref l1, .ref l2, .ref l3, .int k2_7, .int x2_8, .ref l4])), (l1, ai g 72 G1_9), (l2, ai g 72 G2_10), (l3, ai g 72 G3_11), (l4, ai g 648 G4)] → va_S A s.heap H locs → lv_has ls 3 [(0, .ref sy), (1, .ref sk), (2, .int (nI d))] → W p l e ({ frames := 4, cells := 0, slots := 0, locals := 94 }) s m [.ref sy, .ref sk].toArray below meth c H locs 0 0 (MQ below (va_Qv (po_X6_renew_g g sy y1 y2 y3 lw tr chg S1 S2 S3 sk s1 s2 s3 z t K L V tg t1 t2 f fl l1 l2 l3 l4 kn xo F1 F2 F3 F4) (bk g A) A) [.ref sy, .ref sk].toArray s 0 0 A) (F0 m 80 ls []) := by
                intro fu
                induction fu with
                | zero => intro d T3 hd9x hfu; exact absurd hfu (Nat.not_lt_zero _)
                | succ fu ih =>
                  intro d T3 hd9x hfu H locs ls hP hD hS hl
                  have ih80 := ih
                  refine lv_iload_n hx hb dX6_renew_80 rfl (lv_at hl 2 rfl) ?_
                  refine lv_aload_n hx hb dX6_renew_81 rfl (lv_at hl 1 rfl) ?_
                  refine va_get (D := g.1) (ci := 5) (v := .int (nI z)) (C := RX5) (T := TX5) (N := 5) hx hb hts q_X6_renew_g_f5 hown hE.1 hP 4 rfl rfl 0 (by decide) (hts (.fieldLink RX6 48 "SoundLaws$Stock" "size" "I") q_X6_renew_g_5) (fun _ h9 => h9) rfl dX6_renew_82 ?_
                  refine lv_icmp_ge (tgt := 100) hx hb dX6_renew_85 (by decide) (fun c85_12 => ?_) (fun c85_12 => ?_)
                  · skip
                    refine W.widen (k := 0) (n := 0) (Nat.le_of_ble_eq_true rfl) (Nat.le_of_ble_eq_true rfl) ?_
                    have hP9 := hP.sub (ws' := [(sy, .inr (6, [.ref y1, .ref y2, .ref y3, .ref lw, .int c2, .ref tr])), (y1, ai g 168 T1), (y2, ai g 6 T2), (y3, ai g 24 T3), (sk, .inr (5, [.int (nI z), .int (nI t), .ref s1, .ref s2, .ref s3])), (s1, ai g 6 K), (s2, ai g 6 L), (s3, ai g 96 V), (tr, .inr (7, [.int (nI t), .ref t1, .ref t2])), (t1, ai g 7 f2), (t2, ai g 63 fl2), (lw, .inr (2, [.ref l1, .ref l2, .ref l3, .int k2_7, .int x2_8, .ref l4])), (l1, ai g 72 G1_9), (l2, ai g 72 G2_10), (l3, ai g 72 G3_11), (l4, ai g 648 G4)]) [0, 1, 2, 3, 4, 5, 6, 7, 10, 8, 9, 11, 12, 13, 14, 15] rfl
                    have hD9 := hD.sub (ws' := [(sy, .inr (6, [.ref y1, .ref y2, .ref y3, .ref lw, .int c2, .ref tr])), (y1, ai g 168 T1), (y2, ai g 6 T2), (y3, ai g 24 T3), (sk, .inr (5, [.int (nI z), .int (nI t), .ref s1, .ref s2, .ref s3])), (s1, ai g 6 K), (s2, ai g 6 L), (s3, ai g 96 V), (tr, .inr (7, [.int (nI t), .ref t1, .ref t2])), (t1, ai g 7 f2), (t2, ai g 63 fl2), (lw, .inr (2, [.ref l1, .ref l2, .ref l3, .int k2_7, .int x2_8, .ref l4])), (l1, ai g 72 G1_9), (l2, ai g 72 G2_10), (l3, ai g 72 G3_11), (l4, ai g 648 G4)]) [0, 1, 2, 3, 4, 5, 6, 7, 10, 8, 9, 11, 12, 13, 14, 15] (by decide) rfl
                    exact k_rv hx hb hr hlocks hS hP9 hD9 ⟨c2, k2_7, x2_8, T1, T2, T3, f2, fl2, G1_9, G2_10, G3_11, G4, rfl, h1, h2⟩ dX6_renew_100
                  · skip
                    have hd9 := lt_of_nle (k := z) (n := d) (by omega) (by omega) c85_12
                    have ht := hzt (by omega)
                    refine lv_aload_n hx hb dX6_renew_88 rfl (lv_at hl 0 rfl) ?_
                    refine lv_aload_n hx hb dX6_renew_89 rfl (lv_at hl 1 rfl) ?_
                    refine lv_iload_n hx hb dX6_renew_90 rfl (lv_at hl 2 rfl) ?_
                    refine k_cv (wr := [(y2, ai g 6 T2), (t1, ai g 7 f2), (t2, ai g 63 fl2), (tr, .inr (7, [.int (nI t), .ref t1, .ref t2])), (l2, ai g 72 G2_10), (l3, ai g 72 G3_11), (l4, ai g 648 G4)]) hP hD hS hA [0, 1, 3, 4, 5, 6, 7, 11, 12] [2, 8, 9, 10, 13, 14, 15] rfl rfl (by decide) (by decide) (va_runV (As := [.ref sk, .int (nI d)]) (rest := []) ⟨hx, hb, hml, hown, hts⟩ (c_X6_findStrange_g l g sy y1 y2 y3 lw tr c2 T1 T3 sk s1 s2 s3 z t K L V l1 l2 l3 l4 k2_7 x2_8 G1_9 d (by first | assumption | omega) (by first | assumption | omega) (by first | assumption | omega) (by first | assumption | omega) (by first | assumption | omega) (by first | assumption | omega) (by first | assumption | omega) H.size) (cwV 2 hts gX6_renew_X6_findStrange rfl rfl rfl (by decide +kernel) ⟨Nat.le_of_ble_eq_true rfl, Nat.le_of_ble_eq_true rfl⟩) (k_preV hE hZ hP hD hS hA [0, 1, 3, 4, 5, 6, 7, 11, 12] rfl (by decide) (va_recv hE.1 hP (ci := 6) (q0 := 0) rfl rfl)) rfl rfl hl.1 rfl (lv_room (Nat.le_of_ble_eq_true rfl)) dX6_renew_91 ⟨Nat.le_of_ble_eq_true rfl, Nat.le_of_ble_eq_true rfl⟩) (fun w1 H locs hw hP hD hS => ?_)
                    obtain ⟨T3_14, rfl⟩ := hw
                    have hP : va_P g.1 vwCl [(y2, ai g 6 T2), (t1, ai g 7 f2), (t2, ai g 63 fl2), (tr, .inr (7, [.int (nI t), .ref t1, .ref t2])), (l2, ai g 72 G2_10), (l3, ai g 72 G3_11), (l4, ai g 648 G4), (sy, .inr (6, [.ref y1, .ref y2, .ref y3, .ref lw, .int c2, .ref tr])), (y1, ai g 168 T1), (y3, ai g 24 T3_14), (sk, .inr (5, [.int (nI z), .int (nI t), .ref s1, .ref s2, .ref s3])), (s1, ai g 6 K), (s2, ai g 6 L), (s3, ai g 96 V), (lw, .inr (2, [.ref l1, .ref l2, .ref l3, .int k2_7, .int x2_8, .ref l4])), (l1, ai g 72 G1_9)] H := hP
                    have hD : va_D A [(y2, ai g 6 T2), (t1, ai g 7 f2), (t2, ai g 63 fl2), (tr, .inr (7, [.int (nI t), .ref t1, .ref t2])), (l2, ai g 72 G2_10), (l3, ai g 72 G3_11), (l4, ai g 648 G4), (sy, .inr (6, [.ref y1, .ref y2, .ref y3, .ref lw, .int c2, .ref tr])), (y1, ai g 168 T1), (y3, ai g 24 T3_14), (sk, .inr (5, [.int (nI z), .int (nI t), .ref s1, .ref s2, .ref s3])), (s1, ai g 6 K), (s2, ai g 6 L), (s3, ai g 96 V), (lw, .inr (2, [.ref l1, .ref l2, .ref l3, .int k2_7, .int x2_8, .ref l4])), (l1, ai g 72 G1_9)] := hD
                    refine lv_iinc (v := (nI (d + 1))) (lv' := [(2, .int (nI (d + 1))), (0, .ref sy), (1, .ref sk)]) hx hb dX6_renew_94 hl (k := 2) rfl (nI_1 _) (by decide) rfl (fun ls hl => ?_)
                    refine lv_goto (tgt := 80) hx hb dX6_renew_97 (by decide) ?_
                    exact ih80 (d + 1) _ (by omega) (by omega) _ _ _ (hP.sub [7, 8, 0, 9, 10, 11, 12, 13, 1, 2, 3, 14, 15, 4, 5, 6] rfl) (hD.sub [7, 8, 0, 9, 10, 11, 12, 13, 1, 2, 3, 14, 15, 4, 5, 6] (by decide) rfl) hS (lv_sub hl [1, 2, 0] rfl)
              exact loop80 _ 0 S3 (Nat.zero_le z) (Nat.lt_succ_self _) _ _ _ hP hD hS (lv_sub hl [1, 2, 0] rfl)
            · skip
              have hb9 := lt_of_nle (k := z) (n := b) (by omega) (by omega) c52_5
              have ht := hzt (by omega)
              refine lv_aload_n hx hb dX6_renew_55 rfl (lv_at hl 0 rfl) ?_
              refine lv_aload_n hx hb dX6_renew_56 rfl (lv_at hl 1 rfl) ?_
              refine lv_iload_n hx hb dX6_renew_57 rfl (lv_at hl 2 rfl) ?_
              refine k_cv (wr := [(y2, ai g 6 T2), (y3, ai g 24 S3), (t1, ai g 7 f2), (t2, ai g 63 fl2), (l1, ai g 72 F1), (l2, ai g 72 F2), (l3, ai g 72 F3), (tr, .inr (7, [.int (nI t), .ref t1, .ref t2]))]) hP hD hS hA [0, 1, 4, 5, 6, 7, 14, 15] [2, 3, 8, 9, 10, 11, 12, 13] rfl rfl (by decide) (by decide) (va_runV (As := [.ref sk, .int (nI b)]) (rest := []) ⟨hx, hb, hml, hown, hts⟩ (c_X6_weigh_g l g sy y1 y2 y3 lw tr c2 T1 sk s1 s2 s3 z t K L V l1 l2 l3 l4 kn xo G4 b (by first | assumption | omega) (by first | assumption | omega) (by first | assumption | omega) (by first | assumption | omega) (by first | assumption | omega) (by first | assumption | omega) (by first | assumption | omega) H.size) (cwV 2 hts gX6_renew_X6_weigh rfl rfl rfl (by decide +kernel) ⟨Nat.le_of_ble_eq_true rfl, Nat.le_of_ble_eq_true rfl⟩) (k_preV hE hZ hP hD hS hA [0, 1, 4, 5, 6, 7, 14, 15] rfl (by decide) (va_recv hE.1 hP (ci := 6) (q0 := 0) rfl rfl)) rfl rfl hl.1 rfl (lv_room (Nat.le_of_ble_eq_true rfl)) dX6_renew_58 ⟨Nat.le_of_ble_eq_true rfl, Nat.le_of_ble_eq_true rfl⟩) (fun w1 H locs hw hP hD hS => ?_)
              obtain ⟨G4_16, rfl⟩ := hw
              have hP : va_P g.1 vwCl [(y2, ai g 6 T2), (y3, ai g 24 S3), (t1, ai g 7 f2), (t2, ai g 63 fl2), (l1, ai g 72 F1), (l2, ai g 72 F2), (l3, ai g 72 F3), (tr, .inr (7, [.int (nI t), .ref t1, .ref t2])), (sy, .inr (6, [.ref y1, .ref y2, .ref y3, .ref lw, .int c2, .ref tr])), (y1, ai g 168 T1), (sk, .inr (5, [.int (nI z), .int (nI t), .ref s1, .ref s2, .ref s3])), (s1, ai g 6 K), (s2, ai g 6 L), (s3, ai g 96 V), (lw, .inr (2, [.ref l1, .ref l2, .ref l3, .int kn, .int xo, .ref l4])), (l4, ai g 648 G4_16)] H := hP
              have hD : va_D A [(y2, ai g 6 T2), (y3, ai g 24 S3), (t1, ai g 7 f2), (t2, ai g 63 fl2), (l1, ai g 72 F1), (l2, ai g 72 F2), (l3, ai g 72 F3), (tr, .inr (7, [.int (nI t), .ref t1, .ref t2])), (sy, .inr (6, [.ref y1, .ref y2, .ref y3, .ref lw, .int c2, .ref tr])), (y1, ai g 168 T1), (sk, .inr (5, [.int (nI z), .int (nI t), .ref s1, .ref s2, .ref s3])), (s1, ai g 6 K), (s2, ai g 6 L), (s3, ai g 96 V), (lw, .inr (2, [.ref l1, .ref l2, .ref l3, .int kn, .int xo, .ref l4])), (l4, ai g 648 G4_16)] := hD
              refine lv_iinc (v := (nI (b + 1))) (lv' := [(2, .int (nI (b + 1))), (0, .ref sy), (1, .ref sk)]) hx hb dX6_renew_61 hl (k := 2) rfl (nI_1 _) (by decide) rfl (fun ls hl => ?_)
              refine lv_goto (tgt := 47) hx hb dX6_renew_64 (by decide) ?_
              exact ih47 (b + 1) _ (by omega) (by omega) _ _ _ (hP.sub [8, 9, 0, 1, 10, 11, 12, 13, 2, 3, 4, 5, 6, 7, 14, 15] rfl) (hD.sub [8, 9, 0, 1, 10, 11, 12, 13, 2, 3, 4, 5, 6, 7, 14, 15] (by decide) rfl) hS (lv_sub hl [1, 2, 0] rfl)
        exact loop47 _ 0 _ (Nat.zero_le z) (Nat.lt_succ_self _) _ _ _ hP hD hS (lv_sub hl [1, 2, 0] rfl)
      · skip
        have ha9 := lt_of_nle (k := z) (n := a) (by omega) (by omega) c23_2
        have ht := hzt (by omega)
        refine lv_aload_n hx hb dX6_renew_26 rfl (lv_at hl 0 rfl) ?_
        refine lv_aload_n hx hb dX6_renew_27 rfl (lv_at hl 1 rfl) ?_
        refine lv_iload_n hx hb dX6_renew_28 rfl (lv_at hl 2 rfl) ?_
        refine k_cv (wr := [(lw, .inr (2, [.ref l1, .ref l2, .ref l3, .int kn, .int xo, .ref l4])), (l1, ai g 72 F1), (l2, ai g 72 F2), (l3, ai g 72 F3), (l4, ai g 648 F4)]) hP hD hS hA [0, 1, 2, 3, 4, 5, 6, 7, 15, 8, 9] [10, 11, 12, 13, 14] rfl rfl (by decide) (by decide) (va_runV (As := [.ref sk, .int (nI a)]) (rest := []) ⟨hx, hb, hml, hown, hts⟩ (c_X6_rebuild_g l g sy y1 y2 y3 lw tr c2 T1 T2 S3 sk s1 s2 s3 z t K L V t1 t2 f2 fl2 a (by first | assumption | omega) (by first | assumption | omega) (by first | assumption | omega) (by first | assumption | omega) (by first | assumption | omega) (by first | assumption | omega) (by first | assumption | omega) (by first | assumption | omega) H.size) (cwV 2 hts gX6_renew_X6_rebuild rfl rfl rfl (by decide +kernel) ⟨Nat.le_of_ble_eq_true rfl, Nat.le_of_ble_eq_true rfl⟩) (k_preV hE hZ hP hD hS hA [0, 1, 2, 3, 4, 5, 6, 7, 15, 8, 9] rfl (by decide) (va_recv hE.1 hP (ci := 6) (q0 := 0) rfl rfl)) rfl rfl hl.1 rfl (lv_room (Nat.le_of_ble_eq_true rfl)) dX6_renew_29 ⟨Nat.le_of_ble_eq_true rfl, Nat.le_of_ble_eq_true rfl⟩) (fun w1 H locs hw hP hD hS => ?_)
        obtain ⟨c2_18, T1_19, T2_20, f2_21, fl2_22, rfl, h1_23, h2_24⟩ := hw
        have hP : va_P g.1 vwCl [(lw, .inr (2, [.ref l1, .ref l2, .ref l3, .int kn, .int xo, .ref l4])), (l1, ai g 72 F1), (l2, ai g 72 F2), (l3, ai g 72 F3), (l4, ai g 648 F4), (sy, .inr (6, [.ref y1, .ref y2, .ref y3, .ref lw, .int c2_18, .ref tr])), (y1, ai g 168 T1_19), (y2, ai g 6 T2_20), (y3, ai g 24 S3), (sk, .inr (5, [.int (nI z), .int (nI t), .ref s1, .ref s2, .ref s3])), (s1, ai g 6 K), (s2, ai g 6 L), (s3, ai g 96 V), (tr, .inr (7, [.int (nI t), .ref t1, .ref t2])), (t1, ai g 7 f2_21), (t2, ai g 63 fl2_22)] H := hP
        have hD : va_D A [(lw, .inr (2, [.ref l1, .ref l2, .ref l3, .int kn, .int xo, .ref l4])), (l1, ai g 72 F1), (l2, ai g 72 F2), (l3, ai g 72 F3), (l4, ai g 648 F4), (sy, .inr (6, [.ref y1, .ref y2, .ref y3, .ref lw, .int c2_18, .ref tr])), (y1, ai g 168 T1_19), (y2, ai g 6 T2_20), (y3, ai g 24 S3), (sk, .inr (5, [.int (nI z), .int (nI t), .ref s1, .ref s2, .ref s3])), (s1, ai g 6 K), (s2, ai g 6 L), (s3, ai g 96 V), (tr, .inr (7, [.int (nI t), .ref t1, .ref t2])), (t1, ai g 7 f2_21), (t2, ai g 63 fl2_22)] := hD
        refine lv_iinc (v := (nI (a + 1))) (lv' := [(2, .int (nI (a + 1))), (0, .ref sy), (1, .ref sk)]) hx hb dX6_renew_32 hl (k := 2) rfl (nI_1 _) (by decide) rfl (fun ls hl => ?_)
        refine lv_goto (tgt := 18) hx hb dX6_renew_35 (by decide) ?_
        exact ih18 (a + 1) _ _ _ _ _ (by omega) h1_23 h2_24 (by omega) _ _ _ (hP.sub [5, 6, 7, 8, 9, 10, 11, 12, 14, 15, 0, 1, 2, 3, 4, 13] rfl) (hD.sub [5, 6, 7, 8, 9, 10, 11, 12, 14, 15, 0, 1, 2, 3, 4, 13] (by decide) rfl) hS (lv_sub hl [1, 2, 0] rfl)
  exact loop18 _ 0 0 S1 S2 f fl (Nat.zero_le z) hS1 hf (Nat.lt_succ_self _) _ _ _ hP hD hS (lv_sub hl [1, 2, 0] rfl)
def po_X6_strangeInSet_g (g : GG) (sy : Nat) (y1 : Nat) (y2 : Nat) (y3 : Nat) (lw : Nat) (tr : Nat) (chg : Int32) (S3 : Nat → Int32) (k : Nat) : Int32 → va_W → Prop := fun (r : Int32) w => w = [(sy, .inr (6, [.ref y1, .ref y2, .ref y3, .ref lw, .int chg, .ref tr])), (y3, ai g 24 S3)]
theorem q_X6_strangeInSet_g_f6 : ∀ w ∈ u_ws RX6 TX6 6, w ∈ wsX6_strangeInSet := by decide +kernel
theorem q_X6_strangeInSet_g_1 : (Cond.fieldLink RX6 18 "SoundLaws$Study" "strangePlaces" "[I") ∈ wsX6_strangeInSet := by decide +kernel
set_option maxHeartbeats 1500000 in
set_option maxRecDepth 100000 in
theorem c_X6_strangeInSet_g (l : Launch) (g : GG) (sy : Nat) (y1 : Nat) (y2 : Nat) (y3 : Nat) (lw : Nat) (tr : Nat) (chg : Int32) (S3 : Nat → Int32) (k : Nat) (hk : k < 6) (sz : Nat) : MetI l yX6_strangeInSet wsX6_strangeInSet ({ frames := 0, cells := 0, slots := 0, locals := 0 }) g [.ref sy, .int (nI k)] [(sy, .inr (6, [.ref y1, .ref y2, .ref y3, .ref lw, .int chg, .ref tr])), (y3, ai g 24 S3)] sz (po_X6_strangeInSet_g g sy y1 y2 y3 lw tr chg S3 k) 0 0 := by
  refine k_of (l := l) (y := yX6_strangeInSet) (ws := wsX6_strangeInSet) (rm := { frames := 0, cells := 0, slots := 0, locals := 0 }) (mc := 0) (ms := 0) (av := [.ref sy, .int (nI k)]) (g := g) (wc := [(sy, .inr (6, [.ref y1, .ref y2, .ref y3, .ref lw, .int chg, .ref tr])), (y3, ai g 24 S3)]) (Qc := fun A => va_Qi (po_X6_strangeInSet_g g sy y1 y2 y3 lw tr chg S3 k) (bk g A) A) (cc := cX6_strangeInSet) (maxL := 4) (ret := (some .int)) (by decide) rfl (Nat.le_of_ble_eq_true rfl) ?_ sz
  intro p e s m below meth c hx hb hr hts hown hlocks hnm hml A hA hE hZ hP hD hS ls hl
  have hown : s.vm.findClass RX6 = some m.cls := hown
  have hl : lv_has ls 4 [(0, .ref sy), (1, .int (nI k))] := hl
  refine lv_iconst (v := 0) hx hb dX6_strangeInSet_0 (by decide) ?_
  refine lv_istore_n (lv' := [(2, .int 0), (0, .ref sy), (1, .int (nI k))]) hx hb dX6_strangeInSet_1 rfl hl (by decide) rfl (fun ls hl => ?_)
  refine lv_iconst (v := 0) hx hb dX6_strangeInSet_2 (by decide) ?_
  refine lv_istore_n (lv' := [(3, .int 0), (2, .int 0), (0, .ref sy), (1, .int (nI k))]) hx hb dX6_strangeInSet_3 rfl hl (by decide) rfl (fun ls hl => ?_)
  have loop4 : ∀ (fu : Nat) (u : Nat) (x2 : Int32), (hu : u ≤ 4) → 4 - u < fu → ∀ (H : Heap) (locs : List Loc) (ls : Array Slot), va_P g.1 vwCl [(sy, .inr (6, [.ref y1, .ref y2, .ref y3, .ref lw, .int chg, .ref tr])), (y3, ai g 24 S3)] H → va_D A [(sy, .inr (6, [.ref y1, .ref y2, .ref y3, .ref lw, .int chg, .ref tr])), (y3, ai g 24 S3)] → va_S A s.heap H locs → lv_has ls 4 [(0, .ref sy), (1, .int (nI k)), (2, .int x2), (3, .int (nI u))] → W p l e ({ frames := 0, cells := 0, slots := 0, locals := 0 }) s m [.ref sy, .int (nI k)].toArray below meth c H locs 0 0 (MQ below (va_Qi (po_X6_strangeInSet_g g sy y1 y2 y3 lw tr chg S3 k) (bk g A) A) [.ref sy, .int (nI k)].toArray s 0 0 A) (F0 m 4 ls []) := by
    intro fu
    induction fu with
    | zero => intro u x2 hu hfu; exact absurd hfu (Nat.not_lt_zero _)
    | succ fu ih =>
      intro u x2 hu hfu H locs ls hP hD hS hl
      have ih4 := ih
      refine lv_iload_n hx hb dX6_strangeInSet_4 rfl (lv_at hl 3 rfl) ?_
      refine lv_iconst (v := 4) hx hb dX6_strangeInSet_5 (by decide) ?_
      refine lv_icmp_ge (tgt := 28) hx hb dX6_strangeInSet_6 (by decide) (fun c6_1 => ?_) (fun c6_1 => ?_)
      · skip
        refine lv_iload_n hx hb dX6_strangeInSet_28 rfl (lv_at hl 2 rfl) ?_
        refine W.widen (k := 0) (n := 0) (Nat.le_of_ble_eq_true rfl) (Nat.le_of_ble_eq_true rfl) ?_
        exact k_ri hx hb hr hlocks hS hP hD rfl dX6_strangeInSet_29
      · skip
        have hu9 := lt_of_nle (k := 4) (n := u) (by decide) (by omega) c6_1
        refine lv_iload_n hx hb dX6_strangeInSet_9 rfl (lv_at hl 2 rfl) ?_
        refine lv_aload_n hx hb dX6_strangeInSet_10 rfl (lv_at hl 0 rfl) ?_
        refine va_get (D := g.1) (ci := 6) (v := .ref y3) (C := RX6) (T := TX6) (N := 6) hx hb hts q_X6_strangeInSet_g_f6 hown hE.1 hP 0 rfl rfl 2 (by decide) (hts (.fieldLink RX6 18 "SoundLaws$Study" "strangePlaces" "[I") q_X6_strangeInSet_g_1) (fun _ h9 => h9) rfl dX6_strangeInSet_11 ?_
        refine lv_iload_n hx hb dX6_strangeInSet_14 rfl (lv_at hl 1 rfl) ?_
        refine lv_iconst (v := 4) hx hb dX6_strangeInSet_15 (by decide) ?_
        refine lv_imul hx hb dX6_strangeInSet_16 ?_
        refine lv_iload_n hx hb dX6_strangeInSet_17 rfl (lv_at hl 3 rfl) ?_
        refine lv_iadd hx hb dX6_strangeInSet_18 ?_
        refine k_ald (4 * k + u) (by rw [show (4 : Int32) = nI 4 from rfl, pk_mul, nI_add, Nat.mul_comm]) (by omega) hx hb hE hP 1 rfl (by decide) dX6_strangeInSet_19 ?_
        refine lv_iadd hx hb dX6_strangeInSet_20 ?_
        refine lv_topi (fun x2b ex2b => ?_)
        refine lv_istore_n (lv' := [(2, .int x2b), (0, .ref sy), (1, .int (nI k)), (3, .int (nI u))]) hx hb dX6_strangeInSet_21 rfl hl (by decide) rfl (fun ls hl => ?_)
        refine lv_iinc (v := (nI (u + 1))) (lv' := [(3, .int (nI (u + 1))), (2, .int x2b), (0, .ref sy), (1, .int (nI k))]) hx hb dX6_strangeInSet_22 hl (k := 3) rfl (nI_1 _) (by decide) rfl (fun ls hl => ?_)
        refine lv_goto (tgt := 4) hx hb dX6_strangeInSet_25 (by decide) ?_
        exact ih4 (u + 1) _ (by omega) (by omega) _ _ _ hP hD hS (lv_sub hl [2, 3, 1, 0] rfl)
  exact loop4 _ 0 0 (Nat.zero_le 4) (Nat.lt_succ_self _) _ _ _ hP hD hS (lv_sub hl [2, 3, 1, 0] rfl)
def po_X6_borrowedTongues_g (g : GG) (sy : Nat) (y1 : Nat) (y2 : Nat) (y3 : Nat) (lw : Nat) (tr : Nat) (chg : Int32) (S3 : Nat → Int32) (L : Nat → Int32) (sk : Nat) (s1 : Nat) (s2 : Nat) (s3 : Nat) (z : Nat) (t : Nat) (k : Nat) : Int32 → va_W → Prop := fun (r : Int32) w => w = [(sy, .inr (6, [.ref y1, .ref y2, .ref y3, .ref lw, .int chg, .ref tr])), (y3, ai g 24 S3), (sk, .inr (5, [.int (nI z), .int (nI t), .ref s1, .ref s2, .ref s3])), (s2, ai g 6 L)]
theorem q_X6_borrowedTongues_g_f5 : ∀ w ∈ u_ws RX5 TX5 5, w ∈ wsX6_borrowedTongues := by decide +kernel
theorem q_X6_borrowedTongues_g_1 : (Cond.fieldLink RX6 35 "SoundLaws$Stock" "tongues" "I") ∈ wsX6_borrowedTongues := by decide +kernel
theorem q_X6_borrowedTongues_g_f6 : ∀ w ∈ u_ws RX6 TX6 6, w ∈ wsX6_borrowedTongues := by decide +kernel
theorem q_X6_borrowedTongues_g_3 : (Cond.fieldLink RX6 18 "SoundLaws$Study" "strangePlaces" "[I") ∈ wsX6_borrowedTongues := by decide +kernel
theorem q_X6_borrowedTongues_g_4 : (Cond.fieldLink RX6 75 "SoundLaws$Stock" "lengths" "[I") ∈ wsX6_borrowedTongues := by decide +kernel
set_option maxHeartbeats 1500000 in
set_option maxRecDepth 100000 in
theorem c_X6_borrowedTongues_g (l : Launch) (g : GG) (sy : Nat) (y1 : Nat) (y2 : Nat) (y3 : Nat) (lw : Nat) (tr : Nat) (chg : Int32) (S3 : Nat → Int32) (L : Nat → Int32) (sk : Nat) (s1 : Nat) (s2 : Nat) (s3 : Nat) (z : Nat) (t : Nat) (k : Nat) (ht4 : t ≤ 4) (hk : k < 6) (sz : Nat) : MetI l yX6_borrowedTongues wsX6_borrowedTongues ({ frames := 0, cells := 0, slots := 0, locals := 0 }) g [.ref sy, .ref sk, .int (nI k)] [(sy, .inr (6, [.ref y1, .ref y2, .ref y3, .ref lw, .int chg, .ref tr])), (y3, ai g 24 S3), (sk, .inr (5, [.int (nI z), .int (nI t), .ref s1, .ref s2, .ref s3])), (s2, ai g 6 L)] sz (po_X6_borrowedTongues_g g sy y1 y2 y3 lw tr chg S3 L sk s1 s2 s3 z t k) 0 0 := by
  refine k_of (l := l) (y := yX6_borrowedTongues) (ws := wsX6_borrowedTongues) (rm := { frames := 0, cells := 0, slots := 0, locals := 0 }) (mc := 0) (ms := 0) (av := [.ref sy, .ref sk, .int (nI k)]) (g := g) (wc := [(sy, .inr (6, [.ref y1, .ref y2, .ref y3, .ref lw, .int chg, .ref tr])), (y3, ai g 24 S3), (sk, .inr (5, [.int (nI z), .int (nI t), .ref s1, .ref s2, .ref s3])), (s2, ai g 6 L)]) (Qc := fun A => va_Qi (po_X6_borrowedTongues_g g sy y1 y2 y3 lw tr chg S3 L sk s1 s2 s3 z t k) (bk g A) A) (cc := cX6_borrowedTongues) (maxL := 6) (ret := (some .int)) (by decide) rfl (Nat.le_of_ble_eq_true rfl) ?_ sz
  intro p e s m below meth c hx hb hr hts hown hlocks hnm hml A hA hE hZ hP hD hS ls hl
  have hown : s.vm.findClass RX6 = some m.cls := hown
  have hl : lv_has ls 6 [(0, .ref sy), (1, .ref sk), (2, .int (nI k))] := hl
  refine lv_iconst (v := 0) hx hb dX6_borrowedTongues_0 (by decide) ?_
  refine lv_istore_n (lv' := [(3, .int 0), (0, .ref sy), (1, .ref sk), (2, .int (nI k))]) hx hb dX6_borrowedTongues_1 rfl hl (by decide) rfl (fun ls hl => ?_)
  refine lv_iconst (v := 0) hx hb dX6_borrowedTongues_2 (by decide) ?_
  refine lv_istore (lv' := [(4, .int 0), (3, .int 0), (0, .ref sy), (1, .ref sk), (2, .int (nI k))]) hx hb dX6_borrowedTongues_3 hl (by decide) rfl (fun ls hl => ?_)
  have loop5 : ∀ (fu : Nat) (u : Nat) (x3 : Int32), (hu : u ≤ t) → t - u < fu → ∀ (H : Heap) (locs : List Loc) (ls : Array Slot), va_P g.1 vwCl [(sy, .inr (6, [.ref y1, .ref y2, .ref y3, .ref lw, .int chg, .ref tr])), (y3, ai g 24 S3), (sk, .inr (5, [.int (nI z), .int (nI t), .ref s1, .ref s2, .ref s3])), (s2, ai g 6 L)] H → va_D A [(sy, .inr (6, [.ref y1, .ref y2, .ref y3, .ref lw, .int chg, .ref tr])), (y3, ai g 24 S3), (sk, .inr (5, [.int (nI z), .int (nI t), .ref s1, .ref s2, .ref s3])), (s2, ai g 6 L)] → va_S A s.heap H locs → lv_has ls 6 [(0, .ref sy), (1, .ref sk), (2, .int (nI k)), (3, .int x3), (4, .int (nI u))] → W p l e ({ frames := 0, cells := 0, slots := 0, locals := 0 }) s m [.ref sy, .ref sk, .int (nI k)].toArray below meth c H locs 0 0 (MQ below (va_Qi (po_X6_borrowedTongues_g g sy y1 y2 y3 lw tr chg S3 L sk s1 s2 s3 z t k) (bk g A) A) [.ref sy, .ref sk, .int (nI k)].toArray s 0 0 A) (F0 m 5 ls []) := by
    intro fu
    induction fu with
    | zero => intro u x3 hu hfu; exact absurd hfu (Nat.not_lt_zero _)
    | succ fu ih =>
      intro u x3 hu hfu H locs ls hP hD hS hl
      have ih5 := ih
      refine lv_iload hx hb dX6_borrowedTongues_5 (lv_at hl 4 rfl) ?_
      refine lv_aload_n hx hb dX6_borrowedTongues_7 rfl (lv_at hl 1 rfl) ?_
      refine va_get (D := g.1) (ci := 5) (v := .int (nI t)) (C := RX5) (T := TX5) (N := 5) hx hb hts q_X6_borrowedTongues_g_f5 hown hE.1 hP 2 rfl rfl 1 (by decide) (hts (.fieldLink RX6 35 "SoundLaws$Stock" "tongues" "I") q_X6_borrowedTongues_g_1) (fun _ h9 => h9) rfl dX6_borrowedTongues_8 ?_
      refine lv_icmp_ge (tgt := 57) hx hb dX6_borrowedTongues_11 (by decide) (fun c11_1 => ?_) (fun c11_1 => ?_)
      · skip
        refine lv_iload_n hx hb dX6_borrowedTongues_57 rfl (lv_at hl 3 rfl) ?_
        refine W.widen (k := 0) (n := 0) (Nat.le_of_ble_eq_true rfl) (Nat.le_of_ble_eq_true rfl) ?_
        exact k_ri hx hb hr hlocks hS hP hD rfl dX6_borrowedTongues_58
      · skip
        have hu9 := lt_of_nle (k := t) (n := u) (by omega) (by omega) c11_1
        refine lv_aload_n hx hb dX6_borrowedTongues_14 rfl (lv_at hl 0 rfl) ?_
        refine va_get (D := g.1) (ci := 6) (v := .ref y3) (C := RX6) (T := TX6) (N := 6) hx hb hts q_X6_borrowedTongues_g_f6 hown hE.1 hP 0 rfl rfl 2 (by decide) (hts (.fieldLink RX6 18 "SoundLaws$Study" "strangePlaces" "[I") q_X6_borrowedTongues_g_3) (fun _ h9 => h9) rfl dX6_borrowedTongues_15 ?_
        refine lv_iload_n hx hb dX6_borrowedTongues_18 rfl (lv_at hl 2 rfl) ?_
        refine lv_iconst (v := 4) hx hb dX6_borrowedTongues_19 (by decide) ?_
        refine lv_imul hx hb dX6_borrowedTongues_20 ?_
        refine lv_iload hx hb dX6_borrowedTongues_21 (lv_at hl 4 rfl) ?_
        refine lv_iadd hx hb dX6_borrowedTongues_23 ?_
        refine k_ald (4 * k + u) (by rw [show (4 : Int32) = nI 4 from rfl, pk_mul, nI_add, Nat.mul_comm]) (by omega) hx hb hE hP 1 rfl (by decide) dX6_borrowedTongues_24 ?_
        refine lv_topi (fun x5 ex5 => ?_)
        refine lv_istore (lv' := [(5, .int x5), (0, .ref sy), (1, .ref sk), (2, .int (nI k)), (3, .int x3), (4, .int (nI u))]) hx hb dX6_borrowedTongues_25 hl (by decide) rfl (fun ls hl => ?_)
        refine lv_iload hx hb dX6_borrowedTongues_27 (lv_at hl 0 rfl) ?_
        refine lv_iconst (v := 2) hx hb dX6_borrowedTongues_29 (by decide) ?_
        refine lv_icmp_ge (tgt := 44) hx hb dX6_borrowedTongues_30 (by decide) (fun c30_2 => ?_) (fun c30_2 => ?_)
        · skip
          refine lv_iload_n hx hb dX6_borrowedTongues_44 rfl (lv_at hl 4 rfl) ?_
          refine lv_iconst (v := 1) hx hb dX6_borrowedTongues_45 (by decide) ?_
          refine lv_iload hx hb dX6_borrowedTongues_46 (lv_at hl 5 rfl) ?_
          refine lv_ishl hx hb dX6_borrowedTongues_48 ?_
          refine lv_ior hx hb dX6_borrowedTongues_49 ?_
          refine lv_topi (fun x3b ex3b => ?_)
          refine lv_istore_n (lv' := [(3, .int x3b), (5, .int x5), (0, .ref sy), (1, .ref sk), (2, .int (nI k)), (4, .int (nI u))]) hx hb dX6_borrowedTongues_50 rfl hl (by decide) rfl (fun ls hl => ?_)
          refine lv_iinc (v := (nI (u + 1))) (lv' := [(4, .int (nI (u + 1))), (3, .int x3b), (5, .int x5), (0, .ref sy), (1, .ref sk), (2, .int (nI k))]) hx hb dX6_borrowedTongues_51 hl (k := 5) rfl (nI_1 _) (by decide) rfl (fun ls hl => ?_)
          refine lv_goto (tgt := 5) hx hb dX6_borrowedTongues_54 (by decide) ?_
          exact ih5 (u + 1) _ (by omega) (by omega) _ _ _ hP hD hS (lv_sub hl [3, 4, 5, 1, 0] rfl)
        · skip
          refine lv_iload hx hb dX6_borrowedTongues_33 (lv_at hl 0 rfl) ?_
          refine lv_aload_n hx hb dX6_borrowedTongues_35 rfl (lv_at hl 2 rfl) ?_
          refine va_get (D := g.1) (ci := 5) (v := .ref s2) (C := RX5) (T := TX5) (N := 5) hx hb hts q_X6_borrowedTongues_g_f5 hown hE.1 hP 2 rfl rfl 3 (by decide) (hts (.fieldLink RX6 75 "SoundLaws$Stock" "lengths" "[I") q_X6_borrowedTongues_g_4) (fun _ h9 => h9) rfl dX6_borrowedTongues_36 ?_
          refine lv_iload_n hx hb dX6_borrowedTongues_39 rfl (lv_at hl 3 rfl) ?_
          refine k_ald k rfl (by omega) hx hb hE hP 3 rfl (by decide) dX6_borrowedTongues_40 ?_
          refine lv_icmp_ne (tgt := 51) hx hb dX6_borrowedTongues_41 (by decide) (fun c41_3 => ?_) (fun c41_3 => ?_)
          · skip
            refine lv_iinc (v := (nI (u + 1))) (lv' := [(4, .int (nI (u + 1))), (5, .int x5), (0, .ref sy), (1, .ref sk), (2, .int (nI k)), (3, .int x3)]) hx hb dX6_borrowedTongues_51 hl (k := 5) rfl (nI_1 _) (by decide) rfl (fun ls hl => ?_)
            refine lv_goto (tgt := 5) hx hb dX6_borrowedTongues_54 (by decide) ?_
            exact ih5 (u + 1) _ (by omega) (by omega) _ _ _ hP hD hS (lv_sub hl [2, 3, 4, 5, 0] rfl)
          · skip
            refine lv_iload_n hx hb dX6_borrowedTongues_44 rfl (lv_at hl 4 rfl) ?_
            refine lv_iconst (v := 1) hx hb dX6_borrowedTongues_45 (by decide) ?_
            refine lv_iload hx hb dX6_borrowedTongues_46 (lv_at hl 5 rfl) ?_
            refine lv_ishl hx hb dX6_borrowedTongues_48 ?_
            refine lv_ior hx hb dX6_borrowedTongues_49 ?_
            refine lv_topi (fun x3b ex3b => ?_)
            refine lv_istore_n (lv' := [(3, .int x3b), (5, .int x5), (0, .ref sy), (1, .ref sk), (2, .int (nI k)), (4, .int (nI u))]) hx hb dX6_borrowedTongues_50 rfl hl (by decide) rfl (fun ls hl => ?_)
            refine lv_iinc (v := (nI (u + 1))) (lv' := [(4, .int (nI (u + 1))), (3, .int x3b), (5, .int x5), (0, .ref sy), (1, .ref sk), (2, .int (nI k))]) hx hb dX6_borrowedTongues_51 hl (k := 5) rfl (nI_1 _) (by decide) rfl (fun ls hl => ?_)
            refine lv_goto (tgt := 5) hx hb dX6_borrowedTongues_54 (by decide) ?_
            exact ih5 (u + 1) _ (by omega) (by omega) _ _ _ hP hD hS (lv_sub hl [3, 4, 5, 1, 0] rfl)
  exact loop5 _ 0 0 (Nat.zero_le t) (Nat.lt_succ_self _) _ _ _ hP hD hS (lv_sub hl [2, 3, 4, 1, 0] rfl)
def po_J6_bitCount_0f7a4_g (g : GG) (p1 : Int32) : Int32 → va_W → Prop := fun (r : Int32) w => w = []
theorem q_J6_bitCount_0f7a4_g_0 : (Cond.constant RJ6 265 (1431655765)) ∈ wsJ6_bitCount_0f7a4 := by decide +kernel
theorem q_J6_bitCount_0f7a4_g_1 : (Cond.constant RJ6 266 (858993459)) ∈ wsJ6_bitCount_0f7a4 := by decide +kernel
theorem q_J6_bitCount_0f7a4_g_2 : (Cond.constant RJ6 267 (252645135)) ∈ wsJ6_bitCount_0f7a4 := by decide +kernel
set_option maxHeartbeats 1500000 in
set_option maxRecDepth 100000 in
theorem c_J6_bitCount_0f7a4_g (l : Launch) (g : GG) (p1 : Int32)  (sz : Nat) : MetI l yJ6_bitCount_0f7a4 wsJ6_bitCount_0f7a4 ({ frames := 0, cells := 0, slots := 0, locals := 0 }) g [.int p1] [] sz (po_J6_bitCount_0f7a4_g g p1) 0 0 := by
  refine k_of (l := l) (y := yJ6_bitCount_0f7a4) (ws := wsJ6_bitCount_0f7a4) (rm := { frames := 0, cells := 0, slots := 0, locals := 0 }) (mc := 0) (ms := 0) (av := [.int p1]) (g := g) (wc := []) (Qc := fun A => va_Qi (po_J6_bitCount_0f7a4_g g p1) (bk g A) A) (cc := cJ6_bitCount_0f7a4) (maxL := 1) (ret := (some .int)) (by decide) rfl (Nat.le_of_ble_eq_true rfl) ?_ sz
  intro p e s m below meth c hx hb hr hts hown hlocks hnm hml A hA hE hZ hP hD hS ls hl
  have hown : s.vm.findClass RJ6 = some m.cls := hown
  have hl : lv_has ls 1 [(0, .int p1)] := hl
  refine lv_iload_n hx hb dJ6_bitCount_0f7a4_0 rfl (lv_at hl 0 rfl) ?_
  refine lv_iload_n hx hb dJ6_bitCount_0f7a4_1 rfl (lv_at hl 0 rfl) ?_
  refine lv_iconst (v := 1) hx hb dJ6_bitCount_0f7a4_2 (by decide) ?_
  refine lv_iushr hx hb dJ6_bitCount_0f7a4_3 rfl ?_
  refine lv_ldcw hx hb hown (hts (.constant RJ6 265 (1431655765)) q_J6_bitCount_0f7a4_g_0) dJ6_bitCount_0f7a4_4 ?_
  refine lv_iand hx hb dJ6_bitCount_0f7a4_7 ?_
  refine lv_isub hx hb dJ6_bitCount_0f7a4_8 ?_
  refine lv_topi (fun x_1 ex_1 => ?_)
  refine lv_istore_n (lv' := [(0, .int x_1)]) hx hb dJ6_bitCount_0f7a4_9 rfl hl (by decide) rfl (fun ls hl => ?_)
  refine lv_iload_n hx hb dJ6_bitCount_0f7a4_10 rfl (lv_at hl 0 rfl) ?_
  refine lv_ldcw hx hb hown (hts (.constant RJ6 266 (858993459)) q_J6_bitCount_0f7a4_g_1) dJ6_bitCount_0f7a4_11 ?_
  refine lv_iand hx hb dJ6_bitCount_0f7a4_14 ?_
  refine lv_iload_n hx hb dJ6_bitCount_0f7a4_15 rfl (lv_at hl 0 rfl) ?_
  refine lv_iconst (v := 2) hx hb dJ6_bitCount_0f7a4_16 (by decide) ?_
  refine lv_iushr hx hb dJ6_bitCount_0f7a4_17 rfl ?_
  refine lv_ldcw hx hb hown (hts (.constant RJ6 266 (858993459)) q_J6_bitCount_0f7a4_g_1) dJ6_bitCount_0f7a4_18 ?_
  refine lv_iand hx hb dJ6_bitCount_0f7a4_21 ?_
  refine lv_iadd hx hb dJ6_bitCount_0f7a4_22 ?_
  refine lv_topi (fun x_2 ex_2 => ?_)
  refine lv_istore_n (lv' := [(0, .int x_2)]) hx hb dJ6_bitCount_0f7a4_23 rfl hl (by decide) rfl (fun ls hl => ?_)
  refine lv_iload_n hx hb dJ6_bitCount_0f7a4_24 rfl (lv_at hl 0 rfl) ?_
  refine lv_iload_n hx hb dJ6_bitCount_0f7a4_25 rfl (lv_at hl 0 rfl) ?_
  refine lv_iconst (v := 4) hx hb dJ6_bitCount_0f7a4_26 (by decide) ?_
  refine lv_iushr hx hb dJ6_bitCount_0f7a4_27 rfl ?_
  refine lv_iadd hx hb dJ6_bitCount_0f7a4_28 ?_
  refine lv_ldcw hx hb hown (hts (.constant RJ6 267 (252645135)) q_J6_bitCount_0f7a4_g_2) dJ6_bitCount_0f7a4_29 ?_
  refine lv_iand hx hb dJ6_bitCount_0f7a4_32 ?_
  refine lv_topi (fun x_3 ex_3 => ?_)
  refine lv_istore_n (lv' := [(0, .int x_3)]) hx hb dJ6_bitCount_0f7a4_33 rfl hl (by decide) rfl (fun ls hl => ?_)
  refine lv_iload_n hx hb dJ6_bitCount_0f7a4_34 rfl (lv_at hl 0 rfl) ?_
  refine lv_iload_n hx hb dJ6_bitCount_0f7a4_35 rfl (lv_at hl 0 rfl) ?_
  refine lv_bipush (v := 8) hx hb dJ6_bitCount_0f7a4_36 (by decide) ?_
  refine lv_iushr hx hb dJ6_bitCount_0f7a4_38 rfl ?_
  refine lv_iadd hx hb dJ6_bitCount_0f7a4_39 ?_
  refine lv_topi (fun x_4 ex_4 => ?_)
  refine lv_istore_n (lv' := [(0, .int x_4)]) hx hb dJ6_bitCount_0f7a4_40 rfl hl (by decide) rfl (fun ls hl => ?_)
  refine lv_iload_n hx hb dJ6_bitCount_0f7a4_41 rfl (lv_at hl 0 rfl) ?_
  refine lv_iload_n hx hb dJ6_bitCount_0f7a4_42 rfl (lv_at hl 0 rfl) ?_
  refine lv_bipush (v := 16) hx hb dJ6_bitCount_0f7a4_43 (by decide) ?_
  refine lv_iushr hx hb dJ6_bitCount_0f7a4_45 rfl ?_
  refine lv_iadd hx hb dJ6_bitCount_0f7a4_46 ?_
  refine lv_topi (fun x_5 ex_5 => ?_)
  refine lv_istore_n (lv' := [(0, .int x_5)]) hx hb dJ6_bitCount_0f7a4_47 rfl hl (by decide) rfl (fun ls hl => ?_)
  refine lv_iload_n hx hb dJ6_bitCount_0f7a4_48 rfl (lv_at hl 0 rfl) ?_
  refine lv_bipush (v := 63) hx hb dJ6_bitCount_0f7a4_49 (by decide) ?_
  refine lv_iand hx hb dJ6_bitCount_0f7a4_51 ?_
  refine W.widen (k := 0) (n := 0) (Nat.le_of_ble_eq_true rfl) (Nat.le_of_ble_eq_true rfl) ?_
  exact k_ri hx hb hr hlocks hS hP hD rfl dJ6_bitCount_0f7a4_52
def po_X6_borrowedWords_g (g : GG) (sy : Nat) (y1 : Nat) (y2 : Nat) (y3 : Nat) (lw : Nat) (tr : Nat) (chg : Int32) (S3 : Nat → Int32) (L : Nat → Int32) (sk : Nat) (s1 : Nat) (s2 : Nat) (s3 : Nat) (z : Nat) (t : Nat) : Int32 → va_W → Prop := fun (r : Int32) w => w = [(sy, .inr (6, [.ref y1, .ref y2, .ref y3, .ref lw, .int chg, .ref tr])), (y3, ai g 24 S3), (sk, .inr (5, [.int (nI z), .int (nI t), .ref s1, .ref s2, .ref s3])), (s2, ai g 6 L)]
theorem q_X6_borrowedWords_g_f5 : ∀ w ∈ u_ws RX5 TX5 5, w ∈ wsX6_borrowedWords := by decide +kernel
theorem q_X6_borrowedWords_g_1 : (Cond.fieldLink RX6 48 "SoundLaws$Stock" "size" "I") ∈ wsX6_borrowedWords := by decide +kernel
set_option maxHeartbeats 1500000 in
set_option maxRecDepth 100000 in
theorem c_X6_borrowedWords_g (l : Launch) (g : GG) (sy : Nat) (y1 : Nat) (y2 : Nat) (y3 : Nat) (lw : Nat) (tr : Nat) (chg : Int32) (S3 : Nat → Int32) (L : Nat → Int32) (sk : Nat) (s1 : Nat) (s2 : Nat) (s3 : Nat) (z : Nat) (t : Nat) (ht4 : t ≤ 4) (hz : z ≤ 6) (sz : Nat) : MetI l yX6_borrowedWords wsX6_borrowedWords ({ frames := 1, cells := 0, slots := 0, locals := 25 }) g [.ref sy, .ref sk] [(sy, .inr (6, [.ref y1, .ref y2, .ref y3, .ref lw, .int chg, .ref tr])), (y3, ai g 24 S3), (sk, .inr (5, [.int (nI z), .int (nI t), .ref s1, .ref s2, .ref s3])), (s2, ai g 6 L)] sz (po_X6_borrowedWords_g g sy y1 y2 y3 lw tr chg S3 L sk s1 s2 s3 z t) 0 0 := by
  refine k_of (l := l) (y := yX6_borrowedWords) (ws := wsX6_borrowedWords) (rm := { frames := 1, cells := 0, slots := 0, locals := 25 }) (mc := 0) (ms := 0) (av := [.ref sy, .ref sk]) (g := g) (wc := [(sy, .inr (6, [.ref y1, .ref y2, .ref y3, .ref lw, .int chg, .ref tr])), (y3, ai g 24 S3), (sk, .inr (5, [.int (nI z), .int (nI t), .ref s1, .ref s2, .ref s3])), (s2, ai g 6 L)]) (Qc := fun A => va_Qi (po_X6_borrowedWords_g g sy y1 y2 y3 lw tr chg S3 L sk s1 s2 s3 z t) (bk g A) A) (cc := cX6_borrowedWords) (maxL := 4) (ret := (some .int)) (by decide) rfl (Nat.le_of_ble_eq_true rfl) ?_ sz
  intro p e s m below meth c hx hb hr hts hown hlocks hnm hml A hA hE hZ hP hD hS ls hl
  have hown : s.vm.findClass RX6 = some m.cls := hown
  have hl : lv_has ls 4 [(0, .ref sy), (1, .ref sk)] := hl
  refine lv_iconst (v := 0) hx hb dX6_borrowedWords_0 (by decide) ?_
  refine lv_istore_n (lv' := [(2, .int 0), (0, .ref sy), (1, .ref sk)]) hx hb dX6_borrowedWords_1 rfl hl (by decide) rfl (fun ls hl => ?_)
  refine lv_iconst (v := 0) hx hb dX6_borrowedWords_2 (by decide) ?_
  refine lv_istore_n (lv' := [(3, .int 0), (2, .int 0), (0, .ref sy), (1, .ref sk)]) hx hb dX6_borrowedWords_3 rfl hl (by decide) rfl (fun ls hl => ?_)
  have loop4 : ∀ (fu : Nat) (a : Nat) (x2 : Int32), (ha : a ≤ z) → z - a < fu → ∀ (H : Heap) (locs : List Loc) (ls : Array Slot), va_P g.1 vwCl [(sy, .inr (6, [.ref y1, .ref y2, .ref y3, .ref lw, .int chg, .ref tr])), (y3, ai g 24 S3), (sk, .inr (5, [.int (nI z), .int (nI t), .ref s1, .ref s2, .ref s3])), (s2, ai g 6 L)] H → va_D A [(sy, .inr (6, [.ref y1, .ref y2, .ref y3, .ref lw, .int chg, .ref tr])), (y3, ai g 24 S3), (sk, .inr (5, [.int (nI z), .int (nI t), .ref s1, .ref s2, .ref s3])), (s2, ai g 6 L)] → va_S A s.heap H locs → lv_has ls 4 [(0, .ref sy), (1, .ref sk), (2, .int x2), (3, .int (nI a))] → W p l e ({ frames := 1, cells := 0, slots := 0, locals := 25 }) s m [.ref sy, .ref sk].toArray below meth c H locs 0 0 (MQ below (va_Qi (po_X6_borrowedWords_g g sy y1 y2 y3 lw tr chg S3 L sk s1 s2 s3 z t) (bk g A) A) [.ref sy, .ref sk].toArray s 0 0 A) (F0 m 4 ls []) := by
    intro fu
    induction fu with
    | zero => intro a x2 ha hfu; exact absurd hfu (Nat.not_lt_zero _)
    | succ fu ih =>
      intro a x2 ha hfu H locs ls hP hD hS hl
      have ih4 := ih
      refine lv_iload_n hx hb dX6_borrowedWords_4 rfl (lv_at hl 3 rfl) ?_
      refine lv_aload_n hx hb dX6_borrowedWords_5 rfl (lv_at hl 1 rfl) ?_
      refine va_get (D := g.1) (ci := 5) (v := .int (nI z)) (C := RX5) (T := TX5) (N := 5) hx hb hts q_X6_borrowedWords_g_f5 hown hE.1 hP 2 rfl rfl 0 (by decide) (hts (.fieldLink RX6 48 "SoundLaws$Stock" "size" "I") q_X6_borrowedWords_g_1) (fun _ h9 => h9) rfl dX6_borrowedWords_6 ?_
      refine lv_icmp_ge (tgt := 30) hx hb dX6_borrowedWords_9 (by decide) (fun c9_1 => ?_) (fun c9_1 => ?_)
      · skip
        refine lv_iload_n hx hb dX6_borrowedWords_30 rfl (lv_at hl 2 rfl) ?_
        refine W.widen (k := 0) (n := 0) (Nat.le_of_ble_eq_true rfl) (Nat.le_of_ble_eq_true rfl) ?_
        exact k_ri hx hb hr hlocks hS hP hD rfl dX6_borrowedWords_31
      · skip
        have ha9 := lt_of_nle (k := z) (n := a) (by omega) (by omega) c9_1
        refine lv_iload_n hx hb dX6_borrowedWords_12 rfl (lv_at hl 2 rfl) ?_
        refine lv_aload_n hx hb dX6_borrowedWords_13 rfl (lv_at hl 0 rfl) ?_
        refine lv_aload_n hx hb dX6_borrowedWords_14 rfl (lv_at hl 1 rfl) ?_
        refine lv_iload_n hx hb dX6_borrowedWords_15 rfl (lv_at hl 3 rfl) ?_
        refine k_ci (wr := []) hP hD hS hA [0, 1, 2, 3] [] rfl rfl (by decide) (by decide) (va_runV (As := [.ref sk, .int (nI a)]) (rest := [.int x2]) ⟨hx, hb, hml, hown, hts⟩ (c_X6_borrowedTongues_g l g sy y1 y2 y3 lw tr chg S3 L sk s1 s2 s3 z t a (by first | assumption | omega) (by first | assumption | omega) H.size) (cwV 2 hts gX6_borrowedWords_X6_borrowedTongues rfl rfl rfl (by decide +kernel) ⟨Nat.le_of_ble_eq_true rfl, Nat.le_of_ble_eq_true rfl⟩) (k_preV hE hZ hP hD hS hA [0, 1, 2, 3] rfl (by decide) (va_recv hE.1 hP (ci := 6) (q0 := 0) rfl rfl)) rfl rfl hl.1 rfl (lv_room (Nat.le_of_ble_eq_true rfl)) dX6_borrowedWords_16 ⟨Nat.le_of_ble_eq_true rfl, Nat.le_of_ble_eq_true rfl⟩) (fun r_2 w1 H locs hw hP hD hS => ?_)
        obtain rfl := hw
        have hP : va_P g.1 vwCl [(sy, .inr (6, [.ref y1, .ref y2, .ref y3, .ref lw, .int chg, .ref tr])), (y3, ai g 24 S3), (sk, .inr (5, [.int (nI z), .int (nI t), .ref s1, .ref s2, .ref s3])), (s2, ai g 6 L)] H := hP
        have hD : va_D A [(sy, .inr (6, [.ref y1, .ref y2, .ref y3, .ref lw, .int chg, .ref tr])), (y3, ai g 24 S3), (sk, .inr (5, [.int (nI z), .int (nI t), .ref s1, .ref s2, .ref s3])), (s2, ai g 6 L)] := hD
        refine k_ci (wr := [(sy, .inr (6, [.ref y1, .ref y2, .ref y3, .ref lw, .int chg, .ref tr])), (y3, ai g 24 S3), (sk, .inr (5, [.int (nI z), .int (nI t), .ref s1, .ref s2, .ref s3])), (s2, ai g 6 L)]) hP hD hS hA [] [0, 1, 2, 3] rfl rfl (by decide) (by decide) (va_runS (As := [.int r_2]) (rest := [.int x2]) ⟨hx, hb, hml, hown, hts⟩ (c_J6_bitCount_0f7a4_g l g r_2  H.size) (va_cwS 1 hts gX6_borrowedWords_J6_bitCount_0f7a4 rfl rfl rfl (by decide +kernel) ⟨Nat.le_of_ble_eq_true rfl, Nat.le_of_ble_eq_true rfl⟩) (k_preS hE hZ hP hD hS hA [] rfl (by decide)) rfl rfl hl.1 rfl (lv_room (Nat.le_of_ble_eq_true rfl)) dX6_borrowedWords_19 ⟨Nat.le_of_ble_eq_true rfl, Nat.le_of_ble_eq_true rfl⟩) (fun r_3 w1 H locs hw hP hD hS => ?_)
        obtain rfl := hw
        have hP : va_P g.1 vwCl [(sy, .inr (6, [.ref y1, .ref y2, .ref y3, .ref lw, .int chg, .ref tr])), (y3, ai g 24 S3), (sk, .inr (5, [.int (nI z), .int (nI t), .ref s1, .ref s2, .ref s3])), (s2, ai g 6 L)] H := hP
        have hD : va_D A [(sy, .inr (6, [.ref y1, .ref y2, .ref y3, .ref lw, .int chg, .ref tr])), (y3, ai g 24 S3), (sk, .inr (5, [.int (nI z), .int (nI t), .ref s1, .ref s2, .ref s3])), (s2, ai g 6 L)] := hD
        refine lv_iadd hx hb dX6_borrowedWords_22 ?_
        refine lv_topi (fun x2b ex2b => ?_)
        refine lv_istore_n (lv' := [(2, .int x2b), (0, .ref sy), (1, .ref sk), (3, .int (nI a))]) hx hb dX6_borrowedWords_23 rfl hl (by decide) rfl (fun ls hl => ?_)
        refine lv_iinc (v := (nI (a + 1))) (lv' := [(3, .int (nI (a + 1))), (2, .int x2b), (0, .ref sy), (1, .ref sk)]) hx hb dX6_borrowedWords_24 hl (k := 3) rfl (nI_1 _) (by decide) rfl (fun ls hl => ?_)
        refine lv_goto (tgt := 4) hx hb dX6_borrowedWords_27 (by decide) ?_
        exact ih4 (a + 1) _ (by omega) (by omega) _ _ _ hP hD hS (lv_sub hl [2, 3, 1, 0] rfl)
  exact loop4 _ 0 0 (Nat.zero_le z) (Nat.lt_succ_self _) _ _ _ hP hD hS (lv_sub hl [2, 3, 1, 0] rfl)

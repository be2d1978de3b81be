/-! numbers of the tree of two to four tongues -/
def nod (t : Nat) : Nat := if t < 2 then 0 else 2 * t - 1
theorem nod_hi {t : Nat} (h : 2 ≤ t) : nI (nod t) = 2 * nI t - 1 := by
  unfold nod
  rw [if_neg (by omega), show (2 : Int32) = nI 2 from rfl, pk_mul, show (1 : Int32) = nI 1 from rfl, pk_sub (by omega)]
theorem nod_lo {t : Nat} (h : t < 2) : nI (nod t) = 0 := by
  unfold nod
  rw [if_pos h]; rfl
theorem nod_eq {t : Nat} (h : 2 ≤ t) : nod t = 2 * t - 1 := if_neg (by omega)
theorem nod_le {t : Nat} (h : t ≤ 4) : nod t ≤ 7 := by
  unfold nod
  split <;> omega
def fp (t : Nat) : Nat := if t < 3 then 0 else if t = 3 then 2 else 6
theorem fp_tb : ∀ t, t < 5 → tb_FIRST_PAIR.getD t 0 = nI (fp t) := by decide
def pr (k : Nat) : Nat := (tb_PAIRS.getD k 0).toNatClampNeg
theorem pr_tb : ∀ k, k < 12 → tb_PAIRS.getD k 0 = nI (pr k) := by decide
theorem pr_lt : ∀ k, k < 12 → pr k < 7 := by decide
theorem fp_lt : ∀ t, t < 5 → ∀ n, n < 7 → 2 ≤ t → t ≤ n → n < 2 * t - 1 → fp t + 2 * (n - t) + 1 < 12 := by decide
def rb (k : Nat) : Nat := (tb_REBUILDS.getD k 0).toNatClampNeg
theorem rb_tb : ∀ k, k < 5 → tb_REBUILDS.getD k 0 = nI (rb k) := by decide
def wg (k : Nat) : Nat := (tb_WEIGHTS.getD k 0).toNatClampNeg
theorem wg_tb : ∀ k, k < 5 → tb_WEIGHTS.getD k 0 = nI (wg k) := by decide
theorem rng_at {n b i : Nat} {f : Nat → Int32} (h : rng n b f) (hi : i < n) : ∃ v, v < b ∧ f i = nI v := h i hi
theorem nI_m1 {n : Nat} (h : 1 ≤ n) : nI n + (-1) = nI (n - 1) := by
  obtain ⟨k, rfl⟩ : ∃ k, n = k + 1 := ⟨n - 1, by omega⟩
  exact pk_m1 k
theorem ge_of_nlt {k n : Nat} (hk : k < 2 ^ 31) (hn : n < 2 ^ 31) (h : ¬ nI n < nI k) : k ≤ n := Nat.not_lt.mp (fun q => h ((nI_ltI hn hk).mpr q))
def ah (p : Nat) : Nat := if p = 0 then 1 else 0
theorem ah_lt (p : Nat) : ah p < 2 := by
  unfold ah
  split <;> decide
def po_X8_nodesOf_g (g : GG) (t : Nat) : Int32 → va_W → Prop := fun (r : Int32) w => w = [] ∧ (nI (nod t) = r)
set_option maxHeartbeats 1500000 in
set_option maxRecDepth 100000 in
theorem c_X8_nodesOf_g (l : Launch) (g : GG) (t : Nat) (ht4 : t ≤ 4) (sz : Nat) : MetI l yX8_nodesOf wsX8_nodesOf ({ frames := 0, cells := 0, slots := 0, locals := 0 }) g [.int (nI t)] [] sz (po_X8_nodesOf_g g t) 0 0 := by
  refine k_of (l := l) (y := yX8_nodesOf) (ws := wsX8_nodesOf) (rm := { frames := 0, cells := 0, slots := 0, locals := 0 }) (mc := 0) (ms := 0) (av := [.int (nI t)]) (g := g) (wc := []) (Qc := fun A => va_Qi (po_X8_nodesOf_g g t) (bk g A) A) (cc := cX8_nodesOf) (maxL := 1) (ret := (some .int)) (by decide) rfl (Nat.le_of_ble_eq_true rfl) ?_ sz
  intro p e s m below meth c hx hb hr hts hown hlocks hnm hml A hA hE hZ hP hD hS ls hl
  have hown : s.vm.findClass RX8 = some m.cls := hown
  have hl : lv_has ls 1 [(0, .int (nI t))] := hl
  refine lv_iload_n hx hb dX8_nodesOf_0 rfl (lv_at hl 0 rfl) ?_
  refine lv_iconst (v := 2) hx hb dX8_nodesOf_1 (by decide) ?_
  refine lv_icmp_ge (tgt := 9) hx hb dX8_nodesOf_2 (by decide) (fun c2_1 => ?_) (fun c2_1 => ?_)
  · skip
    refine lv_iconst (v := 2) hx hb dX8_nodesOf_9 (by decide) ?_
    refine lv_iload_n hx hb dX8_nodesOf_10 rfl (lv_at hl 0 rfl) ?_
    refine lv_imul hx hb dX8_nodesOf_11 ?_
    refine lv_iconst (v := 1) hx hb dX8_nodesOf_12 (by decide) ?_
    refine lv_isub hx hb dX8_nodesOf_13 ?_
    refine W.widen (k := 0) (n := 0) (Nat.le_of_ble_eq_true rfl) (Nat.le_of_ble_eq_true rfl) ?_
    exact k_ri hx hb hr hlocks hS hP hD ⟨rfl, (nod_hi (ge_of_le (k := 2) (n := t) (by decide) (by omega) c2_1))⟩ dX8_nodesOf_14
  · skip
    refine lv_iconst (v := 0) hx hb dX8_nodesOf_5 (by decide) ?_
    refine lv_goto (tgt := 14) hx hb dX8_nodesOf_6 (by decide) ?_
    refine W.widen (k := 0) (n := 0) (Nat.le_of_ble_eq_true rfl) (Nat.le_of_ble_eq_true rfl) ?_
    exact k_ri hx hb hr hlocks hS hP hD ⟨rfl, (nod_lo (lt_of_nle (k := 2) (n := t) (by decide) (by omega) c2_1))⟩ dX8_nodesOf_14
def po_X7_root_g (g : GG) (h0 : Nat) (t1 : Nat) (t2 : Nat) (t : Nat) : Int32 → va_W → Prop := fun (r : Int32) w => w = [(h0, .inr (7, [.int (nI t), .ref t1, .ref t2]))] ∧ (nI (nod t - 1) = r)
theorem q_X7_root_g_f7 : ∀ w ∈ u_ws RX7 TX7 3, w ∈ wsX7_root := by decide +kernel
theorem q_X7_root_g_1 : (Cond.fieldLink RX7 18 "SoundLaws$Tree" "tongues" "I") ∈ wsX7_root := by decide +kernel
theorem q_X7_root_g_2 : (Cond.initialized RX8) ∈ wsX7_root := by decide +kernel
theorem q_X7_root_g_3 : (Cond.static yX8_nodesOf) ∈ wsX7_root := by decide +kernel
set_option maxHeartbeats 1500000 in
set_option maxRecDepth 100000 in
theorem c_X7_root_g (l : Launch) (g : GG) (h0 : Nat) (t1 : Nat) (t2 : Nat) (t : Nat) (ht : 2 ≤ t) (ht4 : t ≤ 4) (sz : Nat) : MetI l yX7_root wsX7_root ({ frames := 1, cells := 0, slots := 0, locals := 20 }) g [.ref h0] [(h0, .inr (7, [.int (nI t), .ref t1, .ref t2]))] sz (po_X7_root_g g h0 t1 t2 t) 0 0 := by
  refine k_of (l := l) (y := yX7_root) (ws := wsX7_root) (rm := { frames := 1, cells := 0, slots := 0, locals := 20 }) (mc := 0) (ms := 0) (av := [.ref h0]) (g := g) (wc := [(h0, .inr (7, [.int (nI t), .ref t1, .ref t2]))]) (Qc := fun A => va_Qi (po_X7_root_g g h0 t1 t2 t) (bk g A) A) (cc := cX7_root) (maxL := 1) (ret := (some .int)) (by decide) rfl (Nat.le_of_ble_eq_true rfl) ?_ sz
  intro p e s m below meth c hx hb hr hts hown hlocks hnm hml A hA hE hZ hP hD hS ls hl
  have hown : s.vm.findClass RX7 = some m.cls := hown
  have hl : lv_has ls 1 [(0, .ref h0)] := hl
  refine lv_aload_n hx hb dX7_root_0 rfl (lv_at hl 0 rfl) ?_
  refine va_get (D := g.1) (ci := 7) (v := .int (nI t)) (C := RX7) (T := TX7) (N := 3) hx hb hts q_X7_root_g_f7 hown hE.1 hP 0 rfl rfl 0 (by decide) (hts (.fieldLink RX7 18 "SoundLaws$Tree" "tongues" "I") q_X7_root_g_1) (fun _ h9 => h9) rfl dX7_root_1 ?_
  refine k_ci (wr := [(h0, .inr (7, [.int (nI t), .ref t1, .ref t2]))]) hP hD hS hA [] [0] rfl rfl (by decide) (by decide) (va_runSN (As := [.int (nI t)]) (rest := []) ⟨hx, hb, hml, hown, hts⟩ (c_X8_nodesOf_g l g t (by first | assumption | omega) s.heap.size) ⟨va_cnB 1 hts gX7_root_X8_nodesOf_n22 rfl rfl rfl (hE.nw 13 rfl) (hts (.initialized RX8) q_X7_root_g_2) (by decide +kernel) ⟨Nat.le_of_ble_eq_true rfl, Nat.le_of_ble_eq_true rfl⟩, (hts (.static yX8_nodesOf) q_X7_root_g_3), trivial⟩ (k_preS hE hZ hP hD hS hA [] rfl (by decide)) rfl rfl hl.1 rfl (lv_room (Nat.le_of_ble_eq_true rfl)) dX7_root_4 ⟨Nat.le_of_ble_eq_true rfl, Nat.le_of_ble_eq_true rfl⟩) (fun r_1 w1 H locs hw hP hD hS => ?_)
  obtain ⟨rfl, rfl⟩ := hw
  have hP : va_P g.1 vwCl [(h0, .inr (7, [.int (nI t), .ref t1, .ref t2]))] H := hP
  have hD : va_D A [(h0, .inr (7, [.int (nI t), .ref t1, .ref t2]))] := hD
  refine lv_iconst (v := 1) hx hb dX7_root_7 (by decide) ?_
  refine lv_isub hx hb dX7_root_8 ?_
  refine lv_topi (fun x_3 ex_3 => ?_)
  obtain rfl : x_3 = nI (nod t - 1) := by rw [ex_3]; rw [show (1 : Int32) = nI 1 from rfl, pk_sub (by rw [nod_eq ht]; omega)]
  refine W.widen (k := 0) (n := 0) (Nat.le_of_ble_eq_true rfl) (Nat.le_of_ble_eq_true rfl) ?_
  exact k_ri hx hb hr hlocks hS hP hD ⟨rfl, rfl⟩ dX7_root_9
def po_X7_pairOf_g (g : GG) (h0 : Nat) (t1 : Nat) (t2 : Nat) (t : Nat) (nd : Nat) : Int32 → va_W → Prop := fun (r : Int32) w => w = [(h0, .inr (7, [.int (nI t), .ref t1, .ref t2]))] ∧ (nI (fp t + 2 * (nd - t)) = r)
theorem q_X7_pairOf_g_f7 : ∀ w ∈ u_ws RX7 TX7 3, w ∈ wsX7_pairOf := by decide +kernel
theorem q_X7_pairOf_g_1 : (Cond.fieldLink RX7 18 "SoundLaws$Tree" "tongues" "I") ∈ wsX7_pairOf := by decide +kernel
set_option maxHeartbeats 1500000 in
set_option maxRecDepth 100000 in
theorem c_X7_pairOf_g (l : Launch) (g : GG) (h0 : Nat) (t1 : Nat) (t2 : Nat) (t : Nat) (nd : Nat) (ht4 : t ≤ 4) (hn : t ≤ nd) (sz : Nat) : MetI l yX7_pairOf wsX7_pairOf ({ frames := 0, cells := 0, slots := 0, locals := 0 }) g [.ref h0, .int (nI nd)] [(h0, .inr (7, [.int (nI t), .ref t1, .ref t2]))] sz (po_X7_pairOf_g g h0 t1 t2 t nd) 0 0 := by
  refine k_of (l := l) (y := yX7_pairOf) (ws := wsX7_pairOf) (rm := { frames := 0, cells := 0, slots := 0, locals := 0 }) (mc := 0) (ms := 0) (av := [.ref h0, .int (nI nd)]) (g := g) (wc := [(h0, .inr (7, [.int (nI t), .ref t1, .ref t2]))]) (Qc := fun A => va_Qi (po_X7_pairOf_g g h0 t1 t2 t nd) (bk g A) A) (cc := cX7_pairOf) (maxL := 2) (ret := (some .int)) (by decide) rfl (Nat.le_of_ble_eq_true rfl) ?_ sz
  intro p e s m below meth c hx hb hr hts hown hlocks hnm hml A hA hE hZ hP hD hS ls hl
  have hown : s.vm.findClass RX7 = some m.cls := hown
  have hl : lv_has ls 2 [(0, .ref h0), (1, .int (nI nd))] := hl
  refine va_getsN hx hb hZ.zFIRST_PAIR hS hown (va_Nw.use rfl (hE.nw (w := .fieldLinkNest RX7 44 "SoundLaws" "FIRST_PAIR" "[I" RX8) 14 rfl)) (fun _ h9 => h9) dX7_pairOf_0 ?_
  refine lv_aload_n hx hb dX7_pairOf_3 rfl (lv_at hl 0 rfl) ?_
  refine va_get (D := g.1) (ci := 7) (v := .int (nI t)) (C := RX7) (T := TX7) (N := 3) hx hb hts q_X7_pairOf_g_f7 hown hE.1 hP 0 rfl rfl 0 (by decide) (hts (.fieldLink RX7 18 "SoundLaws$Tree" "tongues" "I") q_X7_pairOf_g_1) (fun _ h9 => h9) rfl dX7_pairOf_4 ?_
  refine k_tld t rfl (by omega) hx hb hZ.tFIRST_PAIR hS (by decide) (v := tb_FIRST_PAIR.getD t 0) rfl dX7_pairOf_7 ?_
  refine lv_topi (fun x_1 ex_1 => ?_)
  obtain rfl : x_1 = nI (fp t) := by rw [ex_1]; exact fp_tb t (by omega)
  refine lv_iconst (v := 2) hx hb dX7_pairOf_8 (by decide) ?_
  refine lv_iload_n hx hb dX7_pairOf_9 rfl (lv_at hl 1 rfl) ?_
  refine lv_aload_n hx hb dX7_pairOf_10 rfl (lv_at hl 0 rfl) ?_
  refine va_get (D := g.1) (ci := 7) (v := .int (nI t)) (C := RX7) (T := TX7) (N := 3) hx hb hts q_X7_pairOf_g_f7 hown hE.1 hP 0 rfl rfl 0 (by decide) (hts (.fieldLink RX7 18 "SoundLaws$Tree" "tongues" "I") q_X7_pairOf_g_1) (fun _ h9 => h9) rfl dX7_pairOf_11 ?_
  refine lv_isub hx hb dX7_pairOf_14 ?_
  refine lv_imul hx hb dX7_pairOf_15 ?_
  refine lv_iadd hx hb dX7_pairOf_16 ?_
  refine lv_topi (fun x_2 ex_2 => ?_)
  obtain rfl : x_2 = nI (fp t + 2 * (nd - t)) := by rw [ex_2]; rw [pk_sub hn, show (2 : Int32) = nI 2 from rfl, pk_mul, nI_add]
  refine W.widen (k := 0) (n := 0) (Nat.le_of_ble_eq_true rfl) (Nat.le_of_ble_eq_true rfl) ?_
  exact k_ri hx hb hr hlocks hS hP hD ⟨rfl, rfl⟩ dX7_pairOf_17
def po_X8_costOf_g (g : GG) (i : Nat) (j : Nat) : Int32 → va_W → Prop := fun (r : Int32) w => w = [] ∧ (cs i j = r)
theorem q_X8_costOf_g_0 : (Cond.fieldLink RX8 288 "SoundLaws" "COSTS" "[I") ∈ wsX8_costOf := by decide +kernel
set_option maxHeartbeats 1500000 in
set_option maxRecDepth 100000 in
theorem c_X8_costOf_g (l : Launch) (g : GG) (i : Nat) (j : Nat) (hi : i < 9) (hj : j < 9) (sz : Nat) : MetI l yX8_costOf wsX8_costOf ({ frames := 0, cells := 0, slots := 0, locals := 0 }) g [.int (nI i), .int (nI j)] [] sz (po_X8_costOf_g g i j) 0 0 := by
  refine k_of (l := l) (y := yX8_costOf) (ws := wsX8_costOf) (rm := { frames := 0, cells := 0, slots := 0, locals := 0 }) (mc := 0) (ms := 0) (av := [.int (nI i), .int (nI j)]) (g := g) (wc := []) (Qc := fun A => va_Qi (po_X8_costOf_g g i j) (bk g A) A) (cc := cX8_costOf) (maxL := 2) (ret := (some .int)) (by decide) rfl (Nat.le_of_ble_eq_true rfl) ?_ sz
  intro p e s m below meth c hx hb hr hts hown hlocks hnm hml A hA hE hZ hP hD hS ls hl
  have hown : s.vm.findClass RX8 = some m.cls := hown
  have hl : lv_has ls 2 [(0, .int (nI i)), (1, .int (nI j))] := hl
  refine va_gets hx hb hZ.zCOSTS hS hown (hts (.fieldLink RX8 288 "SoundLaws" "COSTS" "[I") q_X8_costOf_g_0) (fun _ h9 => h9) dX8_costOf_0 ?_
  refine lv_iload_n hx hb dX8_costOf_3 rfl (lv_at hl 0 rfl) ?_
  refine lv_bipush (v := 9) hx hb dX8_costOf_4 (by decide) ?_
  refine lv_imul hx hb dX8_costOf_6 ?_
  refine lv_iload_n hx hb dX8_costOf_7 rfl (lv_at hl 1 rfl) ?_
  refine lv_iadd hx hb dX8_costOf_8 ?_
  refine k_tld (9 * i + j) (by rw [show (9 : Int32) = nI 9 from rfl, pk_mul, nI_add, Nat.mul_comm]) (by omega) hx hb hZ.tCOSTS hS (by decide) (v := tb_COSTS.getD (9 * i + j) 0) rfl dX8_costOf_9 ?_
  refine W.widen (k := 0) (n := 0) (Nat.le_of_ble_eq_true rfl) (Nat.le_of_ble_eq_true rfl) ?_
  exact k_ri hx hb hr hlocks hS hP hD ⟨rfl, rfl⟩ dX8_costOf_10
def po_X2_tell_g (g : GG) (lw : Nat) (l1 : Nat) (l2 : Nat) (l3 : Nat) (l4 : Nat) (kn : Int32) (xo : Int32) (F1 : Nat → Int32) (F2 : Nat → Int32) (F3 : Nat → Int32) (F4 : Nat → Int32) (i : Nat) (p1 : Int32) : Int32 → va_W → Prop := fun (r : Int32) w => w = [(lw, .inr (2, [.ref l1, .ref l2, .ref l3, .int kn, .int xo, .ref l4])), (l1, ai g 72 F1), (l2, ai g 72 F2), (l3, ai g 72 F3), (l4, ai g 648 F4)]
theorem q_X2_tell_g_f2 : ∀ w ∈ u_ws RX2 TX2 6, w ∈ wsX2_tell := by decide +kernel
theorem q_X2_tell_g_1 : (Cond.fieldLink RX2 9 "SoundLaws$Laws" "becomes" "[I") ∈ wsX2_tell := by decide +kernel
theorem q_X2_tell_g_2 : (Cond.fieldLink RX2 15 "SoundLaws$Laws" "follows" "[I") ∈ wsX2_tell := by decide +kernel
theorem q_X2_tell_g_3 : (Cond.fieldLink RX2 18 "SoundLaws$Laws" "exceptions" "[I") ∈ wsX2_tell := by decide +kernel
set_option maxHeartbeats 1500000 in
set_option maxRecDepth 100000 in
theorem c_X2_tell_g (l : Launch) (g : GG) (lw : Nat) (l1 : Nat) (l2 : Nat) (l3 : Nat) (l4 : Nat) (kn : Int32) (xo : Int32) (F1 : Nat → Int32) (F2 : Nat → Int32) (F3 : Nat → Int32) (F4 : Nat → Int32) (i : Nat) (p1 : Int32) (hi : i < 72) (sz : Nat) : MetI l yX2_tell wsX2_tell ({ frames := 0, cells := 0, slots := 0, locals := 0 }) g [.ref lw, .int (nI i), .int p1] [(lw, .inr (2, [.ref l1, .ref l2, .ref l3, .int kn, .int xo, .ref l4])), (l1, ai g 72 F1), (l2, ai g 72 F2), (l3, ai g 72 F3), (l4, ai g 648 F4)] sz (po_X2_tell_g g lw l1 l2 l3 l4 kn xo F1 F2 F3 F4 i p1) 0 0 := by
  refine k_of (l := l) (y := yX2_tell) (ws := wsX2_tell) (rm := { frames := 0, cells := 0, slots := 0, locals := 0 }) (mc := 0) (ms := 0) (av := [.ref lw, .int (nI i), .int p1]) (g := g) (wc := [(lw, .inr (2, [.ref l1, .ref l2, .ref l3, .int kn, .int xo, .ref l4])), (l1, ai g 72 F1), (l2, ai g 72 F2), (l3, ai g 72 F3), (l4, ai g 648 F4)]) (Qc := fun A => va_Qi (po_X2_tell_g g lw l1 l2 l3 l4 kn xo F1 F2 F3 F4 i p1) (bk g A) A) (cc := cX2_tell) (maxL := 3) (ret := (some .int)) (by decide) rfl (Nat.le_of_ble_eq_true rfl) ?_ sz
  intro p e s m below meth c hx hb hr hts hown hlocks hnm hml A hA hE hZ hP hD hS ls hl
  have hown : s.vm.findClass RX2 = some m.cls := hown
  have hl : lv_has ls 3 [(0, .ref lw), (1, .int (nI i)), (2, .int p1)] := hl
  refine lv_iload_n hx hb dX2_tell_0 rfl (lv_at hl 2 rfl) ?_
  by_cases w1_1 : p1 = 0
  · skip
    refine lv_lookup (tgt := 28) (off := 27) hx hb dX2_tell_1 (by decide) (by rw [w1_1]; decide) (by decide) ?_
    refine lv_aload_n hx hb dX2_tell_28 rfl (lv_at hl 0 rfl) ?_
    refine va_get (D := g.1) (ci := 2) (v := .ref l1) (C := RX2) (T := TX2) (N := 6) hx hb hts q_X2_tell_g_f2 hown hE.1 hP 0 rfl rfl 0 (by decide) (hts (.fieldLink RX2 9 "SoundLaws$Laws" "becomes" "[I") q_X2_tell_g_1) (fun _ h9 => h9) rfl dX2_tell_29 ?_
    refine lv_iload_n hx hb dX2_tell_32 rfl (lv_at hl 1 rfl) ?_
    refine k_ald i rfl (by omega) hx hb hE hP 1 rfl (by decide) dX2_tell_33 ?_
    refine W.widen (k := 0) (n := 0) (Nat.le_of_ble_eq_true rfl) (Nat.le_of_ble_eq_true rfl) ?_
    exact k_ri hx hb hr hlocks hS hP hD rfl dX2_tell_34
  by_cases w1_2 : p1 = 1
  · skip
    refine lv_lookup (tgt := 35) (off := 34) hx hb dX2_tell_1 (by decide) (by rw [w1_2]; decide) (by decide) ?_
    refine lv_aload_n hx hb dX2_tell_35 rfl (lv_at hl 0 rfl) ?_
    refine va_get (D := g.1) (ci := 2) (v := .ref l2) (C := RX2) (T := TX2) (N := 6) hx hb hts q_X2_tell_g_f2 hown hE.1 hP 0 rfl rfl 1 (by decide) (hts (.fieldLink RX2 15 "SoundLaws$Laws" "follows" "[I") q_X2_tell_g_2) (fun _ h9 => h9) rfl dX2_tell_36 ?_
    refine lv_iload_n hx hb dX2_tell_39 rfl (lv_at hl 1 rfl) ?_
    refine k_ald i rfl (by omega) hx hb hE hP 2 rfl (by decide) dX2_tell_40 ?_
    refine W.widen (k := 0) (n := 0) (Nat.le_of_ble_eq_true rfl) (Nat.le_of_ble_eq_true rfl) ?_
    exact k_ri hx hb hr hlocks hS hP hD rfl dX2_tell_41
  refine lv_lookup (tgt := 42) (off := 41) hx hb dX2_tell_1 (by decide) (by rw [lv_osw w1_1 (by decide)]; rw [lv_osw w1_2 (by decide)]; rfl) (by decide) ?_
  refine lv_aload_n hx hb dX2_tell_42 rfl (lv_at hl 0 rfl) ?_
  refine va_get (D := g.1) (ci := 2) (v := .ref l3) (C := RX2) (T := TX2) (N := 6) hx hb hts q_X2_tell_g_f2 hown hE.1 hP 0 rfl rfl 2 (by decide) (hts (.fieldLink RX2 18 "SoundLaws$Laws" "exceptions" "[I") q_X2_tell_g_3) (fun _ h9 => h9) rfl dX2_tell_43 ?_
  refine lv_iload_n hx hb dX2_tell_46 rfl (lv_at hl 1 rfl) ?_
  refine k_ald i rfl (by omega) hx hb hE hP 3 rfl (by decide) dX2_tell_47 ?_
  refine W.widen (k := 0) (n := 0) (Nat.le_of_ble_eq_true rfl) (Nat.le_of_ble_eq_true rfl) ?_
  exact k_ri hx hb hr hlocks hS hP hD rfl dX2_tell_48

/-! numbers of the tree of two to four tongues -/
def nod (t : Nat) : Nat := if t < 2 then 0 else 2 * t - 1
theorem nod_hi {t : Nat} (h : 2 ≤ t) : nI (nod t) = 2 * nI t - 1 := by
  unfold nod
  rw [if_neg (by omega), show (2 : Int32) = nI 2 from rfl, pk_mul, show (1 : Int32) = nI 1 from rfl, pk_sub (by omega)]
theorem nod_lo {t : Nat} (h : t < 2) : nI (nod t) = 0 := by
  unfold nod
  rw [if_pos h]; rfl
theorem nod_eq {t : Nat} (h : 2 ≤ t) : nod t = 2 * t - 1 := if_neg (by omega)
theorem nod_le {t : Nat} (h : t ≤ 4) : nod t ≤ 7 := by
  unfold nod
  split <;> omega
def fp (t : Nat) : Nat := if t < 3 then 0 else if t = 3 then 2 else 6
theorem fp_tb : ∀ t, t < 5 → tb_FIRST_PAIR.getD t 0 = nI (fp t) := by decide
def pr (k : Nat) : Nat := (tb_PAIRS.getD k 0).toNatClampNeg
theorem pr_tb : ∀ k, k < 12 → tb_PAIRS.getD k 0 = nI (pr k) := by decide
theorem pr_lt : ∀ k, k < 12 → pr k < 7 := by decide
theorem fp_lt : ∀ t, t < 5 → ∀ n, n < 7 → 2 ≤ t → t ≤ n → n < 2 * t - 1 → fp t + 2 * (n - t) + 1 < 12 := by decide
def rb (k : Nat) : Nat := (tb_REBUILDS.getD k 0).toNatClampNeg
theorem rb_tb : ∀ k, k < 5 → tb_REBUILDS.getD k 0 = nI (rb k) := by decide
def wg (k : Nat) : Nat := (tb_WEIGHTS.getD k 0).toNatClampNeg
theorem wg_tb : ∀ k, k < 5 → tb_WEIGHTS.getD k 0 = nI (wg k) := by decide
theorem rng_at {n b i : Nat} {f : Nat → Int32} (h : rng n b f) (hi : i < n) : ∃ v, v < b ∧ f i = nI v := h i hi
theorem nI_m1 {n : Nat} (h : 1 ≤ n) : nI n + (-1) = nI (n - 1) := by
  obtain ⟨k, rfl⟩ : ∃ k, n = k + 1 := ⟨n - 1, by omega⟩
  exact pk_m1 k
theorem ge_of_nlt {k n : Nat} (hk : k < 2 ^ 31) (hn : n < 2 ^ 31) (h : ¬ nI n < nI k) : k ≤ n := Nat.not_lt.mp (fun q => h ((nI_ltI hn hk).mpr q))
def ah (p : Nat) : Nat := if p = 0 then 1 else 0
theorem ah_lt (p : Nat) : ah p < 2 := by
  unfold ah
  split <;> decide
def po_X8_nodesOf_g (g : GG) (t : Nat) : Int32 → va_W → Prop := fun (r : Int32) w => w = [] ∧ (nI (nod t) = r)
set_option maxHeartbeats 1500000 in
set_option maxRecDepth 100000 in
theorem c_X8_nodesOf_g (l : Launch) (g : GG) (t : Nat) (ht4 : t ≤ 4) (sz : Nat) : MetI l yX8_nodesOf wsX8_nodesOf ({ frames := 0, cells := 0, slots := 0, locals := 0 }) g [.int (nI t)] [] sz (po_X8_nodesOf_g g t) 0 0 := by
  refine k_of (l := l) (y := yX8_nodesOf) (ws := wsX8_nodesOf) (rm := { frames := 0, cells := 0, slots := 0, locals := 0 }) (mc := 0) (ms := 0) (av := [.int (nI t)]) (g := g) (wc := []) (Qc := fun A => va_Qi (po_X8_nodesOf_g g t) (bk g A) A) (cc := cX8_nodesOf) (maxL := 1) (ret := (some .int)) (by decide) rfl (Nat.le_of_ble_eq_true rfl) ?_ sz
  intro p e s m below meth c hx hb hr hts hown hlocks hnm hml A hA hE hZ hP hD hS ls hl
  have hown : s.vm.findClass RX8 = some m.cls := hown
  have hl : lv_has ls 1 [(0, .int (nI t))] := hl
  refine lv_iload_n hx hb dX8_nodesOf_0 rfl (lv_at hl 0 rfl) ?_
  refine lv_iconst (v := 2) hx hb dX8_nodesOf_1 (by decide) ?_
  refine lv_icmp_ge (tgt := 9) hx hb dX8_nodesOf_2 (by decide) (fun c2_1 => ?_) (fun c2_1 => ?_)
  · skip
    refine lv_iconst (v := 2) hx hb dX8_nodesOf_9 (by decide) ?_
    refine lv_iload_n hx hb dX8_nodesOf_10 rfl (lv_at hl 0 rfl) ?_
    refine lv_imul hx hb dX8_nodesOf_11 ?_
    refine lv_iconst (v := 1) hx hb dX8_nodesOf_12 (by decide) ?_
    refine lv_isub hx hb dX8_nodesOf_13 ?_
    refine W.widen (k := 0) (n := 0) (Nat.le_of_ble_eq_true rfl) (Nat.le_of_ble_eq_true rfl) ?_
    exact k_ri hx hb hr hlocks hS hP hD ⟨rfl, (nod_hi (ge_of_le (k := 2) (n := t) (by decide) (by omega) c2_1))⟩ dX8_nodesOf_14
  · skip
    refine lv_iconst (v := 0) hx hb dX8_nodesOf_5 (by decide) ?_
    refine lv_goto (tgt := 14) hx hb dX8_nodesOf_6 (by decide) ?_
    refine W.widen (k := 0) (n := 0) (Nat.le_of_ble_eq_true rfl) (Nat.le_of_ble_eq_true rfl) ?_
    exact k_ri hx hb hr hlocks hS hP hD ⟨rfl, (nod_lo (lt_of_nle (k := 2) (n := t) (by decide) (by omega) c2_1))⟩ dX8_nodesOf_14
def po_X7_root_g (g : GG) (h0 : Nat) (t1 : Nat) (t2 : Nat) (t : Nat) : Int32 → va_W → Prop := fun (r : Int32) w => w = [(h0, .inr (7, [.int (nI t), .ref t1, .ref t2]))] ∧ (nI (nod t - 1) = r)
theorem q_X7_root_g_f7 : ∀ w ∈ u_ws RX7 TX7 3, w ∈ wsX7_root := by decide +kernel
theorem q_X7_root_g_1 : (Cond.fieldLink RX7 18 "SoundLaws$Tree" "tongues" "I") ∈ wsX7_root := by decide +kernel
theorem q_X7_root_g_2 : (Cond.initialized RX8) ∈ wsX7_root := by decide +kernel
theorem q_X7_root_g_3 : (Cond.static yX8_nodesOf) ∈ wsX7_root := by decide +kernel
set_option maxHeartbeats 1500000 in
set_option maxRecDepth 100000 in
theorem c_X7_root_g (l : Launch) (g : GG) (h0 : Nat) (t1 : Nat) (t2 : Nat) (t : Nat) (ht : 2 ≤ t) (ht4 : t ≤ 4) (sz : Nat) : MetI l yX7_root wsX7_root ({ frames := 1, cells := 0, slots := 0, locals := 20 }) g [.ref h0] [(h0, .inr (7, [.int (nI t), .ref t1, .ref t2]))] sz (po_X7_root_g g h0 t1 t2 t) 0 0 := by
  refine k_of (l := l) (y := yX7_root) (ws := wsX7_root) (rm := { frames := 1, cells := 0, slots := 0, locals := 20 }) (mc := 0) (ms := 0) (av := [.ref h0]) (g := g) (wc := [(h0, .inr (7, [.int (nI t), .ref t1, .ref t2]))]) (Qc := fun A => va_Qi (po_X7_root_g g h0 t1 t2 t) (bk g A) A) (cc := cX7_root) (maxL := 1) (ret := (some .int)) (by decide) rfl (Nat.le_of_ble_eq_true rfl) ?_ sz
  intro p e s m below meth c hx hb hr hts hown hlocks hnm hml A hA hE hZ hP hD hS ls hl
  have hown : s.vm.findClass RX7 = some m.cls := hown
  have hl : lv_has ls 1 [(0, .ref h0)] := hl
  refine lv_aload_n hx hb dX7_root_0 rfl (lv_at hl 0 rfl) ?_
  refine va_get (D := g.1) (ci := 7) (v := .int (nI t)) (C := RX7) (T := TX7) (N := 3) hx hb hts q_X7_root_g_f7 hown hE.1 hP 0 rfl rfl 0 (by decide) (hts (.fieldLink RX7 18 "SoundLaws$Tree" "tongues" "I") q_X7_root_g_1) (fun _ h9 => h9) rfl dX7_root_1 ?_
  refine k_ci (wr := [(h0, .inr (7, [.int (nI t), .ref t1, .ref t2]))]) hP hD hS hA [] [0] rfl rfl (by decide) (by decide) (va_runSN (As := [.int (nI t)]) (rest := []) ⟨hx, hb, hml, hown, hts⟩ (c_X8_nodesOf_g l g t (by first | assumption | omega) s.heap.size) ⟨va_cnB 1 hts gX7_root_X8_nodesOf_n22 rfl rfl rfl (hE.nw 13 rfl) (hts (.initialized RX8) q_X7_root_g_2) (by decide +kernel) ⟨Nat.le_of_ble_eq_true rfl, Nat.le_of_ble_eq_true rfl⟩, (hts (.static yX8_nodesOf) q_X7_root_g_3), trivial⟩ (k_preS hE hZ hP hD hS hA [] rfl (by decide)) rfl rfl hl.1 rfl (lv_room (Nat.le_of_ble_eq_true rfl)) dX7_root_4 ⟨Nat.le_of_ble_eq_true rfl, Nat.le_of_ble_eq_true rfl⟩) (fun r_1 w1 H locs hw hP hD hS => ?_)
  obtain ⟨rfl, rfl⟩ := hw
  have hP : va_P g.1 vwCl [(h0, .inr (7, [.int (nI t), .ref t1, .ref t2]))] H := hP
  have hD : va_D A [(h0, .inr (7, [.int (nI t), .ref t1, .ref t2]))] := hD
  refine lv_iconst (v := 1) hx hb dX7_root_7 (by decide) ?_
  refine lv_isub hx hb dX7_root_8 ?_
  refine lv_topi (fun x_3 ex_3 => ?_)
  obtain rfl : x_3 = nI (nod t - 1) := by rw [ex_3]; rw [show (1 : Int32) = nI 1 from rfl, pk_sub (by rw [nod_eq ht]; omega)]
  refine W.widen (k := 0) (n := 0) (Nat.le_of_ble_eq_true rfl) (Nat.le_of_ble_eq_true rfl) ?_
  exact k_ri hx hb hr hlocks hS hP hD ⟨rfl, rfl⟩ dX7_root_9
def po_X7_pairOf_g (g : GG) (h0 : Nat) (t1 : Nat) (t2 : Nat) (t : Nat) (nd : Nat) : Int32 → va_W → Prop := fun (r : Int32) w => w = [(h0, .inr (7, [.int (nI t), .ref t1, .ref t2]))] ∧ (nI (fp t + 2 * (nd - t)) = r)
theorem q_X7_pairOf_g_f7 : ∀ w ∈ u_ws RX7 TX7 3, w ∈ wsX7_pairOf := by decide +kernel
theorem q_X7_pairOf_g_1 : (Cond.fieldLink RX7 18 "SoundLaws$Tree" "tongues" "I") ∈ wsX7_pairOf := by decide +kernel
set_option maxHeartbeats 1500000 in
set_option maxRecDepth 100000 in
theorem c_X7_pairOf_g (l : Launch) (g : GG) (h0 : Nat) (t1 : Nat) (t2 : Nat) (t : Nat) (nd : Nat) (ht4 : t ≤ 4) (hn : t ≤ nd) (sz : Nat) : MetI l yX7_pairOf wsX7_pairOf ({ frames := 0, cells := 0, slots := 0, locals := 0 }) g [.ref h0, .int (nI nd)] [(h0, .inr (7, [.int (nI t), .ref t1, .ref t2]))] sz (po_X7_pairOf_g g h0 t1 t2 t nd) 0 0 := by
  refine k_of (l := l) (y := yX7_pairOf) (ws := wsX7_pairOf) (rm := { frames := 0, cells := 0, slots := 0, locals := 0 }) (mc := 0) (ms := 0) (av := [.ref h0, .int (nI nd)]) (g := g) (wc := [(h0, .inr (7, [.int (nI t), .ref t1, .ref t2]))]) (Qc := fun A => va_Qi (po_X7_pairOf_g g h0 t1 t2 t nd) (bk g A) A) (cc := cX7_pairOf) (maxL := 2) (ret := (some .int)) (by decide) rfl (Nat.le_of_ble_eq_true rfl) ?_ sz
  intro p e s m below meth c hx hb hr hts hown hlocks hnm hml A hA hE hZ hP hD hS ls hl
  have hown : s.vm.findClass RX7 = some m.cls := hown
  have hl : lv_has ls 2 [(0, .ref h0), (1, .int (nI nd))] := hl
  refine va_getsN hx hb hZ.zFIRST_PAIR hS hown (va_Nw.use rfl (hE.nw (w := .fieldLinkNest RX7 44 "SoundLaws" "FIRST_PAIR" "[I" RX8) 14 rfl)) (fun _ h9 => h9) dX7_pairOf_0 ?_
  refine lv_aload_n hx hb dX7_pairOf_3 rfl (lv_at hl 0 rfl) ?_
  refine va_get (D := g.1) (ci := 7) (v := .int (nI t)) (C := RX7) (T := TX7) (N := 3) hx hb hts q_X7_pairOf_g_f7 hown hE.1 hP 0 rfl rfl 0 (by decide) (hts (.fieldLink RX7 18 "SoundLaws$Tree" "tongues" "I") q_X7_pairOf_g_1) (fun _ h9 => h9) rfl dX7_pairOf_4 ?_
  refine k_tld t rfl (by omega) hx hb hZ.tFIRST_PAIR hS (by decide) (v := tb_FIRST_PAIR.getD t 0) rfl dX7_pairOf_7 ?_
  refine lv_topi (fun x_1 ex_1 => ?_)
  obtain rfl : x_1 = nI (fp t) := by rw [ex_1]; exact fp_tb t (by omega)
  refine lv_iconst (v := 2) hx hb dX7_pairOf_8 (by decide) ?_
  refine lv_iload_n hx hb dX7_pairOf_9 rfl (lv_at hl 1 rfl) ?_
  refine lv_aload_n hx hb dX7_pairOf_10 rfl (lv_at hl 0 rfl) ?_
  refine va_get (D := g.1) (ci := 7) (v := .int (nI t)) (C := RX7) (T := TX7) (N := 3) hx hb hts q_X7_pairOf_g_f7 hown hE.1 hP 0 rfl rfl 0 (by decide) (hts (.fieldLink RX7 18 "SoundLaws$Tree" "tongues" "I") q_X7_pairOf_g_1) (fun _ h9 => h9) rfl dX7_pairOf_11 ?_
  refine lv_isub hx hb dX7_pairOf_14 ?_
  refine lv_imul hx hb dX7_pairOf_15 ?_
  refine lv_iadd hx hb dX7_pairOf_16 ?_
  refine lv_topi (fun x_2 ex_2 => ?_)
  obtain rfl : x_2 = nI (fp t + 2 * (nd - t)) := by rw [ex_2]; rw [pk_sub hn, show (2 : Int32) = nI 2 from rfl, pk_mul, nI_add]
  refine W.widen (k := 0) (n := 0) (Nat.le_of_ble_eq_true rfl) (Nat.le_of_ble_eq_true rfl) ?_
  exact k_ri hx hb hr hlocks hS hP hD ⟨rfl, rfl⟩ dX7_pairOf_17
def po_X7_leastBelow_g (g : GG) (h0 : Nat) (t1 : Nat) (t2 : Nat) (t : Nat) (f : Nat → Int32) (fl : Nat → Int32) (nd : Nat) (sd : Nat) : Int32 → va_W → Prop := fun (r : Int32) w => w = [(h0, .inr (7, [.int (nI t), .ref t1, .ref t2])), (t1, ai g 7 f), (t2, ai g 63 fl)]
theorem q_X7_leastBelow_g_f7 : ∀ w ∈ u_ws RX7 TX7 3, w ∈ wsX7_leastBelow := by decide +kernel
theorem q_X7_leastBelow_g_1 : (Cond.fieldLink RX7 18 "SoundLaws$Tree" "tongues" "I") ∈ wsX7_leastBelow := by decide +kernel
theorem q_X7_leastBelow_g_2 : (Cond.fieldLink RX7 15 "SoundLaws$Tree" "least" "[I") ∈ wsX7_leastBelow := by decide +kernel
theorem q_X7_leastBelow_g_3 : (Cond.fieldLink RX7 9 "SoundLaws$Tree" "sounds" "[I") ∈ wsX7_leastBelow := by decide +kernel
set_option maxHeartbeats 1500000 in
set_option maxRecDepth 100000 in
theorem c_X7_leastBelow_g (l : Launch) (g : GG) (h0 : Nat) (t1 : Nat) (t2 : Nat) (t : Nat) (f : Nat → Int32) (fl : Nat → Int32) (nd : Nat) (sd : Nat) (hnd : nd < 7) (hsd : sd < 9) (hf : rng 7 9 f) (sz : Nat) : MetI l yX7_leastBelow wsX7_leastBelow ({ frames := 0, cells := 0, slots := 0, locals := 0 }) g [.ref h0, .int (nI nd), .int (nI sd)] [(h0, .inr (7, [.int (nI t), .ref t1, .ref t2])), (t1, ai g 7 f), (t2, ai g 63 fl)] sz (po_X7_leastBelow_g g h0 t1 t2 t f fl nd sd) 0 0 := by
  refine k_of (l := l) (y := yX7_leastBelow) (ws := wsX7_leastBelow) (rm := { frames := 0, cells := 0, slots := 0, locals := 0 }) (mc := 0) (ms := 0) (av := [.ref h0, .int (nI nd), .int (nI sd)]) (g := g) (wc := [(h0, .inr (7, [.int (nI t), .ref t1, .ref t2])), (t1, ai g 7 f), (t2, ai g 63 fl)]) (Qc := fun A => va_Qi (po_X7_leastBelow_g g h0 t1 t2 t f fl nd sd) (bk g A) A) (cc := cX7_leastBelow) (maxL := 8) (ret := (some .int)) (by decide) rfl (Nat.le_of_ble_eq_true rfl) ?_ sz
  intro p e s m below meth c hx hb hr hts hown hlocks hnm hml A hA hE hZ hP hD hS ls hl
  have hown : s.vm.findClass RX7 = some m.cls := hown
  have hl : lv_has ls 8 [(0, .ref h0), (1, .int (nI nd)), (2, .int (nI sd))] := hl
  refine lv_iload_n hx hb dX7_leastBelow_0 rfl (lv_at hl 2 rfl) ?_
  refine lv_bipush (v := 9) hx hb dX7_leastBelow_1 (by decide) ?_
  refine lv_imul hx hb dX7_leastBelow_3 ?_
  refine lv_topi (fun x3 ex3 => ?_)
  refine lv_istore_n (lv' := [(3, .int x3), (0, .ref h0), (1, .int (nI nd)), (2, .int (nI sd))]) hx hb dX7_leastBelow_4 rfl hl (by decide) rfl (fun ls hl => ?_)
  refine lv_iload_n hx hb dX7_leastBelow_5 rfl (lv_at hl 2 rfl) ?_
  refine lv_aload_n hx hb dX7_leastBelow_6 rfl (lv_at hl 1 rfl) ?_
  refine va_get (D := g.1) (ci := 7) (v := .int (nI t)) (C := RX7) (T := TX7) (N := 3) hx hb hts q_X7_leastBelow_g_f7 hown hE.1 hP 0 rfl rfl 0 (by decide) (hts (.fieldLink RX7 18 "SoundLaws$Tree" "tongues" "I") q_X7_leastBelow_g_1) (fun _ h9 => h9) rfl dX7_leastBelow_7 ?_
  refine lv_icmp_ge (tgt := 26) hx hb dX7_leastBelow_10 (by decide) (fun c10_1 => ?_) (fun c10_1 => ?_)
  · skip
    refine lv_iload_n hx hb dX7_leastBelow_26 rfl (lv_at hl 2 rfl) ?_
    refine lv_bipush (v := 9) hx hb dX7_leastBelow_27 (by decide) ?_
    refine lv_imul hx hb dX7_leastBelow_29 ?_
    refine lv_topi (fun x4 ex4 => ?_)
    refine lv_istore (lv' := [(4, .int x4), (3, .int x3), (0, .ref h0), (1, .int (nI nd)), (2, .int (nI sd))]) hx hb dX7_leastBelow_30 hl (by decide) rfl (fun ls hl => ?_)
    refine va_getsN hx hb hZ.zCOSTS hS hown (va_Nw.use rfl (hE.nw (w := .fieldLinkNest RX7 47 "SoundLaws" "COSTS" "[I" RX8) 16 rfl)) (fun _ h9 => h9) dX7_leastBelow_32 ?_
    refine lv_iload_n hx hb dX7_leastBelow_35 rfl (lv_at hl 1 rfl) ?_
    refine k_tld (9 * sd + 0) (by rw [ex3, show (9 : Int32) = nI 9 from rfl, pk_mul, Nat.mul_comm]; rfl) (by omega) hx hb hZ.tCOSTS hS (by decide) (v := tb_COSTS.getD (9 * sd + 0) 0) rfl dX7_leastBelow_36 ?_
    refine lv_aload_n hx hb dX7_leastBelow_37 rfl (lv_at hl 2 rfl) ?_
    refine va_get (D := g.1) (ci := 7) (v := .ref t2) (C := RX7) (T := TX7) (N := 3) hx hb hts q_X7_leastBelow_g_f7 hown hE.1 hP 0 rfl rfl 2 (by decide) (hts (.fieldLink RX7 15 "SoundLaws$Tree" "least" "[I") q_X7_leastBelow_g_2) (fun _ h9 => h9) rfl dX7_leastBelow_38 ?_
    refine lv_iload hx hb dX7_leastBelow_41 (lv_at hl 0 rfl) ?_
    refine k_ald (9 * nd + 0) (by rw [ex4, show (9 : Int32) = nI 9 from rfl, pk_mul, Nat.mul_comm]; rfl) (by omega) hx hb hE hP 2 rfl (by decide) dX7_leastBelow_43 ?_
    refine lv_iadd hx hb dX7_leastBelow_44 ?_
    refine lv_topi (fun x_2 ex_2 => ?_)
    refine lv_istore (lv' := [(5, .int x_2), (4, .int x4), (3, .int x3), (0, .ref h0), (1, .int (nI nd)), (2, .int (nI sd))]) hx hb dX7_leastBelow_45 hl (by decide) rfl (fun ls hl => ?_)
    refine lv_iconst (v := 1) hx hb dX7_leastBelow_47 (by decide) ?_
    refine lv_istore (lv' := [(6, .int 1), (5, .int x_2), (4, .int x4), (3, .int x3), (0, .ref h0), (1, .int (nI nd)), (2, .int (nI sd))]) hx hb dX7_leastBelow_48 hl (by decide) rfl (fun ls hl => ?_)
    have loop50 : ∀ (fu : Nat) (j : Nat) (x5 : Int32), (hj : j ≤ 8) → 9 - j < fu → ∀ (H : Heap) (locs : List Loc) (ls : Array Slot), va_P g.1 vwCl [(h0, .inr (7, [.int (nI t), .ref t1, .ref t2])), (t1, ai g 7 f), (t2, ai g 63 fl)] H → va_D A [(h0, .inr (7, [.int (nI t), .ref t1, .ref t2])), (t1, ai g 7 f), (t2, ai g 63 fl)] → va_S A s.heap H locs → lv_has ls 8 [(0, .ref h0), (1, .int (nI nd)), (2, .int (nI sd)), (3, .int x3), (4, .int x4), (5, .int x5), (6, .int (nI (j + 1)))] → W p l e ({ frames := 0, cells := 0, slots := 0, locals := 0 }) s m [.ref h0, .int (nI nd), .int (nI sd)].toArray below meth c H locs 0 0 (MQ below (va_Qi (po_X7_leastBelow_g g h0 t1 t2 t f fl nd sd) (bk g A) A) [.ref h0, .int (nI nd), .int (nI sd)].toArray s 0 0 A) (F0 m 50 ls []) := by
      intro fu
      induction fu with
      | zero => intro j x5 hj hfu; exact absurd hfu (Nat.not_lt_zero _)
      | succ fu ih =>
        intro j x5 hj hfu H locs ls hP hD hS hl
        have ih50 := ih
        refine lv_iload hx hb dX7_leastBelow_50 (lv_at hl 6 rfl) ?_
        refine lv_bipush (v := 9) hx hb dX7_leastBelow_52 (by decide) ?_
        refine lv_icmp_ge (tgt := 95) hx hb dX7_leastBelow_54 (by decide) (fun c54_3 => ?_) (fun c54_3 => ?_)
        · skip
          refine lv_iload hx hb dX7_leastBelow_95 (lv_at hl 5 rfl) ?_
          refine W.widen (k := 0) (n := 0) (Nat.le_of_ble_eq_true rfl) (Nat.le_of_ble_eq_true rfl) ?_
          exact k_ri hx hb hr hlocks hS hP hD rfl dX7_leastBelow_97
        · skip
          have hj9 := lt_of_nle (k := 9) (n := j + 1) (by decide) (by omega) c54_3
          refine va_getsN hx hb hZ.zCOSTS hS hown (va_Nw.use rfl (hE.nw (w := .fieldLinkNest RX7 47 "SoundLaws" "COSTS" "[I" RX8) 16 rfl)) (fun _ h9 => h9) dX7_leastBelow_57 ?_
          refine lv_iload_n hx hb dX7_leastBelow_60 rfl (lv_at hl 3 rfl) ?_
          refine lv_iload hx hb dX7_leastBelow_61 (lv_at hl 6 rfl) ?_
          refine lv_iadd hx hb dX7_leastBelow_63 ?_
          refine k_tld (9 * sd + (j + 1)) (by rw [ex3, show (9 : Int32) = nI 9 from rfl, pk_mul, nI_add, Nat.mul_comm]) (by omega) hx hb hZ.tCOSTS hS (by decide) (v := tb_COSTS.getD (9 * sd + (j + 1)) 0) rfl dX7_leastBelow_64 ?_
          refine lv_aload_n hx hb dX7_leastBelow_65 rfl (lv_at hl 0 rfl) ?_
          refine va_get (D := g.1) (ci := 7) (v := .ref t2) (C := RX7) (T := TX7) (N := 3) hx hb hts q_X7_leastBelow_g_f7 hown hE.1 hP 0 rfl rfl 2 (by decide) (hts (.fieldLink RX7 15 "SoundLaws$Tree" "least" "[I") q_X7_leastBelow_g_2) (fun _ h9 => h9) rfl dX7_leastBelow_66 ?_
          refine lv_iload hx hb dX7_leastBelow_69 (lv_at hl 4 rfl) ?_
          refine lv_iload hx hb dX7_leastBelow_71 (lv_at hl 6 rfl) ?_
          refine lv_iadd hx hb dX7_leastBelow_73 ?_
          refine k_ald (9 * nd + (j + 1)) (by rw [ex4, show (9 : Int32) = nI 9 from rfl, pk_mul, nI_add, Nat.mul_comm]) (by omega) hx hb hE hP 2 rfl (by decide) dX7_leastBelow_74 ?_
          refine lv_iadd hx hb dX7_leastBelow_75 ?_
          refine lv_topi (fun x_4 ex_4 => ?_)
          refine lv_istore (lv' := [(7, .int x_4), (0, .ref h0), (1, .int (nI nd)), (2, .int (nI sd)), (3, .int x3), (4, .int x4), (5, .int x5), (6, .int (nI (j + 1)))]) hx hb dX7_leastBelow_76 hl (by decide) rfl (fun ls hl => ?_)
          refine lv_iload hx hb dX7_leastBelow_78 (lv_at hl 0 rfl) ?_
          refine lv_iload hx hb dX7_leastBelow_80 (lv_at hl 6 rfl) ?_
          refine lv_icmp_ge (tgt := 89) hx hb dX7_leastBelow_82 (by decide) (fun c82_5 => ?_) (fun c82_5 => ?_)
          · skip
            refine lv_iinc (v := (nI (j + 1 + 1))) (lv' := [(6, .int (nI (j + 1 + 1))), (7, .int x_4), (0, .ref h0), (1, .int (nI nd)), (2, .int (nI sd)), (3, .int x3), (4, .int x4), (5, .int x5)]) hx hb dX7_leastBelow_89 hl (k := 7) rfl (nI_1 _) (by decide) rfl (fun ls hl => ?_)
            refine lv_goto (tgt := 50) hx hb dX7_leastBelow_92 (by decide) ?_
            exact ih50 (j + 1) _ (by omega) (by omega) _ _ _ hP hD hS (lv_sub hl [2, 3, 4, 5, 6, 7, 0] rfl)
          · skip
            refine lv_iload hx hb dX7_leastBelow_85 (lv_at hl 0 rfl) ?_
            refine lv_istore (lv' := [(5, .int x_4), (7, .int x_4), (0, .ref h0), (1, .int (nI nd)), (2, .int (nI sd)), (3, .int x3), (4, .int x4), (6, .int (nI (j + 1)))]) hx hb dX7_leastBelow_87 hl (by decide) rfl (fun ls hl => ?_)
            refine lv_iinc (v := (nI (j + 1 + 1))) (lv' := [(6, .int (nI (j + 1 + 1))), (5, .int x_4), (7, .int x_4), (0, .ref h0), (1, .int (nI nd)), (2, .int (nI sd)), (3, .int x3), (4, .int x4)]) hx hb dX7_leastBelow_89 hl (k := 7) rfl (nI_1 _) (by decide) rfl (fun ls hl => ?_)
            refine lv_goto (tgt := 50) hx hb dX7_leastBelow_92 (by decide) ?_
            exact ih50 (j + 1) _ (by omega) (by omega) _ _ _ hP hD hS (lv_sub hl [3, 4, 5, 6, 7, 1, 0] rfl)
    exact loop50 _ 0 _ (Nat.zero_le 8) (Nat.lt_succ_self _) _ _ _ hP hD hS (lv_sub hl [4, 5, 6, 3, 2, 1, 0] rfl)
  · skip
    refine va_getsN hx hb hZ.zCOSTS hS hown (va_Nw.use rfl (hE.nw (w := .fieldLinkNest RX7 47 "SoundLaws" "COSTS" "[I" RX8) 16 rfl)) (fun _ h9 => h9) dX7_leastBelow_13 ?_
    refine lv_iload_n hx hb dX7_leastBelow_16 rfl (lv_at hl 0 rfl) ?_
    refine lv_aload_n hx hb dX7_leastBelow_17 rfl (lv_at hl 1 rfl) ?_
    refine va_get (D := g.1) (ci := 7) (v := .ref t1) (C := RX7) (T := TX7) (N := 3) hx hb hts q_X7_leastBelow_g_f7 hown hE.1 hP 0 rfl rfl 1 (by decide) (hts (.fieldLink RX7 9 "SoundLaws$Tree" "sounds" "[I") q_X7_leastBelow_g_3) (fun _ h9 => h9) rfl dX7_leastBelow_18 ?_
    refine lv_iload_n hx hb dX7_leastBelow_21 rfl (lv_at hl 2 rfl) ?_
    refine k_ald nd rfl (by omega) hx hb hE hP 1 rfl (by decide) dX7_leastBelow_22 ?_
    refine lv_iadd hx hb dX7_leastBelow_23 ?_
    obtain ⟨a, ha9, ha⟩ := hf nd (by omega)
    refine k_tld (9 * sd + a) (by rw [ex3, ha, show (9 : Int32) = nI 9 from rfl, pk_mul, nI_add, Nat.mul_comm]) (by omega) hx hb hZ.tCOSTS hS (by decide) (v := tb_COSTS.getD (9 * sd + a) 0) rfl dX7_leastBelow_24 ?_
    refine W.widen (k := 0) (n := 0) (Nat.le_of_ble_eq_true rfl) (Nat.le_of_ble_eq_true rfl) ?_
    exact k_ri hx hb hr hlocks hS hP hD rfl dX7_leastBelow_25
def po_X7_climb_g (g : GG) (h0 : Nat) (t1 : Nat) (t2 : Nat) (t : Nat) (f : Nat → Int32) (fl : Nat → Int32) : Int32 → va_W → Prop := fun (r : Int32) w => ∃ (f2 : Nat → Int32) (gl : Nat → Int32), w = [(h0, .inr (7, [.int (nI t), .ref t1, .ref t2])), (t1, ai g 7 f2), (t2, ai g 63 gl)] ∧ (rng 7 9 f2)
theorem q_X7_climb_g_f7 : ∀ w ∈ u_ws RX7 TX7 3, w ∈ wsX7_climb := by decide +kernel
theorem q_X7_climb_g_1 : (Cond.fieldLink RX7 18 "SoundLaws$Tree" "tongues" "I") ∈ wsX7_climb := by decide +kernel
theorem q_X7_climb_g_2 : (Cond.initialized RX8) ∈ wsX7_climb := by decide +kernel
theorem q_X7_climb_g_3 : (Cond.static yX8_nodesOf) ∈ wsX7_climb := by decide +kernel
theorem q_X7_climb_g_4 : (Cond.fieldLink RX7 9 "SoundLaws$Tree" "sounds" "[I") ∈ wsX7_climb := by decide +kernel
theorem q_X7_climb_g_5 : (Cond.fieldLink RX7 15 "SoundLaws$Tree" "least" "[I") ∈ wsX7_climb := by decide +kernel
set_option maxHeartbeats 1500000 in
set_option maxRecDepth 100000 in
theorem c_X7_climb_g (l : Launch) (g : GG) (h0 : Nat) (t1 : Nat) (t2 : Nat) (t : Nat) (f : Nat → Int32) (fl : Nat → Int32) (ht : 2 ≤ t) (ht4 : t ≤ 4) (hf : rng 7 9 f) (sz : Nat) : MetI l yX7_climb wsX7_climb ({ frames := 1, cells := 0, slots := 0, locals := 27 }) g [.ref h0] [(h0, .inr (7, [.int (nI t), .ref t1, .ref t2])), (t1, ai g 7 f), (t2, ai g 63 fl)] sz (po_X7_climb_g g h0 t1 t2 t f fl) 0 0 := by
  refine k_of (l := l) (y := yX7_climb) (ws := wsX7_climb) (rm := { frames := 1, cells := 0, slots := 0, locals := 27 }) (mc := 0) (ms := 0) (av := [.ref h0]) (g := g) (wc := [(h0, .inr (7, [.int (nI t), .ref t1, .ref t2])), (t1, ai g 7 f), (t2, ai g 63 fl)]) (Qc := fun A => va_Qi (po_X7_climb_g g h0 t1 t2 t f fl) (bk g A) A) (cc := cX7_climb) (maxL := 5) (ret := (some .int)) (by decide) rfl (Nat.le_of_ble_eq_true rfl) ?_ sz
  intro p e s m below meth c hx hb hr hts hown hlocks hnm hml A hA hE hZ hP hD hS ls hl
  have hown : s.vm.findClass RX7 = some m.cls := hown
  have hl : lv_has ls 5 [(0, .ref h0)] := hl
  refine lv_aload_n hx hb dX7_climb_0 rfl (lv_at hl 0 rfl) ?_
  refine va_get (D := g.1) (ci := 7) (v := .int (nI t)) (C := RX7) (T := TX7) (N := 3) hx hb hts q_X7_climb_g_f7 hown hE.1 hP 0 rfl rfl 0 (by decide) (hts (.fieldLink RX7 18 "SoundLaws$Tree" "tongues" "I") q_X7_climb_g_1) (fun _ h9 => h9) rfl dX7_climb_1 ?_
  refine k_ci (wr := [(h0, .inr (7, [.int (nI t), .ref t1, .ref t2])), (t1, ai g 7 f), (t2, ai g 63 fl)]) hP hD hS hA [] [0, 1, 2] rfl rfl (by decide) (by decide) (va_runSN (As := [.int (nI t)]) (rest := []) ⟨hx, hb, hml, hown, hts⟩ (c_X8_nodesOf_g l g t (by first | assumption | omega) s.heap.size) ⟨va_cnB 1 hts gX7_climb_X8_nodesOf_n22 rfl rfl rfl (hE.nw 13 rfl) (hts (.initialized RX8) q_X7_climb_g_2) (by decide +kernel) ⟨Nat.le_of_ble_eq_true rfl, Nat.le_of_ble_eq_true rfl⟩, (hts (.static yX8_nodesOf) q_X7_climb_g_3), trivial⟩ (k_preS hE hZ hP hD hS hA [] rfl (by decide)) rfl rfl hl.1 rfl (lv_room (Nat.le_of_ble_eq_true rfl)) dX7_climb_4 ⟨Nat.le_of_ble_eq_true rfl, Nat.le_of_ble_eq_true rfl⟩) (fun r_1 w1 H locs hw hP hD hS => ?_)
  obtain ⟨rfl, rfl⟩ := hw
  have hP : va_P g.1 vwCl [(h0, .inr (7, [.int (nI t), .ref t1, .ref t2])), (t1, ai g 7 f), (t2, ai g 63 fl)] H := hP
  have hD : va_D A [(h0, .inr (7, [.int (nI t), .ref t1, .ref t2])), (t1, ai g 7 f), (t2, ai g 63 fl)] := hD
  have hno := nod_eq ht; have hno7 := nod_le ht4
  refine lv_istore_n (lv' := [(1, .int (nI (nod t))), (0, .ref h0)]) hx hb dX7_climb_7 rfl hl (by decide) rfl (fun ls hl => ?_)
  refine lv_aload_n hx hb dX7_climb_8 rfl (lv_at hl 1 rfl) ?_
  refine va_get (D := g.1) (ci := 7) (v := .int (nI t)) (C := RX7) (T := TX7) (N := 3) hx hb hts q_X7_climb_g_f7 hown hE.1 hP 0 rfl rfl 0 (by decide) (hts (.fieldLink RX7 18 "SoundLaws$Tree" "tongues" "I") q_X7_climb_g_1) (fun _ h9 => h9) rfl dX7_climb_9 ?_
  refine lv_istore_n (lv' := [(2, .int (nI t)), (1, .int (nI (nod t))), (0, .ref h0)]) hx hb dX7_climb_12 rfl hl (by decide) rfl (fun ls hl => ?_)
  have loop13 : ∀ (fu : Nat) (nd : Nat) (v1 : Nat → Int32), (hnt : t ≤ nd) → (hnn : nd ≤ nod t) → nod t - nd < fu → ∀ (H : Heap) (locs : List Loc) (ls : Array Slot), va_P g.1 vwCl [(h0, .inr (7, [.int (nI t), .ref t1, .ref t2])), (t1, ai g 7 f), (t2, ai g 63 v1)] H → va_D A [(h0, .inr (7, [.int (nI t), .ref t1, .ref t2])), (t1, ai g 7 f), (t2, ai g 63 v1)] → va_S A s.heap H locs → lv_has ls 5 [(0, .ref h0), (1, .int (nI (nod t))), (2, .int (nI nd))] → W p l e ({ frames := 1, cells := 0, slots := 0, locals := 27 }) s m [.ref h0].toArray below meth c H locs 0 0 (MQ below (va_Qi (po_X7_climb_g g h0 t1 t2 t f fl) (bk g A) A) [.ref h0].toArray s 0 0 A) (F0 m 13 ls []) := by
    intro fu
    induction fu with
    | zero => intro nd v1 hnt hnn hfu; exact absurd hfu (Nat.not_lt_zero _)
    | succ fu ih =>
      intro nd v1 hnt hnn hfu H locs ls hP hD hS hl
      have ih13 := ih
      refine lv_iload_n hx hb dX7_climb_13 rfl (lv_at hl 2 rfl) ?_
      refine lv_iload_n hx hb dX7_climb_14 rfl (lv_at hl 1 rfl) ?_
      refine lv_icmp_ge (tgt := 83) hx hb dX7_climb_15 (by decide) (fun c15_3 => ?_) (fun c15_3 => ?_)
      · skip
        refine lv_iload_n hx hb dX7_climb_83 rfl (lv_at hl 1 rfl) ?_
        refine lv_iconst (v := 1) hx hb dX7_climb_84 (by decide) ?_
        refine lv_isub hx hb dX7_climb_85 ?_
        refine lv_topi (fun x_4 ex_4 => ?_)
        obtain rfl : x_4 = nI (nod t - 1) := by rw [ex_4]; rw [show (1 : Int32) = nI 1 from rfl, pk_sub (by omega)]
        refine lv_istore_n (lv' := [(2, .int (nI (nod t - 1))), (0, .ref h0), (1, .int (nI (nod t)))]) hx hb dX7_climb_86 rfl hl (by decide) rfl (fun ls hl => ?_)
        refine lv_iconst (v := 0) hx hb dX7_climb_87 (by decide) ?_
        refine lv_istore_n (lv' := [(3, .int 0), (2, .int (nI (nod t - 1))), (0, .ref h0), (1, .int (nI (nod t)))]) hx hb dX7_climb_88 rfl hl (by decide) rfl (fun ls hl => ?_)
        refine lv_iconst (v := 1) hx hb dX7_climb_89 (by decide) ?_
        refine lv_istore (lv' := [(4, .int 1), (3, .int 0), (2, .int (nI (nod t - 1))), (0, .ref h0), (1, .int (nI (nod t)))]) hx hb dX7_climb_90 hl (by decide) rfl (fun ls hl => ?_)
        have loop92 : ∀ (fu : Nat) (j r : Nat), (hj : j ≤ 9) → (hr9 : r < 9) → 9 - j < fu → ∀ (H : Heap) (locs : List Loc) (ls : Array Slot), va_P g.1 vwCl [(h0, .inr (7, [.int (nI t), .ref t1, .ref t2])), (t1, ai g 7 f), (t2, ai g 63 v1)] H → va_D A [(h0, .inr (7, [.int (nI t), .ref t1, .ref t2])), (t1, ai g 7 f), (t2, ai g 63 v1)] → va_S A s.heap H locs → lv_has ls 5 [(0, .ref h0), (1, .int (nI (nod t))), (2, .int (nI (nod t - 1))), (3, .int (nI r)), (4, .int (nI j))] → W p l e ({ frames := 1, cells := 0, slots := 0, locals := 27 }) s m [.ref h0].toArray below meth c H locs 0 0 (MQ below (va_Qi (po_X7_climb_g g h0 t1 t2 t f fl) (bk g A) A) [.ref h0].toArray s 0 0 A) (F0 m 92 ls []) := by
          intro fu
          induction fu with
          | zero => intro j r hj hr9 hfu; exact absurd hfu (Nat.not_lt_zero _)
          | succ fu ih =>
            intro j r hj hr9 hfu H locs ls hP hD hS hl
            have ih92 := ih
            refine lv_iload hx hb dX7_climb_92 (lv_at hl 4 rfl) ?_
            refine lv_bipush (v := 9) hx hb dX7_climb_94 (by decide) ?_
            refine lv_icmp_ge (tgt := 134) hx hb dX7_climb_96 (by decide) (fun c96_5 => ?_) (fun c96_5 => ?_)
            · skip
              refine lv_aload_n hx hb dX7_climb_134 rfl (lv_at hl 0 rfl) ?_
              refine va_get (D := g.1) (ci := 7) (v := .ref t1) (C := RX7) (T := TX7) (N := 3) hx hb hts q_X7_climb_g_f7 hown hE.1 hP 0 rfl rfl 1 (by decide) (hts (.fieldLink RX7 9 "SoundLaws$Tree" "sounds" "[I") q_X7_climb_g_4) (fun _ h9 => h9) rfl dX7_climb_135 ?_
              refine lv_iload_n hx hb dX7_climb_138 rfl (lv_at hl 2 rfl) ?_
              refine lv_iload_n hx hb dX7_climb_139 rfl (lv_at hl 3 rfl) ?_
              refine k_ast (x := (nI r)) (nod t - 1) rfl (by omega) hx hb hE hP hD hS 1 rfl (by decide) dX7_climb_140 (fun H locs hP hD hS => ?_)
              have hP : va_P g.1 vwCl [(h0, .inr (7, [.int (nI t), .ref t1, .ref t2])), (t1, ai g 7 (upd f (nod t - 1) (nI r))), (t2, ai g 63 v1)] H := hP
              have hD : va_D A [(h0, .inr (7, [.int (nI t), .ref t1, .ref t2])), (t1, ai g 7 (upd f (nod t - 1) (nI r))), (t2, ai g 63 v1)] := hD
              refine lv_aload_n hx hb dX7_climb_141 rfl (lv_at hl 0 rfl) ?_
              refine va_get (D := g.1) (ci := 7) (v := .ref t2) (C := RX7) (T := TX7) (N := 3) hx hb hts q_X7_climb_g_f7 hown hE.1 hP 0 rfl rfl 2 (by decide) (hts (.fieldLink RX7 15 "SoundLaws$Tree" "least" "[I") q_X7_climb_g_5) (fun _ h9 => h9) rfl dX7_climb_142 ?_
              refine lv_iload_n hx hb dX7_climb_145 rfl (lv_at hl 2 rfl) ?_
              refine lv_bipush (v := 9) hx hb dX7_climb_146 (by decide) ?_
              refine lv_imul hx hb dX7_climb_148 ?_
              refine lv_iload_n hx hb dX7_climb_149 rfl (lv_at hl 3 rfl) ?_
              refine lv_iadd hx hb dX7_climb_150 ?_
              refine k_ald (9 * (nod t - 1) + r) (by rw [show (9 : Int32) = nI 9 from rfl, pk_mul, nI_add, Nat.mul_comm]) (by omega) hx hb hE hP 2 rfl (by decide) dX7_climb_151 ?_
              refine W.widen (k := 0) (n := 0) (Nat.le_of_ble_eq_true rfl) (Nat.le_of_ble_eq_true rfl) ?_
              exact k_ri hx hb hr hlocks hS hP hD ⟨(upd f (nod t - 1) (nI r)), v1, rfl, (rng_upd hf hr9)⟩ dX7_climb_152
            · skip
              have hj9 := lt_of_nle (k := 9) (n := j) (by decide) (by omega) c96_5
              refine lv_aload_n hx hb dX7_climb_99 rfl (lv_at hl 0 rfl) ?_
              refine va_get (D := g.1) (ci := 7) (v := .ref t2) (C := RX7) (T := TX7) (N := 3) hx hb hts q_X7_climb_g_f7 hown hE.1 hP 0 rfl rfl 2 (by decide) (hts (.fieldLink RX7 15 "SoundLaws$Tree" "least" "[I") q_X7_climb_g_5) (fun _ h9 => h9) rfl dX7_climb_100 ?_
              refine lv_iload_n hx hb dX7_climb_103 rfl (lv_at hl 2 rfl) ?_
              refine lv_bipush (v := 9) hx hb dX7_climb_104 (by decide) ?_
              refine lv_imul hx hb dX7_climb_106 ?_
              refine lv_iload hx hb dX7_climb_107 (lv_at hl 4 rfl) ?_
              refine lv_iadd hx hb dX7_climb_109 ?_
              refine k_ald (9 * (nod t - 1) + j) (by rw [show (9 : Int32) = nI 9 from rfl, pk_mul, nI_add, Nat.mul_comm]) (by omega) hx hb hE hP 2 rfl (by decide) dX7_climb_110 ?_
              refine lv_aload_n hx hb dX7_climb_111 rfl (lv_at hl 0 rfl) ?_
              refine va_get (D := g.1) (ci := 7) (v := .ref t2) (C := RX7) (T := TX7) (N := 3) hx hb hts q_X7_climb_g_f7 hown hE.1 hP 0 rfl rfl 2 (by decide) (hts (.fieldLink RX7 15 "SoundLaws$Tree" "least" "[I") q_X7_climb_g_5) (fun _ h9 => h9) rfl dX7_climb_112 ?_
              refine lv_iload_n hx hb dX7_climb_115 rfl (lv_at hl 2 rfl) ?_
              refine lv_bipush (v := 9) hx hb dX7_climb_116 (by decide) ?_
              refine lv_imul hx hb dX7_climb_118 ?_
              refine lv_iload_n hx hb dX7_climb_119 rfl (lv_at hl 3 rfl) ?_
              refine lv_iadd hx hb dX7_climb_120 ?_
              refine k_ald (9 * (nod t - 1) + r) (by rw [show (9 : Int32) = nI 9 from rfl, pk_mul, nI_add, Nat.mul_comm]) (by omega) hx hb hE hP 2 rfl (by decide) dX7_climb_121 ?_
              refine lv_icmp_ge (tgt := 128) hx hb dX7_climb_122 (by decide) (fun c122_6 => ?_) (fun c122_6 => ?_)
              · skip
                refine lv_iinc (v := (nI (j + 1))) (lv' := [(4, .int (nI (j + 1))), (0, .ref h0), (1, .int (nI (nod t))), (2, .int (nI (nod t - 1))), (3, .int (nI r))]) hx hb dX7_climb_128 hl (k := 4) rfl (nI_1 _) (by decide) rfl (fun ls hl => ?_)
                refine lv_goto (tgt := 92) hx hb dX7_climb_131 (by decide) ?_
                exact ih92 (j + 1) r (by omega) (by omega) (by omega) _ _ _ hP hD hS (lv_sub hl [1, 2, 3, 4, 0] rfl)
              · skip
                refine lv_iload hx hb dX7_climb_125 (lv_at hl 4 rfl) ?_
                refine lv_istore_n (lv' := [(3, .int (nI j)), (0, .ref h0), (1, .int (nI (nod t))), (2, .int (nI (nod t - 1))), (4, .int (nI j))]) hx hb dX7_climb_127 rfl hl (by decide) rfl (fun ls hl => ?_)
                refine lv_iinc (v := (nI (j + 1))) (lv' := [(4, .int (nI (j + 1))), (3, .int (nI j)), (0, .ref h0), (1, .int (nI (nod t))), (2, .int (nI (nod t - 1)))]) hx hb dX7_climb_128 hl (k := 4) rfl (nI_1 _) (by decide) rfl (fun ls hl => ?_)
                refine lv_goto (tgt := 92) hx hb dX7_climb_131 (by decide) ?_
                exact ih92 (j + 1) j (by omega) (by omega) (by omega) _ _ _ hP hD hS (lv_sub hl [2, 3, 4, 1, 0] rfl)
        exact loop92 _ 1 0 (by decide) (by decide) (Nat.lt_succ_self _) _ _ _ hP hD hS (lv_sub hl [3, 4, 2, 1, 0] rfl)
      · skip
        have hnd9 := lt_of_nle (k := nod t) (n := nd) (by omega) (by omega) c15_3; have hfp := fp_lt t (by omega) nd (by omega) ht hnt (by omega)
        refine lv_aload_n hx hb dX7_climb_18 rfl (lv_at hl 0 rfl) ?_
        refine lv_iload_n hx hb dX7_climb_19 rfl (lv_at hl 2 rfl) ?_
        refine k_ci (wr := [(t1, ai g 7 f), (t2, ai g 63 v1)]) hP hD hS hA [0] [1, 2] rfl rfl (by decide) (by decide) (va_runV (As := [.int (nI nd)]) (rest := []) ⟨hx, hb, hml, hown, hts⟩ (c_X7_pairOf_g l g h0 t1 t2 t nd (by first | assumption | omega) (by first | assumption | omega) H.size) (cwV 1 hts gX7_climb_X7_pairOf rfl rfl rfl (by decide +kernel) ⟨Nat.le_of_ble_eq_true rfl, Nat.le_of_ble_eq_true rfl⟩) (k_preV hE hZ hP hD hS hA [0] rfl (by decide) (va_recv hE.1 hP (ci := 7) (q0 := 0) rfl rfl)) rfl rfl hl.1 rfl (lv_room (Nat.le_of_ble_eq_true rfl)) dX7_climb_20 ⟨Nat.le_of_ble_eq_true rfl, Nat.le_of_ble_eq_true rfl⟩) (fun r_7 w1 H locs hw hP hD hS => ?_)
        obtain ⟨rfl, rfl⟩ := hw
        have hP : va_P g.1 vwCl [(t1, ai g 7 f), (t2, ai g 63 v1), (h0, .inr (7, [.int (nI t), .ref t1, .ref t2]))] H := hP
        have hD : va_D A [(t1, ai g 7 f), (t2, ai g 63 v1), (h0, .inr (7, [.int (nI t), .ref t1, .ref t2]))] := hD
        refine lv_istore_n (lv' := [(3, .int (nI (fp t + 2 * (nd - t)))), (0, .ref h0), (1, .int (nI (nod t))), (2, .int (nI nd))]) hx hb dX7_climb_23 rfl hl (by decide) rfl (fun ls hl => ?_)
        refine lv_iconst (v := 0) hx hb dX7_climb_24 (by decide) ?_
        refine lv_istore (lv' := [(4, .int 0), (3, .int (nI (fp t + 2 * (nd - t)))), (0, .ref h0), (1, .int (nI (nod t))), (2, .int (nI nd))]) hx hb dX7_climb_25 hl (by decide) rfl (fun ls hl => ?_)
        have loop27 : ∀ (fu : Nat) (sd : Nat) (v2 : Nat → Int32), (hs : sd ≤ 9) → 9 - sd < fu → ∀ (H : Heap) (locs : List Loc) (ls : Array Slot), va_P g.1 vwCl [(t1, ai g 7 f), (t2, ai g 63 v2), (h0, .inr (7, [.int (nI t), .ref t1, .ref t2]))] H → va_D A [(t1, ai g 7 f), (t2, ai g 63 v2), (h0, .inr (7, [.int (nI t), .ref t1, .ref t2]))] → va_S A s.heap H locs → lv_has ls 5 [(0, .ref h0), (1, .int (nI (nod t))), (2, .int (nI nd)), (3, .int (nI (fp t + 2 * (nd - t)))), (4, .int (nI sd))] → W p l e ({ frames := 1, cells := 0, slots := 0, locals := 27 }) s m [.ref h0].toArray below meth c H locs 0 0 (MQ below (va_Qi (po_X7_climb_g g h0 t1 t2 t f fl) (bk g A) A) [.ref h0].toArray s 0 0 A) (F0 m 27 ls []) := by
          intro fu
          induction fu with
          | zero => intro sd v2 hs hfu; exact absurd hfu (Nat.not_lt_zero _)
          | succ fu ih =>
            intro sd v2 hs hfu H locs ls hP hD hS hl
            have ih27 := ih
            refine lv_iload hx hb dX7_climb_27 (lv_at hl 4 rfl) ?_
            refine lv_bipush (v := 9) hx hb dX7_climb_29 (by decide) ?_
            refine lv_icmp_ge (tgt := 77) hx hb dX7_climb_31 (by decide) (fun c31_9 => ?_) (fun c31_9 => ?_)
            · skip
              refine lv_iinc (v := (nI (nd + 1))) (lv' := [(2, .int (nI (nd + 1))), (0, .ref h0), (1, .int (nI (nod t))), (3, .int (nI (fp t + 2 * (nd - t)))), (4, .int (nI sd))]) hx hb dX7_climb_77 hl (k := 2) rfl (nI_1 _) (by decide) rfl (fun ls hl => ?_)
              refine lv_goto (tgt := 13) hx hb dX7_climb_80 (by decide) ?_
              exact ih13 (nd + 1) _ (by omega) (by omega) (by omega) _ _ _ (hP.sub [2, 0, 1] rfl) (hD.sub [2, 0, 1] (by decide) rfl) hS (lv_sub hl [1, 2, 0] rfl)
            · skip
              have hs9 := lt_of_nle (k := 9) (n := sd) (by decide) (by omega) c31_9
              refine lv_aload_n hx hb dX7_climb_34 rfl (lv_at hl 0 rfl) ?_
              refine va_get (D := g.1) (ci := 7) (v := .ref t2) (C := RX7) (T := TX7) (N := 3) hx hb hts q_X7_climb_g_f7 hown hE.1 hP 2 rfl rfl 2 (by decide) (hts (.fieldLink RX7 15 "SoundLaws$Tree" "least" "[I") q_X7_climb_g_5) (fun _ h9 => h9) rfl dX7_climb_35 ?_
              refine lv_iload_n hx hb dX7_climb_38 rfl (lv_at hl 2 rfl) ?_
              refine lv_bipush (v := 9) hx hb dX7_climb_39 (by decide) ?_
              refine lv_imul hx hb dX7_climb_41 ?_
              refine lv_iload hx hb dX7_climb_42 (lv_at hl 4 rfl) ?_
              refine lv_iadd hx hb dX7_climb_44 ?_
              refine lv_aload_n hx hb dX7_climb_45 rfl (lv_at hl 0 rfl) ?_
              refine va_getsN hx hb hZ.zPAIRS hS hown (va_Nw.use rfl (hE.nw (w := .fieldLinkNest RX7 29 "SoundLaws" "PAIRS" "[I" RX8) 15 rfl)) (fun _ h9 => h9) dX7_climb_46 ?_
              refine lv_iload_n hx hb dX7_climb_49 rfl (lv_at hl 3 rfl) ?_
              refine k_tld (fp t + 2 * (nd - t)) rfl (by omega) hx hb hZ.tPAIRS hS (by decide) (v := tb_PAIRS.getD (fp t + 2 * (nd - t)) 0) rfl dX7_climb_50 ?_
              refine lv_topi (fun x_10 ex_10 => ?_)
              obtain rfl : x_10 = nI (pr (fp t + 2 * (nd - t))) := by rw [ex_10]; exact pr_tb (fp t + 2 * (nd - t)) (by omega)
              have hpl51 := pr_lt (fp t + 2 * (nd - t)) (by omega)
              refine lv_iload hx hb dX7_climb_51 (lv_at hl 4 rfl) ?_
              refine k_ci (wr := []) hP hD hS hA [2, 0, 1] [] rfl rfl (by decide) (by decide) (va_runV (As := [.int (nI (pr (fp t + 2 * (nd - t)))), .int (nI sd)]) (rest := [.int (((nI nd) * 9) + (nI sd)), .ref t2]) ⟨hx, hb, hml, hown, hts⟩ (c_X7_leastBelow_g l g h0 t1 t2 t f v2 (pr (fp t + 2 * (nd - t))) sd (by first | assumption | omega) (by first | assumption | omega) (by first | assumption | omega) H.size) (cwV 2 hts gX7_climb_X7_leastBelow rfl rfl rfl (by decide +kernel) ⟨Nat.le_of_ble_eq_true rfl, Nat.le_of_ble_eq_true rfl⟩) (k_preV hE hZ hP hD hS hA [2, 0, 1] rfl (by decide) (va_recv hE.1 hP (ci := 7) (q0 := 2) rfl rfl)) rfl rfl hl.1 rfl (lv_room (Nat.le_of_ble_eq_true rfl)) dX7_climb_53 ⟨Nat.le_of_ble_eq_true rfl, Nat.le_of_ble_eq_true rfl⟩) (fun r_11 w1 H locs hw hP hD hS => ?_)
              obtain rfl := hw
              have hP : va_P g.1 vwCl [(h0, .inr (7, [.int (nI t), .ref t1, .ref t2])), (t1, ai g 7 f), (t2, ai g 63 v2)] H := hP
              have hD : va_D A [(h0, .inr (7, [.int (nI t), .ref t1, .ref t2])), (t1, ai g 7 f), (t2, ai g 63 v2)] := hD
              refine lv_aload_n hx hb dX7_climb_56 rfl (lv_at hl 0 rfl) ?_
              refine va_getsN hx hb hZ.zPAIRS hS hown (va_Nw.use rfl (hE.nw (w := .fieldLinkNest RX7 29 "SoundLaws" "PAIRS" "[I" RX8) 15 rfl)) (fun _ h9 => h9) dX7_climb_57 ?_
              refine lv_iload_n hx hb dX7_climb_60 rfl (lv_at hl 3 rfl) ?_
              refine lv_iconst (v := 1) hx hb dX7_climb_61 (by decide) ?_
              refine lv_iadd hx hb dX7_climb_62 ?_
              refine k_tld (fp t + 2 * (nd - t) + 1) (nI_1 _) (by omega) hx hb hZ.tPAIRS hS (by decide) (v := tb_PAIRS.getD (fp t + 2 * (nd - t) + 1) 0) rfl dX7_climb_63 ?_
              refine lv_topi (fun x_12 ex_12 => ?_)
              obtain rfl : x_12 = nI (pr (fp t + 2 * (nd - t) + 1)) := by rw [ex_12]; exact pr_tb (fp t + 2 * (nd - t) + 1) (by omega)
              have hpl64 := pr_lt (fp t + 2 * (nd - t) + 1) (by omega)
              refine lv_iload hx hb dX7_climb_64 (lv_at hl 4 rfl) ?_
              refine k_ci (wr := []) hP hD hS hA [0, 1, 2] [] rfl rfl (by decide) (by decide) (va_runV (As := [.int (nI (pr (fp t + 2 * (nd - t) + 1))), .int (nI sd)]) (rest := [.int r_11, .int (((nI nd) * 9) + (nI sd)), .ref t2]) ⟨hx, hb, hml, hown, hts⟩ (c_X7_leastBelow_g l g h0 t1 t2 t f v2 (pr (fp t + 2 * (nd - t) + 1)) sd (by first | assumption | omega) (by first | assumption | omega) (by first | assumption | omega) H.size) (cwV 2 hts gX7_climb_X7_leastBelow rfl rfl rfl (by decide +kernel) ⟨Nat.le_of_ble_eq_true rfl, Nat.le_of_ble_eq_true rfl⟩) (k_preV hE hZ hP hD hS hA [0, 1, 2] rfl (by decide) (va_recv hE.1 hP (ci := 7) (q0 := 0) rfl rfl)) rfl rfl hl.1 rfl (lv_room (Nat.le_of_ble_eq_true rfl)) dX7_climb_66 ⟨Nat.le_of_ble_eq_true rfl, Nat.le_of_ble_eq_true rfl⟩) (fun r_13 w1 H locs hw hP hD hS => ?_)
              obtain rfl := hw
              have hP : va_P g.1 vwCl [(h0, .inr (7, [.int (nI t), .ref t1, .ref t2])), (t1, ai g 7 f), (t2, ai g 63 v2)] H := hP
              have hD : va_D A [(h0, .inr (7, [.int (nI t), .ref t1, .ref t2])), (t1, ai g 7 f), (t2, ai g 63 v2)] := hD
              refine lv_iadd hx hb dX7_climb_69 ?_
              refine lv_topi (fun x_14 ex_14 => ?_)
              refine k_ast (x := x_14) (9 * nd + sd) (by rw [show (9 : Int32) = nI 9 from rfl, pk_mul, nI_add, Nat.mul_comm]) (by omega) hx hb hE hP hD hS 2 rfl (by decide) dX7_climb_70 (fun H locs hP hD hS => ?_)
              have hP : va_P g.1 vwCl [(h0, .inr (7, [.int (nI t), .ref t1, .ref t2])), (t1, ai g 7 f), (t2, ai g 63 (upd v2 (9 * nd + sd) x_14))] H := hP
              have hD : va_D A [(h0, .inr (7, [.int (nI t), .ref t1, .ref t2])), (t1, ai g 7 f), (t2, ai g 63 (upd v2 (9 * nd + sd) x_14))] := hD
              refine lv_iinc (v := (nI (sd + 1))) (lv' := [(4, .int (nI (sd + 1))), (0, .ref h0), (1, .int (nI (nod t))), (2, .int (nI nd)), (3, .int (nI (fp t + 2 * (nd - t))))]) hx hb dX7_climb_71 hl (k := 4) rfl (nI_1 _) (by decide) rfl (fun ls hl => ?_)
              refine lv_goto (tgt := 27) hx hb dX7_climb_74 (by decide) ?_
              exact ih27 (sd + 1) _ (by omega) (by omega) _ _ _ (hP.sub [1, 2, 0] rfl) (hD.sub [1, 2, 0] (by decide) rfl) hS (lv_sub hl [1, 2, 3, 4, 0] rfl)
        exact loop27 _ 0 v1 (Nat.zero_le 9) (Nat.lt_succ_self _) _ _ _ hP hD hS (lv_sub hl [2, 3, 4, 1, 0] rfl)
  exact loop13 _ t fl (Nat.le_refl t) (by omega) (Nat.lt_succ_self _) _ _ _ hP hD hS (lv_sub hl [2, 1, 0] rfl)
def po_X8_costOf_g (g : GG) (i : Nat) (j : Nat) : Int32 → va_W → Prop := fun (r : Int32) w => w = [] ∧ (cs i j = r)
theorem q_X8_costOf_g_0 : (Cond.fieldLink RX8 288 "SoundLaws" "COSTS" "[I") ∈ wsX8_costOf := by decide +kernel
set_option maxHeartbeats 1500000 in
set_option maxRecDepth 100000 in
theorem c_X8_costOf_g (l : Launch) (g : GG) (i : Nat) (j : Nat) (hi : i < 9) (hj : j < 9) (sz : Nat) : MetI l yX8_costOf wsX8_costOf ({ frames := 0, cells := 0, slots := 0, locals := 0 }) g [.int (nI i), .int (nI j)] [] sz (po_X8_costOf_g g i j) 0 0 := by
  refine k_of (l := l) (y := yX8_costOf) (ws := wsX8_costOf) (rm := { frames := 0, cells := 0, slots := 0, locals := 0 }) (mc := 0) (ms := 0) (av := [.int (nI i), .int (nI j)]) (g := g) (wc := []) (Qc := fun A => va_Qi (po_X8_costOf_g g i j) (bk g A) A) (cc := cX8_costOf) (maxL := 2) (ret := (some .int)) (by decide) rfl (Nat.le_of_ble_eq_true rfl) ?_ sz
  intro p e s m below meth c hx hb hr hts hown hlocks hnm hml A hA hE hZ hP hD hS ls hl
  have hown : s.vm.findClass RX8 = some m.cls := hown
  have hl : lv_has ls 2 [(0, .int (nI i)), (1, .int (nI j))] := hl
  refine va_gets hx hb hZ.zCOSTS hS hown (hts (.fieldLink RX8 288 "SoundLaws" "COSTS" "[I") q_X8_costOf_g_0) (fun _ h9 => h9) dX8_costOf_0 ?_
  refine lv_iload_n hx hb dX8_costOf_3 rfl (lv_at hl 0 rfl) ?_
  refine lv_bipush (v := 9) hx hb dX8_costOf_4 (by decide) ?_
  refine lv_imul hx hb dX8_costOf_6 ?_
  refine lv_iload_n hx hb dX8_costOf_7 rfl (lv_at hl 1 rfl) ?_
  refine lv_iadd hx hb dX8_costOf_8 ?_
  refine k_tld (9 * i + j) (by rw [show (9 : Int32) = nI 9 from rfl, pk_mul, nI_add, Nat.mul_comm]) (by omega) hx hb hZ.tCOSTS hS (by decide) (v := tb_COSTS.getD (9 * i + j) 0) rfl dX8_costOf_9 ?_
  refine W.widen (k := 0) (n := 0) (Nat.le_of_ble_eq_true rfl) (Nat.le_of_ble_eq_true rfl) ?_
  exact k_ri hx hb hr hlocks hS hP hD ⟨rfl, rfl⟩ dX8_costOf_10
def po_X7_settle_g (g : GG) (h0 : Nat) (t1 : Nat) (t2 : Nat) (t : Nat) (f : Nat → Int32) (fl : Nat → Int32) (nd : Nat) (ab : Nat) : va_W → Prop := fun w => ∃ (f2 : Nat → Int32), w = [(h0, .inr (7, [.int (nI t), .ref t1, .ref t2])), (t1, ai g 7 f2), (t2, ai g 63 fl)] ∧ (rng 7 9 f2)
theorem q_X7_settle_g_f7 : ∀ w ∈ u_ws RX7 TX7 3, w ∈ wsX7_settle := by decide +kernel
theorem q_X7_settle_g_1 : (Cond.fieldLink RX7 18 "SoundLaws$Tree" "tongues" "I") ∈ wsX7_settle := by decide +kernel
theorem q_X7_settle_g_2 : (Cond.initialized RX8) ∈ wsX7_settle := by decide +kernel
theorem q_X7_settle_g_3 : (Cond.static yX8_costOf) ∈ wsX7_settle := by decide +kernel
theorem q_X7_settle_g_4 : (Cond.fieldLink RX7 15 "SoundLaws$Tree" "least" "[I") ∈ wsX7_settle := by decide +kernel
theorem q_X7_settle_g_5 : (Cond.fieldLink RX7 9 "SoundLaws$Tree" "sounds" "[I") ∈ wsX7_settle := by decide +kernel
set_option maxHeartbeats 1500000 in
set_option maxRecDepth 100000 in
theorem c_X7_settle_g (l : Launch) (g : GG) (h0 : Nat) (t1 : Nat) (t2 : Nat) (t : Nat) (f : Nat → Int32) (fl : Nat → Int32) (nd : Nat) (ab : Nat) (hnd : nd < 7) (hab : ab < 9) (hf : rng 7 9 f) (sz : Nat) : MetV l yX7_settle wsX7_settle ({ frames := 1, cells := 0, slots := 0, locals := 21 }) g [.ref h0, .int (nI nd), .int (nI ab)] [(h0, .inr (7, [.int (nI t), .ref t1, .ref t2])), (t1, ai g 7 f), (t2, ai g 63 fl)] sz (po_X7_settle_g g h0 t1 t2 t f fl nd ab) 0 0 := by
  refine k_of (l := l) (y := yX7_settle) (ws := wsX7_settle) (rm := { frames := 1, cells := 0, slots := 0, locals := 21 }) (mc := 0) (ms := 0) (av := [.ref h0, .int (nI nd), .int (nI ab)]) (g := g) (wc := [(h0, .inr (7, [.int (nI t), .ref t1, .ref t2])), (t1, ai g 7 f), (t2, ai g 63 fl)]) (Qc := fun A => va_Qv (po_X7_settle_g g h0 t1 t2 t f fl nd ab) (bk g A) A) (cc := cX7_settle) (maxL := 7) (ret := none) (by decide) rfl (Nat.le_of_ble_eq_true rfl) ?_ sz
  intro p e s m below meth c hx hb hr hts hown hlocks hnm hml A hA hE hZ hP hD hS ls hl
  have hown : s.vm.findClass RX7 = some m.cls := hown
  have hl : lv_has ls 7 [(0, .ref h0), (1, .int (nI nd)), (2, .int (nI ab))] := hl
  refine lv_iload_n hx hb dX7_settle_0 rfl (lv_at hl 1 rfl) ?_
  refine lv_aload_n hx hb dX7_settle_1 rfl (lv_at hl 0 rfl) ?_
  refine va_get (D := g.1) (ci := 7) (v := .int (nI t)) (C := RX7) (T := TX7) (N := 3) hx hb hts q_X7_settle_g_f7 hown hE.1 hP 0 rfl rfl 0 (by decide) (hts (.fieldLink RX7 18 "SoundLaws$Tree" "tongues" "I") q_X7_settle_g_1) (fun _ h9 => h9) rfl dX7_settle_2 ?_
  refine lv_icmp_ge (tgt := 9) hx hb dX7_settle_5 (by decide) (fun c5_1 => ?_) (fun c5_1 => ?_)
  · skip
    refine lv_iconst (v := 0) hx hb dX7_settle_9 (by decide) ?_
    refine lv_istore_n (lv' := [(3, .int 0), (0, .ref h0), (1, .int (nI nd)), (2, .int (nI ab))]) hx hb dX7_settle_10 rfl hl (by decide) rfl (fun ls hl => ?_)
    refine lv_iload_n hx hb dX7_settle_11 rfl (lv_at hl 3 rfl) ?_
    refine lv_iconst (v := 0) hx hb dX7_settle_12 (by decide) ?_
    refine k_ci (wr := [(h0, .inr (7, [.int (nI t), .ref t1, .ref t2])), (t1, ai g 7 f), (t2, ai g 63 fl)]) hP hD hS hA [] [0, 1, 2] rfl rfl (by decide) (by decide) (va_runSN (As := [.int (nI ab), .int 0]) (rest := []) ⟨hx, hb, hml, hown, hts⟩ (c_X8_costOf_g l g ab 0 (by first | assumption | omega) (by first | assumption | omega) s.heap.size) ⟨va_cnB 2 hts gX7_settle_X8_costOf_n50 rfl rfl rfl (hE.nw 17 rfl) (hts (.initialized RX8) q_X7_settle_g_2) (by decide +kernel) ⟨Nat.le_of_ble_eq_true rfl, Nat.le_of_ble_eq_true rfl⟩, (hts (.static yX8_costOf) q_X7_settle_g_3), trivial⟩ (k_preS hE hZ hP hD hS hA [] rfl (by decide)) rfl rfl hl.1 rfl (lv_room (Nat.le_of_ble_eq_true rfl)) dX7_settle_13 ⟨Nat.le_of_ble_eq_true rfl, Nat.le_of_ble_eq_true rfl⟩) (fun r_2 w1 H locs hw hP hD hS => ?_)
    obtain ⟨rfl, rfl⟩ := hw
    have hP : va_P g.1 vwCl [(h0, .inr (7, [.int (nI t), .ref t1, .ref t2])), (t1, ai g 7 f), (t2, ai g 63 fl)] H := hP
    have hD : va_D A [(h0, .inr (7, [.int (nI t), .ref t1, .ref t2])), (t1, ai g 7 f), (t2, ai g 63 fl)] := hD
    refine lv_aload_n hx hb dX7_settle_16 rfl (lv_at hl 1 rfl) ?_
    refine va_get (D := g.1) (ci := 7) (v := .ref t2) (C := RX7) (T := TX7) (N := 3) hx hb hts q_X7_settle_g_f7 hown hE.1 hP 0 rfl rfl 2 (by decide) (hts (.fieldLink RX7 15 "SoundLaws$Tree" "least" "[I") q_X7_settle_g_4) (fun _ h9 => h9) rfl dX7_settle_17 ?_
    refine lv_iload_n hx hb dX7_settle_20 rfl (lv_at hl 2 rfl) ?_
    refine lv_bipush (v := 9) hx hb dX7_settle_21 (by decide) ?_
    refine lv_imul hx hb dX7_settle_23 ?_
    refine k_ald (9 * nd + 0) (by rw [show (9 : Int32) = nI 9 from rfl, pk_mul, Nat.mul_comm]; rfl) (by omega) hx hb hE hP 2 rfl (by decide) dX7_settle_24 ?_
    refine lv_iadd hx hb dX7_settle_25 ?_
    refine lv_topi (fun x4 ex4 => ?_)
    refine lv_istore (lv' := [(4, .int x4), (3, .int 0), (0, .ref h0), (1, .int (nI nd)), (2, .int (nI ab))]) hx hb dX7_settle_26 hl (by decide) rfl (fun ls hl => ?_)
    refine lv_iconst (v := 1) hx hb dX7_settle_28 (by decide) ?_
    refine lv_istore (lv' := [(5, .int 1), (4, .int x4), (3, .int 0), (0, .ref h0), (1, .int (nI nd)), (2, .int (nI ab))]) hx hb dX7_settle_29 hl (by decide) rfl (fun ls hl => ?_)
    have loop31 : ∀ (fu : Nat) (j r : Nat) (x4 : Int32), (hj : j ≤ 9) → (hr9 : r < 9) → 9 - j < fu → ∀ (H : Heap) (locs : List Loc) (ls : Array Slot), va_P g.1 vwCl [(h0, .inr (7, [.int (nI t), .ref t1, .ref t2])), (t1, ai g 7 f), (t2, ai g 63 fl)] H → va_D A [(h0, .inr (7, [.int (nI t), .ref t1, .ref t2])), (t1, ai g 7 f), (t2, ai g 63 fl)] → va_S A s.heap H locs → lv_has ls 7 [(0, .ref h0), (1, .int (nI nd)), (2, .int (nI ab)), (3, .int (nI r)), (4, .int x4), (5, .int (nI j))] → W p l e ({ frames := 1, cells := 0, slots := 0, locals := 21 }) s m [.ref h0, .int (nI nd), .int (nI ab)].toArray below meth c H locs 0 0 (MQ below (va_Qv (po_X7_settle_g g h0 t1 t2 t f fl nd ab) (bk g A) A) [.ref h0, .int (nI nd), .int (nI ab)].toArray s 0 0 A) (F0 m 31 ls []) := by
      intro fu
      induction fu with
      | zero => intro j r x4 hj hr9 hfu; exact absurd hfu (Nat.not_lt_zero _)
      | succ fu ih =>
        intro j r x4 hj hr9 hfu H locs ls hP hD hS hl
        have ih31 := ih
        refine lv_iload hx hb dX7_settle_31 (lv_at hl 5 rfl) ?_
        refine lv_bipush (v := 9) hx hb dX7_settle_33 (by decide) ?_
        refine lv_icmp_ge (tgt := 79) hx hb dX7_settle_35 (by decide) (fun c35_4 => ?_) (fun c35_4 => ?_)
        · skip
          refine lv_aload_n hx hb dX7_settle_79 rfl (lv_at hl 0 rfl) ?_
          refine va_get (D := g.1) (ci := 7) (v := .ref t1) (C := RX7) (T := TX7) (N := 3) hx hb hts q_X7_settle_g_f7 hown hE.1 hP 0 rfl rfl 1 (by decide) (hts (.fieldLink RX7 9 "SoundLaws$Tree" "sounds" "[I") q_X7_settle_g_5) (fun _ h9 => h9) rfl dX7_settle_80 ?_
          refine lv_iload_n hx hb dX7_settle_83 rfl (lv_at hl 1 rfl) ?_
          refine lv_iload_n hx hb dX7_settle_84 rfl (lv_at hl 3 rfl) ?_
          refine k_ast (x := (nI r)) nd rfl (by omega) hx hb hE hP hD hS 1 rfl (by decide) dX7_settle_85 (fun H locs hP hD hS => ?_)
          have hP : va_P g.1 vwCl [(h0, .inr (7, [.int (nI t), .ref t1, .ref t2])), (t1, ai g 7 (upd f nd (nI r))), (t2, ai g 63 fl)] H := hP
          have hD : va_D A [(h0, .inr (7, [.int (nI t), .ref t1, .ref t2])), (t1, ai g 7 (upd f nd (nI r))), (t2, ai g 63 fl)] := hD
          refine W.widen (k := 0) (n := 0) (Nat.le_of_ble_eq_true rfl) (Nat.le_of_ble_eq_true rfl) ?_
          exact k_rv hx hb hr hlocks hS hP hD ⟨(upd f nd (nI r)), rfl, (rng_upd hf hr9)⟩ dX7_settle_86
        · skip
          have hj9 := lt_of_nle (k := 9) (n := j) (by decide) (by omega) c35_4
          refine lv_iload_n hx hb dX7_settle_38 rfl (lv_at hl 2 rfl) ?_
          refine lv_iload hx hb dX7_settle_39 (lv_at hl 5 rfl) ?_
          refine k_ci (wr := [(h0, .inr (7, [.int (nI t), .ref t1, .ref t2])), (t1, ai g 7 f), (t2, ai g 63 fl)]) hP hD hS hA [] [0, 1, 2] rfl rfl (by decide) (by decide) (va_runSN (As := [.int (nI ab), .int (nI j)]) (rest := []) ⟨hx, hb, hml, hown, hts⟩ (c_X8_costOf_g l g ab j (by first | assumption | omega) (by first | assumption | omega) H.size) ⟨va_cnB 2 hts gX7_settle_X8_costOf_n50 rfl rfl rfl (hE.nw 17 rfl) (hts (.initialized RX8) q_X7_settle_g_2) (by decide +kernel) ⟨Nat.le_of_ble_eq_true rfl, Nat.le_of_ble_eq_true rfl⟩, (hts (.static yX8_costOf) q_X7_settle_g_3), trivial⟩ (k_preS hE hZ hP hD hS hA [] rfl (by decide)) rfl rfl hl.1 rfl (lv_room (Nat.le_of_ble_eq_true rfl)) dX7_settle_41 ⟨Nat.le_of_ble_eq_true rfl, Nat.le_of_ble_eq_true rfl⟩) (fun r_5 w1 H locs hw hP hD hS => ?_)
          obtain ⟨rfl, rfl⟩ := hw
          have hP : va_P g.1 vwCl [(h0, .inr (7, [.int (nI t), .ref t1, .ref t2])), (t1, ai g 7 f), (t2, ai g 63 fl)] H := hP
          have hD : va_D A [(h0, .inr (7, [.int (nI t), .ref t1, .ref t2])), (t1, ai g 7 f), (t2, ai g 63 fl)] := hD
          refine lv_aload_n hx hb dX7_settle_44 rfl (lv_at hl 0 rfl) ?_
          refine va_get (D := g.1) (ci := 7) (v := .ref t2) (C := RX7) (T := TX7) (N := 3) hx hb hts q_X7_settle_g_f7 hown hE.1 hP 0 rfl rfl 2 (by decide) (hts (.fieldLink RX7 15 "SoundLaws$Tree" "least" "[I") q_X7_settle_g_4) (fun _ h9 => h9) rfl dX7_settle_45 ?_
          refine lv_iload_n hx hb dX7_settle_48 rfl (lv_at hl 1 rfl) ?_
          refine lv_bipush (v := 9) hx hb dX7_settle_49 (by decide) ?_
          refine lv_imul hx hb dX7_settle_51 ?_
          refine lv_iload hx hb dX7_settle_52 (lv_at hl 5 rfl) ?_
          refine lv_iadd hx hb dX7_settle_54 ?_
          refine k_ald (9 * nd + j) (by rw [show (9 : Int32) = nI 9 from rfl, pk_mul, nI_add, Nat.mul_comm]) (by omega) hx hb hE hP 2 rfl (by decide) dX7_settle_55 ?_
          refine lv_iadd hx hb dX7_settle_56 ?_
          refine lv_topi (fun x_7 ex_7 => ?_)
          refine lv_istore (lv' := [(6, .int x_7), (0, .ref h0), (1, .int (nI nd)), (2, .int (nI ab)), (3, .int (nI r)), (4, .int x4), (5, .int (nI j))]) hx hb dX7_settle_57 hl (by decide) rfl (fun ls hl => ?_)
          refine lv_iload hx hb dX7_settle_59 (lv_at hl 0 rfl) ?_
          refine lv_iload hx hb dX7_settle_61 (lv_at hl 5 rfl) ?_
          refine lv_icmp_ge (tgt := 73) hx hb dX7_settle_63 (by decide) (fun c63_8 => ?_) (fun c63_8 => ?_)
          · skip
            refine lv_iinc (v := (nI (j + 1))) (lv' := [(5, .int (nI (j + 1))), (6, .int x_7), (0, .ref h0), (1, .int (nI nd)), (2, .int (nI ab)), (3, .int (nI r)), (4, .int x4)]) hx hb dX7_settle_73 hl (k := 6) rfl (nI_1 _) (by decide) rfl (fun ls hl => ?_)
            refine lv_goto (tgt := 31) hx hb dX7_settle_76 (by decide) ?_
            exact ih31 (j + 1) r _ (by omega) (by omega) (by omega) _ _ _ hP hD hS (lv_sub hl [2, 3, 4, 5, 6, 0] rfl)
          · skip
            refine lv_iload hx hb dX7_settle_66 (lv_at hl 0 rfl) ?_
            refine lv_istore (lv' := [(4, .int x_7), (6, .int x_7), (0, .ref h0), (1, .int (nI nd)), (2, .int (nI ab)), (3, .int (nI r)), (5, .int (nI j))]) hx hb dX7_settle_68 hl (by decide) rfl (fun ls hl => ?_)
            refine lv_iload hx hb dX7_settle_70 (lv_at hl 6 rfl) ?_
            refine lv_istore_n (lv' := [(3, .int (nI j)), (4, .int x_7), (6, .int x_7), (0, .ref h0), (1, .int (nI nd)), (2, .int (nI ab)), (5, .int (nI j))]) hx hb dX7_settle_72 rfl hl (by decide) rfl (fun ls hl => ?_)
            refine lv_iinc (v := (nI (j + 1))) (lv' := [(5, .int (nI (j + 1))), (3, .int (nI j)), (4, .int x_7), (6, .int x_7), (0, .ref h0), (1, .int (nI nd)), (2, .int (nI ab))]) hx hb dX7_settle_73 hl (k := 6) rfl (nI_1 _) (by decide) rfl (fun ls hl => ?_)
            refine lv_goto (tgt := 31) hx hb dX7_settle_76 (by decide) ?_
            exact ih31 (j + 1) j _ (by omega) (by omega) (by omega) _ _ _ hP hD hS (lv_sub hl [4, 5, 6, 1, 2, 0] rfl)
    exact loop31 _ 1 0 _ (by decide) (by decide) (Nat.lt_succ_self _) _ _ _ hP hD hS (lv_sub hl [3, 4, 5, 2, 1, 0] rfl)
  · skip
    refine W.widen (k := 0) (n := 0) (Nat.le_of_ble_eq_true rfl) (Nat.le_of_ble_eq_true rfl) ?_
    exact k_rv hx hb hr hlocks hS hP hD ⟨f, rfl, hf⟩ dX7_settle_8
def po_X7_descend_g (g : GG) (h0 : Nat) (t1 : Nat) (t2 : Nat) (t : Nat) (f : Nat → Int32) (fl : Nat → Int32) : va_W → Prop := fun w => ∃ (f2 : Nat → Int32), w = [(h0, .inr (7, [.int (nI t), .ref t1, .ref t2])), (t1, ai g 7 f2), (t2, ai g 63 fl)] ∧ (rng 7 9 f2)
theorem q_X7_descend_g_f7 : ∀ w ∈ u_ws RX7 TX7 3, w ∈ wsX7_descend := by decide +kernel
theorem q_X7_descend_g_1 : (Cond.fieldLink RX7 18 "SoundLaws$Tree" "tongues" "I") ∈ wsX7_descend := by decide +kernel
theorem q_X7_descend_g_2 : (Cond.fieldLink RX7 9 "SoundLaws$Tree" "sounds" "[I") ∈ wsX7_descend := by decide +kernel
set_option maxHeartbeats 1500000 in
set_option maxRecDepth 100000 in
theorem c_X7_descend_g (l : Launch) (g : GG) (h0 : Nat) (t1 : Nat) (t2 : Nat) (t : Nat) (f : Nat → Int32) (fl : Nat → Int32) (ht : 2 ≤ t) (ht4 : t ≤ 4) (hf : rng 7 9 f) (sz : Nat) : MetV l yX7_descend wsX7_descend ({ frames := 2, cells := 0, slots := 0, locals := 47 }) g [.ref h0] [(h0, .inr (7, [.int (nI t), .ref t1, .ref t2])), (t1, ai g 7 f), (t2, ai g 63 fl)] sz (po_X7_descend_g g h0 t1 t2 t f fl) 0 0 := by
  refine k_of (l := l) (y := yX7_descend) (ws := wsX7_descend) (rm := { frames := 2, cells := 0, slots := 0, locals := 47 }) (mc := 0) (ms := 0) (av := [.ref h0]) (g := g) (wc := [(h0, .inr (7, [.int (nI t), .ref t1, .ref t2])), (t1, ai g 7 f), (t2, ai g 63 fl)]) (Qc := fun A => va_Qv (po_X7_descend_g g h0 t1 t2 t f fl) (bk g A) A) (cc := cX7_descend) (maxL := 3) (ret := none) (by decide) rfl (Nat.le_of_ble_eq_true rfl) ?_ sz
  intro p e s m below meth c hx hb hr hts hown hlocks hnm hml A hA hE hZ hP hD hS ls hl
  have hown : s.vm.findClass RX7 = some m.cls := hown
  have hl : lv_has ls 3 [(0, .ref h0)] := hl
  refine lv_aload_n hx hb dX7_descend_0 rfl (lv_at hl 0 rfl) ?_
  refine k_ci (wr := [(t1, ai g 7 f), (t2, ai g 63 fl)]) hP hD hS hA [0] [1, 2] rfl rfl (by decide) (by decide) (va_runV (As := []) (rest := []) ⟨hx, hb, hml, hown, hts⟩ (c_X7_root_g l g h0 t1 t2 t (by first | assumption | omega) (by first | assumption | omega) s.heap.size) (cwV 0 hts gX7_descend_X7_root rfl rfl rfl (by decide +kernel) ⟨Nat.le_of_ble_eq_true rfl, Nat.le_of_ble_eq_true rfl⟩) (k_preV hE hZ hP hD hS hA [0] rfl (by decide) (va_recv hE.1 hP (ci := 7) (q0 := 0) rfl rfl)) rfl rfl hl.1 rfl (lv_room (Nat.le_of_ble_eq_true rfl)) dX7_descend_1 ⟨Nat.le_of_ble_eq_true rfl, Nat.le_of_ble_eq_true rfl⟩) (fun r_1 w1 H locs hw hP hD hS => ?_)
  obtain ⟨rfl, rfl⟩ := hw
  have hP : va_P g.1 vwCl [(t1, ai g 7 f), (t2, ai g 63 fl), (h0, .inr (7, [.int (nI t), .ref t1, .ref t2]))] H := hP
  have hD : va_D A [(t1, ai g 7 f), (t2, ai g 63 fl), (h0, .inr (7, [.int (nI t), .ref t1, .ref t2]))] := hD
  have hno := nod_eq ht; have hno7 := nod_le ht4
  refine lv_istore_n (lv' := [(1, .int (nI (nod t - 1))), (0, .ref h0)]) hx hb dX7_descend_4 rfl hl (by decide) rfl (fun ls hl => ?_)
  have loop5 : ∀ (fu : Nat) (nd : Nat) (v1 : Nat → Int32), (hn1 : t - 1 ≤ nd) → (hn2 : nd < nod t) → (hv : rng 7 9 v1) → nd < fu → ∀ (H : Heap) (locs : List Loc) (ls : Array Slot), va_P g.1 vwCl [(t1, ai g 7 v1), (t2, ai g 63 fl), (h0, .inr (7, [.int (nI t), .ref t1, .ref t2]))] H → va_D A [(t1, ai g 7 v1), (t2, ai g 63 fl), (h0, .inr (7, [.int (nI t), .ref t1, .ref t2]))] → va_S A s.heap H locs → lv_has ls 3 [(0, .ref h0), (1, .int (nI nd))] → W p l e ({ frames := 2, cells := 0, slots := 0, locals := 47 }) s m [.ref h0].toArray below meth c H locs 0 0 (MQ below (va_Qv (po_X7_descend_g g h0 t1 t2 t f fl) (bk g A) A) [.ref h0].toArray s 0 0 A) (F0 m 5 ls []) := by
    intro fu
    induction fu with
    | zero => intro nd v1 hn1 hn2 hv hfu; exact absurd hfu (Nat.not_lt_zero _)
    | succ fu ih =>
      intro nd v1 hn1 hn2 hv hfu H locs ls hP hD hS hl
      have ih5 := ih
      refine lv_iload_n hx hb dX7_descend_5 rfl (lv_at hl 1 rfl) ?_
      refine lv_aload_n hx hb dX7_descend_6 rfl (lv_at hl 0 rfl) ?_
      refine va_get (D := g.1) (ci := 7) (v := .int (nI t)) (C := RX7) (T := TX7) (N := 3) hx hb hts q_X7_descend_g_f7 hown hE.1 hP 2 rfl rfl 0 (by decide) (hts (.fieldLink RX7 18 "SoundLaws$Tree" "tongues" "I") q_X7_descend_g_1) (fun _ h9 => h9) rfl dX7_descend_7 ?_
      refine lv_icmp_lt (tgt := 57) hx hb dX7_descend_10 (by decide) (fun c10_3 => ?_) (fun c10_3 => ?_)
      · skip
        refine W.widen (k := 0) (n := 0) (Nat.le_of_ble_eq_true rfl) (Nat.le_of_ble_eq_true rfl) ?_
        have hP9 := hP.sub (ws' := [(h0, .inr (7, [.int (nI t), .ref t1, .ref t2])), (t1, ai g 7 v1), (t2, ai g 63 fl)]) [2, 0, 1] rfl
        have hD9 := hD.sub (ws' := [(h0, .inr (7, [.int (nI t), .ref t1, .ref t2])), (t1, ai g 7 v1), (t2, ai g 63 fl)]) [2, 0, 1] (by decide) rfl
        exact k_rv hx hb hr hlocks hS hP9 hD9 ⟨v1, rfl, hv⟩ dX7_descend_57
      · skip
        have hnt : t ≤ nd := ge_of_nlt (by omega) (by omega) c10_3
        have hfp := fp_lt t (by omega) nd (by omega) ht hnt (by omega)
        refine lv_aload_n hx hb dX7_descend_13 rfl (lv_at hl 0 rfl) ?_
        refine lv_iload_n hx hb dX7_descend_14 rfl (lv_at hl 1 rfl) ?_
        refine k_ci (wr := [(t1, ai g 7 v1), (t2, ai g 63 fl)]) hP hD hS hA [2] [0, 1] rfl rfl (by decide) (by decide) (va_runV (As := [.int (nI nd)]) (rest := []) ⟨hx, hb, hml, hown, hts⟩ (c_X7_pairOf_g l g h0 t1 t2 t nd (by first | assumption | omega) (by first | assumption | omega) H.size) (cwV 1 hts gX7_descend_X7_pairOf rfl rfl rfl (by decide +kernel) ⟨Nat.le_of_ble_eq_true rfl, Nat.le_of_ble_eq_true rfl⟩) (k_preV hE hZ hP hD hS hA [2] rfl (by decide) (va_recv hE.1 hP (ci := 7) (q0 := 2) rfl rfl)) rfl rfl hl.1 rfl (lv_room (Nat.le_of_ble_eq_true rfl)) dX7_descend_15 ⟨Nat.le_of_ble_eq_true rfl, Nat.le_of_ble_eq_true rfl⟩) (fun r_4 w1 H locs hw hP hD hS => ?_)
        obtain ⟨rfl, rfl⟩ := hw
        have hP : va_P g.1 vwCl [(t1, ai g 7 v1), (t2, ai g 63 fl), (h0, .inr (7, [.int (nI t), .ref t1, .ref t2]))] H := hP
        have hD : va_D A [(t1, ai g 7 v1), (t2, ai g 63 fl), (h0, .inr (7, [.int (nI t), .ref t1, .ref t2]))] := hD
        refine lv_istore_n (lv' := [(2, .int (nI (fp t + 2 * (nd - t)))), (0, .ref h0), (1, .int (nI nd))]) hx hb dX7_descend_18 rfl hl (by decide) rfl (fun ls hl => ?_)
        refine lv_aload_n hx hb dX7_descend_19 rfl (lv_at hl 1 rfl) ?_
        refine va_getsN hx hb hZ.zPAIRS hS hown (va_Nw.use rfl (hE.nw (w := .fieldLinkNest RX7 29 "SoundLaws" "PAIRS" "[I" RX8) 15 rfl)) (fun _ h9 => h9) dX7_descend_20 ?_
        refine lv_iload_n hx hb dX7_descend_23 rfl (lv_at hl 0 rfl) ?_
        refine k_tld (fp t + 2 * (nd - t)) rfl (by omega) hx hb hZ.tPAIRS hS (by decide) (v := tb_PAIRS.getD (fp t + 2 * (nd - t)) 0) rfl dX7_descend_24 ?_
        refine lv_topi (fun x_6 ex_6 => ?_)
        obtain rfl : x_6 = nI (pr (fp t + 2 * (nd - t))) := by rw [ex_6]; exact pr_tb (fp t + 2 * (nd - t)) (by omega)
        have hpl25 := pr_lt (fp t + 2 * (nd - t)) (by omega)
        refine lv_aload_n hx hb dX7_descend_25 rfl (lv_at hl 1 rfl) ?_
        refine va_get (D := g.1) (ci := 7) (v := .ref t1) (C := RX7) (T := TX7) (N := 3) hx hb hts q_X7_descend_g_f7 hown hE.1 hP 2 rfl rfl 1 (by decide) (hts (.fieldLink RX7 9 "SoundLaws$Tree" "sounds" "[I") q_X7_descend_g_2) (fun _ h9 => h9) rfl dX7_descend_26 ?_
        refine lv_iload_n hx hb dX7_descend_29 rfl (lv_at hl 2 rfl) ?_
        refine k_ald nd rfl (by omega) hx hb hE hP 0 rfl (by decide) dX7_descend_30 ?_
        obtain ⟨b1, hb19, eb1⟩ := hv nd (by omega)
        refine lv_topi (fun x_7 ex_7 => ?_)
        obtain rfl : x_7 = nI b1 := by rw [ex_7]; exact eb1
        refine k_cv (wr := []) hP hD hS hA [2, 0, 1] [] rfl rfl (by decide) (by decide) (va_runV (As := [.int (nI (pr (fp t + 2 * (nd - t)))), .int (nI b1)]) (rest := []) ⟨hx, hb, hml, hown, hts⟩ (c_X7_settle_g l g h0 t1 t2 t v1 fl (pr (fp t + 2 * (nd - t))) b1 (by first | assumption | omega) (by first | assumption | omega) (by first | assumption | omega) H.size) (cwV 2 hts gX7_descend_X7_settle rfl rfl rfl (by decide +kernel) ⟨Nat.le_of_ble_eq_true rfl, Nat.le_of_ble_eq_true rfl⟩) (k_preV hE hZ hP hD hS hA [2, 0, 1] rfl (by decide) (va_recv hE.1 hP (ci := 7) (q0 := 2) rfl rfl)) rfl rfl hl.1 rfl (lv_room (Nat.le_of_ble_eq_true rfl)) dX7_descend_31 ⟨Nat.le_of_ble_eq_true rfl, Nat.le_of_ble_eq_true rfl⟩) (fun w1 H locs hw hP hD hS => ?_)
        obtain ⟨f2_9, rfl, hf2_10⟩ := hw
        have hP : va_P g.1 vwCl [(h0, .inr (7, [.int (nI t), .ref t1, .ref t2])), (t1, ai g 7 f2_9), (t2, ai g 63 fl)] H := hP
        have hD : va_D A [(h0, .inr (7, [.int (nI t), .ref t1, .ref t2])), (t1, ai g 7 f2_9), (t2, ai g 63 fl)] := hD
        refine lv_aload_n hx hb dX7_descend_34 rfl (lv_at hl 1 rfl) ?_
        refine va_getsN hx hb hZ.zPAIRS hS hown (va_Nw.use rfl (hE.nw (w := .fieldLinkNest RX7 29 "SoundLaws" "PAIRS" "[I" RX8) 15 rfl)) (fun _ h9 => h9) dX7_descend_35 ?_
        refine lv_iload_n hx hb dX7_descend_38 rfl (lv_at hl 0 rfl) ?_
        refine lv_iconst (v := 1) hx hb dX7_descend_39 (by decide) ?_
        refine lv_iadd hx hb dX7_descend_40 ?_
        refine k_tld (fp t + 2 * (nd - t) + 1) (nI_1 _) (by omega) hx hb hZ.tPAIRS hS (by decide) (v := tb_PAIRS.getD (fp t + 2 * (nd - t) + 1) 0) rfl dX7_descend_41 ?_
        refine lv_topi (fun x_11 ex_11 => ?_)
        obtain rfl : x_11 = nI (pr (fp t + 2 * (nd - t) + 1)) := by rw [ex_11]; exact pr_tb (fp t + 2 * (nd - t) + 1) (by omega)
        have hpl42 := pr_lt (fp t + 2 * (nd - t) + 1) (by omega)
        refine lv_aload_n hx hb dX7_descend_42 rfl (lv_at hl 1 rfl) ?_
        refine va_get (D := g.1) (ci := 7) (v := .ref t1) (C := RX7) (T := TX7) (N := 3) hx hb hts q_X7_descend_g_f7 hown hE.1 hP 0 rfl rfl 1 (by decide) (hts (.fieldLink RX7 9 "SoundLaws$Tree" "sounds" "[I") q_X7_descend_g_2) (fun _ h9 => h9) rfl dX7_descend_43 ?_
        refine lv_iload_n hx hb dX7_descend_46 rfl (lv_at hl 2 rfl) ?_
        refine k_ald nd rfl (by omega) hx hb hE hP 1 rfl (by decide) dX7_descend_47 ?_
        obtain ⟨b2, hb29, eb2⟩ := hf2_10 nd (by omega)
        refine lv_topi (fun x_12 ex_12 => ?_)
        obtain rfl : x_12 = nI b2 := by rw [ex_12]; exact eb2
        refine k_cv (wr := []) hP hD hS hA [0, 1, 2] [] rfl rfl (by decide) (by decide) (va_runV (As := [.int (nI (pr (fp t + 2 * (nd - t) + 1))), .int (nI b2)]) (rest := []) ⟨hx, hb, hml, hown, hts⟩ (c_X7_settle_g l g h0 t1 t2 t f2_9 fl (pr (fp t + 2 * (nd - t) + 1)) b2 (by first | assumption | omega) (by first | assumption | omega) (by first | assumption | omega) H.size) (cwV 2 hts gX7_descend_X7_settle rfl rfl rfl (by decide +kernel) ⟨Nat.le_of_ble_eq_true rfl, Nat.le_of_ble_eq_true rfl⟩) (k_preV hE hZ hP hD hS hA [0, 1, 2] rfl (by decide) (va_recv hE.1 hP (ci := 7) (q0 := 0) rfl rfl)) rfl rfl hl.1 rfl (lv_room (Nat.le_of_ble_eq_true rfl)) dX7_descend_48 ⟨Nat.le_of_ble_eq_true rfl, Nat.le_of_ble_eq_true rfl⟩) (fun w1 H locs hw hP hD hS => ?_)
        obtain ⟨f2_14, rfl, hf2_15⟩ := hw
        have hP : va_P g.1 vwCl [(h0, .inr (7, [.int (nI t), .ref t1, .ref t2])), (t1, ai g 7 f2_14), (t2, ai g 63 fl)] H := hP
        have hD : va_D A [(h0, .inr (7, [.int (nI t), .ref t1, .ref t2])), (t1, ai g 7 f2_14), (t2, ai g 63 fl)] := hD
        refine lv_iinc (v := (nI (nd - 1))) (lv' := [(1, .int (nI (nd - 1))), (2, .int (nI (fp t + 2 * (nd - t)))), (0, .ref h0)]) hx hb dX7_descend_51 hl (k := 2) rfl (nI_m1 (by omega)) (by decide) rfl (fun ls hl => ?_)
        refine lv_goto (tgt := 5) hx hb dX7_descend_54 (by decide) ?_
        exact ih5 (nd - 1) _ (by omega) (by omega) hf2_15 (by omega) _ _ _ (hP.sub [1, 2, 0] rfl) (hD.sub [1, 2, 0] (by decide) rfl) hS (lv_sub hl [2, 0] rfl)
  exact loop5 _ (nod t - 1) f (by omega) (by omega) hf (Nat.lt_succ_self _) _ _ _ hP hD hS (lv_sub hl [1, 0] rfl)
def po_X2_weigh_g (g : GG) (lw : Nat) (l1 : Nat) (l2 : Nat) (l3 : Nat) (l4 : Nat) (kn : Int32) (xo : Int32) (F4 : Nat → Int32) (i : Nat) (j : Nat) (w : Int32) : va_W → Prop := fun w => ∃ (G4 : Nat → Int32), w = [(lw, .inr (2, [.ref l1, .ref l2, .ref l3, .int kn, .int xo, .ref l4])), (l4, ai g 648 G4)]
theorem q_X2_weigh_g_f2 : ∀ w ∈ u_ws RX2 TX2 6, w ∈ wsX2_weigh := by decide +kernel
theorem q_X2_weigh_g_1 : (Cond.fieldLink RX2 21 "SoundLaws$Laws" "weights" "[I") ∈ wsX2_weigh := by decide +kernel
set_option maxHeartbeats 1500000 in
set_option maxRecDepth 100000 in
theorem c_X2_weigh_g (l : Launch) (g : GG) (lw : Nat) (l1 : Nat) (l2 : Nat) (l3 : Nat) (l4 : Nat) (kn : Int32) (xo : Int32) (F4 : Nat → Int32) (i : Nat) (j : Nat) (w : Int32) (hi : i < 72) (hj : j < 9) (sz : Nat) : MetV l yX2_weigh wsX2_weigh ({ frames := 0, cells := 0, slots := 0, locals := 0 }) g [.ref lw, .int (nI i), .int (nI j), .int w] [(lw, .inr (2, [.ref l1, .ref l2, .ref l3, .int kn, .int xo, .ref l4])), (l4, ai g 648 F4)] sz (po_X2_weigh_g g lw l1 l2 l3 l4 kn xo F4 i j w) 0 0 := by
  refine k_of (l := l) (y := yX2_weigh) (ws := wsX2_weigh) (rm := { frames := 0, cells := 0, slots := 0, locals := 0 }) (mc := 0) (ms := 0) (av := [.ref lw, .int (nI i), .int (nI j), .int w]) (g := g) (wc := [(lw, .inr (2, [.ref l1, .ref l2, .ref l3, .int kn, .int xo, .ref l4])), (l4, ai g 648 F4)]) (Qc := fun A => va_Qv (po_X2_weigh_g g lw l1 l2 l3 l4 kn xo F4 i j w) (bk g A) A) (cc := cX2_weigh) (maxL := 4) (ret := none) (by decide) rfl (Nat.le_of_ble_eq_true rfl) ?_ sz
  intro p e s m below meth c hx hb hr hts hown hlocks hnm hml A hA hE hZ hP hD hS ls hl
  have hown : s.vm.findClass RX2 = some m.cls := hown
  have hl : lv_has ls 4 [(0, .ref lw), (1, .int (nI i)), (2, .int (nI j)), (3, .int w)] := hl
  refine lv_aload_n hx hb dX2_weigh_0 rfl (lv_at hl 0 rfl) ?_
  refine va_get (D := g.1) (ci := 2) (v := .ref l4) (C := RX2) (T := TX2) (N := 6) hx hb hts q_X2_weigh_g_f2 hown hE.1 hP 0 rfl rfl 5 (by decide) (hts (.fieldLink RX2 21 "SoundLaws$Laws" "weights" "[I") q_X2_weigh_g_1) (fun _ h9 => h9) rfl dX2_weigh_1 ?_
  refine lv_iload_n hx hb dX2_weigh_4 rfl (lv_at hl 1 rfl) ?_
  refine lv_bipush (v := 9) hx hb dX2_weigh_5 (by decide) ?_
  refine lv_imul hx hb dX2_weigh_7 ?_
  refine lv_iload_n hx hb dX2_weigh_8 rfl (lv_at hl 2 rfl) ?_
  refine lv_iadd hx hb dX2_weigh_9 ?_
  refine lv_dup2_11 hx hb dX2_weigh_10 rfl rfl ?_
  refine k_ald (9 * i + j) (by rw [show (9 : Int32) = nI 9 from rfl, pk_mul, nI_add, Nat.mul_comm]) (by omega) hx hb hE hP 1 rfl (by decide) dX2_weigh_11 ?_
  refine lv_iload_n hx hb dX2_weigh_12 rfl (lv_at hl 3 rfl) ?_
  refine lv_iadd hx hb dX2_weigh_13 ?_
  refine lv_topi (fun x_1 ex_1 => ?_)
  refine k_ast (x := x_1) (9 * i + j) (by rw [show (9 : Int32) = nI 9 from rfl, pk_mul, nI_add, Nat.mul_comm]) (by omega) hx hb hE hP hD hS 1 rfl (by decide) dX2_weigh_14 (fun H locs hP hD hS => ?_)
  have hP : va_P g.1 vwCl [(lw, .inr (2, [.ref l1, .ref l2, .ref l3, .int kn, .int xo, .ref l4])), (l4, ai g 648 (upd F4 (9 * i + j) x_1))] H := hP
  have hD : va_D A [(lw, .inr (2, [.ref l1, .ref l2, .ref l3, .int kn, .int xo, .ref l4])), (l4, ai g 648 (upd F4 (9 * i + j) x_1))] := hD
  refine W.widen (k := 0) (n := 0) (Nat.le_of_ble_eq_true rfl) (Nat.le_of_ble_eq_true rfl) ?_
  exact k_rv hx hb hr hlocks hS hP hD ⟨(upd F4 (9 * i + j) x_1), rfl⟩ dX2_weigh_15
def po_X2_settleLaw_g (g : GG) (lw : Nat) (l1 : Nat) (l2 : Nat) (l3 : Nat) (l4 : Nat) (kn : Int32) (xo : Int32) (F1 : Nat → Int32) (F2 : Nat → Int32) (F3 : Nat → Int32) (F4 : Nat → Int32) (i : Nat) : va_W → Prop := fun w => ∃ (G1 : Nat → Int32) (G2 : Nat → Int32) (G3 : Nat → Int32), w = [(lw, .inr (2, [.ref l1, .ref l2, .ref l3, .int kn, .int xo, .ref l4])), (l1, ai g 72 G1), (l2, ai g 72 G2), (l3, ai g 72 G3), (l4, ai g 648 F4)]
theorem q_X2_settleLaw_g_f2 : ∀ w ∈ u_ws RX2 TX2 6, w ∈ wsX2_settleLaw := by decide +kernel
theorem q_X2_settleLaw_g_1 : (Cond.fieldLink RX2 9 "SoundLaws$Laws" "becomes" "[I") ∈ wsX2_settleLaw := by decide +kernel
theorem q_X2_settleLaw_g_2 : (Cond.fieldLink RX2 15 "SoundLaws$Laws" "follows" "[I") ∈ wsX2_settleLaw := by decide +kernel
theorem q_X2_settleLaw_g_3 : (Cond.fieldLink RX2 18 "SoundLaws$Laws" "exceptions" "[I") ∈ wsX2_settleLaw := by decide +kernel
theorem q_X2_settleLaw_g_4 : (Cond.fieldLink RX2 21 "SoundLaws$Laws" "weights" "[I") ∈ wsX2_settleLaw := by decide +kernel
set_option maxHeartbeats 1500000 in
set_option maxRecDepth 100000 in
theorem c_X2_settleLaw_g (l : Launch) (g : GG) (lw : Nat) (l1 : Nat) (l2 : Nat) (l3 : Nat) (l4 : Nat) (kn : Int32) (xo : Int32) (F1 : Nat → Int32) (F2 : Nat → Int32) (F3 : Nat → Int32) (F4 : Nat → Int32) (i : Nat) (hi : i < 72) (sz : Nat) : MetV l yX2_settleLaw wsX2_settleLaw ({ frames := 0, cells := 0, slots := 0, locals := 0 }) g [.ref lw, .int (nI i)] [(lw, .inr (2, [.ref l1, .ref l2, .ref l3, .int kn, .int xo, .ref l4])), (l1, ai g 72 F1), (l2, ai g 72 F2), (l3, ai g 72 F3), (l4, ai g 648 F4)] sz (po_X2_settleLaw_g g lw l1 l2 l3 l4 kn xo F1 F2 F3 F4 i) 0 0 := by
  refine k_of (l := l) (y := yX2_settleLaw) (ws := wsX2_settleLaw) (rm := { frames := 0, cells := 0, slots := 0, locals := 0 }) (mc := 0) (ms := 0) (av := [.ref lw, .int (nI i)]) (g := g) (wc := [(lw, .inr (2, [.ref l1, .ref l2, .ref l3, .int kn, .int xo, .ref l4])), (l1, ai g 72 F1), (l2, ai g 72 F2), (l3, ai g 72 F3), (l4, ai g 648 F4)]) (Qc := fun A => va_Qv (po_X2_settleLaw_g g lw l1 l2 l3 l4 kn xo F1 F2 F3 F4 i) (bk g A) A) (cc := cX2_settleLaw) (maxL := 7) (ret := none) (by decide) rfl (Nat.le_of_ble_eq_true rfl) ?_ sz
  intro p e s m below meth c hx hb hr hts hown hlocks hnm hml A hA hE hZ hP hD hS ls hl
  have hown : s.vm.findClass RX2 = some m.cls := hown
  have hl : lv_has ls 7 [(0, .ref lw), (1, .int (nI i))] := hl
  refine lv_iconst (v := (-1)) hx hb dX2_settleLaw_0 (by decide) ?_
  refine lv_istore_n (lv' := [(2, .int (-1)), (0, .ref lw), (1, .int (nI i))]) hx hb dX2_settleLaw_1 rfl hl (by decide) rfl (fun ls hl => ?_)
  refine lv_iconst (v := 0) hx hb dX2_settleLaw_2 (by decide) ?_
  refine lv_istore_n (lv' := [(3, .int 0), (2, .int (-1)), (0, .ref lw), (1, .int (nI i))]) hx hb dX2_settleLaw_3 rfl hl (by decide) rfl (fun ls hl => ?_)
  refine lv_iconst (v := 0) hx hb dX2_settleLaw_4 (by decide) ?_
  refine lv_istore (lv' := [(4, .int 0), (3, .int 0), (2, .int (-1)), (0, .ref lw), (1, .int (nI i))]) hx hb dX2_settleLaw_5 hl (by decide) rfl (fun ls hl => ?_)
  refine lv_iconst (v := 0) hx hb dX2_settleLaw_7 (by decide) ?_
  refine lv_istore (lv' := [(5, .int 0), (4, .int 0), (3, .int 0), (2, .int (-1)), (0, .ref lw), (1, .int (nI i))]) hx hb dX2_settleLaw_8 hl (by decide) rfl (fun ls hl => ?_)
  have loop10 : ∀ (fu : Nat) (j : Nat) (x2 x3 x4 : Int32), (hj : j ≤ 9) → 9 - j < fu → ∀ (H : Heap) (locs : List Loc) (ls : Array Slot), va_P g.1 vwCl [(lw, .inr (2, [.ref l1, .ref l2, .ref l3, .int kn, .int xo, .ref l4])), (l1, ai g 72 F1), (l2, ai g 72 F2), (l3, ai g 72 F3), (l4, ai g 648 F4)] H → va_D A [(lw, .inr (2, [.ref l1, .ref l2, .ref l3, .int kn, .int xo, .ref l4])), (l1, ai g 72 F1), (l2, ai g 72 F2), (l3, ai g 72 F3), (l4, ai g 648 F4)] → va_S A s.heap H locs → lv_has ls 7 [(0, .ref lw), (1, .int (nI i)), (2, .int x2), (3, .int x3), (4, .int x4), (5, .int (nI j))] → W p l e ({ frames := 0, cells := 0, slots := 0, locals := 0 }) s m [.ref lw, .int (nI i)].toArray below meth c H locs 0 0 (MQ below (va_Qv (po_X2_settleLaw_g g lw l1 l2 l3 l4 kn xo F1 F2 F3 F4 i) (bk g A) A) [.ref lw, .int (nI i)].toArray s 0 0 A) (F0 m 10 ls []) := by
    intro fu
    induction fu with
    | zero => intro j x2 x3 x4 hj hfu; exact absurd hfu (Nat.not_lt_zero _)
    | succ fu ih =>
      intro j x2 x3 x4 hj hfu H locs ls hP hD hS hl
      have ih10 := ih
      refine lv_iload hx hb dX2_settleLaw_10 (lv_at hl 5 rfl) ?_
      refine lv_bipush (v := 9) hx hb dX2_settleLaw_12 (by decide) ?_
      refine lv_icmp_ge (tgt := 56) hx hb dX2_settleLaw_14 (by decide) (fun c14_1 => ?_) (fun c14_1 => ?_)
      · skip
        refine lv_aload_n hx hb dX2_settleLaw_56 rfl (lv_at hl 0 rfl) ?_
        refine va_get (D := g.1) (ci := 2) (v := .ref l1) (C := RX2) (T := TX2) (N := 6) hx hb hts q_X2_settleLaw_g_f2 hown hE.1 hP 0 rfl rfl 0 (by decide) (hts (.fieldLink RX2 9 "SoundLaws$Laws" "becomes" "[I") q_X2_settleLaw_g_1) (fun _ h9 => h9) rfl dX2_settleLaw_57 ?_
        refine lv_iload_n hx hb dX2_settleLaw_60 rfl (lv_at hl 1 rfl) ?_
        refine lv_iload_n hx hb dX2_settleLaw_61 rfl (lv_at hl 2 rfl) ?_
        refine k_ast (x := x2) i rfl (by omega) hx hb hE hP hD hS 1 rfl (by decide) dX2_settleLaw_62 (fun H locs hP hD hS => ?_)
        have hP : va_P g.1 vwCl [(lw, .inr (2, [.ref l1, .ref l2, .ref l3, .int kn, .int xo, .ref l4])), (l1, ai g 72 (upd F1 i x2)), (l2, ai g 72 F2), (l3, ai g 72 F3), (l4, ai g 648 F4)] H := hP
        have hD : va_D A [(lw, .inr (2, [.ref l1, .ref l2, .ref l3, .int kn, .int xo, .ref l4])), (l1, ai g 72 (upd F1 i x2)), (l2, ai g 72 F2), (l3, ai g 72 F3), (l4, ai g 648 F4)] := hD
        refine lv_aload_n hx hb dX2_settleLaw_63 rfl (lv_at hl 0 rfl) ?_
        refine va_get (D := g.1) (ci := 2) (v := .ref l2) (C := RX2) (T := TX2) (N := 6) hx hb hts q_X2_settleLaw_g_f2 hown hE.1 hP 0 rfl rfl 1 (by decide) (hts (.fieldLink RX2 15 "SoundLaws$Laws" "follows" "[I") q_X2_settleLaw_g_2) (fun _ h9 => h9) rfl dX2_settleLaw_64 ?_
        refine lv_iload_n hx hb dX2_settleLaw_67 rfl (lv_at hl 1 rfl) ?_
        refine lv_iload_n hx hb dX2_settleLaw_68 rfl (lv_at hl 3 rfl) ?_
        refine k_ast (x := x3) i rfl (by omega) hx hb hE hP hD hS 2 rfl (by decide) dX2_settleLaw_69 (fun H locs hP hD hS => ?_)
        have hP : va_P g.1 vwCl [(lw, .inr (2, [.ref l1, .ref l2, .ref l3, .int kn, .int xo, .ref l4])), (l1, ai g 72 (upd F1 i x2)), (l2, ai g 72 (upd F2 i x3)), (l3, ai g 72 F3), (l4, ai g 648 F4)] H := hP
        have hD : va_D A [(lw, .inr (2, [.ref l1, .ref l2, .ref l3, .int kn, .int xo, .ref l4])), (l1, ai g 72 (upd F1 i x2)), (l2, ai g 72 (upd F2 i x3)), (l3, ai g 72 F3), (l4, ai g 648 F4)] := hD
        refine lv_aload_n hx hb dX2_settleLaw_70 rfl (lv_at hl 0 rfl) ?_
        refine va_get (D := g.1) (ci := 2) (v := .ref l3) (C := RX2) (T := TX2) (N := 6) hx hb hts q_X2_settleLaw_g_f2 hown hE.1 hP 0 rfl rfl 2 (by decide) (hts (.fieldLink RX2 18 "SoundLaws$Laws" "exceptions" "[I") q_X2_settleLaw_g_3) (fun _ h9 => h9) rfl dX2_settleLaw_71 ?_
        refine lv_iload_n hx hb dX2_settleLaw_74 rfl (lv_at hl 1 rfl) ?_
        refine lv_iload hx hb dX2_settleLaw_75 (lv_at hl 4 rfl) ?_
        refine lv_iload_n hx hb dX2_settleLaw_77 rfl (lv_at hl 3 rfl) ?_
        refine lv_isub hx hb dX2_settleLaw_78 ?_
        refine lv_topi (fun x_2 ex_2 => ?_)
        refine k_ast (x := x_2) i rfl (by omega) hx hb hE hP hD hS 3 rfl (by decide) dX2_settleLaw_79 (fun H locs hP hD hS => ?_)
        have hP : va_P g.1 vwCl [(lw, .inr (2, [.ref l1, .ref l2, .ref l3, .int kn, .int xo, .ref l4])), (l1, ai g 72 (upd F1 i x2)), (l2, ai g 72 (upd F2 i x3)), (l3, ai g 72 (upd F3 i x_2)), (l4, ai g 648 F4)] H := hP
        have hD : va_D A [(lw, .inr (2, [.ref l1, .ref l2, .ref l3, .int kn, .int xo, .ref l4])), (l1, ai g 72 (upd F1 i x2)), (l2, ai g 72 (upd F2 i x3)), (l3, ai g 72 (upd F3 i x_2)), (l4, ai g 648 F4)] := hD
        refine W.widen (k := 0) (n := 0) (Nat.le_of_ble_eq_true rfl) (Nat.le_of_ble_eq_true rfl) ?_
        exact k_rv hx hb hr hlocks hS hP hD ⟨(upd F1 i x2), (upd F2 i x3), (upd F3 i x_2), rfl⟩ dX2_settleLaw_80
      · skip
        have hj9 := lt_of_nle (k := 9) (n := j) (by decide) (by omega) c14_1
        refine lv_aload_n hx hb dX2_settleLaw_17 rfl (lv_at hl 0 rfl) ?_
        refine va_get (D := g.1) (ci := 2) (v := .ref l4) (C := RX2) (T := TX2) (N := 6) hx hb hts q_X2_settleLaw_g_f2 hown hE.1 hP 0 rfl rfl 5 (by decide) (hts (.fieldLink RX2 21 "SoundLaws$Laws" "weights" "[I") q_X2_settleLaw_g_4) (fun _ h9 => h9) rfl dX2_settleLaw_18 ?_
        refine lv_iload_n hx hb dX2_settleLaw_21 rfl (lv_at hl 1 rfl) ?_
        refine lv_bipush (v := 9) hx hb dX2_settleLaw_22 (by decide) ?_
        refine lv_imul hx hb dX2_settleLaw_24 ?_
        refine lv_iload hx hb dX2_settleLaw_25 (lv_at hl 5 rfl) ?_
        refine lv_iadd hx hb dX2_settleLaw_27 ?_
        refine k_ald (9 * i + j) (by rw [show (9 : Int32) = nI 9 from rfl, pk_mul, nI_add, Nat.mul_comm]) (by omega) hx hb hE hP 4 rfl (by decide) dX2_settleLaw_28 ?_
        refine lv_topi (fun x6 ex6 => ?_)
        refine lv_istore (lv' := [(6, .int x6), (0, .ref lw), (1, .int (nI i)), (2, .int x2), (3, .int x3), (4, .int x4), (5, .int (nI j))]) hx hb dX2_settleLaw_29 hl (by decide) rfl (fun ls hl => ?_)
        refine lv_iload hx hb dX2_settleLaw_31 (lv_at hl 5 rfl) ?_
        refine lv_iload hx hb dX2_settleLaw_33 (lv_at hl 0 rfl) ?_
        refine lv_iadd hx hb dX2_settleLaw_35 ?_
        refine lv_topi (fun x4 ex4 => ?_)
        refine lv_istore (lv' := [(4, .int x4), (6, .int x6), (0, .ref lw), (1, .int (nI i)), (2, .int x2), (3, .int x3), (5, .int (nI j))]) hx hb dX2_settleLaw_36 hl (by decide) rfl (fun ls hl => ?_)
        refine lv_iload hx hb dX2_settleLaw_38 (lv_at hl 1 rfl) ?_
        refine lv_iload_n hx hb dX2_settleLaw_40 rfl (lv_at hl 5 rfl) ?_
        refine lv_icmp_le (tgt := 50) hx hb dX2_settleLaw_41 (by decide) (fun c41_3 => ?_) (fun c41_3 => ?_)
        · skip
          refine lv_iinc (v := (nI (j + 1))) (lv' := [(5, .int (nI (j + 1))), (4, .int x4), (6, .int x6), (0, .ref lw), (1, .int (nI i)), (2, .int x2), (3, .int x3)]) hx hb dX2_settleLaw_50 hl (k := 6) rfl (nI_1 _) (by decide) rfl (fun ls hl => ?_)
          refine lv_goto (tgt := 10) hx hb dX2_settleLaw_53 (by decide) ?_
          exact ih10 (j + 1) _ _ _ (by omega) (by omega) _ _ _ hP hD hS (lv_sub hl [3, 4, 5, 6, 1, 0] rfl)
        · skip
          refine lv_iload hx hb dX2_settleLaw_44 (lv_at hl 1 rfl) ?_
          refine lv_istore_n (lv' := [(3, .int x6), (4, .int x4), (6, .int x6), (0, .ref lw), (1, .int (nI i)), (2, .int x2), (5, .int (nI j))]) hx hb dX2_settleLaw_46 rfl hl (by decide) rfl (fun ls hl => ?_)
          refine lv_iload hx hb dX2_settleLaw_47 (lv_at hl 6 rfl) ?_
          refine lv_istore_n (lv' := [(2, .int (nI j)), (3, .int x6), (4, .int x4), (6, .int x6), (0, .ref lw), (1, .int (nI i)), (5, .int (nI j))]) hx hb dX2_settleLaw_49 rfl hl (by decide) rfl (fun ls hl => ?_)
          refine lv_iinc (v := (nI (j + 1))) (lv' := [(5, .int (nI (j + 1))), (2, .int (nI j)), (3, .int x6), (4, .int x4), (6, .int x6), (0, .ref lw), (1, .int (nI i))]) hx hb dX2_settleLaw_50 hl (k := 6) rfl (nI_1 _) (by decide) rfl (fun ls hl => ?_)
          refine lv_goto (tgt := 10) hx hb dX2_settleLaw_53 (by decide) ?_
          exact ih10 (j + 1) _ _ _ (by omega) (by omega) _ _ _ hP hD hS (lv_sub hl [5, 6, 1, 2, 3, 0] rfl)
  exact loop10 _ 0 (-1) 0 0 (Nat.zero_le 9) (Nat.lt_succ_self _) _ _ _ hP hD hS (lv_sub hl [4, 5, 3, 2, 1, 0] rfl)
def po_X2_settle_g (g : GG) (lw : Nat) (l1 : Nat) (l2 : Nat) (l3 : Nat) (l4 : Nat) (kn : Int32) (xo : Int32) (F1 : Nat → Int32) (F2 : Nat → Int32) (F3 : Nat → Int32) (F4 : Nat → Int32) (t : Nat) : va_W → Prop := fun w => ∃ (k2 : Int32) (x2 : Int32) (G1 : Nat → Int32) (G2 : Nat → Int32) (G3 : Nat → Int32), w = [(lw, .inr (2, [.ref l1, .ref l2, .ref l3, .int k2, .int x2, .ref l4])), (l1, ai g 72 G1), (l2, ai g 72 G2), (l3, ai g 72 G3), (l4, ai g 648 F4)]
theorem q_X2_settle_g_f2 : ∀ w ∈ u_ws RX2 TX2 6, w ∈ wsX2_settle := by decide +kernel
theorem q_X2_settle_g_1 : (Cond.fieldLink RX2 30 "SoundLaws$Laws" "known" "I") ∈ wsX2_settle := by decide +kernel
theorem q_X2_settle_g_2 : (Cond.fieldLink RX2 34 "SoundLaws$Laws" "exceptionsOfAll" "I") ∈ wsX2_settle := by decide +kernel
theorem q_X2_settle_g_3 : (Cond.fieldLink RX2 9 "SoundLaws$Laws" "becomes" "[I") ∈ wsX2_settle := by decide +kernel
theorem q_X2_settle_g_4 : (Cond.fieldLink RX2 18 "SoundLaws$Laws" "exceptions" "[I") ∈ wsX2_settle := by decide +kernel
set_option maxHeartbeats 1500000 in
set_option maxRecDepth 100000 in
theorem c_X2_settle_g (l : Launch) (g : GG) (lw : Nat) (l1 : Nat) (l2 : Nat) (l3 : Nat) (l4 : Nat) (kn : Int32) (xo : Int32) (F1 : Nat → Int32) (F2 : Nat → Int32) (F3 : Nat → Int32) (F4 : Nat → Int32) (t : Nat) (ht4 : t ≤ 4) (sz : Nat) : MetV l yX2_settle wsX2_settle ({ frames := 1, cells := 0, slots := 0, locals := 26 }) g [.ref lw, .int (nI t)] [(lw, .inr (2, [.ref l1, .ref l2, .ref l3, .int kn, .int xo, .ref l4])), (l1, ai g 72 F1), (l2, ai g 72 F2), (l3, ai g 72 F3), (l4, ai g 648 F4)] sz (po_X2_settle_g g lw l1 l2 l3 l4 kn xo F1 F2 F3 F4 t) 0 0 := by
  refine k_of (l := l) (y := yX2_settle) (ws := wsX2_settle) (rm := { frames := 1, cells := 0, slots := 0, locals := 26 }) (mc := 0) (ms := 0) (av := [.ref lw, .int (nI t)]) (g := g) (wc := [(lw, .inr (2, [.ref l1, .ref l2, .ref l3, .int kn, .int xo, .ref l4])), (l1, ai g 72 F1), (l2, ai g 72 F2), (l3, ai g 72 F3), (l4, ai g 648 F4)]) (Qc := fun A => va_Qv (po_X2_settle_g g lw l1 l2 l3 l4 kn xo F1 F2 F3 F4 t) (bk g A) A) (cc := cX2_settle) (maxL := 3) (ret := none) (by decide) rfl (Nat.le_of_ble_eq_true rfl) ?_ sz
  intro p e s m below meth c hx hb hr hts hown hlocks hnm hml A hA hE hZ hP hD hS ls hl
  have hown : s.vm.findClass RX2 = some m.cls := hown
  have hl : lv_has ls 3 [(0, .ref lw), (1, .int (nI t))] := hl
  refine lv_aload_n hx hb dX2_settle_0 rfl (lv_at hl 0 rfl) ?_
  refine lv_iconst (v := 0) hx hb dX2_settle_1 (by decide) ?_
  refine va_put (D := g.1) (ci := 2) (v := .int 0) (ty := .int) (C := RX2) (T := TX2) (N := 6) hx hb hts q_X2_settle_g_f2 tyX2 tyX2_ok nmX2 hown hE.1 hP hD hS 0 rfl rfl 3 (by decide) (hts (.fieldLink RX2 30 "SoundLaws$Laws" "known" "I") q_X2_settle_g_1) (fun _ h9 => h9) rfl (by decide +kernel) rfl rfl (Nat.le_of_ble_eq_true rfl) dX2_settle_2 (fun H locs hP hD hS => ?_)
  have hP : va_P g.1 vwCl [(lw, .inr (2, [.ref l1, .ref l2, .ref l3, .int 0, .int xo, .ref l4])), (l1, ai g 72 F1), (l2, ai g 72 F2), (l3, ai g 72 F3), (l4, ai g 648 F4)] H := hP
  have hD : va_D A [(lw, .inr (2, [.ref l1, .ref l2, .ref l3, .int 0, .int xo, .ref l4])), (l1, ai g 72 F1), (l2, ai g 72 F2), (l3, ai g 72 F3), (l4, ai g 648 F4)] := hD
  refine lv_aload_n hx hb dX2_settle_5 rfl (lv_at hl 0 rfl) ?_
  refine lv_iconst (v := 0) hx hb dX2_settle_6 (by decide) ?_
  refine va_put (D := g.1) (ci := 2) (v := .int 0) (ty := .int) (C := RX2) (T := TX2) (N := 6) hx hb hts q_X2_settle_g_f2 tyX2 tyX2_ok nmX2 hown hE.1 hP hD hS 0 rfl rfl 4 (by decide) (hts (.fieldLink RX2 34 "SoundLaws$Laws" "exceptionsOfAll" "I") q_X2_settle_g_2) (fun _ h9 => h9) rfl (by decide +kernel) rfl rfl (Nat.le_of_ble_eq_true rfl) dX2_settle_7 (fun H locs hP hD hS => ?_)
  have hP : va_P g.1 vwCl [(lw, .inr (2, [.ref l1, .ref l2, .ref l3, .int 0, .int 0, .ref l4])), (l1, ai g 72 F1), (l2, ai g 72 F2), (l3, ai g 72 F3), (l4, ai g 648 F4)] H := hP
  have hD : va_D A [(lw, .inr (2, [.ref l1, .ref l2, .ref l3, .int 0, .int 0, .ref l4])), (l1, ai g 72 F1), (l2, ai g 72 F2), (l3, ai g 72 F3), (l4, ai g 648 F4)] := hD
  refine lv_iconst (v := 0) hx hb dX2_settle_10 (by decide) ?_
  refine lv_istore_n (lv' := [(2, .int 0), (0, .ref lw), (1, .int (nI t))]) hx hb dX2_settle_11 rfl hl (by decide) rfl (fun ls hl => ?_)
  have loop12 : ∀ (fu : Nat) (j : Nat) (k2 x2 : Int32) (G1 G2 G3 : Nat → Int32), (hj : j ≤ 18 * t) → 18 * t - j < fu → ∀ (H : Heap) (locs : List Loc) (ls : Array Slot), va_P g.1 vwCl [(lw, .inr (2, [.ref l1, .ref l2, .ref l3, .int k2, .int x2, .ref l4])), (l1, ai g 72 G1), (l2, ai g 72 G2), (l3, ai g 72 G3), (l4, ai g 648 F4)] H → va_D A [(lw, .inr (2, [.ref l1, .ref l2, .ref l3, .int k2, .int x2, .ref l4])), (l1, ai g 72 G1), (l2, ai g 72 G2), (l3, ai g 72 G3), (l4, ai g 648 F4)] → va_S A s.heap H locs → lv_has ls 3 [(0, .ref lw), (1, .int (nI t)), (2, .int (nI j))] → W p l e ({ frames := 1, cells := 0, slots := 0, locals := 26 }) s m [.ref lw, .int (nI t)].toArray below meth c H locs 0 0 (MQ below (va_Qv (po_X2_settle_g g lw l1 l2 l3 l4 kn xo F1 F2 F3 F4 t) (bk g A) A) [.ref lw, .int (nI t)].toArray s 0 0 A) (F0 m 12 ls []) := by
    intro fu
    induction fu with
    | zero => intro j k2 x2 G1 G2 G3 hj hfu; exact absurd hfu (Nat.not_lt_zero _)
    | succ fu ih =>
      intro j k2 x2 G1 G2 G3 hj hfu H locs ls hP hD hS hl
      have ih12 := ih
      refine lv_iload_n hx hb dX2_settle_12 rfl (lv_at hl 2 rfl) ?_
      refine lv_iload_n hx hb dX2_settle_13 rfl (lv_at hl 1 rfl) ?_
      refine lv_bipush (v := 9) hx hb dX2_settle_14 (by decide) ?_
      refine lv_imul hx hb dX2_settle_16 ?_
      refine lv_iconst (v := 2) hx hb dX2_settle_17 (by decide) ?_
      refine lv_imul hx hb dX2_settle_18 ?_
      refine lv_topi (fun x_1 ex_1 => ?_)
      obtain rfl : x_1 = nI (18 * t) := by rw [ex_1]; rw [show (9 : Int32) = nI 9 from rfl, show (2 : Int32) = nI 2 from rfl, pk_mul, pk_mul]; congr 1; omega
      refine lv_icmp_ge (tgt := 68) hx hb dX2_settle_19 (by decide) (fun c19_2 => ?_) (fun c19_2 => ?_)
      · skip
        refine W.widen (k := 0) (n := 0) (Nat.le_of_ble_eq_true rfl) (Nat.le_of_ble_eq_true rfl) ?_
        exact k_rv hx hb hr hlocks hS hP hD ⟨k2, x2, G1, G2, G3, rfl⟩ dX2_settle_68
      · skip
        have hj9 := lt_of_nle (k := 18 * t) (n := j) (by omega) (by omega) c19_2
        refine lv_aload_n hx hb dX2_settle_22 rfl (lv_at hl 0 rfl) ?_
        refine lv_iload_n hx hb dX2_settle_23 rfl (lv_at hl 2 rfl) ?_
        refine k_cv (wr := []) hP hD hS hA [0, 1, 2, 3, 4] [] rfl rfl (by decide) (by decide) (va_runV (As := [.int (nI j)]) (rest := []) ⟨hx, hb, hml, hown, hts⟩ (c_X2_settleLaw_g l g lw l1 l2 l3 l4 k2 x2 G1 G2 G3 F4 j (by first | assumption | omega) H.size) (cwV 1 hts gX2_settle_X2_settleLaw rfl rfl rfl (by decide +kernel) ⟨Nat.le_of_ble_eq_true rfl, Nat.le_of_ble_eq_true rfl⟩) (k_preV hE hZ hP hD hS hA [0, 1, 2, 3, 4] rfl (by decide) (va_recv hE.1 hP (ci := 2) (q0 := 0) rfl rfl)) rfl rfl hl.1 rfl (lv_room (Nat.le_of_ble_eq_true rfl)) dX2_settle_24 ⟨Nat.le_of_ble_eq_true rfl, Nat.le_of_ble_eq_true rfl⟩) (fun w1 H locs hw hP hD hS => ?_)
        obtain ⟨G1_4, G2_5, G3_6, rfl⟩ := hw
        have hP : va_P g.1 vwCl [(lw, .inr (2, [.ref l1, .ref l2, .ref l3, .int k2, .int x2, .ref l4])), (l1, ai g 72 G1_4), (l2, ai g 72 G2_5), (l3, ai g 72 G3_6), (l4, ai g 648 F4)] H := hP
        have hD : va_D A [(lw, .inr (2, [.ref l1, .ref l2, .ref l3, .int k2, .int x2, .ref l4])), (l1, ai g 72 G1_4), (l2, ai g 72 G2_5), (l3, ai g 72 G3_6), (l4, ai g 648 F4)] := hD
        refine lv_aload_n hx hb dX2_settle_27 rfl (lv_at hl 0 rfl) ?_
        refine va_get (D := g.1) (ci := 2) (v := .ref l1) (C := RX2) (T := TX2) (N := 6) hx hb hts q_X2_settle_g_f2 hown hE.1 hP 0 rfl rfl 0 (by decide) (hts (.fieldLink RX2 9 "SoundLaws$Laws" "becomes" "[I") q_X2_settle_g_3) (fun _ h9 => h9) rfl dX2_settle_28 ?_
        refine lv_iload_n hx hb dX2_settle_31 rfl (lv_at hl 2 rfl) ?_
        refine k_ald j rfl (by omega) hx hb hE hP 1 rfl (by decide) dX2_settle_32 ?_
        refine lv_iconst (v := (-1)) hx hb dX2_settle_33 (by decide) ?_
        refine lv_icmp_eq (tgt := 47) hx hb dX2_settle_34 (by decide) (fun c34_7 => ?_) (fun c34_7 => ?_)
        · skip
          refine lv_aload_n hx hb dX2_settle_47 rfl (lv_at hl 0 rfl) ?_
          refine lv_dup hx hb dX2_settle_48 rfl ?_
          refine va_get (D := g.1) (ci := 2) (v := .int x2) (C := RX2) (T := TX2) (N := 6) hx hb hts q_X2_settle_g_f2 hown hE.1 hP 0 rfl rfl 4 (by decide) (hts (.fieldLink RX2 34 "SoundLaws$Laws" "exceptionsOfAll" "I") q_X2_settle_g_2) (fun _ h9 => h9) rfl dX2_settle_49 ?_
          refine lv_aload_n hx hb dX2_settle_52 rfl (lv_at hl 0 rfl) ?_
          refine va_get (D := g.1) (ci := 2) (v := .ref l3) (C := RX2) (T := TX2) (N := 6) hx hb hts q_X2_settle_g_f2 hown hE.1 hP 0 rfl rfl 2 (by decide) (hts (.fieldLink RX2 18 "SoundLaws$Laws" "exceptions" "[I") q_X2_settle_g_4) (fun _ h9 => h9) rfl dX2_settle_53 ?_
          refine lv_iload_n hx hb dX2_settle_56 rfl (lv_at hl 2 rfl) ?_
          refine k_ald j rfl (by omega) hx hb hE hP 3 rfl (by decide) dX2_settle_57 ?_
          refine lv_iadd hx hb dX2_settle_58 ?_
          refine lv_topi (fun x_8 ex_8 => ?_)
          refine va_put (D := g.1) (ci := 2) (v := .int x_8) (ty := .int) (C := RX2) (T := TX2) (N := 6) hx hb hts q_X2_settle_g_f2 tyX2 tyX2_ok nmX2 hown hE.1 hP hD hS 0 rfl rfl 4 (by decide) (hts (.fieldLink RX2 34 "SoundLaws$Laws" "exceptionsOfAll" "I") q_X2_settle_g_2) (fun _ h9 => h9) rfl (by decide +kernel) rfl rfl (Nat.le_of_ble_eq_true rfl) dX2_settle_59 (fun H locs hP hD hS => ?_)
          have hP : va_P g.1 vwCl [(lw, .inr (2, [.ref l1, .ref l2, .ref l3, .int k2, .int x_8, .ref l4])), (l1, ai g 72 G1_4), (l2, ai g 72 G2_5), (l3, ai g 72 G3_6), (l4, ai g 648 F4)] H := hP
          have hD : va_D A [(lw, .inr (2, [.ref l1, .ref l2, .ref l3, .int k2, .int x_8, .ref l4])), (l1, ai g 72 G1_4), (l2, ai g 72 G2_5), (l3, ai g 72 G3_6), (l4, ai g 648 F4)] := hD
          refine lv_iinc (v := (nI (j + 1))) (lv' := [(2, .int (nI (j + 1))), (0, .ref lw), (1, .int (nI t))]) hx hb dX2_settle_62 hl (k := 2) rfl (nI_1 _) (by decide) rfl (fun ls hl => ?_)
          refine lv_goto (tgt := 12) hx hb dX2_settle_65 (by decide) ?_
          exact ih12 (j + 1) _ _ _ _ _ (by omega) (by omega) _ _ _ hP hD hS (lv_sub hl [1, 2, 0] rfl)
        · skip
          refine lv_aload_n hx hb dX2_settle_37 rfl (lv_at hl 0 rfl) ?_
          refine lv_dup hx hb dX2_settle_38 rfl ?_
          refine va_get (D := g.1) (ci := 2) (v := .int k2) (C := RX2) (T := TX2) (N := 6) hx hb hts q_X2_settle_g_f2 hown hE.1 hP 0 rfl rfl 3 (by decide) (hts (.fieldLink RX2 30 "SoundLaws$Laws" "known" "I") q_X2_settle_g_1) (fun _ h9 => h9) rfl dX2_settle_39 ?_
          refine lv_iconst (v := 1) hx hb dX2_settle_42 (by decide) ?_
          refine lv_iadd hx hb dX2_settle_43 ?_
          refine lv_topi (fun x_9 ex_9 => ?_)
          refine va_put (D := g.1) (ci := 2) (v := .int x_9) (ty := .int) (C := RX2) (T := TX2) (N := 6) hx hb hts q_X2_settle_g_f2 tyX2 tyX2_ok nmX2 hown hE.1 hP hD hS 0 rfl rfl 3 (by decide) (hts (.fieldLink RX2 30 "SoundLaws$Laws" "known" "I") q_X2_settle_g_1) (fun _ h9 => h9) rfl (by decide +kernel) rfl rfl (Nat.le_of_ble_eq_true rfl) dX2_settle_44 (fun H locs hP hD hS => ?_)
          have hP : va_P g.1 vwCl [(lw, .inr (2, [.ref l1, .ref l2, .ref l3, .int x_9, .int x2, .ref l4])), (l1, ai g 72 G1_4), (l2, ai g 72 G2_5), (l3, ai g 72 G3_6), (l4, ai g 648 F4)] H := hP
          have hD : va_D A [(lw, .inr (2, [.ref l1, .ref l2, .ref l3, .int x_9, .int x2, .ref l4])), (l1, ai g 72 G1_4), (l2, ai g 72 G2_5), (l3, ai g 72 G3_6), (l4, ai g 648 F4)] := hD
          refine lv_aload_n hx hb dX2_settle_47 rfl (lv_at hl 0 rfl) ?_
          refine lv_dup hx hb dX2_settle_48 rfl ?_
          refine va_get (D := g.1) (ci := 2) (v := .int x2) (C := RX2) (T := TX2) (N := 6) hx hb hts q_X2_settle_g_f2 hown hE.1 hP 0 rfl rfl 4 (by decide) (hts (.fieldLink RX2 34 "SoundLaws$Laws" "exceptionsOfAll" "I") q_X2_settle_g_2) (fun _ h9 => h9) rfl dX2_settle_49 ?_
          refine lv_aload_n hx hb dX2_settle_52 rfl (lv_at hl 0 rfl) ?_
          refine va_get (D := g.1) (ci := 2) (v := .ref l3) (C := RX2) (T := TX2) (N := 6) hx hb hts q_X2_settle_g_f2 hown hE.1 hP 0 rfl rfl 2 (by decide) (hts (.fieldLink RX2 18 "SoundLaws$Laws" "exceptions" "[I") q_X2_settle_g_4) (fun _ h9 => h9) rfl dX2_settle_53 ?_
          refine lv_iload_n hx hb dX2_settle_56 rfl (lv_at hl 2 rfl) ?_
          refine k_ald j rfl (by omega) hx hb hE hP 3 rfl (by decide) dX2_settle_57 ?_
          refine lv_iadd hx hb dX2_settle_58 ?_
          refine lv_topi (fun x_10 ex_10 => ?_)
          refine va_put (D := g.1) (ci := 2) (v := .int x_10) (ty := .int) (C := RX2) (T := TX2) (N := 6) hx hb hts q_X2_settle_g_f2 tyX2 tyX2_ok nmX2 hown hE.1 hP hD hS 0 rfl rfl 4 (by decide) (hts (.fieldLink RX2 34 "SoundLaws$Laws" "exceptionsOfAll" "I") q_X2_settle_g_2) (fun _ h9 => h9) rfl (by decide +kernel) rfl rfl (Nat.le_of_ble_eq_true rfl) dX2_settle_59 (fun H locs hP hD hS => ?_)
          have hP : va_P g.1 vwCl [(lw, .inr (2, [.ref l1, .ref l2, .ref l3, .int x_9, .int x_10, .ref l4])), (l1, ai g 72 G1_4), (l2, ai g 72 G2_5), (l3, ai g 72 G3_6), (l4, ai g 648 F4)] H := hP
          have hD : va_D A [(lw, .inr (2, [.ref l1, .ref l2, .ref l3, .int x_9, .int x_10, .ref l4])), (l1, ai g 72 G1_4), (l2, ai g 72 G2_5), (l3, ai g 72 G3_6), (l4, ai g 648 F4)] := hD
          refine lv_iinc (v := (nI (j + 1))) (lv' := [(2, .int (nI (j + 1))), (0, .ref lw), (1, .int (nI t))]) hx hb dX2_settle_62 hl (k := 2) rfl (nI_1 _) (by decide) rfl (fun ls hl => ?_)
          refine lv_goto (tgt := 12) hx hb dX2_settle_65 (by decide) ?_
          exact ih12 (j + 1) _ _ _ _ _ (by omega) (by omega) _ _ _ hP hD hS (lv_sub hl [1, 2, 0] rfl)
  exact loop12 _ 0 0 0 F1 F2 F3 (Nat.zero_le _) (Nat.lt_succ_self _) _ _ _ hP hD hS (lv_sub hl [1, 2, 0] rfl)
def po_X2_clear_g (g : GG) (lw : Nat) (l1 : Nat) (l2 : Nat) (l3 : Nat) (l4 : Nat) (kn : Int32) (xo : Int32) (F4 : Nat → Int32) : va_W → Prop := fun w => ∃ (G4 : Nat → Int32), w = [(lw, .inr (2, [.ref l1, .ref l2, .ref l3, .int kn, .int xo, .ref l4])), (l4, ai g 648 G4)]
theorem q_X2_clear_g_f2 : ∀ w ∈ u_ws RX2 TX2 6, w ∈ wsX2_clear := by decide +kernel
theorem q_X2_clear_g_1 : (Cond.fieldLink RX2 21 "SoundLaws$Laws" "weights" "[I") ∈ wsX2_clear := by decide +kernel
set_option maxHeartbeats 1500000 in
set_option maxRecDepth 100000 in
theorem c_X2_clear_g (l : Launch) (g : GG) (lw : Nat) (l1 : Nat) (l2 : Nat) (l3 : Nat) (l4 : Nat) (kn : Int32) (xo : Int32) (F4 : Nat → Int32)  (sz : Nat) : MetV l yX2_clear wsX2_clear ({ frames := 1, cells := 0, slots := 0, locals := 23 }) g [.ref lw] [(lw, .inr (2, [.ref l1, .ref l2, .ref l3, .int kn, .int xo, .ref l4])), (l4, ai g 648 F4)] sz (po_X2_clear_g g lw l1 l2 l3 l4 kn xo F4) 0 0 := by
  refine k_of (l := l) (y := yX2_clear) (ws := wsX2_clear) (rm := { frames := 1, cells := 0, slots := 0, locals := 23 }) (mc := 0) (ms := 0) (av := [.ref lw]) (g := g) (wc := [(lw, .inr (2, [.ref l1, .ref l2, .ref l3, .int kn, .int xo, .ref l4])), (l4, ai g 648 F4)]) (Qc := fun A => va_Qv (po_X2_clear_g g lw l1 l2 l3 l4 kn xo F4) (bk g A) A) (cc := cX2_clear) (maxL := 1) (ret := none) (by decide) rfl (Nat.le_of_ble_eq_true rfl) ?_ sz
  intro p e s m below meth c hx hb hr hts hown hlocks hnm hml A hA hE hZ hP hD hS ls hl
  have hown : s.vm.findClass RX2 = some m.cls := hown
  have hl : lv_has ls 1 [(0, .ref lw)] := hl
  refine lv_aload_n hx hb dX2_clear_0 rfl (lv_at hl 0 rfl) ?_
  refine va_get (D := g.1) (ci := 2) (v := .ref l4) (C := RX2) (T := TX2) (N := 6) hx hb hts q_X2_clear_g_f2 hown hE.1 hP 0 rfl rfl 5 (by decide) (hts (.fieldLink RX2 21 "SoundLaws$Laws" "weights" "[I") q_X2_clear_g_1) (fun _ h9 => h9) rfl dX2_clear_1 ?_
  refine lv_iconst (v := 0) hx hb dX2_clear_4 (by decide) ?_
  refine k_cv (wr := [(lw, .inr (2, [.ref l1, .ref l2, .ref l3, .int kn, .int xo, .ref l4]))]) hP hD hS hA [1] [0] rfl rfl (by decide) (by decide) (va_runS (As := [.ref l4, .int 0]) (rest := []) ⟨hx, hb, hml, hown, hts⟩ (c_J7_fill_53178 l g l4 F4  s.heap.size) (va_cwS 2 hts gX2_clear_J7_fill_53178 rfl rfl rfl (by decide +kernel) ⟨Nat.le_of_ble_eq_true rfl, Nat.le_of_ble_eq_true rfl⟩) (k_preS hE hZ hP hD hS hA [1] rfl (by decide)) rfl rfl hl.1 rfl (lv_room (Nat.le_of_ble_eq_true rfl)) dX2_clear_5 ⟨Nat.le_of_ble_eq_true rfl, Nat.le_of_ble_eq_true rfl⟩) (fun w1 H locs hw hP hD hS => ?_)
  obtain ⟨f1_2, rfl, hf1_3⟩ := hw
  have hP : va_P g.1 vwCl [(lw, .inr (2, [.ref l1, .ref l2, .ref l3, .int kn, .int xo, .ref l4])), (l4, ai g 648 f1_2)] H := hP
  have hD : va_D A [(lw, .inr (2, [.ref l1, .ref l2, .ref l3, .int kn, .int xo, .ref l4])), (l4, ai g 648 f1_2)] := hD
  refine W.widen (k := 0) (n := 0) (Nat.le_of_ble_eq_true rfl) (Nat.le_of_ble_eq_true rfl) ?_
  exact k_rv hx hb hr hlocks hS hP hD ⟨f1_2, rfl⟩ dX2_clear_8
def po_X2_tell_g (g : GG) (lw : Nat) (l1 : Nat) (l2 : Nat) (l3 : Nat) (l4 : Nat) (kn : Int32) (xo : Int32) (F1 : Nat → Int32) (F2 : Nat → Int32) (F3 : Nat → Int32) (F4 : Nat → Int32) (i : Nat) (p1 : Int32) : Int32 → va_W → Prop := fun (r : Int32) w => w = [(lw, .inr (2, [.ref l1, .ref l2, .ref l3, .int kn, .int xo, .ref l4])), (l1, ai g 72 F1), (l2, ai g 72 F2), (l3, ai g 72 F3), (l4, ai g 648 F4)]
theorem q_X2_tell_g_f2 : ∀ w ∈ u_ws RX2 TX2 6, w ∈ wsX2_tell := by decide +kernel
theorem q_X2_tell_g_1 : (Cond.fieldLink RX2 9 "SoundLaws$Laws" "becomes" "[I") ∈ wsX2_tell := by decide +kernel
theorem q_X2_tell_g_2 : (Cond.fieldLink RX2 15 "SoundLaws$Laws" "follows" "[I") ∈ wsX2_tell := by decide +kernel
theorem q_X2_tell_g_3 : (Cond.fieldLink RX2 18 "SoundLaws$Laws" "exceptions" "[I") ∈ wsX2_tell := by decide +kernel
set_option maxHeartbeats 1500000 in
set_option maxRecDepth 100000 in
theorem c_X2_tell_g (l : Launch) (g : GG) (lw : Nat) (l1 : Nat) (l2 : Nat) (l3 : Nat) (l4 : Nat) (kn : Int32) (xo : Int32) (F1 : Nat → Int32) (F2 : Nat → Int32) (F3 : Nat → Int32) (F4 : Nat → Int32) (i : Nat) (p1 : Int32) (hi : i < 72) (sz : Nat) : MetI l yX2_tell wsX2_tell ({ frames := 0, cells := 0, slots := 0, locals := 0 }) g [.ref lw, .int (nI i), .int p1] [(lw, .inr (2, [.ref l1, .ref l2, .ref l3, .int kn, .int xo, .ref l4])), (l1, ai g 72 F1), (l2, ai g 72 F2), (l3, ai g 72 F3), (l4, ai g 648 F4)] sz (po_X2_tell_g g lw l1 l2 l3 l4 kn xo F1 F2 F3 F4 i p1) 0 0 := by
  refine k_of (l := l) (y := yX2_tell) (ws := wsX2_tell) (rm := { frames := 0, cells := 0, slots := 0, locals := 0 }) (mc := 0) (ms := 0) (av := [.ref lw, .int (nI i), .int p1]) (g := g) (wc := [(lw, .inr (2, [.ref l1, .ref l2, .ref l3, .int kn, .int xo, .ref l4])), (l1, ai g 72 F1), (l2, ai g 72 F2), (l3, ai g 72 F3), (l4, ai g 648 F4)]) (Qc := fun A => va_Qi (po_X2_tell_g g lw l1 l2 l3 l4 kn xo F1 F2 F3 F4 i p1) (bk g A) A) (cc := cX2_tell) (maxL := 3) (ret := (some .int)) (by decide) rfl (Nat.le_of_ble_eq_true rfl) ?_ sz
  intro p e s m below meth c hx hb hr hts hown hlocks hnm hml A hA hE hZ hP hD hS ls hl
  have hown : s.vm.findClass RX2 = some m.cls := hown
  have hl : lv_has ls 3 [(0, .ref lw), (1, .int (nI i)), (2, .int p1)] := hl
  refine lv_iload_n hx hb dX2_tell_0 rfl (lv_at hl 2 rfl) ?_
  by_cases w1_1 : p1 = 0
  · skip
    refine lv_lookup (tgt := 28) (off := 27) hx hb dX2_tell_1 (by decide) (by rw [w1_1]; decide) (by decide) ?_
    refine lv_aload_n hx hb dX2_tell_28 rfl (lv_at hl 0 rfl) ?_
    refine va_get (D := g.1) (ci := 2) (v := .ref l1) (C := RX2) (T := TX2) (N := 6) hx hb hts q_X2_tell_g_f2 hown hE.1 hP 0 rfl rfl 0 (by decide) (hts (.fieldLink RX2 9 "SoundLaws$Laws" "becomes" "[I") q_X2_tell_g_1) (fun _ h9 => h9) rfl dX2_tell_29 ?_
    refine lv_iload_n hx hb dX2_tell_32 rfl (lv_at hl 1 rfl) ?_
    refine k_ald i rfl (by omega) hx hb hE hP 1 rfl (by decide) dX2_tell_33 ?_
    refine W.widen (k := 0) (n := 0) (Nat.le_of_ble_eq_true rfl) (Nat.le_of_ble_eq_true rfl) ?_
    exact k_ri hx hb hr hlocks hS hP hD rfl dX2_tell_34
  by_cases w1_2 : p1 = 1
  · skip
    refine lv_lookup (tgt := 35) (off := 34) hx hb dX2_tell_1 (by decide) (by rw [w1_2]; decide) (by decide) ?_
    refine lv_aload_n hx hb dX2_tell_35 rfl (lv_at hl 0 rfl) ?_
    refine va_get (D := g.1) (ci := 2) (v := .ref l2) (C := RX2) (T := TX2) (N := 6) hx hb hts q_X2_tell_g_f2 hown hE.1 hP 0 rfl rfl 1 (by decide) (hts (.fieldLink RX2 15 "SoundLaws$Laws" "follows" "[I") q_X2_tell_g_2) (fun _ h9 => h9) rfl dX2_tell_36 ?_
    refine lv_iload_n hx hb dX2_tell_39 rfl (lv_at hl 1 rfl) ?_
    refine k_ald i rfl (by omega) hx hb hE hP 2 rfl (by decide) dX2_tell_40 ?_
    refine W.widen (k := 0) (n := 0) (Nat.le_of_ble_eq_true rfl) (Nat.le_of_ble_eq_true rfl) ?_
    exact k_ri hx hb hr hlocks hS hP hD rfl dX2_tell_41
  refine lv_lookup (tgt := 42) (off := 41) hx hb dX2_tell_1 (by decide) (by rw [lv_osw w1_1 (by decide)]; rw [lv_osw w1_2 (by decide)]; rfl) (by decide) ?_
  refine lv_aload_n hx hb dX2_tell_42 rfl (lv_at hl 0 rfl) ?_
  refine va_get (D := g.1) (ci := 2) (v := .ref l3) (C := RX2) (T := TX2) (N := 6) hx hb hts q_X2_tell_g_f2 hown hE.1 hP 0 rfl rfl 2 (by decide) (hts (.fieldLink RX2 18 "SoundLaws$Laws" "exceptions" "[I") q_X2_tell_g_3) (fun _ h9 => h9) rfl dX2_tell_43 ?_
  refine lv_iload_n hx hb dX2_tell_46 rfl (lv_at hl 1 rfl) ?_
  refine k_ald i rfl (by omega) hx hb hE hP 3 rfl (by decide) dX2_tell_47 ?_
  refine W.widen (k := 0) (n := 0) (Nat.le_of_ble_eq_true rfl) (Nat.le_of_ble_eq_true rfl) ?_
  exact k_ri hx hb hr hlocks hS hP hD rfl dX2_tell_48

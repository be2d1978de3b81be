def po_X8_nodesOf_4 (g : GG)  : Int32 → va_W → Prop := fun (r : Int32) w => w = [] ∧ (7 = r)
set_option maxHeartbeats 1500000 in
set_option maxRecDepth 100000 in
theorem c_X8_nodesOf_4 (l : Launch) (g : GG)   (sz : Nat) : MetI l yX8_nodesOf wsX8_nodesOf ({ frames := 0, cells := 0, slots := 0, locals := 0 }) g [.int 4] [] sz (po_X8_nodesOf_4 g ) 0 0 := by
  refine k_of (l := l) (y := yX8_nodesOf) (ws := wsX8_nodesOf) (rm := { frames := 0, cells := 0, slots := 0, locals := 0 }) (mc := 0) (ms := 0) (av := [.int 4]) (g := g) (wc := []) (Qc := fun A => va_Qi (po_X8_nodesOf_4 g ) (bk g A) A) (cc := cX8_nodesOf) (maxL := 1) (ret := (some .int)) (by decide) rfl (Nat.le_of_ble_eq_true rfl) ?_ sz
  intro p e s m below meth c hx hb hr hts hown hlocks hnm hml A hA hE hZ hP hD hS ls hl
  have hown : s.vm.findClass RX8 = some m.cls := hown
  have hl : lv_has ls 1 [(0, .int 4)] := hl
  refine lv_iload_n hx hb dX8_nodesOf_0 rfl (lv_at hl 0 rfl) ?_
  refine lv_iconst (v := 2) hx hb dX8_nodesOf_1 (by decide) ?_
  refine lv_icmp_ge (tgt := 9) hx hb dX8_nodesOf_2 (by decide) (fun c2_1 => ?_) (fun c2_1 => ?_)
  · skip
    refine lv_iconst (v := 2) hx hb dX8_nodesOf_9 (by decide) ?_
    refine lv_iload_n hx hb dX8_nodesOf_10 rfl (lv_at hl 0 rfl) ?_
    refine lv_imul hx hb dX8_nodesOf_11 ?_
    refine lv_topi (fun x_2 ex_2 => ?_)
    obtain rfl : x_2 = 8 := ex_2.trans (by decide)
    refine lv_iconst (v := 1) hx hb dX8_nodesOf_12 (by decide) ?_
    refine lv_isub hx hb dX8_nodesOf_13 ?_
    refine lv_topi (fun x_3 ex_3 => ?_)
    obtain rfl : x_3 = 7 := ex_3.trans (by decide)
    refine W.widen (k := 0) (n := 0) (Nat.le_of_ble_eq_true rfl) (Nat.le_of_ble_eq_true rfl) ?_
    exact k_ri hx hb hr hlocks hS hP hD ⟨rfl, rfl⟩ dX8_nodesOf_14
  · exact absurd c2_1 (by decide)
def po_X7_plant (g : GG) (h0 : Nat) (t1 : Nat) (t2 : Nat) (tg : Int32) (x : Int32) : va_W → Prop := fun w => w = [(h0, .inr (7, [.int x, .ref t1, .ref t2]))]
theorem q_X7_plant_f7 : ∀ w ∈ u_ws RX7 TX7 3, w ∈ wsX7_plant := by decide +kernel
theorem q_X7_plant_1 : (Cond.fieldLink RX7 18 "SoundLaws$Tree" "tongues" "I") ∈ wsX7_plant := by decide +kernel
set_option maxHeartbeats 1500000 in
set_option maxRecDepth 100000 in
theorem c_X7_plant (l : Launch) (g : GG) (h0 : Nat) (t1 : Nat) (t2 : Nat) (tg : Int32) (x : Int32)  (sz : Nat) : MetV l yX7_plant wsX7_plant ({ frames := 0, cells := 0, slots := 0, locals := 0 }) g [.ref h0, .int x] [(h0, .inr (7, [.int tg, .ref t1, .ref t2]))] sz (po_X7_plant g h0 t1 t2 tg x) 0 0 := by
  refine k_of (l := l) (y := yX7_plant) (ws := wsX7_plant) (rm := { frames := 0, cells := 0, slots := 0, locals := 0 }) (mc := 0) (ms := 0) (av := [.ref h0, .int x]) (g := g) (wc := [(h0, .inr (7, [.int tg, .ref t1, .ref t2]))]) (Qc := fun A => va_Qv (po_X7_plant g h0 t1 t2 tg x) (bk g A) A) (cc := cX7_plant) (maxL := 2) (ret := none) (by decide) rfl (Nat.le_of_ble_eq_true rfl) ?_ sz
  intro p e s m below meth c hx hb hr hts hown hlocks hnm hml A hA hE hZ hP hD hS ls hl
  have hown : s.vm.findClass RX7 = some m.cls := hown
  have hl : lv_has ls 2 [(0, .ref h0), (1, .int x)] := hl
  refine lv_aload_n hx hb dX7_plant_0 rfl (lv_at hl 0 rfl) ?_
  refine lv_iload_n hx hb dX7_plant_1 rfl (lv_at hl 1 rfl) ?_
  refine va_put (D := g.1) (ci := 7) (v := .int x) (ty := .int) (C := RX7) (T := TX7) (N := 3) hx hb hts q_X7_plant_f7 tyX7 tyX7_ok nmX7 hown hE.1 hP hD hS 0 rfl rfl 0 (by decide) (hts (.fieldLink RX7 18 "SoundLaws$Tree" "tongues" "I") q_X7_plant_1) (fun _ h9 => h9) rfl (by decide +kernel) rfl rfl (Nat.le_of_ble_eq_true rfl) dX7_plant_2 (fun H locs hP hD hS => ?_)
  have hP : va_P g.1 vwCl [(h0, .inr (7, [.int x, .ref t1, .ref t2]))] H := hP
  have hD : va_D A [(h0, .inr (7, [.int x, .ref t1, .ref t2]))] := hD
  refine W.widen (k := 0) (n := 0) (Nat.le_of_ble_eq_true rfl) (Nat.le_of_ble_eq_true rfl) ?_
  exact k_rv hx hb hr hlocks hS hP hD rfl dX7_plant_5
def po_X7_root (g : GG) (h0 : Nat) (t1 : Nat) (t2 : Nat) : Int32 → va_W → Prop := fun (r : Int32) w => w = [(h0, .inr (7, [.int 4, .ref t1, .ref t2]))] ∧ (6 = r)
theorem q_X7_root_f7 : ∀ w ∈ u_ws RX7 TX7 3, w ∈ wsX7_root := by decide +kernel
theorem q_X7_root_1 : (Cond.fieldLink RX7 18 "SoundLaws$Tree" "tongues" "I") ∈ wsX7_root := by decide +kernel
theorem q_X7_root_2 : (Cond.initialized RX8) ∈ wsX7_root := by decide +kernel
theorem q_X7_root_3 : (Cond.static yX8_nodesOf) ∈ wsX7_root := by decide +kernel
set_option maxHeartbeats 1500000 in
set_option maxRecDepth 100000 in
theorem c_X7_root (l : Launch) (g : GG) (h0 : Nat) (t1 : Nat) (t2 : Nat)  (sz : Nat) : MetI l yX7_root wsX7_root ({ frames := 1, cells := 0, slots := 0, locals := 20 }) g [.ref h0] [(h0, .inr (7, [.int 4, .ref t1, .ref t2]))] sz (po_X7_root g h0 t1 t2) 0 0 := by
  refine k_of (l := l) (y := yX7_root) (ws := wsX7_root) (rm := { frames := 1, cells := 0, slots := 0, locals := 20 }) (mc := 0) (ms := 0) (av := [.ref h0]) (g := g) (wc := [(h0, .inr (7, [.int 4, .ref t1, .ref t2]))]) (Qc := fun A => va_Qi (po_X7_root g h0 t1 t2) (bk g A) A) (cc := cX7_root) (maxL := 1) (ret := (some .int)) (by decide) rfl (Nat.le_of_ble_eq_true rfl) ?_ sz
  intro p e s m below meth c hx hb hr hts hown hlocks hnm hml A hA hE hZ hP hD hS ls hl
  have hown : s.vm.findClass RX7 = some m.cls := hown
  have hl : lv_has ls 1 [(0, .ref h0)] := hl
  refine lv_aload_n hx hb dX7_root_0 rfl (lv_at hl 0 rfl) ?_
  refine va_get (D := g.1) (ci := 7) (v := .int 4) (C := RX7) (T := TX7) (N := 3) hx hb hts q_X7_root_f7 hown hE.1 hP 0 rfl rfl 0 (by decide) (hts (.fieldLink RX7 18 "SoundLaws$Tree" "tongues" "I") q_X7_root_1) (fun _ h9 => h9) rfl dX7_root_1 ?_
  refine k_ci (wr := [(h0, .inr (7, [.int 4, .ref t1, .ref t2]))]) hP hD hS hA [] [0] rfl rfl (by decide) (by decide) (va_runSN (As := [.int 4]) (rest := []) ⟨hx, hb, hml, hown, hts⟩ (c_X8_nodesOf_4 l g   s.heap.size) ⟨va_cnB 1 hts gX7_root_X8_nodesOf_n22 rfl rfl rfl (hE.nw 13 rfl) (hts (.initialized RX8) q_X7_root_2) (by decide +kernel) ⟨Nat.le_of_ble_eq_true rfl, Nat.le_of_ble_eq_true rfl⟩, (hts (.static yX8_nodesOf) q_X7_root_3), trivial⟩ (k_preS hE hZ hP hD hS hA [] rfl (by decide)) rfl rfl hl.1 rfl (lv_room (Nat.le_of_ble_eq_true rfl)) dX7_root_4 ⟨Nat.le_of_ble_eq_true rfl, Nat.le_of_ble_eq_true rfl⟩) (fun r_1 w1 H locs hw hP hD hS => ?_)
  obtain ⟨rfl, rfl⟩ := hw
  have hP : va_P g.1 vwCl [(h0, .inr (7, [.int 4, .ref t1, .ref t2]))] H := hP
  have hD : va_D A [(h0, .inr (7, [.int 4, .ref t1, .ref t2]))] := hD
  refine lv_iconst (v := 1) hx hb dX7_root_7 (by decide) ?_
  refine lv_isub hx hb dX7_root_8 ?_
  refine lv_topi (fun x_3 ex_3 => ?_)
  obtain rfl : x_3 = 6 := ex_3.trans (by decide)
  refine W.widen (k := 0) (n := 0) (Nat.le_of_ble_eq_true rfl) (Nat.le_of_ble_eq_true rfl) ?_
  exact k_ri hx hb hr hlocks hS hP hD ⟨rfl, rfl⟩ dX7_root_9
def po_X7_pairOf_4 (g : GG) (h0 : Nat) (t1 : Nat) (t2 : Nat) : Int32 → va_W → Prop := fun (r : Int32) w => w = [(h0, .inr (7, [.int 4, .ref t1, .ref t2]))] ∧ (6 = r)
theorem q_X7_pairOf_4_f7 : ∀ w ∈ u_ws RX7 TX7 3, w ∈ wsX7_pairOf := by decide +kernel
theorem q_X7_pairOf_4_1 : (Cond.fieldLink RX7 18 "SoundLaws$Tree" "tongues" "I") ∈ wsX7_pairOf := by decide +kernel
set_option maxHeartbeats 1500000 in
set_option maxRecDepth 100000 in
theorem c_X7_pairOf_4 (l : Launch) (g : GG) (h0 : Nat) (t1 : Nat) (t2 : Nat)  (sz : Nat) : MetI l yX7_pairOf wsX7_pairOf ({ frames := 0, cells := 0, slots := 0, locals := 0 }) g [.ref h0, .int 4] [(h0, .inr (7, [.int 4, .ref t1, .ref t2]))] sz (po_X7_pairOf_4 g h0 t1 t2) 0 0 := by
  refine k_of (l := l) (y := yX7_pairOf) (ws := wsX7_pairOf) (rm := { frames := 0, cells := 0, slots := 0, locals := 0 }) (mc := 0) (ms := 0) (av := [.ref h0, .int 4]) (g := g) (wc := [(h0, .inr (7, [.int 4, .ref t1, .ref t2]))]) (Qc := fun A => va_Qi (po_X7_pairOf_4 g h0 t1 t2) (bk g A) A) (cc := cX7_pairOf) (maxL := 2) (ret := (some .int)) (by decide) rfl (Nat.le_of_ble_eq_true rfl) ?_ sz
  intro p e s m below meth c hx hb hr hts hown hlocks hnm hml A hA hE hZ hP hD hS ls hl
  have hown : s.vm.findClass RX7 = some m.cls := hown
  have hl : lv_has ls 2 [(0, .ref h0), (1, .int 4)] := hl
  refine va_getsN hx hb hZ.zFIRST_PAIR hS hown (va_Nw.use rfl (hE.nw (w := .fieldLinkNest RX7 44 "SoundLaws" "FIRST_PAIR" "[I" RX8) 14 rfl)) (fun _ h9 => h9) dX7_pairOf_0 ?_
  refine lv_aload_n hx hb dX7_pairOf_3 rfl (lv_at hl 0 rfl) ?_
  refine va_get (D := g.1) (ci := 7) (v := .int 4) (C := RX7) (T := TX7) (N := 3) hx hb hts q_X7_pairOf_4_f7 hown hE.1 hP 0 rfl rfl 0 (by decide) (hts (.fieldLink RX7 18 "SoundLaws$Tree" "tongues" "I") q_X7_pairOf_4_1) (fun _ h9 => h9) rfl dX7_pairOf_4 ?_
  refine k_tld 4 (by decide) (by decide) hx hb hZ.tFIRST_PAIR hS (by decide) (v := tb_FIRST_PAIR.getD 4 0) rfl dX7_pairOf_7 ?_
  refine lv_topi (fun x_1 ex_1 => ?_)
  obtain rfl : x_1 = 6 := ex_1.trans (by decide)
  refine lv_iconst (v := 2) hx hb dX7_pairOf_8 (by decide) ?_
  refine lv_iload_n hx hb dX7_pairOf_9 rfl (lv_at hl 1 rfl) ?_
  refine lv_aload_n hx hb dX7_pairOf_10 rfl (lv_at hl 0 rfl) ?_
  refine va_get (D := g.1) (ci := 7) (v := .int 4) (C := RX7) (T := TX7) (N := 3) hx hb hts q_X7_pairOf_4_f7 hown hE.1 hP 0 rfl rfl 0 (by decide) (hts (.fieldLink RX7 18 "SoundLaws$Tree" "tongues" "I") q_X7_pairOf_4_1) (fun _ h9 => h9) rfl dX7_pairOf_11 ?_
  refine lv_isub hx hb dX7_pairOf_14 ?_
  refine lv_topi (fun x_2 ex_2 => ?_)
  obtain rfl : x_2 = 0 := ex_2.trans (by decide)
  refine lv_imul hx hb dX7_pairOf_15 ?_
  refine lv_topi (fun x_3 ex_3 => ?_)
  obtain rfl : x_3 = 0 := ex_3.trans (by decide)
  refine lv_iadd hx hb dX7_pairOf_16 ?_
  refine lv_topi (fun x_4 ex_4 => ?_)
  obtain rfl : x_4 = 6 := ex_4.trans (by decide)
  refine W.widen (k := 0) (n := 0) (Nat.le_of_ble_eq_true rfl) (Nat.le_of_ble_eq_true rfl) ?_
  exact k_ri hx hb hr hlocks hS hP hD ⟨rfl, rfl⟩ dX7_pairOf_17
def po_X7_pairOf_5 (g : GG) (h0 : Nat) (t1 : Nat) (t2 : Nat) : Int32 → va_W → Prop := fun (r : Int32) w => w = [(h0, .inr (7, [.int 4, .ref t1, .ref t2]))] ∧ (8 = r)
theorem q_X7_pairOf_5_f7 : ∀ w ∈ u_ws RX7 TX7 3, w ∈ wsX7_pairOf := by decide +kernel
theorem q_X7_pairOf_5_1 : (Cond.fieldLink RX7 18 "SoundLaws$Tree" "tongues" "I") ∈ wsX7_pairOf := by decide +kernel
set_option maxHeartbeats 1500000 in
set_option maxRecDepth 100000 in
theorem c_X7_pairOf_5 (l : Launch) (g : GG) (h0 : Nat) (t1 : Nat) (t2 : Nat)  (sz : Nat) : MetI l yX7_pairOf wsX7_pairOf ({ frames := 0, cells := 0, slots := 0, locals := 0 }) g [.ref h0, .int 5] [(h0, .inr (7, [.int 4, .ref t1, .ref t2]))] sz (po_X7_pairOf_5 g h0 t1 t2) 0 0 := by
  refine k_of (l := l) (y := yX7_pairOf) (ws := wsX7_pairOf) (rm := { frames := 0, cells := 0, slots := 0, locals := 0 }) (mc := 0) (ms := 0) (av := [.ref h0, .int 5]) (g := g) (wc := [(h0, .inr (7, [.int 4, .ref t1, .ref t2]))]) (Qc := fun A => va_Qi (po_X7_pairOf_5 g h0 t1 t2) (bk g A) A) (cc := cX7_pairOf) (maxL := 2) (ret := (some .int)) (by decide) rfl (Nat.le_of_ble_eq_true rfl) ?_ sz
  intro p e s m below meth c hx hb hr hts hown hlocks hnm hml A hA hE hZ hP hD hS ls hl
  have hown : s.vm.findClass RX7 = some m.cls := hown
  have hl : lv_has ls 2 [(0, .ref h0), (1, .int 5)] := hl
  refine va_getsN hx hb hZ.zFIRST_PAIR hS hown (va_Nw.use rfl (hE.nw (w := .fieldLinkNest RX7 44 "SoundLaws" "FIRST_PAIR" "[I" RX8) 14 rfl)) (fun _ h9 => h9) dX7_pairOf_0 ?_
  refine lv_aload_n hx hb dX7_pairOf_3 rfl (lv_at hl 0 rfl) ?_
  refine va_get (D := g.1) (ci := 7) (v := .int 4) (C := RX7) (T := TX7) (N := 3) hx hb hts q_X7_pairOf_5_f7 hown hE.1 hP 0 rfl rfl 0 (by decide) (hts (.fieldLink RX7 18 "SoundLaws$Tree" "tongues" "I") q_X7_pairOf_5_1) (fun _ h9 => h9) rfl dX7_pairOf_4 ?_
  refine k_tld 4 (by decide) (by decide) hx hb hZ.tFIRST_PAIR hS (by decide) (v := tb_FIRST_PAIR.getD 4 0) rfl dX7_pairOf_7 ?_
  refine lv_topi (fun x_1 ex_1 => ?_)
  obtain rfl : x_1 = 6 := ex_1.trans (by decide)
  refine lv_iconst (v := 2) hx hb dX7_pairOf_8 (by decide) ?_
  refine lv_iload_n hx hb dX7_pairOf_9 rfl (lv_at hl 1 rfl) ?_
  refine lv_aload_n hx hb dX7_pairOf_10 rfl (lv_at hl 0 rfl) ?_
  refine va_get (D := g.1) (ci := 7) (v := .int 4) (C := RX7) (T := TX7) (N := 3) hx hb hts q_X7_pairOf_5_f7 hown hE.1 hP 0 rfl rfl 0 (by decide) (hts (.fieldLink RX7 18 "SoundLaws$Tree" "tongues" "I") q_X7_pairOf_5_1) (fun _ h9 => h9) rfl dX7_pairOf_11 ?_
  refine lv_isub hx hb dX7_pairOf_14 ?_
  refine lv_topi (fun x_2 ex_2 => ?_)
  obtain rfl : x_2 = 1 := ex_2.trans (by decide)
  refine lv_imul hx hb dX7_pairOf_15 ?_
  refine lv_topi (fun x_3 ex_3 => ?_)
  obtain rfl : x_3 = 2 := ex_3.trans (by decide)
  refine lv_iadd hx hb dX7_pairOf_16 ?_
  refine lv_topi (fun x_4 ex_4 => ?_)
  obtain rfl : x_4 = 8 := ex_4.trans (by decide)
  refine W.widen (k := 0) (n := 0) (Nat.le_of_ble_eq_true rfl) (Nat.le_of_ble_eq_true rfl) ?_
  exact k_ri hx hb hr hlocks hS hP hD ⟨rfl, rfl⟩ dX7_pairOf_17
def po_X7_pairOf_6 (g : GG) (h0 : Nat) (t1 : Nat) (t2 : Nat) : Int32 → va_W → Prop := fun (r : Int32) w => w = [(h0, .inr (7, [.int 4, .ref t1, .ref t2]))] ∧ (10 = r)
theorem q_X7_pairOf_6_f7 : ∀ w ∈ u_ws RX7 TX7 3, w ∈ wsX7_pairOf := by decide +kernel
theorem q_X7_pairOf_6_1 : (Cond.fieldLink RX7 18 "SoundLaws$Tree" "tongues" "I") ∈ wsX7_pairOf := by decide +kernel
set_option maxHeartbeats 1500000 in
set_option maxRecDepth 100000 in
theorem c_X7_pairOf_6 (l : Launch) (g : GG) (h0 : Nat) (t1 : Nat) (t2 : Nat)  (sz : Nat) : MetI l yX7_pairOf wsX7_pairOf ({ frames := 0, cells := 0, slots := 0, locals := 0 }) g [.ref h0, .int 6] [(h0, .inr (7, [.int 4, .ref t1, .ref t2]))] sz (po_X7_pairOf_6 g h0 t1 t2) 0 0 := by
  refine k_of (l := l) (y := yX7_pairOf) (ws := wsX7_pairOf) (rm := { frames := 0, cells := 0, slots := 0, locals := 0 }) (mc := 0) (ms := 0) (av := [.ref h0, .int 6]) (g := g) (wc := [(h0, .inr (7, [.int 4, .ref t1, .ref t2]))]) (Qc := fun A => va_Qi (po_X7_pairOf_6 g h0 t1 t2) (bk g A) A) (cc := cX7_pairOf) (maxL := 2) (ret := (some .int)) (by decide) rfl (Nat.le_of_ble_eq_true rfl) ?_ sz
  intro p e s m below meth c hx hb hr hts hown hlocks hnm hml A hA hE hZ hP hD hS ls hl
  have hown : s.vm.findClass RX7 = some m.cls := hown
  have hl : lv_has ls 2 [(0, .ref h0), (1, .int 6)] := hl
  refine va_getsN hx hb hZ.zFIRST_PAIR hS hown (va_Nw.use rfl (hE.nw (w := .fieldLinkNest RX7 44 "SoundLaws" "FIRST_PAIR" "[I" RX8) 14 rfl)) (fun _ h9 => h9) dX7_pairOf_0 ?_
  refine lv_aload_n hx hb dX7_pairOf_3 rfl (lv_at hl 0 rfl) ?_
  refine va_get (D := g.1) (ci := 7) (v := .int 4) (C := RX7) (T := TX7) (N := 3) hx hb hts q_X7_pairOf_6_f7 hown hE.1 hP 0 rfl rfl 0 (by decide) (hts (.fieldLink RX7 18 "SoundLaws$Tree" "tongues" "I") q_X7_pairOf_6_1) (fun _ h9 => h9) rfl dX7_pairOf_4 ?_
  refine k_tld 4 (by decide) (by decide) hx hb hZ.tFIRST_PAIR hS (by decide) (v := tb_FIRST_PAIR.getD 4 0) rfl dX7_pairOf_7 ?_
  refine lv_topi (fun x_1 ex_1 => ?_)
  obtain rfl : x_1 = 6 := ex_1.trans (by decide)
  refine lv_iconst (v := 2) hx hb dX7_pairOf_8 (by decide) ?_
  refine lv_iload_n hx hb dX7_pairOf_9 rfl (lv_at hl 1 rfl) ?_
  refine lv_aload_n hx hb dX7_pairOf_10 rfl (lv_at hl 0 rfl) ?_
  refine va_get (D := g.1) (ci := 7) (v := .int 4) (C := RX7) (T := TX7) (N := 3) hx hb hts q_X7_pairOf_6_f7 hown hE.1 hP 0 rfl rfl 0 (by decide) (hts (.fieldLink RX7 18 "SoundLaws$Tree" "tongues" "I") q_X7_pairOf_6_1) (fun _ h9 => h9) rfl dX7_pairOf_11 ?_
  refine lv_isub hx hb dX7_pairOf_14 ?_
  refine lv_topi (fun x_2 ex_2 => ?_)
  obtain rfl : x_2 = 2 := ex_2.trans (by decide)
  refine lv_imul hx hb dX7_pairOf_15 ?_
  refine lv_topi (fun x_3 ex_3 => ?_)
  obtain rfl : x_3 = 4 := ex_3.trans (by decide)
  refine lv_iadd hx hb dX7_pairOf_16 ?_
  refine lv_topi (fun x_4 ex_4 => ?_)
  obtain rfl : x_4 = 10 := ex_4.trans (by decide)
  refine W.widen (k := 0) (n := 0) (Nat.le_of_ble_eq_true rfl) (Nat.le_of_ble_eq_true rfl) ?_
  exact k_ri hx hb hr hlocks hS hP hD ⟨rfl, rfl⟩ dX7_pairOf_17
def po_X7_leastBelow_0 (g : GG) (h0 : Nat) (t1 : Nat) (t2 : Nat) (f : Nat → Int32) (fl : Nat → Int32) (a : Nat) (sd : Nat) : Int32 → va_W → Prop := fun (r : Int32) w => w = [(h0, .inr (7, [.int 4, .ref t1, .ref t2])), (t1, ai g 7 f), (t2, ai g 63 fl)] ∧ (cs sd a = r)
theorem q_X7_leastBelow_0_f7 : ∀ w ∈ u_ws RX7 TX7 3, w ∈ wsX7_leastBelow := by decide +kernel
theorem q_X7_leastBelow_0_1 : (Cond.fieldLink RX7 18 "SoundLaws$Tree" "tongues" "I") ∈ wsX7_leastBelow := by decide +kernel
theorem q_X7_leastBelow_0_2 : (Cond.fieldLink RX7 9 "SoundLaws$Tree" "sounds" "[I") ∈ wsX7_leastBelow := by decide +kernel
set_option maxHeartbeats 1500000 in
set_option maxRecDepth 100000 in
theorem c_X7_leastBelow_0 (l : Launch) (g : GG) (h0 : Nat) (t1 : Nat) (t2 : Nat) (f : Nat → Int32) (fl : Nat → Int32) (a : Nat) (sd : Nat) (ha : f 0 = nI a) (ha9 : a < 9) (hs9 : sd < 9) (sz : Nat) : MetI l yX7_leastBelow wsX7_leastBelow ({ frames := 0, cells := 0, slots := 0, locals := 0 }) g [.ref h0, .int 0, .int (nI sd)] [(h0, .inr (7, [.int 4, .ref t1, .ref t2])), (t1, ai g 7 f), (t2, ai g 63 fl)] sz (po_X7_leastBelow_0 g h0 t1 t2 f fl a sd) 0 0 := by
  refine k_of (l := l) (y := yX7_leastBelow) (ws := wsX7_leastBelow) (rm := { frames := 0, cells := 0, slots := 0, locals := 0 }) (mc := 0) (ms := 0) (av := [.ref h0, .int 0, .int (nI sd)]) (g := g) (wc := [(h0, .inr (7, [.int 4, .ref t1, .ref t2])), (t1, ai g 7 f), (t2, ai g 63 fl)]) (Qc := fun A => va_Qi (po_X7_leastBelow_0 g h0 t1 t2 f fl a sd) (bk g A) A) (cc := cX7_leastBelow) (maxL := 8) (ret := (some .int)) (by decide) rfl (Nat.le_of_ble_eq_true rfl) ?_ sz
  intro p e s m below meth c hx hb hr hts hown hlocks hnm hml A hA hE hZ hP hD hS ls hl
  have hown : s.vm.findClass RX7 = some m.cls := hown
  have hl : lv_has ls 8 [(0, .ref h0), (1, .int 0), (2, .int (nI sd))] := hl
  refine lv_iload_n hx hb dX7_leastBelow_0 rfl (lv_at hl 2 rfl) ?_
  refine lv_bipush (v := 9) hx hb dX7_leastBelow_1 (by decide) ?_
  refine lv_imul hx hb dX7_leastBelow_3 ?_
  refine lv_topi (fun x3 ex3 => ?_)
  refine lv_istore_n (lv' := [(3, .int x3), (0, .ref h0), (1, .int 0), (2, .int (nI sd))]) hx hb dX7_leastBelow_4 rfl hl (by decide) rfl (fun ls hl => ?_)
  refine lv_iload_n hx hb dX7_leastBelow_5 rfl (lv_at hl 2 rfl) ?_
  refine lv_aload_n hx hb dX7_leastBelow_6 rfl (lv_at hl 1 rfl) ?_
  refine va_get (D := g.1) (ci := 7) (v := .int 4) (C := RX7) (T := TX7) (N := 3) hx hb hts q_X7_leastBelow_0_f7 hown hE.1 hP 0 rfl rfl 0 (by decide) (hts (.fieldLink RX7 18 "SoundLaws$Tree" "tongues" "I") q_X7_leastBelow_0_1) (fun _ h9 => h9) rfl dX7_leastBelow_7 ?_
  refine lv_icmp_ge (tgt := 26) hx hb dX7_leastBelow_10 (by decide) (fun c10_1 => ?_) (fun c10_1 => ?_)
  · exact absurd c10_1 (by decide)
  · skip
    refine va_getsN hx hb hZ.zCOSTS hS hown (va_Nw.use rfl (hE.nw (w := .fieldLinkNest RX7 47 "SoundLaws" "COSTS" "[I" RX8) 16 rfl)) (fun _ h9 => h9) dX7_leastBelow_13 ?_
    refine lv_iload_n hx hb dX7_leastBelow_16 rfl (lv_at hl 0 rfl) ?_
    refine lv_aload_n hx hb dX7_leastBelow_17 rfl (lv_at hl 1 rfl) ?_
    refine va_get (D := g.1) (ci := 7) (v := .ref t1) (C := RX7) (T := TX7) (N := 3) hx hb hts q_X7_leastBelow_0_f7 hown hE.1 hP 0 rfl rfl 1 (by decide) (hts (.fieldLink RX7 9 "SoundLaws$Tree" "sounds" "[I") q_X7_leastBelow_0_2) (fun _ h9 => h9) rfl dX7_leastBelow_18 ?_
    refine lv_iload_n hx hb dX7_leastBelow_21 rfl (lv_at hl 2 rfl) ?_
    refine k_ald 0 (by decide) (by decide) hx hb hE hP 1 rfl (by decide) dX7_leastBelow_22 ?_
    refine lv_iadd hx hb dX7_leastBelow_23 ?_
    refine k_tld (9 * sd + a) (by rw [ex3, ha, show (9 : Int32) = nI 9 from rfl, pk_mul, nI_add, Nat.mul_comm]) (by omega) hx hb hZ.tCOSTS hS (by decide) (v := tb_COSTS.getD (9 * sd + a) 0) rfl dX7_leastBelow_24 ?_
    refine W.widen (k := 0) (n := 0) (Nat.le_of_ble_eq_true rfl) (Nat.le_of_ble_eq_true rfl) ?_
    exact k_ri hx hb hr hlocks hS hP hD ⟨rfl, rfl⟩ dX7_leastBelow_25
def po_X7_leastBelow_1 (g : GG) (h0 : Nat) (t1 : Nat) (t2 : Nat) (f : Nat → Int32) (fl : Nat → Int32) (a : Nat) (sd : Nat) : Int32 → va_W → Prop := fun (r : Int32) w => w = [(h0, .inr (7, [.int 4, .ref t1, .ref t2])), (t1, ai g 7 f), (t2, ai g 63 fl)] ∧ (cs sd a = r)
theorem q_X7_leastBelow_1_f7 : ∀ w ∈ u_ws RX7 TX7 3, w ∈ wsX7_leastBelow := by decide +kernel
theorem q_X7_leastBelow_1_1 : (Cond.fieldLink RX7 18 "SoundLaws$Tree" "tongues" "I") ∈ wsX7_leastBelow := by decide +kernel
theorem q_X7_leastBelow_1_2 : (Cond.fieldLink RX7 9 "SoundLaws$Tree" "sounds" "[I") ∈ wsX7_leastBelow := by decide +kernel
set_option maxHeartbeats 1500000 in
set_option maxRecDepth 100000 in
theorem c_X7_leastBelow_1 (l : Launch) (g : GG) (h0 : Nat) (t1 : Nat) (t2 : Nat) (f : Nat → Int32) (fl : Nat → Int32) (a : Nat) (sd : Nat) (ha : f 1 = nI a) (ha9 : a < 9) (hs9 : sd < 9) (sz : Nat) : MetI l yX7_leastBelow wsX7_leastBelow ({ frames := 0, cells := 0, slots := 0, locals := 0 }) g [.ref h0, .int 1, .int (nI sd)] [(h0, .inr (7, [.int 4, .ref t1, .ref t2])), (t1, ai g 7 f), (t2, ai g 63 fl)] sz (po_X7_leastBelow_1 g h0 t1 t2 f fl a sd) 0 0 := by
  refine k_of (l := l) (y := yX7_leastBelow) (ws := wsX7_leastBelow) (rm := { frames := 0, cells := 0, slots := 0, locals := 0 }) (mc := 0) (ms := 0) (av := [.ref h0, .int 1, .int (nI sd)]) (g := g) (wc := [(h0, .inr (7, [.int 4, .ref t1, .ref t2])), (t1, ai g 7 f), (t2, ai g 63 fl)]) (Qc := fun A => va_Qi (po_X7_leastBelow_1 g h0 t1 t2 f fl a sd) (bk g A) A) (cc := cX7_leastBelow) (maxL := 8) (ret := (some .int)) (by decide) rfl (Nat.le_of_ble_eq_true rfl) ?_ sz
  intro p e s m below meth c hx hb hr hts hown hlocks hnm hml A hA hE hZ hP hD hS ls hl
  have hown : s.vm.findClass RX7 = some m.cls := hown
  have hl : lv_has ls 8 [(0, .ref h0), (1, .int 1), (2, .int (nI sd))] := hl
  refine lv_iload_n hx hb dX7_leastBelow_0 rfl (lv_at hl 2 rfl) ?_
  refine lv_bipush (v := 9) hx hb dX7_leastBelow_1 (by decide) ?_
  refine lv_imul hx hb dX7_leastBelow_3 ?_
  refine lv_topi (fun x3 ex3 => ?_)
  refine lv_istore_n (lv' := [(3, .int x3), (0, .ref h0), (1, .int 1), (2, .int (nI sd))]) hx hb dX7_leastBelow_4 rfl hl (by decide) rfl (fun ls hl => ?_)
  refine lv_iload_n hx hb dX7_leastBelow_5 rfl (lv_at hl 2 rfl) ?_
  refine lv_aload_n hx hb dX7_leastBelow_6 rfl (lv_at hl 1 rfl) ?_
  refine va_get (D := g.1) (ci := 7) (v := .int 4) (C := RX7) (T := TX7) (N := 3) hx hb hts q_X7_leastBelow_1_f7 hown hE.1 hP 0 rfl rfl 0 (by decide) (hts (.fieldLink RX7 18 "SoundLaws$Tree" "tongues" "I") q_X7_leastBelow_1_1) (fun _ h9 => h9) rfl dX7_leastBelow_7 ?_
  refine lv_icmp_ge (tgt := 26) hx hb dX7_leastBelow_10 (by decide) (fun c10_1 => ?_) (fun c10_1 => ?_)
  · exact absurd c10_1 (by decide)
  · skip
    refine va_getsN hx hb hZ.zCOSTS hS hown (va_Nw.use rfl (hE.nw (w := .fieldLinkNest RX7 47 "SoundLaws" "COSTS" "[I" RX8) 16 rfl)) (fun _ h9 => h9) dX7_leastBelow_13 ?_
    refine lv_iload_n hx hb dX7_leastBelow_16 rfl (lv_at hl 0 rfl) ?_
    refine lv_aload_n hx hb dX7_leastBelow_17 rfl (lv_at hl 1 rfl) ?_
    refine va_get (D := g.1) (ci := 7) (v := .ref t1) (C := RX7) (T := TX7) (N := 3) hx hb hts q_X7_leastBelow_1_f7 hown hE.1 hP 0 rfl rfl 1 (by decide) (hts (.fieldLink RX7 9 "SoundLaws$Tree" "sounds" "[I") q_X7_leastBelow_1_2) (fun _ h9 => h9) rfl dX7_leastBelow_18 ?_
    refine lv_iload_n hx hb dX7_leastBelow_21 rfl (lv_at hl 2 rfl) ?_
    refine k_ald 1 (by decide) (by decide) hx hb hE hP 1 rfl (by decide) dX7_leastBelow_22 ?_
    refine lv_iadd hx hb dX7_leastBelow_23 ?_
    refine k_tld (9 * sd + a) (by rw [ex3, ha, show (9 : Int32) = nI 9 from rfl, pk_mul, nI_add, Nat.mul_comm]) (by omega) hx hb hZ.tCOSTS hS (by decide) (v := tb_COSTS.getD (9 * sd + a) 0) rfl dX7_leastBelow_24 ?_
    refine W.widen (k := 0) (n := 0) (Nat.le_of_ble_eq_true rfl) (Nat.le_of_ble_eq_true rfl) ?_
    exact k_ri hx hb hr hlocks hS hP hD ⟨rfl, rfl⟩ dX7_leastBelow_25
def po_X7_leastBelow_2 (g : GG) (h0 : Nat) (t1 : Nat) (t2 : Nat) (f : Nat → Int32) (fl : Nat → Int32) (a : Nat) (sd : Nat) : Int32 → va_W → Prop := fun (r : Int32) w => w = [(h0, .inr (7, [.int 4, .ref t1, .ref t2])), (t1, ai g 7 f), (t2, ai g 63 fl)] ∧ (cs sd a = r)
theorem q_X7_leastBelow_2_f7 : ∀ w ∈ u_ws RX7 TX7 3, w ∈ wsX7_leastBelow := by decide +kernel
theorem q_X7_leastBelow_2_1 : (Cond.fieldLink RX7 18 "SoundLaws$Tree" "tongues" "I") ∈ wsX7_leastBelow := by decide +kernel
theorem q_X7_leastBelow_2_2 : (Cond.fieldLink RX7 9 "SoundLaws$Tree" "sounds" "[I") ∈ wsX7_leastBelow := by decide +kernel
set_option maxHeartbeats 1500000 in
set_option maxRecDepth 100000 in
theorem c_X7_leastBelow_2 (l : Launch) (g : GG) (h0 : Nat) (t1 : Nat) (t2 : Nat) (f : Nat → Int32) (fl : Nat → Int32) (a : Nat) (sd : Nat) (ha : f 2 = nI a) (ha9 : a < 9) (hs9 : sd < 9) (sz : Nat) : MetI l yX7_leastBelow wsX7_leastBelow ({ frames := 0, cells := 0, slots := 0, locals := 0 }) g [.ref h0, .int 2, .int (nI sd)] [(h0, .inr (7, [.int 4, .ref t1, .ref t2])), (t1, ai g 7 f), (t2, ai g 63 fl)] sz (po_X7_leastBelow_2 g h0 t1 t2 f fl a sd) 0 0 := by
  refine k_of (l := l) (y := yX7_leastBelow) (ws := wsX7_leastBelow) (rm := { frames := 0, cells := 0, slots := 0, locals := 0 }) (mc := 0) (ms := 0) (av := [.ref h0, .int 2, .int (nI sd)]) (g := g) (wc := [(h0, .inr (7, [.int 4, .ref t1, .ref t2])), (t1, ai g 7 f), (t2, ai g 63 fl)]) (Qc := fun A => va_Qi (po_X7_leastBelow_2 g h0 t1 t2 f fl a sd) (bk g A) A) (cc := cX7_leastBelow) (maxL := 8) (ret := (some .int)) (by decide) rfl (Nat.le_of_ble_eq_true rfl) ?_ sz
  intro p e s m below meth c hx hb hr hts hown hlocks hnm hml A hA hE hZ hP hD hS ls hl
  have hown : s.vm.findClass RX7 = some m.cls := hown
  have hl : lv_has ls 8 [(0, .ref h0), (1, .int 2), (2, .int (nI sd))] := hl
  refine lv_iload_n hx hb dX7_leastBelow_0 rfl (lv_at hl 2 rfl) ?_
  refine lv_bipush (v := 9) hx hb dX7_leastBelow_1 (by decide) ?_
  refine lv_imul hx hb dX7_leastBelow_3 ?_
  refine lv_topi (fun x3 ex3 => ?_)
  refine lv_istore_n (lv' := [(3, .int x3), (0, .ref h0), (1, .int 2), (2, .int (nI sd))]) hx hb dX7_leastBelow_4 rfl hl (by decide) rfl (fun ls hl => ?_)
  refine lv_iload_n hx hb dX7_leastBelow_5 rfl (lv_at hl 2 rfl) ?_
  refine lv_aload_n hx hb dX7_leastBelow_6 rfl (lv_at hl 1 rfl) ?_
  refine va_get (D := g.1) (ci := 7) (v := .int 4) (C := RX7) (T := TX7) (N := 3) hx hb hts q_X7_leastBelow_2_f7 hown hE.1 hP 0 rfl rfl 0 (by decide) (hts (.fieldLink RX7 18 "SoundLaws$Tree" "tongues" "I") q_X7_leastBelow_2_1) (fun _ h9 => h9) rfl dX7_leastBelow_7 ?_
  refine lv_icmp_ge (tgt := 26) hx hb dX7_leastBelow_10 (by decide) (fun c10_1 => ?_) (fun c10_1 => ?_)
  · exact absurd c10_1 (by decide)
  · skip
    refine va_getsN hx hb hZ.zCOSTS hS hown (va_Nw.use rfl (hE.nw (w := .fieldLinkNest RX7 47 "SoundLaws" "COSTS" "[I" RX8) 16 rfl)) (fun _ h9 => h9) dX7_leastBelow_13 ?_
    refine lv_iload_n hx hb dX7_leastBelow_16 rfl (lv_at hl 0 rfl) ?_
    refine lv_aload_n hx hb dX7_leastBelow_17 rfl (lv_at hl 1 rfl) ?_
    refine va_get (D := g.1) (ci := 7) (v := .ref t1) (C := RX7) (T := TX7) (N := 3) hx hb hts q_X7_leastBelow_2_f7 hown hE.1 hP 0 rfl rfl 1 (by decide) (hts (.fieldLink RX7 9 "SoundLaws$Tree" "sounds" "[I") q_X7_leastBelow_2_2) (fun _ h9 => h9) rfl dX7_leastBelow_18 ?_
    refine lv_iload_n hx hb dX7_leastBelow_21 rfl (lv_at hl 2 rfl) ?_
    refine k_ald 2 (by decide) (by decide) hx hb hE hP 1 rfl (by decide) dX7_leastBelow_22 ?_
    refine lv_iadd hx hb dX7_leastBelow_23 ?_
    refine k_tld (9 * sd + a) (by rw [ex3, ha, show (9 : Int32) = nI 9 from rfl, pk_mul, nI_add, Nat.mul_comm]) (by omega) hx hb hZ.tCOSTS hS (by decide) (v := tb_COSTS.getD (9 * sd + a) 0) rfl dX7_leastBelow_24 ?_
    refine W.widen (k := 0) (n := 0) (Nat.le_of_ble_eq_true rfl) (Nat.le_of_ble_eq_true rfl) ?_
    exact k_ri hx hb hr hlocks hS hP hD ⟨rfl, rfl⟩ dX7_leastBelow_25
def po_X7_leastBelow_3 (g : GG) (h0 : Nat) (t1 : Nat) (t2 : Nat) (f : Nat → Int32) (fl : Nat → Int32) (a : Nat) (sd : Nat) : Int32 → va_W → Prop := fun (r : Int32) w => w = [(h0, .inr (7, [.int 4, .ref t1, .ref t2])), (t1, ai g 7 f), (t2, ai g 63 fl)] ∧ (cs sd a = r)
theorem q_X7_leastBelow_3_f7 : ∀ w ∈ u_ws RX7 TX7 3, w ∈ wsX7_leastBelow := by decide +kernel
theorem q_X7_leastBelow_3_1 : (Cond.fieldLink RX7 18 "SoundLaws$Tree" "tongues" "I") ∈ wsX7_leastBelow := by decide +kernel
theorem q_X7_leastBelow_3_2 : (Cond.fieldLink RX7 9 "SoundLaws$Tree" "sounds" "[I") ∈ wsX7_leastBelow := by decide +kernel
set_option maxHeartbeats 1500000 in
set_option maxRecDepth 100000 in
theorem c_X7_leastBelow_3 (l : Launch) (g : GG) (h0 : Nat) (t1 : Nat) (t2 : Nat) (f : Nat → Int32) (fl : Nat → Int32) (a : Nat) (sd : Nat) (ha : f 3 = nI a) (ha9 : a < 9) (hs9 : sd < 9) (sz : Nat) : MetI l yX7_leastBelow wsX7_leastBelow ({ frames := 0, cells := 0, slots := 0, locals := 0 }) g [.ref h0, .int 3, .int (nI sd)] [(h0, .inr (7, [.int 4, .ref t1, .ref t2])), (t1, ai g 7 f), (t2, ai g 63 fl)] sz (po_X7_leastBelow_3 g h0 t1 t2 f fl a sd) 0 0 := by
  refine k_of (l := l) (y := yX7_leastBelow) (ws := wsX7_leastBelow) (rm := { frames := 0, cells := 0, slots := 0, locals := 0 }) (mc := 0) (ms := 0) (av := [.ref h0, .int 3, .int (nI sd)]) (g := g) (wc := [(h0, .inr (7, [.int 4, .ref t1, .ref t2])), (t1, ai g 7 f), (t2, ai g 63 fl)]) (Qc := fun A => va_Qi (po_X7_leastBelow_3 g h0 t1 t2 f fl a sd) (bk g A) A) (cc := cX7_leastBelow) (maxL := 8) (ret := (some .int)) (by decide) rfl (Nat.le_of_ble_eq_true rfl) ?_ sz
  intro p e s m below meth c hx hb hr hts hown hlocks hnm hml A hA hE hZ hP hD hS ls hl
  have hown : s.vm.findClass RX7 = some m.cls := hown
  have hl : lv_has ls 8 [(0, .ref h0), (1, .int 3), (2, .int (nI sd))] := hl
  refine lv_iload_n hx hb dX7_leastBelow_0 rfl (lv_at hl 2 rfl) ?_
  refine lv_bipush (v := 9) hx hb dX7_leastBelow_1 (by decide) ?_
  refine lv_imul hx hb dX7_leastBelow_3 ?_
  refine lv_topi (fun x3 ex3 => ?_)
  refine lv_istore_n (lv' := [(3, .int x3), (0, .ref h0), (1, .int 3), (2, .int (nI sd))]) hx hb dX7_leastBelow_4 rfl hl (by decide) rfl (fun ls hl => ?_)
  refine lv_iload_n hx hb dX7_leastBelow_5 rfl (lv_at hl 2 rfl) ?_
  refine lv_aload_n hx hb dX7_leastBelow_6 rfl (lv_at hl 1 rfl) ?_
  refine va_get (D := g.1) (ci := 7) (v := .int 4) (C := RX7) (T := TX7) (N := 3) hx hb hts q_X7_leastBelow_3_f7 hown hE.1 hP 0 rfl rfl 0 (by decide) (hts (.fieldLink RX7 18 "SoundLaws$Tree" "tongues" "I") q_X7_leastBelow_3_1) (fun _ h9 => h9) rfl dX7_leastBelow_7 ?_
  refine lv_icmp_ge (tgt := 26) hx hb dX7_leastBelow_10 (by decide) (fun c10_1 => ?_) (fun c10_1 => ?_)
  · exact absurd c10_1 (by decide)
  · skip
    refine va_getsN hx hb hZ.zCOSTS hS hown (va_Nw.use rfl (hE.nw (w := .fieldLinkNest RX7 47 "SoundLaws" "COSTS" "[I" RX8) 16 rfl)) (fun _ h9 => h9) dX7_leastBelow_13 ?_
    refine lv_iload_n hx hb dX7_leastBelow_16 rfl (lv_at hl 0 rfl) ?_
    refine lv_aload_n hx hb dX7_leastBelow_17 rfl (lv_at hl 1 rfl) ?_
    refine va_get (D := g.1) (ci := 7) (v := .ref t1) (C := RX7) (T := TX7) (N := 3) hx hb hts q_X7_leastBelow_3_f7 hown hE.1 hP 0 rfl rfl 1 (by decide) (hts (.fieldLink RX7 9 "SoundLaws$Tree" "sounds" "[I") q_X7_leastBelow_3_2) (fun _ h9 => h9) rfl dX7_leastBelow_18 ?_
    refine lv_iload_n hx hb dX7_leastBelow_21 rfl (lv_at hl 2 rfl) ?_
    refine k_ald 3 (by decide) (by decide) hx hb hE hP 1 rfl (by decide) dX7_leastBelow_22 ?_
    refine lv_iadd hx hb dX7_leastBelow_23 ?_
    refine k_tld (9 * sd + a) (by rw [ex3, ha, show (9 : Int32) = nI 9 from rfl, pk_mul, nI_add, Nat.mul_comm]) (by omega) hx hb hZ.tCOSTS hS (by decide) (v := tb_COSTS.getD (9 * sd + a) 0) rfl dX7_leastBelow_24 ?_
    refine W.widen (k := 0) (n := 0) (Nat.le_of_ble_eq_true rfl) (Nat.le_of_ble_eq_true rfl) ?_
    exact k_ri hx hb hr hlocks hS hP hD ⟨rfl, rfl⟩ dX7_leastBelow_25
def po_X7_leastBelow_4 (g : GG) (h0 : Nat) (t1 : Nat) (t2 : Nat) (f : Nat → Int32) (fl : Nat → Int32) (sd : Nat) : Int32 → va_W → Prop := fun (r : Int32) w => w = [(h0, .inr (7, [.int 4, .ref t1, .ref t2])), (t1, ai g 7 f), (t2, ai g 63 fl)] ∧ (mn (fun t => cs sd t + fl (36 + t)) 8 = r)
theorem q_X7_leastBelow_4_f7 : ∀ w ∈ u_ws RX7 TX7 3, w ∈ wsX7_leastBelow := by decide +kernel
theorem q_X7_leastBelow_4_1 : (Cond.fieldLink RX7 18 "SoundLaws$Tree" "tongues" "I") ∈ wsX7_leastBelow := by decide +kernel
theorem q_X7_leastBelow_4_2 : (Cond.fieldLink RX7 15 "SoundLaws$Tree" "least" "[I") ∈ wsX7_leastBelow := by decide +kernel
set_option maxHeartbeats 1500000 in
set_option maxRecDepth 100000 in
theorem c_X7_leastBelow_4 (l : Launch) (g : GG) (h0 : Nat) (t1 : Nat) (t2 : Nat) (f : Nat → Int32) (fl : Nat → Int32) (sd : Nat) (hs9 : sd < 9) (sz : Nat) : MetI l yX7_leastBelow wsX7_leastBelow ({ frames := 0, cells := 0, slots := 0, locals := 0 }) g [.ref h0, .int 4, .int (nI sd)] [(h0, .inr (7, [.int 4, .ref t1, .ref t2])), (t1, ai g 7 f), (t2, ai g 63 fl)] sz (po_X7_leastBelow_4 g h0 t1 t2 f fl sd) 0 0 := by
  refine k_of (l := l) (y := yX7_leastBelow) (ws := wsX7_leastBelow) (rm := { frames := 0, cells := 0, slots := 0, locals := 0 }) (mc := 0) (ms := 0) (av := [.ref h0, .int 4, .int (nI sd)]) (g := g) (wc := [(h0, .inr (7, [.int 4, .ref t1, .ref t2])), (t1, ai g 7 f), (t2, ai g 63 fl)]) (Qc := fun A => va_Qi (po_X7_leastBelow_4 g h0 t1 t2 f fl sd) (bk g A) A) (cc := cX7_leastBelow) (maxL := 8) (ret := (some .int)) (by decide) rfl (Nat.le_of_ble_eq_true rfl) ?_ sz
  intro p e s m below meth c hx hb hr hts hown hlocks hnm hml A hA hE hZ hP hD hS ls hl
  have hown : s.vm.findClass RX7 = some m.cls := hown
  have hl : lv_has ls 8 [(0, .ref h0), (1, .int 4), (2, .int (nI sd))] := hl
  refine lv_iload_n hx hb dX7_leastBelow_0 rfl (lv_at hl 2 rfl) ?_
  refine lv_bipush (v := 9) hx hb dX7_leastBelow_1 (by decide) ?_
  refine lv_imul hx hb dX7_leastBelow_3 ?_
  refine lv_topi (fun x3 ex3 => ?_)
  refine lv_istore_n (lv' := [(3, .int x3), (0, .ref h0), (1, .int 4), (2, .int (nI sd))]) hx hb dX7_leastBelow_4 rfl hl (by decide) rfl (fun ls hl => ?_)
  refine lv_iload_n hx hb dX7_leastBelow_5 rfl (lv_at hl 2 rfl) ?_
  refine lv_aload_n hx hb dX7_leastBelow_6 rfl (lv_at hl 1 rfl) ?_
  refine va_get (D := g.1) (ci := 7) (v := .int 4) (C := RX7) (T := TX7) (N := 3) hx hb hts q_X7_leastBelow_4_f7 hown hE.1 hP 0 rfl rfl 0 (by decide) (hts (.fieldLink RX7 18 "SoundLaws$Tree" "tongues" "I") q_X7_leastBelow_4_1) (fun _ h9 => h9) rfl dX7_leastBelow_7 ?_
  refine lv_icmp_ge (tgt := 26) hx hb dX7_leastBelow_10 (by decide) (fun c10_1 => ?_) (fun c10_1 => ?_)
  · skip
    refine lv_iload_n hx hb dX7_leastBelow_26 rfl (lv_at hl 2 rfl) ?_
    refine lv_bipush (v := 9) hx hb dX7_leastBelow_27 (by decide) ?_
    refine lv_imul hx hb dX7_leastBelow_29 ?_
    refine lv_topi (fun x_2 ex_2 => ?_)
    obtain rfl : x_2 = 36 := ex_2.trans (by decide)
    refine lv_istore (lv' := [(4, .int 36), (3, .int x3), (0, .ref h0), (1, .int 4), (2, .int (nI sd))]) hx hb dX7_leastBelow_30 hl (by decide) rfl (fun ls hl => ?_)
    refine va_getsN hx hb hZ.zCOSTS hS hown (va_Nw.use rfl (hE.nw (w := .fieldLinkNest RX7 47 "SoundLaws" "COSTS" "[I" RX8) 16 rfl)) (fun _ h9 => h9) dX7_leastBelow_32 ?_
    refine lv_iload_n hx hb dX7_leastBelow_35 rfl (lv_at hl 1 rfl) ?_
    refine k_tld (9 * sd + 0) (by rw [ex3, show (9 : Int32) = nI 9 from rfl, pk_mul, Nat.mul_comm]; rfl) (by omega) hx hb hZ.tCOSTS hS (by decide) (v := tb_COSTS.getD (9 * sd + 0) 0) rfl dX7_leastBelow_36 ?_
    refine lv_aload_n hx hb dX7_leastBelow_37 rfl (lv_at hl 2 rfl) ?_
    refine va_get (D := g.1) (ci := 7) (v := .ref t2) (C := RX7) (T := TX7) (N := 3) hx hb hts q_X7_leastBelow_4_f7 hown hE.1 hP 0 rfl rfl 2 (by decide) (hts (.fieldLink RX7 15 "SoundLaws$Tree" "least" "[I") q_X7_leastBelow_4_2) (fun _ h9 => h9) rfl dX7_leastBelow_38 ?_
    refine lv_iload hx hb dX7_leastBelow_41 (lv_at hl 0 rfl) ?_
    refine k_ald 36 (by decide) (by decide) hx hb hE hP 2 rfl (by decide) dX7_leastBelow_43 ?_
    refine lv_iadd hx hb dX7_leastBelow_44 ?_
    refine lv_topi (fun x5i ex5i => ?_)
    refine lv_istore (lv' := [(5, .int x5i), (4, .int 36), (3, .int x3), (0, .ref h0), (1, .int 4), (2, .int (nI sd))]) hx hb dX7_leastBelow_45 hl (by decide) rfl (fun ls hl => ?_)
    refine lv_iconst (v := 1) hx hb dX7_leastBelow_47 (by decide) ?_
    refine lv_istore (lv' := [(6, .int 1), (5, .int x5i), (4, .int 36), (3, .int x3), (0, .ref h0), (1, .int 4), (2, .int (nI sd))]) hx hb dX7_leastBelow_48 hl (by decide) rfl (fun ls hl => ?_)
    have loop50 : ∀ (fu : Nat) (j : Nat) (x5 : Int32), (hj : j ≤ 8) → (e5 : x5 = mn (fun t => cs sd t + fl (36 + t)) j) → 9 - j < fu → ∀ (H : Heap) (locs : List Loc) (ls : Array Slot), va_P g.1 vwCl [(h0, .inr (7, [.int 4, .ref t1, .ref t2])), (t1, ai g 7 f), (t2, ai g 63 fl)] H → va_D A [(h0, .inr (7, [.int 4, .ref t1, .ref t2])), (t1, ai g 7 f), (t2, ai g 63 fl)] → va_S A s.heap H locs → lv_has ls 8 [(0, .ref h0), (1, .int 4), (2, .int (nI sd)), (3, .int x3), (4, .int 36), (5, .int x5), (6, .int (nI (j + 1)))] → W p l e ({ frames := 0, cells := 0, slots := 0, locals := 0 }) s m [.ref h0, .int 4, .int (nI sd)].toArray below meth c H locs 0 0 (MQ below (va_Qi (po_X7_leastBelow_4 g h0 t1 t2 f fl sd) (bk g A) A) [.ref h0, .int 4, .int (nI sd)].toArray s 0 0 A) (F0 m 50 ls []) := by
      intro fu
      induction fu with
      | zero => intro j x5 hj e5 hfu; exact absurd hfu (Nat.not_lt_zero _)
      | succ fu ih =>
        intro j x5 hj e5 hfu H locs ls hP hD hS hl
        have ih50 := ih
        refine lv_iload hx hb dX7_leastBelow_50 (lv_at hl 6 rfl) ?_
        refine lv_bipush (v := 9) hx hb dX7_leastBelow_52 (by decide) ?_
        refine lv_icmp_ge (tgt := 95) hx hb dX7_leastBelow_54 (by decide) (fun c54_3 => ?_) (fun c54_3 => ?_)
        · skip
          have hj9 := ge_of_le (k := 9) (n := j + 1) (by decide) (by omega) c54_3
          refine lv_iload hx hb dX7_leastBelow_95 (lv_at hl 5 rfl) ?_
          refine W.widen (k := 0) (n := 0) (Nat.le_of_ble_eq_true rfl) (Nat.le_of_ble_eq_true rfl) ?_
          exact k_ri hx hb hr hlocks hS hP hD ⟨rfl, (by rw [e5, show j = 8 by omega])⟩ dX7_leastBelow_97
        · skip
          have hj8 := lt_of_nle (k := 9) (n := j + 1) (by decide) (by omega) c54_3
          refine va_getsN hx hb hZ.zCOSTS hS hown (va_Nw.use rfl (hE.nw (w := .fieldLinkNest RX7 47 "SoundLaws" "COSTS" "[I" RX8) 16 rfl)) (fun _ h9 => h9) dX7_leastBelow_57 ?_
          refine lv_iload_n hx hb dX7_leastBelow_60 rfl (lv_at hl 3 rfl) ?_
          refine lv_iload hx hb dX7_leastBelow_61 (lv_at hl 6 rfl) ?_
          refine lv_iadd hx hb dX7_leastBelow_63 ?_
          refine k_tld (9 * sd + (j + 1)) (by rw [ex3, show (9 : Int32) = nI 9 from rfl, pk_mul, nI_add, Nat.mul_comm]) (by omega) hx hb hZ.tCOSTS hS (by decide) (v := tb_COSTS.getD (9 * sd + (j + 1)) 0) rfl dX7_leastBelow_64 ?_
          refine lv_aload_n hx hb dX7_leastBelow_65 rfl (lv_at hl 0 rfl) ?_
          refine va_get (D := g.1) (ci := 7) (v := .ref t2) (C := RX7) (T := TX7) (N := 3) hx hb hts q_X7_leastBelow_4_f7 hown hE.1 hP 0 rfl rfl 2 (by decide) (hts (.fieldLink RX7 15 "SoundLaws$Tree" "least" "[I") q_X7_leastBelow_4_2) (fun _ h9 => h9) rfl dX7_leastBelow_66 ?_
          refine lv_iload hx hb dX7_leastBelow_69 (lv_at hl 4 rfl) ?_
          refine lv_iload hx hb dX7_leastBelow_71 (lv_at hl 6 rfl) ?_
          refine lv_iadd hx hb dX7_leastBelow_73 ?_
          refine k_ald (36 + (j + 1)) (by rw [show (36 : Int32) = nI 36 from rfl, nI_add]) (by omega) hx hb hE hP 2 rfl (by decide) dX7_leastBelow_74 ?_
          refine lv_iadd hx hb dX7_leastBelow_75 ?_
          refine lv_topi (fun x7 ex7 => ?_)
          refine lv_istore (lv' := [(7, .int x7), (0, .ref h0), (1, .int 4), (2, .int (nI sd)), (3, .int x3), (4, .int 36), (5, .int x5), (6, .int (nI (j + 1)))]) hx hb dX7_leastBelow_76 hl (by decide) rfl (fun ls hl => ?_)
          refine lv_iload hx hb dX7_leastBelow_78 (lv_at hl 0 rfl) ?_
          refine lv_iload hx hb dX7_leastBelow_80 (lv_at hl 6 rfl) ?_
          refine lv_icmp_ge (tgt := 89) hx hb dX7_leastBelow_82 (by decide) (fun c82_4 => ?_) (fun c82_4 => ?_)
          · skip
            refine lv_iinc (v := (nI (j + 1 + 1))) (lv' := [(6, .int (nI (j + 1 + 1))), (7, .int x7), (0, .ref h0), (1, .int 4), (2, .int (nI sd)), (3, .int x3), (4, .int 36), (5, .int x5)]) hx hb dX7_leastBelow_89 hl (k := 7) rfl (nI_1 _) (by decide) rfl (fun ls hl => ?_)
            refine lv_goto (tgt := 50) hx hb dX7_leastBelow_92 (by decide) ?_
            exact ih50 (j + 1) x5 (by omega) (e5.trans (mn_f (f := (fun t => cs sd t + fl (36 + t))) (by rw [← e5]; have h9 := i_nlt c82_4; rw [ex7] at h9; exact h9)).symm) (by omega) _ _ _ hP hD hS (lv_sub hl [2, 3, 4, 5, 6, 7, 0] rfl)
          · skip
            refine lv_iload hx hb dX7_leastBelow_85 (lv_at hl 0 rfl) ?_
            refine lv_istore (lv' := [(5, .int x7), (7, .int x7), (0, .ref h0), (1, .int 4), (2, .int (nI sd)), (3, .int x3), (4, .int 36), (6, .int (nI (j + 1)))]) hx hb dX7_leastBelow_87 hl (by decide) rfl (fun ls hl => ?_)
            refine lv_iinc (v := (nI (j + 1 + 1))) (lv' := [(6, .int (nI (j + 1 + 1))), (5, .int x7), (7, .int x7), (0, .ref h0), (1, .int 4), (2, .int (nI sd)), (3, .int x3), (4, .int 36)]) hx hb dX7_leastBelow_89 hl (k := 7) rfl (nI_1 _) (by decide) rfl (fun ls hl => ?_)
            refine lv_goto (tgt := 50) hx hb dX7_leastBelow_92 (by decide) ?_
            exact ih50 (j + 1) x7 (by omega) (ex7.trans (mn_t (f := (fun t => cs sd t + fl (36 + t))) (by rw [← e5]; have h9 := i_nle c82_4; rw [ex7] at h9; exact h9)).symm) (by omega) _ _ _ hP hD hS (lv_sub hl [3, 4, 5, 6, 7, 1, 0] rfl)
    exact loop50 _ 0 x5i (Nat.zero_le 8) (by rw [ex5i]; rfl) (Nat.lt_succ_self _) _ _ _ hP hD hS (lv_sub hl [4, 5, 6, 3, 2, 1, 0] rfl)
  · exact absurd c10_1 (by decide)
def po_X7_leastBelow_5 (g : GG) (h0 : Nat) (t1 : Nat) (t2 : Nat) (f : Nat → Int32) (fl : Nat → Int32) (sd : Nat) : Int32 → va_W → Prop := fun (r : Int32) w => w = [(h0, .inr (7, [.int 4, .ref t1, .ref t2])), (t1, ai g 7 f), (t2, ai g 63 fl)] ∧ (mn (fun t => cs sd t + fl (45 + t)) 8 = r)
theorem q_X7_leastBelow_5_f7 : ∀ w ∈ u_ws RX7 TX7 3, w ∈ wsX7_leastBelow := by decide +kernel
theorem q_X7_leastBelow_5_1 : (Cond.fieldLink RX7 18 "SoundLaws$Tree" "tongues" "I") ∈ wsX7_leastBelow := by decide +kernel
theorem q_X7_leastBelow_5_2 : (Cond.fieldLink RX7 15 "SoundLaws$Tree" "least" "[I") ∈ wsX7_leastBelow := by decide +kernel
set_option maxHeartbeats 1500000 in
set_option maxRecDepth 100000 in
theorem c_X7_leastBelow_5 (l : Launch) (g : GG) (h0 : Nat) (t1 : Nat) (t2 : Nat) (f : Nat → Int32) (fl : Nat → Int32) (sd : Nat) (hs9 : sd < 9) (sz : Nat) : MetI l yX7_leastBelow wsX7_leastBelow ({ frames := 0, cells := 0, slots := 0, locals := 0 }) g [.ref h0, .int 5, .int (nI sd)] [(h0, .inr (7, [.int 4, .ref t1, .ref t2])), (t1, ai g 7 f), (t2, ai g 63 fl)] sz (po_X7_leastBelow_5 g h0 t1 t2 f fl sd) 0 0 := by
  refine k_of (l := l) (y := yX7_leastBelow) (ws := wsX7_leastBelow) (rm := { frames := 0, cells := 0, slots := 0, locals := 0 }) (mc := 0) (ms := 0) (av := [.ref h0, .int 5, .int (nI sd)]) (g := g) (wc := [(h0, .inr (7, [.int 4, .ref t1, .ref t2])), (t1, ai g 7 f), (t2, ai g 63 fl)]) (Qc := fun A => va_Qi (po_X7_leastBelow_5 g h0 t1 t2 f fl sd) (bk g A) A) (cc := cX7_leastBelow) (maxL := 8) (ret := (some .int)) (by decide) rfl (Nat.le_of_ble_eq_true rfl) ?_ sz
  intro p e s m below meth c hx hb hr hts hown hlocks hnm hml A hA hE hZ hP hD hS ls hl
  have hown : s.vm.findClass RX7 = some m.cls := hown
  have hl : lv_has ls 8 [(0, .ref h0), (1, .int 5), (2, .int (nI sd))] := hl
  refine lv_iload_n hx hb dX7_leastBelow_0 rfl (lv_at hl 2 rfl) ?_
  refine lv_bipush (v := 9) hx hb dX7_leastBelow_1 (by decide) ?_
  refine lv_imul hx hb dX7_leastBelow_3 ?_
  refine lv_topi (fun x3 ex3 => ?_)
  refine lv_istore_n (lv' := [(3, .int x3), (0, .ref h0), (1, .int 5), (2, .int (nI sd))]) hx hb dX7_leastBelow_4 rfl hl (by decide) rfl (fun ls hl => ?_)
  refine lv_iload_n hx hb dX7_leastBelow_5 rfl (lv_at hl 2 rfl) ?_
  refine lv_aload_n hx hb dX7_leastBelow_6 rfl (lv_at hl 1 rfl) ?_
  refine va_get (D := g.1) (ci := 7) (v := .int 4) (C := RX7) (T := TX7) (N := 3) hx hb hts q_X7_leastBelow_5_f7 hown hE.1 hP 0 rfl rfl 0 (by decide) (hts (.fieldLink RX7 18 "SoundLaws$Tree" "tongues" "I") q_X7_leastBelow_5_1) (fun _ h9 => h9) rfl dX7_leastBelow_7 ?_
  refine lv_icmp_ge (tgt := 26) hx hb dX7_leastBelow_10 (by decide) (fun c10_1 => ?_) (fun c10_1 => ?_)
  · skip
    refine lv_iload_n hx hb dX7_leastBelow_26 rfl (lv_at hl 2 rfl) ?_
    refine lv_bipush (v := 9) hx hb dX7_leastBelow_27 (by decide) ?_
    refine lv_imul hx hb dX7_leastBelow_29 ?_
    refine lv_topi (fun x_2 ex_2 => ?_)
    obtain rfl : x_2 = 45 := ex_2.trans (by decide)
    refine lv_istore (lv' := [(4, .int 45), (3, .int x3), (0, .ref h0), (1, .int 5), (2, .int (nI sd))]) hx hb dX7_leastBelow_30 hl (by decide) rfl (fun ls hl => ?_)
    refine va_getsN hx hb hZ.zCOSTS hS hown (va_Nw.use rfl (hE.nw (w := .fieldLinkNest RX7 47 "SoundLaws" "COSTS" "[I" RX8) 16 rfl)) (fun _ h9 => h9) dX7_leastBelow_32 ?_
    refine lv_iload_n hx hb dX7_leastBelow_35 rfl (lv_at hl 1 rfl) ?_
    refine k_tld (9 * sd + 0) (by rw [ex3, show (9 : Int32) = nI 9 from rfl, pk_mul, Nat.mul_comm]; rfl) (by omega) hx hb hZ.tCOSTS hS (by decide) (v := tb_COSTS.getD (9 * sd + 0) 0) rfl dX7_leastBelow_36 ?_
    refine lv_aload_n hx hb dX7_leastBelow_37 rfl (lv_at hl 2 rfl) ?_
    refine va_get (D := g.1) (ci := 7) (v := .ref t2) (C := RX7) (T := TX7) (N := 3) hx hb hts q_X7_leastBelow_5_f7 hown hE.1 hP 0 rfl rfl 2 (by decide) (hts (.fieldLink RX7 15 "SoundLaws$Tree" "least" "[I") q_X7_leastBelow_5_2) (fun _ h9 => h9) rfl dX7_leastBelow_38 ?_
    refine lv_iload hx hb dX7_leastBelow_41 (lv_at hl 0 rfl) ?_
    refine k_ald 45 (by decide) (by decide) hx hb hE hP 2 rfl (by decide) dX7_leastBelow_43 ?_
    refine lv_iadd hx hb dX7_leastBelow_44 ?_
    refine lv_topi (fun x5i ex5i => ?_)
    refine lv_istore (lv' := [(5, .int x5i), (4, .int 45), (3, .int x3), (0, .ref h0), (1, .int 5), (2, .int (nI sd))]) hx hb dX7_leastBelow_45 hl (by decide) rfl (fun ls hl => ?_)
    refine lv_iconst (v := 1) hx hb dX7_leastBelow_47 (by decide) ?_
    refine lv_istore (lv' := [(6, .int 1), (5, .int x5i), (4, .int 45), (3, .int x3), (0, .ref h0), (1, .int 5), (2, .int (nI sd))]) hx hb dX7_leastBelow_48 hl (by decide) rfl (fun ls hl => ?_)
    have loop50 : ∀ (fu : Nat) (j : Nat) (x5 : Int32), (hj : j ≤ 8) → (e5 : x5 = mn (fun t => cs sd t + fl (45 + t)) j) → 9 - j < fu → ∀ (H : Heap) (locs : List Loc) (ls : Array Slot), va_P g.1 vwCl [(h0, .inr (7, [.int 4, .ref t1, .ref t2])), (t1, ai g 7 f), (t2, ai g 63 fl)] H → va_D A [(h0, .inr (7, [.int 4, .ref t1, .ref t2])), (t1, ai g 7 f), (t2, ai g 63 fl)] → va_S A s.heap H locs → lv_has ls 8 [(0, .ref h0), (1, .int 5), (2, .int (nI sd)), (3, .int x3), (4, .int 45), (5, .int x5), (6, .int (nI (j + 1)))] → W p l e ({ frames := 0, cells := 0, slots := 0, locals := 0 }) s m [.ref h0, .int 5, .int (nI sd)].toArray below meth c H locs 0 0 (MQ below (va_Qi (po_X7_leastBelow_5 g h0 t1 t2 f fl sd) (bk g A) A) [.ref h0, .int 5, .int (nI sd)].toArray s 0 0 A) (F0 m 50 ls []) := by
      intro fu
      induction fu with
      | zero => intro j x5 hj e5 hfu; exact absurd hfu (Nat.not_lt_zero _)
      | succ fu ih =>
        intro j x5 hj e5 hfu H locs ls hP hD hS hl
        have ih50 := ih
        refine lv_iload hx hb dX7_leastBelow_50 (lv_at hl 6 rfl) ?_
        refine lv_bipush (v := 9) hx hb dX7_leastBelow_52 (by decide) ?_
        refine lv_icmp_ge (tgt := 95) hx hb dX7_leastBelow_54 (by decide) (fun c54_3 => ?_) (fun c54_3 => ?_)
        · skip
          have hj9 := ge_of_le (k := 9) (n := j + 1) (by decide) (by omega) c54_3
          refine lv_iload hx hb dX7_leastBelow_95 (lv_at hl 5 rfl) ?_
          refine W.widen (k := 0) (n := 0) (Nat.le_of_ble_eq_true rfl) (Nat.le_of_ble_eq_true rfl) ?_
          exact k_ri hx hb hr hlocks hS hP hD ⟨rfl, (by rw [e5, show j = 8 by omega])⟩ dX7_leastBelow_97
        · skip
          have hj8 := lt_of_nle (k := 9) (n := j + 1) (by decide) (by omega) c54_3
          refine va_getsN hx hb hZ.zCOSTS hS hown (va_Nw.use rfl (hE.nw (w := .fieldLinkNest RX7 47 "SoundLaws" "COSTS" "[I" RX8) 16 rfl)) (fun _ h9 => h9) dX7_leastBelow_57 ?_
          refine lv_iload_n hx hb dX7_leastBelow_60 rfl (lv_at hl 3 rfl) ?_
          refine lv_iload hx hb dX7_leastBelow_61 (lv_at hl 6 rfl) ?_
          refine lv_iadd hx hb dX7_leastBelow_63 ?_
          refine k_tld (9 * sd + (j + 1)) (by rw [ex3, show (9 : Int32) = nI 9 from rfl, pk_mul, nI_add, Nat.mul_comm]) (by omega) hx hb hZ.tCOSTS hS (by decide) (v := tb_COSTS.getD (9 * sd + (j + 1)) 0) rfl dX7_leastBelow_64 ?_
          refine lv_aload_n hx hb dX7_leastBelow_65 rfl (lv_at hl 0 rfl) ?_
          refine va_get (D := g.1) (ci := 7) (v := .ref t2) (C := RX7) (T := TX7) (N := 3) hx hb hts q_X7_leastBelow_5_f7 hown hE.1 hP 0 rfl rfl 2 (by decide) (hts (.fieldLink RX7 15 "SoundLaws$Tree" "least" "[I") q_X7_leastBelow_5_2) (fun _ h9 => h9) rfl dX7_leastBelow_66 ?_
          refine lv_iload hx hb dX7_leastBelow_69 (lv_at hl 4 rfl) ?_
          refine lv_iload hx hb dX7_leastBelow_71 (lv_at hl 6 rfl) ?_
          refine lv_iadd hx hb dX7_leastBelow_73 ?_
          refine k_ald (45 + (j + 1)) (by rw [show (45 : Int32) = nI 45 from rfl, nI_add]) (by omega) hx hb hE hP 2 rfl (by decide) dX7_leastBelow_74 ?_
          refine lv_iadd hx hb dX7_leastBelow_75 ?_
          refine lv_topi (fun x7 ex7 => ?_)
          refine lv_istore (lv' := [(7, .int x7), (0, .ref h0), (1, .int 5), (2, .int (nI sd)), (3, .int x3), (4, .int 45), (5, .int x5), (6, .int (nI (j + 1)))]) hx hb dX7_leastBelow_76 hl (by decide) rfl (fun ls hl => ?_)
          refine lv_iload hx hb dX7_leastBelow_78 (lv_at hl 0 rfl) ?_
          refine lv_iload hx hb dX7_leastBelow_80 (lv_at hl 6 rfl) ?_
          refine lv_icmp_ge (tgt := 89) hx hb dX7_leastBelow_82 (by decide) (fun c82_4 => ?_) (fun c82_4 => ?_)
          · skip
            refine lv_iinc (v := (nI (j + 1 + 1))) (lv' := [(6, .int (nI (j + 1 + 1))), (7, .int x7), (0, .ref h0), (1, .int 5), (2, .int (nI sd)), (3, .int x3), (4, .int 45), (5, .int x5)]) hx hb dX7_leastBelow_89 hl (k := 7) rfl (nI_1 _) (by decide) rfl (fun ls hl => ?_)
            refine lv_goto (tgt := 50) hx hb dX7_leastBelow_92 (by decide) ?_
            exact ih50 (j + 1) x5 (by omega) (e5.trans (mn_f (f := (fun t => cs sd t + fl (45 + t))) (by rw [← e5]; have h9 := i_nlt c82_4; rw [ex7] at h9; exact h9)).symm) (by omega) _ _ _ hP hD hS (lv_sub hl [2, 3, 4, 5, 6, 7, 0] rfl)
          · skip
            refine lv_iload hx hb dX7_leastBelow_85 (lv_at hl 0 rfl) ?_
            refine lv_istore (lv' := [(5, .int x7), (7, .int x7), (0, .ref h0), (1, .int 5), (2, .int (nI sd)), (3, .int x3), (4, .int 45), (6, .int (nI (j + 1)))]) hx hb dX7_leastBelow_87 hl (by decide) rfl (fun ls hl => ?_)
            refine lv_iinc (v := (nI (j + 1 + 1))) (lv' := [(6, .int (nI (j + 1 + 1))), (5, .int x7), (7, .int x7), (0, .ref h0), (1, .int 5), (2, .int (nI sd)), (3, .int x3), (4, .int 45)]) hx hb dX7_leastBelow_89 hl (k := 7) rfl (nI_1 _) (by decide) rfl (fun ls hl => ?_)
            refine lv_goto (tgt := 50) hx hb dX7_leastBelow_92 (by decide) ?_
            exact ih50 (j + 1) x7 (by omega) (ex7.trans (mn_t (f := (fun t => cs sd t + fl (45 + t))) (by rw [← e5]; have h9 := i_nle c82_4; rw [ex7] at h9; exact h9)).symm) (by omega) _ _ _ hP hD hS (lv_sub hl [3, 4, 5, 6, 7, 1, 0] rfl)
    exact loop50 _ 0 x5i (Nat.zero_le 8) (by rw [ex5i]; rfl) (Nat.lt_succ_self _) _ _ _ hP hD hS (lv_sub hl [4, 5, 6, 3, 2, 1, 0] rfl)
  · exact absurd c10_1 (by decide)
def po_X7_climb (g : GG) (h0 : Nat) (t1 : Nat) (t2 : Nat) (f : Nat → Int32) (fl : Nat → Int32) (a0 : Nat) (a1 : Nat) (a2 : Nat) (a3 : Nat) : Int32 → va_W → Prop := fun (r : Int32) w => ∃ (gl : Nat → Int32), w = [(h0, .inr (7, [.int 4, .ref t1, .ref t2])), (t1, ai g 7 (upd f 6 (nI (rt a0 a1 a2 a3)))), (t2, ai g 63 gl)] ∧ (ch a0 a1 a2 a3 = r)
theorem q_X7_climb_f7 : ∀ w ∈ u_ws RX7 TX7 3, w ∈ wsX7_climb := by decide +kernel
theorem q_X7_climb_1 : (Cond.fieldLink RX7 18 "SoundLaws$Tree" "tongues" "I") ∈ wsX7_climb := by decide +kernel
theorem q_X7_climb_2 : (Cond.initialized RX8) ∈ wsX7_climb := by decide +kernel
theorem q_X7_climb_3 : (Cond.static yX8_nodesOf) ∈ wsX7_climb := by decide +kernel
theorem q_X7_climb_4 : (Cond.fieldLink RX7 9 "SoundLaws$Tree" "sounds" "[I") ∈ wsX7_climb := by decide +kernel
theorem q_X7_climb_5 : (Cond.fieldLink RX7 15 "SoundLaws$Tree" "least" "[I") ∈ wsX7_climb := by decide +kernel
set_option maxHeartbeats 1500000 in
set_option maxRecDepth 100000 in
theorem c_X7_climb (l : Launch) (g : GG) (h0 : Nat) (t1 : Nat) (t2 : Nat) (f : Nat → Int32) (fl : Nat → Int32) (a0 : Nat) (a1 : Nat) (a2 : Nat) (a3 : Nat) (ha0 : f 0 = nI a0) (ha1 : f 1 = nI a1) (ha2 : f 2 = nI a2) (ha3 : f 3 = nI a3) (h90 : a0 < 9) (h91 : a1 < 9) (h92 : a2 < 9) (h93 : a3 < 9) (sz : Nat) : MetI l yX7_climb wsX7_climb ({ frames := 1, cells := 0, slots := 0, locals := 27 }) g [.ref h0] [(h0, .inr (7, [.int 4, .ref t1, .ref t2])), (t1, ai g 7 f), (t2, ai g 63 fl)] sz (po_X7_climb g h0 t1 t2 f fl a0 a1 a2 a3) 0 0 := by
  refine k_of (l := l) (y := yX7_climb) (ws := wsX7_climb) (rm := { frames := 1, cells := 0, slots := 0, locals := 27 }) (mc := 0) (ms := 0) (av := [.ref h0]) (g := g) (wc := [(h0, .inr (7, [.int 4, .ref t1, .ref t2])), (t1, ai g 7 f), (t2, ai g 63 fl)]) (Qc := fun A => va_Qi (po_X7_climb g h0 t1 t2 f fl a0 a1 a2 a3) (bk g A) A) (cc := cX7_climb) (maxL := 5) (ret := (some .int)) (by decide) rfl (Nat.le_of_ble_eq_true rfl) ?_ sz
  intro p e s m below meth c hx hb hr hts hown hlocks hnm hml A hA hE hZ hP hD hS ls hl
  have hown : s.vm.findClass RX7 = some m.cls := hown
  have hl : lv_has ls 5 [(0, .ref h0)] := hl
  refine lv_aload_n hx hb dX7_climb_0 rfl (lv_at hl 0 rfl) ?_
  refine va_get (D := g.1) (ci := 7) (v := .int 4) (C := RX7) (T := TX7) (N := 3) hx hb hts q_X7_climb_f7 hown hE.1 hP 0 rfl rfl 0 (by decide) (hts (.fieldLink RX7 18 "SoundLaws$Tree" "tongues" "I") q_X7_climb_1) (fun _ h9 => h9) rfl dX7_climb_1 ?_
  refine k_ci (wr := [(h0, .inr (7, [.int 4, .ref t1, .ref t2])), (t1, ai g 7 f), (t2, ai g 63 fl)]) hP hD hS hA [] [0, 1, 2] rfl rfl (by decide) (by decide) (va_runSN (As := [.int 4]) (rest := []) ⟨hx, hb, hml, hown, hts⟩ (c_X8_nodesOf_4 l g   s.heap.size) ⟨va_cnB 1 hts gX7_climb_X8_nodesOf_n22 rfl rfl rfl (hE.nw 13 rfl) (hts (.initialized RX8) q_X7_climb_2) (by decide +kernel) ⟨Nat.le_of_ble_eq_true rfl, Nat.le_of_ble_eq_true rfl⟩, (hts (.static yX8_nodesOf) q_X7_climb_3), trivial⟩ (k_preS hE hZ hP hD hS hA [] rfl (by decide)) rfl rfl hl.1 rfl (lv_room (Nat.le_of_ble_eq_true rfl)) dX7_climb_4 ⟨Nat.le_of_ble_eq_true rfl, Nat.le_of_ble_eq_true rfl⟩) (fun r_1 w1 H locs hw hP hD hS => ?_)
  obtain ⟨rfl, rfl⟩ := hw
  have hP : va_P g.1 vwCl [(h0, .inr (7, [.int 4, .ref t1, .ref t2])), (t1, ai g 7 f), (t2, ai g 63 fl)] H := hP
  have hD : va_D A [(h0, .inr (7, [.int 4, .ref t1, .ref t2])), (t1, ai g 7 f), (t2, ai g 63 fl)] := hD
  refine lv_istore_n (lv' := [(1, .int 7), (0, .ref h0)]) hx hb dX7_climb_7 rfl hl (by decide) rfl (fun ls hl => ?_)
  refine lv_aload_n hx hb dX7_climb_8 rfl (lv_at hl 1 rfl) ?_
  refine va_get (D := g.1) (ci := 7) (v := .int 4) (C := RX7) (T := TX7) (N := 3) hx hb hts q_X7_climb_f7 hown hE.1 hP 0 rfl rfl 0 (by decide) (hts (.fieldLink RX7 18 "SoundLaws$Tree" "tongues" "I") q_X7_climb_1) (fun _ h9 => h9) rfl dX7_climb_9 ?_
  refine lv_istore_n (lv' := [(2, .int 4), (1, .int 7), (0, .ref h0)]) hx hb dX7_climb_12 rfl hl (by decide) rfl (fun ls hl => ?_)
  refine lv_iload_n hx hb dX7_climb_13 rfl (lv_at hl 0 rfl) ?_
  refine lv_iload_n hx hb dX7_climb_14 rfl (lv_at hl 1 rfl) ?_
  refine lv_icmp_ge (tgt := 83) hx hb dX7_climb_15 (by decide) (fun c15_3 => ?_) (fun c15_3 => ?_)
  · exact absurd c15_3 (by decide)
  · skip
    refine lv_aload_n hx hb dX7_climb_18 rfl (lv_at hl 2 rfl) ?_
    refine lv_iload_n hx hb dX7_climb_19 rfl (lv_at hl 0 rfl) ?_
    refine k_ci (wr := [(t1, ai g 7 f), (t2, ai g 63 fl)]) hP hD hS hA [0] [1, 2] rfl rfl (by decide) (by decide) (va_runV (As := [.int 4]) (rest := []) ⟨hx, hb, hml, hown, hts⟩ (c_X7_pairOf_4 l g h0 t1 t2  H.size) (cwV 1 hts gX7_climb_X7_pairOf rfl rfl rfl (by decide +kernel) ⟨Nat.le_of_ble_eq_true rfl, Nat.le_of_ble_eq_true rfl⟩) (k_preV hE hZ hP hD hS hA [0] rfl (by decide) (va_recv hE.1 hP (ci := 7) (q0 := 0) rfl rfl)) rfl rfl hl.1 rfl (lv_room (Nat.le_of_ble_eq_true rfl)) dX7_climb_20 ⟨Nat.le_of_ble_eq_true rfl, Nat.le_of_ble_eq_true rfl⟩) (fun r_4 w1 H locs hw hP hD hS => ?_)
    obtain ⟨rfl, rfl⟩ := hw
    have hP : va_P g.1 vwCl [(t1, ai g 7 f), (t2, ai g 63 fl), (h0, .inr (7, [.int 4, .ref t1, .ref t2]))] H := hP
    have hD : va_D A [(t1, ai g 7 f), (t2, ai g 63 fl), (h0, .inr (7, [.int 4, .ref t1, .ref t2]))] := hD
    refine lv_istore_n (lv' := [(3, .int 6), (2, .int 4), (1, .int 7), (0, .ref h0)]) hx hb dX7_climb_23 rfl hl (by decide) rfl (fun ls hl => ?_)
    refine lv_iconst (v := 0) hx hb dX7_climb_24 (by decide) ?_
    refine lv_istore (lv' := [(4, .int 0), (3, .int 6), (2, .int 4), (1, .int 7), (0, .ref h0)]) hx hb dX7_climb_25 hl (by decide) rfl (fun ls hl => ?_)
    have loop27 : ∀ (fu : Nat) (sd : Nat) (v4 : Nat → Int32), (hs : sd ≤ 9) → (hv4 : ∀ k, 36 ≤ k → k < 36 + sd → v4 k = Sp a0 a1 a2 a3 k) → 9 - sd < fu → ∀ (H : Heap) (locs : List Loc) (ls : Array Slot), va_P g.1 vwCl [(t1, ai g 7 f), (t2, ai g 63 v4), (h0, .inr (7, [.int 4, .ref t1, .ref t2]))] H → va_D A [(t1, ai g 7 f), (t2, ai g 63 v4), (h0, .inr (7, [.int 4, .ref t1, .ref t2]))] → va_S A s.heap H locs → lv_has ls 5 [(0, .ref h0), (1, .int 7), (2, .int 4), (3, .int 6), (4, .int (nI sd))] → W p l e ({ frames := 1, cells := 0, slots := 0, locals := 27 }) s m [.ref h0].toArray below meth c H locs 0 0 (MQ below (va_Qi (po_X7_climb g h0 t1 t2 f fl a0 a1 a2 a3) (bk g A) A) [.ref h0].toArray s 0 0 A) (F0 m 27 ls []) := by
      intro fu
      induction fu with
      | zero => intro sd v4 hs hv4 hfu; exact absurd hfu (Nat.not_lt_zero _)
      | succ fu ih =>
        intro sd v4 hs hv4 hfu H locs ls hP hD hS hl
        have ih27 := ih
        refine lv_iload hx hb dX7_climb_27 (lv_at hl 4 rfl) ?_
        refine lv_bipush (v := 9) hx hb dX7_climb_29 (by decide) ?_
        refine lv_icmp_ge (tgt := 77) hx hb dX7_climb_31 (by decide) (fun c31_6 => ?_) (fun c31_6 => ?_)
        · skip
          have hs10 := ge_of_le (k := 9) (n := sd) (by decide) (by omega) c31_6
          refine lv_iinc (v := 5) (lv' := [(2, .int 5), (0, .ref h0), (1, .int 7), (3, .int 6), (4, .int (nI sd))]) hx hb dX7_climb_77 hl (k := 2) rfl (by decide) (by decide) rfl (fun ls hl => ?_)
          refine lv_goto (tgt := 13) hx hb dX7_climb_80 (by decide) ?_
          refine lv_iload_n hx hb dX7_climb_13 rfl (lv_at hl 0 rfl) ?_
          refine lv_iload_n hx hb dX7_climb_14 rfl (lv_at hl 2 rfl) ?_
          refine lv_icmp_ge (tgt := 83) hx hb dX7_climb_15 (by decide) (fun c15_7 => ?_) (fun c15_7 => ?_)
          · exact absurd c15_7 (by decide)
          · skip
            refine lv_aload_n hx hb dX7_climb_18 rfl (lv_at hl 1 rfl) ?_
            refine lv_iload_n hx hb dX7_climb_19 rfl (lv_at hl 0 rfl) ?_
            refine k_ci (wr := [(t1, ai g 7 f), (t2, ai g 63 v4)]) hP hD hS hA [2] [0, 1] rfl rfl (by decide) (by decide) (va_runV (As := [.int 5]) (rest := []) ⟨hx, hb, hml, hown, hts⟩ (c_X7_pairOf_5 l g h0 t1 t2  H.size) (cwV 1 hts gX7_climb_X7_pairOf rfl rfl rfl (by decide +kernel) ⟨Nat.le_of_ble_eq_true rfl, Nat.le_of_ble_eq_true rfl⟩) (k_preV hE hZ hP hD hS hA [2] rfl (by decide) (va_recv hE.1 hP (ci := 7) (q0 := 2) rfl rfl)) rfl rfl hl.1 rfl (lv_room (Nat.le_of_ble_eq_true rfl)) dX7_climb_20 ⟨Nat.le_of_ble_eq_true rfl, Nat.le_of_ble_eq_true rfl⟩) (fun r_8 w1 H locs hw hP hD hS => ?_)
            obtain ⟨rfl, rfl⟩ := hw
            have hP : va_P g.1 vwCl [(t1, ai g 7 f), (t2, ai g 63 v4), (h0, .inr (7, [.int 4, .ref t1, .ref t2]))] H := hP
            have hD : va_D A [(t1, ai g 7 f), (t2, ai g 63 v4), (h0, .inr (7, [.int 4, .ref t1, .ref t2]))] := hD
            refine lv_istore_n (lv' := [(3, .int 8), (2, .int 5), (0, .ref h0), (1, .int 7), (4, .int (nI sd))]) hx hb dX7_climb_23 rfl hl (by decide) rfl (fun ls hl => ?_)
            refine lv_iconst (v := 0) hx hb dX7_climb_24 (by decide) ?_
            refine lv_istore (lv' := [(4, .int 0), (3, .int 8), (2, .int 5), (0, .ref h0), (1, .int 7)]) hx hb dX7_climb_25 hl (by decide) rfl (fun ls hl => ?_)
            have loop27 : ∀ (fu : Nat) (sd : Nat) (v5 : Nat → Int32), (hs : sd ≤ 9) → (hv5 : ∀ k, 36 ≤ k → k < 45 + sd → v5 k = Sp a0 a1 a2 a3 k) → 9 - sd < fu → ∀ (H : Heap) (locs : List Loc) (ls : Array Slot), va_P g.1 vwCl [(t1, ai g 7 f), (t2, ai g 63 v5), (h0, .inr (7, [.int 4, .ref t1, .ref t2]))] H → va_D A [(t1, ai g 7 f), (t2, ai g 63 v5), (h0, .inr (7, [.int 4, .ref t1, .ref t2]))] → va_S A s.heap H locs → lv_has ls 5 [(0, .ref h0), (1, .int 7), (2, .int 5), (3, .int 8), (4, .int (nI sd))] → W p l e ({ frames := 1, cells := 0, slots := 0, locals := 27 }) s m [.ref h0].toArray below meth c H locs 0 0 (MQ below (va_Qi (po_X7_climb g h0 t1 t2 f fl a0 a1 a2 a3) (bk g A) A) [.ref h0].toArray s 0 0 A) (F0 m 27 ls []) := by
              intro fu
              induction fu with
              | zero => intro sd v5 hs hv5 hfu; exact absurd hfu (Nat.not_lt_zero _)
              | succ fu ih =>
                intro sd v5 hs hv5 hfu H locs ls hP hD hS hl
                have ih27 := ih
                refine lv_iload hx hb dX7_climb_27 (lv_at hl 4 rfl) ?_
                refine lv_bipush (v := 9) hx hb dX7_climb_29 (by decide) ?_
                refine lv_icmp_ge (tgt := 77) hx hb dX7_climb_31 (by decide) (fun c31_10 => ?_) (fun c31_10 => ?_)
                · skip
                  have hs10 := ge_of_le (k := 9) (n := sd) (by decide) (by omega) c31_10
                  refine lv_iinc (v := 6) (lv' := [(2, .int 6), (0, .ref h0), (1, .int 7), (3, .int 8), (4, .int (nI sd))]) hx hb dX7_climb_77 hl (k := 2) rfl (by decide) (by decide) rfl (fun ls hl => ?_)
                  refine lv_goto (tgt := 13) hx hb dX7_climb_80 (by decide) ?_
                  refine lv_iload_n hx hb dX7_climb_13 rfl (lv_at hl 0 rfl) ?_
                  refine lv_iload_n hx hb dX7_climb_14 rfl (lv_at hl 2 rfl) ?_
                  refine lv_icmp_ge (tgt := 83) hx hb dX7_climb_15 (by decide) (fun c15_11 => ?_) (fun c15_11 => ?_)
                  · exact absurd c15_11 (by decide)
                  · skip
                    refine lv_aload_n hx hb dX7_climb_18 rfl (lv_at hl 1 rfl) ?_
                    refine lv_iload_n hx hb dX7_climb_19 rfl (lv_at hl 0 rfl) ?_
                    refine k_ci (wr := [(t1, ai g 7 f), (t2, ai g 63 v5)]) hP hD hS hA [2] [0, 1] rfl rfl (by decide) (by decide) (va_runV (As := [.int 6]) (rest := []) ⟨hx, hb, hml, hown, hts⟩ (c_X7_pairOf_6 l g h0 t1 t2  H.size) (cwV 1 hts gX7_climb_X7_pairOf rfl rfl rfl (by decide +kernel) ⟨Nat.le_of_ble_eq_true rfl, Nat.le_of_ble_eq_true rfl⟩) (k_preV hE hZ hP hD hS hA [2] rfl (by decide) (va_recv hE.1 hP (ci := 7) (q0 := 2) rfl rfl)) rfl rfl hl.1 rfl (lv_room (Nat.le_of_ble_eq_true rfl)) dX7_climb_20 ⟨Nat.le_of_ble_eq_true rfl, Nat.le_of_ble_eq_true rfl⟩) (fun r_12 w1 H locs hw hP hD hS => ?_)
                    obtain ⟨rfl, rfl⟩ := hw
                    have hP : va_P g.1 vwCl [(t1, ai g 7 f), (t2, ai g 63 v5), (h0, .inr (7, [.int 4, .ref t1, .ref t2]))] H := hP
                    have hD : va_D A [(t1, ai g 7 f), (t2, ai g 63 v5), (h0, .inr (7, [.int 4, .ref t1, .ref t2]))] := hD
                    refine lv_istore_n (lv' := [(3, .int 10), (2, .int 6), (0, .ref h0), (1, .int 7), (4, .int (nI sd))]) hx hb dX7_climb_23 rfl hl (by decide) rfl (fun ls hl => ?_)
                    refine lv_iconst (v := 0) hx hb dX7_climb_24 (by decide) ?_
                    refine lv_istore (lv' := [(4, .int 0), (3, .int 10), (2, .int 6), (0, .ref h0), (1, .int 7)]) hx hb dX7_climb_25 hl (by decide) rfl (fun ls hl => ?_)
                    have loop27 : ∀ (fu : Nat) (sd : Nat) (v6 : Nat → Int32), (hs : sd ≤ 9) → (hv6 : ∀ k, 36 ≤ k → k < 54 + sd → v6 k = Sp a0 a1 a2 a3 k) → 9 - sd < fu → ∀ (H : Heap) (locs : List Loc) (ls : Array Slot), va_P g.1 vwCl [(t1, ai g 7 f), (t2, ai g 63 v6), (h0, .inr (7, [.int 4, .ref t1, .ref t2]))] H → va_D A [(t1, ai g 7 f), (t2, ai g 63 v6), (h0, .inr (7, [.int 4, .ref t1, .ref t2]))] → va_S A s.heap H locs → lv_has ls 5 [(0, .ref h0), (1, .int 7), (2, .int 6), (3, .int 10), (4, .int (nI sd))] → W p l e ({ frames := 1, cells := 0, slots := 0, locals := 27 }) s m [.ref h0].toArray below meth c H locs 0 0 (MQ below (va_Qi (po_X7_climb g h0 t1 t2 f fl a0 a1 a2 a3) (bk g A) A) [.ref h0].toArray s 0 0 A) (F0 m 27 ls []) := by
                      intro fu
                      induction fu with
                      | zero => intro sd v6 hs hv6 hfu; exact absurd hfu (Nat.not_lt_zero _)
                      | succ fu ih =>
                        intro sd v6 hs hv6 hfu H locs ls hP hD hS hl
                        have ih27 := ih
                        refine lv_iload hx hb dX7_climb_27 (lv_at hl 4 rfl) ?_
                        refine lv_bipush (v := 9) hx hb dX7_climb_29 (by decide) ?_
                        refine lv_icmp_ge (tgt := 77) hx hb dX7_climb_31 (by decide) (fun c31_14 => ?_) (fun c31_14 => ?_)
                        · skip
                          have hs10 := ge_of_le (k := 9) (n := sd) (by decide) (by omega) c31_14
                          refine lv_iinc (v := 7) (lv' := [(2, .int 7), (0, .ref h0), (1, .int 7), (3, .int 10), (4, .int (nI sd))]) hx hb dX7_climb_77 hl (k := 2) rfl (by decide) (by decide) rfl (fun ls hl => ?_)
                          refine lv_goto (tgt := 13) hx hb dX7_climb_80 (by decide) ?_
                          refine lv_iload_n hx hb dX7_climb_13 rfl (lv_at hl 0 rfl) ?_
                          refine lv_iload_n hx hb dX7_climb_14 rfl (lv_at hl 2 rfl) ?_
                          refine lv_icmp_ge (tgt := 83) hx hb dX7_climb_15 (by decide) (fun c15_15 => ?_) (fun c15_15 => ?_)
                          · skip
                            refine lv_iload_n hx hb dX7_climb_83 rfl (lv_at hl 2 rfl) ?_
                            refine lv_iconst (v := 1) hx hb dX7_climb_84 (by decide) ?_
                            refine lv_isub hx hb dX7_climb_85 ?_
                            refine lv_topi (fun x_16 ex_16 => ?_)
                            obtain rfl : x_16 = 6 := ex_16.trans (by decide)
                            refine lv_istore_n (lv' := [(2, .int 6), (0, .ref h0), (1, .int 7), (3, .int 10), (4, .int (nI sd))]) hx hb dX7_climb_86 rfl hl (by decide) rfl (fun ls hl => ?_)
                            refine lv_iconst (v := 0) hx hb dX7_climb_87 (by decide) ?_
                            refine lv_istore_n (lv' := [(3, .int 0), (2, .int 6), (0, .ref h0), (1, .int 7), (4, .int (nI sd))]) hx hb dX7_climb_88 rfl hl (by decide) rfl (fun ls hl => ?_)
                            refine lv_iconst (v := 1) hx hb dX7_climb_89 (by decide) ?_
                            refine lv_istore (lv' := [(4, .int 1), (3, .int 0), (2, .int 6), (0, .ref h0), (1, .int 7)]) hx hb dX7_climb_90 hl (by decide) rfl (fun ls hl => ?_)
                            have loop92 : ∀ (fu : Nat) (j : Nat), (hj : j ≤ 8) → 9 - j < fu → ∀ (H : Heap) (locs : List Loc) (ls : Array Slot), va_P g.1 vwCl [(t1, ai g 7 f), (t2, ai g 63 v6), (h0, .inr (7, [.int 4, .ref t1, .ref t2]))] H → va_D A [(t1, ai g 7 f), (t2, ai g 63 v6), (h0, .inr (7, [.int 4, .ref t1, .ref t2]))] → va_S A s.heap H locs → lv_has ls 5 [(0, .ref h0), (1, .int 7), (2, .int 6), (3, .int (nI (am (n6 a0 a1 a2 a3) j))), (4, .int (nI (j + 1)))] → W p l e ({ frames := 1, cells := 0, slots := 0, locals := 27 }) s m [.ref h0].toArray below meth c H locs 0 0 (MQ below (va_Qi (po_X7_climb g h0 t1 t2 f fl a0 a1 a2 a3) (bk g A) A) [.ref h0].toArray s 0 0 A) (F0 m 92 ls []) := by
                              intro fu
                              induction fu with
                              | zero => intro j hj hfu; exact absurd hfu (Nat.not_lt_zero _)
                              | succ fu ih =>
                                intro j hj hfu H locs ls hP hD hS hl
                                have ih92 := ih
                                refine lv_iload hx hb dX7_climb_92 (lv_at hl 4 rfl) ?_
                                refine lv_bipush (v := 9) hx hb dX7_climb_94 (by decide) ?_
                                refine lv_icmp_ge (tgt := 134) hx hb dX7_climb_96 (by decide) (fun c96_17 => ?_) (fun c96_17 => ?_)
                                · skip
                                  have hj9 := ge_of_le (k := 9) (n := j + 1) (by decide) (by omega) c96_17
                                  obtain rfl : j = 8 := by omega
                                  have hl : lv_has ls 5 [(0, .ref h0), (1, .int 7), (2, .int 6), (3, .int (nI (rt a0 a1 a2 a3))), (4, .int (nI (8 + 1)))] := hl
                                  have h8 : rt a0 a1 a2 a3 ≤ 8 := am_le _ 8
                                  refine lv_aload_n hx hb dX7_climb_134 rfl (lv_at hl 0 rfl) ?_
                                  refine va_get (D := g.1) (ci := 7) (v := .ref t1) (C := RX7) (T := TX7) (N := 3) hx hb hts q_X7_climb_f7 hown hE.1 hP 2 rfl rfl 1 (by decide) (hts (.fieldLink RX7 9 "SoundLaws$Tree" "sounds" "[I") q_X7_climb_4) (fun _ h9 => h9) rfl dX7_climb_135 ?_
                                  refine lv_iload_n hx hb dX7_climb_138 rfl (lv_at hl 2 rfl) ?_
                                  refine lv_iload_n hx hb dX7_climb_139 rfl (lv_at hl 3 rfl) ?_
                                  refine k_ast (x := (nI (rt a0 a1 a2 a3))) 6 (by decide) (by decide) hx hb hE hP hD hS 0 rfl (by decide) dX7_climb_140 (fun H locs hP hD hS => ?_)
                                  have hP : va_P g.1 vwCl [(t1, ai g 7 (upd f 6 (nI (rt a0 a1 a2 a3)))), (t2, ai g 63 v6), (h0, .inr (7, [.int 4, .ref t1, .ref t2]))] H := hP
                                  have hD : va_D A [(t1, ai g 7 (upd f 6 (nI (rt a0 a1 a2 a3)))), (t2, ai g 63 v6), (h0, .inr (7, [.int 4, .ref t1, .ref t2]))] := hD
                                  refine lv_aload_n hx hb dX7_climb_141 rfl (lv_at hl 0 rfl) ?_
                                  refine va_get (D := g.1) (ci := 7) (v := .ref t2) (C := RX7) (T := TX7) (N := 3) hx hb hts q_X7_climb_f7 hown hE.1 hP 2 rfl rfl 2 (by decide) (hts (.fieldLink RX7 15 "SoundLaws$Tree" "least" "[I") q_X7_climb_5) (fun _ h9 => h9) rfl dX7_climb_142 ?_
                                  refine lv_iload_n hx hb dX7_climb_145 rfl (lv_at hl 2 rfl) ?_
                                  refine lv_bipush (v := 9) hx hb dX7_climb_146 (by decide) ?_
                                  refine lv_imul hx hb dX7_climb_148 ?_
                                  refine lv_topi (fun x_18 ex_18 => ?_)
                                  obtain rfl : x_18 = 54 := ex_18.trans (by decide)
                                  refine lv_iload_n hx hb dX7_climb_149 rfl (lv_at hl 3 rfl) ?_
                                  refine lv_iadd hx hb dX7_climb_150 ?_
                                  refine k_ald (54 + rt a0 a1 a2 a3) (by rw [show (54 : Int32) = nI 54 from rfl, nI_add]) (by omega) hx hb hE hP 1 rfl (by decide) dX7_climb_151 ?_
                                  refine W.widen (k := 0) (n := 0) (Nat.le_of_ble_eq_true rfl) (Nat.le_of_ble_eq_true rfl) ?_
                                  have hP9 := hP.sub (ws' := [(h0, .inr (7, [.int 4, .ref t1, .ref t2])), (t1, ai g 7 (upd f 6 (nI (rt a0 a1 a2 a3)))), (t2, ai g 63 v6)]) [2, 0, 1] rfl
                                  have hD9 := hD.sub (ws' := [(h0, .inr (7, [.int 4, .ref t1, .ref t2])), (t1, ai g 7 (upd f 6 (nI (rt a0 a1 a2 a3)))), (t2, ai g 63 v6)]) [2, 0, 1] (by decide) rfl
                                  exact k_ri hx hb hr hlocks hS hP9 hD9 ⟨v6, rfl, (by rw [hv6 (54 + rt a0 a1 a2 a3) (by omega) (by omega), Sp6]; rfl)⟩ dX7_climb_152
                                · skip
                                  have hj8 := lt_of_nle (k := 9) (n := j + 1) (by decide) (by omega) c96_17
                                  refine lv_aload_n hx hb dX7_climb_99 rfl (lv_at hl 0 rfl) ?_
                                  refine va_get (D := g.1) (ci := 7) (v := .ref t2) (C := RX7) (T := TX7) (N := 3) hx hb hts q_X7_climb_f7 hown hE.1 hP 2 rfl rfl 2 (by decide) (hts (.fieldLink RX7 15 "SoundLaws$Tree" "least" "[I") q_X7_climb_5) (fun _ h9 => h9) rfl dX7_climb_100 ?_
                                  refine lv_iload_n hx hb dX7_climb_103 rfl (lv_at hl 2 rfl) ?_
                                  refine lv_bipush (v := 9) hx hb dX7_climb_104 (by decide) ?_
                                  refine lv_imul hx hb dX7_climb_106 ?_
                                  refine lv_topi (fun x_19 ex_19 => ?_)
                                  obtain rfl : x_19 = 54 := ex_19.trans (by decide)
                                  refine lv_iload hx hb dX7_climb_107 (lv_at hl 4 rfl) ?_
                                  refine lv_iadd hx hb dX7_climb_109 ?_
                                  refine k_ald (54 + (j + 1)) (by rw [show (54 : Int32) = nI 54 from rfl, nI_add]) (by omega) hx hb hE hP 1 rfl (by decide) dX7_climb_110 ?_
                                  refine lv_aload_n hx hb dX7_climb_111 rfl (lv_at hl 0 rfl) ?_
                                  refine va_get (D := g.1) (ci := 7) (v := .ref t2) (C := RX7) (T := TX7) (N := 3) hx hb hts q_X7_climb_f7 hown hE.1 hP 2 rfl rfl 2 (by decide) (hts (.fieldLink RX7 15 "SoundLaws$Tree" "least" "[I") q_X7_climb_5) (fun _ h9 => h9) rfl dX7_climb_112 ?_
                                  refine lv_iload_n hx hb dX7_climb_115 rfl (lv_at hl 2 rfl) ?_
                                  refine lv_bipush (v := 9) hx hb dX7_climb_116 (by decide) ?_
                                  refine lv_imul hx hb dX7_climb_118 ?_
                                  refine lv_topi (fun x_20 ex_20 => ?_)
                                  obtain rfl : x_20 = 54 := ex_20.trans (by decide)
                                  refine lv_iload_n hx hb dX7_climb_119 rfl (lv_at hl 3 rfl) ?_
                                  refine lv_iadd hx hb dX7_climb_120 ?_
                                  refine k_ald (54 + am (n6 a0 a1 a2 a3) j) (by rw [show (54 : Int32) = nI 54 from rfl, nI_add]) (by have := am_le (n6 a0 a1 a2 a3) j; omega) hx hb hE hP 1 rfl (by decide) dX7_climb_121 ?_
                                  refine lv_icmp_ge (tgt := 128) hx hb dX7_climb_122 (by decide) (fun c122_21 => ?_) (fun c122_21 => ?_)
                                  · skip
                                    have hq : am (n6 a0 a1 a2 a3) (j + 1) = am (n6 a0 a1 a2 a3) j := am_f (by have h9 := i_nlt c122_21; rw [hv6 (54 + (j + 1)) (by omega) (by omega), hv6 (54 + am (n6 a0 a1 a2 a3) j) (by omega) (by have := am_le (n6 a0 a1 a2 a3) j; omega), Sp6, Sp6] at h9; exact h9)
                                    rw [← hq] at hl
                                    have hl : lv_has ls 5 [(0, .ref h0), (1, .int 7), (2, .int 6), (3, .int (nI (am (n6 a0 a1 a2 a3) (j + 1)))), (4, .int (nI (j + 1)))] := by exact hl
                                    refine lv_iinc (v := (nI (j + 1 + 1))) (lv' := [(4, .int (nI (j + 1 + 1))), (0, .ref h0), (1, .int 7), (2, .int 6), (3, .int (nI (am (n6 a0 a1 a2 a3) (j + 1))))]) hx hb dX7_climb_128 hl (k := 4) rfl (nI_1 _) (by decide) rfl (fun ls hl => ?_)
                                    refine lv_goto (tgt := 92) hx hb dX7_climb_131 (by decide) ?_
                                    exact ih92 (j + 1) (by omega) (by omega) _ _ _ hP hD hS (lv_sub hl [1, 2, 3, 4, 0] rfl)
                                  · skip
                                    refine lv_iload hx hb dX7_climb_125 (lv_at hl 4 rfl) ?_
                                    refine lv_istore_n (lv' := [(3, .int (nI (j + 1))), (0, .ref h0), (1, .int 7), (2, .int 6), (4, .int (nI (j + 1)))]) hx hb dX7_climb_127 rfl hl (by decide) rfl (fun ls hl => ?_)
                                    have hq : am (n6 a0 a1 a2 a3) (j + 1) = j + 1 := am_t (by have h9 := i_nle c122_21; rw [hv6 (54 + (j + 1)) (by omega) (by omega), hv6 (54 + am (n6 a0 a1 a2 a3) j) (by omega) (by have := am_le (n6 a0 a1 a2 a3) j; omega), Sp6, Sp6] at h9; exact h9)
                                    have hl : lv_has ls 5 [(3, .int (nI (am (n6 a0 a1 a2 a3) (j + 1)))), (0, .ref h0), (1, .int 7), (2, .int 6), (4, .int (nI (j + 1)))] := by rw [hq]; exact hl
                                    refine lv_iinc (v := (nI (j + 1 + 1))) (lv' := [(4, .int (nI (j + 1 + 1))), (3, .int (nI (am (n6 a0 a1 a2 a3) (j + 1)))), (0, .ref h0), (1, .int 7), (2, .int 6)]) hx hb dX7_climb_128 hl (k := 4) rfl (nI_1 _) (by decide) rfl (fun ls hl => ?_)
                                    refine lv_goto (tgt := 92) hx hb dX7_climb_131 (by decide) ?_
                                    exact ih92 (j + 1) (by omega) (by omega) _ _ _ hP hD hS (lv_sub hl [2, 3, 4, 1, 0] rfl)
                            exact loop92 _ 0 (Nat.zero_le 8) (Nat.lt_succ_self _) _ _ _ hP hD hS (lv_sub hl [3, 4, 2, 1, 0] rfl)
                          · exact absurd c15_15 (by decide)
                        · skip
                          have hs9 := lt_of_nle (k := 9) (n := sd) (by decide) (by omega) c31_14
                          refine lv_aload_n hx hb dX7_climb_34 rfl (lv_at hl 0 rfl) ?_
                          refine va_get (D := g.1) (ci := 7) (v := .ref t2) (C := RX7) (T := TX7) (N := 3) hx hb hts q_X7_climb_f7 hown hE.1 hP 2 rfl rfl 2 (by decide) (hts (.fieldLink RX7 15 "SoundLaws$Tree" "least" "[I") q_X7_climb_5) (fun _ h9 => h9) rfl dX7_climb_35 ?_
                          refine lv_iload_n hx hb dX7_climb_38 rfl (lv_at hl 2 rfl) ?_
                          refine lv_bipush (v := 9) hx hb dX7_climb_39 (by decide) ?_
                          refine lv_imul hx hb dX7_climb_41 ?_
                          refine lv_topi (fun x_22 ex_22 => ?_)
                          obtain rfl : x_22 = 54 := ex_22.trans (by decide)
                          refine lv_iload hx hb dX7_climb_42 (lv_at hl 4 rfl) ?_
                          refine lv_iadd hx hb dX7_climb_44 ?_
                          refine lv_aload_n hx hb dX7_climb_45 rfl (lv_at hl 0 rfl) ?_
                          refine va_getsN hx hb hZ.zPAIRS hS hown (va_Nw.use rfl (hE.nw (w := .fieldLinkNest RX7 29 "SoundLaws" "PAIRS" "[I" RX8) 15 rfl)) (fun _ h9 => h9) dX7_climb_46 ?_
                          refine lv_iload_n hx hb dX7_climb_49 rfl (lv_at hl 3 rfl) ?_
                          refine k_tld 10 (by decide) (by decide) hx hb hZ.tPAIRS hS (by decide) (v := tb_PAIRS.getD 10 0) rfl dX7_climb_50 ?_
                          refine lv_topi (fun x_23 ex_23 => ?_)
                          obtain rfl : x_23 = 4 := ex_23.trans (by decide)
                          refine lv_iload hx hb dX7_climb_51 (lv_at hl 4 rfl) ?_
                          refine k_ci (wr := []) hP hD hS hA [2, 0, 1] [] rfl rfl (by decide) (by decide) (va_runV (As := [.int 4, .int (nI sd)]) (rest := [.int (54 + (nI sd)), .ref t2]) ⟨hx, hb, hml, hown, hts⟩ (c_X7_leastBelow_4 l g h0 t1 t2 f v6 sd hs9 H.size) (cwV 2 hts gX7_climb_X7_leastBelow rfl rfl rfl (by decide +kernel) ⟨Nat.le_of_ble_eq_true rfl, Nat.le_of_ble_eq_true rfl⟩) (k_preV hE hZ hP hD hS hA [2, 0, 1] rfl (by decide) (va_recv hE.1 hP (ci := 7) (q0 := 2) rfl rfl)) rfl rfl hl.1 rfl (lv_room (Nat.le_of_ble_eq_true rfl)) dX7_climb_53 ⟨Nat.le_of_ble_eq_true rfl, Nat.le_of_ble_eq_true rfl⟩) (fun r_24 w1 H locs hw hP hD hS => ?_)
                          obtain ⟨rfl, rfl⟩ := hw
                          have hP : va_P g.1 vwCl [(h0, .inr (7, [.int 4, .ref t1, .ref t2])), (t1, ai g 7 f), (t2, ai g 63 v6)] H := hP
                          have hD : va_D A [(h0, .inr (7, [.int 4, .ref t1, .ref t2])), (t1, ai g 7 f), (t2, ai g 63 v6)] := hD
                          refine lv_aload_n hx hb dX7_climb_56 rfl (lv_at hl 0 rfl) ?_
                          refine va_getsN hx hb hZ.zPAIRS hS hown (va_Nw.use rfl (hE.nw (w := .fieldLinkNest RX7 29 "SoundLaws" "PAIRS" "[I" RX8) 15 rfl)) (fun _ h9 => h9) dX7_climb_57 ?_
                          refine lv_iload_n hx hb dX7_climb_60 rfl (lv_at hl 3 rfl) ?_
                          refine lv_iconst (v := 1) hx hb dX7_climb_61 (by decide) ?_
                          refine lv_iadd hx hb dX7_climb_62 ?_
                          refine lv_topi (fun x_26 ex_26 => ?_)
                          obtain rfl : x_26 = 11 := ex_26.trans (by decide)
                          refine k_tld 11 (by decide) (by decide) hx hb hZ.tPAIRS hS (by decide) (v := tb_PAIRS.getD 11 0) rfl dX7_climb_63 ?_
                          refine lv_topi (fun x_27 ex_27 => ?_)
                          obtain rfl : x_27 = 5 := ex_27.trans (by decide)
                          refine lv_iload hx hb dX7_climb_64 (lv_at hl 4 rfl) ?_
                          refine k_ci (wr := []) hP hD hS hA [0, 1, 2] [] rfl rfl (by decide) (by decide) (va_runV (As := [.int 5, .int (nI sd)]) (rest := [.int (mn (fun t => cs sd t + v6 (36 + t)) 8), .int (54 + (nI sd)), .ref t2]) ⟨hx, hb, hml, hown, hts⟩ (c_X7_leastBelow_5 l g h0 t1 t2 f v6 sd hs9 H.size) (cwV 2 hts gX7_climb_X7_leastBelow rfl rfl rfl (by decide +kernel) ⟨Nat.le_of_ble_eq_true rfl, Nat.le_of_ble_eq_true rfl⟩) (k_preV hE hZ hP hD hS hA [0, 1, 2] rfl (by decide) (va_recv hE.1 hP (ci := 7) (q0 := 0) rfl rfl)) rfl rfl hl.1 rfl (lv_room (Nat.le_of_ble_eq_true rfl)) dX7_climb_66 ⟨Nat.le_of_ble_eq_true rfl, Nat.le_of_ble_eq_true rfl⟩) (fun r_28 w1 H locs hw hP hD hS => ?_)
                          obtain ⟨rfl, rfl⟩ := hw
                          have hP : va_P g.1 vwCl [(h0, .inr (7, [.int 4, .ref t1, .ref t2])), (t1, ai g 7 f), (t2, ai g 63 v6)] H := hP
                          have hD : va_D A [(h0, .inr (7, [.int 4, .ref t1, .ref t2])), (t1, ai g 7 f), (t2, ai g 63 v6)] := hD
                          refine lv_iadd hx hb dX7_climb_69 ?_
                          refine lv_topi (fun xv exv => ?_)
                          have hval : xv = Sp a0 a1 a2 a3 (54 + sd) := by rw [exv, Sp6]; exact congr (congrArg _ (mn_congr 8 (fun t ht => by rw [hv6 (36 + t) (by omega) (by omega), Sp4 (by omega)]))) (mn_congr 8 (fun t ht => by rw [hv6 (45 + t) (by omega) (by omega), Sp5 (by omega)]))
                          refine k_ast (x := xv) (54 + sd) (by rw [show (54 : Int32) = nI 54 from rfl, nI_add]) (by omega) hx hb hE hP hD hS 2 rfl (by decide) dX7_climb_70 (fun H locs hP hD hS => ?_)
                          have hP : va_P g.1 vwCl [(h0, .inr (7, [.int 4, .ref t1, .ref t2])), (t1, ai g 7 f), (t2, ai g 63 (upd v6 (54 + sd) xv))] H := hP
                          have hD : va_D A [(h0, .inr (7, [.int 4, .ref t1, .ref t2])), (t1, ai g 7 f), (t2, ai g 63 (upd v6 (54 + sd) xv))] := hD
                          refine lv_iinc (v := (nI (sd + 1))) (lv' := [(4, .int (nI (sd + 1))), (0, .ref h0), (1, .int 7), (2, .int 6), (3, .int 10)]) hx hb dX7_climb_71 hl (k := 4) rfl (nI_1 _) (by decide) rfl (fun ls hl => ?_)
                          refine lv_goto (tgt := 27) hx hb dX7_climb_74 (by decide) ?_
                          exact ih27 (sd + 1) (upd v6 (54 + sd) xv) (by omega) (fun k h1 h2 => by
                                                                                by_cases hk : k = 54 + sd
                                                                                · rw [hk, pk_us]; exact hval
                                                                                · rw [pk_un hk]; exact hv6 k h1 (by omega)) (by omega) _ _ _ (hP.sub [1, 2, 0] rfl) (hD.sub [1, 2, 0] (by decide) rfl) hS (lv_sub hl [1, 2, 3, 4, 0] rfl)
                    exact loop27 _ 0 v5 (Nat.zero_le 9) (fun k h1 h2 => hv5 k h1 (by omega)) (Nat.lt_succ_self _) _ _ _ hP hD hS (lv_sub hl [3, 4, 2, 1, 0] rfl)
                · skip
                  have hs9 := lt_of_nle (k := 9) (n := sd) (by decide) (by omega) c31_10
                  refine lv_aload_n hx hb dX7_climb_34 rfl (lv_at hl 0 rfl) ?_
                  refine va_get (D := g.1) (ci := 7) (v := .ref t2) (C := RX7) (T := TX7) (N := 3) hx hb hts q_X7_climb_f7 hown hE.1 hP 2 rfl rfl 2 (by decide) (hts (.fieldLink RX7 15 "SoundLaws$Tree" "least" "[I") q_X7_climb_5) (fun _ h9 => h9) rfl dX7_climb_35 ?_
                  refine lv_iload_n hx hb dX7_climb_38 rfl (lv_at hl 2 rfl) ?_
                  refine lv_bipush (v := 9) hx hb dX7_climb_39 (by decide) ?_
                  refine lv_imul hx hb dX7_climb_41 ?_
                  refine lv_topi (fun x_30 ex_30 => ?_)
                  obtain rfl : x_30 = 45 := ex_30.trans (by decide)
                  refine lv_iload hx hb dX7_climb_42 (lv_at hl 4 rfl) ?_
                  refine lv_iadd hx hb dX7_climb_44 ?_
                  refine lv_aload_n hx hb dX7_climb_45 rfl (lv_at hl 0 rfl) ?_
                  refine va_getsN hx hb hZ.zPAIRS hS hown (va_Nw.use rfl (hE.nw (w := .fieldLinkNest RX7 29 "SoundLaws" "PAIRS" "[I" RX8) 15 rfl)) (fun _ h9 => h9) dX7_climb_46 ?_
                  refine lv_iload_n hx hb dX7_climb_49 rfl (lv_at hl 3 rfl) ?_
                  refine k_tld 8 (by decide) (by decide) hx hb hZ.tPAIRS hS (by decide) (v := tb_PAIRS.getD 8 0) rfl dX7_climb_50 ?_
                  refine lv_topi (fun x_31 ex_31 => ?_)
                  obtain rfl : x_31 = 2 := ex_31.trans (by decide)
                  refine lv_iload hx hb dX7_climb_51 (lv_at hl 4 rfl) ?_
                  refine k_ci (wr := []) hP hD hS hA [2, 0, 1] [] rfl rfl (by decide) (by decide) (va_runV (As := [.int 2, .int (nI sd)]) (rest := [.int (45 + (nI sd)), .ref t2]) ⟨hx, hb, hml, hown, hts⟩ (c_X7_leastBelow_2 l g h0 t1 t2 f v5 a2 sd ha2 h92 hs9 H.size) (cwV 2 hts gX7_climb_X7_leastBelow rfl rfl rfl (by decide +kernel) ⟨Nat.le_of_ble_eq_true rfl, Nat.le_of_ble_eq_true rfl⟩) (k_preV hE hZ hP hD hS hA [2, 0, 1] rfl (by decide) (va_recv hE.1 hP (ci := 7) (q0 := 2) rfl rfl)) rfl rfl hl.1 rfl (lv_room (Nat.le_of_ble_eq_true rfl)) dX7_climb_53 ⟨Nat.le_of_ble_eq_true rfl, Nat.le_of_ble_eq_true rfl⟩) (fun r_32 w1 H locs hw hP hD hS => ?_)
                  obtain ⟨rfl, rfl⟩ := hw
                  have hP : va_P g.1 vwCl [(h0, .inr (7, [.int 4, .ref t1, .ref t2])), (t1, ai g 7 f), (t2, ai g 63 v5)] H := hP
                  have hD : va_D A [(h0, .inr (7, [.int 4, .ref t1, .ref t2])), (t1, ai g 7 f), (t2, ai g 63 v5)] := hD
                  refine lv_aload_n hx hb dX7_climb_56 rfl (lv_at hl 0 rfl) ?_
                  refine va_getsN hx hb hZ.zPAIRS hS hown (va_Nw.use rfl (hE.nw (w := .fieldLinkNest RX7 29 "SoundLaws" "PAIRS" "[I" RX8) 15 rfl)) (fun _ h9 => h9) dX7_climb_57 ?_
                  refine lv_iload_n hx hb dX7_climb_60 rfl (lv_at hl 3 rfl) ?_
                  refine lv_iconst (v := 1) hx hb dX7_climb_61 (by decide) ?_
                  refine lv_iadd hx hb dX7_climb_62 ?_
                  refine lv_topi (fun x_34 ex_34 => ?_)
                  obtain rfl : x_34 = 9 := ex_34.trans (by decide)
                  refine k_tld 9 (by decide) (by decide) hx hb hZ.tPAIRS hS (by decide) (v := tb_PAIRS.getD 9 0) rfl dX7_climb_63 ?_
                  refine lv_topi (fun x_35 ex_35 => ?_)
                  obtain rfl : x_35 = 3 := ex_35.trans (by decide)
                  refine lv_iload hx hb dX7_climb_64 (lv_at hl 4 rfl) ?_
                  refine k_ci (wr := []) hP hD hS hA [0, 1, 2] [] rfl rfl (by decide) (by decide) (va_runV (As := [.int 3, .int (nI sd)]) (rest := [.int (cs sd a2), .int (45 + (nI sd)), .ref t2]) ⟨hx, hb, hml, hown, hts⟩ (c_X7_leastBelow_3 l g h0 t1 t2 f v5 a3 sd ha3 h93 hs9 H.size) (cwV 2 hts gX7_climb_X7_leastBelow rfl rfl rfl (by decide +kernel) ⟨Nat.le_of_ble_eq_true rfl, Nat.le_of_ble_eq_true rfl⟩) (k_preV hE hZ hP hD hS hA [0, 1, 2] rfl (by decide) (va_recv hE.1 hP (ci := 7) (q0 := 0) rfl rfl)) rfl rfl hl.1 rfl (lv_room (Nat.le_of_ble_eq_true rfl)) dX7_climb_66 ⟨Nat.le_of_ble_eq_true rfl, Nat.le_of_ble_eq_true rfl⟩) (fun r_36 w1 H locs hw hP hD hS => ?_)
                  obtain ⟨rfl, rfl⟩ := hw
                  have hP : va_P g.1 vwCl [(h0, .inr (7, [.int 4, .ref t1, .ref t2])), (t1, ai g 7 f), (t2, ai g 63 v5)] H := hP
                  have hD : va_D A [(h0, .inr (7, [.int 4, .ref t1, .ref t2])), (t1, ai g 7 f), (t2, ai g 63 v5)] := hD
                  refine lv_iadd hx hb dX7_climb_69 ?_
                  refine lv_topi (fun xv exv => ?_)
                  have hval : xv = Sp a0 a1 a2 a3 (45 + sd) := by rw [exv, Sp5 hs9]; rfl
                  refine k_ast (x := xv) (45 + sd) (by rw [show (45 : Int32) = nI 45 from rfl, nI_add]) (by omega) hx hb hE hP hD hS 2 rfl (by decide) dX7_climb_70 (fun H locs hP hD hS => ?_)
                  have hP : va_P g.1 vwCl [(h0, .inr (7, [.int 4, .ref t1, .ref t2])), (t1, ai g 7 f), (t2, ai g 63 (upd v5 (45 + sd) xv))] H := hP
                  have hD : va_D A [(h0, .inr (7, [.int 4, .ref t1, .ref t2])), (t1, ai g 7 f), (t2, ai g 63 (upd v5 (45 + sd) xv))] := hD
                  refine lv_iinc (v := (nI (sd + 1))) (lv' := [(4, .int (nI (sd + 1))), (0, .ref h0), (1, .int 7), (2, .int 5), (3, .int 8)]) hx hb dX7_climb_71 hl (k := 4) rfl (nI_1 _) (by decide) rfl (fun ls hl => ?_)
                  refine lv_goto (tgt := 27) hx hb dX7_climb_74 (by decide) ?_
                  exact ih27 (sd + 1) (upd v5 (45 + sd) xv) (by omega) (fun k h1 h2 => by
                                                                                by_cases hk : k = 45 + sd
                                                                                · rw [hk, pk_us]; exact hval
                                                                                · rw [pk_un hk]; exact hv5 k h1 (by omega)) (by omega) _ _ _ (hP.sub [1, 2, 0] rfl) (hD.sub [1, 2, 0] (by decide) rfl) hS (lv_sub hl [1, 2, 3, 4, 0] rfl)
            exact loop27 _ 0 v4 (Nat.zero_le 9) (fun k h1 h2 => hv4 k h1 (by omega)) (Nat.lt_succ_self _) _ _ _ hP hD hS (lv_sub hl [3, 4, 2, 1, 0] rfl)
        · skip
          have hs9 := lt_of_nle (k := 9) (n := sd) (by decide) (by omega) c31_6
          refine lv_aload_n hx hb dX7_climb_34 rfl (lv_at hl 0 rfl) ?_
          refine va_get (D := g.1) (ci := 7) (v := .ref t2) (C := RX7) (T := TX7) (N := 3) hx hb hts q_X7_climb_f7 hown hE.1 hP 2 rfl rfl 2 (by decide) (hts (.fieldLink RX7 15 "SoundLaws$Tree" "least" "[I") q_X7_climb_5) (fun _ h9 => h9) rfl dX7_climb_35 ?_
          refine lv_iload_n hx hb dX7_climb_38 rfl (lv_at hl 2 rfl) ?_
          refine lv_bipush (v := 9) hx hb dX7_climb_39 (by decide) ?_
          refine lv_imul hx hb dX7_climb_41 ?_
          refine lv_topi (fun x_38 ex_38 => ?_)
          obtain rfl : x_38 = 36 := ex_38.trans (by decide)
          refine lv_iload hx hb dX7_climb_42 (lv_at hl 4 rfl) ?_
          refine lv_iadd hx hb dX7_climb_44 ?_
          refine lv_aload_n hx hb dX7_climb_45 rfl (lv_at hl 0 rfl) ?_
          refine va_getsN hx hb hZ.zPAIRS hS hown (va_Nw.use rfl (hE.nw (w := .fieldLinkNest RX7 29 "SoundLaws" "PAIRS" "[I" RX8) 15 rfl)) (fun _ h9 => h9) dX7_climb_46 ?_
          refine lv_iload_n hx hb dX7_climb_49 rfl (lv_at hl 3 rfl) ?_
          refine k_tld 6 (by decide) (by decide) hx hb hZ.tPAIRS hS (by decide) (v := tb_PAIRS.getD 6 0) rfl dX7_climb_50 ?_
          refine lv_topi (fun x_39 ex_39 => ?_)
          obtain rfl : x_39 = 0 := ex_39.trans (by decide)
          refine lv_iload hx hb dX7_climb_51 (lv_at hl 4 rfl) ?_
          refine k_ci (wr := []) hP hD hS hA [2, 0, 1] [] rfl rfl (by decide) (by decide) (va_runV (As := [.int 0, .int (nI sd)]) (rest := [.int (36 + (nI sd)), .ref t2]) ⟨hx, hb, hml, hown, hts⟩ (c_X7_leastBelow_0 l g h0 t1 t2 f v4 a0 sd ha0 h90 hs9 H.size) (cwV 2 hts gX7_climb_X7_leastBelow rfl rfl rfl (by decide +kernel) ⟨Nat.le_of_ble_eq_true rfl, Nat.le_of_ble_eq_true rfl⟩) (k_preV hE hZ hP hD hS hA [2, 0, 1] rfl (by decide) (va_recv hE.1 hP (ci := 7) (q0 := 2) rfl rfl)) rfl rfl hl.1 rfl (lv_room (Nat.le_of_ble_eq_true rfl)) dX7_climb_53 ⟨Nat.le_of_ble_eq_true rfl, Nat.le_of_ble_eq_true rfl⟩) (fun r_40 w1 H locs hw hP hD hS => ?_)
          obtain ⟨rfl, rfl⟩ := hw
          have hP : va_P g.1 vwCl [(h0, .inr (7, [.int 4, .ref t1, .ref t2])), (t1, ai g 7 f), (t2, ai g 63 v4)] H := hP
          have hD : va_D A [(h0, .inr (7, [.int 4, .ref t1, .ref t2])), (t1, ai g 7 f), (t2, ai g 63 v4)] := hD
          refine lv_aload_n hx hb dX7_climb_56 rfl (lv_at hl 0 rfl) ?_
          refine va_getsN hx hb hZ.zPAIRS hS hown (va_Nw.use rfl (hE.nw (w := .fieldLinkNest RX7 29 "SoundLaws" "PAIRS" "[I" RX8) 15 rfl)) (fun _ h9 => h9) dX7_climb_57 ?_
          refine lv_iload_n hx hb dX7_climb_60 rfl (lv_at hl 3 rfl) ?_
          refine lv_iconst (v := 1) hx hb dX7_climb_61 (by decide) ?_
          refine lv_iadd hx hb dX7_climb_62 ?_
          refine lv_topi (fun x_42 ex_42 => ?_)
          obtain rfl : x_42 = 7 := ex_42.trans (by decide)
          refine k_tld 7 (by decide) (by decide) hx hb hZ.tPAIRS hS (by decide) (v := tb_PAIRS.getD 7 0) rfl dX7_climb_63 ?_
          refine lv_topi (fun x_43 ex_43 => ?_)
          obtain rfl : x_43 = 1 := ex_43.trans (by decide)
          refine lv_iload hx hb dX7_climb_64 (lv_at hl 4 rfl) ?_
          refine k_ci (wr := []) hP hD hS hA [0, 1, 2] [] rfl rfl (by decide) (by decide) (va_runV (As := [.int 1, .int (nI sd)]) (rest := [.int (cs sd a0), .int (36 + (nI sd)), .ref t2]) ⟨hx, hb, hml, hown, hts⟩ (c_X7_leastBelow_1 l g h0 t1 t2 f v4 a1 sd ha1 h91 hs9 H.size) (cwV 2 hts gX7_climb_X7_leastBelow rfl rfl rfl (by decide +kernel) ⟨Nat.le_of_ble_eq_true rfl, Nat.le_of_ble_eq_true rfl⟩) (k_preV hE hZ hP hD hS hA [0, 1, 2] rfl (by decide) (va_recv hE.1 hP (ci := 7) (q0 := 0) rfl rfl)) rfl rfl hl.1 rfl (lv_room (Nat.le_of_ble_eq_true rfl)) dX7_climb_66 ⟨Nat.le_of_ble_eq_true rfl, Nat.le_of_ble_eq_true rfl⟩) (fun r_44 w1 H locs hw hP hD hS => ?_)
          obtain ⟨rfl, rfl⟩ := hw
          have hP : va_P g.1 vwCl [(h0, .inr (7, [.int 4, .ref t1, .ref t2])), (t1, ai g 7 f), (t2, ai g 63 v4)] H := hP
          have hD : va_D A [(h0, .inr (7, [.int 4, .ref t1, .ref t2])), (t1, ai g 7 f), (t2, ai g 63 v4)] := hD
          refine lv_iadd hx hb dX7_climb_69 ?_
          refine lv_topi (fun xv exv => ?_)
          have hval : xv = Sp a0 a1 a2 a3 (36 + sd) := by rw [exv, Sp4 hs9]; rfl
          refine k_ast (x := xv) (36 + sd) (by rw [show (36 : Int32) = nI 36 from rfl, nI_add]) (by omega) hx hb hE hP hD hS 2 rfl (by decide) dX7_climb_70 (fun H locs hP hD hS => ?_)
          have hP : va_P g.1 vwCl [(h0, .inr (7, [.int 4, .ref t1, .ref t2])), (t1, ai g 7 f), (t2, ai g 63 (upd v4 (36 + sd) xv))] H := hP
          have hD : va_D A [(h0, .inr (7, [.int 4, .ref t1, .ref t2])), (t1, ai g 7 f), (t2, ai g 63 (upd v4 (36 + sd) xv))] := hD
          refine lv_iinc (v := (nI (sd + 1))) (lv' := [(4, .int (nI (sd + 1))), (0, .ref h0), (1, .int 7), (2, .int 4), (3, .int 6)]) hx hb dX7_climb_71 hl (k := 4) rfl (nI_1 _) (by decide) rfl (fun ls hl => ?_)
          refine lv_goto (tgt := 27) hx hb dX7_climb_74 (by decide) ?_
          exact ih27 (sd + 1) (upd v4 (36 + sd) xv) (by omega) (fun k h1 h2 => by
                                                                                by_cases hk : k = 36 + sd
                                                                                · rw [hk, pk_us]; exact hval
                                                                                · rw [pk_un hk]; exact hv4 k h1 (by omega)) (by omega) _ _ _ (hP.sub [1, 2, 0] rfl) (hD.sub [1, 2, 0] (by decide) rfl) hS (lv_sub hl [1, 2, 3, 4, 0] rfl)
    exact loop27 _ 0 fl (Nat.zero_le 9) (fun k h1 h2 => absurd h2 (by omega)) (Nat.lt_succ_self _) _ _ _ hP hD hS (lv_sub hl [4, 3, 2, 1, 0] rfl)

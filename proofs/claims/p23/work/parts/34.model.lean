def po_X9_in (g : GG) (v : Int64) (a : Int64) (b : Int64) : Int32 → va_W → Prop := fun (r : Int32) w => w = [] ∧ (inL v a b = r)
set_option maxHeartbeats 1500000 in
set_option maxRecDepth 100000 in
theorem c_X9_in (l : Launch) (g : GG) (v : Int64) (a : Int64) (b : Int64)  (sz : Nat) : MetI l yX9_in wsX9_in ({ frames := 0, cells := 0, slots := 0, locals := 0 }) g [.long v, .long a, .long b] [] sz (po_X9_in g v a b) 0 0 := by
  refine k_of (l := l) (y := yX9_in) (ws := wsX9_in) (rm := { frames := 0, cells := 0, slots := 0, locals := 0 }) (mc := 0) (ms := 0) (av := [.long v, .long a, .long b]) (g := g) (wc := []) (Qc := fun A => va_Qi (po_X9_in g v a b) (bk g A) A) (cc := cX9_in) (maxL := 6) (ret := (some .boolean)) (by decide) rfl (Nat.le_of_ble_eq_true rfl) ?_ sz
  intro p e s m below meth c hx hb hr hts hown hlocks hnm hml A hA hE hZ hP hD hS ls hl
  have hown : s.vm.findClass RX9 = some m.cls := hown
  have hl : lv_has ls 6 [(0, .long v), (2, .long a), (4, .long b)] := hl
  refine lv_lload_n hx hb dX9_in_0 rfl (lv_at hl 0 rfl) ?_
  refine lv_lload_n hx hb dX9_in_1 rfl (lv_at hl 1 rfl) ?_
  refine W.lcmp hx hb dX9_in_2 ?_
  refine lv_if_lt (tgt := 17) hx hb dX9_in_3 (by decide) (fun c3_1 => ?_) (fun c3_1 => ?_)
  · skip
    refine lv_iconst (v := 0) hx hb dX9_in_17 (by decide) ?_
    refine W.widen (k := 0) (n := 0) (Nat.le_of_ble_eq_true rfl) (Nat.le_of_ble_eq_true rfl) ?_
    exact k_rz hx hb hr hlocks hS hP hD rfl ⟨rfl, (by unfold inL; rw [if_pos (Or.inl ((lg_lt _ _).mp c3_1))])⟩ dX9_in_18
  · skip
    refine lv_lload_n hx hb dX9_in_6 rfl (lv_at hl 0 rfl) ?_
    refine lv_lload hx hb dX9_in_7 (lv_at hl 2 rfl) ?_
    refine W.lcmp hx hb dX9_in_9 ?_
    refine lv_if_gt (tgt := 17) hx hb dX9_in_10 (by decide) (fun c10_2 => ?_) (fun c10_2 => ?_)
    · skip
      refine lv_iconst (v := 0) hx hb dX9_in_17 (by decide) ?_
      refine W.widen (k := 0) (n := 0) (Nat.le_of_ble_eq_true rfl) (Nat.le_of_ble_eq_true rfl) ?_
      exact k_rz hx hb hr hlocks hS hP hD rfl ⟨rfl, (by unfold inL; rw [if_pos (Or.inr ((lg_gt _ _).mp c10_2))])⟩ dX9_in_18
    · skip
      refine lv_iconst (v := 1) hx hb dX9_in_13 (by decide) ?_
      refine lv_goto (tgt := 18) hx hb dX9_in_14 (by decide) ?_
      refine W.widen (k := 0) (n := 0) (Nat.le_of_ble_eq_true rfl) (Nat.le_of_ble_eq_true rfl) ?_
      exact k_rz hx hb hr hlocks hS hP hD rfl ⟨rfl, (by unfold inL; rw [if_neg (fun h => h.elim (fun q => c3_1 ((lg_lt _ _).mpr q)) (fun q => c10_2 ((lg_gt _ _).mpr q)))])⟩ dX9_in_18
def po_X9_isVowel (g : GG) (x : Int32) : Int32 → va_W → Prop := fun (r : Int32) w => w = [] ∧ (inL x.toInt64 1 3 = r)
theorem q_X9_isVowel_0 : (Cond.constantLong RX9 166 (3)) ∈ wsX9_isVowel := by decide +kernel
set_option maxHeartbeats 1500000 in
set_option maxRecDepth 100000 in
theorem c_X9_isVowel (l : Launch) (g : GG) (x : Int32)  (sz : Nat) : MetI l yX9_isVowel wsX9_isVowel ({ frames := 1, cells := 0, slots := 0, locals := 25 }) g [.int x] [] sz (po_X9_isVowel g x) 0 0 := by
  refine k_of (l := l) (y := yX9_isVowel) (ws := wsX9_isVowel) (rm := { frames := 1, cells := 0, slots := 0, locals := 25 }) (mc := 0) (ms := 0) (av := [.int x]) (g := g) (wc := []) (Qc := fun A => va_Qi (po_X9_isVowel g x) (bk g A) A) (cc := cX9_isVowel) (maxL := 1) (ret := (some .boolean)) (by decide) rfl (Nat.le_of_ble_eq_true rfl) ?_ sz
  intro p e s m below meth c hx hb hr hts hown hlocks hnm hml A hA hE hZ hP hD hS ls hl
  have hown : s.vm.findClass RX9 = some m.cls := hown
  have hl : lv_has ls 1 [(0, .int x)] := hl
  refine lv_iload_n hx hb dX9_isVowel_0 rfl (lv_at hl 0 rfl) ?_
  refine lv_i2l hx hb dX9_isVowel_1 rfl ?_
  refine lv_lconst (v := 1) hx hb dX9_isVowel_2 (by decide) ?_
  refine lv_ldc2 hx hb hown (hts (.constantLong RX9 166 (3)) q_X9_isVowel_0) dX9_isVowel_3 ?_
  refine k_ci (wr := []) hP hD hS hA [] [] rfl rfl (by decide) (by decide) (va_runS (As := [.long ((x : Int32).toInt64), .long 1, .long 3]) (rest := []) ⟨hx, hb, hml, hown, hts⟩ (c_X9_in l g ((x : Int32).toInt64) 1 3  s.heap.size) (va_cwS 3 hts gX9_isVowel_X9_in rfl rfl rfl (by decide +kernel) ⟨Nat.le_of_ble_eq_true rfl, Nat.le_of_ble_eq_true rfl⟩) (k_preS hE hZ hP hD hS hA [] rfl (by decide)) rfl rfl hl.1 rfl (lv_room (Nat.le_of_ble_eq_true rfl)) dX9_isVowel_6 ⟨Nat.le_of_ble_eq_true rfl, Nat.le_of_ble_eq_true rfl⟩) (fun r_1 w1 H locs hw hP hD hS => ?_)
  obtain ⟨rfl, rfl⟩ := hw
  have hP : va_P g.1 vwCl [] H := hP
  have hD : va_D A [] := hD
  refine W.widen (k := 0) (n := 0) (Nat.le_of_ble_eq_true rfl) (Nat.le_of_ble_eq_true rfl) ?_
  exact k_rz hx hb hr hlocks hS hP hD (inL_nar _ _ _) ⟨rfl, rfl⟩ dX9_isVowel_9
def po_X9_costOf (g : GG) (x : Int32) (y : Int32) : Int32 → va_W → Prop := fun (r : Int32) w => w = [] ∧ (cmo x y = r)
set_option maxHeartbeats 1500000 in
set_option maxRecDepth 100000 in
theorem c_X9_costOf (l : Launch) (g : GG) (x : Int32) (y : Int32)  (sz : Nat) : MetI l yX9_costOf wsX9_costOf ({ frames := 2, cells := 0, slots := 0, locals := 45 }) g [.int x, .int y] [] sz (po_X9_costOf g x y) 0 0 := by
  refine k_of (l := l) (y := yX9_costOf) (ws := wsX9_costOf) (rm := { frames := 2, cells := 0, slots := 0, locals := 45 }) (mc := 0) (ms := 0) (av := [.int x, .int y]) (g := g) (wc := []) (Qc := fun A => va_Qi (po_X9_costOf g x y) (bk g A) A) (cc := cX9_costOf) (maxL := 2) (ret := (some .int)) (by decide) rfl (Nat.le_of_ble_eq_true rfl) ?_ sz
  intro p e s m below meth c hx hb hr hts hown hlocks hnm hml A hA hE hZ hP hD hS ls hl
  have hown : s.vm.findClass RX9 = some m.cls := hown
  have hl : lv_has ls 2 [(0, .int x), (1, .int y)] := hl
  refine lv_iload_n hx hb dX9_costOf_0 rfl (lv_at hl 0 rfl) ?_
  refine lv_iload_n hx hb dX9_costOf_1 rfl (lv_at hl 1 rfl) ?_
  refine lv_icmp_ne (tgt := 9) hx hb dX9_costOf_2 (by decide) (fun c2_1 => ?_) (fun c2_1 => ?_)
  · skip
    refine lv_iload_n hx hb dX9_costOf_9 rfl (lv_at hl 0 rfl) ?_
    refine lv_if_eq (tgt := 17) hx hb dX9_costOf_10 (by decide) (fun c10_2 => ?_) (fun c10_2 => ?_)
    · skip
      refine lv_iconst (v := 3) hx hb dX9_costOf_17 (by decide) ?_
      refine lv_goto (tgt := 37) hx hb dX9_costOf_18 (by decide) ?_
      refine W.widen (k := 0) (n := 0) (Nat.le_of_ble_eq_true rfl) (Nat.le_of_ble_eq_true rfl) ?_
      exact k_ri hx hb hr hlocks hS hP hD ⟨rfl, (by unfold cmo; rw [if_neg c2_1, if_pos (Or.inl c10_2)])⟩ dX9_costOf_37
    · skip
      refine lv_iload_n hx hb dX9_costOf_13 rfl (lv_at hl 1 rfl) ?_
      refine lv_if_ne (tgt := 21) hx hb dX9_costOf_14 (by decide) (fun c14_3 => ?_) (fun c14_3 => ?_)
      · skip
        refine lv_iload_n hx hb dX9_costOf_21 rfl (lv_at hl 0 rfl) ?_
        refine k_ci (wr := []) hP hD hS hA [] [] rfl rfl (by decide) (by decide) (va_runS (As := [.int x]) (rest := []) ⟨hx, hb, hml, hown, hts⟩ (c_X9_isVowel l g x  s.heap.size) (va_cwS 1 hts gX9_costOf_X9_isVowel rfl rfl rfl (by decide +kernel) ⟨Nat.le_of_ble_eq_true rfl, Nat.le_of_ble_eq_true rfl⟩) (k_preS hE hZ hP hD hS hA [] rfl (by decide)) rfl rfl hl.1 rfl (lv_room (Nat.le_of_ble_eq_true rfl)) dX9_costOf_22 ⟨Nat.le_of_ble_eq_true rfl, Nat.le_of_ble_eq_true rfl⟩) (fun r_4 w1 H locs hw hP hD hS => ?_)
        obtain ⟨rfl, rfl⟩ := hw
        have hP : va_P g.1 vwCl [] H := hP
        have hD : va_D A [] := hD
        refine lv_iload_n hx hb dX9_costOf_25 rfl (lv_at hl 1 rfl) ?_
        refine k_ci (wr := []) hP hD hS hA [] [] rfl rfl (by decide) (by decide) (va_runS (As := [.int y]) (rest := [.int (inL x.toInt64 1 3)]) ⟨hx, hb, hml, hown, hts⟩ (c_X9_isVowel l g y  H.size) (va_cwS 1 hts gX9_costOf_X9_isVowel rfl rfl rfl (by decide +kernel) ⟨Nat.le_of_ble_eq_true rfl, Nat.le_of_ble_eq_true rfl⟩) (k_preS hE hZ hP hD hS hA [] rfl (by decide)) rfl rfl hl.1 rfl (lv_room (Nat.le_of_ble_eq_true rfl)) dX9_costOf_26 ⟨Nat.le_of_ble_eq_true rfl, Nat.le_of_ble_eq_true rfl⟩) (fun r_6 w1 H locs hw hP hD hS => ?_)
        obtain ⟨rfl, rfl⟩ := hw
        have hP : va_P g.1 vwCl [] H := hP
        have hD : va_D A [] := hD
        refine lv_icmp_ne (tgt := 36) hx hb dX9_costOf_29 (by decide) (fun c29_8 => ?_) (fun c29_8 => ?_)
        · skip
          refine lv_iconst (v := 2) hx hb dX9_costOf_36 (by decide) ?_
          refine W.widen (k := 0) (n := 0) (Nat.le_of_ble_eq_true rfl) (Nat.le_of_ble_eq_true rfl) ?_
          exact k_ri hx hb hr hlocks hS hP hD ⟨rfl, (by unfold cmo; rw [if_neg c2_1, if_neg (fun h => h.elim c10_2 c14_3), if_neg c29_8])⟩ dX9_costOf_37
        · skip
          refine lv_iconst (v := 1) hx hb dX9_costOf_32 (by decide) ?_
          refine lv_goto (tgt := 37) hx hb dX9_costOf_33 (by decide) ?_
          refine W.widen (k := 0) (n := 0) (Nat.le_of_ble_eq_true rfl) (Nat.le_of_ble_eq_true rfl) ?_
          exact k_ri hx hb hr hlocks hS hP hD ⟨rfl, (by unfold cmo; rw [if_neg c2_1, if_neg (fun h => h.elim c10_2 c14_3), if_pos c29_8])⟩ dX9_costOf_37
      · skip
        refine lv_iconst (v := 3) hx hb dX9_costOf_17 (by decide) ?_
        refine lv_goto (tgt := 37) hx hb dX9_costOf_18 (by decide) ?_
        refine W.widen (k := 0) (n := 0) (Nat.le_of_ble_eq_true rfl) (Nat.le_of_ble_eq_true rfl) ?_
        exact k_ri hx hb hr hlocks hS hP hD ⟨rfl, (by unfold cmo; rw [if_neg c2_1, if_pos (Or.inr c14_3)])⟩ dX9_costOf_37
  · skip
    refine lv_iconst (v := 0) hx hb dX9_costOf_5 (by decide) ?_
    refine lv_goto (tgt := 37) hx hb dX9_costOf_6 (by decide) ?_
    refine W.widen (k := 0) (n := 0) (Nat.le_of_ble_eq_true rfl) (Nat.le_of_ble_eq_true rfl) ?_
    exact k_ri hx hb hr hlocks hS hP hD ⟨rfl, (by unfold cmo; rw [if_pos c2_1])⟩ dX9_costOf_37
def po_X9_nodesBy_4 (g : GG) (k0 : Nat) : Int32 → va_W → Prop := fun (r : Int32) w => w = [] ∧ (7 = r)
set_option maxHeartbeats 1500000 in
set_option maxRecDepth 100000 in
theorem c_X9_nodesBy_4 (l : Launch) (g : GG) (k0 : Nat)  (sz : Nat) : MetI l yX9_nodesBy wsX9_nodesBy ({ frames := 0, cells := 0, slots := 0, locals := 0 }) g [.ref k0, .int 4] [] sz (po_X9_nodesBy_4 g k0) 0 0 := by
  refine k_of (l := l) (y := yX9_nodesBy) (ws := wsX9_nodesBy) (rm := { frames := 0, cells := 0, slots := 0, locals := 0 }) (mc := 0) (ms := 0) (av := [.ref k0, .int 4]) (g := g) (wc := []) (Qc := fun A => va_Qi (po_X9_nodesBy_4 g k0) (bk g A) A) (cc := cX9_nodesBy) (maxL := 2) (ret := (some .int)) (by decide) rfl (Nat.le_of_ble_eq_true rfl) ?_ sz
  intro p e s m below meth c hx hb hr hts hown hlocks hnm hml A hA hE hZ hP hD hS ls hl
  have hown : s.vm.findClass RX9 = some m.cls := hown
  have hl : lv_has ls 2 [(0, .ref k0), (1, .int 4)] := hl
  refine lv_iconst (v := 2) hx hb dX9_nodesBy_0 (by decide) ?_
  refine lv_iload_n hx hb dX9_nodesBy_1 rfl (lv_at hl 1 rfl) ?_
  refine lv_imul hx hb dX9_nodesBy_2 ?_
  refine lv_topi (fun x_1 ex_1 => ?_)
  obtain rfl : x_1 = 8 := ex_1.trans (by decide)
  refine lv_iconst (v := 1) hx hb dX9_nodesBy_3 (by decide) ?_
  refine lv_isub hx hb dX9_nodesBy_4 ?_
  refine lv_topi (fun x_2 ex_2 => ?_)
  obtain rfl : x_2 = 7 := ex_2.trans (by decide)
  refine W.widen (k := 0) (n := 0) (Nat.le_of_ble_eq_true rfl) (Nat.le_of_ble_eq_true rfl) ?_
  exact k_ri hx hb hr hlocks hS hP hD ⟨rfl, rfl⟩ dX9_nodesBy_5
def po_X9_belowFirst_4 (g : GG)  : Int32 → va_W → Prop := fun (r : Int32) w => w = [] ∧ (0 = r)
set_option maxHeartbeats 1500000 in
set_option maxRecDepth 100000 in
theorem c_X9_belowFirst_4 (l : Launch) (g : GG)   (sz : Nat) : MetI l yX9_belowFirst wsX9_belowFirst ({ frames := 0, cells := 0, slots := 0, locals := 0 }) g [.int 4, .int 4] [] sz (po_X9_belowFirst_4 g ) 0 0 := by
  refine k_of (l := l) (y := yX9_belowFirst) (ws := wsX9_belowFirst) (rm := { frames := 0, cells := 0, slots := 0, locals := 0 }) (mc := 0) (ms := 0) (av := [.int 4, .int 4]) (g := g) (wc := []) (Qc := fun A => va_Qi (po_X9_belowFirst_4 g ) (bk g A) A) (cc := cX9_belowFirst) (maxL := 2) (ret := (some .int)) (by decide) rfl (Nat.le_of_ble_eq_true rfl) ?_ sz
  intro p e s m below meth c hx hb hr hts hown hlocks hnm hml A hA hE hZ hP hD hS ls hl
  have hown : s.vm.findClass RX9 = some m.cls := hown
  have hl : lv_has ls 2 [(0, .int 4), (1, .int 4)] := hl
  refine lv_iload_n hx hb dX9_belowFirst_0 rfl (lv_at hl 1 rfl) ?_
  refine lv_iload_n hx hb dX9_belowFirst_1 rfl (lv_at hl 0 rfl) ?_
  refine lv_icmp_ne (tgt := 9) hx hb dX9_belowFirst_2 (by decide) (fun c2_1 => ?_) (fun c2_1 => ?_)
  · exact absurd c2_1 (by decide)
  · skip
    refine lv_iconst (v := 0) hx hb dX9_belowFirst_5 (by decide) ?_
    refine lv_goto (tgt := 28) hx hb dX9_belowFirst_6 (by decide) ?_
    refine W.widen (k := 0) (n := 0) (Nat.le_of_ble_eq_true rfl) (Nat.le_of_ble_eq_true rfl) ?_
    exact k_ri hx hb hr hlocks hS hP hD ⟨rfl, rfl⟩ dX9_belowFirst_28
def po_X9_belowSecond_4 (g : GG)  : Int32 → va_W → Prop := fun (r : Int32) w => w = [] ∧ (1 = r)
set_option maxHeartbeats 1500000 in
set_option maxRecDepth 100000 in
theorem c_X9_belowSecond_4 (l : Launch) (g : GG)   (sz : Nat) : MetI l yX9_belowSecond wsX9_belowSecond ({ frames := 0, cells := 0, slots := 0, locals := 0 }) g [.int 4, .int 4] [] sz (po_X9_belowSecond_4 g ) 0 0 := by
  refine k_of (l := l) (y := yX9_belowSecond) (ws := wsX9_belowSecond) (rm := { frames := 0, cells := 0, slots := 0, locals := 0 }) (mc := 0) (ms := 0) (av := [.int 4, .int 4]) (g := g) (wc := []) (Qc := fun A => va_Qi (po_X9_belowSecond_4 g ) (bk g A) A) (cc := cX9_belowSecond) (maxL := 2) (ret := (some .int)) (by decide) rfl (Nat.le_of_ble_eq_true rfl) ?_ sz
  intro p e s m below meth c hx hb hr hts hown hlocks hnm hml A hA hE hZ hP hD hS ls hl
  have hown : s.vm.findClass RX9 = some m.cls := hown
  have hl : lv_has ls 2 [(0, .int 4), (1, .int 4)] := hl
  refine lv_iload_n hx hb dX9_belowSecond_0 rfl (lv_at hl 1 rfl) ?_
  refine lv_iload_n hx hb dX9_belowSecond_1 rfl (lv_at hl 0 rfl) ?_
  refine lv_icmp_ne (tgt := 9) hx hb dX9_belowSecond_2 (by decide) (fun c2_1 => ?_) (fun c2_1 => ?_)
  · exact absurd c2_1 (by decide)
  · skip
    refine lv_iconst (v := 1) hx hb dX9_belowSecond_5 (by decide) ?_
    refine lv_goto (tgt := 28) hx hb dX9_belowSecond_6 (by decide) ?_
    refine W.widen (k := 0) (n := 0) (Nat.le_of_ble_eq_true rfl) (Nat.le_of_ble_eq_true rfl) ?_
    exact k_ri hx hb hr hlocks hS hP hD ⟨rfl, rfl⟩ dX9_belowSecond_28
def po_X9_belowFirst_5 (g : GG)  : Int32 → va_W → Prop := fun (r : Int32) w => w = [] ∧ (2 = r)
set_option maxHeartbeats 1500000 in
set_option maxRecDepth 100000 in
theorem c_X9_belowFirst_5 (l : Launch) (g : GG)   (sz : Nat) : MetI l yX9_belowFirst wsX9_belowFirst ({ frames := 0, cells := 0, slots := 0, locals := 0 }) g [.int 4, .int 5] [] sz (po_X9_belowFirst_5 g ) 0 0 := by
  refine k_of (l := l) (y := yX9_belowFirst) (ws := wsX9_belowFirst) (rm := { frames := 0, cells := 0, slots := 0, locals := 0 }) (mc := 0) (ms := 0) (av := [.int 4, .int 5]) (g := g) (wc := []) (Qc := fun A => va_Qi (po_X9_belowFirst_5 g ) (bk g A) A) (cc := cX9_belowFirst) (maxL := 2) (ret := (some .int)) (by decide) rfl (Nat.le_of_ble_eq_true rfl) ?_ sz
  intro p e s m below meth c hx hb hr hts hown hlocks hnm hml A hA hE hZ hP hD hS ls hl
  have hown : s.vm.findClass RX9 = some m.cls := hown
  have hl : lv_has ls 2 [(0, .int 4), (1, .int 5)] := hl
  refine lv_iload_n hx hb dX9_belowFirst_0 rfl (lv_at hl 1 rfl) ?_
  refine lv_iload_n hx hb dX9_belowFirst_1 rfl (lv_at hl 0 rfl) ?_
  refine lv_icmp_ne (tgt := 9) hx hb dX9_belowFirst_2 (by decide) (fun c2_1 => ?_) (fun c2_1 => ?_)
  · skip
    refine lv_iload_n hx hb dX9_belowFirst_9 rfl (lv_at hl 0 rfl) ?_
    refine lv_iconst (v := 3) hx hb dX9_belowFirst_10 (by decide) ?_
    refine lv_icmp_ne (tgt := 18) hx hb dX9_belowFirst_11 (by decide) (fun c11_2 => ?_) (fun c11_2 => ?_)
    · skip
      refine lv_iload_n hx hb dX9_belowFirst_18 rfl (lv_at hl 1 rfl) ?_
      refine lv_iconst (v := 5) hx hb dX9_belowFirst_19 (by decide) ?_
      refine lv_icmp_ne (tgt := 27) hx hb dX9_belowFirst_20 (by decide) (fun c20_3 => ?_) (fun c20_3 => ?_)
      · exact absurd c20_3 (by decide)
      · skip
        refine lv_iconst (v := 2) hx hb dX9_belowFirst_23 (by decide) ?_
        refine lv_goto (tgt := 28) hx hb dX9_belowFirst_24 (by decide) ?_
        refine W.widen (k := 0) (n := 0) (Nat.le_of_ble_eq_true rfl) (Nat.le_of_ble_eq_true rfl) ?_
        exact k_ri hx hb hr hlocks hS hP hD ⟨rfl, rfl⟩ dX9_belowFirst_28
    · exact absurd c11_2 (by decide)
  · exact absurd c2_1 (by decide)
def po_X9_belowSecond_5 (g : GG)  : Int32 → va_W → Prop := fun (r : Int32) w => w = [] ∧ (3 = r)
set_option maxHeartbeats 1500000 in
set_option maxRecDepth 100000 in
theorem c_X9_belowSecond_5 (l : Launch) (g : GG)   (sz : Nat) : MetI l yX9_belowSecond wsX9_belowSecond ({ frames := 0, cells := 0, slots := 0, locals := 0 }) g [.int 4, .int 5] [] sz (po_X9_belowSecond_5 g ) 0 0 := by
  refine k_of (l := l) (y := yX9_belowSecond) (ws := wsX9_belowSecond) (rm := { frames := 0, cells := 0, slots := 0, locals := 0 }) (mc := 0) (ms := 0) (av := [.int 4, .int 5]) (g := g) (wc := []) (Qc := fun A => va_Qi (po_X9_belowSecond_5 g ) (bk g A) A) (cc := cX9_belowSecond) (maxL := 2) (ret := (some .int)) (by decide) rfl (Nat.le_of_ble_eq_true rfl) ?_ sz
  intro p e s m below meth c hx hb hr hts hown hlocks hnm hml A hA hE hZ hP hD hS ls hl
  have hown : s.vm.findClass RX9 = some m.cls := hown
  have hl : lv_has ls 2 [(0, .int 4), (1, .int 5)] := hl
  refine lv_iload_n hx hb dX9_belowSecond_0 rfl (lv_at hl 1 rfl) ?_
  refine lv_iload_n hx hb dX9_belowSecond_1 rfl (lv_at hl 0 rfl) ?_
  refine lv_icmp_ne (tgt := 9) hx hb dX9_belowSecond_2 (by decide) (fun c2_1 => ?_) (fun c2_1 => ?_)
  · skip
    refine lv_iload_n hx hb dX9_belowSecond_9 rfl (lv_at hl 0 rfl) ?_
    refine lv_iconst (v := 3) hx hb dX9_belowSecond_10 (by decide) ?_
    refine lv_icmp_ne (tgt := 18) hx hb dX9_belowSecond_11 (by decide) (fun c11_2 => ?_) (fun c11_2 => ?_)
    · skip
      refine lv_iload_n hx hb dX9_belowSecond_18 rfl (lv_at hl 1 rfl) ?_
      refine lv_iconst (v := 5) hx hb dX9_belowSecond_19 (by decide) ?_
      refine lv_icmp_ne (tgt := 27) hx hb dX9_belowSecond_20 (by decide) (fun c20_3 => ?_) (fun c20_3 => ?_)
      · exact absurd c20_3 (by decide)
      · skip
        refine lv_iconst (v := 3) hx hb dX9_belowSecond_23 (by decide) ?_
        refine lv_goto (tgt := 28) hx hb dX9_belowSecond_24 (by decide) ?_
        refine W.widen (k := 0) (n := 0) (Nat.le_of_ble_eq_true rfl) (Nat.le_of_ble_eq_true rfl) ?_
        exact k_ri hx hb hr hlocks hS hP hD ⟨rfl, rfl⟩ dX9_belowSecond_28
    · exact absurd c11_2 (by decide)
  · exact absurd c2_1 (by decide)
def po_X9_belowFirst_6 (g : GG)  : Int32 → va_W → Prop := fun (r : Int32) w => w = [] ∧ (4 = r)
set_option maxHeartbeats 1500000 in
set_option maxRecDepth 100000 in
theorem c_X9_belowFirst_6 (l : Launch) (g : GG)   (sz : Nat) : MetI l yX9_belowFirst wsX9_belowFirst ({ frames := 0, cells := 0, slots := 0, locals := 0 }) g [.int 4, .int 6] [] sz (po_X9_belowFirst_6 g ) 0 0 := by
  refine k_of (l := l) (y := yX9_belowFirst) (ws := wsX9_belowFirst) (rm := { frames := 0, cells := 0, slots := 0, locals := 0 }) (mc := 0) (ms := 0) (av := [.int 4, .int 6]) (g := g) (wc := []) (Qc := fun A => va_Qi (po_X9_belowFirst_6 g ) (bk g A) A) (cc := cX9_belowFirst) (maxL := 2) (ret := (some .int)) (by decide) rfl (Nat.le_of_ble_eq_true rfl) ?_ sz
  intro p e s m below meth c hx hb hr hts hown hlocks hnm hml A hA hE hZ hP hD hS ls hl
  have hown : s.vm.findClass RX9 = some m.cls := hown
  have hl : lv_has ls 2 [(0, .int 4), (1, .int 6)] := hl
  refine lv_iload_n hx hb dX9_belowFirst_0 rfl (lv_at hl 1 rfl) ?_
  refine lv_iload_n hx hb dX9_belowFirst_1 rfl (lv_at hl 0 rfl) ?_
  refine lv_icmp_ne (tgt := 9) hx hb dX9_belowFirst_2 (by decide) (fun c2_1 => ?_) (fun c2_1 => ?_)
  · skip
    refine lv_iload_n hx hb dX9_belowFirst_9 rfl (lv_at hl 0 rfl) ?_
    refine lv_iconst (v := 3) hx hb dX9_belowFirst_10 (by decide) ?_
    refine lv_icmp_ne (tgt := 18) hx hb dX9_belowFirst_11 (by decide) (fun c11_2 => ?_) (fun c11_2 => ?_)
    · skip
      refine lv_iload_n hx hb dX9_belowFirst_18 rfl (lv_at hl 1 rfl) ?_
      refine lv_iconst (v := 5) hx hb dX9_belowFirst_19 (by decide) ?_
      refine lv_icmp_ne (tgt := 27) hx hb dX9_belowFirst_20 (by decide) (fun c20_3 => ?_) (fun c20_3 => ?_)
      · skip
        refine lv_iconst (v := 4) hx hb dX9_belowFirst_27 (by decide) ?_
        refine W.widen (k := 0) (n := 0) (Nat.le_of_ble_eq_true rfl) (Nat.le_of_ble_eq_true rfl) ?_
        exact k_ri hx hb hr hlocks hS hP hD ⟨rfl, rfl⟩ dX9_belowFirst_28
      · exact absurd c20_3 (by decide)
    · exact absurd c11_2 (by decide)
  · exact absurd c2_1 (by decide)
def po_X9_belowSecond_6 (g : GG)  : Int32 → va_W → Prop := fun (r : Int32) w => w = [] ∧ (5 = r)
set_option maxHeartbeats 1500000 in
set_option maxRecDepth 100000 in
theorem c_X9_belowSecond_6 (l : Launch) (g : GG)   (sz : Nat) : MetI l yX9_belowSecond wsX9_belowSecond ({ frames := 0, cells := 0, slots := 0, locals := 0 }) g [.int 4, .int 6] [] sz (po_X9_belowSecond_6 g ) 0 0 := by
  refine k_of (l := l) (y := yX9_belowSecond) (ws := wsX9_belowSecond) (rm := { frames := 0, cells := 0, slots := 0, locals := 0 }) (mc := 0) (ms := 0) (av := [.int 4, .int 6]) (g := g) (wc := []) (Qc := fun A => va_Qi (po_X9_belowSecond_6 g ) (bk g A) A) (cc := cX9_belowSecond) (maxL := 2) (ret := (some .int)) (by decide) rfl (Nat.le_of_ble_eq_true rfl) ?_ sz
  intro p e s m below meth c hx hb hr hts hown hlocks hnm hml A hA hE hZ hP hD hS ls hl
  have hown : s.vm.findClass RX9 = some m.cls := hown
  have hl : lv_has ls 2 [(0, .int 4), (1, .int 6)] := hl
  refine lv_iload_n hx hb dX9_belowSecond_0 rfl (lv_at hl 1 rfl) ?_
  refine lv_iload_n hx hb dX9_belowSecond_1 rfl (lv_at hl 0 rfl) ?_
  refine lv_icmp_ne (tgt := 9) hx hb dX9_belowSecond_2 (by decide) (fun c2_1 => ?_) (fun c2_1 => ?_)
  · skip
    refine lv_iload_n hx hb dX9_belowSecond_9 rfl (lv_at hl 0 rfl) ?_
    refine lv_iconst (v := 3) hx hb dX9_belowSecond_10 (by decide) ?_
    refine lv_icmp_ne (tgt := 18) hx hb dX9_belowSecond_11 (by decide) (fun c11_2 => ?_) (fun c11_2 => ?_)
    · skip
      refine lv_iload_n hx hb dX9_belowSecond_18 rfl (lv_at hl 1 rfl) ?_
      refine lv_iconst (v := 5) hx hb dX9_belowSecond_19 (by decide) ?_
      refine lv_icmp_ne (tgt := 27) hx hb dX9_belowSecond_20 (by decide) (fun c20_3 => ?_) (fun c20_3 => ?_)
      · skip
        refine lv_iconst (v := 5) hx hb dX9_belowSecond_27 (by decide) ?_
        refine W.widen (k := 0) (n := 0) (Nat.le_of_ble_eq_true rfl) (Nat.le_of_ble_eq_true rfl) ?_
        exact k_ri hx hb hr hlocks hS hP hD ⟨rfl, rfl⟩ dX9_belowSecond_28
      · exact absurd c20_3 (by decide)
    · exact absurd c11_2 (by decide)
  · exact absurd c2_1 (by decide)
def po_X9_least_0 (g : GG) (k0 : Nat) (m0 : Nat) (s1 : Int32) (s2 : Int32) (s3 : Int32) (s4 : Int32) (s5 : Int32) (s6 : Int32) (m7 : Nat) (m8 : Nat) (m9 : Nat) (s10 : Int32) (s11 : Int32) (s12 : Int32) (m13 : Nat) (m14 : Nat) (m15 : Nat) (s16 : Int32) (m17 : Nat) (m18 : Nat) (m19 : Nat) (m20 : Nat) (m21 : Nat) (m22 : Nat) (m23 : Nat) (m24 : Nat) (m25 : Nat) (m26 : Nat) (m27 : Nat) (m28 : Nat) (s29 : Int32) (m30 : Nat) (s31 : Int32) (s32 : Int32) (s33 : Int32) (s34 : Int32) (s35 : Int32) (m36 : Nat) (m37 : Nat) (m38 : Nat) (m39 : Nat) (s40 : Int64) (fc : Nat → Int32) (ab : Nat) : Int32 → va_W → Prop := fun (r : Int32) w => w = [(k0, .inr (9, [.ref m0, .int s1, .int s2, .int s3, .int s4, .int s5, .int s6, .ref m7, .ref m8, .ref m9, .int s10, .int s11, .int s12, .ref m13, .ref m14, .ref m15, .int s16, .ref m17, .ref m18, .ref m19, .ref m20, .ref m21, .ref m22, .ref m23, .ref m24, .ref m25, .ref m26, .ref m27, .ref m28, .int s29, .ref m30, .int s31, .int s32, .int s33, .int s34, .int s35, .ref m36, .ref m37, .ref m38, .ref m39, .long s40])), (m17, ai g 63 fc)] ∧ (ml (fun s => fc (0 + s) + cmo (nI s) (nI ab)) 9 = r)
theorem q_X9_least_0_f9 : ∀ w ∈ u_ws RX9 TX9 41, w ∈ wsX9_least := by decide +kernel
theorem q_X9_least_0_1 : (Cond.fieldLink RX9 31 "SoundLawsModel" "costs" "[I") ∈ wsX9_least := by decide +kernel
set_option maxHeartbeats 1500000 in
set_option maxRecDepth 100000 in
theorem c_X9_least_0 (l : Launch) (g : GG) (k0 : Nat) (m0 : Nat) (s1 : Int32) (s2 : Int32) (s3 : Int32) (s4 : Int32) (s5 : Int32) (s6 : Int32) (m7 : Nat) (m8 : Nat) (m9 : Nat) (s10 : Int32) (s11 : Int32) (s12 : Int32) (m13 : Nat) (m14 : Nat) (m15 : Nat) (s16 : Int32) (m17 : Nat) (m18 : Nat) (m19 : Nat) (m20 : Nat) (m21 : Nat) (m22 : Nat) (m23 : Nat) (m24 : Nat) (m25 : Nat) (m26 : Nat) (m27 : Nat) (m28 : Nat) (s29 : Int32) (m30 : Nat) (s31 : Int32) (s32 : Int32) (s33 : Int32) (s34 : Int32) (s35 : Int32) (m36 : Nat) (m37 : Nat) (m38 : Nat) (m39 : Nat) (s40 : Int64) (fc : Nat → Int32) (ab : Nat)  (sz : Nat) : MetI l yX9_least wsX9_least ({ frames := 3, cells := 0, slots := 0, locals := 66 }) g [.ref k0, .int 0, .int (nI ab)] [(k0, .inr (9, [.ref m0, .int s1, .int s2, .int s3, .int s4, .int s5, .int s6, .ref m7, .ref m8, .ref m9, .int s10, .int s11, .int s12, .ref m13, .ref m14, .ref m15, .int s16, .ref m17, .ref m18, .ref m19, .ref m20, .ref m21, .ref m22, .ref m23, .ref m24, .ref m25, .ref m26, .ref m27, .ref m28, .int s29, .ref m30, .int s31, .int s32, .int s33, .int s34, .int s35, .ref m36, .ref m37, .ref m38, .ref m39, .long s40])), (m17, ai g 63 fc)] sz (po_X9_least_0 g k0 m0 s1 s2 s3 s4 s5 s6 m7 m8 m9 s10 s11 s12 m13 m14 m15 s16 m17 m18 m19 m20 m21 m22 m23 m24 m25 m26 m27 m28 s29 m30 s31 s32 s33 s34 s35 m36 m37 m38 m39 s40 fc ab) 0 0 := by
  refine k_of (l := l) (y := yX9_least) (ws := wsX9_least) (rm := { frames := 3, cells := 0, slots := 0, locals := 66 }) (mc := 0) (ms := 0) (av := [.ref k0, .int 0, .int (nI ab)]) (g := g) (wc := [(k0, .inr (9, [.ref m0, .int s1, .int s2, .int s3, .int s4, .int s5, .int s6, .ref m7, .ref m8, .ref m9, .int s10, .int s11, .int s12, .ref m13, .ref m14, .ref m15, .int s16, .ref m17, .ref m18, .ref m19, .ref m20, .ref m21, .ref m22, .ref m23, .ref m24, .ref m25, .ref m26, .ref m27, .ref m28, .int s29, .ref m30, .int s31, .int s32, .int s33, .int s34, .int s35, .ref m36, .ref m37, .ref m38, .ref m39, .long s40])), (m17, ai g 63 fc)]) (Qc := fun A => va_Qi (po_X9_least_0 g k0 m0 s1 s2 s3 s4 s5 s6 m7 m8 m9 s10 s11 s12 m13 m14 m15 s16 m17 m18 m19 m20 m21 m22 m23 m24 m25 m26 m27 m28 s29 m30 s31 s32 s33 s34 s35 m36 m37 m38 m39 s40 fc ab) (bk g A) A) (cc := cX9_least) (maxL := 6) (ret := (some .int)) (by decide) rfl (Nat.le_of_ble_eq_true rfl) ?_ sz
  intro p e s m below meth c hx hb hr hts hown hlocks hnm hml A hA hE hZ hP hD hS ls hl
  have hown : s.vm.findClass RX9 = some m.cls := hown
  have hl : lv_has ls 6 [(0, .ref k0), (1, .int 0), (2, .int (nI ab))] := hl
  refine lv_sipush (v := 9999) hx hb dX9_least_0 (by decide) ?_
  refine lv_istore_n (lv' := [(3, .int 9999), (0, .ref k0), (1, .int 0), (2, .int (nI ab))]) hx hb dX9_least_3 rfl hl (by decide) rfl (fun ls hl => ?_)
  refine lv_iconst (v := 0) hx hb dX9_least_4 (by decide) ?_
  refine lv_istore (lv' := [(4, .int 0), (3, .int 9999), (0, .ref k0), (1, .int 0), (2, .int (nI ab))]) hx hb dX9_least_5 hl (by decide) rfl (fun ls hl => ?_)
  have loop7 : ∀ (fu : Nat) (j : Nat) (x3 : Int32), (hj : j ≤ 9) → (e3 : x3 = ml (fun s => fc (0 + s) + cmo (nI s) (nI ab)) j) → 9 - j < fu → ∀ (H : Heap) (locs : List Loc) (ls : Array Slot), va_P g.1 vwCl [(k0, .inr (9, [.ref m0, .int s1, .int s2, .int s3, .int s4, .int s5, .int s6, .ref m7, .ref m8, .ref m9, .int s10, .int s11, .int s12, .ref m13, .ref m14, .ref m15, .int s16, .ref m17, .ref m18, .ref m19, .ref m20, .ref m21, .ref m22, .ref m23, .ref m24, .ref m25, .ref m26, .ref m27, .ref m28, .int s29, .ref m30, .int s31, .int s32, .int s33, .int s34, .int s35, .ref m36, .ref m37, .ref m38, .ref m39, .long s40])), (m17, ai g 63 fc)] H → va_D A [(k0, .inr (9, [.ref m0, .int s1, .int s2, .int s3, .int s4, .int s5, .int s6, .ref m7, .ref m8, .ref m9, .int s10, .int s11, .int s12, .ref m13, .ref m14, .ref m15, .int s16, .ref m17, .ref m18, .ref m19, .ref m20, .ref m21, .ref m22, .ref m23, .ref m24, .ref m25, .ref m26, .ref m27, .ref m28, .int s29, .ref m30, .int s31, .int s32, .int s33, .int s34, .int s35, .ref m36, .ref m37, .ref m38, .ref m39, .long s40])), (m17, ai g 63 fc)] → va_S A s.heap H locs → lv_has ls 6 [(0, .ref k0), (1, .int 0), (2, .int (nI ab)), (3, .int x3), (4, .int (nI j))] → W p l e ({ frames := 3, cells := 0, slots := 0, locals := 66 }) s m [.ref k0, .int 0, .int (nI ab)].toArray below meth c H locs 0 0 (MQ below (va_Qi (po_X9_least_0 g k0 m0 s1 s2 s3 s4 s5 s6 m7 m8 m9 s10 s11 s12 m13 m14 m15 s16 m17 m18 m19 m20 m21 m22 m23 m24 m25 m26 m27 m28 s29 m30 s31 s32 s33 s34 s35 m36 m37 m38 m39 s40 fc ab) (bk g A) A) [.ref k0, .int 0, .int (nI ab)].toArray s 0 0 A) (F0 m 7 ls []) := by
    intro fu
    induction fu with
    | zero => intro j x3 hj e3 hfu; exact absurd hfu (Nat.not_lt_zero _)
    | succ fu ih =>
      intro j x3 hj e3 hfu H locs ls hP hD hS hl
      have ih7 := ih
      refine lv_iload hx hb dX9_least_7 (lv_at hl 4 rfl) ?_
      refine lv_bipush (v := 9) hx hb dX9_least_9 (by decide) ?_
      refine lv_icmp_ge (tgt := 54) hx hb dX9_least_11 (by decide) (fun c11_1 => ?_) (fun c11_1 => ?_)
      · skip
        have hj9 := ge_of_le (k := 9) (n := j) (by decide) (by omega) c11_1
        refine lv_iload_n hx hb dX9_least_54 rfl (lv_at hl 3 rfl) ?_
        refine W.widen (k := 0) (n := 0) (Nat.le_of_ble_eq_true rfl) (Nat.le_of_ble_eq_true rfl) ?_
        exact k_ri hx hb hr hlocks hS hP hD ⟨rfl, (by rw [e3, show j = 9 by omega])⟩ dX9_least_55
      · skip
        have hj9 := lt_of_nle (k := 9) (n := j) (by decide) (by omega) c11_1
        refine lv_aload_n hx hb dX9_least_14 rfl (lv_at hl 0 rfl) ?_
        refine va_get (D := g.1) (ci := 9) (v := .ref m17) (C := RX9) (T := TX9) (N := 41) hx hb hts q_X9_least_0_f9 hown hE.1 hP 0 rfl rfl 17 (by decide) (hts (.fieldLink RX9 31 "SoundLawsModel" "costs" "[I") q_X9_least_0_1) (fun _ h9 => h9) rfl dX9_least_15 ?_
        refine lv_bipush (v := 9) hx hb dX9_least_18 (by decide) ?_
        refine lv_iload_n hx hb dX9_least_20 rfl (lv_at hl 1 rfl) ?_
        refine lv_imul hx hb dX9_least_21 ?_
        refine lv_topi (fun x_2 ex_2 => ?_)
        obtain rfl : x_2 = 0 := ex_2.trans (by decide)
        refine lv_iload hx hb dX9_least_22 (lv_at hl 4 rfl) ?_
        refine lv_iadd hx hb dX9_least_24 ?_
        refine k_ald (0 + j) (by rw [show (0 : Int32) = nI 0 from rfl, nI_add]) (by omega) hx hb hE hP 1 rfl (by decide) dX9_least_25 ?_
        refine lv_iload hx hb dX9_least_26 (lv_at hl 4 rfl) ?_
        refine lv_iload_n hx hb dX9_least_28 rfl (lv_at hl 2 rfl) ?_
        refine k_ci (wr := [(k0, .inr (9, [.ref m0, .int s1, .int s2, .int s3, .int s4, .int s5, .int s6, .ref m7, .ref m8, .ref m9, .int s10, .int s11, .int s12, .ref m13, .ref m14, .ref m15, .int s16, .ref m17, .ref m18, .ref m19, .ref m20, .ref m21, .ref m22, .ref m23, .ref m24, .ref m25, .ref m26, .ref m27, .ref m28, .int s29, .ref m30, .int s31, .int s32, .int s33, .int s34, .int s35, .ref m36, .ref m37, .ref m38, .ref m39, .long s40])), (m17, ai g 63 fc)]) hP hD hS hA [] [0, 1] rfl rfl (by decide) (by decide) (va_runS (As := [.int (nI j), .int (nI ab)]) (rest := [.int (fc (0 + j))]) ⟨hx, hb, hml, hown, hts⟩ (c_X9_costOf l g (nI j) (nI ab)  H.size) (va_cwS 2 hts gX9_least_X9_costOf rfl rfl rfl (by decide +kernel) ⟨Nat.le_of_ble_eq_true rfl, Nat.le_of_ble_eq_true rfl⟩) (k_preS hE hZ hP hD hS hA [] rfl (by decide)) rfl rfl hl.1 rfl (lv_room (Nat.le_of_ble_eq_true rfl)) dX9_least_29 ⟨Nat.le_of_ble_eq_true rfl, Nat.le_of_ble_eq_true rfl⟩) (fun r_3 w1 H locs hw hP hD hS => ?_)
        obtain ⟨rfl, rfl⟩ := hw
        have hP : va_P g.1 vwCl [(k0, .inr (9, [.ref m0, .int s1, .int s2, .int s3, .int s4, .int s5, .int s6, .ref m7, .ref m8, .ref m9, .int s10, .int s11, .int s12, .ref m13, .ref m14, .ref m15, .int s16, .ref m17, .ref m18, .ref m19, .ref m20, .ref m21, .ref m22, .ref m23, .ref m24, .ref m25, .ref m26, .ref m27, .ref m28, .int s29, .ref m30, .int s31, .int s32, .int s33, .int s34, .int s35, .ref m36, .ref m37, .ref m38, .ref m39, .long s40])), (m17, ai g 63 fc)] H := hP
        have hD : va_D A [(k0, .inr (9, [.ref m0, .int s1, .int s2, .int s3, .int s4, .int s5, .int s6, .ref m7, .ref m8, .ref m9, .int s10, .int s11, .int s12, .ref m13, .ref m14, .ref m15, .int s16, .ref m17, .ref m18, .ref m19, .ref m20, .ref m21, .ref m22, .ref m23, .ref m24, .ref m25, .ref m26, .ref m27, .ref m28, .int s29, .ref m30, .int s31, .int s32, .int s33, .int s34, .int s35, .ref m36, .ref m37, .ref m38, .ref m39, .long s40])), (m17, ai g 63 fc)] := hD
        refine lv_iadd hx hb dX9_least_32 ?_
        refine lv_topi (fun x5 ex5 => ?_)
        refine lv_istore (lv' := [(5, .int x5), (0, .ref k0), (1, .int 0), (2, .int (nI ab)), (3, .int x3), (4, .int (nI j))]) hx hb dX9_least_33 hl (by decide) rfl (fun ls hl => ?_)
        refine lv_iload hx hb dX9_least_35 (lv_at hl 0 rfl) ?_
        refine lv_iload_n hx hb dX9_least_37 rfl (lv_at hl 4 rfl) ?_
        refine lv_icmp_ge (tgt := 46) hx hb dX9_least_38 (by decide) (fun c38_5 => ?_) (fun c38_5 => ?_)
        · skip
          refine lv_iload_n hx hb dX9_least_46 rfl (lv_at hl 4 rfl) ?_
          refine lv_istore_n (lv' := [(3, .int x3), (5, .int x5), (0, .ref k0), (1, .int 0), (2, .int (nI ab)), (4, .int (nI j))]) hx hb dX9_least_47 rfl hl (by decide) rfl (fun ls hl => ?_)
          refine lv_iinc (v := (nI (j + 1))) (lv' := [(4, .int (nI (j + 1))), (3, .int x3), (5, .int x5), (0, .ref k0), (1, .int 0), (2, .int (nI ab))]) hx hb dX9_least_48 hl (k := 5) rfl (nI_1 _) (by decide) rfl (fun ls hl => ?_)
          refine lv_goto (tgt := 7) hx hb dX9_least_51 (by decide) ?_
          exact ih7 (j + 1) x3 (by omega) (e3.trans (ml_f (f := (fun s => fc (0 + s) + cmo (nI s) (nI ab))) (by rw [← e3]; have h9 := i_nlt c38_5; rw [ex5] at h9; exact h9)).symm) (by omega) _ _ _ hP hD hS (lv_sub hl [3, 4, 5, 1, 0] rfl)
        · skip
          refine lv_iload hx hb dX9_least_41 (lv_at hl 0 rfl) ?_
          refine lv_goto (tgt := 47) hx hb dX9_least_43 (by decide) ?_
          refine lv_istore_n (lv' := [(3, .int x5), (5, .int x5), (0, .ref k0), (1, .int 0), (2, .int (nI ab)), (4, .int (nI j))]) hx hb dX9_least_47 rfl hl (by decide) rfl (fun ls hl => ?_)
          refine lv_iinc (v := (nI (j + 1))) (lv' := [(4, .int (nI (j + 1))), (3, .int x5), (5, .int x5), (0, .ref k0), (1, .int 0), (2, .int (nI ab))]) hx hb dX9_least_48 hl (k := 5) rfl (nI_1 _) (by decide) rfl (fun ls hl => ?_)
          refine lv_goto (tgt := 7) hx hb dX9_least_51 (by decide) ?_
          exact ih7 (j + 1) x5 (by omega) (ex5.trans (ml_t (f := (fun s => fc (0 + s) + cmo (nI s) (nI ab))) (by rw [← e3]; have h9 := i_nle c38_5; rw [ex5] at h9; exact h9)).symm) (by omega) _ _ _ hP hD hS (lv_sub hl [3, 4, 5, 1, 0] rfl)
  exact loop7 _ 0 9999 (Nat.zero_le 9) rfl (Nat.lt_succ_self _) _ _ _ hP hD hS (lv_sub hl [2, 3, 4, 1, 0] rfl)
def po_X9_least_1 (g : GG) (k0 : Nat) (m0 : Nat) (s1 : Int32) (s2 : Int32) (s3 : Int32) (s4 : Int32) (s5 : Int32) (s6 : Int32) (m7 : Nat) (m8 : Nat) (m9 : Nat) (s10 : Int32) (s11 : Int32) (s12 : Int32) (m13 : Nat) (m14 : Nat) (m15 : Nat) (s16 : Int32) (m17 : Nat) (m18 : Nat) (m19 : Nat) (m20 : Nat) (m21 : Nat) (m22 : Nat) (m23 : Nat) (m24 : Nat) (m25 : Nat) (m26 : Nat) (m27 : Nat) (m28 : Nat) (s29 : Int32) (m30 : Nat) (s31 : Int32) (s32 : Int32) (s33 : Int32) (s34 : Int32) (s35 : Int32) (m36 : Nat) (m37 : Nat) (m38 : Nat) (m39 : Nat) (s40 : Int64) (fc : Nat → Int32) (ab : Nat) : Int32 → va_W → Prop := fun (r : Int32) w => w = [(k0, .inr (9, [.ref m0, .int s1, .int s2, .int s3, .int s4, .int s5, .int s6, .ref m7, .ref m8, .ref m9, .int s10, .int s11, .int s12, .ref m13, .ref m14, .ref m15, .int s16, .ref m17, .ref m18, .ref m19, .ref m20, .ref m21, .ref m22, .ref m23, .ref m24, .ref m25, .ref m26, .ref m27, .ref m28, .int s29, .ref m30, .int s31, .int s32, .int s33, .int s34, .int s35, .ref m36, .ref m37, .ref m38, .ref m39, .long s40])), (m17, ai g 63 fc)] ∧ (ml (fun s => fc (9 + s) + cmo (nI s) (nI ab)) 9 = r)
theorem q_X9_least_1_f9 : ∀ w ∈ u_ws RX9 TX9 41, w ∈ wsX9_least := by decide +kernel
theorem q_X9_least_1_1 : (Cond.fieldLink RX9 31 "SoundLawsModel" "costs" "[I") ∈ wsX9_least := by decide +kernel
set_option maxHeartbeats 1500000 in
set_option maxRecDepth 100000 in
theorem c_X9_least_1 (l : Launch) (g : GG) (k0 : Nat) (m0 : Nat) (s1 : Int32) (s2 : Int32) (s3 : Int32) (s4 : Int32) (s5 : Int32) (s6 : Int32) (m7 : Nat) (m8 : Nat) (m9 : Nat) (s10 : Int32) (s11 : Int32) (s12 : Int32) (m13 : Nat) (m14 : Nat) (m15 : Nat) (s16 : Int32) (m17 : Nat) (m18 : Nat) (m19 : Nat) (m20 : Nat) (m21 : Nat) (m22 : Nat) (m23 : Nat) (m24 : Nat) (m25 : Nat) (m26 : Nat) (m27 : Nat) (m28 : Nat) (s29 : Int32) (m30 : Nat) (s31 : Int32) (s32 : Int32) (s33 : Int32) (s34 : Int32) (s35 : Int32) (m36 : Nat) (m37 : Nat) (m38 : Nat) (m39 : Nat) (s40 : Int64) (fc : Nat → Int32) (ab : Nat)  (sz : Nat) : MetI l yX9_least wsX9_least ({ frames := 3, cells := 0, slots := 0, locals := 66 }) g [.ref k0, .int 1, .int (nI ab)] [(k0, .inr (9, [.ref m0, .int s1, .int s2, .int s3, .int s4, .int s5, .int s6, .ref m7, .ref m8, .ref m9, .int s10, .int s11, .int s12, .ref m13, .ref m14, .ref m15, .int s16, .ref m17, .ref m18, .ref m19, .ref m20, .ref m21, .ref m22, .ref m23, .ref m24, .ref m25, .ref m26, .ref m27, .ref m28, .int s29, .ref m30, .int s31, .int s32, .int s33, .int s34, .int s35, .ref m36, .ref m37, .ref m38, .ref m39, .long s40])), (m17, ai g 63 fc)] sz (po_X9_least_1 g k0 m0 s1 s2 s3 s4 s5 s6 m7 m8 m9 s10 s11 s12 m13 m14 m15 s16 m17 m18 m19 m20 m21 m22 m23 m24 m25 m26 m27 m28 s29 m30 s31 s32 s33 s34 s35 m36 m37 m38 m39 s40 fc ab) 0 0 := by
  refine k_of (l := l) (y := yX9_least) (ws := wsX9_least) (rm := { frames := 3, cells := 0, slots := 0, locals := 66 }) (mc := 0) (ms := 0) (av := [.ref k0, .int 1, .int (nI ab)]) (g := g) (wc := [(k0, .inr (9, [.ref m0, .int s1, .int s2, .int s3, .int s4, .int s5, .int s6, .ref m7, .ref m8, .ref m9, .int s10, .int s11, .int s12, .ref m13, .ref m14, .ref m15, .int s16, .ref m17, .ref m18, .ref m19, .ref m20, .ref m21, .ref m22, .ref m23, .ref m24, .ref m25, .ref m26, .ref m27, .ref m28, .int s29, .ref m30, .int s31, .int s32, .int s33, .int s34, .int s35, .ref m36, .ref m37, .ref m38, .ref m39, .long s40])), (m17, ai g 63 fc)]) (Qc := fun A => va_Qi (po_X9_least_1 g k0 m0 s1 s2 s3 s4 s5 s6 m7 m8 m9 s10 s11 s12 m13 m14 m15 s16 m17 m18 m19 m20 m21 m22 m23 m24 m25 m26 m27 m28 s29 m30 s31 s32 s33 s34 s35 m36 m37 m38 m39 s40 fc ab) (bk g A) A) (cc := cX9_least) (maxL := 6) (ret := (some .int)) (by decide) rfl (Nat.le_of_ble_eq_true rfl) ?_ sz
  intro p e s m below meth c hx hb hr hts hown hlocks hnm hml A hA hE hZ hP hD hS ls hl
  have hown : s.vm.findClass RX9 = some m.cls := hown
  have hl : lv_has ls 6 [(0, .ref k0), (1, .int 1), (2, .int (nI ab))] := hl
  refine lv_sipush (v := 9999) hx hb dX9_least_0 (by decide) ?_
  refine lv_istore_n (lv' := [(3, .int 9999), (0, .ref k0), (1, .int 1), (2, .int (nI ab))]) hx hb dX9_least_3 rfl hl (by decide) rfl (fun ls hl => ?_)
  refine lv_iconst (v := 0) hx hb dX9_least_4 (by decide) ?_
  refine lv_istore (lv' := [(4, .int 0), (3, .int 9999), (0, .ref k0), (1, .int 1), (2, .int (nI ab))]) hx hb dX9_least_5 hl (by decide) rfl (fun ls hl => ?_)
  have loop7 : ∀ (fu : Nat) (j : Nat) (x3 : Int32), (hj : j ≤ 9) → (e3 : x3 = ml (fun s => fc (9 + s) + cmo (nI s) (nI ab)) j) → 9 - j < fu → ∀ (H : Heap) (locs : List Loc) (ls : Array Slot), va_P g.1 vwCl [(k0, .inr (9, [.ref m0, .int s1, .int s2, .int s3, .int s4, .int s5, .int s6, .ref m7, .ref m8, .ref m9, .int s10, .int s11, .int s12, .ref m13, .ref m14, .ref m15, .int s16, .ref m17, .ref m18, .ref m19, .ref m20, .ref m21, .ref m22, .ref m23, .ref m24, .ref m25, .ref m26, .ref m27, .ref m28, .int s29, .ref m30, .int s31, .int s32, .int s33, .int s34, .int s35, .ref m36, .ref m37, .ref m38, .ref m39, .long s40])), (m17, ai g 63 fc)] H → va_D A [(k0, .inr (9, [.ref m0, .int s1, .int s2, .int s3, .int s4, .int s5, .int s6, .ref m7, .ref m8, .ref m9, .int s10, .int s11, .int s12, .ref m13, .ref m14, .ref m15, .int s16, .ref m17, .ref m18, .ref m19, .ref m20, .ref m21, .ref m22, .ref m23, .ref m24, .ref m25, .ref m26, .ref m27, .ref m28, .int s29, .ref m30, .int s31, .int s32, .int s33, .int s34, .int s35, .ref m36, .ref m37, .ref m38, .ref m39, .long s40])), (m17, ai g 63 fc)] → va_S A s.heap H locs → lv_has ls 6 [(0, .ref k0), (1, .int 1), (2, .int (nI ab)), (3, .int x3), (4, .int (nI j))] → W p l e ({ frames := 3, cells := 0, slots := 0, locals := 66 }) s m [.ref k0, .int 1, .int (nI ab)].toArray below meth c H locs 0 0 (MQ below (va_Qi (po_X9_least_1 g k0 m0 s1 s2 s3 s4 s5 s6 m7 m8 m9 s10 s11 s12 m13 m14 m15 s16 m17 m18 m19 m20 m21 m22 m23 m24 m25 m26 m27 m28 s29 m30 s31 s32 s33 s34 s35 m36 m37 m38 m39 s40 fc ab) (bk g A) A) [.ref k0, .int 1, .int (nI ab)].toArray s 0 0 A) (F0 m 7 ls []) := by
    intro fu
    induction fu with
    | zero => intro j x3 hj e3 hfu; exact absurd hfu (Nat.not_lt_zero _)
    | succ fu ih =>
      intro j x3 hj e3 hfu H locs ls hP hD hS hl
      have ih7 := ih
      refine lv_iload hx hb dX9_least_7 (lv_at hl 4 rfl) ?_
      refine lv_bipush (v := 9) hx hb dX9_least_9 (by decide) ?_
      refine lv_icmp_ge (tgt := 54) hx hb dX9_least_11 (by decide) (fun c11_1 => ?_) (fun c11_1 => ?_)
      · skip
        have hj9 := ge_of_le (k := 9) (n := j) (by decide) (by omega) c11_1
        refine lv_iload_n hx hb dX9_least_54 rfl (lv_at hl 3 rfl) ?_
        refine W.widen (k := 0) (n := 0) (Nat.le_of_ble_eq_true rfl) (Nat.le_of_ble_eq_true rfl) ?_
        exact k_ri hx hb hr hlocks hS hP hD ⟨rfl, (by rw [e3, show j = 9 by omega])⟩ dX9_least_55
      · skip
        have hj9 := lt_of_nle (k := 9) (n := j) (by decide) (by omega) c11_1
        refine lv_aload_n hx hb dX9_least_14 rfl (lv_at hl 0 rfl) ?_
        refine va_get (D := g.1) (ci := 9) (v := .ref m17) (C := RX9) (T := TX9) (N := 41) hx hb hts q_X9_least_1_f9 hown hE.1 hP 0 rfl rfl 17 (by decide) (hts (.fieldLink RX9 31 "SoundLawsModel" "costs" "[I") q_X9_least_1_1) (fun _ h9 => h9) rfl dX9_least_15 ?_
        refine lv_bipush (v := 9) hx hb dX9_least_18 (by decide) ?_
        refine lv_iload_n hx hb dX9_least_20 rfl (lv_at hl 1 rfl) ?_
        refine lv_imul hx hb dX9_least_21 ?_
        refine lv_topi (fun x_2 ex_2 => ?_)
        obtain rfl : x_2 = 9 := ex_2.trans (by decide)
        refine lv_iload hx hb dX9_least_22 (lv_at hl 4 rfl) ?_
        refine lv_iadd hx hb dX9_least_24 ?_
        refine k_ald (9 + j) (by rw [show (9 : Int32) = nI 9 from rfl, nI_add]) (by omega) hx hb hE hP 1 rfl (by decide) dX9_least_25 ?_
        refine lv_iload hx hb dX9_least_26 (lv_at hl 4 rfl) ?_
        refine lv_iload_n hx hb dX9_least_28 rfl (lv_at hl 2 rfl) ?_
        refine k_ci (wr := [(k0, .inr (9, [.ref m0, .int s1, .int s2, .int s3, .int s4, .int s5, .int s6, .ref m7, .ref m8, .ref m9, .int s10, .int s11, .int s12, .ref m13, .ref m14, .ref m15, .int s16, .ref m17, .ref m18, .ref m19, .ref m20, .ref m21, .ref m22, .ref m23, .ref m24, .ref m25, .ref m26, .ref m27, .ref m28, .int s29, .ref m30, .int s31, .int s32, .int s33, .int s34, .int s35, .ref m36, .ref m37, .ref m38, .ref m39, .long s40])), (m17, ai g 63 fc)]) hP hD hS hA [] [0, 1] rfl rfl (by decide) (by decide) (va_runS (As := [.int (nI j), .int (nI ab)]) (rest := [.int (fc (9 + j))]) ⟨hx, hb, hml, hown, hts⟩ (c_X9_costOf l g (nI j) (nI ab)  H.size) (va_cwS 2 hts gX9_least_X9_costOf rfl rfl rfl (by decide +kernel) ⟨Nat.le_of_ble_eq_true rfl, Nat.le_of_ble_eq_true rfl⟩) (k_preS hE hZ hP hD hS hA [] rfl (by decide)) rfl rfl hl.1 rfl (lv_room (Nat.le_of_ble_eq_true rfl)) dX9_least_29 ⟨Nat.le_of_ble_eq_true rfl, Nat.le_of_ble_eq_true rfl⟩) (fun r_3 w1 H locs hw hP hD hS => ?_)
        obtain ⟨rfl, rfl⟩ := hw
        have hP : va_P g.1 vwCl [(k0, .inr (9, [.ref m0, .int s1, .int s2, .int s3, .int s4, .int s5, .int s6, .ref m7, .ref m8, .ref m9, .int s10, .int s11, .int s12, .ref m13, .ref m14, .ref m15, .int s16, .ref m17, .ref m18, .ref m19, .ref m20, .ref m21, .ref m22, .ref m23, .ref m24, .ref m25, .ref m26, .ref m27, .ref m28, .int s29, .ref m30, .int s31, .int s32, .int s33, .int s34, .int s35, .ref m36, .ref m37, .ref m38, .ref m39, .long s40])), (m17, ai g 63 fc)] H := hP
        have hD : va_D A [(k0, .inr (9, [.ref m0, .int s1, .int s2, .int s3, .int s4, .int s5, .int s6, .ref m7, .ref m8, .ref m9, .int s10, .int s11, .int s12, .ref m13, .ref m14, .ref m15, .int s16, .ref m17, .ref m18, .ref m19, .ref m20, .ref m21, .ref m22, .ref m23, .ref m24, .ref m25, .ref m26, .ref m27, .ref m28, .int s29, .ref m30, .int s31, .int s32, .int s33, .int s34, .int s35, .ref m36, .ref m37, .ref m38, .ref m39, .long s40])), (m17, ai g 63 fc)] := hD
        refine lv_iadd hx hb dX9_least_32 ?_
        refine lv_topi (fun x5 ex5 => ?_)
        refine lv_istore (lv' := [(5, .int x5), (0, .ref k0), (1, .int 1), (2, .int (nI ab)), (3, .int x3), (4, .int (nI j))]) hx hb dX9_least_33 hl (by decide) rfl (fun ls hl => ?_)
        refine lv_iload hx hb dX9_least_35 (lv_at hl 0 rfl) ?_
        refine lv_iload_n hx hb dX9_least_37 rfl (lv_at hl 4 rfl) ?_
        refine lv_icmp_ge (tgt := 46) hx hb dX9_least_38 (by decide) (fun c38_5 => ?_) (fun c38_5 => ?_)
        · skip
          refine lv_iload_n hx hb dX9_least_46 rfl (lv_at hl 4 rfl) ?_
          refine lv_istore_n (lv' := [(3, .int x3), (5, .int x5), (0, .ref k0), (1, .int 1), (2, .int (nI ab)), (4, .int (nI j))]) hx hb dX9_least_47 rfl hl (by decide) rfl (fun ls hl => ?_)
          refine lv_iinc (v := (nI (j + 1))) (lv' := [(4, .int (nI (j + 1))), (3, .int x3), (5, .int x5), (0, .ref k0), (1, .int 1), (2, .int (nI ab))]) hx hb dX9_least_48 hl (k := 5) rfl (nI_1 _) (by decide) rfl (fun ls hl => ?_)
          refine lv_goto (tgt := 7) hx hb dX9_least_51 (by decide) ?_
          exact ih7 (j + 1) x3 (by omega) (e3.trans (ml_f (f := (fun s => fc (9 + s) + cmo (nI s) (nI ab))) (by rw [← e3]; have h9 := i_nlt c38_5; rw [ex5] at h9; exact h9)).symm) (by omega) _ _ _ hP hD hS (lv_sub hl [3, 4, 5, 1, 0] rfl)
        · skip
          refine lv_iload hx hb dX9_least_41 (lv_at hl 0 rfl) ?_
          refine lv_goto (tgt := 47) hx hb dX9_least_43 (by decide) ?_
          refine lv_istore_n (lv' := [(3, .int x5), (5, .int x5), (0, .ref k0), (1, .int 1), (2, .int (nI ab)), (4, .int (nI j))]) hx hb dX9_least_47 rfl hl (by decide) rfl (fun ls hl => ?_)
          refine lv_iinc (v := (nI (j + 1))) (lv' := [(4, .int (nI (j + 1))), (3, .int x5), (5, .int x5), (0, .ref k0), (1, .int 1), (2, .int (nI ab))]) hx hb dX9_least_48 hl (k := 5) rfl (nI_1 _) (by decide) rfl (fun ls hl => ?_)
          refine lv_goto (tgt := 7) hx hb dX9_least_51 (by decide) ?_
          exact ih7 (j + 1) x5 (by omega) (ex5.trans (ml_t (f := (fun s => fc (9 + s) + cmo (nI s) (nI ab))) (by rw [← e3]; have h9 := i_nle c38_5; rw [ex5] at h9; exact h9)).symm) (by omega) _ _ _ hP hD hS (lv_sub hl [3, 4, 5, 1, 0] rfl)
  exact loop7 _ 0 9999 (Nat.zero_le 9) rfl (Nat.lt_succ_self _) _ _ _ hP hD hS (lv_sub hl [2, 3, 4, 1, 0] rfl)
def po_X9_least_2 (g : GG) (k0 : Nat) (m0 : Nat) (s1 : Int32) (s2 : Int32) (s3 : Int32) (s4 : Int32) (s5 : Int32) (s6 : Int32) (m7 : Nat) (m8 : Nat) (m9 : Nat) (s10 : Int32) (s11 : Int32) (s12 : Int32) (m13 : Nat) (m14 : Nat) (m15 : Nat) (s16 : Int32) (m17 : Nat) (m18 : Nat) (m19 : Nat) (m20 : Nat) (m21 : Nat) (m22 : Nat) (m23 : Nat) (m24 : Nat) (m25 : Nat) (m26 : Nat) (m27 : Nat) (m28 : Nat) (s29 : Int32) (m30 : Nat) (s31 : Int32) (s32 : Int32) (s33 : Int32) (s34 : Int32) (s35 : Int32) (m36 : Nat) (m37 : Nat) (m38 : Nat) (m39 : Nat) (s40 : Int64) (fc : Nat → Int32) (ab : Nat) : Int32 → va_W → Prop := fun (r : Int32) w => w = [(k0, .inr (9, [.ref m0, .int s1, .int s2, .int s3, .int s4, .int s5, .int s6, .ref m7, .ref m8, .ref m9, .int s10, .int s11, .int s12, .ref m13, .ref m14, .ref m15, .int s16, .ref m17, .ref m18, .ref m19, .ref m20, .ref m21, .ref m22, .ref m23, .ref m24, .ref m25, .ref m26, .ref m27, .ref m28, .int s29, .ref m30, .int s31, .int s32, .int s33, .int s34, .int s35, .ref m36, .ref m37, .ref m38, .ref m39, .long s40])), (m17, ai g 63 fc)] ∧ (ml (fun s => fc (18 + s) + cmo (nI s) (nI ab)) 9 = r)
theorem q_X9_least_2_f9 : ∀ w ∈ u_ws RX9 TX9 41, w ∈ wsX9_least := by decide +kernel
theorem q_X9_least_2_1 : (Cond.fieldLink RX9 31 "SoundLawsModel" "costs" "[I") ∈ wsX9_least := by decide +kernel
set_option maxHeartbeats 1500000 in
set_option maxRecDepth 100000 in
theorem c_X9_least_2 (l : Launch) (g : GG) (k0 : Nat) (m0 : Nat) (s1 : Int32) (s2 : Int32) (s3 : Int32) (s4 : Int32) (s5 : Int32) (s6 : Int32) (m7 : Nat) (m8 : Nat) (m9 : Nat) (s10 : Int32) (s11 : Int32) (s12 : Int32) (m13 : Nat) (m14 : Nat) (m15 : Nat) (s16 : Int32) (m17 : Nat) (m18 : Nat) (m19 : Nat) (m20 : Nat) (m21 : Nat) (m22 : Nat) (m23 : Nat) (m24 : Nat) (m25 : Nat) (m26 : Nat) (m27 : Nat) (m28 : Nat) (s29 : Int32) (m30 : Nat) (s31 : Int32) (s32 : Int32) (s33 : Int32) (s34 : Int32) (s35 : Int32) (m36 : Nat) (m37 : Nat) (m38 : Nat) (m39 : Nat) (s40 : Int64) (fc : Nat → Int32) (ab : Nat)  (sz : Nat) : MetI l yX9_least wsX9_least ({ frames := 3, cells := 0, slots := 0, locals := 66 }) g [.ref k0, .int 2, .int (nI ab)] [(k0, .inr (9, [.ref m0, .int s1, .int s2, .int s3, .int s4, .int s5, .int s6, .ref m7, .ref m8, .ref m9, .int s10, .int s11, .int s12, .ref m13, .ref m14, .ref m15, .int s16, .ref m17, .ref m18, .ref m19, .ref m20, .ref m21, .ref m22, .ref m23, .ref m24, .ref m25, .ref m26, .ref m27, .ref m28, .int s29, .ref m30, .int s31, .int s32, .int s33, .int s34, .int s35, .ref m36, .ref m37, .ref m38, .ref m39, .long s40])), (m17, ai g 63 fc)] sz (po_X9_least_2 g k0 m0 s1 s2 s3 s4 s5 s6 m7 m8 m9 s10 s11 s12 m13 m14 m15 s16 m17 m18 m19 m20 m21 m22 m23 m24 m25 m26 m27 m28 s29 m30 s31 s32 s33 s34 s35 m36 m37 m38 m39 s40 fc ab) 0 0 := by
  refine k_of (l := l) (y := yX9_least) (ws := wsX9_least) (rm := { frames := 3, cells := 0, slots := 0, locals := 66 }) (mc := 0) (ms := 0) (av := [.ref k0, .int 2, .int (nI ab)]) (g := g) (wc := [(k0, .inr (9, [.ref m0, .int s1, .int s2, .int s3, .int s4, .int s5, .int s6, .ref m7, .ref m8, .ref m9, .int s10, .int s11, .int s12, .ref m13, .ref m14, .ref m15, .int s16, .ref m17, .ref m18, .ref m19, .ref m20, .ref m21, .ref m22, .ref m23, .ref m24, .ref m25, .ref m26, .ref m27, .ref m28, .int s29, .ref m30, .int s31, .int s32, .int s33, .int s34, .int s35, .ref m36, .ref m37, .ref m38, .ref m39, .long s40])), (m17, ai g 63 fc)]) (Qc := fun A => va_Qi (po_X9_least_2 g k0 m0 s1 s2 s3 s4 s5 s6 m7 m8 m9 s10 s11 s12 m13 m14 m15 s16 m17 m18 m19 m20 m21 m22 m23 m24 m25 m26 m27 m28 s29 m30 s31 s32 s33 s34 s35 m36 m37 m38 m39 s40 fc ab) (bk g A) A) (cc := cX9_least) (maxL := 6) (ret := (some .int)) (by decide) rfl (Nat.le_of_ble_eq_true rfl) ?_ sz
  intro p e s m below meth c hx hb hr hts hown hlocks hnm hml A hA hE hZ hP hD hS ls hl
  have hown : s.vm.findClass RX9 = some m.cls := hown
  have hl : lv_has ls 6 [(0, .ref k0), (1, .int 2), (2, .int (nI ab))] := hl
  refine lv_sipush (v := 9999) hx hb dX9_least_0 (by decide) ?_
  refine lv_istore_n (lv' := [(3, .int 9999), (0, .ref k0), (1, .int 2), (2, .int (nI ab))]) hx hb dX9_least_3 rfl hl (by decide) rfl (fun ls hl => ?_)
  refine lv_iconst (v := 0) hx hb dX9_least_4 (by decide) ?_
  refine lv_istore (lv' := [(4, .int 0), (3, .int 9999), (0, .ref k0), (1, .int 2), (2, .int (nI ab))]) hx hb dX9_least_5 hl (by decide) rfl (fun ls hl => ?_)
  have loop7 : ∀ (fu : Nat) (j : Nat) (x3 : Int32), (hj : j ≤ 9) → (e3 : x3 = ml (fun s => fc (18 + s) + cmo (nI s) (nI ab)) j) → 9 - j < fu → ∀ (H : Heap) (locs : List Loc) (ls : Array Slot), va_P g.1 vwCl [(k0, .inr (9, [.ref m0, .int s1, .int s2, .int s3, .int s4, .int s5, .int s6, .ref m7, .ref m8, .ref m9, .int s10, .int s11, .int s12, .ref m13, .ref m14, .ref m15, .int s16, .ref m17, .ref m18, .ref m19, .ref m20, .ref m21, .ref m22, .ref m23, .ref m24, .ref m25, .ref m26, .ref m27, .ref m28, .int s29, .ref m30, .int s31, .int s32, .int s33, .int s34, .int s35, .ref m36, .ref m37, .ref m38, .ref m39, .long s40])), (m17, ai g 63 fc)] H → va_D A [(k0, .inr (9, [.ref m0, .int s1, .int s2, .int s3, .int s4, .int s5, .int s6, .ref m7, .ref m8, .ref m9, .int s10, .int s11, .int s12, .ref m13, .ref m14, .ref m15, .int s16, .ref m17, .ref m18, .ref m19, .ref m20, .ref m21, .ref m22, .ref m23, .ref m24, .ref m25, .ref m26, .ref m27, .ref m28, .int s29, .ref m30, .int s31, .int s32, .int s33, .int s34, .int s35, .ref m36, .ref m37, .ref m38, .ref m39, .long s40])), (m17, ai g 63 fc)] → va_S A s.heap H locs → lv_has ls 6 [(0, .ref k0), (1, .int 2), (2, .int (nI ab)), (3, .int x3), (4, .int (nI j))] → W p l e ({ frames := 3, cells := 0, slots := 0, locals := 66 }) s m [.ref k0, .int 2, .int (nI ab)].toArray below meth c H locs 0 0 (MQ below (va_Qi (po_X9_least_2 g k0 m0 s1 s2 s3 s4 s5 s6 m7 m8 m9 s10 s11 s12 m13 m14 m15 s16 m17 m18 m19 m20 m21 m22 m23 m24 m25 m26 m27 m28 s29 m30 s31 s32 s33 s34 s35 m36 m37 m38 m39 s40 fc ab) (bk g A) A) [.ref k0, .int 2, .int (nI ab)].toArray s 0 0 A) (F0 m 7 ls []) := by
    intro fu
    induction fu with
    | zero => intro j x3 hj e3 hfu; exact absurd hfu (Nat.not_lt_zero _)
    | succ fu ih =>
      intro j x3 hj e3 hfu H locs ls hP hD hS hl
      have ih7 := ih
      refine lv_iload hx hb dX9_least_7 (lv_at hl 4 rfl) ?_
      refine lv_bipush (v := 9) hx hb dX9_least_9 (by decide) ?_
      refine lv_icmp_ge (tgt := 54) hx hb dX9_least_11 (by decide) (fun c11_1 => ?_) (fun c11_1 => ?_)
      · skip
        have hj9 := ge_of_le (k := 9) (n := j) (by decide) (by omega) c11_1
        refine lv_iload_n hx hb dX9_least_54 rfl (lv_at hl 3 rfl) ?_
        refine W.widen (k := 0) (n := 0) (Nat.le_of_ble_eq_true rfl) (Nat.le_of_ble_eq_true rfl) ?_
        exact k_ri hx hb hr hlocks hS hP hD ⟨rfl, (by rw [e3, show j = 9 by omega])⟩ dX9_least_55
      · skip
        have hj9 := lt_of_nle (k := 9) (n := j) (by decide) (by omega) c11_1
        refine lv_aload_n hx hb dX9_least_14 rfl (lv_at hl 0 rfl) ?_
        refine va_get (D := g.1) (ci := 9) (v := .ref m17) (C := RX9) (T := TX9) (N := 41) hx hb hts q_X9_least_2_f9 hown hE.1 hP 0 rfl rfl 17 (by decide) (hts (.fieldLink RX9 31 "SoundLawsModel" "costs" "[I") q_X9_least_2_1) (fun _ h9 => h9) rfl dX9_least_15 ?_
        refine lv_bipush (v := 9) hx hb dX9_least_18 (by decide) ?_
        refine lv_iload_n hx hb dX9_least_20 rfl (lv_at hl 1 rfl) ?_
        refine lv_imul hx hb dX9_least_21 ?_
        refine lv_topi (fun x_2 ex_2 => ?_)
        obtain rfl : x_2 = 18 := ex_2.trans (by decide)
        refine lv_iload hx hb dX9_least_22 (lv_at hl 4 rfl) ?_
        refine lv_iadd hx hb dX9_least_24 ?_
        refine k_ald (18 + j) (by rw [show (18 : Int32) = nI 18 from rfl, nI_add]) (by omega) hx hb hE hP 1 rfl (by decide) dX9_least_25 ?_
        refine lv_iload hx hb dX9_least_26 (lv_at hl 4 rfl) ?_
        refine lv_iload_n hx hb dX9_least_28 rfl (lv_at hl 2 rfl) ?_
        refine k_ci (wr := [(k0, .inr (9, [.ref m0, .int s1, .int s2, .int s3, .int s4, .int s5, .int s6, .ref m7, .ref m8, .ref m9, .int s10, .int s11, .int s12, .ref m13, .ref m14, .ref m15, .int s16, .ref m17, .ref m18, .ref m19, .ref m20, .ref m21, .ref m22, .ref m23, .ref m24, .ref m25, .ref m26, .ref m27, .ref m28, .int s29, .ref m30, .int s31, .int s32, .int s33, .int s34, .int s35, .ref m36, .ref m37, .ref m38, .ref m39, .long s40])), (m17, ai g 63 fc)]) hP hD hS hA [] [0, 1] rfl rfl (by decide) (by decide) (va_runS (As := [.int (nI j), .int (nI ab)]) (rest := [.int (fc (18 + j))]) ⟨hx, hb, hml, hown, hts⟩ (c_X9_costOf l g (nI j) (nI ab)  H.size) (va_cwS 2 hts gX9_least_X9_costOf rfl rfl rfl (by decide +kernel) ⟨Nat.le_of_ble_eq_true rfl, Nat.le_of_ble_eq_true rfl⟩) (k_preS hE hZ hP hD hS hA [] rfl (by decide)) rfl rfl hl.1 rfl (lv_room (Nat.le_of_ble_eq_true rfl)) dX9_least_29 ⟨Nat.le_of_ble_eq_true rfl, Nat.le_of_ble_eq_true rfl⟩) (fun r_3 w1 H locs hw hP hD hS => ?_)
        obtain ⟨rfl, rfl⟩ := hw
        have hP : va_P g.1 vwCl [(k0, .inr (9, [.ref m0, .int s1, .int s2, .int s3, .int s4, .int s5, .int s6, .ref m7, .ref m8, .ref m9, .int s10, .int s11, .int s12, .ref m13, .ref m14, .ref m15, .int s16, .ref m17, .ref m18, .ref m19, .ref m20, .ref m21, .ref m22, .ref m23, .ref m24, .ref m25, .ref m26, .ref m27, .ref m28, .int s29, .ref m30, .int s31, .int s32, .int s33, .int s34, .int s35, .ref m36, .ref m37, .ref m38, .ref m39, .long s40])), (m17, ai g 63 fc)] H := hP
        have hD : va_D A [(k0, .inr (9, [.ref m0, .int s1, .int s2, .int s3, .int s4, .int s5, .int s6, .ref m7, .ref m8, .ref m9, .int s10, .int s11, .int s12, .ref m13, .ref m14, .ref m15, .int s16, .ref m17, .ref m18, .ref m19, .ref m20, .ref m21, .ref m22, .ref m23, .ref m24, .ref m25, .ref m26, .ref m27, .ref m28, .int s29, .ref m30, .int s31, .int s32, .int s33, .int s34, .int s35, .ref m36, .ref m37, .ref m38, .ref m39, .long s40])), (m17, ai g 63 fc)] := hD
        refine lv_iadd hx hb dX9_least_32 ?_
        refine lv_topi (fun x5 ex5 => ?_)
        refine lv_istore (lv' := [(5, .int x5), (0, .ref k0), (1, .int 2), (2, .int (nI ab)), (3, .int x3), (4, .int (nI j))]) hx hb dX9_least_33 hl (by decide) rfl (fun ls hl => ?_)
        refine lv_iload hx hb dX9_least_35 (lv_at hl 0 rfl) ?_
        refine lv_iload_n hx hb dX9_least_37 rfl (lv_at hl 4 rfl) ?_
        refine lv_icmp_ge (tgt := 46) hx hb dX9_least_38 (by decide) (fun c38_5 => ?_) (fun c38_5 => ?_)
        · skip
          refine lv_iload_n hx hb dX9_least_46 rfl (lv_at hl 4 rfl) ?_
          refine lv_istore_n (lv' := [(3, .int x3), (5, .int x5), (0, .ref k0), (1, .int 2), (2, .int (nI ab)), (4, .int (nI j))]) hx hb dX9_least_47 rfl hl (by decide) rfl (fun ls hl => ?_)
          refine lv_iinc (v := (nI (j + 1))) (lv' := [(4, .int (nI (j + 1))), (3, .int x3), (5, .int x5), (0, .ref k0), (1, .int 2), (2, .int (nI ab))]) hx hb dX9_least_48 hl (k := 5) rfl (nI_1 _) (by decide) rfl (fun ls hl => ?_)
          refine lv_goto (tgt := 7) hx hb dX9_least_51 (by decide) ?_
          exact ih7 (j + 1) x3 (by omega) (e3.trans (ml_f (f := (fun s => fc (18 + s) + cmo (nI s) (nI ab))) (by rw [← e3]; have h9 := i_nlt c38_5; rw [ex5] at h9; exact h9)).symm) (by omega) _ _ _ hP hD hS (lv_sub hl [3, 4, 5, 1, 0] rfl)
        · skip
          refine lv_iload hx hb dX9_least_41 (lv_at hl 0 rfl) ?_
          refine lv_goto (tgt := 47) hx hb dX9_least_43 (by decide) ?_
          refine lv_istore_n (lv' := [(3, .int x5), (5, .int x5), (0, .ref k0), (1, .int 2), (2, .int (nI ab)), (4, .int (nI j))]) hx hb dX9_least_47 rfl hl (by decide) rfl (fun ls hl => ?_)
          refine lv_iinc (v := (nI (j + 1))) (lv' := [(4, .int (nI (j + 1))), (3, .int x5), (5, .int x5), (0, .ref k0), (1, .int 2), (2, .int (nI ab))]) hx hb dX9_least_48 hl (k := 5) rfl (nI_1 _) (by decide) rfl (fun ls hl => ?_)
          refine lv_goto (tgt := 7) hx hb dX9_least_51 (by decide) ?_
          exact ih7 (j + 1) x5 (by omega) (ex5.trans (ml_t (f := (fun s => fc (18 + s) + cmo (nI s) (nI ab))) (by rw [← e3]; have h9 := i_nle c38_5; rw [ex5] at h9; exact h9)).symm) (by omega) _ _ _ hP hD hS (lv_sub hl [3, 4, 5, 1, 0] rfl)
  exact loop7 _ 0 9999 (Nat.zero_le 9) rfl (Nat.lt_succ_self _) _ _ _ hP hD hS (lv_sub hl [2, 3, 4, 1, 0] rfl)
def po_X9_least_3 (g : GG) (k0 : Nat) (m0 : Nat) (s1 : Int32) (s2 : Int32) (s3 : Int32) (s4 : Int32) (s5 : Int32) (s6 : Int32) (m7 : Nat) (m8 : Nat) (m9 : Nat) (s10 : Int32) (s11 : Int32) (s12 : Int32) (m13 : Nat) (m14 : Nat) (m15 : Nat) (s16 : Int32) (m17 : Nat) (m18 : Nat) (m19 : Nat) (m20 : Nat) (m21 : Nat) (m22 : Nat) (m23 : Nat) (m24 : Nat) (m25 : Nat) (m26 : Nat) (m27 : Nat) (m28 : Nat) (s29 : Int32) (m30 : Nat) (s31 : Int32) (s32 : Int32) (s33 : Int32) (s34 : Int32) (s35 : Int32) (m36 : Nat) (m37 : Nat) (m38 : Nat) (m39 : Nat) (s40 : Int64) (fc : Nat → Int32) (ab : Nat) : Int32 → va_W → Prop := fun (r : Int32) w => w = [(k0, .inr (9, [.ref m0, .int s1, .int s2, .int s3, .int s4, .int s5, .int s6, .ref m7, .ref m8, .ref m9, .int s10, .int s11, .int s12, .ref m13, .ref m14, .ref m15, .int s16, .ref m17, .ref m18, .ref m19, .ref m20, .ref m21, .ref m22, .ref m23, .ref m24, .ref m25, .ref m26, .ref m27, .ref m28, .int s29, .ref m30, .int s31, .int s32, .int s33, .int s34, .int s35, .ref m36, .ref m37, .ref m38, .ref m39, .long s40])), (m17, ai g 63 fc)] ∧ (ml (fun s => fc (27 + s) + cmo (nI s) (nI ab)) 9 = r)
theorem q_X9_least_3_f9 : ∀ w ∈ u_ws RX9 TX9 41, w ∈ wsX9_least := by decide +kernel
theorem q_X9_least_3_1 : (Cond.fieldLink RX9 31 "SoundLawsModel" "costs" "[I") ∈ wsX9_least := by decide +kernel
set_option maxHeartbeats 1500000 in
set_option maxRecDepth 100000 in
theorem c_X9_least_3 (l : Launch) (g : GG) (k0 : Nat) (m0 : Nat) (s1 : Int32) (s2 : Int32) (s3 : Int32) (s4 : Int32) (s5 : Int32) (s6 : Int32) (m7 : Nat) (m8 : Nat) (m9 : Nat) (s10 : Int32) (s11 : Int32) (s12 : Int32) (m13 : Nat) (m14 : Nat) (m15 : Nat) (s16 : Int32) (m17 : Nat) (m18 : Nat) (m19 : Nat) (m20 : Nat) (m21 : Nat) (m22 : Nat) (m23 : Nat) (m24 : Nat) (m25 : Nat) (m26 : Nat) (m27 : Nat) (m28 : Nat) (s29 : Int32) (m30 : Nat) (s31 : Int32) (s32 : Int32) (s33 : Int32) (s34 : Int32) (s35 : Int32) (m36 : Nat) (m37 : Nat) (m38 : Nat) (m39 : Nat) (s40 : Int64) (fc : Nat → Int32) (ab : Nat)  (sz : Nat) : MetI l yX9_least wsX9_least ({ frames := 3, cells := 0, slots := 0, locals := 66 }) g [.ref k0, .int 3, .int (nI ab)] [(k0, .inr (9, [.ref m0, .int s1, .int s2, .int s3, .int s4, .int s5, .int s6, .ref m7, .ref m8, .ref m9, .int s10, .int s11, .int s12, .ref m13, .ref m14, .ref m15, .int s16, .ref m17, .ref m18, .ref m19, .ref m20, .ref m21, .ref m22, .ref m23, .ref m24, .ref m25, .ref m26, .ref m27, .ref m28, .int s29, .ref m30, .int s31, .int s32, .int s33, .int s34, .int s35, .ref m36, .ref m37, .ref m38, .ref m39, .long s40])), (m17, ai g 63 fc)] sz (po_X9_least_3 g k0 m0 s1 s2 s3 s4 s5 s6 m7 m8 m9 s10 s11 s12 m13 m14 m15 s16 m17 m18 m19 m20 m21 m22 m23 m24 m25 m26 m27 m28 s29 m30 s31 s32 s33 s34 s35 m36 m37 m38 m39 s40 fc ab) 0 0 := by
  refine k_of (l := l) (y := yX9_least) (ws := wsX9_least) (rm := { frames := 3, cells := 0, slots := 0, locals := 66 }) (mc := 0) (ms := 0) (av := [.ref k0, .int 3, .int (nI ab)]) (g := g) (wc := [(k0, .inr (9, [.ref m0, .int s1, .int s2, .int s3, .int s4, .int s5, .int s6, .ref m7, .ref m8, .ref m9, .int s10, .int s11, .int s12, .ref m13, .ref m14, .ref m15, .int s16, .ref m17, .ref m18, .ref m19, .ref m20, .ref m21, .ref m22, .ref m23, .ref m24, .ref m25, .ref m26, .ref m27, .ref m28, .int s29, .ref m30, .int s31, .int s32, .int s33, .int s34, .int s35, .ref m36, .ref m37, .ref m38, .ref m39, .long s40])), (m17, ai g 63 fc)]) (Qc := fun A => va_Qi (po_X9_least_3 g k0 m0 s1 s2 s3 s4 s5 s6 m7 m8 m9 s10 s11 s12 m13 m14 m15 s16 m17 m18 m19 m20 m21 m22 m23 m24 m25 m26 m27 m28 s29 m30 s31 s32 s33 s34 s35 m36 m37 m38 m39 s40 fc ab) (bk g A) A) (cc := cX9_least) (maxL := 6) (ret := (some .int)) (by decide) rfl (Nat.le_of_ble_eq_true rfl) ?_ sz
  intro p e s m below meth c hx hb hr hts hown hlocks hnm hml A hA hE hZ hP hD hS ls hl
  have hown : s.vm.findClass RX9 = some m.cls := hown
  have hl : lv_has ls 6 [(0, .ref k0), (1, .int 3), (2, .int (nI ab))] := hl
  refine lv_sipush (v := 9999) hx hb dX9_least_0 (by decide) ?_
  refine lv_istore_n (lv' := [(3, .int 9999), (0, .ref k0), (1, .int 3), (2, .int (nI ab))]) hx hb dX9_least_3 rfl hl (by decide) rfl (fun ls hl => ?_)
  refine lv_iconst (v := 0) hx hb dX9_least_4 (by decide) ?_
  refine lv_istore (lv' := [(4, .int 0), (3, .int 9999), (0, .ref k0), (1, .int 3), (2, .int (nI ab))]) hx hb dX9_least_5 hl (by decide) rfl (fun ls hl => ?_)
  have loop7 : ∀ (fu : Nat) (j : Nat) (x3 : Int32), (hj : j ≤ 9) → (e3 : x3 = ml (fun s => fc (27 + s) + cmo (nI s) (nI ab)) j) → 9 - j < fu → ∀ (H : Heap) (locs : List Loc) (ls : Array Slot), va_P g.1 vwCl [(k0, .inr (9, [.ref m0, .int s1, .int s2, .int s3, .int s4, .int s5, .int s6, .ref m7, .ref m8, .ref m9, .int s10, .int s11, .int s12, .ref m13, .ref m14, .ref m15, .int s16, .ref m17, .ref m18, .ref m19, .ref m20, .ref m21, .ref m22, .ref m23, .ref m24, .ref m25, .ref m26, .ref m27, .ref m28, .int s29, .ref m30, .int s31, .int s32, .int s33, .int s34, .int s35, .ref m36, .ref m37, .ref m38, .ref m39, .long s40])), (m17, ai g 63 fc)] H → va_D A [(k0, .inr (9, [.ref m0, .int s1, .int s2, .int s3, .int s4, .int s5, .int s6, .ref m7, .ref m8, .ref m9, .int s10, .int s11, .int s12, .ref m13, .ref m14, .ref m15, .int s16, .ref m17, .ref m18, .ref m19, .ref m20, .ref m21, .ref m22, .ref m23, .ref m24, .ref m25, .ref m26, .ref m27, .ref m28, .int s29, .ref m30, .int s31, .int s32, .int s33, .int s34, .int s35, .ref m36, .ref m37, .ref m38, .ref m39, .long s40])), (m17, ai g 63 fc)] → va_S A s.heap H locs → lv_has ls 6 [(0, .ref k0), (1, .int 3), (2, .int (nI ab)), (3, .int x3), (4, .int (nI j))] → W p l e ({ frames := 3, cells := 0, slots := 0, locals := 66 }) s m [.ref k0, .int 3, .int (nI ab)].toArray below meth c H locs 0 0 (MQ below (va_Qi (po_X9_least_3 g k0 m0 s1 s2 s3 s4 s5 s6 m7 m8 m9 s10 s11 s12 m13 m14 m15 s16 m17 m18 m19 m20 m21 m22 m23 m24 m25 m26 m27 m28 s29 m30 s31 s32 s33 s34 s35 m36 m37 m38 m39 s40 fc ab) (bk g A) A) [.ref k0, .int 3, .int (nI ab)].toArray s 0 0 A) (F0 m 7 ls []) := by
    intro fu
    induction fu with
    | zero => intro j x3 hj e3 hfu; exact absurd hfu (Nat.not_lt_zero _)
    | succ fu ih =>
      intro j x3 hj e3 hfu H locs ls hP hD hS hl
      have ih7 := ih
      refine lv_iload hx hb dX9_least_7 (lv_at hl 4 rfl) ?_
      refine lv_bipush (v := 9) hx hb dX9_least_9 (by decide) ?_
      refine lv_icmp_ge (tgt := 54) hx hb dX9_least_11 (by decide) (fun c11_1 => ?_) (fun c11_1 => ?_)
      · skip
        have hj9 := ge_of_le (k := 9) (n := j) (by decide) (by omega) c11_1
        refine lv_iload_n hx hb dX9_least_54 rfl (lv_at hl 3 rfl) ?_
        refine W.widen (k := 0) (n := 0) (Nat.le_of_ble_eq_true rfl) (Nat.le_of_ble_eq_true rfl) ?_
        exact k_ri hx hb hr hlocks hS hP hD ⟨rfl, (by rw [e3, show j = 9 by omega])⟩ dX9_least_55
      · skip
        have hj9 := lt_of_nle (k := 9) (n := j) (by decide) (by omega) c11_1
        refine lv_aload_n hx hb dX9_least_14 rfl (lv_at hl 0 rfl) ?_
        refine va_get (D := g.1) (ci := 9) (v := .ref m17) (C := RX9) (T := TX9) (N := 41) hx hb hts q_X9_least_3_f9 hown hE.1 hP 0 rfl rfl 17 (by decide) (hts (.fieldLink RX9 31 "SoundLawsModel" "costs" "[I") q_X9_least_3_1) (fun _ h9 => h9) rfl dX9_least_15 ?_
        refine lv_bipush (v := 9) hx hb dX9_least_18 (by decide) ?_
        refine lv_iload_n hx hb dX9_least_20 rfl (lv_at hl 1 rfl) ?_
        refine lv_imul hx hb dX9_least_21 ?_
        refine lv_topi (fun x_2 ex_2 => ?_)
        obtain rfl : x_2 = 27 := ex_2.trans (by decide)
        refine lv_iload hx hb dX9_least_22 (lv_at hl 4 rfl) ?_
        refine lv_iadd hx hb dX9_least_24 ?_
        refine k_ald (27 + j) (by rw [show (27 : Int32) = nI 27 from rfl, nI_add]) (by omega) hx hb hE hP 1 rfl (by decide) dX9_least_25 ?_
        refine lv_iload hx hb dX9_least_26 (lv_at hl 4 rfl) ?_
        refine lv_iload_n hx hb dX9_least_28 rfl (lv_at hl 2 rfl) ?_
        refine k_ci (wr := [(k0, .inr (9, [.ref m0, .int s1, .int s2, .int s3, .int s4, .int s5, .int s6, .ref m7, .ref m8, .ref m9, .int s10, .int s11, .int s12, .ref m13, .ref m14, .ref m15, .int s16, .ref m17, .ref m18, .ref m19, .ref m20, .ref m21, .ref m22, .ref m23, .ref m24, .ref m25, .ref m26, .ref m27, .ref m28, .int s29, .ref m30, .int s31, .int s32, .int s33, .int s34, .int s35, .ref m36, .ref m37, .ref m38, .ref m39, .long s40])), (m17, ai g 63 fc)]) hP hD hS hA [] [0, 1] rfl rfl (by decide) (by decide) (va_runS (As := [.int (nI j), .int (nI ab)]) (rest := [.int (fc (27 + j))]) ⟨hx, hb, hml, hown, hts⟩ (c_X9_costOf l g (nI j) (nI ab)  H.size) (va_cwS 2 hts gX9_least_X9_costOf rfl rfl rfl (by decide +kernel) ⟨Nat.le_of_ble_eq_true rfl, Nat.le_of_ble_eq_true rfl⟩) (k_preS hE hZ hP hD hS hA [] rfl (by decide)) rfl rfl hl.1 rfl (lv_room (Nat.le_of_ble_eq_true rfl)) dX9_least_29 ⟨Nat.le_of_ble_eq_true rfl, Nat.le_of_ble_eq_true rfl⟩) (fun r_3 w1 H locs hw hP hD hS => ?_)
        obtain ⟨rfl, rfl⟩ := hw
        have hP : va_P g.1 vwCl [(k0, .inr (9, [.ref m0, .int s1, .int s2, .int s3, .int s4, .int s5, .int s6, .ref m7, .ref m8, .ref m9, .int s10, .int s11, .int s12, .ref m13, .ref m14, .ref m15, .int s16, .ref m17, .ref m18, .ref m19, .ref m20, .ref m21, .ref m22, .ref m23, .ref m24, .ref m25, .ref m26, .ref m27, .ref m28, .int s29, .ref m30, .int s31, .int s32, .int s33, .int s34, .int s35, .ref m36, .ref m37, .ref m38, .ref m39, .long s40])), (m17, ai g 63 fc)] H := hP
        have hD : va_D A [(k0, .inr (9, [.ref m0, .int s1, .int s2, .int s3, .int s4, .int s5, .int s6, .ref m7, .ref m8, .ref m9, .int s10, .int s11, .int s12, .ref m13, .ref m14, .ref m15, .int s16, .ref m17, .ref m18, .ref m19, .ref m20, .ref m21, .ref m22, .ref m23, .ref m24, .ref m25, .ref m26, .ref m27, .ref m28, .int s29, .ref m30, .int s31, .int s32, .int s33, .int s34, .int s35, .ref m36, .ref m37, .ref m38, .ref m39, .long s40])), (m17, ai g 63 fc)] := hD
        refine lv_iadd hx hb dX9_least_32 ?_
        refine lv_topi (fun x5 ex5 => ?_)
        refine lv_istore (lv' := [(5, .int x5), (0, .ref k0), (1, .int 3), (2, .int (nI ab)), (3, .int x3), (4, .int (nI j))]) hx hb dX9_least_33 hl (by decide) rfl (fun ls hl => ?_)
        refine lv_iload hx hb dX9_least_35 (lv_at hl 0 rfl) ?_
        refine lv_iload_n hx hb dX9_least_37 rfl (lv_at hl 4 rfl) ?_
        refine lv_icmp_ge (tgt := 46) hx hb dX9_least_38 (by decide) (fun c38_5 => ?_) (fun c38_5 => ?_)
        · skip
          refine lv_iload_n hx hb dX9_least_46 rfl (lv_at hl 4 rfl) ?_
          refine lv_istore_n (lv' := [(3, .int x3), (5, .int x5), (0, .ref k0), (1, .int 3), (2, .int (nI ab)), (4, .int (nI j))]) hx hb dX9_least_47 rfl hl (by decide) rfl (fun ls hl => ?_)
          refine lv_iinc (v := (nI (j + 1))) (lv' := [(4, .int (nI (j + 1))), (3, .int x3), (5, .int x5), (0, .ref k0), (1, .int 3), (2, .int (nI ab))]) hx hb dX9_least_48 hl (k := 5) rfl (nI_1 _) (by decide) rfl (fun ls hl => ?_)
          refine lv_goto (tgt := 7) hx hb dX9_least_51 (by decide) ?_
          exact ih7 (j + 1) x3 (by omega) (e3.trans (ml_f (f := (fun s => fc (27 + s) + cmo (nI s) (nI ab))) (by rw [← e3]; have h9 := i_nlt c38_5; rw [ex5] at h9; exact h9)).symm) (by omega) _ _ _ hP hD hS (lv_sub hl [3, 4, 5, 1, 0] rfl)
        · skip
          refine lv_iload hx hb dX9_least_41 (lv_at hl 0 rfl) ?_
          refine lv_goto (tgt := 47) hx hb dX9_least_43 (by decide) ?_
          refine lv_istore_n (lv' := [(3, .int x5), (5, .int x5), (0, .ref k0), (1, .int 3), (2, .int (nI ab)), (4, .int (nI j))]) hx hb dX9_least_47 rfl hl (by decide) rfl (fun ls hl => ?_)
          refine lv_iinc (v := (nI (j + 1))) (lv' := [(4, .int (nI (j + 1))), (3, .int x5), (5, .int x5), (0, .ref k0), (1, .int 3), (2, .int (nI ab))]) hx hb dX9_least_48 hl (k := 5) rfl (nI_1 _) (by decide) rfl (fun ls hl => ?_)
          refine lv_goto (tgt := 7) hx hb dX9_least_51 (by decide) ?_
          exact ih7 (j + 1) x5 (by omega) (ex5.trans (ml_t (f := (fun s => fc (27 + s) + cmo (nI s) (nI ab))) (by rw [← e3]; have h9 := i_nle c38_5; rw [ex5] at h9; exact h9)).symm) (by omega) _ _ _ hP hD hS (lv_sub hl [3, 4, 5, 1, 0] rfl)
  exact loop7 _ 0 9999 (Nat.zero_le 9) rfl (Nat.lt_succ_self _) _ _ _ hP hD hS (lv_sub hl [2, 3, 4, 1, 0] rfl)
def po_X9_least_4 (g : GG) (k0 : Nat) (m0 : Nat) (s1 : Int32) (s2 : Int32) (s3 : Int32) (s4 : Int32) (s5 : Int32) (s6 : Int32) (m7 : Nat) (m8 : Nat) (m9 : Nat) (s10 : Int32) (s11 : Int32) (s12 : Int32) (m13 : Nat) (m14 : Nat) (m15 : Nat) (s16 : Int32) (m17 : Nat) (m18 : Nat) (m19 : Nat) (m20 : Nat) (m21 : Nat) (m22 : Nat) (m23 : Nat) (m24 : Nat) (m25 : Nat) (m26 : Nat) (m27 : Nat) (m28 : Nat) (s29 : Int32) (m30 : Nat) (s31 : Int32) (s32 : Int32) (s33 : Int32) (s34 : Int32) (s35 : Int32) (m36 : Nat) (m37 : Nat) (m38 : Nat) (m39 : Nat) (s40 : Int64) (fc : Nat → Int32) (ab : Nat) : Int32 → va_W → Prop := fun (r : Int32) w => w = [(k0, .inr (9, [.ref m0, .int s1, .int s2, .int s3, .int s4, .int s5, .int s6, .ref m7, .ref m8, .ref m9, .int s10, .int s11, .int s12, .ref m13, .ref m14, .ref m15, .int s16, .ref m17, .ref m18, .ref m19, .ref m20, .ref m21, .ref m22, .ref m23, .ref m24, .ref m25, .ref m26, .ref m27, .ref m28, .int s29, .ref m30, .int s31, .int s32, .int s33, .int s34, .int s35, .ref m36, .ref m37, .ref m38, .ref m39, .long s40])), (m17, ai g 63 fc)] ∧ (ml (fun s => fc (36 + s) + cmo (nI s) (nI ab)) 9 = r)
theorem q_X9_least_4_f9 : ∀ w ∈ u_ws RX9 TX9 41, w ∈ wsX9_least := by decide +kernel
theorem q_X9_least_4_1 : (Cond.fieldLink RX9 31 "SoundLawsModel" "costs" "[I") ∈ wsX9_least := by decide +kernel
set_option maxHeartbeats 1500000 in
set_option maxRecDepth 100000 in
theorem c_X9_least_4 (l : Launch) (g : GG) (k0 : Nat) (m0 : Nat) (s1 : Int32) (s2 : Int32) (s3 : Int32) (s4 : Int32) (s5 : Int32) (s6 : Int32) (m7 : Nat) (m8 : Nat) (m9 : Nat) (s10 : Int32) (s11 : Int32) (s12 : Int32) (m13 : Nat) (m14 : Nat) (m15 : Nat) (s16 : Int32) (m17 : Nat) (m18 : Nat) (m19 : Nat) (m20 : Nat) (m21 : Nat) (m22 : Nat) (m23 : Nat) (m24 : Nat) (m25 : Nat) (m26 : Nat) (m27 : Nat) (m28 : Nat) (s29 : Int32) (m30 : Nat) (s31 : Int32) (s32 : Int32) (s33 : Int32) (s34 : Int32) (s35 : Int32) (m36 : Nat) (m37 : Nat) (m38 : Nat) (m39 : Nat) (s40 : Int64) (fc : Nat → Int32) (ab : Nat)  (sz : Nat) : MetI l yX9_least wsX9_least ({ frames := 3, cells := 0, slots := 0, locals := 66 }) g [.ref k0, .int 4, .int (nI ab)] [(k0, .inr (9, [.ref m0, .int s1, .int s2, .int s3, .int s4, .int s5, .int s6, .ref m7, .ref m8, .ref m9, .int s10, .int s11, .int s12, .ref m13, .ref m14, .ref m15, .int s16, .ref m17, .ref m18, .ref m19, .ref m20, .ref m21, .ref m22, .ref m23, .ref m24, .ref m25, .ref m26, .ref m27, .ref m28, .int s29, .ref m30, .int s31, .int s32, .int s33, .int s34, .int s35, .ref m36, .ref m37, .ref m38, .ref m39, .long s40])), (m17, ai g 63 fc)] sz (po_X9_least_4 g k0 m0 s1 s2 s3 s4 s5 s6 m7 m8 m9 s10 s11 s12 m13 m14 m15 s16 m17 m18 m19 m20 m21 m22 m23 m24 m25 m26 m27 m28 s29 m30 s31 s32 s33 s34 s35 m36 m37 m38 m39 s40 fc ab) 0 0 := by
  refine k_of (l := l) (y := yX9_least) (ws := wsX9_least) (rm := { frames := 3, cells := 0, slots := 0, locals := 66 }) (mc := 0) (ms := 0) (av := [.ref k0, .int 4, .int (nI ab)]) (g := g) (wc := [(k0, .inr (9, [.ref m0, .int s1, .int s2, .int s3, .int s4, .int s5, .int s6, .ref m7, .ref m8, .ref m9, .int s10, .int s11, .int s12, .ref m13, .ref m14, .ref m15, .int s16, .ref m17, .ref m18, .ref m19, .ref m20, .ref m21, .ref m22, .ref m23, .ref m24, .ref m25, .ref m26, .ref m27, .ref m28, .int s29, .ref m30, .int s31, .int s32, .int s33, .int s34, .int s35, .ref m36, .ref m37, .ref m38, .ref m39, .long s40])), (m17, ai g 63 fc)]) (Qc := fun A => va_Qi (po_X9_least_4 g k0 m0 s1 s2 s3 s4 s5 s6 m7 m8 m9 s10 s11 s12 m13 m14 m15 s16 m17 m18 m19 m20 m21 m22 m23 m24 m25 m26 m27 m28 s29 m30 s31 s32 s33 s34 s35 m36 m37 m38 m39 s40 fc ab) (bk g A) A) (cc := cX9_least) (maxL := 6) (ret := (some .int)) (by decide) rfl (Nat.le_of_ble_eq_true rfl) ?_ sz
  intro p e s m below meth c hx hb hr hts hown hlocks hnm hml A hA hE hZ hP hD hS ls hl
  have hown : s.vm.findClass RX9 = some m.cls := hown
  have hl : lv_has ls 6 [(0, .ref k0), (1, .int 4), (2, .int (nI ab))] := hl
  refine lv_sipush (v := 9999) hx hb dX9_least_0 (by decide) ?_
  refine lv_istore_n (lv' := [(3, .int 9999), (0, .ref k0), (1, .int 4), (2, .int (nI ab))]) hx hb dX9_least_3 rfl hl (by decide) rfl (fun ls hl => ?_)
  refine lv_iconst (v := 0) hx hb dX9_least_4 (by decide) ?_
  refine lv_istore (lv' := [(4, .int 0), (3, .int 9999), (0, .ref k0), (1, .int 4), (2, .int (nI ab))]) hx hb dX9_least_5 hl (by decide) rfl (fun ls hl => ?_)
  have loop7 : ∀ (fu : Nat) (j : Nat) (x3 : Int32), (hj : j ≤ 9) → (e3 : x3 = ml (fun s => fc (36 + s) + cmo (nI s) (nI ab)) j) → 9 - j < fu → ∀ (H : Heap) (locs : List Loc) (ls : Array Slot), va_P g.1 vwCl [(k0, .inr (9, [.ref m0, .int s1, .int s2, .int s3, .int s4, .int s5, .int s6, .ref m7, .ref m8, .ref m9, .int s10, .int s11, .int s12, .ref m13, .ref m14, .ref m15, .int s16, .ref m17, .ref m18, .ref m19, .ref m20, .ref m21, .ref m22, .ref m23, .ref m24, .ref m25, .ref m26, .ref m27, .ref m28, .int s29, .ref m30, .int s31, .int s32, .int s33, .int s34, .int s35, .ref m36, .ref m37, .ref m38, .ref m39, .long s40])), (m17, ai g 63 fc)] H → va_D A [(k0, .inr (9, [.ref m0, .int s1, .int s2, .int s3, .int s4, .int s5, .int s6, .ref m7, .ref m8, .ref m9, .int s10, .int s11, .int s12, .ref m13, .ref m14, .ref m15, .int s16, .ref m17, .ref m18, .ref m19, .ref m20, .ref m21, .ref m22, .ref m23, .ref m24, .ref m25, .ref m26, .ref m27, .ref m28, .int s29, .ref m30, .int s31, .int s32, .int s33, .int s34, .int s35, .ref m36, .ref m37, .ref m38, .ref m39, .long s40])), (m17, ai g 63 fc)] → va_S A s.heap H locs → lv_has ls 6 [(0, .ref k0), (1, .int 4), (2, .int (nI ab)), (3, .int x3), (4, .int (nI j))] → W p l e ({ frames := 3, cells := 0, slots := 0, locals := 66 }) s m [.ref k0, .int 4, .int (nI ab)].toArray below meth c H locs 0 0 (MQ below (va_Qi (po_X9_least_4 g k0 m0 s1 s2 s3 s4 s5 s6 m7 m8 m9 s10 s11 s12 m13 m14 m15 s16 m17 m18 m19 m20 m21 m22 m23 m24 m25 m26 m27 m28 s29 m30 s31 s32 s33 s34 s35 m36 m37 m38 m39 s40 fc ab) (bk g A) A) [.ref k0, .int 4, .int (nI ab)].toArray s 0 0 A) (F0 m 7 ls []) := by
    intro fu
    induction fu with
    | zero => intro j x3 hj e3 hfu; exact absurd hfu (Nat.not_lt_zero _)
    | succ fu ih =>
      intro j x3 hj e3 hfu H locs ls hP hD hS hl
      have ih7 := ih
      refine lv_iload hx hb dX9_least_7 (lv_at hl 4 rfl) ?_
      refine lv_bipush (v := 9) hx hb dX9_least_9 (by decide) ?_
      refine lv_icmp_ge (tgt := 54) hx hb dX9_least_11 (by decide) (fun c11_1 => ?_) (fun c11_1 => ?_)
      · skip
        have hj9 := ge_of_le (k := 9) (n := j) (by decide) (by omega) c11_1
        refine lv_iload_n hx hb dX9_least_54 rfl (lv_at hl 3 rfl) ?_
        refine W.widen (k := 0) (n := 0) (Nat.le_of_ble_eq_true rfl) (Nat.le_of_ble_eq_true rfl) ?_
        exact k_ri hx hb hr hlocks hS hP hD ⟨rfl, (by rw [e3, show j = 9 by omega])⟩ dX9_least_55
      · skip
        have hj9 := lt_of_nle (k := 9) (n := j) (by decide) (by omega) c11_1
        refine lv_aload_n hx hb dX9_least_14 rfl (lv_at hl 0 rfl) ?_
        refine va_get (D := g.1) (ci := 9) (v := .ref m17) (C := RX9) (T := TX9) (N := 41) hx hb hts q_X9_least_4_f9 hown hE.1 hP 0 rfl rfl 17 (by decide) (hts (.fieldLink RX9 31 "SoundLawsModel" "costs" "[I") q_X9_least_4_1) (fun _ h9 => h9) rfl dX9_least_15 ?_
        refine lv_bipush (v := 9) hx hb dX9_least_18 (by decide) ?_
        refine lv_iload_n hx hb dX9_least_20 rfl (lv_at hl 1 rfl) ?_
        refine lv_imul hx hb dX9_least_21 ?_
        refine lv_topi (fun x_2 ex_2 => ?_)
        obtain rfl : x_2 = 36 := ex_2.trans (by decide)
        refine lv_iload hx hb dX9_least_22 (lv_at hl 4 rfl) ?_
        refine lv_iadd hx hb dX9_least_24 ?_
        refine k_ald (36 + j) (by rw [show (36 : Int32) = nI 36 from rfl, nI_add]) (by omega) hx hb hE hP 1 rfl (by decide) dX9_least_25 ?_
        refine lv_iload hx hb dX9_least_26 (lv_at hl 4 rfl) ?_
        refine lv_iload_n hx hb dX9_least_28 rfl (lv_at hl 2 rfl) ?_
        refine k_ci (wr := [(k0, .inr (9, [.ref m0, .int s1, .int s2, .int s3, .int s4, .int s5, .int s6, .ref m7, .ref m8, .ref m9, .int s10, .int s11, .int s12, .ref m13, .ref m14, .ref m15, .int s16, .ref m17, .ref m18, .ref m19, .ref m20, .ref m21, .ref m22, .ref m23, .ref m24, .ref m25, .ref m26, .ref m27, .ref m28, .int s29, .ref m30, .int s31, .int s32, .int s33, .int s34, .int s35, .ref m36, .ref m37, .ref m38, .ref m39, .long s40])), (m17, ai g 63 fc)]) hP hD hS hA [] [0, 1] rfl rfl (by decide) (by decide) (va_runS (As := [.int (nI j), .int (nI ab)]) (rest := [.int (fc (36 + j))]) ⟨hx, hb, hml, hown, hts⟩ (c_X9_costOf l g (nI j) (nI ab)  H.size) (va_cwS 2 hts gX9_least_X9_costOf rfl rfl rfl (by decide +kernel) ⟨Nat.le_of_ble_eq_true rfl, Nat.le_of_ble_eq_true rfl⟩) (k_preS hE hZ hP hD hS hA [] rfl (by decide)) rfl rfl hl.1 rfl (lv_room (Nat.le_of_ble_eq_true rfl)) dX9_least_29 ⟨Nat.le_of_ble_eq_true rfl, Nat.le_of_ble_eq_true rfl⟩) (fun r_3 w1 H locs hw hP hD hS => ?_)
        obtain ⟨rfl, rfl⟩ := hw
        have hP : va_P g.1 vwCl [(k0, .inr (9, [.ref m0, .int s1, .int s2, .int s3, .int s4, .int s5, .int s6, .ref m7, .ref m8, .ref m9, .int s10, .int s11, .int s12, .ref m13, .ref m14, .ref m15, .int s16, .ref m17, .ref m18, .ref m19, .ref m20, .ref m21, .ref m22, .ref m23, .ref m24, .ref m25, .ref m26, .ref m27, .ref m28, .int s29, .ref m30, .int s31, .int s32, .int s33, .int s34, .int s35, .ref m36, .ref m37, .ref m38, .ref m39, .long s40])), (m17, ai g 63 fc)] H := hP
        have hD : va_D A [(k0, .inr (9, [.ref m0, .int s1, .int s2, .int s3, .int s4, .int s5, .int s6, .ref m7, .ref m8, .ref m9, .int s10, .int s11, .int s12, .ref m13, .ref m14, .ref m15, .int s16, .ref m17, .ref m18, .ref m19, .ref m20, .ref m21, .ref m22, .ref m23, .ref m24, .ref m25, .ref m26, .ref m27, .ref m28, .int s29, .ref m30, .int s31, .int s32, .int s33, .int s34, .int s35, .ref m36, .ref m37, .ref m38, .ref m39, .long s40])), (m17, ai g 63 fc)] := hD
        refine lv_iadd hx hb dX9_least_32 ?_
        refine lv_topi (fun x5 ex5 => ?_)
        refine lv_istore (lv' := [(5, .int x5), (0, .ref k0), (1, .int 4), (2, .int (nI ab)), (3, .int x3), (4, .int (nI j))]) hx hb dX9_least_33 hl (by decide) rfl (fun ls hl => ?_)
        refine lv_iload hx hb dX9_least_35 (lv_at hl 0 rfl) ?_
        refine lv_iload_n hx hb dX9_least_37 rfl (lv_at hl 4 rfl) ?_
        refine lv_icmp_ge (tgt := 46) hx hb dX9_least_38 (by decide) (fun c38_5 => ?_) (fun c38_5 => ?_)
        · skip
          refine lv_iload_n hx hb dX9_least_46 rfl (lv_at hl 4 rfl) ?_
          refine lv_istore_n (lv' := [(3, .int x3), (5, .int x5), (0, .ref k0), (1, .int 4), (2, .int (nI ab)), (4, .int (nI j))]) hx hb dX9_least_47 rfl hl (by decide) rfl (fun ls hl => ?_)
          refine lv_iinc (v := (nI (j + 1))) (lv' := [(4, .int (nI (j + 1))), (3, .int x3), (5, .int x5), (0, .ref k0), (1, .int 4), (2, .int (nI ab))]) hx hb dX9_least_48 hl (k := 5) rfl (nI_1 _) (by decide) rfl (fun ls hl => ?_)
          refine lv_goto (tgt := 7) hx hb dX9_least_51 (by decide) ?_
          exact ih7 (j + 1) x3 (by omega) (e3.trans (ml_f (f := (fun s => fc (36 + s) + cmo (nI s) (nI ab))) (by rw [← e3]; have h9 := i_nlt c38_5; rw [ex5] at h9; exact h9)).symm) (by omega) _ _ _ hP hD hS (lv_sub hl [3, 4, 5, 1, 0] rfl)
        · skip
          refine lv_iload hx hb dX9_least_41 (lv_at hl 0 rfl) ?_
          refine lv_goto (tgt := 47) hx hb dX9_least_43 (by decide) ?_
          refine lv_istore_n (lv' := [(3, .int x5), (5, .int x5), (0, .ref k0), (1, .int 4), (2, .int (nI ab)), (4, .int (nI j))]) hx hb dX9_least_47 rfl hl (by decide) rfl (fun ls hl => ?_)
          refine lv_iinc (v := (nI (j + 1))) (lv' := [(4, .int (nI (j + 1))), (3, .int x5), (5, .int x5), (0, .ref k0), (1, .int 4), (2, .int (nI ab))]) hx hb dX9_least_48 hl (k := 5) rfl (nI_1 _) (by decide) rfl (fun ls hl => ?_)
          refine lv_goto (tgt := 7) hx hb dX9_least_51 (by decide) ?_
          exact ih7 (j + 1) x5 (by omega) (ex5.trans (ml_t (f := (fun s => fc (36 + s) + cmo (nI s) (nI ab))) (by rw [← e3]; have h9 := i_nle c38_5; rw [ex5] at h9; exact h9)).symm) (by omega) _ _ _ hP hD hS (lv_sub hl [3, 4, 5, 1, 0] rfl)
  exact loop7 _ 0 9999 (Nat.zero_le 9) rfl (Nat.lt_succ_self _) _ _ _ hP hD hS (lv_sub hl [2, 3, 4, 1, 0] rfl)
def po_X9_least_5 (g : GG) (k0 : Nat) (m0 : Nat) (s1 : Int32) (s2 : Int32) (s3 : Int32) (s4 : Int32) (s5 : Int32) (s6 : Int32) (m7 : Nat) (m8 : Nat) (m9 : Nat) (s10 : Int32) (s11 : Int32) (s12 : Int32) (m13 : Nat) (m14 : Nat) (m15 : Nat) (s16 : Int32) (m17 : Nat) (m18 : Nat) (m19 : Nat) (m20 : Nat) (m21 : Nat) (m22 : Nat) (m23 : Nat) (m24 : Nat) (m25 : Nat) (m26 : Nat) (m27 : Nat) (m28 : Nat) (s29 : Int32) (m30 : Nat) (s31 : Int32) (s32 : Int32) (s33 : Int32) (s34 : Int32) (s35 : Int32) (m36 : Nat) (m37 : Nat) (m38 : Nat) (m39 : Nat) (s40 : Int64) (fc : Nat → Int32) (ab : Nat) : Int32 → va_W → Prop := fun (r : Int32) w => w = [(k0, .inr (9, [.ref m0, .int s1, .int s2, .int s3, .int s4, .int s5, .int s6, .ref m7, .ref m8, .ref m9, .int s10, .int s11, .int s12, .ref m13, .ref m14, .ref m15, .int s16, .ref m17, .ref m18, .ref m19, .ref m20, .ref m21, .ref m22, .ref m23, .ref m24, .ref m25, .ref m26, .ref m27, .ref m28, .int s29, .ref m30, .int s31, .int s32, .int s33, .int s34, .int s35, .ref m36, .ref m37, .ref m38, .ref m39, .long s40])), (m17, ai g 63 fc)] ∧ (ml (fun s => fc (45 + s) + cmo (nI s) (nI ab)) 9 = r)
theorem q_X9_least_5_f9 : ∀ w ∈ u_ws RX9 TX9 41, w ∈ wsX9_least := by decide +kernel
theorem q_X9_least_5_1 : (Cond.fieldLink RX9 31 "SoundLawsModel" "costs" "[I") ∈ wsX9_least := by decide +kernel
set_option maxHeartbeats 1500000 in
set_option maxRecDepth 100000 in
theorem c_X9_least_5 (l : Launch) (g : GG) (k0 : Nat) (m0 : Nat) (s1 : Int32) (s2 : Int32) (s3 : Int32) (s4 : Int32) (s5 : Int32) (s6 : Int32) (m7 : Nat) (m8 : Nat) (m9 : Nat) (s10 : Int32) (s11 : Int32) (s12 : Int32) (m13 : Nat) (m14 : Nat) (m15 : Nat) (s16 : Int32) (m17 : Nat) (m18 : Nat) (m19 : Nat) (m20 : Nat) (m21 : Nat) (m22 : Nat) (m23 : Nat) (m24 : Nat) (m25 : Nat) (m26 : Nat) (m27 : Nat) (m28 : Nat) (s29 : Int32) (m30 : Nat) (s31 : Int32) (s32 : Int32) (s33 : Int32) (s34 : Int32) (s35 : Int32) (m36 : Nat) (m37 : Nat) (m38 : Nat) (m39 : Nat) (s40 : Int64) (fc : Nat → Int32) (ab : Nat)  (sz : Nat) : MetI l yX9_least wsX9_least ({ frames := 3, cells := 0, slots := 0, locals := 66 }) g [.ref k0, .int 5, .int (nI ab)] [(k0, .inr (9, [.ref m0, .int s1, .int s2, .int s3, .int s4, .int s5, .int s6, .ref m7, .ref m8, .ref m9, .int s10, .int s11, .int s12, .ref m13, .ref m14, .ref m15, .int s16, .ref m17, .ref m18, .ref m19, .ref m20, .ref m21, .ref m22, .ref m23, .ref m24, .ref m25, .ref m26, .ref m27, .ref m28, .int s29, .ref m30, .int s31, .int s32, .int s33, .int s34, .int s35, .ref m36, .ref m37, .ref m38, .ref m39, .long s40])), (m17, ai g 63 fc)] sz (po_X9_least_5 g k0 m0 s1 s2 s3 s4 s5 s6 m7 m8 m9 s10 s11 s12 m13 m14 m15 s16 m17 m18 m19 m20 m21 m22 m23 m24 m25 m26 m27 m28 s29 m30 s31 s32 s33 s34 s35 m36 m37 m38 m39 s40 fc ab) 0 0 := by
  refine k_of (l := l) (y := yX9_least) (ws := wsX9_least) (rm := { frames := 3, cells := 0, slots := 0, locals := 66 }) (mc := 0) (ms := 0) (av := [.ref k0, .int 5, .int (nI ab)]) (g := g) (wc := [(k0, .inr (9, [.ref m0, .int s1, .int s2, .int s3, .int s4, .int s5, .int s6, .ref m7, .ref m8, .ref m9, .int s10, .int s11, .int s12, .ref m13, .ref m14, .ref m15, .int s16, .ref m17, .ref m18, .ref m19, .ref m20, .ref m21, .ref m22, .ref m23, .ref m24, .ref m25, .ref m26, .ref m27, .ref m28, .int s29, .ref m30, .int s31, .int s32, .int s33, .int s34, .int s35, .ref m36, .ref m37, .ref m38, .ref m39, .long s40])), (m17, ai g 63 fc)]) (Qc := fun A => va_Qi (po_X9_least_5 g k0 m0 s1 s2 s3 s4 s5 s6 m7 m8 m9 s10 s11 s12 m13 m14 m15 s16 m17 m18 m19 m20 m21 m22 m23 m24 m25 m26 m27 m28 s29 m30 s31 s32 s33 s34 s35 m36 m37 m38 m39 s40 fc ab) (bk g A) A) (cc := cX9_least) (maxL := 6) (ret := (some .int)) (by decide) rfl (Nat.le_of_ble_eq_true rfl) ?_ sz
  intro p e s m below meth c hx hb hr hts hown hlocks hnm hml A hA hE hZ hP hD hS ls hl
  have hown : s.vm.findClass RX9 = some m.cls := hown
  have hl : lv_has ls 6 [(0, .ref k0), (1, .int 5), (2, .int (nI ab))] := hl
  refine lv_sipush (v := 9999) hx hb dX9_least_0 (by decide) ?_
  refine lv_istore_n (lv' := [(3, .int 9999), (0, .ref k0), (1, .int 5), (2, .int (nI ab))]) hx hb dX9_least_3 rfl hl (by decide) rfl (fun ls hl => ?_)
  refine lv_iconst (v := 0) hx hb dX9_least_4 (by decide) ?_
  refine lv_istore (lv' := [(4, .int 0), (3, .int 9999), (0, .ref k0), (1, .int 5), (2, .int (nI ab))]) hx hb dX9_least_5 hl (by decide) rfl (fun ls hl => ?_)
  have loop7 : ∀ (fu : Nat) (j : Nat) (x3 : Int32), (hj : j ≤ 9) → (e3 : x3 = ml (fun s => fc (45 + s) + cmo (nI s) (nI ab)) j) → 9 - j < fu → ∀ (H : Heap) (locs : List Loc) (ls : Array Slot), va_P g.1 vwCl [(k0, .inr (9, [.ref m0, .int s1, .int s2, .int s3, .int s4, .int s5, .int s6, .ref m7, .ref m8, .ref m9, .int s10, .int s11, .int s12, .ref m13, .ref m14, .ref m15, .int s16, .ref m17, .ref m18, .ref m19, .ref m20, .ref m21, .ref m22, .ref m23, .ref m24, .ref m25, .ref m26, .ref m27, .ref m28, .int s29, .ref m30, .int s31, .int s32, .int s33, .int s34, .int s35, .ref m36, .ref m37, .ref m38, .ref m39, .long s40])), (m17, ai g 63 fc)] H → va_D A [(k0, .inr (9, [.ref m0, .int s1, .int s2, .int s3, .int s4, .int s5, .int s6, .ref m7, .ref m8, .ref m9, .int s10, .int s11, .int s12, .ref m13, .ref m14, .ref m15, .int s16, .ref m17, .ref m18, .ref m19, .ref m20, .ref m21, .ref m22, .ref m23, .ref m24, .ref m25, .ref m26, .ref m27, .ref m28, .int s29, .ref m30, .int s31, .int s32, .int s33, .int s34, .int s35, .ref m36, .ref m37, .ref m38, .ref m39, .long s40])), (m17, ai g 63 fc)] → va_S A s.heap H locs → lv_has ls 6 [(0, .ref k0), (1, .int 5), (2, .int (nI ab)), (3, .int x3), (4, .int (nI j))] → W p l e ({ frames := 3, cells := 0, slots := 0, locals := 66 }) s m [.ref k0, .int 5, .int (nI ab)].toArray below meth c H locs 0 0 (MQ below (va_Qi (po_X9_least_5 g k0 m0 s1 s2 s3 s4 s5 s6 m7 m8 m9 s10 s11 s12 m13 m14 m15 s16 m17 m18 m19 m20 m21 m22 m23 m24 m25 m26 m27 m28 s29 m30 s31 s32 s33 s34 s35 m36 m37 m38 m39 s40 fc ab) (bk g A) A) [.ref k0, .int 5, .int (nI ab)].toArray s 0 0 A) (F0 m 7 ls []) := by
    intro fu
    induction fu with
    | zero => intro j x3 hj e3 hfu; exact absurd hfu (Nat.not_lt_zero _)
    | succ fu ih =>
      intro j x3 hj e3 hfu H locs ls hP hD hS hl
      have ih7 := ih
      refine lv_iload hx hb dX9_least_7 (lv_at hl 4 rfl) ?_
      refine lv_bipush (v := 9) hx hb dX9_least_9 (by decide) ?_
      refine lv_icmp_ge (tgt := 54) hx hb dX9_least_11 (by decide) (fun c11_1 => ?_) (fun c11_1 => ?_)
      · skip
        have hj9 := ge_of_le (k := 9) (n := j) (by decide) (by omega) c11_1
        refine lv_iload_n hx hb dX9_least_54 rfl (lv_at hl 3 rfl) ?_
        refine W.widen (k := 0) (n := 0) (Nat.le_of_ble_eq_true rfl) (Nat.le_of_ble_eq_true rfl) ?_
        exact k_ri hx hb hr hlocks hS hP hD ⟨rfl, (by rw [e3, show j = 9 by omega])⟩ dX9_least_55
      · skip
        have hj9 := lt_of_nle (k := 9) (n := j) (by decide) (by omega) c11_1
        refine lv_aload_n hx hb dX9_least_14 rfl (lv_at hl 0 rfl) ?_
        refine va_get (D := g.1) (ci := 9) (v := .ref m17) (C := RX9) (T := TX9) (N := 41) hx hb hts q_X9_least_5_f9 hown hE.1 hP 0 rfl rfl 17 (by decide) (hts (.fieldLink RX9 31 "SoundLawsModel" "costs" "[I") q_X9_least_5_1) (fun _ h9 => h9) rfl dX9_least_15 ?_
        refine lv_bipush (v := 9) hx hb dX9_least_18 (by decide) ?_
        refine lv_iload_n hx hb dX9_least_20 rfl (lv_at hl 1 rfl) ?_
        refine lv_imul hx hb dX9_least_21 ?_
        refine lv_topi (fun x_2 ex_2 => ?_)
        obtain rfl : x_2 = 45 := ex_2.trans (by decide)
        refine lv_iload hx hb dX9_least_22 (lv_at hl 4 rfl) ?_
        refine lv_iadd hx hb dX9_least_24 ?_
        refine k_ald (45 + j) (by rw [show (45 : Int32) = nI 45 from rfl, nI_add]) (by omega) hx hb hE hP 1 rfl (by decide) dX9_least_25 ?_
        refine lv_iload hx hb dX9_least_26 (lv_at hl 4 rfl) ?_
        refine lv_iload_n hx hb dX9_least_28 rfl (lv_at hl 2 rfl) ?_
        refine k_ci (wr := [(k0, .inr (9, [.ref m0, .int s1, .int s2, .int s3, .int s4, .int s5, .int s6, .ref m7, .ref m8, .ref m9, .int s10, .int s11, .int s12, .ref m13, .ref m14, .ref m15, .int s16, .ref m17, .ref m18, .ref m19, .ref m20, .ref m21, .ref m22, .ref m23, .ref m24, .ref m25, .ref m26, .ref m27, .ref m28, .int s29, .ref m30, .int s31, .int s32, .int s33, .int s34, .int s35, .ref m36, .ref m37, .ref m38, .ref m39, .long s40])), (m17, ai g 63 fc)]) hP hD hS hA [] [0, 1] rfl rfl (by decide) (by decide) (va_runS (As := [.int (nI j), .int (nI ab)]) (rest := [.int (fc (45 + j))]) ⟨hx, hb, hml, hown, hts⟩ (c_X9_costOf l g (nI j) (nI ab)  H.size) (va_cwS 2 hts gX9_least_X9_costOf rfl rfl rfl (by decide +kernel) ⟨Nat.le_of_ble_eq_true rfl, Nat.le_of_ble_eq_true rfl⟩) (k_preS hE hZ hP hD hS hA [] rfl (by decide)) rfl rfl hl.1 rfl (lv_room (Nat.le_of_ble_eq_true rfl)) dX9_least_29 ⟨Nat.le_of_ble_eq_true rfl, Nat.le_of_ble_eq_true rfl⟩) (fun r_3 w1 H locs hw hP hD hS => ?_)
        obtain ⟨rfl, rfl⟩ := hw
        have hP : va_P g.1 vwCl [(k0, .inr (9, [.ref m0, .int s1, .int s2, .int s3, .int s4, .int s5, .int s6, .ref m7, .ref m8, .ref m9, .int s10, .int s11, .int s12, .ref m13, .ref m14, .ref m15, .int s16, .ref m17, .ref m18, .ref m19, .ref m20, .ref m21, .ref m22, .ref m23, .ref m24, .ref m25, .ref m26, .ref m27, .ref m28, .int s29, .ref m30, .int s31, .int s32, .int s33, .int s34, .int s35, .ref m36, .ref m37, .ref m38, .ref m39, .long s40])), (m17, ai g 63 fc)] H := hP
        have hD : va_D A [(k0, .inr (9, [.ref m0, .int s1, .int s2, .int s3, .int s4, .int s5, .int s6, .ref m7, .ref m8, .ref m9, .int s10, .int s11, .int s12, .ref m13, .ref m14, .ref m15, .int s16, .ref m17, .ref m18, .ref m19, .ref m20, .ref m21, .ref m22, .ref m23, .ref m24, .ref m25, .ref m26, .ref m27, .ref m28, .int s29, .ref m30, .int s31, .int s32, .int s33, .int s34, .int s35, .ref m36, .ref m37, .ref m38, .ref m39, .long s40])), (m17, ai g 63 fc)] := hD
        refine lv_iadd hx hb dX9_least_32 ?_
        refine lv_topi (fun x5 ex5 => ?_)
        refine lv_istore (lv' := [(5, .int x5), (0, .ref k0), (1, .int 5), (2, .int (nI ab)), (3, .int x3), (4, .int (nI j))]) hx hb dX9_least_33 hl (by decide) rfl (fun ls hl => ?_)
        refine lv_iload hx hb dX9_least_35 (lv_at hl 0 rfl) ?_
        refine lv_iload_n hx hb dX9_least_37 rfl (lv_at hl 4 rfl) ?_
        refine lv_icmp_ge (tgt := 46) hx hb dX9_least_38 (by decide) (fun c38_5 => ?_) (fun c38_5 => ?_)
        · skip
          refine lv_iload_n hx hb dX9_least_46 rfl (lv_at hl 4 rfl) ?_
          refine lv_istore_n (lv' := [(3, .int x3), (5, .int x5), (0, .ref k0), (1, .int 5), (2, .int (nI ab)), (4, .int (nI j))]) hx hb dX9_least_47 rfl hl (by decide) rfl (fun ls hl => ?_)
          refine lv_iinc (v := (nI (j + 1))) (lv' := [(4, .int (nI (j + 1))), (3, .int x3), (5, .int x5), (0, .ref k0), (1, .int 5), (2, .int (nI ab))]) hx hb dX9_least_48 hl (k := 5) rfl (nI_1 _) (by decide) rfl (fun ls hl => ?_)
          refine lv_goto (tgt := 7) hx hb dX9_least_51 (by decide) ?_
          exact ih7 (j + 1) x3 (by omega) (e3.trans (ml_f (f := (fun s => fc (45 + s) + cmo (nI s) (nI ab))) (by rw [← e3]; have h9 := i_nlt c38_5; rw [ex5] at h9; exact h9)).symm) (by omega) _ _ _ hP hD hS (lv_sub hl [3, 4, 5, 1, 0] rfl)
        · skip
          refine lv_iload hx hb dX9_least_41 (lv_at hl 0 rfl) ?_
          refine lv_goto (tgt := 47) hx hb dX9_least_43 (by decide) ?_
          refine lv_istore_n (lv' := [(3, .int x5), (5, .int x5), (0, .ref k0), (1, .int 5), (2, .int (nI ab)), (4, .int (nI j))]) hx hb dX9_least_47 rfl hl (by decide) rfl (fun ls hl => ?_)
          refine lv_iinc (v := (nI (j + 1))) (lv' := [(4, .int (nI (j + 1))), (3, .int x5), (5, .int x5), (0, .ref k0), (1, .int 5), (2, .int (nI ab))]) hx hb dX9_least_48 hl (k := 5) rfl (nI_1 _) (by decide) rfl (fun ls hl => ?_)
          refine lv_goto (tgt := 7) hx hb dX9_least_51 (by decide) ?_
          exact ih7 (j + 1) x5 (by omega) (ex5.trans (ml_t (f := (fun s => fc (45 + s) + cmo (nI s) (nI ab))) (by rw [← e3]; have h9 := i_nle c38_5; rw [ex5] at h9; exact h9)).symm) (by omega) _ _ _ hP hD hS (lv_sub hl [3, 4, 5, 1, 0] rfl)
  exact loop7 _ 0 9999 (Nat.zero_le 9) rfl (Nat.lt_succ_self _) _ _ _ hP hD hS (lv_sub hl [2, 3, 4, 1, 0] rfl)
def po_X9_layCosts (g : GG) (k0 : Nat) (m0 : Nat) (s1 : Int32) (s2 : Int32) (s3 : Int32) (s4 : Int32) (s5 : Int32) (s6 : Int32) (m7 : Nat) (m8 : Nat) (m9 : Nat) (s10 : Int32) (s11 : Int32) (s12 : Int32) (m13 : Nat) (m14 : Nat) (m15 : Nat) (s16 : Int32) (m17 : Nat) (m18 : Nat) (m19 : Nat) (m20 : Nat) (m21 : Nat) (m22 : Nat) (m23 : Nat) (m24 : Nat) (m25 : Nat) (m26 : Nat) (m27 : Nat) (m28 : Nat) (s29 : Int32) (m30 : Nat) (s31 : Int32) (s32 : Int32) (s33 : Int32) (s34 : Int32) (s35 : Int32) (m36 : Nat) (m37 : Nat) (m38 : Nat) (m39 : Nat) (s40 : Int64) (fc : Nat → Int32) (fs : Nat → Int32) (a0 : Nat) (a1 : Nat) (a2 : Nat) (a3 : Nat) : va_W → Prop := fun w => ∃ (gc : Nat → Int32), w = [(k0, .inr (9, [.ref m0, .int s1, .int s2, .int s3, .int s4, .int s5, .int s6, .ref m7, .ref m8, .ref m9, .int s10, .int s11, .int s12, .ref m13, .ref m14, .ref m15, .int s16, .ref m17, .ref m18, .ref m19, .ref m20, .ref m21, .ref m22, .ref m23, .ref m24, .ref m25, .ref m26, .ref m27, .ref m28, .int s29, .ref m30, .int s31, .int s32, .int s33, .int s34, .int s35, .ref m36, .ref m37, .ref m38, .ref m39, .long s40])), (m17, ai g 63 gc), (m19, ai g 4 fs)] ∧ (∀ k, k < 63 → gc k = Mp a0 a1 a2 a3 k)
theorem q_X9_layCosts_f9 : ∀ w ∈ u_ws RX9 TX9 41, w ∈ wsX9_layCosts := by decide +kernel
theorem q_X9_layCosts_1 : (Cond.fieldLink RX9 31 "SoundLawsModel" "costs" "[I") ∈ wsX9_layCosts := by decide +kernel
theorem q_X9_layCosts_2 : (Cond.fieldLink RX9 37 "SoundLawsModel" "said" "[I") ∈ wsX9_layCosts := by decide +kernel
set_option maxHeartbeats 1500000 in
set_option maxRecDepth 100000 in
theorem c_X9_layCosts (l : Launch) (g : GG) (k0 : Nat) (m0 : Nat) (s1 : Int32) (s2 : Int32) (s3 : Int32) (s4 : Int32) (s5 : Int32) (s6 : Int32) (m7 : Nat) (m8 : Nat) (m9 : Nat) (s10 : Int32) (s11 : Int32) (s12 : Int32) (m13 : Nat) (m14 : Nat) (m15 : Nat) (s16 : Int32) (m17 : Nat) (m18 : Nat) (m19 : Nat) (m20 : Nat) (m21 : Nat) (m22 : Nat) (m23 : Nat) (m24 : Nat) (m25 : Nat) (m26 : Nat) (m27 : Nat) (m28 : Nat) (s29 : Int32) (m30 : Nat) (s31 : Int32) (s32 : Int32) (s33 : Int32) (s34 : Int32) (s35 : Int32) (m36 : Nat) (m37 : Nat) (m38 : Nat) (m39 : Nat) (s40 : Int64) (fc : Nat → Int32) (fs : Nat → Int32) (a0 : Nat) (a1 : Nat) (a2 : Nat) (a3 : Nat) (ha0 : fs 0 = nI a0) (ha1 : fs 1 = nI a1) (ha2 : fs 2 = nI a2) (ha3 : fs 3 = nI a3) (h90 : a0 < 9) (h91 : a1 < 9) (h92 : a2 < 9) (h93 : a3 < 9) (sz : Nat) : MetV l yX9_layCosts wsX9_layCosts ({ frames := 4, cells := 0, slots := 0, locals := 91 }) g [.ref k0, .int 4] [(k0, .inr (9, [.ref m0, .int s1, .int s2, .int s3, .int s4, .int s5, .int s6, .ref m7, .ref m8, .ref m9, .int s10, .int s11, .int s12, .ref m13, .ref m14, .ref m15, .int s16, .ref m17, .ref m18, .ref m19, .ref m20, .ref m21, .ref m22, .ref m23, .ref m24, .ref m25, .ref m26, .ref m27, .ref m28, .int s29, .ref m30, .int s31, .int s32, .int s33, .int s34, .int s35, .ref m36, .ref m37, .ref m38, .ref m39, .long s40])), (m17, ai g 63 fc), (m19, ai g 4 fs)] sz (po_X9_layCosts g k0 m0 s1 s2 s3 s4 s5 s6 m7 m8 m9 s10 s11 s12 m13 m14 m15 s16 m17 m18 m19 m20 m21 m22 m23 m24 m25 m26 m27 m28 s29 m30 s31 s32 s33 s34 s35 m36 m37 m38 m39 s40 fc fs a0 a1 a2 a3) 0 0 := by
  refine k_of (l := l) (y := yX9_layCosts) (ws := wsX9_layCosts) (rm := { frames := 4, cells := 0, slots := 0, locals := 91 }) (mc := 0) (ms := 0) (av := [.ref k0, .int 4]) (g := g) (wc := [(k0, .inr (9, [.ref m0, .int s1, .int s2, .int s3, .int s4, .int s5, .int s6, .ref m7, .ref m8, .ref m9, .int s10, .int s11, .int s12, .ref m13, .ref m14, .ref m15, .int s16, .ref m17, .ref m18, .ref m19, .ref m20, .ref m21, .ref m22, .ref m23, .ref m24, .ref m25, .ref m26, .ref m27, .ref m28, .int s29, .ref m30, .int s31, .int s32, .int s33, .int s34, .int s35, .ref m36, .ref m37, .ref m38, .ref m39, .long s40])), (m17, ai g 63 fc), (m19, ai g 4 fs)]) (Qc := fun A => va_Qv (po_X9_layCosts g k0 m0 s1 s2 s3 s4 s5 s6 m7 m8 m9 s10 s11 s12 m13 m14 m15 s16 m17 m18 m19 m20 m21 m22 m23 m24 m25 m26 m27 m28 s29 m30 s31 s32 s33 s34 s35 m36 m37 m38 m39 s40 fc fs a0 a1 a2 a3) (bk g A) A) (cc := cX9_layCosts) (maxL := 4) (ret := none) (by decide) rfl (Nat.le_of_ble_eq_true rfl) ?_ sz
  intro p e s m below meth c hx hb hr hts hown hlocks hnm hml A hA hE hZ hP hD hS ls hl
  have hown : s.vm.findClass RX9 = some m.cls := hown
  have hl : lv_has ls 4 [(0, .ref k0), (1, .int 4)] := hl
  refine lv_iconst (v := 0) hx hb dX9_layCosts_0 (by decide) ?_
  refine lv_istore_n (lv' := [(2, .int 0), (0, .ref k0), (1, .int 4)]) hx hb dX9_layCosts_1 rfl hl (by decide) rfl (fun ls hl => ?_)
  refine lv_iload_n hx hb dX9_layCosts_2 rfl (lv_at hl 0 rfl) ?_
  refine lv_aload_n hx hb dX9_layCosts_3 rfl (lv_at hl 1 rfl) ?_
  refine lv_iload_n hx hb dX9_layCosts_4 rfl (lv_at hl 2 rfl) ?_
  refine k_ci (wr := [(k0, .inr (9, [.ref m0, .int s1, .int s2, .int s3, .int s4, .int s5, .int s6, .ref m7, .ref m8, .ref m9, .int s10, .int s11, .int s12, .ref m13, .ref m14, .ref m15, .int s16, .ref m17, .ref m18, .ref m19, .ref m20, .ref m21, .ref m22, .ref m23, .ref m24, .ref m25, .ref m26, .ref m27, .ref m28, .int s29, .ref m30, .int s31, .int s32, .int s33, .int s34, .int s35, .ref m36, .ref m37, .ref m38, .ref m39, .long s40])), (m17, ai g 63 fc), (m19, ai g 4 fs)]) hP hD hS hA [] [0, 1, 2] rfl rfl (by decide) (by decide) (va_runV (As := [.int 4]) (rest := [.int 0]) ⟨hx, hb, hml, hown, hts⟩ (c_X9_nodesBy_4 l g k0  s.heap.size) (cwV 1 hts gX9_layCosts_X9_nodesBy rfl rfl rfl (by decide +kernel) ⟨Nat.le_of_ble_eq_true rfl, Nat.le_of_ble_eq_true rfl⟩) (k_preV hE hZ hP hD hS hA [] rfl (by decide) (va_recv hE.1 hP (ci := 9) (q0 := 0) rfl rfl)) rfl rfl hl.1 rfl (lv_room (Nat.le_of_ble_eq_true rfl)) dX9_layCosts_5 ⟨Nat.le_of_ble_eq_true rfl, Nat.le_of_ble_eq_true rfl⟩) (fun r_1 w1 H locs hw hP hD hS => ?_)
  obtain ⟨rfl, rfl⟩ := hw
  have hP : va_P g.1 vwCl [(k0, .inr (9, [.ref m0, .int s1, .int s2, .int s3, .int s4, .int s5, .int s6, .ref m7, .ref m8, .ref m9, .int s10, .int s11, .int s12, .ref m13, .ref m14, .ref m15, .int s16, .ref m17, .ref m18, .ref m19, .ref m20, .ref m21, .ref m22, .ref m23, .ref m24, .ref m25, .ref m26, .ref m27, .ref m28, .int s29, .ref m30, .int s31, .int s32, .int s33, .int s34, .int s35, .ref m36, .ref m37, .ref m38, .ref m39, .long s40])), (m17, ai g 63 fc), (m19, ai g 4 fs)] H := hP
  have hD : va_D A [(k0, .inr (9, [.ref m0, .int s1, .int s2, .int s3, .int s4, .int s5, .int s6, .ref m7, .ref m8, .ref m9, .int s10, .int s11, .int s12, .ref m13, .ref m14, .ref m15, .int s16, .ref m17, .ref m18, .ref m19, .ref m20, .ref m21, .ref m22, .ref m23, .ref m24, .ref m25, .ref m26, .ref m27, .ref m28, .int s29, .ref m30, .int s31, .int s32, .int s33, .int s34, .int s35, .ref m36, .ref m37, .ref m38, .ref m39, .long s40])), (m17, ai g 63 fc), (m19, ai g 4 fs)] := hD
  refine lv_icmp_ge (tgt := 88) hx hb dX9_layCosts_8 (by decide) (fun c8_3 => ?_) (fun c8_3 => ?_)
  · exact absurd c8_3 (by decide)
  · skip
    refine lv_iconst (v := 0) hx hb dX9_layCosts_11 (by decide) ?_
    refine lv_istore_n (lv' := [(3, .int 0), (2, .int 0), (0, .ref k0), (1, .int 4)]) hx hb dX9_layCosts_12 rfl hl (by decide) rfl (fun ls hl => ?_)
    have loop13 : ∀ (fu : Nat) (sd : Nat) (v0 : Nat → Int32), (hs : sd ≤ 9) → (hv0 : ∀ k, k < 0 + sd → v0 k = Mp a0 a1 a2 a3 k) → 9 - sd < fu → ∀ (H : Heap) (locs : List Loc) (ls : Array Slot), va_P g.1 vwCl [(k0, .inr (9, [.ref m0, .int s1, .int s2, .int s3, .int s4, .int s5, .int s6, .ref m7, .ref m8, .ref m9, .int s10, .int s11, .int s12, .ref m13, .ref m14, .ref m15, .int s16, .ref m17, .ref m18, .ref m19, .ref m20, .ref m21, .ref m22, .ref m23, .ref m24, .ref m25, .ref m26, .ref m27, .ref m28, .int s29, .ref m30, .int s31, .int s32, .int s33, .int s34, .int s35, .ref m36, .ref m37, .ref m38, .ref m39, .long s40])), (m17, ai g 63 v0), (m19, ai g 4 fs)] H → va_D A [(k0, .inr (9, [.ref m0, .int s1, .int s2, .int s3, .int s4, .int s5, .int s6, .ref m7, .ref m8, .ref m9, .int s10, .int s11, .int s12, .ref m13, .ref m14, .ref m15, .int s16, .ref m17, .ref m18, .ref m19, .ref m20, .ref m21, .ref m22, .ref m23, .ref m24, .ref m25, .ref m26, .ref m27, .ref m28, .int s29, .ref m30, .int s31, .int s32, .int s33, .int s34, .int s35, .ref m36, .ref m37, .ref m38, .ref m39, .long s40])), (m17, ai g 63 v0), (m19, ai g 4 fs)] → va_S A s.heap H locs → lv_has ls 4 [(0, .ref k0), (1, .int 4), (2, .int 0), (3, .int (nI sd))] → W p l e ({ frames := 4, cells := 0, slots := 0, locals := 91 }) s m [.ref k0, .int 4].toArray below meth c H locs 0 0 (MQ below (va_Qv (po_X9_layCosts g k0 m0 s1 s2 s3 s4 s5 s6 m7 m8 m9 s10 s11 s12 m13 m14 m15 s16 m17 m18 m19 m20 m21 m22 m23 m24 m25 m26 m27 m28 s29 m30 s31 s32 s33 s34 s35 m36 m37 m38 m39 s40 fc fs a0 a1 a2 a3) (bk g A) A) [.ref k0, .int 4].toArray s 0 0 A) (F0 m 13 ls []) := by
      intro fu
      induction fu with
      | zero => intro sd v0 hs hv0 hfu; exact absurd hfu (Nat.not_lt_zero _)
      | succ fu ih =>
        intro sd v0 hs hv0 hfu H locs ls hP hD hS hl
        have ih13 := ih
        refine lv_iload_n hx hb dX9_layCosts_13 rfl (lv_at hl 3 rfl) ?_
        refine lv_bipush (v := 9) hx hb dX9_layCosts_14 (by decide) ?_
        refine lv_icmp_ge (tgt := 82) hx hb dX9_layCosts_16 (by decide) (fun c16_4 => ?_) (fun c16_4 => ?_)
        · skip
          have hs10 := ge_of_le (k := 9) (n := sd) (by decide) (by omega) c16_4
          refine lv_iinc (v := 1) (lv' := [(2, .int 1), (0, .ref k0), (1, .int 4), (3, .int (nI sd))]) hx hb dX9_layCosts_82 hl (k := 2) rfl (by decide) (by decide) rfl (fun ls hl => ?_)
          refine lv_goto (tgt := 2) hx hb dX9_layCosts_85 (by decide) ?_
          refine lv_iload_n hx hb dX9_layCosts_2 rfl (lv_at hl 0 rfl) ?_
          refine lv_aload_n hx hb dX9_layCosts_3 rfl (lv_at hl 1 rfl) ?_
          refine lv_iload_n hx hb dX9_layCosts_4 rfl (lv_at hl 2 rfl) ?_
          refine k_ci (wr := [(k0, .inr (9, [.ref m0, .int s1, .int s2, .int s3, .int s4, .int s5, .int s6, .ref m7, .ref m8, .ref m9, .int s10, .int s11, .int s12, .ref m13, .ref m14, .ref m15, .int s16, .ref m17, .ref m18, .ref m19, .ref m20, .ref m21, .ref m22, .ref m23, .ref m24, .ref m25, .ref m26, .ref m27, .ref m28, .int s29, .ref m30, .int s31, .int s32, .int s33, .int s34, .int s35, .ref m36, .ref m37, .ref m38, .ref m39, .long s40])), (m17, ai g 63 v0), (m19, ai g 4 fs)]) hP hD hS hA [] [0, 1, 2] rfl rfl (by decide) (by decide) (va_runV (As := [.int 4]) (rest := [.int 1]) ⟨hx, hb, hml, hown, hts⟩ (c_X9_nodesBy_4 l g k0  H.size) (cwV 1 hts gX9_layCosts_X9_nodesBy rfl rfl rfl (by decide +kernel) ⟨Nat.le_of_ble_eq_true rfl, Nat.le_of_ble_eq_true rfl⟩) (k_preV hE hZ hP hD hS hA [] rfl (by decide) (va_recv hE.1 hP (ci := 9) (q0 := 0) rfl rfl)) rfl rfl hl.1 rfl (lv_room (Nat.le_of_ble_eq_true rfl)) dX9_layCosts_5 ⟨Nat.le_of_ble_eq_true rfl, Nat.le_of_ble_eq_true rfl⟩) (fun r_5 w1 H locs hw hP hD hS => ?_)
          obtain ⟨rfl, rfl⟩ := hw
          have hP : va_P g.1 vwCl [(k0, .inr (9, [.ref m0, .int s1, .int s2, .int s3, .int s4, .int s5, .int s6, .ref m7, .ref m8, .ref m9, .int s10, .int s11, .int s12, .ref m13, .ref m14, .ref m15, .int s16, .ref m17, .ref m18, .ref m19, .ref m20, .ref m21, .ref m22, .ref m23, .ref m24, .ref m25, .ref m26, .ref m27, .ref m28, .int s29, .ref m30, .int s31, .int s32, .int s33, .int s34, .int s35, .ref m36, .ref m37, .ref m38, .ref m39, .long s40])), (m17, ai g 63 v0), (m19, ai g 4 fs)] H := hP
          have hD : va_D A [(k0, .inr (9, [.ref m0, .int s1, .int s2, .int s3, .int s4, .int s5, .int s6, .ref m7, .ref m8, .ref m9, .int s10, .int s11, .int s12, .ref m13, .ref m14, .ref m15, .int s16, .ref m17, .ref m18, .ref m19, .ref m20, .ref m21, .ref m22, .ref m23, .ref m24, .ref m25, .ref m26, .ref m27, .ref m28, .int s29, .ref m30, .int s31, .int s32, .int s33, .int s34, .int s35, .ref m36, .ref m37, .ref m38, .ref m39, .long s40])), (m17, ai g 63 v0), (m19, ai g 4 fs)] := hD
          refine lv_icmp_ge (tgt := 88) hx hb dX9_layCosts_8 (by decide) (fun c8_7 => ?_) (fun c8_7 => ?_)
          · exact absurd c8_7 (by decide)
          · skip
            refine lv_iconst (v := 0) hx hb dX9_layCosts_11 (by decide) ?_
            refine lv_istore_n (lv' := [(3, .int 0), (2, .int 1), (0, .ref k0), (1, .int 4)]) hx hb dX9_layCosts_12 rfl hl (by decide) rfl (fun ls hl => ?_)
            have loop13 : ∀ (fu : Nat) (sd : Nat) (v1 : Nat → Int32), (hs : sd ≤ 9) → (hv1 : ∀ k, k < 9 + sd → v1 k = Mp a0 a1 a2 a3 k) → 9 - sd < fu → ∀ (H : Heap) (locs : List Loc) (ls : Array Slot), va_P g.1 vwCl [(k0, .inr (9, [.ref m0, .int s1, .int s2, .int s3, .int s4, .int s5, .int s6, .ref m7, .ref m8, .ref m9, .int s10, .int s11, .int s12, .ref m13, .ref m14, .ref m15, .int s16, .ref m17, .ref m18, .ref m19, .ref m20, .ref m21, .ref m22, .ref m23, .ref m24, .ref m25, .ref m26, .ref m27, .ref m28, .int s29, .ref m30, .int s31, .int s32, .int s33, .int s34, .int s35, .ref m36, .ref m37, .ref m38, .ref m39, .long s40])), (m17, ai g 63 v1), (m19, ai g 4 fs)] H → va_D A [(k0, .inr (9, [.ref m0, .int s1, .int s2, .int s3, .int s4, .int s5, .int s6, .ref m7, .ref m8, .ref m9, .int s10, .int s11, .int s12, .ref m13, .ref m14, .ref m15, .int s16, .ref m17, .ref m18, .ref m19, .ref m20, .ref m21, .ref m22, .ref m23, .ref m24, .ref m25, .ref m26, .ref m27, .ref m28, .int s29, .ref m30, .int s31, .int s32, .int s33, .int s34, .int s35, .ref m36, .ref m37, .ref m38, .ref m39, .long s40])), (m17, ai g 63 v1), (m19, ai g 4 fs)] → va_S A s.heap H locs → lv_has ls 4 [(0, .ref k0), (1, .int 4), (2, .int 1), (3, .int (nI sd))] → W p l e ({ frames := 4, cells := 0, slots := 0, locals := 91 }) s m [.ref k0, .int 4].toArray below meth c H locs 0 0 (MQ below (va_Qv (po_X9_layCosts g k0 m0 s1 s2 s3 s4 s5 s6 m7 m8 m9 s10 s11 s12 m13 m14 m15 s16 m17 m18 m19 m20 m21 m22 m23 m24 m25 m26 m27 m28 s29 m30 s31 s32 s33 s34 s35 m36 m37 m38 m39 s40 fc fs a0 a1 a2 a3) (bk g A) A) [.ref k0, .int 4].toArray s 0 0 A) (F0 m 13 ls []) := by
              intro fu
              induction fu with
              | zero => intro sd v1 hs hv1 hfu; exact absurd hfu (Nat.not_lt_zero _)
              | succ fu ih =>
                intro sd v1 hs hv1 hfu H locs ls hP hD hS hl
                have ih13 := ih
                refine lv_iload_n hx hb dX9_layCosts_13 rfl (lv_at hl 3 rfl) ?_
                refine lv_bipush (v := 9) hx hb dX9_layCosts_14 (by decide) ?_
                refine lv_icmp_ge (tgt := 82) hx hb dX9_layCosts_16 (by decide) (fun c16_8 => ?_) (fun c16_8 => ?_)
                · skip
                  have hs10 := ge_of_le (k := 9) (n := sd) (by decide) (by omega) c16_8
                  refine lv_iinc (v := 2) (lv' := [(2, .int 2), (0, .ref k0), (1, .int 4), (3, .int (nI sd))]) hx hb dX9_layCosts_82 hl (k := 2) rfl (by decide) (by decide) rfl (fun ls hl => ?_)
                  refine lv_goto (tgt := 2) hx hb dX9_layCosts_85 (by decide) ?_
                  refine lv_iload_n hx hb dX9_layCosts_2 rfl (lv_at hl 0 rfl) ?_
                  refine lv_aload_n hx hb dX9_layCosts_3 rfl (lv_at hl 1 rfl) ?_
                  refine lv_iload_n hx hb dX9_layCosts_4 rfl (lv_at hl 2 rfl) ?_
                  refine k_ci (wr := [(k0, .inr (9, [.ref m0, .int s1, .int s2, .int s3, .int s4, .int s5, .int s6, .ref m7, .ref m8, .ref m9, .int s10, .int s11, .int s12, .ref m13, .ref m14, .ref m15, .int s16, .ref m17, .ref m18, .ref m19, .ref m20, .ref m21, .ref m22, .ref m23, .ref m24, .ref m25, .ref m26, .ref m27, .ref m28, .int s29, .ref m30, .int s31, .int s32, .int s33, .int s34, .int s35, .ref m36, .ref m37, .ref m38, .ref m39, .long s40])), (m17, ai g 63 v1), (m19, ai g 4 fs)]) hP hD hS hA [] [0, 1, 2] rfl rfl (by decide) (by decide) (va_runV (As := [.int 4]) (rest := [.int 2]) ⟨hx, hb, hml, hown, hts⟩ (c_X9_nodesBy_4 l g k0  H.size) (cwV 1 hts gX9_layCosts_X9_nodesBy rfl rfl rfl (by decide +kernel) ⟨Nat.le_of_ble_eq_true rfl, Nat.le_of_ble_eq_true rfl⟩) (k_preV hE hZ hP hD hS hA [] rfl (by decide) (va_recv hE.1 hP (ci := 9) (q0 := 0) rfl rfl)) rfl rfl hl.1 rfl (lv_room (Nat.le_of_ble_eq_true rfl)) dX9_layCosts_5 ⟨Nat.le_of_ble_eq_true rfl, Nat.le_of_ble_eq_true rfl⟩) (fun r_9 w1 H locs hw hP hD hS => ?_)
                  obtain ⟨rfl, rfl⟩ := hw
                  have hP : va_P g.1 vwCl [(k0, .inr (9, [.ref m0, .int s1, .int s2, .int s3, .int s4, .int s5, .int s6, .ref m7, .ref m8, .ref m9, .int s10, .int s11, .int s12, .ref m13, .ref m14, .ref m15, .int s16, .ref m17, .ref m18, .ref m19, .ref m20, .ref m21, .ref m22, .ref m23, .ref m24, .ref m25, .ref m26, .ref m27, .ref m28, .int s29, .ref m30, .int s31, .int s32, .int s33, .int s34, .int s35, .ref m36, .ref m37, .ref m38, .ref m39, .long s40])), (m17, ai g 63 v1), (m19, ai g 4 fs)] H := hP
                  have hD : va_D A [(k0, .inr (9, [.ref m0, .int s1, .int s2, .int s3, .int s4, .int s5, .int s6, .ref m7, .ref m8, .ref m9, .int s10, .int s11, .int s12, .ref m13, .ref m14, .ref m15, .int s16, .ref m17, .ref m18, .ref m19, .ref m20, .ref m21, .ref m22, .ref m23, .ref m24, .ref m25, .ref m26, .ref m27, .ref m28, .int s29, .ref m30, .int s31, .int s32, .int s33, .int s34, .int s35, .ref m36, .ref m37, .ref m38, .ref m39, .long s40])), (m17, ai g 63 v1), (m19, ai g 4 fs)] := hD
                  refine lv_icmp_ge (tgt := 88) hx hb dX9_layCosts_8 (by decide) (fun c8_11 => ?_) (fun c8_11 => ?_)
                  · exact absurd c8_11 (by decide)
                  · skip
                    refine lv_iconst (v := 0) hx hb dX9_layCosts_11 (by decide) ?_
                    refine lv_istore_n (lv' := [(3, .int 0), (2, .int 2), (0, .ref k0), (1, .int 4)]) hx hb dX9_layCosts_12 rfl hl (by decide) rfl (fun ls hl => ?_)
                    have loop13 : ∀ (fu : Nat) (sd : Nat) (v2 : Nat → Int32), (hs : sd ≤ 9) → (hv2 : ∀ k, k < 18 + sd → v2 k = Mp a0 a1 a2 a3 k) → 9 - sd < fu → ∀ (H : Heap) (locs : List Loc) (ls : Array Slot), va_P g.1 vwCl [(k0, .inr (9, [.ref m0, .int s1, .int s2, .int s3, .int s4, .int s5, .int s6, .ref m7, .ref m8, .ref m9, .int s10, .int s11, .int s12, .ref m13, .ref m14, .ref m15, .int s16, .ref m17, .ref m18, .ref m19, .ref m20, .ref m21, .ref m22, .ref m23, .ref m24, .ref m25, .ref m26, .ref m27, .ref m28, .int s29, .ref m30, .int s31, .int s32, .int s33, .int s34, .int s35, .ref m36, .ref m37, .ref m38, .ref m39, .long s40])), (m17, ai g 63 v2), (m19, ai g 4 fs)] H → va_D A [(k0, .inr (9, [.ref m0, .int s1, .int s2, .int s3, .int s4, .int s5, .int s6, .ref m7, .ref m8, .ref m9, .int s10, .int s11, .int s12, .ref m13, .ref m14, .ref m15, .int s16, .ref m17, .ref m18, .ref m19, .ref m20, .ref m21, .ref m22, .ref m23, .ref m24, .ref m25, .ref m26, .ref m27, .ref m28, .int s29, .ref m30, .int s31, .int s32, .int s33, .int s34, .int s35, .ref m36, .ref m37, .ref m38, .ref m39, .long s40])), (m17, ai g 63 v2), (m19, ai g 4 fs)] → va_S A s.heap H locs → lv_has ls 4 [(0, .ref k0), (1, .int 4), (2, .int 2), (3, .int (nI sd))] → W p l e ({ frames := 4, cells := 0, slots := 0, locals := 91 }) s m [.ref k0, .int 4].toArray below meth c H locs 0 0 (MQ below (va_Qv (po_X9_layCosts g k0 m0 s1 s2 s3 s4 s5 s6 m7 m8 m9 s10 s11 s12 m13 m14 m15 s16 m17 m18 m19 m20 m21 m22 m23 m24 m25 m26 m27 m28 s29 m30 s31 s32 s33 s34 s35 m36 m37 m38 m39 s40 fc fs a0 a1 a2 a3) (bk g A) A) [.ref k0, .int 4].toArray s 0 0 A) (F0 m 13 ls []) := by
                      intro fu
                      induction fu with
                      | zero => intro sd v2 hs hv2 hfu; exact absurd hfu (Nat.not_lt_zero _)
                      | succ fu ih =>
                        intro sd v2 hs hv2 hfu H locs ls hP hD hS hl
                        have ih13 := ih
                        refine lv_iload_n hx hb dX9_layCosts_13 rfl (lv_at hl 3 rfl) ?_
                        refine lv_bipush (v := 9) hx hb dX9_layCosts_14 (by decide) ?_
                        refine lv_icmp_ge (tgt := 82) hx hb dX9_layCosts_16 (by decide) (fun c16_12 => ?_) (fun c16_12 => ?_)
                        · skip
                          have hs10 := ge_of_le (k := 9) (n := sd) (by decide) (by omega) c16_12
                          refine lv_iinc (v := 3) (lv' := [(2, .int 3), (0, .ref k0), (1, .int 4), (3, .int (nI sd))]) hx hb dX9_layCosts_82 hl (k := 2) rfl (by decide) (by decide) rfl (fun ls hl => ?_)
                          refine lv_goto (tgt := 2) hx hb dX9_layCosts_85 (by decide) ?_
                          refine lv_iload_n hx hb dX9_layCosts_2 rfl (lv_at hl 0 rfl) ?_
                          refine lv_aload_n hx hb dX9_layCosts_3 rfl (lv_at hl 1 rfl) ?_
                          refine lv_iload_n hx hb dX9_layCosts_4 rfl (lv_at hl 2 rfl) ?_
                          refine k_ci (wr := [(k0, .inr (9, [.ref m0, .int s1, .int s2, .int s3, .int s4, .int s5, .int s6, .ref m7, .ref m8, .ref m9, .int s10, .int s11, .int s12, .ref m13, .ref m14, .ref m15, .int s16, .ref m17, .ref m18, .ref m19, .ref m20, .ref m21, .ref m22, .ref m23, .ref m24, .ref m25, .ref m26, .ref m27, .ref m28, .int s29, .ref m30, .int s31, .int s32, .int s33, .int s34, .int s35, .ref m36, .ref m37, .ref m38, .ref m39, .long s40])), (m17, ai g 63 v2), (m19, ai g 4 fs)]) hP hD hS hA [] [0, 1, 2] rfl rfl (by decide) (by decide) (va_runV (As := [.int 4]) (rest := [.int 3]) ⟨hx, hb, hml, hown, hts⟩ (c_X9_nodesBy_4 l g k0  H.size) (cwV 1 hts gX9_layCosts_X9_nodesBy rfl rfl rfl (by decide +kernel) ⟨Nat.le_of_ble_eq_true rfl, Nat.le_of_ble_eq_true rfl⟩) (k_preV hE hZ hP hD hS hA [] rfl (by decide) (va_recv hE.1 hP (ci := 9) (q0 := 0) rfl rfl)) rfl rfl hl.1 rfl (lv_room (Nat.le_of_ble_eq_true rfl)) dX9_layCosts_5 ⟨Nat.le_of_ble_eq_true rfl, Nat.le_of_ble_eq_true rfl⟩) (fun r_13 w1 H locs hw hP hD hS => ?_)
                          obtain ⟨rfl, rfl⟩ := hw
                          have hP : va_P g.1 vwCl [(k0, .inr (9, [.ref m0, .int s1, .int s2, .int s3, .int s4, .int s5, .int s6, .ref m7, .ref m8, .ref m9, .int s10, .int s11, .int s12, .ref m13, .ref m14, .ref m15, .int s16, .ref m17, .ref m18, .ref m19, .ref m20, .ref m21, .ref m22, .ref m23, .ref m24, .ref m25, .ref m26, .ref m27, .ref m28, .int s29, .ref m30, .int s31, .int s32, .int s33, .int s34, .int s35, .ref m36, .ref m37, .ref m38, .ref m39, .long s40])), (m17, ai g 63 v2), (m19, ai g 4 fs)] H := hP
                          have hD : va_D A [(k0, .inr (9, [.ref m0, .int s1, .int s2, .int s3, .int s4, .int s5, .int s6, .ref m7, .ref m8, .ref m9, .int s10, .int s11, .int s12, .ref m13, .ref m14, .ref m15, .int s16, .ref m17, .ref m18, .ref m19, .ref m20, .ref m21, .ref m22, .ref m23, .ref m24, .ref m25, .ref m26, .ref m27, .ref m28, .int s29, .ref m30, .int s31, .int s32, .int s33, .int s34, .int s35, .ref m36, .ref m37, .ref m38, .ref m39, .long s40])), (m17, ai g 63 v2), (m19, ai g 4 fs)] := hD
                          refine lv_icmp_ge (tgt := 88) hx hb dX9_layCosts_8 (by decide) (fun c8_15 => ?_) (fun c8_15 => ?_)
                          · exact absurd c8_15 (by decide)
                          · skip
                            refine lv_iconst (v := 0) hx hb dX9_layCosts_11 (by decide) ?_
                            refine lv_istore_n (lv' := [(3, .int 0), (2, .int 3), (0, .ref k0), (1, .int 4)]) hx hb dX9_layCosts_12 rfl hl (by decide) rfl (fun ls hl => ?_)
                            have loop13 : ∀ (fu : Nat) (sd : Nat) (v3 : Nat → Int32), (hs : sd ≤ 9) → (hv3 : ∀ k, k < 27 + sd → v3 k = Mp a0 a1 a2 a3 k) → 9 - sd < fu → ∀ (H : Heap) (locs : List Loc) (ls : Array Slot), va_P g.1 vwCl [(k0, .inr (9, [.ref m0, .int s1, .int s2, .int s3, .int s4, .int s5, .int s6, .ref m7, .ref m8, .ref m9, .int s10, .int s11, .int s12, .ref m13, .ref m14, .ref m15, .int s16, .ref m17, .ref m18, .ref m19, .ref m20, .ref m21, .ref m22, .ref m23, .ref m24, .ref m25, .ref m26, .ref m27, .ref m28, .int s29, .ref m30, .int s31, .int s32, .int s33, .int s34, .int s35, .ref m36, .ref m37, .ref m38, .ref m39, .long s40])), (m17, ai g 63 v3), (m19, ai g 4 fs)] H → va_D A [(k0, .inr (9, [.ref m0, .int s1, .int s2, .int s3, .int s4, .int s5, .int s6, .ref m7, .ref m8, .ref m9, .int s10, .int s11, .int s12, .ref m13, .ref m14, .ref m15, .int s16, .ref m17, .ref m18, .ref m19, .ref m20, .ref m21, .ref m22, .ref m23, .ref m24, .ref m25, .ref m26, .ref m27, .ref m28, .int s29, .ref m30, .int s31, .int s32, .int s33, .int s34, .int s35, .ref m36, .ref m37, .ref m38, .ref m39, .long s40])), (m17, ai g 63 v3), (m19, ai g 4 fs)] → va_S A s.heap H locs → lv_has ls 4 [(0, .ref k0), (1, .int 4), (2, .int 3), (3, .int (nI sd))] → W p l e ({ frames := 4, cells := 0, slots := 0, locals := 91 }) s m [.ref k0, .int 4].toArray below meth c H locs 0 0 (MQ below (va_Qv (po_X9_layCosts g k0 m0 s1 s2 s3 s4 s5 s6 m7 m8 m9 s10 s11 s12 m13 m14 m15 s16 m17 m18 m19 m20 m21 m22 m23 m24 m25 m26 m27 m28 s29 m30 s31 s32 s33 s34 s35 m36 m37 m38 m39 s40 fc fs a0 a1 a2 a3) (bk g A) A) [.ref k0, .int 4].toArray s 0 0 A) (F0 m 13 ls []) := by
                              intro fu
                              induction fu with
                              | zero => intro sd v3 hs hv3 hfu; exact absurd hfu (Nat.not_lt_zero _)
                              | succ fu ih =>
                                intro sd v3 hs hv3 hfu H locs ls hP hD hS hl
                                have ih13 := ih
                                refine lv_iload_n hx hb dX9_layCosts_13 rfl (lv_at hl 3 rfl) ?_
                                refine lv_bipush (v := 9) hx hb dX9_layCosts_14 (by decide) ?_
                                refine lv_icmp_ge (tgt := 82) hx hb dX9_layCosts_16 (by decide) (fun c16_16 => ?_) (fun c16_16 => ?_)
                                · skip
                                  have hs10 := ge_of_le (k := 9) (n := sd) (by decide) (by omega) c16_16
                                  refine lv_iinc (v := 4) (lv' := [(2, .int 4), (0, .ref k0), (1, .int 4), (3, .int (nI sd))]) hx hb dX9_layCosts_82 hl (k := 2) rfl (by decide) (by decide) rfl (fun ls hl => ?_)
                                  refine lv_goto (tgt := 2) hx hb dX9_layCosts_85 (by decide) ?_
                                  refine lv_iload_n hx hb dX9_layCosts_2 rfl (lv_at hl 0 rfl) ?_
                                  refine lv_aload_n hx hb dX9_layCosts_3 rfl (lv_at hl 1 rfl) ?_
                                  refine lv_iload_n hx hb dX9_layCosts_4 rfl (lv_at hl 2 rfl) ?_
                                  refine k_ci (wr := [(k0, .inr (9, [.ref m0, .int s1, .int s2, .int s3, .int s4, .int s5, .int s6, .ref m7, .ref m8, .ref m9, .int s10, .int s11, .int s12, .ref m13, .ref m14, .ref m15, .int s16, .ref m17, .ref m18, .ref m19, .ref m20, .ref m21, .ref m22, .ref m23, .ref m24, .ref m25, .ref m26, .ref m27, .ref m28, .int s29, .ref m30, .int s31, .int s32, .int s33, .int s34, .int s35, .ref m36, .ref m37, .ref m38, .ref m39, .long s40])), (m17, ai g 63 v3), (m19, ai g 4 fs)]) hP hD hS hA [] [0, 1, 2] rfl rfl (by decide) (by decide) (va_runV (As := [.int 4]) (rest := [.int 4]) ⟨hx, hb, hml, hown, hts⟩ (c_X9_nodesBy_4 l g k0  H.size) (cwV 1 hts gX9_layCosts_X9_nodesBy rfl rfl rfl (by decide +kernel) ⟨Nat.le_of_ble_eq_true rfl, Nat.le_of_ble_eq_true rfl⟩) (k_preV hE hZ hP hD hS hA [] rfl (by decide) (va_recv hE.1 hP (ci := 9) (q0 := 0) rfl rfl)) rfl rfl hl.1 rfl (lv_room (Nat.le_of_ble_eq_true rfl)) dX9_layCosts_5 ⟨Nat.le_of_ble_eq_true rfl, Nat.le_of_ble_eq_true rfl⟩) (fun r_17 w1 H locs hw hP hD hS => ?_)
                                  obtain ⟨rfl, rfl⟩ := hw
                                  have hP : va_P g.1 vwCl [(k0, .inr (9, [.ref m0, .int s1, .int s2, .int s3, .int s4, .int s5, .int s6, .ref m7, .ref m8, .ref m9, .int s10, .int s11, .int s12, .ref m13, .ref m14, .ref m15, .int s16, .ref m17, .ref m18, .ref m19, .ref m20, .ref m21, .ref m22, .ref m23, .ref m24, .ref m25, .ref m26, .ref m27, .ref m28, .int s29, .ref m30, .int s31, .int s32, .int s33, .int s34, .int s35, .ref m36, .ref m37, .ref m38, .ref m39, .long s40])), (m17, ai g 63 v3), (m19, ai g 4 fs)] H := hP
                                  have hD : va_D A [(k0, .inr (9, [.ref m0, .int s1, .int s2, .int s3, .int s4, .int s5, .int s6, .ref m7, .ref m8, .ref m9, .int s10, .int s11, .int s12, .ref m13, .ref m14, .ref m15, .int s16, .ref m17, .ref m18, .ref m19, .ref m20, .ref m21, .ref m22, .ref m23, .ref m24, .ref m25, .ref m26, .ref m27, .ref m28, .int s29, .ref m30, .int s31, .int s32, .int s33, .int s34, .int s35, .ref m36, .ref m37, .ref m38, .ref m39, .long s40])), (m17, ai g 63 v3), (m19, ai g 4 fs)] := hD
                                  refine lv_icmp_ge (tgt := 88) hx hb dX9_layCosts_8 (by decide) (fun c8_19 => ?_) (fun c8_19 => ?_)
                                  · exact absurd c8_19 (by decide)
                                  · skip
                                    refine lv_iconst (v := 0) hx hb dX9_layCosts_11 (by decide) ?_
                                    refine lv_istore_n (lv' := [(3, .int 0), (2, .int 4), (0, .ref k0), (1, .int 4)]) hx hb dX9_layCosts_12 rfl hl (by decide) rfl (fun ls hl => ?_)
                                    have loop13 : ∀ (fu : Nat) (sd : Nat) (v4 : Nat → Int32), (hs : sd ≤ 9) → (hv4 : ∀ k, k < 36 + sd → v4 k = Mp a0 a1 a2 a3 k) → 9 - sd < fu → ∀ (H : Heap) (locs : List Loc) (ls : Array Slot), va_P g.1 vwCl [(k0, .inr (9, [.ref m0, .int s1, .int s2, .int s3, .int s4, .int s5, .int s6, .ref m7, .ref m8, .ref m9, .int s10, .int s11, .int s12, .ref m13, .ref m14, .ref m15, .int s16, .ref m17, .ref m18, .ref m19, .ref m20, .ref m21, .ref m22, .ref m23, .ref m24, .ref m25, .ref m26, .ref m27, .ref m28, .int s29, .ref m30, .int s31, .int s32, .int s33, .int s34, .int s35, .ref m36, .ref m37, .ref m38, .ref m39, .long s40])), (m17, ai g 63 v4), (m19, ai g 4 fs)] H → va_D A [(k0, .inr (9, [.ref m0, .int s1, .int s2, .int s3, .int s4, .int s5, .int s6, .ref m7, .ref m8, .ref m9, .int s10, .int s11, .int s12, .ref m13, .ref m14, .ref m15, .int s16, .ref m17, .ref m18, .ref m19, .ref m20, .ref m21, .ref m22, .ref m23, .ref m24, .ref m25, .ref m26, .ref m27, .ref m28, .int s29, .ref m30, .int s31, .int s32, .int s33, .int s34, .int s35, .ref m36, .ref m37, .ref m38, .ref m39, .long s40])), (m17, ai g 63 v4), (m19, ai g 4 fs)] → va_S A s.heap H locs → lv_has ls 4 [(0, .ref k0), (1, .int 4), (2, .int 4), (3, .int (nI sd))] → W p l e ({ frames := 4, cells := 0, slots := 0, locals := 91 }) s m [.ref k0, .int 4].toArray below meth c H locs 0 0 (MQ below (va_Qv (po_X9_layCosts g k0 m0 s1 s2 s3 s4 s5 s6 m7 m8 m9 s10 s11 s12 m13 m14 m15 s16 m17 m18 m19 m20 m21 m22 m23 m24 m25 m26 m27 m28 s29 m30 s31 s32 s33 s34 s35 m36 m37 m38 m39 s40 fc fs a0 a1 a2 a3) (bk g A) A) [.ref k0, .int 4].toArray s 0 0 A) (F0 m 13 ls []) := by
                                      intro fu
                                      induction fu with
                                      | zero => intro sd v4 hs hv4 hfu; exact absurd hfu (Nat.not_lt_zero _)
                                      | succ fu ih =>
                                        intro sd v4 hs hv4 hfu H locs ls hP hD hS hl
                                        have ih13 := ih
                                        refine lv_iload_n hx hb dX9_layCosts_13 rfl (lv_at hl 3 rfl) ?_
                                        refine lv_bipush (v := 9) hx hb dX9_layCosts_14 (by decide) ?_
                                        refine lv_icmp_ge (tgt := 82) hx hb dX9_layCosts_16 (by decide) (fun c16_20 => ?_) (fun c16_20 => ?_)
                                        · skip
                                          have hs10 := ge_of_le (k := 9) (n := sd) (by decide) (by omega) c16_20
                                          refine lv_iinc (v := 5) (lv' := [(2, .int 5), (0, .ref k0), (1, .int 4), (3, .int (nI sd))]) hx hb dX9_layCosts_82 hl (k := 2) rfl (by decide) (by decide) rfl (fun ls hl => ?_)
                                          refine lv_goto (tgt := 2) hx hb dX9_layCosts_85 (by decide) ?_
                                          refine lv_iload_n hx hb dX9_layCosts_2 rfl (lv_at hl 0 rfl) ?_
                                          refine lv_aload_n hx hb dX9_layCosts_3 rfl (lv_at hl 1 rfl) ?_
                                          refine lv_iload_n hx hb dX9_layCosts_4 rfl (lv_at hl 2 rfl) ?_
                                          refine k_ci (wr := [(k0, .inr (9, [.ref m0, .int s1, .int s2, .int s3, .int s4, .int s5, .int s6, .ref m7, .ref m8, .ref m9, .int s10, .int s11, .int s12, .ref m13, .ref m14, .ref m15, .int s16, .ref m17, .ref m18, .ref m19, .ref m20, .ref m21, .ref m22, .ref m23, .ref m24, .ref m25, .ref m26, .ref m27, .ref m28, .int s29, .ref m30, .int s31, .int s32, .int s33, .int s34, .int s35, .ref m36, .ref m37, .ref m38, .ref m39, .long s40])), (m17, ai g 63 v4), (m19, ai g 4 fs)]) hP hD hS hA [] [0, 1, 2] rfl rfl (by decide) (by decide) (va_runV (As := [.int 4]) (rest := [.int 5]) ⟨hx, hb, hml, hown, hts⟩ (c_X9_nodesBy_4 l g k0  H.size) (cwV 1 hts gX9_layCosts_X9_nodesBy rfl rfl rfl (by decide +kernel) ⟨Nat.le_of_ble_eq_true rfl, Nat.le_of_ble_eq_true rfl⟩) (k_preV hE hZ hP hD hS hA [] rfl (by decide) (va_recv hE.1 hP (ci := 9) (q0 := 0) rfl rfl)) rfl rfl hl.1 rfl (lv_room (Nat.le_of_ble_eq_true rfl)) dX9_layCosts_5 ⟨Nat.le_of_ble_eq_true rfl, Nat.le_of_ble_eq_true rfl⟩) (fun r_21 w1 H locs hw hP hD hS => ?_)
                                          obtain ⟨rfl, rfl⟩ := hw
                                          have hP : va_P g.1 vwCl [(k0, .inr (9, [.ref m0, .int s1, .int s2, .int s3, .int s4, .int s5, .int s6, .ref m7, .ref m8, .ref m9, .int s10, .int s11, .int s12, .ref m13, .ref m14, .ref m15, .int s16, .ref m17, .ref m18, .ref m19, .ref m20, .ref m21, .ref m22, .ref m23, .ref m24, .ref m25, .ref m26, .ref m27, .ref m28, .int s29, .ref m30, .int s31, .int s32, .int s33, .int s34, .int s35, .ref m36, .ref m37, .ref m38, .ref m39, .long s40])), (m17, ai g 63 v4), (m19, ai g 4 fs)] H := hP
                                          have hD : va_D A [(k0, .inr (9, [.ref m0, .int s1, .int s2, .int s3, .int s4, .int s5, .int s6, .ref m7, .ref m8, .ref m9, .int s10, .int s11, .int s12, .ref m13, .ref m14, .ref m15, .int s16, .ref m17, .ref m18, .ref m19, .ref m20, .ref m21, .ref m22, .ref m23, .ref m24, .ref m25, .ref m26, .ref m27, .ref m28, .int s29, .ref m30, .int s31, .int s32, .int s33, .int s34, .int s35, .ref m36, .ref m37, .ref m38, .ref m39, .long s40])), (m17, ai g 63 v4), (m19, ai g 4 fs)] := hD
                                          refine lv_icmp_ge (tgt := 88) hx hb dX9_layCosts_8 (by decide) (fun c8_23 => ?_) (fun c8_23 => ?_)
                                          · exact absurd c8_23 (by decide)
                                          · skip
                                            refine lv_iconst (v := 0) hx hb dX9_layCosts_11 (by decide) ?_
                                            refine lv_istore_n (lv' := [(3, .int 0), (2, .int 5), (0, .ref k0), (1, .int 4)]) hx hb dX9_layCosts_12 rfl hl (by decide) rfl (fun ls hl => ?_)
                                            have loop13 : ∀ (fu : Nat) (sd : Nat) (v5 : Nat → Int32), (hs : sd ≤ 9) → (hv5 : ∀ k, k < 45 + sd → v5 k = Mp a0 a1 a2 a3 k) → 9 - sd < fu → ∀ (H : Heap) (locs : List Loc) (ls : Array Slot), va_P g.1 vwCl [(k0, .inr (9, [.ref m0, .int s1, .int s2, .int s3, .int s4, .int s5, .int s6, .ref m7, .ref m8, .ref m9, .int s10, .int s11, .int s12, .ref m13, .ref m14, .ref m15, .int s16, .ref m17, .ref m18, .ref m19, .ref m20, .ref m21, .ref m22, .ref m23, .ref m24, .ref m25, .ref m26, .ref m27, .ref m28, .int s29, .ref m30, .int s31, .int s32, .int s33, .int s34, .int s35, .ref m36, .ref m37, .ref m38, .ref m39, .long s40])), (m17, ai g 63 v5), (m19, ai g 4 fs)] H → va_D A [(k0, .inr (9, [.ref m0, .int s1, .int s2, .int s3, .int s4, .int s5, .int s6, .ref m7, .ref m8, .ref m9, .int s10, .int s11, .int s12, .ref m13, .ref m14, .ref m15, .int s16, .ref m17, .ref m18, .ref m19, .ref m20, .ref m21, .ref m22, .ref m23, .ref m24, .ref m25, .ref m26, .ref m27, .ref m28, .int s29, .ref m30, .int s31, .int s32, .int s33, .int s34, .int s35, .ref m36, .ref m37, .ref m38, .ref m39, .long s40])), (m17, ai g 63 v5), (m19, ai g 4 fs)] → va_S A s.heap H locs → lv_has ls 4 [(0, .ref k0), (1, .int 4), (2, .int 5), (3, .int (nI sd))] → W p l e ({ frames := 4, cells := 0, slots := 0, locals := 91 }) s m [.ref k0, .int 4].toArray below meth c H locs 0 0 (MQ below (va_Qv (po_X9_layCosts g k0 m0 s1 s2 s3 s4 s5 s6 m7 m8 m9 s10 s11 s12 m13 m14 m15 s16 m17 m18 m19 m20 m21 m22 m23 m24 m25 m26 m27 m28 s29 m30 s31 s32 s33 s34 s35 m36 m37 m38 m39 s40 fc fs a0 a1 a2 a3) (bk g A) A) [.ref k0, .int 4].toArray s 0 0 A) (F0 m 13 ls []) := by
                                              intro fu
                                              induction fu with
                                              | zero => intro sd v5 hs hv5 hfu; exact absurd hfu (Nat.not_lt_zero _)
                                              | succ fu ih =>
                                                intro sd v5 hs hv5 hfu H locs ls hP hD hS hl
                                                have ih13 := ih
                                                refine lv_iload_n hx hb dX9_layCosts_13 rfl (lv_at hl 3 rfl) ?_
                                                refine lv_bipush (v := 9) hx hb dX9_layCosts_14 (by decide) ?_
                                                refine lv_icmp_ge (tgt := 82) hx hb dX9_layCosts_16 (by decide) (fun c16_24 => ?_) (fun c16_24 => ?_)
                                                · skip
                                                  have hs10 := ge_of_le (k := 9) (n := sd) (by decide) (by omega) c16_24
                                                  refine lv_iinc (v := 6) (lv' := [(2, .int 6), (0, .ref k0), (1, .int 4), (3, .int (nI sd))]) hx hb dX9_layCosts_82 hl (k := 2) rfl (by decide) (by decide) rfl (fun ls hl => ?_)
                                                  refine lv_goto (tgt := 2) hx hb dX9_layCosts_85 (by decide) ?_
                                                  refine lv_iload_n hx hb dX9_layCosts_2 rfl (lv_at hl 0 rfl) ?_
                                                  refine lv_aload_n hx hb dX9_layCosts_3 rfl (lv_at hl 1 rfl) ?_
                                                  refine lv_iload_n hx hb dX9_layCosts_4 rfl (lv_at hl 2 rfl) ?_
                                                  refine k_ci (wr := [(k0, .inr (9, [.ref m0, .int s1, .int s2, .int s3, .int s4, .int s5, .int s6, .ref m7, .ref m8, .ref m9, .int s10, .int s11, .int s12, .ref m13, .ref m14, .ref m15, .int s16, .ref m17, .ref m18, .ref m19, .ref m20, .ref m21, .ref m22, .ref m23, .ref m24, .ref m25, .ref m26, .ref m27, .ref m28, .int s29, .ref m30, .int s31, .int s32, .int s33, .int s34, .int s35, .ref m36, .ref m37, .ref m38, .ref m39, .long s40])), (m17, ai g 63 v5), (m19, ai g 4 fs)]) hP hD hS hA [] [0, 1, 2] rfl rfl (by decide) (by decide) (va_runV (As := [.int 4]) (rest := [.int 6]) ⟨hx, hb, hml, hown, hts⟩ (c_X9_nodesBy_4 l g k0  H.size) (cwV 1 hts gX9_layCosts_X9_nodesBy rfl rfl rfl (by decide +kernel) ⟨Nat.le_of_ble_eq_true rfl, Nat.le_of_ble_eq_true rfl⟩) (k_preV hE hZ hP hD hS hA [] rfl (by decide) (va_recv hE.1 hP (ci := 9) (q0 := 0) rfl rfl)) rfl rfl hl.1 rfl (lv_room (Nat.le_of_ble_eq_true rfl)) dX9_layCosts_5 ⟨Nat.le_of_ble_eq_true rfl, Nat.le_of_ble_eq_true rfl⟩) (fun r_25 w1 H locs hw hP hD hS => ?_)
                                                  obtain ⟨rfl, rfl⟩ := hw
                                                  have hP : va_P g.1 vwCl [(k0, .inr (9, [.ref m0, .int s1, .int s2, .int s3, .int s4, .int s5, .int s6, .ref m7, .ref m8, .ref m9, .int s10, .int s11, .int s12, .ref m13, .ref m14, .ref m15, .int s16, .ref m17, .ref m18, .ref m19, .ref m20, .ref m21, .ref m22, .ref m23, .ref m24, .ref m25, .ref m26, .ref m27, .ref m28, .int s29, .ref m30, .int s31, .int s32, .int s33, .int s34, .int s35, .ref m36, .ref m37, .ref m38, .ref m39, .long s40])), (m17, ai g 63 v5), (m19, ai g 4 fs)] H := hP
                                                  have hD : va_D A [(k0, .inr (9, [.ref m0, .int s1, .int s2, .int s3, .int s4, .int s5, .int s6, .ref m7, .ref m8, .ref m9, .int s10, .int s11, .int s12, .ref m13, .ref m14, .ref m15, .int s16, .ref m17, .ref m18, .ref m19, .ref m20, .ref m21, .ref m22, .ref m23, .ref m24, .ref m25, .ref m26, .ref m27, .ref m28, .int s29, .ref m30, .int s31, .int s32, .int s33, .int s34, .int s35, .ref m36, .ref m37, .ref m38, .ref m39, .long s40])), (m17, ai g 63 v5), (m19, ai g 4 fs)] := hD
                                                  refine lv_icmp_ge (tgt := 88) hx hb dX9_layCosts_8 (by decide) (fun c8_27 => ?_) (fun c8_27 => ?_)
                                                  · exact absurd c8_27 (by decide)
                                                  · skip
                                                    refine lv_iconst (v := 0) hx hb dX9_layCosts_11 (by decide) ?_
                                                    refine lv_istore_n (lv' := [(3, .int 0), (2, .int 6), (0, .ref k0), (1, .int 4)]) hx hb dX9_layCosts_12 rfl hl (by decide) rfl (fun ls hl => ?_)
                                                    have loop13 : ∀ (fu : Nat) (sd : Nat) (v6 : Nat → Int32), (hs : sd ≤ 9) → (hv6 : ∀ k, k < 54 + sd → v6 k = Mp a0 a1 a2 a3 k) → 9 - sd < fu → ∀ (H : Heap) (locs : List Loc) (ls : Array Slot), va_P g.1 vwCl [(k0, .inr (9, [.ref m0, .int s1, .int s2, .int s3, .int s4, .int s5, .int s6, .ref m7, .ref m8, .ref m9, .int s10, .int s11, .int s12, .ref m13, .ref m14, .ref m15, .int s16, .ref m17, .ref m18, .ref m19, .ref m20, .ref m21, .ref m22, .ref m23, .ref m24, .ref m25, .ref m26, .ref m27, .ref m28, .int s29, .ref m30, .int s31, .int s32, .int s33, .int s34, .int s35, .ref m36, .ref m37, .ref m38, .ref m39, .long s40])), (m17, ai g 63 v6), (m19, ai g 4 fs)] H → va_D A [(k0, .inr (9, [.ref m0, .int s1, .int s2, .int s3, .int s4, .int s5, .int s6, .ref m7, .ref m8, .ref m9, .int s10, .int s11, .int s12, .ref m13, .ref m14, .ref m15, .int s16, .ref m17, .ref m18, .ref m19, .ref m20, .ref m21, .ref m22, .ref m23, .ref m24, .ref m25, .ref m26, .ref m27, .ref m28, .int s29, .ref m30, .int s31, .int s32, .int s33, .int s34, .int s35, .ref m36, .ref m37, .ref m38, .ref m39, .long s40])), (m17, ai g 63 v6), (m19, ai g 4 fs)] → va_S A s.heap H locs → lv_has ls 4 [(0, .ref k0), (1, .int 4), (2, .int 6), (3, .int (nI sd))] → W p l e ({ frames := 4, cells := 0, slots := 0, locals := 91 }) s m [.ref k0, .int 4].toArray below meth c H locs 0 0 (MQ below (va_Qv (po_X9_layCosts g k0 m0 s1 s2 s3 s4 s5 s6 m7 m8 m9 s10 s11 s12 m13 m14 m15 s16 m17 m18 m19 m20 m21 m22 m23 m24 m25 m26 m27 m28 s29 m30 s31 s32 s33 s34 s35 m36 m37 m38 m39 s40 fc fs a0 a1 a2 a3) (bk g A) A) [.ref k0, .int 4].toArray s 0 0 A) (F0 m 13 ls []) := by
                                                      intro fu
                                                      induction fu with
                                                      | zero => intro sd v6 hs hv6 hfu; exact absurd hfu (Nat.not_lt_zero _)
                                                      | succ fu ih =>
                                                        intro sd v6 hs hv6 hfu H locs ls hP hD hS hl
                                                        have ih13 := ih
                                                        refine lv_iload_n hx hb dX9_layCosts_13 rfl (lv_at hl 3 rfl) ?_
                                                        refine lv_bipush (v := 9) hx hb dX9_layCosts_14 (by decide) ?_
                                                        refine lv_icmp_ge (tgt := 82) hx hb dX9_layCosts_16 (by decide) (fun c16_28 => ?_) (fun c16_28 => ?_)
                                                        · skip
                                                          have hs10 := ge_of_le (k := 9) (n := sd) (by decide) (by omega) c16_28
                                                          refine lv_iinc (v := 7) (lv' := [(2, .int 7), (0, .ref k0), (1, .int 4), (3, .int (nI sd))]) hx hb dX9_layCosts_82 hl (k := 2) rfl (by decide) (by decide) rfl (fun ls hl => ?_)
                                                          refine lv_goto (tgt := 2) hx hb dX9_layCosts_85 (by decide) ?_
                                                          refine lv_iload_n hx hb dX9_layCosts_2 rfl (lv_at hl 0 rfl) ?_
                                                          refine lv_aload_n hx hb dX9_layCosts_3 rfl (lv_at hl 1 rfl) ?_
                                                          refine lv_iload_n hx hb dX9_layCosts_4 rfl (lv_at hl 2 rfl) ?_
                                                          refine k_ci (wr := [(k0, .inr (9, [.ref m0, .int s1, .int s2, .int s3, .int s4, .int s5, .int s6, .ref m7, .ref m8, .ref m9, .int s10, .int s11, .int s12, .ref m13, .ref m14, .ref m15, .int s16, .ref m17, .ref m18, .ref m19, .ref m20, .ref m21, .ref m22, .ref m23, .ref m24, .ref m25, .ref m26, .ref m27, .ref m28, .int s29, .ref m30, .int s31, .int s32, .int s33, .int s34, .int s35, .ref m36, .ref m37, .ref m38, .ref m39, .long s40])), (m17, ai g 63 v6), (m19, ai g 4 fs)]) hP hD hS hA [] [0, 1, 2] rfl rfl (by decide) (by decide) (va_runV (As := [.int 4]) (rest := [.int 7]) ⟨hx, hb, hml, hown, hts⟩ (c_X9_nodesBy_4 l g k0  H.size) (cwV 1 hts gX9_layCosts_X9_nodesBy rfl rfl rfl (by decide +kernel) ⟨Nat.le_of_ble_eq_true rfl, Nat.le_of_ble_eq_true rfl⟩) (k_preV hE hZ hP hD hS hA [] rfl (by decide) (va_recv hE.1 hP (ci := 9) (q0 := 0) rfl rfl)) rfl rfl hl.1 rfl (lv_room (Nat.le_of_ble_eq_true rfl)) dX9_layCosts_5 ⟨Nat.le_of_ble_eq_true rfl, Nat.le_of_ble_eq_true rfl⟩) (fun r_29 w1 H locs hw hP hD hS => ?_)
                                                          obtain ⟨rfl, rfl⟩ := hw
                                                          have hP : va_P g.1 vwCl [(k0, .inr (9, [.ref m0, .int s1, .int s2, .int s3, .int s4, .int s5, .int s6, .ref m7, .ref m8, .ref m9, .int s10, .int s11, .int s12, .ref m13, .ref m14, .ref m15, .int s16, .ref m17, .ref m18, .ref m19, .ref m20, .ref m21, .ref m22, .ref m23, .ref m24, .ref m25, .ref m26, .ref m27, .ref m28, .int s29, .ref m30, .int s31, .int s32, .int s33, .int s34, .int s35, .ref m36, .ref m37, .ref m38, .ref m39, .long s40])), (m17, ai g 63 v6), (m19, ai g 4 fs)] H := hP
                                                          have hD : va_D A [(k0, .inr (9, [.ref m0, .int s1, .int s2, .int s3, .int s4, .int s5, .int s6, .ref m7, .ref m8, .ref m9, .int s10, .int s11, .int s12, .ref m13, .ref m14, .ref m15, .int s16, .ref m17, .ref m18, .ref m19, .ref m20, .ref m21, .ref m22, .ref m23, .ref m24, .ref m25, .ref m26, .ref m27, .ref m28, .int s29, .ref m30, .int s31, .int s32, .int s33, .int s34, .int s35, .ref m36, .ref m37, .ref m38, .ref m39, .long s40])), (m17, ai g 63 v6), (m19, ai g 4 fs)] := hD
                                                          refine lv_icmp_ge (tgt := 88) hx hb dX9_layCosts_8 (by decide) (fun c8_31 => ?_) (fun c8_31 => ?_)
                                                          · skip
                                                            refine W.widen (k := 0) (n := 0) (Nat.le_of_ble_eq_true rfl) (Nat.le_of_ble_eq_true rfl) ?_
                                                            exact k_rv hx hb hr hlocks hS hP hD ⟨v6, rfl, (fun k h2 => hv6 k (by omega))⟩ dX9_layCosts_88
                                                          · exact absurd c8_31 (by decide)
                                                        · skip
                                                          have hs9 := lt_of_nle (k := 9) (n := sd) (by decide) (by omega) c16_28
                                                          refine lv_aload_n hx hb dX9_layCosts_19 rfl (lv_at hl 0 rfl) ?_
                                                          refine va_get (D := g.1) (ci := 9) (v := .ref m17) (C := RX9) (T := TX9) (N := 41) hx hb hts q_X9_layCosts_f9 hown hE.1 hP 0 rfl rfl 17 (by decide) (hts (.fieldLink RX9 31 "SoundLawsModel" "costs" "[I") q_X9_layCosts_1) (fun _ h9 => h9) rfl dX9_layCosts_20 ?_
                                                          refine lv_bipush (v := 9) hx hb dX9_layCosts_23 (by decide) ?_
                                                          refine lv_iload_n hx hb dX9_layCosts_25 rfl (lv_at hl 2 rfl) ?_
                                                          refine lv_imul hx hb dX9_layCosts_26 ?_
                                                          refine lv_topi (fun x_32 ex_32 => ?_)
                                                          obtain rfl : x_32 = 54 := ex_32.trans (by decide)
                                                          refine lv_iload_n hx hb dX9_layCosts_27 rfl (lv_at hl 3 rfl) ?_
                                                          refine lv_iadd hx hb dX9_layCosts_28 ?_
                                                          refine lv_iload_n hx hb dX9_layCosts_29 rfl (lv_at hl 2 rfl) ?_
                                                          refine lv_iload_n hx hb dX9_layCosts_30 rfl (lv_at hl 1 rfl) ?_
                                                          refine lv_icmp_ge (tgt := 54) hx hb dX9_layCosts_31 (by decide) (fun c31_33 => ?_) (fun c31_33 => ?_)
                                                          · skip
                                                            refine lv_aload_n hx hb dX9_layCosts_54 rfl (lv_at hl 0 rfl) ?_
                                                            refine lv_iload_n hx hb dX9_layCosts_55 rfl (lv_at hl 1 rfl) ?_
                                                            refine lv_iload_n hx hb dX9_layCosts_56 rfl (lv_at hl 2 rfl) ?_
                                                            refine k_ci (wr := [(k0, .inr (9, [.ref m0, .int s1, .int s2, .int s3, .int s4, .int s5, .int s6, .ref m7, .ref m8, .ref m9, .int s10, .int s11, .int s12, .ref m13, .ref m14, .ref m15, .int s16, .ref m17, .ref m18, .ref m19, .ref m20, .ref m21, .ref m22, .ref m23, .ref m24, .ref m25, .ref m26, .ref m27, .ref m28, .int s29, .ref m30, .int s31, .int s32, .int s33, .int s34, .int s35, .ref m36, .ref m37, .ref m38, .ref m39, .long s40])), (m17, ai g 63 v6), (m19, ai g 4 fs)]) hP hD hS hA [] [0, 1, 2] rfl rfl (by decide) (by decide) (va_runS (As := [.int 4, .int 6]) (rest := [.ref k0, .int (54 + (nI sd)), .ref m17]) ⟨hx, hb, hml, hown, hts⟩ (c_X9_belowFirst_6 l g   H.size) (va_cwS 2 hts gX9_layCosts_X9_belowFirst rfl rfl rfl (by decide +kernel) ⟨Nat.le_of_ble_eq_true rfl, Nat.le_of_ble_eq_true rfl⟩) (k_preS hE hZ hP hD hS hA [] rfl (by decide)) rfl rfl hl.1 rfl (lv_room (Nat.le_of_ble_eq_true rfl)) dX9_layCosts_57 ⟨Nat.le_of_ble_eq_true rfl, Nat.le_of_ble_eq_true rfl⟩) (fun r_34 w1 H locs hw hP hD hS => ?_)
                                                            obtain ⟨rfl, rfl⟩ := hw
                                                            have hP : va_P g.1 vwCl [(k0, .inr (9, [.ref m0, .int s1, .int s2, .int s3, .int s4, .int s5, .int s6, .ref m7, .ref m8, .ref m9, .int s10, .int s11, .int s12, .ref m13, .ref m14, .ref m15, .int s16, .ref m17, .ref m18, .ref m19, .ref m20, .ref m21, .ref m22, .ref m23, .ref m24, .ref m25, .ref m26, .ref m27, .ref m28, .int s29, .ref m30, .int s31, .int s32, .int s33, .int s34, .int s35, .ref m36, .ref m37, .ref m38, .ref m39, .long s40])), (m17, ai g 63 v6), (m19, ai g 4 fs)] H := hP
                                                            have hD : va_D A [(k0, .inr (9, [.ref m0, .int s1, .int s2, .int s3, .int s4, .int s5, .int s6, .ref m7, .ref m8, .ref m9, .int s10, .int s11, .int s12, .ref m13, .ref m14, .ref m15, .int s16, .ref m17, .ref m18, .ref m19, .ref m20, .ref m21, .ref m22, .ref m23, .ref m24, .ref m25, .ref m26, .ref m27, .ref m28, .int s29, .ref m30, .int s31, .int s32, .int s33, .int s34, .int s35, .ref m36, .ref m37, .ref m38, .ref m39, .long s40])), (m17, ai g 63 v6), (m19, ai g 4 fs)] := hD
                                                            refine lv_iload_n hx hb dX9_layCosts_60 rfl (lv_at hl 3 rfl) ?_
                                                            refine k_ci (wr := [(m19, ai g 4 fs)]) hP hD hS hA [0, 1] [2] rfl rfl (by decide) (by decide) (va_runV (As := [.int 4, .int (nI sd)]) (rest := [.int (54 + (nI sd)), .ref m17]) ⟨hx, hb, hml, hown, hts⟩ (c_X9_least_4 l g k0 m0 s1 s2 s3 s4 s5 s6 m7 m8 m9 s10 s11 s12 m13 m14 m15 s16 m17 m18 m19 m20 m21 m22 m23 m24 m25 m26 m27 m28 s29 m30 s31 s32 s33 s34 s35 m36 m37 m38 m39 s40 v6 sd  H.size) (cwV 2 hts gX9_layCosts_X9_least rfl rfl rfl (by decide +kernel) ⟨Nat.le_of_ble_eq_true rfl, Nat.le_of_ble_eq_true rfl⟩) (k_preV hE hZ hP hD hS hA [0, 1] rfl (by decide) (va_recv hE.1 hP (ci := 9) (q0 := 0) rfl rfl)) rfl rfl hl.1 rfl (lv_room (Nat.le_of_ble_eq_true rfl)) dX9_layCosts_61 ⟨Nat.le_of_ble_eq_true rfl, Nat.le_of_ble_eq_true rfl⟩) (fun r_36 w1 H locs hw hP hD hS => ?_)
                                                            obtain ⟨rfl, rfl⟩ := hw
                                                            have hP : va_P g.1 vwCl [(m19, ai g 4 fs), (k0, .inr (9, [.ref m0, .int s1, .int s2, .int s3, .int s4, .int s5, .int s6, .ref m7, .ref m8, .ref m9, .int s10, .int s11, .int s12, .ref m13, .ref m14, .ref m15, .int s16, .ref m17, .ref m18, .ref m19, .ref m20, .ref m21, .ref m22, .ref m23, .ref m24, .ref m25, .ref m26, .ref m27, .ref m28, .int s29, .ref m30, .int s31, .int s32, .int s33, .int s34, .int s35, .ref m36, .ref m37, .ref m38, .ref m39, .long s40])), (m17, ai g 63 v6)] H := hP
                                                            have hD : va_D A [(m19, ai g 4 fs), (k0, .inr (9, [.ref m0, .int s1, .int s2, .int s3, .int s4, .int s5, .int s6, .ref m7, .ref m8, .ref m9, .int s10, .int s11, .int s12, .ref m13, .ref m14, .ref m15, .int s16, .ref m17, .ref m18, .ref m19, .ref m20, .ref m21, .ref m22, .ref m23, .ref m24, .ref m25, .ref m26, .ref m27, .ref m28, .int s29, .ref m30, .int s31, .int s32, .int s33, .int s34, .int s35, .ref m36, .ref m37, .ref m38, .ref m39, .long s40])), (m17, ai g 63 v6)] := hD
                                                            refine lv_aload_n hx hb dX9_layCosts_64 rfl (lv_at hl 0 rfl) ?_
                                                            refine lv_iload_n hx hb dX9_layCosts_65 rfl (lv_at hl 1 rfl) ?_
                                                            refine lv_iload_n hx hb dX9_layCosts_66 rfl (lv_at hl 2 rfl) ?_
                                                            refine k_ci (wr := [(m19, ai g 4 fs), (k0, .inr (9, [.ref m0, .int s1, .int s2, .int s3, .int s4, .int s5, .int s6, .ref m7, .ref m8, .ref m9, .int s10, .int s11, .int s12, .ref m13, .ref m14, .ref m15, .int s16, .ref m17, .ref m18, .ref m19, .ref m20, .ref m21, .ref m22, .ref m23, .ref m24, .ref m25, .ref m26, .ref m27, .ref m28, .int s29, .ref m30, .int s31, .int s32, .int s33, .int s34, .int s35, .ref m36, .ref m37, .ref m38, .ref m39, .long s40])), (m17, ai g 63 v6)]) hP hD hS hA [] [0, 1, 2] rfl rfl (by decide) (by decide) (va_runS (As := [.int 4, .int 6]) (rest := [.ref k0, .int (ml (fun s => v6 (36 + s) + cmo (nI s) (nI sd)) 9), .int (54 + (nI sd)), .ref m17]) ⟨hx, hb, hml, hown, hts⟩ (c_X9_belowSecond_6 l g   H.size) (va_cwS 2 hts gX9_layCosts_X9_belowSecond rfl rfl rfl (by decide +kernel) ⟨Nat.le_of_ble_eq_true rfl, Nat.le_of_ble_eq_true rfl⟩) (k_preS hE hZ hP hD hS hA [] rfl (by decide)) rfl rfl hl.1 rfl (lv_room (Nat.le_of_ble_eq_true rfl)) dX9_layCosts_67 ⟨Nat.le_of_ble_eq_true rfl, Nat.le_of_ble_eq_true rfl⟩) (fun r_38 w1 H locs hw hP hD hS => ?_)
                                                            obtain ⟨rfl, rfl⟩ := hw
                                                            have hP : va_P g.1 vwCl [(m19, ai g 4 fs), (k0, .inr (9, [.ref m0, .int s1, .int s2, .int s3, .int s4, .int s5, .int s6, .ref m7, .ref m8, .ref m9, .int s10, .int s11, .int s12, .ref m13, .ref m14, .ref m15, .int s16, .ref m17, .ref m18, .ref m19, .ref m20, .ref m21, .ref m22, .ref m23, .ref m24, .ref m25, .ref m26, .ref m27, .ref m28, .int s29, .ref m30, .int s31, .int s32, .int s33, .int s34, .int s35, .ref m36, .ref m37, .ref m38, .ref m39, .long s40])), (m17, ai g 63 v6)] H := hP
                                                            have hD : va_D A [(m19, ai g 4 fs), (k0, .inr (9, [.ref m0, .int s1, .int s2, .int s3, .int s4, .int s5, .int s6, .ref m7, .ref m8, .ref m9, .int s10, .int s11, .int s12, .ref m13, .ref m14, .ref m15, .int s16, .ref m17, .ref m18, .ref m19, .ref m20, .ref m21, .ref m22, .ref m23, .ref m24, .ref m25, .ref m26, .ref m27, .ref m28, .int s29, .ref m30, .int s31, .int s32, .int s33, .int s34, .int s35, .ref m36, .ref m37, .ref m38, .ref m39, .long s40])), (m17, ai g 63 v6)] := hD
                                                            refine lv_iload_n hx hb dX9_layCosts_70 rfl (lv_at hl 3 rfl) ?_
                                                            refine k_ci (wr := [(m19, ai g 4 fs)]) hP hD hS hA [1, 2] [0] rfl rfl (by decide) (by decide) (va_runV (As := [.int 5, .int (nI sd)]) (rest := [.int (ml (fun s => v6 (36 + s) + cmo (nI s) (nI sd)) 9), .int (54 + (nI sd)), .ref m17]) ⟨hx, hb, hml, hown, hts⟩ (c_X9_least_5 l g k0 m0 s1 s2 s3 s4 s5 s6 m7 m8 m9 s10 s11 s12 m13 m14 m15 s16 m17 m18 m19 m20 m21 m22 m23 m24 m25 m26 m27 m28 s29 m30 s31 s32 s33 s34 s35 m36 m37 m38 m39 s40 v6 sd  H.size) (cwV 2 hts gX9_layCosts_X9_least rfl rfl rfl (by decide +kernel) ⟨Nat.le_of_ble_eq_true rfl, Nat.le_of_ble_eq_true rfl⟩) (k_preV hE hZ hP hD hS hA [1, 2] rfl (by decide) (va_recv hE.1 hP (ci := 9) (q0 := 1) rfl rfl)) rfl rfl hl.1 rfl (lv_room (Nat.le_of_ble_eq_true rfl)) dX9_layCosts_71 ⟨Nat.le_of_ble_eq_true rfl, Nat.le_of_ble_eq_true rfl⟩) (fun r_40 w1 H locs hw hP hD hS => ?_)
                                                            obtain ⟨rfl, rfl⟩ := hw
                                                            have hP : va_P g.1 vwCl [(m19, ai g 4 fs), (k0, .inr (9, [.ref m0, .int s1, .int s2, .int s3, .int s4, .int s5, .int s6, .ref m7, .ref m8, .ref m9, .int s10, .int s11, .int s12, .ref m13, .ref m14, .ref m15, .int s16, .ref m17, .ref m18, .ref m19, .ref m20, .ref m21, .ref m22, .ref m23, .ref m24, .ref m25, .ref m26, .ref m27, .ref m28, .int s29, .ref m30, .int s31, .int s32, .int s33, .int s34, .int s35, .ref m36, .ref m37, .ref m38, .ref m39, .long s40])), (m17, ai g 63 v6)] H := hP
                                                            have hD : va_D A [(m19, ai g 4 fs), (k0, .inr (9, [.ref m0, .int s1, .int s2, .int s3, .int s4, .int s5, .int s6, .ref m7, .ref m8, .ref m9, .int s10, .int s11, .int s12, .ref m13, .ref m14, .ref m15, .int s16, .ref m17, .ref m18, .ref m19, .ref m20, .ref m21, .ref m22, .ref m23, .ref m24, .ref m25, .ref m26, .ref m27, .ref m28, .int s29, .ref m30, .int s31, .int s32, .int s33, .int s34, .int s35, .ref m36, .ref m37, .ref m38, .ref m39, .long s40])), (m17, ai g 63 v6)] := hD
                                                            refine lv_iadd hx hb dX9_layCosts_74 ?_
                                                            refine lv_topi (fun xv exv => ?_)
                                                            have hval : xv = Mp a0 a1 a2 a3 (54 + sd) := by rw [exv, MpS (by omega), Sp6, (ml_congr 9 (fun t ht => by rw [hv6 (36 + t) (by omega), MpS (by omega), Sp4 ht])).trans (xm_ml h90 h91 hs9), (ml_congr 9 (fun t ht => by rw [hv6 (45 + t) (by omega), MpS (by omega), Sp5 ht])).trans (xm_ml h92 h93 hs9)]; rfl
                                                            refine k_ast (x := xv) (54 + sd) (by rw [show (54 : Int32) = nI 54 from rfl, nI_add]) (by omega) hx hb hE hP hD hS 2 rfl (by decide) dX9_layCosts_75 (fun H locs hP hD hS => ?_)
                                                            have hP : va_P g.1 vwCl [(m19, ai g 4 fs), (k0, .inr (9, [.ref m0, .int s1, .int s2, .int s3, .int s4, .int s5, .int s6, .ref m7, .ref m8, .ref m9, .int s10, .int s11, .int s12, .ref m13, .ref m14, .ref m15, .int s16, .ref m17, .ref m18, .ref m19, .ref m20, .ref m21, .ref m22, .ref m23, .ref m24, .ref m25, .ref m26, .ref m27, .ref m28, .int s29, .ref m30, .int s31, .int s32, .int s33, .int s34, .int s35, .ref m36, .ref m37, .ref m38, .ref m39, .long s40])), (m17, ai g 63 (upd v6 (54 + sd) xv))] H := hP
                                                            have hD : va_D A [(m19, ai g 4 fs), (k0, .inr (9, [.ref m0, .int s1, .int s2, .int s3, .int s4, .int s5, .int s6, .ref m7, .ref m8, .ref m9, .int s10, .int s11, .int s12, .ref m13, .ref m14, .ref m15, .int s16, .ref m17, .ref m18, .ref m19, .ref m20, .ref m21, .ref m22, .ref m23, .ref m24, .ref m25, .ref m26, .ref m27, .ref m28, .int s29, .ref m30, .int s31, .int s32, .int s33, .int s34, .int s35, .ref m36, .ref m37, .ref m38, .ref m39, .long s40])), (m17, ai g 63 (upd v6 (54 + sd) xv))] := hD
                                                            refine lv_iinc (v := (nI (sd + 1))) (lv' := [(3, .int (nI (sd + 1))), (0, .ref k0), (1, .int 4), (2, .int 6)]) hx hb dX9_layCosts_76 hl (k := 3) rfl (nI_1 _) (by decide) rfl (fun ls hl => ?_)
                                                            refine lv_goto (tgt := 13) hx hb dX9_layCosts_79 (by decide) ?_
                                                            exact ih13 (sd + 1) (upd v6 (54 + sd) xv) (by omega) (fun k h2 => by
                                                                                                                        by_cases hk : k = 54 + sd
                                                                                                                        · rw [hk, pk_us]; exact hval
                                                                                                                        · rw [pk_un hk]; exact hv6 k (by omega)) (by omega) _ _ _ (hP.sub [1, 2, 0] rfl) (hD.sub [1, 2, 0] (by decide) rfl) hS (lv_sub hl [1, 2, 3, 0] rfl)
                                                          · exact absurd c31_33 (by decide)
                                                    exact loop13 _ 0 v5 (Nat.zero_le 9) (fun k h2 => hv5 k (by omega)) (Nat.lt_succ_self _) _ _ _ hP hD hS (lv_sub hl [2, 3, 1, 0] rfl)
                                                · skip
                                                  have hs9 := lt_of_nle (k := 9) (n := sd) (by decide) (by omega) c16_24
                                                  refine lv_aload_n hx hb dX9_layCosts_19 rfl (lv_at hl 0 rfl) ?_
                                                  refine va_get (D := g.1) (ci := 9) (v := .ref m17) (C := RX9) (T := TX9) (N := 41) hx hb hts q_X9_layCosts_f9 hown hE.1 hP 0 rfl rfl 17 (by decide) (hts (.fieldLink RX9 31 "SoundLawsModel" "costs" "[I") q_X9_layCosts_1) (fun _ h9 => h9) rfl dX9_layCosts_20 ?_
                                                  refine lv_bipush (v := 9) hx hb dX9_layCosts_23 (by decide) ?_
                                                  refine lv_iload_n hx hb dX9_layCosts_25 rfl (lv_at hl 2 rfl) ?_
                                                  refine lv_imul hx hb dX9_layCosts_26 ?_
                                                  refine lv_topi (fun x_42 ex_42 => ?_)
                                                  obtain rfl : x_42 = 45 := ex_42.trans (by decide)
                                                  refine lv_iload_n hx hb dX9_layCosts_27 rfl (lv_at hl 3 rfl) ?_
                                                  refine lv_iadd hx hb dX9_layCosts_28 ?_
                                                  refine lv_iload_n hx hb dX9_layCosts_29 rfl (lv_at hl 2 rfl) ?_
                                                  refine lv_iload_n hx hb dX9_layCosts_30 rfl (lv_at hl 1 rfl) ?_
                                                  refine lv_icmp_ge (tgt := 54) hx hb dX9_layCosts_31 (by decide) (fun c31_43 => ?_) (fun c31_43 => ?_)
                                                  · skip
                                                    refine lv_aload_n hx hb dX9_layCosts_54 rfl (lv_at hl 0 rfl) ?_
                                                    refine lv_iload_n hx hb dX9_layCosts_55 rfl (lv_at hl 1 rfl) ?_
                                                    refine lv_iload_n hx hb dX9_layCosts_56 rfl (lv_at hl 2 rfl) ?_
                                                    refine k_ci (wr := [(k0, .inr (9, [.ref m0, .int s1, .int s2, .int s3, .int s4, .int s5, .int s6, .ref m7, .ref m8, .ref m9, .int s10, .int s11, .int s12, .ref m13, .ref m14, .ref m15, .int s16, .ref m17, .ref m18, .ref m19, .ref m20, .ref m21, .ref m22, .ref m23, .ref m24, .ref m25, .ref m26, .ref m27, .ref m28, .int s29, .ref m30, .int s31, .int s32, .int s33, .int s34, .int s35, .ref m36, .ref m37, .ref m38, .ref m39, .long s40])), (m17, ai g 63 v5), (m19, ai g 4 fs)]) hP hD hS hA [] [0, 1, 2] rfl rfl (by decide) (by decide) (va_runS (As := [.int 4, .int 5]) (rest := [.ref k0, .int (45 + (nI sd)), .ref m17]) ⟨hx, hb, hml, hown, hts⟩ (c_X9_belowFirst_5 l g   H.size) (va_cwS 2 hts gX9_layCosts_X9_belowFirst rfl rfl rfl (by decide +kernel) ⟨Nat.le_of_ble_eq_true rfl, Nat.le_of_ble_eq_true rfl⟩) (k_preS hE hZ hP hD hS hA [] rfl (by decide)) rfl rfl hl.1 rfl (lv_room (Nat.le_of_ble_eq_true rfl)) dX9_layCosts_57 ⟨Nat.le_of_ble_eq_true rfl, Nat.le_of_ble_eq_true rfl⟩) (fun r_44 w1 H locs hw hP hD hS => ?_)
                                                    obtain ⟨rfl, rfl⟩ := hw
                                                    have hP : va_P g.1 vwCl [(k0, .inr (9, [.ref m0, .int s1, .int s2, .int s3, .int s4, .int s5, .int s6, .ref m7, .ref m8, .ref m9, .int s10, .int s11, .int s12, .ref m13, .ref m14, .ref m15, .int s16, .ref m17, .ref m18, .ref m19, .ref m20, .ref m21, .ref m22, .ref m23, .ref m24, .ref m25, .ref m26, .ref m27, .ref m28, .int s29, .ref m30, .int s31, .int s32, .int s33, .int s34, .int s35, .ref m36, .ref m37, .ref m38, .ref m39, .long s40])), (m17, ai g 63 v5), (m19, ai g 4 fs)] H := hP
                                                    have hD : va_D A [(k0, .inr (9, [.ref m0, .int s1, .int s2, .int s3, .int s4, .int s5, .int s6, .ref m7, .ref m8, .ref m9, .int s10, .int s11, .int s12, .ref m13, .ref m14, .ref m15, .int s16, .ref m17, .ref m18, .ref m19, .ref m20, .ref m21, .ref m22, .ref m23, .ref m24, .ref m25, .ref m26, .ref m27, .ref m28, .int s29, .ref m30, .int s31, .int s32, .int s33, .int s34, .int s35, .ref m36, .ref m37, .ref m38, .ref m39, .long s40])), (m17, ai g 63 v5), (m19, ai g 4 fs)] := hD
                                                    refine lv_iload_n hx hb dX9_layCosts_60 rfl (lv_at hl 3 rfl) ?_
                                                    refine k_ci (wr := [(m19, ai g 4 fs)]) hP hD hS hA [0, 1] [2] rfl rfl (by decide) (by decide) (va_runV (As := [.int 2, .int (nI sd)]) (rest := [.int (45 + (nI sd)), .ref m17]) ⟨hx, hb, hml, hown, hts⟩ (c_X9_least_2 l g k0 m0 s1 s2 s3 s4 s5 s6 m7 m8 m9 s10 s11 s12 m13 m14 m15 s16 m17 m18 m19 m20 m21 m22 m23 m24 m25 m26 m27 m28 s29 m30 s31 s32 s33 s34 s35 m36 m37 m38 m39 s40 v5 sd  H.size) (cwV 2 hts gX9_layCosts_X9_least rfl rfl rfl (by decide +kernel) ⟨Nat.le_of_ble_eq_true rfl, Nat.le_of_ble_eq_true rfl⟩) (k_preV hE hZ hP hD hS hA [0, 1] rfl (by decide) (va_recv hE.1 hP (ci := 9) (q0 := 0) rfl rfl)) rfl rfl hl.1 rfl (lv_room (Nat.le_of_ble_eq_true rfl)) dX9_layCosts_61 ⟨Nat.le_of_ble_eq_true rfl, Nat.le_of_ble_eq_true rfl⟩) (fun r_46 w1 H locs hw hP hD hS => ?_)
                                                    obtain ⟨rfl, rfl⟩ := hw
                                                    have hP : va_P g.1 vwCl [(m19, ai g 4 fs), (k0, .inr (9, [.ref m0, .int s1, .int s2, .int s3, .int s4, .int s5, .int s6, .ref m7, .ref m8, .ref m9, .int s10, .int s11, .int s12, .ref m13, .ref m14, .ref m15, .int s16, .ref m17, .ref m18, .ref m19, .ref m20, .ref m21, .ref m22, .ref m23, .ref m24, .ref m25, .ref m26, .ref m27, .ref m28, .int s29, .ref m30, .int s31, .int s32, .int s33, .int s34, .int s35, .ref m36, .ref m37, .ref m38, .ref m39, .long s40])), (m17, ai g 63 v5)] H := hP
                                                    have hD : va_D A [(m19, ai g 4 fs), (k0, .inr (9, [.ref m0, .int s1, .int s2, .int s3, .int s4, .int s5, .int s6, .ref m7, .ref m8, .ref m9, .int s10, .int s11, .int s12, .ref m13, .ref m14, .ref m15, .int s16, .ref m17, .ref m18, .ref m19, .ref m20, .ref m21, .ref m22, .ref m23, .ref m24, .ref m25, .ref m26, .ref m27, .ref m28, .int s29, .ref m30, .int s31, .int s32, .int s33, .int s34, .int s35, .ref m36, .ref m37, .ref m38, .ref m39, .long s40])), (m17, ai g 63 v5)] := hD
                                                    refine lv_aload_n hx hb dX9_layCosts_64 rfl (lv_at hl 0 rfl) ?_
                                                    refine lv_iload_n hx hb dX9_layCosts_65 rfl (lv_at hl 1 rfl) ?_
                                                    refine lv_iload_n hx hb dX9_layCosts_66 rfl (lv_at hl 2 rfl) ?_
                                                    refine k_ci (wr := [(m19, ai g 4 fs), (k0, .inr (9, [.ref m0, .int s1, .int s2, .int s3, .int s4, .int s5, .int s6, .ref m7, .ref m8, .ref m9, .int s10, .int s11, .int s12, .ref m13, .ref m14, .ref m15, .int s16, .ref m17, .ref m18, .ref m19, .ref m20, .ref m21, .ref m22, .ref m23, .ref m24, .ref m25, .ref m26, .ref m27, .ref m28, .int s29, .ref m30, .int s31, .int s32, .int s33, .int s34, .int s35, .ref m36, .ref m37, .ref m38, .ref m39, .long s40])), (m17, ai g 63 v5)]) hP hD hS hA [] [0, 1, 2] rfl rfl (by decide) (by decide) (va_runS (As := [.int 4, .int 5]) (rest := [.ref k0, .int (ml (fun s => v5 (18 + s) + cmo (nI s) (nI sd)) 9), .int (45 + (nI sd)), .ref m17]) ⟨hx, hb, hml, hown, hts⟩ (c_X9_belowSecond_5 l g   H.size) (va_cwS 2 hts gX9_layCosts_X9_belowSecond rfl rfl rfl (by decide +kernel) ⟨Nat.le_of_ble_eq_true rfl, Nat.le_of_ble_eq_true rfl⟩) (k_preS hE hZ hP hD hS hA [] rfl (by decide)) rfl rfl hl.1 rfl (lv_room (Nat.le_of_ble_eq_true rfl)) dX9_layCosts_67 ⟨Nat.le_of_ble_eq_true rfl, Nat.le_of_ble_eq_true rfl⟩) (fun r_48 w1 H locs hw hP hD hS => ?_)
                                                    obtain ⟨rfl, rfl⟩ := hw
                                                    have hP : va_P g.1 vwCl [(m19, ai g 4 fs), (k0, .inr (9, [.ref m0, .int s1, .int s2, .int s3, .int s4, .int s5, .int s6, .ref m7, .ref m8, .ref m9, .int s10, .int s11, .int s12, .ref m13, .ref m14, .ref m15, .int s16, .ref m17, .ref m18, .ref m19, .ref m20, .ref m21, .ref m22, .ref m23, .ref m24, .ref m25, .ref m26, .ref m27, .ref m28, .int s29, .ref m30, .int s31, .int s32, .int s33, .int s34, .int s35, .ref m36, .ref m37, .ref m38, .ref m39, .long s40])), (m17, ai g 63 v5)] H := hP
                                                    have hD : va_D A [(m19, ai g 4 fs), (k0, .inr (9, [.ref m0, .int s1, .int s2, .int s3, .int s4, .int s5, .int s6, .ref m7, .ref m8, .ref m9, .int s10, .int s11, .int s12, .ref m13, .ref m14, .ref m15, .int s16, .ref m17, .ref m18, .ref m19, .ref m20, .ref m21, .ref m22, .ref m23, .ref m24, .ref m25, .ref m26, .ref m27, .ref m28, .int s29, .ref m30, .int s31, .int s32, .int s33, .int s34, .int s35, .ref m36, .ref m37, .ref m38, .ref m39, .long s40])), (m17, ai g 63 v5)] := hD
                                                    refine lv_iload_n hx hb dX9_layCosts_70 rfl (lv_at hl 3 rfl) ?_
                                                    refine k_ci (wr := [(m19, ai g 4 fs)]) hP hD hS hA [1, 2] [0] rfl rfl (by decide) (by decide) (va_runV (As := [.int 3, .int (nI sd)]) (rest := [.int (ml (fun s => v5 (18 + s) + cmo (nI s) (nI sd)) 9), .int (45 + (nI sd)), .ref m17]) ⟨hx, hb, hml, hown, hts⟩ (c_X9_least_3 l g k0 m0 s1 s2 s3 s4 s5 s6 m7 m8 m9 s10 s11 s12 m13 m14 m15 s16 m17 m18 m19 m20 m21 m22 m23 m24 m25 m26 m27 m28 s29 m30 s31 s32 s33 s34 s35 m36 m37 m38 m39 s40 v5 sd  H.size) (cwV 2 hts gX9_layCosts_X9_least rfl rfl rfl (by decide +kernel) ⟨Nat.le_of_ble_eq_true rfl, Nat.le_of_ble_eq_true rfl⟩) (k_preV hE hZ hP hD hS hA [1, 2] rfl (by decide) (va_recv hE.1 hP (ci := 9) (q0 := 1) rfl rfl)) rfl rfl hl.1 rfl (lv_room (Nat.le_of_ble_eq_true rfl)) dX9_layCosts_71 ⟨Nat.le_of_ble_eq_true rfl, Nat.le_of_ble_eq_true rfl⟩) (fun r_50 w1 H locs hw hP hD hS => ?_)
                                                    obtain ⟨rfl, rfl⟩ := hw
                                                    have hP : va_P g.1 vwCl [(m19, ai g 4 fs), (k0, .inr (9, [.ref m0, .int s1, .int s2, .int s3, .int s4, .int s5, .int s6, .ref m7, .ref m8, .ref m9, .int s10, .int s11, .int s12, .ref m13, .ref m14, .ref m15, .int s16, .ref m17, .ref m18, .ref m19, .ref m20, .ref m21, .ref m22, .ref m23, .ref m24, .ref m25, .ref m26, .ref m27, .ref m28, .int s29, .ref m30, .int s31, .int s32, .int s33, .int s34, .int s35, .ref m36, .ref m37, .ref m38, .ref m39, .long s40])), (m17, ai g 63 v5)] H := hP
                                                    have hD : va_D A [(m19, ai g 4 fs), (k0, .inr (9, [.ref m0, .int s1, .int s2, .int s3, .int s4, .int s5, .int s6, .ref m7, .ref m8, .ref m9, .int s10, .int s11, .int s12, .ref m13, .ref m14, .ref m15, .int s16, .ref m17, .ref m18, .ref m19, .ref m20, .ref m21, .ref m22, .ref m23, .ref m24, .ref m25, .ref m26, .ref m27, .ref m28, .int s29, .ref m30, .int s31, .int s32, .int s33, .int s34, .int s35, .ref m36, .ref m37, .ref m38, .ref m39, .long s40])), (m17, ai g 63 v5)] := hD
                                                    refine lv_iadd hx hb dX9_layCosts_74 ?_
                                                    refine lv_topi (fun xv exv => ?_)
                                                    have hval : xv = Mp a0 a1 a2 a3 (45 + sd) := by rw [exv, MpS (by omega), Sp5 hs9, (ml_congr 9 (fun t ht => by rw [hv5 (18 + t) (by omega), Mp2 ht])).trans (leaf_ml a2 h92 sd hs9), (ml_congr 9 (fun t ht => by rw [hv5 (27 + t) (by omega), Mp3 ht])).trans (leaf_ml a3 h93 sd hs9)]; rfl
                                                    refine k_ast (x := xv) (45 + sd) (by rw [show (45 : Int32) = nI 45 from rfl, nI_add]) (by omega) hx hb hE hP hD hS 2 rfl (by decide) dX9_layCosts_75 (fun H locs hP hD hS => ?_)
                                                    have hP : va_P g.1 vwCl [(m19, ai g 4 fs), (k0, .inr (9, [.ref m0, .int s1, .int s2, .int s3, .int s4, .int s5, .int s6, .ref m7, .ref m8, .ref m9, .int s10, .int s11, .int s12, .ref m13, .ref m14, .ref m15, .int s16, .ref m17, .ref m18, .ref m19, .ref m20, .ref m21, .ref m22, .ref m23, .ref m24, .ref m25, .ref m26, .ref m27, .ref m28, .int s29, .ref m30, .int s31, .int s32, .int s33, .int s34, .int s35, .ref m36, .ref m37, .ref m38, .ref m39, .long s40])), (m17, ai g 63 (upd v5 (45 + sd) xv))] H := hP
                                                    have hD : va_D A [(m19, ai g 4 fs), (k0, .inr (9, [.ref m0, .int s1, .int s2, .int s3, .int s4, .int s5, .int s6, .ref m7, .ref m8, .ref m9, .int s10, .int s11, .int s12, .ref m13, .ref m14, .ref m15, .int s16, .ref m17, .ref m18, .ref m19, .ref m20, .ref m21, .ref m22, .ref m23, .ref m24, .ref m25, .ref m26, .ref m27, .ref m28, .int s29, .ref m30, .int s31, .int s32, .int s33, .int s34, .int s35, .ref m36, .ref m37, .ref m38, .ref m39, .long s40])), (m17, ai g 63 (upd v5 (45 + sd) xv))] := hD
                                                    refine lv_iinc (v := (nI (sd + 1))) (lv' := [(3, .int (nI (sd + 1))), (0, .ref k0), (1, .int 4), (2, .int 5)]) hx hb dX9_layCosts_76 hl (k := 3) rfl (nI_1 _) (by decide) rfl (fun ls hl => ?_)
                                                    refine lv_goto (tgt := 13) hx hb dX9_layCosts_79 (by decide) ?_
                                                    exact ih13 (sd + 1) (upd v5 (45 + sd) xv) (by omega) (fun k h2 => by
                                                                                                                        by_cases hk : k = 45 + sd
                                                                                                                        · rw [hk, pk_us]; exact hval
                                                                                                                        · rw [pk_un hk]; exact hv5 k (by omega)) (by omega) _ _ _ (hP.sub [1, 2, 0] rfl) (hD.sub [1, 2, 0] (by decide) rfl) hS (lv_sub hl [1, 2, 3, 0] rfl)
                                                  · exact absurd c31_43 (by decide)
                                            exact loop13 _ 0 v4 (Nat.zero_le 9) (fun k h2 => hv4 k (by omega)) (Nat.lt_succ_self _) _ _ _ hP hD hS (lv_sub hl [2, 3, 1, 0] rfl)
                                        · skip
                                          have hs9 := lt_of_nle (k := 9) (n := sd) (by decide) (by omega) c16_20
                                          refine lv_aload_n hx hb dX9_layCosts_19 rfl (lv_at hl 0 rfl) ?_
                                          refine va_get (D := g.1) (ci := 9) (v := .ref m17) (C := RX9) (T := TX9) (N := 41) hx hb hts q_X9_layCosts_f9 hown hE.1 hP 0 rfl rfl 17 (by decide) (hts (.fieldLink RX9 31 "SoundLawsModel" "costs" "[I") q_X9_layCosts_1) (fun _ h9 => h9) rfl dX9_layCosts_20 ?_
                                          refine lv_bipush (v := 9) hx hb dX9_layCosts_23 (by decide) ?_
                                          refine lv_iload_n hx hb dX9_layCosts_25 rfl (lv_at hl 2 rfl) ?_
                                          refine lv_imul hx hb dX9_layCosts_26 ?_
                                          refine lv_topi (fun x_52 ex_52 => ?_)
                                          obtain rfl : x_52 = 36 := ex_52.trans (by decide)
                                          refine lv_iload_n hx hb dX9_layCosts_27 rfl (lv_at hl 3 rfl) ?_
                                          refine lv_iadd hx hb dX9_layCosts_28 ?_
                                          refine lv_iload_n hx hb dX9_layCosts_29 rfl (lv_at hl 2 rfl) ?_
                                          refine lv_iload_n hx hb dX9_layCosts_30 rfl (lv_at hl 1 rfl) ?_
                                          refine lv_icmp_ge (tgt := 54) hx hb dX9_layCosts_31 (by decide) (fun c31_53 => ?_) (fun c31_53 => ?_)
                                          · skip
                                            refine lv_aload_n hx hb dX9_layCosts_54 rfl (lv_at hl 0 rfl) ?_
                                            refine lv_iload_n hx hb dX9_layCosts_55 rfl (lv_at hl 1 rfl) ?_
                                            refine lv_iload_n hx hb dX9_layCosts_56 rfl (lv_at hl 2 rfl) ?_
                                            refine k_ci (wr := [(k0, .inr (9, [.ref m0, .int s1, .int s2, .int s3, .int s4, .int s5, .int s6, .ref m7, .ref m8, .ref m9, .int s10, .int s11, .int s12, .ref m13, .ref m14, .ref m15, .int s16, .ref m17, .ref m18, .ref m19, .ref m20, .ref m21, .ref m22, .ref m23, .ref m24, .ref m25, .ref m26, .ref m27, .ref m28, .int s29, .ref m30, .int s31, .int s32, .int s33, .int s34, .int s35, .ref m36, .ref m37, .ref m38, .ref m39, .long s40])), (m17, ai g 63 v4), (m19, ai g 4 fs)]) hP hD hS hA [] [0, 1, 2] rfl rfl (by decide) (by decide) (va_runS (As := [.int 4, .int 4]) (rest := [.ref k0, .int (36 + (nI sd)), .ref m17]) ⟨hx, hb, hml, hown, hts⟩ (c_X9_belowFirst_4 l g   H.size) (va_cwS 2 hts gX9_layCosts_X9_belowFirst rfl rfl rfl (by decide +kernel) ⟨Nat.le_of_ble_eq_true rfl, Nat.le_of_ble_eq_true rfl⟩) (k_preS hE hZ hP hD hS hA [] rfl (by decide)) rfl rfl hl.1 rfl (lv_room (Nat.le_of_ble_eq_true rfl)) dX9_layCosts_57 ⟨Nat.le_of_ble_eq_true rfl, Nat.le_of_ble_eq_true rfl⟩) (fun r_54 w1 H locs hw hP hD hS => ?_)
                                            obtain ⟨rfl, rfl⟩ := hw
                                            have hP : va_P g.1 vwCl [(k0, .inr (9, [.ref m0, .int s1, .int s2, .int s3, .int s4, .int s5, .int s6, .ref m7, .ref m8, .ref m9, .int s10, .int s11, .int s12, .ref m13, .ref m14, .ref m15, .int s16, .ref m17, .ref m18, .ref m19, .ref m20, .ref m21, .ref m22, .ref m23, .ref m24, .ref m25, .ref m26, .ref m27, .ref m28, .int s29, .ref m30, .int s31, .int s32, .int s33, .int s34, .int s35, .ref m36, .ref m37, .ref m38, .ref m39, .long s40])), (m17, ai g 63 v4), (m19, ai g 4 fs)] H := hP
                                            have hD : va_D A [(k0, .inr (9, [.ref m0, .int s1, .int s2, .int s3, .int s4, .int s5, .int s6, .ref m7, .ref m8, .ref m9, .int s10, .int s11, .int s12, .ref m13, .ref m14, .ref m15, .int s16, .ref m17, .ref m18, .ref m19, .ref m20, .ref m21, .ref m22, .ref m23, .ref m24, .ref m25, .ref m26, .ref m27, .ref m28, .int s29, .ref m30, .int s31, .int s32, .int s33, .int s34, .int s35, .ref m36, .ref m37, .ref m38, .ref m39, .long s40])), (m17, ai g 63 v4), (m19, ai g 4 fs)] := hD
                                            refine lv_iload_n hx hb dX9_layCosts_60 rfl (lv_at hl 3 rfl) ?_
                                            refine k_ci (wr := [(m19, ai g 4 fs)]) hP hD hS hA [0, 1] [2] rfl rfl (by decide) (by decide) (va_runV (As := [.int 0, .int (nI sd)]) (rest := [.int (36 + (nI sd)), .ref m17]) ⟨hx, hb, hml, hown, hts⟩ (c_X9_least_0 l g k0 m0 s1 s2 s3 s4 s5 s6 m7 m8 m9 s10 s11 s12 m13 m14 m15 s16 m17 m18 m19 m20 m21 m22 m23 m24 m25 m26 m27 m28 s29 m30 s31 s32 s33 s34 s35 m36 m37 m38 m39 s40 v4 sd  H.size) (cwV 2 hts gX9_layCosts_X9_least rfl rfl rfl (by decide +kernel) ⟨Nat.le_of_ble_eq_true rfl, Nat.le_of_ble_eq_true rfl⟩) (k_preV hE hZ hP hD hS hA [0, 1] rfl (by decide) (va_recv hE.1 hP (ci := 9) (q0 := 0) rfl rfl)) rfl rfl hl.1 rfl (lv_room (Nat.le_of_ble_eq_true rfl)) dX9_layCosts_61 ⟨Nat.le_of_ble_eq_true rfl, Nat.le_of_ble_eq_true rfl⟩) (fun r_56 w1 H locs hw hP hD hS => ?_)
                                            obtain ⟨rfl, rfl⟩ := hw
                                            have hP : va_P g.1 vwCl [(m19, ai g 4 fs), (k0, .inr (9, [.ref m0, .int s1, .int s2, .int s3, .int s4, .int s5, .int s6, .ref m7, .ref m8, .ref m9, .int s10, .int s11, .int s12, .ref m13, .ref m14, .ref m15, .int s16, .ref m17, .ref m18, .ref m19, .ref m20, .ref m21, .ref m22, .ref m23, .ref m24, .ref m25, .ref m26, .ref m27, .ref m28, .int s29, .ref m30, .int s31, .int s32, .int s33, .int s34, .int s35, .ref m36, .ref m37, .ref m38, .ref m39, .long s40])), (m17, ai g 63 v4)] H := hP
                                            have hD : va_D A [(m19, ai g 4 fs), (k0, .inr (9, [.ref m0, .int s1, .int s2, .int s3, .int s4, .int s5, .int s6, .ref m7, .ref m8, .ref m9, .int s10, .int s11, .int s12, .ref m13, .ref m14, .ref m15, .int s16, .ref m17, .ref m18, .ref m19, .ref m20, .ref m21, .ref m22, .ref m23, .ref m24, .ref m25, .ref m26, .ref m27, .ref m28, .int s29, .ref m30, .int s31, .int s32, .int s33, .int s34, .int s35, .ref m36, .ref m37, .ref m38, .ref m39, .long s40])), (m17, ai g 63 v4)] := hD
                                            refine lv_aload_n hx hb dX9_layCosts_64 rfl (lv_at hl 0 rfl) ?_
                                            refine lv_iload_n hx hb dX9_layCosts_65 rfl (lv_at hl 1 rfl) ?_
                                            refine lv_iload_n hx hb dX9_layCosts_66 rfl (lv_at hl 2 rfl) ?_
                                            refine k_ci (wr := [(m19, ai g 4 fs), (k0, .inr (9, [.ref m0, .int s1, .int s2, .int s3, .int s4, .int s5, .int s6, .ref m7, .ref m8, .ref m9, .int s10, .int s11, .int s12, .ref m13, .ref m14, .ref m15, .int s16, .ref m17, .ref m18, .ref m19, .ref m20, .ref m21, .ref m22, .ref m23, .ref m24, .ref m25, .ref m26, .ref m27, .ref m28, .int s29, .ref m30, .int s31, .int s32, .int s33, .int s34, .int s35, .ref m36, .ref m37, .ref m38, .ref m39, .long s40])), (m17, ai g 63 v4)]) hP hD hS hA [] [0, 1, 2] rfl rfl (by decide) (by decide) (va_runS (As := [.int 4, .int 4]) (rest := [.ref k0, .int (ml (fun s => v4 (0 + s) + cmo (nI s) (nI sd)) 9), .int (36 + (nI sd)), .ref m17]) ⟨hx, hb, hml, hown, hts⟩ (c_X9_belowSecond_4 l g   H.size) (va_cwS 2 hts gX9_layCosts_X9_belowSecond rfl rfl rfl (by decide +kernel) ⟨Nat.le_of_ble_eq_true rfl, Nat.le_of_ble_eq_true rfl⟩) (k_preS hE hZ hP hD hS hA [] rfl (by decide)) rfl rfl hl.1 rfl (lv_room (Nat.le_of_ble_eq_true rfl)) dX9_layCosts_67 ⟨Nat.le_of_ble_eq_true rfl, Nat.le_of_ble_eq_true rfl⟩) (fun r_58 w1 H locs hw hP hD hS => ?_)
                                            obtain ⟨rfl, rfl⟩ := hw
                                            have hP : va_P g.1 vwCl [(m19, ai g 4 fs), (k0, .inr (9, [.ref m0, .int s1, .int s2, .int s3, .int s4, .int s5, .int s6, .ref m7, .ref m8, .ref m9, .int s10, .int s11, .int s12, .ref m13, .ref m14, .ref m15, .int s16, .ref m17, .ref m18, .ref m19, .ref m20, .ref m21, .ref m22, .ref m23, .ref m24, .ref m25, .ref m26, .ref m27, .ref m28, .int s29, .ref m30, .int s31, .int s32, .int s33, .int s34, .int s35, .ref m36, .ref m37, .ref m38, .ref m39, .long s40])), (m17, ai g 63 v4)] H := hP
                                            have hD : va_D A [(m19, ai g 4 fs), (k0, .inr (9, [.ref m0, .int s1, .int s2, .int s3, .int s4, .int s5, .int s6, .ref m7, .ref m8, .ref m9, .int s10, .int s11, .int s12, .ref m13, .ref m14, .ref m15, .int s16, .ref m17, .ref m18, .ref m19, .ref m20, .ref m21, .ref m22, .ref m23, .ref m24, .ref m25, .ref m26, .ref m27, .ref m28, .int s29, .ref m30, .int s31, .int s32, .int s33, .int s34, .int s35, .ref m36, .ref m37, .ref m38, .ref m39, .long s40])), (m17, ai g 63 v4)] := hD
                                            refine lv_iload_n hx hb dX9_layCosts_70 rfl (lv_at hl 3 rfl) ?_
                                            refine k_ci (wr := [(m19, ai g 4 fs)]) hP hD hS hA [1, 2] [0] rfl rfl (by decide) (by decide) (va_runV (As := [.int 1, .int (nI sd)]) (rest := [.int (ml (fun s => v4 (0 + s) + cmo (nI s) (nI sd)) 9), .int (36 + (nI sd)), .ref m17]) ⟨hx, hb, hml, hown, hts⟩ (c_X9_least_1 l g k0 m0 s1 s2 s3 s4 s5 s6 m7 m8 m9 s10 s11 s12 m13 m14 m15 s16 m17 m18 m19 m20 m21 m22 m23 m24 m25 m26 m27 m28 s29 m30 s31 s32 s33 s34 s35 m36 m37 m38 m39 s40 v4 sd  H.size) (cwV 2 hts gX9_layCosts_X9_least rfl rfl rfl (by decide +kernel) ⟨Nat.le_of_ble_eq_true rfl, Nat.le_of_ble_eq_true rfl⟩) (k_preV hE hZ hP hD hS hA [1, 2] rfl (by decide) (va_recv hE.1 hP (ci := 9) (q0 := 1) rfl rfl)) rfl rfl hl.1 rfl (lv_room (Nat.le_of_ble_eq_true rfl)) dX9_layCosts_71 ⟨Nat.le_of_ble_eq_true rfl, Nat.le_of_ble_eq_true rfl⟩) (fun r_60 w1 H locs hw hP hD hS => ?_)
                                            obtain ⟨rfl, rfl⟩ := hw
                                            have hP : va_P g.1 vwCl [(m19, ai g 4 fs), (k0, .inr (9, [.ref m0, .int s1, .int s2, .int s3, .int s4, .int s5, .int s6, .ref m7, .ref m8, .ref m9, .int s10, .int s11, .int s12, .ref m13, .ref m14, .ref m15, .int s16, .ref m17, .ref m18, .ref m19, .ref m20, .ref m21, .ref m22, .ref m23, .ref m24, .ref m25, .ref m26, .ref m27, .ref m28, .int s29, .ref m30, .int s31, .int s32, .int s33, .int s34, .int s35, .ref m36, .ref m37, .ref m38, .ref m39, .long s40])), (m17, ai g 63 v4)] H := hP
                                            have hD : va_D A [(m19, ai g 4 fs), (k0, .inr (9, [.ref m0, .int s1, .int s2, .int s3, .int s4, .int s5, .int s6, .ref m7, .ref m8, .ref m9, .int s10, .int s11, .int s12, .ref m13, .ref m14, .ref m15, .int s16, .ref m17, .ref m18, .ref m19, .ref m20, .ref m21, .ref m22, .ref m23, .ref m24, .ref m25, .ref m26, .ref m27, .ref m28, .int s29, .ref m30, .int s31, .int s32, .int s33, .int s34, .int s35, .ref m36, .ref m37, .ref m38, .ref m39, .long s40])), (m17, ai g 63 v4)] := hD
                                            refine lv_iadd hx hb dX9_layCosts_74 ?_
                                            refine lv_topi (fun xv exv => ?_)
                                            have hval : xv = Mp a0 a1 a2 a3 (36 + sd) := by rw [exv, MpS (by omega), Sp4 hs9, (ml_congr 9 (fun t ht => by rw [hv4 (0 + t) (by omega), Mp0 ht])).trans (leaf_ml a0 h90 sd hs9), (ml_congr 9 (fun t ht => by rw [hv4 (9 + t) (by omega), Mp1 ht])).trans (leaf_ml a1 h91 sd hs9)]; rfl
                                            refine k_ast (x := xv) (36 + sd) (by rw [show (36 : Int32) = nI 36 from rfl, nI_add]) (by omega) hx hb hE hP hD hS 2 rfl (by decide) dX9_layCosts_75 (fun H locs hP hD hS => ?_)
                                            have hP : va_P g.1 vwCl [(m19, ai g 4 fs), (k0, .inr (9, [.ref m0, .int s1, .int s2, .int s3, .int s4, .int s5, .int s6, .ref m7, .ref m8, .ref m9, .int s10, .int s11, .int s12, .ref m13, .ref m14, .ref m15, .int s16, .ref m17, .ref m18, .ref m19, .ref m20, .ref m21, .ref m22, .ref m23, .ref m24, .ref m25, .ref m26, .ref m27, .ref m28, .int s29, .ref m30, .int s31, .int s32, .int s33, .int s34, .int s35, .ref m36, .ref m37, .ref m38, .ref m39, .long s40])), (m17, ai g 63 (upd v4 (36 + sd) xv))] H := hP
                                            have hD : va_D A [(m19, ai g 4 fs), (k0, .inr (9, [.ref m0, .int s1, .int s2, .int s3, .int s4, .int s5, .int s6, .ref m7, .ref m8, .ref m9, .int s10, .int s11, .int s12, .ref m13, .ref m14, .ref m15, .int s16, .ref m17, .ref m18, .ref m19, .ref m20, .ref m21, .ref m22, .ref m23, .ref m24, .ref m25, .ref m26, .ref m27, .ref m28, .int s29, .ref m30, .int s31, .int s32, .int s33, .int s34, .int s35, .ref m36, .ref m37, .ref m38, .ref m39, .long s40])), (m17, ai g 63 (upd v4 (36 + sd) xv))] := hD
                                            refine lv_iinc (v := (nI (sd + 1))) (lv' := [(3, .int (nI (sd + 1))), (0, .ref k0), (1, .int 4), (2, .int 4)]) hx hb dX9_layCosts_76 hl (k := 3) rfl (nI_1 _) (by decide) rfl (fun ls hl => ?_)
                                            refine lv_goto (tgt := 13) hx hb dX9_layCosts_79 (by decide) ?_
                                            exact ih13 (sd + 1) (upd v4 (36 + sd) xv) (by omega) (fun k h2 => by
                                                                                                                        by_cases hk : k = 36 + sd
                                                                                                                        · rw [hk, pk_us]; exact hval
                                                                                                                        · rw [pk_un hk]; exact hv4 k (by omega)) (by omega) _ _ _ (hP.sub [1, 2, 0] rfl) (hD.sub [1, 2, 0] (by decide) rfl) hS (lv_sub hl [1, 2, 3, 0] rfl)
                                          · exact absurd c31_53 (by decide)
                                    exact loop13 _ 0 v3 (Nat.zero_le 9) (fun k h2 => hv3 k (by omega)) (Nat.lt_succ_self _) _ _ _ hP hD hS (lv_sub hl [2, 3, 1, 0] rfl)
                                · skip
                                  have hs9 := lt_of_nle (k := 9) (n := sd) (by decide) (by omega) c16_16
                                  refine lv_aload_n hx hb dX9_layCosts_19 rfl (lv_at hl 0 rfl) ?_
                                  refine va_get (D := g.1) (ci := 9) (v := .ref m17) (C := RX9) (T := TX9) (N := 41) hx hb hts q_X9_layCosts_f9 hown hE.1 hP 0 rfl rfl 17 (by decide) (hts (.fieldLink RX9 31 "SoundLawsModel" "costs" "[I") q_X9_layCosts_1) (fun _ h9 => h9) rfl dX9_layCosts_20 ?_
                                  refine lv_bipush (v := 9) hx hb dX9_layCosts_23 (by decide) ?_
                                  refine lv_iload_n hx hb dX9_layCosts_25 rfl (lv_at hl 2 rfl) ?_
                                  refine lv_imul hx hb dX9_layCosts_26 ?_
                                  refine lv_topi (fun x_62 ex_62 => ?_)
                                  obtain rfl : x_62 = 27 := ex_62.trans (by decide)
                                  refine lv_iload_n hx hb dX9_layCosts_27 rfl (lv_at hl 3 rfl) ?_
                                  refine lv_iadd hx hb dX9_layCosts_28 ?_
                                  refine lv_iload_n hx hb dX9_layCosts_29 rfl (lv_at hl 2 rfl) ?_
                                  refine lv_iload_n hx hb dX9_layCosts_30 rfl (lv_at hl 1 rfl) ?_
                                  refine lv_icmp_ge (tgt := 54) hx hb dX9_layCosts_31 (by decide) (fun c31_63 => ?_) (fun c31_63 => ?_)
                                  · exact absurd c31_63 (by decide)
                                  · skip
                                    refine lv_iload_n hx hb dX9_layCosts_34 rfl (lv_at hl 3 rfl) ?_
                                    refine lv_aload_n hx hb dX9_layCosts_35 rfl (lv_at hl 0 rfl) ?_
                                    refine va_get (D := g.1) (ci := 9) (v := .ref m19) (C := RX9) (T := TX9) (N := 41) hx hb hts q_X9_layCosts_f9 hown hE.1 hP 0 rfl rfl 19 (by decide) (hts (.fieldLink RX9 37 "SoundLawsModel" "said" "[I") q_X9_layCosts_2) (fun _ h9 => h9) rfl dX9_layCosts_36 ?_
                                    refine lv_iload_n hx hb dX9_layCosts_39 rfl (lv_at hl 2 rfl) ?_
                                    refine k_ald 3 (by decide) (by decide) hx hb hE hP 2 rfl (by decide) dX9_layCosts_40 ?_
                                    refine lv_icmp_ne (tgt := 48) hx hb dX9_layCosts_41 (by decide) (fun c41_64 => ?_) (fun c41_64 => ?_)
                                    · skip
                                      refine lv_sipush (v := 999) hx hb dX9_layCosts_48 (by decide) ?_
                                      refine lv_goto (tgt := 75) hx hb dX9_layCosts_51 (by decide) ?_
                                      refine lv_topi (fun xv exv => ?_)
                                      have hval : xv = Mp a0 a1 a2 a3 (27 + sd) := by rw [exv, Mp3 hs9, lf_f (fun q => c41_64 (by rw [ha3, q]))]
                                      refine k_ast (x := xv) (27 + sd) (by rw [show (27 : Int32) = nI 27 from rfl, nI_add]) (by omega) hx hb hE hP hD hS 1 rfl (by decide) dX9_layCosts_75 (fun H locs hP hD hS => ?_)
                                      have hP : va_P g.1 vwCl [(k0, .inr (9, [.ref m0, .int s1, .int s2, .int s3, .int s4, .int s5, .int s6, .ref m7, .ref m8, .ref m9, .int s10, .int s11, .int s12, .ref m13, .ref m14, .ref m15, .int s16, .ref m17, .ref m18, .ref m19, .ref m20, .ref m21, .ref m22, .ref m23, .ref m24, .ref m25, .ref m26, .ref m27, .ref m28, .int s29, .ref m30, .int s31, .int s32, .int s33, .int s34, .int s35, .ref m36, .ref m37, .ref m38, .ref m39, .long s40])), (m17, ai g 63 (upd v3 (27 + sd) xv)), (m19, ai g 4 fs)] H := hP
                                      have hD : va_D A [(k0, .inr (9, [.ref m0, .int s1, .int s2, .int s3, .int s4, .int s5, .int s6, .ref m7, .ref m8, .ref m9, .int s10, .int s11, .int s12, .ref m13, .ref m14, .ref m15, .int s16, .ref m17, .ref m18, .ref m19, .ref m20, .ref m21, .ref m22, .ref m23, .ref m24, .ref m25, .ref m26, .ref m27, .ref m28, .int s29, .ref m30, .int s31, .int s32, .int s33, .int s34, .int s35, .ref m36, .ref m37, .ref m38, .ref m39, .long s40])), (m17, ai g 63 (upd v3 (27 + sd) xv)), (m19, ai g 4 fs)] := hD
                                      refine lv_iinc (v := (nI (sd + 1))) (lv' := [(3, .int (nI (sd + 1))), (0, .ref k0), (1, .int 4), (2, .int 3)]) hx hb dX9_layCosts_76 hl (k := 3) rfl (nI_1 _) (by decide) rfl (fun ls hl => ?_)
                                      refine lv_goto (tgt := 13) hx hb dX9_layCosts_79 (by decide) ?_
                                      exact ih13 (sd + 1) (upd v3 (27 + sd) xv) (by omega) (fun k h2 => by
                                                                                                                        by_cases hk : k = 27 + sd
                                                                                                                        · rw [hk, pk_us]; exact hval
                                                                                                                        · rw [pk_un hk]; exact hv3 k (by omega)) (by omega) _ _ _ hP hD hS (lv_sub hl [1, 2, 3, 0] rfl)
                                    · skip
                                      refine lv_iconst (v := 0) hx hb dX9_layCosts_44 (by decide) ?_
                                      refine lv_goto (tgt := 75) hx hb dX9_layCosts_45 (by decide) ?_
                                      refine lv_topi (fun xv exv => ?_)
                                      have hval : xv = Mp a0 a1 a2 a3 (27 + sd) := by rw [exv, Mp3 hs9, lf_t ((nI_eq (by omega) (by omega)).mp (by rw [← ha3]; exact c41_64))]
                                      refine k_ast (x := xv) (27 + sd) (by rw [show (27 : Int32) = nI 27 from rfl, nI_add]) (by omega) hx hb hE hP hD hS 1 rfl (by decide) dX9_layCosts_75 (fun H locs hP hD hS => ?_)
                                      have hP : va_P g.1 vwCl [(k0, .inr (9, [.ref m0, .int s1, .int s2, .int s3, .int s4, .int s5, .int s6, .ref m7, .ref m8, .ref m9, .int s10, .int s11, .int s12, .ref m13, .ref m14, .ref m15, .int s16, .ref m17, .ref m18, .ref m19, .ref m20, .ref m21, .ref m22, .ref m23, .ref m24, .ref m25, .ref m26, .ref m27, .ref m28, .int s29, .ref m30, .int s31, .int s32, .int s33, .int s34, .int s35, .ref m36, .ref m37, .ref m38, .ref m39, .long s40])), (m17, ai g 63 (upd v3 (27 + sd) xv)), (m19, ai g 4 fs)] H := hP
                                      have hD : va_D A [(k0, .inr (9, [.ref m0, .int s1, .int s2, .int s3, .int s4, .int s5, .int s6, .ref m7, .ref m8, .ref m9, .int s10, .int s11, .int s12, .ref m13, .ref m14, .ref m15, .int s16, .ref m17, .ref m18, .ref m19, .ref m20, .ref m21, .ref m22, .ref m23, .ref m24, .ref m25, .ref m26, .ref m27, .ref m28, .int s29, .ref m30, .int s31, .int s32, .int s33, .int s34, .int s35, .ref m36, .ref m37, .ref m38, .ref m39, .long s40])), (m17, ai g 63 (upd v3 (27 + sd) xv)), (m19, ai g 4 fs)] := hD
                                      refine lv_iinc (v := (nI (sd + 1))) (lv' := [(3, .int (nI (sd + 1))), (0, .ref k0), (1, .int 4), (2, .int 3)]) hx hb dX9_layCosts_76 hl (k := 3) rfl (nI_1 _) (by decide) rfl (fun ls hl => ?_)
                                      refine lv_goto (tgt := 13) hx hb dX9_layCosts_79 (by decide) ?_
                                      exact ih13 (sd + 1) (upd v3 (27 + sd) xv) (by omega) (fun k h2 => by
                                                                                                                        by_cases hk : k = 27 + sd
                                                                                                                        · rw [hk, pk_us]; exact hval
                                                                                                                        · rw [pk_un hk]; exact hv3 k (by omega)) (by omega) _ _ _ hP hD hS (lv_sub hl [1, 2, 3, 0] rfl)
                            exact loop13 _ 0 v2 (Nat.zero_le 9) (fun k h2 => hv2 k (by omega)) (Nat.lt_succ_self _) _ _ _ hP hD hS (lv_sub hl [2, 3, 1, 0] rfl)
                        · skip
                          have hs9 := lt_of_nle (k := 9) (n := sd) (by decide) (by omega) c16_12
                          refine lv_aload_n hx hb dX9_layCosts_19 rfl (lv_at hl 0 rfl) ?_
                          refine va_get (D := g.1) (ci := 9) (v := .ref m17) (C := RX9) (T := TX9) (N := 41) hx hb hts q_X9_layCosts_f9 hown hE.1 hP 0 rfl rfl 17 (by decide) (hts (.fieldLink RX9 31 "SoundLawsModel" "costs" "[I") q_X9_layCosts_1) (fun _ h9 => h9) rfl dX9_layCosts_20 ?_
                          refine lv_bipush (v := 9) hx hb dX9_layCosts_23 (by decide) ?_
                          refine lv_iload_n hx hb dX9_layCosts_25 rfl (lv_at hl 2 rfl) ?_
                          refine lv_imul hx hb dX9_layCosts_26 ?_
                          refine lv_topi (fun x_65 ex_65 => ?_)
                          obtain rfl : x_65 = 18 := ex_65.trans (by decide)
                          refine lv_iload_n hx hb dX9_layCosts_27 rfl (lv_at hl 3 rfl) ?_
                          refine lv_iadd hx hb dX9_layCosts_28 ?_
                          refine lv_iload_n hx hb dX9_layCosts_29 rfl (lv_at hl 2 rfl) ?_
                          refine lv_iload_n hx hb dX9_layCosts_30 rfl (lv_at hl 1 rfl) ?_
                          refine lv_icmp_ge (tgt := 54) hx hb dX9_layCosts_31 (by decide) (fun c31_66 => ?_) (fun c31_66 => ?_)
                          · exact absurd c31_66 (by decide)
                          · skip
                            refine lv_iload_n hx hb dX9_layCosts_34 rfl (lv_at hl 3 rfl) ?_
                            refine lv_aload_n hx hb dX9_layCosts_35 rfl (lv_at hl 0 rfl) ?_
                            refine va_get (D := g.1) (ci := 9) (v := .ref m19) (C := RX9) (T := TX9) (N := 41) hx hb hts q_X9_layCosts_f9 hown hE.1 hP 0 rfl rfl 19 (by decide) (hts (.fieldLink RX9 37 "SoundLawsModel" "said" "[I") q_X9_layCosts_2) (fun _ h9 => h9) rfl dX9_layCosts_36 ?_
                            refine lv_iload_n hx hb dX9_layCosts_39 rfl (lv_at hl 2 rfl) ?_
                            refine k_ald 2 (by decide) (by decide) hx hb hE hP 2 rfl (by decide) dX9_layCosts_40 ?_
                            refine lv_icmp_ne (tgt := 48) hx hb dX9_layCosts_41 (by decide) (fun c41_67 => ?_) (fun c41_67 => ?_)
                            · skip
                              refine lv_sipush (v := 999) hx hb dX9_layCosts_48 (by decide) ?_
                              refine lv_goto (tgt := 75) hx hb dX9_layCosts_51 (by decide) ?_
                              refine lv_topi (fun xv exv => ?_)
                              have hval : xv = Mp a0 a1 a2 a3 (18 + sd) := by rw [exv, Mp2 hs9, lf_f (fun q => c41_67 (by rw [ha2, q]))]
                              refine k_ast (x := xv) (18 + sd) (by rw [show (18 : Int32) = nI 18 from rfl, nI_add]) (by omega) hx hb hE hP hD hS 1 rfl (by decide) dX9_layCosts_75 (fun H locs hP hD hS => ?_)
                              have hP : va_P g.1 vwCl [(k0, .inr (9, [.ref m0, .int s1, .int s2, .int s3, .int s4, .int s5, .int s6, .ref m7, .ref m8, .ref m9, .int s10, .int s11, .int s12, .ref m13, .ref m14, .ref m15, .int s16, .ref m17, .ref m18, .ref m19, .ref m20, .ref m21, .ref m22, .ref m23, .ref m24, .ref m25, .ref m26, .ref m27, .ref m28, .int s29, .ref m30, .int s31, .int s32, .int s33, .int s34, .int s35, .ref m36, .ref m37, .ref m38, .ref m39, .long s40])), (m17, ai g 63 (upd v2 (18 + sd) xv)), (m19, ai g 4 fs)] H := hP
                              have hD : va_D A [(k0, .inr (9, [.ref m0, .int s1, .int s2, .int s3, .int s4, .int s5, .int s6, .ref m7, .ref m8, .ref m9, .int s10, .int s11, .int s12, .ref m13, .ref m14, .ref m15, .int s16, .ref m17, .ref m18, .ref m19, .ref m20, .ref m21, .ref m22, .ref m23, .ref m24, .ref m25, .ref m26, .ref m27, .ref m28, .int s29, .ref m30, .int s31, .int s32, .int s33, .int s34, .int s35, .ref m36, .ref m37, .ref m38, .ref m39, .long s40])), (m17, ai g 63 (upd v2 (18 + sd) xv)), (m19, ai g 4 fs)] := hD
                              refine lv_iinc (v := (nI (sd + 1))) (lv' := [(3, .int (nI (sd + 1))), (0, .ref k0), (1, .int 4), (2, .int 2)]) hx hb dX9_layCosts_76 hl (k := 3) rfl (nI_1 _) (by decide) rfl (fun ls hl => ?_)
                              refine lv_goto (tgt := 13) hx hb dX9_layCosts_79 (by decide) ?_
                              exact ih13 (sd + 1) (upd v2 (18 + sd) xv) (by omega) (fun k h2 => by
                                                                                                                        by_cases hk : k = 18 + sd
                                                                                                                        · rw [hk, pk_us]; exact hval
                                                                                                                        · rw [pk_un hk]; exact hv2 k (by omega)) (by omega) _ _ _ hP hD hS (lv_sub hl [1, 2, 3, 0] rfl)
                            · skip
                              refine lv_iconst (v := 0) hx hb dX9_layCosts_44 (by decide) ?_
                              refine lv_goto (tgt := 75) hx hb dX9_layCosts_45 (by decide) ?_
                              refine lv_topi (fun xv exv => ?_)
                              have hval : xv = Mp a0 a1 a2 a3 (18 + sd) := by rw [exv, Mp2 hs9, lf_t ((nI_eq (by omega) (by omega)).mp (by rw [← ha2]; exact c41_67))]
                              refine k_ast (x := xv) (18 + sd) (by rw [show (18 : Int32) = nI 18 from rfl, nI_add]) (by omega) hx hb hE hP hD hS 1 rfl (by decide) dX9_layCosts_75 (fun H locs hP hD hS => ?_)
                              have hP : va_P g.1 vwCl [(k0, .inr (9, [.ref m0, .int s1, .int s2, .int s3, .int s4, .int s5, .int s6, .ref m7, .ref m8, .ref m9, .int s10, .int s11, .int s12, .ref m13, .ref m14, .ref m15, .int s16, .ref m17, .ref m18, .ref m19, .ref m20, .ref m21, .ref m22, .ref m23, .ref m24, .ref m25, .ref m26, .ref m27, .ref m28, .int s29, .ref m30, .int s31, .int s32, .int s33, .int s34, .int s35, .ref m36, .ref m37, .ref m38, .ref m39, .long s40])), (m17, ai g 63 (upd v2 (18 + sd) xv)), (m19, ai g 4 fs)] H := hP
                              have hD : va_D A [(k0, .inr (9, [.ref m0, .int s1, .int s2, .int s3, .int s4, .int s5, .int s6, .ref m7, .ref m8, .ref m9, .int s10, .int s11, .int s12, .ref m13, .ref m14, .ref m15, .int s16, .ref m17, .ref m18, .ref m19, .ref m20, .ref m21, .ref m22, .ref m23, .ref m24, .ref m25, .ref m26, .ref m27, .ref m28, .int s29, .ref m30, .int s31, .int s32, .int s33, .int s34, .int s35, .ref m36, .ref m37, .ref m38, .ref m39, .long s40])), (m17, ai g 63 (upd v2 (18 + sd) xv)), (m19, ai g 4 fs)] := hD
                              refine lv_iinc (v := (nI (sd + 1))) (lv' := [(3, .int (nI (sd + 1))), (0, .ref k0), (1, .int 4), (2, .int 2)]) hx hb dX9_layCosts_76 hl (k := 3) rfl (nI_1 _) (by decide) rfl (fun ls hl => ?_)
                              refine lv_goto (tgt := 13) hx hb dX9_layCosts_79 (by decide) ?_
                              exact ih13 (sd + 1) (upd v2 (18 + sd) xv) (by omega) (fun k h2 => by
                                                                                                                        by_cases hk : k = 18 + sd
                                                                                                                        · rw [hk, pk_us]; exact hval
                                                                                                                        · rw [pk_un hk]; exact hv2 k (by omega)) (by omega) _ _ _ hP hD hS (lv_sub hl [1, 2, 3, 0] rfl)
                    exact loop13 _ 0 v1 (Nat.zero_le 9) (fun k h2 => hv1 k (by omega)) (Nat.lt_succ_self _) _ _ _ hP hD hS (lv_sub hl [2, 3, 1, 0] rfl)
                · skip
                  have hs9 := lt_of_nle (k := 9) (n := sd) (by decide) (by omega) c16_8
                  refine lv_aload_n hx hb dX9_layCosts_19 rfl (lv_at hl 0 rfl) ?_
                  refine va_get (D := g.1) (ci := 9) (v := .ref m17) (C := RX9) (T := TX9) (N := 41) hx hb hts q_X9_layCosts_f9 hown hE.1 hP 0 rfl rfl 17 (by decide) (hts (.fieldLink RX9 31 "SoundLawsModel" "costs" "[I") q_X9_layCosts_1) (fun _ h9 => h9) rfl dX9_layCosts_20 ?_
                  refine lv_bipush (v := 9) hx hb dX9_layCosts_23 (by decide) ?_
                  refine lv_iload_n hx hb dX9_layCosts_25 rfl (lv_at hl 2 rfl) ?_
                  refine lv_imul hx hb dX9_layCosts_26 ?_
                  refine lv_topi (fun x_68 ex_68 => ?_)
                  obtain rfl : x_68 = 9 := ex_68.trans (by decide)
                  refine lv_iload_n hx hb dX9_layCosts_27 rfl (lv_at hl 3 rfl) ?_
                  refine lv_iadd hx hb dX9_layCosts_28 ?_
                  refine lv_iload_n hx hb dX9_layCosts_29 rfl (lv_at hl 2 rfl) ?_
                  refine lv_iload_n hx hb dX9_layCosts_30 rfl (lv_at hl 1 rfl) ?_
                  refine lv_icmp_ge (tgt := 54) hx hb dX9_layCosts_31 (by decide) (fun c31_69 => ?_) (fun c31_69 => ?_)
                  · exact absurd c31_69 (by decide)
                  · skip
                    refine lv_iload_n hx hb dX9_layCosts_34 rfl (lv_at hl 3 rfl) ?_
                    refine lv_aload_n hx hb dX9_layCosts_35 rfl (lv_at hl 0 rfl) ?_
                    refine va_get (D := g.1) (ci := 9) (v := .ref m19) (C := RX9) (T := TX9) (N := 41) hx hb hts q_X9_layCosts_f9 hown hE.1 hP 0 rfl rfl 19 (by decide) (hts (.fieldLink RX9 37 "SoundLawsModel" "said" "[I") q_X9_layCosts_2) (fun _ h9 => h9) rfl dX9_layCosts_36 ?_
                    refine lv_iload_n hx hb dX9_layCosts_39 rfl (lv_at hl 2 rfl) ?_
                    refine k_ald 1 (by decide) (by decide) hx hb hE hP 2 rfl (by decide) dX9_layCosts_40 ?_
                    refine lv_icmp_ne (tgt := 48) hx hb dX9_layCosts_41 (by decide) (fun c41_70 => ?_) (fun c41_70 => ?_)
                    · skip
                      refine lv_sipush (v := 999) hx hb dX9_layCosts_48 (by decide) ?_
                      refine lv_goto (tgt := 75) hx hb dX9_layCosts_51 (by decide) ?_
                      refine lv_topi (fun xv exv => ?_)
                      have hval : xv = Mp a0 a1 a2 a3 (9 + sd) := by rw [exv, Mp1 hs9, lf_f (fun q => c41_70 (by rw [ha1, q]))]
                      refine k_ast (x := xv) (9 + sd) (by rw [show (9 : Int32) = nI 9 from rfl, nI_add]) (by omega) hx hb hE hP hD hS 1 rfl (by decide) dX9_layCosts_75 (fun H locs hP hD hS => ?_)
                      have hP : va_P g.1 vwCl [(k0, .inr (9, [.ref m0, .int s1, .int s2, .int s3, .int s4, .int s5, .int s6, .ref m7, .ref m8, .ref m9, .int s10, .int s11, .int s12, .ref m13, .ref m14, .ref m15, .int s16, .ref m17, .ref m18, .ref m19, .ref m20, .ref m21, .ref m22, .ref m23, .ref m24, .ref m25, .ref m26, .ref m27, .ref m28, .int s29, .ref m30, .int s31, .int s32, .int s33, .int s34, .int s35, .ref m36, .ref m37, .ref m38, .ref m39, .long s40])), (m17, ai g 63 (upd v1 (9 + sd) xv)), (m19, ai g 4 fs)] H := hP
                      have hD : va_D A [(k0, .inr (9, [.ref m0, .int s1, .int s2, .int s3, .int s4, .int s5, .int s6, .ref m7, .ref m8, .ref m9, .int s10, .int s11, .int s12, .ref m13, .ref m14, .ref m15, .int s16, .ref m17, .ref m18, .ref m19, .ref m20, .ref m21, .ref m22, .ref m23, .ref m24, .ref m25, .ref m26, .ref m27, .ref m28, .int s29, .ref m30, .int s31, .int s32, .int s33, .int s34, .int s35, .ref m36, .ref m37, .ref m38, .ref m39, .long s40])), (m17, ai g 63 (upd v1 (9 + sd) xv)), (m19, ai g 4 fs)] := hD
                      refine lv_iinc (v := (nI (sd + 1))) (lv' := [(3, .int (nI (sd + 1))), (0, .ref k0), (1, .int 4), (2, .int 1)]) hx hb dX9_layCosts_76 hl (k := 3) rfl (nI_1 _) (by decide) rfl (fun ls hl => ?_)
                      refine lv_goto (tgt := 13) hx hb dX9_layCosts_79 (by decide) ?_
                      exact ih13 (sd + 1) (upd v1 (9 + sd) xv) (by omega) (fun k h2 => by
                                                                                                                        by_cases hk : k = 9 + sd
                                                                                                                        · rw [hk, pk_us]; exact hval
                                                                                                                        · rw [pk_un hk]; exact hv1 k (by omega)) (by omega) _ _ _ hP hD hS (lv_sub hl [1, 2, 3, 0] rfl)
                    · skip
                      refine lv_iconst (v := 0) hx hb dX9_layCosts_44 (by decide) ?_
                      refine lv_goto (tgt := 75) hx hb dX9_layCosts_45 (by decide) ?_
                      refine lv_topi (fun xv exv => ?_)
                      have hval : xv = Mp a0 a1 a2 a3 (9 + sd) := by rw [exv, Mp1 hs9, lf_t ((nI_eq (by omega) (by omega)).mp (by rw [← ha1]; exact c41_70))]
                      refine k_ast (x := xv) (9 + sd) (by rw [show (9 : Int32) = nI 9 from rfl, nI_add]) (by omega) hx hb hE hP hD hS 1 rfl (by decide) dX9_layCosts_75 (fun H locs hP hD hS => ?_)
                      have hP : va_P g.1 vwCl [(k0, .inr (9, [.ref m0, .int s1, .int s2, .int s3, .int s4, .int s5, .int s6, .ref m7, .ref m8, .ref m9, .int s10, .int s11, .int s12, .ref m13, .ref m14, .ref m15, .int s16, .ref m17, .ref m18, .ref m19, .ref m20, .ref m21, .ref m22, .ref m23, .ref m24, .ref m25, .ref m26, .ref m27, .ref m28, .int s29, .ref m30, .int s31, .int s32, .int s33, .int s34, .int s35, .ref m36, .ref m37, .ref m38, .ref m39, .long s40])), (m17, ai g 63 (upd v1 (9 + sd) xv)), (m19, ai g 4 fs)] H := hP
                      have hD : va_D A [(k0, .inr (9, [.ref m0, .int s1, .int s2, .int s3, .int s4, .int s5, .int s6, .ref m7, .ref m8, .ref m9, .int s10, .int s11, .int s12, .ref m13, .ref m14, .ref m15, .int s16, .ref m17, .ref m18, .ref m19, .ref m20, .ref m21, .ref m22, .ref m23, .ref m24, .ref m25, .ref m26, .ref m27, .ref m28, .int s29, .ref m30, .int s31, .int s32, .int s33, .int s34, .int s35, .ref m36, .ref m37, .ref m38, .ref m39, .long s40])), (m17, ai g 63 (upd v1 (9 + sd) xv)), (m19, ai g 4 fs)] := hD
                      refine lv_iinc (v := (nI (sd + 1))) (lv' := [(3, .int (nI (sd + 1))), (0, .ref k0), (1, .int 4), (2, .int 1)]) hx hb dX9_layCosts_76 hl (k := 3) rfl (nI_1 _) (by decide) rfl (fun ls hl => ?_)
                      refine lv_goto (tgt := 13) hx hb dX9_layCosts_79 (by decide) ?_
                      exact ih13 (sd + 1) (upd v1 (9 + sd) xv) (by omega) (fun k h2 => by
                                                                                                                        by_cases hk : k = 9 + sd
                                                                                                                        · rw [hk, pk_us]; exact hval
                                                                                                                        · rw [pk_un hk]; exact hv1 k (by omega)) (by omega) _ _ _ hP hD hS (lv_sub hl [1, 2, 3, 0] rfl)
            exact loop13 _ 0 v0 (Nat.zero_le 9) (fun k h2 => hv0 k (by omega)) (Nat.lt_succ_self _) _ _ _ hP hD hS (lv_sub hl [2, 3, 1, 0] rfl)
        · skip
          have hs9 := lt_of_nle (k := 9) (n := sd) (by decide) (by omega) c16_4
          refine lv_aload_n hx hb dX9_layCosts_19 rfl (lv_at hl 0 rfl) ?_
          refine va_get (D := g.1) (ci := 9) (v := .ref m17) (C := RX9) (T := TX9) (N := 41) hx hb hts q_X9_layCosts_f9 hown hE.1 hP 0 rfl rfl 17 (by decide) (hts (.fieldLink RX9 31 "SoundLawsModel" "costs" "[I") q_X9_layCosts_1) (fun _ h9 => h9) rfl dX9_layCosts_20 ?_
          refine lv_bipush (v := 9) hx hb dX9_layCosts_23 (by decide) ?_
          refine lv_iload_n hx hb dX9_layCosts_25 rfl (lv_at hl 2 rfl) ?_
          refine lv_imul hx hb dX9_layCosts_26 ?_
          refine lv_topi (fun x_71 ex_71 => ?_)
          obtain rfl : x_71 = 0 := ex_71.trans (by decide)
          refine lv_iload_n hx hb dX9_layCosts_27 rfl (lv_at hl 3 rfl) ?_
          refine lv_iadd hx hb dX9_layCosts_28 ?_
          refine lv_iload_n hx hb dX9_layCosts_29 rfl (lv_at hl 2 rfl) ?_
          refine lv_iload_n hx hb dX9_layCosts_30 rfl (lv_at hl 1 rfl) ?_
          refine lv_icmp_ge (tgt := 54) hx hb dX9_layCosts_31 (by decide) (fun c31_72 => ?_) (fun c31_72 => ?_)
          · exact absurd c31_72 (by decide)
          · skip
            refine lv_iload_n hx hb dX9_layCosts_34 rfl (lv_at hl 3 rfl) ?_
            refine lv_aload_n hx hb dX9_layCosts_35 rfl (lv_at hl 0 rfl) ?_
            refine va_get (D := g.1) (ci := 9) (v := .ref m19) (C := RX9) (T := TX9) (N := 41) hx hb hts q_X9_layCosts_f9 hown hE.1 hP 0 rfl rfl 19 (by decide) (hts (.fieldLink RX9 37 "SoundLawsModel" "said" "[I") q_X9_layCosts_2) (fun _ h9 => h9) rfl dX9_layCosts_36 ?_
            refine lv_iload_n hx hb dX9_layCosts_39 rfl (lv_at hl 2 rfl) ?_
            refine k_ald 0 (by decide) (by decide) hx hb hE hP 2 rfl (by decide) dX9_layCosts_40 ?_
            refine lv_icmp_ne (tgt := 48) hx hb dX9_layCosts_41 (by decide) (fun c41_73 => ?_) (fun c41_73 => ?_)
            · skip
              refine lv_sipush (v := 999) hx hb dX9_layCosts_48 (by decide) ?_
              refine lv_goto (tgt := 75) hx hb dX9_layCosts_51 (by decide) ?_
              refine lv_topi (fun xv exv => ?_)
              have hval : xv = Mp a0 a1 a2 a3 (0 + sd) := by rw [exv, Mp0 hs9, lf_f (fun q => c41_73 (by rw [ha0, q]))]
              refine k_ast (x := xv) (0 + sd) (by rw [show (0 : Int32) = nI 0 from rfl, nI_add]) (by omega) hx hb hE hP hD hS 1 rfl (by decide) dX9_layCosts_75 (fun H locs hP hD hS => ?_)
              have hP : va_P g.1 vwCl [(k0, .inr (9, [.ref m0, .int s1, .int s2, .int s3, .int s4, .int s5, .int s6, .ref m7, .ref m8, .ref m9, .int s10, .int s11, .int s12, .ref m13, .ref m14, .ref m15, .int s16, .ref m17, .ref m18, .ref m19, .ref m20, .ref m21, .ref m22, .ref m23, .ref m24, .ref m25, .ref m26, .ref m27, .ref m28, .int s29, .ref m30, .int s31, .int s32, .int s33, .int s34, .int s35, .ref m36, .ref m37, .ref m38, .ref m39, .long s40])), (m17, ai g 63 (upd v0 (0 + sd) xv)), (m19, ai g 4 fs)] H := hP
              have hD : va_D A [(k0, .inr (9, [.ref m0, .int s1, .int s2, .int s3, .int s4, .int s5, .int s6, .ref m7, .ref m8, .ref m9, .int s10, .int s11, .int s12, .ref m13, .ref m14, .ref m15, .int s16, .ref m17, .ref m18, .ref m19, .ref m20, .ref m21, .ref m22, .ref m23, .ref m24, .ref m25, .ref m26, .ref m27, .ref m28, .int s29, .ref m30, .int s31, .int s32, .int s33, .int s34, .int s35, .ref m36, .ref m37, .ref m38, .ref m39, .long s40])), (m17, ai g 63 (upd v0 (0 + sd) xv)), (m19, ai g 4 fs)] := hD
              refine lv_iinc (v := (nI (sd + 1))) (lv' := [(3, .int (nI (sd + 1))), (0, .ref k0), (1, .int 4), (2, .int 0)]) hx hb dX9_layCosts_76 hl (k := 3) rfl (nI_1 _) (by decide) rfl (fun ls hl => ?_)
              refine lv_goto (tgt := 13) hx hb dX9_layCosts_79 (by decide) ?_
              exact ih13 (sd + 1) (upd v0 (0 + sd) xv) (by omega) (fun k h2 => by
                                                                                                                        by_cases hk : k = 0 + sd
                                                                                                                        · rw [hk, pk_us]; exact hval
                                                                                                                        · rw [pk_un hk]; exact hv0 k (by omega)) (by omega) _ _ _ hP hD hS (lv_sub hl [1, 2, 3, 0] rfl)
            · skip
              refine lv_iconst (v := 0) hx hb dX9_layCosts_44 (by decide) ?_
              refine lv_goto (tgt := 75) hx hb dX9_layCosts_45 (by decide) ?_
              refine lv_topi (fun xv exv => ?_)
              have hval : xv = Mp a0 a1 a2 a3 (0 + sd) := by rw [exv, Mp0 hs9, lf_t ((nI_eq (by omega) (by omega)).mp (by rw [← ha0]; exact c41_73))]
              refine k_ast (x := xv) (0 + sd) (by rw [show (0 : Int32) = nI 0 from rfl, nI_add]) (by omega) hx hb hE hP hD hS 1 rfl (by decide) dX9_layCosts_75 (fun H locs hP hD hS => ?_)
              have hP : va_P g.1 vwCl [(k0, .inr (9, [.ref m0, .int s1, .int s2, .int s3, .int s4, .int s5, .int s6, .ref m7, .ref m8, .ref m9, .int s10, .int s11, .int s12, .ref m13, .ref m14, .ref m15, .int s16, .ref m17, .ref m18, .ref m19, .ref m20, .ref m21, .ref m22, .ref m23, .ref m24, .ref m25, .ref m26, .ref m27, .ref m28, .int s29, .ref m30, .int s31, .int s32, .int s33, .int s34, .int s35, .ref m36, .ref m37, .ref m38, .ref m39, .long s40])), (m17, ai g 63 (upd v0 (0 + sd) xv)), (m19, ai g 4 fs)] H := hP
              have hD : va_D A [(k0, .inr (9, [.ref m0, .int s1, .int s2, .int s3, .int s4, .int s5, .int s6, .ref m7, .ref m8, .ref m9, .int s10, .int s11, .int s12, .ref m13, .ref m14, .ref m15, .int s16, .ref m17, .ref m18, .ref m19, .ref m20, .ref m21, .ref m22, .ref m23, .ref m24, .ref m25, .ref m26, .ref m27, .ref m28, .int s29, .ref m30, .int s31, .int s32, .int s33, .int s34, .int s35, .ref m36, .ref m37, .ref m38, .ref m39, .long s40])), (m17, ai g 63 (upd v0 (0 + sd) xv)), (m19, ai g 4 fs)] := hD
              refine lv_iinc (v := (nI (sd + 1))) (lv' := [(3, .int (nI (sd + 1))), (0, .ref k0), (1, .int 4), (2, .int 0)]) hx hb dX9_layCosts_76 hl (k := 3) rfl (nI_1 _) (by decide) rfl (fun ls hl => ?_)
              refine lv_goto (tgt := 13) hx hb dX9_layCosts_79 (by decide) ?_
              exact ih13 (sd + 1) (upd v0 (0 + sd) xv) (by omega) (fun k h2 => by
                                                                                                                        by_cases hk : k = 0 + sd
                                                                                                                        · rw [hk, pk_us]; exact hval
                                                                                                                        · rw [pk_un hk]; exact hv0 k (by omega)) (by omega) _ _ _ hP hD hS (lv_sub hl [1, 2, 3, 0] rfl)
    exact loop13 _ 0 fc (Nat.zero_le 9) (fun k h2 => absurd h2 (by omega)) (Nat.lt_succ_self _) _ _ _ hP hD hS (lv_sub hl [2, 3, 1, 0] rfl)
def po_X9_leastSound_6 (g : GG) (k0 : Nat) (m0 : Nat) (s1 : Int32) (s2 : Int32) (s3 : Int32) (s4 : Int32) (s5 : Int32) (s6 : Int32) (m7 : Nat) (m8 : Nat) (m9 : Nat) (s10 : Int32) (s11 : Int32) (s12 : Int32) (m13 : Nat) (m14 : Nat) (m15 : Nat) (s16 : Int32) (m17 : Nat) (m18 : Nat) (m19 : Nat) (m20 : Nat) (m21 : Nat) (m22 : Nat) (m23 : Nat) (m24 : Nat) (m25 : Nat) (m26 : Nat) (m27 : Nat) (m28 : Nat) (s29 : Int32) (m30 : Nat) (s31 : Int32) (s32 : Int32) (s33 : Int32) (s34 : Int32) (s35 : Int32) (m36 : Nat) (m37 : Nat) (m38 : Nat) (m39 : Nat) (s40 : Int64) (fc : Nat → Int32) : Int32 → va_W → Prop := fun (r : Int32) w => w = [(k0, .inr (9, [.ref m0, .int s1, .int s2, .int s3, .int s4, .int s5, .int s6, .ref m7, .ref m8, .ref m9, .int s10, .int s11, .int s12, .ref m13, .ref m14, .ref m15, .int s16, .ref m17, .ref m18, .ref m19, .ref m20, .ref m21, .ref m22, .ref m23, .ref m24, .ref m25, .ref m26, .ref m27, .ref m28, .int s29, .ref m30, .int s31, .int s32, .int s33, .int s34, .int s35, .ref m36, .ref m37, .ref m38, .ref m39, .long s40])), (m17, ai g 63 fc)] ∧ (nI (ams (fun s => fc (54 + s) + 0) 9) = r)
theorem q_X9_leastSound_6_f9 : ∀ w ∈ u_ws RX9 TX9 41, w ∈ wsX9_leastSound := by decide +kernel
theorem q_X9_leastSound_6_1 : (Cond.fieldLink RX9 31 "SoundLawsModel" "costs" "[I") ∈ wsX9_leastSound := by decide +kernel
set_option maxHeartbeats 1500000 in
set_option maxRecDepth 100000 in
theorem c_X9_leastSound_6 (l : Launch) (g : GG) (k0 : Nat) (m0 : Nat) (s1 : Int32) (s2 : Int32) (s3 : Int32) (s4 : Int32) (s5 : Int32) (s6 : Int32) (m7 : Nat) (m8 : Nat) (m9 : Nat) (s10 : Int32) (s11 : Int32) (s12 : Int32) (m13 : Nat) (m14 : Nat) (m15 : Nat) (s16 : Int32) (m17 : Nat) (m18 : Nat) (m19 : Nat) (m20 : Nat) (m21 : Nat) (m22 : Nat) (m23 : Nat) (m24 : Nat) (m25 : Nat) (m26 : Nat) (m27 : Nat) (m28 : Nat) (s29 : Int32) (m30 : Nat) (s31 : Int32) (s32 : Int32) (s33 : Int32) (s34 : Int32) (s35 : Int32) (m36 : Nat) (m37 : Nat) (m38 : Nat) (m39 : Nat) (s40 : Int64) (fc : Nat → Int32)  (sz : Nat) : MetI l yX9_leastSound wsX9_leastSound ({ frames := 0, cells := 0, slots := 0, locals := 0 }) g [.ref k0, .int 6, .int (-1)] [(k0, .inr (9, [.ref m0, .int s1, .int s2, .int s3, .int s4, .int s5, .int s6, .ref m7, .ref m8, .ref m9, .int s10, .int s11, .int s12, .ref m13, .ref m14, .ref m15, .int s16, .ref m17, .ref m18, .ref m19, .ref m20, .ref m21, .ref m22, .ref m23, .ref m24, .ref m25, .ref m26, .ref m27, .ref m28, .int s29, .ref m30, .int s31, .int s32, .int s33, .int s34, .int s35, .ref m36, .ref m37, .ref m38, .ref m39, .long s40])), (m17, ai g 63 fc)] sz (po_X9_leastSound_6 g k0 m0 s1 s2 s3 s4 s5 s6 m7 m8 m9 s10 s11 s12 m13 m14 m15 s16 m17 m18 m19 m20 m21 m22 m23 m24 m25 m26 m27 m28 s29 m30 s31 s32 s33 s34 s35 m36 m37 m38 m39 s40 fc) 0 0 := by
  refine k_of (l := l) (y := yX9_leastSound) (ws := wsX9_leastSound) (rm := { frames := 0, cells := 0, slots := 0, locals := 0 }) (mc := 0) (ms := 0) (av := [.ref k0, .int 6, .int (-1)]) (g := g) (wc := [(k0, .inr (9, [.ref m0, .int s1, .int s2, .int s3, .int s4, .int s5, .int s6, .ref m7, .ref m8, .ref m9, .int s10, .int s11, .int s12, .ref m13, .ref m14, .ref m15, .int s16, .ref m17, .ref m18, .ref m19, .ref m20, .ref m21, .ref m22, .ref m23, .ref m24, .ref m25, .ref m26, .ref m27, .ref m28, .int s29, .ref m30, .int s31, .int s32, .int s33, .int s34, .int s35, .ref m36, .ref m37, .ref m38, .ref m39, .long s40])), (m17, ai g 63 fc)]) (Qc := fun A => va_Qi (po_X9_leastSound_6 g k0 m0 s1 s2 s3 s4 s5 s6 m7 m8 m9 s10 s11 s12 m13 m14 m15 s16 m17 m18 m19 m20 m21 m22 m23 m24 m25 m26 m27 m28 s29 m30 s31 s32 s33 s34 s35 m36 m37 m38 m39 s40 fc) (bk g A) A) (cc := cX9_leastSound) (maxL := 7) (ret := (some .int)) (by decide) rfl (Nat.le_of_ble_eq_true rfl) ?_ sz
  intro p e s m below meth c hx hb hr hts hown hlocks hnm hml A hA hE hZ hP hD hS ls hl
  have hown : s.vm.findClass RX9 = some m.cls := hown
  have hl : lv_has ls 7 [(0, .ref k0), (1, .int 6), (2, .int (-1))] := hl
  refine lv_iconst (v := 0) hx hb dX9_leastSound_0 (by decide) ?_
  refine lv_istore_n (lv' := [(3, .int 0), (0, .ref k0), (1, .int 6), (2, .int (-1))]) hx hb dX9_leastSound_1 rfl hl (by decide) rfl (fun ls hl => ?_)
  refine lv_sipush (v := 9999) hx hb dX9_leastSound_2 (by decide) ?_
  refine lv_istore (lv' := [(4, .int 9999), (3, .int 0), (0, .ref k0), (1, .int 6), (2, .int (-1))]) hx hb dX9_leastSound_5 hl (by decide) rfl (fun ls hl => ?_)
  refine lv_iconst (v := 0) hx hb dX9_leastSound_7 (by decide) ?_
  refine lv_istore (lv' := [(5, .int 0), (4, .int 9999), (3, .int 0), (0, .ref k0), (1, .int 6), (2, .int (-1))]) hx hb dX9_leastSound_8 hl (by decide) rfl (fun ls hl => ?_)
  have loop10 : ∀ (fu : Nat) (j : Nat) (x4 : Int32), (hj : j ≤ 9) → (e4 : x4 = ml (fun s => fc (54 + s) + 0) j) → 9 - j < fu → ∀ (H : Heap) (locs : List Loc) (ls : Array Slot), va_P g.1 vwCl [(k0, .inr (9, [.ref m0, .int s1, .int s2, .int s3, .int s4, .int s5, .int s6, .ref m7, .ref m8, .ref m9, .int s10, .int s11, .int s12, .ref m13, .ref m14, .ref m15, .int s16, .ref m17, .ref m18, .ref m19, .ref m20, .ref m21, .ref m22, .ref m23, .ref m24, .ref m25, .ref m26, .ref m27, .ref m28, .int s29, .ref m30, .int s31, .int s32, .int s33, .int s34, .int s35, .ref m36, .ref m37, .ref m38, .ref m39, .long s40])), (m17, ai g 63 fc)] H → va_D A [(k0, .inr (9, [.ref m0, .int s1, .int s2, .int s3, .int s4, .int s5, .int s6, .ref m7, .ref m8, .ref m9, .int s10, .int s11, .int s12, .ref m13, .ref m14, .ref m15, .int s16, .ref m17, .ref m18, .ref m19, .ref m20, .ref m21, .ref m22, .ref m23, .ref m24, .ref m25, .ref m26, .ref m27, .ref m28, .int s29, .ref m30, .int s31, .int s32, .int s33, .int s34, .int s35, .ref m36, .ref m37, .ref m38, .ref m39, .long s40])), (m17, ai g 63 fc)] → va_S A s.heap H locs → lv_has ls 7 [(0, .ref k0), (1, .int 6), (2, .int (-1)), (3, .int (nI (ams (fun s => fc (54 + s) + 0) j))), (4, .int x4), (5, .int (nI j))] → W p l e ({ frames := 0, cells := 0, slots := 0, locals := 0 }) s m [.ref k0, .int 6, .int (-1)].toArray below meth c H locs 0 0 (MQ below (va_Qi (po_X9_leastSound_6 g k0 m0 s1 s2 s3 s4 s5 s6 m7 m8 m9 s10 s11 s12 m13 m14 m15 s16 m17 m18 m19 m20 m21 m22 m23 m24 m25 m26 m27 m28 s29 m30 s31 s32 s33 s34 s35 m36 m37 m38 m39 s40 fc) (bk g A) A) [.ref k0, .int 6, .int (-1)].toArray s 0 0 A) (F0 m 10 ls []) := by
    intro fu
    induction fu with
    | zero => intro j x4 hj e4 hfu; exact absurd hfu (Nat.not_lt_zero _)
    | succ fu ih =>
      intro j x4 hj e4 hfu H locs ls hP hD hS hl
      have ih10 := ih
      refine lv_iload hx hb dX9_leastSound_10 (lv_at hl 5 rfl) ?_
      refine lv_bipush (v := 9) hx hb dX9_leastSound_12 (by decide) ?_
      refine lv_icmp_ge (tgt := 83) hx hb dX9_leastSound_14 (by decide) (fun c14_1 => ?_) (fun c14_1 => ?_)
      · skip
        have hj9 := ge_of_le (k := 9) (n := j) (by decide) (by omega) c14_1
        refine lv_iload_n hx hb dX9_leastSound_83 rfl (lv_at hl 3 rfl) ?_
        refine W.widen (k := 0) (n := 0) (Nat.le_of_ble_eq_true rfl) (Nat.le_of_ble_eq_true rfl) ?_
        exact k_ri hx hb hr hlocks hS hP hD ⟨rfl, (by rw [show j = 9 by omega])⟩ dX9_leastSound_84
      · skip
        have hj9 := lt_of_nle (k := 9) (n := j) (by decide) (by omega) c14_1
        refine lv_aload_n hx hb dX9_leastSound_17 rfl (lv_at hl 0 rfl) ?_
        refine va_get (D := g.1) (ci := 9) (v := .ref m17) (C := RX9) (T := TX9) (N := 41) hx hb hts q_X9_leastSound_6_f9 hown hE.1 hP 0 rfl rfl 17 (by decide) (hts (.fieldLink RX9 31 "SoundLawsModel" "costs" "[I") q_X9_leastSound_6_1) (fun _ h9 => h9) rfl dX9_leastSound_18 ?_
        refine lv_bipush (v := 9) hx hb dX9_leastSound_21 (by decide) ?_
        refine lv_iload_n hx hb dX9_leastSound_23 rfl (lv_at hl 1 rfl) ?_
        refine lv_imul hx hb dX9_leastSound_24 ?_
        refine lv_topi (fun x_2 ex_2 => ?_)
        obtain rfl : x_2 = 54 := ex_2.trans (by decide)
        refine lv_iload hx hb dX9_leastSound_25 (lv_at hl 5 rfl) ?_
        refine lv_iadd hx hb dX9_leastSound_27 ?_
        refine k_ald (54 + j) (by rw [show (54 : Int32) = nI 54 from rfl, nI_add]) (by omega) hx hb hE hP 1 rfl (by decide) dX9_leastSound_28 ?_
        refine lv_iload_n hx hb dX9_leastSound_29 rfl (lv_at hl 2 rfl) ?_
        refine lv_iconst (v := (-1)) hx hb dX9_leastSound_30 (by decide) ?_
        refine lv_icmp_ne (tgt := 38) hx hb dX9_leastSound_31 (by decide) (fun c31_3 => ?_) (fun c31_3 => ?_)
        · exact absurd c31_3 (by decide)
        · skip
          refine lv_iconst (v := 0) hx hb dX9_leastSound_34 (by decide) ?_
          refine lv_goto (tgt := 44) hx hb dX9_leastSound_35 (by decide) ?_
          refine lv_iadd hx hb dX9_leastSound_44 ?_
          refine lv_topi (fun x6 ex6 => ?_)
          refine lv_istore (lv' := [(6, .int x6), (0, .ref k0), (1, .int 6), (2, .int (-1)), (3, .int (nI (ams (fun s => fc (54 + s) + 0) j))), (4, .int x4), (5, .int (nI j))]) hx hb dX9_leastSound_45 hl (by decide) rfl (fun ls hl => ?_)
          refine lv_iload hx hb dX9_leastSound_47 (lv_at hl 0 rfl) ?_
          refine lv_iload hx hb dX9_leastSound_49 (lv_at hl 5 rfl) ?_
          refine lv_icmp_ge (tgt := 59) hx hb dX9_leastSound_51 (by decide) (fun c51_4 => ?_) (fun c51_4 => ?_)
          · skip
            refine lv_iload_n hx hb dX9_leastSound_59 rfl (lv_at hl 4 rfl) ?_
            refine lv_istore_n (lv' := [(3, .int (nI (ams (fun s => fc (54 + s) + 0) j))), (6, .int x6), (0, .ref k0), (1, .int 6), (2, .int (-1)), (4, .int x4), (5, .int (nI j))]) hx hb dX9_leastSound_60 rfl hl (by decide) rfl (fun ls hl => ?_)
            refine lv_iload hx hb dX9_leastSound_61 (lv_at hl 1 rfl) ?_
            refine lv_iload hx hb dX9_leastSound_63 (lv_at hl 5 rfl) ?_
            refine lv_icmp_ge (tgt := 73) hx hb dX9_leastSound_65 (by decide) (fun c65_5 => ?_) (fun c65_5 => ?_)
            · skip
              refine lv_iload hx hb dX9_leastSound_73 (lv_at hl 5 rfl) ?_
              refine lv_istore (lv' := [(4, .int x4), (3, .int (nI (ams (fun s => fc (54 + s) + 0) j))), (6, .int x6), (0, .ref k0), (1, .int 6), (2, .int (-1)), (5, .int (nI j))]) hx hb dX9_leastSound_75 hl (by decide) rfl (fun ls hl => ?_)
              have hq : ams (fun s => fc (54 + s) + 0) (j + 1) = ams (fun s => fc (54 + s) + 0) j := ams_f (by rw [← e4]; have h9 := i_nlt c51_4; rw [ex6] at h9; exact h9)
              have hl : lv_has ls 7 [(4, .int x4), (3, .int (nI (ams (fun s => fc (54 + s) + 0) (j + 1)))), (6, .int x6), (0, .ref k0), (1, .int 6), (2, .int (-1)), (5, .int (nI j))] := by rw [hq]; exact hl
              refine lv_iinc (v := (nI (j + 1))) (lv' := [(5, .int (nI (j + 1))), (4, .int x4), (3, .int (nI (ams (fun s => fc (54 + s) + 0) (j + 1)))), (6, .int x6), (0, .ref k0), (1, .int 6), (2, .int (-1))]) hx hb dX9_leastSound_77 hl (k := 6) rfl (nI_1 _) (by decide) rfl (fun ls hl => ?_)
              refine lv_goto (tgt := 10) hx hb dX9_leastSound_80 (by decide) ?_
              exact ih10 (j + 1) x4 (by omega) (e4.trans (ml_f (f := (fun s => fc (54 + s) + 0)) (by rw [← e4]; have h9 := i_nlt c51_4; rw [ex6] at h9; exact h9)).symm) (by omega) _ _ _ hP hD hS (lv_sub hl [4, 5, 6, 2, 1, 0] rfl)
            · exact (show False from c65_5 c51_4).elim
          · skip
            refine lv_iload hx hb dX9_leastSound_54 (lv_at hl 6 rfl) ?_
            refine lv_goto (tgt := 60) hx hb dX9_leastSound_56 (by decide) ?_
            refine lv_istore_n (lv' := [(3, .int (nI j)), (6, .int x6), (0, .ref k0), (1, .int 6), (2, .int (-1)), (4, .int x4), (5, .int (nI j))]) hx hb dX9_leastSound_60 rfl hl (by decide) rfl (fun ls hl => ?_)
            refine lv_iload hx hb dX9_leastSound_61 (lv_at hl 1 rfl) ?_
            refine lv_iload hx hb dX9_leastSound_63 (lv_at hl 5 rfl) ?_
            refine lv_icmp_ge (tgt := 73) hx hb dX9_leastSound_65 (by decide) (fun c65_6 => ?_) (fun c65_6 => ?_)
            · exact (show False from c51_4 c65_6).elim
            · skip
              refine lv_iload hx hb dX9_leastSound_68 (lv_at hl 1 rfl) ?_
              refine lv_goto (tgt := 75) hx hb dX9_leastSound_70 (by decide) ?_
              refine lv_istore (lv' := [(4, .int x6), (3, .int (nI j)), (6, .int x6), (0, .ref k0), (1, .int 6), (2, .int (-1)), (5, .int (nI j))]) hx hb dX9_leastSound_75 hl (by decide) rfl (fun ls hl => ?_)
              have hq : ams (fun s => fc (54 + s) + 0) (j + 1) = j := ams_t (by rw [← e4]; have h9 := i_nle c51_4; rw [ex6] at h9; exact h9)
              have hl : lv_has ls 7 [(4, .int x6), (3, .int (nI (ams (fun s => fc (54 + s) + 0) (j + 1)))), (6, .int x6), (0, .ref k0), (1, .int 6), (2, .int (-1)), (5, .int (nI j))] := by rw [hq]; exact hl
              refine lv_iinc (v := (nI (j + 1))) (lv' := [(5, .int (nI (j + 1))), (4, .int x6), (3, .int (nI (ams (fun s => fc (54 + s) + 0) (j + 1)))), (6, .int x6), (0, .ref k0), (1, .int 6), (2, .int (-1))]) hx hb dX9_leastSound_77 hl (k := 6) rfl (nI_1 _) (by decide) rfl (fun ls hl => ?_)
              refine lv_goto (tgt := 10) hx hb dX9_leastSound_80 (by decide) ?_
              exact ih10 (j + 1) x6 (by omega) (ex6.trans (ml_t (f := (fun s => fc (54 + s) + 0)) (by rw [← e4]; have h9 := i_nle c51_4; rw [ex6] at h9; exact h9)).symm) (by omega) _ _ _ hP hD hS (lv_sub hl [4, 5, 6, 2, 1, 0] rfl)
  exact loop10 _ 0 9999 (Nat.zero_le 9) rfl (Nat.lt_succ_self _) _ _ _ hP hD hS (lv_sub hl [3, 4, 5, 2, 1, 0] rfl)
def po_X9_draw (g : GG) (k0 : Nat) (m0 : Nat) (s1 : Int32) (s2 : Int32) (s3 : Int32) (s4 : Int32) (s5 : Int32) (s6 : Int32) (m7 : Nat) (m8 : Nat) (m9 : Nat) (s10 : Int32) (s11 : Int32) (s12 : Int32) (m13 : Nat) (m14 : Nat) (m15 : Nat) (s16 : Int32) (m17 : Nat) (m18 : Nat) (m19 : Nat) (m20 : Nat) (m21 : Nat) (m22 : Nat) (m23 : Nat) (m24 : Nat) (m25 : Nat) (m26 : Nat) (m27 : Nat) (m28 : Nat) (s29 : Int32) (m30 : Nat) (s32 : Int32) (s33 : Int32) (s34 : Int32) (s35 : Int32) (m36 : Nat) (m37 : Nat) (m38 : Nat) (m39 : Nat) (s40 : Int64) (k : Nat) : Int32 → va_W → Prop := fun (r : Int32) w => w = [(k0, .inr (9, [.ref m0, .int s1, .int s2, .int s3, .int s4, .int s5, .int s6, .ref m7, .ref m8, .ref m9, .int s10, .int s11, .int s12, .ref m13, .ref m14, .ref m15, .int s16, .ref m17, .ref m18, .ref m19, .ref m20, .ref m21, .ref m22, .ref m23, .ref m24, .ref m25, .ref m26, .ref m27, .ref m28, .int s29, .ref m30, .int (nI (nx k)), .int s32, .int s33, .int s34, .int s35, .ref m36, .ref m37, .ref m38, .ref m39, .long s40]))] ∧ (nI (so (nx k)) = r)
theorem q_X9_draw_0 : (Cond.constantLong RX9 277 (1103515245)) ∈ wsX9_draw := by decide +kernel
theorem q_X9_draw_f9 : ∀ w ∈ u_ws RX9 TX9 41, w ∈ wsX9_draw := by decide +kernel
theorem q_X9_draw_2 : (Cond.fieldLink RX9 279 "SoundLawsModel" "seedNow" "I") ∈ wsX9_draw := by decide +kernel
theorem q_X9_draw_3 : (Cond.constantLong RX9 282 (12345)) ∈ wsX9_draw := by decide +kernel
theorem q_X9_draw_4 : (Cond.constantLong RX9 284 (2147483647)) ∈ wsX9_draw := by decide +kernel
theorem q_X9_draw_5 : (Cond.constant RX9 286 (65536)) ∈ wsX9_draw := by decide +kernel
set_option maxHeartbeats 1500000 in
set_option maxRecDepth 100000 in
theorem c_X9_draw (l : Launch) (g : GG) (k0 : Nat) (m0 : Nat) (s1 : Int32) (s2 : Int32) (s3 : Int32) (s4 : Int32) (s5 : Int32) (s6 : Int32) (m7 : Nat) (m8 : Nat) (m9 : Nat) (s10 : Int32) (s11 : Int32) (s12 : Int32) (m13 : Nat) (m14 : Nat) (m15 : Nat) (s16 : Int32) (m17 : Nat) (m18 : Nat) (m19 : Nat) (m20 : Nat) (m21 : Nat) (m22 : Nat) (m23 : Nat) (m24 : Nat) (m25 : Nat) (m26 : Nat) (m27 : Nat) (m28 : Nat) (s29 : Int32) (m30 : Nat) (s32 : Int32) (s33 : Int32) (s34 : Int32) (s35 : Int32) (m36 : Nat) (m37 : Nat) (m38 : Nat) (m39 : Nat) (s40 : Int64) (k : Nat) (hk : k < 2147483648) (sz : Nat) : MetI l yX9_draw wsX9_draw ({ frames := 0, cells := 0, slots := 0, locals := 0 }) g [.ref k0, .int 9] [(k0, .inr (9, [.ref m0, .int s1, .int s2, .int s3, .int s4, .int s5, .int s6, .ref m7, .ref m8, .ref m9, .int s10, .int s11, .int s12, .ref m13, .ref m14, .ref m15, .int s16, .ref m17, .ref m18, .ref m19, .ref m20, .ref m21, .ref m22, .ref m23, .ref m24, .ref m25, .ref m26, .ref m27, .ref m28, .int s29, .ref m30, .int (nI k), .int s32, .int s33, .int s34, .int s35, .ref m36, .ref m37, .ref m38, .ref m39, .long s40]))] sz (po_X9_draw g k0 m0 s1 s2 s3 s4 s5 s6 m7 m8 m9 s10 s11 s12 m13 m14 m15 s16 m17 m18 m19 m20 m21 m22 m23 m24 m25 m26 m27 m28 s29 m30 s32 s33 s34 s35 m36 m37 m38 m39 s40 k) 0 0 := by
  refine k_of (l := l) (y := yX9_draw) (ws := wsX9_draw) (rm := { frames := 0, cells := 0, slots := 0, locals := 0 }) (mc := 0) (ms := 0) (av := [.ref k0, .int 9]) (g := g) (wc := [(k0, .inr (9, [.ref m0, .int s1, .int s2, .int s3, .int s4, .int s5, .int s6, .ref m7, .ref m8, .ref m9, .int s10, .int s11, .int s12, .ref m13, .ref m14, .ref m15, .int s16, .ref m17, .ref m18, .ref m19, .ref m20, .ref m21, .ref m22, .ref m23, .ref m24, .ref m25, .ref m26, .ref m27, .ref m28, .int s29, .ref m30, .int (nI k), .int s32, .int s33, .int s34, .int s35, .ref m36, .ref m37, .ref m38, .ref m39, .long s40]))]) (Qc := fun A => va_Qi (po_X9_draw g k0 m0 s1 s2 s3 s4 s5 s6 m7 m8 m9 s10 s11 s12 m13 m14 m15 s16 m17 m18 m19 m20 m21 m22 m23 m24 m25 m26 m27 m28 s29 m30 s32 s33 s34 s35 m36 m37 m38 m39 s40 k) (bk g A) A) (cc := cX9_draw) (maxL := 2) (ret := (some .int)) (by decide) rfl (Nat.le_of_ble_eq_true rfl) ?_ sz
  intro p e s m below meth c hx hb hr hts hown hlocks hnm hml A hA hE hZ hP hD hS ls hl
  have hown : s.vm.findClass RX9 = some m.cls := hown
  have hl : lv_has ls 2 [(0, .ref k0), (1, .int 9)] := hl
  refine lv_aload_n hx hb dX9_draw_0 rfl (lv_at hl 0 rfl) ?_
  refine lv_ldc2 hx hb hown (hts (.constantLong RX9 277 (1103515245)) q_X9_draw_0) dX9_draw_1 ?_
  refine lv_aload_n hx hb dX9_draw_4 rfl (lv_at hl 0 rfl) ?_
  refine va_get (D := g.1) (ci := 9) (v := .int (nI k)) (C := RX9) (T := TX9) (N := 41) hx hb hts q_X9_draw_f9 hown hE.1 hP 0 rfl rfl 31 (by decide) (hts (.fieldLink RX9 279 "SoundLawsModel" "seedNow" "I") q_X9_draw_2) (fun _ h9 => h9) rfl dX9_draw_5 ?_
  refine lv_i2l hx hb dX9_draw_8 rfl ?_
  refine lv_lmul hx hb dX9_draw_9 ?_
  refine lv_ldc2 hx hb hown (hts (.constantLong RX9 282 (12345)) q_X9_draw_3) dX9_draw_10 ?_
  refine lv_ladd hx hb dX9_draw_13 ?_
  refine lv_ldc2 hx hb hown (hts (.constantLong RX9 284 (2147483647)) q_X9_draw_4) dX9_draw_14 ?_
  refine lv_land hx hb dX9_draw_17 ?_
  refine lv_l2i hx hb dX9_draw_18 rfl ?_
  refine lv_topi (fun x_1 ex_1 => ?_)
  obtain rfl : x_1 = nI (nx k) := by rw [ex_1]; exact nx_int2 hk
  refine va_put (D := g.1) (ci := 9) (v := .int (nI (nx k))) (ty := .int) (C := RX9) (T := TX9) (N := 41) hx hb hts q_X9_draw_f9 tyX9 tyX9_ok nmX9 hown hE.1 hP hD hS 0 rfl rfl 31 (by decide) (hts (.fieldLink RX9 279 "SoundLawsModel" "seedNow" "I") q_X9_draw_2) (fun _ h9 => h9) rfl (by decide +kernel) rfl rfl (Nat.le_of_ble_eq_true rfl) dX9_draw_19 (fun H locs hP hD hS => ?_)
  have hP : va_P g.1 vwCl [(k0, .inr (9, [.ref m0, .int s1, .int s2, .int s3, .int s4, .int s5, .int s6, .ref m7, .ref m8, .ref m9, .int s10, .int s11, .int s12, .ref m13, .ref m14, .ref m15, .int s16, .ref m17, .ref m18, .ref m19, .ref m20, .ref m21, .ref m22, .ref m23, .ref m24, .ref m25, .ref m26, .ref m27, .ref m28, .int s29, .ref m30, .int (nI (nx k)), .int s32, .int s33, .int s34, .int s35, .ref m36, .ref m37, .ref m38, .ref m39, .long s40]))] H := hP
  have hD : va_D A [(k0, .inr (9, [.ref m0, .int s1, .int s2, .int s3, .int s4, .int s5, .int s6, .ref m7, .ref m8, .ref m9, .int s10, .int s11, .int s12, .ref m13, .ref m14, .ref m15, .int s16, .ref m17, .ref m18, .ref m19, .ref m20, .ref m21, .ref m22, .ref m23, .ref m24, .ref m25, .ref m26, .ref m27, .ref m28, .int s29, .ref m30, .int (nI (nx k)), .int s32, .int s33, .int s34, .int s35, .ref m36, .ref m37, .ref m38, .ref m39, .long s40]))] := hD
  refine lv_aload_n hx hb dX9_draw_22 rfl (lv_at hl 0 rfl) ?_
  refine va_get (D := g.1) (ci := 9) (v := .int (nI (nx k))) (C := RX9) (T := TX9) (N := 41) hx hb hts q_X9_draw_f9 hown hE.1 hP 0 rfl rfl 31 (by decide) (hts (.fieldLink RX9 279 "SoundLawsModel" "seedNow" "I") q_X9_draw_2) (fun _ h9 => h9) rfl dX9_draw_23 ?_
  refine lv_ldcw hx hb hown (hts (.constant RX9 286 (65536)) q_X9_draw_5) dX9_draw_26 ?_
  refine lv_idiv hx hb dX9_draw_29 (by decide) ?_
  refine lv_topi (fun x_2 ex_2 => ?_)
  obtain rfl : x_2 = nI (nx k / 65536) := by rw [ex_2]; exact so_div (nx_lt k)
  refine lv_iload_n hx hb dX9_draw_30 rfl (lv_at hl 1 rfl) ?_
  refine lv_irem hx hb dX9_draw_31 (by decide) ?_
  refine lv_topi (fun x_3 ex_3 => ?_)
  obtain rfl : x_3 = nI (so (nx k)) := by rw [ex_3]; exact so_rem (nx_lt k)
  refine W.widen (k := 0) (n := 0) (Nat.le_of_ble_eq_true rfl) (Nat.le_of_ble_eq_true rfl) ?_
  exact k_ri hx hb hr hlocks hS hP hD ⟨rfl, rfl⟩ dX9_draw_32

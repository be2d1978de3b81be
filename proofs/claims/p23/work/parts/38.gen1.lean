def po_X8_wordAt_g (g : GG) (i : Nat) (j : Nat) : Int32 → va_W → Prop := fun (r : Int32) w => w = [] ∧ (nI (16 * i + 4 * j) = r)
set_option maxHeartbeats 1500000 in
set_option maxRecDepth 100000 in
theorem c_X8_wordAt_g (l : Launch) (g : GG) (i : Nat) (j : Nat)  (sz : Nat) : MetI l yX8_wordAt wsX8_wordAt ({ frames := 0, cells := 0, slots := 0, locals := 0 }) g [.int (nI i), .int (nI j)] [] sz (po_X8_wordAt_g g i j) 0 0 := by
  refine k_of (l := l) (y := yX8_wordAt) (ws := wsX8_wordAt) (rm := { frames := 0, cells := 0, slots := 0, locals := 0 }) (mc := 0) (ms := 0) (av := [.int (nI i), .int (nI j)]) (g := g) (wc := []) (Qc := fun A => va_Qi (po_X8_wordAt_g g i j) (bk g A) A) (cc := cX8_wordAt) (maxL := 2) (ret := (some .int)) (by decide) rfl (Nat.le_of_ble_eq_true rfl) ?_ sz
  intro p e s m below meth c hx hb hr hts hown hlocks hnm hml A hA hE hZ hP hD hS ls hl
  have hown : s.vm.findClass RX8 = some m.cls := hown
  have hl : lv_has ls 2 [(0, .int (nI i)), (1, .int (nI j))] := hl
  refine lv_iload_n hx hb dX8_wordAt_0 rfl (lv_at hl 0 rfl) ?_
  refine lv_iconst (v := 4) hx hb dX8_wordAt_1 (by decide) ?_
  refine lv_imul hx hb dX8_wordAt_2 ?_
  refine lv_iload_n hx hb dX8_wordAt_3 rfl (lv_at hl 1 rfl) ?_
  refine lv_iadd hx hb dX8_wordAt_4 ?_
  refine lv_iconst (v := 4) hx hb dX8_wordAt_5 (by decide) ?_
  refine lv_imul hx hb dX8_wordAt_6 ?_
  refine lv_topi (fun x_1 ex_1 => ?_)
  obtain rfl : x_1 = nI (16 * i + 4 * j) := by rw [ex_1]; rw [show (4 : Int32) = nI 4 from rfl, pk_mul, nI_add, pk_mul]; congr 1; omega
  refine W.widen (k := 0) (n := 0) (Nat.le_of_ble_eq_true rfl) (Nat.le_of_ble_eq_true rfl) ?_
  exact k_ri hx hb hr hlocks hS hP hD ⟨rfl, rfl⟩ dX8_wordAt_7
def po_X8_nodesAt_g (g : GG) (i : Nat) (j : Nat) : Int32 → va_W → Prop := fun (r : Int32) w => w = [] ∧ (nI (28 * i + 7 * j) = r)
set_option maxHeartbeats 1500000 in
set_option maxRecDepth 100000 in
theorem c_X8_nodesAt_g (l : Launch) (g : GG) (i : Nat) (j : Nat)  (sz : Nat) : MetI l yX8_nodesAt wsX8_nodesAt ({ frames := 0, cells := 0, slots := 0, locals := 0 }) g [.int (nI i), .int (nI j)] [] sz (po_X8_nodesAt_g g i j) 0 0 := by
  refine k_of (l := l) (y := yX8_nodesAt) (ws := wsX8_nodesAt) (rm := { frames := 0, cells := 0, slots := 0, locals := 0 }) (mc := 0) (ms := 0) (av := [.int (nI i), .int (nI j)]) (g := g) (wc := []) (Qc := fun A => va_Qi (po_X8_nodesAt_g g i j) (bk g A) A) (cc := cX8_nodesAt) (maxL := 2) (ret := (some .int)) (by decide) rfl (Nat.le_of_ble_eq_true rfl) ?_ sz
  intro p e s m below meth c hx hb hr hts hown hlocks hnm hml A hA hE hZ hP hD hS ls hl
  have hown : s.vm.findClass RX8 = some m.cls := hown
  have hl : lv_has ls 2 [(0, .int (nI i)), (1, .int (nI j))] := hl
  refine lv_iload_n hx hb dX8_nodesAt_0 rfl (lv_at hl 0 rfl) ?_
  refine lv_iconst (v := 4) hx hb dX8_nodesAt_1 (by decide) ?_
  refine lv_imul hx hb dX8_nodesAt_2 ?_
  refine lv_iload_n hx hb dX8_nodesAt_3 rfl (lv_at hl 1 rfl) ?_
  refine lv_iadd hx hb dX8_nodesAt_4 ?_
  refine lv_bipush (v := 7) hx hb dX8_nodesAt_5 (by decide) ?_
  refine lv_imul hx hb dX8_nodesAt_7 ?_
  refine lv_topi (fun x_1 ex_1 => ?_)
  obtain rfl : x_1 = nI (28 * i + 7 * j) := by rw [ex_1]; rw [show (4 : Int32) = nI 4 from rfl, show (7 : Int32) = nI 7 from rfl, pk_mul, nI_add, pk_mul]; congr 1; omega
  refine W.widen (k := 0) (n := 0) (Nat.le_of_ble_eq_true rfl) (Nat.le_of_ble_eq_true rfl) ?_
  exact k_ri hx hb hr hlocks hS hP hD ⟨rfl, rfl⟩ dX8_nodesAt_8
def po_X8_lawAt_g (g : GG) (i : Nat) (j : Nat) (k : Nat) : Int32 → va_W → Prop := fun (r : Int32) w => w = [] ∧ (nI (18 * i + 2 * j + k) = r)
set_option maxHeartbeats 1500000 in
set_option maxRecDepth 100000 in
theorem c_X8_lawAt_g (l : Launch) (g : GG) (i : Nat) (j : Nat) (k : Nat)  (sz : Nat) : MetI l yX8_lawAt wsX8_lawAt ({ frames := 0, cells := 0, slots := 0, locals := 0 }) g [.int (nI i), .int (nI j), .int (nI k)] [] sz (po_X8_lawAt_g g i j k) 0 0 := by
  refine k_of (l := l) (y := yX8_lawAt) (ws := wsX8_lawAt) (rm := { frames := 0, cells := 0, slots := 0, locals := 0 }) (mc := 0) (ms := 0) (av := [.int (nI i), .int (nI j), .int (nI k)]) (g := g) (wc := []) (Qc := fun A => va_Qi (po_X8_lawAt_g g i j k) (bk g A) A) (cc := cX8_lawAt) (maxL := 3) (ret := (some .int)) (by decide) rfl (Nat.le_of_ble_eq_true rfl) ?_ sz
  intro p e s m below meth c hx hb hr hts hown hlocks hnm hml A hA hE hZ hP hD hS ls hl
  have hown : s.vm.findClass RX8 = some m.cls := hown
  have hl : lv_has ls 3 [(0, .int (nI i)), (1, .int (nI j)), (2, .int (nI k))] := hl
  refine lv_iload_n hx hb dX8_lawAt_0 rfl (lv_at hl 0 rfl) ?_
  refine lv_bipush (v := 9) hx hb dX8_lawAt_1 (by decide) ?_
  refine lv_imul hx hb dX8_lawAt_3 ?_
  refine lv_iload_n hx hb dX8_lawAt_4 rfl (lv_at hl 1 rfl) ?_
  refine lv_iadd hx hb dX8_lawAt_5 ?_
  refine lv_iconst (v := 2) hx hb dX8_lawAt_6 (by decide) ?_
  refine lv_imul hx hb dX8_lawAt_7 ?_
  refine lv_iload_n hx hb dX8_lawAt_8 rfl (lv_at hl 2 rfl) ?_
  refine lv_iadd hx hb dX8_lawAt_9 ?_
  refine lv_topi (fun x_1 ex_1 => ?_)
  obtain rfl : x_1 = nI (18 * i + 2 * j + k) := by rw [ex_1]; rw [show (9 : Int32) = nI 9 from rfl, show (2 : Int32) = nI 2 from rfl, pk_mul, nI_add, pk_mul, nI_add]; congr 1; omega
  refine W.widen (k := 0) (n := 0) (Nat.le_of_ble_eq_true rfl) (Nat.le_of_ble_eq_true rfl) ?_
  exact k_ri hx hb hr hlocks hS hP hD ⟨rfl, rfl⟩ dX8_lawAt_10
def po_X8_isKind_g (g : GG) (p1 : Int32) : Int32 → va_W → Prop := fun (r : Int32) w => w = [] ∧ (isI p1 5 = r)
set_option maxHeartbeats 1500000 in
set_option maxRecDepth 100000 in
theorem c_X8_isKind_g (l : Launch) (g : GG) (p1 : Int32)  (sz : Nat) : MetI l yX8_isKind wsX8_isKind ({ frames := 0, cells := 0, slots := 0, locals := 0 }) g [.int p1] [] sz (po_X8_isKind_g g p1) 0 0 := by
  refine k_of (l := l) (y := yX8_isKind) (ws := wsX8_isKind) (rm := { frames := 0, cells := 0, slots := 0, locals := 0 }) (mc := 0) (ms := 0) (av := [.int p1]) (g := g) (wc := []) (Qc := fun A => va_Qi (po_X8_isKind_g g p1) (bk g A) A) (cc := cX8_isKind) (maxL := 1) (ret := (some .boolean)) (by decide) rfl (Nat.le_of_ble_eq_true rfl) ?_ sz
  intro p e s m below meth c hx hb hr hts hown hlocks hnm hml A hA hE hZ hP hD hS ls hl
  have hown : s.vm.findClass RX8 = some m.cls := hown
  have hl : lv_has ls 1 [(0, .int p1)] := hl
  refine lv_iload_n hx hb dX8_isKind_0 rfl (lv_at hl 0 rfl) ?_
  refine lv_if_lt (tgt := 13) hx hb dX8_isKind_1 (by decide) (fun c1_1 => ?_) (fun c1_1 => ?_)
  · skip
    refine lv_iconst (v := 0) hx hb dX8_isKind_13 (by decide) ?_
    refine W.widen (k := 0) (n := 0) (Nat.le_of_ble_eq_true rfl) (Nat.le_of_ble_eq_true rfl) ?_
    exact k_rz hx hb hr hlocks hS hP hD rfl ⟨rfl, (isI_lo c1_1)⟩ dX8_isKind_14
  · skip
    refine lv_iload_n hx hb dX8_isKind_4 rfl (lv_at hl 0 rfl) ?_
    refine lv_iconst (v := 5) hx hb dX8_isKind_5 (by decide) ?_
    refine lv_icmp_ge (tgt := 13) hx hb dX8_isKind_6 (by decide) (fun c6_2 => ?_) (fun c6_2 => ?_)
    · skip
      refine lv_iconst (v := 0) hx hb dX8_isKind_13 (by decide) ?_
      refine W.widen (k := 0) (n := 0) (Nat.le_of_ble_eq_true rfl) (Nat.le_of_ble_eq_true rfl) ?_
      exact k_rz hx hb hr hlocks hS hP hD rfl ⟨rfl, (isI_hi c6_2)⟩ dX8_isKind_14
    · skip
      refine lv_iconst (v := 1) hx hb dX8_isKind_9 (by decide) ?_
      refine lv_goto (tgt := 14) hx hb dX8_isKind_10 (by decide) ?_
      refine W.widen (k := 0) (n := 0) (Nat.le_of_ble_eq_true rfl) (Nat.le_of_ble_eq_true rfl) ?_
      exact k_rz hx hb hr hlocks hS hP hD rfl ⟨rfl, (isI_in c1_1 c6_2)⟩ dX8_isKind_14
def po_X8_isSound_g (g : GG) (p1 : Int32) : Int32 → va_W → Prop := fun (r : Int32) w => w = [] ∧ (isI p1 9 = r)
set_option maxHeartbeats 1500000 in
set_option maxRecDepth 100000 in
theorem c_X8_isSound_g (l : Launch) (g : GG) (p1 : Int32)  (sz : Nat) : MetI l yX8_isSound wsX8_isSound ({ frames := 0, cells := 0, slots := 0, locals := 0 }) g [.int p1] [] sz (po_X8_isSound_g g p1) 0 0 := by
  refine k_of (l := l) (y := yX8_isSound) (ws := wsX8_isSound) (rm := { frames := 0, cells := 0, slots := 0, locals := 0 }) (mc := 0) (ms := 0) (av := [.int p1]) (g := g) (wc := []) (Qc := fun A => va_Qi (po_X8_isSound_g g p1) (bk g A) A) (cc := cX8_isSound) (maxL := 1) (ret := (some .boolean)) (by decide) rfl (Nat.le_of_ble_eq_true rfl) ?_ sz
  intro p e s m below meth c hx hb hr hts hown hlocks hnm hml A hA hE hZ hP hD hS ls hl
  have hown : s.vm.findClass RX8 = some m.cls := hown
  have hl : lv_has ls 1 [(0, .int p1)] := hl
  refine lv_iload_n hx hb dX8_isSound_0 rfl (lv_at hl 0 rfl) ?_
  refine lv_if_lt (tgt := 14) hx hb dX8_isSound_1 (by decide) (fun c1_1 => ?_) (fun c1_1 => ?_)
  · skip
    refine lv_iconst (v := 0) hx hb dX8_isSound_14 (by decide) ?_
    refine W.widen (k := 0) (n := 0) (Nat.le_of_ble_eq_true rfl) (Nat.le_of_ble_eq_true rfl) ?_
    exact k_rz hx hb hr hlocks hS hP hD rfl ⟨rfl, (isI_lo c1_1)⟩ dX8_isSound_15
  · skip
    refine lv_iload_n hx hb dX8_isSound_4 rfl (lv_at hl 0 rfl) ?_
    refine lv_bipush (v := 9) hx hb dX8_isSound_5 (by decide) ?_
    refine lv_icmp_ge (tgt := 14) hx hb dX8_isSound_7 (by decide) (fun c7_2 => ?_) (fun c7_2 => ?_)
    · skip
      refine lv_iconst (v := 0) hx hb dX8_isSound_14 (by decide) ?_
      refine W.widen (k := 0) (n := 0) (Nat.le_of_ble_eq_true rfl) (Nat.le_of_ble_eq_true rfl) ?_
      exact k_rz hx hb hr hlocks hS hP hD rfl ⟨rfl, (isI_hi c7_2)⟩ dX8_isSound_15
    · skip
      refine lv_iconst (v := 1) hx hb dX8_isSound_10 (by decide) ?_
      refine lv_goto (tgt := 15) hx hb dX8_isSound_11 (by decide) ?_
      refine W.widen (k := 0) (n := 0) (Nat.le_of_ble_eq_true rfl) (Nat.le_of_ble_eq_true rfl) ?_
      exact k_rz hx hb hr hlocks hS hP hD rfl ⟨rfl, (isI_in c1_1 c7_2)⟩ dX8_isSound_15
def po_X8_isOfKind_g (g : GG) (p1 : Int32) (p2 : Int32) : Int32 → va_W → Prop := fun (r : Int32) w => w = [] ∧ (okd p1 p2 = r)
set_option maxHeartbeats 1500000 in
set_option maxRecDepth 100000 in
theorem c_X8_isOfKind_g (l : Launch) (g : GG) (p1 : Int32) (p2 : Int32)  (sz : Nat) : MetI l yX8_isOfKind wsX8_isOfKind ({ frames := 0, cells := 0, slots := 0, locals := 0 }) g [.int p1, .int p2] [] sz (po_X8_isOfKind_g g p1 p2) 0 0 := by
  refine k_of (l := l) (y := yX8_isOfKind) (ws := wsX8_isOfKind) (rm := { frames := 0, cells := 0, slots := 0, locals := 0 }) (mc := 0) (ms := 0) (av := [.int p1, .int p2]) (g := g) (wc := []) (Qc := fun A => va_Qi (po_X8_isOfKind_g g p1 p2) (bk g A) A) (cc := cX8_isOfKind) (maxL := 2) (ret := (some .boolean)) (by decide) rfl (Nat.le_of_ble_eq_true rfl) ?_ sz
  intro p e s m below meth c hx hb hr hts hown hlocks hnm hml A hA hE hZ hP hD hS ls hl
  have hown : s.vm.findClass RX8 = some m.cls := hown
  have hl : lv_has ls 2 [(0, .int p1), (1, .int p2)] := hl
  refine lv_iload_n hx hb dX8_isOfKind_0 rfl (lv_at hl 1 rfl) ?_
  refine lv_if_eq (tgt := 19) hx hb dX8_isOfKind_1 (by decide) (fun c1_1 => ?_) (fun c1_1 => ?_)
  · skip
    refine lv_iconst (v := 1) hx hb dX8_isOfKind_19 (by decide) ?_
    refine lv_goto (tgt := 24) hx hb dX8_isOfKind_20 (by decide) ?_
    refine W.widen (k := 0) (n := 0) (Nat.le_of_ble_eq_true rfl) (Nat.le_of_ble_eq_true rfl) ?_
    exact k_rz hx hb hr hlocks hS hP hD rfl ⟨rfl, (by unfold okd; rw [if_pos (Or.inl c1_1)])⟩ dX8_isOfKind_24
  · skip
    refine lv_iload_n hx hb dX8_isOfKind_4 rfl (lv_at hl 0 rfl) ?_
    refine lv_iload_n hx hb dX8_isOfKind_5 rfl (lv_at hl 1 rfl) ?_
    refine lv_icmp_eq (tgt := 19) hx hb dX8_isOfKind_6 (by decide) (fun c6_2 => ?_) (fun c6_2 => ?_)
    · skip
      refine lv_iconst (v := 1) hx hb dX8_isOfKind_19 (by decide) ?_
      refine lv_goto (tgt := 24) hx hb dX8_isOfKind_20 (by decide) ?_
      refine W.widen (k := 0) (n := 0) (Nat.le_of_ble_eq_true rfl) (Nat.le_of_ble_eq_true rfl) ?_
      exact k_rz hx hb hr hlocks hS hP hD rfl ⟨rfl, (by unfold okd; rw [if_pos (Or.inr (Or.inl c6_2))])⟩ dX8_isOfKind_24
    · skip
      refine lv_iload_n hx hb dX8_isOfKind_9 rfl (lv_at hl 0 rfl) ?_
      refine lv_iconst (v := 2) hx hb dX8_isOfKind_10 (by decide) ?_
      refine lv_icmp_ne (tgt := 23) hx hb dX8_isOfKind_11 (by decide) (fun c11_3 => ?_) (fun c11_3 => ?_)
      · skip
        refine lv_iconst (v := 0) hx hb dX8_isOfKind_23 (by decide) ?_
        refine W.widen (k := 0) (n := 0) (Nat.le_of_ble_eq_true rfl) (Nat.le_of_ble_eq_true rfl) ?_
        exact k_rz hx hb hr hlocks hS hP hD rfl ⟨rfl, (by unfold okd; rw [if_neg (fun h => h.elim c1_1 (fun h => h.elim c6_2 (fun q => c11_3 q.1)))])⟩ dX8_isOfKind_24
      · skip
        refine lv_iload_n hx hb dX8_isOfKind_14 rfl (lv_at hl 1 rfl) ?_
        refine lv_iconst (v := 1) hx hb dX8_isOfKind_15 (by decide) ?_
        refine lv_icmp_ne (tgt := 23) hx hb dX8_isOfKind_16 (by decide) (fun c16_4 => ?_) (fun c16_4 => ?_)
        · skip
          refine lv_iconst (v := 0) hx hb dX8_isOfKind_23 (by decide) ?_
          refine W.widen (k := 0) (n := 0) (Nat.le_of_ble_eq_true rfl) (Nat.le_of_ble_eq_true rfl) ?_
          exact k_rz hx hb hr hlocks hS hP hD rfl ⟨rfl, (by unfold okd; rw [if_neg (fun h => h.elim c1_1 (fun h => h.elim c6_2 (fun q => c16_4 q.2)))])⟩ dX8_isOfKind_24
        · skip
          refine lv_iconst (v := 1) hx hb dX8_isOfKind_19 (by decide) ?_
          refine lv_goto (tgt := 24) hx hb dX8_isOfKind_20 (by decide) ?_
          refine W.widen (k := 0) (n := 0) (Nat.le_of_ble_eq_true rfl) (Nat.le_of_ble_eq_true rfl) ?_
          exact k_rz hx hb hr hlocks hS hP hD rfl ⟨rfl, (by unfold okd; rw [if_pos (Or.inr (Or.inr ⟨c11_3, c16_4⟩))])⟩ dX8_isOfKind_24
def po_X8_isSet_g (g : GG) (h0 : Nat) (pg : Nat) (rd : Nat) (si : Nat) (sy : Nat) (ks : Nat) (ki : Nat) (al : Nat) (dr : Nat) (le : Int32) (re : Int32) (sd : Int32) (kp : Int32) (sk : Nat) (s1 : Nat) (s2 : Nat) (s3 : Nat) (z : Nat) (t : Nat) (p1 : Int32) : Int32 → va_W → Prop := fun (r : Int32) w => w = [(h0, .inr (8, [.ref pg, .int le, .ref rd, .int re, .ref sk, .ref si, .ref sy, .int sd, .ref ks, .ref ki, .int kp, .ref al, .ref dr])), (sk, .inr (5, [.int (nI z), .int (nI t), .ref s1, .ref s2, .ref s3]))] ∧ (isI p1 z = r)
theorem q_X8_isSet_g_f8 : ∀ w ∈ u_ws RX8 TX8 13, w ∈ wsX8_isSet := by decide +kernel
theorem q_X8_isSet_g_1 : (Cond.fieldLink RX8 23 "SoundLaws" "stock" "LSoundLaws$Stock;") ∈ wsX8_isSet := by decide +kernel
theorem q_X8_isSet_g_f5 : ∀ w ∈ u_ws RX5 TX5 5, w ∈ wsX8_isSet := by decide +kernel
theorem q_X8_isSet_g_3 : (Cond.fieldLink RX8 93 "SoundLaws$Stock" "size" "I") ∈ wsX8_isSet := by decide +kernel
set_option maxHeartbeats 1500000 in
set_option maxRecDepth 100000 in
theorem c_X8_isSet_g (l : Launch) (g : GG) (h0 : Nat) (pg : Nat) (rd : Nat) (si : Nat) (sy : Nat) (ks : Nat) (ki : Nat) (al : Nat) (dr : Nat) (le : Int32) (re : Int32) (sd : Int32) (kp : Int32) (sk : Nat) (s1 : Nat) (s2 : Nat) (s3 : Nat) (z : Nat) (t : Nat) (p1 : Int32)  (sz : Nat) : MetI l yX8_isSet wsX8_isSet ({ frames := 0, cells := 0, slots := 0, locals := 0 }) g [.ref h0, .int p1] [(h0, .inr (8, [.ref pg, .int le, .ref rd, .int re, .ref sk, .ref si, .ref sy, .int sd, .ref ks, .ref ki, .int kp, .ref al, .ref dr])), (sk, .inr (5, [.int (nI z), .int (nI t), .ref s1, .ref s2, .ref s3]))] sz (po_X8_isSet_g g h0 pg rd si sy ks ki al dr le re sd kp sk s1 s2 s3 z t p1) 0 0 := by
  refine k_of (l := l) (y := yX8_isSet) (ws := wsX8_isSet) (rm := { frames := 0, cells := 0, slots := 0, locals := 0 }) (mc := 0) (ms := 0) (av := [.ref h0, .int p1]) (g := g) (wc := [(h0, .inr (8, [.ref pg, .int le, .ref rd, .int re, .ref sk, .ref si, .ref sy, .int sd, .ref ks, .ref ki, .int kp, .ref al, .ref dr])), (sk, .inr (5, [.int (nI z), .int (nI t), .ref s1, .ref s2, .ref s3]))]) (Qc := fun A => va_Qi (po_X8_isSet_g g h0 pg rd si sy ks ki al dr le re sd kp sk s1 s2 s3 z t p1) (bk g A) A) (cc := cX8_isSet) (maxL := 2) (ret := (some .boolean)) (by decide) rfl (Nat.le_of_ble_eq_true rfl) ?_ sz
  intro p e s m below meth c hx hb hr hts hown hlocks hnm hml A hA hE hZ hP hD hS ls hl
  have hown : s.vm.findClass RX8 = some m.cls := hown
  have hl : lv_has ls 2 [(0, .ref h0), (1, .int p1)] := hl
  refine lv_iload_n hx hb dX8_isSet_0 rfl (lv_at hl 1 rfl) ?_
  refine lv_if_lt (tgt := 19) hx hb dX8_isSet_1 (by decide) (fun c1_1 => ?_) (fun c1_1 => ?_)
  · skip
    refine lv_iconst (v := 0) hx hb dX8_isSet_19 (by decide) ?_
    refine W.widen (k := 0) (n := 0) (Nat.le_of_ble_eq_true rfl) (Nat.le_of_ble_eq_true rfl) ?_
    exact k_rz hx hb hr hlocks hS hP hD rfl ⟨rfl, (isI_lo c1_1)⟩ dX8_isSet_20
  · skip
    refine lv_iload_n hx hb dX8_isSet_4 rfl (lv_at hl 1 rfl) ?_
    refine lv_aload_n hx hb dX8_isSet_5 rfl (lv_at hl 0 rfl) ?_
    refine va_get (D := g.1) (ci := 8) (v := .ref sk) (C := RX8) (T := TX8) (N := 13) hx hb hts q_X8_isSet_g_f8 hown hE.1 hP 0 rfl rfl 4 (by decide) (hts (.fieldLink RX8 23 "SoundLaws" "stock" "LSoundLaws$Stock;") q_X8_isSet_g_1) (fun _ h9 => h9) rfl dX8_isSet_6 ?_
    refine va_get (D := g.1) (ci := 5) (v := .int (nI z)) (C := RX5) (T := TX5) (N := 5) hx hb hts q_X8_isSet_g_f5 hown hE.1 hP 1 rfl rfl 0 (by decide) (hts (.fieldLink RX8 93 "SoundLaws$Stock" "size" "I") q_X8_isSet_g_3) (fun _ h9 => h9) rfl dX8_isSet_9 ?_
    refine lv_icmp_ge (tgt := 19) hx hb dX8_isSet_12 (by decide) (fun c12_2 => ?_) (fun c12_2 => ?_)
    · skip
      refine lv_iconst (v := 0) hx hb dX8_isSet_19 (by decide) ?_
      refine W.widen (k := 0) (n := 0) (Nat.le_of_ble_eq_true rfl) (Nat.le_of_ble_eq_true rfl) ?_
      exact k_rz hx hb hr hlocks hS hP hD rfl ⟨rfl, (isI_hi c12_2)⟩ dX8_isSet_20
    · skip
      refine lv_iconst (v := 1) hx hb dX8_isSet_15 (by decide) ?_
      refine lv_goto (tgt := 20) hx hb dX8_isSet_16 (by decide) ?_
      refine W.widen (k := 0) (n := 0) (Nat.le_of_ble_eq_true rfl) (Nat.le_of_ble_eq_true rfl) ?_
      exact k_rz hx hb hr hlocks hS hP hD rfl ⟨rfl, (isI_in c1_1 c12_2)⟩ dX8_isSet_20
def po_X8_isTongue_g (g : GG) (h0 : Nat) (pg : Nat) (rd : Nat) (si : Nat) (sy : Nat) (ks : Nat) (ki : Nat) (al : Nat) (dr : Nat) (le : Int32) (re : Int32) (sd : Int32) (kp : Int32) (sk : Nat) (s1 : Nat) (s2 : Nat) (s3 : Nat) (z : Nat) (t : Nat) (p1 : Int32) : Int32 → va_W → Prop := fun (r : Int32) w => w = [(h0, .inr (8, [.ref pg, .int le, .ref rd, .int re, .ref sk, .ref si, .ref sy, .int sd, .ref ks, .ref ki, .int kp, .ref al, .ref dr])), (sk, .inr (5, [.int (nI z), .int (nI t), .ref s1, .ref s2, .ref s3]))] ∧ (isI p1 t = r)
theorem q_X8_isTongue_g_f8 : ∀ w ∈ u_ws RX8 TX8 13, w ∈ wsX8_isTongue := by decide +kernel
theorem q_X8_isTongue_g_1 : (Cond.fieldLink RX8 23 "SoundLaws" "stock" "LSoundLaws$Stock;") ∈ wsX8_isTongue := by decide +kernel
theorem q_X8_isTongue_g_f5 : ∀ w ∈ u_ws RX5 TX5 5, w ∈ wsX8_isTongue := by decide +kernel
theorem q_X8_isTongue_g_3 : (Cond.fieldLink RX8 234 "SoundLaws$Stock" "tongues" "I") ∈ wsX8_isTongue := by decide +kernel
set_option maxHeartbeats 1500000 in
set_option maxRecDepth 100000 in
theorem c_X8_isTongue_g (l : Launch) (g : GG) (h0 : Nat) (pg : Nat) (rd : Nat) (si : Nat) (sy : Nat) (ks : Nat) (ki : Nat) (al : Nat) (dr : Nat) (le : Int32) (re : Int32) (sd : Int32) (kp : Int32) (sk : Nat) (s1 : Nat) (s2 : Nat) (s3 : Nat) (z : Nat) (t : Nat) (p1 : Int32)  (sz : Nat) : MetI l yX8_isTongue wsX8_isTongue ({ frames := 0, cells := 0, slots := 0, locals := 0 }) g [.ref h0, .int p1] [(h0, .inr (8, [.ref pg, .int le, .ref rd, .int re, .ref sk, .ref si, .ref sy, .int sd, .ref ks, .ref ki, .int kp, .ref al, .ref dr])), (sk, .inr (5, [.int (nI z), .int (nI t), .ref s1, .ref s2, .ref s3]))] sz (po_X8_isTongue_g g h0 pg rd si sy ks ki al dr le re sd kp sk s1 s2 s3 z t p1) 0 0 := by
  refine k_of (l := l) (y := yX8_isTongue) (ws := wsX8_isTongue) (rm := { frames := 0, cells := 0, slots := 0, locals := 0 }) (mc := 0) (ms := 0) (av := [.ref h0, .int p1]) (g := g) (wc := [(h0, .inr (8, [.ref pg, .int le, .ref rd, .int re, .ref sk, .ref si, .ref sy, .int sd, .ref ks, .ref ki, .int kp, .ref al, .ref dr])), (sk, .inr (5, [.int (nI z), .int (nI t), .ref s1, .ref s2, .ref s3]))]) (Qc := fun A => va_Qi (po_X8_isTongue_g g h0 pg rd si sy ks ki al dr le re sd kp sk s1 s2 s3 z t p1) (bk g A) A) (cc := cX8_isTongue) (maxL := 2) (ret := (some .boolean)) (by decide) rfl (Nat.le_of_ble_eq_true rfl) ?_ sz
  intro p e s m below meth c hx hb hr hts hown hlocks hnm hml A hA hE hZ hP hD hS ls hl
  have hown : s.vm.findClass RX8 = some m.cls := hown
  have hl : lv_has ls 2 [(0, .ref h0), (1, .int p1)] := hl
  refine lv_iload_n hx hb dX8_isTongue_0 rfl (lv_at hl 1 rfl) ?_
  refine lv_if_lt (tgt := 19) hx hb dX8_isTongue_1 (by decide) (fun c1_1 => ?_) (fun c1_1 => ?_)
  · skip
    refine lv_iconst (v := 0) hx hb dX8_isTongue_19 (by decide) ?_
    refine W.widen (k := 0) (n := 0) (Nat.le_of_ble_eq_true rfl) (Nat.le_of_ble_eq_true rfl) ?_
    exact k_rz hx hb hr hlocks hS hP hD rfl ⟨rfl, (isI_lo c1_1)⟩ dX8_isTongue_20
  · skip
    refine lv_iload_n hx hb dX8_isTongue_4 rfl (lv_at hl 1 rfl) ?_
    refine lv_aload_n hx hb dX8_isTongue_5 rfl (lv_at hl 0 rfl) ?_
    refine va_get (D := g.1) (ci := 8) (v := .ref sk) (C := RX8) (T := TX8) (N := 13) hx hb hts q_X8_isTongue_g_f8 hown hE.1 hP 0 rfl rfl 4 (by decide) (hts (.fieldLink RX8 23 "SoundLaws" "stock" "LSoundLaws$Stock;") q_X8_isTongue_g_1) (fun _ h9 => h9) rfl dX8_isTongue_6 ?_
    refine va_get (D := g.1) (ci := 5) (v := .int (nI t)) (C := RX5) (T := TX5) (N := 5) hx hb hts q_X8_isTongue_g_f5 hown hE.1 hP 1 rfl rfl 1 (by decide) (hts (.fieldLink RX8 234 "SoundLaws$Stock" "tongues" "I") q_X8_isTongue_g_3) (fun _ h9 => h9) rfl dX8_isTongue_9 ?_
    refine lv_icmp_ge (tgt := 19) hx hb dX8_isTongue_12 (by decide) (fun c12_2 => ?_) (fun c12_2 => ?_)
    · skip
      refine lv_iconst (v := 0) hx hb dX8_isTongue_19 (by decide) ?_
      refine W.widen (k := 0) (n := 0) (Nat.le_of_ble_eq_true rfl) (Nat.le_of_ble_eq_true rfl) ?_
      exact k_rz hx hb hr hlocks hS hP hD rfl ⟨rfl, (isI_hi c12_2)⟩ dX8_isTongue_20
    · skip
      refine lv_iconst (v := 1) hx hb dX8_isTongue_15 (by decide) ?_
      refine lv_goto (tgt := 20) hx hb dX8_isTongue_16 (by decide) ?_
      refine W.widen (k := 0) (n := 0) (Nat.le_of_ble_eq_true rfl) (Nat.le_of_ble_eq_true rfl) ?_
      exact k_rz hx hb hr hlocks hS hP hD rfl ⟨rfl, (isI_in c1_1 c12_2)⟩ dX8_isTongue_20
def po_X8_as_g (g : GG) (h0 : Nat) (pg : Nat) (rd : Nat) (si : Nat) (sy : Nat) (ks : Nat) (ki : Nat) (al : Nat) (dr : Nat) (le : Int32) (re : Int32) (sd : Int32) (kp : Int32) (sk : Nat) (s1 : Nat) (s2 : Nat) (s3 : Nat) (z : Nat) (t : Nat) (K : Nat → Int32) (p1 : Int32) (p2 : Int32) : Int32 → va_W → Prop := fun (r : Int32) w => w = [(h0, .inr (8, [.ref pg, .int le, .ref rd, .int re, .ref sk, .ref si, .ref sy, .int sd, .ref ks, .ref ki, .int kp, .ref al, .ref dr])), (sk, .inr (5, [.int (nI z), .int (nI t), .ref s1, .ref s2, .ref s3])), (s1, ai g 6 K)] ∧ (rAs p1 p2 z K = r)
theorem q_X8_as_g_f8 : ∀ w ∈ u_ws RX8 TX8 13, w ∈ wsX8_as := by decide +kernel
theorem q_X8_as_g_1 : (Cond.fieldLink RX8 23 "SoundLaws" "stock" "LSoundLaws$Stock;") ∈ wsX8_as := by decide +kernel
theorem q_X8_as_g_f5 : ∀ w ∈ u_ws RX5 TX5 5, w ∈ wsX8_as := by decide +kernel
theorem q_X8_as_g_3 : (Cond.fieldLink RX8 110 "SoundLaws$Stock" "kinds" "[I") ∈ wsX8_as := by decide +kernel
set_option maxHeartbeats 1500000 in
set_option maxRecDepth 100000 in
theorem c_X8_as_g (l : Launch) (g : GG) (h0 : Nat) (pg : Nat) (rd : Nat) (si : Nat) (sy : Nat) (ks : Nat) (ki : Nat) (al : Nat) (dr : Nat) (le : Int32) (re : Int32) (sd : Int32) (kp : Int32) (sk : Nat) (s1 : Nat) (s2 : Nat) (s3 : Nat) (z : Nat) (t : Nat) (K : Nat → Int32) (p1 : Int32) (p2 : Int32) (hz : z ≤ 6) (sz : Nat) : MetI l yX8_as wsX8_as ({ frames := 1, cells := 0, slots := 0, locals := 21 }) g [.ref h0, .int p1, .int p2] [(h0, .inr (8, [.ref pg, .int le, .ref rd, .int re, .ref sk, .ref si, .ref sy, .int sd, .ref ks, .ref ki, .int kp, .ref al, .ref dr])), (sk, .inr (5, [.int (nI z), .int (nI t), .ref s1, .ref s2, .ref s3])), (s1, ai g 6 K)] sz (po_X8_as_g g h0 pg rd si sy ks ki al dr le re sd kp sk s1 s2 s3 z t K p1 p2) 0 0 := by
  refine k_of (l := l) (y := yX8_as) (ws := wsX8_as) (rm := { frames := 1, cells := 0, slots := 0, locals := 21 }) (mc := 0) (ms := 0) (av := [.ref h0, .int p1, .int p2]) (g := g) (wc := [(h0, .inr (8, [.ref pg, .int le, .ref rd, .int re, .ref sk, .ref si, .ref sy, .int sd, .ref ks, .ref ki, .int kp, .ref al, .ref dr])), (sk, .inr (5, [.int (nI z), .int (nI t), .ref s1, .ref s2, .ref s3])), (s1, ai g 6 K)]) (Qc := fun A => va_Qi (po_X8_as_g g h0 pg rd si sy ks ki al dr le re sd kp sk s1 s2 s3 z t K p1 p2) (bk g A) A) (cc := cX8_as) (maxL := 3) (ret := (some .int)) (by decide) rfl (Nat.le_of_ble_eq_true rfl) ?_ sz
  intro p e s m below meth c hx hb hr hts hown hlocks hnm hml A hA hE hZ hP hD hS ls hl
  have hown : s.vm.findClass RX8 = some m.cls := hown
  have hl : lv_has ls 3 [(0, .ref h0), (1, .int p1), (2, .int p2)] := hl
  refine lv_aload_n hx hb dX8_as_0 rfl (lv_at hl 0 rfl) ?_
  refine lv_iload_n hx hb dX8_as_1 rfl (lv_at hl 1 rfl) ?_
  refine k_ci (wr := [(s1, ai g 6 K)]) hP hD hS hA [0, 1] [2] rfl rfl (by decide) (by decide) (va_runV (As := [.int p1]) (rest := []) ⟨hx, hb, hml, hown, hts⟩ (c_X8_isSet_g l g h0 pg rd si sy ks ki al dr le re sd kp sk s1 s2 s3 z t p1  s.heap.size) (cwV 1 hts gX8_as_X8_isSet rfl rfl rfl (by decide +kernel) ⟨Nat.le_of_ble_eq_true rfl, Nat.le_of_ble_eq_true rfl⟩) (k_preV hE hZ hP hD hS hA [0, 1] rfl (by decide) (va_recv hE.1 hP (ci := 8) (q0 := 0) rfl rfl)) rfl rfl hl.1 rfl (lv_room (Nat.le_of_ble_eq_true rfl)) dX8_as_2 ⟨Nat.le_of_ble_eq_true rfl, Nat.le_of_ble_eq_true rfl⟩) (fun r_1 w1 H locs hw hP hD hS => ?_)
  obtain ⟨rfl, rfl⟩ := hw
  have hP : va_P g.1 vwCl [(s1, ai g 6 K), (h0, .inr (8, [.ref pg, .int le, .ref rd, .int re, .ref sk, .ref si, .ref sy, .int sd, .ref ks, .ref ki, .int kp, .ref al, .ref dr])), (sk, .inr (5, [.int (nI z), .int (nI t), .ref s1, .ref s2, .ref s3]))] H := hP
  have hD : va_D A [(s1, ai g 6 K), (h0, .inr (8, [.ref pg, .int le, .ref rd, .int re, .ref sk, .ref si, .ref sy, .int sd, .ref ks, .ref ki, .int kp, .ref al, .ref dr])), (sk, .inr (5, [.int (nI z), .int (nI t), .ref s1, .ref s2, .ref s3]))] := hD
  refine lv_if_ne (tgt := 11) hx hb dX8_as_5 (by decide) (fun c5_3 => ?_) (fun c5_3 => ?_)
  · skip
    refine lv_iload_n hx hb dX8_as_11 rfl (lv_at hl 2 rfl) ?_
    refine k_ci (wr := [(s1, ai g 6 K), (h0, .inr (8, [.ref pg, .int le, .ref rd, .int re, .ref sk, .ref si, .ref sy, .int sd, .ref ks, .ref ki, .int kp, .ref al, .ref dr])), (sk, .inr (5, [.int (nI z), .int (nI t), .ref s1, .ref s2, .ref s3]))]) hP hD hS hA [] [0, 1, 2] rfl rfl (by decide) (by decide) (va_runS (As := [.int p2]) (rest := []) ⟨hx, hb, hml, hown, hts⟩ (c_X8_isKind_g l g p2  H.size) (va_cwS 1 hts gX8_as_X8_isKind rfl rfl rfl (by decide +kernel) ⟨Nat.le_of_ble_eq_true rfl, Nat.le_of_ble_eq_true rfl⟩) (k_preS hE hZ hP hD hS hA [] rfl (by decide)) rfl rfl hl.1 rfl (lv_room (Nat.le_of_ble_eq_true rfl)) dX8_as_12 ⟨Nat.le_of_ble_eq_true rfl, Nat.le_of_ble_eq_true rfl⟩) (fun r_4 w1 H locs hw hP hD hS => ?_)
    obtain ⟨rfl, rfl⟩ := hw
    have hP : va_P g.1 vwCl [(s1, ai g 6 K), (h0, .inr (8, [.ref pg, .int le, .ref rd, .int re, .ref sk, .ref si, .ref sy, .int sd, .ref ks, .ref ki, .int kp, .ref al, .ref dr])), (sk, .inr (5, [.int (nI z), .int (nI t), .ref s1, .ref s2, .ref s3]))] H := hP
    have hD : va_D A [(s1, ai g 6 K), (h0, .inr (8, [.ref pg, .int le, .ref rd, .int re, .ref sk, .ref si, .ref sy, .int sd, .ref ks, .ref ki, .int kp, .ref al, .ref dr])), (sk, .inr (5, [.int (nI z), .int (nI t), .ref s1, .ref s2, .ref s3]))] := hD
    refine lv_if_ne (tgt := 21) hx hb dX8_as_15 (by decide) (fun c15_6 => ?_) (fun c15_6 => ?_)
    · skip
      obtain ⟨k1, hk1, rfl⟩ := isI_of (p := p1) (by omega) c5_3
      refine lv_aload_n hx hb dX8_as_21 rfl (lv_at hl 0 rfl) ?_
      refine va_get (D := g.1) (ci := 8) (v := .ref sk) (C := RX8) (T := TX8) (N := 13) hx hb hts q_X8_as_g_f8 hown hE.1 hP 1 rfl rfl 4 (by decide) (hts (.fieldLink RX8 23 "SoundLaws" "stock" "LSoundLaws$Stock;") q_X8_as_g_1) (fun _ h9 => h9) rfl dX8_as_22 ?_
      refine va_get (D := g.1) (ci := 5) (v := .ref s1) (C := RX5) (T := TX5) (N := 5) hx hb hts q_X8_as_g_f5 hown hE.1 hP 2 rfl rfl 2 (by decide) (hts (.fieldLink RX8 110 "SoundLaws$Stock" "kinds" "[I") q_X8_as_g_3) (fun _ h9 => h9) rfl dX8_as_25 ?_
      refine lv_iload_n hx hb dX8_as_28 rfl (lv_at hl 1 rfl) ?_
      refine k_ald k1 rfl (by omega) hx hb hE hP 0 rfl (by decide) dX8_as_29 ?_
      refine lv_iload_n hx hb dX8_as_30 rfl (lv_at hl 2 rfl) ?_
      refine k_ci (wr := [(s1, ai g 6 K), (h0, .inr (8, [.ref pg, .int le, .ref rd, .int re, .ref sk, .ref si, .ref sy, .int sd, .ref ks, .ref ki, .int kp, .ref al, .ref dr])), (sk, .inr (5, [.int (nI z), .int (nI t), .ref s1, .ref s2, .ref s3]))]) hP hD hS hA [] [0, 1, 2] rfl rfl (by decide) (by decide) (va_runS (As := [.int (K k1), .int p2]) (rest := []) ⟨hx, hb, hml, hown, hts⟩ (c_X8_isOfKind_g l g (K k1) p2  H.size) (va_cwS 2 hts gX8_as_X8_isOfKind rfl rfl rfl (by decide +kernel) ⟨Nat.le_of_ble_eq_true rfl, Nat.le_of_ble_eq_true rfl⟩) (k_preS hE hZ hP hD hS hA [] rfl (by decide)) rfl rfl hl.1 rfl (lv_room (Nat.le_of_ble_eq_true rfl)) dX8_as_31 ⟨Nat.le_of_ble_eq_true rfl, Nat.le_of_ble_eq_true rfl⟩) (fun r_7 w1 H locs hw hP hD hS => ?_)
      obtain ⟨rfl, rfl⟩ := hw
      have hP : va_P g.1 vwCl [(s1, ai g 6 K), (h0, .inr (8, [.ref pg, .int le, .ref rd, .int re, .ref sk, .ref si, .ref sy, .int sd, .ref ks, .ref ki, .int kp, .ref al, .ref dr])), (sk, .inr (5, [.int (nI z), .int (nI t), .ref s1, .ref s2, .ref s3]))] H := hP
      have hD : va_D A [(s1, ai g 6 K), (h0, .inr (8, [.ref pg, .int le, .ref rd, .int re, .ref sk, .ref si, .ref sy, .int sd, .ref ks, .ref ki, .int kp, .ref al, .ref dr])), (sk, .inr (5, [.int (nI z), .int (nI t), .ref s1, .ref s2, .ref s3]))] := hD
      refine lv_if_eq (tgt := 41) hx hb dX8_as_34 (by decide) (fun c34_9 => ?_) (fun c34_9 => ?_)
      · skip
        refine lv_iconst (v := (-1)) hx hb dX8_as_41 (by decide) ?_
        refine W.widen (k := 0) (n := 0) (Nat.le_of_ble_eq_true rfl) (Nat.le_of_ble_eq_true rfl) ?_
        have hP9 := hP.sub (ws' := [(h0, .inr (8, [.ref pg, .int le, .ref rd, .int re, .ref sk, .ref si, .ref sy, .int sd, .ref ks, .ref ki, .int kp, .ref al, .ref dr])), (sk, .inr (5, [.int (nI z), .int (nI t), .ref s1, .ref s2, .ref s3])), (s1, ai g 6 K)]) [1, 2, 0] rfl
        have hD9 := hD.sub (ws' := [(h0, .inr (8, [.ref pg, .int le, .ref rd, .int re, .ref sk, .ref si, .ref sy, .int sd, .ref ks, .ref ki, .int kp, .ref al, .ref dr])), (sk, .inr (5, [.int (nI z), .int (nI t), .ref s1, .ref s2, .ref s3])), (s1, ai g 6 K)]) [1, 2, 0] (by decide) rfl
        exact k_ri hx hb hr hlocks hS hP9 hD9 ⟨rfl, (by unfold rAs; rw [if_neg c5_3, if_neg c15_6, nI_clamp (by omega), if_pos c34_9])⟩ dX8_as_42
      · skip
        refine lv_iload_n hx hb dX8_as_37 rfl (lv_at hl 1 rfl) ?_
        refine lv_goto (tgt := 42) hx hb dX8_as_38 (by decide) ?_
        refine W.widen (k := 0) (n := 0) (Nat.le_of_ble_eq_true rfl) (Nat.le_of_ble_eq_true rfl) ?_
        have hP9 := hP.sub (ws' := [(h0, .inr (8, [.ref pg, .int le, .ref rd, .int re, .ref sk, .ref si, .ref sy, .int sd, .ref ks, .ref ki, .int kp, .ref al, .ref dr])), (sk, .inr (5, [.int (nI z), .int (nI t), .ref s1, .ref s2, .ref s3])), (s1, ai g 6 K)]) [1, 2, 0] rfl
        have hD9 := hD.sub (ws' := [(h0, .inr (8, [.ref pg, .int le, .ref rd, .int re, .ref sk, .ref si, .ref sy, .int sd, .ref ks, .ref ki, .int kp, .ref al, .ref dr])), (sk, .inr (5, [.int (nI z), .int (nI t), .ref s1, .ref s2, .ref s3])), (s1, ai g 6 K)]) [1, 2, 0] (by decide) rfl
        exact k_ri hx hb hr hlocks hS hP9 hD9 ⟨rfl, (by unfold rAs; rw [if_neg c5_3, if_neg c15_6, nI_clamp (by omega), if_neg c34_9])⟩ dX8_as_42
    · skip
      refine lv_bipush (v := (-102)) hx hb dX8_as_18 (by decide) ?_
      refine W.widen (k := 0) (n := 0) (Nat.le_of_ble_eq_true rfl) (Nat.le_of_ble_eq_true rfl) ?_
      have hP9 := hP.sub (ws' := [(h0, .inr (8, [.ref pg, .int le, .ref rd, .int re, .ref sk, .ref si, .ref sy, .int sd, .ref ks, .ref ki, .int kp, .ref al, .ref dr])), (sk, .inr (5, [.int (nI z), .int (nI t), .ref s1, .ref s2, .ref s3])), (s1, ai g 6 K)]) [1, 2, 0] rfl
      have hD9 := hD.sub (ws' := [(h0, .inr (8, [.ref pg, .int le, .ref rd, .int re, .ref sk, .ref si, .ref sy, .int sd, .ref ks, .ref ki, .int kp, .ref al, .ref dr])), (sk, .inr (5, [.int (nI z), .int (nI t), .ref s1, .ref s2, .ref s3])), (s1, ai g 6 K)]) [1, 2, 0] (by decide) rfl
      exact k_ri hx hb hr hlocks hS hP9 hD9 ⟨rfl, (by unfold rAs; rw [if_neg c5_3, if_pos c15_6])⟩ dX8_as_20
  · skip
    refine lv_bipush (v := (-101)) hx hb dX8_as_8 (by decide) ?_
    refine W.widen (k := 0) (n := 0) (Nat.le_of_ble_eq_true rfl) (Nat.le_of_ble_eq_true rfl) ?_
    have hP9 := hP.sub (ws' := [(h0, .inr (8, [.ref pg, .int le, .ref rd, .int re, .ref sk, .ref si, .ref sy, .int sd, .ref ks, .ref ki, .int kp, .ref al, .ref dr])), (sk, .inr (5, [.int (nI z), .int (nI t), .ref s1, .ref s2, .ref s3])), (s1, ai g 6 K)]) [1, 2, 0] rfl
    have hD9 := hD.sub (ws' := [(h0, .inr (8, [.ref pg, .int le, .ref rd, .int re, .ref sk, .ref si, .ref sy, .int sd, .ref ks, .ref ki, .int kp, .ref al, .ref dr])), (sk, .inr (5, [.int (nI z), .int (nI t), .ref s1, .ref s2, .ref s3])), (s1, ai g 6 K)]) [1, 2, 0] (by decide) rfl
    exact k_ri hx hb hr hlocks hS hP9 hD9 ⟨rfl, (by unfold rAs; rw [if_pos c5_3])⟩ dX8_as_10
def po_X8_letter_g (g : GG) (h0 : Nat) (pg : Nat) (rd : Nat) (sk : Nat) (si : Nat) (sy : Nat) (ks : Nat) (ki : Nat) (al : Nat) (dr : Nat) (re : Int32) (sd : Int32) (kp : Int32) (a : Nat) (Pg : Nat → Int32) (p1 : Int32) : Int32 → va_W → Prop := fun (r : Int32) w => ∃ (a2 : Nat) (Pg2 : Nat → Int32), w = [(h0, .inr (8, [.ref pg, .int (nI a2), .ref rd, .int re, .ref sk, .ref si, .ref sy, .int sd, .ref ks, .ref ki, .int kp, .ref al, .ref dr])), (pg, ai g 110 Pg2)] ∧ (rLt p1 a = r) ∧ (nLt p1 a = a2) ∧ (fLt p1 a Pg = Pg2)
theorem q_X8_letter_g_f8 : ∀ w ∈ u_ws RX8 TX8 13, w ∈ wsX8_letter := by decide +kernel
theorem q_X8_letter_g_1 : (Cond.fieldLink RX8 61 "SoundLaws" "letters" "I") ∈ wsX8_letter := by decide +kernel
theorem q_X8_letter_g_2 : (Cond.fieldLink RX8 9 "SoundLaws" "page" "[I") ∈ wsX8_letter := by decide +kernel
set_option maxHeartbeats 1500000 in
set_option maxRecDepth 100000 in
theorem c_X8_letter_g (l : Launch) (g : GG) (h0 : Nat) (pg : Nat) (rd : Nat) (sk : Nat) (si : Nat) (sy : Nat) (ks : Nat) (ki : Nat) (al : Nat) (dr : Nat) (re : Int32) (sd : Int32) (kp : Int32) (a : Nat) (Pg : Nat → Int32) (p1 : Int32) (ha : a ≤ 110) (sz : Nat) : MetI l yX8_letter wsX8_letter ({ frames := 0, cells := 0, slots := 0, locals := 0 }) g [.ref h0, .int p1] [(h0, .inr (8, [.ref pg, .int (nI a), .ref rd, .int re, .ref sk, .ref si, .ref sy, .int sd, .ref ks, .ref ki, .int kp, .ref al, .ref dr])), (pg, ai g 110 Pg)] sz (po_X8_letter_g g h0 pg rd sk si sy ks ki al dr re sd kp a Pg p1) 0 0 := by
  refine k_of (l := l) (y := yX8_letter) (ws := wsX8_letter) (rm := { frames := 0, cells := 0, slots := 0, locals := 0 }) (mc := 0) (ms := 0) (av := [.ref h0, .int p1]) (g := g) (wc := [(h0, .inr (8, [.ref pg, .int (nI a), .ref rd, .int re, .ref sk, .ref si, .ref sy, .int sd, .ref ks, .ref ki, .int kp, .ref al, .ref dr])), (pg, ai g 110 Pg)]) (Qc := fun A => va_Qi (po_X8_letter_g g h0 pg rd sk si sy ks ki al dr re sd kp a Pg p1) (bk g A) A) (cc := cX8_letter) (maxL := 2) (ret := (some .int)) (by decide) rfl (Nat.le_of_ble_eq_true rfl) ?_ sz
  intro p e s m below meth c hx hb hr hts hown hlocks hnm hml A hA hE hZ hP hD hS ls hl
  have hown : s.vm.findClass RX8 = some m.cls := hown
  have hl : lv_has ls 2 [(0, .ref h0), (1, .int p1)] := hl
  refine lv_iload_n hx hb dX8_letter_0 rfl (lv_at hl 1 rfl) ?_
  refine lv_iconst (v := 1) hx hb dX8_letter_1 (by decide) ?_
  refine lv_icmp_lt (tgt := 11) hx hb dX8_letter_2 (by decide) (fun c2_1 => ?_) (fun c2_1 => ?_)
  · skip
    refine lv_bipush (v := (-102)) hx hb dX8_letter_11 (by decide) ?_
    refine W.widen (k := 0) (n := 0) (Nat.le_of_ble_eq_true rfl) (Nat.le_of_ble_eq_true rfl) ?_
    exact k_ri hx hb hr hlocks hS hP hD ⟨a, Pg, rfl, (by unfold rLt; rw [if_pos (Or.inl c2_1)]), (by unfold nLt; rw [if_pos (Or.inl c2_1)]), (by unfold fLt; rw [if_pos (Or.inl c2_1)])⟩ dX8_letter_13
  · skip
    refine lv_iload_n hx hb dX8_letter_5 rfl (lv_at hl 1 rfl) ?_
    refine lv_bipush (v := 126) hx hb dX8_letter_6 (by decide) ?_
    refine lv_icmp_le (tgt := 14) hx hb dX8_letter_8 (by decide) (fun c8_2 => ?_) (fun c8_2 => ?_)
    · skip
      refine lv_aload_n hx hb dX8_letter_14 rfl (lv_at hl 0 rfl) ?_
      refine va_get (D := g.1) (ci := 8) (v := .int (nI a)) (C := RX8) (T := TX8) (N := 13) hx hb hts q_X8_letter_g_f8 hown hE.1 hP 0 rfl rfl 1 (by decide) (hts (.fieldLink RX8 61 "SoundLaws" "letters" "I") q_X8_letter_g_1) (fun _ h9 => h9) rfl dX8_letter_15 ?_
      refine lv_bipush (v := 110) hx hb dX8_letter_18 (by decide) ?_
      refine lv_icmp_lt (tgt := 26) hx hb dX8_letter_20 (by decide) (fun c20_3 => ?_) (fun c20_3 => ?_)
      · skip
        refine lv_aload_n hx hb dX8_letter_26 rfl (lv_at hl 0 rfl) ?_
        refine va_get (D := g.1) (ci := 8) (v := .ref pg) (C := RX8) (T := TX8) (N := 13) hx hb hts q_X8_letter_g_f8 hown hE.1 hP 0 rfl rfl 0 (by decide) (hts (.fieldLink RX8 9 "SoundLaws" "page" "[I") q_X8_letter_g_2) (fun _ h9 => h9) rfl dX8_letter_27 ?_
        refine lv_aload_n hx hb dX8_letter_30 rfl (lv_at hl 0 rfl) ?_
        refine va_get (D := g.1) (ci := 8) (v := .int (nI a)) (C := RX8) (T := TX8) (N := 13) hx hb hts q_X8_letter_g_f8 hown hE.1 hP 0 rfl rfl 1 (by decide) (hts (.fieldLink RX8 61 "SoundLaws" "letters" "I") q_X8_letter_g_1) (fun _ h9 => h9) rfl dX8_letter_31 ?_
        refine lv_iload_n hx hb dX8_letter_34 rfl (lv_at hl 1 rfl) ?_
        refine k_ast (x := p1) a rfl ((nI_ltI (b := 110) (by omega) (by decide)).mp c20_3) hx hb hE hP hD hS 1 rfl (by decide) dX8_letter_35 (fun H locs hP hD hS => ?_)
        have hP : va_P g.1 vwCl [(h0, .inr (8, [.ref pg, .int (nI a), .ref rd, .int re, .ref sk, .ref si, .ref sy, .int sd, .ref ks, .ref ki, .int kp, .ref al, .ref dr])), (pg, ai g 110 (upd Pg a p1))] H := hP
        have hD : va_D A [(h0, .inr (8, [.ref pg, .int (nI a), .ref rd, .int re, .ref sk, .ref si, .ref sy, .int sd, .ref ks, .ref ki, .int kp, .ref al, .ref dr])), (pg, ai g 110 (upd Pg a p1))] := hD
        refine lv_aload_n hx hb dX8_letter_36 rfl (lv_at hl 0 rfl) ?_
        refine lv_dup hx hb dX8_letter_37 rfl ?_
        refine va_get (D := g.1) (ci := 8) (v := .int (nI a)) (C := RX8) (T := TX8) (N := 13) hx hb hts q_X8_letter_g_f8 hown hE.1 hP 0 rfl rfl 1 (by decide) (hts (.fieldLink RX8 61 "SoundLaws" "letters" "I") q_X8_letter_g_1) (fun _ h9 => h9) rfl dX8_letter_38 ?_
        refine lv_iconst (v := 1) hx hb dX8_letter_41 (by decide) ?_
        refine lv_iadd hx hb dX8_letter_42 ?_
        refine lv_topi (fun x_4 ex_4 => ?_)
        obtain rfl : x_4 = nI (a + 1) := by rw [ex_4]; exact nI_1 a
        refine va_put (D := g.1) (ci := 8) (v := .int (nI (a + 1))) (ty := .int) (C := RX8) (T := TX8) (N := 13) hx hb hts q_X8_letter_g_f8 tyX8 tyX8_ok nmX8 hown hE.1 hP hD hS 0 rfl rfl 1 (by decide) (hts (.fieldLink RX8 61 "SoundLaws" "letters" "I") q_X8_letter_g_1) (fun _ h9 => h9) rfl (by decide +kernel) rfl rfl (Nat.le_of_ble_eq_true rfl) dX8_letter_43 (fun H locs hP hD hS => ?_)
        have hP : va_P g.1 vwCl [(h0, .inr (8, [.ref pg, .int (nI (a + 1)), .ref rd, .int re, .ref sk, .ref si, .ref sy, .int sd, .ref ks, .ref ki, .int kp, .ref al, .ref dr])), (pg, ai g 110 (upd Pg a p1))] H := hP
        have hD : va_D A [(h0, .inr (8, [.ref pg, .int (nI (a + 1)), .ref rd, .int re, .ref sk, .ref si, .ref sy, .int sd, .ref ks, .ref ki, .int kp, .ref al, .ref dr])), (pg, ai g 110 (upd Pg a p1))] := hD
        refine lv_aload_n hx hb dX8_letter_46 rfl (lv_at hl 0 rfl) ?_
        refine va_get (D := g.1) (ci := 8) (v := .int (nI (a + 1))) (C := RX8) (T := TX8) (N := 13) hx hb hts q_X8_letter_g_f8 hown hE.1 hP 0 rfl rfl 1 (by decide) (hts (.fieldLink RX8 61 "SoundLaws" "letters" "I") q_X8_letter_g_1) (fun _ h9 => h9) rfl dX8_letter_47 ?_
        refine W.widen (k := 0) (n := 0) (Nat.le_of_ble_eq_true rfl) (Nat.le_of_ble_eq_true rfl) ?_
        exact k_ri hx hb hr hlocks hS hP hD ⟨(a + 1), (upd Pg a p1), rfl, (by unfold rLt; rw [if_neg (fun h => h.elim c2_1 (i_nlt c8_2)), if_pos ((nI_ltI (b := 110) (by omega) (by decide)).mp c20_3)]), (by unfold nLt; rw [if_neg (fun h => h.elim c2_1 (i_nlt c8_2)), if_pos ((nI_ltI (b := 110) (by omega) (by decide)).mp c20_3)]), (by unfold fLt; rw [if_neg (fun h => h.elim c2_1 (i_nlt c8_2)), if_pos ((nI_ltI (b := 110) (by omega) (by decide)).mp c20_3)])⟩ dX8_letter_50
      · skip
        refine lv_bipush (v := (-104)) hx hb dX8_letter_23 (by decide) ?_
        refine W.widen (k := 0) (n := 0) (Nat.le_of_ble_eq_true rfl) (Nat.le_of_ble_eq_true rfl) ?_
        exact k_ri hx hb hr hlocks hS hP hD ⟨a, Pg, rfl, (by unfold rLt; rw [if_neg (fun h => h.elim c2_1 (i_nlt c8_2)), if_neg (fun q => c20_3 (nI_lt (b := 110) q (by decide)))]), (by unfold nLt; rw [if_neg (fun h => h.elim c2_1 (i_nlt c8_2)), if_neg (fun q => c20_3 (nI_lt (b := 110) q (by decide)))]), (by unfold fLt; rw [if_neg (fun h => h.elim c2_1 (i_nlt c8_2)), if_neg (fun q => c20_3 (nI_lt (b := 110) q (by decide)))])⟩ dX8_letter_25
    · skip
      refine lv_bipush (v := (-102)) hx hb dX8_letter_11 (by decide) ?_
      refine W.widen (k := 0) (n := 0) (Nat.le_of_ble_eq_true rfl) (Nat.le_of_ble_eq_true rfl) ?_
      exact k_ri hx hb hr hlocks hS hP hD ⟨a, Pg, rfl, (by unfold rLt; rw [if_pos (Or.inr (i_nle c8_2))]), (by unfold nLt; rw [if_pos (Or.inr (i_nle c8_2))]), (by unfold fLt; rw [if_pos (Or.inr (i_nle c8_2))])⟩ dX8_letter_13
def po_X8_blank_g (g : GG) (h0 : Nat) (pg : Nat) (rd : Nat) (sk : Nat) (si : Nat) (sy : Nat) (ks : Nat) (ki : Nat) (al : Nat) (dr : Nat) (le : Int32) (re : Int32) (sd : Int32) (kp : Int32) : Int32 → va_W → Prop := fun (r : Int32) w => w = [(h0, .inr (8, [.ref pg, .int 0, .ref rd, .int re, .ref sk, .ref si, .ref sy, .int sd, .ref ks, .ref ki, .int kp, .ref al, .ref dr]))] ∧ (le = r)
theorem q_X8_blank_g_f8 : ∀ w ∈ u_ws RX8 TX8 13, w ∈ wsX8_blank := by decide +kernel
theorem q_X8_blank_g_1 : (Cond.fieldLink RX8 61 "SoundLaws" "letters" "I") ∈ wsX8_blank := by decide +kernel
set_option maxHeartbeats 1500000 in
set_option maxRecDepth 100000 in
theorem c_X8_blank_g (l : Launch) (g : GG) (h0 : Nat) (pg : Nat) (rd : Nat) (sk : Nat) (si : Nat) (sy : Nat) (ks : Nat) (ki : Nat) (al : Nat) (dr : Nat) (le : Int32) (re : Int32) (sd : Int32) (kp : Int32)  (sz : Nat) : MetI l yX8_blank wsX8_blank ({ frames := 0, cells := 0, slots := 0, locals := 0 }) g [.ref h0] [(h0, .inr (8, [.ref pg, .int le, .ref rd, .int re, .ref sk, .ref si, .ref sy, .int sd, .ref ks, .ref ki, .int kp, .ref al, .ref dr]))] sz (po_X8_blank_g g h0 pg rd sk si sy ks ki al dr le re sd kp) 0 0 := by
  refine k_of (l := l) (y := yX8_blank) (ws := wsX8_blank) (rm := { frames := 0, cells := 0, slots := 0, locals := 0 }) (mc := 0) (ms := 0) (av := [.ref h0]) (g := g) (wc := [(h0, .inr (8, [.ref pg, .int le, .ref rd, .int re, .ref sk, .ref si, .ref sy, .int sd, .ref ks, .ref ki, .int kp, .ref al, .ref dr]))]) (Qc := fun A => va_Qi (po_X8_blank_g g h0 pg rd sk si sy ks ki al dr le re sd kp) (bk g A) A) (cc := cX8_blank) (maxL := 2) (ret := (some .int)) (by decide) rfl (Nat.le_of_ble_eq_true rfl) ?_ sz
  intro p e s m below meth c hx hb hr hts hown hlocks hnm hml A hA hE hZ hP hD hS ls hl
  have hown : s.vm.findClass RX8 = some m.cls := hown
  have hl : lv_has ls 2 [(0, .ref h0)] := hl
  refine lv_aload_n hx hb dX8_blank_0 rfl (lv_at hl 0 rfl) ?_
  refine va_get (D := g.1) (ci := 8) (v := .int le) (C := RX8) (T := TX8) (N := 13) hx hb hts q_X8_blank_g_f8 hown hE.1 hP 0 rfl rfl 1 (by decide) (hts (.fieldLink RX8 61 "SoundLaws" "letters" "I") q_X8_blank_g_1) (fun _ h9 => h9) rfl dX8_blank_1 ?_
  refine lv_istore_n (lv' := [(1, .int le), (0, .ref h0)]) hx hb dX8_blank_4 rfl hl (by decide) rfl (fun ls hl => ?_)
  refine lv_aload_n hx hb dX8_blank_5 rfl (lv_at hl 1 rfl) ?_
  refine lv_iconst (v := 0) hx hb dX8_blank_6 (by decide) ?_
  refine va_put (D := g.1) (ci := 8) (v := .int 0) (ty := .int) (C := RX8) (T := TX8) (N := 13) hx hb hts q_X8_blank_g_f8 tyX8 tyX8_ok nmX8 hown hE.1 hP hD hS 0 rfl rfl 1 (by decide) (hts (.fieldLink RX8 61 "SoundLaws" "letters" "I") q_X8_blank_g_1) (fun _ h9 => h9) rfl (by decide +kernel) rfl rfl (Nat.le_of_ble_eq_true rfl) dX8_blank_7 (fun H locs hP hD hS => ?_)
  have hP : va_P g.1 vwCl [(h0, .inr (8, [.ref pg, .int 0, .ref rd, .int re, .ref sk, .ref si, .ref sy, .int sd, .ref ks, .ref ki, .int kp, .ref al, .ref dr]))] H := hP
  have hD : va_D A [(h0, .inr (8, [.ref pg, .int 0, .ref rd, .int re, .ref sk, .ref si, .ref sy, .int sd, .ref ks, .ref ki, .int kp, .ref al, .ref dr]))] := hD
  refine lv_iload_n hx hb dX8_blank_10 rfl (lv_at hl 0 rfl) ?_
  refine W.widen (k := 0) (n := 0) (Nat.le_of_ble_eq_true rfl) (Nat.le_of_ble_eq_true rfl) ?_
  exact k_ri hx hb hr hlocks hS hP hD ⟨rfl, rfl⟩ dX8_blank_11
def po_X8_forget_g (g : GG) (h0 : Nat) (pg : Nat) (rd : Nat) (sk : Nat) (sy : Nat) (ks : Nat) (ki : Nat) (al : Nat) (dr : Nat) (le : Int32) (re : Int32) (sd : Int32) (kp : Int32) (si : Nat) (q1 : Nat) (q2 : Nat) (q3 : Nat) (zs : Int32) : Int32 → va_W → Prop := fun (r : Int32) w => w = [(h0, .inr (8, [.ref pg, .int le, .ref rd, .int re, .ref sk, .ref si, .ref sy, .int sd, .ref ks, .ref ki, .int kp, .ref al, .ref dr])), (si, .inr (4, [.int 0, .ref q1, .ref q2, .ref q3]))] ∧ (zs = r)
theorem q_X8_forget_g_f8 : ∀ w ∈ u_ws RX8 TX8 13, w ∈ wsX8_forget := by decide +kernel
theorem q_X8_forget_g_1 : (Cond.fieldLink RX8 30 "SoundLaws" "sightings" "LSoundLaws$Sightings;") ∈ wsX8_forget := by decide +kernel
theorem q_X8_forget_g_f4 : ∀ w ∈ u_ws RX4 TX4 4, w ∈ wsX8_forget := by decide +kernel
theorem q_X8_forget_g_3 : (Cond.fieldLink RX8 205 "SoundLaws$Sightings" "size" "I") ∈ wsX8_forget := by decide +kernel
set_option maxHeartbeats 1500000 in
set_option maxRecDepth 100000 in
theorem c_X8_forget_g (l : Launch) (g : GG) (h0 : Nat) (pg : Nat) (rd : Nat) (sk : Nat) (sy : Nat) (ks : Nat) (ki : Nat) (al : Nat) (dr : Nat) (le : Int32) (re : Int32) (sd : Int32) (kp : Int32) (si : Nat) (q1 : Nat) (q2 : Nat) (q3 : Nat) (zs : Int32)  (sz : Nat) : MetI l yX8_forget wsX8_forget ({ frames := 1, cells := 0, slots := 0, locals := 20 }) g [.ref h0] [(h0, .inr (8, [.ref pg, .int le, .ref rd, .int re, .ref sk, .ref si, .ref sy, .int sd, .ref ks, .ref ki, .int kp, .ref al, .ref dr])), (si, .inr (4, [.int zs, .ref q1, .ref q2, .ref q3]))] sz (po_X8_forget_g g h0 pg rd sk sy ks ki al dr le re sd kp si q1 q2 q3 zs) 0 0 := by
  refine k_of (l := l) (y := yX8_forget) (ws := wsX8_forget) (rm := { frames := 1, cells := 0, slots := 0, locals := 20 }) (mc := 0) (ms := 0) (av := [.ref h0]) (g := g) (wc := [(h0, .inr (8, [.ref pg, .int le, .ref rd, .int re, .ref sk, .ref si, .ref sy, .int sd, .ref ks, .ref ki, .int kp, .ref al, .ref dr])), (si, .inr (4, [.int zs, .ref q1, .ref q2, .ref q3]))]) (Qc := fun A => va_Qi (po_X8_forget_g g h0 pg rd sk sy ks ki al dr le re sd kp si q1 q2 q3 zs) (bk g A) A) (cc := cX8_forget) (maxL := 2) (ret := (some .int)) (by decide) rfl (Nat.le_of_ble_eq_true rfl) ?_ sz
  intro p e s m below meth c hx hb hr hts hown hlocks hnm hml A hA hE hZ hP hD hS ls hl
  have hown : s.vm.findClass RX8 = some m.cls := hown
  have hl : lv_has ls 2 [(0, .ref h0)] := hl
  refine lv_aload_n hx hb dX8_forget_0 rfl (lv_at hl 0 rfl) ?_
  refine va_get (D := g.1) (ci := 8) (v := .ref si) (C := RX8) (T := TX8) (N := 13) hx hb hts q_X8_forget_g_f8 hown hE.1 hP 0 rfl rfl 5 (by decide) (hts (.fieldLink RX8 30 "SoundLaws" "sightings" "LSoundLaws$Sightings;") q_X8_forget_g_1) (fun _ h9 => h9) rfl dX8_forget_1 ?_
  refine va_get (D := g.1) (ci := 4) (v := .int zs) (C := RX4) (T := TX4) (N := 4) hx hb hts q_X8_forget_g_f4 hown hE.1 hP 1 rfl rfl 0 (by decide) (hts (.fieldLink RX8 205 "SoundLaws$Sightings" "size" "I") q_X8_forget_g_3) (fun _ h9 => h9) rfl dX8_forget_4 ?_
  refine lv_istore_n (lv' := [(1, .int zs), (0, .ref h0)]) hx hb dX8_forget_7 rfl hl (by decide) rfl (fun ls hl => ?_)
  refine lv_aload_n hx hb dX8_forget_8 rfl (lv_at hl 1 rfl) ?_
  refine va_get (D := g.1) (ci := 8) (v := .ref si) (C := RX8) (T := TX8) (N := 13) hx hb hts q_X8_forget_g_f8 hown hE.1 hP 0 rfl rfl 5 (by decide) (hts (.fieldLink RX8 30 "SoundLaws" "sightings" "LSoundLaws$Sightings;") q_X8_forget_g_1) (fun _ h9 => h9) rfl dX8_forget_9 ?_
  refine k_cv (wr := [(h0, .inr (8, [.ref pg, .int le, .ref rd, .int re, .ref sk, .ref si, .ref sy, .int sd, .ref ks, .ref ki, .int kp, .ref al, .ref dr]))]) hP hD hS hA [1] [0] rfl rfl (by decide) (by decide) (va_runV (As := []) (rest := []) ⟨hx, hb, hml, hown, hts⟩ (c_X4_clear l g si q1 q2 q3 zs  s.heap.size) (cwV 0 hts gX8_forget_X4_clear rfl rfl rfl (by decide +kernel) ⟨Nat.le_of_ble_eq_true rfl, Nat.le_of_ble_eq_true rfl⟩) (k_preV hE hZ hP hD hS hA [1] rfl (by decide) (va_recv hE.1 hP (ci := 4) (q0 := 1) rfl rfl)) rfl rfl hl.1 rfl (lv_room (Nat.le_of_ble_eq_true rfl)) dX8_forget_12 ⟨Nat.le_of_ble_eq_true rfl, Nat.le_of_ble_eq_true rfl⟩) (fun w1 H locs hw hP hD hS => ?_)
  obtain rfl := hw
  have hP : va_P g.1 vwCl [(h0, .inr (8, [.ref pg, .int le, .ref rd, .int re, .ref sk, .ref si, .ref sy, .int sd, .ref ks, .ref ki, .int kp, .ref al, .ref dr])), (si, .inr (4, [.int 0, .ref q1, .ref q2, .ref q3]))] H := hP
  have hD : va_D A [(h0, .inr (8, [.ref pg, .int le, .ref rd, .int re, .ref sk, .ref si, .ref sy, .int sd, .ref ks, .ref ki, .int kp, .ref al, .ref dr])), (si, .inr (4, [.int 0, .ref q1, .ref q2, .ref q3]))] := hD
  refine lv_iload_n hx hb dX8_forget_15 rfl (lv_at hl 0 rfl) ?_
  refine W.widen (k := 0) (n := 0) (Nat.le_of_ble_eq_true rfl) (Nat.le_of_ble_eq_true rfl) ?_
  exact k_ri hx hb hr hlocks hS hP hD ⟨rfl, rfl⟩ dX8_forget_16
def po_X4_add_g (g : GG) (q1 : Nat) (q2 : Nat) (q3 : Nat) (si : Nat) (A1 : Nat → Int32) (A2 : Nat → Int32) (A3 : Nat → Int32) (n : Nat) (p1 : Int32) (p2 : Int32) (p3 : Int32) : va_W → Prop := fun w => w = [(si, .inr (4, [.int (nI (n + 1)), .ref q1, .ref q2, .ref q3])), (q1, ai g 6 (upd A1 n p1)), (q2, ai g 6 (upd A2 n p2)), (q3, az g 6 (upd A3 n (vp_nar .boolean p3)))]
theorem q_X4_add_g_f4 : ∀ w ∈ u_ws RX4 TX4 4, w ∈ wsX4_add := by decide +kernel
theorem q_X4_add_g_1 : (Cond.fieldLink RX4 9 "SoundLaws$Sightings" "sets" "[I") ∈ wsX4_add := by decide +kernel
theorem q_X4_add_g_2 : (Cond.fieldLink RX4 22 "SoundLaws$Sightings" "size" "I") ∈ wsX4_add := by decide +kernel
theorem q_X4_add_g_3 : (Cond.fieldLink RX4 15 "SoundLaws$Sightings" "questions" "[I") ∈ wsX4_add := by decide +kernel
theorem q_X4_add_g_4 : (Cond.fieldLink RX4 18 "SoundLaws$Sightings" "answers" "[Z") ∈ wsX4_add := by decide +kernel
set_option maxHeartbeats 1500000 in
set_option maxRecDepth 100000 in
theorem c_X4_add_g (l : Launch) (g : GG) (q1 : Nat) (q2 : Nat) (q3 : Nat) (si : Nat) (A1 : Nat → Int32) (A2 : Nat → Int32) (A3 : Nat → Int32) (n : Nat) (p1 : Int32) (p2 : Int32) (p3 : Int32) (hn : n < 6) (sz : Nat) : MetV l yX4_add wsX4_add ({ frames := 0, cells := 0, slots := 0, locals := 0 }) g [.ref si, .int p1, .int p2, .int p3] [(si, .inr (4, [.int (nI n), .ref q1, .ref q2, .ref q3])), (q1, ai g 6 A1), (q2, ai g 6 A2), (q3, az g 6 A3)] sz (po_X4_add_g g q1 q2 q3 si A1 A2 A3 n p1 p2 p3) 0 0 := by
  refine k_of (l := l) (y := yX4_add) (ws := wsX4_add) (rm := { frames := 0, cells := 0, slots := 0, locals := 0 }) (mc := 0) (ms := 0) (av := [.ref si, .int p1, .int p2, .int p3]) (g := g) (wc := [(si, .inr (4, [.int (nI n), .ref q1, .ref q2, .ref q3])), (q1, ai g 6 A1), (q2, ai g 6 A2), (q3, az g 6 A3)]) (Qc := fun A => va_Qv (po_X4_add_g g q1 q2 q3 si A1 A2 A3 n p1 p2 p3) (bk g A) A) (cc := cX4_add) (maxL := 4) (ret := none) (by decide) rfl (Nat.le_of_ble_eq_true rfl) ?_ sz
  intro p e s m below meth c hx hb hr hts hown hlocks hnm hml A hA hE hZ hP hD hS ls hl
  have hown : s.vm.findClass RX4 = some m.cls := hown
  have hl : lv_has ls 4 [(0, .ref si), (1, .int p1), (2, .int p2), (3, .int p3)] := hl
  refine lv_aload_n hx hb dX4_add_0 rfl (lv_at hl 0 rfl) ?_
  refine va_get (D := g.1) (ci := 4) (v := .ref q1) (C := RX4) (T := TX4) (N := 4) hx hb hts q_X4_add_g_f4 hown hE.1 hP 0 rfl rfl 1 (by decide) (hts (.fieldLink RX4 9 "SoundLaws$Sightings" "sets" "[I") q_X4_add_g_1) (fun _ h9 => h9) rfl dX4_add_1 ?_
  refine lv_aload_n hx hb dX4_add_4 rfl (lv_at hl 0 rfl) ?_
  refine va_get (D := g.1) (ci := 4) (v := .int (nI n)) (C := RX4) (T := TX4) (N := 4) hx hb hts q_X4_add_g_f4 hown hE.1 hP 0 rfl rfl 0 (by decide) (hts (.fieldLink RX4 22 "SoundLaws$Sightings" "size" "I") q_X4_add_g_2) (fun _ h9 => h9) rfl dX4_add_5 ?_
  refine lv_iload_n hx hb dX4_add_8 rfl (lv_at hl 1 rfl) ?_
  refine k_ast (x := p1) n rfl (by omega) hx hb hE hP hD hS 1 rfl (by decide) dX4_add_9 (fun H locs hP hD hS => ?_)
  have hP : va_P g.1 vwCl [(si, .inr (4, [.int (nI n), .ref q1, .ref q2, .ref q3])), (q1, ai g 6 (upd A1 n p1)), (q2, ai g 6 A2), (q3, az g 6 A3)] H := hP
  have hD : va_D A [(si, .inr (4, [.int (nI n), .ref q1, .ref q2, .ref q3])), (q1, ai g 6 (upd A1 n p1)), (q2, ai g 6 A2), (q3, az g 6 A3)] := hD
  refine lv_aload_n hx hb dX4_add_10 rfl (lv_at hl 0 rfl) ?_
  refine va_get (D := g.1) (ci := 4) (v := .ref q2) (C := RX4) (T := TX4) (N := 4) hx hb hts q_X4_add_g_f4 hown hE.1 hP 0 rfl rfl 2 (by decide) (hts (.fieldLink RX4 15 "SoundLaws$Sightings" "questions" "[I") q_X4_add_g_3) (fun _ h9 => h9) rfl dX4_add_11 ?_
  refine lv_aload_n hx hb dX4_add_14 rfl (lv_at hl 0 rfl) ?_
  refine va_get (D := g.1) (ci := 4) (v := .int (nI n)) (C := RX4) (T := TX4) (N := 4) hx hb hts q_X4_add_g_f4 hown hE.1 hP 0 rfl rfl 0 (by decide) (hts (.fieldLink RX4 22 "SoundLaws$Sightings" "size" "I") q_X4_add_g_2) (fun _ h9 => h9) rfl dX4_add_15 ?_
  refine lv_iload_n hx hb dX4_add_18 rfl (lv_at hl 2 rfl) ?_
  refine k_ast (x := p2) n rfl (by omega) hx hb hE hP hD hS 2 rfl (by decide) dX4_add_19 (fun H locs hP hD hS => ?_)
  have hP : va_P g.1 vwCl [(si, .inr (4, [.int (nI n), .ref q1, .ref q2, .ref q3])), (q1, ai g 6 (upd A1 n p1)), (q2, ai g 6 (upd A2 n p2)), (q3, az g 6 A3)] H := hP
  have hD : va_D A [(si, .inr (4, [.int (nI n), .ref q1, .ref q2, .ref q3])), (q1, ai g 6 (upd A1 n p1)), (q2, ai g 6 (upd A2 n p2)), (q3, az g 6 A3)] := hD
  refine lv_aload_n hx hb dX4_add_20 rfl (lv_at hl 0 rfl) ?_
  refine va_get (D := g.1) (ci := 4) (v := .ref q3) (C := RX4) (T := TX4) (N := 4) hx hb hts q_X4_add_g_f4 hown hE.1 hP 0 rfl rfl 3 (by decide) (hts (.fieldLink RX4 18 "SoundLaws$Sightings" "answers" "[Z") q_X4_add_g_4) (fun _ h9 => h9) rfl dX4_add_21 ?_
  refine lv_aload_n hx hb dX4_add_24 rfl (lv_at hl 0 rfl) ?_
  refine va_get (D := g.1) (ci := 4) (v := .int (nI n)) (C := RX4) (T := TX4) (N := 4) hx hb hts q_X4_add_g_f4 hown hE.1 hP 0 rfl rfl 0 (by decide) (hts (.fieldLink RX4 22 "SoundLaws$Sightings" "size" "I") q_X4_add_g_2) (fun _ h9 => h9) rfl dX4_add_25 ?_
  refine lv_iload_n hx hb dX4_add_28 rfl (lv_at hl 3 rfl) ?_
  refine k_zst (x := p3) n rfl (by omega) hx hb hE hP hD hS 3 rfl (by decide) dX4_add_29 (fun H locs hP hD hS => ?_)
  have hP : va_P g.1 vwCl [(si, .inr (4, [.int (nI n), .ref q1, .ref q2, .ref q3])), (q1, ai g 6 (upd A1 n p1)), (q2, ai g 6 (upd A2 n p2)), (q3, az g 6 (upd A3 n (vp_nar .boolean p3)))] H := hP
  have hD : va_D A [(si, .inr (4, [.int (nI n), .ref q1, .ref q2, .ref q3])), (q1, ai g 6 (upd A1 n p1)), (q2, ai g 6 (upd A2 n p2)), (q3, az g 6 (upd A3 n (vp_nar .boolean p3)))] := hD
  refine lv_aload_n hx hb dX4_add_30 rfl (lv_at hl 0 rfl) ?_
  refine lv_dup hx hb dX4_add_31 rfl ?_
  refine va_get (D := g.1) (ci := 4) (v := .int (nI n)) (C := RX4) (T := TX4) (N := 4) hx hb hts q_X4_add_g_f4 hown hE.1 hP 0 rfl rfl 0 (by decide) (hts (.fieldLink RX4 22 "SoundLaws$Sightings" "size" "I") q_X4_add_g_2) (fun _ h9 => h9) rfl dX4_add_32 ?_
  refine lv_iconst (v := 1) hx hb dX4_add_35 (by decide) ?_
  refine lv_iadd hx hb dX4_add_36 ?_
  refine lv_topi (fun x_1 ex_1 => ?_)
  obtain rfl : x_1 = nI (n + 1) := by rw [ex_1]; exact nI_1 n
  refine va_put (D := g.1) (ci := 4) (v := .int (nI (n + 1))) (ty := .int) (C := RX4) (T := TX4) (N := 4) hx hb hts q_X4_add_g_f4 tyX4 tyX4_ok nmX4 hown hE.1 hP hD hS 0 rfl rfl 0 (by decide) (hts (.fieldLink RX4 22 "SoundLaws$Sightings" "size" "I") q_X4_add_g_2) (fun _ h9 => h9) rfl (by decide +kernel) rfl rfl (Nat.le_of_ble_eq_true rfl) dX4_add_37 (fun H locs hP hD hS => ?_)
  have hP : va_P g.1 vwCl [(si, .inr (4, [.int (nI (n + 1)), .ref q1, .ref q2, .ref q3])), (q1, ai g 6 (upd A1 n p1)), (q2, ai g 6 (upd A2 n p2)), (q3, az g 6 (upd A3 n (vp_nar .boolean p3)))] H := hP
  have hD : va_D A [(si, .inr (4, [.int (nI (n + 1)), .ref q1, .ref q2, .ref q3])), (q1, ai g 6 (upd A1 n p1)), (q2, ai g 6 (upd A2 n p2)), (q3, az g 6 (upd A3 n (vp_nar .boolean p3)))] := hD
  refine W.widen (k := 0) (n := 0) (Nat.le_of_ble_eq_true rfl) (Nat.le_of_ble_eq_true rfl) ?_
  exact k_rv hx hb hr hlocks hS hP hD rfl dX4_add_40
def po_X4_become_g (g : GG) (q1 : Nat) (q2 : Nat) (q3 : Nat) (si : Nat) (A1 : Nat → Int32) (A2 : Nat → Int32) (A3 : Nat → Int32) (r1 : Nat) (r2 : Nat) (r3 : Nat) (sj : Nat) (B1 : Nat → Int32) (B2 : Nat → Int32) (B3 : Nat → Int32) (zs : Int32) (n : Nat) : va_W → Prop := fun w => ∃ (C1 : Nat → Int32) (C2 : Nat → Int32) (C3 : Nat → Int32), w = [(si, .inr (4, [.int (nI n), .ref q1, .ref q2, .ref q3])), (q1, ai g 6 C1), (q2, ai g 6 C2), (q3, az g 6 C3), (sj, .inr (4, [.int (nI n), .ref r1, .ref r2, .ref r3])), (r1, ai g 6 B1), (r2, ai g 6 B2), (r3, az g 6 B3)] ∧ (∀ i, i < n → C1 i = B1 i) ∧ (∀ i, i < n → C2 i = B2 i) ∧ (∀ i, i < n → C3 i = B3 i)
theorem q_X4_become_g_f4 : ∀ w ∈ u_ws RX4 TX4 4, w ∈ wsX4_become := by decide +kernel
theorem q_X4_become_g_1 : (Cond.fieldLink RX4 22 "SoundLaws$Sightings" "size" "I") ∈ wsX4_become := by decide +kernel
theorem q_X4_become_g_2 : (Cond.fieldLink RX4 9 "SoundLaws$Sightings" "sets" "[I") ∈ wsX4_become := by decide +kernel
theorem q_X4_become_g_3 : (Cond.fieldLink RX4 15 "SoundLaws$Sightings" "questions" "[I") ∈ wsX4_become := by decide +kernel
theorem q_X4_become_g_4 : (Cond.fieldLink RX4 18 "SoundLaws$Sightings" "answers" "[Z") ∈ wsX4_become := by decide +kernel
set_option maxHeartbeats 1500000 in
set_option maxRecDepth 100000 in
theorem c_X4_become_g (l : Launch) (g : GG) (q1 : Nat) (q2 : Nat) (q3 : Nat) (si : Nat) (A1 : Nat → Int32) (A2 : Nat → Int32) (A3 : Nat → Int32) (r1 : Nat) (r2 : Nat) (r3 : Nat) (sj : Nat) (B1 : Nat → Int32) (B2 : Nat → Int32) (B3 : Nat → Int32) (zs : Int32) (n : Nat) (hn : n ≤ 6) (h3 : ∀ i, i < n → vp_nar .boolean (B3 i) = B3 i) (sz : Nat) : MetV l yX4_become wsX4_become ({ frames := 1, cells := 0, slots := 0, locals := 23 }) g [.ref si, .ref sj] [(si, .inr (4, [.int zs, .ref q1, .ref q2, .ref q3])), (q1, ai g 6 A1), (q2, ai g 6 A2), (q3, az g 6 A3), (sj, .inr (4, [.int (nI n), .ref r1, .ref r2, .ref r3])), (r1, ai g 6 B1), (r2, ai g 6 B2), (r3, az g 6 B3)] sz (po_X4_become_g g q1 q2 q3 si A1 A2 A3 r1 r2 r3 sj B1 B2 B3 zs n) 0 0 := by
  refine k_of (l := l) (y := yX4_become) (ws := wsX4_become) (rm := { frames := 1, cells := 0, slots := 0, locals := 23 }) (mc := 0) (ms := 0) (av := [.ref si, .ref sj]) (g := g) (wc := [(si, .inr (4, [.int zs, .ref q1, .ref q2, .ref q3])), (q1, ai g 6 A1), (q2, ai g 6 A2), (q3, az g 6 A3), (sj, .inr (4, [.int (nI n), .ref r1, .ref r2, .ref r3])), (r1, ai g 6 B1), (r2, ai g 6 B2), (r3, az g 6 B3)]) (Qc := fun A => va_Qv (po_X4_become_g g q1 q2 q3 si A1 A2 A3 r1 r2 r3 sj B1 B2 B3 zs n) (bk g A) A) (cc := cX4_become) (maxL := 3) (ret := none) (by decide) rfl (Nat.le_of_ble_eq_true rfl) ?_ sz
  intro p e s m below meth c hx hb hr hts hown hlocks hnm hml A hA hE hZ hP hD hS ls hl
  have hown : s.vm.findClass RX4 = some m.cls := hown
  have hl : lv_has ls 3 [(0, .ref si), (1, .ref sj)] := hl
  refine lv_aload_n hx hb dX4_become_0 rfl (lv_at hl 0 rfl) ?_
  refine lv_iconst (v := 0) hx hb dX4_become_1 (by decide) ?_
  refine va_put (D := g.1) (ci := 4) (v := .int 0) (ty := .int) (C := RX4) (T := TX4) (N := 4) hx hb hts q_X4_become_g_f4 tyX4 tyX4_ok nmX4 hown hE.1 hP hD hS 0 rfl rfl 0 (by decide) (hts (.fieldLink RX4 22 "SoundLaws$Sightings" "size" "I") q_X4_become_g_1) (fun _ h9 => h9) rfl (by decide +kernel) rfl rfl (Nat.le_of_ble_eq_true rfl) dX4_become_2 (fun H locs hP hD hS => ?_)
  have hP : va_P g.1 vwCl [(si, .inr (4, [.int 0, .ref q1, .ref q2, .ref q3])), (q1, ai g 6 A1), (q2, ai g 6 A2), (q3, az g 6 A3), (sj, .inr (4, [.int (nI n), .ref r1, .ref r2, .ref r3])), (r1, ai g 6 B1), (r2, ai g 6 B2), (r3, az g 6 B3)] H := hP
  have hD : va_D A [(si, .inr (4, [.int 0, .ref q1, .ref q2, .ref q3])), (q1, ai g 6 A1), (q2, ai g 6 A2), (q3, az g 6 A3), (sj, .inr (4, [.int (nI n), .ref r1, .ref r2, .ref r3])), (r1, ai g 6 B1), (r2, ai g 6 B2), (r3, az g 6 B3)] := hD
  refine lv_iconst (v := 0) hx hb dX4_become_5 (by decide) ?_
  refine lv_istore_n (lv' := [(2, .int 0), (0, .ref si), (1, .ref sj)]) hx hb dX4_become_6 rfl hl (by decide) rfl (fun ls hl => ?_)
  have loop7 : ∀ (fu : Nat) (j : Nat) (C1 C2 C3 : Nat → Int32), (hj : j ≤ n) → (e1 : ∀ i, i < j → C1 i = B1 i) → (e2 : ∀ i, i < j → C2 i = B2 i) → (e3 : ∀ i, i < j → C3 i = B3 i) → n - j < fu → ∀ (H : Heap) (locs : List Loc) (ls : Array Slot), va_P g.1 vwCl [(si, .inr (4, [.int (nI j), .ref q1, .ref q2, .ref q3])), (q1, ai g 6 C1), (q2, ai g 6 C2), (q3, az g 6 C3), (sj, .inr (4, [.int (nI n), .ref r1, .ref r2, .ref r3])), (r1, ai g 6 B1), (r2, ai g 6 B2), (r3, az g 6 B3)] H → va_D A [(si, .inr (4, [.int (nI j), .ref q1, .ref q2, .ref q3])), (q1, ai g 6 C1), (q2, ai g 6 C2), (q3, az g 6 C3), (sj, .inr (4, [.int (nI n), .ref r1, .ref r2, .ref r3])), (r1, ai g 6 B1), (r2, ai g 6 B2), (r3, az g 6 B3)] → va_S A s.heap H locs → lv_has ls 3 [(0, .ref si), (1, .ref sj), (2, .int (nI j))] → W p l e ({ frames := 1, cells := 0, slots := 0, locals := 23 }) s m [.ref si, .ref sj].toArray below meth c H locs 0 0 (MQ below (va_Qv (po_X4_become_g g q1 q2 q3 si A1 A2 A3 r1 r2 r3 sj B1 B2 B3 zs n) (bk g A) A) [.ref si, .ref sj].toArray s 0 0 A) (F0 m 7 ls []) := by
    intro fu
    induction fu with
    | zero => intro j C1 C2 C3 hj e1 e2 e3 hfu; exact absurd hfu (Nat.not_lt_zero _)
    | succ fu ih =>
      intro j C1 C2 C3 hj e1 e2 e3 hfu H locs ls hP hD hS hl
      have ih7 := ih
      refine lv_iload_n hx hb dX4_become_7 rfl (lv_at hl 2 rfl) ?_
      refine lv_aload_n hx hb dX4_become_8 rfl (lv_at hl 1 rfl) ?_
      refine va_get (D := g.1) (ci := 4) (v := .int (nI n)) (C := RX4) (T := TX4) (N := 4) hx hb hts q_X4_become_g_f4 hown hE.1 hP 4 rfl rfl 0 (by decide) (hts (.fieldLink RX4 22 "SoundLaws$Sightings" "size" "I") q_X4_become_g_1) (fun _ h9 => h9) rfl dX4_become_9 ?_
      refine lv_icmp_ge (tgt := 43) hx hb dX4_become_12 (by decide) (fun c12_1 => ?_) (fun c12_1 => ?_)
      · skip
        have hj9 := ge_of_le (k := n) (n := j) (by omega) (by omega) c12_1; obtain rfl : j = n := by omega
        refine W.widen (k := 0) (n := 0) (Nat.le_of_ble_eq_true rfl) (Nat.le_of_ble_eq_true rfl) ?_
        exact k_rv hx hb hr hlocks hS hP hD ⟨C1, C2, C3, rfl, e1, e2, e3⟩ dX4_become_43
      · skip
        have hj9 := lt_of_nle (k := n) (n := j) (by omega) (by omega) c12_1
        refine lv_aload_n hx hb dX4_become_15 rfl (lv_at hl 0 rfl) ?_
        refine lv_aload_n hx hb dX4_become_16 rfl (lv_at hl 1 rfl) ?_
        refine va_get (D := g.1) (ci := 4) (v := .ref r1) (C := RX4) (T := TX4) (N := 4) hx hb hts q_X4_become_g_f4 hown hE.1 hP 4 rfl rfl 1 (by decide) (hts (.fieldLink RX4 9 "SoundLaws$Sightings" "sets" "[I") q_X4_become_g_2) (fun _ h9 => h9) rfl dX4_become_17 ?_
        refine lv_iload_n hx hb dX4_become_20 rfl (lv_at hl 2 rfl) ?_
        refine k_ald j rfl (by omega) hx hb hE hP 5 rfl (by decide) dX4_become_21 ?_
        refine lv_aload_n hx hb dX4_become_22 rfl (lv_at hl 1 rfl) ?_
        refine va_get (D := g.1) (ci := 4) (v := .ref r2) (C := RX4) (T := TX4) (N := 4) hx hb hts q_X4_become_g_f4 hown hE.1 hP 4 rfl rfl 2 (by decide) (hts (.fieldLink RX4 15 "SoundLaws$Sightings" "questions" "[I") q_X4_become_g_3) (fun _ h9 => h9) rfl dX4_become_23 ?_
        refine lv_iload_n hx hb dX4_become_26 rfl (lv_at hl 2 rfl) ?_
        refine k_ald j rfl (by omega) hx hb hE hP 6 rfl (by decide) dX4_become_27 ?_
        refine lv_aload_n hx hb dX4_become_28 rfl (lv_at hl 1 rfl) ?_
        refine va_get (D := g.1) (ci := 4) (v := .ref r3) (C := RX4) (T := TX4) (N := 4) hx hb hts q_X4_become_g_f4 hown hE.1 hP 4 rfl rfl 3 (by decide) (hts (.fieldLink RX4 18 "SoundLaws$Sightings" "answers" "[Z") q_X4_become_g_4) (fun _ h9 => h9) rfl dX4_become_29 ?_
        refine lv_iload_n hx hb dX4_become_32 rfl (lv_at hl 2 rfl) ?_
        refine k_zld j rfl (by omega) hx hb hE hP 7 rfl (by decide) dX4_become_33 ?_
        refine k_cv (wr := [(sj, .inr (4, [.int (nI n), .ref r1, .ref r2, .ref r3])), (r1, ai g 6 B1), (r2, ai g 6 B2), (r3, az g 6 B3)]) hP hD hS hA [0, 1, 2, 3] [4, 5, 6, 7] rfl rfl (by decide) (by decide) (va_runV (As := [.int (B1 j), .int (B2 j), .int (B3 j)]) (rest := []) ⟨hx, hb, hml, hown, hts⟩ (c_X4_add_g l g q1 q2 q3 si C1 C2 C3 j (B1 j) (B2 j) (B3 j) (by first | assumption | omega) H.size) (cwV 3 hts gX4_become_X4_add rfl rfl rfl (by decide +kernel) ⟨Nat.le_of_ble_eq_true rfl, Nat.le_of_ble_eq_true rfl⟩) (k_preV hE hZ hP hD hS hA [0, 1, 2, 3] rfl (by decide) (va_recv hE.1 hP (ci := 4) (q0 := 0) rfl rfl)) rfl rfl hl.1 rfl (lv_room (Nat.le_of_ble_eq_true rfl)) dX4_become_34 ⟨Nat.le_of_ble_eq_true rfl, Nat.le_of_ble_eq_true rfl⟩) (fun w1 H locs hw hP hD hS => ?_)
        obtain rfl := hw
        have hP : va_P g.1 vwCl [(sj, .inr (4, [.int (nI n), .ref r1, .ref r2, .ref r3])), (r1, ai g 6 B1), (r2, ai g 6 B2), (r3, az g 6 B3), (si, .inr (4, [.int (nI (j + 1)), .ref q1, .ref q2, .ref q3])), (q1, ai g 6 (upd C1 j (B1 j))), (q2, ai g 6 (upd C2 j (B2 j))), (q3, az g 6 (upd C3 j (vp_nar .boolean (B3 j))))] H := hP
        have hD : va_D A [(sj, .inr (4, [.int (nI n), .ref r1, .ref r2, .ref r3])), (r1, ai g 6 B1), (r2, ai g 6 B2), (r3, az g 6 B3), (si, .inr (4, [.int (nI (j + 1)), .ref q1, .ref q2, .ref q3])), (q1, ai g 6 (upd C1 j (B1 j))), (q2, ai g 6 (upd C2 j (B2 j))), (q3, az g 6 (upd C3 j (vp_nar .boolean (B3 j))))] := hD
        refine lv_iinc (v := (nI (j + 1))) (lv' := [(2, .int (nI (j + 1))), (0, .ref si), (1, .ref sj)]) hx hb dX4_become_37 hl (k := 2) rfl (nI_1 _) (by decide) rfl (fun ls hl => ?_)
        refine lv_goto (tgt := 7) hx hb dX4_become_40 (by decide) ?_
        exact ih7 (j + 1) _ _ _ (by omega) (up_s e1 rfl) (up_s e2 rfl) (up_s e3 (h3 j hj9)) (by omega) _ _ _ (hP.sub [4, 5, 6, 7, 0, 1, 2, 3] rfl) (hD.sub [4, 5, 6, 7, 0, 1, 2, 3] (by decide) rfl) hS (lv_sub hl [1, 2, 0] rfl)
  exact loop7 _ 0 A1 A2 A3 (Nat.zero_le n) (fun i h => absurd h (Nat.not_lt_zero i)) (fun i h => absurd h (Nat.not_lt_zero i)) (fun i h => absurd h (Nat.not_lt_zero i)) (Nat.lt_succ_self _) _ _ _ hP hD hS (lv_sub hl [1, 2, 0] rfl)
def po_X5_become_g (g : GG) (sk : Nat) (s1 : Nat) (s2 : Nat) (s3 : Nat) (K : Nat → Int32) (L : Nat → Int32) (V : Nat → Int32) (so : Nat) (o1 : Nat) (o2 : Nat) (o3 : Nat) (K2 : Nat → Int32) (L2 : Nat → Int32) (V2 : Nat → Int32) (z1 : Int32) (u1 : Int32) (z2 : Int32) (u2 : Int32) : va_W → Prop := fun w => w = [(sk, .inr (5, [.int z2, .int u2, .ref s1, .ref s2, .ref s3])), (s1, ai g 6 (va_cpy K2 K 0 0 6)), (s2, ai g 6 (va_cpy L2 L 0 0 6)), (s3, ai g 96 (va_cpy V2 V 0 0 96)), (so, .inr (5, [.int z2, .int u2, .ref o1, .ref o2, .ref o3])), (o1, ai g 6 K2), (o2, ai g 6 L2), (o3, ai g 96 V2)]
theorem q_X5_become_g_f5 : ∀ w ∈ u_ws RX5 TX5 5, w ∈ wsX5_become := by decide +kernel
theorem q_X5_become_g_1 : (Cond.fieldLink RX5 21 "SoundLaws$Stock" "size" "I") ∈ wsX5_become := by decide +kernel
theorem q_X5_become_g_2 : (Cond.fieldLink RX5 25 "SoundLaws$Stock" "tongues" "I") ∈ wsX5_become := by decide +kernel
theorem q_X5_become_g_3 : (Cond.fieldLink RX5 9 "SoundLaws$Stock" "kinds" "[I") ∈ wsX5_become := by decide +kernel
theorem q_X5_become_g_4 : (Cond.methodLink RX5 28 arraycopyName) ∈ wsX5_become := by decide +kernel
theorem q_X5_become_g_5 : (Cond.native arraycopyName) ∈ wsX5_become := by decide +kernel
theorem q_X5_become_g_6 : (Cond.static arraycopyName) ∈ wsX5_become := by decide +kernel
theorem q_X5_become_g_7 : (Cond.initialized "java/lang/System") ∈ wsX5_become := by decide +kernel
theorem q_X5_become_g_8 : (Cond.fieldLink RX5 15 "SoundLaws$Stock" "lengths" "[I") ∈ wsX5_become := by decide +kernel
theorem q_X5_become_g_9 : (Cond.fieldLink RX5 18 "SoundLaws$Stock" "words" "[I") ∈ wsX5_become := by decide +kernel
set_option maxHeartbeats 1500000 in
set_option maxRecDepth 100000 in
theorem c_X5_become_g (l : Launch) (g : GG) (sk : Nat) (s1 : Nat) (s2 : Nat) (s3 : Nat) (K : Nat → Int32) (L : Nat → Int32) (V : Nat → Int32) (so : Nat) (o1 : Nat) (o2 : Nat) (o3 : Nat) (K2 : Nat → Int32) (L2 : Nat → Int32) (V2 : Nat → Int32) (z1 : Int32) (u1 : Int32) (z2 : Int32) (u2 : Int32)  (sz : Nat) : MetV l yX5_become wsX5_become ({ frames := 1, cells := 0, slots := 0, locals := 40 }) g [.ref sk, .ref so] [(sk, .inr (5, [.int z1, .int u1, .ref s1, .ref s2, .ref s3])), (s1, ai g 6 K), (s2, ai g 6 L), (s3, ai g 96 V), (so, .inr (5, [.int z2, .int u2, .ref o1, .ref o2, .ref o3])), (o1, ai g 6 K2), (o2, ai g 6 L2), (o3, ai g 96 V2)] sz (po_X5_become_g g sk s1 s2 s3 K L V so o1 o2 o3 K2 L2 V2 z1 u1 z2 u2) 0 0 := by
  refine k_of (l := l) (y := yX5_become) (ws := wsX5_become) (rm := { frames := 1, cells := 0, slots := 0, locals := 40 }) (mc := 0) (ms := 0) (av := [.ref sk, .ref so]) (g := g) (wc := [(sk, .inr (5, [.int z1, .int u1, .ref s1, .ref s2, .ref s3])), (s1, ai g 6 K), (s2, ai g 6 L), (s3, ai g 96 V), (so, .inr (5, [.int z2, .int u2, .ref o1, .ref o2, .ref o3])), (o1, ai g 6 K2), (o2, ai g 6 L2), (o3, ai g 96 V2)]) (Qc := fun A => va_Qv (po_X5_become_g g sk s1 s2 s3 K L V so o1 o2 o3 K2 L2 V2 z1 u1 z2 u2) (bk g A) A) (cc := cX5_become) (maxL := 2) (ret := none) (by decide) rfl (Nat.le_of_ble_eq_true rfl) ?_ sz
  intro p e s m below meth c hx hb hr hts hown hlocks hnm hml A hA hE hZ hP hD hS ls hl
  have hown : s.vm.findClass RX5 = some m.cls := hown
  have hl : lv_has ls 2 [(0, .ref sk), (1, .ref so)] := hl
  refine lv_aload_n hx hb dX5_become_0 rfl (lv_at hl 0 rfl) ?_
  refine lv_aload_n hx hb dX5_become_1 rfl (lv_at hl 1 rfl) ?_
  refine va_get (D := g.1) (ci := 5) (v := .int z2) (C := RX5) (T := TX5) (N := 5) hx hb hts q_X5_become_g_f5 hown hE.1 hP 4 rfl rfl 0 (by decide) (hts (.fieldLink RX5 21 "SoundLaws$Stock" "size" "I") q_X5_become_g_1) (fun _ h9 => h9) rfl dX5_become_2 ?_
  refine va_put (D := g.1) (ci := 5) (v := .int z2) (ty := .int) (C := RX5) (T := TX5) (N := 5) hx hb hts q_X5_become_g_f5 tyX5 tyX5_ok nmX5 hown hE.1 hP hD hS 0 rfl rfl 0 (by decide) (hts (.fieldLink RX5 21 "SoundLaws$Stock" "size" "I") q_X5_become_g_1) (fun _ h9 => h9) rfl (by decide +kernel) rfl rfl (Nat.le_of_ble_eq_true rfl) dX5_become_5 (fun H locs hP hD hS => ?_)
  have hP : va_P g.1 vwCl [(sk, .inr (5, [.int z2, .int u1, .ref s1, .ref s2, .ref s3])), (s1, ai g 6 K), (s2, ai g 6 L), (s3, ai g 96 V), (so, .inr (5, [.int z2, .int u2, .ref o1, .ref o2, .ref o3])), (o1, ai g 6 K2), (o2, ai g 6 L2), (o3, ai g 96 V2)] H := hP
  have hD : va_D A [(sk, .inr (5, [.int z2, .int u1, .ref s1, .ref s2, .ref s3])), (s1, ai g 6 K), (s2, ai g 6 L), (s3, ai g 96 V), (so, .inr (5, [.int z2, .int u2, .ref o1, .ref o2, .ref o3])), (o1, ai g 6 K2), (o2, ai g 6 L2), (o3, ai g 96 V2)] := hD
  refine lv_aload_n hx hb dX5_become_8 rfl (lv_at hl 0 rfl) ?_
  refine lv_aload_n hx hb dX5_become_9 rfl (lv_at hl 1 rfl) ?_
  refine va_get (D := g.1) (ci := 5) (v := .int u2) (C := RX5) (T := TX5) (N := 5) hx hb hts q_X5_become_g_f5 hown hE.1 hP 4 rfl rfl 1 (by decide) (hts (.fieldLink RX5 25 "SoundLaws$Stock" "tongues" "I") q_X5_become_g_2) (fun _ h9 => h9) rfl dX5_become_10 ?_
  refine va_put (D := g.1) (ci := 5) (v := .int u2) (ty := .int) (C := RX5) (T := TX5) (N := 5) hx hb hts q_X5_become_g_f5 tyX5 tyX5_ok nmX5 hown hE.1 hP hD hS 0 rfl rfl 1 (by decide) (hts (.fieldLink RX5 25 "SoundLaws$Stock" "tongues" "I") q_X5_become_g_2) (fun _ h9 => h9) rfl (by decide +kernel) rfl rfl (Nat.le_of_ble_eq_true rfl) dX5_become_13 (fun H locs hP hD hS => ?_)
  have hP : va_P g.1 vwCl [(sk, .inr (5, [.int z2, .int u2, .ref s1, .ref s2, .ref s3])), (s1, ai g 6 K), (s2, ai g 6 L), (s3, ai g 96 V), (so, .inr (5, [.int z2, .int u2, .ref o1, .ref o2, .ref o3])), (o1, ai g 6 K2), (o2, ai g 6 L2), (o3, ai g 96 V2)] H := hP
  have hD : va_D A [(sk, .inr (5, [.int z2, .int u2, .ref s1, .ref s2, .ref s3])), (s1, ai g 6 K), (s2, ai g 6 L), (s3, ai g 96 V), (so, .inr (5, [.int z2, .int u2, .ref o1, .ref o2, .ref o3])), (o1, ai g 6 K2), (o2, ai g 6 L2), (o3, ai g 96 V2)] := hD
  refine lv_aload_n hx hb dX5_become_16 rfl (lv_at hl 1 rfl) ?_
  refine va_get (D := g.1) (ci := 5) (v := .ref o1) (C := RX5) (T := TX5) (N := 5) hx hb hts q_X5_become_g_f5 hown hE.1 hP 4 rfl rfl 2 (by decide) (hts (.fieldLink RX5 9 "SoundLaws$Stock" "kinds" "[I") q_X5_become_g_3) (fun _ h9 => h9) rfl dX5_become_17 ?_
  refine lv_iconst (v := 0) hx hb dX5_become_20 (by decide) ?_
  refine lv_aload_n hx hb dX5_become_21 rfl (lv_at hl 0 rfl) ?_
  refine va_get (D := g.1) (ci := 5) (v := .ref s1) (C := RX5) (T := TX5) (N := 5) hx hb hts q_X5_become_g_f5 hown hE.1 hP 0 rfl rfl 2 (by decide) (hts (.fieldLink RX5 9 "SoundLaws$Stock" "kinds" "[I") q_X5_become_g_3) (fun _ h9 => h9) rfl dX5_become_22 ?_
  refine lv_iconst (v := 0) hx hb dX5_become_25 (by decide) ?_
  refine lv_bipush (v := 6) hx hb dX5_become_26 (by decide) ?_
  refine k_cpy 0 0 6 (by decide) (by decide) (by decide) (by omega) (by omega) (by decide) (by decide) hx hb (by rw [hml]; exact hl.1.symm) hown (hts (.methodLink RX5 28 arraycopyName) q_X5_become_g_4) (hts (.native arraycopyName) q_X5_become_g_5) (hts (.static arraycopyName) q_X5_become_g_6) (hts (.initialized "java/lang/System") q_X5_become_g_7) hE hP hD hS 5 1 rfl rfl (Nat.le_of_ble_eq_true rfl) (Nat.le_of_ble_eq_true rfl) dX5_become_28 (fun H locs hP hD hS => ?_)
  have hP : va_P g.1 vwCl [(sk, .inr (5, [.int z2, .int u2, .ref s1, .ref s2, .ref s3])), (s1, ai g 6 (va_cpy K2 K 0 0 6)), (s2, ai g 6 L), (s3, ai g 96 V), (so, .inr (5, [.int z2, .int u2, .ref o1, .ref o2, .ref o3])), (o1, ai g 6 K2), (o2, ai g 6 L2), (o3, ai g 96 V2)] H := hP
  have hD : va_D A [(sk, .inr (5, [.int z2, .int u2, .ref s1, .ref s2, .ref s3])), (s1, ai g 6 (va_cpy K2 K 0 0 6)), (s2, ai g 6 L), (s3, ai g 96 V), (so, .inr (5, [.int z2, .int u2, .ref o1, .ref o2, .ref o3])), (o1, ai g 6 K2), (o2, ai g 6 L2), (o3, ai g 96 V2)] := hD
  refine lv_aload_n hx hb dX5_become_31 rfl (lv_at hl 1 rfl) ?_
  refine va_get (D := g.1) (ci := 5) (v := .ref o2) (C := RX5) (T := TX5) (N := 5) hx hb hts q_X5_become_g_f5 hown hE.1 hP 4 rfl rfl 3 (by decide) (hts (.fieldLink RX5 15 "SoundLaws$Stock" "lengths" "[I") q_X5_become_g_8) (fun _ h9 => h9) rfl dX5_become_32 ?_
  refine lv_iconst (v := 0) hx hb dX5_become_35 (by decide) ?_
  refine lv_aload_n hx hb dX5_become_36 rfl (lv_at hl 0 rfl) ?_
  refine va_get (D := g.1) (ci := 5) (v := .ref s2) (C := RX5) (T := TX5) (N := 5) hx hb hts q_X5_become_g_f5 hown hE.1 hP 0 rfl rfl 3 (by decide) (hts (.fieldLink RX5 15 "SoundLaws$Stock" "lengths" "[I") q_X5_become_g_8) (fun _ h9 => h9) rfl dX5_become_37 ?_
  refine lv_iconst (v := 0) hx hb dX5_become_40 (by decide) ?_
  refine lv_bipush (v := 6) hx hb dX5_become_41 (by decide) ?_
  refine k_cpy 0 0 6 (by decide) (by decide) (by decide) (by omega) (by omega) (by decide) (by decide) hx hb (by rw [hml]; exact hl.1.symm) hown (hts (.methodLink RX5 28 arraycopyName) q_X5_become_g_4) (hts (.native arraycopyName) q_X5_become_g_5) (hts (.static arraycopyName) q_X5_become_g_6) (hts (.initialized "java/lang/System") q_X5_become_g_7) hE hP hD hS 6 2 rfl rfl (Nat.le_of_ble_eq_true rfl) (Nat.le_of_ble_eq_true rfl) dX5_become_43 (fun H locs hP hD hS => ?_)
  have hP : va_P g.1 vwCl [(sk, .inr (5, [.int z2, .int u2, .ref s1, .ref s2, .ref s3])), (s1, ai g 6 (va_cpy K2 K 0 0 6)), (s2, ai g 6 (va_cpy L2 L 0 0 6)), (s3, ai g 96 V), (so, .inr (5, [.int z2, .int u2, .ref o1, .ref o2, .ref o3])), (o1, ai g 6 K2), (o2, ai g 6 L2), (o3, ai g 96 V2)] H := hP
  have hD : va_D A [(sk, .inr (5, [.int z2, .int u2, .ref s1, .ref s2, .ref s3])), (s1, ai g 6 (va_cpy K2 K 0 0 6)), (s2, ai g 6 (va_cpy L2 L 0 0 6)), (s3, ai g 96 V), (so, .inr (5, [.int z2, .int u2, .ref o1, .ref o2, .ref o3])), (o1, ai g 6 K2), (o2, ai g 6 L2), (o3, ai g 96 V2)] := hD
  refine lv_aload_n hx hb dX5_become_46 rfl (lv_at hl 1 rfl) ?_
  refine va_get (D := g.1) (ci := 5) (v := .ref o3) (C := RX5) (T := TX5) (N := 5) hx hb hts q_X5_become_g_f5 hown hE.1 hP 4 rfl rfl 4 (by decide) (hts (.fieldLink RX5 18 "SoundLaws$Stock" "words" "[I") q_X5_become_g_9) (fun _ h9 => h9) rfl dX5_become_47 ?_
  refine lv_iconst (v := 0) hx hb dX5_become_50 (by decide) ?_
  refine lv_aload_n hx hb dX5_become_51 rfl (lv_at hl 0 rfl) ?_
  refine va_get (D := g.1) (ci := 5) (v := .ref s3) (C := RX5) (T := TX5) (N := 5) hx hb hts q_X5_become_g_f5 hown hE.1 hP 0 rfl rfl 4 (by decide) (hts (.fieldLink RX5 18 "SoundLaws$Stock" "words" "[I") q_X5_become_g_9) (fun _ h9 => h9) rfl dX5_become_52 ?_
  refine lv_iconst (v := 0) hx hb dX5_become_55 (by decide) ?_
  refine lv_bipush (v := 96) hx hb dX5_become_56 (by decide) ?_
  refine k_cpy 0 0 96 (by decide) (by decide) (by decide) (by omega) (by omega) (by decide) (by decide) hx hb (by rw [hml]; exact hl.1.symm) hown (hts (.methodLink RX5 28 arraycopyName) q_X5_become_g_4) (hts (.native arraycopyName) q_X5_become_g_5) (hts (.static arraycopyName) q_X5_become_g_6) (hts (.initialized "java/lang/System") q_X5_become_g_7) hE hP hD hS 7 3 rfl rfl (Nat.le_of_ble_eq_true rfl) (Nat.le_of_ble_eq_true rfl) dX5_become_58 (fun H locs hP hD hS => ?_)
  have hP : va_P g.1 vwCl [(sk, .inr (5, [.int z2, .int u2, .ref s1, .ref s2, .ref s3])), (s1, ai g 6 (va_cpy K2 K 0 0 6)), (s2, ai g 6 (va_cpy L2 L 0 0 6)), (s3, ai g 96 (va_cpy V2 V 0 0 96)), (so, .inr (5, [.int z2, .int u2, .ref o1, .ref o2, .ref o3])), (o1, ai g 6 K2), (o2, ai g 6 L2), (o3, ai g 96 V2)] H := hP
  have hD : va_D A [(sk, .inr (5, [.int z2, .int u2, .ref s1, .ref s2, .ref s3])), (s1, ai g 6 (va_cpy K2 K 0 0 6)), (s2, ai g 6 (va_cpy L2 L 0 0 6)), (s3, ai g 96 (va_cpy V2 V 0 0 96)), (so, .inr (5, [.int z2, .int u2, .ref o1, .ref o2, .ref o3])), (o1, ai g 6 K2), (o2, ai g 6 L2), (o3, ai g 96 V2)] := hD
  refine W.widen (k := 0) (n := 0) (Nat.le_of_ble_eq_true rfl) (Nat.le_of_ble_eq_true rfl) ?_
  exact k_rv hx hb hr hlocks hS hP hD rfl dX5_become_61
def po_X5_putOver_g (g : GG) (sk : Nat) (s1 : Nat) (s2 : Nat) (s3 : Nat) (K : Nat → Int32) (L : Nat → Int32) (V : Nat → Int32) (z1 : Int32) (u1 : Int32) (i : Nat) (j : Nat) : va_W → Prop := fun w => w = [(sk, .inr (5, [.int z1, .int u1, .ref s1, .ref s2, .ref s3])), (s1, ai g 6 (upd K j (K i))), (s2, ai g 6 (upd L j (L i))), (s3, ai g 96 (va_cpy V V (16 * i) (16 * j) 16))]
theorem q_X5_putOver_g_f5 : ∀ w ∈ u_ws RX5 TX5 5, w ∈ wsX5_putOver := by decide +kernel
theorem q_X5_putOver_g_1 : (Cond.fieldLink RX5 9 "SoundLaws$Stock" "kinds" "[I") ∈ wsX5_putOver := by decide +kernel
theorem q_X5_putOver_g_2 : (Cond.fieldLink RX5 15 "SoundLaws$Stock" "lengths" "[I") ∈ wsX5_putOver := by decide +kernel
theorem q_X5_putOver_g_3 : (Cond.fieldLink RX5 18 "SoundLaws$Stock" "words" "[I") ∈ wsX5_putOver := by decide +kernel
theorem q_X5_putOver_g_4 : (Cond.initialized RX8) ∈ wsX5_putOver := by decide +kernel
theorem q_X5_putOver_g_5 : (Cond.static yX8_wordAt) ∈ wsX5_putOver := by decide +kernel
theorem q_X5_putOver_g_6 : (Cond.methodLink RX5 28 arraycopyName) ∈ wsX5_putOver := by decide +kernel
theorem q_X5_putOver_g_7 : (Cond.native arraycopyName) ∈ wsX5_putOver := by decide +kernel
theorem q_X5_putOver_g_8 : (Cond.static arraycopyName) ∈ wsX5_putOver := by decide +kernel
theorem q_X5_putOver_g_9 : (Cond.initialized "java/lang/System") ∈ wsX5_putOver := by decide +kernel
set_option maxHeartbeats 1500000 in
set_option maxRecDepth 100000 in
theorem c_X5_putOver_g (l : Launch) (g : GG) (sk : Nat) (s1 : Nat) (s2 : Nat) (s3 : Nat) (K : Nat → Int32) (L : Nat → Int32) (V : Nat → Int32) (z1 : Int32) (u1 : Int32) (i : Nat) (j : Nat) (hi : i < 6) (hj : j < 6) (sz : Nat) : MetV l yX5_putOver wsX5_putOver ({ frames := 1, cells := 0, slots := 0, locals := 40 }) g [.ref sk, .int (nI i), .int (nI j)] [(sk, .inr (5, [.int z1, .int u1, .ref s1, .ref s2, .ref s3])), (s1, ai g 6 K), (s2, ai g 6 L), (s3, ai g 96 V)] sz (po_X5_putOver_g g sk s1 s2 s3 K L V z1 u1 i j) 0 0 := by
  refine k_of (l := l) (y := yX5_putOver) (ws := wsX5_putOver) (rm := { frames := 1, cells := 0, slots := 0, locals := 40 }) (mc := 0) (ms := 0) (av := [.ref sk, .int (nI i), .int (nI j)]) (g := g) (wc := [(sk, .inr (5, [.int z1, .int u1, .ref s1, .ref s2, .ref s3])), (s1, ai g 6 K), (s2, ai g 6 L), (s3, ai g 96 V)]) (Qc := fun A => va_Qv (po_X5_putOver_g g sk s1 s2 s3 K L V z1 u1 i j) (bk g A) A) (cc := cX5_putOver) (maxL := 3) (ret := none) (by decide) rfl (Nat.le_of_ble_eq_true rfl) ?_ sz
  intro p e s m below meth c hx hb hr hts hown hlocks hnm hml A hA hE hZ hP hD hS ls hl
  have hown : s.vm.findClass RX5 = some m.cls := hown
  have hl : lv_has ls 3 [(0, .ref sk), (1, .int (nI i)), (2, .int (nI j))] := hl
  refine lv_aload_n hx hb dX5_putOver_0 rfl (lv_at hl 0 rfl) ?_
  refine va_get (D := g.1) (ci := 5) (v := .ref s1) (C := RX5) (T := TX5) (N := 5) hx hb hts q_X5_putOver_g_f5 hown hE.1 hP 0 rfl rfl 2 (by decide) (hts (.fieldLink RX5 9 "SoundLaws$Stock" "kinds" "[I") q_X5_putOver_g_1) (fun _ h9 => h9) rfl dX5_putOver_1 ?_
  refine lv_iload_n hx hb dX5_putOver_4 rfl (lv_at hl 2 rfl) ?_
  refine lv_aload_n hx hb dX5_putOver_5 rfl (lv_at hl 0 rfl) ?_
  refine va_get (D := g.1) (ci := 5) (v := .ref s1) (C := RX5) (T := TX5) (N := 5) hx hb hts q_X5_putOver_g_f5 hown hE.1 hP 0 rfl rfl 2 (by decide) (hts (.fieldLink RX5 9 "SoundLaws$Stock" "kinds" "[I") q_X5_putOver_g_1) (fun _ h9 => h9) rfl dX5_putOver_6 ?_
  refine lv_iload_n hx hb dX5_putOver_9 rfl (lv_at hl 1 rfl) ?_
  refine k_ald i rfl (by omega) hx hb hE hP 1 rfl (by decide) dX5_putOver_10 ?_
  refine k_ast (x := (K i)) j rfl (by omega) hx hb hE hP hD hS 1 rfl (by decide) dX5_putOver_11 (fun H locs hP hD hS => ?_)
  have hP : va_P g.1 vwCl [(sk, .inr (5, [.int z1, .int u1, .ref s1, .ref s2, .ref s3])), (s1, ai g 6 (upd K j (K i))), (s2, ai g 6 L), (s3, ai g 96 V)] H := hP
  have hD : va_D A [(sk, .inr (5, [.int z1, .int u1, .ref s1, .ref s2, .ref s3])), (s1, ai g 6 (upd K j (K i))), (s2, ai g 6 L), (s3, ai g 96 V)] := hD
  refine lv_aload_n hx hb dX5_putOver_12 rfl (lv_at hl 0 rfl) ?_
  refine va_get (D := g.1) (ci := 5) (v := .ref s2) (C := RX5) (T := TX5) (N := 5) hx hb hts q_X5_putOver_g_f5 hown hE.1 hP 0 rfl rfl 3 (by decide) (hts (.fieldLink RX5 15 "SoundLaws$Stock" "lengths" "[I") q_X5_putOver_g_2) (fun _ h9 => h9) rfl dX5_putOver_13 ?_
  refine lv_iload_n hx hb dX5_putOver_16 rfl (lv_at hl 2 rfl) ?_
  refine lv_aload_n hx hb dX5_putOver_17 rfl (lv_at hl 0 rfl) ?_
  refine va_get (D := g.1) (ci := 5) (v := .ref s2) (C := RX5) (T := TX5) (N := 5) hx hb hts q_X5_putOver_g_f5 hown hE.1 hP 0 rfl rfl 3 (by decide) (hts (.fieldLink RX5 15 "SoundLaws$Stock" "lengths" "[I") q_X5_putOver_g_2) (fun _ h9 => h9) rfl dX5_putOver_18 ?_
  refine lv_iload_n hx hb dX5_putOver_21 rfl (lv_at hl 1 rfl) ?_
  refine k_ald i rfl (by omega) hx hb hE hP 2 rfl (by decide) dX5_putOver_22 ?_
  refine k_ast (x := (L i)) j rfl (by omega) hx hb hE hP hD hS 2 rfl (by decide) dX5_putOver_23 (fun H locs hP hD hS => ?_)
  have hP : va_P g.1 vwCl [(sk, .inr (5, [.int z1, .int u1, .ref s1, .ref s2, .ref s3])), (s1, ai g 6 (upd K j (K i))), (s2, ai g 6 (upd L j (L i))), (s3, ai g 96 V)] H := hP
  have hD : va_D A [(sk, .inr (5, [.int z1, .int u1, .ref s1, .ref s2, .ref s3])), (s1, ai g 6 (upd K j (K i))), (s2, ai g 6 (upd L j (L i))), (s3, ai g 96 V)] := hD
  refine lv_aload_n hx hb dX5_putOver_24 rfl (lv_at hl 0 rfl) ?_
  refine va_get (D := g.1) (ci := 5) (v := .ref s3) (C := RX5) (T := TX5) (N := 5) hx hb hts q_X5_putOver_g_f5 hown hE.1 hP 0 rfl rfl 4 (by decide) (hts (.fieldLink RX5 18 "SoundLaws$Stock" "words" "[I") q_X5_putOver_g_3) (fun _ h9 => h9) rfl dX5_putOver_25 ?_
  refine lv_iload_n hx hb dX5_putOver_28 rfl (lv_at hl 1 rfl) ?_
  refine lv_iconst (v := 0) hx hb dX5_putOver_29 (by decide) ?_
  refine k_ci (wr := [(sk, .inr (5, [.int z1, .int u1, .ref s1, .ref s2, .ref s3])), (s1, ai g 6 (upd K j (K i))), (s2, ai g 6 (upd L j (L i))), (s3, ai g 96 V)]) hP hD hS hA [] [0, 1, 2, 3] rfl rfl (by decide) (by decide) (va_runSN (As := [.int (nI i), .int 0]) (rest := [.ref s3]) ⟨hx, hb, hml, hown, hts⟩ (c_X8_wordAt_g l g i 0  H.size) ⟨va_cnB 2 hts gX5_putOver_X8_wordAt_n34 rfl rfl rfl (hE.nw 26 rfl) (hts (.initialized RX8) q_X5_putOver_g_4) (by decide +kernel) ⟨Nat.le_of_ble_eq_true rfl, Nat.le_of_ble_eq_true rfl⟩, (hts (.static yX8_wordAt) q_X5_putOver_g_5), trivial⟩ (k_preS hE hZ hP hD hS hA [] rfl (by decide)) rfl rfl hl.1 rfl (lv_room (Nat.le_of_ble_eq_true rfl)) dX5_putOver_30 ⟨Nat.le_of_ble_eq_true rfl, Nat.le_of_ble_eq_true rfl⟩) (fun r_1 w1 H locs hw hP hD hS => ?_)
  obtain ⟨rfl, rfl⟩ := hw
  have hP : va_P g.1 vwCl [(sk, .inr (5, [.int z1, .int u1, .ref s1, .ref s2, .ref s3])), (s1, ai g 6 (upd K j (K i))), (s2, ai g 6 (upd L j (L i))), (s3, ai g 96 V)] H := hP
  have hD : va_D A [(sk, .inr (5, [.int z1, .int u1, .ref s1, .ref s2, .ref s3])), (s1, ai g 6 (upd K j (K i))), (s2, ai g 6 (upd L j (L i))), (s3, ai g 96 V)] := hD
  refine lv_aload_n hx hb dX5_putOver_33 rfl (lv_at hl 0 rfl) ?_
  refine va_get (D := g.1) (ci := 5) (v := .ref s3) (C := RX5) (T := TX5) (N := 5) hx hb hts q_X5_putOver_g_f5 hown hE.1 hP 0 rfl rfl 4 (by decide) (hts (.fieldLink RX5 18 "SoundLaws$Stock" "words" "[I") q_X5_putOver_g_3) (fun _ h9 => h9) rfl dX5_putOver_34 ?_
  refine lv_iload_n hx hb dX5_putOver_37 rfl (lv_at hl 2 rfl) ?_
  refine lv_iconst (v := 0) hx hb dX5_putOver_38 (by decide) ?_
  refine k_ci (wr := [(sk, .inr (5, [.int z1, .int u1, .ref s1, .ref s2, .ref s3])), (s1, ai g 6 (upd K j (K i))), (s2, ai g 6 (upd L j (L i))), (s3, ai g 96 V)]) hP hD hS hA [] [0, 1, 2, 3] rfl rfl (by decide) (by decide) (va_runSN (As := [.int (nI j), .int 0]) (rest := [.ref s3, .int (nI (16 * i + 4 * 0)), .ref s3]) ⟨hx, hb, hml, hown, hts⟩ (c_X8_wordAt_g l g j 0  H.size) ⟨va_cnB 2 hts gX5_putOver_X8_wordAt_n34 rfl rfl rfl (hE.nw 26 rfl) (hts (.initialized RX8) q_X5_putOver_g_4) (by decide +kernel) ⟨Nat.le_of_ble_eq_true rfl, Nat.le_of_ble_eq_true rfl⟩, (hts (.static yX8_wordAt) q_X5_putOver_g_5), trivial⟩ (k_preS hE hZ hP hD hS hA [] rfl (by decide)) rfl rfl hl.1 rfl (lv_room (Nat.le_of_ble_eq_true rfl)) dX5_putOver_39 ⟨Nat.le_of_ble_eq_true rfl, Nat.le_of_ble_eq_true rfl⟩) (fun r_3 w1 H locs hw hP hD hS => ?_)
  obtain ⟨rfl, rfl⟩ := hw
  have hP : va_P g.1 vwCl [(sk, .inr (5, [.int z1, .int u1, .ref s1, .ref s2, .ref s3])), (s1, ai g 6 (upd K j (K i))), (s2, ai g 6 (upd L j (L i))), (s3, ai g 96 V)] H := hP
  have hD : va_D A [(sk, .inr (5, [.int z1, .int u1, .ref s1, .ref s2, .ref s3])), (s1, ai g 6 (upd K j (K i))), (s2, ai g 6 (upd L j (L i))), (s3, ai g 96 V)] := hD
  refine lv_bipush (v := 16) hx hb dX5_putOver_42 (by decide) ?_
  refine k_cpy (16 * i) (16 * j) 16 rfl rfl (by decide) (by omega) (by omega) (by decide) (by decide) hx hb (by rw [hml]; exact hl.1.symm) hown (hts (.methodLink RX5 28 arraycopyName) q_X5_putOver_g_6) (hts (.native arraycopyName) q_X5_putOver_g_7) (hts (.static arraycopyName) q_X5_putOver_g_8) (hts (.initialized "java/lang/System") q_X5_putOver_g_9) hE hP hD hS 3 3 rfl rfl (Nat.le_of_ble_eq_true rfl) (Nat.le_of_ble_eq_true rfl) dX5_putOver_44 (fun H locs hP hD hS => ?_)
  have hP : va_P g.1 vwCl [(sk, .inr (5, [.int z1, .int u1, .ref s1, .ref s2, .ref s3])), (s1, ai g 6 (upd K j (K i))), (s2, ai g 6 (upd L j (L i))), (s3, ai g 96 (va_cpy V V (16 * i) (16 * j) 16))] H := hP
  have hD : va_D A [(sk, .inr (5, [.int z1, .int u1, .ref s1, .ref s2, .ref s3])), (s1, ai g 6 (upd K j (K i))), (s2, ai g 6 (upd L j (L i))), (s3, ai g 96 (va_cpy V V (16 * i) (16 * j) 16))] := hD
  refine W.widen (k := 0) (n := 0) (Nat.le_of_ble_eq_true rfl) (Nat.le_of_ble_eq_true rfl) ?_
  exact k_rv hx hb hr hlocks hS hP hD rfl dX5_putOver_47
def po_X5_remove_g (g : GG) (sk : Nat) (s1 : Nat) (s2 : Nat) (s3 : Nat) (K : Nat → Int32) (L : Nat → Int32) (V : Nat → Int32) (u1 : Int32) (z : Nat) (k : Nat) : va_W → Prop := fun w => ∃ (C1 : Nat → Int32) (C2 : Nat → Int32) (C3 : Nat → Int32), w = [(sk, .inr (5, [.int (nI (z - 1)), .int u1, .ref s1, .ref s2, .ref s3])), (s1, ai g 6 C1), (s2, ai g 6 C2), (s3, ai g 96 C3)] ∧ (∀ i, i < 6 → C1 i = K (sh k z i)) ∧ (∀ i, i < 6 → C2 i = L (sh k z i)) ∧ (∀ i, i < 6 → ∀ x, x < 16 → C3 (16 * i + x) = V (16 * sh k z i + x))
theorem q_X5_remove_g_f5 : ∀ w ∈ u_ws RX5 TX5 5, w ∈ wsX5_remove := by decide +kernel
theorem q_X5_remove_g_1 : (Cond.fieldLink RX5 21 "SoundLaws$Stock" "size" "I") ∈ wsX5_remove := by decide +kernel
set_option maxHeartbeats 1500000 in
set_option maxRecDepth 100000 in
theorem c_X5_remove_g (l : Launch) (g : GG) (sk : Nat) (s1 : Nat) (s2 : Nat) (s3 : Nat) (K : Nat → Int32) (L : Nat → Int32) (V : Nat → Int32) (u1 : Int32) (z : Nat) (k : Nat) (hz : z ≤ 6) (hk : k < z) (sz : Nat) : MetV l yX5_remove wsX5_remove ({ frames := 2, cells := 0, slots := 0, locals := 62 }) g [.ref sk, .int (nI k)] [(sk, .inr (5, [.int (nI z), .int u1, .ref s1, .ref s2, .ref s3])), (s1, ai g 6 K), (s2, ai g 6 L), (s3, ai g 96 V)] sz (po_X5_remove_g g sk s1 s2 s3 K L V u1 z k) 0 0 := by
  refine k_of (l := l) (y := yX5_remove) (ws := wsX5_remove) (rm := { frames := 2, cells := 0, slots := 0, locals := 62 }) (mc := 0) (ms := 0) (av := [.ref sk, .int (nI k)]) (g := g) (wc := [(sk, .inr (5, [.int (nI z), .int u1, .ref s1, .ref s2, .ref s3])), (s1, ai g 6 K), (s2, ai g 6 L), (s3, ai g 96 V)]) (Qc := fun A => va_Qv (po_X5_remove_g g sk s1 s2 s3 K L V u1 z k) (bk g A) A) (cc := cX5_remove) (maxL := 3) (ret := none) (by decide) rfl (Nat.le_of_ble_eq_true rfl) ?_ sz
  intro p e s m below meth c hx hb hr hts hown hlocks hnm hml A hA hE hZ hP hD hS ls hl
  have hown : s.vm.findClass RX5 = some m.cls := hown
  have hl : lv_has ls 3 [(0, .ref sk), (1, .int (nI k))] := hl
  refine lv_iload_n hx hb dX5_remove_0 rfl (lv_at hl 1 rfl) ?_
  refine lv_iconst (v := 1) hx hb dX5_remove_1 (by decide) ?_
  refine lv_iadd hx hb dX5_remove_2 ?_
  refine lv_topi (fun x_1 ex_1 => ?_)
  obtain rfl : x_1 = nI (k + 1) := by rw [ex_1]; exact nI_1 k
  refine lv_istore_n (lv' := [(2, .int (nI (k + 1))), (0, .ref sk), (1, .int (nI k))]) hx hb dX5_remove_3 rfl hl (by decide) rfl (fun ls hl => ?_)
  have loop4 : ∀ (fu : Nat) (j : Nat) (C1 C2 C3 : Nat → Int32), (hj : j < z) → (hkj : k ≤ j) → (e1 : ∀ i, i < 6 → C1 i = K (sh k (j + 1) i)) → (e2 : ∀ i, i < 6 → C2 i = L (sh k (j + 1) i)) → (e3 : ∀ i, i < 6 → ∀ x, x < 16 → C3 (16 * i + x) = V (16 * sh k (j + 1) i + x)) → z - j < fu → ∀ (H : Heap) (locs : List Loc) (ls : Array Slot), va_P g.1 vwCl [(sk, .inr (5, [.int (nI z), .int u1, .ref s1, .ref s2, .ref s3])), (s1, ai g 6 C1), (s2, ai g 6 C2), (s3, ai g 96 C3)] H → va_D A [(sk, .inr (5, [.int (nI z), .int u1, .ref s1, .ref s2, .ref s3])), (s1, ai g 6 C1), (s2, ai g 6 C2), (s3, ai g 96 C3)] → va_S A s.heap H locs → lv_has ls 3 [(0, .ref sk), (1, .int (nI k)), (2, .int (nI (j + 1)))] → W p l e ({ frames := 2, cells := 0, slots := 0, locals := 62 }) s m [.ref sk, .int (nI k)].toArray below meth c H locs 0 0 (MQ below (va_Qv (po_X5_remove_g g sk s1 s2 s3 K L V u1 z k) (bk g A) A) [.ref sk, .int (nI k)].toArray s 0 0 A) (F0 m 4 ls []) := by
    intro fu
    induction fu with
    | zero => intro j C1 C2 C3 hj hkj e1 e2 e3 hfu; exact absurd hfu (Nat.not_lt_zero _)
    | succ fu ih =>
      intro j C1 C2 C3 hj hkj e1 e2 e3 hfu H locs ls hP hD hS hl
      have ih4 := ih
      refine lv_iload_n hx hb dX5_remove_4 rfl (lv_at hl 2 rfl) ?_
      refine lv_aload_n hx hb dX5_remove_5 rfl (lv_at hl 0 rfl) ?_
      refine va_get (D := g.1) (ci := 5) (v := .int (nI z)) (C := RX5) (T := TX5) (N := 5) hx hb hts q_X5_remove_g_f5 hown hE.1 hP 0 rfl rfl 0 (by decide) (hts (.fieldLink RX5 21 "SoundLaws$Stock" "size" "I") q_X5_remove_g_1) (fun _ h9 => h9) rfl dX5_remove_6 ?_
      refine lv_icmp_ge (tgt := 26) hx hb dX5_remove_9 (by decide) (fun c9_2 => ?_) (fun c9_2 => ?_)
      · skip
        have hj9 := ge_of_le (k := z) (n := j + 1) (by omega) (by omega) c9_2; obtain rfl : z = j + 1 := by omega
        refine lv_aload_n hx hb dX5_remove_26 rfl (lv_at hl 0 rfl) ?_
        refine lv_dup hx hb dX5_remove_27 rfl ?_
        refine va_get (D := g.1) (ci := 5) (v := .int (nI (j + 1))) (C := RX5) (T := TX5) (N := 5) hx hb hts q_X5_remove_g_f5 hown hE.1 hP 0 rfl rfl 0 (by decide) (hts (.fieldLink RX5 21 "SoundLaws$Stock" "size" "I") q_X5_remove_g_1) (fun _ h9 => h9) rfl dX5_remove_28 ?_
        refine lv_iconst (v := 1) hx hb dX5_remove_31 (by decide) ?_
        refine lv_isub hx hb dX5_remove_32 ?_
        refine lv_topi (fun x_3 ex_3 => ?_)
        obtain rfl : x_3 = nI (j + 1 - 1) := by rw [ex_3]; exact nI_pred j
        refine va_put (D := g.1) (ci := 5) (v := .int (nI (j + 1 - 1))) (ty := .int) (C := RX5) (T := TX5) (N := 5) hx hb hts q_X5_remove_g_f5 tyX5 tyX5_ok nmX5 hown hE.1 hP hD hS 0 rfl rfl 0 (by decide) (hts (.fieldLink RX5 21 "SoundLaws$Stock" "size" "I") q_X5_remove_g_1) (fun _ h9 => h9) rfl (by decide +kernel) rfl rfl (Nat.le_of_ble_eq_true rfl) dX5_remove_33 (fun H locs hP hD hS => ?_)
        have hP : va_P g.1 vwCl [(sk, .inr (5, [.int (nI (j + 1 - 1)), .int u1, .ref s1, .ref s2, .ref s3])), (s1, ai g 6 C1), (s2, ai g 6 C2), (s3, ai g 96 C3)] H := hP
        have hD : va_D A [(sk, .inr (5, [.int (nI (j + 1 - 1)), .int u1, .ref s1, .ref s2, .ref s3])), (s1, ai g 6 C1), (s2, ai g 6 C2), (s3, ai g 96 C3)] := hD
        refine W.widen (k := 0) (n := 0) (Nat.le_of_ble_eq_true rfl) (Nat.le_of_ble_eq_true rfl) ?_
        exact k_rv hx hb hr hlocks hS hP hD ⟨C1, C2, C3, rfl, e1, e2, e3⟩ dX5_remove_36
      · skip
        have hj9 := lt_of_nle (k := z) (n := j + 1) (by omega) (by omega) c9_2
        refine lv_aload_n hx hb dX5_remove_12 rfl (lv_at hl 0 rfl) ?_
        refine lv_iload_n hx hb dX5_remove_13 rfl (lv_at hl 2 rfl) ?_
        refine lv_iload_n hx hb dX5_remove_14 rfl (lv_at hl 2 rfl) ?_
        refine lv_iconst (v := 1) hx hb dX5_remove_15 (by decide) ?_
        refine lv_isub hx hb dX5_remove_16 ?_
        refine lv_topi (fun x_4 ex_4 => ?_)
        obtain rfl : x_4 = nI j := by rw [ex_4]; exact nI_pred j
        refine k_cv (wr := []) hP hD hS hA [0, 1, 2, 3] [] rfl rfl (by decide) (by decide) (va_runV (As := [.int (nI (j + 1)), .int (nI j)]) (rest := []) ⟨hx, hb, hml, hown, hts⟩ (c_X5_putOver_g l g sk s1 s2 s3 C1 C2 C3 (nI z) u1 (j + 1) j (by first | assumption | omega) (by first | assumption | omega) H.size) (cwV 2 hts gX5_remove_X5_putOver rfl rfl rfl (by decide +kernel) ⟨Nat.le_of_ble_eq_true rfl, Nat.le_of_ble_eq_true rfl⟩) (k_preV hE hZ hP hD hS hA [0, 1, 2, 3] rfl (by decide) (va_recv hE.1 hP (ci := 5) (q0 := 0) rfl rfl)) rfl rfl hl.1 rfl (lv_room (Nat.le_of_ble_eq_true rfl)) dX5_remove_17 ⟨Nat.le_of_ble_eq_true rfl, Nat.le_of_ble_eq_true rfl⟩) (fun w1 H locs hw hP hD hS => ?_)
        obtain rfl := hw
        have hP : va_P g.1 vwCl [(sk, .inr (5, [.int (nI z), .int u1, .ref s1, .ref s2, .ref s3])), (s1, ai g 6 (upd C1 j (C1 (j + 1)))), (s2, ai g 6 (upd C2 j (C2 (j + 1)))), (s3, ai g 96 (va_cpy C3 C3 (16 * (j + 1)) (16 * j) 16))] H := hP
        have hD : va_D A [(sk, .inr (5, [.int (nI z), .int u1, .ref s1, .ref s2, .ref s3])), (s1, ai g 6 (upd C1 j (C1 (j + 1)))), (s2, ai g 6 (upd C2 j (C2 (j + 1)))), (s3, ai g 96 (va_cpy C3 C3 (16 * (j + 1)) (16 * j) 16))] := hD
        refine lv_iinc (v := (nI (j + 1 + 1))) (lv' := [(2, .int (nI (j + 1 + 1))), (0, .ref sk), (1, .int (nI k))]) hx hb dX5_remove_20 hl (k := 2) rfl (nI_1 _) (by decide) rfl (fun ls hl => ?_)
        refine lv_goto (tgt := 4) hx hb dX5_remove_23 (by decide) ?_
        exact ih4 (j + 1) _ _ _ (by omega) (by omega) (sh_upd hkj (by omega) e1) (sh_upd hkj (by omega) e2) (sh_cpy hkj (by omega) e3) (by omega) _ _ _ hP hD hS (lv_sub hl [1, 2, 0] rfl)
  exact loop4 _ k K L V hk (Nat.le_refl k) (fun i _ => by rw [sh_id]) (fun i _ => by rw [sh_id]) (fun i _ x _ => by rw [sh_id]) (Nat.lt_succ_self _) _ _ _ hP hD hS (lv_sub hl [1, 2, 0] rfl)
def po_X5_isSilentBut_g (g : GG) (sk : Nat) (s1 : Nat) (s2 : Nat) (s3 : Nat) (K : Nat → Int32) (L : Nat → Int32) (V : Nat → Int32) (z1 : Int32) (u1 : Int32) (i : Nat) (j : Nat) (o : Nat) (n : Nat) : Int32 → va_W → Prop := fun (r : Int32) w => w = [(sk, .inr (5, [.int z1, .int u1, .ref s1, .ref s2, .ref s3])), (s1, ai g 6 K), (s2, ai g 6 L), (s3, ai g 96 V)] ∧ (sil V (16 * i + 4 * j) o n = r)
theorem q_X5_isSilentBut_g_f5 : ∀ w ∈ u_ws RX5 TX5 5, w ∈ wsX5_isSilentBut := by decide +kernel
theorem q_X5_isSilentBut_g_1 : (Cond.fieldLink RX5 15 "SoundLaws$Stock" "lengths" "[I") ∈ wsX5_isSilentBut := by decide +kernel
theorem q_X5_isSilentBut_g_2 : (Cond.fieldLink RX5 18 "SoundLaws$Stock" "words" "[I") ∈ wsX5_isSilentBut := by decide +kernel
theorem q_X5_isSilentBut_g_3 : (Cond.initialized RX8) ∈ wsX5_isSilentBut := by decide +kernel
theorem q_X5_isSilentBut_g_4 : (Cond.static yX8_wordAt) ∈ wsX5_isSilentBut := by decide +kernel
set_option maxHeartbeats 1500000 in
set_option maxRecDepth 100000 in
theorem c_X5_isSilentBut_g (l : Launch) (g : GG) (sk : Nat) (s1 : Nat) (s2 : Nat) (s3 : Nat) (K : Nat → Int32) (L : Nat → Int32) (V : Nat → Int32) (z1 : Int32) (u1 : Int32) (i : Nat) (j : Nat) (o : Nat) (n : Nat) (hi : i < 6) (hj : j < 4) (ho : o < 4) (hL : L i = nI n) (hn : n ≤ 4) (sz : Nat) : MetI l yX5_isSilentBut wsX5_isSilentBut ({ frames := 1, cells := 0, slots := 0, locals := 21 }) g [.ref sk, .int (nI i), .int (nI j), .int (nI o)] [(sk, .inr (5, [.int z1, .int u1, .ref s1, .ref s2, .ref s3])), (s1, ai g 6 K), (s2, ai g 6 L), (s3, ai g 96 V)] sz (po_X5_isSilentBut_g g sk s1 s2 s3 K L V z1 u1 i j o n) 0 0 := by
  refine k_of (l := l) (y := yX5_isSilentBut) (ws := wsX5_isSilentBut) (rm := { frames := 1, cells := 0, slots := 0, locals := 21 }) (mc := 0) (ms := 0) (av := [.ref sk, .int (nI i), .int (nI j), .int (nI o)]) (g := g) (wc := [(sk, .inr (5, [.int z1, .int u1, .ref s1, .ref s2, .ref s3])), (s1, ai g 6 K), (s2, ai g 6 L), (s3, ai g 96 V)]) (Qc := fun A => va_Qi (po_X5_isSilentBut_g g sk s1 s2 s3 K L V z1 u1 i j o n) (bk g A) A) (cc := cX5_isSilentBut) (maxL := 5) (ret := (some .boolean)) (by decide) rfl (Nat.le_of_ble_eq_true rfl) ?_ sz
  intro p e s m below meth c hx hb hr hts hown hlocks hnm hml A hA hE hZ hP hD hS ls hl
  have hown : s.vm.findClass RX5 = some m.cls := hown
  have hl : lv_has ls 5 [(0, .ref sk), (1, .int (nI i)), (2, .int (nI j)), (3, .int (nI o))] := hl
  refine lv_iconst (v := 0) hx hb dX5_isSilentBut_0 (by decide) ?_
  refine lv_istore (lv' := [(4, .int 0), (0, .ref sk), (1, .int (nI i)), (2, .int (nI j)), (3, .int (nI o))]) hx hb dX5_isSilentBut_1 hl (by decide) rfl (fun ls hl => ?_)
  have loop3 : ∀ (fu : Nat) (a : Nat), (ha : a ≤ n) → (es : sil V (16 * i + 4 * j) o a = 1) → n - a < fu → ∀ (H : Heap) (locs : List Loc) (ls : Array Slot), va_P g.1 vwCl [(sk, .inr (5, [.int z1, .int u1, .ref s1, .ref s2, .ref s3])), (s1, ai g 6 K), (s2, ai g 6 L), (s3, ai g 96 V)] H → va_D A [(sk, .inr (5, [.int z1, .int u1, .ref s1, .ref s2, .ref s3])), (s1, ai g 6 K), (s2, ai g 6 L), (s3, ai g 96 V)] → va_S A s.heap H locs → lv_has ls 5 [(0, .ref sk), (1, .int (nI i)), (2, .int (nI j)), (3, .int (nI o)), (4, .int (nI a))] → W p l e ({ frames := 1, cells := 0, slots := 0, locals := 21 }) s m [.ref sk, .int (nI i), .int (nI j), .int (nI o)].toArray below meth c H locs 0 0 (MQ below (va_Qi (po_X5_isSilentBut_g g sk s1 s2 s3 K L V z1 u1 i j o n) (bk g A) A) [.ref sk, .int (nI i), .int (nI j), .int (nI o)].toArray s 0 0 A) (F0 m 3 ls []) := by
    intro fu
    induction fu with
    | zero => intro a ha es hfu; exact absurd hfu (Nat.not_lt_zero _)
    | succ fu ih =>
      intro a ha es hfu H locs ls hP hD hS hl
      have ih3 := ih
      refine lv_iload hx hb dX5_isSilentBut_3 (lv_at hl 4 rfl) ?_
      refine lv_aload_n hx hb dX5_isSilentBut_5 rfl (lv_at hl 0 rfl) ?_
      refine va_get (D := g.1) (ci := 5) (v := .ref s2) (C := RX5) (T := TX5) (N := 5) hx hb hts q_X5_isSilentBut_g_f5 hown hE.1 hP 0 rfl rfl 3 (by decide) (hts (.fieldLink RX5 15 "SoundLaws$Stock" "lengths" "[I") q_X5_isSilentBut_g_1) (fun _ h9 => h9) rfl dX5_isSilentBut_6 ?_
      refine lv_iload_n hx hb dX5_isSilentBut_9 rfl (lv_at hl 1 rfl) ?_
      refine k_ald i rfl (by omega) hx hb hE hP 2 rfl (by decide) dX5_isSilentBut_10 ?_
      refine lv_topi (fun x_1 ex_1 => ?_)
      obtain rfl : x_1 = nI n := by rw [ex_1]; exact hL
      refine lv_icmp_ge (tgt := 44) hx hb dX5_isSilentBut_11 (by decide) (fun c11_2 => ?_) (fun c11_2 => ?_)
      · skip
        have hj9 := ge_of_le (k := n) (n := a) (by omega) (by omega) c11_2; obtain rfl : a = n := by omega
        refine lv_iconst (v := 1) hx hb dX5_isSilentBut_44 (by decide) ?_
        refine W.widen (k := 0) (n := 0) (Nat.le_of_ble_eq_true rfl) (Nat.le_of_ble_eq_true rfl) ?_
        exact k_rz hx hb hr hlocks hS hP hD rfl ⟨rfl, es⟩ dX5_isSilentBut_45
      · skip
        have hj9 := lt_of_nle (k := n) (n := a) (by omega) (by omega) c11_2
        refine lv_iload hx hb dX5_isSilentBut_14 (lv_at hl 4 rfl) ?_
        refine lv_iload_n hx hb dX5_isSilentBut_16 rfl (lv_at hl 3 rfl) ?_
        refine lv_icmp_eq (tgt := 38) hx hb dX5_isSilentBut_17 (by decide) (fun c17_3 => ?_) (fun c17_3 => ?_)
        · skip
          have hao : a = o := (nI_eq (by omega) (by omega)).mp c17_3
          refine lv_iinc (v := (nI (a + 1))) (lv' := [(4, .int (nI (a + 1))), (0, .ref sk), (1, .int (nI i)), (2, .int (nI j)), (3, .int (nI o))]) hx hb dX5_isSilentBut_38 hl (k := 4) rfl (nI_1 _) (by decide) rfl (fun ls hl => ?_)
          refine lv_goto (tgt := 3) hx hb dX5_isSilentBut_41 (by decide) ?_
          exact ih3 (a + 1) (by omega) ((sil_s (Or.inl hao)).trans es) (by omega) _ _ _ hP hD hS (lv_sub hl [1, 2, 3, 4, 0] rfl)
        · skip
          have hao : ¬ a = o := fun q => c17_3 (by rw [q])
          refine lv_aload_n hx hb dX5_isSilentBut_20 rfl (lv_at hl 0 rfl) ?_
          refine va_get (D := g.1) (ci := 5) (v := .ref s3) (C := RX5) (T := TX5) (N := 5) hx hb hts q_X5_isSilentBut_g_f5 hown hE.1 hP 0 rfl rfl 4 (by decide) (hts (.fieldLink RX5 18 "SoundLaws$Stock" "words" "[I") q_X5_isSilentBut_g_2) (fun _ h9 => h9) rfl dX5_isSilentBut_21 ?_
          refine lv_iload_n hx hb dX5_isSilentBut_24 rfl (lv_at hl 1 rfl) ?_
          refine lv_iload_n hx hb dX5_isSilentBut_25 rfl (lv_at hl 2 rfl) ?_
          refine k_ci (wr := [(sk, .inr (5, [.int z1, .int u1, .ref s1, .ref s2, .ref s3])), (s1, ai g 6 K), (s2, ai g 6 L), (s3, ai g 96 V)]) hP hD hS hA [] [0, 1, 2, 3] rfl rfl (by decide) (by decide) (va_runSN (As := [.int (nI i), .int (nI j)]) (rest := [.ref s3]) ⟨hx, hb, hml, hown, hts⟩ (c_X8_wordAt_g l g i j  H.size) ⟨va_cnB 2 hts gX5_isSilentBut_X8_wordAt_n34 rfl rfl rfl (hE.nw 26 rfl) (hts (.initialized RX8) q_X5_isSilentBut_g_3) (by decide +kernel) ⟨Nat.le_of_ble_eq_true rfl, Nat.le_of_ble_eq_true rfl⟩, (hts (.static yX8_wordAt) q_X5_isSilentBut_g_4), trivial⟩ (k_preS hE hZ hP hD hS hA [] rfl (by decide)) rfl rfl hl.1 rfl (lv_room (Nat.le_of_ble_eq_true rfl)) dX5_isSilentBut_26 ⟨Nat.le_of_ble_eq_true rfl, Nat.le_of_ble_eq_true rfl⟩) (fun r_4 w1 H locs hw hP hD hS => ?_)
          obtain ⟨rfl, rfl⟩ := hw
          have hP : va_P g.1 vwCl [(sk, .inr (5, [.int z1, .int u1, .ref s1, .ref s2, .ref s3])), (s1, ai g 6 K), (s2, ai g 6 L), (s3, ai g 96 V)] H := hP
          have hD : va_D A [(sk, .inr (5, [.int z1, .int u1, .ref s1, .ref s2, .ref s3])), (s1, ai g 6 K), (s2, ai g 6 L), (s3, ai g 96 V)] := hD
          refine lv_iload hx hb dX5_isSilentBut_29 (lv_at hl 4 rfl) ?_
          refine lv_iadd hx hb dX5_isSilentBut_31 ?_
          refine k_ald (16 * i + 4 * j + a) (nI_add _ _) (by omega) hx hb hE hP 3 rfl (by decide) dX5_isSilentBut_32 ?_
          refine lv_if_eq (tgt := 38) hx hb dX5_isSilentBut_33 (by decide) (fun c33_6 => ?_) (fun c33_6 => ?_)
          · skip
            refine lv_iinc (v := (nI (a + 1))) (lv' := [(4, .int (nI (a + 1))), (0, .ref sk), (1, .int (nI i)), (2, .int (nI j)), (3, .int (nI o))]) hx hb dX5_isSilentBut_38 hl (k := 4) rfl (nI_1 _) (by decide) rfl (fun ls hl => ?_)
            refine lv_goto (tgt := 3) hx hb dX5_isSilentBut_41 (by decide) ?_
            exact ih3 (a + 1) (by omega) ((sil_s (Or.inr c33_6)).trans es) (by omega) _ _ _ hP hD hS (lv_sub hl [1, 2, 3, 4, 0] rfl)
          · skip
            refine lv_iconst (v := 0) hx hb dX5_isSilentBut_36 (by decide) ?_
            refine W.widen (k := 0) (n := 0) (Nat.le_of_ble_eq_true rfl) (Nat.le_of_ble_eq_true rfl) ?_
            exact k_rz hx hb hr hlocks hS hP hD rfl ⟨rfl, (sil_0 hao c33_6 n hj9)⟩ dX5_isSilentBut_37
  exact loop3 _ 0 (Nat.zero_le n) rfl (Nat.lt_succ_self _) _ _ _ hP hD hS (lv_sub hl [1, 2, 3, 4, 0] rfl)

def po_J7_fill_53178 (g : GG) (a0 : Nat) (f : Nat → Int32) : va_W → Prop := fun w => ∃ (f1 : Nat → Int32), w = [(a0, ai g 648 f1)] ∧ (∀ j, j < 648 → f1 j = 0)
set_option maxHeartbeats 1500000 in
set_option maxRecDepth 100000 in
theorem c_J7_fill_53178 (l : Launch) (g : GG) (a0 : Nat) (f : Nat → Int32)  (sz : Nat) : MetV l yJ7_fill_53178 wsJ7_fill_53178 ({ frames := 0, cells := 0, slots := 0, locals := 0 }) g [.ref a0, .int 0] [(a0, ai g 648 f)] sz (po_J7_fill_53178 g a0 f) 0 0 := by
  refine k_of (l := l) (y := yJ7_fill_53178) (ws := wsJ7_fill_53178) (rm := { frames := 0, cells := 0, slots := 0, locals := 0 }) (mc := 0) (ms := 0) (av := [.ref a0, .int 0]) (g := g) (wc := [(a0, ai g 648 f)]) (Qc := fun A => va_Qv (po_J7_fill_53178 g a0 f) (bk g A) A) (cc := cJ7_fill_53178) (maxL := 4) (ret := none) (by decide) rfl (Nat.le_of_ble_eq_true rfl) ?_ sz
  intro p e s m below meth c hx hb hr hts hown hlocks hnm hml A hA hE hZ hP hD hS ls hl
  have hown : s.vm.findClass RJ7 = some m.cls := hown
  have hl : lv_has ls 4 [(0, .ref a0), (1, .int 0)] := hl
  refine lv_iconst (v := 0) hx hb dJ7_fill_53178_0 (by decide) ?_
  refine lv_istore_n (lv' := [(2, .int 0), (0, .ref a0), (1, .int 0)]) hx hb dJ7_fill_53178_1 rfl hl (by decide) rfl (fun ls hl => ?_)
  refine lv_aload_n hx hb dJ7_fill_53178_2 rfl (lv_at hl 1 rfl) ?_
  refine va_alen (D := g.1) (v := 648) hx hb hE.1 hP 0 0 rfl rfl rfl dJ7_fill_53178_3 ?_
  refine lv_istore_n (lv' := [(3, .int 648), (2, .int 0), (0, .ref a0), (1, .int 0)]) hx hb dJ7_fill_53178_4 rfl hl (by decide) rfl (fun ls hl => ?_)
  have loop5 : ∀ (fu : Nat) (j : Nat) (u : Nat → Int32), (hj : j ≤ 648) → (hu : ∀ t, t < j → u t = 0) → 648 - j < fu → ∀ (H : Heap) (locs : List Loc) (ls : Array Slot), va_P g.1 vwCl [(a0, ai g 648 u)] H → va_D A [(a0, ai g 648 u)] → va_S A s.heap H locs → lv_has ls 4 [(0, .ref a0), (1, .int 0), (2, .int (nI j)), (3, .int 648)] → W p l e ({ frames := 0, cells := 0, slots := 0, locals := 0 }) s m [.ref a0, .int 0].toArray below meth c H locs 0 0 (MQ below (va_Qv (po_J7_fill_53178 g a0 f) (bk g A) A) [.ref a0, .int 0].toArray s 0 0 A) (F0 m 5 ls []) := by
    intro fu
    induction fu with
    | zero => intro j u hj hu hfu; exact absurd hfu (Nat.not_lt_zero _)
    | succ fu ih =>
      intro j u hj hu hfu H locs ls hP hD hS hl
      have ih5 := ih
      refine lv_iload_n hx hb dJ7_fill_53178_5 rfl (lv_at hl 2 rfl) ?_
      refine lv_iload_n hx hb dJ7_fill_53178_6 rfl (lv_at hl 3 rfl) ?_
      refine lv_icmp_ge (tgt := 20) hx hb dJ7_fill_53178_7 (by decide) (fun c7_1 => ?_) (fun c7_1 => ?_)
      · skip
        have hj9 := ge_of_le (k := 648) (n := j) (by decide) (by omega) c7_1
        refine W.widen (k := 0) (n := 0) (Nat.le_of_ble_eq_true rfl) (Nat.le_of_ble_eq_true rfl) ?_
        exact k_rv hx hb hr hlocks hS hP hD ⟨u, rfl, (fun t ht => hu t (by omega))⟩ dJ7_fill_53178_20
      · skip
        have hj9 := lt_of_nle (k := 648) (n := j) (by decide) (by omega) c7_1
        refine lv_aload_n hx hb dJ7_fill_53178_10 rfl (lv_at hl 0 rfl) ?_
        refine lv_iload_n hx hb dJ7_fill_53178_11 rfl (lv_at hl 2 rfl) ?_
        refine lv_iload_n hx hb dJ7_fill_53178_12 rfl (lv_at hl 1 rfl) ?_
        refine k_ast (x := 0) j rfl (by omega) hx hb hE hP hD hS 0 rfl (by decide) dJ7_fill_53178_13 (fun H locs hP hD hS => ?_)
        have hP : va_P g.1 vwCl [(a0, ai g 648 (upd u j 0))] H := hP
        have hD : va_D A [(a0, ai g 648 (upd u j 0))] := hD
        refine lv_iinc (v := (nI (j + 1))) (lv' := [(2, .int (nI (j + 1))), (0, .ref a0), (1, .int 0), (3, .int 648)]) hx hb dJ7_fill_53178_14 hl (k := 2) rfl (nI_1 _) (by decide) rfl (fun ls hl => ?_)
        refine lv_goto (tgt := 5) hx hb dJ7_fill_53178_17 (by decide) ?_
        exact ih5 (j + 1) (upd u j 0) (by omega) (fun t ht => (Nat.lt_or_eq_of_le (Nat.le_of_lt_succ ht)).elim (fun h9 => (pk_un (Nat.ne_of_lt h9)).trans (hu t h9)) (fun h9 => by rw [h9, pk_us])) (by omega) _ _ _ hP hD hS (lv_sub hl [1, 2, 0, 3] rfl)
  exact loop5 _ 0 f (Nat.zero_le 648) (fun t ht => absurd ht (Nat.not_lt_zero t)) (Nat.lt_succ_self _) _ _ _ hP hD hS (lv_sub hl [2, 3, 1, 0] rfl)
def po_X8_mixed (g : GG) (v : Int64) (x : Int32) : Int64 → va_W → Prop := fun (r : Int64) w => w = [] ∧ (31 * v + x.toInt64 = r)
theorem q_X8_mixed_0 : (Cond.constantLong RX8 246 (31)) ∈ wsX8_mixed := by decide +kernel
set_option maxHeartbeats 1500000 in
set_option maxRecDepth 100000 in
theorem c_X8_mixed (l : Launch) (g : GG) (v : Int64) (x : Int32)  (sz : Nat) : MetL l yX8_mixed wsX8_mixed ({ frames := 0, cells := 0, slots := 0, locals := 0 }) g [.long v, .int x] [] sz (po_X8_mixed g v x) 0 0 := by
  refine k_of (l := l) (y := yX8_mixed) (ws := wsX8_mixed) (rm := { frames := 0, cells := 0, slots := 0, locals := 0 }) (mc := 0) (ms := 0) (av := [.long v, .int x]) (g := g) (wc := []) (Qc := fun A => va_Ql (po_X8_mixed g v x) (bk g A) A) (cc := cX8_mixed) (maxL := 3) (ret := (some .long)) (by decide) rfl (Nat.le_of_ble_eq_true rfl) ?_ sz
  intro p e s m below meth c hx hb hr hts hown hlocks hnm hml A hA hE hZ hP hD hS ls hl
  have hown : s.vm.findClass RX8 = some m.cls := hown
  have hl : lv_has ls 3 [(0, .long v), (2, .int x)] := hl
  refine lv_ldc2 hx hb hown (hts (.constantLong RX8 246 (31)) q_X8_mixed_0) dX8_mixed_0 ?_
  refine lv_lload_n hx hb dX8_mixed_3 rfl (lv_at hl 0 rfl) ?_
  refine lv_lmul hx hb dX8_mixed_4 ?_
  refine lv_iload_n hx hb dX8_mixed_5 rfl (lv_at hl 1 rfl) ?_
  refine lv_i2l hx hb dX8_mixed_6 rfl ?_
  refine lv_ladd hx hb dX8_mixed_7 ?_
  refine W.widen (k := 0) (n := 0) (Nat.le_of_ble_eq_true rfl) (Nat.le_of_ble_eq_true rfl) ?_
  exact k_rl hx hb hr hlocks hS hP hD ⟨rfl, rfl⟩ dX8_mixed_8

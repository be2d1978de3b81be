def po_X1_drawSound (g : GG) (h0 : Nat) (dt : Nat) (cv : Int32) (fv : Int32) (k : Nat) : Int32 → va_W → Prop := fun (r : Int32) w => w = [(h0, .inr (1, [.int (nI (nx k)), .int cv, .int fv, .ref dt]))] ∧ (nI (so (nx k)) = r)
theorem q_X1_drawSound_0 : (Cond.constantLong RX1 50 (1103515245)) ∈ wsX1_drawSound := by decide +kernel
theorem q_X1_drawSound_f1 : ∀ w ∈ u_ws RX1 TX1 4, w ∈ wsX1_drawSound := by decide +kernel
theorem q_X1_drawSound_2 : (Cond.fieldLink RX1 18 "SoundLaws$Draws" "seed" "I") ∈ wsX1_drawSound := by decide +kernel
theorem q_X1_drawSound_3 : (Cond.constantLong RX1 52 (12345)) ∈ wsX1_drawSound := by decide +kernel
theorem q_X1_drawSound_4 : (Cond.constantLong RX1 54 (2147483648)) ∈ wsX1_drawSound := by decide +kernel
theorem q_X1_drawSound_5 : (Cond.constant RX1 56 (65536)) ∈ wsX1_drawSound := by decide +kernel
set_option maxHeartbeats 1500000 in
set_option maxRecDepth 100000 in
theorem c_X1_drawSound (l : Launch) (g : GG) (h0 : Nat) (dt : Nat) (cv : Int32) (fv : Int32) (k : Nat) (hk : k < 2147483648) (sz : Nat) : MetI l yX1_drawSound wsX1_drawSound ({ frames := 0, cells := 0, slots := 0, locals := 0 }) g [.ref h0] [(h0, .inr (1, [.int (nI k), .int cv, .int fv, .ref dt]))] sz (po_X1_drawSound g h0 dt cv fv k) 0 0 := by
  refine k_of (l := l) (y := yX1_drawSound) (ws := wsX1_drawSound) (rm := { frames := 0, cells := 0, slots := 0, locals := 0 }) (mc := 0) (ms := 0) (av := [.ref h0]) (g := g) (wc := [(h0, .inr (1, [.int (nI k), .int cv, .int fv, .ref dt]))]) (Qc := fun A => va_Qi (po_X1_drawSound g h0 dt cv fv k) (bk g A) A) (cc := cX1_drawSound) (maxL := 1) (ret := (some .int)) (by decide) rfl (Nat.le_of_ble_eq_true rfl) ?_ sz
  intro p e s m below meth c hx hb hr hts hown hlocks hnm hml A hA hE hZ hP hD hS ls hl
  have hown : s.vm.findClass RX1 = some m.cls := hown
  have hl : lv_has ls 1 [(0, .ref h0)] := hl
  refine lv_aload_n hx hb dX1_drawSound_0 rfl (lv_at hl 0 rfl) ?_
  refine lv_ldc2 hx hb hown (hts (.constantLong RX1 50 (1103515245)) q_X1_drawSound_0) dX1_drawSound_1 ?_
  refine lv_aload_n hx hb dX1_drawSound_4 rfl (lv_at hl 0 rfl) ?_
  refine va_get (D := g.1) (ci := 1) (v := .int (nI k)) (C := RX1) (T := TX1) (N := 4) hx hb hts q_X1_drawSound_f1 hown hE.1 hP 0 rfl rfl 0 (by decide) (hts (.fieldLink RX1 18 "SoundLaws$Draws" "seed" "I") q_X1_drawSound_2) (fun _ h9 => h9) rfl dX1_drawSound_5 ?_
  refine lv_i2l hx hb dX1_drawSound_8 rfl ?_
  refine lv_lmul hx hb dX1_drawSound_9 ?_
  refine lv_ldc2 hx hb hown (hts (.constantLong RX1 52 (12345)) q_X1_drawSound_3) dX1_drawSound_10 ?_
  refine lv_ladd hx hb dX1_drawSound_13 ?_
  refine lv_ldc2 hx hb hown (hts (.constantLong RX1 54 (2147483648)) q_X1_drawSound_4) dX1_drawSound_14 ?_
  refine lv_lrem hx hb dX1_drawSound_17 (by decide) ?_
  refine lv_l2i hx hb dX1_drawSound_18 rfl ?_
  refine lv_topi (fun x_1 ex_1 => ?_)
  obtain rfl : x_1 = nI (nx k) := by rw [ex_1]; exact nx_int hk
  refine va_put (D := g.1) (ci := 1) (v := .int (nI (nx k))) (ty := .int) (C := RX1) (T := TX1) (N := 4) hx hb hts q_X1_drawSound_f1 tyX1 tyX1_ok nmX1 hown hE.1 hP hD hS 0 rfl rfl 0 (by decide) (hts (.fieldLink RX1 18 "SoundLaws$Draws" "seed" "I") q_X1_drawSound_2) (fun _ h9 => h9) rfl (by decide +kernel) rfl rfl (Nat.le_of_ble_eq_true rfl) dX1_drawSound_19 (fun H locs hP hD hS => ?_)
  have hP : va_P g.1 vwCl [(h0, .inr (1, [.int (nI (nx k)), .int cv, .int fv, .ref dt]))] H := hP
  have hD : va_D A [(h0, .inr (1, [.int (nI (nx k)), .int cv, .int fv, .ref dt]))] := hD
  refine lv_aload_n hx hb dX1_drawSound_22 rfl (lv_at hl 0 rfl) ?_
  refine va_get (D := g.1) (ci := 1) (v := .int (nI (nx k))) (C := RX1) (T := TX1) (N := 4) hx hb hts q_X1_drawSound_f1 hown hE.1 hP 0 rfl rfl 0 (by decide) (hts (.fieldLink RX1 18 "SoundLaws$Draws" "seed" "I") q_X1_drawSound_2) (fun _ h9 => h9) rfl dX1_drawSound_23 ?_
  refine lv_ldc hx hb hown (hts (.constant RX1 56 (65536)) q_X1_drawSound_5) dX1_drawSound_26 ?_
  refine lv_idiv hx hb dX1_drawSound_28 (by decide) ?_
  refine lv_topi (fun x_2 ex_2 => ?_)
  obtain rfl : x_2 = nI (nx k / 65536) := by rw [ex_2]; exact so_div (nx_lt k)
  refine lv_bipush (v := 9) hx hb dX1_drawSound_29 (by decide) ?_
  refine lv_irem hx hb dX1_drawSound_31 (by decide) ?_
  refine lv_topi (fun x_3 ex_3 => ?_)
  obtain rfl : x_3 = nI (so (nx k)) := by rw [ex_3]; exact so_rem (nx_lt k)
  refine W.widen (k := 0) (n := 0) (Nat.le_of_ble_eq_true rfl) (Nat.le_of_ble_eq_true rfl) ?_
  exact k_ri hx hb hr hlocks hS hP hD ⟨rfl, rfl⟩ dX1_drawSound_32
def po_X1_isForeign (g : GG) (h0 : Nat) (dt : Nat) (t1 : Nat) (t2 : Nat) (sv : Int32) (cv : Int32) (fv : Int32) (tg : Int32) (old : Int32) (f : Nat → Int32) : Int32 → va_W → Prop := fun (r : Int32) w => w = [(h0, .inr (1, [.int sv, .int cv, .int fv, .ref dt])), (dt, .inr (7, [.int tg, .ref t1, .ref t2])), (t1, ai g 7 f)] ∧ (fz f old = r)
theorem q_X1_isForeign_f1 : ∀ w ∈ u_ws RX1 TX1 4, w ∈ wsX1_isForeign := by decide +kernel
theorem q_X1_isForeign_1 : (Cond.fieldLink RX1 12 "SoundLaws$Draws" "tree" "LSoundLaws$Tree;") ∈ wsX1_isForeign := by decide +kernel
theorem q_X1_isForeign_f7 : ∀ w ∈ u_ws RX7 TX7 3, w ∈ wsX1_isForeign := by decide +kernel
theorem q_X1_isForeign_3 : (Cond.fieldLink RX1 32 "SoundLaws$Tree" "sounds" "[I") ∈ wsX1_isForeign := by decide +kernel
set_option maxHeartbeats 1500000 in
set_option maxRecDepth 100000 in
theorem c_X1_isForeign (l : Launch) (g : GG) (h0 : Nat) (dt : Nat) (t1 : Nat) (t2 : Nat) (sv : Int32) (cv : Int32) (fv : Int32) (tg : Int32) (old : Int32) (f : Nat → Int32)  (sz : Nat) : MetI l yX1_isForeign wsX1_isForeign ({ frames := 0, cells := 0, slots := 0, locals := 0 }) g [.ref h0, .int old] [(h0, .inr (1, [.int sv, .int cv, .int fv, .ref dt])), (dt, .inr (7, [.int tg, .ref t1, .ref t2])), (t1, ai g 7 f)] sz (po_X1_isForeign g h0 dt t1 t2 sv cv fv tg old f) 0 0 := by
  refine k_of (l := l) (y := yX1_isForeign) (ws := wsX1_isForeign) (rm := { frames := 0, cells := 0, slots := 0, locals := 0 }) (mc := 0) (ms := 0) (av := [.ref h0, .int old]) (g := g) (wc := [(h0, .inr (1, [.int sv, .int cv, .int fv, .ref dt])), (dt, .inr (7, [.int tg, .ref t1, .ref t2])), (t1, ai g 7 f)]) (Qc := fun A => va_Qi (po_X1_isForeign g h0 dt t1 t2 sv cv fv tg old f) (bk g A) A) (cc := cX1_isForeign) (maxL := 3) (ret := (some .boolean)) (by decide) rfl (Nat.le_of_ble_eq_true rfl) ?_ sz
  intro p e s m below meth c hx hb hr hts hown hlocks hnm hml A hA hE hZ hP hD hS ls hl
  have hown : s.vm.findClass RX1 = some m.cls := hown
  have hl : lv_has ls 3 [(0, .ref h0), (1, .int old)] := hl
  refine lv_iconst (v := 0) hx hb dX1_isForeign_0 (by decide) ?_
  refine lv_istore_n (lv' := [(2, .int 0), (0, .ref h0), (1, .int old)]) hx hb dX1_isForeign_1 rfl hl (by decide) rfl (fun ls hl => ?_)
  refine lv_iload_n hx hb dX1_isForeign_2 rfl (lv_at hl 0 rfl) ?_
  refine lv_iconst (v := 4) hx hb dX1_isForeign_3 (by decide) ?_
  refine lv_icmp_ge (tgt := 28) hx hb dX1_isForeign_4 (by decide) (fun c4_1 => ?_) (fun c4_1 => ?_)
  · exact absurd c4_1 (by decide)
  · skip
    refine lv_aload_n hx hb dX1_isForeign_7 rfl (lv_at hl 1 rfl) ?_
    refine va_get (D := g.1) (ci := 1) (v := .ref dt) (C := RX1) (T := TX1) (N := 4) hx hb hts q_X1_isForeign_f1 hown hE.1 hP 0 rfl rfl 3 (by decide) (hts (.fieldLink RX1 12 "SoundLaws$Draws" "tree" "LSoundLaws$Tree;") q_X1_isForeign_1) (fun _ h9 => h9) rfl dX1_isForeign_8 ?_
    refine va_get (D := g.1) (ci := 7) (v := .ref t1) (C := RX7) (T := TX7) (N := 3) hx hb hts q_X1_isForeign_f7 hown hE.1 hP 1 rfl rfl 1 (by decide) (hts (.fieldLink RX1 32 "SoundLaws$Tree" "sounds" "[I") q_X1_isForeign_3) (fun _ h9 => h9) rfl dX1_isForeign_11 ?_
    refine lv_iload_n hx hb dX1_isForeign_14 rfl (lv_at hl 0 rfl) ?_
    refine k_ald 0 (by decide) (by decide) hx hb hE hP 2 rfl (by decide) dX1_isForeign_15 ?_
    refine lv_iload_n hx hb dX1_isForeign_16 rfl (lv_at hl 2 rfl) ?_
    refine lv_icmp_ne (tgt := 22) hx hb dX1_isForeign_17 (by decide) (fun c17_2 => ?_) (fun c17_2 => ?_)
    · skip
      refine lv_iinc (v := 1) (lv' := [(2, .int 1), (0, .ref h0), (1, .int old)]) hx hb dX1_isForeign_22 hl (k := 0) rfl (by decide) (by decide) rfl (fun ls hl => ?_)
      refine lv_goto (tgt := 2) hx hb dX1_isForeign_25 (by decide) ?_
      refine lv_iload_n hx hb dX1_isForeign_2 rfl (lv_at hl 0 rfl) ?_
      refine lv_iconst (v := 4) hx hb dX1_isForeign_3 (by decide) ?_
      refine lv_icmp_ge (tgt := 28) hx hb dX1_isForeign_4 (by decide) (fun c4_3 => ?_) (fun c4_3 => ?_)
      · exact absurd c4_3 (by decide)
      · skip
        refine lv_aload_n hx hb dX1_isForeign_7 rfl (lv_at hl 1 rfl) ?_
        refine va_get (D := g.1) (ci := 1) (v := .ref dt) (C := RX1) (T := TX1) (N := 4) hx hb hts q_X1_isForeign_f1 hown hE.1 hP 0 rfl rfl 3 (by decide) (hts (.fieldLink RX1 12 "SoundLaws$Draws" "tree" "LSoundLaws$Tree;") q_X1_isForeign_1) (fun _ h9 => h9) rfl dX1_isForeign_8 ?_
        refine va_get (D := g.1) (ci := 7) (v := .ref t1) (C := RX7) (T := TX7) (N := 3) hx hb hts q_X1_isForeign_f7 hown hE.1 hP 1 rfl rfl 1 (by decide) (hts (.fieldLink RX1 32 "SoundLaws$Tree" "sounds" "[I") q_X1_isForeign_3) (fun _ h9 => h9) rfl dX1_isForeign_11 ?_
        refine lv_iload_n hx hb dX1_isForeign_14 rfl (lv_at hl 0 rfl) ?_
        refine k_ald 1 (by decide) (by decide) hx hb hE hP 2 rfl (by decide) dX1_isForeign_15 ?_
        refine lv_iload_n hx hb dX1_isForeign_16 rfl (lv_at hl 2 rfl) ?_
        refine lv_icmp_ne (tgt := 22) hx hb dX1_isForeign_17 (by decide) (fun c17_4 => ?_) (fun c17_4 => ?_)
        · skip
          refine lv_iinc (v := 2) (lv' := [(2, .int 2), (0, .ref h0), (1, .int old)]) hx hb dX1_isForeign_22 hl (k := 0) rfl (by decide) (by decide) rfl (fun ls hl => ?_)
          refine lv_goto (tgt := 2) hx hb dX1_isForeign_25 (by decide) ?_
          refine lv_iload_n hx hb dX1_isForeign_2 rfl (lv_at hl 0 rfl) ?_
          refine lv_iconst (v := 4) hx hb dX1_isForeign_3 (by decide) ?_
          refine lv_icmp_ge (tgt := 28) hx hb dX1_isForeign_4 (by decide) (fun c4_5 => ?_) (fun c4_5 => ?_)
          · exact absurd c4_5 (by decide)
          · skip
            refine lv_aload_n hx hb dX1_isForeign_7 rfl (lv_at hl 1 rfl) ?_
            refine va_get (D := g.1) (ci := 1) (v := .ref dt) (C := RX1) (T := TX1) (N := 4) hx hb hts q_X1_isForeign_f1 hown hE.1 hP 0 rfl rfl 3 (by decide) (hts (.fieldLink RX1 12 "SoundLaws$Draws" "tree" "LSoundLaws$Tree;") q_X1_isForeign_1) (fun _ h9 => h9) rfl dX1_isForeign_8 ?_
            refine va_get (D := g.1) (ci := 7) (v := .ref t1) (C := RX7) (T := TX7) (N := 3) hx hb hts q_X1_isForeign_f7 hown hE.1 hP 1 rfl rfl 1 (by decide) (hts (.fieldLink RX1 32 "SoundLaws$Tree" "sounds" "[I") q_X1_isForeign_3) (fun _ h9 => h9) rfl dX1_isForeign_11 ?_
            refine lv_iload_n hx hb dX1_isForeign_14 rfl (lv_at hl 0 rfl) ?_
            refine k_ald 2 (by decide) (by decide) hx hb hE hP 2 rfl (by decide) dX1_isForeign_15 ?_
            refine lv_iload_n hx hb dX1_isForeign_16 rfl (lv_at hl 2 rfl) ?_
            refine lv_icmp_ne (tgt := 22) hx hb dX1_isForeign_17 (by decide) (fun c17_6 => ?_) (fun c17_6 => ?_)
            · skip
              refine lv_iinc (v := 3) (lv' := [(2, .int 3), (0, .ref h0), (1, .int old)]) hx hb dX1_isForeign_22 hl (k := 0) rfl (by decide) (by decide) rfl (fun ls hl => ?_)
              refine lv_goto (tgt := 2) hx hb dX1_isForeign_25 (by decide) ?_
              refine lv_iload_n hx hb dX1_isForeign_2 rfl (lv_at hl 0 rfl) ?_
              refine lv_iconst (v := 4) hx hb dX1_isForeign_3 (by decide) ?_
              refine lv_icmp_ge (tgt := 28) hx hb dX1_isForeign_4 (by decide) (fun c4_7 => ?_) (fun c4_7 => ?_)
              · exact absurd c4_7 (by decide)
              · skip
                refine lv_aload_n hx hb dX1_isForeign_7 rfl (lv_at hl 1 rfl) ?_
                refine va_get (D := g.1) (ci := 1) (v := .ref dt) (C := RX1) (T := TX1) (N := 4) hx hb hts q_X1_isForeign_f1 hown hE.1 hP 0 rfl rfl 3 (by decide) (hts (.fieldLink RX1 12 "SoundLaws$Draws" "tree" "LSoundLaws$Tree;") q_X1_isForeign_1) (fun _ h9 => h9) rfl dX1_isForeign_8 ?_
                refine va_get (D := g.1) (ci := 7) (v := .ref t1) (C := RX7) (T := TX7) (N := 3) hx hb hts q_X1_isForeign_f7 hown hE.1 hP 1 rfl rfl 1 (by decide) (hts (.fieldLink RX1 32 "SoundLaws$Tree" "sounds" "[I") q_X1_isForeign_3) (fun _ h9 => h9) rfl dX1_isForeign_11 ?_
                refine lv_iload_n hx hb dX1_isForeign_14 rfl (lv_at hl 0 rfl) ?_
                refine k_ald 3 (by decide) (by decide) hx hb hE hP 2 rfl (by decide) dX1_isForeign_15 ?_
                refine lv_iload_n hx hb dX1_isForeign_16 rfl (lv_at hl 2 rfl) ?_
                refine lv_icmp_ne (tgt := 22) hx hb dX1_isForeign_17 (by decide) (fun c17_8 => ?_) (fun c17_8 => ?_)
                · skip
                  refine lv_iinc (v := 4) (lv' := [(2, .int 4), (0, .ref h0), (1, .int old)]) hx hb dX1_isForeign_22 hl (k := 0) rfl (by decide) (by decide) rfl (fun ls hl => ?_)
                  refine lv_goto (tgt := 2) hx hb dX1_isForeign_25 (by decide) ?_
                  refine lv_iload_n hx hb dX1_isForeign_2 rfl (lv_at hl 0 rfl) ?_
                  refine lv_iconst (v := 4) hx hb dX1_isForeign_3 (by decide) ?_
                  refine lv_icmp_ge (tgt := 28) hx hb dX1_isForeign_4 (by decide) (fun c4_9 => ?_) (fun c4_9 => ?_)
                  · skip
                    refine lv_iconst (v := 1) hx hb dX1_isForeign_28 (by decide) ?_
                    refine W.widen (k := 0) (n := 0) (Nat.le_of_ble_eq_true rfl) (Nat.le_of_ble_eq_true rfl) ?_
                    exact k_rz hx hb hr hlocks hS hP hD rfl ⟨rfl, (by simp [fz, c17_2, c17_4, c17_6, c17_8])⟩ dX1_isForeign_29
                  · exact absurd c4_9 (by decide)
                · skip
                  refine lv_iconst (v := 0) hx hb dX1_isForeign_20 (by decide) ?_
                  refine W.widen (k := 0) (n := 0) (Nat.le_of_ble_eq_true rfl) (Nat.le_of_ble_eq_true rfl) ?_
                  exact k_rz hx hb hr hlocks hS hP hD rfl ⟨rfl, (by simp [fz, c17_2, c17_4, c17_6, c17_8])⟩ dX1_isForeign_21
            · skip
              refine lv_iconst (v := 0) hx hb dX1_isForeign_20 (by decide) ?_
              refine W.widen (k := 0) (n := 0) (Nat.le_of_ble_eq_true rfl) (Nat.le_of_ble_eq_true rfl) ?_
              exact k_rz hx hb hr hlocks hS hP hD rfl ⟨rfl, (by simp [fz, c17_2, c17_4, c17_6])⟩ dX1_isForeign_21
        · skip
          refine lv_iconst (v := 0) hx hb dX1_isForeign_20 (by decide) ?_
          refine W.widen (k := 0) (n := 0) (Nat.le_of_ble_eq_true rfl) (Nat.le_of_ble_eq_true rfl) ?_
          exact k_rz hx hb hr hlocks hS hP hD rfl ⟨rfl, (by simp [fz, c17_2, c17_4])⟩ dX1_isForeign_21
    · skip
      refine lv_iconst (v := 0) hx hb dX1_isForeign_20 (by decide) ?_
      refine W.widen (k := 0) (n := 0) (Nat.le_of_ble_eq_true rfl) (Nat.le_of_ble_eq_true rfl) ?_
      exact k_rz hx hb hr hlocks hS hP hD rfl ⟨rfl, (by simp [fz, c17_2])⟩ dX1_isForeign_21
def po_X1_drawSets (g : GG) (h0 : Nat) (dt : Nat) (t1 : Nat) (t2 : Nat) (sv : Int32) (cv : Int32) (fv : Int32) (tg : Int32) (f0 : Nat → Int32) (fl0 : Nat → Int32) (n : Nat) (k : Nat) : va_W → Prop := fun w => ∃ (f1 : Nat → Int32) (fl1 : Nat → Int32), w = [(h0, .inr (1, [.int (nI (drS k n)), .int (drC k n), .int (drF k n), .ref dt])), (dt, .inr (7, [.int 4, .ref t1, .ref t2])), (t1, ai g 7 f1), (t2, ai g 63 fl1)]
theorem q_X1_drawSets_f1 : ∀ w ∈ u_ws RX1 TX1 4, w ∈ wsX1_drawSets := by decide +kernel
theorem q_X1_drawSets_1 : (Cond.fieldLink RX1 18 "SoundLaws$Draws" "seed" "I") ∈ wsX1_drawSets := by decide +kernel
theorem q_X1_drawSets_2 : (Cond.fieldLink RX1 22 "SoundLaws$Draws" "changes" "I") ∈ wsX1_drawSets := by decide +kernel
theorem q_X1_drawSets_3 : (Cond.fieldLink RX1 25 "SoundLaws$Draws" "foreign" "I") ∈ wsX1_drawSets := by decide +kernel
theorem q_X1_drawSets_4 : (Cond.fieldLink RX1 12 "SoundLaws$Draws" "tree" "LSoundLaws$Tree;") ∈ wsX1_drawSets := by decide +kernel
theorem q_X1_drawSets_f7 : ∀ w ∈ u_ws RX7 TX7 3, w ∈ wsX1_drawSets := by decide +kernel
theorem q_X1_drawSets_6 : (Cond.fieldLink RX1 32 "SoundLaws$Tree" "sounds" "[I") ∈ wsX1_drawSets := by decide +kernel
set_option maxHeartbeats 1500000 in
set_option maxRecDepth 100000 in
theorem c_X1_drawSets (l : Launch) (g : GG) (h0 : Nat) (dt : Nat) (t1 : Nat) (t2 : Nat) (sv : Int32) (cv : Int32) (fv : Int32) (tg : Int32) (f0 : Nat → Int32) (fl0 : Nat → Int32) (n : Nat) (k : Nat) (hn : n ≤ 40) (hk : k < 2147483648) (sz : Nat) : MetV l yX1_drawSets wsX1_drawSets ({ frames := 2, cells := 0, slots := 0, locals := 51 }) g [.ref h0, .int (nI n), .int (nI k)] [(h0, .inr (1, [.int sv, .int cv, .int fv, .ref dt])), (dt, .inr (7, [.int tg, .ref t1, .ref t2])), (t1, ai g 7 f0), (t2, ai g 63 fl0)] sz (po_X1_drawSets g h0 dt t1 t2 sv cv fv tg f0 fl0 n k) 0 0 := by
  refine k_of (l := l) (y := yX1_drawSets) (ws := wsX1_drawSets) (rm := { frames := 2, cells := 0, slots := 0, locals := 51 }) (mc := 0) (ms := 0) (av := [.ref h0, .int (nI n), .int (nI k)]) (g := g) (wc := [(h0, .inr (1, [.int sv, .int cv, .int fv, .ref dt])), (dt, .inr (7, [.int tg, .ref t1, .ref t2])), (t1, ai g 7 f0), (t2, ai g 63 fl0)]) (Qc := fun A => va_Qv (po_X1_drawSets g h0 dt t1 t2 sv cv fv tg f0 fl0 n k) (bk g A) A) (cc := cX1_drawSets) (maxL := 5) (ret := none) (by decide) rfl (Nat.le_of_ble_eq_true rfl) ?_ sz
  intro p e s m below meth c hx hb hr hts hown hlocks hnm hml A hA hE hZ hP hD hS ls hl
  have hown : s.vm.findClass RX1 = some m.cls := hown
  have hl : lv_has ls 5 [(0, .ref h0), (1, .int (nI n)), (2, .int (nI k))] := hl
  refine lv_aload_n hx hb dX1_drawSets_0 rfl (lv_at hl 0 rfl) ?_
  refine lv_iload_n hx hb dX1_drawSets_1 rfl (lv_at hl 2 rfl) ?_
  refine va_put (D := g.1) (ci := 1) (v := .int (nI k)) (ty := .int) (C := RX1) (T := TX1) (N := 4) hx hb hts q_X1_drawSets_f1 tyX1 tyX1_ok nmX1 hown hE.1 hP hD hS 0 rfl rfl 0 (by decide) (hts (.fieldLink RX1 18 "SoundLaws$Draws" "seed" "I") q_X1_drawSets_1) (fun _ h9 => h9) rfl (by decide +kernel) rfl rfl (Nat.le_of_ble_eq_true rfl) dX1_drawSets_2 (fun H locs hP hD hS => ?_)
  have hP : va_P g.1 vwCl [(h0, .inr (1, [.int (nI k), .int cv, .int fv, .ref dt])), (dt, .inr (7, [.int tg, .ref t1, .ref t2])), (t1, ai g 7 f0), (t2, ai g 63 fl0)] H := hP
  have hD : va_D A [(h0, .inr (1, [.int (nI k), .int cv, .int fv, .ref dt])), (dt, .inr (7, [.int tg, .ref t1, .ref t2])), (t1, ai g 7 f0), (t2, ai g 63 fl0)] := hD
  refine lv_aload_n hx hb dX1_drawSets_5 rfl (lv_at hl 0 rfl) ?_
  refine lv_iconst (v := 0) hx hb dX1_drawSets_6 (by decide) ?_
  refine va_put (D := g.1) (ci := 1) (v := .int 0) (ty := .int) (C := RX1) (T := TX1) (N := 4) hx hb hts q_X1_drawSets_f1 tyX1 tyX1_ok nmX1 hown hE.1 hP hD hS 0 rfl rfl 1 (by decide) (hts (.fieldLink RX1 22 "SoundLaws$Draws" "changes" "I") q_X1_drawSets_2) (fun _ h9 => h9) rfl (by decide +kernel) rfl rfl (Nat.le_of_ble_eq_true rfl) dX1_drawSets_7 (fun H locs hP hD hS => ?_)
  have hP : va_P g.1 vwCl [(h0, .inr (1, [.int (nI k), .int 0, .int fv, .ref dt])), (dt, .inr (7, [.int tg, .ref t1, .ref t2])), (t1, ai g 7 f0), (t2, ai g 63 fl0)] H := hP
  have hD : va_D A [(h0, .inr (1, [.int (nI k), .int 0, .int fv, .ref dt])), (dt, .inr (7, [.int tg, .ref t1, .ref t2])), (t1, ai g 7 f0), (t2, ai g 63 fl0)] := hD
  refine lv_aload_n hx hb dX1_drawSets_10 rfl (lv_at hl 0 rfl) ?_
  refine lv_iconst (v := 0) hx hb dX1_drawSets_11 (by decide) ?_
  refine va_put (D := g.1) (ci := 1) (v := .int 0) (ty := .int) (C := RX1) (T := TX1) (N := 4) hx hb hts q_X1_drawSets_f1 tyX1 tyX1_ok nmX1 hown hE.1 hP hD hS 0 rfl rfl 2 (by decide) (hts (.fieldLink RX1 25 "SoundLaws$Draws" "foreign" "I") q_X1_drawSets_3) (fun _ h9 => h9) rfl (by decide +kernel) rfl rfl (Nat.le_of_ble_eq_true rfl) dX1_drawSets_12 (fun H locs hP hD hS => ?_)
  have hP : va_P g.1 vwCl [(h0, .inr (1, [.int (nI k), .int 0, .int 0, .ref dt])), (dt, .inr (7, [.int tg, .ref t1, .ref t2])), (t1, ai g 7 f0), (t2, ai g 63 fl0)] H := hP
  have hD : va_D A [(h0, .inr (1, [.int (nI k), .int 0, .int 0, .ref dt])), (dt, .inr (7, [.int tg, .ref t1, .ref t2])), (t1, ai g 7 f0), (t2, ai g 63 fl0)] := hD
  refine lv_aload_n hx hb dX1_drawSets_15 rfl (lv_at hl 0 rfl) ?_
  refine va_get (D := g.1) (ci := 1) (v := .ref dt) (C := RX1) (T := TX1) (N := 4) hx hb hts q_X1_drawSets_f1 hown hE.1 hP 0 rfl rfl 3 (by decide) (hts (.fieldLink RX1 12 "SoundLaws$Draws" "tree" "LSoundLaws$Tree;") q_X1_drawSets_4) (fun _ h9 => h9) rfl dX1_drawSets_16 ?_
  refine lv_iconst (v := 4) hx hb dX1_drawSets_19 (by decide) ?_
  refine k_cv (wr := [(h0, .inr (1, [.int (nI k), .int 0, .int 0, .ref dt])), (t1, ai g 7 f0), (t2, ai g 63 fl0)]) hP hD hS hA [1] [0, 2, 3] rfl rfl (by decide) (by decide) (va_runV (As := [.int 4]) (rest := []) ⟨hx, hb, hml, hown, hts⟩ (c_X7_plant l g dt t1 t2 tg 4  H.size) (cwV 1 hts gX1_drawSets_X7_plant rfl rfl rfl (by decide +kernel) ⟨Nat.le_of_ble_eq_true rfl, Nat.le_of_ble_eq_true rfl⟩) (k_preV hE hZ hP hD hS hA [1] rfl (by decide) (va_recv hE.1 hP (ci := 7) (q0 := 1) rfl rfl)) rfl rfl hl.1 rfl (lv_room (Nat.le_of_ble_eq_true rfl)) dX1_drawSets_20 ⟨Nat.le_of_ble_eq_true rfl, Nat.le_of_ble_eq_true rfl⟩) (fun w1 H locs hw hP hD hS => ?_)
  obtain rfl := hw
  have hP : va_P g.1 vwCl [(h0, .inr (1, [.int (nI k), .int 0, .int 0, .ref dt])), (t1, ai g 7 f0), (t2, ai g 63 fl0), (dt, .inr (7, [.int 4, .ref t1, .ref t2]))] H := hP
  have hD : va_D A [(h0, .inr (1, [.int (nI k), .int 0, .int 0, .ref dt])), (t1, ai g 7 f0), (t2, ai g 63 fl0), (dt, .inr (7, [.int 4, .ref t1, .ref t2]))] := hD
  refine lv_iconst (v := 0) hx hb dX1_drawSets_23 (by decide) ?_
  refine lv_istore_n (lv' := [(3, .int 0), (0, .ref h0), (1, .int (nI n)), (2, .int (nI k))]) hx hb dX1_drawSets_24 rfl hl (by decide) rfl (fun ls hl => ?_)
  have loop25 : ∀ (fu : Nat) (i : Nat) (f fl : Nat → Int32), (hi : i ≤ n) → n - i < fu → ∀ (H : Heap) (locs : List Loc) (ls : Array Slot), va_P g.1 vwCl [(h0, .inr (1, [.int (nI (drS k i)), .int (drC k i), .int (drF k i), .ref dt])), (t1, ai g 7 f), (t2, ai g 63 fl), (dt, .inr (7, [.int 4, .ref t1, .ref t2]))] H → va_D A [(h0, .inr (1, [.int (nI (drS k i)), .int (drC k i), .int (drF k i), .ref dt])), (t1, ai g 7 f), (t2, ai g 63 fl), (dt, .inr (7, [.int 4, .ref t1, .ref t2]))] → va_S A s.heap H locs → lv_has ls 5 [(0, .ref h0), (1, .int (nI n)), (2, .int (nI k)), (3, .int (nI i))] → W p l e ({ frames := 2, cells := 0, slots := 0, locals := 51 }) s m [.ref h0, .int (nI n), .int (nI k)].toArray below meth c H locs 0 0 (MQ below (va_Qv (po_X1_drawSets g h0 dt t1 t2 sv cv fv tg f0 fl0 n k) (bk g A) A) [.ref h0, .int (nI n), .int (nI k)].toArray s 0 0 A) (F0 m 25 ls []) := by
    intro fu
    induction fu with
    | zero => intro i f fl hi hfu; exact absurd hfu (Nat.not_lt_zero _)
    | succ fu ih =>
      intro i f fl hi hfu H locs ls hP hD hS hl
      have ih25 := ih
      refine lv_iload_n hx hb dX1_drawSets_25 rfl (lv_at hl 3 rfl) ?_
      refine lv_iload_n hx hb dX1_drawSets_26 rfl (lv_at hl 1 rfl) ?_
      refine lv_icmp_ge (tgt := 113) hx hb dX1_drawSets_27 (by decide) (fun c27_2 => ?_) (fun c27_2 => ?_)
      · skip
        have hi9 := ge_of_le (k := n) (n := i) (by omega) (by omega) c27_2; obtain rfl : i = n := by omega
        refine W.widen (k := 0) (n := 0) (Nat.le_of_ble_eq_true rfl) (Nat.le_of_ble_eq_true rfl) ?_
        have hP9 := hP.sub (ws' := [(h0, .inr (1, [.int (nI (drS k i)), .int (drC k i), .int (drF k i), .ref dt])), (dt, .inr (7, [.int 4, .ref t1, .ref t2])), (t1, ai g 7 f), (t2, ai g 63 fl)]) [0, 3, 1, 2] rfl
        have hD9 := hD.sub (ws' := [(h0, .inr (1, [.int (nI (drS k i)), .int (drC k i), .int (drF k i), .ref dt])), (dt, .inr (7, [.int 4, .ref t1, .ref t2])), (t1, ai g 7 f), (t2, ai g 63 fl)]) [0, 3, 1, 2] (by decide) rfl
        exact k_rv hx hb hr hlocks hS hP9 hD9 ⟨f, fl, rfl⟩ dX1_drawSets_113
      · skip
        have hi9 := lt_of_nle (k := n) (n := i) (by omega) (by omega) c27_2
        refine lv_iconst (v := 0) hx hb dX1_drawSets_30 (by decide) ?_
        refine lv_istore (lv' := [(4, .int 0), (0, .ref h0), (1, .int (nI n)), (2, .int (nI k)), (3, .int (nI i))]) hx hb dX1_drawSets_31 hl (by decide) rfl (fun ls hl => ?_)
        refine lv_iload hx hb dX1_drawSets_33 (lv_at hl 0 rfl) ?_
        refine lv_iconst (v := 4) hx hb dX1_drawSets_35 (by decide) ?_
        refine lv_icmp_ge (tgt := 59) hx hb dX1_drawSets_36 (by decide) (fun c36_3 => ?_) (fun c36_3 => ?_)
        · exact absurd c36_3 (by decide)
        · skip
          refine lv_aload_n hx hb dX1_drawSets_39 rfl (lv_at hl 1 rfl) ?_
          refine va_get (D := g.1) (ci := 1) (v := .ref dt) (C := RX1) (T := TX1) (N := 4) hx hb hts q_X1_drawSets_f1 hown hE.1 hP 0 rfl rfl 3 (by decide) (hts (.fieldLink RX1 12 "SoundLaws$Draws" "tree" "LSoundLaws$Tree;") q_X1_drawSets_4) (fun _ h9 => h9) rfl dX1_drawSets_40 ?_
          refine va_get (D := g.1) (ci := 7) (v := .ref t1) (C := RX7) (T := TX7) (N := 3) hx hb hts q_X1_drawSets_f7 hown hE.1 hP 3 rfl rfl 1 (by decide) (hts (.fieldLink RX1 32 "SoundLaws$Tree" "sounds" "[I") q_X1_drawSets_6) (fun _ h9 => h9) rfl dX1_drawSets_43 ?_
          refine lv_iload hx hb dX1_drawSets_46 (lv_at hl 0 rfl) ?_
          refine lv_aload_n hx hb dX1_drawSets_48 rfl (lv_at hl 1 rfl) ?_
          refine k_ci (wr := [(t1, ai g 7 f), (t2, ai g 63 fl), (dt, .inr (7, [.int 4, .ref t1, .ref t2]))]) hP hD hS hA [0] [1, 2, 3] rfl rfl (by decide) (by decide) (va_runV (As := []) (rest := [.int 0, .ref t1]) ⟨hx, hb, hml, hown, hts⟩ (c_X1_drawSound l g h0 dt (drC k i) (drF k i) (drS k i) (drS_lt hk i) H.size) (cwV 0 hts gX1_drawSets_X1_drawSound rfl rfl rfl (by decide +kernel) ⟨Nat.le_of_ble_eq_true rfl, Nat.le_of_ble_eq_true rfl⟩) (k_preV hE hZ hP hD hS hA [0] rfl (by decide) (va_recv hE.1 hP (ci := 1) (q0 := 0) rfl rfl)) rfl rfl hl.1 rfl (lv_room (Nat.le_of_ble_eq_true rfl)) dX1_drawSets_49 ⟨Nat.le_of_ble_eq_true rfl, Nat.le_of_ble_eq_true rfl⟩) (fun r_4 w1 H locs hw hP hD hS => ?_)
          obtain ⟨rfl, rfl⟩ := hw
          have hP : va_P g.1 vwCl [(t1, ai g 7 f), (t2, ai g 63 fl), (dt, .inr (7, [.int 4, .ref t1, .ref t2])), (h0, .inr (1, [.int (nI (nx (drS k i))), .int (drC k i), .int (drF k i), .ref dt]))] H := hP
          have hD : va_D A [(t1, ai g 7 f), (t2, ai g 63 fl), (dt, .inr (7, [.int 4, .ref t1, .ref t2])), (h0, .inr (1, [.int (nI (nx (drS k i))), .int (drC k i), .int (drF k i), .ref dt]))] := hD
          refine k_ast (x := (nI (so (nx (drS k i))))) 0 (by decide) (by decide) hx hb hE hP hD hS 0 rfl (by decide) dX1_drawSets_52 (fun H locs hP hD hS => ?_)
          have hP : va_P g.1 vwCl [(t1, ai g 7 (upd f 0 (nI (so (nx (drS k i)))))), (t2, ai g 63 fl), (dt, .inr (7, [.int 4, .ref t1, .ref t2])), (h0, .inr (1, [.int (nI (nx (drS k i))), .int (drC k i), .int (drF k i), .ref dt]))] H := hP
          have hD : va_D A [(t1, ai g 7 (upd f 0 (nI (so (nx (drS k i)))))), (t2, ai g 63 fl), (dt, .inr (7, [.int 4, .ref t1, .ref t2])), (h0, .inr (1, [.int (nI (nx (drS k i))), .int (drC k i), .int (drF k i), .ref dt]))] := hD
          refine lv_iinc (v := 1) (lv' := [(4, .int 1), (0, .ref h0), (1, .int (nI n)), (2, .int (nI k)), (3, .int (nI i))]) hx hb dX1_drawSets_53 hl (k := 0) rfl (by decide) (by decide) rfl (fun ls hl => ?_)
          refine lv_goto (tgt := 33) hx hb dX1_drawSets_56 (by decide) ?_
          refine lv_iload hx hb dX1_drawSets_33 (lv_at hl 0 rfl) ?_
          refine lv_iconst (v := 4) hx hb dX1_drawSets_35 (by decide) ?_
          refine lv_icmp_ge (tgt := 59) hx hb dX1_drawSets_36 (by decide) (fun c36_6 => ?_) (fun c36_6 => ?_)
          · exact absurd c36_6 (by decide)
          · skip
            refine lv_aload_n hx hb dX1_drawSets_39 rfl (lv_at hl 1 rfl) ?_
            refine va_get (D := g.1) (ci := 1) (v := .ref dt) (C := RX1) (T := TX1) (N := 4) hx hb hts q_X1_drawSets_f1 hown hE.1 hP 3 rfl rfl 3 (by decide) (hts (.fieldLink RX1 12 "SoundLaws$Draws" "tree" "LSoundLaws$Tree;") q_X1_drawSets_4) (fun _ h9 => h9) rfl dX1_drawSets_40 ?_
            refine va_get (D := g.1) (ci := 7) (v := .ref t1) (C := RX7) (T := TX7) (N := 3) hx hb hts q_X1_drawSets_f7 hown hE.1 hP 2 rfl rfl 1 (by decide) (hts (.fieldLink RX1 32 "SoundLaws$Tree" "sounds" "[I") q_X1_drawSets_6) (fun _ h9 => h9) rfl dX1_drawSets_43 ?_
            refine lv_iload hx hb dX1_drawSets_46 (lv_at hl 0 rfl) ?_
            refine lv_aload_n hx hb dX1_drawSets_48 rfl (lv_at hl 1 rfl) ?_
            refine k_ci (wr := [(t1, ai g 7 (upd f 0 (nI (so (nx (drS k i)))))), (t2, ai g 63 fl), (dt, .inr (7, [.int 4, .ref t1, .ref t2]))]) hP hD hS hA [3] [0, 1, 2] rfl rfl (by decide) (by decide) (va_runV (As := []) (rest := [.int 1, .ref t1]) ⟨hx, hb, hml, hown, hts⟩ (c_X1_drawSound l g h0 dt (drC k i) (drF k i) (nx (drS k i)) (nx_lt _) H.size) (cwV 0 hts gX1_drawSets_X1_drawSound rfl rfl rfl (by decide +kernel) ⟨Nat.le_of_ble_eq_true rfl, Nat.le_of_ble_eq_true rfl⟩) (k_preV hE hZ hP hD hS hA [3] rfl (by decide) (va_recv hE.1 hP (ci := 1) (q0 := 3) rfl rfl)) rfl rfl hl.1 rfl (lv_room (Nat.le_of_ble_eq_true rfl)) dX1_drawSets_49 ⟨Nat.le_of_ble_eq_true rfl, Nat.le_of_ble_eq_true rfl⟩) (fun r_7 w1 H locs hw hP hD hS => ?_)
            obtain ⟨rfl, rfl⟩ := hw
            have hP : va_P g.1 vwCl [(t1, ai g 7 (upd f 0 (nI (so (nx (drS k i)))))), (t2, ai g 63 fl), (dt, .inr (7, [.int 4, .ref t1, .ref t2])), (h0, .inr (1, [.int (nI (nx (nx (drS k i)))), .int (drC k i), .int (drF k i), .ref dt]))] H := hP
            have hD : va_D A [(t1, ai g 7 (upd f 0 (nI (so (nx (drS k i)))))), (t2, ai g 63 fl), (dt, .inr (7, [.int 4, .ref t1, .ref t2])), (h0, .inr (1, [.int (nI (nx (nx (drS k i)))), .int (drC k i), .int (drF k i), .ref dt]))] := hD
            refine k_ast (x := (nI (so (nx (nx (drS k i)))))) 1 (by decide) (by decide) hx hb hE hP hD hS 0 rfl (by decide) dX1_drawSets_52 (fun H locs hP hD hS => ?_)
            have hP : va_P g.1 vwCl [(t1, ai g 7 (upd (upd f 0 (nI (so (nx (drS k i))))) 1 (nI (so (nx (nx (drS k i))))))), (t2, ai g 63 fl), (dt, .inr (7, [.int 4, .ref t1, .ref t2])), (h0, .inr (1, [.int (nI (nx (nx (drS k i)))), .int (drC k i), .int (drF k i), .ref dt]))] H := hP
            have hD : va_D A [(t1, ai g 7 (upd (upd f 0 (nI (so (nx (drS k i))))) 1 (nI (so (nx (nx (drS k i))))))), (t2, ai g 63 fl), (dt, .inr (7, [.int 4, .ref t1, .ref t2])), (h0, .inr (1, [.int (nI (nx (nx (drS k i)))), .int (drC k i), .int (drF k i), .ref dt]))] := hD
            refine lv_iinc (v := 2) (lv' := [(4, .int 2), (0, .ref h0), (1, .int (nI n)), (2, .int (nI k)), (3, .int (nI i))]) hx hb dX1_drawSets_53 hl (k := 0) rfl (by decide) (by decide) rfl (fun ls hl => ?_)
            refine lv_goto (tgt := 33) hx hb dX1_drawSets_56 (by decide) ?_
            refine lv_iload hx hb dX1_drawSets_33 (lv_at hl 0 rfl) ?_
            refine lv_iconst (v := 4) hx hb dX1_drawSets_35 (by decide) ?_
            refine lv_icmp_ge (tgt := 59) hx hb dX1_drawSets_36 (by decide) (fun c36_9 => ?_) (fun c36_9 => ?_)
            · exact absurd c36_9 (by decide)
            · skip
              refine lv_aload_n hx hb dX1_drawSets_39 rfl (lv_at hl 1 rfl) ?_
              refine va_get (D := g.1) (ci := 1) (v := .ref dt) (C := RX1) (T := TX1) (N := 4) hx hb hts q_X1_drawSets_f1 hown hE.1 hP 3 rfl rfl 3 (by decide) (hts (.fieldLink RX1 12 "SoundLaws$Draws" "tree" "LSoundLaws$Tree;") q_X1_drawSets_4) (fun _ h9 => h9) rfl dX1_drawSets_40 ?_
              refine va_get (D := g.1) (ci := 7) (v := .ref t1) (C := RX7) (T := TX7) (N := 3) hx hb hts q_X1_drawSets_f7 hown hE.1 hP 2 rfl rfl 1 (by decide) (hts (.fieldLink RX1 32 "SoundLaws$Tree" "sounds" "[I") q_X1_drawSets_6) (fun _ h9 => h9) rfl dX1_drawSets_43 ?_
              refine lv_iload hx hb dX1_drawSets_46 (lv_at hl 0 rfl) ?_
              refine lv_aload_n hx hb dX1_drawSets_48 rfl (lv_at hl 1 rfl) ?_
              refine k_ci (wr := [(t1, ai g 7 (upd (upd f 0 (nI (so (nx (drS k i))))) 1 (nI (so (nx (nx (drS k i))))))), (t2, ai g 63 fl), (dt, .inr (7, [.int 4, .ref t1, .ref t2]))]) hP hD hS hA [3] [0, 1, 2] rfl rfl (by decide) (by decide) (va_runV (As := []) (rest := [.int 2, .ref t1]) ⟨hx, hb, hml, hown, hts⟩ (c_X1_drawSound l g h0 dt (drC k i) (drF k i) (nx (nx (drS k i))) (nx_lt _) H.size) (cwV 0 hts gX1_drawSets_X1_drawSound rfl rfl rfl (by decide +kernel) ⟨Nat.le_of_ble_eq_true rfl, Nat.le_of_ble_eq_true rfl⟩) (k_preV hE hZ hP hD hS hA [3] rfl (by decide) (va_recv hE.1 hP (ci := 1) (q0 := 3) rfl rfl)) rfl rfl hl.1 rfl (lv_room (Nat.le_of_ble_eq_true rfl)) dX1_drawSets_49 ⟨Nat.le_of_ble_eq_true rfl, Nat.le_of_ble_eq_true rfl⟩) (fun r_10 w1 H locs hw hP hD hS => ?_)
              obtain ⟨rfl, rfl⟩ := hw
              have hP : va_P g.1 vwCl [(t1, ai g 7 (upd (upd f 0 (nI (so (nx (drS k i))))) 1 (nI (so (nx (nx (drS k i))))))), (t2, ai g 63 fl), (dt, .inr (7, [.int 4, .ref t1, .ref t2])), (h0, .inr (1, [.int (nI (nx (nx (nx (drS k i))))), .int (drC k i), .int (drF k i), .ref dt]))] H := hP
              have hD : va_D A [(t1, ai g 7 (upd (upd f 0 (nI (so (nx (drS k i))))) 1 (nI (so (nx (nx (drS k i))))))), (t2, ai g 63 fl), (dt, .inr (7, [.int 4, .ref t1, .ref t2])), (h0, .inr (1, [.int (nI (nx (nx (nx (drS k i))))), .int (drC k i), .int (drF k i), .ref dt]))] := hD
              refine k_ast (x := (nI (so (nx (nx (nx (drS k i))))))) 2 (by decide) (by decide) hx hb hE hP hD hS 0 rfl (by decide) dX1_drawSets_52 (fun H locs hP hD hS => ?_)
              have hP : va_P g.1 vwCl [(t1, ai g 7 (upd (upd (upd f 0 (nI (so (nx (drS k i))))) 1 (nI (so (nx (nx (drS k i)))))) 2 (nI (so (nx (nx (nx (drS k i)))))))), (t2, ai g 63 fl), (dt, .inr (7, [.int 4, .ref t1, .ref t2])), (h0, .inr (1, [.int (nI (nx (nx (nx (drS k i))))), .int (drC k i), .int (drF k i), .ref dt]))] H := hP
              have hD : va_D A [(t1, ai g 7 (upd (upd (upd f 0 (nI (so (nx (drS k i))))) 1 (nI (so (nx (nx (drS k i)))))) 2 (nI (so (nx (nx (nx (drS k i)))))))), (t2, ai g 63 fl), (dt, .inr (7, [.int 4, .ref t1, .ref t2])), (h0, .inr (1, [.int (nI (nx (nx (nx (drS k i))))), .int (drC k i), .int (drF k i), .ref dt]))] := hD
              refine lv_iinc (v := 3) (lv' := [(4, .int 3), (0, .ref h0), (1, .int (nI n)), (2, .int (nI k)), (3, .int (nI i))]) hx hb dX1_drawSets_53 hl (k := 0) rfl (by decide) (by decide) rfl (fun ls hl => ?_)
              refine lv_goto (tgt := 33) hx hb dX1_drawSets_56 (by decide) ?_
              refine lv_iload hx hb dX1_drawSets_33 (lv_at hl 0 rfl) ?_
              refine lv_iconst (v := 4) hx hb dX1_drawSets_35 (by decide) ?_
              refine lv_icmp_ge (tgt := 59) hx hb dX1_drawSets_36 (by decide) (fun c36_12 => ?_) (fun c36_12 => ?_)
              · exact absurd c36_12 (by decide)
              · skip
                refine lv_aload_n hx hb dX1_drawSets_39 rfl (lv_at hl 1 rfl) ?_
                refine va_get (D := g.1) (ci := 1) (v := .ref dt) (C := RX1) (T := TX1) (N := 4) hx hb hts q_X1_drawSets_f1 hown hE.1 hP 3 rfl rfl 3 (by decide) (hts (.fieldLink RX1 12 "SoundLaws$Draws" "tree" "LSoundLaws$Tree;") q_X1_drawSets_4) (fun _ h9 => h9) rfl dX1_drawSets_40 ?_
                refine va_get (D := g.1) (ci := 7) (v := .ref t1) (C := RX7) (T := TX7) (N := 3) hx hb hts q_X1_drawSets_f7 hown hE.1 hP 2 rfl rfl 1 (by decide) (hts (.fieldLink RX1 32 "SoundLaws$Tree" "sounds" "[I") q_X1_drawSets_6) (fun _ h9 => h9) rfl dX1_drawSets_43 ?_
                refine lv_iload hx hb dX1_drawSets_46 (lv_at hl 0 rfl) ?_
                refine lv_aload_n hx hb dX1_drawSets_48 rfl (lv_at hl 1 rfl) ?_
                refine k_ci (wr := [(t1, ai g 7 (upd (upd (upd f 0 (nI (so (nx (drS k i))))) 1 (nI (so (nx (nx (drS k i)))))) 2 (nI (so (nx (nx (nx (drS k i)))))))), (t2, ai g 63 fl), (dt, .inr (7, [.int 4, .ref t1, .ref t2]))]) hP hD hS hA [3] [0, 1, 2] rfl rfl (by decide) (by decide) (va_runV (As := []) (rest := [.int 3, .ref t1]) ⟨hx, hb, hml, hown, hts⟩ (c_X1_drawSound l g h0 dt (drC k i) (drF k i) (nx (nx (nx (drS k i)))) (nx_lt _) H.size) (cwV 0 hts gX1_drawSets_X1_drawSound rfl rfl rfl (by decide +kernel) ⟨Nat.le_of_ble_eq_true rfl, Nat.le_of_ble_eq_true rfl⟩) (k_preV hE hZ hP hD hS hA [3] rfl (by decide) (va_recv hE.1 hP (ci := 1) (q0 := 3) rfl rfl)) rfl rfl hl.1 rfl (lv_room (Nat.le_of_ble_eq_true rfl)) dX1_drawSets_49 ⟨Nat.le_of_ble_eq_true rfl, Nat.le_of_ble_eq_true rfl⟩) (fun r_13 w1 H locs hw hP hD hS => ?_)
                obtain ⟨rfl, rfl⟩ := hw
                have hP : va_P g.1 vwCl [(t1, ai g 7 (upd (upd (upd f 0 (nI (so (nx (drS k i))))) 1 (nI (so (nx (nx (drS k i)))))) 2 (nI (so (nx (nx (nx (drS k i)))))))), (t2, ai g 63 fl), (dt, .inr (7, [.int 4, .ref t1, .ref t2])), (h0, .inr (1, [.int (nI (nx (nx (nx (nx (drS k i)))))), .int (drC k i), .int (drF k i), .ref dt]))] H := hP
                have hD : va_D A [(t1, ai g 7 (upd (upd (upd f 0 (nI (so (nx (drS k i))))) 1 (nI (so (nx (nx (drS k i)))))) 2 (nI (so (nx (nx (nx (drS k i)))))))), (t2, ai g 63 fl), (dt, .inr (7, [.int 4, .ref t1, .ref t2])), (h0, .inr (1, [.int (nI (nx (nx (nx (nx (drS k i)))))), .int (drC k i), .int (drF k i), .ref dt]))] := hD
                refine k_ast (x := (nI (so (nx (nx (nx (nx (drS k i)))))))) 3 (by decide) (by decide) hx hb hE hP hD hS 0 rfl (by decide) dX1_drawSets_52 (fun H locs hP hD hS => ?_)
                have hP : va_P g.1 vwCl [(t1, ai g 7 (upd (upd (upd (upd f 0 (nI (so (nx (drS k i))))) 1 (nI (so (nx (nx (drS k i)))))) 2 (nI (so (nx (nx (nx (drS k i))))))) 3 (nI (so (nx (nx (nx (nx (drS k i))))))))), (t2, ai g 63 fl), (dt, .inr (7, [.int 4, .ref t1, .ref t2])), (h0, .inr (1, [.int (nI (nx (nx (nx (nx (drS k i)))))), .int (drC k i), .int (drF k i), .ref dt]))] H := hP
                have hD : va_D A [(t1, ai g 7 (upd (upd (upd (upd f 0 (nI (so (nx (drS k i))))) 1 (nI (so (nx (nx (drS k i)))))) 2 (nI (so (nx (nx (nx (drS k i))))))) 3 (nI (so (nx (nx (nx (nx (drS k i))))))))), (t2, ai g 63 fl), (dt, .inr (7, [.int 4, .ref t1, .ref t2])), (h0, .inr (1, [.int (nI (nx (nx (nx (nx (drS k i)))))), .int (drC k i), .int (drF k i), .ref dt]))] := hD
                refine lv_iinc (v := 4) (lv' := [(4, .int 4), (0, .ref h0), (1, .int (nI n)), (2, .int (nI k)), (3, .int (nI i))]) hx hb dX1_drawSets_53 hl (k := 0) rfl (by decide) (by decide) rfl (fun ls hl => ?_)
                refine lv_goto (tgt := 33) hx hb dX1_drawSets_56 (by decide) ?_
                refine lv_iload hx hb dX1_drawSets_33 (lv_at hl 0 rfl) ?_
                refine lv_iconst (v := 4) hx hb dX1_drawSets_35 (by decide) ?_
                refine lv_icmp_ge (tgt := 59) hx hb dX1_drawSets_36 (by decide) (fun c36_15 => ?_) (fun c36_15 => ?_)
                · skip
                  refine lv_aload_n hx hb dX1_drawSets_59 rfl (lv_at hl 1 rfl) ?_
                  refine lv_dup hx hb dX1_drawSets_60 rfl ?_
                  refine va_get (D := g.1) (ci := 1) (v := .int (drC k i)) (C := RX1) (T := TX1) (N := 4) hx hb hts q_X1_drawSets_f1 hown hE.1 hP 3 rfl rfl 1 (by decide) (hts (.fieldLink RX1 22 "SoundLaws$Draws" "changes" "I") q_X1_drawSets_2) (fun _ h9 => h9) rfl dX1_drawSets_61 ?_
                  refine lv_aload_n hx hb dX1_drawSets_64 rfl (lv_at hl 1 rfl) ?_
                  refine va_get (D := g.1) (ci := 1) (v := .ref dt) (C := RX1) (T := TX1) (N := 4) hx hb hts q_X1_drawSets_f1 hown hE.1 hP 3 rfl rfl 3 (by decide) (hts (.fieldLink RX1 12 "SoundLaws$Draws" "tree" "LSoundLaws$Tree;") q_X1_drawSets_4) (fun _ h9 => h9) rfl dX1_drawSets_65 ?_
                  refine k_ci (wr := [(h0, .inr (1, [.int (nI (nx (nx (nx (nx (drS k i)))))), .int (drC k i), .int (drF k i), .ref dt]))]) hP hD hS hA [2, 0, 1] [3] rfl rfl (by decide) (by decide) (va_runV (As := []) (rest := [.int (drC k i), .ref h0]) ⟨hx, hb, hml, hown, hts⟩ (c_X7_climb l g dt t1 t2 (upd (upd (upd (upd f 0 (nI (so (nx (drS k i))))) 1 (nI (so (nx (nx (drS k i)))))) 2 (nI (so (nx (nx (nx (drS k i))))))) 3 (nI (so (nx (nx (nx (nx (drS k i)))))))) fl (so (nx (drS k i))) (so (nx (nx (drS k i)))) (so (nx (nx (nx (drS k i))))) (so (nx (nx (nx (nx (drS k i)))))) rfl rfl rfl rfl (so_lt _) (so_lt _) (so_lt _) (so_lt _) H.size) (cwV 0 hts gX1_drawSets_X7_climb rfl rfl rfl (by decide +kernel) ⟨Nat.le_of_ble_eq_true rfl, Nat.le_of_ble_eq_true rfl⟩) (k_preV hE hZ hP hD hS hA [2, 0, 1] rfl (by decide) (va_recv hE.1 hP (ci := 7) (q0 := 2) rfl rfl)) rfl rfl hl.1 rfl (lv_room (Nat.le_of_ble_eq_true rfl)) dX1_drawSets_68 ⟨Nat.le_of_ble_eq_true rfl, Nat.le_of_ble_eq_true rfl⟩) (fun r_16 w1 H locs hw hP hD hS => ?_)
                  obtain ⟨gl_17, rfl, rfl⟩ := hw
                  have hP : va_P g.1 vwCl [(h0, .inr (1, [.int (nI (nx (nx (nx (nx (drS k i)))))), .int (drC k i), .int (drF k i), .ref dt])), (dt, .inr (7, [.int 4, .ref t1, .ref t2])), (t1, ai g 7 (upd (upd (upd (upd (upd f 0 (nI (so (nx (drS k i))))) 1 (nI (so (nx (nx (drS k i)))))) 2 (nI (so (nx (nx (nx (drS k i))))))) 3 (nI (so (nx (nx (nx (nx (drS k i)))))))) 6 (nI (rt (so (nx (drS k i))) (so (nx (nx (drS k i)))) (so (nx (nx (nx (drS k i))))) (so (nx (nx (nx (nx (drS k i)))))))))), (t2, ai g 63 gl_17)] H := hP
                  have hD : va_D A [(h0, .inr (1, [.int (nI (nx (nx (nx (nx (drS k i)))))), .int (drC k i), .int (drF k i), .ref dt])), (dt, .inr (7, [.int 4, .ref t1, .ref t2])), (t1, ai g 7 (upd (upd (upd (upd (upd f 0 (nI (so (nx (drS k i))))) 1 (nI (so (nx (nx (drS k i)))))) 2 (nI (so (nx (nx (nx (drS k i))))))) 3 (nI (so (nx (nx (nx (nx (drS k i)))))))) 6 (nI (rt (so (nx (drS k i))) (so (nx (nx (drS k i)))) (so (nx (nx (nx (drS k i))))) (so (nx (nx (nx (nx (drS k i)))))))))), (t2, ai g 63 gl_17)] := hD
                  refine lv_iadd hx hb dX1_drawSets_71 ?_
                  refine lv_topi (fun x_19 ex_19 => ?_)
                  obtain rfl : x_19 = drC k (i + 1) := by rw [ex_19]; rfl
                  refine va_put (D := g.1) (ci := 1) (v := .int (drC k (i + 1))) (ty := .int) (C := RX1) (T := TX1) (N := 4) hx hb hts q_X1_drawSets_f1 tyX1 tyX1_ok nmX1 hown hE.1 hP hD hS 0 rfl rfl 1 (by decide) (hts (.fieldLink RX1 22 "SoundLaws$Draws" "changes" "I") q_X1_drawSets_2) (fun _ h9 => h9) rfl (by decide +kernel) rfl rfl (Nat.le_of_ble_eq_true rfl) dX1_drawSets_72 (fun H locs hP hD hS => ?_)
                  have hP : va_P g.1 vwCl [(h0, .inr (1, [.int (nI (nx (nx (nx (nx (drS k i)))))), .int (drC k (i + 1)), .int (drF k i), .ref dt])), (dt, .inr (7, [.int 4, .ref t1, .ref t2])), (t1, ai g 7 (upd (upd (upd (upd (upd f 0 (nI (so (nx (drS k i))))) 1 (nI (so (nx (nx (drS k i)))))) 2 (nI (so (nx (nx (nx (drS k i))))))) 3 (nI (so (nx (nx (nx (nx (drS k i)))))))) 6 (nI (rt (so (nx (drS k i))) (so (nx (nx (drS k i)))) (so (nx (nx (nx (drS k i))))) (so (nx (nx (nx (nx (drS k i)))))))))), (t2, ai g 63 gl_17)] H := hP
                  have hD : va_D A [(h0, .inr (1, [.int (nI (nx (nx (nx (nx (drS k i)))))), .int (drC k (i + 1)), .int (drF k i), .ref dt])), (dt, .inr (7, [.int 4, .ref t1, .ref t2])), (t1, ai g 7 (upd (upd (upd (upd (upd f 0 (nI (so (nx (drS k i))))) 1 (nI (so (nx (nx (drS k i)))))) 2 (nI (so (nx (nx (nx (drS k i))))))) 3 (nI (so (nx (nx (nx (nx (drS k i)))))))) 6 (nI (rt (so (nx (drS k i))) (so (nx (nx (drS k i)))) (so (nx (nx (nx (drS k i))))) (so (nx (nx (nx (nx (drS k i)))))))))), (t2, ai g 63 gl_17)] := hD
                  refine lv_aload_n hx hb dX1_drawSets_75 rfl (lv_at hl 1 rfl) ?_
                  refine lv_aload_n hx hb dX1_drawSets_76 rfl (lv_at hl 1 rfl) ?_
                  refine va_get (D := g.1) (ci := 1) (v := .ref dt) (C := RX1) (T := TX1) (N := 4) hx hb hts q_X1_drawSets_f1 hown hE.1 hP 0 rfl rfl 3 (by decide) (hts (.fieldLink RX1 12 "SoundLaws$Draws" "tree" "LSoundLaws$Tree;") q_X1_drawSets_4) (fun _ h9 => h9) rfl dX1_drawSets_77 ?_
                  refine va_get (D := g.1) (ci := 7) (v := .ref t1) (C := RX7) (T := TX7) (N := 3) hx hb hts q_X1_drawSets_f7 hown hE.1 hP 1 rfl rfl 1 (by decide) (hts (.fieldLink RX1 32 "SoundLaws$Tree" "sounds" "[I") q_X1_drawSets_6) (fun _ h9 => h9) rfl dX1_drawSets_80 ?_
                  refine lv_aload_n hx hb dX1_drawSets_83 rfl (lv_at hl 1 rfl) ?_
                  refine va_get (D := g.1) (ci := 1) (v := .ref dt) (C := RX1) (T := TX1) (N := 4) hx hb hts q_X1_drawSets_f1 hown hE.1 hP 0 rfl rfl 3 (by decide) (hts (.fieldLink RX1 12 "SoundLaws$Draws" "tree" "LSoundLaws$Tree;") q_X1_drawSets_4) (fun _ h9 => h9) rfl dX1_drawSets_84 ?_
                  refine k_ci (wr := [(h0, .inr (1, [.int (nI (nx (nx (nx (nx (drS k i)))))), .int (drC k (i + 1)), .int (drF k i), .ref dt])), (t1, ai g 7 (upd (upd (upd (upd (upd f 0 (nI (so (nx (drS k i))))) 1 (nI (so (nx (nx (drS k i)))))) 2 (nI (so (nx (nx (nx (drS k i))))))) 3 (nI (so (nx (nx (nx (nx (drS k i)))))))) 6 (nI (rt (so (nx (drS k i))) (so (nx (nx (drS k i)))) (so (nx (nx (nx (drS k i))))) (so (nx (nx (nx (nx (drS k i)))))))))), (t2, ai g 63 gl_17)]) hP hD hS hA [1] [0, 2, 3] rfl rfl (by decide) (by decide) (va_runV (As := []) (rest := [.ref t1, .ref h0]) ⟨hx, hb, hml, hown, hts⟩ (c_X7_root l g dt t1 t2  H.size) (cwV 0 hts gX1_drawSets_X7_root rfl rfl rfl (by decide +kernel) ⟨Nat.le_of_ble_eq_true rfl, Nat.le_of_ble_eq_true rfl⟩) (k_preV hE hZ hP hD hS hA [1] rfl (by decide) (va_recv hE.1 hP (ci := 7) (q0 := 1) rfl rfl)) rfl rfl hl.1 rfl (lv_room (Nat.le_of_ble_eq_true rfl)) dX1_drawSets_87 ⟨Nat.le_of_ble_eq_true rfl, Nat.le_of_ble_eq_true rfl⟩) (fun r_20 w1 H locs hw hP hD hS => ?_)
                  obtain ⟨rfl, rfl⟩ := hw
                  have hP : va_P g.1 vwCl [(h0, .inr (1, [.int (nI (nx (nx (nx (nx (drS k i)))))), .int (drC k (i + 1)), .int (drF k i), .ref dt])), (t1, ai g 7 (upd (upd (upd (upd (upd f 0 (nI (so (nx (drS k i))))) 1 (nI (so (nx (nx (drS k i)))))) 2 (nI (so (nx (nx (nx (drS k i))))))) 3 (nI (so (nx (nx (nx (nx (drS k i)))))))) 6 (nI (rt (so (nx (drS k i))) (so (nx (nx (drS k i)))) (so (nx (nx (nx (drS k i))))) (so (nx (nx (nx (nx (drS k i)))))))))), (t2, ai g 63 gl_17), (dt, .inr (7, [.int 4, .ref t1, .ref t2]))] H := hP
                  have hD : va_D A [(h0, .inr (1, [.int (nI (nx (nx (nx (nx (drS k i)))))), .int (drC k (i + 1)), .int (drF k i), .ref dt])), (t1, ai g 7 (upd (upd (upd (upd (upd f 0 (nI (so (nx (drS k i))))) 1 (nI (so (nx (nx (drS k i)))))) 2 (nI (so (nx (nx (nx (drS k i))))))) 3 (nI (so (nx (nx (nx (nx (drS k i)))))))) 6 (nI (rt (so (nx (drS k i))) (so (nx (nx (drS k i)))) (so (nx (nx (nx (drS k i))))) (so (nx (nx (nx (nx (drS k i)))))))))), (t2, ai g 63 gl_17), (dt, .inr (7, [.int 4, .ref t1, .ref t2]))] := hD
                  refine k_ald 6 (by decide) (by decide) hx hb hE hP 1 rfl (by decide) dX1_drawSets_90 ?_
                  refine lv_topi (fun x_22 ex_22 => ?_)
                  obtain rfl : x_22 = nI (rt (so (nx (drS k i))) (so (nx (nx (drS k i)))) (so (nx (nx (nx (drS k i))))) (so (nx (nx (nx (nx (drS k i))))))) := by rw [ex_22]; rfl
                  refine k_ci (wr := [(t2, ai g 63 gl_17)]) hP hD hS hA [0, 3, 1] [2] rfl rfl (by decide) (by decide) (va_runV (As := [.int (nI (rt (so (nx (drS k i))) (so (nx (nx (drS k i)))) (so (nx (nx (nx (drS k i))))) (so (nx (nx (nx (nx (drS k i))))))))]) (rest := []) ⟨hx, hb, hml, hown, hts⟩ (c_X1_isForeign l g h0 dt t1 t2 (nI (nx (nx (nx (nx (drS k i)))))) (drC k (i + 1)) (drF k i) 4 (nI (rt (so (nx (drS k i))) (so (nx (nx (drS k i)))) (so (nx (nx (nx (drS k i))))) (so (nx (nx (nx (nx (drS k i)))))))) (upd (upd (upd (upd (upd f 0 (nI (so (nx (drS k i))))) 1 (nI (so (nx (nx (drS k i)))))) 2 (nI (so (nx (nx (nx (drS k i))))))) 3 (nI (so (nx (nx (nx (nx (drS k i)))))))) 6 (nI (rt (so (nx (drS k i))) (so (nx (nx (drS k i)))) (so (nx (nx (nx (drS k i))))) (so (nx (nx (nx (nx (drS k i)))))))))  H.size) (cwV 1 hts gX1_drawSets_X1_isForeign rfl rfl rfl (by decide +kernel) ⟨Nat.le_of_ble_eq_true rfl, Nat.le_of_ble_eq_true rfl⟩) (k_preV hE hZ hP hD hS hA [0, 3, 1] rfl (by decide) (va_recv hE.1 hP (ci := 1) (q0 := 0) rfl rfl)) rfl rfl hl.1 rfl (lv_room (Nat.le_of_ble_eq_true rfl)) dX1_drawSets_91 ⟨Nat.le_of_ble_eq_true rfl, Nat.le_of_ble_eq_true rfl⟩) (fun r_23 w1 H locs hw hP hD hS => ?_)
                  obtain ⟨rfl, rfl⟩ := hw
                  have hP : va_P g.1 vwCl [(t2, ai g 63 gl_17), (h0, .inr (1, [.int (nI (nx (nx (nx (nx (drS k i)))))), .int (drC k (i + 1)), .int (drF k i), .ref dt])), (dt, .inr (7, [.int 4, .ref t1, .ref t2])), (t1, ai g 7 (upd (upd (upd (upd (upd f 0 (nI (so (nx (drS k i))))) 1 (nI (so (nx (nx (drS k i)))))) 2 (nI (so (nx (nx (nx (drS k i))))))) 3 (nI (so (nx (nx (nx (nx (drS k i)))))))) 6 (nI (rt (so (nx (drS k i))) (so (nx (nx (drS k i)))) (so (nx (nx (nx (drS k i))))) (so (nx (nx (nx (nx (drS k i))))))))))] H := hP
                  have hD : va_D A [(t2, ai g 63 gl_17), (h0, .inr (1, [.int (nI (nx (nx (nx (nx (drS k i)))))), .int (drC k (i + 1)), .int (drF k i), .ref dt])), (dt, .inr (7, [.int 4, .ref t1, .ref t2])), (t1, ai g 7 (upd (upd (upd (upd (upd f 0 (nI (so (nx (drS k i))))) 1 (nI (so (nx (nx (drS k i)))))) 2 (nI (so (nx (nx (nx (drS k i))))))) 3 (nI (so (nx (nx (nx (nx (drS k i)))))))) 6 (nI (rt (so (nx (drS k i))) (so (nx (nx (drS k i)))) (so (nx (nx (nx (drS k i))))) (so (nx (nx (nx (nx (drS k i))))))))))] := hD
                  refine lv_if_eq (tgt := 107) hx hb dX1_drawSets_94 (by decide) (fun c94_25 => ?_) (fun c94_25 => ?_)
                  · skip
                    have hz : drF k (i + 1) = drF k i := by show drF k i + fok (drS k i) = drF k i; rw [show fok (drS k i) = 0 from (fz_fo (F := upd (upd (upd (upd (upd f 0 (nI (so (nx (drS k i))))) 1 (nI (so (nx (nx (drS k i)))))) 2 (nI (so (nx (nx (nx (drS k i))))))) 3 (nI (so (nx (nx (nx (nx (drS k i)))))))) 6 (nI (rt (so (nx (drS k i))) (so (nx (nx (drS k i)))) (so (nx (nx (nx (drS k i))))) (so (nx (nx (nx (nx (drS k i))))))))) (a := so (nx (drS k i))) (b := so (nx (nx (drS k i)))) (c := so (nx (nx (nx (drS k i))))) (d := so (nx (nx (nx (nx (drS k i)))))) rfl rfl rfl rfl (so_lt _) (so_lt _) (so_lt _) (so_lt _)).symm.trans c94_25, Int32.add_zero]
                    rw [← hz] at hP hD
                    have hP : va_P g.1 vwCl [(t2, ai g 63 gl_17), (h0, .inr (1, [.int (nI (nx (nx (nx (nx (drS k i)))))), .int (drC k (i + 1)), .int (drF k (i + 1)), .ref dt])), (dt, .inr (7, [.int 4, .ref t1, .ref t2])), (t1, ai g 7 (upd (upd (upd (upd (upd f 0 (nI (so (nx (drS k i))))) 1 (nI (so (nx (nx (drS k i)))))) 2 (nI (so (nx (nx (nx (drS k i))))))) 3 (nI (so (nx (nx (nx (nx (drS k i)))))))) 6 (nI (rt (so (nx (drS k i))) (so (nx (nx (drS k i)))) (so (nx (nx (nx (drS k i))))) (so (nx (nx (nx (nx (drS k i))))))))))] H := hP
                    have hD : va_D A [(t2, ai g 63 gl_17), (h0, .inr (1, [.int (nI (nx (nx (nx (nx (drS k i)))))), .int (drC k (i + 1)), .int (drF k (i + 1)), .ref dt])), (dt, .inr (7, [.int 4, .ref t1, .ref t2])), (t1, ai g 7 (upd (upd (upd (upd (upd f 0 (nI (so (nx (drS k i))))) 1 (nI (so (nx (nx (drS k i)))))) 2 (nI (so (nx (nx (nx (drS k i))))))) 3 (nI (so (nx (nx (nx (nx (drS k i)))))))) 6 (nI (rt (so (nx (drS k i))) (so (nx (nx (drS k i)))) (so (nx (nx (nx (drS k i))))) (so (nx (nx (nx (nx (drS k i))))))))))] := hD
                    refine lv_iinc (v := (nI (i + 1))) (lv' := [(3, .int (nI (i + 1))), (4, .int 4), (0, .ref h0), (1, .int (nI n)), (2, .int (nI k))]) hx hb dX1_drawSets_107 hl (k := 4) rfl (nI_1 _) (by decide) rfl (fun ls hl => ?_)
                    refine lv_goto (tgt := 25) hx hb dX1_drawSets_110 (by decide) ?_
                    exact ih25 (i + 1) _ _ (by omega) (by omega) _ _ _ (hP.sub [1, 3, 0, 2] rfl) (hD.sub [1, 3, 0, 2] (by decide) rfl) hS (lv_sub hl [2, 3, 4, 0] rfl)
                  · skip
                    refine lv_aload_n hx hb dX1_drawSets_97 rfl (lv_at hl 1 rfl) ?_
                    refine lv_dup hx hb dX1_drawSets_98 rfl ?_
                    refine va_get (D := g.1) (ci := 1) (v := .int (drF k i)) (C := RX1) (T := TX1) (N := 4) hx hb hts q_X1_drawSets_f1 hown hE.1 hP 1 rfl rfl 2 (by decide) (hts (.fieldLink RX1 25 "SoundLaws$Draws" "foreign" "I") q_X1_drawSets_3) (fun _ h9 => h9) rfl dX1_drawSets_99 ?_
                    refine lv_iconst (v := 1) hx hb dX1_drawSets_102 (by decide) ?_
                    refine lv_iadd hx hb dX1_drawSets_103 ?_
                    refine lv_topi (fun x_26 ex_26 => ?_)
                    refine va_put (D := g.1) (ci := 1) (v := .int x_26) (ty := .int) (C := RX1) (T := TX1) (N := 4) hx hb hts q_X1_drawSets_f1 tyX1 tyX1_ok nmX1 hown hE.1 hP hD hS 1 rfl rfl 2 (by decide) (hts (.fieldLink RX1 25 "SoundLaws$Draws" "foreign" "I") q_X1_drawSets_3) (fun _ h9 => h9) rfl (by decide +kernel) rfl rfl (Nat.le_of_ble_eq_true rfl) dX1_drawSets_104 (fun H locs hP hD hS => ?_)
                    have hP : va_P g.1 vwCl [(t2, ai g 63 gl_17), (h0, .inr (1, [.int (nI (nx (nx (nx (nx (drS k i)))))), .int (drC k (i + 1)), .int x_26, .ref dt])), (dt, .inr (7, [.int 4, .ref t1, .ref t2])), (t1, ai g 7 (upd (upd (upd (upd (upd f 0 (nI (so (nx (drS k i))))) 1 (nI (so (nx (nx (drS k i)))))) 2 (nI (so (nx (nx (nx (drS k i))))))) 3 (nI (so (nx (nx (nx (nx (drS k i)))))))) 6 (nI (rt (so (nx (drS k i))) (so (nx (nx (drS k i)))) (so (nx (nx (nx (drS k i))))) (so (nx (nx (nx (nx (drS k i))))))))))] H := hP
                    have hD : va_D A [(t2, ai g 63 gl_17), (h0, .inr (1, [.int (nI (nx (nx (nx (nx (drS k i)))))), .int (drC k (i + 1)), .int x_26, .ref dt])), (dt, .inr (7, [.int 4, .ref t1, .ref t2])), (t1, ai g 7 (upd (upd (upd (upd (upd f 0 (nI (so (nx (drS k i))))) 1 (nI (so (nx (nx (drS k i)))))) 2 (nI (so (nx (nx (nx (drS k i))))))) 3 (nI (so (nx (nx (nx (nx (drS k i)))))))) 6 (nI (rt (so (nx (drS k i))) (so (nx (nx (drS k i)))) (so (nx (nx (nx (drS k i))))) (so (nx (nx (nx (nx (drS k i))))))))))] := hD
                    have hz : drF k (i + 1) = x_26 := by rw [ex_26]; show drF k i + fok (drS k i) = drF k i + 1; rw [show fok (drS k i) = 1 from fo_1 (fun q => c94_25 ((fz_fo (F := upd (upd (upd (upd (upd f 0 (nI (so (nx (drS k i))))) 1 (nI (so (nx (nx (drS k i)))))) 2 (nI (so (nx (nx (nx (drS k i))))))) 3 (nI (so (nx (nx (nx (nx (drS k i)))))))) 6 (nI (rt (so (nx (drS k i))) (so (nx (nx (drS k i)))) (so (nx (nx (nx (drS k i))))) (so (nx (nx (nx (nx (drS k i))))))))) (a := so (nx (drS k i))) (b := so (nx (nx (drS k i)))) (c := so (nx (nx (nx (drS k i))))) (d := so (nx (nx (nx (nx (drS k i)))))) rfl rfl rfl rfl (so_lt _) (so_lt _) (so_lt _) (so_lt _)).trans q))]
                    rw [← hz] at hP hD
                    have hP : va_P g.1 vwCl [(t2, ai g 63 gl_17), (h0, .inr (1, [.int (nI (nx (nx (nx (nx (drS k i)))))), .int (drC k (i + 1)), .int (drF k (i + 1)), .ref dt])), (dt, .inr (7, [.int 4, .ref t1, .ref t2])), (t1, ai g 7 (upd (upd (upd (upd (upd f 0 (nI (so (nx (drS k i))))) 1 (nI (so (nx (nx (drS k i)))))) 2 (nI (so (nx (nx (nx (drS k i))))))) 3 (nI (so (nx (nx (nx (nx (drS k i)))))))) 6 (nI (rt (so (nx (drS k i))) (so (nx (nx (drS k i)))) (so (nx (nx (nx (drS k i))))) (so (nx (nx (nx (nx (drS k i))))))))))] H := hP
                    have hD : va_D A [(t2, ai g 63 gl_17), (h0, .inr (1, [.int (nI (nx (nx (nx (nx (drS k i)))))), .int (drC k (i + 1)), .int (drF k (i + 1)), .ref dt])), (dt, .inr (7, [.int 4, .ref t1, .ref t2])), (t1, ai g 7 (upd (upd (upd (upd (upd f 0 (nI (so (nx (drS k i))))) 1 (nI (so (nx (nx (drS k i)))))) 2 (nI (so (nx (nx (nx (drS k i))))))) 3 (nI (so (nx (nx (nx (nx (drS k i)))))))) 6 (nI (rt (so (nx (drS k i))) (so (nx (nx (drS k i)))) (so (nx (nx (nx (drS k i))))) (so (nx (nx (nx (nx (drS k i))))))))))] := hD
                    refine lv_iinc (v := (nI (i + 1))) (lv' := [(3, .int (nI (i + 1))), (4, .int 4), (0, .ref h0), (1, .int (nI n)), (2, .int (nI k))]) hx hb dX1_drawSets_107 hl (k := 4) rfl (nI_1 _) (by decide) rfl (fun ls hl => ?_)
                    refine lv_goto (tgt := 25) hx hb dX1_drawSets_110 (by decide) ?_
                    exact ih25 (i + 1) _ _ (by omega) (by omega) _ _ _ (hP.sub [1, 3, 0, 2] rfl) (hD.sub [1, 3, 0, 2] (by decide) rfl) hS (lv_sub hl [2, 3, 4, 0] rfl)
                · exact absurd c36_15 (by decide)
  exact loop25 _ 0 f0 fl0 (Nat.zero_le n) (Nat.lt_succ_self _) _ _ _ hP hD hS (lv_sub hl [1, 2, 3, 0] rfl)

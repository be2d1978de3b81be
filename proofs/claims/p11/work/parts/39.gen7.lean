def bz (f : Nat → Int32) : Prop := ∀ i, i < 6 → vp_nar .boolean (f i) = f i
theorem nar_01 (x : Int32) : vp_nar .boolean x = 0 ∨ vp_nar .boolean x = 1 := by
  have h : vp_nar .boolean x = x &&& 1 := rfl
  rw [h]
  have h2 : (x &&& 1).toBitVec = x.toBitVec &&& 1 := rfl
  have h3 : ∀ b : BitVec 32, b &&& 1 = 0 ∨ b &&& 1 = 1 := by
    intro b
    have hn : (b &&& 1#32).toNat = b.toNat % 2 := by
      rw [BitVec.toNat_and]
      exact Nat.and_one_is_mod b.toNat
    rcases Nat.mod_two_eq_zero_or_one b.toNat with q | q
    · exact Or.inl (BitVec.eq_of_toNat_eq (by rw [show b &&& 1 = b &&& 1#32 from rfl, hn, q]; rfl))
    · exact Or.inr (BitVec.eq_of_toNat_eq (by rw [show b &&& 1 = b &&& 1#32 from rfl, hn, q]; rfl))
  rcases h3 x.toBitVec with q | q
  · exact Or.inl (Int32.toBitVec_inj.mp (h2.trans q))
  · exact Or.inr (Int32.toBitVec_inj.mp (h2.trans q))
theorem nar_idem (x : Int32) : vp_nar .boolean (vp_nar .boolean x) = vp_nar .boolean x := by
  rcases nar_01 x with h | h <;> rw [h] <;> rfl
theorem bz_upd {f : Nat → Int32} {n : Nat} {x : Int32} (h : bz f) : bz (upd f n (vp_nar .boolean x)) := fun i hi => by
  by_cases q : i = n
  · rw [q, pk_us, nar_idem]
  · rw [pk_un q, h i hi]
theorem bz_0 : bz (fun _ => 0) := fun _ _ => (show (0 : Int32) &&& 1 = 0 by decide)
def gst (z t : Nat) (K L V : Nat → Int32) : Prop := z ≤ 6 ∧ (0 < z → 2 ≤ t) ∧ t ≤ 4 ∧ rng 6 5 K ∧ rng 6 5 L ∧ rng 96 9 V
theorem gst_cpy {z t : Nat} {K L V K2 L2 V2 : Nat → Int32} {z2 t2 : Nat} (h : gst z t K L V) (h2 : gst z2 t2 K2 L2 V2) : gst z t (va_cpy K K2 0 0 6) (va_cpy L L2 0 0 6) (va_cpy V V2 0 0 96) := ⟨h.1, h.2.1, h.2.2.1, rng_cpy h.2.2.2.1 h2.2.2.2.1 (by omega), rng_cpy h.2.2.2.2.1 h2.2.2.2.2.1 (by omega), rng_cpy h.2.2.2.2.2 h2.2.2.2.2.2 (by omega)⟩
def po_X8_tellOfAll_g (g : GG) (h0 : Nat) (pg : Nat) (rd : Nat) (ks : Nat) (ki : Nat) (al : Nat) (dr : Nat) (le : Int32) (re : Int32) (kp : Int32) (sd : Int32) (sk : Nat) (s1 : Nat) (s2 : Nat) (s3 : Nat) (z : Nat) (t : Nat) (L : Nat → Int32) (sy : Nat) (y1 : Nat) (y2 : Nat) (y3 : Nat) (lw : Nat) (tr : Nat) (chg : Int32) (S3 : Nat → Int32) (l1 : Nat) (l2 : Nat) (l3 : Nat) (l4 : Nat) (kn : Int32) (xo : Int32) (si : Nat) (q1 : Nat) (q2 : Nat) (q3 : Nat) (zs : Int32) (p1 : Int32) : Int32 → va_W → Prop := fun (r : Int32) w => w = [(h0, .inr (8, [.ref pg, .int le, .ref rd, .int re, .ref sk, .ref si, .ref sy, .int sd, .ref ks, .ref ki, .int kp, .ref al, .ref dr])), (sk, .inr (5, [.int (nI z), .int (nI t), .ref s1, .ref s2, .ref s3])), (s2, ai g 6 L), (sy, .inr (6, [.ref y1, .ref y2, .ref y3, .ref lw, .int chg, .ref tr])), (y3, ai g 24 S3), (lw, .inr (2, [.ref l1, .ref l2, .ref l3, .int kn, .int xo, .ref l4])), (si, .inr (4, [.int zs, .ref q1, .ref q2, .ref q3]))]
theorem q_X8_tellOfAll_g_f8 : ∀ w ∈ u_ws RX8 TX8 13, w ∈ wsX8_tellOfAll := by decide +kernel
theorem q_X8_tellOfAll_g_1 : (Cond.fieldLink RX8 23 "SoundLaws" "stock" "LSoundLaws$Stock;") ∈ wsX8_tellOfAll := by decide +kernel
theorem q_X8_tellOfAll_g_f5 : ∀ w ∈ u_ws RX5 TX5 5, w ∈ wsX8_tellOfAll := by decide +kernel
theorem q_X8_tellOfAll_g_3 : (Cond.fieldLink RX8 93 "SoundLaws$Stock" "size" "I") ∈ wsX8_tellOfAll := by decide +kernel
theorem q_X8_tellOfAll_g_4 : (Cond.fieldLink RX8 234 "SoundLaws$Stock" "tongues" "I") ∈ wsX8_tellOfAll := by decide +kernel
theorem q_X8_tellOfAll_g_5 : (Cond.fieldLink RX8 37 "SoundLaws" "study" "LSoundLaws$Study;") ∈ wsX8_tellOfAll := by decide +kernel
theorem q_X8_tellOfAll_g_f6 : ∀ w ∈ u_ws RX6 TX6 6, w ∈ wsX8_tellOfAll := by decide +kernel
theorem q_X8_tellOfAll_g_7 : (Cond.fieldLink RX8 202 "SoundLaws$Study" "changesOfAll" "I") ∈ wsX8_tellOfAll := by decide +kernel
theorem q_X8_tellOfAll_g_8 : (Cond.fieldLink RX8 133 "SoundLaws$Study" "laws" "LSoundLaws$Laws;") ∈ wsX8_tellOfAll := by decide +kernel
theorem q_X8_tellOfAll_g_f2 : ∀ w ∈ u_ws RX2 TX2 6, w ∈ wsX8_tellOfAll := by decide +kernel
theorem q_X8_tellOfAll_g_10 : (Cond.fieldLink RX8 278 "SoundLaws$Laws" "known" "I") ∈ wsX8_tellOfAll := by decide +kernel
theorem q_X8_tellOfAll_g_11 : (Cond.fieldLink RX8 281 "SoundLaws$Laws" "exceptionsOfAll" "I") ∈ wsX8_tellOfAll := by decide +kernel
theorem q_X8_tellOfAll_g_12 : (Cond.fieldLink RX8 30 "SoundLaws" "sightings" "LSoundLaws$Sightings;") ∈ wsX8_tellOfAll := by decide +kernel
theorem q_X8_tellOfAll_g_f4 : ∀ w ∈ u_ws RX4 TX4 4, w ∈ wsX8_tellOfAll := by decide +kernel
theorem q_X8_tellOfAll_g_14 : (Cond.fieldLink RX8 205 "SoundLaws$Sightings" "size" "I") ∈ wsX8_tellOfAll := by decide +kernel
theorem q_X8_tellOfAll_g_15 : (Cond.fieldLink RX8 61 "SoundLaws" "letters" "I") ∈ wsX8_tellOfAll := by decide +kernel
theorem q_X8_tellOfAll_g_16 : (Cond.fieldLink RX8 90 "SoundLaws" "readings" "I") ∈ wsX8_tellOfAll := by decide +kernel
set_option maxHeartbeats 1500000 in
set_option maxRecDepth 100000 in
theorem c_X8_tellOfAll_g (l : Launch) (g : GG) (h0 : Nat) (pg : Nat) (rd : Nat) (ks : Nat) (ki : Nat) (al : Nat) (dr : Nat) (le : Int32) (re : Int32) (kp : Int32) (sd : Int32) (sk : Nat) (s1 : Nat) (s2 : Nat) (s3 : Nat) (z : Nat) (t : Nat) (L : Nat → Int32) (sy : Nat) (y1 : Nat) (y2 : Nat) (y3 : Nat) (lw : Nat) (tr : Nat) (chg : Int32) (S3 : Nat → Int32) (l1 : Nat) (l2 : Nat) (l3 : Nat) (l4 : Nat) (kn : Int32) (xo : Int32) (si : Nat) (q1 : Nat) (q2 : Nat) (q3 : Nat) (zs : Int32) (p1 : Int32) (hz : z ≤ 6) (ht4 : t ≤ 4) (sz : Nat) : MetI l yX8_tellOfAll wsX8_tellOfAll ({ frames := 2, cells := 0, slots := 0, locals := 48 }) g [.ref h0, .int p1] [(h0, .inr (8, [.ref pg, .int le, .ref rd, .int re, .ref sk, .ref si, .ref sy, .int sd, .ref ks, .ref ki, .int kp, .ref al, .ref dr])), (sk, .inr (5, [.int (nI z), .int (nI t), .ref s1, .ref s2, .ref s3])), (s2, ai g 6 L), (sy, .inr (6, [.ref y1, .ref y2, .ref y3, .ref lw, .int chg, .ref tr])), (y3, ai g 24 S3), (lw, .inr (2, [.ref l1, .ref l2, .ref l3, .int kn, .int xo, .ref l4])), (si, .inr (4, [.int zs, .ref q1, .ref q2, .ref q3]))] sz (po_X8_tellOfAll_g g h0 pg rd ks ki al dr le re kp sd sk s1 s2 s3 z t L sy y1 y2 y3 lw tr chg S3 l1 l2 l3 l4 kn xo si q1 q2 q3 zs p1) 0 0 := by
  refine k_of (l := l) (y := yX8_tellOfAll) (ws := wsX8_tellOfAll) (rm := { frames := 2, cells := 0, slots := 0, locals := 48 }) (mc := 0) (ms := 0) (av := [.ref h0, .int p1]) (g := g) (wc := [(h0, .inr (8, [.ref pg, .int le, .ref rd, .int re, .ref sk, .ref si, .ref sy, .int sd, .ref ks, .ref ki, .int kp, .ref al, .ref dr])), (sk, .inr (5, [.int (nI z), .int (nI t), .ref s1, .ref s2, .ref s3])), (s2, ai g 6 L), (sy, .inr (6, [.ref y1, .ref y2, .ref y3, .ref lw, .int chg, .ref tr])), (y3, ai g 24 S3), (lw, .inr (2, [.ref l1, .ref l2, .ref l3, .int kn, .int xo, .ref l4])), (si, .inr (4, [.int zs, .ref q1, .ref q2, .ref q3]))]) (Qc := fun A => va_Qi (po_X8_tellOfAll_g g h0 pg rd ks ki al dr le re kp sd sk s1 s2 s3 z t L sy y1 y2 y3 lw tr chg S3 l1 l2 l3 l4 kn xo si q1 q2 q3 zs p1) (bk g A) A) (cc := cX8_tellOfAll) (maxL := 2) (ret := (some .int)) (by decide) rfl (Nat.le_of_ble_eq_true rfl) ?_ sz
  intro p e s m below meth c hx hb hr hts hown hlocks hnm hml A hA hE hZ hP hD hS ls hl
  have hown : s.vm.findClass RX8 = some m.cls := hown
  have hl : lv_has ls 2 [(0, .ref h0), (1, .int p1)] := hl
  refine lv_iload_n hx hb dX8_tellOfAll_0 rfl (lv_at hl 1 rfl) ?_
  by_cases w1_0 : p1 = 0
  · refine lv_tableIn (tgt := 52) (off := 51) hx hb dX8_tellOfAll_1 (by rw [w1_0]; decide) (by rw [w1_0]; decide) (by rw [w1_0]; decide) (by decide) ?_
    refine lv_aload_n hx hb dX8_tellOfAll_52 rfl (lv_at hl 0 rfl) ?_
    refine va_get (D := g.1) (ci := 8) (v := .ref sk) (C := RX8) (T := TX8) (N := 13) hx hb hts q_X8_tellOfAll_g_f8 hown hE.1 hP 0 rfl rfl 4 (by decide) (hts (.fieldLink RX8 23 "SoundLaws" "stock" "LSoundLaws$Stock;") q_X8_tellOfAll_g_1) (fun _ h9 => h9) rfl dX8_tellOfAll_53 ?_
    refine va_get (D := g.1) (ci := 5) (v := .int (nI z)) (C := RX5) (T := TX5) (N := 5) hx hb hts q_X8_tellOfAll_g_f5 hown hE.1 hP 1 rfl rfl 0 (by decide) (hts (.fieldLink RX8 93 "SoundLaws$Stock" "size" "I") q_X8_tellOfAll_g_3) (fun _ h9 => h9) rfl dX8_tellOfAll_56 ?_
    refine W.widen (k := 0) (n := 0) (Nat.le_of_ble_eq_true rfl) (Nat.le_of_ble_eq_true rfl) ?_
    exact k_ri hx hb hr hlocks hS hP hD rfl dX8_tellOfAll_59
  by_cases w1_1 : p1 = 1
  · refine lv_tableIn (tgt := 60) (off := 59) hx hb dX8_tellOfAll_1 (by rw [w1_1]; decide) (by rw [w1_1]; decide) (by rw [w1_1]; decide) (by decide) ?_
    refine lv_aload_n hx hb dX8_tellOfAll_60 rfl (lv_at hl 0 rfl) ?_
    refine va_get (D := g.1) (ci := 8) (v := .ref sk) (C := RX8) (T := TX8) (N := 13) hx hb hts q_X8_tellOfAll_g_f8 hown hE.1 hP 0 rfl rfl 4 (by decide) (hts (.fieldLink RX8 23 "SoundLaws" "stock" "LSoundLaws$Stock;") q_X8_tellOfAll_g_1) (fun _ h9 => h9) rfl dX8_tellOfAll_61 ?_
    refine va_get (D := g.1) (ci := 5) (v := .int (nI t)) (C := RX5) (T := TX5) (N := 5) hx hb hts q_X8_tellOfAll_g_f5 hown hE.1 hP 1 rfl rfl 1 (by decide) (hts (.fieldLink RX8 234 "SoundLaws$Stock" "tongues" "I") q_X8_tellOfAll_g_4) (fun _ h9 => h9) rfl dX8_tellOfAll_64 ?_
    refine W.widen (k := 0) (n := 0) (Nat.le_of_ble_eq_true rfl) (Nat.le_of_ble_eq_true rfl) ?_
    exact k_ri hx hb hr hlocks hS hP hD rfl dX8_tellOfAll_67
  by_cases w1_2 : p1 = 2
  · refine lv_tableIn (tgt := 68) (off := 67) hx hb dX8_tellOfAll_1 (by rw [w1_2]; decide) (by rw [w1_2]; decide) (by rw [w1_2]; decide) (by decide) ?_
    refine lv_aload_n hx hb dX8_tellOfAll_68 rfl (lv_at hl 0 rfl) ?_
    refine va_get (D := g.1) (ci := 8) (v := .ref sk) (C := RX8) (T := TX8) (N := 13) hx hb hts q_X8_tellOfAll_g_f8 hown hE.1 hP 0 rfl rfl 4 (by decide) (hts (.fieldLink RX8 23 "SoundLaws" "stock" "LSoundLaws$Stock;") q_X8_tellOfAll_g_1) (fun _ h9 => h9) rfl dX8_tellOfAll_69 ?_
    refine va_get (D := g.1) (ci := 5) (v := .int (nI t)) (C := RX5) (T := TX5) (N := 5) hx hb hts q_X8_tellOfAll_g_f5 hown hE.1 hP 1 rfl rfl 1 (by decide) (hts (.fieldLink RX8 234 "SoundLaws$Stock" "tongues" "I") q_X8_tellOfAll_g_4) (fun _ h9 => h9) rfl dX8_tellOfAll_72 ?_
    refine k_ci (wr := [(h0, .inr (8, [.ref pg, .int le, .ref rd, .int re, .ref sk, .ref si, .ref sy, .int sd, .ref ks, .ref ki, .int kp, .ref al, .ref dr])), (sk, .inr (5, [.int (nI z), .int (nI t), .ref s1, .ref s2, .ref s3])), (s2, ai g 6 L), (sy, .inr (6, [.ref y1, .ref y2, .ref y3, .ref lw, .int chg, .ref tr])), (y3, ai g 24 S3), (lw, .inr (2, [.ref l1, .ref l2, .ref l3, .int kn, .int xo, .ref l4])), (si, .inr (4, [.int zs, .ref q1, .ref q2, .ref q3]))]) hP hD hS hA [] [0, 1, 2, 3, 4, 5, 6] rfl rfl (by decide) (by decide) (va_runS (As := [.int (nI t)]) (rest := []) ⟨hx, hb, hml, hown, hts⟩ (c_X8_nodesOf_g l g t (by first | assumption | omega) s.heap.size) (va_cwS 1 hts gX8_tellOfAll_X8_nodesOf rfl rfl rfl (by decide +kernel) ⟨Nat.le_of_ble_eq_true rfl, Nat.le_of_ble_eq_true rfl⟩) (k_preS hE hZ hP hD hS hA [] rfl (by decide)) rfl rfl hl.1 rfl (lv_room (Nat.le_of_ble_eq_true rfl)) dX8_tellOfAll_75 ⟨Nat.le_of_ble_eq_true rfl, Nat.le_of_ble_eq_true rfl⟩) (fun r_1 w1 H locs hw hP hD hS => ?_)
    obtain ⟨rfl, rfl⟩ := hw
    have hP : va_P g.1 vwCl [(h0, .inr (8, [.ref pg, .int le, .ref rd, .int re, .ref sk, .ref si, .ref sy, .int sd, .ref ks, .ref ki, .int kp, .ref al, .ref dr])), (sk, .inr (5, [.int (nI z), .int (nI t), .ref s1, .ref s2, .ref s3])), (s2, ai g 6 L), (sy, .inr (6, [.ref y1, .ref y2, .ref y3, .ref lw, .int chg, .ref tr])), (y3, ai g 24 S3), (lw, .inr (2, [.ref l1, .ref l2, .ref l3, .int kn, .int xo, .ref l4])), (si, .inr (4, [.int zs, .ref q1, .ref q2, .ref q3]))] H := hP
    have hD : va_D A [(h0, .inr (8, [.ref pg, .int le, .ref rd, .int re, .ref sk, .ref si, .ref sy, .int sd, .ref ks, .ref ki, .int kp, .ref al, .ref dr])), (sk, .inr (5, [.int (nI z), .int (nI t), .ref s1, .ref s2, .ref s3])), (s2, ai g 6 L), (sy, .inr (6, [.ref y1, .ref y2, .ref y3, .ref lw, .int chg, .ref tr])), (y3, ai g 24 S3), (lw, .inr (2, [.ref l1, .ref l2, .ref l3, .int kn, .int xo, .ref l4])), (si, .inr (4, [.int zs, .ref q1, .ref q2, .ref q3]))] := hD
    refine W.widen (k := 0) (n := 0) (Nat.le_of_ble_eq_true rfl) (Nat.le_of_ble_eq_true rfl) ?_
    exact k_ri hx hb hr hlocks hS hP hD rfl dX8_tellOfAll_78
  by_cases w1_3 : p1 = 3
  · refine lv_tableIn (tgt := 79) (off := 78) hx hb dX8_tellOfAll_1 (by rw [w1_3]; decide) (by rw [w1_3]; decide) (by rw [w1_3]; decide) (by decide) ?_
    refine lv_aload_n hx hb dX8_tellOfAll_79 rfl (lv_at hl 0 rfl) ?_
    refine va_get (D := g.1) (ci := 8) (v := .ref sy) (C := RX8) (T := TX8) (N := 13) hx hb hts q_X8_tellOfAll_g_f8 hown hE.1 hP 0 rfl rfl 6 (by decide) (hts (.fieldLink RX8 37 "SoundLaws" "study" "LSoundLaws$Study;") q_X8_tellOfAll_g_5) (fun _ h9 => h9) rfl dX8_tellOfAll_80 ?_
    refine va_get (D := g.1) (ci := 6) (v := .int chg) (C := RX6) (T := TX6) (N := 6) hx hb hts q_X8_tellOfAll_g_f6 hown hE.1 hP 3 rfl rfl 4 (by decide) (hts (.fieldLink RX8 202 "SoundLaws$Study" "changesOfAll" "I") q_X8_tellOfAll_g_7) (fun _ h9 => h9) rfl dX8_tellOfAll_83 ?_
    refine W.widen (k := 0) (n := 0) (Nat.le_of_ble_eq_true rfl) (Nat.le_of_ble_eq_true rfl) ?_
    exact k_ri hx hb hr hlocks hS hP hD rfl dX8_tellOfAll_86
  by_cases w1_4 : p1 = 4
  · refine lv_tableIn (tgt := 87) (off := 86) hx hb dX8_tellOfAll_1 (by rw [w1_4]; decide) (by rw [w1_4]; decide) (by rw [w1_4]; decide) (by decide) ?_
    refine lv_aload_n hx hb dX8_tellOfAll_87 rfl (lv_at hl 0 rfl) ?_
    refine va_get (D := g.1) (ci := 8) (v := .ref sy) (C := RX8) (T := TX8) (N := 13) hx hb hts q_X8_tellOfAll_g_f8 hown hE.1 hP 0 rfl rfl 6 (by decide) (hts (.fieldLink RX8 37 "SoundLaws" "study" "LSoundLaws$Study;") q_X8_tellOfAll_g_5) (fun _ h9 => h9) rfl dX8_tellOfAll_88 ?_
    refine va_get (D := g.1) (ci := 6) (v := .ref lw) (C := RX6) (T := TX6) (N := 6) hx hb hts q_X8_tellOfAll_g_f6 hown hE.1 hP 3 rfl rfl 3 (by decide) (hts (.fieldLink RX8 133 "SoundLaws$Study" "laws" "LSoundLaws$Laws;") q_X8_tellOfAll_g_8) (fun _ h9 => h9) rfl dX8_tellOfAll_91 ?_
    refine va_get (D := g.1) (ci := 2) (v := .int kn) (C := RX2) (T := TX2) (N := 6) hx hb hts q_X8_tellOfAll_g_f2 hown hE.1 hP 5 rfl rfl 3 (by decide) (hts (.fieldLink RX8 278 "SoundLaws$Laws" "known" "I") q_X8_tellOfAll_g_10) (fun _ h9 => h9) rfl dX8_tellOfAll_94 ?_
    refine W.widen (k := 0) (n := 0) (Nat.le_of_ble_eq_true rfl) (Nat.le_of_ble_eq_true rfl) ?_
    exact k_ri hx hb hr hlocks hS hP hD rfl dX8_tellOfAll_97
  by_cases w1_5 : p1 = 5
  · refine lv_tableIn (tgt := 98) (off := 97) hx hb dX8_tellOfAll_1 (by rw [w1_5]; decide) (by rw [w1_5]; decide) (by rw [w1_5]; decide) (by decide) ?_
    refine lv_aload_n hx hb dX8_tellOfAll_98 rfl (lv_at hl 0 rfl) ?_
    refine va_get (D := g.1) (ci := 8) (v := .ref sy) (C := RX8) (T := TX8) (N := 13) hx hb hts q_X8_tellOfAll_g_f8 hown hE.1 hP 0 rfl rfl 6 (by decide) (hts (.fieldLink RX8 37 "SoundLaws" "study" "LSoundLaws$Study;") q_X8_tellOfAll_g_5) (fun _ h9 => h9) rfl dX8_tellOfAll_99 ?_
    refine va_get (D := g.1) (ci := 6) (v := .ref lw) (C := RX6) (T := TX6) (N := 6) hx hb hts q_X8_tellOfAll_g_f6 hown hE.1 hP 3 rfl rfl 3 (by decide) (hts (.fieldLink RX8 133 "SoundLaws$Study" "laws" "LSoundLaws$Laws;") q_X8_tellOfAll_g_8) (fun _ h9 => h9) rfl dX8_tellOfAll_102 ?_
    refine va_get (D := g.1) (ci := 2) (v := .int xo) (C := RX2) (T := TX2) (N := 6) hx hb hts q_X8_tellOfAll_g_f2 hown hE.1 hP 5 rfl rfl 4 (by decide) (hts (.fieldLink RX8 281 "SoundLaws$Laws" "exceptionsOfAll" "I") q_X8_tellOfAll_g_11) (fun _ h9 => h9) rfl dX8_tellOfAll_105 ?_
    refine W.widen (k := 0) (n := 0) (Nat.le_of_ble_eq_true rfl) (Nat.le_of_ble_eq_true rfl) ?_
    exact k_ri hx hb hr hlocks hS hP hD rfl dX8_tellOfAll_108
  by_cases w1_6 : p1 = 6
  · refine lv_tableIn (tgt := 109) (off := 108) hx hb dX8_tellOfAll_1 (by rw [w1_6]; decide) (by rw [w1_6]; decide) (by rw [w1_6]; decide) (by decide) ?_
    refine lv_aload_n hx hb dX8_tellOfAll_109 rfl (lv_at hl 0 rfl) ?_
    refine va_get (D := g.1) (ci := 8) (v := .ref sy) (C := RX8) (T := TX8) (N := 13) hx hb hts q_X8_tellOfAll_g_f8 hown hE.1 hP 0 rfl rfl 6 (by decide) (hts (.fieldLink RX8 37 "SoundLaws" "study" "LSoundLaws$Study;") q_X8_tellOfAll_g_5) (fun _ h9 => h9) rfl dX8_tellOfAll_110 ?_
    refine lv_aload_n hx hb dX8_tellOfAll_113 rfl (lv_at hl 0 rfl) ?_
    refine va_get (D := g.1) (ci := 8) (v := .ref sk) (C := RX8) (T := TX8) (N := 13) hx hb hts q_X8_tellOfAll_g_f8 hown hE.1 hP 0 rfl rfl 4 (by decide) (hts (.fieldLink RX8 23 "SoundLaws" "stock" "LSoundLaws$Stock;") q_X8_tellOfAll_g_1) (fun _ h9 => h9) rfl dX8_tellOfAll_114 ?_
    refine k_ci (wr := [(h0, .inr (8, [.ref pg, .int le, .ref rd, .int re, .ref sk, .ref si, .ref sy, .int sd, .ref ks, .ref ki, .int kp, .ref al, .ref dr])), (lw, .inr (2, [.ref l1, .ref l2, .ref l3, .int kn, .int xo, .ref l4])), (si, .inr (4, [.int zs, .ref q1, .ref q2, .ref q3]))]) hP hD hS hA [3, 4, 1, 2] [0, 5, 6] rfl rfl (by decide) (by decide) (va_runV (As := [.ref sk]) (rest := []) ⟨hx, hb, hml, hown, hts⟩ (c_X6_borrowedWords_g l g sy y1 y2 y3 lw tr chg S3 L sk s1 s2 s3 z t (by first | assumption | omega) (by first | assumption | omega) s.heap.size) (cwV 1 hts gX8_tellOfAll_X6_borrowedWords rfl rfl rfl (by decide +kernel) ⟨Nat.le_of_ble_eq_true rfl, Nat.le_of_ble_eq_true rfl⟩) (k_preV hE hZ hP hD hS hA [3, 4, 1, 2] rfl (by decide) (va_recv hE.1 hP (ci := 6) (q0 := 3) rfl rfl)) rfl rfl hl.1 rfl (lv_room (Nat.le_of_ble_eq_true rfl)) dX8_tellOfAll_117 ⟨Nat.le_of_ble_eq_true rfl, Nat.le_of_ble_eq_true rfl⟩) (fun r_3 w1 H locs hw hP hD hS => ?_)
    obtain rfl := hw
    have hP : va_P g.1 vwCl [(h0, .inr (8, [.ref pg, .int le, .ref rd, .int re, .ref sk, .ref si, .ref sy, .int sd, .ref ks, .ref ki, .int kp, .ref al, .ref dr])), (lw, .inr (2, [.ref l1, .ref l2, .ref l3, .int kn, .int xo, .ref l4])), (si, .inr (4, [.int zs, .ref q1, .ref q2, .ref q3])), (sy, .inr (6, [.ref y1, .ref y2, .ref y3, .ref lw, .int chg, .ref tr])), (y3, ai g 24 S3), (sk, .inr (5, [.int (nI z), .int (nI t), .ref s1, .ref s2, .ref s3])), (s2, ai g 6 L)] H := hP
    have hD : va_D A [(h0, .inr (8, [.ref pg, .int le, .ref rd, .int re, .ref sk, .ref si, .ref sy, .int sd, .ref ks, .ref ki, .int kp, .ref al, .ref dr])), (lw, .inr (2, [.ref l1, .ref l2, .ref l3, .int kn, .int xo, .ref l4])), (si, .inr (4, [.int zs, .ref q1, .ref q2, .ref q3])), (sy, .inr (6, [.ref y1, .ref y2, .ref y3, .ref lw, .int chg, .ref tr])), (y3, ai g 24 S3), (sk, .inr (5, [.int (nI z), .int (nI t), .ref s1, .ref s2, .ref s3])), (s2, ai g 6 L)] := hD
    refine W.widen (k := 0) (n := 0) (Nat.le_of_ble_eq_true rfl) (Nat.le_of_ble_eq_true rfl) ?_
    have hP9 := hP.sub (ws' := [(h0, .inr (8, [.ref pg, .int le, .ref rd, .int re, .ref sk, .ref si, .ref sy, .int sd, .ref ks, .ref ki, .int kp, .ref al, .ref dr])), (sk, .inr (5, [.int (nI z), .int (nI t), .ref s1, .ref s2, .ref s3])), (s2, ai g 6 L), (sy, .inr (6, [.ref y1, .ref y2, .ref y3, .ref lw, .int chg, .ref tr])), (y3, ai g 24 S3), (lw, .inr (2, [.ref l1, .ref l2, .ref l3, .int kn, .int xo, .ref l4])), (si, .inr (4, [.int zs, .ref q1, .ref q2, .ref q3]))]) [0, 5, 6, 3, 4, 1, 2] rfl
    have hD9 := hD.sub (ws' := [(h0, .inr (8, [.ref pg, .int le, .ref rd, .int re, .ref sk, .ref si, .ref sy, .int sd, .ref ks, .ref ki, .int kp, .ref al, .ref dr])), (sk, .inr (5, [.int (nI z), .int (nI t), .ref s1, .ref s2, .ref s3])), (s2, ai g 6 L), (sy, .inr (6, [.ref y1, .ref y2, .ref y3, .ref lw, .int chg, .ref tr])), (y3, ai g 24 S3), (lw, .inr (2, [.ref l1, .ref l2, .ref l3, .int kn, .int xo, .ref l4])), (si, .inr (4, [.int zs, .ref q1, .ref q2, .ref q3]))]) [0, 5, 6, 3, 4, 1, 2] (by decide) rfl
    exact k_ri hx hb hr hlocks hS hP9 hD9 rfl dX8_tellOfAll_120
  by_cases w1_7 : p1 = 7
  · refine lv_tableIn (tgt := 121) (off := 120) hx hb dX8_tellOfAll_1 (by rw [w1_7]; decide) (by rw [w1_7]; decide) (by rw [w1_7]; decide) (by decide) ?_
    refine lv_aload_n hx hb dX8_tellOfAll_121 rfl (lv_at hl 0 rfl) ?_
    refine va_get (D := g.1) (ci := 8) (v := .ref si) (C := RX8) (T := TX8) (N := 13) hx hb hts q_X8_tellOfAll_g_f8 hown hE.1 hP 0 rfl rfl 5 (by decide) (hts (.fieldLink RX8 30 "SoundLaws" "sightings" "LSoundLaws$Sightings;") q_X8_tellOfAll_g_12) (fun _ h9 => h9) rfl dX8_tellOfAll_122 ?_
    refine va_get (D := g.1) (ci := 4) (v := .int zs) (C := RX4) (T := TX4) (N := 4) hx hb hts q_X8_tellOfAll_g_f4 hown hE.1 hP 6 rfl rfl 0 (by decide) (hts (.fieldLink RX8 205 "SoundLaws$Sightings" "size" "I") q_X8_tellOfAll_g_14) (fun _ h9 => h9) rfl dX8_tellOfAll_125 ?_
    refine W.widen (k := 0) (n := 0) (Nat.le_of_ble_eq_true rfl) (Nat.le_of_ble_eq_true rfl) ?_
    exact k_ri hx hb hr hlocks hS hP hD rfl dX8_tellOfAll_128
  by_cases w1_8 : p1 = 8
  · refine lv_tableIn (tgt := 129) (off := 128) hx hb dX8_tellOfAll_1 (by rw [w1_8]; decide) (by rw [w1_8]; decide) (by rw [w1_8]; decide) (by decide) ?_
    refine lv_aload_n hx hb dX8_tellOfAll_129 rfl (lv_at hl 0 rfl) ?_
    refine va_get (D := g.1) (ci := 8) (v := .int le) (C := RX8) (T := TX8) (N := 13) hx hb hts q_X8_tellOfAll_g_f8 hown hE.1 hP 0 rfl rfl 1 (by decide) (hts (.fieldLink RX8 61 "SoundLaws" "letters" "I") q_X8_tellOfAll_g_15) (fun _ h9 => h9) rfl dX8_tellOfAll_130 ?_
    refine W.widen (k := 0) (n := 0) (Nat.le_of_ble_eq_true rfl) (Nat.le_of_ble_eq_true rfl) ?_
    exact k_ri hx hb hr hlocks hS hP hD rfl dX8_tellOfAll_133
  refine lv_tableOut (tgt := 134) hx hb dX8_tellOfAll_1 (by have q0 := lv_neT w1_0 (show (0 : Int32).toInt = 0 from rfl); have q1 := lv_neT w1_1 (show (1 : Int32).toInt = 1 from rfl); have q2 := lv_neT w1_2 (show (2 : Int32).toInt = 2 from rfl); have q3 := lv_neT w1_3 (show (3 : Int32).toInt = 3 from rfl); have q4 := lv_neT w1_4 (show (4 : Int32).toInt = 4 from rfl); have q5 := lv_neT w1_5 (show (5 : Int32).toInt = 5 from rfl); have q6 := lv_neT w1_6 (show (6 : Int32).toInt = 6 from rfl); have q7 := lv_neT w1_7 (show (7 : Int32).toInt = 7 from rfl); have q8 := lv_neT w1_8 (show (8 : Int32).toInt = 8 from rfl); omega) (by decide) ?_
  refine lv_aload_n hx hb dX8_tellOfAll_134 rfl (lv_at hl 0 rfl) ?_
  refine va_get (D := g.1) (ci := 8) (v := .int re) (C := RX8) (T := TX8) (N := 13) hx hb hts q_X8_tellOfAll_g_f8 hown hE.1 hP 0 rfl rfl 3 (by decide) (hts (.fieldLink RX8 90 "SoundLaws" "readings" "I") q_X8_tellOfAll_g_16) (fun _ h9 => h9) rfl dX8_tellOfAll_135 ?_
  refine W.widen (k := 0) (n := 0) (Nat.le_of_ble_eq_true rfl) (Nat.le_of_ble_eq_true rfl) ?_
  exact k_ri hx hb hr hlocks hS hP hD rfl dX8_tellOfAll_138
def po_X8_digestSet_g (g : GG) (h0 : Nat) (pg : Nat) (rd : Nat) (si : Nat) (ks : Nat) (ki : Nat) (al : Nat) (dr : Nat) (le : Int32) (re : Int32) (kp : Int32) (sd : Int32) (sk : Nat) (s1 : Nat) (s2 : Nat) (s3 : Nat) (z : Nat) (t : Nat) (K : Nat → Int32) (L : Nat → Int32) (V : Nat → Int32) (sy : Nat) (y1 : Nat) (y2 : Nat) (y3 : Nat) (lw : Nat) (tr : Nat) (chg : Int32) (S1 : Nat → Int32) (S2 : Nat → Int32) (S3 : Nat → Int32) (q1 : Nat) (q2 : Nat) (q3 : Nat) (n : Nat) (A1 : Nat → Int32) (A2 : Nat → Int32) (A3 : Nat → Int32) (hv : Int64) (k : Nat) : Int64 → va_W → Prop := fun (r : Int64) w => w = [(h0, .inr (8, [.ref pg, .int le, .ref rd, .int re, .ref sk, .ref si, .ref sy, .int sd, .ref ks, .ref ki, .int kp, .ref al, .ref dr])), (sk, .inr (5, [.int (nI z), .int (nI t), .ref s1, .ref s2, .ref s3])), (s1, ai g 6 K), (s2, ai g 6 L), (s3, ai g 96 V), (sy, .inr (6, [.ref y1, .ref y2, .ref y3, .ref lw, .int chg, .ref tr])), (y1, ai g 168 S1), (y2, ai g 6 S2), (y3, ai g 24 S3), (si, .inr (4, [.int (nI n), .ref q1, .ref q2, .ref q3])), (q1, ai g 6 A1), (q2, ai g 6 A2), (q3, az g 6 A3)]
theorem q_X8_digestSet_g_f8 : ∀ w ∈ u_ws RX8 TX8 13, w ∈ wsX8_digestSet := by decide +kernel
theorem q_X8_digestSet_g_1 : (Cond.fieldLink RX8 23 "SoundLaws" "stock" "LSoundLaws$Stock;") ∈ wsX8_digestSet := by decide +kernel
theorem q_X8_digestSet_g_f5 : ∀ w ∈ u_ws RX5 TX5 5, w ∈ wsX8_digestSet := by decide +kernel
theorem q_X8_digestSet_g_3 : (Cond.fieldLink RX8 234 "SoundLaws$Stock" "tongues" "I") ∈ wsX8_digestSet := by decide +kernel
theorem q_X8_digestSet_g_4 : (Cond.fieldLink RX8 168 "SoundLaws$Stock" "lengths" "[I") ∈ wsX8_digestSet := by decide +kernel
set_option maxHeartbeats 1500000 in
set_option maxRecDepth 100000 in
theorem c_X8_digestSet_g (l : Launch) (g : GG) (h0 : Nat) (pg : Nat) (rd : Nat) (si : Nat) (ks : Nat) (ki : Nat) (al : Nat) (dr : Nat) (le : Int32) (re : Int32) (kp : Int32) (sd : Int32) (sk : Nat) (s1 : Nat) (s2 : Nat) (s3 : Nat) (z : Nat) (t : Nat) (K : Nat → Int32) (L : Nat → Int32) (V : Nat → Int32) (sy : Nat) (y1 : Nat) (y2 : Nat) (y3 : Nat) (lw : Nat) (tr : Nat) (chg : Int32) (S1 : Nat → Int32) (S2 : Nat → Int32) (S3 : Nat → Int32) (q1 : Nat) (q2 : Nat) (q3 : Nat) (n : Nat) (A1 : Nat → Int32) (A2 : Nat → Int32) (A3 : Nat → Int32) (hv : Int64) (k : Nat) (hk : k < 6) (ht4 : t ≤ 4) (hn : n ≤ 6) (hK : rng 6 5 K) (hL : rng 6 5 L) (sz : Nat) : MetL l yX8_digestSet wsX8_digestSet ({ frames := 5, cells := 0, slots := 0, locals := 116 }) g [.ref h0, .long hv, .int (nI k)] [(h0, .inr (8, [.ref pg, .int le, .ref rd, .int re, .ref sk, .ref si, .ref sy, .int sd, .ref ks, .ref ki, .int kp, .ref al, .ref dr])), (sk, .inr (5, [.int (nI z), .int (nI t), .ref s1, .ref s2, .ref s3])), (s1, ai g 6 K), (s2, ai g 6 L), (s3, ai g 96 V), (sy, .inr (6, [.ref y1, .ref y2, .ref y3, .ref lw, .int chg, .ref tr])), (y1, ai g 168 S1), (y2, ai g 6 S2), (y3, ai g 24 S3), (si, .inr (4, [.int (nI n), .ref q1, .ref q2, .ref q3])), (q1, ai g 6 A1), (q2, ai g 6 A2), (q3, az g 6 A3)] sz (po_X8_digestSet_g g h0 pg rd si ks ki al dr le re kp sd sk s1 s2 s3 z t K L V sy y1 y2 y3 lw tr chg S1 S2 S3 q1 q2 q3 n A1 A2 A3 hv k) 0 0 := by
  refine k_of (l := l) (y := yX8_digestSet) (ws := wsX8_digestSet) (rm := { frames := 5, cells := 0, slots := 0, locals := 116 }) (mc := 0) (ms := 0) (av := [.ref h0, .long hv, .int (nI k)]) (g := g) (wc := [(h0, .inr (8, [.ref pg, .int le, .ref rd, .int re, .ref sk, .ref si, .ref sy, .int sd, .ref ks, .ref ki, .int kp, .ref al, .ref dr])), (sk, .inr (5, [.int (nI z), .int (nI t), .ref s1, .ref s2, .ref s3])), (s1, ai g 6 K), (s2, ai g 6 L), (s3, ai g 96 V), (sy, .inr (6, [.ref y1, .ref y2, .ref y3, .ref lw, .int chg, .ref tr])), (y1, ai g 168 S1), (y2, ai g 6 S2), (y3, ai g 24 S3), (si, .inr (4, [.int (nI n), .ref q1, .ref q2, .ref q3])), (q1, ai g 6 A1), (q2, ai g 6 A2), (q3, az g 6 A3)]) (Qc := fun A => va_Ql (po_X8_digestSet_g g h0 pg rd si ks ki al dr le re kp sd sk s1 s2 s3 z t K L V sy y1 y2 y3 lw tr chg S1 S2 S3 q1 q2 q3 n A1 A2 A3 hv k) (bk g A) A) (cc := cX8_digestSet) (maxL := 9) (ret := (some .long)) (by decide) rfl (Nat.le_of_ble_eq_true rfl) ?_ sz
  intro p e s m below meth c hx hb hr hts hown hlocks hnm hml A hA hE hZ hP hD hS ls hl
  have hown : s.vm.findClass RX8 = some m.cls := hown
  have hl : lv_has ls 9 [(0, .ref h0), (1, .long hv), (3, .int (nI k))] := hl
  refine lv_lload_n hx hb dX8_digestSet_0 rfl (lv_at hl 1 rfl) ?_
  refine lv_lstore (lv' := [(4, .long hv), (0, .ref h0), (1, .long hv), (3, .int (nI k))]) hx hb dX8_digestSet_1 hl (by decide) rfl (fun ls hl => ?_)
  refine lv_iconst (v := 0) hx hb dX8_digestSet_3 (by decide) ?_
  refine lv_istore (lv' := [(6, .int 0), (4, .long hv), (0, .ref h0), (1, .long hv), (3, .int (nI k))]) hx hb dX8_digestSet_4 hl (by decide) rfl (fun ls hl => ?_)
  have loop6 : ∀ (fu : Nat) (w : Nat) (x4 : Int64), (hw : w ≤ 7) → 7 - w < fu → ∀ (H : Heap) (locs : List Loc) (ls : Array Slot), va_P g.1 vwCl [(h0, .inr (8, [.ref pg, .int le, .ref rd, .int re, .ref sk, .ref si, .ref sy, .int sd, .ref ks, .ref ki, .int kp, .ref al, .ref dr])), (sk, .inr (5, [.int (nI z), .int (nI t), .ref s1, .ref s2, .ref s3])), (s1, ai g 6 K), (s2, ai g 6 L), (s3, ai g 96 V), (sy, .inr (6, [.ref y1, .ref y2, .ref y3, .ref lw, .int chg, .ref tr])), (y1, ai g 168 S1), (y2, ai g 6 S2), (y3, ai g 24 S3), (si, .inr (4, [.int (nI n), .ref q1, .ref q2, .ref q3])), (q1, ai g 6 A1), (q2, ai g 6 A2), (q3, az g 6 A3)] H → va_D A [(h0, .inr (8, [.ref pg, .int le, .ref rd, .int re, .ref sk, .ref si, .ref sy, .int sd, .ref ks, .ref ki, .int kp, .ref al, .ref dr])), (sk, .inr (5, [.int (nI z), .int (nI t), .ref s1, .ref s2, .ref s3])), (s1, ai g 6 K), (s2, ai g 6 L), (s3, ai g 96 V), (sy, .inr (6, [.ref y1, .ref y2, .ref y3, .ref lw, .int chg, .ref tr])), (y1, ai g 168 S1), (y2, ai g 6 S2), (y3, ai g 24 S3), (si, .inr (4, [.int (nI n), .ref q1, .ref q2, .ref q3])), (q1, ai g 6 A1), (q2, ai g 6 A2), (q3, az g 6 A3)] → va_S A s.heap H locs → lv_has ls 9 [(0, .ref h0), (1, .long hv), (3, .int (nI k)), (4, .long x4), (6, .int (nI w))] → W p l e ({ frames := 5, cells := 0, slots := 0, locals := 116 }) s m [.ref h0, .long hv, .int (nI k)].toArray below meth c H locs 0 0 (MQ below (va_Ql (po_X8_digestSet_g g h0 pg rd si ks ki al dr le re kp sd sk s1 s2 s3 z t K L V sy y1 y2 y3 lw tr chg S1 S2 S3 q1 q2 q3 n A1 A2 A3 hv k) (bk g A) A) [.ref h0, .long hv, .int (nI k)].toArray s 0 0 A) (F0 m 6 ls []) := by
    intro fu
    induction fu with
    | zero => intro w x4 hw hfu; exact absurd hfu (Nat.not_lt_zero _)
    | succ fu ih =>
      intro w x4 hw hfu H locs ls hP hD hS hl
      have ih6 := ih
      refine lv_iload hx hb dX8_digestSet_6 (lv_at hl 4 rfl) ?_
      refine lv_bipush (v := 7) hx hb dX8_digestSet_8 (by decide) ?_
      refine lv_icmp_ge (tgt := 33) hx hb dX8_digestSet_10 (by decide) (fun c10_1 => ?_) (fun c10_1 => ?_)
      · skip
        refine lv_aload_n hx hb dX8_digestSet_33 rfl (lv_at hl 0 rfl) ?_
        refine va_get (D := g.1) (ci := 8) (v := .ref sk) (C := RX8) (T := TX8) (N := 13) hx hb hts q_X8_digestSet_g_f8 hown hE.1 hP 0 rfl rfl 4 (by decide) (hts (.fieldLink RX8 23 "SoundLaws" "stock" "LSoundLaws$Stock;") q_X8_digestSet_g_1) (fun _ h9 => h9) rfl dX8_digestSet_34 ?_
        refine va_get (D := g.1) (ci := 5) (v := .int (nI t)) (C := RX5) (T := TX5) (N := 5) hx hb hts q_X8_digestSet_g_f5 hown hE.1 hP 1 rfl rfl 1 (by decide) (hts (.fieldLink RX8 234 "SoundLaws$Stock" "tongues" "I") q_X8_digestSet_g_3) (fun _ h9 => h9) rfl dX8_digestSet_37 ?_
        refine k_ci (wr := [(h0, .inr (8, [.ref pg, .int le, .ref rd, .int re, .ref sk, .ref si, .ref sy, .int sd, .ref ks, .ref ki, .int kp, .ref al, .ref dr])), (sk, .inr (5, [.int (nI z), .int (nI t), .ref s1, .ref s2, .ref s3])), (s1, ai g 6 K), (s2, ai g 6 L), (s3, ai g 96 V), (sy, .inr (6, [.ref y1, .ref y2, .ref y3, .ref lw, .int chg, .ref tr])), (y1, ai g 168 S1), (y2, ai g 6 S2), (y3, ai g 24 S3), (si, .inr (4, [.int (nI n), .ref q1, .ref q2, .ref q3])), (q1, ai g 6 A1), (q2, ai g 6 A2), (q3, az g 6 A3)]) hP hD hS hA [] [0, 1, 2, 3, 4, 5, 6, 7, 8, 9, 10, 11, 12] rfl rfl (by decide) (by decide) (va_runS (As := [.int (nI t)]) (rest := []) ⟨hx, hb, hml, hown, hts⟩ (c_X8_nodesOf_g l g t (by first | assumption | omega) H.size) (va_cwS 1 hts gX8_digestSet_X8_nodesOf rfl rfl rfl (by decide +kernel) ⟨Nat.le_of_ble_eq_true rfl, Nat.le_of_ble_eq_true rfl⟩) (k_preS hE hZ hP hD hS hA [] rfl (by decide)) rfl rfl hl.1 rfl (lv_room (Nat.le_of_ble_eq_true rfl)) dX8_digestSet_40 ⟨Nat.le_of_ble_eq_true rfl, Nat.le_of_ble_eq_true rfl⟩) (fun r_2 w1 H locs hw hP hD hS => ?_)
        obtain ⟨rfl, rfl⟩ := hw
        have hP : va_P g.1 vwCl [(h0, .inr (8, [.ref pg, .int le, .ref rd, .int re, .ref sk, .ref si, .ref sy, .int sd, .ref ks, .ref ki, .int kp, .ref al, .ref dr])), (sk, .inr (5, [.int (nI z), .int (nI t), .ref s1, .ref s2, .ref s3])), (s1, ai g 6 K), (s2, ai g 6 L), (s3, ai g 96 V), (sy, .inr (6, [.ref y1, .ref y2, .ref y3, .ref lw, .int chg, .ref tr])), (y1, ai g 168 S1), (y2, ai g 6 S2), (y3, ai g 24 S3), (si, .inr (4, [.int (nI n), .ref q1, .ref q2, .ref q3])), (q1, ai g 6 A1), (q2, ai g 6 A2), (q3, az g 6 A3)] H := hP
        have hD : va_D A [(h0, .inr (8, [.ref pg, .int le, .ref rd, .int re, .ref sk, .ref si, .ref sy, .int sd, .ref ks, .ref ki, .int kp, .ref al, .ref dr])), (sk, .inr (5, [.int (nI z), .int (nI t), .ref s1, .ref s2, .ref s3])), (s1, ai g 6 K), (s2, ai g 6 L), (s3, ai g 96 V), (sy, .inr (6, [.ref y1, .ref y2, .ref y3, .ref lw, .int chg, .ref tr])), (y1, ai g 168 S1), (y2, ai g 6 S2), (y3, ai g 24 S3), (si, .inr (4, [.int (nI n), .ref q1, .ref q2, .ref q3])), (q1, ai g 6 A1), (q2, ai g 6 A2), (q3, az g 6 A3)] := hD
        refine lv_istore (lv' := [(6, .int (nI (nod t))), (0, .ref h0), (1, .long hv), (3, .int (nI k)), (4, .long x4)]) hx hb dX8_digestSet_43 hl (by decide) rfl (fun ls hl => ?_)
        have hno7 := nod_le ht4
        refine lv_iconst (v := 0) hx hb dX8_digestSet_45 (by decide) ?_
        refine lv_istore (lv' := [(7, .int 0), (6, .int (nI (nod t))), (0, .ref h0), (1, .long hv), (3, .int (nI k)), (4, .long x4)]) hx hb dX8_digestSet_46 hl (by decide) rfl (fun ls hl => ?_)
        obtain ⟨n0, hn0, en0⟩ := hL (k) (by omega)
        have loop48 : ∀ (fu : Nat) (q : Nat) (x5 : Int64), (hq : q ≤ n0) → n0 - q < fu → ∀ (H : Heap) (locs : List Loc) (ls : Array Slot), va_P g.1 vwCl [(h0, .inr (8, [.ref pg, .int le, .ref rd, .int re, .ref sk, .ref si, .ref sy, .int sd, .ref ks, .ref ki, .int kp, .ref al, .ref dr])), (sk, .inr (5, [.int (nI z), .int (nI t), .ref s1, .ref s2, .ref s3])), (s1, ai g 6 K), (s2, ai g 6 L), (s3, ai g 96 V), (sy, .inr (6, [.ref y1, .ref y2, .ref y3, .ref lw, .int chg, .ref tr])), (y1, ai g 168 S1), (y2, ai g 6 S2), (y3, ai g 24 S3), (si, .inr (4, [.int (nI n), .ref q1, .ref q2, .ref q3])), (q1, ai g 6 A1), (q2, ai g 6 A2), (q3, az g 6 A3)] H → va_D A [(h0, .inr (8, [.ref pg, .int le, .ref rd, .int re, .ref sk, .ref si, .ref sy, .int sd, .ref ks, .ref ki, .int kp, .ref al, .ref dr])), (sk, .inr (5, [.int (nI z), .int (nI t), .ref s1, .ref s2, .ref s3])), (s1, ai g 6 K), (s2, ai g 6 L), (s3, ai g 96 V), (sy, .inr (6, [.ref y1, .ref y2, .ref y3, .ref lw, .int chg, .ref tr])), (y1, ai g 168 S1), (y2, ai g 6 S2), (y3, ai g 24 S3), (si, .inr (4, [.int (nI n), .ref q1, .ref q2, .ref q3])), (q1, ai g 6 A1), (q2, ai g 6 A2), (q3, az g 6 A3)] → va_S A s.heap H locs → lv_has ls 9 [(0, .ref h0), (1, .long hv), (3, .int (nI k)), (4, .long x5), (6, .int (nI (nod t))), (7, .int (nI q))] → W p l e ({ frames := 5, cells := 0, slots := 0, locals := 116 }) s m [.ref h0, .long hv, .int (nI k)].toArray below meth c H locs 0 0 (MQ below (va_Ql (po_X8_digestSet_g g h0 pg rd si ks ki al dr le re kp sd sk s1 s2 s3 z t K L V sy y1 y2 y3 lw tr chg S1 S2 S3 q1 q2 q3 n A1 A2 A3 hv k) (bk g A) A) [.ref h0, .long hv, .int (nI k)].toArray s 0 0 A) (F0 m 48 ls []) := by
          intro fu
          induction fu with
          | zero => intro q x5 hq hfu; exact absurd hfu (Nat.not_lt_zero _)
          | succ fu ih =>
            intro q x5 hq hfu H locs ls hP hD hS hl
            have ih48 := ih
            refine lv_iload hx hb dX8_digestSet_48 (lv_at hl 5 rfl) ?_
            refine lv_aload_n hx hb dX8_digestSet_50 rfl (lv_at hl 0 rfl) ?_
            refine va_get (D := g.1) (ci := 8) (v := .ref sk) (C := RX8) (T := TX8) (N := 13) hx hb hts q_X8_digestSet_g_f8 hown hE.1 hP 0 rfl rfl 4 (by decide) (hts (.fieldLink RX8 23 "SoundLaws" "stock" "LSoundLaws$Stock;") q_X8_digestSet_g_1) (fun _ h9 => h9) rfl dX8_digestSet_51 ?_
            refine va_get (D := g.1) (ci := 5) (v := .ref s2) (C := RX5) (T := TX5) (N := 5) hx hb hts q_X8_digestSet_g_f5 hown hE.1 hP 1 rfl rfl 3 (by decide) (hts (.fieldLink RX8 168 "SoundLaws$Stock" "lengths" "[I") q_X8_digestSet_g_4) (fun _ h9 => h9) rfl dX8_digestSet_54 ?_
            refine lv_iload_n hx hb dX8_digestSet_57 rfl (lv_at hl 2 rfl) ?_
            refine k_ald k rfl (by omega) hx hb hE hP 3 rfl (by decide) dX8_digestSet_58 ?_
            refine lv_topi (fun x_4 ex_4 => ?_)
            obtain rfl : x_4 = nI n0 := by rw [ex_4]; exact en0
            refine lv_icmp_ge (tgt := 100) hx hb dX8_digestSet_59 (by decide) (fun c59_5 => ?_) (fun c59_5 => ?_)
            · skip
              refine lv_lload hx hb dX8_digestSet_100 (lv_at hl 3 rfl) ?_
              refine W.widen (k := 0) (n := 0) (Nat.le_of_ble_eq_true rfl) (Nat.le_of_ble_eq_true rfl) ?_
              exact k_rl hx hb hr hlocks hS hP hD rfl dX8_digestSet_102
            · skip
              have hq9 := lt_of_nle (k := n0) (n := q) (by omega) (by omega) c59_5
              refine lv_iconst (v := 0) hx hb dX8_digestSet_62 (by decide) ?_
              refine lv_istore (lv' := [(8, .int 0), (0, .ref h0), (1, .long hv), (3, .int (nI k)), (4, .long x5), (6, .int (nI (nod t))), (7, .int (nI q))]) hx hb dX8_digestSet_63 hl (by decide) rfl (fun ls hl => ?_)
              have loop65 : ∀ (fu : Nat) (nd : Nat) (x6 : Int64), (hnd : nd ≤ nod t) → nod t - nd < fu → ∀ (H : Heap) (locs : List Loc) (ls : Array Slot), va_P g.1 vwCl [(h0, .inr (8, [.ref pg, .int le, .ref rd, .int re, .ref sk, .ref si, .ref sy, .int sd, .ref ks, .ref ki, .int kp, .ref al, .ref dr])), (sk, .inr (5, [.int (nI z), .int (nI t), .ref s1, .ref s2, .ref s3])), (s1, ai g 6 K), (s2, ai g 6 L), (s3, ai g 96 V), (sy, .inr (6, [.ref y1, .ref y2, .ref y3, .ref lw, .int chg, .ref tr])), (y1, ai g 168 S1), (y2, ai g 6 S2), (y3, ai g 24 S3), (si, .inr (4, [.int (nI n), .ref q1, .ref q2, .ref q3])), (q1, ai g 6 A1), (q2, ai g 6 A2), (q3, az g 6 A3)] H → va_D A [(h0, .inr (8, [.ref pg, .int le, .ref rd, .int re, .ref sk, .ref si, .ref sy, .int sd, .ref ks, .ref ki, .int kp, .ref al, .ref dr])), (sk, .inr (5, [.int (nI z), .int (nI t), .ref s1, .ref s2, .ref s3])), (s1, ai g 6 K), (s2, ai g 6 L), (s3, ai g 96 V), (sy, .inr (6, [.ref y1, .ref y2, .ref y3, .ref lw, .int chg, .ref tr])), (y1, ai g 168 S1), (y2, ai g 6 S2), (y3, ai g 24 S3), (si, .inr (4, [.int (nI n), .ref q1, .ref q2, .ref q3])), (q1, ai g 6 A1), (q2, ai g 6 A2), (q3, az g 6 A3)] → va_S A s.heap H locs → lv_has ls 9 [(0, .ref h0), (1, .long hv), (3, .int (nI k)), (4, .long x6), (6, .int (nI (nod t))), (7, .int (nI q)), (8, .int (nI nd))] → W p l e ({ frames := 5, cells := 0, slots := 0, locals := 116 }) s m [.ref h0, .long hv, .int (nI k)].toArray below meth c H locs 0 0 (MQ below (va_Ql (po_X8_digestSet_g g h0 pg rd si ks ki al dr le re kp sd sk s1 s2 s3 z t K L V sy y1 y2 y3 lw tr chg S1 S2 S3 q1 q2 q3 n A1 A2 A3 hv k) (bk g A) A) [.ref h0, .long hv, .int (nI k)].toArray s 0 0 A) (F0 m 65 ls []) := by
                intro fu
                induction fu with
                | zero => intro nd x6 hnd hfu; exact absurd hfu (Nat.not_lt_zero _)
                | succ fu ih =>
                  intro nd x6 hnd hfu H locs ls hP hD hS hl
                  have ih65 := ih
                  refine lv_iload hx hb dX8_digestSet_65 (lv_at hl 6 rfl) ?_
                  refine lv_iload hx hb dX8_digestSet_67 (lv_at hl 4 rfl) ?_
                  refine lv_icmp_ge (tgt := 94) hx hb dX8_digestSet_69 (by decide) (fun c69_6 => ?_) (fun c69_6 => ?_)
                  · skip
                    refine lv_iinc (v := (nI (q + 1))) (lv' := [(7, .int (nI (q + 1))), (0, .ref h0), (1, .long hv), (3, .int (nI k)), (4, .long x6), (6, .int (nI (nod t))), (8, .int (nI nd))]) hx hb dX8_digestSet_94 hl (k := 5) rfl (nI_1 _) (by decide) rfl (fun ls hl => ?_)
                    refine lv_goto (tgt := 48) hx hb dX8_digestSet_97 (by decide) ?_
                    exact ih48 (q + 1) _ (by omega) (by omega) _ _ _ hP hD hS (lv_sub hl [1, 2, 3, 4, 5, 0] rfl)
                  · skip
                    have hd9 := lt_of_nle (k := nod t) (n := nd) (by omega) (by omega) c69_6
                    refine lv_lload hx hb dX8_digestSet_72 (lv_at hl 3 rfl) ?_
                    refine lv_aload_n hx hb dX8_digestSet_74 rfl (lv_at hl 0 rfl) ?_
                    refine lv_iload_n hx hb dX8_digestSet_75 rfl (lv_at hl 2 rfl) ?_
                    refine lv_iload hx hb dX8_digestSet_76 (lv_at hl 6 rfl) ?_
                    refine lv_iload hx hb dX8_digestSet_78 (lv_at hl 5 rfl) ?_
                    refine k_ci (wr := [(y2, ai g 6 S2), (y3, ai g 24 S3), (si, .inr (4, [.int (nI n), .ref q1, .ref q2, .ref q3])), (q1, ai g 6 A1), (q2, ai g 6 A2), (q3, az g 6 A3)]) hP hD hS hA [0, 1, 2, 3, 4, 5, 6] [7, 8, 9, 10, 11, 12] rfl rfl (by decide) (by decide) (va_runV (As := [.int (nI k), .int (nI nd), .int (nI q)]) (rest := [.long x6]) ⟨hx, hb, hml, hown, hts⟩ (c_X8_tellOfNode_g l g h0 pg rd si ks ki al dr le re kp sd sk s1 s2 s3 z t K L V sy y1 y2 y3 lw tr chg S1 k nd q (by first | assumption | omega) (by first | assumption | omega) (by first | assumption | omega) (by first | assumption | omega) (by first | assumption | omega) H.size) (cwV 3 hts gX8_digestSet_X8_tellOfNode rfl rfl rfl (by decide +kernel) ⟨Nat.le_of_ble_eq_true rfl, Nat.le_of_ble_eq_true rfl⟩) (k_preV hE hZ hP hD hS hA [0, 1, 2, 3, 4, 5, 6] rfl (by decide) (va_recv hE.1 hP (ci := 8) (q0 := 0) rfl rfl)) rfl rfl hl.1 rfl (lv_room (Nat.le_of_ble_eq_true rfl)) dX8_digestSet_80 ⟨Nat.le_of_ble_eq_true rfl, Nat.le_of_ble_eq_true rfl⟩) (fun r_7 w1 H locs hw hP hD hS => ?_)
                    obtain rfl := hw
                    have hP : va_P g.1 vwCl [(y2, ai g 6 S2), (y3, ai g 24 S3), (si, .inr (4, [.int (nI n), .ref q1, .ref q2, .ref q3])), (q1, ai g 6 A1), (q2, ai g 6 A2), (q3, az g 6 A3), (h0, .inr (8, [.ref pg, .int le, .ref rd, .int re, .ref sk, .ref si, .ref sy, .int sd, .ref ks, .ref ki, .int kp, .ref al, .ref dr])), (sk, .inr (5, [.int (nI z), .int (nI t), .ref s1, .ref s2, .ref s3])), (s1, ai g 6 K), (s2, ai g 6 L), (s3, ai g 96 V), (sy, .inr (6, [.ref y1, .ref y2, .ref y3, .ref lw, .int chg, .ref tr])), (y1, ai g 168 S1)] H := hP
                    have hD : va_D A [(y2, ai g 6 S2), (y3, ai g 24 S3), (si, .inr (4, [.int (nI n), .ref q1, .ref q2, .ref q3])), (q1, ai g 6 A1), (q2, ai g 6 A2), (q3, az g 6 A3), (h0, .inr (8, [.ref pg, .int le, .ref rd, .int re, .ref sk, .ref si, .ref sy, .int sd, .ref ks, .ref ki, .int kp, .ref al, .ref dr])), (sk, .inr (5, [.int (nI z), .int (nI t), .ref s1, .ref s2, .ref s3])), (s1, ai g 6 K), (s2, ai g 6 L), (s3, ai g 96 V), (sy, .inr (6, [.ref y1, .ref y2, .ref y3, .ref lw, .int chg, .ref tr])), (y1, ai g 168 S1)] := hD
                    refine k_cl (wr := [(y2, ai g 6 S2), (y3, ai g 24 S3), (si, .inr (4, [.int (nI n), .ref q1, .ref q2, .ref q3])), (q1, ai g 6 A1), (q2, ai g 6 A2), (q3, az g 6 A3), (h0, .inr (8, [.ref pg, .int le, .ref rd, .int re, .ref sk, .ref si, .ref sy, .int sd, .ref ks, .ref ki, .int kp, .ref al, .ref dr])), (sk, .inr (5, [.int (nI z), .int (nI t), .ref s1, .ref s2, .ref s3])), (s1, ai g 6 K), (s2, ai g 6 L), (s3, ai g 96 V), (sy, .inr (6, [.ref y1, .ref y2, .ref y3, .ref lw, .int chg, .ref tr])), (y1, ai g 168 S1)]) hP hD hS hA [] [0, 1, 2, 3, 4, 5, 6, 7, 8, 9, 10, 11, 12] rfl rfl (by decide) (by decide) (va_runS (As := [.long x6, .int r_7]) (rest := []) ⟨hx, hb, hml, hown, hts⟩ (c_X8_mixed l g x6 r_7  H.size) (va_cwS 2 hts gX8_digestSet_X8_mixed rfl rfl rfl (by decide +kernel) ⟨Nat.le_of_ble_eq_true rfl, Nat.le_of_ble_eq_true rfl⟩) (k_preS hE hZ hP hD hS hA [] rfl (by decide)) rfl rfl hl.1 rfl (lv_room (Nat.le_of_ble_eq_true rfl)) dX8_digestSet_83 ⟨Nat.le_of_ble_eq_true rfl, Nat.le_of_ble_eq_true rfl⟩) (fun r_8 w1 H locs hw hP hD hS => ?_)
                    obtain ⟨rfl, rfl⟩ := hw
                    have hP : va_P g.1 vwCl [(y2, ai g 6 S2), (y3, ai g 24 S3), (si, .inr (4, [.int (nI n), .ref q1, .ref q2, .ref q3])), (q1, ai g 6 A1), (q2, ai g 6 A2), (q3, az g 6 A3), (h0, .inr (8, [.ref pg, .int le, .ref rd, .int re, .ref sk, .ref si, .ref sy, .int sd, .ref ks, .ref ki, .int kp, .ref al, .ref dr])), (sk, .inr (5, [.int (nI z), .int (nI t), .ref s1, .ref s2, .ref s3])), (s1, ai g 6 K), (s2, ai g 6 L), (s3, ai g 96 V), (sy, .inr (6, [.ref y1, .ref y2, .ref y3, .ref lw, .int chg, .ref tr])), (y1, ai g 168 S1)] H := hP
                    have hD : va_D A [(y2, ai g 6 S2), (y3, ai g 24 S3), (si, .inr (4, [.int (nI n), .ref q1, .ref q2, .ref q3])), (q1, ai g 6 A1), (q2, ai g 6 A2), (q3, az g 6 A3), (h0, .inr (8, [.ref pg, .int le, .ref rd, .int re, .ref sk, .ref si, .ref sy, .int sd, .ref ks, .ref ki, .int kp, .ref al, .ref dr])), (sk, .inr (5, [.int (nI z), .int (nI t), .ref s1, .ref s2, .ref s3])), (s1, ai g 6 K), (s2, ai g 6 L), (s3, ai g 96 V), (sy, .inr (6, [.ref y1, .ref y2, .ref y3, .ref lw, .int chg, .ref tr])), (y1, ai g 168 S1)] := hD
                    refine lv_topl (fun x4c ex4c => ?_)
                    refine lv_lstore (lv' := [(4, .long x4c), (0, .ref h0), (1, .long hv), (3, .int (nI k)), (6, .int (nI (nod t))), (7, .int (nI q)), (8, .int (nI nd))]) hx hb dX8_digestSet_86 hl (by decide) rfl (fun ls hl => ?_)
                    refine lv_iinc (v := (nI (nd + 1))) (lv' := [(8, .int (nI (nd + 1))), (4, .long x4c), (0, .ref h0), (1, .long hv), (3, .int (nI k)), (6, .int (nI (nod t))), (7, .int (nI q))]) hx hb dX8_digestSet_88 hl (k := 6) rfl (nI_1 _) (by decide) rfl (fun ls hl => ?_)
                    refine lv_goto (tgt := 65) hx hb dX8_digestSet_91 (by decide) ?_
                    exact ih65 (nd + 1) _ (by omega) (by omega) _ _ _ (hP.sub [6, 7, 8, 9, 10, 11, 12, 0, 1, 2, 3, 4, 5] rfl) (hD.sub [6, 7, 8, 9, 10, 11, 12, 0, 1, 2, 3, 4, 5] (by decide) rfl) hS (lv_sub hl [2, 3, 4, 1, 5, 6, 0] rfl)
              exact loop65 _ 0 x5 (Nat.zero_le _) (Nat.lt_succ_self _) _ _ _ hP hD hS (lv_sub hl [1, 2, 3, 4, 5, 6, 0] rfl)
        exact loop48 _ 0 x4 (Nat.zero_le n0) (Nat.lt_succ_self _) _ _ _ hP hD hS (lv_sub hl [2, 3, 4, 5, 1, 0] rfl)
      · skip
        have hw9 := lt_of_nle (k := 7) (n := w) (by decide) (by omega) c10_1
        refine lv_lload hx hb dX8_digestSet_13 (lv_at hl 3 rfl) ?_
        refine lv_aload_n hx hb dX8_digestSet_15 rfl (lv_at hl 0 rfl) ?_
        refine lv_iload_n hx hb dX8_digestSet_16 rfl (lv_at hl 2 rfl) ?_
        refine lv_iload hx hb dX8_digestSet_17 (lv_at hl 4 rfl) ?_
        refine k_ci (wr := []) hP hD hS hA [0, 1, 2, 3, 4, 5, 6, 7, 8, 9, 10, 11, 12] [] rfl rfl (by decide) (by decide) (va_runV (As := [.int (nI k), .int (nI w)]) (rest := [.long x4]) ⟨hx, hb, hml, hown, hts⟩ (c_X8_tellOfSet_g l g h0 pg rd si ks ki al dr le re kp sd sk s1 s2 s3 z t K L V sy y1 y2 y3 lw tr chg S1 S2 S3 q1 q2 q3 n A1 A2 A3 k (nI w) (by first | assumption | omega) (by first | assumption | omega) (by first | assumption | omega) H.size) (cwV 2 hts gX8_digestSet_X8_tellOfSet rfl rfl rfl (by decide +kernel) ⟨Nat.le_of_ble_eq_true rfl, Nat.le_of_ble_eq_true rfl⟩) (k_preV hE hZ hP hD hS hA [0, 1, 2, 3, 4, 5, 6, 7, 8, 9, 10, 11, 12] rfl (by decide) (va_recv hE.1 hP (ci := 8) (q0 := 0) rfl rfl)) rfl rfl hl.1 rfl (lv_room (Nat.le_of_ble_eq_true rfl)) dX8_digestSet_19 ⟨Nat.le_of_ble_eq_true rfl, Nat.le_of_ble_eq_true rfl⟩) (fun r_10 w1 H locs hw hP hD hS => ?_)
        obtain rfl := hw
        have hP : va_P g.1 vwCl [(h0, .inr (8, [.ref pg, .int le, .ref rd, .int re, .ref sk, .ref si, .ref sy, .int sd, .ref ks, .ref ki, .int kp, .ref al, .ref dr])), (sk, .inr (5, [.int (nI z), .int (nI t), .ref s1, .ref s2, .ref s3])), (s1, ai g 6 K), (s2, ai g 6 L), (s3, ai g 96 V), (sy, .inr (6, [.ref y1, .ref y2, .ref y3, .ref lw, .int chg, .ref tr])), (y1, ai g 168 S1), (y2, ai g 6 S2), (y3, ai g 24 S3), (si, .inr (4, [.int (nI n), .ref q1, .ref q2, .ref q3])), (q1, ai g 6 A1), (q2, ai g 6 A2), (q3, az g 6 A3)] H := hP
        have hD : va_D A [(h0, .inr (8, [.ref pg, .int le, .ref rd, .int re, .ref sk, .ref si, .ref sy, .int sd, .ref ks, .ref ki, .int kp, .ref al, .ref dr])), (sk, .inr (5, [.int (nI z), .int (nI t), .ref s1, .ref s2, .ref s3])), (s1, ai g 6 K), (s2, ai g 6 L), (s3, ai g 96 V), (sy, .inr (6, [.ref y1, .ref y2, .ref y3, .ref lw, .int chg, .ref tr])), (y1, ai g 168 S1), (y2, ai g 6 S2), (y3, ai g 24 S3), (si, .inr (4, [.int (nI n), .ref q1, .ref q2, .ref q3])), (q1, ai g 6 A1), (q2, ai g 6 A2), (q3, az g 6 A3)] := hD
        refine k_cl (wr := [(h0, .inr (8, [.ref pg, .int le, .ref rd, .int re, .ref sk, .ref si, .ref sy, .int sd, .ref ks, .ref ki, .int kp, .ref al, .ref dr])), (sk, .inr (5, [.int (nI z), .int (nI t), .ref s1, .ref s2, .ref s3])), (s1, ai g 6 K), (s2, ai g 6 L), (s3, ai g 96 V), (sy, .inr (6, [.ref y1, .ref y2, .ref y3, .ref lw, .int chg, .ref tr])), (y1, ai g 168 S1), (y2, ai g 6 S2), (y3, ai g 24 S3), (si, .inr (4, [.int (nI n), .ref q1, .ref q2, .ref q3])), (q1, ai g 6 A1), (q2, ai g 6 A2), (q3, az g 6 A3)]) hP hD hS hA [] [0, 1, 2, 3, 4, 5, 6, 7, 8, 9, 10, 11, 12] rfl rfl (by decide) (by decide) (va_runS (As := [.long x4, .int r_10]) (rest := []) ⟨hx, hb, hml, hown, hts⟩ (c_X8_mixed l g x4 r_10  H.size) (va_cwS 2 hts gX8_digestSet_X8_mixed rfl rfl rfl (by decide +kernel) ⟨Nat.le_of_ble_eq_true rfl, Nat.le_of_ble_eq_true rfl⟩) (k_preS hE hZ hP hD hS hA [] rfl (by decide)) rfl rfl hl.1 rfl (lv_room (Nat.le_of_ble_eq_true rfl)) dX8_digestSet_22 ⟨Nat.le_of_ble_eq_true rfl, Nat.le_of_ble_eq_true rfl⟩) (fun r_11 w1 H locs hw hP hD hS => ?_)
        obtain ⟨rfl, rfl⟩ := hw
        have hP : va_P g.1 vwCl [(h0, .inr (8, [.ref pg, .int le, .ref rd, .int re, .ref sk, .ref si, .ref sy, .int sd, .ref ks, .ref ki, .int kp, .ref al, .ref dr])), (sk, .inr (5, [.int (nI z), .int (nI t), .ref s1, .ref s2, .ref s3])), (s1, ai g 6 K), (s2, ai g 6 L), (s3, ai g 96 V), (sy, .inr (6, [.ref y1, .ref y2, .ref y3, .ref lw, .int chg, .ref tr])), (y1, ai g 168 S1), (y2, ai g 6 S2), (y3, ai g 24 S3), (si, .inr (4, [.int (nI n), .ref q1, .ref q2, .ref q3])), (q1, ai g 6 A1), (q2, ai g 6 A2), (q3, az g 6 A3)] H := hP
        have hD : va_D A [(h0, .inr (8, [.ref pg, .int le, .ref rd, .int re, .ref sk, .ref si, .ref sy, .int sd, .ref ks, .ref ki, .int kp, .ref al, .ref dr])), (sk, .inr (5, [.int (nI z), .int (nI t), .ref s1, .ref s2, .ref s3])), (s1, ai g 6 K), (s2, ai g 6 L), (s3, ai g 96 V), (sy, .inr (6, [.ref y1, .ref y2, .ref y3, .ref lw, .int chg, .ref tr])), (y1, ai g 168 S1), (y2, ai g 6 S2), (y3, ai g 24 S3), (si, .inr (4, [.int (nI n), .ref q1, .ref q2, .ref q3])), (q1, ai g 6 A1), (q2, ai g 6 A2), (q3, az g 6 A3)] := hD
        refine lv_topl (fun x4b ex4b => ?_)
        refine lv_lstore (lv' := [(4, .long x4b), (0, .ref h0), (1, .long hv), (3, .int (nI k)), (6, .int (nI w))]) hx hb dX8_digestSet_25 hl (by decide) rfl (fun ls hl => ?_)
        refine lv_iinc (v := (nI (w + 1))) (lv' := [(6, .int (nI (w + 1))), (4, .long x4b), (0, .ref h0), (1, .long hv), (3, .int (nI k))]) hx hb dX8_digestSet_27 hl (k := 4) rfl (nI_1 _) (by decide) rfl (fun ls hl => ?_)
        refine lv_goto (tgt := 6) hx hb dX8_digestSet_30 (by decide) ?_
        exact ih6 (w + 1) _ (by omega) (by omega) _ _ _ hP hD hS (lv_sub hl [2, 3, 4, 1, 0] rfl)
  exact loop6 _ 0 hv (Nat.zero_le 7) (Nat.lt_succ_self _) _ _ _ hP hD hS (lv_sub hl [2, 3, 4, 1, 0] rfl)
def po_X8_digestLaws_g (g : GG) (h0 : Nat) (pg : Nat) (rd : Nat) (si : Nat) (ks : Nat) (ki : Nat) (al : Nat) (dr : Nat) (le : Int32) (re : Int32) (kp : Int32) (sd : Int32) (sk : Nat) (sy : Nat) (y1 : Nat) (y2 : Nat) (y3 : Nat) (lw : Nat) (tr : Nat) (chg : Int32) (l1 : Nat) (l2 : Nat) (l3 : Nat) (l4 : Nat) (kn : Int32) (xo : Int32) (F1 : Nat → Int32) (F2 : Nat → Int32) (F3 : Nat → Int32) (F4 : Nat → Int32) (hv : Int64) (k : Nat) : Int64 → va_W → Prop := fun (r : Int64) w => w = [(h0, .inr (8, [.ref pg, .int le, .ref rd, .int re, .ref sk, .ref si, .ref sy, .int sd, .ref ks, .ref ki, .int kp, .ref al, .ref dr])), (sy, .inr (6, [.ref y1, .ref y2, .ref y3, .ref lw, .int chg, .ref tr])), (lw, .inr (2, [.ref l1, .ref l2, .ref l3, .int kn, .int xo, .ref l4])), (l1, ai g 72 F1), (l2, ai g 72 F2), (l3, ai g 72 F3), (l4, ai g 648 F4)]
theorem q_X8_digestLaws_g_f8 : ∀ w ∈ u_ws RX8 TX8 13, w ∈ wsX8_digestLaws := by decide +kernel
theorem q_X8_digestLaws_g_1 : (Cond.fieldLink RX8 37 "SoundLaws" "study" "LSoundLaws$Study;") ∈ wsX8_digestLaws := by decide +kernel
theorem q_X8_digestLaws_g_f6 : ∀ w ∈ u_ws RX6 TX6 6, w ∈ wsX8_digestLaws := by decide +kernel
theorem q_X8_digestLaws_g_3 : (Cond.fieldLink RX8 133 "SoundLaws$Study" "laws" "LSoundLaws$Laws;") ∈ wsX8_digestLaws := by decide +kernel
set_option maxHeartbeats 1500000 in
set_option maxRecDepth 100000 in
theorem c_X8_digestLaws_g (l : Launch) (g : GG) (h0 : Nat) (pg : Nat) (rd : Nat) (si : Nat) (ks : Nat) (ki : Nat) (al : Nat) (dr : Nat) (le : Int32) (re : Int32) (kp : Int32) (sd : Int32) (sk : Nat) (sy : Nat) (y1 : Nat) (y2 : Nat) (y3 : Nat) (lw : Nat) (tr : Nat) (chg : Int32) (l1 : Nat) (l2 : Nat) (l3 : Nat) (l4 : Nat) (kn : Int32) (xo : Int32) (F1 : Nat → Int32) (F2 : Nat → Int32) (F3 : Nat → Int32) (F4 : Nat → Int32) (hv : Int64) (k : Nat) (hk : k < 4) (sz : Nat) : MetL l yX8_digestLaws wsX8_digestLaws ({ frames := 1, cells := 0, slots := 0, locals := 22 }) g [.ref h0, .long hv, .int (nI k)] [(h0, .inr (8, [.ref pg, .int le, .ref rd, .int re, .ref sk, .ref si, .ref sy, .int sd, .ref ks, .ref ki, .int kp, .ref al, .ref dr])), (sy, .inr (6, [.ref y1, .ref y2, .ref y3, .ref lw, .int chg, .ref tr])), (lw, .inr (2, [.ref l1, .ref l2, .ref l3, .int kn, .int xo, .ref l4])), (l1, ai g 72 F1), (l2, ai g 72 F2), (l3, ai g 72 F3), (l4, ai g 648 F4)] sz (po_X8_digestLaws_g g h0 pg rd si ks ki al dr le re kp sd sk sy y1 y2 y3 lw tr chg l1 l2 l3 l4 kn xo F1 F2 F3 F4 hv k) 0 0 := by
  refine k_of (l := l) (y := yX8_digestLaws) (ws := wsX8_digestLaws) (rm := { frames := 1, cells := 0, slots := 0, locals := 22 }) (mc := 0) (ms := 0) (av := [.ref h0, .long hv, .int (nI k)]) (g := g) (wc := [(h0, .inr (8, [.ref pg, .int le, .ref rd, .int re, .ref sk, .ref si, .ref sy, .int sd, .ref ks, .ref ki, .int kp, .ref al, .ref dr])), (sy, .inr (6, [.ref y1, .ref y2, .ref y3, .ref lw, .int chg, .ref tr])), (lw, .inr (2, [.ref l1, .ref l2, .ref l3, .int kn, .int xo, .ref l4])), (l1, ai g 72 F1), (l2, ai g 72 F2), (l3, ai g 72 F3), (l4, ai g 648 F4)]) (Qc := fun A => va_Ql (po_X8_digestLaws_g g h0 pg rd si ks ki al dr le re kp sd sk sy y1 y2 y3 lw tr chg l1 l2 l3 l4 kn xo F1 F2 F3 F4 hv k) (bk g A) A) (cc := cX8_digestLaws) (maxL := 10) (ret := (some .long)) (by decide) rfl (Nat.le_of_ble_eq_true rfl) ?_ sz
  intro p e s m below meth c hx hb hr hts hown hlocks hnm hml A hA hE hZ hP hD hS ls hl
  have hown : s.vm.findClass RX8 = some m.cls := hown
  have hl : lv_has ls 10 [(0, .ref h0), (1, .long hv), (3, .int (nI k))] := hl
  refine lv_lload_n hx hb dX8_digestLaws_0 rfl (lv_at hl 1 rfl) ?_
  refine lv_lstore (lv' := [(4, .long hv), (0, .ref h0), (1, .long hv), (3, .int (nI k))]) hx hb dX8_digestLaws_1 hl (by decide) rfl (fun ls hl => ?_)
  refine lv_iconst (v := 0) hx hb dX8_digestLaws_3 (by decide) ?_
  refine lv_istore (lv' := [(6, .int 0), (4, .long hv), (0, .ref h0), (1, .long hv), (3, .int (nI k))]) hx hb dX8_digestLaws_4 hl (by decide) rfl (fun ls hl => ?_)
  have loop6 : ∀ (fu : Nat) (w : Nat) (x4 : Int64), (hw : w ≤ 9) → 9 - w < fu → ∀ (H : Heap) (locs : List Loc) (ls : Array Slot), va_P g.1 vwCl [(h0, .inr (8, [.ref pg, .int le, .ref rd, .int re, .ref sk, .ref si, .ref sy, .int sd, .ref ks, .ref ki, .int kp, .ref al, .ref dr])), (sy, .inr (6, [.ref y1, .ref y2, .ref y3, .ref lw, .int chg, .ref tr])), (lw, .inr (2, [.ref l1, .ref l2, .ref l3, .int kn, .int xo, .ref l4])), (l1, ai g 72 F1), (l2, ai g 72 F2), (l3, ai g 72 F3), (l4, ai g 648 F4)] H → va_D A [(h0, .inr (8, [.ref pg, .int le, .ref rd, .int re, .ref sk, .ref si, .ref sy, .int sd, .ref ks, .ref ki, .int kp, .ref al, .ref dr])), (sy, .inr (6, [.ref y1, .ref y2, .ref y3, .ref lw, .int chg, .ref tr])), (lw, .inr (2, [.ref l1, .ref l2, .ref l3, .int kn, .int xo, .ref l4])), (l1, ai g 72 F1), (l2, ai g 72 F2), (l3, ai g 72 F3), (l4, ai g 648 F4)] → va_S A s.heap H locs → lv_has ls 10 [(0, .ref h0), (1, .long hv), (3, .int (nI k)), (4, .long x4), (6, .int (nI w))] → W p l e ({ frames := 1, cells := 0, slots := 0, locals := 22 }) s m [.ref h0, .long hv, .int (nI k)].toArray below meth c H locs 0 0 (MQ below (va_Ql (po_X8_digestLaws_g g h0 pg rd si ks ki al dr le re kp sd sk sy y1 y2 y3 lw tr chg l1 l2 l3 l4 kn xo F1 F2 F3 F4 hv k) (bk g A) A) [.ref h0, .long hv, .int (nI k)].toArray s 0 0 A) (F0 m 6 ls []) := by
    intro fu
    induction fu with
    | zero => intro w x4 hw hfu; exact absurd hfu (Nat.not_lt_zero _)
    | succ fu ih =>
      intro w x4 hw hfu H locs ls hP hD hS hl
      have ih6 := ih
      refine lv_iload hx hb dX8_digestLaws_6 (lv_at hl 4 rfl) ?_
      refine lv_bipush (v := 9) hx hb dX8_digestLaws_8 (by decide) ?_
      refine lv_icmp_ge (tgt := 80) hx hb dX8_digestLaws_10 (by decide) (fun c10_1 => ?_) (fun c10_1 => ?_)
      · skip
        refine lv_lload hx hb dX8_digestLaws_80 (lv_at hl 3 rfl) ?_
        refine W.widen (k := 0) (n := 0) (Nat.le_of_ble_eq_true rfl) (Nat.le_of_ble_eq_true rfl) ?_
        exact k_rl hx hb hr hlocks hS hP hD rfl dX8_digestLaws_82
      · skip
        have hw9 := lt_of_nle (k := 9) (n := w) (by decide) (by omega) c10_1
        refine lv_iconst (v := 0) hx hb dX8_digestLaws_13 (by decide) ?_
        refine lv_istore (lv' := [(7, .int 0), (0, .ref h0), (1, .long hv), (3, .int (nI k)), (4, .long x4), (6, .int (nI w))]) hx hb dX8_digestLaws_14 hl (by decide) rfl (fun ls hl => ?_)
        have loop16 : ∀ (fu : Nat) (a : Nat) (x5 : Int64), (ha : a ≤ 2) → 2 - a < fu → ∀ (H : Heap) (locs : List Loc) (ls : Array Slot), va_P g.1 vwCl [(h0, .inr (8, [.ref pg, .int le, .ref rd, .int re, .ref sk, .ref si, .ref sy, .int sd, .ref ks, .ref ki, .int kp, .ref al, .ref dr])), (sy, .inr (6, [.ref y1, .ref y2, .ref y3, .ref lw, .int chg, .ref tr])), (lw, .inr (2, [.ref l1, .ref l2, .ref l3, .int kn, .int xo, .ref l4])), (l1, ai g 72 F1), (l2, ai g 72 F2), (l3, ai g 72 F3), (l4, ai g 648 F4)] H → va_D A [(h0, .inr (8, [.ref pg, .int le, .ref rd, .int re, .ref sk, .ref si, .ref sy, .int sd, .ref ks, .ref ki, .int kp, .ref al, .ref dr])), (sy, .inr (6, [.ref y1, .ref y2, .ref y3, .ref lw, .int chg, .ref tr])), (lw, .inr (2, [.ref l1, .ref l2, .ref l3, .int kn, .int xo, .ref l4])), (l1, ai g 72 F1), (l2, ai g 72 F2), (l3, ai g 72 F3), (l4, ai g 648 F4)] → va_S A s.heap H locs → lv_has ls 10 [(0, .ref h0), (1, .long hv), (3, .int (nI k)), (4, .long x5), (6, .int (nI w)), (7, .int (nI a))] → W p l e ({ frames := 1, cells := 0, slots := 0, locals := 22 }) s m [.ref h0, .long hv, .int (nI k)].toArray below meth c H locs 0 0 (MQ below (va_Ql (po_X8_digestLaws_g g h0 pg rd si ks ki al dr le re kp sd sk sy y1 y2 y3 lw tr chg l1 l2 l3 l4 kn xo F1 F2 F3 F4 hv k) (bk g A) A) [.ref h0, .long hv, .int (nI k)].toArray s 0 0 A) (F0 m 16 ls []) := by
          intro fu
          induction fu with
          | zero => intro a x5 ha hfu; exact absurd hfu (Nat.not_lt_zero _)
          | succ fu ih =>
            intro a x5 ha hfu H locs ls hP hD hS hl
            have ih16 := ih
            refine lv_iload hx hb dX8_digestLaws_16 (lv_at hl 5 rfl) ?_
            refine lv_iconst (v := 1) hx hb dX8_digestLaws_18 (by decide) ?_
            refine lv_icmp_gt (tgt := 74) hx hb dX8_digestLaws_19 (by decide) (fun c19_2 => ?_) (fun c19_2 => ?_)
            · skip
              refine lv_iinc (v := (nI (w + 1))) (lv' := [(6, .int (nI (w + 1))), (0, .ref h0), (1, .long hv), (3, .int (nI k)), (4, .long x5), (7, .int (nI a))]) hx hb dX8_digestLaws_74 hl (k := 4) rfl (nI_1 _) (by decide) rfl (fun ls hl => ?_)
              refine lv_goto (tgt := 6) hx hb dX8_digestLaws_77 (by decide) ?_
              exact ih6 (w + 1) _ (by omega) (by omega) _ _ _ hP hD hS (lv_sub hl [1, 2, 3, 4, 0] rfl)
            · skip
              have ha9 : a < 2 := Nat.not_le.mp (fun q => c19_2 (nI_lt (a := 1) q (by omega)))
              refine lv_iload_n hx hb dX8_digestLaws_22 rfl (lv_at hl 2 rfl) ?_
              refine lv_iload hx hb dX8_digestLaws_23 (lv_at hl 4 rfl) ?_
              refine lv_iload hx hb dX8_digestLaws_25 (lv_at hl 5 rfl) ?_
              refine k_ci (wr := [(h0, .inr (8, [.ref pg, .int le, .ref rd, .int re, .ref sk, .ref si, .ref sy, .int sd, .ref ks, .ref ki, .int kp, .ref al, .ref dr])), (sy, .inr (6, [.ref y1, .ref y2, .ref y3, .ref lw, .int chg, .ref tr])), (lw, .inr (2, [.ref l1, .ref l2, .ref l3, .int kn, .int xo, .ref l4])), (l1, ai g 72 F1), (l2, ai g 72 F2), (l3, ai g 72 F3), (l4, ai g 648 F4)]) hP hD hS hA [] [0, 1, 2, 3, 4, 5, 6] rfl rfl (by decide) (by decide) (va_runS (As := [.int (nI k), .int (nI w), .int (nI a)]) (rest := []) ⟨hx, hb, hml, hown, hts⟩ (c_X8_lawAt_g l g k w a  H.size) (va_cwS 3 hts gX8_digestLaws_X8_lawAt rfl rfl rfl (by decide +kernel) ⟨Nat.le_of_ble_eq_true rfl, Nat.le_of_ble_eq_true rfl⟩) (k_preS hE hZ hP hD hS hA [] rfl (by decide)) rfl rfl hl.1 rfl (lv_room (Nat.le_of_ble_eq_true rfl)) dX8_digestLaws_27 ⟨Nat.le_of_ble_eq_true rfl, Nat.le_of_ble_eq_true rfl⟩) (fun r_3 w1 H locs hw hP hD hS => ?_)
              obtain ⟨rfl, rfl⟩ := hw
              have hP : va_P g.1 vwCl [(h0, .inr (8, [.ref pg, .int le, .ref rd, .int re, .ref sk, .ref si, .ref sy, .int sd, .ref ks, .ref ki, .int kp, .ref al, .ref dr])), (sy, .inr (6, [.ref y1, .ref y2, .ref y3, .ref lw, .int chg, .ref tr])), (lw, .inr (2, [.ref l1, .ref l2, .ref l3, .int kn, .int xo, .ref l4])), (l1, ai g 72 F1), (l2, ai g 72 F2), (l3, ai g 72 F3), (l4, ai g 648 F4)] H := hP
              have hD : va_D A [(h0, .inr (8, [.ref pg, .int le, .ref rd, .int re, .ref sk, .ref si, .ref sy, .int sd, .ref ks, .ref ki, .int kp, .ref al, .ref dr])), (sy, .inr (6, [.ref y1, .ref y2, .ref y3, .ref lw, .int chg, .ref tr])), (lw, .inr (2, [.ref l1, .ref l2, .ref l3, .int kn, .int xo, .ref l4])), (l1, ai g 72 F1), (l2, ai g 72 F2), (l3, ai g 72 F3), (l4, ai g 648 F4)] := hD
              refine lv_istore (lv' := [(8, .int (nI (18 * k + 2 * w + a))), (0, .ref h0), (1, .long hv), (3, .int (nI k)), (4, .long x5), (6, .int (nI w)), (7, .int (nI a))]) hx hb dX8_digestLaws_30 hl (by decide) rfl (fun ls hl => ?_)
              refine lv_iconst (v := 0) hx hb dX8_digestLaws_32 (by decide) ?_
              refine lv_istore (lv' := [(9, .int 0), (8, .int (nI (18 * k + 2 * w + a))), (0, .ref h0), (1, .long hv), (3, .int (nI k)), (4, .long x5), (6, .int (nI w)), (7, .int (nI a))]) hx hb dX8_digestLaws_33 hl (by decide) rfl (fun ls hl => ?_)
              have loop35 : ∀ (fu : Nat) (u : Nat) (x6 : Int64), (hu : u ≤ 3) → 3 - u < fu → ∀ (H : Heap) (locs : List Loc) (ls : Array Slot), va_P g.1 vwCl [(h0, .inr (8, [.ref pg, .int le, .ref rd, .int re, .ref sk, .ref si, .ref sy, .int sd, .ref ks, .ref ki, .int kp, .ref al, .ref dr])), (sy, .inr (6, [.ref y1, .ref y2, .ref y3, .ref lw, .int chg, .ref tr])), (lw, .inr (2, [.ref l1, .ref l2, .ref l3, .int kn, .int xo, .ref l4])), (l1, ai g 72 F1), (l2, ai g 72 F2), (l3, ai g 72 F3), (l4, ai g 648 F4)] H → va_D A [(h0, .inr (8, [.ref pg, .int le, .ref rd, .int re, .ref sk, .ref si, .ref sy, .int sd, .ref ks, .ref ki, .int kp, .ref al, .ref dr])), (sy, .inr (6, [.ref y1, .ref y2, .ref y3, .ref lw, .int chg, .ref tr])), (lw, .inr (2, [.ref l1, .ref l2, .ref l3, .int kn, .int xo, .ref l4])), (l1, ai g 72 F1), (l2, ai g 72 F2), (l3, ai g 72 F3), (l4, ai g 648 F4)] → va_S A s.heap H locs → lv_has ls 10 [(0, .ref h0), (1, .long hv), (3, .int (nI k)), (4, .long x6), (6, .int (nI w)), (7, .int (nI a)), (8, .int (nI (18 * k + 2 * w + a))), (9, .int (nI u))] → W p l e ({ frames := 1, cells := 0, slots := 0, locals := 22 }) s m [.ref h0, .long hv, .int (nI k)].toArray below meth c H locs 0 0 (MQ below (va_Ql (po_X8_digestLaws_g g h0 pg rd si ks ki al dr le re kp sd sk sy y1 y2 y3 lw tr chg l1 l2 l3 l4 kn xo F1 F2 F3 F4 hv k) (bk g A) A) [.ref h0, .long hv, .int (nI k)].toArray s 0 0 A) (F0 m 35 ls []) := by
                intro fu
                induction fu with
                | zero => intro u x6 hu hfu; exact absurd hfu (Nat.not_lt_zero _)
                | succ fu ih =>
                  intro u x6 hu hfu H locs ls hP hD hS hl
                  have ih35 := ih
                  refine lv_iload hx hb dX8_digestLaws_35 (lv_at hl 7 rfl) ?_
                  refine lv_iconst (v := 3) hx hb dX8_digestLaws_37 (by decide) ?_
                  refine lv_icmp_ge (tgt := 68) hx hb dX8_digestLaws_38 (by decide) (fun c38_5 => ?_) (fun c38_5 => ?_)
                  · skip
                    refine lv_iinc (v := (nI (a + 1))) (lv' := [(7, .int (nI (a + 1))), (0, .ref h0), (1, .long hv), (3, .int (nI k)), (4, .long x6), (6, .int (nI w)), (8, .int (nI (18 * k + 2 * w + a))), (9, .int (nI u))]) hx hb dX8_digestLaws_68 hl (k := 5) rfl (nI_1 _) (by decide) rfl (fun ls hl => ?_)
                    refine lv_goto (tgt := 16) hx hb dX8_digestLaws_71 (by decide) ?_
                    exact ih16 (a + 1) _ (by omega) (by omega) _ _ _ hP hD hS (lv_sub hl [1, 2, 3, 4, 5, 0] rfl)
                  · skip
                    have hd9 := lt_of_nle (k := 3) (n := u) (by decide) (by omega) c38_5
                    refine lv_lload hx hb dX8_digestLaws_41 (lv_at hl 3 rfl) ?_
                    refine lv_aload_n hx hb dX8_digestLaws_43 rfl (lv_at hl 0 rfl) ?_
                    refine va_get (D := g.1) (ci := 8) (v := .ref sy) (C := RX8) (T := TX8) (N := 13) hx hb hts q_X8_digestLaws_g_f8 hown hE.1 hP 0 rfl rfl 6 (by decide) (hts (.fieldLink RX8 37 "SoundLaws" "study" "LSoundLaws$Study;") q_X8_digestLaws_g_1) (fun _ h9 => h9) rfl dX8_digestLaws_44 ?_
                    refine va_get (D := g.1) (ci := 6) (v := .ref lw) (C := RX6) (T := TX6) (N := 6) hx hb hts q_X8_digestLaws_g_f6 hown hE.1 hP 1 rfl rfl 3 (by decide) (hts (.fieldLink RX8 133 "SoundLaws$Study" "laws" "LSoundLaws$Laws;") q_X8_digestLaws_g_3) (fun _ h9 => h9) rfl dX8_digestLaws_47 ?_
                    refine lv_iload hx hb dX8_digestLaws_50 (lv_at hl 6 rfl) ?_
                    refine lv_iload hx hb dX8_digestLaws_52 (lv_at hl 7 rfl) ?_
                    refine k_ci (wr := [(h0, .inr (8, [.ref pg, .int le, .ref rd, .int re, .ref sk, .ref si, .ref sy, .int sd, .ref ks, .ref ki, .int kp, .ref al, .ref dr])), (sy, .inr (6, [.ref y1, .ref y2, .ref y3, .ref lw, .int chg, .ref tr]))]) hP hD hS hA [2, 3, 4, 5, 6] [0, 1] rfl rfl (by decide) (by decide) (va_runV (As := [.int (nI (18 * k + 2 * w + a)), .int (nI u)]) (rest := [.long x6]) ⟨hx, hb, hml, hown, hts⟩ (c_X2_tell_g l g lw l1 l2 l3 l4 kn xo F1 F2 F3 F4 (18 * k + 2 * w + a) (nI u) (by first | assumption | omega) H.size) (cwV 2 hts gX8_digestLaws_X2_tell rfl rfl rfl (by decide +kernel) ⟨Nat.le_of_ble_eq_true rfl, Nat.le_of_ble_eq_true rfl⟩) (k_preV hE hZ hP hD hS hA [2, 3, 4, 5, 6] rfl (by decide) (va_recv hE.1 hP (ci := 2) (q0 := 2) rfl rfl)) rfl rfl hl.1 rfl (lv_room (Nat.le_of_ble_eq_true rfl)) dX8_digestLaws_54 ⟨Nat.le_of_ble_eq_true rfl, Nat.le_of_ble_eq_true rfl⟩) (fun r_6 w1 H locs hw hP hD hS => ?_)
                    obtain rfl := hw
                    have hP : va_P g.1 vwCl [(h0, .inr (8, [.ref pg, .int le, .ref rd, .int re, .ref sk, .ref si, .ref sy, .int sd, .ref ks, .ref ki, .int kp, .ref al, .ref dr])), (sy, .inr (6, [.ref y1, .ref y2, .ref y3, .ref lw, .int chg, .ref tr])), (lw, .inr (2, [.ref l1, .ref l2, .ref l3, .int kn, .int xo, .ref l4])), (l1, ai g 72 F1), (l2, ai g 72 F2), (l3, ai g 72 F3), (l4, ai g 648 F4)] H := hP
                    have hD : va_D A [(h0, .inr (8, [.ref pg, .int le, .ref rd, .int re, .ref sk, .ref si, .ref sy, .int sd, .ref ks, .ref ki, .int kp, .ref al, .ref dr])), (sy, .inr (6, [.ref y1, .ref y2, .ref y3, .ref lw, .int chg, .ref tr])), (lw, .inr (2, [.ref l1, .ref l2, .ref l3, .int kn, .int xo, .ref l4])), (l1, ai g 72 F1), (l2, ai g 72 F2), (l3, ai g 72 F3), (l4, ai g 648 F4)] := hD
                    refine k_cl (wr := [(h0, .inr (8, [.ref pg, .int le, .ref rd, .int re, .ref sk, .ref si, .ref sy, .int sd, .ref ks, .ref ki, .int kp, .ref al, .ref dr])), (sy, .inr (6, [.ref y1, .ref y2, .ref y3, .ref lw, .int chg, .ref tr])), (lw, .inr (2, [.ref l1, .ref l2, .ref l3, .int kn, .int xo, .ref l4])), (l1, ai g 72 F1), (l2, ai g 72 F2), (l3, ai g 72 F3), (l4, ai g 648 F4)]) hP hD hS hA [] [0, 1, 2, 3, 4, 5, 6] rfl rfl (by decide) (by decide) (va_runS (As := [.long x6, .int r_6]) (rest := []) ⟨hx, hb, hml, hown, hts⟩ (c_X8_mixed l g x6 r_6  H.size) (va_cwS 2 hts gX8_digestLaws_X8_mixed rfl rfl rfl (by decide +kernel) ⟨Nat.le_of_ble_eq_true rfl, Nat.le_of_ble_eq_true rfl⟩) (k_preS hE hZ hP hD hS hA [] rfl (by decide)) rfl rfl hl.1 rfl (lv_room (Nat.le_of_ble_eq_true rfl)) dX8_digestLaws_57 ⟨Nat.le_of_ble_eq_true rfl, Nat.le_of_ble_eq_true rfl⟩) (fun r_7 w1 H locs hw hP hD hS => ?_)
                    obtain ⟨rfl, rfl⟩ := hw
                    have hP : va_P g.1 vwCl [(h0, .inr (8, [.ref pg, .int le, .ref rd, .int re, .ref sk, .ref si, .ref sy, .int sd, .ref ks, .ref ki, .int kp, .ref al, .ref dr])), (sy, .inr (6, [.ref y1, .ref y2, .ref y3, .ref lw, .int chg, .ref tr])), (lw, .inr (2, [.ref l1, .ref l2, .ref l3, .int kn, .int xo, .ref l4])), (l1, ai g 72 F1), (l2, ai g 72 F2), (l3, ai g 72 F3), (l4, ai g 648 F4)] H := hP
                    have hD : va_D A [(h0, .inr (8, [.ref pg, .int le, .ref rd, .int re, .ref sk, .ref si, .ref sy, .int sd, .ref ks, .ref ki, .int kp, .ref al, .ref dr])), (sy, .inr (6, [.ref y1, .ref y2, .ref y3, .ref lw, .int chg, .ref tr])), (lw, .inr (2, [.ref l1, .ref l2, .ref l3, .int kn, .int xo, .ref l4])), (l1, ai g 72 F1), (l2, ai g 72 F2), (l3, ai g 72 F3), (l4, ai g 648 F4)] := hD
                    refine lv_topl (fun x4c ex4c => ?_)
                    refine lv_lstore (lv' := [(4, .long x4c), (0, .ref h0), (1, .long hv), (3, .int (nI k)), (6, .int (nI w)), (7, .int (nI a)), (8, .int (nI (18 * k + 2 * w + a))), (9, .int (nI u))]) hx hb dX8_digestLaws_60 hl (by decide) rfl (fun ls hl => ?_)
                    refine lv_iinc (v := (nI (u + 1))) (lv' := [(9, .int (nI (u + 1))), (4, .long x4c), (0, .ref h0), (1, .long hv), (3, .int (nI k)), (6, .int (nI w)), (7, .int (nI a)), (8, .int (nI (18 * k + 2 * w + a)))]) hx hb dX8_digestLaws_62 hl (k := 7) rfl (nI_1 _) (by decide) rfl (fun ls hl => ?_)
                    refine lv_goto (tgt := 35) hx hb dX8_digestLaws_65 (by decide) ?_
                    exact ih35 (u + 1) _ (by omega) (by omega) _ _ _ hP hD hS (lv_sub hl [2, 3, 4, 1, 5, 6, 7, 0] rfl)
              exact loop35 _ 0 x5 (by decide) (Nat.lt_succ_self _) _ _ _ hP hD hS (lv_sub hl [2, 3, 4, 5, 6, 7, 1, 0] rfl)
        exact loop16 _ 0 x4 (by decide) (Nat.lt_succ_self _) _ _ _ hP hD hS (lv_sub hl [1, 2, 3, 4, 5, 0] rfl)
  exact loop6 _ 0 hv (Nat.zero_le 9) (Nat.lt_succ_self _) _ _ _ hP hD hS (lv_sub hl [2, 3, 4, 1, 0] rfl)

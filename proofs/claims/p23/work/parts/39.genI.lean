theorem gd_go {v : Nat} {q : PS} {r : Int32} {RK RS RK2 RL2 RS2 : Nat → Int32} {y yt : Nat} {x3 x4 x5 : Int32} (h : gdP v q r RK RS y yt x3 x4 x5 RK2 RL2 RS2) (hr : ¬ r = 0) : ∃ (du rs u n wl hw : Nat) (K L V : Nat → Int32), acc (nI v) q = some (du, rs, u, n, wl, hw, y, yt, K, L, V) ∧ MR (du, rs, u, n, wl, hw, y, yt, K, L, V) y yt x3 x4 x5 RK2 RL2 RS2 := by
  rcases h with ⟨h, -⟩ | ⟨-, ⟨du, rs, u, n, wl, hw, z, tg, K, L, V⟩, ha, hm⟩
  · exact absurd h hr
  · obtain ⟨rfl, rfl, hm2⟩ := id hm
    exact ⟨du, rs, u, n, wl, hw, K, L, V, ha, hm⟩
def psK (w : PS) : Nat → Int32 := w.2.2.2.2.2.2.2.2.1
def psV (w : PS) : Nat → Int32 := w.2.2.2.2.2.2.2.2.2.2
/-- what the reference has read -/
def fltP (Pg : Nat → Int32) (a : Nat) (q : PS) (r : Int32) (y yt : Nat) (x3 x4 x5 : Int32) (RK RL RS : Nat → Int32) : Prop :=
  ∃ w : PS, prd Pg a q r w ∧ RI w ∧ SI w ∧ (∀ k, k < 5 → RK k = psK w k) ∧ (∀ i, i < 80 → RS i = psV w i) ∧ (r = nI a → MR w y yt x3 x4 x5 RK RL RS)
section FLT
variable {Pg : Nat → Int32} {a j v : Nat} {q : PS} {du rs u n wl hw z tg : Nat} {K L V : Nat → Int32} {r : Int32} {RK RL RS RK2 RL2 RS2 : Nat → Int32} {y yt : Nat} {x3 x4 x5 x3b x4b x5b : Int32}
theorem flt_e (hj : j ≤ a) (hge : a ≤ j) (hp : prun Pg q j = some (du, rs, u, n, wl, hw, z, tg, K, L, V)) (hI : RI (du, rs, u, n, wl, hw, z, tg, K, L, V)) (hS : SI (du, rs, u, n, wl, hw, z, tg, K, L, V)) (hM : MR (du, rs, u, n, wl, hw, z, tg, K, L, V) z tg x3 x4 x5 RK RL RS) : fltP Pg a q (nI j) z tg x3 x4 x5 RK RL RS :=
  ⟨_, prd_e hj hge hp, hI, hS, hM.2.2.2.2.1, hM.2.2.2.2.2.1, fun _ => hM⟩
theorem flt_f (ha : a ≤ 110) (hj : j < a) (ev : Pg j = nI v) (hp : prun Pg q j = some (du, rs, u, n, wl, hw, z, tg, K, L, V)) (hI : RI (du, rs, u, n, wl, hw, z, tg, K, L, V)) (hS : SI (du, rs, u, n, wl, hw, z, tg, K, L, V)) (hM : MR (du, rs, u, n, wl, hw, z, tg, K, L, V) z tg x3 x4 x5 RK RL RS) (h : gdP v (du, rs, u, n, wl, hw, z, tg, K, L, V) r RK RS y yt x3b x4b x5b RK2 RL2 RS2) (hr : r = 0) : fltP Pg a q (nI j) y yt x3b x4b x5b RK2 RL2 RS2 := by
  rcases h with ⟨-, h1, rfl, rfl⟩ | ⟨h1, -⟩
  · exact ⟨_, ⟨j, Nat.le_of_lt hj, rfl, hp, fun _ => by rw [ev]; exact h1⟩, hI, hS, hM.2.2.2.2.1, hM.2.2.2.2.2.1, fun e => absurd ((nI_eq (by omega) (by omega)).mp e) (by omega)⟩
  · rw [hr] at h1
    exact absurd h1 (by decide)
end FLT
theorem SI_0 {rs u n wl : Nat} {K L V : Nat → Int32} : SI (1, rs, u, n, wl, 0, 0, 0, K, L, V) := ⟨fun q => absurd q (by decide), fun q => absurd q (by decide), by decide, fun k hk => absurd hk (Nat.not_lt_zero k)⟩
theorem MR_0 {rs u n wl : Nat} {K L V RK RL RS : Nat → Int32} {x4 x5 : Int32} (hK : ∀ k, k < 5 → RK k = K k) (hV : ∀ i, i < 80 → RS i = V i) : MR (1, rs, u, n, wl, 0, 0, 0, K, L, V) 0 0 (-1) x4 x5 RK RL RS := ⟨rfl, rfl, fun _ => rfl, fun q => absurd q (by decide), hK, hV, fun k hk => absurd hk (Nat.not_lt_zero k)⟩
/-! is a word silent -/
def NZ (RL RS : Nat → Int32) (k t : Nat) : Prop := ∃ l i, l ≤ 4 ∧ RL k = nI l ∧ i < l ∧ ¬ RS (16 * k + 4 * t + i) = 0
def MU (RL RS : Nat → Int32) (w k t : Nat) : Prop := ∀ k1 t1, (k1 < k ∧ t1 < w) ∨ (k1 = k ∧ t1 < t) → NZ RL RS k1 t1
def b01 (x : Int32) : Prop := x = 0 ∨ x = 1
section MUT
variable {RL RS : Nat → Int32} {w k t : Nat} {x y : Int32}
theorem MU_0 : MU RL RS w 0 0 := fun k1 t1 h => h.elim (fun q => absurd q.1 (Nat.not_lt_zero _)) (fun q => absurd q.2 (Nat.not_lt_zero _))
theorem MU_s : MU RL RS w k (t + 1) ↔ MU RL RS w k t ∧ NZ RL RS k t := by
  constructor
  · intro h
    exact ⟨fun k1 t1 q => h k1 t1 (q.elim Or.inl (fun q => Or.inr ⟨q.1, by omega⟩)), h k t (Or.inr ⟨rfl, by omega⟩)⟩
  · rintro ⟨h1, h2⟩ k1 t1 (q | q)
    · exact h1 k1 t1 (Or.inl q)
    · by_cases e : t1 = t
      · rw [q.1, e]; exact h2
      · exact h1 k1 t1 (Or.inr ⟨q.1, by omega⟩)
theorem MU_k : MU RL RS w (k + 1) 0 ↔ MU RL RS w k w := by
  constructor
  · intro h k1 t1 q
    rcases q with q | q
    · exact h k1 t1 (Or.inl ⟨by omega, q.2⟩)
    · exact h k1 t1 (Or.inl ⟨by omega, q.2⟩)
  · intro h k1 t1 q
    rcases q with q | q
    · by_cases e : k1 = k
      · exact h k1 t1 (Or.inr ⟨e, q.2⟩)
      · exact h k1 t1 (Or.inl ⟨by omega, q.2⟩)
    · exact absurd q.2 (Nat.not_lt_zero _)
/-- the places of a word, so far -/
def nzw (RS : Nat → Int32) (b : Nat) (q : Nat) (x : Int32) : Prop := b01 x ∧ (x = 0 ↔ ∃ i, i < q ∧ ¬ RS (b + i) = 0)
theorem nzw_0 {b : Nat} : nzw RS b 0 1 := ⟨Or.inr rfl, ⟨fun h => absurd h (by decide), fun ⟨i, h, _⟩ => absurd h (Nat.not_lt_zero i)⟩⟩
theorem nzw_a {b q : Nat} (h : nzw RS b q x) (hx : x = 0) : nzw RS b (q + 1) 0 := ⟨Or.inl rfl, ⟨fun _ => by obtain ⟨i, h1, h2⟩ := h.2.mp hx; exact ⟨i, by omega, h2⟩, fun _ => rfl⟩⟩
theorem nzw_b {b q : Nat} (h : nzw RS b q x) (hx : ¬ x = 0) (hr : RS (b + q) = 0) : nzw RS b (q + 1) 1 := ⟨Or.inr rfl, ⟨fun e => absurd e (by decide), fun ⟨i, h1, h2⟩ => by
  by_cases e : i = q
  · rw [e] at h2; exact absurd hr h2
  · exact absurd (h.2.mpr ⟨i, by omega, h2⟩) hx⟩⟩
theorem nzw_c {b q : Nat} (hr : ¬ RS (b + q) = 0) : nzw RS b (q + 1) 0 := ⟨Or.inl rfl, ⟨fun _ => ⟨q, by omega, hr⟩, fun _ => rfl⟩⟩
theorem nzw_NZ {l : Nat} (hl : l ≤ 4) (e : RL k = nI l) (h : nzw RS (16 * k + 4 * t) l x) : x = 0 ↔ NZ RL RS k t := by
  rw [h.2]
  constructor
  · rintro ⟨i, h1, h2⟩
    exact ⟨l, i, hl, e, h1, h2⟩
  · rintro ⟨l2, i, h1, h2, h3, h4⟩
    have : l2 = l := (nI_eq (by omega) (by omega)).mp (h2.symm.trans e)
    exact ⟨i, by omega, h4⟩
def mtt (RL RS : Nat → Int32) (w k t : Nat) (x : Int32) : Prop := b01 x ∧ (x = 0 ↔ MU RL RS w k t)
theorem mut_0 : mtt RL RS w 0 0 0 := ⟨Or.inl rfl, ⟨fun _ => MU_0, fun _ => rfl⟩⟩
theorem mut_k (h : mtt RL RS w k w x) : mtt RL RS w (k + 1) 0 x := ⟨h.1, h.2.trans MU_k.symm⟩
theorem mut_a {l : Nat} (h : mtt RL RS w k t x) (hx : ¬ x = 0) : mtt RL RS w k (t + 1) 1 := ⟨Or.inr rfl, ⟨fun e => absurd e (by decide), fun q => absurd (h.2.mpr (MU_s.mp q).1) hx⟩⟩
theorem mut_b {l : Nat} (h : mtt RL RS w k t x) (hx : x = 0) (hl : l ≤ 4) (e : RL k = nI l) (h2 : nzw RS (16 * k + 4 * t) l y) (hy : y = 0) : mtt RL RS w k (t + 1) 0 := ⟨Or.inl rfl, ⟨fun _ => MU_s.mpr ⟨h.2.mp hx, (nzw_NZ hl e h2).mp hy⟩, fun _ => rfl⟩⟩
theorem mut_c {l : Nat} (hl : l ≤ 4) (e : RL k = nI l) (h2 : nzw RS (16 * k + 4 * t) l y) (hy : ¬ y = 0) : mtt RL RS w k (t + 1) 1 := ⟨Or.inr rfl, ⟨fun q => absurd q (by decide), fun q => absurd ((nzw_NZ hl e h2).mpr (MU_s.mp q).2) hy⟩⟩
theorem mut_nar (h : mtt RL RS w k t x) : narrow .boolean (.int x) = .int x := by
  rcases h.1 with e | e <;> rw [e] <;> rfl
end MUT
def po_X9_faultOf_g (g : GG) (k0 : Nat) (m0 : Nat) (m7 : Nat) (m8 : Nat) (m9 : Nat) (s10 : Int32) (s11 : Int32) (s12 : Int32) (m13 : Nat) (m14 : Nat) (m15 : Nat) (s16 : Int32) (m17 : Nat) (m18 : Nat) (m19 : Nat) (m20 : Nat) (m21 : Nat) (m22 : Nat) (m23 : Nat) (m24 : Nat) (m25 : Nat) (m26 : Nat) (m27 : Nat) (m28 : Nat) (s29 : Int32) (m30 : Nat) (s31 : Int32) (s32 : Int32) (s33 : Int32) (s34 : Int32) (s35 : Int32) (m36 : Nat) (m37 : Nat) (m38 : Nat) (m39 : Nat) (s40 : Int64) (a : Nat) (x2 : Int32) (x3 : Int32) (x4 : Int32) (x5 : Int32) (x6 : Int32) (Pg : Nat → Int32) (RK : Nat → Int32) (RL : Nat → Int32) (RS : Nat → Int32) (du : Nat) (rs : Nat) (tu : Nat) (pl : Nat) (wl : Nat) (hw : Nat) (DK : Nat → Int32) (DL : Nat → Int32) (DV : Nat → Int32) (dz : Nat) (dt : Nat) : Int32 → va_W → Prop := fun (r : Int32) w => ∃ (dz2 : Nat) (dt2 : Nat) (x3b : Int32) (x4b : Int32) (x5b : Int32) (RK2 : Nat → Int32) (RL2 : Nat → Int32) (RS2 : Nat → Int32), w = [(k0, .inr (9, [.ref m0, .int (nI a), .int (nI dz2), .int x3b, .int x4b, .int x5b, .int (nI dt2), .ref m7, .ref m8, .ref m9, .int s10, .int s11, .int s12, .ref m13, .ref m14, .ref m15, .int s16, .ref m17, .ref m18, .ref m19, .ref m20, .ref m21, .ref m22, .ref m23, .ref m24, .ref m25, .ref m26, .ref m27, .ref m28, .int s29, .ref m30, .int s31, .int s32, .int s33, .int s34, .int s35, .ref m36, .ref m37, .ref m38, .ref m39, .long s40])), (m0, ai g 110 Pg), (m7, ai g 5 RK2), (m8, ai g 5 RL2), (m9, ai g 80 RS2)] ∧ (fltP Pg a (1, rs, tu, pl, wl, 0, 0, 0, DK, DL, DV) r dz2 dt2 x3b x4b x5b RK2 RL2 RS2)
theorem q_X9_faultOf_g_f9 : ∀ w ∈ u_ws RX9 TX9 41, w ∈ wsX9_faultOf := by decide +kernel
theorem q_X9_faultOf_g_1 : (Cond.fieldLink RX9 115 "SoundLawsModel" "readSets" "I") ∈ wsX9_faultOf := by decide +kernel
theorem q_X9_faultOf_g_2 : (Cond.fieldLink RX9 98 "SoundLawsModel" "readWords" "I") ∈ wsX9_faultOf := by decide +kernel
theorem q_X9_faultOf_g_3 : (Cond.fieldLink RX9 108 "SoundLawsModel" "readTongues" "I") ∈ wsX9_faultOf := by decide +kernel
theorem q_X9_faultOf_g_4 : (Cond.fieldLink RX9 92 "SoundLawsModel" "pageMany" "I") ∈ wsX9_faultOf := by decide +kernel
theorem q_X9_faultOf_g_5 : (Cond.fieldLink RX9 7 "SoundLawsModel" "page" "[I") ∈ wsX9_faultOf := by decide +kernel
set_option maxHeartbeats 1500000 in
set_option maxRecDepth 100000 in
theorem c_X9_faultOf_g (l : Launch) (g : GG) (k0 : Nat) (m0 : Nat) (m7 : Nat) (m8 : Nat) (m9 : Nat) (s10 : Int32) (s11 : Int32) (s12 : Int32) (m13 : Nat) (m14 : Nat) (m15 : Nat) (s16 : Int32) (m17 : Nat) (m18 : Nat) (m19 : Nat) (m20 : Nat) (m21 : Nat) (m22 : Nat) (m23 : Nat) (m24 : Nat) (m25 : Nat) (m26 : Nat) (m27 : Nat) (m28 : Nat) (s29 : Int32) (m30 : Nat) (s31 : Int32) (s32 : Int32) (s33 : Int32) (s34 : Int32) (s35 : Int32) (m36 : Nat) (m37 : Nat) (m38 : Nat) (m39 : Nat) (s40 : Int64) (a : Nat) (x2 : Int32) (x3 : Int32) (x4 : Int32) (x5 : Int32) (x6 : Int32) (Pg : Nat → Int32) (RK : Nat → Int32) (RL : Nat → Int32) (RS : Nat → Int32) (du : Nat) (rs : Nat) (tu : Nat) (pl : Nat) (wl : Nat) (hw : Nat) (DK : Nat → Int32) (DL : Nat → Int32) (DV : Nat → Int32) (dz : Nat) (dt : Nat) (ha : a ≤ 110) (hpg : pgr a Pg) (hRI : RI (du, rs, tu, pl, wl, hw, dz, dt, DK, DL, DV)) (hRK : ∀ k, k < 5 → RK k = DK k) (hRS : ∀ i, i < 80 → RS i = DV i) (sz : Nat) : MetI l yX9_faultOf wsX9_faultOf ({ frames := 4, cells := 0, slots := 0, locals := 82 }) g [.ref k0] [(k0, .inr (9, [.ref m0, .int (nI a), .int x2, .int x3, .int x4, .int x5, .int x6, .ref m7, .ref m8, .ref m9, .int s10, .int s11, .int s12, .ref m13, .ref m14, .ref m15, .int s16, .ref m17, .ref m18, .ref m19, .ref m20, .ref m21, .ref m22, .ref m23, .ref m24, .ref m25, .ref m26, .ref m27, .ref m28, .int s29, .ref m30, .int s31, .int s32, .int s33, .int s34, .int s35, .ref m36, .ref m37, .ref m38, .ref m39, .long s40])), (m0, ai g 110 Pg), (m7, ai g 5 RK), (m8, ai g 5 RL), (m9, ai g 80 RS)] sz (po_X9_faultOf_g g k0 m0 m7 m8 m9 s10 s11 s12 m13 m14 m15 s16 m17 m18 m19 m20 m21 m22 m23 m24 m25 m26 m27 m28 s29 m30 s31 s32 s33 s34 s35 m36 m37 m38 m39 s40 a x2 x3 x4 x5 x6 Pg RK RL RS du rs tu pl wl hw DK DL DV dz dt) 0 0 := by
  refine k_of (l := l) (y := yX9_faultOf) (ws := wsX9_faultOf) (rm := { frames := 4, cells := 0, slots := 0, locals := 82 }) (mc := 0) (ms := 0) (av := [.ref k0]) (g := g) (wc := [(k0, .inr (9, [.ref m0, .int (nI a), .int x2, .int x3, .int x4, .int x5, .int x6, .ref m7, .ref m8, .ref m9, .int s10, .int s11, .int s12, .ref m13, .ref m14, .ref m15, .int s16, .ref m17, .ref m18, .ref m19, .ref m20, .ref m21, .ref m22, .ref m23, .ref m24, .ref m25, .ref m26, .ref m27, .ref m28, .int s29, .ref m30, .int s31, .int s32, .int s33, .int s34, .int s35, .ref m36, .ref m37, .ref m38, .ref m39, .long s40])), (m0, ai g 110 Pg), (m7, ai g 5 RK), (m8, ai g 5 RL), (m9, ai g 80 RS)]) (Qc := fun A => va_Qi (po_X9_faultOf_g g k0 m0 m7 m8 m9 s10 s11 s12 m13 m14 m15 s16 m17 m18 m19 m20 m21 m22 m23 m24 m25 m26 m27 m28 s29 m30 s31 s32 s33 s34 s35 m36 m37 m38 m39 s40 a x2 x3 x4 x5 x6 Pg RK RL RS du rs tu pl wl hw DK DL DV dz dt) (bk g A) A) (cc := cX9_faultOf) (maxL := 2) (ret := (some .int)) (by decide) rfl (Nat.le_of_ble_eq_true rfl) ?_ sz
  intro p e s m below meth c hx hb hr hts hown hlocks hnm hml A hA hE hZ hP hD hS ls hl
  have hown : s.vm.findClass RX9 = some m.cls := hown
  have hl : lv_has ls 2 [(0, .ref k0)] := hl
  refine lv_aload_n hx hb dX9_faultOf_0 rfl (lv_at hl 0 rfl) ?_
  refine lv_iconst (v := 0) hx hb dX9_faultOf_1 (by decide) ?_
  refine va_put (D := g.1) (ci := 9) (v := .int 0) (ty := .int) (C := RX9) (T := TX9) (N := 41) hx hb hts q_X9_faultOf_g_f9 tyX9 tyX9_ok nmX9 hown hE.1 hP hD hS 0 rfl rfl 2 (by decide) (hts (.fieldLink RX9 115 "SoundLawsModel" "readSets" "I") q_X9_faultOf_g_1) (fun _ h9 => h9) rfl (by decide +kernel) rfl rfl (Nat.le_of_ble_eq_true rfl) dX9_faultOf_2 (fun H locs hP hD hS => ?_)
  have hP : va_P g.1 vwCl [(k0, .inr (9, [.ref m0, .int (nI a), .int 0, .int x3, .int x4, .int x5, .int x6, .ref m7, .ref m8, .ref m9, .int s10, .int s11, .int s12, .ref m13, .ref m14, .ref m15, .int s16, .ref m17, .ref m18, .ref m19, .ref m20, .ref m21, .ref m22, .ref m23, .ref m24, .ref m25, .ref m26, .ref m27, .ref m28, .int s29, .ref m30, .int s31, .int s32, .int s33, .int s34, .int s35, .ref m36, .ref m37, .ref m38, .ref m39, .long s40])), (m0, ai g 110 Pg), (m7, ai g 5 RK), (m8, ai g 5 RL), (m9, ai g 80 RS)] H := hP
  have hD : va_D A [(k0, .inr (9, [.ref m0, .int (nI a), .int 0, .int x3, .int x4, .int x5, .int x6, .ref m7, .ref m8, .ref m9, .int s10, .int s11, .int s12, .ref m13, .ref m14, .ref m15, .int s16, .ref m17, .ref m18, .ref m19, .ref m20, .ref m21, .ref m22, .ref m23, .ref m24, .ref m25, .ref m26, .ref m27, .ref m28, .int s29, .ref m30, .int s31, .int s32, .int s33, .int s34, .int s35, .ref m36, .ref m37, .ref m38, .ref m39, .long s40])), (m0, ai g 110 Pg), (m7, ai g 5 RK), (m8, ai g 5 RL), (m9, ai g 80 RS)] := hD
  refine lv_aload_n hx hb dX9_faultOf_5 rfl (lv_at hl 0 rfl) ?_
  refine lv_iconst (v := (-1)) hx hb dX9_faultOf_6 (by decide) ?_
  refine va_put (D := g.1) (ci := 9) (v := .int (-1)) (ty := .int) (C := RX9) (T := TX9) (N := 41) hx hb hts q_X9_faultOf_g_f9 tyX9 tyX9_ok nmX9 hown hE.1 hP hD hS 0 rfl rfl 3 (by decide) (hts (.fieldLink RX9 98 "SoundLawsModel" "readWords" "I") q_X9_faultOf_g_2) (fun _ h9 => h9) rfl (by decide +kernel) rfl rfl (Nat.le_of_ble_eq_true rfl) dX9_faultOf_7 (fun H locs hP hD hS => ?_)
  have hP : va_P g.1 vwCl [(k0, .inr (9, [.ref m0, .int (nI a), .int 0, .int (-1), .int x4, .int x5, .int x6, .ref m7, .ref m8, .ref m9, .int s10, .int s11, .int s12, .ref m13, .ref m14, .ref m15, .int s16, .ref m17, .ref m18, .ref m19, .ref m20, .ref m21, .ref m22, .ref m23, .ref m24, .ref m25, .ref m26, .ref m27, .ref m28, .int s29, .ref m30, .int s31, .int s32, .int s33, .int s34, .int s35, .ref m36, .ref m37, .ref m38, .ref m39, .long s40])), (m0, ai g 110 Pg), (m7, ai g 5 RK), (m8, ai g 5 RL), (m9, ai g 80 RS)] H := hP
  have hD : va_D A [(k0, .inr (9, [.ref m0, .int (nI a), .int 0, .int (-1), .int x4, .int x5, .int x6, .ref m7, .ref m8, .ref m9, .int s10, .int s11, .int s12, .ref m13, .ref m14, .ref m15, .int s16, .ref m17, .ref m18, .ref m19, .ref m20, .ref m21, .ref m22, .ref m23, .ref m24, .ref m25, .ref m26, .ref m27, .ref m28, .int s29, .ref m30, .int s31, .int s32, .int s33, .int s34, .int s35, .ref m36, .ref m37, .ref m38, .ref m39, .long s40])), (m0, ai g 110 Pg), (m7, ai g 5 RK), (m8, ai g 5 RL), (m9, ai g 80 RS)] := hD
  refine lv_aload_n hx hb dX9_faultOf_10 rfl (lv_at hl 0 rfl) ?_
  refine lv_iconst (v := 0) hx hb dX9_faultOf_11 (by decide) ?_
  refine va_put (D := g.1) (ci := 9) (v := .int 0) (ty := .int) (C := RX9) (T := TX9) (N := 41) hx hb hts q_X9_faultOf_g_f9 tyX9 tyX9_ok nmX9 hown hE.1 hP hD hS 0 rfl rfl 6 (by decide) (hts (.fieldLink RX9 108 "SoundLawsModel" "readTongues" "I") q_X9_faultOf_g_3) (fun _ h9 => h9) rfl (by decide +kernel) rfl rfl (Nat.le_of_ble_eq_true rfl) dX9_faultOf_12 (fun H locs hP hD hS => ?_)
  have hP : va_P g.1 vwCl [(k0, .inr (9, [.ref m0, .int (nI a), .int 0, .int (-1), .int x4, .int x5, .int 0, .ref m7, .ref m8, .ref m9, .int s10, .int s11, .int s12, .ref m13, .ref m14, .ref m15, .int s16, .ref m17, .ref m18, .ref m19, .ref m20, .ref m21, .ref m22, .ref m23, .ref m24, .ref m25, .ref m26, .ref m27, .ref m28, .int s29, .ref m30, .int s31, .int s32, .int s33, .int s34, .int s35, .ref m36, .ref m37, .ref m38, .ref m39, .long s40])), (m0, ai g 110 Pg), (m7, ai g 5 RK), (m8, ai g 5 RL), (m9, ai g 80 RS)] H := hP
  have hD : va_D A [(k0, .inr (9, [.ref m0, .int (nI a), .int 0, .int (-1), .int x4, .int x5, .int 0, .ref m7, .ref m8, .ref m9, .int s10, .int s11, .int s12, .ref m13, .ref m14, .ref m15, .int s16, .ref m17, .ref m18, .ref m19, .ref m20, .ref m21, .ref m22, .ref m23, .ref m24, .ref m25, .ref m26, .ref m27, .ref m28, .int s29, .ref m30, .int s31, .int s32, .int s33, .int s34, .int s35, .ref m36, .ref m37, .ref m38, .ref m39, .long s40])), (m0, ai g 110 Pg), (m7, ai g 5 RK), (m8, ai g 5 RL), (m9, ai g 80 RS)] := hD
  refine lv_iconst (v := 0) hx hb dX9_faultOf_15 (by decide) ?_
  refine lv_istore_n (lv' := [(1, .int 0), (0, .ref k0)]) hx hb dX9_faultOf_16 rfl hl (by decide) rfl (fun ls hl => ?_)
  have loop17 : ∀ (fu : Nat) (j du5 rs5 tu5 pl5 wl5 hw5 dz5 dt5 : Nat) (DK5 DL5 DV5 : Nat → Int32) (y3 y4 y5 : Int32) (RK5 RL5 RS5 : Nat → Int32), (hj5 : j ≤ a) → (hp5 : prun Pg (1, rs, tu, pl, wl, 0, 0, 0, DK, DL, DV) j = some (du5, rs5, tu5, pl5, wl5, hw5, dz5, dt5, DK5, DL5, DV5)) → (hRI5 : RI (du5, rs5, tu5, pl5, wl5, hw5, dz5, dt5, DK5, DL5, DV5)) → (hSI5 : SI (du5, rs5, tu5, pl5, wl5, hw5, dz5, dt5, DK5, DL5, DV5)) → (hM5 : MR (du5, rs5, tu5, pl5, wl5, hw5, dz5, dt5, DK5, DL5, DV5) dz5 dt5 y3 y4 y5 RK5 RL5 RS5) → a - j < fu → ∀ (H : Heap) (locs : List Loc) (ls : Array Slot), va_P g.1 vwCl [(k0, .inr (9, [.ref m0, .int (nI a), .int (nI dz5), .int y3, .int y4, .int y5, .int (nI dt5), .ref m7, .ref m8, .ref m9, .int s10, .int s11, .int s12, .ref m13, .ref m14, .ref m15, .int s16, .ref m17, .ref m18, .ref m19, .ref m20, .ref m21, .ref m22, .ref m23, .ref m24, .ref m25, .ref m26, .ref m27, .ref m28, .int s29, .ref m30, .int s31, .int s32, .int s33, .int s34, .int s35, .ref m36, .ref m37, .ref m38, .ref m39, .long s40])), (m0, ai g 110 Pg), (m7, ai g 5 RK5), (m8, ai g 5 RL5), (m9, ai g 80 RS5)] H → va_D A [(k0, .inr (9, [.ref m0, .int (nI a), .int (nI dz5), .int y3, .int y4, .int y5, .int (nI dt5), .ref m7, .ref m8, .ref m9, .int s10, .int s11, .int s12, .ref m13, .ref m14, .ref m15, .int s16, .ref m17, .ref m18, .ref m19, .ref m20, .ref m21, .ref m22, .ref m23, .ref m24, .ref m25, .ref m26, .ref m27, .ref m28, .int s29, .ref m30, .int s31, .int s32, .int s33, .int s34, .int s35, .ref m36, .ref m37, .ref m38, .ref m39, .long s40])), (m0, ai g 110 Pg), (m7, ai g 5 RK5), (m8, ai g 5 RL5), (m9, ai g 80 RS5)] → va_S A s.heap H locs → lv_has ls 2 [(0, .ref k0), (1, .int (nI j))] → W p l e ({ frames := 4, cells := 0, slots := 0, locals := 82 }) s m [.ref k0].toArray below meth c H locs 0 0 (MQ below (va_Qi (po_X9_faultOf_g g k0 m0 m7 m8 m9 s10 s11 s12 m13 m14 m15 s16 m17 m18 m19 m20 m21 m22 m23 m24 m25 m26 m27 m28 s29 m30 s31 s32 s33 s34 s35 m36 m37 m38 m39 s40 a x2 x3 x4 x5 x6 Pg RK RL RS du rs tu pl wl hw DK DL DV dz dt) (bk g A) A) [.ref k0].toArray s 0 0 A) (F0 m 17 ls []) := by
    intro fu
    induction fu with
    | zero => intro j du5 rs5 tu5 pl5 wl5 hw5 dz5 dt5 DK5 DL5 DV5 y3 y4 y5 RK5 RL5 RS5 hj5 hp5 hRI5 hSI5 hM5 hfu; exact absurd hfu (Nat.not_lt_zero _)
    | succ fu ih =>
      intro j du5 rs5 tu5 pl5 wl5 hw5 dz5 dt5 DK5 DL5 DV5 y3 y4 y5 RK5 RL5 RS5 hj5 hp5 hRI5 hSI5 hM5 hfu H locs ls hP hD hS hl
      have ih17 := ih
      refine lv_iload_n hx hb dX9_faultOf_17 rfl (lv_at hl 1 rfl) ?_
      refine lv_aload_n hx hb dX9_faultOf_18 rfl (lv_at hl 0 rfl) ?_
      refine va_get (D := g.1) (ci := 9) (v := .int (nI a)) (C := RX9) (T := TX9) (N := 41) hx hb hts q_X9_faultOf_g_f9 hown hE.1 hP 0 rfl rfl 1 (by decide) (hts (.fieldLink RX9 92 "SoundLawsModel" "pageMany" "I") q_X9_faultOf_g_4) (fun _ h9 => h9) rfl dX9_faultOf_19 ?_
      refine lv_icmp_ge (tgt := 44) hx hb dX9_faultOf_22 (by decide) (fun c22_1 => ?_) (fun c22_1 => ?_)
      · skip
        have hge := ge_of_le (k := a) (n := j) (by omega) (by omega) c22_1
        refine lv_iload_n hx hb dX9_faultOf_44 rfl (lv_at hl 1 rfl) ?_
        refine W.widen (k := 0) (n := 0) (Nat.le_of_ble_eq_true rfl) (Nat.le_of_ble_eq_true rfl) ?_
        exact k_ri hx hb hr hlocks hS hP hD ⟨dz5, dt5, y3, y4, y5, RK5, RL5, RS5, rfl, (flt_e hj5 hge hp5 hRI5 hSI5 hM5)⟩ dX9_faultOf_45
      · skip
        have hj9 := lt_of_nle (k := a) (n := j) (by omega) (by omega) c22_1
        refine lv_aload_n hx hb dX9_faultOf_25 rfl (lv_at hl 0 rfl) ?_
        refine lv_aload_n hx hb dX9_faultOf_26 rfl (lv_at hl 0 rfl) ?_
        refine va_get (D := g.1) (ci := 9) (v := .ref m0) (C := RX9) (T := TX9) (N := 41) hx hb hts q_X9_faultOf_g_f9 hown hE.1 hP 0 rfl rfl 0 (by decide) (hts (.fieldLink RX9 7 "SoundLawsModel" "page" "[I") q_X9_faultOf_g_5) (fun _ h9 => h9) rfl dX9_faultOf_27 ?_
        refine lv_iload_n hx hb dX9_faultOf_30 rfl (lv_at hl 1 rfl) ?_
        refine k_ald j rfl (by omega) hx hb hE hP 1 rfl (by decide) dX9_faultOf_31 ?_
        obtain ⟨v, hv, ev⟩ := hpg j hj9
        refine lv_topi (fun x_2 ex_2 => ?_)
        obtain rfl : x_2 = nI v := by rw [ex_2]; exact ev
        refine k_ci (wr := [(m0, ai g 110 Pg)]) hP hD hS hA [0, 2, 3, 4] [1] rfl rfl (by decide) (by decide) (va_runV (As := [.int (nI v)]) (rest := []) ⟨hx, hb, hml, hown, hts⟩ (c_X9_isGood_g l g k0 m0 (nI a) m7 m8 m9 s10 s11 s12 m13 m14 m15 s16 m17 m18 m19 m20 m21 m22 m23 m24 m25 m26 m27 m28 s29 m30 s31 s32 s33 s34 s35 m36 m37 m38 m39 s40 dz5 dt5 y3 y4 y5 RK5 RL5 RS5 du5 rs5 tu5 pl5 wl5 hw5 DK5 DL5 DV5 v hM5 hRI5 hSI5 H.size) (cwV 1 hts gX9_faultOf_X9_isGood rfl rfl rfl (by decide +kernel) ⟨Nat.le_of_ble_eq_true rfl, Nat.le_of_ble_eq_true rfl⟩) (k_preV hE hZ hP hD hS hA [0, 2, 3, 4] rfl (by decide) (va_recv hE.1 hP (ci := 9) (q0 := 0) rfl rfl)) rfl rfl hl.1 rfl (lv_room (Nat.le_of_ble_eq_true rfl)) dX9_faultOf_32 ⟨Nat.le_of_ble_eq_true rfl, Nat.le_of_ble_eq_true rfl⟩) (fun r_3 w1 H locs hw hP hD hS => ?_)
        obtain ⟨dz2_4, dt2_5, x3b_6, x4b_7, x5b_8, RK2_9, RL2_10, RS2_11, rfl, hgd_12⟩ := hw
        have hP : va_P g.1 vwCl [(m0, ai g 110 Pg), (k0, .inr (9, [.ref m0, .int (nI a), .int (nI dz2_4), .int x3b_6, .int x4b_7, .int x5b_8, .int (nI dt2_5), .ref m7, .ref m8, .ref m9, .int s10, .int s11, .int s12, .ref m13, .ref m14, .ref m15, .int s16, .ref m17, .ref m18, .ref m19, .ref m20, .ref m21, .ref m22, .ref m23, .ref m24, .ref m25, .ref m26, .ref m27, .ref m28, .int s29, .ref m30, .int s31, .int s32, .int s33, .int s34, .int s35, .ref m36, .ref m37, .ref m38, .ref m39, .long s40])), (m7, ai g 5 RK2_9), (m8, ai g 5 RL2_10), (m9, ai g 80 RS2_11)] H := hP
        have hD : va_D A [(m0, ai g 110 Pg), (k0, .inr (9, [.ref m0, .int (nI a), .int (nI dz2_4), .int x3b_6, .int x4b_7, .int x5b_8, .int (nI dt2_5), .ref m7, .ref m8, .ref m9, .int s10, .int s11, .int s12, .ref m13, .ref m14, .ref m15, .int s16, .ref m17, .ref m18, .ref m19, .ref m20, .ref m21, .ref m22, .ref m23, .ref m24, .ref m25, .ref m26, .ref m27, .ref m28, .int s29, .ref m30, .int s31, .int s32, .int s33, .int s34, .int s35, .ref m36, .ref m37, .ref m38, .ref m39, .long s40])), (m7, ai g 5 RK2_9), (m8, ai g 5 RL2_10), (m9, ai g 80 RS2_11)] := hD
        refine lv_if_eq (tgt := 44) hx hb dX9_faultOf_35 (by decide) (fun c35_13 => ?_) (fun c35_13 => ?_)
        · skip
          refine lv_iload_n hx hb dX9_faultOf_44 rfl (lv_at hl 1 rfl) ?_
          refine W.widen (k := 0) (n := 0) (Nat.le_of_ble_eq_true rfl) (Nat.le_of_ble_eq_true rfl) ?_
          have hP9 := hP.sub (ws' := [(k0, .inr (9, [.ref m0, .int (nI a), .int (nI dz2_4), .int x3b_6, .int x4b_7, .int x5b_8, .int (nI dt2_5), .ref m7, .ref m8, .ref m9, .int s10, .int s11, .int s12, .ref m13, .ref m14, .ref m15, .int s16, .ref m17, .ref m18, .ref m19, .ref m20, .ref m21, .ref m22, .ref m23, .ref m24, .ref m25, .ref m26, .ref m27, .ref m28, .int s29, .ref m30, .int s31, .int s32, .int s33, .int s34, .int s35, .ref m36, .ref m37, .ref m38, .ref m39, .long s40])), (m0, ai g 110 Pg), (m7, ai g 5 RK2_9), (m8, ai g 5 RL2_10), (m9, ai g 80 RS2_11)]) [1, 0, 2, 3, 4] rfl
          have hD9 := hD.sub (ws' := [(k0, .inr (9, [.ref m0, .int (nI a), .int (nI dz2_4), .int x3b_6, .int x4b_7, .int x5b_8, .int (nI dt2_5), .ref m7, .ref m8, .ref m9, .int s10, .int s11, .int s12, .ref m13, .ref m14, .ref m15, .int s16, .ref m17, .ref m18, .ref m19, .ref m20, .ref m21, .ref m22, .ref m23, .ref m24, .ref m25, .ref m26, .ref m27, .ref m28, .int s29, .ref m30, .int s31, .int s32, .int s33, .int s34, .int s35, .ref m36, .ref m37, .ref m38, .ref m39, .long s40])), (m0, ai g 110 Pg), (m7, ai g 5 RK2_9), (m8, ai g 5 RL2_10), (m9, ai g 80 RS2_11)]) [1, 0, 2, 3, 4] (by decide) rfl
          exact k_ri hx hb hr hlocks hS hP9 hD9 ⟨dz2_4, dt2_5, x3b_6, x4b_7, x5b_8, RK2_9, RL2_10, RS2_11, rfl, (flt_f ha hj9 ev hp5 hRI5 hSI5 hM5 hgd_12 c35_13)⟩ dX9_faultOf_45
        · skip
          obtain ⟨du6, rs6, tu6, pl6, wl6, hw6, DK6, DL6, DV6, ea6, hM6⟩ := gd_go hgd_12 c35_13
          refine lv_iinc (v := (nI (j + 1))) (lv' := [(1, .int (nI (j + 1))), (0, .ref k0)]) hx hb dX9_faultOf_38 hl (k := 1) rfl (nI_1 _) (by decide) rfl (fun ls hl => ?_)
          refine lv_goto (tgt := 17) hx hb dX9_faultOf_41 (by decide) ?_
          exact ih17 (j + 1) du6 rs6 tu6 pl6 wl6 hw6 _ _ DK6 DL6 DV6 _ _ _ _ _ _ (by omega) (prun_s hp5 (by rw [ev]; exact ea6)) (RI_acc hRI5 ea6) (SI_acc hRI5 hSI5 ea6) hM6 (by omega) _ _ _ (hP.sub [1, 0, 2, 3, 4] rfl) (hD.sub [1, 0, 2, 3, 4] (by decide) rfl) hS (lv_sub hl [1, 0] rfl)
  exact loop17 _ 0 1 rs tu pl wl 0 0 0 DK DL DV _ _ _ _ _ _ (Nat.zero_le a) rfl (RI_0 hRI) SI_0 (MR_0 hRK hRS) (Nat.lt_succ_self _) _ _ _ hP hD hS (lv_sub hl [1, 0] rfl)
def po_X9_fault_g (g : GG) (k0 : Nat) (m0 : Nat) (m7 : Nat) (m8 : Nat) (m9 : Nat) (s10 : Int32) (s11 : Int32) (s12 : Int32) (m13 : Nat) (m14 : Nat) (m15 : Nat) (s16 : Int32) (m17 : Nat) (m18 : Nat) (m19 : Nat) (m20 : Nat) (m21 : Nat) (m22 : Nat) (m23 : Nat) (m24 : Nat) (m25 : Nat) (m26 : Nat) (m27 : Nat) (m28 : Nat) (s29 : Int32) (m30 : Nat) (s31 : Int32) (s32 : Int32) (s33 : Int32) (s34 : Int32) (s35 : Int32) (m36 : Nat) (m37 : Nat) (m38 : Nat) (m39 : Nat) (s40 : Int64) (a : Nat) (x2 : Int32) (x3 : Int32) (x4 : Int32) (x5 : Int32) (x6 : Int32) (Pg : Nat → Int32) (RK : Nat → Int32) (RL : Nat → Int32) (RS : Nat → Int32) (du : Nat) (rs : Nat) (tu : Nat) (pl : Nat) (wl : Nat) (hw : Nat) (DK : Nat → Int32) (DL : Nat → Int32) (DV : Nat → Int32) (dz : Nat) (dt : Nat) : Int32 → va_W → Prop := fun (r : Int32) w => ∃ (dz2 : Nat) (dt2 : Nat) (x3b : Int32) (x4b : Int32) (x5b : Int32) (RK2 : Nat → Int32) (RL2 : Nat → Int32) (RS2 : Nat → Int32), w = [(k0, .inr (9, [.ref m0, .int (nI a), .int (nI dz2), .int x3b, .int x4b, .int x5b, .int (nI dt2), .ref m7, .ref m8, .ref m9, .int s10, .int s11, .int s12, .ref m13, .ref m14, .ref m15, .int s16, .ref m17, .ref m18, .ref m19, .ref m20, .ref m21, .ref m22, .ref m23, .ref m24, .ref m25, .ref m26, .ref m27, .ref m28, .int s29, .ref m30, .int s31, .int s32, .int s33, .int s34, .int s35, .ref m36, .ref m37, .ref m38, .ref m39, .long s40])), (m0, ai g 110 Pg), (m7, ai g 5 RK2), (m8, ai g 5 RL2), (m9, ai g 80 RS2)] ∧ (fltP Pg a (1, rs, tu, pl, wl, 0, 0, 0, DK, DL, DV) r dz2 dt2 x3b x4b x5b RK2 RL2 RS2)
set_option maxHeartbeats 1500000 in
set_option maxRecDepth 100000 in
theorem c_X9_fault_g (l : Launch) (g : GG) (k0 : Nat) (m0 : Nat) (m7 : Nat) (m8 : Nat) (m9 : Nat) (s10 : Int32) (s11 : Int32) (s12 : Int32) (m13 : Nat) (m14 : Nat) (m15 : Nat) (s16 : Int32) (m17 : Nat) (m18 : Nat) (m19 : Nat) (m20 : Nat) (m21 : Nat) (m22 : Nat) (m23 : Nat) (m24 : Nat) (m25 : Nat) (m26 : Nat) (m27 : Nat) (m28 : Nat) (s29 : Int32) (m30 : Nat) (s31 : Int32) (s32 : Int32) (s33 : Int32) (s34 : Int32) (s35 : Int32) (m36 : Nat) (m37 : Nat) (m38 : Nat) (m39 : Nat) (s40 : Int64) (a : Nat) (x2 : Int32) (x3 : Int32) (x4 : Int32) (x5 : Int32) (x6 : Int32) (Pg : Nat → Int32) (RK : Nat → Int32) (RL : Nat → Int32) (RS : Nat → Int32) (du : Nat) (rs : Nat) (tu : Nat) (pl : Nat) (wl : Nat) (hw : Nat) (DK : Nat → Int32) (DL : Nat → Int32) (DV : Nat → Int32) (dz : Nat) (dt : Nat) (ha : a ≤ 110) (hpg : pgr a Pg) (hRI : RI (du, rs, tu, pl, wl, hw, dz, dt, DK, DL, DV)) (hRK : ∀ k, k < 5 → RK k = DK k) (hRS : ∀ i, i < 80 → RS i = DV i) (sz : Nat) : MetI l yX9_fault wsX9_fault ({ frames := 5, cells := 0, slots := 0, locals := 103 }) g [.ref k0] [(k0, .inr (9, [.ref m0, .int (nI a), .int x2, .int x3, .int x4, .int x5, .int x6, .ref m7, .ref m8, .ref m9, .int s10, .int s11, .int s12, .ref m13, .ref m14, .ref m15, .int s16, .ref m17, .ref m18, .ref m19, .ref m20, .ref m21, .ref m22, .ref m23, .ref m24, .ref m25, .ref m26, .ref m27, .ref m28, .int s29, .ref m30, .int s31, .int s32, .int s33, .int s34, .int s35, .ref m36, .ref m37, .ref m38, .ref m39, .long s40])), (m0, ai g 110 Pg), (m7, ai g 5 RK), (m8, ai g 5 RL), (m9, ai g 80 RS)] sz (po_X9_fault_g g k0 m0 m7 m8 m9 s10 s11 s12 m13 m14 m15 s16 m17 m18 m19 m20 m21 m22 m23 m24 m25 m26 m27 m28 s29 m30 s31 s32 s33 s34 s35 m36 m37 m38 m39 s40 a x2 x3 x4 x5 x6 Pg RK RL RS du rs tu pl wl hw DK DL DV dz dt) 0 0 := by
  refine k_of (l := l) (y := yX9_fault) (ws := wsX9_fault) (rm := { frames := 5, cells := 0, slots := 0, locals := 103 }) (mc := 0) (ms := 0) (av := [.ref k0]) (g := g) (wc := [(k0, .inr (9, [.ref m0, .int (nI a), .int x2, .int x3, .int x4, .int x5, .int x6, .ref m7, .ref m8, .ref m9, .int s10, .int s11, .int s12, .ref m13, .ref m14, .ref m15, .int s16, .ref m17, .ref m18, .ref m19, .ref m20, .ref m21, .ref m22, .ref m23, .ref m24, .ref m25, .ref m26, .ref m27, .ref m28, .int s29, .ref m30, .int s31, .int s32, .int s33, .int s34, .int s35, .ref m36, .ref m37, .ref m38, .ref m39, .long s40])), (m0, ai g 110 Pg), (m7, ai g 5 RK), (m8, ai g 5 RL), (m9, ai g 80 RS)]) (Qc := fun A => va_Qi (po_X9_fault_g g k0 m0 m7 m8 m9 s10 s11 s12 m13 m14 m15 s16 m17 m18 m19 m20 m21 m22 m23 m24 m25 m26 m27 m28 s29 m30 s31 s32 s33 s34 s35 m36 m37 m38 m39 s40 a x2 x3 x4 x5 x6 Pg RK RL RS du rs tu pl wl hw DK DL DV dz dt) (bk g A) A) (cc := cX9_fault) (maxL := 1) (ret := (some .int)) (by decide) rfl (Nat.le_of_ble_eq_true rfl) ?_ sz
  intro p e s m below meth c hx hb hr hts hown hlocks hnm hml A hA hE hZ hP hD hS ls hl
  have hown : s.vm.findClass RX9 = some m.cls := hown
  have hl : lv_has ls 1 [(0, .ref k0)] := hl
  refine lv_aload_n hx hb dX9_fault_0 rfl (lv_at hl 0 rfl) ?_
  refine k_ci (wr := []) hP hD hS hA [0, 1, 2, 3, 4] [] rfl rfl (by decide) (by decide) (va_runV (As := []) (rest := []) ⟨hx, hb, hml, hown, hts⟩ (c_X9_faultOf_g l g k0 m0 m7 m8 m9 s10 s11 s12 m13 m14 m15 s16 m17 m18 m19 m20 m21 m22 m23 m24 m25 m26 m27 m28 s29 m30 s31 s32 s33 s34 s35 m36 m37 m38 m39 s40 a x2 x3 x4 x5 x6 Pg RK RL RS du rs tu pl wl hw DK DL DV dz dt (by first | assumption | omega) (by first | assumption | omega) (by first | assumption | omega) (by first | assumption | omega) (by first | assumption | omega) s.heap.size) (cwV 0 hts gX9_fault_X9_faultOf rfl rfl rfl (by decide +kernel) ⟨Nat.le_of_ble_eq_true rfl, Nat.le_of_ble_eq_true rfl⟩) (k_preV hE hZ hP hD hS hA [0, 1, 2, 3, 4] rfl (by decide) (va_recv hE.1 hP (ci := 9) (q0 := 0) rfl rfl)) rfl rfl hl.1 rfl (lv_room (Nat.le_of_ble_eq_true rfl)) dX9_fault_1 ⟨Nat.le_of_ble_eq_true rfl, Nat.le_of_ble_eq_true rfl⟩) (fun r_1 w1 H locs hw hP hD hS => ?_)
  obtain ⟨dz2_2, dt2_3, x3b_4, x4b_5, x5b_6, RK2_7, RL2_8, RS2_9, rfl, hfl_10⟩ := hw
  have hP : va_P g.1 vwCl [(k0, .inr (9, [.ref m0, .int (nI a), .int (nI dz2_2), .int x3b_4, .int x4b_5, .int x5b_6, .int (nI dt2_3), .ref m7, .ref m8, .ref m9, .int s10, .int s11, .int s12, .ref m13, .ref m14, .ref m15, .int s16, .ref m17, .ref m18, .ref m19, .ref m20, .ref m21, .ref m22, .ref m23, .ref m24, .ref m25, .ref m26, .ref m27, .ref m28, .int s29, .ref m30, .int s31, .int s32, .int s33, .int s34, .int s35, .ref m36, .ref m37, .ref m38, .ref m39, .long s40])), (m0, ai g 110 Pg), (m7, ai g 5 RK2_7), (m8, ai g 5 RL2_8), (m9, ai g 80 RS2_9)] H := hP
  have hD : va_D A [(k0, .inr (9, [.ref m0, .int (nI a), .int (nI dz2_2), .int x3b_4, .int x4b_5, .int x5b_6, .int (nI dt2_3), .ref m7, .ref m8, .ref m9, .int s10, .int s11, .int s12, .ref m13, .ref m14, .ref m15, .int s16, .ref m17, .ref m18, .ref m19, .ref m20, .ref m21, .ref m22, .ref m23, .ref m24, .ref m25, .ref m26, .ref m27, .ref m28, .int s29, .ref m30, .int s31, .int s32, .int s33, .int s34, .int s35, .ref m36, .ref m37, .ref m38, .ref m39, .long s40])), (m0, ai g 110 Pg), (m7, ai g 5 RK2_7), (m8, ai g 5 RL2_8), (m9, ai g 80 RS2_9)] := hD
  refine W.widen (k := 0) (n := 0) (Nat.le_of_ble_eq_true rfl) (Nat.le_of_ble_eq_true rfl) ?_
  exact k_ri hx hb hr hlocks hS hP hD ⟨dz2_2, dt2_3, x3b_4, x4b_5, x5b_6, RK2_7, RL2_8, RS2_9, rfl, hfl_10⟩ dX9_fault_4
def po_X9_isMute_g (g : GG) (k0 : Nat) (m0 : Nat) (s1 : Int32) (s4 : Int32) (s5 : Int32) (s6 : Int32) (m7 : Nat) (m8 : Nat) (m9 : Nat) (s10 : Int32) (s11 : Int32) (s12 : Int32) (m13 : Nat) (m14 : Nat) (m15 : Nat) (s16 : Int32) (m17 : Nat) (m18 : Nat) (m19 : Nat) (m20 : Nat) (m21 : Nat) (m22 : Nat) (m23 : Nat) (m24 : Nat) (m25 : Nat) (m26 : Nat) (m27 : Nat) (m28 : Nat) (s29 : Int32) (m30 : Nat) (s31 : Int32) (s32 : Int32) (s33 : Int32) (s34 : Int32) (s35 : Int32) (m36 : Nat) (m37 : Nat) (m38 : Nat) (m39 : Nat) (s40 : Int64) (y : Nat) (wd : Nat) (RL : Nat → Int32) (RS : Nat → Int32) : Int32 → va_W → Prop := fun (r : Int32) w => w = [(k0, .inr (9, [.ref m0, .int s1, .int (nI y), .int (nI wd), .int s4, .int s5, .int s6, .ref m7, .ref m8, .ref m9, .int s10, .int s11, .int s12, .ref m13, .ref m14, .ref m15, .int s16, .ref m17, .ref m18, .ref m19, .ref m20, .ref m21, .ref m22, .ref m23, .ref m24, .ref m25, .ref m26, .ref m27, .ref m28, .int s29, .ref m30, .int s31, .int s32, .int s33, .int s34, .int s35, .ref m36, .ref m37, .ref m38, .ref m39, .long s40])), (m8, ai g 5 RL), (m9, ai g 80 RS)] ∧ (mtt RL RS wd y 0 r)
theorem q_X9_isMute_g_f9 : ∀ w ∈ u_ws RX9 TX9 41, w ∈ wsX9_isMute := by decide +kernel
theorem q_X9_isMute_g_1 : (Cond.fieldLink RX9 115 "SoundLawsModel" "readSets" "I") ∈ wsX9_isMute := by decide +kernel
theorem q_X9_isMute_g_2 : (Cond.fieldLink RX9 98 "SoundLawsModel" "readWords" "I") ∈ wsX9_isMute := by decide +kernel
theorem q_X9_isMute_g_3 : (Cond.fieldLink RX9 16 "SoundLawsModel" "readLongs" "[I") ∈ wsX9_isMute := by decide +kernel
theorem q_X9_isMute_g_4 : (Cond.fieldLink RX9 19 "SoundLawsModel" "readSounds" "[I") ∈ wsX9_isMute := by decide +kernel
set_option maxHeartbeats 1500000 in
set_option maxRecDepth 100000 in
theorem c_X9_isMute_g (l : Launch) (g : GG) (k0 : Nat) (m0 : Nat) (s1 : Int32) (s4 : Int32) (s5 : Int32) (s6 : Int32) (m7 : Nat) (m8 : Nat) (m9 : Nat) (s10 : Int32) (s11 : Int32) (s12 : Int32) (m13 : Nat) (m14 : Nat) (m15 : Nat) (s16 : Int32) (m17 : Nat) (m18 : Nat) (m19 : Nat) (m20 : Nat) (m21 : Nat) (m22 : Nat) (m23 : Nat) (m24 : Nat) (m25 : Nat) (m26 : Nat) (m27 : Nat) (m28 : Nat) (s29 : Int32) (m30 : Nat) (s31 : Int32) (s32 : Int32) (s33 : Int32) (s34 : Int32) (s35 : Int32) (m36 : Nat) (m37 : Nat) (m38 : Nat) (m39 : Nat) (s40 : Int64) (y : Nat) (wd : Nat) (RL : Nat → Int32) (RS : Nat → Int32) (hy : y ≤ 5) (hw : wd ≤ 4) (hRL : ∀ k, k < y → ∃ l, l ≤ 4 ∧ RL k = nI l) (sz : Nat) : MetI l yX9_isMute wsX9_isMute ({ frames := 0, cells := 0, slots := 0, locals := 0 }) g [.ref k0] [(k0, .inr (9, [.ref m0, .int s1, .int (nI y), .int (nI wd), .int s4, .int s5, .int s6, .ref m7, .ref m8, .ref m9, .int s10, .int s11, .int s12, .ref m13, .ref m14, .ref m15, .int s16, .ref m17, .ref m18, .ref m19, .ref m20, .ref m21, .ref m22, .ref m23, .ref m24, .ref m25, .ref m26, .ref m27, .ref m28, .int s29, .ref m30, .int s31, .int s32, .int s33, .int s34, .int s35, .ref m36, .ref m37, .ref m38, .ref m39, .long s40])), (m8, ai g 5 RL), (m9, ai g 80 RS)] sz (po_X9_isMute_g g k0 m0 s1 s4 s5 s6 m7 m8 m9 s10 s11 s12 m13 m14 m15 s16 m17 m18 m19 m20 m21 m22 m23 m24 m25 m26 m27 m28 s29 m30 s31 s32 s33 s34 s35 m36 m37 m38 m39 s40 y wd RL RS) 0 0 := by
  refine k_of (l := l) (y := yX9_isMute) (ws := wsX9_isMute) (rm := { frames := 0, cells := 0, slots := 0, locals := 0 }) (mc := 0) (ms := 0) (av := [.ref k0]) (g := g) (wc := [(k0, .inr (9, [.ref m0, .int s1, .int (nI y), .int (nI wd), .int s4, .int s5, .int s6, .ref m7, .ref m8, .ref m9, .int s10, .int s11, .int s12, .ref m13, .ref m14, .ref m15, .int s16, .ref m17, .ref m18, .ref m19, .ref m20, .ref m21, .ref m22, .ref m23, .ref m24, .ref m25, .ref m26, .ref m27, .ref m28, .int s29, .ref m30, .int s31, .int s32, .int s33, .int s34, .int s35, .ref m36, .ref m37, .ref m38, .ref m39, .long s40])), (m8, ai g 5 RL), (m9, ai g 80 RS)]) (Qc := fun A => va_Qi (po_X9_isMute_g g k0 m0 s1 s4 s5 s6 m7 m8 m9 s10 s11 s12 m13 m14 m15 s16 m17 m18 m19 m20 m21 m22 m23 m24 m25 m26 m27 m28 s29 m30 s31 s32 s33 s34 s35 m36 m37 m38 m39 s40 y wd RL RS) (bk g A) A) (cc := cX9_isMute) (maxL := 6) (ret := (some .boolean)) (by decide) rfl (Nat.le_of_ble_eq_true rfl) ?_ sz
  intro p e s m below meth c hx hb hr hts hown hlocks hnm hml A hA hE hZ hP hD hS ls hl
  have hown : s.vm.findClass RX9 = some m.cls := hown
  have hl : lv_has ls 6 [(0, .ref k0)] := hl
  refine lv_iconst (v := 0) hx hb dX9_isMute_0 (by decide) ?_
  refine lv_istore_n (lv' := [(1, .int 0), (0, .ref k0)]) hx hb dX9_isMute_1 rfl hl (by decide) rfl (fun ls hl => ?_)
  refine lv_iconst (v := 0) hx hb dX9_isMute_2 (by decide) ?_
  refine lv_istore_n (lv' := [(2, .int 0), (1, .int 0), (0, .ref k0)]) hx hb dX9_isMute_3 rfl hl (by decide) rfl (fun ls hl => ?_)
  have loop4 : ∀ (fu : Nat) (a : Nat) (b1 : Int32), (ha : a ≤ y) → (hm : mtt RL RS wd a 0 b1) → y - a < fu → ∀ (H : Heap) (locs : List Loc) (ls : Array Slot), va_P g.1 vwCl [(k0, .inr (9, [.ref m0, .int s1, .int (nI y), .int (nI wd), .int s4, .int s5, .int s6, .ref m7, .ref m8, .ref m9, .int s10, .int s11, .int s12, .ref m13, .ref m14, .ref m15, .int s16, .ref m17, .ref m18, .ref m19, .ref m20, .ref m21, .ref m22, .ref m23, .ref m24, .ref m25, .ref m26, .ref m27, .ref m28, .int s29, .ref m30, .int s31, .int s32, .int s33, .int s34, .int s35, .ref m36, .ref m37, .ref m38, .ref m39, .long s40])), (m8, ai g 5 RL), (m9, ai g 80 RS)] H → va_D A [(k0, .inr (9, [.ref m0, .int s1, .int (nI y), .int (nI wd), .int s4, .int s5, .int s6, .ref m7, .ref m8, .ref m9, .int s10, .int s11, .int s12, .ref m13, .ref m14, .ref m15, .int s16, .ref m17, .ref m18, .ref m19, .ref m20, .ref m21, .ref m22, .ref m23, .ref m24, .ref m25, .ref m26, .ref m27, .ref m28, .int s29, .ref m30, .int s31, .int s32, .int s33, .int s34, .int s35, .ref m36, .ref m37, .ref m38, .ref m39, .long s40])), (m8, ai g 5 RL), (m9, ai g 80 RS)] → va_S A s.heap H locs → lv_has ls 6 [(0, .ref k0), (1, .int b1), (2, .int (nI a))] → W p l e ({ frames := 0, cells := 0, slots := 0, locals := 0 }) s m [.ref k0].toArray below meth c H locs 0 0 (MQ below (va_Qi (po_X9_isMute_g g k0 m0 s1 s4 s5 s6 m7 m8 m9 s10 s11 s12 m13 m14 m15 s16 m17 m18 m19 m20 m21 m22 m23 m24 m25 m26 m27 m28 s29 m30 s31 s32 s33 s34 s35 m36 m37 m38 m39 s40 y wd RL RS) (bk g A) A) [.ref k0].toArray s 0 0 A) (F0 m 4 ls []) := by
    intro fu
    induction fu with
    | zero => intro a b1 ha hm hfu; exact absurd hfu (Nat.not_lt_zero _)
    | succ fu ih =>
      intro a b1 ha hm hfu H locs ls hP hD hS hl
      have ih4 := ih
      refine lv_iload_n hx hb dX9_isMute_4 rfl (lv_at hl 2 rfl) ?_
      refine lv_aload_n hx hb dX9_isMute_5 rfl (lv_at hl 0 rfl) ?_
      refine va_get (D := g.1) (ci := 9) (v := .int (nI y)) (C := RX9) (T := TX9) (N := 41) hx hb hts q_X9_isMute_g_f9 hown hE.1 hP 0 rfl rfl 2 (by decide) (hts (.fieldLink RX9 115 "SoundLawsModel" "readSets" "I") q_X9_isMute_g_1) (fun _ h9 => h9) rfl dX9_isMute_6 ?_
      refine lv_icmp_ge (tgt := 103) hx hb dX9_isMute_9 (by decide) (fun c9_1 => ?_) (fun c9_1 => ?_)
      · skip
        have ha9 := ge_of_le (k := y) (n := a) (by omega) (by omega) c9_1; obtain rfl : a = y := by omega
        refine lv_iload_n hx hb dX9_isMute_103 rfl (lv_at hl 1 rfl) ?_
        refine W.widen (k := 0) (n := 0) (Nat.le_of_ble_eq_true rfl) (Nat.le_of_ble_eq_true rfl) ?_
        exact k_rz hx hb hr hlocks hS hP hD (mut_nar hm) ⟨rfl, hm⟩ dX9_isMute_104
      · skip
        have ha9 := lt_of_nle (k := y) (n := a) (by omega) (by omega) c9_1
        obtain ⟨ll, hl5, el⟩ := hRL a ha9
        refine lv_iconst (v := 0) hx hb dX9_isMute_12 (by decide) ?_
        refine lv_istore_n (lv' := [(3, .int 0), (0, .ref k0), (1, .int b1), (2, .int (nI a))]) hx hb dX9_isMute_13 rfl hl (by decide) rfl (fun ls hl => ?_)
        have loop14 : ∀ (fu : Nat) (t : Nat) (b1 : Int32), (ht : t ≤ wd) → (hm : mtt RL RS wd a t b1) → wd - t < fu → ∀ (H : Heap) (locs : List Loc) (ls : Array Slot), va_P g.1 vwCl [(k0, .inr (9, [.ref m0, .int s1, .int (nI y), .int (nI wd), .int s4, .int s5, .int s6, .ref m7, .ref m8, .ref m9, .int s10, .int s11, .int s12, .ref m13, .ref m14, .ref m15, .int s16, .ref m17, .ref m18, .ref m19, .ref m20, .ref m21, .ref m22, .ref m23, .ref m24, .ref m25, .ref m26, .ref m27, .ref m28, .int s29, .ref m30, .int s31, .int s32, .int s33, .int s34, .int s35, .ref m36, .ref m37, .ref m38, .ref m39, .long s40])), (m8, ai g 5 RL), (m9, ai g 80 RS)] H → va_D A [(k0, .inr (9, [.ref m0, .int s1, .int (nI y), .int (nI wd), .int s4, .int s5, .int s6, .ref m7, .ref m8, .ref m9, .int s10, .int s11, .int s12, .ref m13, .ref m14, .ref m15, .int s16, .ref m17, .ref m18, .ref m19, .ref m20, .ref m21, .ref m22, .ref m23, .ref m24, .ref m25, .ref m26, .ref m27, .ref m28, .int s29, .ref m30, .int s31, .int s32, .int s33, .int s34, .int s35, .ref m36, .ref m37, .ref m38, .ref m39, .long s40])), (m8, ai g 5 RL), (m9, ai g 80 RS)] → va_S A s.heap H locs → lv_has ls 6 [(0, .ref k0), (1, .int b1), (2, .int (nI a)), (3, .int (nI t))] → W p l e ({ frames := 0, cells := 0, slots := 0, locals := 0 }) s m [.ref k0].toArray below meth c H locs 0 0 (MQ below (va_Qi (po_X9_isMute_g g k0 m0 s1 s4 s5 s6 m7 m8 m9 s10 s11 s12 m13 m14 m15 s16 m17 m18 m19 m20 m21 m22 m23 m24 m25 m26 m27 m28 s29 m30 s31 s32 s33 s34 s35 m36 m37 m38 m39 s40 y wd RL RS) (bk g A) A) [.ref k0].toArray s 0 0 A) (F0 m 14 ls []) := by
          intro fu
          induction fu with
          | zero => intro t b1 ht hm hfu; exact absurd hfu (Nat.not_lt_zero _)
          | succ fu ih =>
            intro t b1 ht hm hfu H locs ls hP hD hS hl
            have ih14 := ih
            refine lv_iload_n hx hb dX9_isMute_14 rfl (lv_at hl 3 rfl) ?_
            refine lv_aload_n hx hb dX9_isMute_15 rfl (lv_at hl 0 rfl) ?_
            refine va_get (D := g.1) (ci := 9) (v := .int (nI wd)) (C := RX9) (T := TX9) (N := 41) hx hb hts q_X9_isMute_g_f9 hown hE.1 hP 0 rfl rfl 3 (by decide) (hts (.fieldLink RX9 98 "SoundLawsModel" "readWords" "I") q_X9_isMute_g_2) (fun _ h9 => h9) rfl dX9_isMute_16 ?_
            refine lv_icmp_ge (tgt := 97) hx hb dX9_isMute_19 (by decide) (fun c19_2 => ?_) (fun c19_2 => ?_)
            · skip
              have ht9 := ge_of_le (k := wd) (n := t) (by omega) (by omega) c19_2; obtain rfl : t = wd := by omega
              refine lv_iinc (v := (nI (a + 1))) (lv' := [(2, .int (nI (a + 1))), (0, .ref k0), (1, .int b1), (3, .int (nI t))]) hx hb dX9_isMute_97 hl (k := 2) rfl (nI_1 _) (by decide) rfl (fun ls hl => ?_)
              refine lv_goto (tgt := 4) hx hb dX9_isMute_100 (by decide) ?_
              exact ih4 (a + 1) _ (by omega) (mut_k hm) (by omega) _ _ _ hP hD hS (lv_sub hl [1, 2, 0] rfl)
            · skip
              have ht9 := lt_of_nle (k := wd) (n := t) (by omega) (by omega) c19_2
              refine lv_iconst (v := 1) hx hb dX9_isMute_22 (by decide) ?_
              refine lv_istore (lv' := [(4, .int 1), (0, .ref k0), (1, .int b1), (2, .int (nI a)), (3, .int (nI t))]) hx hb dX9_isMute_23 hl (by decide) rfl (fun ls hl => ?_)
              refine lv_iconst (v := 0) hx hb dX9_isMute_25 (by decide) ?_
              refine lv_istore (lv' := [(5, .int 0), (4, .int 1), (0, .ref k0), (1, .int b1), (2, .int (nI a)), (3, .int (nI t))]) hx hb dX9_isMute_26 hl (by decide) rfl (fun ls hl => ?_)
              have loop28 : ∀ (fu : Nat) (q : Nat) (b4 : Int32), (hq : q ≤ ll) → (hz : nzw RS (16 * a + 4 * t) q b4) → ll - q < fu → ∀ (H : Heap) (locs : List Loc) (ls : Array Slot), va_P g.1 vwCl [(k0, .inr (9, [.ref m0, .int s1, .int (nI y), .int (nI wd), .int s4, .int s5, .int s6, .ref m7, .ref m8, .ref m9, .int s10, .int s11, .int s12, .ref m13, .ref m14, .ref m15, .int s16, .ref m17, .ref m18, .ref m19, .ref m20, .ref m21, .ref m22, .ref m23, .ref m24, .ref m25, .ref m26, .ref m27, .ref m28, .int s29, .ref m30, .int s31, .int s32, .int s33, .int s34, .int s35, .ref m36, .ref m37, .ref m38, .ref m39, .long s40])), (m8, ai g 5 RL), (m9, ai g 80 RS)] H → va_D A [(k0, .inr (9, [.ref m0, .int s1, .int (nI y), .int (nI wd), .int s4, .int s5, .int s6, .ref m7, .ref m8, .ref m9, .int s10, .int s11, .int s12, .ref m13, .ref m14, .ref m15, .int s16, .ref m17, .ref m18, .ref m19, .ref m20, .ref m21, .ref m22, .ref m23, .ref m24, .ref m25, .ref m26, .ref m27, .ref m28, .int s29, .ref m30, .int s31, .int s32, .int s33, .int s34, .int s35, .ref m36, .ref m37, .ref m38, .ref m39, .long s40])), (m8, ai g 5 RL), (m9, ai g 80 RS)] → va_S A s.heap H locs → lv_has ls 6 [(0, .ref k0), (1, .int b1), (2, .int (nI a)), (3, .int (nI t)), (4, .int b4), (5, .int (nI q))] → W p l e ({ frames := 0, cells := 0, slots := 0, locals := 0 }) s m [.ref k0].toArray below meth c H locs 0 0 (MQ below (va_Qi (po_X9_isMute_g g k0 m0 s1 s4 s5 s6 m7 m8 m9 s10 s11 s12 m13 m14 m15 s16 m17 m18 m19 m20 m21 m22 m23 m24 m25 m26 m27 m28 s29 m30 s31 s32 s33 s34 s35 m36 m37 m38 m39 s40 y wd RL RS) (bk g A) A) [.ref k0].toArray s 0 0 A) (F0 m 28 ls []) := by
                intro fu
                induction fu with
                | zero => intro q b4 hq hz hfu; exact absurd hfu (Nat.not_lt_zero _)
                | succ fu ih =>
                  intro q b4 hq hz hfu H locs ls hP hD hS hl
                  have ih28 := ih
                  refine lv_iload hx hb dX9_isMute_28 (lv_at hl 5 rfl) ?_
                  refine lv_aload_n hx hb dX9_isMute_30 rfl (lv_at hl 0 rfl) ?_
                  refine va_get (D := g.1) (ci := 9) (v := .ref m8) (C := RX9) (T := TX9) (N := 41) hx hb hts q_X9_isMute_g_f9 hown hE.1 hP 0 rfl rfl 8 (by decide) (hts (.fieldLink RX9 16 "SoundLawsModel" "readLongs" "[I") q_X9_isMute_g_3) (fun _ h9 => h9) rfl dX9_isMute_31 ?_
                  refine lv_iload_n hx hb dX9_isMute_34 rfl (lv_at hl 2 rfl) ?_
                  refine k_ald a rfl (by omega) hx hb hE hP 1 rfl (by decide) dX9_isMute_35 ?_
                  refine lv_topi (fun x_3 ex_3 => ?_)
                  obtain rfl : x_3 = nI ll := by rw [ex_3]; exact el
                  refine lv_icmp_ge (tgt := 76) hx hb dX9_isMute_36 (by decide) (fun c36_4 => ?_) (fun c36_4 => ?_)
                  · skip
                    have hq9 := ge_of_le (k := ll) (n := q) (by omega) (by omega) c36_4; obtain rfl : q = ll := by omega
                    refine lv_iload_n hx hb dX9_isMute_76 rfl (lv_at hl 1 rfl) ?_
                    refine lv_if_ne (tgt := 85) hx hb dX9_isMute_77 (by decide) (fun c77_5 => ?_) (fun c77_5 => ?_)
                    · skip
                      refine lv_iconst (v := 1) hx hb dX9_isMute_85 (by decide) ?_
                      refine lv_goto (tgt := 90) hx hb dX9_isMute_86 (by decide) ?_
                      refine lv_istore_n (lv' := [(1, .int 1), (0, .ref k0), (2, .int (nI a)), (3, .int (nI t)), (4, .int b4), (5, .int (nI q))]) hx hb dX9_isMute_90 rfl hl (by decide) rfl (fun ls hl => ?_)
                      refine lv_iinc (v := (nI (t + 1))) (lv' := [(3, .int (nI (t + 1))), (1, .int 1), (0, .ref k0), (2, .int (nI a)), (4, .int b4), (5, .int (nI q))]) hx hb dX9_isMute_91 hl (k := 3) rfl (nI_1 _) (by decide) rfl (fun ls hl => ?_)
                      refine lv_goto (tgt := 14) hx hb dX9_isMute_94 (by decide) ?_
                      exact ih14 (t + 1) _ (by omega) (mut_a (l := 0) hm c77_5) (by omega) _ _ _ hP hD hS (lv_sub hl [2, 1, 3, 0] rfl)
                    · skip
                      refine lv_iload hx hb dX9_isMute_80 (lv_at hl 4 rfl) ?_
                      refine lv_if_eq (tgt := 89) hx hb dX9_isMute_82 (by decide) (fun c82_6 => ?_) (fun c82_6 => ?_)
                      · skip
                        refine lv_iconst (v := 0) hx hb dX9_isMute_89 (by decide) ?_
                        refine lv_istore_n (lv' := [(1, .int 0), (0, .ref k0), (2, .int (nI a)), (3, .int (nI t)), (4, .int b4), (5, .int (nI q))]) hx hb dX9_isMute_90 rfl hl (by decide) rfl (fun ls hl => ?_)
                        refine lv_iinc (v := (nI (t + 1))) (lv' := [(3, .int (nI (t + 1))), (1, .int 0), (0, .ref k0), (2, .int (nI a)), (4, .int b4), (5, .int (nI q))]) hx hb dX9_isMute_91 hl (k := 3) rfl (nI_1 _) (by decide) rfl (fun ls hl => ?_)
                        refine lv_goto (tgt := 14) hx hb dX9_isMute_94 (by decide) ?_
                        exact ih14 (t + 1) _ (by omega) (mut_b hm c77_5 hl5 el hz c82_6) (by omega) _ _ _ hP hD hS (lv_sub hl [2, 1, 3, 0] rfl)
                      · skip
                        refine lv_iconst (v := 1) hx hb dX9_isMute_85 (by decide) ?_
                        refine lv_goto (tgt := 90) hx hb dX9_isMute_86 (by decide) ?_
                        refine lv_istore_n (lv' := [(1, .int 1), (0, .ref k0), (2, .int (nI a)), (3, .int (nI t)), (4, .int b4), (5, .int (nI q))]) hx hb dX9_isMute_90 rfl hl (by decide) rfl (fun ls hl => ?_)
                        refine lv_iinc (v := (nI (t + 1))) (lv' := [(3, .int (nI (t + 1))), (1, .int 1), (0, .ref k0), (2, .int (nI a)), (4, .int b4), (5, .int (nI q))]) hx hb dX9_isMute_91 hl (k := 3) rfl (nI_1 _) (by decide) rfl (fun ls hl => ?_)
                        refine lv_goto (tgt := 14) hx hb dX9_isMute_94 (by decide) ?_
                        exact ih14 (t + 1) _ (by omega) (mut_c hl5 el hz c82_6) (by omega) _ _ _ hP hD hS (lv_sub hl [2, 1, 3, 0] rfl)
                  · skip
                    have hq9 := lt_of_nle (k := ll) (n := q) (by omega) (by omega) c36_4
                    refine lv_iload hx hb dX9_isMute_39 (lv_at hl 4 rfl) ?_
                    refine lv_if_eq (tgt := 67) hx hb dX9_isMute_41 (by decide) (fun c41_7 => ?_) (fun c41_7 => ?_)
                    · skip
                      refine lv_iconst (v := 0) hx hb dX9_isMute_67 (by decide) ?_
                      refine lv_istore (lv' := [(4, .int 0), (0, .ref k0), (1, .int b1), (2, .int (nI a)), (3, .int (nI t)), (5, .int (nI q))]) hx hb dX9_isMute_68 hl (by decide) rfl (fun ls hl => ?_)
                      refine lv_iinc (v := (nI (q + 1))) (lv' := [(5, .int (nI (q + 1))), (4, .int 0), (0, .ref k0), (1, .int b1), (2, .int (nI a)), (3, .int (nI t))]) hx hb dX9_isMute_70 hl (k := 5) rfl (nI_1 _) (by decide) rfl (fun ls hl => ?_)
                      refine lv_goto (tgt := 28) hx hb dX9_isMute_73 (by decide) ?_
                      exact ih28 (q + 1) _ (by omega) (nzw_a hz c41_7) (by omega) _ _ _ hP hD hS (lv_sub hl [2, 3, 4, 5, 1, 0] rfl)
                    · skip
                      refine lv_aload_n hx hb dX9_isMute_44 rfl (lv_at hl 0 rfl) ?_
                      refine va_get (D := g.1) (ci := 9) (v := .ref m9) (C := RX9) (T := TX9) (N := 41) hx hb hts q_X9_isMute_g_f9 hown hE.1 hP 0 rfl rfl 9 (by decide) (hts (.fieldLink RX9 19 "SoundLawsModel" "readSounds" "[I") q_X9_isMute_g_4) (fun _ h9 => h9) rfl dX9_isMute_45 ?_
                      refine lv_bipush (v := 16) hx hb dX9_isMute_48 (by decide) ?_
                      refine lv_iload_n hx hb dX9_isMute_50 rfl (lv_at hl 2 rfl) ?_
                      refine lv_imul hx hb dX9_isMute_51 ?_
                      refine lv_iconst (v := 4) hx hb dX9_isMute_52 (by decide) ?_
                      refine lv_iload_n hx hb dX9_isMute_53 rfl (lv_at hl 3 rfl) ?_
                      refine lv_imul hx hb dX9_isMute_54 ?_
                      refine lv_iadd hx hb dX9_isMute_55 ?_
                      refine lv_iload hx hb dX9_isMute_56 (lv_at hl 5 rfl) ?_
                      refine lv_iadd hx hb dX9_isMute_58 ?_
                      refine k_ald (16 * a + 4 * t + q) (by rw [show (16 : Int32) = nI 16 from rfl, show (4 : Int32) = nI 4 from rfl, pk_mul, pk_mul, nI_add, nI_add]) (by omega) hx hb hE hP 2 rfl (by decide) dX9_isMute_59 ?_
                      refine lv_if_ne (tgt := 67) hx hb dX9_isMute_60 (by decide) (fun c60_8 => ?_) (fun c60_8 => ?_)
                      · skip
                        refine lv_iconst (v := 0) hx hb dX9_isMute_67 (by decide) ?_
                        refine lv_istore (lv' := [(4, .int 0), (0, .ref k0), (1, .int b1), (2, .int (nI a)), (3, .int (nI t)), (5, .int (nI q))]) hx hb dX9_isMute_68 hl (by decide) rfl (fun ls hl => ?_)
                        refine lv_iinc (v := (nI (q + 1))) (lv' := [(5, .int (nI (q + 1))), (4, .int 0), (0, .ref k0), (1, .int b1), (2, .int (nI a)), (3, .int (nI t))]) hx hb dX9_isMute_70 hl (k := 5) rfl (nI_1 _) (by decide) rfl (fun ls hl => ?_)
                        refine lv_goto (tgt := 28) hx hb dX9_isMute_73 (by decide) ?_
                        exact ih28 (q + 1) _ (by omega) (nzw_c c60_8) (by omega) _ _ _ hP hD hS (lv_sub hl [2, 3, 4, 5, 1, 0] rfl)
                      · skip
                        refine lv_iconst (v := 1) hx hb dX9_isMute_63 (by decide) ?_
                        refine lv_goto (tgt := 68) hx hb dX9_isMute_64 (by decide) ?_
                        refine lv_istore (lv' := [(4, .int 1), (0, .ref k0), (1, .int b1), (2, .int (nI a)), (3, .int (nI t)), (5, .int (nI q))]) hx hb dX9_isMute_68 hl (by decide) rfl (fun ls hl => ?_)
                        refine lv_iinc (v := (nI (q + 1))) (lv' := [(5, .int (nI (q + 1))), (4, .int 1), (0, .ref k0), (1, .int b1), (2, .int (nI a)), (3, .int (nI t))]) hx hb dX9_isMute_70 hl (k := 5) rfl (nI_1 _) (by decide) rfl (fun ls hl => ?_)
                        refine lv_goto (tgt := 28) hx hb dX9_isMute_73 (by decide) ?_
                        exact ih28 (q + 1) _ (by omega) (nzw_b hz c41_7 c60_8) (by omega) _ _ _ hP hD hS (lv_sub hl [2, 3, 4, 5, 1, 0] rfl)
              exact loop28 _ 0 1 (Nat.zero_le ll) nzw_0 (Nat.lt_succ_self _) _ _ _ hP hD hS (lv_sub hl [2, 3, 4, 5, 1, 0] rfl)
        exact loop14 _ 0 _ (Nat.zero_le wd) hm (Nat.lt_succ_self _) _ _ _ hP hD hS (lv_sub hl [1, 2, 3, 0] rfl)
  exact loop4 _ 0 0 (Nat.zero_le y) mut_0 (Nat.lt_succ_self _) _ _ _ hP hD hS (lv_sub hl [2, 1, 0] rfl)

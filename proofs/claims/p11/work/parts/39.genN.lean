/-! what is rebuilt of two to four sounds -/
def LBt (t : Nat) (a : Nat → Nat) (S : Nat → Nat → Int32) (nd ab : Nat) : Int32 := if nd < t then cs ab (a nd) else mn (fun s => cs ab s + S nd s) 8
def c1 (t nd : Nat) : Nat := pr (fp t + 2 * (nd - t))
def c2 (t nd : Nat) : Nat := pr (fp t + 2 * (nd - t) + 1)
theorem ch_1 : ∀ t, t < 5 → ∀ nd, nd < 7 → 2 ≤ t → t ≤ nd → nd < 2 * t - 1 → c1 t nd < nd := by decide
theorem ch_2 : ∀ t, t < 5 → ∀ nd, nd < 7 → 2 ≤ t → t ≤ nd → nd < 2 * t - 1 → c2 t nd < nd := by decide
theorem ch_3 : ∀ t, t < 5 → ∀ nd, nd < 7 → 2 ≤ t → t ≤ nd → nd < 2 * t - 2 → c1 t nd < t := by decide
theorem ch_4 : ∀ t, t < 5 → ∀ nd, nd < 7 → 2 ≤ t → t ≤ nd → nd < 2 * t - 2 → c2 t nd < t := by decide
theorem ch_ok (t : Nat) (h5 : t < 5) (nd : Nat) (h7 : nd < 7) (h2 : 2 ≤ t) (h : t ≤ nd) (h1 : nd < 2 * t - 1) : c1 t nd < nd ∧ c2 t nd < nd ∧ (¬ nd = 2 * t - 2 → c1 t nd < t ∧ c2 t nd < t) := ⟨ch_1 t h5 nd h7 h2 h h1, ch_2 t h5 nd h7 h2 h h1, fun q => ⟨ch_3 t h5 nd h7 h2 h (by omega), ch_4 t h5 nd h7 h2 h (by omega)⟩⟩
def SPf (t : Nat) (a : Nat → Nat) : Nat → Nat → Nat → Int32
  | 0 => fun _ _ => 0
  | f + 1 => fun nd s => LBt t a (SPf t a f) (c1 t nd) s + LBt t a (SPf t a f) (c2 t nd) s
def SP (t : Nat) (a : Nat → Nat) (nd s : Nat) : Int32 := SPf t a 2 nd s
theorem LB_leaf {t nd ab : Nat} {a : Nat → Nat} {S : Nat → Nat → Int32} (h : nd < t) : LBt t a S nd ab = cs ab (a nd) := if_pos h
theorem LB_node {t nd ab : Nat} {a : Nat → Nat} {S : Nat → Nat → Int32} (h : ¬ nd < t) : LBt t a S nd ab = mn (fun s => cs ab s + S nd s) 8 := if_neg h
theorem LB_congr {t nd ab : Nat} {a : Nat → Nat} {S T : Nat → Nat → Int32} (h : ¬ nd < t → ∀ s, s < 9 → S nd s = T nd s) : LBt t a S nd ab = LBt t a T nd ab := by
  by_cases q : nd < t
  · rw [LB_leaf q, LB_leaf q]
  · rw [LB_node q, LB_node q]
    exact mn_congr 8 (fun s hs => by rw [h q s (by omega)])
theorem SP_low {t nd s : Nat} {a : Nat → Nat} (h1 : c1 t nd < t) (h2 : c2 t nd < t) (f : Nat) : SPf t a (f + 1) nd s = cs s (a (c1 t nd)) + cs s (a (c2 t nd)) := by
  show LBt t a (SPf t a f) (c1 t nd) s + LBt t a (SPf t a f) (c2 t nd) s = _
  rw [LB_leaf h1, LB_leaf h2]
theorem SP_eq {t nd s : Nat} {a : Nat → Nat} (ht : 2 ≤ t) (ht4 : t ≤ 4) (h1 : t ≤ nd) (h2 : nd < 2 * t - 1) : SP t a nd s = LBt t a (SP t a) (c1 t nd) s + LBt t a (SP t a) (c2 t nd) s := by
  obtain ⟨a1, a2, a3⟩ := ch_ok t (by omega) nd (by omega) ht h1 h2
  have key : ∀ c, c < nd → LBt t a (SPf t a 1) c s = LBt t a (SP t a) c s := fun c hc => LB_congr (fun q r _ => by
    obtain ⟨b1, b2, b3⟩ := ch_ok t (by omega) c (by omega) ht (by omega) (by omega)
    obtain ⟨d1, d2⟩ := b3 (by omega)
    show SPf t a 1 c r = SPf t a 2 c r
    rw [SP_low d1 d2, SP_low d1 d2])
  show LBt t a (SPf t a 1) (c1 t nd) s + LBt t a (SPf t a 1) (c2 t nd) s = _
  rw [key _ a1, key _ a2]
def OR (t : Nat) (a : Nat → Nat) : Nat := am (SP t a (2 * t - 2)) 8
def OS (t : Nat) (a : Nat → Nat) (nd : Nat) : Nat := if nd < t then a nd else if nd = 2 * t - 2 then OR t a else am (fun s => cs (OR t a) s + SP t a nd s) 8
theorem OS_leaf {t nd : Nat} {a : Nat → Nat} (h : nd < t) : OS t a nd = a nd := if_pos h
theorem OS_root {t : Nat} {a : Nat → Nat} (ht : 2 ≤ t) : OS t a (2 * t - 2) = OR t a := by
  unfold OS
  rw [if_neg (by omega), if_pos rfl]
theorem OS_node {t nd : Nat} {a : Nat → Nat} (h : ¬ nd < t) (h2 : ¬ nd = 2 * t - 2) : OS t a nd = am (fun s => cs (OR t a) s + SP t a nd s) 8 := by
  unfold OS
  rw [if_neg h, if_neg h2]
theorem OR_lt {t : Nat} {a : Nat → Nat} : OR t a < 9 := Nat.lt_succ_of_le (am_le _ 8)
theorem am_congr {f h : Nat → Int32} : ∀ k, (∀ t, t ≤ k → f t = h t) → am f k = am h k
  | 0, _ => rfl
  | k + 1, hh => by
    have e := am_congr k (fun t ht => hh t (Nat.le_succ_of_le ht))
    have l := am_le h k
    simp only [am, e, hh (k + 1) (Nat.le_refl _), hh (am h k) (by omega)]
/-! bounds -/
def bd (n : Nat) (x : Int32) : Prop := ∃ v, v ≤ n ∧ x = nI v
theorem bd_cs {i j : Nat} (hi : i < 9) (hj : j < 9) : bd 3 (cs i j) := ⟨csN i j, (csN_cs i hi j hj).2, (csN_cs i hi j hj).1⟩
theorem bd_add {n m : Nat} {x y : Int32} (h1 : bd n x) (h2 : bd m y) : bd (n + m) (x + y) := by
  obtain ⟨v, hv, rfl⟩ := h1
  obtain ⟨w, hw, rfl⟩ := h2
  exact ⟨v + w, by omega, nI_add v w⟩
theorem bd_mn {n : Nat} {f : Nat → Int32} : ∀ k, (∀ s, s ≤ k → bd n (f s)) → bd n (mn f k)
  | 0, h => h 0 (Nat.le_refl 0)
  | k + 1, h => by
    by_cases q : f (k + 1) < mn f k
    · rw [mn_t q]; exact h (k + 1) (Nat.le_refl _)
    · rw [mn_f q]; exact bd_mn k (fun s hs => h s (by omega))
theorem bd_lt {n : Nat} {x : Int32} (hn : n < 9999) (h : bd n x) : x < 9999 := by
  obtain ⟨v, hv, rfl⟩ := h
  exact nI_lt (b := 9999) (by omega) (by decide)
theorem SP_bd {t : Nat} {a : Nat → Nat} (ha : ∀ u, u < t → a u < 9) (ht : 2 ≤ t) (ht4 : t ≤ 4) : ∀ nd s, t ≤ nd → nd < 2 * t - 1 → s < 9 → bd 18 (SP t a nd s) := by
  have low : ∀ nd s, t ≤ nd → nd < 2 * t - 2 → s < 9 → bd 6 (SP t a nd s) := fun nd s h1 h2 hs => by
    obtain ⟨b1, b2, b3⟩ := ch_ok t (by omega) nd (by omega) ht h1 (by omega)
    obtain ⟨d1, d2⟩ := b3 (by omega)
    show bd 6 (SPf t a 2 nd s)
    rw [SP_low d1 d2]
    exact bd_add (bd_cs hs (ha _ d1)) (bd_cs hs (ha _ d2))
  intro nd s h1 h2 hs
  obtain ⟨b1, b2, b3⟩ := ch_ok t (by omega) nd (by omega) ht h1 h2
  rw [SP_eq ht ht4 h1 h2]
  have one : ∀ c, c < nd → bd 9 (LBt t a (SP t a) c s) := fun c hc => by
    by_cases q : c < t
    · rw [LB_leaf q]
      obtain ⟨v, hv, e⟩ := bd_cs hs (ha c q)
      exact ⟨v, by omega, e⟩
    · rw [LB_node q]
      exact bd_mn 8 (fun r hr => bd_add (n := 3) (m := 6) (bd_cs hs (by omega)) (low c r (by omega) (by omega) (by omega)))
  exact bd_add (one _ b1) (one _ b2)
theorem sp_u {t nd sd : Nat} {a : Nat → Nat} {v : Nat → Int32} {x : Int32} (h : ∀ m, t ≤ m → m < nd → ∀ s, s < 9 → v (9 * m + s) = SP t a m s) : ∀ m, t ≤ m → m < nd → ∀ s, s < 9 → upd v (9 * nd + sd) x (9 * m + s) = SP t a m s := fun m h1 h2 s hs => by
  rw [pk_un (by omega)]; exact h m h1 h2 s hs
theorem sp_s {t nd sd : Nat} {a : Nat → Nat} {v : Nat → Int32} {x : Int32} (h : ∀ s, s < sd → v (9 * nd + s) = SP t a nd s) (hx : x = SP t a nd sd) : ∀ s, s < sd + 1 → upd v (9 * nd + sd) x (9 * nd + s) = SP t a nd s := fun s hs => by
  by_cases e : s = sd
  · rw [e, pk_us]; exact hx
  · rw [pk_un (by omega)]; exact h s (by omega)
theorem sp_k {t nd : Nat} {a : Nat → Nat} {v : Nat → Int32} (h : ∀ m, t ≤ m → m < nd → ∀ s, s < 9 → v (9 * m + s) = SP t a m s) (h2 : ∀ s, s < 9 → v (9 * nd + s) = SP t a nd s) : ∀ m, t ≤ m → m < nd + 1 → ∀ s, s < 9 → v (9 * m + s) = SP t a m s := fun m a1 a2 s hs => by
  by_cases e : m = nd
  · rw [e]; exact h2 s hs
  · exact h m a1 (by omega) s hs
/-! going down -/
theorem OS_lt {t nd : Nat} {a : Nat → Nat} (ha : ∀ u, u < t → a u < 9) : OS t a nd < 9 := by
  unfold OS
  split
  · rename_i h; exact ha nd h
  · split
    · exact OR_lt
    · exact Nat.lt_succ_of_le (am_le _ 8)
def DSt (t : Nat) (a : Nat → Nat) (nd : Nat) (v : Nat → Int32) : Prop := (nd = 2 * t - 2 ∧ (∀ u, u < t → v u = nI (a u)) ∧ v (2 * t - 2) = nI (OR t a)) ∨ (nd < 2 * t - 2 ∧ ∀ m, m < 2 * t - 1 → v m = nI (OS t a m))
theorem ch_in0 : ∀ t, t < 5 → ∀ m, m < 7 → (2 ≤ t ∧ t ≤ m ∧ m < 2 * t - 2) → (m = c1 t (2 * t - 2) ∨ m = c2 t (2 * t - 2)) := by decide
theorem ch_in (t : Nat) (h5 : t < 5) (m : Nat) (h7 : m < 7) (h2 : 2 ≤ t) (h3 : t ≤ m) (h4 : m < 2 * t - 2) : m = c1 t (2 * t - 2) ∨ m = c2 t (2 * t - 2) := ch_in0 t h5 m h7 ⟨h2, h3, h4⟩
theorem ch_ne : ∀ t, t < 5 → 2 ≤ t → ¬ c1 t (2 * t - 2) = c2 t (2 * t - 2) := by decide
section DS
variable {t nd : Nat} {a : Nat → Nat} {v v2 v3 : Nat → Int32}
theorem DS_at (ht : 2 ≤ t) (hn : nd < 2 * t - 1) (h : DSt t a nd v) : v nd = nI (OS t a nd) := by
  rcases h with ⟨e, -, h⟩ | ⟨-, h⟩
  · rw [e, h, OS_root ht]
  · exact h nd hn
theorem DS_at2 (ht : 2 ≤ t) (ht4 : t ≤ 4) (h1 : t ≤ nd) (hn : nd < 2 * t - 1) (h : DSt t a nd v) {x : Int32} (e2 : v2 = if c1 t nd < t then v else upd v (c1 t nd) x) : v2 nd = nI (OS t a nd) := by
  have hc := (ch_ok t (by omega) nd (by omega) ht h1 hn).1
  rw [e2]
  split
  · exact DS_at ht hn h
  · rw [pk_un (by omega)]; exact DS_at ht hn h
theorem DS_s (ht : 2 ≤ t) (ht4 : t ≤ 4) (h1 : t ≤ nd) (hn : nd < 2 * t - 1) (h : DSt t a nd v) (e2 : v2 = if c1 t nd < t then v else upd v (c1 t nd) (nI (am (fun s => cs (OS t a nd) s + SP t a (c1 t nd) s) 8))) (e3 : v3 = if c2 t nd < t then v2 else upd v2 (c2 t nd) (nI (am (fun s => cs (OS t a nd) s + SP t a (c2 t nd) s) 8))) : DSt t a (nd - 1) v3 := by
  obtain ⟨b1, b2, b3⟩ := ch_ok t (by omega) nd (by omega) ht h1 hn
  rcases h with ⟨e, hl, hr⟩ | ⟨e, h⟩
  · subst e
    refine Or.inr ⟨by omega, fun m hm => ?_⟩
    rw [OS_root ht] at e2 e3
    by_cases q1 : m < t
    · rw [OS_leaf q1, ← hl m q1, e3, e2]
      by_cases d1 : c1 t (2 * t - 2) < t
      · rw [if_pos d1]
        by_cases d2 : c2 t (2 * t - 2) < t
        · rw [if_pos d2]
        · rw [if_neg d2, pk_un (by omega)]
      · rw [if_neg d1]
        by_cases d2 : c2 t (2 * t - 2) < t
        · rw [if_pos d2, pk_un (by omega)]
        · rw [if_neg d2, pk_un (by omega), pk_un (by omega)]
    · by_cases q2 : m = 2 * t - 2
      · rw [q2, OS_root ht, ← hr, e3, e2]
        by_cases d1 : c1 t (2 * t - 2) < t
        · rw [if_pos d1]
          by_cases d2 : c2 t (2 * t - 2) < t
          · rw [if_pos d2]
          · rw [if_neg d2, pk_un (by omega)]
        · rw [if_neg d1]
          by_cases d2 : c2 t (2 * t - 2) < t
          · rw [if_pos d2, pk_un (by omega)]
          · rw [if_neg d2, pk_un (by omega), pk_un (by omega)]
      · rw [OS_node q1 q2]
        rcases ch_in t (by omega) m (by omega) ht (by omega) (by omega) with w | w
        · have nc : ¬ m = c2 t (2 * t - 2) := fun z => ch_ne t (by omega) ht (w.symm.trans z)
          have k2 : v2 m = nI (am (fun s => cs (OR t a) s + SP t a m s) 8) := by
            rw [e2, if_neg (by omega), ← w, pk_us]
          rw [e3]
          by_cases d2 : c2 t (2 * t - 2) < t
          · rw [if_pos d2]; exact k2
          · rw [if_neg d2, pk_un nc]; exact k2
        · rw [e3, if_neg (by omega), ← w, pk_us]
  · obtain ⟨d1, d2⟩ := b3 (by omega)
    rw [e3, if_pos d2, e2, if_pos d1]
    exact Or.inr ⟨by omega, h⟩
end DS
def po_X7_leastBelow_f (g : GG) (h0 : Nat) (t1 : Nat) (t2 : Nat) (t : Nat) (f : Nat → Int32) (fl : Nat → Int32) (a : Nat → Nat) (S : Nat → Nat → Int32) (nd : Nat) (sd : Nat) : Int32 → va_W → Prop := fun (r : Int32) w => w = [(h0, .inr (7, [.int (nI t), .ref t1, .ref t2])), (t1, ai g 7 f), (t2, ai g 63 fl)] ∧ (LBt t a S nd sd = r)
theorem q_X7_leastBelow_f_f7 : ∀ w ∈ u_ws RX7 TX7 3, w ∈ wsX7_leastBelow := by decide +kernel
theorem q_X7_leastBelow_f_1 : (Cond.fieldLink RX7 18 "SoundLaws$Tree" "tongues" "I") ∈ wsX7_leastBelow := by decide +kernel
theorem q_X7_leastBelow_f_2 : (Cond.fieldLink RX7 15 "SoundLaws$Tree" "least" "[I") ∈ wsX7_leastBelow := by decide +kernel
theorem q_X7_leastBelow_f_3 : (Cond.fieldLink RX7 9 "SoundLaws$Tree" "sounds" "[I") ∈ wsX7_leastBelow := by decide +kernel
set_option maxHeartbeats 1500000 in
set_option maxRecDepth 100000 in
theorem c_X7_leastBelow_f (l : Launch) (g : GG) (h0 : Nat) (t1 : Nat) (t2 : Nat) (t : Nat) (f : Nat → Int32) (fl : Nat → Int32) (a : Nat → Nat) (S : Nat → Nat → Int32) (nd : Nat) (sd : Nat) (ht4 : t ≤ 4) (hnd : nd < 7) (hsd : sd < 9) (hfa : ∀ u, u < t → f u = nI (a u)) (ha9 : ∀ u, u < t → a u < 9) (hSn : ¬ nd < t → ∀ s, s < 9 → fl (9 * nd + s) = S nd s) (sz : Nat) : MetI l yX7_leastBelow wsX7_leastBelow ({ frames := 0, cells := 0, slots := 0, locals := 0 }) g [.ref h0, .int (nI nd), .int (nI sd)] [(h0, .inr (7, [.int (nI t), .ref t1, .ref t2])), (t1, ai g 7 f), (t2, ai g 63 fl)] sz (po_X7_leastBelow_f g h0 t1 t2 t f fl a S nd sd) 0 0 := by
  refine k_of (l := l) (y := yX7_leastBelow) (ws := wsX7_leastBelow) (rm := { frames := 0, cells := 0, slots := 0, locals := 0 }) (mc := 0) (ms := 0) (av := [.ref h0, .int (nI nd), .int (nI sd)]) (g := g) (wc := [(h0, .inr (7, [.int (nI t), .ref t1, .ref t2])), (t1, ai g 7 f), (t2, ai g 63 fl)]) (Qc := fun A => va_Qi (po_X7_leastBelow_f g h0 t1 t2 t f fl a S nd sd) (bk g A) A) (cc := cX7_leastBelow) (maxL := 8) (ret := (some .int)) (by decide) rfl (Nat.le_of_ble_eq_true rfl) ?_ sz
  intro p e s m below meth c hx hb hr hts hown hlocks hnm hml A hA hE hZ hP hD hS ls hl
  have hown : s.vm.findClass RX7 = some m.cls := hown
  have hl : lv_has ls 8 [(0, .ref h0), (1, .int (nI nd)), (2, .int (nI sd))] := hl
  refine lv_iload_n hx hb dX7_leastBelow_0 rfl (lv_at hl 2 rfl) ?_
  refine lv_bipush (v := 9) hx hb dX7_leastBelow_1 (by decide) ?_
  refine lv_imul hx hb dX7_leastBelow_3 ?_
  refine lv_topi (fun x3 ex3 => ?_)
  refine lv_istore_n (lv' := [(3, .int x3), (0, .ref h0), (1, .int (nI nd)), (2, .int (nI sd))]) hx hb dX7_leastBelow_4 rfl hl (by decide) rfl (fun ls hl => ?_)
  refine lv_iload_n hx hb dX7_leastBelow_5 rfl (lv_at hl 2 rfl) ?_
  refine lv_aload_n hx hb dX7_leastBelow_6 rfl (lv_at hl 1 rfl) ?_
  refine va_get (D := g.1) (ci := 7) (v := .int (nI t)) (C := RX7) (T := TX7) (N := 3) hx hb hts q_X7_leastBelow_f_f7 hown hE.1 hP 0 rfl rfl 0 (by decide) (hts (.fieldLink RX7 18 "SoundLaws$Tree" "tongues" "I") q_X7_leastBelow_f_1) (fun _ h9 => h9) rfl dX7_leastBelow_7 ?_
  refine lv_icmp_ge (tgt := 26) hx hb dX7_leastBelow_10 (by decide) (fun c10_1 => ?_) (fun c10_1 => ?_)
  · skip
    have hge := ge_of_le (k := t) (n := nd) (by omega) (by omega) c10_1
    have hS9 := hSn (Nat.not_lt.mpr hge)
    refine lv_iload_n hx hb dX7_leastBelow_26 rfl (lv_at hl 2 rfl) ?_
    refine lv_bipush (v := 9) hx hb dX7_leastBelow_27 (by decide) ?_
    refine lv_imul hx hb dX7_leastBelow_29 ?_
    refine lv_topi (fun x4 ex4 => ?_)
    refine lv_istore (lv' := [(4, .int x4), (3, .int x3), (0, .ref h0), (1, .int (nI nd)), (2, .int (nI sd))]) hx hb dX7_leastBelow_30 hl (by decide) rfl (fun ls hl => ?_)
    refine va_getsN hx hb hZ.zCOSTS hS hown (va_Nw.use rfl (hE.nw (w := .fieldLinkNest RX7 47 "SoundLaws" "COSTS" "[I" RX8) 16 rfl)) (fun _ h9 => h9) dX7_leastBelow_32 ?_
    refine lv_iload_n hx hb dX7_leastBelow_35 rfl (lv_at hl 1 rfl) ?_
    refine k_tld (9 * sd + 0) (by rw [ex3, show (9 : Int32) = nI 9 from rfl, pk_mul, Nat.mul_comm]; rfl) (by omega) hx hb hZ.tCOSTS hS (by decide) (v := tb_COSTS.getD (9 * sd + 0) 0) rfl dX7_leastBelow_36 ?_
    refine lv_aload_n hx hb dX7_leastBelow_37 rfl (lv_at hl 2 rfl) ?_
    refine va_get (D := g.1) (ci := 7) (v := .ref t2) (C := RX7) (T := TX7) (N := 3) hx hb hts q_X7_leastBelow_f_f7 hown hE.1 hP 0 rfl rfl 2 (by decide) (hts (.fieldLink RX7 15 "SoundLaws$Tree" "least" "[I") q_X7_leastBelow_f_2) (fun _ h9 => h9) rfl dX7_leastBelow_38 ?_
    refine lv_iload hx hb dX7_leastBelow_41 (lv_at hl 0 rfl) ?_
    refine k_ald (9 * nd + 0) (by rw [ex4, show (9 : Int32) = nI 9 from rfl, pk_mul, Nat.mul_comm]; rfl) (by omega) hx hb hE hP 2 rfl (by decide) dX7_leastBelow_43 ?_
    refine lv_iadd hx hb dX7_leastBelow_44 ?_
    refine lv_topi (fun x5i ex5i => ?_)
    refine lv_istore (lv' := [(5, .int x5i), (4, .int x4), (3, .int x3), (0, .ref h0), (1, .int (nI nd)), (2, .int (nI sd))]) hx hb dX7_leastBelow_45 hl (by decide) rfl (fun ls hl => ?_)
    refine lv_iconst (v := 1) hx hb dX7_leastBelow_47 (by decide) ?_
    refine lv_istore (lv' := [(6, .int 1), (5, .int x5i), (4, .int x4), (3, .int x3), (0, .ref h0), (1, .int (nI nd)), (2, .int (nI sd))]) hx hb dX7_leastBelow_48 hl (by decide) rfl (fun ls hl => ?_)
    have loop50 : ∀ (fu : Nat) (j : Nat) (x5 : Int32), (hj : j ≤ 8) → (e5 : x5 = mn (fun s => cs sd s + S nd s) j) → 9 - j < fu → ∀ (H : Heap) (locs : List Loc) (ls : Array Slot), va_P g.1 vwCl [(h0, .inr (7, [.int (nI t), .ref t1, .ref t2])), (t1, ai g 7 f), (t2, ai g 63 fl)] H → va_D A [(h0, .inr (7, [.int (nI t), .ref t1, .ref t2])), (t1, ai g 7 f), (t2, ai g 63 fl)] → va_S A s.heap H locs → lv_has ls 8 [(0, .ref h0), (1, .int (nI nd)), (2, .int (nI sd)), (3, .int x3), (4, .int x4), (5, .int x5), (6, .int (nI (j + 1)))] → W p l e ({ frames := 0, cells := 0, slots := 0, locals := 0 }) s m [.ref h0, .int (nI nd), .int (nI sd)].toArray below meth c H locs 0 0 (MQ below (va_Qi (po_X7_leastBelow_f g h0 t1 t2 t f fl a S nd sd) (bk g A) A) [.ref h0, .int (nI nd), .int (nI sd)].toArray s 0 0 A) (F0 m 50 ls []) := by
      intro fu
      induction fu with
      | zero => intro j x5 hj e5 hfu; exact absurd hfu (Nat.not_lt_zero _)
      | succ fu ih =>
        intro j x5 hj e5 hfu H locs ls hP hD hS hl
        have ih50 := ih
        refine lv_iload hx hb dX7_leastBelow_50 (lv_at hl 6 rfl) ?_
        refine lv_bipush (v := 9) hx hb dX7_leastBelow_52 (by decide) ?_
        refine lv_icmp_ge (tgt := 95) hx hb dX7_leastBelow_54 (by decide) (fun c54_2 => ?_) (fun c54_2 => ?_)
        · skip
          have hj9 := ge_of_le (k := 9) (n := j + 1) (by decide) (by omega) c54_2
          refine lv_iload hx hb dX7_leastBelow_95 (lv_at hl 5 rfl) ?_
          refine W.widen (k := 0) (n := 0) (Nat.le_of_ble_eq_true rfl) (Nat.le_of_ble_eq_true rfl) ?_
          exact k_ri hx hb hr hlocks hS hP hD ⟨rfl, ((LB_node (Nat.not_lt.mpr hge)).trans (by rw [e5, show j = 8 by omega]))⟩ dX7_leastBelow_97
        · skip
          have hj8 := lt_of_nle (k := 9) (n := j + 1) (by decide) (by omega) c54_2
          refine va_getsN hx hb hZ.zCOSTS hS hown (va_Nw.use rfl (hE.nw (w := .fieldLinkNest RX7 47 "SoundLaws" "COSTS" "[I" RX8) 16 rfl)) (fun _ h9 => h9) dX7_leastBelow_57 ?_
          refine lv_iload_n hx hb dX7_leastBelow_60 rfl (lv_at hl 3 rfl) ?_
          refine lv_iload hx hb dX7_leastBelow_61 (lv_at hl 6 rfl) ?_
          refine lv_iadd hx hb dX7_leastBelow_63 ?_
          refine k_tld (9 * sd + (j + 1)) (by rw [ex3, show (9 : Int32) = nI 9 from rfl, pk_mul, nI_add, Nat.mul_comm]) (by omega) hx hb hZ.tCOSTS hS (by decide) (v := tb_COSTS.getD (9 * sd + (j + 1)) 0) rfl dX7_leastBelow_64 ?_
          refine lv_aload_n hx hb dX7_leastBelow_65 rfl (lv_at hl 0 rfl) ?_
          refine va_get (D := g.1) (ci := 7) (v := .ref t2) (C := RX7) (T := TX7) (N := 3) hx hb hts q_X7_leastBelow_f_f7 hown hE.1 hP 0 rfl rfl 2 (by decide) (hts (.fieldLink RX7 15 "SoundLaws$Tree" "least" "[I") q_X7_leastBelow_f_2) (fun _ h9 => h9) rfl dX7_leastBelow_66 ?_
          refine lv_iload hx hb dX7_leastBelow_69 (lv_at hl 4 rfl) ?_
          refine lv_iload hx hb dX7_leastBelow_71 (lv_at hl 6 rfl) ?_
          refine lv_iadd hx hb dX7_leastBelow_73 ?_
          refine k_ald (9 * nd + (j + 1)) (by rw [ex4, show (9 : Int32) = nI 9 from rfl, pk_mul, nI_add, Nat.mul_comm]) (by omega) hx hb hE hP 2 rfl (by decide) dX7_leastBelow_74 ?_
          refine lv_iadd hx hb dX7_leastBelow_75 ?_
          refine lv_topi (fun x7 ex7 => ?_)
          refine lv_istore (lv' := [(7, .int x7), (0, .ref h0), (1, .int (nI nd)), (2, .int (nI sd)), (3, .int x3), (4, .int x4), (5, .int x5), (6, .int (nI (j + 1)))]) hx hb dX7_leastBelow_76 hl (by decide) rfl (fun ls hl => ?_)
          have e7 : x7 = cs sd (j + 1) + S nd (j + 1) := by rw [ex7, hS9 (j + 1) hj8]; rfl
          refine lv_iload hx hb dX7_leastBelow_78 (lv_at hl 0 rfl) ?_
          refine lv_iload hx hb dX7_leastBelow_80 (lv_at hl 6 rfl) ?_
          refine lv_icmp_ge (tgt := 89) hx hb dX7_leastBelow_82 (by decide) (fun c82_3 => ?_) (fun c82_3 => ?_)
          · skip
            refine lv_iinc (v := (nI (j + 1 + 1))) (lv' := [(6, .int (nI (j + 1 + 1))), (7, .int x7), (0, .ref h0), (1, .int (nI nd)), (2, .int (nI sd)), (3, .int x3), (4, .int x4), (5, .int x5)]) hx hb dX7_leastBelow_89 hl (k := 7) rfl (nI_1 _) (by decide) rfl (fun ls hl => ?_)
            refine lv_goto (tgt := 50) hx hb dX7_leastBelow_92 (by decide) ?_
            exact ih50 (j + 1) x5 (by omega) (e5.trans (mn_f (f := (fun s => cs sd s + S nd s)) (by rw [← e5, ← e7]; exact i_nlt c82_3)).symm) (by omega) _ _ _ hP hD hS (lv_sub hl [2, 3, 4, 5, 6, 7, 0] rfl)
          · skip
            refine lv_iload hx hb dX7_leastBelow_85 (lv_at hl 0 rfl) ?_
            refine lv_istore (lv' := [(5, .int x7), (7, .int x7), (0, .ref h0), (1, .int (nI nd)), (2, .int (nI sd)), (3, .int x3), (4, .int x4), (6, .int (nI (j + 1)))]) hx hb dX7_leastBelow_87 hl (by decide) rfl (fun ls hl => ?_)
            refine lv_iinc (v := (nI (j + 1 + 1))) (lv' := [(6, .int (nI (j + 1 + 1))), (5, .int x7), (7, .int x7), (0, .ref h0), (1, .int (nI nd)), (2, .int (nI sd)), (3, .int x3), (4, .int x4)]) hx hb dX7_leastBelow_89 hl (k := 7) rfl (nI_1 _) (by decide) rfl (fun ls hl => ?_)
            refine lv_goto (tgt := 50) hx hb dX7_leastBelow_92 (by decide) ?_
            exact ih50 (j + 1) x7 (by omega) (e7.trans (mn_t (f := (fun s => cs sd s + S nd s)) (by rw [← e5, ← e7]; exact i_nle c82_3)).symm) (by omega) _ _ _ hP hD hS (lv_sub hl [3, 4, 5, 6, 7, 1, 0] rfl)
    exact loop50 _ 0 x5i (Nat.zero_le 8) (by rw [ex5i, hS9 0 (by decide)]; rfl) (Nat.lt_succ_self _) _ _ _ hP hD hS (lv_sub hl [4, 5, 6, 3, 2, 1, 0] rfl)
  · skip
    have hlt := lt_of_nle (k := t) (n := nd) (by omega) (by omega) c10_1
    refine va_getsN hx hb hZ.zCOSTS hS hown (va_Nw.use rfl (hE.nw (w := .fieldLinkNest RX7 47 "SoundLaws" "COSTS" "[I" RX8) 16 rfl)) (fun _ h9 => h9) dX7_leastBelow_13 ?_
    refine lv_iload_n hx hb dX7_leastBelow_16 rfl (lv_at hl 0 rfl) ?_
    refine lv_aload_n hx hb dX7_leastBelow_17 rfl (lv_at hl 1 rfl) ?_
    refine va_get (D := g.1) (ci := 7) (v := .ref t1) (C := RX7) (T := TX7) (N := 3) hx hb hts q_X7_leastBelow_f_f7 hown hE.1 hP 0 rfl rfl 1 (by decide) (hts (.fieldLink RX7 9 "SoundLaws$Tree" "sounds" "[I") q_X7_leastBelow_f_3) (fun _ h9 => h9) rfl dX7_leastBelow_18 ?_
    refine lv_iload_n hx hb dX7_leastBelow_21 rfl (lv_at hl 2 rfl) ?_
    refine k_ald nd rfl (by omega) hx hb hE hP 1 rfl (by decide) dX7_leastBelow_22 ?_
    refine lv_iadd hx hb dX7_leastBelow_23 ?_
    refine k_tld (9 * sd + a nd) (by rw [ex3, hfa nd hlt, show (9 : Int32) = nI 9 from rfl, pk_mul, nI_add, Nat.mul_comm]) (by have := ha9 nd hlt; omega) hx hb hZ.tCOSTS hS (by decide) (v := tb_COSTS.getD (9 * sd + a nd) 0) rfl dX7_leastBelow_24 ?_
    refine W.widen (k := 0) (n := 0) (Nat.le_of_ble_eq_true rfl) (Nat.le_of_ble_eq_true rfl) ?_
    exact k_ri hx hb hr hlocks hS hP hD ⟨rfl, (LB_leaf hlt)⟩ dX7_leastBelow_25
def po_X7_climb_f (g : GG) (h0 : Nat) (t1 : Nat) (t2 : Nat) (t : Nat) (f : Nat → Int32) (fl : Nat → Int32) (a : Nat → Nat) : Int32 → va_W → Prop := fun (r : Int32) w => ∃ (gl : Nat → Int32), w = [(h0, .inr (7, [.int (nI t), .ref t1, .ref t2])), (t1, ai g 7 (upd f (2 * t - 2) (nI (OR t a)))), (t2, ai g 63 gl)] ∧ (SP t a (2 * t - 2) (OR t a) = r) ∧ (∀ m, t ≤ m → m < 2 * t - 1 → ∀ s, s < 9 → gl (9 * m + s) = SP t a m s)
theorem q_X7_climb_f_f7 : ∀ w ∈ u_ws RX7 TX7 3, w ∈ wsX7_climb := by decide +kernel
theorem q_X7_climb_f_1 : (Cond.fieldLink RX7 18 "SoundLaws$Tree" "tongues" "I") ∈ wsX7_climb := by decide +kernel
theorem q_X7_climb_f_2 : (Cond.initialized RX8) ∈ wsX7_climb := by decide +kernel
theorem q_X7_climb_f_3 : (Cond.static yX8_nodesOf) ∈ wsX7_climb := by decide +kernel
theorem q_X7_climb_f_4 : (Cond.fieldLink RX7 9 "SoundLaws$Tree" "sounds" "[I") ∈ wsX7_climb := by decide +kernel
theorem q_X7_climb_f_5 : (Cond.fieldLink RX7 15 "SoundLaws$Tree" "least" "[I") ∈ wsX7_climb := by decide +kernel
set_option maxHeartbeats 1500000 in
set_option maxRecDepth 100000 in
theorem c_X7_climb_f (l : Launch) (g : GG) (h0 : Nat) (t1 : Nat) (t2 : Nat) (t : Nat) (f : Nat → Int32) (fl : Nat → Int32) (a : Nat → Nat) (ht : 2 ≤ t) (ht4 : t ≤ 4) (hfa : ∀ u, u < t → f u = nI (a u)) (ha9 : ∀ u, u < t → a u < 9) (sz : Nat) : MetI l yX7_climb wsX7_climb ({ frames := 1, cells := 0, slots := 0, locals := 27 }) g [.ref h0] [(h0, .inr (7, [.int (nI t), .ref t1, .ref t2])), (t1, ai g 7 f), (t2, ai g 63 fl)] sz (po_X7_climb_f g h0 t1 t2 t f fl a) 0 0 := by
  refine k_of (l := l) (y := yX7_climb) (ws := wsX7_climb) (rm := { frames := 1, cells := 0, slots := 0, locals := 27 }) (mc := 0) (ms := 0) (av := [.ref h0]) (g := g) (wc := [(h0, .inr (7, [.int (nI t), .ref t1, .ref t2])), (t1, ai g 7 f), (t2, ai g 63 fl)]) (Qc := fun A => va_Qi (po_X7_climb_f g h0 t1 t2 t f fl a) (bk g A) A) (cc := cX7_climb) (maxL := 5) (ret := (some .int)) (by decide) rfl (Nat.le_of_ble_eq_true rfl) ?_ sz
  intro p e s m below meth c hx hb hr hts hown hlocks hnm hml A hA hE hZ hP hD hS ls hl
  have hown : s.vm.findClass RX7 = some m.cls := hown
  have hl : lv_has ls 5 [(0, .ref h0)] := hl
  refine lv_aload_n hx hb dX7_climb_0 rfl (lv_at hl 0 rfl) ?_
  refine va_get (D := g.1) (ci := 7) (v := .int (nI t)) (C := RX7) (T := TX7) (N := 3) hx hb hts q_X7_climb_f_f7 hown hE.1 hP 0 rfl rfl 0 (by decide) (hts (.fieldLink RX7 18 "SoundLaws$Tree" "tongues" "I") q_X7_climb_f_1) (fun _ h9 => h9) rfl dX7_climb_1 ?_
  refine k_ci (wr := [(h0, .inr (7, [.int (nI t), .ref t1, .ref t2])), (t1, ai g 7 f), (t2, ai g 63 fl)]) hP hD hS hA [] [0, 1, 2] rfl rfl (by decide) (by decide) (va_runSN (As := [.int (nI t)]) (rest := []) ⟨hx, hb, hml, hown, hts⟩ (c_X8_nodesOf_g l g t (by first | assumption | omega) s.heap.size) ⟨va_cnB 1 hts gX7_climb_X8_nodesOf_n22 rfl rfl rfl (hE.nw 13 rfl) (hts (.initialized RX8) q_X7_climb_f_2) (by decide +kernel) ⟨Nat.le_of_ble_eq_true rfl, Nat.le_of_ble_eq_true rfl⟩, (hts (.static yX8_nodesOf) q_X7_climb_f_3), trivial⟩ (k_preS hE hZ hP hD hS hA [] rfl (by decide)) rfl rfl hl.1 rfl (lv_room (Nat.le_of_ble_eq_true rfl)) dX7_climb_4 ⟨Nat.le_of_ble_eq_true rfl, Nat.le_of_ble_eq_true rfl⟩) (fun r_1 w1 H locs hw hP hD hS => ?_)
  obtain ⟨rfl, rfl⟩ := hw
  have hP : va_P g.1 vwCl [(h0, .inr (7, [.int (nI t), .ref t1, .ref t2])), (t1, ai g 7 f), (t2, ai g 63 fl)] H := hP
  have hD : va_D A [(h0, .inr (7, [.int (nI t), .ref t1, .ref t2])), (t1, ai g 7 f), (t2, ai g 63 fl)] := hD
  have hno := nod_eq ht; have hno7 := nod_le ht4
  refine lv_istore_n (lv' := [(1, .int (nI (nod t))), (0, .ref h0)]) hx hb dX7_climb_7 rfl hl (by decide) rfl (fun ls hl => ?_)
  refine lv_aload_n hx hb dX7_climb_8 rfl (lv_at hl 1 rfl) ?_
  refine va_get (D := g.1) (ci := 7) (v := .int (nI t)) (C := RX7) (T := TX7) (N := 3) hx hb hts q_X7_climb_f_f7 hown hE.1 hP 0 rfl rfl 0 (by decide) (hts (.fieldLink RX7 18 "SoundLaws$Tree" "tongues" "I") q_X7_climb_f_1) (fun _ h9 => h9) rfl dX7_climb_9 ?_
  refine lv_istore_n (lv' := [(2, .int (nI t)), (1, .int (nI (nod t))), (0, .ref h0)]) hx hb dX7_climb_12 rfl hl (by decide) rfl (fun ls hl => ?_)
  have loop13 : ∀ (fu : Nat) (nd : Nat) (v1 : Nat → Int32), (hnt : t ≤ nd) → (hnn : nd ≤ nod t) → (hv1 : ∀ m, t ≤ m → m < nd → ∀ s, s < 9 → v1 (9 * m + s) = SP t a m s) → nod t - nd < fu → ∀ (H : Heap) (locs : List Loc) (ls : Array Slot), va_P g.1 vwCl [(h0, .inr (7, [.int (nI t), .ref t1, .ref t2])), (t1, ai g 7 f), (t2, ai g 63 v1)] H → va_D A [(h0, .inr (7, [.int (nI t), .ref t1, .ref t2])), (t1, ai g 7 f), (t2, ai g 63 v1)] → va_S A s.heap H locs → lv_has ls 5 [(0, .ref h0), (1, .int (nI (nod t))), (2, .int (nI nd))] → W p l e ({ frames := 1, cells := 0, slots := 0, locals := 27 }) s m [.ref h0].toArray below meth c H locs 0 0 (MQ below (va_Qi (po_X7_climb_f g h0 t1 t2 t f fl a) (bk g A) A) [.ref h0].toArray s 0 0 A) (F0 m 13 ls []) := by
    intro fu
    induction fu with
    | zero => intro nd v1 hnt hnn hv1 hfu; exact absurd hfu (Nat.not_lt_zero _)
    | succ fu ih =>
      intro nd v1 hnt hnn hv1 hfu H locs ls hP hD hS hl
      have ih13 := ih
      refine lv_iload_n hx hb dX7_climb_13 rfl (lv_at hl 2 rfl) ?_
      refine lv_iload_n hx hb dX7_climb_14 rfl (lv_at hl 1 rfl) ?_
      refine lv_icmp_ge (tgt := 83) hx hb dX7_climb_15 (by decide) (fun c15_3 => ?_) (fun c15_3 => ?_)
      · skip
        have hnd9 := ge_of_le (k := nod t) (n := nd) (by omega) (by omega) c15_3
        refine lv_iload_n hx hb dX7_climb_83 rfl (lv_at hl 1 rfl) ?_
        refine lv_iconst (v := 1) hx hb dX7_climb_84 (by decide) ?_
        refine lv_isub hx hb dX7_climb_85 ?_
        refine lv_topi (fun x_4 ex_4 => ?_)
        obtain rfl : x_4 = nI (nod t - 1) := by rw [ex_4]; rw [show (1 : Int32) = nI 1 from rfl, pk_sub (by omega)]
        refine lv_istore_n (lv' := [(2, .int (nI (nod t - 1))), (0, .ref h0), (1, .int (nI (nod t)))]) hx hb dX7_climb_86 rfl hl (by decide) rfl (fun ls hl => ?_)
        refine lv_iconst (v := 0) hx hb dX7_climb_87 (by decide) ?_
        refine lv_istore_n (lv' := [(3, .int 0), (2, .int (nI (nod t - 1))), (0, .ref h0), (1, .int (nI (nod t)))]) hx hb dX7_climb_88 rfl hl (by decide) rfl (fun ls hl => ?_)
        refine lv_iconst (v := 1) hx hb dX7_climb_89 (by decide) ?_
        refine lv_istore (lv' := [(4, .int 1), (3, .int 0), (2, .int (nI (nod t - 1))), (0, .ref h0), (1, .int (nI (nod t)))]) hx hb dX7_climb_90 hl (by decide) rfl (fun ls hl => ?_)
        have loop92 : ∀ (fu : Nat) (j : Nat), (hj : j ≤ 8) → 9 - j < fu → ∀ (H : Heap) (locs : List Loc) (ls : Array Slot), va_P g.1 vwCl [(h0, .inr (7, [.int (nI t), .ref t1, .ref t2])), (t1, ai g 7 f), (t2, ai g 63 v1)] H → va_D A [(h0, .inr (7, [.int (nI t), .ref t1, .ref t2])), (t1, ai g 7 f), (t2, ai g 63 v1)] → va_S A s.heap H locs → lv_has ls 5 [(0, .ref h0), (1, .int (nI (nod t))), (2, .int (nI (nod t - 1))), (3, .int (nI (am (SP t a (nod t - 1)) j))), (4, .int (nI (j + 1)))] → W p l e ({ frames := 1, cells := 0, slots := 0, locals := 27 }) s m [.ref h0].toArray below meth c H locs 0 0 (MQ below (va_Qi (po_X7_climb_f g h0 t1 t2 t f fl a) (bk g A) A) [.ref h0].toArray s 0 0 A) (F0 m 92 ls []) := by
          intro fu
          induction fu with
          | zero => intro j hj hfu; exact absurd hfu (Nat.not_lt_zero _)
          | succ fu ih =>
            intro j hj hfu H locs ls hP hD hS hl
            have ih92 := ih
            refine lv_iload hx hb dX7_climb_92 (lv_at hl 4 rfl) ?_
            refine lv_bipush (v := 9) hx hb dX7_climb_94 (by decide) ?_
            refine lv_icmp_ge (tgt := 134) hx hb dX7_climb_96 (by decide) (fun c96_5 => ?_) (fun c96_5 => ?_)
            · skip
              have hj9 := ge_of_le (k := 9) (n := j + 1) (by decide) (by omega) c96_5
              obtain rfl : j = 8 := by omega
              have hrt : nod t - 1 = 2 * t - 2 := by omega
              have hl : lv_has ls 5 [(0, .ref h0), (1, .int (nI (nod t))), (2, .int (nI (2 * t - 2))), (3, .int (nI (OR t a))), (4, .int (nI (8 + 1)))] := by have h9 := hl; rw [hrt] at h9; exact h9
              have h8 : OR t a < 9 := OR_lt
              refine lv_aload_n hx hb dX7_climb_134 rfl (lv_at hl 0 rfl) ?_
              refine va_get (D := g.1) (ci := 7) (v := .ref t1) (C := RX7) (T := TX7) (N := 3) hx hb hts q_X7_climb_f_f7 hown hE.1 hP 0 rfl rfl 1 (by decide) (hts (.fieldLink RX7 9 "SoundLaws$Tree" "sounds" "[I") q_X7_climb_f_4) (fun _ h9 => h9) rfl dX7_climb_135 ?_
              refine lv_iload_n hx hb dX7_climb_138 rfl (lv_at hl 2 rfl) ?_
              refine lv_iload_n hx hb dX7_climb_139 rfl (lv_at hl 3 rfl) ?_
              refine k_ast (x := (nI (OR t a))) (2 * t - 2) rfl (by omega) hx hb hE hP hD hS 1 rfl (by decide) dX7_climb_140 (fun H locs hP hD hS => ?_)
              have hP : va_P g.1 vwCl [(h0, .inr (7, [.int (nI t), .ref t1, .ref t2])), (t1, ai g 7 (upd f (2 * t - 2) (nI (OR t a)))), (t2, ai g 63 v1)] H := hP
              have hD : va_D A [(h0, .inr (7, [.int (nI t), .ref t1, .ref t2])), (t1, ai g 7 (upd f (2 * t - 2) (nI (OR t a)))), (t2, ai g 63 v1)] := hD
              refine lv_aload_n hx hb dX7_climb_141 rfl (lv_at hl 0 rfl) ?_
              refine va_get (D := g.1) (ci := 7) (v := .ref t2) (C := RX7) (T := TX7) (N := 3) hx hb hts q_X7_climb_f_f7 hown hE.1 hP 0 rfl rfl 2 (by decide) (hts (.fieldLink RX7 15 "SoundLaws$Tree" "least" "[I") q_X7_climb_f_5) (fun _ h9 => h9) rfl dX7_climb_142 ?_
              refine lv_iload_n hx hb dX7_climb_145 rfl (lv_at hl 2 rfl) ?_
              refine lv_bipush (v := 9) hx hb dX7_climb_146 (by decide) ?_
              refine lv_imul hx hb dX7_climb_148 ?_
              refine lv_iload_n hx hb dX7_climb_149 rfl (lv_at hl 3 rfl) ?_
              refine lv_iadd hx hb dX7_climb_150 ?_
              refine k_ald (9 * (2 * t - 2) + (OR t a)) (by rw [show (9 : Int32) = nI 9 from rfl, pk_mul, nI_add, Nat.mul_comm]) (by omega) hx hb hE hP 2 rfl (by decide) dX7_climb_151 ?_
              refine W.widen (k := 0) (n := 0) (Nat.le_of_ble_eq_true rfl) (Nat.le_of_ble_eq_true rfl) ?_
              exact k_ri hx hb hr hlocks hS hP hD ⟨v1, rfl, (hv1 (2 * t - 2) (by omega) (by omega) (OR t a) h8).symm, (fun m h1 h2 => hv1 m h1 (by omega))⟩ dX7_climb_152
            · skip
              have hj8 := lt_of_nle (k := 9) (n := j + 1) (by decide) (by omega) c96_5
              refine lv_aload_n hx hb dX7_climb_99 rfl (lv_at hl 0 rfl) ?_
              refine va_get (D := g.1) (ci := 7) (v := .ref t2) (C := RX7) (T := TX7) (N := 3) hx hb hts q_X7_climb_f_f7 hown hE.1 hP 0 rfl rfl 2 (by decide) (hts (.fieldLink RX7 15 "SoundLaws$Tree" "least" "[I") q_X7_climb_f_5) (fun _ h9 => h9) rfl dX7_climb_100 ?_
              refine lv_iload_n hx hb dX7_climb_103 rfl (lv_at hl 2 rfl) ?_
              refine lv_bipush (v := 9) hx hb dX7_climb_104 (by decide) ?_
              refine lv_imul hx hb dX7_climb_106 ?_
              refine lv_iload hx hb dX7_climb_107 (lv_at hl 4 rfl) ?_
              refine lv_iadd hx hb dX7_climb_109 ?_
              refine k_ald (9 * (nod t - 1) + (j + 1)) (by rw [show (9 : Int32) = nI 9 from rfl, pk_mul, nI_add, Nat.mul_comm]) (by omega) hx hb hE hP 2 rfl (by decide) dX7_climb_110 ?_
              refine lv_aload_n hx hb dX7_climb_111 rfl (lv_at hl 0 rfl) ?_
              refine va_get (D := g.1) (ci := 7) (v := .ref t2) (C := RX7) (T := TX7) (N := 3) hx hb hts q_X7_climb_f_f7 hown hE.1 hP 0 rfl rfl 2 (by decide) (hts (.fieldLink RX7 15 "SoundLaws$Tree" "least" "[I") q_X7_climb_f_5) (fun _ h9 => h9) rfl dX7_climb_112 ?_
              refine lv_iload_n hx hb dX7_climb_115 rfl (lv_at hl 2 rfl) ?_
              refine lv_bipush (v := 9) hx hb dX7_climb_116 (by decide) ?_
              refine lv_imul hx hb dX7_climb_118 ?_
              refine lv_iload_n hx hb dX7_climb_119 rfl (lv_at hl 3 rfl) ?_
              refine lv_iadd hx hb dX7_climb_120 ?_
              refine k_ald (9 * (nod t - 1) + am (SP t a (nod t - 1)) j) (by rw [show (9 : Int32) = nI 9 from rfl, pk_mul, nI_add, Nat.mul_comm]) (by have := am_le (SP t a (nod t - 1)) j; omega) hx hb hE hP 2 rfl (by decide) dX7_climb_121 ?_
              refine lv_icmp_ge (tgt := 128) hx hb dX7_climb_122 (by decide) (fun c122_6 => ?_) (fun c122_6 => ?_)
              · skip
                have hq : am (SP t a (nod t - 1)) (j + 1) = am (SP t a (nod t - 1)) j := am_f (by have h9 := i_nlt c122_6; rw [hv1 (nod t - 1) (by omega) (by omega) (j + 1) (by omega), hv1 (nod t - 1) (by omega) (by omega) (am (SP t a (nod t - 1)) j) (by have := am_le (SP t a (nod t - 1)) j; omega)] at h9; exact h9)
                have hl : lv_has ls 5 [(0, .ref h0), (1, .int (nI (nod t))), (2, .int (nI (nod t - 1))), (3, .int (nI (am (SP t a (nod t - 1)) (j + 1)))), (4, .int (nI (j + 1)))] := by rw [hq]; exact hl
                refine lv_iinc (v := (nI (j + 1 + 1))) (lv' := [(4, .int (nI (j + 1 + 1))), (0, .ref h0), (1, .int (nI (nod t))), (2, .int (nI (nod t - 1))), (3, .int (nI (am (SP t a (nod t - 1)) (j + 1))))]) hx hb dX7_climb_128 hl (k := 4) rfl (nI_1 _) (by decide) rfl (fun ls hl => ?_)
                refine lv_goto (tgt := 92) hx hb dX7_climb_131 (by decide) ?_
                exact ih92 (j + 1) (by omega) (by omega) _ _ _ hP hD hS (lv_sub hl [1, 2, 3, 4, 0] rfl)
              · skip
                refine lv_iload hx hb dX7_climb_125 (lv_at hl 4 rfl) ?_
                refine lv_istore_n (lv' := [(3, .int (nI (j + 1))), (0, .ref h0), (1, .int (nI (nod t))), (2, .int (nI (nod t - 1))), (4, .int (nI (j + 1)))]) hx hb dX7_climb_127 rfl hl (by decide) rfl (fun ls hl => ?_)
                have hq : am (SP t a (nod t - 1)) (j + 1) = j + 1 := am_t (by have h9 := i_nle c122_6; rw [hv1 (nod t - 1) (by omega) (by omega) (j + 1) (by omega), hv1 (nod t - 1) (by omega) (by omega) (am (SP t a (nod t - 1)) j) (by have := am_le (SP t a (nod t - 1)) j; omega)] at h9; exact h9)
                have hl : lv_has ls 5 [(3, .int (nI (am (SP t a (nod t - 1)) (j + 1)))), (0, .ref h0), (1, .int (nI (nod t))), (2, .int (nI (nod t - 1))), (4, .int (nI (j + 1)))] := by rw [hq]; exact hl
                refine lv_iinc (v := (nI (j + 1 + 1))) (lv' := [(4, .int (nI (j + 1 + 1))), (3, .int (nI (am (SP t a (nod t - 1)) (j + 1)))), (0, .ref h0), (1, .int (nI (nod t))), (2, .int (nI (nod t - 1)))]) hx hb dX7_climb_128 hl (k := 4) rfl (nI_1 _) (by decide) rfl (fun ls hl => ?_)
                refine lv_goto (tgt := 92) hx hb dX7_climb_131 (by decide) ?_
                exact ih92 (j + 1) (by omega) (by omega) _ _ _ hP hD hS (lv_sub hl [2, 3, 4, 1, 0] rfl)
        exact loop92 _ 0 (Nat.zero_le 8) (Nat.lt_succ_self _) _ _ _ hP hD hS (lv_sub hl [3, 4, 2, 1, 0] rfl)
      · skip
        have hnd9 := lt_of_nle (k := nod t) (n := nd) (by omega) (by omega) c15_3
        have hfp := fp_lt t (by omega) nd (by omega) ht hnt (by omega)
        have hch := ch_ok t (by omega) nd (by omega) ht hnt (by omega)
        refine lv_aload_n hx hb dX7_climb_18 rfl (lv_at hl 0 rfl) ?_
        refine lv_iload_n hx hb dX7_climb_19 rfl (lv_at hl 2 rfl) ?_
        refine k_ci (wr := [(t1, ai g 7 f), (t2, ai g 63 v1)]) hP hD hS hA [0] [1, 2] rfl rfl (by decide) (by decide) (va_runV (As := [.int (nI nd)]) (rest := []) ⟨hx, hb, hml, hown, hts⟩ (c_X7_pairOf_g l g h0 t1 t2 t nd (by first | assumption | omega) (by first | assumption | omega) H.size) (cwV 1 hts gX7_climb_X7_pairOf rfl rfl rfl (by decide +kernel) ⟨Nat.le_of_ble_eq_true rfl, Nat.le_of_ble_eq_true rfl⟩) (k_preV hE hZ hP hD hS hA [0] rfl (by decide) (va_recv hE.1 hP (ci := 7) (q0 := 0) rfl rfl)) rfl rfl hl.1 rfl (lv_room (Nat.le_of_ble_eq_true rfl)) dX7_climb_20 ⟨Nat.le_of_ble_eq_true rfl, Nat.le_of_ble_eq_true rfl⟩) (fun r_7 w1 H locs hw hP hD hS => ?_)
        obtain ⟨rfl, rfl⟩ := hw
        have hP : va_P g.1 vwCl [(t1, ai g 7 f), (t2, ai g 63 v1), (h0, .inr (7, [.int (nI t), .ref t1, .ref t2]))] H := hP
        have hD : va_D A [(t1, ai g 7 f), (t2, ai g 63 v1), (h0, .inr (7, [.int (nI t), .ref t1, .ref t2]))] := hD
        refine lv_istore_n (lv' := [(3, .int (nI (fp t + 2 * (nd - t)))), (0, .ref h0), (1, .int (nI (nod t))), (2, .int (nI nd))]) hx hb dX7_climb_23 rfl hl (by decide) rfl (fun ls hl => ?_)
        refine lv_iconst (v := 0) hx hb dX7_climb_24 (by decide) ?_
        refine lv_istore (lv' := [(4, .int 0), (3, .int (nI (fp t + 2 * (nd - t)))), (0, .ref h0), (1, .int (nI (nod t))), (2, .int (nI nd))]) hx hb dX7_climb_25 hl (by decide) rfl (fun ls hl => ?_)
        have loop27 : ∀ (fu : Nat) (sd : Nat) (v2 : Nat → Int32), (hs : sd ≤ 9) → (hv2 : ∀ m, t ≤ m → m < nd → ∀ s, s < 9 → v2 (9 * m + s) = SP t a m s) → (hw2 : ∀ s, s < sd → v2 (9 * nd + s) = SP t a nd s) → 9 - sd < fu → ∀ (H : Heap) (locs : List Loc) (ls : Array Slot), va_P g.1 vwCl [(t1, ai g 7 f), (t2, ai g 63 v2), (h0, .inr (7, [.int (nI t), .ref t1, .ref t2]))] H → va_D A [(t1, ai g 7 f), (t2, ai g 63 v2), (h0, .inr (7, [.int (nI t), .ref t1, .ref t2]))] → va_S A s.heap H locs → lv_has ls 5 [(0, .ref h0), (1, .int (nI (nod t))), (2, .int (nI nd)), (3, .int (nI (fp t + 2 * (nd - t)))), (4, .int (nI sd))] → W p l e ({ frames := 1, cells := 0, slots := 0, locals := 27 }) s m [.ref h0].toArray below meth c H locs 0 0 (MQ below (va_Qi (po_X7_climb_f g h0 t1 t2 t f fl a) (bk g A) A) [.ref h0].toArray s 0 0 A) (F0 m 27 ls []) := by
          intro fu
          induction fu with
          | zero => intro sd v2 hs hv2 hw2 hfu; exact absurd hfu (Nat.not_lt_zero _)
          | succ fu ih =>
            intro sd v2 hs hv2 hw2 hfu H locs ls hP hD hS hl
            have ih27 := ih
            refine lv_iload hx hb dX7_climb_27 (lv_at hl 4 rfl) ?_
            refine lv_bipush (v := 9) hx hb dX7_climb_29 (by decide) ?_
            refine lv_icmp_ge (tgt := 77) hx hb dX7_climb_31 (by decide) (fun c31_9 => ?_) (fun c31_9 => ?_)
            · skip
              have hs10 := ge_of_le (k := 9) (n := sd) (by decide) (by omega) c31_9
              refine lv_iinc (v := (nI (nd + 1))) (lv' := [(2, .int (nI (nd + 1))), (0, .ref h0), (1, .int (nI (nod t))), (3, .int (nI (fp t + 2 * (nd - t)))), (4, .int (nI sd))]) hx hb dX7_climb_77 hl (k := 2) rfl (nI_1 _) (by decide) rfl (fun ls hl => ?_)
              refine lv_goto (tgt := 13) hx hb dX7_climb_80 (by decide) ?_
              exact ih13 (nd + 1) _ (by omega) (by omega) (sp_k hv2 (fun s hs => hw2 s (by omega))) (by omega) _ _ _ (hP.sub [2, 0, 1] rfl) (hD.sub [2, 0, 1] (by decide) rfl) hS (lv_sub hl [1, 2, 0] rfl)
            · skip
              have hs9 := lt_of_nle (k := 9) (n := sd) (by decide) (by omega) c31_9
              refine lv_aload_n hx hb dX7_climb_34 rfl (lv_at hl 0 rfl) ?_
              refine va_get (D := g.1) (ci := 7) (v := .ref t2) (C := RX7) (T := TX7) (N := 3) hx hb hts q_X7_climb_f_f7 hown hE.1 hP 2 rfl rfl 2 (by decide) (hts (.fieldLink RX7 15 "SoundLaws$Tree" "least" "[I") q_X7_climb_f_5) (fun _ h9 => h9) rfl dX7_climb_35 ?_
              refine lv_iload_n hx hb dX7_climb_38 rfl (lv_at hl 2 rfl) ?_
              refine lv_bipush (v := 9) hx hb dX7_climb_39 (by decide) ?_
              refine lv_imul hx hb dX7_climb_41 ?_
              refine lv_iload hx hb dX7_climb_42 (lv_at hl 4 rfl) ?_
              refine lv_iadd hx hb dX7_climb_44 ?_
              refine lv_aload_n hx hb dX7_climb_45 rfl (lv_at hl 0 rfl) ?_
              refine va_getsN hx hb hZ.zPAIRS hS hown (va_Nw.use rfl (hE.nw (w := .fieldLinkNest RX7 29 "SoundLaws" "PAIRS" "[I" RX8) 15 rfl)) (fun _ h9 => h9) dX7_climb_46 ?_
              refine lv_iload_n hx hb dX7_climb_49 rfl (lv_at hl 3 rfl) ?_
              refine k_tld (fp t + 2 * (nd - t)) rfl (by omega) hx hb hZ.tPAIRS hS (by decide) (v := tb_PAIRS.getD (fp t + 2 * (nd - t)) 0) rfl dX7_climb_50 ?_
              refine lv_topi (fun x_10 ex_10 => ?_)
              obtain rfl : x_10 = nI (pr (fp t + 2 * (nd - t))) := by rw [ex_10]; exact pr_tb (fp t + 2 * (nd - t)) (by omega)
              have hpl51 := pr_lt (fp t + 2 * (nd - t)) (by omega)
              refine lv_iload hx hb dX7_climb_51 (lv_at hl 4 rfl) ?_
              refine k_ci (wr := []) hP hD hS hA [2, 0, 1] [] rfl rfl (by decide) (by decide) (va_runV (As := [.int (nI (pr (fp t + 2 * (nd - t)))), .int (nI sd)]) (rest := [.int (((nI nd) * 9) + (nI sd)), .ref t2]) ⟨hx, hb, hml, hown, hts⟩ (c_X7_leastBelow_f l g h0 t1 t2 t f v2 a (SP t a) (pr (fp t + 2 * (nd - t))) sd (by first | assumption | omega) (by first | assumption | omega) (by first | assumption | omega) (by first | assumption | omega) (by first | assumption | omega) (fun q s hs => hv2 _ (Nat.not_lt.mp q) hch.1 s hs) H.size) (cwV 2 hts gX7_climb_X7_leastBelow rfl rfl rfl (by decide +kernel) ⟨Nat.le_of_ble_eq_true rfl, Nat.le_of_ble_eq_true rfl⟩) (k_preV hE hZ hP hD hS hA [2, 0, 1] rfl (by decide) (va_recv hE.1 hP (ci := 7) (q0 := 2) rfl rfl)) rfl rfl hl.1 rfl (lv_room (Nat.le_of_ble_eq_true rfl)) dX7_climb_53 ⟨Nat.le_of_ble_eq_true rfl, Nat.le_of_ble_eq_true rfl⟩) (fun r_11 w1 H locs hw hP hD hS => ?_)
              obtain ⟨rfl, rfl⟩ := hw
              have hP : va_P g.1 vwCl [(h0, .inr (7, [.int (nI t), .ref t1, .ref t2])), (t1, ai g 7 f), (t2, ai g 63 v2)] H := hP
              have hD : va_D A [(h0, .inr (7, [.int (nI t), .ref t1, .ref t2])), (t1, ai g 7 f), (t2, ai g 63 v2)] := hD
              refine lv_aload_n hx hb dX7_climb_56 rfl (lv_at hl 0 rfl) ?_
              refine va_getsN hx hb hZ.zPAIRS hS hown (va_Nw.use rfl (hE.nw (w := .fieldLinkNest RX7 29 "SoundLaws" "PAIRS" "[I" RX8) 15 rfl)) (fun _ h9 => h9) dX7_climb_57 ?_
              refine lv_iload_n hx hb dX7_climb_60 rfl (lv_at hl 3 rfl) ?_
              refine lv_iconst (v := 1) hx hb dX7_climb_61 (by decide) ?_
              refine lv_iadd hx hb dX7_climb_62 ?_
              refine k_tld (fp t + 2 * (nd - t) + 1) (nI_1 _) (by omega) hx hb hZ.tPAIRS hS (by decide) (v := tb_PAIRS.getD (fp t + 2 * (nd - t) + 1) 0) rfl dX7_climb_63 ?_
              refine lv_topi (fun x_13 ex_13 => ?_)
              obtain rfl : x_13 = nI (pr (fp t + 2 * (nd - t) + 1)) := by rw [ex_13]; exact pr_tb (fp t + 2 * (nd - t) + 1) (by omega)
              have hpl64 := pr_lt (fp t + 2 * (nd - t) + 1) (by omega)
              refine lv_iload hx hb dX7_climb_64 (lv_at hl 4 rfl) ?_
              refine k_ci (wr := []) hP hD hS hA [0, 1, 2] [] rfl rfl (by decide) (by decide) (va_runV (As := [.int (nI (pr (fp t + 2 * (nd - t) + 1))), .int (nI sd)]) (rest := [.int (LBt t a (SP t a) (pr (fp t + 2 * (nd - t))) sd), .int (((nI nd) * 9) + (nI sd)), .ref t2]) ⟨hx, hb, hml, hown, hts⟩ (c_X7_leastBelow_f l g h0 t1 t2 t f v2 a (SP t a) (pr (fp t + 2 * (nd - t) + 1)) sd (by first | assumption | omega) (by first | assumption | omega) (by first | assumption | omega) (by first | assumption | omega) (by first | assumption | omega) (fun q s hs => hv2 _ (Nat.not_lt.mp q) hch.2.1 s hs) H.size) (cwV 2 hts gX7_climb_X7_leastBelow rfl rfl rfl (by decide +kernel) ⟨Nat.le_of_ble_eq_true rfl, Nat.le_of_ble_eq_true rfl⟩) (k_preV hE hZ hP hD hS hA [0, 1, 2] rfl (by decide) (va_recv hE.1 hP (ci := 7) (q0 := 0) rfl rfl)) rfl rfl hl.1 rfl (lv_room (Nat.le_of_ble_eq_true rfl)) dX7_climb_66 ⟨Nat.le_of_ble_eq_true rfl, Nat.le_of_ble_eq_true rfl⟩) (fun r_14 w1 H locs hw hP hD hS => ?_)
              obtain ⟨rfl, rfl⟩ := hw
              have hP : va_P g.1 vwCl [(h0, .inr (7, [.int (nI t), .ref t1, .ref t2])), (t1, ai g 7 f), (t2, ai g 63 v2)] H := hP
              have hD : va_D A [(h0, .inr (7, [.int (nI t), .ref t1, .ref t2])), (t1, ai g 7 f), (t2, ai g 63 v2)] := hD
              refine lv_iadd hx hb dX7_climb_69 ?_
              refine lv_topi (fun xv exv => ?_)
              have hval : xv = SP t a nd sd := exv.trans (SP_eq ht ht4 hnt (by omega)).symm
              refine k_ast (x := xv) (9 * nd + sd) (by rw [show (9 : Int32) = nI 9 from rfl, pk_mul, nI_add, Nat.mul_comm]) (by omega) hx hb hE hP hD hS 2 rfl (by decide) dX7_climb_70 (fun H locs hP hD hS => ?_)
              have hP : va_P g.1 vwCl [(h0, .inr (7, [.int (nI t), .ref t1, .ref t2])), (t1, ai g 7 f), (t2, ai g 63 (upd v2 (9 * nd + sd) xv))] H := hP
              have hD : va_D A [(h0, .inr (7, [.int (nI t), .ref t1, .ref t2])), (t1, ai g 7 f), (t2, ai g 63 (upd v2 (9 * nd + sd) xv))] := hD
              refine lv_iinc (v := (nI (sd + 1))) (lv' := [(4, .int (nI (sd + 1))), (0, .ref h0), (1, .int (nI (nod t))), (2, .int (nI nd)), (3, .int (nI (fp t + 2 * (nd - t))))]) hx hb dX7_climb_71 hl (k := 4) rfl (nI_1 _) (by decide) rfl (fun ls hl => ?_)
              refine lv_goto (tgt := 27) hx hb dX7_climb_74 (by decide) ?_
              exact ih27 (sd + 1) _ (by omega) (sp_u hv2) (sp_s hw2 hval) (by omega) _ _ _ (hP.sub [1, 2, 0] rfl) (hD.sub [1, 2, 0] (by decide) rfl) hS (lv_sub hl [1, 2, 3, 4, 0] rfl)
        exact loop27 _ 0 v1 (Nat.zero_le 9) hv1 (fun s hs => absurd hs (Nat.not_lt_zero s)) (Nat.lt_succ_self _) _ _ _ hP hD hS (lv_sub hl [2, 3, 4, 1, 0] rfl)
  exact loop13 _ t fl (Nat.le_refl t) (by omega) (fun m h1 h2 => absurd h2 (by omega)) (Nat.lt_succ_self _) _ _ _ hP hD hS (lv_sub hl [2, 1, 0] rfl)
def po_X7_settle_f (g : GG) (h0 : Nat) (t1 : Nat) (t2 : Nat) (t : Nat) (f : Nat → Int32) (fl : Nat → Int32) (S : Nat → Nat → Int32) (nd : Nat) (ab : Nat) : va_W → Prop := fun w => ∃ (f2 : Nat → Int32), w = [(h0, .inr (7, [.int (nI t), .ref t1, .ref t2])), (t1, ai g 7 f2), (t2, ai g 63 fl)] ∧ (f2 = if nd < t then f else upd f nd (nI (am (fun s => cs ab s + S nd s) 8)))
theorem q_X7_settle_f_f7 : ∀ w ∈ u_ws RX7 TX7 3, w ∈ wsX7_settle := by decide +kernel
theorem q_X7_settle_f_1 : (Cond.fieldLink RX7 18 "SoundLaws$Tree" "tongues" "I") ∈ wsX7_settle := by decide +kernel
theorem q_X7_settle_f_2 : (Cond.initialized RX8) ∈ wsX7_settle := by decide +kernel
theorem q_X7_settle_f_3 : (Cond.static yX8_costOf) ∈ wsX7_settle := by decide +kernel
theorem q_X7_settle_f_4 : (Cond.fieldLink RX7 15 "SoundLaws$Tree" "least" "[I") ∈ wsX7_settle := by decide +kernel
theorem q_X7_settle_f_5 : (Cond.fieldLink RX7 9 "SoundLaws$Tree" "sounds" "[I") ∈ wsX7_settle := by decide +kernel
set_option maxHeartbeats 1500000 in
set_option maxRecDepth 100000 in
theorem c_X7_settle_f (l : Launch) (g : GG) (h0 : Nat) (t1 : Nat) (t2 : Nat) (t : Nat) (f : Nat → Int32) (fl : Nat → Int32) (S : Nat → Nat → Int32) (nd : Nat) (ab : Nat) (ht4 : t ≤ 4) (hnd : nd < 7) (hab : ab < 9) (hSn : ¬ nd < t → ∀ s, s < 9 → fl (9 * nd + s) = S nd s) (sz : Nat) : MetV l yX7_settle wsX7_settle ({ frames := 1, cells := 0, slots := 0, locals := 21 }) g [.ref h0, .int (nI nd), .int (nI ab)] [(h0, .inr (7, [.int (nI t), .ref t1, .ref t2])), (t1, ai g 7 f), (t2, ai g 63 fl)] sz (po_X7_settle_f g h0 t1 t2 t f fl S nd ab) 0 0 := by
  refine k_of (l := l) (y := yX7_settle) (ws := wsX7_settle) (rm := { frames := 1, cells := 0, slots := 0, locals := 21 }) (mc := 0) (ms := 0) (av := [.ref h0, .int (nI nd), .int (nI ab)]) (g := g) (wc := [(h0, .inr (7, [.int (nI t), .ref t1, .ref t2])), (t1, ai g 7 f), (t2, ai g 63 fl)]) (Qc := fun A => va_Qv (po_X7_settle_f g h0 t1 t2 t f fl S nd ab) (bk g A) A) (cc := cX7_settle) (maxL := 7) (ret := none) (by decide) rfl (Nat.le_of_ble_eq_true rfl) ?_ sz
  intro p e s m below meth c hx hb hr hts hown hlocks hnm hml A hA hE hZ hP hD hS ls hl
  have hown : s.vm.findClass RX7 = some m.cls := hown
  have hl : lv_has ls 7 [(0, .ref h0), (1, .int (nI nd)), (2, .int (nI ab))] := hl
  refine lv_iload_n hx hb dX7_settle_0 rfl (lv_at hl 1 rfl) ?_
  refine lv_aload_n hx hb dX7_settle_1 rfl (lv_at hl 0 rfl) ?_
  refine va_get (D := g.1) (ci := 7) (v := .int (nI t)) (C := RX7) (T := TX7) (N := 3) hx hb hts q_X7_settle_f_f7 hown hE.1 hP 0 rfl rfl 0 (by decide) (hts (.fieldLink RX7 18 "SoundLaws$Tree" "tongues" "I") q_X7_settle_f_1) (fun _ h9 => h9) rfl dX7_settle_2 ?_
  refine lv_icmp_ge (tgt := 9) hx hb dX7_settle_5 (by decide) (fun c5_1 => ?_) (fun c5_1 => ?_)
  · skip
    have hge := ge_of_le (k := t) (n := nd) (by omega) (by omega) c5_1
    have hS9 := hSn (Nat.not_lt.mpr hge)
    refine lv_iconst (v := 0) hx hb dX7_settle_9 (by decide) ?_
    refine lv_istore_n (lv' := [(3, .int 0), (0, .ref h0), (1, .int (nI nd)), (2, .int (nI ab))]) hx hb dX7_settle_10 rfl hl (by decide) rfl (fun ls hl => ?_)
    refine lv_iload_n hx hb dX7_settle_11 rfl (lv_at hl 3 rfl) ?_
    refine lv_iconst (v := 0) hx hb dX7_settle_12 (by decide) ?_
    refine k_ci (wr := [(h0, .inr (7, [.int (nI t), .ref t1, .ref t2])), (t1, ai g 7 f), (t2, ai g 63 fl)]) hP hD hS hA [] [0, 1, 2] rfl rfl (by decide) (by decide) (va_runSN (As := [.int (nI ab), .int 0]) (rest := []) ⟨hx, hb, hml, hown, hts⟩ (c_X8_costOf_g l g ab 0 (by first | assumption | omega) (by first | assumption | omega) s.heap.size) ⟨va_cnB 2 hts gX7_settle_X8_costOf_n50 rfl rfl rfl (hE.nw 17 rfl) (hts (.initialized RX8) q_X7_settle_f_2) (by decide +kernel) ⟨Nat.le_of_ble_eq_true rfl, Nat.le_of_ble_eq_true rfl⟩, (hts (.static yX8_costOf) q_X7_settle_f_3), trivial⟩ (k_preS hE hZ hP hD hS hA [] rfl (by decide)) rfl rfl hl.1 rfl (lv_room (Nat.le_of_ble_eq_true rfl)) dX7_settle_13 ⟨Nat.le_of_ble_eq_true rfl, Nat.le_of_ble_eq_true rfl⟩) (fun r_2 w1 H locs hw hP hD hS => ?_)
    obtain ⟨rfl, rfl⟩ := hw
    have hP : va_P g.1 vwCl [(h0, .inr (7, [.int (nI t), .ref t1, .ref t2])), (t1, ai g 7 f), (t2, ai g 63 fl)] H := hP
    have hD : va_D A [(h0, .inr (7, [.int (nI t), .ref t1, .ref t2])), (t1, ai g 7 f), (t2, ai g 63 fl)] := hD
    refine lv_aload_n hx hb dX7_settle_16 rfl (lv_at hl 1 rfl) ?_
    refine va_get (D := g.1) (ci := 7) (v := .ref t2) (C := RX7) (T := TX7) (N := 3) hx hb hts q_X7_settle_f_f7 hown hE.1 hP 0 rfl rfl 2 (by decide) (hts (.fieldLink RX7 15 "SoundLaws$Tree" "least" "[I") q_X7_settle_f_4) (fun _ h9 => h9) rfl dX7_settle_17 ?_
    refine lv_iload_n hx hb dX7_settle_20 rfl (lv_at hl 2 rfl) ?_
    refine lv_bipush (v := 9) hx hb dX7_settle_21 (by decide) ?_
    refine lv_imul hx hb dX7_settle_23 ?_
    refine k_ald (9 * nd + 0) (by rw [show (9 : Int32) = nI 9 from rfl, pk_mul, Nat.mul_comm]; rfl) (by omega) hx hb hE hP 2 rfl (by decide) dX7_settle_24 ?_
    refine lv_iadd hx hb dX7_settle_25 ?_
    refine lv_topi (fun x4i ex4i => ?_)
    refine lv_istore (lv' := [(4, .int x4i), (3, .int 0), (0, .ref h0), (1, .int (nI nd)), (2, .int (nI ab))]) hx hb dX7_settle_26 hl (by decide) rfl (fun ls hl => ?_)
    refine lv_iconst (v := 1) hx hb dX7_settle_28 (by decide) ?_
    refine lv_istore (lv' := [(5, .int 1), (4, .int x4i), (3, .int 0), (0, .ref h0), (1, .int (nI nd)), (2, .int (nI ab))]) hx hb dX7_settle_29 hl (by decide) rfl (fun ls hl => ?_)
    have loop31 : ∀ (fu : Nat) (j : Nat) (x4 : Int32), (hj : j ≤ 8) → (e4 : x4 = cs ab (am (fun s => cs ab s + S nd s) j) + S nd (am (fun s => cs ab s + S nd s) j)) → 9 - j < fu → ∀ (H : Heap) (locs : List Loc) (ls : Array Slot), va_P g.1 vwCl [(h0, .inr (7, [.int (nI t), .ref t1, .ref t2])), (t1, ai g 7 f), (t2, ai g 63 fl)] H → va_D A [(h0, .inr (7, [.int (nI t), .ref t1, .ref t2])), (t1, ai g 7 f), (t2, ai g 63 fl)] → va_S A s.heap H locs → lv_has ls 7 [(0, .ref h0), (1, .int (nI nd)), (2, .int (nI ab)), (3, .int (nI (am (fun s => cs ab s + S nd s) j))), (4, .int x4), (5, .int (nI (j + 1)))] → W p l e ({ frames := 1, cells := 0, slots := 0, locals := 21 }) s m [.ref h0, .int (nI nd), .int (nI ab)].toArray below meth c H locs 0 0 (MQ below (va_Qv (po_X7_settle_f g h0 t1 t2 t f fl S nd ab) (bk g A) A) [.ref h0, .int (nI nd), .int (nI ab)].toArray s 0 0 A) (F0 m 31 ls []) := by
      intro fu
      induction fu with
      | zero => intro j x4 hj e4 hfu; exact absurd hfu (Nat.not_lt_zero _)
      | succ fu ih =>
        intro j x4 hj e4 hfu H locs ls hP hD hS hl
        have ih31 := ih
        refine lv_iload hx hb dX7_settle_31 (lv_at hl 5 rfl) ?_
        refine lv_bipush (v := 9) hx hb dX7_settle_33 (by decide) ?_
        refine lv_icmp_ge (tgt := 79) hx hb dX7_settle_35 (by decide) (fun c35_4 => ?_) (fun c35_4 => ?_)
        · skip
          have hj9 := ge_of_le (k := 9) (n := j + 1) (by decide) (by omega) c35_4
          obtain rfl : j = 8 := by omega
          refine lv_aload_n hx hb dX7_settle_79 rfl (lv_at hl 0 rfl) ?_
          refine va_get (D := g.1) (ci := 7) (v := .ref t1) (C := RX7) (T := TX7) (N := 3) hx hb hts q_X7_settle_f_f7 hown hE.1 hP 0 rfl rfl 1 (by decide) (hts (.fieldLink RX7 9 "SoundLaws$Tree" "sounds" "[I") q_X7_settle_f_5) (fun _ h9 => h9) rfl dX7_settle_80 ?_
          refine lv_iload_n hx hb dX7_settle_83 rfl (lv_at hl 1 rfl) ?_
          refine lv_iload_n hx hb dX7_settle_84 rfl (lv_at hl 3 rfl) ?_
          refine k_ast (x := (nI (am (fun s => cs ab s + S nd s) 8))) nd rfl (by omega) hx hb hE hP hD hS 1 rfl (by decide) dX7_settle_85 (fun H locs hP hD hS => ?_)
          have hP : va_P g.1 vwCl [(h0, .inr (7, [.int (nI t), .ref t1, .ref t2])), (t1, ai g 7 (upd f nd (nI (am (fun s => cs ab s + S nd s) 8)))), (t2, ai g 63 fl)] H := hP
          have hD : va_D A [(h0, .inr (7, [.int (nI t), .ref t1, .ref t2])), (t1, ai g 7 (upd f nd (nI (am (fun s => cs ab s + S nd s) 8)))), (t2, ai g 63 fl)] := hD
          refine W.widen (k := 0) (n := 0) (Nat.le_of_ble_eq_true rfl) (Nat.le_of_ble_eq_true rfl) ?_
          exact k_rv hx hb hr hlocks hS hP hD ⟨(upd f nd (nI (am (fun s => cs ab s + S nd s) 8))), rfl, (if_neg (Nat.not_lt.mpr hge)).symm⟩ dX7_settle_86
        · skip
          have hj8 := lt_of_nle (k := 9) (n := j + 1) (by decide) (by omega) c35_4
          refine lv_iload_n hx hb dX7_settle_38 rfl (lv_at hl 2 rfl) ?_
          refine lv_iload hx hb dX7_settle_39 (lv_at hl 5 rfl) ?_
          refine k_ci (wr := [(h0, .inr (7, [.int (nI t), .ref t1, .ref t2])), (t1, ai g 7 f), (t2, ai g 63 fl)]) hP hD hS hA [] [0, 1, 2] rfl rfl (by decide) (by decide) (va_runSN (As := [.int (nI ab), .int (nI (j + 1))]) (rest := []) ⟨hx, hb, hml, hown, hts⟩ (c_X8_costOf_g l g ab (j + 1) (by first | assumption | omega) (by first | assumption | omega) H.size) ⟨va_cnB 2 hts gX7_settle_X8_costOf_n50 rfl rfl rfl (hE.nw 17 rfl) (hts (.initialized RX8) q_X7_settle_f_2) (by decide +kernel) ⟨Nat.le_of_ble_eq_true rfl, Nat.le_of_ble_eq_true rfl⟩, (hts (.static yX8_costOf) q_X7_settle_f_3), trivial⟩ (k_preS hE hZ hP hD hS hA [] rfl (by decide)) rfl rfl hl.1 rfl (lv_room (Nat.le_of_ble_eq_true rfl)) dX7_settle_41 ⟨Nat.le_of_ble_eq_true rfl, Nat.le_of_ble_eq_true rfl⟩) (fun r_5 w1 H locs hw hP hD hS => ?_)
          obtain ⟨rfl, rfl⟩ := hw
          have hP : va_P g.1 vwCl [(h0, .inr (7, [.int (nI t), .ref t1, .ref t2])), (t1, ai g 7 f), (t2, ai g 63 fl)] H := hP
          have hD : va_D A [(h0, .inr (7, [.int (nI t), .ref t1, .ref t2])), (t1, ai g 7 f), (t2, ai g 63 fl)] := hD
          refine lv_aload_n hx hb dX7_settle_44 rfl (lv_at hl 0 rfl) ?_
          refine va_get (D := g.1) (ci := 7) (v := .ref t2) (C := RX7) (T := TX7) (N := 3) hx hb hts q_X7_settle_f_f7 hown hE.1 hP 0 rfl rfl 2 (by decide) (hts (.fieldLink RX7 15 "SoundLaws$Tree" "least" "[I") q_X7_settle_f_4) (fun _ h9 => h9) rfl dX7_settle_45 ?_
          refine lv_iload_n hx hb dX7_settle_48 rfl (lv_at hl 1 rfl) ?_
          refine lv_bipush (v := 9) hx hb dX7_settle_49 (by decide) ?_
          refine lv_imul hx hb dX7_settle_51 ?_
          refine lv_iload hx hb dX7_settle_52 (lv_at hl 5 rfl) ?_
          refine lv_iadd hx hb dX7_settle_54 ?_
          refine k_ald (9 * nd + (j + 1)) (by rw [show (9 : Int32) = nI 9 from rfl, pk_mul, nI_add, Nat.mul_comm]) (by omega) hx hb hE hP 2 rfl (by decide) dX7_settle_55 ?_
          refine lv_iadd hx hb dX7_settle_56 ?_
          refine lv_topi (fun x6 ex6 => ?_)
          refine lv_istore (lv' := [(6, .int x6), (0, .ref h0), (1, .int (nI nd)), (2, .int (nI ab)), (3, .int (nI (am (fun s => cs ab s + S nd s) j))), (4, .int x4), (5, .int (nI (j + 1)))]) hx hb dX7_settle_57 hl (by decide) rfl (fun ls hl => ?_)
          have e6 : x6 = cs ab (j + 1) + S nd (j + 1) := by rw [ex6, hS9 (j + 1) hj8]
          refine lv_iload hx hb dX7_settle_59 (lv_at hl 0 rfl) ?_
          refine lv_iload hx hb dX7_settle_61 (lv_at hl 5 rfl) ?_
          refine lv_icmp_ge (tgt := 73) hx hb dX7_settle_63 (by decide) (fun c63_7 => ?_) (fun c63_7 => ?_)
          · skip
            have hq : am (fun s => cs ab s + S nd s) (j + 1) = am (fun s => cs ab s + S nd s) j := am_f (by have h9 := i_nlt c63_7; rw [e6, e4] at h9; exact h9)
            have hl : lv_has ls 7 [(6, .int x6), (0, .ref h0), (1, .int (nI nd)), (2, .int (nI ab)), (3, .int (nI (am (fun s => cs ab s + S nd s) (j + 1)))), (4, .int x4), (5, .int (nI (j + 1)))] := by rw [hq]; exact hl
            refine lv_iinc (v := (nI (j + 1 + 1))) (lv' := [(5, .int (nI (j + 1 + 1))), (6, .int x6), (0, .ref h0), (1, .int (nI nd)), (2, .int (nI ab)), (3, .int (nI (am (fun s => cs ab s + S nd s) (j + 1)))), (4, .int x4)]) hx hb dX7_settle_73 hl (k := 6) rfl (nI_1 _) (by decide) rfl (fun ls hl => ?_)
            refine lv_goto (tgt := 31) hx hb dX7_settle_76 (by decide) ?_
            exact ih31 (j + 1) x4 (by omega) (by rw [hq]; exact e4) (by omega) _ _ _ hP hD hS (lv_sub hl [2, 3, 4, 5, 6, 0] rfl)
          · skip
            refine lv_iload hx hb dX7_settle_66 (lv_at hl 0 rfl) ?_
            refine lv_istore (lv' := [(4, .int x6), (6, .int x6), (0, .ref h0), (1, .int (nI nd)), (2, .int (nI ab)), (3, .int (nI (am (fun s => cs ab s + S nd s) j))), (5, .int (nI (j + 1)))]) hx hb dX7_settle_68 hl (by decide) rfl (fun ls hl => ?_)
            refine lv_iload hx hb dX7_settle_70 (lv_at hl 6 rfl) ?_
            refine lv_istore_n (lv' := [(3, .int (nI (j + 1))), (4, .int x6), (6, .int x6), (0, .ref h0), (1, .int (nI nd)), (2, .int (nI ab)), (5, .int (nI (j + 1)))]) hx hb dX7_settle_72 rfl hl (by decide) rfl (fun ls hl => ?_)
            have hq : am (fun s => cs ab s + S nd s) (j + 1) = j + 1 := am_t (by have h9 := i_nle c63_7; rw [e6, e4] at h9; exact h9)
            have hl : lv_has ls 7 [(3, .int (nI (am (fun s => cs ab s + S nd s) (j + 1)))), (4, .int x6), (6, .int x6), (0, .ref h0), (1, .int (nI nd)), (2, .int (nI ab)), (5, .int (nI (j + 1)))] := by rw [hq]; exact hl
            refine lv_iinc (v := (nI (j + 1 + 1))) (lv' := [(5, .int (nI (j + 1 + 1))), (3, .int (nI (am (fun s => cs ab s + S nd s) (j + 1)))), (4, .int x6), (6, .int x6), (0, .ref h0), (1, .int (nI nd)), (2, .int (nI ab))]) hx hb dX7_settle_73 hl (k := 6) rfl (nI_1 _) (by decide) rfl (fun ls hl => ?_)
            refine lv_goto (tgt := 31) hx hb dX7_settle_76 (by decide) ?_
            exact ih31 (j + 1) x6 (by omega) (by rw [hq, e6]) (by omega) _ _ _ hP hD hS (lv_sub hl [4, 5, 6, 1, 2, 0] rfl)
    exact loop31 _ 0 x4i (Nat.zero_le 8) (by rw [ex4i, hS9 0 (by decide)]; rfl) (Nat.lt_succ_self _) _ _ _ hP hD hS (lv_sub hl [3, 4, 5, 2, 1, 0] rfl)
  · skip
    have hlt := lt_of_nle (k := t) (n := nd) (by omega) (by omega) c5_1
    refine W.widen (k := 0) (n := 0) (Nat.le_of_ble_eq_true rfl) (Nat.le_of_ble_eq_true rfl) ?_
    exact k_rv hx hb hr hlocks hS hP hD ⟨f, rfl, (if_pos hlt).symm⟩ dX7_settle_8
def po_X7_descend_f (g : GG) (h0 : Nat) (t1 : Nat) (t2 : Nat) (t : Nat) (f : Nat → Int32) (fl : Nat → Int32) (a : Nat → Nat) : va_W → Prop := fun w => ∃ (f2 : Nat → Int32), w = [(h0, .inr (7, [.int (nI t), .ref t1, .ref t2])), (t1, ai g 7 f2), (t2, ai g 63 fl)] ∧ (∀ m, m < 2 * t - 1 → f2 m = nI (OS t a m))
theorem q_X7_descend_f_f7 : ∀ w ∈ u_ws RX7 TX7 3, w ∈ wsX7_descend := by decide +kernel
theorem q_X7_descend_f_1 : (Cond.fieldLink RX7 18 "SoundLaws$Tree" "tongues" "I") ∈ wsX7_descend := by decide +kernel
theorem q_X7_descend_f_2 : (Cond.fieldLink RX7 9 "SoundLaws$Tree" "sounds" "[I") ∈ wsX7_descend := by decide +kernel
set_option maxHeartbeats 1500000 in
set_option maxRecDepth 100000 in
theorem c_X7_descend_f (l : Launch) (g : GG) (h0 : Nat) (t1 : Nat) (t2 : Nat) (t : Nat) (f : Nat → Int32) (fl : Nat → Int32) (a : Nat → Nat) (ht : 2 ≤ t) (ht4 : t ≤ 4) (ha9 : ∀ u, u < t → a u < 9) (hfa : ∀ u, u < t → f u = nI (a u)) (hfr : f (2 * t - 2) = nI (OR t a)) (hgl : ∀ m, t ≤ m → m < 2 * t - 1 → ∀ s, s < 9 → fl (9 * m + s) = SP t a m s) (sz : Nat) : MetV l yX7_descend wsX7_descend ({ frames := 2, cells := 0, slots := 0, locals := 47 }) g [.ref h0] [(h0, .inr (7, [.int (nI t), .ref t1, .ref t2])), (t1, ai g 7 f), (t2, ai g 63 fl)] sz (po_X7_descend_f g h0 t1 t2 t f fl a) 0 0 := by
  refine k_of (l := l) (y := yX7_descend) (ws := wsX7_descend) (rm := { frames := 2, cells := 0, slots := 0, locals := 47 }) (mc := 0) (ms := 0) (av := [.ref h0]) (g := g) (wc := [(h0, .inr (7, [.int (nI t), .ref t1, .ref t2])), (t1, ai g 7 f), (t2, ai g 63 fl)]) (Qc := fun A => va_Qv (po_X7_descend_f g h0 t1 t2 t f fl a) (bk g A) A) (cc := cX7_descend) (maxL := 3) (ret := none) (by decide) rfl (Nat.le_of_ble_eq_true rfl) ?_ sz
  intro p e s m below meth c hx hb hr hts hown hlocks hnm hml A hA hE hZ hP hD hS ls hl
  have hown : s.vm.findClass RX7 = some m.cls := hown
  have hl : lv_has ls 3 [(0, .ref h0)] := hl
  refine lv_aload_n hx hb dX7_descend_0 rfl (lv_at hl 0 rfl) ?_
  refine k_ci (wr := [(t1, ai g 7 f), (t2, ai g 63 fl)]) hP hD hS hA [0] [1, 2] rfl rfl (by decide) (by decide) (va_runV (As := []) (rest := []) ⟨hx, hb, hml, hown, hts⟩ (c_X7_root_g l g h0 t1 t2 t (by first | assumption | omega) (by first | assumption | omega) s.heap.size) (cwV 0 hts gX7_descend_X7_root rfl rfl rfl (by decide +kernel) ⟨Nat.le_of_ble_eq_true rfl, Nat.le_of_ble_eq_true rfl⟩) (k_preV hE hZ hP hD hS hA [0] rfl (by decide) (va_recv hE.1 hP (ci := 7) (q0 := 0) rfl rfl)) rfl rfl hl.1 rfl (lv_room (Nat.le_of_ble_eq_true rfl)) dX7_descend_1 ⟨Nat.le_of_ble_eq_true rfl, Nat.le_of_ble_eq_true rfl⟩) (fun r_1 w1 H locs hw hP hD hS => ?_)
  obtain ⟨rfl, rfl⟩ := hw
  have hP : va_P g.1 vwCl [(t1, ai g 7 f), (t2, ai g 63 fl), (h0, .inr (7, [.int (nI t), .ref t1, .ref t2]))] H := hP
  have hD : va_D A [(t1, ai g 7 f), (t2, ai g 63 fl), (h0, .inr (7, [.int (nI t), .ref t1, .ref t2]))] := hD
  have hno := nod_eq ht; have hno7 := nod_le ht4
  refine lv_istore_n (lv' := [(1, .int (nI (nod t - 1))), (0, .ref h0)]) hx hb dX7_descend_4 rfl hl (by decide) rfl (fun ls hl => ?_)
  have loop5 : ∀ (fu : Nat) (nd : Nat) (v1 : Nat → Int32), (hn1 : t - 1 ≤ nd) → (hn2 : nd < nod t) → (hv : DSt t a nd v1) → nd < fu → ∀ (H : Heap) (locs : List Loc) (ls : Array Slot), va_P g.1 vwCl [(t1, ai g 7 v1), (t2, ai g 63 fl), (h0, .inr (7, [.int (nI t), .ref t1, .ref t2]))] H → va_D A [(t1, ai g 7 v1), (t2, ai g 63 fl), (h0, .inr (7, [.int (nI t), .ref t1, .ref t2]))] → va_S A s.heap H locs → lv_has ls 3 [(0, .ref h0), (1, .int (nI nd))] → W p l e ({ frames := 2, cells := 0, slots := 0, locals := 47 }) s m [.ref h0].toArray below meth c H locs 0 0 (MQ below (va_Qv (po_X7_descend_f g h0 t1 t2 t f fl a) (bk g A) A) [.ref h0].toArray s 0 0 A) (F0 m 5 ls []) := by
    intro fu
    induction fu with
    | zero => intro nd v1 hn1 hn2 hv hfu; exact absurd hfu (Nat.not_lt_zero _)
    | succ fu ih =>
      intro nd v1 hn1 hn2 hv hfu H locs ls hP hD hS hl
      have ih5 := ih
      refine lv_iload_n hx hb dX7_descend_5 rfl (lv_at hl 1 rfl) ?_
      refine lv_aload_n hx hb dX7_descend_6 rfl (lv_at hl 0 rfl) ?_
      refine va_get (D := g.1) (ci := 7) (v := .int (nI t)) (C := RX7) (T := TX7) (N := 3) hx hb hts q_X7_descend_f_f7 hown hE.1 hP 2 rfl rfl 0 (by decide) (hts (.fieldLink RX7 18 "SoundLaws$Tree" "tongues" "I") q_X7_descend_f_1) (fun _ h9 => h9) rfl dX7_descend_7 ?_
      refine lv_icmp_lt (tgt := 57) hx hb dX7_descend_10 (by decide) (fun c10_3 => ?_) (fun c10_3 => ?_)
      · skip
        have hnt : nd < t := (nI_ltI (by omega) (by omega)).mp c10_3
        refine W.widen (k := 0) (n := 0) (Nat.le_of_ble_eq_true rfl) (Nat.le_of_ble_eq_true rfl) ?_
        have hP9 := hP.sub (ws' := [(h0, .inr (7, [.int (nI t), .ref t1, .ref t2])), (t1, ai g 7 v1), (t2, ai g 63 fl)]) [2, 0, 1] rfl
        have hD9 := hD.sub (ws' := [(h0, .inr (7, [.int (nI t), .ref t1, .ref t2])), (t1, ai g 7 v1), (t2, ai g 63 fl)]) [2, 0, 1] (by decide) rfl
        exact k_rv hx hb hr hlocks hS hP9 hD9 ⟨v1, rfl, (hv.elim (fun q => absurd q.1 (by omega)) (fun q => q.2))⟩ dX7_descend_57
      · skip
        have hnt : t ≤ nd := ge_of_nlt (by omega) (by omega) c10_3
        have hfp := fp_lt t (by omega) nd (by omega) ht hnt (by omega)
        have hch := ch_ok t (by omega) nd (by omega) ht hnt (by omega)
        have hos := OS_lt (t := t) (nd := nd) ha9
        refine lv_aload_n hx hb dX7_descend_13 rfl (lv_at hl 0 rfl) ?_
        refine lv_iload_n hx hb dX7_descend_14 rfl (lv_at hl 1 rfl) ?_
        refine k_ci (wr := [(t1, ai g 7 v1), (t2, ai g 63 fl)]) hP hD hS hA [2] [0, 1] rfl rfl (by decide) (by decide) (va_runV (As := [.int (nI nd)]) (rest := []) ⟨hx, hb, hml, hown, hts⟩ (c_X7_pairOf_g l g h0 t1 t2 t nd (by first | assumption | omega) (by first | assumption | omega) H.size) (cwV 1 hts gX7_descend_X7_pairOf rfl rfl rfl (by decide +kernel) ⟨Nat.le_of_ble_eq_true rfl, Nat.le_of_ble_eq_true rfl⟩) (k_preV hE hZ hP hD hS hA [2] rfl (by decide) (va_recv hE.1 hP (ci := 7) (q0 := 2) rfl rfl)) rfl rfl hl.1 rfl (lv_room (Nat.le_of_ble_eq_true rfl)) dX7_descend_15 ⟨Nat.le_of_ble_eq_true rfl, Nat.le_of_ble_eq_true rfl⟩) (fun r_4 w1 H locs hw hP hD hS => ?_)
        obtain ⟨rfl, rfl⟩ := hw
        have hP : va_P g.1 vwCl [(t1, ai g 7 v1), (t2, ai g 63 fl), (h0, .inr (7, [.int (nI t), .ref t1, .ref t2]))] H := hP
        have hD : va_D A [(t1, ai g 7 v1), (t2, ai g 63 fl), (h0, .inr (7, [.int (nI t), .ref t1, .ref t2]))] := hD
        refine lv_istore_n (lv' := [(2, .int (nI (fp t + 2 * (nd - t)))), (0, .ref h0), (1, .int (nI nd))]) hx hb dX7_descend_18 rfl hl (by decide) rfl (fun ls hl => ?_)
        refine lv_aload_n hx hb dX7_descend_19 rfl (lv_at hl 1 rfl) ?_
        refine va_getsN hx hb hZ.zPAIRS hS hown (va_Nw.use rfl (hE.nw (w := .fieldLinkNest RX7 29 "SoundLaws" "PAIRS" "[I" RX8) 15 rfl)) (fun _ h9 => h9) dX7_descend_20 ?_
        refine lv_iload_n hx hb dX7_descend_23 rfl (lv_at hl 0 rfl) ?_
        refine k_tld (fp t + 2 * (nd - t)) rfl (by omega) hx hb hZ.tPAIRS hS (by decide) (v := tb_PAIRS.getD (fp t + 2 * (nd - t)) 0) rfl dX7_descend_24 ?_
        refine lv_topi (fun x_6 ex_6 => ?_)
        obtain rfl : x_6 = nI (pr (fp t + 2 * (nd - t))) := by rw [ex_6]; exact pr_tb (fp t + 2 * (nd - t)) (by omega)
        have hpl25 := pr_lt (fp t + 2 * (nd - t)) (by omega)
        refine lv_aload_n hx hb dX7_descend_25 rfl (lv_at hl 1 rfl) ?_
        refine va_get (D := g.1) (ci := 7) (v := .ref t1) (C := RX7) (T := TX7) (N := 3) hx hb hts q_X7_descend_f_f7 hown hE.1 hP 2 rfl rfl 1 (by decide) (hts (.fieldLink RX7 9 "SoundLaws$Tree" "sounds" "[I") q_X7_descend_f_2) (fun _ h9 => h9) rfl dX7_descend_26 ?_
        refine lv_iload_n hx hb dX7_descend_29 rfl (lv_at hl 2 rfl) ?_
        refine k_ald nd rfl (by omega) hx hb hE hP 0 rfl (by decide) dX7_descend_30 ?_
        refine lv_topi (fun x_7 ex_7 => ?_)
        obtain rfl : x_7 = nI (OS t a nd) := by rw [ex_7]; exact DS_at ht (by omega) hv
        refine k_cv (wr := []) hP hD hS hA [2, 0, 1] [] rfl rfl (by decide) (by decide) (va_runV (As := [.int (nI (pr (fp t + 2 * (nd - t)))), .int (nI (OS t a nd))]) (rest := []) ⟨hx, hb, hml, hown, hts⟩ (c_X7_settle_f l g h0 t1 t2 t v1 fl (SP t a) (pr (fp t + 2 * (nd - t))) (OS t a nd) (by first | assumption | omega) (by first | assumption | omega) (by first | assumption | omega) (fun q s hs => hgl _ (Nat.not_lt.mp q) (Nat.lt_trans hch.1 (by omega)) s hs) H.size) (cwV 2 hts gX7_descend_X7_settle rfl rfl rfl (by decide +kernel) ⟨Nat.le_of_ble_eq_true rfl, Nat.le_of_ble_eq_true rfl⟩) (k_preV hE hZ hP hD hS hA [2, 0, 1] rfl (by decide) (va_recv hE.1 hP (ci := 7) (q0 := 2) rfl rfl)) rfl rfl hl.1 rfl (lv_room (Nat.le_of_ble_eq_true rfl)) dX7_descend_31 ⟨Nat.le_of_ble_eq_true rfl, Nat.le_of_ble_eq_true rfl⟩) (fun w1 H locs hw hP hD hS => ?_)
        obtain ⟨f2_9, rfl, hf2_10⟩ := hw
        have hP : va_P g.1 vwCl [(h0, .inr (7, [.int (nI t), .ref t1, .ref t2])), (t1, ai g 7 f2_9), (t2, ai g 63 fl)] H := hP
        have hD : va_D A [(h0, .inr (7, [.int (nI t), .ref t1, .ref t2])), (t1, ai g 7 f2_9), (t2, ai g 63 fl)] := hD
        refine lv_aload_n hx hb dX7_descend_34 rfl (lv_at hl 1 rfl) ?_
        refine va_getsN hx hb hZ.zPAIRS hS hown (va_Nw.use rfl (hE.nw (w := .fieldLinkNest RX7 29 "SoundLaws" "PAIRS" "[I" RX8) 15 rfl)) (fun _ h9 => h9) dX7_descend_35 ?_
        refine lv_iload_n hx hb dX7_descend_38 rfl (lv_at hl 0 rfl) ?_
        refine lv_iconst (v := 1) hx hb dX7_descend_39 (by decide) ?_
        refine lv_iadd hx hb dX7_descend_40 ?_
        refine k_tld (fp t + 2 * (nd - t) + 1) (nI_1 _) (by omega) hx hb hZ.tPAIRS hS (by decide) (v := tb_PAIRS.getD (fp t + 2 * (nd - t) + 1) 0) rfl dX7_descend_41 ?_
        refine lv_topi (fun x_11 ex_11 => ?_)
        obtain rfl : x_11 = nI (pr (fp t + 2 * (nd - t) + 1)) := by rw [ex_11]; exact pr_tb (fp t + 2 * (nd - t) + 1) (by omega)
        have hpl42 := pr_lt (fp t + 2 * (nd - t) + 1) (by omega)
        refine lv_aload_n hx hb dX7_descend_42 rfl (lv_at hl 1 rfl) ?_
        refine va_get (D := g.1) (ci := 7) (v := .ref t1) (C := RX7) (T := TX7) (N := 3) hx hb hts q_X7_descend_f_f7 hown hE.1 hP 0 rfl rfl 1 (by decide) (hts (.fieldLink RX7 9 "SoundLaws$Tree" "sounds" "[I") q_X7_descend_f_2) (fun _ h9 => h9) rfl dX7_descend_43 ?_
        refine lv_iload_n hx hb dX7_descend_46 rfl (lv_at hl 2 rfl) ?_
        refine k_ald nd rfl (by omega) hx hb hE hP 1 rfl (by decide) dX7_descend_47 ?_
        refine lv_topi (fun x_12 ex_12 => ?_)
        obtain rfl : x_12 = nI (OS t a nd) := by rw [ex_12]; exact DS_at2 ht ht4 hnt (by omega) hv hf2_10
        refine k_cv (wr := []) hP hD hS hA [0, 1, 2] [] rfl rfl (by decide) (by decide) (va_runV (As := [.int (nI (pr (fp t + 2 * (nd - t) + 1))), .int (nI (OS t a nd))]) (rest := []) ⟨hx, hb, hml, hown, hts⟩ (c_X7_settle_f l g h0 t1 t2 t f2_9 fl (SP t a) (pr (fp t + 2 * (nd - t) + 1)) (OS t a nd) (by first | assumption | omega) (by first | assumption | omega) (by first | assumption | omega) (fun q s hs => hgl _ (Nat.not_lt.mp q) (Nat.lt_trans hch.2.1 (by omega)) s hs) H.size) (cwV 2 hts gX7_descend_X7_settle rfl rfl rfl (by decide +kernel) ⟨Nat.le_of_ble_eq_true rfl, Nat.le_of_ble_eq_true rfl⟩) (k_preV hE hZ hP hD hS hA [0, 1, 2] rfl (by decide) (va_recv hE.1 hP (ci := 7) (q0 := 0) rfl rfl)) rfl rfl hl.1 rfl (lv_room (Nat.le_of_ble_eq_true rfl)) dX7_descend_48 ⟨Nat.le_of_ble_eq_true rfl, Nat.le_of_ble_eq_true rfl⟩) (fun w1 H locs hw hP hD hS => ?_)
        obtain ⟨f2_14, rfl, hf2_15⟩ := hw
        have hP : va_P g.1 vwCl [(h0, .inr (7, [.int (nI t), .ref t1, .ref t2])), (t1, ai g 7 f2_14), (t2, ai g 63 fl)] H := hP
        have hD : va_D A [(h0, .inr (7, [.int (nI t), .ref t1, .ref t2])), (t1, ai g 7 f2_14), (t2, ai g 63 fl)] := hD
        refine lv_iinc (v := (nI (nd - 1))) (lv' := [(1, .int (nI (nd - 1))), (2, .int (nI (fp t + 2 * (nd - t)))), (0, .ref h0)]) hx hb dX7_descend_51 hl (k := 2) rfl (nI_m1 (by omega)) (by decide) rfl (fun ls hl => ?_)
        refine lv_goto (tgt := 5) hx hb dX7_descend_54 (by decide) ?_
        exact ih5 (nd - 1) _ (by omega) (by omega) (DS_s ht ht4 hnt (by omega) hv hf2_10 hf2_15) (by omega) _ _ _ (hP.sub [1, 2, 0] rfl) (hD.sub [1, 2, 0] (by decide) rfl) hS (lv_sub hl [2, 0] rfl)
  exact loop5 _ (nod t - 1) f (by omega) (by omega) (Or.inl ⟨by omega, hfa, hfr⟩) (Nat.lt_succ_self _) _ _ _ hP hD hS (lv_sub hl [1, 0] rfl)

/-! the law: rows of its own, and what its calls keep -/
section KL
variable {p : Program} {l : Launch} {e : Env} {R : Room} {s : State} {m : MethodId} {args : Array Value} {below : List Frame} {meth : Method} {c : Code} {H H0 : Heap} {locs : List Loc} {cells slots : Nat} {Q : State → Prop} {cc : ByteArray} {pc : Nat} {ls : Array Slot} {rest : List Value} {A : Nat → Prop}
theorem k_sld {b L : Nat} {xs : Nat → Int32} {i : Int32} (k : Nat) (hi : i = nI k) (hk : k < L) (hL : L < 2 ^ 31) (hx : p.tables.exec = Jvm.exec) (hb : c.code = cc) (hX : va_X b L xs s H0) (hbl : b < H0.size) (hbA : ¬ A b) (hS : va_S A H0 H locs) (hdg : decode cc pc = .ok (.iaload, 1)) (kk : W p l e R s m args below meth c H locs cells slots Q (F0 m (pc + 1) ls (.int (xs k) :: rest))) : W p l e R s m args below meth c H locs cells slots Q (F0 m pc ls (.int i :: .ref b :: rest)) := by
  subst hi
  refine va_sld hx hb hX hbl hbA hS (vp_in_nI hk hL) hdg ?_
  rw [nI_clamp (Nat.lt_trans hk hL)]
  exact kk
end KL
theorem nLt_le {p : Int32} {a : Nat} (h : a ≤ 110) : nLt p a ≤ 110 := by
  unfold nLt
  split
  · exact h
  · split <;> omega
theorem pgr_lt {p : Int32} {a : Nat} {f : Nat → Int32} (h : pgr a f) : pgr (nLt p a) (fLt p a f) := by
  unfold nLt fLt
  by_cases q : p < 1 ∨ 126 < p
  · rw [if_pos q, if_pos q]; exact h
  · rw [if_neg q, if_neg q]
    by_cases r : a < 110
    · rw [if_pos r, if_pos r]
      intro i hi
      by_cases e : i = a
      · have h1 : ¬ p < 1 := fun w => q (Or.inl w)
        have h2 : ¬ 126 < p := fun w => q (Or.inr w)
        obtain ⟨v, hv, rfl⟩ := nI_of (x := p) (fun w => h1 (Int32.lt_trans w (by decide)))
        refine ⟨v, ?_, by rw [e, pk_us]⟩
        exact Nat.not_le.mp (fun w => h2 (nI_lt (a := 126) (by omega) hv))
      · obtain ⟨v, hv, e2⟩ := h i (by omega)
        exact ⟨v, hv, by rw [pk_un e]; exact e2⟩
    · rw [if_neg r, if_neg r]; exact h
theorem pgr_0 {f : Nat → Int32} : pgr 0 f := fun i hi => absurd hi (Nat.not_lt_zero i)
theorem gst_ch {z t : Nat} {K L V K2 : Nat → Int32} {p q sd sd2 : Int32} (h : gst z t K L V) (hq : (sd2 = sd ∧ K2 = K) ∨ (sd2 = 0 ∧ ∃ k, k < z ∧ p = nI k ∧ ¬ isI q 5 = 0 ∧ K2 = upd K k q)) : gst z t K2 L V := by
  rcases hq with ⟨-, rfl⟩ | ⟨-, k, -, -, h5, rfl⟩
  · exact h
  · obtain ⟨v, hv, rfl⟩ := isI_of (by decide) h5
    exact ⟨h.1, h.2.1, h.2.2.1, rng_upd h.2.2.2.1 hv, h.2.2.2.2.1, h.2.2.2.2.2⟩
theorem gst_cp {z t z2 : Nat} {K L V K2 L2 V2 : Nat → Int32} {p sd sd2 : Int32} (h : gst z t K L V) (hq : (sd2 = sd ∧ z2 = z ∧ K2 = K ∧ L2 = L ∧ V2 = V) ∨ (sd2 = 0 ∧ z < 6 ∧ z2 = z + 1 ∧ ∃ k, k < z ∧ p = nI k ∧ K2 = upd K z (K k) ∧ L2 = upd L z (L k) ∧ V2 = va_cpy V V (16 * k) (16 * z) 16)) : gst z2 t K2 L2 V2 := by
  rcases hq with ⟨-, rfl, rfl, rfl, rfl⟩ | ⟨-, h6, rfl, k, hk, -, rfl, rfl, rfl⟩
  · exact h
  · exact ⟨by omega, fun _ => h.2.1 (by omega), h.2.2.1, rng_at_upd h.2.2.2.1 (by have := h.1; omega), rng_at_upd h.2.2.2.2.1 (by have := h.1; omega), rng_cpy h.2.2.2.2.2 h.2.2.2.2.2 (by have := h.1; omega)⟩
theorem rng_sh {k z b : Nat} {K C : Nat → Int32} (hz : z ≤ 6) (h : rng 6 b K) (e : ∀ i, i < 6 → C i = K (sh k z i)) : rng 6 b C := fun i hi => by
  obtain ⟨v, hv, q⟩ := h (sh k z i) (sh_lt hz hi)
  exact ⟨v, hv, (e i hi).trans q⟩
theorem gst_tk {z t z2 : Nat} {K L V K2 L2 V2 : Nat → Int32} {p sd sd2 : Int32} {C1 A1 : Nat → Int32} (h : gst z t K L V) (hq : (sd2 = sd ∧ z2 = z ∧ K2 = K ∧ L2 = L ∧ V2 = V ∧ C1 = A1) ∨ (sd2 = 0 ∧ ¬ z = 1 ∧ z2 = z - 1 ∧ ∃ k, k < z ∧ p = nI k ∧ (∀ i, i < 6 → K2 i = K (sh k z i)) ∧ (∀ i, i < 6 → L2 i = L (sh k z i)) ∧ (∀ i, i < 6 → ∀ x, x < 16 → V2 (16 * i + x) = V (16 * sh k z i + x)))) : gst z2 t K2 L2 V2 := by
  rcases hq with ⟨-, rfl, rfl, rfl, rfl, -⟩ | ⟨-, h6, rfl, k, hk, -, e1, e2, e3⟩
  · exact h
  · refine ⟨by have := h.1; omega, fun _ => h.2.1 (by omega), h.2.2.1, rng_sh h.1 h.2.2.2.1 e1, rng_sh h.1 h.2.2.2.2.1 e2, fun i hi => ?_⟩
    obtain ⟨v, hv, q⟩ := h.2.2.2.2.2 (16 * sh k z (i / 16) + i % 16) (by have := sh_lt (k := k) (i := i / 16) h.1 (by omega); omega)
    refine ⟨v, hv, ?_⟩
    rw [← q, ← e3 (i / 16) (by omega) (i % 16) (by omega), show 16 * (i / 16) + i % 16 = i by omega]
theorem frK {z t : Nat} {K L Rb K2 : Nat → Int32} {o2 o : Int32} (h : o = 0 → FR z t K L Rb) (ho : o2 = 1 ∨ (o2 = o ∧ K2 = K)) : o2 = 0 → FR z t K2 L Rb := fun e => by
  rcases ho with q | ⟨q, rfl⟩
  · rw [q] at e; exact absurd e (by decide)
  · exact h (q.symm.trans e)
theorem frO {z t : Nat} {K L Rb : Nat → Int32} {o2 o : Int32} (h : o = 0 → FR z t K L Rb) (ho : o2 = 1 ∨ o2 = o) : o2 = 0 → FR z t K L Rb := fun e => by
  rcases ho with q | q
  · rw [q] at e; exact absurd e (by decide)
  · exact h (q.symm.trans e)
theorem frZ {z z2 t : Nat} {K L Rb K2 L2 : Nat → Int32} {o2 o : Int32} (h : o = 0 → FR z t K L Rb) (ho : o2 = 1 ∨ (o2 = o ∧ z2 = z ∧ K2 = K ∧ L2 = L)) : o2 = 0 → FR z2 t K2 L2 Rb := fun e => by
  rcases ho with q | ⟨q, rfl, rfl, rfl⟩
  · rw [q] at e; exact absurd e (by decide)
  · exact h (q.symm.trans e)
theorem frR {z z2 t t2 : Nat} {K L Rb K2 L2 : Nat → Int32} {o2 o : Int32} (h : o = 0 → FR z t K L Rb) (ho : o2 = 1 ∨ (o2 = o ∧ z2 = z ∧ t2 = t ∧ K2 = K ∧ L2 = L)) : o2 = 0 → FR z2 t2 K2 L2 Rb := fun e => by
  rcases ho with q | ⟨q, rfl, rfl, rfl, rfl⟩
  · rw [q] at e; exact absurd e (by decide)
  · exact h (q.symm.trans e)
theorem psK_fns (w : PS) : psK (fns w).2 = psK w := by
  obtain ⟨du, rs, u, n, wl, hw, z, tg, K, L, V⟩ := w
  unfold fns
  dsimp only
  split
  · split <;> rfl
  · rfl
theorem psV_fns (w : PS) : psV (fns w).2 = psV w := by
  obtain ⟨du, rs, u, n, wl, hw, z, tg, K, L, V⟩ := w
  unfold fns
  dsimp only
  split
  · split <;> rfl
  · rfl
theorem fns_z (w : PS) : (fns w).2.2.2.2.2.2.2.1 = w.2.2.2.2.2.2.1 := by
  obtain ⟨du, rs, u, n, wl, hw, z, tg, K, L, V⟩ := w
  unfold fns
  dsimp only
  split
  · split <;> rfl
  · rfl
theorem fns_ok {w w2 : PS} (h : fns w = (1, w2)) : 2 ≤ w2.2.2.2.2.2.2.2.1 := by
  obtain ⟨du, rs, u, n, wl, hw, z, tg, K, L, V⟩ := w
  unfold fns at h
  dsimp only at h
  by_cases hd : du = 0
  · rw [if_pos hd] at h
    by_cases hq : stw u n tg (L rs) = 0
    · rw [if_pos hq] at h
      exact absurd (show (0 : Int32) = 1 from congrArg Prod.fst h) (by decide)
    · rw [if_neg hq] at h
      have e := congrArg Prod.snd h
      dsimp only at e
      rw [← e]
      exact (stw_w hq).2.1
  · rw [if_neg hd] at h
    exact absurd (show (0 : Int32) = 1 from congrArg Prod.fst h) (by decide)
theorem flt_K {Pg : Nat → Int32} {a : Nat} {q w2 : PS} {r r2 : Int32} {y yt : Nat} {x3 x4 x5 : Int32} {RK RL RS : Nat → Int32} (h : prd Pg a q r w2) (h2 : fltP Pg a q r2 y yt x3 x4 x5 RK RL RS) : r = r2 ∧ (∀ k, k < 5 → RK k = psK w2 k) ∧ (∀ i, i < 80 → RS i = psV w2 i) := by
  obtain ⟨w, hp, -, -, hk, hs, -⟩ := h2
  obtain ⟨e, rfl⟩ := prd_uniq h hp
  exact ⟨e, hk, hs⟩
theorem sets_c {Pg : Nat → Int32} {a z t n : Nat} {q w2 : PS} {r re sd kp : Int32} {K L V K2 L2 V2 A3 : Nat → Int32} {a2 : Nat} {re2 sd2 kp2 zs2 z2 u2 : Int32} (hI : RI q) (hg : gst z t K L V) (ha : a ≤ 110) (hpg : pgr a Pg) (hn : n ≤ 6) (hb : ∀ i, i < n → vp_nar .boolean (A3 i) = A3 i) (h : setsP Pg a q r w2 (a, re, sd, kp, nI n, nI z, nI t, K, L, V) (a2, re2, sd2, kp2, zs2, z2, u2, K2, L2, V2)) : RI w2 ∧ a2 ≤ 110 ∧ pgr a2 Pg ∧ ∃ zz tt nn, z2 = nI zz ∧ u2 = nI tt ∧ zs2 = nI nn ∧ gst zz tt K2 L2 V2 ∧ nn ≤ 6 ∧ (∀ i, i < nn → vp_nar .boolean (A3 i) = A3 i) := by
  obtain ⟨x, w, hp, h⟩ := h
  have hw := prd_RI hI hp
  rcases h with ⟨h1, -, h2⟩ | ⟨-, h1, -, h2⟩
  · simp only [Prod.mk.injEq] at h2
    obtain ⟨rfl, -, -, -, rfl, rfl, rfl, rfl, rfl, rfl⟩ := h2
    refine ⟨?_, ha, hpg, z, t, n, rfl, rfl, rfl, hg, hn, hb⟩
    rcases h1 with ⟨-, rfl⟩ | ⟨-, -, rfl⟩
    · exact hw
    · exact RI_fns hw
  · have h3 := fns_ok h1
    have h4 : RI w2 := by have := RI_fns hw; rw [h1] at this; exact this
    obtain ⟨du, rs, u, n9, wl, hw9, zz, tg, DK, DL, DV⟩ := w2
    unfold stR at h2
    simp only [Prod.mk.injEq] at h2
    obtain ⟨rfl, -, -, -, rfl, rfl, rfl, rfl, rfl, rfl⟩ := h2
    obtain ⟨g1, g2, g3, g4, g5, g6, g7, g8, g9, gK, gL, gV⟩ := id h4
    exact ⟨h4, by omega, pgr_0, zz, tg, 0, rfl, rfl, rfl, ⟨by omega, fun _ => h3, g8, rng_cpy gK hg.2.2.2.1 (by omega), rng_cpy gL hg.2.2.2.2.1 (by omega), rng_cpy gV hg.2.2.2.2.2 (by omega)⟩, by omega, fun i hi => absurd hi (Nat.not_lt_zero i)⟩
theorem sets_m {Pg : Nat → Int32} {a z t n : Nat} {q : PS} {r n12 o16 : Int32} {K L V K2 L2 V2 RK RL RS Rb : Nat → Int32} {a2 : Nat} {z2 u2 n2 o2 s2 : Int32} (hg : gst z t K L V) (hn : n ≤ 6) (hfr : o16 = 0 → FR z t K L Rb) (h : mstP Pg a q r RK RL RS (a, nI z, nI t, n12, o16, nI n, K, L, V) (a2, z2, u2, n2, o2, s2, K2, L2, V2)) : ∃ zz tt nn, z2 = nI zz ∧ u2 = nI tt ∧ s2 = nI nn ∧ gst zz tt K2 L2 V2 ∧ nn ≤ 6 ∧ (o2 = 0 → FR zz tt K2 L2 Rb) := by
  obtain ⟨x, w, hp, hI, hS, hk, hs, h⟩ := h
  rcases h with ⟨-, h2, -⟩ | ⟨-, hf, -, ⟨y, yt, x3, x4, x5, hM⟩, h2⟩
  · simp only [Prod.mk.injEq] at h2
    obtain ⟨rfl, rfl, rfl, rfl, rfl, rfl, rfl, rfl, rfl⟩ := h2
    exact ⟨z, t, n, rfl, rfl, rfl, hg, hn, hfr⟩
  · obtain ⟨du, rs, u, n9, wl, hw9, zz, tg, DK, DL, DV⟩ := w
    obtain ⟨hd, hq, hm⟩ := hf
    have hlen := RL_len hd hM hI hS hq
    obtain ⟨rfl, rfl, rfl, -, rfl, rfl, k1, k2, l1, l2, v1, v2⟩ := h2
    obtain ⟨g1, g2, g3, g4, g5, g6, g7, g8, g9, gK, gL, gV⟩ := id hI
    dsimp only at k1 k2 l1 l2
    refine ⟨zz, u + 1, 0, rfl, rfl, rfl, ⟨by omega, fun _ => (stw_w hq).2.1, by omega, fun k hk6 => ?_, fun k hk6 => ?_, fun i hi => ?_⟩, by omega, fun e => absurd e (by decide)⟩
    · by_cases e : k < zz
      · rw [k1 k e, hk k (by omega)]; exact gK k hk6
      · rw [k2 k (by omega)]; exact hg.2.2.2.1 k hk6
    · by_cases e : k < zz
      · obtain ⟨l, hl, el⟩ := hlen k e
        exact ⟨l, by omega, by rw [l1 k e]; exact el⟩
      · rw [l2 k (by omega)]; exact hg.2.2.2.2.1 k hk6
    · by_cases e : i < 80
      · rw [v1 i e, hs i e]; exact gV i hi
      · rw [v2 i (by omega)]; exact hg.2.2.2.2.2 i hi
/-- both read alike -/
theorem sets_j {Pg : Nat → Int32} {a : Nat} {rs u n wl : Nat} {DK DL DV : Nat → Int32} {w2 : PS} {r r2 : Int32} {RK RL RS : Nat → Int32} {a2 am2 : Nat} {o8 n8 : Int32 × Int32 × Int32 × Int32 × Int32 × Int32 × (Nat → Int32) × (Nat → Int32) × (Nat → Int32)} {o9 n9 : Int32 × Int32 × Int32 × Int32 × Int32 × (Nat → Int32) × (Nat → Int32) × (Nat → Int32)} (ha : a ≤ 110) (hI : RI (1, rs, u, n, wl, 0, 0, 0, DK, DL, DV)) (h : setsP Pg a (1, rs, u, n, wl, 0, 0, 0, DK, DL, DV) r w2 (a, o8) (a2, n8)) (h2 : mstP Pg a (1, rs, u, n, wl, 0, 0, 0, DK, DL, DV) r2 RK RL RS (a, o9) (am2, n9)) : a2 = am2 ∧ r = r2 ∧ (∀ k, k < 5 → RK k = psK w2 k) ∧ (∀ i, i < 80 → RS i = psV w2 i) := by
  obtain ⟨x, w, hp, h⟩ := h
  obtain ⟨x2, w3, hp2, hI3, hS3, hk, hs, h2⟩ := h2
  obtain ⟨rfl, rfl⟩ := prd_uniq hp hp2
  have hW3 : WI w := by
    obtain ⟨j, -, -, hr, -⟩ := hp
    exact (prun_SW hI SI_0 WI_0 j w hr).2
  have hkk : ∀ v : PS, (v = w ∨ v = (fns w).2) → (∀ k, k < 5 → RK k = psK v k) ∧ (∀ i, i < 80 → RS i = psV v i) := fun v hv => by
    rcases hv with rfl | rfl
    · exact ⟨hk, hs⟩
    · rw [psK_fns, psV_fns]; exact ⟨hk, hs⟩
  rcases h with ⟨h1, hr1, e1⟩ | ⟨h0, h1, hr1, e1⟩
  · have ea : a2 = a := congrArg Prod.fst e1
    have hv : w2 = w ∨ w2 = (fns w).2 := by
      rcases h1 with ⟨-, h1⟩ | ⟨-, -, h1⟩
      · exact Or.inl h1
      · exact Or.inr h1
    rcases h2 with ⟨hr2, e2, -⟩ | ⟨h3, hf, hr2, ⟨y, yt, x3, x4, x5, hM⟩, -⟩
    · exact ⟨ea.trans (congrArg Prod.fst e2).symm, hr1.trans hr2.symm, hkk w2 hv⟩
    · rcases h1 with ⟨h1, -⟩ | ⟨-, h1, -⟩
      · exact absurd h1 h3
      · rw [(fin_iff hI3 hS3 hW3 hM).mp hf] at h1
        exact absurd h1 (by decide)
  · have hv : w2 = w ∨ w2 = (fns w).2 := Or.inr (by rw [h1])
    have hf1 : (fns w).1 = 1 := by rw [h1]
    have hz : w2.2.2.2.2.2.2.1 = w.2.2.2.2.2.2.1 := by
      have := fns_z w
      rw [h1] at this
      exact this
    rcases h2 with ⟨hr2, e2, h3 | ⟨h3, y, yt, x3, x4, x5, hM⟩⟩ | ⟨h3, hf, hr2, -, e2⟩
    · exact absurd h3 h0
    · exact absurd ((fin_iff hI3 hS3 hW3 hM).mpr hf1) h3
    · obtain ⟨x1, x2, x3, x4, x5, x6, x7, x8, x9⟩ := o8
      obtain ⟨y1, y2, y3, y4, y5, y6, y7, y8⟩ := o9
      obtain ⟨n1, n2, n3, n4, n5, n6, n7, n8⟩ := n9
      have e3 : a2 = 0 := congrArg Prod.fst e1
      exact ⟨e3.trans e2.1.symm, by rw [hr1, hr2, hz], hkk w2 hv⟩
/-! what the calls of both sides do to the sets, as one -/
theorem in4_eq (p : Int32) : inL p.toInt64 0 3 = isI p 4 := (show inL p.toInt64 0 3 = inL p.toInt64 0 (nI 3).toInt64 from rfl).trans (inL_n 3 (by decide) p)
theorem in5_eq (p : Int32) : inL p.toInt64 0 4 = isI p 5 := (show inL p.toInt64 0 4 = inL p.toInt64 0 (nI 4).toInt64 from rfl).trans (inL_n 4 (by decide) p)
theorem in9_eq (p : Int32) : inL p.toInt64 0 8 = isI p 9 := (show inL p.toInt64 0 8 = inL p.toInt64 0 (nI 8).toInt64 from rfl).trans (inL_n 8 (by decide) p)
theorem cpy_s {V W : Nat → Int32} {i j x : Nat} (h : ∀ m, W m = va_cpy V V (16 * i) (16 * j) x m) (hx : x < 16) : ∀ m, upd W (16 * j + x) (W (16 * i + x)) m = va_cpy V V (16 * i) (16 * j) (x + 1) m := fun m => by
  by_cases e : m = 16 * j + x
  · rw [e, pk_us, h, pk_cpy_out (by omega), pk_cpy_in (by omega) (by omega)]
    congr 1
    omega
  · rw [pk_un e, h m]
    by_cases q : 16 * j ≤ m ∧ m < 16 * j + x
    · rw [pk_cpy_in q.1 q.2, pk_cpy_in q.1 (by omega)]
    · rw [pk_cpy_out (by omega), pk_cpy_out (by omega)]
theorem cpy_0 {V : Nat → Int32} {i j : Nat} : ∀ m, V m = va_cpy V V i j 0 m := fun m => by rw [pk_cpy_out (by omega)]
def nSe (p q : Int32) (z n : Nat) : Nat := if isI p z = 0 then n else if isI q 4 = 0 then n else if n < 6 then n + 1 else n
def rIm (z : Nat) : Int32 := if z = 0 then (-103) else nI z
theorem nSe_le {p q : Int32} {z n : Nat} (h : n ≤ 6) : nSe p q z n ≤ 6 := by
  unfold nSe
  split
  · exact h
  · split
    · exact h
    · split <;> omega
theorem lck_1 {z : Nat} (h : ¬ lck z = 0) : z = 0 := Decidable.of_not_not (fun q => h (show lck z = 0 from if_neg q))
theorem lck_n {z : Nat} (h : lck z = 0) : ¬ z = 0 := Nat.pos_iff_ne_zero.mp (lck_0 h)
def plc (p x : Int32) : Int32 := if p < 0 ∨ ¬ p < x then 0 else 1
def onl (V : Nat → Int32) (b q n : Nat) (p : Int32) : Int32 := if p = 0 then sil V b q n else 0
def rPt (p1 p2 p3 p4 : Int32) (z t : Nat) (L V : Nat → Int32) : Int32 := if isI p1 z = 0 then (-101) else if isI p2 t = 0 then (-101) else if plc p3 (L p1.toNatClampNeg) = 0 then (-101) else if isI p4 9 = 0 then (-102) else if onl V (16 * p1.toNatClampNeg + 4 * p2.toNatClampNeg) p3.toNatClampNeg (L p1.toNatClampNeg).toNatClampNeg p4 = 0 then V (16 * p1.toNatClampNeg + 4 * p2.toNatClampNeg + p3.toNatClampNeg) else (-103)
def vPt (p1 p2 p3 p4 : Int32) (z t : Nat) (L V : Nat → Int32) : Nat → Int32 := if isI p1 z = 0 then V else if isI p2 t = 0 then V else if plc p3 (L p1.toNatClampNeg) = 0 then V else if isI p4 9 = 0 then V else if onl V (16 * p1.toNatClampNeg + 4 * p2.toNatClampNeg) p3.toNatClampNeg (L p1.toNatClampNeg).toNatClampNeg p4 = 0 then upd V (16 * p1.toNatClampNeg + 4 * p2.toNatClampNeg + p3.toNatClampNeg) p4 else V
def mpl (p1 p3 : Int32) (z : Nat) (L : Nat → Int32) : Int32 := if isI p1 z = 0 then 0 else plc p3 (L p1.toNatClampNeg)
section PT
variable {p1 p2 p3 p4 : Int32} {z t k u q n v : Nat} {L V : Nat → Int32}
theorem pt_a (h : isI p1 z = 0) : rPt p1 p2 p3 p4 z t L V = (-101) ∧ vPt p1 p2 p3 p4 z t L V = V := ⟨if_pos h, if_pos h⟩
theorem pt_b (h : isI p2 t = 0) : rPt p1 p2 p3 p4 z t L V = (-101) ∧ vPt p1 p2 p3 p4 z t L V = V := by
  by_cases q : isI p1 z = 0
  · exact pt_a q
  · exact ⟨by unfold rPt; rw [if_neg q, if_pos h], by unfold vPt; rw [if_neg q, if_pos h]⟩
theorem pt_m (h : mpl p1 p3 z L = 0) : rPt p1 p2 p3 p4 z t L V = (-101) ∧ vPt p1 p2 p3 p4 z t L V = V := by
  by_cases q : isI p1 z = 0
  · exact pt_a q
  · unfold mpl at h
    rw [if_neg q] at h
    by_cases r : isI p2 t = 0
    · exact pt_b r
    · exact ⟨by unfold rPt; rw [if_neg q, if_neg r, if_pos h], by unfold vPt; rw [if_neg q, if_neg r, if_pos h]⟩
theorem pt_c (hk : k < z) (hz : z ≤ 6) (h : plc p3 (L k) = 0) : rPt (nI k) p2 p3 p4 z t L V = (-101) ∧ vPt (nI k) p2 p3 p4 z t L V = V := pt_m (by
  unfold mpl
  rw [isI_lt hk (by omega), if_neg (by decide), nI_clamp (by omega)]
  exact h)
theorem plc_lt (h : q < n) (hn : n < 2 ^ 31) : plc (nI q) (nI n) = 1 := isI_lt h hn
theorem pt_d (hk : k < z) (hz : z ≤ 6) (hu : u < t) (ht : t ≤ 4) (hL : L k = nI n) (hn : n < 5) (hq : q < n) (h : isI p4 9 = 0) : rPt (nI k) (nI u) (nI q) p4 z t L V = (-102) ∧ vPt (nI k) (nI u) (nI q) p4 z t L V = V := by
  unfold rPt vPt
  rw [isI_lt hk (by omega), isI_lt hu (by omega), nI_clamp (n := k) (by omega), hL, plc_lt hq (by omega), if_neg (by decide), if_neg (by decide), if_neg (by decide), if_pos h, if_neg (by decide), if_neg (by decide), if_neg (by decide), if_pos h]
  exact ⟨rfl, rfl⟩
theorem pt_e (hk : k < z) (hz : z ≤ 6) (hu : u < t) (ht : t ≤ 4) (hL : L k = nI n) (hn : n < 5) (hq : q < n) (hv : v < 9) : rPt (nI k) (nI u) (nI q) (nI v) z t L V = (if onl V (16 * k + 4 * u) q n (nI v) = 0 then V (16 * k + 4 * u + q) else (-103)) ∧ vPt (nI k) (nI u) (nI q) (nI v) z t L V = (if onl V (16 * k + 4 * u) q n (nI v) = 0 then upd V (16 * k + 4 * u + q) (nI v) else V) := by
  constructor
  · unfold rPt
    rw [isI_lt hk (by omega), isI_lt hu (by omega), nI_clamp (n := k) (by omega), nI_clamp (n := u) (by omega), nI_clamp (n := q) (by omega), hL, nI_clamp (n := n) (by omega), plc_lt hq (by omega), isI_lt hv (by decide), if_neg (by decide), if_neg (by decide), if_neg (by decide), if_neg (by decide)]
  · unfold vPt
    rw [isI_lt hk (by omega), isI_lt hu (by omega), nI_clamp (n := k) (by omega), nI_clamp (n := u) (by omega), nI_clamp (n := q) (by omega), hL, nI_clamp (n := n) (by omega), plc_lt hq (by omega), isI_lt hv (by decide), if_neg (by decide), if_neg (by decide), if_neg (by decide), if_neg (by decide)]
theorem pt_ok (hk : k < z) (hz : z ≤ 6) (hu : u < t) (ht : t ≤ 4) (hL : L k = nI n) (hn : n < 5) (hq : q < n) (hv : v < 9) (h : onl V (16 * k + 4 * u) q n (nI v) = 0) : rPt (nI k) (nI u) (nI q) (nI v) z t L V = V (16 * k + 4 * u + q) ∧ vPt (nI k) (nI u) (nI q) (nI v) z t L V = upd V (16 * k + 4 * u + q) (nI v) := by
  obtain ⟨a, b⟩ := pt_e (V := V) hk hz hu ht hL hn hq hv
  exact ⟨by rw [a, if_pos h], by rw [b, if_pos h]⟩
theorem pt_no (hk : k < z) (hz : z ≤ 6) (hu : u < t) (ht : t ≤ 4) (hL : L k = nI n) (hn : n < 5) (hq : q < n) (hv : v < 9) (h : ¬ onl V (16 * k + 4 * u) q n (nI v) = 0) : rPt (nI k) (nI u) (nI q) (nI v) z t L V = (-103) ∧ vPt (nI k) (nI u) (nI q) (nI v) z t L V = V := by
  obtain ⟨a, b⟩ := pt_e (V := V) hk hz hu ht hL hn hq hv
  exact ⟨by rw [a, if_neg h], by rw [b, if_neg h]⟩
end PT
theorem sil_iff {V : Nat → Int32} {b o : Nat} : ∀ n, sil V b o n = 0 ↔ ∃ a, a < n ∧ ¬ a = o ∧ ¬ V (b + a) = 0
  | 0 => ⟨fun h => absurd (show (1 : Int32) = 0 from h) (by decide), fun ⟨a, h, _⟩ => absurd h (Nat.not_lt_zero a)⟩
  | n + 1 => by
    by_cases q : ¬ n = o ∧ ¬ V (b + n) = 0
    · rw [show sil V b o (n + 1) = 0 from if_pos q]
      exact ⟨fun _ => ⟨n, by omega, q.1, q.2⟩, fun _ => rfl⟩
    · rw [show sil V b o (n + 1) = sil V b o n from if_neg q, sil_iff n]
      constructor
      · rintro ⟨a, h1, h2, h3⟩
        exact ⟨a, by omega, h2, h3⟩
      · rintro ⟨a, h1, h2, h3⟩
        by_cases e : a = n
        · rw [e] at h2 h3; exact absurd ⟨h2, h3⟩ q
        · exact ⟨a, by omega, h2, h3⟩
theorem onl_iff {V : Nat → Int32} {b q n : Nat} {p : Int32} (hq : q < n) : onl V b q n p = 0 ↔ ∃ i, i < n ∧ ¬ upd V (b + q) p (b + i) = 0 := by
  unfold onl
  by_cases hp : p = 0
  · rw [if_pos hp, sil_iff n]
    constructor
    · rintro ⟨a, h1, h2, h3⟩
      exact ⟨a, h1, by rw [pk_un (by omega)]; exact h3⟩
    · rintro ⟨a, h1, h3⟩
      by_cases e : a = q
      · rw [e, pk_us] at h3; exact absurd hp h3
      · exact ⟨a, h1, e, by rw [pk_un (by omega)] at h3; exact h3⟩
  · rw [if_neg hp]
    exact ⟨fun _ => ⟨q, hq, by rw [pk_us]; exact hp⟩, fun _ => rfl⟩
theorem upd_back {V : Nat → Int32} {i : Nat} {x : Int32} : upd (upd V i x) i (V i) = V := funext (fun m => by
  by_cases e : m = i
  · rw [e, pk_us]
  · rw [pk_un e, pk_un e])
/-! two tongues change places -/
def sw (i j u : Nat) : Nat := if u = i then j else if u = j then i else u
def XV (i j : Nat) (V : Nat → Int32) (D : Nat → Nat → Prop) (W : Nat → Int32) : Prop := ∀ k, k < 6 → ∀ u, u < 4 → ∀ x, x < 4 → (D k x → W (16 * k + 4 * u + x) = V (16 * k + 4 * sw i j u + x)) ∧ (¬ D k x → W (16 * k + 4 * u + x) = V (16 * k + 4 * u + x))
theorem sw_lt {i j u : Nat} (hi : i < 4) (hj : j < 4) (hu : u < 4) : sw i j u < 4 := by
  unfold sw
  split
  · exact hj
  · split
    · exact hi
    · exact hu
theorem XV_0 {i j : Nat} {V : Nat → Int32} {D : Nat → Nat → Prop} (h : ∀ k x, ¬ D k x) : XV i j V D V := fun k _ u _ x _ => ⟨fun q => absurd q (h k x), fun _ => rfl⟩
theorem XV_s {i j a q : Nat} {V W : Nat → Int32} {D E : Nat → Nat → Prop} (hi : i < 4) (hj : j < 4) (hij : ¬ i = j) (ha : a < 6) (hq : q < 4) (h : XV i j V D W) (hn : ¬ D a q) (hE : ∀ k x, k < 6 → x < 4 → (E k x ↔ (D k x ∨ (k = a ∧ x = q)))) : XV i j V E (upd (upd W (16 * a + 4 * i + q) (W (16 * a + 4 * j + q))) (16 * a + 4 * j + q) (W (16 * a + 4 * i + q))) := fun k hk u hu x hx => by
  have hWi := (h a ha i hi q hq).2 hn
  have hWj := (h a ha j hj q hq).2 hn
  by_cases e : k = a ∧ x = q
  · obtain ⟨rfl, rfl⟩ := e
    refine ⟨fun _ => ?_, fun ne => absurd ((hE k x hk hx).mpr (Or.inr ⟨rfl, rfl⟩)) ne⟩
    unfold sw
    by_cases e1 : u = i
    · rw [e1, if_pos rfl, pk_un (by omega), pk_us, hWj]
    · rw [if_neg e1]
      by_cases e2 : u = j
      · rw [e2, if_pos rfl, pk_us, hWi]
      · rw [if_neg e2, pk_un (by omega), pk_un (by omega)]
        exact (h k hk u hu x hx).2 hn
  · have o1 : ¬ 16 * k + 4 * u + x = 16 * a + 4 * j + q := fun w => e ⟨by omega, by omega⟩
    have o2 : ¬ 16 * k + 4 * u + x = 16 * a + 4 * i + q := fun w => e ⟨by omega, by omega⟩
    rw [pk_un o1, pk_un o2]
    refine ⟨fun q1 => (h k hk u hu x hx).1 ?_, fun q1 => (h k hk u hu x hx).2 (fun q2 => q1 ((hE k x hk hx).mpr (Or.inl q2)))⟩
    rcases (hE k x hk hx).mp q1 with w | w
    · exact w
    · exact absurd w e
theorem XV_D {i j : Nat} {V W : Nat → Int32} {D E : Nat → Nat → Prop} (h : XV i j V D W) (hE : ∀ k x, k < 6 → x < 4 → (E k x ↔ D k x)) : XV i j V E W := fun k hk u hu x hx => ⟨fun q => (h k hk u hu x hx).1 ((hE k x hk hx).mp q), fun q => (h k hk u hu x hx).2 (fun w => q ((hE k x hk hx).mpr w))⟩
theorem XV_rng {i j : Nat} {V W : Nat → Int32} {D : Nat → Nat → Prop} (hi : i < 4) (hj : j < 4) (h : XV i j V D W) (hV : rng 96 9 V) : rng 96 9 W := fun m hm => by
  have e : 16 * (m / 16) + 4 * (m % 16 / 4) + m % 4 = m := by omega
  have hu : m % 16 / 4 < 4 := by omega
  have hs := sw_lt hi hj hu
  obtain ⟨h1, h2⟩ := h (m / 16) (by omega) (m % 16 / 4) hu (m % 4) (by omega)
  rw [e] at h1 h2
  by_cases q : D (m / 16) (m % 4)
  · rw [h1 q]; exact hV _ (by omega)
  · rw [h2 q]; exact hV _ hm
theorem exs {a q : Nat} {L : Nat → Int32} : ∀ k x, k < 6 → x < 4 → (((k < a ∧ nI x < L k) ∨ (k = a ∧ x < q + 1)) ↔ (((k < a ∧ nI x < L k) ∨ (k = a ∧ x < q)) ∨ (k = a ∧ x = q))) := fun k x _ _ => by
  constructor
  · rintro (h | h)
    · exact Or.inl (Or.inl h)
    · by_cases e : x = q
      · exact Or.inr ⟨h.1, e⟩
      · exact Or.inl (Or.inr ⟨h.1, by omega⟩)
  · rintro ((h | h) | h)
    · exact Or.inl h
    · exact Or.inr ⟨h.1, by omega⟩
    · exact Or.inr ⟨h.1, by omega⟩
theorem exq {a n : Nat} {L : Nat → Int32} (en : L a = nI n) (hn : n < 5) : ∀ k x, k < 6 → x < 4 → ((k < a + 1 ∧ nI x < L k) ↔ ((k < a ∧ nI x < L k) ∨ (k = a ∧ x < n))) := fun k x _ hx => by
  by_cases e : k = a
  · subst e
    rw [en, nI_ltI (by omega) (by omega)]
    constructor
    · rintro ⟨-, h⟩; exact Or.inr ⟨rfl, h⟩
    · rintro (h | h)
      · exact absurd h.1 (Nat.lt_irrefl k)
      · exact ⟨by omega, h.2⟩
  · constructor
    · rintro ⟨h1, h2⟩; exact Or.inl ⟨by omega, h2⟩
    · rintro (h | h)
      · exact ⟨by omega, h.2⟩
      · exact absurd h.1 e
theorem isI_1 {p : Int32} {n : Nat} (h : ¬ isI p n = 0) : isI p n = 1 := by
  unfold isI at h ⊢
  by_cases q : p < 0 ∨ ¬ p < nI n
  · rw [if_pos q] at h; exact absurd rfl h
  · rw [if_neg q]
theorem mpl_of {p1 p3 : Int32} {z : Nat} {L : Nat → Int32} (hz : z ≤ 6) (hL : rng 6 5 L) (h : ¬ mpl p1 p3 z L = 0) : ∃ k, k < z ∧ p1 = nI k ∧ ∃ n, n < 5 ∧ L k = nI n ∧ ∃ q, q < n ∧ p3 = nI q := by
  unfold mpl at h
  by_cases q : isI p1 z = 0
  · rw [if_pos q] at h; exact absurd rfl h
  · rw [if_neg q] at h
    obtain ⟨k, hk, rfl⟩ := isI_of (by omega) q
    rw [nI_clamp (by omega)] at h
    obtain ⟨n, hn, en⟩ := hL k (by omega)
    rw [en] at h
    obtain ⟨x, hx, rfl⟩ := isI_of (p := p3) (z := n) (by omega) h
    exact ⟨k, hk, rfl, n, hn, en, x, hx, rfl⟩
def po_X9_as_f (g : GG) (k0 : Nat) (m0 : Nat) (s1 : Int32) (s2 : Int32) (s3 : Int32) (s4 : Int32) (s5 : Int32) (s6 : Int32) (m7 : Nat) (m8 : Nat) (m9 : Nat) (s11 : Int32) (s12 : Int32) (m13 : Nat) (m14 : Nat) (m15 : Nat) (s16 : Int32) (m17 : Nat) (m18 : Nat) (m19 : Nat) (m20 : Nat) (m21 : Nat) (m22 : Nat) (m23 : Nat) (m24 : Nat) (m25 : Nat) (m26 : Nat) (m27 : Nat) (m28 : Nat) (s29 : Int32) (m30 : Nat) (s31 : Int32) (s32 : Int32) (s33 : Int32) (s34 : Int32) (s35 : Int32) (m36 : Nat) (m37 : Nat) (m38 : Nat) (m39 : Nat) (s40 : Int64) (z : Nat) (K : Nat → Int32) (p1 : Int32) (p2 : Int32) : Int32 → va_W → Prop := fun (r : Int32) w => w = [(k0, .inr (9, [.ref m0, .int s1, .int s2, .int s3, .int s4, .int s5, .int s6, .ref m7, .ref m8, .ref m9, .int (nI z), .int s11, .int s12, .ref m13, .ref m14, .ref m15, .int s16, .ref m17, .ref m18, .ref m19, .ref m20, .ref m21, .ref m22, .ref m23, .ref m24, .ref m25, .ref m26, .ref m27, .ref m28, .int s29, .ref m30, .int s31, .int s32, .int s33, .int s34, .int s35, .ref m36, .ref m37, .ref m38, .ref m39, .long s40])), (m13, ai g 6 K)] ∧ (rAs p1 p2 z K = r)
theorem q_X9_as_f_0 : (Cond.constantLong RX9 259 (4)) ∈ wsX9_as := by decide +kernel
theorem q_X9_as_f_f9 : ∀ w ∈ u_ws RX9 TX9 41, w ∈ wsX9_as := by decide +kernel
theorem q_X9_as_f_2 : (Cond.fieldLink RX9 22 "SoundLawsModel" "kinds" "[I") ∈ wsX9_as := by decide +kernel
set_option maxHeartbeats 1500000 in
set_option maxRecDepth 100000 in
theorem c_X9_as_f (l : Launch) (g : GG) (k0 : Nat) (m0 : Nat) (s1 : Int32) (s2 : Int32) (s3 : Int32) (s4 : Int32) (s5 : Int32) (s6 : Int32) (m7 : Nat) (m8 : Nat) (m9 : Nat) (s11 : Int32) (s12 : Int32) (m13 : Nat) (m14 : Nat) (m15 : Nat) (s16 : Int32) (m17 : Nat) (m18 : Nat) (m19 : Nat) (m20 : Nat) (m21 : Nat) (m22 : Nat) (m23 : Nat) (m24 : Nat) (m25 : Nat) (m26 : Nat) (m27 : Nat) (m28 : Nat) (s29 : Int32) (m30 : Nat) (s31 : Int32) (s32 : Int32) (s33 : Int32) (s34 : Int32) (s35 : Int32) (m36 : Nat) (m37 : Nat) (m38 : Nat) (m39 : Nat) (s40 : Int64) (z : Nat) (K : Nat → Int32) (p1 : Int32) (p2 : Int32) (hz : z ≤ 6) (sz : Nat) : MetI l yX9_as wsX9_as ({ frames := 2, cells := 0, slots := 0, locals := 46 }) g [.ref k0, .int p1, .int p2] [(k0, .inr (9, [.ref m0, .int s1, .int s2, .int s3, .int s4, .int s5, .int s6, .ref m7, .ref m8, .ref m9, .int (nI z), .int s11, .int s12, .ref m13, .ref m14, .ref m15, .int s16, .ref m17, .ref m18, .ref m19, .ref m20, .ref m21, .ref m22, .ref m23, .ref m24, .ref m25, .ref m26, .ref m27, .ref m28, .int s29, .ref m30, .int s31, .int s32, .int s33, .int s34, .int s35, .ref m36, .ref m37, .ref m38, .ref m39, .long s40])), (m13, ai g 6 K)] sz (po_X9_as_f g k0 m0 s1 s2 s3 s4 s5 s6 m7 m8 m9 s11 s12 m13 m14 m15 s16 m17 m18 m19 m20 m21 m22 m23 m24 m25 m26 m27 m28 s29 m30 s31 s32 s33 s34 s35 m36 m37 m38 m39 s40 z K p1 p2) 0 0 := by
  refine k_of (l := l) (y := yX9_as) (ws := wsX9_as) (rm := { frames := 2, cells := 0, slots := 0, locals := 46 }) (mc := 0) (ms := 0) (av := [.ref k0, .int p1, .int p2]) (g := g) (wc := [(k0, .inr (9, [.ref m0, .int s1, .int s2, .int s3, .int s4, .int s5, .int s6, .ref m7, .ref m8, .ref m9, .int (nI z), .int s11, .int s12, .ref m13, .ref m14, .ref m15, .int s16, .ref m17, .ref m18, .ref m19, .ref m20, .ref m21, .ref m22, .ref m23, .ref m24, .ref m25, .ref m26, .ref m27, .ref m28, .int s29, .ref m30, .int s31, .int s32, .int s33, .int s34, .int s35, .ref m36, .ref m37, .ref m38, .ref m39, .long s40])), (m13, ai g 6 K)]) (Qc := fun A => va_Qi (po_X9_as_f g k0 m0 s1 s2 s3 s4 s5 s6 m7 m8 m9 s11 s12 m13 m14 m15 s16 m17 m18 m19 m20 m21 m22 m23 m24 m25 m26 m27 m28 s29 m30 s31 s32 s33 s34 s35 m36 m37 m38 m39 s40 z K p1 p2) (bk g A) A) (cc := cX9_as) (maxL := 4) (ret := (some .int)) (by decide) rfl (Nat.le_of_ble_eq_true rfl) ?_ sz
  intro p e s m below meth c hx hb hr hts hown hlocks hnm hml A hA hE hZ hP hD hS ls hl
  have hown : s.vm.findClass RX9 = some m.cls := hown
  have hl : lv_has ls 4 [(0, .ref k0), (1, .int p1), (2, .int p2)] := hl
  refine lv_aload_n hx hb dX9_as_0 rfl (lv_at hl 0 rfl) ?_
  refine lv_iload_n hx hb dX9_as_1 rfl (lv_at hl 1 rfl) ?_
  refine k_ci (wr := [(m13, ai g 6 K)]) hP hD hS hA [0] [1] rfl rfl (by decide) (by decide) (va_runV (As := [.int p1]) (rest := []) ⟨hx, hb, hml, hown, hts⟩ (c_X9_isSet_g l g k0 m0 s1 s2 s3 s4 s5 s6 m7 m8 m9 s11 s12 m13 m14 m15 s16 m17 m18 m19 m20 m21 m22 m23 m24 m25 m26 m27 m28 s29 m30 s31 s32 s33 s34 s35 m36 m37 m38 m39 s40 z p1 (by first | assumption | omega) s.heap.size) (cwV 1 hts gX9_as_X9_isSet rfl rfl rfl (by decide +kernel) ⟨Nat.le_of_ble_eq_true rfl, Nat.le_of_ble_eq_true rfl⟩) (k_preV hE hZ hP hD hS hA [0] rfl (by decide) (va_recv hE.1 hP (ci := 9) (q0 := 0) rfl rfl)) rfl rfl hl.1 rfl (lv_room (Nat.le_of_ble_eq_true rfl)) dX9_as_2 ⟨Nat.le_of_ble_eq_true rfl, Nat.le_of_ble_eq_true rfl⟩) (fun r_1 w1 H locs hw hP hD hS => ?_)
  obtain ⟨rfl, rfl⟩ := hw
  have hP : va_P g.1 vwCl [(m13, ai g 6 K), (k0, .inr (9, [.ref m0, .int s1, .int s2, .int s3, .int s4, .int s5, .int s6, .ref m7, .ref m8, .ref m9, .int (nI z), .int s11, .int s12, .ref m13, .ref m14, .ref m15, .int s16, .ref m17, .ref m18, .ref m19, .ref m20, .ref m21, .ref m22, .ref m23, .ref m24, .ref m25, .ref m26, .ref m27, .ref m28, .int s29, .ref m30, .int s31, .int s32, .int s33, .int s34, .int s35, .ref m36, .ref m37, .ref m38, .ref m39, .long s40]))] H := hP
  have hD : va_D A [(m13, ai g 6 K), (k0, .inr (9, [.ref m0, .int s1, .int s2, .int s3, .int s4, .int s5, .int s6, .ref m7, .ref m8, .ref m9, .int (nI z), .int s11, .int s12, .ref m13, .ref m14, .ref m15, .int s16, .ref m17, .ref m18, .ref m19, .ref m20, .ref m21, .ref m22, .ref m23, .ref m24, .ref m25, .ref m26, .ref m27, .ref m28, .int s29, .ref m30, .int s31, .int s32, .int s33, .int s34, .int s35, .ref m36, .ref m37, .ref m38, .ref m39, .long s40]))] := hD
  refine lv_if_ne (tgt := 11) hx hb dX9_as_5 (by decide) (fun c5_3 => ?_) (fun c5_3 => ?_)
  · skip
    obtain ⟨k1, hk1, rfl⟩ := isI_of (p := p1) (by omega) c5_3
    refine lv_iload_n hx hb dX9_as_11 rfl (lv_at hl 2 rfl) ?_
    refine lv_i2l hx hb dX9_as_12 rfl ?_
    refine lv_lconst (v := 0) hx hb dX9_as_13 (by decide) ?_
    refine lv_ldc2 hx hb hown (hts (.constantLong RX9 259 (4)) q_X9_as_f_0) dX9_as_14 ?_
    refine k_ci (wr := [(m13, ai g 6 K), (k0, .inr (9, [.ref m0, .int s1, .int s2, .int s3, .int s4, .int s5, .int s6, .ref m7, .ref m8, .ref m9, .int (nI z), .int s11, .int s12, .ref m13, .ref m14, .ref m15, .int s16, .ref m17, .ref m18, .ref m19, .ref m20, .ref m21, .ref m22, .ref m23, .ref m24, .ref m25, .ref m26, .ref m27, .ref m28, .int s29, .ref m30, .int s31, .int s32, .int s33, .int s34, .int s35, .ref m36, .ref m37, .ref m38, .ref m39, .long s40]))]) hP hD hS hA [] [0, 1] rfl rfl (by decide) (by decide) (va_runS (As := [.long ((p2 : Int32).toInt64), .long 0, .long 4]) (rest := []) ⟨hx, hb, hml, hown, hts⟩ (c_X9_in l g ((p2 : Int32).toInt64) 0 4  H.size) (va_cwS 3 hts gX9_as_X9_in rfl rfl rfl (by decide +kernel) ⟨Nat.le_of_ble_eq_true rfl, Nat.le_of_ble_eq_true rfl⟩) (k_preS hE hZ hP hD hS hA [] rfl (by decide)) rfl rfl hl.1 rfl (lv_room (Nat.le_of_ble_eq_true rfl)) dX9_as_17 ⟨Nat.le_of_ble_eq_true rfl, Nat.le_of_ble_eq_true rfl⟩) (fun r_4 w1 H locs hw hP hD hS => ?_)
    obtain ⟨rfl, rfl⟩ := hw
    have hP : va_P g.1 vwCl [(m13, ai g 6 K), (k0, .inr (9, [.ref m0, .int s1, .int s2, .int s3, .int s4, .int s5, .int s6, .ref m7, .ref m8, .ref m9, .int (nI z), .int s11, .int s12, .ref m13, .ref m14, .ref m15, .int s16, .ref m17, .ref m18, .ref m19, .ref m20, .ref m21, .ref m22, .ref m23, .ref m24, .ref m25, .ref m26, .ref m27, .ref m28, .int s29, .ref m30, .int s31, .int s32, .int s33, .int s34, .int s35, .ref m36, .ref m37, .ref m38, .ref m39, .long s40]))] H := hP
    have hD : va_D A [(m13, ai g 6 K), (k0, .inr (9, [.ref m0, .int s1, .int s2, .int s3, .int s4, .int s5, .int s6, .ref m7, .ref m8, .ref m9, .int (nI z), .int s11, .int s12, .ref m13, .ref m14, .ref m15, .int s16, .ref m17, .ref m18, .ref m19, .ref m20, .ref m21, .ref m22, .ref m23, .ref m24, .ref m25, .ref m26, .ref m27, .ref m28, .int s29, .ref m30, .int s31, .int s32, .int s33, .int s34, .int s35, .ref m36, .ref m37, .ref m38, .ref m39, .long s40]))] := hD
    refine lv_if_ne (tgt := 26) hx hb dX9_as_20 (by decide) (fun c20_6 => ?_) (fun c20_6 => ?_)
    · skip
      refine lv_iload_n hx hb dX9_as_26 rfl (lv_at hl 2 rfl) ?_
      refine lv_if_eq (tgt := 55) hx hb dX9_as_27 (by decide) (fun c27_7 => ?_) (fun c27_7 => ?_)
      · skip
        refine lv_iconst (v := 1) hx hb dX9_as_55 (by decide) ?_
        refine lv_goto (tgt := 60) hx hb dX9_as_56 (by decide) ?_
        refine lv_istore_n (lv' := [(3, .int 1), (0, .ref k0), (1, .int (nI k1)), (2, .int p2)]) hx hb dX9_as_60 rfl hl (by decide) rfl (fun ls hl => ?_)
        refine lv_iload_n hx hb dX9_as_61 rfl (lv_at hl 0 rfl) ?_
        refine lv_if_eq (tgt := 69) hx hb dX9_as_62 (by decide) (fun c62_8 => ?_) (fun c62_8 => ?_)
        · exact absurd c62_8 (by decide)
        · skip
          refine lv_iload_n hx hb dX9_as_65 rfl (lv_at hl 2 rfl) ?_
          refine lv_goto (tgt := 70) hx hb dX9_as_66 (by decide) ?_
          refine W.widen (k := 0) (n := 0) (Nat.le_of_ble_eq_true rfl) (Nat.le_of_ble_eq_true rfl) ?_
          have hP9 := hP.sub (ws' := [(k0, .inr (9, [.ref m0, .int s1, .int s2, .int s3, .int s4, .int s5, .int s6, .ref m7, .ref m8, .ref m9, .int (nI z), .int s11, .int s12, .ref m13, .ref m14, .ref m15, .int s16, .ref m17, .ref m18, .ref m19, .ref m20, .ref m21, .ref m22, .ref m23, .ref m24, .ref m25, .ref m26, .ref m27, .ref m28, .int s29, .ref m30, .int s31, .int s32, .int s33, .int s34, .int s35, .ref m36, .ref m37, .ref m38, .ref m39, .long s40])), (m13, ai g 6 K)]) [1, 0] rfl
          have hD9 := hD.sub (ws' := [(k0, .inr (9, [.ref m0, .int s1, .int s2, .int s3, .int s4, .int s5, .int s6, .ref m7, .ref m8, .ref m9, .int (nI z), .int s11, .int s12, .ref m13, .ref m14, .ref m15, .int s16, .ref m17, .ref m18, .ref m19, .ref m20, .ref m21, .ref m22, .ref m23, .ref m24, .ref m25, .ref m26, .ref m27, .ref m28, .int s29, .ref m30, .int s31, .int s32, .int s33, .int s34, .int s35, .ref m36, .ref m37, .ref m38, .ref m39, .long s40])), (m13, ai g 6 K)]) [1, 0] (by decide) rfl
          exact k_ri hx hb hr hlocks hS hP9 hD9 ⟨rfl, (by have hok : okd (K k1) p2 = 1 := (by unfold okd; rw [if_pos (Or.inl c27_7)]); unfold rAs; rw [if_neg c5_3, if_neg (show ¬ isI p2 5 = 0 from fun q => c20_6 ((in5_eq p2).trans q)), nI_clamp (by omega), if_neg (by rw [hok]; decide)])⟩ dX9_as_70
      · skip
        refine lv_iload_n hx hb dX9_as_30 rfl (lv_at hl 2 rfl) ?_
        refine lv_aload_n hx hb dX9_as_31 rfl (lv_at hl 0 rfl) ?_
        refine va_get (D := g.1) (ci := 9) (v := .ref m13) (C := RX9) (T := TX9) (N := 41) hx hb hts q_X9_as_f_f9 hown hE.1 hP 1 rfl rfl 13 (by decide) (hts (.fieldLink RX9 22 "SoundLawsModel" "kinds" "[I") q_X9_as_f_2) (fun _ h9 => h9) rfl dX9_as_32 ?_
        refine lv_iload_n hx hb dX9_as_35 rfl (lv_at hl 1 rfl) ?_
        refine k_ald k1 rfl (by omega) hx hb hE hP 0 rfl (by decide) dX9_as_36 ?_
        refine lv_icmp_eq (tgt := 55) hx hb dX9_as_37 (by decide) (fun c37_9 => ?_) (fun c37_9 => ?_)
        · skip
          refine lv_iconst (v := 1) hx hb dX9_as_55 (by decide) ?_
          refine lv_goto (tgt := 60) hx hb dX9_as_56 (by decide) ?_
          refine lv_istore_n (lv' := [(3, .int 1), (0, .ref k0), (1, .int (nI k1)), (2, .int p2)]) hx hb dX9_as_60 rfl hl (by decide) rfl (fun ls hl => ?_)
          refine lv_iload_n hx hb dX9_as_61 rfl (lv_at hl 0 rfl) ?_
          refine lv_if_eq (tgt := 69) hx hb dX9_as_62 (by decide) (fun c62_10 => ?_) (fun c62_10 => ?_)
          · exact absurd c62_10 (by decide)
          · skip
            refine lv_iload_n hx hb dX9_as_65 rfl (lv_at hl 2 rfl) ?_
            refine lv_goto (tgt := 70) hx hb dX9_as_66 (by decide) ?_
            refine W.widen (k := 0) (n := 0) (Nat.le_of_ble_eq_true rfl) (Nat.le_of_ble_eq_true rfl) ?_
            have hP9 := hP.sub (ws' := [(k0, .inr (9, [.ref m0, .int s1, .int s2, .int s3, .int s4, .int s5, .int s6, .ref m7, .ref m8, .ref m9, .int (nI z), .int s11, .int s12, .ref m13, .ref m14, .ref m15, .int s16, .ref m17, .ref m18, .ref m19, .ref m20, .ref m21, .ref m22, .ref m23, .ref m24, .ref m25, .ref m26, .ref m27, .ref m28, .int s29, .ref m30, .int s31, .int s32, .int s33, .int s34, .int s35, .ref m36, .ref m37, .ref m38, .ref m39, .long s40])), (m13, ai g 6 K)]) [1, 0] rfl
            have hD9 := hD.sub (ws' := [(k0, .inr (9, [.ref m0, .int s1, .int s2, .int s3, .int s4, .int s5, .int s6, .ref m7, .ref m8, .ref m9, .int (nI z), .int s11, .int s12, .ref m13, .ref m14, .ref m15, .int s16, .ref m17, .ref m18, .ref m19, .ref m20, .ref m21, .ref m22, .ref m23, .ref m24, .ref m25, .ref m26, .ref m27, .ref m28, .int s29, .ref m30, .int s31, .int s32, .int s33, .int s34, .int s35, .ref m36, .ref m37, .ref m38, .ref m39, .long s40])), (m13, ai g 6 K)]) [1, 0] (by decide) rfl
            exact k_ri hx hb hr hlocks hS hP9 hD9 ⟨rfl, (by have hok : okd (K k1) p2 = 1 := (by unfold okd; rw [if_pos (Or.inr (Or.inl c37_9.symm))]); unfold rAs; rw [if_neg c5_3, if_neg (show ¬ isI p2 5 = 0 from fun q => c20_6 ((in5_eq p2).trans q)), nI_clamp (by omega), if_neg (by rw [hok]; decide)])⟩ dX9_as_70
        · skip
          refine lv_iload_n hx hb dX9_as_40 rfl (lv_at hl 2 rfl) ?_
          refine lv_iconst (v := 1) hx hb dX9_as_41 (by decide) ?_
          refine lv_icmp_ne (tgt := 59) hx hb dX9_as_42 (by decide) (fun c42_11 => ?_) (fun c42_11 => ?_)
          · skip
            refine lv_iconst (v := 0) hx hb dX9_as_59 (by decide) ?_
            refine lv_istore_n (lv' := [(3, .int 0), (0, .ref k0), (1, .int (nI k1)), (2, .int p2)]) hx hb dX9_as_60 rfl hl (by decide) rfl (fun ls hl => ?_)
            refine lv_iload_n hx hb dX9_as_61 rfl (lv_at hl 0 rfl) ?_
            refine lv_if_eq (tgt := 69) hx hb dX9_as_62 (by decide) (fun c62_12 => ?_) (fun c62_12 => ?_)
            · skip
              refine lv_iconst (v := (-1)) hx hb dX9_as_69 (by decide) ?_
              refine W.widen (k := 0) (n := 0) (Nat.le_of_ble_eq_true rfl) (Nat.le_of_ble_eq_true rfl) ?_
              have hP9 := hP.sub (ws' := [(k0, .inr (9, [.ref m0, .int s1, .int s2, .int s3, .int s4, .int s5, .int s6, .ref m7, .ref m8, .ref m9, .int (nI z), .int s11, .int s12, .ref m13, .ref m14, .ref m15, .int s16, .ref m17, .ref m18, .ref m19, .ref m20, .ref m21, .ref m22, .ref m23, .ref m24, .ref m25, .ref m26, .ref m27, .ref m28, .int s29, .ref m30, .int s31, .int s32, .int s33, .int s34, .int s35, .ref m36, .ref m37, .ref m38, .ref m39, .long s40])), (m13, ai g 6 K)]) [1, 0] rfl
              have hD9 := hD.sub (ws' := [(k0, .inr (9, [.ref m0, .int s1, .int s2, .int s3, .int s4, .int s5, .int s6, .ref m7, .ref m8, .ref m9, .int (nI z), .int s11, .int s12, .ref m13, .ref m14, .ref m15, .int s16, .ref m17, .ref m18, .ref m19, .ref m20, .ref m21, .ref m22, .ref m23, .ref m24, .ref m25, .ref m26, .ref m27, .ref m28, .int s29, .ref m30, .int s31, .int s32, .int s33, .int s34, .int s35, .ref m36, .ref m37, .ref m38, .ref m39, .long s40])), (m13, ai g 6 K)]) [1, 0] (by decide) rfl
              exact k_ri hx hb hr hlocks hS hP9 hD9 ⟨rfl, (by have hok : okd (K k1) p2 = 0 := (by unfold okd; rw [if_neg (fun h => h.elim c27_7 (fun h => h.elim (fun q => c37_9 q.symm) (fun q => c42_11 q.2)))]); unfold rAs; rw [if_neg c5_3, if_neg (show ¬ isI p2 5 = 0 from fun q => c20_6 ((in5_eq p2).trans q)), nI_clamp (by omega), if_pos hok])⟩ dX9_as_70
            · exact absurd c62_12 (by decide)
          · skip
            refine lv_aload_n hx hb dX9_as_45 rfl (lv_at hl 0 rfl) ?_
            refine va_get (D := g.1) (ci := 9) (v := .ref m13) (C := RX9) (T := TX9) (N := 41) hx hb hts q_X9_as_f_f9 hown hE.1 hP 1 rfl rfl 13 (by decide) (hts (.fieldLink RX9 22 "SoundLawsModel" "kinds" "[I") q_X9_as_f_2) (fun _ h9 => h9) rfl dX9_as_46 ?_
            refine lv_iload_n hx hb dX9_as_49 rfl (lv_at hl 1 rfl) ?_
            refine k_ald k1 rfl (by omega) hx hb hE hP 0 rfl (by decide) dX9_as_50 ?_
            refine lv_iconst (v := 2) hx hb dX9_as_51 (by decide) ?_
            refine lv_icmp_ne (tgt := 59) hx hb dX9_as_52 (by decide) (fun c52_13 => ?_) (fun c52_13 => ?_)
            · skip
              refine lv_iconst (v := 0) hx hb dX9_as_59 (by decide) ?_
              refine lv_istore_n (lv' := [(3, .int 0), (0, .ref k0), (1, .int (nI k1)), (2, .int p2)]) hx hb dX9_as_60 rfl hl (by decide) rfl (fun ls hl => ?_)
              refine lv_iload_n hx hb dX9_as_61 rfl (lv_at hl 0 rfl) ?_
              refine lv_if_eq (tgt := 69) hx hb dX9_as_62 (by decide) (fun c62_14 => ?_) (fun c62_14 => ?_)
              · skip
                refine lv_iconst (v := (-1)) hx hb dX9_as_69 (by decide) ?_
                refine W.widen (k := 0) (n := 0) (Nat.le_of_ble_eq_true rfl) (Nat.le_of_ble_eq_true rfl) ?_
                have hP9 := hP.sub (ws' := [(k0, .inr (9, [.ref m0, .int s1, .int s2, .int s3, .int s4, .int s5, .int s6, .ref m7, .ref m8, .ref m9, .int (nI z), .int s11, .int s12, .ref m13, .ref m14, .ref m15, .int s16, .ref m17, .ref m18, .ref m19, .ref m20, .ref m21, .ref m22, .ref m23, .ref m24, .ref m25, .ref m26, .ref m27, .ref m28, .int s29, .ref m30, .int s31, .int s32, .int s33, .int s34, .int s35, .ref m36, .ref m37, .ref m38, .ref m39, .long s40])), (m13, ai g 6 K)]) [1, 0] rfl
                have hD9 := hD.sub (ws' := [(k0, .inr (9, [.ref m0, .int s1, .int s2, .int s3, .int s4, .int s5, .int s6, .ref m7, .ref m8, .ref m9, .int (nI z), .int s11, .int s12, .ref m13, .ref m14, .ref m15, .int s16, .ref m17, .ref m18, .ref m19, .ref m20, .ref m21, .ref m22, .ref m23, .ref m24, .ref m25, .ref m26, .ref m27, .ref m28, .int s29, .ref m30, .int s31, .int s32, .int s33, .int s34, .int s35, .ref m36, .ref m37, .ref m38, .ref m39, .long s40])), (m13, ai g 6 K)]) [1, 0] (by decide) rfl
                exact k_ri hx hb hr hlocks hS hP9 hD9 ⟨rfl, (by have hok : okd (K k1) p2 = 0 := (by unfold okd; rw [if_neg (fun h => h.elim c27_7 (fun h => h.elim (fun q => c37_9 q.symm) (fun q => c52_13 q.1)))]); unfold rAs; rw [if_neg c5_3, if_neg (show ¬ isI p2 5 = 0 from fun q => c20_6 ((in5_eq p2).trans q)), nI_clamp (by omega), if_pos hok])⟩ dX9_as_70
              · exact absurd c62_14 (by decide)
            · skip
              refine lv_iconst (v := 1) hx hb dX9_as_55 (by decide) ?_
              refine lv_goto (tgt := 60) hx hb dX9_as_56 (by decide) ?_
              refine lv_istore_n (lv' := [(3, .int 1), (0, .ref k0), (1, .int (nI k1)), (2, .int p2)]) hx hb dX9_as_60 rfl hl (by decide) rfl (fun ls hl => ?_)
              refine lv_iload_n hx hb dX9_as_61 rfl (lv_at hl 0 rfl) ?_
              refine lv_if_eq (tgt := 69) hx hb dX9_as_62 (by decide) (fun c62_15 => ?_) (fun c62_15 => ?_)
              · exact absurd c62_15 (by decide)
              · skip
                refine lv_iload_n hx hb dX9_as_65 rfl (lv_at hl 2 rfl) ?_
                refine lv_goto (tgt := 70) hx hb dX9_as_66 (by decide) ?_
                refine W.widen (k := 0) (n := 0) (Nat.le_of_ble_eq_true rfl) (Nat.le_of_ble_eq_true rfl) ?_
                have hP9 := hP.sub (ws' := [(k0, .inr (9, [.ref m0, .int s1, .int s2, .int s3, .int s4, .int s5, .int s6, .ref m7, .ref m8, .ref m9, .int (nI z), .int s11, .int s12, .ref m13, .ref m14, .ref m15, .int s16, .ref m17, .ref m18, .ref m19, .ref m20, .ref m21, .ref m22, .ref m23, .ref m24, .ref m25, .ref m26, .ref m27, .ref m28, .int s29, .ref m30, .int s31, .int s32, .int s33, .int s34, .int s35, .ref m36, .ref m37, .ref m38, .ref m39, .long s40])), (m13, ai g 6 K)]) [1, 0] rfl
                have hD9 := hD.sub (ws' := [(k0, .inr (9, [.ref m0, .int s1, .int s2, .int s3, .int s4, .int s5, .int s6, .ref m7, .ref m8, .ref m9, .int (nI z), .int s11, .int s12, .ref m13, .ref m14, .ref m15, .int s16, .ref m17, .ref m18, .ref m19, .ref m20, .ref m21, .ref m22, .ref m23, .ref m24, .ref m25, .ref m26, .ref m27, .ref m28, .int s29, .ref m30, .int s31, .int s32, .int s33, .int s34, .int s35, .ref m36, .ref m37, .ref m38, .ref m39, .long s40])), (m13, ai g 6 K)]) [1, 0] (by decide) rfl
                exact k_ri hx hb hr hlocks hS hP9 hD9 ⟨rfl, (by have hok : okd (K k1) p2 = 1 := (by unfold okd; rw [if_pos (Or.inr (Or.inr ⟨c52_13, c42_11⟩))]); unfold rAs; rw [if_neg c5_3, if_neg (show ¬ isI p2 5 = 0 from fun q => c20_6 ((in5_eq p2).trans q)), nI_clamp (by omega), if_neg (by rw [hok]; decide)])⟩ dX9_as_70
    · skip
      refine lv_bipush (v := (-102)) hx hb dX9_as_23 (by decide) ?_
      refine W.widen (k := 0) (n := 0) (Nat.le_of_ble_eq_true rfl) (Nat.le_of_ble_eq_true rfl) ?_
      have hP9 := hP.sub (ws' := [(k0, .inr (9, [.ref m0, .int s1, .int s2, .int s3, .int s4, .int s5, .int s6, .ref m7, .ref m8, .ref m9, .int (nI z), .int s11, .int s12, .ref m13, .ref m14, .ref m15, .int s16, .ref m17, .ref m18, .ref m19, .ref m20, .ref m21, .ref m22, .ref m23, .ref m24, .ref m25, .ref m26, .ref m27, .ref m28, .int s29, .ref m30, .int s31, .int s32, .int s33, .int s34, .int s35, .ref m36, .ref m37, .ref m38, .ref m39, .long s40])), (m13, ai g 6 K)]) [1, 0] rfl
      have hD9 := hD.sub (ws' := [(k0, .inr (9, [.ref m0, .int s1, .int s2, .int s3, .int s4, .int s5, .int s6, .ref m7, .ref m8, .ref m9, .int (nI z), .int s11, .int s12, .ref m13, .ref m14, .ref m15, .int s16, .ref m17, .ref m18, .ref m19, .ref m20, .ref m21, .ref m22, .ref m23, .ref m24, .ref m25, .ref m26, .ref m27, .ref m28, .int s29, .ref m30, .int s31, .int s32, .int s33, .int s34, .int s35, .ref m36, .ref m37, .ref m38, .ref m39, .long s40])), (m13, ai g 6 K)]) [1, 0] (by decide) rfl
      exact k_ri hx hb hr hlocks hS hP9 hD9 ⟨rfl, (by unfold rAs; rw [if_neg c5_3, if_pos ((in5_eq p2).symm.trans c20_6)])⟩ dX9_as_25
  · skip
    refine lv_bipush (v := (-101)) hx hb dX9_as_8 (by decide) ?_
    refine W.widen (k := 0) (n := 0) (Nat.le_of_ble_eq_true rfl) (Nat.le_of_ble_eq_true rfl) ?_
    have hP9 := hP.sub (ws' := [(k0, .inr (9, [.ref m0, .int s1, .int s2, .int s3, .int s4, .int s5, .int s6, .ref m7, .ref m8, .ref m9, .int (nI z), .int s11, .int s12, .ref m13, .ref m14, .ref m15, .int s16, .ref m17, .ref m18, .ref m19, .ref m20, .ref m21, .ref m22, .ref m23, .ref m24, .ref m25, .ref m26, .ref m27, .ref m28, .int s29, .ref m30, .int s31, .int s32, .int s33, .int s34, .int s35, .ref m36, .ref m37, .ref m38, .ref m39, .long s40])), (m13, ai g 6 K)]) [1, 0] rfl
    have hD9 := hD.sub (ws' := [(k0, .inr (9, [.ref m0, .int s1, .int s2, .int s3, .int s4, .int s5, .int s6, .ref m7, .ref m8, .ref m9, .int (nI z), .int s11, .int s12, .ref m13, .ref m14, .ref m15, .int s16, .ref m17, .ref m18, .ref m19, .ref m20, .ref m21, .ref m22, .ref m23, .ref m24, .ref m25, .ref m26, .ref m27, .ref m28, .int s29, .ref m30, .int s31, .int s32, .int s33, .int s34, .int s35, .ref m36, .ref m37, .ref m38, .ref m39, .long s40])), (m13, ai g 6 K)]) [1, 0] (by decide) rfl
    exact k_ri hx hb hr hlocks hS hP9 hD9 ⟨rfl, (by unfold rAs; rw [if_pos c5_3])⟩ dX9_as_10
def po_X9_change_f (g : GG) (k0 : Nat) (m0 : Nat) (s1 : Int32) (s2 : Int32) (s3 : Int32) (s4 : Int32) (s5 : Int32) (s6 : Int32) (m7 : Nat) (m8 : Nat) (m9 : Nat) (s12 : Int32) (m13 : Nat) (m14 : Nat) (m15 : Nat) (s16 : Int32) (m17 : Nat) (m18 : Nat) (m19 : Nat) (m20 : Nat) (m21 : Nat) (m22 : Nat) (m23 : Nat) (m24 : Nat) (m25 : Nat) (m26 : Nat) (m27 : Nat) (m28 : Nat) (s29 : Int32) (m30 : Nat) (s31 : Int32) (s32 : Int32) (s33 : Int32) (s34 : Int32) (s35 : Int32) (m36 : Nat) (m37 : Nat) (m38 : Nat) (m39 : Nat) (s40 : Int64) (z : Nat) (t : Nat) (K : Nat → Int32) (L : Nat → Int32) (V : Nat → Int32) (p1 : Int32) (p2 : Int32) : Int32 → va_W → Prop := fun (r : Int32) w => ∃ (o2 : Int32) (K2 : Nat → Int32), w = [(k0, .inr (9, [.ref m0, .int s1, .int s2, .int s3, .int s4, .int s5, .int s6, .ref m7, .ref m8, .ref m9, .int (nI z), .int (nI t), .int s12, .ref m13, .ref m14, .ref m15, .int o2, .ref m17, .ref m18, .ref m19, .ref m20, .ref m21, .ref m22, .ref m23, .ref m24, .ref m25, .ref m26, .ref m27, .ref m28, .int s29, .ref m30, .int s31, .int s32, .int s33, .int s34, .int s35, .ref m36, .ref m37, .ref m38, .ref m39, .long s40])), (m13, ai g 6 K2), (m14, ai g 6 L), (m15, ai g 96 V)] ∧ (rCh p1 p2 z K = r) ∧ (gst z t K2 L V) ∧ (((isI p1 z = 0 ∨ isI p2 5 = 0) ∧ o2 = s16 ∧ K2 = K) ∨ (o2 = 1 ∧ ∃ k, k < z ∧ p1 = nI k ∧ ¬ isI p2 5 = 0 ∧ K2 = upd K k p2))
theorem q_X9_change_f_0 : (Cond.constantLong RX9 259 (4)) ∈ wsX9_change := by decide +kernel
theorem q_X9_change_f_f9 : ∀ w ∈ u_ws RX9 TX9 41, w ∈ wsX9_change := by decide +kernel
theorem q_X9_change_f_2 : (Cond.fieldLink RX9 22 "SoundLawsModel" "kinds" "[I") ∈ wsX9_change := by decide +kernel
theorem q_X9_change_f_3 : (Cond.fieldLink RX9 153 "SoundLawsModel" "old" "Z") ∈ wsX9_change := by decide +kernel
set_option maxHeartbeats 1500000 in
set_option maxRecDepth 100000 in
theorem c_X9_change_f (l : Launch) (g : GG) (k0 : Nat) (m0 : Nat) (s1 : Int32) (s2 : Int32) (s3 : Int32) (s4 : Int32) (s5 : Int32) (s6 : Int32) (m7 : Nat) (m8 : Nat) (m9 : Nat) (s12 : Int32) (m13 : Nat) (m14 : Nat) (m15 : Nat) (s16 : Int32) (m17 : Nat) (m18 : Nat) (m19 : Nat) (m20 : Nat) (m21 : Nat) (m22 : Nat) (m23 : Nat) (m24 : Nat) (m25 : Nat) (m26 : Nat) (m27 : Nat) (m28 : Nat) (s29 : Int32) (m30 : Nat) (s31 : Int32) (s32 : Int32) (s33 : Int32) (s34 : Int32) (s35 : Int32) (m36 : Nat) (m37 : Nat) (m38 : Nat) (m39 : Nat) (s40 : Int64) (z : Nat) (t : Nat) (K : Nat → Int32) (L : Nat → Int32) (V : Nat → Int32) (p1 : Int32) (p2 : Int32) (hg : gst z t K L V) (sz : Nat) : MetI l yX9_change wsX9_change ({ frames := 2, cells := 0, slots := 0, locals := 46 }) g [.ref k0, .int p1, .int p2] [(k0, .inr (9, [.ref m0, .int s1, .int s2, .int s3, .int s4, .int s5, .int s6, .ref m7, .ref m8, .ref m9, .int (nI z), .int (nI t), .int s12, .ref m13, .ref m14, .ref m15, .int s16, .ref m17, .ref m18, .ref m19, .ref m20, .ref m21, .ref m22, .ref m23, .ref m24, .ref m25, .ref m26, .ref m27, .ref m28, .int s29, .ref m30, .int s31, .int s32, .int s33, .int s34, .int s35, .ref m36, .ref m37, .ref m38, .ref m39, .long s40])), (m13, ai g 6 K), (m14, ai g 6 L), (m15, ai g 96 V)] sz (po_X9_change_f g k0 m0 s1 s2 s3 s4 s5 s6 m7 m8 m9 s12 m13 m14 m15 s16 m17 m18 m19 m20 m21 m22 m23 m24 m25 m26 m27 m28 s29 m30 s31 s32 s33 s34 s35 m36 m37 m38 m39 s40 z t K L V p1 p2) 0 0 := by
  refine k_of (l := l) (y := yX9_change) (ws := wsX9_change) (rm := { frames := 2, cells := 0, slots := 0, locals := 46 }) (mc := 0) (ms := 0) (av := [.ref k0, .int p1, .int p2]) (g := g) (wc := [(k0, .inr (9, [.ref m0, .int s1, .int s2, .int s3, .int s4, .int s5, .int s6, .ref m7, .ref m8, .ref m9, .int (nI z), .int (nI t), .int s12, .ref m13, .ref m14, .ref m15, .int s16, .ref m17, .ref m18, .ref m19, .ref m20, .ref m21, .ref m22, .ref m23, .ref m24, .ref m25, .ref m26, .ref m27, .ref m28, .int s29, .ref m30, .int s31, .int s32, .int s33, .int s34, .int s35, .ref m36, .ref m37, .ref m38, .ref m39, .long s40])), (m13, ai g 6 K), (m14, ai g 6 L), (m15, ai g 96 V)]) (Qc := fun A => va_Qi (po_X9_change_f g k0 m0 s1 s2 s3 s4 s5 s6 m7 m8 m9 s12 m13 m14 m15 s16 m17 m18 m19 m20 m21 m22 m23 m24 m25 m26 m27 m28 s29 m30 s31 s32 s33 s34 s35 m36 m37 m38 m39 s40 z t K L V p1 p2) (bk g A) A) (cc := cX9_change) (maxL := 4) (ret := (some .int)) (by decide) rfl (Nat.le_of_ble_eq_true rfl) ?_ sz
  intro p e s m below meth c hx hb hr hts hown hlocks hnm hml A hA hE hZ hP hD hS ls hl
  have hown : s.vm.findClass RX9 = some m.cls := hown
  have hl : lv_has ls 4 [(0, .ref k0), (1, .int p1), (2, .int p2)] := hl
  obtain ⟨hz, hzt, ht4, hK, hL, hV⟩ := id hg
  refine lv_aload_n hx hb dX9_change_0 rfl (lv_at hl 0 rfl) ?_
  refine lv_iload_n hx hb dX9_change_1 rfl (lv_at hl 1 rfl) ?_
  refine k_ci (wr := [(m13, ai g 6 K), (m14, ai g 6 L), (m15, ai g 96 V)]) hP hD hS hA [0] [1, 2, 3] rfl rfl (by decide) (by decide) (va_runV (As := [.int p1]) (rest := []) ⟨hx, hb, hml, hown, hts⟩ (c_X9_isSet_g l g k0 m0 s1 s2 s3 s4 s5 s6 m7 m8 m9 (nI t) s12 m13 m14 m15 s16 m17 m18 m19 m20 m21 m22 m23 m24 m25 m26 m27 m28 s29 m30 s31 s32 s33 s34 s35 m36 m37 m38 m39 s40 z p1 (by first | assumption | omega) s.heap.size) (cwV 1 hts gX9_change_X9_isSet rfl rfl rfl (by decide +kernel) ⟨Nat.le_of_ble_eq_true rfl, Nat.le_of_ble_eq_true rfl⟩) (k_preV hE hZ hP hD hS hA [0] rfl (by decide) (va_recv hE.1 hP (ci := 9) (q0 := 0) rfl rfl)) rfl rfl hl.1 rfl (lv_room (Nat.le_of_ble_eq_true rfl)) dX9_change_2 ⟨Nat.le_of_ble_eq_true rfl, Nat.le_of_ble_eq_true rfl⟩) (fun r_1 w1 H locs hw hP hD hS => ?_)
  obtain ⟨rfl, rfl⟩ := hw
  have hP : va_P g.1 vwCl [(m13, ai g 6 K), (m14, ai g 6 L), (m15, ai g 96 V), (k0, .inr (9, [.ref m0, .int s1, .int s2, .int s3, .int s4, .int s5, .int s6, .ref m7, .ref m8, .ref m9, .int (nI z), .int (nI t), .int s12, .ref m13, .ref m14, .ref m15, .int s16, .ref m17, .ref m18, .ref m19, .ref m20, .ref m21, .ref m22, .ref m23, .ref m24, .ref m25, .ref m26, .ref m27, .ref m28, .int s29, .ref m30, .int s31, .int s32, .int s33, .int s34, .int s35, .ref m36, .ref m37, .ref m38, .ref m39, .long s40]))] H := hP
  have hD : va_D A [(m13, ai g 6 K), (m14, ai g 6 L), (m15, ai g 96 V), (k0, .inr (9, [.ref m0, .int s1, .int s2, .int s3, .int s4, .int s5, .int s6, .ref m7, .ref m8, .ref m9, .int (nI z), .int (nI t), .int s12, .ref m13, .ref m14, .ref m15, .int s16, .ref m17, .ref m18, .ref m19, .ref m20, .ref m21, .ref m22, .ref m23, .ref m24, .ref m25, .ref m26, .ref m27, .ref m28, .int s29, .ref m30, .int s31, .int s32, .int s33, .int s34, .int s35, .ref m36, .ref m37, .ref m38, .ref m39, .long s40]))] := hD
  refine lv_if_ne (tgt := 11) hx hb dX9_change_5 (by decide) (fun c5_3 => ?_) (fun c5_3 => ?_)
  · skip
    refine lv_iload_n hx hb dX9_change_11 rfl (lv_at hl 2 rfl) ?_
    refine lv_i2l hx hb dX9_change_12 rfl ?_
    refine lv_lconst (v := 0) hx hb dX9_change_13 (by decide) ?_
    refine lv_ldc2 hx hb hown (hts (.constantLong RX9 259 (4)) q_X9_change_f_0) dX9_change_14 ?_
    refine k_ci (wr := [(m13, ai g 6 K), (m14, ai g 6 L), (m15, ai g 96 V), (k0, .inr (9, [.ref m0, .int s1, .int s2, .int s3, .int s4, .int s5, .int s6, .ref m7, .ref m8, .ref m9, .int (nI z), .int (nI t), .int s12, .ref m13, .ref m14, .ref m15, .int s16, .ref m17, .ref m18, .ref m19, .ref m20, .ref m21, .ref m22, .ref m23, .ref m24, .ref m25, .ref m26, .ref m27, .ref m28, .int s29, .ref m30, .int s31, .int s32, .int s33, .int s34, .int s35, .ref m36, .ref m37, .ref m38, .ref m39, .long s40]))]) hP hD hS hA [] [0, 1, 2, 3] rfl rfl (by decide) (by decide) (va_runS (As := [.long ((p2 : Int32).toInt64), .long 0, .long 4]) (rest := []) ⟨hx, hb, hml, hown, hts⟩ (c_X9_in l g ((p2 : Int32).toInt64) 0 4  H.size) (va_cwS 3 hts gX9_change_X9_in rfl rfl rfl (by decide +kernel) ⟨Nat.le_of_ble_eq_true rfl, Nat.le_of_ble_eq_true rfl⟩) (k_preS hE hZ hP hD hS hA [] rfl (by decide)) rfl rfl hl.1 rfl (lv_room (Nat.le_of_ble_eq_true rfl)) dX9_change_17 ⟨Nat.le_of_ble_eq_true rfl, Nat.le_of_ble_eq_true rfl⟩) (fun r_4 w1 H locs hw hP hD hS => ?_)
    obtain ⟨rfl, rfl⟩ := hw
    have hP : va_P g.1 vwCl [(m13, ai g 6 K), (m14, ai g 6 L), (m15, ai g 96 V), (k0, .inr (9, [.ref m0, .int s1, .int s2, .int s3, .int s4, .int s5, .int s6, .ref m7, .ref m8, .ref m9, .int (nI z), .int (nI t), .int s12, .ref m13, .ref m14, .ref m15, .int s16, .ref m17, .ref m18, .ref m19, .ref m20, .ref m21, .ref m22, .ref m23, .ref m24, .ref m25, .ref m26, .ref m27, .ref m28, .int s29, .ref m30, .int s31, .int s32, .int s33, .int s34, .int s35, .ref m36, .ref m37, .ref m38, .ref m39, .long s40]))] H := hP
    have hD : va_D A [(m13, ai g 6 K), (m14, ai g 6 L), (m15, ai g 96 V), (k0, .inr (9, [.ref m0, .int s1, .int s2, .int s3, .int s4, .int s5, .int s6, .ref m7, .ref m8, .ref m9, .int (nI z), .int (nI t), .int s12, .ref m13, .ref m14, .ref m15, .int s16, .ref m17, .ref m18, .ref m19, .ref m20, .ref m21, .ref m22, .ref m23, .ref m24, .ref m25, .ref m26, .ref m27, .ref m28, .int s29, .ref m30, .int s31, .int s32, .int s33, .int s34, .int s35, .ref m36, .ref m37, .ref m38, .ref m39, .long s40]))] := hD
    refine lv_if_ne (tgt := 26) hx hb dX9_change_20 (by decide) (fun c20_6 => ?_) (fun c20_6 => ?_)
    · skip
      have hi5 : ¬ isI p2 5 = 0 := fun q => c20_6 ((in5_eq p2).trans q)
      obtain ⟨k1, hk1, rfl⟩ := isI_of (p := p1) (by omega) c5_3
      obtain ⟨k2, hk2, rfl⟩ := isI_of (p := p2) (z := 5) (by decide) hi5
      refine lv_aload_n hx hb dX9_change_26 rfl (lv_at hl 0 rfl) ?_
      refine va_get (D := g.1) (ci := 9) (v := .ref m13) (C := RX9) (T := TX9) (N := 41) hx hb hts q_X9_change_f_f9 hown hE.1 hP 3 rfl rfl 13 (by decide) (hts (.fieldLink RX9 22 "SoundLawsModel" "kinds" "[I") q_X9_change_f_2) (fun _ h9 => h9) rfl dX9_change_27 ?_
      refine lv_iload_n hx hb dX9_change_30 rfl (lv_at hl 1 rfl) ?_
      refine k_ald k1 rfl (by omega) hx hb hE hP 0 rfl (by decide) dX9_change_31 ?_
      refine lv_istore_n (lv' := [(3, .int (K k1)), (0, .ref k0), (1, .int (nI k1)), (2, .int (nI k2))]) hx hb dX9_change_32 rfl hl (by decide) rfl (fun ls hl => ?_)
      refine lv_aload_n hx hb dX9_change_33 rfl (lv_at hl 1 rfl) ?_
      refine va_get (D := g.1) (ci := 9) (v := .ref m13) (C := RX9) (T := TX9) (N := 41) hx hb hts q_X9_change_f_f9 hown hE.1 hP 3 rfl rfl 13 (by decide) (hts (.fieldLink RX9 22 "SoundLawsModel" "kinds" "[I") q_X9_change_f_2) (fun _ h9 => h9) rfl dX9_change_34 ?_
      refine lv_iload_n hx hb dX9_change_37 rfl (lv_at hl 2 rfl) ?_
      refine lv_iload_n hx hb dX9_change_38 rfl (lv_at hl 3 rfl) ?_
      refine k_ast (x := (nI k2)) k1 rfl (by omega) hx hb hE hP hD hS 0 rfl (by decide) dX9_change_39 (fun H locs hP hD hS => ?_)
      have hP : va_P g.1 vwCl [(m13, ai g 6 (upd K k1 (nI k2))), (m14, ai g 6 L), (m15, ai g 96 V), (k0, .inr (9, [.ref m0, .int s1, .int s2, .int s3, .int s4, .int s5, .int s6, .ref m7, .ref m8, .ref m9, .int (nI z), .int (nI t), .int s12, .ref m13, .ref m14, .ref m15, .int s16, .ref m17, .ref m18, .ref m19, .ref m20, .ref m21, .ref m22, .ref m23, .ref m24, .ref m25, .ref m26, .ref m27, .ref m28, .int s29, .ref m30, .int s31, .int s32, .int s33, .int s34, .int s35, .ref m36, .ref m37, .ref m38, .ref m39, .long s40]))] H := hP
      have hD : va_D A [(m13, ai g 6 (upd K k1 (nI k2))), (m14, ai g 6 L), (m15, ai g 96 V), (k0, .inr (9, [.ref m0, .int s1, .int s2, .int s3, .int s4, .int s5, .int s6, .ref m7, .ref m8, .ref m9, .int (nI z), .int (nI t), .int s12, .ref m13, .ref m14, .ref m15, .int s16, .ref m17, .ref m18, .ref m19, .ref m20, .ref m21, .ref m22, .ref m23, .ref m24, .ref m25, .ref m26, .ref m27, .ref m28, .int s29, .ref m30, .int s31, .int s32, .int s33, .int s34, .int s35, .ref m36, .ref m37, .ref m38, .ref m39, .long s40]))] := hD
      refine lv_aload_n hx hb dX9_change_40 rfl (lv_at hl 1 rfl) ?_
      refine lv_iconst (v := 1) hx hb dX9_change_41 (by decide) ?_
      refine va_put (D := g.1) (ci := 9) (v := .int 1) (ty := .boolean) (C := RX9) (T := TX9) (N := 41) hx hb hts q_X9_change_f_f9 tyX9 tyX9_ok nmX9 hown hE.1 hP hD hS 3 rfl rfl 16 (by decide) (hts (.fieldLink RX9 153 "SoundLawsModel" "old" "Z") q_X9_change_f_3) (fun _ h9 => h9) rfl (by decide +kernel) rfl rfl (Nat.le_of_ble_eq_true rfl) dX9_change_42 (fun H locs hP hD hS => ?_)
      have hP : va_P g.1 vwCl [(m13, ai g 6 (upd K k1 (nI k2))), (m14, ai g 6 L), (m15, ai g 96 V), (k0, .inr (9, [.ref m0, .int s1, .int s2, .int s3, .int s4, .int s5, .int s6, .ref m7, .ref m8, .ref m9, .int (nI z), .int (nI t), .int s12, .ref m13, .ref m14, .ref m15, .int 1, .ref m17, .ref m18, .ref m19, .ref m20, .ref m21, .ref m22, .ref m23, .ref m24, .ref m25, .ref m26, .ref m27, .ref m28, .int s29, .ref m30, .int s31, .int s32, .int s33, .int s34, .int s35, .ref m36, .ref m37, .ref m38, .ref m39, .long s40]))] H := hP
      have hD : va_D A [(m13, ai g 6 (upd K k1 (nI k2))), (m14, ai g 6 L), (m15, ai g 96 V), (k0, .inr (9, [.ref m0, .int s1, .int s2, .int s3, .int s4, .int s5, .int s6, .ref m7, .ref m8, .ref m9, .int (nI z), .int (nI t), .int s12, .ref m13, .ref m14, .ref m15, .int 1, .ref m17, .ref m18, .ref m19, .ref m20, .ref m21, .ref m22, .ref m23, .ref m24, .ref m25, .ref m26, .ref m27, .ref m28, .int s29, .ref m30, .int s31, .int s32, .int s33, .int s34, .int s35, .ref m36, .ref m37, .ref m38, .ref m39, .long s40]))] := hD
      refine lv_iload_n hx hb dX9_change_45 rfl (lv_at hl 0 rfl) ?_
      refine W.widen (k := 0) (n := 0) (Nat.le_of_ble_eq_true rfl) (Nat.le_of_ble_eq_true rfl) ?_
      have hP9 := hP.sub (ws' := [(k0, .inr (9, [.ref m0, .int s1, .int s2, .int s3, .int s4, .int s5, .int s6, .ref m7, .ref m8, .ref m9, .int (nI z), .int (nI t), .int s12, .ref m13, .ref m14, .ref m15, .int 1, .ref m17, .ref m18, .ref m19, .ref m20, .ref m21, .ref m22, .ref m23, .ref m24, .ref m25, .ref m26, .ref m27, .ref m28, .int s29, .ref m30, .int s31, .int s32, .int s33, .int s34, .int s35, .ref m36, .ref m37, .ref m38, .ref m39, .long s40])), (m13, ai g 6 (upd K k1 (nI k2))), (m14, ai g 6 L), (m15, ai g 96 V)]) [3, 0, 1, 2] rfl
      have hD9 := hD.sub (ws' := [(k0, .inr (9, [.ref m0, .int s1, .int s2, .int s3, .int s4, .int s5, .int s6, .ref m7, .ref m8, .ref m9, .int (nI z), .int (nI t), .int s12, .ref m13, .ref m14, .ref m15, .int 1, .ref m17, .ref m18, .ref m19, .ref m20, .ref m21, .ref m22, .ref m23, .ref m24, .ref m25, .ref m26, .ref m27, .ref m28, .int s29, .ref m30, .int s31, .int s32, .int s33, .int s34, .int s35, .ref m36, .ref m37, .ref m38, .ref m39, .long s40])), (m13, ai g 6 (upd K k1 (nI k2))), (m14, ai g 6 L), (m15, ai g 96 V)]) [3, 0, 1, 2] (by decide) rfl
      exact k_ri hx hb hr hlocks hS hP9 hD9 ⟨1, (upd K k1 (nI k2)), rfl, (by unfold rCh; rw [if_neg c5_3, if_neg hi5, nI_clamp (by omega)]), ⟨hz, hzt, ht4, rng_upd hK hk2, hL, hV⟩, Or.inr ⟨rfl, k1, hk1, rfl, hi5, rfl⟩⟩ dX9_change_46
    · skip
      refine lv_bipush (v := (-102)) hx hb dX9_change_23 (by decide) ?_
      refine W.widen (k := 0) (n := 0) (Nat.le_of_ble_eq_true rfl) (Nat.le_of_ble_eq_true rfl) ?_
      have hP9 := hP.sub (ws' := [(k0, .inr (9, [.ref m0, .int s1, .int s2, .int s3, .int s4, .int s5, .int s6, .ref m7, .ref m8, .ref m9, .int (nI z), .int (nI t), .int s12, .ref m13, .ref m14, .ref m15, .int s16, .ref m17, .ref m18, .ref m19, .ref m20, .ref m21, .ref m22, .ref m23, .ref m24, .ref m25, .ref m26, .ref m27, .ref m28, .int s29, .ref m30, .int s31, .int s32, .int s33, .int s34, .int s35, .ref m36, .ref m37, .ref m38, .ref m39, .long s40])), (m13, ai g 6 K), (m14, ai g 6 L), (m15, ai g 96 V)]) [3, 0, 1, 2] rfl
      have hD9 := hD.sub (ws' := [(k0, .inr (9, [.ref m0, .int s1, .int s2, .int s3, .int s4, .int s5, .int s6, .ref m7, .ref m8, .ref m9, .int (nI z), .int (nI t), .int s12, .ref m13, .ref m14, .ref m15, .int s16, .ref m17, .ref m18, .ref m19, .ref m20, .ref m21, .ref m22, .ref m23, .ref m24, .ref m25, .ref m26, .ref m27, .ref m28, .int s29, .ref m30, .int s31, .int s32, .int s33, .int s34, .int s35, .ref m36, .ref m37, .ref m38, .ref m39, .long s40])), (m13, ai g 6 K), (m14, ai g 6 L), (m15, ai g 96 V)]) [3, 0, 1, 2] (by decide) rfl
      exact k_ri hx hb hr hlocks hS hP9 hD9 ⟨s16, K, rfl, (by unfold rCh; rw [if_neg c5_3, if_pos ((in5_eq p2).symm.trans c20_6)]), hg, Or.inl ⟨Or.inr ((in5_eq p2).symm.trans c20_6), rfl, rfl⟩⟩ dX9_change_25
  · skip
    refine lv_bipush (v := (-101)) hx hb dX9_change_8 (by decide) ?_
    refine W.widen (k := 0) (n := 0) (Nat.le_of_ble_eq_true rfl) (Nat.le_of_ble_eq_true rfl) ?_
    have hP9 := hP.sub (ws' := [(k0, .inr (9, [.ref m0, .int s1, .int s2, .int s3, .int s4, .int s5, .int s6, .ref m7, .ref m8, .ref m9, .int (nI z), .int (nI t), .int s12, .ref m13, .ref m14, .ref m15, .int s16, .ref m17, .ref m18, .ref m19, .ref m20, .ref m21, .ref m22, .ref m23, .ref m24, .ref m25, .ref m26, .ref m27, .ref m28, .int s29, .ref m30, .int s31, .int s32, .int s33, .int s34, .int s35, .ref m36, .ref m37, .ref m38, .ref m39, .long s40])), (m13, ai g 6 K), (m14, ai g 6 L), (m15, ai g 96 V)]) [3, 0, 1, 2] rfl
    have hD9 := hD.sub (ws' := [(k0, .inr (9, [.ref m0, .int s1, .int s2, .int s3, .int s4, .int s5, .int s6, .ref m7, .ref m8, .ref m9, .int (nI z), .int (nI t), .int s12, .ref m13, .ref m14, .ref m15, .int s16, .ref m17, .ref m18, .ref m19, .ref m20, .ref m21, .ref m22, .ref m23, .ref m24, .ref m25, .ref m26, .ref m27, .ref m28, .int s29, .ref m30, .int s31, .int s32, .int s33, .int s34, .int s35, .ref m36, .ref m37, .ref m38, .ref m39, .long s40])), (m13, ai g 6 K), (m14, ai g 6 L), (m15, ai g 96 V)]) [3, 0, 1, 2] (by decide) rfl
    exact k_ri hx hb hr hlocks hS hP9 hD9 ⟨s16, K, rfl, (by unfold rCh; rw [if_pos c5_3]), hg, Or.inl ⟨Or.inl c5_3, rfl, rfl⟩⟩ dX9_change_10
def po_X9_layLike_f (g : GG) (k0 : Nat) (m0 : Nat) (s1 : Int32) (s2 : Int32) (s3 : Int32) (s4 : Int32) (s5 : Int32) (s6 : Int32) (m7 : Nat) (m8 : Nat) (m9 : Nat) (s10 : Int32) (s11 : Int32) (s12 : Int32) (m13 : Nat) (m14 : Nat) (m15 : Nat) (s16 : Int32) (m17 : Nat) (m18 : Nat) (m19 : Nat) (m20 : Nat) (m21 : Nat) (m22 : Nat) (m23 : Nat) (m24 : Nat) (m25 : Nat) (m26 : Nat) (m27 : Nat) (m28 : Nat) (s29 : Int32) (m30 : Nat) (s31 : Int32) (s32 : Int32) (s33 : Int32) (s34 : Int32) (s35 : Int32) (m36 : Nat) (m37 : Nat) (m38 : Nat) (m39 : Nat) (s40 : Int64) (K : Nat → Int32) (L : Nat → Int32) (V : Nat → Int32) (i : Nat) (j : Nat) : va_W → Prop := fun w => ∃ (V2 : Nat → Int32), w = [(k0, .inr (9, [.ref m0, .int s1, .int s2, .int s3, .int s4, .int s5, .int s6, .ref m7, .ref m8, .ref m9, .int s10, .int s11, .int s12, .ref m13, .ref m14, .ref m15, .int s16, .ref m17, .ref m18, .ref m19, .ref m20, .ref m21, .ref m22, .ref m23, .ref m24, .ref m25, .ref m26, .ref m27, .ref m28, .int s29, .ref m30, .int s31, .int s32, .int s33, .int s34, .int s35, .ref m36, .ref m37, .ref m38, .ref m39, .long s40])), (m13, ai g 6 (upd K j (K i))), (m14, ai g 6 (upd L j (L i))), (m15, ai g 96 V2)] ∧ (V2 = va_cpy V V (16 * i) (16 * j) 16)
theorem q_X9_layLike_f_f9 : ∀ w ∈ u_ws RX9 TX9 41, w ∈ wsX9_layLike := by decide +kernel
theorem q_X9_layLike_f_1 : (Cond.fieldLink RX9 22 "SoundLawsModel" "kinds" "[I") ∈ wsX9_layLike := by decide +kernel
theorem q_X9_layLike_f_2 : (Cond.fieldLink RX9 25 "SoundLawsModel" "longs" "[I") ∈ wsX9_layLike := by decide +kernel
theorem q_X9_layLike_f_3 : (Cond.fieldLink RX9 28 "SoundLawsModel" "words" "[I") ∈ wsX9_layLike := by decide +kernel
set_option maxHeartbeats 1500000 in
set_option maxRecDepth 100000 in
theorem c_X9_layLike_f (l : Launch) (g : GG) (k0 : Nat) (m0 : Nat) (s1 : Int32) (s2 : Int32) (s3 : Int32) (s4 : Int32) (s5 : Int32) (s6 : Int32) (m7 : Nat) (m8 : Nat) (m9 : Nat) (s10 : Int32) (s11 : Int32) (s12 : Int32) (m13 : Nat) (m14 : Nat) (m15 : Nat) (s16 : Int32) (m17 : Nat) (m18 : Nat) (m19 : Nat) (m20 : Nat) (m21 : Nat) (m22 : Nat) (m23 : Nat) (m24 : Nat) (m25 : Nat) (m26 : Nat) (m27 : Nat) (m28 : Nat) (s29 : Int32) (m30 : Nat) (s31 : Int32) (s32 : Int32) (s33 : Int32) (s34 : Int32) (s35 : Int32) (m36 : Nat) (m37 : Nat) (m38 : Nat) (m39 : Nat) (s40 : Int64) (K : Nat → Int32) (L : Nat → Int32) (V : Nat → Int32) (i : Nat) (j : Nat) (hi : i < 6) (hj : j < 6) (sz : Nat) : MetV l yX9_layLike wsX9_layLike ({ frames := 0, cells := 0, slots := 0, locals := 0 }) g [.ref k0, .int (nI i), .int (nI j)] [(k0, .inr (9, [.ref m0, .int s1, .int s2, .int s3, .int s4, .int s5, .int s6, .ref m7, .ref m8, .ref m9, .int s10, .int s11, .int s12, .ref m13, .ref m14, .ref m15, .int s16, .ref m17, .ref m18, .ref m19, .ref m20, .ref m21, .ref m22, .ref m23, .ref m24, .ref m25, .ref m26, .ref m27, .ref m28, .int s29, .ref m30, .int s31, .int s32, .int s33, .int s34, .int s35, .ref m36, .ref m37, .ref m38, .ref m39, .long s40])), (m13, ai g 6 K), (m14, ai g 6 L), (m15, ai g 96 V)] sz (po_X9_layLike_f g k0 m0 s1 s2 s3 s4 s5 s6 m7 m8 m9 s10 s11 s12 m13 m14 m15 s16 m17 m18 m19 m20 m21 m22 m23 m24 m25 m26 m27 m28 s29 m30 s31 s32 s33 s34 s35 m36 m37 m38 m39 s40 K L V i j) 0 0 := by
  refine k_of (l := l) (y := yX9_layLike) (ws := wsX9_layLike) (rm := { frames := 0, cells := 0, slots := 0, locals := 0 }) (mc := 0) (ms := 0) (av := [.ref k0, .int (nI i), .int (nI j)]) (g := g) (wc := [(k0, .inr (9, [.ref m0, .int s1, .int s2, .int s3, .int s4, .int s5, .int s6, .ref m7, .ref m8, .ref m9, .int s10, .int s11, .int s12, .ref m13, .ref m14, .ref m15, .int s16, .ref m17, .ref m18, .ref m19, .ref m20, .ref m21, .ref m22, .ref m23, .ref m24, .ref m25, .ref m26, .ref m27, .ref m28, .int s29, .ref m30, .int s31, .int s32, .int s33, .int s34, .int s35, .ref m36, .ref m37, .ref m38, .ref m39, .long s40])), (m13, ai g 6 K), (m14, ai g 6 L), (m15, ai g 96 V)]) (Qc := fun A => va_Qv (po_X9_layLike_f g k0 m0 s1 s2 s3 s4 s5 s6 m7 m8 m9 s10 s11 s12 m13 m14 m15 s16 m17 m18 m19 m20 m21 m22 m23 m24 m25 m26 m27 m28 s29 m30 s31 s32 s33 s34 s35 m36 m37 m38 m39 s40 K L V i j) (bk g A) A) (cc := cX9_layLike) (maxL := 4) (ret := none) (by decide) rfl (Nat.le_of_ble_eq_true rfl) ?_ sz
  intro p e s m below meth c hx hb hr hts hown hlocks hnm hml A hA hE hZ hP hD hS ls hl
  have hown : s.vm.findClass RX9 = some m.cls := hown
  have hl : lv_has ls 4 [(0, .ref k0), (1, .int (nI i)), (2, .int (nI j))] := hl
  refine lv_aload_n hx hb dX9_layLike_0 rfl (lv_at hl 0 rfl) ?_
  refine va_get (D := g.1) (ci := 9) (v := .ref m13) (C := RX9) (T := TX9) (N := 41) hx hb hts q_X9_layLike_f_f9 hown hE.1 hP 0 rfl rfl 13 (by decide) (hts (.fieldLink RX9 22 "SoundLawsModel" "kinds" "[I") q_X9_layLike_f_1) (fun _ h9 => h9) rfl dX9_layLike_1 ?_
  refine lv_iload_n hx hb dX9_layLike_4 rfl (lv_at hl 2 rfl) ?_
  refine lv_aload_n hx hb dX9_layLike_5 rfl (lv_at hl 0 rfl) ?_
  refine va_get (D := g.1) (ci := 9) (v := .ref m13) (C := RX9) (T := TX9) (N := 41) hx hb hts q_X9_layLike_f_f9 hown hE.1 hP 0 rfl rfl 13 (by decide) (hts (.fieldLink RX9 22 "SoundLawsModel" "kinds" "[I") q_X9_layLike_f_1) (fun _ h9 => h9) rfl dX9_layLike_6 ?_
  refine lv_iload_n hx hb dX9_layLike_9 rfl (lv_at hl 1 rfl) ?_
  refine k_ald i rfl (by omega) hx hb hE hP 1 rfl (by decide) dX9_layLike_10 ?_
  refine k_ast (x := (K i)) j rfl (by omega) hx hb hE hP hD hS 1 rfl (by decide) dX9_layLike_11 (fun H locs hP hD hS => ?_)
  have hP : va_P g.1 vwCl [(k0, .inr (9, [.ref m0, .int s1, .int s2, .int s3, .int s4, .int s5, .int s6, .ref m7, .ref m8, .ref m9, .int s10, .int s11, .int s12, .ref m13, .ref m14, .ref m15, .int s16, .ref m17, .ref m18, .ref m19, .ref m20, .ref m21, .ref m22, .ref m23, .ref m24, .ref m25, .ref m26, .ref m27, .ref m28, .int s29, .ref m30, .int s31, .int s32, .int s33, .int s34, .int s35, .ref m36, .ref m37, .ref m38, .ref m39, .long s40])), (m13, ai g 6 (upd K j (K i))), (m14, ai g 6 L), (m15, ai g 96 V)] H := hP
  have hD : va_D A [(k0, .inr (9, [.ref m0, .int s1, .int s2, .int s3, .int s4, .int s5, .int s6, .ref m7, .ref m8, .ref m9, .int s10, .int s11, .int s12, .ref m13, .ref m14, .ref m15, .int s16, .ref m17, .ref m18, .ref m19, .ref m20, .ref m21, .ref m22, .ref m23, .ref m24, .ref m25, .ref m26, .ref m27, .ref m28, .int s29, .ref m30, .int s31, .int s32, .int s33, .int s34, .int s35, .ref m36, .ref m37, .ref m38, .ref m39, .long s40])), (m13, ai g 6 (upd K j (K i))), (m14, ai g 6 L), (m15, ai g 96 V)] := hD
  refine lv_aload_n hx hb dX9_layLike_12 rfl (lv_at hl 0 rfl) ?_
  refine va_get (D := g.1) (ci := 9) (v := .ref m14) (C := RX9) (T := TX9) (N := 41) hx hb hts q_X9_layLike_f_f9 hown hE.1 hP 0 rfl rfl 14 (by decide) (hts (.fieldLink RX9 25 "SoundLawsModel" "longs" "[I") q_X9_layLike_f_2) (fun _ h9 => h9) rfl dX9_layLike_13 ?_
  refine lv_iload_n hx hb dX9_layLike_16 rfl (lv_at hl 2 rfl) ?_
  refine lv_aload_n hx hb dX9_layLike_17 rfl (lv_at hl 0 rfl) ?_
  refine va_get (D := g.1) (ci := 9) (v := .ref m14) (C := RX9) (T := TX9) (N := 41) hx hb hts q_X9_layLike_f_f9 hown hE.1 hP 0 rfl rfl 14 (by decide) (hts (.fieldLink RX9 25 "SoundLawsModel" "longs" "[I") q_X9_layLike_f_2) (fun _ h9 => h9) rfl dX9_layLike_18 ?_
  refine lv_iload_n hx hb dX9_layLike_21 rfl (lv_at hl 1 rfl) ?_
  refine k_ald i rfl (by omega) hx hb hE hP 2 rfl (by decide) dX9_layLike_22 ?_
  refine k_ast (x := (L i)) j rfl (by omega) hx hb hE hP hD hS 2 rfl (by decide) dX9_layLike_23 (fun H locs hP hD hS => ?_)
  have hP : va_P g.1 vwCl [(k0, .inr (9, [.ref m0, .int s1, .int s2, .int s3, .int s4, .int s5, .int s6, .ref m7, .ref m8, .ref m9, .int s10, .int s11, .int s12, .ref m13, .ref m14, .ref m15, .int s16, .ref m17, .ref m18, .ref m19, .ref m20, .ref m21, .ref m22, .ref m23, .ref m24, .ref m25, .ref m26, .ref m27, .ref m28, .int s29, .ref m30, .int s31, .int s32, .int s33, .int s34, .int s35, .ref m36, .ref m37, .ref m38, .ref m39, .long s40])), (m13, ai g 6 (upd K j (K i))), (m14, ai g 6 (upd L j (L i))), (m15, ai g 96 V)] H := hP
  have hD : va_D A [(k0, .inr (9, [.ref m0, .int s1, .int s2, .int s3, .int s4, .int s5, .int s6, .ref m7, .ref m8, .ref m9, .int s10, .int s11, .int s12, .ref m13, .ref m14, .ref m15, .int s16, .ref m17, .ref m18, .ref m19, .ref m20, .ref m21, .ref m22, .ref m23, .ref m24, .ref m25, .ref m26, .ref m27, .ref m28, .int s29, .ref m30, .int s31, .int s32, .int s33, .int s34, .int s35, .ref m36, .ref m37, .ref m38, .ref m39, .long s40])), (m13, ai g 6 (upd K j (K i))), (m14, ai g 6 (upd L j (L i))), (m15, ai g 96 V)] := hD
  refine lv_iconst (v := 0) hx hb dX9_layLike_24 (by decide) ?_
  refine lv_istore_n (lv' := [(3, .int 0), (0, .ref k0), (1, .int (nI i)), (2, .int (nI j))]) hx hb dX9_layLike_25 rfl hl (by decide) rfl (fun ls hl => ?_)
  have loop26 : ∀ (fu : Nat) (x : Nat) (V3 : Nat → Int32), (hxx : x ≤ 16) → (hV3 : ∀ m, V3 m = va_cpy V V (16 * i) (16 * j) x m) → 16 - x < fu → ∀ (H : Heap) (locs : List Loc) (ls : Array Slot), va_P g.1 vwCl [(k0, .inr (9, [.ref m0, .int s1, .int s2, .int s3, .int s4, .int s5, .int s6, .ref m7, .ref m8, .ref m9, .int s10, .int s11, .int s12, .ref m13, .ref m14, .ref m15, .int s16, .ref m17, .ref m18, .ref m19, .ref m20, .ref m21, .ref m22, .ref m23, .ref m24, .ref m25, .ref m26, .ref m27, .ref m28, .int s29, .ref m30, .int s31, .int s32, .int s33, .int s34, .int s35, .ref m36, .ref m37, .ref m38, .ref m39, .long s40])), (m13, ai g 6 (upd K j (K i))), (m14, ai g 6 (upd L j (L i))), (m15, ai g 96 V3)] H → va_D A [(k0, .inr (9, [.ref m0, .int s1, .int s2, .int s3, .int s4, .int s5, .int s6, .ref m7, .ref m8, .ref m9, .int s10, .int s11, .int s12, .ref m13, .ref m14, .ref m15, .int s16, .ref m17, .ref m18, .ref m19, .ref m20, .ref m21, .ref m22, .ref m23, .ref m24, .ref m25, .ref m26, .ref m27, .ref m28, .int s29, .ref m30, .int s31, .int s32, .int s33, .int s34, .int s35, .ref m36, .ref m37, .ref m38, .ref m39, .long s40])), (m13, ai g 6 (upd K j (K i))), (m14, ai g 6 (upd L j (L i))), (m15, ai g 96 V3)] → va_S A s.heap H locs → lv_has ls 4 [(0, .ref k0), (1, .int (nI i)), (2, .int (nI j)), (3, .int (nI x))] → W p l e ({ frames := 0, cells := 0, slots := 0, locals := 0 }) s m [.ref k0, .int (nI i), .int (nI j)].toArray below meth c H locs 0 0 (MQ below (va_Qv (po_X9_layLike_f g k0 m0 s1 s2 s3 s4 s5 s6 m7 m8 m9 s10 s11 s12 m13 m14 m15 s16 m17 m18 m19 m20 m21 m22 m23 m24 m25 m26 m27 m28 s29 m30 s31 s32 s33 s34 s35 m36 m37 m38 m39 s40 K L V i j) (bk g A) A) [.ref k0, .int (nI i), .int (nI j)].toArray s 0 0 A) (F0 m 26 ls []) := by
    intro fu
    induction fu with
    | zero => intro x V3 hxx hV3 hfu; exact absurd hfu (Nat.not_lt_zero _)
    | succ fu ih =>
      intro x V3 hxx hV3 hfu H locs ls hP hD hS hl
      have ih26 := ih
      refine lv_iload_n hx hb dX9_layLike_26 rfl (lv_at hl 3 rfl) ?_
      refine lv_bipush (v := 16) hx hb dX9_layLike_27 (by decide) ?_
      refine lv_icmp_ge (tgt := 60) hx hb dX9_layLike_29 (by decide) (fun c29_1 => ?_) (fun c29_1 => ?_)
      · skip
        have hx9 := ge_of_le (k := 16) (n := x) (by omega) (by omega) c29_1; obtain rfl : x = 16 := by omega
        refine W.widen (k := 0) (n := 0) (Nat.le_of_ble_eq_true rfl) (Nat.le_of_ble_eq_true rfl) ?_
        exact k_rv hx hb hr hlocks hS hP hD ⟨V3, rfl, (funext hV3)⟩ dX9_layLike_60
      · skip
        have hx9 := lt_of_nle (k := 16) (n := x) (by omega) (by omega) c29_1
        refine lv_aload_n hx hb dX9_layLike_32 rfl (lv_at hl 0 rfl) ?_
        refine va_get (D := g.1) (ci := 9) (v := .ref m15) (C := RX9) (T := TX9) (N := 41) hx hb hts q_X9_layLike_f_f9 hown hE.1 hP 0 rfl rfl 15 (by decide) (hts (.fieldLink RX9 28 "SoundLawsModel" "words" "[I") q_X9_layLike_f_3) (fun _ h9 => h9) rfl dX9_layLike_33 ?_
        refine lv_bipush (v := 16) hx hb dX9_layLike_36 (by decide) ?_
        refine lv_iload_n hx hb dX9_layLike_38 rfl (lv_at hl 2 rfl) ?_
        refine lv_imul hx hb dX9_layLike_39 ?_
        refine lv_iload_n hx hb dX9_layLike_40 rfl (lv_at hl 3 rfl) ?_
        refine lv_iadd hx hb dX9_layLike_41 ?_
        refine lv_aload_n hx hb dX9_layLike_42 rfl (lv_at hl 0 rfl) ?_
        refine va_get (D := g.1) (ci := 9) (v := .ref m15) (C := RX9) (T := TX9) (N := 41) hx hb hts q_X9_layLike_f_f9 hown hE.1 hP 0 rfl rfl 15 (by decide) (hts (.fieldLink RX9 28 "SoundLawsModel" "words" "[I") q_X9_layLike_f_3) (fun _ h9 => h9) rfl dX9_layLike_43 ?_
        refine lv_bipush (v := 16) hx hb dX9_layLike_46 (by decide) ?_
        refine lv_iload_n hx hb dX9_layLike_48 rfl (lv_at hl 1 rfl) ?_
        refine lv_imul hx hb dX9_layLike_49 ?_
        refine lv_iload_n hx hb dX9_layLike_50 rfl (lv_at hl 3 rfl) ?_
        refine lv_iadd hx hb dX9_layLike_51 ?_
        refine k_ald (16 * i + x) (by rw [show (16 : Int32) = nI 16 from rfl, pk_mul, nI_add]) (by omega) hx hb hE hP 3 rfl (by decide) dX9_layLike_52 ?_
        refine k_ast (x := (V3 (16 * i + x))) (16 * j + x) (by rw [show (16 : Int32) = nI 16 from rfl, pk_mul, nI_add]) (by omega) hx hb hE hP hD hS 3 rfl (by decide) dX9_layLike_53 (fun H locs hP hD hS => ?_)
        have hP : va_P g.1 vwCl [(k0, .inr (9, [.ref m0, .int s1, .int s2, .int s3, .int s4, .int s5, .int s6, .ref m7, .ref m8, .ref m9, .int s10, .int s11, .int s12, .ref m13, .ref m14, .ref m15, .int s16, .ref m17, .ref m18, .ref m19, .ref m20, .ref m21, .ref m22, .ref m23, .ref m24, .ref m25, .ref m26, .ref m27, .ref m28, .int s29, .ref m30, .int s31, .int s32, .int s33, .int s34, .int s35, .ref m36, .ref m37, .ref m38, .ref m39, .long s40])), (m13, ai g 6 (upd K j (K i))), (m14, ai g 6 (upd L j (L i))), (m15, ai g 96 (upd V3 (16 * j + x) (V3 (16 * i + x))))] H := hP
        have hD : va_D A [(k0, .inr (9, [.ref m0, .int s1, .int s2, .int s3, .int s4, .int s5, .int s6, .ref m7, .ref m8, .ref m9, .int s10, .int s11, .int s12, .ref m13, .ref m14, .ref m15, .int s16, .ref m17, .ref m18, .ref m19, .ref m20, .ref m21, .ref m22, .ref m23, .ref m24, .ref m25, .ref m26, .ref m27, .ref m28, .int s29, .ref m30, .int s31, .int s32, .int s33, .int s34, .int s35, .ref m36, .ref m37, .ref m38, .ref m39, .long s40])), (m13, ai g 6 (upd K j (K i))), (m14, ai g 6 (upd L j (L i))), (m15, ai g 96 (upd V3 (16 * j + x) (V3 (16 * i + x))))] := hD
        refine lv_iinc (v := (nI (x + 1))) (lv' := [(3, .int (nI (x + 1))), (0, .ref k0), (1, .int (nI i)), (2, .int (nI j))]) hx hb dX9_layLike_54 hl (k := 3) rfl (nI_1 _) (by decide) rfl (fun ls hl => ?_)
        refine lv_goto (tgt := 26) hx hb dX9_layLike_57 (by decide) ?_
        exact ih26 (x + 1) _ (by omega) (cpy_s hV3 hx9) (by omega) _ _ _ hP hD hS (lv_sub hl [1, 2, 3, 0] rfl)
  exact loop26 _ 0 V (Nat.zero_le 16) cpy_0 (Nat.lt_succ_self _) _ _ _ hP hD hS (lv_sub hl [1, 2, 3, 0] rfl)
def po_X9_copy_f (g : GG) (k0 : Nat) (m0 : Nat) (s1 : Int32) (s2 : Int32) (s3 : Int32) (s4 : Int32) (s5 : Int32) (s6 : Int32) (m7 : Nat) (m8 : Nat) (m9 : Nat) (s12 : Int32) (m13 : Nat) (m14 : Nat) (m15 : Nat) (s16 : Int32) (m17 : Nat) (m18 : Nat) (m19 : Nat) (m20 : Nat) (m21 : Nat) (m22 : Nat) (m23 : Nat) (m24 : Nat) (m25 : Nat) (m26 : Nat) (m27 : Nat) (m28 : Nat) (s29 : Int32) (m30 : Nat) (s31 : Int32) (s32 : Int32) (s33 : Int32) (s34 : Int32) (s35 : Int32) (m36 : Nat) (m37 : Nat) (m38 : Nat) (m39 : Nat) (s40 : Int64) (z : Nat) (t : Nat) (K : Nat → Int32) (L : Nat → Int32) (V : Nat → Int32) (p1 : Int32) : Int32 → va_W → Prop := fun (r : Int32) w => ∃ (o2 : Int32) (z2 : Nat) (K2 : Nat → Int32) (L2 : Nat → Int32) (V2 : Nat → Int32), w = [(k0, .inr (9, [.ref m0, .int s1, .int s2, .int s3, .int s4, .int s5, .int s6, .ref m7, .ref m8, .ref m9, .int (nI z2), .int (nI t), .int s12, .ref m13, .ref m14, .ref m15, .int o2, .ref m17, .ref m18, .ref m19, .ref m20, .ref m21, .ref m22, .ref m23, .ref m24, .ref m25, .ref m26, .ref m27, .ref m28, .int s29, .ref m30, .int s31, .int s32, .int s33, .int s34, .int s35, .ref m36, .ref m37, .ref m38, .ref m39, .long s40])), (m13, ai g 6 K2), (m14, ai g 6 L2), (m15, ai g 96 V2)] ∧ (rCp p1 z = r) ∧ (gst z2 t K2 L2 V2) ∧ (((isI p1 z = 0 ∨ ¬ z < 6) ∧ o2 = s16 ∧ z2 = z ∧ K2 = K ∧ L2 = L ∧ V2 = V) ∨ (o2 = 1 ∧ z < 6 ∧ z2 = z + 1 ∧ ∃ k, k < z ∧ p1 = nI k ∧ K2 = upd K z (K k) ∧ L2 = upd L z (L k) ∧ V2 = va_cpy V V (16 * k) (16 * z) 16))
theorem q_X9_copy_f_f9 : ∀ w ∈ u_ws RX9 TX9 41, w ∈ wsX9_copy := by decide +kernel
theorem q_X9_copy_f_1 : (Cond.fieldLink RX9 147 "SoundLawsModel" "sets" "I") ∈ wsX9_copy := by decide +kernel
theorem q_X9_copy_f_2 : (Cond.fieldLink RX9 153 "SoundLawsModel" "old" "Z") ∈ wsX9_copy := by decide +kernel
set_option maxHeartbeats 1500000 in
set_option maxRecDepth 100000 in
theorem c_X9_copy_f (l : Launch) (g : GG) (k0 : Nat) (m0 : Nat) (s1 : Int32) (s2 : Int32) (s3 : Int32) (s4 : Int32) (s5 : Int32) (s6 : Int32) (m7 : Nat) (m8 : Nat) (m9 : Nat) (s12 : Int32) (m13 : Nat) (m14 : Nat) (m15 : Nat) (s16 : Int32) (m17 : Nat) (m18 : Nat) (m19 : Nat) (m20 : Nat) (m21 : Nat) (m22 : Nat) (m23 : Nat) (m24 : Nat) (m25 : Nat) (m26 : Nat) (m27 : Nat) (m28 : Nat) (s29 : Int32) (m30 : Nat) (s31 : Int32) (s32 : Int32) (s33 : Int32) (s34 : Int32) (s35 : Int32) (m36 : Nat) (m37 : Nat) (m38 : Nat) (m39 : Nat) (s40 : Int64) (z : Nat) (t : Nat) (K : Nat → Int32) (L : Nat → Int32) (V : Nat → Int32) (p1 : Int32) (hg : gst z t K L V) (sz : Nat) : MetI l yX9_copy wsX9_copy ({ frames := 2, cells := 0, slots := 0, locals := 46 }) g [.ref k0, .int p1] [(k0, .inr (9, [.ref m0, .int s1, .int s2, .int s3, .int s4, .int s5, .int s6, .ref m7, .ref m8, .ref m9, .int (nI z), .int (nI t), .int s12, .ref m13, .ref m14, .ref m15, .int s16, .ref m17, .ref m18, .ref m19, .ref m20, .ref m21, .ref m22, .ref m23, .ref m24, .ref m25, .ref m26, .ref m27, .ref m28, .int s29, .ref m30, .int s31, .int s32, .int s33, .int s34, .int s35, .ref m36, .ref m37, .ref m38, .ref m39, .long s40])), (m13, ai g 6 K), (m14, ai g 6 L), (m15, ai g 96 V)] sz (po_X9_copy_f g k0 m0 s1 s2 s3 s4 s5 s6 m7 m8 m9 s12 m13 m14 m15 s16 m17 m18 m19 m20 m21 m22 m23 m24 m25 m26 m27 m28 s29 m30 s31 s32 s33 s34 s35 m36 m37 m38 m39 s40 z t K L V p1) 0 0 := by
  refine k_of (l := l) (y := yX9_copy) (ws := wsX9_copy) (rm := { frames := 2, cells := 0, slots := 0, locals := 46 }) (mc := 0) (ms := 0) (av := [.ref k0, .int p1]) (g := g) (wc := [(k0, .inr (9, [.ref m0, .int s1, .int s2, .int s3, .int s4, .int s5, .int s6, .ref m7, .ref m8, .ref m9, .int (nI z), .int (nI t), .int s12, .ref m13, .ref m14, .ref m15, .int s16, .ref m17, .ref m18, .ref m19, .ref m20, .ref m21, .ref m22, .ref m23, .ref m24, .ref m25, .ref m26, .ref m27, .ref m28, .int s29, .ref m30, .int s31, .int s32, .int s33, .int s34, .int s35, .ref m36, .ref m37, .ref m38, .ref m39, .long s40])), (m13, ai g 6 K), (m14, ai g 6 L), (m15, ai g 96 V)]) (Qc := fun A => va_Qi (po_X9_copy_f g k0 m0 s1 s2 s3 s4 s5 s6 m7 m8 m9 s12 m13 m14 m15 s16 m17 m18 m19 m20 m21 m22 m23 m24 m25 m26 m27 m28 s29 m30 s31 s32 s33 s34 s35 m36 m37 m38 m39 s40 z t K L V p1) (bk g A) A) (cc := cX9_copy) (maxL := 2) (ret := (some .int)) (by decide) rfl (Nat.le_of_ble_eq_true rfl) ?_ sz
  intro p e s m below meth c hx hb hr hts hown hlocks hnm hml A hA hE hZ hP hD hS ls hl
  have hown : s.vm.findClass RX9 = some m.cls := hown
  have hl : lv_has ls 2 [(0, .ref k0), (1, .int p1)] := hl
  obtain ⟨hz, hzt, ht4, hK, hL, hV⟩ := id hg
  refine lv_aload_n hx hb dX9_copy_0 rfl (lv_at hl 0 rfl) ?_
  refine lv_iload_n hx hb dX9_copy_1 rfl (lv_at hl 1 rfl) ?_
  refine k_ci (wr := [(m13, ai g 6 K), (m14, ai g 6 L), (m15, ai g 96 V)]) hP hD hS hA [0] [1, 2, 3] rfl rfl (by decide) (by decide) (va_runV (As := [.int p1]) (rest := []) ⟨hx, hb, hml, hown, hts⟩ (c_X9_isSet_g l g k0 m0 s1 s2 s3 s4 s5 s6 m7 m8 m9 (nI t) s12 m13 m14 m15 s16 m17 m18 m19 m20 m21 m22 m23 m24 m25 m26 m27 m28 s29 m30 s31 s32 s33 s34 s35 m36 m37 m38 m39 s40 z p1 (by first | assumption | omega) s.heap.size) (cwV 1 hts gX9_copy_X9_isSet rfl rfl rfl (by decide +kernel) ⟨Nat.le_of_ble_eq_true rfl, Nat.le_of_ble_eq_true rfl⟩) (k_preV hE hZ hP hD hS hA [0] rfl (by decide) (va_recv hE.1 hP (ci := 9) (q0 := 0) rfl rfl)) rfl rfl hl.1 rfl (lv_room (Nat.le_of_ble_eq_true rfl)) dX9_copy_2 ⟨Nat.le_of_ble_eq_true rfl, Nat.le_of_ble_eq_true rfl⟩) (fun r_1 w1 H locs hw hP hD hS => ?_)
  obtain ⟨rfl, rfl⟩ := hw
  have hP : va_P g.1 vwCl [(m13, ai g 6 K), (m14, ai g 6 L), (m15, ai g 96 V), (k0, .inr (9, [.ref m0, .int s1, .int s2, .int s3, .int s4, .int s5, .int s6, .ref m7, .ref m8, .ref m9, .int (nI z), .int (nI t), .int s12, .ref m13, .ref m14, .ref m15, .int s16, .ref m17, .ref m18, .ref m19, .ref m20, .ref m21, .ref m22, .ref m23, .ref m24, .ref m25, .ref m26, .ref m27, .ref m28, .int s29, .ref m30, .int s31, .int s32, .int s33, .int s34, .int s35, .ref m36, .ref m37, .ref m38, .ref m39, .long s40]))] H := hP
  have hD : va_D A [(m13, ai g 6 K), (m14, ai g 6 L), (m15, ai g 96 V), (k0, .inr (9, [.ref m0, .int s1, .int s2, .int s3, .int s4, .int s5, .int s6, .ref m7, .ref m8, .ref m9, .int (nI z), .int (nI t), .int s12, .ref m13, .ref m14, .ref m15, .int s16, .ref m17, .ref m18, .ref m19, .ref m20, .ref m21, .ref m22, .ref m23, .ref m24, .ref m25, .ref m26, .ref m27, .ref m28, .int s29, .ref m30, .int s31, .int s32, .int s33, .int s34, .int s35, .ref m36, .ref m37, .ref m38, .ref m39, .long s40]))] := hD
  refine lv_if_ne (tgt := 11) hx hb dX9_copy_5 (by decide) (fun c5_3 => ?_) (fun c5_3 => ?_)
  · skip
    refine lv_aload_n hx hb dX9_copy_11 rfl (lv_at hl 0 rfl) ?_
    refine va_get (D := g.1) (ci := 9) (v := .int (nI z)) (C := RX9) (T := TX9) (N := 41) hx hb hts q_X9_copy_f_f9 hown hE.1 hP 3 rfl rfl 10 (by decide) (hts (.fieldLink RX9 147 "SoundLawsModel" "sets" "I") q_X9_copy_f_1) (fun _ h9 => h9) rfl dX9_copy_12 ?_
    refine lv_bipush (v := 6) hx hb dX9_copy_15 (by decide) ?_
    refine lv_icmp_ne (tgt := 23) hx hb dX9_copy_17 (by decide) (fun c17_4 => ?_) (fun c17_4 => ?_)
    · skip
      obtain ⟨k1, hk1, rfl⟩ := isI_of (p := p1) (by omega) c5_3
      have hz6 : z < 6 := by have q : ¬ z = 6 := fun q => c17_4 (by rw [q]; rfl); omega
      refine lv_aload_n hx hb dX9_copy_23 rfl (lv_at hl 0 rfl) ?_
      refine lv_iload_n hx hb dX9_copy_24 rfl (lv_at hl 1 rfl) ?_
      refine lv_aload_n hx hb dX9_copy_25 rfl (lv_at hl 0 rfl) ?_
      refine va_get (D := g.1) (ci := 9) (v := .int (nI z)) (C := RX9) (T := TX9) (N := 41) hx hb hts q_X9_copy_f_f9 hown hE.1 hP 3 rfl rfl 10 (by decide) (hts (.fieldLink RX9 147 "SoundLawsModel" "sets" "I") q_X9_copy_f_1) (fun _ h9 => h9) rfl dX9_copy_26 ?_
      refine k_cv (wr := []) hP hD hS hA [3, 0, 1, 2] [] rfl rfl (by decide) (by decide) (va_runV (As := [.int (nI k1), .int (nI z)]) (rest := []) ⟨hx, hb, hml, hown, hts⟩ (c_X9_layLike_f l g k0 m0 s1 s2 s3 s4 s5 s6 m7 m8 m9 (nI z) (nI t) s12 m13 m14 m15 s16 m17 m18 m19 m20 m21 m22 m23 m24 m25 m26 m27 m28 s29 m30 s31 s32 s33 s34 s35 m36 m37 m38 m39 s40 K L V k1 z (by first | assumption | omega) (by first | assumption | omega) H.size) (cwV 2 hts gX9_copy_X9_layLike rfl rfl rfl (by decide +kernel) ⟨Nat.le_of_ble_eq_true rfl, Nat.le_of_ble_eq_true rfl⟩) (k_preV hE hZ hP hD hS hA [3, 0, 1, 2] rfl (by decide) (va_recv hE.1 hP (ci := 9) (q0 := 3) rfl rfl)) rfl rfl hl.1 rfl (lv_room (Nat.le_of_ble_eq_true rfl)) dX9_copy_29 ⟨Nat.le_of_ble_eq_true rfl, Nat.le_of_ble_eq_true rfl⟩) (fun w1 H locs hw hP hD hS => ?_)
      obtain ⟨V2_6, rfl, hv_7⟩ := hw
      have hP : va_P g.1 vwCl [(k0, .inr (9, [.ref m0, .int s1, .int s2, .int s3, .int s4, .int s5, .int s6, .ref m7, .ref m8, .ref m9, .int (nI z), .int (nI t), .int s12, .ref m13, .ref m14, .ref m15, .int s16, .ref m17, .ref m18, .ref m19, .ref m20, .ref m21, .ref m22, .ref m23, .ref m24, .ref m25, .ref m26, .ref m27, .ref m28, .int s29, .ref m30, .int s31, .int s32, .int s33, .int s34, .int s35, .ref m36, .ref m37, .ref m38, .ref m39, .long s40])), (m13, ai g 6 (upd K z (K k1))), (m14, ai g 6 (upd L z (L k1))), (m15, ai g 96 V2_6)] H := hP
      have hD : va_D A [(k0, .inr (9, [.ref m0, .int s1, .int s2, .int s3, .int s4, .int s5, .int s6, .ref m7, .ref m8, .ref m9, .int (nI z), .int (nI t), .int s12, .ref m13, .ref m14, .ref m15, .int s16, .ref m17, .ref m18, .ref m19, .ref m20, .ref m21, .ref m22, .ref m23, .ref m24, .ref m25, .ref m26, .ref m27, .ref m28, .int s29, .ref m30, .int s31, .int s32, .int s33, .int s34, .int s35, .ref m36, .ref m37, .ref m38, .ref m39, .long s40])), (m13, ai g 6 (upd K z (K k1))), (m14, ai g 6 (upd L z (L k1))), (m15, ai g 96 V2_6)] := hD
      refine lv_aload_n hx hb dX9_copy_32 rfl (lv_at hl 0 rfl) ?_
      refine lv_dup hx hb dX9_copy_33 rfl ?_
      refine va_get (D := g.1) (ci := 9) (v := .int (nI z)) (C := RX9) (T := TX9) (N := 41) hx hb hts q_X9_copy_f_f9 hown hE.1 hP 0 rfl rfl 10 (by decide) (hts (.fieldLink RX9 147 "SoundLawsModel" "sets" "I") q_X9_copy_f_1) (fun _ h9 => h9) rfl dX9_copy_34 ?_
      refine lv_iconst (v := 1) hx hb dX9_copy_37 (by decide) ?_
      refine lv_iadd hx hb dX9_copy_38 ?_
      refine lv_topi (fun x_8 ex_8 => ?_)
      obtain rfl : x_8 = nI (z + 1) := by rw [ex_8]; exact nI_1 z
      refine va_put (D := g.1) (ci := 9) (v := .int (nI (z + 1))) (ty := .int) (C := RX9) (T := TX9) (N := 41) hx hb hts q_X9_copy_f_f9 tyX9 tyX9_ok nmX9 hown hE.1 hP hD hS 0 rfl rfl 10 (by decide) (hts (.fieldLink RX9 147 "SoundLawsModel" "sets" "I") q_X9_copy_f_1) (fun _ h9 => h9) rfl (by decide +kernel) rfl rfl (Nat.le_of_ble_eq_true rfl) dX9_copy_39 (fun H locs hP hD hS => ?_)
      have hP : va_P g.1 vwCl [(k0, .inr (9, [.ref m0, .int s1, .int s2, .int s3, .int s4, .int s5, .int s6, .ref m7, .ref m8, .ref m9, .int (nI (z + 1)), .int (nI t), .int s12, .ref m13, .ref m14, .ref m15, .int s16, .ref m17, .ref m18, .ref m19, .ref m20, .ref m21, .ref m22, .ref m23, .ref m24, .ref m25, .ref m26, .ref m27, .ref m28, .int s29, .ref m30, .int s31, .int s32, .int s33, .int s34, .int s35, .ref m36, .ref m37, .ref m38, .ref m39, .long s40])), (m13, ai g 6 (upd K z (K k1))), (m14, ai g 6 (upd L z (L k1))), (m15, ai g 96 V2_6)] H := hP
      have hD : va_D A [(k0, .inr (9, [.ref m0, .int s1, .int s2, .int s3, .int s4, .int s5, .int s6, .ref m7, .ref m8, .ref m9, .int (nI (z + 1)), .int (nI t), .int s12, .ref m13, .ref m14, .ref m15, .int s16, .ref m17, .ref m18, .ref m19, .ref m20, .ref m21, .ref m22, .ref m23, .ref m24, .ref m25, .ref m26, .ref m27, .ref m28, .int s29, .ref m30, .int s31, .int s32, .int s33, .int s34, .int s35, .ref m36, .ref m37, .ref m38, .ref m39, .long s40])), (m13, ai g 6 (upd K z (K k1))), (m14, ai g 6 (upd L z (L k1))), (m15, ai g 96 V2_6)] := hD
      refine lv_aload_n hx hb dX9_copy_42 rfl (lv_at hl 0 rfl) ?_
      refine lv_iconst (v := 1) hx hb dX9_copy_43 (by decide) ?_
      refine va_put (D := g.1) (ci := 9) (v := .int 1) (ty := .boolean) (C := RX9) (T := TX9) (N := 41) hx hb hts q_X9_copy_f_f9 tyX9 tyX9_ok nmX9 hown hE.1 hP hD hS 0 rfl rfl 16 (by decide) (hts (.fieldLink RX9 153 "SoundLawsModel" "old" "Z") q_X9_copy_f_2) (fun _ h9 => h9) rfl (by decide +kernel) rfl rfl (Nat.le_of_ble_eq_true rfl) dX9_copy_44 (fun H locs hP hD hS => ?_)
      have hP : va_P g.1 vwCl [(k0, .inr (9, [.ref m0, .int s1, .int s2, .int s3, .int s4, .int s5, .int s6, .ref m7, .ref m8, .ref m9, .int (nI (z + 1)), .int (nI t), .int s12, .ref m13, .ref m14, .ref m15, .int 1, .ref m17, .ref m18, .ref m19, .ref m20, .ref m21, .ref m22, .ref m23, .ref m24, .ref m25, .ref m26, .ref m27, .ref m28, .int s29, .ref m30, .int s31, .int s32, .int s33, .int s34, .int s35, .ref m36, .ref m37, .ref m38, .ref m39, .long s40])), (m13, ai g 6 (upd K z (K k1))), (m14, ai g 6 (upd L z (L k1))), (m15, ai g 96 V2_6)] H := hP
      have hD : va_D A [(k0, .inr (9, [.ref m0, .int s1, .int s2, .int s3, .int s4, .int s5, .int s6, .ref m7, .ref m8, .ref m9, .int (nI (z + 1)), .int (nI t), .int s12, .ref m13, .ref m14, .ref m15, .int 1, .ref m17, .ref m18, .ref m19, .ref m20, .ref m21, .ref m22, .ref m23, .ref m24, .ref m25, .ref m26, .ref m27, .ref m28, .int s29, .ref m30, .int s31, .int s32, .int s33, .int s34, .int s35, .ref m36, .ref m37, .ref m38, .ref m39, .long s40])), (m13, ai g 6 (upd K z (K k1))), (m14, ai g 6 (upd L z (L k1))), (m15, ai g 96 V2_6)] := hD
      refine lv_aload_n hx hb dX9_copy_47 rfl (lv_at hl 0 rfl) ?_
      refine va_get (D := g.1) (ci := 9) (v := .int (nI (z + 1))) (C := RX9) (T := TX9) (N := 41) hx hb hts q_X9_copy_f_f9 hown hE.1 hP 0 rfl rfl 10 (by decide) (hts (.fieldLink RX9 147 "SoundLawsModel" "sets" "I") q_X9_copy_f_1) (fun _ h9 => h9) rfl dX9_copy_48 ?_
      refine lv_iconst (v := 1) hx hb dX9_copy_51 (by decide) ?_
      refine lv_isub hx hb dX9_copy_52 ?_
      refine lv_topi (fun x_9 ex_9 => ?_)
      obtain rfl : x_9 = nI z := by rw [ex_9]; exact nI_pred z
      refine W.widen (k := 0) (n := 0) (Nat.le_of_ble_eq_true rfl) (Nat.le_of_ble_eq_true rfl) ?_
      exact k_ri hx hb hr hlocks hS hP hD ⟨1, (z + 1), (upd K z (K k1)), (upd L z (L k1)), V2_6, rfl, (by unfold rCp; rw [if_neg c5_3, if_pos hz6]), ⟨by omega, fun _ => hzt (by omega), ht4, rng_at_upd hK (by omega), rng_at_upd hL (by omega), (by rw [hv_7]; exact rng_cpy hV hV (by omega))⟩, Or.inr ⟨rfl, hz6, rfl, k1, hk1, rfl, rfl, rfl, hv_7⟩⟩ dX9_copy_53
    · skip
      refine lv_bipush (v := (-104)) hx hb dX9_copy_20 (by decide) ?_
      refine W.widen (k := 0) (n := 0) (Nat.le_of_ble_eq_true rfl) (Nat.le_of_ble_eq_true rfl) ?_
      have hP9 := hP.sub (ws' := [(k0, .inr (9, [.ref m0, .int s1, .int s2, .int s3, .int s4, .int s5, .int s6, .ref m7, .ref m8, .ref m9, .int (nI z), .int (nI t), .int s12, .ref m13, .ref m14, .ref m15, .int s16, .ref m17, .ref m18, .ref m19, .ref m20, .ref m21, .ref m22, .ref m23, .ref m24, .ref m25, .ref m26, .ref m27, .ref m28, .int s29, .ref m30, .int s31, .int s32, .int s33, .int s34, .int s35, .ref m36, .ref m37, .ref m38, .ref m39, .long s40])), (m13, ai g 6 K), (m14, ai g 6 L), (m15, ai g 96 V)]) [3, 0, 1, 2] rfl
      have hD9 := hD.sub (ws' := [(k0, .inr (9, [.ref m0, .int s1, .int s2, .int s3, .int s4, .int s5, .int s6, .ref m7, .ref m8, .ref m9, .int (nI z), .int (nI t), .int s12, .ref m13, .ref m14, .ref m15, .int s16, .ref m17, .ref m18, .ref m19, .ref m20, .ref m21, .ref m22, .ref m23, .ref m24, .ref m25, .ref m26, .ref m27, .ref m28, .int s29, .ref m30, .int s31, .int s32, .int s33, .int s34, .int s35, .ref m36, .ref m37, .ref m38, .ref m39, .long s40])), (m13, ai g 6 K), (m14, ai g 6 L), (m15, ai g 96 V)]) [3, 0, 1, 2] (by decide) rfl
      exact k_ri hx hb hr hlocks hS hP9 hD9 ⟨s16, z, K, L, V, rfl, (by unfold rCp; rw [if_neg c5_3, if_neg (show ¬ z < 6 from by have := (nI_eq (b := 6) (by omega) (by decide)).mp c17_4; omega)]), hg, Or.inl ⟨Or.inr (by have := (nI_eq (b := 6) (by omega) (by decide)).mp c17_4; omega), rfl, rfl, rfl, rfl, rfl⟩⟩ dX9_copy_22
  · skip
    refine lv_bipush (v := (-101)) hx hb dX9_copy_8 (by decide) ?_
    refine W.widen (k := 0) (n := 0) (Nat.le_of_ble_eq_true rfl) (Nat.le_of_ble_eq_true rfl) ?_
    have hP9 := hP.sub (ws' := [(k0, .inr (9, [.ref m0, .int s1, .int s2, .int s3, .int s4, .int s5, .int s6, .ref m7, .ref m8, .ref m9, .int (nI z), .int (nI t), .int s12, .ref m13, .ref m14, .ref m15, .int s16, .ref m17, .ref m18, .ref m19, .ref m20, .ref m21, .ref m22, .ref m23, .ref m24, .ref m25, .ref m26, .ref m27, .ref m28, .int s29, .ref m30, .int s31, .int s32, .int s33, .int s34, .int s35, .ref m36, .ref m37, .ref m38, .ref m39, .long s40])), (m13, ai g 6 K), (m14, ai g 6 L), (m15, ai g 96 V)]) [3, 0, 1, 2] rfl
    have hD9 := hD.sub (ws' := [(k0, .inr (9, [.ref m0, .int s1, .int s2, .int s3, .int s4, .int s5, .int s6, .ref m7, .ref m8, .ref m9, .int (nI z), .int (nI t), .int s12, .ref m13, .ref m14, .ref m15, .int s16, .ref m17, .ref m18, .ref m19, .ref m20, .ref m21, .ref m22, .ref m23, .ref m24, .ref m25, .ref m26, .ref m27, .ref m28, .int s29, .ref m30, .int s31, .int s32, .int s33, .int s34, .int s35, .ref m36, .ref m37, .ref m38, .ref m39, .long s40])), (m13, ai g 6 K), (m14, ai g 6 L), (m15, ai g 96 V)]) [3, 0, 1, 2] (by decide) rfl
    exact k_ri hx hb hr hlocks hS hP9 hD9 ⟨s16, z, K, L, V, rfl, (by unfold rCp; rw [if_pos c5_3]), hg, Or.inl ⟨Or.inl c5_3, rfl, rfl, rfl, rfl, rfl⟩⟩ dX9_copy_10
def po_X9_take_f (g : GG) (k0 : Nat) (m0 : Nat) (s1 : Int32) (s2 : Int32) (s3 : Int32) (s4 : Int32) (s5 : Int32) (s6 : Int32) (m7 : Nat) (m8 : Nat) (m9 : Nat) (s12 : Int32) (m13 : Nat) (m14 : Nat) (m15 : Nat) (s16 : Int32) (m17 : Nat) (m18 : Nat) (m19 : Nat) (m20 : Nat) (m21 : Nat) (m22 : Nat) (m23 : Nat) (m24 : Nat) (m25 : Nat) (m26 : Nat) (m27 : Nat) (m28 : Nat) (s29 : Int32) (m30 : Nat) (s31 : Int32) (s32 : Int32) (s33 : Int32) (s34 : Int32) (s35 : Int32) (m36 : Nat) (m37 : Nat) (m38 : Nat) (m39 : Nat) (s40 : Int64) (z : Nat) (t : Nat) (K : Nat → Int32) (L : Nat → Int32) (V : Nat → Int32) (p1 : Int32) : Int32 → va_W → Prop := fun (r : Int32) w => ∃ (o2 : Int32) (z2 : Nat) (K2 : Nat → Int32) (L2 : Nat → Int32) (V2 : Nat → Int32), w = [(k0, .inr (9, [.ref m0, .int s1, .int s2, .int s3, .int s4, .int s5, .int s6, .ref m7, .ref m8, .ref m9, .int (nI z2), .int (nI t), .int s12, .ref m13, .ref m14, .ref m15, .int o2, .ref m17, .ref m18, .ref m19, .ref m20, .ref m21, .ref m22, .ref m23, .ref m24, .ref m25, .ref m26, .ref m27, .ref m28, .int s29, .ref m30, .int s31, .int s32, .int s33, .int s34, .int s35, .ref m36, .ref m37, .ref m38, .ref m39, .long s40])), (m13, ai g 6 K2), (m14, ai g 6 L2), (m15, ai g 96 V2)] ∧ (rTk p1 z = r) ∧ (gst z2 t K2 L2 V2) ∧ (((isI p1 z = 0 ∨ z = 1) ∧ o2 = s16 ∧ z2 = z ∧ K2 = K ∧ L2 = L ∧ V2 = V) ∨ (o2 = 1 ∧ ¬ z = 1 ∧ z2 = z - 1 ∧ ∃ k, k < z ∧ p1 = nI k ∧ (∀ i, i < 6 → K2 i = K (sh k z i)) ∧ (∀ i, i < 6 → L2 i = L (sh k z i)) ∧ (∀ i, i < 6 → ∀ x, x < 16 → V2 (16 * i + x) = V (16 * sh k z i + x))))
theorem q_X9_take_f_f9 : ∀ w ∈ u_ws RX9 TX9 41, w ∈ wsX9_take := by decide +kernel
theorem q_X9_take_f_1 : (Cond.fieldLink RX9 147 "SoundLawsModel" "sets" "I") ∈ wsX9_take := by decide +kernel
theorem q_X9_take_f_2 : (Cond.fieldLink RX9 153 "SoundLawsModel" "old" "Z") ∈ wsX9_take := by decide +kernel
set_option maxHeartbeats 1500000 in
set_option maxRecDepth 100000 in
theorem c_X9_take_f (l : Launch) (g : GG) (k0 : Nat) (m0 : Nat) (s1 : Int32) (s2 : Int32) (s3 : Int32) (s4 : Int32) (s5 : Int32) (s6 : Int32) (m7 : Nat) (m8 : Nat) (m9 : Nat) (s12 : Int32) (m13 : Nat) (m14 : Nat) (m15 : Nat) (s16 : Int32) (m17 : Nat) (m18 : Nat) (m19 : Nat) (m20 : Nat) (m21 : Nat) (m22 : Nat) (m23 : Nat) (m24 : Nat) (m25 : Nat) (m26 : Nat) (m27 : Nat) (m28 : Nat) (s29 : Int32) (m30 : Nat) (s31 : Int32) (s32 : Int32) (s33 : Int32) (s34 : Int32) (s35 : Int32) (m36 : Nat) (m37 : Nat) (m38 : Nat) (m39 : Nat) (s40 : Int64) (z : Nat) (t : Nat) (K : Nat → Int32) (L : Nat → Int32) (V : Nat → Int32) (p1 : Int32) (hg : gst z t K L V) (sz : Nat) : MetI l yX9_take wsX9_take ({ frames := 2, cells := 0, slots := 0, locals := 46 }) g [.ref k0, .int p1] [(k0, .inr (9, [.ref m0, .int s1, .int s2, .int s3, .int s4, .int s5, .int s6, .ref m7, .ref m8, .ref m9, .int (nI z), .int (nI t), .int s12, .ref m13, .ref m14, .ref m15, .int s16, .ref m17, .ref m18, .ref m19, .ref m20, .ref m21, .ref m22, .ref m23, .ref m24, .ref m25, .ref m26, .ref m27, .ref m28, .int s29, .ref m30, .int s31, .int s32, .int s33, .int s34, .int s35, .ref m36, .ref m37, .ref m38, .ref m39, .long s40])), (m13, ai g 6 K), (m14, ai g 6 L), (m15, ai g 96 V)] sz (po_X9_take_f g k0 m0 s1 s2 s3 s4 s5 s6 m7 m8 m9 s12 m13 m14 m15 s16 m17 m18 m19 m20 m21 m22 m23 m24 m25 m26 m27 m28 s29 m30 s31 s32 s33 s34 s35 m36 m37 m38 m39 s40 z t K L V p1) 0 0 := by
  refine k_of (l := l) (y := yX9_take) (ws := wsX9_take) (rm := { frames := 2, cells := 0, slots := 0, locals := 46 }) (mc := 0) (ms := 0) (av := [.ref k0, .int p1]) (g := g) (wc := [(k0, .inr (9, [.ref m0, .int s1, .int s2, .int s3, .int s4, .int s5, .int s6, .ref m7, .ref m8, .ref m9, .int (nI z), .int (nI t), .int s12, .ref m13, .ref m14, .ref m15, .int s16, .ref m17, .ref m18, .ref m19, .ref m20, .ref m21, .ref m22, .ref m23, .ref m24, .ref m25, .ref m26, .ref m27, .ref m28, .int s29, .ref m30, .int s31, .int s32, .int s33, .int s34, .int s35, .ref m36, .ref m37, .ref m38, .ref m39, .long s40])), (m13, ai g 6 K), (m14, ai g 6 L), (m15, ai g 96 V)]) (Qc := fun A => va_Qi (po_X9_take_f g k0 m0 s1 s2 s3 s4 s5 s6 m7 m8 m9 s12 m13 m14 m15 s16 m17 m18 m19 m20 m21 m22 m23 m24 m25 m26 m27 m28 s29 m30 s31 s32 s33 s34 s35 m36 m37 m38 m39 s40 z t K L V p1) (bk g A) A) (cc := cX9_take) (maxL := 3) (ret := (some .int)) (by decide) rfl (Nat.le_of_ble_eq_true rfl) ?_ sz
  intro p e s m below meth c hx hb hr hts hown hlocks hnm hml A hA hE hZ hP hD hS ls hl
  have hown : s.vm.findClass RX9 = some m.cls := hown
  have hl : lv_has ls 3 [(0, .ref k0), (1, .int p1)] := hl
  obtain ⟨hz, hzt, ht4, hK, hL, hV⟩ := id hg
  refine lv_aload_n hx hb dX9_take_0 rfl (lv_at hl 0 rfl) ?_
  refine lv_iload_n hx hb dX9_take_1 rfl (lv_at hl 1 rfl) ?_
  refine k_ci (wr := [(m13, ai g 6 K), (m14, ai g 6 L), (m15, ai g 96 V)]) hP hD hS hA [0] [1, 2, 3] rfl rfl (by decide) (by decide) (va_runV (As := [.int p1]) (rest := []) ⟨hx, hb, hml, hown, hts⟩ (c_X9_isSet_g l g k0 m0 s1 s2 s3 s4 s5 s6 m7 m8 m9 (nI t) s12 m13 m14 m15 s16 m17 m18 m19 m20 m21 m22 m23 m24 m25 m26 m27 m28 s29 m30 s31 s32 s33 s34 s35 m36 m37 m38 m39 s40 z p1 (by first | assumption | omega) s.heap.size) (cwV 1 hts gX9_take_X9_isSet rfl rfl rfl (by decide +kernel) ⟨Nat.le_of_ble_eq_true rfl, Nat.le_of_ble_eq_true rfl⟩) (k_preV hE hZ hP hD hS hA [0] rfl (by decide) (va_recv hE.1 hP (ci := 9) (q0 := 0) rfl rfl)) rfl rfl hl.1 rfl (lv_room (Nat.le_of_ble_eq_true rfl)) dX9_take_2 ⟨Nat.le_of_ble_eq_true rfl, Nat.le_of_ble_eq_true rfl⟩) (fun r_1 w1 H locs hw hP hD hS => ?_)
  obtain ⟨rfl, rfl⟩ := hw
  have hP : va_P g.1 vwCl [(m13, ai g 6 K), (m14, ai g 6 L), (m15, ai g 96 V), (k0, .inr (9, [.ref m0, .int s1, .int s2, .int s3, .int s4, .int s5, .int s6, .ref m7, .ref m8, .ref m9, .int (nI z), .int (nI t), .int s12, .ref m13, .ref m14, .ref m15, .int s16, .ref m17, .ref m18, .ref m19, .ref m20, .ref m21, .ref m22, .ref m23, .ref m24, .ref m25, .ref m26, .ref m27, .ref m28, .int s29, .ref m30, .int s31, .int s32, .int s33, .int s34, .int s35, .ref m36, .ref m37, .ref m38, .ref m39, .long s40]))] H := hP
  have hD : va_D A [(m13, ai g 6 K), (m14, ai g 6 L), (m15, ai g 96 V), (k0, .inr (9, [.ref m0, .int s1, .int s2, .int s3, .int s4, .int s5, .int s6, .ref m7, .ref m8, .ref m9, .int (nI z), .int (nI t), .int s12, .ref m13, .ref m14, .ref m15, .int s16, .ref m17, .ref m18, .ref m19, .ref m20, .ref m21, .ref m22, .ref m23, .ref m24, .ref m25, .ref m26, .ref m27, .ref m28, .int s29, .ref m30, .int s31, .int s32, .int s33, .int s34, .int s35, .ref m36, .ref m37, .ref m38, .ref m39, .long s40]))] := hD
  refine lv_if_ne (tgt := 11) hx hb dX9_take_5 (by decide) (fun c5_3 => ?_) (fun c5_3 => ?_)
  · skip
    refine lv_aload_n hx hb dX9_take_11 rfl (lv_at hl 0 rfl) ?_
    refine va_get (D := g.1) (ci := 9) (v := .int (nI z)) (C := RX9) (T := TX9) (N := 41) hx hb hts q_X9_take_f_f9 hown hE.1 hP 3 rfl rfl 10 (by decide) (hts (.fieldLink RX9 147 "SoundLawsModel" "sets" "I") q_X9_take_f_1) (fun _ h9 => h9) rfl dX9_take_12 ?_
    refine lv_iconst (v := 1) hx hb dX9_take_15 (by decide) ?_
    refine lv_icmp_ne (tgt := 22) hx hb dX9_take_16 (by decide) (fun c16_4 => ?_) (fun c16_4 => ?_)
    · skip
      obtain ⟨k1, hk1, rfl⟩ := isI_of (p := p1) (by omega) c5_3
      have hz1 : ¬ z = 1 := fun q => c16_4 (by rw [q]; rfl)
      refine lv_aload_n hx hb dX9_take_22 rfl (lv_at hl 0 rfl) ?_
      refine lv_dup hx hb dX9_take_23 rfl ?_
      refine va_get (D := g.1) (ci := 9) (v := .int (nI z)) (C := RX9) (T := TX9) (N := 41) hx hb hts q_X9_take_f_f9 hown hE.1 hP 3 rfl rfl 10 (by decide) (hts (.fieldLink RX9 147 "SoundLawsModel" "sets" "I") q_X9_take_f_1) (fun _ h9 => h9) rfl dX9_take_24 ?_
      refine lv_iconst (v := 1) hx hb dX9_take_27 (by decide) ?_
      refine lv_isub hx hb dX9_take_28 ?_
      refine lv_topi (fun x_5 ex_5 => ?_)
      obtain rfl : x_5 = nI (z - 1) := by rw [ex_5]; exact pk_sub (b := 1) (by omega)
      refine va_put (D := g.1) (ci := 9) (v := .int (nI (z - 1))) (ty := .int) (C := RX9) (T := TX9) (N := 41) hx hb hts q_X9_take_f_f9 tyX9 tyX9_ok nmX9 hown hE.1 hP hD hS 3 rfl rfl 10 (by decide) (hts (.fieldLink RX9 147 "SoundLawsModel" "sets" "I") q_X9_take_f_1) (fun _ h9 => h9) rfl (by decide +kernel) rfl rfl (Nat.le_of_ble_eq_true rfl) dX9_take_29 (fun H locs hP hD hS => ?_)
      have hP : va_P g.1 vwCl [(m13, ai g 6 K), (m14, ai g 6 L), (m15, ai g 96 V), (k0, .inr (9, [.ref m0, .int s1, .int s2, .int s3, .int s4, .int s5, .int s6, .ref m7, .ref m8, .ref m9, .int (nI (z - 1)), .int (nI t), .int s12, .ref m13, .ref m14, .ref m15, .int s16, .ref m17, .ref m18, .ref m19, .ref m20, .ref m21, .ref m22, .ref m23, .ref m24, .ref m25, .ref m26, .ref m27, .ref m28, .int s29, .ref m30, .int s31, .int s32, .int s33, .int s34, .int s35, .ref m36, .ref m37, .ref m38, .ref m39, .long s40]))] H := hP
      have hD : va_D A [(m13, ai g 6 K), (m14, ai g 6 L), (m15, ai g 96 V), (k0, .inr (9, [.ref m0, .int s1, .int s2, .int s3, .int s4, .int s5, .int s6, .ref m7, .ref m8, .ref m9, .int (nI (z - 1)), .int (nI t), .int s12, .ref m13, .ref m14, .ref m15, .int s16, .ref m17, .ref m18, .ref m19, .ref m20, .ref m21, .ref m22, .ref m23, .ref m24, .ref m25, .ref m26, .ref m27, .ref m28, .int s29, .ref m30, .int s31, .int s32, .int s33, .int s34, .int s35, .ref m36, .ref m37, .ref m38, .ref m39, .long s40]))] := hD
      refine lv_iload_n hx hb dX9_take_32 rfl (lv_at hl 1 rfl) ?_
      refine lv_istore_n (lv' := [(2, .int (nI k1)), (0, .ref k0), (1, .int (nI k1))]) hx hb dX9_take_33 rfl hl (by decide) rfl (fun ls hl => ?_)
      have loop34 : ∀ (fu : Nat) (j : Nat) (K2 L2 V2 : Nat → Int32), (hkj : k1 ≤ j) → (hj : j ≤ z - 1) → (hK2 : rng 6 5 K2) → (hL2 : rng 6 5 L2) → (hV2 : rng 96 9 V2) → (e1 : ∀ i, i < 6 → K2 i = K (sh k1 (j + 1) i)) → (e2 : ∀ i, i < 6 → L2 i = L (sh k1 (j + 1) i)) → (e3 : ∀ i, i < 6 → ∀ x, x < 16 → V2 (16 * i + x) = V (16 * sh k1 (j + 1) i + x)) → z - 1 - j < fu → ∀ (H : Heap) (locs : List Loc) (ls : Array Slot), va_P g.1 vwCl [(m13, ai g 6 K2), (m14, ai g 6 L2), (m15, ai g 96 V2), (k0, .inr (9, [.ref m0, .int s1, .int s2, .int s3, .int s4, .int s5, .int s6, .ref m7, .ref m8, .ref m9, .int (nI (z - 1)), .int (nI t), .int s12, .ref m13, .ref m14, .ref m15, .int s16, .ref m17, .ref m18, .ref m19, .ref m20, .ref m21, .ref m22, .ref m23, .ref m24, .ref m25, .ref m26, .ref m27, .ref m28, .int s29, .ref m30, .int s31, .int s32, .int s33, .int s34, .int s35, .ref m36, .ref m37, .ref m38, .ref m39, .long s40]))] H → va_D A [(m13, ai g 6 K2), (m14, ai g 6 L2), (m15, ai g 96 V2), (k0, .inr (9, [.ref m0, .int s1, .int s2, .int s3, .int s4, .int s5, .int s6, .ref m7, .ref m8, .ref m9, .int (nI (z - 1)), .int (nI t), .int s12, .ref m13, .ref m14, .ref m15, .int s16, .ref m17, .ref m18, .ref m19, .ref m20, .ref m21, .ref m22, .ref m23, .ref m24, .ref m25, .ref m26, .ref m27, .ref m28, .int s29, .ref m30, .int s31, .int s32, .int s33, .int s34, .int s35, .ref m36, .ref m37, .ref m38, .ref m39, .long s40]))] → va_S A s.heap H locs → lv_has ls 3 [(0, .ref k0), (1, .int (nI k1)), (2, .int (nI j))] → W p l e ({ frames := 2, cells := 0, slots := 0, locals := 46 }) s m [.ref k0, .int (nI k1)].toArray below meth c H locs 0 0 (MQ below (va_Qi (po_X9_take_f g k0 m0 s1 s2 s3 s4 s5 s6 m7 m8 m9 s12 m13 m14 m15 s16 m17 m18 m19 m20 m21 m22 m23 m24 m25 m26 m27 m28 s29 m30 s31 s32 s33 s34 s35 m36 m37 m38 m39 s40 z t K L V (nI k1)) (bk g A) A) [.ref k0, .int (nI k1)].toArray s 0 0 A) (F0 m 34 ls []) := by
        intro fu
        induction fu with
        | zero => intro j K2 L2 V2 hkj hj hK2 hL2 hV2 e1 e2 e3 hfu; exact absurd hfu (Nat.not_lt_zero _)
        | succ fu ih =>
          intro j K2 L2 V2 hkj hj hK2 hL2 hV2 e1 e2 e3 hfu H locs ls hP hD hS hl
          have ih34 := ih
          refine lv_iload_n hx hb dX9_take_34 rfl (lv_at hl 2 rfl) ?_
          refine lv_aload_n hx hb dX9_take_35 rfl (lv_at hl 0 rfl) ?_
          refine va_get (D := g.1) (ci := 9) (v := .int (nI (z - 1))) (C := RX9) (T := TX9) (N := 41) hx hb hts q_X9_take_f_f9 hown hE.1 hP 3 rfl rfl 10 (by decide) (hts (.fieldLink RX9 147 "SoundLawsModel" "sets" "I") q_X9_take_f_1) (fun _ h9 => h9) rfl dX9_take_36 ?_
          refine lv_icmp_ge (tgt := 56) hx hb dX9_take_39 (by decide) (fun c39_6 => ?_) (fun c39_6 => ?_)
          · skip
            have hj9 := ge_of_le (k := z - 1) (n := j) (by omega) (by omega) c39_6
            have hjz : j + 1 = z := by omega
            have hs1 : ∀ i, i < 6 → K2 i = K (sh k1 z i) := by rw [← hjz]; exact e1
            have hs2 : ∀ i, i < 6 → L2 i = L (sh k1 z i) := by rw [← hjz]; exact e2
            have hs3 : ∀ i, i < 6 → ∀ x, x < 16 → V2 (16 * i + x) = V (16 * sh k1 z i + x) := by rw [← hjz]; exact e3
            refine lv_aload_n hx hb dX9_take_56 rfl (lv_at hl 0 rfl) ?_
            refine lv_iconst (v := 1) hx hb dX9_take_57 (by decide) ?_
            refine va_put (D := g.1) (ci := 9) (v := .int 1) (ty := .boolean) (C := RX9) (T := TX9) (N := 41) hx hb hts q_X9_take_f_f9 tyX9 tyX9_ok nmX9 hown hE.1 hP hD hS 3 rfl rfl 16 (by decide) (hts (.fieldLink RX9 153 "SoundLawsModel" "old" "Z") q_X9_take_f_2) (fun _ h9 => h9) rfl (by decide +kernel) rfl rfl (Nat.le_of_ble_eq_true rfl) dX9_take_58 (fun H locs hP hD hS => ?_)
            have hP : va_P g.1 vwCl [(m13, ai g 6 K2), (m14, ai g 6 L2), (m15, ai g 96 V2), (k0, .inr (9, [.ref m0, .int s1, .int s2, .int s3, .int s4, .int s5, .int s6, .ref m7, .ref m8, .ref m9, .int (nI (z - 1)), .int (nI t), .int s12, .ref m13, .ref m14, .ref m15, .int 1, .ref m17, .ref m18, .ref m19, .ref m20, .ref m21, .ref m22, .ref m23, .ref m24, .ref m25, .ref m26, .ref m27, .ref m28, .int s29, .ref m30, .int s31, .int s32, .int s33, .int s34, .int s35, .ref m36, .ref m37, .ref m38, .ref m39, .long s40]))] H := hP
            have hD : va_D A [(m13, ai g 6 K2), (m14, ai g 6 L2), (m15, ai g 96 V2), (k0, .inr (9, [.ref m0, .int s1, .int s2, .int s3, .int s4, .int s5, .int s6, .ref m7, .ref m8, .ref m9, .int (nI (z - 1)), .int (nI t), .int s12, .ref m13, .ref m14, .ref m15, .int 1, .ref m17, .ref m18, .ref m19, .ref m20, .ref m21, .ref m22, .ref m23, .ref m24, .ref m25, .ref m26, .ref m27, .ref m28, .int s29, .ref m30, .int s31, .int s32, .int s33, .int s34, .int s35, .ref m36, .ref m37, .ref m38, .ref m39, .long s40]))] := hD
            refine lv_aload_n hx hb dX9_take_61 rfl (lv_at hl 0 rfl) ?_
            refine va_get (D := g.1) (ci := 9) (v := .int (nI (z - 1))) (C := RX9) (T := TX9) (N := 41) hx hb hts q_X9_take_f_f9 hown hE.1 hP 3 rfl rfl 10 (by decide) (hts (.fieldLink RX9 147 "SoundLawsModel" "sets" "I") q_X9_take_f_1) (fun _ h9 => h9) rfl dX9_take_62 ?_
            refine W.widen (k := 0) (n := 0) (Nat.le_of_ble_eq_true rfl) (Nat.le_of_ble_eq_true rfl) ?_
            have hP9 := hP.sub (ws' := [(k0, .inr (9, [.ref m0, .int s1, .int s2, .int s3, .int s4, .int s5, .int s6, .ref m7, .ref m8, .ref m9, .int (nI (z - 1)), .int (nI t), .int s12, .ref m13, .ref m14, .ref m15, .int 1, .ref m17, .ref m18, .ref m19, .ref m20, .ref m21, .ref m22, .ref m23, .ref m24, .ref m25, .ref m26, .ref m27, .ref m28, .int s29, .ref m30, .int s31, .int s32, .int s33, .int s34, .int s35, .ref m36, .ref m37, .ref m38, .ref m39, .long s40])), (m13, ai g 6 K2), (m14, ai g 6 L2), (m15, ai g 96 V2)]) [3, 0, 1, 2] rfl
            have hD9 := hD.sub (ws' := [(k0, .inr (9, [.ref m0, .int s1, .int s2, .int s3, .int s4, .int s5, .int s6, .ref m7, .ref m8, .ref m9, .int (nI (z - 1)), .int (nI t), .int s12, .ref m13, .ref m14, .ref m15, .int 1, .ref m17, .ref m18, .ref m19, .ref m20, .ref m21, .ref m22, .ref m23, .ref m24, .ref m25, .ref m26, .ref m27, .ref m28, .int s29, .ref m30, .int s31, .int s32, .int s33, .int s34, .int s35, .ref m36, .ref m37, .ref m38, .ref m39, .long s40])), (m13, ai g 6 K2), (m14, ai g 6 L2), (m15, ai g 96 V2)]) [3, 0, 1, 2] (by decide) rfl
            exact k_ri hx hb hr hlocks hS hP9 hD9 ⟨1, (z - 1), K2, L2, V2, rfl, (by unfold rTk; rw [if_neg c5_3, if_neg hz1]), ⟨by omega, fun _ => hzt (by omega), ht4, hK2, hL2, hV2⟩, Or.inr ⟨rfl, hz1, rfl, k1, hk1, rfl, hs1, hs2, hs3⟩⟩ dX9_take_65
          · skip
            have hj9 := lt_of_nle (k := z - 1) (n := j) (by omega) (by omega) c39_6
            refine lv_aload_n hx hb dX9_take_42 rfl (lv_at hl 0 rfl) ?_
            refine lv_iload_n hx hb dX9_take_43 rfl (lv_at hl 2 rfl) ?_
            refine lv_iconst (v := 1) hx hb dX9_take_44 (by decide) ?_
            refine lv_iadd hx hb dX9_take_45 ?_
            refine lv_topi (fun x_7 ex_7 => ?_)
            obtain rfl : x_7 = nI (j + 1) := by rw [ex_7]; exact nI_1 j
            refine lv_iload_n hx hb dX9_take_46 rfl (lv_at hl 2 rfl) ?_
            refine k_cv (wr := []) hP hD hS hA [3, 0, 1, 2] [] rfl rfl (by decide) (by decide) (va_runV (As := [.int (nI (j + 1)), .int (nI j)]) (rest := []) ⟨hx, hb, hml, hown, hts⟩ (c_X9_layLike_f l g k0 m0 s1 s2 s3 s4 s5 s6 m7 m8 m9 (nI (z - 1)) (nI t) s12 m13 m14 m15 s16 m17 m18 m19 m20 m21 m22 m23 m24 m25 m26 m27 m28 s29 m30 s31 s32 s33 s34 s35 m36 m37 m38 m39 s40 K2 L2 V2 (j + 1) j (by first | assumption | omega) (by first | assumption | omega) H.size) (cwV 2 hts gX9_take_X9_layLike rfl rfl rfl (by decide +kernel) ⟨Nat.le_of_ble_eq_true rfl, Nat.le_of_ble_eq_true rfl⟩) (k_preV hE hZ hP hD hS hA [3, 0, 1, 2] rfl (by decide) (va_recv hE.1 hP (ci := 9) (q0 := 3) rfl rfl)) rfl rfl hl.1 rfl (lv_room (Nat.le_of_ble_eq_true rfl)) dX9_take_47 ⟨Nat.le_of_ble_eq_true rfl, Nat.le_of_ble_eq_true rfl⟩) (fun w1 H locs hw hP hD hS => ?_)
            obtain ⟨V2_9, rfl, hv_10⟩ := hw
            have hP : va_P g.1 vwCl [(k0, .inr (9, [.ref m0, .int s1, .int s2, .int s3, .int s4, .int s5, .int s6, .ref m7, .ref m8, .ref m9, .int (nI (z - 1)), .int (nI t), .int s12, .ref m13, .ref m14, .ref m15, .int s16, .ref m17, .ref m18, .ref m19, .ref m20, .ref m21, .ref m22, .ref m23, .ref m24, .ref m25, .ref m26, .ref m27, .ref m28, .int s29, .ref m30, .int s31, .int s32, .int s33, .int s34, .int s35, .ref m36, .ref m37, .ref m38, .ref m39, .long s40])), (m13, ai g 6 (upd K2 j (K2 (j + 1)))), (m14, ai g 6 (upd L2 j (L2 (j + 1)))), (m15, ai g 96 V2_9)] H := hP
            have hD : va_D A [(k0, .inr (9, [.ref m0, .int s1, .int s2, .int s3, .int s4, .int s5, .int s6, .ref m7, .ref m8, .ref m9, .int (nI (z - 1)), .int (nI t), .int s12, .ref m13, .ref m14, .ref m15, .int s16, .ref m17, .ref m18, .ref m19, .ref m20, .ref m21, .ref m22, .ref m23, .ref m24, .ref m25, .ref m26, .ref m27, .ref m28, .int s29, .ref m30, .int s31, .int s32, .int s33, .int s34, .int s35, .ref m36, .ref m37, .ref m38, .ref m39, .long s40])), (m13, ai g 6 (upd K2 j (K2 (j + 1)))), (m14, ai g 6 (upd L2 j (L2 (j + 1)))), (m15, ai g 96 V2_9)] := hD
            refine lv_iinc (v := (nI (j + 1))) (lv' := [(2, .int (nI (j + 1))), (0, .ref k0), (1, .int (nI k1))]) hx hb dX9_take_50 hl (k := 2) rfl (nI_1 _) (by decide) rfl (fun ls hl => ?_)
            refine lv_goto (tgt := 34) hx hb dX9_take_53 (by decide) ?_
            exact ih34 (j + 1) _ _ _ (by omega) (by omega) (rng_at_upd hK2 (by omega)) (rng_at_upd hL2 (by omega)) (by rw [hv_10]; exact rng_cpy hV2 hV2 (by omega)) (sh_upd hkj (by omega) e1) (sh_upd hkj (by omega) e2) (by rw [hv_10]; exact sh_cpy hkj (by omega) e3) (by omega) _ _ _ (hP.sub [1, 2, 3, 0] rfl) (hD.sub [1, 2, 3, 0] (by decide) rfl) hS (lv_sub hl [1, 2, 0] rfl)
      exact loop34 _ k1 K L V (Nat.le_refl k1) (by omega) hK hL hV (fun i _ => by rw [sh_id]) (fun i _ => by rw [sh_id]) (fun i _ x _ => by rw [sh_id]) (Nat.lt_succ_self _) _ _ _ hP hD hS (lv_sub hl [1, 2, 0] rfl)
    · skip
      refine lv_bipush (v := (-103)) hx hb dX9_take_19 (by decide) ?_
      refine W.widen (k := 0) (n := 0) (Nat.le_of_ble_eq_true rfl) (Nat.le_of_ble_eq_true rfl) ?_
      have hP9 := hP.sub (ws' := [(k0, .inr (9, [.ref m0, .int s1, .int s2, .int s3, .int s4, .int s5, .int s6, .ref m7, .ref m8, .ref m9, .int (nI z), .int (nI t), .int s12, .ref m13, .ref m14, .ref m15, .int s16, .ref m17, .ref m18, .ref m19, .ref m20, .ref m21, .ref m22, .ref m23, .ref m24, .ref m25, .ref m26, .ref m27, .ref m28, .int s29, .ref m30, .int s31, .int s32, .int s33, .int s34, .int s35, .ref m36, .ref m37, .ref m38, .ref m39, .long s40])), (m13, ai g 6 K), (m14, ai g 6 L), (m15, ai g 96 V)]) [3, 0, 1, 2] rfl
      have hD9 := hD.sub (ws' := [(k0, .inr (9, [.ref m0, .int s1, .int s2, .int s3, .int s4, .int s5, .int s6, .ref m7, .ref m8, .ref m9, .int (nI z), .int (nI t), .int s12, .ref m13, .ref m14, .ref m15, .int s16, .ref m17, .ref m18, .ref m19, .ref m20, .ref m21, .ref m22, .ref m23, .ref m24, .ref m25, .ref m26, .ref m27, .ref m28, .int s29, .ref m30, .int s31, .int s32, .int s33, .int s34, .int s35, .ref m36, .ref m37, .ref m38, .ref m39, .long s40])), (m13, ai g 6 K), (m14, ai g 6 L), (m15, ai g 96 V)]) [3, 0, 1, 2] (by decide) rfl
      exact k_ri hx hb hr hlocks hS hP9 hD9 ⟨s16, z, K, L, V, rfl, (by unfold rTk; rw [if_neg c5_3, if_pos ((nI_eq (b := 1) (by omega) (by decide)).mp c16_4)]), hg, Or.inl ⟨Or.inr ((nI_eq (b := 1) (by omega) (by decide)).mp c16_4), rfl, rfl, rfl, rfl, rfl⟩⟩ dX9_take_21
  · skip
    refine lv_bipush (v := (-101)) hx hb dX9_take_8 (by decide) ?_
    refine W.widen (k := 0) (n := 0) (Nat.le_of_ble_eq_true rfl) (Nat.le_of_ble_eq_true rfl) ?_
    have hP9 := hP.sub (ws' := [(k0, .inr (9, [.ref m0, .int s1, .int s2, .int s3, .int s4, .int s5, .int s6, .ref m7, .ref m8, .ref m9, .int (nI z), .int (nI t), .int s12, .ref m13, .ref m14, .ref m15, .int s16, .ref m17, .ref m18, .ref m19, .ref m20, .ref m21, .ref m22, .ref m23, .ref m24, .ref m25, .ref m26, .ref m27, .ref m28, .int s29, .ref m30, .int s31, .int s32, .int s33, .int s34, .int s35, .ref m36, .ref m37, .ref m38, .ref m39, .long s40])), (m13, ai g 6 K), (m14, ai g 6 L), (m15, ai g 96 V)]) [3, 0, 1, 2] rfl
    have hD9 := hD.sub (ws' := [(k0, .inr (9, [.ref m0, .int s1, .int s2, .int s3, .int s4, .int s5, .int s6, .ref m7, .ref m8, .ref m9, .int (nI z), .int (nI t), .int s12, .ref m13, .ref m14, .ref m15, .int s16, .ref m17, .ref m18, .ref m19, .ref m20, .ref m21, .ref m22, .ref m23, .ref m24, .ref m25, .ref m26, .ref m27, .ref m28, .int s29, .ref m30, .int s31, .int s32, .int s33, .int s34, .int s35, .ref m36, .ref m37, .ref m38, .ref m39, .long s40])), (m13, ai g 6 K), (m14, ai g 6 L), (m15, ai g 96 V)]) [3, 0, 1, 2] (by decide) rfl
    exact k_ri hx hb hr hlocks hS hP9 hD9 ⟨s16, z, K, L, V, rfl, (by unfold rTk; rw [if_pos c5_3]), hg, Or.inl ⟨Or.inl c5_3, rfl, rfl, rfl, rfl, rfl⟩⟩ dX9_take_10
def po_X9_see_f (g : GG) (k0 : Nat) (m0 : Nat) (s1 : Int32) (s2 : Int32) (s3 : Int32) (s4 : Int32) (s5 : Int32) (s6 : Int32) (m7 : Nat) (m8 : Nat) (m9 : Nat) (s11 : Int32) (s12 : Int32) (m13 : Nat) (m14 : Nat) (m15 : Nat) (s16 : Int32) (m17 : Nat) (m18 : Nat) (m19 : Nat) (m20 : Nat) (m21 : Nat) (m22 : Nat) (m23 : Nat) (m24 : Nat) (m25 : Nat) (m26 : Nat) (m27 : Nat) (m28 : Nat) (m30 : Nat) (s31 : Int32) (s32 : Int32) (s33 : Int32) (s34 : Int32) (s35 : Int32) (m36 : Nat) (m37 : Nat) (m38 : Nat) (m39 : Nat) (s40 : Int64) (z : Nat) (n : Nat) (Sg : Nat → Int32) (p1 : Int32) (p2 : Int32) (p3 : Int32) : Int32 → va_W → Prop := fun (r : Int32) w => ∃ (n2 : Nat) (Sg2 : Nat → Int32), w = [(k0, .inr (9, [.ref m0, .int s1, .int s2, .int s3, .int s4, .int s5, .int s6, .ref m7, .ref m8, .ref m9, .int (nI z), .int s11, .int s12, .ref m13, .ref m14, .ref m15, .int s16, .ref m17, .ref m18, .ref m19, .ref m20, .ref m21, .ref m22, .ref m23, .ref m24, .ref m25, .ref m26, .ref m27, .ref m28, .int (nI n2), .ref m30, .int s31, .int s32, .int s33, .int s34, .int s35, .ref m36, .ref m37, .ref m38, .ref m39, .long s40])), (m30, ai g 18 Sg2)] ∧ (rSee p1 p2 z n = r) ∧ (nSe p1 p2 z n = n2)
theorem q_X9_see_f_0 : (Cond.constantLong RX9 166 (3)) ∈ wsX9_see := by decide +kernel
theorem q_X9_see_f_f9 : ∀ w ∈ u_ws RX9 TX9 41, w ∈ wsX9_see := by decide +kernel
theorem q_X9_see_f_2 : (Cond.fieldLink RX9 157 "SoundLawsModel" "seenMany" "I") ∈ wsX9_see := by decide +kernel
theorem q_X9_see_f_3 : (Cond.fieldLink RX9 67 "SoundLawsModel" "sights" "[I") ∈ wsX9_see := by decide +kernel
set_option maxHeartbeats 1500000 in
set_option maxRecDepth 100000 in
theorem c_X9_see_f (l : Launch) (g : GG) (k0 : Nat) (m0 : Nat) (s1 : Int32) (s2 : Int32) (s3 : Int32) (s4 : Int32) (s5 : Int32) (s6 : Int32) (m7 : Nat) (m8 : Nat) (m9 : Nat) (s11 : Int32) (s12 : Int32) (m13 : Nat) (m14 : Nat) (m15 : Nat) (s16 : Int32) (m17 : Nat) (m18 : Nat) (m19 : Nat) (m20 : Nat) (m21 : Nat) (m22 : Nat) (m23 : Nat) (m24 : Nat) (m25 : Nat) (m26 : Nat) (m27 : Nat) (m28 : Nat) (m30 : Nat) (s31 : Int32) (s32 : Int32) (s33 : Int32) (s34 : Int32) (s35 : Int32) (m36 : Nat) (m37 : Nat) (m38 : Nat) (m39 : Nat) (s40 : Int64) (z : Nat) (n : Nat) (Sg : Nat → Int32) (p1 : Int32) (p2 : Int32) (p3 : Int32) (hz : z ≤ 6) (hn : n ≤ 6) (sz : Nat) : MetI l yX9_see wsX9_see ({ frames := 2, cells := 0, slots := 0, locals := 46 }) g [.ref k0, .int p1, .int p2, .int p3] [(k0, .inr (9, [.ref m0, .int s1, .int s2, .int s3, .int s4, .int s5, .int s6, .ref m7, .ref m8, .ref m9, .int (nI z), .int s11, .int s12, .ref m13, .ref m14, .ref m15, .int s16, .ref m17, .ref m18, .ref m19, .ref m20, .ref m21, .ref m22, .ref m23, .ref m24, .ref m25, .ref m26, .ref m27, .ref m28, .int (nI n), .ref m30, .int s31, .int s32, .int s33, .int s34, .int s35, .ref m36, .ref m37, .ref m38, .ref m39, .long s40])), (m30, ai g 18 Sg)] sz (po_X9_see_f g k0 m0 s1 s2 s3 s4 s5 s6 m7 m8 m9 s11 s12 m13 m14 m15 s16 m17 m18 m19 m20 m21 m22 m23 m24 m25 m26 m27 m28 m30 s31 s32 s33 s34 s35 m36 m37 m38 m39 s40 z n Sg p1 p2 p3) 0 0 := by
  refine k_of (l := l) (y := yX9_see) (ws := wsX9_see) (rm := { frames := 2, cells := 0, slots := 0, locals := 46 }) (mc := 0) (ms := 0) (av := [.ref k0, .int p1, .int p2, .int p3]) (g := g) (wc := [(k0, .inr (9, [.ref m0, .int s1, .int s2, .int s3, .int s4, .int s5, .int s6, .ref m7, .ref m8, .ref m9, .int (nI z), .int s11, .int s12, .ref m13, .ref m14, .ref m15, .int s16, .ref m17, .ref m18, .ref m19, .ref m20, .ref m21, .ref m22, .ref m23, .ref m24, .ref m25, .ref m26, .ref m27, .ref m28, .int (nI n), .ref m30, .int s31, .int s32, .int s33, .int s34, .int s35, .ref m36, .ref m37, .ref m38, .ref m39, .long s40])), (m30, ai g 18 Sg)]) (Qc := fun A => va_Qi (po_X9_see_f g k0 m0 s1 s2 s3 s4 s5 s6 m7 m8 m9 s11 s12 m13 m14 m15 s16 m17 m18 m19 m20 m21 m22 m23 m24 m25 m26 m27 m28 m30 s31 s32 s33 s34 s35 m36 m37 m38 m39 s40 z n Sg p1 p2 p3) (bk g A) A) (cc := cX9_see) (maxL := 4) (ret := (some .int)) (by decide) rfl (Nat.le_of_ble_eq_true rfl) ?_ sz
  intro p e s m below meth c hx hb hr hts hown hlocks hnm hml A hA hE hZ hP hD hS ls hl
  have hown : s.vm.findClass RX9 = some m.cls := hown
  have hl : lv_has ls 4 [(0, .ref k0), (1, .int p1), (2, .int p2), (3, .int p3)] := hl
  refine lv_aload_n hx hb dX9_see_0 rfl (lv_at hl 0 rfl) ?_
  refine lv_iload_n hx hb dX9_see_1 rfl (lv_at hl 1 rfl) ?_
  refine k_ci (wr := [(m30, ai g 18 Sg)]) hP hD hS hA [0] [1] rfl rfl (by decide) (by decide) (va_runV (As := [.int p1]) (rest := []) ⟨hx, hb, hml, hown, hts⟩ (c_X9_isSet_g l g k0 m0 s1 s2 s3 s4 s5 s6 m7 m8 m9 s11 s12 m13 m14 m15 s16 m17 m18 m19 m20 m21 m22 m23 m24 m25 m26 m27 m28 (nI n) m30 s31 s32 s33 s34 s35 m36 m37 m38 m39 s40 z p1 (by first | assumption | omega) s.heap.size) (cwV 1 hts gX9_see_X9_isSet rfl rfl rfl (by decide +kernel) ⟨Nat.le_of_ble_eq_true rfl, Nat.le_of_ble_eq_true rfl⟩) (k_preV hE hZ hP hD hS hA [0] rfl (by decide) (va_recv hE.1 hP (ci := 9) (q0 := 0) rfl rfl)) rfl rfl hl.1 rfl (lv_room (Nat.le_of_ble_eq_true rfl)) dX9_see_2 ⟨Nat.le_of_ble_eq_true rfl, Nat.le_of_ble_eq_true rfl⟩) (fun r_1 w1 H locs hw hP hD hS => ?_)
  obtain ⟨rfl, rfl⟩ := hw
  have hP : va_P g.1 vwCl [(m30, ai g 18 Sg), (k0, .inr (9, [.ref m0, .int s1, .int s2, .int s3, .int s4, .int s5, .int s6, .ref m7, .ref m8, .ref m9, .int (nI z), .int s11, .int s12, .ref m13, .ref m14, .ref m15, .int s16, .ref m17, .ref m18, .ref m19, .ref m20, .ref m21, .ref m22, .ref m23, .ref m24, .ref m25, .ref m26, .ref m27, .ref m28, .int (nI n), .ref m30, .int s31, .int s32, .int s33, .int s34, .int s35, .ref m36, .ref m37, .ref m38, .ref m39, .long s40]))] H := hP
  have hD : va_D A [(m30, ai g 18 Sg), (k0, .inr (9, [.ref m0, .int s1, .int s2, .int s3, .int s4, .int s5, .int s6, .ref m7, .ref m8, .ref m9, .int (nI z), .int s11, .int s12, .ref m13, .ref m14, .ref m15, .int s16, .ref m17, .ref m18, .ref m19, .ref m20, .ref m21, .ref m22, .ref m23, .ref m24, .ref m25, .ref m26, .ref m27, .ref m28, .int (nI n), .ref m30, .int s31, .int s32, .int s33, .int s34, .int s35, .ref m36, .ref m37, .ref m38, .ref m39, .long s40]))] := hD
  refine lv_if_ne (tgt := 11) hx hb dX9_see_5 (by decide) (fun c5_3 => ?_) (fun c5_3 => ?_)
  · skip
    refine lv_iload_n hx hb dX9_see_11 rfl (lv_at hl 2 rfl) ?_
    refine lv_i2l hx hb dX9_see_12 rfl ?_
    refine lv_lconst (v := 0) hx hb dX9_see_13 (by decide) ?_
    refine lv_ldc2 hx hb hown (hts (.constantLong RX9 166 (3)) q_X9_see_f_0) dX9_see_14 ?_
    refine k_ci (wr := [(m30, ai g 18 Sg), (k0, .inr (9, [.ref m0, .int s1, .int s2, .int s3, .int s4, .int s5, .int s6, .ref m7, .ref m8, .ref m9, .int (nI z), .int s11, .int s12, .ref m13, .ref m14, .ref m15, .int s16, .ref m17, .ref m18, .ref m19, .ref m20, .ref m21, .ref m22, .ref m23, .ref m24, .ref m25, .ref m26, .ref m27, .ref m28, .int (nI n), .ref m30, .int s31, .int s32, .int s33, .int s34, .int s35, .ref m36, .ref m37, .ref m38, .ref m39, .long s40]))]) hP hD hS hA [] [0, 1] rfl rfl (by decide) (by decide) (va_runS (As := [.long ((p2 : Int32).toInt64), .long 0, .long 3]) (rest := []) ⟨hx, hb, hml, hown, hts⟩ (c_X9_in l g ((p2 : Int32).toInt64) 0 3  H.size) (va_cwS 3 hts gX9_see_X9_in rfl rfl rfl (by decide +kernel) ⟨Nat.le_of_ble_eq_true rfl, Nat.le_of_ble_eq_true rfl⟩) (k_preS hE hZ hP hD hS hA [] rfl (by decide)) rfl rfl hl.1 rfl (lv_room (Nat.le_of_ble_eq_true rfl)) dX9_see_17 ⟨Nat.le_of_ble_eq_true rfl, Nat.le_of_ble_eq_true rfl⟩) (fun r_4 w1 H locs hw hP hD hS => ?_)
    obtain ⟨rfl, rfl⟩ := hw
    have hP : va_P g.1 vwCl [(m30, ai g 18 Sg), (k0, .inr (9, [.ref m0, .int s1, .int s2, .int s3, .int s4, .int s5, .int s6, .ref m7, .ref m8, .ref m9, .int (nI z), .int s11, .int s12, .ref m13, .ref m14, .ref m15, .int s16, .ref m17, .ref m18, .ref m19, .ref m20, .ref m21, .ref m22, .ref m23, .ref m24, .ref m25, .ref m26, .ref m27, .ref m28, .int (nI n), .ref m30, .int s31, .int s32, .int s33, .int s34, .int s35, .ref m36, .ref m37, .ref m38, .ref m39, .long s40]))] H := hP
    have hD : va_D A [(m30, ai g 18 Sg), (k0, .inr (9, [.ref m0, .int s1, .int s2, .int s3, .int s4, .int s5, .int s6, .ref m7, .ref m8, .ref m9, .int (nI z), .int s11, .int s12, .ref m13, .ref m14, .ref m15, .int s16, .ref m17, .ref m18, .ref m19, .ref m20, .ref m21, .ref m22, .ref m23, .ref m24, .ref m25, .ref m26, .ref m27, .ref m28, .int (nI n), .ref m30, .int s31, .int s32, .int s33, .int s34, .int s35, .ref m36, .ref m37, .ref m38, .ref m39, .long s40]))] := hD
    refine lv_if_ne (tgt := 26) hx hb dX9_see_20 (by decide) (fun c20_6 => ?_) (fun c20_6 => ?_)
    · skip
      refine lv_aload_n hx hb dX9_see_26 rfl (lv_at hl 0 rfl) ?_
      refine va_get (D := g.1) (ci := 9) (v := .int (nI n)) (C := RX9) (T := TX9) (N := 41) hx hb hts q_X9_see_f_f9 hown hE.1 hP 1 rfl rfl 29 (by decide) (hts (.fieldLink RX9 157 "SoundLawsModel" "seenMany" "I") q_X9_see_f_2) (fun _ h9 => h9) rfl dX9_see_27 ?_
      refine lv_bipush (v := 6) hx hb dX9_see_30 (by decide) ?_
      refine lv_icmp_ne (tgt := 38) hx hb dX9_see_32 (by decide) (fun c32_7 => ?_) (fun c32_7 => ?_)
      · skip
        have hn6 : n < 6 := by have q : ¬ n = 6 := fun q => c32_7 (by rw [q]; rfl); omega
        refine lv_aload_n hx hb dX9_see_38 rfl (lv_at hl 0 rfl) ?_
        refine va_get (D := g.1) (ci := 9) (v := .ref m30) (C := RX9) (T := TX9) (N := 41) hx hb hts q_X9_see_f_f9 hown hE.1 hP 1 rfl rfl 30 (by decide) (hts (.fieldLink RX9 67 "SoundLawsModel" "sights" "[I") q_X9_see_f_3) (fun _ h9 => h9) rfl dX9_see_39 ?_
        refine lv_iconst (v := 3) hx hb dX9_see_42 (by decide) ?_
        refine lv_aload_n hx hb dX9_see_43 rfl (lv_at hl 0 rfl) ?_
        refine va_get (D := g.1) (ci := 9) (v := .int (nI n)) (C := RX9) (T := TX9) (N := 41) hx hb hts q_X9_see_f_f9 hown hE.1 hP 1 rfl rfl 29 (by decide) (hts (.fieldLink RX9 157 "SoundLawsModel" "seenMany" "I") q_X9_see_f_2) (fun _ h9 => h9) rfl dX9_see_44 ?_
        refine lv_imul hx hb dX9_see_47 ?_
        refine lv_iload_n hx hb dX9_see_48 rfl (lv_at hl 1 rfl) ?_
        refine k_ast (x := p1) (3 * n) (by rw [show (3 : Int32) = nI 3 from rfl, pk_mul]) (by omega) hx hb hE hP hD hS 0 rfl (by decide) dX9_see_49 (fun H locs hP hD hS => ?_)
        have hP : va_P g.1 vwCl [(m30, ai g 18 (upd Sg (3 * n) p1)), (k0, .inr (9, [.ref m0, .int s1, .int s2, .int s3, .int s4, .int s5, .int s6, .ref m7, .ref m8, .ref m9, .int (nI z), .int s11, .int s12, .ref m13, .ref m14, .ref m15, .int s16, .ref m17, .ref m18, .ref m19, .ref m20, .ref m21, .ref m22, .ref m23, .ref m24, .ref m25, .ref m26, .ref m27, .ref m28, .int (nI n), .ref m30, .int s31, .int s32, .int s33, .int s34, .int s35, .ref m36, .ref m37, .ref m38, .ref m39, .long s40]))] H := hP
        have hD : va_D A [(m30, ai g 18 (upd Sg (3 * n) p1)), (k0, .inr (9, [.ref m0, .int s1, .int s2, .int s3, .int s4, .int s5, .int s6, .ref m7, .ref m8, .ref m9, .int (nI z), .int s11, .int s12, .ref m13, .ref m14, .ref m15, .int s16, .ref m17, .ref m18, .ref m19, .ref m20, .ref m21, .ref m22, .ref m23, .ref m24, .ref m25, .ref m26, .ref m27, .ref m28, .int (nI n), .ref m30, .int s31, .int s32, .int s33, .int s34, .int s35, .ref m36, .ref m37, .ref m38, .ref m39, .long s40]))] := hD
        refine lv_aload_n hx hb dX9_see_50 rfl (lv_at hl 0 rfl) ?_
        refine va_get (D := g.1) (ci := 9) (v := .ref m30) (C := RX9) (T := TX9) (N := 41) hx hb hts q_X9_see_f_f9 hown hE.1 hP 1 rfl rfl 30 (by decide) (hts (.fieldLink RX9 67 "SoundLawsModel" "sights" "[I") q_X9_see_f_3) (fun _ h9 => h9) rfl dX9_see_51 ?_
        refine lv_iconst (v := 3) hx hb dX9_see_54 (by decide) ?_
        refine lv_aload_n hx hb dX9_see_55 rfl (lv_at hl 0 rfl) ?_
        refine va_get (D := g.1) (ci := 9) (v := .int (nI n)) (C := RX9) (T := TX9) (N := 41) hx hb hts q_X9_see_f_f9 hown hE.1 hP 1 rfl rfl 29 (by decide) (hts (.fieldLink RX9 157 "SoundLawsModel" "seenMany" "I") q_X9_see_f_2) (fun _ h9 => h9) rfl dX9_see_56 ?_
        refine lv_imul hx hb dX9_see_59 ?_
        refine lv_iconst (v := 1) hx hb dX9_see_60 (by decide) ?_
        refine lv_iadd hx hb dX9_see_61 ?_
        refine lv_iload_n hx hb dX9_see_62 rfl (lv_at hl 2 rfl) ?_
        refine k_ast (x := p2) (3 * n + 1) (by rw [show (3 : Int32) = nI 3 from rfl, pk_mul]; exact nI_add _ 1) (by omega) hx hb hE hP hD hS 0 rfl (by decide) dX9_see_63 (fun H locs hP hD hS => ?_)
        have hP : va_P g.1 vwCl [(m30, ai g 18 (upd (upd Sg (3 * n) p1) (3 * n + 1) p2)), (k0, .inr (9, [.ref m0, .int s1, .int s2, .int s3, .int s4, .int s5, .int s6, .ref m7, .ref m8, .ref m9, .int (nI z), .int s11, .int s12, .ref m13, .ref m14, .ref m15, .int s16, .ref m17, .ref m18, .ref m19, .ref m20, .ref m21, .ref m22, .ref m23, .ref m24, .ref m25, .ref m26, .ref m27, .ref m28, .int (nI n), .ref m30, .int s31, .int s32, .int s33, .int s34, .int s35, .ref m36, .ref m37, .ref m38, .ref m39, .long s40]))] H := hP
        have hD : va_D A [(m30, ai g 18 (upd (upd Sg (3 * n) p1) (3 * n + 1) p2)), (k0, .inr (9, [.ref m0, .int s1, .int s2, .int s3, .int s4, .int s5, .int s6, .ref m7, .ref m8, .ref m9, .int (nI z), .int s11, .int s12, .ref m13, .ref m14, .ref m15, .int s16, .ref m17, .ref m18, .ref m19, .ref m20, .ref m21, .ref m22, .ref m23, .ref m24, .ref m25, .ref m26, .ref m27, .ref m28, .int (nI n), .ref m30, .int s31, .int s32, .int s33, .int s34, .int s35, .ref m36, .ref m37, .ref m38, .ref m39, .long s40]))] := hD
        refine lv_aload_n hx hb dX9_see_64 rfl (lv_at hl 0 rfl) ?_
        refine va_get (D := g.1) (ci := 9) (v := .ref m30) (C := RX9) (T := TX9) (N := 41) hx hb hts q_X9_see_f_f9 hown hE.1 hP 1 rfl rfl 30 (by decide) (hts (.fieldLink RX9 67 "SoundLawsModel" "sights" "[I") q_X9_see_f_3) (fun _ h9 => h9) rfl dX9_see_65 ?_
        refine lv_iconst (v := 3) hx hb dX9_see_68 (by decide) ?_
        refine lv_aload_n hx hb dX9_see_69 rfl (lv_at hl 0 rfl) ?_
        refine va_get (D := g.1) (ci := 9) (v := .int (nI n)) (C := RX9) (T := TX9) (N := 41) hx hb hts q_X9_see_f_f9 hown hE.1 hP 1 rfl rfl 29 (by decide) (hts (.fieldLink RX9 157 "SoundLawsModel" "seenMany" "I") q_X9_see_f_2) (fun _ h9 => h9) rfl dX9_see_70 ?_
        refine lv_imul hx hb dX9_see_73 ?_
        refine lv_iconst (v := 2) hx hb dX9_see_74 (by decide) ?_
        refine lv_iadd hx hb dX9_see_75 ?_
        refine lv_iload_n hx hb dX9_see_76 rfl (lv_at hl 3 rfl) ?_
        refine lv_if_eq (tgt := 84) hx hb dX9_see_77 (by decide) (fun c77_8 => ?_) (fun c77_8 => ?_)
        · skip
          refine lv_iconst (v := 0) hx hb dX9_see_84 (by decide) ?_
          refine k_ast (x := 0) (3 * n + 2) (by rw [show (3 : Int32) = nI 3 from rfl, pk_mul]; exact nI_add _ 2) (by omega) hx hb hE hP hD hS 0 rfl (by decide) dX9_see_85 (fun H locs hP hD hS => ?_)
          have hP : va_P g.1 vwCl [(m30, ai g 18 (upd (upd (upd Sg (3 * n) p1) (3 * n + 1) p2) (3 * n + 2) 0)), (k0, .inr (9, [.ref m0, .int s1, .int s2, .int s3, .int s4, .int s5, .int s6, .ref m7, .ref m8, .ref m9, .int (nI z), .int s11, .int s12, .ref m13, .ref m14, .ref m15, .int s16, .ref m17, .ref m18, .ref m19, .ref m20, .ref m21, .ref m22, .ref m23, .ref m24, .ref m25, .ref m26, .ref m27, .ref m28, .int (nI n), .ref m30, .int s31, .int s32, .int s33, .int s34, .int s35, .ref m36, .ref m37, .ref m38, .ref m39, .long s40]))] H := hP
          have hD : va_D A [(m30, ai g 18 (upd (upd (upd Sg (3 * n) p1) (3 * n + 1) p2) (3 * n + 2) 0)), (k0, .inr (9, [.ref m0, .int s1, .int s2, .int s3, .int s4, .int s5, .int s6, .ref m7, .ref m8, .ref m9, .int (nI z), .int s11, .int s12, .ref m13, .ref m14, .ref m15, .int s16, .ref m17, .ref m18, .ref m19, .ref m20, .ref m21, .ref m22, .ref m23, .ref m24, .ref m25, .ref m26, .ref m27, .ref m28, .int (nI n), .ref m30, .int s31, .int s32, .int s33, .int s34, .int s35, .ref m36, .ref m37, .ref m38, .ref m39, .long s40]))] := hD
          refine lv_aload_n hx hb dX9_see_86 rfl (lv_at hl 0 rfl) ?_
          refine lv_dup hx hb dX9_see_87 rfl ?_
          refine va_get (D := g.1) (ci := 9) (v := .int (nI n)) (C := RX9) (T := TX9) (N := 41) hx hb hts q_X9_see_f_f9 hown hE.1 hP 1 rfl rfl 29 (by decide) (hts (.fieldLink RX9 157 "SoundLawsModel" "seenMany" "I") q_X9_see_f_2) (fun _ h9 => h9) rfl dX9_see_88 ?_
          refine lv_iconst (v := 1) hx hb dX9_see_91 (by decide) ?_
          refine lv_iadd hx hb dX9_see_92 ?_
          refine lv_topi (fun x_9 ex_9 => ?_)
          obtain rfl : x_9 = nI (n + 1) := by rw [ex_9]; exact nI_1 n
          refine va_put (D := g.1) (ci := 9) (v := .int (nI (n + 1))) (ty := .int) (C := RX9) (T := TX9) (N := 41) hx hb hts q_X9_see_f_f9 tyX9 tyX9_ok nmX9 hown hE.1 hP hD hS 1 rfl rfl 29 (by decide) (hts (.fieldLink RX9 157 "SoundLawsModel" "seenMany" "I") q_X9_see_f_2) (fun _ h9 => h9) rfl (by decide +kernel) rfl rfl (Nat.le_of_ble_eq_true rfl) dX9_see_93 (fun H locs hP hD hS => ?_)
          have hP : va_P g.1 vwCl [(m30, ai g 18 (upd (upd (upd Sg (3 * n) p1) (3 * n + 1) p2) (3 * n + 2) 0)), (k0, .inr (9, [.ref m0, .int s1, .int s2, .int s3, .int s4, .int s5, .int s6, .ref m7, .ref m8, .ref m9, .int (nI z), .int s11, .int s12, .ref m13, .ref m14, .ref m15, .int s16, .ref m17, .ref m18, .ref m19, .ref m20, .ref m21, .ref m22, .ref m23, .ref m24, .ref m25, .ref m26, .ref m27, .ref m28, .int (nI (n + 1)), .ref m30, .int s31, .int s32, .int s33, .int s34, .int s35, .ref m36, .ref m37, .ref m38, .ref m39, .long s40]))] H := hP
          have hD : va_D A [(m30, ai g 18 (upd (upd (upd Sg (3 * n) p1) (3 * n + 1) p2) (3 * n + 2) 0)), (k0, .inr (9, [.ref m0, .int s1, .int s2, .int s3, .int s4, .int s5, .int s6, .ref m7, .ref m8, .ref m9, .int (nI z), .int s11, .int s12, .ref m13, .ref m14, .ref m15, .int s16, .ref m17, .ref m18, .ref m19, .ref m20, .ref m21, .ref m22, .ref m23, .ref m24, .ref m25, .ref m26, .ref m27, .ref m28, .int (nI (n + 1)), .ref m30, .int s31, .int s32, .int s33, .int s34, .int s35, .ref m36, .ref m37, .ref m38, .ref m39, .long s40]))] := hD
          refine lv_aload_n hx hb dX9_see_96 rfl (lv_at hl 0 rfl) ?_
          refine va_get (D := g.1) (ci := 9) (v := .int (nI (n + 1))) (C := RX9) (T := TX9) (N := 41) hx hb hts q_X9_see_f_f9 hown hE.1 hP 1 rfl rfl 29 (by decide) (hts (.fieldLink RX9 157 "SoundLawsModel" "seenMany" "I") q_X9_see_f_2) (fun _ h9 => h9) rfl dX9_see_97 ?_
          refine W.widen (k := 0) (n := 0) (Nat.le_of_ble_eq_true rfl) (Nat.le_of_ble_eq_true rfl) ?_
          have hP9 := hP.sub (ws' := [(k0, .inr (9, [.ref m0, .int s1, .int s2, .int s3, .int s4, .int s5, .int s6, .ref m7, .ref m8, .ref m9, .int (nI z), .int s11, .int s12, .ref m13, .ref m14, .ref m15, .int s16, .ref m17, .ref m18, .ref m19, .ref m20, .ref m21, .ref m22, .ref m23, .ref m24, .ref m25, .ref m26, .ref m27, .ref m28, .int (nI (n + 1)), .ref m30, .int s31, .int s32, .int s33, .int s34, .int s35, .ref m36, .ref m37, .ref m38, .ref m39, .long s40])), (m30, ai g 18 (upd (upd (upd Sg (3 * n) p1) (3 * n + 1) p2) (3 * n + 2) 0))]) [1, 0] rfl
          have hD9 := hD.sub (ws' := [(k0, .inr (9, [.ref m0, .int s1, .int s2, .int s3, .int s4, .int s5, .int s6, .ref m7, .ref m8, .ref m9, .int (nI z), .int s11, .int s12, .ref m13, .ref m14, .ref m15, .int s16, .ref m17, .ref m18, .ref m19, .ref m20, .ref m21, .ref m22, .ref m23, .ref m24, .ref m25, .ref m26, .ref m27, .ref m28, .int (nI (n + 1)), .ref m30, .int s31, .int s32, .int s33, .int s34, .int s35, .ref m36, .ref m37, .ref m38, .ref m39, .long s40])), (m30, ai g 18 (upd (upd (upd Sg (3 * n) p1) (3 * n + 1) p2) (3 * n + 2) 0))]) [1, 0] (by decide) rfl
          exact k_ri hx hb hr hlocks hS hP9 hD9 ⟨(n + 1), (upd (upd (upd Sg (3 * n) p1) (3 * n + 1) p2) (3 * n + 2) 0), rfl, (by unfold rSee; rw [if_neg c5_3, if_neg (show ¬ isI p2 4 = 0 from fun q => c20_6 ((in4_eq p2).trans q)), if_pos hn6]), (by unfold nSe; rw [if_neg c5_3, if_neg (show ¬ isI p2 4 = 0 from fun q => c20_6 ((in4_eq p2).trans q)), if_pos hn6])⟩ dX9_see_100
        · skip
          refine lv_iconst (v := 1) hx hb dX9_see_80 (by decide) ?_
          refine lv_goto (tgt := 85) hx hb dX9_see_81 (by decide) ?_
          refine k_ast (x := 1) (3 * n + 2) (by rw [show (3 : Int32) = nI 3 from rfl, pk_mul]; exact nI_add _ 2) (by omega) hx hb hE hP hD hS 0 rfl (by decide) dX9_see_85 (fun H locs hP hD hS => ?_)
          have hP : va_P g.1 vwCl [(m30, ai g 18 (upd (upd (upd Sg (3 * n) p1) (3 * n + 1) p2) (3 * n + 2) 1)), (k0, .inr (9, [.ref m0, .int s1, .int s2, .int s3, .int s4, .int s5, .int s6, .ref m7, .ref m8, .ref m9, .int (nI z), .int s11, .int s12, .ref m13, .ref m14, .ref m15, .int s16, .ref m17, .ref m18, .ref m19, .ref m20, .ref m21, .ref m22, .ref m23, .ref m24, .ref m25, .ref m26, .ref m27, .ref m28, .int (nI n), .ref m30, .int s31, .int s32, .int s33, .int s34, .int s35, .ref m36, .ref m37, .ref m38, .ref m39, .long s40]))] H := hP
          have hD : va_D A [(m30, ai g 18 (upd (upd (upd Sg (3 * n) p1) (3 * n + 1) p2) (3 * n + 2) 1)), (k0, .inr (9, [.ref m0, .int s1, .int s2, .int s3, .int s4, .int s5, .int s6, .ref m7, .ref m8, .ref m9, .int (nI z), .int s11, .int s12, .ref m13, .ref m14, .ref m15, .int s16, .ref m17, .ref m18, .ref m19, .ref m20, .ref m21, .ref m22, .ref m23, .ref m24, .ref m25, .ref m26, .ref m27, .ref m28, .int (nI n), .ref m30, .int s31, .int s32, .int s33, .int s34, .int s35, .ref m36, .ref m37, .ref m38, .ref m39, .long s40]))] := hD
          refine lv_aload_n hx hb dX9_see_86 rfl (lv_at hl 0 rfl) ?_
          refine lv_dup hx hb dX9_see_87 rfl ?_
          refine va_get (D := g.1) (ci := 9) (v := .int (nI n)) (C := RX9) (T := TX9) (N := 41) hx hb hts q_X9_see_f_f9 hown hE.1 hP 1 rfl rfl 29 (by decide) (hts (.fieldLink RX9 157 "SoundLawsModel" "seenMany" "I") q_X9_see_f_2) (fun _ h9 => h9) rfl dX9_see_88 ?_
          refine lv_iconst (v := 1) hx hb dX9_see_91 (by decide) ?_
          refine lv_iadd hx hb dX9_see_92 ?_
          refine lv_topi (fun x_10 ex_10 => ?_)
          obtain rfl : x_10 = nI (n + 1) := by rw [ex_10]; exact nI_1 n
          refine va_put (D := g.1) (ci := 9) (v := .int (nI (n + 1))) (ty := .int) (C := RX9) (T := TX9) (N := 41) hx hb hts q_X9_see_f_f9 tyX9 tyX9_ok nmX9 hown hE.1 hP hD hS 1 rfl rfl 29 (by decide) (hts (.fieldLink RX9 157 "SoundLawsModel" "seenMany" "I") q_X9_see_f_2) (fun _ h9 => h9) rfl (by decide +kernel) rfl rfl (Nat.le_of_ble_eq_true rfl) dX9_see_93 (fun H locs hP hD hS => ?_)
          have hP : va_P g.1 vwCl [(m30, ai g 18 (upd (upd (upd Sg (3 * n) p1) (3 * n + 1) p2) (3 * n + 2) 1)), (k0, .inr (9, [.ref m0, .int s1, .int s2, .int s3, .int s4, .int s5, .int s6, .ref m7, .ref m8, .ref m9, .int (nI z), .int s11, .int s12, .ref m13, .ref m14, .ref m15, .int s16, .ref m17, .ref m18, .ref m19, .ref m20, .ref m21, .ref m22, .ref m23, .ref m24, .ref m25, .ref m26, .ref m27, .ref m28, .int (nI (n + 1)), .ref m30, .int s31, .int s32, .int s33, .int s34, .int s35, .ref m36, .ref m37, .ref m38, .ref m39, .long s40]))] H := hP
          have hD : va_D A [(m30, ai g 18 (upd (upd (upd Sg (3 * n) p1) (3 * n + 1) p2) (3 * n + 2) 1)), (k0, .inr (9, [.ref m0, .int s1, .int s2, .int s3, .int s4, .int s5, .int s6, .ref m7, .ref m8, .ref m9, .int (nI z), .int s11, .int s12, .ref m13, .ref m14, .ref m15, .int s16, .ref m17, .ref m18, .ref m19, .ref m20, .ref m21, .ref m22, .ref m23, .ref m24, .ref m25, .ref m26, .ref m27, .ref m28, .int (nI (n + 1)), .ref m30, .int s31, .int s32, .int s33, .int s34, .int s35, .ref m36, .ref m37, .ref m38, .ref m39, .long s40]))] := hD
          refine lv_aload_n hx hb dX9_see_96 rfl (lv_at hl 0 rfl) ?_
          refine va_get (D := g.1) (ci := 9) (v := .int (nI (n + 1))) (C := RX9) (T := TX9) (N := 41) hx hb hts q_X9_see_f_f9 hown hE.1 hP 1 rfl rfl 29 (by decide) (hts (.fieldLink RX9 157 "SoundLawsModel" "seenMany" "I") q_X9_see_f_2) (fun _ h9 => h9) rfl dX9_see_97 ?_
          refine W.widen (k := 0) (n := 0) (Nat.le_of_ble_eq_true rfl) (Nat.le_of_ble_eq_true rfl) ?_
          have hP9 := hP.sub (ws' := [(k0, .inr (9, [.ref m0, .int s1, .int s2, .int s3, .int s4, .int s5, .int s6, .ref m7, .ref m8, .ref m9, .int (nI z), .int s11, .int s12, .ref m13, .ref m14, .ref m15, .int s16, .ref m17, .ref m18, .ref m19, .ref m20, .ref m21, .ref m22, .ref m23, .ref m24, .ref m25, .ref m26, .ref m27, .ref m28, .int (nI (n + 1)), .ref m30, .int s31, .int s32, .int s33, .int s34, .int s35, .ref m36, .ref m37, .ref m38, .ref m39, .long s40])), (m30, ai g 18 (upd (upd (upd Sg (3 * n) p1) (3 * n + 1) p2) (3 * n + 2) 1))]) [1, 0] rfl
          have hD9 := hD.sub (ws' := [(k0, .inr (9, [.ref m0, .int s1, .int s2, .int s3, .int s4, .int s5, .int s6, .ref m7, .ref m8, .ref m9, .int (nI z), .int s11, .int s12, .ref m13, .ref m14, .ref m15, .int s16, .ref m17, .ref m18, .ref m19, .ref m20, .ref m21, .ref m22, .ref m23, .ref m24, .ref m25, .ref m26, .ref m27, .ref m28, .int (nI (n + 1)), .ref m30, .int s31, .int s32, .int s33, .int s34, .int s35, .ref m36, .ref m37, .ref m38, .ref m39, .long s40])), (m30, ai g 18 (upd (upd (upd Sg (3 * n) p1) (3 * n + 1) p2) (3 * n + 2) 1))]) [1, 0] (by decide) rfl
          exact k_ri hx hb hr hlocks hS hP9 hD9 ⟨(n + 1), (upd (upd (upd Sg (3 * n) p1) (3 * n + 1) p2) (3 * n + 2) 1), rfl, (by unfold rSee; rw [if_neg c5_3, if_neg (show ¬ isI p2 4 = 0 from fun q => c20_6 ((in4_eq p2).trans q)), if_pos hn6]), (by unfold nSe; rw [if_neg c5_3, if_neg (show ¬ isI p2 4 = 0 from fun q => c20_6 ((in4_eq p2).trans q)), if_pos hn6])⟩ dX9_see_100
      · skip
        refine lv_bipush (v := (-104)) hx hb dX9_see_35 (by decide) ?_
        refine W.widen (k := 0) (n := 0) (Nat.le_of_ble_eq_true rfl) (Nat.le_of_ble_eq_true rfl) ?_
        have hP9 := hP.sub (ws' := [(k0, .inr (9, [.ref m0, .int s1, .int s2, .int s3, .int s4, .int s5, .int s6, .ref m7, .ref m8, .ref m9, .int (nI z), .int s11, .int s12, .ref m13, .ref m14, .ref m15, .int s16, .ref m17, .ref m18, .ref m19, .ref m20, .ref m21, .ref m22, .ref m23, .ref m24, .ref m25, .ref m26, .ref m27, .ref m28, .int (nI n), .ref m30, .int s31, .int s32, .int s33, .int s34, .int s35, .ref m36, .ref m37, .ref m38, .ref m39, .long s40])), (m30, ai g 18 Sg)]) [1, 0] rfl
        have hD9 := hD.sub (ws' := [(k0, .inr (9, [.ref m0, .int s1, .int s2, .int s3, .int s4, .int s5, .int s6, .ref m7, .ref m8, .ref m9, .int (nI z), .int s11, .int s12, .ref m13, .ref m14, .ref m15, .int s16, .ref m17, .ref m18, .ref m19, .ref m20, .ref m21, .ref m22, .ref m23, .ref m24, .ref m25, .ref m26, .ref m27, .ref m28, .int (nI n), .ref m30, .int s31, .int s32, .int s33, .int s34, .int s35, .ref m36, .ref m37, .ref m38, .ref m39, .long s40])), (m30, ai g 18 Sg)]) [1, 0] (by decide) rfl
        exact k_ri hx hb hr hlocks hS hP9 hD9 ⟨n, Sg, rfl, (by unfold rSee; rw [if_neg c5_3, if_neg (show ¬ isI p2 4 = 0 from fun q => c20_6 ((in4_eq p2).trans q)), if_neg (show ¬ n < 6 from by have := (nI_eq (b := 6) (by omega) (by decide)).mp c32_7; omega)]), (by unfold nSe; rw [if_neg c5_3, if_neg (show ¬ isI p2 4 = 0 from fun q => c20_6 ((in4_eq p2).trans q)), if_neg (show ¬ n < 6 from by have := (nI_eq (b := 6) (by omega) (by decide)).mp c32_7; omega)])⟩ dX9_see_37
    · skip
      refine lv_bipush (v := (-102)) hx hb dX9_see_23 (by decide) ?_
      refine W.widen (k := 0) (n := 0) (Nat.le_of_ble_eq_true rfl) (Nat.le_of_ble_eq_true rfl) ?_
      have hP9 := hP.sub (ws' := [(k0, .inr (9, [.ref m0, .int s1, .int s2, .int s3, .int s4, .int s5, .int s6, .ref m7, .ref m8, .ref m9, .int (nI z), .int s11, .int s12, .ref m13, .ref m14, .ref m15, .int s16, .ref m17, .ref m18, .ref m19, .ref m20, .ref m21, .ref m22, .ref m23, .ref m24, .ref m25, .ref m26, .ref m27, .ref m28, .int (nI n), .ref m30, .int s31, .int s32, .int s33, .int s34, .int s35, .ref m36, .ref m37, .ref m38, .ref m39, .long s40])), (m30, ai g 18 Sg)]) [1, 0] rfl
      have hD9 := hD.sub (ws' := [(k0, .inr (9, [.ref m0, .int s1, .int s2, .int s3, .int s4, .int s5, .int s6, .ref m7, .ref m8, .ref m9, .int (nI z), .int s11, .int s12, .ref m13, .ref m14, .ref m15, .int s16, .ref m17, .ref m18, .ref m19, .ref m20, .ref m21, .ref m22, .ref m23, .ref m24, .ref m25, .ref m26, .ref m27, .ref m28, .int (nI n), .ref m30, .int s31, .int s32, .int s33, .int s34, .int s35, .ref m36, .ref m37, .ref m38, .ref m39, .long s40])), (m30, ai g 18 Sg)]) [1, 0] (by decide) rfl
      exact k_ri hx hb hr hlocks hS hP9 hD9 ⟨n, Sg, rfl, (by unfold rSee; rw [if_neg c5_3, if_pos ((in4_eq p2).symm.trans c20_6)]), (by unfold nSe; rw [if_neg c5_3, if_pos ((in4_eq p2).symm.trans c20_6)])⟩ dX9_see_25
  · skip
    refine lv_bipush (v := (-101)) hx hb dX9_see_8 (by decide) ?_
    refine W.widen (k := 0) (n := 0) (Nat.le_of_ble_eq_true rfl) (Nat.le_of_ble_eq_true rfl) ?_
    have hP9 := hP.sub (ws' := [(k0, .inr (9, [.ref m0, .int s1, .int s2, .int s3, .int s4, .int s5, .int s6, .ref m7, .ref m8, .ref m9, .int (nI z), .int s11, .int s12, .ref m13, .ref m14, .ref m15, .int s16, .ref m17, .ref m18, .ref m19, .ref m20, .ref m21, .ref m22, .ref m23, .ref m24, .ref m25, .ref m26, .ref m27, .ref m28, .int (nI n), .ref m30, .int s31, .int s32, .int s33, .int s34, .int s35, .ref m36, .ref m37, .ref m38, .ref m39, .long s40])), (m30, ai g 18 Sg)]) [1, 0] rfl
    have hD9 := hD.sub (ws' := [(k0, .inr (9, [.ref m0, .int s1, .int s2, .int s3, .int s4, .int s5, .int s6, .ref m7, .ref m8, .ref m9, .int (nI z), .int s11, .int s12, .ref m13, .ref m14, .ref m15, .int s16, .ref m17, .ref m18, .ref m19, .ref m20, .ref m21, .ref m22, .ref m23, .ref m24, .ref m25, .ref m26, .ref m27, .ref m28, .int (nI n), .ref m30, .int s31, .int s32, .int s33, .int s34, .int s35, .ref m36, .ref m37, .ref m38, .ref m39, .long s40])), (m30, ai g 18 Sg)]) [1, 0] (by decide) rfl
    exact k_ri hx hb hr hlocks hS hP9 hD9 ⟨n, Sg, rfl, (by unfold rSee; rw [if_pos c5_3]), (by unfold nSe; rw [if_pos c5_3])⟩ dX9_see_10
def po_X8_see_f (g : GG) (h0 : Nat) (pg : Nat) (rd : Nat) (sy : Nat) (ks : Nat) (ki : Nat) (al : Nat) (dr : Nat) (le : Int32) (re : Int32) (kp : Int32) (sd : Int32) (sk : Nat) (s1 : Nat) (s2 : Nat) (s3 : Nat) (z : Nat) (t : Nat) (q1 : Nat) (q2 : Nat) (q3 : Nat) (si : Nat) (A1 : Nat → Int32) (A2 : Nat → Int32) (A3 : Nat → Int32) (n : Nat) (p1 : Int32) (p2 : Int32) (p3 : Int32) : Int32 → va_W → Prop := fun (r : Int32) w => ∃ (n2 : Nat) (C1 : Nat → Int32) (C2 : Nat → Int32) (C3 : Nat → Int32), w = [(h0, .inr (8, [.ref pg, .int le, .ref rd, .int re, .ref sk, .ref si, .ref sy, .int sd, .ref ks, .ref ki, .int kp, .ref al, .ref dr])), (sk, .inr (5, [.int (nI z), .int (nI t), .ref s1, .ref s2, .ref s3])), (si, .inr (4, [.int (nI n2), .ref q1, .ref q2, .ref q3])), (q1, ai g 6 C1), (q2, ai g 6 C2), (q3, az g 6 C3)] ∧ (rSee p1 p2 z n = r) ∧ (nSe p1 p2 z n = n2) ∧ (∀ i, i < n2 → vp_nar .boolean (C3 i) = C3 i)
theorem q_X8_see_f_f8 : ∀ w ∈ u_ws RX8 TX8 13, w ∈ wsX8_see := by decide +kernel
theorem q_X8_see_f_1 : (Cond.fieldLink RX8 30 "SoundLaws" "sightings" "LSoundLaws$Sightings;") ∈ wsX8_see := by decide +kernel
theorem q_X8_see_f_f4 : ∀ w ∈ u_ws RX4 TX4 4, w ∈ wsX8_see := by decide +kernel
theorem q_X8_see_f_3 : (Cond.fieldLink RX8 205 "SoundLaws$Sightings" "size" "I") ∈ wsX8_see := by decide +kernel
set_option maxHeartbeats 1500000 in
set_option maxRecDepth 100000 in
theorem c_X8_see_f (l : Launch) (g : GG) (h0 : Nat) (pg : Nat) (rd : Nat) (sy : Nat) (ks : Nat) (ki : Nat) (al : Nat) (dr : Nat) (le : Int32) (re : Int32) (kp : Int32) (sd : Int32) (sk : Nat) (s1 : Nat) (s2 : Nat) (s3 : Nat) (z : Nat) (t : Nat) (q1 : Nat) (q2 : Nat) (q3 : Nat) (si : Nat) (A1 : Nat → Int32) (A2 : Nat → Int32) (A3 : Nat → Int32) (n : Nat) (p1 : Int32) (p2 : Int32) (p3 : Int32) (hn : n ≤ 6) (hz : z ≤ 6) (hb3 : ∀ i, i < n → vp_nar .boolean (A3 i) = A3 i) (sz : Nat) : MetI l yX8_see wsX8_see ({ frames := 1, cells := 0, slots := 0, locals := 23 }) g [.ref h0, .int p1, .int p2, .int p3] [(h0, .inr (8, [.ref pg, .int le, .ref rd, .int re, .ref sk, .ref si, .ref sy, .int sd, .ref ks, .ref ki, .int kp, .ref al, .ref dr])), (sk, .inr (5, [.int (nI z), .int (nI t), .ref s1, .ref s2, .ref s3])), (si, .inr (4, [.int (nI n), .ref q1, .ref q2, .ref q3])), (q1, ai g 6 A1), (q2, ai g 6 A2), (q3, az g 6 A3)] sz (po_X8_see_f g h0 pg rd sy ks ki al dr le re kp sd sk s1 s2 s3 z t q1 q2 q3 si A1 A2 A3 n p1 p2 p3) 0 0 := by
  refine k_of (l := l) (y := yX8_see) (ws := wsX8_see) (rm := { frames := 1, cells := 0, slots := 0, locals := 23 }) (mc := 0) (ms := 0) (av := [.ref h0, .int p1, .int p2, .int p3]) (g := g) (wc := [(h0, .inr (8, [.ref pg, .int le, .ref rd, .int re, .ref sk, .ref si, .ref sy, .int sd, .ref ks, .ref ki, .int kp, .ref al, .ref dr])), (sk, .inr (5, [.int (nI z), .int (nI t), .ref s1, .ref s2, .ref s3])), (si, .inr (4, [.int (nI n), .ref q1, .ref q2, .ref q3])), (q1, ai g 6 A1), (q2, ai g 6 A2), (q3, az g 6 A3)]) (Qc := fun A => va_Qi (po_X8_see_f g h0 pg rd sy ks ki al dr le re kp sd sk s1 s2 s3 z t q1 q2 q3 si A1 A2 A3 n p1 p2 p3) (bk g A) A) (cc := cX8_see) (maxL := 4) (ret := (some .int)) (by decide) rfl (Nat.le_of_ble_eq_true rfl) ?_ sz
  intro p e s m below meth c hx hb hr hts hown hlocks hnm hml A hA hE hZ hP hD hS ls hl
  have hown : s.vm.findClass RX8 = some m.cls := hown
  have hl : lv_has ls 4 [(0, .ref h0), (1, .int p1), (2, .int p2), (3, .int p3)] := hl
  refine lv_aload_n hx hb dX8_see_0 rfl (lv_at hl 0 rfl) ?_
  refine lv_iload_n hx hb dX8_see_1 rfl (lv_at hl 1 rfl) ?_
  refine k_ci (wr := [(si, .inr (4, [.int (nI n), .ref q1, .ref q2, .ref q3])), (q1, ai g 6 A1), (q2, ai g 6 A2), (q3, az g 6 A3)]) hP hD hS hA [0, 1] [2, 3, 4, 5] rfl rfl (by decide) (by decide) (va_runV (As := [.int p1]) (rest := []) ⟨hx, hb, hml, hown, hts⟩ (c_X8_isSet_g l g h0 pg rd si sy ks ki al dr le re sd kp sk s1 s2 s3 z t p1  s.heap.size) (cwV 1 hts gX8_see_X8_isSet rfl rfl rfl (by decide +kernel) ⟨Nat.le_of_ble_eq_true rfl, Nat.le_of_ble_eq_true rfl⟩) (k_preV hE hZ hP hD hS hA [0, 1] rfl (by decide) (va_recv hE.1 hP (ci := 8) (q0 := 0) rfl rfl)) rfl rfl hl.1 rfl (lv_room (Nat.le_of_ble_eq_true rfl)) dX8_see_2 ⟨Nat.le_of_ble_eq_true rfl, Nat.le_of_ble_eq_true rfl⟩) (fun r_1 w1 H locs hw hP hD hS => ?_)
  obtain ⟨rfl, rfl⟩ := hw
  have hP : va_P g.1 vwCl [(si, .inr (4, [.int (nI n), .ref q1, .ref q2, .ref q3])), (q1, ai g 6 A1), (q2, ai g 6 A2), (q3, az g 6 A3), (h0, .inr (8, [.ref pg, .int le, .ref rd, .int re, .ref sk, .ref si, .ref sy, .int sd, .ref ks, .ref ki, .int kp, .ref al, .ref dr])), (sk, .inr (5, [.int (nI z), .int (nI t), .ref s1, .ref s2, .ref s3]))] H := hP
  have hD : va_D A [(si, .inr (4, [.int (nI n), .ref q1, .ref q2, .ref q3])), (q1, ai g 6 A1), (q2, ai g 6 A2), (q3, az g 6 A3), (h0, .inr (8, [.ref pg, .int le, .ref rd, .int re, .ref sk, .ref si, .ref sy, .int sd, .ref ks, .ref ki, .int kp, .ref al, .ref dr])), (sk, .inr (5, [.int (nI z), .int (nI t), .ref s1, .ref s2, .ref s3]))] := hD
  refine lv_if_ne (tgt := 11) hx hb dX8_see_5 (by decide) (fun c5_3 => ?_) (fun c5_3 => ?_)
  · skip
    refine lv_iload_n hx hb dX8_see_11 rfl (lv_at hl 2 rfl) ?_
    refine lv_if_lt (tgt := 20) hx hb dX8_see_12 (by decide) (fun c12_4 => ?_) (fun c12_4 => ?_)
    · skip
      refine lv_bipush (v := (-102)) hx hb dX8_see_20 (by decide) ?_
      refine W.widen (k := 0) (n := 0) (Nat.le_of_ble_eq_true rfl) (Nat.le_of_ble_eq_true rfl) ?_
      have hP9 := hP.sub (ws' := [(h0, .inr (8, [.ref pg, .int le, .ref rd, .int re, .ref sk, .ref si, .ref sy, .int sd, .ref ks, .ref ki, .int kp, .ref al, .ref dr])), (sk, .inr (5, [.int (nI z), .int (nI t), .ref s1, .ref s2, .ref s3])), (si, .inr (4, [.int (nI n), .ref q1, .ref q2, .ref q3])), (q1, ai g 6 A1), (q2, ai g 6 A2), (q3, az g 6 A3)]) [4, 5, 0, 1, 2, 3] rfl
      have hD9 := hD.sub (ws' := [(h0, .inr (8, [.ref pg, .int le, .ref rd, .int re, .ref sk, .ref si, .ref sy, .int sd, .ref ks, .ref ki, .int kp, .ref al, .ref dr])), (sk, .inr (5, [.int (nI z), .int (nI t), .ref s1, .ref s2, .ref s3])), (si, .inr (4, [.int (nI n), .ref q1, .ref q2, .ref q3])), (q1, ai g 6 A1), (q2, ai g 6 A2), (q3, az g 6 A3)]) [4, 5, 0, 1, 2, 3] (by decide) rfl
      exact k_ri hx hb hr hlocks hS hP9 hD9 ⟨n, A1, A2, A3, rfl, (by unfold rSee; rw [if_neg c5_3, if_pos (isI_lo c12_4)]), (by unfold nSe; rw [if_neg c5_3, if_pos (isI_lo c12_4)]), hb3⟩ dX8_see_22
    · skip
      refine lv_iload_n hx hb dX8_see_15 rfl (lv_at hl 2 rfl) ?_
      refine lv_iconst (v := 4) hx hb dX8_see_16 (by decide) ?_
      refine lv_icmp_lt (tgt := 23) hx hb dX8_see_17 (by decide) (fun c17_5 => ?_) (fun c17_5 => ?_)
      · skip
        refine lv_aload_n hx hb dX8_see_23 rfl (lv_at hl 0 rfl) ?_
        refine va_get (D := g.1) (ci := 8) (v := .ref si) (C := RX8) (T := TX8) (N := 13) hx hb hts q_X8_see_f_f8 hown hE.1 hP 4 rfl rfl 5 (by decide) (hts (.fieldLink RX8 30 "SoundLaws" "sightings" "LSoundLaws$Sightings;") q_X8_see_f_1) (fun _ h9 => h9) rfl dX8_see_24 ?_
        refine va_get (D := g.1) (ci := 4) (v := .int (nI n)) (C := RX4) (T := TX4) (N := 4) hx hb hts q_X8_see_f_f4 hown hE.1 hP 0 rfl rfl 0 (by decide) (hts (.fieldLink RX8 205 "SoundLaws$Sightings" "size" "I") q_X8_see_f_3) (fun _ h9 => h9) rfl dX8_see_27 ?_
        refine lv_bipush (v := 6) hx hb dX8_see_30 (by decide) ?_
        refine lv_icmp_lt (tgt := 38) hx hb dX8_see_32 (by decide) (fun c32_6 => ?_) (fun c32_6 => ?_)
        · skip
          have hn6 : n < 6 := (nI_ltI (b := 6) (by omega) (by decide)).mp c32_6
          refine lv_aload_n hx hb dX8_see_38 rfl (lv_at hl 0 rfl) ?_
          refine va_get (D := g.1) (ci := 8) (v := .ref si) (C := RX8) (T := TX8) (N := 13) hx hb hts q_X8_see_f_f8 hown hE.1 hP 4 rfl rfl 5 (by decide) (hts (.fieldLink RX8 30 "SoundLaws" "sightings" "LSoundLaws$Sightings;") q_X8_see_f_1) (fun _ h9 => h9) rfl dX8_see_39 ?_
          refine lv_iload_n hx hb dX8_see_42 rfl (lv_at hl 1 rfl) ?_
          refine lv_iload_n hx hb dX8_see_43 rfl (lv_at hl 2 rfl) ?_
          refine lv_iload_n hx hb dX8_see_44 rfl (lv_at hl 3 rfl) ?_
          refine k_cv (wr := [(h0, .inr (8, [.ref pg, .int le, .ref rd, .int re, .ref sk, .ref si, .ref sy, .int sd, .ref ks, .ref ki, .int kp, .ref al, .ref dr])), (sk, .inr (5, [.int (nI z), .int (nI t), .ref s1, .ref s2, .ref s3]))]) hP hD hS hA [0, 1, 2, 3] [4, 5] rfl rfl (by decide) (by decide) (va_runV (As := [.int p1, .int p2, .int p3]) (rest := []) ⟨hx, hb, hml, hown, hts⟩ (c_X4_add_g l g q1 q2 q3 si A1 A2 A3 n p1 p2 p3 (by first | assumption | omega) H.size) (cwV 3 hts gX8_see_X4_add rfl rfl rfl (by decide +kernel) ⟨Nat.le_of_ble_eq_true rfl, Nat.le_of_ble_eq_true rfl⟩) (k_preV hE hZ hP hD hS hA [0, 1, 2, 3] rfl (by decide) (va_recv hE.1 hP (ci := 4) (q0 := 0) rfl rfl)) rfl rfl hl.1 rfl (lv_room (Nat.le_of_ble_eq_true rfl)) dX8_see_45 ⟨Nat.le_of_ble_eq_true rfl, Nat.le_of_ble_eq_true rfl⟩) (fun w1 H locs hw hP hD hS => ?_)
          obtain rfl := hw
          have hP : va_P g.1 vwCl [(h0, .inr (8, [.ref pg, .int le, .ref rd, .int re, .ref sk, .ref si, .ref sy, .int sd, .ref ks, .ref ki, .int kp, .ref al, .ref dr])), (sk, .inr (5, [.int (nI z), .int (nI t), .ref s1, .ref s2, .ref s3])), (si, .inr (4, [.int (nI (n + 1)), .ref q1, .ref q2, .ref q3])), (q1, ai g 6 (upd A1 n p1)), (q2, ai g 6 (upd A2 n p2)), (q3, az g 6 (upd A3 n (vp_nar .boolean p3)))] H := hP
          have hD : va_D A [(h0, .inr (8, [.ref pg, .int le, .ref rd, .int re, .ref sk, .ref si, .ref sy, .int sd, .ref ks, .ref ki, .int kp, .ref al, .ref dr])), (sk, .inr (5, [.int (nI z), .int (nI t), .ref s1, .ref s2, .ref s3])), (si, .inr (4, [.int (nI (n + 1)), .ref q1, .ref q2, .ref q3])), (q1, ai g 6 (upd A1 n p1)), (q2, ai g 6 (upd A2 n p2)), (q3, az g 6 (upd A3 n (vp_nar .boolean p3)))] := hD
          refine lv_aload_n hx hb dX8_see_48 rfl (lv_at hl 0 rfl) ?_
          refine va_get (D := g.1) (ci := 8) (v := .ref si) (C := RX8) (T := TX8) (N := 13) hx hb hts q_X8_see_f_f8 hown hE.1 hP 0 rfl rfl 5 (by decide) (hts (.fieldLink RX8 30 "SoundLaws" "sightings" "LSoundLaws$Sightings;") q_X8_see_f_1) (fun _ h9 => h9) rfl dX8_see_49 ?_
          refine va_get (D := g.1) (ci := 4) (v := .int (nI (n + 1))) (C := RX4) (T := TX4) (N := 4) hx hb hts q_X8_see_f_f4 hown hE.1 hP 2 rfl rfl 0 (by decide) (hts (.fieldLink RX8 205 "SoundLaws$Sightings" "size" "I") q_X8_see_f_3) (fun _ h9 => h9) rfl dX8_see_52 ?_
          refine W.widen (k := 0) (n := 0) (Nat.le_of_ble_eq_true rfl) (Nat.le_of_ble_eq_true rfl) ?_
          exact k_ri hx hb hr hlocks hS hP hD ⟨(n + 1), (upd A1 n p1), (upd A2 n p2), (upd A3 n (vp_nar .boolean p3)), rfl, (by unfold rSee; rw [if_neg c5_3, if_neg (show ¬ isI p2 4 = 0 from by rw [isI_in c12_4 (Int32.not_le.mpr c17_5)]; decide), if_pos hn6]), (by unfold nSe; rw [if_neg c5_3, if_neg (show ¬ isI p2 4 = 0 from by rw [isI_in c12_4 (Int32.not_le.mpr c17_5)]; decide), if_pos hn6]), (bzn_s hb3)⟩ dX8_see_55
        · skip
          refine lv_bipush (v := (-104)) hx hb dX8_see_35 (by decide) ?_
          refine W.widen (k := 0) (n := 0) (Nat.le_of_ble_eq_true rfl) (Nat.le_of_ble_eq_true rfl) ?_
          have hP9 := hP.sub (ws' := [(h0, .inr (8, [.ref pg, .int le, .ref rd, .int re, .ref sk, .ref si, .ref sy, .int sd, .ref ks, .ref ki, .int kp, .ref al, .ref dr])), (sk, .inr (5, [.int (nI z), .int (nI t), .ref s1, .ref s2, .ref s3])), (si, .inr (4, [.int (nI n), .ref q1, .ref q2, .ref q3])), (q1, ai g 6 A1), (q2, ai g 6 A2), (q3, az g 6 A3)]) [4, 5, 0, 1, 2, 3] rfl
          have hD9 := hD.sub (ws' := [(h0, .inr (8, [.ref pg, .int le, .ref rd, .int re, .ref sk, .ref si, .ref sy, .int sd, .ref ks, .ref ki, .int kp, .ref al, .ref dr])), (sk, .inr (5, [.int (nI z), .int (nI t), .ref s1, .ref s2, .ref s3])), (si, .inr (4, [.int (nI n), .ref q1, .ref q2, .ref q3])), (q1, ai g 6 A1), (q2, ai g 6 A2), (q3, az g 6 A3)]) [4, 5, 0, 1, 2, 3] (by decide) rfl
          exact k_ri hx hb hr hlocks hS hP9 hD9 ⟨n, A1, A2, A3, rfl, (by unfold rSee; rw [if_neg c5_3, if_neg (show ¬ isI p2 4 = 0 from by rw [isI_in c12_4 (Int32.not_le.mpr c17_5)]; decide), if_neg (show ¬ n < 6 from fun q => c32_6 (nI_lt (b := 6) q (by decide)))]), (by unfold nSe; rw [if_neg c5_3, if_neg (show ¬ isI p2 4 = 0 from by rw [isI_in c12_4 (Int32.not_le.mpr c17_5)]; decide), if_neg (show ¬ n < 6 from fun q => c32_6 (nI_lt (b := 6) q (by decide)))]), hb3⟩ dX8_see_37
      · skip
        refine lv_bipush (v := (-102)) hx hb dX8_see_20 (by decide) ?_
        refine W.widen (k := 0) (n := 0) (Nat.le_of_ble_eq_true rfl) (Nat.le_of_ble_eq_true rfl) ?_
        have hP9 := hP.sub (ws' := [(h0, .inr (8, [.ref pg, .int le, .ref rd, .int re, .ref sk, .ref si, .ref sy, .int sd, .ref ks, .ref ki, .int kp, .ref al, .ref dr])), (sk, .inr (5, [.int (nI z), .int (nI t), .ref s1, .ref s2, .ref s3])), (si, .inr (4, [.int (nI n), .ref q1, .ref q2, .ref q3])), (q1, ai g 6 A1), (q2, ai g 6 A2), (q3, az g 6 A3)]) [4, 5, 0, 1, 2, 3] rfl
        have hD9 := hD.sub (ws' := [(h0, .inr (8, [.ref pg, .int le, .ref rd, .int re, .ref sk, .ref si, .ref sy, .int sd, .ref ks, .ref ki, .int kp, .ref al, .ref dr])), (sk, .inr (5, [.int (nI z), .int (nI t), .ref s1, .ref s2, .ref s3])), (si, .inr (4, [.int (nI n), .ref q1, .ref q2, .ref q3])), (q1, ai g 6 A1), (q2, ai g 6 A2), (q3, az g 6 A3)]) [4, 5, 0, 1, 2, 3] (by decide) rfl
        exact k_ri hx hb hr hlocks hS hP9 hD9 ⟨n, A1, A2, A3, rfl, (by unfold rSee; rw [if_neg c5_3, if_pos (isI_hi (z := 4) (Int32.not_lt.mp c17_5))]), (by unfold nSe; rw [if_neg c5_3, if_pos (isI_hi (z := 4) (Int32.not_lt.mp c17_5))]), hb3⟩ dX8_see_22
  · skip
    refine lv_bipush (v := (-101)) hx hb dX8_see_8 (by decide) ?_
    refine W.widen (k := 0) (n := 0) (Nat.le_of_ble_eq_true rfl) (Nat.le_of_ble_eq_true rfl) ?_
    have hP9 := hP.sub (ws' := [(h0, .inr (8, [.ref pg, .int le, .ref rd, .int re, .ref sk, .ref si, .ref sy, .int sd, .ref ks, .ref ki, .int kp, .ref al, .ref dr])), (sk, .inr (5, [.int (nI z), .int (nI t), .ref s1, .ref s2, .ref s3])), (si, .inr (4, [.int (nI n), .ref q1, .ref q2, .ref q3])), (q1, ai g 6 A1), (q2, ai g 6 A2), (q3, az g 6 A3)]) [4, 5, 0, 1, 2, 3] rfl
    have hD9 := hD.sub (ws' := [(h0, .inr (8, [.ref pg, .int le, .ref rd, .int re, .ref sk, .ref si, .ref sy, .int sd, .ref ks, .ref ki, .int kp, .ref al, .ref dr])), (sk, .inr (5, [.int (nI z), .int (nI t), .ref s1, .ref s2, .ref s3])), (si, .inr (4, [.int (nI n), .ref q1, .ref q2, .ref q3])), (q1, ai g 6 A1), (q2, ai g 6 A2), (q3, az g 6 A3)]) [4, 5, 0, 1, 2, 3] (by decide) rfl
    exact k_ri hx hb hr hlocks hS hP9 hD9 ⟨n, A1, A2, A3, rfl, (by unfold rSee; rw [if_pos c5_3]), (by unfold nSe; rw [if_pos c5_3]), hb3⟩ dX8_see_10
def po_X8_image_f (g : GG) (h0 : Nat) (pg : Nat) (rd : Nat) (sy : Nat) (al : Nat) (dr : Nat) (le : Int32) (re : Int32) (sd : Int32) (kp : Int32) (sk : Nat) (s1 : Nat) (s2 : Nat) (s3 : Nat) (z : Nat) (t : Nat) (K : Nat → Int32) (L : Nat → Int32) (V : Nat → Int32) (ks : Nat) (o1 : Nat) (o2 : Nat) (o3 : Nat) (z2 : Nat) (t2 : Nat) (K2 : Nat → Int32) (L2 : Nat → Int32) (V2 : Nat → Int32) (q1 : Nat) (q2 : Nat) (q3 : Nat) (si : Nat) (A1 : Nat → Int32) (A2 : Nat → Int32) (A3 : Nat → Int32) (n : Nat) (ki : Nat) (r1 : Nat) (r2 : Nat) (r3 : Nat) (n2 : Nat) (B1 : Nat → Int32) (B2 : Nat → Int32) (B3 : Nat → Int32) : Int32 → va_W → Prop := fun (r : Int32) w => ∃ (kp2 : Int32) (z3 : Nat) (t3 : Nat) (n3 : Nat) (K3 : Nat → Int32) (L3 : Nat → Int32) (V3 : Nat → Int32) (C1 : Nat → Int32) (C2 : Nat → Int32) (C3 : Nat → Int32), w = [(h0, .inr (8, [.ref pg, .int le, .ref rd, .int re, .ref sk, .ref si, .ref sy, .int sd, .ref ks, .ref ki, .int kp2, .ref al, .ref dr])), (sk, .inr (5, [.int (nI z), .int (nI t), .ref s1, .ref s2, .ref s3])), (s1, ai g 6 K), (s2, ai g 6 L), (s3, ai g 96 V), (ks, .inr (5, [.int (nI z3), .int (nI t3), .ref o1, .ref o2, .ref o3])), (o1, ai g 6 K3), (o2, ai g 6 L3), (o3, ai g 96 V3), (si, .inr (4, [.int (nI n), .ref q1, .ref q2, .ref q3])), (q1, ai g 6 A1), (q2, ai g 6 A2), (q3, az g 6 A3), (ki, .inr (4, [.int (nI n3), .ref r1, .ref r2, .ref r3])), (r1, ai g 6 C1), (r2, ai g 6 C2), (r3, az g 6 C3)] ∧ (rIm z = r) ∧ (gst z3 t3 K3 L3 V3) ∧ (n3 ≤ 6) ∧ (∀ i, i < n3 → vp_nar .boolean (C3 i) = C3 i) ∧ ((z = 0 ∧ kp2 = kp ∧ z3 = z2 ∧ t3 = t2 ∧ n3 = n2 ∧ K3 = K2 ∧ L3 = L2 ∧ V3 = V2) ∨ (¬ z = 0 ∧ kp2 = 1 ∧ z3 = z ∧ t3 = t ∧ n3 = n ∧ (∀ i, i < 6 → K3 i = K i) ∧ (∀ i, i < 6 → L3 i = L i) ∧ (∀ i, i < 96 → V3 i = V i)))
theorem q_X8_image_f_f8 : ∀ w ∈ u_ws RX8 TX8 13, w ∈ wsX8_image := by decide +kernel
theorem q_X8_image_f_1 : (Cond.fieldLink RX8 23 "SoundLaws" "stock" "LSoundLaws$Stock;") ∈ wsX8_image := by decide +kernel
theorem q_X8_image_f_f5 : ∀ w ∈ u_ws RX5 TX5 5, w ∈ wsX8_image := by decide +kernel
theorem q_X8_image_f_3 : (Cond.fieldLink RX8 93 "SoundLaws$Stock" "size" "I") ∈ wsX8_image := by decide +kernel
theorem q_X8_image_f_4 : (Cond.fieldLink RX8 41 "SoundLaws" "keptStock" "LSoundLaws$Stock;") ∈ wsX8_image := by decide +kernel
theorem q_X8_image_f_5 : (Cond.fieldLink RX8 44 "SoundLaws" "keptSightings" "LSoundLaws$Sightings;") ∈ wsX8_image := by decide +kernel
theorem q_X8_image_f_6 : (Cond.fieldLink RX8 30 "SoundLaws" "sightings" "LSoundLaws$Sightings;") ∈ wsX8_image := by decide +kernel
theorem q_X8_image_f_7 : (Cond.fieldLink RX8 83 "SoundLaws" "kept" "Z") ∈ wsX8_image := by decide +kernel
set_option maxHeartbeats 1500000 in
set_option maxRecDepth 100000 in
theorem c_X8_image_f (l : Launch) (g : GG) (h0 : Nat) (pg : Nat) (rd : Nat) (sy : Nat) (al : Nat) (dr : Nat) (le : Int32) (re : Int32) (sd : Int32) (kp : Int32) (sk : Nat) (s1 : Nat) (s2 : Nat) (s3 : Nat) (z : Nat) (t : Nat) (K : Nat → Int32) (L : Nat → Int32) (V : Nat → Int32) (ks : Nat) (o1 : Nat) (o2 : Nat) (o3 : Nat) (z2 : Nat) (t2 : Nat) (K2 : Nat → Int32) (L2 : Nat → Int32) (V2 : Nat → Int32) (q1 : Nat) (q2 : Nat) (q3 : Nat) (si : Nat) (A1 : Nat → Int32) (A2 : Nat → Int32) (A3 : Nat → Int32) (n : Nat) (ki : Nat) (r1 : Nat) (r2 : Nat) (r3 : Nat) (n2 : Nat) (B1 : Nat → Int32) (B2 : Nat → Int32) (B3 : Nat → Int32) (hg : gst z t K L V) (hg2 : gst z2 t2 K2 L2 V2) (hn : n ≤ 6) (hn2 : n2 ≤ 6) (hb3 : ∀ i, i < n → vp_nar .boolean (A3 i) = A3 i) (hb2 : ∀ i, i < n2 → vp_nar .boolean (B3 i) = B3 i) (hz9 : z ≤ 6) (sz : Nat) : MetI l yX8_image wsX8_image ({ frames := 2, cells := 0, slots := 0, locals := 61 }) g [.ref h0] [(h0, .inr (8, [.ref pg, .int le, .ref rd, .int re, .ref sk, .ref si, .ref sy, .int sd, .ref ks, .ref ki, .int kp, .ref al, .ref dr])), (sk, .inr (5, [.int (nI z), .int (nI t), .ref s1, .ref s2, .ref s3])), (s1, ai g 6 K), (s2, ai g 6 L), (s3, ai g 96 V), (ks, .inr (5, [.int (nI z2), .int (nI t2), .ref o1, .ref o2, .ref o3])), (o1, ai g 6 K2), (o2, ai g 6 L2), (o3, ai g 96 V2), (si, .inr (4, [.int (nI n), .ref q1, .ref q2, .ref q3])), (q1, ai g 6 A1), (q2, ai g 6 A2), (q3, az g 6 A3), (ki, .inr (4, [.int (nI n2), .ref r1, .ref r2, .ref r3])), (r1, ai g 6 B1), (r2, ai g 6 B2), (r3, az g 6 B3)] sz (po_X8_image_f g h0 pg rd sy al dr le re sd kp sk s1 s2 s3 z t K L V ks o1 o2 o3 z2 t2 K2 L2 V2 q1 q2 q3 si A1 A2 A3 n ki r1 r2 r3 n2 B1 B2 B3) 0 0 := by
  refine k_of (l := l) (y := yX8_image) (ws := wsX8_image) (rm := { frames := 2, cells := 0, slots := 0, locals := 61 }) (mc := 0) (ms := 0) (av := [.ref h0]) (g := g) (wc := [(h0, .inr (8, [.ref pg, .int le, .ref rd, .int re, .ref sk, .ref si, .ref sy, .int sd, .ref ks, .ref ki, .int kp, .ref al, .ref dr])), (sk, .inr (5, [.int (nI z), .int (nI t), .ref s1, .ref s2, .ref s3])), (s1, ai g 6 K), (s2, ai g 6 L), (s3, ai g 96 V), (ks, .inr (5, [.int (nI z2), .int (nI t2), .ref o1, .ref o2, .ref o3])), (o1, ai g 6 K2), (o2, ai g 6 L2), (o3, ai g 96 V2), (si, .inr (4, [.int (nI n), .ref q1, .ref q2, .ref q3])), (q1, ai g 6 A1), (q2, ai g 6 A2), (q3, az g 6 A3), (ki, .inr (4, [.int (nI n2), .ref r1, .ref r2, .ref r3])), (r1, ai g 6 B1), (r2, ai g 6 B2), (r3, az g 6 B3)]) (Qc := fun A => va_Qi (po_X8_image_f g h0 pg rd sy al dr le re sd kp sk s1 s2 s3 z t K L V ks o1 o2 o3 z2 t2 K2 L2 V2 q1 q2 q3 si A1 A2 A3 n ki r1 r2 r3 n2 B1 B2 B3) (bk g A) A) (cc := cX8_image) (maxL := 1) (ret := (some .int)) (by decide) rfl (Nat.le_of_ble_eq_true rfl) ?_ sz
  intro p e s m below meth c hx hb hr hts hown hlocks hnm hml A hA hE hZ hP hD hS ls hl
  have hown : s.vm.findClass RX8 = some m.cls := hown
  have hl : lv_has ls 1 [(0, .ref h0)] := hl
  refine lv_aload_n hx hb dX8_image_0 rfl (lv_at hl 0 rfl) ?_
  refine va_get (D := g.1) (ci := 8) (v := .ref sk) (C := RX8) (T := TX8) (N := 13) hx hb hts q_X8_image_f_f8 hown hE.1 hP 0 rfl rfl 4 (by decide) (hts (.fieldLink RX8 23 "SoundLaws" "stock" "LSoundLaws$Stock;") q_X8_image_f_1) (fun _ h9 => h9) rfl dX8_image_1 ?_
  refine va_get (D := g.1) (ci := 5) (v := .int (nI z)) (C := RX5) (T := TX5) (N := 5) hx hb hts q_X8_image_f_f5 hown hE.1 hP 1 rfl rfl 0 (by decide) (hts (.fieldLink RX8 93 "SoundLaws$Stock" "size" "I") q_X8_image_f_3) (fun _ h9 => h9) rfl dX8_image_4 ?_
  refine lv_if_ne (tgt := 13) hx hb dX8_image_7 (by decide) (fun c7_1 => ?_) (fun c7_1 => ?_)
  · skip
    refine lv_aload_n hx hb dX8_image_13 rfl (lv_at hl 0 rfl) ?_
    refine va_get (D := g.1) (ci := 8) (v := .ref ks) (C := RX8) (T := TX8) (N := 13) hx hb hts q_X8_image_f_f8 hown hE.1 hP 0 rfl rfl 8 (by decide) (hts (.fieldLink RX8 41 "SoundLaws" "keptStock" "LSoundLaws$Stock;") q_X8_image_f_4) (fun _ h9 => h9) rfl dX8_image_14 ?_
    refine lv_aload_n hx hb dX8_image_17 rfl (lv_at hl 0 rfl) ?_
    refine va_get (D := g.1) (ci := 8) (v := .ref sk) (C := RX8) (T := TX8) (N := 13) hx hb hts q_X8_image_f_f8 hown hE.1 hP 0 rfl rfl 4 (by decide) (hts (.fieldLink RX8 23 "SoundLaws" "stock" "LSoundLaws$Stock;") q_X8_image_f_1) (fun _ h9 => h9) rfl dX8_image_18 ?_
    refine k_cv (wr := [(h0, .inr (8, [.ref pg, .int le, .ref rd, .int re, .ref sk, .ref si, .ref sy, .int sd, .ref ks, .ref ki, .int kp, .ref al, .ref dr])), (si, .inr (4, [.int (nI n), .ref q1, .ref q2, .ref q3])), (q1, ai g 6 A1), (q2, ai g 6 A2), (q3, az g 6 A3), (ki, .inr (4, [.int (nI n2), .ref r1, .ref r2, .ref r3])), (r1, ai g 6 B1), (r2, ai g 6 B2), (r3, az g 6 B3)]) hP hD hS hA [5, 6, 7, 8, 1, 2, 3, 4] [0, 9, 10, 11, 12, 13, 14, 15, 16] rfl rfl (by decide) (by decide) (va_runV (As := [.ref sk]) (rest := []) ⟨hx, hb, hml, hown, hts⟩ (c_X5_become_g l g ks o1 o2 o3 K2 L2 V2 sk s1 s2 s3 K L V (nI z2) (nI t2) (nI z) (nI t)  s.heap.size) (cwV 1 hts gX8_image_X5_become rfl rfl rfl (by decide +kernel) ⟨Nat.le_of_ble_eq_true rfl, Nat.le_of_ble_eq_true rfl⟩) (k_preV hE hZ hP hD hS hA [5, 6, 7, 8, 1, 2, 3, 4] rfl (by decide) (va_recv hE.1 hP (ci := 5) (q0 := 5) rfl rfl)) rfl rfl hl.1 rfl (lv_room (Nat.le_of_ble_eq_true rfl)) dX8_image_21 ⟨Nat.le_of_ble_eq_true rfl, Nat.le_of_ble_eq_true rfl⟩) (fun w1 H locs hw hP hD hS => ?_)
    obtain rfl := hw
    have hP : va_P g.1 vwCl [(h0, .inr (8, [.ref pg, .int le, .ref rd, .int re, .ref sk, .ref si, .ref sy, .int sd, .ref ks, .ref ki, .int kp, .ref al, .ref dr])), (si, .inr (4, [.int (nI n), .ref q1, .ref q2, .ref q3])), (q1, ai g 6 A1), (q2, ai g 6 A2), (q3, az g 6 A3), (ki, .inr (4, [.int (nI n2), .ref r1, .ref r2, .ref r3])), (r1, ai g 6 B1), (r2, ai g 6 B2), (r3, az g 6 B3), (ks, .inr (5, [.int (nI z), .int (nI t), .ref o1, .ref o2, .ref o3])), (o1, ai g 6 (va_cpy K K2 0 0 6)), (o2, ai g 6 (va_cpy L L2 0 0 6)), (o3, ai g 96 (va_cpy V V2 0 0 96)), (sk, .inr (5, [.int (nI z), .int (nI t), .ref s1, .ref s2, .ref s3])), (s1, ai g 6 K), (s2, ai g 6 L), (s3, ai g 96 V)] H := hP
    have hD : va_D A [(h0, .inr (8, [.ref pg, .int le, .ref rd, .int re, .ref sk, .ref si, .ref sy, .int sd, .ref ks, .ref ki, .int kp, .ref al, .ref dr])), (si, .inr (4, [.int (nI n), .ref q1, .ref q2, .ref q3])), (q1, ai g 6 A1), (q2, ai g 6 A2), (q3, az g 6 A3), (ki, .inr (4, [.int (nI n2), .ref r1, .ref r2, .ref r3])), (r1, ai g 6 B1), (r2, ai g 6 B2), (r3, az g 6 B3), (ks, .inr (5, [.int (nI z), .int (nI t), .ref o1, .ref o2, .ref o3])), (o1, ai g 6 (va_cpy K K2 0 0 6)), (o2, ai g 6 (va_cpy L L2 0 0 6)), (o3, ai g 96 (va_cpy V V2 0 0 96)), (sk, .inr (5, [.int (nI z), .int (nI t), .ref s1, .ref s2, .ref s3])), (s1, ai g 6 K), (s2, ai g 6 L), (s3, ai g 96 V)] := hD
    refine lv_aload_n hx hb dX8_image_24 rfl (lv_at hl 0 rfl) ?_
    refine va_get (D := g.1) (ci := 8) (v := .ref ki) (C := RX8) (T := TX8) (N := 13) hx hb hts q_X8_image_f_f8 hown hE.1 hP 0 rfl rfl 9 (by decide) (hts (.fieldLink RX8 44 "SoundLaws" "keptSightings" "LSoundLaws$Sightings;") q_X8_image_f_5) (fun _ h9 => h9) rfl dX8_image_25 ?_
    refine lv_aload_n hx hb dX8_image_28 rfl (lv_at hl 0 rfl) ?_
    refine va_get (D := g.1) (ci := 8) (v := .ref si) (C := RX8) (T := TX8) (N := 13) hx hb hts q_X8_image_f_f8 hown hE.1 hP 0 rfl rfl 5 (by decide) (hts (.fieldLink RX8 30 "SoundLaws" "sightings" "LSoundLaws$Sightings;") q_X8_image_f_6) (fun _ h9 => h9) rfl dX8_image_29 ?_
    refine k_cv (wr := [(h0, .inr (8, [.ref pg, .int le, .ref rd, .int re, .ref sk, .ref si, .ref sy, .int sd, .ref ks, .ref ki, .int kp, .ref al, .ref dr])), (ks, .inr (5, [.int (nI z), .int (nI t), .ref o1, .ref o2, .ref o3])), (o1, ai g 6 (va_cpy K K2 0 0 6)), (o2, ai g 6 (va_cpy L L2 0 0 6)), (o3, ai g 96 (va_cpy V V2 0 0 96)), (sk, .inr (5, [.int (nI z), .int (nI t), .ref s1, .ref s2, .ref s3])), (s1, ai g 6 K), (s2, ai g 6 L), (s3, ai g 96 V)]) hP hD hS hA [5, 6, 7, 8, 1, 2, 3, 4] [0, 9, 10, 11, 12, 13, 14, 15, 16] rfl rfl (by decide) (by decide) (va_runV (As := [.ref si]) (rest := []) ⟨hx, hb, hml, hown, hts⟩ (c_X4_become_g l g r1 r2 r3 ki B1 B2 B3 q1 q2 q3 si A1 A2 A3 (nI n2) n (by first | assumption | omega) (by first | assumption | omega) H.size) (cwV 1 hts gX8_image_X4_become rfl rfl rfl (by decide +kernel) ⟨Nat.le_of_ble_eq_true rfl, Nat.le_of_ble_eq_true rfl⟩) (k_preV hE hZ hP hD hS hA [5, 6, 7, 8, 1, 2, 3, 4] rfl (by decide) (va_recv hE.1 hP (ci := 4) (q0 := 5) rfl rfl)) rfl rfl hl.1 rfl (lv_room (Nat.le_of_ble_eq_true rfl)) dX8_image_32 ⟨Nat.le_of_ble_eq_true rfl, Nat.le_of_ble_eq_true rfl⟩) (fun w1 H locs hw hP hD hS => ?_)
    obtain ⟨C1_4, C2_5, C3_6, rfl, e1_7, e2_8, e3_9⟩ := hw
    have hP : va_P g.1 vwCl [(h0, .inr (8, [.ref pg, .int le, .ref rd, .int re, .ref sk, .ref si, .ref sy, .int sd, .ref ks, .ref ki, .int kp, .ref al, .ref dr])), (ks, .inr (5, [.int (nI z), .int (nI t), .ref o1, .ref o2, .ref o3])), (o1, ai g 6 (va_cpy K K2 0 0 6)), (o2, ai g 6 (va_cpy L L2 0 0 6)), (o3, ai g 96 (va_cpy V V2 0 0 96)), (sk, .inr (5, [.int (nI z), .int (nI t), .ref s1, .ref s2, .ref s3])), (s1, ai g 6 K), (s2, ai g 6 L), (s3, ai g 96 V), (ki, .inr (4, [.int (nI n), .ref r1, .ref r2, .ref r3])), (r1, ai g 6 C1_4), (r2, ai g 6 C2_5), (r3, az g 6 C3_6), (si, .inr (4, [.int (nI n), .ref q1, .ref q2, .ref q3])), (q1, ai g 6 A1), (q2, ai g 6 A2), (q3, az g 6 A3)] H := hP
    have hD : va_D A [(h0, .inr (8, [.ref pg, .int le, .ref rd, .int re, .ref sk, .ref si, .ref sy, .int sd, .ref ks, .ref ki, .int kp, .ref al, .ref dr])), (ks, .inr (5, [.int (nI z), .int (nI t), .ref o1, .ref o2, .ref o3])), (o1, ai g 6 (va_cpy K K2 0 0 6)), (o2, ai g 6 (va_cpy L L2 0 0 6)), (o3, ai g 96 (va_cpy V V2 0 0 96)), (sk, .inr (5, [.int (nI z), .int (nI t), .ref s1, .ref s2, .ref s3])), (s1, ai g 6 K), (s2, ai g 6 L), (s3, ai g 96 V), (ki, .inr (4, [.int (nI n), .ref r1, .ref r2, .ref r3])), (r1, ai g 6 C1_4), (r2, ai g 6 C2_5), (r3, az g 6 C3_6), (si, .inr (4, [.int (nI n), .ref q1, .ref q2, .ref q3])), (q1, ai g 6 A1), (q2, ai g 6 A2), (q3, az g 6 A3)] := hD
    refine lv_aload_n hx hb dX8_image_35 rfl (lv_at hl 0 rfl) ?_
    refine lv_iconst (v := 1) hx hb dX8_image_36 (by decide) ?_
    refine va_put (D := g.1) (ci := 8) (v := .int 1) (ty := .boolean) (C := RX8) (T := TX8) (N := 13) hx hb hts q_X8_image_f_f8 tyX8 tyX8_ok nmX8 hown hE.1 hP hD hS 0 rfl rfl 10 (by decide) (hts (.fieldLink RX8 83 "SoundLaws" "kept" "Z") q_X8_image_f_7) (fun _ h9 => h9) rfl (by decide +kernel) rfl rfl (Nat.le_of_ble_eq_true rfl) dX8_image_37 (fun H locs hP hD hS => ?_)
    have hP : va_P g.1 vwCl [(h0, .inr (8, [.ref pg, .int le, .ref rd, .int re, .ref sk, .ref si, .ref sy, .int sd, .ref ks, .ref ki, .int 1, .ref al, .ref dr])), (ks, .inr (5, [.int (nI z), .int (nI t), .ref o1, .ref o2, .ref o3])), (o1, ai g 6 (va_cpy K K2 0 0 6)), (o2, ai g 6 (va_cpy L L2 0 0 6)), (o3, ai g 96 (va_cpy V V2 0 0 96)), (sk, .inr (5, [.int (nI z), .int (nI t), .ref s1, .ref s2, .ref s3])), (s1, ai g 6 K), (s2, ai g 6 L), (s3, ai g 96 V), (ki, .inr (4, [.int (nI n), .ref r1, .ref r2, .ref r3])), (r1, ai g 6 C1_4), (r2, ai g 6 C2_5), (r3, az g 6 C3_6), (si, .inr (4, [.int (nI n), .ref q1, .ref q2, .ref q3])), (q1, ai g 6 A1), (q2, ai g 6 A2), (q3, az g 6 A3)] H := hP
    have hD : va_D A [(h0, .inr (8, [.ref pg, .int le, .ref rd, .int re, .ref sk, .ref si, .ref sy, .int sd, .ref ks, .ref ki, .int 1, .ref al, .ref dr])), (ks, .inr (5, [.int (nI z), .int (nI t), .ref o1, .ref o2, .ref o3])), (o1, ai g 6 (va_cpy K K2 0 0 6)), (o2, ai g 6 (va_cpy L L2 0 0 6)), (o3, ai g 96 (va_cpy V V2 0 0 96)), (sk, .inr (5, [.int (nI z), .int (nI t), .ref s1, .ref s2, .ref s3])), (s1, ai g 6 K), (s2, ai g 6 L), (s3, ai g 96 V), (ki, .inr (4, [.int (nI n), .ref r1, .ref r2, .ref r3])), (r1, ai g 6 C1_4), (r2, ai g 6 C2_5), (r3, az g 6 C3_6), (si, .inr (4, [.int (nI n), .ref q1, .ref q2, .ref q3])), (q1, ai g 6 A1), (q2, ai g 6 A2), (q3, az g 6 A3)] := hD
    refine lv_aload_n hx hb dX8_image_40 rfl (lv_at hl 0 rfl) ?_
    refine va_get (D := g.1) (ci := 8) (v := .ref sk) (C := RX8) (T := TX8) (N := 13) hx hb hts q_X8_image_f_f8 hown hE.1 hP 0 rfl rfl 4 (by decide) (hts (.fieldLink RX8 23 "SoundLaws" "stock" "LSoundLaws$Stock;") q_X8_image_f_1) (fun _ h9 => h9) rfl dX8_image_41 ?_
    refine va_get (D := g.1) (ci := 5) (v := .int (nI z)) (C := RX5) (T := TX5) (N := 5) hx hb hts q_X8_image_f_f5 hown hE.1 hP 5 rfl rfl 0 (by decide) (hts (.fieldLink RX8 93 "SoundLaws$Stock" "size" "I") q_X8_image_f_3) (fun _ h9 => h9) rfl dX8_image_44 ?_
    refine W.widen (k := 0) (n := 0) (Nat.le_of_ble_eq_true rfl) (Nat.le_of_ble_eq_true rfl) ?_
    have hP9 := hP.sub (ws' := [(h0, .inr (8, [.ref pg, .int le, .ref rd, .int re, .ref sk, .ref si, .ref sy, .int sd, .ref ks, .ref ki, .int 1, .ref al, .ref dr])), (sk, .inr (5, [.int (nI z), .int (nI t), .ref s1, .ref s2, .ref s3])), (s1, ai g 6 K), (s2, ai g 6 L), (s3, ai g 96 V), (ks, .inr (5, [.int (nI z), .int (nI t), .ref o1, .ref o2, .ref o3])), (o1, ai g 6 (va_cpy K K2 0 0 6)), (o2, ai g 6 (va_cpy L L2 0 0 6)), (o3, ai g 96 (va_cpy V V2 0 0 96)), (si, .inr (4, [.int (nI n), .ref q1, .ref q2, .ref q3])), (q1, ai g 6 A1), (q2, ai g 6 A2), (q3, az g 6 A3), (ki, .inr (4, [.int (nI n), .ref r1, .ref r2, .ref r3])), (r1, ai g 6 C1_4), (r2, ai g 6 C2_5), (r3, az g 6 C3_6)]) [0, 5, 6, 7, 8, 1, 2, 3, 4, 13, 14, 15, 16, 9, 10, 11, 12] rfl
    have hD9 := hD.sub (ws' := [(h0, .inr (8, [.ref pg, .int le, .ref rd, .int re, .ref sk, .ref si, .ref sy, .int sd, .ref ks, .ref ki, .int 1, .ref al, .ref dr])), (sk, .inr (5, [.int (nI z), .int (nI t), .ref s1, .ref s2, .ref s3])), (s1, ai g 6 K), (s2, ai g 6 L), (s3, ai g 96 V), (ks, .inr (5, [.int (nI z), .int (nI t), .ref o1, .ref o2, .ref o3])), (o1, ai g 6 (va_cpy K K2 0 0 6)), (o2, ai g 6 (va_cpy L L2 0 0 6)), (o3, ai g 96 (va_cpy V V2 0 0 96)), (si, .inr (4, [.int (nI n), .ref q1, .ref q2, .ref q3])), (q1, ai g 6 A1), (q2, ai g 6 A2), (q3, az g 6 A3), (ki, .inr (4, [.int (nI n), .ref r1, .ref r2, .ref r3])), (r1, ai g 6 C1_4), (r2, ai g 6 C2_5), (r3, az g 6 C3_6)]) [0, 5, 6, 7, 8, 1, 2, 3, 4, 13, 14, 15, 16, 9, 10, 11, 12] (by decide) rfl
    exact k_ri hx hb hr hlocks hS hP9 hD9 ⟨1, z, t, n, (va_cpy K K2 0 0 6), (va_cpy L L2 0 0 6), (va_cpy V V2 0 0 96), C1_4, C2_5, C3_6, rfl, (by unfold rIm; rw [if_neg (show ¬ z = 0 from fun q => c7_1 (by rw [q]; rfl))]), (gst_cpy hg hg2), hn, (fun i hi => by rw [e3_9 i hi]; exact hb3 i hi), Or.inr ⟨(fun q => c7_1 (by rw [q]; rfl)), rfl, rfl, rfl, rfl, (fun i hi => cpy_in hi), (fun i hi => cpy_in hi), (fun i hi => cpy_in hi)⟩⟩ dX8_image_47
  · skip
    refine lv_bipush (v := (-103)) hx hb dX8_image_10 (by decide) ?_
    refine W.widen (k := 0) (n := 0) (Nat.le_of_ble_eq_true rfl) (Nat.le_of_ble_eq_true rfl) ?_
    exact k_ri hx hb hr hlocks hS hP hD ⟨kp, z2, t2, n2, K2, L2, V2, B1, B2, B3, rfl, (by unfold rIm; rw [if_pos ((nI_eq (b := 0) (by omega) (by decide)).mp c7_1)]), hg2, hn2, hb2, Or.inl ⟨(nI_eq (b := 0) (by omega) (by decide)).mp c7_1, rfl, rfl, rfl, rfl, rfl, rfl, rfl⟩⟩ dX8_image_12
def po_X8_restore_f (g : GG) (h0 : Nat) (pg : Nat) (rd : Nat) (sy : Nat) (al : Nat) (dr : Nat) (le : Int32) (re : Int32) (sd : Int32) (kp : Int32) (sk : Nat) (s1 : Nat) (s2 : Nat) (s3 : Nat) (z : Nat) (t : Nat) (K : Nat → Int32) (L : Nat → Int32) (V : Nat → Int32) (ks : Nat) (o1 : Nat) (o2 : Nat) (o3 : Nat) (z2 : Nat) (t2 : Nat) (K2 : Nat → Int32) (L2 : Nat → Int32) (V2 : Nat → Int32) (q1 : Nat) (q2 : Nat) (q3 : Nat) (si : Nat) (A1 : Nat → Int32) (A2 : Nat → Int32) (A3 : Nat → Int32) (n : Nat) (ki : Nat) (r1 : Nat) (r2 : Nat) (r3 : Nat) (n2 : Nat) (B1 : Nat → Int32) (B2 : Nat → Int32) (B3 : Nat → Int32) : Int32 → va_W → Prop := fun (r : Int32) w => ∃ (sd2 : Int32) (z3 : Nat) (t3 : Nat) (n3 : Nat) (K3 : Nat → Int32) (L3 : Nat → Int32) (V3 : Nat → Int32) (C1 : Nat → Int32) (C2 : Nat → Int32) (C3 : Nat → Int32), w = [(h0, .inr (8, [.ref pg, .int le, .ref rd, .int re, .ref sk, .ref si, .ref sy, .int sd2, .ref ks, .ref ki, .int kp, .ref al, .ref dr])), (sk, .inr (5, [.int (nI z3), .int (nI t3), .ref s1, .ref s2, .ref s3])), (s1, ai g 6 K3), (s2, ai g 6 L3), (s3, ai g 96 V3), (ks, .inr (5, [.int (nI z2), .int (nI t2), .ref o1, .ref o2, .ref o3])), (o1, ai g 6 K2), (o2, ai g 6 L2), (o3, ai g 96 V2), (si, .inr (4, [.int (nI n3), .ref q1, .ref q2, .ref q3])), (q1, ai g 6 C1), (q2, ai g 6 C2), (q3, az g 6 C3), (ki, .inr (4, [.int (nI n2), .ref r1, .ref r2, .ref r3])), (r1, ai g 6 B1), (r2, ai g 6 B2), (r3, az g 6 B3)] ∧ ((if kp = 0 then (-103) else nI z2) = r) ∧ (gst z3 t3 K3 L3 V3) ∧ (n3 ≤ 6) ∧ (∀ i, i < n3 → vp_nar .boolean (C3 i) = C3 i) ∧ ((kp = 0 ∧ sd2 = sd ∧ z3 = z ∧ t3 = t ∧ n3 = n ∧ K3 = K ∧ L3 = L ∧ V3 = V) ∨ (¬ kp = 0 ∧ sd2 = 0 ∧ z3 = z2 ∧ t3 = t2 ∧ n3 = n2 ∧ (∀ i, i < 6 → K3 i = K2 i) ∧ (∀ i, i < 6 → L3 i = L2 i) ∧ (∀ i, i < 96 → V3 i = V2 i)))
theorem q_X8_restore_f_f8 : ∀ w ∈ u_ws RX8 TX8 13, w ∈ wsX8_restore := by decide +kernel
theorem q_X8_restore_f_1 : (Cond.fieldLink RX8 83 "SoundLaws" "kept" "Z") ∈ wsX8_restore := by decide +kernel
theorem q_X8_restore_f_2 : (Cond.fieldLink RX8 23 "SoundLaws" "stock" "LSoundLaws$Stock;") ∈ wsX8_restore := by decide +kernel
theorem q_X8_restore_f_3 : (Cond.fieldLink RX8 41 "SoundLaws" "keptStock" "LSoundLaws$Stock;") ∈ wsX8_restore := by decide +kernel
theorem q_X8_restore_f_4 : (Cond.fieldLink RX8 30 "SoundLaws" "sightings" "LSoundLaws$Sightings;") ∈ wsX8_restore := by decide +kernel
theorem q_X8_restore_f_5 : (Cond.fieldLink RX8 44 "SoundLaws" "keptSightings" "LSoundLaws$Sightings;") ∈ wsX8_restore := by decide +kernel
theorem q_X8_restore_f_6 : (Cond.fieldLink RX8 87 "SoundLaws" "studied" "Z") ∈ wsX8_restore := by decide +kernel
theorem q_X8_restore_f_f5 : ∀ w ∈ u_ws RX5 TX5 5, w ∈ wsX8_restore := by decide +kernel
theorem q_X8_restore_f_8 : (Cond.fieldLink RX8 93 "SoundLaws$Stock" "size" "I") ∈ wsX8_restore := by decide +kernel
set_option maxHeartbeats 1500000 in
set_option maxRecDepth 100000 in
theorem c_X8_restore_f (l : Launch) (g : GG) (h0 : Nat) (pg : Nat) (rd : Nat) (sy : Nat) (al : Nat) (dr : Nat) (le : Int32) (re : Int32) (sd : Int32) (kp : Int32) (sk : Nat) (s1 : Nat) (s2 : Nat) (s3 : Nat) (z : Nat) (t : Nat) (K : Nat → Int32) (L : Nat → Int32) (V : Nat → Int32) (ks : Nat) (o1 : Nat) (o2 : Nat) (o3 : Nat) (z2 : Nat) (t2 : Nat) (K2 : Nat → Int32) (L2 : Nat → Int32) (V2 : Nat → Int32) (q1 : Nat) (q2 : Nat) (q3 : Nat) (si : Nat) (A1 : Nat → Int32) (A2 : Nat → Int32) (A3 : Nat → Int32) (n : Nat) (ki : Nat) (r1 : Nat) (r2 : Nat) (r3 : Nat) (n2 : Nat) (B1 : Nat → Int32) (B2 : Nat → Int32) (B3 : Nat → Int32) (hg : gst z t K L V) (hg2 : gst z2 t2 K2 L2 V2) (hn : n ≤ 6) (hn2 : n2 ≤ 6) (hb3 : ∀ i, i < n → vp_nar .boolean (A3 i) = A3 i) (hb2 : ∀ i, i < n2 → vp_nar .boolean (B3 i) = B3 i) (hz9 : z ≤ 6) (sz : Nat) : MetI l yX8_restore wsX8_restore ({ frames := 2, cells := 0, slots := 0, locals := 61 }) g [.ref h0] [(h0, .inr (8, [.ref pg, .int le, .ref rd, .int re, .ref sk, .ref si, .ref sy, .int sd, .ref ks, .ref ki, .int kp, .ref al, .ref dr])), (sk, .inr (5, [.int (nI z), .int (nI t), .ref s1, .ref s2, .ref s3])), (s1, ai g 6 K), (s2, ai g 6 L), (s3, ai g 96 V), (ks, .inr (5, [.int (nI z2), .int (nI t2), .ref o1, .ref o2, .ref o3])), (o1, ai g 6 K2), (o2, ai g 6 L2), (o3, ai g 96 V2), (si, .inr (4, [.int (nI n), .ref q1, .ref q2, .ref q3])), (q1, ai g 6 A1), (q2, ai g 6 A2), (q3, az g 6 A3), (ki, .inr (4, [.int (nI n2), .ref r1, .ref r2, .ref r3])), (r1, ai g 6 B1), (r2, ai g 6 B2), (r3, az g 6 B3)] sz (po_X8_restore_f g h0 pg rd sy al dr le re sd kp sk s1 s2 s3 z t K L V ks o1 o2 o3 z2 t2 K2 L2 V2 q1 q2 q3 si A1 A2 A3 n ki r1 r2 r3 n2 B1 B2 B3) 0 0 := by
  refine k_of (l := l) (y := yX8_restore) (ws := wsX8_restore) (rm := { frames := 2, cells := 0, slots := 0, locals := 61 }) (mc := 0) (ms := 0) (av := [.ref h0]) (g := g) (wc := [(h0, .inr (8, [.ref pg, .int le, .ref rd, .int re, .ref sk, .ref si, .ref sy, .int sd, .ref ks, .ref ki, .int kp, .ref al, .ref dr])), (sk, .inr (5, [.int (nI z), .int (nI t), .ref s1, .ref s2, .ref s3])), (s1, ai g 6 K), (s2, ai g 6 L), (s3, ai g 96 V), (ks, .inr (5, [.int (nI z2), .int (nI t2), .ref o1, .ref o2, .ref o3])), (o1, ai g 6 K2), (o2, ai g 6 L2), (o3, ai g 96 V2), (si, .inr (4, [.int (nI n), .ref q1, .ref q2, .ref q3])), (q1, ai g 6 A1), (q2, ai g 6 A2), (q3, az g 6 A3), (ki, .inr (4, [.int (nI n2), .ref r1, .ref r2, .ref r3])), (r1, ai g 6 B1), (r2, ai g 6 B2), (r3, az g 6 B3)]) (Qc := fun A => va_Qi (po_X8_restore_f g h0 pg rd sy al dr le re sd kp sk s1 s2 s3 z t K L V ks o1 o2 o3 z2 t2 K2 L2 V2 q1 q2 q3 si A1 A2 A3 n ki r1 r2 r3 n2 B1 B2 B3) (bk g A) A) (cc := cX8_restore) (maxL := 1) (ret := (some .int)) (by decide) rfl (Nat.le_of_ble_eq_true rfl) ?_ sz
  intro p e s m below meth c hx hb hr hts hown hlocks hnm hml A hA hE hZ hP hD hS ls hl
  have hown : s.vm.findClass RX8 = some m.cls := hown
  have hl : lv_has ls 1 [(0, .ref h0)] := hl
  refine lv_aload_n hx hb dX8_restore_0 rfl (lv_at hl 0 rfl) ?_
  refine va_get (D := g.1) (ci := 8) (v := .int kp) (C := RX8) (T := TX8) (N := 13) hx hb hts q_X8_restore_f_f8 hown hE.1 hP 0 rfl rfl 10 (by decide) (hts (.fieldLink RX8 83 "SoundLaws" "kept" "Z") q_X8_restore_f_1) (fun _ h9 => h9) rfl dX8_restore_1 ?_
  refine lv_if_ne (tgt := 10) hx hb dX8_restore_4 (by decide) (fun c4_1 => ?_) (fun c4_1 => ?_)
  · skip
    refine lv_aload_n hx hb dX8_restore_10 rfl (lv_at hl 0 rfl) ?_
    refine va_get (D := g.1) (ci := 8) (v := .ref sk) (C := RX8) (T := TX8) (N := 13) hx hb hts q_X8_restore_f_f8 hown hE.1 hP 0 rfl rfl 4 (by decide) (hts (.fieldLink RX8 23 "SoundLaws" "stock" "LSoundLaws$Stock;") q_X8_restore_f_2) (fun _ h9 => h9) rfl dX8_restore_11 ?_
    refine lv_aload_n hx hb dX8_restore_14 rfl (lv_at hl 0 rfl) ?_
    refine va_get (D := g.1) (ci := 8) (v := .ref ks) (C := RX8) (T := TX8) (N := 13) hx hb hts q_X8_restore_f_f8 hown hE.1 hP 0 rfl rfl 8 (by decide) (hts (.fieldLink RX8 41 "SoundLaws" "keptStock" "LSoundLaws$Stock;") q_X8_restore_f_3) (fun _ h9 => h9) rfl dX8_restore_15 ?_
    refine k_cv (wr := [(h0, .inr (8, [.ref pg, .int le, .ref rd, .int re, .ref sk, .ref si, .ref sy, .int sd, .ref ks, .ref ki, .int kp, .ref al, .ref dr])), (si, .inr (4, [.int (nI n), .ref q1, .ref q2, .ref q3])), (q1, ai g 6 A1), (q2, ai g 6 A2), (q3, az g 6 A3), (ki, .inr (4, [.int (nI n2), .ref r1, .ref r2, .ref r3])), (r1, ai g 6 B1), (r2, ai g 6 B2), (r3, az g 6 B3)]) hP hD hS hA [1, 2, 3, 4, 5, 6, 7, 8] [0, 9, 10, 11, 12, 13, 14, 15, 16] rfl rfl (by decide) (by decide) (va_runV (As := [.ref ks]) (rest := []) ⟨hx, hb, hml, hown, hts⟩ (c_X5_become_g l g sk s1 s2 s3 K L V ks o1 o2 o3 K2 L2 V2 (nI z) (nI t) (nI z2) (nI t2)  s.heap.size) (cwV 1 hts gX8_restore_X5_become rfl rfl rfl (by decide +kernel) ⟨Nat.le_of_ble_eq_true rfl, Nat.le_of_ble_eq_true rfl⟩) (k_preV hE hZ hP hD hS hA [1, 2, 3, 4, 5, 6, 7, 8] rfl (by decide) (va_recv hE.1 hP (ci := 5) (q0 := 1) rfl rfl)) rfl rfl hl.1 rfl (lv_room (Nat.le_of_ble_eq_true rfl)) dX8_restore_18 ⟨Nat.le_of_ble_eq_true rfl, Nat.le_of_ble_eq_true rfl⟩) (fun w1 H locs hw hP hD hS => ?_)
    obtain rfl := hw
    have hP : va_P g.1 vwCl [(h0, .inr (8, [.ref pg, .int le, .ref rd, .int re, .ref sk, .ref si, .ref sy, .int sd, .ref ks, .ref ki, .int kp, .ref al, .ref dr])), (si, .inr (4, [.int (nI n), .ref q1, .ref q2, .ref q3])), (q1, ai g 6 A1), (q2, ai g 6 A2), (q3, az g 6 A3), (ki, .inr (4, [.int (nI n2), .ref r1, .ref r2, .ref r3])), (r1, ai g 6 B1), (r2, ai g 6 B2), (r3, az g 6 B3), (sk, .inr (5, [.int (nI z2), .int (nI t2), .ref s1, .ref s2, .ref s3])), (s1, ai g 6 (va_cpy K2 K 0 0 6)), (s2, ai g 6 (va_cpy L2 L 0 0 6)), (s3, ai g 96 (va_cpy V2 V 0 0 96)), (ks, .inr (5, [.int (nI z2), .int (nI t2), .ref o1, .ref o2, .ref o3])), (o1, ai g 6 K2), (o2, ai g 6 L2), (o3, ai g 96 V2)] H := hP
    have hD : va_D A [(h0, .inr (8, [.ref pg, .int le, .ref rd, .int re, .ref sk, .ref si, .ref sy, .int sd, .ref ks, .ref ki, .int kp, .ref al, .ref dr])), (si, .inr (4, [.int (nI n), .ref q1, .ref q2, .ref q3])), (q1, ai g 6 A1), (q2, ai g 6 A2), (q3, az g 6 A3), (ki, .inr (4, [.int (nI n2), .ref r1, .ref r2, .ref r3])), (r1, ai g 6 B1), (r2, ai g 6 B2), (r3, az g 6 B3), (sk, .inr (5, [.int (nI z2), .int (nI t2), .ref s1, .ref s2, .ref s3])), (s1, ai g 6 (va_cpy K2 K 0 0 6)), (s2, ai g 6 (va_cpy L2 L 0 0 6)), (s3, ai g 96 (va_cpy V2 V 0 0 96)), (ks, .inr (5, [.int (nI z2), .int (nI t2), .ref o1, .ref o2, .ref o3])), (o1, ai g 6 K2), (o2, ai g 6 L2), (o3, ai g 96 V2)] := hD
    refine lv_aload_n hx hb dX8_restore_21 rfl (lv_at hl 0 rfl) ?_
    refine va_get (D := g.1) (ci := 8) (v := .ref si) (C := RX8) (T := TX8) (N := 13) hx hb hts q_X8_restore_f_f8 hown hE.1 hP 0 rfl rfl 5 (by decide) (hts (.fieldLink RX8 30 "SoundLaws" "sightings" "LSoundLaws$Sightings;") q_X8_restore_f_4) (fun _ h9 => h9) rfl dX8_restore_22 ?_
    refine lv_aload_n hx hb dX8_restore_25 rfl (lv_at hl 0 rfl) ?_
    refine va_get (D := g.1) (ci := 8) (v := .ref ki) (C := RX8) (T := TX8) (N := 13) hx hb hts q_X8_restore_f_f8 hown hE.1 hP 0 rfl rfl 9 (by decide) (hts (.fieldLink RX8 44 "SoundLaws" "keptSightings" "LSoundLaws$Sightings;") q_X8_restore_f_5) (fun _ h9 => h9) rfl dX8_restore_26 ?_
    refine k_cv (wr := [(h0, .inr (8, [.ref pg, .int le, .ref rd, .int re, .ref sk, .ref si, .ref sy, .int sd, .ref ks, .ref ki, .int kp, .ref al, .ref dr])), (sk, .inr (5, [.int (nI z2), .int (nI t2), .ref s1, .ref s2, .ref s3])), (s1, ai g 6 (va_cpy K2 K 0 0 6)), (s2, ai g 6 (va_cpy L2 L 0 0 6)), (s3, ai g 96 (va_cpy V2 V 0 0 96)), (ks, .inr (5, [.int (nI z2), .int (nI t2), .ref o1, .ref o2, .ref o3])), (o1, ai g 6 K2), (o2, ai g 6 L2), (o3, ai g 96 V2)]) hP hD hS hA [1, 2, 3, 4, 5, 6, 7, 8] [0, 9, 10, 11, 12, 13, 14, 15, 16] rfl rfl (by decide) (by decide) (va_runV (As := [.ref ki]) (rest := []) ⟨hx, hb, hml, hown, hts⟩ (c_X4_become_g l g q1 q2 q3 si A1 A2 A3 r1 r2 r3 ki B1 B2 B3 (nI n) n2 (by first | assumption | omega) (by first | assumption | omega) H.size) (cwV 1 hts gX8_restore_X4_become rfl rfl rfl (by decide +kernel) ⟨Nat.le_of_ble_eq_true rfl, Nat.le_of_ble_eq_true rfl⟩) (k_preV hE hZ hP hD hS hA [1, 2, 3, 4, 5, 6, 7, 8] rfl (by decide) (va_recv hE.1 hP (ci := 4) (q0 := 1) rfl rfl)) rfl rfl hl.1 rfl (lv_room (Nat.le_of_ble_eq_true rfl)) dX8_restore_29 ⟨Nat.le_of_ble_eq_true rfl, Nat.le_of_ble_eq_true rfl⟩) (fun w1 H locs hw hP hD hS => ?_)
    obtain ⟨C1_4, C2_5, C3_6, rfl, e1_7, e2_8, e3_9⟩ := hw
    have hP : va_P g.1 vwCl [(h0, .inr (8, [.ref pg, .int le, .ref rd, .int re, .ref sk, .ref si, .ref sy, .int sd, .ref ks, .ref ki, .int kp, .ref al, .ref dr])), (sk, .inr (5, [.int (nI z2), .int (nI t2), .ref s1, .ref s2, .ref s3])), (s1, ai g 6 (va_cpy K2 K 0 0 6)), (s2, ai g 6 (va_cpy L2 L 0 0 6)), (s3, ai g 96 (va_cpy V2 V 0 0 96)), (ks, .inr (5, [.int (nI z2), .int (nI t2), .ref o1, .ref o2, .ref o3])), (o1, ai g 6 K2), (o2, ai g 6 L2), (o3, ai g 96 V2), (si, .inr (4, [.int (nI n2), .ref q1, .ref q2, .ref q3])), (q1, ai g 6 C1_4), (q2, ai g 6 C2_5), (q3, az g 6 C3_6), (ki, .inr (4, [.int (nI n2), .ref r1, .ref r2, .ref r3])), (r1, ai g 6 B1), (r2, ai g 6 B2), (r3, az g 6 B3)] H := hP
    have hD : va_D A [(h0, .inr (8, [.ref pg, .int le, .ref rd, .int re, .ref sk, .ref si, .ref sy, .int sd, .ref ks, .ref ki, .int kp, .ref al, .ref dr])), (sk, .inr (5, [.int (nI z2), .int (nI t2), .ref s1, .ref s2, .ref s3])), (s1, ai g 6 (va_cpy K2 K 0 0 6)), (s2, ai g 6 (va_cpy L2 L 0 0 6)), (s3, ai g 96 (va_cpy V2 V 0 0 96)), (ks, .inr (5, [.int (nI z2), .int (nI t2), .ref o1, .ref o2, .ref o3])), (o1, ai g 6 K2), (o2, ai g 6 L2), (o3, ai g 96 V2), (si, .inr (4, [.int (nI n2), .ref q1, .ref q2, .ref q3])), (q1, ai g 6 C1_4), (q2, ai g 6 C2_5), (q3, az g 6 C3_6), (ki, .inr (4, [.int (nI n2), .ref r1, .ref r2, .ref r3])), (r1, ai g 6 B1), (r2, ai g 6 B2), (r3, az g 6 B3)] := hD
    refine lv_aload_n hx hb dX8_restore_32 rfl (lv_at hl 0 rfl) ?_
    refine lv_iconst (v := 0) hx hb dX8_restore_33 (by decide) ?_
    refine va_put (D := g.1) (ci := 8) (v := .int 0) (ty := .boolean) (C := RX8) (T := TX8) (N := 13) hx hb hts q_X8_restore_f_f8 tyX8 tyX8_ok nmX8 hown hE.1 hP hD hS 0 rfl rfl 7 (by decide) (hts (.fieldLink RX8 87 "SoundLaws" "studied" "Z") q_X8_restore_f_6) (fun _ h9 => h9) rfl (by decide +kernel) rfl rfl (Nat.le_of_ble_eq_true rfl) dX8_restore_34 (fun H locs hP hD hS => ?_)
    have hP : va_P g.1 vwCl [(h0, .inr (8, [.ref pg, .int le, .ref rd, .int re, .ref sk, .ref si, .ref sy, .int 0, .ref ks, .ref ki, .int kp, .ref al, .ref dr])), (sk, .inr (5, [.int (nI z2), .int (nI t2), .ref s1, .ref s2, .ref s3])), (s1, ai g 6 (va_cpy K2 K 0 0 6)), (s2, ai g 6 (va_cpy L2 L 0 0 6)), (s3, ai g 96 (va_cpy V2 V 0 0 96)), (ks, .inr (5, [.int (nI z2), .int (nI t2), .ref o1, .ref o2, .ref o3])), (o1, ai g 6 K2), (o2, ai g 6 L2), (o3, ai g 96 V2), (si, .inr (4, [.int (nI n2), .ref q1, .ref q2, .ref q3])), (q1, ai g 6 C1_4), (q2, ai g 6 C2_5), (q3, az g 6 C3_6), (ki, .inr (4, [.int (nI n2), .ref r1, .ref r2, .ref r3])), (r1, ai g 6 B1), (r2, ai g 6 B2), (r3, az g 6 B3)] H := hP
    have hD : va_D A [(h0, .inr (8, [.ref pg, .int le, .ref rd, .int re, .ref sk, .ref si, .ref sy, .int 0, .ref ks, .ref ki, .int kp, .ref al, .ref dr])), (sk, .inr (5, [.int (nI z2), .int (nI t2), .ref s1, .ref s2, .ref s3])), (s1, ai g 6 (va_cpy K2 K 0 0 6)), (s2, ai g 6 (va_cpy L2 L 0 0 6)), (s3, ai g 96 (va_cpy V2 V 0 0 96)), (ks, .inr (5, [.int (nI z2), .int (nI t2), .ref o1, .ref o2, .ref o3])), (o1, ai g 6 K2), (o2, ai g 6 L2), (o3, ai g 96 V2), (si, .inr (4, [.int (nI n2), .ref q1, .ref q2, .ref q3])), (q1, ai g 6 C1_4), (q2, ai g 6 C2_5), (q3, az g 6 C3_6), (ki, .inr (4, [.int (nI n2), .ref r1, .ref r2, .ref r3])), (r1, ai g 6 B1), (r2, ai g 6 B2), (r3, az g 6 B3)] := hD
    refine lv_aload_n hx hb dX8_restore_37 rfl (lv_at hl 0 rfl) ?_
    refine va_get (D := g.1) (ci := 8) (v := .ref sk) (C := RX8) (T := TX8) (N := 13) hx hb hts q_X8_restore_f_f8 hown hE.1 hP 0 rfl rfl 4 (by decide) (hts (.fieldLink RX8 23 "SoundLaws" "stock" "LSoundLaws$Stock;") q_X8_restore_f_2) (fun _ h9 => h9) rfl dX8_restore_38 ?_
    refine va_get (D := g.1) (ci := 5) (v := .int (nI z2)) (C := RX5) (T := TX5) (N := 5) hx hb hts q_X8_restore_f_f5 hown hE.1 hP 1 rfl rfl 0 (by decide) (hts (.fieldLink RX8 93 "SoundLaws$Stock" "size" "I") q_X8_restore_f_8) (fun _ h9 => h9) rfl dX8_restore_41 ?_
    refine W.widen (k := 0) (n := 0) (Nat.le_of_ble_eq_true rfl) (Nat.le_of_ble_eq_true rfl) ?_
    exact k_ri hx hb hr hlocks hS hP hD ⟨0, z2, t2, n2, (va_cpy K2 K 0 0 6), (va_cpy L2 L 0 0 6), (va_cpy V2 V 0 0 96), C1_4, C2_5, C3_6, rfl, (if_neg c4_1), (gst_cpy hg2 hg), hn2, (fun i hi => by rw [e3_9 i hi]; exact hb2 i hi), Or.inr ⟨c4_1, rfl, rfl, rfl, rfl, (fun i hi => cpy_in hi), (fun i hi => cpy_in hi), (fun i hi => cpy_in hi)⟩⟩ dX8_restore_44
  · skip
    refine lv_bipush (v := (-103)) hx hb dX8_restore_7 (by decide) ?_
    refine W.widen (k := 0) (n := 0) (Nat.le_of_ble_eq_true rfl) (Nat.le_of_ble_eq_true rfl) ?_
    exact k_ri hx hb hr hlocks hS hP hD ⟨sd, z, t, n, K, L, V, A1, A2, A3, rfl, (if_pos c4_1), hg, hn, hb3, Or.inl ⟨c4_1, rfl, rfl, rfl, rfl, rfl, rfl, rfl⟩⟩ dX8_restore_9
def po_X9_image_f (g : GG) (k0 : Nat) (m0 : Nat) (s1 : Int32) (s2 : Int32) (s3 : Int32) (s4 : Int32) (s5 : Int32) (s6 : Int32) (m7 : Nat) (m8 : Nat) (m9 : Nat) (s12 : Int32) (m13 : Nat) (m14 : Nat) (m15 : Nat) (s16 : Int32) (m17 : Nat) (m18 : Nat) (m19 : Nat) (m20 : Nat) (m21 : Nat) (m22 : Nat) (m23 : Nat) (m24 : Nat) (m25 : Nat) (m26 : Nat) (m27 : Nat) (m28 : Nat) (m30 : Nat) (s31 : Int32) (s32 : Int32) (m36 : Nat) (m37 : Nat) (m38 : Nat) (m39 : Nat) (s40 : Int64) (z : Nat) (t : Nat) (n : Nat) (z3 : Nat) (t3 : Nat) (n3 : Nat) (K : Nat → Int32) (L : Nat → Int32) (V : Nat → Int32) (Kk : Nat → Int32) (Lk : Nat → Int32) (Vk : Nat → Int32) (Sg : Nat → Int32) (Sk : Nat → Int32) : Int32 → va_W → Prop := fun (r : Int32) w => ∃ (q32 : Int32) (z4 : Nat) (t4 : Nat) (n4 : Nat) (K4 : Nat → Int32) (L4 : Nat → Int32) (V4 : Nat → Int32) (S4 : Nat → Int32), w = [(k0, .inr (9, [.ref m0, .int s1, .int s2, .int s3, .int s4, .int s5, .int s6, .ref m7, .ref m8, .ref m9, .int (nI z), .int (nI t), .int s12, .ref m13, .ref m14, .ref m15, .int s16, .ref m17, .ref m18, .ref m19, .ref m20, .ref m21, .ref m22, .ref m23, .ref m24, .ref m25, .ref m26, .ref m27, .ref m28, .int (nI n), .ref m30, .int s31, .int q32, .int (nI z4), .int (nI t4), .int (nI n4), .ref m36, .ref m37, .ref m38, .ref m39, .long s40])), (m13, ai g 6 K), (m14, ai g 6 L), (m15, ai g 96 V), (m36, ai g 6 K4), (m37, ai g 6 L4), (m38, ai g 96 V4), (m30, ai g 18 Sg), (m39, ai g 18 S4)] ∧ (rIm z = r) ∧ (gst z4 t4 K4 L4 V4) ∧ (n4 ≤ 6) ∧ ((z = 0 ∧ q32 = s32 ∧ z4 = z3 ∧ t4 = t3 ∧ n4 = n3 ∧ K4 = Kk ∧ L4 = Lk ∧ V4 = Vk) ∨ (¬ z = 0 ∧ q32 = s12 ∧ z4 = z ∧ t4 = t ∧ n4 = n ∧ (∀ i, i < 6 → K4 i = K i) ∧ (∀ i, i < 6 → L4 i = L i) ∧ (∀ i, i < 96 → V4 i = V i)))
theorem q_X9_image_f_f9 : ∀ w ∈ u_ws RX9 TX9 41, w ∈ wsX9_image := by decide +kernel
theorem q_X9_image_f_1 : (Cond.fieldLink RX9 22 "SoundLawsModel" "kinds" "[I") ∈ wsX9_image := by decide +kernel
theorem q_X9_image_f_2 : (Cond.fieldLink RX9 70 "SoundLawsModel" "keptKinds" "[I") ∈ wsX9_image := by decide +kernel
theorem q_X9_image_f_3 : (Cond.fieldLink RX9 25 "SoundLawsModel" "longs" "[I") ∈ wsX9_image := by decide +kernel
theorem q_X9_image_f_4 : (Cond.fieldLink RX9 73 "SoundLawsModel" "keptLongs" "[I") ∈ wsX9_image := by decide +kernel
theorem q_X9_image_f_5 : (Cond.fieldLink RX9 28 "SoundLawsModel" "words" "[I") ∈ wsX9_image := by decide +kernel
theorem q_X9_image_f_6 : (Cond.fieldLink RX9 76 "SoundLawsModel" "keptWords" "[I") ∈ wsX9_image := by decide +kernel
theorem q_X9_image_f_7 : (Cond.fieldLink RX9 67 "SoundLawsModel" "sights" "[I") ∈ wsX9_image := by decide +kernel
theorem q_X9_image_f_8 : (Cond.fieldLink RX9 79 "SoundLawsModel" "keptSights" "[I") ∈ wsX9_image := by decide +kernel
theorem q_X9_image_f_9 : (Cond.fieldLink RX9 147 "SoundLawsModel" "sets" "I") ∈ wsX9_image := by decide +kernel
theorem q_X9_image_f_10 : (Cond.fieldLink RX9 299 "SoundLawsModel" "keptMany" "I") ∈ wsX9_image := by decide +kernel
theorem q_X9_image_f_11 : (Cond.fieldLink RX9 150 "SoundLawsModel" "tongues" "I") ∈ wsX9_image := by decide +kernel
theorem q_X9_image_f_12 : (Cond.fieldLink RX9 302 "SoundLawsModel" "keptTongues" "I") ∈ wsX9_image := by decide +kernel
theorem q_X9_image_f_13 : (Cond.fieldLink RX9 157 "SoundLawsModel" "seenMany" "I") ∈ wsX9_image := by decide +kernel
theorem q_X9_image_f_14 : (Cond.fieldLink RX9 305 "SoundLawsModel" "keptSeen" "I") ∈ wsX9_image := by decide +kernel
theorem q_X9_image_f_15 : (Cond.fieldLink RX9 160 "SoundLawsModel" "setsRead" "I") ∈ wsX9_image := by decide +kernel
theorem q_X9_image_f_16 : (Cond.fieldLink RX9 82 "SoundLawsModel" "keptSets" "I") ∈ wsX9_image := by decide +kernel
set_option maxHeartbeats 1500000 in
set_option maxRecDepth 100000 in
theorem c_X9_image_f (l : Launch) (g : GG) (k0 : Nat) (m0 : Nat) (s1 : Int32) (s2 : Int32) (s3 : Int32) (s4 : Int32) (s5 : Int32) (s6 : Int32) (m7 : Nat) (m8 : Nat) (m9 : Nat) (s12 : Int32) (m13 : Nat) (m14 : Nat) (m15 : Nat) (s16 : Int32) (m17 : Nat) (m18 : Nat) (m19 : Nat) (m20 : Nat) (m21 : Nat) (m22 : Nat) (m23 : Nat) (m24 : Nat) (m25 : Nat) (m26 : Nat) (m27 : Nat) (m28 : Nat) (m30 : Nat) (s31 : Int32) (s32 : Int32) (m36 : Nat) (m37 : Nat) (m38 : Nat) (m39 : Nat) (s40 : Int64) (z : Nat) (t : Nat) (n : Nat) (z3 : Nat) (t3 : Nat) (n3 : Nat) (K : Nat → Int32) (L : Nat → Int32) (V : Nat → Int32) (Kk : Nat → Int32) (Lk : Nat → Int32) (Vk : Nat → Int32) (Sg : Nat → Int32) (Sk : Nat → Int32) (hg : gst z t K L V) (hg3 : gst z3 t3 Kk Lk Vk) (hn : n ≤ 6) (hn3 : n3 ≤ 6) (hz9 : z ≤ 6) (sz : Nat) : MetI l yX9_image wsX9_image ({ frames := 1, cells := 0, slots := 0, locals := 22 }) g [.ref k0] [(k0, .inr (9, [.ref m0, .int s1, .int s2, .int s3, .int s4, .int s5, .int s6, .ref m7, .ref m8, .ref m9, .int (nI z), .int (nI t), .int s12, .ref m13, .ref m14, .ref m15, .int s16, .ref m17, .ref m18, .ref m19, .ref m20, .ref m21, .ref m22, .ref m23, .ref m24, .ref m25, .ref m26, .ref m27, .ref m28, .int (nI n), .ref m30, .int s31, .int s32, .int (nI z3), .int (nI t3), .int (nI n3), .ref m36, .ref m37, .ref m38, .ref m39, .long s40])), (m13, ai g 6 K), (m14, ai g 6 L), (m15, ai g 96 V), (m36, ai g 6 Kk), (m37, ai g 6 Lk), (m38, ai g 96 Vk), (m30, ai g 18 Sg), (m39, ai g 18 Sk)] sz (po_X9_image_f g k0 m0 s1 s2 s3 s4 s5 s6 m7 m8 m9 s12 m13 m14 m15 s16 m17 m18 m19 m20 m21 m22 m23 m24 m25 m26 m27 m28 m30 s31 s32 m36 m37 m38 m39 s40 z t n z3 t3 n3 K L V Kk Lk Vk Sg Sk) 0 0 := by
  refine k_of (l := l) (y := yX9_image) (ws := wsX9_image) (rm := { frames := 1, cells := 0, slots := 0, locals := 22 }) (mc := 0) (ms := 0) (av := [.ref k0]) (g := g) (wc := [(k0, .inr (9, [.ref m0, .int s1, .int s2, .int s3, .int s4, .int s5, .int s6, .ref m7, .ref m8, .ref m9, .int (nI z), .int (nI t), .int s12, .ref m13, .ref m14, .ref m15, .int s16, .ref m17, .ref m18, .ref m19, .ref m20, .ref m21, .ref m22, .ref m23, .ref m24, .ref m25, .ref m26, .ref m27, .ref m28, .int (nI n), .ref m30, .int s31, .int s32, .int (nI z3), .int (nI t3), .int (nI n3), .ref m36, .ref m37, .ref m38, .ref m39, .long s40])), (m13, ai g 6 K), (m14, ai g 6 L), (m15, ai g 96 V), (m36, ai g 6 Kk), (m37, ai g 6 Lk), (m38, ai g 96 Vk), (m30, ai g 18 Sg), (m39, ai g 18 Sk)]) (Qc := fun A => va_Qi (po_X9_image_f g k0 m0 s1 s2 s3 s4 s5 s6 m7 m8 m9 s12 m13 m14 m15 s16 m17 m18 m19 m20 m21 m22 m23 m24 m25 m26 m27 m28 m30 s31 s32 m36 m37 m38 m39 s40 z t n z3 t3 n3 K L V Kk Lk Vk Sg Sk) (bk g A) A) (cc := cX9_image) (maxL := 1) (ret := (some .int)) (by decide) rfl (Nat.le_of_ble_eq_true rfl) ?_ sz
  intro p e s m below meth c hx hb hr hts hown hlocks hnm hml A hA hE hZ hP hD hS ls hl
  have hown : s.vm.findClass RX9 = some m.cls := hown
  have hl : lv_has ls 1 [(0, .ref k0)] := hl
  refine lv_aload_n hx hb dX9_image_0 rfl (lv_at hl 0 rfl) ?_
  refine k_ci (wr := [(m13, ai g 6 K), (m14, ai g 6 L), (m15, ai g 96 V), (m36, ai g 6 Kk), (m37, ai g 6 Lk), (m38, ai g 96 Vk), (m30, ai g 18 Sg), (m39, ai g 18 Sk)]) hP hD hS hA [0] [1, 2, 3, 4, 5, 6, 7, 8] rfl rfl (by decide) (by decide) (va_runV (As := []) (rest := []) ⟨hx, hb, hml, hown, hts⟩ (c_X9_lacks_b l g k0 m0 s1 s2 s3 s4 s5 s6 m7 m8 m9 (nI t) s12 m13 m14 m15 s16 m17 m18 m19 m20 m21 m22 m23 m24 m25 m26 m27 m28 (nI n) m30 s31 s32 (nI z3) (nI t3) (nI n3) m36 m37 m38 m39 s40 z (by first | assumption | omega) s.heap.size) (cwV 0 hts gX9_image_X9_lacks rfl rfl rfl (by decide +kernel) ⟨Nat.le_of_ble_eq_true rfl, Nat.le_of_ble_eq_true rfl⟩) (k_preV hE hZ hP hD hS hA [0] rfl (by decide) (va_recv hE.1 hP (ci := 9) (q0 := 0) rfl rfl)) rfl rfl hl.1 rfl (lv_room (Nat.le_of_ble_eq_true rfl)) dX9_image_1 ⟨Nat.le_of_ble_eq_true rfl, Nat.le_of_ble_eq_true rfl⟩) (fun r_1 w1 H locs hw hP hD hS => ?_)
  obtain ⟨rfl, rfl⟩ := hw
  have hP : va_P g.1 vwCl [(m13, ai g 6 K), (m14, ai g 6 L), (m15, ai g 96 V), (m36, ai g 6 Kk), (m37, ai g 6 Lk), (m38, ai g 96 Vk), (m30, ai g 18 Sg), (m39, ai g 18 Sk), (k0, .inr (9, [.ref m0, .int s1, .int s2, .int s3, .int s4, .int s5, .int s6, .ref m7, .ref m8, .ref m9, .int (nI z), .int (nI t), .int s12, .ref m13, .ref m14, .ref m15, .int s16, .ref m17, .ref m18, .ref m19, .ref m20, .ref m21, .ref m22, .ref m23, .ref m24, .ref m25, .ref m26, .ref m27, .ref m28, .int (nI n), .ref m30, .int s31, .int s32, .int (nI z3), .int (nI t3), .int (nI n3), .ref m36, .ref m37, .ref m38, .ref m39, .long s40]))] H := hP
  have hD : va_D A [(m13, ai g 6 K), (m14, ai g 6 L), (m15, ai g 96 V), (m36, ai g 6 Kk), (m37, ai g 6 Lk), (m38, ai g 96 Vk), (m30, ai g 18 Sg), (m39, ai g 18 Sk), (k0, .inr (9, [.ref m0, .int s1, .int s2, .int s3, .int s4, .int s5, .int s6, .ref m7, .ref m8, .ref m9, .int (nI z), .int (nI t), .int s12, .ref m13, .ref m14, .ref m15, .int s16, .ref m17, .ref m18, .ref m19, .ref m20, .ref m21, .ref m22, .ref m23, .ref m24, .ref m25, .ref m26, .ref m27, .ref m28, .int (nI n), .ref m30, .int s31, .int s32, .int (nI z3), .int (nI t3), .int (nI n3), .ref m36, .ref m37, .ref m38, .ref m39, .long s40]))] := hD
  refine lv_if_eq (tgt := 10) hx hb dX9_image_4 (by decide) (fun c4_3 => ?_) (fun c4_3 => ?_)
  · skip
    refine lv_aload_n hx hb dX9_image_10 rfl (lv_at hl 0 rfl) ?_
    refine va_get (D := g.1) (ci := 9) (v := .ref m13) (C := RX9) (T := TX9) (N := 41) hx hb hts q_X9_image_f_f9 hown hE.1 hP 8 rfl rfl 13 (by decide) (hts (.fieldLink RX9 22 "SoundLawsModel" "kinds" "[I") q_X9_image_f_1) (fun _ h9 => h9) rfl dX9_image_11 ?_
    refine lv_aload_n hx hb dX9_image_14 rfl (lv_at hl 0 rfl) ?_
    refine va_get (D := g.1) (ci := 9) (v := .ref m36) (C := RX9) (T := TX9) (N := 41) hx hb hts q_X9_image_f_f9 hown hE.1 hP 8 rfl rfl 36 (by decide) (hts (.fieldLink RX9 70 "SoundLawsModel" "keptKinds" "[I") q_X9_image_f_2) (fun _ h9 => h9) rfl dX9_image_15 ?_
    refine k_cv (wr := [(m14, ai g 6 L), (m15, ai g 96 V), (m37, ai g 6 Lk), (m38, ai g 96 Vk), (m30, ai g 18 Sg), (m39, ai g 18 Sk), (k0, .inr (9, [.ref m0, .int s1, .int s2, .int s3, .int s4, .int s5, .int s6, .ref m7, .ref m8, .ref m9, .int (nI z), .int (nI t), .int s12, .ref m13, .ref m14, .ref m15, .int s16, .ref m17, .ref m18, .ref m19, .ref m20, .ref m21, .ref m22, .ref m23, .ref m24, .ref m25, .ref m26, .ref m27, .ref m28, .int (nI n), .ref m30, .int s31, .int s32, .int (nI z3), .int (nI t3), .int (nI n3), .ref m36, .ref m37, .ref m38, .ref m39, .long s40]))]) hP hD hS hA [0, 3] [1, 2, 4, 5, 6, 7, 8] rfl rfl (by decide) (by decide) (va_runS (As := [.ref m13, .ref m36]) (rest := []) ⟨hx, hb, hml, hown, hts⟩ (c_X9_copyRow_6 l g m13 m36 K Kk  H.size) (va_cwS 2 hts gX9_image_X9_copyRow rfl rfl rfl (by decide +kernel) ⟨Nat.le_of_ble_eq_true rfl, Nat.le_of_ble_eq_true rfl⟩) (k_preS hE hZ hP hD hS hA [0, 3] rfl (by decide)) rfl rfl hl.1 rfl (lv_room (Nat.le_of_ble_eq_true rfl)) dX9_image_18 ⟨Nat.le_of_ble_eq_true rfl, Nat.le_of_ble_eq_true rfl⟩) (fun w1 H locs hw hP hD hS => ?_)
    obtain ⟨M2_5, rfl, hM_6⟩ := hw
    have hP : va_P g.1 vwCl [(m14, ai g 6 L), (m15, ai g 96 V), (m37, ai g 6 Lk), (m38, ai g 96 Vk), (m30, ai g 18 Sg), (m39, ai g 18 Sk), (k0, .inr (9, [.ref m0, .int s1, .int s2, .int s3, .int s4, .int s5, .int s6, .ref m7, .ref m8, .ref m9, .int (nI z), .int (nI t), .int s12, .ref m13, .ref m14, .ref m15, .int s16, .ref m17, .ref m18, .ref m19, .ref m20, .ref m21, .ref m22, .ref m23, .ref m24, .ref m25, .ref m26, .ref m27, .ref m28, .int (nI n), .ref m30, .int s31, .int s32, .int (nI z3), .int (nI t3), .int (nI n3), .ref m36, .ref m37, .ref m38, .ref m39, .long s40])), (m13, ai g 6 K), (m36, ai g 6 M2_5)] H := hP
    have hD : va_D A [(m14, ai g 6 L), (m15, ai g 96 V), (m37, ai g 6 Lk), (m38, ai g 96 Vk), (m30, ai g 18 Sg), (m39, ai g 18 Sk), (k0, .inr (9, [.ref m0, .int s1, .int s2, .int s3, .int s4, .int s5, .int s6, .ref m7, .ref m8, .ref m9, .int (nI z), .int (nI t), .int s12, .ref m13, .ref m14, .ref m15, .int s16, .ref m17, .ref m18, .ref m19, .ref m20, .ref m21, .ref m22, .ref m23, .ref m24, .ref m25, .ref m26, .ref m27, .ref m28, .int (nI n), .ref m30, .int s31, .int s32, .int (nI z3), .int (nI t3), .int (nI n3), .ref m36, .ref m37, .ref m38, .ref m39, .long s40])), (m13, ai g 6 K), (m36, ai g 6 M2_5)] := hD
    refine lv_aload_n hx hb dX9_image_21 rfl (lv_at hl 0 rfl) ?_
    refine va_get (D := g.1) (ci := 9) (v := .ref m14) (C := RX9) (T := TX9) (N := 41) hx hb hts q_X9_image_f_f9 hown hE.1 hP 6 rfl rfl 14 (by decide) (hts (.fieldLink RX9 25 "SoundLawsModel" "longs" "[I") q_X9_image_f_3) (fun _ h9 => h9) rfl dX9_image_22 ?_
    refine lv_aload_n hx hb dX9_image_25 rfl (lv_at hl 0 rfl) ?_
    refine va_get (D := g.1) (ci := 9) (v := .ref m37) (C := RX9) (T := TX9) (N := 41) hx hb hts q_X9_image_f_f9 hown hE.1 hP 6 rfl rfl 37 (by decide) (hts (.fieldLink RX9 73 "SoundLawsModel" "keptLongs" "[I") q_X9_image_f_4) (fun _ h9 => h9) rfl dX9_image_26 ?_
    refine k_cv (wr := [(m15, ai g 96 V), (m38, ai g 96 Vk), (m30, ai g 18 Sg), (m39, ai g 18 Sk), (k0, .inr (9, [.ref m0, .int s1, .int s2, .int s3, .int s4, .int s5, .int s6, .ref m7, .ref m8, .ref m9, .int (nI z), .int (nI t), .int s12, .ref m13, .ref m14, .ref m15, .int s16, .ref m17, .ref m18, .ref m19, .ref m20, .ref m21, .ref m22, .ref m23, .ref m24, .ref m25, .ref m26, .ref m27, .ref m28, .int (nI n), .ref m30, .int s31, .int s32, .int (nI z3), .int (nI t3), .int (nI n3), .ref m36, .ref m37, .ref m38, .ref m39, .long s40])), (m13, ai g 6 K), (m36, ai g 6 M2_5)]) hP hD hS hA [0, 2] [1, 3, 4, 5, 6, 7, 8] rfl rfl (by decide) (by decide) (va_runS (As := [.ref m14, .ref m37]) (rest := []) ⟨hx, hb, hml, hown, hts⟩ (c_X9_copyRow_6 l g m14 m37 L Lk  H.size) (va_cwS 2 hts gX9_image_X9_copyRow rfl rfl rfl (by decide +kernel) ⟨Nat.le_of_ble_eq_true rfl, Nat.le_of_ble_eq_true rfl⟩) (k_preS hE hZ hP hD hS hA [0, 2] rfl (by decide)) rfl rfl hl.1 rfl (lv_room (Nat.le_of_ble_eq_true rfl)) dX9_image_29 ⟨Nat.le_of_ble_eq_true rfl, Nat.le_of_ble_eq_true rfl⟩) (fun w1 H locs hw hP hD hS => ?_)
    obtain ⟨M2_8, rfl, hM_9⟩ := hw
    have hP : va_P g.1 vwCl [(m15, ai g 96 V), (m38, ai g 96 Vk), (m30, ai g 18 Sg), (m39, ai g 18 Sk), (k0, .inr (9, [.ref m0, .int s1, .int s2, .int s3, .int s4, .int s5, .int s6, .ref m7, .ref m8, .ref m9, .int (nI z), .int (nI t), .int s12, .ref m13, .ref m14, .ref m15, .int s16, .ref m17, .ref m18, .ref m19, .ref m20, .ref m21, .ref m22, .ref m23, .ref m24, .ref m25, .ref m26, .ref m27, .ref m28, .int (nI n), .ref m30, .int s31, .int s32, .int (nI z3), .int (nI t3), .int (nI n3), .ref m36, .ref m37, .ref m38, .ref m39, .long s40])), (m13, ai g 6 K), (m36, ai g 6 M2_5), (m14, ai g 6 L), (m37, ai g 6 M2_8)] H := hP
    have hD : va_D A [(m15, ai g 96 V), (m38, ai g 96 Vk), (m30, ai g 18 Sg), (m39, ai g 18 Sk), (k0, .inr (9, [.ref m0, .int s1, .int s2, .int s3, .int s4, .int s5, .int s6, .ref m7, .ref m8, .ref m9, .int (nI z), .int (nI t), .int s12, .ref m13, .ref m14, .ref m15, .int s16, .ref m17, .ref m18, .ref m19, .ref m20, .ref m21, .ref m22, .ref m23, .ref m24, .ref m25, .ref m26, .ref m27, .ref m28, .int (nI n), .ref m30, .int s31, .int s32, .int (nI z3), .int (nI t3), .int (nI n3), .ref m36, .ref m37, .ref m38, .ref m39, .long s40])), (m13, ai g 6 K), (m36, ai g 6 M2_5), (m14, ai g 6 L), (m37, ai g 6 M2_8)] := hD
    refine lv_aload_n hx hb dX9_image_32 rfl (lv_at hl 0 rfl) ?_
    refine va_get (D := g.1) (ci := 9) (v := .ref m15) (C := RX9) (T := TX9) (N := 41) hx hb hts q_X9_image_f_f9 hown hE.1 hP 4 rfl rfl 15 (by decide) (hts (.fieldLink RX9 28 "SoundLawsModel" "words" "[I") q_X9_image_f_5) (fun _ h9 => h9) rfl dX9_image_33 ?_
    refine lv_aload_n hx hb dX9_image_36 rfl (lv_at hl 0 rfl) ?_
    refine va_get (D := g.1) (ci := 9) (v := .ref m38) (C := RX9) (T := TX9) (N := 41) hx hb hts q_X9_image_f_f9 hown hE.1 hP 4 rfl rfl 38 (by decide) (hts (.fieldLink RX9 76 "SoundLawsModel" "keptWords" "[I") q_X9_image_f_6) (fun _ h9 => h9) rfl dX9_image_37 ?_
    refine k_cv (wr := [(m30, ai g 18 Sg), (m39, ai g 18 Sk), (k0, .inr (9, [.ref m0, .int s1, .int s2, .int s3, .int s4, .int s5, .int s6, .ref m7, .ref m8, .ref m9, .int (nI z), .int (nI t), .int s12, .ref m13, .ref m14, .ref m15, .int s16, .ref m17, .ref m18, .ref m19, .ref m20, .ref m21, .ref m22, .ref m23, .ref m24, .ref m25, .ref m26, .ref m27, .ref m28, .int (nI n), .ref m30, .int s31, .int s32, .int (nI z3), .int (nI t3), .int (nI n3), .ref m36, .ref m37, .ref m38, .ref m39, .long s40])), (m13, ai g 6 K), (m36, ai g 6 M2_5), (m14, ai g 6 L), (m37, ai g 6 M2_8)]) hP hD hS hA [0, 1] [2, 3, 4, 5, 6, 7, 8] rfl rfl (by decide) (by decide) (va_runS (As := [.ref m15, .ref m38]) (rest := []) ⟨hx, hb, hml, hown, hts⟩ (c_X9_copyRow_96 l g m15 m38 V Vk  H.size) (va_cwS 2 hts gX9_image_X9_copyRow rfl rfl rfl (by decide +kernel) ⟨Nat.le_of_ble_eq_true rfl, Nat.le_of_ble_eq_true rfl⟩) (k_preS hE hZ hP hD hS hA [0, 1] rfl (by decide)) rfl rfl hl.1 rfl (lv_room (Nat.le_of_ble_eq_true rfl)) dX9_image_40 ⟨Nat.le_of_ble_eq_true rfl, Nat.le_of_ble_eq_true rfl⟩) (fun w1 H locs hw hP hD hS => ?_)
    obtain ⟨M2_11, rfl, hM_12⟩ := hw
    have hP : va_P g.1 vwCl [(m30, ai g 18 Sg), (m39, ai g 18 Sk), (k0, .inr (9, [.ref m0, .int s1, .int s2, .int s3, .int s4, .int s5, .int s6, .ref m7, .ref m8, .ref m9, .int (nI z), .int (nI t), .int s12, .ref m13, .ref m14, .ref m15, .int s16, .ref m17, .ref m18, .ref m19, .ref m20, .ref m21, .ref m22, .ref m23, .ref m24, .ref m25, .ref m26, .ref m27, .ref m28, .int (nI n), .ref m30, .int s31, .int s32, .int (nI z3), .int (nI t3), .int (nI n3), .ref m36, .ref m37, .ref m38, .ref m39, .long s40])), (m13, ai g 6 K), (m36, ai g 6 M2_5), (m14, ai g 6 L), (m37, ai g 6 M2_8), (m15, ai g 96 V), (m38, ai g 96 M2_11)] H := hP
    have hD : va_D A [(m30, ai g 18 Sg), (m39, ai g 18 Sk), (k0, .inr (9, [.ref m0, .int s1, .int s2, .int s3, .int s4, .int s5, .int s6, .ref m7, .ref m8, .ref m9, .int (nI z), .int (nI t), .int s12, .ref m13, .ref m14, .ref m15, .int s16, .ref m17, .ref m18, .ref m19, .ref m20, .ref m21, .ref m22, .ref m23, .ref m24, .ref m25, .ref m26, .ref m27, .ref m28, .int (nI n), .ref m30, .int s31, .int s32, .int (nI z3), .int (nI t3), .int (nI n3), .ref m36, .ref m37, .ref m38, .ref m39, .long s40])), (m13, ai g 6 K), (m36, ai g 6 M2_5), (m14, ai g 6 L), (m37, ai g 6 M2_8), (m15, ai g 96 V), (m38, ai g 96 M2_11)] := hD
    refine lv_aload_n hx hb dX9_image_43 rfl (lv_at hl 0 rfl) ?_
    refine va_get (D := g.1) (ci := 9) (v := .ref m30) (C := RX9) (T := TX9) (N := 41) hx hb hts q_X9_image_f_f9 hown hE.1 hP 2 rfl rfl 30 (by decide) (hts (.fieldLink RX9 67 "SoundLawsModel" "sights" "[I") q_X9_image_f_7) (fun _ h9 => h9) rfl dX9_image_44 ?_
    refine lv_aload_n hx hb dX9_image_47 rfl (lv_at hl 0 rfl) ?_
    refine va_get (D := g.1) (ci := 9) (v := .ref m39) (C := RX9) (T := TX9) (N := 41) hx hb hts q_X9_image_f_f9 hown hE.1 hP 2 rfl rfl 39 (by decide) (hts (.fieldLink RX9 79 "SoundLawsModel" "keptSights" "[I") q_X9_image_f_8) (fun _ h9 => h9) rfl dX9_image_48 ?_
    refine k_cv (wr := [(k0, .inr (9, [.ref m0, .int s1, .int s2, .int s3, .int s4, .int s5, .int s6, .ref m7, .ref m8, .ref m9, .int (nI z), .int (nI t), .int s12, .ref m13, .ref m14, .ref m15, .int s16, .ref m17, .ref m18, .ref m19, .ref m20, .ref m21, .ref m22, .ref m23, .ref m24, .ref m25, .ref m26, .ref m27, .ref m28, .int (nI n), .ref m30, .int s31, .int s32, .int (nI z3), .int (nI t3), .int (nI n3), .ref m36, .ref m37, .ref m38, .ref m39, .long s40])), (m13, ai g 6 K), (m36, ai g 6 M2_5), (m14, ai g 6 L), (m37, ai g 6 M2_8), (m15, ai g 96 V), (m38, ai g 96 M2_11)]) hP hD hS hA [0, 1] [2, 3, 4, 5, 6, 7, 8] rfl rfl (by decide) (by decide) (va_runS (As := [.ref m30, .ref m39]) (rest := []) ⟨hx, hb, hml, hown, hts⟩ (c_X9_copyRow_18 l g m30 m39 Sg Sk  H.size) (va_cwS 2 hts gX9_image_X9_copyRow rfl rfl rfl (by decide +kernel) ⟨Nat.le_of_ble_eq_true rfl, Nat.le_of_ble_eq_true rfl⟩) (k_preS hE hZ hP hD hS hA [0, 1] rfl (by decide)) rfl rfl hl.1 rfl (lv_room (Nat.le_of_ble_eq_true rfl)) dX9_image_51 ⟨Nat.le_of_ble_eq_true rfl, Nat.le_of_ble_eq_true rfl⟩) (fun w1 H locs hw hP hD hS => ?_)
    obtain ⟨M2_14, rfl, hM_15⟩ := hw
    have hP : va_P g.1 vwCl [(k0, .inr (9, [.ref m0, .int s1, .int s2, .int s3, .int s4, .int s5, .int s6, .ref m7, .ref m8, .ref m9, .int (nI z), .int (nI t), .int s12, .ref m13, .ref m14, .ref m15, .int s16, .ref m17, .ref m18, .ref m19, .ref m20, .ref m21, .ref m22, .ref m23, .ref m24, .ref m25, .ref m26, .ref m27, .ref m28, .int (nI n), .ref m30, .int s31, .int s32, .int (nI z3), .int (nI t3), .int (nI n3), .ref m36, .ref m37, .ref m38, .ref m39, .long s40])), (m13, ai g 6 K), (m36, ai g 6 M2_5), (m14, ai g 6 L), (m37, ai g 6 M2_8), (m15, ai g 96 V), (m38, ai g 96 M2_11), (m30, ai g 18 Sg), (m39, ai g 18 M2_14)] H := hP
    have hD : va_D A [(k0, .inr (9, [.ref m0, .int s1, .int s2, .int s3, .int s4, .int s5, .int s6, .ref m7, .ref m8, .ref m9, .int (nI z), .int (nI t), .int s12, .ref m13, .ref m14, .ref m15, .int s16, .ref m17, .ref m18, .ref m19, .ref m20, .ref m21, .ref m22, .ref m23, .ref m24, .ref m25, .ref m26, .ref m27, .ref m28, .int (nI n), .ref m30, .int s31, .int s32, .int (nI z3), .int (nI t3), .int (nI n3), .ref m36, .ref m37, .ref m38, .ref m39, .long s40])), (m13, ai g 6 K), (m36, ai g 6 M2_5), (m14, ai g 6 L), (m37, ai g 6 M2_8), (m15, ai g 96 V), (m38, ai g 96 M2_11), (m30, ai g 18 Sg), (m39, ai g 18 M2_14)] := hD
    refine lv_aload_n hx hb dX9_image_54 rfl (lv_at hl 0 rfl) ?_
    refine lv_aload_n hx hb dX9_image_55 rfl (lv_at hl 0 rfl) ?_
    refine va_get (D := g.1) (ci := 9) (v := .int (nI z)) (C := RX9) (T := TX9) (N := 41) hx hb hts q_X9_image_f_f9 hown hE.1 hP 0 rfl rfl 10 (by decide) (hts (.fieldLink RX9 147 "SoundLawsModel" "sets" "I") q_X9_image_f_9) (fun _ h9 => h9) rfl dX9_image_56 ?_
    refine va_put (D := g.1) (ci := 9) (v := .int (nI z)) (ty := .int) (C := RX9) (T := TX9) (N := 41) hx hb hts q_X9_image_f_f9 tyX9 tyX9_ok nmX9 hown hE.1 hP hD hS 0 rfl rfl 33 (by decide) (hts (.fieldLink RX9 299 "SoundLawsModel" "keptMany" "I") q_X9_image_f_10) (fun _ h9 => h9) rfl (by decide +kernel) rfl rfl (Nat.le_of_ble_eq_true rfl) dX9_image_59 (fun H locs hP hD hS => ?_)
    have hP : va_P g.1 vwCl [(k0, .inr (9, [.ref m0, .int s1, .int s2, .int s3, .int s4, .int s5, .int s6, .ref m7, .ref m8, .ref m9, .int (nI z), .int (nI t), .int s12, .ref m13, .ref m14, .ref m15, .int s16, .ref m17, .ref m18, .ref m19, .ref m20, .ref m21, .ref m22, .ref m23, .ref m24, .ref m25, .ref m26, .ref m27, .ref m28, .int (nI n), .ref m30, .int s31, .int s32, .int (nI z), .int (nI t3), .int (nI n3), .ref m36, .ref m37, .ref m38, .ref m39, .long s40])), (m13, ai g 6 K), (m36, ai g 6 M2_5), (m14, ai g 6 L), (m37, ai g 6 M2_8), (m15, ai g 96 V), (m38, ai g 96 M2_11), (m30, ai g 18 Sg), (m39, ai g 18 M2_14)] H := hP
    have hD : va_D A [(k0, .inr (9, [.ref m0, .int s1, .int s2, .int s3, .int s4, .int s5, .int s6, .ref m7, .ref m8, .ref m9, .int (nI z), .int (nI t), .int s12, .ref m13, .ref m14, .ref m15, .int s16, .ref m17, .ref m18, .ref m19, .ref m20, .ref m21, .ref m22, .ref m23, .ref m24, .ref m25, .ref m26, .ref m27, .ref m28, .int (nI n), .ref m30, .int s31, .int s32, .int (nI z), .int (nI t3), .int (nI n3), .ref m36, .ref m37, .ref m38, .ref m39, .long s40])), (m13, ai g 6 K), (m36, ai g 6 M2_5), (m14, ai g 6 L), (m37, ai g 6 M2_8), (m15, ai g 96 V), (m38, ai g 96 M2_11), (m30, ai g 18 Sg), (m39, ai g 18 M2_14)] := hD
    refine lv_aload_n hx hb dX9_image_62 rfl (lv_at hl 0 rfl) ?_
    refine lv_aload_n hx hb dX9_image_63 rfl (lv_at hl 0 rfl) ?_
    refine va_get (D := g.1) (ci := 9) (v := .int (nI t)) (C := RX9) (T := TX9) (N := 41) hx hb hts q_X9_image_f_f9 hown hE.1 hP 0 rfl rfl 11 (by decide) (hts (.fieldLink RX9 150 "SoundLawsModel" "tongues" "I") q_X9_image_f_11) (fun _ h9 => h9) rfl dX9_image_64 ?_
    refine va_put (D := g.1) (ci := 9) (v := .int (nI t)) (ty := .int) (C := RX9) (T := TX9) (N := 41) hx hb hts q_X9_image_f_f9 tyX9 tyX9_ok nmX9 hown hE.1 hP hD hS 0 rfl rfl 34 (by decide) (hts (.fieldLink RX9 302 "SoundLawsModel" "keptTongues" "I") q_X9_image_f_12) (fun _ h9 => h9) rfl (by decide +kernel) rfl rfl (Nat.le_of_ble_eq_true rfl) dX9_image_67 (fun H locs hP hD hS => ?_)
    have hP : va_P g.1 vwCl [(k0, .inr (9, [.ref m0, .int s1, .int s2, .int s3, .int s4, .int s5, .int s6, .ref m7, .ref m8, .ref m9, .int (nI z), .int (nI t), .int s12, .ref m13, .ref m14, .ref m15, .int s16, .ref m17, .ref m18, .ref m19, .ref m20, .ref m21, .ref m22, .ref m23, .ref m24, .ref m25, .ref m26, .ref m27, .ref m28, .int (nI n), .ref m30, .int s31, .int s32, .int (nI z), .int (nI t), .int (nI n3), .ref m36, .ref m37, .ref m38, .ref m39, .long s40])), (m13, ai g 6 K), (m36, ai g 6 M2_5), (m14, ai g 6 L), (m37, ai g 6 M2_8), (m15, ai g 96 V), (m38, ai g 96 M2_11), (m30, ai g 18 Sg), (m39, ai g 18 M2_14)] H := hP
    have hD : va_D A [(k0, .inr (9, [.ref m0, .int s1, .int s2, .int s3, .int s4, .int s5, .int s6, .ref m7, .ref m8, .ref m9, .int (nI z), .int (nI t), .int s12, .ref m13, .ref m14, .ref m15, .int s16, .ref m17, .ref m18, .ref m19, .ref m20, .ref m21, .ref m22, .ref m23, .ref m24, .ref m25, .ref m26, .ref m27, .ref m28, .int (nI n), .ref m30, .int s31, .int s32, .int (nI z), .int (nI t), .int (nI n3), .ref m36, .ref m37, .ref m38, .ref m39, .long s40])), (m13, ai g 6 K), (m36, ai g 6 M2_5), (m14, ai g 6 L), (m37, ai g 6 M2_8), (m15, ai g 96 V), (m38, ai g 96 M2_11), (m30, ai g 18 Sg), (m39, ai g 18 M2_14)] := hD
    refine lv_aload_n hx hb dX9_image_70 rfl (lv_at hl 0 rfl) ?_
    refine lv_aload_n hx hb dX9_image_71 rfl (lv_at hl 0 rfl) ?_
    refine va_get (D := g.1) (ci := 9) (v := .int (nI n)) (C := RX9) (T := TX9) (N := 41) hx hb hts q_X9_image_f_f9 hown hE.1 hP 0 rfl rfl 29 (by decide) (hts (.fieldLink RX9 157 "SoundLawsModel" "seenMany" "I") q_X9_image_f_13) (fun _ h9 => h9) rfl dX9_image_72 ?_
    refine va_put (D := g.1) (ci := 9) (v := .int (nI n)) (ty := .int) (C := RX9) (T := TX9) (N := 41) hx hb hts q_X9_image_f_f9 tyX9 tyX9_ok nmX9 hown hE.1 hP hD hS 0 rfl rfl 35 (by decide) (hts (.fieldLink RX9 305 "SoundLawsModel" "keptSeen" "I") q_X9_image_f_14) (fun _ h9 => h9) rfl (by decide +kernel) rfl rfl (Nat.le_of_ble_eq_true rfl) dX9_image_75 (fun H locs hP hD hS => ?_)
    have hP : va_P g.1 vwCl [(k0, .inr (9, [.ref m0, .int s1, .int s2, .int s3, .int s4, .int s5, .int s6, .ref m7, .ref m8, .ref m9, .int (nI z), .int (nI t), .int s12, .ref m13, .ref m14, .ref m15, .int s16, .ref m17, .ref m18, .ref m19, .ref m20, .ref m21, .ref m22, .ref m23, .ref m24, .ref m25, .ref m26, .ref m27, .ref m28, .int (nI n), .ref m30, .int s31, .int s32, .int (nI z), .int (nI t), .int (nI n), .ref m36, .ref m37, .ref m38, .ref m39, .long s40])), (m13, ai g 6 K), (m36, ai g 6 M2_5), (m14, ai g 6 L), (m37, ai g 6 M2_8), (m15, ai g 96 V), (m38, ai g 96 M2_11), (m30, ai g 18 Sg), (m39, ai g 18 M2_14)] H := hP
    have hD : va_D A [(k0, .inr (9, [.ref m0, .int s1, .int s2, .int s3, .int s4, .int s5, .int s6, .ref m7, .ref m8, .ref m9, .int (nI z), .int (nI t), .int s12, .ref m13, .ref m14, .ref m15, .int s16, .ref m17, .ref m18, .ref m19, .ref m20, .ref m21, .ref m22, .ref m23, .ref m24, .ref m25, .ref m26, .ref m27, .ref m28, .int (nI n), .ref m30, .int s31, .int s32, .int (nI z), .int (nI t), .int (nI n), .ref m36, .ref m37, .ref m38, .ref m39, .long s40])), (m13, ai g 6 K), (m36, ai g 6 M2_5), (m14, ai g 6 L), (m37, ai g 6 M2_8), (m15, ai g 96 V), (m38, ai g 96 M2_11), (m30, ai g 18 Sg), (m39, ai g 18 M2_14)] := hD
    refine lv_aload_n hx hb dX9_image_78 rfl (lv_at hl 0 rfl) ?_
    refine lv_aload_n hx hb dX9_image_79 rfl (lv_at hl 0 rfl) ?_
    refine va_get (D := g.1) (ci := 9) (v := .int s12) (C := RX9) (T := TX9) (N := 41) hx hb hts q_X9_image_f_f9 hown hE.1 hP 0 rfl rfl 12 (by decide) (hts (.fieldLink RX9 160 "SoundLawsModel" "setsRead" "I") q_X9_image_f_15) (fun _ h9 => h9) rfl dX9_image_80 ?_
    refine va_put (D := g.1) (ci := 9) (v := .int s12) (ty := .int) (C := RX9) (T := TX9) (N := 41) hx hb hts q_X9_image_f_f9 tyX9 tyX9_ok nmX9 hown hE.1 hP hD hS 0 rfl rfl 32 (by decide) (hts (.fieldLink RX9 82 "SoundLawsModel" "keptSets" "I") q_X9_image_f_16) (fun _ h9 => h9) rfl (by decide +kernel) rfl rfl (Nat.le_of_ble_eq_true rfl) dX9_image_83 (fun H locs hP hD hS => ?_)
    have hP : va_P g.1 vwCl [(k0, .inr (9, [.ref m0, .int s1, .int s2, .int s3, .int s4, .int s5, .int s6, .ref m7, .ref m8, .ref m9, .int (nI z), .int (nI t), .int s12, .ref m13, .ref m14, .ref m15, .int s16, .ref m17, .ref m18, .ref m19, .ref m20, .ref m21, .ref m22, .ref m23, .ref m24, .ref m25, .ref m26, .ref m27, .ref m28, .int (nI n), .ref m30, .int s31, .int s12, .int (nI z), .int (nI t), .int (nI n), .ref m36, .ref m37, .ref m38, .ref m39, .long s40])), (m13, ai g 6 K), (m36, ai g 6 M2_5), (m14, ai g 6 L), (m37, ai g 6 M2_8), (m15, ai g 96 V), (m38, ai g 96 M2_11), (m30, ai g 18 Sg), (m39, ai g 18 M2_14)] H := hP
    have hD : va_D A [(k0, .inr (9, [.ref m0, .int s1, .int s2, .int s3, .int s4, .int s5, .int s6, .ref m7, .ref m8, .ref m9, .int (nI z), .int (nI t), .int s12, .ref m13, .ref m14, .ref m15, .int s16, .ref m17, .ref m18, .ref m19, .ref m20, .ref m21, .ref m22, .ref m23, .ref m24, .ref m25, .ref m26, .ref m27, .ref m28, .int (nI n), .ref m30, .int s31, .int s12, .int (nI z), .int (nI t), .int (nI n), .ref m36, .ref m37, .ref m38, .ref m39, .long s40])), (m13, ai g 6 K), (m36, ai g 6 M2_5), (m14, ai g 6 L), (m37, ai g 6 M2_8), (m15, ai g 96 V), (m38, ai g 96 M2_11), (m30, ai g 18 Sg), (m39, ai g 18 M2_14)] := hD
    refine lv_aload_n hx hb dX9_image_86 rfl (lv_at hl 0 rfl) ?_
    refine va_get (D := g.1) (ci := 9) (v := .int (nI z)) (C := RX9) (T := TX9) (N := 41) hx hb hts q_X9_image_f_f9 hown hE.1 hP 0 rfl rfl 10 (by decide) (hts (.fieldLink RX9 147 "SoundLawsModel" "sets" "I") q_X9_image_f_9) (fun _ h9 => h9) rfl dX9_image_87 ?_
    refine W.widen (k := 0) (n := 0) (Nat.le_of_ble_eq_true rfl) (Nat.le_of_ble_eq_true rfl) ?_
    have hP9 := hP.sub (ws' := [(k0, .inr (9, [.ref m0, .int s1, .int s2, .int s3, .int s4, .int s5, .int s6, .ref m7, .ref m8, .ref m9, .int (nI z), .int (nI t), .int s12, .ref m13, .ref m14, .ref m15, .int s16, .ref m17, .ref m18, .ref m19, .ref m20, .ref m21, .ref m22, .ref m23, .ref m24, .ref m25, .ref m26, .ref m27, .ref m28, .int (nI n), .ref m30, .int s31, .int s12, .int (nI z), .int (nI t), .int (nI n), .ref m36, .ref m37, .ref m38, .ref m39, .long s40])), (m13, ai g 6 K), (m14, ai g 6 L), (m15, ai g 96 V), (m36, ai g 6 M2_5), (m37, ai g 6 M2_8), (m38, ai g 96 M2_11), (m30, ai g 18 Sg), (m39, ai g 18 M2_14)]) [0, 1, 3, 5, 2, 4, 6, 7, 8] rfl
    have hD9 := hD.sub (ws' := [(k0, .inr (9, [.ref m0, .int s1, .int s2, .int s3, .int s4, .int s5, .int s6, .ref m7, .ref m8, .ref m9, .int (nI z), .int (nI t), .int s12, .ref m13, .ref m14, .ref m15, .int s16, .ref m17, .ref m18, .ref m19, .ref m20, .ref m21, .ref m22, .ref m23, .ref m24, .ref m25, .ref m26, .ref m27, .ref m28, .int (nI n), .ref m30, .int s31, .int s12, .int (nI z), .int (nI t), .int (nI n), .ref m36, .ref m37, .ref m38, .ref m39, .long s40])), (m13, ai g 6 K), (m14, ai g 6 L), (m15, ai g 96 V), (m36, ai g 6 M2_5), (m37, ai g 6 M2_8), (m38, ai g 96 M2_11), (m30, ai g 18 Sg), (m39, ai g 18 M2_14)]) [0, 1, 3, 5, 2, 4, 6, 7, 8] (by decide) rfl
    exact k_ri hx hb hr hlocks hS hP9 hD9 ⟨s12, z, t, n, M2_5, M2_8, M2_11, M2_14, rfl, (by unfold rIm; rw [if_neg (lck_n c4_3)]), (gst_eq hg hM_6 hM_9 hM_12), hn, Or.inr ⟨lck_n c4_3, rfl, rfl, rfl, rfl, hM_6, hM_9, hM_12⟩⟩ dX9_image_90
  · skip
    refine lv_bipush (v := (-103)) hx hb dX9_image_7 (by decide) ?_
    refine W.widen (k := 0) (n := 0) (Nat.le_of_ble_eq_true rfl) (Nat.le_of_ble_eq_true rfl) ?_
    have hP9 := hP.sub (ws' := [(k0, .inr (9, [.ref m0, .int s1, .int s2, .int s3, .int s4, .int s5, .int s6, .ref m7, .ref m8, .ref m9, .int (nI z), .int (nI t), .int s12, .ref m13, .ref m14, .ref m15, .int s16, .ref m17, .ref m18, .ref m19, .ref m20, .ref m21, .ref m22, .ref m23, .ref m24, .ref m25, .ref m26, .ref m27, .ref m28, .int (nI n), .ref m30, .int s31, .int s32, .int (nI z3), .int (nI t3), .int (nI n3), .ref m36, .ref m37, .ref m38, .ref m39, .long s40])), (m13, ai g 6 K), (m14, ai g 6 L), (m15, ai g 96 V), (m36, ai g 6 Kk), (m37, ai g 6 Lk), (m38, ai g 96 Vk), (m30, ai g 18 Sg), (m39, ai g 18 Sk)]) [8, 0, 1, 2, 3, 4, 5, 6, 7] rfl
    have hD9 := hD.sub (ws' := [(k0, .inr (9, [.ref m0, .int s1, .int s2, .int s3, .int s4, .int s5, .int s6, .ref m7, .ref m8, .ref m9, .int (nI z), .int (nI t), .int s12, .ref m13, .ref m14, .ref m15, .int s16, .ref m17, .ref m18, .ref m19, .ref m20, .ref m21, .ref m22, .ref m23, .ref m24, .ref m25, .ref m26, .ref m27, .ref m28, .int (nI n), .ref m30, .int s31, .int s32, .int (nI z3), .int (nI t3), .int (nI n3), .ref m36, .ref m37, .ref m38, .ref m39, .long s40])), (m13, ai g 6 K), (m14, ai g 6 L), (m15, ai g 96 V), (m36, ai g 6 Kk), (m37, ai g 6 Lk), (m38, ai g 96 Vk), (m30, ai g 18 Sg), (m39, ai g 18 Sk)]) [8, 0, 1, 2, 3, 4, 5, 6, 7] (by decide) rfl
    exact k_ri hx hb hr hlocks hS hP9 hD9 ⟨s32, z3, t3, n3, Kk, Lk, Vk, Sk, rfl, (by unfold rIm; rw [if_pos (lck_1 c4_3)]), hg3, hn3, Or.inl ⟨lck_1 c4_3, rfl, rfl, rfl, rfl, rfl, rfl, rfl⟩⟩ dX9_image_9
def po_X9_restore_f (g : GG) (k0 : Nat) (m0 : Nat) (s1 : Int32) (s2 : Int32) (s3 : Int32) (s4 : Int32) (s5 : Int32) (s6 : Int32) (m7 : Nat) (m8 : Nat) (m9 : Nat) (s12 : Int32) (m13 : Nat) (m14 : Nat) (m15 : Nat) (s16 : Int32) (m17 : Nat) (m18 : Nat) (m19 : Nat) (m20 : Nat) (m21 : Nat) (m22 : Nat) (m23 : Nat) (m24 : Nat) (m25 : Nat) (m26 : Nat) (m27 : Nat) (m28 : Nat) (m30 : Nat) (s31 : Int32) (s32 : Int32) (m36 : Nat) (m37 : Nat) (m38 : Nat) (m39 : Nat) (s40 : Int64) (z : Nat) (t : Nat) (n : Nat) (z3 : Nat) (t3 : Nat) (n3 : Nat) (K : Nat → Int32) (L : Nat → Int32) (V : Nat → Int32) (Kk : Nat → Int32) (Lk : Nat → Int32) (Vk : Nat → Int32) (Sg : Nat → Int32) (Sk : Nat → Int32) : Int32 → va_W → Prop := fun (r : Int32) w => ∃ (o2 : Int32) (z4 : Nat) (t4 : Nat) (n4 : Nat) (K4 : Nat → Int32) (L4 : Nat → Int32) (V4 : Nat → Int32) (S4 : Nat → Int32), w = [(k0, .inr (9, [.ref m0, .int s1, .int s2, .int s3, .int s4, .int s5, .int s6, .ref m7, .ref m8, .ref m9, .int (nI z4), .int (nI t4), .int s12, .ref m13, .ref m14, .ref m15, .int o2, .ref m17, .ref m18, .ref m19, .ref m20, .ref m21, .ref m22, .ref m23, .ref m24, .ref m25, .ref m26, .ref m27, .ref m28, .int (nI n4), .ref m30, .int s31, .int s32, .int (nI z3), .int (nI t3), .int (nI n3), .ref m36, .ref m37, .ref m38, .ref m39, .long s40])), (m13, ai g 6 K4), (m14, ai g 6 L4), (m15, ai g 96 V4), (m36, ai g 6 Kk), (m37, ai g 6 Lk), (m38, ai g 96 Vk), (m30, ai g 18 S4), (m39, ai g 18 Sk)] ∧ ((if s32 = s12 then nI z3 else (-103)) = r) ∧ (gst z4 t4 K4 L4 V4) ∧ (n4 ≤ 6) ∧ ((¬ s32 = s12 ∧ o2 = s16 ∧ z4 = z ∧ t4 = t ∧ n4 = n ∧ K4 = K ∧ L4 = L ∧ V4 = V) ∨ (s32 = s12 ∧ o2 = 1 ∧ z4 = z3 ∧ t4 = t3 ∧ n4 = n3 ∧ (∀ i, i < 6 → K4 i = Kk i) ∧ (∀ i, i < 6 → L4 i = Lk i) ∧ (∀ i, i < 96 → V4 i = Vk i)))
theorem q_X9_restore_f_f9 : ∀ w ∈ u_ws RX9 TX9 41, w ∈ wsX9_restore := by decide +kernel
theorem q_X9_restore_f_1 : (Cond.fieldLink RX9 82 "SoundLawsModel" "keptSets" "I") ∈ wsX9_restore := by decide +kernel
theorem q_X9_restore_f_2 : (Cond.fieldLink RX9 160 "SoundLawsModel" "setsRead" "I") ∈ wsX9_restore := by decide +kernel
theorem q_X9_restore_f_3 : (Cond.fieldLink RX9 70 "SoundLawsModel" "keptKinds" "[I") ∈ wsX9_restore := by decide +kernel
theorem q_X9_restore_f_4 : (Cond.fieldLink RX9 22 "SoundLawsModel" "kinds" "[I") ∈ wsX9_restore := by decide +kernel
theorem q_X9_restore_f_5 : (Cond.fieldLink RX9 73 "SoundLawsModel" "keptLongs" "[I") ∈ wsX9_restore := by decide +kernel
theorem q_X9_restore_f_6 : (Cond.fieldLink RX9 25 "SoundLawsModel" "longs" "[I") ∈ wsX9_restore := by decide +kernel
theorem q_X9_restore_f_7 : (Cond.fieldLink RX9 76 "SoundLawsModel" "keptWords" "[I") ∈ wsX9_restore := by decide +kernel
theorem q_X9_restore_f_8 : (Cond.fieldLink RX9 28 "SoundLawsModel" "words" "[I") ∈ wsX9_restore := by decide +kernel
theorem q_X9_restore_f_9 : (Cond.fieldLink RX9 79 "SoundLawsModel" "keptSights" "[I") ∈ wsX9_restore := by decide +kernel
theorem q_X9_restore_f_10 : (Cond.fieldLink RX9 67 "SoundLawsModel" "sights" "[I") ∈ wsX9_restore := by decide +kernel
theorem q_X9_restore_f_11 : (Cond.fieldLink RX9 299 "SoundLawsModel" "keptMany" "I") ∈ wsX9_restore := by decide +kernel
theorem q_X9_restore_f_12 : (Cond.fieldLink RX9 147 "SoundLawsModel" "sets" "I") ∈ wsX9_restore := by decide +kernel
theorem q_X9_restore_f_13 : (Cond.fieldLink RX9 302 "SoundLawsModel" "keptTongues" "I") ∈ wsX9_restore := by decide +kernel
theorem q_X9_restore_f_14 : (Cond.fieldLink RX9 150 "SoundLawsModel" "tongues" "I") ∈ wsX9_restore := by decide +kernel
theorem q_X9_restore_f_15 : (Cond.fieldLink RX9 305 "SoundLawsModel" "keptSeen" "I") ∈ wsX9_restore := by decide +kernel
theorem q_X9_restore_f_16 : (Cond.fieldLink RX9 157 "SoundLawsModel" "seenMany" "I") ∈ wsX9_restore := by decide +kernel
theorem q_X9_restore_f_17 : (Cond.fieldLink RX9 153 "SoundLawsModel" "old" "Z") ∈ wsX9_restore := by decide +kernel
set_option maxHeartbeats 1500000 in
set_option maxRecDepth 100000 in
theorem c_X9_restore_f (l : Launch) (g : GG) (k0 : Nat) (m0 : Nat) (s1 : Int32) (s2 : Int32) (s3 : Int32) (s4 : Int32) (s5 : Int32) (s6 : Int32) (m7 : Nat) (m8 : Nat) (m9 : Nat) (s12 : Int32) (m13 : Nat) (m14 : Nat) (m15 : Nat) (s16 : Int32) (m17 : Nat) (m18 : Nat) (m19 : Nat) (m20 : Nat) (m21 : Nat) (m22 : Nat) (m23 : Nat) (m24 : Nat) (m25 : Nat) (m26 : Nat) (m27 : Nat) (m28 : Nat) (m30 : Nat) (s31 : Int32) (s32 : Int32) (m36 : Nat) (m37 : Nat) (m38 : Nat) (m39 : Nat) (s40 : Int64) (z : Nat) (t : Nat) (n : Nat) (z3 : Nat) (t3 : Nat) (n3 : Nat) (K : Nat → Int32) (L : Nat → Int32) (V : Nat → Int32) (Kk : Nat → Int32) (Lk : Nat → Int32) (Vk : Nat → Int32) (Sg : Nat → Int32) (Sk : Nat → Int32) (hg : gst z t K L V) (hg3 : gst z3 t3 Kk Lk Vk) (hn : n ≤ 6) (hn3 : n3 ≤ 6) (sz : Nat) : MetI l yX9_restore wsX9_restore ({ frames := 1, cells := 0, slots := 0, locals := 22 }) g [.ref k0] [(k0, .inr (9, [.ref m0, .int s1, .int s2, .int s3, .int s4, .int s5, .int s6, .ref m7, .ref m8, .ref m9, .int (nI z), .int (nI t), .int s12, .ref m13, .ref m14, .ref m15, .int s16, .ref m17, .ref m18, .ref m19, .ref m20, .ref m21, .ref m22, .ref m23, .ref m24, .ref m25, .ref m26, .ref m27, .ref m28, .int (nI n), .ref m30, .int s31, .int s32, .int (nI z3), .int (nI t3), .int (nI n3), .ref m36, .ref m37, .ref m38, .ref m39, .long s40])), (m13, ai g 6 K), (m14, ai g 6 L), (m15, ai g 96 V), (m36, ai g 6 Kk), (m37, ai g 6 Lk), (m38, ai g 96 Vk), (m30, ai g 18 Sg), (m39, ai g 18 Sk)] sz (po_X9_restore_f g k0 m0 s1 s2 s3 s4 s5 s6 m7 m8 m9 s12 m13 m14 m15 s16 m17 m18 m19 m20 m21 m22 m23 m24 m25 m26 m27 m28 m30 s31 s32 m36 m37 m38 m39 s40 z t n z3 t3 n3 K L V Kk Lk Vk Sg Sk) 0 0 := by
  refine k_of (l := l) (y := yX9_restore) (ws := wsX9_restore) (rm := { frames := 1, cells := 0, slots := 0, locals := 22 }) (mc := 0) (ms := 0) (av := [.ref k0]) (g := g) (wc := [(k0, .inr (9, [.ref m0, .int s1, .int s2, .int s3, .int s4, .int s5, .int s6, .ref m7, .ref m8, .ref m9, .int (nI z), .int (nI t), .int s12, .ref m13, .ref m14, .ref m15, .int s16, .ref m17, .ref m18, .ref m19, .ref m20, .ref m21, .ref m22, .ref m23, .ref m24, .ref m25, .ref m26, .ref m27, .ref m28, .int (nI n), .ref m30, .int s31, .int s32, .int (nI z3), .int (nI t3), .int (nI n3), .ref m36, .ref m37, .ref m38, .ref m39, .long s40])), (m13, ai g 6 K), (m14, ai g 6 L), (m15, ai g 96 V), (m36, ai g 6 Kk), (m37, ai g 6 Lk), (m38, ai g 96 Vk), (m30, ai g 18 Sg), (m39, ai g 18 Sk)]) (Qc := fun A => va_Qi (po_X9_restore_f g k0 m0 s1 s2 s3 s4 s5 s6 m7 m8 m9 s12 m13 m14 m15 s16 m17 m18 m19 m20 m21 m22 m23 m24 m25 m26 m27 m28 m30 s31 s32 m36 m37 m38 m39 s40 z t n z3 t3 n3 K L V Kk Lk Vk Sg Sk) (bk g A) A) (cc := cX9_restore) (maxL := 1) (ret := (some .int)) (by decide) rfl (Nat.le_of_ble_eq_true rfl) ?_ sz
  intro p e s m below meth c hx hb hr hts hown hlocks hnm hml A hA hE hZ hP hD hS ls hl
  have hown : s.vm.findClass RX9 = some m.cls := hown
  have hl : lv_has ls 1 [(0, .ref k0)] := hl
  refine lv_aload_n hx hb dX9_restore_0 rfl (lv_at hl 0 rfl) ?_
  refine va_get (D := g.1) (ci := 9) (v := .int s32) (C := RX9) (T := TX9) (N := 41) hx hb hts q_X9_restore_f_f9 hown hE.1 hP 0 rfl rfl 32 (by decide) (hts (.fieldLink RX9 82 "SoundLawsModel" "keptSets" "I") q_X9_restore_f_1) (fun _ h9 => h9) rfl dX9_restore_1 ?_
  refine lv_aload_n hx hb dX9_restore_4 rfl (lv_at hl 0 rfl) ?_
  refine va_get (D := g.1) (ci := 9) (v := .int s12) (C := RX9) (T := TX9) (N := 41) hx hb hts q_X9_restore_f_f9 hown hE.1 hP 0 rfl rfl 12 (by decide) (hts (.fieldLink RX9 160 "SoundLawsModel" "setsRead" "I") q_X9_restore_f_2) (fun _ h9 => h9) rfl dX9_restore_5 ?_
  refine lv_icmp_eq (tgt := 14) hx hb dX9_restore_8 (by decide) (fun c8_1 => ?_) (fun c8_1 => ?_)
  · skip
    refine lv_aload_n hx hb dX9_restore_14 rfl (lv_at hl 0 rfl) ?_
    refine va_get (D := g.1) (ci := 9) (v := .ref m36) (C := RX9) (T := TX9) (N := 41) hx hb hts q_X9_restore_f_f9 hown hE.1 hP 0 rfl rfl 36 (by decide) (hts (.fieldLink RX9 70 "SoundLawsModel" "keptKinds" "[I") q_X9_restore_f_3) (fun _ h9 => h9) rfl dX9_restore_15 ?_
    refine lv_aload_n hx hb dX9_restore_18 rfl (lv_at hl 0 rfl) ?_
    refine va_get (D := g.1) (ci := 9) (v := .ref m13) (C := RX9) (T := TX9) (N := 41) hx hb hts q_X9_restore_f_f9 hown hE.1 hP 0 rfl rfl 13 (by decide) (hts (.fieldLink RX9 22 "SoundLawsModel" "kinds" "[I") q_X9_restore_f_4) (fun _ h9 => h9) rfl dX9_restore_19 ?_
    refine k_cv (wr := [(k0, .inr (9, [.ref m0, .int s1, .int s2, .int s3, .int s4, .int s5, .int s6, .ref m7, .ref m8, .ref m9, .int (nI z), .int (nI t), .int s12, .ref m13, .ref m14, .ref m15, .int s16, .ref m17, .ref m18, .ref m19, .ref m20, .ref m21, .ref m22, .ref m23, .ref m24, .ref m25, .ref m26, .ref m27, .ref m28, .int (nI n), .ref m30, .int s31, .int s32, .int (nI z3), .int (nI t3), .int (nI n3), .ref m36, .ref m37, .ref m38, .ref m39, .long s40])), (m14, ai g 6 L), (m15, ai g 96 V), (m37, ai g 6 Lk), (m38, ai g 96 Vk), (m30, ai g 18 Sg), (m39, ai g 18 Sk)]) hP hD hS hA [4, 1] [0, 2, 3, 5, 6, 7, 8] rfl rfl (by decide) (by decide) (va_runS (As := [.ref m36, .ref m13]) (rest := []) ⟨hx, hb, hml, hown, hts⟩ (c_X9_copyRow_6 l g m36 m13 Kk K  s.heap.size) (va_cwS 2 hts gX9_restore_X9_copyRow rfl rfl rfl (by decide +kernel) ⟨Nat.le_of_ble_eq_true rfl, Nat.le_of_ble_eq_true rfl⟩) (k_preS hE hZ hP hD hS hA [4, 1] rfl (by decide)) rfl rfl hl.1 rfl (lv_room (Nat.le_of_ble_eq_true rfl)) dX9_restore_22 ⟨Nat.le_of_ble_eq_true rfl, Nat.le_of_ble_eq_true rfl⟩) (fun w1 H locs hw hP hD hS => ?_)
    obtain ⟨M2_3, rfl, hM_4⟩ := hw
    have hP : va_P g.1 vwCl [(k0, .inr (9, [.ref m0, .int s1, .int s2, .int s3, .int s4, .int s5, .int s6, .ref m7, .ref m8, .ref m9, .int (nI z), .int (nI t), .int s12, .ref m13, .ref m14, .ref m15, .int s16, .ref m17, .ref m18, .ref m19, .ref m20, .ref m21, .ref m22, .ref m23, .ref m24, .ref m25, .ref m26, .ref m27, .ref m28, .int (nI n), .ref m30, .int s31, .int s32, .int (nI z3), .int (nI t3), .int (nI n3), .ref m36, .ref m37, .ref m38, .ref m39, .long s40])), (m14, ai g 6 L), (m15, ai g 96 V), (m37, ai g 6 Lk), (m38, ai g 96 Vk), (m30, ai g 18 Sg), (m39, ai g 18 Sk), (m36, ai g 6 Kk), (m13, ai g 6 M2_3)] H := hP
    have hD : va_D A [(k0, .inr (9, [.ref m0, .int s1, .int s2, .int s3, .int s4, .int s5, .int s6, .ref m7, .ref m8, .ref m9, .int (nI z), .int (nI t), .int s12, .ref m13, .ref m14, .ref m15, .int s16, .ref m17, .ref m18, .ref m19, .ref m20, .ref m21, .ref m22, .ref m23, .ref m24, .ref m25, .ref m26, .ref m27, .ref m28, .int (nI n), .ref m30, .int s31, .int s32, .int (nI z3), .int (nI t3), .int (nI n3), .ref m36, .ref m37, .ref m38, .ref m39, .long s40])), (m14, ai g 6 L), (m15, ai g 96 V), (m37, ai g 6 Lk), (m38, ai g 96 Vk), (m30, ai g 18 Sg), (m39, ai g 18 Sk), (m36, ai g 6 Kk), (m13, ai g 6 M2_3)] := hD
    refine lv_aload_n hx hb dX9_restore_25 rfl (lv_at hl 0 rfl) ?_
    refine va_get (D := g.1) (ci := 9) (v := .ref m37) (C := RX9) (T := TX9) (N := 41) hx hb hts q_X9_restore_f_f9 hown hE.1 hP 0 rfl rfl 37 (by decide) (hts (.fieldLink RX9 73 "SoundLawsModel" "keptLongs" "[I") q_X9_restore_f_5) (fun _ h9 => h9) rfl dX9_restore_26 ?_
    refine lv_aload_n hx hb dX9_restore_29 rfl (lv_at hl 0 rfl) ?_
    refine va_get (D := g.1) (ci := 9) (v := .ref m14) (C := RX9) (T := TX9) (N := 41) hx hb hts q_X9_restore_f_f9 hown hE.1 hP 0 rfl rfl 14 (by decide) (hts (.fieldLink RX9 25 "SoundLawsModel" "longs" "[I") q_X9_restore_f_6) (fun _ h9 => h9) rfl dX9_restore_30 ?_
    refine k_cv (wr := [(k0, .inr (9, [.ref m0, .int s1, .int s2, .int s3, .int s4, .int s5, .int s6, .ref m7, .ref m8, .ref m9, .int (nI z), .int (nI t), .int s12, .ref m13, .ref m14, .ref m15, .int s16, .ref m17, .ref m18, .ref m19, .ref m20, .ref m21, .ref m22, .ref m23, .ref m24, .ref m25, .ref m26, .ref m27, .ref m28, .int (nI n), .ref m30, .int s31, .int s32, .int (nI z3), .int (nI t3), .int (nI n3), .ref m36, .ref m37, .ref m38, .ref m39, .long s40])), (m15, ai g 96 V), (m38, ai g 96 Vk), (m30, ai g 18 Sg), (m39, ai g 18 Sk), (m36, ai g 6 Kk), (m13, ai g 6 M2_3)]) hP hD hS hA [3, 1] [0, 2, 4, 5, 6, 7, 8] rfl rfl (by decide) (by decide) (va_runS (As := [.ref m37, .ref m14]) (rest := []) ⟨hx, hb, hml, hown, hts⟩ (c_X9_copyRow_6 l g m37 m14 Lk L  H.size) (va_cwS 2 hts gX9_restore_X9_copyRow rfl rfl rfl (by decide +kernel) ⟨Nat.le_of_ble_eq_true rfl, Nat.le_of_ble_eq_true rfl⟩) (k_preS hE hZ hP hD hS hA [3, 1] rfl (by decide)) rfl rfl hl.1 rfl (lv_room (Nat.le_of_ble_eq_true rfl)) dX9_restore_33 ⟨Nat.le_of_ble_eq_true rfl, Nat.le_of_ble_eq_true rfl⟩) (fun w1 H locs hw hP hD hS => ?_)
    obtain ⟨M2_6, rfl, hM_7⟩ := hw
    have hP : va_P g.1 vwCl [(k0, .inr (9, [.ref m0, .int s1, .int s2, .int s3, .int s4, .int s5, .int s6, .ref m7, .ref m8, .ref m9, .int (nI z), .int (nI t), .int s12, .ref m13, .ref m14, .ref m15, .int s16, .ref m17, .ref m18, .ref m19, .ref m20, .ref m21, .ref m22, .ref m23, .ref m24, .ref m25, .ref m26, .ref m27, .ref m28, .int (nI n), .ref m30, .int s31, .int s32, .int (nI z3), .int (nI t3), .int (nI n3), .ref m36, .ref m37, .ref m38, .ref m39, .long s40])), (m15, ai g 96 V), (m38, ai g 96 Vk), (m30, ai g 18 Sg), (m39, ai g 18 Sk), (m36, ai g 6 Kk), (m13, ai g 6 M2_3), (m37, ai g 6 Lk), (m14, ai g 6 M2_6)] H := hP
    have hD : va_D A [(k0, .inr (9, [.ref m0, .int s1, .int s2, .int s3, .int s4, .int s5, .int s6, .ref m7, .ref m8, .ref m9, .int (nI z), .int (nI t), .int s12, .ref m13, .ref m14, .ref m15, .int s16, .ref m17, .ref m18, .ref m19, .ref m20, .ref m21, .ref m22, .ref m23, .ref m24, .ref m25, .ref m26, .ref m27, .ref m28, .int (nI n), .ref m30, .int s31, .int s32, .int (nI z3), .int (nI t3), .int (nI n3), .ref m36, .ref m37, .ref m38, .ref m39, .long s40])), (m15, ai g 96 V), (m38, ai g 96 Vk), (m30, ai g 18 Sg), (m39, ai g 18 Sk), (m36, ai g 6 Kk), (m13, ai g 6 M2_3), (m37, ai g 6 Lk), (m14, ai g 6 M2_6)] := hD
    refine lv_aload_n hx hb dX9_restore_36 rfl (lv_at hl 0 rfl) ?_
    refine va_get (D := g.1) (ci := 9) (v := .ref m38) (C := RX9) (T := TX9) (N := 41) hx hb hts q_X9_restore_f_f9 hown hE.1 hP 0 rfl rfl 38 (by decide) (hts (.fieldLink RX9 76 "SoundLawsModel" "keptWords" "[I") q_X9_restore_f_7) (fun _ h9 => h9) rfl dX9_restore_37 ?_
    refine lv_aload_n hx hb dX9_restore_40 rfl (lv_at hl 0 rfl) ?_
    refine va_get (D := g.1) (ci := 9) (v := .ref m15) (C := RX9) (T := TX9) (N := 41) hx hb hts q_X9_restore_f_f9 hown hE.1 hP 0 rfl rfl 15 (by decide) (hts (.fieldLink RX9 28 "SoundLawsModel" "words" "[I") q_X9_restore_f_8) (fun _ h9 => h9) rfl dX9_restore_41 ?_
    refine k_cv (wr := [(k0, .inr (9, [.ref m0, .int s1, .int s2, .int s3, .int s4, .int s5, .int s6, .ref m7, .ref m8, .ref m9, .int (nI z), .int (nI t), .int s12, .ref m13, .ref m14, .ref m15, .int s16, .ref m17, .ref m18, .ref m19, .ref m20, .ref m21, .ref m22, .ref m23, .ref m24, .ref m25, .ref m26, .ref m27, .ref m28, .int (nI n), .ref m30, .int s31, .int s32, .int (nI z3), .int (nI t3), .int (nI n3), .ref m36, .ref m37, .ref m38, .ref m39, .long s40])), (m30, ai g 18 Sg), (m39, ai g 18 Sk), (m36, ai g 6 Kk), (m13, ai g 6 M2_3), (m37, ai g 6 Lk), (m14, ai g 6 M2_6)]) hP hD hS hA [2, 1] [0, 3, 4, 5, 6, 7, 8] rfl rfl (by decide) (by decide) (va_runS (As := [.ref m38, .ref m15]) (rest := []) ⟨hx, hb, hml, hown, hts⟩ (c_X9_copyRow_96 l g m38 m15 Vk V  H.size) (va_cwS 2 hts gX9_restore_X9_copyRow rfl rfl rfl (by decide +kernel) ⟨Nat.le_of_ble_eq_true rfl, Nat.le_of_ble_eq_true rfl⟩) (k_preS hE hZ hP hD hS hA [2, 1] rfl (by decide)) rfl rfl hl.1 rfl (lv_room (Nat.le_of_ble_eq_true rfl)) dX9_restore_44 ⟨Nat.le_of_ble_eq_true rfl, Nat.le_of_ble_eq_true rfl⟩) (fun w1 H locs hw hP hD hS => ?_)
    obtain ⟨M2_9, rfl, hM_10⟩ := hw
    have hP : va_P g.1 vwCl [(k0, .inr (9, [.ref m0, .int s1, .int s2, .int s3, .int s4, .int s5, .int s6, .ref m7, .ref m8, .ref m9, .int (nI z), .int (nI t), .int s12, .ref m13, .ref m14, .ref m15, .int s16, .ref m17, .ref m18, .ref m19, .ref m20, .ref m21, .ref m22, .ref m23, .ref m24, .ref m25, .ref m26, .ref m27, .ref m28, .int (nI n), .ref m30, .int s31, .int s32, .int (nI z3), .int (nI t3), .int (nI n3), .ref m36, .ref m37, .ref m38, .ref m39, .long s40])), (m30, ai g 18 Sg), (m39, ai g 18 Sk), (m36, ai g 6 Kk), (m13, ai g 6 M2_3), (m37, ai g 6 Lk), (m14, ai g 6 M2_6), (m38, ai g 96 Vk), (m15, ai g 96 M2_9)] H := hP
    have hD : va_D A [(k0, .inr (9, [.ref m0, .int s1, .int s2, .int s3, .int s4, .int s5, .int s6, .ref m7, .ref m8, .ref m9, .int (nI z), .int (nI t), .int s12, .ref m13, .ref m14, .ref m15, .int s16, .ref m17, .ref m18, .ref m19, .ref m20, .ref m21, .ref m22, .ref m23, .ref m24, .ref m25, .ref m26, .ref m27, .ref m28, .int (nI n), .ref m30, .int s31, .int s32, .int (nI z3), .int (nI t3), .int (nI n3), .ref m36, .ref m37, .ref m38, .ref m39, .long s40])), (m30, ai g 18 Sg), (m39, ai g 18 Sk), (m36, ai g 6 Kk), (m13, ai g 6 M2_3), (m37, ai g 6 Lk), (m14, ai g 6 M2_6), (m38, ai g 96 Vk), (m15, ai g 96 M2_9)] := hD
    refine lv_aload_n hx hb dX9_restore_47 rfl (lv_at hl 0 rfl) ?_
    refine va_get (D := g.1) (ci := 9) (v := .ref m39) (C := RX9) (T := TX9) (N := 41) hx hb hts q_X9_restore_f_f9 hown hE.1 hP 0 rfl rfl 39 (by decide) (hts (.fieldLink RX9 79 "SoundLawsModel" "keptSights" "[I") q_X9_restore_f_9) (fun _ h9 => h9) rfl dX9_restore_48 ?_
    refine lv_aload_n hx hb dX9_restore_51 rfl (lv_at hl 0 rfl) ?_
    refine va_get (D := g.1) (ci := 9) (v := .ref m30) (C := RX9) (T := TX9) (N := 41) hx hb hts q_X9_restore_f_f9 hown hE.1 hP 0 rfl rfl 30 (by decide) (hts (.fieldLink RX9 67 "SoundLawsModel" "sights" "[I") q_X9_restore_f_10) (fun _ h9 => h9) rfl dX9_restore_52 ?_
    refine k_cv (wr := [(k0, .inr (9, [.ref m0, .int s1, .int s2, .int s3, .int s4, .int s5, .int s6, .ref m7, .ref m8, .ref m9, .int (nI z), .int (nI t), .int s12, .ref m13, .ref m14, .ref m15, .int s16, .ref m17, .ref m18, .ref m19, .ref m20, .ref m21, .ref m22, .ref m23, .ref m24, .ref m25, .ref m26, .ref m27, .ref m28, .int (nI n), .ref m30, .int s31, .int s32, .int (nI z3), .int (nI t3), .int (nI n3), .ref m36, .ref m37, .ref m38, .ref m39, .long s40])), (m36, ai g 6 Kk), (m13, ai g 6 M2_3), (m37, ai g 6 Lk), (m14, ai g 6 M2_6), (m38, ai g 96 Vk), (m15, ai g 96 M2_9)]) hP hD hS hA [2, 1] [0, 3, 4, 5, 6, 7, 8] rfl rfl (by decide) (by decide) (va_runS (As := [.ref m39, .ref m30]) (rest := []) ⟨hx, hb, hml, hown, hts⟩ (c_X9_copyRow_18 l g m39 m30 Sk Sg  H.size) (va_cwS 2 hts gX9_restore_X9_copyRow rfl rfl rfl (by decide +kernel) ⟨Nat.le_of_ble_eq_true rfl, Nat.le_of_ble_eq_true rfl⟩) (k_preS hE hZ hP hD hS hA [2, 1] rfl (by decide)) rfl rfl hl.1 rfl (lv_room (Nat.le_of_ble_eq_true rfl)) dX9_restore_55 ⟨Nat.le_of_ble_eq_true rfl, Nat.le_of_ble_eq_true rfl⟩) (fun w1 H locs hw hP hD hS => ?_)
    obtain ⟨M2_12, rfl, hM_13⟩ := hw
    have hP : va_P g.1 vwCl [(k0, .inr (9, [.ref m0, .int s1, .int s2, .int s3, .int s4, .int s5, .int s6, .ref m7, .ref m8, .ref m9, .int (nI z), .int (nI t), .int s12, .ref m13, .ref m14, .ref m15, .int s16, .ref m17, .ref m18, .ref m19, .ref m20, .ref m21, .ref m22, .ref m23, .ref m24, .ref m25, .ref m26, .ref m27, .ref m28, .int (nI n), .ref m30, .int s31, .int s32, .int (nI z3), .int (nI t3), .int (nI n3), .ref m36, .ref m37, .ref m38, .ref m39, .long s40])), (m36, ai g 6 Kk), (m13, ai g 6 M2_3), (m37, ai g 6 Lk), (m14, ai g 6 M2_6), (m38, ai g 96 Vk), (m15, ai g 96 M2_9), (m39, ai g 18 Sk), (m30, ai g 18 M2_12)] H := hP
    have hD : va_D A [(k0, .inr (9, [.ref m0, .int s1, .int s2, .int s3, .int s4, .int s5, .int s6, .ref m7, .ref m8, .ref m9, .int (nI z), .int (nI t), .int s12, .ref m13, .ref m14, .ref m15, .int s16, .ref m17, .ref m18, .ref m19, .ref m20, .ref m21, .ref m22, .ref m23, .ref m24, .ref m25, .ref m26, .ref m27, .ref m28, .int (nI n), .ref m30, .int s31, .int s32, .int (nI z3), .int (nI t3), .int (nI n3), .ref m36, .ref m37, .ref m38, .ref m39, .long s40])), (m36, ai g 6 Kk), (m13, ai g 6 M2_3), (m37, ai g 6 Lk), (m14, ai g 6 M2_6), (m38, ai g 96 Vk), (m15, ai g 96 M2_9), (m39, ai g 18 Sk), (m30, ai g 18 M2_12)] := hD
    refine lv_aload_n hx hb dX9_restore_58 rfl (lv_at hl 0 rfl) ?_
    refine lv_aload_n hx hb dX9_restore_59 rfl (lv_at hl 0 rfl) ?_
    refine va_get (D := g.1) (ci := 9) (v := .int (nI z3)) (C := RX9) (T := TX9) (N := 41) hx hb hts q_X9_restore_f_f9 hown hE.1 hP 0 rfl rfl 33 (by decide) (hts (.fieldLink RX9 299 "SoundLawsModel" "keptMany" "I") q_X9_restore_f_11) (fun _ h9 => h9) rfl dX9_restore_60 ?_
    refine va_put (D := g.1) (ci := 9) (v := .int (nI z3)) (ty := .int) (C := RX9) (T := TX9) (N := 41) hx hb hts q_X9_restore_f_f9 tyX9 tyX9_ok nmX9 hown hE.1 hP hD hS 0 rfl rfl 10 (by decide) (hts (.fieldLink RX9 147 "SoundLawsModel" "sets" "I") q_X9_restore_f_12) (fun _ h9 => h9) rfl (by decide +kernel) rfl rfl (Nat.le_of_ble_eq_true rfl) dX9_restore_63 (fun H locs hP hD hS => ?_)
    have hP : va_P g.1 vwCl [(k0, .inr (9, [.ref m0, .int s1, .int s2, .int s3, .int s4, .int s5, .int s6, .ref m7, .ref m8, .ref m9, .int (nI z3), .int (nI t), .int s12, .ref m13, .ref m14, .ref m15, .int s16, .ref m17, .ref m18, .ref m19, .ref m20, .ref m21, .ref m22, .ref m23, .ref m24, .ref m25, .ref m26, .ref m27, .ref m28, .int (nI n), .ref m30, .int s31, .int s32, .int (nI z3), .int (nI t3), .int (nI n3), .ref m36, .ref m37, .ref m38, .ref m39, .long s40])), (m36, ai g 6 Kk), (m13, ai g 6 M2_3), (m37, ai g 6 Lk), (m14, ai g 6 M2_6), (m38, ai g 96 Vk), (m15, ai g 96 M2_9), (m39, ai g 18 Sk), (m30, ai g 18 M2_12)] H := hP
    have hD : va_D A [(k0, .inr (9, [.ref m0, .int s1, .int s2, .int s3, .int s4, .int s5, .int s6, .ref m7, .ref m8, .ref m9, .int (nI z3), .int (nI t), .int s12, .ref m13, .ref m14, .ref m15, .int s16, .ref m17, .ref m18, .ref m19, .ref m20, .ref m21, .ref m22, .ref m23, .ref m24, .ref m25, .ref m26, .ref m27, .ref m28, .int (nI n), .ref m30, .int s31, .int s32, .int (nI z3), .int (nI t3), .int (nI n3), .ref m36, .ref m37, .ref m38, .ref m39, .long s40])), (m36, ai g 6 Kk), (m13, ai g 6 M2_3), (m37, ai g 6 Lk), (m14, ai g 6 M2_6), (m38, ai g 96 Vk), (m15, ai g 96 M2_9), (m39, ai g 18 Sk), (m30, ai g 18 M2_12)] := hD
    refine lv_aload_n hx hb dX9_restore_66 rfl (lv_at hl 0 rfl) ?_
    refine lv_aload_n hx hb dX9_restore_67 rfl (lv_at hl 0 rfl) ?_
    refine va_get (D := g.1) (ci := 9) (v := .int (nI t3)) (C := RX9) (T := TX9) (N := 41) hx hb hts q_X9_restore_f_f9 hown hE.1 hP 0 rfl rfl 34 (by decide) (hts (.fieldLink RX9 302 "SoundLawsModel" "keptTongues" "I") q_X9_restore_f_13) (fun _ h9 => h9) rfl dX9_restore_68 ?_
    refine va_put (D := g.1) (ci := 9) (v := .int (nI t3)) (ty := .int) (C := RX9) (T := TX9) (N := 41) hx hb hts q_X9_restore_f_f9 tyX9 tyX9_ok nmX9 hown hE.1 hP hD hS 0 rfl rfl 11 (by decide) (hts (.fieldLink RX9 150 "SoundLawsModel" "tongues" "I") q_X9_restore_f_14) (fun _ h9 => h9) rfl (by decide +kernel) rfl rfl (Nat.le_of_ble_eq_true rfl) dX9_restore_71 (fun H locs hP hD hS => ?_)
    have hP : va_P g.1 vwCl [(k0, .inr (9, [.ref m0, .int s1, .int s2, .int s3, .int s4, .int s5, .int s6, .ref m7, .ref m8, .ref m9, .int (nI z3), .int (nI t3), .int s12, .ref m13, .ref m14, .ref m15, .int s16, .ref m17, .ref m18, .ref m19, .ref m20, .ref m21, .ref m22, .ref m23, .ref m24, .ref m25, .ref m26, .ref m27, .ref m28, .int (nI n), .ref m30, .int s31, .int s32, .int (nI z3), .int (nI t3), .int (nI n3), .ref m36, .ref m37, .ref m38, .ref m39, .long s40])), (m36, ai g 6 Kk), (m13, ai g 6 M2_3), (m37, ai g 6 Lk), (m14, ai g 6 M2_6), (m38, ai g 96 Vk), (m15, ai g 96 M2_9), (m39, ai g 18 Sk), (m30, ai g 18 M2_12)] H := hP
    have hD : va_D A [(k0, .inr (9, [.ref m0, .int s1, .int s2, .int s3, .int s4, .int s5, .int s6, .ref m7, .ref m8, .ref m9, .int (nI z3), .int (nI t3), .int s12, .ref m13, .ref m14, .ref m15, .int s16, .ref m17, .ref m18, .ref m19, .ref m20, .ref m21, .ref m22, .ref m23, .ref m24, .ref m25, .ref m26, .ref m27, .ref m28, .int (nI n), .ref m30, .int s31, .int s32, .int (nI z3), .int (nI t3), .int (nI n3), .ref m36, .ref m37, .ref m38, .ref m39, .long s40])), (m36, ai g 6 Kk), (m13, ai g 6 M2_3), (m37, ai g 6 Lk), (m14, ai g 6 M2_6), (m38, ai g 96 Vk), (m15, ai g 96 M2_9), (m39, ai g 18 Sk), (m30, ai g 18 M2_12)] := hD
    refine lv_aload_n hx hb dX9_restore_74 rfl (lv_at hl 0 rfl) ?_
    refine lv_aload_n hx hb dX9_restore_75 rfl (lv_at hl 0 rfl) ?_
    refine va_get (D := g.1) (ci := 9) (v := .int (nI n3)) (C := RX9) (T := TX9) (N := 41) hx hb hts q_X9_restore_f_f9 hown hE.1 hP 0 rfl rfl 35 (by decide) (hts (.fieldLink RX9 305 "SoundLawsModel" "keptSeen" "I") q_X9_restore_f_15) (fun _ h9 => h9) rfl dX9_restore_76 ?_
    refine va_put (D := g.1) (ci := 9) (v := .int (nI n3)) (ty := .int) (C := RX9) (T := TX9) (N := 41) hx hb hts q_X9_restore_f_f9 tyX9 tyX9_ok nmX9 hown hE.1 hP hD hS 0 rfl rfl 29 (by decide) (hts (.fieldLink RX9 157 "SoundLawsModel" "seenMany" "I") q_X9_restore_f_16) (fun _ h9 => h9) rfl (by decide +kernel) rfl rfl (Nat.le_of_ble_eq_true rfl) dX9_restore_79 (fun H locs hP hD hS => ?_)
    have hP : va_P g.1 vwCl [(k0, .inr (9, [.ref m0, .int s1, .int s2, .int s3, .int s4, .int s5, .int s6, .ref m7, .ref m8, .ref m9, .int (nI z3), .int (nI t3), .int s12, .ref m13, .ref m14, .ref m15, .int s16, .ref m17, .ref m18, .ref m19, .ref m20, .ref m21, .ref m22, .ref m23, .ref m24, .ref m25, .ref m26, .ref m27, .ref m28, .int (nI n3), .ref m30, .int s31, .int s32, .int (nI z3), .int (nI t3), .int (nI n3), .ref m36, .ref m37, .ref m38, .ref m39, .long s40])), (m36, ai g 6 Kk), (m13, ai g 6 M2_3), (m37, ai g 6 Lk), (m14, ai g 6 M2_6), (m38, ai g 96 Vk), (m15, ai g 96 M2_9), (m39, ai g 18 Sk), (m30, ai g 18 M2_12)] H := hP
    have hD : va_D A [(k0, .inr (9, [.ref m0, .int s1, .int s2, .int s3, .int s4, .int s5, .int s6, .ref m7, .ref m8, .ref m9, .int (nI z3), .int (nI t3), .int s12, .ref m13, .ref m14, .ref m15, .int s16, .ref m17, .ref m18, .ref m19, .ref m20, .ref m21, .ref m22, .ref m23, .ref m24, .ref m25, .ref m26, .ref m27, .ref m28, .int (nI n3), .ref m30, .int s31, .int s32, .int (nI z3), .int (nI t3), .int (nI n3), .ref m36, .ref m37, .ref m38, .ref m39, .long s40])), (m36, ai g 6 Kk), (m13, ai g 6 M2_3), (m37, ai g 6 Lk), (m14, ai g 6 M2_6), (m38, ai g 96 Vk), (m15, ai g 96 M2_9), (m39, ai g 18 Sk), (m30, ai g 18 M2_12)] := hD
    refine lv_aload_n hx hb dX9_restore_82 rfl (lv_at hl 0 rfl) ?_
    refine lv_iconst (v := 1) hx hb dX9_restore_83 (by decide) ?_
    refine va_put (D := g.1) (ci := 9) (v := .int 1) (ty := .boolean) (C := RX9) (T := TX9) (N := 41) hx hb hts q_X9_restore_f_f9 tyX9 tyX9_ok nmX9 hown hE.1 hP hD hS 0 rfl rfl 16 (by decide) (hts (.fieldLink RX9 153 "SoundLawsModel" "old" "Z") q_X9_restore_f_17) (fun _ h9 => h9) rfl (by decide +kernel) rfl rfl (Nat.le_of_ble_eq_true rfl) dX9_restore_84 (fun H locs hP hD hS => ?_)
    have hP : va_P g.1 vwCl [(k0, .inr (9, [.ref m0, .int s1, .int s2, .int s3, .int s4, .int s5, .int s6, .ref m7, .ref m8, .ref m9, .int (nI z3), .int (nI t3), .int s12, .ref m13, .ref m14, .ref m15, .int 1, .ref m17, .ref m18, .ref m19, .ref m20, .ref m21, .ref m22, .ref m23, .ref m24, .ref m25, .ref m26, .ref m27, .ref m28, .int (nI n3), .ref m30, .int s31, .int s32, .int (nI z3), .int (nI t3), .int (nI n3), .ref m36, .ref m37, .ref m38, .ref m39, .long s40])), (m36, ai g 6 Kk), (m13, ai g 6 M2_3), (m37, ai g 6 Lk), (m14, ai g 6 M2_6), (m38, ai g 96 Vk), (m15, ai g 96 M2_9), (m39, ai g 18 Sk), (m30, ai g 18 M2_12)] H := hP
    have hD : va_D A [(k0, .inr (9, [.ref m0, .int s1, .int s2, .int s3, .int s4, .int s5, .int s6, .ref m7, .ref m8, .ref m9, .int (nI z3), .int (nI t3), .int s12, .ref m13, .ref m14, .ref m15, .int 1, .ref m17, .ref m18, .ref m19, .ref m20, .ref m21, .ref m22, .ref m23, .ref m24, .ref m25, .ref m26, .ref m27, .ref m28, .int (nI n3), .ref m30, .int s31, .int s32, .int (nI z3), .int (nI t3), .int (nI n3), .ref m36, .ref m37, .ref m38, .ref m39, .long s40])), (m36, ai g 6 Kk), (m13, ai g 6 M2_3), (m37, ai g 6 Lk), (m14, ai g 6 M2_6), (m38, ai g 96 Vk), (m15, ai g 96 M2_9), (m39, ai g 18 Sk), (m30, ai g 18 M2_12)] := hD
    refine lv_aload_n hx hb dX9_restore_87 rfl (lv_at hl 0 rfl) ?_
    refine va_get (D := g.1) (ci := 9) (v := .int (nI z3)) (C := RX9) (T := TX9) (N := 41) hx hb hts q_X9_restore_f_f9 hown hE.1 hP 0 rfl rfl 10 (by decide) (hts (.fieldLink RX9 147 "SoundLawsModel" "sets" "I") q_X9_restore_f_12) (fun _ h9 => h9) rfl dX9_restore_88 ?_
    refine W.widen (k := 0) (n := 0) (Nat.le_of_ble_eq_true rfl) (Nat.le_of_ble_eq_true rfl) ?_
    have hP9 := hP.sub (ws' := [(k0, .inr (9, [.ref m0, .int s1, .int s2, .int s3, .int s4, .int s5, .int s6, .ref m7, .ref m8, .ref m9, .int (nI z3), .int (nI t3), .int s12, .ref m13, .ref m14, .ref m15, .int 1, .ref m17, .ref m18, .ref m19, .ref m20, .ref m21, .ref m22, .ref m23, .ref m24, .ref m25, .ref m26, .ref m27, .ref m28, .int (nI n3), .ref m30, .int s31, .int s32, .int (nI z3), .int (nI t3), .int (nI n3), .ref m36, .ref m37, .ref m38, .ref m39, .long s40])), (m13, ai g 6 M2_3), (m14, ai g 6 M2_6), (m15, ai g 96 M2_9), (m36, ai g 6 Kk), (m37, ai g 6 Lk), (m38, ai g 96 Vk), (m30, ai g 18 M2_12), (m39, ai g 18 Sk)]) [0, 2, 4, 6, 1, 3, 5, 8, 7] rfl
    have hD9 := hD.sub (ws' := [(k0, .inr (9, [.ref m0, .int s1, .int s2, .int s3, .int s4, .int s5, .int s6, .ref m7, .ref m8, .ref m9, .int (nI z3), .int (nI t3), .int s12, .ref m13, .ref m14, .ref m15, .int 1, .ref m17, .ref m18, .ref m19, .ref m20, .ref m21, .ref m22, .ref m23, .ref m24, .ref m25, .ref m26, .ref m27, .ref m28, .int (nI n3), .ref m30, .int s31, .int s32, .int (nI z3), .int (nI t3), .int (nI n3), .ref m36, .ref m37, .ref m38, .ref m39, .long s40])), (m13, ai g 6 M2_3), (m14, ai g 6 M2_6), (m15, ai g 96 M2_9), (m36, ai g 6 Kk), (m37, ai g 6 Lk), (m38, ai g 96 Vk), (m30, ai g 18 M2_12), (m39, ai g 18 Sk)]) [0, 2, 4, 6, 1, 3, 5, 8, 7] (by decide) rfl
    exact k_ri hx hb hr hlocks hS hP9 hD9 ⟨1, z3, t3, n3, M2_3, M2_6, M2_9, M2_12, rfl, (if_pos c8_1), (gst_eq hg3 hM_4 hM_7 hM_10), hn3, Or.inr ⟨c8_1, rfl, rfl, rfl, rfl, hM_4, hM_7, hM_10⟩⟩ dX9_restore_91
  · skip
    refine lv_bipush (v := (-103)) hx hb dX9_restore_11 (by decide) ?_
    refine W.widen (k := 0) (n := 0) (Nat.le_of_ble_eq_true rfl) (Nat.le_of_ble_eq_true rfl) ?_
    exact k_ri hx hb hr hlocks hS hP hD ⟨s16, z, t, n, K, L, V, Sg, rfl, (if_neg c8_1), hg, hn, Or.inl ⟨c8_1, rfl, rfl, rfl, rfl, rfl, rfl, rfl⟩⟩ dX9_restore_13
def po_X9_isPlace_f (g : GG) (k0 : Nat) (m0 : Nat) (s1 : Int32) (s2 : Int32) (s3 : Int32) (s4 : Int32) (s5 : Int32) (s6 : Int32) (m7 : Nat) (m8 : Nat) (m9 : Nat) (s11 : Int32) (s12 : Int32) (m13 : Nat) (m14 : Nat) (m15 : Nat) (s16 : Int32) (m17 : Nat) (m18 : Nat) (m19 : Nat) (m20 : Nat) (m21 : Nat) (m22 : Nat) (m23 : Nat) (m24 : Nat) (m25 : Nat) (m26 : Nat) (m27 : Nat) (m28 : Nat) (s29 : Int32) (m30 : Nat) (s31 : Int32) (s32 : Int32) (s33 : Int32) (s34 : Int32) (s35 : Int32) (m36 : Nat) (m37 : Nat) (m38 : Nat) (m39 : Nat) (s40 : Int64) (z : Nat) (L : Nat → Int32) (p1 : Int32) (p2 : Int32) : Int32 → va_W → Prop := fun (r : Int32) w => w = [(k0, .inr (9, [.ref m0, .int s1, .int s2, .int s3, .int s4, .int s5, .int s6, .ref m7, .ref m8, .ref m9, .int (nI z), .int s11, .int s12, .ref m13, .ref m14, .ref m15, .int s16, .ref m17, .ref m18, .ref m19, .ref m20, .ref m21, .ref m22, .ref m23, .ref m24, .ref m25, .ref m26, .ref m27, .ref m28, .int s29, .ref m30, .int s31, .int s32, .int s33, .int s34, .int s35, .ref m36, .ref m37, .ref m38, .ref m39, .long s40])), (m14, ai g 6 L)] ∧ (mpl p1 p2 z L = r)
theorem q_X9_isPlace_f_f9 : ∀ w ∈ u_ws RX9 TX9 41, w ∈ wsX9_isPlace := by decide +kernel
theorem q_X9_isPlace_f_1 : (Cond.fieldLink RX9 25 "SoundLawsModel" "longs" "[I") ∈ wsX9_isPlace := by decide +kernel
set_option maxHeartbeats 1500000 in
set_option maxRecDepth 100000 in
theorem c_X9_isPlace_f (l : Launch) (g : GG) (k0 : Nat) (m0 : Nat) (s1 : Int32) (s2 : Int32) (s3 : Int32) (s4 : Int32) (s5 : Int32) (s6 : Int32) (m7 : Nat) (m8 : Nat) (m9 : Nat) (s11 : Int32) (s12 : Int32) (m13 : Nat) (m14 : Nat) (m15 : Nat) (s16 : Int32) (m17 : Nat) (m18 : Nat) (m19 : Nat) (m20 : Nat) (m21 : Nat) (m22 : Nat) (m23 : Nat) (m24 : Nat) (m25 : Nat) (m26 : Nat) (m27 : Nat) (m28 : Nat) (s29 : Int32) (m30 : Nat) (s31 : Int32) (s32 : Int32) (s33 : Int32) (s34 : Int32) (s35 : Int32) (m36 : Nat) (m37 : Nat) (m38 : Nat) (m39 : Nat) (s40 : Int64) (z : Nat) (L : Nat → Int32) (p1 : Int32) (p2 : Int32) (hz : z ≤ 6) (hL : rng 6 5 L) (sz : Nat) : MetI l yX9_isPlace wsX9_isPlace ({ frames := 2, cells := 0, slots := 0, locals := 46 }) g [.ref k0, .int p1, .int p2] [(k0, .inr (9, [.ref m0, .int s1, .int s2, .int s3, .int s4, .int s5, .int s6, .ref m7, .ref m8, .ref m9, .int (nI z), .int s11, .int s12, .ref m13, .ref m14, .ref m15, .int s16, .ref m17, .ref m18, .ref m19, .ref m20, .ref m21, .ref m22, .ref m23, .ref m24, .ref m25, .ref m26, .ref m27, .ref m28, .int s29, .ref m30, .int s31, .int s32, .int s33, .int s34, .int s35, .ref m36, .ref m37, .ref m38, .ref m39, .long s40])), (m14, ai g 6 L)] sz (po_X9_isPlace_f g k0 m0 s1 s2 s3 s4 s5 s6 m7 m8 m9 s11 s12 m13 m14 m15 s16 m17 m18 m19 m20 m21 m22 m23 m24 m25 m26 m27 m28 s29 m30 s31 s32 s33 s34 s35 m36 m37 m38 m39 s40 z L p1 p2) 0 0 := by
  refine k_of (l := l) (y := yX9_isPlace) (ws := wsX9_isPlace) (rm := { frames := 2, cells := 0, slots := 0, locals := 46 }) (mc := 0) (ms := 0) (av := [.ref k0, .int p1, .int p2]) (g := g) (wc := [(k0, .inr (9, [.ref m0, .int s1, .int s2, .int s3, .int s4, .int s5, .int s6, .ref m7, .ref m8, .ref m9, .int (nI z), .int s11, .int s12, .ref m13, .ref m14, .ref m15, .int s16, .ref m17, .ref m18, .ref m19, .ref m20, .ref m21, .ref m22, .ref m23, .ref m24, .ref m25, .ref m26, .ref m27, .ref m28, .int s29, .ref m30, .int s31, .int s32, .int s33, .int s34, .int s35, .ref m36, .ref m37, .ref m38, .ref m39, .long s40])), (m14, ai g 6 L)]) (Qc := fun A => va_Qi (po_X9_isPlace_f g k0 m0 s1 s2 s3 s4 s5 s6 m7 m8 m9 s11 s12 m13 m14 m15 s16 m17 m18 m19 m20 m21 m22 m23 m24 m25 m26 m27 m28 s29 m30 s31 s32 s33 s34 s35 m36 m37 m38 m39 s40 z L p1 p2) (bk g A) A) (cc := cX9_isPlace) (maxL := 3) (ret := (some .boolean)) (by decide) rfl (Nat.le_of_ble_eq_true rfl) ?_ sz
  intro p e s m below meth c hx hb hr hts hown hlocks hnm hml A hA hE hZ hP hD hS ls hl
  have hown : s.vm.findClass RX9 = some m.cls := hown
  have hl : lv_has ls 3 [(0, .ref k0), (1, .int p1), (2, .int p2)] := hl
  refine lv_aload_n hx hb dX9_isPlace_0 rfl (lv_at hl 0 rfl) ?_
  refine lv_iload_n hx hb dX9_isPlace_1 rfl (lv_at hl 1 rfl) ?_
  refine k_ci (wr := [(m14, ai g 6 L)]) hP hD hS hA [0] [1] rfl rfl (by decide) (by decide) (va_runV (As := [.int p1]) (rest := []) ⟨hx, hb, hml, hown, hts⟩ (c_X9_isSet_g l g k0 m0 s1 s2 s3 s4 s5 s6 m7 m8 m9 s11 s12 m13 m14 m15 s16 m17 m18 m19 m20 m21 m22 m23 m24 m25 m26 m27 m28 s29 m30 s31 s32 s33 s34 s35 m36 m37 m38 m39 s40 z p1 (by first | assumption | omega) s.heap.size) (cwV 1 hts gX9_isPlace_X9_isSet rfl rfl rfl (by decide +kernel) ⟨Nat.le_of_ble_eq_true rfl, Nat.le_of_ble_eq_true rfl⟩) (k_preV hE hZ hP hD hS hA [0] rfl (by decide) (va_recv hE.1 hP (ci := 9) (q0 := 0) rfl rfl)) rfl rfl hl.1 rfl (lv_room (Nat.le_of_ble_eq_true rfl)) dX9_isPlace_2 ⟨Nat.le_of_ble_eq_true rfl, Nat.le_of_ble_eq_true rfl⟩) (fun r_1 w1 H locs hw hP hD hS => ?_)
  obtain ⟨rfl, rfl⟩ := hw
  have hP : va_P g.1 vwCl [(m14, ai g 6 L), (k0, .inr (9, [.ref m0, .int s1, .int s2, .int s3, .int s4, .int s5, .int s6, .ref m7, .ref m8, .ref m9, .int (nI z), .int s11, .int s12, .ref m13, .ref m14, .ref m15, .int s16, .ref m17, .ref m18, .ref m19, .ref m20, .ref m21, .ref m22, .ref m23, .ref m24, .ref m25, .ref m26, .ref m27, .ref m28, .int s29, .ref m30, .int s31, .int s32, .int s33, .int s34, .int s35, .ref m36, .ref m37, .ref m38, .ref m39, .long s40]))] H := hP
  have hD : va_D A [(m14, ai g 6 L), (k0, .inr (9, [.ref m0, .int s1, .int s2, .int s3, .int s4, .int s5, .int s6, .ref m7, .ref m8, .ref m9, .int (nI z), .int s11, .int s12, .ref m13, .ref m14, .ref m15, .int s16, .ref m17, .ref m18, .ref m19, .ref m20, .ref m21, .ref m22, .ref m23, .ref m24, .ref m25, .ref m26, .ref m27, .ref m28, .int s29, .ref m30, .int s31, .int s32, .int s33, .int s34, .int s35, .ref m36, .ref m37, .ref m38, .ref m39, .long s40]))] := hD
  refine lv_if_eq (tgt := 30) hx hb dX9_isPlace_5 (by decide) (fun c5_3 => ?_) (fun c5_3 => ?_)
  · skip
    refine lv_iconst (v := 0) hx hb dX9_isPlace_30 (by decide) ?_
    refine W.widen (k := 0) (n := 0) (Nat.le_of_ble_eq_true rfl) (Nat.le_of_ble_eq_true rfl) ?_
    have hP9 := hP.sub (ws' := [(k0, .inr (9, [.ref m0, .int s1, .int s2, .int s3, .int s4, .int s5, .int s6, .ref m7, .ref m8, .ref m9, .int (nI z), .int s11, .int s12, .ref m13, .ref m14, .ref m15, .int s16, .ref m17, .ref m18, .ref m19, .ref m20, .ref m21, .ref m22, .ref m23, .ref m24, .ref m25, .ref m26, .ref m27, .ref m28, .int s29, .ref m30, .int s31, .int s32, .int s33, .int s34, .int s35, .ref m36, .ref m37, .ref m38, .ref m39, .long s40])), (m14, ai g 6 L)]) [1, 0] rfl
    have hD9 := hD.sub (ws' := [(k0, .inr (9, [.ref m0, .int s1, .int s2, .int s3, .int s4, .int s5, .int s6, .ref m7, .ref m8, .ref m9, .int (nI z), .int s11, .int s12, .ref m13, .ref m14, .ref m15, .int s16, .ref m17, .ref m18, .ref m19, .ref m20, .ref m21, .ref m22, .ref m23, .ref m24, .ref m25, .ref m26, .ref m27, .ref m28, .int s29, .ref m30, .int s31, .int s32, .int s33, .int s34, .int s35, .ref m36, .ref m37, .ref m38, .ref m39, .long s40])), (m14, ai g 6 L)]) [1, 0] (by decide) rfl
    exact k_rz hx hb hr hlocks hS hP9 hD9 rfl ⟨rfl, (by unfold mpl; rw [if_pos c5_3])⟩ dX9_isPlace_31
  · skip
    obtain ⟨k1, hk1, rfl⟩ := isI_of (p := p1) (by omega) c5_3
    obtain ⟨n1, hn1, en1⟩ := hL k1 (by omega)
    refine lv_iload_n hx hb dX9_isPlace_8 rfl (lv_at hl 2 rfl) ?_
    refine lv_i2l hx hb dX9_isPlace_9 rfl ?_
    refine lv_lconst (v := 0) hx hb dX9_isPlace_10 (by decide) ?_
    refine lv_aload_n hx hb dX9_isPlace_11 rfl (lv_at hl 0 rfl) ?_
    refine va_get (D := g.1) (ci := 9) (v := .ref m14) (C := RX9) (T := TX9) (N := 41) hx hb hts q_X9_isPlace_f_f9 hown hE.1 hP 1 rfl rfl 14 (by decide) (hts (.fieldLink RX9 25 "SoundLawsModel" "longs" "[I") q_X9_isPlace_f_1) (fun _ h9 => h9) rfl dX9_isPlace_12 ?_
    refine lv_iload_n hx hb dX9_isPlace_15 rfl (lv_at hl 1 rfl) ?_
    refine k_ald k1 rfl (by omega) hx hb hE hP 0 rfl (by decide) dX9_isPlace_16 ?_
    refine lv_topi (fun x_4 ex_4 => ?_)
    obtain rfl : x_4 = nI n1 := by rw [ex_4]; exact en1
    refine lv_iconst (v := 1) hx hb dX9_isPlace_17 (by decide) ?_
    refine lv_isub hx hb dX9_isPlace_18 ?_
    refine lv_i2l hx hb dX9_isPlace_19 rfl ?_
    refine k_ci (wr := [(m14, ai g 6 L), (k0, .inr (9, [.ref m0, .int s1, .int s2, .int s3, .int s4, .int s5, .int s6, .ref m7, .ref m8, .ref m9, .int (nI z), .int s11, .int s12, .ref m13, .ref m14, .ref m15, .int s16, .ref m17, .ref m18, .ref m19, .ref m20, .ref m21, .ref m22, .ref m23, .ref m24, .ref m25, .ref m26, .ref m27, .ref m28, .int s29, .ref m30, .int s31, .int s32, .int s33, .int s34, .int s35, .ref m36, .ref m37, .ref m38, .ref m39, .long s40]))]) hP hD hS hA [] [0, 1] rfl rfl (by decide) (by decide) (va_runS (As := [.long ((p2 : Int32).toInt64), .long 0, .long ((((nI n1) - 1) : Int32).toInt64)]) (rest := []) ⟨hx, hb, hml, hown, hts⟩ (c_X9_in l g ((p2 : Int32).toInt64) 0 ((((nI n1) - 1) : Int32).toInt64)  H.size) (va_cwS 3 hts gX9_isPlace_X9_in rfl rfl rfl (by decide +kernel) ⟨Nat.le_of_ble_eq_true rfl, Nat.le_of_ble_eq_true rfl⟩) (k_preS hE hZ hP hD hS hA [] rfl (by decide)) rfl rfl hl.1 rfl (lv_room (Nat.le_of_ble_eq_true rfl)) dX9_isPlace_20 ⟨Nat.le_of_ble_eq_true rfl, Nat.le_of_ble_eq_true rfl⟩) (fun r_5 w1 H locs hw hP hD hS => ?_)
    obtain ⟨rfl, rfl⟩ := hw
    have hP : va_P g.1 vwCl [(m14, ai g 6 L), (k0, .inr (9, [.ref m0, .int s1, .int s2, .int s3, .int s4, .int s5, .int s6, .ref m7, .ref m8, .ref m9, .int (nI z), .int s11, .int s12, .ref m13, .ref m14, .ref m15, .int s16, .ref m17, .ref m18, .ref m19, .ref m20, .ref m21, .ref m22, .ref m23, .ref m24, .ref m25, .ref m26, .ref m27, .ref m28, .int s29, .ref m30, .int s31, .int s32, .int s33, .int s34, .int s35, .ref m36, .ref m37, .ref m38, .ref m39, .long s40]))] H := hP
    have hD : va_D A [(m14, ai g 6 L), (k0, .inr (9, [.ref m0, .int s1, .int s2, .int s3, .int s4, .int s5, .int s6, .ref m7, .ref m8, .ref m9, .int (nI z), .int s11, .int s12, .ref m13, .ref m14, .ref m15, .int s16, .ref m17, .ref m18, .ref m19, .ref m20, .ref m21, .ref m22, .ref m23, .ref m24, .ref m25, .ref m26, .ref m27, .ref m28, .int s29, .ref m30, .int s31, .int s32, .int s33, .int s34, .int s35, .ref m36, .ref m37, .ref m38, .ref m39, .long s40]))] := hD
    refine lv_topi (fun x_7 ex_7 => ?_)
    obtain rfl : x_7 = isI p2 n1 := by rw [ex_7]; exact inL_isI n1 (by omega) p2
    refine lv_if_eq (tgt := 30) hx hb dX9_isPlace_23 (by decide) (fun c23_8 => ?_) (fun c23_8 => ?_)
    · skip
      refine lv_iconst (v := 0) hx hb dX9_isPlace_30 (by decide) ?_
      refine W.widen (k := 0) (n := 0) (Nat.le_of_ble_eq_true rfl) (Nat.le_of_ble_eq_true rfl) ?_
      have hP9 := hP.sub (ws' := [(k0, .inr (9, [.ref m0, .int s1, .int s2, .int s3, .int s4, .int s5, .int s6, .ref m7, .ref m8, .ref m9, .int (nI z), .int s11, .int s12, .ref m13, .ref m14, .ref m15, .int s16, .ref m17, .ref m18, .ref m19, .ref m20, .ref m21, .ref m22, .ref m23, .ref m24, .ref m25, .ref m26, .ref m27, .ref m28, .int s29, .ref m30, .int s31, .int s32, .int s33, .int s34, .int s35, .ref m36, .ref m37, .ref m38, .ref m39, .long s40])), (m14, ai g 6 L)]) [1, 0] rfl
      have hD9 := hD.sub (ws' := [(k0, .inr (9, [.ref m0, .int s1, .int s2, .int s3, .int s4, .int s5, .int s6, .ref m7, .ref m8, .ref m9, .int (nI z), .int s11, .int s12, .ref m13, .ref m14, .ref m15, .int s16, .ref m17, .ref m18, .ref m19, .ref m20, .ref m21, .ref m22, .ref m23, .ref m24, .ref m25, .ref m26, .ref m27, .ref m28, .int s29, .ref m30, .int s31, .int s32, .int s33, .int s34, .int s35, .ref m36, .ref m37, .ref m38, .ref m39, .long s40])), (m14, ai g 6 L)]) [1, 0] (by decide) rfl
      exact k_rz hx hb hr hlocks hS hP9 hD9 rfl ⟨rfl, (by unfold mpl; rw [if_neg c5_3, nI_clamp (by omega), en1]; exact c23_8)⟩ dX9_isPlace_31
    · skip
      refine lv_iconst (v := 1) hx hb dX9_isPlace_26 (by decide) ?_
      refine lv_goto (tgt := 31) hx hb dX9_isPlace_27 (by decide) ?_
      refine W.widen (k := 0) (n := 0) (Nat.le_of_ble_eq_true rfl) (Nat.le_of_ble_eq_true rfl) ?_
      have hP9 := hP.sub (ws' := [(k0, .inr (9, [.ref m0, .int s1, .int s2, .int s3, .int s4, .int s5, .int s6, .ref m7, .ref m8, .ref m9, .int (nI z), .int s11, .int s12, .ref m13, .ref m14, .ref m15, .int s16, .ref m17, .ref m18, .ref m19, .ref m20, .ref m21, .ref m22, .ref m23, .ref m24, .ref m25, .ref m26, .ref m27, .ref m28, .int s29, .ref m30, .int s31, .int s32, .int s33, .int s34, .int s35, .ref m36, .ref m37, .ref m38, .ref m39, .long s40])), (m14, ai g 6 L)]) [1, 0] rfl
      have hD9 := hD.sub (ws' := [(k0, .inr (9, [.ref m0, .int s1, .int s2, .int s3, .int s4, .int s5, .int s6, .ref m7, .ref m8, .ref m9, .int (nI z), .int s11, .int s12, .ref m13, .ref m14, .ref m15, .int s16, .ref m17, .ref m18, .ref m19, .ref m20, .ref m21, .ref m22, .ref m23, .ref m24, .ref m25, .ref m26, .ref m27, .ref m28, .int s29, .ref m30, .int s31, .int s32, .int s33, .int s34, .int s35, .ref m36, .ref m37, .ref m38, .ref m39, .long s40])), (m14, ai g 6 L)]) [1, 0] (by decide) rfl
      exact k_rz hx hb hr hlocks hS hP9 hD9 rfl ⟨rfl, (by unfold mpl; rw [if_neg c5_3, nI_clamp (by omega), en1]; exact (isI_1 c23_8))⟩ dX9_isPlace_31
def po_X9_isOnlyNone_f (g : GG) (k0 : Nat) (m0 : Nat) (s1 : Int32) (s2 : Int32) (s3 : Int32) (s4 : Int32) (s5 : Int32) (s6 : Int32) (m7 : Nat) (m8 : Nat) (m9 : Nat) (s10 : Int32) (s11 : Int32) (s12 : Int32) (m13 : Nat) (m14 : Nat) (m15 : Nat) (s16 : Int32) (m17 : Nat) (m18 : Nat) (m19 : Nat) (m20 : Nat) (m21 : Nat) (m22 : Nat) (m23 : Nat) (m24 : Nat) (m25 : Nat) (m26 : Nat) (m27 : Nat) (m28 : Nat) (s29 : Int32) (m30 : Nat) (s31 : Int32) (s32 : Int32) (s33 : Int32) (s34 : Int32) (s35 : Int32) (m36 : Nat) (m37 : Nat) (m38 : Nat) (m39 : Nat) (s40 : Int64) (L : Nat → Int32) (V : Nat → Int32) (k : Nat) (u : Nat) (n : Nat) : Int32 → va_W → Prop := fun (r : Int32) w => w = [(k0, .inr (9, [.ref m0, .int s1, .int s2, .int s3, .int s4, .int s5, .int s6, .ref m7, .ref m8, .ref m9, .int s10, .int s11, .int s12, .ref m13, .ref m14, .ref m15, .int s16, .ref m17, .ref m18, .ref m19, .ref m20, .ref m21, .ref m22, .ref m23, .ref m24, .ref m25, .ref m26, .ref m27, .ref m28, .int s29, .ref m30, .int s31, .int s32, .int s33, .int s34, .int s35, .ref m36, .ref m37, .ref m38, .ref m39, .long s40])), (m14, ai g 6 L), (m15, ai g 96 V)] ∧ (nzw V (16 * k + 4 * u) n r)
theorem q_X9_isOnlyNone_f_f9 : ∀ w ∈ u_ws RX9 TX9 41, w ∈ wsX9_isOnlyNone := by decide +kernel
theorem q_X9_isOnlyNone_f_1 : (Cond.fieldLink RX9 25 "SoundLawsModel" "longs" "[I") ∈ wsX9_isOnlyNone := by decide +kernel
theorem q_X9_isOnlyNone_f_2 : (Cond.fieldLink RX9 28 "SoundLawsModel" "words" "[I") ∈ wsX9_isOnlyNone := by decide +kernel
set_option maxHeartbeats 1500000 in
set_option maxRecDepth 100000 in
theorem c_X9_isOnlyNone_f (l : Launch) (g : GG) (k0 : Nat) (m0 : Nat) (s1 : Int32) (s2 : Int32) (s3 : Int32) (s4 : Int32) (s5 : Int32) (s6 : Int32) (m7 : Nat) (m8 : Nat) (m9 : Nat) (s10 : Int32) (s11 : Int32) (s12 : Int32) (m13 : Nat) (m14 : Nat) (m15 : Nat) (s16 : Int32) (m17 : Nat) (m18 : Nat) (m19 : Nat) (m20 : Nat) (m21 : Nat) (m22 : Nat) (m23 : Nat) (m24 : Nat) (m25 : Nat) (m26 : Nat) (m27 : Nat) (m28 : Nat) (s29 : Int32) (m30 : Nat) (s31 : Int32) (s32 : Int32) (s33 : Int32) (s34 : Int32) (s35 : Int32) (m36 : Nat) (m37 : Nat) (m38 : Nat) (m39 : Nat) (s40 : Int64) (L : Nat → Int32) (V : Nat → Int32) (k : Nat) (u : Nat) (n : Nat) (hk : k < 6) (hu : u < 4) (eL : L k = nI n) (hn : n < 5) (sz : Nat) : MetI l yX9_isOnlyNone wsX9_isOnlyNone ({ frames := 0, cells := 0, slots := 0, locals := 0 }) g [.ref k0, .int (nI k), .int (nI u)] [(k0, .inr (9, [.ref m0, .int s1, .int s2, .int s3, .int s4, .int s5, .int s6, .ref m7, .ref m8, .ref m9, .int s10, .int s11, .int s12, .ref m13, .ref m14, .ref m15, .int s16, .ref m17, .ref m18, .ref m19, .ref m20, .ref m21, .ref m22, .ref m23, .ref m24, .ref m25, .ref m26, .ref m27, .ref m28, .int s29, .ref m30, .int s31, .int s32, .int s33, .int s34, .int s35, .ref m36, .ref m37, .ref m38, .ref m39, .long s40])), (m14, ai g 6 L), (m15, ai g 96 V)] sz (po_X9_isOnlyNone_f g k0 m0 s1 s2 s3 s4 s5 s6 m7 m8 m9 s10 s11 s12 m13 m14 m15 s16 m17 m18 m19 m20 m21 m22 m23 m24 m25 m26 m27 m28 s29 m30 s31 s32 s33 s34 s35 m36 m37 m38 m39 s40 L V k u n) 0 0 := by
  refine k_of (l := l) (y := yX9_isOnlyNone) (ws := wsX9_isOnlyNone) (rm := { frames := 0, cells := 0, slots := 0, locals := 0 }) (mc := 0) (ms := 0) (av := [.ref k0, .int (nI k), .int (nI u)]) (g := g) (wc := [(k0, .inr (9, [.ref m0, .int s1, .int s2, .int s3, .int s4, .int s5, .int s6, .ref m7, .ref m8, .ref m9, .int s10, .int s11, .int s12, .ref m13, .ref m14, .ref m15, .int s16, .ref m17, .ref m18, .ref m19, .ref m20, .ref m21, .ref m22, .ref m23, .ref m24, .ref m25, .ref m26, .ref m27, .ref m28, .int s29, .ref m30, .int s31, .int s32, .int s33, .int s34, .int s35, .ref m36, .ref m37, .ref m38, .ref m39, .long s40])), (m14, ai g 6 L), (m15, ai g 96 V)]) (Qc := fun A => va_Qi (po_X9_isOnlyNone_f g k0 m0 s1 s2 s3 s4 s5 s6 m7 m8 m9 s10 s11 s12 m13 m14 m15 s16 m17 m18 m19 m20 m21 m22 m23 m24 m25 m26 m27 m28 s29 m30 s31 s32 s33 s34 s35 m36 m37 m38 m39 s40 L V k u n) (bk g A) A) (cc := cX9_isOnlyNone) (maxL := 5) (ret := (some .boolean)) (by decide) rfl (Nat.le_of_ble_eq_true rfl) ?_ sz
  intro p e s m below meth c hx hb hr hts hown hlocks hnm hml A hA hE hZ hP hD hS ls hl
  have hown : s.vm.findClass RX9 = some m.cls := hown
  have hl : lv_has ls 5 [(0, .ref k0), (1, .int (nI k)), (2, .int (nI u))] := hl
  refine lv_iconst (v := 1) hx hb dX9_isOnlyNone_0 (by decide) ?_
  refine lv_istore_n (lv' := [(3, .int 1), (0, .ref k0), (1, .int (nI k)), (2, .int (nI u))]) hx hb dX9_isOnlyNone_1 rfl hl (by decide) rfl (fun ls hl => ?_)
  refine lv_iconst (v := 0) hx hb dX9_isOnlyNone_2 (by decide) ?_
  refine lv_istore (lv' := [(4, .int 0), (3, .int 1), (0, .ref k0), (1, .int (nI k)), (2, .int (nI u))]) hx hb dX9_isOnlyNone_3 hl (by decide) rfl (fun ls hl => ?_)
  have loop5 : ∀ (fu : Nat) (x : Nat) (b3 : Int32), (hxx : x ≤ n) → (hz9 : nzw V (16 * k + 4 * u) x b3) → n - x < fu → ∀ (H : Heap) (locs : List Loc) (ls : Array Slot), va_P g.1 vwCl [(k0, .inr (9, [.ref m0, .int s1, .int s2, .int s3, .int s4, .int s5, .int s6, .ref m7, .ref m8, .ref m9, .int s10, .int s11, .int s12, .ref m13, .ref m14, .ref m15, .int s16, .ref m17, .ref m18, .ref m19, .ref m20, .ref m21, .ref m22, .ref m23, .ref m24, .ref m25, .ref m26, .ref m27, .ref m28, .int s29, .ref m30, .int s31, .int s32, .int s33, .int s34, .int s35, .ref m36, .ref m37, .ref m38, .ref m39, .long s40])), (m14, ai g 6 L), (m15, ai g 96 V)] H → va_D A [(k0, .inr (9, [.ref m0, .int s1, .int s2, .int s3, .int s4, .int s5, .int s6, .ref m7, .ref m8, .ref m9, .int s10, .int s11, .int s12, .ref m13, .ref m14, .ref m15, .int s16, .ref m17, .ref m18, .ref m19, .ref m20, .ref m21, .ref m22, .ref m23, .ref m24, .ref m25, .ref m26, .ref m27, .ref m28, .int s29, .ref m30, .int s31, .int s32, .int s33, .int s34, .int s35, .ref m36, .ref m37, .ref m38, .ref m39, .long s40])), (m14, ai g 6 L), (m15, ai g 96 V)] → va_S A s.heap H locs → lv_has ls 5 [(0, .ref k0), (1, .int (nI k)), (2, .int (nI u)), (3, .int b3), (4, .int (nI x))] → W p l e ({ frames := 0, cells := 0, slots := 0, locals := 0 }) s m [.ref k0, .int (nI k), .int (nI u)].toArray below meth c H locs 0 0 (MQ below (va_Qi (po_X9_isOnlyNone_f g k0 m0 s1 s2 s3 s4 s5 s6 m7 m8 m9 s10 s11 s12 m13 m14 m15 s16 m17 m18 m19 m20 m21 m22 m23 m24 m25 m26 m27 m28 s29 m30 s31 s32 s33 s34 s35 m36 m37 m38 m39 s40 L V k u n) (bk g A) A) [.ref k0, .int (nI k), .int (nI u)].toArray s 0 0 A) (F0 m 5 ls []) := by
    intro fu
    induction fu with
    | zero => intro x b3 hxx hz9 hfu; exact absurd hfu (Nat.not_lt_zero _)
    | succ fu ih =>
      intro x b3 hxx hz9 hfu H locs ls hP hD hS hl
      have ih5 := ih
      refine lv_iload hx hb dX9_isOnlyNone_5 (lv_at hl 4 rfl) ?_
      refine lv_aload_n hx hb dX9_isOnlyNone_7 rfl (lv_at hl 0 rfl) ?_
      refine va_get (D := g.1) (ci := 9) (v := .ref m14) (C := RX9) (T := TX9) (N := 41) hx hb hts q_X9_isOnlyNone_f_f9 hown hE.1 hP 0 rfl rfl 14 (by decide) (hts (.fieldLink RX9 25 "SoundLawsModel" "longs" "[I") q_X9_isOnlyNone_f_1) (fun _ h9 => h9) rfl dX9_isOnlyNone_8 ?_
      refine lv_iload_n hx hb dX9_isOnlyNone_11 rfl (lv_at hl 1 rfl) ?_
      refine k_ald k rfl (by omega) hx hb hE hP 1 rfl (by decide) dX9_isOnlyNone_12 ?_
      refine lv_topi (fun x_1 ex_1 => ?_)
      obtain rfl : x_1 = nI n := by rw [ex_1]; exact eL
      refine lv_icmp_ge (tgt := 51) hx hb dX9_isOnlyNone_13 (by decide) (fun c13_2 => ?_) (fun c13_2 => ?_)
      · skip
        have hx9 := ge_of_le (k := n) (n := x) (by omega) (by omega) c13_2; obtain rfl : x = n := by omega
        refine lv_iload_n hx hb dX9_isOnlyNone_51 rfl (lv_at hl 3 rfl) ?_
        refine W.widen (k := 0) (n := 0) (Nat.le_of_ble_eq_true rfl) (Nat.le_of_ble_eq_true rfl) ?_
        exact k_rz hx hb hr hlocks hS hP hD (b3_nar hz9.1) ⟨rfl, hz9⟩ dX9_isOnlyNone_52
      · skip
        have hx9 := lt_of_nle (k := n) (n := x) (by omega) (by omega) c13_2
        refine lv_iload_n hx hb dX9_isOnlyNone_16 rfl (lv_at hl 3 rfl) ?_
        refine lv_if_eq (tgt := 43) hx hb dX9_isOnlyNone_17 (by decide) (fun c17_3 => ?_) (fun c17_3 => ?_)
        · skip
          refine lv_iconst (v := 0) hx hb dX9_isOnlyNone_43 (by decide) ?_
          refine lv_istore_n (lv' := [(3, .int 0), (0, .ref k0), (1, .int (nI k)), (2, .int (nI u)), (4, .int (nI x))]) hx hb dX9_isOnlyNone_44 rfl hl (by decide) rfl (fun ls hl => ?_)
          refine lv_iinc (v := (nI (x + 1))) (lv' := [(4, .int (nI (x + 1))), (3, .int 0), (0, .ref k0), (1, .int (nI k)), (2, .int (nI u))]) hx hb dX9_isOnlyNone_45 hl (k := 4) rfl (nI_1 _) (by decide) rfl (fun ls hl => ?_)
          refine lv_goto (tgt := 5) hx hb dX9_isOnlyNone_48 (by decide) ?_
          exact ih5 (x + 1) _ (by omega) (nzw_a hz9 c17_3) (by omega) _ _ _ hP hD hS (lv_sub hl [2, 3, 4, 1, 0] rfl)
        · skip
          refine lv_aload_n hx hb dX9_isOnlyNone_20 rfl (lv_at hl 0 rfl) ?_
          refine va_get (D := g.1) (ci := 9) (v := .ref m15) (C := RX9) (T := TX9) (N := 41) hx hb hts q_X9_isOnlyNone_f_f9 hown hE.1 hP 0 rfl rfl 15 (by decide) (hts (.fieldLink RX9 28 "SoundLawsModel" "words" "[I") q_X9_isOnlyNone_f_2) (fun _ h9 => h9) rfl dX9_isOnlyNone_21 ?_
          refine lv_bipush (v := 16) hx hb dX9_isOnlyNone_24 (by decide) ?_
          refine lv_iload_n hx hb dX9_isOnlyNone_26 rfl (lv_at hl 1 rfl) ?_
          refine lv_imul hx hb dX9_isOnlyNone_27 ?_
          refine lv_iconst (v := 4) hx hb dX9_isOnlyNone_28 (by decide) ?_
          refine lv_iload_n hx hb dX9_isOnlyNone_29 rfl (lv_at hl 2 rfl) ?_
          refine lv_imul hx hb dX9_isOnlyNone_30 ?_
          refine lv_iadd hx hb dX9_isOnlyNone_31 ?_
          refine lv_iload hx hb dX9_isOnlyNone_32 (lv_at hl 4 rfl) ?_
          refine lv_iadd hx hb dX9_isOnlyNone_34 ?_
          refine k_ald (16 * k + 4 * u + x) (by rw [show (16 : Int32) = nI 16 from rfl, show (4 : Int32) = nI 4 from rfl, pk_mul, pk_mul, nI_add, nI_add]) (by omega) hx hb hE hP 2 rfl (by decide) dX9_isOnlyNone_35 ?_
          refine lv_if_ne (tgt := 43) hx hb dX9_isOnlyNone_36 (by decide) (fun c36_4 => ?_) (fun c36_4 => ?_)
          · skip
            refine lv_iconst (v := 0) hx hb dX9_isOnlyNone_43 (by decide) ?_
            refine lv_istore_n (lv' := [(3, .int 0), (0, .ref k0), (1, .int (nI k)), (2, .int (nI u)), (4, .int (nI x))]) hx hb dX9_isOnlyNone_44 rfl hl (by decide) rfl (fun ls hl => ?_)
            refine lv_iinc (v := (nI (x + 1))) (lv' := [(4, .int (nI (x + 1))), (3, .int 0), (0, .ref k0), (1, .int (nI k)), (2, .int (nI u))]) hx hb dX9_isOnlyNone_45 hl (k := 4) rfl (nI_1 _) (by decide) rfl (fun ls hl => ?_)
            refine lv_goto (tgt := 5) hx hb dX9_isOnlyNone_48 (by decide) ?_
            exact ih5 (x + 1) _ (by omega) (nzw_c c36_4) (by omega) _ _ _ hP hD hS (lv_sub hl [2, 3, 4, 1, 0] rfl)
          · skip
            refine lv_iconst (v := 1) hx hb dX9_isOnlyNone_39 (by decide) ?_
            refine lv_goto (tgt := 44) hx hb dX9_isOnlyNone_40 (by decide) ?_
            refine lv_istore_n (lv' := [(3, .int 1), (0, .ref k0), (1, .int (nI k)), (2, .int (nI u)), (4, .int (nI x))]) hx hb dX9_isOnlyNone_44 rfl hl (by decide) rfl (fun ls hl => ?_)
            refine lv_iinc (v := (nI (x + 1))) (lv' := [(4, .int (nI (x + 1))), (3, .int 1), (0, .ref k0), (1, .int (nI k)), (2, .int (nI u))]) hx hb dX9_isOnlyNone_45 hl (k := 4) rfl (nI_1 _) (by decide) rfl (fun ls hl => ?_)
            refine lv_goto (tgt := 5) hx hb dX9_isOnlyNone_48 (by decide) ?_
            exact ih5 (x + 1) _ (by omega) (nzw_b hz9 c17_3 c36_4) (by omega) _ _ _ hP hD hS (lv_sub hl [2, 3, 4, 1, 0] rfl)
  exact loop5 _ 0 1 (Nat.zero_le n) nzw_0 (Nat.lt_succ_self _) _ _ _ hP hD hS (lv_sub hl [2, 3, 4, 1, 0] rfl)
def po_X5_exchange_f (g : GG) (sk : Nat) (s1 : Nat) (s2 : Nat) (s3 : Nat) (K : Nat → Int32) (L : Nat → Int32) (V : Nat → Int32) (u1 : Int32) (z : Nat) (i : Nat) (j : Nat) : va_W → Prop := fun w => ∃ (V3 : Nat → Int32), w = [(sk, .inr (5, [.int (nI z), .int u1, .ref s1, .ref s2, .ref s3])), (s1, ai g 6 K), (s2, ai g 6 L), (s3, ai g 96 V3)] ∧ (XV i j V (fun k x => k < z ∧ nI x < L k) V3)
theorem q_X5_exchange_f_f5 : ∀ w ∈ u_ws RX5 TX5 5, w ∈ wsX5_exchange := by decide +kernel
theorem q_X5_exchange_f_1 : (Cond.fieldLink RX5 21 "SoundLaws$Stock" "size" "I") ∈ wsX5_exchange := by decide +kernel
theorem q_X5_exchange_f_2 : (Cond.fieldLink RX5 15 "SoundLaws$Stock" "lengths" "[I") ∈ wsX5_exchange := by decide +kernel
theorem q_X5_exchange_f_3 : (Cond.initialized RX8) ∈ wsX5_exchange := by decide +kernel
theorem q_X5_exchange_f_4 : (Cond.static yX8_wordAt) ∈ wsX5_exchange := by decide +kernel
theorem q_X5_exchange_f_5 : (Cond.fieldLink RX5 18 "SoundLaws$Stock" "words" "[I") ∈ wsX5_exchange := by decide +kernel
set_option maxHeartbeats 1500000 in
set_option maxRecDepth 100000 in
theorem c_X5_exchange_f (l : Launch) (g : GG) (sk : Nat) (s1 : Nat) (s2 : Nat) (s3 : Nat) (K : Nat → Int32) (L : Nat → Int32) (V : Nat → Int32) (u1 : Int32) (z : Nat) (i : Nat) (j : Nat) (hz : z ≤ 6) (hi : i < 4) (hj : j < 4) (hij : ¬ i = j) (hL : rng 6 5 L) (sz : Nat) : MetV l yX5_exchange wsX5_exchange ({ frames := 1, cells := 0, slots := 0, locals := 21 }) g [.ref sk, .int (nI i), .int (nI j)] [(sk, .inr (5, [.int (nI z), .int u1, .ref s1, .ref s2, .ref s3])), (s1, ai g 6 K), (s2, ai g 6 L), (s3, ai g 96 V)] sz (po_X5_exchange_f g sk s1 s2 s3 K L V u1 z i j) 0 0 := by
  refine k_of (l := l) (y := yX5_exchange) (ws := wsX5_exchange) (rm := { frames := 1, cells := 0, slots := 0, locals := 21 }) (mc := 0) (ms := 0) (av := [.ref sk, .int (nI i), .int (nI j)]) (g := g) (wc := [(sk, .inr (5, [.int (nI z), .int u1, .ref s1, .ref s2, .ref s3])), (s1, ai g 6 K), (s2, ai g 6 L), (s3, ai g 96 V)]) (Qc := fun A => va_Qv (po_X5_exchange_f g sk s1 s2 s3 K L V u1 z i j) (bk g A) A) (cc := cX5_exchange) (maxL := 8) (ret := none) (by decide) rfl (Nat.le_of_ble_eq_true rfl) ?_ sz
  intro p e s m below meth c hx hb hr hts hown hlocks hnm hml A hA hE hZ hP hD hS ls hl
  have hown : s.vm.findClass RX5 = some m.cls := hown
  have hl : lv_has ls 8 [(0, .ref sk), (1, .int (nI i)), (2, .int (nI j))] := hl
  refine lv_iconst (v := 0) hx hb dX5_exchange_0 (by decide) ?_
  refine lv_istore_n (lv' := [(3, .int 0), (0, .ref sk), (1, .int (nI i)), (2, .int (nI j))]) hx hb dX5_exchange_1 rfl hl (by decide) rfl (fun ls hl => ?_)
  have loop2 : ∀ (fu : Nat) (a : Nat) (V1 : Nat → Int32), (ha : a ≤ z) → (hV1 : XV i j V (fun k x => k < a ∧ nI x < L k) V1) → z - a < fu → ∀ (H : Heap) (locs : List Loc) (ls : Array Slot), va_P g.1 vwCl [(sk, .inr (5, [.int (nI z), .int u1, .ref s1, .ref s2, .ref s3])), (s1, ai g 6 K), (s2, ai g 6 L), (s3, ai g 96 V1)] H → va_D A [(sk, .inr (5, [.int (nI z), .int u1, .ref s1, .ref s2, .ref s3])), (s1, ai g 6 K), (s2, ai g 6 L), (s3, ai g 96 V1)] → va_S A s.heap H locs → lv_has ls 8 [(0, .ref sk), (1, .int (nI i)), (2, .int (nI j)), (3, .int (nI a))] → W p l e ({ frames := 1, cells := 0, slots := 0, locals := 21 }) s m [.ref sk, .int (nI i), .int (nI j)].toArray below meth c H locs 0 0 (MQ below (va_Qv (po_X5_exchange_f g sk s1 s2 s3 K L V u1 z i j) (bk g A) A) [.ref sk, .int (nI i), .int (nI j)].toArray s 0 0 A) (F0 m 2 ls []) := by
    intro fu
    induction fu with
    | zero => intro a V1 ha hV1 hfu; exact absurd hfu (Nat.not_lt_zero _)
    | succ fu ih =>
      intro a V1 ha hV1 hfu H locs ls hP hD hS hl
      have ih2 := ih
      refine lv_iload_n hx hb dX5_exchange_2 rfl (lv_at hl 3 rfl) ?_
      refine lv_aload_n hx hb dX5_exchange_3 rfl (lv_at hl 0 rfl) ?_
      refine va_get (D := g.1) (ci := 5) (v := .int (nI z)) (C := RX5) (T := TX5) (N := 5) hx hb hts q_X5_exchange_f_f5 hown hE.1 hP 0 rfl rfl 0 (by decide) (hts (.fieldLink RX5 21 "SoundLaws$Stock" "size" "I") q_X5_exchange_f_1) (fun _ h9 => h9) rfl dX5_exchange_4 ?_
      refine lv_icmp_ge (tgt := 88) hx hb dX5_exchange_7 (by decide) (fun c7_1 => ?_) (fun c7_1 => ?_)
      · skip
        have ha9 := ge_of_le (k := z) (n := a) (by omega) (by omega) c7_1; obtain rfl : a = z := by omega
        refine W.widen (k := 0) (n := 0) (Nat.le_of_ble_eq_true rfl) (Nat.le_of_ble_eq_true rfl) ?_
        exact k_rv hx hb hr hlocks hS hP hD ⟨V1, rfl, hV1⟩ dX5_exchange_88
      · skip
        have ha9 := lt_of_nle (k := z) (n := a) (by omega) (by omega) c7_1
        refine lv_iconst (v := 0) hx hb dX5_exchange_10 (by decide) ?_
        refine lv_istore (lv' := [(4, .int 0), (0, .ref sk), (1, .int (nI i)), (2, .int (nI j)), (3, .int (nI a))]) hx hb dX5_exchange_11 hl (by decide) rfl (fun ls hl => ?_)
        obtain ⟨n, hn, en⟩ := hL (a) (by omega)
        have loop13 : ∀ (fu : Nat) (q : Nat) (V2 : Nat → Int32), (hq : q ≤ n) → (hV2 : XV i j V (fun k x => (k < a ∧ nI x < L k) ∨ (k = a ∧ x < q)) V2) → n - q < fu → ∀ (H : Heap) (locs : List Loc) (ls : Array Slot), va_P g.1 vwCl [(sk, .inr (5, [.int (nI z), .int u1, .ref s1, .ref s2, .ref s3])), (s1, ai g 6 K), (s2, ai g 6 L), (s3, ai g 96 V2)] H → va_D A [(sk, .inr (5, [.int (nI z), .int u1, .ref s1, .ref s2, .ref s3])), (s1, ai g 6 K), (s2, ai g 6 L), (s3, ai g 96 V2)] → va_S A s.heap H locs → lv_has ls 8 [(0, .ref sk), (1, .int (nI i)), (2, .int (nI j)), (3, .int (nI a)), (4, .int (nI q))] → W p l e ({ frames := 1, cells := 0, slots := 0, locals := 21 }) s m [.ref sk, .int (nI i), .int (nI j)].toArray below meth c H locs 0 0 (MQ below (va_Qv (po_X5_exchange_f g sk s1 s2 s3 K L V u1 z i j) (bk g A) A) [.ref sk, .int (nI i), .int (nI j)].toArray s 0 0 A) (F0 m 13 ls []) := by
          intro fu
          induction fu with
          | zero => intro q V2 hq hV2 hfu; exact absurd hfu (Nat.not_lt_zero _)
          | succ fu ih =>
            intro q V2 hq hV2 hfu H locs ls hP hD hS hl
            have ih13 := ih
            refine lv_iload hx hb dX5_exchange_13 (lv_at hl 4 rfl) ?_
            refine lv_aload_n hx hb dX5_exchange_15 rfl (lv_at hl 0 rfl) ?_
            refine va_get (D := g.1) (ci := 5) (v := .ref s2) (C := RX5) (T := TX5) (N := 5) hx hb hts q_X5_exchange_f_f5 hown hE.1 hP 0 rfl rfl 3 (by decide) (hts (.fieldLink RX5 15 "SoundLaws$Stock" "lengths" "[I") q_X5_exchange_f_2) (fun _ h9 => h9) rfl dX5_exchange_16 ?_
            refine lv_iload_n hx hb dX5_exchange_19 rfl (lv_at hl 3 rfl) ?_
            refine k_ald a rfl (by omega) hx hb hE hP 2 rfl (by decide) dX5_exchange_20 ?_
            refine lv_topi (fun x_2 ex_2 => ?_)
            obtain rfl : x_2 = nI n := by rw [ex_2]; exact en
            refine lv_icmp_ge (tgt := 82) hx hb dX5_exchange_21 (by decide) (fun c21_3 => ?_) (fun c21_3 => ?_)
            · skip
              have hq9 := ge_of_le (k := n) (n := q) (by omega) (by omega) c21_3; obtain rfl : q = n := by omega
              refine lv_iinc (v := (nI (a + 1))) (lv' := [(3, .int (nI (a + 1))), (0, .ref sk), (1, .int (nI i)), (2, .int (nI j)), (4, .int (nI q))]) hx hb dX5_exchange_82 hl (k := 3) rfl (nI_1 _) (by decide) rfl (fun ls hl => ?_)
              refine lv_goto (tgt := 2) hx hb dX5_exchange_85 (by decide) ?_
              exact ih2 (a + 1) _ (by omega) (XV_D hV2 (exq en (by omega))) (by omega) _ _ _ hP hD hS (lv_sub hl [1, 2, 3, 0] rfl)
            · skip
              have hq9 := lt_of_nle (k := n) (n := q) (by omega) (by omega) c21_3
              refine lv_iload_n hx hb dX5_exchange_24 rfl (lv_at hl 3 rfl) ?_
              refine lv_iload_n hx hb dX5_exchange_25 rfl (lv_at hl 1 rfl) ?_
              refine k_ci (wr := [(sk, .inr (5, [.int (nI z), .int u1, .ref s1, .ref s2, .ref s3])), (s1, ai g 6 K), (s2, ai g 6 L), (s3, ai g 96 V2)]) hP hD hS hA [] [0, 1, 2, 3] rfl rfl (by decide) (by decide) (va_runSN (As := [.int (nI a), .int (nI i)]) (rest := []) ⟨hx, hb, hml, hown, hts⟩ (c_X8_wordAt_g l g a i  H.size) ⟨va_cnB 2 hts gX5_exchange_X8_wordAt_n34 rfl rfl rfl (hE.nw 26 rfl) (hts (.initialized RX8) q_X5_exchange_f_3) (by decide +kernel) ⟨Nat.le_of_ble_eq_true rfl, Nat.le_of_ble_eq_true rfl⟩, (hts (.static yX8_wordAt) q_X5_exchange_f_4), trivial⟩ (k_preS hE hZ hP hD hS hA [] rfl (by decide)) rfl rfl hl.1 rfl (lv_room (Nat.le_of_ble_eq_true rfl)) dX5_exchange_26 ⟨Nat.le_of_ble_eq_true rfl, Nat.le_of_ble_eq_true rfl⟩) (fun r_4 w1 H locs hw hP hD hS => ?_)
              obtain ⟨rfl, rfl⟩ := hw
              have hP : va_P g.1 vwCl [(sk, .inr (5, [.int (nI z), .int u1, .ref s1, .ref s2, .ref s3])), (s1, ai g 6 K), (s2, ai g 6 L), (s3, ai g 96 V2)] H := hP
              have hD : va_D A [(sk, .inr (5, [.int (nI z), .int u1, .ref s1, .ref s2, .ref s3])), (s1, ai g 6 K), (s2, ai g 6 L), (s3, ai g 96 V2)] := hD
              refine lv_iload hx hb dX5_exchange_29 (lv_at hl 4 rfl) ?_
              refine lv_iadd hx hb dX5_exchange_31 ?_
              refine lv_topi (fun x_6 ex_6 => ?_)
              obtain rfl : x_6 = nI (16 * a + 4 * i + q) := by rw [ex_6]; exact nI_add _ _
              refine lv_istore (lv' := [(5, .int (nI (16 * a + 4 * i + q))), (0, .ref sk), (1, .int (nI i)), (2, .int (nI j)), (3, .int (nI a)), (4, .int (nI q))]) hx hb dX5_exchange_32 hl (by decide) rfl (fun ls hl => ?_)
              refine lv_iload_n hx hb dX5_exchange_34 rfl (lv_at hl 4 rfl) ?_
              refine lv_iload_n hx hb dX5_exchange_35 rfl (lv_at hl 3 rfl) ?_
              refine k_ci (wr := [(sk, .inr (5, [.int (nI z), .int u1, .ref s1, .ref s2, .ref s3])), (s1, ai g 6 K), (s2, ai g 6 L), (s3, ai g 96 V2)]) hP hD hS hA [] [0, 1, 2, 3] rfl rfl (by decide) (by decide) (va_runSN (As := [.int (nI a), .int (nI j)]) (rest := []) ⟨hx, hb, hml, hown, hts⟩ (c_X8_wordAt_g l g a j  H.size) ⟨va_cnB 2 hts gX5_exchange_X8_wordAt_n34 rfl rfl rfl (hE.nw 26 rfl) (hts (.initialized RX8) q_X5_exchange_f_3) (by decide +kernel) ⟨Nat.le_of_ble_eq_true rfl, Nat.le_of_ble_eq_true rfl⟩, (hts (.static yX8_wordAt) q_X5_exchange_f_4), trivial⟩ (k_preS hE hZ hP hD hS hA [] rfl (by decide)) rfl rfl hl.1 rfl (lv_room (Nat.le_of_ble_eq_true rfl)) dX5_exchange_36 ⟨Nat.le_of_ble_eq_true rfl, Nat.le_of_ble_eq_true rfl⟩) (fun r_7 w1 H locs hw hP hD hS => ?_)
              obtain ⟨rfl, rfl⟩ := hw
              have hP : va_P g.1 vwCl [(sk, .inr (5, [.int (nI z), .int u1, .ref s1, .ref s2, .ref s3])), (s1, ai g 6 K), (s2, ai g 6 L), (s3, ai g 96 V2)] H := hP
              have hD : va_D A [(sk, .inr (5, [.int (nI z), .int u1, .ref s1, .ref s2, .ref s3])), (s1, ai g 6 K), (s2, ai g 6 L), (s3, ai g 96 V2)] := hD
              refine lv_iload hx hb dX5_exchange_39 (lv_at hl 5 rfl) ?_
              refine lv_iadd hx hb dX5_exchange_41 ?_
              refine lv_topi (fun x_9 ex_9 => ?_)
              obtain rfl : x_9 = nI (16 * a + 4 * j + q) := by rw [ex_9]; exact nI_add _ _
              refine lv_istore (lv' := [(6, .int (nI (16 * a + 4 * j + q))), (5, .int (nI (16 * a + 4 * i + q))), (0, .ref sk), (1, .int (nI i)), (2, .int (nI j)), (3, .int (nI a)), (4, .int (nI q))]) hx hb dX5_exchange_42 hl (by decide) rfl (fun ls hl => ?_)
              refine lv_aload_n hx hb dX5_exchange_44 rfl (lv_at hl 2 rfl) ?_
              refine va_get (D := g.1) (ci := 5) (v := .ref s3) (C := RX5) (T := TX5) (N := 5) hx hb hts q_X5_exchange_f_f5 hown hE.1 hP 0 rfl rfl 4 (by decide) (hts (.fieldLink RX5 18 "SoundLaws$Stock" "words" "[I") q_X5_exchange_f_5) (fun _ h9 => h9) rfl dX5_exchange_45 ?_
              refine lv_iload hx hb dX5_exchange_48 (lv_at hl 1 rfl) ?_
              refine k_ald (16 * a + 4 * i + q) rfl (by omega) hx hb hE hP 3 rfl (by decide) dX5_exchange_50 ?_
              refine lv_istore (lv' := [(7, .int (V2 (16 * a + 4 * i + q))), (6, .int (nI (16 * a + 4 * j + q))), (5, .int (nI (16 * a + 4 * i + q))), (0, .ref sk), (1, .int (nI i)), (2, .int (nI j)), (3, .int (nI a)), (4, .int (nI q))]) hx hb dX5_exchange_51 hl (by decide) rfl (fun ls hl => ?_)
              refine lv_aload_n hx hb dX5_exchange_53 rfl (lv_at hl 3 rfl) ?_
              refine va_get (D := g.1) (ci := 5) (v := .ref s3) (C := RX5) (T := TX5) (N := 5) hx hb hts q_X5_exchange_f_f5 hown hE.1 hP 0 rfl rfl 4 (by decide) (hts (.fieldLink RX5 18 "SoundLaws$Stock" "words" "[I") q_X5_exchange_f_5) (fun _ h9 => h9) rfl dX5_exchange_54 ?_
              refine lv_iload hx hb dX5_exchange_57 (lv_at hl 2 rfl) ?_
              refine lv_aload_n hx hb dX5_exchange_59 rfl (lv_at hl 3 rfl) ?_
              refine va_get (D := g.1) (ci := 5) (v := .ref s3) (C := RX5) (T := TX5) (N := 5) hx hb hts q_X5_exchange_f_f5 hown hE.1 hP 0 rfl rfl 4 (by decide) (hts (.fieldLink RX5 18 "SoundLaws$Stock" "words" "[I") q_X5_exchange_f_5) (fun _ h9 => h9) rfl dX5_exchange_60 ?_
              refine lv_iload hx hb dX5_exchange_63 (lv_at hl 1 rfl) ?_
              refine k_ald (16 * a + 4 * j + q) rfl (by omega) hx hb hE hP 3 rfl (by decide) dX5_exchange_65 ?_
              refine k_ast (x := (V2 (16 * a + 4 * j + q))) (16 * a + 4 * i + q) rfl (by omega) hx hb hE hP hD hS 3 rfl (by decide) dX5_exchange_66 (fun H locs hP hD hS => ?_)
              have hP : va_P g.1 vwCl [(sk, .inr (5, [.int (nI z), .int u1, .ref s1, .ref s2, .ref s3])), (s1, ai g 6 K), (s2, ai g 6 L), (s3, ai g 96 (upd V2 (16 * a + 4 * i + q) (V2 (16 * a + 4 * j + q))))] H := hP
              have hD : va_D A [(sk, .inr (5, [.int (nI z), .int u1, .ref s1, .ref s2, .ref s3])), (s1, ai g 6 K), (s2, ai g 6 L), (s3, ai g 96 (upd V2 (16 * a + 4 * i + q) (V2 (16 * a + 4 * j + q))))] := hD
              refine lv_aload_n hx hb dX5_exchange_67 rfl (lv_at hl 3 rfl) ?_
              refine va_get (D := g.1) (ci := 5) (v := .ref s3) (C := RX5) (T := TX5) (N := 5) hx hb hts q_X5_exchange_f_f5 hown hE.1 hP 0 rfl rfl 4 (by decide) (hts (.fieldLink RX5 18 "SoundLaws$Stock" "words" "[I") q_X5_exchange_f_5) (fun _ h9 => h9) rfl dX5_exchange_68 ?_
              refine lv_iload hx hb dX5_exchange_71 (lv_at hl 1 rfl) ?_
              refine lv_iload hx hb dX5_exchange_73 (lv_at hl 0 rfl) ?_
              refine k_ast (x := (V2 (16 * a + 4 * i + q))) (16 * a + 4 * j + q) rfl (by omega) hx hb hE hP hD hS 3 rfl (by decide) dX5_exchange_75 (fun H locs hP hD hS => ?_)
              have hP : va_P g.1 vwCl [(sk, .inr (5, [.int (nI z), .int u1, .ref s1, .ref s2, .ref s3])), (s1, ai g 6 K), (s2, ai g 6 L), (s3, ai g 96 (upd (upd V2 (16 * a + 4 * i + q) (V2 (16 * a + 4 * j + q))) (16 * a + 4 * j + q) (V2 (16 * a + 4 * i + q))))] H := hP
              have hD : va_D A [(sk, .inr (5, [.int (nI z), .int u1, .ref s1, .ref s2, .ref s3])), (s1, ai g 6 K), (s2, ai g 6 L), (s3, ai g 96 (upd (upd V2 (16 * a + 4 * i + q) (V2 (16 * a + 4 * j + q))) (16 * a + 4 * j + q) (V2 (16 * a + 4 * i + q))))] := hD
              refine lv_iinc (v := (nI (q + 1))) (lv' := [(4, .int (nI (q + 1))), (7, .int (V2 (16 * a + 4 * i + q))), (6, .int (nI (16 * a + 4 * j + q))), (5, .int (nI (16 * a + 4 * i + q))), (0, .ref sk), (1, .int (nI i)), (2, .int (nI j)), (3, .int (nI a))]) hx hb dX5_exchange_76 hl (k := 7) rfl (nI_1 _) (by decide) rfl (fun ls hl => ?_)
              refine lv_goto (tgt := 13) hx hb dX5_exchange_79 (by decide) ?_
              exact ih13 (q + 1) _ (by omega) (XV_s hi hj hij (by omega) (by omega) hV2 (fun h => h.elim (fun w => absurd w.1 (Nat.lt_irrefl a)) (fun w => absurd w.2 (Nat.lt_irrefl q))) exs) (by omega) _ _ _ hP hD hS (lv_sub hl [4, 5, 6, 7, 0] rfl)
        exact loop13 _ 0 V1 (Nat.zero_le n) (XV_D hV1 (fun k x _ _ => ⟨fun h => h.elim id (fun w => absurd w.2 (Nat.not_lt_zero x)), Or.inl⟩)) (Nat.lt_succ_self _) _ _ _ hP hD hS (lv_sub hl [1, 2, 3, 4, 0] rfl)
  exact loop2 _ 0 V (Nat.zero_le z) (XV_0 (fun k x h => absurd h.1 (Nat.not_lt_zero k))) (Nat.lt_succ_self _) _ _ _ hP hD hS (lv_sub hl [1, 2, 3, 0] rfl)
def po_X8_change_f (g : GG) (h0 : Nat) (pg : Nat) (rd : Nat) (si : Nat) (sy : Nat) (ks : Nat) (ki : Nat) (al : Nat) (dr : Nat) (le : Int32) (re : Int32) (kp : Int32) (sd : Int32) (sk : Nat) (s1 : Nat) (s2 : Nat) (s3 : Nat) (z : Nat) (t : Nat) (K : Nat → Int32) (p1 : Int32) (p2 : Int32) : Int32 → va_W → Prop := fun (r : Int32) w => ∃ (sd2 : Int32) (K2 : Nat → Int32), w = [(h0, .inr (8, [.ref pg, .int le, .ref rd, .int re, .ref sk, .ref si, .ref sy, .int sd2, .ref ks, .ref ki, .int kp, .ref al, .ref dr])), (sk, .inr (5, [.int (nI z), .int (nI t), .ref s1, .ref s2, .ref s3])), (s1, ai g 6 K2)] ∧ (rCh p1 p2 z K = r) ∧ (((isI p1 z = 0 ∨ isI p2 5 = 0) ∧ sd2 = sd ∧ K2 = K) ∨ (sd2 = 0 ∧ ∃ k, k < z ∧ p1 = nI k ∧ ¬ isI p2 5 = 0 ∧ K2 = upd K k p2))
theorem q_X8_change_f_f8 : ∀ w ∈ u_ws RX8 TX8 13, w ∈ wsX8_change := by decide +kernel
theorem q_X8_change_f_1 : (Cond.fieldLink RX8 23 "SoundLaws" "stock" "LSoundLaws$Stock;") ∈ wsX8_change := by decide +kernel
theorem q_X8_change_f_f5 : ∀ w ∈ u_ws RX5 TX5 5, w ∈ wsX8_change := by decide +kernel
theorem q_X8_change_f_3 : (Cond.fieldLink RX8 110 "SoundLaws$Stock" "kinds" "[I") ∈ wsX8_change := by decide +kernel
theorem q_X8_change_f_4 : (Cond.fieldLink RX8 87 "SoundLaws" "studied" "Z") ∈ wsX8_change := by decide +kernel
set_option maxHeartbeats 1500000 in
set_option maxRecDepth 100000 in
theorem c_X8_change_f (l : Launch) (g : GG) (h0 : Nat) (pg : Nat) (rd : Nat) (si : Nat) (sy : Nat) (ks : Nat) (ki : Nat) (al : Nat) (dr : Nat) (le : Int32) (re : Int32) (kp : Int32) (sd : Int32) (sk : Nat) (s1 : Nat) (s2 : Nat) (s3 : Nat) (z : Nat) (t : Nat) (K : Nat → Int32) (p1 : Int32) (p2 : Int32) (hz : z ≤ 6) (sz : Nat) : MetI l yX8_change wsX8_change ({ frames := 1, cells := 0, slots := 0, locals := 21 }) g [.ref h0, .int p1, .int p2] [(h0, .inr (8, [.ref pg, .int le, .ref rd, .int re, .ref sk, .ref si, .ref sy, .int sd, .ref ks, .ref ki, .int kp, .ref al, .ref dr])), (sk, .inr (5, [.int (nI z), .int (nI t), .ref s1, .ref s2, .ref s3])), (s1, ai g 6 K)] sz (po_X8_change_f g h0 pg rd si sy ks ki al dr le re kp sd sk s1 s2 s3 z t K p1 p2) 0 0 := by
  refine k_of (l := l) (y := yX8_change) (ws := wsX8_change) (rm := { frames := 1, cells := 0, slots := 0, locals := 21 }) (mc := 0) (ms := 0) (av := [.ref h0, .int p1, .int p2]) (g := g) (wc := [(h0, .inr (8, [.ref pg, .int le, .ref rd, .int re, .ref sk, .ref si, .ref sy, .int sd, .ref ks, .ref ki, .int kp, .ref al, .ref dr])), (sk, .inr (5, [.int (nI z), .int (nI t), .ref s1, .ref s2, .ref s3])), (s1, ai g 6 K)]) (Qc := fun A => va_Qi (po_X8_change_f g h0 pg rd si sy ks ki al dr le re kp sd sk s1 s2 s3 z t K p1 p2) (bk g A) A) (cc := cX8_change) (maxL := 4) (ret := (some .int)) (by decide) rfl (Nat.le_of_ble_eq_true rfl) ?_ sz
  intro p e s m below meth c hx hb hr hts hown hlocks hnm hml A hA hE hZ hP hD hS ls hl
  have hown : s.vm.findClass RX8 = some m.cls := hown
  have hl : lv_has ls 4 [(0, .ref h0), (1, .int p1), (2, .int p2)] := hl
  refine lv_aload_n hx hb dX8_change_0 rfl (lv_at hl 0 rfl) ?_
  refine lv_iload_n hx hb dX8_change_1 rfl (lv_at hl 1 rfl) ?_
  refine k_ci (wr := [(s1, ai g 6 K)]) hP hD hS hA [0, 1] [2] rfl rfl (by decide) (by decide) (va_runV (As := [.int p1]) (rest := []) ⟨hx, hb, hml, hown, hts⟩ (c_X8_isSet_g l g h0 pg rd si sy ks ki al dr le re sd kp sk s1 s2 s3 z t p1  s.heap.size) (cwV 1 hts gX8_change_X8_isSet rfl rfl rfl (by decide +kernel) ⟨Nat.le_of_ble_eq_true rfl, Nat.le_of_ble_eq_true rfl⟩) (k_preV hE hZ hP hD hS hA [0, 1] rfl (by decide) (va_recv hE.1 hP (ci := 8) (q0 := 0) rfl rfl)) rfl rfl hl.1 rfl (lv_room (Nat.le_of_ble_eq_true rfl)) dX8_change_2 ⟨Nat.le_of_ble_eq_true rfl, Nat.le_of_ble_eq_true rfl⟩) (fun r_1 w1 H locs hw hP hD hS => ?_)
  obtain ⟨rfl, rfl⟩ := hw
  have hP : va_P g.1 vwCl [(s1, ai g 6 K), (h0, .inr (8, [.ref pg, .int le, .ref rd, .int re, .ref sk, .ref si, .ref sy, .int sd, .ref ks, .ref ki, .int kp, .ref al, .ref dr])), (sk, .inr (5, [.int (nI z), .int (nI t), .ref s1, .ref s2, .ref s3]))] H := hP
  have hD : va_D A [(s1, ai g 6 K), (h0, .inr (8, [.ref pg, .int le, .ref rd, .int re, .ref sk, .ref si, .ref sy, .int sd, .ref ks, .ref ki, .int kp, .ref al, .ref dr])), (sk, .inr (5, [.int (nI z), .int (nI t), .ref s1, .ref s2, .ref s3]))] := hD
  refine lv_if_ne (tgt := 11) hx hb dX8_change_5 (by decide) (fun c5_3 => ?_) (fun c5_3 => ?_)
  · skip
    refine lv_iload_n hx hb dX8_change_11 rfl (lv_at hl 2 rfl) ?_
    refine k_ci (wr := [(s1, ai g 6 K), (h0, .inr (8, [.ref pg, .int le, .ref rd, .int re, .ref sk, .ref si, .ref sy, .int sd, .ref ks, .ref ki, .int kp, .ref al, .ref dr])), (sk, .inr (5, [.int (nI z), .int (nI t), .ref s1, .ref s2, .ref s3]))]) hP hD hS hA [] [0, 1, 2] rfl rfl (by decide) (by decide) (va_runS (As := [.int p2]) (rest := []) ⟨hx, hb, hml, hown, hts⟩ (c_X8_isKind_g l g p2  H.size) (va_cwS 1 hts gX8_change_X8_isKind rfl rfl rfl (by decide +kernel) ⟨Nat.le_of_ble_eq_true rfl, Nat.le_of_ble_eq_true rfl⟩) (k_preS hE hZ hP hD hS hA [] rfl (by decide)) rfl rfl hl.1 rfl (lv_room (Nat.le_of_ble_eq_true rfl)) dX8_change_12 ⟨Nat.le_of_ble_eq_true rfl, Nat.le_of_ble_eq_true rfl⟩) (fun r_4 w1 H locs hw hP hD hS => ?_)
    obtain ⟨rfl, rfl⟩ := hw
    have hP : va_P g.1 vwCl [(s1, ai g 6 K), (h0, .inr (8, [.ref pg, .int le, .ref rd, .int re, .ref sk, .ref si, .ref sy, .int sd, .ref ks, .ref ki, .int kp, .ref al, .ref dr])), (sk, .inr (5, [.int (nI z), .int (nI t), .ref s1, .ref s2, .ref s3]))] H := hP
    have hD : va_D A [(s1, ai g 6 K), (h0, .inr (8, [.ref pg, .int le, .ref rd, .int re, .ref sk, .ref si, .ref sy, .int sd, .ref ks, .ref ki, .int kp, .ref al, .ref dr])), (sk, .inr (5, [.int (nI z), .int (nI t), .ref s1, .ref s2, .ref s3]))] := hD
    refine lv_if_ne (tgt := 21) hx hb dX8_change_15 (by decide) (fun c15_6 => ?_) (fun c15_6 => ?_)
    · skip
      obtain ⟨k1, hk1, rfl⟩ := isI_of (p := p1) (by omega) c5_3
      refine lv_aload_n hx hb dX8_change_21 rfl (lv_at hl 0 rfl) ?_
      refine va_get (D := g.1) (ci := 8) (v := .ref sk) (C := RX8) (T := TX8) (N := 13) hx hb hts q_X8_change_f_f8 hown hE.1 hP 1 rfl rfl 4 (by decide) (hts (.fieldLink RX8 23 "SoundLaws" "stock" "LSoundLaws$Stock;") q_X8_change_f_1) (fun _ h9 => h9) rfl dX8_change_22 ?_
      refine va_get (D := g.1) (ci := 5) (v := .ref s1) (C := RX5) (T := TX5) (N := 5) hx hb hts q_X8_change_f_f5 hown hE.1 hP 2 rfl rfl 2 (by decide) (hts (.fieldLink RX8 110 "SoundLaws$Stock" "kinds" "[I") q_X8_change_f_3) (fun _ h9 => h9) rfl dX8_change_25 ?_
      refine lv_iload_n hx hb dX8_change_28 rfl (lv_at hl 1 rfl) ?_
      refine k_ald k1 rfl (by omega) hx hb hE hP 0 rfl (by decide) dX8_change_29 ?_
      refine lv_istore_n (lv' := [(3, .int (K k1)), (0, .ref h0), (1, .int (nI k1)), (2, .int p2)]) hx hb dX8_change_30 rfl hl (by decide) rfl (fun ls hl => ?_)
      refine lv_aload_n hx hb dX8_change_31 rfl (lv_at hl 1 rfl) ?_
      refine va_get (D := g.1) (ci := 8) (v := .ref sk) (C := RX8) (T := TX8) (N := 13) hx hb hts q_X8_change_f_f8 hown hE.1 hP 1 rfl rfl 4 (by decide) (hts (.fieldLink RX8 23 "SoundLaws" "stock" "LSoundLaws$Stock;") q_X8_change_f_1) (fun _ h9 => h9) rfl dX8_change_32 ?_
      refine va_get (D := g.1) (ci := 5) (v := .ref s1) (C := RX5) (T := TX5) (N := 5) hx hb hts q_X8_change_f_f5 hown hE.1 hP 2 rfl rfl 2 (by decide) (hts (.fieldLink RX8 110 "SoundLaws$Stock" "kinds" "[I") q_X8_change_f_3) (fun _ h9 => h9) rfl dX8_change_35 ?_
      refine lv_iload_n hx hb dX8_change_38 rfl (lv_at hl 2 rfl) ?_
      refine lv_iload_n hx hb dX8_change_39 rfl (lv_at hl 3 rfl) ?_
      refine k_ast (x := p2) k1 rfl (by omega) hx hb hE hP hD hS 0 rfl (by decide) dX8_change_40 (fun H locs hP hD hS => ?_)
      have hP : va_P g.1 vwCl [(s1, ai g 6 (upd K k1 p2)), (h0, .inr (8, [.ref pg, .int le, .ref rd, .int re, .ref sk, .ref si, .ref sy, .int sd, .ref ks, .ref ki, .int kp, .ref al, .ref dr])), (sk, .inr (5, [.int (nI z), .int (nI t), .ref s1, .ref s2, .ref s3]))] H := hP
      have hD : va_D A [(s1, ai g 6 (upd K k1 p2)), (h0, .inr (8, [.ref pg, .int le, .ref rd, .int re, .ref sk, .ref si, .ref sy, .int sd, .ref ks, .ref ki, .int kp, .ref al, .ref dr])), (sk, .inr (5, [.int (nI z), .int (nI t), .ref s1, .ref s2, .ref s3]))] := hD
      refine lv_aload_n hx hb dX8_change_41 rfl (lv_at hl 1 rfl) ?_
      refine lv_iconst (v := 0) hx hb dX8_change_42 (by decide) ?_
      refine va_put (D := g.1) (ci := 8) (v := .int 0) (ty := .boolean) (C := RX8) (T := TX8) (N := 13) hx hb hts q_X8_change_f_f8 tyX8 tyX8_ok nmX8 hown hE.1 hP hD hS 1 rfl rfl 7 (by decide) (hts (.fieldLink RX8 87 "SoundLaws" "studied" "Z") q_X8_change_f_4) (fun _ h9 => h9) rfl (by decide +kernel) rfl rfl (Nat.le_of_ble_eq_true rfl) dX8_change_43 (fun H locs hP hD hS => ?_)
      have hP : va_P g.1 vwCl [(s1, ai g 6 (upd K k1 p2)), (h0, .inr (8, [.ref pg, .int le, .ref rd, .int re, .ref sk, .ref si, .ref sy, .int 0, .ref ks, .ref ki, .int kp, .ref al, .ref dr])), (sk, .inr (5, [.int (nI z), .int (nI t), .ref s1, .ref s2, .ref s3]))] H := hP
      have hD : va_D A [(s1, ai g 6 (upd K k1 p2)), (h0, .inr (8, [.ref pg, .int le, .ref rd, .int re, .ref sk, .ref si, .ref sy, .int 0, .ref ks, .ref ki, .int kp, .ref al, .ref dr])), (sk, .inr (5, [.int (nI z), .int (nI t), .ref s1, .ref s2, .ref s3]))] := hD
      refine lv_iload_n hx hb dX8_change_46 rfl (lv_at hl 0 rfl) ?_
      refine W.widen (k := 0) (n := 0) (Nat.le_of_ble_eq_true rfl) (Nat.le_of_ble_eq_true rfl) ?_
      have hP9 := hP.sub (ws' := [(h0, .inr (8, [.ref pg, .int le, .ref rd, .int re, .ref sk, .ref si, .ref sy, .int 0, .ref ks, .ref ki, .int kp, .ref al, .ref dr])), (sk, .inr (5, [.int (nI z), .int (nI t), .ref s1, .ref s2, .ref s3])), (s1, ai g 6 (upd K k1 p2))]) [1, 2, 0] rfl
      have hD9 := hD.sub (ws' := [(h0, .inr (8, [.ref pg, .int le, .ref rd, .int re, .ref sk, .ref si, .ref sy, .int 0, .ref ks, .ref ki, .int kp, .ref al, .ref dr])), (sk, .inr (5, [.int (nI z), .int (nI t), .ref s1, .ref s2, .ref s3])), (s1, ai g 6 (upd K k1 p2))]) [1, 2, 0] (by decide) rfl
      exact k_ri hx hb hr hlocks hS hP9 hD9 ⟨0, (upd K k1 p2), rfl, (by unfold rCh; rw [if_neg c5_3, if_neg c15_6, nI_clamp (by omega)]), Or.inr ⟨rfl, k1, hk1, rfl, c15_6, rfl⟩⟩ dX8_change_47
    · skip
      refine lv_bipush (v := (-102)) hx hb dX8_change_18 (by decide) ?_
      refine W.widen (k := 0) (n := 0) (Nat.le_of_ble_eq_true rfl) (Nat.le_of_ble_eq_true rfl) ?_
      have hP9 := hP.sub (ws' := [(h0, .inr (8, [.ref pg, .int le, .ref rd, .int re, .ref sk, .ref si, .ref sy, .int sd, .ref ks, .ref ki, .int kp, .ref al, .ref dr])), (sk, .inr (5, [.int (nI z), .int (nI t), .ref s1, .ref s2, .ref s3])), (s1, ai g 6 K)]) [1, 2, 0] rfl
      have hD9 := hD.sub (ws' := [(h0, .inr (8, [.ref pg, .int le, .ref rd, .int re, .ref sk, .ref si, .ref sy, .int sd, .ref ks, .ref ki, .int kp, .ref al, .ref dr])), (sk, .inr (5, [.int (nI z), .int (nI t), .ref s1, .ref s2, .ref s3])), (s1, ai g 6 K)]) [1, 2, 0] (by decide) rfl
      exact k_ri hx hb hr hlocks hS hP9 hD9 ⟨sd, K, rfl, (by unfold rCh; rw [if_neg c5_3, if_pos c15_6]), Or.inl ⟨Or.inr c15_6, rfl, rfl⟩⟩ dX8_change_20
  · skip
    refine lv_bipush (v := (-101)) hx hb dX8_change_8 (by decide) ?_
    refine W.widen (k := 0) (n := 0) (Nat.le_of_ble_eq_true rfl) (Nat.le_of_ble_eq_true rfl) ?_
    have hP9 := hP.sub (ws' := [(h0, .inr (8, [.ref pg, .int le, .ref rd, .int re, .ref sk, .ref si, .ref sy, .int sd, .ref ks, .ref ki, .int kp, .ref al, .ref dr])), (sk, .inr (5, [.int (nI z), .int (nI t), .ref s1, .ref s2, .ref s3])), (s1, ai g 6 K)]) [1, 2, 0] rfl
    have hD9 := hD.sub (ws' := [(h0, .inr (8, [.ref pg, .int le, .ref rd, .int re, .ref sk, .ref si, .ref sy, .int sd, .ref ks, .ref ki, .int kp, .ref al, .ref dr])), (sk, .inr (5, [.int (nI z), .int (nI t), .ref s1, .ref s2, .ref s3])), (s1, ai g 6 K)]) [1, 2, 0] (by decide) rfl
    exact k_ri hx hb hr hlocks hS hP9 hD9 ⟨sd, K, rfl, (by unfold rCh; rw [if_pos c5_3]), Or.inl ⟨Or.inl c5_3, rfl, rfl⟩⟩ dX8_change_10
def po_X8_copy_f (g : GG) (h0 : Nat) (pg : Nat) (rd : Nat) (si : Nat) (sy : Nat) (ks : Nat) (ki : Nat) (al : Nat) (dr : Nat) (le : Int32) (re : Int32) (kp : Int32) (sd : Int32) (sk : Nat) (s1 : Nat) (s2 : Nat) (s3 : Nat) (z : Nat) (t : Nat) (K : Nat → Int32) (L : Nat → Int32) (V : Nat → Int32) (p1 : Int32) : Int32 → va_W → Prop := fun (r : Int32) w => ∃ (sd2 : Int32) (z2 : Nat) (K2 : Nat → Int32) (L2 : Nat → Int32) (V2 : Nat → Int32), w = [(h0, .inr (8, [.ref pg, .int le, .ref rd, .int re, .ref sk, .ref si, .ref sy, .int sd2, .ref ks, .ref ki, .int kp, .ref al, .ref dr])), (sk, .inr (5, [.int (nI z2), .int (nI t), .ref s1, .ref s2, .ref s3])), (s1, ai g 6 K2), (s2, ai g 6 L2), (s3, ai g 96 V2)] ∧ (rCp p1 z = r) ∧ (((isI p1 z = 0 ∨ ¬ z < 6) ∧ sd2 = sd ∧ z2 = z ∧ K2 = K ∧ L2 = L ∧ V2 = V) ∨ (sd2 = 0 ∧ z < 6 ∧ z2 = z + 1 ∧ ∃ k, k < z ∧ p1 = nI k ∧ K2 = upd K z (K k) ∧ L2 = upd L z (L k) ∧ V2 = va_cpy V V (16 * k) (16 * z) 16))
theorem q_X8_copy_f_f8 : ∀ w ∈ u_ws RX8 TX8 13, w ∈ wsX8_copy := by decide +kernel
theorem q_X8_copy_f_1 : (Cond.fieldLink RX8 23 "SoundLaws" "stock" "LSoundLaws$Stock;") ∈ wsX8_copy := by decide +kernel
theorem q_X8_copy_f_f5 : ∀ w ∈ u_ws RX5 TX5 5, w ∈ wsX8_copy := by decide +kernel
theorem q_X8_copy_f_3 : (Cond.fieldLink RX8 93 "SoundLaws$Stock" "size" "I") ∈ wsX8_copy := by decide +kernel
theorem q_X8_copy_f_4 : (Cond.fieldLink RX8 87 "SoundLaws" "studied" "Z") ∈ wsX8_copy := by decide +kernel
set_option maxHeartbeats 1500000 in
set_option maxRecDepth 100000 in
theorem c_X8_copy_f (l : Launch) (g : GG) (h0 : Nat) (pg : Nat) (rd : Nat) (si : Nat) (sy : Nat) (ks : Nat) (ki : Nat) (al : Nat) (dr : Nat) (le : Int32) (re : Int32) (kp : Int32) (sd : Int32) (sk : Nat) (s1 : Nat) (s2 : Nat) (s3 : Nat) (z : Nat) (t : Nat) (K : Nat → Int32) (L : Nat → Int32) (V : Nat → Int32) (p1 : Int32) (hz : z ≤ 6) (sz : Nat) : MetI l yX8_copy wsX8_copy ({ frames := 2, cells := 0, slots := 0, locals := 62 }) g [.ref h0, .int p1] [(h0, .inr (8, [.ref pg, .int le, .ref rd, .int re, .ref sk, .ref si, .ref sy, .int sd, .ref ks, .ref ki, .int kp, .ref al, .ref dr])), (sk, .inr (5, [.int (nI z), .int (nI t), .ref s1, .ref s2, .ref s3])), (s1, ai g 6 K), (s2, ai g 6 L), (s3, ai g 96 V)] sz (po_X8_copy_f g h0 pg rd si sy ks ki al dr le re kp sd sk s1 s2 s3 z t K L V p1) 0 0 := by
  refine k_of (l := l) (y := yX8_copy) (ws := wsX8_copy) (rm := { frames := 2, cells := 0, slots := 0, locals := 62 }) (mc := 0) (ms := 0) (av := [.ref h0, .int p1]) (g := g) (wc := [(h0, .inr (8, [.ref pg, .int le, .ref rd, .int re, .ref sk, .ref si, .ref sy, .int sd, .ref ks, .ref ki, .int kp, .ref al, .ref dr])), (sk, .inr (5, [.int (nI z), .int (nI t), .ref s1, .ref s2, .ref s3])), (s1, ai g 6 K), (s2, ai g 6 L), (s3, ai g 96 V)]) (Qc := fun A => va_Qi (po_X8_copy_f g h0 pg rd si sy ks ki al dr le re kp sd sk s1 s2 s3 z t K L V p1) (bk g A) A) (cc := cX8_copy) (maxL := 3) (ret := (some .int)) (by decide) rfl (Nat.le_of_ble_eq_true rfl) ?_ sz
  intro p e s m below meth c hx hb hr hts hown hlocks hnm hml A hA hE hZ hP hD hS ls hl
  have hown : s.vm.findClass RX8 = some m.cls := hown
  have hl : lv_has ls 3 [(0, .ref h0), (1, .int p1)] := hl
  refine lv_aload_n hx hb dX8_copy_0 rfl (lv_at hl 0 rfl) ?_
  refine lv_iload_n hx hb dX8_copy_1 rfl (lv_at hl 1 rfl) ?_
  refine k_ci (wr := [(s1, ai g 6 K), (s2, ai g 6 L), (s3, ai g 96 V)]) hP hD hS hA [0, 1] [2, 3, 4] rfl rfl (by decide) (by decide) (va_runV (As := [.int p1]) (rest := []) ⟨hx, hb, hml, hown, hts⟩ (c_X8_isSet_g l g h0 pg rd si sy ks ki al dr le re sd kp sk s1 s2 s3 z t p1  s.heap.size) (cwV 1 hts gX8_copy_X8_isSet rfl rfl rfl (by decide +kernel) ⟨Nat.le_of_ble_eq_true rfl, Nat.le_of_ble_eq_true rfl⟩) (k_preV hE hZ hP hD hS hA [0, 1] rfl (by decide) (va_recv hE.1 hP (ci := 8) (q0 := 0) rfl rfl)) rfl rfl hl.1 rfl (lv_room (Nat.le_of_ble_eq_true rfl)) dX8_copy_2 ⟨Nat.le_of_ble_eq_true rfl, Nat.le_of_ble_eq_true rfl⟩) (fun r_1 w1 H locs hw hP hD hS => ?_)
  obtain ⟨rfl, rfl⟩ := hw
  have hP : va_P g.1 vwCl [(s1, ai g 6 K), (s2, ai g 6 L), (s3, ai g 96 V), (h0, .inr (8, [.ref pg, .int le, .ref rd, .int re, .ref sk, .ref si, .ref sy, .int sd, .ref ks, .ref ki, .int kp, .ref al, .ref dr])), (sk, .inr (5, [.int (nI z), .int (nI t), .ref s1, .ref s2, .ref s3]))] H := hP
  have hD : va_D A [(s1, ai g 6 K), (s2, ai g 6 L), (s3, ai g 96 V), (h0, .inr (8, [.ref pg, .int le, .ref rd, .int re, .ref sk, .ref si, .ref sy, .int sd, .ref ks, .ref ki, .int kp, .ref al, .ref dr])), (sk, .inr (5, [.int (nI z), .int (nI t), .ref s1, .ref s2, .ref s3]))] := hD
  refine lv_if_ne (tgt := 11) hx hb dX8_copy_5 (by decide) (fun c5_3 => ?_) (fun c5_3 => ?_)
  · skip
    refine lv_aload_n hx hb dX8_copy_11 rfl (lv_at hl 0 rfl) ?_
    refine va_get (D := g.1) (ci := 8) (v := .ref sk) (C := RX8) (T := TX8) (N := 13) hx hb hts q_X8_copy_f_f8 hown hE.1 hP 3 rfl rfl 4 (by decide) (hts (.fieldLink RX8 23 "SoundLaws" "stock" "LSoundLaws$Stock;") q_X8_copy_f_1) (fun _ h9 => h9) rfl dX8_copy_12 ?_
    refine va_get (D := g.1) (ci := 5) (v := .int (nI z)) (C := RX5) (T := TX5) (N := 5) hx hb hts q_X8_copy_f_f5 hown hE.1 hP 4 rfl rfl 0 (by decide) (hts (.fieldLink RX8 93 "SoundLaws$Stock" "size" "I") q_X8_copy_f_3) (fun _ h9 => h9) rfl dX8_copy_15 ?_
    refine lv_bipush (v := 6) hx hb dX8_copy_18 (by decide) ?_
    refine lv_icmp_lt (tgt := 26) hx hb dX8_copy_20 (by decide) (fun c20_4 => ?_) (fun c20_4 => ?_)
    · skip
      obtain ⟨k1, hk1, rfl⟩ := isI_of (p := p1) (by omega) c5_3
      have hz6 : z < 6 := (nI_ltI (b := 6) (by omega) (by decide)).mp c20_4
      refine lv_aload_n hx hb dX8_copy_26 rfl (lv_at hl 0 rfl) ?_
      refine va_get (D := g.1) (ci := 8) (v := .ref sk) (C := RX8) (T := TX8) (N := 13) hx hb hts q_X8_copy_f_f8 hown hE.1 hP 3 rfl rfl 4 (by decide) (hts (.fieldLink RX8 23 "SoundLaws" "stock" "LSoundLaws$Stock;") q_X8_copy_f_1) (fun _ h9 => h9) rfl dX8_copy_27 ?_
      refine va_get (D := g.1) (ci := 5) (v := .int (nI z)) (C := RX5) (T := TX5) (N := 5) hx hb hts q_X8_copy_f_f5 hown hE.1 hP 4 rfl rfl 0 (by decide) (hts (.fieldLink RX8 93 "SoundLaws$Stock" "size" "I") q_X8_copy_f_3) (fun _ h9 => h9) rfl dX8_copy_30 ?_
      refine lv_istore_n (lv' := [(2, .int (nI z)), (0, .ref h0), (1, .int (nI k1))]) hx hb dX8_copy_33 rfl hl (by decide) rfl (fun ls hl => ?_)
      refine lv_aload_n hx hb dX8_copy_34 rfl (lv_at hl 1 rfl) ?_
      refine va_get (D := g.1) (ci := 8) (v := .ref sk) (C := RX8) (T := TX8) (N := 13) hx hb hts q_X8_copy_f_f8 hown hE.1 hP 3 rfl rfl 4 (by decide) (hts (.fieldLink RX8 23 "SoundLaws" "stock" "LSoundLaws$Stock;") q_X8_copy_f_1) (fun _ h9 => h9) rfl dX8_copy_35 ?_
      refine lv_iload_n hx hb dX8_copy_38 rfl (lv_at hl 2 rfl) ?_
      refine lv_iload_n hx hb dX8_copy_39 rfl (lv_at hl 0 rfl) ?_
      refine k_cv (wr := [(h0, .inr (8, [.ref pg, .int le, .ref rd, .int re, .ref sk, .ref si, .ref sy, .int sd, .ref ks, .ref ki, .int kp, .ref al, .ref dr]))]) hP hD hS hA [4, 0, 1, 2] [3] rfl rfl (by decide) (by decide) (va_runV (As := [.int (nI k1), .int (nI z)]) (rest := []) ⟨hx, hb, hml, hown, hts⟩ (c_X5_putOver_g l g sk s1 s2 s3 K L V (nI z) (nI t) k1 z (by first | assumption | omega) (by first | assumption | omega) H.size) (cwV 2 hts gX8_copy_X5_putOver rfl rfl rfl (by decide +kernel) ⟨Nat.le_of_ble_eq_true rfl, Nat.le_of_ble_eq_true rfl⟩) (k_preV hE hZ hP hD hS hA [4, 0, 1, 2] rfl (by decide) (va_recv hE.1 hP (ci := 5) (q0 := 4) rfl rfl)) rfl rfl hl.1 rfl (lv_room (Nat.le_of_ble_eq_true rfl)) dX8_copy_40 ⟨Nat.le_of_ble_eq_true rfl, Nat.le_of_ble_eq_true rfl⟩) (fun w1 H locs hw hP hD hS => ?_)
      obtain rfl := hw
      have hP : va_P g.1 vwCl [(h0, .inr (8, [.ref pg, .int le, .ref rd, .int re, .ref sk, .ref si, .ref sy, .int sd, .ref ks, .ref ki, .int kp, .ref al, .ref dr])), (sk, .inr (5, [.int (nI z), .int (nI t), .ref s1, .ref s2, .ref s3])), (s1, ai g 6 (upd K z (K k1))), (s2, ai g 6 (upd L z (L k1))), (s3, ai g 96 (va_cpy V V (16 * k1) (16 * z) 16))] H := hP
      have hD : va_D A [(h0, .inr (8, [.ref pg, .int le, .ref rd, .int re, .ref sk, .ref si, .ref sy, .int sd, .ref ks, .ref ki, .int kp, .ref al, .ref dr])), (sk, .inr (5, [.int (nI z), .int (nI t), .ref s1, .ref s2, .ref s3])), (s1, ai g 6 (upd K z (K k1))), (s2, ai g 6 (upd L z (L k1))), (s3, ai g 96 (va_cpy V V (16 * k1) (16 * z) 16))] := hD
      refine lv_aload_n hx hb dX8_copy_43 rfl (lv_at hl 1 rfl) ?_
      refine va_get (D := g.1) (ci := 8) (v := .ref sk) (C := RX8) (T := TX8) (N := 13) hx hb hts q_X8_copy_f_f8 hown hE.1 hP 0 rfl rfl 4 (by decide) (hts (.fieldLink RX8 23 "SoundLaws" "stock" "LSoundLaws$Stock;") q_X8_copy_f_1) (fun _ h9 => h9) rfl dX8_copy_44 ?_
      refine lv_dup hx hb dX8_copy_47 rfl ?_
      refine va_get (D := g.1) (ci := 5) (v := .int (nI z)) (C := RX5) (T := TX5) (N := 5) hx hb hts q_X8_copy_f_f5 hown hE.1 hP 1 rfl rfl 0 (by decide) (hts (.fieldLink RX8 93 "SoundLaws$Stock" "size" "I") q_X8_copy_f_3) (fun _ h9 => h9) rfl dX8_copy_48 ?_
      refine lv_iconst (v := 1) hx hb dX8_copy_51 (by decide) ?_
      refine lv_iadd hx hb dX8_copy_52 ?_
      refine lv_topi (fun x_6 ex_6 => ?_)
      obtain rfl : x_6 = nI (z + 1) := by rw [ex_6]; exact nI_1 z
      refine va_put (D := g.1) (ci := 5) (v := .int (nI (z + 1))) (ty := .int) (C := RX5) (T := TX5) (N := 5) hx hb hts q_X8_copy_f_f5 tyX5 tyX5_ok nmX5 hown hE.1 hP hD hS 1 rfl rfl 0 (by decide) (hts (.fieldLink RX8 93 "SoundLaws$Stock" "size" "I") q_X8_copy_f_3) (fun _ h9 => h9) rfl (by decide +kernel) rfl rfl (Nat.le_of_ble_eq_true rfl) dX8_copy_53 (fun H locs hP hD hS => ?_)
      have hP : va_P g.1 vwCl [(h0, .inr (8, [.ref pg, .int le, .ref rd, .int re, .ref sk, .ref si, .ref sy, .int sd, .ref ks, .ref ki, .int kp, .ref al, .ref dr])), (sk, .inr (5, [.int (nI (z + 1)), .int (nI t), .ref s1, .ref s2, .ref s3])), (s1, ai g 6 (upd K z (K k1))), (s2, ai g 6 (upd L z (L k1))), (s3, ai g 96 (va_cpy V V (16 * k1) (16 * z) 16))] H := hP
      have hD : va_D A [(h0, .inr (8, [.ref pg, .int le, .ref rd, .int re, .ref sk, .ref si, .ref sy, .int sd, .ref ks, .ref ki, .int kp, .ref al, .ref dr])), (sk, .inr (5, [.int (nI (z + 1)), .int (nI t), .ref s1, .ref s2, .ref s3])), (s1, ai g 6 (upd K z (K k1))), (s2, ai g 6 (upd L z (L k1))), (s3, ai g 96 (va_cpy V V (16 * k1) (16 * z) 16))] := hD
      refine lv_aload_n hx hb dX8_copy_56 rfl (lv_at hl 1 rfl) ?_
      refine lv_iconst (v := 0) hx hb dX8_copy_57 (by decide) ?_
      refine va_put (D := g.1) (ci := 8) (v := .int 0) (ty := .boolean) (C := RX8) (T := TX8) (N := 13) hx hb hts q_X8_copy_f_f8 tyX8 tyX8_ok nmX8 hown hE.1 hP hD hS 0 rfl rfl 7 (by decide) (hts (.fieldLink RX8 87 "SoundLaws" "studied" "Z") q_X8_copy_f_4) (fun _ h9 => h9) rfl (by decide +kernel) rfl rfl (Nat.le_of_ble_eq_true rfl) dX8_copy_58 (fun H locs hP hD hS => ?_)
      have hP : va_P g.1 vwCl [(h0, .inr (8, [.ref pg, .int le, .ref rd, .int re, .ref sk, .ref si, .ref sy, .int 0, .ref ks, .ref ki, .int kp, .ref al, .ref dr])), (sk, .inr (5, [.int (nI (z + 1)), .int (nI t), .ref s1, .ref s2, .ref s3])), (s1, ai g 6 (upd K z (K k1))), (s2, ai g 6 (upd L z (L k1))), (s3, ai g 96 (va_cpy V V (16 * k1) (16 * z) 16))] H := hP
      have hD : va_D A [(h0, .inr (8, [.ref pg, .int le, .ref rd, .int re, .ref sk, .ref si, .ref sy, .int 0, .ref ks, .ref ki, .int kp, .ref al, .ref dr])), (sk, .inr (5, [.int (nI (z + 1)), .int (nI t), .ref s1, .ref s2, .ref s3])), (s1, ai g 6 (upd K z (K k1))), (s2, ai g 6 (upd L z (L k1))), (s3, ai g 96 (va_cpy V V (16 * k1) (16 * z) 16))] := hD
      refine lv_iload_n hx hb dX8_copy_61 rfl (lv_at hl 0 rfl) ?_
      refine W.widen (k := 0) (n := 0) (Nat.le_of_ble_eq_true rfl) (Nat.le_of_ble_eq_true rfl) ?_
      exact k_ri hx hb hr hlocks hS hP hD ⟨0, (z + 1), (upd K z (K k1)), (upd L z (L k1)), (va_cpy V V (16 * k1) (16 * z) 16), rfl, (by unfold rCp; rw [if_neg c5_3, if_pos hz6]), Or.inr ⟨rfl, hz6, rfl, k1, hk1, rfl, rfl, rfl, rfl⟩⟩ dX8_copy_62
    · skip
      refine lv_bipush (v := (-104)) hx hb dX8_copy_23 (by decide) ?_
      refine W.widen (k := 0) (n := 0) (Nat.le_of_ble_eq_true rfl) (Nat.le_of_ble_eq_true rfl) ?_
      have hP9 := hP.sub (ws' := [(h0, .inr (8, [.ref pg, .int le, .ref rd, .int re, .ref sk, .ref si, .ref sy, .int sd, .ref ks, .ref ki, .int kp, .ref al, .ref dr])), (sk, .inr (5, [.int (nI z), .int (nI t), .ref s1, .ref s2, .ref s3])), (s1, ai g 6 K), (s2, ai g 6 L), (s3, ai g 96 V)]) [3, 4, 0, 1, 2] rfl
      have hD9 := hD.sub (ws' := [(h0, .inr (8, [.ref pg, .int le, .ref rd, .int re, .ref sk, .ref si, .ref sy, .int sd, .ref ks, .ref ki, .int kp, .ref al, .ref dr])), (sk, .inr (5, [.int (nI z), .int (nI t), .ref s1, .ref s2, .ref s3])), (s1, ai g 6 K), (s2, ai g 6 L), (s3, ai g 96 V)]) [3, 4, 0, 1, 2] (by decide) rfl
      exact k_ri hx hb hr hlocks hS hP9 hD9 ⟨sd, z, K, L, V, rfl, (by unfold rCp; rw [if_neg c5_3, if_neg (show ¬ z < 6 from fun q => c20_4 (nI_lt (b := 6) q (by decide)))]), Or.inl ⟨Or.inr (fun q => c20_4 (nI_lt (b := 6) q (by decide))), rfl, rfl, rfl, rfl, rfl⟩⟩ dX8_copy_25
  · skip
    refine lv_bipush (v := (-101)) hx hb dX8_copy_8 (by decide) ?_
    refine W.widen (k := 0) (n := 0) (Nat.le_of_ble_eq_true rfl) (Nat.le_of_ble_eq_true rfl) ?_
    have hP9 := hP.sub (ws' := [(h0, .inr (8, [.ref pg, .int le, .ref rd, .int re, .ref sk, .ref si, .ref sy, .int sd, .ref ks, .ref ki, .int kp, .ref al, .ref dr])), (sk, .inr (5, [.int (nI z), .int (nI t), .ref s1, .ref s2, .ref s3])), (s1, ai g 6 K), (s2, ai g 6 L), (s3, ai g 96 V)]) [3, 4, 0, 1, 2] rfl
    have hD9 := hD.sub (ws' := [(h0, .inr (8, [.ref pg, .int le, .ref rd, .int re, .ref sk, .ref si, .ref sy, .int sd, .ref ks, .ref ki, .int kp, .ref al, .ref dr])), (sk, .inr (5, [.int (nI z), .int (nI t), .ref s1, .ref s2, .ref s3])), (s1, ai g 6 K), (s2, ai g 6 L), (s3, ai g 96 V)]) [3, 4, 0, 1, 2] (by decide) rfl
    exact k_ri hx hb hr hlocks hS hP9 hD9 ⟨sd, z, K, L, V, rfl, (by unfold rCp; rw [if_pos c5_3]), Or.inl ⟨Or.inl c5_3, rfl, rfl, rfl, rfl, rfl⟩⟩ dX8_copy_10
def po_X8_take_f (g : GG) (h0 : Nat) (pg : Nat) (rd : Nat) (sy : Nat) (ks : Nat) (ki : Nat) (al : Nat) (dr : Nat) (le : Int32) (re : Int32) (kp : Int32) (sd : Int32) (sk : Nat) (s1 : Nat) (s2 : Nat) (s3 : Nat) (z : Nat) (t : Nat) (K : Nat → Int32) (L : Nat → Int32) (V : Nat → Int32) (q1 : Nat) (q2 : Nat) (q3 : Nat) (si : Nat) (A1 : Nat → Int32) (A2 : Nat → Int32) (A3 : Nat → Int32) (n : Nat) (p1 : Int32) : Int32 → va_W → Prop := fun (r : Int32) w => ∃ (sd2 : Int32) (z2 : Nat) (K2 : Nat → Int32) (L2 : Nat → Int32) (V2 : Nat → Int32) (C1 : Nat → Int32), w = [(h0, .inr (8, [.ref pg, .int le, .ref rd, .int re, .ref sk, .ref si, .ref sy, .int sd2, .ref ks, .ref ki, .int kp, .ref al, .ref dr])), (sk, .inr (5, [.int (nI z2), .int (nI t), .ref s1, .ref s2, .ref s3])), (s1, ai g 6 K2), (s2, ai g 6 L2), (s3, ai g 96 V2), (si, .inr (4, [.int (nI n), .ref q1, .ref q2, .ref q3])), (q1, ai g 6 C1), (q2, ai g 6 A2), (q3, az g 6 A3)] ∧ (rTk p1 z = r) ∧ (((isI p1 z = 0 ∨ z = 1) ∧ sd2 = sd ∧ z2 = z ∧ K2 = K ∧ L2 = L ∧ V2 = V ∧ C1 = A1) ∨ (sd2 = 0 ∧ ¬ z = 1 ∧ z2 = z - 1 ∧ ∃ k, k < z ∧ p1 = nI k ∧ (∀ i, i < 6 → K2 i = K (sh k z i)) ∧ (∀ i, i < 6 → L2 i = L (sh k z i)) ∧ (∀ i, i < 6 → ∀ x, x < 16 → V2 (16 * i + x) = V (16 * sh k z i + x))))
theorem q_X8_take_f_f8 : ∀ w ∈ u_ws RX8 TX8 13, w ∈ wsX8_take := by decide +kernel
theorem q_X8_take_f_1 : (Cond.fieldLink RX8 23 "SoundLaws" "stock" "LSoundLaws$Stock;") ∈ wsX8_take := by decide +kernel
theorem q_X8_take_f_f5 : ∀ w ∈ u_ws RX5 TX5 5, w ∈ wsX8_take := by decide +kernel
theorem q_X8_take_f_3 : (Cond.fieldLink RX8 93 "SoundLaws$Stock" "size" "I") ∈ wsX8_take := by decide +kernel
theorem q_X8_take_f_4 : (Cond.fieldLink RX8 30 "SoundLaws" "sightings" "LSoundLaws$Sightings;") ∈ wsX8_take := by decide +kernel
theorem q_X8_take_f_5 : (Cond.fieldLink RX8 87 "SoundLaws" "studied" "Z") ∈ wsX8_take := by decide +kernel
set_option maxHeartbeats 1500000 in
set_option maxRecDepth 100000 in
theorem c_X8_take_f (l : Launch) (g : GG) (h0 : Nat) (pg : Nat) (rd : Nat) (sy : Nat) (ks : Nat) (ki : Nat) (al : Nat) (dr : Nat) (le : Int32) (re : Int32) (kp : Int32) (sd : Int32) (sk : Nat) (s1 : Nat) (s2 : Nat) (s3 : Nat) (z : Nat) (t : Nat) (K : Nat → Int32) (L : Nat → Int32) (V : Nat → Int32) (q1 : Nat) (q2 : Nat) (q3 : Nat) (si : Nat) (A1 : Nat → Int32) (A2 : Nat → Int32) (A3 : Nat → Int32) (n : Nat) (p1 : Int32) (hz : z ≤ 6) (hn : n ≤ 6) (sz : Nat) : MetI l yX8_take wsX8_take ({ frames := 3, cells := 0, slots := 0, locals := 84 }) g [.ref h0, .int p1] [(h0, .inr (8, [.ref pg, .int le, .ref rd, .int re, .ref sk, .ref si, .ref sy, .int sd, .ref ks, .ref ki, .int kp, .ref al, .ref dr])), (sk, .inr (5, [.int (nI z), .int (nI t), .ref s1, .ref s2, .ref s3])), (s1, ai g 6 K), (s2, ai g 6 L), (s3, ai g 96 V), (si, .inr (4, [.int (nI n), .ref q1, .ref q2, .ref q3])), (q1, ai g 6 A1), (q2, ai g 6 A2), (q3, az g 6 A3)] sz (po_X8_take_f g h0 pg rd sy ks ki al dr le re kp sd sk s1 s2 s3 z t K L V q1 q2 q3 si A1 A2 A3 n p1) 0 0 := by
  refine k_of (l := l) (y := yX8_take) (ws := wsX8_take) (rm := { frames := 3, cells := 0, slots := 0, locals := 84 }) (mc := 0) (ms := 0) (av := [.ref h0, .int p1]) (g := g) (wc := [(h0, .inr (8, [.ref pg, .int le, .ref rd, .int re, .ref sk, .ref si, .ref sy, .int sd, .ref ks, .ref ki, .int kp, .ref al, .ref dr])), (sk, .inr (5, [.int (nI z), .int (nI t), .ref s1, .ref s2, .ref s3])), (s1, ai g 6 K), (s2, ai g 6 L), (s3, ai g 96 V), (si, .inr (4, [.int (nI n), .ref q1, .ref q2, .ref q3])), (q1, ai g 6 A1), (q2, ai g 6 A2), (q3, az g 6 A3)]) (Qc := fun A => va_Qi (po_X8_take_f g h0 pg rd sy ks ki al dr le re kp sd sk s1 s2 s3 z t K L V q1 q2 q3 si A1 A2 A3 n p1) (bk g A) A) (cc := cX8_take) (maxL := 2) (ret := (some .int)) (by decide) rfl (Nat.le_of_ble_eq_true rfl) ?_ sz
  intro p e s m below meth c hx hb hr hts hown hlocks hnm hml A hA hE hZ hP hD hS ls hl
  have hown : s.vm.findClass RX8 = some m.cls := hown
  have hl : lv_has ls 2 [(0, .ref h0), (1, .int p1)] := hl
  refine lv_aload_n hx hb dX8_take_0 rfl (lv_at hl 0 rfl) ?_
  refine lv_iload_n hx hb dX8_take_1 rfl (lv_at hl 1 rfl) ?_
  refine k_ci (wr := [(s1, ai g 6 K), (s2, ai g 6 L), (s3, ai g 96 V), (si, .inr (4, [.int (nI n), .ref q1, .ref q2, .ref q3])), (q1, ai g 6 A1), (q2, ai g 6 A2), (q3, az g 6 A3)]) hP hD hS hA [0, 1] [2, 3, 4, 5, 6, 7, 8] rfl rfl (by decide) (by decide) (va_runV (As := [.int p1]) (rest := []) ⟨hx, hb, hml, hown, hts⟩ (c_X8_isSet_g l g h0 pg rd si sy ks ki al dr le re sd kp sk s1 s2 s3 z t p1  s.heap.size) (cwV 1 hts gX8_take_X8_isSet rfl rfl rfl (by decide +kernel) ⟨Nat.le_of_ble_eq_true rfl, Nat.le_of_ble_eq_true rfl⟩) (k_preV hE hZ hP hD hS hA [0, 1] rfl (by decide) (va_recv hE.1 hP (ci := 8) (q0 := 0) rfl rfl)) rfl rfl hl.1 rfl (lv_room (Nat.le_of_ble_eq_true rfl)) dX8_take_2 ⟨Nat.le_of_ble_eq_true rfl, Nat.le_of_ble_eq_true rfl⟩) (fun r_1 w1 H locs hw hP hD hS => ?_)
  obtain ⟨rfl, rfl⟩ := hw
  have hP : va_P g.1 vwCl [(s1, ai g 6 K), (s2, ai g 6 L), (s3, ai g 96 V), (si, .inr (4, [.int (nI n), .ref q1, .ref q2, .ref q3])), (q1, ai g 6 A1), (q2, ai g 6 A2), (q3, az g 6 A3), (h0, .inr (8, [.ref pg, .int le, .ref rd, .int re, .ref sk, .ref si, .ref sy, .int sd, .ref ks, .ref ki, .int kp, .ref al, .ref dr])), (sk, .inr (5, [.int (nI z), .int (nI t), .ref s1, .ref s2, .ref s3]))] H := hP
  have hD : va_D A [(s1, ai g 6 K), (s2, ai g 6 L), (s3, ai g 96 V), (si, .inr (4, [.int (nI n), .ref q1, .ref q2, .ref q3])), (q1, ai g 6 A1), (q2, ai g 6 A2), (q3, az g 6 A3), (h0, .inr (8, [.ref pg, .int le, .ref rd, .int re, .ref sk, .ref si, .ref sy, .int sd, .ref ks, .ref ki, .int kp, .ref al, .ref dr])), (sk, .inr (5, [.int (nI z), .int (nI t), .ref s1, .ref s2, .ref s3]))] := hD
  refine lv_if_ne (tgt := 11) hx hb dX8_take_5 (by decide) (fun c5_3 => ?_) (fun c5_3 => ?_)
  · skip
    refine lv_aload_n hx hb dX8_take_11 rfl (lv_at hl 0 rfl) ?_
    refine va_get (D := g.1) (ci := 8) (v := .ref sk) (C := RX8) (T := TX8) (N := 13) hx hb hts q_X8_take_f_f8 hown hE.1 hP 7 rfl rfl 4 (by decide) (hts (.fieldLink RX8 23 "SoundLaws" "stock" "LSoundLaws$Stock;") q_X8_take_f_1) (fun _ h9 => h9) rfl dX8_take_12 ?_
    refine va_get (D := g.1) (ci := 5) (v := .int (nI z)) (C := RX5) (T := TX5) (N := 5) hx hb hts q_X8_take_f_f5 hown hE.1 hP 8 rfl rfl 0 (by decide) (hts (.fieldLink RX8 93 "SoundLaws$Stock" "size" "I") q_X8_take_f_3) (fun _ h9 => h9) rfl dX8_take_15 ?_
    refine lv_iconst (v := 1) hx hb dX8_take_18 (by decide) ?_
    refine lv_icmp_ne (tgt := 25) hx hb dX8_take_19 (by decide) (fun c19_4 => ?_) (fun c19_4 => ?_)
    · skip
      obtain ⟨k1, hk1, rfl⟩ := isI_of (p := p1) (by omega) c5_3
      have hz1 : ¬ z = 1 := fun q => c19_4 (by rw [q]; rfl)
      refine lv_aload_n hx hb dX8_take_25 rfl (lv_at hl 0 rfl) ?_
      refine va_get (D := g.1) (ci := 8) (v := .ref sk) (C := RX8) (T := TX8) (N := 13) hx hb hts q_X8_take_f_f8 hown hE.1 hP 7 rfl rfl 4 (by decide) (hts (.fieldLink RX8 23 "SoundLaws" "stock" "LSoundLaws$Stock;") q_X8_take_f_1) (fun _ h9 => h9) rfl dX8_take_26 ?_
      refine lv_iload_n hx hb dX8_take_29 rfl (lv_at hl 1 rfl) ?_
      refine k_cv (wr := [(si, .inr (4, [.int (nI n), .ref q1, .ref q2, .ref q3])), (q1, ai g 6 A1), (q2, ai g 6 A2), (q3, az g 6 A3), (h0, .inr (8, [.ref pg, .int le, .ref rd, .int re, .ref sk, .ref si, .ref sy, .int sd, .ref ks, .ref ki, .int kp, .ref al, .ref dr]))]) hP hD hS hA [8, 0, 1, 2] [3, 4, 5, 6, 7] rfl rfl (by decide) (by decide) (va_runV (As := [.int (nI k1)]) (rest := []) ⟨hx, hb, hml, hown, hts⟩ (c_X5_remove_g l g sk s1 s2 s3 K L V (nI t) z k1 (by first | assumption | omega) (by first | assumption | omega) H.size) (cwV 1 hts gX8_take_X5_remove rfl rfl rfl (by decide +kernel) ⟨Nat.le_of_ble_eq_true rfl, Nat.le_of_ble_eq_true rfl⟩) (k_preV hE hZ hP hD hS hA [8, 0, 1, 2] rfl (by decide) (va_recv hE.1 hP (ci := 5) (q0 := 8) rfl rfl)) rfl rfl hl.1 rfl (lv_room (Nat.le_of_ble_eq_true rfl)) dX8_take_30 ⟨Nat.le_of_ble_eq_true rfl, Nat.le_of_ble_eq_true rfl⟩) (fun w1 H locs hw hP hD hS => ?_)
      obtain ⟨C1_6, C2_7, C3_8, rfl, e1_9, e2_10, e3_11⟩ := hw
      have hP : va_P g.1 vwCl [(si, .inr (4, [.int (nI n), .ref q1, .ref q2, .ref q3])), (q1, ai g 6 A1), (q2, ai g 6 A2), (q3, az g 6 A3), (h0, .inr (8, [.ref pg, .int le, .ref rd, .int re, .ref sk, .ref si, .ref sy, .int sd, .ref ks, .ref ki, .int kp, .ref al, .ref dr])), (sk, .inr (5, [.int (nI (z - 1)), .int (nI t), .ref s1, .ref s2, .ref s3])), (s1, ai g 6 C1_6), (s2, ai g 6 C2_7), (s3, ai g 96 C3_8)] H := hP
      have hD : va_D A [(si, .inr (4, [.int (nI n), .ref q1, .ref q2, .ref q3])), (q1, ai g 6 A1), (q2, ai g 6 A2), (q3, az g 6 A3), (h0, .inr (8, [.ref pg, .int le, .ref rd, .int re, .ref sk, .ref si, .ref sy, .int sd, .ref ks, .ref ki, .int kp, .ref al, .ref dr])), (sk, .inr (5, [.int (nI (z - 1)), .int (nI t), .ref s1, .ref s2, .ref s3])), (s1, ai g 6 C1_6), (s2, ai g 6 C2_7), (s3, ai g 96 C3_8)] := hD
      refine lv_aload_n hx hb dX8_take_33 rfl (lv_at hl 0 rfl) ?_
      refine va_get (D := g.1) (ci := 8) (v := .ref si) (C := RX8) (T := TX8) (N := 13) hx hb hts q_X8_take_f_f8 hown hE.1 hP 4 rfl rfl 5 (by decide) (hts (.fieldLink RX8 30 "SoundLaws" "sightings" "LSoundLaws$Sightings;") q_X8_take_f_4) (fun _ h9 => h9) rfl dX8_take_34 ?_
      refine lv_iload_n hx hb dX8_take_37 rfl (lv_at hl 1 rfl) ?_
      refine k_cv (wr := [(h0, .inr (8, [.ref pg, .int le, .ref rd, .int re, .ref sk, .ref si, .ref sy, .int sd, .ref ks, .ref ki, .int kp, .ref al, .ref dr])), (sk, .inr (5, [.int (nI (z - 1)), .int (nI t), .ref s1, .ref s2, .ref s3])), (s1, ai g 6 C1_6), (s2, ai g 6 C2_7), (s3, ai g 96 C3_8)]) hP hD hS hA [0, 1, 2, 3] [4, 5, 6, 7, 8] rfl rfl (by decide) (by decide) (va_runV (As := [.int (nI k1)]) (rest := []) ⟨hx, hb, hml, hown, hts⟩ (c_X4_loseSet_g l g q1 q2 q3 si A1 A2 A3 n (nI k1) (by first | assumption | omega) H.size) (cwV 1 hts gX8_take_X4_loseSet rfl rfl rfl (by decide +kernel) ⟨Nat.le_of_ble_eq_true rfl, Nat.le_of_ble_eq_true rfl⟩) (k_preV hE hZ hP hD hS hA [0, 1, 2, 3] rfl (by decide) (va_recv hE.1 hP (ci := 4) (q0 := 0) rfl rfl)) rfl rfl hl.1 rfl (lv_room (Nat.le_of_ble_eq_true rfl)) dX8_take_38 ⟨Nat.le_of_ble_eq_true rfl, Nat.le_of_ble_eq_true rfl⟩) (fun w1 H locs hw hP hD hS => ?_)
      obtain ⟨C1_13, rfl⟩ := hw
      have hP : va_P g.1 vwCl [(h0, .inr (8, [.ref pg, .int le, .ref rd, .int re, .ref sk, .ref si, .ref sy, .int sd, .ref ks, .ref ki, .int kp, .ref al, .ref dr])), (sk, .inr (5, [.int (nI (z - 1)), .int (nI t), .ref s1, .ref s2, .ref s3])), (s1, ai g 6 C1_6), (s2, ai g 6 C2_7), (s3, ai g 96 C3_8), (si, .inr (4, [.int (nI n), .ref q1, .ref q2, .ref q3])), (q1, ai g 6 C1_13), (q2, ai g 6 A2), (q3, az g 6 A3)] H := hP
      have hD : va_D A [(h0, .inr (8, [.ref pg, .int le, .ref rd, .int re, .ref sk, .ref si, .ref sy, .int sd, .ref ks, .ref ki, .int kp, .ref al, .ref dr])), (sk, .inr (5, [.int (nI (z - 1)), .int (nI t), .ref s1, .ref s2, .ref s3])), (s1, ai g 6 C1_6), (s2, ai g 6 C2_7), (s3, ai g 96 C3_8), (si, .inr (4, [.int (nI n), .ref q1, .ref q2, .ref q3])), (q1, ai g 6 C1_13), (q2, ai g 6 A2), (q3, az g 6 A3)] := hD
      refine lv_aload_n hx hb dX8_take_41 rfl (lv_at hl 0 rfl) ?_
      refine lv_iconst (v := 0) hx hb dX8_take_42 (by decide) ?_
      refine va_put (D := g.1) (ci := 8) (v := .int 0) (ty := .boolean) (C := RX8) (T := TX8) (N := 13) hx hb hts q_X8_take_f_f8 tyX8 tyX8_ok nmX8 hown hE.1 hP hD hS 0 rfl rfl 7 (by decide) (hts (.fieldLink RX8 87 "SoundLaws" "studied" "Z") q_X8_take_f_5) (fun _ h9 => h9) rfl (by decide +kernel) rfl rfl (Nat.le_of_ble_eq_true rfl) dX8_take_43 (fun H locs hP hD hS => ?_)
      have hP : va_P g.1 vwCl [(h0, .inr (8, [.ref pg, .int le, .ref rd, .int re, .ref sk, .ref si, .ref sy, .int 0, .ref ks, .ref ki, .int kp, .ref al, .ref dr])), (sk, .inr (5, [.int (nI (z - 1)), .int (nI t), .ref s1, .ref s2, .ref s3])), (s1, ai g 6 C1_6), (s2, ai g 6 C2_7), (s3, ai g 96 C3_8), (si, .inr (4, [.int (nI n), .ref q1, .ref q2, .ref q3])), (q1, ai g 6 C1_13), (q2, ai g 6 A2), (q3, az g 6 A3)] H := hP
      have hD : va_D A [(h0, .inr (8, [.ref pg, .int le, .ref rd, .int re, .ref sk, .ref si, .ref sy, .int 0, .ref ks, .ref ki, .int kp, .ref al, .ref dr])), (sk, .inr (5, [.int (nI (z - 1)), .int (nI t), .ref s1, .ref s2, .ref s3])), (s1, ai g 6 C1_6), (s2, ai g 6 C2_7), (s3, ai g 96 C3_8), (si, .inr (4, [.int (nI n), .ref q1, .ref q2, .ref q3])), (q1, ai g 6 C1_13), (q2, ai g 6 A2), (q3, az g 6 A3)] := hD
      refine lv_aload_n hx hb dX8_take_46 rfl (lv_at hl 0 rfl) ?_
      refine va_get (D := g.1) (ci := 8) (v := .ref sk) (C := RX8) (T := TX8) (N := 13) hx hb hts q_X8_take_f_f8 hown hE.1 hP 0 rfl rfl 4 (by decide) (hts (.fieldLink RX8 23 "SoundLaws" "stock" "LSoundLaws$Stock;") q_X8_take_f_1) (fun _ h9 => h9) rfl dX8_take_47 ?_
      refine va_get (D := g.1) (ci := 5) (v := .int (nI (z - 1))) (C := RX5) (T := TX5) (N := 5) hx hb hts q_X8_take_f_f5 hown hE.1 hP 1 rfl rfl 0 (by decide) (hts (.fieldLink RX8 93 "SoundLaws$Stock" "size" "I") q_X8_take_f_3) (fun _ h9 => h9) rfl dX8_take_50 ?_
      refine W.widen (k := 0) (n := 0) (Nat.le_of_ble_eq_true rfl) (Nat.le_of_ble_eq_true rfl) ?_
      exact k_ri hx hb hr hlocks hS hP hD ⟨0, (z - 1), C1_6, C2_7, C3_8, C1_13, rfl, (by unfold rTk; rw [if_neg c5_3, if_neg hz1]), Or.inr ⟨rfl, hz1, rfl, k1, hk1, rfl, e1_9, e2_10, e3_11⟩⟩ dX8_take_53
    · skip
      refine lv_bipush (v := (-103)) hx hb dX8_take_22 (by decide) ?_
      refine W.widen (k := 0) (n := 0) (Nat.le_of_ble_eq_true rfl) (Nat.le_of_ble_eq_true rfl) ?_
      have hP9 := hP.sub (ws' := [(h0, .inr (8, [.ref pg, .int le, .ref rd, .int re, .ref sk, .ref si, .ref sy, .int sd, .ref ks, .ref ki, .int kp, .ref al, .ref dr])), (sk, .inr (5, [.int (nI z), .int (nI t), .ref s1, .ref s2, .ref s3])), (s1, ai g 6 K), (s2, ai g 6 L), (s3, ai g 96 V), (si, .inr (4, [.int (nI n), .ref q1, .ref q2, .ref q3])), (q1, ai g 6 A1), (q2, ai g 6 A2), (q3, az g 6 A3)]) [7, 8, 0, 1, 2, 3, 4, 5, 6] rfl
      have hD9 := hD.sub (ws' := [(h0, .inr (8, [.ref pg, .int le, .ref rd, .int re, .ref sk, .ref si, .ref sy, .int sd, .ref ks, .ref ki, .int kp, .ref al, .ref dr])), (sk, .inr (5, [.int (nI z), .int (nI t), .ref s1, .ref s2, .ref s3])), (s1, ai g 6 K), (s2, ai g 6 L), (s3, ai g 96 V), (si, .inr (4, [.int (nI n), .ref q1, .ref q2, .ref q3])), (q1, ai g 6 A1), (q2, ai g 6 A2), (q3, az g 6 A3)]) [7, 8, 0, 1, 2, 3, 4, 5, 6] (by decide) rfl
      exact k_ri hx hb hr hlocks hS hP9 hD9 ⟨sd, z, K, L, V, A1, rfl, (by unfold rTk; rw [if_neg c5_3, if_pos ((nI_eq (b := 1) (by omega) (by decide)).mp c19_4)]), Or.inl ⟨Or.inr ((nI_eq (b := 1) (by omega) (by decide)).mp c19_4), rfl, rfl, rfl, rfl, rfl, rfl⟩⟩ dX8_take_24
  · skip
    refine lv_bipush (v := (-101)) hx hb dX8_take_8 (by decide) ?_
    refine W.widen (k := 0) (n := 0) (Nat.le_of_ble_eq_true rfl) (Nat.le_of_ble_eq_true rfl) ?_
    have hP9 := hP.sub (ws' := [(h0, .inr (8, [.ref pg, .int le, .ref rd, .int re, .ref sk, .ref si, .ref sy, .int sd, .ref ks, .ref ki, .int kp, .ref al, .ref dr])), (sk, .inr (5, [.int (nI z), .int (nI t), .ref s1, .ref s2, .ref s3])), (s1, ai g 6 K), (s2, ai g 6 L), (s3, ai g 96 V), (si, .inr (4, [.int (nI n), .ref q1, .ref q2, .ref q3])), (q1, ai g 6 A1), (q2, ai g 6 A2), (q3, az g 6 A3)]) [7, 8, 0, 1, 2, 3, 4, 5, 6] rfl
    have hD9 := hD.sub (ws' := [(h0, .inr (8, [.ref pg, .int le, .ref rd, .int re, .ref sk, .ref si, .ref sy, .int sd, .ref ks, .ref ki, .int kp, .ref al, .ref dr])), (sk, .inr (5, [.int (nI z), .int (nI t), .ref s1, .ref s2, .ref s3])), (s1, ai g 6 K), (s2, ai g 6 L), (s3, ai g 96 V), (si, .inr (4, [.int (nI n), .ref q1, .ref q2, .ref q3])), (q1, ai g 6 A1), (q2, ai g 6 A2), (q3, az g 6 A3)]) [7, 8, 0, 1, 2, 3, 4, 5, 6] (by decide) rfl
    exact k_ri hx hb hr hlocks hS hP9 hD9 ⟨sd, z, K, L, V, A1, rfl, (by unfold rTk; rw [if_pos c5_3]), Or.inl ⟨Or.inl c5_3, rfl, rfl, rfl, rfl, rfl, rfl⟩⟩ dX8_take_10

/-! the law: rows of its own, and what its calls keep -/
section KL
variable {p : Program} {l : Launch} {e : Env} {R : Room} {s : State} {m : MethodId} {args : Array Value} {below : List Frame} {meth : Method} {c : Code} {H H0 : Heap} {locs : List Loc} {cells slots : Nat} {Q : State → Prop} {cc : ByteArray} {pc : Nat} {ls : Array Slot} {rest : List Value} {A : Nat → Prop}
theorem k_sld {b L : Nat} {xs : Nat → Int32} {i : Int32} (k : Nat) (hi : i = nI k) (hk : k < L) (hL : L < 2 ^ 31) (hx : p.tables.exec = Jvm.exec) (hb : c.code = cc) (hX : va_X b L xs s H0) (hbl : b < H0.size) (hbA : ¬ A b) (hS : va_S A H0 H locs) (hdg : decode cc pc = .ok (.iaload, 1)) (kk : W p l e R s m args below meth c H locs cells slots Q (F0 m (pc + 1) ls (.int (xs k) :: rest))) : W p l e R s m args below meth c H locs cells slots Q (F0 m pc ls (.int i :: .ref b :: rest)) := by
  subst hi
  refine va_sld hx hb hX hbl hbA hS (vp_in_nI hk hL) hdg ?_
  rw [nI_clamp (Nat.lt_trans hk hL)]
  exact kk
end KL
theorem nLt_le {p : Int32} {a : Nat} (h : a ≤ 110) : nLt p a ≤ 110 := by
  unfold nLt
  split
  · exact h
  · split <;> omega
theorem pgr_lt {p : Int32} {a : Nat} {f : Nat → Int32} (h : pgr a f) : pgr (nLt p a) (fLt p a f) := by
  unfold nLt fLt
  by_cases q : p < 1 ∨ 126 < p
  · rw [if_pos q, if_pos q]; exact h
  · rw [if_neg q, if_neg q]
    by_cases r : a < 110
    · rw [if_pos r, if_pos r]
      intro i hi
      by_cases e : i = a
      · have h1 : ¬ p < 1 := fun w => q (Or.inl w)
        have h2 : ¬ 126 < p := fun w => q (Or.inr w)
        obtain ⟨v, hv, rfl⟩ := nI_of (x := p) (fun w => h1 (Int32.lt_trans w (by decide)))
        refine ⟨v, ?_, by rw [e, pk_us]⟩
        exact Nat.not_le.mp (fun w => h2 (nI_lt (a := 126) (by omega) hv))
      · obtain ⟨v, hv, e2⟩ := h i (by omega)
        exact ⟨v, hv, by rw [pk_un e]; exact e2⟩
    · rw [if_neg r, if_neg r]; exact h
theorem pgr_0 {f : Nat → Int32} : pgr 0 f := fun i hi => absurd hi (Nat.not_lt_zero i)
theorem gst_ch {z t : Nat} {K L V K2 : Nat → Int32} {p q sd sd2 : Int32} (h : gst z t K L V) (hq : (sd2 = sd ∧ K2 = K) ∨ (sd2 = 0 ∧ ∃ k, k < z ∧ p = nI k ∧ ¬ isI q 5 = 0 ∧ K2 = upd K k q)) : gst z t K2 L V := by
  rcases hq with ⟨-, rfl⟩ | ⟨-, k, -, -, h5, rfl⟩
  · exact h
  · obtain ⟨v, hv, rfl⟩ := isI_of (by decide) h5
    exact ⟨h.1, h.2.1, h.2.2.1, rng_upd h.2.2.2.1 hv, h.2.2.2.2.1, h.2.2.2.2.2⟩
theorem gst_cp {z t z2 : Nat} {K L V K2 L2 V2 : Nat → Int32} {p sd sd2 : Int32} (h : gst z t K L V) (hq : (sd2 = sd ∧ z2 = z ∧ K2 = K ∧ L2 = L ∧ V2 = V) ∨ (sd2 = 0 ∧ z < 6 ∧ z2 = z + 1 ∧ ∃ k, k < z ∧ p = nI k ∧ K2 = upd K z (K k) ∧ L2 = upd L z (L k) ∧ V2 = va_cpy V V (16 * k) (16 * z) 16)) : gst z2 t K2 L2 V2 := by
  rcases hq with ⟨-, rfl, rfl, rfl, rfl⟩ | ⟨-, h6, rfl, k, hk, -, rfl, rfl, rfl⟩
  · exact h
  · exact ⟨by omega, fun _ => h.2.1 (by omega), h.2.2.1, rng_at_upd h.2.2.2.1 (by have := h.1; omega), rng_at_upd h.2.2.2.2.1 (by have := h.1; omega), rng_cpy h.2.2.2.2.2 h.2.2.2.2.2 (by have := h.1; omega)⟩
theorem rng_sh {k z b : Nat} {K C : Nat → Int32} (hz : z ≤ 6) (h : rng 6 b K) (e : ∀ i, i < 6 → C i = K (sh k z i)) : rng 6 b C := fun i hi => by
  obtain ⟨v, hv, q⟩ := h (sh k z i) (sh_lt hz hi)
  exact ⟨v, hv, (e i hi).trans q⟩
theorem gst_tk {z t z2 : Nat} {K L V K2 L2 V2 : Nat → Int32} {p sd sd2 : Int32} {C1 A1 : Nat → Int32} (h : gst z t K L V) (hq : (sd2 = sd ∧ z2 = z ∧ K2 = K ∧ L2 = L ∧ V2 = V ∧ C1 = A1) ∨ (sd2 = 0 ∧ ¬ z = 1 ∧ z2 = z - 1 ∧ ∃ k, k < z ∧ p = nI k ∧ (∀ i, i < 6 → K2 i = K (sh k z i)) ∧ (∀ i, i < 6 → L2 i = L (sh k z i)) ∧ (∀ i, i < 6 → ∀ x, x < 16 → V2 (16 * i + x) = V (16 * sh k z i + x)))) : gst z2 t K2 L2 V2 := by
  rcases hq with ⟨-, rfl, rfl, rfl, rfl, -⟩ | ⟨-, h6, rfl, k, hk, -, e1, e2, e3⟩
  · exact h
  · refine ⟨by have := h.1; omega, fun _ => h.2.1 (by omega), h.2.2.1, rng_sh h.1 h.2.2.2.1 e1, rng_sh h.1 h.2.2.2.2.1 e2, fun i hi => ?_⟩
    obtain ⟨v, hv, q⟩ := h.2.2.2.2.2 (16 * sh k z (i / 16) + i % 16) (by have := sh_lt (k := k) (i := i / 16) h.1 (by omega); omega)
    refine ⟨v, hv, ?_⟩
    rw [← q, ← e3 (i / 16) (by omega) (i % 16) (by omega), show 16 * (i / 16) + i % 16 = i by omega]
theorem frK {z t : Nat} {K L Rb K2 : Nat → Int32} {o2 o : Int32} (h : o = 0 → FR z t K L Rb) (ho : o2 = 1 ∨ (o2 = o ∧ K2 = K)) : o2 = 0 → FR z t K2 L Rb := fun e => by
  rcases ho with q | ⟨q, rfl⟩
  · rw [q] at e; exact absurd e (by decide)
  · exact h (q.symm.trans e)
theorem frO {z t : Nat} {K L Rb : Nat → Int32} {o2 o : Int32} (h : o = 0 → FR z t K L Rb) (ho : o2 = 1 ∨ o2 = o) : o2 = 0 → FR z t K L Rb := fun e => by
  rcases ho with q | q
  · rw [q] at e; exact absurd e (by decide)
  · exact h (q.symm.trans e)
theorem frZ {z z2 t : Nat} {K L Rb K2 L2 : Nat → Int32} {o2 o : Int32} (h : o = 0 → FR z t K L Rb) (ho : o2 = 1 ∨ (o2 = o ∧ z2 = z ∧ K2 = K ∧ L2 = L)) : o2 = 0 → FR z2 t K2 L2 Rb := fun e => by
  rcases ho with q | ⟨q, rfl, rfl, rfl⟩
  · rw [q] at e; exact absurd e (by decide)
  · exact h (q.symm.trans e)
theorem frR {z z2 t t2 : Nat} {K L Rb K2 L2 : Nat → Int32} {o2 o : Int32} (h : o = 0 → FR z t K L Rb) (ho : o2 = 1 ∨ (o2 = o ∧ z2 = z ∧ t2 = t ∧ K2 = K ∧ L2 = L)) : o2 = 0 → FR z2 t2 K2 L2 Rb := fun e => by
  rcases ho with q | ⟨q, rfl, rfl, rfl, rfl⟩
  · rw [q] at e; exact absurd e (by decide)
  · exact h (q.symm.trans e)
theorem psK_fns (w : PS) : psK (fns w).2 = psK w := by
  obtain ⟨du, rs, u, n, wl, hw, z, tg, K, L, V⟩ := w
  unfold fns
  dsimp only
  split
  · split <;> rfl
  · rfl
theorem psV_fns (w : PS) : psV (fns w).2 = psV w := by
  obtain ⟨du, rs, u, n, wl, hw, z, tg, K, L, V⟩ := w
  unfold fns
  dsimp only
  split
  · split <;> rfl
  · rfl
theorem fns_z (w : PS) : (fns w).2.2.2.2.2.2.2.1 = w.2.2.2.2.2.2.1 := by
  obtain ⟨du, rs, u, n, wl, hw, z, tg, K, L, V⟩ := w
  unfold fns
  dsimp only
  split
  · split <;> rfl
  · rfl
theorem fns_ok {w w2 : PS} (h : fns w = (1, w2)) : 2 ≤ w2.2.2.2.2.2.2.2.1 := by
  obtain ⟨du, rs, u, n, wl, hw, z, tg, K, L, V⟩ := w
  unfold fns at h
  dsimp only at h
  by_cases hd : du = 0
  · rw [if_pos hd] at h
    by_cases hq : stw u n tg (L rs) = 0
    · rw [if_pos hq] at h
      exact absurd (show (0 : Int32) = 1 from congrArg Prod.fst h) (by decide)
    · rw [if_neg hq] at h
      have e := congrArg Prod.snd h
      dsimp only at e
      rw [← e]
      exact (stw_w hq).2.1
  · rw [if_neg hd] at h
    exact absurd (show (0 : Int32) = 1 from congrArg Prod.fst h) (by decide)
theorem flt_K {Pg : Nat → Int32} {a : Nat} {q w2 : PS} {r r2 : Int32} {y yt : Nat} {x3 x4 x5 : Int32} {RK RL RS : Nat → Int32} (h : prd Pg a q r w2) (h2 : fltP Pg a q r2 y yt x3 x4 x5 RK RL RS) : r = r2 ∧ (∀ k, k < 5 → RK k = psK w2 k) ∧ (∀ i, i < 80 → RS i = psV w2 i) := by
  obtain ⟨w, hp, -, -, hk, hs, -⟩ := h2
  obtain ⟨e, rfl⟩ := prd_uniq h hp
  exact ⟨e, hk, hs⟩
theorem sets_c {Pg : Nat → Int32} {a z t n : Nat} {q w2 : PS} {r re sd kp : Int32} {K L V K2 L2 V2 A3 : Nat → Int32} {a2 : Nat} {re2 sd2 kp2 zs2 z2 u2 : Int32} (hI : RI q) (hg : gst z t K L V) (ha : a ≤ 110) (hpg : pgr a Pg) (hn : n ≤ 6) (hb : ∀ i, i < n → vp_nar .boolean (A3 i) = A3 i) (h : setsP Pg a q r w2 (a, re, sd, kp, nI n, nI z, nI t, K, L, V) (a2, re2, sd2, kp2, zs2, z2, u2, K2, L2, V2)) : RI w2 ∧ a2 ≤ 110 ∧ pgr a2 Pg ∧ ∃ zz tt nn, z2 = nI zz ∧ u2 = nI tt ∧ zs2 = nI nn ∧ gst zz tt K2 L2 V2 ∧ nn ≤ 6 ∧ (∀ i, i < nn → vp_nar .boolean (A3 i) = A3 i) := by
  obtain ⟨x, w, hp, h⟩ := h
  have hw := prd_RI hI hp
  rcases h with ⟨h1, -, h2⟩ | ⟨-, h1, -, h2⟩
  · simp only [Prod.mk.injEq] at h2
    obtain ⟨rfl, -, -, -, rfl, rfl, rfl, rfl, rfl, rfl⟩ := h2
    refine ⟨?_, ha, hpg, z, t, n, rfl, rfl, rfl, hg, hn, hb⟩
    rcases h1 with ⟨-, rfl⟩ | ⟨-, -, rfl⟩
    · exact hw
    · exact RI_fns hw
  · have h3 := fns_ok h1
    have h4 : RI w2 := by have := RI_fns hw; rw [h1] at this; exact this
    obtain ⟨du, rs, u, n9, wl, hw9, zz, tg, DK, DL, DV⟩ := w2
    unfold stR at h2
    simp only [Prod.mk.injEq] at h2
    obtain ⟨rfl, -, -, -, rfl, rfl, rfl, rfl, rfl, rfl⟩ := h2
    obtain ⟨g1, g2, g3, g4, g5, g6, g7, g8, g9, gK, gL, gV⟩ := id h4
    exact ⟨h4, by omega, pgr_0, zz, tg, 0, rfl, rfl, rfl, ⟨by omega, fun _ => h3, g8, rng_cpy gK hg.2.2.2.1 (by omega), rng_cpy gL hg.2.2.2.2.1 (by omega), rng_cpy gV hg.2.2.2.2.2 (by omega)⟩, by omega, fun i hi => absurd hi (Nat.not_lt_zero i)⟩
theorem sets_m {Pg : Nat → Int32} {a z t n : Nat} {q : PS} {r n12 o16 : Int32} {K L V K2 L2 V2 RK RL RS Rb : Nat → Int32} {a2 : Nat} {z2 u2 n2 o2 s2 : Int32} (hg : gst z t K L V) (hn : n ≤ 6) (hfr : o16 = 0 → FR z t K L Rb) (h : mstP Pg a q r RK RL RS (a, nI z, nI t, n12, o16, nI n, K, L, V) (a2, z2, u2, n2, o2, s2, K2, L2, V2)) : ∃ zz tt nn, z2 = nI zz ∧ u2 = nI tt ∧ s2 = nI nn ∧ gst zz tt K2 L2 V2 ∧ nn ≤ 6 ∧ (o2 = 0 → FR zz tt K2 L2 Rb) := by
  obtain ⟨x, w, hp, hI, hS, hk, hs, h⟩ := h
  rcases h with ⟨-, h2, -⟩ | ⟨-, hf, -, ⟨y, yt, x3, x4, x5, hM⟩, h2⟩
  · simp only [Prod.mk.injEq] at h2
    obtain ⟨rfl, rfl, rfl, rfl, rfl, rfl, rfl, rfl, rfl⟩ := h2
    exact ⟨z, t, n, rfl, rfl, rfl, hg, hn, hfr⟩
  · obtain ⟨du, rs, u, n9, wl, hw9, zz, tg, DK, DL, DV⟩ := w
    obtain ⟨hd, hq, hm⟩ := hf
    have hlen := RL_len hd hM hI hS hq
    obtain ⟨rfl, rfl, rfl, -, rfl, rfl, k1, k2, l1, l2, v1, v2⟩ := h2
    obtain ⟨g1, g2, g3, g4, g5, g6, g7, g8, g9, gK, gL, gV⟩ := id hI
    dsimp only at k1 k2 l1 l2
    refine ⟨zz, u + 1, 0, rfl, rfl, rfl, ⟨by omega, fun _ => (stw_w hq).2.1, by omega, fun k hk6 => ?_, fun k hk6 => ?_, fun i hi => ?_⟩, by omega, fun e => absurd e (by decide)⟩
    · by_cases e : k < zz
      · rw [k1 k e, hk k (by omega)]; exact gK k hk6
      · rw [k2 k (by omega)]; exact hg.2.2.2.1 k hk6
    · by_cases e : k < zz
      · obtain ⟨l, hl, el⟩ := hlen k e
        exact ⟨l, by omega, by rw [l1 k e]; exact el⟩
      · rw [l2 k (by omega)]; exact hg.2.2.2.2.1 k hk6
    · by_cases e : i < 80
      · rw [v1 i e, hs i e]; exact gV i hi
      · rw [v2 i (by omega)]; exact hg.2.2.2.2.2 i hi
/-- both read alike -/
theorem sets_j {Pg : Nat → Int32} {a : Nat} {rs u n wl : Nat} {DK DL DV : Nat → Int32} {w2 : PS} {r r2 : Int32} {RK RL RS : Nat → Int32} {a2 am2 : Nat} {o8 n8 : Int32 × Int32 × Int32 × Int32 × Int32 × Int32 × (Nat → Int32) × (Nat → Int32) × (Nat → Int32)} {o9 n9 : Int32 × Int32 × Int32 × Int32 × Int32 × (Nat → Int32) × (Nat → Int32) × (Nat → Int32)} (ha : a ≤ 110) (hI : RI (1, rs, u, n, wl, 0, 0, 0, DK, DL, DV)) (h : setsP Pg a (1, rs, u, n, wl, 0, 0, 0, DK, DL, DV) r w2 (a, o8) (a2, n8)) (h2 : mstP Pg a (1, rs, u, n, wl, 0, 0, 0, DK, DL, DV) r2 RK RL RS (a, o9) (am2, n9)) : a2 = am2 ∧ r = r2 ∧ (∀ k, k < 5 → RK k = psK w2 k) ∧ (∀ i, i < 80 → RS i = psV w2 i) := by
  obtain ⟨x, w, hp, h⟩ := h
  obtain ⟨x2, w3, hp2, hI3, hS3, hk, hs, h2⟩ := h2
  obtain ⟨rfl, rfl⟩ := prd_uniq hp hp2
  have hW3 : WI w := by
    obtain ⟨j, -, -, hr, -⟩ := hp
    exact (prun_SW hI SI_0 WI_0 j w hr).2
  have hkk : ∀ v : PS, (v = w ∨ v = (fns w).2) → (∀ k, k < 5 → RK k = psK v k) ∧ (∀ i, i < 80 → RS i = psV v i) := fun v hv => by
    rcases hv with rfl | rfl
    · exact ⟨hk, hs⟩
    · rw [psK_fns, psV_fns]; exact ⟨hk, hs⟩
  rcases h with ⟨h1, hr1, e1⟩ | ⟨h0, h1, hr1, e1⟩
  · have ea : a2 = a := congrArg Prod.fst e1
    have hv : w2 = w ∨ w2 = (fns w).2 := by
      rcases h1 with ⟨-, h1⟩ | ⟨-, -, h1⟩
      · exact Or.inl h1
      · exact Or.inr h1
    rcases h2 with ⟨hr2, e2, -⟩ | ⟨h3, hf, hr2, ⟨y, yt, x3, x4, x5, hM⟩, -⟩
    · exact ⟨ea.trans (congrArg Prod.fst e2).symm, hr1.trans hr2.symm, hkk w2 hv⟩
    · rcases h1 with ⟨h1, -⟩ | ⟨-, h1, -⟩
      · exact absurd h1 h3
      · rw [(fin_iff hI3 hS3 hW3 hM).mp hf] at h1
        exact absurd h1 (by decide)
  · have hv : w2 = w ∨ w2 = (fns w).2 := Or.inr (by rw [h1])
    have hf1 : (fns w).1 = 1 := by rw [h1]
    have hz : w2.2.2.2.2.2.2.1 = w.2.2.2.2.2.2.1 := by
      have := fns_z w
      rw [h1] at this
      exact this
    rcases h2 with ⟨hr2, e2, h3 | ⟨h3, y, yt, x3, x4, x5, hM⟩⟩ | ⟨h3, hf, hr2, -, e2⟩
    · exact absurd h3 h0
    · exact absurd ((fin_iff hI3 hS3 hW3 hM).mpr hf1) h3
    · obtain ⟨x1, x2, x3, x4, x5, x6, x7, x8, x9⟩ := o8
      obtain ⟨y1, y2, y3, y4, y5, y6, y7, y8⟩ := o9
      obtain ⟨n1, n2, n3, n4, n5, n6, n7, n8⟩ := n9
      have e3 : a2 = 0 := congrArg Prod.fst e1
      exact ⟨e3.trans e2.1.symm, by rw [hr1, hr2, hz], hkk w2 hv⟩
/-! the sets of both sides are the same, as far as they are told -/
def EQs (z t : Nat) (K L V Km Lm Vm : Nat → Int32) : Prop := ∀ k, k < z → K k = Km k ∧ L k = Lm k ∧ ∀ u, u < t → ∀ x, x < 4 → nI x < L k → V (16 * k + 4 * u + x) = Vm (16 * k + 4 * u + x)
theorem isI_no {j z : Nat} (hj : j < z) (hz : z < 2 ^ 31) : ¬ isI (nI j) z = 0 := by rw [isI_lt hj hz]; decide
section EQ
variable {z t : Nat} {K L V Km Lm Vm : Nat → Int32} {p1 p2 p3 p4 : Int32}
theorem EQ_ch {K2 Km2 : Nat → Int32} {sd sd2 o o2 : Int32} (hz : z ≤ 6) (h : EQs z t K L V Km Lm Vm) (hc : ((isI p1 z = 0 ∨ isI p2 5 = 0) ∧ sd2 = sd ∧ K2 = K) ∨ (sd2 = 0 ∧ ∃ k, k < z ∧ p1 = nI k ∧ ¬ isI p2 5 = 0 ∧ K2 = upd K k p2)) (hm : ((isI p1 z = 0 ∨ isI p2 5 = 0) ∧ o2 = o ∧ Km2 = Km) ∨ (o2 = 1 ∧ ∃ k, k < z ∧ p1 = nI k ∧ ¬ isI p2 5 = 0 ∧ Km2 = upd Km k p2)) : EQs z t K2 L V Km2 Lm Vm := by
  rcases hc with ⟨c, -, rfl⟩ | ⟨-, k, hk, e1, h5, rfl⟩
  · rcases hm with ⟨-, -, rfl⟩ | ⟨-, j, hj, e, h6, -⟩
    · exact h
    · rcases c with c | c
      · rw [e] at c; exact absurd c (isI_no hj (by omega))
      · exact absurd c h6
  · rcases hm with ⟨d, -, -⟩ | ⟨-, j, hj, e, h6, rfl⟩
    · rcases d with d | d
      · rw [e1] at d; exact absurd d (isI_no hk (by omega))
      · exact absurd d h5
    · have hkj : k = j := (nI_eq (by omega) (by omega)).mp (e1.symm.trans e)
      subst hkj
      intro i hi
      obtain ⟨a, b, c⟩ := h i hi
      refine ⟨?_, b, c⟩
      by_cases q : i = k
      · rw [q, pk_us, pk_us]
      · rw [pk_un q, pk_un q, a]
theorem rCh_eq (hz : z ≤ 6) (h : EQs z t K L V Km Lm Vm) : rCh p1 p2 z K = rCh p1 p2 z Km := by
  unfold rCh
  by_cases q : isI p1 z = 0
  · rw [if_pos q, if_pos q]
  · rw [if_neg q, if_neg q]
    obtain ⟨k, hk, rfl⟩ := isI_of (by omega) q
    rw [nI_clamp (by omega), (h k hk).1]
theorem rAs_eq (hz : z ≤ 6) (h : EQs z t K L V Km Lm Vm) : rAs p1 p2 z K = rAs p1 p2 z Km := by
  unfold rAs
  by_cases q : isI p1 z = 0
  · rw [if_pos q, if_pos q]
  · rw [if_neg q, if_neg q]
    obtain ⟨k, hk, rfl⟩ := isI_of (by omega) q
    rw [nI_clamp (by omega), (h k hk).1]
theorem EQ_cp {z2 zm2 : Nat} {K2 L2 V2 Km2 Lm2 Vm2 : Nat → Int32} {sd sd2 o o2 : Int32} (hz : z ≤ 6) (ht : t ≤ 4) (h : EQs z t K L V Km Lm Vm) (hc : ((isI p1 z = 0 ∨ ¬ z < 6) ∧ sd2 = sd ∧ z2 = z ∧ K2 = K ∧ L2 = L ∧ V2 = V) ∨ (sd2 = 0 ∧ z < 6 ∧ z2 = z + 1 ∧ ∃ k, k < z ∧ p1 = nI k ∧ K2 = upd K z (K k) ∧ L2 = upd L z (L k) ∧ V2 = va_cpy V V (16 * k) (16 * z) 16)) (hm : ((isI p1 z = 0 ∨ ¬ z < 6) ∧ o2 = o ∧ zm2 = z ∧ Km2 = Km ∧ Lm2 = Lm ∧ Vm2 = Vm) ∨ (o2 = 1 ∧ z < 6 ∧ zm2 = z + 1 ∧ ∃ k, k < z ∧ p1 = nI k ∧ Km2 = upd Km z (Km k) ∧ Lm2 = upd Lm z (Lm k) ∧ Vm2 = va_cpy Vm Vm (16 * k) (16 * z) 16)) : z2 = zm2 ∧ EQs z2 t K2 L2 V2 Km2 Lm2 Vm2 := by
  rcases hc with ⟨c, -, rfl, rfl, rfl, rfl⟩ | ⟨-, h6, rfl, k, hk, e1, rfl, rfl, rfl⟩
  · rcases hm with ⟨-, -, rfl, rfl, rfl, rfl⟩ | ⟨-, h6, -, j, hj, e, -⟩
    · exact ⟨rfl, h⟩
    · rcases c with c | c
      · rw [e] at c; exact absurd c (isI_no hj (by omega))
      · exact absurd h6 c
  · rcases hm with ⟨d, -⟩ | ⟨-, -, rfl, j, hj, e, rfl, rfl, rfl⟩
    · rcases d with d | d
      · rw [e1] at d; exact absurd d (isI_no hk (by omega))
      · exact absurd h6 d
    · have hkj : k = j := (nI_eq (by omega) (by omega)).mp (e1.symm.trans e)
      subst hkj
      refine ⟨rfl, fun i hi => ?_⟩
      by_cases q : i = z
      · obtain ⟨a, b, c⟩ := h k hk
        rw [q, pk_us, pk_us, pk_us, pk_us]
        refine ⟨a, b, fun u hu x hx hl => ?_⟩
        rw [pk_cpy_in (by omega) (by omega), pk_cpy_in (by omega) (by omega), show 16 * k + (16 * z + 4 * u + x - 16 * z) = 16 * k + 4 * u + x by omega]
        exact c u hu x hx hl
      · obtain ⟨a, b, c⟩ := h i (by omega)
        rw [pk_un q, pk_un q, pk_un q, pk_un q]
        refine ⟨a, b, fun u hu x hx hl => ?_⟩
        rw [pk_cpy_out (by omega), pk_cpy_out (by omega)]
        exact c u hu x hx hl
theorem sh_in {k z i : Nat} (hk : k < z) (hi : i < z - 1) : sh k z i < z := by
  unfold sh
  split
  · omega
  · split <;> omega
theorem EQ_tk {z2 zm2 : Nat} {K2 L2 V2 Km2 Lm2 Vm2 A1 C1 : Nat → Int32} {sd sd2 o o2 : Int32} (hz : z ≤ 6) (ht : t ≤ 4) (h : EQs z t K L V Km Lm Vm) (hc : ((isI p1 z = 0 ∨ z = 1) ∧ sd2 = sd ∧ z2 = z ∧ K2 = K ∧ L2 = L ∧ V2 = V ∧ C1 = A1) ∨ (sd2 = 0 ∧ ¬ z = 1 ∧ z2 = z - 1 ∧ ∃ k, k < z ∧ p1 = nI k ∧ (∀ i, i < 6 → K2 i = K (sh k z i)) ∧ (∀ i, i < 6 → L2 i = L (sh k z i)) ∧ (∀ i, i < 6 → ∀ x, x < 16 → V2 (16 * i + x) = V (16 * sh k z i + x)))) (hm : ((isI p1 z = 0 ∨ z = 1) ∧ o2 = o ∧ zm2 = z ∧ Km2 = Km ∧ Lm2 = Lm ∧ Vm2 = Vm) ∨ (o2 = 1 ∧ ¬ z = 1 ∧ zm2 = z - 1 ∧ ∃ k, k < z ∧ p1 = nI k ∧ (∀ i, i < 6 → Km2 i = Km (sh k z i)) ∧ (∀ i, i < 6 → Lm2 i = Lm (sh k z i)) ∧ (∀ i, i < 6 → ∀ x, x < 16 → Vm2 (16 * i + x) = Vm (16 * sh k z i + x)))) : z2 = zm2 ∧ EQs z2 t K2 L2 V2 Km2 Lm2 Vm2 := by
  rcases hc with ⟨c, -, rfl, rfl, rfl, rfl, -⟩ | ⟨-, h6, rfl, k, hk, e1, a1, a2, a3⟩
  · rcases hm with ⟨-, -, rfl, rfl, rfl, rfl⟩ | ⟨-, h6, -, j, hj, e, -⟩
    · exact ⟨rfl, h⟩
    · rcases c with c | c
      · rw [e] at c; exact absurd c (isI_no hj (by omega))
      · exact absurd c h6
  · rcases hm with ⟨d, -⟩ | ⟨-, -, rfl, j, hj, e, b1, b2, b3⟩
    · rcases d with d | d
      · rw [e1] at d; exact absurd d (isI_no hk (by omega))
      · exact absurd d h6
    · have hkj : k = j := (nI_eq (by omega) (by omega)).mp (e1.symm.trans e)
      subst hkj
      refine ⟨rfl, fun i hi => ?_⟩
      have hs := sh_in hk hi
      obtain ⟨a, b, c⟩ := h _ hs
      rw [a1 i (by omega), a2 i (by omega), b1 i (by omega), b2 i (by omega)]
      refine ⟨a, b, fun u hu x hx hl => ?_⟩
      rw [show 16 * i + 4 * u + x = 16 * i + (4 * u + x) by omega, a3 i (by omega) _ (by omega), b3 i (by omega) _ (by omega), show 16 * sh k z i + (4 * u + x) = 16 * sh k z i + 4 * u + x by omega]
      exact c u hu x hx hl
theorem sil_congr {U W : Nat → Int32} {b o : Nat} : ∀ n, (∀ a, a < n → U (b + a) = W (b + a)) → sil U b o n = sil W b o n
  | 0, _ => rfl
  | n + 1, h => by
    show (if ¬ n = o ∧ ¬ U (b + n) = 0 then 0 else sil U b o n) = (if ¬ n = o ∧ ¬ W (b + n) = 0 then 0 else sil W b o n)
    rw [h n (by omega), sil_congr n (fun a ha => h a (by omega))]
theorem EQ_pt (hz : z ≤ 6) (ht : t ≤ 4) (hL : rng 6 5 L) (h : EQs z t K L V Km Lm Vm) : rPt p1 p2 p3 p4 z t L V = rPt p1 p2 p3 p4 z t Lm Vm ∧ EQs z t K L (vPt p1 p2 p3 p4 z t L V) Km Lm (vPt p1 p2 p3 p4 z t Lm Vm) := by
  by_cases q1 : isI p1 z = 0
  · obtain ⟨a, b⟩ := pt_a (p2 := p2) (p3 := p3) (p4 := p4) (t := t) (L := L) (V := V) q1
    obtain ⟨c, d⟩ := pt_a (p2 := p2) (p3 := p3) (p4 := p4) (t := t) (L := Lm) (V := Vm) q1
    rw [a, b, c, d]; exact ⟨rfl, h⟩
  · by_cases q2 : isI p2 t = 0
    · obtain ⟨a, b⟩ := pt_b (p1 := p1) (p3 := p3) (p4 := p4) (z := z) (L := L) (V := V) q2
      obtain ⟨c, d⟩ := pt_b (p1 := p1) (p3 := p3) (p4 := p4) (z := z) (L := Lm) (V := Vm) q2
      rw [a, b, c, d]; exact ⟨rfl, h⟩
    · obtain ⟨k, hk, rfl⟩ := isI_of (by omega) q1
      obtain ⟨u, hu, rfl⟩ := isI_of (by omega) q2
      obtain ⟨e1, e2, e3⟩ := h k hk
      obtain ⟨n, hn, en⟩ := hL k (by omega)
      by_cases q3 : plc p3 (L k) = 0
      · obtain ⟨a, b⟩ := pt_c (p2 := nI u) (p4 := p4) (t := t) (V := V) hk hz q3
        obtain ⟨c, d⟩ := pt_c (p2 := nI u) (p4 := p4) (t := t) (L := Lm) (V := Vm) hk hz (by rw [← e2]; exact q3)
        rw [a, b, c, d]; exact ⟨rfl, h⟩
      · rw [en] at q3
        obtain ⟨x, hx, rfl⟩ := isI_of (p := p3) (z := n) (by omega) q3
        by_cases q4 : isI p4 9 = 0
        · obtain ⟨a, b⟩ := pt_d (V := V) hk hz hu ht en hn hx q4
          obtain ⟨c, d⟩ := pt_d (V := Vm) hk hz hu ht (e2.symm.trans en) hn hx q4
          rw [a, b, c, d]; exact ⟨rfl, h⟩
        · obtain ⟨v, hv, rfl⟩ := isI_of (p := p4) (z := 9) (by decide) q4
          obtain ⟨a, b⟩ := pt_e (V := V) hk hz hu ht en hn hx hv
          obtain ⟨c, d⟩ := pt_e (V := Vm) hk hz hu ht (e2.symm.trans en) hn hx hv
          have hp : ∀ y, y < n → V (16 * k + 4 * u + y) = Vm (16 * k + 4 * u + y) := fun y hy => e3 u hu y (by omega) (by rw [en]; exact (nI_ltI (by omega) (by omega)).mpr hy)
          have ho : onl V (16 * k + 4 * u) x n (nI v) = onl Vm (16 * k + 4 * u) x n (nI v) := by
            unfold onl
            rw [sil_congr n hp]
          rw [a, b, c, d, ho, hp x hx]
          refine ⟨rfl, ?_⟩
          by_cases q5 : onl Vm (16 * k + 4 * u) x n (nI v) = 0
          · rw [if_pos q5, if_pos q5]
            intro i hi
            obtain ⟨f1, f2, f3⟩ := h i hi
            refine ⟨f1, f2, fun y hy w hw hl => ?_⟩
            by_cases q6 : 16 * i + 4 * y + w = 16 * k + 4 * u + x
            · rw [q6, pk_us, pk_us]
            · rw [pk_un q6, pk_un q6]; exact f3 y hy w hw hl
          · rw [if_neg q5, if_neg q5]; exact h
theorem sw_t {i j u : Nat} (hi : i < t) (hj : j < t) (hu : u < t) : sw i j u < t := by
  unfold sw
  split
  · exact hj
  · split
    · exact hi
    · exact hu
theorem EQ_sw {V3 W3 : Nat → Int32} (hz : z ≤ 6) (ht : t ≤ 4) (h : EQs z t K L V Km Lm Vm) (hc : ((isI p1 t = 0 ∨ isI p2 t = 0 ∨ p1 = p2) ∧ V3 = V) ∨ (∃ i j, i < t ∧ j < t ∧ p1 = nI i ∧ p2 = nI j ∧ ¬ i = j ∧ XV i j V (fun k x => k < z ∧ nI x < L k) V3)) (hm : ((isI p1 t = 0 ∨ isI p2 t = 0 ∨ p1 = p2) ∧ W3 = Vm) ∨ (∃ i j, i < t ∧ j < t ∧ p1 = nI i ∧ p2 = nI j ∧ ¬ i = j ∧ XV i j Vm (fun k x => k < z) W3)) : EQs z t K L V3 Km Lm W3 := by
  have no : (isI p1 t = 0 ∨ isI p2 t = 0 ∨ p1 = p2) → ∀ i j, i < t → j < t → p1 = nI i → p2 = nI j → ¬ i = j → False := fun c i j hi hj e1 e2 hij => by
    rcases c with c | c | c
    · rw [e1] at c; exact isI_no hi (by omega) c
    · rw [e2] at c; exact isI_no hj (by omega) c
    · exact hij ((nI_eq (by omega) (by omega)).mp (e1.symm.trans (c.trans e2)))
  rcases hc with ⟨c, rfl⟩ | ⟨i, j, hi, hj, e1, e2, hij, hX⟩
  · rcases hm with ⟨-, rfl⟩ | ⟨i, j, hi, hj, e1, e2, hij, -⟩
    · exact h
    · exact (no c i j hi hj e1 e2 hij).elim
  · rcases hm with ⟨c, -⟩ | ⟨i2, j2, hi2, hj2, f1, f2, -, hY⟩
    · exact (no c i j hi hj e1 e2 hij).elim
    · have a1 : i = i2 := (nI_eq (by omega) (by omega)).mp (e1.symm.trans f1)
      have a2 : j = j2 := (nI_eq (by omega) (by omega)).mp (e2.symm.trans f2)
      subst a1; subst a2
      intro k hk
      obtain ⟨b1, b2, b3⟩ := h k hk
      refine ⟨b1, b2, fun u hu x hx hl => ?_⟩
      rw [(hX k (by omega) u (by omega) x hx).1 ⟨hk, hl⟩, (hY k (by omega) u (by omega) x hx).1 hk]
      exact b3 _ (sw_t hi hj hu) x hx hl
theorem EQ_of {z t z3 t3 : Nat} {K L V Km Lm Vm K3 L3 V3 K4 L4 V4 : Nat → Int32} (hz : z ≤ 6) (ht : t ≤ 4) (h : EQs z t K L V Km Lm Vm) (ez : z3 = z) (et : t3 = t) (a1 : ∀ i, i < 6 → K3 i = K i) (a2 : ∀ i, i < 6 → L3 i = L i) (a3 : ∀ i, i < 96 → V3 i = V i) (b1 : ∀ i, i < 6 → K4 i = Km i) (b2 : ∀ i, i < 6 → L4 i = Lm i) (b3 : ∀ i, i < 96 → V4 i = Vm i) : EQs z3 t3 K3 L3 V3 K4 L4 V4 := by
  subst ez; subst et
  intro k hk
  obtain ⟨c1, c2, c3⟩ := h k hk
  rw [a1 k (by omega), a2 k (by omega), b1 k (by omega), b2 k (by omega)]
  exact ⟨c1, c2, fun u hu x hx hl => by rw [a3 _ (by omega), b3 _ (by omega)]; exact c3 u hu x hx hl⟩
end EQ
/-- both refuse, or both read -/
theorem sets_d {Pg : Nat → Int32} {a : Nat} {rs u n wl : Nat} {DK DL DV : Nat → Int32} {w2 : PS} {r r2 : Int32} {RK RL RS : Nat → Int32} {o8 n8 : ST8} {o9 n9 : ST9} (hI : RI (1, rs, u, n, wl, 0, 0, 0, DK, DL, DV)) (h : setsP Pg a (1, rs, u, n, wl, 0, 0, 0, DK, DL, DV) r w2 o8 n8) (h2 : mstP Pg a (1, rs, u, n, wl, 0, 0, 0, DK, DL, DV) r2 RK RL RS o9 n9) : (n8 = o8 ∧ n9 = o9) ∨ (∃ w, fns w = (1, w2) ∧ RI w ∧ SI w ∧ MFin RL RS w ∧ (∃ y yt x3 x4 x5, MR w y yt x3 x4 x5 RK RL RS) ∧ n8 = stR w2 o8 ∧ mstR RK RL RS w o9 n9) := by
  obtain ⟨x, w, hp, h⟩ := h
  obtain ⟨x2, w3, hp2, hI3, hS3, hk, hs, h2⟩ := h2
  obtain ⟨rfl, rfl⟩ := prd_uniq hp hp2
  have hW3 : WI w := by
    obtain ⟨j, -, -, hr, -⟩ := hp
    exact (prun_SW hI SI_0 WI_0 j w hr).2
  rcases h with ⟨h1, hr1, e1⟩ | ⟨h0, h1, hr1, e1⟩
  · rcases h2 with ⟨hr2, e2, -⟩ | ⟨h3, hf, hr2, ⟨y, yt, x3, x4, x5, hM⟩, -⟩
    · exact Or.inl ⟨e1, e2⟩
    · rcases h1 with ⟨h1, -⟩ | ⟨-, h1, -⟩
      · exact absurd h1 h3
      · rw [(fin_iff hI3 hS3 hW3 hM).mp hf] at h1
        exact absurd h1 (by decide)
  · have hf1 : (fns w).1 = 1 := by rw [h1]
    rcases h2 with ⟨hr2, e2, h3 | ⟨h3, y, yt, x3, x4, x5, hM⟩⟩ | ⟨h3, hf, hr2, hM, e2⟩
    · exact absurd h3 h0
    · exact absurd ((fin_iff hI3 hS3 hW3 hM).mpr hf1) h3
    · exact Or.inr ⟨w, h1, hI3, hS3, hf, hM, e1, e2⟩
theorem sets_e {Pg : Nat → Int32} {a z t n : Nat} {rs u pl wl : Nat} {DK DL DV : Nat → Int32} {w2 : PS} {r r2 : Int32} {RK RL RS : Nat → Int32} {re sd kp o16 : Int32} {K L V Km Lm Vm K2 L2 V2 Km2 Lm2 Vm2 : Nat → Int32} {a2 am2 : Nat} {re2 sd2 kp2 zs2 z2 u2 zm2 um2 rm2 o2 sm2 : Int32} (hI : RI (1, rs, u, pl, wl, 0, 0, 0, DK, DL, DV)) (hz6 : z ≤ 6) (ht6 : t ≤ 4) (hn6 : n ≤ 6) (hEQ : EQs z t K L V Km Lm Vm) (h : setsP Pg a (1, rs, u, pl, wl, 0, 0, 0, DK, DL, DV) r w2 (a, re, sd, kp, nI n, nI z, nI t, K, L, V) (a2, re2, sd2, kp2, zs2, z2, u2, K2, L2, V2)) (h2 : mstP Pg a (1, rs, u, pl, wl, 0, 0, 0, DK, DL, DV) r2 RK RL RS (a, nI z, nI t, re, o16, nI n, Km, Lm, Vm) (am2, zm2, um2, rm2, o2, sm2, Km2, Lm2, Vm2)) : ∃ zz tt nn, z2 = nI zz ∧ u2 = nI tt ∧ zs2 = nI nn ∧ zm2 = nI zz ∧ um2 = nI tt ∧ sm2 = nI nn ∧ re2 = rm2 ∧ EQs zz tt K2 L2 V2 Km2 Lm2 Vm2 ∧ ((re2 = re ∧ kp2 = kp) ∨ (re2 = re + 1 ∧ kp2 = 0)) ∧ zz ≤ 6 ∧ tt ≤ 4 ∧ nn ≤ 6 := by
  rcases sets_d hI h h2 with ⟨e1, e2⟩ | ⟨w, h1, hI3, hS3, hf, ⟨y, yt, x3, x4, x5, hM⟩, e1, e2⟩
  · simp only [Prod.mk.injEq] at e1 e2
    obtain ⟨-, rfl, -, rfl, rfl, rfl, rfl, rfl, rfl, rfl⟩ := e1
    obtain ⟨-, rfl, rfl, rfl, -, rfl, rfl, rfl, rfl⟩ := e2
    exact ⟨z, t, n, rfl, rfl, rfl, rfl, rfl, rfl, rfl, hEQ, Or.inl ⟨rfl, rfl⟩, hz6, ht6, hn6⟩
  · obtain ⟨du, qs, qu, qn, ql, qw, qz, qg, QK, QL, QV⟩ := w
    obtain ⟨hd, hq, hm⟩ := hf
    have hfn : fns (du, qs, qu, qn, ql, qw, qz, qg, QK, QL, QV) = ((if hsn ql qw = 0 then 1 else 0), (du, qs, qu, qn, ql, hsn ql qw, qz, qu + 1, QK, upd QL qs (nI qn), QV)) := by
      unfold fns
      dsimp only
      rw [if_pos hd, if_neg hq]
    have ew : (du, qs, qu, qn, ql, hsn ql qw, qz, qu + 1, QK, upd QL qs (nI qn), QV) = w2 := congrArg Prod.snd (hfn.symm.trans h1)
    subst ew
    unfold stR at e1
    simp only [Prod.mk.injEq] at e1
    obtain ⟨-, rfl, -, rfl, rfl, rfl, rfl, rfl, rfl, rfl⟩ := e1
    obtain ⟨-, rfl, rfl, rfl, -, rfl, k1, k2, l1, l2, v1, v2⟩ := e2
    dsimp only at k1 k2 l1 l2
    obtain ⟨g1, g2, g3, g4, g5, g6, g7, g8, g9, gK, gL, gV⟩ := id hI3
    obtain ⟨s1, s2, s3, s4⟩ := id hS3
    obtain ⟨-, -, m3, m4, mK, mS, mL⟩ := id hM
    obtain ⟨e3, e4, e5, e6⟩ := m4 hd
    obtain ⟨qw1, qu1, qt1⟩ := stw_w hq
    have hz := s1 hd
    have hn0 : ¬ qn = 0 := by
      by_cases hu : qu = 0
      · exact wdw_pos (l := 0) qw1 (fun e => absurd hu e) (by omega)
      · obtain ⟨l, a1, a2, a3, a4⟩ := s2 hd hu
        exact wdw_pos (l := l) qw1 (fun _ => ⟨a1, by omega, a3⟩) (by omega)
    refine ⟨qz, qu + 1, 0, rfl, rfl, rfl, rfl, rfl, rfl, rfl, fun k hk => ?_, Or.inr ⟨rfl, rfl⟩, by omega, by omega, by omega⟩
    rw [k1 k hk, l1 k hk]
    refine ⟨?_, ?_, fun v hv x hx hl => ?_⟩
    · exact (cpy_in (by omega)).trans (mK k (by omega)).symm
    · refine (cpy_in (by omega)).trans ?_
      by_cases q : k = qs
      · rw [q, e6 hn0]; exact pk_us
      · rw [mL k hk (fun _ => by omega)]; exact pk_un q
    · rw [v1 _ (by omega), mS _ (by omega)]
      exact cpy_in (by omega)
def bz3 (n : Nat) (f : Nat → Int32) : Prop := ∀ i, i < n → vp_nar .boolean (f i) = f i
theorem sets_f {Pg : Nat → Int32} {a z t n : Nat} {rs u pl wl : Nat} {DK DL DV : Nat → Int32} {w2 : PS} {r r2 : Int32} {RK RL RS Rb A3 : Nat → Int32} {re sd kp o16 : Int32} {K L V Km Lm Vm K2 L2 V2 Km2 Lm2 Vm2 : Nat → Int32} {a2 am2 : Nat} {re2 sd2 kp2 zs2 z2 u2 zm2 um2 rm2 o2 sm2 : Int32} (hI : RI (1, rs, u, pl, wl, 0, 0, 0, DK, DL, DV)) (ha : a ≤ 110) (hpg : pgr a Pg) (hg : gst z t K L V) (hgm : gst z t Km Lm Vm) (hn : n ≤ 6) (hb : ∀ i, i < n → vp_nar .boolean (A3 i) = A3 i) (hfr : o16 = 0 → FR z t Km Lm Rb) (hEQ : EQs z t K L V Km Lm Vm) (h : setsP Pg a (1, rs, u, pl, wl, 0, 0, 0, DK, DL, DV) r w2 (a, re, sd, kp, nI n, nI z, nI t, K, L, V) (a2, re2, sd2, kp2, zs2, z2, u2, K2, L2, V2)) (h2 : mstP Pg a (1, rs, u, pl, wl, 0, 0, 0, DK, DL, DV) r2 RK RL RS (a, nI z, nI t, re, o16, nI n, Km, Lm, Vm) (am2, zm2, um2, rm2, o2, sm2, Km2, Lm2, Vm2)) : RI w2 ∧ a2 ≤ 110 ∧ pgr a2 Pg ∧ ∃ zz tt nn, z2 = nI zz ∧ u2 = nI tt ∧ zs2 = nI nn ∧ zm2 = nI zz ∧ um2 = nI tt ∧ sm2 = nI nn ∧ rm2 = re2 ∧ EQs zz tt K2 L2 V2 Km2 Lm2 Vm2 ∧ ((re2 = re ∧ kp2 = kp) ∨ (re2 = re + 1 ∧ kp2 = 0)) ∧ gst zz tt K2 L2 V2 ∧ gst zz tt Km2 Lm2 Vm2 ∧ nn ≤ 6 ∧ (∀ i, i < nn → vp_nar .boolean (A3 i) = A3 i) ∧ (o2 = 0 → FR zz tt Km2 Lm2 Rb) := by
  obtain ⟨zz, tt, nn, e1, e2, e3, f1, f2, f3, er, eq, ek, b1, b2, b3⟩ := sets_e hI hg.1 hg.2.2.1 hn hEQ h h2
  obtain ⟨q1, q2, q3, z5, t5, n5, c1, c2, c3, q4, q5, q6⟩ := sets_c (A3 := A3) hI hg ha hpg hn hb h
  obtain ⟨z6, t6, n6, d1, d2, d3, r4, r5, r6⟩ := sets_m (Rb := Rb) hgm hn hfr h2
  have a1 : z5 = zz := (nI_eq (by have := q4.1; omega) (by omega)).mp (c1.symm.trans e1)
  have a2 : t5 = tt := (nI_eq (by have := q4.2.2.1; omega) (by omega)).mp (c2.symm.trans e2)
  have a3 : n5 = nn := (nI_eq (by omega) (by omega)).mp (c3.symm.trans e3)
  have a4 : z6 = zz := (nI_eq (by have := r4.1; omega) (by omega)).mp (d1.symm.trans f1)
  have a5 : t6 = tt := (nI_eq (by have := r4.2.2.1; omega) (by omega)).mp (d2.symm.trans f2)
  rw [a1, a2] at q4
  rw [a3] at q6
  rw [a4, a5] at r4 r6
  exact ⟨q1, q2, q3, zz, tt, nn, e1, e2, e3, f1, f2, f3, er.symm, eq, ek, q4, r4, b3, q6, r6⟩
/-! what is kept, and how often was read -/
def KPs (kp x re : Int32) (z2 t2 n2 z3 t3 n3 : Nat) (K2 L2 V2 Kk Lk Vk : Nat → Int32) : Prop := (kp = 0 ∧ ¬ x = re) ∨ (kp = 1 ∧ x = re ∧ z3 = z2 ∧ t3 = t2 ∧ n3 = n2 ∧ EQs z2 t2 K2 L2 V2 Kk Lk Vk)
def REs (re x : Int32) (i : Nat) : Prop := ∃ m, re = nI m ∧ m ≤ i ∧ (x = (-1) ∨ ∃ k, k ≤ m ∧ x = nI k)
theorem RE_up {re x : Int32} {i : Nat} (h : REs re x i) : REs re x (i + 5) := by
  obtain ⟨m, a, b, c⟩ := h
  exact ⟨m, a, by omega, c⟩
theorem RE_se {re re2 x kp kp2 : Int32} {i : Nat} (h : REs re x i) (ek : (re2 = re ∧ kp2 = kp) ∨ (re2 = re + 1 ∧ kp2 = 0)) : REs re2 x (i + 5) := by
  obtain ⟨m, rfl, b, c⟩ := h
  rcases ek with ⟨rfl, -⟩ | ⟨rfl, -⟩
  · exact ⟨m, rfl, by omega, c⟩
  · exact ⟨m + 1, nI_1 m, by omega, c.imp id (fun ⟨k, hk, e⟩ => ⟨k, by omega, e⟩)⟩
theorem RE_im {re x x2 : Int32} {i z : Nat} {P Q : Prop} (h : REs re x i) (hq : (z = 0 ∧ x2 = x ∧ P) ∨ (¬ z = 0 ∧ x2 = re ∧ Q)) : REs re x2 (i + 5) := by
  obtain ⟨m, rfl, b, c⟩ := h
  rcases hq with ⟨-, rfl, -⟩ | ⟨-, rfl, -⟩
  · exact ⟨m, rfl, by omega, c⟩
  · exact ⟨m, rfl, by omega, Or.inr ⟨m, Nat.le_refl m, rfl⟩⟩
section KPS
variable {kp kp2 x x2 re re2 : Int32} {z t n z2 t2 n2 z3 t3 n3 z4 t4 n4 z5 t5 n5 i : Nat} {K L V Km Lm Vm K2 L2 V2 Kk Lk Vk K3 L3 V3 K4 L4 V4 : Nat → Int32}
theorem KP_se (hi : i ≤ 2560) (h : KPs kp x re z2 t2 n2 z3 t3 n3 K2 L2 V2 Kk Lk Vk) (hr : REs re x i) (ek : (re2 = re ∧ kp2 = kp) ∨ (re2 = re + 1 ∧ kp2 = 0)) : KPs kp2 x re2 z2 t2 n2 z3 t3 n3 K2 L2 V2 Kk Lk Vk := by
  rcases ek with ⟨rfl, rfl⟩ | ⟨rfl, rfl⟩
  · exact h
  · obtain ⟨m, rfl, b, c⟩ := hr
    refine Or.inl ⟨rfl, fun e => ?_⟩
    rw [nI_1] at e
    rcases c with c | ⟨k, hk, c⟩
    · rw [c] at e
      exact nI_pos (n := m + 1) (by omega) (by rw [← e]; decide)
    · have := (nI_eq (by omega) (by omega)).mp (c.symm.trans e)
      omega
theorem KP_im (hz : z ≤ 6) (ht : t ≤ 4) (hE : EQs z t K L V Km Lm Vm) (h : KPs kp x re z2 t2 n2 z3 t3 n3 K2 L2 V2 Kk Lk Vk) (hc : (z = 0 ∧ kp2 = kp ∧ z4 = z2 ∧ t4 = t2 ∧ n4 = n2 ∧ K3 = K2 ∧ L3 = L2 ∧ V3 = V2) ∨ (¬ z = 0 ∧ kp2 = 1 ∧ z4 = z ∧ t4 = t ∧ n4 = n ∧ (∀ i, i < 6 → K3 i = K i) ∧ (∀ i, i < 6 → L3 i = L i) ∧ (∀ i, i < 96 → V3 i = V i))) (hm : (z = 0 ∧ x2 = x ∧ z5 = z3 ∧ t5 = t3 ∧ n5 = n3 ∧ K4 = Kk ∧ L4 = Lk ∧ V4 = Vk) ∨ (¬ z = 0 ∧ x2 = re ∧ z5 = z ∧ t5 = t ∧ n5 = n ∧ (∀ i, i < 6 → K4 i = Km i) ∧ (∀ i, i < 6 → L4 i = Lm i) ∧ (∀ i, i < 96 → V4 i = Vm i))) : KPs kp2 x2 re z4 t4 n4 z5 t5 n5 K3 L3 V3 K4 L4 V4 := by
  rcases hc with ⟨c, rfl, rfl, rfl, rfl, rfl, rfl, rfl⟩ | ⟨c, rfl, e1, e2, e3, a1, a2, a3⟩
  · rcases hm with ⟨-, rfl, rfl, rfl, rfl, rfl, rfl, rfl⟩ | ⟨d, -⟩
    · exact h
    · exact absurd c d
  · rcases hm with ⟨d, -⟩ | ⟨-, rfl, f1, f2, f3, b1, b2, b3⟩
    · exact absurd d c
    · exact Or.inr ⟨rfl, rfl, f1.trans e1.symm, f2.trans e2.symm, f3.trans e3.symm, EQ_of hz ht hE e1 e2 a1 a2 a3 b1 b2 b3⟩
theorem RS_j {sd sd2 o o2 : Int32} (hz2 : z2 ≤ 6) (ht2 : t2 ≤ 4) (hE : EQs z t K L V Km Lm Vm) (h : KPs kp x re z2 t2 n2 z3 t3 n3 K2 L2 V2 Kk Lk Vk) (hc : (kp = 0 ∧ sd2 = sd ∧ z4 = z ∧ t4 = t ∧ n4 = n ∧ K3 = K ∧ L3 = L ∧ V3 = V) ∨ (¬ kp = 0 ∧ sd2 = 0 ∧ z4 = z2 ∧ t4 = t2 ∧ n4 = n2 ∧ (∀ i, i < 6 → K3 i = K2 i) ∧ (∀ i, i < 6 → L3 i = L2 i) ∧ (∀ i, i < 96 → V3 i = V2 i))) (hm : (¬ x = re ∧ o2 = o ∧ z5 = z ∧ t5 = t ∧ n5 = n ∧ K4 = Km ∧ L4 = Lm ∧ V4 = Vm) ∨ (x = re ∧ o2 = 1 ∧ z5 = z3 ∧ t5 = t3 ∧ n5 = n3 ∧ (∀ i, i < 6 → K4 i = Kk i) ∧ (∀ i, i < 6 → L4 i = Lk i) ∧ (∀ i, i < 96 → V4 i = Vk i))) : z4 = z5 ∧ t4 = t5 ∧ n4 = n5 ∧ EQs z4 t4 K3 L3 V3 K4 L4 V4 := by
  rcases h with ⟨k0, kx⟩ | ⟨k1, kx, g1, g2, g3, gE⟩
  · rcases hc with ⟨-, -, rfl, rfl, rfl, rfl, rfl, rfl⟩ | ⟨c, -⟩
    · rcases hm with ⟨-, -, rfl, rfl, rfl, rfl, rfl, rfl⟩ | ⟨d, -⟩
      · exact ⟨rfl, rfl, rfl, hE⟩
      · exact absurd d kx
    · exact absurd k0 c
  · rcases hc with ⟨c, -⟩ | ⟨-, -, e1, e2, e3, a1, a2, a3⟩
    · rw [k1] at c; exact absurd c (by decide)
    · rcases hm with ⟨d, -⟩ | ⟨-, -, f1, f2, f3, b1, b2, b3⟩
      · exact absurd kx d
      · exact ⟨by omega, by omega, by omega, EQ_of hz2 ht2 gE e1 e2 a1 a2 a3 b1 b2 b3⟩
theorem RS_r (h : KPs kp x re z2 t2 n2 z3 t3 n3 K2 L2 V2 Kk Lk Vk) : (if kp = 0 then (-103) else nI z2) = (if x = re then nI z3 else (-103)) := by
  rcases h with ⟨k0, kx⟩ | ⟨k1, kx, g1, -⟩
  · rw [if_pos k0, if_neg kx]
  · rw [if_neg (by rw [k1]; decide), if_pos kx, g1]
end KPS
theorem frC {z z2 t : Nat} {K L V Rb K2 L2 V2 : Nat → Int32} {o2 o : Int32} {C D : Prop} (h : o = 0 → FR z t K L Rb) (ho : (C ∧ o2 = o ∧ z2 = z ∧ K2 = K ∧ L2 = L ∧ V2 = V) ∨ (o2 = 1 ∧ D)) : o2 = 0 → FR z2 t K2 L2 Rb := fun e => by
  rcases ho with ⟨-, q, rfl, rfl, rfl, -⟩ | ⟨q, -⟩
  · exact h (q.symm.trans e)
  · rw [q] at e; exact absurd e (by decide)
theorem frH {z t : Nat} {K L Rb K2 : Nat → Int32} {o2 o : Int32} {C D : Prop} (h : o = 0 → FR z t K L Rb) (ho : (C ∧ o2 = o ∧ K2 = K) ∨ (o2 = 1 ∧ D)) : o2 = 0 → FR z t K2 L Rb := fun e => by
  rcases ho with ⟨-, q, rfl⟩ | ⟨q, -⟩
  · exact h (q.symm.trans e)
  · rw [q] at e; exact absurd e (by decide)
theorem frS {z t n z2 t2 n2 : Nat} {K L V Rb K2 L2 V2 : Nat → Int32} {o2 o : Int32} {C E D : Prop} (h : o = 0 → FR z t K L Rb) (ho : (C ∧ o2 = o ∧ z2 = z ∧ t2 = t ∧ n2 = n ∧ K2 = K ∧ L2 = L ∧ V2 = V) ∨ (E ∧ o2 = 1 ∧ D)) : o2 = 0 → FR z2 t2 K2 L2 Rb := fun e => by
  rcases ho with ⟨-, q, rfl, rfl, -, rfl, rfl, -⟩ | ⟨-, q, -⟩
  · exact h (q.symm.trans e)
  · rw [q] at e; exact absurd e (by decide)
theorem nw_in : ∀ w ∈ nw_list, w ∈ lw_tbl := mem_r _ [101, 107, 167, 170, 191, 197, 226, 268, 290, 295, 496, 543, 545, 550, 557, 559, 565, 579, 583, 598, 604, 605, 608, 649, 650, 738, 753] (by decide +kernel)
set_option maxRecDepth 20000 in
theorem in_COSTS : ∀ j, j < 81 → Cond.eq (.elem (.static "SoundLaws" "COSTS" "[I") (.int (Int32.ofNat j))) (.int (tb_COSTS.getD j 0)) ∈ flatC (Jvm.Cond.and given_1 narrow_1) := by decide +kernel
set_option maxRecDepth 20000 in
theorem ia_COSTS : Cond.arrayOf (.static "SoundLaws" "COSTS" "[I") .int ∈ flatC (Jvm.Cond.and given_1 narrow_1) := by decide +kernel
set_option maxRecDepth 20000 in
theorem il_COSTS : Cond.eq (.length (.static "SoundLaws" "COSTS" "[I")) (.int (Int32.ofNat 81)) ∈ flatC (Jvm.Cond.and given_1 narrow_1) := by decide +kernel
set_option maxRecDepth 20000 in
theorem in_PAIRS : ∀ j, j < 12 → Cond.eq (.elem (.static "SoundLaws" "PAIRS" "[I") (.int (Int32.ofNat j))) (.int (tb_PAIRS.getD j 0)) ∈ flatC (Jvm.Cond.and given_1 narrow_1) := by decide +kernel
set_option maxRecDepth 20000 in
theorem ia_PAIRS : Cond.arrayOf (.static "SoundLaws" "PAIRS" "[I") .int ∈ flatC (Jvm.Cond.and given_1 narrow_1) := by decide +kernel
set_option maxRecDepth 20000 in
theorem il_PAIRS : Cond.eq (.length (.static "SoundLaws" "PAIRS" "[I")) (.int (Int32.ofNat 12)) ∈ flatC (Jvm.Cond.and given_1 narrow_1) := by decide +kernel
set_option maxRecDepth 20000 in
theorem in_FIRST_PAIR : ∀ j, j < 5 → Cond.eq (.elem (.static "SoundLaws" "FIRST_PAIR" "[I") (.int (Int32.ofNat j))) (.int (tb_FIRST_PAIR.getD j 0)) ∈ flatC (Jvm.Cond.and given_1 narrow_1) := by decide +kernel
set_option maxRecDepth 20000 in
theorem ia_FIRST_PAIR : Cond.arrayOf (.static "SoundLaws" "FIRST_PAIR" "[I") .int ∈ flatC (Jvm.Cond.and given_1 narrow_1) := by decide +kernel
set_option maxRecDepth 20000 in
theorem il_FIRST_PAIR : Cond.eq (.length (.static "SoundLaws" "FIRST_PAIR" "[I")) (.int (Int32.ofNat 5)) ∈ flatC (Jvm.Cond.and given_1 narrow_1) := by decide +kernel
set_option maxRecDepth 20000 in
theorem in_WEIGHTS : ∀ j, j < 5 → Cond.eq (.elem (.static "SoundLaws" "WEIGHTS" "[I") (.int (Int32.ofNat j))) (.int (tb_WEIGHTS.getD j 0)) ∈ flatC (Jvm.Cond.and given_1 narrow_1) := by decide +kernel
set_option maxRecDepth 20000 in
theorem ia_WEIGHTS : Cond.arrayOf (.static "SoundLaws" "WEIGHTS" "[I") .int ∈ flatC (Jvm.Cond.and given_1 narrow_1) := by decide +kernel
set_option maxRecDepth 20000 in
theorem il_WEIGHTS : Cond.eq (.length (.static "SoundLaws" "WEIGHTS" "[I")) (.int (Int32.ofNat 5)) ∈ flatC (Jvm.Cond.and given_1 narrow_1) := by decide +kernel
set_option maxRecDepth 20000 in
theorem in_REBUILDS : ∀ j, j < 5 → Cond.eq (.elem (.static "SoundLaws" "REBUILDS" "[I") (.int (Int32.ofNat j))) (.int (tb_REBUILDS.getD j 0)) ∈ flatC (Jvm.Cond.and given_1 narrow_1) := by decide +kernel
set_option maxRecDepth 20000 in
theorem ia_REBUILDS : Cond.arrayOf (.static "SoundLaws" "REBUILDS" "[I") .int ∈ flatC (Jvm.Cond.and given_1 narrow_1) := by decide +kernel
set_option maxRecDepth 20000 in
theorem il_REBUILDS : Cond.eq (.length (.static "SoundLaws" "REBUILDS" "[I")) (.int (Int32.ofNat 5)) ∈ flatC (Jvm.Cond.and given_1 narrow_1) := by decide +kernel
def tmS (i : Nat) : Term := if i = 0 then .string RX3 32 else .string RX3 51
set_option maxRecDepth 20000 in
theorem se_ex : ∀ i, i < 2 → Cond.exactly (tmS i) "java/lang/String" ∈ flatC (Jvm.Cond.and given_1 narrow_1) := by decide +kernel
set_option maxRecDepth 20000 in
theorem se_co : ∀ i, i < 2 → Cond.eq (.field (tmS i) "java/lang/String" "coder" "B") (.int 0) ∈ flatC (Jvm.Cond.and given_1 narrow_1) := by decide +kernel
set_option maxRecDepth 20000 in
theorem se_ar : ∀ i, i < 2 → Cond.arrayOf (.field (tmS i) "java/lang/String" "value" "[B") .byte ∈ flatC (Jvm.Cond.and given_1 narrow_1) := by decide +kernel
set_option maxRecDepth 20000 in
theorem se_le : ∀ i, i < 2 → Cond.eq (.length (.field (tmS i) "java/lang/String" "value" "[B")) (.int (Int32.ofNat (lenS.getD i 0))) ∈ flatC (Jvm.Cond.and given_1 narrow_1) := by decide +kernel
set_option maxRecDepth 20000 in
theorem se_el : ∀ i, i < 2 → ∀ j, j < lenS.getD i 0 → Cond.eq (.elem (.field (tmS i) "java/lang/String" "value" "[B") (.int (Int32.ofNat j))) (.int ((bytS.getD i []).getD j 0)) ∈ flatC (Jvm.Cond.and given_1 narrow_1) := by decide +kernel
set_option maxRecDepth 20000 in
theorem se_ne : Cond.not (Cond.eq (tmS 0) (tmS 1)) ∈ flatC (Jvm.Cond.and given_1 narrow_1) := by decide +kernel
set_option maxRecDepth 20000 in
theorem se_cs : Cond.eq (.static "java/lang/String" "COMPACT_STRINGS" "Z") (.int 1) ∈ flatC (Jvm.Cond.and given_1 narrow_1) := by decide +kernel
set_option maxHeartbeats 4000000 in
theorem env_at {p : Program} {s : State} {m : MethodId} {meth : Method} {c : Code} {b L : Nat} {xs : Nat → Int32} (C0 : lw_At p s m meth c b L xs) : ∃ g : GG, ek g s ∧ es g (fun q : Nat => s.heap.size ≤ q) s s.heap := by
  obtain ⟨hx, hb, hr, hml, hown, hts, hX, hbl, hlocks, hgv⟩ := id C0
  obtain ⟨c0, iS0, hKn0⟩ := u_known (C := RX0) (T := TX0) (N := 5) (n := 5) hts inX0 (hts (.instantiable RX0 5) (List.mem_of_getElem? (i := 267) (by decide +kernel)))
  obtain ⟨c1, iS1, hKn1⟩ := u_known (C := RX1) (T := TX1) (N := 4) (n := 4) hts inX1 (hts (.instantiable RX1 4) (List.mem_of_getElem? (i := 289) (by decide +kernel)))
  obtain ⟨c2, iS2, hKn2⟩ := u_known (C := RX2) (T := TX2) (N := 6) (n := 6) hts inX2 (hts (.instantiable RX2 6) (List.mem_of_getElem? (i := 196) (by decide +kernel)))
  obtain ⟨c3, iS3, hKn3⟩ := u_known (C := RX3) (T := TX3) (N := 7) (n := 7) hts inX3 (hts (.instantiable RX3 7) (List.mem_of_getElem? (i := 100) (by decide +kernel)))
  obtain ⟨c4, iS4, hKn4⟩ := u_known (C := RX4) (T := TX4) (N := 4) (n := 4) hts inX4 (hts (.instantiable RX4 4) (List.mem_of_getElem? (i := 169) (by decide +kernel)))
  obtain ⟨c5, iS5, hKn5⟩ := u_known (C := RX5) (T := TX5) (N := 5) (n := 5) hts inX5 (hts (.instantiable RX5 5) (List.mem_of_getElem? (i := 106) (by decide +kernel)))
  obtain ⟨c6, iS6, hKn6⟩ := u_known (C := RX6) (T := TX6) (N := 6) (n := 6) hts inX6 (hts (.instantiable RX6 6) (List.mem_of_getElem? (i := 190) (by decide +kernel)))
  obtain ⟨c7, iS7, hKn7⟩ := u_known (C := RX7) (T := TX7) (N := 3) (n := 3) hts inX7 (hts (.instantiable RX7 3) (List.mem_of_getElem? (i := 225) (by decide +kernel)))
  obtain ⟨c8, iS8, hKn8⟩ := u_known (C := RX8) (T := TX8) (N := 13) (n := 13) hts inX8 (hts (.instantiable RX8 13) (List.mem_of_getElem? (i := 92) (by decide +kernel)))
  obtain ⟨c9, iS9, hKn9⟩ := u_known (C := RX9) (T := TX9) (N := 41) (n := 41) hts inX9 (hts (.instantiable RX9 41) (List.mem_of_getElem? (i := 867) (by decide +kernel)))
  obtain ⟨dC, dI, hKc⟩ : ∃ (dC : Nat → ClassId) (dI : Nat → Nat → Nat), ∀ (k : Nat) (q : vw_C), vwCl[k]? = some q → u_Kn s q.1 q.2.1 q.2.2 (dC k) (dI k) := by
    refine ⟨fun k => match k with | 0 => c0 | 1 => c1 | 2 => c2 | 3 => c3 | 4 => c4 | 5 => c5 | 6 => c6 | 7 => c7 | 8 => c8 | _ => c9, fun k => match k with | 0 => iS0 | 1 => iS1 | 2 => iS2 | 3 => iS3 | 4 => iS4 | 5 => iS5 | 6 => iS6 | 7 => iS7 | 8 => iS8 | _ => iS9, ?_⟩
    intro k q hq
    match k, hq with
    | 0, hq => cases hq; exact hKn0
    | 1, hq => cases hq; exact hKn1
    | 2, hq => cases hq; exact hKn2
    | 3, hq => cases hq; exact hKn3
    | 4, hq => cases hq; exact hKn4
    | 5, hq => cases hq; exact hKn5
    | 6, hq => cases hq; exact hKn6
    | 7, hq => cases hq; exact hKn7
    | 8, hq => cases hq; exact hKn8
    | 9, hq => cases hq; exact hKn9
    | k + 10, hq => simp [vwCl] at hq
  obtain ⟨cI, kI, compI, hI1, hI2, hI3⟩ := Cond.arrayClass_spec (hts (.arrayClass .int) (List.mem_of_getElem? (i := 142) (by decide +kernel)))
  obtain ⟨cZ, kZ, compZ, hZ1, hZ2, hZ3⟩ := Cond.arrayClass_spec (hts (.arrayClass .boolean) (List.mem_of_getElem? (i := 188) (by decide +kernel)))
  have hK : va_K (dC, dI) vwCl [(cI, .int), (cZ, .boolean)] s := by
    refine ⟨hKc, fun k q hk => ?_⟩
    match k, hk with
    | 0, hk => cases hk; exact ⟨fun n z => ⟨fun k h => (by cases h), kI, hI2, compI, hI3⟩, hI1⟩
    | 1, hk => cases hk; exact ⟨fun n z => ⟨fun k h => (by cases h), kZ, hZ2, compZ, hZ3⟩, hZ1⟩
    | k + 2, hk => simp at hk
  have hs := flat_of_before _ hgv
  obtain ⟨t0, ht0, hT0⟩ := va_Tof (tm := .static "SoundLaws" "COSTS" "[I") (ty := .int) (N := 81) (f := tf_COSTS) (A := fun q : Nat => s.heap.size ≤ q) (by decide) (hs _ ia_COSTS) (va_eqt (hs _ il_COSTS)) (fun j hj => va_eqt (hs _ (in_COSTS j hj))) (fun a h => Nat.not_le.mpr h)
  have hZ00 : va_Z "SoundLaws" "COSTS" "[I" (.ref t0) (fun q : Nat => s.heap.size ≤ q) s s.heap := va_Zof (hts (.laysStatic "SoundLaws" "COSTS" "[I") (List.mem_of_getElem? (i := 566) (by decide +kernel))) (hts (.initialized "SoundLaws") (List.mem_of_getElem? (i := 72) (by decide +kernel))) ht0 (fun a h => Nat.not_le.mpr h)
  obtain ⟨t1, ht1, hT1⟩ := va_Tof (tm := .static "SoundLaws" "PAIRS" "[I") (ty := .int) (N := 12) (f := tf_PAIRS) (A := fun q : Nat => s.heap.size ≤ q) (by decide) (hs _ ia_PAIRS) (va_eqt (hs _ il_PAIRS)) (fun j hj => va_eqt (hs _ (in_PAIRS j hj))) (fun a h => Nat.not_le.mpr h)
  have hZ11 : va_Z "SoundLaws" "PAIRS" "[I" (.ref t1) (fun q : Nat => s.heap.size ≤ q) s s.heap := va_Zof (hts (.laysStatic "SoundLaws" "PAIRS" "[I") (List.mem_of_getElem? (i := 560) (by decide +kernel))) (hts (.initialized "SoundLaws") (List.mem_of_getElem? (i := 72) (by decide +kernel))) ht1 (fun a h => Nat.not_le.mpr h)
  obtain ⟨t2, ht2, hT2⟩ := va_Tof (tm := .static "SoundLaws" "FIRST_PAIR" "[I") (ty := .int) (N := 5) (f := tf_FIRST_PAIR) (A := fun q : Nat => s.heap.size ≤ q) (by decide) (hs _ ia_FIRST_PAIR) (va_eqt (hs _ il_FIRST_PAIR)) (fun j hj => va_eqt (hs _ (in_FIRST_PAIR j hj))) (fun a h => Nat.not_le.mpr h)
  have hZ22 : va_Z "SoundLaws" "FIRST_PAIR" "[I" (.ref t2) (fun q : Nat => s.heap.size ≤ q) s s.heap := va_Zof (hts (.laysStatic "SoundLaws" "FIRST_PAIR" "[I") (List.mem_of_getElem? (i := 558) (by decide +kernel))) (hts (.initialized "SoundLaws") (List.mem_of_getElem? (i := 72) (by decide +kernel))) ht2 (fun a h => Nat.not_le.mpr h)
  obtain ⟨t3, ht3, hT3⟩ := va_Tof (tm := .static "SoundLaws" "WEIGHTS" "[I") (ty := .int) (N := 5) (f := tf_WEIGHTS) (A := fun q : Nat => s.heap.size ≤ q) (by decide) (hs _ ia_WEIGHTS) (va_eqt (hs _ il_WEIGHTS)) (fun j hj => va_eqt (hs _ (in_WEIGHTS j hj))) (fun a h => Nat.not_le.mpr h)
  have hZ33 : va_Z "SoundLaws" "WEIGHTS" "[I" (.ref t3) (fun q : Nat => s.heap.size ≤ q) s s.heap := va_Zof (hts (.laysStatic "SoundLaws" "WEIGHTS" "[I") (List.mem_of_getElem? (i := 599) (by decide +kernel))) (hts (.initialized "SoundLaws") (List.mem_of_getElem? (i := 72) (by decide +kernel))) ht3 (fun a h => Nat.not_le.mpr h)
  obtain ⟨t4, ht4, hT4⟩ := va_Tof (tm := .static "SoundLaws" "REBUILDS" "[I") (ty := .int) (N := 5) (f := tf_REBUILDS) (A := fun q : Nat => s.heap.size ≤ q) (by decide) (hs _ ia_REBUILDS) (va_eqt (hs _ il_REBUILDS)) (fun j hj => va_eqt (hs _ (in_REBUILDS j hj))) (fun a h => Nat.not_le.mpr h)
  have hZ44 : va_Z "SoundLaws" "REBUILDS" "[I" (.ref t4) (fun q : Nat => s.heap.size ≤ q) s s.heap := va_Zof (hts (.laysStatic "SoundLaws" "REBUILDS" "[I") (List.mem_of_getElem? (i := 544) (by decide +kernel))) (hts (.initialized "SoundLaws") (List.mem_of_getElem? (i := 72) (by decide +kernel))) ht4 (fun a h => Nat.not_le.mpr h)
  have hZc : va_Z "java/lang/String" "COMPACT_STRINGS" "Z" (.int 1) (fun q : Nat => s.heap.size ≤ q) s s.heap := va_Zof (hts (.laysStatic "java/lang/String" "COMPACT_STRINGS" "Z") (List.mem_of_getElem? (i := 390) (by decide +kernel))) (hts (.initialized "java/lang/String") (List.mem_of_getElem? (i := 82) (by decide +kernel))) (va_eqt (hs _ se_cs)) (fun a h => Nat.not_le.mpr h)
  obtain ⟨aK, aV, hSS, hev⟩ := vk_Sof (N := 2) (tm := tmS) (len := lenS) (byt := bytS) (A := fun q : Nat => s.heap.size ≤ q) (args := #[Value.ref b]) (s := s) (fun i hi => by match i, hi with | 0, _ => decide | 1, _ => decide) (fun i hi => hs _ (se_ex i hi)) (fun i hi => hs _ (se_co i hi)) (fun i hi => hs _ (se_ar i hi)) (fun i hi => hs _ (se_le i hi)) (fun i hi j hj => hs _ (se_el i hi j hj)) (fun i j hi hj hij => by
    match i, j, hi, hj with
    | 0, 0, _, _ => exact absurd rfl hij
    | 0, 1, _, _ => exact Or.inl (hs _ se_ne)
    | 1, 0, _, _ => exact Or.inr (hs _ se_ne)
    | 1, 1, _, _ => exact absurd rfl hij) (fun a h => Nat.not_le.mpr h)
  have hS2 : vk_S 2 lenS bytS (fun i => (fun k : Nat => match k with | 0 => t0 | 1 => t1 | 2 => t2 | 3 => t3 | 4 => t4 | 5 => aK 0 | 6 => aK 1 | 7 => aV 0 | _ => aV 1) (5 + i)) (fun i => (fun k : Nat => match k with | 0 => t0 | 1 => t1 | 2 => t2 | 3 => t3 | 4 => t4 | 5 => aK 0 | 6 => aK 1 | 7 => aV 0 | _ => aV 1) (7 + i)) (fun q : Nat => s.heap.size ≤ q) s s.heap := by
    refine ⟨fun i hi => ?_, fun i j hi hj hij => ?_⟩
    · match i, hi with
      | 0, _ => exact hSS.1 0 (by decide)
      | 1, _ => exact hSS.1 1 (by decide)
    · match i, j, hi, hj, hij with
      | 0, 0, _, _, _ => rfl
      | 0, 1, _, _, q => exact absurd (hSS.2 0 1 (by decide) (by decide) q) (by decide)
      | 1, 0, _, _, q => exact absurd (hSS.2 1 0 (by decide) (by decide) q) (by decide)
      | 1, 1, _, _, _ => rfl
  exact ⟨((dC, dI), cI, cZ, fun k => match k with | 0 => t0 | 1 => t1 | 2 => t2 | 3 => t3 | 4 => t4 | 5 => aK 0 | 6 => aK 1 | 7 => aV 0 | _ => aV 1), ⟨hK, fun w hw => va_Nw.of (nw_tabs w hw) (hts w (nw_in w hw)), vk_R.of (hts (.stringRef RX3 32 "wncld") (List.mem_of_getElem? (i := 376) (by decide +kernel))) (hev 0 (by decide)), vk_R.of (hts (.stringRef RX3 51 ".aeoptksf") (List.mem_of_getElem? (i := 491) (by decide +kernel))) (hev 1 (by decide))⟩, hZ00, hT0, hZ11, hT1, hZ22, hT2, hZ33, hT3, hZ44, hT4, hZc, hS2⟩
theorem lg_self (x : Int64) : lg_cmp x x = 0 := by
  unfold lg_cmp
  rw [if_neg Int64.lt_irrefl, if_pos rfl]
theorem lw5 : ∀ L, L < 5 → ∀ i, i < 5 → Int32.ofNat L - 5 < nI i := by decide
theorem nlt5 {i L : Nat} (hi : i ≤ L) (hL : L ≤ 2560) (h : ¬ Int32.ofNat L - 5 < nI i) : i + 5 ≤ L := by
  rcases Nat.lt_or_ge L 5 with q | q
  · exact absurd (lw5 L q i (by omega)) h
  · have e : Int32.ofNat L - 5 = nI (L - 5) := pk_sub (a := L) (b := 5) q
    rw [e] at h
    exact Nat.not_lt.mp (fun w => h (nI_lt (by omega) (by omega)))
theorem qL_0 : (Cond.classLink RL 7 RX8) ∈ wsL_law := List.mem_of_getElem? (i := 0) (by decide +kernel)
theorem qL_1 : (Cond.instantiable RX8 13) ∈ wsL_law := List.mem_of_getElem? (i := 1) (by decide +kernel)
theorem qL_2 : (Cond.initialized RX8) ∈ wsL_law := List.mem_of_getElem? (i := 2) (by decide +kernel)
theorem qL_3 : (Cond.methodLink RL 9 yX8_init) ∈ wsL_law := List.mem_of_getElem? (i := 3) (by decide +kernel)
theorem qL_4 : (Cond.instanceMethod yX8_init) ∈ wsL_law := List.mem_of_getElem? (i := 4) (by decide +kernel)
theorem qL_5 : (Cond.classLink RL 10 RX9) ∈ wsL_law := List.mem_of_getElem? (i := 5) (by decide +kernel)
theorem qL_6 : (Cond.instantiable RX9 41) ∈ wsL_law := List.mem_of_getElem? (i := 6) (by decide +kernel)
theorem qL_7 : (Cond.initialized RX9) ∈ wsL_law := List.mem_of_getElem? (i := 7) (by decide +kernel)
theorem qL_8 : (Cond.methodLink RL 12 yX9_init) ∈ wsL_law := List.mem_of_getElem? (i := 8) (by decide +kernel)
theorem qL_9 : (Cond.instanceMethod yX9_init) ∈ wsL_law := List.mem_of_getElem? (i := 9) (by decide +kernel)
def INV (g : GG) (ad : Nat → Nat) (i : Nat) (w : va_W) : Prop := ∃ (N : Nat → Nat) (J : Nat → Int32) (F : Nat → Nat → Int32) (x40 : Int64), w = [((ad 0), .inr (8, [.ref (ad 1), .int (nI (N 0)), .ref (ad 2), .int (J 0), .ref (ad 7), .ref (ad 11), .ref (ad 15), .int (J 1), .ref (ad 27), .ref (ad 31), .int (J 2), .ref (ad 35), .ref (ad 39)])), ((ad 1), ai g 110 (F 0)), ((ad 2), .inr (3, [.ref (ad 3), .int (nI (N 1)), .int (nI (N 2)), .int (nI (N 3)), .int (nI (N 4)), .int (nI (N 5)), .int (nI (N 6))])), ((ad 3), .inr (5, [.int (nI (N 7)), .int (nI (N 8)), .ref (ad 4), .ref (ad 5), .ref (ad 6)])), ((ad 4), ai g 6 (F 1)), ((ad 5), ai g 6 (F 2)), ((ad 6), ai g 96 (F 3)), ((ad 7), .inr (5, [.int (nI (N 9)), .int (nI (N 10)), .ref (ad 8), .ref (ad 9), .ref (ad 10)])), ((ad 8), ai g 6 (F 4)), ((ad 9), ai g 6 (F 5)), ((ad 10), ai g 96 (F 6)), ((ad 11), .inr (4, [.int (nI (N 11)), .ref (ad 12), .ref (ad 13), .ref (ad 14)])), ((ad 12), ai g 6 (F 7)), ((ad 13), ai g 6 (F 8)), ((ad 14), az g 6 (F 9)), ((ad 15), .inr (6, [.ref (ad 16), .ref (ad 17), .ref (ad 18), .ref (ad 19), .int (J 3), .ref (ad 24)])), ((ad 16), ai g 168 (F 10)), ((ad 17), ai g 6 (F 11)), ((ad 18), ai g 24 (F 12)), ((ad 19), .inr (2, [.ref (ad 20), .ref (ad 21), .ref (ad 22), .int (J 4), .int (J 5), .ref (ad 23)])), ((ad 20), ai g 72 (F 13)), ((ad 21), ai g 72 (F 14)), ((ad 22), ai g 72 (F 15)), ((ad 23), ai g 648 (F 16)), ((ad 24), .inr (7, [.int (J 6), .ref (ad 25), .ref (ad 26)])), ((ad 25), ai g 7 (F 17)), ((ad 26), ai g 63 (F 18)), ((ad 27), .inr (5, [.int (nI (N 12)), .int (nI (N 13)), .ref (ad 28), .ref (ad 29), .ref (ad 30)])), ((ad 28), ai g 6 (F 19)), ((ad 29), ai g 6 (F 20)), ((ad 30), ai g 96 (F 21)), ((ad 31), .inr (4, [.int (nI (N 14)), .ref (ad 32), .ref (ad 33), .ref (ad 34)])), ((ad 32), ai g 6 (F 22)), ((ad 33), ai g 6 (F 23)), ((ad 34), az g 6 (F 24)), ((ad 35), .inr (0, [.ref (ad 36), .ref (ad 37), .int (J 7), .int (J 8), .ref (ad 38)])), ((ad 36), ai g 4 (F 25)), ((ad 37), ai g 4 (F 26)), ((ad 38), ai g 5 (F 27)), ((ad 39), .inr (1, [.int (J 9), .int (J 10), .int (J 11), .ref (ad 40)])), ((ad 40), .inr (7, [.int (J 12), .ref (ad 41), .ref (ad 42)])), ((ad 41), ai g 7 (F 28)), ((ad 42), ai g 63 (F 29)), ((ad 43), .inr (9, [.ref (ad 44), .int (nI (N 0)), .int (J 13), .int (J 14), .int (J 15), .int (J 16), .int (J 17), .ref (ad 45), .ref (ad 46), .ref (ad 47), .int (nI (N 9)), .int (nI (N 10)), .int (J 0), .ref (ad 48), .ref (ad 49), .ref (ad 50), .int (J 18), .ref (ad 51), .ref (ad 52), .ref (ad 53), .ref (ad 54), .ref (ad 55), .ref (ad 56), .ref (ad 57), .ref (ad 58), .ref (ad 59), .ref (ad 60), .ref (ad 61), .ref (ad 62), .int (nI (N 11)), .ref (ad 63), .int (J 19), .int (J 20), .int (nI (N 15)), .int (nI (N 16)), .int (nI (N 17)), .ref (ad 64), .ref (ad 65), .ref (ad 66), .ref (ad 67), .long x40])), ((ad 44), ai g 110 (F 0)), ((ad 45), ai g 5 (F 30)), ((ad 46), ai g 5 (F 31)), ((ad 47), ai g 80 (F 32)), ((ad 48), ai g 6 (F 33)), ((ad 49), ai g 6 (F 34)), ((ad 50), ai g 96 (F 35)), ((ad 51), ai g 63 (F 36)), ((ad 52), ai g 7 (F 37)), ((ad 53), ai g 4 (F 38)), ((ad 54), ai g 168 (F 39)), ((ad 55), ai g 6 (F 40)), ((ad 56), ai g 72 (F 41)), ((ad 57), ai g 72 (F 42)), ((ad 58), ai g 72 (F 43)), ((ad 59), ai g 9 (F 44)), ((ad 60), ai g 4 (F 45)), ((ad 61), ai g 4 (F 46)), ((ad 62), ai g 25 (F 47)), ((ad 63), ai g 18 (F 48)), ((ad 64), ai g 6 (F 49)), ((ad 65), ai g 6 (F 50)), ((ad 66), ai g 96 (F 51)), ((ad 67), ai g 18 (F 52))] ∧ ((N 0) ≤ 110) ∧ (pgr (N 0) (F 0)) ∧ (RI ((N 1), (N 2), (N 3), (N 4), (N 5), (N 6), (N 7), (N 8), (F 1), (F 2), (F 3))) ∧ (gst (N 9) (N 10) (F 4) (F 5) (F 6)) ∧ (rng 168 9 (F 10)) ∧ (rng 7 9 (F 17)) ∧ ((N 11) ≤ 6) ∧ (∀ i, i < (N 11) → vp_nar .boolean ((F 9) i) = (F 9) i) ∧ (gst (N 12) (N 13) (F 19) (F 20) (F 21)) ∧ ((N 14) ≤ 6) ∧ (∀ i, i < (N 14) → vp_nar .boolean ((F 24) i) = (F 24) i) ∧ (rng 4 9 (F 25)) ∧ (rng 4 9 (F 26)) ∧ (∀ k, k < 5 → (F 30) k = (F 1) k) ∧ (∀ i, i < 80 → (F 32) i = (F 3) i) ∧ (rng 7 9 (F 37)) ∧ (gst (N 15) (N 16) (F 49) (F 50) (F 51)) ∧ ((N 17) ≤ 6) ∧ (gst (N 9) (N 10) (F 33) (F 34) (F 35)) ∧ ((J 18) = 0 → FR (N 9) (N 10) (F 33) (F 34) (F 39)) ∧ (EQs (N 9) (N 10) (F 4) (F 5) (F 6) (F 33) (F 34) (F 35)) ∧ (KPs (J 2) (J 20) (J 0) (N 12) (N 13) (N 14) (N 15) (N 16) (N 17) (F 19) (F 20) (F 21) (F 49) (F 50) (F 51)) ∧ (REs (J 0) (J 20) i)
theorem gst_0 : gst 0 0 (fun _ => 0) (fun _ => 0) (fun _ => 0) := ⟨by omega, fun h => absurd h (Nat.lt_irrefl 0), by omega, rng_0 (by decide), rng_0 (by decide), rng_0 (by decide)⟩

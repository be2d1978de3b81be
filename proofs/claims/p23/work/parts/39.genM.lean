/-! the sets of both sides are the same, as far as they are told -/
def EQs (z t : Nat) (K L V Km Lm Vm : Nat → Int32) : Prop := ∀ k, k < z → K k = Km k ∧ L k = Lm k ∧ ∀ u, u < t → ∀ x, x < 4 → nI x < L k → V (16 * k + 4 * u + x) = Vm (16 * k + 4 * u + x)
theorem isI_no {j z : Nat} (hj : j < z) (hz : z < 2 ^ 31) : ¬ isI (nI j) z = 0 := by rw [isI_lt hj hz]; decide
section EQ
variable {z t : Nat} {K L V Km Lm Vm : Nat → Int32} {p1 p2 p3 p4 : Int32}
theorem EQ_ch {K2 Km2 : Nat → Int32} {sd sd2 o o2 : Int32} (hz : z ≤ 6) (h : EQs z t K L V Km Lm Vm) (hc : ((isI p1 z = 0 ∨ isI p2 5 = 0) ∧ sd2 = sd ∧ K2 = K) ∨ (sd2 = 0 ∧ ∃ k, k < z ∧ p1 = nI k ∧ ¬ isI p2 5 = 0 ∧ K2 = upd K k p2)) (hm : ((isI p1 z = 0 ∨ isI p2 5 = 0) ∧ o2 = o ∧ Km2 = Km) ∨ (o2 = 1 ∧ ∃ k, k < z ∧ p1 = nI k ∧ ¬ isI p2 5 = 0 ∧ Km2 = upd Km k p2)) : EQs z t K2 L V Km2 Lm Vm := by
  rcases hc with ⟨c, -, rfl⟩ | ⟨-, k, hk, e1, h5, rfl⟩
  · rcases hm with ⟨-, -, rfl⟩ | ⟨-, j, hj, e, h6, -⟩
    · exact h
    · rcases c with c | c
      · rw [e] at c; exact absurd c (isI_no hj (by omega))
      · exact absurd c h6
  · rcases hm with ⟨d, -, -⟩ | ⟨-, j, hj, e, h6, rfl⟩
    · rcases d with d | d
      · rw [e1] at d; exact absurd d (isI_no hk (by omega))
      · exact absurd d h5
    · have hkj : k = j := (nI_eq (by omega) (by omega)).mp (e1.symm.trans e)
      subst hkj
      intro i hi
      obtain ⟨a, b, c⟩ := h i hi
      refine ⟨?_, b, c⟩
      by_cases q : i = k
      · rw [q, pk_us, pk_us]
      · rw [pk_un q, pk_un q, a]
theorem rCh_eq (hz : z ≤ 6) (h : EQs z t K L V Km Lm Vm) : rCh p1 p2 z K = rCh p1 p2 z Km := by
  unfold rCh
  by_cases q : isI p1 z = 0
  · rw [if_pos q, if_pos q]
  · rw [if_neg q, if_neg q]
    obtain ⟨k, hk, rfl⟩ := isI_of (by omega) q
    rw [nI_clamp (by omega), (h k hk).1]
theorem rAs_eq (hz : z ≤ 6) (h : EQs z t K L V Km Lm Vm) : rAs p1 p2 z K = rAs p1 p2 z Km := by
  unfold rAs
  by_cases q : isI p1 z = 0
  · rw [if_pos q, if_pos q]
  · rw [if_neg q, if_neg q]
    obtain ⟨k, hk, rfl⟩ := isI_of (by omega) q
    rw [nI_clamp (by omega), (h k hk).1]
theorem EQ_cp {z2 zm2 : Nat} {K2 L2 V2 Km2 Lm2 Vm2 : Nat → Int32} {sd sd2 o o2 : Int32} (hz : z ≤ 6) (ht : t ≤ 4) (h : EQs z t K L V Km Lm Vm) (hc : ((isI p1 z = 0 ∨ ¬ z < 6) ∧ sd2 = sd ∧ z2 = z ∧ K2 = K ∧ L2 = L ∧ V2 = V) ∨ (sd2 = 0 ∧ z < 6 ∧ z2 = z + 1 ∧ ∃ k, k < z ∧ p1 = nI k ∧ K2 = upd K z (K k) ∧ L2 = upd L z (L k) ∧ V2 = va_cpy V V (16 * k) (16 * z) 16)) (hm : ((isI p1 z = 0 ∨ ¬ z < 6) ∧ o2 = o ∧ zm2 = z ∧ Km2 = Km ∧ Lm2 = Lm ∧ Vm2 = Vm) ∨ (o2 = 1 ∧ z < 6 ∧ zm2 = z + 1 ∧ ∃ k, k < z ∧ p1 = nI k ∧ Km2 = upd Km z (Km k) ∧ Lm2 = upd Lm z (Lm k) ∧ Vm2 = va_cpy Vm Vm (16 * k) (16 * z) 16)) : z2 = zm2 ∧ EQs z2 t K2 L2 V2 Km2 Lm2 Vm2 := by
  rcases hc with ⟨c, -, rfl, rfl, rfl, rfl⟩ | ⟨-, h6, rfl, k, hk, e1, rfl, rfl, rfl⟩
  · rcases hm with ⟨-, -, rfl, rfl, rfl, rfl⟩ | ⟨-, h6, -, j, hj, e, -⟩
    · exact ⟨rfl, h⟩
    · rcases c with c | c
      · rw [e] at c; exact absurd c (isI_no hj (by omega))
      · exact absurd h6 c
  · rcases hm with ⟨d, -⟩ | ⟨-, -, rfl, j, hj, e, rfl, rfl, rfl⟩
    · rcases d with d | d
      · rw [e1] at d; exact absurd d (isI_no hk (by omega))
      · exact absurd h6 d
    · have hkj : k = j := (nI_eq (by omega) (by omega)).mp (e1.symm.trans e)
      subst hkj
      refine ⟨rfl, fun i hi => ?_⟩
      by_cases q : i = z
      · obtain ⟨a, b, c⟩ := h k hk
        rw [q, pk_us, pk_us, pk_us, pk_us]
        refine ⟨a, b, fun u hu x hx hl => ?_⟩
        rw [pk_cpy_in (by omega) (by omega), pk_cpy_in (by omega) (by omega), show 16 * k + (16 * z + 4 * u + x - 16 * z) = 16 * k + 4 * u + x by omega]
        exact c u hu x hx hl
      · obtain ⟨a, b, c⟩ := h i (by omega)
        rw [pk_un q, pk_un q, pk_un q, pk_un q]
        refine ⟨a, b, fun u hu x hx hl => ?_⟩
        rw [pk_cpy_out (by omega), pk_cpy_out (by omega)]
        exact c u hu x hx hl
theorem sh_in {k z i : Nat} (hk : k < z) (hi : i < z - 1) : sh k z i < z := by
  unfold sh
  split
  · omega
  · split <;> omega
theorem EQ_tk {z2 zm2 : Nat} {K2 L2 V2 Km2 Lm2 Vm2 A1 C1 : Nat → Int32} {sd sd2 o o2 : Int32} (hz : z ≤ 6) (ht : t ≤ 4) (h : EQs z t K L V Km Lm Vm) (hc : ((isI p1 z = 0 ∨ z = 1) ∧ sd2 = sd ∧ z2 = z ∧ K2 = K ∧ L2 = L ∧ V2 = V ∧ C1 = A1) ∨ (sd2 = 0 ∧ ¬ z = 1 ∧ z2 = z - 1 ∧ ∃ k, k < z ∧ p1 = nI k ∧ (∀ i, i < 6 → K2 i = K (sh k z i)) ∧ (∀ i, i < 6 → L2 i = L (sh k z i)) ∧ (∀ i, i < 6 → ∀ x, x < 16 → V2 (16 * i + x) = V (16 * sh k z i + x)))) (hm : ((isI p1 z = 0 ∨ z = 1) ∧ o2 = o ∧ zm2 = z ∧ Km2 = Km ∧ Lm2 = Lm ∧ Vm2 = Vm) ∨ (o2 = 1 ∧ ¬ z = 1 ∧ zm2 = z - 1 ∧ ∃ k, k < z ∧ p1 = nI k ∧ (∀ i, i < 6 → Km2 i = Km (sh k z i)) ∧ (∀ i, i < 6 → Lm2 i = Lm (sh k z i)) ∧ (∀ i, i < 6 → ∀ x, x < 16 → Vm2 (16 * i + x) = Vm (16 * sh k z i + x)))) : z2 = zm2 ∧ EQs z2 t K2 L2 V2 Km2 Lm2 Vm2 := by
  rcases hc with ⟨c, -, rfl, rfl, rfl, rfl, -⟩ | ⟨-, h6, rfl, k, hk, e1, a1, a2, a3⟩
  · rcases hm with ⟨-, -, rfl, rfl, rfl, rfl⟩ | ⟨-, h6, -, j, hj, e, -⟩
    · exact ⟨rfl, h⟩
    · rcases c with c | c
      · rw [e] at c; exact absurd c (isI_no hj (by omega))
      · exact absurd c h6
  · rcases hm with ⟨d, -⟩ | ⟨-, -, rfl, j, hj, e, b1, b2, b3⟩
    · rcases d with d | d
      · rw [e1] at d; exact absurd d (isI_no hk (by omega))
      · exact absurd d h6
    · have hkj : k = j := (nI_eq (by omega) (by omega)).mp (e1.symm.trans e)
      subst hkj
      refine ⟨rfl, fun i hi => ?_⟩
      have hs := sh_in hk hi
      obtain ⟨a, b, c⟩ := h _ hs
      rw [a1 i (by omega), a2 i (by omega), b1 i (by omega), b2 i (by omega)]
      refine ⟨a, b, fun u hu x hx hl => ?_⟩
      rw [show 16 * i + 4 * u + x = 16 * i + (4 * u + x) by omega, a3 i (by omega) _ (by omega), b3 i (by omega) _ (by omega), show 16 * sh k z i + (4 * u + x) = 16 * sh k z i + 4 * u + x by omega]
      exact c u hu x hx hl
theorem sil_congr {U W : Nat → Int32} {b o : Nat} : ∀ n, (∀ a, a < n → U (b + a) = W (b + a)) → sil U b o n = sil W b o n
  | 0, _ => rfl
  | n + 1, h => by
    show (if ¬ n = o ∧ ¬ U (b + n) = 0 then 0 else sil U b o n) = (if ¬ n = o ∧ ¬ W (b + n) = 0 then 0 else sil W b o n)
    rw [h n (by omega), sil_congr n (fun a ha => h a (by omega))]
theorem EQ_pt (hz : z ≤ 6) (ht : t ≤ 4) (hL : rng 6 5 L) (h : EQs z t K L V Km Lm Vm) : rPt p1 p2 p3 p4 z t L V = rPt p1 p2 p3 p4 z t Lm Vm ∧ EQs z t K L (vPt p1 p2 p3 p4 z t L V) Km Lm (vPt p1 p2 p3 p4 z t Lm Vm) := by
  by_cases q1 : isI p1 z = 0
  · obtain ⟨a, b⟩ := pt_a (p2 := p2) (p3 := p3) (p4 := p4) (t := t) (L := L) (V := V) q1
    obtain ⟨c, d⟩ := pt_a (p2 := p2) (p3 := p3) (p4 := p4) (t := t) (L := Lm) (V := Vm) q1
    rw [a, b, c, d]; exact ⟨rfl, h⟩
  · by_cases q2 : isI p2 t = 0
    · obtain ⟨a, b⟩ := pt_b (p1 := p1) (p3 := p3) (p4 := p4) (z := z) (L := L) (V := V) q2
      obtain ⟨c, d⟩ := pt_b (p1 := p1) (p3 := p3) (p4 := p4) (z := z) (L := Lm) (V := Vm) q2
      rw [a, b, c, d]; exact ⟨rfl, h⟩
    · obtain ⟨k, hk, rfl⟩ := isI_of (by omega) q1
      obtain ⟨u, hu, rfl⟩ := isI_of (by omega) q2
      obtain ⟨e1, e2, e3⟩ := h k hk
      obtain ⟨n, hn, en⟩ := hL k (by omega)
      by_cases q3 : plc p3 (L k) = 0
      · obtain ⟨a, b⟩ := pt_c (p2 := nI u) (p4 := p4) (t := t) (V := V) hk hz q3
        obtain ⟨c, d⟩ := pt_c (p2 := nI u) (p4 := p4) (t := t) (L := Lm) (V := Vm) hk hz (by rw [← e2]; exact q3)
        rw [a, b, c, d]; exact ⟨rfl, h⟩
      · rw [en] at q3
        obtain ⟨x, hx, rfl⟩ := isI_of (p := p3) (z := n) (by omega) q3
        by_cases q4 : isI p4 9 = 0
        · obtain ⟨a, b⟩ := pt_d (V := V) hk hz hu ht en hn hx q4
          obtain ⟨c, d⟩ := pt_d (V := Vm) hk hz hu ht (e2.symm.trans en) hn hx q4
          rw [a, b, c, d]; exact ⟨rfl, h⟩
        · obtain ⟨v, hv, rfl⟩ := isI_of (p := p4) (z := 9) (by decide) q4
          obtain ⟨a, b⟩ := pt_e (V := V) hk hz hu ht en hn hx hv
          obtain ⟨c, d⟩ := pt_e (V := Vm) hk hz hu ht (e2.symm.trans en) hn hx hv
          have hp : ∀ y, y < n → V (16 * k + 4 * u + y) = Vm (16 * k + 4 * u + y) := fun y hy => e3 u hu y (by omega) (by rw [en]; exact (nI_ltI (by omega) (by omega)).mpr hy)
          have ho : onl V (16 * k + 4 * u) x n (nI v) = onl Vm (16 * k + 4 * u) x n (nI v) := by
            unfold onl
            rw [sil_congr n hp]
          rw [a, b, c, d, ho, hp x hx]
          refine ⟨rfl, ?_⟩
          by_cases q5 : onl Vm (16 * k + 4 * u) x n (nI v) = 0
          · rw [if_pos q5, if_pos q5]
            intro i hi
            obtain ⟨f1, f2, f3⟩ := h i hi
            refine ⟨f1, f2, fun y hy w hw hl => ?_⟩
            by_cases q6 : 16 * i + 4 * y + w = 16 * k + 4 * u + x
            · rw [q6, pk_us, pk_us]
            · rw [pk_un q6, pk_un q6]; exact f3 y hy w hw hl
          · rw [if_neg q5, if_neg q5]; exact h
theorem sw_t {i j u : Nat} (hi : i < t) (hj : j < t) (hu : u < t) : sw i j u < t := by
  unfold sw
  split
  · exact hj
  · split
    · exact hi
    · exact hu
theorem EQ_sw {V3 W3 : Nat → Int32} (hz : z ≤ 6) (ht : t ≤ 4) (h : EQs z t K L V Km Lm Vm) (hc : ((isI p1 t = 0 ∨ isI p2 t = 0 ∨ p1 = p2) ∧ V3 = V) ∨ (∃ i j, i < t ∧ j < t ∧ p1 = nI i ∧ p2 = nI j ∧ ¬ i = j ∧ XV i j V (fun k x => k < z ∧ nI x < L k) V3)) (hm : ((isI p1 t = 0 ∨ isI p2 t = 0 ∨ p1 = p2) ∧ W3 = Vm) ∨ (∃ i j, i < t ∧ j < t ∧ p1 = nI i ∧ p2 = nI j ∧ ¬ i = j ∧ XV i j Vm (fun k x => k < z) W3)) : EQs z t K L V3 Km Lm W3 := by
  have no : (isI p1 t = 0 ∨ isI p2 t = 0 ∨ p1 = p2) → ∀ i j, i < t → j < t → p1 = nI i → p2 = nI j → ¬ i = j → False := fun c i j hi hj e1 e2 hij => by
    rcases c with c | c | c
    · rw [e1] at c; exact isI_no hi (by omega) c
    · rw [e2] at c; exact isI_no hj (by omega) c
    · exact hij ((nI_eq (by omega) (by omega)).mp (e1.symm.trans (c.trans e2)))
  rcases hc with ⟨c, rfl⟩ | ⟨i, j, hi, hj, e1, e2, hij, hX⟩
  · rcases hm with ⟨-, rfl⟩ | ⟨i, j, hi, hj, e1, e2, hij, -⟩
    · exact h
    · exact (no c i j hi hj e1 e2 hij).elim
  · rcases hm with ⟨c, -⟩ | ⟨i2, j2, hi2, hj2, f1, f2, -, hY⟩
    · exact (no c i j hi hj e1 e2 hij).elim
    · have a1 : i = i2 := (nI_eq (by omega) (by omega)).mp (e1.symm.trans f1)
      have a2 : j = j2 := (nI_eq (by omega) (by omega)).mp (e2.symm.trans f2)
      subst a1; subst a2
      intro k hk
      obtain ⟨b1, b2, b3⟩ := h k hk
      refine ⟨b1, b2, fun u hu x hx hl => ?_⟩
      rw [(hX k (by omega) u (by omega) x hx).1 ⟨hk, hl⟩, (hY k (by omega) u (by omega) x hx).1 hk]
      exact b3 _ (sw_t hi hj hu) x hx hl
theorem EQ_of {z t z3 t3 : Nat} {K L V Km Lm Vm K3 L3 V3 K4 L4 V4 : Nat → Int32} (hz : z ≤ 6) (ht : t ≤ 4) (h : EQs z t K L V Km Lm Vm) (ez : z3 = z) (et : t3 = t) (a1 : ∀ i, i < 6 → K3 i = K i) (a2 : ∀ i, i < 6 → L3 i = L i) (a3 : ∀ i, i < 96 → V3 i = V i) (b1 : ∀ i, i < 6 → K4 i = Km i) (b2 : ∀ i, i < 6 → L4 i = Lm i) (b3 : ∀ i, i < 96 → V4 i = Vm i) : EQs z3 t3 K3 L3 V3 K4 L4 V4 := by
  subst ez; subst et
  intro k hk
  obtain ⟨c1, c2, c3⟩ := h k hk
  rw [a1 k (by omega), a2 k (by omega), b1 k (by omega), b2 k (by omega)]
  exact ⟨c1, c2, fun u hu x hx hl => by rw [a3 _ (by omega), b3 _ (by omega)]; exact c3 u hu x hx hl⟩
end EQ
/-- both refuse, or both read -/
theorem sets_d {Pg : Nat → Int32} {a : Nat} {rs u n wl : Nat} {DK DL DV : Nat → Int32} {w2 : PS} {r r2 : Int32} {RK RL RS : Nat → Int32} {o8 n8 : ST8} {o9 n9 : ST9} (hI : RI (1, rs, u, n, wl, 0, 0, 0, DK, DL, DV)) (h : setsP Pg a (1, rs, u, n, wl, 0, 0, 0, DK, DL, DV) r w2 o8 n8) (h2 : mstP Pg a (1, rs, u, n, wl, 0, 0, 0, DK, DL, DV) r2 RK RL RS o9 n9) : (n8 = o8 ∧ n9 = o9) ∨ (∃ w, fns w = (1, w2) ∧ RI w ∧ SI w ∧ MFin RL RS w ∧ (∃ y yt x3 x4 x5, MR w y yt x3 x4 x5 RK RL RS) ∧ n8 = stR w2 o8 ∧ mstR RK RL RS w o9 n9) := by
  obtain ⟨x, w, hp, h⟩ := h
  obtain ⟨x2, w3, hp2, hI3, hS3, hk, hs, h2⟩ := h2
  obtain ⟨rfl, rfl⟩ := prd_uniq hp hp2
  have hW3 : WI w := by
    obtain ⟨j, -, -, hr, -⟩ := hp
    exact (prun_SW hI SI_0 WI_0 j w hr).2
  rcases h with ⟨h1, hr1, e1⟩ | ⟨h0, h1, hr1, e1⟩
  · rcases h2 with ⟨hr2, e2, -⟩ | ⟨h3, hf, hr2, ⟨y, yt, x3, x4, x5, hM⟩, -⟩
    · exact Or.inl ⟨e1, e2⟩
    · rcases h1 with ⟨h1, -⟩ | ⟨-, h1, -⟩
      · exact absurd h1 h3
      · rw [(fin_iff hI3 hS3 hW3 hM).mp hf] at h1
        exact absurd h1 (by decide)
  · have hf1 : (fns w).1 = 1 := by rw [h1]
    rcases h2 with ⟨hr2, e2, h3 | ⟨h3, y, yt, x3, x4, x5, hM⟩⟩ | ⟨h3, hf, hr2, hM, e2⟩
    · exact absurd h3 h0
    · exact absurd ((fin_iff hI3 hS3 hW3 hM).mpr hf1) h3
    · exact Or.inr ⟨w, h1, hI3, hS3, hf, hM, e1, e2⟩
theorem sets_e {Pg : Nat → Int32} {a z t n : Nat} {rs u pl wl : Nat} {DK DL DV : Nat → Int32} {w2 : PS} {r r2 : Int32} {RK RL RS : Nat → Int32} {re sd kp o16 : Int32} {K L V Km Lm Vm K2 L2 V2 Km2 Lm2 Vm2 : Nat → Int32} {a2 am2 : Nat} {re2 sd2 kp2 zs2 z2 u2 zm2 um2 rm2 o2 sm2 : Int32} (hI : RI (1, rs, u, pl, wl, 0, 0, 0, DK, DL, DV)) (hz6 : z ≤ 6) (ht6 : t ≤ 4) (hn6 : n ≤ 6) (hEQ : EQs z t K L V Km Lm Vm) (h : setsP Pg a (1, rs, u, pl, wl, 0, 0, 0, DK, DL, DV) r w2 (a, re, sd, kp, nI n, nI z, nI t, K, L, V) (a2, re2, sd2, kp2, zs2, z2, u2, K2, L2, V2)) (h2 : mstP Pg a (1, rs, u, pl, wl, 0, 0, 0, DK, DL, DV) r2 RK RL RS (a, nI z, nI t, re, o16, nI n, Km, Lm, Vm) (am2, zm2, um2, rm2, o2, sm2, Km2, Lm2, Vm2)) : ∃ zz tt nn, z2 = nI zz ∧ u2 = nI tt ∧ zs2 = nI nn ∧ zm2 = nI zz ∧ um2 = nI tt ∧ sm2 = nI nn ∧ re2 = rm2 ∧ EQs zz tt K2 L2 V2 Km2 Lm2 Vm2 ∧ ((re2 = re ∧ kp2 = kp) ∨ (re2 = re + 1 ∧ kp2 = 0)) ∧ zz ≤ 6 ∧ tt ≤ 4 ∧ nn ≤ 6 := by
  rcases sets_d hI h h2 with ⟨e1, e2⟩ | ⟨w, h1, hI3, hS3, hf, ⟨y, yt, x3, x4, x5, hM⟩, e1, e2⟩
  · simp only [Prod.mk.injEq] at e1 e2
    obtain ⟨-, rfl, -, rfl, rfl, rfl, rfl, rfl, rfl, rfl⟩ := e1
    obtain ⟨-, rfl, rfl, rfl, -, rfl, rfl, rfl, rfl⟩ := e2
    exact ⟨z, t, n, rfl, rfl, rfl, rfl, rfl, rfl, rfl, hEQ, Or.inl ⟨rfl, rfl⟩, hz6, ht6, hn6⟩
  · obtain ⟨du, qs, qu, qn, ql, qw, qz, qg, QK, QL, QV⟩ := w
    obtain ⟨hd, hq, hm⟩ := hf
    have hfn : fns (du, qs, qu, qn, ql, qw, qz, qg, QK, QL, QV) = ((if hsn ql qw = 0 then 1 else 0), (du, qs, qu, qn, ql, hsn ql qw, qz, qu + 1, QK, upd QL qs (nI qn), QV)) := by
      unfold fns
      dsimp only
      rw [if_pos hd, if_neg hq]
    have ew : (du, qs, qu, qn, ql, hsn ql qw, qz, qu + 1, QK, upd QL qs (nI qn), QV) = w2 := congrArg Prod.snd (hfn.symm.trans h1)
    subst ew
    unfold stR at e1
    simp only [Prod.mk.injEq] at e1
    obtain ⟨-, rfl, -, rfl, rfl, rfl, rfl, rfl, rfl, rfl⟩ := e1
    obtain ⟨-, rfl, rfl, rfl, -, rfl, k1, k2, l1, l2, v1, v2⟩ := e2
    dsimp only at k1 k2 l1 l2
    obtain ⟨g1, g2, g3, g4, g5, g6, g7, g8, g9, gK, gL, gV⟩ := id hI3
    obtain ⟨s1, s2, s3, s4⟩ := id hS3
    obtain ⟨-, -, m3, m4, mK, mS, mL⟩ := id hM
    obtain ⟨e3, e4, e5, e6⟩ := m4 hd
    obtain ⟨qw1, qu1, qt1⟩ := stw_w hq
    have hz := s1 hd
    have hn0 : ¬ qn = 0 := by
      by_cases hu : qu = 0
      · exact wdw_pos (l := 0) qw1 (fun e => absurd hu e) (by omega)
      · obtain ⟨l, a1, a2, a3, a4⟩ := s2 hd hu
        exact wdw_pos (l := l) qw1 (fun _ => ⟨a1, by omega, a3⟩) (by omega)
    refine ⟨qz, qu + 1, 0, rfl, rfl, rfl, rfl, rfl, rfl, rfl, fun k hk => ?_, Or.inr ⟨rfl, rfl⟩, by omega, by omega, by omega⟩
    rw [k1 k hk, l1 k hk]
    refine ⟨?_, ?_, fun v hv x hx hl => ?_⟩
    · exact (cpy_in (by omega)).trans (mK k (by omega)).symm
    · refine (cpy_in (by omega)).trans ?_
      by_cases q : k = qs
      · rw [q, e6 hn0]; exact pk_us
      · rw [mL k hk (fun _ => by omega)]; exact pk_un q
    · rw [v1 _ (by omega), mS _ (by omega)]
      exact cpy_in (by omega)
def bz3 (n : Nat) (f : Nat → Int32) : Prop := ∀ i, i < n → vp_nar .boolean (f i) = f i
theorem sets_f {Pg : Nat → Int32} {a z t n : Nat} {rs u pl wl : Nat} {DK DL DV : Nat → Int32} {w2 : PS} {r r2 : Int32} {RK RL RS Rb A3 : Nat → Int32} {re sd kp o16 : Int32} {K L V Km Lm Vm K2 L2 V2 Km2 Lm2 Vm2 : Nat → Int32} {a2 am2 : Nat} {re2 sd2 kp2 zs2 z2 u2 zm2 um2 rm2 o2 sm2 : Int32} (hI : RI (1, rs, u, pl, wl, 0, 0, 0, DK, DL, DV)) (ha : a ≤ 110) (hpg : pgr a Pg) (hg : gst z t K L V) (hgm : gst z t Km Lm Vm) (hn : n ≤ 6) (hb : ∀ i, i < n → vp_nar .boolean (A3 i) = A3 i) (hfr : o16 = 0 → FR z t Km Lm Rb) (hEQ : EQs z t K L V Km Lm Vm) (h : setsP Pg a (1, rs, u, pl, wl, 0, 0, 0, DK, DL, DV) r w2 (a, re, sd, kp, nI n, nI z, nI t, K, L, V) (a2, re2, sd2, kp2, zs2, z2, u2, K2, L2, V2)) (h2 : mstP Pg a (1, rs, u, pl, wl, 0, 0, 0, DK, DL, DV) r2 RK RL RS (a, nI z, nI t, re, o16, nI n, Km, Lm, Vm) (am2, zm2, um2, rm2, o2, sm2, Km2, Lm2, Vm2)) : RI w2 ∧ a2 ≤ 110 ∧ pgr a2 Pg ∧ ∃ zz tt nn, z2 = nI zz ∧ u2 = nI tt ∧ zs2 = nI nn ∧ zm2 = nI zz ∧ um2 = nI tt ∧ sm2 = nI nn ∧ rm2 = re2 ∧ EQs zz tt K2 L2 V2 Km2 Lm2 Vm2 ∧ ((re2 = re ∧ kp2 = kp) ∨ (re2 = re + 1 ∧ kp2 = 0)) ∧ gst zz tt K2 L2 V2 ∧ gst zz tt Km2 Lm2 Vm2 ∧ nn ≤ 6 ∧ (∀ i, i < nn → vp_nar .boolean (A3 i) = A3 i) ∧ (o2 = 0 → FR zz tt Km2 Lm2 Rb) := by
  obtain ⟨zz, tt, nn, e1, e2, e3, f1, f2, f3, er, eq, ek, b1, b2, b3⟩ := sets_e hI hg.1 hg.2.2.1 hn hEQ h h2
  obtain ⟨q1, q2, q3, z5, t5, n5, c1, c2, c3, q4, q5, q6⟩ := sets_c (A3 := A3) hI hg ha hpg hn hb h
  obtain ⟨z6, t6, n6, d1, d2, d3, r4, r5, r6⟩ := sets_m (Rb := Rb) hgm hn hfr h2
  have a1 : z5 = zz := (nI_eq (by have := q4.1; omega) (by omega)).mp (c1.symm.trans e1)
  have a2 : t5 = tt := (nI_eq (by have := q4.2.2.1; omega) (by omega)).mp (c2.symm.trans e2)
  have a3 : n5 = nn := (nI_eq (by omega) (by omega)).mp (c3.symm.trans e3)
  have a4 : z6 = zz := (nI_eq (by have := r4.1; omega) (by omega)).mp (d1.symm.trans f1)
  have a5 : t6 = tt := (nI_eq (by have := r4.2.2.1; omega) (by omega)).mp (d2.symm.trans f2)
  rw [a1, a2] at q4
  rw [a3] at q6
  rw [a4, a5] at r4 r6
  exact ⟨q1, q2, q3, zz, tt, nn, e1, e2, e3, f1, f2, f3, er.symm, eq, ek, q4, r4, b3, q6, r6⟩
/-! what is kept, and how often was read -/
def KPs (kp x re : Int32) (z2 t2 n2 z3 t3 n3 : Nat) (K2 L2 V2 Kk Lk Vk : Nat → Int32) : Prop := (kp = 0 ∧ ¬ x = re) ∨ (kp = 1 ∧ x = re ∧ z3 = z2 ∧ t3 = t2 ∧ n3 = n2 ∧ EQs z2 t2 K2 L2 V2 Kk Lk Vk)
def REs (re x : Int32) (i : Nat) : Prop := ∃ m, re = nI m ∧ m ≤ i ∧ (x = (-1) ∨ ∃ k, k ≤ m ∧ x = nI k)
theorem RE_up {re x : Int32} {i : Nat} (h : REs re x i) : REs re x (i + 5) := by
  obtain ⟨m, a, b, c⟩ := h
  exact ⟨m, a, by omega, c⟩
theorem RE_se {re re2 x kp kp2 : Int32} {i : Nat} (h : REs re x i) (ek : (re2 = re ∧ kp2 = kp) ∨ (re2 = re + 1 ∧ kp2 = 0)) : REs re2 x (i + 5) := by
  obtain ⟨m, rfl, b, c⟩ := h
  rcases ek with ⟨rfl, -⟩ | ⟨rfl, -⟩
  · exact ⟨m, rfl, by omega, c⟩
  · exact ⟨m + 1, nI_1 m, by omega, c.imp id (fun ⟨k, hk, e⟩ => ⟨k, by omega, e⟩)⟩
theorem RE_im {re x x2 : Int32} {i z : Nat} {P Q : Prop} (h : REs re x i) (hq : (z = 0 ∧ x2 = x ∧ P) ∨ (¬ z = 0 ∧ x2 = re ∧ Q)) : REs re x2 (i + 5) := by
  obtain ⟨m, rfl, b, c⟩ := h
  rcases hq with ⟨-, rfl, -⟩ | ⟨-, rfl, -⟩
  · exact ⟨m, rfl, by omega, c⟩
  · exact ⟨m, rfl, by omega, Or.inr ⟨m, Nat.le_refl m, rfl⟩⟩
section KPS
variable {kp kp2 x x2 re re2 : Int32} {z t n z2 t2 n2 z3 t3 n3 z4 t4 n4 z5 t5 n5 i : Nat} {K L V Km Lm Vm K2 L2 V2 Kk Lk Vk K3 L3 V3 K4 L4 V4 : Nat → Int32}
theorem KP_se (hi : i ≤ 2560) (h : KPs kp x re z2 t2 n2 z3 t3 n3 K2 L2 V2 Kk Lk Vk) (hr : REs re x i) (ek : (re2 = re ∧ kp2 = kp) ∨ (re2 = re + 1 ∧ kp2 = 0)) : KPs kp2 x re2 z2 t2 n2 z3 t3 n3 K2 L2 V2 Kk Lk Vk := by
  rcases ek with ⟨rfl, rfl⟩ | ⟨rfl, rfl⟩
  · exact h
  · obtain ⟨m, rfl, b, c⟩ := hr
    refine Or.inl ⟨rfl, fun e => ?_⟩
    rw [nI_1] at e
    rcases c with c | ⟨k, hk, c⟩
    · rw [c] at e
      exact nI_pos (n := m + 1) (by omega) (by rw [← e]; decide)
    · have := (nI_eq (by omega) (by omega)).mp (c.symm.trans e)
      omega
theorem KP_im (hz : z ≤ 6) (ht : t ≤ 4) (hE : EQs z t K L V Km Lm Vm) (h : KPs kp x re z2 t2 n2 z3 t3 n3 K2 L2 V2 Kk Lk Vk) (hc : (z = 0 ∧ kp2 = kp ∧ z4 = z2 ∧ t4 = t2 ∧ n4 = n2 ∧ K3 = K2 ∧ L3 = L2 ∧ V3 = V2) ∨ (¬ z = 0 ∧ kp2 = 1 ∧ z4 = z ∧ t4 = t ∧ n4 = n ∧ (∀ i, i < 6 → K3 i = K i) ∧ (∀ i, i < 6 → L3 i = L i) ∧ (∀ i, i < 96 → V3 i = V i))) (hm : (z = 0 ∧ x2 = x ∧ z5 = z3 ∧ t5 = t3 ∧ n5 = n3 ∧ K4 = Kk ∧ L4 = Lk ∧ V4 = Vk) ∨ (¬ z = 0 ∧ x2 = re ∧ z5 = z ∧ t5 = t ∧ n5 = n ∧ (∀ i, i < 6 → K4 i = Km i) ∧ (∀ i, i < 6 → L4 i = Lm i) ∧ (∀ i, i < 96 → V4 i = Vm i))) : KPs kp2 x2 re z4 t4 n4 z5 t5 n5 K3 L3 V3 K4 L4 V4 := by
  rcases hc with ⟨c, rfl, rfl, rfl, rfl, rfl, rfl, rfl⟩ | ⟨c, rfl, e1, e2, e3, a1, a2, a3⟩
  · rcases hm with ⟨-, rfl, rfl, rfl, rfl, rfl, rfl, rfl⟩ | ⟨d, -⟩
    · exact h
    · exact absurd c d
  · rcases hm with ⟨d, -⟩ | ⟨-, rfl, f1, f2, f3, b1, b2, b3⟩
    · exact absurd d c
    · exact Or.inr ⟨rfl, rfl, f1.trans e1.symm, f2.trans e2.symm, f3.trans e3.symm, EQ_of hz ht hE e1 e2 a1 a2 a3 b1 b2 b3⟩
theorem RS_j {sd sd2 o o2 : Int32} (hz2 : z2 ≤ 6) (ht2 : t2 ≤ 4) (hE : EQs z t K L V Km Lm Vm) (h : KPs kp x re z2 t2 n2 z3 t3 n3 K2 L2 V2 Kk Lk Vk) (hc : (kp = 0 ∧ sd2 = sd ∧ z4 = z ∧ t4 = t ∧ n4 = n ∧ K3 = K ∧ L3 = L ∧ V3 = V) ∨ (¬ kp = 0 ∧ sd2 = 0 ∧ z4 = z2 ∧ t4 = t2 ∧ n4 = n2 ∧ (∀ i, i < 6 → K3 i = K2 i) ∧ (∀ i, i < 6 → L3 i = L2 i) ∧ (∀ i, i < 96 → V3 i = V2 i))) (hm : (¬ x = re ∧ o2 = o ∧ z5 = z ∧ t5 = t ∧ n5 = n ∧ K4 = Km ∧ L4 = Lm ∧ V4 = Vm) ∨ (x = re ∧ o2 = 1 ∧ z5 = z3 ∧ t5 = t3 ∧ n5 = n3 ∧ (∀ i, i < 6 → K4 i = Kk i) ∧ (∀ i, i < 6 → L4 i = Lk i) ∧ (∀ i, i < 96 → V4 i = Vk i))) : z4 = z5 ∧ t4 = t5 ∧ n4 = n5 ∧ EQs z4 t4 K3 L3 V3 K4 L4 V4 := by
  rcases h with ⟨k0, kx⟩ | ⟨k1, kx, g1, g2, g3, gE⟩
  · rcases hc with ⟨-, -, rfl, rfl, rfl, rfl, rfl, rfl⟩ | ⟨c, -⟩
    · rcases hm with ⟨-, -, rfl, rfl, rfl, rfl, rfl, rfl⟩ | ⟨d, -⟩
      · exact ⟨rfl, rfl, rfl, hE⟩
      · exact absurd d kx
    · exact absurd k0 c
  · rcases hc with ⟨c, -⟩ | ⟨-, -, e1, e2, e3, a1, a2, a3⟩
    · rw [k1] at c; exact absurd c (by decide)
    · rcases hm with ⟨d, -⟩ | ⟨-, -, f1, f2, f3, b1, b2, b3⟩
      · exact absurd kx d
      · exact ⟨by omega, by omega, by omega, EQ_of hz2 ht2 gE e1 e2 a1 a2 a3 b1 b2 b3⟩
theorem RS_r (h : KPs kp x re z2 t2 n2 z3 t3 n3 K2 L2 V2 Kk Lk Vk) : (if kp = 0 then (-103) else nI z2) = (if x = re then nI z3 else (-103)) := by
  rcases h with ⟨k0, kx⟩ | ⟨k1, kx, g1, -⟩
  · rw [if_pos k0, if_neg kx]
  · rw [if_neg (by rw [k1]; decide), if_pos kx, g1]
end KPS
theorem frC {z z2 t : Nat} {K L V Rb K2 L2 V2 : Nat → Int32} {o2 o : Int32} {C D : Prop} (h : o = 0 → FR z t K L Rb) (ho : (C ∧ o2 = o ∧ z2 = z ∧ K2 = K ∧ L2 = L ∧ V2 = V) ∨ (o2 = 1 ∧ D)) : o2 = 0 → FR z2 t K2 L2 Rb := fun e => by
  rcases ho with ⟨-, q, rfl, rfl, rfl, -⟩ | ⟨q, -⟩
  · exact h (q.symm.trans e)
  · rw [q] at e; exact absurd e (by decide)
theorem frH {z t : Nat} {K L Rb K2 : Nat → Int32} {o2 o : Int32} {C D : Prop} (h : o = 0 → FR z t K L Rb) (ho : (C ∧ o2 = o ∧ K2 = K) ∨ (o2 = 1 ∧ D)) : o2 = 0 → FR z t K2 L Rb := fun e => by
  rcases ho with ⟨-, q, rfl⟩ | ⟨q, -⟩
  · exact h (q.symm.trans e)
  · rw [q] at e; exact absurd e (by decide)
theorem frS {z t n z2 t2 n2 : Nat} {K L V Rb K2 L2 V2 : Nat → Int32} {o2 o : Int32} {C E D : Prop} (h : o = 0 → FR z t K L Rb) (ho : (C ∧ o2 = o ∧ z2 = z ∧ t2 = t ∧ n2 = n ∧ K2 = K ∧ L2 = L ∧ V2 = V) ∨ (E ∧ o2 = 1 ∧ D)) : o2 = 0 → FR z2 t2 K2 L2 Rb := fun e => by
  rcases ho with ⟨-, q, rfl, rfl, -, rfl, rfl, -⟩ | ⟨-, q, -⟩
  · exact h (q.symm.trans e)
  · rw [q] at e; exact absurd e (by decide)
/-! two words lined up -/
def stc (V : Nat → Int32) (b : Nat) : Nat → Nat
  | 0 => 0
  | n + 1 => if V (b + n) = 0 then stc V b n else stc V b n + 1
def stv (V : Nat → Int32) (b : Nat) : Nat → Nat → Int32
  | 0 => fun _ => 0
  | n + 1 => if V (b + n) = 0 then stv V b n else upd (stv V b n) (stc V b n) (V (b + n))
theorem stc_z {V : Nat → Int32} {b n : Nat} (h : V (b + n) = 0) : stc V b (n + 1) = stc V b n := if_pos h
theorem stc_s {V : Nat → Int32} {b n : Nat} (h : ¬ V (b + n) = 0) : stc V b (n + 1) = stc V b n + 1 := if_neg h
theorem stv_z {V : Nat → Int32} {b n : Nat} (h : V (b + n) = 0) : stv V b (n + 1) = stv V b n := if_pos h
theorem stv_s {V : Nat → Int32} {b n : Nat} (h : ¬ V (b + n) = 0) : stv V b (n + 1) = upd (stv V b n) (stc V b n) (V (b + n)) := if_neg h
theorem stc_le {V : Nat → Int32} {b : Nat} : ∀ n, stc V b n ≤ n
  | 0 => Nat.le_refl 0
  | n + 1 => by
    have := stc_le (V := V) (b := b) n
    by_cases q : V (b + n) = 0
    · rw [stc_z q]; omega
    · rw [stc_s q]; omega
theorem st_congr {V W : Nat → Int32} {b : Nat} : ∀ n, (∀ a, a < n → V (b + a) = W (b + a)) → stc V b n = stc W b n ∧ stv V b n = stv W b n
  | 0, _ => ⟨rfl, rfl⟩
  | n + 1, h => by
    obtain ⟨h1, h2⟩ := st_congr n (fun a ha => h a (by omega))
    have h3 := h n (by omega)
    by_cases q : V (b + n) = 0
    · rw [stc_z q, stv_z q, stc_z (by rw [← h3]; exact q), stv_z (by rw [← h3]; exact q)]; exact ⟨h1, h2⟩
    · rw [stc_s q, stv_s q, stc_s (by rw [← h3]; exact q), stv_s (by rw [← h3]; exact q), h1, h2, h3]; exact ⟨rfl, rfl⟩
theorem stv_rng {V : Nat → Int32} {b : Nat} : ∀ n, (∀ a, a < n → ∃ v, v < 9 ∧ V (b + a) = nI v) → ∀ i, i < stc V b n → ∃ v, v < 9 ∧ stv V b n i = nI v
  | 0, _ => fun i hi => absurd hi (Nat.not_lt_zero i)
  | n + 1, h => fun i hi => by
    have ih := stv_rng n (fun a ha => h a (by omega))
    by_cases q : V (b + n) = 0
    · rw [stc_z q] at hi; rw [stv_z q]; exact ih i hi
    · rw [stc_s q] at hi; rw [stv_s q]
      by_cases e : i = stc V b n
      · rw [e, pk_us]; exact h n (by omega)
      · rw [pk_un e]; exact ih i (by omega)
/-- what stands in a row so far -/
def stR2 (V : Nat → Int32) (b n : Nat) (M : Nat → Int32) : Prop := ∀ i, i < stc V b n → M i = stv V b n i
theorem stR_z {V M : Nat → Int32} {b n : Nat} (h : stR2 V b n M) (q : V (b + n) = 0) : stR2 V b (n + 1) M := fun i hi => by
  rw [stc_z q] at hi; rw [stv_z q]; exact h i hi
theorem stR_s {V M : Nat → Int32} {b n : Nat} {x : Int32} (h : stR2 V b n M) (q : ¬ V (b + n) = 0) (ex : x = V (b + n)) : stR2 V b (n + 1) (upd M (stc V b n) x) := fun i hi => by
  rw [stc_s q] at hi; rw [stv_s q]
  by_cases e : i = stc V b n
  · rw [e, pk_us, pk_us]; exact ex
  · rw [pk_un e, pk_un e]; exact h i (by omega)
def csN (a b : Nat) : Nat := (cs a b).toNatClampNeg
theorem csN_cs : ∀ a, a < 9 → ∀ b, b < 9 → cs a b = nI (csN a b) ∧ csN a b ≤ 3 := by decide +kernel
def sN (M : Nat → Int32) (i : Nat) : Nat := (M i).toNatClampNeg
def dp (M W : Nat → Int32) : Nat → Nat → Nat
  | 0, j => 3 * j
  | i + 1, 0 => 3 * (i + 1)
  | i + 1, j + 1 => min (dp M W i j + csN (sN M i) (sN W j)) (min (dp M W i (j + 1)) (dp M W (i + 1) j) + 3)
theorem dp_le {M W : Nat → Int32} : ∀ i j, dp M W i j ≤ 3 * (i + j)
  | 0, j => by simp only [dp]; omega
  | i + 1, 0 => by simp only [dp]; omega
  | i + 1, j + 1 => by
    have := dp_le (M := M) (W := W) i (j + 1)
    simp only [dp]
    omega
theorem dp_congr {M W M2 W2 : Nat → Int32} {x y : Nat} (h1 : ∀ i, i < x → M i = M2 i) (h2 : ∀ j, j < y → W j = W2 j) : ∀ i j, i ≤ x → j ≤ y → dp M W i j = dp M2 W2 i j
  | 0, j, _, _ => by simp only [dp]
  | i + 1, 0, _, _ => by simp only [dp]
  | i + 1, j + 1, hi, hj => by
    simp only [dp]
    rw [dp_congr h1 h2 i j (by omega) (by omega), dp_congr h1 h2 i (j + 1) (by omega) hj, dp_congr h1 h2 (i + 1) j hi (by omega)]
    unfold sN
    rw [h1 i (by omega), h2 j (by omega)]
theorem dp_s {M W : Nat → Int32} {i k : Nat} (hk : 1 ≤ k) : dp M W (i + 1) k = min (dp M W i (k - 1) + csN (sN M i) (sN W (k - 1))) (min (dp M W i k) (dp M W (i + 1) (k - 1)) + 3) := by
  obtain ⟨j, rfl⟩ : ∃ j, k = j + 1 := ⟨k - 1, by omega⟩
  rw [Nat.add_sub_cancel]
  simp only [dp]
theorem mi_nI {a b : Nat} (ha : a < 2 ^ 31) (hb : b < 2 ^ 31) : (if nI b < nI a then nI b else nI a) = nI (min a b) := by
  by_cases q : b < a
  · rw [if_pos (nI_lt q ha), show min a b = b by omega]
  · rw [if_neg (fun h => q ((nI_ltI hb ha).mp h)), show min a b = a by omega]
theorem dp_0s {M W : Nat → Int32} {i : Nat} : dp M W (i + 1) 0 = dp M W i 0 + 3 := by
  cases i with
  | zero => simp only [dp]
  | succ i => simp only [dp]; omega
theorem up_n {R : Nat → Int32} {j : Nat} (h : ∀ q, q < j → R q = nI (3 * q)) : ∀ q, q < j + 1 → upd R j (nI (3 * j)) q = nI (3 * q) := fun q hq => by
  by_cases e : q = j
  · rw [e, pk_us]
  · rw [pk_un e]; exact h q (by omega)
theorem up_n2 {R : Nat → Int32} {k : Nat} {g : Nat → Nat} (h : ∀ q, q < k → R q = nI (g q)) : ∀ q, q < k + 1 → upd R k (nI (g k)) q = nI (g q) := fun q hq => by
  by_cases e : q = k
  · rw [e, pk_us]
  · rw [pk_un e]; exact h q (by omega)
theorem up_1 {R : Nat → Int32} {g : Nat → Nat} : ∀ q, q < 1 → upd R 0 (nI (g 0)) q = nI (g q) := fun q hq => by
  rw [show q = 0 by omega, pk_us]
/-- line(), of both -/
def lnr (p1 p2 p3 p4 : Int32) (z t : Nat) (L V : Nat → Int32) : Int32 := if isI p1 z = 0 ∨ isI p2 t = 0 ∨ isI p3 z = 0 ∨ isI p4 t = 0 then (-101) else nI (dp (stv V (16 * p1.toNatClampNeg + 4 * p2.toNatClampNeg) (L p1.toNatClampNeg).toNatClampNeg) (stv V (16 * p3.toNatClampNeg + 4 * p4.toNatClampNeg) (L p3.toNatClampNeg).toNatClampNeg) (stc V (16 * p1.toNatClampNeg + 4 * p2.toNatClampNeg) (L p1.toNatClampNeg).toNatClampNeg) (stc V (16 * p3.toNatClampNeg + 4 * p4.toNatClampNeg) (L p3.toNatClampNeg).toNatClampNeg))
theorem lnr_u {p1 p2 p3 p4 : Int32} {z t : Nat} {L V : Nat → Int32} (h : isI p1 z = 0 ∨ isI p2 t = 0 ∨ isI p3 z = 0 ∨ isI p4 t = 0) : lnr p1 p2 p3 p4 z t L V = (-101) := if_pos h
theorem lnr_k {k1 k2 k3 k4 z t n1 n3 d : Nat} {L V : Nat → Int32} (h1 : k1 < z) (h2 : k2 < t) (h3 : k3 < z) (h4 : k4 < t) (hz : z ≤ 6) (ht : t ≤ 4) (e1 : L k1 = nI n1) (hn1 : n1 < 5) (e3 : L k3 = nI n3) (hn3 : n3 < 5) (hd : d = dp (stv V (16 * k1 + 4 * k2) n1) (stv V (16 * k3 + 4 * k4) n3) (stc V (16 * k1 + 4 * k2) n1) (stc V (16 * k3 + 4 * k4) n3)) : lnr (nI k1) (nI k2) (nI k3) (nI k4) z t L V = nI d := by
  unfold lnr
  rw [if_neg (fun h => by rcases h with h | h | h | h; exact isI_no h1 (by omega) h; exact isI_no h2 (by omega) h; exact isI_no h3 (by omega) h; exact isI_no h4 (by omega) h), nI_clamp (n := k1) (by omega), nI_clamp (n := k2) (by omega), nI_clamp (n := k3) (by omega), nI_clamp (n := k4) (by omega), e1, e3, nI_clamp (n := n1) (by omega), nI_clamp (n := n3) (by omega), hd]
theorem le_nI {a b : Nat} (ha : a < 2 ^ 31) (hb : b < 2 ^ 31) : nI a ≤ nI b ↔ a ≤ b := ⟨fun h => ge_of_le (k := a) (n := b) ha hb h, fun h => nI_le h hb⟩
theorem dp_z1 {M W : Nat → Int32} {i j : Nat} (h : i = 0) : dp M W i j = 3 * j := by subst h; simp only [dp]
theorem dp_z2 {M W : Nat → Int32} {i j : Nat} (h : j = 0) : dp M W i j = 3 * i := by
  subst h
  cases i with
  | zero => simp only [dp]
  | succ i => simp only [dp]
theorem dp_ss {M W : Nat → Int32} {i j : Nat} (hi : 1 ≤ i) (hj : 1 ≤ j) : dp M W i j = min (dp M W (i - 1) (j - 1) + csN (sN M (i - 1)) (sN W (j - 1))) (min (dp M W (i - 1) j) (dp M W i (j - 1)) + 3) := by
  obtain ⟨a, rfl⟩ : ∃ a, i = a + 1 := ⟨i - 1, by omega⟩
  exact dp_s hj
theorem cs_sym : ∀ a, a < 9 → ∀ b, b < 9 → cs b a = cs a b := by decide +kernel
def TBL (M W : Nat → Int32) (ca i j : Nat) (T : Nat → Int32) : Prop := ∀ a b, (a < i ∨ (a = i ∧ b < j)) → b ≤ ca → ∀ m, m = 5 * a + b → T m = nI (dp M W a b)
theorem TBL_0 {M W T : Nat → Int32} {ca : Nat} : TBL M W ca 0 0 T := fun a b h => absurd h (by omega)
theorem TBL_s {M W T : Nat → Int32} {ca i j : Nat} (hc : ca ≤ 4) (hj : j ≤ ca) (h : TBL M W ca i j T) : TBL M W ca i (j + 1) (upd T (5 * i + j) (nI (dp M W i j))) := fun a b hab hb m hm => by
  by_cases e : a = i ∧ b = j
  · obtain ⟨rfl, rfl⟩ := e
    rw [hm, pk_us]
  · rw [pk_un (by omega)]
    exact h a b (by omega) hb m hm
theorem TBL_k {M W T : Nat → Int32} {ca i j : Nat} (hj : ca < j) (h : TBL M W ca i j T) : TBL M W ca (i + 1) 0 T := fun a b hab hb m hm => h a b (by omega) hb m hm
theorem lnr_eq {p1 p2 p3 p4 : Int32} {z t : Nat} {K L V Km Lm Vm : Nat → Int32} (hz : z ≤ 6) (ht : t ≤ 4) (hL : rng 6 5 L) (h : EQs z t K L V Km Lm Vm) : lnr p1 p2 p3 p4 z t L V = lnr p1 p2 p3 p4 z t Lm Vm := by
  unfold lnr
  by_cases q : isI p1 z = 0 ∨ isI p2 t = 0 ∨ isI p3 z = 0 ∨ isI p4 t = 0
  · rw [if_pos q, if_pos q]
  · rw [if_neg q, if_neg q]
    obtain ⟨k1, hk1, rfl⟩ := isI_of (p := p1) (z := z) (by omega) (fun w => q (Or.inl w))
    obtain ⟨k2, hk2, rfl⟩ := isI_of (p := p2) (z := t) (by omega) (fun w => q (Or.inr (Or.inl w)))
    obtain ⟨k3, hk3, rfl⟩ := isI_of (p := p3) (z := z) (by omega) (fun w => q (Or.inr (Or.inr (Or.inl w))))
    obtain ⟨k4, hk4, rfl⟩ := isI_of (p := p4) (z := t) (by omega) (fun w => q (Or.inr (Or.inr (Or.inr w))))
    obtain ⟨n1, hn1, e1⟩ := hL k1 (by omega)
    obtain ⟨n3, hn3, e3⟩ := hL k3 (by omega)
    obtain ⟨-, a2, a3⟩ := h k1 hk1
    obtain ⟨-, b2, b3⟩ := h k3 hk3
    rw [nI_clamp (n := k1) (by omega), nI_clamp (n := k2) (by omega), nI_clamp (n := k3) (by omega), nI_clamp (n := k4) (by omega), ← a2, ← b2, e1, e3, nI_clamp (n := n1) (by omega), nI_clamp (n := n3) (by omega)]
    obtain ⟨c1, c2⟩ := st_congr (V := V) (W := Vm) (b := 16 * k1 + 4 * k2) n1 (fun a ha => a3 k2 hk2 a (by omega) (by rw [e1]; exact (nI_ltI (by omega) (by omega)).mpr ha))
    obtain ⟨d1, d2⟩ := st_congr (V := V) (W := Vm) (b := 16 * k3 + 4 * k4) n3 (fun a ha => b3 k4 hk4 a (by omega) (by rw [e3]; exact (nI_ltI (by omega) (by omega)).mpr ha))
    rw [c1, c2, d1, d2]
def po_X0_readSounds_f (g : GG) (v0 : Nat) (w0 : Nat) (V : Nat → Int32) (M : Nat → Int32) (b : Nat) (n : Nat) : Int32 → va_W → Prop := fun (r : Int32) w => ∃ (M2 : Nat → Int32), w = [(v0, ai g 96 V), (w0, ai g 4 M2)] ∧ (nI (stc V b n) = r) ∧ (stR2 V b n M2) ∧ (rng 4 9 M2)
set_option maxHeartbeats 1500000 in
set_option maxRecDepth 100000 in
theorem c_X0_readSounds_f (l : Launch) (g : GG) (v0 : Nat) (w0 : Nat) (V : Nat → Int32) (M : Nat → Int32) (b : Nat) (n : Nat) (hn : n ≤ 4) (hbn : b + n ≤ 96) (hV : rng 96 9 V) (hM : rng 4 9 M) (sz : Nat) : MetI l yX0_readSounds wsX0_readSounds ({ frames := 0, cells := 0, slots := 0, locals := 0 }) g [.ref v0, .int (nI b), .int (nI n), .ref w0] [(v0, ai g 96 V), (w0, ai g 4 M)] sz (po_X0_readSounds_f g v0 w0 V M b n) 0 0 := by
  refine k_of (l := l) (y := yX0_readSounds) (ws := wsX0_readSounds) (rm := { frames := 0, cells := 0, slots := 0, locals := 0 }) (mc := 0) (ms := 0) (av := [.ref v0, .int (nI b), .int (nI n), .ref w0]) (g := g) (wc := [(v0, ai g 96 V), (w0, ai g 4 M)]) (Qc := fun A => va_Qi (po_X0_readSounds_f g v0 w0 V M b n) (bk g A) A) (cc := cX0_readSounds) (maxL := 7) (ret := (some .int)) (by decide) rfl (Nat.le_of_ble_eq_true rfl) ?_ sz
  intro p e s m below meth c hx hb hr hts hown hlocks hnm hml A hA hE hZ hP hD hS ls hl
  have hown : s.vm.findClass RX0 = some m.cls := hown
  have hl : lv_has ls 7 [(0, .ref v0), (1, .int (nI b)), (2, .int (nI n)), (3, .ref w0)] := hl
  refine lv_iconst (v := 0) hx hb dX0_readSounds_0 (by decide) ?_
  refine lv_istore (lv' := [(4, .int 0), (0, .ref v0), (1, .int (nI b)), (2, .int (nI n)), (3, .ref w0)]) hx hb dX0_readSounds_1 hl (by decide) rfl (fun ls hl => ?_)
  refine lv_iconst (v := 0) hx hb dX0_readSounds_3 (by decide) ?_
  refine lv_istore (lv' := [(5, .int 0), (4, .int 0), (0, .ref v0), (1, .int (nI b)), (2, .int (nI n)), (3, .ref w0)]) hx hb dX0_readSounds_4 hl (by decide) rfl (fun ls hl => ?_)
  have loop6 : ∀ (fu : Nat) (j : Nat) (M2 : Nat → Int32), (hj : j ≤ n) → (hM2 : stR2 V b j M2) → (hr2 : rng 4 9 M2) → n - j < fu → ∀ (H : Heap) (locs : List Loc) (ls : Array Slot), va_P g.1 vwCl [(v0, ai g 96 V), (w0, ai g 4 M2)] H → va_D A [(v0, ai g 96 V), (w0, ai g 4 M2)] → va_S A s.heap H locs → lv_has ls 7 [(0, .ref v0), (1, .int (nI b)), (2, .int (nI n)), (3, .ref w0), (4, .int (nI (stc V b j))), (5, .int (nI j))] → W p l e ({ frames := 0, cells := 0, slots := 0, locals := 0 }) s m [.ref v0, .int (nI b), .int (nI n), .ref w0].toArray below meth c H locs 0 0 (MQ below (va_Qi (po_X0_readSounds_f g v0 w0 V M b n) (bk g A) A) [.ref v0, .int (nI b), .int (nI n), .ref w0].toArray s 0 0 A) (F0 m 6 ls []) := by
    intro fu
    induction fu with
    | zero => intro j M2 hj hM2 hr2 hfu; exact absurd hfu (Nat.not_lt_zero _)
    | succ fu ih =>
      intro j M2 hj hM2 hr2 hfu H locs ls hP hD hS hl
      have ih6 := ih
      refine lv_iload hx hb dX0_readSounds_6 (lv_at hl 5 rfl) ?_
      refine lv_iload_n hx hb dX0_readSounds_8 rfl (lv_at hl 2 rfl) ?_
      refine lv_icmp_ge (tgt := 40) hx hb dX0_readSounds_9 (by decide) (fun c9_1 => ?_) (fun c9_1 => ?_)
      · skip
        have hj9 := ge_of_le (k := n) (n := j) (by omega) (by omega) c9_1; obtain rfl : j = n := by omega
        refine lv_iload hx hb dX0_readSounds_40 (lv_at hl 4 rfl) ?_
        refine W.widen (k := 0) (n := 0) (Nat.le_of_ble_eq_true rfl) (Nat.le_of_ble_eq_true rfl) ?_
        exact k_ri hx hb hr hlocks hS hP hD ⟨M2, rfl, rfl, hM2, hr2⟩ dX0_readSounds_42
      · skip
        have hj9 := lt_of_nle (k := n) (n := j) (by omega) (by omega) c9_1
        have hc9 := stc_le (V := V) (b := b) j
        refine lv_aload_n hx hb dX0_readSounds_12 rfl (lv_at hl 0 rfl) ?_
        refine lv_iload_n hx hb dX0_readSounds_13 rfl (lv_at hl 1 rfl) ?_
        refine lv_iload hx hb dX0_readSounds_14 (lv_at hl 5 rfl) ?_
        refine lv_iadd hx hb dX0_readSounds_16 ?_
        refine k_ald (b + j) (nI_add _ _) (by omega) hx hb hE hP 0 rfl (by decide) dX0_readSounds_17 ?_
        refine lv_istore (lv' := [(6, .int (V (b + j))), (0, .ref v0), (1, .int (nI b)), (2, .int (nI n)), (3, .ref w0), (4, .int (nI (stc V b j))), (5, .int (nI j))]) hx hb dX0_readSounds_18 hl (by decide) rfl (fun ls hl => ?_)
        refine lv_iload hx hb dX0_readSounds_20 (lv_at hl 0 rfl) ?_
        refine lv_if_eq (tgt := 34) hx hb dX0_readSounds_22 (by decide) (fun c22_2 => ?_) (fun c22_2 => ?_)
        · skip
          have hl : lv_has ls 7 [(6, .int (V (b + j))), (0, .ref v0), (1, .int (nI b)), (2, .int (nI n)), (3, .ref w0), (4, .int (nI (stc V b (j + 1)))), (5, .int (nI j))] := by rw [stc_z c22_2]; exact hl
          refine lv_iinc (v := (nI (j + 1))) (lv' := [(5, .int (nI (j + 1))), (6, .int (V (b + j))), (0, .ref v0), (1, .int (nI b)), (2, .int (nI n)), (3, .ref w0), (4, .int (nI (stc V b (j + 1))))]) hx hb dX0_readSounds_34 hl (k := 6) rfl (nI_1 _) (by decide) rfl (fun ls hl => ?_)
          refine lv_goto (tgt := 6) hx hb dX0_readSounds_37 (by decide) ?_
          exact ih6 (j + 1) _ (by omega) (stR_z hM2 c22_2) hr2 (by omega) _ _ _ hP hD hS (lv_sub hl [2, 3, 4, 5, 6, 0] rfl)
        · skip
          refine lv_aload_n hx hb dX0_readSounds_25 rfl (lv_at hl 4 rfl) ?_
          refine lv_iload hx hb dX0_readSounds_26 (lv_at hl 5 rfl) ?_
          refine lv_iload hx hb dX0_readSounds_28 (lv_at hl 0 rfl) ?_
          refine k_ast (x := (V (b + j))) (stc V b j) rfl (by omega) hx hb hE hP hD hS 1 rfl (by decide) dX0_readSounds_30 (fun H locs hP hD hS => ?_)
          have hP : va_P g.1 vwCl [(v0, ai g 96 V), (w0, ai g 4 (upd M2 (stc V b j) (V (b + j))))] H := hP
          have hD : va_D A [(v0, ai g 96 V), (w0, ai g 4 (upd M2 (stc V b j) (V (b + j))))] := hD
          refine lv_iinc (v := (nI (stc V b j + 1))) (lv' := [(4, .int (nI (stc V b j + 1))), (6, .int (V (b + j))), (0, .ref v0), (1, .int (nI b)), (2, .int (nI n)), (3, .ref w0), (5, .int (nI j))]) hx hb dX0_readSounds_31 hl (k := 5) rfl (nI_1 _) (by decide) rfl (fun ls hl => ?_)
          have hl : lv_has ls 7 [(4, .int (nI (stc V b (j + 1)))), (6, .int (V (b + j))), (0, .ref v0), (1, .int (nI b)), (2, .int (nI n)), (3, .ref w0), (5, .int (nI j))] := by rw [stc_s c22_2]; exact hl
          refine lv_iinc (v := (nI (j + 1))) (lv' := [(5, .int (nI (j + 1))), (4, .int (nI (stc V b (j + 1)))), (6, .int (V (b + j))), (0, .ref v0), (1, .int (nI b)), (2, .int (nI n)), (3, .ref w0)]) hx hb dX0_readSounds_34 hl (k := 6) rfl (nI_1 _) (by decide) rfl (fun ls hl => ?_)
          refine lv_goto (tgt := 6) hx hb dX0_readSounds_37 (by decide) ?_
          exact ih6 (j + 1) _ (by omega) (stR_s hM2 c22_2 rfl) (by obtain ⟨vv, hvv, evv⟩ := hV (b + j) (by omega); rw [evv]; exact rng_upd hr2 hvv) (by omega) _ _ _ hP hD hS (lv_sub hl [3, 4, 5, 6, 1, 0] rfl)
  exact loop6 _ 0 M (Nat.zero_le n) (fun i hi => absurd hi (Nat.not_lt_zero i)) hM (Nat.lt_succ_self _) _ _ _ hP hD hS (lv_sub hl [2, 3, 4, 5, 1, 0] rfl)
def po_X0_readFirst_f (g : GG) (al : Nat) (a1 : Nat) (a2 : Nat) (a3 : Nat) (v0 : Nat) (V : Nat → Int32) (M : Nat → Int32) (fl1 : Int32) (fl2 : Int32) (b : Nat) (n : Nat) : va_W → Prop := fun w => ∃ (M2 : Nat → Int32), w = [(al, .inr (0, [.ref a1, .ref a2, .int (nI (stc V b n)), .int fl2, .ref a3])), (v0, ai g 96 V), (a1, ai g 4 M2)] ∧ (stR2 V b n M2) ∧ (rng 4 9 M2)
theorem q_X0_readFirst_f_f0 : ∀ w ∈ u_ws RX0 TX0 5, w ∈ wsX0_readFirst := by decide +kernel
theorem q_X0_readFirst_f_1 : (Cond.fieldLink RX0 9 "SoundLaws$Aligner" "first" "[I") ∈ wsX0_readFirst := by decide +kernel
theorem q_X0_readFirst_f_2 : (Cond.fieldLink RX0 25 "SoundLaws$Aligner" "firstLength" "I") ∈ wsX0_readFirst := by decide +kernel
set_option maxHeartbeats 1500000 in
set_option maxRecDepth 100000 in
theorem c_X0_readFirst_f (l : Launch) (g : GG) (al : Nat) (a1 : Nat) (a2 : Nat) (a3 : Nat) (v0 : Nat) (V : Nat → Int32) (M : Nat → Int32) (fl1 : Int32) (fl2 : Int32) (b : Nat) (n : Nat) (hn : n ≤ 4) (hb : b + n ≤ 96) (hV : rng 96 9 V) (hM : rng 4 9 M) (sz : Nat) : MetV l yX0_readFirst wsX0_readFirst ({ frames := 1, cells := 0, slots := 0, locals := 26 }) g [.ref al, .ref v0, .int (nI b), .int (nI n)] [(al, .inr (0, [.ref a1, .ref a2, .int fl1, .int fl2, .ref a3])), (v0, ai g 96 V), (a1, ai g 4 M)] sz (po_X0_readFirst_f g al a1 a2 a3 v0 V M fl1 fl2 b n) 0 0 := by
  refine k_of (l := l) (y := yX0_readFirst) (ws := wsX0_readFirst) (rm := { frames := 1, cells := 0, slots := 0, locals := 26 }) (mc := 0) (ms := 0) (av := [.ref al, .ref v0, .int (nI b), .int (nI n)]) (g := g) (wc := [(al, .inr (0, [.ref a1, .ref a2, .int fl1, .int fl2, .ref a3])), (v0, ai g 96 V), (a1, ai g 4 M)]) (Qc := fun A => va_Qv (po_X0_readFirst_f g al a1 a2 a3 v0 V M fl1 fl2 b n) (bk g A) A) (cc := cX0_readFirst) (maxL := 4) (ret := none) (by decide) rfl (Nat.le_of_ble_eq_true rfl) ?_ sz
  intro p e s m below meth c hx hb hr hts hown hlocks hnm hml A hA hE hZ hP hD hS ls hl
  have hown : s.vm.findClass RX0 = some m.cls := hown
  have hl : lv_has ls 4 [(0, .ref al), (1, .ref v0), (2, .int (nI b)), (3, .int (nI n))] := hl
  refine lv_aload_n hx hb dX0_readFirst_0 rfl (lv_at hl 0 rfl) ?_
  refine lv_aload_n hx hb dX0_readFirst_1 rfl (lv_at hl 1 rfl) ?_
  refine lv_iload_n hx hb dX0_readFirst_2 rfl (lv_at hl 2 rfl) ?_
  refine lv_iload_n hx hb dX0_readFirst_3 rfl (lv_at hl 3 rfl) ?_
  refine lv_aload_n hx hb dX0_readFirst_4 rfl (lv_at hl 0 rfl) ?_
  refine va_get (D := g.1) (ci := 0) (v := .ref a1) (C := RX0) (T := TX0) (N := 5) hx hb hts q_X0_readFirst_f_f0 hown hE.1 hP 0 rfl rfl 0 (by decide) (hts (.fieldLink RX0 9 "SoundLaws$Aligner" "first" "[I") q_X0_readFirst_f_1) (fun _ h9 => h9) rfl dX0_readFirst_5 ?_
  refine k_ci (wr := [(al, .inr (0, [.ref a1, .ref a2, .int fl1, .int fl2, .ref a3]))]) hP hD hS hA [1, 2] [0] rfl rfl (by decide) (by decide) (va_runS (As := [.ref v0, .int (nI b), .int (nI n), .ref a1]) (rest := [.ref al]) ⟨hx, hb, hml, hown, hts⟩ (c_X0_readSounds_f l g v0 a1 V M b n (by first | assumption | omega) (by first | assumption | omega) (by first | assumption | omega) (by first | assumption | omega) s.heap.size) (va_cwS 4 hts gX0_readFirst_X0_readSounds rfl rfl rfl (by decide +kernel) ⟨Nat.le_of_ble_eq_true rfl, Nat.le_of_ble_eq_true rfl⟩) (k_preS hE hZ hP hD hS hA [1, 2] rfl (by decide)) rfl rfl hl.1 rfl (lv_room (Nat.le_of_ble_eq_true rfl)) dX0_readFirst_8 ⟨Nat.le_of_ble_eq_true rfl, Nat.le_of_ble_eq_true rfl⟩) (fun r_1 w1 H locs hw hP hD hS => ?_)
  obtain ⟨M2_2, rfl, rfl, hM2_4, hr2_5⟩ := hw
  have hP : va_P g.1 vwCl [(al, .inr (0, [.ref a1, .ref a2, .int fl1, .int fl2, .ref a3])), (v0, ai g 96 V), (a1, ai g 4 M2_2)] H := hP
  have hD : va_D A [(al, .inr (0, [.ref a1, .ref a2, .int fl1, .int fl2, .ref a3])), (v0, ai g 96 V), (a1, ai g 4 M2_2)] := hD
  refine va_put (D := g.1) (ci := 0) (v := .int (nI (stc V b n))) (ty := .int) (C := RX0) (T := TX0) (N := 5) hx hb hts q_X0_readFirst_f_f0 tyX0 tyX0_ok nmX0 hown hE.1 hP hD hS 0 rfl rfl 2 (by decide) (hts (.fieldLink RX0 25 "SoundLaws$Aligner" "firstLength" "I") q_X0_readFirst_f_2) (fun _ h9 => h9) rfl (by decide +kernel) rfl rfl (Nat.le_of_ble_eq_true rfl) dX0_readFirst_11 (fun H locs hP hD hS => ?_)
  have hP : va_P g.1 vwCl [(al, .inr (0, [.ref a1, .ref a2, .int (nI (stc V b n)), .int fl2, .ref a3])), (v0, ai g 96 V), (a1, ai g 4 M2_2)] H := hP
  have hD : va_D A [(al, .inr (0, [.ref a1, .ref a2, .int (nI (stc V b n)), .int fl2, .ref a3])), (v0, ai g 96 V), (a1, ai g 4 M2_2)] := hD
  refine W.widen (k := 0) (n := 0) (Nat.le_of_ble_eq_true rfl) (Nat.le_of_ble_eq_true rfl) ?_
  exact k_rv hx hb hr hlocks hS hP hD ⟨M2_2, rfl, hM2_4, hr2_5⟩ dX0_readFirst_14
def po_X0_readSecond_f (g : GG) (al : Nat) (a1 : Nat) (a2 : Nat) (a3 : Nat) (v0 : Nat) (V : Nat → Int32) (M : Nat → Int32) (fl1 : Int32) (fl2 : Int32) (b : Nat) (n : Nat) : va_W → Prop := fun w => ∃ (M2 : Nat → Int32), w = [(al, .inr (0, [.ref a1, .ref a2, .int fl1, .int (nI (stc V b n)), .ref a3])), (v0, ai g 96 V), (a2, ai g 4 M2)] ∧ (stR2 V b n M2) ∧ (rng 4 9 M2)
theorem q_X0_readSecond_f_f0 : ∀ w ∈ u_ws RX0 TX0 5, w ∈ wsX0_readSecond := by decide +kernel
theorem q_X0_readSecond_f_1 : (Cond.fieldLink RX0 15 "SoundLaws$Aligner" "second" "[I") ∈ wsX0_readSecond := by decide +kernel
theorem q_X0_readSecond_f_2 : (Cond.fieldLink RX0 29 "SoundLaws$Aligner" "secondLength" "I") ∈ wsX0_readSecond := by decide +kernel
set_option maxHeartbeats 1500000 in
set_option maxRecDepth 100000 in
theorem c_X0_readSecond_f (l : Launch) (g : GG) (al : Nat) (a1 : Nat) (a2 : Nat) (a3 : Nat) (v0 : Nat) (V : Nat → Int32) (M : Nat → Int32) (fl1 : Int32) (fl2 : Int32) (b : Nat) (n : Nat) (hn : n ≤ 4) (hb : b + n ≤ 96) (hV : rng 96 9 V) (hM : rng 4 9 M) (sz : Nat) : MetV l yX0_readSecond wsX0_readSecond ({ frames := 1, cells := 0, slots := 0, locals := 26 }) g [.ref al, .ref v0, .int (nI b), .int (nI n)] [(al, .inr (0, [.ref a1, .ref a2, .int fl1, .int fl2, .ref a3])), (v0, ai g 96 V), (a2, ai g 4 M)] sz (po_X0_readSecond_f g al a1 a2 a3 v0 V M fl1 fl2 b n) 0 0 := by
  refine k_of (l := l) (y := yX0_readSecond) (ws := wsX0_readSecond) (rm := { frames := 1, cells := 0, slots := 0, locals := 26 }) (mc := 0) (ms := 0) (av := [.ref al, .ref v0, .int (nI b), .int (nI n)]) (g := g) (wc := [(al, .inr (0, [.ref a1, .ref a2, .int fl1, .int fl2, .ref a3])), (v0, ai g 96 V), (a2, ai g 4 M)]) (Qc := fun A => va_Qv (po_X0_readSecond_f g al a1 a2 a3 v0 V M fl1 fl2 b n) (bk g A) A) (cc := cX0_readSecond) (maxL := 4) (ret := none) (by decide) rfl (Nat.le_of_ble_eq_true rfl) ?_ sz
  intro p e s m below meth c hx hb hr hts hown hlocks hnm hml A hA hE hZ hP hD hS ls hl
  have hown : s.vm.findClass RX0 = some m.cls := hown
  have hl : lv_has ls 4 [(0, .ref al), (1, .ref v0), (2, .int (nI b)), (3, .int (nI n))] := hl
  refine lv_aload_n hx hb dX0_readSecond_0 rfl (lv_at hl 0 rfl) ?_
  refine lv_aload_n hx hb dX0_readSecond_1 rfl (lv_at hl 1 rfl) ?_
  refine lv_iload_n hx hb dX0_readSecond_2 rfl (lv_at hl 2 rfl) ?_
  refine lv_iload_n hx hb dX0_readSecond_3 rfl (lv_at hl 3 rfl) ?_
  refine lv_aload_n hx hb dX0_readSecond_4 rfl (lv_at hl 0 rfl) ?_
  refine va_get (D := g.1) (ci := 0) (v := .ref a2) (C := RX0) (T := TX0) (N := 5) hx hb hts q_X0_readSecond_f_f0 hown hE.1 hP 0 rfl rfl 1 (by decide) (hts (.fieldLink RX0 15 "SoundLaws$Aligner" "second" "[I") q_X0_readSecond_f_1) (fun _ h9 => h9) rfl dX0_readSecond_5 ?_
  refine k_ci (wr := [(al, .inr (0, [.ref a1, .ref a2, .int fl1, .int fl2, .ref a3]))]) hP hD hS hA [1, 2] [0] rfl rfl (by decide) (by decide) (va_runS (As := [.ref v0, .int (nI b), .int (nI n), .ref a2]) (rest := [.ref al]) ⟨hx, hb, hml, hown, hts⟩ (c_X0_readSounds_f l g v0 a2 V M b n (by first | assumption | omega) (by first | assumption | omega) (by first | assumption | omega) (by first | assumption | omega) s.heap.size) (va_cwS 4 hts gX0_readSecond_X0_readSounds rfl rfl rfl (by decide +kernel) ⟨Nat.le_of_ble_eq_true rfl, Nat.le_of_ble_eq_true rfl⟩) (k_preS hE hZ hP hD hS hA [1, 2] rfl (by decide)) rfl rfl hl.1 rfl (lv_room (Nat.le_of_ble_eq_true rfl)) dX0_readSecond_8 ⟨Nat.le_of_ble_eq_true rfl, Nat.le_of_ble_eq_true rfl⟩) (fun r_1 w1 H locs hw hP hD hS => ?_)
  obtain ⟨M2_2, rfl, rfl, hM2_4, hr2_5⟩ := hw
  have hP : va_P g.1 vwCl [(al, .inr (0, [.ref a1, .ref a2, .int fl1, .int fl2, .ref a3])), (v0, ai g 96 V), (a2, ai g 4 M2_2)] H := hP
  have hD : va_D A [(al, .inr (0, [.ref a1, .ref a2, .int fl1, .int fl2, .ref a3])), (v0, ai g 96 V), (a2, ai g 4 M2_2)] := hD
  refine va_put (D := g.1) (ci := 0) (v := .int (nI (stc V b n))) (ty := .int) (C := RX0) (T := TX0) (N := 5) hx hb hts q_X0_readSecond_f_f0 tyX0 tyX0_ok nmX0 hown hE.1 hP hD hS 0 rfl rfl 3 (by decide) (hts (.fieldLink RX0 29 "SoundLaws$Aligner" "secondLength" "I") q_X0_readSecond_f_2) (fun _ h9 => h9) rfl (by decide +kernel) rfl rfl (Nat.le_of_ble_eq_true rfl) dX0_readSecond_11 (fun H locs hP hD hS => ?_)
  have hP : va_P g.1 vwCl [(al, .inr (0, [.ref a1, .ref a2, .int fl1, .int (nI (stc V b n)), .ref a3])), (v0, ai g 96 V), (a2, ai g 4 M2_2)] H := hP
  have hD : va_D A [(al, .inr (0, [.ref a1, .ref a2, .int fl1, .int (nI (stc V b n)), .ref a3])), (v0, ai g 96 V), (a2, ai g 4 M2_2)] := hD
  refine W.widen (k := 0) (n := 0) (Nat.le_of_ble_eq_true rfl) (Nat.le_of_ble_eq_true rfl) ?_
  exact k_rv hx hb hr hlocks hS hP hD ⟨M2_2, rfl, hM2_4, hr2_5⟩ dX0_readSecond_14
def po_X0_leastCost_f (g : GG) (al : Nat) (a1 : Nat) (a2 : Nat) (a3 : Nat) (M1 : Nat → Int32) (M2 : Nat → Int32) (Rw : Nat → Int32) (x : Nat) (y : Nat) : Int32 → va_W → Prop := fun (r : Int32) w => ∃ (R2 : Nat → Int32), w = [(al, .inr (0, [.ref a1, .ref a2, .int (nI x), .int (nI y), .ref a3])), (a1, ai g 4 M1), (a2, ai g 4 M2), (a3, ai g 5 R2)] ∧ (nI (dp M1 M2 x y) = r)
theorem q_X0_leastCost_f_f0 : ∀ w ∈ u_ws RX0 TX0 5, w ∈ wsX0_leastCost := by decide +kernel
theorem q_X0_leastCost_f_1 : (Cond.fieldLink RX0 29 "SoundLaws$Aligner" "secondLength" "I") ∈ wsX0_leastCost := by decide +kernel
theorem q_X0_leastCost_f_2 : (Cond.fieldLink RX0 25 "SoundLaws$Aligner" "firstLength" "I") ∈ wsX0_leastCost := by decide +kernel
theorem q_X0_leastCost_f_3 : (Cond.fieldLink RX0 18 "SoundLaws$Aligner" "row" "[I") ∈ wsX0_leastCost := by decide +kernel
theorem q_X0_leastCost_f_4 : (Cond.fieldLink RX0 9 "SoundLaws$Aligner" "first" "[I") ∈ wsX0_leastCost := by decide +kernel
theorem q_X0_leastCost_f_5 : (Cond.fieldLink RX0 15 "SoundLaws$Aligner" "second" "[I") ∈ wsX0_leastCost := by decide +kernel
theorem q_X0_leastCost_f_6 : (Cond.initialized RX8) ∈ wsX0_leastCost := by decide +kernel
theorem q_X0_leastCost_f_7 : (Cond.static yX8_costOf) ∈ wsX0_leastCost := by decide +kernel
theorem q_X0_leastCost_f_8 : (Cond.methodLink RX0 36 Lib.Math.min.name) ∈ wsX0_leastCost := by decide +kernel
theorem q_X0_leastCost_f_9 : (Cond.static Lib.Math.min.name) ∈ wsX0_leastCost := by decide +kernel
theorem q_X0_leastCost_f_10 : (Cond.initialized "java/lang/Math") ∈ wsX0_leastCost := by decide +kernel
theorem q_X0_leastCost_f_11 : (Cond.code Lib.Math.min.name Lib.Math.min.code 2 (some .int)) ∈ wsX0_leastCost := by decide +kernel
set_option maxHeartbeats 1500000 in
set_option maxRecDepth 100000 in
theorem c_X0_leastCost_f (l : Launch) (g : GG) (al : Nat) (a1 : Nat) (a2 : Nat) (a3 : Nat) (M1 : Nat → Int32) (M2 : Nat → Int32) (Rw : Nat → Int32) (x : Nat) (y : Nat) (hx4 : x ≤ 4) (hy4 : y ≤ 4) (hM1 : ∀ i, i < x → ∃ v, v < 9 ∧ M1 i = nI v) (hM2 : ∀ i, i < y → ∃ v, v < 9 ∧ M2 i = nI v) (sz : Nat) : MetI l yX0_leastCost wsX0_leastCost ({ frames := 1, cells := 0, slots := 0, locals := 21 }) g [.ref al] [(al, .inr (0, [.ref a1, .ref a2, .int (nI x), .int (nI y), .ref a3])), (a1, ai g 4 M1), (a2, ai g 4 M2), (a3, ai g 5 Rw)] sz (po_X0_leastCost_f g al a1 a2 a3 M1 M2 Rw x y) 0 0 := by
  refine k_of (l := l) (y := yX0_leastCost) (ws := wsX0_leastCost) (rm := { frames := 1, cells := 0, slots := 0, locals := 21 }) (mc := 0) (ms := 0) (av := [.ref al]) (g := g) (wc := [(al, .inr (0, [.ref a1, .ref a2, .int (nI x), .int (nI y), .ref a3])), (a1, ai g 4 M1), (a2, ai g 4 M2), (a3, ai g 5 Rw)]) (Qc := fun A => va_Qi (po_X0_leastCost_f g al a1 a2 a3 M1 M2 Rw x y) (bk g A) A) (cc := cX0_leastCost) (maxL := 6) (ret := (some .int)) (by decide) rfl (Nat.le_of_ble_eq_true rfl) ?_ sz
  intro p e s m below meth c hx hb hr hts hown hlocks hnm hml A hA hE hZ hP hD hS ls hl
  have hown : s.vm.findClass RX0 = some m.cls := hown
  have hl : lv_has ls 6 [(0, .ref al)] := hl
  refine lv_iconst (v := 0) hx hb dX0_leastCost_0 (by decide) ?_
  refine lv_istore_n (lv' := [(1, .int 0), (0, .ref al)]) hx hb dX0_leastCost_1 rfl hl (by decide) rfl (fun ls hl => ?_)
  have loop2 : ∀ (fu : Nat) (j : Nat) (R1 : Nat → Int32), (hj : j ≤ y + 1) → (hR1 : ∀ q, q < j → R1 q = nI (3 * q)) → y + 1 - j < fu → ∀ (H : Heap) (locs : List Loc) (ls : Array Slot), va_P g.1 vwCl [(al, .inr (0, [.ref a1, .ref a2, .int (nI x), .int (nI y), .ref a3])), (a1, ai g 4 M1), (a2, ai g 4 M2), (a3, ai g 5 R1)] H → va_D A [(al, .inr (0, [.ref a1, .ref a2, .int (nI x), .int (nI y), .ref a3])), (a1, ai g 4 M1), (a2, ai g 4 M2), (a3, ai g 5 R1)] → va_S A s.heap H locs → lv_has ls 6 [(0, .ref al), (1, .int (nI j))] → W p l e ({ frames := 1, cells := 0, slots := 0, locals := 21 }) s m [.ref al].toArray below meth c H locs 0 0 (MQ below (va_Qi (po_X0_leastCost_f g al a1 a2 a3 M1 M2 Rw x y) (bk g A) A) [.ref al].toArray s 0 0 A) (F0 m 2 ls []) := by
    intro fu
    induction fu with
    | zero => intro j R1 hj hR1 hfu; exact absurd hfu (Nat.not_lt_zero _)
    | succ fu ih =>
      intro j R1 hj hR1 hfu H locs ls hP hD hS hl
      have ih2 := ih
      refine lv_iload_n hx hb dX0_leastCost_2 rfl (lv_at hl 1 rfl) ?_
      refine lv_aload_n hx hb dX0_leastCost_3 rfl (lv_at hl 0 rfl) ?_
      refine va_get (D := g.1) (ci := 0) (v := .int (nI y)) (C := RX0) (T := TX0) (N := 5) hx hb hts q_X0_leastCost_f_f0 hown hE.1 hP 0 rfl rfl 3 (by decide) (hts (.fieldLink RX0 29 "SoundLaws$Aligner" "secondLength" "I") q_X0_leastCost_f_1) (fun _ h9 => h9) rfl dX0_leastCost_4 ?_
      refine lv_icmp_gt (tgt := 25) hx hb dX0_leastCost_7 (by decide) (fun c7_1 => ?_) (fun c7_1 => ?_)
      · skip
        have hj9 : y < j := (nI_ltI (by omega) (by omega)).mp c7_1
        refine lv_iconst (v := 0) hx hb dX0_leastCost_25 (by decide) ?_
        refine lv_istore_n (lv' := [(1, .int 0), (0, .ref al)]) hx hb dX0_leastCost_26 rfl hl (by decide) rfl (fun ls hl => ?_)
        have loop27 : ∀ (fu : Nat) (i : Nat) (R2 : Nat → Int32), (hi : i ≤ x) → (hR2 : ∀ q, q ≤ y → R2 q = nI (dp M1 M2 i q)) → x - i < fu → ∀ (H : Heap) (locs : List Loc) (ls : Array Slot), va_P g.1 vwCl [(al, .inr (0, [.ref a1, .ref a2, .int (nI x), .int (nI y), .ref a3])), (a1, ai g 4 M1), (a2, ai g 4 M2), (a3, ai g 5 R2)] H → va_D A [(al, .inr (0, [.ref a1, .ref a2, .int (nI x), .int (nI y), .ref a3])), (a1, ai g 4 M1), (a2, ai g 4 M2), (a3, ai g 5 R2)] → va_S A s.heap H locs → lv_has ls 6 [(0, .ref al), (1, .int (nI i))] → W p l e ({ frames := 1, cells := 0, slots := 0, locals := 21 }) s m [.ref al].toArray below meth c H locs 0 0 (MQ below (va_Qi (po_X0_leastCost_f g al a1 a2 a3 M1 M2 Rw x y) (bk g A) A) [.ref al].toArray s 0 0 A) (F0 m 27 ls []) := by
          intro fu
          induction fu with
          | zero => intro i R2 hi hR2 hfu; exact absurd hfu (Nat.not_lt_zero _)
          | succ fu ih =>
            intro i R2 hi hR2 hfu H locs ls hP hD hS hl
            have ih27 := ih
            refine lv_iload_n hx hb dX0_leastCost_27 rfl (lv_at hl 1 rfl) ?_
            refine lv_aload_n hx hb dX0_leastCost_28 rfl (lv_at hl 0 rfl) ?_
            refine va_get (D := g.1) (ci := 0) (v := .int (nI x)) (C := RX0) (T := TX0) (N := 5) hx hb hts q_X0_leastCost_f_f0 hown hE.1 hP 0 rfl rfl 2 (by decide) (hts (.fieldLink RX0 25 "SoundLaws$Aligner" "firstLength" "I") q_X0_leastCost_f_2) (fun _ h9 => h9) rfl dX0_leastCost_29 ?_
            refine lv_icmp_ge (tgt := 136) hx hb dX0_leastCost_32 (by decide) (fun c32_2 => ?_) (fun c32_2 => ?_)
            · skip
              have hi9 := ge_of_le (k := x) (n := i) (by omega) (by omega) c32_2; obtain rfl : i = x := by omega
              refine lv_aload_n hx hb dX0_leastCost_136 rfl (lv_at hl 0 rfl) ?_
              refine va_get (D := g.1) (ci := 0) (v := .ref a3) (C := RX0) (T := TX0) (N := 5) hx hb hts q_X0_leastCost_f_f0 hown hE.1 hP 0 rfl rfl 4 (by decide) (hts (.fieldLink RX0 18 "SoundLaws$Aligner" "row" "[I") q_X0_leastCost_f_3) (fun _ h9 => h9) rfl dX0_leastCost_137 ?_
              refine lv_aload_n hx hb dX0_leastCost_140 rfl (lv_at hl 0 rfl) ?_
              refine va_get (D := g.1) (ci := 0) (v := .int (nI y)) (C := RX0) (T := TX0) (N := 5) hx hb hts q_X0_leastCost_f_f0 hown hE.1 hP 0 rfl rfl 3 (by decide) (hts (.fieldLink RX0 29 "SoundLaws$Aligner" "secondLength" "I") q_X0_leastCost_f_1) (fun _ h9 => h9) rfl dX0_leastCost_141 ?_
              refine k_ald y rfl (by omega) hx hb hE hP 3 rfl (by decide) dX0_leastCost_144 ?_
              refine lv_topi (fun x_3 ex_3 => ?_)
              obtain rfl : x_3 = nI (dp M1 M2 i y) := by rw [ex_3]; exact hR2 y (Nat.le_refl y)
              refine W.widen (k := 0) (n := 0) (Nat.le_of_ble_eq_true rfl) (Nat.le_of_ble_eq_true rfl) ?_
              exact k_ri hx hb hr hlocks hS hP hD ⟨R2, rfl, rfl⟩ dX0_leastCost_145
            · skip
              have hi9 := lt_of_nle (k := x) (n := i) (by omega) (by omega) c32_2
              refine lv_aload_n hx hb dX0_leastCost_35 rfl (lv_at hl 0 rfl) ?_
              refine va_get (D := g.1) (ci := 0) (v := .ref a3) (C := RX0) (T := TX0) (N := 5) hx hb hts q_X0_leastCost_f_f0 hown hE.1 hP 0 rfl rfl 4 (by decide) (hts (.fieldLink RX0 18 "SoundLaws$Aligner" "row" "[I") q_X0_leastCost_f_3) (fun _ h9 => h9) rfl dX0_leastCost_36 ?_
              refine lv_iconst (v := 0) hx hb dX0_leastCost_39 (by decide) ?_
              refine k_ald 0 (by decide) (by decide) hx hb hE hP 3 rfl (by decide) dX0_leastCost_40 ?_
              refine lv_topi (fun x_4 ex_4 => ?_)
              obtain rfl : x_4 = nI (dp M1 M2 i 0) := by rw [ex_4]; exact hR2 0 (Nat.zero_le y)
              refine lv_istore_n (lv' := [(2, .int (nI (dp M1 M2 i 0))), (0, .ref al), (1, .int (nI i))]) hx hb dX0_leastCost_41 rfl hl (by decide) rfl (fun ls hl => ?_)
              refine lv_aload_n hx hb dX0_leastCost_42 rfl (lv_at hl 1 rfl) ?_
              refine va_get (D := g.1) (ci := 0) (v := .ref a3) (C := RX0) (T := TX0) (N := 5) hx hb hts q_X0_leastCost_f_f0 hown hE.1 hP 0 rfl rfl 4 (by decide) (hts (.fieldLink RX0 18 "SoundLaws$Aligner" "row" "[I") q_X0_leastCost_f_3) (fun _ h9 => h9) rfl dX0_leastCost_43 ?_
              refine lv_iconst (v := 0) hx hb dX0_leastCost_46 (by decide) ?_
              refine lv_dup2_11 hx hb dX0_leastCost_47 rfl rfl ?_
              refine k_ald 0 (by decide) (by decide) hx hb hE hP 3 rfl (by decide) dX0_leastCost_48 ?_
              refine lv_topi (fun x_5 ex_5 => ?_)
              obtain rfl : x_5 = nI (dp M1 M2 i 0) := by rw [ex_5]; exact hR2 0 (Nat.zero_le y)
              refine lv_iconst (v := 3) hx hb dX0_leastCost_49 (by decide) ?_
              refine lv_iadd hx hb dX0_leastCost_50 ?_
              refine lv_topi (fun x_6 ex_6 => ?_)
              obtain rfl : x_6 = nI (dp M1 M2 (i + 1) 0) := by rw [ex_6]; rw [show (3 : Int32) = nI 3 from rfl, nI_add, dp_0s]
              refine k_ast (x := (nI (dp M1 M2 (i + 1) 0))) 0 (by decide) (by decide) hx hb hE hP hD hS 3 rfl (by decide) dX0_leastCost_51 (fun H locs hP hD hS => ?_)
              have hP : va_P g.1 vwCl [(al, .inr (0, [.ref a1, .ref a2, .int (nI x), .int (nI y), .ref a3])), (a1, ai g 4 M1), (a2, ai g 4 M2), (a3, ai g 5 (upd R2 0 (nI (dp M1 M2 (i + 1) 0))))] H := hP
              have hD : va_D A [(al, .inr (0, [.ref a1, .ref a2, .int (nI x), .int (nI y), .ref a3])), (a1, ai g 4 M1), (a2, ai g 4 M2), (a3, ai g 5 (upd R2 0 (nI (dp M1 M2 (i + 1) 0))))] := hD
              refine lv_iconst (v := 1) hx hb dX0_leastCost_52 (by decide) ?_
              refine lv_istore_n (lv' := [(3, .int 1), (2, .int (nI (dp M1 M2 i 0))), (0, .ref al), (1, .int (nI i))]) hx hb dX0_leastCost_53 rfl hl (by decide) rfl (fun ls hl => ?_)
              have loop54 : ∀ (fu : Nat) (k : Nat) (R3 : Nat → Int32), (hk : k ≤ y + 1) → (hk1 : 1 ≤ k) → (hA3 : ∀ q, q < k → R3 q = nI (dp M1 M2 (i + 1) q)) → (hB3 : ∀ q, k ≤ q → q ≤ y → R3 q = nI (dp M1 M2 i q)) → y + 1 - k < fu → ∀ (H : Heap) (locs : List Loc) (ls : Array Slot), va_P g.1 vwCl [(al, .inr (0, [.ref a1, .ref a2, .int (nI x), .int (nI y), .ref a3])), (a1, ai g 4 M1), (a2, ai g 4 M2), (a3, ai g 5 R3)] H → va_D A [(al, .inr (0, [.ref a1, .ref a2, .int (nI x), .int (nI y), .ref a3])), (a1, ai g 4 M1), (a2, ai g 4 M2), (a3, ai g 5 R3)] → va_S A s.heap H locs → lv_has ls 6 [(0, .ref al), (1, .int (nI i)), (2, .int (nI (dp M1 M2 i (k - 1)))), (3, .int (nI k))] → W p l e ({ frames := 1, cells := 0, slots := 0, locals := 21 }) s m [.ref al].toArray below meth c H locs 0 0 (MQ below (va_Qi (po_X0_leastCost_f g al a1 a2 a3 M1 M2 Rw x y) (bk g A) A) [.ref al].toArray s 0 0 A) (F0 m 54 ls []) := by
                intro fu
                induction fu with
                | zero => intro k R3 hk hk1 hA3 hB3 hfu; exact absurd hfu (Nat.not_lt_zero _)
                | succ fu ih =>
                  intro k R3 hk hk1 hA3 hB3 hfu H locs ls hP hD hS hl
                  have ih54 := ih
                  refine lv_iload_n hx hb dX0_leastCost_54 rfl (lv_at hl 3 rfl) ?_
                  refine lv_aload_n hx hb dX0_leastCost_55 rfl (lv_at hl 0 rfl) ?_
                  refine va_get (D := g.1) (ci := 0) (v := .int (nI y)) (C := RX0) (T := TX0) (N := 5) hx hb hts q_X0_leastCost_f_f0 hown hE.1 hP 0 rfl rfl 3 (by decide) (hts (.fieldLink RX0 29 "SoundLaws$Aligner" "secondLength" "I") q_X0_leastCost_f_1) (fun _ h9 => h9) rfl dX0_leastCost_56 ?_
                  refine lv_icmp_gt (tgt := 130) hx hb dX0_leastCost_59 (by decide) (fun c59_7 => ?_) (fun c59_7 => ?_)
                  · skip
                    have hk9 : y < k := (nI_ltI (by omega) (by omega)).mp c59_7
                    refine lv_iinc (v := (nI (i + 1))) (lv' := [(1, .int (nI (i + 1))), (0, .ref al), (2, .int (nI (dp M1 M2 i (k - 1)))), (3, .int (nI k))]) hx hb dX0_leastCost_130 hl (k := 1) rfl (nI_1 _) (by decide) rfl (fun ls hl => ?_)
                    refine lv_goto (tgt := 27) hx hb dX0_leastCost_133 (by decide) ?_
                    exact ih27 (i + 1) _ (by omega) (fun q hq => hA3 q (by omega)) (by omega) _ _ _ hP hD hS (lv_sub hl [1, 0] rfl)
                  · skip
                    have hk9 : k ≤ y := Nat.not_lt.mp (fun q => c59_7 (nI_lt q (by omega)))
                    refine lv_iload_n hx hb dX0_leastCost_62 rfl (lv_at hl 2 rfl) ?_
                    refine lv_aload_n hx hb dX0_leastCost_63 rfl (lv_at hl 0 rfl) ?_
                    refine va_get (D := g.1) (ci := 0) (v := .ref a1) (C := RX0) (T := TX0) (N := 5) hx hb hts q_X0_leastCost_f_f0 hown hE.1 hP 0 rfl rfl 0 (by decide) (hts (.fieldLink RX0 9 "SoundLaws$Aligner" "first" "[I") q_X0_leastCost_f_4) (fun _ h9 => h9) rfl dX0_leastCost_64 ?_
                    refine lv_iload_n hx hb dX0_leastCost_67 rfl (lv_at hl 1 rfl) ?_
                    refine k_ald i rfl (by omega) hx hb hE hP 1 rfl (by decide) dX0_leastCost_68 ?_
                    obtain ⟨m1, hm1, em1⟩ := hM1 i hi9
                    have es1 : sN M1 i = m1 := by unfold sN; rw [em1, nI_clamp (by omega)]
                    refine lv_topi (fun x_8 ex_8 => ?_)
                    obtain rfl : x_8 = nI m1 := by rw [ex_8]; exact em1
                    refine lv_aload_n hx hb dX0_leastCost_69 rfl (lv_at hl 0 rfl) ?_
                    refine va_get (D := g.1) (ci := 0) (v := .ref a2) (C := RX0) (T := TX0) (N := 5) hx hb hts q_X0_leastCost_f_f0 hown hE.1 hP 0 rfl rfl 1 (by decide) (hts (.fieldLink RX0 15 "SoundLaws$Aligner" "second" "[I") q_X0_leastCost_f_5) (fun _ h9 => h9) rfl dX0_leastCost_70 ?_
                    refine lv_iload_n hx hb dX0_leastCost_73 rfl (lv_at hl 3 rfl) ?_
                    refine lv_iconst (v := 1) hx hb dX0_leastCost_74 (by decide) ?_
                    refine lv_isub hx hb dX0_leastCost_75 ?_
                    refine lv_topi (fun x_9 ex_9 => ?_)
                    obtain rfl : x_9 = nI (k - 1) := by rw [ex_9]; exact pk_sub (b := 1) hk1
                    refine k_ald (k - 1) rfl (by omega) hx hb hE hP 2 rfl (by decide) dX0_leastCost_76 ?_
                    obtain ⟨m2, hm2, em2⟩ := hM2 (k - 1) (by omega)
                    have es2 : sN M2 (k - 1) = m2 := by unfold sN; rw [em2, nI_clamp (by omega)]
                    refine lv_topi (fun x_10 ex_10 => ?_)
                    obtain rfl : x_10 = nI m2 := by rw [ex_10]; exact em2
                    have hd1 := dp_le (M := M1) (W := M2) i (k - 1)
                    have hd2 := dp_le (M := M1) (W := M2) i k
                    have hd3 := dp_le (M := M1) (W := M2) (i + 1) (k - 1)
                    obtain ⟨ec, hc3⟩ := csN_cs m1 hm1 m2 hm2
                    refine k_ci (wr := [(al, .inr (0, [.ref a1, .ref a2, .int (nI x), .int (nI y), .ref a3])), (a1, ai g 4 M1), (a2, ai g 4 M2), (a3, ai g 5 R3)]) hP hD hS hA [] [0, 1, 2, 3] rfl rfl (by decide) (by decide) (va_runSN (As := [.int (nI m1), .int (nI m2)]) (rest := [.int (nI (dp M1 M2 i (k - 1)))]) ⟨hx, hb, hml, hown, hts⟩ (c_X8_costOf_g l g m1 m2 (by first | assumption | omega) (by first | assumption | omega) H.size) ⟨va_cnB 2 hts gX0_leastCost_X8_costOf_n32 rfl rfl rfl (hE.nw 25 rfl) (hts (.initialized RX8) q_X0_leastCost_f_6) (by decide +kernel) ⟨Nat.le_of_ble_eq_true rfl, Nat.le_of_ble_eq_true rfl⟩, (hts (.static yX8_costOf) q_X0_leastCost_f_7), trivial⟩ (k_preS hE hZ hP hD hS hA [] rfl (by decide)) rfl rfl hl.1 rfl (lv_room (Nat.le_of_ble_eq_true rfl)) dX0_leastCost_77 ⟨Nat.le_of_ble_eq_true rfl, Nat.le_of_ble_eq_true rfl⟩) (fun r_11 w1 H locs hw hP hD hS => ?_)
                    obtain ⟨rfl, rfl⟩ := hw
                    have hP : va_P g.1 vwCl [(al, .inr (0, [.ref a1, .ref a2, .int (nI x), .int (nI y), .ref a3])), (a1, ai g 4 M1), (a2, ai g 4 M2), (a3, ai g 5 R3)] H := hP
                    have hD : va_D A [(al, .inr (0, [.ref a1, .ref a2, .int (nI x), .int (nI y), .ref a3])), (a1, ai g 4 M1), (a2, ai g 4 M2), (a3, ai g 5 R3)] := hD
                    refine lv_iadd hx hb dX0_leastCost_80 ?_
                    refine lv_topi (fun x_13 ex_13 => ?_)
                    obtain rfl : x_13 = nI (dp M1 M2 i (k - 1) + csN m1 m2) := by rw [ex_13]; rw [ec, nI_add]
                    refine lv_istore (lv' := [(4, .int (nI (dp M1 M2 i (k - 1) + csN m1 m2))), (0, .ref al), (1, .int (nI i)), (2, .int (nI (dp M1 M2 i (k - 1)))), (3, .int (nI k))]) hx hb dX0_leastCost_81 hl (by decide) rfl (fun ls hl => ?_)
                    refine lv_aload_n hx hb dX0_leastCost_83 rfl (lv_at hl 1 rfl) ?_
                    refine va_get (D := g.1) (ci := 0) (v := .ref a3) (C := RX0) (T := TX0) (N := 5) hx hb hts q_X0_leastCost_f_f0 hown hE.1 hP 0 rfl rfl 4 (by decide) (hts (.fieldLink RX0 18 "SoundLaws$Aligner" "row" "[I") q_X0_leastCost_f_3) (fun _ h9 => h9) rfl dX0_leastCost_84 ?_
                    refine lv_iload_n hx hb dX0_leastCost_87 rfl (lv_at hl 4 rfl) ?_
                    refine k_ald k rfl (by omega) hx hb hE hP 3 rfl (by decide) dX0_leastCost_88 ?_
                    refine lv_topi (fun x_14 ex_14 => ?_)
                    obtain rfl : x_14 = nI (dp M1 M2 i k) := by rw [ex_14]; exact hB3 k (Nat.le_refl k) hk9
                    refine lv_aload_n hx hb dX0_leastCost_89 rfl (lv_at hl 1 rfl) ?_
                    refine va_get (D := g.1) (ci := 0) (v := .ref a3) (C := RX0) (T := TX0) (N := 5) hx hb hts q_X0_leastCost_f_f0 hown hE.1 hP 0 rfl rfl 4 (by decide) (hts (.fieldLink RX0 18 "SoundLaws$Aligner" "row" "[I") q_X0_leastCost_f_3) (fun _ h9 => h9) rfl dX0_leastCost_90 ?_
                    refine lv_iload_n hx hb dX0_leastCost_93 rfl (lv_at hl 4 rfl) ?_
                    refine lv_iconst (v := 1) hx hb dX0_leastCost_94 (by decide) ?_
                    refine lv_isub hx hb dX0_leastCost_95 ?_
                    refine lv_topi (fun x_15 ex_15 => ?_)
                    obtain rfl : x_15 = nI (k - 1) := by rw [ex_15]; exact pk_sub (b := 1) hk1
                    refine k_ald (k - 1) rfl (by omega) hx hb hE hP 3 rfl (by decide) dX0_leastCost_96 ?_
                    refine lv_topi (fun x_16 ex_16 => ?_)
                    obtain rfl : x_16 = nI (dp M1 M2 (i + 1) (k - 1)) := by rw [ex_16]; exact hA3 (k - 1) (by omega)
                    refine va_mmin hx hb (by rw [hml]; exact hl.1.symm) hown (hts (.methodLink RX0 36 Lib.Math.min.name) q_X0_leastCost_f_8) (hts (.static Lib.Math.min.name) q_X0_leastCost_f_9) (hts (.initialized "java/lang/Math") q_X0_leastCost_f_10) (hts (.code Lib.Math.min.name Lib.Math.min.code 2 (some .int)) q_X0_leastCost_f_11) (Nat.le_of_ble_eq_true rfl) (Nat.le_of_ble_eq_true rfl) (Nat.le_of_ble_eq_true rfl) (Nat.le_of_ble_eq_true rfl) dX0_leastCost_97 ?_
                    refine lv_iconst (v := 3) hx hb dX0_leastCost_100 (by decide) ?_
                    refine lv_iadd hx hb dX0_leastCost_101 ?_
                    refine lv_topi (fun x_17 ex_17 => ?_)
                    obtain rfl : x_17 = nI (min (dp M1 M2 i k) (dp M1 M2 (i + 1) (k - 1)) + 3) := by rw [ex_17]; rw [mi_nI (by omega) (by omega), show (3 : Int32) = nI 3 from rfl, nI_add]
                    refine lv_istore (lv' := [(5, .int (nI (min (dp M1 M2 i k) (dp M1 M2 (i + 1) (k - 1)) + 3))), (4, .int (nI (dp M1 M2 i (k - 1) + csN m1 m2))), (0, .ref al), (1, .int (nI i)), (2, .int (nI (dp M1 M2 i (k - 1)))), (3, .int (nI k))]) hx hb dX0_leastCost_102 hl (by decide) rfl (fun ls hl => ?_)
                    refine lv_aload_n hx hb dX0_leastCost_104 rfl (lv_at hl 2 rfl) ?_
                    refine va_get (D := g.1) (ci := 0) (v := .ref a3) (C := RX0) (T := TX0) (N := 5) hx hb hts q_X0_leastCost_f_f0 hown hE.1 hP 0 rfl rfl 4 (by decide) (hts (.fieldLink RX0 18 "SoundLaws$Aligner" "row" "[I") q_X0_leastCost_f_3) (fun _ h9 => h9) rfl dX0_leastCost_105 ?_
                    refine lv_iload_n hx hb dX0_leastCost_108 rfl (lv_at hl 5 rfl) ?_
                    refine k_ald k rfl (by omega) hx hb hE hP 3 rfl (by decide) dX0_leastCost_109 ?_
                    refine lv_topi (fun x_18 ex_18 => ?_)
                    obtain rfl : x_18 = nI (dp M1 M2 i k) := by rw [ex_18]; exact hB3 k (Nat.le_refl k) hk9
                    refine lv_istore_n (lv' := [(2, .int (nI (dp M1 M2 i k))), (5, .int (nI (min (dp M1 M2 i k) (dp M1 M2 (i + 1) (k - 1)) + 3))), (4, .int (nI (dp M1 M2 i (k - 1) + csN m1 m2))), (0, .ref al), (1, .int (nI i)), (3, .int (nI k))]) hx hb dX0_leastCost_110 rfl hl (by decide) rfl (fun ls hl => ?_)
                    refine lv_aload_n hx hb dX0_leastCost_111 rfl (lv_at hl 3 rfl) ?_
                    refine va_get (D := g.1) (ci := 0) (v := .ref a3) (C := RX0) (T := TX0) (N := 5) hx hb hts q_X0_leastCost_f_f0 hown hE.1 hP 0 rfl rfl 4 (by decide) (hts (.fieldLink RX0 18 "SoundLaws$Aligner" "row" "[I") q_X0_leastCost_f_3) (fun _ h9 => h9) rfl dX0_leastCost_112 ?_
                    refine lv_iload_n hx hb dX0_leastCost_115 rfl (lv_at hl 5 rfl) ?_
                    refine lv_iload hx hb dX0_leastCost_116 (lv_at hl 2 rfl) ?_
                    refine lv_iload hx hb dX0_leastCost_118 (lv_at hl 1 rfl) ?_
                    refine va_mmin hx hb (by rw [hml]; exact hl.1.symm) hown (hts (.methodLink RX0 36 Lib.Math.min.name) q_X0_leastCost_f_8) (hts (.static Lib.Math.min.name) q_X0_leastCost_f_9) (hts (.initialized "java/lang/Math") q_X0_leastCost_f_10) (hts (.code Lib.Math.min.name Lib.Math.min.code 2 (some .int)) q_X0_leastCost_f_11) (Nat.le_of_ble_eq_true rfl) (Nat.le_of_ble_eq_true rfl) (Nat.le_of_ble_eq_true rfl) (Nat.le_of_ble_eq_true rfl) dX0_leastCost_120 ?_
                    refine lv_topi (fun x_19 ex_19 => ?_)
                    obtain rfl : x_19 = nI (dp M1 M2 (i + 1) k) := by rw [ex_19]; rw [mi_nI (by omega) (by omega), dp_s hk1, es1, es2]
                    refine k_ast (x := (nI (dp M1 M2 (i + 1) k))) k rfl (by omega) hx hb hE hP hD hS 3 rfl (by decide) dX0_leastCost_123 (fun H locs hP hD hS => ?_)
                    have hP : va_P g.1 vwCl [(al, .inr (0, [.ref a1, .ref a2, .int (nI x), .int (nI y), .ref a3])), (a1, ai g 4 M1), (a2, ai g 4 M2), (a3, ai g 5 (upd R3 k (nI (dp M1 M2 (i + 1) k))))] H := hP
                    have hD : va_D A [(al, .inr (0, [.ref a1, .ref a2, .int (nI x), .int (nI y), .ref a3])), (a1, ai g 4 M1), (a2, ai g 4 M2), (a3, ai g 5 (upd R3 k (nI (dp M1 M2 (i + 1) k))))] := hD
                    refine lv_iinc (v := (nI (k + 1))) (lv' := [(3, .int (nI (k + 1))), (2, .int (nI (dp M1 M2 i k))), (5, .int (nI (min (dp M1 M2 i k) (dp M1 M2 (i + 1) (k - 1)) + 3))), (4, .int (nI (dp M1 M2 i (k - 1) + csN m1 m2))), (0, .ref al), (1, .int (nI i))]) hx hb dX0_leastCost_124 hl (k := 5) rfl (nI_1 _) (by decide) rfl (fun ls hl => ?_)
                    refine lv_goto (tgt := 54) hx hb dX0_leastCost_127 (by decide) ?_
                    exact ih54 (k + 1) _ (by omega) (by omega) (up_n2 hA3) (fun q h1 h2 => by rw [pk_un (by omega)]; exact hB3 q (by omega) h2) (by omega) _ _ _ hP hD hS (lv_sub hl [4, 5, 1, 0] rfl)
              exact loop54 _ 1 _ (by omega) (Nat.le_refl 1) up_1 (fun q h1 h2 => by rw [pk_un (by omega)]; exact hR2 q h2) (Nat.lt_succ_self _) _ _ _ hP hD hS (lv_sub hl [2, 3, 1, 0] rfl)
        exact loop27 _ 0 R1 (Nat.zero_le x) (fun q hq => by rw [hR1 q (by omega)]; simp only [dp]) (Nat.lt_succ_self _) _ _ _ hP hD hS (lv_sub hl [1, 0] rfl)
      · skip
        have hj9 : j ≤ y := Nat.not_lt.mp (fun q => c7_1 (nI_lt q (by omega)))
        refine lv_aload_n hx hb dX0_leastCost_10 rfl (lv_at hl 0 rfl) ?_
        refine va_get (D := g.1) (ci := 0) (v := .ref a3) (C := RX0) (T := TX0) (N := 5) hx hb hts q_X0_leastCost_f_f0 hown hE.1 hP 0 rfl rfl 4 (by decide) (hts (.fieldLink RX0 18 "SoundLaws$Aligner" "row" "[I") q_X0_leastCost_f_3) (fun _ h9 => h9) rfl dX0_leastCost_11 ?_
        refine lv_iload_n hx hb dX0_leastCost_14 rfl (lv_at hl 1 rfl) ?_
        refine lv_iload_n hx hb dX0_leastCost_15 rfl (lv_at hl 1 rfl) ?_
        refine lv_iconst (v := 3) hx hb dX0_leastCost_16 (by decide) ?_
        refine lv_imul hx hb dX0_leastCost_17 ?_
        refine lv_topi (fun x_20 ex_20 => ?_)
        obtain rfl : x_20 = nI (3 * j) := by rw [ex_20]; rw [show (3 : Int32) = nI 3 from rfl, pk_mul, Nat.mul_comm]
        refine k_ast (x := (nI (3 * j))) j rfl (by omega) hx hb hE hP hD hS 3 rfl (by decide) dX0_leastCost_18 (fun H locs hP hD hS => ?_)
        have hP : va_P g.1 vwCl [(al, .inr (0, [.ref a1, .ref a2, .int (nI x), .int (nI y), .ref a3])), (a1, ai g 4 M1), (a2, ai g 4 M2), (a3, ai g 5 (upd R1 j (nI (3 * j))))] H := hP
        have hD : va_D A [(al, .inr (0, [.ref a1, .ref a2, .int (nI x), .int (nI y), .ref a3])), (a1, ai g 4 M1), (a2, ai g 4 M2), (a3, ai g 5 (upd R1 j (nI (3 * j))))] := hD
        refine lv_iinc (v := (nI (j + 1))) (lv' := [(1, .int (nI (j + 1))), (0, .ref al)]) hx hb dX0_leastCost_19 hl (k := 1) rfl (nI_1 _) (by decide) rfl (fun ls hl => ?_)
        refine lv_goto (tgt := 2) hx hb dX0_leastCost_22 (by decide) ?_
        exact ih2 (j + 1) _ (by omega) (up_n hR1) (by omega) _ _ _ hP hD hS (lv_sub hl [1, 0] rfl)
  exact loop2 _ 0 Rw (Nat.zero_le _) (fun q hq => absurd hq (Nat.not_lt_zero q)) (Nat.lt_succ_self _) _ _ _ hP hD hS (lv_sub hl [1, 0] rfl)
def po_X8_line_f (g : GG) (h0 : Nat) (pg : Nat) (rd : Nat) (si : Nat) (sy : Nat) (ks : Nat) (ki : Nat) (dr : Nat) (le : Int32) (re : Int32) (kp : Int32) (sd : Int32) (sk : Nat) (s1 : Nat) (s2 : Nat) (s3 : Nat) (z : Nat) (t : Nat) (K : Nat → Int32) (L : Nat → Int32) (V : Nat → Int32) (al : Nat) (a1 : Nat) (a2 : Nat) (a3 : Nat) (fl1 : Int32) (fl2 : Int32) (M1 : Nat → Int32) (M2 : Nat → Int32) (Rw : Nat → Int32) (p1 : Int32) (p2 : Int32) (p3 : Int32) (p4 : Int32) : Int32 → va_W → Prop := fun (r : Int32) w => ∃ (g1 : Int32) (g2 : Int32) (N1 : Nat → Int32) (N2 : Nat → Int32) (Rx : Nat → Int32), w = [(h0, .inr (8, [.ref pg, .int le, .ref rd, .int re, .ref sk, .ref si, .ref sy, .int sd, .ref ks, .ref ki, .int kp, .ref al, .ref dr])), (sk, .inr (5, [.int (nI z), .int (nI t), .ref s1, .ref s2, .ref s3])), (s1, ai g 6 K), (s2, ai g 6 L), (s3, ai g 96 V), (al, .inr (0, [.ref a1, .ref a2, .int g1, .int g2, .ref a3])), (a1, ai g 4 N1), (a2, ai g 4 N2), (a3, ai g 5 Rx)] ∧ (lnr p1 p2 p3 p4 z t L V = r) ∧ (rng 4 9 N1) ∧ (rng 4 9 N2)
theorem q_X8_line_f_f8 : ∀ w ∈ u_ws RX8 TX8 13, w ∈ wsX8_line := by decide +kernel
theorem q_X8_line_f_1 : (Cond.fieldLink RX8 50 "SoundLaws" "aligner" "LSoundLaws$Aligner;") ∈ wsX8_line := by decide +kernel
theorem q_X8_line_f_2 : (Cond.fieldLink RX8 23 "SoundLaws" "stock" "LSoundLaws$Stock;") ∈ wsX8_line := by decide +kernel
theorem q_X8_line_f_f5 : ∀ w ∈ u_ws RX5 TX5 5, w ∈ wsX8_line := by decide +kernel
theorem q_X8_line_f_4 : (Cond.fieldLink RX8 162 "SoundLaws$Stock" "words" "[I") ∈ wsX8_line := by decide +kernel
theorem q_X8_line_f_5 : (Cond.fieldLink RX8 168 "SoundLaws$Stock" "lengths" "[I") ∈ wsX8_line := by decide +kernel
set_option maxHeartbeats 1500000 in
set_option maxRecDepth 100000 in
theorem c_X8_line_f (l : Launch) (g : GG) (h0 : Nat) (pg : Nat) (rd : Nat) (si : Nat) (sy : Nat) (ks : Nat) (ki : Nat) (dr : Nat) (le : Int32) (re : Int32) (kp : Int32) (sd : Int32) (sk : Nat) (s1 : Nat) (s2 : Nat) (s3 : Nat) (z : Nat) (t : Nat) (K : Nat → Int32) (L : Nat → Int32) (V : Nat → Int32) (al : Nat) (a1 : Nat) (a2 : Nat) (a3 : Nat) (fl1 : Int32) (fl2 : Int32) (M1 : Nat → Int32) (M2 : Nat → Int32) (Rw : Nat → Int32) (p1 : Int32) (p2 : Int32) (p3 : Int32) (p4 : Int32) (hz : z ≤ 6) (hzt : 0 < z → 2 ≤ t) (ht4 : t ≤ 4) (hL : rng 6 5 L) (hV : rng 96 9 V) (hM1 : rng 4 9 M1) (hM2 : rng 4 9 M2) (sz : Nat) : MetI l yX8_line wsX8_line ({ frames := 2, cells := 0, slots := 0, locals := 49 }) g [.ref h0, .int p1, .int p2, .int p3, .int p4] [(h0, .inr (8, [.ref pg, .int le, .ref rd, .int re, .ref sk, .ref si, .ref sy, .int sd, .ref ks, .ref ki, .int kp, .ref al, .ref dr])), (sk, .inr (5, [.int (nI z), .int (nI t), .ref s1, .ref s2, .ref s3])), (s1, ai g 6 K), (s2, ai g 6 L), (s3, ai g 96 V), (al, .inr (0, [.ref a1, .ref a2, .int fl1, .int fl2, .ref a3])), (a1, ai g 4 M1), (a2, ai g 4 M2), (a3, ai g 5 Rw)] sz (po_X8_line_f g h0 pg rd si sy ks ki dr le re kp sd sk s1 s2 s3 z t K L V al a1 a2 a3 fl1 fl2 M1 M2 Rw p1 p2 p3 p4) 0 0 := by
  refine k_of (l := l) (y := yX8_line) (ws := wsX8_line) (rm := { frames := 2, cells := 0, slots := 0, locals := 49 }) (mc := 0) (ms := 0) (av := [.ref h0, .int p1, .int p2, .int p3, .int p4]) (g := g) (wc := [(h0, .inr (8, [.ref pg, .int le, .ref rd, .int re, .ref sk, .ref si, .ref sy, .int sd, .ref ks, .ref ki, .int kp, .ref al, .ref dr])), (sk, .inr (5, [.int (nI z), .int (nI t), .ref s1, .ref s2, .ref s3])), (s1, ai g 6 K), (s2, ai g 6 L), (s3, ai g 96 V), (al, .inr (0, [.ref a1, .ref a2, .int fl1, .int fl2, .ref a3])), (a1, ai g 4 M1), (a2, ai g 4 M2), (a3, ai g 5 Rw)]) (Qc := fun A => va_Qi (po_X8_line_f g h0 pg rd si sy ks ki dr le re kp sd sk s1 s2 s3 z t K L V al a1 a2 a3 fl1 fl2 M1 M2 Rw p1 p2 p3 p4) (bk g A) A) (cc := cX8_line) (maxL := 5) (ret := (some .int)) (by decide) rfl (Nat.le_of_ble_eq_true rfl) ?_ sz
  intro p e s m below meth c hx hb hr hts hown hlocks hnm hml A hA hE hZ hP hD hS ls hl
  have hown : s.vm.findClass RX8 = some m.cls := hown
  have hl : lv_has ls 5 [(0, .ref h0), (1, .int p1), (2, .int p2), (3, .int p3), (4, .int p4)] := hl
  refine lv_aload_n hx hb dX8_line_0 rfl (lv_at hl 0 rfl) ?_
  refine lv_iload_n hx hb dX8_line_1 rfl (lv_at hl 1 rfl) ?_
  refine k_ci (wr := [(s1, ai g 6 K), (s2, ai g 6 L), (s3, ai g 96 V), (al, .inr (0, [.ref a1, .ref a2, .int fl1, .int fl2, .ref a3])), (a1, ai g 4 M1), (a2, ai g 4 M2), (a3, ai g 5 Rw)]) hP hD hS hA [0, 1] [2, 3, 4, 5, 6, 7, 8] rfl rfl (by decide) (by decide) (va_runV (As := [.int p1]) (rest := []) ⟨hx, hb, hml, hown, hts⟩ (c_X8_isSet_g l g h0 pg rd si sy ks ki al dr le re sd kp sk s1 s2 s3 z t p1  s.heap.size) (cwV 1 hts gX8_line_X8_isSet rfl rfl rfl (by decide +kernel) ⟨Nat.le_of_ble_eq_true rfl, Nat.le_of_ble_eq_true rfl⟩) (k_preV hE hZ hP hD hS hA [0, 1] rfl (by decide) (va_recv hE.1 hP (ci := 8) (q0 := 0) rfl rfl)) rfl rfl hl.1 rfl (lv_room (Nat.le_of_ble_eq_true rfl)) dX8_line_2 ⟨Nat.le_of_ble_eq_true rfl, Nat.le_of_ble_eq_true rfl⟩) (fun r_1 w1 H locs hw hP hD hS => ?_)
  obtain ⟨rfl, rfl⟩ := hw
  have hP : va_P g.1 vwCl [(s1, ai g 6 K), (s2, ai g 6 L), (s3, ai g 96 V), (al, .inr (0, [.ref a1, .ref a2, .int fl1, .int fl2, .ref a3])), (a1, ai g 4 M1), (a2, ai g 4 M2), (a3, ai g 5 Rw), (h0, .inr (8, [.ref pg, .int le, .ref rd, .int re, .ref sk, .ref si, .ref sy, .int sd, .ref ks, .ref ki, .int kp, .ref al, .ref dr])), (sk, .inr (5, [.int (nI z), .int (nI t), .ref s1, .ref s2, .ref s3]))] H := hP
  have hD : va_D A [(s1, ai g 6 K), (s2, ai g 6 L), (s3, ai g 96 V), (al, .inr (0, [.ref a1, .ref a2, .int fl1, .int fl2, .ref a3])), (a1, ai g 4 M1), (a2, ai g 4 M2), (a3, ai g 5 Rw), (h0, .inr (8, [.ref pg, .int le, .ref rd, .int re, .ref sk, .ref si, .ref sy, .int sd, .ref ks, .ref ki, .int kp, .ref al, .ref dr])), (sk, .inr (5, [.int (nI z), .int (nI t), .ref s1, .ref s2, .ref s3]))] := hD
  refine lv_if_eq (tgt := 33) hx hb dX8_line_5 (by decide) (fun c5_3 => ?_) (fun c5_3 => ?_)
  · skip
    refine lv_bipush (v := (-101)) hx hb dX8_line_33 (by decide) ?_
    refine W.widen (k := 0) (n := 0) (Nat.le_of_ble_eq_true rfl) (Nat.le_of_ble_eq_true rfl) ?_
    have hP9 := hP.sub (ws' := [(h0, .inr (8, [.ref pg, .int le, .ref rd, .int re, .ref sk, .ref si, .ref sy, .int sd, .ref ks, .ref ki, .int kp, .ref al, .ref dr])), (sk, .inr (5, [.int (nI z), .int (nI t), .ref s1, .ref s2, .ref s3])), (s1, ai g 6 K), (s2, ai g 6 L), (s3, ai g 96 V), (al, .inr (0, [.ref a1, .ref a2, .int fl1, .int fl2, .ref a3])), (a1, ai g 4 M1), (a2, ai g 4 M2), (a3, ai g 5 Rw)]) [7, 8, 0, 1, 2, 3, 4, 5, 6] rfl
    have hD9 := hD.sub (ws' := [(h0, .inr (8, [.ref pg, .int le, .ref rd, .int re, .ref sk, .ref si, .ref sy, .int sd, .ref ks, .ref ki, .int kp, .ref al, .ref dr])), (sk, .inr (5, [.int (nI z), .int (nI t), .ref s1, .ref s2, .ref s3])), (s1, ai g 6 K), (s2, ai g 6 L), (s3, ai g 96 V), (al, .inr (0, [.ref a1, .ref a2, .int fl1, .int fl2, .ref a3])), (a1, ai g 4 M1), (a2, ai g 4 M2), (a3, ai g 5 Rw)]) [7, 8, 0, 1, 2, 3, 4, 5, 6] (by decide) rfl
    exact k_ri hx hb hr hlocks hS hP9 hD9 ⟨fl1, fl2, M1, M2, Rw, rfl, (lnr_u (Or.inl c5_3)), hM1, hM2⟩ dX8_line_35
  · skip
    refine lv_aload_n hx hb dX8_line_8 rfl (lv_at hl 0 rfl) ?_
    refine lv_iload_n hx hb dX8_line_9 rfl (lv_at hl 2 rfl) ?_
    refine k_ci (wr := [(s1, ai g 6 K), (s2, ai g 6 L), (s3, ai g 96 V), (al, .inr (0, [.ref a1, .ref a2, .int fl1, .int fl2, .ref a3])), (a1, ai g 4 M1), (a2, ai g 4 M2), (a3, ai g 5 Rw)]) hP hD hS hA [7, 8] [0, 1, 2, 3, 4, 5, 6] rfl rfl (by decide) (by decide) (va_runV (As := [.int p2]) (rest := []) ⟨hx, hb, hml, hown, hts⟩ (c_X8_isTongue_g l g h0 pg rd si sy ks ki al dr le re sd kp sk s1 s2 s3 z t p2  H.size) (cwV 1 hts gX8_line_X8_isTongue rfl rfl rfl (by decide +kernel) ⟨Nat.le_of_ble_eq_true rfl, Nat.le_of_ble_eq_true rfl⟩) (k_preV hE hZ hP hD hS hA [7, 8] rfl (by decide) (va_recv hE.1 hP (ci := 8) (q0 := 7) rfl rfl)) rfl rfl hl.1 rfl (lv_room (Nat.le_of_ble_eq_true rfl)) dX8_line_10 ⟨Nat.le_of_ble_eq_true rfl, Nat.le_of_ble_eq_true rfl⟩) (fun r_4 w1 H locs hw hP hD hS => ?_)
    obtain ⟨rfl, rfl⟩ := hw
    have hP : va_P g.1 vwCl [(s1, ai g 6 K), (s2, ai g 6 L), (s3, ai g 96 V), (al, .inr (0, [.ref a1, .ref a2, .int fl1, .int fl2, .ref a3])), (a1, ai g 4 M1), (a2, ai g 4 M2), (a3, ai g 5 Rw), (h0, .inr (8, [.ref pg, .int le, .ref rd, .int re, .ref sk, .ref si, .ref sy, .int sd, .ref ks, .ref ki, .int kp, .ref al, .ref dr])), (sk, .inr (5, [.int (nI z), .int (nI t), .ref s1, .ref s2, .ref s3]))] H := hP
    have hD : va_D A [(s1, ai g 6 K), (s2, ai g 6 L), (s3, ai g 96 V), (al, .inr (0, [.ref a1, .ref a2, .int fl1, .int fl2, .ref a3])), (a1, ai g 4 M1), (a2, ai g 4 M2), (a3, ai g 5 Rw), (h0, .inr (8, [.ref pg, .int le, .ref rd, .int re, .ref sk, .ref si, .ref sy, .int sd, .ref ks, .ref ki, .int kp, .ref al, .ref dr])), (sk, .inr (5, [.int (nI z), .int (nI t), .ref s1, .ref s2, .ref s3]))] := hD
    refine lv_if_eq (tgt := 33) hx hb dX8_line_13 (by decide) (fun c13_6 => ?_) (fun c13_6 => ?_)
    · skip
      refine lv_bipush (v := (-101)) hx hb dX8_line_33 (by decide) ?_
      refine W.widen (k := 0) (n := 0) (Nat.le_of_ble_eq_true rfl) (Nat.le_of_ble_eq_true rfl) ?_
      have hP9 := hP.sub (ws' := [(h0, .inr (8, [.ref pg, .int le, .ref rd, .int re, .ref sk, .ref si, .ref sy, .int sd, .ref ks, .ref ki, .int kp, .ref al, .ref dr])), (sk, .inr (5, [.int (nI z), .int (nI t), .ref s1, .ref s2, .ref s3])), (s1, ai g 6 K), (s2, ai g 6 L), (s3, ai g 96 V), (al, .inr (0, [.ref a1, .ref a2, .int fl1, .int fl2, .ref a3])), (a1, ai g 4 M1), (a2, ai g 4 M2), (a3, ai g 5 Rw)]) [7, 8, 0, 1, 2, 3, 4, 5, 6] rfl
      have hD9 := hD.sub (ws' := [(h0, .inr (8, [.ref pg, .int le, .ref rd, .int re, .ref sk, .ref si, .ref sy, .int sd, .ref ks, .ref ki, .int kp, .ref al, .ref dr])), (sk, .inr (5, [.int (nI z), .int (nI t), .ref s1, .ref s2, .ref s3])), (s1, ai g 6 K), (s2, ai g 6 L), (s3, ai g 96 V), (al, .inr (0, [.ref a1, .ref a2, .int fl1, .int fl2, .ref a3])), (a1, ai g 4 M1), (a2, ai g 4 M2), (a3, ai g 5 Rw)]) [7, 8, 0, 1, 2, 3, 4, 5, 6] (by decide) rfl
      exact k_ri hx hb hr hlocks hS hP9 hD9 ⟨fl1, fl2, M1, M2, Rw, rfl, (lnr_u (Or.inr (Or.inl c13_6))), hM1, hM2⟩ dX8_line_35
    · skip
      refine lv_aload_n hx hb dX8_line_16 rfl (lv_at hl 0 rfl) ?_
      refine lv_iload_n hx hb dX8_line_17 rfl (lv_at hl 3 rfl) ?_
      refine k_ci (wr := [(s1, ai g 6 K), (s2, ai g 6 L), (s3, ai g 96 V), (al, .inr (0, [.ref a1, .ref a2, .int fl1, .int fl2, .ref a3])), (a1, ai g 4 M1), (a2, ai g 4 M2), (a3, ai g 5 Rw)]) hP hD hS hA [7, 8] [0, 1, 2, 3, 4, 5, 6] rfl rfl (by decide) (by decide) (va_runV (As := [.int p3]) (rest := []) ⟨hx, hb, hml, hown, hts⟩ (c_X8_isSet_g l g h0 pg rd si sy ks ki al dr le re sd kp sk s1 s2 s3 z t p3  H.size) (cwV 1 hts gX8_line_X8_isSet rfl rfl rfl (by decide +kernel) ⟨Nat.le_of_ble_eq_true rfl, Nat.le_of_ble_eq_true rfl⟩) (k_preV hE hZ hP hD hS hA [7, 8] rfl (by decide) (va_recv hE.1 hP (ci := 8) (q0 := 7) rfl rfl)) rfl rfl hl.1 rfl (lv_room (Nat.le_of_ble_eq_true rfl)) dX8_line_18 ⟨Nat.le_of_ble_eq_true rfl, Nat.le_of_ble_eq_true rfl⟩) (fun r_7 w1 H locs hw hP hD hS => ?_)
      obtain ⟨rfl, rfl⟩ := hw
      have hP : va_P g.1 vwCl [(s1, ai g 6 K), (s2, ai g 6 L), (s3, ai g 96 V), (al, .inr (0, [.ref a1, .ref a2, .int fl1, .int fl2, .ref a3])), (a1, ai g 4 M1), (a2, ai g 4 M2), (a3, ai g 5 Rw), (h0, .inr (8, [.ref pg, .int le, .ref rd, .int re, .ref sk, .ref si, .ref sy, .int sd, .ref ks, .ref ki, .int kp, .ref al, .ref dr])), (sk, .inr (5, [.int (nI z), .int (nI t), .ref s1, .ref s2, .ref s3]))] H := hP
      have hD : va_D A [(s1, ai g 6 K), (s2, ai g 6 L), (s3, ai g 96 V), (al, .inr (0, [.ref a1, .ref a2, .int fl1, .int fl2, .ref a3])), (a1, ai g 4 M1), (a2, ai g 4 M2), (a3, ai g 5 Rw), (h0, .inr (8, [.ref pg, .int le, .ref rd, .int re, .ref sk, .ref si, .ref sy, .int sd, .ref ks, .ref ki, .int kp, .ref al, .ref dr])), (sk, .inr (5, [.int (nI z), .int (nI t), .ref s1, .ref s2, .ref s3]))] := hD
      refine lv_if_eq (tgt := 33) hx hb dX8_line_21 (by decide) (fun c21_9 => ?_) (fun c21_9 => ?_)
      · skip
        refine lv_bipush (v := (-101)) hx hb dX8_line_33 (by decide) ?_
        refine W.widen (k := 0) (n := 0) (Nat.le_of_ble_eq_true rfl) (Nat.le_of_ble_eq_true rfl) ?_
        have hP9 := hP.sub (ws' := [(h0, .inr (8, [.ref pg, .int le, .ref rd, .int re, .ref sk, .ref si, .ref sy, .int sd, .ref ks, .ref ki, .int kp, .ref al, .ref dr])), (sk, .inr (5, [.int (nI z), .int (nI t), .ref s1, .ref s2, .ref s3])), (s1, ai g 6 K), (s2, ai g 6 L), (s3, ai g 96 V), (al, .inr (0, [.ref a1, .ref a2, .int fl1, .int fl2, .ref a3])), (a1, ai g 4 M1), (a2, ai g 4 M2), (a3, ai g 5 Rw)]) [7, 8, 0, 1, 2, 3, 4, 5, 6] rfl
        have hD9 := hD.sub (ws' := [(h0, .inr (8, [.ref pg, .int le, .ref rd, .int re, .ref sk, .ref si, .ref sy, .int sd, .ref ks, .ref ki, .int kp, .ref al, .ref dr])), (sk, .inr (5, [.int (nI z), .int (nI t), .ref s1, .ref s2, .ref s3])), (s1, ai g 6 K), (s2, ai g 6 L), (s3, ai g 96 V), (al, .inr (0, [.ref a1, .ref a2, .int fl1, .int fl2, .ref a3])), (a1, ai g 4 M1), (a2, ai g 4 M2), (a3, ai g 5 Rw)]) [7, 8, 0, 1, 2, 3, 4, 5, 6] (by decide) rfl
        exact k_ri hx hb hr hlocks hS hP9 hD9 ⟨fl1, fl2, M1, M2, Rw, rfl, (lnr_u (Or.inr (Or.inr (Or.inl c21_9)))), hM1, hM2⟩ dX8_line_35
      · skip
        refine lv_aload_n hx hb dX8_line_24 rfl (lv_at hl 0 rfl) ?_
        refine lv_iload hx hb dX8_line_25 (lv_at hl 4 rfl) ?_
        refine k_ci (wr := [(s1, ai g 6 K), (s2, ai g 6 L), (s3, ai g 96 V), (al, .inr (0, [.ref a1, .ref a2, .int fl1, .int fl2, .ref a3])), (a1, ai g 4 M1), (a2, ai g 4 M2), (a3, ai g 5 Rw)]) hP hD hS hA [7, 8] [0, 1, 2, 3, 4, 5, 6] rfl rfl (by decide) (by decide) (va_runV (As := [.int p4]) (rest := []) ⟨hx, hb, hml, hown, hts⟩ (c_X8_isTongue_g l g h0 pg rd si sy ks ki al dr le re sd kp sk s1 s2 s3 z t p4  H.size) (cwV 1 hts gX8_line_X8_isTongue rfl rfl rfl (by decide +kernel) ⟨Nat.le_of_ble_eq_true rfl, Nat.le_of_ble_eq_true rfl⟩) (k_preV hE hZ hP hD hS hA [7, 8] rfl (by decide) (va_recv hE.1 hP (ci := 8) (q0 := 7) rfl rfl)) rfl rfl hl.1 rfl (lv_room (Nat.le_of_ble_eq_true rfl)) dX8_line_27 ⟨Nat.le_of_ble_eq_true rfl, Nat.le_of_ble_eq_true rfl⟩) (fun r_10 w1 H locs hw hP hD hS => ?_)
        obtain ⟨rfl, rfl⟩ := hw
        have hP : va_P g.1 vwCl [(s1, ai g 6 K), (s2, ai g 6 L), (s3, ai g 96 V), (al, .inr (0, [.ref a1, .ref a2, .int fl1, .int fl2, .ref a3])), (a1, ai g 4 M1), (a2, ai g 4 M2), (a3, ai g 5 Rw), (h0, .inr (8, [.ref pg, .int le, .ref rd, .int re, .ref sk, .ref si, .ref sy, .int sd, .ref ks, .ref ki, .int kp, .ref al, .ref dr])), (sk, .inr (5, [.int (nI z), .int (nI t), .ref s1, .ref s2, .ref s3]))] H := hP
        have hD : va_D A [(s1, ai g 6 K), (s2, ai g 6 L), (s3, ai g 96 V), (al, .inr (0, [.ref a1, .ref a2, .int fl1, .int fl2, .ref a3])), (a1, ai g 4 M1), (a2, ai g 4 M2), (a3, ai g 5 Rw), (h0, .inr (8, [.ref pg, .int le, .ref rd, .int re, .ref sk, .ref si, .ref sy, .int sd, .ref ks, .ref ki, .int kp, .ref al, .ref dr])), (sk, .inr (5, [.int (nI z), .int (nI t), .ref s1, .ref s2, .ref s3]))] := hD
        refine lv_if_ne (tgt := 36) hx hb dX8_line_30 (by decide) (fun c30_12 => ?_) (fun c30_12 => ?_)
        · skip
          obtain ⟨k1, hk1, rfl⟩ := isI_of (p := p1) (by omega) c5_3
          obtain ⟨k2, hk2, rfl⟩ := isI_of (p := p2) (by omega) c13_6
          obtain ⟨k3, hk3, rfl⟩ := isI_of (p := p3) (by omega) c21_9
          obtain ⟨k4, hk4, rfl⟩ := isI_of (p := p4) (by omega) c30_12
          obtain ⟨n1, hn1, en1⟩ := hL (k1) (by omega)
          obtain ⟨n3, hn3, en3⟩ := hL (k3) (by omega)
          refine lv_aload_n hx hb dX8_line_36 rfl (lv_at hl 0 rfl) ?_
          refine va_get (D := g.1) (ci := 8) (v := .ref al) (C := RX8) (T := TX8) (N := 13) hx hb hts q_X8_line_f_f8 hown hE.1 hP 7 rfl rfl 11 (by decide) (hts (.fieldLink RX8 50 "SoundLaws" "aligner" "LSoundLaws$Aligner;") q_X8_line_f_1) (fun _ h9 => h9) rfl dX8_line_37 ?_
          refine lv_aload_n hx hb dX8_line_40 rfl (lv_at hl 0 rfl) ?_
          refine va_get (D := g.1) (ci := 8) (v := .ref sk) (C := RX8) (T := TX8) (N := 13) hx hb hts q_X8_line_f_f8 hown hE.1 hP 7 rfl rfl 4 (by decide) (hts (.fieldLink RX8 23 "SoundLaws" "stock" "LSoundLaws$Stock;") q_X8_line_f_2) (fun _ h9 => h9) rfl dX8_line_41 ?_
          refine va_get (D := g.1) (ci := 5) (v := .ref s3) (C := RX5) (T := TX5) (N := 5) hx hb hts q_X8_line_f_f5 hown hE.1 hP 8 rfl rfl 4 (by decide) (hts (.fieldLink RX8 162 "SoundLaws$Stock" "words" "[I") q_X8_line_f_4) (fun _ h9 => h9) rfl dX8_line_44 ?_
          refine lv_iload_n hx hb dX8_line_47 rfl (lv_at hl 1 rfl) ?_
          refine lv_iload_n hx hb dX8_line_48 rfl (lv_at hl 2 rfl) ?_
          refine k_ci (wr := [(s1, ai g 6 K), (s2, ai g 6 L), (s3, ai g 96 V), (al, .inr (0, [.ref a1, .ref a2, .int fl1, .int fl2, .ref a3])), (a1, ai g 4 M1), (a2, ai g 4 M2), (a3, ai g 5 Rw), (h0, .inr (8, [.ref pg, .int le, .ref rd, .int re, .ref sk, .ref si, .ref sy, .int sd, .ref ks, .ref ki, .int kp, .ref al, .ref dr])), (sk, .inr (5, [.int (nI z), .int (nI t), .ref s1, .ref s2, .ref s3]))]) hP hD hS hA [] [0, 1, 2, 3, 4, 5, 6, 7, 8] rfl rfl (by decide) (by decide) (va_runS (As := [.int (nI k1), .int (nI k2)]) (rest := [.ref s3, .ref al]) ⟨hx, hb, hml, hown, hts⟩ (c_X8_wordAt_g l g k1 k2  H.size) (va_cwS 2 hts gX8_line_X8_wordAt rfl rfl rfl (by decide +kernel) ⟨Nat.le_of_ble_eq_true rfl, Nat.le_of_ble_eq_true rfl⟩) (k_preS hE hZ hP hD hS hA [] rfl (by decide)) rfl rfl hl.1 rfl (lv_room (Nat.le_of_ble_eq_true rfl)) dX8_line_49 ⟨Nat.le_of_ble_eq_true rfl, Nat.le_of_ble_eq_true rfl⟩) (fun r_13 w1 H locs hw hP hD hS => ?_)
          obtain ⟨rfl, rfl⟩ := hw
          have hP : va_P g.1 vwCl [(s1, ai g 6 K), (s2, ai g 6 L), (s3, ai g 96 V), (al, .inr (0, [.ref a1, .ref a2, .int fl1, .int fl2, .ref a3])), (a1, ai g 4 M1), (a2, ai g 4 M2), (a3, ai g 5 Rw), (h0, .inr (8, [.ref pg, .int le, .ref rd, .int re, .ref sk, .ref si, .ref sy, .int sd, .ref ks, .ref ki, .int kp, .ref al, .ref dr])), (sk, .inr (5, [.int (nI z), .int (nI t), .ref s1, .ref s2, .ref s3]))] H := hP
          have hD : va_D A [(s1, ai g 6 K), (s2, ai g 6 L), (s3, ai g 96 V), (al, .inr (0, [.ref a1, .ref a2, .int fl1, .int fl2, .ref a3])), (a1, ai g 4 M1), (a2, ai g 4 M2), (a3, ai g 5 Rw), (h0, .inr (8, [.ref pg, .int le, .ref rd, .int re, .ref sk, .ref si, .ref sy, .int sd, .ref ks, .ref ki, .int kp, .ref al, .ref dr])), (sk, .inr (5, [.int (nI z), .int (nI t), .ref s1, .ref s2, .ref s3]))] := hD
          refine lv_aload_n hx hb dX8_line_52 rfl (lv_at hl 0 rfl) ?_
          refine va_get (D := g.1) (ci := 8) (v := .ref sk) (C := RX8) (T := TX8) (N := 13) hx hb hts q_X8_line_f_f8 hown hE.1 hP 7 rfl rfl 4 (by decide) (hts (.fieldLink RX8 23 "SoundLaws" "stock" "LSoundLaws$Stock;") q_X8_line_f_2) (fun _ h9 => h9) rfl dX8_line_53 ?_
          refine va_get (D := g.1) (ci := 5) (v := .ref s2) (C := RX5) (T := TX5) (N := 5) hx hb hts q_X8_line_f_f5 hown hE.1 hP 8 rfl rfl 3 (by decide) (hts (.fieldLink RX8 168 "SoundLaws$Stock" "lengths" "[I") q_X8_line_f_5) (fun _ h9 => h9) rfl dX8_line_56 ?_
          refine lv_iload_n hx hb dX8_line_59 rfl (lv_at hl 1 rfl) ?_
          refine k_ald k1 rfl (by omega) hx hb hE hP 1 rfl (by decide) dX8_line_60 ?_
          refine lv_topi (fun x_15 ex_15 => ?_)
          obtain rfl : x_15 = nI n1 := by rw [ex_15]; exact en1
          refine k_cv (wr := [(s1, ai g 6 K), (s2, ai g 6 L), (a2, ai g 4 M2), (a3, ai g 5 Rw), (h0, .inr (8, [.ref pg, .int le, .ref rd, .int re, .ref sk, .ref si, .ref sy, .int sd, .ref ks, .ref ki, .int kp, .ref al, .ref dr])), (sk, .inr (5, [.int (nI z), .int (nI t), .ref s1, .ref s2, .ref s3]))]) hP hD hS hA [3, 2, 4] [0, 1, 5, 6, 7, 8] rfl rfl (by decide) (by decide) (va_runV (As := [.ref s3, .int (nI (16 * k1 + 4 * k2)), .int (nI n1)]) (rest := []) ⟨hx, hb, hml, hown, hts⟩ (c_X0_readFirst_f l g al a1 a2 a3 s3 V M1 fl1 fl2 (16 * k1 + 4 * k2) n1 (by first | assumption | omega) (by first | assumption | omega) (by first | assumption | omega) (by first | assumption | omega) H.size) (cwV 3 hts gX8_line_X0_readFirst rfl rfl rfl (by decide +kernel) ⟨Nat.le_of_ble_eq_true rfl, Nat.le_of_ble_eq_true rfl⟩) (k_preV hE hZ hP hD hS hA [3, 2, 4] rfl (by decide) (va_recv hE.1 hP (ci := 0) (q0 := 3) rfl rfl)) rfl rfl hl.1 rfl (lv_room (Nat.le_of_ble_eq_true rfl)) dX8_line_61 ⟨Nat.le_of_ble_eq_true rfl, Nat.le_of_ble_eq_true rfl⟩) (fun w1 H locs hw hP hD hS => ?_)
          obtain ⟨M2_17, rfl, hM2_18, hr2_19⟩ := hw
          have hP : va_P g.1 vwCl [(s1, ai g 6 K), (s2, ai g 6 L), (a2, ai g 4 M2), (a3, ai g 5 Rw), (h0, .inr (8, [.ref pg, .int le, .ref rd, .int re, .ref sk, .ref si, .ref sy, .int sd, .ref ks, .ref ki, .int kp, .ref al, .ref dr])), (sk, .inr (5, [.int (nI z), .int (nI t), .ref s1, .ref s2, .ref s3])), (al, .inr (0, [.ref a1, .ref a2, .int (nI (stc V (16 * k1 + 4 * k2) n1)), .int fl2, .ref a3])), (s3, ai g 96 V), (a1, ai g 4 M2_17)] H := hP
          have hD : va_D A [(s1, ai g 6 K), (s2, ai g 6 L), (a2, ai g 4 M2), (a3, ai g 5 Rw), (h0, .inr (8, [.ref pg, .int le, .ref rd, .int re, .ref sk, .ref si, .ref sy, .int sd, .ref ks, .ref ki, .int kp, .ref al, .ref dr])), (sk, .inr (5, [.int (nI z), .int (nI t), .ref s1, .ref s2, .ref s3])), (al, .inr (0, [.ref a1, .ref a2, .int (nI (stc V (16 * k1 + 4 * k2) n1)), .int fl2, .ref a3])), (s3, ai g 96 V), (a1, ai g 4 M2_17)] := hD
          refine lv_aload_n hx hb dX8_line_64 rfl (lv_at hl 0 rfl) ?_
          refine va_get (D := g.1) (ci := 8) (v := .ref al) (C := RX8) (T := TX8) (N := 13) hx hb hts q_X8_line_f_f8 hown hE.1 hP 4 rfl rfl 11 (by decide) (hts (.fieldLink RX8 50 "SoundLaws" "aligner" "LSoundLaws$Aligner;") q_X8_line_f_1) (fun _ h9 => h9) rfl dX8_line_65 ?_
          refine lv_aload_n hx hb dX8_line_68 rfl (lv_at hl 0 rfl) ?_
          refine va_get (D := g.1) (ci := 8) (v := .ref sk) (C := RX8) (T := TX8) (N := 13) hx hb hts q_X8_line_f_f8 hown hE.1 hP 4 rfl rfl 4 (by decide) (hts (.fieldLink RX8 23 "SoundLaws" "stock" "LSoundLaws$Stock;") q_X8_line_f_2) (fun _ h9 => h9) rfl dX8_line_69 ?_
          refine va_get (D := g.1) (ci := 5) (v := .ref s3) (C := RX5) (T := TX5) (N := 5) hx hb hts q_X8_line_f_f5 hown hE.1 hP 5 rfl rfl 4 (by decide) (hts (.fieldLink RX8 162 "SoundLaws$Stock" "words" "[I") q_X8_line_f_4) (fun _ h9 => h9) rfl dX8_line_72 ?_
          refine lv_iload_n hx hb dX8_line_75 rfl (lv_at hl 3 rfl) ?_
          refine lv_iload hx hb dX8_line_76 (lv_at hl 4 rfl) ?_
          refine k_ci (wr := [(s1, ai g 6 K), (s2, ai g 6 L), (a2, ai g 4 M2), (a3, ai g 5 Rw), (h0, .inr (8, [.ref pg, .int le, .ref rd, .int re, .ref sk, .ref si, .ref sy, .int sd, .ref ks, .ref ki, .int kp, .ref al, .ref dr])), (sk, .inr (5, [.int (nI z), .int (nI t), .ref s1, .ref s2, .ref s3])), (al, .inr (0, [.ref a1, .ref a2, .int (nI (stc V (16 * k1 + 4 * k2) n1)), .int fl2, .ref a3])), (s3, ai g 96 V), (a1, ai g 4 M2_17)]) hP hD hS hA [] [0, 1, 2, 3, 4, 5, 6, 7, 8] rfl rfl (by decide) (by decide) (va_runS (As := [.int (nI k3), .int (nI k4)]) (rest := [.ref s3, .ref al]) ⟨hx, hb, hml, hown, hts⟩ (c_X8_wordAt_g l g k3 k4  H.size) (va_cwS 2 hts gX8_line_X8_wordAt rfl rfl rfl (by decide +kernel) ⟨Nat.le_of_ble_eq_true rfl, Nat.le_of_ble_eq_true rfl⟩) (k_preS hE hZ hP hD hS hA [] rfl (by decide)) rfl rfl hl.1 rfl (lv_room (Nat.le_of_ble_eq_true rfl)) dX8_line_78 ⟨Nat.le_of_ble_eq_true rfl, Nat.le_of_ble_eq_true rfl⟩) (fun r_20 w1 H locs hw hP hD hS => ?_)
          obtain ⟨rfl, rfl⟩ := hw
          have hP : va_P g.1 vwCl [(s1, ai g 6 K), (s2, ai g 6 L), (a2, ai g 4 M2), (a3, ai g 5 Rw), (h0, .inr (8, [.ref pg, .int le, .ref rd, .int re, .ref sk, .ref si, .ref sy, .int sd, .ref ks, .ref ki, .int kp, .ref al, .ref dr])), (sk, .inr (5, [.int (nI z), .int (nI t), .ref s1, .ref s2, .ref s3])), (al, .inr (0, [.ref a1, .ref a2, .int (nI (stc V (16 * k1 + 4 * k2) n1)), .int fl2, .ref a3])), (s3, ai g 96 V), (a1, ai g 4 M2_17)] H := hP
          have hD : va_D A [(s1, ai g 6 K), (s2, ai g 6 L), (a2, ai g 4 M2), (a3, ai g 5 Rw), (h0, .inr (8, [.ref pg, .int le, .ref rd, .int re, .ref sk, .ref si, .ref sy, .int sd, .ref ks, .ref ki, .int kp, .ref al, .ref dr])), (sk, .inr (5, [.int (nI z), .int (nI t), .ref s1, .ref s2, .ref s3])), (al, .inr (0, [.ref a1, .ref a2, .int (nI (stc V (16 * k1 + 4 * k2) n1)), .int fl2, .ref a3])), (s3, ai g 96 V), (a1, ai g 4 M2_17)] := hD
          refine lv_aload_n hx hb dX8_line_81 rfl (lv_at hl 0 rfl) ?_
          refine va_get (D := g.1) (ci := 8) (v := .ref sk) (C := RX8) (T := TX8) (N := 13) hx hb hts q_X8_line_f_f8 hown hE.1 hP 4 rfl rfl 4 (by decide) (hts (.fieldLink RX8 23 "SoundLaws" "stock" "LSoundLaws$Stock;") q_X8_line_f_2) (fun _ h9 => h9) rfl dX8_line_82 ?_
          refine va_get (D := g.1) (ci := 5) (v := .ref s2) (C := RX5) (T := TX5) (N := 5) hx hb hts q_X8_line_f_f5 hown hE.1 hP 5 rfl rfl 3 (by decide) (hts (.fieldLink RX8 168 "SoundLaws$Stock" "lengths" "[I") q_X8_line_f_5) (fun _ h9 => h9) rfl dX8_line_85 ?_
          refine lv_iload_n hx hb dX8_line_88 rfl (lv_at hl 3 rfl) ?_
          refine k_ald k3 rfl (by omega) hx hb hE hP 1 rfl (by decide) dX8_line_89 ?_
          refine lv_topi (fun x_22 ex_22 => ?_)
          obtain rfl : x_22 = nI n3 := by rw [ex_22]; exact en3
          refine k_cv (wr := [(s1, ai g 6 K), (s2, ai g 6 L), (a3, ai g 5 Rw), (h0, .inr (8, [.ref pg, .int le, .ref rd, .int re, .ref sk, .ref si, .ref sy, .int sd, .ref ks, .ref ki, .int kp, .ref al, .ref dr])), (sk, .inr (5, [.int (nI z), .int (nI t), .ref s1, .ref s2, .ref s3])), (a1, ai g 4 M2_17)]) hP hD hS hA [6, 7, 2] [0, 1, 3, 4, 5, 8] rfl rfl (by decide) (by decide) (va_runV (As := [.ref s3, .int (nI (16 * k3 + 4 * k4)), .int (nI n3)]) (rest := []) ⟨hx, hb, hml, hown, hts⟩ (c_X0_readSecond_f l g al a1 a2 a3 s3 V M2 (nI (stc V (16 * k1 + 4 * k2) n1)) fl2 (16 * k3 + 4 * k4) n3 (by first | assumption | omega) (by first | assumption | omega) (by first | assumption | omega) (by first | assumption | omega) H.size) (cwV 3 hts gX8_line_X0_readSecond rfl rfl rfl (by decide +kernel) ⟨Nat.le_of_ble_eq_true rfl, Nat.le_of_ble_eq_true rfl⟩) (k_preV hE hZ hP hD hS hA [6, 7, 2] rfl (by decide) (va_recv hE.1 hP (ci := 0) (q0 := 6) rfl rfl)) rfl rfl hl.1 rfl (lv_room (Nat.le_of_ble_eq_true rfl)) dX8_line_90 ⟨Nat.le_of_ble_eq_true rfl, Nat.le_of_ble_eq_true rfl⟩) (fun w1 H locs hw hP hD hS => ?_)
          obtain ⟨M2_24, rfl, hM2_25, hr2_26⟩ := hw
          have hP : va_P g.1 vwCl [(s1, ai g 6 K), (s2, ai g 6 L), (a3, ai g 5 Rw), (h0, .inr (8, [.ref pg, .int le, .ref rd, .int re, .ref sk, .ref si, .ref sy, .int sd, .ref ks, .ref ki, .int kp, .ref al, .ref dr])), (sk, .inr (5, [.int (nI z), .int (nI t), .ref s1, .ref s2, .ref s3])), (a1, ai g 4 M2_17), (al, .inr (0, [.ref a1, .ref a2, .int (nI (stc V (16 * k1 + 4 * k2) n1)), .int (nI (stc V (16 * k3 + 4 * k4) n3)), .ref a3])), (s3, ai g 96 V), (a2, ai g 4 M2_24)] H := hP
          have hD : va_D A [(s1, ai g 6 K), (s2, ai g 6 L), (a3, ai g 5 Rw), (h0, .inr (8, [.ref pg, .int le, .ref rd, .int re, .ref sk, .ref si, .ref sy, .int sd, .ref ks, .ref ki, .int kp, .ref al, .ref dr])), (sk, .inr (5, [.int (nI z), .int (nI t), .ref s1, .ref s2, .ref s3])), (a1, ai g 4 M2_17), (al, .inr (0, [.ref a1, .ref a2, .int (nI (stc V (16 * k1 + 4 * k2) n1)), .int (nI (stc V (16 * k3 + 4 * k4) n3)), .ref a3])), (s3, ai g 96 V), (a2, ai g 4 M2_24)] := hD
          have hs1 := stc_le (V := V) (b := 16 * k1 + 4 * k2) n1
          have hs3 := stc_le (V := V) (b := 16 * k3 + 4 * k4) n3
          refine lv_aload_n hx hb dX8_line_93 rfl (lv_at hl 0 rfl) ?_
          refine va_get (D := g.1) (ci := 8) (v := .ref al) (C := RX8) (T := TX8) (N := 13) hx hb hts q_X8_line_f_f8 hown hE.1 hP 3 rfl rfl 11 (by decide) (hts (.fieldLink RX8 50 "SoundLaws" "aligner" "LSoundLaws$Aligner;") q_X8_line_f_1) (fun _ h9 => h9) rfl dX8_line_94 ?_
          refine k_ci (wr := [(s1, ai g 6 K), (s2, ai g 6 L), (h0, .inr (8, [.ref pg, .int le, .ref rd, .int re, .ref sk, .ref si, .ref sy, .int sd, .ref ks, .ref ki, .int kp, .ref al, .ref dr])), (sk, .inr (5, [.int (nI z), .int (nI t), .ref s1, .ref s2, .ref s3])), (s3, ai g 96 V)]) hP hD hS hA [6, 5, 8, 2] [0, 1, 3, 4, 7] rfl rfl (by decide) (by decide) (va_runV (As := []) (rest := []) ⟨hx, hb, hml, hown, hts⟩ (c_X0_leastCost_f l g al a1 a2 a3 M2_17 M2_24 Rw (stc V (16 * k1 + 4 * k2) n1) (stc V (16 * k3 + 4 * k4) n3) (by first | assumption | omega) (by first | assumption | omega) (fun i hi => by rw [hM2_18 i hi]; exact stv_rng n1 (fun a ha => hV _ (by omega)) i hi) (fun i hi => by rw [hM2_25 i hi]; exact stv_rng n3 (fun a ha => hV _ (by omega)) i hi) H.size) (cwV 0 hts gX8_line_X0_leastCost rfl rfl rfl (by decide +kernel) ⟨Nat.le_of_ble_eq_true rfl, Nat.le_of_ble_eq_true rfl⟩) (k_preV hE hZ hP hD hS hA [6, 5, 8, 2] rfl (by decide) (va_recv hE.1 hP (ci := 0) (q0 := 6) rfl rfl)) rfl rfl hl.1 rfl (lv_room (Nat.le_of_ble_eq_true rfl)) dX8_line_97 ⟨Nat.le_of_ble_eq_true rfl, Nat.le_of_ble_eq_true rfl⟩) (fun r_27 w1 H locs hw hP hD hS => ?_)
          obtain ⟨R2_28, rfl, rfl⟩ := hw
          have hP : va_P g.1 vwCl [(s1, ai g 6 K), (s2, ai g 6 L), (h0, .inr (8, [.ref pg, .int le, .ref rd, .int re, .ref sk, .ref si, .ref sy, .int sd, .ref ks, .ref ki, .int kp, .ref al, .ref dr])), (sk, .inr (5, [.int (nI z), .int (nI t), .ref s1, .ref s2, .ref s3])), (s3, ai g 96 V), (al, .inr (0, [.ref a1, .ref a2, .int (nI (stc V (16 * k1 + 4 * k2) n1)), .int (nI (stc V (16 * k3 + 4 * k4) n3)), .ref a3])), (a1, ai g 4 M2_17), (a2, ai g 4 M2_24), (a3, ai g 5 R2_28)] H := hP
          have hD : va_D A [(s1, ai g 6 K), (s2, ai g 6 L), (h0, .inr (8, [.ref pg, .int le, .ref rd, .int re, .ref sk, .ref si, .ref sy, .int sd, .ref ks, .ref ki, .int kp, .ref al, .ref dr])), (sk, .inr (5, [.int (nI z), .int (nI t), .ref s1, .ref s2, .ref s3])), (s3, ai g 96 V), (al, .inr (0, [.ref a1, .ref a2, .int (nI (stc V (16 * k1 + 4 * k2) n1)), .int (nI (stc V (16 * k3 + 4 * k4) n3)), .ref a3])), (a1, ai g 4 M2_17), (a2, ai g 4 M2_24), (a3, ai g 5 R2_28)] := hD
          refine W.widen (k := 0) (n := 0) (Nat.le_of_ble_eq_true rfl) (Nat.le_of_ble_eq_true rfl) ?_
          have hP9 := hP.sub (ws' := [(h0, .inr (8, [.ref pg, .int le, .ref rd, .int re, .ref sk, .ref si, .ref sy, .int sd, .ref ks, .ref ki, .int kp, .ref al, .ref dr])), (sk, .inr (5, [.int (nI z), .int (nI t), .ref s1, .ref s2, .ref s3])), (s1, ai g 6 K), (s2, ai g 6 L), (s3, ai g 96 V), (al, .inr (0, [.ref a1, .ref a2, .int (nI (stc V (16 * k1 + 4 * k2) n1)), .int (nI (stc V (16 * k3 + 4 * k4) n3)), .ref a3])), (a1, ai g 4 M2_17), (a2, ai g 4 M2_24), (a3, ai g 5 R2_28)]) [2, 3, 0, 1, 4, 5, 6, 7, 8] rfl
          have hD9 := hD.sub (ws' := [(h0, .inr (8, [.ref pg, .int le, .ref rd, .int re, .ref sk, .ref si, .ref sy, .int sd, .ref ks, .ref ki, .int kp, .ref al, .ref dr])), (sk, .inr (5, [.int (nI z), .int (nI t), .ref s1, .ref s2, .ref s3])), (s1, ai g 6 K), (s2, ai g 6 L), (s3, ai g 96 V), (al, .inr (0, [.ref a1, .ref a2, .int (nI (stc V (16 * k1 + 4 * k2) n1)), .int (nI (stc V (16 * k3 + 4 * k4) n3)), .ref a3])), (a1, ai g 4 M2_17), (a2, ai g 4 M2_24), (a3, ai g 5 R2_28)]) [2, 3, 0, 1, 4, 5, 6, 7, 8] (by decide) rfl
          exact k_ri hx hb hr hlocks hS hP9 hD9 ⟨(nI (stc V (16 * k1 + 4 * k2) n1)), (nI (stc V (16 * k3 + 4 * k4) n3)), M2_17, M2_24, R2_28, rfl, (lnr_k hk1 hk2 hk3 hk4 hz ht4 en1 hn1 en3 hn3 (dp_congr hM2_18 hM2_25 _ _ (Nat.le_refl _) (Nat.le_refl _))), hr2_19, hr2_26⟩ dX8_line_100
        · skip
          refine lv_bipush (v := (-101)) hx hb dX8_line_33 (by decide) ?_
          refine W.widen (k := 0) (n := 0) (Nat.le_of_ble_eq_true rfl) (Nat.le_of_ble_eq_true rfl) ?_
          have hP9 := hP.sub (ws' := [(h0, .inr (8, [.ref pg, .int le, .ref rd, .int re, .ref sk, .ref si, .ref sy, .int sd, .ref ks, .ref ki, .int kp, .ref al, .ref dr])), (sk, .inr (5, [.int (nI z), .int (nI t), .ref s1, .ref s2, .ref s3])), (s1, ai g 6 K), (s2, ai g 6 L), (s3, ai g 96 V), (al, .inr (0, [.ref a1, .ref a2, .int fl1, .int fl2, .ref a3])), (a1, ai g 4 M1), (a2, ai g 4 M2), (a3, ai g 5 Rw)]) [7, 8, 0, 1, 2, 3, 4, 5, 6] rfl
          have hD9 := hD.sub (ws' := [(h0, .inr (8, [.ref pg, .int le, .ref rd, .int re, .ref sk, .ref si, .ref sy, .int sd, .ref ks, .ref ki, .int kp, .ref al, .ref dr])), (sk, .inr (5, [.int (nI z), .int (nI t), .ref s1, .ref s2, .ref s3])), (s1, ai g 6 K), (s2, ai g 6 L), (s3, ai g 96 V), (al, .inr (0, [.ref a1, .ref a2, .int fl1, .int fl2, .ref a3])), (a1, ai g 4 M1), (a2, ai g 4 M2), (a3, ai g 5 Rw)]) [7, 8, 0, 1, 2, 3, 4, 5, 6] (by decide) rfl
          exact k_ri hx hb hr hlocks hS hP9 hD9 ⟨fl1, fl2, M1, M2, Rw, rfl, (lnr_u (Or.inr (Or.inr (Or.inr c30_12)))), hM1, hM2⟩ dX8_line_35
def po_X9_strip_f (g : GG) (k0 : Nat) (m0 : Nat) (s1 : Int32) (s2 : Int32) (s3 : Int32) (s4 : Int32) (s5 : Int32) (s6 : Int32) (m7 : Nat) (m8 : Nat) (m9 : Nat) (s10 : Int32) (s11 : Int32) (s12 : Int32) (m13 : Nat) (m14 : Nat) (m15 : Nat) (s16 : Int32) (m17 : Nat) (m18 : Nat) (m19 : Nat) (m20 : Nat) (m21 : Nat) (m22 : Nat) (m23 : Nat) (m24 : Nat) (m25 : Nat) (m26 : Nat) (m27 : Nat) (m28 : Nat) (s29 : Int32) (m30 : Nat) (s31 : Int32) (s32 : Int32) (s33 : Int32) (s34 : Int32) (s35 : Int32) (m36 : Nat) (m37 : Nat) (m38 : Nat) (m39 : Nat) (s40 : Int64) (L : Nat → Int32) (V : Nat → Int32) (B : Nat → Int32) (k : Nat) (u : Nat) (to : Nat) (n : Nat) : Int32 → va_W → Prop := fun (r : Int32) w => ∃ (B2 : Nat → Int32), w = [(k0, .inr (9, [.ref m0, .int s1, .int s2, .int s3, .int s4, .int s5, .int s6, .ref m7, .ref m8, .ref m9, .int s10, .int s11, .int s12, .ref m13, .ref m14, .ref m15, .int s16, .ref m17, .ref m18, .ref m19, .ref m20, .ref m21, .ref m22, .ref m23, .ref m24, .ref m25, .ref m26, .ref m27, .ref m28, .int s29, .ref m30, .int s31, .int s32, .int s33, .int s34, .int s35, .ref m36, .ref m37, .ref m38, .ref m39, .long s40])), (m14, ai g 6 L), (m15, ai g 96 V), (to, ai g 4 B2)] ∧ (nI (stc V (16 * k + 4 * u) n) = r) ∧ (stR2 V (16 * k + 4 * u) n B2)
theorem q_X9_strip_f_f9 : ∀ w ∈ u_ws RX9 TX9 41, w ∈ wsX9_strip := by decide +kernel
theorem q_X9_strip_f_1 : (Cond.fieldLink RX9 25 "SoundLawsModel" "longs" "[I") ∈ wsX9_strip := by decide +kernel
theorem q_X9_strip_f_2 : (Cond.fieldLink RX9 28 "SoundLawsModel" "words" "[I") ∈ wsX9_strip := by decide +kernel
set_option maxHeartbeats 1500000 in
set_option maxRecDepth 100000 in
theorem c_X9_strip_f (l : Launch) (g : GG) (k0 : Nat) (m0 : Nat) (s1 : Int32) (s2 : Int32) (s3 : Int32) (s4 : Int32) (s5 : Int32) (s6 : Int32) (m7 : Nat) (m8 : Nat) (m9 : Nat) (s10 : Int32) (s11 : Int32) (s12 : Int32) (m13 : Nat) (m14 : Nat) (m15 : Nat) (s16 : Int32) (m17 : Nat) (m18 : Nat) (m19 : Nat) (m20 : Nat) (m21 : Nat) (m22 : Nat) (m23 : Nat) (m24 : Nat) (m25 : Nat) (m26 : Nat) (m27 : Nat) (m28 : Nat) (s29 : Int32) (m30 : Nat) (s31 : Int32) (s32 : Int32) (s33 : Int32) (s34 : Int32) (s35 : Int32) (m36 : Nat) (m37 : Nat) (m38 : Nat) (m39 : Nat) (s40 : Int64) (L : Nat → Int32) (V : Nat → Int32) (B : Nat → Int32) (k : Nat) (u : Nat) (to : Nat) (n : Nat) (hk : k < 6) (hu : u < 4) (en : L k = nI n) (hn : n < 5) (sz : Nat) : MetI l yX9_strip wsX9_strip ({ frames := 0, cells := 0, slots := 0, locals := 0 }) g [.ref k0, .int (nI k), .int (nI u), .ref to] [(k0, .inr (9, [.ref m0, .int s1, .int s2, .int s3, .int s4, .int s5, .int s6, .ref m7, .ref m8, .ref m9, .int s10, .int s11, .int s12, .ref m13, .ref m14, .ref m15, .int s16, .ref m17, .ref m18, .ref m19, .ref m20, .ref m21, .ref m22, .ref m23, .ref m24, .ref m25, .ref m26, .ref m27, .ref m28, .int s29, .ref m30, .int s31, .int s32, .int s33, .int s34, .int s35, .ref m36, .ref m37, .ref m38, .ref m39, .long s40])), (m14, ai g 6 L), (m15, ai g 96 V), (to, ai g 4 B)] sz (po_X9_strip_f g k0 m0 s1 s2 s3 s4 s5 s6 m7 m8 m9 s10 s11 s12 m13 m14 m15 s16 m17 m18 m19 m20 m21 m22 m23 m24 m25 m26 m27 m28 s29 m30 s31 s32 s33 s34 s35 m36 m37 m38 m39 s40 L V B k u to n) 0 0 := by
  refine k_of (l := l) (y := yX9_strip) (ws := wsX9_strip) (rm := { frames := 0, cells := 0, slots := 0, locals := 0 }) (mc := 0) (ms := 0) (av := [.ref k0, .int (nI k), .int (nI u), .ref to]) (g := g) (wc := [(k0, .inr (9, [.ref m0, .int s1, .int s2, .int s3, .int s4, .int s5, .int s6, .ref m7, .ref m8, .ref m9, .int s10, .int s11, .int s12, .ref m13, .ref m14, .ref m15, .int s16, .ref m17, .ref m18, .ref m19, .ref m20, .ref m21, .ref m22, .ref m23, .ref m24, .ref m25, .ref m26, .ref m27, .ref m28, .int s29, .ref m30, .int s31, .int s32, .int s33, .int s34, .int s35, .ref m36, .ref m37, .ref m38, .ref m39, .long s40])), (m14, ai g 6 L), (m15, ai g 96 V), (to, ai g 4 B)]) (Qc := fun A => va_Qi (po_X9_strip_f g k0 m0 s1 s2 s3 s4 s5 s6 m7 m8 m9 s10 s11 s12 m13 m14 m15 s16 m17 m18 m19 m20 m21 m22 m23 m24 m25 m26 m27 m28 s29 m30 s31 s32 s33 s34 s35 m36 m37 m38 m39 s40 L V B k u to n) (bk g A) A) (cc := cX9_strip) (maxL := 7) (ret := (some .int)) (by decide) rfl (Nat.le_of_ble_eq_true rfl) ?_ sz
  intro p e s m below meth c hx hb hr hts hown hlocks hnm hml A hA hE hZ hP hD hS ls hl
  have hown : s.vm.findClass RX9 = some m.cls := hown
  have hl : lv_has ls 7 [(0, .ref k0), (1, .int (nI k)), (2, .int (nI u)), (3, .ref to)] := hl
  refine lv_iconst (v := 0) hx hb dX9_strip_0 (by decide) ?_
  refine lv_istore (lv' := [(4, .int 0), (0, .ref k0), (1, .int (nI k)), (2, .int (nI u)), (3, .ref to)]) hx hb dX9_strip_1 hl (by decide) rfl (fun ls hl => ?_)
  refine lv_iconst (v := 0) hx hb dX9_strip_3 (by decide) ?_
  refine lv_istore (lv' := [(5, .int 0), (4, .int 0), (0, .ref k0), (1, .int (nI k)), (2, .int (nI u)), (3, .ref to)]) hx hb dX9_strip_4 hl (by decide) rfl (fun ls hl => ?_)
  have loop6 : ∀ (fu : Nat) (q : Nat) (B3 : Nat → Int32), (hq : q ≤ n) → (hB3 : stR2 V (16 * k + 4 * u) q B3) → n - q < fu → ∀ (H : Heap) (locs : List Loc) (ls : Array Slot), va_P g.1 vwCl [(k0, .inr (9, [.ref m0, .int s1, .int s2, .int s3, .int s4, .int s5, .int s6, .ref m7, .ref m8, .ref m9, .int s10, .int s11, .int s12, .ref m13, .ref m14, .ref m15, .int s16, .ref m17, .ref m18, .ref m19, .ref m20, .ref m21, .ref m22, .ref m23, .ref m24, .ref m25, .ref m26, .ref m27, .ref m28, .int s29, .ref m30, .int s31, .int s32, .int s33, .int s34, .int s35, .ref m36, .ref m37, .ref m38, .ref m39, .long s40])), (m14, ai g 6 L), (m15, ai g 96 V), (to, ai g 4 B3)] H → va_D A [(k0, .inr (9, [.ref m0, .int s1, .int s2, .int s3, .int s4, .int s5, .int s6, .ref m7, .ref m8, .ref m9, .int s10, .int s11, .int s12, .ref m13, .ref m14, .ref m15, .int s16, .ref m17, .ref m18, .ref m19, .ref m20, .ref m21, .ref m22, .ref m23, .ref m24, .ref m25, .ref m26, .ref m27, .ref m28, .int s29, .ref m30, .int s31, .int s32, .int s33, .int s34, .int s35, .ref m36, .ref m37, .ref m38, .ref m39, .long s40])), (m14, ai g 6 L), (m15, ai g 96 V), (to, ai g 4 B3)] → va_S A s.heap H locs → lv_has ls 7 [(0, .ref k0), (1, .int (nI k)), (2, .int (nI u)), (3, .ref to), (4, .int (nI (stc V (16 * k + 4 * u) q))), (5, .int (nI q))] → W p l e ({ frames := 0, cells := 0, slots := 0, locals := 0 }) s m [.ref k0, .int (nI k), .int (nI u), .ref to].toArray below meth c H locs 0 0 (MQ below (va_Qi (po_X9_strip_f g k0 m0 s1 s2 s3 s4 s5 s6 m7 m8 m9 s10 s11 s12 m13 m14 m15 s16 m17 m18 m19 m20 m21 m22 m23 m24 m25 m26 m27 m28 s29 m30 s31 s32 s33 s34 s35 m36 m37 m38 m39 s40 L V B k u to n) (bk g A) A) [.ref k0, .int (nI k), .int (nI u), .ref to].toArray s 0 0 A) (F0 m 6 ls []) := by
    intro fu
    induction fu with
    | zero => intro q B3 hq hB3 hfu; exact absurd hfu (Nat.not_lt_zero _)
    | succ fu ih =>
      intro q B3 hq hB3 hfu H locs ls hP hD hS hl
      have ih6 := ih
      refine lv_iload hx hb dX9_strip_6 (lv_at hl 5 rfl) ?_
      refine lv_aload_n hx hb dX9_strip_8 rfl (lv_at hl 0 rfl) ?_
      refine va_get (D := g.1) (ci := 9) (v := .ref m14) (C := RX9) (T := TX9) (N := 41) hx hb hts q_X9_strip_f_f9 hown hE.1 hP 0 rfl rfl 14 (by decide) (hts (.fieldLink RX9 25 "SoundLawsModel" "longs" "[I") q_X9_strip_f_1) (fun _ h9 => h9) rfl dX9_strip_9 ?_
      refine lv_iload_n hx hb dX9_strip_12 rfl (lv_at hl 1 rfl) ?_
      refine k_ald k rfl (by omega) hx hb hE hP 1 rfl (by decide) dX9_strip_13 ?_
      refine lv_topi (fun x_1 ex_1 => ?_)
      obtain rfl : x_1 = nI n := by rw [ex_1]; exact en
      refine lv_icmp_ge (tgt := 55) hx hb dX9_strip_14 (by decide) (fun c14_2 => ?_) (fun c14_2 => ?_)
      · skip
        have hq9 := ge_of_le (k := n) (n := q) (by omega) (by omega) c14_2; obtain rfl : q = n := by omega
        refine lv_iload hx hb dX9_strip_55 (lv_at hl 4 rfl) ?_
        refine W.widen (k := 0) (n := 0) (Nat.le_of_ble_eq_true rfl) (Nat.le_of_ble_eq_true rfl) ?_
        exact k_ri hx hb hr hlocks hS hP hD ⟨B3, rfl, rfl, hB3⟩ dX9_strip_57
      · skip
        have hq9 := lt_of_nle (k := n) (n := q) (by omega) (by omega) c14_2
        have hc9 := stc_le (V := V) (b := 16 * k + 4 * u) q
        refine lv_aload_n hx hb dX9_strip_17 rfl (lv_at hl 0 rfl) ?_
        refine va_get (D := g.1) (ci := 9) (v := .ref m15) (C := RX9) (T := TX9) (N := 41) hx hb hts q_X9_strip_f_f9 hown hE.1 hP 0 rfl rfl 15 (by decide) (hts (.fieldLink RX9 28 "SoundLawsModel" "words" "[I") q_X9_strip_f_2) (fun _ h9 => h9) rfl dX9_strip_18 ?_
        refine lv_bipush (v := 16) hx hb dX9_strip_21 (by decide) ?_
        refine lv_iload_n hx hb dX9_strip_23 rfl (lv_at hl 1 rfl) ?_
        refine lv_imul hx hb dX9_strip_24 ?_
        refine lv_iconst (v := 4) hx hb dX9_strip_25 (by decide) ?_
        refine lv_iload_n hx hb dX9_strip_26 rfl (lv_at hl 2 rfl) ?_
        refine lv_imul hx hb dX9_strip_27 ?_
        refine lv_iadd hx hb dX9_strip_28 ?_
        refine lv_iload hx hb dX9_strip_29 (lv_at hl 5 rfl) ?_
        refine lv_iadd hx hb dX9_strip_31 ?_
        refine k_ald (16 * k + 4 * u + q) (by rw [show (16 : Int32) = nI 16 from rfl, show (4 : Int32) = nI 4 from rfl, pk_mul, pk_mul, nI_add, nI_add]) (by omega) hx hb hE hP 2 rfl (by decide) dX9_strip_32 ?_
        refine lv_istore (lv' := [(6, .int (V (16 * k + 4 * u + q))), (0, .ref k0), (1, .int (nI k)), (2, .int (nI u)), (3, .ref to), (4, .int (nI (stc V (16 * k + 4 * u) q))), (5, .int (nI q))]) hx hb dX9_strip_33 hl (by decide) rfl (fun ls hl => ?_)
        refine lv_iload hx hb dX9_strip_35 (lv_at hl 0 rfl) ?_
        refine lv_if_eq (tgt := 49) hx hb dX9_strip_37 (by decide) (fun c37_3 => ?_) (fun c37_3 => ?_)
        · skip
          have hl : lv_has ls 7 [(6, .int (V (16 * k + 4 * u + q))), (0, .ref k0), (1, .int (nI k)), (2, .int (nI u)), (3, .ref to), (4, .int (nI (stc V (16 * k + 4 * u) (q + 1)))), (5, .int (nI q))] := by rw [stc_z c37_3]; exact hl
          refine lv_iinc (v := (nI (q + 1))) (lv' := [(5, .int (nI (q + 1))), (6, .int (V (16 * k + 4 * u + q))), (0, .ref k0), (1, .int (nI k)), (2, .int (nI u)), (3, .ref to), (4, .int (nI (stc V (16 * k + 4 * u) (q + 1))))]) hx hb dX9_strip_49 hl (k := 6) rfl (nI_1 _) (by decide) rfl (fun ls hl => ?_)
          refine lv_goto (tgt := 6) hx hb dX9_strip_52 (by decide) ?_
          exact ih6 (q + 1) _ (by omega) (stR_z hB3 c37_3) (by omega) _ _ _ hP hD hS (lv_sub hl [2, 3, 4, 5, 6, 0] rfl)
        · skip
          refine lv_aload_n hx hb dX9_strip_40 rfl (lv_at hl 4 rfl) ?_
          refine lv_iload hx hb dX9_strip_41 (lv_at hl 5 rfl) ?_
          refine lv_iload hx hb dX9_strip_43 (lv_at hl 0 rfl) ?_
          refine k_ast (x := (V (16 * k + 4 * u + q))) (stc V (16 * k + 4 * u) q) rfl (by omega) hx hb hE hP hD hS 3 rfl (by decide) dX9_strip_45 (fun H locs hP hD hS => ?_)
          have hP : va_P g.1 vwCl [(k0, .inr (9, [.ref m0, .int s1, .int s2, .int s3, .int s4, .int s5, .int s6, .ref m7, .ref m8, .ref m9, .int s10, .int s11, .int s12, .ref m13, .ref m14, .ref m15, .int s16, .ref m17, .ref m18, .ref m19, .ref m20, .ref m21, .ref m22, .ref m23, .ref m24, .ref m25, .ref m26, .ref m27, .ref m28, .int s29, .ref m30, .int s31, .int s32, .int s33, .int s34, .int s35, .ref m36, .ref m37, .ref m38, .ref m39, .long s40])), (m14, ai g 6 L), (m15, ai g 96 V), (to, ai g 4 (upd B3 (stc V (16 * k + 4 * u) q) (V (16 * k + 4 * u + q))))] H := hP
          have hD : va_D A [(k0, .inr (9, [.ref m0, .int s1, .int s2, .int s3, .int s4, .int s5, .int s6, .ref m7, .ref m8, .ref m9, .int s10, .int s11, .int s12, .ref m13, .ref m14, .ref m15, .int s16, .ref m17, .ref m18, .ref m19, .ref m20, .ref m21, .ref m22, .ref m23, .ref m24, .ref m25, .ref m26, .ref m27, .ref m28, .int s29, .ref m30, .int s31, .int s32, .int s33, .int s34, .int s35, .ref m36, .ref m37, .ref m38, .ref m39, .long s40])), (m14, ai g 6 L), (m15, ai g 96 V), (to, ai g 4 (upd B3 (stc V (16 * k + 4 * u) q) (V (16 * k + 4 * u + q))))] := hD
          refine lv_iinc (v := (nI (stc V (16 * k + 4 * u) q + 1))) (lv' := [(4, .int (nI (stc V (16 * k + 4 * u) q + 1))), (6, .int (V (16 * k + 4 * u + q))), (0, .ref k0), (1, .int (nI k)), (2, .int (nI u)), (3, .ref to), (5, .int (nI q))]) hx hb dX9_strip_46 hl (k := 5) rfl (nI_1 _) (by decide) rfl (fun ls hl => ?_)
          have hl : lv_has ls 7 [(4, .int (nI (stc V (16 * k + 4 * u) (q + 1)))), (6, .int (V (16 * k + 4 * u + q))), (0, .ref k0), (1, .int (nI k)), (2, .int (nI u)), (3, .ref to), (5, .int (nI q))] := by rw [stc_s c37_3]; exact hl
          refine lv_iinc (v := (nI (q + 1))) (lv' := [(5, .int (nI (q + 1))), (4, .int (nI (stc V (16 * k + 4 * u) (q + 1)))), (6, .int (V (16 * k + 4 * u + q))), (0, .ref k0), (1, .int (nI k)), (2, .int (nI u)), (3, .ref to)]) hx hb dX9_strip_49 hl (k := 6) rfl (nI_1 _) (by decide) rfl (fun ls hl => ?_)
          refine lv_goto (tgt := 6) hx hb dX9_strip_52 (by decide) ?_
          exact ih6 (q + 1) _ (by omega) (stR_s hB3 c37_3 rfl) (by omega) _ _ _ hP hD hS (lv_sub hl [3, 4, 5, 6, 1, 0] rfl)
  exact loop6 _ 0 B (Nat.zero_le n) (fun i hi => absurd hi (Nat.not_lt_zero i)) (Nat.lt_succ_self _) _ _ _ hP hD hS (lv_sub hl [2, 3, 4, 5, 1, 0] rfl)
def po_X9_line_f (g : GG) (k0 : Nat) (m0 : Nat) (s1 : Int32) (s2 : Int32) (s3 : Int32) (s4 : Int32) (s5 : Int32) (s6 : Int32) (m7 : Nat) (m8 : Nat) (m9 : Nat) (s12 : Int32) (m13 : Nat) (m14 : Nat) (m15 : Nat) (s16 : Int32) (m17 : Nat) (m18 : Nat) (m19 : Nat) (m20 : Nat) (m21 : Nat) (m22 : Nat) (m23 : Nat) (m24 : Nat) (m25 : Nat) (m26 : Nat) (m27 : Nat) (m28 : Nat) (s29 : Int32) (m30 : Nat) (s31 : Int32) (s32 : Int32) (s33 : Int32) (s34 : Int32) (s35 : Int32) (m36 : Nat) (m37 : Nat) (m38 : Nat) (m39 : Nat) (s40 : Int64) (z : Nat) (t : Nat) (K : Nat → Int32) (L : Nat → Int32) (V : Nat → Int32) (B1 : Nat → Int32) (B2 : Nat → Int32) (Ln : Nat → Int32) (p1 : Int32) (p2 : Int32) (p3 : Int32) (p4 : Int32) : Int32 → va_W → Prop := fun (r : Int32) w => ∃ (B3 : Nat → Int32) (B4 : Nat → Int32) (Ln2 : Nat → Int32), w = [(k0, .inr (9, [.ref m0, .int s1, .int s2, .int s3, .int s4, .int s5, .int s6, .ref m7, .ref m8, .ref m9, .int (nI z), .int (nI t), .int s12, .ref m13, .ref m14, .ref m15, .int s16, .ref m17, .ref m18, .ref m19, .ref m20, .ref m21, .ref m22, .ref m23, .ref m24, .ref m25, .ref m26, .ref m27, .ref m28, .int s29, .ref m30, .int s31, .int s32, .int s33, .int s34, .int s35, .ref m36, .ref m37, .ref m38, .ref m39, .long s40])), (m13, ai g 6 K), (m14, ai g 6 L), (m15, ai g 96 V), (m26, ai g 4 B3), (m27, ai g 4 B4), (m28, ai g 25 Ln2)] ∧ (lnr p1 p2 p3 p4 z t L V = r)
theorem q_X9_line_f_f9 : ∀ w ∈ u_ws RX9 TX9 41, w ∈ wsX9_line := by decide +kernel
theorem q_X9_line_f_1 : (Cond.fieldLink RX9 58 "SoundLawsModel" "one" "[I") ∈ wsX9_line := by decide +kernel
theorem q_X9_line_f_2 : (Cond.fieldLink RX9 61 "SoundLawsModel" "other" "[I") ∈ wsX9_line := by decide +kernel
theorem q_X9_line_f_3 : (Cond.fieldLink RX9 64 "SoundLawsModel" "lines" "[I") ∈ wsX9_line := by decide +kernel
set_option maxHeartbeats 1500000 in
set_option maxRecDepth 100000 in
theorem c_X9_line_f (l : Launch) (g : GG) (k0 : Nat) (m0 : Nat) (s1 : Int32) (s2 : Int32) (s3 : Int32) (s4 : Int32) (s5 : Int32) (s6 : Int32) (m7 : Nat) (m8 : Nat) (m9 : Nat) (s12 : Int32) (m13 : Nat) (m14 : Nat) (m15 : Nat) (s16 : Int32) (m17 : Nat) (m18 : Nat) (m19 : Nat) (m20 : Nat) (m21 : Nat) (m22 : Nat) (m23 : Nat) (m24 : Nat) (m25 : Nat) (m26 : Nat) (m27 : Nat) (m28 : Nat) (s29 : Int32) (m30 : Nat) (s31 : Int32) (s32 : Int32) (s33 : Int32) (s34 : Int32) (s35 : Int32) (m36 : Nat) (m37 : Nat) (m38 : Nat) (m39 : Nat) (s40 : Int64) (z : Nat) (t : Nat) (K : Nat → Int32) (L : Nat → Int32) (V : Nat → Int32) (B1 : Nat → Int32) (B2 : Nat → Int32) (Ln : Nat → Int32) (p1 : Int32) (p2 : Int32) (p3 : Int32) (p4 : Int32) (hg : gst z t K L V) (sz : Nat) : MetI l yX9_line wsX9_line ({ frames := 3, cells := 0, slots := 0, locals := 66 }) g [.ref k0, .int p1, .int p2, .int p3, .int p4] [(k0, .inr (9, [.ref m0, .int s1, .int s2, .int s3, .int s4, .int s5, .int s6, .ref m7, .ref m8, .ref m9, .int (nI z), .int (nI t), .int s12, .ref m13, .ref m14, .ref m15, .int s16, .ref m17, .ref m18, .ref m19, .ref m20, .ref m21, .ref m22, .ref m23, .ref m24, .ref m25, .ref m26, .ref m27, .ref m28, .int s29, .ref m30, .int s31, .int s32, .int s33, .int s34, .int s35, .ref m36, .ref m37, .ref m38, .ref m39, .long s40])), (m13, ai g 6 K), (m14, ai g 6 L), (m15, ai g 96 V), (m26, ai g 4 B1), (m27, ai g 4 B2), (m28, ai g 25 Ln)] sz (po_X9_line_f g k0 m0 s1 s2 s3 s4 s5 s6 m7 m8 m9 s12 m13 m14 m15 s16 m17 m18 m19 m20 m21 m22 m23 m24 m25 m26 m27 m28 s29 m30 s31 s32 s33 s34 s35 m36 m37 m38 m39 s40 z t K L V B1 B2 Ln p1 p2 p3 p4) 0 0 := by
  refine k_of (l := l) (y := yX9_line) (ws := wsX9_line) (rm := { frames := 3, cells := 0, slots := 0, locals := 66 }) (mc := 0) (ms := 0) (av := [.ref k0, .int p1, .int p2, .int p3, .int p4]) (g := g) (wc := [(k0, .inr (9, [.ref m0, .int s1, .int s2, .int s3, .int s4, .int s5, .int s6, .ref m7, .ref m8, .ref m9, .int (nI z), .int (nI t), .int s12, .ref m13, .ref m14, .ref m15, .int s16, .ref m17, .ref m18, .ref m19, .ref m20, .ref m21, .ref m22, .ref m23, .ref m24, .ref m25, .ref m26, .ref m27, .ref m28, .int s29, .ref m30, .int s31, .int s32, .int s33, .int s34, .int s35, .ref m36, .ref m37, .ref m38, .ref m39, .long s40])), (m13, ai g 6 K), (m14, ai g 6 L), (m15, ai g 96 V), (m26, ai g 4 B1), (m27, ai g 4 B2), (m28, ai g 25 Ln)]) (Qc := fun A => va_Qi (po_X9_line_f g k0 m0 s1 s2 s3 s4 s5 s6 m7 m8 m9 s12 m13 m14 m15 s16 m17 m18 m19 m20 m21 m22 m23 m24 m25 m26 m27 m28 s29 m30 s31 s32 s33 s34 s35 m36 m37 m38 m39 s40 z t K L V B1 B2 Ln p1 p2 p3 p4) (bk g A) A) (cc := cX9_line) (maxL := 13) (ret := (some .int)) (by decide) rfl (Nat.le_of_ble_eq_true rfl) ?_ sz
  intro p e s m below meth c hx hb hr hts hown hlocks hnm hml A hA hE hZ hP hD hS ls hl
  have hown : s.vm.findClass RX9 = some m.cls := hown
  have hl : lv_has ls 13 [(0, .ref k0), (1, .int p1), (2, .int p2), (3, .int p3), (4, .int p4)] := hl
  obtain ⟨hz, hzt, ht4, hK, hL, hV⟩ := id hg
  refine lv_aload_n hx hb dX9_line_0 rfl (lv_at hl 0 rfl) ?_
  refine lv_iload_n hx hb dX9_line_1 rfl (lv_at hl 1 rfl) ?_
  refine k_ci (wr := [(m13, ai g 6 K), (m14, ai g 6 L), (m15, ai g 96 V), (m26, ai g 4 B1), (m27, ai g 4 B2), (m28, ai g 25 Ln)]) hP hD hS hA [0] [1, 2, 3, 4, 5, 6] rfl rfl (by decide) (by decide) (va_runV (As := [.int p1]) (rest := []) ⟨hx, hb, hml, hown, hts⟩ (c_X9_isSet_g l g k0 m0 s1 s2 s3 s4 s5 s6 m7 m8 m9 (nI t) s12 m13 m14 m15 s16 m17 m18 m19 m20 m21 m22 m23 m24 m25 m26 m27 m28 s29 m30 s31 s32 s33 s34 s35 m36 m37 m38 m39 s40 z p1 (by first | assumption | omega) s.heap.size) (cwV 1 hts gX9_line_X9_isSet rfl rfl rfl (by decide +kernel) ⟨Nat.le_of_ble_eq_true rfl, Nat.le_of_ble_eq_true rfl⟩) (k_preV hE hZ hP hD hS hA [0] rfl (by decide) (va_recv hE.1 hP (ci := 9) (q0 := 0) rfl rfl)) rfl rfl hl.1 rfl (lv_room (Nat.le_of_ble_eq_true rfl)) dX9_line_2 ⟨Nat.le_of_ble_eq_true rfl, Nat.le_of_ble_eq_true rfl⟩) (fun r_1 w1 H locs hw hP hD hS => ?_)
  obtain ⟨rfl, rfl⟩ := hw
  have hP : va_P g.1 vwCl [(m13, ai g 6 K), (m14, ai g 6 L), (m15, ai g 96 V), (m26, ai g 4 B1), (m27, ai g 4 B2), (m28, ai g 25 Ln), (k0, .inr (9, [.ref m0, .int s1, .int s2, .int s3, .int s4, .int s5, .int s6, .ref m7, .ref m8, .ref m9, .int (nI z), .int (nI t), .int s12, .ref m13, .ref m14, .ref m15, .int s16, .ref m17, .ref m18, .ref m19, .ref m20, .ref m21, .ref m22, .ref m23, .ref m24, .ref m25, .ref m26, .ref m27, .ref m28, .int s29, .ref m30, .int s31, .int s32, .int s33, .int s34, .int s35, .ref m36, .ref m37, .ref m38, .ref m39, .long s40]))] H := hP
  have hD : va_D A [(m13, ai g 6 K), (m14, ai g 6 L), (m15, ai g 96 V), (m26, ai g 4 B1), (m27, ai g 4 B2), (m28, ai g 25 Ln), (k0, .inr (9, [.ref m0, .int s1, .int s2, .int s3, .int s4, .int s5, .int s6, .ref m7, .ref m8, .ref m9, .int (nI z), .int (nI t), .int s12, .ref m13, .ref m14, .ref m15, .int s16, .ref m17, .ref m18, .ref m19, .ref m20, .ref m21, .ref m22, .ref m23, .ref m24, .ref m25, .ref m26, .ref m27, .ref m28, .int s29, .ref m30, .int s31, .int s32, .int s33, .int s34, .int s35, .ref m36, .ref m37, .ref m38, .ref m39, .long s40]))] := hD
  refine lv_if_eq (tgt := 33) hx hb dX9_line_5 (by decide) (fun c5_3 => ?_) (fun c5_3 => ?_)
  · skip
    refine lv_bipush (v := (-101)) hx hb dX9_line_33 (by decide) ?_
    refine W.widen (k := 0) (n := 0) (Nat.le_of_ble_eq_true rfl) (Nat.le_of_ble_eq_true rfl) ?_
    have hP9 := hP.sub (ws' := [(k0, .inr (9, [.ref m0, .int s1, .int s2, .int s3, .int s4, .int s5, .int s6, .ref m7, .ref m8, .ref m9, .int (nI z), .int (nI t), .int s12, .ref m13, .ref m14, .ref m15, .int s16, .ref m17, .ref m18, .ref m19, .ref m20, .ref m21, .ref m22, .ref m23, .ref m24, .ref m25, .ref m26, .ref m27, .ref m28, .int s29, .ref m30, .int s31, .int s32, .int s33, .int s34, .int s35, .ref m36, .ref m37, .ref m38, .ref m39, .long s40])), (m13, ai g 6 K), (m14, ai g 6 L), (m15, ai g 96 V), (m26, ai g 4 B1), (m27, ai g 4 B2), (m28, ai g 25 Ln)]) [6, 0, 1, 2, 3, 4, 5] rfl
    have hD9 := hD.sub (ws' := [(k0, .inr (9, [.ref m0, .int s1, .int s2, .int s3, .int s4, .int s5, .int s6, .ref m7, .ref m8, .ref m9, .int (nI z), .int (nI t), .int s12, .ref m13, .ref m14, .ref m15, .int s16, .ref m17, .ref m18, .ref m19, .ref m20, .ref m21, .ref m22, .ref m23, .ref m24, .ref m25, .ref m26, .ref m27, .ref m28, .int s29, .ref m30, .int s31, .int s32, .int s33, .int s34, .int s35, .ref m36, .ref m37, .ref m38, .ref m39, .long s40])), (m13, ai g 6 K), (m14, ai g 6 L), (m15, ai g 96 V), (m26, ai g 4 B1), (m27, ai g 4 B2), (m28, ai g 25 Ln)]) [6, 0, 1, 2, 3, 4, 5] (by decide) rfl
    exact k_ri hx hb hr hlocks hS hP9 hD9 ⟨B1, B2, Ln, rfl, (lnr_u (Or.inl c5_3))⟩ dX9_line_35
  · skip
    refine lv_aload_n hx hb dX9_line_8 rfl (lv_at hl 0 rfl) ?_
    refine lv_iload_n hx hb dX9_line_9 rfl (lv_at hl 3 rfl) ?_
    refine k_ci (wr := [(m13, ai g 6 K), (m14, ai g 6 L), (m15, ai g 96 V), (m26, ai g 4 B1), (m27, ai g 4 B2), (m28, ai g 25 Ln)]) hP hD hS hA [6] [0, 1, 2, 3, 4, 5] rfl rfl (by decide) (by decide) (va_runV (As := [.int p3]) (rest := []) ⟨hx, hb, hml, hown, hts⟩ (c_X9_isSet_g l g k0 m0 s1 s2 s3 s4 s5 s6 m7 m8 m9 (nI t) s12 m13 m14 m15 s16 m17 m18 m19 m20 m21 m22 m23 m24 m25 m26 m27 m28 s29 m30 s31 s32 s33 s34 s35 m36 m37 m38 m39 s40 z p3 (by first | assumption | omega) H.size) (cwV 1 hts gX9_line_X9_isSet rfl rfl rfl (by decide +kernel) ⟨Nat.le_of_ble_eq_true rfl, Nat.le_of_ble_eq_true rfl⟩) (k_preV hE hZ hP hD hS hA [6] rfl (by decide) (va_recv hE.1 hP (ci := 9) (q0 := 6) rfl rfl)) rfl rfl hl.1 rfl (lv_room (Nat.le_of_ble_eq_true rfl)) dX9_line_10 ⟨Nat.le_of_ble_eq_true rfl, Nat.le_of_ble_eq_true rfl⟩) (fun r_4 w1 H locs hw hP hD hS => ?_)
    obtain ⟨rfl, rfl⟩ := hw
    have hP : va_P g.1 vwCl [(m13, ai g 6 K), (m14, ai g 6 L), (m15, ai g 96 V), (m26, ai g 4 B1), (m27, ai g 4 B2), (m28, ai g 25 Ln), (k0, .inr (9, [.ref m0, .int s1, .int s2, .int s3, .int s4, .int s5, .int s6, .ref m7, .ref m8, .ref m9, .int (nI z), .int (nI t), .int s12, .ref m13, .ref m14, .ref m15, .int s16, .ref m17, .ref m18, .ref m19, .ref m20, .ref m21, .ref m22, .ref m23, .ref m24, .ref m25, .ref m26, .ref m27, .ref m28, .int s29, .ref m30, .int s31, .int s32, .int s33, .int s34, .int s35, .ref m36, .ref m37, .ref m38, .ref m39, .long s40]))] H := hP
    have hD : va_D A [(m13, ai g 6 K), (m14, ai g 6 L), (m15, ai g 96 V), (m26, ai g 4 B1), (m27, ai g 4 B2), (m28, ai g 25 Ln), (k0, .inr (9, [.ref m0, .int s1, .int s2, .int s3, .int s4, .int s5, .int s6, .ref m7, .ref m8, .ref m9, .int (nI z), .int (nI t), .int s12, .ref m13, .ref m14, .ref m15, .int s16, .ref m17, .ref m18, .ref m19, .ref m20, .ref m21, .ref m22, .ref m23, .ref m24, .ref m25, .ref m26, .ref m27, .ref m28, .int s29, .ref m30, .int s31, .int s32, .int s33, .int s34, .int s35, .ref m36, .ref m37, .ref m38, .ref m39, .long s40]))] := hD
    refine lv_if_eq (tgt := 33) hx hb dX9_line_13 (by decide) (fun c13_6 => ?_) (fun c13_6 => ?_)
    · skip
      refine lv_bipush (v := (-101)) hx hb dX9_line_33 (by decide) ?_
      refine W.widen (k := 0) (n := 0) (Nat.le_of_ble_eq_true rfl) (Nat.le_of_ble_eq_true rfl) ?_
      have hP9 := hP.sub (ws' := [(k0, .inr (9, [.ref m0, .int s1, .int s2, .int s3, .int s4, .int s5, .int s6, .ref m7, .ref m8, .ref m9, .int (nI z), .int (nI t), .int s12, .ref m13, .ref m14, .ref m15, .int s16, .ref m17, .ref m18, .ref m19, .ref m20, .ref m21, .ref m22, .ref m23, .ref m24, .ref m25, .ref m26, .ref m27, .ref m28, .int s29, .ref m30, .int s31, .int s32, .int s33, .int s34, .int s35, .ref m36, .ref m37, .ref m38, .ref m39, .long s40])), (m13, ai g 6 K), (m14, ai g 6 L), (m15, ai g 96 V), (m26, ai g 4 B1), (m27, ai g 4 B2), (m28, ai g 25 Ln)]) [6, 0, 1, 2, 3, 4, 5] rfl
      have hD9 := hD.sub (ws' := [(k0, .inr (9, [.ref m0, .int s1, .int s2, .int s3, .int s4, .int s5, .int s6, .ref m7, .ref m8, .ref m9, .int (nI z), .int (nI t), .int s12, .ref m13, .ref m14, .ref m15, .int s16, .ref m17, .ref m18, .ref m19, .ref m20, .ref m21, .ref m22, .ref m23, .ref m24, .ref m25, .ref m26, .ref m27, .ref m28, .int s29, .ref m30, .int s31, .int s32, .int s33, .int s34, .int s35, .ref m36, .ref m37, .ref m38, .ref m39, .long s40])), (m13, ai g 6 K), (m14, ai g 6 L), (m15, ai g 96 V), (m26, ai g 4 B1), (m27, ai g 4 B2), (m28, ai g 25 Ln)]) [6, 0, 1, 2, 3, 4, 5] (by decide) rfl
      exact k_ri hx hb hr hlocks hS hP9 hD9 ⟨B1, B2, Ln, rfl, (lnr_u (Or.inr (Or.inr (Or.inl c13_6))))⟩ dX9_line_35
    · skip
      refine lv_aload_n hx hb dX9_line_16 rfl (lv_at hl 0 rfl) ?_
      refine lv_iload_n hx hb dX9_line_17 rfl (lv_at hl 2 rfl) ?_
      refine k_ci (wr := [(m13, ai g 6 K), (m14, ai g 6 L), (m15, ai g 96 V), (m26, ai g 4 B1), (m27, ai g 4 B2), (m28, ai g 25 Ln)]) hP hD hS hA [6] [0, 1, 2, 3, 4, 5] rfl rfl (by decide) (by decide) (va_runV (As := [.int p2]) (rest := []) ⟨hx, hb, hml, hown, hts⟩ (c_X9_isTongue_g l g k0 m0 s1 s2 s3 s4 s5 s6 m7 m8 m9 (nI z) s12 m13 m14 m15 s16 m17 m18 m19 m20 m21 m22 m23 m24 m25 m26 m27 m28 s29 m30 s31 s32 s33 s34 s35 m36 m37 m38 m39 s40 t p2 (by first | assumption | omega) H.size) (cwV 1 hts gX9_line_X9_isTongue rfl rfl rfl (by decide +kernel) ⟨Nat.le_of_ble_eq_true rfl, Nat.le_of_ble_eq_true rfl⟩) (k_preV hE hZ hP hD hS hA [6] rfl (by decide) (va_recv hE.1 hP (ci := 9) (q0 := 6) rfl rfl)) rfl rfl hl.1 rfl (lv_room (Nat.le_of_ble_eq_true rfl)) dX9_line_18 ⟨Nat.le_of_ble_eq_true rfl, Nat.le_of_ble_eq_true rfl⟩) (fun r_7 w1 H locs hw hP hD hS => ?_)
      obtain ⟨rfl, rfl⟩ := hw
      have hP : va_P g.1 vwCl [(m13, ai g 6 K), (m14, ai g 6 L), (m15, ai g 96 V), (m26, ai g 4 B1), (m27, ai g 4 B2), (m28, ai g 25 Ln), (k0, .inr (9, [.ref m0, .int s1, .int s2, .int s3, .int s4, .int s5, .int s6, .ref m7, .ref m8, .ref m9, .int (nI z), .int (nI t), .int s12, .ref m13, .ref m14, .ref m15, .int s16, .ref m17, .ref m18, .ref m19, .ref m20, .ref m21, .ref m22, .ref m23, .ref m24, .ref m25, .ref m26, .ref m27, .ref m28, .int s29, .ref m30, .int s31, .int s32, .int s33, .int s34, .int s35, .ref m36, .ref m37, .ref m38, .ref m39, .long s40]))] H := hP
      have hD : va_D A [(m13, ai g 6 K), (m14, ai g 6 L), (m15, ai g 96 V), (m26, ai g 4 B1), (m27, ai g 4 B2), (m28, ai g 25 Ln), (k0, .inr (9, [.ref m0, .int s1, .int s2, .int s3, .int s4, .int s5, .int s6, .ref m7, .ref m8, .ref m9, .int (nI z), .int (nI t), .int s12, .ref m13, .ref m14, .ref m15, .int s16, .ref m17, .ref m18, .ref m19, .ref m20, .ref m21, .ref m22, .ref m23, .ref m24, .ref m25, .ref m26, .ref m27, .ref m28, .int s29, .ref m30, .int s31, .int s32, .int s33, .int s34, .int s35, .ref m36, .ref m37, .ref m38, .ref m39, .long s40]))] := hD
      refine lv_if_eq (tgt := 33) hx hb dX9_line_21 (by decide) (fun c21_9 => ?_) (fun c21_9 => ?_)
      · skip
        refine lv_bipush (v := (-101)) hx hb dX9_line_33 (by decide) ?_
        refine W.widen (k := 0) (n := 0) (Nat.le_of_ble_eq_true rfl) (Nat.le_of_ble_eq_true rfl) ?_
        have hP9 := hP.sub (ws' := [(k0, .inr (9, [.ref m0, .int s1, .int s2, .int s3, .int s4, .int s5, .int s6, .ref m7, .ref m8, .ref m9, .int (nI z), .int (nI t), .int s12, .ref m13, .ref m14, .ref m15, .int s16, .ref m17, .ref m18, .ref m19, .ref m20, .ref m21, .ref m22, .ref m23, .ref m24, .ref m25, .ref m26, .ref m27, .ref m28, .int s29, .ref m30, .int s31, .int s32, .int s33, .int s34, .int s35, .ref m36, .ref m37, .ref m38, .ref m39, .long s40])), (m13, ai g 6 K), (m14, ai g 6 L), (m15, ai g 96 V), (m26, ai g 4 B1), (m27, ai g 4 B2), (m28, ai g 25 Ln)]) [6, 0, 1, 2, 3, 4, 5] rfl
        have hD9 := hD.sub (ws' := [(k0, .inr (9, [.ref m0, .int s1, .int s2, .int s3, .int s4, .int s5, .int s6, .ref m7, .ref m8, .ref m9, .int (nI z), .int (nI t), .int s12, .ref m13, .ref m14, .ref m15, .int s16, .ref m17, .ref m18, .ref m19, .ref m20, .ref m21, .ref m22, .ref m23, .ref m24, .ref m25, .ref m26, .ref m27, .ref m28, .int s29, .ref m30, .int s31, .int s32, .int s33, .int s34, .int s35, .ref m36, .ref m37, .ref m38, .ref m39, .long s40])), (m13, ai g 6 K), (m14, ai g 6 L), (m15, ai g 96 V), (m26, ai g 4 B1), (m27, ai g 4 B2), (m28, ai g 25 Ln)]) [6, 0, 1, 2, 3, 4, 5] (by decide) rfl
        exact k_ri hx hb hr hlocks hS hP9 hD9 ⟨B1, B2, Ln, rfl, (lnr_u (Or.inr (Or.inl c21_9)))⟩ dX9_line_35
      · skip
        refine lv_aload_n hx hb dX9_line_24 rfl (lv_at hl 0 rfl) ?_
        refine lv_iload hx hb dX9_line_25 (lv_at hl 4 rfl) ?_
        refine k_ci (wr := [(m13, ai g 6 K), (m14, ai g 6 L), (m15, ai g 96 V), (m26, ai g 4 B1), (m27, ai g 4 B2), (m28, ai g 25 Ln)]) hP hD hS hA [6] [0, 1, 2, 3, 4, 5] rfl rfl (by decide) (by decide) (va_runV (As := [.int p4]) (rest := []) ⟨hx, hb, hml, hown, hts⟩ (c_X9_isTongue_g l g k0 m0 s1 s2 s3 s4 s5 s6 m7 m8 m9 (nI z) s12 m13 m14 m15 s16 m17 m18 m19 m20 m21 m22 m23 m24 m25 m26 m27 m28 s29 m30 s31 s32 s33 s34 s35 m36 m37 m38 m39 s40 t p4 (by first | assumption | omega) H.size) (cwV 1 hts gX9_line_X9_isTongue rfl rfl rfl (by decide +kernel) ⟨Nat.le_of_ble_eq_true rfl, Nat.le_of_ble_eq_true rfl⟩) (k_preV hE hZ hP hD hS hA [6] rfl (by decide) (va_recv hE.1 hP (ci := 9) (q0 := 6) rfl rfl)) rfl rfl hl.1 rfl (lv_room (Nat.le_of_ble_eq_true rfl)) dX9_line_27 ⟨Nat.le_of_ble_eq_true rfl, Nat.le_of_ble_eq_true rfl⟩) (fun r_10 w1 H locs hw hP hD hS => ?_)
        obtain ⟨rfl, rfl⟩ := hw
        have hP : va_P g.1 vwCl [(m13, ai g 6 K), (m14, ai g 6 L), (m15, ai g 96 V), (m26, ai g 4 B1), (m27, ai g 4 B2), (m28, ai g 25 Ln), (k0, .inr (9, [.ref m0, .int s1, .int s2, .int s3, .int s4, .int s5, .int s6, .ref m7, .ref m8, .ref m9, .int (nI z), .int (nI t), .int s12, .ref m13, .ref m14, .ref m15, .int s16, .ref m17, .ref m18, .ref m19, .ref m20, .ref m21, .ref m22, .ref m23, .ref m24, .ref m25, .ref m26, .ref m27, .ref m28, .int s29, .ref m30, .int s31, .int s32, .int s33, .int s34, .int s35, .ref m36, .ref m37, .ref m38, .ref m39, .long s40]))] H := hP
        have hD : va_D A [(m13, ai g 6 K), (m14, ai g 6 L), (m15, ai g 96 V), (m26, ai g 4 B1), (m27, ai g 4 B2), (m28, ai g 25 Ln), (k0, .inr (9, [.ref m0, .int s1, .int s2, .int s3, .int s4, .int s5, .int s6, .ref m7, .ref m8, .ref m9, .int (nI z), .int (nI t), .int s12, .ref m13, .ref m14, .ref m15, .int s16, .ref m17, .ref m18, .ref m19, .ref m20, .ref m21, .ref m22, .ref m23, .ref m24, .ref m25, .ref m26, .ref m27, .ref m28, .int s29, .ref m30, .int s31, .int s32, .int s33, .int s34, .int s35, .ref m36, .ref m37, .ref m38, .ref m39, .long s40]))] := hD
        refine lv_if_ne (tgt := 36) hx hb dX9_line_30 (by decide) (fun c30_12 => ?_) (fun c30_12 => ?_)
        · skip
          obtain ⟨k1, hk1, rfl⟩ := isI_of (p := p1) (by omega) c5_3
          obtain ⟨k3, hk3, rfl⟩ := isI_of (p := p3) (by omega) c13_6
          obtain ⟨k2, hk2, rfl⟩ := isI_of (p := p2) (by omega) c21_9
          obtain ⟨k4, hk4, rfl⟩ := isI_of (p := p4) (by omega) c30_12
          obtain ⟨n1, hn1, en1⟩ := hL (k1) (by omega)
          obtain ⟨n3, hn3, en3⟩ := hL (k3) (by omega)
          refine lv_aload_n hx hb dX9_line_36 rfl (lv_at hl 0 rfl) ?_
          refine lv_iload_n hx hb dX9_line_37 rfl (lv_at hl 1 rfl) ?_
          refine lv_iload_n hx hb dX9_line_38 rfl (lv_at hl 2 rfl) ?_
          refine lv_aload_n hx hb dX9_line_39 rfl (lv_at hl 0 rfl) ?_
          refine va_get (D := g.1) (ci := 9) (v := .ref m26) (C := RX9) (T := TX9) (N := 41) hx hb hts q_X9_line_f_f9 hown hE.1 hP 6 rfl rfl 26 (by decide) (hts (.fieldLink RX9 58 "SoundLawsModel" "one" "[I") q_X9_line_f_1) (fun _ h9 => h9) rfl dX9_line_40 ?_
          refine k_ci (wr := [(m13, ai g 6 K), (m27, ai g 4 B2), (m28, ai g 25 Ln)]) hP hD hS hA [6, 1, 2, 3] [0, 4, 5] rfl rfl (by decide) (by decide) (va_runV (As := [.int (nI k1), .int (nI k2), .ref m26]) (rest := []) ⟨hx, hb, hml, hown, hts⟩ (c_X9_strip_f l g k0 m0 s1 s2 s3 s4 s5 s6 m7 m8 m9 (nI z) (nI t) s12 m13 m14 m15 s16 m17 m18 m19 m20 m21 m22 m23 m24 m25 m26 m27 m28 s29 m30 s31 s32 s33 s34 s35 m36 m37 m38 m39 s40 L V B1 k1 k2 m26 n1 (by first | assumption | omega) (by first | assumption | omega) en1 hn1 H.size) (cwV 3 hts gX9_line_X9_strip rfl rfl rfl (by decide +kernel) ⟨Nat.le_of_ble_eq_true rfl, Nat.le_of_ble_eq_true rfl⟩) (k_preV hE hZ hP hD hS hA [6, 1, 2, 3] rfl (by decide) (va_recv hE.1 hP (ci := 9) (q0 := 6) rfl rfl)) rfl rfl hl.1 rfl (lv_room (Nat.le_of_ble_eq_true rfl)) dX9_line_43 ⟨Nat.le_of_ble_eq_true rfl, Nat.le_of_ble_eq_true rfl⟩) (fun r_13 w1 H locs hw hP hD hS => ?_)
          obtain ⟨B2_14, rfl, rfl, hB2_16⟩ := hw
          have hP : va_P g.1 vwCl [(m13, ai g 6 K), (m27, ai g 4 B2), (m28, ai g 25 Ln), (k0, .inr (9, [.ref m0, .int s1, .int s2, .int s3, .int s4, .int s5, .int s6, .ref m7, .ref m8, .ref m9, .int (nI z), .int (nI t), .int s12, .ref m13, .ref m14, .ref m15, .int s16, .ref m17, .ref m18, .ref m19, .ref m20, .ref m21, .ref m22, .ref m23, .ref m24, .ref m25, .ref m26, .ref m27, .ref m28, .int s29, .ref m30, .int s31, .int s32, .int s33, .int s34, .int s35, .ref m36, .ref m37, .ref m38, .ref m39, .long s40])), (m14, ai g 6 L), (m15, ai g 96 V), (m26, ai g 4 B2_14)] H := hP
          have hD : va_D A [(m13, ai g 6 K), (m27, ai g 4 B2), (m28, ai g 25 Ln), (k0, .inr (9, [.ref m0, .int s1, .int s2, .int s3, .int s4, .int s5, .int s6, .ref m7, .ref m8, .ref m9, .int (nI z), .int (nI t), .int s12, .ref m13, .ref m14, .ref m15, .int s16, .ref m17, .ref m18, .ref m19, .ref m20, .ref m21, .ref m22, .ref m23, .ref m24, .ref m25, .ref m26, .ref m27, .ref m28, .int s29, .ref m30, .int s31, .int s32, .int s33, .int s34, .int s35, .ref m36, .ref m37, .ref m38, .ref m39, .long s40])), (m14, ai g 6 L), (m15, ai g 96 V), (m26, ai g 4 B2_14)] := hD
          refine lv_istore (lv' := [(5, .int (nI (stc V (16 * k1 + 4 * k2) n1))), (0, .ref k0), (1, .int (nI k1)), (2, .int (nI k2)), (3, .int (nI k3)), (4, .int (nI k4))]) hx hb dX9_line_46 hl (by decide) rfl (fun ls hl => ?_)
          refine lv_aload_n hx hb dX9_line_48 rfl (lv_at hl 1 rfl) ?_
          refine lv_iload_n hx hb dX9_line_49 rfl (lv_at hl 4 rfl) ?_
          refine lv_iload hx hb dX9_line_50 (lv_at hl 5 rfl) ?_
          refine lv_aload_n hx hb dX9_line_52 rfl (lv_at hl 1 rfl) ?_
          refine va_get (D := g.1) (ci := 9) (v := .ref m27) (C := RX9) (T := TX9) (N := 41) hx hb hts q_X9_line_f_f9 hown hE.1 hP 3 rfl rfl 27 (by decide) (hts (.fieldLink RX9 61 "SoundLawsModel" "other" "[I") q_X9_line_f_2) (fun _ h9 => h9) rfl dX9_line_53 ?_
          refine k_ci (wr := [(m13, ai g 6 K), (m28, ai g 25 Ln), (m26, ai g 4 B2_14)]) hP hD hS hA [3, 4, 5, 1] [0, 2, 6] rfl rfl (by decide) (by decide) (va_runV (As := [.int (nI k3), .int (nI k4), .ref m27]) (rest := []) ⟨hx, hb, hml, hown, hts⟩ (c_X9_strip_f l g k0 m0 s1 s2 s3 s4 s5 s6 m7 m8 m9 (nI z) (nI t) s12 m13 m14 m15 s16 m17 m18 m19 m20 m21 m22 m23 m24 m25 m26 m27 m28 s29 m30 s31 s32 s33 s34 s35 m36 m37 m38 m39 s40 L V B2 k3 k4 m27 n3 (by first | assumption | omega) (by first | assumption | omega) en3 hn3 H.size) (cwV 3 hts gX9_line_X9_strip rfl rfl rfl (by decide +kernel) ⟨Nat.le_of_ble_eq_true rfl, Nat.le_of_ble_eq_true rfl⟩) (k_preV hE hZ hP hD hS hA [3, 4, 5, 1] rfl (by decide) (va_recv hE.1 hP (ci := 9) (q0 := 3) rfl rfl)) rfl rfl hl.1 rfl (lv_room (Nat.le_of_ble_eq_true rfl)) dX9_line_56 ⟨Nat.le_of_ble_eq_true rfl, Nat.le_of_ble_eq_true rfl⟩) (fun r_17 w1 H locs hw hP hD hS => ?_)
          obtain ⟨B2_18, rfl, rfl, hB2_20⟩ := hw
          have hP : va_P g.1 vwCl [(m13, ai g 6 K), (m28, ai g 25 Ln), (m26, ai g 4 B2_14), (k0, .inr (9, [.ref m0, .int s1, .int s2, .int s3, .int s4, .int s5, .int s6, .ref m7, .ref m8, .ref m9, .int (nI z), .int (nI t), .int s12, .ref m13, .ref m14, .ref m15, .int s16, .ref m17, .ref m18, .ref m19, .ref m20, .ref m21, .ref m22, .ref m23, .ref m24, .ref m25, .ref m26, .ref m27, .ref m28, .int s29, .ref m30, .int s31, .int s32, .int s33, .int s34, .int s35, .ref m36, .ref m37, .ref m38, .ref m39, .long s40])), (m14, ai g 6 L), (m15, ai g 96 V), (m27, ai g 4 B2_18)] H := hP
          have hD : va_D A [(m13, ai g 6 K), (m28, ai g 25 Ln), (m26, ai g 4 B2_14), (k0, .inr (9, [.ref m0, .int s1, .int s2, .int s3, .int s4, .int s5, .int s6, .ref m7, .ref m8, .ref m9, .int (nI z), .int (nI t), .int s12, .ref m13, .ref m14, .ref m15, .int s16, .ref m17, .ref m18, .ref m19, .ref m20, .ref m21, .ref m22, .ref m23, .ref m24, .ref m25, .ref m26, .ref m27, .ref m28, .int s29, .ref m30, .int s31, .int s32, .int s33, .int s34, .int s35, .ref m36, .ref m37, .ref m38, .ref m39, .long s40])), (m14, ai g 6 L), (m15, ai g 96 V), (m27, ai g 4 B2_18)] := hD
          refine lv_istore (lv' := [(6, .int (nI (stc V (16 * k3 + 4 * k4) n3))), (5, .int (nI (stc V (16 * k1 + 4 * k2) n1))), (0, .ref k0), (1, .int (nI k1)), (2, .int (nI k2)), (3, .int (nI k3)), (4, .int (nI k4))]) hx hb dX9_line_59 hl (by decide) rfl (fun ls hl => ?_)
          have hs1 := stc_le (V := V) (b := 16 * k1 + 4 * k2) n1; have hs3 := stc_le (V := V) (b := 16 * k3 + 4 * k4) n3
          have hM1 : ∀ i, i < (stc V (16 * k1 + 4 * k2) n1) → ∃ v, v < 9 ∧ B2_14 i = nI v := fun i hi => by rw [hB2_16 i hi]; exact stv_rng n1 (fun a ha => hV _ (by omega)) i hi
          have hM2 : ∀ i, i < (stc V (16 * k3 + 4 * k4) n3) → ∃ v, v < 9 ∧ B2_18 i = nI v := fun i hi => by rw [hB2_20 i hi]; exact stv_rng n3 (fun a ha => hV _ (by omega)) i hi
          refine lv_iconst (v := 0) hx hb dX9_line_61 (by decide) ?_
          refine lv_istore (lv' := [(7, .int 0), (6, .int (nI (stc V (16 * k3 + 4 * k4) n3))), (5, .int (nI (stc V (16 * k1 + 4 * k2) n1))), (0, .ref k0), (1, .int (nI k1)), (2, .int (nI k2)), (3, .int (nI k3)), (4, .int (nI k4))]) hx hb dX9_line_62 hl (by decide) rfl (fun ls hl => ?_)
          have loop64 : ∀ (fu : Nat) (i : Nat) (L1 : Nat → Int32), (hi : i ≤ (stc V (16 * k1 + 4 * k2) n1) + 1) → (hT1 : TBL B2_14 B2_18 (stc V (16 * k3 + 4 * k4) n3) i 0 L1) → (stc V (16 * k1 + 4 * k2) n1) + 1 - i < fu → ∀ (H : Heap) (locs : List Loc) (ls : Array Slot), va_P g.1 vwCl [(m13, ai g 6 K), (m28, ai g 25 L1), (m26, ai g 4 B2_14), (k0, .inr (9, [.ref m0, .int s1, .int s2, .int s3, .int s4, .int s5, .int s6, .ref m7, .ref m8, .ref m9, .int (nI z), .int (nI t), .int s12, .ref m13, .ref m14, .ref m15, .int s16, .ref m17, .ref m18, .ref m19, .ref m20, .ref m21, .ref m22, .ref m23, .ref m24, .ref m25, .ref m26, .ref m27, .ref m28, .int s29, .ref m30, .int s31, .int s32, .int s33, .int s34, .int s35, .ref m36, .ref m37, .ref m38, .ref m39, .long s40])), (m14, ai g 6 L), (m15, ai g 96 V), (m27, ai g 4 B2_18)] H → va_D A [(m13, ai g 6 K), (m28, ai g 25 L1), (m26, ai g 4 B2_14), (k0, .inr (9, [.ref m0, .int s1, .int s2, .int s3, .int s4, .int s5, .int s6, .ref m7, .ref m8, .ref m9, .int (nI z), .int (nI t), .int s12, .ref m13, .ref m14, .ref m15, .int s16, .ref m17, .ref m18, .ref m19, .ref m20, .ref m21, .ref m22, .ref m23, .ref m24, .ref m25, .ref m26, .ref m27, .ref m28, .int s29, .ref m30, .int s31, .int s32, .int s33, .int s34, .int s35, .ref m36, .ref m37, .ref m38, .ref m39, .long s40])), (m14, ai g 6 L), (m15, ai g 96 V), (m27, ai g 4 B2_18)] → va_S A s.heap H locs → lv_has ls 13 [(0, .ref k0), (1, .int (nI k1)), (2, .int (nI k2)), (3, .int (nI k3)), (4, .int (nI k4)), (5, .int (nI (stc V (16 * k1 + 4 * k2) n1))), (6, .int (nI (stc V (16 * k3 + 4 * k4) n3))), (7, .int (nI i))] → W p l e ({ frames := 3, cells := 0, slots := 0, locals := 66 }) s m [.ref k0, .int (nI k1), .int (nI k2), .int (nI k3), .int (nI k4)].toArray below meth c H locs 0 0 (MQ below (va_Qi (po_X9_line_f g k0 m0 s1 s2 s3 s4 s5 s6 m7 m8 m9 s12 m13 m14 m15 s16 m17 m18 m19 m20 m21 m22 m23 m24 m25 m26 m27 m28 s29 m30 s31 s32 s33 s34 s35 m36 m37 m38 m39 s40 z t K L V B1 B2 Ln (nI k1) (nI k2) (nI k3) (nI k4)) (bk g A) A) [.ref k0, .int (nI k1), .int (nI k2), .int (nI k3), .int (nI k4)].toArray s 0 0 A) (F0 m 64 ls []) := by
            intro fu
            induction fu with
            | zero => intro i L1 hi hT1 hfu; exact absurd hfu (Nat.not_lt_zero _)
            | succ fu ih =>
              intro i L1 hi hT1 hfu H locs ls hP hD hS hl
              have ih64 := ih
              refine lv_iload hx hb dX9_line_64 (lv_at hl 7 rfl) ?_
              refine lv_iload hx hb dX9_line_66 (lv_at hl 5 rfl) ?_
              refine lv_icmp_gt (tgt := 283) hx hb dX9_line_68 (by decide) (fun c68_21 => ?_) (fun c68_21 => ?_)
              · skip
                have hi9 : (stc V (16 * k1 + 4 * k2) n1) < i := (nI_ltI (by omega) (by omega)).mp c68_21
                refine lv_aload_n hx hb dX9_line_283 rfl (lv_at hl 0 rfl) ?_
                refine va_get (D := g.1) (ci := 9) (v := .ref m28) (C := RX9) (T := TX9) (N := 41) hx hb hts q_X9_line_f_f9 hown hE.1 hP 3 rfl rfl 28 (by decide) (hts (.fieldLink RX9 64 "SoundLawsModel" "lines" "[I") q_X9_line_f_3) (fun _ h9 => h9) rfl dX9_line_284 ?_
                refine lv_iconst (v := 5) hx hb dX9_line_287 (by decide) ?_
                refine lv_iload hx hb dX9_line_288 (lv_at hl 5 rfl) ?_
                refine lv_imul hx hb dX9_line_290 ?_
                refine lv_iload hx hb dX9_line_291 (lv_at hl 6 rfl) ?_
                refine lv_iadd hx hb dX9_line_293 ?_
                refine k_ald (5 * (stc V (16 * k1 + 4 * k2) n1) + (stc V (16 * k3 + 4 * k4) n3)) (by rw [show (5 : Int32) = nI 5 from rfl, pk_mul, nI_add]) (by omega) hx hb hE hP 1 rfl (by decide) dX9_line_294 ?_
                refine lv_topi (fun x_22 ex_22 => ?_)
                obtain rfl : x_22 = nI (dp B2_14 B2_18 (stc V (16 * k1 + 4 * k2) n1) (stc V (16 * k3 + 4 * k4) n3)) := by rw [ex_22]; exact hT1 _ _ (Or.inl hi9) (Nat.le_refl _) _ rfl
                refine W.widen (k := 0) (n := 0) (Nat.le_of_ble_eq_true rfl) (Nat.le_of_ble_eq_true rfl) ?_
                have hP9 := hP.sub (ws' := [(k0, .inr (9, [.ref m0, .int s1, .int s2, .int s3, .int s4, .int s5, .int s6, .ref m7, .ref m8, .ref m9, .int (nI z), .int (nI t), .int s12, .ref m13, .ref m14, .ref m15, .int s16, .ref m17, .ref m18, .ref m19, .ref m20, .ref m21, .ref m22, .ref m23, .ref m24, .ref m25, .ref m26, .ref m27, .ref m28, .int s29, .ref m30, .int s31, .int s32, .int s33, .int s34, .int s35, .ref m36, .ref m37, .ref m38, .ref m39, .long s40])), (m13, ai g 6 K), (m14, ai g 6 L), (m15, ai g 96 V), (m26, ai g 4 B2_14), (m27, ai g 4 B2_18), (m28, ai g 25 L1)]) [3, 0, 4, 5, 2, 6, 1] rfl
                have hD9 := hD.sub (ws' := [(k0, .inr (9, [.ref m0, .int s1, .int s2, .int s3, .int s4, .int s5, .int s6, .ref m7, .ref m8, .ref m9, .int (nI z), .int (nI t), .int s12, .ref m13, .ref m14, .ref m15, .int s16, .ref m17, .ref m18, .ref m19, .ref m20, .ref m21, .ref m22, .ref m23, .ref m24, .ref m25, .ref m26, .ref m27, .ref m28, .int s29, .ref m30, .int s31, .int s32, .int s33, .int s34, .int s35, .ref m36, .ref m37, .ref m38, .ref m39, .long s40])), (m13, ai g 6 K), (m14, ai g 6 L), (m15, ai g 96 V), (m26, ai g 4 B2_14), (m27, ai g 4 B2_18), (m28, ai g 25 L1)]) [3, 0, 4, 5, 2, 6, 1] (by decide) rfl
                exact k_ri hx hb hr hlocks hS hP9 hD9 ⟨B2_14, B2_18, L1, rfl, (lnr_k hk1 hk2 hk3 hk4 hz ht4 en1 hn1 en3 hn3 (dp_congr hB2_16 hB2_20 _ _ (Nat.le_refl _) (Nat.le_refl _)))⟩ dX9_line_295
              · skip
                have hi9 : i ≤ (stc V (16 * k1 + 4 * k2) n1) := Nat.not_lt.mp (fun q => c68_21 (nI_lt q (by omega)))
                refine lv_iconst (v := 0) hx hb dX9_line_71 (by decide) ?_
                refine lv_istore (lv' := [(8, .int 0), (0, .ref k0), (1, .int (nI k1)), (2, .int (nI k2)), (3, .int (nI k3)), (4, .int (nI k4)), (5, .int (nI (stc V (16 * k1 + 4 * k2) n1))), (6, .int (nI (stc V (16 * k3 + 4 * k4) n3))), (7, .int (nI i))]) hx hb dX9_line_72 hl (by decide) rfl (fun ls hl => ?_)
                have loop74 : ∀ (fu : Nat) (j : Nat) (L2 : Nat → Int32), (hj : j ≤ (stc V (16 * k3 + 4 * k4) n3) + 1) → (hT2 : TBL B2_14 B2_18 (stc V (16 * k3 + 4 * k4) n3) i j L2) → (stc V (16 * k3 + 4 * k4) n3) + 1 - j < fu → ∀ (H : Heap) (locs : List Loc) (ls : Array Slot), va_P g.1 vwCl [(m13, ai g 6 K), (m28, ai g 25 L2), (m26, ai g 4 B2_14), (k0, .inr (9, [.ref m0, .int s1, .int s2, .int s3, .int s4, .int s5, .int s6, .ref m7, .ref m8, .ref m9, .int (nI z), .int (nI t), .int s12, .ref m13, .ref m14, .ref m15, .int s16, .ref m17, .ref m18, .ref m19, .ref m20, .ref m21, .ref m22, .ref m23, .ref m24, .ref m25, .ref m26, .ref m27, .ref m28, .int s29, .ref m30, .int s31, .int s32, .int s33, .int s34, .int s35, .ref m36, .ref m37, .ref m38, .ref m39, .long s40])), (m14, ai g 6 L), (m15, ai g 96 V), (m27, ai g 4 B2_18)] H → va_D A [(m13, ai g 6 K), (m28, ai g 25 L2), (m26, ai g 4 B2_14), (k0, .inr (9, [.ref m0, .int s1, .int s2, .int s3, .int s4, .int s5, .int s6, .ref m7, .ref m8, .ref m9, .int (nI z), .int (nI t), .int s12, .ref m13, .ref m14, .ref m15, .int s16, .ref m17, .ref m18, .ref m19, .ref m20, .ref m21, .ref m22, .ref m23, .ref m24, .ref m25, .ref m26, .ref m27, .ref m28, .int s29, .ref m30, .int s31, .int s32, .int s33, .int s34, .int s35, .ref m36, .ref m37, .ref m38, .ref m39, .long s40])), (m14, ai g 6 L), (m15, ai g 96 V), (m27, ai g 4 B2_18)] → va_S A s.heap H locs → lv_has ls 13 [(0, .ref k0), (1, .int (nI k1)), (2, .int (nI k2)), (3, .int (nI k3)), (4, .int (nI k4)), (5, .int (nI (stc V (16 * k1 + 4 * k2) n1))), (6, .int (nI (stc V (16 * k3 + 4 * k4) n3))), (7, .int (nI i)), (8, .int (nI j))] → W p l e ({ frames := 3, cells := 0, slots := 0, locals := 66 }) s m [.ref k0, .int (nI k1), .int (nI k2), .int (nI k3), .int (nI k4)].toArray below meth c H locs 0 0 (MQ below (va_Qi (po_X9_line_f g k0 m0 s1 s2 s3 s4 s5 s6 m7 m8 m9 s12 m13 m14 m15 s16 m17 m18 m19 m20 m21 m22 m23 m24 m25 m26 m27 m28 s29 m30 s31 s32 s33 s34 s35 m36 m37 m38 m39 s40 z t K L V B1 B2 Ln (nI k1) (nI k2) (nI k3) (nI k4)) (bk g A) A) [.ref k0, .int (nI k1), .int (nI k2), .int (nI k3), .int (nI k4)].toArray s 0 0 A) (F0 m 74 ls []) := by
                  intro fu
                  induction fu with
                  | zero => intro j L2 hj hT2 hfu; exact absurd hfu (Nat.not_lt_zero _)
                  | succ fu ih =>
                    intro j L2 hj hT2 hfu H locs ls hP hD hS hl
                    have ih74 := ih
                    refine lv_iload hx hb dX9_line_74 (lv_at hl 8 rfl) ?_
                    refine lv_iload hx hb dX9_line_76 (lv_at hl 6 rfl) ?_
                    refine lv_icmp_gt (tgt := 277) hx hb dX9_line_78 (by decide) (fun c78_23 => ?_) (fun c78_23 => ?_)
                    · skip
                      have hj9 : (stc V (16 * k3 + 4 * k4) n3) < j := (nI_ltI (by omega) (by omega)).mp c78_23
                      refine lv_iinc (v := (nI (i + 1))) (lv' := [(7, .int (nI (i + 1))), (0, .ref k0), (1, .int (nI k1)), (2, .int (nI k2)), (3, .int (nI k3)), (4, .int (nI k4)), (5, .int (nI (stc V (16 * k1 + 4 * k2) n1))), (6, .int (nI (stc V (16 * k3 + 4 * k4) n3))), (8, .int (nI j))]) hx hb dX9_line_277 hl (k := 7) rfl (nI_1 _) (by decide) rfl (fun ls hl => ?_)
                      refine lv_goto (tgt := 64) hx hb dX9_line_280 (by decide) ?_
                      exact ih64 (i + 1) _ (by omega) (TBL_k hj9 hT2) (by omega) _ _ _ hP hD hS (lv_sub hl [1, 2, 3, 4, 5, 6, 7, 0] rfl)
                    · skip
                      have hj9 : j ≤ (stc V (16 * k3 + 4 * k4) n3) := Nat.not_lt.mp (fun q => c78_23 (nI_lt q (by omega)))
                      refine lv_iload hx hb dX9_line_81 (lv_at hl 7 rfl) ?_
                      refine lv_if_ne (tgt := 95) hx hb dX9_line_83 (by decide) (fun c83_24 => ?_) (fun c83_24 => ?_)
                      · skip
                        refine lv_sipush (v := 9999) hx hb dX9_line_95 (by decide) ?_
                        refine lv_istore (lv' := [(9, .int 9999), (0, .ref k0), (1, .int (nI k1)), (2, .int (nI k2)), (3, .int (nI k3)), (4, .int (nI k4)), (5, .int (nI (stc V (16 * k1 + 4 * k2) n1))), (6, .int (nI (stc V (16 * k3 + 4 * k4) n3))), (7, .int (nI i)), (8, .int (nI j))]) hx hb dX9_line_98 hl (by decide) rfl (fun ls hl => ?_)
                        refine lv_iload hx hb dX9_line_100 (lv_at hl 8 rfl) ?_
                        refine lv_if_ne (tgt := 111) hx hb dX9_line_102 (by decide) (fun c102_25 => ?_) (fun c102_25 => ?_)
                        · skip
                          have hi0 : 1 ≤ i := Nat.pos_of_ne_zero (fun q => c83_24 (by rw [q]; rfl))
                          refine lv_aload_n hx hb dX9_line_111 rfl (lv_at hl 1 rfl) ?_
                          refine va_get (D := g.1) (ci := 9) (v := .ref m28) (C := RX9) (T := TX9) (N := 41) hx hb hts q_X9_line_f_f9 hown hE.1 hP 3 rfl rfl 28 (by decide) (hts (.fieldLink RX9 64 "SoundLawsModel" "lines" "[I") q_X9_line_f_3) (fun _ h9 => h9) rfl dX9_line_112 ?_
                          refine lv_iconst (v := 5) hx hb dX9_line_115 (by decide) ?_
                          refine lv_iload hx hb dX9_line_116 (lv_at hl 8 rfl) ?_
                          refine lv_imul hx hb dX9_line_118 ?_
                          refine lv_iconst (v := 5) hx hb dX9_line_119 (by decide) ?_
                          refine lv_isub hx hb dX9_line_120 ?_
                          refine lv_topi (fun x_26 ex_26 => ?_)
                          obtain rfl : x_26 = nI (5 * i - 5) := by rw [ex_26]; rw [show (5 : Int32) = nI 5 from rfl, pk_mul, pk_sub (by omega)]
                          refine lv_iload hx hb dX9_line_121 (lv_at hl 9 rfl) ?_
                          refine lv_iadd hx hb dX9_line_123 ?_
                          refine k_ald (5 * i - 5 + j) (nI_add _ _) (by omega) hx hb hE hP 1 rfl (by decide) dX9_line_124 ?_
                          refine lv_iconst (v := 3) hx hb dX9_line_125 (by decide) ?_
                          refine lv_iadd hx hb dX9_line_126 ?_
                          refine lv_topi (fun x_27 ex_27 => ?_)
                          obtain rfl : x_27 = nI (dp B2_14 B2_18 (i - 1) j + 3) := by rw [ex_27]; rw [hT2 (i - 1) j (Or.inl (by omega)) (by omega) _ (show 5 * i - 5 + j = 5 * (i - 1) + j by omega), show (3 : Int32) = nI 3 from rfl, nI_add]
                          refine lv_istore (lv' := [(10, .int (nI (dp B2_14 B2_18 (i - 1) j + 3))), (9, .int 9999), (0, .ref k0), (1, .int (nI k1)), (2, .int (nI k2)), (3, .int (nI k3)), (4, .int (nI k4)), (5, .int (nI (stc V (16 * k1 + 4 * k2) n1))), (6, .int (nI (stc V (16 * k3 + 4 * k4) n3))), (7, .int (nI i)), (8, .int (nI j))]) hx hb dX9_line_127 hl (by decide) rfl (fun ls hl => ?_)
                          refine lv_iload hx hb dX9_line_129 (lv_at hl 10 rfl) ?_
                          refine lv_if_ne (tgt := 140) hx hb dX9_line_131 (by decide) (fun c131_28 => ?_) (fun c131_28 => ?_)
                          · skip
                            have hj0 : 1 ≤ j := Nat.pos_of_ne_zero (fun q => c131_28 (by rw [q]; rfl))
                            refine lv_aload_n hx hb dX9_line_140 rfl (lv_at hl 2 rfl) ?_
                            refine va_get (D := g.1) (ci := 9) (v := .ref m28) (C := RX9) (T := TX9) (N := 41) hx hb hts q_X9_line_f_f9 hown hE.1 hP 3 rfl rfl 28 (by decide) (hts (.fieldLink RX9 64 "SoundLawsModel" "lines" "[I") q_X9_line_f_3) (fun _ h9 => h9) rfl dX9_line_141 ?_
                            refine lv_iconst (v := 5) hx hb dX9_line_144 (by decide) ?_
                            refine lv_iload hx hb dX9_line_145 (lv_at hl 9 rfl) ?_
                            refine lv_imul hx hb dX9_line_147 ?_
                            refine lv_iload hx hb dX9_line_148 (lv_at hl 10 rfl) ?_
                            refine lv_iadd hx hb dX9_line_150 ?_
                            refine lv_iconst (v := 1) hx hb dX9_line_151 (by decide) ?_
                            refine lv_isub hx hb dX9_line_152 ?_
                            refine lv_topi (fun x_29 ex_29 => ?_)
                            obtain rfl : x_29 = nI (5 * i + j - 1) := by rw [ex_29]; rw [show (5 : Int32) = nI 5 from rfl, pk_mul, nI_add, show (1 : Int32) = nI 1 from rfl, pk_sub (by omega)]
                            refine k_ald (5 * i + j - 1) rfl (by omega) hx hb hE hP 1 rfl (by decide) dX9_line_153 ?_
                            refine lv_iconst (v := 3) hx hb dX9_line_154 (by decide) ?_
                            refine lv_iadd hx hb dX9_line_155 ?_
                            refine lv_topi (fun x_30 ex_30 => ?_)
                            obtain rfl : x_30 = nI (dp B2_14 B2_18 i (j - 1) + 3) := by rw [ex_30]; rw [hT2 i (j - 1) (Or.inr ⟨rfl, by omega⟩) (by omega) _ (show 5 * i + j - 1 = 5 * i + (j - 1) by omega), show (3 : Int32) = nI 3 from rfl, nI_add]
                            refine lv_istore (lv' := [(11, .int (nI (dp B2_14 B2_18 i (j - 1) + 3))), (10, .int (nI (dp B2_14 B2_18 (i - 1) j + 3))), (9, .int 9999), (0, .ref k0), (1, .int (nI k1)), (2, .int (nI k2)), (3, .int (nI k3)), (4, .int (nI k4)), (5, .int (nI (stc V (16 * k1 + 4 * k2) n1))), (6, .int (nI (stc V (16 * k3 + 4 * k4) n3))), (7, .int (nI i)), (8, .int (nI j))]) hx hb dX9_line_156 hl (by decide) rfl (fun ls hl => ?_)
                            refine lv_iload hx hb dX9_line_158 (lv_at hl 10 rfl) ?_
                            refine lv_if_eq (tgt := 168) hx hb dX9_line_160 (by decide) (fun c160_31 => ?_) (fun c160_31 => ?_)
                            · exact (show False from c83_24 c160_31).elim
                            · skip
                              refine lv_iload hx hb dX9_line_163 (lv_at hl 11 rfl) ?_
                              refine lv_if_ne (tgt := 174) hx hb dX9_line_165 (by decide) (fun c165_32 => ?_) (fun c165_32 => ?_)
                              · skip
                                refine lv_aload_n hx hb dX9_line_174 rfl (lv_at hl 3 rfl) ?_
                                refine va_get (D := g.1) (ci := 9) (v := .ref m28) (C := RX9) (T := TX9) (N := 41) hx hb hts q_X9_line_f_f9 hown hE.1 hP 3 rfl rfl 28 (by decide) (hts (.fieldLink RX9 64 "SoundLawsModel" "lines" "[I") q_X9_line_f_3) (fun _ h9 => h9) rfl dX9_line_175 ?_
                                refine lv_iconst (v := 5) hx hb dX9_line_178 (by decide) ?_
                                refine lv_iload hx hb dX9_line_179 (lv_at hl 10 rfl) ?_
                                refine lv_imul hx hb dX9_line_181 ?_
                                refine lv_iload hx hb dX9_line_182 (lv_at hl 11 rfl) ?_
                                refine lv_iadd hx hb dX9_line_184 ?_
                                refine lv_bipush (v := 6) hx hb dX9_line_185 (by decide) ?_
                                refine lv_isub hx hb dX9_line_187 ?_
                                refine lv_topi (fun x_33 ex_33 => ?_)
                                obtain rfl : x_33 = nI (5 * i + j - 6) := by rw [ex_33]; rw [show (5 : Int32) = nI 5 from rfl, pk_mul, nI_add, show (6 : Int32) = nI 6 from rfl, pk_sub (by omega)]
                                refine k_ald (5 * i + j - 6) rfl (by omega) hx hb hE hP 1 rfl (by decide) dX9_line_188 ?_
                                refine lv_aload_n hx hb dX9_line_189 rfl (lv_at hl 3 rfl) ?_
                                refine va_get (D := g.1) (ci := 9) (v := .ref m26) (C := RX9) (T := TX9) (N := 41) hx hb hts q_X9_line_f_f9 hown hE.1 hP 3 rfl rfl 26 (by decide) (hts (.fieldLink RX9 58 "SoundLawsModel" "one" "[I") q_X9_line_f_1) (fun _ h9 => h9) rfl dX9_line_190 ?_
                                refine lv_iload hx hb dX9_line_193 (lv_at hl 10 rfl) ?_
                                refine lv_iconst (v := 1) hx hb dX9_line_195 (by decide) ?_
                                refine lv_isub hx hb dX9_line_196 ?_
                                refine lv_topi (fun x_34 ex_34 => ?_)
                                obtain rfl : x_34 = nI (i - 1) := by rw [ex_34]; rw [show (1 : Int32) = nI 1 from rfl, pk_sub (by omega)]
                                refine k_ald (i - 1) rfl (by omega) hx hb hE hP 2 rfl (by decide) dX9_line_197 ?_
                                obtain ⟨m1, hm1, em1⟩ := hM1 (i - 1) (by omega)
                                have es1 : sN B2_14 (i - 1) = m1 := by unfold sN; rw [em1, nI_clamp (by omega)]
                                refine lv_topi (fun x_35 ex_35 => ?_)
                                obtain rfl : x_35 = nI m1 := by rw [ex_35]; exact em1
                                refine lv_aload_n hx hb dX9_line_198 rfl (lv_at hl 3 rfl) ?_
                                refine va_get (D := g.1) (ci := 9) (v := .ref m27) (C := RX9) (T := TX9) (N := 41) hx hb hts q_X9_line_f_f9 hown hE.1 hP 3 rfl rfl 27 (by decide) (hts (.fieldLink RX9 61 "SoundLawsModel" "other" "[I") q_X9_line_f_2) (fun _ h9 => h9) rfl dX9_line_199 ?_
                                refine lv_iload hx hb dX9_line_202 (lv_at hl 11 rfl) ?_
                                refine lv_iconst (v := 1) hx hb dX9_line_204 (by decide) ?_
                                refine lv_isub hx hb dX9_line_205 ?_
                                refine lv_topi (fun x_36 ex_36 => ?_)
                                obtain rfl : x_36 = nI (j - 1) := by rw [ex_36]; rw [show (1 : Int32) = nI 1 from rfl, pk_sub (by omega)]
                                refine k_ald (j - 1) rfl (by omega) hx hb hE hP 6 rfl (by decide) dX9_line_206 ?_
                                obtain ⟨m2, hm2, em2⟩ := hM2 (j - 1) (by omega)
                                have es2 : sN B2_18 (j - 1) = m2 := by unfold sN; rw [em2, nI_clamp (by omega)]
                                refine lv_topi (fun x_37 ex_37 => ?_)
                                obtain rfl : x_37 = nI m2 := by rw [ex_37]; exact em2
                                obtain ⟨ec, hc3⟩ := csN_cs m1 hm1 m2 hm2
                                refine k_ci (wr := [(m13, ai g 6 K), (m28, ai g 25 L2), (m26, ai g 4 B2_14), (k0, .inr (9, [.ref m0, .int s1, .int s2, .int s3, .int s4, .int s5, .int s6, .ref m7, .ref m8, .ref m9, .int (nI z), .int (nI t), .int s12, .ref m13, .ref m14, .ref m15, .int s16, .ref m17, .ref m18, .ref m19, .ref m20, .ref m21, .ref m22, .ref m23, .ref m24, .ref m25, .ref m26, .ref m27, .ref m28, .int s29, .ref m30, .int s31, .int s32, .int s33, .int s34, .int s35, .ref m36, .ref m37, .ref m38, .ref m39, .long s40])), (m14, ai g 6 L), (m15, ai g 96 V), (m27, ai g 4 B2_18)]) hP hD hS hA [] [0, 1, 2, 3, 4, 5, 6] rfl rfl (by decide) (by decide) (va_runS (As := [.int (nI m1), .int (nI m2)]) (rest := [.int (L2 (5 * i + j - 6))]) ⟨hx, hb, hml, hown, hts⟩ (c_X9_costOf l g (nI m1) (nI m2)  H.size) (va_cwS 2 hts gX9_line_X9_costOf rfl rfl rfl (by decide +kernel) ⟨Nat.le_of_ble_eq_true rfl, Nat.le_of_ble_eq_true rfl⟩) (k_preS hE hZ hP hD hS hA [] rfl (by decide)) rfl rfl hl.1 rfl (lv_room (Nat.le_of_ble_eq_true rfl)) dX9_line_207 ⟨Nat.le_of_ble_eq_true rfl, Nat.le_of_ble_eq_true rfl⟩) (fun r_38 w1 H locs hw hP hD hS => ?_)
                                obtain ⟨rfl, rfl⟩ := hw
                                have hP : va_P g.1 vwCl [(m13, ai g 6 K), (m28, ai g 25 L2), (m26, ai g 4 B2_14), (k0, .inr (9, [.ref m0, .int s1, .int s2, .int s3, .int s4, .int s5, .int s6, .ref m7, .ref m8, .ref m9, .int (nI z), .int (nI t), .int s12, .ref m13, .ref m14, .ref m15, .int s16, .ref m17, .ref m18, .ref m19, .ref m20, .ref m21, .ref m22, .ref m23, .ref m24, .ref m25, .ref m26, .ref m27, .ref m28, .int s29, .ref m30, .int s31, .int s32, .int s33, .int s34, .int s35, .ref m36, .ref m37, .ref m38, .ref m39, .long s40])), (m14, ai g 6 L), (m15, ai g 96 V), (m27, ai g 4 B2_18)] H := hP
                                have hD : va_D A [(m13, ai g 6 K), (m28, ai g 25 L2), (m26, ai g 4 B2_14), (k0, .inr (9, [.ref m0, .int s1, .int s2, .int s3, .int s4, .int s5, .int s6, .ref m7, .ref m8, .ref m9, .int (nI z), .int (nI t), .int s12, .ref m13, .ref m14, .ref m15, .int s16, .ref m17, .ref m18, .ref m19, .ref m20, .ref m21, .ref m22, .ref m23, .ref m24, .ref m25, .ref m26, .ref m27, .ref m28, .int s29, .ref m30, .int s31, .int s32, .int s33, .int s34, .int s35, .ref m36, .ref m37, .ref m38, .ref m39, .long s40])), (m14, ai g 6 L), (m15, ai g 96 V), (m27, ai g 4 B2_18)] := hD
                                refine lv_iadd hx hb dX9_line_210 ?_
                                refine lv_topi (fun x_40 ex_40 => ?_)
                                obtain rfl : x_40 = nI (dp B2_14 B2_18 (i - 1) (j - 1) + csN m1 m2) := by rw [ex_40]; rw [hT2 (i - 1) (j - 1) (Or.inl (by omega)) (by omega) _ (show 5 * i + j - 6 = 5 * (i - 1) + (j - 1) by omega), cm_cs m1 hm1 m2 hm2, cs_sym m1 hm1 m2 hm2, ec, nI_add]
                                refine lv_istore (lv' := [(12, .int (nI (dp B2_14 B2_18 (i - 1) (j - 1) + csN m1 m2))), (11, .int (nI (dp B2_14 B2_18 i (j - 1) + 3))), (10, .int (nI (dp B2_14 B2_18 (i - 1) j + 3))), (9, .int 9999), (0, .ref k0), (1, .int (nI k1)), (2, .int (nI k2)), (3, .int (nI k3)), (4, .int (nI k4)), (5, .int (nI (stc V (16 * k1 + 4 * k2) n1))), (6, .int (nI (stc V (16 * k3 + 4 * k4) n3))), (7, .int (nI i)), (8, .int (nI j))]) hx hb dX9_line_211 hl (by decide) rfl (fun ls hl => ?_)
                                refine lv_iload hx hb dX9_line_213 (lv_at hl 2 rfl) ?_
                                refine lv_iload hx hb dX9_line_215 (lv_at hl 3 rfl) ?_
                                refine lv_icmp_ge (tgt := 225) hx hb dX9_line_217 (by decide) (fun c217_41 => ?_) (fun c217_41 => ?_)
                                · skip
                                  refine lv_iload hx hb dX9_line_225 (lv_at hl 3 rfl) ?_
                                  refine lv_istore (lv' := [(9, .int 9999), (12, .int (nI (dp B2_14 B2_18 (i - 1) (j - 1) + csN m1 m2))), (11, .int (nI (dp B2_14 B2_18 i (j - 1) + 3))), (10, .int (nI (dp B2_14 B2_18 (i - 1) j + 3))), (0, .ref k0), (1, .int (nI k1)), (2, .int (nI k2)), (3, .int (nI k3)), (4, .int (nI k4)), (5, .int (nI (stc V (16 * k1 + 4 * k2) n1))), (6, .int (nI (stc V (16 * k3 + 4 * k4) n3))), (7, .int (nI i)), (8, .int (nI j))]) hx hb dX9_line_227 hl (by decide) rfl (fun ls hl => ?_)
                                  refine lv_iload hx hb dX9_line_229 (lv_at hl 2 rfl) ?_
                                  refine lv_iload hx hb dX9_line_231 (lv_at hl 0 rfl) ?_
                                  refine lv_icmp_ge (tgt := 241) hx hb dX9_line_233 (by decide) (fun c233_42 => ?_) (fun c233_42 => ?_)
                                  · skip
                                    refine lv_iload hx hb dX9_line_241 (lv_at hl 0 rfl) ?_
                                    refine lv_istore (lv' := [(9, .int 9999), (12, .int (nI (dp B2_14 B2_18 (i - 1) (j - 1) + csN m1 m2))), (11, .int (nI (dp B2_14 B2_18 i (j - 1) + 3))), (10, .int (nI (dp B2_14 B2_18 (i - 1) j + 3))), (0, .ref k0), (1, .int (nI k1)), (2, .int (nI k2)), (3, .int (nI k3)), (4, .int (nI k4)), (5, .int (nI (stc V (16 * k1 + 4 * k2) n1))), (6, .int (nI (stc V (16 * k3 + 4 * k4) n3))), (7, .int (nI i)), (8, .int (nI j))]) hx hb dX9_line_243 hl (by decide) rfl (fun ls hl => ?_)
                                    refine lv_aload_n hx hb dX9_line_245 rfl (lv_at hl 4 rfl) ?_
                                    refine va_get (D := g.1) (ci := 9) (v := .ref m28) (C := RX9) (T := TX9) (N := 41) hx hb hts q_X9_line_f_f9 hown hE.1 hP 3 rfl rfl 28 (by decide) (hts (.fieldLink RX9 64 "SoundLawsModel" "lines" "[I") q_X9_line_f_3) (fun _ h9 => h9) rfl dX9_line_246 ?_
                                    refine lv_iconst (v := 5) hx hb dX9_line_249 (by decide) ?_
                                    refine lv_iload hx hb dX9_line_250 (lv_at hl 11 rfl) ?_
                                    refine lv_imul hx hb dX9_line_252 ?_
                                    refine lv_iload hx hb dX9_line_253 (lv_at hl 12 rfl) ?_
                                    refine lv_iadd hx hb dX9_line_255 ?_
                                    refine lv_iload hx hb dX9_line_256 (lv_at hl 1 rfl) ?_
                                    refine lv_iload hx hb dX9_line_258 (lv_at hl 0 rfl) ?_
                                    refine lv_icmp_ge (tgt := 268) hx hb dX9_line_260 (by decide) (fun c260_43 => ?_) (fun c260_43 => ?_)
                                    · skip
                                      refine lv_iload hx hb dX9_line_268 (lv_at hl 0 rfl) ?_
                                      have b1 := dp_le (M := B2_14) (W := B2_18) (i - 1) (j - 1); have b2 := dp_le (M := B2_14) (W := B2_18) (i - 1) j; have b3 := dp_le (M := B2_14) (W := B2_18) i (j - 1)
                                      have h217 : 9999 ≤ dp B2_14 B2_18 (i - 1) j + 3 := (le_nI (a := 9999) (b := dp B2_14 B2_18 (i - 1) j + 3) (by omega) (by omega)).mp c217_41
                                      have h233 : 9999 ≤ dp B2_14 B2_18 i (j - 1) + 3 := (le_nI (a := 9999) (b := dp B2_14 B2_18 i (j - 1) + 3) (by omega) (by omega)).mp c233_42
                                      have h260 : 9999 ≤ dp B2_14 B2_18 (i - 1) (j - 1) + csN m1 m2 := (le_nI (a := 9999) (b := dp B2_14 B2_18 (i - 1) (j - 1) + csN m1 m2) (by omega) (by omega)).mp c260_43
                                      have d1 := dp_ss (M := B2_14) (W := B2_18) (show 1 ≤ i by omega) (show 1 ≤ j by omega); rw [es1, es2] at d1
                                      have hdp : 9999 = dp B2_14 B2_18 i j := by omega
                                      refine lv_topi (fun x_44 ex_44 => ?_)
                                      obtain rfl : x_44 = nI (dp B2_14 B2_18 i j) := by rw [ex_44]; exact congrArg nI hdp
                                      refine k_ast (x := (nI (dp B2_14 B2_18 i j))) (5 * i + j) (by rw [show (5 : Int32) = nI 5 from rfl, pk_mul, nI_add]) (by omega) hx hb hE hP hD hS 1 rfl (by decide) dX9_line_270 (fun H locs hP hD hS => ?_)
                                      have hP : va_P g.1 vwCl [(m13, ai g 6 K), (m28, ai g 25 (upd L2 (5 * i + j) (nI (dp B2_14 B2_18 i j)))), (m26, ai g 4 B2_14), (k0, .inr (9, [.ref m0, .int s1, .int s2, .int s3, .int s4, .int s5, .int s6, .ref m7, .ref m8, .ref m9, .int (nI z), .int (nI t), .int s12, .ref m13, .ref m14, .ref m15, .int s16, .ref m17, .ref m18, .ref m19, .ref m20, .ref m21, .ref m22, .ref m23, .ref m24, .ref m25, .ref m26, .ref m27, .ref m28, .int s29, .ref m30, .int s31, .int s32, .int s33, .int s34, .int s35, .ref m36, .ref m37, .ref m38, .ref m39, .long s40])), (m14, ai g 6 L), (m15, ai g 96 V), (m27, ai g 4 B2_18)] H := hP
                                      have hD : va_D A [(m13, ai g 6 K), (m28, ai g 25 (upd L2 (5 * i + j) (nI (dp B2_14 B2_18 i j)))), (m26, ai g 4 B2_14), (k0, .inr (9, [.ref m0, .int s1, .int s2, .int s3, .int s4, .int s5, .int s6, .ref m7, .ref m8, .ref m9, .int (nI z), .int (nI t), .int s12, .ref m13, .ref m14, .ref m15, .int s16, .ref m17, .ref m18, .ref m19, .ref m20, .ref m21, .ref m22, .ref m23, .ref m24, .ref m25, .ref m26, .ref m27, .ref m28, .int s29, .ref m30, .int s31, .int s32, .int s33, .int s34, .int s35, .ref m36, .ref m37, .ref m38, .ref m39, .long s40])), (m14, ai g 6 L), (m15, ai g 96 V), (m27, ai g 4 B2_18)] := hD
                                      refine lv_iinc (v := (nI (j + 1))) (lv' := [(8, .int (nI (j + 1))), (9, .int 9999), (12, .int (nI (dp B2_14 B2_18 (i - 1) (j - 1) + csN m1 m2))), (11, .int (nI (dp B2_14 B2_18 i (j - 1) + 3))), (10, .int (nI (dp B2_14 B2_18 (i - 1) j + 3))), (0, .ref k0), (1, .int (nI k1)), (2, .int (nI k2)), (3, .int (nI k3)), (4, .int (nI k4)), (5, .int (nI (stc V (16 * k1 + 4 * k2) n1))), (6, .int (nI (stc V (16 * k3 + 4 * k4) n3))), (7, .int (nI i))]) hx hb dX9_line_271 hl (k := 12) rfl (nI_1 _) (by decide) rfl (fun ls hl => ?_)
                                      refine lv_goto (tgt := 74) hx hb dX9_line_274 (by decide) ?_
                                      exact ih74 (j + 1) _ (by omega) (TBL_s (by omega) hj9 hT2) (by omega) _ _ _ hP hD hS (lv_sub hl [5, 6, 7, 8, 9, 10, 11, 12, 0] rfl)
                                    · skip
                                      refine lv_iload hx hb dX9_line_263 (lv_at hl 1 rfl) ?_
                                      refine lv_goto (tgt := 270) hx hb dX9_line_265 (by decide) ?_
                                      have b1 := dp_le (M := B2_14) (W := B2_18) (i - 1) (j - 1); have b2 := dp_le (M := B2_14) (W := B2_18) (i - 1) j; have b3 := dp_le (M := B2_14) (W := B2_18) i (j - 1)
                                      have h217 : 9999 ≤ dp B2_14 B2_18 (i - 1) j + 3 := (le_nI (a := 9999) (b := dp B2_14 B2_18 (i - 1) j + 3) (by omega) (by omega)).mp c217_41
                                      have h233 : 9999 ≤ dp B2_14 B2_18 i (j - 1) + 3 := (le_nI (a := 9999) (b := dp B2_14 B2_18 i (j - 1) + 3) (by omega) (by omega)).mp c233_42
                                      have h260 : ¬ 9999 ≤ dp B2_14 B2_18 (i - 1) (j - 1) + csN m1 m2 := fun q => c260_43 ((le_nI (a := 9999) (b := dp B2_14 B2_18 (i - 1) (j - 1) + csN m1 m2) (by omega) (by omega)).mpr q)
                                      have d1 := dp_ss (M := B2_14) (W := B2_18) (show 1 ≤ i by omega) (show 1 ≤ j by omega); rw [es1, es2] at d1
                                      have hdp : dp B2_14 B2_18 (i - 1) (j - 1) + csN m1 m2 = dp B2_14 B2_18 i j := by omega
                                      refine lv_topi (fun x_45 ex_45 => ?_)
                                      obtain rfl : x_45 = nI (dp B2_14 B2_18 i j) := by rw [ex_45]; exact congrArg nI hdp
                                      refine k_ast (x := (nI (dp B2_14 B2_18 i j))) (5 * i + j) (by rw [show (5 : Int32) = nI 5 from rfl, pk_mul, nI_add]) (by omega) hx hb hE hP hD hS 1 rfl (by decide) dX9_line_270 (fun H locs hP hD hS => ?_)
                                      have hP : va_P g.1 vwCl [(m13, ai g 6 K), (m28, ai g 25 (upd L2 (5 * i + j) (nI (dp B2_14 B2_18 i j)))), (m26, ai g 4 B2_14), (k0, .inr (9, [.ref m0, .int s1, .int s2, .int s3, .int s4, .int s5, .int s6, .ref m7, .ref m8, .ref m9, .int (nI z), .int (nI t), .int s12, .ref m13, .ref m14, .ref m15, .int s16, .ref m17, .ref m18, .ref m19, .ref m20, .ref m21, .ref m22, .ref m23, .ref m24, .ref m25, .ref m26, .ref m27, .ref m28, .int s29, .ref m30, .int s31, .int s32, .int s33, .int s34, .int s35, .ref m36, .ref m37, .ref m38, .ref m39, .long s40])), (m14, ai g 6 L), (m15, ai g 96 V), (m27, ai g 4 B2_18)] H := hP
                                      have hD : va_D A [(m13, ai g 6 K), (m28, ai g 25 (upd L2 (5 * i + j) (nI (dp B2_14 B2_18 i j)))), (m26, ai g 4 B2_14), (k0, .inr (9, [.ref m0, .int s1, .int s2, .int s3, .int s4, .int s5, .int s6, .ref m7, .ref m8, .ref m9, .int (nI z), .int (nI t), .int s12, .ref m13, .ref m14, .ref m15, .int s16, .ref m17, .ref m18, .ref m19, .ref m20, .ref m21, .ref m22, .ref m23, .ref m24, .ref m25, .ref m26, .ref m27, .ref m28, .int s29, .ref m30, .int s31, .int s32, .int s33, .int s34, .int s35, .ref m36, .ref m37, .ref m38, .ref m39, .long s40])), (m14, ai g 6 L), (m15, ai g 96 V), (m27, ai g 4 B2_18)] := hD
                                      refine lv_iinc (v := (nI (j + 1))) (lv' := [(8, .int (nI (j + 1))), (9, .int 9999), (12, .int (nI (dp B2_14 B2_18 (i - 1) (j - 1) + csN m1 m2))), (11, .int (nI (dp B2_14 B2_18 i (j - 1) + 3))), (10, .int (nI (dp B2_14 B2_18 (i - 1) j + 3))), (0, .ref k0), (1, .int (nI k1)), (2, .int (nI k2)), (3, .int (nI k3)), (4, .int (nI k4)), (5, .int (nI (stc V (16 * k1 + 4 * k2) n1))), (6, .int (nI (stc V (16 * k3 + 4 * k4) n3))), (7, .int (nI i))]) hx hb dX9_line_271 hl (k := 12) rfl (nI_1 _) (by decide) rfl (fun ls hl => ?_)
                                      refine lv_goto (tgt := 74) hx hb dX9_line_274 (by decide) ?_
                                      exact ih74 (j + 1) _ (by omega) (TBL_s (by omega) hj9 hT2) (by omega) _ _ _ hP hD hS (lv_sub hl [5, 6, 7, 8, 9, 10, 11, 12, 0] rfl)
                                  · skip
                                    refine lv_iload hx hb dX9_line_236 (lv_at hl 2 rfl) ?_
                                    refine lv_goto (tgt := 243) hx hb dX9_line_238 (by decide) ?_
                                    refine lv_istore (lv' := [(9, .int (nI (dp B2_14 B2_18 i (j - 1) + 3))), (12, .int (nI (dp B2_14 B2_18 (i - 1) (j - 1) + csN m1 m2))), (11, .int (nI (dp B2_14 B2_18 i (j - 1) + 3))), (10, .int (nI (dp B2_14 B2_18 (i - 1) j + 3))), (0, .ref k0), (1, .int (nI k1)), (2, .int (nI k2)), (3, .int (nI k3)), (4, .int (nI k4)), (5, .int (nI (stc V (16 * k1 + 4 * k2) n1))), (6, .int (nI (stc V (16 * k3 + 4 * k4) n3))), (7, .int (nI i)), (8, .int (nI j))]) hx hb dX9_line_243 hl (by decide) rfl (fun ls hl => ?_)
                                    refine lv_aload_n hx hb dX9_line_245 rfl (lv_at hl 4 rfl) ?_
                                    refine va_get (D := g.1) (ci := 9) (v := .ref m28) (C := RX9) (T := TX9) (N := 41) hx hb hts q_X9_line_f_f9 hown hE.1 hP 3 rfl rfl 28 (by decide) (hts (.fieldLink RX9 64 "SoundLawsModel" "lines" "[I") q_X9_line_f_3) (fun _ h9 => h9) rfl dX9_line_246 ?_
                                    refine lv_iconst (v := 5) hx hb dX9_line_249 (by decide) ?_
                                    refine lv_iload hx hb dX9_line_250 (lv_at hl 11 rfl) ?_
                                    refine lv_imul hx hb dX9_line_252 ?_
                                    refine lv_iload hx hb dX9_line_253 (lv_at hl 12 rfl) ?_
                                    refine lv_iadd hx hb dX9_line_255 ?_
                                    refine lv_iload hx hb dX9_line_256 (lv_at hl 1 rfl) ?_
                                    refine lv_iload hx hb dX9_line_258 (lv_at hl 0 rfl) ?_
                                    refine lv_icmp_ge (tgt := 268) hx hb dX9_line_260 (by decide) (fun c260_46 => ?_) (fun c260_46 => ?_)
                                    · skip
                                      refine lv_iload hx hb dX9_line_268 (lv_at hl 0 rfl) ?_
                                      have b1 := dp_le (M := B2_14) (W := B2_18) (i - 1) (j - 1); have b2 := dp_le (M := B2_14) (W := B2_18) (i - 1) j; have b3 := dp_le (M := B2_14) (W := B2_18) i (j - 1)
                                      have h217 : 9999 ≤ dp B2_14 B2_18 (i - 1) j + 3 := (le_nI (a := 9999) (b := dp B2_14 B2_18 (i - 1) j + 3) (by omega) (by omega)).mp c217_41
                                      have h233 : ¬ 9999 ≤ dp B2_14 B2_18 i (j - 1) + 3 := fun q => c233_42 ((le_nI (a := 9999) (b := dp B2_14 B2_18 i (j - 1) + 3) (by omega) (by omega)).mpr q)
                                      have h260 : dp B2_14 B2_18 i (j - 1) + 3 ≤ dp B2_14 B2_18 (i - 1) (j - 1) + csN m1 m2 := (le_nI (a := dp B2_14 B2_18 i (j - 1) + 3) (b := dp B2_14 B2_18 (i - 1) (j - 1) + csN m1 m2) (by omega) (by omega)).mp c260_46
                                      have d1 := dp_ss (M := B2_14) (W := B2_18) (show 1 ≤ i by omega) (show 1 ≤ j by omega); rw [es1, es2] at d1
                                      have hdp : dp B2_14 B2_18 i (j - 1) + 3 = dp B2_14 B2_18 i j := by omega
                                      refine lv_topi (fun x_47 ex_47 => ?_)
                                      obtain rfl : x_47 = nI (dp B2_14 B2_18 i j) := by rw [ex_47]; exact congrArg nI hdp
                                      refine k_ast (x := (nI (dp B2_14 B2_18 i j))) (5 * i + j) (by rw [show (5 : Int32) = nI 5 from rfl, pk_mul, nI_add]) (by omega) hx hb hE hP hD hS 1 rfl (by decide) dX9_line_270 (fun H locs hP hD hS => ?_)
                                      have hP : va_P g.1 vwCl [(m13, ai g 6 K), (m28, ai g 25 (upd L2 (5 * i + j) (nI (dp B2_14 B2_18 i j)))), (m26, ai g 4 B2_14), (k0, .inr (9, [.ref m0, .int s1, .int s2, .int s3, .int s4, .int s5, .int s6, .ref m7, .ref m8, .ref m9, .int (nI z), .int (nI t), .int s12, .ref m13, .ref m14, .ref m15, .int s16, .ref m17, .ref m18, .ref m19, .ref m20, .ref m21, .ref m22, .ref m23, .ref m24, .ref m25, .ref m26, .ref m27, .ref m28, .int s29, .ref m30, .int s31, .int s32, .int s33, .int s34, .int s35, .ref m36, .ref m37, .ref m38, .ref m39, .long s40])), (m14, ai g 6 L), (m15, ai g 96 V), (m27, ai g 4 B2_18)] H := hP
                                      have hD : va_D A [(m13, ai g 6 K), (m28, ai g 25 (upd L2 (5 * i + j) (nI (dp B2_14 B2_18 i j)))), (m26, ai g 4 B2_14), (k0, .inr (9, [.ref m0, .int s1, .int s2, .int s3, .int s4, .int s5, .int s6, .ref m7, .ref m8, .ref m9, .int (nI z), .int (nI t), .int s12, .ref m13, .ref m14, .ref m15, .int s16, .ref m17, .ref m18, .ref m19, .ref m20, .ref m21, .ref m22, .ref m23, .ref m24, .ref m25, .ref m26, .ref m27, .ref m28, .int s29, .ref m30, .int s31, .int s32, .int s33, .int s34, .int s35, .ref m36, .ref m37, .ref m38, .ref m39, .long s40])), (m14, ai g 6 L), (m15, ai g 96 V), (m27, ai g 4 B2_18)] := hD
                                      refine lv_iinc (v := (nI (j + 1))) (lv' := [(8, .int (nI (j + 1))), (9, .int (nI (dp B2_14 B2_18 i (j - 1) + 3))), (12, .int (nI (dp B2_14 B2_18 (i - 1) (j - 1) + csN m1 m2))), (11, .int (nI (dp B2_14 B2_18 i (j - 1) + 3))), (10, .int (nI (dp B2_14 B2_18 (i - 1) j + 3))), (0, .ref k0), (1, .int (nI k1)), (2, .int (nI k2)), (3, .int (nI k3)), (4, .int (nI k4)), (5, .int (nI (stc V (16 * k1 + 4 * k2) n1))), (6, .int (nI (stc V (16 * k3 + 4 * k4) n3))), (7, .int (nI i))]) hx hb dX9_line_271 hl (k := 12) rfl (nI_1 _) (by decide) rfl (fun ls hl => ?_)
                                      refine lv_goto (tgt := 74) hx hb dX9_line_274 (by decide) ?_
                                      exact ih74 (j + 1) _ (by omega) (TBL_s (by omega) hj9 hT2) (by omega) _ _ _ hP hD hS (lv_sub hl [5, 6, 7, 8, 9, 10, 11, 12, 0] rfl)
                                    · skip
                                      refine lv_iload hx hb dX9_line_263 (lv_at hl 1 rfl) ?_
                                      refine lv_goto (tgt := 270) hx hb dX9_line_265 (by decide) ?_
                                      have b1 := dp_le (M := B2_14) (W := B2_18) (i - 1) (j - 1); have b2 := dp_le (M := B2_14) (W := B2_18) (i - 1) j; have b3 := dp_le (M := B2_14) (W := B2_18) i (j - 1)
                                      have h217 : 9999 ≤ dp B2_14 B2_18 (i - 1) j + 3 := (le_nI (a := 9999) (b := dp B2_14 B2_18 (i - 1) j + 3) (by omega) (by omega)).mp c217_41
                                      have h233 : ¬ 9999 ≤ dp B2_14 B2_18 i (j - 1) + 3 := fun q => c233_42 ((le_nI (a := 9999) (b := dp B2_14 B2_18 i (j - 1) + 3) (by omega) (by omega)).mpr q)
                                      have h260 : ¬ dp B2_14 B2_18 i (j - 1) + 3 ≤ dp B2_14 B2_18 (i - 1) (j - 1) + csN m1 m2 := fun q => c260_46 ((le_nI (a := dp B2_14 B2_18 i (j - 1) + 3) (b := dp B2_14 B2_18 (i - 1) (j - 1) + csN m1 m2) (by omega) (by omega)).mpr q)
                                      have d1 := dp_ss (M := B2_14) (W := B2_18) (show 1 ≤ i by omega) (show 1 ≤ j by omega); rw [es1, es2] at d1
                                      have hdp : dp B2_14 B2_18 (i - 1) (j - 1) + csN m1 m2 = dp B2_14 B2_18 i j := by omega
                                      refine lv_topi (fun x_48 ex_48 => ?_)
                                      obtain rfl : x_48 = nI (dp B2_14 B2_18 i j) := by rw [ex_48]; exact congrArg nI hdp
                                      refine k_ast (x := (nI (dp B2_14 B2_18 i j))) (5 * i + j) (by rw [show (5 : Int32) = nI 5 from rfl, pk_mul, nI_add]) (by omega) hx hb hE hP hD hS 1 rfl (by decide) dX9_line_270 (fun H locs hP hD hS => ?_)
                                      have hP : va_P g.1 vwCl [(m13, ai g 6 K), (m28, ai g 25 (upd L2 (5 * i + j) (nI (dp B2_14 B2_18 i j)))), (m26, ai g 4 B2_14), (k0, .inr (9, [.ref m0, .int s1, .int s2, .int s3, .int s4, .int s5, .int s6, .ref m7, .ref m8, .ref m9, .int (nI z), .int (nI t), .int s12, .ref m13, .ref m14, .ref m15, .int s16, .ref m17, .ref m18, .ref m19, .ref m20, .ref m21, .ref m22, .ref m23, .ref m24, .ref m25, .ref m26, .ref m27, .ref m28, .int s29, .ref m30, .int s31, .int s32, .int s33, .int s34, .int s35, .ref m36, .ref m37, .ref m38, .ref m39, .long s40])), (m14, ai g 6 L), (m15, ai g 96 V), (m27, ai g 4 B2_18)] H := hP
                                      have hD : va_D A [(m13, ai g 6 K), (m28, ai g 25 (upd L2 (5 * i + j) (nI (dp B2_14 B2_18 i j)))), (m26, ai g 4 B2_14), (k0, .inr (9, [.ref m0, .int s1, .int s2, .int s3, .int s4, .int s5, .int s6, .ref m7, .ref m8, .ref m9, .int (nI z), .int (nI t), .int s12, .ref m13, .ref m14, .ref m15, .int s16, .ref m17, .ref m18, .ref m19, .ref m20, .ref m21, .ref m22, .ref m23, .ref m24, .ref m25, .ref m26, .ref m27, .ref m28, .int s29, .ref m30, .int s31, .int s32, .int s33, .int s34, .int s35, .ref m36, .ref m37, .ref m38, .ref m39, .long s40])), (m14, ai g 6 L), (m15, ai g 96 V), (m27, ai g 4 B2_18)] := hD
                                      refine lv_iinc (v := (nI (j + 1))) (lv' := [(8, .int (nI (j + 1))), (9, .int (nI (dp B2_14 B2_18 i (j - 1) + 3))), (12, .int (nI (dp B2_14 B2_18 (i - 1) (j - 1) + csN m1 m2))), (11, .int (nI (dp B2_14 B2_18 i (j - 1) + 3))), (10, .int (nI (dp B2_14 B2_18 (i - 1) j + 3))), (0, .ref k0), (1, .int (nI k1)), (2, .int (nI k2)), (3, .int (nI k3)), (4, .int (nI k4)), (5, .int (nI (stc V (16 * k1 + 4 * k2) n1))), (6, .int (nI (stc V (16 * k3 + 4 * k4) n3))), (7, .int (nI i))]) hx hb dX9_line_271 hl (k := 12) rfl (nI_1 _) (by decide) rfl (fun ls hl => ?_)
                                      refine lv_goto (tgt := 74) hx hb dX9_line_274 (by decide) ?_
                                      exact ih74 (j + 1) _ (by omega) (TBL_s (by omega) hj9 hT2) (by omega) _ _ _ hP hD hS (lv_sub hl [5, 6, 7, 8, 9, 10, 11, 12, 0] rfl)
                                · skip
                                  refine lv_iload hx hb dX9_line_220 (lv_at hl 2 rfl) ?_
                                  refine lv_goto (tgt := 227) hx hb dX9_line_222 (by decide) ?_
                                  refine lv_istore (lv' := [(9, .int (nI (dp B2_14 B2_18 (i - 1) j + 3))), (12, .int (nI (dp B2_14 B2_18 (i - 1) (j - 1) + csN m1 m2))), (11, .int (nI (dp B2_14 B2_18 i (j - 1) + 3))), (10, .int (nI (dp B2_14 B2_18 (i - 1) j + 3))), (0, .ref k0), (1, .int (nI k1)), (2, .int (nI k2)), (3, .int (nI k3)), (4, .int (nI k4)), (5, .int (nI (stc V (16 * k1 + 4 * k2) n1))), (6, .int (nI (stc V (16 * k3 + 4 * k4) n3))), (7, .int (nI i)), (8, .int (nI j))]) hx hb dX9_line_227 hl (by decide) rfl (fun ls hl => ?_)
                                  refine lv_iload hx hb dX9_line_229 (lv_at hl 2 rfl) ?_
                                  refine lv_iload hx hb dX9_line_231 (lv_at hl 0 rfl) ?_
                                  refine lv_icmp_ge (tgt := 241) hx hb dX9_line_233 (by decide) (fun c233_49 => ?_) (fun c233_49 => ?_)
                                  · skip
                                    refine lv_iload hx hb dX9_line_241 (lv_at hl 0 rfl) ?_
                                    refine lv_istore (lv' := [(9, .int (nI (dp B2_14 B2_18 (i - 1) j + 3))), (12, .int (nI (dp B2_14 B2_18 (i - 1) (j - 1) + csN m1 m2))), (11, .int (nI (dp B2_14 B2_18 i (j - 1) + 3))), (10, .int (nI (dp B2_14 B2_18 (i - 1) j + 3))), (0, .ref k0), (1, .int (nI k1)), (2, .int (nI k2)), (3, .int (nI k3)), (4, .int (nI k4)), (5, .int (nI (stc V (16 * k1 + 4 * k2) n1))), (6, .int (nI (stc V (16 * k3 + 4 * k4) n3))), (7, .int (nI i)), (8, .int (nI j))]) hx hb dX9_line_243 hl (by decide) rfl (fun ls hl => ?_)
                                    refine lv_aload_n hx hb dX9_line_245 rfl (lv_at hl 4 rfl) ?_
                                    refine va_get (D := g.1) (ci := 9) (v := .ref m28) (C := RX9) (T := TX9) (N := 41) hx hb hts q_X9_line_f_f9 hown hE.1 hP 3 rfl rfl 28 (by decide) (hts (.fieldLink RX9 64 "SoundLawsModel" "lines" "[I") q_X9_line_f_3) (fun _ h9 => h9) rfl dX9_line_246 ?_
                                    refine lv_iconst (v := 5) hx hb dX9_line_249 (by decide) ?_
                                    refine lv_iload hx hb dX9_line_250 (lv_at hl 11 rfl) ?_
                                    refine lv_imul hx hb dX9_line_252 ?_
                                    refine lv_iload hx hb dX9_line_253 (lv_at hl 12 rfl) ?_
                                    refine lv_iadd hx hb dX9_line_255 ?_
                                    refine lv_iload hx hb dX9_line_256 (lv_at hl 1 rfl) ?_
                                    refine lv_iload hx hb dX9_line_258 (lv_at hl 0 rfl) ?_
                                    refine lv_icmp_ge (tgt := 268) hx hb dX9_line_260 (by decide) (fun c260_50 => ?_) (fun c260_50 => ?_)
                                    · skip
                                      refine lv_iload hx hb dX9_line_268 (lv_at hl 0 rfl) ?_
                                      have b1 := dp_le (M := B2_14) (W := B2_18) (i - 1) (j - 1); have b2 := dp_le (M := B2_14) (W := B2_18) (i - 1) j; have b3 := dp_le (M := B2_14) (W := B2_18) i (j - 1)
                                      have h217 : ¬ 9999 ≤ dp B2_14 B2_18 (i - 1) j + 3 := fun q => c217_41 ((le_nI (a := 9999) (b := dp B2_14 B2_18 (i - 1) j + 3) (by omega) (by omega)).mpr q)
                                      have h233 : dp B2_14 B2_18 (i - 1) j + 3 ≤ dp B2_14 B2_18 i (j - 1) + 3 := (le_nI (a := dp B2_14 B2_18 (i - 1) j + 3) (b := dp B2_14 B2_18 i (j - 1) + 3) (by omega) (by omega)).mp c233_49
                                      have h260 : dp B2_14 B2_18 (i - 1) j + 3 ≤ dp B2_14 B2_18 (i - 1) (j - 1) + csN m1 m2 := (le_nI (a := dp B2_14 B2_18 (i - 1) j + 3) (b := dp B2_14 B2_18 (i - 1) (j - 1) + csN m1 m2) (by omega) (by omega)).mp c260_50
                                      have d1 := dp_ss (M := B2_14) (W := B2_18) (show 1 ≤ i by omega) (show 1 ≤ j by omega); rw [es1, es2] at d1
                                      have hdp : dp B2_14 B2_18 (i - 1) j + 3 = dp B2_14 B2_18 i j := by omega
                                      refine lv_topi (fun x_51 ex_51 => ?_)
                                      obtain rfl : x_51 = nI (dp B2_14 B2_18 i j) := by rw [ex_51]; exact congrArg nI hdp
                                      refine k_ast (x := (nI (dp B2_14 B2_18 i j))) (5 * i + j) (by rw [show (5 : Int32) = nI 5 from rfl, pk_mul, nI_add]) (by omega) hx hb hE hP hD hS 1 rfl (by decide) dX9_line_270 (fun H locs hP hD hS => ?_)
                                      have hP : va_P g.1 vwCl [(m13, ai g 6 K), (m28, ai g 25 (upd L2 (5 * i + j) (nI (dp B2_14 B2_18 i j)))), (m26, ai g 4 B2_14), (k0, .inr (9, [.ref m0, .int s1, .int s2, .int s3, .int s4, .int s5, .int s6, .ref m7, .ref m8, .ref m9, .int (nI z), .int (nI t), .int s12, .ref m13, .ref m14, .ref m15, .int s16, .ref m17, .ref m18, .ref m19, .ref m20, .ref m21, .ref m22, .ref m23, .ref m24, .ref m25, .ref m26, .ref m27, .ref m28, .int s29, .ref m30, .int s31, .int s32, .int s33, .int s34, .int s35, .ref m36, .ref m37, .ref m38, .ref m39, .long s40])), (m14, ai g 6 L), (m15, ai g 96 V), (m27, ai g 4 B2_18)] H := hP
                                      have hD : va_D A [(m13, ai g 6 K), (m28, ai g 25 (upd L2 (5 * i + j) (nI (dp B2_14 B2_18 i j)))), (m26, ai g 4 B2_14), (k0, .inr (9, [.ref m0, .int s1, .int s2, .int s3, .int s4, .int s5, .int s6, .ref m7, .ref m8, .ref m9, .int (nI z), .int (nI t), .int s12, .ref m13, .ref m14, .ref m15, .int s16, .ref m17, .ref m18, .ref m19, .ref m20, .ref m21, .ref m22, .ref m23, .ref m24, .ref m25, .ref m26, .ref m27, .ref m28, .int s29, .ref m30, .int s31, .int s32, .int s33, .int s34, .int s35, .ref m36, .ref m37, .ref m38, .ref m39, .long s40])), (m14, ai g 6 L), (m15, ai g 96 V), (m27, ai g 4 B2_18)] := hD
                                      refine lv_iinc (v := (nI (j + 1))) (lv' := [(8, .int (nI (j + 1))), (9, .int (nI (dp B2_14 B2_18 (i - 1) j + 3))), (12, .int (nI (dp B2_14 B2_18 (i - 1) (j - 1) + csN m1 m2))), (11, .int (nI (dp B2_14 B2_18 i (j - 1) + 3))), (10, .int (nI (dp B2_14 B2_18 (i - 1) j + 3))), (0, .ref k0), (1, .int (nI k1)), (2, .int (nI k2)), (3, .int (nI k3)), (4, .int (nI k4)), (5, .int (nI (stc V (16 * k1 + 4 * k2) n1))), (6, .int (nI (stc V (16 * k3 + 4 * k4) n3))), (7, .int (nI i))]) hx hb dX9_line_271 hl (k := 12) rfl (nI_1 _) (by decide) rfl (fun ls hl => ?_)
                                      refine lv_goto (tgt := 74) hx hb dX9_line_274 (by decide) ?_
                                      exact ih74 (j + 1) _ (by omega) (TBL_s (by omega) hj9 hT2) (by omega) _ _ _ hP hD hS (lv_sub hl [5, 6, 7, 8, 9, 10, 11, 12, 0] rfl)
                                    · skip
                                      refine lv_iload hx hb dX9_line_263 (lv_at hl 1 rfl) ?_
                                      refine lv_goto (tgt := 270) hx hb dX9_line_265 (by decide) ?_
                                      have b1 := dp_le (M := B2_14) (W := B2_18) (i - 1) (j - 1); have b2 := dp_le (M := B2_14) (W := B2_18) (i - 1) j; have b3 := dp_le (M := B2_14) (W := B2_18) i (j - 1)
                                      have h217 : ¬ 9999 ≤ dp B2_14 B2_18 (i - 1) j + 3 := fun q => c217_41 ((le_nI (a := 9999) (b := dp B2_14 B2_18 (i - 1) j + 3) (by omega) (by omega)).mpr q)
                                      have h233 : dp B2_14 B2_18 (i - 1) j + 3 ≤ dp B2_14 B2_18 i (j - 1) + 3 := (le_nI (a := dp B2_14 B2_18 (i - 1) j + 3) (b := dp B2_14 B2_18 i (j - 1) + 3) (by omega) (by omega)).mp c233_49
                                      have h260 : ¬ dp B2_14 B2_18 (i - 1) j + 3 ≤ dp B2_14 B2_18 (i - 1) (j - 1) + csN m1 m2 := fun q => c260_50 ((le_nI (a := dp B2_14 B2_18 (i - 1) j + 3) (b := dp B2_14 B2_18 (i - 1) (j - 1) + csN m1 m2) (by omega) (by omega)).mpr q)
                                      have d1 := dp_ss (M := B2_14) (W := B2_18) (show 1 ≤ i by omega) (show 1 ≤ j by omega); rw [es1, es2] at d1
                                      have hdp : dp B2_14 B2_18 (i - 1) (j - 1) + csN m1 m2 = dp B2_14 B2_18 i j := by omega
                                      refine lv_topi (fun x_52 ex_52 => ?_)
                                      obtain rfl : x_52 = nI (dp B2_14 B2_18 i j) := by rw [ex_52]; exact congrArg nI hdp
                                      refine k_ast (x := (nI (dp B2_14 B2_18 i j))) (5 * i + j) (by rw [show (5 : Int32) = nI 5 from rfl, pk_mul, nI_add]) (by omega) hx hb hE hP hD hS 1 rfl (by decide) dX9_line_270 (fun H locs hP hD hS => ?_)
                                      have hP : va_P g.1 vwCl [(m13, ai g 6 K), (m28, ai g 25 (upd L2 (5 * i + j) (nI (dp B2_14 B2_18 i j)))), (m26, ai g 4 B2_14), (k0, .inr (9, [.ref m0, .int s1, .int s2, .int s3, .int s4, .int s5, .int s6, .ref m7, .ref m8, .ref m9, .int (nI z), .int (nI t), .int s12, .ref m13, .ref m14, .ref m15, .int s16, .ref m17, .ref m18, .ref m19, .ref m20, .ref m21, .ref m22, .ref m23, .ref m24, .ref m25, .ref m26, .ref m27, .ref m28, .int s29, .ref m30, .int s31, .int s32, .int s33, .int s34, .int s35, .ref m36, .ref m37, .ref m38, .ref m39, .long s40])), (m14, ai g 6 L), (m15, ai g 96 V), (m27, ai g 4 B2_18)] H := hP
                                      have hD : va_D A [(m13, ai g 6 K), (m28, ai g 25 (upd L2 (5 * i + j) (nI (dp B2_14 B2_18 i j)))), (m26, ai g 4 B2_14), (k0, .inr (9, [.ref m0, .int s1, .int s2, .int s3, .int s4, .int s5, .int s6, .ref m7, .ref m8, .ref m9, .int (nI z), .int (nI t), .int s12, .ref m13, .ref m14, .ref m15, .int s16, .ref m17, .ref m18, .ref m19, .ref m20, .ref m21, .ref m22, .ref m23, .ref m24, .ref m25, .ref m26, .ref m27, .ref m28, .int s29, .ref m30, .int s31, .int s32, .int s33, .int s34, .int s35, .ref m36, .ref m37, .ref m38, .ref m39, .long s40])), (m14, ai g 6 L), (m15, ai g 96 V), (m27, ai g 4 B2_18)] := hD
                                      refine lv_iinc (v := (nI (j + 1))) (lv' := [(8, .int (nI (j + 1))), (9, .int (nI (dp B2_14 B2_18 (i - 1) j + 3))), (12, .int (nI (dp B2_14 B2_18 (i - 1) (j - 1) + csN m1 m2))), (11, .int (nI (dp B2_14 B2_18 i (j - 1) + 3))), (10, .int (nI (dp B2_14 B2_18 (i - 1) j + 3))), (0, .ref k0), (1, .int (nI k1)), (2, .int (nI k2)), (3, .int (nI k3)), (4, .int (nI k4)), (5, .int (nI (stc V (16 * k1 + 4 * k2) n1))), (6, .int (nI (stc V (16 * k3 + 4 * k4) n3))), (7, .int (nI i))]) hx hb dX9_line_271 hl (k := 12) rfl (nI_1 _) (by decide) rfl (fun ls hl => ?_)
                                      refine lv_goto (tgt := 74) hx hb dX9_line_274 (by decide) ?_
                                      exact ih74 (j + 1) _ (by omega) (TBL_s (by omega) hj9 hT2) (by omega) _ _ _ hP hD hS (lv_sub hl [5, 6, 7, 8, 9, 10, 11, 12, 0] rfl)
                                  · skip
                                    refine lv_iload hx hb dX9_line_236 (lv_at hl 2 rfl) ?_
                                    refine lv_goto (tgt := 243) hx hb dX9_line_238 (by decide) ?_
                                    refine lv_istore (lv' := [(9, .int (nI (dp B2_14 B2_18 i (j - 1) + 3))), (12, .int (nI (dp B2_14 B2_18 (i - 1) (j - 1) + csN m1 m2))), (11, .int (nI (dp B2_14 B2_18 i (j - 1) + 3))), (10, .int (nI (dp B2_14 B2_18 (i - 1) j + 3))), (0, .ref k0), (1, .int (nI k1)), (2, .int (nI k2)), (3, .int (nI k3)), (4, .int (nI k4)), (5, .int (nI (stc V (16 * k1 + 4 * k2) n1))), (6, .int (nI (stc V (16 * k3 + 4 * k4) n3))), (7, .int (nI i)), (8, .int (nI j))]) hx hb dX9_line_243 hl (by decide) rfl (fun ls hl => ?_)
                                    refine lv_aload_n hx hb dX9_line_245 rfl (lv_at hl 4 rfl) ?_
                                    refine va_get (D := g.1) (ci := 9) (v := .ref m28) (C := RX9) (T := TX9) (N := 41) hx hb hts q_X9_line_f_f9 hown hE.1 hP 3 rfl rfl 28 (by decide) (hts (.fieldLink RX9 64 "SoundLawsModel" "lines" "[I") q_X9_line_f_3) (fun _ h9 => h9) rfl dX9_line_246 ?_
                                    refine lv_iconst (v := 5) hx hb dX9_line_249 (by decide) ?_
                                    refine lv_iload hx hb dX9_line_250 (lv_at hl 11 rfl) ?_
                                    refine lv_imul hx hb dX9_line_252 ?_
                                    refine lv_iload hx hb dX9_line_253 (lv_at hl 12 rfl) ?_
                                    refine lv_iadd hx hb dX9_line_255 ?_
                                    refine lv_iload hx hb dX9_line_256 (lv_at hl 1 rfl) ?_
                                    refine lv_iload hx hb dX9_line_258 (lv_at hl 0 rfl) ?_
                                    refine lv_icmp_ge (tgt := 268) hx hb dX9_line_260 (by decide) (fun c260_53 => ?_) (fun c260_53 => ?_)
                                    · skip
                                      refine lv_iload hx hb dX9_line_268 (lv_at hl 0 rfl) ?_
                                      have b1 := dp_le (M := B2_14) (W := B2_18) (i - 1) (j - 1); have b2 := dp_le (M := B2_14) (W := B2_18) (i - 1) j; have b3 := dp_le (M := B2_14) (W := B2_18) i (j - 1)
                                      have h217 : ¬ 9999 ≤ dp B2_14 B2_18 (i - 1) j + 3 := fun q => c217_41 ((le_nI (a := 9999) (b := dp B2_14 B2_18 (i - 1) j + 3) (by omega) (by omega)).mpr q)
                                      have h233 : ¬ dp B2_14 B2_18 (i - 1) j + 3 ≤ dp B2_14 B2_18 i (j - 1) + 3 := fun q => c233_49 ((le_nI (a := dp B2_14 B2_18 (i - 1) j + 3) (b := dp B2_14 B2_18 i (j - 1) + 3) (by omega) (by omega)).mpr q)
                                      have h260 : dp B2_14 B2_18 i (j - 1) + 3 ≤ dp B2_14 B2_18 (i - 1) (j - 1) + csN m1 m2 := (le_nI (a := dp B2_14 B2_18 i (j - 1) + 3) (b := dp B2_14 B2_18 (i - 1) (j - 1) + csN m1 m2) (by omega) (by omega)).mp c260_53
                                      have d1 := dp_ss (M := B2_14) (W := B2_18) (show 1 ≤ i by omega) (show 1 ≤ j by omega); rw [es1, es2] at d1
                                      have hdp : dp B2_14 B2_18 i (j - 1) + 3 = dp B2_14 B2_18 i j := by omega
                                      refine lv_topi (fun x_54 ex_54 => ?_)
                                      obtain rfl : x_54 = nI (dp B2_14 B2_18 i j) := by rw [ex_54]; exact congrArg nI hdp
                                      refine k_ast (x := (nI (dp B2_14 B2_18 i j))) (5 * i + j) (by rw [show (5 : Int32) = nI 5 from rfl, pk_mul, nI_add]) (by omega) hx hb hE hP hD hS 1 rfl (by decide) dX9_line_270 (fun H locs hP hD hS => ?_)
                                      have hP : va_P g.1 vwCl [(m13, ai g 6 K), (m28, ai g 25 (upd L2 (5 * i + j) (nI (dp B2_14 B2_18 i j)))), (m26, ai g 4 B2_14), (k0, .inr (9, [.ref m0, .int s1, .int s2, .int s3, .int s4, .int s5, .int s6, .ref m7, .ref m8, .ref m9, .int (nI z), .int (nI t), .int s12, .ref m13, .ref m14, .ref m15, .int s16, .ref m17, .ref m18, .ref m19, .ref m20, .ref m21, .ref m22, .ref m23, .ref m24, .ref m25, .ref m26, .ref m27, .ref m28, .int s29, .ref m30, .int s31, .int s32, .int s33, .int s34, .int s35, .ref m36, .ref m37, .ref m38, .ref m39, .long s40])), (m14, ai g 6 L), (m15, ai g 96 V), (m27, ai g 4 B2_18)] H := hP
                                      have hD : va_D A [(m13, ai g 6 K), (m28, ai g 25 (upd L2 (5 * i + j) (nI (dp B2_14 B2_18 i j)))), (m26, ai g 4 B2_14), (k0, .inr (9, [.ref m0, .int s1, .int s2, .int s3, .int s4, .int s5, .int s6, .ref m7, .ref m8, .ref m9, .int (nI z), .int (nI t), .int s12, .ref m13, .ref m14, .ref m15, .int s16, .ref m17, .ref m18, .ref m19, .ref m20, .ref m21, .ref m22, .ref m23, .ref m24, .ref m25, .ref m26, .ref m27, .ref m28, .int s29, .ref m30, .int s31, .int s32, .int s33, .int s34, .int s35, .ref m36, .ref m37, .ref m38, .ref m39, .long s40])), (m14, ai g 6 L), (m15, ai g 96 V), (m27, ai g 4 B2_18)] := hD
                                      refine lv_iinc (v := (nI (j + 1))) (lv' := [(8, .int (nI (j + 1))), (9, .int (nI (dp B2_14 B2_18 i (j - 1) + 3))), (12, .int (nI (dp B2_14 B2_18 (i - 1) (j - 1) + csN m1 m2))), (11, .int (nI (dp B2_14 B2_18 i (j - 1) + 3))), (10, .int (nI (dp B2_14 B2_18 (i - 1) j + 3))), (0, .ref k0), (1, .int (nI k1)), (2, .int (nI k2)), (3, .int (nI k3)), (4, .int (nI k4)), (5, .int (nI (stc V (16 * k1 + 4 * k2) n1))), (6, .int (nI (stc V (16 * k3 + 4 * k4) n3))), (7, .int (nI i))]) hx hb dX9_line_271 hl (k := 12) rfl (nI_1 _) (by decide) rfl (fun ls hl => ?_)
                                      refine lv_goto (tgt := 74) hx hb dX9_line_274 (by decide) ?_
                                      exact ih74 (j + 1) _ (by omega) (TBL_s (by omega) hj9 hT2) (by omega) _ _ _ hP hD hS (lv_sub hl [5, 6, 7, 8, 9, 10, 11, 12, 0] rfl)
                                    · skip
                                      refine lv_iload hx hb dX9_line_263 (lv_at hl 1 rfl) ?_
                                      refine lv_goto (tgt := 270) hx hb dX9_line_265 (by decide) ?_
                                      have b1 := dp_le (M := B2_14) (W := B2_18) (i - 1) (j - 1); have b2 := dp_le (M := B2_14) (W := B2_18) (i - 1) j; have b3 := dp_le (M := B2_14) (W := B2_18) i (j - 1)
                                      have h217 : ¬ 9999 ≤ dp B2_14 B2_18 (i - 1) j + 3 := fun q => c217_41 ((le_nI (a := 9999) (b := dp B2_14 B2_18 (i - 1) j + 3) (by omega) (by omega)).mpr q)
                                      have h233 : ¬ dp B2_14 B2_18 (i - 1) j + 3 ≤ dp B2_14 B2_18 i (j - 1) + 3 := fun q => c233_49 ((le_nI (a := dp B2_14 B2_18 (i - 1) j + 3) (b := dp B2_14 B2_18 i (j - 1) + 3) (by omega) (by omega)).mpr q)
                                      have h260 : ¬ dp B2_14 B2_18 i (j - 1) + 3 ≤ dp B2_14 B2_18 (i - 1) (j - 1) + csN m1 m2 := fun q => c260_53 ((le_nI (a := dp B2_14 B2_18 i (j - 1) + 3) (b := dp B2_14 B2_18 (i - 1) (j - 1) + csN m1 m2) (by omega) (by omega)).mpr q)
                                      have d1 := dp_ss (M := B2_14) (W := B2_18) (show 1 ≤ i by omega) (show 1 ≤ j by omega); rw [es1, es2] at d1
                                      have hdp : dp B2_14 B2_18 (i - 1) (j - 1) + csN m1 m2 = dp B2_14 B2_18 i j := by omega
                                      refine lv_topi (fun x_55 ex_55 => ?_)
                                      obtain rfl : x_55 = nI (dp B2_14 B2_18 i j) := by rw [ex_55]; exact congrArg nI hdp
                                      refine k_ast (x := (nI (dp B2_14 B2_18 i j))) (5 * i + j) (by rw [show (5 : Int32) = nI 5 from rfl, pk_mul, nI_add]) (by omega) hx hb hE hP hD hS 1 rfl (by decide) dX9_line_270 (fun H locs hP hD hS => ?_)
                                      have hP : va_P g.1 vwCl [(m13, ai g 6 K), (m28, ai g 25 (upd L2 (5 * i + j) (nI (dp B2_14 B2_18 i j)))), (m26, ai g 4 B2_14), (k0, .inr (9, [.ref m0, .int s1, .int s2, .int s3, .int s4, .int s5, .int s6, .ref m7, .ref m8, .ref m9, .int (nI z), .int (nI t), .int s12, .ref m13, .ref m14, .ref m15, .int s16, .ref m17, .ref m18, .ref m19, .ref m20, .ref m21, .ref m22, .ref m23, .ref m24, .ref m25, .ref m26, .ref m27, .ref m28, .int s29, .ref m30, .int s31, .int s32, .int s33, .int s34, .int s35, .ref m36, .ref m37, .ref m38, .ref m39, .long s40])), (m14, ai g 6 L), (m15, ai g 96 V), (m27, ai g 4 B2_18)] H := hP
                                      have hD : va_D A [(m13, ai g 6 K), (m28, ai g 25 (upd L2 (5 * i + j) (nI (dp B2_14 B2_18 i j)))), (m26, ai g 4 B2_14), (k0, .inr (9, [.ref m0, .int s1, .int s2, .int s3, .int s4, .int s5, .int s6, .ref m7, .ref m8, .ref m9, .int (nI z), .int (nI t), .int s12, .ref m13, .ref m14, .ref m15, .int s16, .ref m17, .ref m18, .ref m19, .ref m20, .ref m21, .ref m22, .ref m23, .ref m24, .ref m25, .ref m26, .ref m27, .ref m28, .int s29, .ref m30, .int s31, .int s32, .int s33, .int s34, .int s35, .ref m36, .ref m37, .ref m38, .ref m39, .long s40])), (m14, ai g 6 L), (m15, ai g 96 V), (m27, ai g 4 B2_18)] := hD
                                      refine lv_iinc (v := (nI (j + 1))) (lv' := [(8, .int (nI (j + 1))), (9, .int (nI (dp B2_14 B2_18 i (j - 1) + 3))), (12, .int (nI (dp B2_14 B2_18 (i - 1) (j - 1) + csN m1 m2))), (11, .int (nI (dp B2_14 B2_18 i (j - 1) + 3))), (10, .int (nI (dp B2_14 B2_18 (i - 1) j + 3))), (0, .ref k0), (1, .int (nI k1)), (2, .int (nI k2)), (3, .int (nI k3)), (4, .int (nI k4)), (5, .int (nI (stc V (16 * k1 + 4 * k2) n1))), (6, .int (nI (stc V (16 * k3 + 4 * k4) n3))), (7, .int (nI i))]) hx hb dX9_line_271 hl (k := 12) rfl (nI_1 _) (by decide) rfl (fun ls hl => ?_)
                                      refine lv_goto (tgt := 74) hx hb dX9_line_274 (by decide) ?_
                                      exact ih74 (j + 1) _ (by omega) (TBL_s (by omega) hj9 hT2) (by omega) _ _ _ hP hD hS (lv_sub hl [5, 6, 7, 8, 9, 10, 11, 12, 0] rfl)
                              · exact (show False from c131_28 c165_32).elim
                          · skip
                            refine lv_sipush (v := 9999) hx hb dX9_line_134 (by decide) ?_
                            refine lv_goto (tgt := 156) hx hb dX9_line_137 (by decide) ?_
                            refine lv_istore (lv' := [(11, .int 9999), (10, .int (nI (dp B2_14 B2_18 (i - 1) j + 3))), (9, .int 9999), (0, .ref k0), (1, .int (nI k1)), (2, .int (nI k2)), (3, .int (nI k3)), (4, .int (nI k4)), (5, .int (nI (stc V (16 * k1 + 4 * k2) n1))), (6, .int (nI (stc V (16 * k3 + 4 * k4) n3))), (7, .int (nI i)), (8, .int (nI j))]) hx hb dX9_line_156 hl (by decide) rfl (fun ls hl => ?_)
                            refine lv_iload hx hb dX9_line_158 (lv_at hl 10 rfl) ?_
                            refine lv_if_eq (tgt := 168) hx hb dX9_line_160 (by decide) (fun c160_56 => ?_) (fun c160_56 => ?_)
                            · exact (show False from c83_24 c160_56).elim
                            · skip
                              refine lv_iload hx hb dX9_line_163 (lv_at hl 11 rfl) ?_
                              refine lv_if_ne (tgt := 174) hx hb dX9_line_165 (by decide) (fun c165_57 => ?_) (fun c165_57 => ?_)
                              · exact (show False from c165_57 c131_28).elim
                              · skip
                                refine lv_sipush (v := 9999) hx hb dX9_line_168 (by decide) ?_
                                refine lv_goto (tgt := 211) hx hb dX9_line_171 (by decide) ?_
                                refine lv_istore (lv' := [(12, .int 9999), (11, .int 9999), (10, .int (nI (dp B2_14 B2_18 (i - 1) j + 3))), (9, .int 9999), (0, .ref k0), (1, .int (nI k1)), (2, .int (nI k2)), (3, .int (nI k3)), (4, .int (nI k4)), (5, .int (nI (stc V (16 * k1 + 4 * k2) n1))), (6, .int (nI (stc V (16 * k3 + 4 * k4) n3))), (7, .int (nI i)), (8, .int (nI j))]) hx hb dX9_line_211 hl (by decide) rfl (fun ls hl => ?_)
                                refine lv_iload hx hb dX9_line_213 (lv_at hl 2 rfl) ?_
                                refine lv_iload hx hb dX9_line_215 (lv_at hl 3 rfl) ?_
                                refine lv_icmp_ge (tgt := 225) hx hb dX9_line_217 (by decide) (fun c217_58 => ?_) (fun c217_58 => ?_)
                                · skip
                                  refine lv_iload hx hb dX9_line_225 (lv_at hl 3 rfl) ?_
                                  refine lv_istore (lv' := [(9, .int 9999), (12, .int 9999), (11, .int 9999), (10, .int (nI (dp B2_14 B2_18 (i - 1) j + 3))), (0, .ref k0), (1, .int (nI k1)), (2, .int (nI k2)), (3, .int (nI k3)), (4, .int (nI k4)), (5, .int (nI (stc V (16 * k1 + 4 * k2) n1))), (6, .int (nI (stc V (16 * k3 + 4 * k4) n3))), (7, .int (nI i)), (8, .int (nI j))]) hx hb dX9_line_227 hl (by decide) rfl (fun ls hl => ?_)
                                  refine lv_iload hx hb dX9_line_229 (lv_at hl 2 rfl) ?_
                                  refine lv_iload hx hb dX9_line_231 (lv_at hl 0 rfl) ?_
                                  refine lv_icmp_ge (tgt := 241) hx hb dX9_line_233 (by decide) (fun c233_59 => ?_) (fun c233_59 => ?_)
                                  · skip
                                    refine lv_iload hx hb dX9_line_241 (lv_at hl 0 rfl) ?_
                                    refine lv_istore (lv' := [(9, .int 9999), (12, .int 9999), (11, .int 9999), (10, .int (nI (dp B2_14 B2_18 (i - 1) j + 3))), (0, .ref k0), (1, .int (nI k1)), (2, .int (nI k2)), (3, .int (nI k3)), (4, .int (nI k4)), (5, .int (nI (stc V (16 * k1 + 4 * k2) n1))), (6, .int (nI (stc V (16 * k3 + 4 * k4) n3))), (7, .int (nI i)), (8, .int (nI j))]) hx hb dX9_line_243 hl (by decide) rfl (fun ls hl => ?_)
                                    refine lv_aload_n hx hb dX9_line_245 rfl (lv_at hl 4 rfl) ?_
                                    refine va_get (D := g.1) (ci := 9) (v := .ref m28) (C := RX9) (T := TX9) (N := 41) hx hb hts q_X9_line_f_f9 hown hE.1 hP 3 rfl rfl 28 (by decide) (hts (.fieldLink RX9 64 "SoundLawsModel" "lines" "[I") q_X9_line_f_3) (fun _ h9 => h9) rfl dX9_line_246 ?_
                                    refine lv_iconst (v := 5) hx hb dX9_line_249 (by decide) ?_
                                    refine lv_iload hx hb dX9_line_250 (lv_at hl 11 rfl) ?_
                                    refine lv_imul hx hb dX9_line_252 ?_
                                    refine lv_iload hx hb dX9_line_253 (lv_at hl 12 rfl) ?_
                                    refine lv_iadd hx hb dX9_line_255 ?_
                                    refine lv_iload hx hb dX9_line_256 (lv_at hl 1 rfl) ?_
                                    refine lv_iload hx hb dX9_line_258 (lv_at hl 0 rfl) ?_
                                    refine lv_icmp_ge (tgt := 268) hx hb dX9_line_260 (by decide) (fun c260_60 => ?_) (fun c260_60 => ?_)
                                    · skip
                                      refine lv_iload hx hb dX9_line_268 (lv_at hl 0 rfl) ?_
                                      have b1 := dp_le (M := B2_14) (W := B2_18) (i - 1) (j - 1); have b2 := dp_le (M := B2_14) (W := B2_18) (i - 1) j; have b3 := dp_le (M := B2_14) (W := B2_18) i (j - 1)
                                      have h217 : 9999 ≤ dp B2_14 B2_18 (i - 1) j + 3 := (le_nI (a := 9999) (b := dp B2_14 B2_18 (i - 1) j + 3) (by omega) (by omega)).mp c217_58
                                      have h233 : 9999 ≤ 9999 := (le_nI (a := 9999) (b := 9999) (by omega) (by omega)).mp c233_59
                                      have h260 : 9999 ≤ 9999 := (le_nI (a := 9999) (b := 9999) (by omega) (by omega)).mp c260_60
                                      have hj0 : j = 0 := (nI_eq (b := 0) (by omega) (by decide)).mp c131_28
                                      have hip : 1 ≤ i := Nat.pos_of_ne_zero (fun q => c83_24 (by rw [q]; rfl))
                                      have d1 := dp_z2 (M := B2_14) (W := B2_18) (i := i) hj0; have d2 := dp_z2 (M := B2_14) (W := B2_18) (i := i - 1) hj0
                                      have hdp : 9999 = dp B2_14 B2_18 i j := by omega
                                      refine lv_topi (fun x_61 ex_61 => ?_)
                                      obtain rfl : x_61 = nI (dp B2_14 B2_18 i j) := by rw [ex_61]; exact congrArg nI hdp
                                      refine k_ast (x := (nI (dp B2_14 B2_18 i j))) (5 * i + j) (by rw [show (5 : Int32) = nI 5 from rfl, pk_mul, nI_add]) (by omega) hx hb hE hP hD hS 1 rfl (by decide) dX9_line_270 (fun H locs hP hD hS => ?_)
                                      have hP : va_P g.1 vwCl [(m13, ai g 6 K), (m28, ai g 25 (upd L2 (5 * i + j) (nI (dp B2_14 B2_18 i j)))), (m26, ai g 4 B2_14), (k0, .inr (9, [.ref m0, .int s1, .int s2, .int s3, .int s4, .int s5, .int s6, .ref m7, .ref m8, .ref m9, .int (nI z), .int (nI t), .int s12, .ref m13, .ref m14, .ref m15, .int s16, .ref m17, .ref m18, .ref m19, .ref m20, .ref m21, .ref m22, .ref m23, .ref m24, .ref m25, .ref m26, .ref m27, .ref m28, .int s29, .ref m30, .int s31, .int s32, .int s33, .int s34, .int s35, .ref m36, .ref m37, .ref m38, .ref m39, .long s40])), (m14, ai g 6 L), (m15, ai g 96 V), (m27, ai g 4 B2_18)] H := hP
                                      have hD : va_D A [(m13, ai g 6 K), (m28, ai g 25 (upd L2 (5 * i + j) (nI (dp B2_14 B2_18 i j)))), (m26, ai g 4 B2_14), (k0, .inr (9, [.ref m0, .int s1, .int s2, .int s3, .int s4, .int s5, .int s6, .ref m7, .ref m8, .ref m9, .int (nI z), .int (nI t), .int s12, .ref m13, .ref m14, .ref m15, .int s16, .ref m17, .ref m18, .ref m19, .ref m20, .ref m21, .ref m22, .ref m23, .ref m24, .ref m25, .ref m26, .ref m27, .ref m28, .int s29, .ref m30, .int s31, .int s32, .int s33, .int s34, .int s35, .ref m36, .ref m37, .ref m38, .ref m39, .long s40])), (m14, ai g 6 L), (m15, ai g 96 V), (m27, ai g 4 B2_18)] := hD
                                      refine lv_iinc (v := (nI (j + 1))) (lv' := [(8, .int (nI (j + 1))), (9, .int 9999), (12, .int 9999), (11, .int 9999), (10, .int (nI (dp B2_14 B2_18 (i - 1) j + 3))), (0, .ref k0), (1, .int (nI k1)), (2, .int (nI k2)), (3, .int (nI k3)), (4, .int (nI k4)), (5, .int (nI (stc V (16 * k1 + 4 * k2) n1))), (6, .int (nI (stc V (16 * k3 + 4 * k4) n3))), (7, .int (nI i))]) hx hb dX9_line_271 hl (k := 12) rfl (nI_1 _) (by decide) rfl (fun ls hl => ?_)
                                      refine lv_goto (tgt := 74) hx hb dX9_line_274 (by decide) ?_
                                      exact ih74 (j + 1) _ (by omega) (TBL_s (by omega) hj9 hT2) (by omega) _ _ _ hP hD hS (lv_sub hl [5, 6, 7, 8, 9, 10, 11, 12, 0] rfl)
                                    · exact absurd c260_60 (by decide)
                                  · exact absurd c233_59 (by decide)
                                · skip
                                  refine lv_iload hx hb dX9_line_220 (lv_at hl 2 rfl) ?_
                                  refine lv_goto (tgt := 227) hx hb dX9_line_222 (by decide) ?_
                                  refine lv_istore (lv' := [(9, .int (nI (dp B2_14 B2_18 (i - 1) j + 3))), (12, .int 9999), (11, .int 9999), (10, .int (nI (dp B2_14 B2_18 (i - 1) j + 3))), (0, .ref k0), (1, .int (nI k1)), (2, .int (nI k2)), (3, .int (nI k3)), (4, .int (nI k4)), (5, .int (nI (stc V (16 * k1 + 4 * k2) n1))), (6, .int (nI (stc V (16 * k3 + 4 * k4) n3))), (7, .int (nI i)), (8, .int (nI j))]) hx hb dX9_line_227 hl (by decide) rfl (fun ls hl => ?_)
                                  refine lv_iload hx hb dX9_line_229 (lv_at hl 2 rfl) ?_
                                  refine lv_iload hx hb dX9_line_231 (lv_at hl 0 rfl) ?_
                                  refine lv_icmp_ge (tgt := 241) hx hb dX9_line_233 (by decide) (fun c233_62 => ?_) (fun c233_62 => ?_)
                                  · skip
                                    refine lv_iload hx hb dX9_line_241 (lv_at hl 0 rfl) ?_
                                    refine lv_istore (lv' := [(9, .int (nI (dp B2_14 B2_18 (i - 1) j + 3))), (12, .int 9999), (11, .int 9999), (10, .int (nI (dp B2_14 B2_18 (i - 1) j + 3))), (0, .ref k0), (1, .int (nI k1)), (2, .int (nI k2)), (3, .int (nI k3)), (4, .int (nI k4)), (5, .int (nI (stc V (16 * k1 + 4 * k2) n1))), (6, .int (nI (stc V (16 * k3 + 4 * k4) n3))), (7, .int (nI i)), (8, .int (nI j))]) hx hb dX9_line_243 hl (by decide) rfl (fun ls hl => ?_)
                                    refine lv_aload_n hx hb dX9_line_245 rfl (lv_at hl 4 rfl) ?_
                                    refine va_get (D := g.1) (ci := 9) (v := .ref m28) (C := RX9) (T := TX9) (N := 41) hx hb hts q_X9_line_f_f9 hown hE.1 hP 3 rfl rfl 28 (by decide) (hts (.fieldLink RX9 64 "SoundLawsModel" "lines" "[I") q_X9_line_f_3) (fun _ h9 => h9) rfl dX9_line_246 ?_
                                    refine lv_iconst (v := 5) hx hb dX9_line_249 (by decide) ?_
                                    refine lv_iload hx hb dX9_line_250 (lv_at hl 11 rfl) ?_
                                    refine lv_imul hx hb dX9_line_252 ?_
                                    refine lv_iload hx hb dX9_line_253 (lv_at hl 12 rfl) ?_
                                    refine lv_iadd hx hb dX9_line_255 ?_
                                    refine lv_iload hx hb dX9_line_256 (lv_at hl 1 rfl) ?_
                                    refine lv_iload hx hb dX9_line_258 (lv_at hl 0 rfl) ?_
                                    refine lv_icmp_ge (tgt := 268) hx hb dX9_line_260 (by decide) (fun c260_63 => ?_) (fun c260_63 => ?_)
                                    · skip
                                      refine lv_iload hx hb dX9_line_268 (lv_at hl 0 rfl) ?_
                                      have b1 := dp_le (M := B2_14) (W := B2_18) (i - 1) (j - 1); have b2 := dp_le (M := B2_14) (W := B2_18) (i - 1) j; have b3 := dp_le (M := B2_14) (W := B2_18) i (j - 1)
                                      have h217 : ¬ 9999 ≤ dp B2_14 B2_18 (i - 1) j + 3 := fun q => c217_58 ((le_nI (a := 9999) (b := dp B2_14 B2_18 (i - 1) j + 3) (by omega) (by omega)).mpr q)
                                      have h233 : dp B2_14 B2_18 (i - 1) j + 3 ≤ 9999 := (le_nI (a := dp B2_14 B2_18 (i - 1) j + 3) (b := 9999) (by omega) (by omega)).mp c233_62
                                      have h260 : dp B2_14 B2_18 (i - 1) j + 3 ≤ 9999 := (le_nI (a := dp B2_14 B2_18 (i - 1) j + 3) (b := 9999) (by omega) (by omega)).mp c260_63
                                      have hj0 : j = 0 := (nI_eq (b := 0) (by omega) (by decide)).mp c131_28
                                      have hip : 1 ≤ i := Nat.pos_of_ne_zero (fun q => c83_24 (by rw [q]; rfl))
                                      have d1 := dp_z2 (M := B2_14) (W := B2_18) (i := i) hj0; have d2 := dp_z2 (M := B2_14) (W := B2_18) (i := i - 1) hj0
                                      have hdp : dp B2_14 B2_18 (i - 1) j + 3 = dp B2_14 B2_18 i j := by omega
                                      refine lv_topi (fun x_64 ex_64 => ?_)
                                      obtain rfl : x_64 = nI (dp B2_14 B2_18 i j) := by rw [ex_64]; exact congrArg nI hdp
                                      refine k_ast (x := (nI (dp B2_14 B2_18 i j))) (5 * i + j) (by rw [show (5 : Int32) = nI 5 from rfl, pk_mul, nI_add]) (by omega) hx hb hE hP hD hS 1 rfl (by decide) dX9_line_270 (fun H locs hP hD hS => ?_)
                                      have hP : va_P g.1 vwCl [(m13, ai g 6 K), (m28, ai g 25 (upd L2 (5 * i + j) (nI (dp B2_14 B2_18 i j)))), (m26, ai g 4 B2_14), (k0, .inr (9, [.ref m0, .int s1, .int s2, .int s3, .int s4, .int s5, .int s6, .ref m7, .ref m8, .ref m9, .int (nI z), .int (nI t), .int s12, .ref m13, .ref m14, .ref m15, .int s16, .ref m17, .ref m18, .ref m19, .ref m20, .ref m21, .ref m22, .ref m23, .ref m24, .ref m25, .ref m26, .ref m27, .ref m28, .int s29, .ref m30, .int s31, .int s32, .int s33, .int s34, .int s35, .ref m36, .ref m37, .ref m38, .ref m39, .long s40])), (m14, ai g 6 L), (m15, ai g 96 V), (m27, ai g 4 B2_18)] H := hP
                                      have hD : va_D A [(m13, ai g 6 K), (m28, ai g 25 (upd L2 (5 * i + j) (nI (dp B2_14 B2_18 i j)))), (m26, ai g 4 B2_14), (k0, .inr (9, [.ref m0, .int s1, .int s2, .int s3, .int s4, .int s5, .int s6, .ref m7, .ref m8, .ref m9, .int (nI z), .int (nI t), .int s12, .ref m13, .ref m14, .ref m15, .int s16, .ref m17, .ref m18, .ref m19, .ref m20, .ref m21, .ref m22, .ref m23, .ref m24, .ref m25, .ref m26, .ref m27, .ref m28, .int s29, .ref m30, .int s31, .int s32, .int s33, .int s34, .int s35, .ref m36, .ref m37, .ref m38, .ref m39, .long s40])), (m14, ai g 6 L), (m15, ai g 96 V), (m27, ai g 4 B2_18)] := hD
                                      refine lv_iinc (v := (nI (j + 1))) (lv' := [(8, .int (nI (j + 1))), (9, .int (nI (dp B2_14 B2_18 (i - 1) j + 3))), (12, .int 9999), (11, .int 9999), (10, .int (nI (dp B2_14 B2_18 (i - 1) j + 3))), (0, .ref k0), (1, .int (nI k1)), (2, .int (nI k2)), (3, .int (nI k3)), (4, .int (nI k4)), (5, .int (nI (stc V (16 * k1 + 4 * k2) n1))), (6, .int (nI (stc V (16 * k3 + 4 * k4) n3))), (7, .int (nI i))]) hx hb dX9_line_271 hl (k := 12) rfl (nI_1 _) (by decide) rfl (fun ls hl => ?_)
                                      refine lv_goto (tgt := 74) hx hb dX9_line_274 (by decide) ?_
                                      exact ih74 (j + 1) _ (by omega) (TBL_s (by omega) hj9 hT2) (by omega) _ _ _ hP hD hS (lv_sub hl [5, 6, 7, 8, 9, 10, 11, 12, 0] rfl)
                                    · skip
                                      refine lv_iload hx hb dX9_line_263 (lv_at hl 1 rfl) ?_
                                      refine lv_goto (tgt := 270) hx hb dX9_line_265 (by decide) ?_
                                      have b1 := dp_le (M := B2_14) (W := B2_18) (i - 1) (j - 1); have b2 := dp_le (M := B2_14) (W := B2_18) (i - 1) j; have b3 := dp_le (M := B2_14) (W := B2_18) i (j - 1)
                                      have h217 : ¬ 9999 ≤ dp B2_14 B2_18 (i - 1) j + 3 := fun q => c217_58 ((le_nI (a := 9999) (b := dp B2_14 B2_18 (i - 1) j + 3) (by omega) (by omega)).mpr q)
                                      have h233 : dp B2_14 B2_18 (i - 1) j + 3 ≤ 9999 := (le_nI (a := dp B2_14 B2_18 (i - 1) j + 3) (b := 9999) (by omega) (by omega)).mp c233_62
                                      have h260 : ¬ dp B2_14 B2_18 (i - 1) j + 3 ≤ 9999 := fun q => c260_63 ((le_nI (a := dp B2_14 B2_18 (i - 1) j + 3) (b := 9999) (by omega) (by omega)).mpr q)
                                      have hj0 : j = 0 := (nI_eq (b := 0) (by omega) (by decide)).mp c131_28
                                      have hip : 1 ≤ i := Nat.pos_of_ne_zero (fun q => c83_24 (by rw [q]; rfl))
                                      have d1 := dp_z2 (M := B2_14) (W := B2_18) (i := i) hj0; have d2 := dp_z2 (M := B2_14) (W := B2_18) (i := i - 1) hj0
                                      have hdp : 9999 = dp B2_14 B2_18 i j := by omega
                                      refine lv_topi (fun x_65 ex_65 => ?_)
                                      obtain rfl : x_65 = nI (dp B2_14 B2_18 i j) := by rw [ex_65]; exact congrArg nI hdp
                                      refine k_ast (x := (nI (dp B2_14 B2_18 i j))) (5 * i + j) (by rw [show (5 : Int32) = nI 5 from rfl, pk_mul, nI_add]) (by omega) hx hb hE hP hD hS 1 rfl (by decide) dX9_line_270 (fun H locs hP hD hS => ?_)
                                      have hP : va_P g.1 vwCl [(m13, ai g 6 K), (m28, ai g 25 (upd L2 (5 * i + j) (nI (dp B2_14 B2_18 i j)))), (m26, ai g 4 B2_14), (k0, .inr (9, [.ref m0, .int s1, .int s2, .int s3, .int s4, .int s5, .int s6, .ref m7, .ref m8, .ref m9, .int (nI z), .int (nI t), .int s12, .ref m13, .ref m14, .ref m15, .int s16, .ref m17, .ref m18, .ref m19, .ref m20, .ref m21, .ref m22, .ref m23, .ref m24, .ref m25, .ref m26, .ref m27, .ref m28, .int s29, .ref m30, .int s31, .int s32, .int s33, .int s34, .int s35, .ref m36, .ref m37, .ref m38, .ref m39, .long s40])), (m14, ai g 6 L), (m15, ai g 96 V), (m27, ai g 4 B2_18)] H := hP
                                      have hD : va_D A [(m13, ai g 6 K), (m28, ai g 25 (upd L2 (5 * i + j) (nI (dp B2_14 B2_18 i j)))), (m26, ai g 4 B2_14), (k0, .inr (9, [.ref m0, .int s1, .int s2, .int s3, .int s4, .int s5, .int s6, .ref m7, .ref m8, .ref m9, .int (nI z), .int (nI t), .int s12, .ref m13, .ref m14, .ref m15, .int s16, .ref m17, .ref m18, .ref m19, .ref m20, .ref m21, .ref m22, .ref m23, .ref m24, .ref m25, .ref m26, .ref m27, .ref m28, .int s29, .ref m30, .int s31, .int s32, .int s33, .int s34, .int s35, .ref m36, .ref m37, .ref m38, .ref m39, .long s40])), (m14, ai g 6 L), (m15, ai g 96 V), (m27, ai g 4 B2_18)] := hD
                                      refine lv_iinc (v := (nI (j + 1))) (lv' := [(8, .int (nI (j + 1))), (9, .int (nI (dp B2_14 B2_18 (i - 1) j + 3))), (12, .int 9999), (11, .int 9999), (10, .int (nI (dp B2_14 B2_18 (i - 1) j + 3))), (0, .ref k0), (1, .int (nI k1)), (2, .int (nI k2)), (3, .int (nI k3)), (4, .int (nI k4)), (5, .int (nI (stc V (16 * k1 + 4 * k2) n1))), (6, .int (nI (stc V (16 * k3 + 4 * k4) n3))), (7, .int (nI i))]) hx hb dX9_line_271 hl (k := 12) rfl (nI_1 _) (by decide) rfl (fun ls hl => ?_)
                                      refine lv_goto (tgt := 74) hx hb dX9_line_274 (by decide) ?_
                                      exact ih74 (j + 1) _ (by omega) (TBL_s (by omega) hj9 hT2) (by omega) _ _ _ hP hD hS (lv_sub hl [5, 6, 7, 8, 9, 10, 11, 12, 0] rfl)
                                  · skip
                                    refine lv_iload hx hb dX9_line_236 (lv_at hl 2 rfl) ?_
                                    refine lv_goto (tgt := 243) hx hb dX9_line_238 (by decide) ?_
                                    refine lv_istore (lv' := [(9, .int 9999), (12, .int 9999), (11, .int 9999), (10, .int (nI (dp B2_14 B2_18 (i - 1) j + 3))), (0, .ref k0), (1, .int (nI k1)), (2, .int (nI k2)), (3, .int (nI k3)), (4, .int (nI k4)), (5, .int (nI (stc V (16 * k1 + 4 * k2) n1))), (6, .int (nI (stc V (16 * k3 + 4 * k4) n3))), (7, .int (nI i)), (8, .int (nI j))]) hx hb dX9_line_243 hl (by decide) rfl (fun ls hl => ?_)
                                    refine lv_aload_n hx hb dX9_line_245 rfl (lv_at hl 4 rfl) ?_
                                    refine va_get (D := g.1) (ci := 9) (v := .ref m28) (C := RX9) (T := TX9) (N := 41) hx hb hts q_X9_line_f_f9 hown hE.1 hP 3 rfl rfl 28 (by decide) (hts (.fieldLink RX9 64 "SoundLawsModel" "lines" "[I") q_X9_line_f_3) (fun _ h9 => h9) rfl dX9_line_246 ?_
                                    refine lv_iconst (v := 5) hx hb dX9_line_249 (by decide) ?_
                                    refine lv_iload hx hb dX9_line_250 (lv_at hl 11 rfl) ?_
                                    refine lv_imul hx hb dX9_line_252 ?_
                                    refine lv_iload hx hb dX9_line_253 (lv_at hl 12 rfl) ?_
                                    refine lv_iadd hx hb dX9_line_255 ?_
                                    refine lv_iload hx hb dX9_line_256 (lv_at hl 1 rfl) ?_
                                    refine lv_iload hx hb dX9_line_258 (lv_at hl 0 rfl) ?_
                                    refine lv_icmp_ge (tgt := 268) hx hb dX9_line_260 (by decide) (fun c260_66 => ?_) (fun c260_66 => ?_)
                                    · skip
                                      refine lv_iload hx hb dX9_line_268 (lv_at hl 0 rfl) ?_
                                      have b1 := dp_le (M := B2_14) (W := B2_18) (i - 1) (j - 1); have b2 := dp_le (M := B2_14) (W := B2_18) (i - 1) j; have b3 := dp_le (M := B2_14) (W := B2_18) i (j - 1)
                                      have h217 : ¬ 9999 ≤ dp B2_14 B2_18 (i - 1) j + 3 := fun q => c217_58 ((le_nI (a := 9999) (b := dp B2_14 B2_18 (i - 1) j + 3) (by omega) (by omega)).mpr q)
                                      have h233 : ¬ dp B2_14 B2_18 (i - 1) j + 3 ≤ 9999 := fun q => c233_62 ((le_nI (a := dp B2_14 B2_18 (i - 1) j + 3) (b := 9999) (by omega) (by omega)).mpr q)
                                      have h260 : 9999 ≤ 9999 := (le_nI (a := 9999) (b := 9999) (by omega) (by omega)).mp c260_66
                                      have hj0 : j = 0 := (nI_eq (b := 0) (by omega) (by decide)).mp c131_28
                                      have hip : 1 ≤ i := Nat.pos_of_ne_zero (fun q => c83_24 (by rw [q]; rfl))
                                      have d1 := dp_z2 (M := B2_14) (W := B2_18) (i := i) hj0; have d2 := dp_z2 (M := B2_14) (W := B2_18) (i := i - 1) hj0
                                      have hdp : 9999 = dp B2_14 B2_18 i j := by omega
                                      refine lv_topi (fun x_67 ex_67 => ?_)
                                      obtain rfl : x_67 = nI (dp B2_14 B2_18 i j) := by rw [ex_67]; exact congrArg nI hdp
                                      refine k_ast (x := (nI (dp B2_14 B2_18 i j))) (5 * i + j) (by rw [show (5 : Int32) = nI 5 from rfl, pk_mul, nI_add]) (by omega) hx hb hE hP hD hS 1 rfl (by decide) dX9_line_270 (fun H locs hP hD hS => ?_)
                                      have hP : va_P g.1 vwCl [(m13, ai g 6 K), (m28, ai g 25 (upd L2 (5 * i + j) (nI (dp B2_14 B2_18 i j)))), (m26, ai g 4 B2_14), (k0, .inr (9, [.ref m0, .int s1, .int s2, .int s3, .int s4, .int s5, .int s6, .ref m7, .ref m8, .ref m9, .int (nI z), .int (nI t), .int s12, .ref m13, .ref m14, .ref m15, .int s16, .ref m17, .ref m18, .ref m19, .ref m20, .ref m21, .ref m22, .ref m23, .ref m24, .ref m25, .ref m26, .ref m27, .ref m28, .int s29, .ref m30, .int s31, .int s32, .int s33, .int s34, .int s35, .ref m36, .ref m37, .ref m38, .ref m39, .long s40])), (m14, ai g 6 L), (m15, ai g 96 V), (m27, ai g 4 B2_18)] H := hP
                                      have hD : va_D A [(m13, ai g 6 K), (m28, ai g 25 (upd L2 (5 * i + j) (nI (dp B2_14 B2_18 i j)))), (m26, ai g 4 B2_14), (k0, .inr (9, [.ref m0, .int s1, .int s2, .int s3, .int s4, .int s5, .int s6, .ref m7, .ref m8, .ref m9, .int (nI z), .int (nI t), .int s12, .ref m13, .ref m14, .ref m15, .int s16, .ref m17, .ref m18, .ref m19, .ref m20, .ref m21, .ref m22, .ref m23, .ref m24, .ref m25, .ref m26, .ref m27, .ref m28, .int s29, .ref m30, .int s31, .int s32, .int s33, .int s34, .int s35, .ref m36, .ref m37, .ref m38, .ref m39, .long s40])), (m14, ai g 6 L), (m15, ai g 96 V), (m27, ai g 4 B2_18)] := hD
                                      refine lv_iinc (v := (nI (j + 1))) (lv' := [(8, .int (nI (j + 1))), (9, .int 9999), (12, .int 9999), (11, .int 9999), (10, .int (nI (dp B2_14 B2_18 (i - 1) j + 3))), (0, .ref k0), (1, .int (nI k1)), (2, .int (nI k2)), (3, .int (nI k3)), (4, .int (nI k4)), (5, .int (nI (stc V (16 * k1 + 4 * k2) n1))), (6, .int (nI (stc V (16 * k3 + 4 * k4) n3))), (7, .int (nI i))]) hx hb dX9_line_271 hl (k := 12) rfl (nI_1 _) (by decide) rfl (fun ls hl => ?_)
                                      refine lv_goto (tgt := 74) hx hb dX9_line_274 (by decide) ?_
                                      exact ih74 (j + 1) _ (by omega) (TBL_s (by omega) hj9 hT2) (by omega) _ _ _ hP hD hS (lv_sub hl [5, 6, 7, 8, 9, 10, 11, 12, 0] rfl)
                                    · exact absurd c260_66 (by decide)
                        · exact (show False from c83_24 c102_25).elim
                      · skip
                        refine lv_iload hx hb dX9_line_86 (lv_at hl 8 rfl) ?_
                        refine lv_if_ne (tgt := 95) hx hb dX9_line_88 (by decide) (fun c88_68 => ?_) (fun c88_68 => ?_)
                        · skip
                          refine lv_sipush (v := 9999) hx hb dX9_line_95 (by decide) ?_
                          refine lv_istore (lv' := [(9, .int 9999), (0, .ref k0), (1, .int (nI k1)), (2, .int (nI k2)), (3, .int (nI k3)), (4, .int (nI k4)), (5, .int (nI (stc V (16 * k1 + 4 * k2) n1))), (6, .int (nI (stc V (16 * k3 + 4 * k4) n3))), (7, .int (nI i)), (8, .int (nI j))]) hx hb dX9_line_98 hl (by decide) rfl (fun ls hl => ?_)
                          refine lv_iload hx hb dX9_line_100 (lv_at hl 8 rfl) ?_
                          refine lv_if_ne (tgt := 111) hx hb dX9_line_102 (by decide) (fun c102_69 => ?_) (fun c102_69 => ?_)
                          · exact (show False from c102_69 c83_24).elim
                          · skip
                            refine lv_sipush (v := 9999) hx hb dX9_line_105 (by decide) ?_
                            refine lv_goto (tgt := 127) hx hb dX9_line_108 (by decide) ?_
                            refine lv_istore (lv' := [(10, .int 9999), (9, .int 9999), (0, .ref k0), (1, .int (nI k1)), (2, .int (nI k2)), (3, .int (nI k3)), (4, .int (nI k4)), (5, .int (nI (stc V (16 * k1 + 4 * k2) n1))), (6, .int (nI (stc V (16 * k3 + 4 * k4) n3))), (7, .int (nI i)), (8, .int (nI j))]) hx hb dX9_line_127 hl (by decide) rfl (fun ls hl => ?_)
                            refine lv_iload hx hb dX9_line_129 (lv_at hl 10 rfl) ?_
                            refine lv_if_ne (tgt := 140) hx hb dX9_line_131 (by decide) (fun c131_70 => ?_) (fun c131_70 => ?_)
                            · skip
                              have hj0 : 1 ≤ j := Nat.pos_of_ne_zero (fun q => c88_68 (by rw [q]; rfl))
                              refine lv_aload_n hx hb dX9_line_140 rfl (lv_at hl 2 rfl) ?_
                              refine va_get (D := g.1) (ci := 9) (v := .ref m28) (C := RX9) (T := TX9) (N := 41) hx hb hts q_X9_line_f_f9 hown hE.1 hP 3 rfl rfl 28 (by decide) (hts (.fieldLink RX9 64 "SoundLawsModel" "lines" "[I") q_X9_line_f_3) (fun _ h9 => h9) rfl dX9_line_141 ?_
                              refine lv_iconst (v := 5) hx hb dX9_line_144 (by decide) ?_
                              refine lv_iload hx hb dX9_line_145 (lv_at hl 9 rfl) ?_
                              refine lv_imul hx hb dX9_line_147 ?_
                              refine lv_iload hx hb dX9_line_148 (lv_at hl 10 rfl) ?_
                              refine lv_iadd hx hb dX9_line_150 ?_
                              refine lv_iconst (v := 1) hx hb dX9_line_151 (by decide) ?_
                              refine lv_isub hx hb dX9_line_152 ?_
                              refine lv_topi (fun x_71 ex_71 => ?_)
                              obtain rfl : x_71 = nI (5 * i + j - 1) := by rw [ex_71]; rw [show (5 : Int32) = nI 5 from rfl, pk_mul, nI_add, show (1 : Int32) = nI 1 from rfl, pk_sub (by omega)]
                              refine k_ald (5 * i + j - 1) rfl (by omega) hx hb hE hP 1 rfl (by decide) dX9_line_153 ?_
                              refine lv_iconst (v := 3) hx hb dX9_line_154 (by decide) ?_
                              refine lv_iadd hx hb dX9_line_155 ?_
                              refine lv_topi (fun x_72 ex_72 => ?_)
                              obtain rfl : x_72 = nI (dp B2_14 B2_18 i (j - 1) + 3) := by rw [ex_72]; rw [hT2 i (j - 1) (Or.inr ⟨rfl, by omega⟩) (by omega) _ (show 5 * i + j - 1 = 5 * i + (j - 1) by omega), show (3 : Int32) = nI 3 from rfl, nI_add]
                              refine lv_istore (lv' := [(11, .int (nI (dp B2_14 B2_18 i (j - 1) + 3))), (10, .int 9999), (9, .int 9999), (0, .ref k0), (1, .int (nI k1)), (2, .int (nI k2)), (3, .int (nI k3)), (4, .int (nI k4)), (5, .int (nI (stc V (16 * k1 + 4 * k2) n1))), (6, .int (nI (stc V (16 * k3 + 4 * k4) n3))), (7, .int (nI i)), (8, .int (nI j))]) hx hb dX9_line_156 hl (by decide) rfl (fun ls hl => ?_)
                              refine lv_iload hx hb dX9_line_158 (lv_at hl 10 rfl) ?_
                              refine lv_if_eq (tgt := 168) hx hb dX9_line_160 (by decide) (fun c160_73 => ?_) (fun c160_73 => ?_)
                              · skip
                                refine lv_sipush (v := 9999) hx hb dX9_line_168 (by decide) ?_
                                refine lv_goto (tgt := 211) hx hb dX9_line_171 (by decide) ?_
                                refine lv_istore (lv' := [(12, .int 9999), (11, .int (nI (dp B2_14 B2_18 i (j - 1) + 3))), (10, .int 9999), (9, .int 9999), (0, .ref k0), (1, .int (nI k1)), (2, .int (nI k2)), (3, .int (nI k3)), (4, .int (nI k4)), (5, .int (nI (stc V (16 * k1 + 4 * k2) n1))), (6, .int (nI (stc V (16 * k3 + 4 * k4) n3))), (7, .int (nI i)), (8, .int (nI j))]) hx hb dX9_line_211 hl (by decide) rfl (fun ls hl => ?_)
                                refine lv_iload hx hb dX9_line_213 (lv_at hl 2 rfl) ?_
                                refine lv_iload hx hb dX9_line_215 (lv_at hl 3 rfl) ?_
                                refine lv_icmp_ge (tgt := 225) hx hb dX9_line_217 (by decide) (fun c217_74 => ?_) (fun c217_74 => ?_)
                                · skip
                                  refine lv_iload hx hb dX9_line_225 (lv_at hl 3 rfl) ?_
                                  refine lv_istore (lv' := [(9, .int 9999), (12, .int 9999), (11, .int (nI (dp B2_14 B2_18 i (j - 1) + 3))), (10, .int 9999), (0, .ref k0), (1, .int (nI k1)), (2, .int (nI k2)), (3, .int (nI k3)), (4, .int (nI k4)), (5, .int (nI (stc V (16 * k1 + 4 * k2) n1))), (6, .int (nI (stc V (16 * k3 + 4 * k4) n3))), (7, .int (nI i)), (8, .int (nI j))]) hx hb dX9_line_227 hl (by decide) rfl (fun ls hl => ?_)
                                  refine lv_iload hx hb dX9_line_229 (lv_at hl 2 rfl) ?_
                                  refine lv_iload hx hb dX9_line_231 (lv_at hl 0 rfl) ?_
                                  refine lv_icmp_ge (tgt := 241) hx hb dX9_line_233 (by decide) (fun c233_75 => ?_) (fun c233_75 => ?_)
                                  · skip
                                    refine lv_iload hx hb dX9_line_241 (lv_at hl 0 rfl) ?_
                                    refine lv_istore (lv' := [(9, .int 9999), (12, .int 9999), (11, .int (nI (dp B2_14 B2_18 i (j - 1) + 3))), (10, .int 9999), (0, .ref k0), (1, .int (nI k1)), (2, .int (nI k2)), (3, .int (nI k3)), (4, .int (nI k4)), (5, .int (nI (stc V (16 * k1 + 4 * k2) n1))), (6, .int (nI (stc V (16 * k3 + 4 * k4) n3))), (7, .int (nI i)), (8, .int (nI j))]) hx hb dX9_line_243 hl (by decide) rfl (fun ls hl => ?_)
                                    refine lv_aload_n hx hb dX9_line_245 rfl (lv_at hl 4 rfl) ?_
                                    refine va_get (D := g.1) (ci := 9) (v := .ref m28) (C := RX9) (T := TX9) (N := 41) hx hb hts q_X9_line_f_f9 hown hE.1 hP 3 rfl rfl 28 (by decide) (hts (.fieldLink RX9 64 "SoundLawsModel" "lines" "[I") q_X9_line_f_3) (fun _ h9 => h9) rfl dX9_line_246 ?_
                                    refine lv_iconst (v := 5) hx hb dX9_line_249 (by decide) ?_
                                    refine lv_iload hx hb dX9_line_250 (lv_at hl 11 rfl) ?_
                                    refine lv_imul hx hb dX9_line_252 ?_
                                    refine lv_iload hx hb dX9_line_253 (lv_at hl 12 rfl) ?_
                                    refine lv_iadd hx hb dX9_line_255 ?_
                                    refine lv_iload hx hb dX9_line_256 (lv_at hl 1 rfl) ?_
                                    refine lv_iload hx hb dX9_line_258 (lv_at hl 0 rfl) ?_
                                    refine lv_icmp_ge (tgt := 268) hx hb dX9_line_260 (by decide) (fun c260_76 => ?_) (fun c260_76 => ?_)
                                    · skip
                                      refine lv_iload hx hb dX9_line_268 (lv_at hl 0 rfl) ?_
                                      have b1 := dp_le (M := B2_14) (W := B2_18) (i - 1) (j - 1); have b2 := dp_le (M := B2_14) (W := B2_18) (i - 1) j; have b3 := dp_le (M := B2_14) (W := B2_18) i (j - 1)
                                      have h217 : 9999 ≤ 9999 := (le_nI (a := 9999) (b := 9999) (by omega) (by omega)).mp c217_74
                                      have h233 : 9999 ≤ dp B2_14 B2_18 i (j - 1) + 3 := (le_nI (a := 9999) (b := dp B2_14 B2_18 i (j - 1) + 3) (by omega) (by omega)).mp c233_75
                                      have h260 : 9999 ≤ 9999 := (le_nI (a := 9999) (b := 9999) (by omega) (by omega)).mp c260_76
                                      have hi0 : i = 0 := (nI_eq (b := 0) (by omega) (by decide)).mp c83_24
                                      have d1 := dp_z1 (M := B2_14) (W := B2_18) (j := j) hi0; have d2 := dp_z1 (M := B2_14) (W := B2_18) (j := j - 1) hi0
                                      have hjp : 1 ≤ j := Nat.pos_of_ne_zero (fun q => c131_70 (by rw [q]; rfl))
                                      have hdp : 9999 = dp B2_14 B2_18 i j := by omega
                                      refine lv_topi (fun x_77 ex_77 => ?_)
                                      obtain rfl : x_77 = nI (dp B2_14 B2_18 i j) := by rw [ex_77]; exact congrArg nI hdp
                                      refine k_ast (x := (nI (dp B2_14 B2_18 i j))) (5 * i + j) (by rw [show (5 : Int32) = nI 5 from rfl, pk_mul, nI_add]) (by omega) hx hb hE hP hD hS 1 rfl (by decide) dX9_line_270 (fun H locs hP hD hS => ?_)
                                      have hP : va_P g.1 vwCl [(m13, ai g 6 K), (m28, ai g 25 (upd L2 (5 * i + j) (nI (dp B2_14 B2_18 i j)))), (m26, ai g 4 B2_14), (k0, .inr (9, [.ref m0, .int s1, .int s2, .int s3, .int s4, .int s5, .int s6, .ref m7, .ref m8, .ref m9, .int (nI z), .int (nI t), .int s12, .ref m13, .ref m14, .ref m15, .int s16, .ref m17, .ref m18, .ref m19, .ref m20, .ref m21, .ref m22, .ref m23, .ref m24, .ref m25, .ref m26, .ref m27, .ref m28, .int s29, .ref m30, .int s31, .int s32, .int s33, .int s34, .int s35, .ref m36, .ref m37, .ref m38, .ref m39, .long s40])), (m14, ai g 6 L), (m15, ai g 96 V), (m27, ai g 4 B2_18)] H := hP
                                      have hD : va_D A [(m13, ai g 6 K), (m28, ai g 25 (upd L2 (5 * i + j) (nI (dp B2_14 B2_18 i j)))), (m26, ai g 4 B2_14), (k0, .inr (9, [.ref m0, .int s1, .int s2, .int s3, .int s4, .int s5, .int s6, .ref m7, .ref m8, .ref m9, .int (nI z), .int (nI t), .int s12, .ref m13, .ref m14, .ref m15, .int s16, .ref m17, .ref m18, .ref m19, .ref m20, .ref m21, .ref m22, .ref m23, .ref m24, .ref m25, .ref m26, .ref m27, .ref m28, .int s29, .ref m30, .int s31, .int s32, .int s33, .int s34, .int s35, .ref m36, .ref m37, .ref m38, .ref m39, .long s40])), (m14, ai g 6 L), (m15, ai g 96 V), (m27, ai g 4 B2_18)] := hD
                                      refine lv_iinc (v := (nI (j + 1))) (lv' := [(8, .int (nI (j + 1))), (9, .int 9999), (12, .int 9999), (11, .int (nI (dp B2_14 B2_18 i (j - 1) + 3))), (10, .int 9999), (0, .ref k0), (1, .int (nI k1)), (2, .int (nI k2)), (3, .int (nI k3)), (4, .int (nI k4)), (5, .int (nI (stc V (16 * k1 + 4 * k2) n1))), (6, .int (nI (stc V (16 * k3 + 4 * k4) n3))), (7, .int (nI i))]) hx hb dX9_line_271 hl (k := 12) rfl (nI_1 _) (by decide) rfl (fun ls hl => ?_)
                                      refine lv_goto (tgt := 74) hx hb dX9_line_274 (by decide) ?_
                                      exact ih74 (j + 1) _ (by omega) (TBL_s (by omega) hj9 hT2) (by omega) _ _ _ hP hD hS (lv_sub hl [5, 6, 7, 8, 9, 10, 11, 12, 0] rfl)
                                    · exact absurd c260_76 (by decide)
                                  · skip
                                    refine lv_iload hx hb dX9_line_236 (lv_at hl 2 rfl) ?_
                                    refine lv_goto (tgt := 243) hx hb dX9_line_238 (by decide) ?_
                                    refine lv_istore (lv' := [(9, .int (nI (dp B2_14 B2_18 i (j - 1) + 3))), (12, .int 9999), (11, .int (nI (dp B2_14 B2_18 i (j - 1) + 3))), (10, .int 9999), (0, .ref k0), (1, .int (nI k1)), (2, .int (nI k2)), (3, .int (nI k3)), (4, .int (nI k4)), (5, .int (nI (stc V (16 * k1 + 4 * k2) n1))), (6, .int (nI (stc V (16 * k3 + 4 * k4) n3))), (7, .int (nI i)), (8, .int (nI j))]) hx hb dX9_line_243 hl (by decide) rfl (fun ls hl => ?_)
                                    refine lv_aload_n hx hb dX9_line_245 rfl (lv_at hl 4 rfl) ?_
                                    refine va_get (D := g.1) (ci := 9) (v := .ref m28) (C := RX9) (T := TX9) (N := 41) hx hb hts q_X9_line_f_f9 hown hE.1 hP 3 rfl rfl 28 (by decide) (hts (.fieldLink RX9 64 "SoundLawsModel" "lines" "[I") q_X9_line_f_3) (fun _ h9 => h9) rfl dX9_line_246 ?_
                                    refine lv_iconst (v := 5) hx hb dX9_line_249 (by decide) ?_
                                    refine lv_iload hx hb dX9_line_250 (lv_at hl 11 rfl) ?_
                                    refine lv_imul hx hb dX9_line_252 ?_
                                    refine lv_iload hx hb dX9_line_253 (lv_at hl 12 rfl) ?_
                                    refine lv_iadd hx hb dX9_line_255 ?_
                                    refine lv_iload hx hb dX9_line_256 (lv_at hl 1 rfl) ?_
                                    refine lv_iload hx hb dX9_line_258 (lv_at hl 0 rfl) ?_
                                    refine lv_icmp_ge (tgt := 268) hx hb dX9_line_260 (by decide) (fun c260_78 => ?_) (fun c260_78 => ?_)
                                    · skip
                                      refine lv_iload hx hb dX9_line_268 (lv_at hl 0 rfl) ?_
                                      have b1 := dp_le (M := B2_14) (W := B2_18) (i - 1) (j - 1); have b2 := dp_le (M := B2_14) (W := B2_18) (i - 1) j; have b3 := dp_le (M := B2_14) (W := B2_18) i (j - 1)
                                      have h217 : 9999 ≤ 9999 := (le_nI (a := 9999) (b := 9999) (by omega) (by omega)).mp c217_74
                                      have h233 : ¬ 9999 ≤ dp B2_14 B2_18 i (j - 1) + 3 := fun q => c233_75 ((le_nI (a := 9999) (b := dp B2_14 B2_18 i (j - 1) + 3) (by omega) (by omega)).mpr q)
                                      have h260 : dp B2_14 B2_18 i (j - 1) + 3 ≤ 9999 := (le_nI (a := dp B2_14 B2_18 i (j - 1) + 3) (b := 9999) (by omega) (by omega)).mp c260_78
                                      have hi0 : i = 0 := (nI_eq (b := 0) (by omega) (by decide)).mp c83_24
                                      have d1 := dp_z1 (M := B2_14) (W := B2_18) (j := j) hi0; have d2 := dp_z1 (M := B2_14) (W := B2_18) (j := j - 1) hi0
                                      have hjp : 1 ≤ j := Nat.pos_of_ne_zero (fun q => c131_70 (by rw [q]; rfl))
                                      have hdp : dp B2_14 B2_18 i (j - 1) + 3 = dp B2_14 B2_18 i j := by omega
                                      refine lv_topi (fun x_79 ex_79 => ?_)
                                      obtain rfl : x_79 = nI (dp B2_14 B2_18 i j) := by rw [ex_79]; exact congrArg nI hdp
                                      refine k_ast (x := (nI (dp B2_14 B2_18 i j))) (5 * i + j) (by rw [show (5 : Int32) = nI 5 from rfl, pk_mul, nI_add]) (by omega) hx hb hE hP hD hS 1 rfl (by decide) dX9_line_270 (fun H locs hP hD hS => ?_)
                                      have hP : va_P g.1 vwCl [(m13, ai g 6 K), (m28, ai g 25 (upd L2 (5 * i + j) (nI (dp B2_14 B2_18 i j)))), (m26, ai g 4 B2_14), (k0, .inr (9, [.ref m0, .int s1, .int s2, .int s3, .int s4, .int s5, .int s6, .ref m7, .ref m8, .ref m9, .int (nI z), .int (nI t), .int s12, .ref m13, .ref m14, .ref m15, .int s16, .ref m17, .ref m18, .ref m19, .ref m20, .ref m21, .ref m22, .ref m23, .ref m24, .ref m25, .ref m26, .ref m27, .ref m28, .int s29, .ref m30, .int s31, .int s32, .int s33, .int s34, .int s35, .ref m36, .ref m37, .ref m38, .ref m39, .long s40])), (m14, ai g 6 L), (m15, ai g 96 V), (m27, ai g 4 B2_18)] H := hP
                                      have hD : va_D A [(m13, ai g 6 K), (m28, ai g 25 (upd L2 (5 * i + j) (nI (dp B2_14 B2_18 i j)))), (m26, ai g 4 B2_14), (k0, .inr (9, [.ref m0, .int s1, .int s2, .int s3, .int s4, .int s5, .int s6, .ref m7, .ref m8, .ref m9, .int (nI z), .int (nI t), .int s12, .ref m13, .ref m14, .ref m15, .int s16, .ref m17, .ref m18, .ref m19, .ref m20, .ref m21, .ref m22, .ref m23, .ref m24, .ref m25, .ref m26, .ref m27, .ref m28, .int s29, .ref m30, .int s31, .int s32, .int s33, .int s34, .int s35, .ref m36, .ref m37, .ref m38, .ref m39, .long s40])), (m14, ai g 6 L), (m15, ai g 96 V), (m27, ai g 4 B2_18)] := hD
                                      refine lv_iinc (v := (nI (j + 1))) (lv' := [(8, .int (nI (j + 1))), (9, .int (nI (dp B2_14 B2_18 i (j - 1) + 3))), (12, .int 9999), (11, .int (nI (dp B2_14 B2_18 i (j - 1) + 3))), (10, .int 9999), (0, .ref k0), (1, .int (nI k1)), (2, .int (nI k2)), (3, .int (nI k3)), (4, .int (nI k4)), (5, .int (nI (stc V (16 * k1 + 4 * k2) n1))), (6, .int (nI (stc V (16 * k3 + 4 * k4) n3))), (7, .int (nI i))]) hx hb dX9_line_271 hl (k := 12) rfl (nI_1 _) (by decide) rfl (fun ls hl => ?_)
                                      refine lv_goto (tgt := 74) hx hb dX9_line_274 (by decide) ?_
                                      exact ih74 (j + 1) _ (by omega) (TBL_s (by omega) hj9 hT2) (by omega) _ _ _ hP hD hS (lv_sub hl [5, 6, 7, 8, 9, 10, 11, 12, 0] rfl)
                                    · skip
                                      refine lv_iload hx hb dX9_line_263 (lv_at hl 1 rfl) ?_
                                      refine lv_goto (tgt := 270) hx hb dX9_line_265 (by decide) ?_
                                      have b1 := dp_le (M := B2_14) (W := B2_18) (i - 1) (j - 1); have b2 := dp_le (M := B2_14) (W := B2_18) (i - 1) j; have b3 := dp_le (M := B2_14) (W := B2_18) i (j - 1)
                                      have h217 : 9999 ≤ 9999 := (le_nI (a := 9999) (b := 9999) (by omega) (by omega)).mp c217_74
                                      have h233 : ¬ 9999 ≤ dp B2_14 B2_18 i (j - 1) + 3 := fun q => c233_75 ((le_nI (a := 9999) (b := dp B2_14 B2_18 i (j - 1) + 3) (by omega) (by omega)).mpr q)
                                      have h260 : ¬ dp B2_14 B2_18 i (j - 1) + 3 ≤ 9999 := fun q => c260_78 ((le_nI (a := dp B2_14 B2_18 i (j - 1) + 3) (b := 9999) (by omega) (by omega)).mpr q)
                                      have hi0 : i = 0 := (nI_eq (b := 0) (by omega) (by decide)).mp c83_24
                                      have d1 := dp_z1 (M := B2_14) (W := B2_18) (j := j) hi0; have d2 := dp_z1 (M := B2_14) (W := B2_18) (j := j - 1) hi0
                                      have hjp : 1 ≤ j := Nat.pos_of_ne_zero (fun q => c131_70 (by rw [q]; rfl))
                                      have hdp : 9999 = dp B2_14 B2_18 i j := by omega
                                      refine lv_topi (fun x_80 ex_80 => ?_)
                                      obtain rfl : x_80 = nI (dp B2_14 B2_18 i j) := by rw [ex_80]; exact congrArg nI hdp
                                      refine k_ast (x := (nI (dp B2_14 B2_18 i j))) (5 * i + j) (by rw [show (5 : Int32) = nI 5 from rfl, pk_mul, nI_add]) (by omega) hx hb hE hP hD hS 1 rfl (by decide) dX9_line_270 (fun H locs hP hD hS => ?_)
                                      have hP : va_P g.1 vwCl [(m13, ai g 6 K), (m28, ai g 25 (upd L2 (5 * i + j) (nI (dp B2_14 B2_18 i j)))), (m26, ai g 4 B2_14), (k0, .inr (9, [.ref m0, .int s1, .int s2, .int s3, .int s4, .int s5, .int s6, .ref m7, .ref m8, .ref m9, .int (nI z), .int (nI t), .int s12, .ref m13, .ref m14, .ref m15, .int s16, .ref m17, .ref m18, .ref m19, .ref m20, .ref m21, .ref m22, .ref m23, .ref m24, .ref m25, .ref m26, .ref m27, .ref m28, .int s29, .ref m30, .int s31, .int s32, .int s33, .int s34, .int s35, .ref m36, .ref m37, .ref m38, .ref m39, .long s40])), (m14, ai g 6 L), (m15, ai g 96 V), (m27, ai g 4 B2_18)] H := hP
                                      have hD : va_D A [(m13, ai g 6 K), (m28, ai g 25 (upd L2 (5 * i + j) (nI (dp B2_14 B2_18 i j)))), (m26, ai g 4 B2_14), (k0, .inr (9, [.ref m0, .int s1, .int s2, .int s3, .int s4, .int s5, .int s6, .ref m7, .ref m8, .ref m9, .int (nI z), .int (nI t), .int s12, .ref m13, .ref m14, .ref m15, .int s16, .ref m17, .ref m18, .ref m19, .ref m20, .ref m21, .ref m22, .ref m23, .ref m24, .ref m25, .ref m26, .ref m27, .ref m28, .int s29, .ref m30, .int s31, .int s32, .int s33, .int s34, .int s35, .ref m36, .ref m37, .ref m38, .ref m39, .long s40])), (m14, ai g 6 L), (m15, ai g 96 V), (m27, ai g 4 B2_18)] := hD
                                      refine lv_iinc (v := (nI (j + 1))) (lv' := [(8, .int (nI (j + 1))), (9, .int (nI (dp B2_14 B2_18 i (j - 1) + 3))), (12, .int 9999), (11, .int (nI (dp B2_14 B2_18 i (j - 1) + 3))), (10, .int 9999), (0, .ref k0), (1, .int (nI k1)), (2, .int (nI k2)), (3, .int (nI k3)), (4, .int (nI k4)), (5, .int (nI (stc V (16 * k1 + 4 * k2) n1))), (6, .int (nI (stc V (16 * k3 + 4 * k4) n3))), (7, .int (nI i))]) hx hb dX9_line_271 hl (k := 12) rfl (nI_1 _) (by decide) rfl (fun ls hl => ?_)
                                      refine lv_goto (tgt := 74) hx hb dX9_line_274 (by decide) ?_
                                      exact ih74 (j + 1) _ (by omega) (TBL_s (by omega) hj9 hT2) (by omega) _ _ _ hP hD hS (lv_sub hl [5, 6, 7, 8, 9, 10, 11, 12, 0] rfl)
                                · exact absurd c217_74 (by decide)
                              · exact (show False from c160_73 c83_24).elim
                            · exact (show False from c88_68 c131_70).elim
                        · skip
                          refine lv_iconst (v := 0) hx hb dX9_line_91 (by decide) ?_
                          refine lv_goto (tgt := 98) hx hb dX9_line_92 (by decide) ?_
                          refine lv_istore (lv' := [(9, .int 0), (0, .ref k0), (1, .int (nI k1)), (2, .int (nI k2)), (3, .int (nI k3)), (4, .int (nI k4)), (5, .int (nI (stc V (16 * k1 + 4 * k2) n1))), (6, .int (nI (stc V (16 * k3 + 4 * k4) n3))), (7, .int (nI i)), (8, .int (nI j))]) hx hb dX9_line_98 hl (by decide) rfl (fun ls hl => ?_)
                          refine lv_iload hx hb dX9_line_100 (lv_at hl 8 rfl) ?_
                          refine lv_if_ne (tgt := 111) hx hb dX9_line_102 (by decide) (fun c102_81 => ?_) (fun c102_81 => ?_)
                          · exact (show False from c102_81 c83_24).elim
                          · skip
                            refine lv_sipush (v := 9999) hx hb dX9_line_105 (by decide) ?_
                            refine lv_goto (tgt := 127) hx hb dX9_line_108 (by decide) ?_
                            refine lv_istore (lv' := [(10, .int 9999), (9, .int 0), (0, .ref k0), (1, .int (nI k1)), (2, .int (nI k2)), (3, .int (nI k3)), (4, .int (nI k4)), (5, .int (nI (stc V (16 * k1 + 4 * k2) n1))), (6, .int (nI (stc V (16 * k3 + 4 * k4) n3))), (7, .int (nI i)), (8, .int (nI j))]) hx hb dX9_line_127 hl (by decide) rfl (fun ls hl => ?_)
                            refine lv_iload hx hb dX9_line_129 (lv_at hl 10 rfl) ?_
                            refine lv_if_ne (tgt := 140) hx hb dX9_line_131 (by decide) (fun c131_82 => ?_) (fun c131_82 => ?_)
                            · exact (show False from c131_82 c88_68).elim
                            · skip
                              refine lv_sipush (v := 9999) hx hb dX9_line_134 (by decide) ?_
                              refine lv_goto (tgt := 156) hx hb dX9_line_137 (by decide) ?_
                              refine lv_istore (lv' := [(11, .int 9999), (10, .int 9999), (9, .int 0), (0, .ref k0), (1, .int (nI k1)), (2, .int (nI k2)), (3, .int (nI k3)), (4, .int (nI k4)), (5, .int (nI (stc V (16 * k1 + 4 * k2) n1))), (6, .int (nI (stc V (16 * k3 + 4 * k4) n3))), (7, .int (nI i)), (8, .int (nI j))]) hx hb dX9_line_156 hl (by decide) rfl (fun ls hl => ?_)
                              refine lv_iload hx hb dX9_line_158 (lv_at hl 10 rfl) ?_
                              refine lv_if_eq (tgt := 168) hx hb dX9_line_160 (by decide) (fun c160_83 => ?_) (fun c160_83 => ?_)
                              · skip
                                refine lv_sipush (v := 9999) hx hb dX9_line_168 (by decide) ?_
                                refine lv_goto (tgt := 211) hx hb dX9_line_171 (by decide) ?_
                                refine lv_istore (lv' := [(12, .int 9999), (11, .int 9999), (10, .int 9999), (9, .int 0), (0, .ref k0), (1, .int (nI k1)), (2, .int (nI k2)), (3, .int (nI k3)), (4, .int (nI k4)), (5, .int (nI (stc V (16 * k1 + 4 * k2) n1))), (6, .int (nI (stc V (16 * k3 + 4 * k4) n3))), (7, .int (nI i)), (8, .int (nI j))]) hx hb dX9_line_211 hl (by decide) rfl (fun ls hl => ?_)
                                refine lv_iload hx hb dX9_line_213 (lv_at hl 2 rfl) ?_
                                refine lv_iload hx hb dX9_line_215 (lv_at hl 3 rfl) ?_
                                refine lv_icmp_ge (tgt := 225) hx hb dX9_line_217 (by decide) (fun c217_84 => ?_) (fun c217_84 => ?_)
                                · skip
                                  refine lv_iload hx hb dX9_line_225 (lv_at hl 3 rfl) ?_
                                  refine lv_istore (lv' := [(9, .int 0), (12, .int 9999), (11, .int 9999), (10, .int 9999), (0, .ref k0), (1, .int (nI k1)), (2, .int (nI k2)), (3, .int (nI k3)), (4, .int (nI k4)), (5, .int (nI (stc V (16 * k1 + 4 * k2) n1))), (6, .int (nI (stc V (16 * k3 + 4 * k4) n3))), (7, .int (nI i)), (8, .int (nI j))]) hx hb dX9_line_227 hl (by decide) rfl (fun ls hl => ?_)
                                  refine lv_iload hx hb dX9_line_229 (lv_at hl 2 rfl) ?_
                                  refine lv_iload hx hb dX9_line_231 (lv_at hl 0 rfl) ?_
                                  refine lv_icmp_ge (tgt := 241) hx hb dX9_line_233 (by decide) (fun c233_85 => ?_) (fun c233_85 => ?_)
                                  · skip
                                    refine lv_iload hx hb dX9_line_241 (lv_at hl 0 rfl) ?_
                                    refine lv_istore (lv' := [(9, .int 0), (12, .int 9999), (11, .int 9999), (10, .int 9999), (0, .ref k0), (1, .int (nI k1)), (2, .int (nI k2)), (3, .int (nI k3)), (4, .int (nI k4)), (5, .int (nI (stc V (16 * k1 + 4 * k2) n1))), (6, .int (nI (stc V (16 * k3 + 4 * k4) n3))), (7, .int (nI i)), (8, .int (nI j))]) hx hb dX9_line_243 hl (by decide) rfl (fun ls hl => ?_)
                                    refine lv_aload_n hx hb dX9_line_245 rfl (lv_at hl 4 rfl) ?_
                                    refine va_get (D := g.1) (ci := 9) (v := .ref m28) (C := RX9) (T := TX9) (N := 41) hx hb hts q_X9_line_f_f9 hown hE.1 hP 3 rfl rfl 28 (by decide) (hts (.fieldLink RX9 64 "SoundLawsModel" "lines" "[I") q_X9_line_f_3) (fun _ h9 => h9) rfl dX9_line_246 ?_
                                    refine lv_iconst (v := 5) hx hb dX9_line_249 (by decide) ?_
                                    refine lv_iload hx hb dX9_line_250 (lv_at hl 11 rfl) ?_
                                    refine lv_imul hx hb dX9_line_252 ?_
                                    refine lv_iload hx hb dX9_line_253 (lv_at hl 12 rfl) ?_
                                    refine lv_iadd hx hb dX9_line_255 ?_
                                    refine lv_iload hx hb dX9_line_256 (lv_at hl 1 rfl) ?_
                                    refine lv_iload hx hb dX9_line_258 (lv_at hl 0 rfl) ?_
                                    refine lv_icmp_ge (tgt := 268) hx hb dX9_line_260 (by decide) (fun c260_86 => ?_) (fun c260_86 => ?_)
                                    · skip
                                      refine lv_iload hx hb dX9_line_268 (lv_at hl 0 rfl) ?_
                                      have b1 := dp_le (M := B2_14) (W := B2_18) (i - 1) (j - 1); have b2 := dp_le (M := B2_14) (W := B2_18) (i - 1) j; have b3 := dp_le (M := B2_14) (W := B2_18) i (j - 1)
                                      have h217 : 0 ≤ 9999 := (le_nI (a := 0) (b := 9999) (by omega) (by omega)).mp c217_84
                                      have h233 : 0 ≤ 9999 := (le_nI (a := 0) (b := 9999) (by omega) (by omega)).mp c233_85
                                      have h260 : 0 ≤ 9999 := (le_nI (a := 0) (b := 9999) (by omega) (by omega)).mp c260_86
                                      have hi0 : i = 0 := (nI_eq (b := 0) (by omega) (by decide)).mp c83_24
                                      have d1 := dp_z1 (M := B2_14) (W := B2_18) (j := j) hi0; have d2 := dp_z1 (M := B2_14) (W := B2_18) (j := j - 1) hi0
                                      have hjz : j = 0 := (nI_eq (b := 0) (by omega) (by decide)).mp c131_82
                                      have hdp : 0 = dp B2_14 B2_18 i j := by omega
                                      refine lv_topi (fun x_87 ex_87 => ?_)
                                      obtain rfl : x_87 = nI (dp B2_14 B2_18 i j) := by rw [ex_87]; exact congrArg nI hdp
                                      refine k_ast (x := (nI (dp B2_14 B2_18 i j))) (5 * i + j) (by rw [show (5 : Int32) = nI 5 from rfl, pk_mul, nI_add]) (by omega) hx hb hE hP hD hS 1 rfl (by decide) dX9_line_270 (fun H locs hP hD hS => ?_)
                                      have hP : va_P g.1 vwCl [(m13, ai g 6 K), (m28, ai g 25 (upd L2 (5 * i + j) (nI (dp B2_14 B2_18 i j)))), (m26, ai g 4 B2_14), (k0, .inr (9, [.ref m0, .int s1, .int s2, .int s3, .int s4, .int s5, .int s6, .ref m7, .ref m8, .ref m9, .int (nI z), .int (nI t), .int s12, .ref m13, .ref m14, .ref m15, .int s16, .ref m17, .ref m18, .ref m19, .ref m20, .ref m21, .ref m22, .ref m23, .ref m24, .ref m25, .ref m26, .ref m27, .ref m28, .int s29, .ref m30, .int s31, .int s32, .int s33, .int s34, .int s35, .ref m36, .ref m37, .ref m38, .ref m39, .long s40])), (m14, ai g 6 L), (m15, ai g 96 V), (m27, ai g 4 B2_18)] H := hP
                                      have hD : va_D A [(m13, ai g 6 K), (m28, ai g 25 (upd L2 (5 * i + j) (nI (dp B2_14 B2_18 i j)))), (m26, ai g 4 B2_14), (k0, .inr (9, [.ref m0, .int s1, .int s2, .int s3, .int s4, .int s5, .int s6, .ref m7, .ref m8, .ref m9, .int (nI z), .int (nI t), .int s12, .ref m13, .ref m14, .ref m15, .int s16, .ref m17, .ref m18, .ref m19, .ref m20, .ref m21, .ref m22, .ref m23, .ref m24, .ref m25, .ref m26, .ref m27, .ref m28, .int s29, .ref m30, .int s31, .int s32, .int s33, .int s34, .int s35, .ref m36, .ref m37, .ref m38, .ref m39, .long s40])), (m14, ai g 6 L), (m15, ai g 96 V), (m27, ai g 4 B2_18)] := hD
                                      refine lv_iinc (v := (nI (j + 1))) (lv' := [(8, .int (nI (j + 1))), (9, .int 0), (12, .int 9999), (11, .int 9999), (10, .int 9999), (0, .ref k0), (1, .int (nI k1)), (2, .int (nI k2)), (3, .int (nI k3)), (4, .int (nI k4)), (5, .int (nI (stc V (16 * k1 + 4 * k2) n1))), (6, .int (nI (stc V (16 * k3 + 4 * k4) n3))), (7, .int (nI i))]) hx hb dX9_line_271 hl (k := 12) rfl (nI_1 _) (by decide) rfl (fun ls hl => ?_)
                                      refine lv_goto (tgt := 74) hx hb dX9_line_274 (by decide) ?_
                                      exact ih74 (j + 1) _ (by omega) (TBL_s (by omega) hj9 hT2) (by omega) _ _ _ hP hD hS (lv_sub hl [5, 6, 7, 8, 9, 10, 11, 12, 0] rfl)
                                    · exact absurd c260_86 (by decide)
                                  · exact absurd c233_85 (by decide)
                                · exact absurd c217_84 (by decide)
                              · exact (show False from c160_83 c83_24).elim
                exact loop74 _ 0 L1 (Nat.zero_le _) hT1 (Nat.lt_succ_self _) _ _ _ hP hD hS (lv_sub hl [1, 2, 3, 4, 5, 6, 7, 8, 0] rfl)
          exact loop64 _ 0 Ln (Nat.zero_le _) TBL_0 (Nat.lt_succ_self _) _ _ _ hP hD hS (lv_sub hl [3, 4, 5, 6, 7, 2, 1, 0] rfl)
        · skip
          refine lv_bipush (v := (-101)) hx hb dX9_line_33 (by decide) ?_
          refine W.widen (k := 0) (n := 0) (Nat.le_of_ble_eq_true rfl) (Nat.le_of_ble_eq_true rfl) ?_
          have hP9 := hP.sub (ws' := [(k0, .inr (9, [.ref m0, .int s1, .int s2, .int s3, .int s4, .int s5, .int s6, .ref m7, .ref m8, .ref m9, .int (nI z), .int (nI t), .int s12, .ref m13, .ref m14, .ref m15, .int s16, .ref m17, .ref m18, .ref m19, .ref m20, .ref m21, .ref m22, .ref m23, .ref m24, .ref m25, .ref m26, .ref m27, .ref m28, .int s29, .ref m30, .int s31, .int s32, .int s33, .int s34, .int s35, .ref m36, .ref m37, .ref m38, .ref m39, .long s40])), (m13, ai g 6 K), (m14, ai g 6 L), (m15, ai g 96 V), (m26, ai g 4 B1), (m27, ai g 4 B2), (m28, ai g 25 Ln)]) [6, 0, 1, 2, 3, 4, 5] rfl
          have hD9 := hD.sub (ws' := [(k0, .inr (9, [.ref m0, .int s1, .int s2, .int s3, .int s4, .int s5, .int s6, .ref m7, .ref m8, .ref m9, .int (nI z), .int (nI t), .int s12, .ref m13, .ref m14, .ref m15, .int s16, .ref m17, .ref m18, .ref m19, .ref m20, .ref m21, .ref m22, .ref m23, .ref m24, .ref m25, .ref m26, .ref m27, .ref m28, .int s29, .ref m30, .int s31, .int s32, .int s33, .int s34, .int s35, .ref m36, .ref m37, .ref m38, .ref m39, .long s40])), (m13, ai g 6 K), (m14, ai g 6 L), (m15, ai g 96 V), (m26, ai g 4 B1), (m27, ai g 4 B2), (m28, ai g 25 Ln)]) [6, 0, 1, 2, 3, 4, 5] (by decide) rfl
          exact k_ri hx hb hr hlocks hS hP9 hD9 ⟨B1, B2, Ln, rfl, (lnr_u (Or.inr (Or.inr (Or.inr c30_12))))⟩ dX9_line_35

/-! the reference's reading -/
def mww (w n : Nat) (x : Int32) : Int32 := if n = 0 then 0 else if w = 1 then 1 else if nI n = x then 1 else 0
def msw (w n : Nat) (x : Int32) (t : Nat) : Int32 := if mww w n x = 0 then 0 else if t = 0 then (if 1 < w then 1 else 0) else if w = t then 1 else 0
def msl (w n : Nat) (x : Int32) (t : Nat) : Int32 := if mww w n x = 0 then 0 else if w < (if t = 0 then 4 else t) then 1 else 0
def mcm (w n : Nat) (x : Int32) (t y : Nat) : Int32 := if msw w n x t = 0 then 0 else if y < 5 then 1 else 0
theorem mww_nar (w n : Nat) (x : Int32) : narrow .boolean (.int (mww w n x)) = .int (mww w n x) := by
  unfold mww
  split
  · rfl
  · split
    · rfl
    · split <;> rfl
def bgP (c : Int32) (y : Nat) (x3 x4 x5 : Int32) (RK : Nat → Int32) (r : Int32) (y2 : Nat) (x3b x4b x5b : Int32) (RK2 : Nat → Int32) : Prop :=
  (r = 0 ∧ (kby c = (-1) ∨ y = 5) ∧ y2 = y ∧ x3b = x3 ∧ x4b = x4 ∧ x5b = x5 ∧ RK2 = RK) ∨ (r = 1 ∧ ¬ kby c = (-1) ∧ ¬ y = 5 ∧ y2 = y + 1 ∧ x3b = 1 ∧ x4b = 0 ∧ x5b = 0 ∧ RK2 = upd RK y (kby c))
def soP (c : Int32) (y w n : Nat) (x5 : Int32) (RL RS : Nat → Int32) (r : Int32) (n2 : Nat) (RL2 RS2 : Nat → Int32) : Prop :=
  (r = 0 ∧ (sby c = (-1) ∨ nI n = (if w = 1 then 4 else x5)) ∧ n2 = n ∧ RL2 = RL ∧ RS2 = RS) ∨ (r = 1 ∧ ¬ sby c = (-1) ∧ ¬ nI n = (if w = 1 then 4 else x5) ∧ n2 = n + 1 ∧ RL2 = upd RL (y - 1) (nI (n + 1)) ∧ RS2 = upd RS (16 * (y - 1) + 4 * (w - 1) + n) (sby c))
def MR : PS → Nat → Nat → Int32 → Int32 → Int32 → (Nat → Int32) → (Nat → Int32) → (Nat → Int32) → Prop
  | (du, rs, u, n, _, _, z, tg, K, L, V), y, yt, x3, x4, x5, RK, RL, RS => y = z ∧ yt = tg ∧ (¬ du = 0 → x3 = (-1)) ∧ (du = 0 → x3 = nI (u + 1) ∧ x4 = nI n ∧ (¬ u = 0 → x5 = L rs) ∧ (¬ n = 0 → RL rs = nI n)) ∧ (∀ k, k < 5 → RK k = K k) ∧ (∀ i, i < 80 → RS i = V i) ∧ (∀ k, k < z → (du = 0 → k < rs) → RL k = L k)
def SI : PS → Prop
  | (du, rs, u, n, _, _, z, tg, _, L, _) => (du = 0 → rs + 1 = z) ∧ (du = 0 → ¬ u = 0 → ∃ l, 1 ≤ l ∧ l ≤ 4 ∧ L rs = nI l ∧ n ≤ l) ∧ ¬ tg = 1 ∧ (∀ k, k < z → (du = 0 → k < rs) → ∃ l, 1 ≤ l ∧ l ≤ 4 ∧ L k = nI l)
def gdP (v : Nat) (q : PS) (r : Int32) (RK RS : Nat → Int32) (y yt : Nat) (x3 x4 x5 : Int32) (RK2 RL2 RS2 : Nat → Int32) : Prop :=
  (r = 0 ∧ acc (nI v) q = none ∧ RK2 = RK ∧ RS2 = RS) ∨ (r = 1 ∧ ∃ w, acc (nI v) q = some w ∧ MR w y yt x3 x4 x5 RK2 RL2 RS2)
theorem gd_nar {v : Nat} {q : PS} {r : Int32} {RK RS RK2 RL2 RS2 : Nat → Int32} {y yt : Nat} {x3 x4 x5 : Int32} (h : gdP v q r RK RS y yt x3 x4 x5 RK2 RL2 RS2) : narrow .boolean (.int r) = .int r := by
  rcases h with ⟨h, -⟩ | ⟨h, -⟩ <;> rw [h] <;> rfl
section GD
variable {du rs u n wl hw z tg v : Nat} {K L V RK RL RS : Nat → Int32} {x3 x4 x5 r : Int32}
theorem wdw_pos {l : Nat} (h : ¬ wdw u n (L rs) = 0) (h2 : ¬ u = 0 → 1 ≤ l ∧ l < 2 ^ 31 ∧ L rs = nI l) (hn : n < 2 ^ 31) : ¬ n = 0 := fun q => by
  apply h
  unfold wdw
  by_cases hu : u = 0
  · rw [if_pos hu, if_pos q]
  · obtain ⟨h3, h4, h5⟩ := h2 hu
    rw [if_neg hu, h5, if_neg (fun e => by have := (nI_eq hn h4).mp e; omega)]
theorem mww_eq (h5 : ¬ u = 0 → x5 = L rs) (hl : ¬ u = 0 → ∃ l, 1 ≤ l ∧ l ≤ 4 ∧ L rs = nI l ∧ n ≤ l) (hn : n ≤ 4) : mww (u + 1) n x5 = wdw u n (L rs) := by
  unfold mww wdw
  by_cases hu : u = 0
  · rw [if_pos hu, if_pos (show u + 1 = 1 by omega)]
  · obtain ⟨l, h1, h2, h3, h4⟩ := hl hu
    rw [if_neg hu, if_neg (show ¬ u + 1 = 1 by omega), h5 hu, h3]
    by_cases q : n = 0
    · rw [if_pos q, if_neg (fun e => by have := (nI_eq (by omega) (by omega)).mp e; omega)]
    · rw [if_neg q]
theorem msw_eq (h5 : ¬ u = 0 → x5 = L rs) (hl : ¬ u = 0 → ∃ l, 1 ≤ l ∧ l ≤ 4 ∧ L rs = nI l ∧ n ≤ l) (hn : n ≤ 4) (ht : ¬ tg = 1) : msw (u + 1) n x5 tg = stw u n tg (L rs) := by
  unfold msw stw
  rw [mww_eq h5 hl hn]
  by_cases q : wdw u n (L rs) = 0
  · rw [if_pos q, if_pos q]
  · rw [if_neg q, if_neg q]
    by_cases hu : u + 1 < 2
    · rw [if_pos hu]
      by_cases h0 : tg = 0
      · rw [if_pos h0, if_neg (by omega)]
      · rw [if_neg h0, if_neg (by omega)]
    · rw [if_neg hu]
      by_cases h0 : tg = 0
      · rw [if_pos h0, if_pos h0, if_pos (by omega)]
      · rw [if_neg h0, if_neg h0]
theorem gd_due (hM : MR (du, rs, u, n, wl, hw, z, tg, K, L, V) z tg x3 x4 x5 RK RL RS) (hI : RI (du, rs, u, n, wl, hw, z, tg, K, L, V)) (h3 : x3 = (-1)) : ¬ du = 0 := fun q => by
  obtain ⟨-, -, h, -⟩ := hI
  have e := (hM.2.2.2.1 q).1
  rw [h3] at e
  exact nI_pos (n := u + 1) (by omega) (by rw [← e]; decide)
theorem gd_b {y2 : Nat} {RK2 : Nat → Int32} {x3b x4b x5b : Int32} (hM : MR (du, rs, u, n, wl, hw, z, tg, K, L, V) z tg x3 x4 x5 RK RL RS) (hI : RI (du, rs, u, n, wl, hw, z, tg, K, L, V)) (h3 : x3 = (-1)) (h : bgP (nI v) z x3 x4 x5 RK r y2 x3b x4b x5b RK2) : gdP v (du, rs, u, n, wl, hw, z, tg, K, L, V) r RK RS y2 tg x3b x4b x5b RK2 RL RS := by
  have hd := gd_due hM hI h3
  obtain ⟨-, -, m3, m4, mK, mS, mL⟩ := hM
  obtain ⟨h1, h2, h4, h5, h6, h7, h8, h9, h10, -⟩ := hI
  have ea : acc (nI v) (du, rs, u, n, wl, hw, z, tg, K, L, V) = akd (kby (nI v)) (du, rs, u, n, wl, hw, z, tg, K, L, V) := if_neg hd
  rcases h with ⟨hr, e1, -, -, -, -, e2⟩ | ⟨hr, e1, e2, rfl, rfl, rfl, rfl, rfl⟩
  · refine Or.inl ⟨hr, ?_, e2, rfl⟩
    rw [ea]
    rcases e1 with e1 | e1
    · exact if_pos (by rw [e1]; decide)
    · exact absurd (h10 hd) (by omega)
  · refine Or.inr ⟨hr, (0, z, 0, 0, 1, hw, z + 1, tg, upd K z (kby (nI v)), L, V), ?_, ?_⟩
    · rw [ea]
      refine if_neg ?_
      rcases kby_of (nI v) with q | ⟨k, hk, q⟩
      · exact absurd q e1
      · rw [q]; exact nI_pos (by omega)
    · refine ⟨rfl, rfl, fun q => absurd rfl q, fun _ => ⟨rfl, rfl, fun q => absurd rfl q, fun q => absurd rfl q⟩, fun k hk => ?_, mS, fun k hk hq => mL k (hq rfl) (fun q => absurd q hd)⟩
      by_cases e : k = z
      · rw [e, pk_us, pk_us]
      · rw [pk_un e, pk_un e, mK k hk]
theorem gd_s {x5b : Int32} (hd : du = 0) (hv : nI v = 47) (hM : MR (du, rs, u, n, wl, hw, z, tg, K, L, V) z tg x3 x4 x5 RK RL RS) (hI : RI (du, rs, u, n, wl, hw, z, tg, K, L, V)) (hS : SI (du, rs, u, n, wl, hw, z, tg, K, L, V)) (er : msl (u + 1) n x5 tg = r) (ex : (if u + 1 = 1 then nI n else x5) = x5b) : gdP v (du, rs, u, n, wl, hw, z, tg, K, L, V) r RK RS z tg (nI (u + 1 + 1)) 0 x5b RK RL RS := by
  obtain ⟨-, -, m3, m4, mK, mS, mL⟩ := hM
  obtain ⟨e3, e4, e5, e6⟩ := m4 hd
  obtain ⟨h1, h2, h4, h5, h6, h7, h8, h9, h10, -⟩ := hI
  obtain ⟨s1, s2, s3, s4⟩ := hS
  have ea : acc (nI v) (du, rs, u, n, wl, hw, z, tg, K, L, V) = ewd (du, rs, u, n, wl, hw, z, tg, K, L, V) := by
    unfold acc
    rw [if_pos (show (du, rs, u, n, wl, hw, z, tg, K, L, V).1 = 0 from hd), if_pos hv]
  have ew := mww_eq e5 (s2 hd) h5
  unfold msl at er
  rw [ew] at er
  by_cases q : wdw u n (L rs) = 0
  · rw [if_pos q] at er
    exact Or.inl ⟨er.symm, by rw [ea]; exact if_pos q, rfl, rfl⟩
  · rw [if_neg q] at er
    by_cases q2 : u + 1 < (if tg = 0 then 4 else tg)
    · rw [if_pos q2] at er
      refine Or.inr ⟨er.symm, (du, rs, u + 1, 0, 1, hsn wl hw, z, tg, K, upd L rs (nI n), V), ?_, ?_⟩
      · rw [ea]
        unfold ewd
        dsimp only
        rw [if_neg q, if_pos q2]
      · refine ⟨rfl, rfl, fun q => absurd hd q, fun _ => ⟨rfl, rfl, fun _ => ?_, fun q => absurd rfl q⟩, mK, mS, fun k hk hq => ?_⟩
        · rw [← ex, pk_us]
          by_cases hu : u = 0
          · rw [if_pos (by omega)]
          · rw [if_neg (by omega), e5 hu]
            by_cases q3 : nI n = L rs
            · exact q3.symm
            · exact absurd (by unfold wdw; rw [if_neg hu, if_neg q3]) q
        · have := hq hd
          rw [pk_un (by omega)]
          exact mL k hk hq
    · rw [if_neg q2] at er
      refine Or.inl ⟨er.symm, ?_, rfl, rfl⟩
      rw [ea]
      unfold ewd
      dsimp only
      rw [if_neg q, if_neg q2]
theorem gd_c {t2 : Nat} (hd : du = 0) (hv : nI v = 44) (hM : MR (du, rs, u, n, wl, hw, z, tg, K, L, V) z tg x3 x4 x5 RK RL RS) (hI : RI (du, rs, u, n, wl, hw, z, tg, K, L, V)) (hS : SI (du, rs, u, n, wl, hw, z, tg, K, L, V)) (er : mcm (u + 1) n x5 tg z = r) (ex : (if tg = 0 then u + 1 else tg) = t2) : gdP v (du, rs, u, n, wl, hw, z, tg, K, L, V) r RK RS z t2 (-1) (nI n) x5 RK RL RS := by
  obtain ⟨-, -, m3, m4, mK, mS, mL⟩ := hM
  obtain ⟨e3, e4, e5, e6⟩ := m4 hd
  obtain ⟨h1, h2, h4, h5, h6, h7, h8, h9, h10, -⟩ := hI
  obtain ⟨s1, s2, s3, s4⟩ := hS
  have ea : acc (nI v) (du, rs, u, n, wl, hw, z, tg, K, L, V) = est (du, rs, u, n, wl, hw, z, tg, K, L, V) := by
    unfold acc
    rw [if_pos (show (du, rs, u, n, wl, hw, z, tg, K, L, V).1 = 0 from hd), if_neg (by rw [hv]; decide), if_pos hv]
  unfold mcm at er
  rw [msw_eq e5 (s2 hd) h5 s3] at er
  by_cases q : stw u n tg (L rs) = 0
  · rw [if_pos q] at er
    exact Or.inl ⟨er.symm, by rw [ea]; exact if_pos q, rfl, rfl⟩
  · rw [if_neg q] at er
    by_cases q2 : z < 5
    · rw [if_pos q2] at er
      have qw : ¬ wdw u n (L rs) = 0 := fun e => q (by unfold stw; rw [if_pos e])
      have qt : (if tg = 0 then u + 1 else tg) = u + 1 := by
        by_cases h0 : tg = 0
        · rw [if_pos h0]
        · rw [if_neg h0]
          by_cases h0b : u + 1 = tg
          · exact h0b.symm
          · exact absurd (by unfold stw; rw [if_neg qw, if_neg h0, if_neg h0b]; split <;> rfl) q
      have hn0 : ¬ n = 0 := by
        by_cases hu : u = 0
        · exact wdw_pos (l := 0) qw (fun e => absurd hu e) (by omega)
        · obtain ⟨l, l1, l2, l3, l4⟩ := s2 hd hu
          exact wdw_pos (l := l) qw (fun _ => ⟨l1, by omega, l3⟩) (by omega)
      refine Or.inr ⟨er.symm, (1, rs, u, n, wl, hsn wl hw, z, u + 1, K, upd L rs (nI n), V), ?_, ?_⟩
      · rw [ea]
        unfold est
        dsimp only
        rw [if_neg q, if_pos q2]
      · refine ⟨rfl, ex.symm.trans qt, fun _ => rfl, fun q => absurd q (by decide), mK, mS, fun k hk _ => ?_⟩
        by_cases e : k = rs
        · rw [e, pk_us]; exact e6 hn0
        · rw [pk_un e]
          exact mL k hk (fun _ => by have := s1 hd; omega)
    · rw [if_neg q2] at er
      refine Or.inl ⟨er.symm, ?_, rfl, rfl⟩
      rw [ea]
      unfold est
      dsimp only
      rw [if_neg q, if_neg q2]
theorem gd_o {n2 : Nat} {RL2 RS2 : Nat → Int32} (hd : du = 0) (hv1 : ¬ nI v = 47) (hv2 : ¬ nI v = 44) (hM : MR (du, rs, u, n, wl, hw, z, tg, K, L, V) z tg x3 x4 x5 RK RL RS) (hI : RI (du, rs, u, n, wl, hw, z, tg, K, L, V)) (hS : SI (du, rs, u, n, wl, hw, z, tg, K, L, V)) (h : soP (nI v) z (u + 1) n x5 RL RS r n2 RL2 RS2) : gdP v (du, rs, u, n, wl, hw, z, tg, K, L, V) r RK RS z tg (nI (u + 1)) (nI n2) x5 RK RL2 RS2 := by
  obtain ⟨-, -, m3, m4, mK, mS, mL⟩ := hM
  obtain ⟨e3, e4, e5, e6⟩ := m4 hd
  obtain ⟨h1, h2, h4, h5, h6, h7, h8, h9, h10, -⟩ := hI
  obtain ⟨s1, s2, s3, s4⟩ := hS
  have ea : acc (nI v) (du, rs, u, n, wl, hw, z, tg, K, L, V) = asd (sby (nI v)) (du, rs, u, n, wl, hw, z, tg, K, L, V) := by
    unfold acc
    rw [if_pos (show (du, rs, u, n, wl, hw, z, tg, K, L, V).1 = 0 from hd), if_neg hv1, if_neg hv2]
  have hz := s1 hd
  have hrm : nI n = (if u + 1 = 1 then 4 else x5) ↔ ¬ nI n < (if u = 0 then 4 else L rs) := by
    by_cases hu : u = 0
    · rw [if_pos hu, if_pos (by omega), show (4 : Int32) = nI 4 from rfl, nI_eq (by omega) (by decide), nI_ltI (by omega) (by decide)]
      omega
    · obtain ⟨l, l1, l2, l3, l4⟩ := s2 hd hu
      rw [if_neg hu, if_neg (by omega), e5 hu, l3, nI_eq (by omega) (by omega), nI_ltI (by omega) (by omega)]
      omega
  rcases h with ⟨hr, e1, -, -, rfl⟩ | ⟨hr, e1, e2, rfl, rfl, rfl⟩
  · refine Or.inl ⟨hr, ?_, rfl, rfl⟩
    rw [ea]
    unfold asd
    dsimp only
    rcases e1 with e1 | e1
    · rw [if_pos (by rw [e1]; decide)]
    · split
      · rfl
      · rw [if_neg (hrm.mp e1)]
  · have hp : ¬ sby (nI v) < 0 := by
      rcases sby_of (nI v) with q | ⟨k, hk, q⟩
      · exact absurd q e1
      · rw [q]; exact nI_pos (by omega)
    refine Or.inr ⟨hr, (du, rs, u, n + 1, (if sby (nI v) = 0 then wl else 0), hw, z, tg, K, L, upd V (16 * rs + 4 * u + n) (sby (nI v))), ?_, ?_⟩
    · rw [ea]
      unfold asd
      dsimp only
      rw [if_neg hp, if_pos (Decidable.of_not_not (fun q => e2 (hrm.mpr q)))]
    · have ez : z - 1 = rs := by omega
      have ei : 16 * (z - 1) + 4 * (u + 1 - 1) + n = 16 * rs + 4 * u + n := by omega
      refine ⟨rfl, rfl, fun q => absurd hd q, fun _ => ⟨rfl, rfl, e5, fun _ => ?_⟩, mK, fun i hi => ?_, fun k hk hq => ?_⟩
      · rw [ez, pk_us]
      · rw [ei]
        by_cases e : i = 16 * rs + 4 * u + n
        · rw [e, pk_us, pk_us]
        · rw [pk_un e, pk_un e, mS i hi]
      · have := hq hd
        rw [pk_un (by omega)]
        exact mL k hk hq
end GD
theorem SI_acc {c : Int32} {q w : PS} (hI : RI q) (h : SI q) (e : acc c q = some w) : SI w := by
  obtain ⟨du, rs, u, n, wl, hw, z, tg, K, L, V⟩ := q
  obtain ⟨h1, h2, h3, h4, h5, h6, h7, h8, h9, hK, hL, hV⟩ := hI
  obtain ⟨s1, s2, s3, s4⟩ := h
  unfold acc at e
  by_cases hd : du = 0
  · rw [if_pos (show (du, rs, u, n, wl, hw, z, tg, K, L, V).1 = 0 from hd)] at e
    have hz := s1 hd
    have hpos : ¬ wdw u n (L rs) = 0 → 1 ≤ n := fun q => by
      by_cases hu : u = 0
      · exact Nat.pos_of_ne_zero (wdw_pos (l := 0) q (fun e => absurd hu e) (by omega))
      · obtain ⟨l, l1, l2, l3, l4⟩ := s2 hd hu
        exact Nat.pos_of_ne_zero (wdw_pos (l := l) q (fun _ => ⟨l1, by omega, l3⟩) (by omega))
    by_cases c1 : c = 47
    · rw [if_pos c1] at e
      obtain ⟨q1, q2, rfl⟩ := ewd_some e
      refine ⟨fun _ => hz, fun _ _ => ⟨n, hpos q1, h4, by rw [pk_us], Nat.zero_le n⟩, s3, fun k hk hq => ?_⟩
      have := hq hd
      rw [pk_un (by omega)]
      exact s4 k hk hq
    · rw [if_neg c1] at e
      by_cases c2 : c = 44
      · rw [if_pos c2] at e
        obtain ⟨q1, q2, rfl⟩ := est_some e
        have qw : ¬ wdw u n (L rs) = 0 := fun e => q1 (by unfold stw; rw [if_pos e])
        have hu2 : ¬ u + 1 < 2 := fun e => q1 (by unfold stw; rw [if_neg qw, if_pos e])
        refine ⟨fun q => absurd q (by decide), fun q => absurd q (by decide), by omega, fun k hk _ => ?_⟩
        by_cases e2 : k = rs
        · exact ⟨n, hpos qw, h4, by rw [e2, pk_us]⟩
        · rw [pk_un e2]
          exact s4 k hk (fun _ => by omega)
      · rw [if_neg c2] at e
        obtain ⟨q1, q2, rfl⟩ := asd_some e
        refine ⟨s1, fun hd2 hu => ?_, s3, s4⟩
        obtain ⟨l, l1, l2, l3, l4⟩ := s2 hd2 hu
        rw [if_neg hu, l3] at q2
        exact ⟨l, l1, l2, l3, (nI_ltI (by omega) (by omega)).mp q2⟩
  · rw [if_neg (show ¬ (du, rs, u, n, wl, hw, z, tg, K, L, V).1 = 0 from hd)] at e
    obtain ⟨q1, rfl⟩ := akd_some e
    · exact ⟨fun _ => rfl, fun _ q => absurd rfl q, s3, fun k hk hq => s4 k (hq rfl) (fun q => absurd q hd)⟩
def po_X9_kindBy_g (g : GG) (p1 : Int32) : Int32 → va_W → Prop := fun (r : Int32) w => w = [] ∧ (kby p1 = r)
set_option maxHeartbeats 1500000 in
set_option maxRecDepth 100000 in
theorem c_X9_kindBy_g (l : Launch) (g : GG) (p1 : Int32)  (sz : Nat) : MetI l yX9_kindBy wsX9_kindBy ({ frames := 0, cells := 0, slots := 0, locals := 0 }) g [.int p1] [] sz (po_X9_kindBy_g g p1) 0 0 := by
  refine k_of (l := l) (y := yX9_kindBy) (ws := wsX9_kindBy) (rm := { frames := 0, cells := 0, slots := 0, locals := 0 }) (mc := 0) (ms := 0) (av := [.int p1]) (g := g) (wc := []) (Qc := fun A => va_Qi (po_X9_kindBy_g g p1) (bk g A) A) (cc := cX9_kindBy) (maxL := 1) (ret := (some .int)) (by decide) rfl (Nat.le_of_ble_eq_true rfl) ?_ sz
  intro p e s m below meth c hx hb hr hts hown hlocks hnm hml A hA hE hZ hP hD hS ls hl
  have hown : s.vm.findClass RX9 = some m.cls := hown
  have hl : lv_has ls 1 [(0, .int p1)] := hl
  refine lv_iload_n hx hb dX9_kindBy_0 rfl (lv_at hl 0 rfl) ?_
  by_cases w1_1 : p1 = 99
  · skip
    refine lv_lookup (tgt := 56) (off := 55) hx hb dX9_kindBy_1 (by decide) (by rw [w1_1]; decide) (by decide) ?_
    refine lv_iconst (v := 2) hx hb dX9_kindBy_56 (by decide) ?_
    refine W.widen (k := 0) (n := 0) (Nat.le_of_ble_eq_true rfl) (Nat.le_of_ble_eq_true rfl) ?_
    exact k_ri hx hb hr hlocks hS hP hD ⟨rfl, (by rw [w1_1]; decide)⟩ dX9_kindBy_57
  by_cases w1_2 : p1 = 100
  · skip
    refine lv_lookup (tgt := 60) (off := 59) hx hb dX9_kindBy_1 (by decide) (by rw [w1_2]; decide) (by decide) ?_
    refine lv_iconst (v := 4) hx hb dX9_kindBy_60 (by decide) ?_
    refine W.widen (k := 0) (n := 0) (Nat.le_of_ble_eq_true rfl) (Nat.le_of_ble_eq_true rfl) ?_
    exact k_ri hx hb hr hlocks hS hP hD ⟨rfl, (by rw [w1_2]; decide)⟩ dX9_kindBy_61
  by_cases w1_3 : p1 = 108
  · skip
    refine lv_lookup (tgt := 58) (off := 57) hx hb dX9_kindBy_1 (by decide) (by rw [w1_3]; decide) (by decide) ?_
    refine lv_iconst (v := 3) hx hb dX9_kindBy_58 (by decide) ?_
    refine W.widen (k := 0) (n := 0) (Nat.le_of_ble_eq_true rfl) (Nat.le_of_ble_eq_true rfl) ?_
    exact k_ri hx hb hr hlocks hS hP hD ⟨rfl, (by rw [w1_3]; decide)⟩ dX9_kindBy_59
  by_cases w1_4 : p1 = 110
  · skip
    refine lv_lookup (tgt := 54) (off := 53) hx hb dX9_kindBy_1 (by decide) (by rw [w1_4]; decide) (by decide) ?_
    refine lv_iconst (v := 1) hx hb dX9_kindBy_54 (by decide) ?_
    refine W.widen (k := 0) (n := 0) (Nat.le_of_ble_eq_true rfl) (Nat.le_of_ble_eq_true rfl) ?_
    exact k_ri hx hb hr hlocks hS hP hD ⟨rfl, (by rw [w1_4]; decide)⟩ dX9_kindBy_55
  by_cases w1_5 : p1 = 119
  · skip
    refine lv_lookup (tgt := 52) (off := 51) hx hb dX9_kindBy_1 (by decide) (by rw [w1_5]; decide) (by decide) ?_
    refine lv_iconst (v := 0) hx hb dX9_kindBy_52 (by decide) ?_
    refine W.widen (k := 0) (n := 0) (Nat.le_of_ble_eq_true rfl) (Nat.le_of_ble_eq_true rfl) ?_
    exact k_ri hx hb hr hlocks hS hP hD ⟨rfl, (by rw [w1_5]; decide)⟩ dX9_kindBy_53
  refine lv_lookup (tgt := 62) (off := 61) hx hb dX9_kindBy_1 (by decide) (by rw [lv_osw w1_1 (by decide)]; rw [lv_osw w1_2 (by decide)]; rw [lv_osw w1_3 (by decide)]; rw [lv_osw w1_4 (by decide)]; rw [lv_osw w1_5 (by decide)]; rfl) (by decide) ?_
  refine lv_iconst (v := (-1)) hx hb dX9_kindBy_62 (by decide) ?_
  refine W.widen (k := 0) (n := 0) (Nat.le_of_ble_eq_true rfl) (Nat.le_of_ble_eq_true rfl) ?_
  exact k_ri hx hb hr hlocks hS hP hD ⟨rfl, (by unfold kby; rw [if_neg w1_5, if_neg w1_4, if_neg w1_1, if_neg w1_3, if_neg w1_2])⟩ dX9_kindBy_63
def po_X9_soundBy_g (g : GG) (p1 : Int32) : Int32 → va_W → Prop := fun (r : Int32) w => w = [] ∧ (sby p1 = r)
set_option maxHeartbeats 1500000 in
set_option maxRecDepth 100000 in
theorem c_X9_soundBy_g (l : Launch) (g : GG) (p1 : Int32)  (sz : Nat) : MetI l yX9_soundBy wsX9_soundBy ({ frames := 0, cells := 0, slots := 0, locals := 0 }) g [.int p1] [] sz (po_X9_soundBy_g g p1) 0 0 := by
  refine k_of (l := l) (y := yX9_soundBy) (ws := wsX9_soundBy) (rm := { frames := 0, cells := 0, slots := 0, locals := 0 }) (mc := 0) (ms := 0) (av := [.int p1]) (g := g) (wc := []) (Qc := fun A => va_Qi (po_X9_soundBy_g g p1) (bk g A) A) (cc := cX9_soundBy) (maxL := 1) (ret := (some .int)) (by decide) rfl (Nat.le_of_ble_eq_true rfl) ?_ sz
  intro p e s m below meth c hx hb hr hts hown hlocks hnm hml A hA hE hZ hP hD hS ls hl
  have hown : s.vm.findClass RX9 = some m.cls := hown
  have hl : lv_has ls 1 [(0, .int p1)] := hl
  refine lv_iload_n hx hb dX9_soundBy_0 rfl (lv_at hl 0 rfl) ?_
  by_cases w1_1 : p1 = 46
  · skip
    refine lv_lookup (tgt := 84) (off := 83) hx hb dX9_soundBy_1 (by decide) (by rw [w1_1]; decide) (by decide) ?_
    refine lv_iconst (v := 0) hx hb dX9_soundBy_84 (by decide) ?_
    refine W.widen (k := 0) (n := 0) (Nat.le_of_ble_eq_true rfl) (Nat.le_of_ble_eq_true rfl) ?_
    exact k_ri hx hb hr hlocks hS hP hD ⟨rfl, (by rw [w1_1]; decide)⟩ dX9_soundBy_85
  by_cases w1_2 : p1 = 97
  · skip
    refine lv_lookup (tgt := 86) (off := 85) hx hb dX9_soundBy_1 (by decide) (by rw [w1_2]; decide) (by decide) ?_
    refine lv_iconst (v := 1) hx hb dX9_soundBy_86 (by decide) ?_
    refine W.widen (k := 0) (n := 0) (Nat.le_of_ble_eq_true rfl) (Nat.le_of_ble_eq_true rfl) ?_
    exact k_ri hx hb hr hlocks hS hP hD ⟨rfl, (by rw [w1_2]; decide)⟩ dX9_soundBy_87
  by_cases w1_3 : p1 = 101
  · skip
    refine lv_lookup (tgt := 88) (off := 87) hx hb dX9_soundBy_1 (by decide) (by rw [w1_3]; decide) (by decide) ?_
    refine lv_iconst (v := 2) hx hb dX9_soundBy_88 (by decide) ?_
    refine W.widen (k := 0) (n := 0) (Nat.le_of_ble_eq_true rfl) (Nat.le_of_ble_eq_true rfl) ?_
    exact k_ri hx hb hr hlocks hS hP hD ⟨rfl, (by rw [w1_3]; decide)⟩ dX9_soundBy_89
  by_cases w1_4 : p1 = 102
  · skip
    refine lv_lookup (tgt := 102) (off := 101) hx hb dX9_soundBy_1 (by decide) (by rw [w1_4]; decide) (by decide) ?_
    refine lv_bipush (v := 8) hx hb dX9_soundBy_102 (by decide) ?_
    refine W.widen (k := 0) (n := 0) (Nat.le_of_ble_eq_true rfl) (Nat.le_of_ble_eq_true rfl) ?_
    exact k_ri hx hb hr hlocks hS hP hD ⟨rfl, (by rw [w1_4]; decide)⟩ dX9_soundBy_104
  by_cases w1_5 : p1 = 107
  · skip
    refine lv_lookup (tgt := 96) (off := 95) hx hb dX9_soundBy_1 (by decide) (by rw [w1_5]; decide) (by decide) ?_
    refine lv_bipush (v := 6) hx hb dX9_soundBy_96 (by decide) ?_
    refine W.widen (k := 0) (n := 0) (Nat.le_of_ble_eq_true rfl) (Nat.le_of_ble_eq_true rfl) ?_
    exact k_ri hx hb hr hlocks hS hP hD ⟨rfl, (by rw [w1_5]; decide)⟩ dX9_soundBy_98
  by_cases w1_6 : p1 = 111
  · skip
    refine lv_lookup (tgt := 90) (off := 89) hx hb dX9_soundBy_1 (by decide) (by rw [w1_6]; decide) (by decide) ?_
    refine lv_iconst (v := 3) hx hb dX9_soundBy_90 (by decide) ?_
    refine W.widen (k := 0) (n := 0) (Nat.le_of_ble_eq_true rfl) (Nat.le_of_ble_eq_true rfl) ?_
    exact k_ri hx hb hr hlocks hS hP hD ⟨rfl, (by rw [w1_6]; decide)⟩ dX9_soundBy_91
  by_cases w1_7 : p1 = 112
  · skip
    refine lv_lookup (tgt := 92) (off := 91) hx hb dX9_soundBy_1 (by decide) (by rw [w1_7]; decide) (by decide) ?_
    refine lv_iconst (v := 4) hx hb dX9_soundBy_92 (by decide) ?_
    refine W.widen (k := 0) (n := 0) (Nat.le_of_ble_eq_true rfl) (Nat.le_of_ble_eq_true rfl) ?_
    exact k_ri hx hb hr hlocks hS hP hD ⟨rfl, (by rw [w1_7]; decide)⟩ dX9_soundBy_93
  by_cases w1_8 : p1 = 115
  · skip
    refine lv_lookup (tgt := 99) (off := 98) hx hb dX9_soundBy_1 (by decide) (by rw [w1_8]; decide) (by decide) ?_
    refine lv_bipush (v := 7) hx hb dX9_soundBy_99 (by decide) ?_
    refine W.widen (k := 0) (n := 0) (Nat.le_of_ble_eq_true rfl) (Nat.le_of_ble_eq_true rfl) ?_
    exact k_ri hx hb hr hlocks hS hP hD ⟨rfl, (by rw [w1_8]; decide)⟩ dX9_soundBy_101
  by_cases w1_9 : p1 = 116
  · skip
    refine lv_lookup (tgt := 94) (off := 93) hx hb dX9_soundBy_1 (by decide) (by rw [w1_9]; decide) (by decide) ?_
    refine lv_iconst (v := 5) hx hb dX9_soundBy_94 (by decide) ?_
    refine W.widen (k := 0) (n := 0) (Nat.le_of_ble_eq_true rfl) (Nat.le_of_ble_eq_true rfl) ?_
    exact k_ri hx hb hr hlocks hS hP hD ⟨rfl, (by rw [w1_9]; decide)⟩ dX9_soundBy_95
  refine lv_lookup (tgt := 105) (off := 104) hx hb dX9_soundBy_1 (by decide) (by rw [lv_osw w1_1 (by decide)]; rw [lv_osw w1_2 (by decide)]; rw [lv_osw w1_3 (by decide)]; rw [lv_osw w1_4 (by decide)]; rw [lv_osw w1_5 (by decide)]; rw [lv_osw w1_6 (by decide)]; rw [lv_osw w1_7 (by decide)]; rw [lv_osw w1_8 (by decide)]; rw [lv_osw w1_9 (by decide)]; rfl) (by decide) ?_
  refine lv_iconst (v := (-1)) hx hb dX9_soundBy_105 (by decide) ?_
  refine W.widen (k := 0) (n := 0) (Nat.le_of_ble_eq_true rfl) (Nat.le_of_ble_eq_true rfl) ?_
  exact k_ri hx hb hr hlocks hS hP hD ⟨rfl, (by unfold sby; rw [if_neg w1_1, if_neg w1_2, if_neg w1_3, if_neg w1_6, if_neg w1_7, if_neg w1_9, if_neg w1_5, if_neg w1_8, if_neg w1_4])⟩ dX9_soundBy_106
def po_X9_isWordWhole_g (g : GG) (k0 : Nat) (m0 : Nat) (s1 : Int32) (s2 : Int32) (s6 : Int32) (m7 : Nat) (m8 : Nat) (m9 : Nat) (s10 : Int32) (s11 : Int32) (s12 : Int32) (m13 : Nat) (m14 : Nat) (m15 : Nat) (s16 : Int32) (m17 : Nat) (m18 : Nat) (m19 : Nat) (m20 : Nat) (m21 : Nat) (m22 : Nat) (m23 : Nat) (m24 : Nat) (m25 : Nat) (m26 : Nat) (m27 : Nat) (m28 : Nat) (s29 : Int32) (m30 : Nat) (s31 : Int32) (s32 : Int32) (s33 : Int32) (s34 : Int32) (s35 : Int32) (m36 : Nat) (m37 : Nat) (m38 : Nat) (m39 : Nat) (s40 : Int64) (wd : Nat) (n : Nat) (x5 : Int32) : Int32 → va_W → Prop := fun (r : Int32) w => w = [(k0, .inr (9, [.ref m0, .int s1, .int s2, .int (nI wd), .int (nI n), .int x5, .int s6, .ref m7, .ref m8, .ref m9, .int s10, .int s11, .int s12, .ref m13, .ref m14, .ref m15, .int s16, .ref m17, .ref m18, .ref m19, .ref m20, .ref m21, .ref m22, .ref m23, .ref m24, .ref m25, .ref m26, .ref m27, .ref m28, .int s29, .ref m30, .int s31, .int s32, .int s33, .int s34, .int s35, .ref m36, .ref m37, .ref m38, .ref m39, .long s40]))] ∧ (mww wd n x5 = r)
theorem q_X9_isWordWhole_g_f9 : ∀ w ∈ u_ws RX9 TX9 41, w ∈ wsX9_isWordWhole := by decide +kernel
theorem q_X9_isWordWhole_g_1 : (Cond.fieldLink RX9 95 "SoundLawsModel" "readHere" "I") ∈ wsX9_isWordWhole := by decide +kernel
theorem q_X9_isWordWhole_g_2 : (Cond.fieldLink RX9 98 "SoundLawsModel" "readWords" "I") ∈ wsX9_isWordWhole := by decide +kernel
theorem q_X9_isWordWhole_g_3 : (Cond.fieldLink RX9 101 "SoundLawsModel" "readLong" "I") ∈ wsX9_isWordWhole := by decide +kernel
set_option maxHeartbeats 1500000 in
set_option maxRecDepth 100000 in
theorem c_X9_isWordWhole_g (l : Launch) (g : GG) (k0 : Nat) (m0 : Nat) (s1 : Int32) (s2 : Int32) (s6 : Int32) (m7 : Nat) (m8 : Nat) (m9 : Nat) (s10 : Int32) (s11 : Int32) (s12 : Int32) (m13 : Nat) (m14 : Nat) (m15 : Nat) (s16 : Int32) (m17 : Nat) (m18 : Nat) (m19 : Nat) (m20 : Nat) (m21 : Nat) (m22 : Nat) (m23 : Nat) (m24 : Nat) (m25 : Nat) (m26 : Nat) (m27 : Nat) (m28 : Nat) (s29 : Int32) (m30 : Nat) (s31 : Int32) (s32 : Int32) (s33 : Int32) (s34 : Int32) (s35 : Int32) (m36 : Nat) (m37 : Nat) (m38 : Nat) (m39 : Nat) (s40 : Int64) (wd : Nat) (n : Nat) (x5 : Int32) (hw : wd < 6) (hn : n < 6) (sz : Nat) : MetI l yX9_isWordWhole wsX9_isWordWhole ({ frames := 0, cells := 0, slots := 0, locals := 0 }) g [.ref k0] [(k0, .inr (9, [.ref m0, .int s1, .int s2, .int (nI wd), .int (nI n), .int x5, .int s6, .ref m7, .ref m8, .ref m9, .int s10, .int s11, .int s12, .ref m13, .ref m14, .ref m15, .int s16, .ref m17, .ref m18, .ref m19, .ref m20, .ref m21, .ref m22, .ref m23, .ref m24, .ref m25, .ref m26, .ref m27, .ref m28, .int s29, .ref m30, .int s31, .int s32, .int s33, .int s34, .int s35, .ref m36, .ref m37, .ref m38, .ref m39, .long s40]))] sz (po_X9_isWordWhole_g g k0 m0 s1 s2 s6 m7 m8 m9 s10 s11 s12 m13 m14 m15 s16 m17 m18 m19 m20 m21 m22 m23 m24 m25 m26 m27 m28 s29 m30 s31 s32 s33 s34 s35 m36 m37 m38 m39 s40 wd n x5) 0 0 := by
  refine k_of (l := l) (y := yX9_isWordWhole) (ws := wsX9_isWordWhole) (rm := { frames := 0, cells := 0, slots := 0, locals := 0 }) (mc := 0) (ms := 0) (av := [.ref k0]) (g := g) (wc := [(k0, .inr (9, [.ref m0, .int s1, .int s2, .int (nI wd), .int (nI n), .int x5, .int s6, .ref m7, .ref m8, .ref m9, .int s10, .int s11, .int s12, .ref m13, .ref m14, .ref m15, .int s16, .ref m17, .ref m18, .ref m19, .ref m20, .ref m21, .ref m22, .ref m23, .ref m24, .ref m25, .ref m26, .ref m27, .ref m28, .int s29, .ref m30, .int s31, .int s32, .int s33, .int s34, .int s35, .ref m36, .ref m37, .ref m38, .ref m39, .long s40]))]) (Qc := fun A => va_Qi (po_X9_isWordWhole_g g k0 m0 s1 s2 s6 m7 m8 m9 s10 s11 s12 m13 m14 m15 s16 m17 m18 m19 m20 m21 m22 m23 m24 m25 m26 m27 m28 s29 m30 s31 s32 s33 s34 s35 m36 m37 m38 m39 s40 wd n x5) (bk g A) A) (cc := cX9_isWordWhole) (maxL := 1) (ret := (some .boolean)) (by decide) rfl (Nat.le_of_ble_eq_true rfl) ?_ sz
  intro p e s m below meth c hx hb hr hts hown hlocks hnm hml A hA hE hZ hP hD hS ls hl
  have hown : s.vm.findClass RX9 = some m.cls := hown
  have hl : lv_has ls 1 [(0, .ref k0)] := hl
  refine lv_aload_n hx hb dX9_isWordWhole_0 rfl (lv_at hl 0 rfl) ?_
  refine va_get (D := g.1) (ci := 9) (v := .int (nI n)) (C := RX9) (T := TX9) (N := 41) hx hb hts q_X9_isWordWhole_g_f9 hown hE.1 hP 0 rfl rfl 4 (by decide) (hts (.fieldLink RX9 95 "SoundLawsModel" "readHere" "I") q_X9_isWordWhole_g_1) (fun _ h9 => h9) rfl dX9_isWordWhole_1 ?_
  refine lv_if_le (tgt := 30) hx hb dX9_isWordWhole_4 (by decide) (fun c4_1 => ?_) (fun c4_1 => ?_)
  · skip
    refine lv_iconst (v := 0) hx hb dX9_isWordWhole_30 (by decide) ?_
    refine W.widen (k := 0) (n := 0) (Nat.le_of_ble_eq_true rfl) (Nat.le_of_ble_eq_true rfl) ?_
    exact k_rz hx hb hr hlocks hS hP hD rfl ⟨rfl, (by unfold mww; rw [if_pos (le0_of (by omega) c4_1)])⟩ dX9_isWordWhole_31
  · skip
    refine lv_aload_n hx hb dX9_isWordWhole_7 rfl (lv_at hl 0 rfl) ?_
    refine va_get (D := g.1) (ci := 9) (v := .int (nI wd)) (C := RX9) (T := TX9) (N := 41) hx hb hts q_X9_isWordWhole_g_f9 hown hE.1 hP 0 rfl rfl 3 (by decide) (hts (.fieldLink RX9 98 "SoundLawsModel" "readWords" "I") q_X9_isWordWhole_g_2) (fun _ h9 => h9) rfl dX9_isWordWhole_8 ?_
    refine lv_iconst (v := 1) hx hb dX9_isWordWhole_11 (by decide) ?_
    refine lv_icmp_eq (tgt := 26) hx hb dX9_isWordWhole_12 (by decide) (fun c12_2 => ?_) (fun c12_2 => ?_)
    · skip
      refine lv_iconst (v := 1) hx hb dX9_isWordWhole_26 (by decide) ?_
      refine lv_goto (tgt := 31) hx hb dX9_isWordWhole_27 (by decide) ?_
      refine W.widen (k := 0) (n := 0) (Nat.le_of_ble_eq_true rfl) (Nat.le_of_ble_eq_true rfl) ?_
      exact k_rz hx hb hr hlocks hS hP hD rfl ⟨rfl, (by unfold mww; rw [if_neg (show ¬ n = 0 from fun q => c4_1 (by rw [q]; decide)), if_pos ((nI_eq (b := 1) (by omega) (by decide)).mp c12_2)])⟩ dX9_isWordWhole_31
    · skip
      refine lv_aload_n hx hb dX9_isWordWhole_15 rfl (lv_at hl 0 rfl) ?_
      refine va_get (D := g.1) (ci := 9) (v := .int (nI n)) (C := RX9) (T := TX9) (N := 41) hx hb hts q_X9_isWordWhole_g_f9 hown hE.1 hP 0 rfl rfl 4 (by decide) (hts (.fieldLink RX9 95 "SoundLawsModel" "readHere" "I") q_X9_isWordWhole_g_1) (fun _ h9 => h9) rfl dX9_isWordWhole_16 ?_
      refine lv_aload_n hx hb dX9_isWordWhole_19 rfl (lv_at hl 0 rfl) ?_
      refine va_get (D := g.1) (ci := 9) (v := .int x5) (C := RX9) (T := TX9) (N := 41) hx hb hts q_X9_isWordWhole_g_f9 hown hE.1 hP 0 rfl rfl 5 (by decide) (hts (.fieldLink RX9 101 "SoundLawsModel" "readLong" "I") q_X9_isWordWhole_g_3) (fun _ h9 => h9) rfl dX9_isWordWhole_20 ?_
      refine lv_icmp_ne (tgt := 30) hx hb dX9_isWordWhole_23 (by decide) (fun c23_3 => ?_) (fun c23_3 => ?_)
      · skip
        refine lv_iconst (v := 0) hx hb dX9_isWordWhole_30 (by decide) ?_
        refine W.widen (k := 0) (n := 0) (Nat.le_of_ble_eq_true rfl) (Nat.le_of_ble_eq_true rfl) ?_
        exact k_rz hx hb hr hlocks hS hP hD rfl ⟨rfl, (by unfold mww; rw [if_neg (show ¬ n = 0 from fun q => c4_1 (by rw [q]; decide)), if_neg (show ¬ wd = 1 from fun q => c12_2 (by rw [q]; rfl)), if_neg c23_3])⟩ dX9_isWordWhole_31
      · skip
        refine lv_iconst (v := 1) hx hb dX9_isWordWhole_26 (by decide) ?_
        refine lv_goto (tgt := 31) hx hb dX9_isWordWhole_27 (by decide) ?_
        refine W.widen (k := 0) (n := 0) (Nat.le_of_ble_eq_true rfl) (Nat.le_of_ble_eq_true rfl) ?_
        exact k_rz hx hb hr hlocks hS hP hD rfl ⟨rfl, (by unfold mww; rw [if_neg (show ¬ n = 0 from fun q => c4_1 (by rw [q]; decide)), if_neg (show ¬ wd = 1 from fun q => c12_2 (by rw [q]; rfl)), if_pos c23_3])⟩ dX9_isWordWhole_31
def po_X9_isSetWhole_g (g : GG) (k0 : Nat) (m0 : Nat) (s1 : Int32) (s2 : Int32) (m7 : Nat) (m8 : Nat) (m9 : Nat) (s10 : Int32) (s11 : Int32) (s12 : Int32) (m13 : Nat) (m14 : Nat) (m15 : Nat) (s16 : Int32) (m17 : Nat) (m18 : Nat) (m19 : Nat) (m20 : Nat) (m21 : Nat) (m22 : Nat) (m23 : Nat) (m24 : Nat) (m25 : Nat) (m26 : Nat) (m27 : Nat) (m28 : Nat) (s29 : Int32) (m30 : Nat) (s31 : Int32) (s32 : Int32) (s33 : Int32) (s34 : Int32) (s35 : Int32) (m36 : Nat) (m37 : Nat) (m38 : Nat) (m39 : Nat) (s40 : Int64) (wd : Nat) (n : Nat) (yt : Nat) (x5 : Int32) : Int32 → va_W → Prop := fun (r : Int32) w => w = [(k0, .inr (9, [.ref m0, .int s1, .int s2, .int (nI wd), .int (nI n), .int x5, .int (nI yt), .ref m7, .ref m8, .ref m9, .int s10, .int s11, .int s12, .ref m13, .ref m14, .ref m15, .int s16, .ref m17, .ref m18, .ref m19, .ref m20, .ref m21, .ref m22, .ref m23, .ref m24, .ref m25, .ref m26, .ref m27, .ref m28, .int s29, .ref m30, .int s31, .int s32, .int s33, .int s34, .int s35, .ref m36, .ref m37, .ref m38, .ref m39, .long s40]))] ∧ (msw wd n x5 yt = r)
theorem q_X9_isSetWhole_g_f9 : ∀ w ∈ u_ws RX9 TX9 41, w ∈ wsX9_isSetWhole := by decide +kernel
theorem q_X9_isSetWhole_g_1 : (Cond.fieldLink RX9 108 "SoundLawsModel" "readTongues" "I") ∈ wsX9_isSetWhole := by decide +kernel
theorem q_X9_isSetWhole_g_2 : (Cond.fieldLink RX9 98 "SoundLawsModel" "readWords" "I") ∈ wsX9_isSetWhole := by decide +kernel
set_option maxHeartbeats 1500000 in
set_option maxRecDepth 100000 in
theorem c_X9_isSetWhole_g (l : Launch) (g : GG) (k0 : Nat) (m0 : Nat) (s1 : Int32) (s2 : Int32) (m7 : Nat) (m8 : Nat) (m9 : Nat) (s10 : Int32) (s11 : Int32) (s12 : Int32) (m13 : Nat) (m14 : Nat) (m15 : Nat) (s16 : Int32) (m17 : Nat) (m18 : Nat) (m19 : Nat) (m20 : Nat) (m21 : Nat) (m22 : Nat) (m23 : Nat) (m24 : Nat) (m25 : Nat) (m26 : Nat) (m27 : Nat) (m28 : Nat) (s29 : Int32) (m30 : Nat) (s31 : Int32) (s32 : Int32) (s33 : Int32) (s34 : Int32) (s35 : Int32) (m36 : Nat) (m37 : Nat) (m38 : Nat) (m39 : Nat) (s40 : Int64) (wd : Nat) (n : Nat) (yt : Nat) (x5 : Int32) (hw : wd < 6) (hn : n < 6) (hyt : yt ≤ 4) (sz : Nat) : MetI l yX9_isSetWhole wsX9_isSetWhole ({ frames := 1, cells := 0, slots := 0, locals := 20 }) g [.ref k0] [(k0, .inr (9, [.ref m0, .int s1, .int s2, .int (nI wd), .int (nI n), .int x5, .int (nI yt), .ref m7, .ref m8, .ref m9, .int s10, .int s11, .int s12, .ref m13, .ref m14, .ref m15, .int s16, .ref m17, .ref m18, .ref m19, .ref m20, .ref m21, .ref m22, .ref m23, .ref m24, .ref m25, .ref m26, .ref m27, .ref m28, .int s29, .ref m30, .int s31, .int s32, .int s33, .int s34, .int s35, .ref m36, .ref m37, .ref m38, .ref m39, .long s40]))] sz (po_X9_isSetWhole_g g k0 m0 s1 s2 m7 m8 m9 s10 s11 s12 m13 m14 m15 s16 m17 m18 m19 m20 m21 m22 m23 m24 m25 m26 m27 m28 s29 m30 s31 s32 s33 s34 s35 m36 m37 m38 m39 s40 wd n yt x5) 0 0 := by
  refine k_of (l := l) (y := yX9_isSetWhole) (ws := wsX9_isSetWhole) (rm := { frames := 1, cells := 0, slots := 0, locals := 20 }) (mc := 0) (ms := 0) (av := [.ref k0]) (g := g) (wc := [(k0, .inr (9, [.ref m0, .int s1, .int s2, .int (nI wd), .int (nI n), .int x5, .int (nI yt), .ref m7, .ref m8, .ref m9, .int s10, .int s11, .int s12, .ref m13, .ref m14, .ref m15, .int s16, .ref m17, .ref m18, .ref m19, .ref m20, .ref m21, .ref m22, .ref m23, .ref m24, .ref m25, .ref m26, .ref m27, .ref m28, .int s29, .ref m30, .int s31, .int s32, .int s33, .int s34, .int s35, .ref m36, .ref m37, .ref m38, .ref m39, .long s40]))]) (Qc := fun A => va_Qi (po_X9_isSetWhole_g g k0 m0 s1 s2 m7 m8 m9 s10 s11 s12 m13 m14 m15 s16 m17 m18 m19 m20 m21 m22 m23 m24 m25 m26 m27 m28 s29 m30 s31 s32 s33 s34 s35 m36 m37 m38 m39 s40 wd n yt x5) (bk g A) A) (cc := cX9_isSetWhole) (maxL := 1) (ret := (some .boolean)) (by decide) rfl (Nat.le_of_ble_eq_true rfl) ?_ sz
  intro p e s m below meth c hx hb hr hts hown hlocks hnm hml A hA hE hZ hP hD hS ls hl
  have hown : s.vm.findClass RX9 = some m.cls := hown
  have hl : lv_has ls 1 [(0, .ref k0)] := hl
  refine lv_aload_n hx hb dX9_isSetWhole_0 rfl (lv_at hl 0 rfl) ?_
  refine k_ci (wr := []) hP hD hS hA [0] [] rfl rfl (by decide) (by decide) (va_runV (As := []) (rest := []) ⟨hx, hb, hml, hown, hts⟩ (c_X9_isWordWhole_g l g k0 m0 s1 s2 (nI yt) m7 m8 m9 s10 s11 s12 m13 m14 m15 s16 m17 m18 m19 m20 m21 m22 m23 m24 m25 m26 m27 m28 s29 m30 s31 s32 s33 s34 s35 m36 m37 m38 m39 s40 wd n x5 (by first | assumption | omega) (by first | assumption | omega) s.heap.size) (cwV 0 hts gX9_isSetWhole_X9_isWordWhole rfl rfl rfl (by decide +kernel) ⟨Nat.le_of_ble_eq_true rfl, Nat.le_of_ble_eq_true rfl⟩) (k_preV hE hZ hP hD hS hA [0] rfl (by decide) (va_recv hE.1 hP (ci := 9) (q0 := 0) rfl rfl)) rfl rfl hl.1 rfl (lv_room (Nat.le_of_ble_eq_true rfl)) dX9_isSetWhole_1 ⟨Nat.le_of_ble_eq_true rfl, Nat.le_of_ble_eq_true rfl⟩) (fun r_1 w1 H locs hw hP hD hS => ?_)
  obtain ⟨rfl, rfl⟩ := hw
  have hP : va_P g.1 vwCl [(k0, .inr (9, [.ref m0, .int s1, .int s2, .int (nI wd), .int (nI n), .int x5, .int (nI yt), .ref m7, .ref m8, .ref m9, .int s10, .int s11, .int s12, .ref m13, .ref m14, .ref m15, .int s16, .ref m17, .ref m18, .ref m19, .ref m20, .ref m21, .ref m22, .ref m23, .ref m24, .ref m25, .ref m26, .ref m27, .ref m28, .int s29, .ref m30, .int s31, .int s32, .int s33, .int s34, .int s35, .ref m36, .ref m37, .ref m38, .ref m39, .long s40]))] H := hP
  have hD : va_D A [(k0, .inr (9, [.ref m0, .int s1, .int s2, .int (nI wd), .int (nI n), .int x5, .int (nI yt), .ref m7, .ref m8, .ref m9, .int s10, .int s11, .int s12, .ref m13, .ref m14, .ref m15, .int s16, .ref m17, .ref m18, .ref m19, .ref m20, .ref m21, .ref m22, .ref m23, .ref m24, .ref m25, .ref m26, .ref m27, .ref m28, .int s29, .ref m30, .int s31, .int s32, .int s33, .int s34, .int s35, .ref m36, .ref m37, .ref m38, .ref m39, .long s40]))] := hD
  refine lv_if_eq (tgt := 40) hx hb dX9_isSetWhole_4 (by decide) (fun c4_3 => ?_) (fun c4_3 => ?_)
  · skip
    refine lv_iconst (v := 0) hx hb dX9_isSetWhole_40 (by decide) ?_
    refine W.widen (k := 0) (n := 0) (Nat.le_of_ble_eq_true rfl) (Nat.le_of_ble_eq_true rfl) ?_
    exact k_rz hx hb hr hlocks hS hP hD rfl ⟨rfl, (by unfold msw; rw [if_pos c4_3])⟩ dX9_isSetWhole_41
  · skip
    refine lv_aload_n hx hb dX9_isSetWhole_7 rfl (lv_at hl 0 rfl) ?_
    refine va_get (D := g.1) (ci := 9) (v := .int (nI yt)) (C := RX9) (T := TX9) (N := 41) hx hb hts q_X9_isSetWhole_g_f9 hown hE.1 hP 0 rfl rfl 6 (by decide) (hts (.fieldLink RX9 108 "SoundLawsModel" "readTongues" "I") q_X9_isSetWhole_g_1) (fun _ h9 => h9) rfl dX9_isSetWhole_8 ?_
    refine lv_if_ne (tgt := 25) hx hb dX9_isSetWhole_11 (by decide) (fun c11_4 => ?_) (fun c11_4 => ?_)
    · skip
      refine lv_aload_n hx hb dX9_isSetWhole_25 rfl (lv_at hl 0 rfl) ?_
      refine va_get (D := g.1) (ci := 9) (v := .int (nI wd)) (C := RX9) (T := TX9) (N := 41) hx hb hts q_X9_isSetWhole_g_f9 hown hE.1 hP 0 rfl rfl 3 (by decide) (hts (.fieldLink RX9 98 "SoundLawsModel" "readWords" "I") q_X9_isSetWhole_g_2) (fun _ h9 => h9) rfl dX9_isSetWhole_26 ?_
      refine lv_aload_n hx hb dX9_isSetWhole_29 rfl (lv_at hl 0 rfl) ?_
      refine va_get (D := g.1) (ci := 9) (v := .int (nI yt)) (C := RX9) (T := TX9) (N := 41) hx hb hts q_X9_isSetWhole_g_f9 hown hE.1 hP 0 rfl rfl 6 (by decide) (hts (.fieldLink RX9 108 "SoundLawsModel" "readTongues" "I") q_X9_isSetWhole_g_1) (fun _ h9 => h9) rfl dX9_isSetWhole_30 ?_
      refine lv_icmp_ne (tgt := 40) hx hb dX9_isSetWhole_33 (by decide) (fun c33_5 => ?_) (fun c33_5 => ?_)
      · skip
        refine lv_iconst (v := 0) hx hb dX9_isSetWhole_40 (by decide) ?_
        refine W.widen (k := 0) (n := 0) (Nat.le_of_ble_eq_true rfl) (Nat.le_of_ble_eq_true rfl) ?_
        exact k_rz hx hb hr hlocks hS hP hD rfl ⟨rfl, (by unfold msw; rw [if_neg c4_3, if_neg (show ¬ yt = 0 from fun q => c11_4 (by rw [q]; rfl)), if_neg (show ¬ wd = yt from fun q => c33_5 (by rw [q]))])⟩ dX9_isSetWhole_41
      · skip
        refine lv_iconst (v := 1) hx hb dX9_isSetWhole_36 (by decide) ?_
        refine lv_goto (tgt := 41) hx hb dX9_isSetWhole_37 (by decide) ?_
        refine W.widen (k := 0) (n := 0) (Nat.le_of_ble_eq_true rfl) (Nat.le_of_ble_eq_true rfl) ?_
        exact k_rz hx hb hr hlocks hS hP hD rfl ⟨rfl, (by unfold msw; rw [if_neg c4_3, if_neg (show ¬ yt = 0 from fun q => c11_4 (by rw [q]; rfl)), if_pos ((nI_eq (by omega) (by omega)).mp c33_5)])⟩ dX9_isSetWhole_41
    · skip
      refine lv_aload_n hx hb dX9_isSetWhole_14 rfl (lv_at hl 0 rfl) ?_
      refine va_get (D := g.1) (ci := 9) (v := .int (nI wd)) (C := RX9) (T := TX9) (N := 41) hx hb hts q_X9_isSetWhole_g_f9 hown hE.1 hP 0 rfl rfl 3 (by decide) (hts (.fieldLink RX9 98 "SoundLawsModel" "readWords" "I") q_X9_isSetWhole_g_2) (fun _ h9 => h9) rfl dX9_isSetWhole_15 ?_
      refine lv_iconst (v := 1) hx hb dX9_isSetWhole_18 (by decide) ?_
      refine lv_icmp_le (tgt := 40) hx hb dX9_isSetWhole_19 (by decide) (fun c19_6 => ?_) (fun c19_6 => ?_)
      · skip
        refine lv_iconst (v := 0) hx hb dX9_isSetWhole_40 (by decide) ?_
        refine W.widen (k := 0) (n := 0) (Nat.le_of_ble_eq_true rfl) (Nat.le_of_ble_eq_true rfl) ?_
        exact k_rz hx hb hr hlocks hS hP hD rfl ⟨rfl, (by unfold msw; rw [if_neg c4_3, if_pos ((nI_eq (b := 0) (by omega) (by decide)).mp c11_4), if_neg (show ¬ 1 < wd from fun q => (nI_ge (a := 1) (b := wd) q (by omega)) c19_6)])⟩ dX9_isSetWhole_41
      · skip
        refine lv_goto (tgt := 36) hx hb dX9_isSetWhole_22 (by decide) ?_
        refine lv_iconst (v := 1) hx hb dX9_isSetWhole_36 (by decide) ?_
        refine lv_goto (tgt := 41) hx hb dX9_isSetWhole_37 (by decide) ?_
        refine W.widen (k := 0) (n := 0) (Nat.le_of_ble_eq_true rfl) (Nat.le_of_ble_eq_true rfl) ?_
        exact k_rz hx hb hr hlocks hS hP hD rfl ⟨rfl, (by unfold msw; rw [if_neg c4_3, if_pos ((nI_eq (b := 0) (by omega) (by decide)).mp c11_4), if_pos (lt_of_nle (k := wd) (n := 1) (by omega) (by decide) c19_6)])⟩ dX9_isSetWhole_41
def po_X9_isBegun_g (g : GG) (k0 : Nat) (m0 : Nat) (s1 : Int32) (s6 : Int32) (m7 : Nat) (m8 : Nat) (m9 : Nat) (s10 : Int32) (s11 : Int32) (s12 : Int32) (m13 : Nat) (m14 : Nat) (m15 : Nat) (s16 : Int32) (m17 : Nat) (m18 : Nat) (m19 : Nat) (m20 : Nat) (m21 : Nat) (m22 : Nat) (m23 : Nat) (m24 : Nat) (m25 : Nat) (m26 : Nat) (m27 : Nat) (m28 : Nat) (s29 : Int32) (m30 : Nat) (s31 : Int32) (s32 : Int32) (s33 : Int32) (s34 : Int32) (s35 : Int32) (m36 : Nat) (m37 : Nat) (m38 : Nat) (m39 : Nat) (s40 : Int64) (y : Nat) (x3 : Int32) (x4 : Int32) (x5 : Int32) (RK : Nat → Int32) (p1 : Int32) : Int32 → va_W → Prop := fun (r : Int32) w => ∃ (y2 : Nat) (x3b : Int32) (x4b : Int32) (x5b : Int32) (RK2 : Nat → Int32), w = [(k0, .inr (9, [.ref m0, .int s1, .int (nI y2), .int x3b, .int x4b, .int x5b, .int s6, .ref m7, .ref m8, .ref m9, .int s10, .int s11, .int s12, .ref m13, .ref m14, .ref m15, .int s16, .ref m17, .ref m18, .ref m19, .ref m20, .ref m21, .ref m22, .ref m23, .ref m24, .ref m25, .ref m26, .ref m27, .ref m28, .int s29, .ref m30, .int s31, .int s32, .int s33, .int s34, .int s35, .ref m36, .ref m37, .ref m38, .ref m39, .long s40])), (m7, ai g 5 RK2)] ∧ (bgP p1 y x3 x4 x5 RK r y2 x3b x4b x5b RK2)
theorem q_X9_isBegun_g_f9 : ∀ w ∈ u_ws RX9 TX9 41, w ∈ wsX9_isBegun := by decide +kernel
theorem q_X9_isBegun_g_1 : (Cond.fieldLink RX9 115 "SoundLawsModel" "readSets" "I") ∈ wsX9_isBegun := by decide +kernel
theorem q_X9_isBegun_g_2 : (Cond.fieldLink RX9 13 "SoundLawsModel" "readKinds" "[I") ∈ wsX9_isBegun := by decide +kernel
theorem q_X9_isBegun_g_3 : (Cond.fieldLink RX9 98 "SoundLawsModel" "readWords" "I") ∈ wsX9_isBegun := by decide +kernel
theorem q_X9_isBegun_g_4 : (Cond.fieldLink RX9 95 "SoundLawsModel" "readHere" "I") ∈ wsX9_isBegun := by decide +kernel
theorem q_X9_isBegun_g_5 : (Cond.fieldLink RX9 101 "SoundLawsModel" "readLong" "I") ∈ wsX9_isBegun := by decide +kernel
set_option maxHeartbeats 1500000 in
set_option maxRecDepth 100000 in
theorem c_X9_isBegun_g (l : Launch) (g : GG) (k0 : Nat) (m0 : Nat) (s1 : Int32) (s6 : Int32) (m7 : Nat) (m8 : Nat) (m9 : Nat) (s10 : Int32) (s11 : Int32) (s12 : Int32) (m13 : Nat) (m14 : Nat) (m15 : Nat) (s16 : Int32) (m17 : Nat) (m18 : Nat) (m19 : Nat) (m20 : Nat) (m21 : Nat) (m22 : Nat) (m23 : Nat) (m24 : Nat) (m25 : Nat) (m26 : Nat) (m27 : Nat) (m28 : Nat) (s29 : Int32) (m30 : Nat) (s31 : Int32) (s32 : Int32) (s33 : Int32) (s34 : Int32) (s35 : Int32) (m36 : Nat) (m37 : Nat) (m38 : Nat) (m39 : Nat) (s40 : Int64) (y : Nat) (x3 : Int32) (x4 : Int32) (x5 : Int32) (RK : Nat → Int32) (p1 : Int32) (hy : y ≤ 5) (sz : Nat) : MetI l yX9_isBegun wsX9_isBegun ({ frames := 1, cells := 0, slots := 0, locals := 20 }) g [.ref k0, .int p1] [(k0, .inr (9, [.ref m0, .int s1, .int (nI y), .int x3, .int x4, .int x5, .int s6, .ref m7, .ref m8, .ref m9, .int s10, .int s11, .int s12, .ref m13, .ref m14, .ref m15, .int s16, .ref m17, .ref m18, .ref m19, .ref m20, .ref m21, .ref m22, .ref m23, .ref m24, .ref m25, .ref m26, .ref m27, .ref m28, .int s29, .ref m30, .int s31, .int s32, .int s33, .int s34, .int s35, .ref m36, .ref m37, .ref m38, .ref m39, .long s40])), (m7, ai g 5 RK)] sz (po_X9_isBegun_g g k0 m0 s1 s6 m7 m8 m9 s10 s11 s12 m13 m14 m15 s16 m17 m18 m19 m20 m21 m22 m23 m24 m25 m26 m27 m28 s29 m30 s31 s32 s33 s34 s35 m36 m37 m38 m39 s40 y x3 x4 x5 RK p1) 0 0 := by
  refine k_of (l := l) (y := yX9_isBegun) (ws := wsX9_isBegun) (rm := { frames := 1, cells := 0, slots := 0, locals := 20 }) (mc := 0) (ms := 0) (av := [.ref k0, .int p1]) (g := g) (wc := [(k0, .inr (9, [.ref m0, .int s1, .int (nI y), .int x3, .int x4, .int x5, .int s6, .ref m7, .ref m8, .ref m9, .int s10, .int s11, .int s12, .ref m13, .ref m14, .ref m15, .int s16, .ref m17, .ref m18, .ref m19, .ref m20, .ref m21, .ref m22, .ref m23, .ref m24, .ref m25, .ref m26, .ref m27, .ref m28, .int s29, .ref m30, .int s31, .int s32, .int s33, .int s34, .int s35, .ref m36, .ref m37, .ref m38, .ref m39, .long s40])), (m7, ai g 5 RK)]) (Qc := fun A => va_Qi (po_X9_isBegun_g g k0 m0 s1 s6 m7 m8 m9 s10 s11 s12 m13 m14 m15 s16 m17 m18 m19 m20 m21 m22 m23 m24 m25 m26 m27 m28 s29 m30 s31 s32 s33 s34 s35 m36 m37 m38 m39 s40 y x3 x4 x5 RK p1) (bk g A) A) (cc := cX9_isBegun) (maxL := 2) (ret := (some .boolean)) (by decide) rfl (Nat.le_of_ble_eq_true rfl) ?_ sz
  intro p e s m below meth c hx hb hr hts hown hlocks hnm hml A hA hE hZ hP hD hS ls hl
  have hown : s.vm.findClass RX9 = some m.cls := hown
  have hl : lv_has ls 2 [(0, .ref k0), (1, .int p1)] := hl
  refine lv_iload_n hx hb dX9_isBegun_0 rfl (lv_at hl 1 rfl) ?_
  refine k_ci (wr := [(k0, .inr (9, [.ref m0, .int s1, .int (nI y), .int x3, .int x4, .int x5, .int s6, .ref m7, .ref m8, .ref m9, .int s10, .int s11, .int s12, .ref m13, .ref m14, .ref m15, .int s16, .ref m17, .ref m18, .ref m19, .ref m20, .ref m21, .ref m22, .ref m23, .ref m24, .ref m25, .ref m26, .ref m27, .ref m28, .int s29, .ref m30, .int s31, .int s32, .int s33, .int s34, .int s35, .ref m36, .ref m37, .ref m38, .ref m39, .long s40])), (m7, ai g 5 RK)]) hP hD hS hA [] [0, 1] rfl rfl (by decide) (by decide) (va_runS (As := [.int p1]) (rest := []) ⟨hx, hb, hml, hown, hts⟩ (c_X9_kindBy_g l g p1  s.heap.size) (va_cwS 1 hts gX9_isBegun_X9_kindBy rfl rfl rfl (by decide +kernel) ⟨Nat.le_of_ble_eq_true rfl, Nat.le_of_ble_eq_true rfl⟩) (k_preS hE hZ hP hD hS hA [] rfl (by decide)) rfl rfl hl.1 rfl (lv_room (Nat.le_of_ble_eq_true rfl)) dX9_isBegun_1 ⟨Nat.le_of_ble_eq_true rfl, Nat.le_of_ble_eq_true rfl⟩) (fun r_1 w1 H locs hw hP hD hS => ?_)
  obtain ⟨rfl, rfl⟩ := hw
  have hP : va_P g.1 vwCl [(k0, .inr (9, [.ref m0, .int s1, .int (nI y), .int x3, .int x4, .int x5, .int s6, .ref m7, .ref m8, .ref m9, .int s10, .int s11, .int s12, .ref m13, .ref m14, .ref m15, .int s16, .ref m17, .ref m18, .ref m19, .ref m20, .ref m21, .ref m22, .ref m23, .ref m24, .ref m25, .ref m26, .ref m27, .ref m28, .int s29, .ref m30, .int s31, .int s32, .int s33, .int s34, .int s35, .ref m36, .ref m37, .ref m38, .ref m39, .long s40])), (m7, ai g 5 RK)] H := hP
  have hD : va_D A [(k0, .inr (9, [.ref m0, .int s1, .int (nI y), .int x3, .int x4, .int x5, .int s6, .ref m7, .ref m8, .ref m9, .int s10, .int s11, .int s12, .ref m13, .ref m14, .ref m15, .int s16, .ref m17, .ref m18, .ref m19, .ref m20, .ref m21, .ref m22, .ref m23, .ref m24, .ref m25, .ref m26, .ref m27, .ref m28, .int s29, .ref m30, .int s31, .int s32, .int s33, .int s34, .int s35, .ref m36, .ref m37, .ref m38, .ref m39, .long s40])), (m7, ai g 5 RK)] := hD
  refine lv_iconst (v := (-1)) hx hb dX9_isBegun_4 (by decide) ?_
  refine lv_icmp_eq (tgt := 16) hx hb dX9_isBegun_5 (by decide) (fun c5_3 => ?_) (fun c5_3 => ?_)
  · skip
    refine lv_iconst (v := 0) hx hb dX9_isBegun_16 (by decide) ?_
    refine W.widen (k := 0) (n := 0) (Nat.le_of_ble_eq_true rfl) (Nat.le_of_ble_eq_true rfl) ?_
    exact k_rz hx hb hr hlocks hS hP hD rfl ⟨y, x3, x4, x5, RK, rfl, Or.inl ⟨rfl, Or.inl c5_3, rfl, rfl, rfl, rfl, rfl⟩⟩ dX9_isBegun_17
  · skip
    refine lv_aload_n hx hb dX9_isBegun_8 rfl (lv_at hl 0 rfl) ?_
    refine va_get (D := g.1) (ci := 9) (v := .int (nI y)) (C := RX9) (T := TX9) (N := 41) hx hb hts q_X9_isBegun_g_f9 hown hE.1 hP 0 rfl rfl 2 (by decide) (hts (.fieldLink RX9 115 "SoundLawsModel" "readSets" "I") q_X9_isBegun_g_1) (fun _ h9 => h9) rfl dX9_isBegun_9 ?_
    refine lv_iconst (v := 5) hx hb dX9_isBegun_12 (by decide) ?_
    refine lv_icmp_ne (tgt := 18) hx hb dX9_isBegun_13 (by decide) (fun c13_4 => ?_) (fun c13_4 => ?_)
    · skip
      have hy5 : y < 5 := by have q : ¬ y = 5 := (fun q => c13_4 (by rw [q]; rfl)); omega
      refine lv_aload_n hx hb dX9_isBegun_18 rfl (lv_at hl 0 rfl) ?_
      refine va_get (D := g.1) (ci := 9) (v := .ref m7) (C := RX9) (T := TX9) (N := 41) hx hb hts q_X9_isBegun_g_f9 hown hE.1 hP 0 rfl rfl 7 (by decide) (hts (.fieldLink RX9 13 "SoundLawsModel" "readKinds" "[I") q_X9_isBegun_g_2) (fun _ h9 => h9) rfl dX9_isBegun_19 ?_
      refine lv_aload_n hx hb dX9_isBegun_22 rfl (lv_at hl 0 rfl) ?_
      refine va_get (D := g.1) (ci := 9) (v := .int (nI y)) (C := RX9) (T := TX9) (N := 41) hx hb hts q_X9_isBegun_g_f9 hown hE.1 hP 0 rfl rfl 2 (by decide) (hts (.fieldLink RX9 115 "SoundLawsModel" "readSets" "I") q_X9_isBegun_g_1) (fun _ h9 => h9) rfl dX9_isBegun_23 ?_
      refine lv_iload_n hx hb dX9_isBegun_26 rfl (lv_at hl 1 rfl) ?_
      refine k_ci (wr := [(k0, .inr (9, [.ref m0, .int s1, .int (nI y), .int x3, .int x4, .int x5, .int s6, .ref m7, .ref m8, .ref m9, .int s10, .int s11, .int s12, .ref m13, .ref m14, .ref m15, .int s16, .ref m17, .ref m18, .ref m19, .ref m20, .ref m21, .ref m22, .ref m23, .ref m24, .ref m25, .ref m26, .ref m27, .ref m28, .int s29, .ref m30, .int s31, .int s32, .int s33, .int s34, .int s35, .ref m36, .ref m37, .ref m38, .ref m39, .long s40])), (m7, ai g 5 RK)]) hP hD hS hA [] [0, 1] rfl rfl (by decide) (by decide) (va_runS (As := [.int p1]) (rest := [.int (nI y), .ref m7]) ⟨hx, hb, hml, hown, hts⟩ (c_X9_kindBy_g l g p1  H.size) (va_cwS 1 hts gX9_isBegun_X9_kindBy rfl rfl rfl (by decide +kernel) ⟨Nat.le_of_ble_eq_true rfl, Nat.le_of_ble_eq_true rfl⟩) (k_preS hE hZ hP hD hS hA [] rfl (by decide)) rfl rfl hl.1 rfl (lv_room (Nat.le_of_ble_eq_true rfl)) dX9_isBegun_27 ⟨Nat.le_of_ble_eq_true rfl, Nat.le_of_ble_eq_true rfl⟩) (fun r_5 w1 H locs hw hP hD hS => ?_)
      obtain ⟨rfl, rfl⟩ := hw
      have hP : va_P g.1 vwCl [(k0, .inr (9, [.ref m0, .int s1, .int (nI y), .int x3, .int x4, .int x5, .int s6, .ref m7, .ref m8, .ref m9, .int s10, .int s11, .int s12, .ref m13, .ref m14, .ref m15, .int s16, .ref m17, .ref m18, .ref m19, .ref m20, .ref m21, .ref m22, .ref m23, .ref m24, .ref m25, .ref m26, .ref m27, .ref m28, .int s29, .ref m30, .int s31, .int s32, .int s33, .int s34, .int s35, .ref m36, .ref m37, .ref m38, .ref m39, .long s40])), (m7, ai g 5 RK)] H := hP
      have hD : va_D A [(k0, .inr (9, [.ref m0, .int s1, .int (nI y), .int x3, .int x4, .int x5, .int s6, .ref m7, .ref m8, .ref m9, .int s10, .int s11, .int s12, .ref m13, .ref m14, .ref m15, .int s16, .ref m17, .ref m18, .ref m19, .ref m20, .ref m21, .ref m22, .ref m23, .ref m24, .ref m25, .ref m26, .ref m27, .ref m28, .int s29, .ref m30, .int s31, .int s32, .int s33, .int s34, .int s35, .ref m36, .ref m37, .ref m38, .ref m39, .long s40])), (m7, ai g 5 RK)] := hD
      refine k_ast (x := (kby p1)) y rfl (by omega) hx hb hE hP hD hS 1 rfl (by decide) dX9_isBegun_30 (fun H locs hP hD hS => ?_)
      have hP : va_P g.1 vwCl [(k0, .inr (9, [.ref m0, .int s1, .int (nI y), .int x3, .int x4, .int x5, .int s6, .ref m7, .ref m8, .ref m9, .int s10, .int s11, .int s12, .ref m13, .ref m14, .ref m15, .int s16, .ref m17, .ref m18, .ref m19, .ref m20, .ref m21, .ref m22, .ref m23, .ref m24, .ref m25, .ref m26, .ref m27, .ref m28, .int s29, .ref m30, .int s31, .int s32, .int s33, .int s34, .int s35, .ref m36, .ref m37, .ref m38, .ref m39, .long s40])), (m7, ai g 5 (upd RK y (kby p1)))] H := hP
      have hD : va_D A [(k0, .inr (9, [.ref m0, .int s1, .int (nI y), .int x3, .int x4, .int x5, .int s6, .ref m7, .ref m8, .ref m9, .int s10, .int s11, .int s12, .ref m13, .ref m14, .ref m15, .int s16, .ref m17, .ref m18, .ref m19, .ref m20, .ref m21, .ref m22, .ref m23, .ref m24, .ref m25, .ref m26, .ref m27, .ref m28, .int s29, .ref m30, .int s31, .int s32, .int s33, .int s34, .int s35, .ref m36, .ref m37, .ref m38, .ref m39, .long s40])), (m7, ai g 5 (upd RK y (kby p1)))] := hD
      refine lv_aload_n hx hb dX9_isBegun_31 rfl (lv_at hl 0 rfl) ?_
      refine lv_dup hx hb dX9_isBegun_32 rfl ?_
      refine va_get (D := g.1) (ci := 9) (v := .int (nI y)) (C := RX9) (T := TX9) (N := 41) hx hb hts q_X9_isBegun_g_f9 hown hE.1 hP 0 rfl rfl 2 (by decide) (hts (.fieldLink RX9 115 "SoundLawsModel" "readSets" "I") q_X9_isBegun_g_1) (fun _ h9 => h9) rfl dX9_isBegun_33 ?_
      refine lv_iconst (v := 1) hx hb dX9_isBegun_36 (by decide) ?_
      refine lv_iadd hx hb dX9_isBegun_37 ?_
      refine lv_topi (fun x_7 ex_7 => ?_)
      obtain rfl : x_7 = nI (y + 1) := by rw [ex_7]; exact nI_1 y
      refine va_put (D := g.1) (ci := 9) (v := .int (nI (y + 1))) (ty := .int) (C := RX9) (T := TX9) (N := 41) hx hb hts q_X9_isBegun_g_f9 tyX9 tyX9_ok nmX9 hown hE.1 hP hD hS 0 rfl rfl 2 (by decide) (hts (.fieldLink RX9 115 "SoundLawsModel" "readSets" "I") q_X9_isBegun_g_1) (fun _ h9 => h9) rfl (by decide +kernel) rfl rfl (Nat.le_of_ble_eq_true rfl) dX9_isBegun_38 (fun H locs hP hD hS => ?_)
      have hP : va_P g.1 vwCl [(k0, .inr (9, [.ref m0, .int s1, .int (nI (y + 1)), .int x3, .int x4, .int x5, .int s6, .ref m7, .ref m8, .ref m9, .int s10, .int s11, .int s12, .ref m13, .ref m14, .ref m15, .int s16, .ref m17, .ref m18, .ref m19, .ref m20, .ref m21, .ref m22, .ref m23, .ref m24, .ref m25, .ref m26, .ref m27, .ref m28, .int s29, .ref m30, .int s31, .int s32, .int s33, .int s34, .int s35, .ref m36, .ref m37, .ref m38, .ref m39, .long s40])), (m7, ai g 5 (upd RK y (kby p1)))] H := hP
      have hD : va_D A [(k0, .inr (9, [.ref m0, .int s1, .int (nI (y + 1)), .int x3, .int x4, .int x5, .int s6, .ref m7, .ref m8, .ref m9, .int s10, .int s11, .int s12, .ref m13, .ref m14, .ref m15, .int s16, .ref m17, .ref m18, .ref m19, .ref m20, .ref m21, .ref m22, .ref m23, .ref m24, .ref m25, .ref m26, .ref m27, .ref m28, .int s29, .ref m30, .int s31, .int s32, .int s33, .int s34, .int s35, .ref m36, .ref m37, .ref m38, .ref m39, .long s40])), (m7, ai g 5 (upd RK y (kby p1)))] := hD
      refine lv_aload_n hx hb dX9_isBegun_41 rfl (lv_at hl 0 rfl) ?_
      refine lv_iconst (v := 1) hx hb dX9_isBegun_42 (by decide) ?_
      refine va_put (D := g.1) (ci := 9) (v := .int 1) (ty := .int) (C := RX9) (T := TX9) (N := 41) hx hb hts q_X9_isBegun_g_f9 tyX9 tyX9_ok nmX9 hown hE.1 hP hD hS 0 rfl rfl 3 (by decide) (hts (.fieldLink RX9 98 "SoundLawsModel" "readWords" "I") q_X9_isBegun_g_3) (fun _ h9 => h9) rfl (by decide +kernel) rfl rfl (Nat.le_of_ble_eq_true rfl) dX9_isBegun_43 (fun H locs hP hD hS => ?_)
      have hP : va_P g.1 vwCl [(k0, .inr (9, [.ref m0, .int s1, .int (nI (y + 1)), .int 1, .int x4, .int x5, .int s6, .ref m7, .ref m8, .ref m9, .int s10, .int s11, .int s12, .ref m13, .ref m14, .ref m15, .int s16, .ref m17, .ref m18, .ref m19, .ref m20, .ref m21, .ref m22, .ref m23, .ref m24, .ref m25, .ref m26, .ref m27, .ref m28, .int s29, .ref m30, .int s31, .int s32, .int s33, .int s34, .int s35, .ref m36, .ref m37, .ref m38, .ref m39, .long s40])), (m7, ai g 5 (upd RK y (kby p1)))] H := hP
      have hD : va_D A [(k0, .inr (9, [.ref m0, .int s1, .int (nI (y + 1)), .int 1, .int x4, .int x5, .int s6, .ref m7, .ref m8, .ref m9, .int s10, .int s11, .int s12, .ref m13, .ref m14, .ref m15, .int s16, .ref m17, .ref m18, .ref m19, .ref m20, .ref m21, .ref m22, .ref m23, .ref m24, .ref m25, .ref m26, .ref m27, .ref m28, .int s29, .ref m30, .int s31, .int s32, .int s33, .int s34, .int s35, .ref m36, .ref m37, .ref m38, .ref m39, .long s40])), (m7, ai g 5 (upd RK y (kby p1)))] := hD
      refine lv_aload_n hx hb dX9_isBegun_46 rfl (lv_at hl 0 rfl) ?_
      refine lv_iconst (v := 0) hx hb dX9_isBegun_47 (by decide) ?_
      refine va_put (D := g.1) (ci := 9) (v := .int 0) (ty := .int) (C := RX9) (T := TX9) (N := 41) hx hb hts q_X9_isBegun_g_f9 tyX9 tyX9_ok nmX9 hown hE.1 hP hD hS 0 rfl rfl 4 (by decide) (hts (.fieldLink RX9 95 "SoundLawsModel" "readHere" "I") q_X9_isBegun_g_4) (fun _ h9 => h9) rfl (by decide +kernel) rfl rfl (Nat.le_of_ble_eq_true rfl) dX9_isBegun_48 (fun H locs hP hD hS => ?_)
      have hP : va_P g.1 vwCl [(k0, .inr (9, [.ref m0, .int s1, .int (nI (y + 1)), .int 1, .int 0, .int x5, .int s6, .ref m7, .ref m8, .ref m9, .int s10, .int s11, .int s12, .ref m13, .ref m14, .ref m15, .int s16, .ref m17, .ref m18, .ref m19, .ref m20, .ref m21, .ref m22, .ref m23, .ref m24, .ref m25, .ref m26, .ref m27, .ref m28, .int s29, .ref m30, .int s31, .int s32, .int s33, .int s34, .int s35, .ref m36, .ref m37, .ref m38, .ref m39, .long s40])), (m7, ai g 5 (upd RK y (kby p1)))] H := hP
      have hD : va_D A [(k0, .inr (9, [.ref m0, .int s1, .int (nI (y + 1)), .int 1, .int 0, .int x5, .int s6, .ref m7, .ref m8, .ref m9, .int s10, .int s11, .int s12, .ref m13, .ref m14, .ref m15, .int s16, .ref m17, .ref m18, .ref m19, .ref m20, .ref m21, .ref m22, .ref m23, .ref m24, .ref m25, .ref m26, .ref m27, .ref m28, .int s29, .ref m30, .int s31, .int s32, .int s33, .int s34, .int s35, .ref m36, .ref m37, .ref m38, .ref m39, .long s40])), (m7, ai g 5 (upd RK y (kby p1)))] := hD
      refine lv_aload_n hx hb dX9_isBegun_51 rfl (lv_at hl 0 rfl) ?_
      refine lv_iconst (v := 0) hx hb dX9_isBegun_52 (by decide) ?_
      refine va_put (D := g.1) (ci := 9) (v := .int 0) (ty := .int) (C := RX9) (T := TX9) (N := 41) hx hb hts q_X9_isBegun_g_f9 tyX9 tyX9_ok nmX9 hown hE.1 hP hD hS 0 rfl rfl 5 (by decide) (hts (.fieldLink RX9 101 "SoundLawsModel" "readLong" "I") q_X9_isBegun_g_5) (fun _ h9 => h9) rfl (by decide +kernel) rfl rfl (Nat.le_of_ble_eq_true rfl) dX9_isBegun_53 (fun H locs hP hD hS => ?_)
      have hP : va_P g.1 vwCl [(k0, .inr (9, [.ref m0, .int s1, .int (nI (y + 1)), .int 1, .int 0, .int 0, .int s6, .ref m7, .ref m8, .ref m9, .int s10, .int s11, .int s12, .ref m13, .ref m14, .ref m15, .int s16, .ref m17, .ref m18, .ref m19, .ref m20, .ref m21, .ref m22, .ref m23, .ref m24, .ref m25, .ref m26, .ref m27, .ref m28, .int s29, .ref m30, .int s31, .int s32, .int s33, .int s34, .int s35, .ref m36, .ref m37, .ref m38, .ref m39, .long s40])), (m7, ai g 5 (upd RK y (kby p1)))] H := hP
      have hD : va_D A [(k0, .inr (9, [.ref m0, .int s1, .int (nI (y + 1)), .int 1, .int 0, .int 0, .int s6, .ref m7, .ref m8, .ref m9, .int s10, .int s11, .int s12, .ref m13, .ref m14, .ref m15, .int s16, .ref m17, .ref m18, .ref m19, .ref m20, .ref m21, .ref m22, .ref m23, .ref m24, .ref m25, .ref m26, .ref m27, .ref m28, .int s29, .ref m30, .int s31, .int s32, .int s33, .int s34, .int s35, .ref m36, .ref m37, .ref m38, .ref m39, .long s40])), (m7, ai g 5 (upd RK y (kby p1)))] := hD
      refine lv_iconst (v := 1) hx hb dX9_isBegun_56 (by decide) ?_
      refine W.widen (k := 0) (n := 0) (Nat.le_of_ble_eq_true rfl) (Nat.le_of_ble_eq_true rfl) ?_
      exact k_rz hx hb hr hlocks hS hP hD rfl ⟨(y + 1), 1, 0, 0, (upd RK y (kby p1)), rfl, Or.inr ⟨rfl, c5_3, (fun q => c13_4 (by rw [q]; rfl)), rfl, rfl, rfl, rfl, rfl⟩⟩ dX9_isBegun_57
    · skip
      refine lv_iconst (v := 0) hx hb dX9_isBegun_16 (by decide) ?_
      refine W.widen (k := 0) (n := 0) (Nat.le_of_ble_eq_true rfl) (Nat.le_of_ble_eq_true rfl) ?_
      exact k_rz hx hb hr hlocks hS hP hD rfl ⟨y, x3, x4, x5, RK, rfl, Or.inl ⟨rfl, Or.inr ((nI_eq (b := 5) (by omega) (by decide)).mp c13_4), rfl, rfl, rfl, rfl, rfl⟩⟩ dX9_isBegun_17
def po_X9_isSlash_g (g : GG) (k0 : Nat) (m0 : Nat) (s1 : Int32) (s2 : Int32) (m7 : Nat) (m8 : Nat) (m9 : Nat) (s10 : Int32) (s11 : Int32) (s12 : Int32) (m13 : Nat) (m14 : Nat) (m15 : Nat) (s16 : Int32) (m17 : Nat) (m18 : Nat) (m19 : Nat) (m20 : Nat) (m21 : Nat) (m22 : Nat) (m23 : Nat) (m24 : Nat) (m25 : Nat) (m26 : Nat) (m27 : Nat) (m28 : Nat) (s29 : Int32) (m30 : Nat) (s31 : Int32) (s32 : Int32) (s33 : Int32) (s34 : Int32) (s35 : Int32) (m36 : Nat) (m37 : Nat) (m38 : Nat) (m39 : Nat) (s40 : Int64) (wd : Nat) (n : Nat) (yt : Nat) (x5 : Int32) : Int32 → va_W → Prop := fun (r : Int32) w => ∃ (x5b : Int32), w = [(k0, .inr (9, [.ref m0, .int s1, .int s2, .int (nI (wd + 1)), .int 0, .int x5b, .int (nI yt), .ref m7, .ref m8, .ref m9, .int s10, .int s11, .int s12, .ref m13, .ref m14, .ref m15, .int s16, .ref m17, .ref m18, .ref m19, .ref m20, .ref m21, .ref m22, .ref m23, .ref m24, .ref m25, .ref m26, .ref m27, .ref m28, .int s29, .ref m30, .int s31, .int s32, .int s33, .int s34, .int s35, .ref m36, .ref m37, .ref m38, .ref m39, .long s40]))] ∧ (msl wd n x5 yt = r) ∧ ((if wd = 1 then nI n else x5) = x5b)
theorem q_X9_isSlash_g_f9 : ∀ w ∈ u_ws RX9 TX9 41, w ∈ wsX9_isSlash := by decide +kernel
theorem q_X9_isSlash_g_1 : (Cond.fieldLink RX9 98 "SoundLawsModel" "readWords" "I") ∈ wsX9_isSlash := by decide +kernel
theorem q_X9_isSlash_g_2 : (Cond.fieldLink RX9 101 "SoundLawsModel" "readLong" "I") ∈ wsX9_isSlash := by decide +kernel
theorem q_X9_isSlash_g_3 : (Cond.fieldLink RX9 95 "SoundLawsModel" "readHere" "I") ∈ wsX9_isSlash := by decide +kernel
theorem q_X9_isSlash_g_4 : (Cond.fieldLink RX9 108 "SoundLawsModel" "readTongues" "I") ∈ wsX9_isSlash := by decide +kernel
set_option maxHeartbeats 1500000 in
set_option maxRecDepth 100000 in
theorem c_X9_isSlash_g (l : Launch) (g : GG) (k0 : Nat) (m0 : Nat) (s1 : Int32) (s2 : Int32) (m7 : Nat) (m8 : Nat) (m9 : Nat) (s10 : Int32) (s11 : Int32) (s12 : Int32) (m13 : Nat) (m14 : Nat) (m15 : Nat) (s16 : Int32) (m17 : Nat) (m18 : Nat) (m19 : Nat) (m20 : Nat) (m21 : Nat) (m22 : Nat) (m23 : Nat) (m24 : Nat) (m25 : Nat) (m26 : Nat) (m27 : Nat) (m28 : Nat) (s29 : Int32) (m30 : Nat) (s31 : Int32) (s32 : Int32) (s33 : Int32) (s34 : Int32) (s35 : Int32) (m36 : Nat) (m37 : Nat) (m38 : Nat) (m39 : Nat) (s40 : Int64) (wd : Nat) (n : Nat) (yt : Nat) (x5 : Int32) (hw : wd < 6) (hn : n < 6) (hyt : yt ≤ 4) (sz : Nat) : MetI l yX9_isSlash wsX9_isSlash ({ frames := 1, cells := 0, slots := 0, locals := 20 }) g [.ref k0] [(k0, .inr (9, [.ref m0, .int s1, .int s2, .int (nI wd), .int (nI n), .int x5, .int (nI yt), .ref m7, .ref m8, .ref m9, .int s10, .int s11, .int s12, .ref m13, .ref m14, .ref m15, .int s16, .ref m17, .ref m18, .ref m19, .ref m20, .ref m21, .ref m22, .ref m23, .ref m24, .ref m25, .ref m26, .ref m27, .ref m28, .int s29, .ref m30, .int s31, .int s32, .int s33, .int s34, .int s35, .ref m36, .ref m37, .ref m38, .ref m39, .long s40]))] sz (po_X9_isSlash_g g k0 m0 s1 s2 m7 m8 m9 s10 s11 s12 m13 m14 m15 s16 m17 m18 m19 m20 m21 m22 m23 m24 m25 m26 m27 m28 s29 m30 s31 s32 s33 s34 s35 m36 m37 m38 m39 s40 wd n yt x5) 0 0 := by
  refine k_of (l := l) (y := yX9_isSlash) (ws := wsX9_isSlash) (rm := { frames := 1, cells := 0, slots := 0, locals := 20 }) (mc := 0) (ms := 0) (av := [.ref k0]) (g := g) (wc := [(k0, .inr (9, [.ref m0, .int s1, .int s2, .int (nI wd), .int (nI n), .int x5, .int (nI yt), .ref m7, .ref m8, .ref m9, .int s10, .int s11, .int s12, .ref m13, .ref m14, .ref m15, .int s16, .ref m17, .ref m18, .ref m19, .ref m20, .ref m21, .ref m22, .ref m23, .ref m24, .ref m25, .ref m26, .ref m27, .ref m28, .int s29, .ref m30, .int s31, .int s32, .int s33, .int s34, .int s35, .ref m36, .ref m37, .ref m38, .ref m39, .long s40]))]) (Qc := fun A => va_Qi (po_X9_isSlash_g g k0 m0 s1 s2 m7 m8 m9 s10 s11 s12 m13 m14 m15 s16 m17 m18 m19 m20 m21 m22 m23 m24 m25 m26 m27 m28 s29 m30 s31 s32 s33 s34 s35 m36 m37 m38 m39 s40 wd n yt x5) (bk g A) A) (cc := cX9_isSlash) (maxL := 2) (ret := (some .boolean)) (by decide) rfl (Nat.le_of_ble_eq_true rfl) ?_ sz
  intro p e s m below meth c hx hb hr hts hown hlocks hnm hml A hA hE hZ hP hD hS ls hl
  have hown : s.vm.findClass RX9 = some m.cls := hown
  have hl : lv_has ls 2 [(0, .ref k0)] := hl
  refine lv_aload_n hx hb dX9_isSlash_0 rfl (lv_at hl 0 rfl) ?_
  refine k_ci (wr := []) hP hD hS hA [0] [] rfl rfl (by decide) (by decide) (va_runV (As := []) (rest := []) ⟨hx, hb, hml, hown, hts⟩ (c_X9_isWordWhole_g l g k0 m0 s1 s2 (nI yt) m7 m8 m9 s10 s11 s12 m13 m14 m15 s16 m17 m18 m19 m20 m21 m22 m23 m24 m25 m26 m27 m28 s29 m30 s31 s32 s33 s34 s35 m36 m37 m38 m39 s40 wd n x5 (by first | assumption | omega) (by first | assumption | omega) s.heap.size) (cwV 0 hts gX9_isSlash_X9_isWordWhole rfl rfl rfl (by decide +kernel) ⟨Nat.le_of_ble_eq_true rfl, Nat.le_of_ble_eq_true rfl⟩) (k_preV hE hZ hP hD hS hA [0] rfl (by decide) (va_recv hE.1 hP (ci := 9) (q0 := 0) rfl rfl)) rfl rfl hl.1 rfl (lv_room (Nat.le_of_ble_eq_true rfl)) dX9_isSlash_1 ⟨Nat.le_of_ble_eq_true rfl, Nat.le_of_ble_eq_true rfl⟩) (fun r_1 w1 H locs hw hP hD hS => ?_)
  obtain ⟨rfl, rfl⟩ := hw
  have hP : va_P g.1 vwCl [(k0, .inr (9, [.ref m0, .int s1, .int s2, .int (nI wd), .int (nI n), .int x5, .int (nI yt), .ref m7, .ref m8, .ref m9, .int s10, .int s11, .int s12, .ref m13, .ref m14, .ref m15, .int s16, .ref m17, .ref m18, .ref m19, .ref m20, .ref m21, .ref m22, .ref m23, .ref m24, .ref m25, .ref m26, .ref m27, .ref m28, .int s29, .ref m30, .int s31, .int s32, .int s33, .int s34, .int s35, .ref m36, .ref m37, .ref m38, .ref m39, .long s40]))] H := hP
  have hD : va_D A [(k0, .inr (9, [.ref m0, .int s1, .int s2, .int (nI wd), .int (nI n), .int x5, .int (nI yt), .ref m7, .ref m8, .ref m9, .int s10, .int s11, .int s12, .ref m13, .ref m14, .ref m15, .int s16, .ref m17, .ref m18, .ref m19, .ref m20, .ref m21, .ref m22, .ref m23, .ref m24, .ref m25, .ref m26, .ref m27, .ref m28, .int s29, .ref m30, .int s31, .int s32, .int s33, .int s34, .int s35, .ref m36, .ref m37, .ref m38, .ref m39, .long s40]))] := hD
  refine lv_if_eq (tgt := 33) hx hb dX9_isSlash_4 (by decide) (fun c4_3 => ?_) (fun c4_3 => ?_)
  · skip
    refine lv_iconst (v := 0) hx hb dX9_isSlash_33 (by decide) ?_
    refine lv_istore_n (lv' := [(1, .int 0), (0, .ref k0)]) hx hb dX9_isSlash_34 rfl hl (by decide) rfl (fun ls hl => ?_)
    refine lv_aload_n hx hb dX9_isSlash_35 rfl (lv_at hl 1 rfl) ?_
    refine lv_aload_n hx hb dX9_isSlash_36 rfl (lv_at hl 1 rfl) ?_
    refine va_get (D := g.1) (ci := 9) (v := .int (nI wd)) (C := RX9) (T := TX9) (N := 41) hx hb hts q_X9_isSlash_g_f9 hown hE.1 hP 0 rfl rfl 3 (by decide) (hts (.fieldLink RX9 98 "SoundLawsModel" "readWords" "I") q_X9_isSlash_g_1) (fun _ h9 => h9) rfl dX9_isSlash_37 ?_
    refine lv_iconst (v := 1) hx hb dX9_isSlash_40 (by decide) ?_
    refine lv_icmp_ne (tgt := 51) hx hb dX9_isSlash_41 (by decide) (fun c41_4 => ?_) (fun c41_4 => ?_)
    · skip
      refine lv_aload_n hx hb dX9_isSlash_51 rfl (lv_at hl 1 rfl) ?_
      refine va_get (D := g.1) (ci := 9) (v := .int x5) (C := RX9) (T := TX9) (N := 41) hx hb hts q_X9_isSlash_g_f9 hown hE.1 hP 0 rfl rfl 5 (by decide) (hts (.fieldLink RX9 101 "SoundLawsModel" "readLong" "I") q_X9_isSlash_g_2) (fun _ h9 => h9) rfl dX9_isSlash_52 ?_
      refine va_put (D := g.1) (ci := 9) (v := .int x5) (ty := .int) (C := RX9) (T := TX9) (N := 41) hx hb hts q_X9_isSlash_g_f9 tyX9 tyX9_ok nmX9 hown hE.1 hP hD hS 0 rfl rfl 5 (by decide) (hts (.fieldLink RX9 101 "SoundLawsModel" "readLong" "I") q_X9_isSlash_g_2) (fun _ h9 => h9) rfl (by decide +kernel) rfl rfl (Nat.le_of_ble_eq_true rfl) dX9_isSlash_55 (fun H locs hP hD hS => ?_)
      have hP : va_P g.1 vwCl [(k0, .inr (9, [.ref m0, .int s1, .int s2, .int (nI wd), .int (nI n), .int x5, .int (nI yt), .ref m7, .ref m8, .ref m9, .int s10, .int s11, .int s12, .ref m13, .ref m14, .ref m15, .int s16, .ref m17, .ref m18, .ref m19, .ref m20, .ref m21, .ref m22, .ref m23, .ref m24, .ref m25, .ref m26, .ref m27, .ref m28, .int s29, .ref m30, .int s31, .int s32, .int s33, .int s34, .int s35, .ref m36, .ref m37, .ref m38, .ref m39, .long s40]))] H := hP
      have hD : va_D A [(k0, .inr (9, [.ref m0, .int s1, .int s2, .int (nI wd), .int (nI n), .int x5, .int (nI yt), .ref m7, .ref m8, .ref m9, .int s10, .int s11, .int s12, .ref m13, .ref m14, .ref m15, .int s16, .ref m17, .ref m18, .ref m19, .ref m20, .ref m21, .ref m22, .ref m23, .ref m24, .ref m25, .ref m26, .ref m27, .ref m28, .int s29, .ref m30, .int s31, .int s32, .int s33, .int s34, .int s35, .ref m36, .ref m37, .ref m38, .ref m39, .long s40]))] := hD
      refine lv_aload_n hx hb dX9_isSlash_58 rfl (lv_at hl 1 rfl) ?_
      refine lv_dup hx hb dX9_isSlash_59 rfl ?_
      refine va_get (D := g.1) (ci := 9) (v := .int (nI wd)) (C := RX9) (T := TX9) (N := 41) hx hb hts q_X9_isSlash_g_f9 hown hE.1 hP 0 rfl rfl 3 (by decide) (hts (.fieldLink RX9 98 "SoundLawsModel" "readWords" "I") q_X9_isSlash_g_1) (fun _ h9 => h9) rfl dX9_isSlash_60 ?_
      refine lv_iconst (v := 1) hx hb dX9_isSlash_63 (by decide) ?_
      refine lv_iadd hx hb dX9_isSlash_64 ?_
      refine lv_topi (fun x_5 ex_5 => ?_)
      obtain rfl : x_5 = nI (wd + 1) := by rw [ex_5]; exact nI_1 wd
      refine va_put (D := g.1) (ci := 9) (v := .int (nI (wd + 1))) (ty := .int) (C := RX9) (T := TX9) (N := 41) hx hb hts q_X9_isSlash_g_f9 tyX9 tyX9_ok nmX9 hown hE.1 hP hD hS 0 rfl rfl 3 (by decide) (hts (.fieldLink RX9 98 "SoundLawsModel" "readWords" "I") q_X9_isSlash_g_1) (fun _ h9 => h9) rfl (by decide +kernel) rfl rfl (Nat.le_of_ble_eq_true rfl) dX9_isSlash_65 (fun H locs hP hD hS => ?_)
      have hP : va_P g.1 vwCl [(k0, .inr (9, [.ref m0, .int s1, .int s2, .int (nI (wd + 1)), .int (nI n), .int x5, .int (nI yt), .ref m7, .ref m8, .ref m9, .int s10, .int s11, .int s12, .ref m13, .ref m14, .ref m15, .int s16, .ref m17, .ref m18, .ref m19, .ref m20, .ref m21, .ref m22, .ref m23, .ref m24, .ref m25, .ref m26, .ref m27, .ref m28, .int s29, .ref m30, .int s31, .int s32, .int s33, .int s34, .int s35, .ref m36, .ref m37, .ref m38, .ref m39, .long s40]))] H := hP
      have hD : va_D A [(k0, .inr (9, [.ref m0, .int s1, .int s2, .int (nI (wd + 1)), .int (nI n), .int x5, .int (nI yt), .ref m7, .ref m8, .ref m9, .int s10, .int s11, .int s12, .ref m13, .ref m14, .ref m15, .int s16, .ref m17, .ref m18, .ref m19, .ref m20, .ref m21, .ref m22, .ref m23, .ref m24, .ref m25, .ref m26, .ref m27, .ref m28, .int s29, .ref m30, .int s31, .int s32, .int s33, .int s34, .int s35, .ref m36, .ref m37, .ref m38, .ref m39, .long s40]))] := hD
      refine lv_aload_n hx hb dX9_isSlash_68 rfl (lv_at hl 1 rfl) ?_
      refine lv_iconst (v := 0) hx hb dX9_isSlash_69 (by decide) ?_
      refine va_put (D := g.1) (ci := 9) (v := .int 0) (ty := .int) (C := RX9) (T := TX9) (N := 41) hx hb hts q_X9_isSlash_g_f9 tyX9 tyX9_ok nmX9 hown hE.1 hP hD hS 0 rfl rfl 4 (by decide) (hts (.fieldLink RX9 95 "SoundLawsModel" "readHere" "I") q_X9_isSlash_g_3) (fun _ h9 => h9) rfl (by decide +kernel) rfl rfl (Nat.le_of_ble_eq_true rfl) dX9_isSlash_70 (fun H locs hP hD hS => ?_)
      have hP : va_P g.1 vwCl [(k0, .inr (9, [.ref m0, .int s1, .int s2, .int (nI (wd + 1)), .int 0, .int x5, .int (nI yt), .ref m7, .ref m8, .ref m9, .int s10, .int s11, .int s12, .ref m13, .ref m14, .ref m15, .int s16, .ref m17, .ref m18, .ref m19, .ref m20, .ref m21, .ref m22, .ref m23, .ref m24, .ref m25, .ref m26, .ref m27, .ref m28, .int s29, .ref m30, .int s31, .int s32, .int s33, .int s34, .int s35, .ref m36, .ref m37, .ref m38, .ref m39, .long s40]))] H := hP
      have hD : va_D A [(k0, .inr (9, [.ref m0, .int s1, .int s2, .int (nI (wd + 1)), .int 0, .int x5, .int (nI yt), .ref m7, .ref m8, .ref m9, .int s10, .int s11, .int s12, .ref m13, .ref m14, .ref m15, .int s16, .ref m17, .ref m18, .ref m19, .ref m20, .ref m21, .ref m22, .ref m23, .ref m24, .ref m25, .ref m26, .ref m27, .ref m28, .int s29, .ref m30, .int s31, .int s32, .int s33, .int s34, .int s35, .ref m36, .ref m37, .ref m38, .ref m39, .long s40]))] := hD
      refine lv_iload_n hx hb dX9_isSlash_73 rfl (lv_at hl 0 rfl) ?_
      refine W.widen (k := 0) (n := 0) (Nat.le_of_ble_eq_true rfl) (Nat.le_of_ble_eq_true rfl) ?_
      exact k_rz hx hb hr hlocks hS hP hD rfl ⟨x5, rfl, (by unfold msl; rw [if_pos c4_3]), (if_neg (fun q => c41_4 (by rw [q]; rfl)))⟩ dX9_isSlash_74
    · skip
      refine lv_aload_n hx hb dX9_isSlash_44 rfl (lv_at hl 1 rfl) ?_
      refine va_get (D := g.1) (ci := 9) (v := .int (nI n)) (C := RX9) (T := TX9) (N := 41) hx hb hts q_X9_isSlash_g_f9 hown hE.1 hP 0 rfl rfl 4 (by decide) (hts (.fieldLink RX9 95 "SoundLawsModel" "readHere" "I") q_X9_isSlash_g_3) (fun _ h9 => h9) rfl dX9_isSlash_45 ?_
      refine lv_goto (tgt := 55) hx hb dX9_isSlash_48 (by decide) ?_
      refine va_put (D := g.1) (ci := 9) (v := .int (nI n)) (ty := .int) (C := RX9) (T := TX9) (N := 41) hx hb hts q_X9_isSlash_g_f9 tyX9 tyX9_ok nmX9 hown hE.1 hP hD hS 0 rfl rfl 5 (by decide) (hts (.fieldLink RX9 101 "SoundLawsModel" "readLong" "I") q_X9_isSlash_g_2) (fun _ h9 => h9) rfl (by decide +kernel) rfl rfl (Nat.le_of_ble_eq_true rfl) dX9_isSlash_55 (fun H locs hP hD hS => ?_)
      have hP : va_P g.1 vwCl [(k0, .inr (9, [.ref m0, .int s1, .int s2, .int (nI wd), .int (nI n), .int (nI n), .int (nI yt), .ref m7, .ref m8, .ref m9, .int s10, .int s11, .int s12, .ref m13, .ref m14, .ref m15, .int s16, .ref m17, .ref m18, .ref m19, .ref m20, .ref m21, .ref m22, .ref m23, .ref m24, .ref m25, .ref m26, .ref m27, .ref m28, .int s29, .ref m30, .int s31, .int s32, .int s33, .int s34, .int s35, .ref m36, .ref m37, .ref m38, .ref m39, .long s40]))] H := hP
      have hD : va_D A [(k0, .inr (9, [.ref m0, .int s1, .int s2, .int (nI wd), .int (nI n), .int (nI n), .int (nI yt), .ref m7, .ref m8, .ref m9, .int s10, .int s11, .int s12, .ref m13, .ref m14, .ref m15, .int s16, .ref m17, .ref m18, .ref m19, .ref m20, .ref m21, .ref m22, .ref m23, .ref m24, .ref m25, .ref m26, .ref m27, .ref m28, .int s29, .ref m30, .int s31, .int s32, .int s33, .int s34, .int s35, .ref m36, .ref m37, .ref m38, .ref m39, .long s40]))] := hD
      refine lv_aload_n hx hb dX9_isSlash_58 rfl (lv_at hl 1 rfl) ?_
      refine lv_dup hx hb dX9_isSlash_59 rfl ?_
      refine va_get (D := g.1) (ci := 9) (v := .int (nI wd)) (C := RX9) (T := TX9) (N := 41) hx hb hts q_X9_isSlash_g_f9 hown hE.1 hP 0 rfl rfl 3 (by decide) (hts (.fieldLink RX9 98 "SoundLawsModel" "readWords" "I") q_X9_isSlash_g_1) (fun _ h9 => h9) rfl dX9_isSlash_60 ?_
      refine lv_iconst (v := 1) hx hb dX9_isSlash_63 (by decide) ?_
      refine lv_iadd hx hb dX9_isSlash_64 ?_
      refine lv_topi (fun x_6 ex_6 => ?_)
      obtain rfl : x_6 = nI (wd + 1) := by rw [ex_6]; exact nI_1 wd
      refine va_put (D := g.1) (ci := 9) (v := .int (nI (wd + 1))) (ty := .int) (C := RX9) (T := TX9) (N := 41) hx hb hts q_X9_isSlash_g_f9 tyX9 tyX9_ok nmX9 hown hE.1 hP hD hS 0 rfl rfl 3 (by decide) (hts (.fieldLink RX9 98 "SoundLawsModel" "readWords" "I") q_X9_isSlash_g_1) (fun _ h9 => h9) rfl (by decide +kernel) rfl rfl (Nat.le_of_ble_eq_true rfl) dX9_isSlash_65 (fun H locs hP hD hS => ?_)
      have hP : va_P g.1 vwCl [(k0, .inr (9, [.ref m0, .int s1, .int s2, .int (nI (wd + 1)), .int (nI n), .int (nI n), .int (nI yt), .ref m7, .ref m8, .ref m9, .int s10, .int s11, .int s12, .ref m13, .ref m14, .ref m15, .int s16, .ref m17, .ref m18, .ref m19, .ref m20, .ref m21, .ref m22, .ref m23, .ref m24, .ref m25, .ref m26, .ref m27, .ref m28, .int s29, .ref m30, .int s31, .int s32, .int s33, .int s34, .int s35, .ref m36, .ref m37, .ref m38, .ref m39, .long s40]))] H := hP
      have hD : va_D A [(k0, .inr (9, [.ref m0, .int s1, .int s2, .int (nI (wd + 1)), .int (nI n), .int (nI n), .int (nI yt), .ref m7, .ref m8, .ref m9, .int s10, .int s11, .int s12, .ref m13, .ref m14, .ref m15, .int s16, .ref m17, .ref m18, .ref m19, .ref m20, .ref m21, .ref m22, .ref m23, .ref m24, .ref m25, .ref m26, .ref m27, .ref m28, .int s29, .ref m30, .int s31, .int s32, .int s33, .int s34, .int s35, .ref m36, .ref m37, .ref m38, .ref m39, .long s40]))] := hD
      refine lv_aload_n hx hb dX9_isSlash_68 rfl (lv_at hl 1 rfl) ?_
      refine lv_iconst (v := 0) hx hb dX9_isSlash_69 (by decide) ?_
      refine va_put (D := g.1) (ci := 9) (v := .int 0) (ty := .int) (C := RX9) (T := TX9) (N := 41) hx hb hts q_X9_isSlash_g_f9 tyX9 tyX9_ok nmX9 hown hE.1 hP hD hS 0 rfl rfl 4 (by decide) (hts (.fieldLink RX9 95 "SoundLawsModel" "readHere" "I") q_X9_isSlash_g_3) (fun _ h9 => h9) rfl (by decide +kernel) rfl rfl (Nat.le_of_ble_eq_true rfl) dX9_isSlash_70 (fun H locs hP hD hS => ?_)
      have hP : va_P g.1 vwCl [(k0, .inr (9, [.ref m0, .int s1, .int s2, .int (nI (wd + 1)), .int 0, .int (nI n), .int (nI yt), .ref m7, .ref m8, .ref m9, .int s10, .int s11, .int s12, .ref m13, .ref m14, .ref m15, .int s16, .ref m17, .ref m18, .ref m19, .ref m20, .ref m21, .ref m22, .ref m23, .ref m24, .ref m25, .ref m26, .ref m27, .ref m28, .int s29, .ref m30, .int s31, .int s32, .int s33, .int s34, .int s35, .ref m36, .ref m37, .ref m38, .ref m39, .long s40]))] H := hP
      have hD : va_D A [(k0, .inr (9, [.ref m0, .int s1, .int s2, .int (nI (wd + 1)), .int 0, .int (nI n), .int (nI yt), .ref m7, .ref m8, .ref m9, .int s10, .int s11, .int s12, .ref m13, .ref m14, .ref m15, .int s16, .ref m17, .ref m18, .ref m19, .ref m20, .ref m21, .ref m22, .ref m23, .ref m24, .ref m25, .ref m26, .ref m27, .ref m28, .int s29, .ref m30, .int s31, .int s32, .int s33, .int s34, .int s35, .ref m36, .ref m37, .ref m38, .ref m39, .long s40]))] := hD
      refine lv_iload_n hx hb dX9_isSlash_73 rfl (lv_at hl 0 rfl) ?_
      refine W.widen (k := 0) (n := 0) (Nat.le_of_ble_eq_true rfl) (Nat.le_of_ble_eq_true rfl) ?_
      exact k_rz hx hb hr hlocks hS hP hD rfl ⟨(nI n), rfl, (by unfold msl; rw [if_pos c4_3]), (if_pos ((nI_eq (b := 1) (by omega) (by decide)).mp c41_4))⟩ dX9_isSlash_74
  · skip
    refine lv_aload_n hx hb dX9_isSlash_7 rfl (lv_at hl 0 rfl) ?_
    refine va_get (D := g.1) (ci := 9) (v := .int (nI wd)) (C := RX9) (T := TX9) (N := 41) hx hb hts q_X9_isSlash_g_f9 hown hE.1 hP 0 rfl rfl 3 (by decide) (hts (.fieldLink RX9 98 "SoundLawsModel" "readWords" "I") q_X9_isSlash_g_1) (fun _ h9 => h9) rfl dX9_isSlash_8 ?_
    refine lv_aload_n hx hb dX9_isSlash_11 rfl (lv_at hl 0 rfl) ?_
    refine va_get (D := g.1) (ci := 9) (v := .int (nI yt)) (C := RX9) (T := TX9) (N := 41) hx hb hts q_X9_isSlash_g_f9 hown hE.1 hP 0 rfl rfl 6 (by decide) (hts (.fieldLink RX9 108 "SoundLawsModel" "readTongues" "I") q_X9_isSlash_g_4) (fun _ h9 => h9) rfl dX9_isSlash_12 ?_
    refine lv_if_ne (tgt := 22) hx hb dX9_isSlash_15 (by decide) (fun c15_7 => ?_) (fun c15_7 => ?_)
    · skip
      refine lv_aload_n hx hb dX9_isSlash_22 rfl (lv_at hl 0 rfl) ?_
      refine va_get (D := g.1) (ci := 9) (v := .int (nI yt)) (C := RX9) (T := TX9) (N := 41) hx hb hts q_X9_isSlash_g_f9 hown hE.1 hP 0 rfl rfl 6 (by decide) (hts (.fieldLink RX9 108 "SoundLawsModel" "readTongues" "I") q_X9_isSlash_g_4) (fun _ h9 => h9) rfl dX9_isSlash_23 ?_
      refine lv_icmp_ge (tgt := 33) hx hb dX9_isSlash_26 (by decide) (fun c26_8 => ?_) (fun c26_8 => ?_)
      · skip
        refine lv_iconst (v := 0) hx hb dX9_isSlash_33 (by decide) ?_
        refine lv_istore_n (lv' := [(1, .int 0), (0, .ref k0)]) hx hb dX9_isSlash_34 rfl hl (by decide) rfl (fun ls hl => ?_)
        refine lv_aload_n hx hb dX9_isSlash_35 rfl (lv_at hl 1 rfl) ?_
        refine lv_aload_n hx hb dX9_isSlash_36 rfl (lv_at hl 1 rfl) ?_
        refine va_get (D := g.1) (ci := 9) (v := .int (nI wd)) (C := RX9) (T := TX9) (N := 41) hx hb hts q_X9_isSlash_g_f9 hown hE.1 hP 0 rfl rfl 3 (by decide) (hts (.fieldLink RX9 98 "SoundLawsModel" "readWords" "I") q_X9_isSlash_g_1) (fun _ h9 => h9) rfl dX9_isSlash_37 ?_
        refine lv_iconst (v := 1) hx hb dX9_isSlash_40 (by decide) ?_
        refine lv_icmp_ne (tgt := 51) hx hb dX9_isSlash_41 (by decide) (fun c41_9 => ?_) (fun c41_9 => ?_)
        · skip
          refine lv_aload_n hx hb dX9_isSlash_51 rfl (lv_at hl 1 rfl) ?_
          refine va_get (D := g.1) (ci := 9) (v := .int x5) (C := RX9) (T := TX9) (N := 41) hx hb hts q_X9_isSlash_g_f9 hown hE.1 hP 0 rfl rfl 5 (by decide) (hts (.fieldLink RX9 101 "SoundLawsModel" "readLong" "I") q_X9_isSlash_g_2) (fun _ h9 => h9) rfl dX9_isSlash_52 ?_
          refine va_put (D := g.1) (ci := 9) (v := .int x5) (ty := .int) (C := RX9) (T := TX9) (N := 41) hx hb hts q_X9_isSlash_g_f9 tyX9 tyX9_ok nmX9 hown hE.1 hP hD hS 0 rfl rfl 5 (by decide) (hts (.fieldLink RX9 101 "SoundLawsModel" "readLong" "I") q_X9_isSlash_g_2) (fun _ h9 => h9) rfl (by decide +kernel) rfl rfl (Nat.le_of_ble_eq_true rfl) dX9_isSlash_55 (fun H locs hP hD hS => ?_)
          have hP : va_P g.1 vwCl [(k0, .inr (9, [.ref m0, .int s1, .int s2, .int (nI wd), .int (nI n), .int x5, .int (nI yt), .ref m7, .ref m8, .ref m9, .int s10, .int s11, .int s12, .ref m13, .ref m14, .ref m15, .int s16, .ref m17, .ref m18, .ref m19, .ref m20, .ref m21, .ref m22, .ref m23, .ref m24, .ref m25, .ref m26, .ref m27, .ref m28, .int s29, .ref m30, .int s31, .int s32, .int s33, .int s34, .int s35, .ref m36, .ref m37, .ref m38, .ref m39, .long s40]))] H := hP
          have hD : va_D A [(k0, .inr (9, [.ref m0, .int s1, .int s2, .int (nI wd), .int (nI n), .int x5, .int (nI yt), .ref m7, .ref m8, .ref m9, .int s10, .int s11, .int s12, .ref m13, .ref m14, .ref m15, .int s16, .ref m17, .ref m18, .ref m19, .ref m20, .ref m21, .ref m22, .ref m23, .ref m24, .ref m25, .ref m26, .ref m27, .ref m28, .int s29, .ref m30, .int s31, .int s32, .int s33, .int s34, .int s35, .ref m36, .ref m37, .ref m38, .ref m39, .long s40]))] := hD
          refine lv_aload_n hx hb dX9_isSlash_58 rfl (lv_at hl 1 rfl) ?_
          refine lv_dup hx hb dX9_isSlash_59 rfl ?_
          refine va_get (D := g.1) (ci := 9) (v := .int (nI wd)) (C := RX9) (T := TX9) (N := 41) hx hb hts q_X9_isSlash_g_f9 hown hE.1 hP 0 rfl rfl 3 (by decide) (hts (.fieldLink RX9 98 "SoundLawsModel" "readWords" "I") q_X9_isSlash_g_1) (fun _ h9 => h9) rfl dX9_isSlash_60 ?_
          refine lv_iconst (v := 1) hx hb dX9_isSlash_63 (by decide) ?_
          refine lv_iadd hx hb dX9_isSlash_64 ?_
          refine lv_topi (fun x_10 ex_10 => ?_)
          obtain rfl : x_10 = nI (wd + 1) := by rw [ex_10]; exact nI_1 wd
          refine va_put (D := g.1) (ci := 9) (v := .int (nI (wd + 1))) (ty := .int) (C := RX9) (T := TX9) (N := 41) hx hb hts q_X9_isSlash_g_f9 tyX9 tyX9_ok nmX9 hown hE.1 hP hD hS 0 rfl rfl 3 (by decide) (hts (.fieldLink RX9 98 "SoundLawsModel" "readWords" "I") q_X9_isSlash_g_1) (fun _ h9 => h9) rfl (by decide +kernel) rfl rfl (Nat.le_of_ble_eq_true rfl) dX9_isSlash_65 (fun H locs hP hD hS => ?_)
          have hP : va_P g.1 vwCl [(k0, .inr (9, [.ref m0, .int s1, .int s2, .int (nI (wd + 1)), .int (nI n), .int x5, .int (nI yt), .ref m7, .ref m8, .ref m9, .int s10, .int s11, .int s12, .ref m13, .ref m14, .ref m15, .int s16, .ref m17, .ref m18, .ref m19, .ref m20, .ref m21, .ref m22, .ref m23, .ref m24, .ref m25, .ref m26, .ref m27, .ref m28, .int s29, .ref m30, .int s31, .int s32, .int s33, .int s34, .int s35, .ref m36, .ref m37, .ref m38, .ref m39, .long s40]))] H := hP
          have hD : va_D A [(k0, .inr (9, [.ref m0, .int s1, .int s2, .int (nI (wd + 1)), .int (nI n), .int x5, .int (nI yt), .ref m7, .ref m8, .ref m9, .int s10, .int s11, .int s12, .ref m13, .ref m14, .ref m15, .int s16, .ref m17, .ref m18, .ref m19, .ref m20, .ref m21, .ref m22, .ref m23, .ref m24, .ref m25, .ref m26, .ref m27, .ref m28, .int s29, .ref m30, .int s31, .int s32, .int s33, .int s34, .int s35, .ref m36, .ref m37, .ref m38, .ref m39, .long s40]))] := hD
          refine lv_aload_n hx hb dX9_isSlash_68 rfl (lv_at hl 1 rfl) ?_
          refine lv_iconst (v := 0) hx hb dX9_isSlash_69 (by decide) ?_
          refine va_put (D := g.1) (ci := 9) (v := .int 0) (ty := .int) (C := RX9) (T := TX9) (N := 41) hx hb hts q_X9_isSlash_g_f9 tyX9 tyX9_ok nmX9 hown hE.1 hP hD hS 0 rfl rfl 4 (by decide) (hts (.fieldLink RX9 95 "SoundLawsModel" "readHere" "I") q_X9_isSlash_g_3) (fun _ h9 => h9) rfl (by decide +kernel) rfl rfl (Nat.le_of_ble_eq_true rfl) dX9_isSlash_70 (fun H locs hP hD hS => ?_)
          have hP : va_P g.1 vwCl [(k0, .inr (9, [.ref m0, .int s1, .int s2, .int (nI (wd + 1)), .int 0, .int x5, .int (nI yt), .ref m7, .ref m8, .ref m9, .int s10, .int s11, .int s12, .ref m13, .ref m14, .ref m15, .int s16, .ref m17, .ref m18, .ref m19, .ref m20, .ref m21, .ref m22, .ref m23, .ref m24, .ref m25, .ref m26, .ref m27, .ref m28, .int s29, .ref m30, .int s31, .int s32, .int s33, .int s34, .int s35, .ref m36, .ref m37, .ref m38, .ref m39, .long s40]))] H := hP
          have hD : va_D A [(k0, .inr (9, [.ref m0, .int s1, .int s2, .int (nI (wd + 1)), .int 0, .int x5, .int (nI yt), .ref m7, .ref m8, .ref m9, .int s10, .int s11, .int s12, .ref m13, .ref m14, .ref m15, .int s16, .ref m17, .ref m18, .ref m19, .ref m20, .ref m21, .ref m22, .ref m23, .ref m24, .ref m25, .ref m26, .ref m27, .ref m28, .int s29, .ref m30, .int s31, .int s32, .int s33, .int s34, .int s35, .ref m36, .ref m37, .ref m38, .ref m39, .long s40]))] := hD
          refine lv_iload_n hx hb dX9_isSlash_73 rfl (lv_at hl 0 rfl) ?_
          refine W.widen (k := 0) (n := 0) (Nat.le_of_ble_eq_true rfl) (Nat.le_of_ble_eq_true rfl) ?_
          exact k_rz hx hb hr hlocks hS hP hD rfl ⟨x5, rfl, (by unfold msl; rw [if_neg c4_3, if_neg (show ¬ yt = 0 from fun q => c15_7 (by rw [q]; rfl)), if_neg (Nat.not_lt.mpr (ge_of_le (k := yt) (n := wd) (by omega) (by omega) c26_8))]), (if_neg (fun q => c41_9 (by rw [q]; rfl)))⟩ dX9_isSlash_74
        · skip
          refine lv_aload_n hx hb dX9_isSlash_44 rfl (lv_at hl 1 rfl) ?_
          refine va_get (D := g.1) (ci := 9) (v := .int (nI n)) (C := RX9) (T := TX9) (N := 41) hx hb hts q_X9_isSlash_g_f9 hown hE.1 hP 0 rfl rfl 4 (by decide) (hts (.fieldLink RX9 95 "SoundLawsModel" "readHere" "I") q_X9_isSlash_g_3) (fun _ h9 => h9) rfl dX9_isSlash_45 ?_
          refine lv_goto (tgt := 55) hx hb dX9_isSlash_48 (by decide) ?_
          refine va_put (D := g.1) (ci := 9) (v := .int (nI n)) (ty := .int) (C := RX9) (T := TX9) (N := 41) hx hb hts q_X9_isSlash_g_f9 tyX9 tyX9_ok nmX9 hown hE.1 hP hD hS 0 rfl rfl 5 (by decide) (hts (.fieldLink RX9 101 "SoundLawsModel" "readLong" "I") q_X9_isSlash_g_2) (fun _ h9 => h9) rfl (by decide +kernel) rfl rfl (Nat.le_of_ble_eq_true rfl) dX9_isSlash_55 (fun H locs hP hD hS => ?_)
          have hP : va_P g.1 vwCl [(k0, .inr (9, [.ref m0, .int s1, .int s2, .int (nI wd), .int (nI n), .int (nI n), .int (nI yt), .ref m7, .ref m8, .ref m9, .int s10, .int s11, .int s12, .ref m13, .ref m14, .ref m15, .int s16, .ref m17, .ref m18, .ref m19, .ref m20, .ref m21, .ref m22, .ref m23, .ref m24, .ref m25, .ref m26, .ref m27, .ref m28, .int s29, .ref m30, .int s31, .int s32, .int s33, .int s34, .int s35, .ref m36, .ref m37, .ref m38, .ref m39, .long s40]))] H := hP
          have hD : va_D A [(k0, .inr (9, [.ref m0, .int s1, .int s2, .int (nI wd), .int (nI n), .int (nI n), .int (nI yt), .ref m7, .ref m8, .ref m9, .int s10, .int s11, .int s12, .ref m13, .ref m14, .ref m15, .int s16, .ref m17, .ref m18, .ref m19, .ref m20, .ref m21, .ref m22, .ref m23, .ref m24, .ref m25, .ref m26, .ref m27, .ref m28, .int s29, .ref m30, .int s31, .int s32, .int s33, .int s34, .int s35, .ref m36, .ref m37, .ref m38, .ref m39, .long s40]))] := hD
          refine lv_aload_n hx hb dX9_isSlash_58 rfl (lv_at hl 1 rfl) ?_
          refine lv_dup hx hb dX9_isSlash_59 rfl ?_
          refine va_get (D := g.1) (ci := 9) (v := .int (nI wd)) (C := RX9) (T := TX9) (N := 41) hx hb hts q_X9_isSlash_g_f9 hown hE.1 hP 0 rfl rfl 3 (by decide) (hts (.fieldLink RX9 98 "SoundLawsModel" "readWords" "I") q_X9_isSlash_g_1) (fun _ h9 => h9) rfl dX9_isSlash_60 ?_
          refine lv_iconst (v := 1) hx hb dX9_isSlash_63 (by decide) ?_
          refine lv_iadd hx hb dX9_isSlash_64 ?_
          refine lv_topi (fun x_11 ex_11 => ?_)
          obtain rfl : x_11 = nI (wd + 1) := by rw [ex_11]; exact nI_1 wd
          refine va_put (D := g.1) (ci := 9) (v := .int (nI (wd + 1))) (ty := .int) (C := RX9) (T := TX9) (N := 41) hx hb hts q_X9_isSlash_g_f9 tyX9 tyX9_ok nmX9 hown hE.1 hP hD hS 0 rfl rfl 3 (by decide) (hts (.fieldLink RX9 98 "SoundLawsModel" "readWords" "I") q_X9_isSlash_g_1) (fun _ h9 => h9) rfl (by decide +kernel) rfl rfl (Nat.le_of_ble_eq_true rfl) dX9_isSlash_65 (fun H locs hP hD hS => ?_)
          have hP : va_P g.1 vwCl [(k0, .inr (9, [.ref m0, .int s1, .int s2, .int (nI (wd + 1)), .int (nI n), .int (nI n), .int (nI yt), .ref m7, .ref m8, .ref m9, .int s10, .int s11, .int s12, .ref m13, .ref m14, .ref m15, .int s16, .ref m17, .ref m18, .ref m19, .ref m20, .ref m21, .ref m22, .ref m23, .ref m24, .ref m25, .ref m26, .ref m27, .ref m28, .int s29, .ref m30, .int s31, .int s32, .int s33, .int s34, .int s35, .ref m36, .ref m37, .ref m38, .ref m39, .long s40]))] H := hP
          have hD : va_D A [(k0, .inr (9, [.ref m0, .int s1, .int s2, .int (nI (wd + 1)), .int (nI n), .int (nI n), .int (nI yt), .ref m7, .ref m8, .ref m9, .int s10, .int s11, .int s12, .ref m13, .ref m14, .ref m15, .int s16, .ref m17, .ref m18, .ref m19, .ref m20, .ref m21, .ref m22, .ref m23, .ref m24, .ref m25, .ref m26, .ref m27, .ref m28, .int s29, .ref m30, .int s31, .int s32, .int s33, .int s34, .int s35, .ref m36, .ref m37, .ref m38, .ref m39, .long s40]))] := hD
          refine lv_aload_n hx hb dX9_isSlash_68 rfl (lv_at hl 1 rfl) ?_
          refine lv_iconst (v := 0) hx hb dX9_isSlash_69 (by decide) ?_
          refine va_put (D := g.1) (ci := 9) (v := .int 0) (ty := .int) (C := RX9) (T := TX9) (N := 41) hx hb hts q_X9_isSlash_g_f9 tyX9 tyX9_ok nmX9 hown hE.1 hP hD hS 0 rfl rfl 4 (by decide) (hts (.fieldLink RX9 95 "SoundLawsModel" "readHere" "I") q_X9_isSlash_g_3) (fun _ h9 => h9) rfl (by decide +kernel) rfl rfl (Nat.le_of_ble_eq_true rfl) dX9_isSlash_70 (fun H locs hP hD hS => ?_)
          have hP : va_P g.1 vwCl [(k0, .inr (9, [.ref m0, .int s1, .int s2, .int (nI (wd + 1)), .int 0, .int (nI n), .int (nI yt), .ref m7, .ref m8, .ref m9, .int s10, .int s11, .int s12, .ref m13, .ref m14, .ref m15, .int s16, .ref m17, .ref m18, .ref m19, .ref m20, .ref m21, .ref m22, .ref m23, .ref m24, .ref m25, .ref m26, .ref m27, .ref m28, .int s29, .ref m30, .int s31, .int s32, .int s33, .int s34, .int s35, .ref m36, .ref m37, .ref m38, .ref m39, .long s40]))] H := hP
          have hD : va_D A [(k0, .inr (9, [.ref m0, .int s1, .int s2, .int (nI (wd + 1)), .int 0, .int (nI n), .int (nI yt), .ref m7, .ref m8, .ref m9, .int s10, .int s11, .int s12, .ref m13, .ref m14, .ref m15, .int s16, .ref m17, .ref m18, .ref m19, .ref m20, .ref m21, .ref m22, .ref m23, .ref m24, .ref m25, .ref m26, .ref m27, .ref m28, .int s29, .ref m30, .int s31, .int s32, .int s33, .int s34, .int s35, .ref m36, .ref m37, .ref m38, .ref m39, .long s40]))] := hD
          refine lv_iload_n hx hb dX9_isSlash_73 rfl (lv_at hl 0 rfl) ?_
          refine W.widen (k := 0) (n := 0) (Nat.le_of_ble_eq_true rfl) (Nat.le_of_ble_eq_true rfl) ?_
          exact k_rz hx hb hr hlocks hS hP hD rfl ⟨(nI n), rfl, (by unfold msl; rw [if_neg c4_3, if_neg (show ¬ yt = 0 from fun q => c15_7 (by rw [q]; rfl)), if_neg (Nat.not_lt.mpr (ge_of_le (k := yt) (n := wd) (by omega) (by omega) c26_8))]), (if_pos ((nI_eq (b := 1) (by omega) (by decide)).mp c41_9))⟩ dX9_isSlash_74
      · skip
        refine lv_iconst (v := 1) hx hb dX9_isSlash_29 (by decide) ?_
        refine lv_goto (tgt := 34) hx hb dX9_isSlash_30 (by decide) ?_
        refine lv_istore_n (lv' := [(1, .int 1), (0, .ref k0)]) hx hb dX9_isSlash_34 rfl hl (by decide) rfl (fun ls hl => ?_)
        refine lv_aload_n hx hb dX9_isSlash_35 rfl (lv_at hl 1 rfl) ?_
        refine lv_aload_n hx hb dX9_isSlash_36 rfl (lv_at hl 1 rfl) ?_
        refine va_get (D := g.1) (ci := 9) (v := .int (nI wd)) (C := RX9) (T := TX9) (N := 41) hx hb hts q_X9_isSlash_g_f9 hown hE.1 hP 0 rfl rfl 3 (by decide) (hts (.fieldLink RX9 98 "SoundLawsModel" "readWords" "I") q_X9_isSlash_g_1) (fun _ h9 => h9) rfl dX9_isSlash_37 ?_
        refine lv_iconst (v := 1) hx hb dX9_isSlash_40 (by decide) ?_
        refine lv_icmp_ne (tgt := 51) hx hb dX9_isSlash_41 (by decide) (fun c41_12 => ?_) (fun c41_12 => ?_)
        · skip
          refine lv_aload_n hx hb dX9_isSlash_51 rfl (lv_at hl 1 rfl) ?_
          refine va_get (D := g.1) (ci := 9) (v := .int x5) (C := RX9) (T := TX9) (N := 41) hx hb hts q_X9_isSlash_g_f9 hown hE.1 hP 0 rfl rfl 5 (by decide) (hts (.fieldLink RX9 101 "SoundLawsModel" "readLong" "I") q_X9_isSlash_g_2) (fun _ h9 => h9) rfl dX9_isSlash_52 ?_
          refine va_put (D := g.1) (ci := 9) (v := .int x5) (ty := .int) (C := RX9) (T := TX9) (N := 41) hx hb hts q_X9_isSlash_g_f9 tyX9 tyX9_ok nmX9 hown hE.1 hP hD hS 0 rfl rfl 5 (by decide) (hts (.fieldLink RX9 101 "SoundLawsModel" "readLong" "I") q_X9_isSlash_g_2) (fun _ h9 => h9) rfl (by decide +kernel) rfl rfl (Nat.le_of_ble_eq_true rfl) dX9_isSlash_55 (fun H locs hP hD hS => ?_)
          have hP : va_P g.1 vwCl [(k0, .inr (9, [.ref m0, .int s1, .int s2, .int (nI wd), .int (nI n), .int x5, .int (nI yt), .ref m7, .ref m8, .ref m9, .int s10, .int s11, .int s12, .ref m13, .ref m14, .ref m15, .int s16, .ref m17, .ref m18, .ref m19, .ref m20, .ref m21, .ref m22, .ref m23, .ref m24, .ref m25, .ref m26, .ref m27, .ref m28, .int s29, .ref m30, .int s31, .int s32, .int s33, .int s34, .int s35, .ref m36, .ref m37, .ref m38, .ref m39, .long s40]))] H := hP
          have hD : va_D A [(k0, .inr (9, [.ref m0, .int s1, .int s2, .int (nI wd), .int (nI n), .int x5, .int (nI yt), .ref m7, .ref m8, .ref m9, .int s10, .int s11, .int s12, .ref m13, .ref m14, .ref m15, .int s16, .ref m17, .ref m18, .ref m19, .ref m20, .ref m21, .ref m22, .ref m23, .ref m24, .ref m25, .ref m26, .ref m27, .ref m28, .int s29, .ref m30, .int s31, .int s32, .int s33, .int s34, .int s35, .ref m36, .ref m37, .ref m38, .ref m39, .long s40]))] := hD
          refine lv_aload_n hx hb dX9_isSlash_58 rfl (lv_at hl 1 rfl) ?_
          refine lv_dup hx hb dX9_isSlash_59 rfl ?_
          refine va_get (D := g.1) (ci := 9) (v := .int (nI wd)) (C := RX9) (T := TX9) (N := 41) hx hb hts q_X9_isSlash_g_f9 hown hE.1 hP 0 rfl rfl 3 (by decide) (hts (.fieldLink RX9 98 "SoundLawsModel" "readWords" "I") q_X9_isSlash_g_1) (fun _ h9 => h9) rfl dX9_isSlash_60 ?_
          refine lv_iconst (v := 1) hx hb dX9_isSlash_63 (by decide) ?_
          refine lv_iadd hx hb dX9_isSlash_64 ?_
          refine lv_topi (fun x_13 ex_13 => ?_)
          obtain rfl : x_13 = nI (wd + 1) := by rw [ex_13]; exact nI_1 wd
          refine va_put (D := g.1) (ci := 9) (v := .int (nI (wd + 1))) (ty := .int) (C := RX9) (T := TX9) (N := 41) hx hb hts q_X9_isSlash_g_f9 tyX9 tyX9_ok nmX9 hown hE.1 hP hD hS 0 rfl rfl 3 (by decide) (hts (.fieldLink RX9 98 "SoundLawsModel" "readWords" "I") q_X9_isSlash_g_1) (fun _ h9 => h9) rfl (by decide +kernel) rfl rfl (Nat.le_of_ble_eq_true rfl) dX9_isSlash_65 (fun H locs hP hD hS => ?_)
          have hP : va_P g.1 vwCl [(k0, .inr (9, [.ref m0, .int s1, .int s2, .int (nI (wd + 1)), .int (nI n), .int x5, .int (nI yt), .ref m7, .ref m8, .ref m9, .int s10, .int s11, .int s12, .ref m13, .ref m14, .ref m15, .int s16, .ref m17, .ref m18, .ref m19, .ref m20, .ref m21, .ref m22, .ref m23, .ref m24, .ref m25, .ref m26, .ref m27, .ref m28, .int s29, .ref m30, .int s31, .int s32, .int s33, .int s34, .int s35, .ref m36, .ref m37, .ref m38, .ref m39, .long s40]))] H := hP
          have hD : va_D A [(k0, .inr (9, [.ref m0, .int s1, .int s2, .int (nI (wd + 1)), .int (nI n), .int x5, .int (nI yt), .ref m7, .ref m8, .ref m9, .int s10, .int s11, .int s12, .ref m13, .ref m14, .ref m15, .int s16, .ref m17, .ref m18, .ref m19, .ref m20, .ref m21, .ref m22, .ref m23, .ref m24, .ref m25, .ref m26, .ref m27, .ref m28, .int s29, .ref m30, .int s31, .int s32, .int s33, .int s34, .int s35, .ref m36, .ref m37, .ref m38, .ref m39, .long s40]))] := hD
          refine lv_aload_n hx hb dX9_isSlash_68 rfl (lv_at hl 1 rfl) ?_
          refine lv_iconst (v := 0) hx hb dX9_isSlash_69 (by decide) ?_
          refine va_put (D := g.1) (ci := 9) (v := .int 0) (ty := .int) (C := RX9) (T := TX9) (N := 41) hx hb hts q_X9_isSlash_g_f9 tyX9 tyX9_ok nmX9 hown hE.1 hP hD hS 0 rfl rfl 4 (by decide) (hts (.fieldLink RX9 95 "SoundLawsModel" "readHere" "I") q_X9_isSlash_g_3) (fun _ h9 => h9) rfl (by decide +kernel) rfl rfl (Nat.le_of_ble_eq_true rfl) dX9_isSlash_70 (fun H locs hP hD hS => ?_)
          have hP : va_P g.1 vwCl [(k0, .inr (9, [.ref m0, .int s1, .int s2, .int (nI (wd + 1)), .int 0, .int x5, .int (nI yt), .ref m7, .ref m8, .ref m9, .int s10, .int s11, .int s12, .ref m13, .ref m14, .ref m15, .int s16, .ref m17, .ref m18, .ref m19, .ref m20, .ref m21, .ref m22, .ref m23, .ref m24, .ref m25, .ref m26, .ref m27, .ref m28, .int s29, .ref m30, .int s31, .int s32, .int s33, .int s34, .int s35, .ref m36, .ref m37, .ref m38, .ref m39, .long s40]))] H := hP
          have hD : va_D A [(k0, .inr (9, [.ref m0, .int s1, .int s2, .int (nI (wd + 1)), .int 0, .int x5, .int (nI yt), .ref m7, .ref m8, .ref m9, .int s10, .int s11, .int s12, .ref m13, .ref m14, .ref m15, .int s16, .ref m17, .ref m18, .ref m19, .ref m20, .ref m21, .ref m22, .ref m23, .ref m24, .ref m25, .ref m26, .ref m27, .ref m28, .int s29, .ref m30, .int s31, .int s32, .int s33, .int s34, .int s35, .ref m36, .ref m37, .ref m38, .ref m39, .long s40]))] := hD
          refine lv_iload_n hx hb dX9_isSlash_73 rfl (lv_at hl 0 rfl) ?_
          refine W.widen (k := 0) (n := 0) (Nat.le_of_ble_eq_true rfl) (Nat.le_of_ble_eq_true rfl) ?_
          exact k_rz hx hb hr hlocks hS hP hD rfl ⟨x5, rfl, (by unfold msl; rw [if_neg c4_3, if_neg (show ¬ yt = 0 from fun q => c15_7 (by rw [q]; rfl)), if_pos (lt_of_nle (k := yt) (n := wd) (by omega) (by omega) c26_8)]), (if_neg (fun q => c41_12 (by rw [q]; rfl)))⟩ dX9_isSlash_74
        · skip
          refine lv_aload_n hx hb dX9_isSlash_44 rfl (lv_at hl 1 rfl) ?_
          refine va_get (D := g.1) (ci := 9) (v := .int (nI n)) (C := RX9) (T := TX9) (N := 41) hx hb hts q_X9_isSlash_g_f9 hown hE.1 hP 0 rfl rfl 4 (by decide) (hts (.fieldLink RX9 95 "SoundLawsModel" "readHere" "I") q_X9_isSlash_g_3) (fun _ h9 => h9) rfl dX9_isSlash_45 ?_
          refine lv_goto (tgt := 55) hx hb dX9_isSlash_48 (by decide) ?_
          refine va_put (D := g.1) (ci := 9) (v := .int (nI n)) (ty := .int) (C := RX9) (T := TX9) (N := 41) hx hb hts q_X9_isSlash_g_f9 tyX9 tyX9_ok nmX9 hown hE.1 hP hD hS 0 rfl rfl 5 (by decide) (hts (.fieldLink RX9 101 "SoundLawsModel" "readLong" "I") q_X9_isSlash_g_2) (fun _ h9 => h9) rfl (by decide +kernel) rfl rfl (Nat.le_of_ble_eq_true rfl) dX9_isSlash_55 (fun H locs hP hD hS => ?_)
          have hP : va_P g.1 vwCl [(k0, .inr (9, [.ref m0, .int s1, .int s2, .int (nI wd), .int (nI n), .int (nI n), .int (nI yt), .ref m7, .ref m8, .ref m9, .int s10, .int s11, .int s12, .ref m13, .ref m14, .ref m15, .int s16, .ref m17, .ref m18, .ref m19, .ref m20, .ref m21, .ref m22, .ref m23, .ref m24, .ref m25, .ref m26, .ref m27, .ref m28, .int s29, .ref m30, .int s31, .int s32, .int s33, .int s34, .int s35, .ref m36, .ref m37, .ref m38, .ref m39, .long s40]))] H := hP
          have hD : va_D A [(k0, .inr (9, [.ref m0, .int s1, .int s2, .int (nI wd), .int (nI n), .int (nI n), .int (nI yt), .ref m7, .ref m8, .ref m9, .int s10, .int s11, .int s12, .ref m13, .ref m14, .ref m15, .int s16, .ref m17, .ref m18, .ref m19, .ref m20, .ref m21, .ref m22, .ref m23, .ref m24, .ref m25, .ref m26, .ref m27, .ref m28, .int s29, .ref m30, .int s31, .int s32, .int s33, .int s34, .int s35, .ref m36, .ref m37, .ref m38, .ref m39, .long s40]))] := hD
          refine lv_aload_n hx hb dX9_isSlash_58 rfl (lv_at hl 1 rfl) ?_
          refine lv_dup hx hb dX9_isSlash_59 rfl ?_
          refine va_get (D := g.1) (ci := 9) (v := .int (nI wd)) (C := RX9) (T := TX9) (N := 41) hx hb hts q_X9_isSlash_g_f9 hown hE.1 hP 0 rfl rfl 3 (by decide) (hts (.fieldLink RX9 98 "SoundLawsModel" "readWords" "I") q_X9_isSlash_g_1) (fun _ h9 => h9) rfl dX9_isSlash_60 ?_
          refine lv_iconst (v := 1) hx hb dX9_isSlash_63 (by decide) ?_
          refine lv_iadd hx hb dX9_isSlash_64 ?_
          refine lv_topi (fun x_14 ex_14 => ?_)
          obtain rfl : x_14 = nI (wd + 1) := by rw [ex_14]; exact nI_1 wd
          refine va_put (D := g.1) (ci := 9) (v := .int (nI (wd + 1))) (ty := .int) (C := RX9) (T := TX9) (N := 41) hx hb hts q_X9_isSlash_g_f9 tyX9 tyX9_ok nmX9 hown hE.1 hP hD hS 0 rfl rfl 3 (by decide) (hts (.fieldLink RX9 98 "SoundLawsModel" "readWords" "I") q_X9_isSlash_g_1) (fun _ h9 => h9) rfl (by decide +kernel) rfl rfl (Nat.le_of_ble_eq_true rfl) dX9_isSlash_65 (fun H locs hP hD hS => ?_)
          have hP : va_P g.1 vwCl [(k0, .inr (9, [.ref m0, .int s1, .int s2, .int (nI (wd + 1)), .int (nI n), .int (nI n), .int (nI yt), .ref m7, .ref m8, .ref m9, .int s10, .int s11, .int s12, .ref m13, .ref m14, .ref m15, .int s16, .ref m17, .ref m18, .ref m19, .ref m20, .ref m21, .ref m22, .ref m23, .ref m24, .ref m25, .ref m26, .ref m27, .ref m28, .int s29, .ref m30, .int s31, .int s32, .int s33, .int s34, .int s35, .ref m36, .ref m37, .ref m38, .ref m39, .long s40]))] H := hP
          have hD : va_D A [(k0, .inr (9, [.ref m0, .int s1, .int s2, .int (nI (wd + 1)), .int (nI n), .int (nI n), .int (nI yt), .ref m7, .ref m8, .ref m9, .int s10, .int s11, .int s12, .ref m13, .ref m14, .ref m15, .int s16, .ref m17, .ref m18, .ref m19, .ref m20, .ref m21, .ref m22, .ref m23, .ref m24, .ref m25, .ref m26, .ref m27, .ref m28, .int s29, .ref m30, .int s31, .int s32, .int s33, .int s34, .int s35, .ref m36, .ref m37, .ref m38, .ref m39, .long s40]))] := hD
          refine lv_aload_n hx hb dX9_isSlash_68 rfl (lv_at hl 1 rfl) ?_
          refine lv_iconst (v := 0) hx hb dX9_isSlash_69 (by decide) ?_
          refine va_put (D := g.1) (ci := 9) (v := .int 0) (ty := .int) (C := RX9) (T := TX9) (N := 41) hx hb hts q_X9_isSlash_g_f9 tyX9 tyX9_ok nmX9 hown hE.1 hP hD hS 0 rfl rfl 4 (by decide) (hts (.fieldLink RX9 95 "SoundLawsModel" "readHere" "I") q_X9_isSlash_g_3) (fun _ h9 => h9) rfl (by decide +kernel) rfl rfl (Nat.le_of_ble_eq_true rfl) dX9_isSlash_70 (fun H locs hP hD hS => ?_)
          have hP : va_P g.1 vwCl [(k0, .inr (9, [.ref m0, .int s1, .int s2, .int (nI (wd + 1)), .int 0, .int (nI n), .int (nI yt), .ref m7, .ref m8, .ref m9, .int s10, .int s11, .int s12, .ref m13, .ref m14, .ref m15, .int s16, .ref m17, .ref m18, .ref m19, .ref m20, .ref m21, .ref m22, .ref m23, .ref m24, .ref m25, .ref m26, .ref m27, .ref m28, .int s29, .ref m30, .int s31, .int s32, .int s33, .int s34, .int s35, .ref m36, .ref m37, .ref m38, .ref m39, .long s40]))] H := hP
          have hD : va_D A [(k0, .inr (9, [.ref m0, .int s1, .int s2, .int (nI (wd + 1)), .int 0, .int (nI n), .int (nI yt), .ref m7, .ref m8, .ref m9, .int s10, .int s11, .int s12, .ref m13, .ref m14, .ref m15, .int s16, .ref m17, .ref m18, .ref m19, .ref m20, .ref m21, .ref m22, .ref m23, .ref m24, .ref m25, .ref m26, .ref m27, .ref m28, .int s29, .ref m30, .int s31, .int s32, .int s33, .int s34, .int s35, .ref m36, .ref m37, .ref m38, .ref m39, .long s40]))] := hD
          refine lv_iload_n hx hb dX9_isSlash_73 rfl (lv_at hl 0 rfl) ?_
          refine W.widen (k := 0) (n := 0) (Nat.le_of_ble_eq_true rfl) (Nat.le_of_ble_eq_true rfl) ?_
          exact k_rz hx hb hr hlocks hS hP hD rfl ⟨(nI n), rfl, (by unfold msl; rw [if_neg c4_3, if_neg (show ¬ yt = 0 from fun q => c15_7 (by rw [q]; rfl)), if_pos (lt_of_nle (k := yt) (n := wd) (by omega) (by omega) c26_8)]), (if_pos ((nI_eq (b := 1) (by omega) (by decide)).mp c41_12))⟩ dX9_isSlash_74
    · skip
      refine lv_iconst (v := 4) hx hb dX9_isSlash_18 (by decide) ?_
      refine lv_goto (tgt := 26) hx hb dX9_isSlash_19 (by decide) ?_
      refine lv_icmp_ge (tgt := 33) hx hb dX9_isSlash_26 (by decide) (fun c26_15 => ?_) (fun c26_15 => ?_)
      · skip
        refine lv_iconst (v := 0) hx hb dX9_isSlash_33 (by decide) ?_
        refine lv_istore_n (lv' := [(1, .int 0), (0, .ref k0)]) hx hb dX9_isSlash_34 rfl hl (by decide) rfl (fun ls hl => ?_)
        refine lv_aload_n hx hb dX9_isSlash_35 rfl (lv_at hl 1 rfl) ?_
        refine lv_aload_n hx hb dX9_isSlash_36 rfl (lv_at hl 1 rfl) ?_
        refine va_get (D := g.1) (ci := 9) (v := .int (nI wd)) (C := RX9) (T := TX9) (N := 41) hx hb hts q_X9_isSlash_g_f9 hown hE.1 hP 0 rfl rfl 3 (by decide) (hts (.fieldLink RX9 98 "SoundLawsModel" "readWords" "I") q_X9_isSlash_g_1) (fun _ h9 => h9) rfl dX9_isSlash_37 ?_
        refine lv_iconst (v := 1) hx hb dX9_isSlash_40 (by decide) ?_
        refine lv_icmp_ne (tgt := 51) hx hb dX9_isSlash_41 (by decide) (fun c41_16 => ?_) (fun c41_16 => ?_)
        · skip
          refine lv_aload_n hx hb dX9_isSlash_51 rfl (lv_at hl 1 rfl) ?_
          refine va_get (D := g.1) (ci := 9) (v := .int x5) (C := RX9) (T := TX9) (N := 41) hx hb hts q_X9_isSlash_g_f9 hown hE.1 hP 0 rfl rfl 5 (by decide) (hts (.fieldLink RX9 101 "SoundLawsModel" "readLong" "I") q_X9_isSlash_g_2) (fun _ h9 => h9) rfl dX9_isSlash_52 ?_
          refine va_put (D := g.1) (ci := 9) (v := .int x5) (ty := .int) (C := RX9) (T := TX9) (N := 41) hx hb hts q_X9_isSlash_g_f9 tyX9 tyX9_ok nmX9 hown hE.1 hP hD hS 0 rfl rfl 5 (by decide) (hts (.fieldLink RX9 101 "SoundLawsModel" "readLong" "I") q_X9_isSlash_g_2) (fun _ h9 => h9) rfl (by decide +kernel) rfl rfl (Nat.le_of_ble_eq_true rfl) dX9_isSlash_55 (fun H locs hP hD hS => ?_)
          have hP : va_P g.1 vwCl [(k0, .inr (9, [.ref m0, .int s1, .int s2, .int (nI wd), .int (nI n), .int x5, .int (nI yt), .ref m7, .ref m8, .ref m9, .int s10, .int s11, .int s12, .ref m13, .ref m14, .ref m15, .int s16, .ref m17, .ref m18, .ref m19, .ref m20, .ref m21, .ref m22, .ref m23, .ref m24, .ref m25, .ref m26, .ref m27, .ref m28, .int s29, .ref m30, .int s31, .int s32, .int s33, .int s34, .int s35, .ref m36, .ref m37, .ref m38, .ref m39, .long s40]))] H := hP
          have hD : va_D A [(k0, .inr (9, [.ref m0, .int s1, .int s2, .int (nI wd), .int (nI n), .int x5, .int (nI yt), .ref m7, .ref m8, .ref m9, .int s10, .int s11, .int s12, .ref m13, .ref m14, .ref m15, .int s16, .ref m17, .ref m18, .ref m19, .ref m20, .ref m21, .ref m22, .ref m23, .ref m24, .ref m25, .ref m26, .ref m27, .ref m28, .int s29, .ref m30, .int s31, .int s32, .int s33, .int s34, .int s35, .ref m36, .ref m37, .ref m38, .ref m39, .long s40]))] := hD
          refine lv_aload_n hx hb dX9_isSlash_58 rfl (lv_at hl 1 rfl) ?_
          refine lv_dup hx hb dX9_isSlash_59 rfl ?_
          refine va_get (D := g.1) (ci := 9) (v := .int (nI wd)) (C := RX9) (T := TX9) (N := 41) hx hb hts q_X9_isSlash_g_f9 hown hE.1 hP 0 rfl rfl 3 (by decide) (hts (.fieldLink RX9 98 "SoundLawsModel" "readWords" "I") q_X9_isSlash_g_1) (fun _ h9 => h9) rfl dX9_isSlash_60 ?_
          refine lv_iconst (v := 1) hx hb dX9_isSlash_63 (by decide) ?_
          refine lv_iadd hx hb dX9_isSlash_64 ?_
          refine lv_topi (fun x_17 ex_17 => ?_)
          obtain rfl : x_17 = nI (wd + 1) := by rw [ex_17]; exact nI_1 wd
          refine va_put (D := g.1) (ci := 9) (v := .int (nI (wd + 1))) (ty := .int) (C := RX9) (T := TX9) (N := 41) hx hb hts q_X9_isSlash_g_f9 tyX9 tyX9_ok nmX9 hown hE.1 hP hD hS 0 rfl rfl 3 (by decide) (hts (.fieldLink RX9 98 "SoundLawsModel" "readWords" "I") q_X9_isSlash_g_1) (fun _ h9 => h9) rfl (by decide +kernel) rfl rfl (Nat.le_of_ble_eq_true rfl) dX9_isSlash_65 (fun H locs hP hD hS => ?_)
          have hP : va_P g.1 vwCl [(k0, .inr (9, [.ref m0, .int s1, .int s2, .int (nI (wd + 1)), .int (nI n), .int x5, .int (nI yt), .ref m7, .ref m8, .ref m9, .int s10, .int s11, .int s12, .ref m13, .ref m14, .ref m15, .int s16, .ref m17, .ref m18, .ref m19, .ref m20, .ref m21, .ref m22, .ref m23, .ref m24, .ref m25, .ref m26, .ref m27, .ref m28, .int s29, .ref m30, .int s31, .int s32, .int s33, .int s34, .int s35, .ref m36, .ref m37, .ref m38, .ref m39, .long s40]))] H := hP
          have hD : va_D A [(k0, .inr (9, [.ref m0, .int s1, .int s2, .int (nI (wd + 1)), .int (nI n), .int x5, .int (nI yt), .ref m7, .ref m8, .ref m9, .int s10, .int s11, .int s12, .ref m13, .ref m14, .ref m15, .int s16, .ref m17, .ref m18, .ref m19, .ref m20, .ref m21, .ref m22, .ref m23, .ref m24, .ref m25, .ref m26, .ref m27, .ref m28, .int s29, .ref m30, .int s31, .int s32, .int s33, .int s34, .int s35, .ref m36, .ref m37, .ref m38, .ref m39, .long s40]))] := hD
          refine lv_aload_n hx hb dX9_isSlash_68 rfl (lv_at hl 1 rfl) ?_
          refine lv_iconst (v := 0) hx hb dX9_isSlash_69 (by decide) ?_
          refine va_put (D := g.1) (ci := 9) (v := .int 0) (ty := .int) (C := RX9) (T := TX9) (N := 41) hx hb hts q_X9_isSlash_g_f9 tyX9 tyX9_ok nmX9 hown hE.1 hP hD hS 0 rfl rfl 4 (by decide) (hts (.fieldLink RX9 95 "SoundLawsModel" "readHere" "I") q_X9_isSlash_g_3) (fun _ h9 => h9) rfl (by decide +kernel) rfl rfl (Nat.le_of_ble_eq_true rfl) dX9_isSlash_70 (fun H locs hP hD hS => ?_)
          have hP : va_P g.1 vwCl [(k0, .inr (9, [.ref m0, .int s1, .int s2, .int (nI (wd + 1)), .int 0, .int x5, .int (nI yt), .ref m7, .ref m8, .ref m9, .int s10, .int s11, .int s12, .ref m13, .ref m14, .ref m15, .int s16, .ref m17, .ref m18, .ref m19, .ref m20, .ref m21, .ref m22, .ref m23, .ref m24, .ref m25, .ref m26, .ref m27, .ref m28, .int s29, .ref m30, .int s31, .int s32, .int s33, .int s34, .int s35, .ref m36, .ref m37, .ref m38, .ref m39, .long s40]))] H := hP
          have hD : va_D A [(k0, .inr (9, [.ref m0, .int s1, .int s2, .int (nI (wd + 1)), .int 0, .int x5, .int (nI yt), .ref m7, .ref m8, .ref m9, .int s10, .int s11, .int s12, .ref m13, .ref m14, .ref m15, .int s16, .ref m17, .ref m18, .ref m19, .ref m20, .ref m21, .ref m22, .ref m23, .ref m24, .ref m25, .ref m26, .ref m27, .ref m28, .int s29, .ref m30, .int s31, .int s32, .int s33, .int s34, .int s35, .ref m36, .ref m37, .ref m38, .ref m39, .long s40]))] := hD
          refine lv_iload_n hx hb dX9_isSlash_73 rfl (lv_at hl 0 rfl) ?_
          refine W.widen (k := 0) (n := 0) (Nat.le_of_ble_eq_true rfl) (Nat.le_of_ble_eq_true rfl) ?_
          exact k_rz hx hb hr hlocks hS hP hD rfl ⟨x5, rfl, (by unfold msl; rw [if_neg c4_3, if_pos ((nI_eq (b := 0) (by omega) (by decide)).mp c15_7), if_neg (Nat.not_lt.mpr (ge_of_le (k := 4) (n := wd) (by omega) (by omega) c26_15))]), (if_neg (fun q => c41_16 (by rw [q]; rfl)))⟩ dX9_isSlash_74
        · skip
          refine lv_aload_n hx hb dX9_isSlash_44 rfl (lv_at hl 1 rfl) ?_
          refine va_get (D := g.1) (ci := 9) (v := .int (nI n)) (C := RX9) (T := TX9) (N := 41) hx hb hts q_X9_isSlash_g_f9 hown hE.1 hP 0 rfl rfl 4 (by decide) (hts (.fieldLink RX9 95 "SoundLawsModel" "readHere" "I") q_X9_isSlash_g_3) (fun _ h9 => h9) rfl dX9_isSlash_45 ?_
          refine lv_goto (tgt := 55) hx hb dX9_isSlash_48 (by decide) ?_
          refine va_put (D := g.1) (ci := 9) (v := .int (nI n)) (ty := .int) (C := RX9) (T := TX9) (N := 41) hx hb hts q_X9_isSlash_g_f9 tyX9 tyX9_ok nmX9 hown hE.1 hP hD hS 0 rfl rfl 5 (by decide) (hts (.fieldLink RX9 101 "SoundLawsModel" "readLong" "I") q_X9_isSlash_g_2) (fun _ h9 => h9) rfl (by decide +kernel) rfl rfl (Nat.le_of_ble_eq_true rfl) dX9_isSlash_55 (fun H locs hP hD hS => ?_)
          have hP : va_P g.1 vwCl [(k0, .inr (9, [.ref m0, .int s1, .int s2, .int (nI wd), .int (nI n), .int (nI n), .int (nI yt), .ref m7, .ref m8, .ref m9, .int s10, .int s11, .int s12, .ref m13, .ref m14, .ref m15, .int s16, .ref m17, .ref m18, .ref m19, .ref m20, .ref m21, .ref m22, .ref m23, .ref m24, .ref m25, .ref m26, .ref m27, .ref m28, .int s29, .ref m30, .int s31, .int s32, .int s33, .int s34, .int s35, .ref m36, .ref m37, .ref m38, .ref m39, .long s40]))] H := hP
          have hD : va_D A [(k0, .inr (9, [.ref m0, .int s1, .int s2, .int (nI wd), .int (nI n), .int (nI n), .int (nI yt), .ref m7, .ref m8, .ref m9, .int s10, .int s11, .int s12, .ref m13, .ref m14, .ref m15, .int s16, .ref m17, .ref m18, .ref m19, .ref m20, .ref m21, .ref m22, .ref m23, .ref m24, .ref m25, .ref m26, .ref m27, .ref m28, .int s29, .ref m30, .int s31, .int s32, .int s33, .int s34, .int s35, .ref m36, .ref m37, .ref m38, .ref m39, .long s40]))] := hD
          refine lv_aload_n hx hb dX9_isSlash_58 rfl (lv_at hl 1 rfl) ?_
          refine lv_dup hx hb dX9_isSlash_59 rfl ?_
          refine va_get (D := g.1) (ci := 9) (v := .int (nI wd)) (C := RX9) (T := TX9) (N := 41) hx hb hts q_X9_isSlash_g_f9 hown hE.1 hP 0 rfl rfl 3 (by decide) (hts (.fieldLink RX9 98 "SoundLawsModel" "readWords" "I") q_X9_isSlash_g_1) (fun _ h9 => h9) rfl dX9_isSlash_60 ?_
          refine lv_iconst (v := 1) hx hb dX9_isSlash_63 (by decide) ?_
          refine lv_iadd hx hb dX9_isSlash_64 ?_
          refine lv_topi (fun x_18 ex_18 => ?_)
          obtain rfl : x_18 = nI (wd + 1) := by rw [ex_18]; exact nI_1 wd
          refine va_put (D := g.1) (ci := 9) (v := .int (nI (wd + 1))) (ty := .int) (C := RX9) (T := TX9) (N := 41) hx hb hts q_X9_isSlash_g_f9 tyX9 tyX9_ok nmX9 hown hE.1 hP hD hS 0 rfl rfl 3 (by decide) (hts (.fieldLink RX9 98 "SoundLawsModel" "readWords" "I") q_X9_isSlash_g_1) (fun _ h9 => h9) rfl (by decide +kernel) rfl rfl (Nat.le_of_ble_eq_true rfl) dX9_isSlash_65 (fun H locs hP hD hS => ?_)
          have hP : va_P g.1 vwCl [(k0, .inr (9, [.ref m0, .int s1, .int s2, .int (nI (wd + 1)), .int (nI n), .int (nI n), .int (nI yt), .ref m7, .ref m8, .ref m9, .int s10, .int s11, .int s12, .ref m13, .ref m14, .ref m15, .int s16, .ref m17, .ref m18, .ref m19, .ref m20, .ref m21, .ref m22, .ref m23, .ref m24, .ref m25, .ref m26, .ref m27, .ref m28, .int s29, .ref m30, .int s31, .int s32, .int s33, .int s34, .int s35, .ref m36, .ref m37, .ref m38, .ref m39, .long s40]))] H := hP
          have hD : va_D A [(k0, .inr (9, [.ref m0, .int s1, .int s2, .int (nI (wd + 1)), .int (nI n), .int (nI n), .int (nI yt), .ref m7, .ref m8, .ref m9, .int s10, .int s11, .int s12, .ref m13, .ref m14, .ref m15, .int s16, .ref m17, .ref m18, .ref m19, .ref m20, .ref m21, .ref m22, .ref m23, .ref m24, .ref m25, .ref m26, .ref m27, .ref m28, .int s29, .ref m30, .int s31, .int s32, .int s33, .int s34, .int s35, .ref m36, .ref m37, .ref m38, .ref m39, .long s40]))] := hD
          refine lv_aload_n hx hb dX9_isSlash_68 rfl (lv_at hl 1 rfl) ?_
          refine lv_iconst (v := 0) hx hb dX9_isSlash_69 (by decide) ?_
          refine va_put (D := g.1) (ci := 9) (v := .int 0) (ty := .int) (C := RX9) (T := TX9) (N := 41) hx hb hts q_X9_isSlash_g_f9 tyX9 tyX9_ok nmX9 hown hE.1 hP hD hS 0 rfl rfl 4 (by decide) (hts (.fieldLink RX9 95 "SoundLawsModel" "readHere" "I") q_X9_isSlash_g_3) (fun _ h9 => h9) rfl (by decide +kernel) rfl rfl (Nat.le_of_ble_eq_true rfl) dX9_isSlash_70 (fun H locs hP hD hS => ?_)
          have hP : va_P g.1 vwCl [(k0, .inr (9, [.ref m0, .int s1, .int s2, .int (nI (wd + 1)), .int 0, .int (nI n), .int (nI yt), .ref m7, .ref m8, .ref m9, .int s10, .int s11, .int s12, .ref m13, .ref m14, .ref m15, .int s16, .ref m17, .ref m18, .ref m19, .ref m20, .ref m21, .ref m22, .ref m23, .ref m24, .ref m25, .ref m26, .ref m27, .ref m28, .int s29, .ref m30, .int s31, .int s32, .int s33, .int s34, .int s35, .ref m36, .ref m37, .ref m38, .ref m39, .long s40]))] H := hP
          have hD : va_D A [(k0, .inr (9, [.ref m0, .int s1, .int s2, .int (nI (wd + 1)), .int 0, .int (nI n), .int (nI yt), .ref m7, .ref m8, .ref m9, .int s10, .int s11, .int s12, .ref m13, .ref m14, .ref m15, .int s16, .ref m17, .ref m18, .ref m19, .ref m20, .ref m21, .ref m22, .ref m23, .ref m24, .ref m25, .ref m26, .ref m27, .ref m28, .int s29, .ref m30, .int s31, .int s32, .int s33, .int s34, .int s35, .ref m36, .ref m37, .ref m38, .ref m39, .long s40]))] := hD
          refine lv_iload_n hx hb dX9_isSlash_73 rfl (lv_at hl 0 rfl) ?_
          refine W.widen (k := 0) (n := 0) (Nat.le_of_ble_eq_true rfl) (Nat.le_of_ble_eq_true rfl) ?_
          exact k_rz hx hb hr hlocks hS hP hD rfl ⟨(nI n), rfl, (by unfold msl; rw [if_neg c4_3, if_pos ((nI_eq (b := 0) (by omega) (by decide)).mp c15_7), if_neg (Nat.not_lt.mpr (ge_of_le (k := 4) (n := wd) (by omega) (by omega) c26_15))]), (if_pos ((nI_eq (b := 1) (by omega) (by decide)).mp c41_16))⟩ dX9_isSlash_74
      · skip
        refine lv_iconst (v := 1) hx hb dX9_isSlash_29 (by decide) ?_
        refine lv_goto (tgt := 34) hx hb dX9_isSlash_30 (by decide) ?_
        refine lv_istore_n (lv' := [(1, .int 1), (0, .ref k0)]) hx hb dX9_isSlash_34 rfl hl (by decide) rfl (fun ls hl => ?_)
        refine lv_aload_n hx hb dX9_isSlash_35 rfl (lv_at hl 1 rfl) ?_
        refine lv_aload_n hx hb dX9_isSlash_36 rfl (lv_at hl 1 rfl) ?_
        refine va_get (D := g.1) (ci := 9) (v := .int (nI wd)) (C := RX9) (T := TX9) (N := 41) hx hb hts q_X9_isSlash_g_f9 hown hE.1 hP 0 rfl rfl 3 (by decide) (hts (.fieldLink RX9 98 "SoundLawsModel" "readWords" "I") q_X9_isSlash_g_1) (fun _ h9 => h9) rfl dX9_isSlash_37 ?_
        refine lv_iconst (v := 1) hx hb dX9_isSlash_40 (by decide) ?_
        refine lv_icmp_ne (tgt := 51) hx hb dX9_isSlash_41 (by decide) (fun c41_19 => ?_) (fun c41_19 => ?_)
        · skip
          refine lv_aload_n hx hb dX9_isSlash_51 rfl (lv_at hl 1 rfl) ?_
          refine va_get (D := g.1) (ci := 9) (v := .int x5) (C := RX9) (T := TX9) (N := 41) hx hb hts q_X9_isSlash_g_f9 hown hE.1 hP 0 rfl rfl 5 (by decide) (hts (.fieldLink RX9 101 "SoundLawsModel" "readLong" "I") q_X9_isSlash_g_2) (fun _ h9 => h9) rfl dX9_isSlash_52 ?_
          refine va_put (D := g.1) (ci := 9) (v := .int x5) (ty := .int) (C := RX9) (T := TX9) (N := 41) hx hb hts q_X9_isSlash_g_f9 tyX9 tyX9_ok nmX9 hown hE.1 hP hD hS 0 rfl rfl 5 (by decide) (hts (.fieldLink RX9 101 "SoundLawsModel" "readLong" "I") q_X9_isSlash_g_2) (fun _ h9 => h9) rfl (by decide +kernel) rfl rfl (Nat.le_of_ble_eq_true rfl) dX9_isSlash_55 (fun H locs hP hD hS => ?_)
          have hP : va_P g.1 vwCl [(k0, .inr (9, [.ref m0, .int s1, .int s2, .int (nI wd), .int (nI n), .int x5, .int (nI yt), .ref m7, .ref m8, .ref m9, .int s10, .int s11, .int s12, .ref m13, .ref m14, .ref m15, .int s16, .ref m17, .ref m18, .ref m19, .ref m20, .ref m21, .ref m22, .ref m23, .ref m24, .ref m25, .ref m26, .ref m27, .ref m28, .int s29, .ref m30, .int s31, .int s32, .int s33, .int s34, .int s35, .ref m36, .ref m37, .ref m38, .ref m39, .long s40]))] H := hP
          have hD : va_D A [(k0, .inr (9, [.ref m0, .int s1, .int s2, .int (nI wd), .int (nI n), .int x5, .int (nI yt), .ref m7, .ref m8, .ref m9, .int s10, .int s11, .int s12, .ref m13, .ref m14, .ref m15, .int s16, .ref m17, .ref m18, .ref m19, .ref m20, .ref m21, .ref m22, .ref m23, .ref m24, .ref m25, .ref m26, .ref m27, .ref m28, .int s29, .ref m30, .int s31, .int s32, .int s33, .int s34, .int s35, .ref m36, .ref m37, .ref m38, .ref m39, .long s40]))] := hD
          refine lv_aload_n hx hb dX9_isSlash_58 rfl (lv_at hl 1 rfl) ?_
          refine lv_dup hx hb dX9_isSlash_59 rfl ?_
          refine va_get (D := g.1) (ci := 9) (v := .int (nI wd)) (C := RX9) (T := TX9) (N := 41) hx hb hts q_X9_isSlash_g_f9 hown hE.1 hP 0 rfl rfl 3 (by decide) (hts (.fieldLink RX9 98 "SoundLawsModel" "readWords" "I") q_X9_isSlash_g_1) (fun _ h9 => h9) rfl dX9_isSlash_60 ?_
          refine lv_iconst (v := 1) hx hb dX9_isSlash_63 (by decide) ?_
          refine lv_iadd hx hb dX9_isSlash_64 ?_
          refine lv_topi (fun x_20 ex_20 => ?_)
          obtain rfl : x_20 = nI (wd + 1) := by rw [ex_20]; exact nI_1 wd
          refine va_put (D := g.1) (ci := 9) (v := .int (nI (wd + 1))) (ty := .int) (C := RX9) (T := TX9) (N := 41) hx hb hts q_X9_isSlash_g_f9 tyX9 tyX9_ok nmX9 hown hE.1 hP hD hS 0 rfl rfl 3 (by decide) (hts (.fieldLink RX9 98 "SoundLawsModel" "readWords" "I") q_X9_isSlash_g_1) (fun _ h9 => h9) rfl (by decide +kernel) rfl rfl (Nat.le_of_ble_eq_true rfl) dX9_isSlash_65 (fun H locs hP hD hS => ?_)
          have hP : va_P g.1 vwCl [(k0, .inr (9, [.ref m0, .int s1, .int s2, .int (nI (wd + 1)), .int (nI n), .int x5, .int (nI yt), .ref m7, .ref m8, .ref m9, .int s10, .int s11, .int s12, .ref m13, .ref m14, .ref m15, .int s16, .ref m17, .ref m18, .ref m19, .ref m20, .ref m21, .ref m22, .ref m23, .ref m24, .ref m25, .ref m26, .ref m27, .ref m28, .int s29, .ref m30, .int s31, .int s32, .int s33, .int s34, .int s35, .ref m36, .ref m37, .ref m38, .ref m39, .long s40]))] H := hP
          have hD : va_D A [(k0, .inr (9, [.ref m0, .int s1, .int s2, .int (nI (wd + 1)), .int (nI n), .int x5, .int (nI yt), .ref m7, .ref m8, .ref m9, .int s10, .int s11, .int s12, .ref m13, .ref m14, .ref m15, .int s16, .ref m17, .ref m18, .ref m19, .ref m20, .ref m21, .ref m22, .ref m23, .ref m24, .ref m25, .ref m26, .ref m27, .ref m28, .int s29, .ref m30, .int s31, .int s32, .int s33, .int s34, .int s35, .ref m36, .ref m37, .ref m38, .ref m39, .long s40]))] := hD
          refine lv_aload_n hx hb dX9_isSlash_68 rfl (lv_at hl 1 rfl) ?_
          refine lv_iconst (v := 0) hx hb dX9_isSlash_69 (by decide) ?_
          refine va_put (D := g.1) (ci := 9) (v := .int 0) (ty := .int) (C := RX9) (T := TX9) (N := 41) hx hb hts q_X9_isSlash_g_f9 tyX9 tyX9_ok nmX9 hown hE.1 hP hD hS 0 rfl rfl 4 (by decide) (hts (.fieldLink RX9 95 "SoundLawsModel" "readHere" "I") q_X9_isSlash_g_3) (fun _ h9 => h9) rfl (by decide +kernel) rfl rfl (Nat.le_of_ble_eq_true rfl) dX9_isSlash_70 (fun H locs hP hD hS => ?_)
          have hP : va_P g.1 vwCl [(k0, .inr (9, [.ref m0, .int s1, .int s2, .int (nI (wd + 1)), .int 0, .int x5, .int (nI yt), .ref m7, .ref m8, .ref m9, .int s10, .int s11, .int s12, .ref m13, .ref m14, .ref m15, .int s16, .ref m17, .ref m18, .ref m19, .ref m20, .ref m21, .ref m22, .ref m23, .ref m24, .ref m25, .ref m26, .ref m27, .ref m28, .int s29, .ref m30, .int s31, .int s32, .int s33, .int s34, .int s35, .ref m36, .ref m37, .ref m38, .ref m39, .long s40]))] H := hP
          have hD : va_D A [(k0, .inr (9, [.ref m0, .int s1, .int s2, .int (nI (wd + 1)), .int 0, .int x5, .int (nI yt), .ref m7, .ref m8, .ref m9, .int s10, .int s11, .int s12, .ref m13, .ref m14, .ref m15, .int s16, .ref m17, .ref m18, .ref m19, .ref m20, .ref m21, .ref m22, .ref m23, .ref m24, .ref m25, .ref m26, .ref m27, .ref m28, .int s29, .ref m30, .int s31, .int s32, .int s33, .int s34, .int s35, .ref m36, .ref m37, .ref m38, .ref m39, .long s40]))] := hD
          refine lv_iload_n hx hb dX9_isSlash_73 rfl (lv_at hl 0 rfl) ?_
          refine W.widen (k := 0) (n := 0) (Nat.le_of_ble_eq_true rfl) (Nat.le_of_ble_eq_true rfl) ?_
          exact k_rz hx hb hr hlocks hS hP hD rfl ⟨x5, rfl, (by unfold msl; rw [if_neg c4_3, if_pos ((nI_eq (b := 0) (by omega) (by decide)).mp c15_7), if_pos (lt_of_nle (k := 4) (n := wd) (by omega) (by omega) c26_15)]), (if_neg (fun q => c41_19 (by rw [q]; rfl)))⟩ dX9_isSlash_74
        · skip
          refine lv_aload_n hx hb dX9_isSlash_44 rfl (lv_at hl 1 rfl) ?_
          refine va_get (D := g.1) (ci := 9) (v := .int (nI n)) (C := RX9) (T := TX9) (N := 41) hx hb hts q_X9_isSlash_g_f9 hown hE.1 hP 0 rfl rfl 4 (by decide) (hts (.fieldLink RX9 95 "SoundLawsModel" "readHere" "I") q_X9_isSlash_g_3) (fun _ h9 => h9) rfl dX9_isSlash_45 ?_
          refine lv_goto (tgt := 55) hx hb dX9_isSlash_48 (by decide) ?_
          refine va_put (D := g.1) (ci := 9) (v := .int (nI n)) (ty := .int) (C := RX9) (T := TX9) (N := 41) hx hb hts q_X9_isSlash_g_f9 tyX9 tyX9_ok nmX9 hown hE.1 hP hD hS 0 rfl rfl 5 (by decide) (hts (.fieldLink RX9 101 "SoundLawsModel" "readLong" "I") q_X9_isSlash_g_2) (fun _ h9 => h9) rfl (by decide +kernel) rfl rfl (Nat.le_of_ble_eq_true rfl) dX9_isSlash_55 (fun H locs hP hD hS => ?_)
          have hP : va_P g.1 vwCl [(k0, .inr (9, [.ref m0, .int s1, .int s2, .int (nI wd), .int (nI n), .int (nI n), .int (nI yt), .ref m7, .ref m8, .ref m9, .int s10, .int s11, .int s12, .ref m13, .ref m14, .ref m15, .int s16, .ref m17, .ref m18, .ref m19, .ref m20, .ref m21, .ref m22, .ref m23, .ref m24, .ref m25, .ref m26, .ref m27, .ref m28, .int s29, .ref m30, .int s31, .int s32, .int s33, .int s34, .int s35, .ref m36, .ref m37, .ref m38, .ref m39, .long s40]))] H := hP
          have hD : va_D A [(k0, .inr (9, [.ref m0, .int s1, .int s2, .int (nI wd), .int (nI n), .int (nI n), .int (nI yt), .ref m7, .ref m8, .ref m9, .int s10, .int s11, .int s12, .ref m13, .ref m14, .ref m15, .int s16, .ref m17, .ref m18, .ref m19, .ref m20, .ref m21, .ref m22, .ref m23, .ref m24, .ref m25, .ref m26, .ref m27, .ref m28, .int s29, .ref m30, .int s31, .int s32, .int s33, .int s34, .int s35, .ref m36, .ref m37, .ref m38, .ref m39, .long s40]))] := hD
          refine lv_aload_n hx hb dX9_isSlash_58 rfl (lv_at hl 1 rfl) ?_
          refine lv_dup hx hb dX9_isSlash_59 rfl ?_
          refine va_get (D := g.1) (ci := 9) (v := .int (nI wd)) (C := RX9) (T := TX9) (N := 41) hx hb hts q_X9_isSlash_g_f9 hown hE.1 hP 0 rfl rfl 3 (by decide) (hts (.fieldLink RX9 98 "SoundLawsModel" "readWords" "I") q_X9_isSlash_g_1) (fun _ h9 => h9) rfl dX9_isSlash_60 ?_
          refine lv_iconst (v := 1) hx hb dX9_isSlash_63 (by decide) ?_
          refine lv_iadd hx hb dX9_isSlash_64 ?_
          refine lv_topi (fun x_21 ex_21 => ?_)
          obtain rfl : x_21 = nI (wd + 1) := by rw [ex_21]; exact nI_1 wd
          refine va_put (D := g.1) (ci := 9) (v := .int (nI (wd + 1))) (ty := .int) (C := RX9) (T := TX9) (N := 41) hx hb hts q_X9_isSlash_g_f9 tyX9 tyX9_ok nmX9 hown hE.1 hP hD hS 0 rfl rfl 3 (by decide) (hts (.fieldLink RX9 98 "SoundLawsModel" "readWords" "I") q_X9_isSlash_g_1) (fun _ h9 => h9) rfl (by decide +kernel) rfl rfl (Nat.le_of_ble_eq_true rfl) dX9_isSlash_65 (fun H locs hP hD hS => ?_)
          have hP : va_P g.1 vwCl [(k0, .inr (9, [.ref m0, .int s1, .int s2, .int (nI (wd + 1)), .int (nI n), .int (nI n), .int (nI yt), .ref m7, .ref m8, .ref m9, .int s10, .int s11, .int s12, .ref m13, .ref m14, .ref m15, .int s16, .ref m17, .ref m18, .ref m19, .ref m20, .ref m21, .ref m22, .ref m23, .ref m24, .ref m25, .ref m26, .ref m27, .ref m28, .int s29, .ref m30, .int s31, .int s32, .int s33, .int s34, .int s35, .ref m36, .ref m37, .ref m38, .ref m39, .long s40]))] H := hP
          have hD : va_D A [(k0, .inr (9, [.ref m0, .int s1, .int s2, .int (nI (wd + 1)), .int (nI n), .int (nI n), .int (nI yt), .ref m7, .ref m8, .ref m9, .int s10, .int s11, .int s12, .ref m13, .ref m14, .ref m15, .int s16, .ref m17, .ref m18, .ref m19, .ref m20, .ref m21, .ref m22, .ref m23, .ref m24, .ref m25, .ref m26, .ref m27, .ref m28, .int s29, .ref m30, .int s31, .int s32, .int s33, .int s34, .int s35, .ref m36, .ref m37, .ref m38, .ref m39, .long s40]))] := hD
          refine lv_aload_n hx hb dX9_isSlash_68 rfl (lv_at hl 1 rfl) ?_
          refine lv_iconst (v := 0) hx hb dX9_isSlash_69 (by decide) ?_
          refine va_put (D := g.1) (ci := 9) (v := .int 0) (ty := .int) (C := RX9) (T := TX9) (N := 41) hx hb hts q_X9_isSlash_g_f9 tyX9 tyX9_ok nmX9 hown hE.1 hP hD hS 0 rfl rfl 4 (by decide) (hts (.fieldLink RX9 95 "SoundLawsModel" "readHere" "I") q_X9_isSlash_g_3) (fun _ h9 => h9) rfl (by decide +kernel) rfl rfl (Nat.le_of_ble_eq_true rfl) dX9_isSlash_70 (fun H locs hP hD hS => ?_)
          have hP : va_P g.1 vwCl [(k0, .inr (9, [.ref m0, .int s1, .int s2, .int (nI (wd + 1)), .int 0, .int (nI n), .int (nI yt), .ref m7, .ref m8, .ref m9, .int s10, .int s11, .int s12, .ref m13, .ref m14, .ref m15, .int s16, .ref m17, .ref m18, .ref m19, .ref m20, .ref m21, .ref m22, .ref m23, .ref m24, .ref m25, .ref m26, .ref m27, .ref m28, .int s29, .ref m30, .int s31, .int s32, .int s33, .int s34, .int s35, .ref m36, .ref m37, .ref m38, .ref m39, .long s40]))] H := hP
          have hD : va_D A [(k0, .inr (9, [.ref m0, .int s1, .int s2, .int (nI (wd + 1)), .int 0, .int (nI n), .int (nI yt), .ref m7, .ref m8, .ref m9, .int s10, .int s11, .int s12, .ref m13, .ref m14, .ref m15, .int s16, .ref m17, .ref m18, .ref m19, .ref m20, .ref m21, .ref m22, .ref m23, .ref m24, .ref m25, .ref m26, .ref m27, .ref m28, .int s29, .ref m30, .int s31, .int s32, .int s33, .int s34, .int s35, .ref m36, .ref m37, .ref m38, .ref m39, .long s40]))] := hD
          refine lv_iload_n hx hb dX9_isSlash_73 rfl (lv_at hl 0 rfl) ?_
          refine W.widen (k := 0) (n := 0) (Nat.le_of_ble_eq_true rfl) (Nat.le_of_ble_eq_true rfl) ?_
          exact k_rz hx hb hr hlocks hS hP hD rfl ⟨(nI n), rfl, (by unfold msl; rw [if_neg c4_3, if_pos ((nI_eq (b := 0) (by omega) (by decide)).mp c15_7), if_pos (lt_of_nle (k := 4) (n := wd) (by omega) (by omega) c26_15)]), (if_pos ((nI_eq (b := 1) (by omega) (by decide)).mp c41_19))⟩ dX9_isSlash_74
def po_X9_isComma_g (g : GG) (k0 : Nat) (m0 : Nat) (s1 : Int32) (m7 : Nat) (m8 : Nat) (m9 : Nat) (s10 : Int32) (s11 : Int32) (s12 : Int32) (m13 : Nat) (m14 : Nat) (m15 : Nat) (s16 : Int32) (m17 : Nat) (m18 : Nat) (m19 : Nat) (m20 : Nat) (m21 : Nat) (m22 : Nat) (m23 : Nat) (m24 : Nat) (m25 : Nat) (m26 : Nat) (m27 : Nat) (m28 : Nat) (s29 : Int32) (m30 : Nat) (s31 : Int32) (s32 : Int32) (s33 : Int32) (s34 : Int32) (s35 : Int32) (m36 : Nat) (m37 : Nat) (m38 : Nat) (m39 : Nat) (s40 : Int64) (y : Nat) (wd : Nat) (n : Nat) (yt : Nat) (x5 : Int32) : Int32 → va_W → Prop := fun (r : Int32) w => ∃ (yt2 : Nat), w = [(k0, .inr (9, [.ref m0, .int s1, .int (nI y), .int (-1), .int (nI n), .int x5, .int (nI yt2), .ref m7, .ref m8, .ref m9, .int s10, .int s11, .int s12, .ref m13, .ref m14, .ref m15, .int s16, .ref m17, .ref m18, .ref m19, .ref m20, .ref m21, .ref m22, .ref m23, .ref m24, .ref m25, .ref m26, .ref m27, .ref m28, .int s29, .ref m30, .int s31, .int s32, .int s33, .int s34, .int s35, .ref m36, .ref m37, .ref m38, .ref m39, .long s40]))] ∧ (mcm wd n x5 yt y = r) ∧ ((if yt = 0 then wd else yt) = yt2)
theorem q_X9_isComma_g_f9 : ∀ w ∈ u_ws RX9 TX9 41, w ∈ wsX9_isComma := by decide +kernel
theorem q_X9_isComma_g_1 : (Cond.fieldLink RX9 108 "SoundLawsModel" "readTongues" "I") ∈ wsX9_isComma := by decide +kernel
theorem q_X9_isComma_g_2 : (Cond.fieldLink RX9 98 "SoundLawsModel" "readWords" "I") ∈ wsX9_isComma := by decide +kernel
theorem q_X9_isComma_g_3 : (Cond.fieldLink RX9 115 "SoundLawsModel" "readSets" "I") ∈ wsX9_isComma := by decide +kernel
set_option maxHeartbeats 1500000 in
set_option maxRecDepth 100000 in
theorem c_X9_isComma_g (l : Launch) (g : GG) (k0 : Nat) (m0 : Nat) (s1 : Int32) (m7 : Nat) (m8 : Nat) (m9 : Nat) (s10 : Int32) (s11 : Int32) (s12 : Int32) (m13 : Nat) (m14 : Nat) (m15 : Nat) (s16 : Int32) (m17 : Nat) (m18 : Nat) (m19 : Nat) (m20 : Nat) (m21 : Nat) (m22 : Nat) (m23 : Nat) (m24 : Nat) (m25 : Nat) (m26 : Nat) (m27 : Nat) (m28 : Nat) (s29 : Int32) (m30 : Nat) (s31 : Int32) (s32 : Int32) (s33 : Int32) (s34 : Int32) (s35 : Int32) (m36 : Nat) (m37 : Nat) (m38 : Nat) (m39 : Nat) (s40 : Int64) (y : Nat) (wd : Nat) (n : Nat) (yt : Nat) (x5 : Int32) (hw : wd < 6) (hn : n < 6) (hyt : yt ≤ 4) (hy : y ≤ 5) (sz : Nat) : MetI l yX9_isComma wsX9_isComma ({ frames := 2, cells := 0, slots := 0, locals := 40 }) g [.ref k0] [(k0, .inr (9, [.ref m0, .int s1, .int (nI y), .int (nI wd), .int (nI n), .int x5, .int (nI yt), .ref m7, .ref m8, .ref m9, .int s10, .int s11, .int s12, .ref m13, .ref m14, .ref m15, .int s16, .ref m17, .ref m18, .ref m19, .ref m20, .ref m21, .ref m22, .ref m23, .ref m24, .ref m25, .ref m26, .ref m27, .ref m28, .int s29, .ref m30, .int s31, .int s32, .int s33, .int s34, .int s35, .ref m36, .ref m37, .ref m38, .ref m39, .long s40]))] sz (po_X9_isComma_g g k0 m0 s1 m7 m8 m9 s10 s11 s12 m13 m14 m15 s16 m17 m18 m19 m20 m21 m22 m23 m24 m25 m26 m27 m28 s29 m30 s31 s32 s33 s34 s35 m36 m37 m38 m39 s40 y wd n yt x5) 0 0 := by
  refine k_of (l := l) (y := yX9_isComma) (ws := wsX9_isComma) (rm := { frames := 2, cells := 0, slots := 0, locals := 40 }) (mc := 0) (ms := 0) (av := [.ref k0]) (g := g) (wc := [(k0, .inr (9, [.ref m0, .int s1, .int (nI y), .int (nI wd), .int (nI n), .int x5, .int (nI yt), .ref m7, .ref m8, .ref m9, .int s10, .int s11, .int s12, .ref m13, .ref m14, .ref m15, .int s16, .ref m17, .ref m18, .ref m19, .ref m20, .ref m21, .ref m22, .ref m23, .ref m24, .ref m25, .ref m26, .ref m27, .ref m28, .int s29, .ref m30, .int s31, .int s32, .int s33, .int s34, .int s35, .ref m36, .ref m37, .ref m38, .ref m39, .long s40]))]) (Qc := fun A => va_Qi (po_X9_isComma_g g k0 m0 s1 m7 m8 m9 s10 s11 s12 m13 m14 m15 s16 m17 m18 m19 m20 m21 m22 m23 m24 m25 m26 m27 m28 s29 m30 s31 s32 s33 s34 s35 m36 m37 m38 m39 s40 y wd n yt x5) (bk g A) A) (cc := cX9_isComma) (maxL := 2) (ret := (some .boolean)) (by decide) rfl (Nat.le_of_ble_eq_true rfl) ?_ sz
  intro p e s m below meth c hx hb hr hts hown hlocks hnm hml A hA hE hZ hP hD hS ls hl
  have hown : s.vm.findClass RX9 = some m.cls := hown
  have hl : lv_has ls 2 [(0, .ref k0)] := hl
  refine lv_aload_n hx hb dX9_isComma_0 rfl (lv_at hl 0 rfl) ?_
  refine k_ci (wr := []) hP hD hS hA [0] [] rfl rfl (by decide) (by decide) (va_runV (As := []) (rest := []) ⟨hx, hb, hml, hown, hts⟩ (c_X9_isSetWhole_g l g k0 m0 s1 (nI y) m7 m8 m9 s10 s11 s12 m13 m14 m15 s16 m17 m18 m19 m20 m21 m22 m23 m24 m25 m26 m27 m28 s29 m30 s31 s32 s33 s34 s35 m36 m37 m38 m39 s40 wd n yt x5 (by first | assumption | omega) (by first | assumption | omega) (by first | assumption | omega) s.heap.size) (cwV 0 hts gX9_isComma_X9_isSetWhole rfl rfl rfl (by decide +kernel) ⟨Nat.le_of_ble_eq_true rfl, Nat.le_of_ble_eq_true rfl⟩) (k_preV hE hZ hP hD hS hA [0] rfl (by decide) (va_recv hE.1 hP (ci := 9) (q0 := 0) rfl rfl)) rfl rfl hl.1 rfl (lv_room (Nat.le_of_ble_eq_true rfl)) dX9_isComma_1 ⟨Nat.le_of_ble_eq_true rfl, Nat.le_of_ble_eq_true rfl⟩) (fun r_1 w1 H locs hw hP hD hS => ?_)
  obtain ⟨rfl, rfl⟩ := hw
  have hP : va_P g.1 vwCl [(k0, .inr (9, [.ref m0, .int s1, .int (nI y), .int (nI wd), .int (nI n), .int x5, .int (nI yt), .ref m7, .ref m8, .ref m9, .int s10, .int s11, .int s12, .ref m13, .ref m14, .ref m15, .int s16, .ref m17, .ref m18, .ref m19, .ref m20, .ref m21, .ref m22, .ref m23, .ref m24, .ref m25, .ref m26, .ref m27, .ref m28, .int s29, .ref m30, .int s31, .int s32, .int s33, .int s34, .int s35, .ref m36, .ref m37, .ref m38, .ref m39, .long s40]))] H := hP
  have hD : va_D A [(k0, .inr (9, [.ref m0, .int s1, .int (nI y), .int (nI wd), .int (nI n), .int x5, .int (nI yt), .ref m7, .ref m8, .ref m9, .int s10, .int s11, .int s12, .ref m13, .ref m14, .ref m15, .int s16, .ref m17, .ref m18, .ref m19, .ref m20, .ref m21, .ref m22, .ref m23, .ref m24, .ref m25, .ref m26, .ref m27, .ref m28, .int s29, .ref m30, .int s31, .int s32, .int s33, .int s34, .int s35, .ref m36, .ref m37, .ref m38, .ref m39, .long s40]))] := hD
  refine lv_if_eq (tgt := 19) hx hb dX9_isComma_4 (by decide) (fun c4_3 => ?_) (fun c4_3 => ?_)
  · skip
    refine lv_iconst (v := 0) hx hb dX9_isComma_19 (by decide) ?_
    refine lv_istore_n (lv' := [(1, .int 0), (0, .ref k0)]) hx hb dX9_isComma_20 rfl hl (by decide) rfl (fun ls hl => ?_)
    refine lv_aload_n hx hb dX9_isComma_21 rfl (lv_at hl 1 rfl) ?_
    refine lv_aload_n hx hb dX9_isComma_22 rfl (lv_at hl 1 rfl) ?_
    refine va_get (D := g.1) (ci := 9) (v := .int (nI yt)) (C := RX9) (T := TX9) (N := 41) hx hb hts q_X9_isComma_g_f9 hown hE.1 hP 0 rfl rfl 6 (by decide) (hts (.fieldLink RX9 108 "SoundLawsModel" "readTongues" "I") q_X9_isComma_g_1) (fun _ h9 => h9) rfl dX9_isComma_23 ?_
    refine lv_if_ne (tgt := 36) hx hb dX9_isComma_26 (by decide) (fun c26_4 => ?_) (fun c26_4 => ?_)
    · skip
      refine lv_aload_n hx hb dX9_isComma_36 rfl (lv_at hl 1 rfl) ?_
      refine va_get (D := g.1) (ci := 9) (v := .int (nI yt)) (C := RX9) (T := TX9) (N := 41) hx hb hts q_X9_isComma_g_f9 hown hE.1 hP 0 rfl rfl 6 (by decide) (hts (.fieldLink RX9 108 "SoundLawsModel" "readTongues" "I") q_X9_isComma_g_1) (fun _ h9 => h9) rfl dX9_isComma_37 ?_
      refine va_put (D := g.1) (ci := 9) (v := .int (nI yt)) (ty := .int) (C := RX9) (T := TX9) (N := 41) hx hb hts q_X9_isComma_g_f9 tyX9 tyX9_ok nmX9 hown hE.1 hP hD hS 0 rfl rfl 6 (by decide) (hts (.fieldLink RX9 108 "SoundLawsModel" "readTongues" "I") q_X9_isComma_g_1) (fun _ h9 => h9) rfl (by decide +kernel) rfl rfl (Nat.le_of_ble_eq_true rfl) dX9_isComma_40 (fun H locs hP hD hS => ?_)
      have hP : va_P g.1 vwCl [(k0, .inr (9, [.ref m0, .int s1, .int (nI y), .int (nI wd), .int (nI n), .int x5, .int (nI yt), .ref m7, .ref m8, .ref m9, .int s10, .int s11, .int s12, .ref m13, .ref m14, .ref m15, .int s16, .ref m17, .ref m18, .ref m19, .ref m20, .ref m21, .ref m22, .ref m23, .ref m24, .ref m25, .ref m26, .ref m27, .ref m28, .int s29, .ref m30, .int s31, .int s32, .int s33, .int s34, .int s35, .ref m36, .ref m37, .ref m38, .ref m39, .long s40]))] H := hP
      have hD : va_D A [(k0, .inr (9, [.ref m0, .int s1, .int (nI y), .int (nI wd), .int (nI n), .int x5, .int (nI yt), .ref m7, .ref m8, .ref m9, .int s10, .int s11, .int s12, .ref m13, .ref m14, .ref m15, .int s16, .ref m17, .ref m18, .ref m19, .ref m20, .ref m21, .ref m22, .ref m23, .ref m24, .ref m25, .ref m26, .ref m27, .ref m28, .int s29, .ref m30, .int s31, .int s32, .int s33, .int s34, .int s35, .ref m36, .ref m37, .ref m38, .ref m39, .long s40]))] := hD
      refine lv_aload_n hx hb dX9_isComma_43 rfl (lv_at hl 1 rfl) ?_
      refine lv_iconst (v := (-1)) hx hb dX9_isComma_44 (by decide) ?_
      refine va_put (D := g.1) (ci := 9) (v := .int (-1)) (ty := .int) (C := RX9) (T := TX9) (N := 41) hx hb hts q_X9_isComma_g_f9 tyX9 tyX9_ok nmX9 hown hE.1 hP hD hS 0 rfl rfl 3 (by decide) (hts (.fieldLink RX9 98 "SoundLawsModel" "readWords" "I") q_X9_isComma_g_2) (fun _ h9 => h9) rfl (by decide +kernel) rfl rfl (Nat.le_of_ble_eq_true rfl) dX9_isComma_45 (fun H locs hP hD hS => ?_)
      have hP : va_P g.1 vwCl [(k0, .inr (9, [.ref m0, .int s1, .int (nI y), .int (-1), .int (nI n), .int x5, .int (nI yt), .ref m7, .ref m8, .ref m9, .int s10, .int s11, .int s12, .ref m13, .ref m14, .ref m15, .int s16, .ref m17, .ref m18, .ref m19, .ref m20, .ref m21, .ref m22, .ref m23, .ref m24, .ref m25, .ref m26, .ref m27, .ref m28, .int s29, .ref m30, .int s31, .int s32, .int s33, .int s34, .int s35, .ref m36, .ref m37, .ref m38, .ref m39, .long s40]))] H := hP
      have hD : va_D A [(k0, .inr (9, [.ref m0, .int s1, .int (nI y), .int (-1), .int (nI n), .int x5, .int (nI yt), .ref m7, .ref m8, .ref m9, .int s10, .int s11, .int s12, .ref m13, .ref m14, .ref m15, .int s16, .ref m17, .ref m18, .ref m19, .ref m20, .ref m21, .ref m22, .ref m23, .ref m24, .ref m25, .ref m26, .ref m27, .ref m28, .int s29, .ref m30, .int s31, .int s32, .int s33, .int s34, .int s35, .ref m36, .ref m37, .ref m38, .ref m39, .long s40]))] := hD
      refine lv_iload_n hx hb dX9_isComma_48 rfl (lv_at hl 0 rfl) ?_
      refine W.widen (k := 0) (n := 0) (Nat.le_of_ble_eq_true rfl) (Nat.le_of_ble_eq_true rfl) ?_
      exact k_rz hx hb hr hlocks hS hP hD rfl ⟨yt, rfl, (by unfold mcm; rw [if_pos c4_3]), (if_neg (fun q => c26_4 (by rw [q]; rfl)))⟩ dX9_isComma_49
    · skip
      refine lv_aload_n hx hb dX9_isComma_29 rfl (lv_at hl 1 rfl) ?_
      refine va_get (D := g.1) (ci := 9) (v := .int (nI wd)) (C := RX9) (T := TX9) (N := 41) hx hb hts q_X9_isComma_g_f9 hown hE.1 hP 0 rfl rfl 3 (by decide) (hts (.fieldLink RX9 98 "SoundLawsModel" "readWords" "I") q_X9_isComma_g_2) (fun _ h9 => h9) rfl dX9_isComma_30 ?_
      refine lv_goto (tgt := 40) hx hb dX9_isComma_33 (by decide) ?_
      refine va_put (D := g.1) (ci := 9) (v := .int (nI wd)) (ty := .int) (C := RX9) (T := TX9) (N := 41) hx hb hts q_X9_isComma_g_f9 tyX9 tyX9_ok nmX9 hown hE.1 hP hD hS 0 rfl rfl 6 (by decide) (hts (.fieldLink RX9 108 "SoundLawsModel" "readTongues" "I") q_X9_isComma_g_1) (fun _ h9 => h9) rfl (by decide +kernel) rfl rfl (Nat.le_of_ble_eq_true rfl) dX9_isComma_40 (fun H locs hP hD hS => ?_)
      have hP : va_P g.1 vwCl [(k0, .inr (9, [.ref m0, .int s1, .int (nI y), .int (nI wd), .int (nI n), .int x5, .int (nI wd), .ref m7, .ref m8, .ref m9, .int s10, .int s11, .int s12, .ref m13, .ref m14, .ref m15, .int s16, .ref m17, .ref m18, .ref m19, .ref m20, .ref m21, .ref m22, .ref m23, .ref m24, .ref m25, .ref m26, .ref m27, .ref m28, .int s29, .ref m30, .int s31, .int s32, .int s33, .int s34, .int s35, .ref m36, .ref m37, .ref m38, .ref m39, .long s40]))] H := hP
      have hD : va_D A [(k0, .inr (9, [.ref m0, .int s1, .int (nI y), .int (nI wd), .int (nI n), .int x5, .int (nI wd), .ref m7, .ref m8, .ref m9, .int s10, .int s11, .int s12, .ref m13, .ref m14, .ref m15, .int s16, .ref m17, .ref m18, .ref m19, .ref m20, .ref m21, .ref m22, .ref m23, .ref m24, .ref m25, .ref m26, .ref m27, .ref m28, .int s29, .ref m30, .int s31, .int s32, .int s33, .int s34, .int s35, .ref m36, .ref m37, .ref m38, .ref m39, .long s40]))] := hD
      refine lv_aload_n hx hb dX9_isComma_43 rfl (lv_at hl 1 rfl) ?_
      refine lv_iconst (v := (-1)) hx hb dX9_isComma_44 (by decide) ?_
      refine va_put (D := g.1) (ci := 9) (v := .int (-1)) (ty := .int) (C := RX9) (T := TX9) (N := 41) hx hb hts q_X9_isComma_g_f9 tyX9 tyX9_ok nmX9 hown hE.1 hP hD hS 0 rfl rfl 3 (by decide) (hts (.fieldLink RX9 98 "SoundLawsModel" "readWords" "I") q_X9_isComma_g_2) (fun _ h9 => h9) rfl (by decide +kernel) rfl rfl (Nat.le_of_ble_eq_true rfl) dX9_isComma_45 (fun H locs hP hD hS => ?_)
      have hP : va_P g.1 vwCl [(k0, .inr (9, [.ref m0, .int s1, .int (nI y), .int (-1), .int (nI n), .int x5, .int (nI wd), .ref m7, .ref m8, .ref m9, .int s10, .int s11, .int s12, .ref m13, .ref m14, .ref m15, .int s16, .ref m17, .ref m18, .ref m19, .ref m20, .ref m21, .ref m22, .ref m23, .ref m24, .ref m25, .ref m26, .ref m27, .ref m28, .int s29, .ref m30, .int s31, .int s32, .int s33, .int s34, .int s35, .ref m36, .ref m37, .ref m38, .ref m39, .long s40]))] H := hP
      have hD : va_D A [(k0, .inr (9, [.ref m0, .int s1, .int (nI y), .int (-1), .int (nI n), .int x5, .int (nI wd), .ref m7, .ref m8, .ref m9, .int s10, .int s11, .int s12, .ref m13, .ref m14, .ref m15, .int s16, .ref m17, .ref m18, .ref m19, .ref m20, .ref m21, .ref m22, .ref m23, .ref m24, .ref m25, .ref m26, .ref m27, .ref m28, .int s29, .ref m30, .int s31, .int s32, .int s33, .int s34, .int s35, .ref m36, .ref m37, .ref m38, .ref m39, .long s40]))] := hD
      refine lv_iload_n hx hb dX9_isComma_48 rfl (lv_at hl 0 rfl) ?_
      refine W.widen (k := 0) (n := 0) (Nat.le_of_ble_eq_true rfl) (Nat.le_of_ble_eq_true rfl) ?_
      exact k_rz hx hb hr hlocks hS hP hD rfl ⟨wd, rfl, (by unfold mcm; rw [if_pos c4_3]), (if_pos ((nI_eq (b := 0) (by omega) (by decide)).mp c26_4))⟩ dX9_isComma_49
  · skip
    refine lv_aload_n hx hb dX9_isComma_7 rfl (lv_at hl 0 rfl) ?_
    refine va_get (D := g.1) (ci := 9) (v := .int (nI y)) (C := RX9) (T := TX9) (N := 41) hx hb hts q_X9_isComma_g_f9 hown hE.1 hP 0 rfl rfl 2 (by decide) (hts (.fieldLink RX9 115 "SoundLawsModel" "readSets" "I") q_X9_isComma_g_3) (fun _ h9 => h9) rfl dX9_isComma_8 ?_
    refine lv_iconst (v := 5) hx hb dX9_isComma_11 (by decide) ?_
    refine lv_icmp_ge (tgt := 19) hx hb dX9_isComma_12 (by decide) (fun c12_5 => ?_) (fun c12_5 => ?_)
    · skip
      refine lv_iconst (v := 0) hx hb dX9_isComma_19 (by decide) ?_
      refine lv_istore_n (lv' := [(1, .int 0), (0, .ref k0)]) hx hb dX9_isComma_20 rfl hl (by decide) rfl (fun ls hl => ?_)
      refine lv_aload_n hx hb dX9_isComma_21 rfl (lv_at hl 1 rfl) ?_
      refine lv_aload_n hx hb dX9_isComma_22 rfl (lv_at hl 1 rfl) ?_
      refine va_get (D := g.1) (ci := 9) (v := .int (nI yt)) (C := RX9) (T := TX9) (N := 41) hx hb hts q_X9_isComma_g_f9 hown hE.1 hP 0 rfl rfl 6 (by decide) (hts (.fieldLink RX9 108 "SoundLawsModel" "readTongues" "I") q_X9_isComma_g_1) (fun _ h9 => h9) rfl dX9_isComma_23 ?_
      refine lv_if_ne (tgt := 36) hx hb dX9_isComma_26 (by decide) (fun c26_6 => ?_) (fun c26_6 => ?_)
      · skip
        refine lv_aload_n hx hb dX9_isComma_36 rfl (lv_at hl 1 rfl) ?_
        refine va_get (D := g.1) (ci := 9) (v := .int (nI yt)) (C := RX9) (T := TX9) (N := 41) hx hb hts q_X9_isComma_g_f9 hown hE.1 hP 0 rfl rfl 6 (by decide) (hts (.fieldLink RX9 108 "SoundLawsModel" "readTongues" "I") q_X9_isComma_g_1) (fun _ h9 => h9) rfl dX9_isComma_37 ?_
        refine va_put (D := g.1) (ci := 9) (v := .int (nI yt)) (ty := .int) (C := RX9) (T := TX9) (N := 41) hx hb hts q_X9_isComma_g_f9 tyX9 tyX9_ok nmX9 hown hE.1 hP hD hS 0 rfl rfl 6 (by decide) (hts (.fieldLink RX9 108 "SoundLawsModel" "readTongues" "I") q_X9_isComma_g_1) (fun _ h9 => h9) rfl (by decide +kernel) rfl rfl (Nat.le_of_ble_eq_true rfl) dX9_isComma_40 (fun H locs hP hD hS => ?_)
        have hP : va_P g.1 vwCl [(k0, .inr (9, [.ref m0, .int s1, .int (nI y), .int (nI wd), .int (nI n), .int x5, .int (nI yt), .ref m7, .ref m8, .ref m9, .int s10, .int s11, .int s12, .ref m13, .ref m14, .ref m15, .int s16, .ref m17, .ref m18, .ref m19, .ref m20, .ref m21, .ref m22, .ref m23, .ref m24, .ref m25, .ref m26, .ref m27, .ref m28, .int s29, .ref m30, .int s31, .int s32, .int s33, .int s34, .int s35, .ref m36, .ref m37, .ref m38, .ref m39, .long s40]))] H := hP
        have hD : va_D A [(k0, .inr (9, [.ref m0, .int s1, .int (nI y), .int (nI wd), .int (nI n), .int x5, .int (nI yt), .ref m7, .ref m8, .ref m9, .int s10, .int s11, .int s12, .ref m13, .ref m14, .ref m15, .int s16, .ref m17, .ref m18, .ref m19, .ref m20, .ref m21, .ref m22, .ref m23, .ref m24, .ref m25, .ref m26, .ref m27, .ref m28, .int s29, .ref m30, .int s31, .int s32, .int s33, .int s34, .int s35, .ref m36, .ref m37, .ref m38, .ref m39, .long s40]))] := hD
        refine lv_aload_n hx hb dX9_isComma_43 rfl (lv_at hl 1 rfl) ?_
        refine lv_iconst (v := (-1)) hx hb dX9_isComma_44 (by decide) ?_
        refine va_put (D := g.1) (ci := 9) (v := .int (-1)) (ty := .int) (C := RX9) (T := TX9) (N := 41) hx hb hts q_X9_isComma_g_f9 tyX9 tyX9_ok nmX9 hown hE.1 hP hD hS 0 rfl rfl 3 (by decide) (hts (.fieldLink RX9 98 "SoundLawsModel" "readWords" "I") q_X9_isComma_g_2) (fun _ h9 => h9) rfl (by decide +kernel) rfl rfl (Nat.le_of_ble_eq_true rfl) dX9_isComma_45 (fun H locs hP hD hS => ?_)
        have hP : va_P g.1 vwCl [(k0, .inr (9, [.ref m0, .int s1, .int (nI y), .int (-1), .int (nI n), .int x5, .int (nI yt), .ref m7, .ref m8, .ref m9, .int s10, .int s11, .int s12, .ref m13, .ref m14, .ref m15, .int s16, .ref m17, .ref m18, .ref m19, .ref m20, .ref m21, .ref m22, .ref m23, .ref m24, .ref m25, .ref m26, .ref m27, .ref m28, .int s29, .ref m30, .int s31, .int s32, .int s33, .int s34, .int s35, .ref m36, .ref m37, .ref m38, .ref m39, .long s40]))] H := hP
        have hD : va_D A [(k0, .inr (9, [.ref m0, .int s1, .int (nI y), .int (-1), .int (nI n), .int x5, .int (nI yt), .ref m7, .ref m8, .ref m9, .int s10, .int s11, .int s12, .ref m13, .ref m14, .ref m15, .int s16, .ref m17, .ref m18, .ref m19, .ref m20, .ref m21, .ref m22, .ref m23, .ref m24, .ref m25, .ref m26, .ref m27, .ref m28, .int s29, .ref m30, .int s31, .int s32, .int s33, .int s34, .int s35, .ref m36, .ref m37, .ref m38, .ref m39, .long s40]))] := hD
        refine lv_iload_n hx hb dX9_isComma_48 rfl (lv_at hl 0 rfl) ?_
        refine W.widen (k := 0) (n := 0) (Nat.le_of_ble_eq_true rfl) (Nat.le_of_ble_eq_true rfl) ?_
        exact k_rz hx hb hr hlocks hS hP hD rfl ⟨yt, rfl, (by unfold mcm; rw [if_neg c4_3, if_neg (Nat.not_lt.mpr (ge_of_le (k := 5) (n := y) (by decide) (by omega) c12_5))]), (if_neg (fun q => c26_6 (by rw [q]; rfl)))⟩ dX9_isComma_49
      · skip
        refine lv_aload_n hx hb dX9_isComma_29 rfl (lv_at hl 1 rfl) ?_
        refine va_get (D := g.1) (ci := 9) (v := .int (nI wd)) (C := RX9) (T := TX9) (N := 41) hx hb hts q_X9_isComma_g_f9 hown hE.1 hP 0 rfl rfl 3 (by decide) (hts (.fieldLink RX9 98 "SoundLawsModel" "readWords" "I") q_X9_isComma_g_2) (fun _ h9 => h9) rfl dX9_isComma_30 ?_
        refine lv_goto (tgt := 40) hx hb dX9_isComma_33 (by decide) ?_
        refine va_put (D := g.1) (ci := 9) (v := .int (nI wd)) (ty := .int) (C := RX9) (T := TX9) (N := 41) hx hb hts q_X9_isComma_g_f9 tyX9 tyX9_ok nmX9 hown hE.1 hP hD hS 0 rfl rfl 6 (by decide) (hts (.fieldLink RX9 108 "SoundLawsModel" "readTongues" "I") q_X9_isComma_g_1) (fun _ h9 => h9) rfl (by decide +kernel) rfl rfl (Nat.le_of_ble_eq_true rfl) dX9_isComma_40 (fun H locs hP hD hS => ?_)
        have hP : va_P g.1 vwCl [(k0, .inr (9, [.ref m0, .int s1, .int (nI y), .int (nI wd), .int (nI n), .int x5, .int (nI wd), .ref m7, .ref m8, .ref m9, .int s10, .int s11, .int s12, .ref m13, .ref m14, .ref m15, .int s16, .ref m17, .ref m18, .ref m19, .ref m20, .ref m21, .ref m22, .ref m23, .ref m24, .ref m25, .ref m26, .ref m27, .ref m28, .int s29, .ref m30, .int s31, .int s32, .int s33, .int s34, .int s35, .ref m36, .ref m37, .ref m38, .ref m39, .long s40]))] H := hP
        have hD : va_D A [(k0, .inr (9, [.ref m0, .int s1, .int (nI y), .int (nI wd), .int (nI n), .int x5, .int (nI wd), .ref m7, .ref m8, .ref m9, .int s10, .int s11, .int s12, .ref m13, .ref m14, .ref m15, .int s16, .ref m17, .ref m18, .ref m19, .ref m20, .ref m21, .ref m22, .ref m23, .ref m24, .ref m25, .ref m26, .ref m27, .ref m28, .int s29, .ref m30, .int s31, .int s32, .int s33, .int s34, .int s35, .ref m36, .ref m37, .ref m38, .ref m39, .long s40]))] := hD
        refine lv_aload_n hx hb dX9_isComma_43 rfl (lv_at hl 1 rfl) ?_
        refine lv_iconst (v := (-1)) hx hb dX9_isComma_44 (by decide) ?_
        refine va_put (D := g.1) (ci := 9) (v := .int (-1)) (ty := .int) (C := RX9) (T := TX9) (N := 41) hx hb hts q_X9_isComma_g_f9 tyX9 tyX9_ok nmX9 hown hE.1 hP hD hS 0 rfl rfl 3 (by decide) (hts (.fieldLink RX9 98 "SoundLawsModel" "readWords" "I") q_X9_isComma_g_2) (fun _ h9 => h9) rfl (by decide +kernel) rfl rfl (Nat.le_of_ble_eq_true rfl) dX9_isComma_45 (fun H locs hP hD hS => ?_)
        have hP : va_P g.1 vwCl [(k0, .inr (9, [.ref m0, .int s1, .int (nI y), .int (-1), .int (nI n), .int x5, .int (nI wd), .ref m7, .ref m8, .ref m9, .int s10, .int s11, .int s12, .ref m13, .ref m14, .ref m15, .int s16, .ref m17, .ref m18, .ref m19, .ref m20, .ref m21, .ref m22, .ref m23, .ref m24, .ref m25, .ref m26, .ref m27, .ref m28, .int s29, .ref m30, .int s31, .int s32, .int s33, .int s34, .int s35, .ref m36, .ref m37, .ref m38, .ref m39, .long s40]))] H := hP
        have hD : va_D A [(k0, .inr (9, [.ref m0, .int s1, .int (nI y), .int (-1), .int (nI n), .int x5, .int (nI wd), .ref m7, .ref m8, .ref m9, .int s10, .int s11, .int s12, .ref m13, .ref m14, .ref m15, .int s16, .ref m17, .ref m18, .ref m19, .ref m20, .ref m21, .ref m22, .ref m23, .ref m24, .ref m25, .ref m26, .ref m27, .ref m28, .int s29, .ref m30, .int s31, .int s32, .int s33, .int s34, .int s35, .ref m36, .ref m37, .ref m38, .ref m39, .long s40]))] := hD
        refine lv_iload_n hx hb dX9_isComma_48 rfl (lv_at hl 0 rfl) ?_
        refine W.widen (k := 0) (n := 0) (Nat.le_of_ble_eq_true rfl) (Nat.le_of_ble_eq_true rfl) ?_
        exact k_rz hx hb hr hlocks hS hP hD rfl ⟨wd, rfl, (by unfold mcm; rw [if_neg c4_3, if_neg (Nat.not_lt.mpr (ge_of_le (k := 5) (n := y) (by decide) (by omega) c12_5))]), (if_pos ((nI_eq (b := 0) (by omega) (by decide)).mp c26_6))⟩ dX9_isComma_49
    · skip
      refine lv_iconst (v := 1) hx hb dX9_isComma_15 (by decide) ?_
      refine lv_goto (tgt := 20) hx hb dX9_isComma_16 (by decide) ?_
      refine lv_istore_n (lv' := [(1, .int 1), (0, .ref k0)]) hx hb dX9_isComma_20 rfl hl (by decide) rfl (fun ls hl => ?_)
      refine lv_aload_n hx hb dX9_isComma_21 rfl (lv_at hl 1 rfl) ?_
      refine lv_aload_n hx hb dX9_isComma_22 rfl (lv_at hl 1 rfl) ?_
      refine va_get (D := g.1) (ci := 9) (v := .int (nI yt)) (C := RX9) (T := TX9) (N := 41) hx hb hts q_X9_isComma_g_f9 hown hE.1 hP 0 rfl rfl 6 (by decide) (hts (.fieldLink RX9 108 "SoundLawsModel" "readTongues" "I") q_X9_isComma_g_1) (fun _ h9 => h9) rfl dX9_isComma_23 ?_
      refine lv_if_ne (tgt := 36) hx hb dX9_isComma_26 (by decide) (fun c26_7 => ?_) (fun c26_7 => ?_)
      · skip
        refine lv_aload_n hx hb dX9_isComma_36 rfl (lv_at hl 1 rfl) ?_
        refine va_get (D := g.1) (ci := 9) (v := .int (nI yt)) (C := RX9) (T := TX9) (N := 41) hx hb hts q_X9_isComma_g_f9 hown hE.1 hP 0 rfl rfl 6 (by decide) (hts (.fieldLink RX9 108 "SoundLawsModel" "readTongues" "I") q_X9_isComma_g_1) (fun _ h9 => h9) rfl dX9_isComma_37 ?_
        refine va_put (D := g.1) (ci := 9) (v := .int (nI yt)) (ty := .int) (C := RX9) (T := TX9) (N := 41) hx hb hts q_X9_isComma_g_f9 tyX9 tyX9_ok nmX9 hown hE.1 hP hD hS 0 rfl rfl 6 (by decide) (hts (.fieldLink RX9 108 "SoundLawsModel" "readTongues" "I") q_X9_isComma_g_1) (fun _ h9 => h9) rfl (by decide +kernel) rfl rfl (Nat.le_of_ble_eq_true rfl) dX9_isComma_40 (fun H locs hP hD hS => ?_)
        have hP : va_P g.1 vwCl [(k0, .inr (9, [.ref m0, .int s1, .int (nI y), .int (nI wd), .int (nI n), .int x5, .int (nI yt), .ref m7, .ref m8, .ref m9, .int s10, .int s11, .int s12, .ref m13, .ref m14, .ref m15, .int s16, .ref m17, .ref m18, .ref m19, .ref m20, .ref m21, .ref m22, .ref m23, .ref m24, .ref m25, .ref m26, .ref m27, .ref m28, .int s29, .ref m30, .int s31, .int s32, .int s33, .int s34, .int s35, .ref m36, .ref m37, .ref m38, .ref m39, .long s40]))] H := hP
        have hD : va_D A [(k0, .inr (9, [.ref m0, .int s1, .int (nI y), .int (nI wd), .int (nI n), .int x5, .int (nI yt), .ref m7, .ref m8, .ref m9, .int s10, .int s11, .int s12, .ref m13, .ref m14, .ref m15, .int s16, .ref m17, .ref m18, .ref m19, .ref m20, .ref m21, .ref m22, .ref m23, .ref m24, .ref m25, .ref m26, .ref m27, .ref m28, .int s29, .ref m30, .int s31, .int s32, .int s33, .int s34, .int s35, .ref m36, .ref m37, .ref m38, .ref m39, .long s40]))] := hD
        refine lv_aload_n hx hb dX9_isComma_43 rfl (lv_at hl 1 rfl) ?_
        refine lv_iconst (v := (-1)) hx hb dX9_isComma_44 (by decide) ?_
        refine va_put (D := g.1) (ci := 9) (v := .int (-1)) (ty := .int) (C := RX9) (T := TX9) (N := 41) hx hb hts q_X9_isComma_g_f9 tyX9 tyX9_ok nmX9 hown hE.1 hP hD hS 0 rfl rfl 3 (by decide) (hts (.fieldLink RX9 98 "SoundLawsModel" "readWords" "I") q_X9_isComma_g_2) (fun _ h9 => h9) rfl (by decide +kernel) rfl rfl (Nat.le_of_ble_eq_true rfl) dX9_isComma_45 (fun H locs hP hD hS => ?_)
        have hP : va_P g.1 vwCl [(k0, .inr (9, [.ref m0, .int s1, .int (nI y), .int (-1), .int (nI n), .int x5, .int (nI yt), .ref m7, .ref m8, .ref m9, .int s10, .int s11, .int s12, .ref m13, .ref m14, .ref m15, .int s16, .ref m17, .ref m18, .ref m19, .ref m20, .ref m21, .ref m22, .ref m23, .ref m24, .ref m25, .ref m26, .ref m27, .ref m28, .int s29, .ref m30, .int s31, .int s32, .int s33, .int s34, .int s35, .ref m36, .ref m37, .ref m38, .ref m39, .long s40]))] H := hP
        have hD : va_D A [(k0, .inr (9, [.ref m0, .int s1, .int (nI y), .int (-1), .int (nI n), .int x5, .int (nI yt), .ref m7, .ref m8, .ref m9, .int s10, .int s11, .int s12, .ref m13, .ref m14, .ref m15, .int s16, .ref m17, .ref m18, .ref m19, .ref m20, .ref m21, .ref m22, .ref m23, .ref m24, .ref m25, .ref m26, .ref m27, .ref m28, .int s29, .ref m30, .int s31, .int s32, .int s33, .int s34, .int s35, .ref m36, .ref m37, .ref m38, .ref m39, .long s40]))] := hD
        refine lv_iload_n hx hb dX9_isComma_48 rfl (lv_at hl 0 rfl) ?_
        refine W.widen (k := 0) (n := 0) (Nat.le_of_ble_eq_true rfl) (Nat.le_of_ble_eq_true rfl) ?_
        exact k_rz hx hb hr hlocks hS hP hD rfl ⟨yt, rfl, (by unfold mcm; rw [if_neg c4_3, if_pos (lt_of_nle (k := 5) (n := y) (by decide) (by omega) c12_5)]), (if_neg (fun q => c26_7 (by rw [q]; rfl)))⟩ dX9_isComma_49
      · skip
        refine lv_aload_n hx hb dX9_isComma_29 rfl (lv_at hl 1 rfl) ?_
        refine va_get (D := g.1) (ci := 9) (v := .int (nI wd)) (C := RX9) (T := TX9) (N := 41) hx hb hts q_X9_isComma_g_f9 hown hE.1 hP 0 rfl rfl 3 (by decide) (hts (.fieldLink RX9 98 "SoundLawsModel" "readWords" "I") q_X9_isComma_g_2) (fun _ h9 => h9) rfl dX9_isComma_30 ?_
        refine lv_goto (tgt := 40) hx hb dX9_isComma_33 (by decide) ?_
        refine va_put (D := g.1) (ci := 9) (v := .int (nI wd)) (ty := .int) (C := RX9) (T := TX9) (N := 41) hx hb hts q_X9_isComma_g_f9 tyX9 tyX9_ok nmX9 hown hE.1 hP hD hS 0 rfl rfl 6 (by decide) (hts (.fieldLink RX9 108 "SoundLawsModel" "readTongues" "I") q_X9_isComma_g_1) (fun _ h9 => h9) rfl (by decide +kernel) rfl rfl (Nat.le_of_ble_eq_true rfl) dX9_isComma_40 (fun H locs hP hD hS => ?_)
        have hP : va_P g.1 vwCl [(k0, .inr (9, [.ref m0, .int s1, .int (nI y), .int (nI wd), .int (nI n), .int x5, .int (nI wd), .ref m7, .ref m8, .ref m9, .int s10, .int s11, .int s12, .ref m13, .ref m14, .ref m15, .int s16, .ref m17, .ref m18, .ref m19, .ref m20, .ref m21, .ref m22, .ref m23, .ref m24, .ref m25, .ref m26, .ref m27, .ref m28, .int s29, .ref m30, .int s31, .int s32, .int s33, .int s34, .int s35, .ref m36, .ref m37, .ref m38, .ref m39, .long s40]))] H := hP
        have hD : va_D A [(k0, .inr (9, [.ref m0, .int s1, .int (nI y), .int (nI wd), .int (nI n), .int x5, .int (nI wd), .ref m7, .ref m8, .ref m9, .int s10, .int s11, .int s12, .ref m13, .ref m14, .ref m15, .int s16, .ref m17, .ref m18, .ref m19, .ref m20, .ref m21, .ref m22, .ref m23, .ref m24, .ref m25, .ref m26, .ref m27, .ref m28, .int s29, .ref m30, .int s31, .int s32, .int s33, .int s34, .int s35, .ref m36, .ref m37, .ref m38, .ref m39, .long s40]))] := hD
        refine lv_aload_n hx hb dX9_isComma_43 rfl (lv_at hl 1 rfl) ?_
        refine lv_iconst (v := (-1)) hx hb dX9_isComma_44 (by decide) ?_
        refine va_put (D := g.1) (ci := 9) (v := .int (-1)) (ty := .int) (C := RX9) (T := TX9) (N := 41) hx hb hts q_X9_isComma_g_f9 tyX9 tyX9_ok nmX9 hown hE.1 hP hD hS 0 rfl rfl 3 (by decide) (hts (.fieldLink RX9 98 "SoundLawsModel" "readWords" "I") q_X9_isComma_g_2) (fun _ h9 => h9) rfl (by decide +kernel) rfl rfl (Nat.le_of_ble_eq_true rfl) dX9_isComma_45 (fun H locs hP hD hS => ?_)
        have hP : va_P g.1 vwCl [(k0, .inr (9, [.ref m0, .int s1, .int (nI y), .int (-1), .int (nI n), .int x5, .int (nI wd), .ref m7, .ref m8, .ref m9, .int s10, .int s11, .int s12, .ref m13, .ref m14, .ref m15, .int s16, .ref m17, .ref m18, .ref m19, .ref m20, .ref m21, .ref m22, .ref m23, .ref m24, .ref m25, .ref m26, .ref m27, .ref m28, .int s29, .ref m30, .int s31, .int s32, .int s33, .int s34, .int s35, .ref m36, .ref m37, .ref m38, .ref m39, .long s40]))] H := hP
        have hD : va_D A [(k0, .inr (9, [.ref m0, .int s1, .int (nI y), .int (-1), .int (nI n), .int x5, .int (nI wd), .ref m7, .ref m8, .ref m9, .int s10, .int s11, .int s12, .ref m13, .ref m14, .ref m15, .int s16, .ref m17, .ref m18, .ref m19, .ref m20, .ref m21, .ref m22, .ref m23, .ref m24, .ref m25, .ref m26, .ref m27, .ref m28, .int s29, .ref m30, .int s31, .int s32, .int s33, .int s34, .int s35, .ref m36, .ref m37, .ref m38, .ref m39, .long s40]))] := hD
        refine lv_iload_n hx hb dX9_isComma_48 rfl (lv_at hl 0 rfl) ?_
        refine W.widen (k := 0) (n := 0) (Nat.le_of_ble_eq_true rfl) (Nat.le_of_ble_eq_true rfl) ?_
        exact k_rz hx hb hr hlocks hS hP hD rfl ⟨wd, rfl, (by unfold mcm; rw [if_neg c4_3, if_pos (lt_of_nle (k := 5) (n := y) (by decide) (by omega) c12_5)]), (if_pos ((nI_eq (b := 0) (by omega) (by decide)).mp c26_7))⟩ dX9_isComma_49
def po_X9_isSound_g (g : GG) (k0 : Nat) (m0 : Nat) (s1 : Int32) (s6 : Int32) (m7 : Nat) (m8 : Nat) (m9 : Nat) (s10 : Int32) (s11 : Int32) (s12 : Int32) (m13 : Nat) (m14 : Nat) (m15 : Nat) (s16 : Int32) (m17 : Nat) (m18 : Nat) (m19 : Nat) (m20 : Nat) (m21 : Nat) (m22 : Nat) (m23 : Nat) (m24 : Nat) (m25 : Nat) (m26 : Nat) (m27 : Nat) (m28 : Nat) (s29 : Int32) (m30 : Nat) (s31 : Int32) (s32 : Int32) (s33 : Int32) (s34 : Int32) (s35 : Int32) (m36 : Nat) (m37 : Nat) (m38 : Nat) (m39 : Nat) (s40 : Int64) (y : Nat) (wd : Nat) (n : Nat) (x5 : Int32) (RL : Nat → Int32) (RS : Nat → Int32) (p1 : Int32) : Int32 → va_W → Prop := fun (r : Int32) w => ∃ (n2 : Nat) (RL2 : Nat → Int32) (RS2 : Nat → Int32), w = [(k0, .inr (9, [.ref m0, .int s1, .int (nI y), .int (nI wd), .int (nI n2), .int x5, .int s6, .ref m7, .ref m8, .ref m9, .int s10, .int s11, .int s12, .ref m13, .ref m14, .ref m15, .int s16, .ref m17, .ref m18, .ref m19, .ref m20, .ref m21, .ref m22, .ref m23, .ref m24, .ref m25, .ref m26, .ref m27, .ref m28, .int s29, .ref m30, .int s31, .int s32, .int s33, .int s34, .int s35, .ref m36, .ref m37, .ref m38, .ref m39, .long s40])), (m8, ai g 5 RL2), (m9, ai g 80 RS2)] ∧ (soP p1 y wd n x5 RL RS r n2 RL2 RS2)
theorem q_X9_isSound_g_f9 : ∀ w ∈ u_ws RX9 TX9 41, w ∈ wsX9_isSound := by decide +kernel
theorem q_X9_isSound_g_1 : (Cond.fieldLink RX9 95 "SoundLawsModel" "readHere" "I") ∈ wsX9_isSound := by decide +kernel
theorem q_X9_isSound_g_2 : (Cond.fieldLink RX9 98 "SoundLawsModel" "readWords" "I") ∈ wsX9_isSound := by decide +kernel
theorem q_X9_isSound_g_3 : (Cond.fieldLink RX9 101 "SoundLawsModel" "readLong" "I") ∈ wsX9_isSound := by decide +kernel
theorem q_X9_isSound_g_4 : (Cond.fieldLink RX9 19 "SoundLawsModel" "readSounds" "[I") ∈ wsX9_isSound := by decide +kernel
theorem q_X9_isSound_g_5 : (Cond.fieldLink RX9 115 "SoundLawsModel" "readSets" "I") ∈ wsX9_isSound := by decide +kernel
theorem q_X9_isSound_g_6 : (Cond.fieldLink RX9 16 "SoundLawsModel" "readLongs" "[I") ∈ wsX9_isSound := by decide +kernel
set_option maxHeartbeats 1500000 in
set_option maxRecDepth 100000 in
theorem c_X9_isSound_g (l : Launch) (g : GG) (k0 : Nat) (m0 : Nat) (s1 : Int32) (s6 : Int32) (m7 : Nat) (m8 : Nat) (m9 : Nat) (s10 : Int32) (s11 : Int32) (s12 : Int32) (m13 : Nat) (m14 : Nat) (m15 : Nat) (s16 : Int32) (m17 : Nat) (m18 : Nat) (m19 : Nat) (m20 : Nat) (m21 : Nat) (m22 : Nat) (m23 : Nat) (m24 : Nat) (m25 : Nat) (m26 : Nat) (m27 : Nat) (m28 : Nat) (s29 : Int32) (m30 : Nat) (s31 : Int32) (s32 : Int32) (s33 : Int32) (s34 : Int32) (s35 : Int32) (m36 : Nat) (m37 : Nat) (m38 : Nat) (m39 : Nat) (s40 : Int64) (y : Nat) (wd : Nat) (n : Nat) (x5 : Int32) (RL : Nat → Int32) (RS : Nat → Int32) (p1 : Int32) (hy1 : 1 ≤ y) (hy : y ≤ 5) (hw1 : 1 ≤ wd) (hw : wd ≤ 4) (hn : n ≤ 4) (hx5 : wd = 1 ∨ ∃ l, l ≤ 4 ∧ n ≤ l ∧ x5 = nI l) (sz : Nat) : MetI l yX9_isSound wsX9_isSound ({ frames := 1, cells := 0, slots := 0, locals := 20 }) g [.ref k0, .int p1] [(k0, .inr (9, [.ref m0, .int s1, .int (nI y), .int (nI wd), .int (nI n), .int x5, .int s6, .ref m7, .ref m8, .ref m9, .int s10, .int s11, .int s12, .ref m13, .ref m14, .ref m15, .int s16, .ref m17, .ref m18, .ref m19, .ref m20, .ref m21, .ref m22, .ref m23, .ref m24, .ref m25, .ref m26, .ref m27, .ref m28, .int s29, .ref m30, .int s31, .int s32, .int s33, .int s34, .int s35, .ref m36, .ref m37, .ref m38, .ref m39, .long s40])), (m8, ai g 5 RL), (m9, ai g 80 RS)] sz (po_X9_isSound_g g k0 m0 s1 s6 m7 m8 m9 s10 s11 s12 m13 m14 m15 s16 m17 m18 m19 m20 m21 m22 m23 m24 m25 m26 m27 m28 s29 m30 s31 s32 s33 s34 s35 m36 m37 m38 m39 s40 y wd n x5 RL RS p1) 0 0 := by
  refine k_of (l := l) (y := yX9_isSound) (ws := wsX9_isSound) (rm := { frames := 1, cells := 0, slots := 0, locals := 20 }) (mc := 0) (ms := 0) (av := [.ref k0, .int p1]) (g := g) (wc := [(k0, .inr (9, [.ref m0, .int s1, .int (nI y), .int (nI wd), .int (nI n), .int x5, .int s6, .ref m7, .ref m8, .ref m9, .int s10, .int s11, .int s12, .ref m13, .ref m14, .ref m15, .int s16, .ref m17, .ref m18, .ref m19, .ref m20, .ref m21, .ref m22, .ref m23, .ref m24, .ref m25, .ref m26, .ref m27, .ref m28, .int s29, .ref m30, .int s31, .int s32, .int s33, .int s34, .int s35, .ref m36, .ref m37, .ref m38, .ref m39, .long s40])), (m8, ai g 5 RL), (m9, ai g 80 RS)]) (Qc := fun A => va_Qi (po_X9_isSound_g g k0 m0 s1 s6 m7 m8 m9 s10 s11 s12 m13 m14 m15 s16 m17 m18 m19 m20 m21 m22 m23 m24 m25 m26 m27 m28 s29 m30 s31 s32 s33 s34 s35 m36 m37 m38 m39 s40 y wd n x5 RL RS p1) (bk g A) A) (cc := cX9_isSound) (maxL := 2) (ret := (some .boolean)) (by decide) rfl (Nat.le_of_ble_eq_true rfl) ?_ sz
  intro p e s m below meth c hx hb hr hts hown hlocks hnm hml A hA hE hZ hP hD hS ls hl
  have hown : s.vm.findClass RX9 = some m.cls := hown
  have hl : lv_has ls 2 [(0, .ref k0), (1, .int p1)] := hl
  refine lv_iload_n hx hb dX9_isSound_0 rfl (lv_at hl 1 rfl) ?_
  refine k_ci (wr := [(k0, .inr (9, [.ref m0, .int s1, .int (nI y), .int (nI wd), .int (nI n), .int x5, .int s6, .ref m7, .ref m8, .ref m9, .int s10, .int s11, .int s12, .ref m13, .ref m14, .ref m15, .int s16, .ref m17, .ref m18, .ref m19, .ref m20, .ref m21, .ref m22, .ref m23, .ref m24, .ref m25, .ref m26, .ref m27, .ref m28, .int s29, .ref m30, .int s31, .int s32, .int s33, .int s34, .int s35, .ref m36, .ref m37, .ref m38, .ref m39, .long s40])), (m8, ai g 5 RL), (m9, ai g 80 RS)]) hP hD hS hA [] [0, 1, 2] rfl rfl (by decide) (by decide) (va_runS (As := [.int p1]) (rest := []) ⟨hx, hb, hml, hown, hts⟩ (c_X9_soundBy_g l g p1  s.heap.size) (va_cwS 1 hts gX9_isSound_X9_soundBy rfl rfl rfl (by decide +kernel) ⟨Nat.le_of_ble_eq_true rfl, Nat.le_of_ble_eq_true rfl⟩) (k_preS hE hZ hP hD hS hA [] rfl (by decide)) rfl rfl hl.1 rfl (lv_room (Nat.le_of_ble_eq_true rfl)) dX9_isSound_1 ⟨Nat.le_of_ble_eq_true rfl, Nat.le_of_ble_eq_true rfl⟩) (fun r_1 w1 H locs hw hP hD hS => ?_)
  obtain ⟨rfl, rfl⟩ := hw
  have hP : va_P g.1 vwCl [(k0, .inr (9, [.ref m0, .int s1, .int (nI y), .int (nI wd), .int (nI n), .int x5, .int s6, .ref m7, .ref m8, .ref m9, .int s10, .int s11, .int s12, .ref m13, .ref m14, .ref m15, .int s16, .ref m17, .ref m18, .ref m19, .ref m20, .ref m21, .ref m22, .ref m23, .ref m24, .ref m25, .ref m26, .ref m27, .ref m28, .int s29, .ref m30, .int s31, .int s32, .int s33, .int s34, .int s35, .ref m36, .ref m37, .ref m38, .ref m39, .long s40])), (m8, ai g 5 RL), (m9, ai g 80 RS)] H := hP
  have hD : va_D A [(k0, .inr (9, [.ref m0, .int s1, .int (nI y), .int (nI wd), .int (nI n), .int x5, .int s6, .ref m7, .ref m8, .ref m9, .int s10, .int s11, .int s12, .ref m13, .ref m14, .ref m15, .int s16, .ref m17, .ref m18, .ref m19, .ref m20, .ref m21, .ref m22, .ref m23, .ref m24, .ref m25, .ref m26, .ref m27, .ref m28, .int s29, .ref m30, .int s31, .int s32, .int s33, .int s34, .int s35, .ref m36, .ref m37, .ref m38, .ref m39, .long s40])), (m8, ai g 5 RL), (m9, ai g 80 RS)] := hD
  refine lv_iconst (v := (-1)) hx hb dX9_isSound_4 (by decide) ?_
  refine lv_icmp_eq (tgt := 31) hx hb dX9_isSound_5 (by decide) (fun c5_3 => ?_) (fun c5_3 => ?_)
  · skip
    refine lv_iconst (v := 0) hx hb dX9_isSound_31 (by decide) ?_
    refine W.widen (k := 0) (n := 0) (Nat.le_of_ble_eq_true rfl) (Nat.le_of_ble_eq_true rfl) ?_
    exact k_rz hx hb hr hlocks hS hP hD rfl ⟨n, RL, RS, rfl, Or.inl ⟨rfl, Or.inl c5_3, rfl, rfl, rfl⟩⟩ dX9_isSound_32
  · skip
    refine lv_aload_n hx hb dX9_isSound_8 rfl (lv_at hl 0 rfl) ?_
    refine va_get (D := g.1) (ci := 9) (v := .int (nI n)) (C := RX9) (T := TX9) (N := 41) hx hb hts q_X9_isSound_g_f9 hown hE.1 hP 0 rfl rfl 4 (by decide) (hts (.fieldLink RX9 95 "SoundLawsModel" "readHere" "I") q_X9_isSound_g_1) (fun _ h9 => h9) rfl dX9_isSound_9 ?_
    refine lv_aload_n hx hb dX9_isSound_12 rfl (lv_at hl 0 rfl) ?_
    refine va_get (D := g.1) (ci := 9) (v := .int (nI wd)) (C := RX9) (T := TX9) (N := 41) hx hb hts q_X9_isSound_g_f9 hown hE.1 hP 0 rfl rfl 3 (by decide) (hts (.fieldLink RX9 98 "SoundLawsModel" "readWords" "I") q_X9_isSound_g_2) (fun _ h9 => h9) rfl dX9_isSound_13 ?_
    refine lv_iconst (v := 1) hx hb dX9_isSound_16 (by decide) ?_
    refine lv_icmp_ne (tgt := 24) hx hb dX9_isSound_17 (by decide) (fun c17_4 => ?_) (fun c17_4 => ?_)
    · skip
      refine lv_aload_n hx hb dX9_isSound_24 rfl (lv_at hl 0 rfl) ?_
      refine va_get (D := g.1) (ci := 9) (v := .int x5) (C := RX9) (T := TX9) (N := 41) hx hb hts q_X9_isSound_g_f9 hown hE.1 hP 0 rfl rfl 5 (by decide) (hts (.fieldLink RX9 101 "SoundLawsModel" "readLong" "I") q_X9_isSound_g_3) (fun _ h9 => h9) rfl dX9_isSound_25 ?_
      refine lv_icmp_ne (tgt := 33) hx hb dX9_isSound_28 (by decide) (fun c28_5 => ?_) (fun c28_5 => ?_)
      · skip
        obtain ⟨l5, hl5, hnl, el5⟩ := hx5.resolve_left (fun q => c17_4 (by rw [q]; rfl))
        have hn4 : n < 4 := by have q : ¬ n = l5 := fun q => c28_5 (by rw [q, el5]); omega
        refine lv_aload_n hx hb dX9_isSound_33 rfl (lv_at hl 0 rfl) ?_
        refine va_get (D := g.1) (ci := 9) (v := .ref m9) (C := RX9) (T := TX9) (N := 41) hx hb hts q_X9_isSound_g_f9 hown hE.1 hP 0 rfl rfl 9 (by decide) (hts (.fieldLink RX9 19 "SoundLawsModel" "readSounds" "[I") q_X9_isSound_g_4) (fun _ h9 => h9) rfl dX9_isSound_34 ?_
        refine lv_bipush (v := 16) hx hb dX9_isSound_37 (by decide) ?_
        refine lv_aload_n hx hb dX9_isSound_39 rfl (lv_at hl 0 rfl) ?_
        refine va_get (D := g.1) (ci := 9) (v := .int (nI y)) (C := RX9) (T := TX9) (N := 41) hx hb hts q_X9_isSound_g_f9 hown hE.1 hP 0 rfl rfl 2 (by decide) (hts (.fieldLink RX9 115 "SoundLawsModel" "readSets" "I") q_X9_isSound_g_5) (fun _ h9 => h9) rfl dX9_isSound_40 ?_
        refine lv_iconst (v := 1) hx hb dX9_isSound_43 (by decide) ?_
        refine lv_isub hx hb dX9_isSound_44 ?_
        refine lv_topi (fun x_6 ex_6 => ?_)
        obtain rfl : x_6 = nI (y - 1) := by rw [ex_6]; rw [show (1 : Int32) = nI 1 from rfl, pk_sub (by omega)]
        refine lv_imul hx hb dX9_isSound_45 ?_
        refine lv_iconst (v := 4) hx hb dX9_isSound_46 (by decide) ?_
        refine lv_aload_n hx hb dX9_isSound_47 rfl (lv_at hl 0 rfl) ?_
        refine va_get (D := g.1) (ci := 9) (v := .int (nI wd)) (C := RX9) (T := TX9) (N := 41) hx hb hts q_X9_isSound_g_f9 hown hE.1 hP 0 rfl rfl 3 (by decide) (hts (.fieldLink RX9 98 "SoundLawsModel" "readWords" "I") q_X9_isSound_g_2) (fun _ h9 => h9) rfl dX9_isSound_48 ?_
        refine lv_iconst (v := 1) hx hb dX9_isSound_51 (by decide) ?_
        refine lv_isub hx hb dX9_isSound_52 ?_
        refine lv_topi (fun x_7 ex_7 => ?_)
        obtain rfl : x_7 = nI (wd - 1) := by rw [ex_7]; rw [show (1 : Int32) = nI 1 from rfl, pk_sub (by omega)]
        refine lv_imul hx hb dX9_isSound_53 ?_
        refine lv_iadd hx hb dX9_isSound_54 ?_
        refine lv_aload_n hx hb dX9_isSound_55 rfl (lv_at hl 0 rfl) ?_
        refine va_get (D := g.1) (ci := 9) (v := .int (nI n)) (C := RX9) (T := TX9) (N := 41) hx hb hts q_X9_isSound_g_f9 hown hE.1 hP 0 rfl rfl 4 (by decide) (hts (.fieldLink RX9 95 "SoundLawsModel" "readHere" "I") q_X9_isSound_g_1) (fun _ h9 => h9) rfl dX9_isSound_56 ?_
        refine lv_iadd hx hb dX9_isSound_59 ?_
        refine lv_topi (fun x_8 ex_8 => ?_)
        obtain rfl : x_8 = nI (16 * (y - 1) + 4 * (wd - 1) + n) := by rw [ex_8]; rw [show (16 : Int32) = nI 16 from rfl, show (4 : Int32) = nI 4 from rfl, pk_mul, pk_mul, nI_add, nI_add]
        refine lv_iload_n hx hb dX9_isSound_60 rfl (lv_at hl 1 rfl) ?_
        refine k_ci (wr := [(k0, .inr (9, [.ref m0, .int s1, .int (nI y), .int (nI wd), .int (nI n), .int x5, .int s6, .ref m7, .ref m8, .ref m9, .int s10, .int s11, .int s12, .ref m13, .ref m14, .ref m15, .int s16, .ref m17, .ref m18, .ref m19, .ref m20, .ref m21, .ref m22, .ref m23, .ref m24, .ref m25, .ref m26, .ref m27, .ref m28, .int s29, .ref m30, .int s31, .int s32, .int s33, .int s34, .int s35, .ref m36, .ref m37, .ref m38, .ref m39, .long s40])), (m8, ai g 5 RL), (m9, ai g 80 RS)]) hP hD hS hA [] [0, 1, 2] rfl rfl (by decide) (by decide) (va_runS (As := [.int p1]) (rest := [.int (nI (16 * (y - 1) + 4 * (wd - 1) + n)), .ref m9]) ⟨hx, hb, hml, hown, hts⟩ (c_X9_soundBy_g l g p1  H.size) (va_cwS 1 hts gX9_isSound_X9_soundBy rfl rfl rfl (by decide +kernel) ⟨Nat.le_of_ble_eq_true rfl, Nat.le_of_ble_eq_true rfl⟩) (k_preS hE hZ hP hD hS hA [] rfl (by decide)) rfl rfl hl.1 rfl (lv_room (Nat.le_of_ble_eq_true rfl)) dX9_isSound_61 ⟨Nat.le_of_ble_eq_true rfl, Nat.le_of_ble_eq_true rfl⟩) (fun r_9 w1 H locs hw hP hD hS => ?_)
        obtain ⟨rfl, rfl⟩ := hw
        have hP : va_P g.1 vwCl [(k0, .inr (9, [.ref m0, .int s1, .int (nI y), .int (nI wd), .int (nI n), .int x5, .int s6, .ref m7, .ref m8, .ref m9, .int s10, .int s11, .int s12, .ref m13, .ref m14, .ref m15, .int s16, .ref m17, .ref m18, .ref m19, .ref m20, .ref m21, .ref m22, .ref m23, .ref m24, .ref m25, .ref m26, .ref m27, .ref m28, .int s29, .ref m30, .int s31, .int s32, .int s33, .int s34, .int s35, .ref m36, .ref m37, .ref m38, .ref m39, .long s40])), (m8, ai g 5 RL), (m9, ai g 80 RS)] H := hP
        have hD : va_D A [(k0, .inr (9, [.ref m0, .int s1, .int (nI y), .int (nI wd), .int (nI n), .int x5, .int s6, .ref m7, .ref m8, .ref m9, .int s10, .int s11, .int s12, .ref m13, .ref m14, .ref m15, .int s16, .ref m17, .ref m18, .ref m19, .ref m20, .ref m21, .ref m22, .ref m23, .ref m24, .ref m25, .ref m26, .ref m27, .ref m28, .int s29, .ref m30, .int s31, .int s32, .int s33, .int s34, .int s35, .ref m36, .ref m37, .ref m38, .ref m39, .long s40])), (m8, ai g 5 RL), (m9, ai g 80 RS)] := hD
        refine k_ast (x := (sby p1)) (16 * (y - 1) + 4 * (wd - 1) + n) rfl (by omega) hx hb hE hP hD hS 2 rfl (by decide) dX9_isSound_64 (fun H locs hP hD hS => ?_)
        have hP : va_P g.1 vwCl [(k0, .inr (9, [.ref m0, .int s1, .int (nI y), .int (nI wd), .int (nI n), .int x5, .int s6, .ref m7, .ref m8, .ref m9, .int s10, .int s11, .int s12, .ref m13, .ref m14, .ref m15, .int s16, .ref m17, .ref m18, .ref m19, .ref m20, .ref m21, .ref m22, .ref m23, .ref m24, .ref m25, .ref m26, .ref m27, .ref m28, .int s29, .ref m30, .int s31, .int s32, .int s33, .int s34, .int s35, .ref m36, .ref m37, .ref m38, .ref m39, .long s40])), (m8, ai g 5 RL), (m9, ai g 80 (upd RS (16 * (y - 1) + 4 * (wd - 1) + n) (sby p1)))] H := hP
        have hD : va_D A [(k0, .inr (9, [.ref m0, .int s1, .int (nI y), .int (nI wd), .int (nI n), .int x5, .int s6, .ref m7, .ref m8, .ref m9, .int s10, .int s11, .int s12, .ref m13, .ref m14, .ref m15, .int s16, .ref m17, .ref m18, .ref m19, .ref m20, .ref m21, .ref m22, .ref m23, .ref m24, .ref m25, .ref m26, .ref m27, .ref m28, .int s29, .ref m30, .int s31, .int s32, .int s33, .int s34, .int s35, .ref m36, .ref m37, .ref m38, .ref m39, .long s40])), (m8, ai g 5 RL), (m9, ai g 80 (upd RS (16 * (y - 1) + 4 * (wd - 1) + n) (sby p1)))] := hD
        refine lv_aload_n hx hb dX9_isSound_65 rfl (lv_at hl 0 rfl) ?_
        refine lv_dup hx hb dX9_isSound_66 rfl ?_
        refine va_get (D := g.1) (ci := 9) (v := .int (nI n)) (C := RX9) (T := TX9) (N := 41) hx hb hts q_X9_isSound_g_f9 hown hE.1 hP 0 rfl rfl 4 (by decide) (hts (.fieldLink RX9 95 "SoundLawsModel" "readHere" "I") q_X9_isSound_g_1) (fun _ h9 => h9) rfl dX9_isSound_67 ?_
        refine lv_iconst (v := 1) hx hb dX9_isSound_70 (by decide) ?_
        refine lv_iadd hx hb dX9_isSound_71 ?_
        refine lv_topi (fun x_11 ex_11 => ?_)
        obtain rfl : x_11 = nI (n + 1) := by rw [ex_11]; exact nI_1 n
        refine va_put (D := g.1) (ci := 9) (v := .int (nI (n + 1))) (ty := .int) (C := RX9) (T := TX9) (N := 41) hx hb hts q_X9_isSound_g_f9 tyX9 tyX9_ok nmX9 hown hE.1 hP hD hS 0 rfl rfl 4 (by decide) (hts (.fieldLink RX9 95 "SoundLawsModel" "readHere" "I") q_X9_isSound_g_1) (fun _ h9 => h9) rfl (by decide +kernel) rfl rfl (Nat.le_of_ble_eq_true rfl) dX9_isSound_72 (fun H locs hP hD hS => ?_)
        have hP : va_P g.1 vwCl [(k0, .inr (9, [.ref m0, .int s1, .int (nI y), .int (nI wd), .int (nI (n + 1)), .int x5, .int s6, .ref m7, .ref m8, .ref m9, .int s10, .int s11, .int s12, .ref m13, .ref m14, .ref m15, .int s16, .ref m17, .ref m18, .ref m19, .ref m20, .ref m21, .ref m22, .ref m23, .ref m24, .ref m25, .ref m26, .ref m27, .ref m28, .int s29, .ref m30, .int s31, .int s32, .int s33, .int s34, .int s35, .ref m36, .ref m37, .ref m38, .ref m39, .long s40])), (m8, ai g 5 RL), (m9, ai g 80 (upd RS (16 * (y - 1) + 4 * (wd - 1) + n) (sby p1)))] H := hP
        have hD : va_D A [(k0, .inr (9, [.ref m0, .int s1, .int (nI y), .int (nI wd), .int (nI (n + 1)), .int x5, .int s6, .ref m7, .ref m8, .ref m9, .int s10, .int s11, .int s12, .ref m13, .ref m14, .ref m15, .int s16, .ref m17, .ref m18, .ref m19, .ref m20, .ref m21, .ref m22, .ref m23, .ref m24, .ref m25, .ref m26, .ref m27, .ref m28, .int s29, .ref m30, .int s31, .int s32, .int s33, .int s34, .int s35, .ref m36, .ref m37, .ref m38, .ref m39, .long s40])), (m8, ai g 5 RL), (m9, ai g 80 (upd RS (16 * (y - 1) + 4 * (wd - 1) + n) (sby p1)))] := hD
        refine lv_aload_n hx hb dX9_isSound_75 rfl (lv_at hl 0 rfl) ?_
        refine va_get (D := g.1) (ci := 9) (v := .ref m8) (C := RX9) (T := TX9) (N := 41) hx hb hts q_X9_isSound_g_f9 hown hE.1 hP 0 rfl rfl 8 (by decide) (hts (.fieldLink RX9 16 "SoundLawsModel" "readLongs" "[I") q_X9_isSound_g_6) (fun _ h9 => h9) rfl dX9_isSound_76 ?_
        refine lv_aload_n hx hb dX9_isSound_79 rfl (lv_at hl 0 rfl) ?_
        refine va_get (D := g.1) (ci := 9) (v := .int (nI y)) (C := RX9) (T := TX9) (N := 41) hx hb hts q_X9_isSound_g_f9 hown hE.1 hP 0 rfl rfl 2 (by decide) (hts (.fieldLink RX9 115 "SoundLawsModel" "readSets" "I") q_X9_isSound_g_5) (fun _ h9 => h9) rfl dX9_isSound_80 ?_
        refine lv_iconst (v := 1) hx hb dX9_isSound_83 (by decide) ?_
        refine lv_isub hx hb dX9_isSound_84 ?_
        refine lv_topi (fun x_12 ex_12 => ?_)
        obtain rfl : x_12 = nI (y - 1) := by rw [ex_12]; rw [show (1 : Int32) = nI 1 from rfl, pk_sub (by omega)]
        refine lv_aload_n hx hb dX9_isSound_85 rfl (lv_at hl 0 rfl) ?_
        refine va_get (D := g.1) (ci := 9) (v := .int (nI (n + 1))) (C := RX9) (T := TX9) (N := 41) hx hb hts q_X9_isSound_g_f9 hown hE.1 hP 0 rfl rfl 4 (by decide) (hts (.fieldLink RX9 95 "SoundLawsModel" "readHere" "I") q_X9_isSound_g_1) (fun _ h9 => h9) rfl dX9_isSound_86 ?_
        refine k_ast (x := (nI (n + 1))) (y - 1) rfl (by omega) hx hb hE hP hD hS 1 rfl (by decide) dX9_isSound_89 (fun H locs hP hD hS => ?_)
        have hP : va_P g.1 vwCl [(k0, .inr (9, [.ref m0, .int s1, .int (nI y), .int (nI wd), .int (nI (n + 1)), .int x5, .int s6, .ref m7, .ref m8, .ref m9, .int s10, .int s11, .int s12, .ref m13, .ref m14, .ref m15, .int s16, .ref m17, .ref m18, .ref m19, .ref m20, .ref m21, .ref m22, .ref m23, .ref m24, .ref m25, .ref m26, .ref m27, .ref m28, .int s29, .ref m30, .int s31, .int s32, .int s33, .int s34, .int s35, .ref m36, .ref m37, .ref m38, .ref m39, .long s40])), (m8, ai g 5 (upd RL (y - 1) (nI (n + 1)))), (m9, ai g 80 (upd RS (16 * (y - 1) + 4 * (wd - 1) + n) (sby p1)))] H := hP
        have hD : va_D A [(k0, .inr (9, [.ref m0, .int s1, .int (nI y), .int (nI wd), .int (nI (n + 1)), .int x5, .int s6, .ref m7, .ref m8, .ref m9, .int s10, .int s11, .int s12, .ref m13, .ref m14, .ref m15, .int s16, .ref m17, .ref m18, .ref m19, .ref m20, .ref m21, .ref m22, .ref m23, .ref m24, .ref m25, .ref m26, .ref m27, .ref m28, .int s29, .ref m30, .int s31, .int s32, .int s33, .int s34, .int s35, .ref m36, .ref m37, .ref m38, .ref m39, .long s40])), (m8, ai g 5 (upd RL (y - 1) (nI (n + 1)))), (m9, ai g 80 (upd RS (16 * (y - 1) + 4 * (wd - 1) + n) (sby p1)))] := hD
        refine lv_iconst (v := 1) hx hb dX9_isSound_90 (by decide) ?_
        refine W.widen (k := 0) (n := 0) (Nat.le_of_ble_eq_true rfl) (Nat.le_of_ble_eq_true rfl) ?_
        exact k_rz hx hb hr hlocks hS hP hD rfl ⟨(n + 1), (upd RL (y - 1) (nI (n + 1))), (upd RS (16 * (y - 1) + 4 * (wd - 1) + n) (sby p1)), rfl, Or.inr ⟨rfl, c5_3, (by rw [if_neg (show ¬ wd = 1 from fun q => c17_4 (by rw [q]; rfl))]; exact c28_5), rfl, rfl, rfl⟩⟩ dX9_isSound_91
      · skip
        refine lv_iconst (v := 0) hx hb dX9_isSound_31 (by decide) ?_
        refine W.widen (k := 0) (n := 0) (Nat.le_of_ble_eq_true rfl) (Nat.le_of_ble_eq_true rfl) ?_
        exact k_rz hx hb hr hlocks hS hP hD rfl ⟨n, RL, RS, rfl, Or.inl ⟨rfl, Or.inr (by rw [if_neg (show ¬ wd = 1 from fun q => c17_4 (by rw [q]; rfl))]; exact c28_5), rfl, rfl, rfl⟩⟩ dX9_isSound_32
    · skip
      refine lv_iconst (v := 4) hx hb dX9_isSound_20 (by decide) ?_
      refine lv_goto (tgt := 28) hx hb dX9_isSound_21 (by decide) ?_
      refine lv_icmp_ne (tgt := 33) hx hb dX9_isSound_28 (by decide) (fun c28_13 => ?_) (fun c28_13 => ?_)
      · skip
        have hn4 : n < 4 := by have q : ¬ n = 4 := (fun q => c28_13 (by rw [q]; rfl)); omega
        refine lv_aload_n hx hb dX9_isSound_33 rfl (lv_at hl 0 rfl) ?_
        refine va_get (D := g.1) (ci := 9) (v := .ref m9) (C := RX9) (T := TX9) (N := 41) hx hb hts q_X9_isSound_g_f9 hown hE.1 hP 0 rfl rfl 9 (by decide) (hts (.fieldLink RX9 19 "SoundLawsModel" "readSounds" "[I") q_X9_isSound_g_4) (fun _ h9 => h9) rfl dX9_isSound_34 ?_
        refine lv_bipush (v := 16) hx hb dX9_isSound_37 (by decide) ?_
        refine lv_aload_n hx hb dX9_isSound_39 rfl (lv_at hl 0 rfl) ?_
        refine va_get (D := g.1) (ci := 9) (v := .int (nI y)) (C := RX9) (T := TX9) (N := 41) hx hb hts q_X9_isSound_g_f9 hown hE.1 hP 0 rfl rfl 2 (by decide) (hts (.fieldLink RX9 115 "SoundLawsModel" "readSets" "I") q_X9_isSound_g_5) (fun _ h9 => h9) rfl dX9_isSound_40 ?_
        refine lv_iconst (v := 1) hx hb dX9_isSound_43 (by decide) ?_
        refine lv_isub hx hb dX9_isSound_44 ?_
        refine lv_topi (fun x_14 ex_14 => ?_)
        obtain rfl : x_14 = nI (y - 1) := by rw [ex_14]; rw [show (1 : Int32) = nI 1 from rfl, pk_sub (by omega)]
        refine lv_imul hx hb dX9_isSound_45 ?_
        refine lv_iconst (v := 4) hx hb dX9_isSound_46 (by decide) ?_
        refine lv_aload_n hx hb dX9_isSound_47 rfl (lv_at hl 0 rfl) ?_
        refine va_get (D := g.1) (ci := 9) (v := .int (nI wd)) (C := RX9) (T := TX9) (N := 41) hx hb hts q_X9_isSound_g_f9 hown hE.1 hP 0 rfl rfl 3 (by decide) (hts (.fieldLink RX9 98 "SoundLawsModel" "readWords" "I") q_X9_isSound_g_2) (fun _ h9 => h9) rfl dX9_isSound_48 ?_
        refine lv_iconst (v := 1) hx hb dX9_isSound_51 (by decide) ?_
        refine lv_isub hx hb dX9_isSound_52 ?_
        refine lv_topi (fun x_15 ex_15 => ?_)
        obtain rfl : x_15 = nI (wd - 1) := by rw [ex_15]; rw [show (1 : Int32) = nI 1 from rfl, pk_sub (by omega)]
        refine lv_imul hx hb dX9_isSound_53 ?_
        refine lv_iadd hx hb dX9_isSound_54 ?_
        refine lv_aload_n hx hb dX9_isSound_55 rfl (lv_at hl 0 rfl) ?_
        refine va_get (D := g.1) (ci := 9) (v := .int (nI n)) (C := RX9) (T := TX9) (N := 41) hx hb hts q_X9_isSound_g_f9 hown hE.1 hP 0 rfl rfl 4 (by decide) (hts (.fieldLink RX9 95 "SoundLawsModel" "readHere" "I") q_X9_isSound_g_1) (fun _ h9 => h9) rfl dX9_isSound_56 ?_
        refine lv_iadd hx hb dX9_isSound_59 ?_
        refine lv_topi (fun x_16 ex_16 => ?_)
        obtain rfl : x_16 = nI (16 * (y - 1) + 4 * (wd - 1) + n) := by rw [ex_16]; rw [show (16 : Int32) = nI 16 from rfl, show (4 : Int32) = nI 4 from rfl, pk_mul, pk_mul, nI_add, nI_add]
        refine lv_iload_n hx hb dX9_isSound_60 rfl (lv_at hl 1 rfl) ?_
        refine k_ci (wr := [(k0, .inr (9, [.ref m0, .int s1, .int (nI y), .int (nI wd), .int (nI n), .int x5, .int s6, .ref m7, .ref m8, .ref m9, .int s10, .int s11, .int s12, .ref m13, .ref m14, .ref m15, .int s16, .ref m17, .ref m18, .ref m19, .ref m20, .ref m21, .ref m22, .ref m23, .ref m24, .ref m25, .ref m26, .ref m27, .ref m28, .int s29, .ref m30, .int s31, .int s32, .int s33, .int s34, .int s35, .ref m36, .ref m37, .ref m38, .ref m39, .long s40])), (m8, ai g 5 RL), (m9, ai g 80 RS)]) hP hD hS hA [] [0, 1, 2] rfl rfl (by decide) (by decide) (va_runS (As := [.int p1]) (rest := [.int (nI (16 * (y - 1) + 4 * (wd - 1) + n)), .ref m9]) ⟨hx, hb, hml, hown, hts⟩ (c_X9_soundBy_g l g p1  H.size) (va_cwS 1 hts gX9_isSound_X9_soundBy rfl rfl rfl (by decide +kernel) ⟨Nat.le_of_ble_eq_true rfl, Nat.le_of_ble_eq_true rfl⟩) (k_preS hE hZ hP hD hS hA [] rfl (by decide)) rfl rfl hl.1 rfl (lv_room (Nat.le_of_ble_eq_true rfl)) dX9_isSound_61 ⟨Nat.le_of_ble_eq_true rfl, Nat.le_of_ble_eq_true rfl⟩) (fun r_17 w1 H locs hw hP hD hS => ?_)
        obtain ⟨rfl, rfl⟩ := hw
        have hP : va_P g.1 vwCl [(k0, .inr (9, [.ref m0, .int s1, .int (nI y), .int (nI wd), .int (nI n), .int x5, .int s6, .ref m7, .ref m8, .ref m9, .int s10, .int s11, .int s12, .ref m13, .ref m14, .ref m15, .int s16, .ref m17, .ref m18, .ref m19, .ref m20, .ref m21, .ref m22, .ref m23, .ref m24, .ref m25, .ref m26, .ref m27, .ref m28, .int s29, .ref m30, .int s31, .int s32, .int s33, .int s34, .int s35, .ref m36, .ref m37, .ref m38, .ref m39, .long s40])), (m8, ai g 5 RL), (m9, ai g 80 RS)] H := hP
        have hD : va_D A [(k0, .inr (9, [.ref m0, .int s1, .int (nI y), .int (nI wd), .int (nI n), .int x5, .int s6, .ref m7, .ref m8, .ref m9, .int s10, .int s11, .int s12, .ref m13, .ref m14, .ref m15, .int s16, .ref m17, .ref m18, .ref m19, .ref m20, .ref m21, .ref m22, .ref m23, .ref m24, .ref m25, .ref m26, .ref m27, .ref m28, .int s29, .ref m30, .int s31, .int s32, .int s33, .int s34, .int s35, .ref m36, .ref m37, .ref m38, .ref m39, .long s40])), (m8, ai g 5 RL), (m9, ai g 80 RS)] := hD
        refine k_ast (x := (sby p1)) (16 * (y - 1) + 4 * (wd - 1) + n) rfl (by omega) hx hb hE hP hD hS 2 rfl (by decide) dX9_isSound_64 (fun H locs hP hD hS => ?_)
        have hP : va_P g.1 vwCl [(k0, .inr (9, [.ref m0, .int s1, .int (nI y), .int (nI wd), .int (nI n), .int x5, .int s6, .ref m7, .ref m8, .ref m9, .int s10, .int s11, .int s12, .ref m13, .ref m14, .ref m15, .int s16, .ref m17, .ref m18, .ref m19, .ref m20, .ref m21, .ref m22, .ref m23, .ref m24, .ref m25, .ref m26, .ref m27, .ref m28, .int s29, .ref m30, .int s31, .int s32, .int s33, .int s34, .int s35, .ref m36, .ref m37, .ref m38, .ref m39, .long s40])), (m8, ai g 5 RL), (m9, ai g 80 (upd RS (16 * (y - 1) + 4 * (wd - 1) + n) (sby p1)))] H := hP
        have hD : va_D A [(k0, .inr (9, [.ref m0, .int s1, .int (nI y), .int (nI wd), .int (nI n), .int x5, .int s6, .ref m7, .ref m8, .ref m9, .int s10, .int s11, .int s12, .ref m13, .ref m14, .ref m15, .int s16, .ref m17, .ref m18, .ref m19, .ref m20, .ref m21, .ref m22, .ref m23, .ref m24, .ref m25, .ref m26, .ref m27, .ref m28, .int s29, .ref m30, .int s31, .int s32, .int s33, .int s34, .int s35, .ref m36, .ref m37, .ref m38, .ref m39, .long s40])), (m8, ai g 5 RL), (m9, ai g 80 (upd RS (16 * (y - 1) + 4 * (wd - 1) + n) (sby p1)))] := hD
        refine lv_aload_n hx hb dX9_isSound_65 rfl (lv_at hl 0 rfl) ?_
        refine lv_dup hx hb dX9_isSound_66 rfl ?_
        refine va_get (D := g.1) (ci := 9) (v := .int (nI n)) (C := RX9) (T := TX9) (N := 41) hx hb hts q_X9_isSound_g_f9 hown hE.1 hP 0 rfl rfl 4 (by decide) (hts (.fieldLink RX9 95 "SoundLawsModel" "readHere" "I") q_X9_isSound_g_1) (fun _ h9 => h9) rfl dX9_isSound_67 ?_
        refine lv_iconst (v := 1) hx hb dX9_isSound_70 (by decide) ?_
        refine lv_iadd hx hb dX9_isSound_71 ?_
        refine lv_topi (fun x_19 ex_19 => ?_)
        obtain rfl : x_19 = nI (n + 1) := by rw [ex_19]; exact nI_1 n
        refine va_put (D := g.1) (ci := 9) (v := .int (nI (n + 1))) (ty := .int) (C := RX9) (T := TX9) (N := 41) hx hb hts q_X9_isSound_g_f9 tyX9 tyX9_ok nmX9 hown hE.1 hP hD hS 0 rfl rfl 4 (by decide) (hts (.fieldLink RX9 95 "SoundLawsModel" "readHere" "I") q_X9_isSound_g_1) (fun _ h9 => h9) rfl (by decide +kernel) rfl rfl (Nat.le_of_ble_eq_true rfl) dX9_isSound_72 (fun H locs hP hD hS => ?_)
        have hP : va_P g.1 vwCl [(k0, .inr (9, [.ref m0, .int s1, .int (nI y), .int (nI wd), .int (nI (n + 1)), .int x5, .int s6, .ref m7, .ref m8, .ref m9, .int s10, .int s11, .int s12, .ref m13, .ref m14, .ref m15, .int s16, .ref m17, .ref m18, .ref m19, .ref m20, .ref m21, .ref m22, .ref m23, .ref m24, .ref m25, .ref m26, .ref m27, .ref m28, .int s29, .ref m30, .int s31, .int s32, .int s33, .int s34, .int s35, .ref m36, .ref m37, .ref m38, .ref m39, .long s40])), (m8, ai g 5 RL), (m9, ai g 80 (upd RS (16 * (y - 1) + 4 * (wd - 1) + n) (sby p1)))] H := hP
        have hD : va_D A [(k0, .inr (9, [.ref m0, .int s1, .int (nI y), .int (nI wd), .int (nI (n + 1)), .int x5, .int s6, .ref m7, .ref m8, .ref m9, .int s10, .int s11, .int s12, .ref m13, .ref m14, .ref m15, .int s16, .ref m17, .ref m18, .ref m19, .ref m20, .ref m21, .ref m22, .ref m23, .ref m24, .ref m25, .ref m26, .ref m27, .ref m28, .int s29, .ref m30, .int s31, .int s32, .int s33, .int s34, .int s35, .ref m36, .ref m37, .ref m38, .ref m39, .long s40])), (m8, ai g 5 RL), (m9, ai g 80 (upd RS (16 * (y - 1) + 4 * (wd - 1) + n) (sby p1)))] := hD
        refine lv_aload_n hx hb dX9_isSound_75 rfl (lv_at hl 0 rfl) ?_
        refine va_get (D := g.1) (ci := 9) (v := .ref m8) (C := RX9) (T := TX9) (N := 41) hx hb hts q_X9_isSound_g_f9 hown hE.1 hP 0 rfl rfl 8 (by decide) (hts (.fieldLink RX9 16 "SoundLawsModel" "readLongs" "[I") q_X9_isSound_g_6) (fun _ h9 => h9) rfl dX9_isSound_76 ?_
        refine lv_aload_n hx hb dX9_isSound_79 rfl (lv_at hl 0 rfl) ?_
        refine va_get (D := g.1) (ci := 9) (v := .int (nI y)) (C := RX9) (T := TX9) (N := 41) hx hb hts q_X9_isSound_g_f9 hown hE.1 hP 0 rfl rfl 2 (by decide) (hts (.fieldLink RX9 115 "SoundLawsModel" "readSets" "I") q_X9_isSound_g_5) (fun _ h9 => h9) rfl dX9_isSound_80 ?_
        refine lv_iconst (v := 1) hx hb dX9_isSound_83 (by decide) ?_
        refine lv_isub hx hb dX9_isSound_84 ?_
        refine lv_topi (fun x_20 ex_20 => ?_)
        obtain rfl : x_20 = nI (y - 1) := by rw [ex_20]; rw [show (1 : Int32) = nI 1 from rfl, pk_sub (by omega)]
        refine lv_aload_n hx hb dX9_isSound_85 rfl (lv_at hl 0 rfl) ?_
        refine va_get (D := g.1) (ci := 9) (v := .int (nI (n + 1))) (C := RX9) (T := TX9) (N := 41) hx hb hts q_X9_isSound_g_f9 hown hE.1 hP 0 rfl rfl 4 (by decide) (hts (.fieldLink RX9 95 "SoundLawsModel" "readHere" "I") q_X9_isSound_g_1) (fun _ h9 => h9) rfl dX9_isSound_86 ?_
        refine k_ast (x := (nI (n + 1))) (y - 1) rfl (by omega) hx hb hE hP hD hS 1 rfl (by decide) dX9_isSound_89 (fun H locs hP hD hS => ?_)
        have hP : va_P g.1 vwCl [(k0, .inr (9, [.ref m0, .int s1, .int (nI y), .int (nI wd), .int (nI (n + 1)), .int x5, .int s6, .ref m7, .ref m8, .ref m9, .int s10, .int s11, .int s12, .ref m13, .ref m14, .ref m15, .int s16, .ref m17, .ref m18, .ref m19, .ref m20, .ref m21, .ref m22, .ref m23, .ref m24, .ref m25, .ref m26, .ref m27, .ref m28, .int s29, .ref m30, .int s31, .int s32, .int s33, .int s34, .int s35, .ref m36, .ref m37, .ref m38, .ref m39, .long s40])), (m8, ai g 5 (upd RL (y - 1) (nI (n + 1)))), (m9, ai g 80 (upd RS (16 * (y - 1) + 4 * (wd - 1) + n) (sby p1)))] H := hP
        have hD : va_D A [(k0, .inr (9, [.ref m0, .int s1, .int (nI y), .int (nI wd), .int (nI (n + 1)), .int x5, .int s6, .ref m7, .ref m8, .ref m9, .int s10, .int s11, .int s12, .ref m13, .ref m14, .ref m15, .int s16, .ref m17, .ref m18, .ref m19, .ref m20, .ref m21, .ref m22, .ref m23, .ref m24, .ref m25, .ref m26, .ref m27, .ref m28, .int s29, .ref m30, .int s31, .int s32, .int s33, .int s34, .int s35, .ref m36, .ref m37, .ref m38, .ref m39, .long s40])), (m8, ai g 5 (upd RL (y - 1) (nI (n + 1)))), (m9, ai g 80 (upd RS (16 * (y - 1) + 4 * (wd - 1) + n) (sby p1)))] := hD
        refine lv_iconst (v := 1) hx hb dX9_isSound_90 (by decide) ?_
        refine W.widen (k := 0) (n := 0) (Nat.le_of_ble_eq_true rfl) (Nat.le_of_ble_eq_true rfl) ?_
        exact k_rz hx hb hr hlocks hS hP hD rfl ⟨(n + 1), (upd RL (y - 1) (nI (n + 1))), (upd RS (16 * (y - 1) + 4 * (wd - 1) + n) (sby p1)), rfl, Or.inr ⟨rfl, c5_3, (by rw [if_pos ((nI_eq (b := 1) (by omega) (by decide)).mp c17_4)]; exact c28_13), rfl, rfl, rfl⟩⟩ dX9_isSound_91
      · skip
        refine lv_iconst (v := 0) hx hb dX9_isSound_31 (by decide) ?_
        refine W.widen (k := 0) (n := 0) (Nat.le_of_ble_eq_true rfl) (Nat.le_of_ble_eq_true rfl) ?_
        exact k_rz hx hb hr hlocks hS hP hD rfl ⟨n, RL, RS, rfl, Or.inl ⟨rfl, Or.inr (by rw [if_pos ((nI_eq (b := 1) (by omega) (by decide)).mp c17_4)]; exact c28_13), rfl, rfl, rfl⟩⟩ dX9_isSound_32
def po_X9_isGood_g (g : GG) (k0 : Nat) (m0 : Nat) (s1 : Int32) (m7 : Nat) (m8 : Nat) (m9 : Nat) (s10 : Int32) (s11 : Int32) (s12 : Int32) (m13 : Nat) (m14 : Nat) (m15 : Nat) (s16 : Int32) (m17 : Nat) (m18 : Nat) (m19 : Nat) (m20 : Nat) (m21 : Nat) (m22 : Nat) (m23 : Nat) (m24 : Nat) (m25 : Nat) (m26 : Nat) (m27 : Nat) (m28 : Nat) (s29 : Int32) (m30 : Nat) (s31 : Int32) (s32 : Int32) (s33 : Int32) (s34 : Int32) (s35 : Int32) (m36 : Nat) (m37 : Nat) (m38 : Nat) (m39 : Nat) (s40 : Int64) (dz : Nat) (dt : Nat) (x3 : Int32) (x4 : Int32) (x5 : Int32) (RK : Nat → Int32) (RL : Nat → Int32) (RS : Nat → Int32) (du : Nat) (rs : Nat) (tu : Nat) (pl : Nat) (wl : Nat) (hw : Nat) (DK : Nat → Int32) (DL : Nat → Int32) (DV : Nat → Int32) (v : Nat) : Int32 → va_W → Prop := fun (r : Int32) w => ∃ (dz2 : Nat) (dt2 : Nat) (x3b : Int32) (x4b : Int32) (x5b : Int32) (RK2 : Nat → Int32) (RL2 : Nat → Int32) (RS2 : Nat → Int32), w = [(k0, .inr (9, [.ref m0, .int s1, .int (nI dz2), .int x3b, .int x4b, .int x5b, .int (nI dt2), .ref m7, .ref m8, .ref m9, .int s10, .int s11, .int s12, .ref m13, .ref m14, .ref m15, .int s16, .ref m17, .ref m18, .ref m19, .ref m20, .ref m21, .ref m22, .ref m23, .ref m24, .ref m25, .ref m26, .ref m27, .ref m28, .int s29, .ref m30, .int s31, .int s32, .int s33, .int s34, .int s35, .ref m36, .ref m37, .ref m38, .ref m39, .long s40])), (m7, ai g 5 RK2), (m8, ai g 5 RL2), (m9, ai g 80 RS2)] ∧ (gdP v (du, rs, tu, pl, wl, hw, dz, dt, DK, DL, DV) r RK RS dz2 dt2 x3b x4b x5b RK2 RL2 RS2)
theorem q_X9_isGood_g_f9 : ∀ w ∈ u_ws RX9 TX9 41, w ∈ wsX9_isGood := by decide +kernel
theorem q_X9_isGood_g_1 : (Cond.fieldLink RX9 98 "SoundLawsModel" "readWords" "I") ∈ wsX9_isGood := by decide +kernel
set_option maxHeartbeats 1500000 in
set_option maxRecDepth 100000 in
theorem c_X9_isGood_g (l : Launch) (g : GG) (k0 : Nat) (m0 : Nat) (s1 : Int32) (m7 : Nat) (m8 : Nat) (m9 : Nat) (s10 : Int32) (s11 : Int32) (s12 : Int32) (m13 : Nat) (m14 : Nat) (m15 : Nat) (s16 : Int32) (m17 : Nat) (m18 : Nat) (m19 : Nat) (m20 : Nat) (m21 : Nat) (m22 : Nat) (m23 : Nat) (m24 : Nat) (m25 : Nat) (m26 : Nat) (m27 : Nat) (m28 : Nat) (s29 : Int32) (m30 : Nat) (s31 : Int32) (s32 : Int32) (s33 : Int32) (s34 : Int32) (s35 : Int32) (m36 : Nat) (m37 : Nat) (m38 : Nat) (m39 : Nat) (s40 : Int64) (dz : Nat) (dt : Nat) (x3 : Int32) (x4 : Int32) (x5 : Int32) (RK : Nat → Int32) (RL : Nat → Int32) (RS : Nat → Int32) (du : Nat) (rs : Nat) (tu : Nat) (pl : Nat) (wl : Nat) (hw : Nat) (DK : Nat → Int32) (DL : Nat → Int32) (DV : Nat → Int32) (v : Nat) (hM : MR (du, rs, tu, pl, wl, hw, dz, dt, DK, DL, DV) dz dt x3 x4 x5 RK RL RS) (hRI : RI (du, rs, tu, pl, wl, hw, dz, dt, DK, DL, DV)) (hSI : SI (du, rs, tu, pl, wl, hw, dz, dt, DK, DL, DV)) (sz : Nat) : MetI l yX9_isGood wsX9_isGood ({ frames := 3, cells := 0, slots := 0, locals := 61 }) g [.ref k0, .int (nI v)] [(k0, .inr (9, [.ref m0, .int s1, .int (nI dz), .int x3, .int x4, .int x5, .int (nI dt), .ref m7, .ref m8, .ref m9, .int s10, .int s11, .int s12, .ref m13, .ref m14, .ref m15, .int s16, .ref m17, .ref m18, .ref m19, .ref m20, .ref m21, .ref m22, .ref m23, .ref m24, .ref m25, .ref m26, .ref m27, .ref m28, .int s29, .ref m30, .int s31, .int s32, .int s33, .int s34, .int s35, .ref m36, .ref m37, .ref m38, .ref m39, .long s40])), (m7, ai g 5 RK), (m8, ai g 5 RL), (m9, ai g 80 RS)] sz (po_X9_isGood_g g k0 m0 s1 m7 m8 m9 s10 s11 s12 m13 m14 m15 s16 m17 m18 m19 m20 m21 m22 m23 m24 m25 m26 m27 m28 s29 m30 s31 s32 s33 s34 s35 m36 m37 m38 m39 s40 dz dt x3 x4 x5 RK RL RS du rs tu pl wl hw DK DL DV v) 0 0 := by
  refine k_of (l := l) (y := yX9_isGood) (ws := wsX9_isGood) (rm := { frames := 3, cells := 0, slots := 0, locals := 61 }) (mc := 0) (ms := 0) (av := [.ref k0, .int (nI v)]) (g := g) (wc := [(k0, .inr (9, [.ref m0, .int s1, .int (nI dz), .int x3, .int x4, .int x5, .int (nI dt), .ref m7, .ref m8, .ref m9, .int s10, .int s11, .int s12, .ref m13, .ref m14, .ref m15, .int s16, .ref m17, .ref m18, .ref m19, .ref m20, .ref m21, .ref m22, .ref m23, .ref m24, .ref m25, .ref m26, .ref m27, .ref m28, .int s29, .ref m30, .int s31, .int s32, .int s33, .int s34, .int s35, .ref m36, .ref m37, .ref m38, .ref m39, .long s40])), (m7, ai g 5 RK), (m8, ai g 5 RL), (m9, ai g 80 RS)]) (Qc := fun A => va_Qi (po_X9_isGood_g g k0 m0 s1 m7 m8 m9 s10 s11 s12 m13 m14 m15 s16 m17 m18 m19 m20 m21 m22 m23 m24 m25 m26 m27 m28 s29 m30 s31 s32 s33 s34 s35 m36 m37 m38 m39 s40 dz dt x3 x4 x5 RK RL RS du rs tu pl wl hw DK DL DV v) (bk g A) A) (cc := cX9_isGood) (maxL := 2) (ret := (some .boolean)) (by decide) rfl (Nat.le_of_ble_eq_true rfl) ?_ sz
  intro p e s m below meth c hx hb hr hts hown hlocks hnm hml A hA hE hZ hP hD hS ls hl
  have hown : s.vm.findClass RX9 = some m.cls := hown
  have hl : lv_has ls 2 [(0, .ref k0), (1, .int (nI v))] := hl
  obtain ⟨g1, g2, g3, g4, g5, g6, g7, g8, g9, gK, gL, gV⟩ := id hRI
  refine lv_aload_n hx hb dX9_isGood_0 rfl (lv_at hl 0 rfl) ?_
  refine va_get (D := g.1) (ci := 9) (v := .int x3) (C := RX9) (T := TX9) (N := 41) hx hb hts q_X9_isGood_g_f9 hown hE.1 hP 0 rfl rfl 3 (by decide) (hts (.fieldLink RX9 98 "SoundLawsModel" "readWords" "I") q_X9_isGood_g_1) (fun _ h9 => h9) rfl dX9_isGood_1 ?_
  refine lv_iconst (v := (-1)) hx hb dX9_isGood_4 (by decide) ?_
  refine lv_icmp_ne (tgt := 14) hx hb dX9_isGood_5 (by decide) (fun c5_1 => ?_) (fun c5_1 => ?_)
  · skip
    have hd : du = 0 := Decidable.of_not_not (fun q => c5_1 (hM.2.2.1 q))
    obtain ⟨e3, e4, e5, e6⟩ := hM.2.2.2.1 hd
    obtain ⟨sa1, sa2, sa3, sa4⟩ := id hSI
    have hdz := sa1 hd
    have hx5 : tu + 1 = 1 ∨ ∃ l, l ≤ 4 ∧ pl ≤ l ∧ x5 = nI l := by
      by_cases q : tu = 0
      · exact Or.inl (by omega)
      · obtain ⟨l9, l1, l2, l3, l4⟩ := sa2 hd q
        exact Or.inr ⟨l9, l2, l4, (e5 q).trans l3⟩
    subst e3; subst e4
    refine lv_iload_n hx hb dX9_isGood_14 rfl (lv_at hl 1 rfl) ?_
    refine lv_bipush (v := 47) hx hb dX9_isGood_15 (by decide) ?_
    refine lv_icmp_ne (tgt := 27) hx hb dX9_isGood_17 (by decide) (fun c17_2 => ?_) (fun c17_2 => ?_)
    · skip
      refine lv_iload_n hx hb dX9_isGood_27 rfl (lv_at hl 1 rfl) ?_
      refine lv_bipush (v := 44) hx hb dX9_isGood_28 (by decide) ?_
      refine lv_icmp_ne (tgt := 40) hx hb dX9_isGood_30 (by decide) (fun c30_3 => ?_) (fun c30_3 => ?_)
      · skip
        refine lv_aload_n hx hb dX9_isGood_40 rfl (lv_at hl 0 rfl) ?_
        refine lv_iload_n hx hb dX9_isGood_41 rfl (lv_at hl 1 rfl) ?_
        refine k_ci (wr := [(m7, ai g 5 RK)]) hP hD hS hA [0, 2, 3] [1] rfl rfl (by decide) (by decide) (va_runV (As := [.int (nI v)]) (rest := []) ⟨hx, hb, hml, hown, hts⟩ (c_X9_isSound_g l g k0 m0 s1 (nI dt) m7 m8 m9 s10 s11 s12 m13 m14 m15 s16 m17 m18 m19 m20 m21 m22 m23 m24 m25 m26 m27 m28 s29 m30 s31 s32 s33 s34 s35 m36 m37 m38 m39 s40 dz (tu + 1) pl x5 RL RS (nI v) (by first | assumption | omega) (by first | assumption | omega) (by first | assumption | omega) (by first | assumption | omega) (by first | assumption | omega) (by first | assumption | omega) s.heap.size) (cwV 1 hts gX9_isGood_X9_isSound rfl rfl rfl (by decide +kernel) ⟨Nat.le_of_ble_eq_true rfl, Nat.le_of_ble_eq_true rfl⟩) (k_preV hE hZ hP hD hS hA [0, 2, 3] rfl (by decide) (va_recv hE.1 hP (ci := 9) (q0 := 0) rfl rfl)) rfl rfl hl.1 rfl (lv_room (Nat.le_of_ble_eq_true rfl)) dX9_isGood_42 ⟨Nat.le_of_ble_eq_true rfl, Nat.le_of_ble_eq_true rfl⟩) (fun r_4 w1 H locs hw hP hD hS => ?_)
        obtain ⟨n2_5, RL2_6, RS2_7, rfl, hso_8⟩ := hw
        have hP : va_P g.1 vwCl [(m7, ai g 5 RK), (k0, .inr (9, [.ref m0, .int s1, .int (nI dz), .int (nI (tu + 1)), .int (nI n2_5), .int x5, .int (nI dt), .ref m7, .ref m8, .ref m9, .int s10, .int s11, .int s12, .ref m13, .ref m14, .ref m15, .int s16, .ref m17, .ref m18, .ref m19, .ref m20, .ref m21, .ref m22, .ref m23, .ref m24, .ref m25, .ref m26, .ref m27, .ref m28, .int s29, .ref m30, .int s31, .int s32, .int s33, .int s34, .int s35, .ref m36, .ref m37, .ref m38, .ref m39, .long s40])), (m8, ai g 5 RL2_6), (m9, ai g 80 RS2_7)] H := hP
        have hD : va_D A [(m7, ai g 5 RK), (k0, .inr (9, [.ref m0, .int s1, .int (nI dz), .int (nI (tu + 1)), .int (nI n2_5), .int x5, .int (nI dt), .ref m7, .ref m8, .ref m9, .int s10, .int s11, .int s12, .ref m13, .ref m14, .ref m15, .int s16, .ref m17, .ref m18, .ref m19, .ref m20, .ref m21, .ref m22, .ref m23, .ref m24, .ref m25, .ref m26, .ref m27, .ref m28, .int s29, .ref m30, .int s31, .int s32, .int s33, .int s34, .int s35, .ref m36, .ref m37, .ref m38, .ref m39, .long s40])), (m8, ai g 5 RL2_6), (m9, ai g 80 RS2_7)] := hD
        refine W.widen (k := 0) (n := 0) (Nat.le_of_ble_eq_true rfl) (Nat.le_of_ble_eq_true rfl) ?_
        have hP9 := hP.sub (ws' := [(k0, .inr (9, [.ref m0, .int s1, .int (nI dz), .int (nI (tu + 1)), .int (nI n2_5), .int x5, .int (nI dt), .ref m7, .ref m8, .ref m9, .int s10, .int s11, .int s12, .ref m13, .ref m14, .ref m15, .int s16, .ref m17, .ref m18, .ref m19, .ref m20, .ref m21, .ref m22, .ref m23, .ref m24, .ref m25, .ref m26, .ref m27, .ref m28, .int s29, .ref m30, .int s31, .int s32, .int s33, .int s34, .int s35, .ref m36, .ref m37, .ref m38, .ref m39, .long s40])), (m7, ai g 5 RK), (m8, ai g 5 RL2_6), (m9, ai g 80 RS2_7)]) [1, 0, 2, 3] rfl
        have hD9 := hD.sub (ws' := [(k0, .inr (9, [.ref m0, .int s1, .int (nI dz), .int (nI (tu + 1)), .int (nI n2_5), .int x5, .int (nI dt), .ref m7, .ref m8, .ref m9, .int s10, .int s11, .int s12, .ref m13, .ref m14, .ref m15, .int s16, .ref m17, .ref m18, .ref m19, .ref m20, .ref m21, .ref m22, .ref m23, .ref m24, .ref m25, .ref m26, .ref m27, .ref m28, .int s29, .ref m30, .int s31, .int s32, .int s33, .int s34, .int s35, .ref m36, .ref m37, .ref m38, .ref m39, .long s40])), (m7, ai g 5 RK), (m8, ai g 5 RL2_6), (m9, ai g 80 RS2_7)]) [1, 0, 2, 3] (by decide) rfl
        exact k_rz hx hb hr hlocks hS hP9 hD9 (gd_nar (gd_o hd c17_2 c30_3 hM hRI hSI hso_8)) ⟨dz, dt, (nI (tu + 1)), (nI n2_5), x5, RK, RL2_6, RS2_7, rfl, (gd_o hd c17_2 c30_3 hM hRI hSI hso_8)⟩ dX9_isGood_45
      · skip
        refine lv_aload_n hx hb dX9_isGood_33 rfl (lv_at hl 0 rfl) ?_
        refine k_ci (wr := [(m7, ai g 5 RK), (m8, ai g 5 RL), (m9, ai g 80 RS)]) hP hD hS hA [0] [1, 2, 3] rfl rfl (by decide) (by decide) (va_runV (As := []) (rest := []) ⟨hx, hb, hml, hown, hts⟩ (c_X9_isComma_g l g k0 m0 s1 m7 m8 m9 s10 s11 s12 m13 m14 m15 s16 m17 m18 m19 m20 m21 m22 m23 m24 m25 m26 m27 m28 s29 m30 s31 s32 s33 s34 s35 m36 m37 m38 m39 s40 dz (tu + 1) pl dt x5 (by first | assumption | omega) (by first | assumption | omega) (by first | assumption | omega) (by first | assumption | omega) s.heap.size) (cwV 0 hts gX9_isGood_X9_isComma rfl rfl rfl (by decide +kernel) ⟨Nat.le_of_ble_eq_true rfl, Nat.le_of_ble_eq_true rfl⟩) (k_preV hE hZ hP hD hS hA [0] rfl (by decide) (va_recv hE.1 hP (ci := 9) (q0 := 0) rfl rfl)) rfl rfl hl.1 rfl (lv_room (Nat.le_of_ble_eq_true rfl)) dX9_isGood_34 ⟨Nat.le_of_ble_eq_true rfl, Nat.le_of_ble_eq_true rfl⟩) (fun r_9 w1 H locs hw hP hD hS => ?_)
        obtain ⟨yt2_10, rfl, rfl, hyt2_12⟩ := hw
        have hP : va_P g.1 vwCl [(m7, ai g 5 RK), (m8, ai g 5 RL), (m9, ai g 80 RS), (k0, .inr (9, [.ref m0, .int s1, .int (nI dz), .int (-1), .int (nI pl), .int x5, .int (nI yt2_10), .ref m7, .ref m8, .ref m9, .int s10, .int s11, .int s12, .ref m13, .ref m14, .ref m15, .int s16, .ref m17, .ref m18, .ref m19, .ref m20, .ref m21, .ref m22, .ref m23, .ref m24, .ref m25, .ref m26, .ref m27, .ref m28, .int s29, .ref m30, .int s31, .int s32, .int s33, .int s34, .int s35, .ref m36, .ref m37, .ref m38, .ref m39, .long s40]))] H := hP
        have hD : va_D A [(m7, ai g 5 RK), (m8, ai g 5 RL), (m9, ai g 80 RS), (k0, .inr (9, [.ref m0, .int s1, .int (nI dz), .int (-1), .int (nI pl), .int x5, .int (nI yt2_10), .ref m7, .ref m8, .ref m9, .int s10, .int s11, .int s12, .ref m13, .ref m14, .ref m15, .int s16, .ref m17, .ref m18, .ref m19, .ref m20, .ref m21, .ref m22, .ref m23, .ref m24, .ref m25, .ref m26, .ref m27, .ref m28, .int s29, .ref m30, .int s31, .int s32, .int s33, .int s34, .int s35, .ref m36, .ref m37, .ref m38, .ref m39, .long s40]))] := hD
        refine lv_goto (tgt := 45) hx hb dX9_isGood_37 (by decide) ?_
        refine W.widen (k := 0) (n := 0) (Nat.le_of_ble_eq_true rfl) (Nat.le_of_ble_eq_true rfl) ?_
        have hP9 := hP.sub (ws' := [(k0, .inr (9, [.ref m0, .int s1, .int (nI dz), .int (-1), .int (nI pl), .int x5, .int (nI yt2_10), .ref m7, .ref m8, .ref m9, .int s10, .int s11, .int s12, .ref m13, .ref m14, .ref m15, .int s16, .ref m17, .ref m18, .ref m19, .ref m20, .ref m21, .ref m22, .ref m23, .ref m24, .ref m25, .ref m26, .ref m27, .ref m28, .int s29, .ref m30, .int s31, .int s32, .int s33, .int s34, .int s35, .ref m36, .ref m37, .ref m38, .ref m39, .long s40])), (m7, ai g 5 RK), (m8, ai g 5 RL), (m9, ai g 80 RS)]) [3, 0, 1, 2] rfl
        have hD9 := hD.sub (ws' := [(k0, .inr (9, [.ref m0, .int s1, .int (nI dz), .int (-1), .int (nI pl), .int x5, .int (nI yt2_10), .ref m7, .ref m8, .ref m9, .int s10, .int s11, .int s12, .ref m13, .ref m14, .ref m15, .int s16, .ref m17, .ref m18, .ref m19, .ref m20, .ref m21, .ref m22, .ref m23, .ref m24, .ref m25, .ref m26, .ref m27, .ref m28, .int s29, .ref m30, .int s31, .int s32, .int s33, .int s34, .int s35, .ref m36, .ref m37, .ref m38, .ref m39, .long s40])), (m7, ai g 5 RK), (m8, ai g 5 RL), (m9, ai g 80 RS)]) [3, 0, 1, 2] (by decide) rfl
        exact k_rz hx hb hr hlocks hS hP9 hD9 (gd_nar (gd_c hd c30_3 hM hRI hSI rfl hyt2_12)) ⟨dz, yt2_10, (-1), (nI pl), x5, RK, RL, RS, rfl, (gd_c hd c30_3 hM hRI hSI rfl hyt2_12)⟩ dX9_isGood_45
    · skip
      refine lv_aload_n hx hb dX9_isGood_20 rfl (lv_at hl 0 rfl) ?_
      refine k_ci (wr := [(m7, ai g 5 RK), (m8, ai g 5 RL), (m9, ai g 80 RS)]) hP hD hS hA [0] [1, 2, 3] rfl rfl (by decide) (by decide) (va_runV (As := []) (rest := []) ⟨hx, hb, hml, hown, hts⟩ (c_X9_isSlash_g l g k0 m0 s1 (nI dz) m7 m8 m9 s10 s11 s12 m13 m14 m15 s16 m17 m18 m19 m20 m21 m22 m23 m24 m25 m26 m27 m28 s29 m30 s31 s32 s33 s34 s35 m36 m37 m38 m39 s40 (tu + 1) pl dt x5 (by first | assumption | omega) (by first | assumption | omega) (by first | assumption | omega) s.heap.size) (cwV 0 hts gX9_isGood_X9_isSlash rfl rfl rfl (by decide +kernel) ⟨Nat.le_of_ble_eq_true rfl, Nat.le_of_ble_eq_true rfl⟩) (k_preV hE hZ hP hD hS hA [0] rfl (by decide) (va_recv hE.1 hP (ci := 9) (q0 := 0) rfl rfl)) rfl rfl hl.1 rfl (lv_room (Nat.le_of_ble_eq_true rfl)) dX9_isGood_21 ⟨Nat.le_of_ble_eq_true rfl, Nat.le_of_ble_eq_true rfl⟩) (fun r_13 w1 H locs hw hP hD hS => ?_)
      obtain ⟨x5b_14, rfl, rfl, hx5_16⟩ := hw
      have hP : va_P g.1 vwCl [(m7, ai g 5 RK), (m8, ai g 5 RL), (m9, ai g 80 RS), (k0, .inr (9, [.ref m0, .int s1, .int (nI dz), .int (nI ((tu + 1) + 1)), .int 0, .int x5b_14, .int (nI dt), .ref m7, .ref m8, .ref m9, .int s10, .int s11, .int s12, .ref m13, .ref m14, .ref m15, .int s16, .ref m17, .ref m18, .ref m19, .ref m20, .ref m21, .ref m22, .ref m23, .ref m24, .ref m25, .ref m26, .ref m27, .ref m28, .int s29, .ref m30, .int s31, .int s32, .int s33, .int s34, .int s35, .ref m36, .ref m37, .ref m38, .ref m39, .long s40]))] H := hP
      have hD : va_D A [(m7, ai g 5 RK), (m8, ai g 5 RL), (m9, ai g 80 RS), (k0, .inr (9, [.ref m0, .int s1, .int (nI dz), .int (nI ((tu + 1) + 1)), .int 0, .int x5b_14, .int (nI dt), .ref m7, .ref m8, .ref m9, .int s10, .int s11, .int s12, .ref m13, .ref m14, .ref m15, .int s16, .ref m17, .ref m18, .ref m19, .ref m20, .ref m21, .ref m22, .ref m23, .ref m24, .ref m25, .ref m26, .ref m27, .ref m28, .int s29, .ref m30, .int s31, .int s32, .int s33, .int s34, .int s35, .ref m36, .ref m37, .ref m38, .ref m39, .long s40]))] := hD
      refine lv_goto (tgt := 45) hx hb dX9_isGood_24 (by decide) ?_
      refine W.widen (k := 0) (n := 0) (Nat.le_of_ble_eq_true rfl) (Nat.le_of_ble_eq_true rfl) ?_
      have hP9 := hP.sub (ws' := [(k0, .inr (9, [.ref m0, .int s1, .int (nI dz), .int (nI ((tu + 1) + 1)), .int 0, .int x5b_14, .int (nI dt), .ref m7, .ref m8, .ref m9, .int s10, .int s11, .int s12, .ref m13, .ref m14, .ref m15, .int s16, .ref m17, .ref m18, .ref m19, .ref m20, .ref m21, .ref m22, .ref m23, .ref m24, .ref m25, .ref m26, .ref m27, .ref m28, .int s29, .ref m30, .int s31, .int s32, .int s33, .int s34, .int s35, .ref m36, .ref m37, .ref m38, .ref m39, .long s40])), (m7, ai g 5 RK), (m8, ai g 5 RL), (m9, ai g 80 RS)]) [3, 0, 1, 2] rfl
      have hD9 := hD.sub (ws' := [(k0, .inr (9, [.ref m0, .int s1, .int (nI dz), .int (nI ((tu + 1) + 1)), .int 0, .int x5b_14, .int (nI dt), .ref m7, .ref m8, .ref m9, .int s10, .int s11, .int s12, .ref m13, .ref m14, .ref m15, .int s16, .ref m17, .ref m18, .ref m19, .ref m20, .ref m21, .ref m22, .ref m23, .ref m24, .ref m25, .ref m26, .ref m27, .ref m28, .int s29, .ref m30, .int s31, .int s32, .int s33, .int s34, .int s35, .ref m36, .ref m37, .ref m38, .ref m39, .long s40])), (m7, ai g 5 RK), (m8, ai g 5 RL), (m9, ai g 80 RS)]) [3, 0, 1, 2] (by decide) rfl
      exact k_rz hx hb hr hlocks hS hP9 hD9 (gd_nar (gd_s hd c17_2 hM hRI hSI rfl hx5_16)) ⟨dz, dt, (nI ((tu + 1) + 1)), 0, x5b_14, RK, RL, RS, rfl, (gd_s hd c17_2 hM hRI hSI rfl hx5_16)⟩ dX9_isGood_45
  · skip
    refine lv_aload_n hx hb dX9_isGood_8 rfl (lv_at hl 0 rfl) ?_
    refine lv_iload_n hx hb dX9_isGood_9 rfl (lv_at hl 1 rfl) ?_
    refine k_ci (wr := [(m8, ai g 5 RL), (m9, ai g 80 RS)]) hP hD hS hA [0, 1] [2, 3] rfl rfl (by decide) (by decide) (va_runV (As := [.int (nI v)]) (rest := []) ⟨hx, hb, hml, hown, hts⟩ (c_X9_isBegun_g l g k0 m0 s1 (nI dt) m7 m8 m9 s10 s11 s12 m13 m14 m15 s16 m17 m18 m19 m20 m21 m22 m23 m24 m25 m26 m27 m28 s29 m30 s31 s32 s33 s34 s35 m36 m37 m38 m39 s40 dz x3 x4 x5 RK (nI v) (by first | assumption | omega) s.heap.size) (cwV 1 hts gX9_isGood_X9_isBegun rfl rfl rfl (by decide +kernel) ⟨Nat.le_of_ble_eq_true rfl, Nat.le_of_ble_eq_true rfl⟩) (k_preV hE hZ hP hD hS hA [0, 1] rfl (by decide) (va_recv hE.1 hP (ci := 9) (q0 := 0) rfl rfl)) rfl rfl hl.1 rfl (lv_room (Nat.le_of_ble_eq_true rfl)) dX9_isGood_10 ⟨Nat.le_of_ble_eq_true rfl, Nat.le_of_ble_eq_true rfl⟩) (fun r_17 w1 H locs hw hP hD hS => ?_)
    obtain ⟨y2_18, x3b_19, x4b_20, x5b_21, RK2_22, rfl, hbg_23⟩ := hw
    have hP : va_P g.1 vwCl [(m8, ai g 5 RL), (m9, ai g 80 RS), (k0, .inr (9, [.ref m0, .int s1, .int (nI y2_18), .int x3b_19, .int x4b_20, .int x5b_21, .int (nI dt), .ref m7, .ref m8, .ref m9, .int s10, .int s11, .int s12, .ref m13, .ref m14, .ref m15, .int s16, .ref m17, .ref m18, .ref m19, .ref m20, .ref m21, .ref m22, .ref m23, .ref m24, .ref m25, .ref m26, .ref m27, .ref m28, .int s29, .ref m30, .int s31, .int s32, .int s33, .int s34, .int s35, .ref m36, .ref m37, .ref m38, .ref m39, .long s40])), (m7, ai g 5 RK2_22)] H := hP
    have hD : va_D A [(m8, ai g 5 RL), (m9, ai g 80 RS), (k0, .inr (9, [.ref m0, .int s1, .int (nI y2_18), .int x3b_19, .int x4b_20, .int x5b_21, .int (nI dt), .ref m7, .ref m8, .ref m9, .int s10, .int s11, .int s12, .ref m13, .ref m14, .ref m15, .int s16, .ref m17, .ref m18, .ref m19, .ref m20, .ref m21, .ref m22, .ref m23, .ref m24, .ref m25, .ref m26, .ref m27, .ref m28, .int s29, .ref m30, .int s31, .int s32, .int s33, .int s34, .int s35, .ref m36, .ref m37, .ref m38, .ref m39, .long s40])), (m7, ai g 5 RK2_22)] := hD
    refine W.widen (k := 0) (n := 0) (Nat.le_of_ble_eq_true rfl) (Nat.le_of_ble_eq_true rfl) ?_
    have hP9 := hP.sub (ws' := [(k0, .inr (9, [.ref m0, .int s1, .int (nI y2_18), .int x3b_19, .int x4b_20, .int x5b_21, .int (nI dt), .ref m7, .ref m8, .ref m9, .int s10, .int s11, .int s12, .ref m13, .ref m14, .ref m15, .int s16, .ref m17, .ref m18, .ref m19, .ref m20, .ref m21, .ref m22, .ref m23, .ref m24, .ref m25, .ref m26, .ref m27, .ref m28, .int s29, .ref m30, .int s31, .int s32, .int s33, .int s34, .int s35, .ref m36, .ref m37, .ref m38, .ref m39, .long s40])), (m7, ai g 5 RK2_22), (m8, ai g 5 RL), (m9, ai g 80 RS)]) [2, 3, 0, 1] rfl
    have hD9 := hD.sub (ws' := [(k0, .inr (9, [.ref m0, .int s1, .int (nI y2_18), .int x3b_19, .int x4b_20, .int x5b_21, .int (nI dt), .ref m7, .ref m8, .ref m9, .int s10, .int s11, .int s12, .ref m13, .ref m14, .ref m15, .int s16, .ref m17, .ref m18, .ref m19, .ref m20, .ref m21, .ref m22, .ref m23, .ref m24, .ref m25, .ref m26, .ref m27, .ref m28, .int s29, .ref m30, .int s31, .int s32, .int s33, .int s34, .int s35, .ref m36, .ref m37, .ref m38, .ref m39, .long s40])), (m7, ai g 5 RK2_22), (m8, ai g 5 RL), (m9, ai g 80 RS)]) [2, 3, 0, 1] (by decide) rfl
    exact k_rz hx hb hr hlocks hS hP9 hD9 (gd_nar (gd_b hM hRI c5_1 hbg_23)) ⟨y2_18, dt, x3b_19, x4b_20, x5b_21, RK2_22, RL, RS, rfl, (gd_b hM hRI c5_1 hbg_23)⟩ dX9_isGood_13

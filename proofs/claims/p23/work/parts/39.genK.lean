/-! the silent words -/
def clo (du rs u z tg k t : Nat) : Prop := k < z ∧ ((du = 0 ∧ k = rs) → t < u) ∧ (¬ (du = 0 ∧ k = rs) → t < tg)
def WI : PS → Prop
  | (du, rs, u, n, wl, hw, z, tg, _, L, V) => (du = 0 → (wl = 0 ↔ ∃ i, i < n ∧ ¬ V (16 * rs + 4 * u + i) = 0)) ∧ (hw = 0 ↔ ∀ k t, clo du rs u z tg k t → NZ L V k t) ∧ (tg = 0 → du = 0 → rs = 0) ∧ (tg = 0 → ¬ du = 0 → z = 0)
theorem hsn_0 {a b : Nat} : hsn a b = 0 ↔ a = 0 ∧ b = 0 := by
  unfold hsn
  by_cases h : a = 0
  · rw [if_pos h]; exact ⟨fun q => ⟨h, q⟩, fun q => q.2⟩
  · rw [if_neg h]; exact ⟨fun q => absurd q (by decide), fun q => absurd q.1 h⟩
theorem NZ_eq {L V L2 V2 : Nat → Int32} {k t : Nat} (h1 : L2 k = L k) (h2 : ∀ i, i < 4 → V2 (16 * k + 4 * t + i) = V (16 * k + 4 * t + i)) : NZ L2 V2 k t ↔ NZ L V k t := by
  constructor
  · rintro ⟨l, i, a, b, c, d⟩
    exact ⟨l, i, a, by rw [← h1]; exact b, c, by rw [← h2 i (by omega)]; exact d⟩
  · rintro ⟨l, i, a, b, c, d⟩
    exact ⟨l, i, a, by rw [h1]; exact b, c, by rw [h2 i (by omega)]; exact d⟩
theorem NZ_of {L V : Nat → Int32} {k t n : Nat} (hn : n ≤ 4) (hL : L k = nI n) : NZ L V k t ↔ ∃ i, i < n ∧ ¬ V (16 * k + 4 * t + i) = 0 := by
  constructor
  · rintro ⟨l, i, a, b, c, d⟩
    have : l = n := (nI_eq (by omega) (by omega)).mp (b.symm.trans hL)
    exact ⟨i, by omega, d⟩
  · rintro ⟨i, a, b⟩
    exact ⟨n, i, hn, hL, a, b⟩
/-- a word is closed -/
theorem WI_close {rs u n wl hw z tg : Nat} {L V : Nat → Int32} (hn : n ≤ 4) (h1 : wl = 0 ↔ ∃ i, i < n ∧ ¬ V (16 * rs + 4 * u + i) = 0) (h2 : hw = 0 ↔ ∀ k t, clo 0 rs u z tg k t → NZ L V k t) (hL : ¬ u = 0 → L rs = nI n) : hsn wl hw = 0 ↔ NZ (upd L rs (nI n)) V rs u ∧ ∀ k t, clo 0 rs u z tg k t → NZ (upd L rs (nI n)) V k t := by
  rw [hsn_0, h1, h2, NZ_of hn pk_us]
  have e : ∀ k t, clo 0 rs u z tg k t → (NZ (upd L rs (nI n)) V k t ↔ NZ L V k t) := fun k t hc => by
    by_cases q : k = rs
    · have hu := hc.2.1 ⟨rfl, q⟩
      refine NZ_eq ?_ (fun _ _ => rfl)
      rw [q, pk_us]
      exact (hL (by omega)).symm
    · exact NZ_eq (pk_un q) (fun _ _ => rfl)
  constructor
  · rintro ⟨a, b⟩
    exact ⟨a, fun k t hc => (e k t hc).mpr (b k t hc)⟩
  · rintro ⟨a, b⟩
    exact ⟨a, fun k t hc => (e k t hc).mp (b k t hc)⟩
theorem wdw_len {u n rs : Nat} {L : Nat → Int32} (h : ¬ wdw u n (L rs) = 0) (hu : ¬ u = 0) : L rs = nI n := by
  by_cases q : nI n = L rs
  · exact q.symm
  · exact absurd (by unfold wdw; rw [if_neg hu, if_neg q]) h
theorem stw_w {u n tg : Nat} {x : Int32} (h : ¬ stw u n tg x = 0) : ¬ wdw u n x = 0 ∧ 2 ≤ u + 1 ∧ (¬ tg = 0 → u + 1 = tg) := by
  have qw : ¬ wdw u n x = 0 := fun e => h (by unfold stw; rw [if_pos e])
  have q2 : ¬ u + 1 < 2 := fun e => h (by unfold stw; rw [if_neg qw, if_pos e])
  refine ⟨qw, by omega, fun h0 => ?_⟩
  by_cases h0b : u + 1 = tg
  · exact h0b
  · exact absurd (by unfold stw; rw [if_neg qw, if_neg q2, if_neg h0, if_neg h0b]) h
theorem WI_acc {c : Int32} {q w : PS} (hI : RI q) (hS : SI q) (h : WI q) (e : acc c q = some w) : WI w := by
  obtain ⟨du, rs, u, n, wl, hw, z, tg, K, L, V⟩ := q
  obtain ⟨h1, h2, h3, h4, h5, h6, h7, h8, h9, hK, hL, hV⟩ := hI
  obtain ⟨s1, s2, s3, s4⟩ := hS
  obtain ⟨w1, w2, w3, w4⟩ := h
  unfold acc at e
  by_cases hd : du = 0
  · rw [if_pos (show (du, rs, u, n, wl, hw, z, tg, K, L, V).1 = 0 from hd)] at e
    have hz := s1 hd
    have w1b := w1 hd
    have w3b := fun q => w3 q hd
    subst hd
    by_cases c1 : c = 47
    · rw [if_pos c1] at e
      obtain ⟨q1, q2, rfl⟩ := ewd_some e
      · · refine ⟨fun _ => ⟨fun q => absurd q (by decide), fun ⟨i, hi, _⟩ => absurd hi (Nat.not_lt_zero i)⟩, ?_, fun q _ => w3b q, fun _ q => absurd rfl q⟩
          rw [WI_close h4 w1b w2 (wdw_len q1)]
          constructor
          · rintro ⟨a, b⟩ k t hc
            by_cases hk : k = rs
            · by_cases ht : t = u
              · rw [hk, ht]; exact a
              · exact b k t ⟨hc.1, fun q => by have := hc.2.1 q; omega, fun q => absurd ⟨rfl, hk⟩ q⟩
            · exact b k t ⟨hc.1, fun q => absurd q.2 hk, fun q => hc.2.2 q⟩
          · intro a
            exact ⟨a rs u ⟨by omega, fun _ => by omega, fun q => absurd ⟨rfl, rfl⟩ q⟩, fun k t hc => a k t ⟨hc.1, fun q => by have := hc.2.1 q; omega, hc.2.2⟩⟩
    · rw [if_neg c1] at e
      by_cases c2 : c = 44
      · rw [if_pos c2] at e
        obtain ⟨q1, q2, rfl⟩ := est_some e
        · · obtain ⟨qw, qu, qt⟩ := stw_w q1
            refine ⟨fun q => absurd q (by decide), ?_, fun q => absurd q (by omega), fun q => absurd q (by omega)⟩
            rw [WI_close h4 w1b w2 (wdw_len qw)]
            constructor
            · rintro ⟨a, b⟩ k t hc
              have ht := hc.2.2 (fun q => absurd q.1 (by decide))
              by_cases hk : k = rs
              · by_cases ht2 : t = u
                · rw [hk, ht2]; exact a
                · exact b k t ⟨hc.1, fun _ => by omega, fun q => absurd ⟨rfl, hk⟩ q⟩
              · have hk2 := hc.1
                have h0 : ¬ tg = 0 := fun q => by have := w3b q; omega
                exact b k t ⟨hc.1, fun q => absurd q.2 hk, fun _ => by have := qt h0; omega⟩
            · intro a
              refine ⟨a rs u ⟨by omega, fun q => absurd q.1 (by decide), fun _ => by omega⟩, fun k t hc => a k t ⟨hc.1, fun q => absurd q.1 (by decide), fun _ => ?_⟩⟩
              by_cases hk : k = rs
              · have := hc.2.1 ⟨rfl, hk⟩; omega
              · have h0 : ¬ tg = 0 := fun q => by have := w3b q; have := hc.1; omega
                have := hc.2.2 (fun q => hk q.2)
                have := qt h0
                omega
      · rw [if_neg c2] at e
        obtain ⟨q1, q2, rfl⟩ := asd_some e
        · · have hn4 : n < 4 := by
              by_cases hu : u = 0
              · rw [if_pos hu] at q2
                exact (nI_ltI (b := 4) (by omega) (by decide)).mp q2
              · obtain ⟨l, l1, l2, l3, l4⟩ := s2 rfl hu
                rw [if_neg hu, l3] at q2
                have := (nI_ltI (by omega) (by omega)).mp q2
                omega
            refine ⟨fun _ => ?_, ?_, fun q _ => w3b q, fun _ q => absurd rfl q⟩
            · have ex : (∃ i, i < n + 1 ∧ ¬ upd V (16 * rs + 4 * u + n) (sby c) (16 * rs + 4 * u + i) = 0) ↔ ((∃ i, i < n ∧ ¬ V (16 * rs + 4 * u + i) = 0) ∨ ¬ sby c = 0) := by
                constructor
                · rintro ⟨i, hi, hx⟩
                  by_cases ei : i = n
                  · rw [ei, pk_us] at hx; exact Or.inr hx
                  · rw [pk_un (by omega)] at hx; exact Or.inl ⟨i, by omega, hx⟩
                · rintro (⟨i, hi, hx⟩ | hx)
                  · exact ⟨i, by omega, by rw [pk_un (by omega)]; exact hx⟩
                  · exact ⟨n, by omega, by rw [pk_us]; exact hx⟩
              rw [ex, ← w1b]
              by_cases hs : sby c = 0
              · rw [if_pos hs]; exact ⟨Or.inl, fun q => q.elim id (fun q => absurd hs q)⟩
              · rw [if_neg hs]; exact ⟨fun _ => Or.inr hs, fun _ => rfl⟩
            · rw [w2]
              have ee : ∀ k t, clo 0 rs u z tg k t → (NZ L (upd V (16 * rs + 4 * u + n) (sby c)) k t ↔ NZ L V k t) := fun k t hc => NZ_eq rfl (fun i hi => pk_un (by
                by_cases hk : k = rs
                · have := hc.2.1 ⟨rfl, hk⟩; omega
                · have := hc.2.2 (fun q => hk q.2); omega))
              exact ⟨fun a k t hc => (ee k t hc).mpr (a k t hc), fun a k t hc => (ee k t hc).mp (a k t hc)⟩
  · rw [if_neg (show ¬ (du, rs, u, n, wl, hw, z, tg, K, L, V).1 = 0 from hd)] at e
    obtain ⟨q1, rfl⟩ := akd_some e
    · refine ⟨fun _ => ⟨fun q => absurd q (by decide), fun ⟨i, hi, _⟩ => absurd hi (Nat.not_lt_zero i)⟩, ?_, fun q _ => w4 q hd, fun _ q => absurd rfl q⟩
      rw [w2]
      constructor
      · intro a k t hc
        have hk : ¬ k = z := fun q => absurd (hc.2.1 ⟨rfl, q⟩) (Nat.not_lt_zero t)
        exact a k t ⟨by have := hc.1; omega, fun q => absurd q.1 hd, fun _ => hc.2.2 (fun q => hk q.2)⟩
      · intro a k t hc
        have hk : ¬ k = z := by have := hc.1; omega
        exact a k t ⟨by have := hc.1; omega, fun q => absurd q.2 hk, fun _ => hc.2.2 (fun q => hd q.1)⟩
theorem WI_0 {rs u n wl : Nat} {K L V : Nat → Int32} : WI (1, rs, u, n, wl, 0, 0, 0, K, L, V) := ⟨fun q => absurd q (by decide), ⟨fun _ k t hc => absurd hc.1 (Nat.not_lt_zero k), fun _ => rfl⟩, fun _ q => absurd q (by decide), fun _ _ => rfl⟩
theorem prun_SW {Pg : Nat → Int32} {q : PS} (hI : RI q) (hS : SI q) (hW : WI q) : ∀ (n : Nat) (w : PS), prun Pg q n = some w → SI w ∧ WI w := by
  intro n
  induction n with
  | zero => intro w e; obtain rfl := Option.some.inj e; exact ⟨hS, hW⟩
  | succ n ih =>
    intro w e
    cases hq : prun Pg q n with
    | none => exact absurd (show (prun Pg q n).bind (acc (Pg n)) = some w from e) (by rw [hq]; simp)
    | some v =>
      have e2 : (prun Pg q n).bind (acc (Pg n)) = some w := e
      rw [hq] at e2
      have hv := prun_RI hI n v hq
      obtain ⟨a, b⟩ := ih v hq
      exact ⟨SI_acc hv a e2, WI_acc hv a b e2⟩
/-- both tests of the whole page are one -/
theorem fin_iff {w : PS} {y yt : Nat} {x3 x4 x5 : Int32} {RK RL RS : Nat → Int32} (hI : RI w) (hS : SI w) (hW : WI w) (hM : MR w y yt x3 x4 x5 RK RL RS) : MFin RL RS w ↔ (fns w).1 = 1 := by
  obtain ⟨du, rs, u, n, wl, hw, z, tg, K, L, V⟩ := w
  obtain ⟨h1, h2, h3, h4, h5, h6, h7, h8, h9, hK, hL, hV⟩ := id hI
  obtain ⟨s1, s2, s3, s4⟩ := id hS
  obtain ⟨w1, w2, w3, w4⟩ := hW
  obtain ⟨-, -, m3, m4, mK, mS, mL⟩ := id hM
  unfold fns MFin
  dsimp only
  by_cases hd : du = 0
  · rw [if_pos hd]
    by_cases hq : stw u n tg (L rs) = 0
    · rw [if_pos hq]
      exact ⟨fun q => absurd hq q.2.1, fun q => absurd (show (0 : Int32) = 1 from q) (by decide)⟩
    · rw [if_neg hq]
      obtain ⟨qw, qu, qt⟩ := stw_w hq
      obtain ⟨e3, e4, e5, e6⟩ := m4 hd
      have hz := s1 hd
      have hn0 : ¬ n = 0 := by
        by_cases hu : u = 0
        · exact wdw_pos (l := 0) qw (fun e => absurd hu e) (by omega)
        · obtain ⟨l, l1, l2, l3, l4⟩ := s2 hd hu
          exact wdw_pos (l := l) qw (fun _ => ⟨l1, by omega, l3⟩) (by omega)
      subst hd
      have hc := WI_close h4 (w1 rfl) w2 (wdw_len qw)
      have eL : ∀ k, k < z → RL k = upd L rs (nI n) k := fun k hk => by
        by_cases q : k = rs
        · rw [q, pk_us]; exact e6 hn0
        · rw [pk_un q]; exact mL k hk (fun _ => by omega)
      have eN : ∀ k t, k < z → t < 4 → (NZ RL RS k t ↔ NZ (upd L rs (nI n)) V k t) := fun k t hk ht => NZ_eq (eL k hk) (fun i hi => mS _ (by omega))
      have hh : ((if hsn wl hw = 0 then (1 : Int32) else 0, ((0 : Nat), rs, u, n, wl, hsn wl hw, z, u + 1, K, upd L rs (nI n), V)) : Int32 × PS).1 = 1 ↔ hsn wl hw = 0 := by
        show (if hsn wl hw = 0 then (1 : Int32) else 0) = 1 ↔ _
        by_cases q : hsn wl hw = 0
        · rw [if_pos q]; exact ⟨fun _ => q, fun _ => rfl⟩
        · rw [if_neg q]; exact ⟨fun q => absurd q (by decide), fun e => absurd e q⟩
      rw [hh, hc]
      constructor
      · rintro ⟨-, -, hm⟩
        have hm2 : ∀ k t, k < z → t < u + 1 → NZ (upd L rs (nI n)) V k t := fun k t hk ht => (eN k t hk (by omega)).mp (hm k t (Or.inl ⟨hk, ht⟩))
        refine ⟨hm2 rs u (by omega) (by omega), fun k t hcl => hm2 k t hcl.1 ?_⟩
        by_cases hk : k = rs
        · have := hcl.2.1 ⟨rfl, hk⟩; omega
        · have h0 : ¬ tg = 0 := fun q => by have := w3 q rfl; have := hcl.1; omega
          have := hcl.2.2 (fun q => hk q.2)
          have := qt h0
          omega
      · rintro ⟨a, b⟩
        refine ⟨rfl, hq, fun k t hkt => ?_⟩
        rcases hkt with ⟨hk, ht⟩ | ⟨-, ht⟩
        · refine (eN k t hk (by omega)).mpr ?_
          by_cases e : k = rs
          · by_cases e2 : t = u
            · rw [e, e2]; exact a
            · exact b k t ⟨hk, fun _ => by omega, fun q => absurd ⟨rfl, e⟩ q⟩
          · have h0 : ¬ tg = 0 := fun q => by have := w3 q rfl; omega
            exact b k t ⟨hk, fun q => absurd q.2 e, fun _ => by have := qt h0; omega⟩
        · exact absurd ht (Nat.not_lt_zero t)
  · rw [if_neg hd]
    exact ⟨fun q => absurd q.1 hd, fun q => absurd (show (0 : Int32) = 1 from q) (by decide)⟩
theorem prun_mono {Pg : Nat → Int32} {q : PS} : ∀ (j i : Nat), i ≤ j → ∀ w, prun Pg q j = some w → ∃ v, prun Pg q i = some v := by
  intro j
  induction j with
  | zero => intro i hi w e; exact ⟨w, by rw [show i = 0 by omega]; exact e⟩
  | succ j ih =>
    intro i hi w e
    by_cases h : i = j + 1
    · exact ⟨w, by rw [h]; exact e⟩
    · cases hq : prun Pg q j with
      | none => exact absurd (show (prun Pg q j).bind (acc (Pg j)) = some w from e) (by rw [hq]; simp)
      | some v => exact ih i (by omega) v hq
theorem prd_uniq {Pg : Nat → Int32} {a : Nat} {q w v : PS} {r x : Int32} (h : prd Pg a q r w) (h2 : prd Pg a q x v) : r = x ∧ w = v := by
  obtain ⟨j, hj, rfl, hp, hf⟩ := h
  obtain ⟨i, hi, rfl, hp2, hf2⟩ := h2
  have no : ∀ {j i : Nat} {w v : PS}, prun Pg q j = some w → (j < a → acc (Pg j) w = none) → prun Pg q i = some v → i ≤ a → ¬ j < i := by
    intro j i w v hp hf hp2 hi hlt
    obtain ⟨y, hy⟩ := prun_mono i (j + 1) (by omega) v hp2
    have e : (prun Pg q j).bind (acc (Pg j)) = some y := hy
    rw [hp] at e
    rw [show (some w).bind (acc (Pg j)) = acc (Pg j) w from rfl, hf (by omega)] at e
    exact absurd e (by simp)
  have e : j = i := by
    have := no hp hf hp2 hi
    have := no hp2 hf2 hp hj
    omega
  subst e
  exact ⟨rfl, Option.some.inj (hp.symm.trans hp2)⟩
theorem bzn_s {f : Nat → Int32} {n : Nat} {x : Int32} (h : ∀ i, i < n → vp_nar .boolean (f i) = f i) : ∀ i, i < n + 1 → vp_nar .boolean (upd f n (vp_nar .boolean x) i) = upd f n (vp_nar .boolean x) i := fun i hi => by
  by_cases q : i = n
  · rw [q, pk_us, nar_idem]
  · rw [pk_un q, h i (by omega)]
def po_X8_cost_g (g : GG) (h0 : Nat) (pg : Nat) (rd : Nat) (sk : Nat) (si : Nat) (sy : Nat) (ks : Nat) (ki : Nat) (al : Nat) (dr : Nat) (le : Int32) (re : Int32) (sd : Int32) (kp : Int32) (p1 : Int32) (p2 : Int32) : Int32 → va_W → Prop := fun (r : Int32) w => w = [(h0, .inr (8, [.ref pg, .int le, .ref rd, .int re, .ref sk, .ref si, .ref sy, .int sd, .ref ks, .ref ki, .int kp, .ref al, .ref dr]))] ∧ (rC p1 p2 = r)
set_option maxHeartbeats 1500000 in
set_option maxRecDepth 100000 in
theorem c_X8_cost_g (l : Launch) (g : GG) (h0 : Nat) (pg : Nat) (rd : Nat) (sk : Nat) (si : Nat) (sy : Nat) (ks : Nat) (ki : Nat) (al : Nat) (dr : Nat) (le : Int32) (re : Int32) (sd : Int32) (kp : Int32) (p1 : Int32) (p2 : Int32)  (sz : Nat) : MetI l yX8_cost wsX8_cost ({ frames := 1, cells := 0, slots := 0, locals := 21 }) g [.ref h0, .int p1, .int p2] [(h0, .inr (8, [.ref pg, .int le, .ref rd, .int re, .ref sk, .ref si, .ref sy, .int sd, .ref ks, .ref ki, .int kp, .ref al, .ref dr]))] sz (po_X8_cost_g g h0 pg rd sk si sy ks ki al dr le re sd kp p1 p2) 0 0 := by
  refine k_of (l := l) (y := yX8_cost) (ws := wsX8_cost) (rm := { frames := 1, cells := 0, slots := 0, locals := 21 }) (mc := 0) (ms := 0) (av := [.ref h0, .int p1, .int p2]) (g := g) (wc := [(h0, .inr (8, [.ref pg, .int le, .ref rd, .int re, .ref sk, .ref si, .ref sy, .int sd, .ref ks, .ref ki, .int kp, .ref al, .ref dr]))]) (Qc := fun A => va_Qi (po_X8_cost_g g h0 pg rd sk si sy ks ki al dr le re sd kp p1 p2) (bk g A) A) (cc := cX8_cost) (maxL := 3) (ret := (some .int)) (by decide) rfl (Nat.le_of_ble_eq_true rfl) ?_ sz
  intro p e s m below meth c hx hb hr hts hown hlocks hnm hml A hA hE hZ hP hD hS ls hl
  have hown : s.vm.findClass RX8 = some m.cls := hown
  have hl : lv_has ls 3 [(0, .ref h0), (1, .int p1), (2, .int p2)] := hl
  refine lv_iload_n hx hb dX8_cost_0 rfl (lv_at hl 1 rfl) ?_
  refine k_ci (wr := [(h0, .inr (8, [.ref pg, .int le, .ref rd, .int re, .ref sk, .ref si, .ref sy, .int sd, .ref ks, .ref ki, .int kp, .ref al, .ref dr]))]) hP hD hS hA [] [0] rfl rfl (by decide) (by decide) (va_runS (As := [.int p1]) (rest := []) ⟨hx, hb, hml, hown, hts⟩ (c_X8_isSound l g p1  s.heap.size) (va_cwS 1 hts gX8_cost_X8_isSound rfl rfl rfl (by decide +kernel) ⟨Nat.le_of_ble_eq_true rfl, Nat.le_of_ble_eq_true rfl⟩) (k_preS hE hZ hP hD hS hA [] rfl (by decide)) rfl rfl hl.1 rfl (lv_room (Nat.le_of_ble_eq_true rfl)) dX8_cost_1 ⟨Nat.le_of_ble_eq_true rfl, Nat.le_of_ble_eq_true rfl⟩) (fun r_1 w1 H locs hw hP hD hS => ?_)
  obtain ⟨rfl, rfl⟩ := hw
  have hP : va_P g.1 vwCl [(h0, .inr (8, [.ref pg, .int le, .ref rd, .int re, .ref sk, .ref si, .ref sy, .int sd, .ref ks, .ref ki, .int kp, .ref al, .ref dr]))] H := hP
  have hD : va_D A [(h0, .inr (8, [.ref pg, .int le, .ref rd, .int re, .ref sk, .ref si, .ref sy, .int sd, .ref ks, .ref ki, .int kp, .ref al, .ref dr]))] := hD
  refine lv_if_eq (tgt := 14) hx hb dX8_cost_4 (by decide) (fun c4_3 => ?_) (fun c4_3 => ?_)
  · skip
    refine lv_bipush (v := (-101)) hx hb dX8_cost_14 (by decide) ?_
    refine W.widen (k := 0) (n := 0) (Nat.le_of_ble_eq_true rfl) (Nat.le_of_ble_eq_true rfl) ?_
    exact k_ri hx hb hr hlocks hS hP hD ⟨rfl, (by unfold rC; rw [if_pos (Or.inl (isS_0 c4_3))])⟩ dX8_cost_16
  · skip
    refine lv_iload_n hx hb dX8_cost_7 rfl (lv_at hl 2 rfl) ?_
    refine k_ci (wr := [(h0, .inr (8, [.ref pg, .int le, .ref rd, .int re, .ref sk, .ref si, .ref sy, .int sd, .ref ks, .ref ki, .int kp, .ref al, .ref dr]))]) hP hD hS hA [] [0] rfl rfl (by decide) (by decide) (va_runS (As := [.int p2]) (rest := []) ⟨hx, hb, hml, hown, hts⟩ (c_X8_isSound l g p2  H.size) (va_cwS 1 hts gX8_cost_X8_isSound rfl rfl rfl (by decide +kernel) ⟨Nat.le_of_ble_eq_true rfl, Nat.le_of_ble_eq_true rfl⟩) (k_preS hE hZ hP hD hS hA [] rfl (by decide)) rfl rfl hl.1 rfl (lv_room (Nat.le_of_ble_eq_true rfl)) dX8_cost_8 ⟨Nat.le_of_ble_eq_true rfl, Nat.le_of_ble_eq_true rfl⟩) (fun r_4 w1 H locs hw hP hD hS => ?_)
    obtain ⟨rfl, rfl⟩ := hw
    have hP : va_P g.1 vwCl [(h0, .inr (8, [.ref pg, .int le, .ref rd, .int re, .ref sk, .ref si, .ref sy, .int sd, .ref ks, .ref ki, .int kp, .ref al, .ref dr]))] H := hP
    have hD : va_D A [(h0, .inr (8, [.ref pg, .int le, .ref rd, .int re, .ref sk, .ref si, .ref sy, .int sd, .ref ks, .ref ki, .int kp, .ref al, .ref dr]))] := hD
    refine lv_if_ne (tgt := 17) hx hb dX8_cost_11 (by decide) (fun c11_6 => ?_) (fun c11_6 => ?_)
    · skip
      obtain ⟨i, hi, rfl⟩ := isS_of (p := p1) c4_3
      obtain ⟨j, hj, rfl⟩ := isS_of (p := p2) c11_6
      refine lv_iload_n hx hb dX8_cost_17 rfl (lv_at hl 1 rfl) ?_
      refine lv_iload_n hx hb dX8_cost_18 rfl (lv_at hl 2 rfl) ?_
      refine k_ci (wr := [(h0, .inr (8, [.ref pg, .int le, .ref rd, .int re, .ref sk, .ref si, .ref sy, .int sd, .ref ks, .ref ki, .int kp, .ref al, .ref dr]))]) hP hD hS hA [] [0] rfl rfl (by decide) (by decide) (va_runS (As := [.int (nI i), .int (nI j)]) (rest := []) ⟨hx, hb, hml, hown, hts⟩ (c_X8_costOf l g i j (by first | assumption | omega) (by first | assumption | omega) H.size) (va_cwS 2 hts gX8_cost_X8_costOf rfl rfl rfl (by decide +kernel) ⟨Nat.le_of_ble_eq_true rfl, Nat.le_of_ble_eq_true rfl⟩) (k_preS hE hZ hP hD hS hA [] rfl (by decide)) rfl rfl hl.1 rfl (lv_room (Nat.le_of_ble_eq_true rfl)) dX8_cost_19 ⟨Nat.le_of_ble_eq_true rfl, Nat.le_of_ble_eq_true rfl⟩) (fun r_7 w1 H locs hw hP hD hS => ?_)
      obtain ⟨rfl, rfl⟩ := hw
      have hP : va_P g.1 vwCl [(h0, .inr (8, [.ref pg, .int le, .ref rd, .int re, .ref sk, .ref si, .ref sy, .int sd, .ref ks, .ref ki, .int kp, .ref al, .ref dr]))] H := hP
      have hD : va_D A [(h0, .inr (8, [.ref pg, .int le, .ref rd, .int re, .ref sk, .ref si, .ref sy, .int sd, .ref ks, .ref ki, .int kp, .ref al, .ref dr]))] := hD
      refine W.widen (k := 0) (n := 0) (Nat.le_of_ble_eq_true rfl) (Nat.le_of_ble_eq_true rfl) ?_
      exact k_ri hx hb hr hlocks hS hP hD ⟨rfl, (rC_nI hi hj)⟩ dX8_cost_22
    · skip
      refine lv_bipush (v := (-101)) hx hb dX8_cost_14 (by decide) ?_
      refine W.widen (k := 0) (n := 0) (Nat.le_of_ble_eq_true rfl) (Nat.le_of_ble_eq_true rfl) ?_
      exact k_ri hx hb hr hlocks hS hP hD ⟨rfl, (by unfold rC; rw [if_pos (Or.inr (isS_0 c11_6))])⟩ dX8_cost_16
def po_X9_cost_g (g : GG) (k0 : Nat) (m0 : Nat) (s1 : Int32) (s2 : Int32) (s3 : Int32) (s4 : Int32) (s5 : Int32) (s6 : Int32) (m7 : Nat) (m8 : Nat) (m9 : Nat) (s10 : Int32) (s11 : Int32) (s12 : Int32) (m13 : Nat) (m14 : Nat) (m15 : Nat) (s16 : Int32) (m17 : Nat) (m18 : Nat) (m19 : Nat) (m20 : Nat) (m21 : Nat) (m22 : Nat) (m23 : Nat) (m24 : Nat) (m25 : Nat) (m26 : Nat) (m27 : Nat) (m28 : Nat) (s29 : Int32) (m30 : Nat) (s31 : Int32) (s32 : Int32) (s33 : Int32) (s34 : Int32) (s35 : Int32) (m36 : Nat) (m37 : Nat) (m38 : Nat) (m39 : Nat) (s40 : Int64) (p1 : Int32) (p2 : Int32) : Int32 → va_W → Prop := fun (r : Int32) w => w = [(k0, .inr (9, [.ref m0, .int s1, .int s2, .int s3, .int s4, .int s5, .int s6, .ref m7, .ref m8, .ref m9, .int s10, .int s11, .int s12, .ref m13, .ref m14, .ref m15, .int s16, .ref m17, .ref m18, .ref m19, .ref m20, .ref m21, .ref m22, .ref m23, .ref m24, .ref m25, .ref m26, .ref m27, .ref m28, .int s29, .ref m30, .int s31, .int s32, .int s33, .int s34, .int s35, .ref m36, .ref m37, .ref m38, .ref m39, .long s40]))] ∧ (rC p1 p2 = r)
theorem q_X9_cost_g_0 : (Cond.constantLong RX9 171 (8)) ∈ wsX9_cost := by decide +kernel
set_option maxHeartbeats 1500000 in
set_option maxRecDepth 100000 in
theorem c_X9_cost_g (l : Launch) (g : GG) (k0 : Nat) (m0 : Nat) (s1 : Int32) (s2 : Int32) (s3 : Int32) (s4 : Int32) (s5 : Int32) (s6 : Int32) (m7 : Nat) (m8 : Nat) (m9 : Nat) (s10 : Int32) (s11 : Int32) (s12 : Int32) (m13 : Nat) (m14 : Nat) (m15 : Nat) (s16 : Int32) (m17 : Nat) (m18 : Nat) (m19 : Nat) (m20 : Nat) (m21 : Nat) (m22 : Nat) (m23 : Nat) (m24 : Nat) (m25 : Nat) (m26 : Nat) (m27 : Nat) (m28 : Nat) (s29 : Int32) (m30 : Nat) (s31 : Int32) (s32 : Int32) (s33 : Int32) (s34 : Int32) (s35 : Int32) (m36 : Nat) (m37 : Nat) (m38 : Nat) (m39 : Nat) (s40 : Int64) (p1 : Int32) (p2 : Int32)  (sz : Nat) : MetI l yX9_cost wsX9_cost ({ frames := 3, cells := 0, slots := 0, locals := 66 }) g [.ref k0, .int p1, .int p2] [(k0, .inr (9, [.ref m0, .int s1, .int s2, .int s3, .int s4, .int s5, .int s6, .ref m7, .ref m8, .ref m9, .int s10, .int s11, .int s12, .ref m13, .ref m14, .ref m15, .int s16, .ref m17, .ref m18, .ref m19, .ref m20, .ref m21, .ref m22, .ref m23, .ref m24, .ref m25, .ref m26, .ref m27, .ref m28, .int s29, .ref m30, .int s31, .int s32, .int s33, .int s34, .int s35, .ref m36, .ref m37, .ref m38, .ref m39, .long s40]))] sz (po_X9_cost_g g k0 m0 s1 s2 s3 s4 s5 s6 m7 m8 m9 s10 s11 s12 m13 m14 m15 s16 m17 m18 m19 m20 m21 m22 m23 m24 m25 m26 m27 m28 s29 m30 s31 s32 s33 s34 s35 m36 m37 m38 m39 s40 p1 p2) 0 0 := by
  refine k_of (l := l) (y := yX9_cost) (ws := wsX9_cost) (rm := { frames := 3, cells := 0, slots := 0, locals := 66 }) (mc := 0) (ms := 0) (av := [.ref k0, .int p1, .int p2]) (g := g) (wc := [(k0, .inr (9, [.ref m0, .int s1, .int s2, .int s3, .int s4, .int s5, .int s6, .ref m7, .ref m8, .ref m9, .int s10, .int s11, .int s12, .ref m13, .ref m14, .ref m15, .int s16, .ref m17, .ref m18, .ref m19, .ref m20, .ref m21, .ref m22, .ref m23, .ref m24, .ref m25, .ref m26, .ref m27, .ref m28, .int s29, .ref m30, .int s31, .int s32, .int s33, .int s34, .int s35, .ref m36, .ref m37, .ref m38, .ref m39, .long s40]))]) (Qc := fun A => va_Qi (po_X9_cost_g g k0 m0 s1 s2 s3 s4 s5 s6 m7 m8 m9 s10 s11 s12 m13 m14 m15 s16 m17 m18 m19 m20 m21 m22 m23 m24 m25 m26 m27 m28 s29 m30 s31 s32 s33 s34 s35 m36 m37 m38 m39 s40 p1 p2) (bk g A) A) (cc := cX9_cost) (maxL := 3) (ret := (some .int)) (by decide) rfl (Nat.le_of_ble_eq_true rfl) ?_ sz
  intro p e s m below meth c hx hb hr hts hown hlocks hnm hml A hA hE hZ hP hD hS ls hl
  have hown : s.vm.findClass RX9 = some m.cls := hown
  have hl : lv_has ls 3 [(0, .ref k0), (1, .int p1), (2, .int p2)] := hl
  refine lv_iload_n hx hb dX9_cost_0 rfl (lv_at hl 1 rfl) ?_
  refine lv_i2l hx hb dX9_cost_1 rfl ?_
  refine lv_lconst (v := 0) hx hb dX9_cost_2 (by decide) ?_
  refine lv_ldc2 hx hb hown (hts (.constantLong RX9 171 (8)) q_X9_cost_g_0) dX9_cost_3 ?_
  refine k_ci (wr := [(k0, .inr (9, [.ref m0, .int s1, .int s2, .int s3, .int s4, .int s5, .int s6, .ref m7, .ref m8, .ref m9, .int s10, .int s11, .int s12, .ref m13, .ref m14, .ref m15, .int s16, .ref m17, .ref m18, .ref m19, .ref m20, .ref m21, .ref m22, .ref m23, .ref m24, .ref m25, .ref m26, .ref m27, .ref m28, .int s29, .ref m30, .int s31, .int s32, .int s33, .int s34, .int s35, .ref m36, .ref m37, .ref m38, .ref m39, .long s40]))]) hP hD hS hA [] [0] rfl rfl (by decide) (by decide) (va_runS (As := [.long ((p1 : Int32).toInt64), .long 0, .long 8]) (rest := []) ⟨hx, hb, hml, hown, hts⟩ (c_X9_in l g ((p1 : Int32).toInt64) 0 8  s.heap.size) (va_cwS 3 hts gX9_cost_X9_in rfl rfl rfl (by decide +kernel) ⟨Nat.le_of_ble_eq_true rfl, Nat.le_of_ble_eq_true rfl⟩) (k_preS hE hZ hP hD hS hA [] rfl (by decide)) rfl rfl hl.1 rfl (lv_room (Nat.le_of_ble_eq_true rfl)) dX9_cost_6 ⟨Nat.le_of_ble_eq_true rfl, Nat.le_of_ble_eq_true rfl⟩) (fun r_1 w1 H locs hw hP hD hS => ?_)
  obtain ⟨rfl, rfl⟩ := hw
  have hP : va_P g.1 vwCl [(k0, .inr (9, [.ref m0, .int s1, .int s2, .int s3, .int s4, .int s5, .int s6, .ref m7, .ref m8, .ref m9, .int s10, .int s11, .int s12, .ref m13, .ref m14, .ref m15, .int s16, .ref m17, .ref m18, .ref m19, .ref m20, .ref m21, .ref m22, .ref m23, .ref m24, .ref m25, .ref m26, .ref m27, .ref m28, .int s29, .ref m30, .int s31, .int s32, .int s33, .int s34, .int s35, .ref m36, .ref m37, .ref m38, .ref m39, .long s40]))] H := hP
  have hD : va_D A [(k0, .inr (9, [.ref m0, .int s1, .int s2, .int s3, .int s4, .int s5, .int s6, .ref m7, .ref m8, .ref m9, .int s10, .int s11, .int s12, .ref m13, .ref m14, .ref m15, .int s16, .ref m17, .ref m18, .ref m19, .ref m20, .ref m21, .ref m22, .ref m23, .ref m24, .ref m25, .ref m26, .ref m27, .ref m28, .int s29, .ref m30, .int s31, .int s32, .int s33, .int s34, .int s35, .ref m36, .ref m37, .ref m38, .ref m39, .long s40]))] := hD
  refine lv_if_eq (tgt := 32) hx hb dX9_cost_9 (by decide) (fun c9_3 => ?_) (fun c9_3 => ?_)
  · skip
    refine lv_bipush (v := (-101)) hx hb dX9_cost_32 (by decide) ?_
    refine W.widen (k := 0) (n := 0) (Nat.le_of_ble_eq_true rfl) (Nat.le_of_ble_eq_true rfl) ?_
    exact k_ri hx hb hr hlocks hS hP hD ⟨rfl, (by unfold rC; rw [if_pos (Or.inl ((in_eq (x := p1) (a := 0) (b := 8) c9_3).imp id (lt9_iff _).mp))])⟩ dX9_cost_34
  · skip
    refine lv_iload_n hx hb dX9_cost_12 rfl (lv_at hl 2 rfl) ?_
    refine lv_i2l hx hb dX9_cost_13 rfl ?_
    refine lv_lconst (v := 0) hx hb dX9_cost_14 (by decide) ?_
    refine lv_ldc2 hx hb hown (hts (.constantLong RX9 171 (8)) q_X9_cost_g_0) dX9_cost_15 ?_
    refine k_ci (wr := [(k0, .inr (9, [.ref m0, .int s1, .int s2, .int s3, .int s4, .int s5, .int s6, .ref m7, .ref m8, .ref m9, .int s10, .int s11, .int s12, .ref m13, .ref m14, .ref m15, .int s16, .ref m17, .ref m18, .ref m19, .ref m20, .ref m21, .ref m22, .ref m23, .ref m24, .ref m25, .ref m26, .ref m27, .ref m28, .int s29, .ref m30, .int s31, .int s32, .int s33, .int s34, .int s35, .ref m36, .ref m37, .ref m38, .ref m39, .long s40]))]) hP hD hS hA [] [0] rfl rfl (by decide) (by decide) (va_runS (As := [.long ((p2 : Int32).toInt64), .long 0, .long 8]) (rest := []) ⟨hx, hb, hml, hown, hts⟩ (c_X9_in l g ((p2 : Int32).toInt64) 0 8  H.size) (va_cwS 3 hts gX9_cost_X9_in rfl rfl rfl (by decide +kernel) ⟨Nat.le_of_ble_eq_true rfl, Nat.le_of_ble_eq_true rfl⟩) (k_preS hE hZ hP hD hS hA [] rfl (by decide)) rfl rfl hl.1 rfl (lv_room (Nat.le_of_ble_eq_true rfl)) dX9_cost_18 ⟨Nat.le_of_ble_eq_true rfl, Nat.le_of_ble_eq_true rfl⟩) (fun r_4 w1 H locs hw hP hD hS => ?_)
    obtain ⟨rfl, rfl⟩ := hw
    have hP : va_P g.1 vwCl [(k0, .inr (9, [.ref m0, .int s1, .int s2, .int s3, .int s4, .int s5, .int s6, .ref m7, .ref m8, .ref m9, .int s10, .int s11, .int s12, .ref m13, .ref m14, .ref m15, .int s16, .ref m17, .ref m18, .ref m19, .ref m20, .ref m21, .ref m22, .ref m23, .ref m24, .ref m25, .ref m26, .ref m27, .ref m28, .int s29, .ref m30, .int s31, .int s32, .int s33, .int s34, .int s35, .ref m36, .ref m37, .ref m38, .ref m39, .long s40]))] H := hP
    have hD : va_D A [(k0, .inr (9, [.ref m0, .int s1, .int s2, .int s3, .int s4, .int s5, .int s6, .ref m7, .ref m8, .ref m9, .int s10, .int s11, .int s12, .ref m13, .ref m14, .ref m15, .int s16, .ref m17, .ref m18, .ref m19, .ref m20, .ref m21, .ref m22, .ref m23, .ref m24, .ref m25, .ref m26, .ref m27, .ref m28, .int s29, .ref m30, .int s31, .int s32, .int s33, .int s34, .int s35, .ref m36, .ref m37, .ref m38, .ref m39, .long s40]))] := hD
    refine lv_if_eq (tgt := 32) hx hb dX9_cost_21 (by decide) (fun c21_6 => ?_) (fun c21_6 => ?_)
    · skip
      refine lv_bipush (v := (-101)) hx hb dX9_cost_32 (by decide) ?_
      refine W.widen (k := 0) (n := 0) (Nat.le_of_ble_eq_true rfl) (Nat.le_of_ble_eq_true rfl) ?_
      exact k_ri hx hb hr hlocks hS hP hD ⟨rfl, (by unfold rC; rw [if_pos (Or.inr ((in_eq (x := p2) (a := 0) (b := 8) c21_6).imp id (lt9_iff _).mp))])⟩ dX9_cost_34
    · skip
      have hi_p1 := in_ne (x := p1) (a := 0) (b := 8) c9_3
      have hi_p2 := in_ne (x := p2) (a := 0) (b := 8) c21_6
      obtain ⟨i, hi, rfl⟩ := isS_of (p := p1) (fun q => (isS_0 q).elim hi_p1.1 (fun r => hi_p1.2 ((lt9_iff _).mpr r)))
      obtain ⟨j, hj, rfl⟩ := isS_of (p := p2) (fun q => (isS_0 q).elim hi_p2.1 (fun r => hi_p2.2 ((lt9_iff _).mpr r)))
      refine lv_iload_n hx hb dX9_cost_24 rfl (lv_at hl 1 rfl) ?_
      refine lv_iload_n hx hb dX9_cost_25 rfl (lv_at hl 2 rfl) ?_
      refine k_ci (wr := [(k0, .inr (9, [.ref m0, .int s1, .int s2, .int s3, .int s4, .int s5, .int s6, .ref m7, .ref m8, .ref m9, .int s10, .int s11, .int s12, .ref m13, .ref m14, .ref m15, .int s16, .ref m17, .ref m18, .ref m19, .ref m20, .ref m21, .ref m22, .ref m23, .ref m24, .ref m25, .ref m26, .ref m27, .ref m28, .int s29, .ref m30, .int s31, .int s32, .int s33, .int s34, .int s35, .ref m36, .ref m37, .ref m38, .ref m39, .long s40]))]) hP hD hS hA [] [0] rfl rfl (by decide) (by decide) (va_runS (As := [.int (nI i), .int (nI j)]) (rest := []) ⟨hx, hb, hml, hown, hts⟩ (c_X9_costOf l g (nI i) (nI j)  H.size) (va_cwS 2 hts gX9_cost_X9_costOf rfl rfl rfl (by decide +kernel) ⟨Nat.le_of_ble_eq_true rfl, Nat.le_of_ble_eq_true rfl⟩) (k_preS hE hZ hP hD hS hA [] rfl (by decide)) rfl rfl hl.1 rfl (lv_room (Nat.le_of_ble_eq_true rfl)) dX9_cost_26 ⟨Nat.le_of_ble_eq_true rfl, Nat.le_of_ble_eq_true rfl⟩) (fun r_7 w1 H locs hw hP hD hS => ?_)
      obtain ⟨rfl, rfl⟩ := hw
      have hP : va_P g.1 vwCl [(k0, .inr (9, [.ref m0, .int s1, .int s2, .int s3, .int s4, .int s5, .int s6, .ref m7, .ref m8, .ref m9, .int s10, .int s11, .int s12, .ref m13, .ref m14, .ref m15, .int s16, .ref m17, .ref m18, .ref m19, .ref m20, .ref m21, .ref m22, .ref m23, .ref m24, .ref m25, .ref m26, .ref m27, .ref m28, .int s29, .ref m30, .int s31, .int s32, .int s33, .int s34, .int s35, .ref m36, .ref m37, .ref m38, .ref m39, .long s40]))] H := hP
      have hD : va_D A [(k0, .inr (9, [.ref m0, .int s1, .int s2, .int s3, .int s4, .int s5, .int s6, .ref m7, .ref m8, .ref m9, .int s10, .int s11, .int s12, .ref m13, .ref m14, .ref m15, .int s16, .ref m17, .ref m18, .ref m19, .ref m20, .ref m21, .ref m22, .ref m23, .ref m24, .ref m25, .ref m26, .ref m27, .ref m28, .int s29, .ref m30, .int s31, .int s32, .int s33, .int s34, .int s35, .ref m36, .ref m37, .ref m38, .ref m39, .long s40]))] := hD
      refine lv_goto (tgt := 34) hx hb dX9_cost_29 (by decide) ?_
      refine W.widen (k := 0) (n := 0) (Nat.le_of_ble_eq_true rfl) (Nat.le_of_ble_eq_true rfl) ?_
      exact k_ri hx hb hr hlocks hS hP hD ⟨rfl, (by rw [rC_nI hi hj, cm_cs i hi j hj, cm_sym i hi j hj])⟩ dX9_cost_34
def po_X8_drawn_g (g : GG) (h0 : Nat) (pg : Nat) (rd : Nat) (sk : Nat) (si : Nat) (sy : Nat) (ks : Nat) (ki : Nat) (al : Nat) (dr : Nat) (le : Int32) (re : Int32) (sd : Int32) (kp : Int32) (dt : Nat) (t1 : Nat) (t2 : Nat) (sv : Int32) (cv : Int32) (fv : Int32) (tg : Int32) (f0 : Nat → Int32) (fl0 : Nat → Int32) (p1 : Int32) (p2 : Int32) (p3 : Int32) : Int32 → va_W → Prop := fun (r : Int32) w => ∃ (sv2 : Int32) (cv2 : Int32) (fv2 : Int32) (tg2 : Int32) (f1 : Nat → Int32) (fl1 : Nat → Int32), w = [(h0, .inr (8, [.ref pg, .int le, .ref rd, .int re, .ref sk, .ref si, .ref sy, .int sd, .ref ks, .ref ki, .int kp, .ref al, .ref dr])), (dr, .inr (1, [.int sv2, .int cv2, .int fv2, .ref dt])), (dt, .inr (7, [.int tg2, .ref t1, .ref t2])), (t1, ai g 7 f1), (t2, ai g 63 fl1)] ∧ (rD p1 p2 p3 = r)
theorem q_X8_drawn_g_f8 : ∀ w ∈ u_ws RX8 TX8 13, w ∈ wsX8_drawn := by decide +kernel
theorem q_X8_drawn_g_1 : (Cond.fieldLink RX8 57 "SoundLaws" "draws" "LSoundLaws$Draws;") ∈ wsX8_drawn := by decide +kernel
theorem q_X8_drawn_g_f1 : ∀ w ∈ u_ws RX1 TX1 4, w ∈ wsX8_drawn := by decide +kernel
theorem q_X8_drawn_g_3 : (Cond.fieldLink RX8 213 "SoundLaws$Draws" "changes" "I") ∈ wsX8_drawn := by decide +kernel
theorem q_X8_drawn_g_4 : (Cond.fieldLink RX8 216 "SoundLaws$Draws" "foreign" "I") ∈ wsX8_drawn := by decide +kernel
theorem q_X8_drawn_g_5 : (Cond.fieldLink RX8 219 "SoundLaws$Draws" "seed" "I") ∈ wsX8_drawn := by decide +kernel
set_option maxHeartbeats 1500000 in
set_option maxRecDepth 100000 in
theorem c_X8_drawn_g (l : Launch) (g : GG) (h0 : Nat) (pg : Nat) (rd : Nat) (sk : Nat) (si : Nat) (sy : Nat) (ks : Nat) (ki : Nat) (al : Nat) (dr : Nat) (le : Int32) (re : Int32) (sd : Int32) (kp : Int32) (dt : Nat) (t1 : Nat) (t2 : Nat) (sv : Int32) (cv : Int32) (fv : Int32) (tg : Int32) (f0 : Nat → Int32) (fl0 : Nat → Int32) (p1 : Int32) (p2 : Int32) (p3 : Int32)  (sz : Nat) : MetI l yX8_drawn wsX8_drawn ({ frames := 3, cells := 0, slots := 0, locals := 75 }) g [.ref h0, .int p1, .int p2, .int p3] [(h0, .inr (8, [.ref pg, .int le, .ref rd, .int re, .ref sk, .ref si, .ref sy, .int sd, .ref ks, .ref ki, .int kp, .ref al, .ref dr])), (dr, .inr (1, [.int sv, .int cv, .int fv, .ref dt])), (dt, .inr (7, [.int tg, .ref t1, .ref t2])), (t1, ai g 7 f0), (t2, ai g 63 fl0)] sz (po_X8_drawn_g g h0 pg rd sk si sy ks ki al dr le re sd kp dt t1 t2 sv cv fv tg f0 fl0 p1 p2 p3) 0 0 := by
  refine k_of (l := l) (y := yX8_drawn) (ws := wsX8_drawn) (rm := { frames := 3, cells := 0, slots := 0, locals := 75 }) (mc := 0) (ms := 0) (av := [.ref h0, .int p1, .int p2, .int p3]) (g := g) (wc := [(h0, .inr (8, [.ref pg, .int le, .ref rd, .int re, .ref sk, .ref si, .ref sy, .int sd, .ref ks, .ref ki, .int kp, .ref al, .ref dr])), (dr, .inr (1, [.int sv, .int cv, .int fv, .ref dt])), (dt, .inr (7, [.int tg, .ref t1, .ref t2])), (t1, ai g 7 f0), (t2, ai g 63 fl0)]) (Qc := fun A => va_Qi (po_X8_drawn_g g h0 pg rd sk si sy ks ki al dr le re sd kp dt t1 t2 sv cv fv tg f0 fl0 p1 p2 p3) (bk g A) A) (cc := cX8_drawn) (maxL := 4) (ret := (some .int)) (by decide) rfl (Nat.le_of_ble_eq_true rfl) ?_ sz
  intro p e s m below meth c hx hb hr hts hown hlocks hnm hml A hA hE hZ hP hD hS ls hl
  have hown : s.vm.findClass RX8 = some m.cls := hown
  have hl : lv_has ls 4 [(0, .ref h0), (1, .int p1), (2, .int p2), (3, .int p3)] := hl
  refine lv_iload_n hx hb dX8_drawn_0 rfl (lv_at hl 1 rfl) ?_
  refine lv_iconst (v := 1) hx hb dX8_drawn_1 (by decide) ?_
  refine lv_icmp_lt (tgt := 15) hx hb dX8_drawn_2 (by decide) (fun c2_1 => ?_) (fun c2_1 => ?_)
  · skip
    refine lv_bipush (v := (-102)) hx hb dX8_drawn_15 (by decide) ?_
    refine W.widen (k := 0) (n := 0) (Nat.le_of_ble_eq_true rfl) (Nat.le_of_ble_eq_true rfl) ?_
    exact k_ri hx hb hr hlocks hS hP hD ⟨sv, cv, fv, tg, f0, fl0, rfl, (by unfold rD; rw [if_pos (by first | exact Or.inl c2_1 | exact Or.inr (Or.inl c2_1) | exact Or.inr (Or.inr (Or.inl (i_nle c2_1))) | exact Or.inr (Or.inr (Or.inr (Or.inl c2_1))) | exact Or.inr (Or.inr (Or.inr (Or.inr c2_1))))])⟩ dX8_drawn_17
  · skip
    refine lv_iload_n hx hb dX8_drawn_5 rfl (lv_at hl 1 rfl) ?_
    refine lv_bipush (v := 40) hx hb dX8_drawn_6 (by decide) ?_
    refine lv_icmp_gt (tgt := 15) hx hb dX8_drawn_8 (by decide) (fun c8_2 => ?_) (fun c8_2 => ?_)
    · skip
      refine lv_bipush (v := (-102)) hx hb dX8_drawn_15 (by decide) ?_
      refine W.widen (k := 0) (n := 0) (Nat.le_of_ble_eq_true rfl) (Nat.le_of_ble_eq_true rfl) ?_
      exact k_ri hx hb hr hlocks hS hP hD ⟨sv, cv, fv, tg, f0, fl0, rfl, (by unfold rD; rw [if_pos (by first | exact Or.inl c8_2 | exact Or.inr (Or.inl c8_2) | exact Or.inr (Or.inr (Or.inl (i_nle c8_2))) | exact Or.inr (Or.inr (Or.inr (Or.inl c8_2))) | exact Or.inr (Or.inr (Or.inr (Or.inr c8_2))))])⟩ dX8_drawn_17
    · skip
      refine lv_iload_n hx hb dX8_drawn_11 rfl (lv_at hl 2 rfl) ?_
      refine lv_if_ge (tgt := 18) hx hb dX8_drawn_12 (by decide) (fun c12_3 => ?_) (fun c12_3 => ?_)
      · skip
        refine lv_iload_n hx hb dX8_drawn_18 rfl (lv_at hl 3 rfl) ?_
        refine lv_if_lt (tgt := 27) hx hb dX8_drawn_19 (by decide) (fun c19_4 => ?_) (fun c19_4 => ?_)
        · skip
          refine lv_bipush (v := (-102)) hx hb dX8_drawn_27 (by decide) ?_
          refine W.widen (k := 0) (n := 0) (Nat.le_of_ble_eq_true rfl) (Nat.le_of_ble_eq_true rfl) ?_
          exact k_ri hx hb hr hlocks hS hP hD ⟨sv, cv, fv, tg, f0, fl0, rfl, (by unfold rD; rw [if_pos (by first | exact Or.inl c19_4 | exact Or.inr (Or.inl c19_4) | exact Or.inr (Or.inr (Or.inl (i_nle c19_4))) | exact Or.inr (Or.inr (Or.inr (Or.inl c19_4))) | exact Or.inr (Or.inr (Or.inr (Or.inr c19_4))))])⟩ dX8_drawn_29
        · skip
          refine lv_iload_n hx hb dX8_drawn_22 rfl (lv_at hl 3 rfl) ?_
          refine lv_iconst (v := 3) hx hb dX8_drawn_23 (by decide) ?_
          refine lv_icmp_lt (tgt := 30) hx hb dX8_drawn_24 (by decide) (fun c24_5 => ?_) (fun c24_5 => ?_)
          · skip
            obtain ⟨n, hn0, rfl⟩ := nI_of (x := p1) (fun q => c2_1 (Int32.lt_trans q (by decide)))
            obtain ⟨k, hk0, rfl⟩ := nI_of (x := p2) (i_nlt c12_3)
            have hn : n ≤ 40 := Nat.not_lt.mp (fun q => c8_2 (nI_lt (a := 40) q hn0))
            refine lv_aload_n hx hb dX8_drawn_30 rfl (lv_at hl 0 rfl) ?_
            refine va_get (D := g.1) (ci := 8) (v := .ref dr) (C := RX8) (T := TX8) (N := 13) hx hb hts q_X8_drawn_g_f8 hown hE.1 hP 0 rfl rfl 12 (by decide) (hts (.fieldLink RX8 57 "SoundLaws" "draws" "LSoundLaws$Draws;") q_X8_drawn_g_1) (fun _ h9 => h9) rfl dX8_drawn_31 ?_
            refine lv_iload_n hx hb dX8_drawn_34 rfl (lv_at hl 1 rfl) ?_
            refine lv_iload_n hx hb dX8_drawn_35 rfl (lv_at hl 2 rfl) ?_
            refine k_cv (wr := [(h0, .inr (8, [.ref pg, .int le, .ref rd, .int re, .ref sk, .ref si, .ref sy, .int sd, .ref ks, .ref ki, .int kp, .ref al, .ref dr]))]) hP hD hS hA [1, 2, 3, 4] [0] rfl rfl (by decide) (by decide) (va_runV (As := [.int (nI n), .int (nI k)]) (rest := []) ⟨hx, hb, hml, hown, hts⟩ (c_X1_drawSets l g dr dt t1 t2 sv cv fv tg f0 fl0 n k hn (show k < 2147483648 from hk0) s.heap.size) (cwV 2 hts gX8_drawn_X1_drawSets rfl rfl rfl (by decide +kernel) ⟨Nat.le_of_ble_eq_true rfl, Nat.le_of_ble_eq_true rfl⟩) (k_preV hE hZ hP hD hS hA [1, 2, 3, 4] rfl (by decide) (va_recv hE.1 hP (ci := 1) (q0 := 1) rfl rfl)) rfl rfl hl.1 rfl (lv_room (Nat.le_of_ble_eq_true rfl)) dX8_drawn_36 ⟨Nat.le_of_ble_eq_true rfl, Nat.le_of_ble_eq_true rfl⟩) (fun w1 H locs hw hP hD hS => ?_)
            obtain ⟨f1_7, fl1_8, rfl⟩ := hw
            have hP : va_P g.1 vwCl [(h0, .inr (8, [.ref pg, .int le, .ref rd, .int re, .ref sk, .ref si, .ref sy, .int sd, .ref ks, .ref ki, .int kp, .ref al, .ref dr])), (dr, .inr (1, [.int (nI (drS k n)), .int (drC k n), .int (drF k n), .ref dt])), (dt, .inr (7, [.int 4, .ref t1, .ref t2])), (t1, ai g 7 f1_7), (t2, ai g 63 fl1_8)] H := hP
            have hD : va_D A [(h0, .inr (8, [.ref pg, .int le, .ref rd, .int re, .ref sk, .ref si, .ref sy, .int sd, .ref ks, .ref ki, .int kp, .ref al, .ref dr])), (dr, .inr (1, [.int (nI (drS k n)), .int (drC k n), .int (drF k n), .ref dt])), (dt, .inr (7, [.int 4, .ref t1, .ref t2])), (t1, ai g 7 f1_7), (t2, ai g 63 fl1_8)] := hD
            refine lv_iload_n hx hb dX8_drawn_39 rfl (lv_at hl 3 rfl) ?_
            by_cases w40_9 : p3 = 0
            · skip
              refine lv_lookup (tgt := 68) (off := 28) hx hb dX8_drawn_40 (by decide) (by rw [w40_9]; decide) (by decide) ?_
              refine lv_aload_n hx hb dX8_drawn_68 rfl (lv_at hl 0 rfl) ?_
              refine va_get (D := g.1) (ci := 8) (v := .ref dr) (C := RX8) (T := TX8) (N := 13) hx hb hts q_X8_drawn_g_f8 hown hE.1 hP 0 rfl rfl 12 (by decide) (hts (.fieldLink RX8 57 "SoundLaws" "draws" "LSoundLaws$Draws;") q_X8_drawn_g_1) (fun _ h9 => h9) rfl dX8_drawn_69 ?_
              refine va_get (D := g.1) (ci := 1) (v := .int (drC k n)) (C := RX1) (T := TX1) (N := 4) hx hb hts q_X8_drawn_g_f1 hown hE.1 hP 1 rfl rfl 1 (by decide) (hts (.fieldLink RX8 213 "SoundLaws$Draws" "changes" "I") q_X8_drawn_g_3) (fun _ h9 => h9) rfl dX8_drawn_72 ?_
              refine W.widen (k := 0) (n := 0) (Nat.le_of_ble_eq_true rfl) (Nat.le_of_ble_eq_true rfl) ?_
              exact k_ri hx hb hr hlocks hS hP hD ⟨(nI (drS k n)), (drC k n), (drF k n), 4, f1_7, fl1_8, rfl, (by unfold rD; rw [if_neg (fun h => by rcases h with h | h | h | h | h; exact c2_1 h; exact c8_2 h; exact i_nlt c12_3 h; exact c19_4 h; exact h c24_5), if_pos w40_9, nI_clamp hn0, nI_clamp hk0])⟩ dX8_drawn_75
            by_cases w40_10 : p3 = 1
            · skip
              refine lv_lookup (tgt := 76) (off := 36) hx hb dX8_drawn_40 (by decide) (by rw [w40_10]; decide) (by decide) ?_
              refine lv_aload_n hx hb dX8_drawn_76 rfl (lv_at hl 0 rfl) ?_
              refine va_get (D := g.1) (ci := 8) (v := .ref dr) (C := RX8) (T := TX8) (N := 13) hx hb hts q_X8_drawn_g_f8 hown hE.1 hP 0 rfl rfl 12 (by decide) (hts (.fieldLink RX8 57 "SoundLaws" "draws" "LSoundLaws$Draws;") q_X8_drawn_g_1) (fun _ h9 => h9) rfl dX8_drawn_77 ?_
              refine va_get (D := g.1) (ci := 1) (v := .int (drF k n)) (C := RX1) (T := TX1) (N := 4) hx hb hts q_X8_drawn_g_f1 hown hE.1 hP 1 rfl rfl 2 (by decide) (hts (.fieldLink RX8 216 "SoundLaws$Draws" "foreign" "I") q_X8_drawn_g_4) (fun _ h9 => h9) rfl dX8_drawn_80 ?_
              refine W.widen (k := 0) (n := 0) (Nat.le_of_ble_eq_true rfl) (Nat.le_of_ble_eq_true rfl) ?_
              exact k_ri hx hb hr hlocks hS hP hD ⟨(nI (drS k n)), (drC k n), (drF k n), 4, f1_7, fl1_8, rfl, (by unfold rD; rw [if_neg (fun h => by rcases h with h | h | h | h | h; exact c2_1 h; exact c8_2 h; exact i_nlt c12_3 h; exact c19_4 h; exact h c24_5), if_neg w40_9, if_pos w40_10, nI_clamp hn0, nI_clamp hk0])⟩ dX8_drawn_83
            refine lv_lookup (tgt := 84) (off := 44) hx hb dX8_drawn_40 (by decide) (by rw [lv_osw w40_9 (by decide)]; rw [lv_osw w40_10 (by decide)]; rfl) (by decide) ?_
            refine lv_aload_n hx hb dX8_drawn_84 rfl (lv_at hl 0 rfl) ?_
            refine va_get (D := g.1) (ci := 8) (v := .ref dr) (C := RX8) (T := TX8) (N := 13) hx hb hts q_X8_drawn_g_f8 hown hE.1 hP 0 rfl rfl 12 (by decide) (hts (.fieldLink RX8 57 "SoundLaws" "draws" "LSoundLaws$Draws;") q_X8_drawn_g_1) (fun _ h9 => h9) rfl dX8_drawn_85 ?_
            refine va_get (D := g.1) (ci := 1) (v := .int (nI (drS k n))) (C := RX1) (T := TX1) (N := 4) hx hb hts q_X8_drawn_g_f1 hown hE.1 hP 1 rfl rfl 0 (by decide) (hts (.fieldLink RX8 219 "SoundLaws$Draws" "seed" "I") q_X8_drawn_g_5) (fun _ h9 => h9) rfl dX8_drawn_88 ?_
            refine W.widen (k := 0) (n := 0) (Nat.le_of_ble_eq_true rfl) (Nat.le_of_ble_eq_true rfl) ?_
            exact k_ri hx hb hr hlocks hS hP hD ⟨(nI (drS k n)), (drC k n), (drF k n), 4, f1_7, fl1_8, rfl, (by unfold rD; rw [if_neg (fun h => by rcases h with h | h | h | h | h; exact c2_1 h; exact c8_2 h; exact i_nlt c12_3 h; exact c19_4 h; exact h c24_5), if_neg w40_9, if_neg w40_10, nI_clamp hn0, nI_clamp hk0])⟩ dX8_drawn_91
          · skip
            refine lv_bipush (v := (-102)) hx hb dX8_drawn_27 (by decide) ?_
            refine W.widen (k := 0) (n := 0) (Nat.le_of_ble_eq_true rfl) (Nat.le_of_ble_eq_true rfl) ?_
            exact k_ri hx hb hr hlocks hS hP hD ⟨sv, cv, fv, tg, f0, fl0, rfl, (by unfold rD; rw [if_pos (by first | exact Or.inl c24_5 | exact Or.inr (Or.inl c24_5) | exact Or.inr (Or.inr (Or.inl (i_nle c24_5))) | exact Or.inr (Or.inr (Or.inr (Or.inl c24_5))) | exact Or.inr (Or.inr (Or.inr (Or.inr c24_5))))])⟩ dX8_drawn_29
      · skip
        refine lv_bipush (v := (-102)) hx hb dX8_drawn_15 (by decide) ?_
        refine W.widen (k := 0) (n := 0) (Nat.le_of_ble_eq_true rfl) (Nat.le_of_ble_eq_true rfl) ?_
        exact k_ri hx hb hr hlocks hS hP hD ⟨sv, cv, fv, tg, f0, fl0, rfl, (by unfold rD; rw [if_pos (by first | exact Or.inl c12_3 | exact Or.inr (Or.inl c12_3) | exact Or.inr (Or.inr (Or.inl (i_nle c12_3))) | exact Or.inr (Or.inr (Or.inr (Or.inl c12_3))) | exact Or.inr (Or.inr (Or.inr (Or.inr c12_3))))])⟩ dX8_drawn_17
def po_X9_rebuild_4 (g : GG) (k0 : Nat) (m0 : Nat) (s1 : Int32) (s2 : Int32) (s3 : Int32) (s4 : Int32) (s5 : Int32) (s6 : Int32) (m7 : Nat) (m8 : Nat) (m9 : Nat) (s10 : Int32) (s11 : Int32) (s12 : Int32) (m13 : Nat) (m14 : Nat) (m15 : Nat) (s16 : Int32) (m17 : Nat) (m18 : Nat) (m19 : Nat) (m20 : Nat) (m21 : Nat) (m22 : Nat) (m23 : Nat) (m24 : Nat) (m25 : Nat) (m26 : Nat) (m27 : Nat) (m28 : Nat) (s29 : Int32) (m30 : Nat) (s31 : Int32) (s32 : Int32) (s33 : Int32) (s34 : Int32) (s35 : Int32) (m36 : Nat) (m37 : Nat) (m38 : Nat) (m39 : Nat) (s40 : Int64) (fc : Nat → Int32) (fs : Nat → Int32) (fh : Nat → Int32) (a0 : Nat) (a1 : Nat) (a2 : Nat) (a3 : Nat) : Int32 → va_W → Prop := fun (r : Int32) w => ∃ (gc : Nat → Int32) (gh : Nat → Int32), w = [(k0, .inr (9, [.ref m0, .int s1, .int s2, .int s3, .int s4, .int s5, .int s6, .ref m7, .ref m8, .ref m9, .int s10, .int s11, .int s12, .ref m13, .ref m14, .ref m15, .int s16, .ref m17, .ref m18, .ref m19, .ref m20, .ref m21, .ref m22, .ref m23, .ref m24, .ref m25, .ref m26, .ref m27, .ref m28, .int s29, .ref m30, .int s31, .int s32, .int s33, .int s34, .int s35, .ref m36, .ref m37, .ref m38, .ref m39, .long s40])), (m17, ai g 63 gc), (m18, ai g 7 gh), (m19, ai g 4 fs)] ∧ (ch a0 a1 a2 a3 = r) ∧ (gh 6 = nI (rt a0 a1 a2 a3)) ∧ (rng 7 9 gh)
theorem q_X9_rebuild_4_f9 : ∀ w ∈ u_ws RX9 TX9 41, w ∈ wsX9_rebuild := by decide +kernel
theorem q_X9_rebuild_4_1 : (Cond.fieldLink RX9 34 "SoundLawsModel" "had" "[I") ∈ wsX9_rebuild := by decide +kernel
theorem q_X9_rebuild_4_2 : (Cond.fieldLink RX9 31 "SoundLawsModel" "costs" "[I") ∈ wsX9_rebuild := by decide +kernel
set_option maxHeartbeats 1500000 in
set_option maxRecDepth 100000 in
theorem c_X9_rebuild_4 (l : Launch) (g : GG) (k0 : Nat) (m0 : Nat) (s1 : Int32) (s2 : Int32) (s3 : Int32) (s4 : Int32) (s5 : Int32) (s6 : Int32) (m7 : Nat) (m8 : Nat) (m9 : Nat) (s10 : Int32) (s11 : Int32) (s12 : Int32) (m13 : Nat) (m14 : Nat) (m15 : Nat) (s16 : Int32) (m17 : Nat) (m18 : Nat) (m19 : Nat) (m20 : Nat) (m21 : Nat) (m22 : Nat) (m23 : Nat) (m24 : Nat) (m25 : Nat) (m26 : Nat) (m27 : Nat) (m28 : Nat) (s29 : Int32) (m30 : Nat) (s31 : Int32) (s32 : Int32) (s33 : Int32) (s34 : Int32) (s35 : Int32) (m36 : Nat) (m37 : Nat) (m38 : Nat) (m39 : Nat) (s40 : Int64) (fc : Nat → Int32) (fs : Nat → Int32) (fh : Nat → Int32) (a0 : Nat) (a1 : Nat) (a2 : Nat) (a3 : Nat) (ha0 : fs 0 = nI a0) (ha1 : fs 1 = nI a1) (ha2 : fs 2 = nI a2) (ha3 : fs 3 = nI a3) (h90 : a0 < 9) (h91 : a1 < 9) (h92 : a2 < 9) (h93 : a3 < 9) (hh : rng 7 9 fh) (sz : Nat) : MetI l yX9_rebuild wsX9_rebuild ({ frames := 5, cells := 0, slots := 0, locals := 114 }) g [.ref k0, .int 4] [(k0, .inr (9, [.ref m0, .int s1, .int s2, .int s3, .int s4, .int s5, .int s6, .ref m7, .ref m8, .ref m9, .int s10, .int s11, .int s12, .ref m13, .ref m14, .ref m15, .int s16, .ref m17, .ref m18, .ref m19, .ref m20, .ref m21, .ref m22, .ref m23, .ref m24, .ref m25, .ref m26, .ref m27, .ref m28, .int s29, .ref m30, .int s31, .int s32, .int s33, .int s34, .int s35, .ref m36, .ref m37, .ref m38, .ref m39, .long s40])), (m17, ai g 63 fc), (m18, ai g 7 fh), (m19, ai g 4 fs)] sz (po_X9_rebuild_4 g k0 m0 s1 s2 s3 s4 s5 s6 m7 m8 m9 s10 s11 s12 m13 m14 m15 s16 m17 m18 m19 m20 m21 m22 m23 m24 m25 m26 m27 m28 s29 m30 s31 s32 s33 s34 s35 m36 m37 m38 m39 s40 fc fs fh a0 a1 a2 a3) 0 0 := by
  refine k_of (l := l) (y := yX9_rebuild) (ws := wsX9_rebuild) (rm := { frames := 5, cells := 0, slots := 0, locals := 114 }) (mc := 0) (ms := 0) (av := [.ref k0, .int 4]) (g := g) (wc := [(k0, .inr (9, [.ref m0, .int s1, .int s2, .int s3, .int s4, .int s5, .int s6, .ref m7, .ref m8, .ref m9, .int s10, .int s11, .int s12, .ref m13, .ref m14, .ref m15, .int s16, .ref m17, .ref m18, .ref m19, .ref m20, .ref m21, .ref m22, .ref m23, .ref m24, .ref m25, .ref m26, .ref m27, .ref m28, .int s29, .ref m30, .int s31, .int s32, .int s33, .int s34, .int s35, .ref m36, .ref m37, .ref m38, .ref m39, .long s40])), (m17, ai g 63 fc), (m18, ai g 7 fh), (m19, ai g 4 fs)]) (Qc := fun A => va_Qi (po_X9_rebuild_4 g k0 m0 s1 s2 s3 s4 s5 s6 m7 m8 m9 s10 s11 s12 m13 m14 m15 s16 m17 m18 m19 m20 m21 m22 m23 m24 m25 m26 m27 m28 s29 m30 s31 s32 s33 s34 s35 m36 m37 m38 m39 s40 fc fs fh a0 a1 a2 a3) (bk g A) A) (cc := cX9_rebuild) (maxL := 4) (ret := (some .int)) (by decide) rfl (Nat.le_of_ble_eq_true rfl) ?_ sz
  intro p e s m below meth c hx hb hr hts hown hlocks hnm hml A hA hE hZ hP hD hS ls hl
  have hown : s.vm.findClass RX9 = some m.cls := hown
  have hl : lv_has ls 4 [(0, .ref k0), (1, .int 4)] := hl
  refine lv_aload_n hx hb dX9_rebuild_0 rfl (lv_at hl 0 rfl) ?_
  refine lv_iload_n hx hb dX9_rebuild_1 rfl (lv_at hl 1 rfl) ?_
  refine k_cv (wr := [(m18, ai g 7 fh)]) hP hD hS hA [0, 1, 3] [2] rfl rfl (by decide) (by decide) (va_runV (As := [.int 4]) (rest := []) ⟨hx, hb, hml, hown, hts⟩ (c_X9_layCosts l g k0 m0 s1 s2 s3 s4 s5 s6 m7 m8 m9 s10 s11 s12 m13 m14 m15 s16 m17 m18 m19 m20 m21 m22 m23 m24 m25 m26 m27 m28 s29 m30 s31 s32 s33 s34 s35 m36 m37 m38 m39 s40 fc fs a0 a1 a2 a3 ha0 ha1 ha2 ha3 h90 h91 h92 h93 s.heap.size) (cwV 1 hts gX9_rebuild_X9_layCosts rfl rfl rfl (by decide +kernel) ⟨Nat.le_of_ble_eq_true rfl, Nat.le_of_ble_eq_true rfl⟩) (k_preV hE hZ hP hD hS hA [0, 1, 3] rfl (by decide) (va_recv hE.1 hP (ci := 9) (q0 := 0) rfl rfl)) rfl rfl hl.1 rfl (lv_room (Nat.le_of_ble_eq_true rfl)) dX9_rebuild_2 ⟨Nat.le_of_ble_eq_true rfl, Nat.le_of_ble_eq_true rfl⟩) (fun w1 H locs hw hP hD hS => ?_)
  obtain ⟨gc_2, rfl, hgc_3⟩ := hw
  have hP : va_P g.1 vwCl [(m18, ai g 7 fh), (k0, .inr (9, [.ref m0, .int s1, .int s2, .int s3, .int s4, .int s5, .int s6, .ref m7, .ref m8, .ref m9, .int s10, .int s11, .int s12, .ref m13, .ref m14, .ref m15, .int s16, .ref m17, .ref m18, .ref m19, .ref m20, .ref m21, .ref m22, .ref m23, .ref m24, .ref m25, .ref m26, .ref m27, .ref m28, .int s29, .ref m30, .int s31, .int s32, .int s33, .int s34, .int s35, .ref m36, .ref m37, .ref m38, .ref m39, .long s40])), (m17, ai g 63 gc_2), (m19, ai g 4 fs)] H := hP
  have hD : va_D A [(m18, ai g 7 fh), (k0, .inr (9, [.ref m0, .int s1, .int s2, .int s3, .int s4, .int s5, .int s6, .ref m7, .ref m8, .ref m9, .int s10, .int s11, .int s12, .ref m13, .ref m14, .ref m15, .int s16, .ref m17, .ref m18, .ref m19, .ref m20, .ref m21, .ref m22, .ref m23, .ref m24, .ref m25, .ref m26, .ref m27, .ref m28, .int s29, .ref m30, .int s31, .int s32, .int s33, .int s34, .int s35, .ref m36, .ref m37, .ref m38, .ref m39, .long s40])), (m17, ai g 63 gc_2), (m19, ai g 4 fs)] := hD
  refine lv_aload_n hx hb dX9_rebuild_5 rfl (lv_at hl 0 rfl) ?_
  refine lv_iload_n hx hb dX9_rebuild_6 rfl (lv_at hl 1 rfl) ?_
  refine k_ci (wr := [(m18, ai g 7 fh), (k0, .inr (9, [.ref m0, .int s1, .int s2, .int s3, .int s4, .int s5, .int s6, .ref m7, .ref m8, .ref m9, .int s10, .int s11, .int s12, .ref m13, .ref m14, .ref m15, .int s16, .ref m17, .ref m18, .ref m19, .ref m20, .ref m21, .ref m22, .ref m23, .ref m24, .ref m25, .ref m26, .ref m27, .ref m28, .int s29, .ref m30, .int s31, .int s32, .int s33, .int s34, .int s35, .ref m36, .ref m37, .ref m38, .ref m39, .long s40])), (m17, ai g 63 gc_2), (m19, ai g 4 fs)]) hP hD hS hA [] [0, 1, 2, 3] rfl rfl (by decide) (by decide) (va_runV (As := [.int 4]) (rest := []) ⟨hx, hb, hml, hown, hts⟩ (c_X9_nodesBy_4 l g k0  H.size) (cwV 1 hts gX9_rebuild_X9_nodesBy rfl rfl rfl (by decide +kernel) ⟨Nat.le_of_ble_eq_true rfl, Nat.le_of_ble_eq_true rfl⟩) (k_preV hE hZ hP hD hS hA [] rfl (by decide) (va_recv hE.1 hP (ci := 9) (q0 := 1) rfl rfl)) rfl rfl hl.1 rfl (lv_room (Nat.le_of_ble_eq_true rfl)) dX9_rebuild_7 ⟨Nat.le_of_ble_eq_true rfl, Nat.le_of_ble_eq_true rfl⟩) (fun r_4 w1 H locs hw hP hD hS => ?_)
  obtain ⟨rfl, rfl⟩ := hw
  have hP : va_P g.1 vwCl [(m18, ai g 7 fh), (k0, .inr (9, [.ref m0, .int s1, .int s2, .int s3, .int s4, .int s5, .int s6, .ref m7, .ref m8, .ref m9, .int s10, .int s11, .int s12, .ref m13, .ref m14, .ref m15, .int s16, .ref m17, .ref m18, .ref m19, .ref m20, .ref m21, .ref m22, .ref m23, .ref m24, .ref m25, .ref m26, .ref m27, .ref m28, .int s29, .ref m30, .int s31, .int s32, .int s33, .int s34, .int s35, .ref m36, .ref m37, .ref m38, .ref m39, .long s40])), (m17, ai g 63 gc_2), (m19, ai g 4 fs)] H := hP
  have hD : va_D A [(m18, ai g 7 fh), (k0, .inr (9, [.ref m0, .int s1, .int s2, .int s3, .int s4, .int s5, .int s6, .ref m7, .ref m8, .ref m9, .int s10, .int s11, .int s12, .ref m13, .ref m14, .ref m15, .int s16, .ref m17, .ref m18, .ref m19, .ref m20, .ref m21, .ref m22, .ref m23, .ref m24, .ref m25, .ref m26, .ref m27, .ref m28, .int s29, .ref m30, .int s31, .int s32, .int s33, .int s34, .int s35, .ref m36, .ref m37, .ref m38, .ref m39, .long s40])), (m17, ai g 63 gc_2), (m19, ai g 4 fs)] := hD
  refine lv_iconst (v := 1) hx hb dX9_rebuild_10 (by decide) ?_
  refine lv_isub hx hb dX9_rebuild_11 ?_
  refine lv_topi (fun x_6 ex_6 => ?_)
  obtain rfl : x_6 = 6 := ex_6.trans (by decide)
  refine lv_istore_n (lv' := [(2, .int 6), (0, .ref k0), (1, .int 4)]) hx hb dX9_rebuild_12 rfl hl (by decide) rfl (fun ls hl => ?_)
  refine lv_aload_n hx hb dX9_rebuild_13 rfl (lv_at hl 1 rfl) ?_
  refine va_get (D := g.1) (ci := 9) (v := .ref m18) (C := RX9) (T := TX9) (N := 41) hx hb hts q_X9_rebuild_4_f9 hown hE.1 hP 1 rfl rfl 18 (by decide) (hts (.fieldLink RX9 34 "SoundLawsModel" "had" "[I") q_X9_rebuild_4_1) (fun _ h9 => h9) rfl dX9_rebuild_14 ?_
  refine lv_iload_n hx hb dX9_rebuild_17 rfl (lv_at hl 0 rfl) ?_
  refine lv_aload_n hx hb dX9_rebuild_18 rfl (lv_at hl 1 rfl) ?_
  refine lv_iload_n hx hb dX9_rebuild_19 rfl (lv_at hl 0 rfl) ?_
  refine lv_iconst (v := (-1)) hx hb dX9_rebuild_20 (by decide) ?_
  refine k_ci (wr := [(m18, ai g 7 fh), (m19, ai g 4 fs)]) hP hD hS hA [1, 2] [0, 3] rfl rfl (by decide) (by decide) (va_runV (As := [.int 6, .int (-1)]) (rest := [.int 6, .ref m18]) ⟨hx, hb, hml, hown, hts⟩ (c_X9_leastSound_6 l g k0 m0 s1 s2 s3 s4 s5 s6 m7 m8 m9 s10 s11 s12 m13 m14 m15 s16 m17 m18 m19 m20 m21 m22 m23 m24 m25 m26 m27 m28 s29 m30 s31 s32 s33 s34 s35 m36 m37 m38 m39 s40 gc_2  H.size) (cwV 2 hts gX9_rebuild_X9_leastSound rfl rfl rfl (by decide +kernel) ⟨Nat.le_of_ble_eq_true rfl, Nat.le_of_ble_eq_true rfl⟩) (k_preV hE hZ hP hD hS hA [1, 2] rfl (by decide) (va_recv hE.1 hP (ci := 9) (q0 := 1) rfl rfl)) rfl rfl hl.1 rfl (lv_room (Nat.le_of_ble_eq_true rfl)) dX9_rebuild_21 ⟨Nat.le_of_ble_eq_true rfl, Nat.le_of_ble_eq_true rfl⟩) (fun r_7 w1 H locs hw hP hD hS => ?_)
  obtain ⟨rfl, rfl⟩ := hw
  have hP : va_P g.1 vwCl [(m18, ai g 7 fh), (m19, ai g 4 fs), (k0, .inr (9, [.ref m0, .int s1, .int s2, .int s3, .int s4, .int s5, .int s6, .ref m7, .ref m8, .ref m9, .int s10, .int s11, .int s12, .ref m13, .ref m14, .ref m15, .int s16, .ref m17, .ref m18, .ref m19, .ref m20, .ref m21, .ref m22, .ref m23, .ref m24, .ref m25, .ref m26, .ref m27, .ref m28, .int s29, .ref m30, .int s31, .int s32, .int s33, .int s34, .int s35, .ref m36, .ref m37, .ref m38, .ref m39, .long s40])), (m17, ai g 63 gc_2)] H := hP
  have hD : va_D A [(m18, ai g 7 fh), (m19, ai g 4 fs), (k0, .inr (9, [.ref m0, .int s1, .int s2, .int s3, .int s4, .int s5, .int s6, .ref m7, .ref m8, .ref m9, .int s10, .int s11, .int s12, .ref m13, .ref m14, .ref m15, .int s16, .ref m17, .ref m18, .ref m19, .ref m20, .ref m21, .ref m22, .ref m23, .ref m24, .ref m25, .ref m26, .ref m27, .ref m28, .int s29, .ref m30, .int s31, .int s32, .int s33, .int s34, .int s35, .ref m36, .ref m37, .ref m38, .ref m39, .long s40])), (m17, ai g 63 gc_2)] := hD
  refine lv_topi (fun x_9 ex_9 => ?_)
  obtain rfl : x_9 = nI (rt a0 a1 a2 a3) := by rw [ex_9]; exact congrArg nI (rt_ams h90 h91 h92 h93 (fun t ht => by rw [fa0, hgc_3 (54 + t) (by omega), MpS (by omega), Sp6]))
  have h9rt : rt a0 a1 a2 a3 < 9 := Nat.lt_succ_of_le (am_le _ 8)
  refine k_ast (x := (nI (rt a0 a1 a2 a3))) 6 (by decide) (by decide) hx hb hE hP hD hS 0 rfl (by decide) dX9_rebuild_24 (fun H locs hP hD hS => ?_)
  have hP : va_P g.1 vwCl [(m18, ai g 7 (upd fh 6 (nI (rt a0 a1 a2 a3)))), (m19, ai g 4 fs), (k0, .inr (9, [.ref m0, .int s1, .int s2, .int s3, .int s4, .int s5, .int s6, .ref m7, .ref m8, .ref m9, .int s10, .int s11, .int s12, .ref m13, .ref m14, .ref m15, .int s16, .ref m17, .ref m18, .ref m19, .ref m20, .ref m21, .ref m22, .ref m23, .ref m24, .ref m25, .ref m26, .ref m27, .ref m28, .int s29, .ref m30, .int s31, .int s32, .int s33, .int s34, .int s35, .ref m36, .ref m37, .ref m38, .ref m39, .long s40])), (m17, ai g 63 gc_2)] H := hP
  have hD : va_D A [(m18, ai g 7 (upd fh 6 (nI (rt a0 a1 a2 a3)))), (m19, ai g 4 fs), (k0, .inr (9, [.ref m0, .int s1, .int s2, .int s3, .int s4, .int s5, .int s6, .ref m7, .ref m8, .ref m9, .int s10, .int s11, .int s12, .ref m13, .ref m14, .ref m15, .int s16, .ref m17, .ref m18, .ref m19, .ref m20, .ref m21, .ref m22, .ref m23, .ref m24, .ref m25, .ref m26, .ref m27, .ref m28, .int s29, .ref m30, .int s31, .int s32, .int s33, .int s34, .int s35, .ref m36, .ref m37, .ref m38, .ref m39, .long s40])), (m17, ai g 63 gc_2)] := hD
  refine lv_iload_n hx hb dX9_rebuild_25 rfl (lv_at hl 0 rfl) ?_
  refine lv_istore_n (lv' := [(3, .int 6), (2, .int 6), (0, .ref k0), (1, .int 4)]) hx hb dX9_rebuild_26 rfl hl (by decide) rfl (fun ls hl => ?_)
  refine lv_iload_n hx hb dX9_rebuild_27 rfl (lv_at hl 0 rfl) ?_
  refine lv_iload_n hx hb dX9_rebuild_28 rfl (lv_at hl 3 rfl) ?_
  refine lv_icmp_lt (tgt := 88) hx hb dX9_rebuild_29 (by decide) (fun c29_10 => ?_) (fun c29_10 => ?_)
  · exact absurd c29_10 (by decide)
  · skip
    refine lv_aload_n hx hb dX9_rebuild_32 rfl (lv_at hl 2 rfl) ?_
    refine va_get (D := g.1) (ci := 9) (v := .ref m18) (C := RX9) (T := TX9) (N := 41) hx hb hts q_X9_rebuild_4_f9 hown hE.1 hP 2 rfl rfl 18 (by decide) (hts (.fieldLink RX9 34 "SoundLawsModel" "had" "[I") q_X9_rebuild_4_1) (fun _ h9 => h9) rfl dX9_rebuild_33 ?_
    refine lv_iload_n hx hb dX9_rebuild_36 rfl (lv_at hl 3 rfl) ?_
    refine lv_iload_n hx hb dX9_rebuild_37 rfl (lv_at hl 0 rfl) ?_
    refine k_ci (wr := [(m18, ai g 7 (upd fh 6 (nI (rt a0 a1 a2 a3)))), (m19, ai g 4 fs), (k0, .inr (9, [.ref m0, .int s1, .int s2, .int s3, .int s4, .int s5, .int s6, .ref m7, .ref m8, .ref m9, .int s10, .int s11, .int s12, .ref m13, .ref m14, .ref m15, .int s16, .ref m17, .ref m18, .ref m19, .ref m20, .ref m21, .ref m22, .ref m23, .ref m24, .ref m25, .ref m26, .ref m27, .ref m28, .int s29, .ref m30, .int s31, .int s32, .int s33, .int s34, .int s35, .ref m36, .ref m37, .ref m38, .ref m39, .long s40])), (m17, ai g 63 gc_2)]) hP hD hS hA [] [0, 1, 2, 3] rfl rfl (by decide) (by decide) (va_runS (As := [.int 4, .int 6]) (rest := [.ref m18]) ⟨hx, hb, hml, hown, hts⟩ (c_X9_belowFirst_6 l g   H.size) (va_cwS 2 hts gX9_rebuild_X9_belowFirst rfl rfl rfl (by decide +kernel) ⟨Nat.le_of_ble_eq_true rfl, Nat.le_of_ble_eq_true rfl⟩) (k_preS hE hZ hP hD hS hA [] rfl (by decide)) rfl rfl hl.1 rfl (lv_room (Nat.le_of_ble_eq_true rfl)) dX9_rebuild_38 ⟨Nat.le_of_ble_eq_true rfl, Nat.le_of_ble_eq_true rfl⟩) (fun r_11 w1 H locs hw hP hD hS => ?_)
    obtain ⟨rfl, rfl⟩ := hw
    have hP : va_P g.1 vwCl [(m18, ai g 7 (upd fh 6 (nI (rt a0 a1 a2 a3)))), (m19, ai g 4 fs), (k0, .inr (9, [.ref m0, .int s1, .int s2, .int s3, .int s4, .int s5, .int s6, .ref m7, .ref m8, .ref m9, .int s10, .int s11, .int s12, .ref m13, .ref m14, .ref m15, .int s16, .ref m17, .ref m18, .ref m19, .ref m20, .ref m21, .ref m22, .ref m23, .ref m24, .ref m25, .ref m26, .ref m27, .ref m28, .int s29, .ref m30, .int s31, .int s32, .int s33, .int s34, .int s35, .ref m36, .ref m37, .ref m38, .ref m39, .long s40])), (m17, ai g 63 gc_2)] H := hP
    have hD : va_D A [(m18, ai g 7 (upd fh 6 (nI (rt a0 a1 a2 a3)))), (m19, ai g 4 fs), (k0, .inr (9, [.ref m0, .int s1, .int s2, .int s3, .int s4, .int s5, .int s6, .ref m7, .ref m8, .ref m9, .int s10, .int s11, .int s12, .ref m13, .ref m14, .ref m15, .int s16, .ref m17, .ref m18, .ref m19, .ref m20, .ref m21, .ref m22, .ref m23, .ref m24, .ref m25, .ref m26, .ref m27, .ref m28, .int s29, .ref m30, .int s31, .int s32, .int s33, .int s34, .int s35, .ref m36, .ref m37, .ref m38, .ref m39, .long s40])), (m17, ai g 63 gc_2)] := hD
    refine lv_aload_n hx hb dX9_rebuild_41 rfl (lv_at hl 2 rfl) ?_
    refine lv_iload_n hx hb dX9_rebuild_42 rfl (lv_at hl 3 rfl) ?_
    refine lv_iload_n hx hb dX9_rebuild_43 rfl (lv_at hl 0 rfl) ?_
    refine k_ci (wr := [(m18, ai g 7 (upd fh 6 (nI (rt a0 a1 a2 a3)))), (m19, ai g 4 fs), (k0, .inr (9, [.ref m0, .int s1, .int s2, .int s3, .int s4, .int s5, .int s6, .ref m7, .ref m8, .ref m9, .int s10, .int s11, .int s12, .ref m13, .ref m14, .ref m15, .int s16, .ref m17, .ref m18, .ref m19, .ref m20, .ref m21, .ref m22, .ref m23, .ref m24, .ref m25, .ref m26, .ref m27, .ref m28, .int s29, .ref m30, .int s31, .int s32, .int s33, .int s34, .int s35, .ref m36, .ref m37, .ref m38, .ref m39, .long s40])), (m17, ai g 63 gc_2)]) hP hD hS hA [] [0, 1, 2, 3] rfl rfl (by decide) (by decide) (va_runS (As := [.int 4, .int 6]) (rest := [.ref k0, .int 4, .ref m18]) ⟨hx, hb, hml, hown, hts⟩ (c_X9_belowFirst_6 l g   H.size) (va_cwS 2 hts gX9_rebuild_X9_belowFirst rfl rfl rfl (by decide +kernel) ⟨Nat.le_of_ble_eq_true rfl, Nat.le_of_ble_eq_true rfl⟩) (k_preS hE hZ hP hD hS hA [] rfl (by decide)) rfl rfl hl.1 rfl (lv_room (Nat.le_of_ble_eq_true rfl)) dX9_rebuild_44 ⟨Nat.le_of_ble_eq_true rfl, Nat.le_of_ble_eq_true rfl⟩) (fun r_13 w1 H locs hw hP hD hS => ?_)
    obtain ⟨rfl, rfl⟩ := hw
    have hP : va_P g.1 vwCl [(m18, ai g 7 (upd fh 6 (nI (rt a0 a1 a2 a3)))), (m19, ai g 4 fs), (k0, .inr (9, [.ref m0, .int s1, .int s2, .int s3, .int s4, .int s5, .int s6, .ref m7, .ref m8, .ref m9, .int s10, .int s11, .int s12, .ref m13, .ref m14, .ref m15, .int s16, .ref m17, .ref m18, .ref m19, .ref m20, .ref m21, .ref m22, .ref m23, .ref m24, .ref m25, .ref m26, .ref m27, .ref m28, .int s29, .ref m30, .int s31, .int s32, .int s33, .int s34, .int s35, .ref m36, .ref m37, .ref m38, .ref m39, .long s40])), (m17, ai g 63 gc_2)] H := hP
    have hD : va_D A [(m18, ai g 7 (upd fh 6 (nI (rt a0 a1 a2 a3)))), (m19, ai g 4 fs), (k0, .inr (9, [.ref m0, .int s1, .int s2, .int s3, .int s4, .int s5, .int s6, .ref m7, .ref m8, .ref m9, .int s10, .int s11, .int s12, .ref m13, .ref m14, .ref m15, .int s16, .ref m17, .ref m18, .ref m19, .ref m20, .ref m21, .ref m22, .ref m23, .ref m24, .ref m25, .ref m26, .ref m27, .ref m28, .int s29, .ref m30, .int s31, .int s32, .int s33, .int s34, .int s35, .ref m36, .ref m37, .ref m38, .ref m39, .long s40])), (m17, ai g 63 gc_2)] := hD
    refine lv_aload_n hx hb dX9_rebuild_47 rfl (lv_at hl 2 rfl) ?_
    refine va_get (D := g.1) (ci := 9) (v := .ref m18) (C := RX9) (T := TX9) (N := 41) hx hb hts q_X9_rebuild_4_f9 hown hE.1 hP 2 rfl rfl 18 (by decide) (hts (.fieldLink RX9 34 "SoundLawsModel" "had" "[I") q_X9_rebuild_4_1) (fun _ h9 => h9) rfl dX9_rebuild_48 ?_
    refine lv_iload_n hx hb dX9_rebuild_51 rfl (lv_at hl 0 rfl) ?_
    refine k_ald 6 (by decide) (by decide) hx hb hE hP 0 rfl (by decide) dX9_rebuild_52 ?_
    refine k_ci (wr := [(m18, ai g 7 (upd fh 6 (nI (rt a0 a1 a2 a3)))), (m19, ai g 4 fs)]) hP hD hS hA [2, 3] [0, 1] rfl rfl (by decide) (by decide) (va_runV (As := [.int 4, .int ((upd fh 6 (nI (rt a0 a1 a2 a3))) 6)]) (rest := [.int 4, .ref m18]) ⟨hx, hb, hml, hown, hts⟩ (c_X9_leastSound_g l g k0 m0 s1 s2 s3 s4 s5 s6 m7 m8 m9 s10 s11 s12 m13 m14 m15 s16 m17 m18 m19 m20 m21 m22 m23 m24 m25 m26 m27 m28 s29 m30 s31 s32 s33 s34 s35 m36 m37 m38 m39 s40 gc_2 4 ((upd fh 6 (nI (rt a0 a1 a2 a3))) 6) (by decide) H.size) (cwV 2 hts gX9_rebuild_X9_leastSound rfl rfl rfl (by decide +kernel) ⟨Nat.le_of_ble_eq_true rfl, Nat.le_of_ble_eq_true rfl⟩) (k_preV hE hZ hP hD hS hA [2, 3] rfl (by decide) (va_recv hE.1 hP (ci := 9) (q0 := 2) rfl rfl)) rfl rfl hl.1 rfl (lv_room (Nat.le_of_ble_eq_true rfl)) dX9_rebuild_53 ⟨Nat.le_of_ble_eq_true rfl, Nat.le_of_ble_eq_true rfl⟩) (fun r_15 w1 H locs hw hP hD hS => ?_)
    obtain ⟨rfl, hv_16⟩ := hw
    have hP : va_P g.1 vwCl [(m18, ai g 7 (upd fh 6 (nI (rt a0 a1 a2 a3)))), (m19, ai g 4 fs), (k0, .inr (9, [.ref m0, .int s1, .int s2, .int s3, .int s4, .int s5, .int s6, .ref m7, .ref m8, .ref m9, .int s10, .int s11, .int s12, .ref m13, .ref m14, .ref m15, .int s16, .ref m17, .ref m18, .ref m19, .ref m20, .ref m21, .ref m22, .ref m23, .ref m24, .ref m25, .ref m26, .ref m27, .ref m28, .int s29, .ref m30, .int s31, .int s32, .int s33, .int s34, .int s35, .ref m36, .ref m37, .ref m38, .ref m39, .long s40])), (m17, ai g 63 gc_2)] H := hP
    have hD : va_D A [(m18, ai g 7 (upd fh 6 (nI (rt a0 a1 a2 a3)))), (m19, ai g 4 fs), (k0, .inr (9, [.ref m0, .int s1, .int s2, .int s3, .int s4, .int s5, .int s6, .ref m7, .ref m8, .ref m9, .int s10, .int s11, .int s12, .ref m13, .ref m14, .ref m15, .int s16, .ref m17, .ref m18, .ref m19, .ref m20, .ref m21, .ref m22, .ref m23, .ref m24, .ref m25, .ref m26, .ref m27, .ref m28, .int s29, .ref m30, .int s31, .int s32, .int s33, .int s34, .int s35, .ref m36, .ref m37, .ref m38, .ref m39, .long s40])), (m17, ai g 63 gc_2)] := hD
    obtain ⟨wv_17, hwv_17, ewv_17⟩ := hv_16
    subst ewv_17
    refine k_ast (x := (nI wv_17)) 4 (by decide) (by decide) hx hb hE hP hD hS 0 rfl (by decide) dX9_rebuild_56 (fun H locs hP hD hS => ?_)
    have hP : va_P g.1 vwCl [(m18, ai g 7 (upd (upd fh 6 (nI (rt a0 a1 a2 a3))) 4 (nI wv_17))), (m19, ai g 4 fs), (k0, .inr (9, [.ref m0, .int s1, .int s2, .int s3, .int s4, .int s5, .int s6, .ref m7, .ref m8, .ref m9, .int s10, .int s11, .int s12, .ref m13, .ref m14, .ref m15, .int s16, .ref m17, .ref m18, .ref m19, .ref m20, .ref m21, .ref m22, .ref m23, .ref m24, .ref m25, .ref m26, .ref m27, .ref m28, .int s29, .ref m30, .int s31, .int s32, .int s33, .int s34, .int s35, .ref m36, .ref m37, .ref m38, .ref m39, .long s40])), (m17, ai g 63 gc_2)] H := hP
    have hD : va_D A [(m18, ai g 7 (upd (upd fh 6 (nI (rt a0 a1 a2 a3))) 4 (nI wv_17))), (m19, ai g 4 fs), (k0, .inr (9, [.ref m0, .int s1, .int s2, .int s3, .int s4, .int s5, .int s6, .ref m7, .ref m8, .ref m9, .int s10, .int s11, .int s12, .ref m13, .ref m14, .ref m15, .int s16, .ref m17, .ref m18, .ref m19, .ref m20, .ref m21, .ref m22, .ref m23, .ref m24, .ref m25, .ref m26, .ref m27, .ref m28, .int s29, .ref m30, .int s31, .int s32, .int s33, .int s34, .int s35, .ref m36, .ref m37, .ref m38, .ref m39, .long s40])), (m17, ai g 63 gc_2)] := hD
    refine lv_aload_n hx hb dX9_rebuild_57 rfl (lv_at hl 2 rfl) ?_
    refine va_get (D := g.1) (ci := 9) (v := .ref m18) (C := RX9) (T := TX9) (N := 41) hx hb hts q_X9_rebuild_4_f9 hown hE.1 hP 2 rfl rfl 18 (by decide) (hts (.fieldLink RX9 34 "SoundLawsModel" "had" "[I") q_X9_rebuild_4_1) (fun _ h9 => h9) rfl dX9_rebuild_58 ?_
    refine lv_iload_n hx hb dX9_rebuild_61 rfl (lv_at hl 3 rfl) ?_
    refine lv_iload_n hx hb dX9_rebuild_62 rfl (lv_at hl 0 rfl) ?_
    refine k_ci (wr := [(m18, ai g 7 (upd (upd fh 6 (nI (rt a0 a1 a2 a3))) 4 (nI wv_17))), (m19, ai g 4 fs), (k0, .inr (9, [.ref m0, .int s1, .int s2, .int s3, .int s4, .int s5, .int s6, .ref m7, .ref m8, .ref m9, .int s10, .int s11, .int s12, .ref m13, .ref m14, .ref m15, .int s16, .ref m17, .ref m18, .ref m19, .ref m20, .ref m21, .ref m22, .ref m23, .ref m24, .ref m25, .ref m26, .ref m27, .ref m28, .int s29, .ref m30, .int s31, .int s32, .int s33, .int s34, .int s35, .ref m36, .ref m37, .ref m38, .ref m39, .long s40])), (m17, ai g 63 gc_2)]) hP hD hS hA [] [0, 1, 2, 3] rfl rfl (by decide) (by decide) (va_runS (As := [.int 4, .int 6]) (rest := [.ref m18]) ⟨hx, hb, hml, hown, hts⟩ (c_X9_belowSecond_6 l g   H.size) (va_cwS 2 hts gX9_rebuild_X9_belowSecond rfl rfl rfl (by decide +kernel) ⟨Nat.le_of_ble_eq_true rfl, Nat.le_of_ble_eq_true rfl⟩) (k_preS hE hZ hP hD hS hA [] rfl (by decide)) rfl rfl hl.1 rfl (lv_room (Nat.le_of_ble_eq_true rfl)) dX9_rebuild_63 ⟨Nat.le_of_ble_eq_true rfl, Nat.le_of_ble_eq_true rfl⟩) (fun r_18 w1 H locs hw hP hD hS => ?_)
    obtain ⟨rfl, rfl⟩ := hw
    have hP : va_P g.1 vwCl [(m18, ai g 7 (upd (upd fh 6 (nI (rt a0 a1 a2 a3))) 4 (nI wv_17))), (m19, ai g 4 fs), (k0, .inr (9, [.ref m0, .int s1, .int s2, .int s3, .int s4, .int s5, .int s6, .ref m7, .ref m8, .ref m9, .int s10, .int s11, .int s12, .ref m13, .ref m14, .ref m15, .int s16, .ref m17, .ref m18, .ref m19, .ref m20, .ref m21, .ref m22, .ref m23, .ref m24, .ref m25, .ref m26, .ref m27, .ref m28, .int s29, .ref m30, .int s31, .int s32, .int s33, .int s34, .int s35, .ref m36, .ref m37, .ref m38, .ref m39, .long s40])), (m17, ai g 63 gc_2)] H := hP
    have hD : va_D A [(m18, ai g 7 (upd (upd fh 6 (nI (rt a0 a1 a2 a3))) 4 (nI wv_17))), (m19, ai g 4 fs), (k0, .inr (9, [.ref m0, .int s1, .int s2, .int s3, .int s4, .int s5, .int s6, .ref m7, .ref m8, .ref m9, .int s10, .int s11, .int s12, .ref m13, .ref m14, .ref m15, .int s16, .ref m17, .ref m18, .ref m19, .ref m20, .ref m21, .ref m22, .ref m23, .ref m24, .ref m25, .ref m26, .ref m27, .ref m28, .int s29, .ref m30, .int s31, .int s32, .int s33, .int s34, .int s35, .ref m36, .ref m37, .ref m38, .ref m39, .long s40])), (m17, ai g 63 gc_2)] := hD
    refine lv_aload_n hx hb dX9_rebuild_66 rfl (lv_at hl 2 rfl) ?_
    refine lv_iload_n hx hb dX9_rebuild_67 rfl (lv_at hl 3 rfl) ?_
    refine lv_iload_n hx hb dX9_rebuild_68 rfl (lv_at hl 0 rfl) ?_
    refine k_ci (wr := [(m18, ai g 7 (upd (upd fh 6 (nI (rt a0 a1 a2 a3))) 4 (nI wv_17))), (m19, ai g 4 fs), (k0, .inr (9, [.ref m0, .int s1, .int s2, .int s3, .int s4, .int s5, .int s6, .ref m7, .ref m8, .ref m9, .int s10, .int s11, .int s12, .ref m13, .ref m14, .ref m15, .int s16, .ref m17, .ref m18, .ref m19, .ref m20, .ref m21, .ref m22, .ref m23, .ref m24, .ref m25, .ref m26, .ref m27, .ref m28, .int s29, .ref m30, .int s31, .int s32, .int s33, .int s34, .int s35, .ref m36, .ref m37, .ref m38, .ref m39, .long s40])), (m17, ai g 63 gc_2)]) hP hD hS hA [] [0, 1, 2, 3] rfl rfl (by decide) (by decide) (va_runS (As := [.int 4, .int 6]) (rest := [.ref k0, .int 5, .ref m18]) ⟨hx, hb, hml, hown, hts⟩ (c_X9_belowSecond_6 l g   H.size) (va_cwS 2 hts gX9_rebuild_X9_belowSecond rfl rfl rfl (by decide +kernel) ⟨Nat.le_of_ble_eq_true rfl, Nat.le_of_ble_eq_true rfl⟩) (k_preS hE hZ hP hD hS hA [] rfl (by decide)) rfl rfl hl.1 rfl (lv_room (Nat.le_of_ble_eq_true rfl)) dX9_rebuild_69 ⟨Nat.le_of_ble_eq_true rfl, Nat.le_of_ble_eq_true rfl⟩) (fun r_20 w1 H locs hw hP hD hS => ?_)
    obtain ⟨rfl, rfl⟩ := hw
    have hP : va_P g.1 vwCl [(m18, ai g 7 (upd (upd fh 6 (nI (rt a0 a1 a2 a3))) 4 (nI wv_17))), (m19, ai g 4 fs), (k0, .inr (9, [.ref m0, .int s1, .int s2, .int s3, .int s4, .int s5, .int s6, .ref m7, .ref m8, .ref m9, .int s10, .int s11, .int s12, .ref m13, .ref m14, .ref m15, .int s16, .ref m17, .ref m18, .ref m19, .ref m20, .ref m21, .ref m22, .ref m23, .ref m24, .ref m25, .ref m26, .ref m27, .ref m28, .int s29, .ref m30, .int s31, .int s32, .int s33, .int s34, .int s35, .ref m36, .ref m37, .ref m38, .ref m39, .long s40])), (m17, ai g 63 gc_2)] H := hP
    have hD : va_D A [(m18, ai g 7 (upd (upd fh 6 (nI (rt a0 a1 a2 a3))) 4 (nI wv_17))), (m19, ai g 4 fs), (k0, .inr (9, [.ref m0, .int s1, .int s2, .int s3, .int s4, .int s5, .int s6, .ref m7, .ref m8, .ref m9, .int s10, .int s11, .int s12, .ref m13, .ref m14, .ref m15, .int s16, .ref m17, .ref m18, .ref m19, .ref m20, .ref m21, .ref m22, .ref m23, .ref m24, .ref m25, .ref m26, .ref m27, .ref m28, .int s29, .ref m30, .int s31, .int s32, .int s33, .int s34, .int s35, .ref m36, .ref m37, .ref m38, .ref m39, .long s40])), (m17, ai g 63 gc_2)] := hD
    refine lv_aload_n hx hb dX9_rebuild_72 rfl (lv_at hl 2 rfl) ?_
    refine va_get (D := g.1) (ci := 9) (v := .ref m18) (C := RX9) (T := TX9) (N := 41) hx hb hts q_X9_rebuild_4_f9 hown hE.1 hP 2 rfl rfl 18 (by decide) (hts (.fieldLink RX9 34 "SoundLawsModel" "had" "[I") q_X9_rebuild_4_1) (fun _ h9 => h9) rfl dX9_rebuild_73 ?_
    refine lv_iload_n hx hb dX9_rebuild_76 rfl (lv_at hl 0 rfl) ?_
    refine k_ald 6 (by decide) (by decide) hx hb hE hP 0 rfl (by decide) dX9_rebuild_77 ?_
    refine k_ci (wr := [(m18, ai g 7 (upd (upd fh 6 (nI (rt a0 a1 a2 a3))) 4 (nI wv_17))), (m19, ai g 4 fs)]) hP hD hS hA [2, 3] [0, 1] rfl rfl (by decide) (by decide) (va_runV (As := [.int 5, .int ((upd (upd fh 6 (nI (rt a0 a1 a2 a3))) 4 (nI wv_17)) 6)]) (rest := [.int 5, .ref m18]) ⟨hx, hb, hml, hown, hts⟩ (c_X9_leastSound_g l g k0 m0 s1 s2 s3 s4 s5 s6 m7 m8 m9 s10 s11 s12 m13 m14 m15 s16 m17 m18 m19 m20 m21 m22 m23 m24 m25 m26 m27 m28 s29 m30 s31 s32 s33 s34 s35 m36 m37 m38 m39 s40 gc_2 5 ((upd (upd fh 6 (nI (rt a0 a1 a2 a3))) 4 (nI wv_17)) 6) (by decide) H.size) (cwV 2 hts gX9_rebuild_X9_leastSound rfl rfl rfl (by decide +kernel) ⟨Nat.le_of_ble_eq_true rfl, Nat.le_of_ble_eq_true rfl⟩) (k_preV hE hZ hP hD hS hA [2, 3] rfl (by decide) (va_recv hE.1 hP (ci := 9) (q0 := 2) rfl rfl)) rfl rfl hl.1 rfl (lv_room (Nat.le_of_ble_eq_true rfl)) dX9_rebuild_78 ⟨Nat.le_of_ble_eq_true rfl, Nat.le_of_ble_eq_true rfl⟩) (fun r_22 w1 H locs hw hP hD hS => ?_)
    obtain ⟨rfl, hv_23⟩ := hw
    have hP : va_P g.1 vwCl [(m18, ai g 7 (upd (upd fh 6 (nI (rt a0 a1 a2 a3))) 4 (nI wv_17))), (m19, ai g 4 fs), (k0, .inr (9, [.ref m0, .int s1, .int s2, .int s3, .int s4, .int s5, .int s6, .ref m7, .ref m8, .ref m9, .int s10, .int s11, .int s12, .ref m13, .ref m14, .ref m15, .int s16, .ref m17, .ref m18, .ref m19, .ref m20, .ref m21, .ref m22, .ref m23, .ref m24, .ref m25, .ref m26, .ref m27, .ref m28, .int s29, .ref m30, .int s31, .int s32, .int s33, .int s34, .int s35, .ref m36, .ref m37, .ref m38, .ref m39, .long s40])), (m17, ai g 63 gc_2)] H := hP
    have hD : va_D A [(m18, ai g 7 (upd (upd fh 6 (nI (rt a0 a1 a2 a3))) 4 (nI wv_17))), (m19, ai g 4 fs), (k0, .inr (9, [.ref m0, .int s1, .int s2, .int s3, .int s4, .int s5, .int s6, .ref m7, .ref m8, .ref m9, .int s10, .int s11, .int s12, .ref m13, .ref m14, .ref m15, .int s16, .ref m17, .ref m18, .ref m19, .ref m20, .ref m21, .ref m22, .ref m23, .ref m24, .ref m25, .ref m26, .ref m27, .ref m28, .int s29, .ref m30, .int s31, .int s32, .int s33, .int s34, .int s35, .ref m36, .ref m37, .ref m38, .ref m39, .long s40])), (m17, ai g 63 gc_2)] := hD
    obtain ⟨wv_24, hwv_24, ewv_24⟩ := hv_23
    subst ewv_24
    refine k_ast (x := (nI wv_24)) 5 (by decide) (by decide) hx hb hE hP hD hS 0 rfl (by decide) dX9_rebuild_81 (fun H locs hP hD hS => ?_)
    have hP : va_P g.1 vwCl [(m18, ai g 7 (upd (upd (upd fh 6 (nI (rt a0 a1 a2 a3))) 4 (nI wv_17)) 5 (nI wv_24))), (m19, ai g 4 fs), (k0, .inr (9, [.ref m0, .int s1, .int s2, .int s3, .int s4, .int s5, .int s6, .ref m7, .ref m8, .ref m9, .int s10, .int s11, .int s12, .ref m13, .ref m14, .ref m15, .int s16, .ref m17, .ref m18, .ref m19, .ref m20, .ref m21, .ref m22, .ref m23, .ref m24, .ref m25, .ref m26, .ref m27, .ref m28, .int s29, .ref m30, .int s31, .int s32, .int s33, .int s34, .int s35, .ref m36, .ref m37, .ref m38, .ref m39, .long s40])), (m17, ai g 63 gc_2)] H := hP
    have hD : va_D A [(m18, ai g 7 (upd (upd (upd fh 6 (nI (rt a0 a1 a2 a3))) 4 (nI wv_17)) 5 (nI wv_24))), (m19, ai g 4 fs), (k0, .inr (9, [.ref m0, .int s1, .int s2, .int s3, .int s4, .int s5, .int s6, .ref m7, .ref m8, .ref m9, .int s10, .int s11, .int s12, .ref m13, .ref m14, .ref m15, .int s16, .ref m17, .ref m18, .ref m19, .ref m20, .ref m21, .ref m22, .ref m23, .ref m24, .ref m25, .ref m26, .ref m27, .ref m28, .int s29, .ref m30, .int s31, .int s32, .int s33, .int s34, .int s35, .ref m36, .ref m37, .ref m38, .ref m39, .long s40])), (m17, ai g 63 gc_2)] := hD
    refine lv_iinc (v := 5) (lv' := [(3, .int 5), (2, .int 6), (0, .ref k0), (1, .int 4)]) hx hb dX9_rebuild_82 hl (k := 0) rfl (by decide) (by decide) rfl (fun ls hl => ?_)
    refine lv_goto (tgt := 27) hx hb dX9_rebuild_85 (by decide) ?_
    refine lv_iload_n hx hb dX9_rebuild_27 rfl (lv_at hl 0 rfl) ?_
    refine lv_iload_n hx hb dX9_rebuild_28 rfl (lv_at hl 3 rfl) ?_
    refine lv_icmp_lt (tgt := 88) hx hb dX9_rebuild_29 (by decide) (fun c29_25 => ?_) (fun c29_25 => ?_)
    · exact absurd c29_25 (by decide)
    · skip
      refine lv_aload_n hx hb dX9_rebuild_32 rfl (lv_at hl 2 rfl) ?_
      refine va_get (D := g.1) (ci := 9) (v := .ref m18) (C := RX9) (T := TX9) (N := 41) hx hb hts q_X9_rebuild_4_f9 hown hE.1 hP 2 rfl rfl 18 (by decide) (hts (.fieldLink RX9 34 "SoundLawsModel" "had" "[I") q_X9_rebuild_4_1) (fun _ h9 => h9) rfl dX9_rebuild_33 ?_
      refine lv_iload_n hx hb dX9_rebuild_36 rfl (lv_at hl 3 rfl) ?_
      refine lv_iload_n hx hb dX9_rebuild_37 rfl (lv_at hl 0 rfl) ?_
      refine k_ci (wr := [(m18, ai g 7 (upd (upd (upd fh 6 (nI (rt a0 a1 a2 a3))) 4 (nI wv_17)) 5 (nI wv_24))), (m19, ai g 4 fs), (k0, .inr (9, [.ref m0, .int s1, .int s2, .int s3, .int s4, .int s5, .int s6, .ref m7, .ref m8, .ref m9, .int s10, .int s11, .int s12, .ref m13, .ref m14, .ref m15, .int s16, .ref m17, .ref m18, .ref m19, .ref m20, .ref m21, .ref m22, .ref m23, .ref m24, .ref m25, .ref m26, .ref m27, .ref m28, .int s29, .ref m30, .int s31, .int s32, .int s33, .int s34, .int s35, .ref m36, .ref m37, .ref m38, .ref m39, .long s40])), (m17, ai g 63 gc_2)]) hP hD hS hA [] [0, 1, 2, 3] rfl rfl (by decide) (by decide) (va_runS (As := [.int 4, .int 5]) (rest := [.ref m18]) ⟨hx, hb, hml, hown, hts⟩ (c_X9_belowFirst_5 l g   H.size) (va_cwS 2 hts gX9_rebuild_X9_belowFirst rfl rfl rfl (by decide +kernel) ⟨Nat.le_of_ble_eq_true rfl, Nat.le_of_ble_eq_true rfl⟩) (k_preS hE hZ hP hD hS hA [] rfl (by decide)) rfl rfl hl.1 rfl (lv_room (Nat.le_of_ble_eq_true rfl)) dX9_rebuild_38 ⟨Nat.le_of_ble_eq_true rfl, Nat.le_of_ble_eq_true rfl⟩) (fun r_26 w1 H locs hw hP hD hS => ?_)
      obtain ⟨rfl, rfl⟩ := hw
      have hP : va_P g.1 vwCl [(m18, ai g 7 (upd (upd (upd fh 6 (nI (rt a0 a1 a2 a3))) 4 (nI wv_17)) 5 (nI wv_24))), (m19, ai g 4 fs), (k0, .inr (9, [.ref m0, .int s1, .int s2, .int s3, .int s4, .int s5, .int s6, .ref m7, .ref m8, .ref m9, .int s10, .int s11, .int s12, .ref m13, .ref m14, .ref m15, .int s16, .ref m17, .ref m18, .ref m19, .ref m20, .ref m21, .ref m22, .ref m23, .ref m24, .ref m25, .ref m26, .ref m27, .ref m28, .int s29, .ref m30, .int s31, .int s32, .int s33, .int s34, .int s35, .ref m36, .ref m37, .ref m38, .ref m39, .long s40])), (m17, ai g 63 gc_2)] H := hP
      have hD : va_D A [(m18, ai g 7 (upd (upd (upd fh 6 (nI (rt a0 a1 a2 a3))) 4 (nI wv_17)) 5 (nI wv_24))), (m19, ai g 4 fs), (k0, .inr (9, [.ref m0, .int s1, .int s2, .int s3, .int s4, .int s5, .int s6, .ref m7, .ref m8, .ref m9, .int s10, .int s11, .int s12, .ref m13, .ref m14, .ref m15, .int s16, .ref m17, .ref m18, .ref m19, .ref m20, .ref m21, .ref m22, .ref m23, .ref m24, .ref m25, .ref m26, .ref m27, .ref m28, .int s29, .ref m30, .int s31, .int s32, .int s33, .int s34, .int s35, .ref m36, .ref m37, .ref m38, .ref m39, .long s40])), (m17, ai g 63 gc_2)] := hD
      refine lv_aload_n hx hb dX9_rebuild_41 rfl (lv_at hl 2 rfl) ?_
      refine lv_iload_n hx hb dX9_rebuild_42 rfl (lv_at hl 3 rfl) ?_
      refine lv_iload_n hx hb dX9_rebuild_43 rfl (lv_at hl 0 rfl) ?_
      refine k_ci (wr := [(m18, ai g 7 (upd (upd (upd fh 6 (nI (rt a0 a1 a2 a3))) 4 (nI wv_17)) 5 (nI wv_24))), (m19, ai g 4 fs), (k0, .inr (9, [.ref m0, .int s1, .int s2, .int s3, .int s4, .int s5, .int s6, .ref m7, .ref m8, .ref m9, .int s10, .int s11, .int s12, .ref m13, .ref m14, .ref m15, .int s16, .ref m17, .ref m18, .ref m19, .ref m20, .ref m21, .ref m22, .ref m23, .ref m24, .ref m25, .ref m26, .ref m27, .ref m28, .int s29, .ref m30, .int s31, .int s32, .int s33, .int s34, .int s35, .ref m36, .ref m37, .ref m38, .ref m39, .long s40])), (m17, ai g 63 gc_2)]) hP hD hS hA [] [0, 1, 2, 3] rfl rfl (by decide) (by decide) (va_runS (As := [.int 4, .int 5]) (rest := [.ref k0, .int 2, .ref m18]) ⟨hx, hb, hml, hown, hts⟩ (c_X9_belowFirst_5 l g   H.size) (va_cwS 2 hts gX9_rebuild_X9_belowFirst rfl rfl rfl (by decide +kernel) ⟨Nat.le_of_ble_eq_true rfl, Nat.le_of_ble_eq_true rfl⟩) (k_preS hE hZ hP hD hS hA [] rfl (by decide)) rfl rfl hl.1 rfl (lv_room (Nat.le_of_ble_eq_true rfl)) dX9_rebuild_44 ⟨Nat.le_of_ble_eq_true rfl, Nat.le_of_ble_eq_true rfl⟩) (fun r_28 w1 H locs hw hP hD hS => ?_)
      obtain ⟨rfl, rfl⟩ := hw
      have hP : va_P g.1 vwCl [(m18, ai g 7 (upd (upd (upd fh 6 (nI (rt a0 a1 a2 a3))) 4 (nI wv_17)) 5 (nI wv_24))), (m19, ai g 4 fs), (k0, .inr (9, [.ref m0, .int s1, .int s2, .int s3, .int s4, .int s5, .int s6, .ref m7, .ref m8, .ref m9, .int s10, .int s11, .int s12, .ref m13, .ref m14, .ref m15, .int s16, .ref m17, .ref m18, .ref m19, .ref m20, .ref m21, .ref m22, .ref m23, .ref m24, .ref m25, .ref m26, .ref m27, .ref m28, .int s29, .ref m30, .int s31, .int s32, .int s33, .int s34, .int s35, .ref m36, .ref m37, .ref m38, .ref m39, .long s40])), (m17, ai g 63 gc_2)] H := hP
      have hD : va_D A [(m18, ai g 7 (upd (upd (upd fh 6 (nI (rt a0 a1 a2 a3))) 4 (nI wv_17)) 5 (nI wv_24))), (m19, ai g 4 fs), (k0, .inr (9, [.ref m0, .int s1, .int s2, .int s3, .int s4, .int s5, .int s6, .ref m7, .ref m8, .ref m9, .int s10, .int s11, .int s12, .ref m13, .ref m14, .ref m15, .int s16, .ref m17, .ref m18, .ref m19, .ref m20, .ref m21, .ref m22, .ref m23, .ref m24, .ref m25, .ref m26, .ref m27, .ref m28, .int s29, .ref m30, .int s31, .int s32, .int s33, .int s34, .int s35, .ref m36, .ref m37, .ref m38, .ref m39, .long s40])), (m17, ai g 63 gc_2)] := hD
      refine lv_aload_n hx hb dX9_rebuild_47 rfl (lv_at hl 2 rfl) ?_
      refine va_get (D := g.1) (ci := 9) (v := .ref m18) (C := RX9) (T := TX9) (N := 41) hx hb hts q_X9_rebuild_4_f9 hown hE.1 hP 2 rfl rfl 18 (by decide) (hts (.fieldLink RX9 34 "SoundLawsModel" "had" "[I") q_X9_rebuild_4_1) (fun _ h9 => h9) rfl dX9_rebuild_48 ?_
      refine lv_iload_n hx hb dX9_rebuild_51 rfl (lv_at hl 0 rfl) ?_
      refine k_ald 5 (by decide) (by decide) hx hb hE hP 0 rfl (by decide) dX9_rebuild_52 ?_
      refine k_ci (wr := [(m18, ai g 7 (upd (upd (upd fh 6 (nI (rt a0 a1 a2 a3))) 4 (nI wv_17)) 5 (nI wv_24))), (m19, ai g 4 fs)]) hP hD hS hA [2, 3] [0, 1] rfl rfl (by decide) (by decide) (va_runV (As := [.int 2, .int ((upd (upd (upd fh 6 (nI (rt a0 a1 a2 a3))) 4 (nI wv_17)) 5 (nI wv_24)) 5)]) (rest := [.int 2, .ref m18]) ⟨hx, hb, hml, hown, hts⟩ (c_X9_leastSound_g l g k0 m0 s1 s2 s3 s4 s5 s6 m7 m8 m9 s10 s11 s12 m13 m14 m15 s16 m17 m18 m19 m20 m21 m22 m23 m24 m25 m26 m27 m28 s29 m30 s31 s32 s33 s34 s35 m36 m37 m38 m39 s40 gc_2 2 ((upd (upd (upd fh 6 (nI (rt a0 a1 a2 a3))) 4 (nI wv_17)) 5 (nI wv_24)) 5) (by decide) H.size) (cwV 2 hts gX9_rebuild_X9_leastSound rfl rfl rfl (by decide +kernel) ⟨Nat.le_of_ble_eq_true rfl, Nat.le_of_ble_eq_true rfl⟩) (k_preV hE hZ hP hD hS hA [2, 3] rfl (by decide) (va_recv hE.1 hP (ci := 9) (q0 := 2) rfl rfl)) rfl rfl hl.1 rfl (lv_room (Nat.le_of_ble_eq_true rfl)) dX9_rebuild_53 ⟨Nat.le_of_ble_eq_true rfl, Nat.le_of_ble_eq_true rfl⟩) (fun r_30 w1 H locs hw hP hD hS => ?_)
      obtain ⟨rfl, hv_31⟩ := hw
      have hP : va_P g.1 vwCl [(m18, ai g 7 (upd (upd (upd fh 6 (nI (rt a0 a1 a2 a3))) 4 (nI wv_17)) 5 (nI wv_24))), (m19, ai g 4 fs), (k0, .inr (9, [.ref m0, .int s1, .int s2, .int s3, .int s4, .int s5, .int s6, .ref m7, .ref m8, .ref m9, .int s10, .int s11, .int s12, .ref m13, .ref m14, .ref m15, .int s16, .ref m17, .ref m18, .ref m19, .ref m20, .ref m21, .ref m22, .ref m23, .ref m24, .ref m25, .ref m26, .ref m27, .ref m28, .int s29, .ref m30, .int s31, .int s32, .int s33, .int s34, .int s35, .ref m36, .ref m37, .ref m38, .ref m39, .long s40])), (m17, ai g 63 gc_2)] H := hP
      have hD : va_D A [(m18, ai g 7 (upd (upd (upd fh 6 (nI (rt a0 a1 a2 a3))) 4 (nI wv_17)) 5 (nI wv_24))), (m19, ai g 4 fs), (k0, .inr (9, [.ref m0, .int s1, .int s2, .int s3, .int s4, .int s5, .int s6, .ref m7, .ref m8, .ref m9, .int s10, .int s11, .int s12, .ref m13, .ref m14, .ref m15, .int s16, .ref m17, .ref m18, .ref m19, .ref m20, .ref m21, .ref m22, .ref m23, .ref m24, .ref m25, .ref m26, .ref m27, .ref m28, .int s29, .ref m30, .int s31, .int s32, .int s33, .int s34, .int s35, .ref m36, .ref m37, .ref m38, .ref m39, .long s40])), (m17, ai g 63 gc_2)] := hD
      obtain ⟨wv_32, hwv_32, ewv_32⟩ := hv_31
      subst ewv_32
      refine k_ast (x := (nI wv_32)) 2 (by decide) (by decide) hx hb hE hP hD hS 0 rfl (by decide) dX9_rebuild_56 (fun H locs hP hD hS => ?_)
      have hP : va_P g.1 vwCl [(m18, ai g 7 (upd (upd (upd (upd fh 6 (nI (rt a0 a1 a2 a3))) 4 (nI wv_17)) 5 (nI wv_24)) 2 (nI wv_32))), (m19, ai g 4 fs), (k0, .inr (9, [.ref m0, .int s1, .int s2, .int s3, .int s4, .int s5, .int s6, .ref m7, .ref m8, .ref m9, .int s10, .int s11, .int s12, .ref m13, .ref m14, .ref m15, .int s16, .ref m17, .ref m18, .ref m19, .ref m20, .ref m21, .ref m22, .ref m23, .ref m24, .ref m25, .ref m26, .ref m27, .ref m28, .int s29, .ref m30, .int s31, .int s32, .int s33, .int s34, .int s35, .ref m36, .ref m37, .ref m38, .ref m39, .long s40])), (m17, ai g 63 gc_2)] H := hP
      have hD : va_D A [(m18, ai g 7 (upd (upd (upd (upd fh 6 (nI (rt a0 a1 a2 a3))) 4 (nI wv_17)) 5 (nI wv_24)) 2 (nI wv_32))), (m19, ai g 4 fs), (k0, .inr (9, [.ref m0, .int s1, .int s2, .int s3, .int s4, .int s5, .int s6, .ref m7, .ref m8, .ref m9, .int s10, .int s11, .int s12, .ref m13, .ref m14, .ref m15, .int s16, .ref m17, .ref m18, .ref m19, .ref m20, .ref m21, .ref m22, .ref m23, .ref m24, .ref m25, .ref m26, .ref m27, .ref m28, .int s29, .ref m30, .int s31, .int s32, .int s33, .int s34, .int s35, .ref m36, .ref m37, .ref m38, .ref m39, .long s40])), (m17, ai g 63 gc_2)] := hD
      refine lv_aload_n hx hb dX9_rebuild_57 rfl (lv_at hl 2 rfl) ?_
      refine va_get (D := g.1) (ci := 9) (v := .ref m18) (C := RX9) (T := TX9) (N := 41) hx hb hts q_X9_rebuild_4_f9 hown hE.1 hP 2 rfl rfl 18 (by decide) (hts (.fieldLink RX9 34 "SoundLawsModel" "had" "[I") q_X9_rebuild_4_1) (fun _ h9 => h9) rfl dX9_rebuild_58 ?_
      refine lv_iload_n hx hb dX9_rebuild_61 rfl (lv_at hl 3 rfl) ?_
      refine lv_iload_n hx hb dX9_rebuild_62 rfl (lv_at hl 0 rfl) ?_
      refine k_ci (wr := [(m18, ai g 7 (upd (upd (upd (upd fh 6 (nI (rt a0 a1 a2 a3))) 4 (nI wv_17)) 5 (nI wv_24)) 2 (nI wv_32))), (m19, ai g 4 fs), (k0, .inr (9, [.ref m0, .int s1, .int s2, .int s3, .int s4, .int s5, .int s6, .ref m7, .ref m8, .ref m9, .int s10, .int s11, .int s12, .ref m13, .ref m14, .ref m15, .int s16, .ref m17, .ref m18, .ref m19, .ref m20, .ref m21, .ref m22, .ref m23, .ref m24, .ref m25, .ref m26, .ref m27, .ref m28, .int s29, .ref m30, .int s31, .int s32, .int s33, .int s34, .int s35, .ref m36, .ref m37, .ref m38, .ref m39, .long s40])), (m17, ai g 63 gc_2)]) hP hD hS hA [] [0, 1, 2, 3] rfl rfl (by decide) (by decide) (va_runS (As := [.int 4, .int 5]) (rest := [.ref m18]) ⟨hx, hb, hml, hown, hts⟩ (c_X9_belowSecond_5 l g   H.size) (va_cwS 2 hts gX9_rebuild_X9_belowSecond rfl rfl rfl (by decide +kernel) ⟨Nat.le_of_ble_eq_true rfl, Nat.le_of_ble_eq_true rfl⟩) (k_preS hE hZ hP hD hS hA [] rfl (by decide)) rfl rfl hl.1 rfl (lv_room (Nat.le_of_ble_eq_true rfl)) dX9_rebuild_63 ⟨Nat.le_of_ble_eq_true rfl, Nat.le_of_ble_eq_true rfl⟩) (fun r_33 w1 H locs hw hP hD hS => ?_)
      obtain ⟨rfl, rfl⟩ := hw
      have hP : va_P g.1 vwCl [(m18, ai g 7 (upd (upd (upd (upd fh 6 (nI (rt a0 a1 a2 a3))) 4 (nI wv_17)) 5 (nI wv_24)) 2 (nI wv_32))), (m19, ai g 4 fs), (k0, .inr (9, [.ref m0, .int s1, .int s2, .int s3, .int s4, .int s5, .int s6, .ref m7, .ref m8, .ref m9, .int s10, .int s11, .int s12, .ref m13, .ref m14, .ref m15, .int s16, .ref m17, .ref m18, .ref m19, .ref m20, .ref m21, .ref m22, .ref m23, .ref m24, .ref m25, .ref m26, .ref m27, .ref m28, .int s29, .ref m30, .int s31, .int s32, .int s33, .int s34, .int s35, .ref m36, .ref m37, .ref m38, .ref m39, .long s40])), (m17, ai g 63 gc_2)] H := hP
      have hD : va_D A [(m18, ai g 7 (upd (upd (upd (upd fh 6 (nI (rt a0 a1 a2 a3))) 4 (nI wv_17)) 5 (nI wv_24)) 2 (nI wv_32))), (m19, ai g 4 fs), (k0, .inr (9, [.ref m0, .int s1, .int s2, .int s3, .int s4, .int s5, .int s6, .ref m7, .ref m8, .ref m9, .int s10, .int s11, .int s12, .ref m13, .ref m14, .ref m15, .int s16, .ref m17, .ref m18, .ref m19, .ref m20, .ref m21, .ref m22, .ref m23, .ref m24, .ref m25, .ref m26, .ref m27, .ref m28, .int s29, .ref m30, .int s31, .int s32, .int s33, .int s34, .int s35, .ref m36, .ref m37, .ref m38, .ref m39, .long s40])), (m17, ai g 63 gc_2)] := hD
      refine lv_aload_n hx hb dX9_rebuild_66 rfl (lv_at hl 2 rfl) ?_
      refine lv_iload_n hx hb dX9_rebuild_67 rfl (lv_at hl 3 rfl) ?_
      refine lv_iload_n hx hb dX9_rebuild_68 rfl (lv_at hl 0 rfl) ?_
      refine k_ci (wr := [(m18, ai g 7 (upd (upd (upd (upd fh 6 (nI (rt a0 a1 a2 a3))) 4 (nI wv_17)) 5 (nI wv_24)) 2 (nI wv_32))), (m19, ai g 4 fs), (k0, .inr (9, [.ref m0, .int s1, .int s2, .int s3, .int s4, .int s5, .int s6, .ref m7, .ref m8, .ref m9, .int s10, .int s11, .int s12, .ref m13, .ref m14, .ref m15, .int s16, .ref m17, .ref m18, .ref m19, .ref m20, .ref m21, .ref m22, .ref m23, .ref m24, .ref m25, .ref m26, .ref m27, .ref m28, .int s29, .ref m30, .int s31, .int s32, .int s33, .int s34, .int s35, .ref m36, .ref m37, .ref m38, .ref m39, .long s40])), (m17, ai g 63 gc_2)]) hP hD hS hA [] [0, 1, 2, 3] rfl rfl (by decide) (by decide) (va_runS (As := [.int 4, .int 5]) (rest := [.ref k0, .int 3, .ref m18]) ⟨hx, hb, hml, hown, hts⟩ (c_X9_belowSecond_5 l g   H.size) (va_cwS 2 hts gX9_rebuild_X9_belowSecond rfl rfl rfl (by decide +kernel) ⟨Nat.le_of_ble_eq_true rfl, Nat.le_of_ble_eq_true rfl⟩) (k_preS hE hZ hP hD hS hA [] rfl (by decide)) rfl rfl hl.1 rfl (lv_room (Nat.le_of_ble_eq_true rfl)) dX9_rebuild_69 ⟨Nat.le_of_ble_eq_true rfl, Nat.le_of_ble_eq_true rfl⟩) (fun r_35 w1 H locs hw hP hD hS => ?_)
      obtain ⟨rfl, rfl⟩ := hw
      have hP : va_P g.1 vwCl [(m18, ai g 7 (upd (upd (upd (upd fh 6 (nI (rt a0 a1 a2 a3))) 4 (nI wv_17)) 5 (nI wv_24)) 2 (nI wv_32))), (m19, ai g 4 fs), (k0, .inr (9, [.ref m0, .int s1, .int s2, .int s3, .int s4, .int s5, .int s6, .ref m7, .ref m8, .ref m9, .int s10, .int s11, .int s12, .ref m13, .ref m14, .ref m15, .int s16, .ref m17, .ref m18, .ref m19, .ref m20, .ref m21, .ref m22, .ref m23, .ref m24, .ref m25, .ref m26, .ref m27, .ref m28, .int s29, .ref m30, .int s31, .int s32, .int s33, .int s34, .int s35, .ref m36, .ref m37, .ref m38, .ref m39, .long s40])), (m17, ai g 63 gc_2)] H := hP
      have hD : va_D A [(m18, ai g 7 (upd (upd (upd (upd fh 6 (nI (rt a0 a1 a2 a3))) 4 (nI wv_17)) 5 (nI wv_24)) 2 (nI wv_32))), (m19, ai g 4 fs), (k0, .inr (9, [.ref m0, .int s1, .int s2, .int s3, .int s4, .int s5, .int s6, .ref m7, .ref m8, .ref m9, .int s10, .int s11, .int s12, .ref m13, .ref m14, .ref m15, .int s16, .ref m17, .ref m18, .ref m19, .ref m20, .ref m21, .ref m22, .ref m23, .ref m24, .ref m25, .ref m26, .ref m27, .ref m28, .int s29, .ref m30, .int s31, .int s32, .int s33, .int s34, .int s35, .ref m36, .ref m37, .ref m38, .ref m39, .long s40])), (m17, ai g 63 gc_2)] := hD
      refine lv_aload_n hx hb dX9_rebuild_72 rfl (lv_at hl 2 rfl) ?_
      refine va_get (D := g.1) (ci := 9) (v := .ref m18) (C := RX9) (T := TX9) (N := 41) hx hb hts q_X9_rebuild_4_f9 hown hE.1 hP 2 rfl rfl 18 (by decide) (hts (.fieldLink RX9 34 "SoundLawsModel" "had" "[I") q_X9_rebuild_4_1) (fun _ h9 => h9) rfl dX9_rebuild_73 ?_
      refine lv_iload_n hx hb dX9_rebuild_76 rfl (lv_at hl 0 rfl) ?_
      refine k_ald 5 (by decide) (by decide) hx hb hE hP 0 rfl (by decide) dX9_rebuild_77 ?_
      refine k_ci (wr := [(m18, ai g 7 (upd (upd (upd (upd fh 6 (nI (rt a0 a1 a2 a3))) 4 (nI wv_17)) 5 (nI wv_24)) 2 (nI wv_32))), (m19, ai g 4 fs)]) hP hD hS hA [2, 3] [0, 1] rfl rfl (by decide) (by decide) (va_runV (As := [.int 3, .int ((upd (upd (upd (upd fh 6 (nI (rt a0 a1 a2 a3))) 4 (nI wv_17)) 5 (nI wv_24)) 2 (nI wv_32)) 5)]) (rest := [.int 3, .ref m18]) ⟨hx, hb, hml, hown, hts⟩ (c_X9_leastSound_g l g k0 m0 s1 s2 s3 s4 s5 s6 m7 m8 m9 s10 s11 s12 m13 m14 m15 s16 m17 m18 m19 m20 m21 m22 m23 m24 m25 m26 m27 m28 s29 m30 s31 s32 s33 s34 s35 m36 m37 m38 m39 s40 gc_2 3 ((upd (upd (upd (upd fh 6 (nI (rt a0 a1 a2 a3))) 4 (nI wv_17)) 5 (nI wv_24)) 2 (nI wv_32)) 5) (by decide) H.size) (cwV 2 hts gX9_rebuild_X9_leastSound rfl rfl rfl (by decide +kernel) ⟨Nat.le_of_ble_eq_true rfl, Nat.le_of_ble_eq_true rfl⟩) (k_preV hE hZ hP hD hS hA [2, 3] rfl (by decide) (va_recv hE.1 hP (ci := 9) (q0 := 2) rfl rfl)) rfl rfl hl.1 rfl (lv_room (Nat.le_of_ble_eq_true rfl)) dX9_rebuild_78 ⟨Nat.le_of_ble_eq_true rfl, Nat.le_of_ble_eq_true rfl⟩) (fun r_37 w1 H locs hw hP hD hS => ?_)
      obtain ⟨rfl, hv_38⟩ := hw
      have hP : va_P g.1 vwCl [(m18, ai g 7 (upd (upd (upd (upd fh 6 (nI (rt a0 a1 a2 a3))) 4 (nI wv_17)) 5 (nI wv_24)) 2 (nI wv_32))), (m19, ai g 4 fs), (k0, .inr (9, [.ref m0, .int s1, .int s2, .int s3, .int s4, .int s5, .int s6, .ref m7, .ref m8, .ref m9, .int s10, .int s11, .int s12, .ref m13, .ref m14, .ref m15, .int s16, .ref m17, .ref m18, .ref m19, .ref m20, .ref m21, .ref m22, .ref m23, .ref m24, .ref m25, .ref m26, .ref m27, .ref m28, .int s29, .ref m30, .int s31, .int s32, .int s33, .int s34, .int s35, .ref m36, .ref m37, .ref m38, .ref m39, .long s40])), (m17, ai g 63 gc_2)] H := hP
      have hD : va_D A [(m18, ai g 7 (upd (upd (upd (upd fh 6 (nI (rt a0 a1 a2 a3))) 4 (nI wv_17)) 5 (nI wv_24)) 2 (nI wv_32))), (m19, ai g 4 fs), (k0, .inr (9, [.ref m0, .int s1, .int s2, .int s3, .int s4, .int s5, .int s6, .ref m7, .ref m8, .ref m9, .int s10, .int s11, .int s12, .ref m13, .ref m14, .ref m15, .int s16, .ref m17, .ref m18, .ref m19, .ref m20, .ref m21, .ref m22, .ref m23, .ref m24, .ref m25, .ref m26, .ref m27, .ref m28, .int s29, .ref m30, .int s31, .int s32, .int s33, .int s34, .int s35, .ref m36, .ref m37, .ref m38, .ref m39, .long s40])), (m17, ai g 63 gc_2)] := hD
      obtain ⟨wv_39, hwv_39, ewv_39⟩ := hv_38
      subst ewv_39
      refine k_ast (x := (nI wv_39)) 3 (by decide) (by decide) hx hb hE hP hD hS 0 rfl (by decide) dX9_rebuild_81 (fun H locs hP hD hS => ?_)
      have hP : va_P g.1 vwCl [(m18, ai g 7 (upd (upd (upd (upd (upd fh 6 (nI (rt a0 a1 a2 a3))) 4 (nI wv_17)) 5 (nI wv_24)) 2 (nI wv_32)) 3 (nI wv_39))), (m19, ai g 4 fs), (k0, .inr (9, [.ref m0, .int s1, .int s2, .int s3, .int s4, .int s5, .int s6, .ref m7, .ref m8, .ref m9, .int s10, .int s11, .int s12, .ref m13, .ref m14, .ref m15, .int s16, .ref m17, .ref m18, .ref m19, .ref m20, .ref m21, .ref m22, .ref m23, .ref m24, .ref m25, .ref m26, .ref m27, .ref m28, .int s29, .ref m30, .int s31, .int s32, .int s33, .int s34, .int s35, .ref m36, .ref m37, .ref m38, .ref m39, .long s40])), (m17, ai g 63 gc_2)] H := hP
      have hD : va_D A [(m18, ai g 7 (upd (upd (upd (upd (upd fh 6 (nI (rt a0 a1 a2 a3))) 4 (nI wv_17)) 5 (nI wv_24)) 2 (nI wv_32)) 3 (nI wv_39))), (m19, ai g 4 fs), (k0, .inr (9, [.ref m0, .int s1, .int s2, .int s3, .int s4, .int s5, .int s6, .ref m7, .ref m8, .ref m9, .int s10, .int s11, .int s12, .ref m13, .ref m14, .ref m15, .int s16, .ref m17, .ref m18, .ref m19, .ref m20, .ref m21, .ref m22, .ref m23, .ref m24, .ref m25, .ref m26, .ref m27, .ref m28, .int s29, .ref m30, .int s31, .int s32, .int s33, .int s34, .int s35, .ref m36, .ref m37, .ref m38, .ref m39, .long s40])), (m17, ai g 63 gc_2)] := hD
      refine lv_iinc (v := 4) (lv' := [(3, .int 4), (2, .int 6), (0, .ref k0), (1, .int 4)]) hx hb dX9_rebuild_82 hl (k := 0) rfl (by decide) (by decide) rfl (fun ls hl => ?_)
      refine lv_goto (tgt := 27) hx hb dX9_rebuild_85 (by decide) ?_
      refine lv_iload_n hx hb dX9_rebuild_27 rfl (lv_at hl 0 rfl) ?_
      refine lv_iload_n hx hb dX9_rebuild_28 rfl (lv_at hl 3 rfl) ?_
      refine lv_icmp_lt (tgt := 88) hx hb dX9_rebuild_29 (by decide) (fun c29_40 => ?_) (fun c29_40 => ?_)
      · exact absurd c29_40 (by decide)
      · skip
        refine lv_aload_n hx hb dX9_rebuild_32 rfl (lv_at hl 2 rfl) ?_
        refine va_get (D := g.1) (ci := 9) (v := .ref m18) (C := RX9) (T := TX9) (N := 41) hx hb hts q_X9_rebuild_4_f9 hown hE.1 hP 2 rfl rfl 18 (by decide) (hts (.fieldLink RX9 34 "SoundLawsModel" "had" "[I") q_X9_rebuild_4_1) (fun _ h9 => h9) rfl dX9_rebuild_33 ?_
        refine lv_iload_n hx hb dX9_rebuild_36 rfl (lv_at hl 3 rfl) ?_
        refine lv_iload_n hx hb dX9_rebuild_37 rfl (lv_at hl 0 rfl) ?_
        refine k_ci (wr := [(m18, ai g 7 (upd (upd (upd (upd (upd fh 6 (nI (rt a0 a1 a2 a3))) 4 (nI wv_17)) 5 (nI wv_24)) 2 (nI wv_32)) 3 (nI wv_39))), (m19, ai g 4 fs), (k0, .inr (9, [.ref m0, .int s1, .int s2, .int s3, .int s4, .int s5, .int s6, .ref m7, .ref m8, .ref m9, .int s10, .int s11, .int s12, .ref m13, .ref m14, .ref m15, .int s16, .ref m17, .ref m18, .ref m19, .ref m20, .ref m21, .ref m22, .ref m23, .ref m24, .ref m25, .ref m26, .ref m27, .ref m28, .int s29, .ref m30, .int s31, .int s32, .int s33, .int s34, .int s35, .ref m36, .ref m37, .ref m38, .ref m39, .long s40])), (m17, ai g 63 gc_2)]) hP hD hS hA [] [0, 1, 2, 3] rfl rfl (by decide) (by decide) (va_runS (As := [.int 4, .int 4]) (rest := [.ref m18]) ⟨hx, hb, hml, hown, hts⟩ (c_X9_belowFirst_4 l g   H.size) (va_cwS 2 hts gX9_rebuild_X9_belowFirst rfl rfl rfl (by decide +kernel) ⟨Nat.le_of_ble_eq_true rfl, Nat.le_of_ble_eq_true rfl⟩) (k_preS hE hZ hP hD hS hA [] rfl (by decide)) rfl rfl hl.1 rfl (lv_room (Nat.le_of_ble_eq_true rfl)) dX9_rebuild_38 ⟨Nat.le_of_ble_eq_true rfl, Nat.le_of_ble_eq_true rfl⟩) (fun r_41 w1 H locs hw hP hD hS => ?_)
        obtain ⟨rfl, rfl⟩ := hw
        have hP : va_P g.1 vwCl [(m18, ai g 7 (upd (upd (upd (upd (upd fh 6 (nI (rt a0 a1 a2 a3))) 4 (nI wv_17)) 5 (nI wv_24)) 2 (nI wv_32)) 3 (nI wv_39))), (m19, ai g 4 fs), (k0, .inr (9, [.ref m0, .int s1, .int s2, .int s3, .int s4, .int s5, .int s6, .ref m7, .ref m8, .ref m9, .int s10, .int s11, .int s12, .ref m13, .ref m14, .ref m15, .int s16, .ref m17, .ref m18, .ref m19, .ref m20, .ref m21, .ref m22, .ref m23, .ref m24, .ref m25, .ref m26, .ref m27, .ref m28, .int s29, .ref m30, .int s31, .int s32, .int s33, .int s34, .int s35, .ref m36, .ref m37, .ref m38, .ref m39, .long s40])), (m17, ai g 63 gc_2)] H := hP
        have hD : va_D A [(m18, ai g 7 (upd (upd (upd (upd (upd fh 6 (nI (rt a0 a1 a2 a3))) 4 (nI wv_17)) 5 (nI wv_24)) 2 (nI wv_32)) 3 (nI wv_39))), (m19, ai g 4 fs), (k0, .inr (9, [.ref m0, .int s1, .int s2, .int s3, .int s4, .int s5, .int s6, .ref m7, .ref m8, .ref m9, .int s10, .int s11, .int s12, .ref m13, .ref m14, .ref m15, .int s16, .ref m17, .ref m18, .ref m19, .ref m20, .ref m21, .ref m22, .ref m23, .ref m24, .ref m25, .ref m26, .ref m27, .ref m28, .int s29, .ref m30, .int s31, .int s32, .int s33, .int s34, .int s35, .ref m36, .ref m37, .ref m38, .ref m39, .long s40])), (m17, ai g 63 gc_2)] := hD
        refine lv_aload_n hx hb dX9_rebuild_41 rfl (lv_at hl 2 rfl) ?_
        refine lv_iload_n hx hb dX9_rebuild_42 rfl (lv_at hl 3 rfl) ?_
        refine lv_iload_n hx hb dX9_rebuild_43 rfl (lv_at hl 0 rfl) ?_
        refine k_ci (wr := [(m18, ai g 7 (upd (upd (upd (upd (upd fh 6 (nI (rt a0 a1 a2 a3))) 4 (nI wv_17)) 5 (nI wv_24)) 2 (nI wv_32)) 3 (nI wv_39))), (m19, ai g 4 fs), (k0, .inr (9, [.ref m0, .int s1, .int s2, .int s3, .int s4, .int s5, .int s6, .ref m7, .ref m8, .ref m9, .int s10, .int s11, .int s12, .ref m13, .ref m14, .ref m15, .int s16, .ref m17, .ref m18, .ref m19, .ref m20, .ref m21, .ref m22, .ref m23, .ref m24, .ref m25, .ref m26, .ref m27, .ref m28, .int s29, .ref m30, .int s31, .int s32, .int s33, .int s34, .int s35, .ref m36, .ref m37, .ref m38, .ref m39, .long s40])), (m17, ai g 63 gc_2)]) hP hD hS hA [] [0, 1, 2, 3] rfl rfl (by decide) (by decide) (va_runS (As := [.int 4, .int 4]) (rest := [.ref k0, .int 0, .ref m18]) ⟨hx, hb, hml, hown, hts⟩ (c_X9_belowFirst_4 l g   H.size) (va_cwS 2 hts gX9_rebuild_X9_belowFirst rfl rfl rfl (by decide +kernel) ⟨Nat.le_of_ble_eq_true rfl, Nat.le_of_ble_eq_true rfl⟩) (k_preS hE hZ hP hD hS hA [] rfl (by decide)) rfl rfl hl.1 rfl (lv_room (Nat.le_of_ble_eq_true rfl)) dX9_rebuild_44 ⟨Nat.le_of_ble_eq_true rfl, Nat.le_of_ble_eq_true rfl⟩) (fun r_43 w1 H locs hw hP hD hS => ?_)
        obtain ⟨rfl, rfl⟩ := hw
        have hP : va_P g.1 vwCl [(m18, ai g 7 (upd (upd (upd (upd (upd fh 6 (nI (rt a0 a1 a2 a3))) 4 (nI wv_17)) 5 (nI wv_24)) 2 (nI wv_32)) 3 (nI wv_39))), (m19, ai g 4 fs), (k0, .inr (9, [.ref m0, .int s1, .int s2, .int s3, .int s4, .int s5, .int s6, .ref m7, .ref m8, .ref m9, .int s10, .int s11, .int s12, .ref m13, .ref m14, .ref m15, .int s16, .ref m17, .ref m18, .ref m19, .ref m20, .ref m21, .ref m22, .ref m23, .ref m24, .ref m25, .ref m26, .ref m27, .ref m28, .int s29, .ref m30, .int s31, .int s32, .int s33, .int s34, .int s35, .ref m36, .ref m37, .ref m38, .ref m39, .long s40])), (m17, ai g 63 gc_2)] H := hP
        have hD : va_D A [(m18, ai g 7 (upd (upd (upd (upd (upd fh 6 (nI (rt a0 a1 a2 a3))) 4 (nI wv_17)) 5 (nI wv_24)) 2 (nI wv_32)) 3 (nI wv_39))), (m19, ai g 4 fs), (k0, .inr (9, [.ref m0, .int s1, .int s2, .int s3, .int s4, .int s5, .int s6, .ref m7, .ref m8, .ref m9, .int s10, .int s11, .int s12, .ref m13, .ref m14, .ref m15, .int s16, .ref m17, .ref m18, .ref m19, .ref m20, .ref m21, .ref m22, .ref m23, .ref m24, .ref m25, .ref m26, .ref m27, .ref m28, .int s29, .ref m30, .int s31, .int s32, .int s33, .int s34, .int s35, .ref m36, .ref m37, .ref m38, .ref m39, .long s40])), (m17, ai g 63 gc_2)] := hD
        refine lv_aload_n hx hb dX9_rebuild_47 rfl (lv_at hl 2 rfl) ?_
        refine va_get (D := g.1) (ci := 9) (v := .ref m18) (C := RX9) (T := TX9) (N := 41) hx hb hts q_X9_rebuild_4_f9 hown hE.1 hP 2 rfl rfl 18 (by decide) (hts (.fieldLink RX9 34 "SoundLawsModel" "had" "[I") q_X9_rebuild_4_1) (fun _ h9 => h9) rfl dX9_rebuild_48 ?_
        refine lv_iload_n hx hb dX9_rebuild_51 rfl (lv_at hl 0 rfl) ?_
        refine k_ald 4 (by decide) (by decide) hx hb hE hP 0 rfl (by decide) dX9_rebuild_52 ?_
        refine k_ci (wr := [(m18, ai g 7 (upd (upd (upd (upd (upd fh 6 (nI (rt a0 a1 a2 a3))) 4 (nI wv_17)) 5 (nI wv_24)) 2 (nI wv_32)) 3 (nI wv_39))), (m19, ai g 4 fs)]) hP hD hS hA [2, 3] [0, 1] rfl rfl (by decide) (by decide) (va_runV (As := [.int 0, .int ((upd (upd (upd (upd (upd fh 6 (nI (rt a0 a1 a2 a3))) 4 (nI wv_17)) 5 (nI wv_24)) 2 (nI wv_32)) 3 (nI wv_39)) 4)]) (rest := [.int 0, .ref m18]) ⟨hx, hb, hml, hown, hts⟩ (c_X9_leastSound_g l g k0 m0 s1 s2 s3 s4 s5 s6 m7 m8 m9 s10 s11 s12 m13 m14 m15 s16 m17 m18 m19 m20 m21 m22 m23 m24 m25 m26 m27 m28 s29 m30 s31 s32 s33 s34 s35 m36 m37 m38 m39 s40 gc_2 0 ((upd (upd (upd (upd (upd fh 6 (nI (rt a0 a1 a2 a3))) 4 (nI wv_17)) 5 (nI wv_24)) 2 (nI wv_32)) 3 (nI wv_39)) 4) (by decide) H.size) (cwV 2 hts gX9_rebuild_X9_leastSound rfl rfl rfl (by decide +kernel) ⟨Nat.le_of_ble_eq_true rfl, Nat.le_of_ble_eq_true rfl⟩) (k_preV hE hZ hP hD hS hA [2, 3] rfl (by decide) (va_recv hE.1 hP (ci := 9) (q0 := 2) rfl rfl)) rfl rfl hl.1 rfl (lv_room (Nat.le_of_ble_eq_true rfl)) dX9_rebuild_53 ⟨Nat.le_of_ble_eq_true rfl, Nat.le_of_ble_eq_true rfl⟩) (fun r_45 w1 H locs hw hP hD hS => ?_)
        obtain ⟨rfl, hv_46⟩ := hw
        have hP : va_P g.1 vwCl [(m18, ai g 7 (upd (upd (upd (upd (upd fh 6 (nI (rt a0 a1 a2 a3))) 4 (nI wv_17)) 5 (nI wv_24)) 2 (nI wv_32)) 3 (nI wv_39))), (m19, ai g 4 fs), (k0, .inr (9, [.ref m0, .int s1, .int s2, .int s3, .int s4, .int s5, .int s6, .ref m7, .ref m8, .ref m9, .int s10, .int s11, .int s12, .ref m13, .ref m14, .ref m15, .int s16, .ref m17, .ref m18, .ref m19, .ref m20, .ref m21, .ref m22, .ref m23, .ref m24, .ref m25, .ref m26, .ref m27, .ref m28, .int s29, .ref m30, .int s31, .int s32, .int s33, .int s34, .int s35, .ref m36, .ref m37, .ref m38, .ref m39, .long s40])), (m17, ai g 63 gc_2)] H := hP
        have hD : va_D A [(m18, ai g 7 (upd (upd (upd (upd (upd fh 6 (nI (rt a0 a1 a2 a3))) 4 (nI wv_17)) 5 (nI wv_24)) 2 (nI wv_32)) 3 (nI wv_39))), (m19, ai g 4 fs), (k0, .inr (9, [.ref m0, .int s1, .int s2, .int s3, .int s4, .int s5, .int s6, .ref m7, .ref m8, .ref m9, .int s10, .int s11, .int s12, .ref m13, .ref m14, .ref m15, .int s16, .ref m17, .ref m18, .ref m19, .ref m20, .ref m21, .ref m22, .ref m23, .ref m24, .ref m25, .ref m26, .ref m27, .ref m28, .int s29, .ref m30, .int s31, .int s32, .int s33, .int s34, .int s35, .ref m36, .ref m37, .ref m38, .ref m39, .long s40])), (m17, ai g 63 gc_2)] := hD
        obtain ⟨wv_47, hwv_47, ewv_47⟩ := hv_46
        subst ewv_47
        refine k_ast (x := (nI wv_47)) 0 (by decide) (by decide) hx hb hE hP hD hS 0 rfl (by decide) dX9_rebuild_56 (fun H locs hP hD hS => ?_)
        have hP : va_P g.1 vwCl [(m18, ai g 7 (upd (upd (upd (upd (upd (upd fh 6 (nI (rt a0 a1 a2 a3))) 4 (nI wv_17)) 5 (nI wv_24)) 2 (nI wv_32)) 3 (nI wv_39)) 0 (nI wv_47))), (m19, ai g 4 fs), (k0, .inr (9, [.ref m0, .int s1, .int s2, .int s3, .int s4, .int s5, .int s6, .ref m7, .ref m8, .ref m9, .int s10, .int s11, .int s12, .ref m13, .ref m14, .ref m15, .int s16, .ref m17, .ref m18, .ref m19, .ref m20, .ref m21, .ref m22, .ref m23, .ref m24, .ref m25, .ref m26, .ref m27, .ref m28, .int s29, .ref m30, .int s31, .int s32, .int s33, .int s34, .int s35, .ref m36, .ref m37, .ref m38, .ref m39, .long s40])), (m17, ai g 63 gc_2)] H := hP
        have hD : va_D A [(m18, ai g 7 (upd (upd (upd (upd (upd (upd fh 6 (nI (rt a0 a1 a2 a3))) 4 (nI wv_17)) 5 (nI wv_24)) 2 (nI wv_32)) 3 (nI wv_39)) 0 (nI wv_47))), (m19, ai g 4 fs), (k0, .inr (9, [.ref m0, .int s1, .int s2, .int s3, .int s4, .int s5, .int s6, .ref m7, .ref m8, .ref m9, .int s10, .int s11, .int s12, .ref m13, .ref m14, .ref m15, .int s16, .ref m17, .ref m18, .ref m19, .ref m20, .ref m21, .ref m22, .ref m23, .ref m24, .ref m25, .ref m26, .ref m27, .ref m28, .int s29, .ref m30, .int s31, .int s32, .int s33, .int s34, .int s35, .ref m36, .ref m37, .ref m38, .ref m39, .long s40])), (m17, ai g 63 gc_2)] := hD
        refine lv_aload_n hx hb dX9_rebuild_57 rfl (lv_at hl 2 rfl) ?_
        refine va_get (D := g.1) (ci := 9) (v := .ref m18) (C := RX9) (T := TX9) (N := 41) hx hb hts q_X9_rebuild_4_f9 hown hE.1 hP 2 rfl rfl 18 (by decide) (hts (.fieldLink RX9 34 "SoundLawsModel" "had" "[I") q_X9_rebuild_4_1) (fun _ h9 => h9) rfl dX9_rebuild_58 ?_
        refine lv_iload_n hx hb dX9_rebuild_61 rfl (lv_at hl 3 rfl) ?_
        refine lv_iload_n hx hb dX9_rebuild_62 rfl (lv_at hl 0 rfl) ?_
        refine k_ci (wr := [(m18, ai g 7 (upd (upd (upd (upd (upd (upd fh 6 (nI (rt a0 a1 a2 a3))) 4 (nI wv_17)) 5 (nI wv_24)) 2 (nI wv_32)) 3 (nI wv_39)) 0 (nI wv_47))), (m19, ai g 4 fs), (k0, .inr (9, [.ref m0, .int s1, .int s2, .int s3, .int s4, .int s5, .int s6, .ref m7, .ref m8, .ref m9, .int s10, .int s11, .int s12, .ref m13, .ref m14, .ref m15, .int s16, .ref m17, .ref m18, .ref m19, .ref m20, .ref m21, .ref m22, .ref m23, .ref m24, .ref m25, .ref m26, .ref m27, .ref m28, .int s29, .ref m30, .int s31, .int s32, .int s33, .int s34, .int s35, .ref m36, .ref m37, .ref m38, .ref m39, .long s40])), (m17, ai g 63 gc_2)]) hP hD hS hA [] [0, 1, 2, 3] rfl rfl (by decide) (by decide) (va_runS (As := [.int 4, .int 4]) (rest := [.ref m18]) ⟨hx, hb, hml, hown, hts⟩ (c_X9_belowSecond_4 l g   H.size) (va_cwS 2 hts gX9_rebuild_X9_belowSecond rfl rfl rfl (by decide +kernel) ⟨Nat.le_of_ble_eq_true rfl, Nat.le_of_ble_eq_true rfl⟩) (k_preS hE hZ hP hD hS hA [] rfl (by decide)) rfl rfl hl.1 rfl (lv_room (Nat.le_of_ble_eq_true rfl)) dX9_rebuild_63 ⟨Nat.le_of_ble_eq_true rfl, Nat.le_of_ble_eq_true rfl⟩) (fun r_48 w1 H locs hw hP hD hS => ?_)
        obtain ⟨rfl, rfl⟩ := hw
        have hP : va_P g.1 vwCl [(m18, ai g 7 (upd (upd (upd (upd (upd (upd fh 6 (nI (rt a0 a1 a2 a3))) 4 (nI wv_17)) 5 (nI wv_24)) 2 (nI wv_32)) 3 (nI wv_39)) 0 (nI wv_47))), (m19, ai g 4 fs), (k0, .inr (9, [.ref m0, .int s1, .int s2, .int s3, .int s4, .int s5, .int s6, .ref m7, .ref m8, .ref m9, .int s10, .int s11, .int s12, .ref m13, .ref m14, .ref m15, .int s16, .ref m17, .ref m18, .ref m19, .ref m20, .ref m21, .ref m22, .ref m23, .ref m24, .ref m25, .ref m26, .ref m27, .ref m28, .int s29, .ref m30, .int s31, .int s32, .int s33, .int s34, .int s35, .ref m36, .ref m37, .ref m38, .ref m39, .long s40])), (m17, ai g 63 gc_2)] H := hP
        have hD : va_D A [(m18, ai g 7 (upd (upd (upd (upd (upd (upd fh 6 (nI (rt a0 a1 a2 a3))) 4 (nI wv_17)) 5 (nI wv_24)) 2 (nI wv_32)) 3 (nI wv_39)) 0 (nI wv_47))), (m19, ai g 4 fs), (k0, .inr (9, [.ref m0, .int s1, .int s2, .int s3, .int s4, .int s5, .int s6, .ref m7, .ref m8, .ref m9, .int s10, .int s11, .int s12, .ref m13, .ref m14, .ref m15, .int s16, .ref m17, .ref m18, .ref m19, .ref m20, .ref m21, .ref m22, .ref m23, .ref m24, .ref m25, .ref m26, .ref m27, .ref m28, .int s29, .ref m30, .int s31, .int s32, .int s33, .int s34, .int s35, .ref m36, .ref m37, .ref m38, .ref m39, .long s40])), (m17, ai g 63 gc_2)] := hD
        refine lv_aload_n hx hb dX9_rebuild_66 rfl (lv_at hl 2 rfl) ?_
        refine lv_iload_n hx hb dX9_rebuild_67 rfl (lv_at hl 3 rfl) ?_
        refine lv_iload_n hx hb dX9_rebuild_68 rfl (lv_at hl 0 rfl) ?_
        refine k_ci (wr := [(m18, ai g 7 (upd (upd (upd (upd (upd (upd fh 6 (nI (rt a0 a1 a2 a3))) 4 (nI wv_17)) 5 (nI wv_24)) 2 (nI wv_32)) 3 (nI wv_39)) 0 (nI wv_47))), (m19, ai g 4 fs), (k0, .inr (9, [.ref m0, .int s1, .int s2, .int s3, .int s4, .int s5, .int s6, .ref m7, .ref m8, .ref m9, .int s10, .int s11, .int s12, .ref m13, .ref m14, .ref m15, .int s16, .ref m17, .ref m18, .ref m19, .ref m20, .ref m21, .ref m22, .ref m23, .ref m24, .ref m25, .ref m26, .ref m27, .ref m28, .int s29, .ref m30, .int s31, .int s32, .int s33, .int s34, .int s35, .ref m36, .ref m37, .ref m38, .ref m39, .long s40])), (m17, ai g 63 gc_2)]) hP hD hS hA [] [0, 1, 2, 3] rfl rfl (by decide) (by decide) (va_runS (As := [.int 4, .int 4]) (rest := [.ref k0, .int 1, .ref m18]) ⟨hx, hb, hml, hown, hts⟩ (c_X9_belowSecond_4 l g   H.size) (va_cwS 2 hts gX9_rebuild_X9_belowSecond rfl rfl rfl (by decide +kernel) ⟨Nat.le_of_ble_eq_true rfl, Nat.le_of_ble_eq_true rfl⟩) (k_preS hE hZ hP hD hS hA [] rfl (by decide)) rfl rfl hl.1 rfl (lv_room (Nat.le_of_ble_eq_true rfl)) dX9_rebuild_69 ⟨Nat.le_of_ble_eq_true rfl, Nat.le_of_ble_eq_true rfl⟩) (fun r_50 w1 H locs hw hP hD hS => ?_)
        obtain ⟨rfl, rfl⟩ := hw
        have hP : va_P g.1 vwCl [(m18, ai g 7 (upd (upd (upd (upd (upd (upd fh 6 (nI (rt a0 a1 a2 a3))) 4 (nI wv_17)) 5 (nI wv_24)) 2 (nI wv_32)) 3 (nI wv_39)) 0 (nI wv_47))), (m19, ai g 4 fs), (k0, .inr (9, [.ref m0, .int s1, .int s2, .int s3, .int s4, .int s5, .int s6, .ref m7, .ref m8, .ref m9, .int s10, .int s11, .int s12, .ref m13, .ref m14, .ref m15, .int s16, .ref m17, .ref m18, .ref m19, .ref m20, .ref m21, .ref m22, .ref m23, .ref m24, .ref m25, .ref m26, .ref m27, .ref m28, .int s29, .ref m30, .int s31, .int s32, .int s33, .int s34, .int s35, .ref m36, .ref m37, .ref m38, .ref m39, .long s40])), (m17, ai g 63 gc_2)] H := hP
        have hD : va_D A [(m18, ai g 7 (upd (upd (upd (upd (upd (upd fh 6 (nI (rt a0 a1 a2 a3))) 4 (nI wv_17)) 5 (nI wv_24)) 2 (nI wv_32)) 3 (nI wv_39)) 0 (nI wv_47))), (m19, ai g 4 fs), (k0, .inr (9, [.ref m0, .int s1, .int s2, .int s3, .int s4, .int s5, .int s6, .ref m7, .ref m8, .ref m9, .int s10, .int s11, .int s12, .ref m13, .ref m14, .ref m15, .int s16, .ref m17, .ref m18, .ref m19, .ref m20, .ref m21, .ref m22, .ref m23, .ref m24, .ref m25, .ref m26, .ref m27, .ref m28, .int s29, .ref m30, .int s31, .int s32, .int s33, .int s34, .int s35, .ref m36, .ref m37, .ref m38, .ref m39, .long s40])), (m17, ai g 63 gc_2)] := hD
        refine lv_aload_n hx hb dX9_rebuild_72 rfl (lv_at hl 2 rfl) ?_
        refine va_get (D := g.1) (ci := 9) (v := .ref m18) (C := RX9) (T := TX9) (N := 41) hx hb hts q_X9_rebuild_4_f9 hown hE.1 hP 2 rfl rfl 18 (by decide) (hts (.fieldLink RX9 34 "SoundLawsModel" "had" "[I") q_X9_rebuild_4_1) (fun _ h9 => h9) rfl dX9_rebuild_73 ?_
        refine lv_iload_n hx hb dX9_rebuild_76 rfl (lv_at hl 0 rfl) ?_
        refine k_ald 4 (by decide) (by decide) hx hb hE hP 0 rfl (by decide) dX9_rebuild_77 ?_
        refine k_ci (wr := [(m18, ai g 7 (upd (upd (upd (upd (upd (upd fh 6 (nI (rt a0 a1 a2 a3))) 4 (nI wv_17)) 5 (nI wv_24)) 2 (nI wv_32)) 3 (nI wv_39)) 0 (nI wv_47))), (m19, ai g 4 fs)]) hP hD hS hA [2, 3] [0, 1] rfl rfl (by decide) (by decide) (va_runV (As := [.int 1, .int ((upd (upd (upd (upd (upd (upd fh 6 (nI (rt a0 a1 a2 a3))) 4 (nI wv_17)) 5 (nI wv_24)) 2 (nI wv_32)) 3 (nI wv_39)) 0 (nI wv_47)) 4)]) (rest := [.int 1, .ref m18]) ⟨hx, hb, hml, hown, hts⟩ (c_X9_leastSound_g l g k0 m0 s1 s2 s3 s4 s5 s6 m7 m8 m9 s10 s11 s12 m13 m14 m15 s16 m17 m18 m19 m20 m21 m22 m23 m24 m25 m26 m27 m28 s29 m30 s31 s32 s33 s34 s35 m36 m37 m38 m39 s40 gc_2 1 ((upd (upd (upd (upd (upd (upd fh 6 (nI (rt a0 a1 a2 a3))) 4 (nI wv_17)) 5 (nI wv_24)) 2 (nI wv_32)) 3 (nI wv_39)) 0 (nI wv_47)) 4) (by decide) H.size) (cwV 2 hts gX9_rebuild_X9_leastSound rfl rfl rfl (by decide +kernel) ⟨Nat.le_of_ble_eq_true rfl, Nat.le_of_ble_eq_true rfl⟩) (k_preV hE hZ hP hD hS hA [2, 3] rfl (by decide) (va_recv hE.1 hP (ci := 9) (q0 := 2) rfl rfl)) rfl rfl hl.1 rfl (lv_room (Nat.le_of_ble_eq_true rfl)) dX9_rebuild_78 ⟨Nat.le_of_ble_eq_true rfl, Nat.le_of_ble_eq_true rfl⟩) (fun r_52 w1 H locs hw hP hD hS => ?_)
        obtain ⟨rfl, hv_53⟩ := hw
        have hP : va_P g.1 vwCl [(m18, ai g 7 (upd (upd (upd (upd (upd (upd fh 6 (nI (rt a0 a1 a2 a3))) 4 (nI wv_17)) 5 (nI wv_24)) 2 (nI wv_32)) 3 (nI wv_39)) 0 (nI wv_47))), (m19, ai g 4 fs), (k0, .inr (9, [.ref m0, .int s1, .int s2, .int s3, .int s4, .int s5, .int s6, .ref m7, .ref m8, .ref m9, .int s10, .int s11, .int s12, .ref m13, .ref m14, .ref m15, .int s16, .ref m17, .ref m18, .ref m19, .ref m20, .ref m21, .ref m22, .ref m23, .ref m24, .ref m25, .ref m26, .ref m27, .ref m28, .int s29, .ref m30, .int s31, .int s32, .int s33, .int s34, .int s35, .ref m36, .ref m37, .ref m38, .ref m39, .long s40])), (m17, ai g 63 gc_2)] H := hP
        have hD : va_D A [(m18, ai g 7 (upd (upd (upd (upd (upd (upd fh 6 (nI (rt a0 a1 a2 a3))) 4 (nI wv_17)) 5 (nI wv_24)) 2 (nI wv_32)) 3 (nI wv_39)) 0 (nI wv_47))), (m19, ai g 4 fs), (k0, .inr (9, [.ref m0, .int s1, .int s2, .int s3, .int s4, .int s5, .int s6, .ref m7, .ref m8, .ref m9, .int s10, .int s11, .int s12, .ref m13, .ref m14, .ref m15, .int s16, .ref m17, .ref m18, .ref m19, .ref m20, .ref m21, .ref m22, .ref m23, .ref m24, .ref m25, .ref m26, .ref m27, .ref m28, .int s29, .ref m30, .int s31, .int s32, .int s33, .int s34, .int s35, .ref m36, .ref m37, .ref m38, .ref m39, .long s40])), (m17, ai g 63 gc_2)] := hD
        obtain ⟨wv_54, hwv_54, ewv_54⟩ := hv_53
        subst ewv_54
        refine k_ast (x := (nI wv_54)) 1 (by decide) (by decide) hx hb hE hP hD hS 0 rfl (by decide) dX9_rebuild_81 (fun H locs hP hD hS => ?_)
        have hP : va_P g.1 vwCl [(m18, ai g 7 (upd (upd (upd (upd (upd (upd (upd fh 6 (nI (rt a0 a1 a2 a3))) 4 (nI wv_17)) 5 (nI wv_24)) 2 (nI wv_32)) 3 (nI wv_39)) 0 (nI wv_47)) 1 (nI wv_54))), (m19, ai g 4 fs), (k0, .inr (9, [.ref m0, .int s1, .int s2, .int s3, .int s4, .int s5, .int s6, .ref m7, .ref m8, .ref m9, .int s10, .int s11, .int s12, .ref m13, .ref m14, .ref m15, .int s16, .ref m17, .ref m18, .ref m19, .ref m20, .ref m21, .ref m22, .ref m23, .ref m24, .ref m25, .ref m26, .ref m27, .ref m28, .int s29, .ref m30, .int s31, .int s32, .int s33, .int s34, .int s35, .ref m36, .ref m37, .ref m38, .ref m39, .long s40])), (m17, ai g 63 gc_2)] H := hP
        have hD : va_D A [(m18, ai g 7 (upd (upd (upd (upd (upd (upd (upd fh 6 (nI (rt a0 a1 a2 a3))) 4 (nI wv_17)) 5 (nI wv_24)) 2 (nI wv_32)) 3 (nI wv_39)) 0 (nI wv_47)) 1 (nI wv_54))), (m19, ai g 4 fs), (k0, .inr (9, [.ref m0, .int s1, .int s2, .int s3, .int s4, .int s5, .int s6, .ref m7, .ref m8, .ref m9, .int s10, .int s11, .int s12, .ref m13, .ref m14, .ref m15, .int s16, .ref m17, .ref m18, .ref m19, .ref m20, .ref m21, .ref m22, .ref m23, .ref m24, .ref m25, .ref m26, .ref m27, .ref m28, .int s29, .ref m30, .int s31, .int s32, .int s33, .int s34, .int s35, .ref m36, .ref m37, .ref m38, .ref m39, .long s40])), (m17, ai g 63 gc_2)] := hD
        refine lv_iinc (v := 3) (lv' := [(3, .int 3), (2, .int 6), (0, .ref k0), (1, .int 4)]) hx hb dX9_rebuild_82 hl (k := 0) rfl (by decide) (by decide) rfl (fun ls hl => ?_)
        refine lv_goto (tgt := 27) hx hb dX9_rebuild_85 (by decide) ?_
        refine lv_iload_n hx hb dX9_rebuild_27 rfl (lv_at hl 0 rfl) ?_
        refine lv_iload_n hx hb dX9_rebuild_28 rfl (lv_at hl 3 rfl) ?_
        refine lv_icmp_lt (tgt := 88) hx hb dX9_rebuild_29 (by decide) (fun c29_55 => ?_) (fun c29_55 => ?_)
        · skip
          refine lv_aload_n hx hb dX9_rebuild_88 rfl (lv_at hl 2 rfl) ?_
          refine va_get (D := g.1) (ci := 9) (v := .ref m17) (C := RX9) (T := TX9) (N := 41) hx hb hts q_X9_rebuild_4_f9 hown hE.1 hP 2 rfl rfl 17 (by decide) (hts (.fieldLink RX9 31 "SoundLawsModel" "costs" "[I") q_X9_rebuild_4_2) (fun _ h9 => h9) rfl dX9_rebuild_89 ?_
          refine lv_bipush (v := 9) hx hb dX9_rebuild_92 (by decide) ?_
          refine lv_iload_n hx hb dX9_rebuild_94 rfl (lv_at hl 1 rfl) ?_
          refine lv_imul hx hb dX9_rebuild_95 ?_
          refine lv_topi (fun x_56 ex_56 => ?_)
          obtain rfl : x_56 = 54 := ex_56.trans (by decide)
          refine lv_aload_n hx hb dX9_rebuild_96 rfl (lv_at hl 2 rfl) ?_
          refine va_get (D := g.1) (ci := 9) (v := .ref m18) (C := RX9) (T := TX9) (N := 41) hx hb hts q_X9_rebuild_4_f9 hown hE.1 hP 2 rfl rfl 18 (by decide) (hts (.fieldLink RX9 34 "SoundLawsModel" "had" "[I") q_X9_rebuild_4_1) (fun _ h9 => h9) rfl dX9_rebuild_97 ?_
          refine lv_iload_n hx hb dX9_rebuild_100 rfl (lv_at hl 1 rfl) ?_
          refine k_ald 6 (by decide) (by decide) hx hb hE hP 0 rfl (by decide) dX9_rebuild_101 ?_
          refine lv_topi (fun x_57 ex_57 => ?_)
          obtain rfl : x_57 = nI (rt a0 a1 a2 a3) := by rw [ex_57]; rfl
          refine lv_iadd hx hb dX9_rebuild_102 ?_
          refine k_ald (54 + rt a0 a1 a2 a3) (by rw [show (54 : Int32) = nI 54 from rfl, nI_add]) (by have h8 : rt a0 a1 a2 a3 ≤ 8 := am_le _ 8; omega) hx hb hE hP 3 rfl (by decide) dX9_rebuild_103 ?_
          refine W.widen (k := 0) (n := 0) (Nat.le_of_ble_eq_true rfl) (Nat.le_of_ble_eq_true rfl) ?_
          have hP9 := hP.sub (ws' := [(k0, .inr (9, [.ref m0, .int s1, .int s2, .int s3, .int s4, .int s5, .int s6, .ref m7, .ref m8, .ref m9, .int s10, .int s11, .int s12, .ref m13, .ref m14, .ref m15, .int s16, .ref m17, .ref m18, .ref m19, .ref m20, .ref m21, .ref m22, .ref m23, .ref m24, .ref m25, .ref m26, .ref m27, .ref m28, .int s29, .ref m30, .int s31, .int s32, .int s33, .int s34, .int s35, .ref m36, .ref m37, .ref m38, .ref m39, .long s40])), (m17, ai g 63 gc_2), (m18, ai g 7 (upd (upd (upd (upd (upd (upd (upd fh 6 (nI (rt a0 a1 a2 a3))) 4 (nI wv_17)) 5 (nI wv_24)) 2 (nI wv_32)) 3 (nI wv_39)) 0 (nI wv_47)) 1 (nI wv_54))), (m19, ai g 4 fs)]) [2, 3, 0, 1] rfl
          have hD9 := hD.sub (ws' := [(k0, .inr (9, [.ref m0, .int s1, .int s2, .int s3, .int s4, .int s5, .int s6, .ref m7, .ref m8, .ref m9, .int s10, .int s11, .int s12, .ref m13, .ref m14, .ref m15, .int s16, .ref m17, .ref m18, .ref m19, .ref m20, .ref m21, .ref m22, .ref m23, .ref m24, .ref m25, .ref m26, .ref m27, .ref m28, .int s29, .ref m30, .int s31, .int s32, .int s33, .int s34, .int s35, .ref m36, .ref m37, .ref m38, .ref m39, .long s40])), (m17, ai g 63 gc_2), (m18, ai g 7 (upd (upd (upd (upd (upd (upd (upd fh 6 (nI (rt a0 a1 a2 a3))) 4 (nI wv_17)) 5 (nI wv_24)) 2 (nI wv_32)) 3 (nI wv_39)) 0 (nI wv_47)) 1 (nI wv_54))), (m19, ai g 4 fs)]) [2, 3, 0, 1] (by decide) rfl
          exact k_ri hx hb hr hlocks hS hP9 hD9 ⟨gc_2, (upd (upd (upd (upd (upd (upd (upd fh 6 (nI (rt a0 a1 a2 a3))) 4 (nI wv_17)) 5 (nI wv_24)) 2 (nI wv_32)) 3 (nI wv_39)) 0 (nI wv_47)) 1 (nI wv_54)), rfl, (by have h8 : rt a0 a1 a2 a3 ≤ 8 := am_le _ 8; rw [hgc_3 (54 + rt a0 a1 a2 a3) (by omega), MpS (by omega), Sp6]; rfl), rfl, (rng_upd (rng_upd (rng_upd (rng_upd (rng_upd (rng_upd (rng_upd hh h9rt) hwv_17) hwv_24) hwv_32) hwv_39) hwv_47) hwv_54)⟩ dX9_rebuild_104
        · exact absurd c29_55 (by decide)
def po_X9_drawn_g (g : GG) (k0 : Nat) (m0 : Nat) (s1 : Int32) (s2 : Int32) (s3 : Int32) (s4 : Int32) (s5 : Int32) (s6 : Int32) (m7 : Nat) (m8 : Nat) (m9 : Nat) (s10 : Int32) (s11 : Int32) (s12 : Int32) (m13 : Nat) (m14 : Nat) (m15 : Nat) (s16 : Int32) (m17 : Nat) (m18 : Nat) (m19 : Nat) (m20 : Nat) (m21 : Nat) (m22 : Nat) (m23 : Nat) (m24 : Nat) (m25 : Nat) (m26 : Nat) (m27 : Nat) (m28 : Nat) (s29 : Int32) (m30 : Nat) (s31 : Int32) (s32 : Int32) (s33 : Int32) (s34 : Int32) (s35 : Int32) (m36 : Nat) (m37 : Nat) (m38 : Nat) (m39 : Nat) (s40 : Int64) (fc : Nat → Int32) (fs : Nat → Int32) (fh : Nat → Int32) (p1 : Int32) (p2 : Int32) (p3 : Int32) : Int32 → va_W → Prop := fun (r : Int32) w => ∃ (s31b : Int32) (fc2 : Nat → Int32) (fs2 : Nat → Int32) (fh2 : Nat → Int32), w = [(k0, .inr (9, [.ref m0, .int s1, .int s2, .int s3, .int s4, .int s5, .int s6, .ref m7, .ref m8, .ref m9, .int s10, .int s11, .int s12, .ref m13, .ref m14, .ref m15, .int s16, .ref m17, .ref m18, .ref m19, .ref m20, .ref m21, .ref m22, .ref m23, .ref m24, .ref m25, .ref m26, .ref m27, .ref m28, .int s29, .ref m30, .int s31b, .int s32, .int s33, .int s34, .int s35, .ref m36, .ref m37, .ref m38, .ref m39, .long s40])), (m17, ai g 63 fc2), (m18, ai g 7 fh2), (m19, ai g 4 fs2)] ∧ (rD p1 p2 p3 = r) ∧ (rng 7 9 fh2)
theorem q_X9_drawn_g_0 : (Cond.constantLong RX9 287 (40)) ∈ wsX9_drawn := by decide +kernel
theorem q_X9_drawn_g_1 : (Cond.constantLong RX9 221 (2)) ∈ wsX9_drawn := by decide +kernel
theorem q_X9_drawn_g_f9 : ∀ w ∈ u_ws RX9 TX9 41, w ∈ wsX9_drawn := by decide +kernel
theorem q_X9_drawn_g_3 : (Cond.fieldLink RX9 279 "SoundLawsModel" "seedNow" "I") ∈ wsX9_drawn := by decide +kernel
theorem q_X9_drawn_g_4 : (Cond.fieldLink RX9 37 "SoundLawsModel" "said" "[I") ∈ wsX9_drawn := by decide +kernel
theorem q_X9_drawn_g_5 : (Cond.fieldLink RX9 34 "SoundLawsModel" "had" "[I") ∈ wsX9_drawn := by decide +kernel
set_option maxHeartbeats 1500000 in
set_option maxRecDepth 100000 in
theorem c_X9_drawn_g (l : Launch) (g : GG) (k0 : Nat) (m0 : Nat) (s1 : Int32) (s2 : Int32) (s3 : Int32) (s4 : Int32) (s5 : Int32) (s6 : Int32) (m7 : Nat) (m8 : Nat) (m9 : Nat) (s10 : Int32) (s11 : Int32) (s12 : Int32) (m13 : Nat) (m14 : Nat) (m15 : Nat) (s16 : Int32) (m17 : Nat) (m18 : Nat) (m19 : Nat) (m20 : Nat) (m21 : Nat) (m22 : Nat) (m23 : Nat) (m24 : Nat) (m25 : Nat) (m26 : Nat) (m27 : Nat) (m28 : Nat) (s29 : Int32) (m30 : Nat) (s31 : Int32) (s32 : Int32) (s33 : Int32) (s34 : Int32) (s35 : Int32) (m36 : Nat) (m37 : Nat) (m38 : Nat) (m39 : Nat) (s40 : Int64) (fc : Nat → Int32) (fs : Nat → Int32) (fh : Nat → Int32) (p1 : Int32) (p2 : Int32) (p3 : Int32) (hh : rng 7 9 fh) (sz : Nat) : MetI l yX9_drawn wsX9_drawn ({ frames := 6, cells := 0, slots := 0, locals := 137 }) g [.ref k0, .int p1, .int p2, .int p3] [(k0, .inr (9, [.ref m0, .int s1, .int s2, .int s3, .int s4, .int s5, .int s6, .ref m7, .ref m8, .ref m9, .int s10, .int s11, .int s12, .ref m13, .ref m14, .ref m15, .int s16, .ref m17, .ref m18, .ref m19, .ref m20, .ref m21, .ref m22, .ref m23, .ref m24, .ref m25, .ref m26, .ref m27, .ref m28, .int s29, .ref m30, .int s31, .int s32, .int s33, .int s34, .int s35, .ref m36, .ref m37, .ref m38, .ref m39, .long s40])), (m17, ai g 63 fc), (m18, ai g 7 fh), (m19, ai g 4 fs)] sz (po_X9_drawn_g g k0 m0 s1 s2 s3 s4 s5 s6 m7 m8 m9 s10 s11 s12 m13 m14 m15 s16 m17 m18 m19 m20 m21 m22 m23 m24 m25 m26 m27 m28 s29 m30 s31 s32 s33 s34 s35 m36 m37 m38 m39 s40 fc fs fh p1 p2 p3) 0 0 := by
  refine k_of (l := l) (y := yX9_drawn) (ws := wsX9_drawn) (rm := { frames := 6, cells := 0, slots := 0, locals := 137 }) (mc := 0) (ms := 0) (av := [.ref k0, .int p1, .int p2, .int p3]) (g := g) (wc := [(k0, .inr (9, [.ref m0, .int s1, .int s2, .int s3, .int s4, .int s5, .int s6, .ref m7, .ref m8, .ref m9, .int s10, .int s11, .int s12, .ref m13, .ref m14, .ref m15, .int s16, .ref m17, .ref m18, .ref m19, .ref m20, .ref m21, .ref m22, .ref m23, .ref m24, .ref m25, .ref m26, .ref m27, .ref m28, .int s29, .ref m30, .int s31, .int s32, .int s33, .int s34, .int s35, .ref m36, .ref m37, .ref m38, .ref m39, .long s40])), (m17, ai g 63 fc), (m18, ai g 7 fh), (m19, ai g 4 fs)]) (Qc := fun A => va_Qi (po_X9_drawn_g g k0 m0 s1 s2 s3 s4 s5 s6 m7 m8 m9 s10 s11 s12 m13 m14 m15 s16 m17 m18 m19 m20 m21 m22 m23 m24 m25 m26 m27 m28 s29 m30 s31 s32 s33 s34 s35 m36 m37 m38 m39 s40 fc fs fh p1 p2 p3) (bk g A) A) (cc := cX9_drawn) (maxL := 9) (ret := (some .int)) (by decide) rfl (Nat.le_of_ble_eq_true rfl) ?_ sz
  intro p e s m below meth c hx hb hr hts hown hlocks hnm hml A hA hE hZ hP hD hS ls hl
  have hown : s.vm.findClass RX9 = some m.cls := hown
  have hl : lv_has ls 9 [(0, .ref k0), (1, .int p1), (2, .int p2), (3, .int p3)] := hl
  refine lv_iload_n hx hb dX9_drawn_0 rfl (lv_at hl 1 rfl) ?_
  refine lv_i2l hx hb dX9_drawn_1 rfl ?_
  refine lv_lconst (v := 1) hx hb dX9_drawn_2 (by decide) ?_
  refine lv_ldc2 hx hb hown (hts (.constantLong RX9 287 (40)) q_X9_drawn_g_0) dX9_drawn_3 ?_
  refine k_ci (wr := [(k0, .inr (9, [.ref m0, .int s1, .int s2, .int s3, .int s4, .int s5, .int s6, .ref m7, .ref m8, .ref m9, .int s10, .int s11, .int s12, .ref m13, .ref m14, .ref m15, .int s16, .ref m17, .ref m18, .ref m19, .ref m20, .ref m21, .ref m22, .ref m23, .ref m24, .ref m25, .ref m26, .ref m27, .ref m28, .int s29, .ref m30, .int s31, .int s32, .int s33, .int s34, .int s35, .ref m36, .ref m37, .ref m38, .ref m39, .long s40])), (m17, ai g 63 fc), (m18, ai g 7 fh), (m19, ai g 4 fs)]) hP hD hS hA [] [0, 1, 2, 3] rfl rfl (by decide) (by decide) (va_runS (As := [.long ((p1 : Int32).toInt64), .long 1, .long 40]) (rest := []) ⟨hx, hb, hml, hown, hts⟩ (c_X9_in l g ((p1 : Int32).toInt64) 1 40  s.heap.size) (va_cwS 3 hts gX9_drawn_X9_in rfl rfl rfl (by decide +kernel) ⟨Nat.le_of_ble_eq_true rfl, Nat.le_of_ble_eq_true rfl⟩) (k_preS hE hZ hP hD hS hA [] rfl (by decide)) rfl rfl hl.1 rfl (lv_room (Nat.le_of_ble_eq_true rfl)) dX9_drawn_6 ⟨Nat.le_of_ble_eq_true rfl, Nat.le_of_ble_eq_true rfl⟩) (fun r_1 w1 H locs hw hP hD hS => ?_)
  obtain ⟨rfl, rfl⟩ := hw
  have hP : va_P g.1 vwCl [(k0, .inr (9, [.ref m0, .int s1, .int s2, .int s3, .int s4, .int s5, .int s6, .ref m7, .ref m8, .ref m9, .int s10, .int s11, .int s12, .ref m13, .ref m14, .ref m15, .int s16, .ref m17, .ref m18, .ref m19, .ref m20, .ref m21, .ref m22, .ref m23, .ref m24, .ref m25, .ref m26, .ref m27, .ref m28, .int s29, .ref m30, .int s31, .int s32, .int s33, .int s34, .int s35, .ref m36, .ref m37, .ref m38, .ref m39, .long s40])), (m17, ai g 63 fc), (m18, ai g 7 fh), (m19, ai g 4 fs)] H := hP
  have hD : va_D A [(k0, .inr (9, [.ref m0, .int s1, .int s2, .int s3, .int s4, .int s5, .int s6, .ref m7, .ref m8, .ref m9, .int s10, .int s11, .int s12, .ref m13, .ref m14, .ref m15, .int s16, .ref m17, .ref m18, .ref m19, .ref m20, .ref m21, .ref m22, .ref m23, .ref m24, .ref m25, .ref m26, .ref m27, .ref m28, .int s29, .ref m30, .int s31, .int s32, .int s33, .int s34, .int s35, .ref m36, .ref m37, .ref m38, .ref m39, .long s40])), (m17, ai g 63 fc), (m18, ai g 7 fh), (m19, ai g 4 fs)] := hD
  refine lv_if_eq (tgt := 28) hx hb dX9_drawn_9 (by decide) (fun c9_3 => ?_) (fun c9_3 => ?_)
  · skip
    refine lv_bipush (v := (-102)) hx hb dX9_drawn_28 (by decide) ?_
    refine W.widen (k := 0) (n := 0) (Nat.le_of_ble_eq_true rfl) (Nat.le_of_ble_eq_true rfl) ?_
    exact k_ri hx hb hr hlocks hS hP hD ⟨s31, fc, fs, fh, rfl, (by unfold rD; rw [if_pos (by rcases in_eq (x := p1) (a := 1) (b := 40) c9_3 with h | h; exact Or.inl h; exact Or.inr (Or.inl h))]), hh⟩ dX9_drawn_30
  · skip
    refine lv_iload_n hx hb dX9_drawn_12 rfl (lv_at hl 2 rfl) ?_
    refine lv_if_lt (tgt := 28) hx hb dX9_drawn_13 (by decide) (fun c13_4 => ?_) (fun c13_4 => ?_)
    · skip
      refine lv_bipush (v := (-102)) hx hb dX9_drawn_28 (by decide) ?_
      refine W.widen (k := 0) (n := 0) (Nat.le_of_ble_eq_true rfl) (Nat.le_of_ble_eq_true rfl) ?_
      exact k_ri hx hb hr hlocks hS hP hD ⟨s31, fc, fs, fh, rfl, (by unfold rD; rw [if_pos (Or.inr (Or.inr (Or.inl c13_4)))]), hh⟩ dX9_drawn_30
    · skip
      refine lv_iload_n hx hb dX9_drawn_16 rfl (lv_at hl 3 rfl) ?_
      refine lv_i2l hx hb dX9_drawn_17 rfl ?_
      refine lv_lconst (v := 0) hx hb dX9_drawn_18 (by decide) ?_
      refine lv_ldc2 hx hb hown (hts (.constantLong RX9 221 (2)) q_X9_drawn_g_1) dX9_drawn_19 ?_
      refine k_ci (wr := [(k0, .inr (9, [.ref m0, .int s1, .int s2, .int s3, .int s4, .int s5, .int s6, .ref m7, .ref m8, .ref m9, .int s10, .int s11, .int s12, .ref m13, .ref m14, .ref m15, .int s16, .ref m17, .ref m18, .ref m19, .ref m20, .ref m21, .ref m22, .ref m23, .ref m24, .ref m25, .ref m26, .ref m27, .ref m28, .int s29, .ref m30, .int s31, .int s32, .int s33, .int s34, .int s35, .ref m36, .ref m37, .ref m38, .ref m39, .long s40])), (m17, ai g 63 fc), (m18, ai g 7 fh), (m19, ai g 4 fs)]) hP hD hS hA [] [0, 1, 2, 3] rfl rfl (by decide) (by decide) (va_runS (As := [.long ((p3 : Int32).toInt64), .long 0, .long 2]) (rest := []) ⟨hx, hb, hml, hown, hts⟩ (c_X9_in l g ((p3 : Int32).toInt64) 0 2  H.size) (va_cwS 3 hts gX9_drawn_X9_in rfl rfl rfl (by decide +kernel) ⟨Nat.le_of_ble_eq_true rfl, Nat.le_of_ble_eq_true rfl⟩) (k_preS hE hZ hP hD hS hA [] rfl (by decide)) rfl rfl hl.1 rfl (lv_room (Nat.le_of_ble_eq_true rfl)) dX9_drawn_22 ⟨Nat.le_of_ble_eq_true rfl, Nat.le_of_ble_eq_true rfl⟩) (fun r_5 w1 H locs hw hP hD hS => ?_)
      obtain ⟨rfl, rfl⟩ := hw
      have hP : va_P g.1 vwCl [(k0, .inr (9, [.ref m0, .int s1, .int s2, .int s3, .int s4, .int s5, .int s6, .ref m7, .ref m8, .ref m9, .int s10, .int s11, .int s12, .ref m13, .ref m14, .ref m15, .int s16, .ref m17, .ref m18, .ref m19, .ref m20, .ref m21, .ref m22, .ref m23, .ref m24, .ref m25, .ref m26, .ref m27, .ref m28, .int s29, .ref m30, .int s31, .int s32, .int s33, .int s34, .int s35, .ref m36, .ref m37, .ref m38, .ref m39, .long s40])), (m17, ai g 63 fc), (m18, ai g 7 fh), (m19, ai g 4 fs)] H := hP
      have hD : va_D A [(k0, .inr (9, [.ref m0, .int s1, .int s2, .int s3, .int s4, .int s5, .int s6, .ref m7, .ref m8, .ref m9, .int s10, .int s11, .int s12, .ref m13, .ref m14, .ref m15, .int s16, .ref m17, .ref m18, .ref m19, .ref m20, .ref m21, .ref m22, .ref m23, .ref m24, .ref m25, .ref m26, .ref m27, .ref m28, .int s29, .ref m30, .int s31, .int s32, .int s33, .int s34, .int s35, .ref m36, .ref m37, .ref m38, .ref m39, .long s40])), (m17, ai g 63 fc), (m18, ai g 7 fh), (m19, ai g 4 fs)] := hD
      refine lv_if_ne (tgt := 31) hx hb dX9_drawn_25 (by decide) (fun c25_7 => ?_) (fun c25_7 => ?_)
      · skip
        have hin1 := in_ne (x := p1) (a := 1) (b := 40) c9_3
        have hin3 := in_ne (x := p3) (a := 0) (b := 2) c25_7
        obtain ⟨n, hn0, rfl⟩ := nI_of (x := p1) (fun q => hin1.1 (Int32.lt_trans q (by decide)))
        obtain ⟨k, hk0, rfl⟩ := nI_of (x := p2) c13_4
        have hn : n ≤ 40 := Nat.not_lt.mp (fun q => hin1.2 (nI_lt (a := 40) q hn0))
        have hk : k < 2147483648 := hk0
        refine lv_aload_n hx hb dX9_drawn_31 rfl (lv_at hl 0 rfl) ?_
        refine lv_iload_n hx hb dX9_drawn_32 rfl (lv_at hl 2 rfl) ?_
        refine va_put (D := g.1) (ci := 9) (v := .int (nI k)) (ty := .int) (C := RX9) (T := TX9) (N := 41) hx hb hts q_X9_drawn_g_f9 tyX9 tyX9_ok nmX9 hown hE.1 hP hD hS 0 rfl rfl 31 (by decide) (hts (.fieldLink RX9 279 "SoundLawsModel" "seedNow" "I") q_X9_drawn_g_3) (fun _ h9 => h9) rfl (by decide +kernel) rfl rfl (Nat.le_of_ble_eq_true rfl) dX9_drawn_33 (fun H locs hP hD hS => ?_)
        have hP : va_P g.1 vwCl [(k0, .inr (9, [.ref m0, .int s1, .int s2, .int s3, .int s4, .int s5, .int s6, .ref m7, .ref m8, .ref m9, .int s10, .int s11, .int s12, .ref m13, .ref m14, .ref m15, .int s16, .ref m17, .ref m18, .ref m19, .ref m20, .ref m21, .ref m22, .ref m23, .ref m24, .ref m25, .ref m26, .ref m27, .ref m28, .int s29, .ref m30, .int (nI k), .int s32, .int s33, .int s34, .int s35, .ref m36, .ref m37, .ref m38, .ref m39, .long s40])), (m17, ai g 63 fc), (m18, ai g 7 fh), (m19, ai g 4 fs)] H := hP
        have hD : va_D A [(k0, .inr (9, [.ref m0, .int s1, .int s2, .int s3, .int s4, .int s5, .int s6, .ref m7, .ref m8, .ref m9, .int s10, .int s11, .int s12, .ref m13, .ref m14, .ref m15, .int s16, .ref m17, .ref m18, .ref m19, .ref m20, .ref m21, .ref m22, .ref m23, .ref m24, .ref m25, .ref m26, .ref m27, .ref m28, .int s29, .ref m30, .int (nI k), .int s32, .int s33, .int s34, .int s35, .ref m36, .ref m37, .ref m38, .ref m39, .long s40])), (m17, ai g 63 fc), (m18, ai g 7 fh), (m19, ai g 4 fs)] := hD
        refine lv_iconst (v := 0) hx hb dX9_drawn_36 (by decide) ?_
        refine lv_istore (lv' := [(4, .int 0), (0, .ref k0), (1, .int (nI n)), (2, .int (nI k)), (3, .int p3)]) hx hb dX9_drawn_37 hl (by decide) rfl (fun ls hl => ?_)
        refine lv_iconst (v := 0) hx hb dX9_drawn_39 (by decide) ?_
        refine lv_istore (lv' := [(5, .int 0), (4, .int 0), (0, .ref k0), (1, .int (nI n)), (2, .int (nI k)), (3, .int p3)]) hx hb dX9_drawn_40 hl (by decide) rfl (fun ls hl => ?_)
        refine lv_iconst (v := 0) hx hb dX9_drawn_42 (by decide) ?_
        refine lv_istore (lv' := [(6, .int 0), (5, .int 0), (4, .int 0), (0, .ref k0), (1, .int (nI n)), (2, .int (nI k)), (3, .int p3)]) hx hb dX9_drawn_43 hl (by decide) rfl (fun ls hl => ?_)
        have loop45 : ∀ (fu : Nat) (i : Nat) (u f h : Nat → Int32), (hi : i ≤ n) → (hh1 : rng 7 9 h) → n - i < fu → ∀ (H : Heap) (locs : List Loc) (ls : Array Slot), va_P g.1 vwCl [(k0, .inr (9, [.ref m0, .int s1, .int s2, .int s3, .int s4, .int s5, .int s6, .ref m7, .ref m8, .ref m9, .int s10, .int s11, .int s12, .ref m13, .ref m14, .ref m15, .int s16, .ref m17, .ref m18, .ref m19, .ref m20, .ref m21, .ref m22, .ref m23, .ref m24, .ref m25, .ref m26, .ref m27, .ref m28, .int s29, .ref m30, .int (nI (drS k i)), .int s32, .int s33, .int s34, .int s35, .ref m36, .ref m37, .ref m38, .ref m39, .long s40])), (m17, ai g 63 u), (m18, ai g 7 h), (m19, ai g 4 f)] H → va_D A [(k0, .inr (9, [.ref m0, .int s1, .int s2, .int s3, .int s4, .int s5, .int s6, .ref m7, .ref m8, .ref m9, .int s10, .int s11, .int s12, .ref m13, .ref m14, .ref m15, .int s16, .ref m17, .ref m18, .ref m19, .ref m20, .ref m21, .ref m22, .ref m23, .ref m24, .ref m25, .ref m26, .ref m27, .ref m28, .int s29, .ref m30, .int (nI (drS k i)), .int s32, .int s33, .int s34, .int s35, .ref m36, .ref m37, .ref m38, .ref m39, .long s40])), (m17, ai g 63 u), (m18, ai g 7 h), (m19, ai g 4 f)] → va_S A s.heap H locs → lv_has ls 9 [(0, .ref k0), (1, .int (nI n)), (2, .int (nI k)), (3, .int p3), (4, .int (drC k i)), (5, .int (drF k i)), (6, .int (nI i))] → W p l e ({ frames := 6, cells := 0, slots := 0, locals := 137 }) s m [.ref k0, .int (nI n), .int (nI k), .int p3].toArray below meth c H locs 0 0 (MQ below (va_Qi (po_X9_drawn_g g k0 m0 s1 s2 s3 s4 s5 s6 m7 m8 m9 s10 s11 s12 m13 m14 m15 s16 m17 m18 m19 m20 m21 m22 m23 m24 m25 m26 m27 m28 s29 m30 s31 s32 s33 s34 s35 m36 m37 m38 m39 s40 fc fs fh (nI n) (nI k) p3) (bk g A) A) [.ref k0, .int (nI n), .int (nI k), .int p3].toArray s 0 0 A) (F0 m 45 ls []) := by
          intro fu
          induction fu with
          | zero => intro i u f h hi hh1 hfu; exact absurd hfu (Nat.not_lt_zero _)
          | succ fu ih =>
            intro i u f h hi hh1 hfu H locs ls hP hD hS hl
            have ih45 := ih
            refine lv_iload hx hb dX9_drawn_45 (lv_at hl 6 rfl) ?_
            refine lv_iload_n hx hb dX9_drawn_47 rfl (lv_at hl 1 rfl) ?_
            refine lv_icmp_ge (tgt := 157) hx hb dX9_drawn_48 (by decide) (fun c48_8 => ?_) (fun c48_8 => ?_)
            · skip
              have hi9 := ge_of_le (k := n) (n := i) (by omega) (by omega) c48_8; obtain rfl : i = n := by omega
              refine lv_iload_n hx hb dX9_drawn_157 rfl (lv_at hl 3 rfl) ?_
              refine lv_if_ne (tgt := 166) hx hb dX9_drawn_158 (by decide) (fun c158_9 => ?_) (fun c158_9 => ?_)
              · skip
                refine lv_iload_n hx hb dX9_drawn_166 rfl (lv_at hl 3 rfl) ?_
                refine lv_iconst (v := 1) hx hb dX9_drawn_167 (by decide) ?_
                refine lv_icmp_ne (tgt := 176) hx hb dX9_drawn_168 (by decide) (fun c168_10 => ?_) (fun c168_10 => ?_)
                · skip
                  refine lv_aload_n hx hb dX9_drawn_176 rfl (lv_at hl 0 rfl) ?_
                  refine va_get (D := g.1) (ci := 9) (v := .int (nI (drS k i))) (C := RX9) (T := TX9) (N := 41) hx hb hts q_X9_drawn_g_f9 hown hE.1 hP 0 rfl rfl 31 (by decide) (hts (.fieldLink RX9 279 "SoundLawsModel" "seedNow" "I") q_X9_drawn_g_3) (fun _ h9 => h9) rfl dX9_drawn_177 ?_
                  refine W.widen (k := 0) (n := 0) (Nat.le_of_ble_eq_true rfl) (Nat.le_of_ble_eq_true rfl) ?_
                  exact k_ri hx hb hr hlocks hS hP hD ⟨(nI (drS k i)), u, f, h, rfl, (by unfold rD; rw [if_neg (fun h => by rcases h with h | h | h | h | h; exact hin1.1 h; exact hin1.2 h; exact c13_4 h; exact hin3.1 h; exact hin3.2 ((lt3_iff p3).mpr h)), if_neg c158_9, if_neg c168_10, nI_clamp hn0, nI_clamp hk0]), hh1⟩ dX9_drawn_180
                · skip
                  refine lv_iload hx hb dX9_drawn_171 (lv_at hl 5 rfl) ?_
                  refine lv_goto (tgt := 180) hx hb dX9_drawn_173 (by decide) ?_
                  refine W.widen (k := 0) (n := 0) (Nat.le_of_ble_eq_true rfl) (Nat.le_of_ble_eq_true rfl) ?_
                  exact k_ri hx hb hr hlocks hS hP hD ⟨(nI (drS k i)), u, f, h, rfl, (by unfold rD; rw [if_neg (fun h => by rcases h with h | h | h | h | h; exact hin1.1 h; exact hin1.2 h; exact c13_4 h; exact hin3.1 h; exact hin3.2 ((lt3_iff p3).mpr h)), if_neg c158_9, if_pos c168_10, nI_clamp hn0, nI_clamp hk0]), hh1⟩ dX9_drawn_180
              · skip
                refine lv_iload hx hb dX9_drawn_161 (lv_at hl 4 rfl) ?_
                refine lv_goto (tgt := 180) hx hb dX9_drawn_163 (by decide) ?_
                refine W.widen (k := 0) (n := 0) (Nat.le_of_ble_eq_true rfl) (Nat.le_of_ble_eq_true rfl) ?_
                exact k_ri hx hb hr hlocks hS hP hD ⟨(nI (drS k i)), u, f, h, rfl, (by unfold rD; rw [if_neg (fun h => by rcases h with h | h | h | h | h; exact hin1.1 h; exact hin1.2 h; exact c13_4 h; exact hin3.1 h; exact hin3.2 ((lt3_iff p3).mpr h)), if_pos c158_9, nI_clamp hn0, nI_clamp hk0]), hh1⟩ dX9_drawn_180
            · skip
              have hi9 := lt_of_nle (k := n) (n := i) (by omega) (by omega) c48_8
              refine lv_iconst (v := 0) hx hb dX9_drawn_51 (by decide) ?_
              refine lv_istore (lv' := [(7, .int 0), (0, .ref k0), (1, .int (nI n)), (2, .int (nI k)), (3, .int p3), (4, .int (drC k i)), (5, .int (drF k i)), (6, .int (nI i))]) hx hb dX9_drawn_52 hl (by decide) rfl (fun ls hl => ?_)
              refine lv_iload hx hb dX9_drawn_54 (lv_at hl 0 rfl) ?_
              refine lv_iconst (v := 4) hx hb dX9_drawn_56 (by decide) ?_
              refine lv_icmp_ge (tgt := 79) hx hb dX9_drawn_57 (by decide) (fun c57_11 => ?_) (fun c57_11 => ?_)
              · exact absurd c57_11 (by decide)
              · skip
                refine lv_aload_n hx hb dX9_drawn_60 rfl (lv_at hl 1 rfl) ?_
                refine va_get (D := g.1) (ci := 9) (v := .ref m19) (C := RX9) (T := TX9) (N := 41) hx hb hts q_X9_drawn_g_f9 hown hE.1 hP 0 rfl rfl 19 (by decide) (hts (.fieldLink RX9 37 "SoundLawsModel" "said" "[I") q_X9_drawn_g_4) (fun _ h9 => h9) rfl dX9_drawn_61 ?_
                refine lv_iload hx hb dX9_drawn_64 (lv_at hl 0 rfl) ?_
                refine lv_aload_n hx hb dX9_drawn_66 rfl (lv_at hl 1 rfl) ?_
                refine lv_bipush (v := 9) hx hb dX9_drawn_67 (by decide) ?_
                refine k_ci (wr := [(m17, ai g 63 u), (m18, ai g 7 h), (m19, ai g 4 f)]) hP hD hS hA [0] [1, 2, 3] rfl rfl (by decide) (by decide) (va_runV (As := [.int 9]) (rest := [.int 0, .ref m19]) ⟨hx, hb, hml, hown, hts⟩ (c_X9_draw l g k0 m0 s1 s2 s3 s4 s5 s6 m7 m8 m9 s10 s11 s12 m13 m14 m15 s16 m17 m18 m19 m20 m21 m22 m23 m24 m25 m26 m27 m28 s29 m30 s32 s33 s34 s35 m36 m37 m38 m39 s40 (drS k i) (drS_lt hk i) H.size) (cwV 1 hts gX9_drawn_X9_draw rfl rfl rfl (by decide +kernel) ⟨Nat.le_of_ble_eq_true rfl, Nat.le_of_ble_eq_true rfl⟩) (k_preV hE hZ hP hD hS hA [0] rfl (by decide) (va_recv hE.1 hP (ci := 9) (q0 := 0) rfl rfl)) rfl rfl hl.1 rfl (lv_room (Nat.le_of_ble_eq_true rfl)) dX9_drawn_69 ⟨Nat.le_of_ble_eq_true rfl, Nat.le_of_ble_eq_true rfl⟩) (fun r_12 w1 H locs hw hP hD hS => ?_)
                obtain ⟨rfl, rfl⟩ := hw
                have hP : va_P g.1 vwCl [(m17, ai g 63 u), (m18, ai g 7 h), (m19, ai g 4 f), (k0, .inr (9, [.ref m0, .int s1, .int s2, .int s3, .int s4, .int s5, .int s6, .ref m7, .ref m8, .ref m9, .int s10, .int s11, .int s12, .ref m13, .ref m14, .ref m15, .int s16, .ref m17, .ref m18, .ref m19, .ref m20, .ref m21, .ref m22, .ref m23, .ref m24, .ref m25, .ref m26, .ref m27, .ref m28, .int s29, .ref m30, .int (nI (nx (drS k i))), .int s32, .int s33, .int s34, .int s35, .ref m36, .ref m37, .ref m38, .ref m39, .long s40]))] H := hP
                have hD : va_D A [(m17, ai g 63 u), (m18, ai g 7 h), (m19, ai g 4 f), (k0, .inr (9, [.ref m0, .int s1, .int s2, .int s3, .int s4, .int s5, .int s6, .ref m7, .ref m8, .ref m9, .int s10, .int s11, .int s12, .ref m13, .ref m14, .ref m15, .int s16, .ref m17, .ref m18, .ref m19, .ref m20, .ref m21, .ref m22, .ref m23, .ref m24, .ref m25, .ref m26, .ref m27, .ref m28, .int s29, .ref m30, .int (nI (nx (drS k i))), .int s32, .int s33, .int s34, .int s35, .ref m36, .ref m37, .ref m38, .ref m39, .long s40]))] := hD
                refine k_ast (x := (nI (so (nx (drS k i))))) 0 (by decide) (by decide) hx hb hE hP hD hS 2 rfl (by decide) dX9_drawn_72 (fun H locs hP hD hS => ?_)
                have hP : va_P g.1 vwCl [(m17, ai g 63 u), (m18, ai g 7 h), (m19, ai g 4 (upd f 0 (nI (so (nx (drS k i)))))), (k0, .inr (9, [.ref m0, .int s1, .int s2, .int s3, .int s4, .int s5, .int s6, .ref m7, .ref m8, .ref m9, .int s10, .int s11, .int s12, .ref m13, .ref m14, .ref m15, .int s16, .ref m17, .ref m18, .ref m19, .ref m20, .ref m21, .ref m22, .ref m23, .ref m24, .ref m25, .ref m26, .ref m27, .ref m28, .int s29, .ref m30, .int (nI (nx (drS k i))), .int s32, .int s33, .int s34, .int s35, .ref m36, .ref m37, .ref m38, .ref m39, .long s40]))] H := hP
                have hD : va_D A [(m17, ai g 63 u), (m18, ai g 7 h), (m19, ai g 4 (upd f 0 (nI (so (nx (drS k i)))))), (k0, .inr (9, [.ref m0, .int s1, .int s2, .int s3, .int s4, .int s5, .int s6, .ref m7, .ref m8, .ref m9, .int s10, .int s11, .int s12, .ref m13, .ref m14, .ref m15, .int s16, .ref m17, .ref m18, .ref m19, .ref m20, .ref m21, .ref m22, .ref m23, .ref m24, .ref m25, .ref m26, .ref m27, .ref m28, .int s29, .ref m30, .int (nI (nx (drS k i))), .int s32, .int s33, .int s34, .int s35, .ref m36, .ref m37, .ref m38, .ref m39, .long s40]))] := hD
                refine lv_iinc (v := 1) (lv' := [(7, .int 1), (0, .ref k0), (1, .int (nI n)), (2, .int (nI k)), (3, .int p3), (4, .int (drC k i)), (5, .int (drF k i)), (6, .int (nI i))]) hx hb dX9_drawn_73 hl (k := 0) rfl (by decide) (by decide) rfl (fun ls hl => ?_)
                refine lv_goto (tgt := 54) hx hb dX9_drawn_76 (by decide) ?_
                refine lv_iload hx hb dX9_drawn_54 (lv_at hl 0 rfl) ?_
                refine lv_iconst (v := 4) hx hb dX9_drawn_56 (by decide) ?_
                refine lv_icmp_ge (tgt := 79) hx hb dX9_drawn_57 (by decide) (fun c57_14 => ?_) (fun c57_14 => ?_)
                · exact absurd c57_14 (by decide)
                · skip
                  refine lv_aload_n hx hb dX9_drawn_60 rfl (lv_at hl 1 rfl) ?_
                  refine va_get (D := g.1) (ci := 9) (v := .ref m19) (C := RX9) (T := TX9) (N := 41) hx hb hts q_X9_drawn_g_f9 hown hE.1 hP 3 rfl rfl 19 (by decide) (hts (.fieldLink RX9 37 "SoundLawsModel" "said" "[I") q_X9_drawn_g_4) (fun _ h9 => h9) rfl dX9_drawn_61 ?_
                  refine lv_iload hx hb dX9_drawn_64 (lv_at hl 0 rfl) ?_
                  refine lv_aload_n hx hb dX9_drawn_66 rfl (lv_at hl 1 rfl) ?_
                  refine lv_bipush (v := 9) hx hb dX9_drawn_67 (by decide) ?_
                  refine k_ci (wr := [(m17, ai g 63 u), (m18, ai g 7 h), (m19, ai g 4 (upd f 0 (nI (so (nx (drS k i))))))]) hP hD hS hA [3] [0, 1, 2] rfl rfl (by decide) (by decide) (va_runV (As := [.int 9]) (rest := [.int 1, .ref m19]) ⟨hx, hb, hml, hown, hts⟩ (c_X9_draw l g k0 m0 s1 s2 s3 s4 s5 s6 m7 m8 m9 s10 s11 s12 m13 m14 m15 s16 m17 m18 m19 m20 m21 m22 m23 m24 m25 m26 m27 m28 s29 m30 s32 s33 s34 s35 m36 m37 m38 m39 s40 (nx (drS k i)) (nx_lt _) H.size) (cwV 1 hts gX9_drawn_X9_draw rfl rfl rfl (by decide +kernel) ⟨Nat.le_of_ble_eq_true rfl, Nat.le_of_ble_eq_true rfl⟩) (k_preV hE hZ hP hD hS hA [3] rfl (by decide) (va_recv hE.1 hP (ci := 9) (q0 := 3) rfl rfl)) rfl rfl hl.1 rfl (lv_room (Nat.le_of_ble_eq_true rfl)) dX9_drawn_69 ⟨Nat.le_of_ble_eq_true rfl, Nat.le_of_ble_eq_true rfl⟩) (fun r_15 w1 H locs hw hP hD hS => ?_)
                  obtain ⟨rfl, rfl⟩ := hw
                  have hP : va_P g.1 vwCl [(m17, ai g 63 u), (m18, ai g 7 h), (m19, ai g 4 (upd f 0 (nI (so (nx (drS k i)))))), (k0, .inr (9, [.ref m0, .int s1, .int s2, .int s3, .int s4, .int s5, .int s6, .ref m7, .ref m8, .ref m9, .int s10, .int s11, .int s12, .ref m13, .ref m14, .ref m15, .int s16, .ref m17, .ref m18, .ref m19, .ref m20, .ref m21, .ref m22, .ref m23, .ref m24, .ref m25, .ref m26, .ref m27, .ref m28, .int s29, .ref m30, .int (nI (nx (nx (drS k i)))), .int s32, .int s33, .int s34, .int s35, .ref m36, .ref m37, .ref m38, .ref m39, .long s40]))] H := hP
                  have hD : va_D A [(m17, ai g 63 u), (m18, ai g 7 h), (m19, ai g 4 (upd f 0 (nI (so (nx (drS k i)))))), (k0, .inr (9, [.ref m0, .int s1, .int s2, .int s3, .int s4, .int s5, .int s6, .ref m7, .ref m8, .ref m9, .int s10, .int s11, .int s12, .ref m13, .ref m14, .ref m15, .int s16, .ref m17, .ref m18, .ref m19, .ref m20, .ref m21, .ref m22, .ref m23, .ref m24, .ref m25, .ref m26, .ref m27, .ref m28, .int s29, .ref m30, .int (nI (nx (nx (drS k i)))), .int s32, .int s33, .int s34, .int s35, .ref m36, .ref m37, .ref m38, .ref m39, .long s40]))] := hD
                  refine k_ast (x := (nI (so (nx (nx (drS k i)))))) 1 (by decide) (by decide) hx hb hE hP hD hS 2 rfl (by decide) dX9_drawn_72 (fun H locs hP hD hS => ?_)
                  have hP : va_P g.1 vwCl [(m17, ai g 63 u), (m18, ai g 7 h), (m19, ai g 4 (upd (upd f 0 (nI (so (nx (drS k i))))) 1 (nI (so (nx (nx (drS k i))))))), (k0, .inr (9, [.ref m0, .int s1, .int s2, .int s3, .int s4, .int s5, .int s6, .ref m7, .ref m8, .ref m9, .int s10, .int s11, .int s12, .ref m13, .ref m14, .ref m15, .int s16, .ref m17, .ref m18, .ref m19, .ref m20, .ref m21, .ref m22, .ref m23, .ref m24, .ref m25, .ref m26, .ref m27, .ref m28, .int s29, .ref m30, .int (nI (nx (nx (drS k i)))), .int s32, .int s33, .int s34, .int s35, .ref m36, .ref m37, .ref m38, .ref m39, .long s40]))] H := hP
                  have hD : va_D A [(m17, ai g 63 u), (m18, ai g 7 h), (m19, ai g 4 (upd (upd f 0 (nI (so (nx (drS k i))))) 1 (nI (so (nx (nx (drS k i))))))), (k0, .inr (9, [.ref m0, .int s1, .int s2, .int s3, .int s4, .int s5, .int s6, .ref m7, .ref m8, .ref m9, .int s10, .int s11, .int s12, .ref m13, .ref m14, .ref m15, .int s16, .ref m17, .ref m18, .ref m19, .ref m20, .ref m21, .ref m22, .ref m23, .ref m24, .ref m25, .ref m26, .ref m27, .ref m28, .int s29, .ref m30, .int (nI (nx (nx (drS k i)))), .int s32, .int s33, .int s34, .int s35, .ref m36, .ref m37, .ref m38, .ref m39, .long s40]))] := hD
                  refine lv_iinc (v := 2) (lv' := [(7, .int 2), (0, .ref k0), (1, .int (nI n)), (2, .int (nI k)), (3, .int p3), (4, .int (drC k i)), (5, .int (drF k i)), (6, .int (nI i))]) hx hb dX9_drawn_73 hl (k := 0) rfl (by decide) (by decide) rfl (fun ls hl => ?_)
                  refine lv_goto (tgt := 54) hx hb dX9_drawn_76 (by decide) ?_
                  refine lv_iload hx hb dX9_drawn_54 (lv_at hl 0 rfl) ?_
                  refine lv_iconst (v := 4) hx hb dX9_drawn_56 (by decide) ?_
                  refine lv_icmp_ge (tgt := 79) hx hb dX9_drawn_57 (by decide) (fun c57_17 => ?_) (fun c57_17 => ?_)
                  · exact absurd c57_17 (by decide)
                  · skip
                    refine lv_aload_n hx hb dX9_drawn_60 rfl (lv_at hl 1 rfl) ?_
                    refine va_get (D := g.1) (ci := 9) (v := .ref m19) (C := RX9) (T := TX9) (N := 41) hx hb hts q_X9_drawn_g_f9 hown hE.1 hP 3 rfl rfl 19 (by decide) (hts (.fieldLink RX9 37 "SoundLawsModel" "said" "[I") q_X9_drawn_g_4) (fun _ h9 => h9) rfl dX9_drawn_61 ?_
                    refine lv_iload hx hb dX9_drawn_64 (lv_at hl 0 rfl) ?_
                    refine lv_aload_n hx hb dX9_drawn_66 rfl (lv_at hl 1 rfl) ?_
                    refine lv_bipush (v := 9) hx hb dX9_drawn_67 (by decide) ?_
                    refine k_ci (wr := [(m17, ai g 63 u), (m18, ai g 7 h), (m19, ai g 4 (upd (upd f 0 (nI (so (nx (drS k i))))) 1 (nI (so (nx (nx (drS k i)))))))]) hP hD hS hA [3] [0, 1, 2] rfl rfl (by decide) (by decide) (va_runV (As := [.int 9]) (rest := [.int 2, .ref m19]) ⟨hx, hb, hml, hown, hts⟩ (c_X9_draw l g k0 m0 s1 s2 s3 s4 s5 s6 m7 m8 m9 s10 s11 s12 m13 m14 m15 s16 m17 m18 m19 m20 m21 m22 m23 m24 m25 m26 m27 m28 s29 m30 s32 s33 s34 s35 m36 m37 m38 m39 s40 (nx (nx (drS k i))) (nx_lt _) H.size) (cwV 1 hts gX9_drawn_X9_draw rfl rfl rfl (by decide +kernel) ⟨Nat.le_of_ble_eq_true rfl, Nat.le_of_ble_eq_true rfl⟩) (k_preV hE hZ hP hD hS hA [3] rfl (by decide) (va_recv hE.1 hP (ci := 9) (q0 := 3) rfl rfl)) rfl rfl hl.1 rfl (lv_room (Nat.le_of_ble_eq_true rfl)) dX9_drawn_69 ⟨Nat.le_of_ble_eq_true rfl, Nat.le_of_ble_eq_true rfl⟩) (fun r_18 w1 H locs hw hP hD hS => ?_)
                    obtain ⟨rfl, rfl⟩ := hw
                    have hP : va_P g.1 vwCl [(m17, ai g 63 u), (m18, ai g 7 h), (m19, ai g 4 (upd (upd f 0 (nI (so (nx (drS k i))))) 1 (nI (so (nx (nx (drS k i))))))), (k0, .inr (9, [.ref m0, .int s1, .int s2, .int s3, .int s4, .int s5, .int s6, .ref m7, .ref m8, .ref m9, .int s10, .int s11, .int s12, .ref m13, .ref m14, .ref m15, .int s16, .ref m17, .ref m18, .ref m19, .ref m20, .ref m21, .ref m22, .ref m23, .ref m24, .ref m25, .ref m26, .ref m27, .ref m28, .int s29, .ref m30, .int (nI (nx (nx (nx (drS k i))))), .int s32, .int s33, .int s34, .int s35, .ref m36, .ref m37, .ref m38, .ref m39, .long s40]))] H := hP
                    have hD : va_D A [(m17, ai g 63 u), (m18, ai g 7 h), (m19, ai g 4 (upd (upd f 0 (nI (so (nx (drS k i))))) 1 (nI (so (nx (nx (drS k i))))))), (k0, .inr (9, [.ref m0, .int s1, .int s2, .int s3, .int s4, .int s5, .int s6, .ref m7, .ref m8, .ref m9, .int s10, .int s11, .int s12, .ref m13, .ref m14, .ref m15, .int s16, .ref m17, .ref m18, .ref m19, .ref m20, .ref m21, .ref m22, .ref m23, .ref m24, .ref m25, .ref m26, .ref m27, .ref m28, .int s29, .ref m30, .int (nI (nx (nx (nx (drS k i))))), .int s32, .int s33, .int s34, .int s35, .ref m36, .ref m37, .ref m38, .ref m39, .long s40]))] := hD
                    refine k_ast (x := (nI (so (nx (nx (nx (drS k i))))))) 2 (by decide) (by decide) hx hb hE hP hD hS 2 rfl (by decide) dX9_drawn_72 (fun H locs hP hD hS => ?_)
                    have hP : va_P g.1 vwCl [(m17, ai g 63 u), (m18, ai g 7 h), (m19, ai g 4 (upd (upd (upd f 0 (nI (so (nx (drS k i))))) 1 (nI (so (nx (nx (drS k i)))))) 2 (nI (so (nx (nx (nx (drS k i)))))))), (k0, .inr (9, [.ref m0, .int s1, .int s2, .int s3, .int s4, .int s5, .int s6, .ref m7, .ref m8, .ref m9, .int s10, .int s11, .int s12, .ref m13, .ref m14, .ref m15, .int s16, .ref m17, .ref m18, .ref m19, .ref m20, .ref m21, .ref m22, .ref m23, .ref m24, .ref m25, .ref m26, .ref m27, .ref m28, .int s29, .ref m30, .int (nI (nx (nx (nx (drS k i))))), .int s32, .int s33, .int s34, .int s35, .ref m36, .ref m37, .ref m38, .ref m39, .long s40]))] H := hP
                    have hD : va_D A [(m17, ai g 63 u), (m18, ai g 7 h), (m19, ai g 4 (upd (upd (upd f 0 (nI (so (nx (drS k i))))) 1 (nI (so (nx (nx (drS k i)))))) 2 (nI (so (nx (nx (nx (drS k i)))))))), (k0, .inr (9, [.ref m0, .int s1, .int s2, .int s3, .int s4, .int s5, .int s6, .ref m7, .ref m8, .ref m9, .int s10, .int s11, .int s12, .ref m13, .ref m14, .ref m15, .int s16, .ref m17, .ref m18, .ref m19, .ref m20, .ref m21, .ref m22, .ref m23, .ref m24, .ref m25, .ref m26, .ref m27, .ref m28, .int s29, .ref m30, .int (nI (nx (nx (nx (drS k i))))), .int s32, .int s33, .int s34, .int s35, .ref m36, .ref m37, .ref m38, .ref m39, .long s40]))] := hD
                    refine lv_iinc (v := 3) (lv' := [(7, .int 3), (0, .ref k0), (1, .int (nI n)), (2, .int (nI k)), (3, .int p3), (4, .int (drC k i)), (5, .int (drF k i)), (6, .int (nI i))]) hx hb dX9_drawn_73 hl (k := 0) rfl (by decide) (by decide) rfl (fun ls hl => ?_)
                    refine lv_goto (tgt := 54) hx hb dX9_drawn_76 (by decide) ?_
                    refine lv_iload hx hb dX9_drawn_54 (lv_at hl 0 rfl) ?_
                    refine lv_iconst (v := 4) hx hb dX9_drawn_56 (by decide) ?_
                    refine lv_icmp_ge (tgt := 79) hx hb dX9_drawn_57 (by decide) (fun c57_20 => ?_) (fun c57_20 => ?_)
                    · exact absurd c57_20 (by decide)
                    · skip
                      refine lv_aload_n hx hb dX9_drawn_60 rfl (lv_at hl 1 rfl) ?_
                      refine va_get (D := g.1) (ci := 9) (v := .ref m19) (C := RX9) (T := TX9) (N := 41) hx hb hts q_X9_drawn_g_f9 hown hE.1 hP 3 rfl rfl 19 (by decide) (hts (.fieldLink RX9 37 "SoundLawsModel" "said" "[I") q_X9_drawn_g_4) (fun _ h9 => h9) rfl dX9_drawn_61 ?_
                      refine lv_iload hx hb dX9_drawn_64 (lv_at hl 0 rfl) ?_
                      refine lv_aload_n hx hb dX9_drawn_66 rfl (lv_at hl 1 rfl) ?_
                      refine lv_bipush (v := 9) hx hb dX9_drawn_67 (by decide) ?_
                      refine k_ci (wr := [(m17, ai g 63 u), (m18, ai g 7 h), (m19, ai g 4 (upd (upd (upd f 0 (nI (so (nx (drS k i))))) 1 (nI (so (nx (nx (drS k i)))))) 2 (nI (so (nx (nx (nx (drS k i))))))))]) hP hD hS hA [3] [0, 1, 2] rfl rfl (by decide) (by decide) (va_runV (As := [.int 9]) (rest := [.int 3, .ref m19]) ⟨hx, hb, hml, hown, hts⟩ (c_X9_draw l g k0 m0 s1 s2 s3 s4 s5 s6 m7 m8 m9 s10 s11 s12 m13 m14 m15 s16 m17 m18 m19 m20 m21 m22 m23 m24 m25 m26 m27 m28 s29 m30 s32 s33 s34 s35 m36 m37 m38 m39 s40 (nx (nx (nx (drS k i)))) (nx_lt _) H.size) (cwV 1 hts gX9_drawn_X9_draw rfl rfl rfl (by decide +kernel) ⟨Nat.le_of_ble_eq_true rfl, Nat.le_of_ble_eq_true rfl⟩) (k_preV hE hZ hP hD hS hA [3] rfl (by decide) (va_recv hE.1 hP (ci := 9) (q0 := 3) rfl rfl)) rfl rfl hl.1 rfl (lv_room (Nat.le_of_ble_eq_true rfl)) dX9_drawn_69 ⟨Nat.le_of_ble_eq_true rfl, Nat.le_of_ble_eq_true rfl⟩) (fun r_21 w1 H locs hw hP hD hS => ?_)
                      obtain ⟨rfl, rfl⟩ := hw
                      have hP : va_P g.1 vwCl [(m17, ai g 63 u), (m18, ai g 7 h), (m19, ai g 4 (upd (upd (upd f 0 (nI (so (nx (drS k i))))) 1 (nI (so (nx (nx (drS k i)))))) 2 (nI (so (nx (nx (nx (drS k i)))))))), (k0, .inr (9, [.ref m0, .int s1, .int s2, .int s3, .int s4, .int s5, .int s6, .ref m7, .ref m8, .ref m9, .int s10, .int s11, .int s12, .ref m13, .ref m14, .ref m15, .int s16, .ref m17, .ref m18, .ref m19, .ref m20, .ref m21, .ref m22, .ref m23, .ref m24, .ref m25, .ref m26, .ref m27, .ref m28, .int s29, .ref m30, .int (nI (nx (nx (nx (nx (drS k i)))))), .int s32, .int s33, .int s34, .int s35, .ref m36, .ref m37, .ref m38, .ref m39, .long s40]))] H := hP
                      have hD : va_D A [(m17, ai g 63 u), (m18, ai g 7 h), (m19, ai g 4 (upd (upd (upd f 0 (nI (so (nx (drS k i))))) 1 (nI (so (nx (nx (drS k i)))))) 2 (nI (so (nx (nx (nx (drS k i)))))))), (k0, .inr (9, [.ref m0, .int s1, .int s2, .int s3, .int s4, .int s5, .int s6, .ref m7, .ref m8, .ref m9, .int s10, .int s11, .int s12, .ref m13, .ref m14, .ref m15, .int s16, .ref m17, .ref m18, .ref m19, .ref m20, .ref m21, .ref m22, .ref m23, .ref m24, .ref m25, .ref m26, .ref m27, .ref m28, .int s29, .ref m30, .int (nI (nx (nx (nx (nx (drS k i)))))), .int s32, .int s33, .int s34, .int s35, .ref m36, .ref m37, .ref m38, .ref m39, .long s40]))] := hD
                      refine k_ast (x := (nI (so (nx (nx (nx (nx (drS k i)))))))) 3 (by decide) (by decide) hx hb hE hP hD hS 2 rfl (by decide) dX9_drawn_72 (fun H locs hP hD hS => ?_)
                      have hP : va_P g.1 vwCl [(m17, ai g 63 u), (m18, ai g 7 h), (m19, ai g 4 (upd (upd (upd (upd f 0 (nI (so (nx (drS k i))))) 1 (nI (so (nx (nx (drS k i)))))) 2 (nI (so (nx (nx (nx (drS k i))))))) 3 (nI (so (nx (nx (nx (nx (drS k i))))))))), (k0, .inr (9, [.ref m0, .int s1, .int s2, .int s3, .int s4, .int s5, .int s6, .ref m7, .ref m8, .ref m9, .int s10, .int s11, .int s12, .ref m13, .ref m14, .ref m15, .int s16, .ref m17, .ref m18, .ref m19, .ref m20, .ref m21, .ref m22, .ref m23, .ref m24, .ref m25, .ref m26, .ref m27, .ref m28, .int s29, .ref m30, .int (nI (nx (nx (nx (nx (drS k i)))))), .int s32, .int s33, .int s34, .int s35, .ref m36, .ref m37, .ref m38, .ref m39, .long s40]))] H := hP
                      have hD : va_D A [(m17, ai g 63 u), (m18, ai g 7 h), (m19, ai g 4 (upd (upd (upd (upd f 0 (nI (so (nx (drS k i))))) 1 (nI (so (nx (nx (drS k i)))))) 2 (nI (so (nx (nx (nx (drS k i))))))) 3 (nI (so (nx (nx (nx (nx (drS k i))))))))), (k0, .inr (9, [.ref m0, .int s1, .int s2, .int s3, .int s4, .int s5, .int s6, .ref m7, .ref m8, .ref m9, .int s10, .int s11, .int s12, .ref m13, .ref m14, .ref m15, .int s16, .ref m17, .ref m18, .ref m19, .ref m20, .ref m21, .ref m22, .ref m23, .ref m24, .ref m25, .ref m26, .ref m27, .ref m28, .int s29, .ref m30, .int (nI (nx (nx (nx (nx (drS k i)))))), .int s32, .int s33, .int s34, .int s35, .ref m36, .ref m37, .ref m38, .ref m39, .long s40]))] := hD
                      refine lv_iinc (v := 4) (lv' := [(7, .int 4), (0, .ref k0), (1, .int (nI n)), (2, .int (nI k)), (3, .int p3), (4, .int (drC k i)), (5, .int (drF k i)), (6, .int (nI i))]) hx hb dX9_drawn_73 hl (k := 0) rfl (by decide) (by decide) rfl (fun ls hl => ?_)
                      refine lv_goto (tgt := 54) hx hb dX9_drawn_76 (by decide) ?_
                      refine lv_iload hx hb dX9_drawn_54 (lv_at hl 0 rfl) ?_
                      refine lv_iconst (v := 4) hx hb dX9_drawn_56 (by decide) ?_
                      refine lv_icmp_ge (tgt := 79) hx hb dX9_drawn_57 (by decide) (fun c57_23 => ?_) (fun c57_23 => ?_)
                      · skip
                        refine lv_iload hx hb dX9_drawn_79 (lv_at hl 5 rfl) ?_
                        refine lv_aload_n hx hb dX9_drawn_81 rfl (lv_at hl 1 rfl) ?_
                        refine lv_iconst (v := 4) hx hb dX9_drawn_82 (by decide) ?_
                        refine k_ci (wr := []) hP hD hS hA [3, 0, 1, 2] [] rfl rfl (by decide) (by decide) (va_runV (As := [.int 4]) (rest := [.int (drC k i)]) ⟨hx, hb, hml, hown, hts⟩ (c_X9_rebuild_4 l g k0 m0 s1 s2 s3 s4 s5 s6 m7 m8 m9 s10 s11 s12 m13 m14 m15 s16 m17 m18 m19 m20 m21 m22 m23 m24 m25 m26 m27 m28 s29 m30 (nI (nx (nx (nx (nx (drS k i)))))) s32 s33 s34 s35 m36 m37 m38 m39 s40 u (upd (upd (upd (upd f 0 (nI (so (nx (drS k i))))) 1 (nI (so (nx (nx (drS k i)))))) 2 (nI (so (nx (nx (nx (drS k i))))))) 3 (nI (so (nx (nx (nx (nx (drS k i)))))))) h (so (nx (drS k i))) (so (nx (nx (drS k i)))) (so (nx (nx (nx (drS k i))))) (so (nx (nx (nx (nx (drS k i)))))) rfl rfl rfl rfl (so_lt _) (so_lt _) (so_lt _) (so_lt _) hh1 H.size) (cwV 1 hts gX9_drawn_X9_rebuild rfl rfl rfl (by decide +kernel) ⟨Nat.le_of_ble_eq_true rfl, Nat.le_of_ble_eq_true rfl⟩) (k_preV hE hZ hP hD hS hA [3, 0, 1, 2] rfl (by decide) (va_recv hE.1 hP (ci := 9) (q0 := 3) rfl rfl)) rfl rfl hl.1 rfl (lv_room (Nat.le_of_ble_eq_true rfl)) dX9_drawn_83 ⟨Nat.le_of_ble_eq_true rfl, Nat.le_of_ble_eq_true rfl⟩) (fun r_24 w1 H locs hw hP hD hS => ?_)
                        obtain ⟨gc_25, gh_26, rfl, rfl, hgh_28, hr7_29⟩ := hw
                        have hP : va_P g.1 vwCl [(k0, .inr (9, [.ref m0, .int s1, .int s2, .int s3, .int s4, .int s5, .int s6, .ref m7, .ref m8, .ref m9, .int s10, .int s11, .int s12, .ref m13, .ref m14, .ref m15, .int s16, .ref m17, .ref m18, .ref m19, .ref m20, .ref m21, .ref m22, .ref m23, .ref m24, .ref m25, .ref m26, .ref m27, .ref m28, .int s29, .ref m30, .int (nI (nx (nx (nx (nx (drS k i)))))), .int s32, .int s33, .int s34, .int s35, .ref m36, .ref m37, .ref m38, .ref m39, .long s40])), (m17, ai g 63 gc_25), (m18, ai g 7 gh_26), (m19, ai g 4 (upd (upd (upd (upd f 0 (nI (so (nx (drS k i))))) 1 (nI (so (nx (nx (drS k i)))))) 2 (nI (so (nx (nx (nx (drS k i))))))) 3 (nI (so (nx (nx (nx (nx (drS k i)))))))))] H := hP
                        have hD : va_D A [(k0, .inr (9, [.ref m0, .int s1, .int s2, .int s3, .int s4, .int s5, .int s6, .ref m7, .ref m8, .ref m9, .int s10, .int s11, .int s12, .ref m13, .ref m14, .ref m15, .int s16, .ref m17, .ref m18, .ref m19, .ref m20, .ref m21, .ref m22, .ref m23, .ref m24, .ref m25, .ref m26, .ref m27, .ref m28, .int s29, .ref m30, .int (nI (nx (nx (nx (nx (drS k i)))))), .int s32, .int s33, .int s34, .int s35, .ref m36, .ref m37, .ref m38, .ref m39, .long s40])), (m17, ai g 63 gc_25), (m18, ai g 7 gh_26), (m19, ai g 4 (upd (upd (upd (upd f 0 (nI (so (nx (drS k i))))) 1 (nI (so (nx (nx (drS k i)))))) 2 (nI (so (nx (nx (nx (drS k i))))))) 3 (nI (so (nx (nx (nx (nx (drS k i)))))))))] := hD
                        refine lv_iadd hx hb dX9_drawn_86 ?_
                        refine lv_topi (fun x_30 ex_30 => ?_)
                        obtain rfl : x_30 = drC k (i + 1) := by rw [ex_30]; rfl
                        refine lv_istore (lv' := [(4, .int (drC k (i + 1))), (7, .int 4), (0, .ref k0), (1, .int (nI n)), (2, .int (nI k)), (3, .int p3), (5, .int (drF k i)), (6, .int (nI i))]) hx hb dX9_drawn_87 hl (by decide) rfl (fun ls hl => ?_)
                        refine lv_iconst (v := 1) hx hb dX9_drawn_89 (by decide) ?_
                        refine lv_istore (lv' := [(7, .int 1), (4, .int (drC k (i + 1))), (0, .ref k0), (1, .int (nI n)), (2, .int (nI k)), (3, .int p3), (5, .int (drF k i)), (6, .int (nI i))]) hx hb dX9_drawn_90 hl (by decide) rfl (fun ls hl => ?_)
                        refine lv_iconst (v := 0) hx hb dX9_drawn_92 (by decide) ?_
                        refine lv_istore (lv' := [(8, .int 0), (7, .int 1), (4, .int (drC k (i + 1))), (0, .ref k0), (1, .int (nI n)), (2, .int (nI k)), (3, .int p3), (5, .int (drF k i)), (6, .int (nI i))]) hx hb dX9_drawn_93 hl (by decide) rfl (fun ls hl => ?_)
                        refine lv_iload hx hb dX9_drawn_95 (lv_at hl 0 rfl) ?_
                        refine lv_iconst (v := 4) hx hb dX9_drawn_97 (by decide) ?_
                        refine lv_icmp_ge (tgt := 136) hx hb dX9_drawn_98 (by decide) (fun c98_31 => ?_) (fun c98_31 => ?_)
                        · exact absurd c98_31 (by decide)
                        · skip
                          refine lv_iload hx hb dX9_drawn_101 (lv_at hl 1 rfl) ?_
                          refine lv_if_eq (tgt := 127) hx hb dX9_drawn_103 (by decide) (fun c103_32 => ?_) (fun c103_32 => ?_)
                          · exact absurd c103_32 (by decide)
                          · skip
                            refine lv_aload_n hx hb dX9_drawn_106 rfl (lv_at hl 3 rfl) ?_
                            refine va_get (D := g.1) (ci := 9) (v := .ref m19) (C := RX9) (T := TX9) (N := 41) hx hb hts q_X9_drawn_g_f9 hown hE.1 hP 0 rfl rfl 19 (by decide) (hts (.fieldLink RX9 37 "SoundLawsModel" "said" "[I") q_X9_drawn_g_4) (fun _ h9 => h9) rfl dX9_drawn_107 ?_
                            refine lv_iload hx hb dX9_drawn_110 (lv_at hl 0 rfl) ?_
                            refine k_ald 0 (by decide) (by decide) hx hb hE hP 3 rfl (by decide) dX9_drawn_112 ?_
                            refine lv_aload_n hx hb dX9_drawn_113 rfl (lv_at hl 3 rfl) ?_
                            refine va_get (D := g.1) (ci := 9) (v := .ref m18) (C := RX9) (T := TX9) (N := 41) hx hb hts q_X9_drawn_g_f9 hown hE.1 hP 0 rfl rfl 18 (by decide) (hts (.fieldLink RX9 34 "SoundLawsModel" "had" "[I") q_X9_drawn_g_5) (fun _ h9 => h9) rfl dX9_drawn_114 ?_
                            refine lv_bipush (v := 6) hx hb dX9_drawn_117 (by decide) ?_
                            refine k_ald 6 (by decide) (by decide) hx hb hE hP 2 rfl (by decide) dX9_drawn_119 ?_
                            refine lv_icmp_eq (tgt := 127) hx hb dX9_drawn_120 (by decide) (fun c120_33 => ?_) (fun c120_33 => ?_)
                            · skip
                              refine lv_iconst (v := 0) hx hb dX9_drawn_127 (by decide) ?_
                              refine lv_istore (lv' := [(7, .int 0), (8, .int 0), (4, .int (drC k (i + 1))), (0, .ref k0), (1, .int (nI n)), (2, .int (nI k)), (3, .int p3), (5, .int (drF k i)), (6, .int (nI i))]) hx hb dX9_drawn_128 hl (by decide) rfl (fun ls hl => ?_)
                              refine lv_iinc (v := 1) (lv' := [(8, .int 1), (7, .int 0), (4, .int (drC k (i + 1))), (0, .ref k0), (1, .int (nI n)), (2, .int (nI k)), (3, .int p3), (5, .int (drF k i)), (6, .int (nI i))]) hx hb dX9_drawn_130 hl (k := 1) rfl (by decide) (by decide) rfl (fun ls hl => ?_)
                              refine lv_goto (tgt := 95) hx hb dX9_drawn_133 (by decide) ?_
                              refine lv_iload hx hb dX9_drawn_95 (lv_at hl 0 rfl) ?_
                              refine lv_iconst (v := 4) hx hb dX9_drawn_97 (by decide) ?_
                              refine lv_icmp_ge (tgt := 136) hx hb dX9_drawn_98 (by decide) (fun c98_34 => ?_) (fun c98_34 => ?_)
                              · exact absurd c98_34 (by decide)
                              · skip
                                refine lv_iload hx hb dX9_drawn_101 (lv_at hl 1 rfl) ?_
                                refine lv_if_eq (tgt := 127) hx hb dX9_drawn_103 (by decide) (fun c103_35 => ?_) (fun c103_35 => ?_)
                                · skip
                                  refine lv_iconst (v := 0) hx hb dX9_drawn_127 (by decide) ?_
                                  refine lv_istore (lv' := [(7, .int 0), (8, .int 1), (4, .int (drC k (i + 1))), (0, .ref k0), (1, .int (nI n)), (2, .int (nI k)), (3, .int p3), (5, .int (drF k i)), (6, .int (nI i))]) hx hb dX9_drawn_128 hl (by decide) rfl (fun ls hl => ?_)
                                  refine lv_iinc (v := 2) (lv' := [(8, .int 2), (7, .int 0), (4, .int (drC k (i + 1))), (0, .ref k0), (1, .int (nI n)), (2, .int (nI k)), (3, .int p3), (5, .int (drF k i)), (6, .int (nI i))]) hx hb dX9_drawn_130 hl (k := 1) rfl (by decide) (by decide) rfl (fun ls hl => ?_)
                                  refine lv_goto (tgt := 95) hx hb dX9_drawn_133 (by decide) ?_
                                  refine lv_iload hx hb dX9_drawn_95 (lv_at hl 0 rfl) ?_
                                  refine lv_iconst (v := 4) hx hb dX9_drawn_97 (by decide) ?_
                                  refine lv_icmp_ge (tgt := 136) hx hb dX9_drawn_98 (by decide) (fun c98_36 => ?_) (fun c98_36 => ?_)
                                  · exact absurd c98_36 (by decide)
                                  · skip
                                    refine lv_iload hx hb dX9_drawn_101 (lv_at hl 1 rfl) ?_
                                    refine lv_if_eq (tgt := 127) hx hb dX9_drawn_103 (by decide) (fun c103_37 => ?_) (fun c103_37 => ?_)
                                    · skip
                                      refine lv_iconst (v := 0) hx hb dX9_drawn_127 (by decide) ?_
                                      refine lv_istore (lv' := [(7, .int 0), (8, .int 2), (4, .int (drC k (i + 1))), (0, .ref k0), (1, .int (nI n)), (2, .int (nI k)), (3, .int p3), (5, .int (drF k i)), (6, .int (nI i))]) hx hb dX9_drawn_128 hl (by decide) rfl (fun ls hl => ?_)
                                      refine lv_iinc (v := 3) (lv' := [(8, .int 3), (7, .int 0), (4, .int (drC k (i + 1))), (0, .ref k0), (1, .int (nI n)), (2, .int (nI k)), (3, .int p3), (5, .int (drF k i)), (6, .int (nI i))]) hx hb dX9_drawn_130 hl (k := 1) rfl (by decide) (by decide) rfl (fun ls hl => ?_)
                                      refine lv_goto (tgt := 95) hx hb dX9_drawn_133 (by decide) ?_
                                      refine lv_iload hx hb dX9_drawn_95 (lv_at hl 0 rfl) ?_
                                      refine lv_iconst (v := 4) hx hb dX9_drawn_97 (by decide) ?_
                                      refine lv_icmp_ge (tgt := 136) hx hb dX9_drawn_98 (by decide) (fun c98_38 => ?_) (fun c98_38 => ?_)
                                      · exact absurd c98_38 (by decide)
                                      · skip
                                        refine lv_iload hx hb dX9_drawn_101 (lv_at hl 1 rfl) ?_
                                        refine lv_if_eq (tgt := 127) hx hb dX9_drawn_103 (by decide) (fun c103_39 => ?_) (fun c103_39 => ?_)
                                        · skip
                                          refine lv_iconst (v := 0) hx hb dX9_drawn_127 (by decide) ?_
                                          refine lv_istore (lv' := [(7, .int 0), (8, .int 3), (4, .int (drC k (i + 1))), (0, .ref k0), (1, .int (nI n)), (2, .int (nI k)), (3, .int p3), (5, .int (drF k i)), (6, .int (nI i))]) hx hb dX9_drawn_128 hl (by decide) rfl (fun ls hl => ?_)
                                          refine lv_iinc (v := 4) (lv' := [(8, .int 4), (7, .int 0), (4, .int (drC k (i + 1))), (0, .ref k0), (1, .int (nI n)), (2, .int (nI k)), (3, .int p3), (5, .int (drF k i)), (6, .int (nI i))]) hx hb dX9_drawn_130 hl (k := 1) rfl (by decide) (by decide) rfl (fun ls hl => ?_)
                                          refine lv_goto (tgt := 95) hx hb dX9_drawn_133 (by decide) ?_
                                          refine lv_iload hx hb dX9_drawn_95 (lv_at hl 0 rfl) ?_
                                          refine lv_iconst (v := 4) hx hb dX9_drawn_97 (by decide) ?_
                                          refine lv_icmp_ge (tgt := 136) hx hb dX9_drawn_98 (by decide) (fun c98_40 => ?_) (fun c98_40 => ?_)
                                          · skip
                                            refine lv_iload hx hb dX9_drawn_136 (lv_at hl 7 rfl) ?_
                                            refine lv_iload hx hb dX9_drawn_138 (lv_at hl 1 rfl) ?_
                                            refine lv_if_eq (tgt := 147) hx hb dX9_drawn_140 (by decide) (fun c140_41 => ?_) (fun c140_41 => ?_)
                                            · skip
                                              refine lv_iconst (v := 0) hx hb dX9_drawn_147 (by decide) ?_
                                              refine lv_iadd hx hb dX9_drawn_148 ?_
                                              have hfz : fz (upd (upd (upd (upd f 0 (nI (so (nx (drS k i))))) 1 (nI (so (nx (nx (drS k i)))))) 2 (nI (so (nx (nx (nx (drS k i))))))) 3 (nI (so (nx (nx (nx (nx (drS k i)))))))) (gh_26 6) = 0 := by simp [fz, c120_33]
                                              rw [hgh_28, fz_fo (F := upd (upd (upd (upd f 0 (nI (so (nx (drS k i))))) 1 (nI (so (nx (nx (drS k i)))))) 2 (nI (so (nx (nx (nx (drS k i))))))) 3 (nI (so (nx (nx (nx (nx (drS k i)))))))) (a := so (nx (drS k i))) (b := so (nx (nx (drS k i)))) (c := so (nx (nx (nx (drS k i))))) (d := so (nx (nx (nx (nx (drS k i)))))) rfl rfl rfl rfl (so_lt _) (so_lt _) (so_lt _) (so_lt _)] at hfz
                                              refine lv_topi (fun x_42 ex_42 => ?_)
                                              obtain rfl : x_42 = drF k (i + 1) := by rw [ex_42]; show drF k i + _ = drF k i + fok (drS k i); rw [show fok (drS k i) = 0 from hfz]
                                              refine lv_istore (lv' := [(5, .int (drF k (i + 1))), (8, .int 4), (7, .int 0), (4, .int (drC k (i + 1))), (0, .ref k0), (1, .int (nI n)), (2, .int (nI k)), (3, .int p3), (6, .int (nI i))]) hx hb dX9_drawn_149 hl (by decide) rfl (fun ls hl => ?_)
                                              refine lv_iinc (v := (nI (i + 1))) (lv' := [(6, .int (nI (i + 1))), (5, .int (drF k (i + 1))), (8, .int 4), (7, .int 0), (4, .int (drC k (i + 1))), (0, .ref k0), (1, .int (nI n)), (2, .int (nI k)), (3, .int p3)]) hx hb dX9_drawn_151 hl (k := 8) rfl (nI_1 _) (by decide) rfl (fun ls hl => ?_)
                                              refine lv_goto (tgt := 45) hx hb dX9_drawn_154 (by decide) ?_
                                              exact ih45 (i + 1) _ _ _ (by omega) hr7_29 (by omega) _ _ _ hP hD hS (lv_sub hl [5, 6, 7, 8, 4, 1, 0] rfl)
                                            · exact absurd c140_41 (by decide)
                                          · exact absurd c98_40 (by decide)
                                        · exact absurd c103_39 (by decide)
                                    · exact absurd c103_37 (by decide)
                                · exact absurd c103_35 (by decide)
                            · skip
                              refine lv_iconst (v := 1) hx hb dX9_drawn_123 (by decide) ?_
                              refine lv_goto (tgt := 128) hx hb dX9_drawn_124 (by decide) ?_
                              refine lv_istore (lv' := [(7, .int 1), (8, .int 0), (4, .int (drC k (i + 1))), (0, .ref k0), (1, .int (nI n)), (2, .int (nI k)), (3, .int p3), (5, .int (drF k i)), (6, .int (nI i))]) hx hb dX9_drawn_128 hl (by decide) rfl (fun ls hl => ?_)
                              refine lv_iinc (v := 1) (lv' := [(8, .int 1), (7, .int 1), (4, .int (drC k (i + 1))), (0, .ref k0), (1, .int (nI n)), (2, .int (nI k)), (3, .int p3), (5, .int (drF k i)), (6, .int (nI i))]) hx hb dX9_drawn_130 hl (k := 1) rfl (by decide) (by decide) rfl (fun ls hl => ?_)
                              refine lv_goto (tgt := 95) hx hb dX9_drawn_133 (by decide) ?_
                              refine lv_iload hx hb dX9_drawn_95 (lv_at hl 0 rfl) ?_
                              refine lv_iconst (v := 4) hx hb dX9_drawn_97 (by decide) ?_
                              refine lv_icmp_ge (tgt := 136) hx hb dX9_drawn_98 (by decide) (fun c98_43 => ?_) (fun c98_43 => ?_)
                              · exact absurd c98_43 (by decide)
                              · skip
                                refine lv_iload hx hb dX9_drawn_101 (lv_at hl 1 rfl) ?_
                                refine lv_if_eq (tgt := 127) hx hb dX9_drawn_103 (by decide) (fun c103_44 => ?_) (fun c103_44 => ?_)
                                · exact absurd c103_44 (by decide)
                                · skip
                                  refine lv_aload_n hx hb dX9_drawn_106 rfl (lv_at hl 3 rfl) ?_
                                  refine va_get (D := g.1) (ci := 9) (v := .ref m19) (C := RX9) (T := TX9) (N := 41) hx hb hts q_X9_drawn_g_f9 hown hE.1 hP 0 rfl rfl 19 (by decide) (hts (.fieldLink RX9 37 "SoundLawsModel" "said" "[I") q_X9_drawn_g_4) (fun _ h9 => h9) rfl dX9_drawn_107 ?_
                                  refine lv_iload hx hb dX9_drawn_110 (lv_at hl 0 rfl) ?_
                                  refine k_ald 1 (by decide) (by decide) hx hb hE hP 3 rfl (by decide) dX9_drawn_112 ?_
                                  refine lv_aload_n hx hb dX9_drawn_113 rfl (lv_at hl 3 rfl) ?_
                                  refine va_get (D := g.1) (ci := 9) (v := .ref m18) (C := RX9) (T := TX9) (N := 41) hx hb hts q_X9_drawn_g_f9 hown hE.1 hP 0 rfl rfl 18 (by decide) (hts (.fieldLink RX9 34 "SoundLawsModel" "had" "[I") q_X9_drawn_g_5) (fun _ h9 => h9) rfl dX9_drawn_114 ?_
                                  refine lv_bipush (v := 6) hx hb dX9_drawn_117 (by decide) ?_
                                  refine k_ald 6 (by decide) (by decide) hx hb hE hP 2 rfl (by decide) dX9_drawn_119 ?_
                                  refine lv_icmp_eq (tgt := 127) hx hb dX9_drawn_120 (by decide) (fun c120_45 => ?_) (fun c120_45 => ?_)
                                  · skip
                                    refine lv_iconst (v := 0) hx hb dX9_drawn_127 (by decide) ?_
                                    refine lv_istore (lv' := [(7, .int 0), (8, .int 1), (4, .int (drC k (i + 1))), (0, .ref k0), (1, .int (nI n)), (2, .int (nI k)), (3, .int p3), (5, .int (drF k i)), (6, .int (nI i))]) hx hb dX9_drawn_128 hl (by decide) rfl (fun ls hl => ?_)
                                    refine lv_iinc (v := 2) (lv' := [(8, .int 2), (7, .int 0), (4, .int (drC k (i + 1))), (0, .ref k0), (1, .int (nI n)), (2, .int (nI k)), (3, .int p3), (5, .int (drF k i)), (6, .int (nI i))]) hx hb dX9_drawn_130 hl (k := 1) rfl (by decide) (by decide) rfl (fun ls hl => ?_)
                                    refine lv_goto (tgt := 95) hx hb dX9_drawn_133 (by decide) ?_
                                    refine lv_iload hx hb dX9_drawn_95 (lv_at hl 0 rfl) ?_
                                    refine lv_iconst (v := 4) hx hb dX9_drawn_97 (by decide) ?_
                                    refine lv_icmp_ge (tgt := 136) hx hb dX9_drawn_98 (by decide) (fun c98_46 => ?_) (fun c98_46 => ?_)
                                    · exact absurd c98_46 (by decide)
                                    · skip
                                      refine lv_iload hx hb dX9_drawn_101 (lv_at hl 1 rfl) ?_
                                      refine lv_if_eq (tgt := 127) hx hb dX9_drawn_103 (by decide) (fun c103_47 => ?_) (fun c103_47 => ?_)
                                      · skip
                                        refine lv_iconst (v := 0) hx hb dX9_drawn_127 (by decide) ?_
                                        refine lv_istore (lv' := [(7, .int 0), (8, .int 2), (4, .int (drC k (i + 1))), (0, .ref k0), (1, .int (nI n)), (2, .int (nI k)), (3, .int p3), (5, .int (drF k i)), (6, .int (nI i))]) hx hb dX9_drawn_128 hl (by decide) rfl (fun ls hl => ?_)
                                        refine lv_iinc (v := 3) (lv' := [(8, .int 3), (7, .int 0), (4, .int (drC k (i + 1))), (0, .ref k0), (1, .int (nI n)), (2, .int (nI k)), (3, .int p3), (5, .int (drF k i)), (6, .int (nI i))]) hx hb dX9_drawn_130 hl (k := 1) rfl (by decide) (by decide) rfl (fun ls hl => ?_)
                                        refine lv_goto (tgt := 95) hx hb dX9_drawn_133 (by decide) ?_
                                        refine lv_iload hx hb dX9_drawn_95 (lv_at hl 0 rfl) ?_
                                        refine lv_iconst (v := 4) hx hb dX9_drawn_97 (by decide) ?_
                                        refine lv_icmp_ge (tgt := 136) hx hb dX9_drawn_98 (by decide) (fun c98_48 => ?_) (fun c98_48 => ?_)
                                        · exact absurd c98_48 (by decide)
                                        · skip
                                          refine lv_iload hx hb dX9_drawn_101 (lv_at hl 1 rfl) ?_
                                          refine lv_if_eq (tgt := 127) hx hb dX9_drawn_103 (by decide) (fun c103_49 => ?_) (fun c103_49 => ?_)
                                          · skip
                                            refine lv_iconst (v := 0) hx hb dX9_drawn_127 (by decide) ?_
                                            refine lv_istore (lv' := [(7, .int 0), (8, .int 3), (4, .int (drC k (i + 1))), (0, .ref k0), (1, .int (nI n)), (2, .int (nI k)), (3, .int p3), (5, .int (drF k i)), (6, .int (nI i))]) hx hb dX9_drawn_128 hl (by decide) rfl (fun ls hl => ?_)
                                            refine lv_iinc (v := 4) (lv' := [(8, .int 4), (7, .int 0), (4, .int (drC k (i + 1))), (0, .ref k0), (1, .int (nI n)), (2, .int (nI k)), (3, .int p3), (5, .int (drF k i)), (6, .int (nI i))]) hx hb dX9_drawn_130 hl (k := 1) rfl (by decide) (by decide) rfl (fun ls hl => ?_)
                                            refine lv_goto (tgt := 95) hx hb dX9_drawn_133 (by decide) ?_
                                            refine lv_iload hx hb dX9_drawn_95 (lv_at hl 0 rfl) ?_
                                            refine lv_iconst (v := 4) hx hb dX9_drawn_97 (by decide) ?_
                                            refine lv_icmp_ge (tgt := 136) hx hb dX9_drawn_98 (by decide) (fun c98_50 => ?_) (fun c98_50 => ?_)
                                            · skip
                                              refine lv_iload hx hb dX9_drawn_136 (lv_at hl 7 rfl) ?_
                                              refine lv_iload hx hb dX9_drawn_138 (lv_at hl 1 rfl) ?_
                                              refine lv_if_eq (tgt := 147) hx hb dX9_drawn_140 (by decide) (fun c140_51 => ?_) (fun c140_51 => ?_)
                                              · skip
                                                refine lv_iconst (v := 0) hx hb dX9_drawn_147 (by decide) ?_
                                                refine lv_iadd hx hb dX9_drawn_148 ?_
                                                have hfz : fz (upd (upd (upd (upd f 0 (nI (so (nx (drS k i))))) 1 (nI (so (nx (nx (drS k i)))))) 2 (nI (so (nx (nx (nx (drS k i))))))) 3 (nI (so (nx (nx (nx (nx (drS k i)))))))) (gh_26 6) = 0 := by simp [fz, c120_33, c120_45]
                                                rw [hgh_28, fz_fo (F := upd (upd (upd (upd f 0 (nI (so (nx (drS k i))))) 1 (nI (so (nx (nx (drS k i)))))) 2 (nI (so (nx (nx (nx (drS k i))))))) 3 (nI (so (nx (nx (nx (nx (drS k i)))))))) (a := so (nx (drS k i))) (b := so (nx (nx (drS k i)))) (c := so (nx (nx (nx (drS k i))))) (d := so (nx (nx (nx (nx (drS k i)))))) rfl rfl rfl rfl (so_lt _) (so_lt _) (so_lt _) (so_lt _)] at hfz
                                                refine lv_topi (fun x_52 ex_52 => ?_)
                                                obtain rfl : x_52 = drF k (i + 1) := by rw [ex_52]; show drF k i + _ = drF k i + fok (drS k i); rw [show fok (drS k i) = 0 from hfz]
                                                refine lv_istore (lv' := [(5, .int (drF k (i + 1))), (8, .int 4), (7, .int 0), (4, .int (drC k (i + 1))), (0, .ref k0), (1, .int (nI n)), (2, .int (nI k)), (3, .int p3), (6, .int (nI i))]) hx hb dX9_drawn_149 hl (by decide) rfl (fun ls hl => ?_)
                                                refine lv_iinc (v := (nI (i + 1))) (lv' := [(6, .int (nI (i + 1))), (5, .int (drF k (i + 1))), (8, .int 4), (7, .int 0), (4, .int (drC k (i + 1))), (0, .ref k0), (1, .int (nI n)), (2, .int (nI k)), (3, .int p3)]) hx hb dX9_drawn_151 hl (k := 8) rfl (nI_1 _) (by decide) rfl (fun ls hl => ?_)
                                                refine lv_goto (tgt := 45) hx hb dX9_drawn_154 (by decide) ?_
                                                exact ih45 (i + 1) _ _ _ (by omega) hr7_29 (by omega) _ _ _ hP hD hS (lv_sub hl [5, 6, 7, 8, 4, 1, 0] rfl)
                                              · exact absurd c140_51 (by decide)
                                            · exact absurd c98_50 (by decide)
                                          · exact absurd c103_49 (by decide)
                                      · exact absurd c103_47 (by decide)
                                  · skip
                                    refine lv_iconst (v := 1) hx hb dX9_drawn_123 (by decide) ?_
                                    refine lv_goto (tgt := 128) hx hb dX9_drawn_124 (by decide) ?_
                                    refine lv_istore (lv' := [(7, .int 1), (8, .int 1), (4, .int (drC k (i + 1))), (0, .ref k0), (1, .int (nI n)), (2, .int (nI k)), (3, .int p3), (5, .int (drF k i)), (6, .int (nI i))]) hx hb dX9_drawn_128 hl (by decide) rfl (fun ls hl => ?_)
                                    refine lv_iinc (v := 2) (lv' := [(8, .int 2), (7, .int 1), (4, .int (drC k (i + 1))), (0, .ref k0), (1, .int (nI n)), (2, .int (nI k)), (3, .int p3), (5, .int (drF k i)), (6, .int (nI i))]) hx hb dX9_drawn_130 hl (k := 1) rfl (by decide) (by decide) rfl (fun ls hl => ?_)
                                    refine lv_goto (tgt := 95) hx hb dX9_drawn_133 (by decide) ?_
                                    refine lv_iload hx hb dX9_drawn_95 (lv_at hl 0 rfl) ?_
                                    refine lv_iconst (v := 4) hx hb dX9_drawn_97 (by decide) ?_
                                    refine lv_icmp_ge (tgt := 136) hx hb dX9_drawn_98 (by decide) (fun c98_53 => ?_) (fun c98_53 => ?_)
                                    · exact absurd c98_53 (by decide)
                                    · skip
                                      refine lv_iload hx hb dX9_drawn_101 (lv_at hl 1 rfl) ?_
                                      refine lv_if_eq (tgt := 127) hx hb dX9_drawn_103 (by decide) (fun c103_54 => ?_) (fun c103_54 => ?_)
                                      · exact absurd c103_54 (by decide)
                                      · skip
                                        refine lv_aload_n hx hb dX9_drawn_106 rfl (lv_at hl 3 rfl) ?_
                                        refine va_get (D := g.1) (ci := 9) (v := .ref m19) (C := RX9) (T := TX9) (N := 41) hx hb hts q_X9_drawn_g_f9 hown hE.1 hP 0 rfl rfl 19 (by decide) (hts (.fieldLink RX9 37 "SoundLawsModel" "said" "[I") q_X9_drawn_g_4) (fun _ h9 => h9) rfl dX9_drawn_107 ?_
                                        refine lv_iload hx hb dX9_drawn_110 (lv_at hl 0 rfl) ?_
                                        refine k_ald 2 (by decide) (by decide) hx hb hE hP 3 rfl (by decide) dX9_drawn_112 ?_
                                        refine lv_aload_n hx hb dX9_drawn_113 rfl (lv_at hl 3 rfl) ?_
                                        refine va_get (D := g.1) (ci := 9) (v := .ref m18) (C := RX9) (T := TX9) (N := 41) hx hb hts q_X9_drawn_g_f9 hown hE.1 hP 0 rfl rfl 18 (by decide) (hts (.fieldLink RX9 34 "SoundLawsModel" "had" "[I") q_X9_drawn_g_5) (fun _ h9 => h9) rfl dX9_drawn_114 ?_
                                        refine lv_bipush (v := 6) hx hb dX9_drawn_117 (by decide) ?_
                                        refine k_ald 6 (by decide) (by decide) hx hb hE hP 2 rfl (by decide) dX9_drawn_119 ?_
                                        refine lv_icmp_eq (tgt := 127) hx hb dX9_drawn_120 (by decide) (fun c120_55 => ?_) (fun c120_55 => ?_)
                                        · skip
                                          refine lv_iconst (v := 0) hx hb dX9_drawn_127 (by decide) ?_
                                          refine lv_istore (lv' := [(7, .int 0), (8, .int 2), (4, .int (drC k (i + 1))), (0, .ref k0), (1, .int (nI n)), (2, .int (nI k)), (3, .int p3), (5, .int (drF k i)), (6, .int (nI i))]) hx hb dX9_drawn_128 hl (by decide) rfl (fun ls hl => ?_)
                                          refine lv_iinc (v := 3) (lv' := [(8, .int 3), (7, .int 0), (4, .int (drC k (i + 1))), (0, .ref k0), (1, .int (nI n)), (2, .int (nI k)), (3, .int p3), (5, .int (drF k i)), (6, .int (nI i))]) hx hb dX9_drawn_130 hl (k := 1) rfl (by decide) (by decide) rfl (fun ls hl => ?_)
                                          refine lv_goto (tgt := 95) hx hb dX9_drawn_133 (by decide) ?_
                                          refine lv_iload hx hb dX9_drawn_95 (lv_at hl 0 rfl) ?_
                                          refine lv_iconst (v := 4) hx hb dX9_drawn_97 (by decide) ?_
                                          refine lv_icmp_ge (tgt := 136) hx hb dX9_drawn_98 (by decide) (fun c98_56 => ?_) (fun c98_56 => ?_)
                                          · exact absurd c98_56 (by decide)
                                          · skip
                                            refine lv_iload hx hb dX9_drawn_101 (lv_at hl 1 rfl) ?_
                                            refine lv_if_eq (tgt := 127) hx hb dX9_drawn_103 (by decide) (fun c103_57 => ?_) (fun c103_57 => ?_)
                                            · skip
                                              refine lv_iconst (v := 0) hx hb dX9_drawn_127 (by decide) ?_
                                              refine lv_istore (lv' := [(7, .int 0), (8, .int 3), (4, .int (drC k (i + 1))), (0, .ref k0), (1, .int (nI n)), (2, .int (nI k)), (3, .int p3), (5, .int (drF k i)), (6, .int (nI i))]) hx hb dX9_drawn_128 hl (by decide) rfl (fun ls hl => ?_)
                                              refine lv_iinc (v := 4) (lv' := [(8, .int 4), (7, .int 0), (4, .int (drC k (i + 1))), (0, .ref k0), (1, .int (nI n)), (2, .int (nI k)), (3, .int p3), (5, .int (drF k i)), (6, .int (nI i))]) hx hb dX9_drawn_130 hl (k := 1) rfl (by decide) (by decide) rfl (fun ls hl => ?_)
                                              refine lv_goto (tgt := 95) hx hb dX9_drawn_133 (by decide) ?_
                                              refine lv_iload hx hb dX9_drawn_95 (lv_at hl 0 rfl) ?_
                                              refine lv_iconst (v := 4) hx hb dX9_drawn_97 (by decide) ?_
                                              refine lv_icmp_ge (tgt := 136) hx hb dX9_drawn_98 (by decide) (fun c98_58 => ?_) (fun c98_58 => ?_)
                                              · skip
                                                refine lv_iload hx hb dX9_drawn_136 (lv_at hl 7 rfl) ?_
                                                refine lv_iload hx hb dX9_drawn_138 (lv_at hl 1 rfl) ?_
                                                refine lv_if_eq (tgt := 147) hx hb dX9_drawn_140 (by decide) (fun c140_59 => ?_) (fun c140_59 => ?_)
                                                · skip
                                                  refine lv_iconst (v := 0) hx hb dX9_drawn_147 (by decide) ?_
                                                  refine lv_iadd hx hb dX9_drawn_148 ?_
                                                  have hfz : fz (upd (upd (upd (upd f 0 (nI (so (nx (drS k i))))) 1 (nI (so (nx (nx (drS k i)))))) 2 (nI (so (nx (nx (nx (drS k i))))))) 3 (nI (so (nx (nx (nx (nx (drS k i)))))))) (gh_26 6) = 0 := by simp [fz, c120_33, c120_45, c120_55]
                                                  rw [hgh_28, fz_fo (F := upd (upd (upd (upd f 0 (nI (so (nx (drS k i))))) 1 (nI (so (nx (nx (drS k i)))))) 2 (nI (so (nx (nx (nx (drS k i))))))) 3 (nI (so (nx (nx (nx (nx (drS k i)))))))) (a := so (nx (drS k i))) (b := so (nx (nx (drS k i)))) (c := so (nx (nx (nx (drS k i))))) (d := so (nx (nx (nx (nx (drS k i)))))) rfl rfl rfl rfl (so_lt _) (so_lt _) (so_lt _) (so_lt _)] at hfz
                                                  refine lv_topi (fun x_60 ex_60 => ?_)
                                                  obtain rfl : x_60 = drF k (i + 1) := by rw [ex_60]; show drF k i + _ = drF k i + fok (drS k i); rw [show fok (drS k i) = 0 from hfz]
                                                  refine lv_istore (lv' := [(5, .int (drF k (i + 1))), (8, .int 4), (7, .int 0), (4, .int (drC k (i + 1))), (0, .ref k0), (1, .int (nI n)), (2, .int (nI k)), (3, .int p3), (6, .int (nI i))]) hx hb dX9_drawn_149 hl (by decide) rfl (fun ls hl => ?_)
                                                  refine lv_iinc (v := (nI (i + 1))) (lv' := [(6, .int (nI (i + 1))), (5, .int (drF k (i + 1))), (8, .int 4), (7, .int 0), (4, .int (drC k (i + 1))), (0, .ref k0), (1, .int (nI n)), (2, .int (nI k)), (3, .int p3)]) hx hb dX9_drawn_151 hl (k := 8) rfl (nI_1 _) (by decide) rfl (fun ls hl => ?_)
                                                  refine lv_goto (tgt := 45) hx hb dX9_drawn_154 (by decide) ?_
                                                  exact ih45 (i + 1) _ _ _ (by omega) hr7_29 (by omega) _ _ _ hP hD hS (lv_sub hl [5, 6, 7, 8, 4, 1, 0] rfl)
                                                · exact absurd c140_59 (by decide)
                                              · exact absurd c98_58 (by decide)
                                            · exact absurd c103_57 (by decide)
                                        · skip
                                          refine lv_iconst (v := 1) hx hb dX9_drawn_123 (by decide) ?_
                                          refine lv_goto (tgt := 128) hx hb dX9_drawn_124 (by decide) ?_
                                          refine lv_istore (lv' := [(7, .int 1), (8, .int 2), (4, .int (drC k (i + 1))), (0, .ref k0), (1, .int (nI n)), (2, .int (nI k)), (3, .int p3), (5, .int (drF k i)), (6, .int (nI i))]) hx hb dX9_drawn_128 hl (by decide) rfl (fun ls hl => ?_)
                                          refine lv_iinc (v := 3) (lv' := [(8, .int 3), (7, .int 1), (4, .int (drC k (i + 1))), (0, .ref k0), (1, .int (nI n)), (2, .int (nI k)), (3, .int p3), (5, .int (drF k i)), (6, .int (nI i))]) hx hb dX9_drawn_130 hl (k := 1) rfl (by decide) (by decide) rfl (fun ls hl => ?_)
                                          refine lv_goto (tgt := 95) hx hb dX9_drawn_133 (by decide) ?_
                                          refine lv_iload hx hb dX9_drawn_95 (lv_at hl 0 rfl) ?_
                                          refine lv_iconst (v := 4) hx hb dX9_drawn_97 (by decide) ?_
                                          refine lv_icmp_ge (tgt := 136) hx hb dX9_drawn_98 (by decide) (fun c98_61 => ?_) (fun c98_61 => ?_)
                                          · exact absurd c98_61 (by decide)
                                          · skip
                                            refine lv_iload hx hb dX9_drawn_101 (lv_at hl 1 rfl) ?_
                                            refine lv_if_eq (tgt := 127) hx hb dX9_drawn_103 (by decide) (fun c103_62 => ?_) (fun c103_62 => ?_)
                                            · exact absurd c103_62 (by decide)
                                            · skip
                                              refine lv_aload_n hx hb dX9_drawn_106 rfl (lv_at hl 3 rfl) ?_
                                              refine va_get (D := g.1) (ci := 9) (v := .ref m19) (C := RX9) (T := TX9) (N := 41) hx hb hts q_X9_drawn_g_f9 hown hE.1 hP 0 rfl rfl 19 (by decide) (hts (.fieldLink RX9 37 "SoundLawsModel" "said" "[I") q_X9_drawn_g_4) (fun _ h9 => h9) rfl dX9_drawn_107 ?_
                                              refine lv_iload hx hb dX9_drawn_110 (lv_at hl 0 rfl) ?_
                                              refine k_ald 3 (by decide) (by decide) hx hb hE hP 3 rfl (by decide) dX9_drawn_112 ?_
                                              refine lv_aload_n hx hb dX9_drawn_113 rfl (lv_at hl 3 rfl) ?_
                                              refine va_get (D := g.1) (ci := 9) (v := .ref m18) (C := RX9) (T := TX9) (N := 41) hx hb hts q_X9_drawn_g_f9 hown hE.1 hP 0 rfl rfl 18 (by decide) (hts (.fieldLink RX9 34 "SoundLawsModel" "had" "[I") q_X9_drawn_g_5) (fun _ h9 => h9) rfl dX9_drawn_114 ?_
                                              refine lv_bipush (v := 6) hx hb dX9_drawn_117 (by decide) ?_
                                              refine k_ald 6 (by decide) (by decide) hx hb hE hP 2 rfl (by decide) dX9_drawn_119 ?_
                                              refine lv_icmp_eq (tgt := 127) hx hb dX9_drawn_120 (by decide) (fun c120_63 => ?_) (fun c120_63 => ?_)
                                              · skip
                                                refine lv_iconst (v := 0) hx hb dX9_drawn_127 (by decide) ?_
                                                refine lv_istore (lv' := [(7, .int 0), (8, .int 3), (4, .int (drC k (i + 1))), (0, .ref k0), (1, .int (nI n)), (2, .int (nI k)), (3, .int p3), (5, .int (drF k i)), (6, .int (nI i))]) hx hb dX9_drawn_128 hl (by decide) rfl (fun ls hl => ?_)
                                                refine lv_iinc (v := 4) (lv' := [(8, .int 4), (7, .int 0), (4, .int (drC k (i + 1))), (0, .ref k0), (1, .int (nI n)), (2, .int (nI k)), (3, .int p3), (5, .int (drF k i)), (6, .int (nI i))]) hx hb dX9_drawn_130 hl (k := 1) rfl (by decide) (by decide) rfl (fun ls hl => ?_)
                                                refine lv_goto (tgt := 95) hx hb dX9_drawn_133 (by decide) ?_
                                                refine lv_iload hx hb dX9_drawn_95 (lv_at hl 0 rfl) ?_
                                                refine lv_iconst (v := 4) hx hb dX9_drawn_97 (by decide) ?_
                                                refine lv_icmp_ge (tgt := 136) hx hb dX9_drawn_98 (by decide) (fun c98_64 => ?_) (fun c98_64 => ?_)
                                                · skip
                                                  refine lv_iload hx hb dX9_drawn_136 (lv_at hl 7 rfl) ?_
                                                  refine lv_iload hx hb dX9_drawn_138 (lv_at hl 1 rfl) ?_
                                                  refine lv_if_eq (tgt := 147) hx hb dX9_drawn_140 (by decide) (fun c140_65 => ?_) (fun c140_65 => ?_)
                                                  · skip
                                                    refine lv_iconst (v := 0) hx hb dX9_drawn_147 (by decide) ?_
                                                    refine lv_iadd hx hb dX9_drawn_148 ?_
                                                    have hfz : fz (upd (upd (upd (upd f 0 (nI (so (nx (drS k i))))) 1 (nI (so (nx (nx (drS k i)))))) 2 (nI (so (nx (nx (nx (drS k i))))))) 3 (nI (so (nx (nx (nx (nx (drS k i)))))))) (gh_26 6) = 0 := by simp [fz, c120_33, c120_45, c120_55, c120_63]
                                                    rw [hgh_28, fz_fo (F := upd (upd (upd (upd f 0 (nI (so (nx (drS k i))))) 1 (nI (so (nx (nx (drS k i)))))) 2 (nI (so (nx (nx (nx (drS k i))))))) 3 (nI (so (nx (nx (nx (nx (drS k i)))))))) (a := so (nx (drS k i))) (b := so (nx (nx (drS k i)))) (c := so (nx (nx (nx (drS k i))))) (d := so (nx (nx (nx (nx (drS k i)))))) rfl rfl rfl rfl (so_lt _) (so_lt _) (so_lt _) (so_lt _)] at hfz
                                                    refine lv_topi (fun x_66 ex_66 => ?_)
                                                    obtain rfl : x_66 = drF k (i + 1) := by rw [ex_66]; show drF k i + _ = drF k i + fok (drS k i); rw [show fok (drS k i) = 0 from hfz]
                                                    refine lv_istore (lv' := [(5, .int (drF k (i + 1))), (8, .int 4), (7, .int 0), (4, .int (drC k (i + 1))), (0, .ref k0), (1, .int (nI n)), (2, .int (nI k)), (3, .int p3), (6, .int (nI i))]) hx hb dX9_drawn_149 hl (by decide) rfl (fun ls hl => ?_)
                                                    refine lv_iinc (v := (nI (i + 1))) (lv' := [(6, .int (nI (i + 1))), (5, .int (drF k (i + 1))), (8, .int 4), (7, .int 0), (4, .int (drC k (i + 1))), (0, .ref k0), (1, .int (nI n)), (2, .int (nI k)), (3, .int p3)]) hx hb dX9_drawn_151 hl (k := 8) rfl (nI_1 _) (by decide) rfl (fun ls hl => ?_)
                                                    refine lv_goto (tgt := 45) hx hb dX9_drawn_154 (by decide) ?_
                                                    exact ih45 (i + 1) _ _ _ (by omega) hr7_29 (by omega) _ _ _ hP hD hS (lv_sub hl [5, 6, 7, 8, 4, 1, 0] rfl)
                                                  · exact absurd c140_65 (by decide)
                                                · exact absurd c98_64 (by decide)
                                              · skip
                                                refine lv_iconst (v := 1) hx hb dX9_drawn_123 (by decide) ?_
                                                refine lv_goto (tgt := 128) hx hb dX9_drawn_124 (by decide) ?_
                                                refine lv_istore (lv' := [(7, .int 1), (8, .int 3), (4, .int (drC k (i + 1))), (0, .ref k0), (1, .int (nI n)), (2, .int (nI k)), (3, .int p3), (5, .int (drF k i)), (6, .int (nI i))]) hx hb dX9_drawn_128 hl (by decide) rfl (fun ls hl => ?_)
                                                refine lv_iinc (v := 4) (lv' := [(8, .int 4), (7, .int 1), (4, .int (drC k (i + 1))), (0, .ref k0), (1, .int (nI n)), (2, .int (nI k)), (3, .int p3), (5, .int (drF k i)), (6, .int (nI i))]) hx hb dX9_drawn_130 hl (k := 1) rfl (by decide) (by decide) rfl (fun ls hl => ?_)
                                                refine lv_goto (tgt := 95) hx hb dX9_drawn_133 (by decide) ?_
                                                refine lv_iload hx hb dX9_drawn_95 (lv_at hl 0 rfl) ?_
                                                refine lv_iconst (v := 4) hx hb dX9_drawn_97 (by decide) ?_
                                                refine lv_icmp_ge (tgt := 136) hx hb dX9_drawn_98 (by decide) (fun c98_67 => ?_) (fun c98_67 => ?_)
                                                · skip
                                                  refine lv_iload hx hb dX9_drawn_136 (lv_at hl 7 rfl) ?_
                                                  refine lv_iload hx hb dX9_drawn_138 (lv_at hl 1 rfl) ?_
                                                  refine lv_if_eq (tgt := 147) hx hb dX9_drawn_140 (by decide) (fun c140_68 => ?_) (fun c140_68 => ?_)
                                                  · exact absurd c140_68 (by decide)
                                                  · skip
                                                    refine lv_iconst (v := 1) hx hb dX9_drawn_143 (by decide) ?_
                                                    refine lv_goto (tgt := 148) hx hb dX9_drawn_144 (by decide) ?_
                                                    refine lv_iadd hx hb dX9_drawn_148 ?_
                                                    have hfz : fz (upd (upd (upd (upd f 0 (nI (so (nx (drS k i))))) 1 (nI (so (nx (nx (drS k i)))))) 2 (nI (so (nx (nx (nx (drS k i))))))) 3 (nI (so (nx (nx (nx (nx (drS k i)))))))) (gh_26 6) = 1 := by simp [fz, c120_33, c120_45, c120_55, c120_63]
                                                    rw [hgh_28, fz_fo (F := upd (upd (upd (upd f 0 (nI (so (nx (drS k i))))) 1 (nI (so (nx (nx (drS k i)))))) 2 (nI (so (nx (nx (nx (drS k i))))))) 3 (nI (so (nx (nx (nx (nx (drS k i)))))))) (a := so (nx (drS k i))) (b := so (nx (nx (drS k i)))) (c := so (nx (nx (nx (drS k i))))) (d := so (nx (nx (nx (nx (drS k i)))))) rfl rfl rfl rfl (so_lt _) (so_lt _) (so_lt _) (so_lt _)] at hfz
                                                    refine lv_topi (fun x_69 ex_69 => ?_)
                                                    obtain rfl : x_69 = drF k (i + 1) := by rw [ex_69]; show drF k i + _ = drF k i + fok (drS k i); rw [show fok (drS k i) = 1 from hfz]
                                                    refine lv_istore (lv' := [(5, .int (drF k (i + 1))), (8, .int 4), (7, .int 1), (4, .int (drC k (i + 1))), (0, .ref k0), (1, .int (nI n)), (2, .int (nI k)), (3, .int p3), (6, .int (nI i))]) hx hb dX9_drawn_149 hl (by decide) rfl (fun ls hl => ?_)
                                                    refine lv_iinc (v := (nI (i + 1))) (lv' := [(6, .int (nI (i + 1))), (5, .int (drF k (i + 1))), (8, .int 4), (7, .int 1), (4, .int (drC k (i + 1))), (0, .ref k0), (1, .int (nI n)), (2, .int (nI k)), (3, .int p3)]) hx hb dX9_drawn_151 hl (k := 8) rfl (nI_1 _) (by decide) rfl (fun ls hl => ?_)
                                                    refine lv_goto (tgt := 45) hx hb dX9_drawn_154 (by decide) ?_
                                                    exact ih45 (i + 1) _ _ _ (by omega) hr7_29 (by omega) _ _ _ hP hD hS (lv_sub hl [5, 6, 7, 8, 4, 1, 0] rfl)
                                                · exact absurd c98_67 (by decide)
                      · exact absurd c57_23 (by decide)
        exact loop45 _ 0 fc fs fh (Nat.zero_le n) hh (Nat.lt_succ_self _) _ _ _ hP hD hS (lv_sub hl [3, 4, 5, 6, 2, 1, 0] rfl)
      · skip
        refine lv_bipush (v := (-102)) hx hb dX9_drawn_28 (by decide) ?_
        refine W.widen (k := 0) (n := 0) (Nat.le_of_ble_eq_true rfl) (Nat.le_of_ble_eq_true rfl) ?_
        exact k_ri hx hb hr hlocks hS hP hD ⟨s31, fc, fs, fh, rfl, (by unfold rD; rw [if_pos (by rcases in_eq (x := p3) (a := 0) (b := 2) c25_7 with h | h; exact Or.inr (Or.inr (Or.inr (Or.inl h))); exact Or.inr (Or.inr (Or.inr (Or.inr ((lt3_iff p3).mp h)))))]), hh⟩ dX9_drawn_30
def po_X9_letter_f (g : GG) (k0 : Nat) (m0 : Nat) (s2 : Int32) (s3 : Int32) (s4 : Int32) (s5 : Int32) (s6 : Int32) (m7 : Nat) (m8 : Nat) (m9 : Nat) (s10 : Int32) (s11 : Int32) (s12 : Int32) (m13 : Nat) (m14 : Nat) (m15 : Nat) (s16 : Int32) (m17 : Nat) (m18 : Nat) (m19 : Nat) (m20 : Nat) (m21 : Nat) (m22 : Nat) (m23 : Nat) (m24 : Nat) (m25 : Nat) (m26 : Nat) (m27 : Nat) (m28 : Nat) (s29 : Int32) (m30 : Nat) (s31 : Int32) (s32 : Int32) (s33 : Int32) (s34 : Int32) (s35 : Int32) (m36 : Nat) (m37 : Nat) (m38 : Nat) (m39 : Nat) (s40 : Int64) (a : Nat) (Pg : Nat → Int32) (p1 : Int32) : Int32 → va_W → Prop := fun (r : Int32) w => ∃ (a2 : Nat) (Pg2 : Nat → Int32), w = [(k0, .inr (9, [.ref m0, .int (nI a2), .int s2, .int s3, .int s4, .int s5, .int s6, .ref m7, .ref m8, .ref m9, .int s10, .int s11, .int s12, .ref m13, .ref m14, .ref m15, .int s16, .ref m17, .ref m18, .ref m19, .ref m20, .ref m21, .ref m22, .ref m23, .ref m24, .ref m25, .ref m26, .ref m27, .ref m28, .int s29, .ref m30, .int s31, .int s32, .int s33, .int s34, .int s35, .ref m36, .ref m37, .ref m38, .ref m39, .long s40])), (m0, ai g 110 Pg2)] ∧ (rLt p1 a = r) ∧ (nLt p1 a = a2) ∧ (fLt p1 a Pg = Pg2)
theorem q_X9_letter_f_0 : (Cond.constantLong RX9 86 (126)) ∈ wsX9_letter := by decide +kernel
theorem q_X9_letter_f_f9 : ∀ w ∈ u_ws RX9 TX9 41, w ∈ wsX9_letter := by decide +kernel
theorem q_X9_letter_f_2 : (Cond.fieldLink RX9 92 "SoundLawsModel" "pageMany" "I") ∈ wsX9_letter := by decide +kernel
theorem q_X9_letter_f_3 : (Cond.fieldLink RX9 7 "SoundLawsModel" "page" "[I") ∈ wsX9_letter := by decide +kernel
set_option maxHeartbeats 1500000 in
set_option maxRecDepth 100000 in
theorem c_X9_letter_f (l : Launch) (g : GG) (k0 : Nat) (m0 : Nat) (s2 : Int32) (s3 : Int32) (s4 : Int32) (s5 : Int32) (s6 : Int32) (m7 : Nat) (m8 : Nat) (m9 : Nat) (s10 : Int32) (s11 : Int32) (s12 : Int32) (m13 : Nat) (m14 : Nat) (m15 : Nat) (s16 : Int32) (m17 : Nat) (m18 : Nat) (m19 : Nat) (m20 : Nat) (m21 : Nat) (m22 : Nat) (m23 : Nat) (m24 : Nat) (m25 : Nat) (m26 : Nat) (m27 : Nat) (m28 : Nat) (s29 : Int32) (m30 : Nat) (s31 : Int32) (s32 : Int32) (s33 : Int32) (s34 : Int32) (s35 : Int32) (m36 : Nat) (m37 : Nat) (m38 : Nat) (m39 : Nat) (s40 : Int64) (a : Nat) (Pg : Nat → Int32) (p1 : Int32) (ha : a ≤ 110) (sz : Nat) : MetI l yX9_letter wsX9_letter ({ frames := 1, cells := 0, slots := 0, locals := 25 }) g [.ref k0, .int p1] [(k0, .inr (9, [.ref m0, .int (nI a), .int s2, .int s3, .int s4, .int s5, .int s6, .ref m7, .ref m8, .ref m9, .int s10, .int s11, .int s12, .ref m13, .ref m14, .ref m15, .int s16, .ref m17, .ref m18, .ref m19, .ref m20, .ref m21, .ref m22, .ref m23, .ref m24, .ref m25, .ref m26, .ref m27, .ref m28, .int s29, .ref m30, .int s31, .int s32, .int s33, .int s34, .int s35, .ref m36, .ref m37, .ref m38, .ref m39, .long s40])), (m0, ai g 110 Pg)] sz (po_X9_letter_f g k0 m0 s2 s3 s4 s5 s6 m7 m8 m9 s10 s11 s12 m13 m14 m15 s16 m17 m18 m19 m20 m21 m22 m23 m24 m25 m26 m27 m28 s29 m30 s31 s32 s33 s34 s35 m36 m37 m38 m39 s40 a Pg p1) 0 0 := by
  refine k_of (l := l) (y := yX9_letter) (ws := wsX9_letter) (rm := { frames := 1, cells := 0, slots := 0, locals := 25 }) (mc := 0) (ms := 0) (av := [.ref k0, .int p1]) (g := g) (wc := [(k0, .inr (9, [.ref m0, .int (nI a), .int s2, .int s3, .int s4, .int s5, .int s6, .ref m7, .ref m8, .ref m9, .int s10, .int s11, .int s12, .ref m13, .ref m14, .ref m15, .int s16, .ref m17, .ref m18, .ref m19, .ref m20, .ref m21, .ref m22, .ref m23, .ref m24, .ref m25, .ref m26, .ref m27, .ref m28, .int s29, .ref m30, .int s31, .int s32, .int s33, .int s34, .int s35, .ref m36, .ref m37, .ref m38, .ref m39, .long s40])), (m0, ai g 110 Pg)]) (Qc := fun A => va_Qi (po_X9_letter_f g k0 m0 s2 s3 s4 s5 s6 m7 m8 m9 s10 s11 s12 m13 m14 m15 s16 m17 m18 m19 m20 m21 m22 m23 m24 m25 m26 m27 m28 s29 m30 s31 s32 s33 s34 s35 m36 m37 m38 m39 s40 a Pg p1) (bk g A) A) (cc := cX9_letter) (maxL := 2) (ret := (some .int)) (by decide) rfl (Nat.le_of_ble_eq_true rfl) ?_ sz
  intro p e s m below meth c hx hb hr hts hown hlocks hnm hml A hA hE hZ hP hD hS ls hl
  have hown : s.vm.findClass RX9 = some m.cls := hown
  have hl : lv_has ls 2 [(0, .ref k0), (1, .int p1)] := hl
  refine lv_iload_n hx hb dX9_letter_0 rfl (lv_at hl 1 rfl) ?_
  refine lv_i2l hx hb dX9_letter_1 rfl ?_
  refine lv_lconst (v := 1) hx hb dX9_letter_2 (by decide) ?_
  refine lv_ldc2 hx hb hown (hts (.constantLong RX9 86 (126)) q_X9_letter_f_0) dX9_letter_3 ?_
  refine k_ci (wr := [(k0, .inr (9, [.ref m0, .int (nI a), .int s2, .int s3, .int s4, .int s5, .int s6, .ref m7, .ref m8, .ref m9, .int s10, .int s11, .int s12, .ref m13, .ref m14, .ref m15, .int s16, .ref m17, .ref m18, .ref m19, .ref m20, .ref m21, .ref m22, .ref m23, .ref m24, .ref m25, .ref m26, .ref m27, .ref m28, .int s29, .ref m30, .int s31, .int s32, .int s33, .int s34, .int s35, .ref m36, .ref m37, .ref m38, .ref m39, .long s40])), (m0, ai g 110 Pg)]) hP hD hS hA [] [0, 1] rfl rfl (by decide) (by decide) (va_runS (As := [.long ((p1 : Int32).toInt64), .long 1, .long 126]) (rest := []) ⟨hx, hb, hml, hown, hts⟩ (c_X9_in l g ((p1 : Int32).toInt64) 1 126  s.heap.size) (va_cwS 3 hts gX9_letter_X9_in rfl rfl rfl (by decide +kernel) ⟨Nat.le_of_ble_eq_true rfl, Nat.le_of_ble_eq_true rfl⟩) (k_preS hE hZ hP hD hS hA [] rfl (by decide)) rfl rfl hl.1 rfl (lv_room (Nat.le_of_ble_eq_true rfl)) dX9_letter_6 ⟨Nat.le_of_ble_eq_true rfl, Nat.le_of_ble_eq_true rfl⟩) (fun r_1 w1 H locs hw hP hD hS => ?_)
  obtain ⟨rfl, rfl⟩ := hw
  have hP : va_P g.1 vwCl [(k0, .inr (9, [.ref m0, .int (nI a), .int s2, .int s3, .int s4, .int s5, .int s6, .ref m7, .ref m8, .ref m9, .int s10, .int s11, .int s12, .ref m13, .ref m14, .ref m15, .int s16, .ref m17, .ref m18, .ref m19, .ref m20, .ref m21, .ref m22, .ref m23, .ref m24, .ref m25, .ref m26, .ref m27, .ref m28, .int s29, .ref m30, .int s31, .int s32, .int s33, .int s34, .int s35, .ref m36, .ref m37, .ref m38, .ref m39, .long s40])), (m0, ai g 110 Pg)] H := hP
  have hD : va_D A [(k0, .inr (9, [.ref m0, .int (nI a), .int s2, .int s3, .int s4, .int s5, .int s6, .ref m7, .ref m8, .ref m9, .int s10, .int s11, .int s12, .ref m13, .ref m14, .ref m15, .int s16, .ref m17, .ref m18, .ref m19, .ref m20, .ref m21, .ref m22, .ref m23, .ref m24, .ref m25, .ref m26, .ref m27, .ref m28, .int s29, .ref m30, .int s31, .int s32, .int s33, .int s34, .int s35, .ref m36, .ref m37, .ref m38, .ref m39, .long s40])), (m0, ai g 110 Pg)] := hD
  refine lv_if_ne (tgt := 15) hx hb dX9_letter_9 (by decide) (fun c9_3 => ?_) (fun c9_3 => ?_)
  · skip
    refine lv_aload_n hx hb dX9_letter_15 rfl (lv_at hl 0 rfl) ?_
    refine va_get (D := g.1) (ci := 9) (v := .int (nI a)) (C := RX9) (T := TX9) (N := 41) hx hb hts q_X9_letter_f_f9 hown hE.1 hP 0 rfl rfl 1 (by decide) (hts (.fieldLink RX9 92 "SoundLawsModel" "pageMany" "I") q_X9_letter_f_2) (fun _ h9 => h9) rfl dX9_letter_16 ?_
    refine lv_bipush (v := 110) hx hb dX9_letter_19 (by decide) ?_
    refine lv_icmp_ne (tgt := 27) hx hb dX9_letter_21 (by decide) (fun c21_4 => ?_) (fun c21_4 => ?_)
    · skip
      have ha9 : a < 110 := by have q : ¬ a = 110 := fun q => c21_4 (by rw [q]; rfl); omega
      refine lv_aload_n hx hb dX9_letter_27 rfl (lv_at hl 0 rfl) ?_
      refine va_get (D := g.1) (ci := 9) (v := .ref m0) (C := RX9) (T := TX9) (N := 41) hx hb hts q_X9_letter_f_f9 hown hE.1 hP 0 rfl rfl 0 (by decide) (hts (.fieldLink RX9 7 "SoundLawsModel" "page" "[I") q_X9_letter_f_3) (fun _ h9 => h9) rfl dX9_letter_28 ?_
      refine lv_aload_n hx hb dX9_letter_31 rfl (lv_at hl 0 rfl) ?_
      refine va_get (D := g.1) (ci := 9) (v := .int (nI a)) (C := RX9) (T := TX9) (N := 41) hx hb hts q_X9_letter_f_f9 hown hE.1 hP 0 rfl rfl 1 (by decide) (hts (.fieldLink RX9 92 "SoundLawsModel" "pageMany" "I") q_X9_letter_f_2) (fun _ h9 => h9) rfl dX9_letter_32 ?_
      refine lv_iload_n hx hb dX9_letter_35 rfl (lv_at hl 1 rfl) ?_
      refine k_ast (x := p1) a rfl (by omega) hx hb hE hP hD hS 1 rfl (by decide) dX9_letter_36 (fun H locs hP hD hS => ?_)
      have hP : va_P g.1 vwCl [(k0, .inr (9, [.ref m0, .int (nI a), .int s2, .int s3, .int s4, .int s5, .int s6, .ref m7, .ref m8, .ref m9, .int s10, .int s11, .int s12, .ref m13, .ref m14, .ref m15, .int s16, .ref m17, .ref m18, .ref m19, .ref m20, .ref m21, .ref m22, .ref m23, .ref m24, .ref m25, .ref m26, .ref m27, .ref m28, .int s29, .ref m30, .int s31, .int s32, .int s33, .int s34, .int s35, .ref m36, .ref m37, .ref m38, .ref m39, .long s40])), (m0, ai g 110 (upd Pg a p1))] H := hP
      have hD : va_D A [(k0, .inr (9, [.ref m0, .int (nI a), .int s2, .int s3, .int s4, .int s5, .int s6, .ref m7, .ref m8, .ref m9, .int s10, .int s11, .int s12, .ref m13, .ref m14, .ref m15, .int s16, .ref m17, .ref m18, .ref m19, .ref m20, .ref m21, .ref m22, .ref m23, .ref m24, .ref m25, .ref m26, .ref m27, .ref m28, .int s29, .ref m30, .int s31, .int s32, .int s33, .int s34, .int s35, .ref m36, .ref m37, .ref m38, .ref m39, .long s40])), (m0, ai g 110 (upd Pg a p1))] := hD
      refine lv_aload_n hx hb dX9_letter_37 rfl (lv_at hl 0 rfl) ?_
      refine lv_dup hx hb dX9_letter_38 rfl ?_
      refine va_get (D := g.1) (ci := 9) (v := .int (nI a)) (C := RX9) (T := TX9) (N := 41) hx hb hts q_X9_letter_f_f9 hown hE.1 hP 0 rfl rfl 1 (by decide) (hts (.fieldLink RX9 92 "SoundLawsModel" "pageMany" "I") q_X9_letter_f_2) (fun _ h9 => h9) rfl dX9_letter_39 ?_
      refine lv_iconst (v := 1) hx hb dX9_letter_42 (by decide) ?_
      refine lv_iadd hx hb dX9_letter_43 ?_
      refine lv_topi (fun x_5 ex_5 => ?_)
      obtain rfl : x_5 = nI (a + 1) := by rw [ex_5]; exact nI_1 a
      refine va_put (D := g.1) (ci := 9) (v := .int (nI (a + 1))) (ty := .int) (C := RX9) (T := TX9) (N := 41) hx hb hts q_X9_letter_f_f9 tyX9 tyX9_ok nmX9 hown hE.1 hP hD hS 0 rfl rfl 1 (by decide) (hts (.fieldLink RX9 92 "SoundLawsModel" "pageMany" "I") q_X9_letter_f_2) (fun _ h9 => h9) rfl (by decide +kernel) rfl rfl (Nat.le_of_ble_eq_true rfl) dX9_letter_44 (fun H locs hP hD hS => ?_)
      have hP : va_P g.1 vwCl [(k0, .inr (9, [.ref m0, .int (nI (a + 1)), .int s2, .int s3, .int s4, .int s5, .int s6, .ref m7, .ref m8, .ref m9, .int s10, .int s11, .int s12, .ref m13, .ref m14, .ref m15, .int s16, .ref m17, .ref m18, .ref m19, .ref m20, .ref m21, .ref m22, .ref m23, .ref m24, .ref m25, .ref m26, .ref m27, .ref m28, .int s29, .ref m30, .int s31, .int s32, .int s33, .int s34, .int s35, .ref m36, .ref m37, .ref m38, .ref m39, .long s40])), (m0, ai g 110 (upd Pg a p1))] H := hP
      have hD : va_D A [(k0, .inr (9, [.ref m0, .int (nI (a + 1)), .int s2, .int s3, .int s4, .int s5, .int s6, .ref m7, .ref m8, .ref m9, .int s10, .int s11, .int s12, .ref m13, .ref m14, .ref m15, .int s16, .ref m17, .ref m18, .ref m19, .ref m20, .ref m21, .ref m22, .ref m23, .ref m24, .ref m25, .ref m26, .ref m27, .ref m28, .int s29, .ref m30, .int s31, .int s32, .int s33, .int s34, .int s35, .ref m36, .ref m37, .ref m38, .ref m39, .long s40])), (m0, ai g 110 (upd Pg a p1))] := hD
      refine lv_aload_n hx hb dX9_letter_47 rfl (lv_at hl 0 rfl) ?_
      refine va_get (D := g.1) (ci := 9) (v := .int (nI (a + 1))) (C := RX9) (T := TX9) (N := 41) hx hb hts q_X9_letter_f_f9 hown hE.1 hP 0 rfl rfl 1 (by decide) (hts (.fieldLink RX9 92 "SoundLawsModel" "pageMany" "I") q_X9_letter_f_2) (fun _ h9 => h9) rfl dX9_letter_48 ?_
      refine W.widen (k := 0) (n := 0) (Nat.le_of_ble_eq_true rfl) (Nat.le_of_ble_eq_true rfl) ?_
      exact k_ri hx hb hr hlocks hS hP hD ⟨(a + 1), (upd Pg a p1), rfl, (by unfold rLt; rw [if_neg (fun h => h.elim (in_ne (x := p1) (a := 1) (b := 126) c9_3).1 (in_ne (x := p1) (a := 1) (b := 126) c9_3).2), if_pos ha9]), (by unfold nLt; rw [if_neg (fun h => h.elim (in_ne (x := p1) (a := 1) (b := 126) c9_3).1 (in_ne (x := p1) (a := 1) (b := 126) c9_3).2), if_pos ha9]), (by unfold fLt; rw [if_neg (fun h => h.elim (in_ne (x := p1) (a := 1) (b := 126) c9_3).1 (in_ne (x := p1) (a := 1) (b := 126) c9_3).2), if_pos ha9])⟩ dX9_letter_51
    · skip
      refine lv_bipush (v := (-104)) hx hb dX9_letter_24 (by decide) ?_
      refine W.widen (k := 0) (n := 0) (Nat.le_of_ble_eq_true rfl) (Nat.le_of_ble_eq_true rfl) ?_
      exact k_ri hx hb hr hlocks hS hP hD ⟨a, Pg, rfl, (by unfold rLt; rw [if_neg (fun h => h.elim (in_ne (x := p1) (a := 1) (b := 126) c9_3).1 (in_ne (x := p1) (a := 1) (b := 126) c9_3).2), if_neg (fun q => absurd ((nI_eq (b := 110) (by omega) (by decide)).mp c21_4) (by omega))]), (by unfold nLt; rw [if_neg (fun h => h.elim (in_ne (x := p1) (a := 1) (b := 126) c9_3).1 (in_ne (x := p1) (a := 1) (b := 126) c9_3).2), if_neg (fun q => absurd ((nI_eq (b := 110) (by omega) (by decide)).mp c21_4) (by omega))]), (by unfold fLt; rw [if_neg (fun h => h.elim (in_ne (x := p1) (a := 1) (b := 126) c9_3).1 (in_ne (x := p1) (a := 1) (b := 126) c9_3).2), if_neg (fun q => absurd ((nI_eq (b := 110) (by omega) (by decide)).mp c21_4) (by omega))])⟩ dX9_letter_26
  · skip
    refine lv_bipush (v := (-102)) hx hb dX9_letter_12 (by decide) ?_
    refine W.widen (k := 0) (n := 0) (Nat.le_of_ble_eq_true rfl) (Nat.le_of_ble_eq_true rfl) ?_
    exact k_ri hx hb hr hlocks hS hP hD ⟨a, Pg, rfl, (by unfold rLt; rw [if_pos (in_eq (x := p1) (a := 1) (b := 126) c9_3)]), (by unfold nLt; rw [if_pos (in_eq (x := p1) (a := 1) (b := 126) c9_3)]), (by unfold fLt; rw [if_pos (in_eq (x := p1) (a := 1) (b := 126) c9_3)])⟩ dX9_letter_14

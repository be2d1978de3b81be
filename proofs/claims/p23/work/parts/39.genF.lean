/-! the two texts of the class -/
theorem es.co0 {g : GG} {A : Nat → Prop} {U : State} {H : Heap} (h : es g A U H) : va_OF "java/lang/String" "coder" "B" (.int 0) (g.2.2.2 5) A U H := (h.st.1 0 (by decide)).2.1
theorem es.co1 {g : GG} {A : Nat → Prop} {U : State} {H : Heap} (h : es g A U H) : va_OF "java/lang/String" "coder" "B" (.int 0) (g.2.2.2 6) A U H := (h.st.1 1 (by decide)).2.1
theorem es.va0 {g : GG} {A : Nat → Prop} {U : State} {H : Heap} (h : es g A U H) : va_OF "java/lang/String" "value" "[B" (.ref (g.2.2.2 7)) (g.2.2.2 5) A U H := (h.st.1 0 (by decide)).2.2.1
theorem es.va1 {g : GG} {A : Nat → Prop} {U : State} {H : Heap} (h : es g A U H) : va_OF "java/lang/String" "value" "[B" (.ref (g.2.2.2 8)) (g.2.2.2 6) A U H := (h.st.1 1 (by decide)).2.2.1
theorem es.by0 {g : GG} {A : Nat → Prop} {U : State} {H : Heap} (h : es g A U H) : va_T .byte (g.2.2.2 7) 5 (fun j => .int ((bytS.getD 0 []).getD j 0)) A U H := (h.st.1 0 (by decide)).2.2.2
theorem es.by1 {g : GG} {A : Nat → Prop} {U : State} {H : Heap} (h : es g A U H) : va_T .byte (g.2.2.2 8) 9 (fun j => .int ((bytS.getD 1 []).getD j 0)) A U H := (h.st.1 1 (by decide)).2.2.2
theorem es.rc0 {g : GG} {A : Nat → Prop} {s : State} {H : Heap} {locs : List Loc} (h : es g A s s.heap) (hS : va_S A s.heap H locs) : ∃ cell : Cell, H[g.2.2.2 5]? = some cell ∧ cell.vm.isStatics = false ∧ s.vm.findClass RJ0 = some cell.cls := vk_recv (i := 0) h.st (by decide) hS
theorem es.rc1 {g : GG} {A : Nat → Prop} {s : State} {H : Heap} {locs : List Loc} (h : es g A s s.heap) (hS : va_S A s.heap H locs) : ∃ cell : Cell, H[g.2.2.2 6]? = some cell ∧ cell.vm.isStatics = false ∧ s.vm.findClass RJ0 = some cell.cls := vk_recv (i := 1) h.st (by decide) hS
section KB7
variable {p : Program} {l : Launch} {e : Env} {R : Room} {s : State} {m : MethodId} {args : Array Value} {below : List Frame} {meth : Method} {c : Code} {H : Heap} {locs : List Loc} {cells slots : Nat} {cc : ByteArray} {pc : Nat} {ls : Array Slot} {g : GG} {A : Nat → Prop}
theorem k_rb {post : Int32 → va_W → Prop} {v : Int32} {w1 : va_W} (hx : p.tables.exec = Jvm.exec) (hb : c.code = cc) (hr : meth.sig.returnType = some .byte) (hlocks : meth.locks = false) (hS : va_S A s.heap H locs) (hP : va_P g.1 vwCl w1 H) (hD : va_D A w1) (hn : narrow .byte (.int v) = .int v) (hp : post v w1) (hdg : decode cc pc = .ok (.ireturn, 1)) : W p l e R s m args below meth c H locs cells slots (MQ below (va_Qi post (bk g A) A) args s cells slots A) (F0 m pc ls [.int v]) :=
  W.zret hx hb hr hn (fun t ht hW => ⟨⟨v, w1, rfl, hp, by rw [ht]; exact hP, hD⟩, hS.F ht⟩) hS.2.2 hdg hlocks
end KB7
def kby (c : Int32) : Int32 := if c = 119 then 0 else if c = 110 then 1 else if c = 99 then 2 else if c = 108 then 3 else if c = 100 then 4 else (-1)
def sby (c : Int32) : Int32 := if c = 46 then 0 else if c = 97 then 1 else if c = 101 then 2 else if c = 111 then 3 else if c = 112 then 4 else if c = 116 then 5 else if c = 107 then 6 else if c = 115 then 7 else if c = 102 then 8 else (-1)
theorem le0_of {n : Nat} (h : n < 2 ^ 31) (c : nI n ≤ 0) : n = 0 := Nat.le_zero.mp (ge_of_le (k := n) (n := 0) h (by decide) c)
theorem chr_c : ∀ v, v < 127 → ((nI v).toUInt32 % 65536).toInt32 = nI v := by decide
theorem chr_b : ∀ v, v < 127 → ((nI v).toInt8).toInt32 = nI v := by decide
theorem kby_of (c : Int32) : kby c = (-1) ∨ ∃ k, k < 5 ∧ kby c = nI k := by
  unfold kby
  by_cases h0 : c = 119
  · exact Or.inr ⟨0, by decide, by rw [if_pos h0]; rfl⟩
  by_cases h1 : c = 110
  · exact Or.inr ⟨1, by decide, by rw [if_neg h0, if_pos h1]; rfl⟩
  by_cases h2 : c = 99
  · exact Or.inr ⟨2, by decide, by rw [if_neg h0, if_neg h1, if_pos h2]; rfl⟩
  by_cases h3 : c = 108
  · exact Or.inr ⟨3, by decide, by rw [if_neg h0, if_neg h1, if_neg h2, if_pos h3]; rfl⟩
  by_cases h4 : c = 100
  · exact Or.inr ⟨4, by decide, by rw [if_neg h0, if_neg h1, if_neg h2, if_neg h3, if_pos h4]; rfl⟩
  exact Or.inl (by rw [if_neg h0, if_neg h1, if_neg h2, if_neg h3, if_neg h4])
theorem sby_of (c : Int32) : sby c = (-1) ∨ ∃ k, k < 9 ∧ sby c = nI k := by
  unfold sby
  by_cases h0 : c = 46
  · exact Or.inr ⟨0, by decide, by rw [if_pos h0]; rfl⟩
  by_cases h1 : c = 97
  · exact Or.inr ⟨1, by decide, by rw [if_neg h0, if_pos h1]; rfl⟩
  by_cases h2 : c = 101
  · exact Or.inr ⟨2, by decide, by rw [if_neg h0, if_neg h1, if_pos h2]; rfl⟩
  by_cases h3 : c = 111
  · exact Or.inr ⟨3, by decide, by rw [if_neg h0, if_neg h1, if_neg h2, if_pos h3]; rfl⟩
  by_cases h4 : c = 112
  · exact Or.inr ⟨4, by decide, by rw [if_neg h0, if_neg h1, if_neg h2, if_neg h3, if_pos h4]; rfl⟩
  by_cases h5 : c = 116
  · exact Or.inr ⟨5, by decide, by rw [if_neg h0, if_neg h1, if_neg h2, if_neg h3, if_neg h4, if_pos h5]; rfl⟩
  by_cases h6 : c = 107
  · exact Or.inr ⟨6, by decide, by rw [if_neg h0, if_neg h1, if_neg h2, if_neg h3, if_neg h4, if_neg h5, if_pos h6]; rfl⟩
  by_cases h7 : c = 115
  · exact Or.inr ⟨7, by decide, by rw [if_neg h0, if_neg h1, if_neg h2, if_neg h3, if_neg h4, if_neg h5, if_neg h6, if_pos h7]; rfl⟩
  by_cases h8 : c = 102
  · exact Or.inr ⟨8, by decide, by rw [if_neg h0, if_neg h1, if_neg h2, if_neg h3, if_neg h4, if_neg h5, if_neg h6, if_neg h7, if_pos h8]; rfl⟩
  exact Or.inl (by rw [if_neg h0, if_neg h1, if_neg h2, if_neg h3, if_neg h4, if_neg h5, if_neg h6, if_neg h7, if_neg h8])
/-! the reading of the page, step by step: whether a kind is due, set, tongue, place, whether the word is silent, whether one was, how many sets, tongues, kinds, lengths, words -/
abbrev PS : Type := Nat × Nat × Nat × Nat × Nat × Nat × Nat × Nat × (Nat → Int32) × (Nat → Int32) × (Nat → Int32)
def wdw (u n : Nat) (x : Int32) : Int32 := if u = 0 then (if n = 0 then 0 else 1) else if nI n = x then 1 else 0
def stw (u n tg : Nat) (x : Int32) : Int32 := if wdw u n x = 0 then 0 else if u + 1 < 2 then 0 else if tg = 0 then 1 else if u + 1 = tg then 1 else 0
def hsn (a b : Nat) : Nat := if a = 0 then b else 1
def akd (p : Int32) : PS → Option PS
  | (_, _, _, _, _, hw, z, tg, K, L, V) => if p < 0 then none else some (0, z, 0, 0, 1, hw, z + 1, tg, upd K z p, L, V)
def asd (p : Int32) : PS → Option PS
  | (du, rs, u, n, wl, hw, z, tg, K, L, V) => if p < 0 then none else if nI n < (if u = 0 then 4 else L rs) then some (du, rs, u, n + 1, (if p = 0 then wl else 0), hw, z, tg, K, L, upd V (16 * rs + 4 * u + n) p) else none
def ewd : PS → Option PS
  | (du, rs, u, n, wl, hw, z, tg, K, L, V) => if wdw u n (L rs) = 0 then none else if u + 1 < (if tg = 0 then 4 else tg) then some (du, rs, u + 1, 0, 1, hsn wl hw, z, tg, K, upd L rs (nI n), V) else none
def est : PS → Option PS
  | (_, rs, u, n, wl, hw, z, tg, K, L, V) => if stw u n tg (L rs) = 0 then none else if z < 5 then some (1, rs, u, n, wl, hsn wl hw, z, u + 1, K, upd L rs (nI n), V) else none
def acc (c : Int32) (q : PS) : Option PS := if q.1 = 0 then (if c = 47 then ewd q else if c = 44 then est q else asd (sby c) q) else akd (kby c) q
def fns : PS → Int32 × PS
  | (du, rs, u, n, wl, hw, z, tg, K, L, V) => if du = 0 then (if stw u n tg (L rs) = 0 then (0, (du, rs, u, n, wl, hw, z, tg, K, L, V)) else ((if hsn wl hw = 0 then 1 else 0), (du, rs, u, n, wl, hsn wl hw, z, u + 1, K, upd L rs (nI n), V))) else (0, (du, rs, u, n, wl, hw, z, tg, K, L, V))
def stp (r : Int32) (o : Option PS) (a b : PS) : Prop := (o = none ∧ r = 0 ∧ b = a) ∨ (r = 1 ∧ o = some b)
theorem stp_n {o : Option PS} {a : PS} (h : o = none) : stp 0 o a a := Or.inl ⟨h, rfl, rfl⟩
theorem stp_s {o : Option PS} {a b : PS} (h : o = some b) : stp 1 o a b := Or.inr ⟨rfl, h⟩
theorem stp_nar {r : Int32} {o : Option PS} {a b : PS} (h : stp r o a b) : narrow .boolean (.int r) = .int r := by
  rcases h with ⟨-, h, -⟩ | ⟨h, -⟩ <;> rw [h] <;> rfl
def RI : PS → Prop
  | (du, rs, u, n, wl, hw, z, tg, K, L, V) => du < 2 ∧ rs < 5 ∧ u < 4 ∧ n ≤ 4 ∧ wl < 2 ∧ hw < 2 ∧ z ≤ 5 ∧ tg ≤ 4 ∧ (¬ du = 0 → z < 5) ∧ rng 6 5 K ∧ rng 6 5 L ∧ rng 96 9 V
theorem hsn_lt {a b : Nat} (h : b < 2) : hsn a b < 2 := by
  unfold hsn
  split <;> omega
section ACC
variable {du rs u n wl hw z tg : Nat} {K L V : Nat → Int32} {w : PS} {p : Int32}
theorem ewd_some (e : ewd (du, rs, u, n, wl, hw, z, tg, K, L, V) = some w) : ¬ wdw u n (L rs) = 0 ∧ u + 1 < (if tg = 0 then 4 else tg) ∧ (du, rs, u + 1, 0, 1, hsn wl hw, z, tg, K, upd L rs (nI n), V) = w := by
  unfold ewd at e
  dsimp only at e
  by_cases q1 : wdw u n (L rs) = 0
  · rw [if_pos q1] at e; exact absurd e (by simp)
  · rw [if_neg q1] at e
    by_cases q2 : u + 1 < (if tg = 0 then 4 else tg)
    · rw [if_pos q2] at e; exact ⟨q1, q2, Option.some.inj e⟩
    · rw [if_neg q2] at e; exact absurd e (by simp)
theorem est_some (e : est (du, rs, u, n, wl, hw, z, tg, K, L, V) = some w) : ¬ stw u n tg (L rs) = 0 ∧ z < 5 ∧ (1, rs, u, n, wl, hsn wl hw, z, u + 1, K, upd L rs (nI n), V) = w := by
  unfold est at e
  dsimp only at e
  by_cases q1 : stw u n tg (L rs) = 0
  · rw [if_pos q1] at e; exact absurd e (by simp)
  · rw [if_neg q1] at e
    by_cases q2 : z < 5
    · rw [if_pos q2] at e; exact ⟨q1, q2, Option.some.inj e⟩
    · rw [if_neg q2] at e; exact absurd e (by simp)
theorem asd_some (e : asd p (du, rs, u, n, wl, hw, z, tg, K, L, V) = some w) : ¬ p < 0 ∧ nI n < (if u = 0 then 4 else L rs) ∧ (du, rs, u, n + 1, (if p = 0 then wl else 0), hw, z, tg, K, L, upd V (16 * rs + 4 * u + n) p) = w := by
  unfold asd at e
  dsimp only at e
  by_cases q1 : p < 0
  · rw [if_pos q1] at e; exact absurd e (by simp)
  · rw [if_neg q1] at e
    by_cases q2 : nI n < (if u = 0 then 4 else L rs)
    · rw [if_pos q2] at e; exact ⟨q1, q2, Option.some.inj e⟩
    · rw [if_neg q2] at e; exact absurd e (by simp)
theorem akd_some (e : akd p (du, rs, u, n, wl, hw, z, tg, K, L, V) = some w) : ¬ p < 0 ∧ (0, z, 0, 0, 1, hw, z + 1, tg, upd K z p, L, V) = w := by
  unfold akd at e
  dsimp only at e
  by_cases q1 : p < 0
  · rw [if_pos q1] at e; exact absurd e (by simp)
  · rw [if_neg q1] at e; exact ⟨q1, Option.some.inj e⟩
theorem lim_lt {b : Nat} (h : u + 1 < (if tg = 0 then b else tg)) (h8 : tg ≤ b) : u + 1 < b := by
  by_cases q : tg = 0
  · rw [if_pos q] at h; exact h
  · rw [if_neg q] at h; omega
theorem asd_lt (hL : rng 6 5 L) (h2 : rs < 5) (h4 : n ≤ 4) (q2 : nI n < (if u = 0 then 4 else L rs)) : n < 4 := by
  obtain ⟨l0, hl0, el0⟩ := hL rs (by omega)
  by_cases q : u = 0
  · rw [if_pos q] at q2
    exact (nI_ltI (b := 4) (by omega) (by decide)).mp q2
  · rw [if_neg q, el0] at q2
    have := (nI_ltI (by omega) (by omega)).mp q2
    omega
end ACC
theorem RI_acc {c : Int32} {q w : PS} (h : RI q) (e : acc c q = some w) : RI w := by
  obtain ⟨du, rs, u, n, wl, hw, z, tg, K, L, V⟩ := q
  obtain ⟨h1, h2, h3, h4, h5, h6, h7, h8, h9, hK, hL, hV⟩ := h
  unfold acc at e
  by_cases hd : du = 0
  · rw [if_pos (show (du, rs, u, n, wl, hw, z, tg, K, L, V).1 = 0 from hd)] at e
    by_cases c1 : c = 47
    · rw [if_pos c1] at e
      obtain ⟨q1, q2, rfl⟩ := ewd_some e
      exact ⟨h1, h2, lim_lt q2 h8, by omega, by omega, hsn_lt h6, h7, h8, fun q => absurd hd q, hK, rng_upd hL (by omega), hV⟩
    · rw [if_neg c1] at e
      by_cases c2 : c = 44
      · rw [if_pos c2] at e
        obtain ⟨q1, q2, rfl⟩ := est_some e
        exact ⟨by omega, h2, h3, h4, h5, hsn_lt h6, h7, by omega, fun _ => q2, hK, rng_upd hL (by omega), hV⟩
      · rw [if_neg c2] at e
        obtain ⟨q1, q2, rfl⟩ := asd_some e
        have hn := asd_lt hL h2 h4 q2
        rcases sby_of c with q3 | ⟨k, hk, q3⟩
        · exact absurd (show sby c < 0 by rw [q3]; decide) q1
        · refine ⟨h1, h2, h3, by omega, ?_, h6, h7, h8, h9, hK, hL, ?_⟩
          · split <;> omega
          · rw [q3]; exact rng_upd hV hk
  · rw [if_neg (show ¬ (du, rs, u, n, wl, hw, z, tg, K, L, V).1 = 0 from hd)] at e
    obtain ⟨q1, rfl⟩ := akd_some e
    have hz := h9 hd
    rcases kby_of c with q3 | ⟨k, hk, q3⟩
    · exact absurd (show kby c < 0 by rw [q3]; decide) q1
    · exact ⟨by omega, hz, by omega, by omega, by omega, h6, by omega, h8, fun q => absurd rfl q, by rw [q3]; exact rng_upd hK hk, hL, hV⟩
theorem RI_fns {q : PS} (h : RI q) : RI (fns q).2 := by
  obtain ⟨du, rs, u, n, wl, hw, z, tg, K, L, V⟩ := q
  obtain ⟨h1, h2, h3, h4, h5, h6, h7, h8, h9, hK, hL, hV⟩ := id h
  unfold fns
  dsimp only
  split
  · split
    · exact h
    · exact ⟨h1, h2, h3, h4, h5, hsn_lt h6, h7, by omega, h9, hK, rng_upd hL (by omega), hV⟩
  · exact h
def prun (Pg : Nat → Int32) (q : PS) : Nat → Option PS
  | 0 => some q
  | n + 1 => (prun Pg q n).bind (acc (Pg n))
theorem prun_s {Pg : Nat → Int32} {q w v : PS} {n : Nat} (h : prun Pg q n = some w) (e : acc (Pg n) w = some v) : prun Pg q (n + 1) = some v := by
  show (prun Pg q n).bind (acc (Pg n)) = some v
  rw [h]
  exact e
/-- how far the page is read, and what stands then -/
def prd (Pg : Nat → Int32) (a : Nat) (q : PS) (r : Int32) (w : PS) : Prop := ∃ j, j ≤ a ∧ r = nI j ∧ prun Pg q j = some w ∧ (j < a → acc (Pg j) w = none)
def pgr (a : Nat) (Pg : Nat → Int32) : Prop := ∀ i, i < a → ∃ v, v < 127 ∧ Pg i = nI v
theorem prun_RI {Pg : Nat → Int32} {q : PS} (h : RI q) : ∀ (n : Nat) (w : PS), prun Pg q n = some w → RI w := by
  intro n
  induction n with
  | zero => intro w e; obtain rfl := Option.some.inj e; exact h
  | succ n ih =>
    intro w e
    cases hq : prun Pg q n with
    | none => exact absurd (show (prun Pg q n).bind (acc (Pg n)) = some w from e) (by rw [hq]; simp)
    | some v =>
      have e2 : (prun Pg q n).bind (acc (Pg n)) = some w := e
      rw [hq] at e2
      exact RI_acc (ih v hq) e2
def po_J1_canEncode (g : GG) (v : Nat) : Int32 → va_W → Prop := fun (r : Int32) w => w = [] ∧ (1 = r)
set_option maxHeartbeats 1500000 in
set_option maxRecDepth 100000 in
theorem c_J1_canEncode (l : Launch) (g : GG) (v : Nat) (hv : v < 127) (sz : Nat) : MetI l yJ1_canEncode_9a6ad wsJ1_canEncode_9a6ad ({ frames := 0, cells := 0, slots := 0, locals := 0 }) g [.int (nI v)] [] sz (po_J1_canEncode g v) 0 0 := by
  refine k_of (l := l) (y := yJ1_canEncode_9a6ad) (ws := wsJ1_canEncode_9a6ad) (rm := { frames := 0, cells := 0, slots := 0, locals := 0 }) (mc := 0) (ms := 0) (av := [.int (nI v)]) (g := g) (wc := []) (Qc := fun A => va_Qi (po_J1_canEncode g v) (bk g A) A) (cc := cJ1_canEncode_9a6ad) (maxL := 1) (ret := (some .boolean)) (by decide) rfl (Nat.le_of_ble_eq_true rfl) ?_ sz
  intro p e s m below meth c hx hb hr hts hown hlocks hnm hml A hA hE hZ hP hD hS ls hl
  have hown : s.vm.findClass RJ1 = some m.cls := hown
  have hl : lv_has ls 1 [(0, .int (nI v))] := hl
  refine lv_iload_n hx hb dJ1_canEncode_9a6ad_0 rfl (lv_at hl 0 rfl) ?_
  refine lv_if_lt (tgt := 15) hx hb dJ1_canEncode_9a6ad_1 (by decide) (fun c1_1 => ?_) (fun c1_1 => ?_)
  · exact (show False from nI_pos (by omega) c1_1).elim
  · skip
    refine lv_iload_n hx hb dJ1_canEncode_9a6ad_4 rfl (lv_at hl 0 rfl) ?_
    refine lv_sipush (v := 255) hx hb dJ1_canEncode_9a6ad_5 (by decide) ?_
    refine lv_icmp_gt (tgt := 15) hx hb dJ1_canEncode_9a6ad_8 (by decide) (fun c8_2 => ?_) (fun c8_2 => ?_)
    · exact (show False from nI_nlt (a := 255) (b := v) (by omega) (by omega) c8_2).elim
    · skip
      refine lv_iconst (v := 1) hx hb dJ1_canEncode_9a6ad_11 (by decide) ?_
      refine lv_goto (tgt := 16) hx hb dJ1_canEncode_9a6ad_12 (by decide) ?_
      refine W.widen (k := 0) (n := 0) (Nat.le_of_ble_eq_true rfl) (Nat.le_of_ble_eq_true rfl) ?_
      exact k_rz hx hb hr hlocks hS hP hD rfl ⟨rfl, rfl⟩ dJ1_canEncode_9a6ad_16
def po_J0_isLatin1_0 (g : GG)  : Int32 → va_W → Prop := fun (r : Int32) w => w = [] ∧ (1 = r)
theorem q_J0_isLatin1_0_0 : (Cond.fieldLink RJ0 38 "java/lang/String" "COMPACT_STRINGS" "Z") ∈ wsJ0_isLatin1_aae02 := by decide +kernel
theorem q_J0_isLatin1_0_1 : (Cond.fieldLink RJ0 15 "java/lang/String" "coder" "B") ∈ wsJ0_isLatin1_aae02 := by decide +kernel
set_option maxHeartbeats 1500000 in
set_option maxRecDepth 100000 in
theorem c_J0_isLatin1_0 (l : Launch) (g : GG)   (sz : Nat) : MetI l yJ0_isLatin1_aae02 wsJ0_isLatin1_aae02 ({ frames := 0, cells := 0, slots := 0, locals := 0 }) g [.ref (g.2.2.2 5)] [] sz (po_J0_isLatin1_0 g ) 0 0 := by
  refine k_of (l := l) (y := yJ0_isLatin1_aae02) (ws := wsJ0_isLatin1_aae02) (rm := { frames := 0, cells := 0, slots := 0, locals := 0 }) (mc := 0) (ms := 0) (av := [.ref (g.2.2.2 5)]) (g := g) (wc := []) (Qc := fun A => va_Qi (po_J0_isLatin1_0 g ) (bk g A) A) (cc := cJ0_isLatin1_aae02) (maxL := 1) (ret := (some .boolean)) (by decide) rfl (Nat.le_of_ble_eq_true rfl) ?_ sz
  intro p e s m below meth c hx hb hr hts hown hlocks hnm hml A hA hE hZ hP hD hS ls hl
  have hown : s.vm.findClass RJ0 = some m.cls := hown
  have hl : lv_has ls 1 [(0, .ref (g.2.2.2 5))] := hl
  refine va_gets hx hb hZ.zc hS hown (hts (.fieldLink RJ0 38 "java/lang/String" "COMPACT_STRINGS" "Z") q_J0_isLatin1_0_0) (fun _ h9 => h9) dJ0_isLatin1_aae02_0 ?_
  refine lv_if_eq (tgt := 17) hx hb dJ0_isLatin1_aae02_3 (by decide) (fun c3_1 => ?_) (fun c3_1 => ?_)
  · exact absurd c3_1 (by decide)
  · skip
    refine lv_aload_n hx hb dJ0_isLatin1_aae02_6 rfl (lv_at hl 0 rfl) ?_
    refine vk_getf (v := .int 0) hx hb hZ.co0 hS hown (hts (.fieldLink RJ0 15 "java/lang/String" "coder" "B") q_J0_isLatin1_0_1) (fun _ h9 => h9) dJ0_isLatin1_aae02_7 ?_
    refine lv_if_ne (tgt := 17) hx hb dJ0_isLatin1_aae02_10 (by decide) (fun c10_2 => ?_) (fun c10_2 => ?_)
    · exact absurd c10_2 (by decide)
    · skip
      refine lv_iconst (v := 1) hx hb dJ0_isLatin1_aae02_13 (by decide) ?_
      refine lv_goto (tgt := 18) hx hb dJ0_isLatin1_aae02_14 (by decide) ?_
      refine W.widen (k := 0) (n := 0) (Nat.le_of_ble_eq_true rfl) (Nat.le_of_ble_eq_true rfl) ?_
      exact k_rz hx hb hr hlocks hS hP hD rfl ⟨rfl, rfl⟩ dJ0_isLatin1_aae02_18
def po_J0_coder_0 (g : GG)  : Int32 → va_W → Prop := fun (r : Int32) w => w = [] ∧ (0 = r)
theorem q_J0_coder_0_0 : (Cond.fieldLink RJ0 38 "java/lang/String" "COMPACT_STRINGS" "Z") ∈ wsJ0_coder_7d493 := by decide +kernel
theorem q_J0_coder_0_1 : (Cond.fieldLink RJ0 15 "java/lang/String" "coder" "B") ∈ wsJ0_coder_7d493 := by decide +kernel
set_option maxHeartbeats 1500000 in
set_option maxRecDepth 100000 in
theorem c_J0_coder_0 (l : Launch) (g : GG)   (sz : Nat) : MetI l yJ0_coder_7d493 wsJ0_coder_7d493 ({ frames := 0, cells := 0, slots := 0, locals := 0 }) g [.ref (g.2.2.2 5)] [] sz (po_J0_coder_0 g ) 0 0 := by
  refine k_of (l := l) (y := yJ0_coder_7d493) (ws := wsJ0_coder_7d493) (rm := { frames := 0, cells := 0, slots := 0, locals := 0 }) (mc := 0) (ms := 0) (av := [.ref (g.2.2.2 5)]) (g := g) (wc := []) (Qc := fun A => va_Qi (po_J0_coder_0 g ) (bk g A) A) (cc := cJ0_coder_7d493) (maxL := 1) (ret := (some .byte)) (by decide) rfl (Nat.le_of_ble_eq_true rfl) ?_ sz
  intro p e s m below meth c hx hb hr hts hown hlocks hnm hml A hA hE hZ hP hD hS ls hl
  have hown : s.vm.findClass RJ0 = some m.cls := hown
  have hl : lv_has ls 1 [(0, .ref (g.2.2.2 5))] := hl
  refine va_gets hx hb hZ.zc hS hown (hts (.fieldLink RJ0 38 "java/lang/String" "COMPACT_STRINGS" "Z") q_J0_coder_0_0) (fun _ h9 => h9) dJ0_coder_7d493_0 ?_
  refine lv_if_eq (tgt := 13) hx hb dJ0_coder_7d493_3 (by decide) (fun c3_1 => ?_) (fun c3_1 => ?_)
  · exact absurd c3_1 (by decide)
  · skip
    refine lv_aload_n hx hb dJ0_coder_7d493_6 rfl (lv_at hl 0 rfl) ?_
    refine vk_getf (v := .int 0) hx hb hZ.co0 hS hown (hts (.fieldLink RJ0 15 "java/lang/String" "coder" "B") q_J0_coder_0_1) (fun _ h9 => h9) dJ0_coder_7d493_7 ?_
    refine lv_goto (tgt := 14) hx hb dJ0_coder_7d493_10 (by decide) ?_
    refine W.widen (k := 0) (n := 0) (Nat.le_of_ble_eq_true rfl) (Nat.le_of_ble_eq_true rfl) ?_
    exact k_rb hx hb hr hlocks hS hP hD rfl ⟨rfl, rfl⟩ dJ0_coder_7d493_14
def po_J0_length_0 (g : GG)  : Int32 → va_W → Prop := fun (r : Int32) w => w = [] ∧ (5 = r)
theorem q_J0_length_0_0 : (Cond.fieldLink RJ0 9 "java/lang/String" "value" "[B") ∈ wsJ0_length_8abf5 := by decide +kernel
set_option maxHeartbeats 1500000 in
set_option maxRecDepth 100000 in
theorem c_J0_length_0 (l : Launch) (g : GG)   (sz : Nat) : MetI l yJ0_length_8abf5 wsJ0_length_8abf5 ({ frames := 1, cells := 0, slots := 0, locals := 20 }) g [.ref (g.2.2.2 5)] [] sz (po_J0_length_0 g ) 0 0 := by
  refine k_of (l := l) (y := yJ0_length_8abf5) (ws := wsJ0_length_8abf5) (rm := { frames := 1, cells := 0, slots := 0, locals := 20 }) (mc := 0) (ms := 0) (av := [.ref (g.2.2.2 5)]) (g := g) (wc := []) (Qc := fun A => va_Qi (po_J0_length_0 g ) (bk g A) A) (cc := cJ0_length_8abf5) (maxL := 1) (ret := (some .int)) (by decide) rfl (Nat.le_of_ble_eq_true rfl) ?_ sz
  intro p e s m below meth c hx hb hr hts hown hlocks hnm hml A hA hE hZ hP hD hS ls hl
  have hown : s.vm.findClass RJ0 = some m.cls := hown
  have hl : lv_has ls 1 [(0, .ref (g.2.2.2 5))] := hl
  refine lv_aload_n hx hb dJ0_length_8abf5_0 rfl (lv_at hl 0 rfl) ?_
  refine vk_getf (v := .ref (g.2.2.2 7)) hx hb hZ.va0 hS hown (hts (.fieldLink RJ0 9 "java/lang/String" "value" "[B") q_J0_length_0_0) (fun _ h9 => h9) dJ0_length_8abf5_1 ?_
  refine va_tlen hx hb hZ.by0 hS (v := 5) (by decide) dJ0_length_8abf5_4 ?_
  refine lv_aload_n hx hb dJ0_length_8abf5_5 rfl (lv_at hl 0 rfl) ?_
  refine k_ci (wr := []) hP hD hS hA [] [] rfl rfl (by decide) (by decide) (va_runV (As := []) (rest := [.int 5]) ⟨hx, hb, hml, hown, hts⟩ (c_J0_coder_0 l g   s.heap.size) (cwV 0 hts gJ0_length_8abf5_J0_coder_7d493 rfl rfl rfl (by decide +kernel) ⟨Nat.le_of_ble_eq_true rfl, Nat.le_of_ble_eq_true rfl⟩) (k_preV hE hZ hP hD hS hA [] rfl (by decide) (hZ.rc0 hS)) rfl rfl hl.1 rfl (lv_room (Nat.le_of_ble_eq_true rfl)) dJ0_length_8abf5_6 ⟨Nat.le_of_ble_eq_true rfl, Nat.le_of_ble_eq_true rfl⟩) (fun r_1 w1 H locs hw hP hD hS => ?_)
  obtain ⟨rfl, rfl⟩ := hw
  have hP : va_P g.1 vwCl [] H := hP
  have hD : va_D A [] := hD
  refine lv_ishr hx hb dJ0_length_8abf5_9 ?_
  refine lv_topi (fun x_3 ex_3 => ?_)
  obtain rfl : x_3 = 5 := by rw [ex_3]; decide
  refine W.widen (k := 0) (n := 0) (Nat.le_of_ble_eq_true rfl) (Nat.le_of_ble_eq_true rfl) ?_
  exact k_ri hx hb hr hlocks hS hP hD ⟨rfl, rfl⟩ dJ0_length_8abf5_10
def po_J1_indexOfChar_0 (g : GG) (v : Nat) : Int32 → va_W → Prop := fun (r : Int32) w => w = [] ∧ (kby (nI v) = r)
set_option maxHeartbeats 1500000 in
set_option maxRecDepth 100000 in
theorem c_J1_indexOfChar_0 (l : Launch) (g : GG) (v : Nat) (hv : v < 127) (sz : Nat) : MetI l yJ1_indexOfChar_4cfef wsJ1_indexOfChar_4cfef ({ frames := 0, cells := 0, slots := 0, locals := 0 }) g [.ref (g.2.2.2 7), .int (nI v), .int 0, .int 5] [] sz (po_J1_indexOfChar_0 g v) 0 0 := by
  refine k_of (l := l) (y := yJ1_indexOfChar_4cfef) (ws := wsJ1_indexOfChar_4cfef) (rm := { frames := 0, cells := 0, slots := 0, locals := 0 }) (mc := 0) (ms := 0) (av := [.ref (g.2.2.2 7), .int (nI v), .int 0, .int 5]) (g := g) (wc := []) (Qc := fun A => va_Qi (po_J1_indexOfChar_0 g v) (bk g A) A) (cc := cJ1_indexOfChar_4cfef) (maxL := 6) (ret := (some .int)) (by decide) rfl (Nat.le_of_ble_eq_true rfl) ?_ sz
  intro p e s m below meth c hx hb hr hts hown hlocks hnm hml A hA hE hZ hP hD hS ls hl
  have hown : s.vm.findClass RJ1 = some m.cls := hown
  have hl : lv_has ls 6 [(0, .ref (g.2.2.2 7)), (1, .int (nI v)), (2, .int 0), (3, .int 5)] := hl
  refine lv_iload_n hx hb dJ1_indexOfChar_4cfef_0 rfl (lv_at hl 1 rfl) ?_
  refine lv_i2b hx hb dJ1_indexOfChar_4cfef_1 rfl ?_
  refine lv_topi (fun x_1 ex_1 => ?_)
  obtain rfl : x_1 = nI v := by rw [ex_1]; exact chr_b v hv
  refine lv_istore (lv' := [(4, .int (nI v)), (0, .ref (g.2.2.2 7)), (1, .int (nI v)), (2, .int 0), (3, .int 5)]) hx hb dJ1_indexOfChar_4cfef_2 hl (by decide) rfl (fun ls hl => ?_)
  refine lv_iload_n hx hb dJ1_indexOfChar_4cfef_4 rfl (lv_at hl 3 rfl) ?_
  refine lv_istore (lv' := [(5, .int 0), (4, .int (nI v)), (0, .ref (g.2.2.2 7)), (1, .int (nI v)), (2, .int 0), (3, .int 5)]) hx hb dJ1_indexOfChar_4cfef_5 hl (by decide) rfl (fun ls hl => ?_)
  refine lv_iload hx hb dJ1_indexOfChar_4cfef_7 (lv_at hl 0 rfl) ?_
  refine lv_iload_n hx hb dJ1_indexOfChar_4cfef_9 rfl (lv_at hl 5 rfl) ?_
  refine lv_icmp_ge (tgt := 31) hx hb dJ1_indexOfChar_4cfef_10 (by decide) (fun c10_2 => ?_) (fun c10_2 => ?_)
  · exact absurd c10_2 (by decide)
  · skip
    refine lv_aload_n hx hb dJ1_indexOfChar_4cfef_13 rfl (lv_at hl 2 rfl) ?_
    refine lv_iload hx hb dJ1_indexOfChar_4cfef_14 (lv_at hl 0 rfl) ?_
    refine va_tb hx hb hZ.by0 hS (i := 0) (vp_in_nI (n := 0) (N := 5) (by decide) (by decide)) (v := .int 119) rfl dJ1_indexOfChar_4cfef_16 ?_
    refine lv_iload hx hb dJ1_indexOfChar_4cfef_17 (lv_at hl 1 rfl) ?_
    refine lv_icmp_ne (tgt := 25) hx hb dJ1_indexOfChar_4cfef_19 (by decide) (fun c19_3 => ?_) (fun c19_3 => ?_)
    · skip
      refine lv_iinc (v := 1) (lv' := [(5, .int 1), (4, .int (nI v)), (0, .ref (g.2.2.2 7)), (1, .int (nI v)), (2, .int 0), (3, .int 5)]) hx hb dJ1_indexOfChar_4cfef_25 hl (k := 0) rfl (by decide) (by decide) rfl (fun ls hl => ?_)
      refine lv_goto (tgt := 7) hx hb dJ1_indexOfChar_4cfef_28 (by decide) ?_
      refine lv_iload hx hb dJ1_indexOfChar_4cfef_7 (lv_at hl 0 rfl) ?_
      refine lv_iload_n hx hb dJ1_indexOfChar_4cfef_9 rfl (lv_at hl 5 rfl) ?_
      refine lv_icmp_ge (tgt := 31) hx hb dJ1_indexOfChar_4cfef_10 (by decide) (fun c10_4 => ?_) (fun c10_4 => ?_)
      · exact absurd c10_4 (by decide)
      · skip
        refine lv_aload_n hx hb dJ1_indexOfChar_4cfef_13 rfl (lv_at hl 2 rfl) ?_
        refine lv_iload hx hb dJ1_indexOfChar_4cfef_14 (lv_at hl 0 rfl) ?_
        refine va_tb hx hb hZ.by0 hS (i := 1) (vp_in_nI (n := 1) (N := 5) (by decide) (by decide)) (v := .int 110) rfl dJ1_indexOfChar_4cfef_16 ?_
        refine lv_iload hx hb dJ1_indexOfChar_4cfef_17 (lv_at hl 1 rfl) ?_
        refine lv_icmp_ne (tgt := 25) hx hb dJ1_indexOfChar_4cfef_19 (by decide) (fun c19_5 => ?_) (fun c19_5 => ?_)
        · skip
          refine lv_iinc (v := 2) (lv' := [(5, .int 2), (4, .int (nI v)), (0, .ref (g.2.2.2 7)), (1, .int (nI v)), (2, .int 0), (3, .int 5)]) hx hb dJ1_indexOfChar_4cfef_25 hl (k := 0) rfl (by decide) (by decide) rfl (fun ls hl => ?_)
          refine lv_goto (tgt := 7) hx hb dJ1_indexOfChar_4cfef_28 (by decide) ?_
          refine lv_iload hx hb dJ1_indexOfChar_4cfef_7 (lv_at hl 0 rfl) ?_
          refine lv_iload_n hx hb dJ1_indexOfChar_4cfef_9 rfl (lv_at hl 5 rfl) ?_
          refine lv_icmp_ge (tgt := 31) hx hb dJ1_indexOfChar_4cfef_10 (by decide) (fun c10_6 => ?_) (fun c10_6 => ?_)
          · exact absurd c10_6 (by decide)
          · skip
            refine lv_aload_n hx hb dJ1_indexOfChar_4cfef_13 rfl (lv_at hl 2 rfl) ?_
            refine lv_iload hx hb dJ1_indexOfChar_4cfef_14 (lv_at hl 0 rfl) ?_
            refine va_tb hx hb hZ.by0 hS (i := 2) (vp_in_nI (n := 2) (N := 5) (by decide) (by decide)) (v := .int 99) rfl dJ1_indexOfChar_4cfef_16 ?_
            refine lv_iload hx hb dJ1_indexOfChar_4cfef_17 (lv_at hl 1 rfl) ?_
            refine lv_icmp_ne (tgt := 25) hx hb dJ1_indexOfChar_4cfef_19 (by decide) (fun c19_7 => ?_) (fun c19_7 => ?_)
            · skip
              refine lv_iinc (v := 3) (lv' := [(5, .int 3), (4, .int (nI v)), (0, .ref (g.2.2.2 7)), (1, .int (nI v)), (2, .int 0), (3, .int 5)]) hx hb dJ1_indexOfChar_4cfef_25 hl (k := 0) rfl (by decide) (by decide) rfl (fun ls hl => ?_)
              refine lv_goto (tgt := 7) hx hb dJ1_indexOfChar_4cfef_28 (by decide) ?_
              refine lv_iload hx hb dJ1_indexOfChar_4cfef_7 (lv_at hl 0 rfl) ?_
              refine lv_iload_n hx hb dJ1_indexOfChar_4cfef_9 rfl (lv_at hl 5 rfl) ?_
              refine lv_icmp_ge (tgt := 31) hx hb dJ1_indexOfChar_4cfef_10 (by decide) (fun c10_8 => ?_) (fun c10_8 => ?_)
              · exact absurd c10_8 (by decide)
              · skip
                refine lv_aload_n hx hb dJ1_indexOfChar_4cfef_13 rfl (lv_at hl 2 rfl) ?_
                refine lv_iload hx hb dJ1_indexOfChar_4cfef_14 (lv_at hl 0 rfl) ?_
                refine va_tb hx hb hZ.by0 hS (i := 3) (vp_in_nI (n := 3) (N := 5) (by decide) (by decide)) (v := .int 108) rfl dJ1_indexOfChar_4cfef_16 ?_
                refine lv_iload hx hb dJ1_indexOfChar_4cfef_17 (lv_at hl 1 rfl) ?_
                refine lv_icmp_ne (tgt := 25) hx hb dJ1_indexOfChar_4cfef_19 (by decide) (fun c19_9 => ?_) (fun c19_9 => ?_)
                · skip
                  refine lv_iinc (v := 4) (lv' := [(5, .int 4), (4, .int (nI v)), (0, .ref (g.2.2.2 7)), (1, .int (nI v)), (2, .int 0), (3, .int 5)]) hx hb dJ1_indexOfChar_4cfef_25 hl (k := 0) rfl (by decide) (by decide) rfl (fun ls hl => ?_)
                  refine lv_goto (tgt := 7) hx hb dJ1_indexOfChar_4cfef_28 (by decide) ?_
                  refine lv_iload hx hb dJ1_indexOfChar_4cfef_7 (lv_at hl 0 rfl) ?_
                  refine lv_iload_n hx hb dJ1_indexOfChar_4cfef_9 rfl (lv_at hl 5 rfl) ?_
                  refine lv_icmp_ge (tgt := 31) hx hb dJ1_indexOfChar_4cfef_10 (by decide) (fun c10_10 => ?_) (fun c10_10 => ?_)
                  · exact absurd c10_10 (by decide)
                  · skip
                    refine lv_aload_n hx hb dJ1_indexOfChar_4cfef_13 rfl (lv_at hl 2 rfl) ?_
                    refine lv_iload hx hb dJ1_indexOfChar_4cfef_14 (lv_at hl 0 rfl) ?_
                    refine va_tb hx hb hZ.by0 hS (i := 4) (vp_in_nI (n := 4) (N := 5) (by decide) (by decide)) (v := .int 100) rfl dJ1_indexOfChar_4cfef_16 ?_
                    refine lv_iload hx hb dJ1_indexOfChar_4cfef_17 (lv_at hl 1 rfl) ?_
                    refine lv_icmp_ne (tgt := 25) hx hb dJ1_indexOfChar_4cfef_19 (by decide) (fun c19_11 => ?_) (fun c19_11 => ?_)
                    · skip
                      refine lv_iinc (v := 5) (lv' := [(5, .int 5), (4, .int (nI v)), (0, .ref (g.2.2.2 7)), (1, .int (nI v)), (2, .int 0), (3, .int 5)]) hx hb dJ1_indexOfChar_4cfef_25 hl (k := 0) rfl (by decide) (by decide) rfl (fun ls hl => ?_)
                      refine lv_goto (tgt := 7) hx hb dJ1_indexOfChar_4cfef_28 (by decide) ?_
                      refine lv_iload hx hb dJ1_indexOfChar_4cfef_7 (lv_at hl 0 rfl) ?_
                      refine lv_iload_n hx hb dJ1_indexOfChar_4cfef_9 rfl (lv_at hl 5 rfl) ?_
                      refine lv_icmp_ge (tgt := 31) hx hb dJ1_indexOfChar_4cfef_10 (by decide) (fun c10_12 => ?_) (fun c10_12 => ?_)
                      · skip
                        refine lv_iconst (v := (-1)) hx hb dJ1_indexOfChar_4cfef_31 (by decide) ?_
                        refine W.widen (k := 0) (n := 0) (Nat.le_of_ble_eq_true rfl) (Nat.le_of_ble_eq_true rfl) ?_
                        exact k_ri hx hb hr hlocks hS hP hD ⟨rfl, (by unfold kby; rw [if_neg (fun q => c19_3 q.symm), if_neg (fun q => c19_5 q.symm), if_neg (fun q => c19_7 q.symm), if_neg (fun q => c19_9 q.symm), if_neg (fun q => c19_11 q.symm)])⟩ dJ1_indexOfChar_4cfef_32
                      · exact absurd c10_12 (by decide)
                    · skip
                      refine lv_iload hx hb dJ1_indexOfChar_4cfef_22 (lv_at hl 0 rfl) ?_
                      refine W.widen (k := 0) (n := 0) (Nat.le_of_ble_eq_true rfl) (Nat.le_of_ble_eq_true rfl) ?_
                      exact k_ri hx hb hr hlocks hS hP hD ⟨rfl, (by unfold kby; rw [if_neg (fun q => c19_3 q.symm), if_neg (fun q => c19_5 q.symm), if_neg (fun q => c19_7 q.symm), if_neg (fun q => c19_9 q.symm), if_pos c19_11.symm])⟩ dJ1_indexOfChar_4cfef_24
                · skip
                  refine lv_iload hx hb dJ1_indexOfChar_4cfef_22 (lv_at hl 0 rfl) ?_
                  refine W.widen (k := 0) (n := 0) (Nat.le_of_ble_eq_true rfl) (Nat.le_of_ble_eq_true rfl) ?_
                  exact k_ri hx hb hr hlocks hS hP hD ⟨rfl, (by unfold kby; rw [if_neg (fun q => c19_3 q.symm), if_neg (fun q => c19_5 q.symm), if_neg (fun q => c19_7 q.symm), if_pos c19_9.symm])⟩ dJ1_indexOfChar_4cfef_24
            · skip
              refine lv_iload hx hb dJ1_indexOfChar_4cfef_22 (lv_at hl 0 rfl) ?_
              refine W.widen (k := 0) (n := 0) (Nat.le_of_ble_eq_true rfl) (Nat.le_of_ble_eq_true rfl) ?_
              exact k_ri hx hb hr hlocks hS hP hD ⟨rfl, (by unfold kby; rw [if_neg (fun q => c19_3 q.symm), if_neg (fun q => c19_5 q.symm), if_pos c19_7.symm])⟩ dJ1_indexOfChar_4cfef_24
        · skip
          refine lv_iload hx hb dJ1_indexOfChar_4cfef_22 (lv_at hl 0 rfl) ?_
          refine W.widen (k := 0) (n := 0) (Nat.le_of_ble_eq_true rfl) (Nat.le_of_ble_eq_true rfl) ?_
          exact k_ri hx hb hr hlocks hS hP hD ⟨rfl, (by unfold kby; rw [if_neg (fun q => c19_3 q.symm), if_pos c19_5.symm])⟩ dJ1_indexOfChar_4cfef_24
    · skip
      refine lv_iload hx hb dJ1_indexOfChar_4cfef_22 (lv_at hl 0 rfl) ?_
      refine W.widen (k := 0) (n := 0) (Nat.le_of_ble_eq_true rfl) (Nat.le_of_ble_eq_true rfl) ?_
      exact k_ri hx hb hr hlocks hS hP hD ⟨rfl, (by unfold kby; rw [if_pos c19_3.symm])⟩ dJ1_indexOfChar_4cfef_24
def po_J1_indexOf_0 (g : GG) (v : Nat) : Int32 → va_W → Prop := fun (r : Int32) w => w = [] ∧ (kby (nI v) = r)
theorem q_J1_indexOf_0_0 : (Cond.methodLink RJ1 92 Lib.Math.max.name) ∈ wsJ1_indexOf_4cfef := by decide +kernel
theorem q_J1_indexOf_0_1 : (Cond.static Lib.Math.max.name) ∈ wsJ1_indexOf_4cfef := by decide +kernel
theorem q_J1_indexOf_0_2 : (Cond.initialized "java/lang/Math") ∈ wsJ1_indexOf_4cfef := by decide +kernel
theorem q_J1_indexOf_0_3 : (Cond.code Lib.Math.max.name Lib.Math.max.code 2 (some .int)) ∈ wsJ1_indexOf_4cfef := by decide +kernel
theorem q_J1_indexOf_0_4 : (Cond.methodLink RJ1 38 Lib.Math.min.name) ∈ wsJ1_indexOf_4cfef := by decide +kernel
theorem q_J1_indexOf_0_5 : (Cond.static Lib.Math.min.name) ∈ wsJ1_indexOf_4cfef := by decide +kernel
theorem q_J1_indexOf_0_6 : (Cond.code Lib.Math.min.name Lib.Math.min.code 2 (some .int)) ∈ wsJ1_indexOf_4cfef := by decide +kernel
set_option maxHeartbeats 1500000 in
set_option maxRecDepth 100000 in
theorem c_J1_indexOf_0 (l : Launch) (g : GG) (v : Nat) (hv : v < 127) (sz : Nat) : MetI l yJ1_indexOf_4cfef wsJ1_indexOf_4cfef ({ frames := 1, cells := 0, slots := 0, locals := 25 }) g [.ref (g.2.2.2 7), .int (nI v), .int 0, .int 5] [] sz (po_J1_indexOf_0 g v) 0 0 := by
  refine k_of (l := l) (y := yJ1_indexOf_4cfef) (ws := wsJ1_indexOf_4cfef) (rm := { frames := 1, cells := 0, slots := 0, locals := 25 }) (mc := 0) (ms := 0) (av := [.ref (g.2.2.2 7), .int (nI v), .int 0, .int 5]) (g := g) (wc := []) (Qc := fun A => va_Qi (po_J1_indexOf_0 g v) (bk g A) A) (cc := cJ1_indexOf_4cfef) (maxL := 4) (ret := (some .int)) (by decide) rfl (Nat.le_of_ble_eq_true rfl) ?_ sz
  intro p e s m below meth c hx hb hr hts hown hlocks hnm hml A hA hE hZ hP hD hS ls hl
  have hown : s.vm.findClass RJ1 = some m.cls := hown
  have hl : lv_has ls 4 [(0, .ref (g.2.2.2 7)), (1, .int (nI v)), (2, .int 0), (3, .int 5)] := hl
  refine lv_iload_n hx hb dJ1_indexOf_4cfef_0 rfl (lv_at hl 1 rfl) ?_
  refine k_ci (wr := []) hP hD hS hA [] [] rfl rfl (by decide) (by decide) (va_runS (As := [.int (nI v)]) (rest := []) ⟨hx, hb, hml, hown, hts⟩ (c_J1_canEncode l g v (by first | assumption | omega) s.heap.size) (va_cwS 1 hts gJ1_indexOf_4cfef_J1_canEncode_9a6ad rfl rfl rfl (by decide +kernel) ⟨Nat.le_of_ble_eq_true rfl, Nat.le_of_ble_eq_true rfl⟩) (k_preS hE hZ hP hD hS hA [] rfl (by decide)) rfl rfl hl.1 rfl (lv_room (Nat.le_of_ble_eq_true rfl)) dJ1_indexOf_4cfef_1 ⟨Nat.le_of_ble_eq_true rfl, Nat.le_of_ble_eq_true rfl⟩) (fun r_1 w1 H locs hw hP hD hS => ?_)
  obtain ⟨rfl, rfl⟩ := hw
  have hP : va_P g.1 vwCl [] H := hP
  have hD : va_D A [] := hD
  refine lv_if_ne (tgt := 9) hx hb dJ1_indexOf_4cfef_4 (by decide) (fun c4_3 => ?_) (fun c4_3 => ?_)
  · skip
    refine lv_iload_n hx hb dJ1_indexOf_4cfef_9 rfl (lv_at hl 2 rfl) ?_
    refine lv_iconst (v := 0) hx hb dJ1_indexOf_4cfef_10 (by decide) ?_
    refine va_mmax hx hb (by rw [hml]; exact hl.1.symm) hown (hts (.methodLink RJ1 92 Lib.Math.max.name) q_J1_indexOf_0_0) (hts (.static Lib.Math.max.name) q_J1_indexOf_0_1) (hts (.initialized "java/lang/Math") q_J1_indexOf_0_2) (hts (.code Lib.Math.max.name Lib.Math.max.code 2 (some .int)) q_J1_indexOf_0_3) (Nat.le_of_ble_eq_true rfl) (Nat.le_of_ble_eq_true rfl) (Nat.le_of_ble_eq_true rfl) (Nat.le_of_ble_eq_true rfl) dJ1_indexOf_4cfef_11 ?_
    refine lv_topi (fun x_4 ex_4 => ?_)
    obtain rfl : x_4 = 0 := by rw [ex_4]; decide
    refine lv_istore_n (lv' := [(2, .int 0), (0, .ref (g.2.2.2 7)), (1, .int (nI v)), (3, .int 5)]) hx hb dJ1_indexOf_4cfef_14 rfl hl (by decide) rfl (fun ls hl => ?_)
    refine lv_iload_n hx hb dJ1_indexOf_4cfef_15 rfl (lv_at hl 3 rfl) ?_
    refine lv_aload_n hx hb dJ1_indexOf_4cfef_16 rfl (lv_at hl 1 rfl) ?_
    refine va_tlen hx hb hZ.by0 hS (v := 5) (by decide) dJ1_indexOf_4cfef_17 ?_
    refine va_mmin hx hb (by rw [hml]; exact hl.1.symm) hown (hts (.methodLink RJ1 38 Lib.Math.min.name) q_J1_indexOf_0_4) (hts (.static Lib.Math.min.name) q_J1_indexOf_0_5) (hts (.initialized "java/lang/Math") q_J1_indexOf_0_2) (hts (.code Lib.Math.min.name Lib.Math.min.code 2 (some .int)) q_J1_indexOf_0_6) (Nat.le_of_ble_eq_true rfl) (Nat.le_of_ble_eq_true rfl) (Nat.le_of_ble_eq_true rfl) (Nat.le_of_ble_eq_true rfl) dJ1_indexOf_4cfef_18 ?_
    refine lv_topi (fun x_5 ex_5 => ?_)
    obtain rfl : x_5 = 5 := by rw [ex_5]; decide
    refine lv_istore_n (lv' := [(3, .int 5), (2, .int 0), (0, .ref (g.2.2.2 7)), (1, .int (nI v))]) hx hb dJ1_indexOf_4cfef_21 rfl hl (by decide) rfl (fun ls hl => ?_)
    refine lv_iload_n hx hb dJ1_indexOf_4cfef_22 rfl (lv_at hl 1 rfl) ?_
    refine lv_iload_n hx hb dJ1_indexOf_4cfef_23 rfl (lv_at hl 0 rfl) ?_
    refine lv_icmp_lt (tgt := 29) hx hb dJ1_indexOf_4cfef_24 (by decide) (fun c24_6 => ?_) (fun c24_6 => ?_)
    · skip
      refine lv_aload_n hx hb dJ1_indexOf_4cfef_29 rfl (lv_at hl 2 rfl) ?_
      refine lv_iload_n hx hb dJ1_indexOf_4cfef_30 rfl (lv_at hl 3 rfl) ?_
      refine lv_iload_n hx hb dJ1_indexOf_4cfef_31 rfl (lv_at hl 1 rfl) ?_
      refine lv_iload_n hx hb dJ1_indexOf_4cfef_32 rfl (lv_at hl 0 rfl) ?_
      refine k_ci (wr := []) hP hD hS hA [] [] rfl rfl (by decide) (by decide) (va_runS (As := [.ref (g.2.2.2 7), .int (nI v), .int 0, .int 5]) (rest := []) ⟨hx, hb, hml, hown, hts⟩ (c_J1_indexOfChar_0 l g v (by first | assumption | omega) H.size) (va_cwS 4 hts gJ1_indexOf_4cfef_J1_indexOfChar_4cfef rfl rfl rfl (by decide +kernel) ⟨Nat.le_of_ble_eq_true rfl, Nat.le_of_ble_eq_true rfl⟩) (k_preS hE hZ hP hD hS hA [] rfl (by decide)) rfl rfl hl.1 rfl (lv_room (Nat.le_of_ble_eq_true rfl)) dJ1_indexOf_4cfef_33 ⟨Nat.le_of_ble_eq_true rfl, Nat.le_of_ble_eq_true rfl⟩) (fun r_7 w1 H locs hw hP hD hS => ?_)
      obtain ⟨rfl, rfl⟩ := hw
      have hP : va_P g.1 vwCl [] H := hP
      have hD : va_D A [] := hD
      refine W.widen (k := 0) (n := 0) (Nat.le_of_ble_eq_true rfl) (Nat.le_of_ble_eq_true rfl) ?_
      exact k_ri hx hb hr hlocks hS hP hD ⟨rfl, rfl⟩ dJ1_indexOf_4cfef_36
    · exact absurd c24_6 (by decide)
  · exact absurd c4_3 (by decide)
def po_J0_indexOfI_0 (g : GG) (v : Nat) : Int32 → va_W → Prop := fun (r : Int32) w => w = [] ∧ (kby (nI v) = r)
theorem q_J0_indexOfI_0_0 : (Cond.fieldLink RJ0 9 "java/lang/String" "value" "[B") ∈ wsJ0_indexOf_7cf53 := by decide +kernel
set_option maxHeartbeats 1500000 in
set_option maxRecDepth 100000 in
theorem c_J0_indexOfI_0 (l : Launch) (g : GG) (v : Nat) (hv : v < 127) (sz : Nat) : MetI l yJ0_indexOf_7cf53 wsJ0_indexOf_7cf53 ({ frames := 2, cells := 0, slots := 0, locals := 48 }) g [.ref (g.2.2.2 5), .int (nI v), .int 0] [] sz (po_J0_indexOfI_0 g v) 0 0 := by
  refine k_of (l := l) (y := yJ0_indexOf_7cf53) (ws := wsJ0_indexOf_7cf53) (rm := { frames := 2, cells := 0, slots := 0, locals := 48 }) (mc := 0) (ms := 0) (av := [.ref (g.2.2.2 5), .int (nI v), .int 0]) (g := g) (wc := []) (Qc := fun A => va_Qi (po_J0_indexOfI_0 g v) (bk g A) A) (cc := cJ0_indexOf_7cf53) (maxL := 3) (ret := (some .int)) (by decide) rfl (Nat.le_of_ble_eq_true rfl) ?_ sz
  intro p e s m below meth c hx hb hr hts hown hlocks hnm hml A hA hE hZ hP hD hS ls hl
  have hown : s.vm.findClass RJ0 = some m.cls := hown
  have hl : lv_has ls 3 [(0, .ref (g.2.2.2 5)), (1, .int (nI v)), (2, .int 0)] := hl
  refine lv_aload_n hx hb dJ0_indexOf_7cf53_0 rfl (lv_at hl 0 rfl) ?_
  refine k_ci (wr := []) hP hD hS hA [] [] rfl rfl (by decide) (by decide) (va_runV (As := []) (rest := []) ⟨hx, hb, hml, hown, hts⟩ (c_J0_isLatin1_0 l g   s.heap.size) (cwV 0 hts gJ0_indexOf_7cf53_J0_isLatin1_aae02 rfl rfl rfl (by decide +kernel) ⟨Nat.le_of_ble_eq_true rfl, Nat.le_of_ble_eq_true rfl⟩) (k_preV hE hZ hP hD hS hA [] rfl (by decide) (hZ.rc0 hS)) rfl rfl hl.1 rfl (lv_room (Nat.le_of_ble_eq_true rfl)) dJ0_indexOf_7cf53_1 ⟨Nat.le_of_ble_eq_true rfl, Nat.le_of_ble_eq_true rfl⟩) (fun r_1 w1 H locs hw hP hD hS => ?_)
  obtain ⟨rfl, rfl⟩ := hw
  have hP : va_P g.1 vwCl [] H := hP
  have hD : va_D A [] := hD
  refine lv_if_eq (tgt := 23) hx hb dJ0_indexOf_7cf53_4 (by decide) (fun c4_3 => ?_) (fun c4_3 => ?_)
  · exact absurd c4_3 (by decide)
  · skip
    refine lv_aload_n hx hb dJ0_indexOf_7cf53_7 rfl (lv_at hl 0 rfl) ?_
    refine vk_getf (v := .ref (g.2.2.2 7)) hx hb hZ.va0 hS hown (hts (.fieldLink RJ0 9 "java/lang/String" "value" "[B") q_J0_indexOfI_0_0) (fun _ h9 => h9) dJ0_indexOf_7cf53_8 ?_
    refine lv_iload_n hx hb dJ0_indexOf_7cf53_11 rfl (lv_at hl 1 rfl) ?_
    refine lv_iload_n hx hb dJ0_indexOf_7cf53_12 rfl (lv_at hl 2 rfl) ?_
    refine lv_aload_n hx hb dJ0_indexOf_7cf53_13 rfl (lv_at hl 0 rfl) ?_
    refine k_ci (wr := []) hP hD hS hA [] [] rfl rfl (by decide) (by decide) (va_runV (As := []) (rest := [.int 0, .int (nI v), .ref (g.2.2.2 7)]) ⟨hx, hb, hml, hown, hts⟩ (c_J0_length_0 l g   H.size) (cwV 0 hts gJ0_indexOf_7cf53_J0_length_8abf5 rfl rfl rfl (by decide +kernel) ⟨Nat.le_of_ble_eq_true rfl, Nat.le_of_ble_eq_true rfl⟩) (k_preV hE hZ hP hD hS hA [] rfl (by decide) (hZ.rc0 hS)) rfl rfl hl.1 rfl (lv_room (Nat.le_of_ble_eq_true rfl)) dJ0_indexOf_7cf53_14 ⟨Nat.le_of_ble_eq_true rfl, Nat.le_of_ble_eq_true rfl⟩) (fun r_4 w1 H locs hw hP hD hS => ?_)
    obtain ⟨rfl, rfl⟩ := hw
    have hP : va_P g.1 vwCl [] H := hP
    have hD : va_D A [] := hD
    refine k_ci (wr := []) hP hD hS hA [] [] rfl rfl (by decide) (by decide) (va_runS (As := [.ref (g.2.2.2 7), .int (nI v), .int 0, .int 5]) (rest := []) ⟨hx, hb, hml, hown, hts⟩ (c_J1_indexOf_0 l g v (by first | assumption | omega) H.size) (va_cwS 4 hts gJ0_indexOf_7cf53_J1_indexOf_4cfef rfl rfl rfl (by decide +kernel) ⟨Nat.le_of_ble_eq_true rfl, Nat.le_of_ble_eq_true rfl⟩) (k_preS hE hZ hP hD hS hA [] rfl (by decide)) rfl rfl hl.1 rfl (lv_room (Nat.le_of_ble_eq_true rfl)) dJ0_indexOf_7cf53_17 ⟨Nat.le_of_ble_eq_true rfl, Nat.le_of_ble_eq_true rfl⟩) (fun r_6 w1 H locs hw hP hD hS => ?_)
    obtain ⟨rfl, rfl⟩ := hw
    have hP : va_P g.1 vwCl [] H := hP
    have hD : va_D A [] := hD
    refine lv_goto (tgt := 36) hx hb dJ0_indexOf_7cf53_20 (by decide) ?_
    refine W.widen (k := 0) (n := 0) (Nat.le_of_ble_eq_true rfl) (Nat.le_of_ble_eq_true rfl) ?_
    exact k_ri hx hb hr hlocks hS hP hD ⟨rfl, rfl⟩ dJ0_indexOf_7cf53_36
def po_J0_indexOf_0 (g : GG) (v : Nat) : Int32 → va_W → Prop := fun (r : Int32) w => w = [] ∧ (kby (nI v) = r)
set_option maxHeartbeats 1500000 in
set_option maxRecDepth 100000 in
theorem c_J0_indexOf_0 (l : Launch) (g : GG) (v : Nat) (hv : v < 127) (sz : Nat) : MetI l yJ0_indexOf_0f7a4 wsJ0_indexOf_0f7a4 ({ frames := 3, cells := 0, slots := 0, locals := 70 }) g [.ref (g.2.2.2 5), .int (nI v)] [] sz (po_J0_indexOf_0 g v) 0 0 := by
  refine k_of (l := l) (y := yJ0_indexOf_0f7a4) (ws := wsJ0_indexOf_0f7a4) (rm := { frames := 3, cells := 0, slots := 0, locals := 70 }) (mc := 0) (ms := 0) (av := [.ref (g.2.2.2 5), .int (nI v)]) (g := g) (wc := []) (Qc := fun A => va_Qi (po_J0_indexOf_0 g v) (bk g A) A) (cc := cJ0_indexOf_0f7a4) (maxL := 2) (ret := (some .int)) (by decide) rfl (Nat.le_of_ble_eq_true rfl) ?_ sz
  intro p e s m below meth c hx hb hr hts hown hlocks hnm hml A hA hE hZ hP hD hS ls hl
  have hown : s.vm.findClass RJ0 = some m.cls := hown
  have hl : lv_has ls 2 [(0, .ref (g.2.2.2 5)), (1, .int (nI v))] := hl
  refine lv_aload_n hx hb dJ0_indexOf_0f7a4_0 rfl (lv_at hl 0 rfl) ?_
  refine lv_iload_n hx hb dJ0_indexOf_0f7a4_1 rfl (lv_at hl 1 rfl) ?_
  refine lv_iconst (v := 0) hx hb dJ0_indexOf_0f7a4_2 (by decide) ?_
  refine k_ci (wr := []) hP hD hS hA [] [] rfl rfl (by decide) (by decide) (va_runV (As := [.int (nI v), .int 0]) (rest := []) ⟨hx, hb, hml, hown, hts⟩ (c_J0_indexOfI_0 l g v (by first | assumption | omega) s.heap.size) (cwV 2 hts gJ0_indexOf_0f7a4_J0_indexOf_7cf53 rfl rfl rfl (by decide +kernel) ⟨Nat.le_of_ble_eq_true rfl, Nat.le_of_ble_eq_true rfl⟩) (k_preV hE hZ hP hD hS hA [] rfl (by decide) (hZ.rc0 hS)) rfl rfl hl.1 rfl (lv_room (Nat.le_of_ble_eq_true rfl)) dJ0_indexOf_0f7a4_3 ⟨Nat.le_of_ble_eq_true rfl, Nat.le_of_ble_eq_true rfl⟩) (fun r_1 w1 H locs hw hP hD hS => ?_)
  obtain ⟨rfl, rfl⟩ := hw
  have hP : va_P g.1 vwCl [] H := hP
  have hD : va_D A [] := hD
  refine W.widen (k := 0) (n := 0) (Nat.le_of_ble_eq_true rfl) (Nat.le_of_ble_eq_true rfl) ?_
  exact k_ri hx hb hr hlocks hS hP hD ⟨rfl, rfl⟩ dJ0_indexOf_0f7a4_6
def po_J0_isLatin1_1 (g : GG)  : Int32 → va_W → Prop := fun (r : Int32) w => w = [] ∧ (1 = r)
theorem q_J0_isLatin1_1_0 : (Cond.fieldLink RJ0 38 "java/lang/String" "COMPACT_STRINGS" "Z") ∈ wsJ0_isLatin1_aae02 := by decide +kernel
theorem q_J0_isLatin1_1_1 : (Cond.fieldLink RJ0 15 "java/lang/String" "coder" "B") ∈ wsJ0_isLatin1_aae02 := by decide +kernel
set_option maxHeartbeats 1500000 in
set_option maxRecDepth 100000 in
theorem c_J0_isLatin1_1 (l : Launch) (g : GG)   (sz : Nat) : MetI l yJ0_isLatin1_aae02 wsJ0_isLatin1_aae02 ({ frames := 0, cells := 0, slots := 0, locals := 0 }) g [.ref (g.2.2.2 6)] [] sz (po_J0_isLatin1_1 g ) 0 0 := by
  refine k_of (l := l) (y := yJ0_isLatin1_aae02) (ws := wsJ0_isLatin1_aae02) (rm := { frames := 0, cells := 0, slots := 0, locals := 0 }) (mc := 0) (ms := 0) (av := [.ref (g.2.2.2 6)]) (g := g) (wc := []) (Qc := fun A => va_Qi (po_J0_isLatin1_1 g ) (bk g A) A) (cc := cJ0_isLatin1_aae02) (maxL := 1) (ret := (some .boolean)) (by decide) rfl (Nat.le_of_ble_eq_true rfl) ?_ sz
  intro p e s m below meth c hx hb hr hts hown hlocks hnm hml A hA hE hZ hP hD hS ls hl
  have hown : s.vm.findClass RJ0 = some m.cls := hown
  have hl : lv_has ls 1 [(0, .ref (g.2.2.2 6))] := hl
  refine va_gets hx hb hZ.zc hS hown (hts (.fieldLink RJ0 38 "java/lang/String" "COMPACT_STRINGS" "Z") q_J0_isLatin1_1_0) (fun _ h9 => h9) dJ0_isLatin1_aae02_0 ?_
  refine lv_if_eq (tgt := 17) hx hb dJ0_isLatin1_aae02_3 (by decide) (fun c3_1 => ?_) (fun c3_1 => ?_)
  · exact absurd c3_1 (by decide)
  · skip
    refine lv_aload_n hx hb dJ0_isLatin1_aae02_6 rfl (lv_at hl 0 rfl) ?_
    refine vk_getf (v := .int 0) hx hb hZ.co1 hS hown (hts (.fieldLink RJ0 15 "java/lang/String" "coder" "B") q_J0_isLatin1_1_1) (fun _ h9 => h9) dJ0_isLatin1_aae02_7 ?_
    refine lv_if_ne (tgt := 17) hx hb dJ0_isLatin1_aae02_10 (by decide) (fun c10_2 => ?_) (fun c10_2 => ?_)
    · exact absurd c10_2 (by decide)
    · skip
      refine lv_iconst (v := 1) hx hb dJ0_isLatin1_aae02_13 (by decide) ?_
      refine lv_goto (tgt := 18) hx hb dJ0_isLatin1_aae02_14 (by decide) ?_
      refine W.widen (k := 0) (n := 0) (Nat.le_of_ble_eq_true rfl) (Nat.le_of_ble_eq_true rfl) ?_
      exact k_rz hx hb hr hlocks hS hP hD rfl ⟨rfl, rfl⟩ dJ0_isLatin1_aae02_18
def po_J0_coder_1 (g : GG)  : Int32 → va_W → Prop := fun (r : Int32) w => w = [] ∧ (0 = r)
theorem q_J0_coder_1_0 : (Cond.fieldLink RJ0 38 "java/lang/String" "COMPACT_STRINGS" "Z") ∈ wsJ0_coder_7d493 := by decide +kernel
theorem q_J0_coder_1_1 : (Cond.fieldLink RJ0 15 "java/lang/String" "coder" "B") ∈ wsJ0_coder_7d493 := by decide +kernel
set_option maxHeartbeats 1500000 in
set_option maxRecDepth 100000 in
theorem c_J0_coder_1 (l : Launch) (g : GG)   (sz : Nat) : MetI l yJ0_coder_7d493 wsJ0_coder_7d493 ({ frames := 0, cells := 0, slots := 0, locals := 0 }) g [.ref (g.2.2.2 6)] [] sz (po_J0_coder_1 g ) 0 0 := by
  refine k_of (l := l) (y := yJ0_coder_7d493) (ws := wsJ0_coder_7d493) (rm := { frames := 0, cells := 0, slots := 0, locals := 0 }) (mc := 0) (ms := 0) (av := [.ref (g.2.2.2 6)]) (g := g) (wc := []) (Qc := fun A => va_Qi (po_J0_coder_1 g ) (bk g A) A) (cc := cJ0_coder_7d493) (maxL := 1) (ret := (some .byte)) (by decide) rfl (Nat.le_of_ble_eq_true rfl) ?_ sz
  intro p e s m below meth c hx hb hr hts hown hlocks hnm hml A hA hE hZ hP hD hS ls hl
  have hown : s.vm.findClass RJ0 = some m.cls := hown
  have hl : lv_has ls 1 [(0, .ref (g.2.2.2 6))] := hl
  refine va_gets hx hb hZ.zc hS hown (hts (.fieldLink RJ0 38 "java/lang/String" "COMPACT_STRINGS" "Z") q_J0_coder_1_0) (fun _ h9 => h9) dJ0_coder_7d493_0 ?_
  refine lv_if_eq (tgt := 13) hx hb dJ0_coder_7d493_3 (by decide) (fun c3_1 => ?_) (fun c3_1 => ?_)
  · exact absurd c3_1 (by decide)
  · skip
    refine lv_aload_n hx hb dJ0_coder_7d493_6 rfl (lv_at hl 0 rfl) ?_
    refine vk_getf (v := .int 0) hx hb hZ.co1 hS hown (hts (.fieldLink RJ0 15 "java/lang/String" "coder" "B") q_J0_coder_1_1) (fun _ h9 => h9) dJ0_coder_7d493_7 ?_
    refine lv_goto (tgt := 14) hx hb dJ0_coder_7d493_10 (by decide) ?_
    refine W.widen (k := 0) (n := 0) (Nat.le_of_ble_eq_true rfl) (Nat.le_of_ble_eq_true rfl) ?_
    exact k_rb hx hb hr hlocks hS hP hD rfl ⟨rfl, rfl⟩ dJ0_coder_7d493_14
def po_J0_length_1 (g : GG)  : Int32 → va_W → Prop := fun (r : Int32) w => w = [] ∧ (9 = r)
theorem q_J0_length_1_0 : (Cond.fieldLink RJ0 9 "java/lang/String" "value" "[B") ∈ wsJ0_length_8abf5 := by decide +kernel
set_option maxHeartbeats 1500000 in
set_option maxRecDepth 100000 in
theorem c_J0_length_1 (l : Launch) (g : GG)   (sz : Nat) : MetI l yJ0_length_8abf5 wsJ0_length_8abf5 ({ frames := 1, cells := 0, slots := 0, locals := 20 }) g [.ref (g.2.2.2 6)] [] sz (po_J0_length_1 g ) 0 0 := by
  refine k_of (l := l) (y := yJ0_length_8abf5) (ws := wsJ0_length_8abf5) (rm := { frames := 1, cells := 0, slots := 0, locals := 20 }) (mc := 0) (ms := 0) (av := [.ref (g.2.2.2 6)]) (g := g) (wc := []) (Qc := fun A => va_Qi (po_J0_length_1 g ) (bk g A) A) (cc := cJ0_length_8abf5) (maxL := 1) (ret := (some .int)) (by decide) rfl (Nat.le_of_ble_eq_true rfl) ?_ sz
  intro p e s m below meth c hx hb hr hts hown hlocks hnm hml A hA hE hZ hP hD hS ls hl
  have hown : s.vm.findClass RJ0 = some m.cls := hown
  have hl : lv_has ls 1 [(0, .ref (g.2.2.2 6))] := hl
  refine lv_aload_n hx hb dJ0_length_8abf5_0 rfl (lv_at hl 0 rfl) ?_
  refine vk_getf (v := .ref (g.2.2.2 8)) hx hb hZ.va1 hS hown (hts (.fieldLink RJ0 9 "java/lang/String" "value" "[B") q_J0_length_1_0) (fun _ h9 => h9) dJ0_length_8abf5_1 ?_
  refine va_tlen hx hb hZ.by1 hS (v := 9) (by decide) dJ0_length_8abf5_4 ?_
  refine lv_aload_n hx hb dJ0_length_8abf5_5 rfl (lv_at hl 0 rfl) ?_
  refine k_ci (wr := []) hP hD hS hA [] [] rfl rfl (by decide) (by decide) (va_runV (As := []) (rest := [.int 9]) ⟨hx, hb, hml, hown, hts⟩ (c_J0_coder_1 l g   s.heap.size) (cwV 0 hts gJ0_length_8abf5_J0_coder_7d493 rfl rfl rfl (by decide +kernel) ⟨Nat.le_of_ble_eq_true rfl, Nat.le_of_ble_eq_true rfl⟩) (k_preV hE hZ hP hD hS hA [] rfl (by decide) (hZ.rc1 hS)) rfl rfl hl.1 rfl (lv_room (Nat.le_of_ble_eq_true rfl)) dJ0_length_8abf5_6 ⟨Nat.le_of_ble_eq_true rfl, Nat.le_of_ble_eq_true rfl⟩) (fun r_1 w1 H locs hw hP hD hS => ?_)
  obtain ⟨rfl, rfl⟩ := hw
  have hP : va_P g.1 vwCl [] H := hP
  have hD : va_D A [] := hD
  refine lv_ishr hx hb dJ0_length_8abf5_9 ?_
  refine lv_topi (fun x_3 ex_3 => ?_)
  obtain rfl : x_3 = 9 := by rw [ex_3]; decide
  refine W.widen (k := 0) (n := 0) (Nat.le_of_ble_eq_true rfl) (Nat.le_of_ble_eq_true rfl) ?_
  exact k_ri hx hb hr hlocks hS hP hD ⟨rfl, rfl⟩ dJ0_length_8abf5_10
def po_J1_indexOfChar_1 (g : GG) (v : Nat) : Int32 → va_W → Prop := fun (r : Int32) w => w = [] ∧ (sby (nI v) = r)
set_option maxHeartbeats 1500000 in
set_option maxRecDepth 100000 in
theorem c_J1_indexOfChar_1 (l : Launch) (g : GG) (v : Nat) (hv : v < 127) (sz : Nat) : MetI l yJ1_indexOfChar_4cfef wsJ1_indexOfChar_4cfef ({ frames := 0, cells := 0, slots := 0, locals := 0 }) g [.ref (g.2.2.2 8), .int (nI v), .int 0, .int 9] [] sz (po_J1_indexOfChar_1 g v) 0 0 := by
  refine k_of (l := l) (y := yJ1_indexOfChar_4cfef) (ws := wsJ1_indexOfChar_4cfef) (rm := { frames := 0, cells := 0, slots := 0, locals := 0 }) (mc := 0) (ms := 0) (av := [.ref (g.2.2.2 8), .int (nI v), .int 0, .int 9]) (g := g) (wc := []) (Qc := fun A => va_Qi (po_J1_indexOfChar_1 g v) (bk g A) A) (cc := cJ1_indexOfChar_4cfef) (maxL := 6) (ret := (some .int)) (by decide) rfl (Nat.le_of_ble_eq_true rfl) ?_ sz
  intro p e s m below meth c hx hb hr hts hown hlocks hnm hml A hA hE hZ hP hD hS ls hl
  have hown : s.vm.findClass RJ1 = some m.cls := hown
  have hl : lv_has ls 6 [(0, .ref (g.2.2.2 8)), (1, .int (nI v)), (2, .int 0), (3, .int 9)] := hl
  refine lv_iload_n hx hb dJ1_indexOfChar_4cfef_0 rfl (lv_at hl 1 rfl) ?_
  refine lv_i2b hx hb dJ1_indexOfChar_4cfef_1 rfl ?_
  refine lv_topi (fun x_1 ex_1 => ?_)
  obtain rfl : x_1 = nI v := by rw [ex_1]; exact chr_b v hv
  refine lv_istore (lv' := [(4, .int (nI v)), (0, .ref (g.2.2.2 8)), (1, .int (nI v)), (2, .int 0), (3, .int 9)]) hx hb dJ1_indexOfChar_4cfef_2 hl (by decide) rfl (fun ls hl => ?_)
  refine lv_iload_n hx hb dJ1_indexOfChar_4cfef_4 rfl (lv_at hl 3 rfl) ?_
  refine lv_istore (lv' := [(5, .int 0), (4, .int (nI v)), (0, .ref (g.2.2.2 8)), (1, .int (nI v)), (2, .int 0), (3, .int 9)]) hx hb dJ1_indexOfChar_4cfef_5 hl (by decide) rfl (fun ls hl => ?_)
  refine lv_iload hx hb dJ1_indexOfChar_4cfef_7 (lv_at hl 0 rfl) ?_
  refine lv_iload_n hx hb dJ1_indexOfChar_4cfef_9 rfl (lv_at hl 5 rfl) ?_
  refine lv_icmp_ge (tgt := 31) hx hb dJ1_indexOfChar_4cfef_10 (by decide) (fun c10_2 => ?_) (fun c10_2 => ?_)
  · exact absurd c10_2 (by decide)
  · skip
    refine lv_aload_n hx hb dJ1_indexOfChar_4cfef_13 rfl (lv_at hl 2 rfl) ?_
    refine lv_iload hx hb dJ1_indexOfChar_4cfef_14 (lv_at hl 0 rfl) ?_
    refine va_tb hx hb hZ.by1 hS (i := 0) (vp_in_nI (n := 0) (N := 9) (by decide) (by decide)) (v := .int 46) rfl dJ1_indexOfChar_4cfef_16 ?_
    refine lv_iload hx hb dJ1_indexOfChar_4cfef_17 (lv_at hl 1 rfl) ?_
    refine lv_icmp_ne (tgt := 25) hx hb dJ1_indexOfChar_4cfef_19 (by decide) (fun c19_3 => ?_) (fun c19_3 => ?_)
    · skip
      refine lv_iinc (v := 1) (lv' := [(5, .int 1), (4, .int (nI v)), (0, .ref (g.2.2.2 8)), (1, .int (nI v)), (2, .int 0), (3, .int 9)]) hx hb dJ1_indexOfChar_4cfef_25 hl (k := 0) rfl (by decide) (by decide) rfl (fun ls hl => ?_)
      refine lv_goto (tgt := 7) hx hb dJ1_indexOfChar_4cfef_28 (by decide) ?_
      refine lv_iload hx hb dJ1_indexOfChar_4cfef_7 (lv_at hl 0 rfl) ?_
      refine lv_iload_n hx hb dJ1_indexOfChar_4cfef_9 rfl (lv_at hl 5 rfl) ?_
      refine lv_icmp_ge (tgt := 31) hx hb dJ1_indexOfChar_4cfef_10 (by decide) (fun c10_4 => ?_) (fun c10_4 => ?_)
      · exact absurd c10_4 (by decide)
      · skip
        refine lv_aload_n hx hb dJ1_indexOfChar_4cfef_13 rfl (lv_at hl 2 rfl) ?_
        refine lv_iload hx hb dJ1_indexOfChar_4cfef_14 (lv_at hl 0 rfl) ?_
        refine va_tb hx hb hZ.by1 hS (i := 1) (vp_in_nI (n := 1) (N := 9) (by decide) (by decide)) (v := .int 97) rfl dJ1_indexOfChar_4cfef_16 ?_
        refine lv_iload hx hb dJ1_indexOfChar_4cfef_17 (lv_at hl 1 rfl) ?_
        refine lv_icmp_ne (tgt := 25) hx hb dJ1_indexOfChar_4cfef_19 (by decide) (fun c19_5 => ?_) (fun c19_5 => ?_)
        · skip
          refine lv_iinc (v := 2) (lv' := [(5, .int 2), (4, .int (nI v)), (0, .ref (g.2.2.2 8)), (1, .int (nI v)), (2, .int 0), (3, .int 9)]) hx hb dJ1_indexOfChar_4cfef_25 hl (k := 0) rfl (by decide) (by decide) rfl (fun ls hl => ?_)
          refine lv_goto (tgt := 7) hx hb dJ1_indexOfChar_4cfef_28 (by decide) ?_
          refine lv_iload hx hb dJ1_indexOfChar_4cfef_7 (lv_at hl 0 rfl) ?_
          refine lv_iload_n hx hb dJ1_indexOfChar_4cfef_9 rfl (lv_at hl 5 rfl) ?_
          refine lv_icmp_ge (tgt := 31) hx hb dJ1_indexOfChar_4cfef_10 (by decide) (fun c10_6 => ?_) (fun c10_6 => ?_)
          · exact absurd c10_6 (by decide)
          · skip
            refine lv_aload_n hx hb dJ1_indexOfChar_4cfef_13 rfl (lv_at hl 2 rfl) ?_
            refine lv_iload hx hb dJ1_indexOfChar_4cfef_14 (lv_at hl 0 rfl) ?_
            refine va_tb hx hb hZ.by1 hS (i := 2) (vp_in_nI (n := 2) (N := 9) (by decide) (by decide)) (v := .int 101) rfl dJ1_indexOfChar_4cfef_16 ?_
            refine lv_iload hx hb dJ1_indexOfChar_4cfef_17 (lv_at hl 1 rfl) ?_
            refine lv_icmp_ne (tgt := 25) hx hb dJ1_indexOfChar_4cfef_19 (by decide) (fun c19_7 => ?_) (fun c19_7 => ?_)
            · skip
              refine lv_iinc (v := 3) (lv' := [(5, .int 3), (4, .int (nI v)), (0, .ref (g.2.2.2 8)), (1, .int (nI v)), (2, .int 0), (3, .int 9)]) hx hb dJ1_indexOfChar_4cfef_25 hl (k := 0) rfl (by decide) (by decide) rfl (fun ls hl => ?_)
              refine lv_goto (tgt := 7) hx hb dJ1_indexOfChar_4cfef_28 (by decide) ?_
              refine lv_iload hx hb dJ1_indexOfChar_4cfef_7 (lv_at hl 0 rfl) ?_
              refine lv_iload_n hx hb dJ1_indexOfChar_4cfef_9 rfl (lv_at hl 5 rfl) ?_
              refine lv_icmp_ge (tgt := 31) hx hb dJ1_indexOfChar_4cfef_10 (by decide) (fun c10_8 => ?_) (fun c10_8 => ?_)
              · exact absurd c10_8 (by decide)
              · skip
                refine lv_aload_n hx hb dJ1_indexOfChar_4cfef_13 rfl (lv_at hl 2 rfl) ?_
                refine lv_iload hx hb dJ1_indexOfChar_4cfef_14 (lv_at hl 0 rfl) ?_
                refine va_tb hx hb hZ.by1 hS (i := 3) (vp_in_nI (n := 3) (N := 9) (by decide) (by decide)) (v := .int 111) rfl dJ1_indexOfChar_4cfef_16 ?_
                refine lv_iload hx hb dJ1_indexOfChar_4cfef_17 (lv_at hl 1 rfl) ?_
                refine lv_icmp_ne (tgt := 25) hx hb dJ1_indexOfChar_4cfef_19 (by decide) (fun c19_9 => ?_) (fun c19_9 => ?_)
                · skip
                  refine lv_iinc (v := 4) (lv' := [(5, .int 4), (4, .int (nI v)), (0, .ref (g.2.2.2 8)), (1, .int (nI v)), (2, .int 0), (3, .int 9)]) hx hb dJ1_indexOfChar_4cfef_25 hl (k := 0) rfl (by decide) (by decide) rfl (fun ls hl => ?_)
                  refine lv_goto (tgt := 7) hx hb dJ1_indexOfChar_4cfef_28 (by decide) ?_
                  refine lv_iload hx hb dJ1_indexOfChar_4cfef_7 (lv_at hl 0 rfl) ?_
                  refine lv_iload_n hx hb dJ1_indexOfChar_4cfef_9 rfl (lv_at hl 5 rfl) ?_
                  refine lv_icmp_ge (tgt := 31) hx hb dJ1_indexOfChar_4cfef_10 (by decide) (fun c10_10 => ?_) (fun c10_10 => ?_)
                  · exact absurd c10_10 (by decide)
                  · skip
                    refine lv_aload_n hx hb dJ1_indexOfChar_4cfef_13 rfl (lv_at hl 2 rfl) ?_
                    refine lv_iload hx hb dJ1_indexOfChar_4cfef_14 (lv_at hl 0 rfl) ?_
                    refine va_tb hx hb hZ.by1 hS (i := 4) (vp_in_nI (n := 4) (N := 9) (by decide) (by decide)) (v := .int 112) rfl dJ1_indexOfChar_4cfef_16 ?_
                    refine lv_iload hx hb dJ1_indexOfChar_4cfef_17 (lv_at hl 1 rfl) ?_
                    refine lv_icmp_ne (tgt := 25) hx hb dJ1_indexOfChar_4cfef_19 (by decide) (fun c19_11 => ?_) (fun c19_11 => ?_)
                    · skip
                      refine lv_iinc (v := 5) (lv' := [(5, .int 5), (4, .int (nI v)), (0, .ref (g.2.2.2 8)), (1, .int (nI v)), (2, .int 0), (3, .int 9)]) hx hb dJ1_indexOfChar_4cfef_25 hl (k := 0) rfl (by decide) (by decide) rfl (fun ls hl => ?_)
                      refine lv_goto (tgt := 7) hx hb dJ1_indexOfChar_4cfef_28 (by decide) ?_
                      refine lv_iload hx hb dJ1_indexOfChar_4cfef_7 (lv_at hl 0 rfl) ?_
                      refine lv_iload_n hx hb dJ1_indexOfChar_4cfef_9 rfl (lv_at hl 5 rfl) ?_
                      refine lv_icmp_ge (tgt := 31) hx hb dJ1_indexOfChar_4cfef_10 (by decide) (fun c10_12 => ?_) (fun c10_12 => ?_)
                      · exact absurd c10_12 (by decide)
                      · skip
                        refine lv_aload_n hx hb dJ1_indexOfChar_4cfef_13 rfl (lv_at hl 2 rfl) ?_
                        refine lv_iload hx hb dJ1_indexOfChar_4cfef_14 (lv_at hl 0 rfl) ?_
                        refine va_tb hx hb hZ.by1 hS (i := 5) (vp_in_nI (n := 5) (N := 9) (by decide) (by decide)) (v := .int 116) rfl dJ1_indexOfChar_4cfef_16 ?_
                        refine lv_iload hx hb dJ1_indexOfChar_4cfef_17 (lv_at hl 1 rfl) ?_
                        refine lv_icmp_ne (tgt := 25) hx hb dJ1_indexOfChar_4cfef_19 (by decide) (fun c19_13 => ?_) (fun c19_13 => ?_)
                        · skip
                          refine lv_iinc (v := 6) (lv' := [(5, .int 6), (4, .int (nI v)), (0, .ref (g.2.2.2 8)), (1, .int (nI v)), (2, .int 0), (3, .int 9)]) hx hb dJ1_indexOfChar_4cfef_25 hl (k := 0) rfl (by decide) (by decide) rfl (fun ls hl => ?_)
                          refine lv_goto (tgt := 7) hx hb dJ1_indexOfChar_4cfef_28 (by decide) ?_
                          refine lv_iload hx hb dJ1_indexOfChar_4cfef_7 (lv_at hl 0 rfl) ?_
                          refine lv_iload_n hx hb dJ1_indexOfChar_4cfef_9 rfl (lv_at hl 5 rfl) ?_
                          refine lv_icmp_ge (tgt := 31) hx hb dJ1_indexOfChar_4cfef_10 (by decide) (fun c10_14 => ?_) (fun c10_14 => ?_)
                          · exact absurd c10_14 (by decide)
                          · skip
                            refine lv_aload_n hx hb dJ1_indexOfChar_4cfef_13 rfl (lv_at hl 2 rfl) ?_
                            refine lv_iload hx hb dJ1_indexOfChar_4cfef_14 (lv_at hl 0 rfl) ?_
                            refine va_tb hx hb hZ.by1 hS (i := 6) (vp_in_nI (n := 6) (N := 9) (by decide) (by decide)) (v := .int 107) rfl dJ1_indexOfChar_4cfef_16 ?_
                            refine lv_iload hx hb dJ1_indexOfChar_4cfef_17 (lv_at hl 1 rfl) ?_
                            refine lv_icmp_ne (tgt := 25) hx hb dJ1_indexOfChar_4cfef_19 (by decide) (fun c19_15 => ?_) (fun c19_15 => ?_)
                            · skip
                              refine lv_iinc (v := 7) (lv' := [(5, .int 7), (4, .int (nI v)), (0, .ref (g.2.2.2 8)), (1, .int (nI v)), (2, .int 0), (3, .int 9)]) hx hb dJ1_indexOfChar_4cfef_25 hl (k := 0) rfl (by decide) (by decide) rfl (fun ls hl => ?_)
                              refine lv_goto (tgt := 7) hx hb dJ1_indexOfChar_4cfef_28 (by decide) ?_
                              refine lv_iload hx hb dJ1_indexOfChar_4cfef_7 (lv_at hl 0 rfl) ?_
                              refine lv_iload_n hx hb dJ1_indexOfChar_4cfef_9 rfl (lv_at hl 5 rfl) ?_
                              refine lv_icmp_ge (tgt := 31) hx hb dJ1_indexOfChar_4cfef_10 (by decide) (fun c10_16 => ?_) (fun c10_16 => ?_)
                              · exact absurd c10_16 (by decide)
                              · skip
                                refine lv_aload_n hx hb dJ1_indexOfChar_4cfef_13 rfl (lv_at hl 2 rfl) ?_
                                refine lv_iload hx hb dJ1_indexOfChar_4cfef_14 (lv_at hl 0 rfl) ?_
                                refine va_tb hx hb hZ.by1 hS (i := 7) (vp_in_nI (n := 7) (N := 9) (by decide) (by decide)) (v := .int 115) rfl dJ1_indexOfChar_4cfef_16 ?_
                                refine lv_iload hx hb dJ1_indexOfChar_4cfef_17 (lv_at hl 1 rfl) ?_
                                refine lv_icmp_ne (tgt := 25) hx hb dJ1_indexOfChar_4cfef_19 (by decide) (fun c19_17 => ?_) (fun c19_17 => ?_)
                                · skip
                                  refine lv_iinc (v := 8) (lv' := [(5, .int 8), (4, .int (nI v)), (0, .ref (g.2.2.2 8)), (1, .int (nI v)), (2, .int 0), (3, .int 9)]) hx hb dJ1_indexOfChar_4cfef_25 hl (k := 0) rfl (by decide) (by decide) rfl (fun ls hl => ?_)
                                  refine lv_goto (tgt := 7) hx hb dJ1_indexOfChar_4cfef_28 (by decide) ?_
                                  refine lv_iload hx hb dJ1_indexOfChar_4cfef_7 (lv_at hl 0 rfl) ?_
                                  refine lv_iload_n hx hb dJ1_indexOfChar_4cfef_9 rfl (lv_at hl 5 rfl) ?_
                                  refine lv_icmp_ge (tgt := 31) hx hb dJ1_indexOfChar_4cfef_10 (by decide) (fun c10_18 => ?_) (fun c10_18 => ?_)
                                  · exact absurd c10_18 (by decide)
                                  · skip
                                    refine lv_aload_n hx hb dJ1_indexOfChar_4cfef_13 rfl (lv_at hl 2 rfl) ?_
                                    refine lv_iload hx hb dJ1_indexOfChar_4cfef_14 (lv_at hl 0 rfl) ?_
                                    refine va_tb hx hb hZ.by1 hS (i := 8) (vp_in_nI (n := 8) (N := 9) (by decide) (by decide)) (v := .int 102) rfl dJ1_indexOfChar_4cfef_16 ?_
                                    refine lv_iload hx hb dJ1_indexOfChar_4cfef_17 (lv_at hl 1 rfl) ?_
                                    refine lv_icmp_ne (tgt := 25) hx hb dJ1_indexOfChar_4cfef_19 (by decide) (fun c19_19 => ?_) (fun c19_19 => ?_)
                                    · skip
                                      refine lv_iinc (v := 9) (lv' := [(5, .int 9), (4, .int (nI v)), (0, .ref (g.2.2.2 8)), (1, .int (nI v)), (2, .int 0), (3, .int 9)]) hx hb dJ1_indexOfChar_4cfef_25 hl (k := 0) rfl (by decide) (by decide) rfl (fun ls hl => ?_)
                                      refine lv_goto (tgt := 7) hx hb dJ1_indexOfChar_4cfef_28 (by decide) ?_
                                      refine lv_iload hx hb dJ1_indexOfChar_4cfef_7 (lv_at hl 0 rfl) ?_
                                      refine lv_iload_n hx hb dJ1_indexOfChar_4cfef_9 rfl (lv_at hl 5 rfl) ?_
                                      refine lv_icmp_ge (tgt := 31) hx hb dJ1_indexOfChar_4cfef_10 (by decide) (fun c10_20 => ?_) (fun c10_20 => ?_)
                                      · skip
                                        refine lv_iconst (v := (-1)) hx hb dJ1_indexOfChar_4cfef_31 (by decide) ?_
                                        refine W.widen (k := 0) (n := 0) (Nat.le_of_ble_eq_true rfl) (Nat.le_of_ble_eq_true rfl) ?_
                                        exact k_ri hx hb hr hlocks hS hP hD ⟨rfl, (by unfold sby; rw [if_neg (fun q => c19_3 q.symm), if_neg (fun q => c19_5 q.symm), if_neg (fun q => c19_7 q.symm), if_neg (fun q => c19_9 q.symm), if_neg (fun q => c19_11 q.symm), if_neg (fun q => c19_13 q.symm), if_neg (fun q => c19_15 q.symm), if_neg (fun q => c19_17 q.symm), if_neg (fun q => c19_19 q.symm)])⟩ dJ1_indexOfChar_4cfef_32
                                      · exact absurd c10_20 (by decide)
                                    · skip
                                      refine lv_iload hx hb dJ1_indexOfChar_4cfef_22 (lv_at hl 0 rfl) ?_
                                      refine W.widen (k := 0) (n := 0) (Nat.le_of_ble_eq_true rfl) (Nat.le_of_ble_eq_true rfl) ?_
                                      exact k_ri hx hb hr hlocks hS hP hD ⟨rfl, (by unfold sby; rw [if_neg (fun q => c19_3 q.symm), if_neg (fun q => c19_5 q.symm), if_neg (fun q => c19_7 q.symm), if_neg (fun q => c19_9 q.symm), if_neg (fun q => c19_11 q.symm), if_neg (fun q => c19_13 q.symm), if_neg (fun q => c19_15 q.symm), if_neg (fun q => c19_17 q.symm), if_pos c19_19.symm])⟩ dJ1_indexOfChar_4cfef_24
                                · skip
                                  refine lv_iload hx hb dJ1_indexOfChar_4cfef_22 (lv_at hl 0 rfl) ?_
                                  refine W.widen (k := 0) (n := 0) (Nat.le_of_ble_eq_true rfl) (Nat.le_of_ble_eq_true rfl) ?_
                                  exact k_ri hx hb hr hlocks hS hP hD ⟨rfl, (by unfold sby; rw [if_neg (fun q => c19_3 q.symm), if_neg (fun q => c19_5 q.symm), if_neg (fun q => c19_7 q.symm), if_neg (fun q => c19_9 q.symm), if_neg (fun q => c19_11 q.symm), if_neg (fun q => c19_13 q.symm), if_neg (fun q => c19_15 q.symm), if_pos c19_17.symm])⟩ dJ1_indexOfChar_4cfef_24
                            · skip
                              refine lv_iload hx hb dJ1_indexOfChar_4cfef_22 (lv_at hl 0 rfl) ?_
                              refine W.widen (k := 0) (n := 0) (Nat.le_of_ble_eq_true rfl) (Nat.le_of_ble_eq_true rfl) ?_
                              exact k_ri hx hb hr hlocks hS hP hD ⟨rfl, (by unfold sby; rw [if_neg (fun q => c19_3 q.symm), if_neg (fun q => c19_5 q.symm), if_neg (fun q => c19_7 q.symm), if_neg (fun q => c19_9 q.symm), if_neg (fun q => c19_11 q.symm), if_neg (fun q => c19_13 q.symm), if_pos c19_15.symm])⟩ dJ1_indexOfChar_4cfef_24
                        · skip
                          refine lv_iload hx hb dJ1_indexOfChar_4cfef_22 (lv_at hl 0 rfl) ?_
                          refine W.widen (k := 0) (n := 0) (Nat.le_of_ble_eq_true rfl) (Nat.le_of_ble_eq_true rfl) ?_
                          exact k_ri hx hb hr hlocks hS hP hD ⟨rfl, (by unfold sby; rw [if_neg (fun q => c19_3 q.symm), if_neg (fun q => c19_5 q.symm), if_neg (fun q => c19_7 q.symm), if_neg (fun q => c19_9 q.symm), if_neg (fun q => c19_11 q.symm), if_pos c19_13.symm])⟩ dJ1_indexOfChar_4cfef_24
                    · skip
                      refine lv_iload hx hb dJ1_indexOfChar_4cfef_22 (lv_at hl 0 rfl) ?_
                      refine W.widen (k := 0) (n := 0) (Nat.le_of_ble_eq_true rfl) (Nat.le_of_ble_eq_true rfl) ?_
                      exact k_ri hx hb hr hlocks hS hP hD ⟨rfl, (by unfold sby; rw [if_neg (fun q => c19_3 q.symm), if_neg (fun q => c19_5 q.symm), if_neg (fun q => c19_7 q.symm), if_neg (fun q => c19_9 q.symm), if_pos c19_11.symm])⟩ dJ1_indexOfChar_4cfef_24
                · skip
                  refine lv_iload hx hb dJ1_indexOfChar_4cfef_22 (lv_at hl 0 rfl) ?_
                  refine W.widen (k := 0) (n := 0) (Nat.le_of_ble_eq_true rfl) (Nat.le_of_ble_eq_true rfl) ?_
                  exact k_ri hx hb hr hlocks hS hP hD ⟨rfl, (by unfold sby; rw [if_neg (fun q => c19_3 q.symm), if_neg (fun q => c19_5 q.symm), if_neg (fun q => c19_7 q.symm), if_pos c19_9.symm])⟩ dJ1_indexOfChar_4cfef_24
            · skip
              refine lv_iload hx hb dJ1_indexOfChar_4cfef_22 (lv_at hl 0 rfl) ?_
              refine W.widen (k := 0) (n := 0) (Nat.le_of_ble_eq_true rfl) (Nat.le_of_ble_eq_true rfl) ?_
              exact k_ri hx hb hr hlocks hS hP hD ⟨rfl, (by unfold sby; rw [if_neg (fun q => c19_3 q.symm), if_neg (fun q => c19_5 q.symm), if_pos c19_7.symm])⟩ dJ1_indexOfChar_4cfef_24
        · skip
          refine lv_iload hx hb dJ1_indexOfChar_4cfef_22 (lv_at hl 0 rfl) ?_
          refine W.widen (k := 0) (n := 0) (Nat.le_of_ble_eq_true rfl) (Nat.le_of_ble_eq_true rfl) ?_
          exact k_ri hx hb hr hlocks hS hP hD ⟨rfl, (by unfold sby; rw [if_neg (fun q => c19_3 q.symm), if_pos c19_5.symm])⟩ dJ1_indexOfChar_4cfef_24
    · skip
      refine lv_iload hx hb dJ1_indexOfChar_4cfef_22 (lv_at hl 0 rfl) ?_
      refine W.widen (k := 0) (n := 0) (Nat.le_of_ble_eq_true rfl) (Nat.le_of_ble_eq_true rfl) ?_
      exact k_ri hx hb hr hlocks hS hP hD ⟨rfl, (by unfold sby; rw [if_pos c19_3.symm])⟩ dJ1_indexOfChar_4cfef_24
def po_J1_indexOf_1 (g : GG) (v : Nat) : Int32 → va_W → Prop := fun (r : Int32) w => w = [] ∧ (sby (nI v) = r)
theorem q_J1_indexOf_1_0 : (Cond.methodLink RJ1 92 Lib.Math.max.name) ∈ wsJ1_indexOf_4cfef := by decide +kernel
theorem q_J1_indexOf_1_1 : (Cond.static Lib.Math.max.name) ∈ wsJ1_indexOf_4cfef := by decide +kernel
theorem q_J1_indexOf_1_2 : (Cond.initialized "java/lang/Math") ∈ wsJ1_indexOf_4cfef := by decide +kernel
theorem q_J1_indexOf_1_3 : (Cond.code Lib.Math.max.name Lib.Math.max.code 2 (some .int)) ∈ wsJ1_indexOf_4cfef := by decide +kernel
theorem q_J1_indexOf_1_4 : (Cond.methodLink RJ1 38 Lib.Math.min.name) ∈ wsJ1_indexOf_4cfef := by decide +kernel
theorem q_J1_indexOf_1_5 : (Cond.static Lib.Math.min.name) ∈ wsJ1_indexOf_4cfef := by decide +kernel
theorem q_J1_indexOf_1_6 : (Cond.code Lib.Math.min.name Lib.Math.min.code 2 (some .int)) ∈ wsJ1_indexOf_4cfef := by decide +kernel
set_option maxHeartbeats 1500000 in
set_option maxRecDepth 100000 in
theorem c_J1_indexOf_1 (l : Launch) (g : GG) (v : Nat) (hv : v < 127) (sz : Nat) : MetI l yJ1_indexOf_4cfef wsJ1_indexOf_4cfef ({ frames := 1, cells := 0, slots := 0, locals := 25 }) g [.ref (g.2.2.2 8), .int (nI v), .int 0, .int 9] [] sz (po_J1_indexOf_1 g v) 0 0 := by
  refine k_of (l := l) (y := yJ1_indexOf_4cfef) (ws := wsJ1_indexOf_4cfef) (rm := { frames := 1, cells := 0, slots := 0, locals := 25 }) (mc := 0) (ms := 0) (av := [.ref (g.2.2.2 8), .int (nI v), .int 0, .int 9]) (g := g) (wc := []) (Qc := fun A => va_Qi (po_J1_indexOf_1 g v) (bk g A) A) (cc := cJ1_indexOf_4cfef) (maxL := 4) (ret := (some .int)) (by decide) rfl (Nat.le_of_ble_eq_true rfl) ?_ sz
  intro p e s m below meth c hx hb hr hts hown hlocks hnm hml A hA hE hZ hP hD hS ls hl
  have hown : s.vm.findClass RJ1 = some m.cls := hown
  have hl : lv_has ls 4 [(0, .ref (g.2.2.2 8)), (1, .int (nI v)), (2, .int 0), (3, .int 9)] := hl
  refine lv_iload_n hx hb dJ1_indexOf_4cfef_0 rfl (lv_at hl 1 rfl) ?_
  refine k_ci (wr := []) hP hD hS hA [] [] rfl rfl (by decide) (by decide) (va_runS (As := [.int (nI v)]) (rest := []) ⟨hx, hb, hml, hown, hts⟩ (c_J1_canEncode l g v (by first | assumption | omega) s.heap.size) (va_cwS 1 hts gJ1_indexOf_4cfef_J1_canEncode_9a6ad rfl rfl rfl (by decide +kernel) ⟨Nat.le_of_ble_eq_true rfl, Nat.le_of_ble_eq_true rfl⟩) (k_preS hE hZ hP hD hS hA [] rfl (by decide)) rfl rfl hl.1 rfl (lv_room (Nat.le_of_ble_eq_true rfl)) dJ1_indexOf_4cfef_1 ⟨Nat.le_of_ble_eq_true rfl, Nat.le_of_ble_eq_true rfl⟩) (fun r_1 w1 H locs hw hP hD hS => ?_)
  obtain ⟨rfl, rfl⟩ := hw
  have hP : va_P g.1 vwCl [] H := hP
  have hD : va_D A [] := hD
  refine lv_if_ne (tgt := 9) hx hb dJ1_indexOf_4cfef_4 (by decide) (fun c4_3 => ?_) (fun c4_3 => ?_)
  · skip
    refine lv_iload_n hx hb dJ1_indexOf_4cfef_9 rfl (lv_at hl 2 rfl) ?_
    refine lv_iconst (v := 0) hx hb dJ1_indexOf_4cfef_10 (by decide) ?_
    refine va_mmax hx hb (by rw [hml]; exact hl.1.symm) hown (hts (.methodLink RJ1 92 Lib.Math.max.name) q_J1_indexOf_1_0) (hts (.static Lib.Math.max.name) q_J1_indexOf_1_1) (hts (.initialized "java/lang/Math") q_J1_indexOf_1_2) (hts (.code Lib.Math.max.name Lib.Math.max.code 2 (some .int)) q_J1_indexOf_1_3) (Nat.le_of_ble_eq_true rfl) (Nat.le_of_ble_eq_true rfl) (Nat.le_of_ble_eq_true rfl) (Nat.le_of_ble_eq_true rfl) dJ1_indexOf_4cfef_11 ?_
    refine lv_topi (fun x_4 ex_4 => ?_)
    obtain rfl : x_4 = 0 := by rw [ex_4]; decide
    refine lv_istore_n (lv' := [(2, .int 0), (0, .ref (g.2.2.2 8)), (1, .int (nI v)), (3, .int 9)]) hx hb dJ1_indexOf_4cfef_14 rfl hl (by decide) rfl (fun ls hl => ?_)
    refine lv_iload_n hx hb dJ1_indexOf_4cfef_15 rfl (lv_at hl 3 rfl) ?_
    refine lv_aload_n hx hb dJ1_indexOf_4cfef_16 rfl (lv_at hl 1 rfl) ?_
    refine va_tlen hx hb hZ.by1 hS (v := 9) (by decide) dJ1_indexOf_4cfef_17 ?_
    refine va_mmin hx hb (by rw [hml]; exact hl.1.symm) hown (hts (.methodLink RJ1 38 Lib.Math.min.name) q_J1_indexOf_1_4) (hts (.static Lib.Math.min.name) q_J1_indexOf_1_5) (hts (.initialized "java/lang/Math") q_J1_indexOf_1_2) (hts (.code Lib.Math.min.name Lib.Math.min.code 2 (some .int)) q_J1_indexOf_1_6) (Nat.le_of_ble_eq_true rfl) (Nat.le_of_ble_eq_true rfl) (Nat.le_of_ble_eq_true rfl) (Nat.le_of_ble_eq_true rfl) dJ1_indexOf_4cfef_18 ?_
    refine lv_topi (fun x_5 ex_5 => ?_)
    obtain rfl : x_5 = 9 := by rw [ex_5]; decide
    refine lv_istore_n (lv' := [(3, .int 9), (2, .int 0), (0, .ref (g.2.2.2 8)), (1, .int (nI v))]) hx hb dJ1_indexOf_4cfef_21 rfl hl (by decide) rfl (fun ls hl => ?_)
    refine lv_iload_n hx hb dJ1_indexOf_4cfef_22 rfl (lv_at hl 1 rfl) ?_
    refine lv_iload_n hx hb dJ1_indexOf_4cfef_23 rfl (lv_at hl 0 rfl) ?_
    refine lv_icmp_lt (tgt := 29) hx hb dJ1_indexOf_4cfef_24 (by decide) (fun c24_6 => ?_) (fun c24_6 => ?_)
    · skip
      refine lv_aload_n hx hb dJ1_indexOf_4cfef_29 rfl (lv_at hl 2 rfl) ?_
      refine lv_iload_n hx hb dJ1_indexOf_4cfef_30 rfl (lv_at hl 3 rfl) ?_
      refine lv_iload_n hx hb dJ1_indexOf_4cfef_31 rfl (lv_at hl 1 rfl) ?_
      refine lv_iload_n hx hb dJ1_indexOf_4cfef_32 rfl (lv_at hl 0 rfl) ?_
      refine k_ci (wr := []) hP hD hS hA [] [] rfl rfl (by decide) (by decide) (va_runS (As := [.ref (g.2.2.2 8), .int (nI v), .int 0, .int 9]) (rest := []) ⟨hx, hb, hml, hown, hts⟩ (c_J1_indexOfChar_1 l g v (by first | assumption | omega) H.size) (va_cwS 4 hts gJ1_indexOf_4cfef_J1_indexOfChar_4cfef rfl rfl rfl (by decide +kernel) ⟨Nat.le_of_ble_eq_true rfl, Nat.le_of_ble_eq_true rfl⟩) (k_preS hE hZ hP hD hS hA [] rfl (by decide)) rfl rfl hl.1 rfl (lv_room (Nat.le_of_ble_eq_true rfl)) dJ1_indexOf_4cfef_33 ⟨Nat.le_of_ble_eq_true rfl, Nat.le_of_ble_eq_true rfl⟩) (fun r_7 w1 H locs hw hP hD hS => ?_)
      obtain ⟨rfl, rfl⟩ := hw
      have hP : va_P g.1 vwCl [] H := hP
      have hD : va_D A [] := hD
      refine W.widen (k := 0) (n := 0) (Nat.le_of_ble_eq_true rfl) (Nat.le_of_ble_eq_true rfl) ?_
      exact k_ri hx hb hr hlocks hS hP hD ⟨rfl, rfl⟩ dJ1_indexOf_4cfef_36
    · exact absurd c24_6 (by decide)
  · exact absurd c4_3 (by decide)
def po_J0_indexOfI_1 (g : GG) (v : Nat) : Int32 → va_W → Prop := fun (r : Int32) w => w = [] ∧ (sby (nI v) = r)
theorem q_J0_indexOfI_1_0 : (Cond.fieldLink RJ0 9 "java/lang/String" "value" "[B") ∈ wsJ0_indexOf_7cf53 := by decide +kernel
set_option maxHeartbeats 1500000 in
set_option maxRecDepth 100000 in
theorem c_J0_indexOfI_1 (l : Launch) (g : GG) (v : Nat) (hv : v < 127) (sz : Nat) : MetI l yJ0_indexOf_7cf53 wsJ0_indexOf_7cf53 ({ frames := 2, cells := 0, slots := 0, locals := 48 }) g [.ref (g.2.2.2 6), .int (nI v), .int 0] [] sz (po_J0_indexOfI_1 g v) 0 0 := by
  refine k_of (l := l) (y := yJ0_indexOf_7cf53) (ws := wsJ0_indexOf_7cf53) (rm := { frames := 2, cells := 0, slots := 0, locals := 48 }) (mc := 0) (ms := 0) (av := [.ref (g.2.2.2 6), .int (nI v), .int 0]) (g := g) (wc := []) (Qc := fun A => va_Qi (po_J0_indexOfI_1 g v) (bk g A) A) (cc := cJ0_indexOf_7cf53) (maxL := 3) (ret := (some .int)) (by decide) rfl (Nat.le_of_ble_eq_true rfl) ?_ sz
  intro p e s m below meth c hx hb hr hts hown hlocks hnm hml A hA hE hZ hP hD hS ls hl
  have hown : s.vm.findClass RJ0 = some m.cls := hown
  have hl : lv_has ls 3 [(0, .ref (g.2.2.2 6)), (1, .int (nI v)), (2, .int 0)] := hl
  refine lv_aload_n hx hb dJ0_indexOf_7cf53_0 rfl (lv_at hl 0 rfl) ?_
  refine k_ci (wr := []) hP hD hS hA [] [] rfl rfl (by decide) (by decide) (va_runV (As := []) (rest := []) ⟨hx, hb, hml, hown, hts⟩ (c_J0_isLatin1_1 l g   s.heap.size) (cwV 0 hts gJ0_indexOf_7cf53_J0_isLatin1_aae02 rfl rfl rfl (by decide +kernel) ⟨Nat.le_of_ble_eq_true rfl, Nat.le_of_ble_eq_true rfl⟩) (k_preV hE hZ hP hD hS hA [] rfl (by decide) (hZ.rc1 hS)) rfl rfl hl.1 rfl (lv_room (Nat.le_of_ble_eq_true rfl)) dJ0_indexOf_7cf53_1 ⟨Nat.le_of_ble_eq_true rfl, Nat.le_of_ble_eq_true rfl⟩) (fun r_1 w1 H locs hw hP hD hS => ?_)
  obtain ⟨rfl, rfl⟩ := hw
  have hP : va_P g.1 vwCl [] H := hP
  have hD : va_D A [] := hD
  refine lv_if_eq (tgt := 23) hx hb dJ0_indexOf_7cf53_4 (by decide) (fun c4_3 => ?_) (fun c4_3 => ?_)
  · exact absurd c4_3 (by decide)
  · skip
    refine lv_aload_n hx hb dJ0_indexOf_7cf53_7 rfl (lv_at hl 0 rfl) ?_
    refine vk_getf (v := .ref (g.2.2.2 8)) hx hb hZ.va1 hS hown (hts (.fieldLink RJ0 9 "java/lang/String" "value" "[B") q_J0_indexOfI_1_0) (fun _ h9 => h9) dJ0_indexOf_7cf53_8 ?_
    refine lv_iload_n hx hb dJ0_indexOf_7cf53_11 rfl (lv_at hl 1 rfl) ?_
    refine lv_iload_n hx hb dJ0_indexOf_7cf53_12 rfl (lv_at hl 2 rfl) ?_
    refine lv_aload_n hx hb dJ0_indexOf_7cf53_13 rfl (lv_at hl 0 rfl) ?_
    refine k_ci (wr := []) hP hD hS hA [] [] rfl rfl (by decide) (by decide) (va_runV (As := []) (rest := [.int 0, .int (nI v), .ref (g.2.2.2 8)]) ⟨hx, hb, hml, hown, hts⟩ (c_J0_length_1 l g   H.size) (cwV 0 hts gJ0_indexOf_7cf53_J0_length_8abf5 rfl rfl rfl (by decide +kernel) ⟨Nat.le_of_ble_eq_true rfl, Nat.le_of_ble_eq_true rfl⟩) (k_preV hE hZ hP hD hS hA [] rfl (by decide) (hZ.rc1 hS)) rfl rfl hl.1 rfl (lv_room (Nat.le_of_ble_eq_true rfl)) dJ0_indexOf_7cf53_14 ⟨Nat.le_of_ble_eq_true rfl, Nat.le_of_ble_eq_true rfl⟩) (fun r_4 w1 H locs hw hP hD hS => ?_)
    obtain ⟨rfl, rfl⟩ := hw
    have hP : va_P g.1 vwCl [] H := hP
    have hD : va_D A [] := hD
    refine k_ci (wr := []) hP hD hS hA [] [] rfl rfl (by decide) (by decide) (va_runS (As := [.ref (g.2.2.2 8), .int (nI v), .int 0, .int 9]) (rest := []) ⟨hx, hb, hml, hown, hts⟩ (c_J1_indexOf_1 l g v (by first | assumption | omega) H.size) (va_cwS 4 hts gJ0_indexOf_7cf53_J1_indexOf_4cfef rfl rfl rfl (by decide +kernel) ⟨Nat.le_of_ble_eq_true rfl, Nat.le_of_ble_eq_true rfl⟩) (k_preS hE hZ hP hD hS hA [] rfl (by decide)) rfl rfl hl.1 rfl (lv_room (Nat.le_of_ble_eq_true rfl)) dJ0_indexOf_7cf53_17 ⟨Nat.le_of_ble_eq_true rfl, Nat.le_of_ble_eq_true rfl⟩) (fun r_6 w1 H locs hw hP hD hS => ?_)
    obtain ⟨rfl, rfl⟩ := hw
    have hP : va_P g.1 vwCl [] H := hP
    have hD : va_D A [] := hD
    refine lv_goto (tgt := 36) hx hb dJ0_indexOf_7cf53_20 (by decide) ?_
    refine W.widen (k := 0) (n := 0) (Nat.le_of_ble_eq_true rfl) (Nat.le_of_ble_eq_true rfl) ?_
    exact k_ri hx hb hr hlocks hS hP hD ⟨rfl, rfl⟩ dJ0_indexOf_7cf53_36
def po_J0_indexOf_1 (g : GG) (v : Nat) : Int32 → va_W → Prop := fun (r : Int32) w => w = [] ∧ (sby (nI v) = r)
set_option maxHeartbeats 1500000 in
set_option maxRecDepth 100000 in
theorem c_J0_indexOf_1 (l : Launch) (g : GG) (v : Nat) (hv : v < 127) (sz : Nat) : MetI l yJ0_indexOf_0f7a4 wsJ0_indexOf_0f7a4 ({ frames := 3, cells := 0, slots := 0, locals := 70 }) g [.ref (g.2.2.2 6), .int (nI v)] [] sz (po_J0_indexOf_1 g v) 0 0 := by
  refine k_of (l := l) (y := yJ0_indexOf_0f7a4) (ws := wsJ0_indexOf_0f7a4) (rm := { frames := 3, cells := 0, slots := 0, locals := 70 }) (mc := 0) (ms := 0) (av := [.ref (g.2.2.2 6), .int (nI v)]) (g := g) (wc := []) (Qc := fun A => va_Qi (po_J0_indexOf_1 g v) (bk g A) A) (cc := cJ0_indexOf_0f7a4) (maxL := 2) (ret := (some .int)) (by decide) rfl (Nat.le_of_ble_eq_true rfl) ?_ sz
  intro p e s m below meth c hx hb hr hts hown hlocks hnm hml A hA hE hZ hP hD hS ls hl
  have hown : s.vm.findClass RJ0 = some m.cls := hown
  have hl : lv_has ls 2 [(0, .ref (g.2.2.2 6)), (1, .int (nI v))] := hl
  refine lv_aload_n hx hb dJ0_indexOf_0f7a4_0 rfl (lv_at hl 0 rfl) ?_
  refine lv_iload_n hx hb dJ0_indexOf_0f7a4_1 rfl (lv_at hl 1 rfl) ?_
  refine lv_iconst (v := 0) hx hb dJ0_indexOf_0f7a4_2 (by decide) ?_
  refine k_ci (wr := []) hP hD hS hA [] [] rfl rfl (by decide) (by decide) (va_runV (As := [.int (nI v), .int 0]) (rest := []) ⟨hx, hb, hml, hown, hts⟩ (c_J0_indexOfI_1 l g v (by first | assumption | omega) s.heap.size) (cwV 2 hts gJ0_indexOf_0f7a4_J0_indexOf_7cf53 rfl rfl rfl (by decide +kernel) ⟨Nat.le_of_ble_eq_true rfl, Nat.le_of_ble_eq_true rfl⟩) (k_preV hE hZ hP hD hS hA [] rfl (by decide) (hZ.rc1 hS)) rfl rfl hl.1 rfl (lv_room (Nat.le_of_ble_eq_true rfl)) dJ0_indexOf_0f7a4_3 ⟨Nat.le_of_ble_eq_true rfl, Nat.le_of_ble_eq_true rfl⟩) (fun r_1 w1 H locs hw hP hD hS => ?_)
  obtain ⟨rfl, rfl⟩ := hw
  have hP : va_P g.1 vwCl [] H := hP
  have hD : va_D A [] := hD
  refine W.widen (k := 0) (n := 0) (Nat.le_of_ble_eq_true rfl) (Nat.le_of_ble_eq_true rfl) ?_
  exact k_ri hx hb hr hlocks hS hP hD ⟨rfl, rfl⟩ dJ0_indexOf_0f7a4_6
def po_X3_start_g (g : GG) (rd : Nat) (rt : Nat) (d1 : Nat) (d2 : Nat) (d3 : Nat) (du : Nat) (rs : Nat) (tu : Nat) (pl : Nat) (wl : Nat) (hw : Nat) (dz : Nat) (dt : Nat) (DK : Nat → Int32) (DL : Nat → Int32) (DV : Nat → Int32) : va_W → Prop := fun w => w = [(rd, .inr (3, [.ref rt, .int 1, .int (nI rs), .int (nI tu), .int (nI pl), .int (nI wl), .int 0])), (rt, .inr (5, [.int 0, .int 0, .ref d1, .ref d2, .ref d3])), (d1, ai g 6 DK), (d2, ai g 6 DL), (d3, ai g 96 DV)]
theorem q_X3_start_g_f3 : ∀ w ∈ u_ws RX3 TX3 7, w ∈ wsX3_start := by decide +kernel
theorem q_X3_start_g_1 : (Cond.fieldLink RX3 12 "SoundLaws$Reader" "draft" "LSoundLaws$Stock;") ∈ wsX3_start := by decide +kernel
theorem q_X3_start_g_f5 : ∀ w ∈ u_ws RX5 TX5 5, w ∈ wsX3_start := by decide +kernel
theorem q_X3_start_g_3 : (Cond.fieldLink RX3 18 "SoundLaws$Stock" "size" "I") ∈ wsX3_start := by decide +kernel
theorem q_X3_start_g_4 : (Cond.fieldLink RX3 22 "SoundLaws$Stock" "tongues" "I") ∈ wsX3_start := by decide +kernel
theorem q_X3_start_g_5 : (Cond.fieldLink RX3 25 "SoundLaws$Reader" "kindIsDue" "Z") ∈ wsX3_start := by decide +kernel
theorem q_X3_start_g_6 : (Cond.fieldLink RX3 29 "SoundLaws$Reader" "hasSilentWord" "Z") ∈ wsX3_start := by decide +kernel
set_option maxHeartbeats 1500000 in
set_option maxRecDepth 100000 in
theorem c_X3_start_g (l : Launch) (g : GG) (rd : Nat) (rt : Nat) (d1 : Nat) (d2 : Nat) (d3 : Nat) (du : Nat) (rs : Nat) (tu : Nat) (pl : Nat) (wl : Nat) (hw : Nat) (dz : Nat) (dt : Nat) (DK : Nat → Int32) (DL : Nat → Int32) (DV : Nat → Int32)  (sz : Nat) : MetV l yX3_start wsX3_start ({ frames := 0, cells := 0, slots := 0, locals := 0 }) g [.ref rd] [(rd, .inr (3, [.ref rt, .int (nI du), .int (nI rs), .int (nI tu), .int (nI pl), .int (nI wl), .int (nI hw)])), (rt, .inr (5, [.int (nI dz), .int (nI dt), .ref d1, .ref d2, .ref d3])), (d1, ai g 6 DK), (d2, ai g 6 DL), (d3, ai g 96 DV)] sz (po_X3_start_g g rd rt d1 d2 d3 du rs tu pl wl hw dz dt DK DL DV) 0 0 := by
  refine k_of (l := l) (y := yX3_start) (ws := wsX3_start) (rm := { frames := 0, cells := 0, slots := 0, locals := 0 }) (mc := 0) (ms := 0) (av := [.ref rd]) (g := g) (wc := [(rd, .inr (3, [.ref rt, .int (nI du), .int (nI rs), .int (nI tu), .int (nI pl), .int (nI wl), .int (nI hw)])), (rt, .inr (5, [.int (nI dz), .int (nI dt), .ref d1, .ref d2, .ref d3])), (d1, ai g 6 DK), (d2, ai g 6 DL), (d3, ai g 96 DV)]) (Qc := fun A => va_Qv (po_X3_start_g g rd rt d1 d2 d3 du rs tu pl wl hw dz dt DK DL DV) (bk g A) A) (cc := cX3_start) (maxL := 1) (ret := none) (by decide) rfl (Nat.le_of_ble_eq_true rfl) ?_ sz
  intro p e s m below meth c hx hb hr hts hown hlocks hnm hml A hA hE hZ hP hD hS ls hl
  have hown : s.vm.findClass RX3 = some m.cls := hown
  have hl : lv_has ls 1 [(0, .ref rd)] := hl
  refine lv_aload_n hx hb dX3_start_0 rfl (lv_at hl 0 rfl) ?_
  refine va_get (D := g.1) (ci := 3) (v := .ref rt) (C := RX3) (T := TX3) (N := 7) hx hb hts q_X3_start_g_f3 hown hE.1 hP 0 rfl rfl 0 (by decide) (hts (.fieldLink RX3 12 "SoundLaws$Reader" "draft" "LSoundLaws$Stock;") q_X3_start_g_1) (fun _ h9 => h9) rfl dX3_start_1 ?_
  refine lv_iconst (v := 0) hx hb dX3_start_4 (by decide) ?_
  refine va_put (D := g.1) (ci := 5) (v := .int 0) (ty := .int) (C := RX5) (T := TX5) (N := 5) hx hb hts q_X3_start_g_f5 tyX5 tyX5_ok nmX5 hown hE.1 hP hD hS 1 rfl rfl 0 (by decide) (hts (.fieldLink RX3 18 "SoundLaws$Stock" "size" "I") q_X3_start_g_3) (fun _ h9 => h9) rfl (by decide +kernel) rfl rfl (Nat.le_of_ble_eq_true rfl) dX3_start_5 (fun H locs hP hD hS => ?_)
  have hP : va_P g.1 vwCl [(rd, .inr (3, [.ref rt, .int (nI du), .int (nI rs), .int (nI tu), .int (nI pl), .int (nI wl), .int (nI hw)])), (rt, .inr (5, [.int 0, .int (nI dt), .ref d1, .ref d2, .ref d3])), (d1, ai g 6 DK), (d2, ai g 6 DL), (d3, ai g 96 DV)] H := hP
  have hD : va_D A [(rd, .inr (3, [.ref rt, .int (nI du), .int (nI rs), .int (nI tu), .int (nI pl), .int (nI wl), .int (nI hw)])), (rt, .inr (5, [.int 0, .int (nI dt), .ref d1, .ref d2, .ref d3])), (d1, ai g 6 DK), (d2, ai g 6 DL), (d3, ai g 96 DV)] := hD
  refine lv_aload_n hx hb dX3_start_8 rfl (lv_at hl 0 rfl) ?_
  refine va_get (D := g.1) (ci := 3) (v := .ref rt) (C := RX3) (T := TX3) (N := 7) hx hb hts q_X3_start_g_f3 hown hE.1 hP 0 rfl rfl 0 (by decide) (hts (.fieldLink RX3 12 "SoundLaws$Reader" "draft" "LSoundLaws$Stock;") q_X3_start_g_1) (fun _ h9 => h9) rfl dX3_start_9 ?_
  refine lv_iconst (v := 0) hx hb dX3_start_12 (by decide) ?_
  refine va_put (D := g.1) (ci := 5) (v := .int 0) (ty := .int) (C := RX5) (T := TX5) (N := 5) hx hb hts q_X3_start_g_f5 tyX5 tyX5_ok nmX5 hown hE.1 hP hD hS 1 rfl rfl 1 (by decide) (hts (.fieldLink RX3 22 "SoundLaws$Stock" "tongues" "I") q_X3_start_g_4) (fun _ h9 => h9) rfl (by decide +kernel) rfl rfl (Nat.le_of_ble_eq_true rfl) dX3_start_13 (fun H locs hP hD hS => ?_)
  have hP : va_P g.1 vwCl [(rd, .inr (3, [.ref rt, .int (nI du), .int (nI rs), .int (nI tu), .int (nI pl), .int (nI wl), .int (nI hw)])), (rt, .inr (5, [.int 0, .int 0, .ref d1, .ref d2, .ref d3])), (d1, ai g 6 DK), (d2, ai g 6 DL), (d3, ai g 96 DV)] H := hP
  have hD : va_D A [(rd, .inr (3, [.ref rt, .int (nI du), .int (nI rs), .int (nI tu), .int (nI pl), .int (nI wl), .int (nI hw)])), (rt, .inr (5, [.int 0, .int 0, .ref d1, .ref d2, .ref d3])), (d1, ai g 6 DK), (d2, ai g 6 DL), (d3, ai g 96 DV)] := hD
  refine lv_aload_n hx hb dX3_start_16 rfl (lv_at hl 0 rfl) ?_
  refine lv_iconst (v := 1) hx hb dX3_start_17 (by decide) ?_
  refine va_put (D := g.1) (ci := 3) (v := .int 1) (ty := .boolean) (C := RX3) (T := TX3) (N := 7) hx hb hts q_X3_start_g_f3 tyX3 tyX3_ok nmX3 hown hE.1 hP hD hS 0 rfl rfl 1 (by decide) (hts (.fieldLink RX3 25 "SoundLaws$Reader" "kindIsDue" "Z") q_X3_start_g_5) (fun _ h9 => h9) rfl (by decide +kernel) rfl rfl (Nat.le_of_ble_eq_true rfl) dX3_start_18 (fun H locs hP hD hS => ?_)
  have hP : va_P g.1 vwCl [(rd, .inr (3, [.ref rt, .int 1, .int (nI rs), .int (nI tu), .int (nI pl), .int (nI wl), .int (nI hw)])), (rt, .inr (5, [.int 0, .int 0, .ref d1, .ref d2, .ref d3])), (d1, ai g 6 DK), (d2, ai g 6 DL), (d3, ai g 96 DV)] H := hP
  have hD : va_D A [(rd, .inr (3, [.ref rt, .int 1, .int (nI rs), .int (nI tu), .int (nI pl), .int (nI wl), .int (nI hw)])), (rt, .inr (5, [.int 0, .int 0, .ref d1, .ref d2, .ref d3])), (d1, ai g 6 DK), (d2, ai g 6 DL), (d3, ai g 96 DV)] := hD
  refine lv_aload_n hx hb dX3_start_21 rfl (lv_at hl 0 rfl) ?_
  refine lv_iconst (v := 0) hx hb dX3_start_22 (by decide) ?_
  refine va_put (D := g.1) (ci := 3) (v := .int 0) (ty := .boolean) (C := RX3) (T := TX3) (N := 7) hx hb hts q_X3_start_g_f3 tyX3 tyX3_ok nmX3 hown hE.1 hP hD hS 0 rfl rfl 6 (by decide) (hts (.fieldLink RX3 29 "SoundLaws$Reader" "hasSilentWord" "Z") q_X3_start_g_6) (fun _ h9 => h9) rfl (by decide +kernel) rfl rfl (Nat.le_of_ble_eq_true rfl) dX3_start_23 (fun H locs hP hD hS => ?_)
  have hP : va_P g.1 vwCl [(rd, .inr (3, [.ref rt, .int 1, .int (nI rs), .int (nI tu), .int (nI pl), .int (nI wl), .int 0])), (rt, .inr (5, [.int 0, .int 0, .ref d1, .ref d2, .ref d3])), (d1, ai g 6 DK), (d2, ai g 6 DL), (d3, ai g 96 DV)] H := hP
  have hD : va_D A [(rd, .inr (3, [.ref rt, .int 1, .int (nI rs), .int (nI tu), .int (nI pl), .int (nI wl), .int 0])), (rt, .inr (5, [.int 0, .int 0, .ref d1, .ref d2, .ref d3])), (d1, ai g 6 DK), (d2, ai g 6 DL), (d3, ai g 96 DV)] := hD
  refine W.widen (k := 0) (n := 0) (Nat.le_of_ble_eq_true rfl) (Nat.le_of_ble_eq_true rfl) ?_
  exact k_rv hx hb hr hlocks hS hP hD rfl dX3_start_26
def po_X3_openWord_g (g : GG) (rd : Nat) (rt : Nat) (du : Nat) (rs : Nat) (tu : Nat) (pl : Nat) (wl : Nat) (hw : Nat) : va_W → Prop := fun w => w = [(rd, .inr (3, [.ref rt, .int (nI du), .int (nI rs), .int (nI tu), .int 0, .int 1, .int (nI hw)]))]
theorem q_X3_openWord_g_f3 : ∀ w ∈ u_ws RX3 TX3 7, w ∈ wsX3_openWord := by decide +kernel
theorem q_X3_openWord_g_1 : (Cond.fieldLink RX3 78 "SoundLaws$Reader" "place" "I") ∈ wsX3_openWord := by decide +kernel
theorem q_X3_openWord_g_2 : (Cond.fieldLink RX3 88 "SoundLaws$Reader" "wordIsSilent" "Z") ∈ wsX3_openWord := by decide +kernel
set_option maxHeartbeats 1500000 in
set_option maxRecDepth 100000 in
theorem c_X3_openWord_g (l : Launch) (g : GG) (rd : Nat) (rt : Nat) (du : Nat) (rs : Nat) (tu : Nat) (pl : Nat) (wl : Nat) (hw : Nat)  (sz : Nat) : MetV l yX3_openWord wsX3_openWord ({ frames := 0, cells := 0, slots := 0, locals := 0 }) g [.ref rd] [(rd, .inr (3, [.ref rt, .int (nI du), .int (nI rs), .int (nI tu), .int (nI pl), .int (nI wl), .int (nI hw)]))] sz (po_X3_openWord_g g rd rt du rs tu pl wl hw) 0 0 := by
  refine k_of (l := l) (y := yX3_openWord) (ws := wsX3_openWord) (rm := { frames := 0, cells := 0, slots := 0, locals := 0 }) (mc := 0) (ms := 0) (av := [.ref rd]) (g := g) (wc := [(rd, .inr (3, [.ref rt, .int (nI du), .int (nI rs), .int (nI tu), .int (nI pl), .int (nI wl), .int (nI hw)]))]) (Qc := fun A => va_Qv (po_X3_openWord_g g rd rt du rs tu pl wl hw) (bk g A) A) (cc := cX3_openWord) (maxL := 1) (ret := none) (by decide) rfl (Nat.le_of_ble_eq_true rfl) ?_ sz
  intro p e s m below meth c hx hb hr hts hown hlocks hnm hml A hA hE hZ hP hD hS ls hl
  have hown : s.vm.findClass RX3 = some m.cls := hown
  have hl : lv_has ls 1 [(0, .ref rd)] := hl
  refine lv_aload_n hx hb dX3_openWord_0 rfl (lv_at hl 0 rfl) ?_
  refine lv_iconst (v := 0) hx hb dX3_openWord_1 (by decide) ?_
  refine va_put (D := g.1) (ci := 3) (v := .int 0) (ty := .int) (C := RX3) (T := TX3) (N := 7) hx hb hts q_X3_openWord_g_f3 tyX3 tyX3_ok nmX3 hown hE.1 hP hD hS 0 rfl rfl 4 (by decide) (hts (.fieldLink RX3 78 "SoundLaws$Reader" "place" "I") q_X3_openWord_g_1) (fun _ h9 => h9) rfl (by decide +kernel) rfl rfl (Nat.le_of_ble_eq_true rfl) dX3_openWord_2 (fun H locs hP hD hS => ?_)
  have hP : va_P g.1 vwCl [(rd, .inr (3, [.ref rt, .int (nI du), .int (nI rs), .int (nI tu), .int 0, .int (nI wl), .int (nI hw)]))] H := hP
  have hD : va_D A [(rd, .inr (3, [.ref rt, .int (nI du), .int (nI rs), .int (nI tu), .int 0, .int (nI wl), .int (nI hw)]))] := hD
  refine lv_aload_n hx hb dX3_openWord_5 rfl (lv_at hl 0 rfl) ?_
  refine lv_iconst (v := 1) hx hb dX3_openWord_6 (by decide) ?_
  refine va_put (D := g.1) (ci := 3) (v := .int 1) (ty := .boolean) (C := RX3) (T := TX3) (N := 7) hx hb hts q_X3_openWord_g_f3 tyX3 tyX3_ok nmX3 hown hE.1 hP hD hS 0 rfl rfl 5 (by decide) (hts (.fieldLink RX3 88 "SoundLaws$Reader" "wordIsSilent" "Z") q_X3_openWord_g_2) (fun _ h9 => h9) rfl (by decide +kernel) rfl rfl (Nat.le_of_ble_eq_true rfl) dX3_openWord_7 (fun H locs hP hD hS => ?_)
  have hP : va_P g.1 vwCl [(rd, .inr (3, [.ref rt, .int (nI du), .int (nI rs), .int (nI tu), .int 0, .int 1, .int (nI hw)]))] H := hP
  have hD : va_D A [(rd, .inr (3, [.ref rt, .int (nI du), .int (nI rs), .int (nI tu), .int 0, .int 1, .int (nI hw)]))] := hD
  refine W.widen (k := 0) (n := 0) (Nat.le_of_ble_eq_true rfl) (Nat.le_of_ble_eq_true rfl) ?_
  exact k_rv hx hb hr hlocks hS hP hD rfl dX3_openWord_10
def po_X3_wordIsWhole_g (g : GG) (rd : Nat) (rt : Nat) (d1 : Nat) (d2 : Nat) (d3 : Nat) (du : Nat) (rs : Nat) (tu : Nat) (pl : Nat) (wl : Nat) (hw : Nat) (dz : Nat) (dt : Nat) (DL : Nat → Int32) : Int32 → va_W → Prop := fun (r : Int32) w => w = [(rd, .inr (3, [.ref rt, .int (nI du), .int (nI rs), .int (nI tu), .int (nI pl), .int (nI wl), .int (nI hw)])), (rt, .inr (5, [.int (nI dz), .int (nI dt), .ref d1, .ref d2, .ref d3])), (d2, ai g 6 DL)] ∧ (wdw tu pl (DL rs) = r)
theorem q_X3_wordIsWhole_g_f3 : ∀ w ∈ u_ws RX3 TX3 7, w ∈ wsX3_wordIsWhole := by decide +kernel
theorem q_X3_wordIsWhole_g_1 : (Cond.fieldLink RX3 62 "SoundLaws$Reader" "tongue" "I") ∈ wsX3_wordIsWhole := by decide +kernel
theorem q_X3_wordIsWhole_g_2 : (Cond.fieldLink RX3 78 "SoundLaws$Reader" "place" "I") ∈ wsX3_wordIsWhole := by decide +kernel
theorem q_X3_wordIsWhole_g_3 : (Cond.fieldLink RX3 12 "SoundLaws$Reader" "draft" "LSoundLaws$Stock;") ∈ wsX3_wordIsWhole := by decide +kernel
theorem q_X3_wordIsWhole_g_f5 : ∀ w ∈ u_ws RX5 TX5 5, w ∈ wsX3_wordIsWhole := by decide +kernel
theorem q_X3_wordIsWhole_g_5 : (Cond.fieldLink RX3 75 "SoundLaws$Stock" "lengths" "[I") ∈ wsX3_wordIsWhole := by decide +kernel
theorem q_X3_wordIsWhole_g_6 : (Cond.fieldLink RX3 65 "SoundLaws$Reader" "set" "I") ∈ wsX3_wordIsWhole := by decide +kernel
set_option maxHeartbeats 1500000 in
set_option maxRecDepth 100000 in
theorem c_X3_wordIsWhole_g (l : Launch) (g : GG) (rd : Nat) (rt : Nat) (d1 : Nat) (d2 : Nat) (d3 : Nat) (du : Nat) (rs : Nat) (tu : Nat) (pl : Nat) (wl : Nat) (hw : Nat) (dz : Nat) (dt : Nat) (DL : Nat → Int32) (hrs : rs < 5) (htu : tu < 4) (hpl : pl ≤ 4) (sz : Nat) : MetI l yX3_wordIsWhole wsX3_wordIsWhole ({ frames := 0, cells := 0, slots := 0, locals := 0 }) g [.ref rd] [(rd, .inr (3, [.ref rt, .int (nI du), .int (nI rs), .int (nI tu), .int (nI pl), .int (nI wl), .int (nI hw)])), (rt, .inr (5, [.int (nI dz), .int (nI dt), .ref d1, .ref d2, .ref d3])), (d2, ai g 6 DL)] sz (po_X3_wordIsWhole_g g rd rt d1 d2 d3 du rs tu pl wl hw dz dt DL) 0 0 := by
  refine k_of (l := l) (y := yX3_wordIsWhole) (ws := wsX3_wordIsWhole) (rm := { frames := 0, cells := 0, slots := 0, locals := 0 }) (mc := 0) (ms := 0) (av := [.ref rd]) (g := g) (wc := [(rd, .inr (3, [.ref rt, .int (nI du), .int (nI rs), .int (nI tu), .int (nI pl), .int (nI wl), .int (nI hw)])), (rt, .inr (5, [.int (nI dz), .int (nI dt), .ref d1, .ref d2, .ref d3])), (d2, ai g 6 DL)]) (Qc := fun A => va_Qi (po_X3_wordIsWhole_g g rd rt d1 d2 d3 du rs tu pl wl hw dz dt DL) (bk g A) A) (cc := cX3_wordIsWhole) (maxL := 1) (ret := (some .boolean)) (by decide) rfl (Nat.le_of_ble_eq_true rfl) ?_ sz
  intro p e s m below meth c hx hb hr hts hown hlocks hnm hml A hA hE hZ hP hD hS ls hl
  have hown : s.vm.findClass RX3 = some m.cls := hown
  have hl : lv_has ls 1 [(0, .ref rd)] := hl
  refine lv_aload_n hx hb dX3_wordIsWhole_0 rfl (lv_at hl 0 rfl) ?_
  refine va_get (D := g.1) (ci := 3) (v := .int (nI tu)) (C := RX3) (T := TX3) (N := 7) hx hb hts q_X3_wordIsWhole_g_f3 hown hE.1 hP 0 rfl rfl 3 (by decide) (hts (.fieldLink RX3 62 "SoundLaws$Reader" "tongue" "I") q_X3_wordIsWhole_g_1) (fun _ h9 => h9) rfl dX3_wordIsWhole_1 ?_
  refine lv_if_ne (tgt := 22) hx hb dX3_wordIsWhole_4 (by decide) (fun c4_1 => ?_) (fun c4_1 => ?_)
  · skip
    refine lv_aload_n hx hb dX3_wordIsWhole_22 rfl (lv_at hl 0 rfl) ?_
    refine va_get (D := g.1) (ci := 3) (v := .int (nI pl)) (C := RX3) (T := TX3) (N := 7) hx hb hts q_X3_wordIsWhole_g_f3 hown hE.1 hP 0 rfl rfl 4 (by decide) (hts (.fieldLink RX3 78 "SoundLaws$Reader" "place" "I") q_X3_wordIsWhole_g_2) (fun _ h9 => h9) rfl dX3_wordIsWhole_23 ?_
    refine lv_aload_n hx hb dX3_wordIsWhole_26 rfl (lv_at hl 0 rfl) ?_
    refine va_get (D := g.1) (ci := 3) (v := .ref rt) (C := RX3) (T := TX3) (N := 7) hx hb hts q_X3_wordIsWhole_g_f3 hown hE.1 hP 0 rfl rfl 0 (by decide) (hts (.fieldLink RX3 12 "SoundLaws$Reader" "draft" "LSoundLaws$Stock;") q_X3_wordIsWhole_g_3) (fun _ h9 => h9) rfl dX3_wordIsWhole_27 ?_
    refine va_get (D := g.1) (ci := 5) (v := .ref d2) (C := RX5) (T := TX5) (N := 5) hx hb hts q_X3_wordIsWhole_g_f5 hown hE.1 hP 1 rfl rfl 3 (by decide) (hts (.fieldLink RX3 75 "SoundLaws$Stock" "lengths" "[I") q_X3_wordIsWhole_g_5) (fun _ h9 => h9) rfl dX3_wordIsWhole_30 ?_
    refine lv_aload_n hx hb dX3_wordIsWhole_33 rfl (lv_at hl 0 rfl) ?_
    refine va_get (D := g.1) (ci := 3) (v := .int (nI rs)) (C := RX3) (T := TX3) (N := 7) hx hb hts q_X3_wordIsWhole_g_f3 hown hE.1 hP 0 rfl rfl 2 (by decide) (hts (.fieldLink RX3 65 "SoundLaws$Reader" "set" "I") q_X3_wordIsWhole_g_6) (fun _ h9 => h9) rfl dX3_wordIsWhole_34 ?_
    refine k_ald rs rfl (by omega) hx hb hE hP 2 rfl (by decide) dX3_wordIsWhole_37 ?_
    refine lv_icmp_ne (tgt := 45) hx hb dX3_wordIsWhole_38 (by decide) (fun c38_2 => ?_) (fun c38_2 => ?_)
    · skip
      refine lv_iconst (v := 0) hx hb dX3_wordIsWhole_45 (by decide) ?_
      refine W.widen (k := 0) (n := 0) (Nat.le_of_ble_eq_true rfl) (Nat.le_of_ble_eq_true rfl) ?_
      exact k_rz hx hb hr hlocks hS hP hD rfl ⟨rfl, (by unfold wdw; rw [if_neg (show ¬ tu = 0 from fun q => c4_1 (by rw [q]; rfl)), if_neg c38_2])⟩ dX3_wordIsWhole_46
    · skip
      refine lv_iconst (v := 1) hx hb dX3_wordIsWhole_41 (by decide) ?_
      refine lv_goto (tgt := 46) hx hb dX3_wordIsWhole_42 (by decide) ?_
      refine W.widen (k := 0) (n := 0) (Nat.le_of_ble_eq_true rfl) (Nat.le_of_ble_eq_true rfl) ?_
      exact k_rz hx hb hr hlocks hS hP hD rfl ⟨rfl, (by unfold wdw; rw [if_neg (show ¬ tu = 0 from fun q => c4_1 (by rw [q]; rfl)), if_pos c38_2])⟩ dX3_wordIsWhole_46
  · skip
    refine lv_aload_n hx hb dX3_wordIsWhole_7 rfl (lv_at hl 0 rfl) ?_
    refine va_get (D := g.1) (ci := 3) (v := .int (nI pl)) (C := RX3) (T := TX3) (N := 7) hx hb hts q_X3_wordIsWhole_g_f3 hown hE.1 hP 0 rfl rfl 4 (by decide) (hts (.fieldLink RX3 78 "SoundLaws$Reader" "place" "I") q_X3_wordIsWhole_g_2) (fun _ h9 => h9) rfl dX3_wordIsWhole_8 ?_
    refine lv_if_le (tgt := 18) hx hb dX3_wordIsWhole_11 (by decide) (fun c11_3 => ?_) (fun c11_3 => ?_)
    · skip
      refine lv_iconst (v := 0) hx hb dX3_wordIsWhole_18 (by decide) ?_
      refine lv_goto (tgt := 46) hx hb dX3_wordIsWhole_19 (by decide) ?_
      refine W.widen (k := 0) (n := 0) (Nat.le_of_ble_eq_true rfl) (Nat.le_of_ble_eq_true rfl) ?_
      exact k_rz hx hb hr hlocks hS hP hD rfl ⟨rfl, (by unfold wdw; rw [if_pos ((nI_eq (b := 0) (by omega) (by decide)).mp c4_1), if_pos (le0_of (by omega) c11_3)])⟩ dX3_wordIsWhole_46
    · skip
      refine lv_iconst (v := 1) hx hb dX3_wordIsWhole_14 (by decide) ?_
      refine lv_goto (tgt := 46) hx hb dX3_wordIsWhole_15 (by decide) ?_
      refine W.widen (k := 0) (n := 0) (Nat.le_of_ble_eq_true rfl) (Nat.le_of_ble_eq_true rfl) ?_
      exact k_rz hx hb hr hlocks hS hP hD rfl ⟨rfl, (by unfold wdw; rw [if_pos ((nI_eq (b := 0) (by omega) (by decide)).mp c4_1), if_neg (show ¬ pl = 0 from fun q => c11_3 (by rw [q]; decide))])⟩ dX3_wordIsWhole_46
def po_X3_setIsWhole_g (g : GG) (rd : Nat) (rt : Nat) (d1 : Nat) (d2 : Nat) (d3 : Nat) (du : Nat) (rs : Nat) (tu : Nat) (pl : Nat) (wl : Nat) (hw : Nat) (dz : Nat) (dt : Nat) (DL : Nat → Int32) : Int32 → va_W → Prop := fun (r : Int32) w => w = [(rd, .inr (3, [.ref rt, .int (nI du), .int (nI rs), .int (nI tu), .int (nI pl), .int (nI wl), .int (nI hw)])), (rt, .inr (5, [.int (nI dz), .int (nI dt), .ref d1, .ref d2, .ref d3])), (d2, ai g 6 DL)] ∧ (stw tu pl dt (DL rs) = r)
theorem q_X3_setIsWhole_g_f3 : ∀ w ∈ u_ws RX3 TX3 7, w ∈ wsX3_setIsWhole := by decide +kernel
theorem q_X3_setIsWhole_g_1 : (Cond.fieldLink RX3 62 "SoundLaws$Reader" "tongue" "I") ∈ wsX3_setIsWhole := by decide +kernel
theorem q_X3_setIsWhole_g_2 : (Cond.fieldLink RX3 12 "SoundLaws$Reader" "draft" "LSoundLaws$Stock;") ∈ wsX3_setIsWhole := by decide +kernel
theorem q_X3_setIsWhole_g_f5 : ∀ w ∈ u_ws RX5 TX5 5, w ∈ wsX3_setIsWhole := by decide +kernel
theorem q_X3_setIsWhole_g_4 : (Cond.fieldLink RX3 22 "SoundLaws$Stock" "tongues" "I") ∈ wsX3_setIsWhole := by decide +kernel
set_option maxHeartbeats 1500000 in
set_option maxRecDepth 100000 in
theorem c_X3_setIsWhole_g (l : Launch) (g : GG) (rd : Nat) (rt : Nat) (d1 : Nat) (d2 : Nat) (d3 : Nat) (du : Nat) (rs : Nat) (tu : Nat) (pl : Nat) (wl : Nat) (hw : Nat) (dz : Nat) (dt : Nat) (DL : Nat → Int32) (hrs : rs < 5) (htu : tu < 4) (hpl : pl ≤ 4) (hdt : dt ≤ 4) (sz : Nat) : MetI l yX3_setIsWhole wsX3_setIsWhole ({ frames := 1, cells := 0, slots := 0, locals := 20 }) g [.ref rd] [(rd, .inr (3, [.ref rt, .int (nI du), .int (nI rs), .int (nI tu), .int (nI pl), .int (nI wl), .int (nI hw)])), (rt, .inr (5, [.int (nI dz), .int (nI dt), .ref d1, .ref d2, .ref d3])), (d2, ai g 6 DL)] sz (po_X3_setIsWhole_g g rd rt d1 d2 d3 du rs tu pl wl hw dz dt DL) 0 0 := by
  refine k_of (l := l) (y := yX3_setIsWhole) (ws := wsX3_setIsWhole) (rm := { frames := 1, cells := 0, slots := 0, locals := 20 }) (mc := 0) (ms := 0) (av := [.ref rd]) (g := g) (wc := [(rd, .inr (3, [.ref rt, .int (nI du), .int (nI rs), .int (nI tu), .int (nI pl), .int (nI wl), .int (nI hw)])), (rt, .inr (5, [.int (nI dz), .int (nI dt), .ref d1, .ref d2, .ref d3])), (d2, ai g 6 DL)]) (Qc := fun A => va_Qi (po_X3_setIsWhole_g g rd rt d1 d2 d3 du rs tu pl wl hw dz dt DL) (bk g A) A) (cc := cX3_setIsWhole) (maxL := 2) (ret := (some .boolean)) (by decide) rfl (Nat.le_of_ble_eq_true rfl) ?_ sz
  intro p e s m below meth c hx hb hr hts hown hlocks hnm hml A hA hE hZ hP hD hS ls hl
  have hown : s.vm.findClass RX3 = some m.cls := hown
  have hl : lv_has ls 2 [(0, .ref rd)] := hl
  refine lv_aload_n hx hb dX3_setIsWhole_0 rfl (lv_at hl 0 rfl) ?_
  refine va_get (D := g.1) (ci := 3) (v := .int (nI tu)) (C := RX3) (T := TX3) (N := 7) hx hb hts q_X3_setIsWhole_g_f3 hown hE.1 hP 0 rfl rfl 3 (by decide) (hts (.fieldLink RX3 62 "SoundLaws$Reader" "tongue" "I") q_X3_setIsWhole_g_1) (fun _ h9 => h9) rfl dX3_setIsWhole_1 ?_
  refine lv_iconst (v := 1) hx hb dX3_setIsWhole_4 (by decide) ?_
  refine lv_iadd hx hb dX3_setIsWhole_5 ?_
  refine lv_topi (fun x_1 ex_1 => ?_)
  obtain rfl : x_1 = nI (tu + 1) := by rw [ex_1]; exact nI_1 tu
  refine lv_istore_n (lv' := [(1, .int (nI (tu + 1))), (0, .ref rd)]) hx hb dX3_setIsWhole_6 rfl hl (by decide) rfl (fun ls hl => ?_)
  refine lv_aload_n hx hb dX3_setIsWhole_7 rfl (lv_at hl 1 rfl) ?_
  refine k_ci (wr := []) hP hD hS hA [0, 1, 2] [] rfl rfl (by decide) (by decide) (va_runV (As := []) (rest := []) ⟨hx, hb, hml, hown, hts⟩ (c_X3_wordIsWhole_g l g rd rt d1 d2 d3 du rs tu pl wl hw dz dt DL (by first | assumption | omega) (by first | assumption | omega) (by first | assumption | omega) s.heap.size) (cwV 0 hts gX3_setIsWhole_X3_wordIsWhole rfl rfl rfl (by decide +kernel) ⟨Nat.le_of_ble_eq_true rfl, Nat.le_of_ble_eq_true rfl⟩) (k_preV hE hZ hP hD hS hA [0, 1, 2] rfl (by decide) (va_recv hE.1 hP (ci := 3) (q0 := 0) rfl rfl)) rfl rfl hl.1 rfl (lv_room (Nat.le_of_ble_eq_true rfl)) dX3_setIsWhole_8 ⟨Nat.le_of_ble_eq_true rfl, Nat.le_of_ble_eq_true rfl⟩) (fun r_2 w1 H locs hw hP hD hS => ?_)
  obtain ⟨rfl, rfl⟩ := hw
  have hP : va_P g.1 vwCl [(rd, .inr (3, [.ref rt, .int (nI du), .int (nI rs), .int (nI tu), .int (nI pl), .int (nI wl), .int (nI hw)])), (rt, .inr (5, [.int (nI dz), .int (nI dt), .ref d1, .ref d2, .ref d3])), (d2, ai g 6 DL)] H := hP
  have hD : va_D A [(rd, .inr (3, [.ref rt, .int (nI du), .int (nI rs), .int (nI tu), .int (nI pl), .int (nI wl), .int (nI hw)])), (rt, .inr (5, [.int (nI dz), .int (nI dt), .ref d1, .ref d2, .ref d3])), (d2, ai g 6 DL)] := hD
  refine lv_if_eq (tgt := 19) hx hb dX3_setIsWhole_11 (by decide) (fun c11_4 => ?_) (fun c11_4 => ?_)
  · skip
    refine lv_iconst (v := 0) hx hb dX3_setIsWhole_19 (by decide) ?_
    refine W.widen (k := 0) (n := 0) (Nat.le_of_ble_eq_true rfl) (Nat.le_of_ble_eq_true rfl) ?_
    exact k_rz hx hb hr hlocks hS hP hD rfl ⟨rfl, (by unfold stw; rw [if_pos c11_4])⟩ dX3_setIsWhole_20
  · skip
    refine lv_iload_n hx hb dX3_setIsWhole_14 rfl (lv_at hl 0 rfl) ?_
    refine lv_iconst (v := 2) hx hb dX3_setIsWhole_15 (by decide) ?_
    refine lv_icmp_ge (tgt := 21) hx hb dX3_setIsWhole_16 (by decide) (fun c16_5 => ?_) (fun c16_5 => ?_)
    · skip
      refine lv_aload_n hx hb dX3_setIsWhole_21 rfl (lv_at hl 1 rfl) ?_
      refine va_get (D := g.1) (ci := 3) (v := .ref rt) (C := RX3) (T := TX3) (N := 7) hx hb hts q_X3_setIsWhole_g_f3 hown hE.1 hP 0 rfl rfl 0 (by decide) (hts (.fieldLink RX3 12 "SoundLaws$Reader" "draft" "LSoundLaws$Stock;") q_X3_setIsWhole_g_2) (fun _ h9 => h9) rfl dX3_setIsWhole_22 ?_
      refine va_get (D := g.1) (ci := 5) (v := .int (nI dt)) (C := RX5) (T := TX5) (N := 5) hx hb hts q_X3_setIsWhole_g_f5 hown hE.1 hP 1 rfl rfl 1 (by decide) (hts (.fieldLink RX3 22 "SoundLaws$Stock" "tongues" "I") q_X3_setIsWhole_g_4) (fun _ h9 => h9) rfl dX3_setIsWhole_25 ?_
      refine lv_if_eq (tgt := 42) hx hb dX3_setIsWhole_28 (by decide) (fun c28_6 => ?_) (fun c28_6 => ?_)
      · skip
        refine lv_iconst (v := 1) hx hb dX3_setIsWhole_42 (by decide) ?_
        refine lv_goto (tgt := 47) hx hb dX3_setIsWhole_43 (by decide) ?_
        refine W.widen (k := 0) (n := 0) (Nat.le_of_ble_eq_true rfl) (Nat.le_of_ble_eq_true rfl) ?_
        exact k_rz hx hb hr hlocks hS hP hD rfl ⟨rfl, (by unfold stw; rw [if_neg c11_4, if_neg (show ¬ tu + 1 < 2 from fun q => nI_ge (a := tu + 1) (b := 2) q (by decide) c16_5), if_pos ((nI_eq (b := 0) (by omega) (by decide)).mp c28_6)])⟩ dX3_setIsWhole_47
      · skip
        refine lv_iload_n hx hb dX3_setIsWhole_31 rfl (lv_at hl 0 rfl) ?_
        refine lv_aload_n hx hb dX3_setIsWhole_32 rfl (lv_at hl 1 rfl) ?_
        refine va_get (D := g.1) (ci := 3) (v := .ref rt) (C := RX3) (T := TX3) (N := 7) hx hb hts q_X3_setIsWhole_g_f3 hown hE.1 hP 0 rfl rfl 0 (by decide) (hts (.fieldLink RX3 12 "SoundLaws$Reader" "draft" "LSoundLaws$Stock;") q_X3_setIsWhole_g_2) (fun _ h9 => h9) rfl dX3_setIsWhole_33 ?_
        refine va_get (D := g.1) (ci := 5) (v := .int (nI dt)) (C := RX5) (T := TX5) (N := 5) hx hb hts q_X3_setIsWhole_g_f5 hown hE.1 hP 1 rfl rfl 1 (by decide) (hts (.fieldLink RX3 22 "SoundLaws$Stock" "tongues" "I") q_X3_setIsWhole_g_4) (fun _ h9 => h9) rfl dX3_setIsWhole_36 ?_
        refine lv_icmp_ne (tgt := 46) hx hb dX3_setIsWhole_39 (by decide) (fun c39_7 => ?_) (fun c39_7 => ?_)
        · skip
          refine lv_iconst (v := 0) hx hb dX3_setIsWhole_46 (by decide) ?_
          refine W.widen (k := 0) (n := 0) (Nat.le_of_ble_eq_true rfl) (Nat.le_of_ble_eq_true rfl) ?_
          exact k_rz hx hb hr hlocks hS hP hD rfl ⟨rfl, (by unfold stw; rw [if_neg c11_4, if_neg (show ¬ tu + 1 < 2 from fun q => nI_ge (a := tu + 1) (b := 2) q (by decide) c16_5), if_neg (show ¬ dt = 0 from fun q => c28_6 (by rw [q]; rfl)), if_neg (show ¬ tu + 1 = dt from fun q => c39_7 (by rw [q]))])⟩ dX3_setIsWhole_47
        · skip
          refine lv_iconst (v := 1) hx hb dX3_setIsWhole_42 (by decide) ?_
          refine lv_goto (tgt := 47) hx hb dX3_setIsWhole_43 (by decide) ?_
          refine W.widen (k := 0) (n := 0) (Nat.le_of_ble_eq_true rfl) (Nat.le_of_ble_eq_true rfl) ?_
          exact k_rz hx hb hr hlocks hS hP hD rfl ⟨rfl, (by unfold stw; rw [if_neg c11_4, if_neg (show ¬ tu + 1 < 2 from fun q => nI_ge (a := tu + 1) (b := 2) q (by decide) c16_5), if_neg (show ¬ dt = 0 from fun q => c28_6 (by rw [q]; rfl)), if_pos ((nI_eq (by omega) (by omega)).mp c39_7)])⟩ dX3_setIsWhole_47
    · skip
      refine lv_iconst (v := 0) hx hb dX3_setIsWhole_19 (by decide) ?_
      refine W.widen (k := 0) (n := 0) (Nat.le_of_ble_eq_true rfl) (Nat.le_of_ble_eq_true rfl) ?_
      exact k_rz hx hb hr hlocks hS hP hD rfl ⟨rfl, (by unfold stw; rw [if_neg c11_4, if_pos (Nat.not_le.mp (fun q => c16_5 (nI_le (a := 2) q (by omega))))])⟩ dX3_setIsWhole_20
def po_X3_closeWord_g (g : GG) (rd : Nat) (rt : Nat) (d1 : Nat) (d2 : Nat) (d3 : Nat) (du : Nat) (rs : Nat) (tu : Nat) (pl : Nat) (wl : Nat) (hw : Nat) (dz : Nat) (dt : Nat) (DL : Nat → Int32) : va_W → Prop := fun w => ∃ (hw2 : Nat), w = [(rd, .inr (3, [.ref rt, .int (nI du), .int (nI rs), .int (nI tu), .int (nI pl), .int (nI wl), .int (nI hw2)])), (rt, .inr (5, [.int (nI dz), .int (nI dt), .ref d1, .ref d2, .ref d3])), (d2, ai g 6 (upd DL rs (nI pl)))] ∧ (hsn wl hw = hw2)
theorem q_X3_closeWord_g_f3 : ∀ w ∈ u_ws RX3 TX3 7, w ∈ wsX3_closeWord := by decide +kernel
theorem q_X3_closeWord_g_1 : (Cond.fieldLink RX3 12 "SoundLaws$Reader" "draft" "LSoundLaws$Stock;") ∈ wsX3_closeWord := by decide +kernel
theorem q_X3_closeWord_g_f5 : ∀ w ∈ u_ws RX5 TX5 5, w ∈ wsX3_closeWord := by decide +kernel
theorem q_X3_closeWord_g_3 : (Cond.fieldLink RX3 75 "SoundLaws$Stock" "lengths" "[I") ∈ wsX3_closeWord := by decide +kernel
theorem q_X3_closeWord_g_4 : (Cond.fieldLink RX3 65 "SoundLaws$Reader" "set" "I") ∈ wsX3_closeWord := by decide +kernel
theorem q_X3_closeWord_g_5 : (Cond.fieldLink RX3 78 "SoundLaws$Reader" "place" "I") ∈ wsX3_closeWord := by decide +kernel
theorem q_X3_closeWord_g_6 : (Cond.fieldLink RX3 88 "SoundLaws$Reader" "wordIsSilent" "Z") ∈ wsX3_closeWord := by decide +kernel
theorem q_X3_closeWord_g_7 : (Cond.fieldLink RX3 29 "SoundLaws$Reader" "hasSilentWord" "Z") ∈ wsX3_closeWord := by decide +kernel
set_option maxHeartbeats 1500000 in
set_option maxRecDepth 100000 in
theorem c_X3_closeWord_g (l : Launch) (g : GG) (rd : Nat) (rt : Nat) (d1 : Nat) (d2 : Nat) (d3 : Nat) (du : Nat) (rs : Nat) (tu : Nat) (pl : Nat) (wl : Nat) (hw : Nat) (dz : Nat) (dt : Nat) (DL : Nat → Int32) (hrs : rs < 5) (hwl : wl < 2) (sz : Nat) : MetV l yX3_closeWord wsX3_closeWord ({ frames := 0, cells := 0, slots := 0, locals := 0 }) g [.ref rd] [(rd, .inr (3, [.ref rt, .int (nI du), .int (nI rs), .int (nI tu), .int (nI pl), .int (nI wl), .int (nI hw)])), (rt, .inr (5, [.int (nI dz), .int (nI dt), .ref d1, .ref d2, .ref d3])), (d2, ai g 6 DL)] sz (po_X3_closeWord_g g rd rt d1 d2 d3 du rs tu pl wl hw dz dt DL) 0 0 := by
  refine k_of (l := l) (y := yX3_closeWord) (ws := wsX3_closeWord) (rm := { frames := 0, cells := 0, slots := 0, locals := 0 }) (mc := 0) (ms := 0) (av := [.ref rd]) (g := g) (wc := [(rd, .inr (3, [.ref rt, .int (nI du), .int (nI rs), .int (nI tu), .int (nI pl), .int (nI wl), .int (nI hw)])), (rt, .inr (5, [.int (nI dz), .int (nI dt), .ref d1, .ref d2, .ref d3])), (d2, ai g 6 DL)]) (Qc := fun A => va_Qv (po_X3_closeWord_g g rd rt d1 d2 d3 du rs tu pl wl hw dz dt DL) (bk g A) A) (cc := cX3_closeWord) (maxL := 1) (ret := none) (by decide) rfl (Nat.le_of_ble_eq_true rfl) ?_ sz
  intro p e s m below meth c hx hb hr hts hown hlocks hnm hml A hA hE hZ hP hD hS ls hl
  have hown : s.vm.findClass RX3 = some m.cls := hown
  have hl : lv_has ls 1 [(0, .ref rd)] := hl
  refine lv_aload_n hx hb dX3_closeWord_0 rfl (lv_at hl 0 rfl) ?_
  refine va_get (D := g.1) (ci := 3) (v := .ref rt) (C := RX3) (T := TX3) (N := 7) hx hb hts q_X3_closeWord_g_f3 hown hE.1 hP 0 rfl rfl 0 (by decide) (hts (.fieldLink RX3 12 "SoundLaws$Reader" "draft" "LSoundLaws$Stock;") q_X3_closeWord_g_1) (fun _ h9 => h9) rfl dX3_closeWord_1 ?_
  refine va_get (D := g.1) (ci := 5) (v := .ref d2) (C := RX5) (T := TX5) (N := 5) hx hb hts q_X3_closeWord_g_f5 hown hE.1 hP 1 rfl rfl 3 (by decide) (hts (.fieldLink RX3 75 "SoundLaws$Stock" "lengths" "[I") q_X3_closeWord_g_3) (fun _ h9 => h9) rfl dX3_closeWord_4 ?_
  refine lv_aload_n hx hb dX3_closeWord_7 rfl (lv_at hl 0 rfl) ?_
  refine va_get (D := g.1) (ci := 3) (v := .int (nI rs)) (C := RX3) (T := TX3) (N := 7) hx hb hts q_X3_closeWord_g_f3 hown hE.1 hP 0 rfl rfl 2 (by decide) (hts (.fieldLink RX3 65 "SoundLaws$Reader" "set" "I") q_X3_closeWord_g_4) (fun _ h9 => h9) rfl dX3_closeWord_8 ?_
  refine lv_aload_n hx hb dX3_closeWord_11 rfl (lv_at hl 0 rfl) ?_
  refine va_get (D := g.1) (ci := 3) (v := .int (nI pl)) (C := RX3) (T := TX3) (N := 7) hx hb hts q_X3_closeWord_g_f3 hown hE.1 hP 0 rfl rfl 4 (by decide) (hts (.fieldLink RX3 78 "SoundLaws$Reader" "place" "I") q_X3_closeWord_g_5) (fun _ h9 => h9) rfl dX3_closeWord_12 ?_
  refine k_ast (x := (nI pl)) rs rfl (by omega) hx hb hE hP hD hS 2 rfl (by decide) dX3_closeWord_15 (fun H locs hP hD hS => ?_)
  have hP : va_P g.1 vwCl [(rd, .inr (3, [.ref rt, .int (nI du), .int (nI rs), .int (nI tu), .int (nI pl), .int (nI wl), .int (nI hw)])), (rt, .inr (5, [.int (nI dz), .int (nI dt), .ref d1, .ref d2, .ref d3])), (d2, ai g 6 (upd DL rs (nI pl)))] H := hP
  have hD : va_D A [(rd, .inr (3, [.ref rt, .int (nI du), .int (nI rs), .int (nI tu), .int (nI pl), .int (nI wl), .int (nI hw)])), (rt, .inr (5, [.int (nI dz), .int (nI dt), .ref d1, .ref d2, .ref d3])), (d2, ai g 6 (upd DL rs (nI pl)))] := hD
  refine lv_aload_n hx hb dX3_closeWord_16 rfl (lv_at hl 0 rfl) ?_
  refine va_get (D := g.1) (ci := 3) (v := .int (nI wl)) (C := RX3) (T := TX3) (N := 7) hx hb hts q_X3_closeWord_g_f3 hown hE.1 hP 0 rfl rfl 5 (by decide) (hts (.fieldLink RX3 88 "SoundLaws$Reader" "wordIsSilent" "Z") q_X3_closeWord_g_6) (fun _ h9 => h9) rfl dX3_closeWord_17 ?_
  refine lv_if_eq (tgt := 28) hx hb dX3_closeWord_20 (by decide) (fun c20_1 => ?_) (fun c20_1 => ?_)
  · skip
    refine W.widen (k := 0) (n := 0) (Nat.le_of_ble_eq_true rfl) (Nat.le_of_ble_eq_true rfl) ?_
    exact k_rv hx hb hr hlocks hS hP hD ⟨hw, rfl, (by unfold hsn; rw [if_pos ((nI_eq (b := 0) (by omega) (by decide)).mp c20_1)])⟩ dX3_closeWord_28
  · skip
    refine lv_aload_n hx hb dX3_closeWord_23 rfl (lv_at hl 0 rfl) ?_
    refine lv_iconst (v := 1) hx hb dX3_closeWord_24 (by decide) ?_
    refine va_put (D := g.1) (ci := 3) (v := .int 1) (ty := .boolean) (C := RX3) (T := TX3) (N := 7) hx hb hts q_X3_closeWord_g_f3 tyX3 tyX3_ok nmX3 hown hE.1 hP hD hS 0 rfl rfl 6 (by decide) (hts (.fieldLink RX3 29 "SoundLaws$Reader" "hasSilentWord" "Z") q_X3_closeWord_g_7) (fun _ h9 => h9) rfl (by decide +kernel) rfl rfl (Nat.le_of_ble_eq_true rfl) dX3_closeWord_25 (fun H locs hP hD hS => ?_)
    have hP : va_P g.1 vwCl [(rd, .inr (3, [.ref rt, .int (nI du), .int (nI rs), .int (nI tu), .int (nI pl), .int (nI wl), .int 1])), (rt, .inr (5, [.int (nI dz), .int (nI dt), .ref d1, .ref d2, .ref d3])), (d2, ai g 6 (upd DL rs (nI pl)))] H := hP
    have hD : va_D A [(rd, .inr (3, [.ref rt, .int (nI du), .int (nI rs), .int (nI tu), .int (nI pl), .int (nI wl), .int 1])), (rt, .inr (5, [.int (nI dz), .int (nI dt), .ref d1, .ref d2, .ref d3])), (d2, ai g 6 (upd DL rs (nI pl)))] := hD
    refine W.widen (k := 0) (n := 0) (Nat.le_of_ble_eq_true rfl) (Nat.le_of_ble_eq_true rfl) ?_
    exact k_rv hx hb hr hlocks hS hP hD ⟨1, rfl, (by unfold hsn; rw [if_neg (show ¬ wl = 0 from fun q => c20_1 (by rw [q]; rfl))])⟩ dX3_closeWord_28
def po_X3_acceptsKind_g (g : GG) (rd : Nat) (rt : Nat) (d1 : Nat) (d2 : Nat) (d3 : Nat) (du : Nat) (rs : Nat) (tu : Nat) (pl : Nat) (wl : Nat) (hw : Nat) (dz : Nat) (dt : Nat) (DK : Nat → Int32) (DL : Nat → Int32) (DV : Nat → Int32) (p1 : Int32) : Int32 → va_W → Prop := fun (r : Int32) w => ∃ (du2 : Nat) (rs2 : Nat) (tu2 : Nat) (pl2 : Nat) (wl2 : Nat) (hw2 : Nat) (dz2 : Nat) (dt2 : Nat) (DK2 : Nat → Int32) (DL2 : Nat → Int32) (DV2 : Nat → Int32), w = [(rd, .inr (3, [.ref rt, .int (nI du2), .int (nI rs2), .int (nI tu2), .int (nI pl2), .int (nI wl2), .int (nI hw2)])), (rt, .inr (5, [.int (nI dz2), .int (nI dt2), .ref d1, .ref d2, .ref d3])), (d1, ai g 6 DK2), (d2, ai g 6 DL2), (d3, ai g 96 DV2)] ∧ (stp r (akd p1 (du, rs, tu, pl, wl, hw, dz, dt, DK, DL, DV)) (du, rs, tu, pl, wl, hw, dz, dt, DK, DL, DV) (du2, rs2, tu2, pl2, wl2, hw2, dz2, dt2, DK2, DL2, DV2))
theorem q_X3_acceptsKind_g_f3 : ∀ w ∈ u_ws RX3 TX3 7, w ∈ wsX3_acceptsKind := by decide +kernel
theorem q_X3_acceptsKind_g_1 : (Cond.fieldLink RX3 12 "SoundLaws$Reader" "draft" "LSoundLaws$Stock;") ∈ wsX3_acceptsKind := by decide +kernel
theorem q_X3_acceptsKind_g_f5 : ∀ w ∈ u_ws RX5 TX5 5, w ∈ wsX3_acceptsKind := by decide +kernel
theorem q_X3_acceptsKind_g_3 : (Cond.fieldLink RX3 18 "SoundLaws$Stock" "size" "I") ∈ wsX3_acceptsKind := by decide +kernel
theorem q_X3_acceptsKind_g_4 : (Cond.fieldLink RX3 65 "SoundLaws$Reader" "set" "I") ∈ wsX3_acceptsKind := by decide +kernel
theorem q_X3_acceptsKind_g_5 : (Cond.fieldLink RX3 68 "SoundLaws$Stock" "kinds" "[I") ∈ wsX3_acceptsKind := by decide +kernel
theorem q_X3_acceptsKind_g_6 : (Cond.fieldLink RX3 62 "SoundLaws$Reader" "tongue" "I") ∈ wsX3_acceptsKind := by decide +kernel
theorem q_X3_acceptsKind_g_7 : (Cond.fieldLink RX3 25 "SoundLaws$Reader" "kindIsDue" "Z") ∈ wsX3_acceptsKind := by decide +kernel
set_option maxHeartbeats 1500000 in
set_option maxRecDepth 100000 in
theorem c_X3_acceptsKind_g (l : Launch) (g : GG) (rd : Nat) (rt : Nat) (d1 : Nat) (d2 : Nat) (d3 : Nat) (du : Nat) (rs : Nat) (tu : Nat) (pl : Nat) (wl : Nat) (hw : Nat) (dz : Nat) (dt : Nat) (DK : Nat → Int32) (DL : Nat → Int32) (DV : Nat → Int32) (p1 : Int32) (hdu : du < 2) (hrs : rs < 5) (htu : tu < 4) (hpl : pl ≤ 4) (hwl : wl < 2) (hhw : hw < 2) (hdz : dz ≤ 5) (hdt : dt ≤ 4) (sz : Nat) : MetI l yX3_acceptsKind wsX3_acceptsKind ({ frames := 1, cells := 0, slots := 0, locals := 20 }) g [.ref rd, .int p1] [(rd, .inr (3, [.ref rt, .int (nI du), .int (nI rs), .int (nI tu), .int (nI pl), .int (nI wl), .int (nI hw)])), (rt, .inr (5, [.int (nI dz), .int (nI dt), .ref d1, .ref d2, .ref d3])), (d1, ai g 6 DK), (d2, ai g 6 DL), (d3, ai g 96 DV)] sz (po_X3_acceptsKind_g g rd rt d1 d2 d3 du rs tu pl wl hw dz dt DK DL DV p1) 0 0 := by
  refine k_of (l := l) (y := yX3_acceptsKind) (ws := wsX3_acceptsKind) (rm := { frames := 1, cells := 0, slots := 0, locals := 20 }) (mc := 0) (ms := 0) (av := [.ref rd, .int p1]) (g := g) (wc := [(rd, .inr (3, [.ref rt, .int (nI du), .int (nI rs), .int (nI tu), .int (nI pl), .int (nI wl), .int (nI hw)])), (rt, .inr (5, [.int (nI dz), .int (nI dt), .ref d1, .ref d2, .ref d3])), (d1, ai g 6 DK), (d2, ai g 6 DL), (d3, ai g 96 DV)]) (Qc := fun A => va_Qi (po_X3_acceptsKind_g g rd rt d1 d2 d3 du rs tu pl wl hw dz dt DK DL DV p1) (bk g A) A) (cc := cX3_acceptsKind) (maxL := 2) (ret := (some .boolean)) (by decide) rfl (Nat.le_of_ble_eq_true rfl) ?_ sz
  intro p e s m below meth c hx hb hr hts hown hlocks hnm hml A hA hE hZ hP hD hS ls hl
  have hown : s.vm.findClass RX3 = some m.cls := hown
  have hl : lv_has ls 2 [(0, .ref rd), (1, .int p1)] := hl
  refine lv_iload_n hx hb dX3_acceptsKind_0 rfl (lv_at hl 1 rfl) ?_
  refine lv_if_ge (tgt := 6) hx hb dX3_acceptsKind_1 (by decide) (fun c1_1 => ?_) (fun c1_1 => ?_)
  · skip
    refine lv_aload_n hx hb dX3_acceptsKind_6 rfl (lv_at hl 0 rfl) ?_
    refine lv_aload_n hx hb dX3_acceptsKind_7 rfl (lv_at hl 0 rfl) ?_
    refine va_get (D := g.1) (ci := 3) (v := .ref rt) (C := RX3) (T := TX3) (N := 7) hx hb hts q_X3_acceptsKind_g_f3 hown hE.1 hP 0 rfl rfl 0 (by decide) (hts (.fieldLink RX3 12 "SoundLaws$Reader" "draft" "LSoundLaws$Stock;") q_X3_acceptsKind_g_1) (fun _ h9 => h9) rfl dX3_acceptsKind_8 ?_
    refine va_get (D := g.1) (ci := 5) (v := .int (nI dz)) (C := RX5) (T := TX5) (N := 5) hx hb hts q_X3_acceptsKind_g_f5 hown hE.1 hP 1 rfl rfl 0 (by decide) (hts (.fieldLink RX3 18 "SoundLaws$Stock" "size" "I") q_X3_acceptsKind_g_3) (fun _ h9 => h9) rfl dX3_acceptsKind_11 ?_
    refine va_put (D := g.1) (ci := 3) (v := .int (nI dz)) (ty := .int) (C := RX3) (T := TX3) (N := 7) hx hb hts q_X3_acceptsKind_g_f3 tyX3 tyX3_ok nmX3 hown hE.1 hP hD hS 0 rfl rfl 2 (by decide) (hts (.fieldLink RX3 65 "SoundLaws$Reader" "set" "I") q_X3_acceptsKind_g_4) (fun _ h9 => h9) rfl (by decide +kernel) rfl rfl (Nat.le_of_ble_eq_true rfl) dX3_acceptsKind_14 (fun H locs hP hD hS => ?_)
    have hP : va_P g.1 vwCl [(rd, .inr (3, [.ref rt, .int (nI du), .int (nI dz), .int (nI tu), .int (nI pl), .int (nI wl), .int (nI hw)])), (rt, .inr (5, [.int (nI dz), .int (nI dt), .ref d1, .ref d2, .ref d3])), (d1, ai g 6 DK), (d2, ai g 6 DL), (d3, ai g 96 DV)] H := hP
    have hD : va_D A [(rd, .inr (3, [.ref rt, .int (nI du), .int (nI dz), .int (nI tu), .int (nI pl), .int (nI wl), .int (nI hw)])), (rt, .inr (5, [.int (nI dz), .int (nI dt), .ref d1, .ref d2, .ref d3])), (d1, ai g 6 DK), (d2, ai g 6 DL), (d3, ai g 96 DV)] := hD
    refine lv_aload_n hx hb dX3_acceptsKind_17 rfl (lv_at hl 0 rfl) ?_
    refine va_get (D := g.1) (ci := 3) (v := .ref rt) (C := RX3) (T := TX3) (N := 7) hx hb hts q_X3_acceptsKind_g_f3 hown hE.1 hP 0 rfl rfl 0 (by decide) (hts (.fieldLink RX3 12 "SoundLaws$Reader" "draft" "LSoundLaws$Stock;") q_X3_acceptsKind_g_1) (fun _ h9 => h9) rfl dX3_acceptsKind_18 ?_
    refine lv_dup hx hb dX3_acceptsKind_21 rfl ?_
    refine va_get (D := g.1) (ci := 5) (v := .int (nI dz)) (C := RX5) (T := TX5) (N := 5) hx hb hts q_X3_acceptsKind_g_f5 hown hE.1 hP 1 rfl rfl 0 (by decide) (hts (.fieldLink RX3 18 "SoundLaws$Stock" "size" "I") q_X3_acceptsKind_g_3) (fun _ h9 => h9) rfl dX3_acceptsKind_22 ?_
    refine lv_iconst (v := 1) hx hb dX3_acceptsKind_25 (by decide) ?_
    refine lv_iadd hx hb dX3_acceptsKind_26 ?_
    refine lv_topi (fun x_2 ex_2 => ?_)
    obtain rfl : x_2 = nI (dz + 1) := by rw [ex_2]; exact nI_1 dz
    refine va_put (D := g.1) (ci := 5) (v := .int (nI (dz + 1))) (ty := .int) (C := RX5) (T := TX5) (N := 5) hx hb hts q_X3_acceptsKind_g_f5 tyX5 tyX5_ok nmX5 hown hE.1 hP hD hS 1 rfl rfl 0 (by decide) (hts (.fieldLink RX3 18 "SoundLaws$Stock" "size" "I") q_X3_acceptsKind_g_3) (fun _ h9 => h9) rfl (by decide +kernel) rfl rfl (Nat.le_of_ble_eq_true rfl) dX3_acceptsKind_27 (fun H locs hP hD hS => ?_)
    have hP : va_P g.1 vwCl [(rd, .inr (3, [.ref rt, .int (nI du), .int (nI dz), .int (nI tu), .int (nI pl), .int (nI wl), .int (nI hw)])), (rt, .inr (5, [.int (nI (dz + 1)), .int (nI dt), .ref d1, .ref d2, .ref d3])), (d1, ai g 6 DK), (d2, ai g 6 DL), (d3, ai g 96 DV)] H := hP
    have hD : va_D A [(rd, .inr (3, [.ref rt, .int (nI du), .int (nI dz), .int (nI tu), .int (nI pl), .int (nI wl), .int (nI hw)])), (rt, .inr (5, [.int (nI (dz + 1)), .int (nI dt), .ref d1, .ref d2, .ref d3])), (d1, ai g 6 DK), (d2, ai g 6 DL), (d3, ai g 96 DV)] := hD
    refine lv_aload_n hx hb dX3_acceptsKind_30 rfl (lv_at hl 0 rfl) ?_
    refine va_get (D := g.1) (ci := 3) (v := .ref rt) (C := RX3) (T := TX3) (N := 7) hx hb hts q_X3_acceptsKind_g_f3 hown hE.1 hP 0 rfl rfl 0 (by decide) (hts (.fieldLink RX3 12 "SoundLaws$Reader" "draft" "LSoundLaws$Stock;") q_X3_acceptsKind_g_1) (fun _ h9 => h9) rfl dX3_acceptsKind_31 ?_
    refine va_get (D := g.1) (ci := 5) (v := .ref d1) (C := RX5) (T := TX5) (N := 5) hx hb hts q_X3_acceptsKind_g_f5 hown hE.1 hP 1 rfl rfl 2 (by decide) (hts (.fieldLink RX3 68 "SoundLaws$Stock" "kinds" "[I") q_X3_acceptsKind_g_5) (fun _ h9 => h9) rfl dX3_acceptsKind_34 ?_
    refine lv_aload_n hx hb dX3_acceptsKind_37 rfl (lv_at hl 0 rfl) ?_
    refine va_get (D := g.1) (ci := 3) (v := .int (nI dz)) (C := RX3) (T := TX3) (N := 7) hx hb hts q_X3_acceptsKind_g_f3 hown hE.1 hP 0 rfl rfl 2 (by decide) (hts (.fieldLink RX3 65 "SoundLaws$Reader" "set" "I") q_X3_acceptsKind_g_4) (fun _ h9 => h9) rfl dX3_acceptsKind_38 ?_
    refine lv_iload_n hx hb dX3_acceptsKind_41 rfl (lv_at hl 1 rfl) ?_
    refine k_ast (x := p1) dz rfl (by omega) hx hb hE hP hD hS 2 rfl (by decide) dX3_acceptsKind_42 (fun H locs hP hD hS => ?_)
    have hP : va_P g.1 vwCl [(rd, .inr (3, [.ref rt, .int (nI du), .int (nI dz), .int (nI tu), .int (nI pl), .int (nI wl), .int (nI hw)])), (rt, .inr (5, [.int (nI (dz + 1)), .int (nI dt), .ref d1, .ref d2, .ref d3])), (d1, ai g 6 (upd DK dz p1)), (d2, ai g 6 DL), (d3, ai g 96 DV)] H := hP
    have hD : va_D A [(rd, .inr (3, [.ref rt, .int (nI du), .int (nI dz), .int (nI tu), .int (nI pl), .int (nI wl), .int (nI hw)])), (rt, .inr (5, [.int (nI (dz + 1)), .int (nI dt), .ref d1, .ref d2, .ref d3])), (d1, ai g 6 (upd DK dz p1)), (d2, ai g 6 DL), (d3, ai g 96 DV)] := hD
    refine lv_aload_n hx hb dX3_acceptsKind_43 rfl (lv_at hl 0 rfl) ?_
    refine lv_iconst (v := 0) hx hb dX3_acceptsKind_44 (by decide) ?_
    refine va_put (D := g.1) (ci := 3) (v := .int 0) (ty := .int) (C := RX3) (T := TX3) (N := 7) hx hb hts q_X3_acceptsKind_g_f3 tyX3 tyX3_ok nmX3 hown hE.1 hP hD hS 0 rfl rfl 3 (by decide) (hts (.fieldLink RX3 62 "SoundLaws$Reader" "tongue" "I") q_X3_acceptsKind_g_6) (fun _ h9 => h9) rfl (by decide +kernel) rfl rfl (Nat.le_of_ble_eq_true rfl) dX3_acceptsKind_45 (fun H locs hP hD hS => ?_)
    have hP : va_P g.1 vwCl [(rd, .inr (3, [.ref rt, .int (nI du), .int (nI dz), .int 0, .int (nI pl), .int (nI wl), .int (nI hw)])), (rt, .inr (5, [.int (nI (dz + 1)), .int (nI dt), .ref d1, .ref d2, .ref d3])), (d1, ai g 6 (upd DK dz p1)), (d2, ai g 6 DL), (d3, ai g 96 DV)] H := hP
    have hD : va_D A [(rd, .inr (3, [.ref rt, .int (nI du), .int (nI dz), .int 0, .int (nI pl), .int (nI wl), .int (nI hw)])), (rt, .inr (5, [.int (nI (dz + 1)), .int (nI dt), .ref d1, .ref d2, .ref d3])), (d1, ai g 6 (upd DK dz p1)), (d2, ai g 6 DL), (d3, ai g 96 DV)] := hD
    refine lv_aload_n hx hb dX3_acceptsKind_48 rfl (lv_at hl 0 rfl) ?_
    refine k_cv (wr := [(rt, .inr (5, [.int (nI (dz + 1)), .int (nI dt), .ref d1, .ref d2, .ref d3])), (d1, ai g 6 (upd DK dz p1)), (d2, ai g 6 DL), (d3, ai g 96 DV)]) hP hD hS hA [0] [1, 2, 3, 4] rfl rfl (by decide) (by decide) (va_runV (As := []) (rest := []) ⟨hx, hb, hml, hown, hts⟩ (c_X3_openWord_g l g rd rt du dz 0 pl wl hw  H.size) (cwV 0 hts gX3_acceptsKind_X3_openWord rfl rfl rfl (by decide +kernel) ⟨Nat.le_of_ble_eq_true rfl, Nat.le_of_ble_eq_true rfl⟩) (k_preV hE hZ hP hD hS hA [0] rfl (by decide) (va_recv hE.1 hP (ci := 3) (q0 := 0) rfl rfl)) rfl rfl hl.1 rfl (lv_room (Nat.le_of_ble_eq_true rfl)) dX3_acceptsKind_49 ⟨Nat.le_of_ble_eq_true rfl, Nat.le_of_ble_eq_true rfl⟩) (fun w1 H locs hw hP hD hS => ?_)
    obtain rfl := hw
    have hP : va_P g.1 vwCl [(rt, .inr (5, [.int (nI (dz + 1)), .int (nI dt), .ref d1, .ref d2, .ref d3])), (d1, ai g 6 (upd DK dz p1)), (d2, ai g 6 DL), (d3, ai g 96 DV), (rd, .inr (3, [.ref rt, .int (nI du), .int (nI dz), .int (nI 0), .int 0, .int 1, .int (nI hw)]))] H := hP
    have hD : va_D A [(rt, .inr (5, [.int (nI (dz + 1)), .int (nI dt), .ref d1, .ref d2, .ref d3])), (d1, ai g 6 (upd DK dz p1)), (d2, ai g 6 DL), (d3, ai g 96 DV), (rd, .inr (3, [.ref rt, .int (nI du), .int (nI dz), .int (nI 0), .int 0, .int 1, .int (nI hw)]))] := hD
    refine lv_aload_n hx hb dX3_acceptsKind_52 rfl (lv_at hl 0 rfl) ?_
    refine lv_iconst (v := 0) hx hb dX3_acceptsKind_53 (by decide) ?_
    refine va_put (D := g.1) (ci := 3) (v := .int 0) (ty := .boolean) (C := RX3) (T := TX3) (N := 7) hx hb hts q_X3_acceptsKind_g_f3 tyX3 tyX3_ok nmX3 hown hE.1 hP hD hS 4 rfl rfl 1 (by decide) (hts (.fieldLink RX3 25 "SoundLaws$Reader" "kindIsDue" "Z") q_X3_acceptsKind_g_7) (fun _ h9 => h9) rfl (by decide +kernel) rfl rfl (Nat.le_of_ble_eq_true rfl) dX3_acceptsKind_54 (fun H locs hP hD hS => ?_)
    have hP : va_P g.1 vwCl [(rt, .inr (5, [.int (nI (dz + 1)), .int (nI dt), .ref d1, .ref d2, .ref d3])), (d1, ai g 6 (upd DK dz p1)), (d2, ai g 6 DL), (d3, ai g 96 DV), (rd, .inr (3, [.ref rt, .int 0, .int (nI dz), .int (nI 0), .int 0, .int 1, .int (nI hw)]))] H := hP
    have hD : va_D A [(rt, .inr (5, [.int (nI (dz + 1)), .int (nI dt), .ref d1, .ref d2, .ref d3])), (d1, ai g 6 (upd DK dz p1)), (d2, ai g 6 DL), (d3, ai g 96 DV), (rd, .inr (3, [.ref rt, .int 0, .int (nI dz), .int (nI 0), .int 0, .int 1, .int (nI hw)]))] := hD
    refine lv_iconst (v := 1) hx hb dX3_acceptsKind_57 (by decide) ?_
    refine W.widen (k := 0) (n := 0) (Nat.le_of_ble_eq_true rfl) (Nat.le_of_ble_eq_true rfl) ?_
    have hP9 := hP.sub (ws' := [(rd, .inr (3, [.ref rt, .int 0, .int (nI dz), .int (nI 0), .int 0, .int 1, .int (nI hw)])), (rt, .inr (5, [.int (nI (dz + 1)), .int (nI dt), .ref d1, .ref d2, .ref d3])), (d1, ai g 6 (upd DK dz p1)), (d2, ai g 6 DL), (d3, ai g 96 DV)]) [4, 0, 1, 2, 3] rfl
    have hD9 := hD.sub (ws' := [(rd, .inr (3, [.ref rt, .int 0, .int (nI dz), .int (nI 0), .int 0, .int 1, .int (nI hw)])), (rt, .inr (5, [.int (nI (dz + 1)), .int (nI dt), .ref d1, .ref d2, .ref d3])), (d1, ai g 6 (upd DK dz p1)), (d2, ai g 6 DL), (d3, ai g 96 DV)]) [4, 0, 1, 2, 3] (by decide) rfl
    exact k_rz hx hb hr hlocks hS hP9 hD9 rfl ⟨0, dz, 0, 0, 1, hw, (dz + 1), dt, (upd DK dz p1), DL, DV, rfl, (stp_s (if_neg (Int32.not_lt.mpr c1_1)))⟩ dX3_acceptsKind_58
  · skip
    refine lv_iconst (v := 0) hx hb dX3_acceptsKind_4 (by decide) ?_
    refine W.widen (k := 0) (n := 0) (Nat.le_of_ble_eq_true rfl) (Nat.le_of_ble_eq_true rfl) ?_
    exact k_rz hx hb hr hlocks hS hP hD rfl ⟨du, rs, tu, pl, wl, hw, dz, dt, DK, DL, DV, rfl, (stp_n (if_pos (Int32.not_le.mp c1_1)))⟩ dX3_acceptsKind_5
def po_X3_acceptsSound_g (g : GG) (rd : Nat) (rt : Nat) (d1 : Nat) (d2 : Nat) (d3 : Nat) (du : Nat) (rs : Nat) (tu : Nat) (pl : Nat) (wl : Nat) (hw : Nat) (dz : Nat) (dt : Nat) (DK : Nat → Int32) (DL : Nat → Int32) (DV : Nat → Int32) (p1 : Int32) : Int32 → va_W → Prop := fun (r : Int32) w => ∃ (du2 : Nat) (rs2 : Nat) (tu2 : Nat) (pl2 : Nat) (wl2 : Nat) (hw2 : Nat) (dz2 : Nat) (dt2 : Nat) (DK2 : Nat → Int32) (DL2 : Nat → Int32) (DV2 : Nat → Int32), w = [(rd, .inr (3, [.ref rt, .int (nI du2), .int (nI rs2), .int (nI tu2), .int (nI pl2), .int (nI wl2), .int (nI hw2)])), (rt, .inr (5, [.int (nI dz2), .int (nI dt2), .ref d1, .ref d2, .ref d3])), (d1, ai g 6 DK2), (d2, ai g 6 DL2), (d3, ai g 96 DV2)] ∧ (stp r (asd p1 (du, rs, tu, pl, wl, hw, dz, dt, DK, DL, DV)) (du, rs, tu, pl, wl, hw, dz, dt, DK, DL, DV) (du2, rs2, tu2, pl2, wl2, hw2, dz2, dt2, DK2, DL2, DV2))
theorem q_X3_acceptsSound_g_f3 : ∀ w ∈ u_ws RX3 TX3 7, w ∈ wsX3_acceptsSound := by decide +kernel
theorem q_X3_acceptsSound_g_1 : (Cond.fieldLink RX3 62 "SoundLaws$Reader" "tongue" "I") ∈ wsX3_acceptsSound := by decide +kernel
theorem q_X3_acceptsSound_g_2 : (Cond.fieldLink RX3 12 "SoundLaws$Reader" "draft" "LSoundLaws$Stock;") ∈ wsX3_acceptsSound := by decide +kernel
theorem q_X3_acceptsSound_g_f5 : ∀ w ∈ u_ws RX5 TX5 5, w ∈ wsX3_acceptsSound := by decide +kernel
theorem q_X3_acceptsSound_g_4 : (Cond.fieldLink RX3 75 "SoundLaws$Stock" "lengths" "[I") ∈ wsX3_acceptsSound := by decide +kernel
theorem q_X3_acceptsSound_g_5 : (Cond.fieldLink RX3 65 "SoundLaws$Reader" "set" "I") ∈ wsX3_acceptsSound := by decide +kernel
theorem q_X3_acceptsSound_g_6 : (Cond.fieldLink RX3 78 "SoundLaws$Reader" "place" "I") ∈ wsX3_acceptsSound := by decide +kernel
theorem q_X3_acceptsSound_g_7 : (Cond.fieldLink RX3 81 "SoundLaws$Stock" "words" "[I") ∈ wsX3_acceptsSound := by decide +kernel
theorem q_X3_acceptsSound_g_8 : (Cond.initialized RX8) ∈ wsX3_acceptsSound := by decide +kernel
theorem q_X3_acceptsSound_g_9 : (Cond.static yX8_wordAt) ∈ wsX3_acceptsSound := by decide +kernel
theorem q_X3_acceptsSound_g_10 : (Cond.fieldLink RX3 88 "SoundLaws$Reader" "wordIsSilent" "Z") ∈ wsX3_acceptsSound := by decide +kernel
set_option maxHeartbeats 1500000 in
set_option maxRecDepth 100000 in
theorem c_X3_acceptsSound_g (l : Launch) (g : GG) (rd : Nat) (rt : Nat) (d1 : Nat) (d2 : Nat) (d3 : Nat) (du : Nat) (rs : Nat) (tu : Nat) (pl : Nat) (wl : Nat) (hw : Nat) (dz : Nat) (dt : Nat) (DK : Nat → Int32) (DL : Nat → Int32) (DV : Nat → Int32) (p1 : Int32) (hdu : du < 2) (hrs : rs < 5) (htu : tu < 4) (hpl : pl ≤ 4) (hwl : wl < 2) (hhw : hw < 2) (hdz : dz ≤ 5) (hdt : dt ≤ 4) (hDL : rng 6 5 DL) (sz : Nat) : MetI l yX3_acceptsSound wsX3_acceptsSound ({ frames := 1, cells := 0, slots := 0, locals := 21 }) g [.ref rd, .int p1] [(rd, .inr (3, [.ref rt, .int (nI du), .int (nI rs), .int (nI tu), .int (nI pl), .int (nI wl), .int (nI hw)])), (rt, .inr (5, [.int (nI dz), .int (nI dt), .ref d1, .ref d2, .ref d3])), (d1, ai g 6 DK), (d2, ai g 6 DL), (d3, ai g 96 DV)] sz (po_X3_acceptsSound_g g rd rt d1 d2 d3 du rs tu pl wl hw dz dt DK DL DV p1) 0 0 := by
  refine k_of (l := l) (y := yX3_acceptsSound) (ws := wsX3_acceptsSound) (rm := { frames := 1, cells := 0, slots := 0, locals := 21 }) (mc := 0) (ms := 0) (av := [.ref rd, .int p1]) (g := g) (wc := [(rd, .inr (3, [.ref rt, .int (nI du), .int (nI rs), .int (nI tu), .int (nI pl), .int (nI wl), .int (nI hw)])), (rt, .inr (5, [.int (nI dz), .int (nI dt), .ref d1, .ref d2, .ref d3])), (d1, ai g 6 DK), (d2, ai g 6 DL), (d3, ai g 96 DV)]) (Qc := fun A => va_Qi (po_X3_acceptsSound_g g rd rt d1 d2 d3 du rs tu pl wl hw dz dt DK DL DV p1) (bk g A) A) (cc := cX3_acceptsSound) (maxL := 3) (ret := (some .boolean)) (by decide) rfl (Nat.le_of_ble_eq_true rfl) ?_ sz
  intro p e s m below meth c hx hb hr hts hown hlocks hnm hml A hA hE hZ hP hD hS ls hl
  have hown : s.vm.findClass RX3 = some m.cls := hown
  have hl : lv_has ls 3 [(0, .ref rd), (1, .int p1)] := hl
  refine lv_aload_n hx hb dX3_acceptsSound_0 rfl (lv_at hl 0 rfl) ?_
  refine va_get (D := g.1) (ci := 3) (v := .int (nI tu)) (C := RX3) (T := TX3) (N := 7) hx hb hts q_X3_acceptsSound_g_f3 hown hE.1 hP 0 rfl rfl 3 (by decide) (hts (.fieldLink RX3 62 "SoundLaws$Reader" "tongue" "I") q_X3_acceptsSound_g_1) (fun _ h9 => h9) rfl dX3_acceptsSound_1 ?_
  refine lv_if_ne (tgt := 11) hx hb dX3_acceptsSound_4 (by decide) (fun c4_1 => ?_) (fun c4_1 => ?_)
  · skip
    refine lv_aload_n hx hb dX3_acceptsSound_11 rfl (lv_at hl 0 rfl) ?_
    refine va_get (D := g.1) (ci := 3) (v := .ref rt) (C := RX3) (T := TX3) (N := 7) hx hb hts q_X3_acceptsSound_g_f3 hown hE.1 hP 0 rfl rfl 0 (by decide) (hts (.fieldLink RX3 12 "SoundLaws$Reader" "draft" "LSoundLaws$Stock;") q_X3_acceptsSound_g_2) (fun _ h9 => h9) rfl dX3_acceptsSound_12 ?_
    refine va_get (D := g.1) (ci := 5) (v := .ref d2) (C := RX5) (T := TX5) (N := 5) hx hb hts q_X3_acceptsSound_g_f5 hown hE.1 hP 1 rfl rfl 3 (by decide) (hts (.fieldLink RX3 75 "SoundLaws$Stock" "lengths" "[I") q_X3_acceptsSound_g_4) (fun _ h9 => h9) rfl dX3_acceptsSound_15 ?_
    refine lv_aload_n hx hb dX3_acceptsSound_18 rfl (lv_at hl 0 rfl) ?_
    refine va_get (D := g.1) (ci := 3) (v := .int (nI rs)) (C := RX3) (T := TX3) (N := 7) hx hb hts q_X3_acceptsSound_g_f3 hown hE.1 hP 0 rfl rfl 2 (by decide) (hts (.fieldLink RX3 65 "SoundLaws$Reader" "set" "I") q_X3_acceptsSound_g_5) (fun _ h9 => h9) rfl dX3_acceptsSound_19 ?_
    refine k_ald rs rfl (by omega) hx hb hE hP 3 rfl (by decide) dX3_acceptsSound_22 ?_
    refine lv_istore_n (lv' := [(2, .int (DL rs)), (0, .ref rd), (1, .int p1)]) hx hb dX3_acceptsSound_23 rfl hl (by decide) rfl (fun ls hl => ?_)
    refine lv_iload_n hx hb dX3_acceptsSound_24 rfl (lv_at hl 2 rfl) ?_
    refine lv_if_lt (tgt := 36) hx hb dX3_acceptsSound_25 (by decide) (fun c25_2 => ?_) (fun c25_2 => ?_)
    · skip
      refine lv_iconst (v := 0) hx hb dX3_acceptsSound_36 (by decide) ?_
      refine W.widen (k := 0) (n := 0) (Nat.le_of_ble_eq_true rfl) (Nat.le_of_ble_eq_true rfl) ?_
      exact k_rz hx hb hr hlocks hS hP hD rfl ⟨du, rs, tu, pl, wl, hw, dz, dt, DK, DL, DV, rfl, (stp_n (if_pos c25_2))⟩ dX3_acceptsSound_37
    · skip
      refine lv_aload_n hx hb dX3_acceptsSound_28 rfl (lv_at hl 1 rfl) ?_
      refine va_get (D := g.1) (ci := 3) (v := .int (nI pl)) (C := RX3) (T := TX3) (N := 7) hx hb hts q_X3_acceptsSound_g_f3 hown hE.1 hP 0 rfl rfl 4 (by decide) (hts (.fieldLink RX3 78 "SoundLaws$Reader" "place" "I") q_X3_acceptsSound_g_6) (fun _ h9 => h9) rfl dX3_acceptsSound_29 ?_
      refine lv_iload_n hx hb dX3_acceptsSound_32 rfl (lv_at hl 0 rfl) ?_
      refine lv_icmp_lt (tgt := 38) hx hb dX3_acceptsSound_33 (by decide) (fun c33_3 => ?_) (fun c33_3 => ?_)
      · skip
        obtain ⟨l0, hl0, el0⟩ := hDL rs (by omega)
        have hp4 : pl < 4 := by have q9 := c33_3; rw [el0] at q9; have q8 := (nI_ltI (by omega) (by omega)).mp q9; omega
        refine lv_aload_n hx hb dX3_acceptsSound_38 rfl (lv_at hl 1 rfl) ?_
        refine va_get (D := g.1) (ci := 3) (v := .ref rt) (C := RX3) (T := TX3) (N := 7) hx hb hts q_X3_acceptsSound_g_f3 hown hE.1 hP 0 rfl rfl 0 (by decide) (hts (.fieldLink RX3 12 "SoundLaws$Reader" "draft" "LSoundLaws$Stock;") q_X3_acceptsSound_g_2) (fun _ h9 => h9) rfl dX3_acceptsSound_39 ?_
        refine va_get (D := g.1) (ci := 5) (v := .ref d3) (C := RX5) (T := TX5) (N := 5) hx hb hts q_X3_acceptsSound_g_f5 hown hE.1 hP 1 rfl rfl 4 (by decide) (hts (.fieldLink RX3 81 "SoundLaws$Stock" "words" "[I") q_X3_acceptsSound_g_7) (fun _ h9 => h9) rfl dX3_acceptsSound_42 ?_
        refine lv_aload_n hx hb dX3_acceptsSound_45 rfl (lv_at hl 1 rfl) ?_
        refine va_get (D := g.1) (ci := 3) (v := .int (nI rs)) (C := RX3) (T := TX3) (N := 7) hx hb hts q_X3_acceptsSound_g_f3 hown hE.1 hP 0 rfl rfl 2 (by decide) (hts (.fieldLink RX3 65 "SoundLaws$Reader" "set" "I") q_X3_acceptsSound_g_5) (fun _ h9 => h9) rfl dX3_acceptsSound_46 ?_
        refine lv_aload_n hx hb dX3_acceptsSound_49 rfl (lv_at hl 1 rfl) ?_
        refine va_get (D := g.1) (ci := 3) (v := .int (nI tu)) (C := RX3) (T := TX3) (N := 7) hx hb hts q_X3_acceptsSound_g_f3 hown hE.1 hP 0 rfl rfl 3 (by decide) (hts (.fieldLink RX3 62 "SoundLaws$Reader" "tongue" "I") q_X3_acceptsSound_g_1) (fun _ h9 => h9) rfl dX3_acceptsSound_50 ?_
        refine k_ci (wr := [(rd, .inr (3, [.ref rt, .int (nI du), .int (nI rs), .int (nI tu), .int (nI pl), .int (nI wl), .int (nI hw)])), (rt, .inr (5, [.int (nI dz), .int (nI dt), .ref d1, .ref d2, .ref d3])), (d1, ai g 6 DK), (d2, ai g 6 DL), (d3, ai g 96 DV)]) hP hD hS hA [] [0, 1, 2, 3, 4] rfl rfl (by decide) (by decide) (va_runSN (As := [.int (nI rs), .int (nI tu)]) (rest := [.ref d3]) ⟨hx, hb, hml, hown, hts⟩ (c_X8_wordAt_g l g rs tu  s.heap.size) ⟨va_cnB 2 hts gX3_acceptsSound_X8_wordAt_n84 rfl rfl rfl (hE.nw 10 rfl) (hts (.initialized RX8) q_X3_acceptsSound_g_8) (by decide +kernel) ⟨Nat.le_of_ble_eq_true rfl, Nat.le_of_ble_eq_true rfl⟩, (hts (.static yX8_wordAt) q_X3_acceptsSound_g_9), trivial⟩ (k_preS hE hZ hP hD hS hA [] rfl (by decide)) rfl rfl hl.1 rfl (lv_room (Nat.le_of_ble_eq_true rfl)) dX3_acceptsSound_53 ⟨Nat.le_of_ble_eq_true rfl, Nat.le_of_ble_eq_true rfl⟩) (fun r_4 w1 H locs hw hP hD hS => ?_)
        obtain ⟨rfl, rfl⟩ := hw
        have hP : va_P g.1 vwCl [(rd, .inr (3, [.ref rt, .int (nI du), .int (nI rs), .int (nI tu), .int (nI pl), .int (nI wl), .int (nI hw)])), (rt, .inr (5, [.int (nI dz), .int (nI dt), .ref d1, .ref d2, .ref d3])), (d1, ai g 6 DK), (d2, ai g 6 DL), (d3, ai g 96 DV)] H := hP
        have hD : va_D A [(rd, .inr (3, [.ref rt, .int (nI du), .int (nI rs), .int (nI tu), .int (nI pl), .int (nI wl), .int (nI hw)])), (rt, .inr (5, [.int (nI dz), .int (nI dt), .ref d1, .ref d2, .ref d3])), (d1, ai g 6 DK), (d2, ai g 6 DL), (d3, ai g 96 DV)] := hD
        refine lv_aload_n hx hb dX3_acceptsSound_56 rfl (lv_at hl 1 rfl) ?_
        refine va_get (D := g.1) (ci := 3) (v := .int (nI pl)) (C := RX3) (T := TX3) (N := 7) hx hb hts q_X3_acceptsSound_g_f3 hown hE.1 hP 0 rfl rfl 4 (by decide) (hts (.fieldLink RX3 78 "SoundLaws$Reader" "place" "I") q_X3_acceptsSound_g_6) (fun _ h9 => h9) rfl dX3_acceptsSound_57 ?_
        refine lv_iadd hx hb dX3_acceptsSound_60 ?_
        refine lv_iload_n hx hb dX3_acceptsSound_61 rfl (lv_at hl 2 rfl) ?_
        refine k_ast (x := p1) (16 * rs + 4 * tu + pl) (nI_add _ _) (by omega) hx hb hE hP hD hS 4 rfl (by decide) dX3_acceptsSound_62 (fun H locs hP hD hS => ?_)
        have hP : va_P g.1 vwCl [(rd, .inr (3, [.ref rt, .int (nI du), .int (nI rs), .int (nI tu), .int (nI pl), .int (nI wl), .int (nI hw)])), (rt, .inr (5, [.int (nI dz), .int (nI dt), .ref d1, .ref d2, .ref d3])), (d1, ai g 6 DK), (d2, ai g 6 DL), (d3, ai g 96 (upd DV (16 * rs + 4 * tu + pl) p1))] H := hP
        have hD : va_D A [(rd, .inr (3, [.ref rt, .int (nI du), .int (nI rs), .int (nI tu), .int (nI pl), .int (nI wl), .int (nI hw)])), (rt, .inr (5, [.int (nI dz), .int (nI dt), .ref d1, .ref d2, .ref d3])), (d1, ai g 6 DK), (d2, ai g 6 DL), (d3, ai g 96 (upd DV (16 * rs + 4 * tu + pl) p1))] := hD
        refine lv_aload_n hx hb dX3_acceptsSound_63 rfl (lv_at hl 1 rfl) ?_
        refine lv_dup hx hb dX3_acceptsSound_64 rfl ?_
        refine va_get (D := g.1) (ci := 3) (v := .int (nI pl)) (C := RX3) (T := TX3) (N := 7) hx hb hts q_X3_acceptsSound_g_f3 hown hE.1 hP 0 rfl rfl 4 (by decide) (hts (.fieldLink RX3 78 "SoundLaws$Reader" "place" "I") q_X3_acceptsSound_g_6) (fun _ h9 => h9) rfl dX3_acceptsSound_65 ?_
        refine lv_iconst (v := 1) hx hb dX3_acceptsSound_68 (by decide) ?_
        refine lv_iadd hx hb dX3_acceptsSound_69 ?_
        refine lv_topi (fun x_6 ex_6 => ?_)
        obtain rfl : x_6 = nI (pl + 1) := by rw [ex_6]; exact nI_1 pl
        refine va_put (D := g.1) (ci := 3) (v := .int (nI (pl + 1))) (ty := .int) (C := RX3) (T := TX3) (N := 7) hx hb hts q_X3_acceptsSound_g_f3 tyX3 tyX3_ok nmX3 hown hE.1 hP hD hS 0 rfl rfl 4 (by decide) (hts (.fieldLink RX3 78 "SoundLaws$Reader" "place" "I") q_X3_acceptsSound_g_6) (fun _ h9 => h9) rfl (by decide +kernel) rfl rfl (Nat.le_of_ble_eq_true rfl) dX3_acceptsSound_70 (fun H locs hP hD hS => ?_)
        have hP : va_P g.1 vwCl [(rd, .inr (3, [.ref rt, .int (nI du), .int (nI rs), .int (nI tu), .int (nI (pl + 1)), .int (nI wl), .int (nI hw)])), (rt, .inr (5, [.int (nI dz), .int (nI dt), .ref d1, .ref d2, .ref d3])), (d1, ai g 6 DK), (d2, ai g 6 DL), (d3, ai g 96 (upd DV (16 * rs + 4 * tu + pl) p1))] H := hP
        have hD : va_D A [(rd, .inr (3, [.ref rt, .int (nI du), .int (nI rs), .int (nI tu), .int (nI (pl + 1)), .int (nI wl), .int (nI hw)])), (rt, .inr (5, [.int (nI dz), .int (nI dt), .ref d1, .ref d2, .ref d3])), (d1, ai g 6 DK), (d2, ai g 6 DL), (d3, ai g 96 (upd DV (16 * rs + 4 * tu + pl) p1))] := hD
        refine lv_iload_n hx hb dX3_acceptsSound_73 rfl (lv_at hl 2 rfl) ?_
        refine lv_if_eq (tgt := 82) hx hb dX3_acceptsSound_74 (by decide) (fun c74_7 => ?_) (fun c74_7 => ?_)
        · skip
          refine lv_iconst (v := 1) hx hb dX3_acceptsSound_82 (by decide) ?_
          refine W.widen (k := 0) (n := 0) (Nat.le_of_ble_eq_true rfl) (Nat.le_of_ble_eq_true rfl) ?_
          exact k_rz hx hb hr hlocks hS hP hD rfl ⟨du, rs, tu, (pl + 1), wl, hw, dz, dt, DK, DL, (upd DV (16 * rs + 4 * tu + pl) p1), rfl, (stp_s (by unfold asd; dsimp only; rw [if_neg c25_2, if_neg (show ¬ tu = 0 from fun q => c4_1 (by rw [q]; rfl)), if_pos c33_3, if_pos c74_7]))⟩ dX3_acceptsSound_83
        · skip
          refine lv_aload_n hx hb dX3_acceptsSound_77 rfl (lv_at hl 1 rfl) ?_
          refine lv_iconst (v := 0) hx hb dX3_acceptsSound_78 (by decide) ?_
          refine va_put (D := g.1) (ci := 3) (v := .int 0) (ty := .boolean) (C := RX3) (T := TX3) (N := 7) hx hb hts q_X3_acceptsSound_g_f3 tyX3 tyX3_ok nmX3 hown hE.1 hP hD hS 0 rfl rfl 5 (by decide) (hts (.fieldLink RX3 88 "SoundLaws$Reader" "wordIsSilent" "Z") q_X3_acceptsSound_g_10) (fun _ h9 => h9) rfl (by decide +kernel) rfl rfl (Nat.le_of_ble_eq_true rfl) dX3_acceptsSound_79 (fun H locs hP hD hS => ?_)
          have hP : va_P g.1 vwCl [(rd, .inr (3, [.ref rt, .int (nI du), .int (nI rs), .int (nI tu), .int (nI (pl + 1)), .int 0, .int (nI hw)])), (rt, .inr (5, [.int (nI dz), .int (nI dt), .ref d1, .ref d2, .ref d3])), (d1, ai g 6 DK), (d2, ai g 6 DL), (d3, ai g 96 (upd DV (16 * rs + 4 * tu + pl) p1))] H := hP
          have hD : va_D A [(rd, .inr (3, [.ref rt, .int (nI du), .int (nI rs), .int (nI tu), .int (nI (pl + 1)), .int 0, .int (nI hw)])), (rt, .inr (5, [.int (nI dz), .int (nI dt), .ref d1, .ref d2, .ref d3])), (d1, ai g 6 DK), (d2, ai g 6 DL), (d3, ai g 96 (upd DV (16 * rs + 4 * tu + pl) p1))] := hD
          refine lv_iconst (v := 1) hx hb dX3_acceptsSound_82 (by decide) ?_
          refine W.widen (k := 0) (n := 0) (Nat.le_of_ble_eq_true rfl) (Nat.le_of_ble_eq_true rfl) ?_
          exact k_rz hx hb hr hlocks hS hP hD rfl ⟨du, rs, tu, (pl + 1), 0, hw, dz, dt, DK, DL, (upd DV (16 * rs + 4 * tu + pl) p1), rfl, (stp_s (by unfold asd; dsimp only; rw [if_neg c25_2, if_neg (show ¬ tu = 0 from fun q => c4_1 (by rw [q]; rfl)), if_pos c33_3, if_neg c74_7]))⟩ dX3_acceptsSound_83
      · skip
        refine lv_iconst (v := 0) hx hb dX3_acceptsSound_36 (by decide) ?_
        refine W.widen (k := 0) (n := 0) (Nat.le_of_ble_eq_true rfl) (Nat.le_of_ble_eq_true rfl) ?_
        exact k_rz hx hb hr hlocks hS hP hD rfl ⟨du, rs, tu, pl, wl, hw, dz, dt, DK, DL, DV, rfl, (stp_n (by unfold asd; dsimp only; rw [if_neg c25_2, if_neg (show ¬ tu = 0 from fun q => c4_1 (by rw [q]; rfl)), if_neg c33_3]))⟩ dX3_acceptsSound_37
  · skip
    refine lv_iconst (v := 4) hx hb dX3_acceptsSound_7 (by decide) ?_
    refine lv_goto (tgt := 23) hx hb dX3_acceptsSound_8 (by decide) ?_
    refine lv_istore_n (lv' := [(2, .int 4), (0, .ref rd), (1, .int p1)]) hx hb dX3_acceptsSound_23 rfl hl (by decide) rfl (fun ls hl => ?_)
    refine lv_iload_n hx hb dX3_acceptsSound_24 rfl (lv_at hl 2 rfl) ?_
    refine lv_if_lt (tgt := 36) hx hb dX3_acceptsSound_25 (by decide) (fun c25_8 => ?_) (fun c25_8 => ?_)
    · skip
      refine lv_iconst (v := 0) hx hb dX3_acceptsSound_36 (by decide) ?_
      refine W.widen (k := 0) (n := 0) (Nat.le_of_ble_eq_true rfl) (Nat.le_of_ble_eq_true rfl) ?_
      exact k_rz hx hb hr hlocks hS hP hD rfl ⟨du, rs, tu, pl, wl, hw, dz, dt, DK, DL, DV, rfl, (stp_n (if_pos c25_8))⟩ dX3_acceptsSound_37
    · skip
      refine lv_aload_n hx hb dX3_acceptsSound_28 rfl (lv_at hl 1 rfl) ?_
      refine va_get (D := g.1) (ci := 3) (v := .int (nI pl)) (C := RX3) (T := TX3) (N := 7) hx hb hts q_X3_acceptsSound_g_f3 hown hE.1 hP 0 rfl rfl 4 (by decide) (hts (.fieldLink RX3 78 "SoundLaws$Reader" "place" "I") q_X3_acceptsSound_g_6) (fun _ h9 => h9) rfl dX3_acceptsSound_29 ?_
      refine lv_iload_n hx hb dX3_acceptsSound_32 rfl (lv_at hl 0 rfl) ?_
      refine lv_icmp_lt (tgt := 38) hx hb dX3_acceptsSound_33 (by decide) (fun c33_9 => ?_) (fun c33_9 => ?_)
      · skip
        have hp4 : pl < 4 := (nI_ltI (b := 4) (by omega) (by decide)).mp c33_9
        refine lv_aload_n hx hb dX3_acceptsSound_38 rfl (lv_at hl 1 rfl) ?_
        refine va_get (D := g.1) (ci := 3) (v := .ref rt) (C := RX3) (T := TX3) (N := 7) hx hb hts q_X3_acceptsSound_g_f3 hown hE.1 hP 0 rfl rfl 0 (by decide) (hts (.fieldLink RX3 12 "SoundLaws$Reader" "draft" "LSoundLaws$Stock;") q_X3_acceptsSound_g_2) (fun _ h9 => h9) rfl dX3_acceptsSound_39 ?_
        refine va_get (D := g.1) (ci := 5) (v := .ref d3) (C := RX5) (T := TX5) (N := 5) hx hb hts q_X3_acceptsSound_g_f5 hown hE.1 hP 1 rfl rfl 4 (by decide) (hts (.fieldLink RX3 81 "SoundLaws$Stock" "words" "[I") q_X3_acceptsSound_g_7) (fun _ h9 => h9) rfl dX3_acceptsSound_42 ?_
        refine lv_aload_n hx hb dX3_acceptsSound_45 rfl (lv_at hl 1 rfl) ?_
        refine va_get (D := g.1) (ci := 3) (v := .int (nI rs)) (C := RX3) (T := TX3) (N := 7) hx hb hts q_X3_acceptsSound_g_f3 hown hE.1 hP 0 rfl rfl 2 (by decide) (hts (.fieldLink RX3 65 "SoundLaws$Reader" "set" "I") q_X3_acceptsSound_g_5) (fun _ h9 => h9) rfl dX3_acceptsSound_46 ?_
        refine lv_aload_n hx hb dX3_acceptsSound_49 rfl (lv_at hl 1 rfl) ?_
        refine va_get (D := g.1) (ci := 3) (v := .int (nI tu)) (C := RX3) (T := TX3) (N := 7) hx hb hts q_X3_acceptsSound_g_f3 hown hE.1 hP 0 rfl rfl 3 (by decide) (hts (.fieldLink RX3 62 "SoundLaws$Reader" "tongue" "I") q_X3_acceptsSound_g_1) (fun _ h9 => h9) rfl dX3_acceptsSound_50 ?_
        refine k_ci (wr := [(rd, .inr (3, [.ref rt, .int (nI du), .int (nI rs), .int (nI tu), .int (nI pl), .int (nI wl), .int (nI hw)])), (rt, .inr (5, [.int (nI dz), .int (nI dt), .ref d1, .ref d2, .ref d3])), (d1, ai g 6 DK), (d2, ai g 6 DL), (d3, ai g 96 DV)]) hP hD hS hA [] [0, 1, 2, 3, 4] rfl rfl (by decide) (by decide) (va_runSN (As := [.int (nI rs), .int (nI tu)]) (rest := [.ref d3]) ⟨hx, hb, hml, hown, hts⟩ (c_X8_wordAt_g l g rs tu  s.heap.size) ⟨va_cnB 2 hts gX3_acceptsSound_X8_wordAt_n84 rfl rfl rfl (hE.nw 10 rfl) (hts (.initialized RX8) q_X3_acceptsSound_g_8) (by decide +kernel) ⟨Nat.le_of_ble_eq_true rfl, Nat.le_of_ble_eq_true rfl⟩, (hts (.static yX8_wordAt) q_X3_acceptsSound_g_9), trivial⟩ (k_preS hE hZ hP hD hS hA [] rfl (by decide)) rfl rfl hl.1 rfl (lv_room (Nat.le_of_ble_eq_true rfl)) dX3_acceptsSound_53 ⟨Nat.le_of_ble_eq_true rfl, Nat.le_of_ble_eq_true rfl⟩) (fun r_10 w1 H locs hw hP hD hS => ?_)
        obtain ⟨rfl, rfl⟩ := hw
        have hP : va_P g.1 vwCl [(rd, .inr (3, [.ref rt, .int (nI du), .int (nI rs), .int (nI tu), .int (nI pl), .int (nI wl), .int (nI hw)])), (rt, .inr (5, [.int (nI dz), .int (nI dt), .ref d1, .ref d2, .ref d3])), (d1, ai g 6 DK), (d2, ai g 6 DL), (d3, ai g 96 DV)] H := hP
        have hD : va_D A [(rd, .inr (3, [.ref rt, .int (nI du), .int (nI rs), .int (nI tu), .int (nI pl), .int (nI wl), .int (nI hw)])), (rt, .inr (5, [.int (nI dz), .int (nI dt), .ref d1, .ref d2, .ref d3])), (d1, ai g 6 DK), (d2, ai g 6 DL), (d3, ai g 96 DV)] := hD
        refine lv_aload_n hx hb dX3_acceptsSound_56 rfl (lv_at hl 1 rfl) ?_
        refine va_get (D := g.1) (ci := 3) (v := .int (nI pl)) (C := RX3) (T := TX3) (N := 7) hx hb hts q_X3_acceptsSound_g_f3 hown hE.1 hP 0 rfl rfl 4 (by decide) (hts (.fieldLink RX3 78 "SoundLaws$Reader" "place" "I") q_X3_acceptsSound_g_6) (fun _ h9 => h9) rfl dX3_acceptsSound_57 ?_
        refine lv_iadd hx hb dX3_acceptsSound_60 ?_
        refine lv_iload_n hx hb dX3_acceptsSound_61 rfl (lv_at hl 2 rfl) ?_
        refine k_ast (x := p1) (16 * rs + 4 * tu + pl) (nI_add _ _) (by omega) hx hb hE hP hD hS 4 rfl (by decide) dX3_acceptsSound_62 (fun H locs hP hD hS => ?_)
        have hP : va_P g.1 vwCl [(rd, .inr (3, [.ref rt, .int (nI du), .int (nI rs), .int (nI tu), .int (nI pl), .int (nI wl), .int (nI hw)])), (rt, .inr (5, [.int (nI dz), .int (nI dt), .ref d1, .ref d2, .ref d3])), (d1, ai g 6 DK), (d2, ai g 6 DL), (d3, ai g 96 (upd DV (16 * rs + 4 * tu + pl) p1))] H := hP
        have hD : va_D A [(rd, .inr (3, [.ref rt, .int (nI du), .int (nI rs), .int (nI tu), .int (nI pl), .int (nI wl), .int (nI hw)])), (rt, .inr (5, [.int (nI dz), .int (nI dt), .ref d1, .ref d2, .ref d3])), (d1, ai g 6 DK), (d2, ai g 6 DL), (d3, ai g 96 (upd DV (16 * rs + 4 * tu + pl) p1))] := hD
        refine lv_aload_n hx hb dX3_acceptsSound_63 rfl (lv_at hl 1 rfl) ?_
        refine lv_dup hx hb dX3_acceptsSound_64 rfl ?_
        refine va_get (D := g.1) (ci := 3) (v := .int (nI pl)) (C := RX3) (T := TX3) (N := 7) hx hb hts q_X3_acceptsSound_g_f3 hown hE.1 hP 0 rfl rfl 4 (by decide) (hts (.fieldLink RX3 78 "SoundLaws$Reader" "place" "I") q_X3_acceptsSound_g_6) (fun _ h9 => h9) rfl dX3_acceptsSound_65 ?_
        refine lv_iconst (v := 1) hx hb dX3_acceptsSound_68 (by decide) ?_
        refine lv_iadd hx hb dX3_acceptsSound_69 ?_
        refine lv_topi (fun x_12 ex_12 => ?_)
        obtain rfl : x_12 = nI (pl + 1) := by rw [ex_12]; exact nI_1 pl
        refine va_put (D := g.1) (ci := 3) (v := .int (nI (pl + 1))) (ty := .int) (C := RX3) (T := TX3) (N := 7) hx hb hts q_X3_acceptsSound_g_f3 tyX3 tyX3_ok nmX3 hown hE.1 hP hD hS 0 rfl rfl 4 (by decide) (hts (.fieldLink RX3 78 "SoundLaws$Reader" "place" "I") q_X3_acceptsSound_g_6) (fun _ h9 => h9) rfl (by decide +kernel) rfl rfl (Nat.le_of_ble_eq_true rfl) dX3_acceptsSound_70 (fun H locs hP hD hS => ?_)
        have hP : va_P g.1 vwCl [(rd, .inr (3, [.ref rt, .int (nI du), .int (nI rs), .int (nI tu), .int (nI (pl + 1)), .int (nI wl), .int (nI hw)])), (rt, .inr (5, [.int (nI dz), .int (nI dt), .ref d1, .ref d2, .ref d3])), (d1, ai g 6 DK), (d2, ai g 6 DL), (d3, ai g 96 (upd DV (16 * rs + 4 * tu + pl) p1))] H := hP
        have hD : va_D A [(rd, .inr (3, [.ref rt, .int (nI du), .int (nI rs), .int (nI tu), .int (nI (pl + 1)), .int (nI wl), .int (nI hw)])), (rt, .inr (5, [.int (nI dz), .int (nI dt), .ref d1, .ref d2, .ref d3])), (d1, ai g 6 DK), (d2, ai g 6 DL), (d3, ai g 96 (upd DV (16 * rs + 4 * tu + pl) p1))] := hD
        refine lv_iload_n hx hb dX3_acceptsSound_73 rfl (lv_at hl 2 rfl) ?_
        refine lv_if_eq (tgt := 82) hx hb dX3_acceptsSound_74 (by decide) (fun c74_13 => ?_) (fun c74_13 => ?_)
        · skip
          refine lv_iconst (v := 1) hx hb dX3_acceptsSound_82 (by decide) ?_
          refine W.widen (k := 0) (n := 0) (Nat.le_of_ble_eq_true rfl) (Nat.le_of_ble_eq_true rfl) ?_
          exact k_rz hx hb hr hlocks hS hP hD rfl ⟨du, rs, tu, (pl + 1), wl, hw, dz, dt, DK, DL, (upd DV (16 * rs + 4 * tu + pl) p1), rfl, (stp_s (by unfold asd; dsimp only; rw [if_neg c25_8, if_pos ((nI_eq (b := 0) (by omega) (by decide)).mp c4_1), if_pos c33_9, if_pos c74_13]))⟩ dX3_acceptsSound_83
        · skip
          refine lv_aload_n hx hb dX3_acceptsSound_77 rfl (lv_at hl 1 rfl) ?_
          refine lv_iconst (v := 0) hx hb dX3_acceptsSound_78 (by decide) ?_
          refine va_put (D := g.1) (ci := 3) (v := .int 0) (ty := .boolean) (C := RX3) (T := TX3) (N := 7) hx hb hts q_X3_acceptsSound_g_f3 tyX3 tyX3_ok nmX3 hown hE.1 hP hD hS 0 rfl rfl 5 (by decide) (hts (.fieldLink RX3 88 "SoundLaws$Reader" "wordIsSilent" "Z") q_X3_acceptsSound_g_10) (fun _ h9 => h9) rfl (by decide +kernel) rfl rfl (Nat.le_of_ble_eq_true rfl) dX3_acceptsSound_79 (fun H locs hP hD hS => ?_)
          have hP : va_P g.1 vwCl [(rd, .inr (3, [.ref rt, .int (nI du), .int (nI rs), .int (nI tu), .int (nI (pl + 1)), .int 0, .int (nI hw)])), (rt, .inr (5, [.int (nI dz), .int (nI dt), .ref d1, .ref d2, .ref d3])), (d1, ai g 6 DK), (d2, ai g 6 DL), (d3, ai g 96 (upd DV (16 * rs + 4 * tu + pl) p1))] H := hP
          have hD : va_D A [(rd, .inr (3, [.ref rt, .int (nI du), .int (nI rs), .int (nI tu), .int (nI (pl + 1)), .int 0, .int (nI hw)])), (rt, .inr (5, [.int (nI dz), .int (nI dt), .ref d1, .ref d2, .ref d3])), (d1, ai g 6 DK), (d2, ai g 6 DL), (d3, ai g 96 (upd DV (16 * rs + 4 * tu + pl) p1))] := hD
          refine lv_iconst (v := 1) hx hb dX3_acceptsSound_82 (by decide) ?_
          refine W.widen (k := 0) (n := 0) (Nat.le_of_ble_eq_true rfl) (Nat.le_of_ble_eq_true rfl) ?_
          exact k_rz hx hb hr hlocks hS hP hD rfl ⟨du, rs, tu, (pl + 1), 0, hw, dz, dt, DK, DL, (upd DV (16 * rs + 4 * tu + pl) p1), rfl, (stp_s (by unfold asd; dsimp only; rw [if_neg c25_8, if_pos ((nI_eq (b := 0) (by omega) (by decide)).mp c4_1), if_pos c33_9, if_neg c74_13]))⟩ dX3_acceptsSound_83
      · skip
        refine lv_iconst (v := 0) hx hb dX3_acceptsSound_36 (by decide) ?_
        refine W.widen (k := 0) (n := 0) (Nat.le_of_ble_eq_true rfl) (Nat.le_of_ble_eq_true rfl) ?_
        exact k_rz hx hb hr hlocks hS hP hD rfl ⟨du, rs, tu, pl, wl, hw, dz, dt, DK, DL, DV, rfl, (stp_n (by unfold asd; dsimp only; rw [if_neg c25_8, if_pos ((nI_eq (b := 0) (by omega) (by decide)).mp c4_1), if_neg c33_9]))⟩ dX3_acceptsSound_37
def po_X3_endsWord_g (g : GG) (rd : Nat) (rt : Nat) (d1 : Nat) (d2 : Nat) (d3 : Nat) (du : Nat) (rs : Nat) (tu : Nat) (pl : Nat) (wl : Nat) (hw : Nat) (dz : Nat) (dt : Nat) (DK : Nat → Int32) (DL : Nat → Int32) (DV : Nat → Int32) : Int32 → va_W → Prop := fun (r : Int32) w => ∃ (du2 : Nat) (rs2 : Nat) (tu2 : Nat) (pl2 : Nat) (wl2 : Nat) (hw2 : Nat) (dz2 : Nat) (dt2 : Nat) (DK2 : Nat → Int32) (DL2 : Nat → Int32) (DV2 : Nat → Int32), w = [(rd, .inr (3, [.ref rt, .int (nI du2), .int (nI rs2), .int (nI tu2), .int (nI pl2), .int (nI wl2), .int (nI hw2)])), (rt, .inr (5, [.int (nI dz2), .int (nI dt2), .ref d1, .ref d2, .ref d3])), (d1, ai g 6 DK2), (d2, ai g 6 DL2), (d3, ai g 96 DV2)] ∧ (stp r (ewd (du, rs, tu, pl, wl, hw, dz, dt, DK, DL, DV)) (du, rs, tu, pl, wl, hw, dz, dt, DK, DL, DV) (du2, rs2, tu2, pl2, wl2, hw2, dz2, dt2, DK2, DL2, DV2))
theorem q_X3_endsWord_g_f3 : ∀ w ∈ u_ws RX3 TX3 7, w ∈ wsX3_endsWord := by decide +kernel
theorem q_X3_endsWord_g_1 : (Cond.fieldLink RX3 12 "SoundLaws$Reader" "draft" "LSoundLaws$Stock;") ∈ wsX3_endsWord := by decide +kernel
theorem q_X3_endsWord_g_f5 : ∀ w ∈ u_ws RX5 TX5 5, w ∈ wsX3_endsWord := by decide +kernel
theorem q_X3_endsWord_g_3 : (Cond.fieldLink RX3 22 "SoundLaws$Stock" "tongues" "I") ∈ wsX3_endsWord := by decide +kernel
theorem q_X3_endsWord_g_4 : (Cond.fieldLink RX3 62 "SoundLaws$Reader" "tongue" "I") ∈ wsX3_endsWord := by decide +kernel
set_option maxHeartbeats 1500000 in
set_option maxRecDepth 100000 in
theorem c_X3_endsWord_g (l : Launch) (g : GG) (rd : Nat) (rt : Nat) (d1 : Nat) (d2 : Nat) (d3 : Nat) (du : Nat) (rs : Nat) (tu : Nat) (pl : Nat) (wl : Nat) (hw : Nat) (dz : Nat) (dt : Nat) (DK : Nat → Int32) (DL : Nat → Int32) (DV : Nat → Int32) (hdu : du < 2) (hrs : rs < 5) (htu : tu < 4) (hpl : pl ≤ 4) (hwl : wl < 2) (hhw : hw < 2) (hdz : dz ≤ 5) (hdt : dt ≤ 4) (sz : Nat) : MetI l yX3_endsWord wsX3_endsWord ({ frames := 1, cells := 0, slots := 0, locals := 20 }) g [.ref rd] [(rd, .inr (3, [.ref rt, .int (nI du), .int (nI rs), .int (nI tu), .int (nI pl), .int (nI wl), .int (nI hw)])), (rt, .inr (5, [.int (nI dz), .int (nI dt), .ref d1, .ref d2, .ref d3])), (d1, ai g 6 DK), (d2, ai g 6 DL), (d3, ai g 96 DV)] sz (po_X3_endsWord_g g rd rt d1 d2 d3 du rs tu pl wl hw dz dt DK DL DV) 0 0 := by
  refine k_of (l := l) (y := yX3_endsWord) (ws := wsX3_endsWord) (rm := { frames := 1, cells := 0, slots := 0, locals := 20 }) (mc := 0) (ms := 0) (av := [.ref rd]) (g := g) (wc := [(rd, .inr (3, [.ref rt, .int (nI du), .int (nI rs), .int (nI tu), .int (nI pl), .int (nI wl), .int (nI hw)])), (rt, .inr (5, [.int (nI dz), .int (nI dt), .ref d1, .ref d2, .ref d3])), (d1, ai g 6 DK), (d2, ai g 6 DL), (d3, ai g 96 DV)]) (Qc := fun A => va_Qi (po_X3_endsWord_g g rd rt d1 d2 d3 du rs tu pl wl hw dz dt DK DL DV) (bk g A) A) (cc := cX3_endsWord) (maxL := 2) (ret := (some .boolean)) (by decide) rfl (Nat.le_of_ble_eq_true rfl) ?_ sz
  intro p e s m below meth c hx hb hr hts hown hlocks hnm hml A hA hE hZ hP hD hS ls hl
  have hown : s.vm.findClass RX3 = some m.cls := hown
  have hl : lv_has ls 2 [(0, .ref rd)] := hl
  refine lv_aload_n hx hb dX3_endsWord_0 rfl (lv_at hl 0 rfl) ?_
  refine va_get (D := g.1) (ci := 3) (v := .ref rt) (C := RX3) (T := TX3) (N := 7) hx hb hts q_X3_endsWord_g_f3 hown hE.1 hP 0 rfl rfl 0 (by decide) (hts (.fieldLink RX3 12 "SoundLaws$Reader" "draft" "LSoundLaws$Stock;") q_X3_endsWord_g_1) (fun _ h9 => h9) rfl dX3_endsWord_1 ?_
  refine va_get (D := g.1) (ci := 5) (v := .int (nI dt)) (C := RX5) (T := TX5) (N := 5) hx hb hts q_X3_endsWord_g_f5 hown hE.1 hP 1 rfl rfl 1 (by decide) (hts (.fieldLink RX3 22 "SoundLaws$Stock" "tongues" "I") q_X3_endsWord_g_3) (fun _ h9 => h9) rfl dX3_endsWord_4 ?_
  refine lv_if_ne (tgt := 14) hx hb dX3_endsWord_7 (by decide) (fun c7_1 => ?_) (fun c7_1 => ?_)
  · skip
    refine lv_aload_n hx hb dX3_endsWord_14 rfl (lv_at hl 0 rfl) ?_
    refine va_get (D := g.1) (ci := 3) (v := .ref rt) (C := RX3) (T := TX3) (N := 7) hx hb hts q_X3_endsWord_g_f3 hown hE.1 hP 0 rfl rfl 0 (by decide) (hts (.fieldLink RX3 12 "SoundLaws$Reader" "draft" "LSoundLaws$Stock;") q_X3_endsWord_g_1) (fun _ h9 => h9) rfl dX3_endsWord_15 ?_
    refine va_get (D := g.1) (ci := 5) (v := .int (nI dt)) (C := RX5) (T := TX5) (N := 5) hx hb hts q_X3_endsWord_g_f5 hown hE.1 hP 1 rfl rfl 1 (by decide) (hts (.fieldLink RX3 22 "SoundLaws$Stock" "tongues" "I") q_X3_endsWord_g_3) (fun _ h9 => h9) rfl dX3_endsWord_18 ?_
    refine lv_istore_n (lv' := [(1, .int (nI dt)), (0, .ref rd)]) hx hb dX3_endsWord_21 rfl hl (by decide) rfl (fun ls hl => ?_)
    refine lv_aload_n hx hb dX3_endsWord_22 rfl (lv_at hl 1 rfl) ?_
    refine k_ci (wr := [(d1, ai g 6 DK), (d3, ai g 96 DV)]) hP hD hS hA [0, 1, 3] [2, 4] rfl rfl (by decide) (by decide) (va_runV (As := []) (rest := []) ⟨hx, hb, hml, hown, hts⟩ (c_X3_wordIsWhole_g l g rd rt d1 d2 d3 du rs tu pl wl hw dz dt DL (by first | assumption | omega) (by first | assumption | omega) (by first | assumption | omega) s.heap.size) (cwV 0 hts gX3_endsWord_X3_wordIsWhole rfl rfl rfl (by decide +kernel) ⟨Nat.le_of_ble_eq_true rfl, Nat.le_of_ble_eq_true rfl⟩) (k_preV hE hZ hP hD hS hA [0, 1, 3] rfl (by decide) (va_recv hE.1 hP (ci := 3) (q0 := 0) rfl rfl)) rfl rfl hl.1 rfl (lv_room (Nat.le_of_ble_eq_true rfl)) dX3_endsWord_23 ⟨Nat.le_of_ble_eq_true rfl, Nat.le_of_ble_eq_true rfl⟩) (fun r_2 w1 H locs hw hP hD hS => ?_)
    obtain ⟨rfl, rfl⟩ := hw
    have hP : va_P g.1 vwCl [(d1, ai g 6 DK), (d3, ai g 96 DV), (rd, .inr (3, [.ref rt, .int (nI du), .int (nI rs), .int (nI tu), .int (nI pl), .int (nI wl), .int (nI hw)])), (rt, .inr (5, [.int (nI dz), .int (nI dt), .ref d1, .ref d2, .ref d3])), (d2, ai g 6 DL)] H := hP
    have hD : va_D A [(d1, ai g 6 DK), (d3, ai g 96 DV), (rd, .inr (3, [.ref rt, .int (nI du), .int (nI rs), .int (nI tu), .int (nI pl), .int (nI wl), .int (nI hw)])), (rt, .inr (5, [.int (nI dz), .int (nI dt), .ref d1, .ref d2, .ref d3])), (d2, ai g 6 DL)] := hD
    refine lv_if_eq (tgt := 39) hx hb dX3_endsWord_26 (by decide) (fun c26_4 => ?_) (fun c26_4 => ?_)
    · skip
      refine lv_iconst (v := 0) hx hb dX3_endsWord_39 (by decide) ?_
      refine W.widen (k := 0) (n := 0) (Nat.le_of_ble_eq_true rfl) (Nat.le_of_ble_eq_true rfl) ?_
      have hP9 := hP.sub (ws' := [(rd, .inr (3, [.ref rt, .int (nI du), .int (nI rs), .int (nI tu), .int (nI pl), .int (nI wl), .int (nI hw)])), (rt, .inr (5, [.int (nI dz), .int (nI dt), .ref d1, .ref d2, .ref d3])), (d1, ai g 6 DK), (d2, ai g 6 DL), (d3, ai g 96 DV)]) [2, 3, 0, 4, 1] rfl
      have hD9 := hD.sub (ws' := [(rd, .inr (3, [.ref rt, .int (nI du), .int (nI rs), .int (nI tu), .int (nI pl), .int (nI wl), .int (nI hw)])), (rt, .inr (5, [.int (nI dz), .int (nI dt), .ref d1, .ref d2, .ref d3])), (d1, ai g 6 DK), (d2, ai g 6 DL), (d3, ai g 96 DV)]) [2, 3, 0, 4, 1] (by decide) rfl
      exact k_rz hx hb hr hlocks hS hP9 hD9 rfl ⟨du, rs, tu, pl, wl, hw, dz, dt, DK, DL, DV, rfl, (stp_n (if_pos c26_4))⟩ dX3_endsWord_40
    · skip
      refine lv_aload_n hx hb dX3_endsWord_29 rfl (lv_at hl 1 rfl) ?_
      refine va_get (D := g.1) (ci := 3) (v := .int (nI tu)) (C := RX3) (T := TX3) (N := 7) hx hb hts q_X3_endsWord_g_f3 hown hE.1 hP 2 rfl rfl 3 (by decide) (hts (.fieldLink RX3 62 "SoundLaws$Reader" "tongue" "I") q_X3_endsWord_g_4) (fun _ h9 => h9) rfl dX3_endsWord_30 ?_
      refine lv_iconst (v := 1) hx hb dX3_endsWord_33 (by decide) ?_
      refine lv_iadd hx hb dX3_endsWord_34 ?_
      refine lv_topi (fun x_5 ex_5 => ?_)
      obtain rfl : x_5 = nI (tu + 1) := by rw [ex_5]; exact nI_1 tu
      refine lv_iload_n hx hb dX3_endsWord_35 rfl (lv_at hl 0 rfl) ?_
      refine lv_icmp_lt (tgt := 41) hx hb dX3_endsWord_36 (by decide) (fun c36_6 => ?_) (fun c36_6 => ?_)
      · skip
        refine lv_aload_n hx hb dX3_endsWord_41 rfl (lv_at hl 1 rfl) ?_
        refine k_cv (wr := [(d1, ai g 6 DK), (d3, ai g 96 DV)]) hP hD hS hA [2, 3, 4] [0, 1] rfl rfl (by decide) (by decide) (va_runV (As := []) (rest := []) ⟨hx, hb, hml, hown, hts⟩ (c_X3_closeWord_g l g rd rt d1 d2 d3 du rs tu pl wl hw dz dt DL (by first | assumption | omega) (by first | assumption | omega) H.size) (cwV 0 hts gX3_endsWord_X3_closeWord rfl rfl rfl (by decide +kernel) ⟨Nat.le_of_ble_eq_true rfl, Nat.le_of_ble_eq_true rfl⟩) (k_preV hE hZ hP hD hS hA [2, 3, 4] rfl (by decide) (va_recv hE.1 hP (ci := 3) (q0 := 2) rfl rfl)) rfl rfl hl.1 rfl (lv_room (Nat.le_of_ble_eq_true rfl)) dX3_endsWord_42 ⟨Nat.le_of_ble_eq_true rfl, Nat.le_of_ble_eq_true rfl⟩) (fun w1 H locs hw hP hD hS => ?_)
        obtain ⟨hw2_8, rfl, hh_9⟩ := hw
        have hP : va_P g.1 vwCl [(d1, ai g 6 DK), (d3, ai g 96 DV), (rd, .inr (3, [.ref rt, .int (nI du), .int (nI rs), .int (nI tu), .int (nI pl), .int (nI wl), .int (nI hw2_8)])), (rt, .inr (5, [.int (nI dz), .int (nI dt), .ref d1, .ref d2, .ref d3])), (d2, ai g 6 (upd DL rs (nI pl)))] H := hP
        have hD : va_D A [(d1, ai g 6 DK), (d3, ai g 96 DV), (rd, .inr (3, [.ref rt, .int (nI du), .int (nI rs), .int (nI tu), .int (nI pl), .int (nI wl), .int (nI hw2_8)])), (rt, .inr (5, [.int (nI dz), .int (nI dt), .ref d1, .ref d2, .ref d3])), (d2, ai g 6 (upd DL rs (nI pl)))] := hD
        refine lv_aload_n hx hb dX3_endsWord_45 rfl (lv_at hl 1 rfl) ?_
        refine lv_dup hx hb dX3_endsWord_46 rfl ?_
        refine va_get (D := g.1) (ci := 3) (v := .int (nI tu)) (C := RX3) (T := TX3) (N := 7) hx hb hts q_X3_endsWord_g_f3 hown hE.1 hP 2 rfl rfl 3 (by decide) (hts (.fieldLink RX3 62 "SoundLaws$Reader" "tongue" "I") q_X3_endsWord_g_4) (fun _ h9 => h9) rfl dX3_endsWord_47 ?_
        refine lv_iconst (v := 1) hx hb dX3_endsWord_50 (by decide) ?_
        refine lv_iadd hx hb dX3_endsWord_51 ?_
        refine lv_topi (fun x_10 ex_10 => ?_)
        obtain rfl : x_10 = nI (tu + 1) := by rw [ex_10]; exact nI_1 tu
        refine va_put (D := g.1) (ci := 3) (v := .int (nI (tu + 1))) (ty := .int) (C := RX3) (T := TX3) (N := 7) hx hb hts q_X3_endsWord_g_f3 tyX3 tyX3_ok nmX3 hown hE.1 hP hD hS 2 rfl rfl 3 (by decide) (hts (.fieldLink RX3 62 "SoundLaws$Reader" "tongue" "I") q_X3_endsWord_g_4) (fun _ h9 => h9) rfl (by decide +kernel) rfl rfl (Nat.le_of_ble_eq_true rfl) dX3_endsWord_52 (fun H locs hP hD hS => ?_)
        have hP : va_P g.1 vwCl [(d1, ai g 6 DK), (d3, ai g 96 DV), (rd, .inr (3, [.ref rt, .int (nI du), .int (nI rs), .int (nI (tu + 1)), .int (nI pl), .int (nI wl), .int (nI hw2_8)])), (rt, .inr (5, [.int (nI dz), .int (nI dt), .ref d1, .ref d2, .ref d3])), (d2, ai g 6 (upd DL rs (nI pl)))] H := hP
        have hD : va_D A [(d1, ai g 6 DK), (d3, ai g 96 DV), (rd, .inr (3, [.ref rt, .int (nI du), .int (nI rs), .int (nI (tu + 1)), .int (nI pl), .int (nI wl), .int (nI hw2_8)])), (rt, .inr (5, [.int (nI dz), .int (nI dt), .ref d1, .ref d2, .ref d3])), (d2, ai g 6 (upd DL rs (nI pl)))] := hD
        refine lv_aload_n hx hb dX3_endsWord_55 rfl (lv_at hl 1 rfl) ?_
        refine k_cv (wr := [(d1, ai g 6 DK), (d3, ai g 96 DV), (rt, .inr (5, [.int (nI dz), .int (nI dt), .ref d1, .ref d2, .ref d3])), (d2, ai g 6 (upd DL rs (nI pl)))]) hP hD hS hA [2] [0, 1, 3, 4] rfl rfl (by decide) (by decide) (va_runV (As := []) (rest := []) ⟨hx, hb, hml, hown, hts⟩ (c_X3_openWord_g l g rd rt du rs (tu + 1) pl wl hw2_8  H.size) (cwV 0 hts gX3_endsWord_X3_openWord rfl rfl rfl (by decide +kernel) ⟨Nat.le_of_ble_eq_true rfl, Nat.le_of_ble_eq_true rfl⟩) (k_preV hE hZ hP hD hS hA [2] rfl (by decide) (va_recv hE.1 hP (ci := 3) (q0 := 2) rfl rfl)) rfl rfl hl.1 rfl (lv_room (Nat.le_of_ble_eq_true rfl)) dX3_endsWord_56 ⟨Nat.le_of_ble_eq_true rfl, Nat.le_of_ble_eq_true rfl⟩) (fun w1 H locs hw hP hD hS => ?_)
        obtain rfl := hw
        have hP : va_P g.1 vwCl [(d1, ai g 6 DK), (d3, ai g 96 DV), (rt, .inr (5, [.int (nI dz), .int (nI dt), .ref d1, .ref d2, .ref d3])), (d2, ai g 6 (upd DL rs (nI pl))), (rd, .inr (3, [.ref rt, .int (nI du), .int (nI rs), .int (nI (tu + 1)), .int 0, .int 1, .int (nI hw2_8)]))] H := hP
        have hD : va_D A [(d1, ai g 6 DK), (d3, ai g 96 DV), (rt, .inr (5, [.int (nI dz), .int (nI dt), .ref d1, .ref d2, .ref d3])), (d2, ai g 6 (upd DL rs (nI pl))), (rd, .inr (3, [.ref rt, .int (nI du), .int (nI rs), .int (nI (tu + 1)), .int 0, .int 1, .int (nI hw2_8)]))] := hD
        refine lv_iconst (v := 1) hx hb dX3_endsWord_59 (by decide) ?_
        refine W.widen (k := 0) (n := 0) (Nat.le_of_ble_eq_true rfl) (Nat.le_of_ble_eq_true rfl) ?_
        have hP9 := hP.sub (ws' := [(rd, .inr (3, [.ref rt, .int (nI du), .int (nI rs), .int (nI (tu + 1)), .int 0, .int 1, .int (nI hw2_8)])), (rt, .inr (5, [.int (nI dz), .int (nI dt), .ref d1, .ref d2, .ref d3])), (d1, ai g 6 DK), (d2, ai g 6 (upd DL rs (nI pl))), (d3, ai g 96 DV)]) [4, 2, 0, 3, 1] rfl
        have hD9 := hD.sub (ws' := [(rd, .inr (3, [.ref rt, .int (nI du), .int (nI rs), .int (nI (tu + 1)), .int 0, .int 1, .int (nI hw2_8)])), (rt, .inr (5, [.int (nI dz), .int (nI dt), .ref d1, .ref d2, .ref d3])), (d1, ai g 6 DK), (d2, ai g 6 (upd DL rs (nI pl))), (d3, ai g 96 DV)]) [4, 2, 0, 3, 1] (by decide) rfl
        exact k_rz hx hb hr hlocks hS hP9 hD9 rfl ⟨du, rs, (tu + 1), 0, 1, hw2_8, dz, dt, DK, (upd DL rs (nI pl)), DV, rfl, (stp_s (by unfold ewd; dsimp only; rw [if_neg c26_4, if_neg (show ¬ dt = 0 from fun q => c7_1 (by rw [q]; rfl)), if_pos ((nI_ltI (b := dt) (by omega) (by omega)).mp c36_6), hh_9]))⟩ dX3_endsWord_60
      · skip
        refine lv_iconst (v := 0) hx hb dX3_endsWord_39 (by decide) ?_
        refine W.widen (k := 0) (n := 0) (Nat.le_of_ble_eq_true rfl) (Nat.le_of_ble_eq_true rfl) ?_
        have hP9 := hP.sub (ws' := [(rd, .inr (3, [.ref rt, .int (nI du), .int (nI rs), .int (nI tu), .int (nI pl), .int (nI wl), .int (nI hw)])), (rt, .inr (5, [.int (nI dz), .int (nI dt), .ref d1, .ref d2, .ref d3])), (d1, ai g 6 DK), (d2, ai g 6 DL), (d3, ai g 96 DV)]) [2, 3, 0, 4, 1] rfl
        have hD9 := hD.sub (ws' := [(rd, .inr (3, [.ref rt, .int (nI du), .int (nI rs), .int (nI tu), .int (nI pl), .int (nI wl), .int (nI hw)])), (rt, .inr (5, [.int (nI dz), .int (nI dt), .ref d1, .ref d2, .ref d3])), (d1, ai g 6 DK), (d2, ai g 6 DL), (d3, ai g 96 DV)]) [2, 3, 0, 4, 1] (by decide) rfl
        exact k_rz hx hb hr hlocks hS hP9 hD9 rfl ⟨du, rs, tu, pl, wl, hw, dz, dt, DK, DL, DV, rfl, (stp_n (by unfold ewd; dsimp only; rw [if_neg c26_4, if_neg (show ¬ dt = 0 from fun q => c7_1 (by rw [q]; rfl)), if_neg (show ¬ tu + 1 < dt from fun q => c36_6 (nI_lt (b := dt) q (by omega)))]))⟩ dX3_endsWord_40
  · skip
    refine lv_iconst (v := 4) hx hb dX3_endsWord_10 (by decide) ?_
    refine lv_goto (tgt := 21) hx hb dX3_endsWord_11 (by decide) ?_
    refine lv_istore_n (lv' := [(1, .int 4), (0, .ref rd)]) hx hb dX3_endsWord_21 rfl hl (by decide) rfl (fun ls hl => ?_)
    refine lv_aload_n hx hb dX3_endsWord_22 rfl (lv_at hl 1 rfl) ?_
    refine k_ci (wr := [(d1, ai g 6 DK), (d3, ai g 96 DV)]) hP hD hS hA [0, 1, 3] [2, 4] rfl rfl (by decide) (by decide) (va_runV (As := []) (rest := []) ⟨hx, hb, hml, hown, hts⟩ (c_X3_wordIsWhole_g l g rd rt d1 d2 d3 du rs tu pl wl hw dz dt DL (by first | assumption | omega) (by first | assumption | omega) (by first | assumption | omega) s.heap.size) (cwV 0 hts gX3_endsWord_X3_wordIsWhole rfl rfl rfl (by decide +kernel) ⟨Nat.le_of_ble_eq_true rfl, Nat.le_of_ble_eq_true rfl⟩) (k_preV hE hZ hP hD hS hA [0, 1, 3] rfl (by decide) (va_recv hE.1 hP (ci := 3) (q0 := 0) rfl rfl)) rfl rfl hl.1 rfl (lv_room (Nat.le_of_ble_eq_true rfl)) dX3_endsWord_23 ⟨Nat.le_of_ble_eq_true rfl, Nat.le_of_ble_eq_true rfl⟩) (fun r_12 w1 H locs hw hP hD hS => ?_)
    obtain ⟨rfl, rfl⟩ := hw
    have hP : va_P g.1 vwCl [(d1, ai g 6 DK), (d3, ai g 96 DV), (rd, .inr (3, [.ref rt, .int (nI du), .int (nI rs), .int (nI tu), .int (nI pl), .int (nI wl), .int (nI hw)])), (rt, .inr (5, [.int (nI dz), .int (nI dt), .ref d1, .ref d2, .ref d3])), (d2, ai g 6 DL)] H := hP
    have hD : va_D A [(d1, ai g 6 DK), (d3, ai g 96 DV), (rd, .inr (3, [.ref rt, .int (nI du), .int (nI rs), .int (nI tu), .int (nI pl), .int (nI wl), .int (nI hw)])), (rt, .inr (5, [.int (nI dz), .int (nI dt), .ref d1, .ref d2, .ref d3])), (d2, ai g 6 DL)] := hD
    refine lv_if_eq (tgt := 39) hx hb dX3_endsWord_26 (by decide) (fun c26_14 => ?_) (fun c26_14 => ?_)
    · skip
      refine lv_iconst (v := 0) hx hb dX3_endsWord_39 (by decide) ?_
      refine W.widen (k := 0) (n := 0) (Nat.le_of_ble_eq_true rfl) (Nat.le_of_ble_eq_true rfl) ?_
      have hP9 := hP.sub (ws' := [(rd, .inr (3, [.ref rt, .int (nI du), .int (nI rs), .int (nI tu), .int (nI pl), .int (nI wl), .int (nI hw)])), (rt, .inr (5, [.int (nI dz), .int (nI dt), .ref d1, .ref d2, .ref d3])), (d1, ai g 6 DK), (d2, ai g 6 DL), (d3, ai g 96 DV)]) [2, 3, 0, 4, 1] rfl
      have hD9 := hD.sub (ws' := [(rd, .inr (3, [.ref rt, .int (nI du), .int (nI rs), .int (nI tu), .int (nI pl), .int (nI wl), .int (nI hw)])), (rt, .inr (5, [.int (nI dz), .int (nI dt), .ref d1, .ref d2, .ref d3])), (d1, ai g 6 DK), (d2, ai g 6 DL), (d3, ai g 96 DV)]) [2, 3, 0, 4, 1] (by decide) rfl
      exact k_rz hx hb hr hlocks hS hP9 hD9 rfl ⟨du, rs, tu, pl, wl, hw, dz, dt, DK, DL, DV, rfl, (stp_n (if_pos c26_14))⟩ dX3_endsWord_40
    · skip
      refine lv_aload_n hx hb dX3_endsWord_29 rfl (lv_at hl 1 rfl) ?_
      refine va_get (D := g.1) (ci := 3) (v := .int (nI tu)) (C := RX3) (T := TX3) (N := 7) hx hb hts q_X3_endsWord_g_f3 hown hE.1 hP 2 rfl rfl 3 (by decide) (hts (.fieldLink RX3 62 "SoundLaws$Reader" "tongue" "I") q_X3_endsWord_g_4) (fun _ h9 => h9) rfl dX3_endsWord_30 ?_
      refine lv_iconst (v := 1) hx hb dX3_endsWord_33 (by decide) ?_
      refine lv_iadd hx hb dX3_endsWord_34 ?_
      refine lv_topi (fun x_15 ex_15 => ?_)
      obtain rfl : x_15 = nI (tu + 1) := by rw [ex_15]; exact nI_1 tu
      refine lv_iload_n hx hb dX3_endsWord_35 rfl (lv_at hl 0 rfl) ?_
      refine lv_icmp_lt (tgt := 41) hx hb dX3_endsWord_36 (by decide) (fun c36_16 => ?_) (fun c36_16 => ?_)
      · skip
        refine lv_aload_n hx hb dX3_endsWord_41 rfl (lv_at hl 1 rfl) ?_
        refine k_cv (wr := [(d1, ai g 6 DK), (d3, ai g 96 DV)]) hP hD hS hA [2, 3, 4] [0, 1] rfl rfl (by decide) (by decide) (va_runV (As := []) (rest := []) ⟨hx, hb, hml, hown, hts⟩ (c_X3_closeWord_g l g rd rt d1 d2 d3 du rs tu pl wl hw dz dt DL (by first | assumption | omega) (by first | assumption | omega) H.size) (cwV 0 hts gX3_endsWord_X3_closeWord rfl rfl rfl (by decide +kernel) ⟨Nat.le_of_ble_eq_true rfl, Nat.le_of_ble_eq_true rfl⟩) (k_preV hE hZ hP hD hS hA [2, 3, 4] rfl (by decide) (va_recv hE.1 hP (ci := 3) (q0 := 2) rfl rfl)) rfl rfl hl.1 rfl (lv_room (Nat.le_of_ble_eq_true rfl)) dX3_endsWord_42 ⟨Nat.le_of_ble_eq_true rfl, Nat.le_of_ble_eq_true rfl⟩) (fun w1 H locs hw hP hD hS => ?_)
        obtain ⟨hw2_18, rfl, hh_19⟩ := hw
        have hP : va_P g.1 vwCl [(d1, ai g 6 DK), (d3, ai g 96 DV), (rd, .inr (3, [.ref rt, .int (nI du), .int (nI rs), .int (nI tu), .int (nI pl), .int (nI wl), .int (nI hw2_18)])), (rt, .inr (5, [.int (nI dz), .int (nI dt), .ref d1, .ref d2, .ref d3])), (d2, ai g 6 (upd DL rs (nI pl)))] H := hP
        have hD : va_D A [(d1, ai g 6 DK), (d3, ai g 96 DV), (rd, .inr (3, [.ref rt, .int (nI du), .int (nI rs), .int (nI tu), .int (nI pl), .int (nI wl), .int (nI hw2_18)])), (rt, .inr (5, [.int (nI dz), .int (nI dt), .ref d1, .ref d2, .ref d3])), (d2, ai g 6 (upd DL rs (nI pl)))] := hD
        refine lv_aload_n hx hb dX3_endsWord_45 rfl (lv_at hl 1 rfl) ?_
        refine lv_dup hx hb dX3_endsWord_46 rfl ?_
        refine va_get (D := g.1) (ci := 3) (v := .int (nI tu)) (C := RX3) (T := TX3) (N := 7) hx hb hts q_X3_endsWord_g_f3 hown hE.1 hP 2 rfl rfl 3 (by decide) (hts (.fieldLink RX3 62 "SoundLaws$Reader" "tongue" "I") q_X3_endsWord_g_4) (fun _ h9 => h9) rfl dX3_endsWord_47 ?_
        refine lv_iconst (v := 1) hx hb dX3_endsWord_50 (by decide) ?_
        refine lv_iadd hx hb dX3_endsWord_51 ?_
        refine lv_topi (fun x_20 ex_20 => ?_)
        obtain rfl : x_20 = nI (tu + 1) := by rw [ex_20]; exact nI_1 tu
        refine va_put (D := g.1) (ci := 3) (v := .int (nI (tu + 1))) (ty := .int) (C := RX3) (T := TX3) (N := 7) hx hb hts q_X3_endsWord_g_f3 tyX3 tyX3_ok nmX3 hown hE.1 hP hD hS 2 rfl rfl 3 (by decide) (hts (.fieldLink RX3 62 "SoundLaws$Reader" "tongue" "I") q_X3_endsWord_g_4) (fun _ h9 => h9) rfl (by decide +kernel) rfl rfl (Nat.le_of_ble_eq_true rfl) dX3_endsWord_52 (fun H locs hP hD hS => ?_)
        have hP : va_P g.1 vwCl [(d1, ai g 6 DK), (d3, ai g 96 DV), (rd, .inr (3, [.ref rt, .int (nI du), .int (nI rs), .int (nI (tu + 1)), .int (nI pl), .int (nI wl), .int (nI hw2_18)])), (rt, .inr (5, [.int (nI dz), .int (nI dt), .ref d1, .ref d2, .ref d3])), (d2, ai g 6 (upd DL rs (nI pl)))] H := hP
        have hD : va_D A [(d1, ai g 6 DK), (d3, ai g 96 DV), (rd, .inr (3, [.ref rt, .int (nI du), .int (nI rs), .int (nI (tu + 1)), .int (nI pl), .int (nI wl), .int (nI hw2_18)])), (rt, .inr (5, [.int (nI dz), .int (nI dt), .ref d1, .ref d2, .ref d3])), (d2, ai g 6 (upd DL rs (nI pl)))] := hD
        refine lv_aload_n hx hb dX3_endsWord_55 rfl (lv_at hl 1 rfl) ?_
        refine k_cv (wr := [(d1, ai g 6 DK), (d3, ai g 96 DV), (rt, .inr (5, [.int (nI dz), .int (nI dt), .ref d1, .ref d2, .ref d3])), (d2, ai g 6 (upd DL rs (nI pl)))]) hP hD hS hA [2] [0, 1, 3, 4] rfl rfl (by decide) (by decide) (va_runV (As := []) (rest := []) ⟨hx, hb, hml, hown, hts⟩ (c_X3_openWord_g l g rd rt du rs (tu + 1) pl wl hw2_18  H.size) (cwV 0 hts gX3_endsWord_X3_openWord rfl rfl rfl (by decide +kernel) ⟨Nat.le_of_ble_eq_true rfl, Nat.le_of_ble_eq_true rfl⟩) (k_preV hE hZ hP hD hS hA [2] rfl (by decide) (va_recv hE.1 hP (ci := 3) (q0 := 2) rfl rfl)) rfl rfl hl.1 rfl (lv_room (Nat.le_of_ble_eq_true rfl)) dX3_endsWord_56 ⟨Nat.le_of_ble_eq_true rfl, Nat.le_of_ble_eq_true rfl⟩) (fun w1 H locs hw hP hD hS => ?_)
        obtain rfl := hw
        have hP : va_P g.1 vwCl [(d1, ai g 6 DK), (d3, ai g 96 DV), (rt, .inr (5, [.int (nI dz), .int (nI dt), .ref d1, .ref d2, .ref d3])), (d2, ai g 6 (upd DL rs (nI pl))), (rd, .inr (3, [.ref rt, .int (nI du), .int (nI rs), .int (nI (tu + 1)), .int 0, .int 1, .int (nI hw2_18)]))] H := hP
        have hD : va_D A [(d1, ai g 6 DK), (d3, ai g 96 DV), (rt, .inr (5, [.int (nI dz), .int (nI dt), .ref d1, .ref d2, .ref d3])), (d2, ai g 6 (upd DL rs (nI pl))), (rd, .inr (3, [.ref rt, .int (nI du), .int (nI rs), .int (nI (tu + 1)), .int 0, .int 1, .int (nI hw2_18)]))] := hD
        refine lv_iconst (v := 1) hx hb dX3_endsWord_59 (by decide) ?_
        refine W.widen (k := 0) (n := 0) (Nat.le_of_ble_eq_true rfl) (Nat.le_of_ble_eq_true rfl) ?_
        have hP9 := hP.sub (ws' := [(rd, .inr (3, [.ref rt, .int (nI du), .int (nI rs), .int (nI (tu + 1)), .int 0, .int 1, .int (nI hw2_18)])), (rt, .inr (5, [.int (nI dz), .int (nI dt), .ref d1, .ref d2, .ref d3])), (d1, ai g 6 DK), (d2, ai g 6 (upd DL rs (nI pl))), (d3, ai g 96 DV)]) [4, 2, 0, 3, 1] rfl
        have hD9 := hD.sub (ws' := [(rd, .inr (3, [.ref rt, .int (nI du), .int (nI rs), .int (nI (tu + 1)), .int 0, .int 1, .int (nI hw2_18)])), (rt, .inr (5, [.int (nI dz), .int (nI dt), .ref d1, .ref d2, .ref d3])), (d1, ai g 6 DK), (d2, ai g 6 (upd DL rs (nI pl))), (d3, ai g 96 DV)]) [4, 2, 0, 3, 1] (by decide) rfl
        exact k_rz hx hb hr hlocks hS hP9 hD9 rfl ⟨du, rs, (tu + 1), 0, 1, hw2_18, dz, dt, DK, (upd DL rs (nI pl)), DV, rfl, (stp_s (by unfold ewd; dsimp only; rw [if_neg c26_14, if_pos ((nI_eq (b := 0) (by omega) (by decide)).mp c7_1), if_pos ((nI_ltI (b := 4) (by omega) (by omega)).mp c36_16), hh_19]))⟩ dX3_endsWord_60
      · skip
        refine lv_iconst (v := 0) hx hb dX3_endsWord_39 (by decide) ?_
        refine W.widen (k := 0) (n := 0) (Nat.le_of_ble_eq_true rfl) (Nat.le_of_ble_eq_true rfl) ?_
        have hP9 := hP.sub (ws' := [(rd, .inr (3, [.ref rt, .int (nI du), .int (nI rs), .int (nI tu), .int (nI pl), .int (nI wl), .int (nI hw)])), (rt, .inr (5, [.int (nI dz), .int (nI dt), .ref d1, .ref d2, .ref d3])), (d1, ai g 6 DK), (d2, ai g 6 DL), (d3, ai g 96 DV)]) [2, 3, 0, 4, 1] rfl
        have hD9 := hD.sub (ws' := [(rd, .inr (3, [.ref rt, .int (nI du), .int (nI rs), .int (nI tu), .int (nI pl), .int (nI wl), .int (nI hw)])), (rt, .inr (5, [.int (nI dz), .int (nI dt), .ref d1, .ref d2, .ref d3])), (d1, ai g 6 DK), (d2, ai g 6 DL), (d3, ai g 96 DV)]) [2, 3, 0, 4, 1] (by decide) rfl
        exact k_rz hx hb hr hlocks hS hP9 hD9 rfl ⟨du, rs, tu, pl, wl, hw, dz, dt, DK, DL, DV, rfl, (stp_n (by unfold ewd; dsimp only; rw [if_neg c26_14, if_pos ((nI_eq (b := 0) (by omega) (by decide)).mp c7_1), if_neg (show ¬ tu + 1 < 4 from fun q => c36_16 (nI_lt (b := 4) q (by omega)))]))⟩ dX3_endsWord_40
def po_X3_endsSet_g (g : GG) (rd : Nat) (rt : Nat) (d1 : Nat) (d2 : Nat) (d3 : Nat) (du : Nat) (rs : Nat) (tu : Nat) (pl : Nat) (wl : Nat) (hw : Nat) (dz : Nat) (dt : Nat) (DK : Nat → Int32) (DL : Nat → Int32) (DV : Nat → Int32) : Int32 → va_W → Prop := fun (r : Int32) w => ∃ (du2 : Nat) (rs2 : Nat) (tu2 : Nat) (pl2 : Nat) (wl2 : Nat) (hw2 : Nat) (dz2 : Nat) (dt2 : Nat) (DK2 : Nat → Int32) (DL2 : Nat → Int32) (DV2 : Nat → Int32), w = [(rd, .inr (3, [.ref rt, .int (nI du2), .int (nI rs2), .int (nI tu2), .int (nI pl2), .int (nI wl2), .int (nI hw2)])), (rt, .inr (5, [.int (nI dz2), .int (nI dt2), .ref d1, .ref d2, .ref d3])), (d1, ai g 6 DK2), (d2, ai g 6 DL2), (d3, ai g 96 DV2)] ∧ (stp r (est (du, rs, tu, pl, wl, hw, dz, dt, DK, DL, DV)) (du, rs, tu, pl, wl, hw, dz, dt, DK, DL, DV) (du2, rs2, tu2, pl2, wl2, hw2, dz2, dt2, DK2, DL2, DV2))
theorem q_X3_endsSet_g_f3 : ∀ w ∈ u_ws RX3 TX3 7, w ∈ wsX3_endsSet := by decide +kernel
theorem q_X3_endsSet_g_1 : (Cond.fieldLink RX3 12 "SoundLaws$Reader" "draft" "LSoundLaws$Stock;") ∈ wsX3_endsSet := by decide +kernel
theorem q_X3_endsSet_g_f5 : ∀ w ∈ u_ws RX5 TX5 5, w ∈ wsX3_endsSet := by decide +kernel
theorem q_X3_endsSet_g_3 : (Cond.fieldLink RX3 18 "SoundLaws$Stock" "size" "I") ∈ wsX3_endsSet := by decide +kernel
theorem q_X3_endsSet_g_4 : (Cond.fieldLink RX3 62 "SoundLaws$Reader" "tongue" "I") ∈ wsX3_endsSet := by decide +kernel
theorem q_X3_endsSet_g_5 : (Cond.fieldLink RX3 22 "SoundLaws$Stock" "tongues" "I") ∈ wsX3_endsSet := by decide +kernel
theorem q_X3_endsSet_g_6 : (Cond.fieldLink RX3 25 "SoundLaws$Reader" "kindIsDue" "Z") ∈ wsX3_endsSet := by decide +kernel
set_option maxHeartbeats 1500000 in
set_option maxRecDepth 100000 in
theorem c_X3_endsSet_g (l : Launch) (g : GG) (rd : Nat) (rt : Nat) (d1 : Nat) (d2 : Nat) (d3 : Nat) (du : Nat) (rs : Nat) (tu : Nat) (pl : Nat) (wl : Nat) (hw : Nat) (dz : Nat) (dt : Nat) (DK : Nat → Int32) (DL : Nat → Int32) (DV : Nat → Int32) (hdu : du < 2) (hrs : rs < 5) (htu : tu < 4) (hpl : pl ≤ 4) (hwl : wl < 2) (hhw : hw < 2) (hdz : dz ≤ 5) (hdt : dt ≤ 4) (sz : Nat) : MetI l yX3_endsSet wsX3_endsSet ({ frames := 2, cells := 0, slots := 0, locals := 41 }) g [.ref rd] [(rd, .inr (3, [.ref rt, .int (nI du), .int (nI rs), .int (nI tu), .int (nI pl), .int (nI wl), .int (nI hw)])), (rt, .inr (5, [.int (nI dz), .int (nI dt), .ref d1, .ref d2, .ref d3])), (d1, ai g 6 DK), (d2, ai g 6 DL), (d3, ai g 96 DV)] sz (po_X3_endsSet_g g rd rt d1 d2 d3 du rs tu pl wl hw dz dt DK DL DV) 0 0 := by
  refine k_of (l := l) (y := yX3_endsSet) (ws := wsX3_endsSet) (rm := { frames := 2, cells := 0, slots := 0, locals := 41 }) (mc := 0) (ms := 0) (av := [.ref rd]) (g := g) (wc := [(rd, .inr (3, [.ref rt, .int (nI du), .int (nI rs), .int (nI tu), .int (nI pl), .int (nI wl), .int (nI hw)])), (rt, .inr (5, [.int (nI dz), .int (nI dt), .ref d1, .ref d2, .ref d3])), (d1, ai g 6 DK), (d2, ai g 6 DL), (d3, ai g 96 DV)]) (Qc := fun A => va_Qi (po_X3_endsSet_g g rd rt d1 d2 d3 du rs tu pl wl hw dz dt DK DL DV) (bk g A) A) (cc := cX3_endsSet) (maxL := 1) (ret := (some .boolean)) (by decide) rfl (Nat.le_of_ble_eq_true rfl) ?_ sz
  intro p e s m below meth c hx hb hr hts hown hlocks hnm hml A hA hE hZ hP hD hS ls hl
  have hown : s.vm.findClass RX3 = some m.cls := hown
  have hl : lv_has ls 1 [(0, .ref rd)] := hl
  refine lv_aload_n hx hb dX3_endsSet_0 rfl (lv_at hl 0 rfl) ?_
  refine k_ci (wr := [(d1, ai g 6 DK), (d3, ai g 96 DV)]) hP hD hS hA [0, 1, 3] [2, 4] rfl rfl (by decide) (by decide) (va_runV (As := []) (rest := []) ⟨hx, hb, hml, hown, hts⟩ (c_X3_setIsWhole_g l g rd rt d1 d2 d3 du rs tu pl wl hw dz dt DL (by first | assumption | omega) (by first | assumption | omega) (by first | assumption | omega) (by first | assumption | omega) s.heap.size) (cwV 0 hts gX3_endsSet_X3_setIsWhole rfl rfl rfl (by decide +kernel) ⟨Nat.le_of_ble_eq_true rfl, Nat.le_of_ble_eq_true rfl⟩) (k_preV hE hZ hP hD hS hA [0, 1, 3] rfl (by decide) (va_recv hE.1 hP (ci := 3) (q0 := 0) rfl rfl)) rfl rfl hl.1 rfl (lv_room (Nat.le_of_ble_eq_true rfl)) dX3_endsSet_1 ⟨Nat.le_of_ble_eq_true rfl, Nat.le_of_ble_eq_true rfl⟩) (fun r_1 w1 H locs hw hP hD hS => ?_)
  obtain ⟨rfl, rfl⟩ := hw
  have hP : va_P g.1 vwCl [(d1, ai g 6 DK), (d3, ai g 96 DV), (rd, .inr (3, [.ref rt, .int (nI du), .int (nI rs), .int (nI tu), .int (nI pl), .int (nI wl), .int (nI hw)])), (rt, .inr (5, [.int (nI dz), .int (nI dt), .ref d1, .ref d2, .ref d3])), (d2, ai g 6 DL)] H := hP
  have hD : va_D A [(d1, ai g 6 DK), (d3, ai g 96 DV), (rd, .inr (3, [.ref rt, .int (nI du), .int (nI rs), .int (nI tu), .int (nI pl), .int (nI wl), .int (nI hw)])), (rt, .inr (5, [.int (nI dz), .int (nI dt), .ref d1, .ref d2, .ref d3])), (d2, ai g 6 DL)] := hD
  refine lv_if_eq (tgt := 18) hx hb dX3_endsSet_4 (by decide) (fun c4_3 => ?_) (fun c4_3 => ?_)
  · skip
    refine lv_iconst (v := 0) hx hb dX3_endsSet_18 (by decide) ?_
    refine W.widen (k := 0) (n := 0) (Nat.le_of_ble_eq_true rfl) (Nat.le_of_ble_eq_true rfl) ?_
    have hP9 := hP.sub (ws' := [(rd, .inr (3, [.ref rt, .int (nI du), .int (nI rs), .int (nI tu), .int (nI pl), .int (nI wl), .int (nI hw)])), (rt, .inr (5, [.int (nI dz), .int (nI dt), .ref d1, .ref d2, .ref d3])), (d1, ai g 6 DK), (d2, ai g 6 DL), (d3, ai g 96 DV)]) [2, 3, 0, 4, 1] rfl
    have hD9 := hD.sub (ws' := [(rd, .inr (3, [.ref rt, .int (nI du), .int (nI rs), .int (nI tu), .int (nI pl), .int (nI wl), .int (nI hw)])), (rt, .inr (5, [.int (nI dz), .int (nI dt), .ref d1, .ref d2, .ref d3])), (d1, ai g 6 DK), (d2, ai g 6 DL), (d3, ai g 96 DV)]) [2, 3, 0, 4, 1] (by decide) rfl
    exact k_rz hx hb hr hlocks hS hP9 hD9 rfl ⟨du, rs, tu, pl, wl, hw, dz, dt, DK, DL, DV, rfl, (stp_n (if_pos c4_3))⟩ dX3_endsSet_19
  · skip
    refine lv_aload_n hx hb dX3_endsSet_7 rfl (lv_at hl 0 rfl) ?_
    refine va_get (D := g.1) (ci := 3) (v := .ref rt) (C := RX3) (T := TX3) (N := 7) hx hb hts q_X3_endsSet_g_f3 hown hE.1 hP 2 rfl rfl 0 (by decide) (hts (.fieldLink RX3 12 "SoundLaws$Reader" "draft" "LSoundLaws$Stock;") q_X3_endsSet_g_1) (fun _ h9 => h9) rfl dX3_endsSet_8 ?_
    refine va_get (D := g.1) (ci := 5) (v := .int (nI dz)) (C := RX5) (T := TX5) (N := 5) hx hb hts q_X3_endsSet_g_f5 hown hE.1 hP 3 rfl rfl 0 (by decide) (hts (.fieldLink RX3 18 "SoundLaws$Stock" "size" "I") q_X3_endsSet_g_3) (fun _ h9 => h9) rfl dX3_endsSet_11 ?_
    refine lv_iconst (v := 5) hx hb dX3_endsSet_14 (by decide) ?_
    refine lv_icmp_lt (tgt := 20) hx hb dX3_endsSet_15 (by decide) (fun c15_4 => ?_) (fun c15_4 => ?_)
    · skip
      refine lv_aload_n hx hb dX3_endsSet_20 rfl (lv_at hl 0 rfl) ?_
      refine k_cv (wr := [(d1, ai g 6 DK), (d3, ai g 96 DV)]) hP hD hS hA [2, 3, 4] [0, 1] rfl rfl (by decide) (by decide) (va_runV (As := []) (rest := []) ⟨hx, hb, hml, hown, hts⟩ (c_X3_closeWord_g l g rd rt d1 d2 d3 du rs tu pl wl hw dz dt DL (by first | assumption | omega) (by first | assumption | omega) H.size) (cwV 0 hts gX3_endsSet_X3_closeWord rfl rfl rfl (by decide +kernel) ⟨Nat.le_of_ble_eq_true rfl, Nat.le_of_ble_eq_true rfl⟩) (k_preV hE hZ hP hD hS hA [2, 3, 4] rfl (by decide) (va_recv hE.1 hP (ci := 3) (q0 := 2) rfl rfl)) rfl rfl hl.1 rfl (lv_room (Nat.le_of_ble_eq_true rfl)) dX3_endsSet_21 ⟨Nat.le_of_ble_eq_true rfl, Nat.le_of_ble_eq_true rfl⟩) (fun w1 H locs hw hP hD hS => ?_)
      obtain ⟨hw2_6, rfl, hh_7⟩ := hw
      have hP : va_P g.1 vwCl [(d1, ai g 6 DK), (d3, ai g 96 DV), (rd, .inr (3, [.ref rt, .int (nI du), .int (nI rs), .int (nI tu), .int (nI pl), .int (nI wl), .int (nI hw2_6)])), (rt, .inr (5, [.int (nI dz), .int (nI dt), .ref d1, .ref d2, .ref d3])), (d2, ai g 6 (upd DL rs (nI pl)))] H := hP
      have hD : va_D A [(d1, ai g 6 DK), (d3, ai g 96 DV), (rd, .inr (3, [.ref rt, .int (nI du), .int (nI rs), .int (nI tu), .int (nI pl), .int (nI wl), .int (nI hw2_6)])), (rt, .inr (5, [.int (nI dz), .int (nI dt), .ref d1, .ref d2, .ref d3])), (d2, ai g 6 (upd DL rs (nI pl)))] := hD
      refine lv_aload_n hx hb dX3_endsSet_24 rfl (lv_at hl 0 rfl) ?_
      refine va_get (D := g.1) (ci := 3) (v := .ref rt) (C := RX3) (T := TX3) (N := 7) hx hb hts q_X3_endsSet_g_f3 hown hE.1 hP 2 rfl rfl 0 (by decide) (hts (.fieldLink RX3 12 "SoundLaws$Reader" "draft" "LSoundLaws$Stock;") q_X3_endsSet_g_1) (fun _ h9 => h9) rfl dX3_endsSet_25 ?_
      refine lv_aload_n hx hb dX3_endsSet_28 rfl (lv_at hl 0 rfl) ?_
      refine va_get (D := g.1) (ci := 3) (v := .int (nI tu)) (C := RX3) (T := TX3) (N := 7) hx hb hts q_X3_endsSet_g_f3 hown hE.1 hP 2 rfl rfl 3 (by decide) (hts (.fieldLink RX3 62 "SoundLaws$Reader" "tongue" "I") q_X3_endsSet_g_4) (fun _ h9 => h9) rfl dX3_endsSet_29 ?_
      refine lv_iconst (v := 1) hx hb dX3_endsSet_32 (by decide) ?_
      refine lv_iadd hx hb dX3_endsSet_33 ?_
      refine lv_topi (fun x_8 ex_8 => ?_)
      obtain rfl : x_8 = nI (tu + 1) := by rw [ex_8]; exact nI_1 tu
      refine va_put (D := g.1) (ci := 5) (v := .int (nI (tu + 1))) (ty := .int) (C := RX5) (T := TX5) (N := 5) hx hb hts q_X3_endsSet_g_f5 tyX5 tyX5_ok nmX5 hown hE.1 hP hD hS 3 rfl rfl 1 (by decide) (hts (.fieldLink RX3 22 "SoundLaws$Stock" "tongues" "I") q_X3_endsSet_g_5) (fun _ h9 => h9) rfl (by decide +kernel) rfl rfl (Nat.le_of_ble_eq_true rfl) dX3_endsSet_34 (fun H locs hP hD hS => ?_)
      have hP : va_P g.1 vwCl [(d1, ai g 6 DK), (d3, ai g 96 DV), (rd, .inr (3, [.ref rt, .int (nI du), .int (nI rs), .int (nI tu), .int (nI pl), .int (nI wl), .int (nI hw2_6)])), (rt, .inr (5, [.int (nI dz), .int (nI (tu + 1)), .ref d1, .ref d2, .ref d3])), (d2, ai g 6 (upd DL rs (nI pl)))] H := hP
      have hD : va_D A [(d1, ai g 6 DK), (d3, ai g 96 DV), (rd, .inr (3, [.ref rt, .int (nI du), .int (nI rs), .int (nI tu), .int (nI pl), .int (nI wl), .int (nI hw2_6)])), (rt, .inr (5, [.int (nI dz), .int (nI (tu + 1)), .ref d1, .ref d2, .ref d3])), (d2, ai g 6 (upd DL rs (nI pl)))] := hD
      refine lv_aload_n hx hb dX3_endsSet_37 rfl (lv_at hl 0 rfl) ?_
      refine lv_iconst (v := 1) hx hb dX3_endsSet_38 (by decide) ?_
      refine va_put (D := g.1) (ci := 3) (v := .int 1) (ty := .boolean) (C := RX3) (T := TX3) (N := 7) hx hb hts q_X3_endsSet_g_f3 tyX3 tyX3_ok nmX3 hown hE.1 hP hD hS 2 rfl rfl 1 (by decide) (hts (.fieldLink RX3 25 "SoundLaws$Reader" "kindIsDue" "Z") q_X3_endsSet_g_6) (fun _ h9 => h9) rfl (by decide +kernel) rfl rfl (Nat.le_of_ble_eq_true rfl) dX3_endsSet_39 (fun H locs hP hD hS => ?_)
      have hP : va_P g.1 vwCl [(d1, ai g 6 DK), (d3, ai g 96 DV), (rd, .inr (3, [.ref rt, .int 1, .int (nI rs), .int (nI tu), .int (nI pl), .int (nI wl), .int (nI hw2_6)])), (rt, .inr (5, [.int (nI dz), .int (nI (tu + 1)), .ref d1, .ref d2, .ref d3])), (d2, ai g 6 (upd DL rs (nI pl)))] H := hP
      have hD : va_D A [(d1, ai g 6 DK), (d3, ai g 96 DV), (rd, .inr (3, [.ref rt, .int 1, .int (nI rs), .int (nI tu), .int (nI pl), .int (nI wl), .int (nI hw2_6)])), (rt, .inr (5, [.int (nI dz), .int (nI (tu + 1)), .ref d1, .ref d2, .ref d3])), (d2, ai g 6 (upd DL rs (nI pl)))] := hD
      refine lv_iconst (v := 1) hx hb dX3_endsSet_42 (by decide) ?_
      refine W.widen (k := 0) (n := 0) (Nat.le_of_ble_eq_true rfl) (Nat.le_of_ble_eq_true rfl) ?_
      have hP9 := hP.sub (ws' := [(rd, .inr (3, [.ref rt, .int 1, .int (nI rs), .int (nI tu), .int (nI pl), .int (nI wl), .int (nI hw2_6)])), (rt, .inr (5, [.int (nI dz), .int (nI (tu + 1)), .ref d1, .ref d2, .ref d3])), (d1, ai g 6 DK), (d2, ai g 6 (upd DL rs (nI pl))), (d3, ai g 96 DV)]) [2, 3, 0, 4, 1] rfl
      have hD9 := hD.sub (ws' := [(rd, .inr (3, [.ref rt, .int 1, .int (nI rs), .int (nI tu), .int (nI pl), .int (nI wl), .int (nI hw2_6)])), (rt, .inr (5, [.int (nI dz), .int (nI (tu + 1)), .ref d1, .ref d2, .ref d3])), (d1, ai g 6 DK), (d2, ai g 6 (upd DL rs (nI pl))), (d3, ai g 96 DV)]) [2, 3, 0, 4, 1] (by decide) rfl
      exact k_rz hx hb hr hlocks hS hP9 hD9 rfl ⟨1, rs, tu, pl, wl, hw2_6, dz, (tu + 1), DK, (upd DL rs (nI pl)), DV, rfl, (stp_s (by unfold est; dsimp only; rw [if_neg c4_3, if_pos ((nI_ltI (b := 5) (by omega) (by decide)).mp c15_4), hh_7]))⟩ dX3_endsSet_43
    · skip
      refine lv_iconst (v := 0) hx hb dX3_endsSet_18 (by decide) ?_
      refine W.widen (k := 0) (n := 0) (Nat.le_of_ble_eq_true rfl) (Nat.le_of_ble_eq_true rfl) ?_
      have hP9 := hP.sub (ws' := [(rd, .inr (3, [.ref rt, .int (nI du), .int (nI rs), .int (nI tu), .int (nI pl), .int (nI wl), .int (nI hw)])), (rt, .inr (5, [.int (nI dz), .int (nI dt), .ref d1, .ref d2, .ref d3])), (d1, ai g 6 DK), (d2, ai g 6 DL), (d3, ai g 96 DV)]) [2, 3, 0, 4, 1] rfl
      have hD9 := hD.sub (ws' := [(rd, .inr (3, [.ref rt, .int (nI du), .int (nI rs), .int (nI tu), .int (nI pl), .int (nI wl), .int (nI hw)])), (rt, .inr (5, [.int (nI dz), .int (nI dt), .ref d1, .ref d2, .ref d3])), (d1, ai g 6 DK), (d2, ai g 6 DL), (d3, ai g 96 DV)]) [2, 3, 0, 4, 1] (by decide) rfl
      exact k_rz hx hb hr hlocks hS hP9 hD9 rfl ⟨du, rs, tu, pl, wl, hw, dz, dt, DK, DL, DV, rfl, (stp_n (by unfold est; dsimp only; rw [if_neg c4_3, if_neg (show ¬ dz < 5 from fun q => c15_4 (nI_lt (b := 5) q (by decide)))]))⟩ dX3_endsSet_19
def po_X3_accepts_g (g : GG) (rd : Nat) (rt : Nat) (d1 : Nat) (d2 : Nat) (d3 : Nat) (du : Nat) (rs : Nat) (tu : Nat) (pl : Nat) (wl : Nat) (hw : Nat) (dz : Nat) (dt : Nat) (DK : Nat → Int32) (DL : Nat → Int32) (DV : Nat → Int32) (v : Nat) : Int32 → va_W → Prop := fun (r : Int32) w => ∃ (du2 : Nat) (rs2 : Nat) (tu2 : Nat) (pl2 : Nat) (wl2 : Nat) (hw2 : Nat) (dz2 : Nat) (dt2 : Nat) (DK2 : Nat → Int32) (DL2 : Nat → Int32) (DV2 : Nat → Int32), w = [(rd, .inr (3, [.ref rt, .int (nI du2), .int (nI rs2), .int (nI tu2), .int (nI pl2), .int (nI wl2), .int (nI hw2)])), (rt, .inr (5, [.int (nI dz2), .int (nI dt2), .ref d1, .ref d2, .ref d3])), (d1, ai g 6 DK2), (d2, ai g 6 DL2), (d3, ai g 96 DV2)] ∧ (stp r (acc (nI v) (du, rs, tu, pl, wl, hw, dz, dt, DK, DL, DV)) (du, rs, tu, pl, wl, hw, dz, dt, DK, DL, DV) (du2, rs2, tu2, pl2, wl2, hw2, dz2, dt2, DK2, DL2, DV2))
theorem q_X3_accepts_g_f3 : ∀ w ∈ u_ws RX3 TX3 7, w ∈ wsX3_accepts := by decide +kernel
theorem q_X3_accepts_g_1 : (Cond.fieldLink RX3 25 "SoundLaws$Reader" "kindIsDue" "Z") ∈ wsX3_accepts := by decide +kernel
set_option maxHeartbeats 1500000 in
set_option maxRecDepth 100000 in
theorem c_X3_accepts_g (l : Launch) (g : GG) (rd : Nat) (rt : Nat) (d1 : Nat) (d2 : Nat) (d3 : Nat) (du : Nat) (rs : Nat) (tu : Nat) (pl : Nat) (wl : Nat) (hw : Nat) (dz : Nat) (dt : Nat) (DK : Nat → Int32) (DL : Nat → Int32) (DV : Nat → Int32) (v : Nat) (hdu : du < 2) (hrs : rs < 5) (htu : tu < 4) (hpl : pl ≤ 4) (hwl : wl < 2) (hhw : hw < 2) (hdz : dz ≤ 5) (hdt : dt ≤ 4) (hDL : rng 6 5 DL) (hv : v < 127) (sz : Nat) : MetI l yX3_accepts wsX3_accepts ({ frames := 4, cells := 0, slots := 0, locals := 91 }) g [.ref rd, .int (nI v)] [(rd, .inr (3, [.ref rt, .int (nI du), .int (nI rs), .int (nI tu), .int (nI pl), .int (nI wl), .int (nI hw)])), (rt, .inr (5, [.int (nI dz), .int (nI dt), .ref d1, .ref d2, .ref d3])), (d1, ai g 6 DK), (d2, ai g 6 DL), (d3, ai g 96 DV)] sz (po_X3_accepts_g g rd rt d1 d2 d3 du rs tu pl wl hw dz dt DK DL DV v) 0 0 := by
  refine k_of (l := l) (y := yX3_accepts) (ws := wsX3_accepts) (rm := { frames := 4, cells := 0, slots := 0, locals := 91 }) (mc := 0) (ms := 0) (av := [.ref rd, .int (nI v)]) (g := g) (wc := [(rd, .inr (3, [.ref rt, .int (nI du), .int (nI rs), .int (nI tu), .int (nI pl), .int (nI wl), .int (nI hw)])), (rt, .inr (5, [.int (nI dz), .int (nI dt), .ref d1, .ref d2, .ref d3])), (d1, ai g 6 DK), (d2, ai g 6 DL), (d3, ai g 96 DV)]) (Qc := fun A => va_Qi (po_X3_accepts_g g rd rt d1 d2 d3 du rs tu pl wl hw dz dt DK DL DV v) (bk g A) A) (cc := cX3_accepts) (maxL := 2) (ret := (some .boolean)) (by decide) rfl (Nat.le_of_ble_eq_true rfl) ?_ sz
  intro p e s m below meth c hx hb hr hts hown hlocks hnm hml A hA hE hZ hP hD hS ls hl
  have hown : s.vm.findClass RX3 = some m.cls := hown
  have hl : lv_has ls 2 [(0, .ref rd), (1, .int (nI v))] := hl
  refine lv_aload_n hx hb dX3_accepts_0 rfl (lv_at hl 0 rfl) ?_
  refine va_get (D := g.1) (ci := 3) (v := .int (nI du)) (C := RX3) (T := TX3) (N := 7) hx hb hts q_X3_accepts_g_f3 hown hE.1 hP 0 rfl rfl 1 (by decide) (hts (.fieldLink RX3 25 "SoundLaws$Reader" "kindIsDue" "Z") q_X3_accepts_g_1) (fun _ h9 => h9) rfl dX3_accepts_1 ?_
  refine lv_if_eq (tgt := 19) hx hb dX3_accepts_4 (by decide) (fun c4_1 => ?_) (fun c4_1 => ?_)
  · skip
    refine lv_iload_n hx hb dX3_accepts_19 rfl (lv_at hl 1 rfl) ?_
    refine lv_bipush (v := 47) hx hb dX3_accepts_20 (by decide) ?_
    refine lv_icmp_ne (tgt := 30) hx hb dX3_accepts_22 (by decide) (fun c22_2 => ?_) (fun c22_2 => ?_)
    · skip
      refine lv_iload_n hx hb dX3_accepts_30 rfl (lv_at hl 1 rfl) ?_
      refine lv_bipush (v := 44) hx hb dX3_accepts_31 (by decide) ?_
      refine lv_icmp_ne (tgt := 41) hx hb dX3_accepts_33 (by decide) (fun c33_3 => ?_) (fun c33_3 => ?_)
      · skip
        refine lv_aload_n hx hb dX3_accepts_41 rfl (lv_at hl 0 rfl) ?_
        refine va_ldcS hx hb hown hE.2.2.2 dX3_accepts_42 ?_
        refine lv_iload_n hx hb dX3_accepts_44 rfl (lv_at hl 1 rfl) ?_
        refine lv_i2c hx hb dX3_accepts_45 rfl ?_
        refine lv_topi (fun x_4 ex_4 => ?_)
        obtain rfl : x_4 = nI v := by rw [ex_4]; exact chr_c v hv
        refine k_ci (wr := [(rd, .inr (3, [.ref rt, .int (nI du), .int (nI rs), .int (nI tu), .int (nI pl), .int (nI wl), .int (nI hw)])), (rt, .inr (5, [.int (nI dz), .int (nI dt), .ref d1, .ref d2, .ref d3])), (d1, ai g 6 DK), (d2, ai g 6 DL), (d3, ai g 96 DV)]) hP hD hS hA [] [0, 1, 2, 3, 4] rfl rfl (by decide) (by decide) (va_runV (As := [.int (nI v)]) (rest := [.ref rd]) ⟨hx, hb, hml, hown, hts⟩ (c_J0_indexOf_1 l g v (by first | assumption | omega) s.heap.size) (cwV 1 hts gX3_accepts_J0_indexOf_0f7a4 rfl rfl rfl (by decide +kernel) ⟨Nat.le_of_ble_eq_true rfl, Nat.le_of_ble_eq_true rfl⟩) (k_preV hE hZ hP hD hS hA [] rfl (by decide) (hZ.rc1 hS)) rfl rfl hl.1 rfl (lv_room (Nat.le_of_ble_eq_true rfl)) dX3_accepts_46 ⟨Nat.le_of_ble_eq_true rfl, Nat.le_of_ble_eq_true rfl⟩) (fun r_5 w1 H locs hw hP hD hS => ?_)
        obtain ⟨rfl, rfl⟩ := hw
        have hP : va_P g.1 vwCl [(rd, .inr (3, [.ref rt, .int (nI du), .int (nI rs), .int (nI tu), .int (nI pl), .int (nI wl), .int (nI hw)])), (rt, .inr (5, [.int (nI dz), .int (nI dt), .ref d1, .ref d2, .ref d3])), (d1, ai g 6 DK), (d2, ai g 6 DL), (d3, ai g 96 DV)] H := hP
        have hD : va_D A [(rd, .inr (3, [.ref rt, .int (nI du), .int (nI rs), .int (nI tu), .int (nI pl), .int (nI wl), .int (nI hw)])), (rt, .inr (5, [.int (nI dz), .int (nI dt), .ref d1, .ref d2, .ref d3])), (d1, ai g 6 DK), (d2, ai g 6 DL), (d3, ai g 96 DV)] := hD
        refine k_ci (wr := []) hP hD hS hA [0, 1, 2, 3, 4] [] rfl rfl (by decide) (by decide) (va_runV (As := [.int (sby (nI v))]) (rest := []) ⟨hx, hb, hml, hown, hts⟩ (c_X3_acceptsSound_g l g rd rt d1 d2 d3 du rs tu pl wl hw dz dt DK DL DV (sby (nI v)) (by first | assumption | omega) (by first | assumption | omega) (by first | assumption | omega) (by first | assumption | omega) (by first | assumption | omega) (by first | assumption | omega) (by first | assumption | omega) (by first | assumption | omega) (by first | assumption | omega) H.size) (cwV 1 hts gX3_accepts_X3_acceptsSound rfl rfl rfl (by decide +kernel) ⟨Nat.le_of_ble_eq_true rfl, Nat.le_of_ble_eq_true rfl⟩) (k_preV hE hZ hP hD hS hA [0, 1, 2, 3, 4] rfl (by decide) (va_recv hE.1 hP (ci := 3) (q0 := 0) rfl rfl)) rfl rfl hl.1 rfl (lv_room (Nat.le_of_ble_eq_true rfl)) dX3_accepts_49 ⟨Nat.le_of_ble_eq_true rfl, Nat.le_of_ble_eq_true rfl⟩) (fun r_7 w1 H locs hw hP hD hS => ?_)
        obtain ⟨du2_8, rs2_9, tu2_10, pl2_11, wl2_12, hw2_13, dz2_14, dt2_15, DK2_16, DL2_17, DV2_18, rfl, hst_19⟩ := hw
        have hP : va_P g.1 vwCl [(rd, .inr (3, [.ref rt, .int (nI du2_8), .int (nI rs2_9), .int (nI tu2_10), .int (nI pl2_11), .int (nI wl2_12), .int (nI hw2_13)])), (rt, .inr (5, [.int (nI dz2_14), .int (nI dt2_15), .ref d1, .ref d2, .ref d3])), (d1, ai g 6 DK2_16), (d2, ai g 6 DL2_17), (d3, ai g 96 DV2_18)] H := hP
        have hD : va_D A [(rd, .inr (3, [.ref rt, .int (nI du2_8), .int (nI rs2_9), .int (nI tu2_10), .int (nI pl2_11), .int (nI wl2_12), .int (nI hw2_13)])), (rt, .inr (5, [.int (nI dz2_14), .int (nI dt2_15), .ref d1, .ref d2, .ref d3])), (d1, ai g 6 DK2_16), (d2, ai g 6 DL2_17), (d3, ai g 96 DV2_18)] := hD
        refine W.widen (k := 0) (n := 0) (Nat.le_of_ble_eq_true rfl) (Nat.le_of_ble_eq_true rfl) ?_
        exact k_rz hx hb hr hlocks hS hP hD (stp_nar hst_19) ⟨du2_8, rs2_9, tu2_10, pl2_11, wl2_12, hw2_13, dz2_14, dt2_15, DK2_16, DL2_17, DV2_18, rfl, (by unfold acc; rw [if_pos ((nI_eq (b := 0) (by omega) (by decide)).mp c4_1), if_neg c22_2, if_neg c33_3]; exact hst_19)⟩ dX3_accepts_52
      · skip
        refine lv_aload_n hx hb dX3_accepts_36 rfl (lv_at hl 0 rfl) ?_
        refine k_ci (wr := []) hP hD hS hA [0, 1, 2, 3, 4] [] rfl rfl (by decide) (by decide) (va_runV (As := []) (rest := []) ⟨hx, hb, hml, hown, hts⟩ (c_X3_endsSet_g l g rd rt d1 d2 d3 du rs tu pl wl hw dz dt DK DL DV (by first | assumption | omega) (by first | assumption | omega) (by first | assumption | omega) (by first | assumption | omega) (by first | assumption | omega) (by first | assumption | omega) (by first | assumption | omega) (by first | assumption | omega) s.heap.size) (cwV 0 hts gX3_accepts_X3_endsSet rfl rfl rfl (by decide +kernel) ⟨Nat.le_of_ble_eq_true rfl, Nat.le_of_ble_eq_true rfl⟩) (k_preV hE hZ hP hD hS hA [0, 1, 2, 3, 4] rfl (by decide) (va_recv hE.1 hP (ci := 3) (q0 := 0) rfl rfl)) rfl rfl hl.1 rfl (lv_room (Nat.le_of_ble_eq_true rfl)) dX3_accepts_37 ⟨Nat.le_of_ble_eq_true rfl, Nat.le_of_ble_eq_true rfl⟩) (fun r_20 w1 H locs hw hP hD hS => ?_)
        obtain ⟨du2_21, rs2_22, tu2_23, pl2_24, wl2_25, hw2_26, dz2_27, dt2_28, DK2_29, DL2_30, DV2_31, rfl, hst_32⟩ := hw
        have hP : va_P g.1 vwCl [(rd, .inr (3, [.ref rt, .int (nI du2_21), .int (nI rs2_22), .int (nI tu2_23), .int (nI pl2_24), .int (nI wl2_25), .int (nI hw2_26)])), (rt, .inr (5, [.int (nI dz2_27), .int (nI dt2_28), .ref d1, .ref d2, .ref d3])), (d1, ai g 6 DK2_29), (d2, ai g 6 DL2_30), (d3, ai g 96 DV2_31)] H := hP
        have hD : va_D A [(rd, .inr (3, [.ref rt, .int (nI du2_21), .int (nI rs2_22), .int (nI tu2_23), .int (nI pl2_24), .int (nI wl2_25), .int (nI hw2_26)])), (rt, .inr (5, [.int (nI dz2_27), .int (nI dt2_28), .ref d1, .ref d2, .ref d3])), (d1, ai g 6 DK2_29), (d2, ai g 6 DL2_30), (d3, ai g 96 DV2_31)] := hD
        refine W.widen (k := 0) (n := 0) (Nat.le_of_ble_eq_true rfl) (Nat.le_of_ble_eq_true rfl) ?_
        exact k_rz hx hb hr hlocks hS hP hD (stp_nar hst_32) ⟨du2_21, rs2_22, tu2_23, pl2_24, wl2_25, hw2_26, dz2_27, dt2_28, DK2_29, DL2_30, DV2_31, rfl, (by unfold acc; rw [if_pos ((nI_eq (b := 0) (by omega) (by decide)).mp c4_1), if_neg c22_2, if_pos c33_3]; exact hst_32)⟩ dX3_accepts_40
    · skip
      refine lv_aload_n hx hb dX3_accepts_25 rfl (lv_at hl 0 rfl) ?_
      refine k_ci (wr := []) hP hD hS hA [0, 1, 2, 3, 4] [] rfl rfl (by decide) (by decide) (va_runV (As := []) (rest := []) ⟨hx, hb, hml, hown, hts⟩ (c_X3_endsWord_g l g rd rt d1 d2 d3 du rs tu pl wl hw dz dt DK DL DV (by first | assumption | omega) (by first | assumption | omega) (by first | assumption | omega) (by first | assumption | omega) (by first | assumption | omega) (by first | assumption | omega) (by first | assumption | omega) (by first | assumption | omega) s.heap.size) (cwV 0 hts gX3_accepts_X3_endsWord rfl rfl rfl (by decide +kernel) ⟨Nat.le_of_ble_eq_true rfl, Nat.le_of_ble_eq_true rfl⟩) (k_preV hE hZ hP hD hS hA [0, 1, 2, 3, 4] rfl (by decide) (va_recv hE.1 hP (ci := 3) (q0 := 0) rfl rfl)) rfl rfl hl.1 rfl (lv_room (Nat.le_of_ble_eq_true rfl)) dX3_accepts_26 ⟨Nat.le_of_ble_eq_true rfl, Nat.le_of_ble_eq_true rfl⟩) (fun r_33 w1 H locs hw hP hD hS => ?_)
      obtain ⟨du2_34, rs2_35, tu2_36, pl2_37, wl2_38, hw2_39, dz2_40, dt2_41, DK2_42, DL2_43, DV2_44, rfl, hst_45⟩ := hw
      have hP : va_P g.1 vwCl [(rd, .inr (3, [.ref rt, .int (nI du2_34), .int (nI rs2_35), .int (nI tu2_36), .int (nI pl2_37), .int (nI wl2_38), .int (nI hw2_39)])), (rt, .inr (5, [.int (nI dz2_40), .int (nI dt2_41), .ref d1, .ref d2, .ref d3])), (d1, ai g 6 DK2_42), (d2, ai g 6 DL2_43), (d3, ai g 96 DV2_44)] H := hP
      have hD : va_D A [(rd, .inr (3, [.ref rt, .int (nI du2_34), .int (nI rs2_35), .int (nI tu2_36), .int (nI pl2_37), .int (nI wl2_38), .int (nI hw2_39)])), (rt, .inr (5, [.int (nI dz2_40), .int (nI dt2_41), .ref d1, .ref d2, .ref d3])), (d1, ai g 6 DK2_42), (d2, ai g 6 DL2_43), (d3, ai g 96 DV2_44)] := hD
      refine W.widen (k := 0) (n := 0) (Nat.le_of_ble_eq_true rfl) (Nat.le_of_ble_eq_true rfl) ?_
      exact k_rz hx hb hr hlocks hS hP hD (stp_nar hst_45) ⟨du2_34, rs2_35, tu2_36, pl2_37, wl2_38, hw2_39, dz2_40, dt2_41, DK2_42, DL2_43, DV2_44, rfl, (by unfold acc; rw [if_pos ((nI_eq (b := 0) (by omega) (by decide)).mp c4_1), if_pos c22_2]; exact hst_45)⟩ dX3_accepts_29
  · skip
    refine lv_aload_n hx hb dX3_accepts_7 rfl (lv_at hl 0 rfl) ?_
    refine va_ldcS hx hb hown hE.2.2.1 dX3_accepts_8 ?_
    refine lv_iload_n hx hb dX3_accepts_10 rfl (lv_at hl 1 rfl) ?_
    refine lv_i2c hx hb dX3_accepts_11 rfl ?_
    refine lv_topi (fun x_46 ex_46 => ?_)
    obtain rfl : x_46 = nI v := by rw [ex_46]; exact chr_c v hv
    refine k_ci (wr := [(rd, .inr (3, [.ref rt, .int (nI du), .int (nI rs), .int (nI tu), .int (nI pl), .int (nI wl), .int (nI hw)])), (rt, .inr (5, [.int (nI dz), .int (nI dt), .ref d1, .ref d2, .ref d3])), (d1, ai g 6 DK), (d2, ai g 6 DL), (d3, ai g 96 DV)]) hP hD hS hA [] [0, 1, 2, 3, 4] rfl rfl (by decide) (by decide) (va_runV (As := [.int (nI v)]) (rest := [.ref rd]) ⟨hx, hb, hml, hown, hts⟩ (c_J0_indexOf_0 l g v (by first | assumption | omega) s.heap.size) (cwV 1 hts gX3_accepts_J0_indexOf_0f7a4 rfl rfl rfl (by decide +kernel) ⟨Nat.le_of_ble_eq_true rfl, Nat.le_of_ble_eq_true rfl⟩) (k_preV hE hZ hP hD hS hA [] rfl (by decide) (hZ.rc0 hS)) rfl rfl hl.1 rfl (lv_room (Nat.le_of_ble_eq_true rfl)) dX3_accepts_12 ⟨Nat.le_of_ble_eq_true rfl, Nat.le_of_ble_eq_true rfl⟩) (fun r_47 w1 H locs hw hP hD hS => ?_)
    obtain ⟨rfl, rfl⟩ := hw
    have hP : va_P g.1 vwCl [(rd, .inr (3, [.ref rt, .int (nI du), .int (nI rs), .int (nI tu), .int (nI pl), .int (nI wl), .int (nI hw)])), (rt, .inr (5, [.int (nI dz), .int (nI dt), .ref d1, .ref d2, .ref d3])), (d1, ai g 6 DK), (d2, ai g 6 DL), (d3, ai g 96 DV)] H := hP
    have hD : va_D A [(rd, .inr (3, [.ref rt, .int (nI du), .int (nI rs), .int (nI tu), .int (nI pl), .int (nI wl), .int (nI hw)])), (rt, .inr (5, [.int (nI dz), .int (nI dt), .ref d1, .ref d2, .ref d3])), (d1, ai g 6 DK), (d2, ai g 6 DL), (d3, ai g 96 DV)] := hD
    refine k_ci (wr := []) hP hD hS hA [0, 1, 2, 3, 4] [] rfl rfl (by decide) (by decide) (va_runV (As := [.int (kby (nI v))]) (rest := []) ⟨hx, hb, hml, hown, hts⟩ (c_X3_acceptsKind_g l g rd rt d1 d2 d3 du rs tu pl wl hw dz dt DK DL DV (kby (nI v)) (by first | assumption | omega) (by first | assumption | omega) (by first | assumption | omega) (by first | assumption | omega) (by first | assumption | omega) (by first | assumption | omega) (by first | assumption | omega) (by first | assumption | omega) H.size) (cwV 1 hts gX3_accepts_X3_acceptsKind rfl rfl rfl (by decide +kernel) ⟨Nat.le_of_ble_eq_true rfl, Nat.le_of_ble_eq_true rfl⟩) (k_preV hE hZ hP hD hS hA [0, 1, 2, 3, 4] rfl (by decide) (va_recv hE.1 hP (ci := 3) (q0 := 0) rfl rfl)) rfl rfl hl.1 rfl (lv_room (Nat.le_of_ble_eq_true rfl)) dX3_accepts_15 ⟨Nat.le_of_ble_eq_true rfl, Nat.le_of_ble_eq_true rfl⟩) (fun r_49 w1 H locs hw hP hD hS => ?_)
    obtain ⟨du2_50, rs2_51, tu2_52, pl2_53, wl2_54, hw2_55, dz2_56, dt2_57, DK2_58, DL2_59, DV2_60, rfl, hst_61⟩ := hw
    have hP : va_P g.1 vwCl [(rd, .inr (3, [.ref rt, .int (nI du2_50), .int (nI rs2_51), .int (nI tu2_52), .int (nI pl2_53), .int (nI wl2_54), .int (nI hw2_55)])), (rt, .inr (5, [.int (nI dz2_56), .int (nI dt2_57), .ref d1, .ref d2, .ref d3])), (d1, ai g 6 DK2_58), (d2, ai g 6 DL2_59), (d3, ai g 96 DV2_60)] H := hP
    have hD : va_D A [(rd, .inr (3, [.ref rt, .int (nI du2_50), .int (nI rs2_51), .int (nI tu2_52), .int (nI pl2_53), .int (nI wl2_54), .int (nI hw2_55)])), (rt, .inr (5, [.int (nI dz2_56), .int (nI dt2_57), .ref d1, .ref d2, .ref d3])), (d1, ai g 6 DK2_58), (d2, ai g 6 DL2_59), (d3, ai g 96 DV2_60)] := hD
    refine W.widen (k := 0) (n := 0) (Nat.le_of_ble_eq_true rfl) (Nat.le_of_ble_eq_true rfl) ?_
    exact k_rz hx hb hr hlocks hS hP hD (stp_nar hst_61) ⟨du2_50, rs2_51, tu2_52, pl2_53, wl2_54, hw2_55, dz2_56, dt2_57, DK2_58, DL2_59, DV2_60, rfl, (by unfold acc; rw [if_neg (show ¬ (du, rs, tu, pl, wl, hw, dz, dt, DK, DL, DV).1 = 0 from fun q => c4_1 (by rw [show du = 0 from q]; rfl))]; exact hst_61)⟩ dX3_accepts_18

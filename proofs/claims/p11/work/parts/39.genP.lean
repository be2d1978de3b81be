/-! the reference's tree of two to four tongues -/
def MC (t : Nat) (a : Nat → Nat) (nd s : Nat) : Int32 := if nd < t then lf (a nd) s else SP t a nd s
theorem MC_l {t nd s : Nat} {a : Nat → Nat} (h : nd < t) : MC t a nd s = lf (a nd) s := if_pos h
theorem MC_n {t nd s : Nat} {a : Nat → Nat} (h : ¬ nd < t) : MC t a nd s = SP t a nd s := if_neg h
theorem bel_a : ∀ t, t < 5 → ∀ nd, nd < 7 → (2 ≤ t ∧ nd = t) → (c1 t nd = 0 ∧ c2 t nd = 1) := by decide
theorem bel_b : ∀ nd, nd < 7 → (3 < nd ∧ nd < 5) → (c1 3 nd = 3 ∧ c2 3 nd = 2) := by decide
theorem bel_c : ∀ t, t < 5 → ∀ nd, nd < 7 → (2 ≤ t ∧ ¬ t = 3 ∧ t < nd ∧ nd < 2 * t - 1 ∧ nd = 5) → (c1 t nd = 2 ∧ c2 t nd = 3) := by decide
theorem bel_d : ∀ t, t < 5 → ∀ nd, nd < 7 → (2 ≤ t ∧ ¬ t = 3 ∧ t < nd ∧ nd < 2 * t - 1 ∧ ¬ nd = 5) → (c1 t nd = 4 ∧ c2 t nd = 5) := by decide
theorem bel_12 (t : Nat) (h5 : t < 5) (nd : Nat) (h7 : nd < 7) (h2 : 2 ≤ t) (h3 : t ≤ nd) (h4 : nd < 2 * t - 1) : (nd = t → c1 t nd = 0 ∧ c2 t nd = 1) ∧ (¬ nd = t → t = 3 → c1 t nd = 3 ∧ c2 t nd = 2) ∧ (¬ nd = t → ¬ t = 3 → nd = 5 → c1 t nd = 2 ∧ c2 t nd = 3) ∧ (¬ nd = t → ¬ t = 3 → ¬ nd = 5 → c1 t nd = 4 ∧ c2 t nd = 5) :=
  ⟨fun e => bel_a t h5 nd h7 ⟨h2, e⟩, fun e f => by subst f; exact bel_b nd h7 ⟨by omega, by omega⟩, fun e f g => bel_c t h5 nd h7 ⟨h2, f, by omega, h4, g⟩, fun e f g => bel_d t h5 nd h7 ⟨h2, f, by omega, h4, g⟩⟩
set_option maxRecDepth 20000 in
theorem leaf_ams : ∀ a, a < 9 → ∀ b, b < 9 → ams (fun s => lf a s + cmo (nI s) (nI b)) 9 = a := by decide +kernel
theorem bd_mono {n m : Nat} {x : Int32} (h : bd n x) (hm : n ≤ m) : bd m x := by
  obtain ⟨v, hv, e⟩ := h
  exact ⟨v, by omega, e⟩
theorem ml_MC {t nd ab : Nat} {a : Nat → Nat} {fc : Nat → Int32} (ht : 2 ≤ t) (ht4 : t ≤ 4) (ha : ∀ u, u < t → a u < 9) (hn : nd < 2 * t - 1) (hb : ab < 9) (h : ∀ s, s < 9 → fc (9 * nd + s) = MC t a nd s) : ml (fun s => fc (9 * nd + s) + cmo (nI s) (nI ab)) 9 = LBt t a (SP t a) nd ab := by
  by_cases q : nd < t
  · rw [LB_leaf q, ← leaf_ml (a nd) (ha nd q) ab hb]
    exact ml_congr 9 (fun s hs => by rw [h s hs, MC_l q])
  · rw [LB_node q]
    have key : ∀ s, s < 9 → fc (9 * nd + s) + cmo (nI s) (nI ab) = cs ab s + SP t a nd s := fun s hs => by
      rw [h s hs, MC_n q, cm_cs s hs ab hb, Int32.add_comm]
    have k0 : (fun s => cs ab s + SP t a nd s) 0 < 9999 := bd_lt (n := 21) (by decide) (bd_add (n := 3) (m := 18) (bd_cs hb (by decide)) (SP_bd ha ht ht4 nd 0 (by omega) hn (by decide)))
    rw [← ml_mn (f := fun s => cs ab s + SP t a nd s) k0 8]
    exact ml_congr 9 key
theorem ams_MC {t nd ab : Nat} {a : Nat → Nat} {fc : Nat → Int32} (ht : 2 ≤ t) (ht4 : t ≤ 4) (ha : ∀ u, u < t → a u < 9) (hn : nd < 2 * t - 1) (hb : ab < 9) (h : ∀ s, s < 9 → fc (9 * nd + s) = MC t a nd s) : ams (fun s => fc (9 * nd + s) + cmo (nI s) (nI ab)) 9 = if nd < t then a nd else am (fun s => cs ab s + SP t a nd s) 8 := by
  by_cases q : nd < t
  · rw [if_pos q]
    exact (ams_congr 9 (fun s hs => by rw [h s hs, MC_l q])).trans (leaf_ams (a nd) (ha nd q) ab hb)
  · rw [if_neg q]
    have key : ∀ s, s < 9 → fc (9 * nd + s) + cmo (nI s) (nI ab) = cs ab s + SP t a nd s := fun s hs => by
      rw [h s hs, MC_n q, cm_cs s hs ab hb, Int32.add_comm]
    have k0 : (fun s => cs ab s + SP t a nd s) 0 < 9999 := bd_lt (n := 21) (by decide) (bd_add (n := 3) (m := 18) (bd_cs hb (by decide)) (SP_bd ha ht ht4 nd 0 (by omega) hn (by decide)))
    exact (ams_congr 9 key).trans (ams_am (f := fun s => cs ab s + SP t a nd s) k0 8).1
theorem ams_root {t : Nat} {a : Nat → Nat} {fc : Nat → Int32} (ht : 2 ≤ t) (ht4 : t ≤ 4) (ha : ∀ u, u < t → a u < 9) (h : ∀ s, s < 9 → fc (9 * (2 * t - 2) + s) = MC t a (2 * t - 2) s) : ams (fun s => fc (9 * (2 * t - 2) + s) + 0) 9 = OR t a := by
  have k0 : SP t a (2 * t - 2) 0 < 9999 := bd_lt (n := 18) (by decide) (SP_bd ha ht ht4 (2 * t - 2) 0 (by omega) (by omega) (by decide))
  exact (ams_congr 9 (fun s hs => by rw [h s hs, MC_n (by omega), Int32.add_zero])).trans (ams_am k0 8).1
def LCt (t : Nat) (a : Nat → Nat) (nd : Nat) (v : Nat → Int32) : Prop := ∀ m, m < nd → ∀ s, s < 9 → v (9 * m + s) = MC t a m s
theorem LC_u {t nd sd : Nat} {a : Nat → Nat} {v : Nat → Int32} {x : Int32} (h : LCt t a nd v) : LCt t a nd (upd v (9 * nd + sd) x) := fun m hm s hs => by
  rw [pk_un (by omega)]; exact h m hm s hs
theorem LC_s {t nd sd : Nat} {a : Nat → Nat} {v : Nat → Int32} {x : Int32} (h : ∀ s, s < sd → v (9 * nd + s) = MC t a nd s) (hx9 : x = MC t a nd sd) : ∀ s, s < sd + 1 → upd v (9 * nd + sd) x (9 * nd + s) = MC t a nd s := fun s hs => by
  by_cases e : s = sd
  · rw [e, pk_us]; exact hx9
  · rw [pk_un (by omega)]; exact h s (by omega)
theorem LC_k {t nd : Nat} {a : Nat → Nat} {v : Nat → Int32} (h : LCt t a nd v) (h2 : ∀ s, s < 9 → v (9 * nd + s) = MC t a nd s) : LCt t a (nd + 1) v := fun m hm s hs => by
  by_cases e : m = nd
  · rw [e]; exact h2 s hs
  · exact h m (by omega) s hs
/-! who stands above -/
def pa (t m : Nat) : Nat := if m < 2 then t else if t = 3 then 4 else if m < 4 then 5 else 6
theorem pa_in1 : ∀ t, t < 5 → ∀ m, m < 7 → (2 ≤ t ∧ m < 2 * t - 2) → (t ≤ pa t m ∧ pa t m < 2 * t - 1 ∧ m < pa t m) := by decide
theorem pa_in2 : ∀ t, t < 5 → ∀ m, m < 7 → (2 ≤ t ∧ m < 2 * t - 2) → (m = c1 t (pa t m) ∨ m = c2 t (pa t m)) := by decide
theorem pa_in (t : Nat) (h5 : t < 5) (m : Nat) (h7 : m < 7) (h2 : 2 ≤ t) (h3 : m < 2 * t - 2) : (t ≤ pa t m ∧ pa t m < 2 * t - 1 ∧ m < pa t m) ∧ (m = c1 t (pa t m) ∨ m = c2 t (pa t m)) := ⟨pa_in1 t h5 m h7 ⟨h2, h3⟩, pa_in2 t h5 m h7 ⟨h2, h3⟩⟩
theorem pa_c0 : ∀ t, t < 5 → ∀ nd, nd < 7 → (2 ≤ t ∧ t ≤ nd ∧ nd < 2 * t - 1) → (pa t (c1 t nd) = nd ∧ pa t (c2 t nd) = nd ∧ ¬ c1 t nd = c2 t nd) := by decide
theorem pa_c (t : Nat) (h5 : t < 5) (nd : Nat) (h7 : nd < 7) (h2 : 2 ≤ t) (h3 : t ≤ nd) (h4 : nd < 2 * t - 1) : pa t (c1 t nd) = nd ∧ pa t (c2 t nd) = nd ∧ ¬ c1 t nd = c2 t nd := pa_c0 t h5 nd h7 ⟨h2, h3, h4⟩
theorem OS_ch {t nd c : Nat} {a : Nat → Nat} (ht : 2 ≤ t) (ht4 : t ≤ 4) (h1 : t ≤ nd) (h2 : nd < 2 * t - 1) (hc : c = c1 t nd ∨ c = c2 t nd) : (if c < t then a c else am (fun s => cs (OS t a nd) s + SP t a c s) 8) = OS t a c := by
  by_cases q : c < t
  · rw [if_pos q, OS_leaf q]
  · obtain ⟨b1, b2, b3⟩ := ch_ok t (by omega) nd (by omega) ht h1 h2
    have hr : nd = 2 * t - 2 := Decidable.of_not_not (fun w => by
      obtain ⟨d1, d2⟩ := b3 w
      rcases hc with e | e
      · exact q (by rw [e]; exact d1)
      · exact q (by rw [e]; exact d2))
    have hcn : c < nd := by rcases hc with e | e <;> omega
    rw [if_neg q, OS_node q (by omega), hr, OS_root ht]
def RHt (t : Nat) (a : Nat → Nat) (nd : Nat) (v : Nat → Int32) : Prop := v (2 * t - 2) = nI (OR t a) ∧ ∀ m, m < 2 * t - 2 → nd < pa t m → v m = nI (OS t a m)
section RH
variable {t nd : Nat} {a : Nat → Nat} {v : Nat → Int32}
theorem RH_0 (ht : 2 ≤ t) (ht4 : t ≤ 4) : RHt t a (2 * t - 2) (upd v (2 * t - 2) (nI (OR t a))) := ⟨pk_us, fun m hm h => absurd h (by have := (pa_in t (by omega) m (by omega) ht hm).1.2.1; omega)⟩
theorem RH_at (ht : 2 ≤ t) (ht4 : t ≤ 4) (h2 : nd < 2 * t - 1) (h : RHt t a nd v) : v nd = nI (OS t a nd) := by
  by_cases e : nd = 2 * t - 2
  · rw [e, OS_root ht]; exact h.1
  · exact h.2 nd (by omega) (pa_in t (by omega) nd (by omega) ht (by omega)).1.2.2
theorem RH_at2 {x : Int32} (ht : 2 ≤ t) (ht4 : t ≤ 4) (h1 : t ≤ nd) (h2 : nd < 2 * t - 1) (h : RHt t a nd v) : upd v (c1 t nd) x nd = nI (OS t a nd) := by
  have hc := ch_1 t (by omega) nd (by omega) ht h1 h2
  rw [pk_un (by omega)]
  exact RH_at ht ht4 h2 h
theorem RH_s {x y : Nat} (ht : 2 ≤ t) (ht4 : t ≤ 4) (h1 : t ≤ nd) (h2 : nd < 2 * t - 1) (h : RHt t a nd v) (hx9 : x = OS t a (c1 t nd)) (hy : y = OS t a (c2 t nd)) : RHt t a (nd - 1) (upd (upd v (c1 t nd) (nI x)) (c2 t nd) (nI y)) := by
  have b1 := ch_1 t (by omega) nd (by omega) ht h1 h2
  have b2 := ch_2 t (by omega) nd (by omega) ht h1 h2
  obtain ⟨p1, p2, p3⟩ := pa_c t (by omega) nd (by omega) ht h1 h2
  refine ⟨?_, fun m hm hp => ?_⟩
  · rw [pk_un (by omega), pk_un (by omega)]; exact h.1
  · by_cases e2 : m = c2 t nd
    · rw [e2, pk_us, hy]
    · rw [pk_un e2]
      by_cases e1 : m = c1 t nd
      · rw [e1, pk_us, hx9]
      · rw [pk_un e1]
        refine h.2 m hm (Nat.lt_of_le_of_ne (by omega) (fun w => ?_))
        rcases (pa_in t (by omega) m (by omega) ht hm).2 with g | g
        · exact e1 (by rw [w]; exact g)
        · exact e2 (by rw [w]; exact g)
theorem RH_end (ht : 2 ≤ t) (ht4 : t ≤ 4) (hn : nd < t) (h : RHt t a nd v) : ∀ m, m < 2 * t - 1 → v m = nI (OS t a m) := fun m hm => by
  by_cases e : m = 2 * t - 2
  · rw [e, OS_root ht]; exact h.1
  · have := (pa_in t (by omega) m (by omega) ht (by omega)).1.1
    exact h.2 m (by omega) (by omega)
end RH
/-! all sets of the reference -/
def rv9 (t : Nat) (ka : Nat → Nat) (A : Nat → Nat → Nat → Nat) (k q m : Nat) : Int32 := if m < t then nI (A k q m) else if rb (ka k) = 0 then (-1) else nI (OS t (A k q) m)
def SRq (t : Nat) (ka : Nat → Nat) (A : Nat → Nat → Nat → Nat) (k q : Nat) (R : Nat → Int32) : Prop := ∀ y, y < q → ∀ m, m < 2 * t - 1 → R (28 * k + 7 * y + m) = rv9 t ka A k y m
def SRm (t : Nat) (ka : Nat → Nat) (A : Nat → Nat → Nat → Nat) (k q nd : Nat) (R : Nat → Int32) : Prop := ∀ m, m < nd → m < 2 * t - 1 → R (28 * k + 7 * q + m) = rv9 t ka A k q m
section SR
variable {t k q nd : Nat} {ka n : Nat → Nat} {A : Nat → Nat → Nat → Nat} {R : Nat → Int32} {x : Int32}
theorem SR_u (ht4 : t ≤ 4) (hn : ∀ y, y < k → n y < 5) (h : SMr k t ka n A R) : SMr k t ka n A (upd R (28 * k + 7 * q + nd) x) := fun y hy b hb m hm => by
  have := hn y hy
  rw [pk_un (by omega)]; exact h y hy b hb m hm
theorem SQ_u (ht4 : t ≤ 4) (h : SRq t ka A k q R) : SRq t ka A k q (upd R (28 * k + 7 * q + nd) x) := fun y hy m hm => by
  rw [pk_un (by omega)]; exact h y hy m hm
theorem SM_s (h : SRm t ka A k q nd R) (hx9 : nd < 2 * t - 1 → x = rv9 t ka A k q nd) : SRm t ka A k q (nd + 1) (upd R (28 * k + 7 * q + nd) x) := fun m hm h2 => by
  by_cases e : m = nd
  · subst e; rw [pk_us]; exact hx9 h2
  · rw [pk_un (by omega)]; exact h m (by omega) h2
theorem SQ_s (ht4 : t ≤ 4) (h : SRq t ka A k q R) (h2 : SRm t ka A k q 7 R) : SRq t ka A k (q + 1) R := fun y hy m hm => by
  by_cases e : y = q
  · rw [e]; exact h2 m (by omega) hm
  · exact h y (by omega) m hm
theorem SR_s (h : SMr k t ka n A R) (h2 : SRq t ka A k (n k) R) : SMr (k + 1) t ka n A R := fun y hy b hb m hm => by
  by_cases e : y = k
  · subst e; exact h2 b hb m hm
  · exact h y (by omega) b hb m hm
end SR
def chR (t : Nat) (ka : Nat → Nat) (A : Nat → Nat → Nat → Nat) (k q : Nat) : Int32 := if rb (ka k) = 0 then (-1) else chS t A k q
theorem FR_of {z t : Nat} {K L V Rb : Nat → Int32} {ka n : Nat → Nat} {A : Nat → Nat → Nat → Nat} (hzt : 0 < z → 2 ≤ t) (hp : PIC z t K L V ka n A) (h : SMr z t ka n A Rb) : FR z t K L Rb := fun k hk hr m hm hL y hy => by
  obtain ⟨⟨eK, h5⟩, ⟨eL, hn5⟩, hA⟩ := hp k hk
  have ht := hzt (by omega)
  have em : m = n k := (nI_eq (by omega) (by omega)).mp (hL.symm.trans eL)
  have r1 : ¬ rb (ka k) = 0 := fun q => hr (by rw [eK, ← rb_01 _ h5, q]; rfl)
  refine ⟨OR t (A k y), OR_lt, ?_⟩
  rw [h k hk y (by omega) (2 * t - 2) (by omega), if_neg (by omega), if_neg r1, OS_root ht]
/-! the tally of one law -/
theorem wU_1 {t k q u s a v : Nat} {A : Nat → Nat → Nat → Nat} {x : Int32} (hA : ∀ i, i < t → A k q i < 9) (hs : s < 9) (ha : a < 2) (hv : v < 9) : ∀ i, i ≤ t → wU t A k q x (9 * (18 * u + 2 * s + a) + v) i = if u < i ∧ OR t (A k q) = s ∧ ah q = a ∧ A k q u = v then x else 0
  | 0, _ => by rw [if_neg (fun h => absurd h.1 (Nat.not_lt_zero u))]; rfl
  | i + 1, hi => by
    have e := wU_1 (u := u) (s := s) (a := a) (v := v) (x := x) hA hs ha hv i (by omega)
    have o := OR_lt (t := t) (a := A k q)
    have g := ah_lt q
    have b := hA i (by omega)
    show wU t A k q x (9 * (18 * u + 2 * s + a) + v) i + _ = _
    rw [e]
    by_cases c : 9 * (18 * u + 2 * s + a) + v = 9 * (18 * i + 2 * OR t (A k q) + ah q) + A k q i
    · have e0 : u = i := by omega
      have e1 : OR t (A k q) = s := by omega
      have e2 : ah q = a := by omega
      have e3 : A k q i = v := by omega
      subst e0
      rw [if_pos c, if_neg (fun h => absurd h.1 (Nat.lt_irrefl u)), if_pos ⟨Nat.lt_succ_self u, e1, e2, e3⟩, Int32.zero_add]
    · rw [if_neg c, Int32.add_zero]
      by_cases d : u < i ∧ OR t (A k q) = s ∧ ah q = a ∧ A k q u = v
      · rw [if_pos d, if_pos ⟨Nat.lt_succ_of_lt d.1, d.2⟩]
      · rw [if_neg d, if_neg (fun h => ?_)]
        by_cases f : u = i
        · subst f
          obtain ⟨-, f1, f2, f3⟩ := h
          exact c (by omega)
        · exact d ⟨by omega, h.2⟩
def TQt (z0 q t : Nat) (ka n : Nat → Nat) (A : Nat → Nat → Nat → Nat) (i : Nat) (T : Nat → Int32) : Prop := ∀ v, v < 9 → T v = wZ t ka n A (9 * i + v) z0 + wQ t A z0 (nI (wg (ka z0))) (9 * i + v) q
def TZt (z0 t : Nat) (ka n : Nat → Nat) (A : Nat → Nat → Nat → Nat) (i : Nat) (T : Nat → Int32) : Prop := ∀ v, v < 9 → T v = wZ t ka n A (9 * i + v) z0
section TQ
variable {z0 q t u s a : Nat} {ka n : Nat → Nat} {A : Nat → Nat → Nat → Nat} {T : Nat → Int32}
theorem TQ_0 {i : Nat} (h : TZt z0 t ka n A i T) : TQt z0 0 t ka n A i T := fun v hv => by rw [h v hv]; exact (Int32.add_zero _).symm
theorem TQ_z {i : Nat} (hw : wg (ka z0) = 0) (h : TQt z0 0 t ka n A i T) : TZt (z0 + 1) t ka n A i T := fun v hv => by
  rw [h v hv]
  show _ = wZ t ka n A (9 * i + v) z0 + wK t ka n A (9 * i + v) z0
  unfold wK
  rw [if_pos hw]
  rfl
theorem TQ_k {i : Nat} (hw : ¬ wg (ka z0) = 0) (h : TQt z0 (n z0) t ka n A i T) : TZt (z0 + 1) t ka n A i T := fun v hv => by
  rw [h v hv]
  show _ = wZ t ka n A (9 * i + v) z0 + wK t ka n A (9 * i + v) z0
  unfold wK
  rw [if_neg hw]
theorem TQ_no (hA : ∀ i, i < t → A z0 q i < 9) (hs : s < 9) (ha : a < 2) (c : ¬ ah q = a ∨ ¬ OR t (A z0 q) = s) (h : TQt z0 q t ka n A (18 * u + 2 * s + a) T) : TQt z0 (q + 1) t ka n A (18 * u + 2 * s + a) T := fun v hv => by
  rw [h v hv]
  show _ = _ + (wQ t A z0 (nI (wg (ka z0))) (9 * (18 * u + 2 * s + a) + v) q + wU t A z0 q (nI (wg (ka z0))) (9 * (18 * u + 2 * s + a) + v) t)
  rw [wU_1 hA hs ha hv t (Nat.le_refl t), if_neg (fun w => c.elim (fun f => f w.2.2.1) (fun f => f w.2.1)), Int32.add_zero]
theorem TQ_hit {x : Int32} (hu : u < t) (hA : ∀ i, i < t → A z0 q i < 9) (hs : s < 9) (ha : a < 2) (c1 : ah q = a) (c2 : OR t (A z0 q) = s) (h : TQt z0 q t ka n A (18 * u + 2 * s + a) T) (hx9 : x = T (A z0 q u) + nI (wg (ka z0))) : TQt z0 (q + 1) t ka n A (18 * u + 2 * s + a) (upd T (A z0 q u) x) := fun v hv => by
  show _ = _ + (wQ t A z0 (nI (wg (ka z0))) (9 * (18 * u + 2 * s + a) + v) q + wU t A z0 q (nI (wg (ka z0))) (9 * (18 * u + 2 * s + a) + v) t)
  rw [wU_1 hA hs ha hv t (Nat.le_refl t)]
  by_cases e : v = A z0 q u
  · rw [if_pos ⟨hu, c2, c1, e.symm⟩, ← e, pk_us, hx9, ← e, h v hv, Int32.add_assoc]
  · rw [if_neg (fun w => e w.2.2.2.symm), Int32.add_zero, pk_un e, h v hv]
end TQ
theorem nI_ne1 {n : Nat} (h : n < 2 ^ 31) : ¬ nI n = (-1) := fun e => by
  have q := nI_pos (n := n) h
  rw [e] at q
  exact q (by decide)
theorem rb_i {x : Int32} {k : Nat} (e : x = nI k) (h : k < 5) (c : irb x = 0) : rb k = 0 := (rb_z k h).mp (by rw [rb_01 k h, ← e]; exact c)
theorem rb_j {x : Int32} {k : Nat} (e : x = nI k) (h : k < 5) (c : ¬ irb x = 0) : ¬ rb k = 0 := fun q => c (by rw [e, ← rb_01 k h]; exact (rb_z k h).mpr q)
theorem chC_s {a : Nat} {c C : Nat → Int32} (h2 : ∀ k, k < a → C k = c k) (h3 : C a = c a) : ∀ k, k < a + 1 → C k = c k := fun k hk => by
  by_cases e : k = a
  · rw [e]; exact h3
  · exact h2 k (by omega)
theorem wgb : ∀ k, k < 5 → (k = 0 → nI (wg k) = 1) ∧ (¬ k = 0 → k = 4 → nI (wg k) = 2) ∧ (¬ k = 0 → ¬ k = 4 → nI (wg k) = 0) := by decide
theorem wg_le : ∀ k, k < 5 → nI (wg k) ≤ 0 → wg k = 0 := by decide
theorem wU_0 {t k q j : Nat} {A : Nat → Nat → Nat → Nat} : ∀ u, wU t A k q 0 j u = 0
  | 0 => rfl
  | u + 1 => by
    show wU t A k q 0 j u + (if j = 9 * (18 * u + 2 * OR t (A k q) + ah q) + A k q u then (0 : Int32) else 0) = 0
    rw [wU_0 u, ite_self, Int32.add_zero]
theorem wQ_0 {t k j : Nat} {A : Nat → Nat → Nat → Nat} : ∀ q, wQ t A k 0 j q = 0
  | 0 => rfl
  | q + 1 => by
    show wQ t A k 0 j q + wU t A k q 0 j t = 0
    rw [wQ_0 q, wU_0 t, Int32.add_zero]
theorem TQ_end {z0 q t i : Nat} {ka n : Nat → Nat} {A : Nat → Nat → Nat → Nat} {T : Nat → Int32} (h : TQt z0 q t ka n A i T) (c : q = n z0 ∨ wg (ka z0) = 0) : TZt (z0 + 1) t ka n A i T := fun v hv => by
  rw [h v hv]
  show _ = wZ t ka n A (9 * i + v) z0 + wK t ka n A (9 * i + v) z0
  unfold wK
  by_cases w0 : wg (ka z0) = 0
  · rw [if_pos w0, w0]
    exact congrArg _ (wQ_0 q)
  · rw [if_neg w0]
    rcases c with e | e
    · rw [e]
    · exact absurd e w0
theorem SM_old {z t k q : Nat} {ka n : Nat → Nat} {A : Nat → Nat → Nat → Nat} {R : Nat → Int32} (ht : 2 ≤ t) (h : SMr z t ka n A R) (hk : k < z) (hr : ¬ rb (ka k) = 0) (hq : q < n k) : R (28 * k + 7 * q + (2 * t - 2)) = nI (OR t (A k q)) := by
  rw [h k hk q hq (2 * t - 2) (by omega), if_neg (by omega), if_neg hr, OS_root ht]
theorem ah_0 {q : Nat} (h : q = 0) : ah q = 1 := if_pos h
theorem ah_1 {q : Nat} (h : ¬ q = 0) : ah q = 0 := if_neg h
def po_X9_belowFirst_f (g : GG) (t : Nat) (nd : Nat) : Int32 → va_W → Prop := fun (r : Int32) w => w = [] ∧ (nI (c1 t nd) = r)
set_option maxHeartbeats 1500000 in
set_option maxRecDepth 100000 in
theorem c_X9_belowFirst_f (l : Launch) (g : GG) (t : Nat) (nd : Nat) (ht : 2 ≤ t) (ht4 : t ≤ 4) (hnt : t ≤ nd) (hnn : nd < 2 * t - 1) (sz : Nat) : MetI l yX9_belowFirst wsX9_belowFirst ({ frames := 0, cells := 0, slots := 0, locals := 0 }) g [.int (nI t), .int (nI nd)] [] sz (po_X9_belowFirst_f g t nd) 0 0 := by
  refine k_of (l := l) (y := yX9_belowFirst) (ws := wsX9_belowFirst) (rm := { frames := 0, cells := 0, slots := 0, locals := 0 }) (mc := 0) (ms := 0) (av := [.int (nI t), .int (nI nd)]) (g := g) (wc := []) (Qc := fun A => va_Qi (po_X9_belowFirst_f g t nd) (bk g A) A) (cc := cX9_belowFirst) (maxL := 2) (ret := (some .int)) (by decide) rfl (Nat.le_of_ble_eq_true rfl) ?_ sz
  intro p e s m below meth c hx hb hr hts hown hlocks hnm hml A hA hE hZ hP hD hS ls hl
  have hown : s.vm.findClass RX9 = some m.cls := hown
  have hl : lv_has ls 2 [(0, .int (nI t)), (1, .int (nI nd))] := hl
  refine lv_iload_n hx hb dX9_belowFirst_0 rfl (lv_at hl 1 rfl) ?_
  refine lv_iload_n hx hb dX9_belowFirst_1 rfl (lv_at hl 0 rfl) ?_
  refine lv_icmp_ne (tgt := 9) hx hb dX9_belowFirst_2 (by decide) (fun c2_1 => ?_) (fun c2_1 => ?_)
  · skip
    refine lv_iload_n hx hb dX9_belowFirst_9 rfl (lv_at hl 0 rfl) ?_
    refine lv_iconst (v := 3) hx hb dX9_belowFirst_10 (by decide) ?_
    refine lv_icmp_ne (tgt := 18) hx hb dX9_belowFirst_11 (by decide) (fun c11_2 => ?_) (fun c11_2 => ?_)
    · skip
      refine lv_iload_n hx hb dX9_belowFirst_18 rfl (lv_at hl 1 rfl) ?_
      refine lv_iconst (v := 5) hx hb dX9_belowFirst_19 (by decide) ?_
      refine lv_icmp_ne (tgt := 27) hx hb dX9_belowFirst_20 (by decide) (fun c20_3 => ?_) (fun c20_3 => ?_)
      · skip
        refine lv_iconst (v := 4) hx hb dX9_belowFirst_27 (by decide) ?_
        refine W.widen (k := 0) (n := 0) (Nat.le_of_ble_eq_true rfl) (Nat.le_of_ble_eq_true rfl) ?_
        exact k_ri hx hb hr hlocks hS hP hD ⟨rfl, (by rw [((bel_12 t (by omega) nd (by omega) ht hnt hnn).2.2.2 (fun q9 => c2_1 (by rw [q9])) (fun q9 => c11_2 (by rw [q9]; rfl)) (fun q9 => c20_3 (by rw [q9]; rfl))).1]; rfl)⟩ dX9_belowFirst_28
      · skip
        refine lv_iconst (v := 2) hx hb dX9_belowFirst_23 (by decide) ?_
        refine lv_goto (tgt := 28) hx hb dX9_belowFirst_24 (by decide) ?_
        refine W.widen (k := 0) (n := 0) (Nat.le_of_ble_eq_true rfl) (Nat.le_of_ble_eq_true rfl) ?_
        exact k_ri hx hb hr hlocks hS hP hD ⟨rfl, (by rw [((bel_12 t (by omega) nd (by omega) ht hnt hnn).2.2.1 (fun q9 => c2_1 (by rw [q9])) (fun q9 => c11_2 (by rw [q9]; rfl)) ((nI_eq (b := 5) (by omega) (by decide)).mp c20_3)).1]; rfl)⟩ dX9_belowFirst_28
    · skip
      refine lv_iconst (v := 3) hx hb dX9_belowFirst_14 (by decide) ?_
      refine lv_goto (tgt := 28) hx hb dX9_belowFirst_15 (by decide) ?_
      refine W.widen (k := 0) (n := 0) (Nat.le_of_ble_eq_true rfl) (Nat.le_of_ble_eq_true rfl) ?_
      exact k_ri hx hb hr hlocks hS hP hD ⟨rfl, (by rw [((bel_12 t (by omega) nd (by omega) ht hnt hnn).2.1 (fun q9 => c2_1 (by rw [q9])) ((nI_eq (b := 3) (by omega) (by decide)).mp c11_2)).1]; rfl)⟩ dX9_belowFirst_28
  · skip
    refine lv_iconst (v := 0) hx hb dX9_belowFirst_5 (by decide) ?_
    refine lv_goto (tgt := 28) hx hb dX9_belowFirst_6 (by decide) ?_
    refine W.widen (k := 0) (n := 0) (Nat.le_of_ble_eq_true rfl) (Nat.le_of_ble_eq_true rfl) ?_
    exact k_ri hx hb hr hlocks hS hP hD ⟨rfl, (by rw [((bel_12 t (by omega) nd (by omega) ht hnt hnn).1 ((nI_eq (by omega) (by omega)).mp c2_1)).1]; rfl)⟩ dX9_belowFirst_28
def po_X9_belowSecond_f (g : GG) (t : Nat) (nd : Nat) : Int32 → va_W → Prop := fun (r : Int32) w => w = [] ∧ (nI (c2 t nd) = r)
set_option maxHeartbeats 1500000 in
set_option maxRecDepth 100000 in
theorem c_X9_belowSecond_f (l : Launch) (g : GG) (t : Nat) (nd : Nat) (ht : 2 ≤ t) (ht4 : t ≤ 4) (hnt : t ≤ nd) (hnn : nd < 2 * t - 1) (sz : Nat) : MetI l yX9_belowSecond wsX9_belowSecond ({ frames := 0, cells := 0, slots := 0, locals := 0 }) g [.int (nI t), .int (nI nd)] [] sz (po_X9_belowSecond_f g t nd) 0 0 := by
  refine k_of (l := l) (y := yX9_belowSecond) (ws := wsX9_belowSecond) (rm := { frames := 0, cells := 0, slots := 0, locals := 0 }) (mc := 0) (ms := 0) (av := [.int (nI t), .int (nI nd)]) (g := g) (wc := []) (Qc := fun A => va_Qi (po_X9_belowSecond_f g t nd) (bk g A) A) (cc := cX9_belowSecond) (maxL := 2) (ret := (some .int)) (by decide) rfl (Nat.le_of_ble_eq_true rfl) ?_ sz
  intro p e s m below meth c hx hb hr hts hown hlocks hnm hml A hA hE hZ hP hD hS ls hl
  have hown : s.vm.findClass RX9 = some m.cls := hown
  have hl : lv_has ls 2 [(0, .int (nI t)), (1, .int (nI nd))] := hl
  refine lv_iload_n hx hb dX9_belowSecond_0 rfl (lv_at hl 1 rfl) ?_
  refine lv_iload_n hx hb dX9_belowSecond_1 rfl (lv_at hl 0 rfl) ?_
  refine lv_icmp_ne (tgt := 9) hx hb dX9_belowSecond_2 (by decide) (fun c2_1 => ?_) (fun c2_1 => ?_)
  · skip
    refine lv_iload_n hx hb dX9_belowSecond_9 rfl (lv_at hl 0 rfl) ?_
    refine lv_iconst (v := 3) hx hb dX9_belowSecond_10 (by decide) ?_
    refine lv_icmp_ne (tgt := 18) hx hb dX9_belowSecond_11 (by decide) (fun c11_2 => ?_) (fun c11_2 => ?_)
    · skip
      refine lv_iload_n hx hb dX9_belowSecond_18 rfl (lv_at hl 1 rfl) ?_
      refine lv_iconst (v := 5) hx hb dX9_belowSecond_19 (by decide) ?_
      refine lv_icmp_ne (tgt := 27) hx hb dX9_belowSecond_20 (by decide) (fun c20_3 => ?_) (fun c20_3 => ?_)
      · skip
        refine lv_iconst (v := 5) hx hb dX9_belowSecond_27 (by decide) ?_
        refine W.widen (k := 0) (n := 0) (Nat.le_of_ble_eq_true rfl) (Nat.le_of_ble_eq_true rfl) ?_
        exact k_ri hx hb hr hlocks hS hP hD ⟨rfl, (by rw [((bel_12 t (by omega) nd (by omega) ht hnt hnn).2.2.2 (fun q9 => c2_1 (by rw [q9])) (fun q9 => c11_2 (by rw [q9]; rfl)) (fun q9 => c20_3 (by rw [q9]; rfl))).2]; rfl)⟩ dX9_belowSecond_28
      · skip
        refine lv_iconst (v := 3) hx hb dX9_belowSecond_23 (by decide) ?_
        refine lv_goto (tgt := 28) hx hb dX9_belowSecond_24 (by decide) ?_
        refine W.widen (k := 0) (n := 0) (Nat.le_of_ble_eq_true rfl) (Nat.le_of_ble_eq_true rfl) ?_
        exact k_ri hx hb hr hlocks hS hP hD ⟨rfl, (by rw [((bel_12 t (by omega) nd (by omega) ht hnt hnn).2.2.1 (fun q9 => c2_1 (by rw [q9])) (fun q9 => c11_2 (by rw [q9]; rfl)) ((nI_eq (b := 5) (by omega) (by decide)).mp c20_3)).2]; rfl)⟩ dX9_belowSecond_28
    · skip
      refine lv_iconst (v := 2) hx hb dX9_belowSecond_14 (by decide) ?_
      refine lv_goto (tgt := 28) hx hb dX9_belowSecond_15 (by decide) ?_
      refine W.widen (k := 0) (n := 0) (Nat.le_of_ble_eq_true rfl) (Nat.le_of_ble_eq_true rfl) ?_
      exact k_ri hx hb hr hlocks hS hP hD ⟨rfl, (by rw [((bel_12 t (by omega) nd (by omega) ht hnt hnn).2.1 (fun q9 => c2_1 (by rw [q9])) ((nI_eq (b := 3) (by omega) (by decide)).mp c11_2)).2]; rfl)⟩ dX9_belowSecond_28
  · skip
    refine lv_iconst (v := 1) hx hb dX9_belowSecond_5 (by decide) ?_
    refine lv_goto (tgt := 28) hx hb dX9_belowSecond_6 (by decide) ?_
    refine W.widen (k := 0) (n := 0) (Nat.le_of_ble_eq_true rfl) (Nat.le_of_ble_eq_true rfl) ?_
    exact k_ri hx hb hr hlocks hS hP hD ⟨rfl, (by rw [((bel_12 t (by omega) nd (by omega) ht hnt hnn).1 ((nI_eq (by omega) (by omega)).mp c2_1)).2]; rfl)⟩ dX9_belowSecond_28
def po_X9_least_f (g : GG) (k0 : Nat) (m0 : Nat) (s1 : Int32) (s2 : Int32) (s3 : Int32) (s4 : Int32) (s5 : Int32) (s6 : Int32) (m7 : Nat) (m8 : Nat) (m9 : Nat) (s10 : Int32) (s11 : Int32) (s12 : Int32) (m13 : Nat) (m14 : Nat) (m15 : Nat) (s16 : Int32) (m17 : Nat) (m18 : Nat) (m19 : Nat) (m20 : Nat) (m21 : Nat) (m22 : Nat) (m23 : Nat) (m24 : Nat) (m25 : Nat) (m26 : Nat) (m27 : Nat) (m28 : Nat) (s29 : Int32) (m30 : Nat) (s31 : Int32) (s32 : Int32) (s33 : Int32) (s34 : Int32) (s35 : Int32) (m36 : Nat) (m37 : Nat) (m38 : Nat) (m39 : Nat) (s40 : Int64) (fc : Nat → Int32) (nd : Nat) (ab : Nat) : Int32 → va_W → Prop := fun (r : Int32) w => w = [(k0, .inr (9, [.ref m0, .int s1, .int s2, .int s3, .int s4, .int s5, .int s6, .ref m7, .ref m8, .ref m9, .int s10, .int s11, .int s12, .ref m13, .ref m14, .ref m15, .int s16, .ref m17, .ref m18, .ref m19, .ref m20, .ref m21, .ref m22, .ref m23, .ref m24, .ref m25, .ref m26, .ref m27, .ref m28, .int s29, .ref m30, .int s31, .int s32, .int s33, .int s34, .int s35, .ref m36, .ref m37, .ref m38, .ref m39, .long s40])), (m17, ai g 63 fc)] ∧ (ml (fun s => fc (9 * nd + s) + cmo (nI s) (nI ab)) 9 = r)
theorem q_X9_least_f_f9 : ∀ w ∈ u_ws RX9 TX9 41, w ∈ wsX9_least := by decide +kernel
theorem q_X9_least_f_1 : (Cond.fieldLink RX9 31 "SoundLawsModel" "costs" "[I") ∈ wsX9_least := by decide +kernel
set_option maxHeartbeats 1500000 in
set_option maxRecDepth 100000 in
theorem c_X9_least_f (l : Launch) (g : GG) (k0 : Nat) (m0 : Nat) (s1 : Int32) (s2 : Int32) (s3 : Int32) (s4 : Int32) (s5 : Int32) (s6 : Int32) (m7 : Nat) (m8 : Nat) (m9 : Nat) (s10 : Int32) (s11 : Int32) (s12 : Int32) (m13 : Nat) (m14 : Nat) (m15 : Nat) (s16 : Int32) (m17 : Nat) (m18 : Nat) (m19 : Nat) (m20 : Nat) (m21 : Nat) (m22 : Nat) (m23 : Nat) (m24 : Nat) (m25 : Nat) (m26 : Nat) (m27 : Nat) (m28 : Nat) (s29 : Int32) (m30 : Nat) (s31 : Int32) (s32 : Int32) (s33 : Int32) (s34 : Int32) (s35 : Int32) (m36 : Nat) (m37 : Nat) (m38 : Nat) (m39 : Nat) (s40 : Int64) (fc : Nat → Int32) (nd : Nat) (ab : Nat) (hnd : nd < 7) (sz : Nat) : MetI l yX9_least wsX9_least ({ frames := 3, cells := 0, slots := 0, locals := 66 }) g [.ref k0, .int (nI nd), .int (nI ab)] [(k0, .inr (9, [.ref m0, .int s1, .int s2, .int s3, .int s4, .int s5, .int s6, .ref m7, .ref m8, .ref m9, .int s10, .int s11, .int s12, .ref m13, .ref m14, .ref m15, .int s16, .ref m17, .ref m18, .ref m19, .ref m20, .ref m21, .ref m22, .ref m23, .ref m24, .ref m25, .ref m26, .ref m27, .ref m28, .int s29, .ref m30, .int s31, .int s32, .int s33, .int s34, .int s35, .ref m36, .ref m37, .ref m38, .ref m39, .long s40])), (m17, ai g 63 fc)] sz (po_X9_least_f g k0 m0 s1 s2 s3 s4 s5 s6 m7 m8 m9 s10 s11 s12 m13 m14 m15 s16 m17 m18 m19 m20 m21 m22 m23 m24 m25 m26 m27 m28 s29 m30 s31 s32 s33 s34 s35 m36 m37 m38 m39 s40 fc nd ab) 0 0 := by
  refine k_of (l := l) (y := yX9_least) (ws := wsX9_least) (rm := { frames := 3, cells := 0, slots := 0, locals := 66 }) (mc := 0) (ms := 0) (av := [.ref k0, .int (nI nd), .int (nI ab)]) (g := g) (wc := [(k0, .inr (9, [.ref m0, .int s1, .int s2, .int s3, .int s4, .int s5, .int s6, .ref m7, .ref m8, .ref m9, .int s10, .int s11, .int s12, .ref m13, .ref m14, .ref m15, .int s16, .ref m17, .ref m18, .ref m19, .ref m20, .ref m21, .ref m22, .ref m23, .ref m24, .ref m25, .ref m26, .ref m27, .ref m28, .int s29, .ref m30, .int s31, .int s32, .int s33, .int s34, .int s35, .ref m36, .ref m37, .ref m38, .ref m39, .long s40])), (m17, ai g 63 fc)]) (Qc := fun A => va_Qi (po_X9_least_f g k0 m0 s1 s2 s3 s4 s5 s6 m7 m8 m9 s10 s11 s12 m13 m14 m15 s16 m17 m18 m19 m20 m21 m22 m23 m24 m25 m26 m27 m28 s29 m30 s31 s32 s33 s34 s35 m36 m37 m38 m39 s40 fc nd ab) (bk g A) A) (cc := cX9_least) (maxL := 6) (ret := (some .int)) (by decide) rfl (Nat.le_of_ble_eq_true rfl) ?_ sz
  intro p e s m below meth c hx hb hr hts hown hlocks hnm hml A hA hE hZ hP hD hS ls hl
  have hown : s.vm.findClass RX9 = some m.cls := hown
  have hl : lv_has ls 6 [(0, .ref k0), (1, .int (nI nd)), (2, .int (nI ab))] := hl
  refine lv_sipush (v := 9999) hx hb dX9_least_0 (by decide) ?_
  refine lv_istore_n (lv' := [(3, .int 9999), (0, .ref k0), (1, .int (nI nd)), (2, .int (nI ab))]) hx hb dX9_least_3 rfl hl (by decide) rfl (fun ls hl => ?_)
  refine lv_iconst (v := 0) hx hb dX9_least_4 (by decide) ?_
  refine lv_istore (lv' := [(4, .int 0), (3, .int 9999), (0, .ref k0), (1, .int (nI nd)), (2, .int (nI ab))]) hx hb dX9_least_5 hl (by decide) rfl (fun ls hl => ?_)
  have loop7 : ∀ (fu : Nat) (j : Nat) (x3 : Int32), (hj : j ≤ 9) → (e3 : x3 = ml (fun s => fc (9 * nd + s) + cmo (nI s) (nI ab)) j) → 9 - j < fu → ∀ (H : Heap) (locs : List Loc) (ls : Array Slot), va_P g.1 vwCl [(k0, .inr (9, [.ref m0, .int s1, .int s2, .int s3, .int s4, .int s5, .int s6, .ref m7, .ref m8, .ref m9, .int s10, .int s11, .int s12, .ref m13, .ref m14, .ref m15, .int s16, .ref m17, .ref m18, .ref m19, .ref m20, .ref m21, .ref m22, .ref m23, .ref m24, .ref m25, .ref m26, .ref m27, .ref m28, .int s29, .ref m30, .int s31, .int s32, .int s33, .int s34, .int s35, .ref m36, .ref m37, .ref m38, .ref m39, .long s40])), (m17, ai g 63 fc)] H → va_D A [(k0, .inr (9, [.ref m0, .int s1, .int s2, .int s3, .int s4, .int s5, .int s6, .ref m7, .ref m8, .ref m9, .int s10, .int s11, .int s12, .ref m13, .ref m14, .ref m15, .int s16, .ref m17, .ref m18, .ref m19, .ref m20, .ref m21, .ref m22, .ref m23, .ref m24, .ref m25, .ref m26, .ref m27, .ref m28, .int s29, .ref m30, .int s31, .int s32, .int s33, .int s34, .int s35, .ref m36, .ref m37, .ref m38, .ref m39, .long s40])), (m17, ai g 63 fc)] → va_S A s.heap H locs → lv_has ls 6 [(0, .ref k0), (1, .int (nI nd)), (2, .int (nI ab)), (3, .int x3), (4, .int (nI j))] → W p l e ({ frames := 3, cells := 0, slots := 0, locals := 66 }) s m [.ref k0, .int (nI nd), .int (nI ab)].toArray below meth c H locs 0 0 (MQ below (va_Qi (po_X9_least_f g k0 m0 s1 s2 s3 s4 s5 s6 m7 m8 m9 s10 s11 s12 m13 m14 m15 s16 m17 m18 m19 m20 m21 m22 m23 m24 m25 m26 m27 m28 s29 m30 s31 s32 s33 s34 s35 m36 m37 m38 m39 s40 fc nd ab) (bk g A) A) [.ref k0, .int (nI nd), .int (nI ab)].toArray s 0 0 A) (F0 m 7 ls []) := by
    intro fu
    induction fu with
    | zero => intro j x3 hj e3 hfu; exact absurd hfu (Nat.not_lt_zero _)
    | succ fu ih =>
      intro j x3 hj e3 hfu H locs ls hP hD hS hl
      have ih7 := ih
      refine lv_iload hx hb dX9_least_7 (lv_at hl 4 rfl) ?_
      refine lv_bipush (v := 9) hx hb dX9_least_9 (by decide) ?_
      refine lv_icmp_ge (tgt := 54) hx hb dX9_least_11 (by decide) (fun c11_1 => ?_) (fun c11_1 => ?_)
      · skip
        have hj9 := ge_of_le (k := 9) (n := j) (by decide) (by omega) c11_1
        refine lv_iload_n hx hb dX9_least_54 rfl (lv_at hl 3 rfl) ?_
        refine W.widen (k := 0) (n := 0) (Nat.le_of_ble_eq_true rfl) (Nat.le_of_ble_eq_true rfl) ?_
        exact k_ri hx hb hr hlocks hS hP hD ⟨rfl, (by rw [e3, show j = 9 by omega])⟩ dX9_least_55
      · skip
        have hj9 := lt_of_nle (k := 9) (n := j) (by decide) (by omega) c11_1
        refine lv_aload_n hx hb dX9_least_14 rfl (lv_at hl 0 rfl) ?_
        refine va_get (D := g.1) (ci := 9) (v := .ref m17) (C := RX9) (T := TX9) (N := 41) hx hb hts q_X9_least_f_f9 hown hE.1 hP 0 rfl rfl 17 (by decide) (hts (.fieldLink RX9 31 "SoundLawsModel" "costs" "[I") q_X9_least_f_1) (fun _ h9 => h9) rfl dX9_least_15 ?_
        refine lv_bipush (v := 9) hx hb dX9_least_18 (by decide) ?_
        refine lv_iload_n hx hb dX9_least_20 rfl (lv_at hl 1 rfl) ?_
        refine lv_imul hx hb dX9_least_21 ?_
        refine lv_iload hx hb dX9_least_22 (lv_at hl 4 rfl) ?_
        refine lv_iadd hx hb dX9_least_24 ?_
        refine k_ald (9 * nd + j) (by rw [show (9 : Int32) = nI 9 from rfl, pk_mul, nI_add]) (by omega) hx hb hE hP 1 rfl (by decide) dX9_least_25 ?_
        refine lv_iload hx hb dX9_least_26 (lv_at hl 4 rfl) ?_
        refine lv_iload_n hx hb dX9_least_28 rfl (lv_at hl 2 rfl) ?_
        refine k_ci (wr := [(k0, .inr (9, [.ref m0, .int s1, .int s2, .int s3, .int s4, .int s5, .int s6, .ref m7, .ref m8, .ref m9, .int s10, .int s11, .int s12, .ref m13, .ref m14, .ref m15, .int s16, .ref m17, .ref m18, .ref m19, .ref m20, .ref m21, .ref m22, .ref m23, .ref m24, .ref m25, .ref m26, .ref m27, .ref m28, .int s29, .ref m30, .int s31, .int s32, .int s33, .int s34, .int s35, .ref m36, .ref m37, .ref m38, .ref m39, .long s40])), (m17, ai g 63 fc)]) hP hD hS hA [] [0, 1] rfl rfl (by decide) (by decide) (va_runS (As := [.int (nI j), .int (nI ab)]) (rest := [.int (fc (9 * nd + j))]) ⟨hx, hb, hml, hown, hts⟩ (c_X9_costOf l g (nI j) (nI ab)  H.size) (va_cwS 2 hts gX9_least_X9_costOf rfl rfl rfl (by decide +kernel) ⟨Nat.le_of_ble_eq_true rfl, Nat.le_of_ble_eq_true rfl⟩) (k_preS hE hZ hP hD hS hA [] rfl (by decide)) rfl rfl hl.1 rfl (lv_room (Nat.le_of_ble_eq_true rfl)) dX9_least_29 ⟨Nat.le_of_ble_eq_true rfl, Nat.le_of_ble_eq_true rfl⟩) (fun r_2 w1 H locs hw hP hD hS => ?_)
        obtain ⟨rfl, rfl⟩ := hw
        have hP : va_P g.1 vwCl [(k0, .inr (9, [.ref m0, .int s1, .int s2, .int s3, .int s4, .int s5, .int s6, .ref m7, .ref m8, .ref m9, .int s10, .int s11, .int s12, .ref m13, .ref m14, .ref m15, .int s16, .ref m17, .ref m18, .ref m19, .ref m20, .ref m21, .ref m22, .ref m23, .ref m24, .ref m25, .ref m26, .ref m27, .ref m28, .int s29, .ref m30, .int s31, .int s32, .int s33, .int s34, .int s35, .ref m36, .ref m37, .ref m38, .ref m39, .long s40])), (m17, ai g 63 fc)] H := hP
        have hD : va_D A [(k0, .inr (9, [.ref m0, .int s1, .int s2, .int s3, .int s4, .int s5, .int s6, .ref m7, .ref m8, .ref m9, .int s10, .int s11, .int s12, .ref m13, .ref m14, .ref m15, .int s16, .ref m17, .ref m18, .ref m19, .ref m20, .ref m21, .ref m22, .ref m23, .ref m24, .ref m25, .ref m26, .ref m27, .ref m28, .int s29, .ref m30, .int s31, .int s32, .int s33, .int s34, .int s35, .ref m36, .ref m37, .ref m38, .ref m39, .long s40])), (m17, ai g 63 fc)] := hD
        refine lv_iadd hx hb dX9_least_32 ?_
        refine lv_topi (fun x5 ex5 => ?_)
        refine lv_istore (lv' := [(5, .int x5), (0, .ref k0), (1, .int (nI nd)), (2, .int (nI ab)), (3, .int x3), (4, .int (nI j))]) hx hb dX9_least_33 hl (by decide) rfl (fun ls hl => ?_)
        refine lv_iload hx hb dX9_least_35 (lv_at hl 0 rfl) ?_
        refine lv_iload_n hx hb dX9_least_37 rfl (lv_at hl 4 rfl) ?_
        refine lv_icmp_ge (tgt := 46) hx hb dX9_least_38 (by decide) (fun c38_4 => ?_) (fun c38_4 => ?_)
        · skip
          refine lv_iload_n hx hb dX9_least_46 rfl (lv_at hl 4 rfl) ?_
          refine lv_istore_n (lv' := [(3, .int x3), (5, .int x5), (0, .ref k0), (1, .int (nI nd)), (2, .int (nI ab)), (4, .int (nI j))]) hx hb dX9_least_47 rfl hl (by decide) rfl (fun ls hl => ?_)
          refine lv_iinc (v := (nI (j + 1))) (lv' := [(4, .int (nI (j + 1))), (3, .int x3), (5, .int x5), (0, .ref k0), (1, .int (nI nd)), (2, .int (nI ab))]) hx hb dX9_least_48 hl (k := 5) rfl (nI_1 _) (by decide) rfl (fun ls hl => ?_)
          refine lv_goto (tgt := 7) hx hb dX9_least_51 (by decide) ?_
          exact ih7 (j + 1) x3 (by omega) (e3.trans (ml_f (f := (fun s => fc (9 * nd + s) + cmo (nI s) (nI ab))) (by rw [← e3]; have h9 := i_nlt c38_4; rw [ex5] at h9; exact h9)).symm) (by omega) _ _ _ hP hD hS (lv_sub hl [3, 4, 5, 1, 0] rfl)
        · skip
          refine lv_iload hx hb dX9_least_41 (lv_at hl 0 rfl) ?_
          refine lv_goto (tgt := 47) hx hb dX9_least_43 (by decide) ?_
          refine lv_istore_n (lv' := [(3, .int x5), (5, .int x5), (0, .ref k0), (1, .int (nI nd)), (2, .int (nI ab)), (4, .int (nI j))]) hx hb dX9_least_47 rfl hl (by decide) rfl (fun ls hl => ?_)
          refine lv_iinc (v := (nI (j + 1))) (lv' := [(4, .int (nI (j + 1))), (3, .int x5), (5, .int x5), (0, .ref k0), (1, .int (nI nd)), (2, .int (nI ab))]) hx hb dX9_least_48 hl (k := 5) rfl (nI_1 _) (by decide) rfl (fun ls hl => ?_)
          refine lv_goto (tgt := 7) hx hb dX9_least_51 (by decide) ?_
          exact ih7 (j + 1) x5 (by omega) (ex5.trans (ml_t (f := (fun s => fc (9 * nd + s) + cmo (nI s) (nI ab))) (by rw [← e3]; have h9 := i_nle c38_4; rw [ex5] at h9; exact h9)).symm) (by omega) _ _ _ hP hD hS (lv_sub hl [3, 4, 5, 1, 0] rfl)
  exact loop7 _ 0 9999 (Nat.zero_le 9) rfl (Nat.lt_succ_self _) _ _ _ hP hD hS (lv_sub hl [2, 3, 4, 1, 0] rfl)
def po_X9_layCosts_f (g : GG) (k0 : Nat) (m0 : Nat) (s1 : Int32) (s2 : Int32) (s3 : Int32) (s4 : Int32) (s5 : Int32) (s6 : Int32) (m7 : Nat) (m8 : Nat) (m9 : Nat) (s10 : Int32) (s11 : Int32) (s12 : Int32) (m13 : Nat) (m14 : Nat) (m15 : Nat) (s16 : Int32) (m17 : Nat) (m18 : Nat) (m19 : Nat) (m20 : Nat) (m21 : Nat) (m22 : Nat) (m23 : Nat) (m24 : Nat) (m25 : Nat) (m26 : Nat) (m27 : Nat) (m28 : Nat) (s29 : Int32) (m30 : Nat) (s31 : Int32) (s32 : Int32) (s33 : Int32) (s34 : Int32) (s35 : Int32) (m36 : Nat) (m37 : Nat) (m38 : Nat) (m39 : Nat) (s40 : Int64) (fc : Nat → Int32) (fs : Nat → Int32) (t : Nat) (a : Nat → Nat) : va_W → Prop := fun w => ∃ (gc : Nat → Int32), w = [(k0, .inr (9, [.ref m0, .int s1, .int s2, .int s3, .int s4, .int s5, .int s6, .ref m7, .ref m8, .ref m9, .int s10, .int s11, .int s12, .ref m13, .ref m14, .ref m15, .int s16, .ref m17, .ref m18, .ref m19, .ref m20, .ref m21, .ref m22, .ref m23, .ref m24, .ref m25, .ref m26, .ref m27, .ref m28, .int s29, .ref m30, .int s31, .int s32, .int s33, .int s34, .int s35, .ref m36, .ref m37, .ref m38, .ref m39, .long s40])), (m17, ai g 63 gc), (m19, ai g 4 fs)] ∧ (LCt t a (2 * t - 1) gc)
theorem q_X9_layCosts_f_f9 : ∀ w ∈ u_ws RX9 TX9 41, w ∈ wsX9_layCosts := by decide +kernel
theorem q_X9_layCosts_f_1 : (Cond.fieldLink RX9 31 "SoundLawsModel" "costs" "[I") ∈ wsX9_layCosts := by decide +kernel
theorem q_X9_layCosts_f_2 : (Cond.fieldLink RX9 37 "SoundLawsModel" "said" "[I") ∈ wsX9_layCosts := by decide +kernel
set_option maxHeartbeats 1500000 in
set_option maxRecDepth 100000 in
theorem c_X9_layCosts_f (l : Launch) (g : GG) (k0 : Nat) (m0 : Nat) (s1 : Int32) (s2 : Int32) (s3 : Int32) (s4 : Int32) (s5 : Int32) (s6 : Int32) (m7 : Nat) (m8 : Nat) (m9 : Nat) (s10 : Int32) (s11 : Int32) (s12 : Int32) (m13 : Nat) (m14 : Nat) (m15 : Nat) (s16 : Int32) (m17 : Nat) (m18 : Nat) (m19 : Nat) (m20 : Nat) (m21 : Nat) (m22 : Nat) (m23 : Nat) (m24 : Nat) (m25 : Nat) (m26 : Nat) (m27 : Nat) (m28 : Nat) (s29 : Int32) (m30 : Nat) (s31 : Int32) (s32 : Int32) (s33 : Int32) (s34 : Int32) (s35 : Int32) (m36 : Nat) (m37 : Nat) (m38 : Nat) (m39 : Nat) (s40 : Int64) (fc : Nat → Int32) (fs : Nat → Int32) (t : Nat) (a : Nat → Nat) (ht : 2 ≤ t) (ht4 : t ≤ 4) (hfa : ∀ u, u < t → fs u = nI (a u)) (ha9 : ∀ u, u < t → a u < 9) (sz : Nat) : MetV l yX9_layCosts wsX9_layCosts ({ frames := 4, cells := 0, slots := 0, locals := 91 }) g [.ref k0, .int (nI t)] [(k0, .inr (9, [.ref m0, .int s1, .int s2, .int s3, .int s4, .int s5, .int s6, .ref m7, .ref m8, .ref m9, .int s10, .int s11, .int s12, .ref m13, .ref m14, .ref m15, .int s16, .ref m17, .ref m18, .ref m19, .ref m20, .ref m21, .ref m22, .ref m23, .ref m24, .ref m25, .ref m26, .ref m27, .ref m28, .int s29, .ref m30, .int s31, .int s32, .int s33, .int s34, .int s35, .ref m36, .ref m37, .ref m38, .ref m39, .long s40])), (m17, ai g 63 fc), (m19, ai g 4 fs)] sz (po_X9_layCosts_f g k0 m0 s1 s2 s3 s4 s5 s6 m7 m8 m9 s10 s11 s12 m13 m14 m15 s16 m17 m18 m19 m20 m21 m22 m23 m24 m25 m26 m27 m28 s29 m30 s31 s32 s33 s34 s35 m36 m37 m38 m39 s40 fc fs t a) 0 0 := by
  refine k_of (l := l) (y := yX9_layCosts) (ws := wsX9_layCosts) (rm := { frames := 4, cells := 0, slots := 0, locals := 91 }) (mc := 0) (ms := 0) (av := [.ref k0, .int (nI t)]) (g := g) (wc := [(k0, .inr (9, [.ref m0, .int s1, .int s2, .int s3, .int s4, .int s5, .int s6, .ref m7, .ref m8, .ref m9, .int s10, .int s11, .int s12, .ref m13, .ref m14, .ref m15, .int s16, .ref m17, .ref m18, .ref m19, .ref m20, .ref m21, .ref m22, .ref m23, .ref m24, .ref m25, .ref m26, .ref m27, .ref m28, .int s29, .ref m30, .int s31, .int s32, .int s33, .int s34, .int s35, .ref m36, .ref m37, .ref m38, .ref m39, .long s40])), (m17, ai g 63 fc), (m19, ai g 4 fs)]) (Qc := fun A => va_Qv (po_X9_layCosts_f g k0 m0 s1 s2 s3 s4 s5 s6 m7 m8 m9 s10 s11 s12 m13 m14 m15 s16 m17 m18 m19 m20 m21 m22 m23 m24 m25 m26 m27 m28 s29 m30 s31 s32 s33 s34 s35 m36 m37 m38 m39 s40 fc fs t a) (bk g A) A) (cc := cX9_layCosts) (maxL := 4) (ret := none) (by decide) rfl (Nat.le_of_ble_eq_true rfl) ?_ sz
  intro p e s m below meth c hx hb hr hts hown hlocks hnm hml A hA hE hZ hP hD hS ls hl
  have hown : s.vm.findClass RX9 = some m.cls := hown
  have hl : lv_has ls 4 [(0, .ref k0), (1, .int (nI t))] := hl
  refine lv_iconst (v := 0) hx hb dX9_layCosts_0 (by decide) ?_
  refine lv_istore_n (lv' := [(2, .int 0), (0, .ref k0), (1, .int (nI t))]) hx hb dX9_layCosts_1 rfl hl (by decide) rfl (fun ls hl => ?_)
  have loop2 : ∀ (fu : Nat) (nd : Nat) (v1 : Nat → Int32), (hnd : nd ≤ 2 * t - 1) → (hv1 : LCt t a nd v1) → 2 * t - 1 - nd < fu → ∀ (H : Heap) (locs : List Loc) (ls : Array Slot), va_P g.1 vwCl [(k0, .inr (9, [.ref m0, .int s1, .int s2, .int s3, .int s4, .int s5, .int s6, .ref m7, .ref m8, .ref m9, .int s10, .int s11, .int s12, .ref m13, .ref m14, .ref m15, .int s16, .ref m17, .ref m18, .ref m19, .ref m20, .ref m21, .ref m22, .ref m23, .ref m24, .ref m25, .ref m26, .ref m27, .ref m28, .int s29, .ref m30, .int s31, .int s32, .int s33, .int s34, .int s35, .ref m36, .ref m37, .ref m38, .ref m39, .long s40])), (m17, ai g 63 v1), (m19, ai g 4 fs)] H → va_D A [(k0, .inr (9, [.ref m0, .int s1, .int s2, .int s3, .int s4, .int s5, .int s6, .ref m7, .ref m8, .ref m9, .int s10, .int s11, .int s12, .ref m13, .ref m14, .ref m15, .int s16, .ref m17, .ref m18, .ref m19, .ref m20, .ref m21, .ref m22, .ref m23, .ref m24, .ref m25, .ref m26, .ref m27, .ref m28, .int s29, .ref m30, .int s31, .int s32, .int s33, .int s34, .int s35, .ref m36, .ref m37, .ref m38, .ref m39, .long s40])), (m17, ai g 63 v1), (m19, ai g 4 fs)] → va_S A s.heap H locs → lv_has ls 4 [(0, .ref k0), (1, .int (nI t)), (2, .int (nI nd))] → W p l e ({ frames := 4, cells := 0, slots := 0, locals := 91 }) s m [.ref k0, .int (nI t)].toArray below meth c H locs 0 0 (MQ below (va_Qv (po_X9_layCosts_f g k0 m0 s1 s2 s3 s4 s5 s6 m7 m8 m9 s10 s11 s12 m13 m14 m15 s16 m17 m18 m19 m20 m21 m22 m23 m24 m25 m26 m27 m28 s29 m30 s31 s32 s33 s34 s35 m36 m37 m38 m39 s40 fc fs t a) (bk g A) A) [.ref k0, .int (nI t)].toArray s 0 0 A) (F0 m 2 ls []) := by
    intro fu
    induction fu with
    | zero => intro nd v1 hnd hv1 hfu; exact absurd hfu (Nat.not_lt_zero _)
    | succ fu ih =>
      intro nd v1 hnd hv1 hfu H locs ls hP hD hS hl
      have ih2 := ih
      refine lv_iload_n hx hb dX9_layCosts_2 rfl (lv_at hl 2 rfl) ?_
      refine lv_aload_n hx hb dX9_layCosts_3 rfl (lv_at hl 0 rfl) ?_
      refine lv_iload_n hx hb dX9_layCosts_4 rfl (lv_at hl 1 rfl) ?_
      refine k_ci (wr := [(k0, .inr (9, [.ref m0, .int s1, .int s2, .int s3, .int s4, .int s5, .int s6, .ref m7, .ref m8, .ref m9, .int s10, .int s11, .int s12, .ref m13, .ref m14, .ref m15, .int s16, .ref m17, .ref m18, .ref m19, .ref m20, .ref m21, .ref m22, .ref m23, .ref m24, .ref m25, .ref m26, .ref m27, .ref m28, .int s29, .ref m30, .int s31, .int s32, .int s33, .int s34, .int s35, .ref m36, .ref m37, .ref m38, .ref m39, .long s40])), (m17, ai g 63 v1), (m19, ai g 4 fs)]) hP hD hS hA [] [0, 1, 2] rfl rfl (by decide) (by decide) (va_runV (As := [.int (nI t)]) (rest := [.int (nI nd)]) ⟨hx, hb, hml, hown, hts⟩ (c_X9_nodesBy_g l g k0 t (by first | assumption | omega) (by first | assumption | omega) H.size) (cwV 1 hts gX9_layCosts_X9_nodesBy rfl rfl rfl (by decide +kernel) ⟨Nat.le_of_ble_eq_true rfl, Nat.le_of_ble_eq_true rfl⟩) (k_preV hE hZ hP hD hS hA [] rfl (by decide) (va_recv hE.1 hP (ci := 9) (q0 := 0) rfl rfl)) rfl rfl hl.1 rfl (lv_room (Nat.le_of_ble_eq_true rfl)) dX9_layCosts_5 ⟨Nat.le_of_ble_eq_true rfl, Nat.le_of_ble_eq_true rfl⟩) (fun r_1 w1 H locs hw hP hD hS => ?_)
      obtain ⟨rfl, rfl⟩ := hw
      have hP : va_P g.1 vwCl [(k0, .inr (9, [.ref m0, .int s1, .int s2, .int s3, .int s4, .int s5, .int s6, .ref m7, .ref m8, .ref m9, .int s10, .int s11, .int s12, .ref m13, .ref m14, .ref m15, .int s16, .ref m17, .ref m18, .ref m19, .ref m20, .ref m21, .ref m22, .ref m23, .ref m24, .ref m25, .ref m26, .ref m27, .ref m28, .int s29, .ref m30, .int s31, .int s32, .int s33, .int s34, .int s35, .ref m36, .ref m37, .ref m38, .ref m39, .long s40])), (m17, ai g 63 v1), (m19, ai g 4 fs)] H := hP
      have hD : va_D A [(k0, .inr (9, [.ref m0, .int s1, .int s2, .int s3, .int s4, .int s5, .int s6, .ref m7, .ref m8, .ref m9, .int s10, .int s11, .int s12, .ref m13, .ref m14, .ref m15, .int s16, .ref m17, .ref m18, .ref m19, .ref m20, .ref m21, .ref m22, .ref m23, .ref m24, .ref m25, .ref m26, .ref m27, .ref m28, .int s29, .ref m30, .int s31, .int s32, .int s33, .int s34, .int s35, .ref m36, .ref m37, .ref m38, .ref m39, .long s40])), (m17, ai g 63 v1), (m19, ai g 4 fs)] := hD
      refine lv_icmp_ge (tgt := 88) hx hb dX9_layCosts_8 (by decide) (fun c8_3 => ?_) (fun c8_3 => ?_)
      · skip
        have hnd9 := ge_of_le (k := 2 * t - 1) (n := nd) (by omega) (by omega) c8_3
        refine W.widen (k := 0) (n := 0) (Nat.le_of_ble_eq_true rfl) (Nat.le_of_ble_eq_true rfl) ?_
        exact k_rv hx hb hr hlocks hS hP hD ⟨v1, rfl, (by rw [show 2 * t - 1 = nd by omega]; exact hv1)⟩ dX9_layCosts_88
      · skip
        have hnd9 := lt_of_nle (k := 2 * t - 1) (n := nd) (by omega) (by omega) c8_3
        refine lv_iconst (v := 0) hx hb dX9_layCosts_11 (by decide) ?_
        refine lv_istore_n (lv' := [(3, .int 0), (0, .ref k0), (1, .int (nI t)), (2, .int (nI nd))]) hx hb dX9_layCosts_12 rfl hl (by decide) rfl (fun ls hl => ?_)
        have loop13 : ∀ (fu : Nat) (sd : Nat) (v2 : Nat → Int32), (hs : sd ≤ 9) → (hv2 : LCt t a nd v2) → (hw2 : ∀ s, s < sd → v2 (9 * nd + s) = MC t a nd s) → 9 - sd < fu → ∀ (H : Heap) (locs : List Loc) (ls : Array Slot), va_P g.1 vwCl [(k0, .inr (9, [.ref m0, .int s1, .int s2, .int s3, .int s4, .int s5, .int s6, .ref m7, .ref m8, .ref m9, .int s10, .int s11, .int s12, .ref m13, .ref m14, .ref m15, .int s16, .ref m17, .ref m18, .ref m19, .ref m20, .ref m21, .ref m22, .ref m23, .ref m24, .ref m25, .ref m26, .ref m27, .ref m28, .int s29, .ref m30, .int s31, .int s32, .int s33, .int s34, .int s35, .ref m36, .ref m37, .ref m38, .ref m39, .long s40])), (m17, ai g 63 v2), (m19, ai g 4 fs)] H → va_D A [(k0, .inr (9, [.ref m0, .int s1, .int s2, .int s3, .int s4, .int s5, .int s6, .ref m7, .ref m8, .ref m9, .int s10, .int s11, .int s12, .ref m13, .ref m14, .ref m15, .int s16, .ref m17, .ref m18, .ref m19, .ref m20, .ref m21, .ref m22, .ref m23, .ref m24, .ref m25, .ref m26, .ref m27, .ref m28, .int s29, .ref m30, .int s31, .int s32, .int s33, .int s34, .int s35, .ref m36, .ref m37, .ref m38, .ref m39, .long s40])), (m17, ai g 63 v2), (m19, ai g 4 fs)] → va_S A s.heap H locs → lv_has ls 4 [(0, .ref k0), (1, .int (nI t)), (2, .int (nI nd)), (3, .int (nI sd))] → W p l e ({ frames := 4, cells := 0, slots := 0, locals := 91 }) s m [.ref k0, .int (nI t)].toArray below meth c H locs 0 0 (MQ below (va_Qv (po_X9_layCosts_f g k0 m0 s1 s2 s3 s4 s5 s6 m7 m8 m9 s10 s11 s12 m13 m14 m15 s16 m17 m18 m19 m20 m21 m22 m23 m24 m25 m26 m27 m28 s29 m30 s31 s32 s33 s34 s35 m36 m37 m38 m39 s40 fc fs t a) (bk g A) A) [.ref k0, .int (nI t)].toArray s 0 0 A) (F0 m 13 ls []) := by
          intro fu
          induction fu with
          | zero => intro sd v2 hs hv2 hw2 hfu; exact absurd hfu (Nat.not_lt_zero _)
          | succ fu ih =>
            intro sd v2 hs hv2 hw2 hfu H locs ls hP hD hS hl
            have ih13 := ih
            refine lv_iload_n hx hb dX9_layCosts_13 rfl (lv_at hl 3 rfl) ?_
            refine lv_bipush (v := 9) hx hb dX9_layCosts_14 (by decide) ?_
            refine lv_icmp_ge (tgt := 82) hx hb dX9_layCosts_16 (by decide) (fun c16_4 => ?_) (fun c16_4 => ?_)
            · skip
              have hs10 := ge_of_le (k := 9) (n := sd) (by decide) (by omega) c16_4
              refine lv_iinc (v := (nI (nd + 1))) (lv' := [(2, .int (nI (nd + 1))), (0, .ref k0), (1, .int (nI t)), (3, .int (nI sd))]) hx hb dX9_layCosts_82 hl (k := 2) rfl (nI_1 _) (by decide) rfl (fun ls hl => ?_)
              refine lv_goto (tgt := 2) hx hb dX9_layCosts_85 (by decide) ?_
              exact ih2 (nd + 1) _ (by omega) (LC_k hv2 (fun s hs => hw2 s (by omega))) (by omega) _ _ _ hP hD hS (lv_sub hl [1, 2, 0] rfl)
            · skip
              have hs9 := lt_of_nle (k := 9) (n := sd) (by decide) (by omega) c16_4
              refine lv_aload_n hx hb dX9_layCosts_19 rfl (lv_at hl 0 rfl) ?_
              refine va_get (D := g.1) (ci := 9) (v := .ref m17) (C := RX9) (T := TX9) (N := 41) hx hb hts q_X9_layCosts_f_f9 hown hE.1 hP 0 rfl rfl 17 (by decide) (hts (.fieldLink RX9 31 "SoundLawsModel" "costs" "[I") q_X9_layCosts_f_1) (fun _ h9 => h9) rfl dX9_layCosts_20 ?_
              refine lv_bipush (v := 9) hx hb dX9_layCosts_23 (by decide) ?_
              refine lv_iload_n hx hb dX9_layCosts_25 rfl (lv_at hl 2 rfl) ?_
              refine lv_imul hx hb dX9_layCosts_26 ?_
              refine lv_iload_n hx hb dX9_layCosts_27 rfl (lv_at hl 3 rfl) ?_
              refine lv_iadd hx hb dX9_layCosts_28 ?_
              refine lv_iload_n hx hb dX9_layCosts_29 rfl (lv_at hl 2 rfl) ?_
              refine lv_iload_n hx hb dX9_layCosts_30 rfl (lv_at hl 1 rfl) ?_
              refine lv_icmp_ge (tgt := 54) hx hb dX9_layCosts_31 (by decide) (fun c31_5 => ?_) (fun c31_5 => ?_)
              · skip
                have hnt := ge_of_le (k := t) (n := nd) (by omega) (by omega) c31_5
                obtain ⟨hc1, hc2, hc3⟩ := ch_ok t (by omega) nd (by omega) ht hnt (by omega)
                refine lv_aload_n hx hb dX9_layCosts_54 rfl (lv_at hl 0 rfl) ?_
                refine lv_iload_n hx hb dX9_layCosts_55 rfl (lv_at hl 1 rfl) ?_
                refine lv_iload_n hx hb dX9_layCosts_56 rfl (lv_at hl 2 rfl) ?_
                refine k_ci (wr := [(k0, .inr (9, [.ref m0, .int s1, .int s2, .int s3, .int s4, .int s5, .int s6, .ref m7, .ref m8, .ref m9, .int s10, .int s11, .int s12, .ref m13, .ref m14, .ref m15, .int s16, .ref m17, .ref m18, .ref m19, .ref m20, .ref m21, .ref m22, .ref m23, .ref m24, .ref m25, .ref m26, .ref m27, .ref m28, .int s29, .ref m30, .int s31, .int s32, .int s33, .int s34, .int s35, .ref m36, .ref m37, .ref m38, .ref m39, .long s40])), (m17, ai g 63 v2), (m19, ai g 4 fs)]) hP hD hS hA [] [0, 1, 2] rfl rfl (by decide) (by decide) (va_runS (As := [.int (nI t), .int (nI nd)]) (rest := [.ref k0, .int ((9 * (nI nd)) + (nI sd)), .ref m17]) ⟨hx, hb, hml, hown, hts⟩ (c_X9_belowFirst_f l g t nd (by first | assumption | omega) (by first | assumption | omega) (by first | assumption | omega) (by first | assumption | omega) H.size) (va_cwS 2 hts gX9_layCosts_X9_belowFirst rfl rfl rfl (by decide +kernel) ⟨Nat.le_of_ble_eq_true rfl, Nat.le_of_ble_eq_true rfl⟩) (k_preS hE hZ hP hD hS hA [] rfl (by decide)) rfl rfl hl.1 rfl (lv_room (Nat.le_of_ble_eq_true rfl)) dX9_layCosts_57 ⟨Nat.le_of_ble_eq_true rfl, Nat.le_of_ble_eq_true rfl⟩) (fun r_6 w1 H locs hw hP hD hS => ?_)
                obtain ⟨rfl, rfl⟩ := hw
                have hP : va_P g.1 vwCl [(k0, .inr (9, [.ref m0, .int s1, .int s2, .int s3, .int s4, .int s5, .int s6, .ref m7, .ref m8, .ref m9, .int s10, .int s11, .int s12, .ref m13, .ref m14, .ref m15, .int s16, .ref m17, .ref m18, .ref m19, .ref m20, .ref m21, .ref m22, .ref m23, .ref m24, .ref m25, .ref m26, .ref m27, .ref m28, .int s29, .ref m30, .int s31, .int s32, .int s33, .int s34, .int s35, .ref m36, .ref m37, .ref m38, .ref m39, .long s40])), (m17, ai g 63 v2), (m19, ai g 4 fs)] H := hP
                have hD : va_D A [(k0, .inr (9, [.ref m0, .int s1, .int s2, .int s3, .int s4, .int s5, .int s6, .ref m7, .ref m8, .ref m9, .int s10, .int s11, .int s12, .ref m13, .ref m14, .ref m15, .int s16, .ref m17, .ref m18, .ref m19, .ref m20, .ref m21, .ref m22, .ref m23, .ref m24, .ref m25, .ref m26, .ref m27, .ref m28, .int s29, .ref m30, .int s31, .int s32, .int s33, .int s34, .int s35, .ref m36, .ref m37, .ref m38, .ref m39, .long s40])), (m17, ai g 63 v2), (m19, ai g 4 fs)] := hD
                refine lv_iload_n hx hb dX9_layCosts_60 rfl (lv_at hl 3 rfl) ?_
                refine k_ci (wr := [(m19, ai g 4 fs)]) hP hD hS hA [0, 1] [2] rfl rfl (by decide) (by decide) (va_runV (As := [.int (nI (c1 t nd)), .int (nI sd)]) (rest := [.int ((9 * (nI nd)) + (nI sd)), .ref m17]) ⟨hx, hb, hml, hown, hts⟩ (c_X9_least_f l g k0 m0 s1 s2 s3 s4 s5 s6 m7 m8 m9 s10 s11 s12 m13 m14 m15 s16 m17 m18 m19 m20 m21 m22 m23 m24 m25 m26 m27 m28 s29 m30 s31 s32 s33 s34 s35 m36 m37 m38 m39 s40 v2 (c1 t nd) sd (by first | assumption | omega) H.size) (cwV 2 hts gX9_layCosts_X9_least rfl rfl rfl (by decide +kernel) ⟨Nat.le_of_ble_eq_true rfl, Nat.le_of_ble_eq_true rfl⟩) (k_preV hE hZ hP hD hS hA [0, 1] rfl (by decide) (va_recv hE.1 hP (ci := 9) (q0 := 0) rfl rfl)) rfl rfl hl.1 rfl (lv_room (Nat.le_of_ble_eq_true rfl)) dX9_layCosts_61 ⟨Nat.le_of_ble_eq_true rfl, Nat.le_of_ble_eq_true rfl⟩) (fun r_8 w1 H locs hw hP hD hS => ?_)
                obtain ⟨rfl, rfl⟩ := hw
                have hP : va_P g.1 vwCl [(m19, ai g 4 fs), (k0, .inr (9, [.ref m0, .int s1, .int s2, .int s3, .int s4, .int s5, .int s6, .ref m7, .ref m8, .ref m9, .int s10, .int s11, .int s12, .ref m13, .ref m14, .ref m15, .int s16, .ref m17, .ref m18, .ref m19, .ref m20, .ref m21, .ref m22, .ref m23, .ref m24, .ref m25, .ref m26, .ref m27, .ref m28, .int s29, .ref m30, .int s31, .int s32, .int s33, .int s34, .int s35, .ref m36, .ref m37, .ref m38, .ref m39, .long s40])), (m17, ai g 63 v2)] H := hP
                have hD : va_D A [(m19, ai g 4 fs), (k0, .inr (9, [.ref m0, .int s1, .int s2, .int s3, .int s4, .int s5, .int s6, .ref m7, .ref m8, .ref m9, .int s10, .int s11, .int s12, .ref m13, .ref m14, .ref m15, .int s16, .ref m17, .ref m18, .ref m19, .ref m20, .ref m21, .ref m22, .ref m23, .ref m24, .ref m25, .ref m26, .ref m27, .ref m28, .int s29, .ref m30, .int s31, .int s32, .int s33, .int s34, .int s35, .ref m36, .ref m37, .ref m38, .ref m39, .long s40])), (m17, ai g 63 v2)] := hD
                refine lv_aload_n hx hb dX9_layCosts_64 rfl (lv_at hl 0 rfl) ?_
                refine lv_iload_n hx hb dX9_layCosts_65 rfl (lv_at hl 1 rfl) ?_
                refine lv_iload_n hx hb dX9_layCosts_66 rfl (lv_at hl 2 rfl) ?_
                refine k_ci (wr := [(m19, ai g 4 fs), (k0, .inr (9, [.ref m0, .int s1, .int s2, .int s3, .int s4, .int s5, .int s6, .ref m7, .ref m8, .ref m9, .int s10, .int s11, .int s12, .ref m13, .ref m14, .ref m15, .int s16, .ref m17, .ref m18, .ref m19, .ref m20, .ref m21, .ref m22, .ref m23, .ref m24, .ref m25, .ref m26, .ref m27, .ref m28, .int s29, .ref m30, .int s31, .int s32, .int s33, .int s34, .int s35, .ref m36, .ref m37, .ref m38, .ref m39, .long s40])), (m17, ai g 63 v2)]) hP hD hS hA [] [0, 1, 2] rfl rfl (by decide) (by decide) (va_runS (As := [.int (nI t), .int (nI nd)]) (rest := [.ref k0, .int (ml (fun s => v2 (9 * (c1 t nd) + s) + cmo (nI s) (nI sd)) 9), .int ((9 * (nI nd)) + (nI sd)), .ref m17]) ⟨hx, hb, hml, hown, hts⟩ (c_X9_belowSecond_f l g t nd (by first | assumption | omega) (by first | assumption | omega) (by first | assumption | omega) (by first | assumption | omega) H.size) (va_cwS 2 hts gX9_layCosts_X9_belowSecond rfl rfl rfl (by decide +kernel) ⟨Nat.le_of_ble_eq_true rfl, Nat.le_of_ble_eq_true rfl⟩) (k_preS hE hZ hP hD hS hA [] rfl (by decide)) rfl rfl hl.1 rfl (lv_room (Nat.le_of_ble_eq_true rfl)) dX9_layCosts_67 ⟨Nat.le_of_ble_eq_true rfl, Nat.le_of_ble_eq_true rfl⟩) (fun r_10 w1 H locs hw hP hD hS => ?_)
                obtain ⟨rfl, rfl⟩ := hw
                have hP : va_P g.1 vwCl [(m19, ai g 4 fs), (k0, .inr (9, [.ref m0, .int s1, .int s2, .int s3, .int s4, .int s5, .int s6, .ref m7, .ref m8, .ref m9, .int s10, .int s11, .int s12, .ref m13, .ref m14, .ref m15, .int s16, .ref m17, .ref m18, .ref m19, .ref m20, .ref m21, .ref m22, .ref m23, .ref m24, .ref m25, .ref m26, .ref m27, .ref m28, .int s29, .ref m30, .int s31, .int s32, .int s33, .int s34, .int s35, .ref m36, .ref m37, .ref m38, .ref m39, .long s40])), (m17, ai g 63 v2)] H := hP
                have hD : va_D A [(m19, ai g 4 fs), (k0, .inr (9, [.ref m0, .int s1, .int s2, .int s3, .int s4, .int s5, .int s6, .ref m7, .ref m8, .ref m9, .int s10, .int s11, .int s12, .ref m13, .ref m14, .ref m15, .int s16, .ref m17, .ref m18, .ref m19, .ref m20, .ref m21, .ref m22, .ref m23, .ref m24, .ref m25, .ref m26, .ref m27, .ref m28, .int s29, .ref m30, .int s31, .int s32, .int s33, .int s34, .int s35, .ref m36, .ref m37, .ref m38, .ref m39, .long s40])), (m17, ai g 63 v2)] := hD
                refine lv_iload_n hx hb dX9_layCosts_70 rfl (lv_at hl 3 rfl) ?_
                refine k_ci (wr := [(m19, ai g 4 fs)]) hP hD hS hA [1, 2] [0] rfl rfl (by decide) (by decide) (va_runV (As := [.int (nI (c2 t nd)), .int (nI sd)]) (rest := [.int (ml (fun s => v2 (9 * (c1 t nd) + s) + cmo (nI s) (nI sd)) 9), .int ((9 * (nI nd)) + (nI sd)), .ref m17]) ⟨hx, hb, hml, hown, hts⟩ (c_X9_least_f l g k0 m0 s1 s2 s3 s4 s5 s6 m7 m8 m9 s10 s11 s12 m13 m14 m15 s16 m17 m18 m19 m20 m21 m22 m23 m24 m25 m26 m27 m28 s29 m30 s31 s32 s33 s34 s35 m36 m37 m38 m39 s40 v2 (c2 t nd) sd (by first | assumption | omega) H.size) (cwV 2 hts gX9_layCosts_X9_least rfl rfl rfl (by decide +kernel) ⟨Nat.le_of_ble_eq_true rfl, Nat.le_of_ble_eq_true rfl⟩) (k_preV hE hZ hP hD hS hA [1, 2] rfl (by decide) (va_recv hE.1 hP (ci := 9) (q0 := 1) rfl rfl)) rfl rfl hl.1 rfl (lv_room (Nat.le_of_ble_eq_true rfl)) dX9_layCosts_71 ⟨Nat.le_of_ble_eq_true rfl, Nat.le_of_ble_eq_true rfl⟩) (fun r_12 w1 H locs hw hP hD hS => ?_)
                obtain ⟨rfl, rfl⟩ := hw
                have hP : va_P g.1 vwCl [(m19, ai g 4 fs), (k0, .inr (9, [.ref m0, .int s1, .int s2, .int s3, .int s4, .int s5, .int s6, .ref m7, .ref m8, .ref m9, .int s10, .int s11, .int s12, .ref m13, .ref m14, .ref m15, .int s16, .ref m17, .ref m18, .ref m19, .ref m20, .ref m21, .ref m22, .ref m23, .ref m24, .ref m25, .ref m26, .ref m27, .ref m28, .int s29, .ref m30, .int s31, .int s32, .int s33, .int s34, .int s35, .ref m36, .ref m37, .ref m38, .ref m39, .long s40])), (m17, ai g 63 v2)] H := hP
                have hD : va_D A [(m19, ai g 4 fs), (k0, .inr (9, [.ref m0, .int s1, .int s2, .int s3, .int s4, .int s5, .int s6, .ref m7, .ref m8, .ref m9, .int s10, .int s11, .int s12, .ref m13, .ref m14, .ref m15, .int s16, .ref m17, .ref m18, .ref m19, .ref m20, .ref m21, .ref m22, .ref m23, .ref m24, .ref m25, .ref m26, .ref m27, .ref m28, .int s29, .ref m30, .int s31, .int s32, .int s33, .int s34, .int s35, .ref m36, .ref m37, .ref m38, .ref m39, .long s40])), (m17, ai g 63 v2)] := hD
                refine lv_iadd hx hb dX9_layCosts_74 ?_
                refine lv_topi (fun xv exv => ?_)
                have hval : xv = MC t a nd sd := by rw [exv, MC_n (Nat.not_lt.mpr hnt), SP_eq ht ht4 hnt (by omega), ml_MC (fc := v2) (nd := c1 t nd) (ab := sd) ht ht4 ha9 (by omega) hs9 (fun s hs => hv2 _ (by omega) s hs), ml_MC (fc := v2) (nd := c2 t nd) (ab := sd) ht ht4 ha9 (by omega) hs9 (fun s hs => hv2 _ (by omega) s hs)]
                refine k_ast (x := xv) (9 * nd + sd) (by rw [show (9 : Int32) = nI 9 from rfl, pk_mul, nI_add]) (by omega) hx hb hE hP hD hS 2 rfl (by decide) dX9_layCosts_75 (fun H locs hP hD hS => ?_)
                have hP : va_P g.1 vwCl [(m19, ai g 4 fs), (k0, .inr (9, [.ref m0, .int s1, .int s2, .int s3, .int s4, .int s5, .int s6, .ref m7, .ref m8, .ref m9, .int s10, .int s11, .int s12, .ref m13, .ref m14, .ref m15, .int s16, .ref m17, .ref m18, .ref m19, .ref m20, .ref m21, .ref m22, .ref m23, .ref m24, .ref m25, .ref m26, .ref m27, .ref m28, .int s29, .ref m30, .int s31, .int s32, .int s33, .int s34, .int s35, .ref m36, .ref m37, .ref m38, .ref m39, .long s40])), (m17, ai g 63 (upd v2 (9 * nd + sd) xv))] H := hP
                have hD : va_D A [(m19, ai g 4 fs), (k0, .inr (9, [.ref m0, .int s1, .int s2, .int s3, .int s4, .int s5, .int s6, .ref m7, .ref m8, .ref m9, .int s10, .int s11, .int s12, .ref m13, .ref m14, .ref m15, .int s16, .ref m17, .ref m18, .ref m19, .ref m20, .ref m21, .ref m22, .ref m23, .ref m24, .ref m25, .ref m26, .ref m27, .ref m28, .int s29, .ref m30, .int s31, .int s32, .int s33, .int s34, .int s35, .ref m36, .ref m37, .ref m38, .ref m39, .long s40])), (m17, ai g 63 (upd v2 (9 * nd + sd) xv))] := hD
                refine lv_iinc (v := (nI (sd + 1))) (lv' := [(3, .int (nI (sd + 1))), (0, .ref k0), (1, .int (nI t)), (2, .int (nI nd))]) hx hb dX9_layCosts_76 hl (k := 3) rfl (nI_1 _) (by decide) rfl (fun ls hl => ?_)
                refine lv_goto (tgt := 13) hx hb dX9_layCosts_79 (by decide) ?_
                exact ih13 (sd + 1) _ (by omega) (LC_u hv2) (LC_s hw2 hval) (by omega) _ _ _ (hP.sub [1, 2, 0] rfl) (hD.sub [1, 2, 0] (by decide) rfl) hS (lv_sub hl [1, 2, 3, 0] rfl)
              · skip
                have hnt := lt_of_nle (k := t) (n := nd) (by omega) (by omega) c31_5
                refine lv_iload_n hx hb dX9_layCosts_34 rfl (lv_at hl 3 rfl) ?_
                refine lv_aload_n hx hb dX9_layCosts_35 rfl (lv_at hl 0 rfl) ?_
                refine va_get (D := g.1) (ci := 9) (v := .ref m19) (C := RX9) (T := TX9) (N := 41) hx hb hts q_X9_layCosts_f_f9 hown hE.1 hP 0 rfl rfl 19 (by decide) (hts (.fieldLink RX9 37 "SoundLawsModel" "said" "[I") q_X9_layCosts_f_2) (fun _ h9 => h9) rfl dX9_layCosts_36 ?_
                refine lv_iload_n hx hb dX9_layCosts_39 rfl (lv_at hl 2 rfl) ?_
                refine k_ald nd rfl (by omega) hx hb hE hP 2 rfl (by decide) dX9_layCosts_40 ?_
                refine lv_icmp_ne (tgt := 48) hx hb dX9_layCosts_41 (by decide) (fun c41_14 => ?_) (fun c41_14 => ?_)
                · skip
                  refine lv_sipush (v := 999) hx hb dX9_layCosts_48 (by decide) ?_
                  refine lv_goto (tgt := 75) hx hb dX9_layCosts_51 (by decide) ?_
                  refine lv_topi (fun xv exv => ?_)
                  have hval : xv = MC t a nd sd := by rw [exv, MC_l hnt, lf_f (fun q => c41_14 (by rw [hfa nd hnt, q]))]
                  refine k_ast (x := xv) (9 * nd + sd) (by rw [show (9 : Int32) = nI 9 from rfl, pk_mul, nI_add]) (by omega) hx hb hE hP hD hS 1 rfl (by decide) dX9_layCosts_75 (fun H locs hP hD hS => ?_)
                  have hP : va_P g.1 vwCl [(k0, .inr (9, [.ref m0, .int s1, .int s2, .int s3, .int s4, .int s5, .int s6, .ref m7, .ref m8, .ref m9, .int s10, .int s11, .int s12, .ref m13, .ref m14, .ref m15, .int s16, .ref m17, .ref m18, .ref m19, .ref m20, .ref m21, .ref m22, .ref m23, .ref m24, .ref m25, .ref m26, .ref m27, .ref m28, .int s29, .ref m30, .int s31, .int s32, .int s33, .int s34, .int s35, .ref m36, .ref m37, .ref m38, .ref m39, .long s40])), (m17, ai g 63 (upd v2 (9 * nd + sd) xv)), (m19, ai g 4 fs)] H := hP
                  have hD : va_D A [(k0, .inr (9, [.ref m0, .int s1, .int s2, .int s3, .int s4, .int s5, .int s6, .ref m7, .ref m8, .ref m9, .int s10, .int s11, .int s12, .ref m13, .ref m14, .ref m15, .int s16, .ref m17, .ref m18, .ref m19, .ref m20, .ref m21, .ref m22, .ref m23, .ref m24, .ref m25, .ref m26, .ref m27, .ref m28, .int s29, .ref m30, .int s31, .int s32, .int s33, .int s34, .int s35, .ref m36, .ref m37, .ref m38, .ref m39, .long s40])), (m17, ai g 63 (upd v2 (9 * nd + sd) xv)), (m19, ai g 4 fs)] := hD
                  refine lv_iinc (v := (nI (sd + 1))) (lv' := [(3, .int (nI (sd + 1))), (0, .ref k0), (1, .int (nI t)), (2, .int (nI nd))]) hx hb dX9_layCosts_76 hl (k := 3) rfl (nI_1 _) (by decide) rfl (fun ls hl => ?_)
                  refine lv_goto (tgt := 13) hx hb dX9_layCosts_79 (by decide) ?_
                  exact ih13 (sd + 1) _ (by omega) (LC_u hv2) (LC_s hw2 hval) (by omega) _ _ _ hP hD hS (lv_sub hl [1, 2, 3, 0] rfl)
                · skip
                  refine lv_iconst (v := 0) hx hb dX9_layCosts_44 (by decide) ?_
                  refine lv_goto (tgt := 75) hx hb dX9_layCosts_45 (by decide) ?_
                  refine lv_topi (fun xv exv => ?_)
                  have hval : xv = MC t a nd sd := by rw [exv, MC_l hnt, lf_t ((nI_eq (by omega) (by have := ha9 nd hnt; omega)).mp (by rw [← hfa nd hnt]; exact c41_14))]
                  refine k_ast (x := xv) (9 * nd + sd) (by rw [show (9 : Int32) = nI 9 from rfl, pk_mul, nI_add]) (by omega) hx hb hE hP hD hS 1 rfl (by decide) dX9_layCosts_75 (fun H locs hP hD hS => ?_)
                  have hP : va_P g.1 vwCl [(k0, .inr (9, [.ref m0, .int s1, .int s2, .int s3, .int s4, .int s5, .int s6, .ref m7, .ref m8, .ref m9, .int s10, .int s11, .int s12, .ref m13, .ref m14, .ref m15, .int s16, .ref m17, .ref m18, .ref m19, .ref m20, .ref m21, .ref m22, .ref m23, .ref m24, .ref m25, .ref m26, .ref m27, .ref m28, .int s29, .ref m30, .int s31, .int s32, .int s33, .int s34, .int s35, .ref m36, .ref m37, .ref m38, .ref m39, .long s40])), (m17, ai g 63 (upd v2 (9 * nd + sd) xv)), (m19, ai g 4 fs)] H := hP
                  have hD : va_D A [(k0, .inr (9, [.ref m0, .int s1, .int s2, .int s3, .int s4, .int s5, .int s6, .ref m7, .ref m8, .ref m9, .int s10, .int s11, .int s12, .ref m13, .ref m14, .ref m15, .int s16, .ref m17, .ref m18, .ref m19, .ref m20, .ref m21, .ref m22, .ref m23, .ref m24, .ref m25, .ref m26, .ref m27, .ref m28, .int s29, .ref m30, .int s31, .int s32, .int s33, .int s34, .int s35, .ref m36, .ref m37, .ref m38, .ref m39, .long s40])), (m17, ai g 63 (upd v2 (9 * nd + sd) xv)), (m19, ai g 4 fs)] := hD
                  refine lv_iinc (v := (nI (sd + 1))) (lv' := [(3, .int (nI (sd + 1))), (0, .ref k0), (1, .int (nI t)), (2, .int (nI nd))]) hx hb dX9_layCosts_76 hl (k := 3) rfl (nI_1 _) (by decide) rfl (fun ls hl => ?_)
                  refine lv_goto (tgt := 13) hx hb dX9_layCosts_79 (by decide) ?_
                  exact ih13 (sd + 1) _ (by omega) (LC_u hv2) (LC_s hw2 hval) (by omega) _ _ _ hP hD hS (lv_sub hl [1, 2, 3, 0] rfl)
        exact loop13 _ 0 v1 (Nat.zero_le 9) hv1 (fun s hs => absurd hs (Nat.not_lt_zero s)) (Nat.lt_succ_self _) _ _ _ hP hD hS (lv_sub hl [1, 2, 3, 0] rfl)
  exact loop2 _ 0 fc (Nat.zero_le _) (fun m h => absurd h (Nat.not_lt_zero m)) (Nat.lt_succ_self _) _ _ _ hP hD hS (lv_sub hl [1, 2, 0] rfl)
def po_X9_leastSound_r (g : GG) (k0 : Nat) (m0 : Nat) (s1 : Int32) (s2 : Int32) (s3 : Int32) (s4 : Int32) (s5 : Int32) (s6 : Int32) (m7 : Nat) (m8 : Nat) (m9 : Nat) (s10 : Int32) (s11 : Int32) (s12 : Int32) (m13 : Nat) (m14 : Nat) (m15 : Nat) (s16 : Int32) (m17 : Nat) (m18 : Nat) (m19 : Nat) (m20 : Nat) (m21 : Nat) (m22 : Nat) (m23 : Nat) (m24 : Nat) (m25 : Nat) (m26 : Nat) (m27 : Nat) (m28 : Nat) (s29 : Int32) (m30 : Nat) (s31 : Int32) (s32 : Int32) (s33 : Int32) (s34 : Int32) (s35 : Int32) (m36 : Nat) (m37 : Nat) (m38 : Nat) (m39 : Nat) (s40 : Int64) (fc : Nat → Int32) (nd : Nat) : Int32 → va_W → Prop := fun (r : Int32) w => w = [(k0, .inr (9, [.ref m0, .int s1, .int s2, .int s3, .int s4, .int s5, .int s6, .ref m7, .ref m8, .ref m9, .int s10, .int s11, .int s12, .ref m13, .ref m14, .ref m15, .int s16, .ref m17, .ref m18, .ref m19, .ref m20, .ref m21, .ref m22, .ref m23, .ref m24, .ref m25, .ref m26, .ref m27, .ref m28, .int s29, .ref m30, .int s31, .int s32, .int s33, .int s34, .int s35, .ref m36, .ref m37, .ref m38, .ref m39, .long s40])), (m17, ai g 63 fc)] ∧ (nI (ams (fun s => fc (9 * nd + s) + 0) 9) = r)
theorem q_X9_leastSound_r_f9 : ∀ w ∈ u_ws RX9 TX9 41, w ∈ wsX9_leastSound := by decide +kernel
theorem q_X9_leastSound_r_1 : (Cond.fieldLink RX9 31 "SoundLawsModel" "costs" "[I") ∈ wsX9_leastSound := by decide +kernel
set_option maxHeartbeats 1500000 in
set_option maxRecDepth 100000 in
theorem c_X9_leastSound_r (l : Launch) (g : GG) (k0 : Nat) (m0 : Nat) (s1 : Int32) (s2 : Int32) (s3 : Int32) (s4 : Int32) (s5 : Int32) (s6 : Int32) (m7 : Nat) (m8 : Nat) (m9 : Nat) (s10 : Int32) (s11 : Int32) (s12 : Int32) (m13 : Nat) (m14 : Nat) (m15 : Nat) (s16 : Int32) (m17 : Nat) (m18 : Nat) (m19 : Nat) (m20 : Nat) (m21 : Nat) (m22 : Nat) (m23 : Nat) (m24 : Nat) (m25 : Nat) (m26 : Nat) (m27 : Nat) (m28 : Nat) (s29 : Int32) (m30 : Nat) (s31 : Int32) (s32 : Int32) (s33 : Int32) (s34 : Int32) (s35 : Int32) (m36 : Nat) (m37 : Nat) (m38 : Nat) (m39 : Nat) (s40 : Int64) (fc : Nat → Int32) (nd : Nat) (hnd : nd < 7) (sz : Nat) : MetI l yX9_leastSound wsX9_leastSound ({ frames := 0, cells := 0, slots := 0, locals := 0 }) g [.ref k0, .int (nI nd), .int (-1)] [(k0, .inr (9, [.ref m0, .int s1, .int s2, .int s3, .int s4, .int s5, .int s6, .ref m7, .ref m8, .ref m9, .int s10, .int s11, .int s12, .ref m13, .ref m14, .ref m15, .int s16, .ref m17, .ref m18, .ref m19, .ref m20, .ref m21, .ref m22, .ref m23, .ref m24, .ref m25, .ref m26, .ref m27, .ref m28, .int s29, .ref m30, .int s31, .int s32, .int s33, .int s34, .int s35, .ref m36, .ref m37, .ref m38, .ref m39, .long s40])), (m17, ai g 63 fc)] sz (po_X9_leastSound_r g k0 m0 s1 s2 s3 s4 s5 s6 m7 m8 m9 s10 s11 s12 m13 m14 m15 s16 m17 m18 m19 m20 m21 m22 m23 m24 m25 m26 m27 m28 s29 m30 s31 s32 s33 s34 s35 m36 m37 m38 m39 s40 fc nd) 0 0 := by
  refine k_of (l := l) (y := yX9_leastSound) (ws := wsX9_leastSound) (rm := { frames := 0, cells := 0, slots := 0, locals := 0 }) (mc := 0) (ms := 0) (av := [.ref k0, .int (nI nd), .int (-1)]) (g := g) (wc := [(k0, .inr (9, [.ref m0, .int s1, .int s2, .int s3, .int s4, .int s5, .int s6, .ref m7, .ref m8, .ref m9, .int s10, .int s11, .int s12, .ref m13, .ref m14, .ref m15, .int s16, .ref m17, .ref m18, .ref m19, .ref m20, .ref m21, .ref m22, .ref m23, .ref m24, .ref m25, .ref m26, .ref m27, .ref m28, .int s29, .ref m30, .int s31, .int s32, .int s33, .int s34, .int s35, .ref m36, .ref m37, .ref m38, .ref m39, .long s40])), (m17, ai g 63 fc)]) (Qc := fun A => va_Qi (po_X9_leastSound_r g k0 m0 s1 s2 s3 s4 s5 s6 m7 m8 m9 s10 s11 s12 m13 m14 m15 s16 m17 m18 m19 m20 m21 m22 m23 m24 m25 m26 m27 m28 s29 m30 s31 s32 s33 s34 s35 m36 m37 m38 m39 s40 fc nd) (bk g A) A) (cc := cX9_leastSound) (maxL := 7) (ret := (some .int)) (by decide) rfl (Nat.le_of_ble_eq_true rfl) ?_ sz
  intro p e s m below meth c hx hb hr hts hown hlocks hnm hml A hA hE hZ hP hD hS ls hl
  have hown : s.vm.findClass RX9 = some m.cls := hown
  have hl : lv_has ls 7 [(0, .ref k0), (1, .int (nI nd)), (2, .int (-1))] := hl
  refine lv_iconst (v := 0) hx hb dX9_leastSound_0 (by decide) ?_
  refine lv_istore_n (lv' := [(3, .int 0), (0, .ref k0), (1, .int (nI nd)), (2, .int (-1))]) hx hb dX9_leastSound_1 rfl hl (by decide) rfl (fun ls hl => ?_)
  refine lv_sipush (v := 9999) hx hb dX9_leastSound_2 (by decide) ?_
  refine lv_istore (lv' := [(4, .int 9999), (3, .int 0), (0, .ref k0), (1, .int (nI nd)), (2, .int (-1))]) hx hb dX9_leastSound_5 hl (by decide) rfl (fun ls hl => ?_)
  refine lv_iconst (v := 0) hx hb dX9_leastSound_7 (by decide) ?_
  refine lv_istore (lv' := [(5, .int 0), (4, .int 9999), (3, .int 0), (0, .ref k0), (1, .int (nI nd)), (2, .int (-1))]) hx hb dX9_leastSound_8 hl (by decide) rfl (fun ls hl => ?_)
  have loop10 : ∀ (fu : Nat) (j : Nat) (x4 : Int32), (hj : j ≤ 9) → (e4 : x4 = ml (fun s => fc (9 * nd + s) + 0) j) → 9 - j < fu → ∀ (H : Heap) (locs : List Loc) (ls : Array Slot), va_P g.1 vwCl [(k0, .inr (9, [.ref m0, .int s1, .int s2, .int s3, .int s4, .int s5, .int s6, .ref m7, .ref m8, .ref m9, .int s10, .int s11, .int s12, .ref m13, .ref m14, .ref m15, .int s16, .ref m17, .ref m18, .ref m19, .ref m20, .ref m21, .ref m22, .ref m23, .ref m24, .ref m25, .ref m26, .ref m27, .ref m28, .int s29, .ref m30, .int s31, .int s32, .int s33, .int s34, .int s35, .ref m36, .ref m37, .ref m38, .ref m39, .long s40])), (m17, ai g 63 fc)] H → va_D A [(k0, .inr (9, [.ref m0, .int s1, .int s2, .int s3, .int s4, .int s5, .int s6, .ref m7, .ref m8, .ref m9, .int s10, .int s11, .int s12, .ref m13, .ref m14, .ref m15, .int s16, .ref m17, .ref m18, .ref m19, .ref m20, .ref m21, .ref m22, .ref m23, .ref m24, .ref m25, .ref m26, .ref m27, .ref m28, .int s29, .ref m30, .int s31, .int s32, .int s33, .int s34, .int s35, .ref m36, .ref m37, .ref m38, .ref m39, .long s40])), (m17, ai g 63 fc)] → va_S A s.heap H locs → lv_has ls 7 [(0, .ref k0), (1, .int (nI nd)), (2, .int (-1)), (3, .int (nI (ams (fun s => fc (9 * nd + s) + 0) j))), (4, .int x4), (5, .int (nI j))] → W p l e ({ frames := 0, cells := 0, slots := 0, locals := 0 }) s m [.ref k0, .int (nI nd), .int (-1)].toArray below meth c H locs 0 0 (MQ below (va_Qi (po_X9_leastSound_r g k0 m0 s1 s2 s3 s4 s5 s6 m7 m8 m9 s10 s11 s12 m13 m14 m15 s16 m17 m18 m19 m20 m21 m22 m23 m24 m25 m26 m27 m28 s29 m30 s31 s32 s33 s34 s35 m36 m37 m38 m39 s40 fc nd) (bk g A) A) [.ref k0, .int (nI nd), .int (-1)].toArray s 0 0 A) (F0 m 10 ls []) := by
    intro fu
    induction fu with
    | zero => intro j x4 hj e4 hfu; exact absurd hfu (Nat.not_lt_zero _)
    | succ fu ih =>
      intro j x4 hj e4 hfu H locs ls hP hD hS hl
      have ih10 := ih
      refine lv_iload hx hb dX9_leastSound_10 (lv_at hl 5 rfl) ?_
      refine lv_bipush (v := 9) hx hb dX9_leastSound_12 (by decide) ?_
      refine lv_icmp_ge (tgt := 83) hx hb dX9_leastSound_14 (by decide) (fun c14_1 => ?_) (fun c14_1 => ?_)
      · skip
        have hj9 := ge_of_le (k := 9) (n := j) (by decide) (by omega) c14_1
        refine lv_iload_n hx hb dX9_leastSound_83 rfl (lv_at hl 3 rfl) ?_
        refine W.widen (k := 0) (n := 0) (Nat.le_of_ble_eq_true rfl) (Nat.le_of_ble_eq_true rfl) ?_
        exact k_ri hx hb hr hlocks hS hP hD ⟨rfl, (by rw [show j = 9 by omega])⟩ dX9_leastSound_84
      · skip
        have hj9 := lt_of_nle (k := 9) (n := j) (by decide) (by omega) c14_1
        refine lv_aload_n hx hb dX9_leastSound_17 rfl (lv_at hl 0 rfl) ?_
        refine va_get (D := g.1) (ci := 9) (v := .ref m17) (C := RX9) (T := TX9) (N := 41) hx hb hts q_X9_leastSound_r_f9 hown hE.1 hP 0 rfl rfl 17 (by decide) (hts (.fieldLink RX9 31 "SoundLawsModel" "costs" "[I") q_X9_leastSound_r_1) (fun _ h9 => h9) rfl dX9_leastSound_18 ?_
        refine lv_bipush (v := 9) hx hb dX9_leastSound_21 (by decide) ?_
        refine lv_iload_n hx hb dX9_leastSound_23 rfl (lv_at hl 1 rfl) ?_
        refine lv_imul hx hb dX9_leastSound_24 ?_
        refine lv_iload hx hb dX9_leastSound_25 (lv_at hl 5 rfl) ?_
        refine lv_iadd hx hb dX9_leastSound_27 ?_
        refine k_ald (9 * nd + j) (by rw [show (9 : Int32) = nI 9 from rfl, pk_mul, nI_add]) (by omega) hx hb hE hP 1 rfl (by decide) dX9_leastSound_28 ?_
        refine lv_iload_n hx hb dX9_leastSound_29 rfl (lv_at hl 2 rfl) ?_
        refine lv_iconst (v := (-1)) hx hb dX9_leastSound_30 (by decide) ?_
        refine lv_icmp_ne (tgt := 38) hx hb dX9_leastSound_31 (by decide) (fun c31_2 => ?_) (fun c31_2 => ?_)
        · exact absurd c31_2 (by decide)
        · skip
          refine lv_iconst (v := 0) hx hb dX9_leastSound_34 (by decide) ?_
          refine lv_goto (tgt := 44) hx hb dX9_leastSound_35 (by decide) ?_
          refine lv_iadd hx hb dX9_leastSound_44 ?_
          refine lv_topi (fun x6 ex6 => ?_)
          refine lv_istore (lv' := [(6, .int x6), (0, .ref k0), (1, .int (nI nd)), (2, .int (-1)), (3, .int (nI (ams (fun s => fc (9 * nd + s) + 0) j))), (4, .int x4), (5, .int (nI j))]) hx hb dX9_leastSound_45 hl (by decide) rfl (fun ls hl => ?_)
          refine lv_iload hx hb dX9_leastSound_47 (lv_at hl 0 rfl) ?_
          refine lv_iload hx hb dX9_leastSound_49 (lv_at hl 5 rfl) ?_
          refine lv_icmp_ge (tgt := 59) hx hb dX9_leastSound_51 (by decide) (fun c51_3 => ?_) (fun c51_3 => ?_)
          · skip
            refine lv_iload_n hx hb dX9_leastSound_59 rfl (lv_at hl 4 rfl) ?_
            refine lv_istore_n (lv' := [(3, .int (nI (ams (fun s => fc (9 * nd + s) + 0) j))), (6, .int x6), (0, .ref k0), (1, .int (nI nd)), (2, .int (-1)), (4, .int x4), (5, .int (nI j))]) hx hb dX9_leastSound_60 rfl hl (by decide) rfl (fun ls hl => ?_)
            refine lv_iload hx hb dX9_leastSound_61 (lv_at hl 1 rfl) ?_
            refine lv_iload hx hb dX9_leastSound_63 (lv_at hl 5 rfl) ?_
            refine lv_icmp_ge (tgt := 73) hx hb dX9_leastSound_65 (by decide) (fun c65_4 => ?_) (fun c65_4 => ?_)
            · skip
              refine lv_iload hx hb dX9_leastSound_73 (lv_at hl 5 rfl) ?_
              refine lv_istore (lv' := [(4, .int x4), (3, .int (nI (ams (fun s => fc (9 * nd + s) + 0) j))), (6, .int x6), (0, .ref k0), (1, .int (nI nd)), (2, .int (-1)), (5, .int (nI j))]) hx hb dX9_leastSound_75 hl (by decide) rfl (fun ls hl => ?_)
              have hq : ams (fun s => fc (9 * nd + s) + 0) (j + 1) = ams (fun s => fc (9 * nd + s) + 0) j := ams_f (by rw [← e4]; have h9 := i_nlt c51_3; rw [ex6] at h9; exact h9)
              have hl : lv_has ls 7 [(4, .int x4), (3, .int (nI (ams (fun s => fc (9 * nd + s) + 0) (j + 1)))), (6, .int x6), (0, .ref k0), (1, .int (nI nd)), (2, .int (-1)), (5, .int (nI j))] := by rw [hq]; exact hl
              refine lv_iinc (v := (nI (j + 1))) (lv' := [(5, .int (nI (j + 1))), (4, .int x4), (3, .int (nI (ams (fun s => fc (9 * nd + s) + 0) (j + 1)))), (6, .int x6), (0, .ref k0), (1, .int (nI nd)), (2, .int (-1))]) hx hb dX9_leastSound_77 hl (k := 6) rfl (nI_1 _) (by decide) rfl (fun ls hl => ?_)
              refine lv_goto (tgt := 10) hx hb dX9_leastSound_80 (by decide) ?_
              exact ih10 (j + 1) x4 (by omega) (e4.trans (ml_f (f := (fun s => fc (9 * nd + s) + 0)) (by rw [← e4]; have h9 := i_nlt c51_3; rw [ex6] at h9; exact h9)).symm) (by omega) _ _ _ hP hD hS (lv_sub hl [4, 5, 6, 2, 1, 0] rfl)
            · exact (show False from c65_4 c51_3).elim
          · skip
            refine lv_iload hx hb dX9_leastSound_54 (lv_at hl 6 rfl) ?_
            refine lv_goto (tgt := 60) hx hb dX9_leastSound_56 (by decide) ?_
            refine lv_istore_n (lv' := [(3, .int (nI j)), (6, .int x6), (0, .ref k0), (1, .int (nI nd)), (2, .int (-1)), (4, .int x4), (5, .int (nI j))]) hx hb dX9_leastSound_60 rfl hl (by decide) rfl (fun ls hl => ?_)
            refine lv_iload hx hb dX9_leastSound_61 (lv_at hl 1 rfl) ?_
            refine lv_iload hx hb dX9_leastSound_63 (lv_at hl 5 rfl) ?_
            refine lv_icmp_ge (tgt := 73) hx hb dX9_leastSound_65 (by decide) (fun c65_5 => ?_) (fun c65_5 => ?_)
            · exact (show False from c51_3 c65_5).elim
            · skip
              refine lv_iload hx hb dX9_leastSound_68 (lv_at hl 1 rfl) ?_
              refine lv_goto (tgt := 75) hx hb dX9_leastSound_70 (by decide) ?_
              refine lv_istore (lv' := [(4, .int x6), (3, .int (nI j)), (6, .int x6), (0, .ref k0), (1, .int (nI nd)), (2, .int (-1)), (5, .int (nI j))]) hx hb dX9_leastSound_75 hl (by decide) rfl (fun ls hl => ?_)
              have hq : ams (fun s => fc (9 * nd + s) + 0) (j + 1) = j := ams_t (by rw [← e4]; have h9 := i_nle c51_3; rw [ex6] at h9; exact h9)
              have hl : lv_has ls 7 [(4, .int x6), (3, .int (nI (ams (fun s => fc (9 * nd + s) + 0) (j + 1)))), (6, .int x6), (0, .ref k0), (1, .int (nI nd)), (2, .int (-1)), (5, .int (nI j))] := by rw [hq]; exact hl
              refine lv_iinc (v := (nI (j + 1))) (lv' := [(5, .int (nI (j + 1))), (4, .int x6), (3, .int (nI (ams (fun s => fc (9 * nd + s) + 0) (j + 1)))), (6, .int x6), (0, .ref k0), (1, .int (nI nd)), (2, .int (-1))]) hx hb dX9_leastSound_77 hl (k := 6) rfl (nI_1 _) (by decide) rfl (fun ls hl => ?_)
              refine lv_goto (tgt := 10) hx hb dX9_leastSound_80 (by decide) ?_
              exact ih10 (j + 1) x6 (by omega) (ex6.trans (ml_t (f := (fun s => fc (9 * nd + s) + 0)) (by rw [← e4]; have h9 := i_nle c51_3; rw [ex6] at h9; exact h9)).symm) (by omega) _ _ _ hP hD hS (lv_sub hl [4, 5, 6, 2, 1, 0] rfl)
  exact loop10 _ 0 9999 (Nat.zero_le 9) rfl (Nat.lt_succ_self _) _ _ _ hP hD hS (lv_sub hl [3, 4, 5, 2, 1, 0] rfl)
def po_X9_leastSound_f (g : GG) (k0 : Nat) (m0 : Nat) (s1 : Int32) (s2 : Int32) (s3 : Int32) (s4 : Int32) (s5 : Int32) (s6 : Int32) (m7 : Nat) (m8 : Nat) (m9 : Nat) (s10 : Int32) (s11 : Int32) (s12 : Int32) (m13 : Nat) (m14 : Nat) (m15 : Nat) (s16 : Int32) (m17 : Nat) (m18 : Nat) (m19 : Nat) (m20 : Nat) (m21 : Nat) (m22 : Nat) (m23 : Nat) (m24 : Nat) (m25 : Nat) (m26 : Nat) (m27 : Nat) (m28 : Nat) (s29 : Int32) (m30 : Nat) (s31 : Int32) (s32 : Int32) (s33 : Int32) (s34 : Int32) (s35 : Int32) (m36 : Nat) (m37 : Nat) (m38 : Nat) (m39 : Nat) (s40 : Int64) (fc : Nat → Int32) (nd : Nat) (ab : Nat) : Int32 → va_W → Prop := fun (r : Int32) w => w = [(k0, .inr (9, [.ref m0, .int s1, .int s2, .int s3, .int s4, .int s5, .int s6, .ref m7, .ref m8, .ref m9, .int s10, .int s11, .int s12, .ref m13, .ref m14, .ref m15, .int s16, .ref m17, .ref m18, .ref m19, .ref m20, .ref m21, .ref m22, .ref m23, .ref m24, .ref m25, .ref m26, .ref m27, .ref m28, .int s29, .ref m30, .int s31, .int s32, .int s33, .int s34, .int s35, .ref m36, .ref m37, .ref m38, .ref m39, .long s40])), (m17, ai g 63 fc)] ∧ (nI (ams (fun s => fc (9 * nd + s) + cmo (nI s) (nI ab)) 9) = r)
theorem q_X9_leastSound_f_f9 : ∀ w ∈ u_ws RX9 TX9 41, w ∈ wsX9_leastSound := by decide +kernel
theorem q_X9_leastSound_f_1 : (Cond.fieldLink RX9 31 "SoundLawsModel" "costs" "[I") ∈ wsX9_leastSound := by decide +kernel
set_option maxHeartbeats 1500000 in
set_option maxRecDepth 100000 in
theorem c_X9_leastSound_f (l : Launch) (g : GG) (k0 : Nat) (m0 : Nat) (s1 : Int32) (s2 : Int32) (s3 : Int32) (s4 : Int32) (s5 : Int32) (s6 : Int32) (m7 : Nat) (m8 : Nat) (m9 : Nat) (s10 : Int32) (s11 : Int32) (s12 : Int32) (m13 : Nat) (m14 : Nat) (m15 : Nat) (s16 : Int32) (m17 : Nat) (m18 : Nat) (m19 : Nat) (m20 : Nat) (m21 : Nat) (m22 : Nat) (m23 : Nat) (m24 : Nat) (m25 : Nat) (m26 : Nat) (m27 : Nat) (m28 : Nat) (s29 : Int32) (m30 : Nat) (s31 : Int32) (s32 : Int32) (s33 : Int32) (s34 : Int32) (s35 : Int32) (m36 : Nat) (m37 : Nat) (m38 : Nat) (m39 : Nat) (s40 : Int64) (fc : Nat → Int32) (nd : Nat) (ab : Nat) (hnd : nd < 7) (hab : ab < 9) (sz : Nat) : MetI l yX9_leastSound wsX9_leastSound ({ frames := 3, cells := 0, slots := 0, locals := 66 }) g [.ref k0, .int (nI nd), .int (nI ab)] [(k0, .inr (9, [.ref m0, .int s1, .int s2, .int s3, .int s4, .int s5, .int s6, .ref m7, .ref m8, .ref m9, .int s10, .int s11, .int s12, .ref m13, .ref m14, .ref m15, .int s16, .ref m17, .ref m18, .ref m19, .ref m20, .ref m21, .ref m22, .ref m23, .ref m24, .ref m25, .ref m26, .ref m27, .ref m28, .int s29, .ref m30, .int s31, .int s32, .int s33, .int s34, .int s35, .ref m36, .ref m37, .ref m38, .ref m39, .long s40])), (m17, ai g 63 fc)] sz (po_X9_leastSound_f g k0 m0 s1 s2 s3 s4 s5 s6 m7 m8 m9 s10 s11 s12 m13 m14 m15 s16 m17 m18 m19 m20 m21 m22 m23 m24 m25 m26 m27 m28 s29 m30 s31 s32 s33 s34 s35 m36 m37 m38 m39 s40 fc nd ab) 0 0 := by
  refine k_of (l := l) (y := yX9_leastSound) (ws := wsX9_leastSound) (rm := { frames := 3, cells := 0, slots := 0, locals := 66 }) (mc := 0) (ms := 0) (av := [.ref k0, .int (nI nd), .int (nI ab)]) (g := g) (wc := [(k0, .inr (9, [.ref m0, .int s1, .int s2, .int s3, .int s4, .int s5, .int s6, .ref m7, .ref m8, .ref m9, .int s10, .int s11, .int s12, .ref m13, .ref m14, .ref m15, .int s16, .ref m17, .ref m18, .ref m19, .ref m20, .ref m21, .ref m22, .ref m23, .ref m24, .ref m25, .ref m26, .ref m27, .ref m28, .int s29, .ref m30, .int s31, .int s32, .int s33, .int s34, .int s35, .ref m36, .ref m37, .ref m38, .ref m39, .long s40])), (m17, ai g 63 fc)]) (Qc := fun A => va_Qi (po_X9_leastSound_f g k0 m0 s1 s2 s3 s4 s5 s6 m7 m8 m9 s10 s11 s12 m13 m14 m15 s16 m17 m18 m19 m20 m21 m22 m23 m24 m25 m26 m27 m28 s29 m30 s31 s32 s33 s34 s35 m36 m37 m38 m39 s40 fc nd ab) (bk g A) A) (cc := cX9_leastSound) (maxL := 7) (ret := (some .int)) (by decide) rfl (Nat.le_of_ble_eq_true rfl) ?_ sz
  intro p e s m below meth c hx hb hr hts hown hlocks hnm hml A hA hE hZ hP hD hS ls hl
  have hown : s.vm.findClass RX9 = some m.cls := hown
  have hl : lv_has ls 7 [(0, .ref k0), (1, .int (nI nd)), (2, .int (nI ab))] := hl
  refine lv_iconst (v := 0) hx hb dX9_leastSound_0 (by decide) ?_
  refine lv_istore_n (lv' := [(3, .int 0), (0, .ref k0), (1, .int (nI nd)), (2, .int (nI ab))]) hx hb dX9_leastSound_1 rfl hl (by decide) rfl (fun ls hl => ?_)
  refine lv_sipush (v := 9999) hx hb dX9_leastSound_2 (by decide) ?_
  refine lv_istore (lv' := [(4, .int 9999), (3, .int 0), (0, .ref k0), (1, .int (nI nd)), (2, .int (nI ab))]) hx hb dX9_leastSound_5 hl (by decide) rfl (fun ls hl => ?_)
  refine lv_iconst (v := 0) hx hb dX9_leastSound_7 (by decide) ?_
  refine lv_istore (lv' := [(5, .int 0), (4, .int 9999), (3, .int 0), (0, .ref k0), (1, .int (nI nd)), (2, .int (nI ab))]) hx hb dX9_leastSound_8 hl (by decide) rfl (fun ls hl => ?_)
  have loop10 : ∀ (fu : Nat) (j : Nat) (x4 : Int32), (hj : j ≤ 9) → (e4 : x4 = ml (fun s => fc (9 * nd + s) + cmo (nI s) (nI ab)) j) → 9 - j < fu → ∀ (H : Heap) (locs : List Loc) (ls : Array Slot), va_P g.1 vwCl [(k0, .inr (9, [.ref m0, .int s1, .int s2, .int s3, .int s4, .int s5, .int s6, .ref m7, .ref m8, .ref m9, .int s10, .int s11, .int s12, .ref m13, .ref m14, .ref m15, .int s16, .ref m17, .ref m18, .ref m19, .ref m20, .ref m21, .ref m22, .ref m23, .ref m24, .ref m25, .ref m26, .ref m27, .ref m28, .int s29, .ref m30, .int s31, .int s32, .int s33, .int s34, .int s35, .ref m36, .ref m37, .ref m38, .ref m39, .long s40])), (m17, ai g 63 fc)] H → va_D A [(k0, .inr (9, [.ref m0, .int s1, .int s2, .int s3, .int s4, .int s5, .int s6, .ref m7, .ref m8, .ref m9, .int s10, .int s11, .int s12, .ref m13, .ref m14, .ref m15, .int s16, .ref m17, .ref m18, .ref m19, .ref m20, .ref m21, .ref m22, .ref m23, .ref m24, .ref m25, .ref m26, .ref m27, .ref m28, .int s29, .ref m30, .int s31, .int s32, .int s33, .int s34, .int s35, .ref m36, .ref m37, .ref m38, .ref m39, .long s40])), (m17, ai g 63 fc)] → va_S A s.heap H locs → lv_has ls 7 [(0, .ref k0), (1, .int (nI nd)), (2, .int (nI ab)), (3, .int (nI (ams (fun s => fc (9 * nd + s) + cmo (nI s) (nI ab)) j))), (4, .int x4), (5, .int (nI j))] → W p l e ({ frames := 3, cells := 0, slots := 0, locals := 66 }) s m [.ref k0, .int (nI nd), .int (nI ab)].toArray below meth c H locs 0 0 (MQ below (va_Qi (po_X9_leastSound_f g k0 m0 s1 s2 s3 s4 s5 s6 m7 m8 m9 s10 s11 s12 m13 m14 m15 s16 m17 m18 m19 m20 m21 m22 m23 m24 m25 m26 m27 m28 s29 m30 s31 s32 s33 s34 s35 m36 m37 m38 m39 s40 fc nd ab) (bk g A) A) [.ref k0, .int (nI nd), .int (nI ab)].toArray s 0 0 A) (F0 m 10 ls []) := by
    intro fu
    induction fu with
    | zero => intro j x4 hj e4 hfu; exact absurd hfu (Nat.not_lt_zero _)
    | succ fu ih =>
      intro j x4 hj e4 hfu H locs ls hP hD hS hl
      have ih10 := ih
      refine lv_iload hx hb dX9_leastSound_10 (lv_at hl 5 rfl) ?_
      refine lv_bipush (v := 9) hx hb dX9_leastSound_12 (by decide) ?_
      refine lv_icmp_ge (tgt := 83) hx hb dX9_leastSound_14 (by decide) (fun c14_1 => ?_) (fun c14_1 => ?_)
      · skip
        have hj9 := ge_of_le (k := 9) (n := j) (by decide) (by omega) c14_1
        refine lv_iload_n hx hb dX9_leastSound_83 rfl (lv_at hl 3 rfl) ?_
        refine W.widen (k := 0) (n := 0) (Nat.le_of_ble_eq_true rfl) (Nat.le_of_ble_eq_true rfl) ?_
        exact k_ri hx hb hr hlocks hS hP hD ⟨rfl, (by rw [show j = 9 by omega])⟩ dX9_leastSound_84
      · skip
        have hj9 := lt_of_nle (k := 9) (n := j) (by decide) (by omega) c14_1
        refine lv_aload_n hx hb dX9_leastSound_17 rfl (lv_at hl 0 rfl) ?_
        refine va_get (D := g.1) (ci := 9) (v := .ref m17) (C := RX9) (T := TX9) (N := 41) hx hb hts q_X9_leastSound_f_f9 hown hE.1 hP 0 rfl rfl 17 (by decide) (hts (.fieldLink RX9 31 "SoundLawsModel" "costs" "[I") q_X9_leastSound_f_1) (fun _ h9 => h9) rfl dX9_leastSound_18 ?_
        refine lv_bipush (v := 9) hx hb dX9_leastSound_21 (by decide) ?_
        refine lv_iload_n hx hb dX9_leastSound_23 rfl (lv_at hl 1 rfl) ?_
        refine lv_imul hx hb dX9_leastSound_24 ?_
        refine lv_iload hx hb dX9_leastSound_25 (lv_at hl 5 rfl) ?_
        refine lv_iadd hx hb dX9_leastSound_27 ?_
        refine k_ald (9 * nd + j) (by rw [show (9 : Int32) = nI 9 from rfl, pk_mul, nI_add]) (by omega) hx hb hE hP 1 rfl (by decide) dX9_leastSound_28 ?_
        refine lv_iload_n hx hb dX9_leastSound_29 rfl (lv_at hl 2 rfl) ?_
        refine lv_iconst (v := (-1)) hx hb dX9_leastSound_30 (by decide) ?_
        refine lv_icmp_ne (tgt := 38) hx hb dX9_leastSound_31 (by decide) (fun c31_2 => ?_) (fun c31_2 => ?_)
        · skip
          refine lv_iload hx hb dX9_leastSound_38 (lv_at hl 5 rfl) ?_
          refine lv_iload_n hx hb dX9_leastSound_40 rfl (lv_at hl 2 rfl) ?_
          refine k_ci (wr := [(k0, .inr (9, [.ref m0, .int s1, .int s2, .int s3, .int s4, .int s5, .int s6, .ref m7, .ref m8, .ref m9, .int s10, .int s11, .int s12, .ref m13, .ref m14, .ref m15, .int s16, .ref m17, .ref m18, .ref m19, .ref m20, .ref m21, .ref m22, .ref m23, .ref m24, .ref m25, .ref m26, .ref m27, .ref m28, .int s29, .ref m30, .int s31, .int s32, .int s33, .int s34, .int s35, .ref m36, .ref m37, .ref m38, .ref m39, .long s40])), (m17, ai g 63 fc)]) hP hD hS hA [] [0, 1] rfl rfl (by decide) (by decide) (va_runS (As := [.int (nI j), .int (nI ab)]) (rest := [.int (fc (9 * nd + j))]) ⟨hx, hb, hml, hown, hts⟩ (c_X9_costOf l g (nI j) (nI ab)  H.size) (va_cwS 2 hts gX9_leastSound_X9_costOf rfl rfl rfl (by decide +kernel) ⟨Nat.le_of_ble_eq_true rfl, Nat.le_of_ble_eq_true rfl⟩) (k_preS hE hZ hP hD hS hA [] rfl (by decide)) rfl rfl hl.1 rfl (lv_room (Nat.le_of_ble_eq_true rfl)) dX9_leastSound_41 ⟨Nat.le_of_ble_eq_true rfl, Nat.le_of_ble_eq_true rfl⟩) (fun r_3 w1 H locs hw hP hD hS => ?_)
          obtain ⟨rfl, rfl⟩ := hw
          have hP : va_P g.1 vwCl [(k0, .inr (9, [.ref m0, .int s1, .int s2, .int s3, .int s4, .int s5, .int s6, .ref m7, .ref m8, .ref m9, .int s10, .int s11, .int s12, .ref m13, .ref m14, .ref m15, .int s16, .ref m17, .ref m18, .ref m19, .ref m20, .ref m21, .ref m22, .ref m23, .ref m24, .ref m25, .ref m26, .ref m27, .ref m28, .int s29, .ref m30, .int s31, .int s32, .int s33, .int s34, .int s35, .ref m36, .ref m37, .ref m38, .ref m39, .long s40])), (m17, ai g 63 fc)] H := hP
          have hD : va_D A [(k0, .inr (9, [.ref m0, .int s1, .int s2, .int s3, .int s4, .int s5, .int s6, .ref m7, .ref m8, .ref m9, .int s10, .int s11, .int s12, .ref m13, .ref m14, .ref m15, .int s16, .ref m17, .ref m18, .ref m19, .ref m20, .ref m21, .ref m22, .ref m23, .ref m24, .ref m25, .ref m26, .ref m27, .ref m28, .int s29, .ref m30, .int s31, .int s32, .int s33, .int s34, .int s35, .ref m36, .ref m37, .ref m38, .ref m39, .long s40])), (m17, ai g 63 fc)] := hD
          refine lv_iadd hx hb dX9_leastSound_44 ?_
          refine lv_topi (fun x6 ex6 => ?_)
          refine lv_istore (lv' := [(6, .int x6), (0, .ref k0), (1, .int (nI nd)), (2, .int (nI ab)), (3, .int (nI (ams (fun s => fc (9 * nd + s) + cmo (nI s) (nI ab)) j))), (4, .int x4), (5, .int (nI j))]) hx hb dX9_leastSound_45 hl (by decide) rfl (fun ls hl => ?_)
          refine lv_iload hx hb dX9_leastSound_47 (lv_at hl 0 rfl) ?_
          refine lv_iload hx hb dX9_leastSound_49 (lv_at hl 5 rfl) ?_
          refine lv_icmp_ge (tgt := 59) hx hb dX9_leastSound_51 (by decide) (fun c51_5 => ?_) (fun c51_5 => ?_)
          · skip
            refine lv_iload_n hx hb dX9_leastSound_59 rfl (lv_at hl 4 rfl) ?_
            refine lv_istore_n (lv' := [(3, .int (nI (ams (fun s => fc (9 * nd + s) + cmo (nI s) (nI ab)) j))), (6, .int x6), (0, .ref k0), (1, .int (nI nd)), (2, .int (nI ab)), (4, .int x4), (5, .int (nI j))]) hx hb dX9_leastSound_60 rfl hl (by decide) rfl (fun ls hl => ?_)
            refine lv_iload hx hb dX9_leastSound_61 (lv_at hl 1 rfl) ?_
            refine lv_iload hx hb dX9_leastSound_63 (lv_at hl 5 rfl) ?_
            refine lv_icmp_ge (tgt := 73) hx hb dX9_leastSound_65 (by decide) (fun c65_6 => ?_) (fun c65_6 => ?_)
            · skip
              refine lv_iload hx hb dX9_leastSound_73 (lv_at hl 5 rfl) ?_
              refine lv_istore (lv' := [(4, .int x4), (3, .int (nI (ams (fun s => fc (9 * nd + s) + cmo (nI s) (nI ab)) j))), (6, .int x6), (0, .ref k0), (1, .int (nI nd)), (2, .int (nI ab)), (5, .int (nI j))]) hx hb dX9_leastSound_75 hl (by decide) rfl (fun ls hl => ?_)
              have hq : ams (fun s => fc (9 * nd + s) + cmo (nI s) (nI ab)) (j + 1) = ams (fun s => fc (9 * nd + s) + cmo (nI s) (nI ab)) j := ams_f (by rw [← e4]; have h9 := i_nlt c51_5; rw [ex6] at h9; exact h9)
              have hl : lv_has ls 7 [(4, .int x4), (3, .int (nI (ams (fun s => fc (9 * nd + s) + cmo (nI s) (nI ab)) (j + 1)))), (6, .int x6), (0, .ref k0), (1, .int (nI nd)), (2, .int (nI ab)), (5, .int (nI j))] := by rw [hq]; exact hl
              refine lv_iinc (v := (nI (j + 1))) (lv' := [(5, .int (nI (j + 1))), (4, .int x4), (3, .int (nI (ams (fun s => fc (9 * nd + s) + cmo (nI s) (nI ab)) (j + 1)))), (6, .int x6), (0, .ref k0), (1, .int (nI nd)), (2, .int (nI ab))]) hx hb dX9_leastSound_77 hl (k := 6) rfl (nI_1 _) (by decide) rfl (fun ls hl => ?_)
              refine lv_goto (tgt := 10) hx hb dX9_leastSound_80 (by decide) ?_
              exact ih10 (j + 1) x4 (by omega) (e4.trans (ml_f (f := (fun s => fc (9 * nd + s) + cmo (nI s) (nI ab))) (by rw [← e4]; have h9 := i_nlt c51_5; rw [ex6] at h9; exact h9)).symm) (by omega) _ _ _ hP hD hS (lv_sub hl [4, 5, 6, 2, 1, 0] rfl)
            · exact (show False from c65_6 c51_5).elim
          · skip
            refine lv_iload hx hb dX9_leastSound_54 (lv_at hl 6 rfl) ?_
            refine lv_goto (tgt := 60) hx hb dX9_leastSound_56 (by decide) ?_
            refine lv_istore_n (lv' := [(3, .int (nI j)), (6, .int x6), (0, .ref k0), (1, .int (nI nd)), (2, .int (nI ab)), (4, .int x4), (5, .int (nI j))]) hx hb dX9_leastSound_60 rfl hl (by decide) rfl (fun ls hl => ?_)
            refine lv_iload hx hb dX9_leastSound_61 (lv_at hl 1 rfl) ?_
            refine lv_iload hx hb dX9_leastSound_63 (lv_at hl 5 rfl) ?_
            refine lv_icmp_ge (tgt := 73) hx hb dX9_leastSound_65 (by decide) (fun c65_7 => ?_) (fun c65_7 => ?_)
            · exact (show False from c51_5 c65_7).elim
            · skip
              refine lv_iload hx hb dX9_leastSound_68 (lv_at hl 1 rfl) ?_
              refine lv_goto (tgt := 75) hx hb dX9_leastSound_70 (by decide) ?_
              refine lv_istore (lv' := [(4, .int x6), (3, .int (nI j)), (6, .int x6), (0, .ref k0), (1, .int (nI nd)), (2, .int (nI ab)), (5, .int (nI j))]) hx hb dX9_leastSound_75 hl (by decide) rfl (fun ls hl => ?_)
              have hq : ams (fun s => fc (9 * nd + s) + cmo (nI s) (nI ab)) (j + 1) = j := ams_t (by rw [← e4]; have h9 := i_nle c51_5; rw [ex6] at h9; exact h9)
              have hl : lv_has ls 7 [(4, .int x6), (3, .int (nI (ams (fun s => fc (9 * nd + s) + cmo (nI s) (nI ab)) (j + 1)))), (6, .int x6), (0, .ref k0), (1, .int (nI nd)), (2, .int (nI ab)), (5, .int (nI j))] := by rw [hq]; exact hl
              refine lv_iinc (v := (nI (j + 1))) (lv' := [(5, .int (nI (j + 1))), (4, .int x6), (3, .int (nI (ams (fun s => fc (9 * nd + s) + cmo (nI s) (nI ab)) (j + 1)))), (6, .int x6), (0, .ref k0), (1, .int (nI nd)), (2, .int (nI ab))]) hx hb dX9_leastSound_77 hl (k := 6) rfl (nI_1 _) (by decide) rfl (fun ls hl => ?_)
              refine lv_goto (tgt := 10) hx hb dX9_leastSound_80 (by decide) ?_
              exact ih10 (j + 1) x6 (by omega) (ex6.trans (ml_t (f := (fun s => fc (9 * nd + s) + cmo (nI s) (nI ab))) (by rw [← e4]; have h9 := i_nle c51_5; rw [ex6] at h9; exact h9)).symm) (by omega) _ _ _ hP hD hS (lv_sub hl [4, 5, 6, 2, 1, 0] rfl)
        · exact (show False from (nI_ne1 (by omega) c31_2)).elim
  exact loop10 _ 0 9999 (Nat.zero_le 9) rfl (Nat.lt_succ_self _) _ _ _ hP hD hS (lv_sub hl [3, 4, 5, 2, 1, 0] rfl)
def po_X9_rebuild_f (g : GG) (k0 : Nat) (m0 : Nat) (s1 : Int32) (s2 : Int32) (s3 : Int32) (s4 : Int32) (s5 : Int32) (s6 : Int32) (m7 : Nat) (m8 : Nat) (m9 : Nat) (s10 : Int32) (s11 : Int32) (s12 : Int32) (m13 : Nat) (m14 : Nat) (m15 : Nat) (s16 : Int32) (m17 : Nat) (m18 : Nat) (m19 : Nat) (m20 : Nat) (m21 : Nat) (m22 : Nat) (m23 : Nat) (m24 : Nat) (m25 : Nat) (m26 : Nat) (m27 : Nat) (m28 : Nat) (s29 : Int32) (m30 : Nat) (s31 : Int32) (s32 : Int32) (s33 : Int32) (s34 : Int32) (s35 : Int32) (m36 : Nat) (m37 : Nat) (m38 : Nat) (m39 : Nat) (s40 : Int64) (fc : Nat → Int32) (fs : Nat → Int32) (fh : Nat → Int32) (t : Nat) (a : Nat → Nat) : Int32 → va_W → Prop := fun (r : Int32) w => ∃ (gc : Nat → Int32) (gh : Nat → Int32), w = [(k0, .inr (9, [.ref m0, .int s1, .int s2, .int s3, .int s4, .int s5, .int s6, .ref m7, .ref m8, .ref m9, .int s10, .int s11, .int s12, .ref m13, .ref m14, .ref m15, .int s16, .ref m17, .ref m18, .ref m19, .ref m20, .ref m21, .ref m22, .ref m23, .ref m24, .ref m25, .ref m26, .ref m27, .ref m28, .int s29, .ref m30, .int s31, .int s32, .int s33, .int s34, .int s35, .ref m36, .ref m37, .ref m38, .ref m39, .long s40])), (m17, ai g 63 gc), (m18, ai g 7 gh), (m19, ai g 4 fs)] ∧ (SP t a (2 * t - 2) (OR t a) = r) ∧ (∀ m, m < 2 * t - 1 → gh m = nI (OS t a m))
theorem q_X9_rebuild_f_f9 : ∀ w ∈ u_ws RX9 TX9 41, w ∈ wsX9_rebuild := by decide +kernel
theorem q_X9_rebuild_f_1 : (Cond.fieldLink RX9 34 "SoundLawsModel" "had" "[I") ∈ wsX9_rebuild := by decide +kernel
theorem q_X9_rebuild_f_2 : (Cond.fieldLink RX9 31 "SoundLawsModel" "costs" "[I") ∈ wsX9_rebuild := by decide +kernel
set_option maxHeartbeats 1500000 in
set_option maxRecDepth 100000 in
theorem c_X9_rebuild_f (l : Launch) (g : GG) (k0 : Nat) (m0 : Nat) (s1 : Int32) (s2 : Int32) (s3 : Int32) (s4 : Int32) (s5 : Int32) (s6 : Int32) (m7 : Nat) (m8 : Nat) (m9 : Nat) (s10 : Int32) (s11 : Int32) (s12 : Int32) (m13 : Nat) (m14 : Nat) (m15 : Nat) (s16 : Int32) (m17 : Nat) (m18 : Nat) (m19 : Nat) (m20 : Nat) (m21 : Nat) (m22 : Nat) (m23 : Nat) (m24 : Nat) (m25 : Nat) (m26 : Nat) (m27 : Nat) (m28 : Nat) (s29 : Int32) (m30 : Nat) (s31 : Int32) (s32 : Int32) (s33 : Int32) (s34 : Int32) (s35 : Int32) (m36 : Nat) (m37 : Nat) (m38 : Nat) (m39 : Nat) (s40 : Int64) (fc : Nat → Int32) (fs : Nat → Int32) (fh : Nat → Int32) (t : Nat) (a : Nat → Nat) (ht : 2 ≤ t) (ht4 : t ≤ 4) (hfa : ∀ u, u < t → fs u = nI (a u)) (ha9 : ∀ u, u < t → a u < 9) (sz : Nat) : MetI l yX9_rebuild wsX9_rebuild ({ frames := 5, cells := 0, slots := 0, locals := 114 }) g [.ref k0, .int (nI t)] [(k0, .inr (9, [.ref m0, .int s1, .int s2, .int s3, .int s4, .int s5, .int s6, .ref m7, .ref m8, .ref m9, .int s10, .int s11, .int s12, .ref m13, .ref m14, .ref m15, .int s16, .ref m17, .ref m18, .ref m19, .ref m20, .ref m21, .ref m22, .ref m23, .ref m24, .ref m25, .ref m26, .ref m27, .ref m28, .int s29, .ref m30, .int s31, .int s32, .int s33, .int s34, .int s35, .ref m36, .ref m37, .ref m38, .ref m39, .long s40])), (m17, ai g 63 fc), (m18, ai g 7 fh), (m19, ai g 4 fs)] sz (po_X9_rebuild_f g k0 m0 s1 s2 s3 s4 s5 s6 m7 m8 m9 s10 s11 s12 m13 m14 m15 s16 m17 m18 m19 m20 m21 m22 m23 m24 m25 m26 m27 m28 s29 m30 s31 s32 s33 s34 s35 m36 m37 m38 m39 s40 fc fs fh t a) 0 0 := by
  refine k_of (l := l) (y := yX9_rebuild) (ws := wsX9_rebuild) (rm := { frames := 5, cells := 0, slots := 0, locals := 114 }) (mc := 0) (ms := 0) (av := [.ref k0, .int (nI t)]) (g := g) (wc := [(k0, .inr (9, [.ref m0, .int s1, .int s2, .int s3, .int s4, .int s5, .int s6, .ref m7, .ref m8, .ref m9, .int s10, .int s11, .int s12, .ref m13, .ref m14, .ref m15, .int s16, .ref m17, .ref m18, .ref m19, .ref m20, .ref m21, .ref m22, .ref m23, .ref m24, .ref m25, .ref m26, .ref m27, .ref m28, .int s29, .ref m30, .int s31, .int s32, .int s33, .int s34, .int s35, .ref m36, .ref m37, .ref m38, .ref m39, .long s40])), (m17, ai g 63 fc), (m18, ai g 7 fh), (m19, ai g 4 fs)]) (Qc := fun A => va_Qi (po_X9_rebuild_f g k0 m0 s1 s2 s3 s4 s5 s6 m7 m8 m9 s10 s11 s12 m13 m14 m15 s16 m17 m18 m19 m20 m21 m22 m23 m24 m25 m26 m27 m28 s29 m30 s31 s32 s33 s34 s35 m36 m37 m38 m39 s40 fc fs fh t a) (bk g A) A) (cc := cX9_rebuild) (maxL := 4) (ret := (some .int)) (by decide) rfl (Nat.le_of_ble_eq_true rfl) ?_ sz
  intro p e s m below meth c hx hb hr hts hown hlocks hnm hml A hA hE hZ hP hD hS ls hl
  have hown : s.vm.findClass RX9 = some m.cls := hown
  have hl : lv_has ls 4 [(0, .ref k0), (1, .int (nI t))] := hl
  refine lv_aload_n hx hb dX9_rebuild_0 rfl (lv_at hl 0 rfl) ?_
  refine lv_iload_n hx hb dX9_rebuild_1 rfl (lv_at hl 1 rfl) ?_
  refine k_cv (wr := [(m18, ai g 7 fh)]) hP hD hS hA [0, 1, 3] [2] rfl rfl (by decide) (by decide) (va_runV (As := [.int (nI t)]) (rest := []) ⟨hx, hb, hml, hown, hts⟩ (c_X9_layCosts_f l g k0 m0 s1 s2 s3 s4 s5 s6 m7 m8 m9 s10 s11 s12 m13 m14 m15 s16 m17 m18 m19 m20 m21 m22 m23 m24 m25 m26 m27 m28 s29 m30 s31 s32 s33 s34 s35 m36 m37 m38 m39 s40 fc fs t a (by first | assumption | omega) (by first | assumption | omega) (by first | assumption | omega) (by first | assumption | omega) s.heap.size) (cwV 1 hts gX9_rebuild_X9_layCosts rfl rfl rfl (by decide +kernel) ⟨Nat.le_of_ble_eq_true rfl, Nat.le_of_ble_eq_true rfl⟩) (k_preV hE hZ hP hD hS hA [0, 1, 3] rfl (by decide) (va_recv hE.1 hP (ci := 9) (q0 := 0) rfl rfl)) rfl rfl hl.1 rfl (lv_room (Nat.le_of_ble_eq_true rfl)) dX9_rebuild_2 ⟨Nat.le_of_ble_eq_true rfl, Nat.le_of_ble_eq_true rfl⟩) (fun w1 H locs hw hP hD hS => ?_)
  obtain ⟨gc_2, rfl, hgc_3⟩ := hw
  have hP : va_P g.1 vwCl [(m18, ai g 7 fh), (k0, .inr (9, [.ref m0, .int s1, .int s2, .int s3, .int s4, .int s5, .int s6, .ref m7, .ref m8, .ref m9, .int s10, .int s11, .int s12, .ref m13, .ref m14, .ref m15, .int s16, .ref m17, .ref m18, .ref m19, .ref m20, .ref m21, .ref m22, .ref m23, .ref m24, .ref m25, .ref m26, .ref m27, .ref m28, .int s29, .ref m30, .int s31, .int s32, .int s33, .int s34, .int s35, .ref m36, .ref m37, .ref m38, .ref m39, .long s40])), (m17, ai g 63 gc_2), (m19, ai g 4 fs)] H := hP
  have hD : va_D A [(m18, ai g 7 fh), (k0, .inr (9, [.ref m0, .int s1, .int s2, .int s3, .int s4, .int s5, .int s6, .ref m7, .ref m8, .ref m9, .int s10, .int s11, .int s12, .ref m13, .ref m14, .ref m15, .int s16, .ref m17, .ref m18, .ref m19, .ref m20, .ref m21, .ref m22, .ref m23, .ref m24, .ref m25, .ref m26, .ref m27, .ref m28, .int s29, .ref m30, .int s31, .int s32, .int s33, .int s34, .int s35, .ref m36, .ref m37, .ref m38, .ref m39, .long s40])), (m17, ai g 63 gc_2), (m19, ai g 4 fs)] := hD
  refine lv_aload_n hx hb dX9_rebuild_5 rfl (lv_at hl 0 rfl) ?_
  refine lv_iload_n hx hb dX9_rebuild_6 rfl (lv_at hl 1 rfl) ?_
  refine k_ci (wr := [(m18, ai g 7 fh), (k0, .inr (9, [.ref m0, .int s1, .int s2, .int s3, .int s4, .int s5, .int s6, .ref m7, .ref m8, .ref m9, .int s10, .int s11, .int s12, .ref m13, .ref m14, .ref m15, .int s16, .ref m17, .ref m18, .ref m19, .ref m20, .ref m21, .ref m22, .ref m23, .ref m24, .ref m25, .ref m26, .ref m27, .ref m28, .int s29, .ref m30, .int s31, .int s32, .int s33, .int s34, .int s35, .ref m36, .ref m37, .ref m38, .ref m39, .long s40])), (m17, ai g 63 gc_2), (m19, ai g 4 fs)]) hP hD hS hA [] [0, 1, 2, 3] rfl rfl (by decide) (by decide) (va_runV (As := [.int (nI t)]) (rest := []) ⟨hx, hb, hml, hown, hts⟩ (c_X9_nodesBy_g l g k0 t (by first | assumption | omega) (by first | assumption | omega) H.size) (cwV 1 hts gX9_rebuild_X9_nodesBy rfl rfl rfl (by decide +kernel) ⟨Nat.le_of_ble_eq_true rfl, Nat.le_of_ble_eq_true rfl⟩) (k_preV hE hZ hP hD hS hA [] rfl (by decide) (va_recv hE.1 hP (ci := 9) (q0 := 1) rfl rfl)) rfl rfl hl.1 rfl (lv_room (Nat.le_of_ble_eq_true rfl)) dX9_rebuild_7 ⟨Nat.le_of_ble_eq_true rfl, Nat.le_of_ble_eq_true rfl⟩) (fun r_4 w1 H locs hw hP hD hS => ?_)
  obtain ⟨rfl, rfl⟩ := hw
  have hP : va_P g.1 vwCl [(m18, ai g 7 fh), (k0, .inr (9, [.ref m0, .int s1, .int s2, .int s3, .int s4, .int s5, .int s6, .ref m7, .ref m8, .ref m9, .int s10, .int s11, .int s12, .ref m13, .ref m14, .ref m15, .int s16, .ref m17, .ref m18, .ref m19, .ref m20, .ref m21, .ref m22, .ref m23, .ref m24, .ref m25, .ref m26, .ref m27, .ref m28, .int s29, .ref m30, .int s31, .int s32, .int s33, .int s34, .int s35, .ref m36, .ref m37, .ref m38, .ref m39, .long s40])), (m17, ai g 63 gc_2), (m19, ai g 4 fs)] H := hP
  have hD : va_D A [(m18, ai g 7 fh), (k0, .inr (9, [.ref m0, .int s1, .int s2, .int s3, .int s4, .int s5, .int s6, .ref m7, .ref m8, .ref m9, .int s10, .int s11, .int s12, .ref m13, .ref m14, .ref m15, .int s16, .ref m17, .ref m18, .ref m19, .ref m20, .ref m21, .ref m22, .ref m23, .ref m24, .ref m25, .ref m26, .ref m27, .ref m28, .int s29, .ref m30, .int s31, .int s32, .int s33, .int s34, .int s35, .ref m36, .ref m37, .ref m38, .ref m39, .long s40])), (m17, ai g 63 gc_2), (m19, ai g 4 fs)] := hD
  refine lv_iconst (v := 1) hx hb dX9_rebuild_10 (by decide) ?_
  refine lv_isub hx hb dX9_rebuild_11 ?_
  refine lv_topi (fun x_6 ex_6 => ?_)
  obtain rfl : x_6 = nI (2 * t - 2) := by rw [ex_6]; exact (pk_sub (b := 1) (by omega)).trans (congrArg nI (by omega))
  refine lv_istore_n (lv' := [(2, .int (nI (2 * t - 2))), (0, .ref k0), (1, .int (nI t))]) hx hb dX9_rebuild_12 rfl hl (by decide) rfl (fun ls hl => ?_)
  refine lv_aload_n hx hb dX9_rebuild_13 rfl (lv_at hl 1 rfl) ?_
  refine va_get (D := g.1) (ci := 9) (v := .ref m18) (C := RX9) (T := TX9) (N := 41) hx hb hts q_X9_rebuild_f_f9 hown hE.1 hP 1 rfl rfl 18 (by decide) (hts (.fieldLink RX9 34 "SoundLawsModel" "had" "[I") q_X9_rebuild_f_1) (fun _ h9 => h9) rfl dX9_rebuild_14 ?_
  refine lv_iload_n hx hb dX9_rebuild_17 rfl (lv_at hl 0 rfl) ?_
  refine lv_aload_n hx hb dX9_rebuild_18 rfl (lv_at hl 1 rfl) ?_
  refine lv_iload_n hx hb dX9_rebuild_19 rfl (lv_at hl 0 rfl) ?_
  refine lv_iconst (v := (-1)) hx hb dX9_rebuild_20 (by decide) ?_
  refine k_ci (wr := [(m18, ai g 7 fh), (m19, ai g 4 fs)]) hP hD hS hA [1, 2] [0, 3] rfl rfl (by decide) (by decide) (va_runV (As := [.int (nI (2 * t - 2)), .int (-1)]) (rest := [.int (nI (2 * t - 2)), .ref m18]) ⟨hx, hb, hml, hown, hts⟩ (c_X9_leastSound_r l g k0 m0 s1 s2 s3 s4 s5 s6 m7 m8 m9 s10 s11 s12 m13 m14 m15 s16 m17 m18 m19 m20 m21 m22 m23 m24 m25 m26 m27 m28 s29 m30 s31 s32 s33 s34 s35 m36 m37 m38 m39 s40 gc_2 (2 * t - 2) (by first | assumption | omega) H.size) (cwV 2 hts gX9_rebuild_X9_leastSound rfl rfl rfl (by decide +kernel) ⟨Nat.le_of_ble_eq_true rfl, Nat.le_of_ble_eq_true rfl⟩) (k_preV hE hZ hP hD hS hA [1, 2] rfl (by decide) (va_recv hE.1 hP (ci := 9) (q0 := 1) rfl rfl)) rfl rfl hl.1 rfl (lv_room (Nat.le_of_ble_eq_true rfl)) dX9_rebuild_21 ⟨Nat.le_of_ble_eq_true rfl, Nat.le_of_ble_eq_true rfl⟩) (fun r_7 w1 H locs hw hP hD hS => ?_)
  obtain ⟨rfl, rfl⟩ := hw
  have hP : va_P g.1 vwCl [(m18, ai g 7 fh), (m19, ai g 4 fs), (k0, .inr (9, [.ref m0, .int s1, .int s2, .int s3, .int s4, .int s5, .int s6, .ref m7, .ref m8, .ref m9, .int s10, .int s11, .int s12, .ref m13, .ref m14, .ref m15, .int s16, .ref m17, .ref m18, .ref m19, .ref m20, .ref m21, .ref m22, .ref m23, .ref m24, .ref m25, .ref m26, .ref m27, .ref m28, .int s29, .ref m30, .int s31, .int s32, .int s33, .int s34, .int s35, .ref m36, .ref m37, .ref m38, .ref m39, .long s40])), (m17, ai g 63 gc_2)] H := hP
  have hD : va_D A [(m18, ai g 7 fh), (m19, ai g 4 fs), (k0, .inr (9, [.ref m0, .int s1, .int s2, .int s3, .int s4, .int s5, .int s6, .ref m7, .ref m8, .ref m9, .int s10, .int s11, .int s12, .ref m13, .ref m14, .ref m15, .int s16, .ref m17, .ref m18, .ref m19, .ref m20, .ref m21, .ref m22, .ref m23, .ref m24, .ref m25, .ref m26, .ref m27, .ref m28, .int s29, .ref m30, .int s31, .int s32, .int s33, .int s34, .int s35, .ref m36, .ref m37, .ref m38, .ref m39, .long s40])), (m17, ai g 63 gc_2)] := hD
  refine lv_topi (fun x_9 ex_9 => ?_)
  obtain rfl : x_9 = nI (OR t a) := by rw [ex_9]; exact congrArg nI (ams_root ht ht4 ha9 (fun s hs => hgc_3 _ (by omega) s hs))
  refine k_ast (x := (nI (OR t a))) (2 * t - 2) rfl (by omega) hx hb hE hP hD hS 0 rfl (by decide) dX9_rebuild_24 (fun H locs hP hD hS => ?_)
  have hP : va_P g.1 vwCl [(m18, ai g 7 (upd fh (2 * t - 2) (nI (OR t a)))), (m19, ai g 4 fs), (k0, .inr (9, [.ref m0, .int s1, .int s2, .int s3, .int s4, .int s5, .int s6, .ref m7, .ref m8, .ref m9, .int s10, .int s11, .int s12, .ref m13, .ref m14, .ref m15, .int s16, .ref m17, .ref m18, .ref m19, .ref m20, .ref m21, .ref m22, .ref m23, .ref m24, .ref m25, .ref m26, .ref m27, .ref m28, .int s29, .ref m30, .int s31, .int s32, .int s33, .int s34, .int s35, .ref m36, .ref m37, .ref m38, .ref m39, .long s40])), (m17, ai g 63 gc_2)] H := hP
  have hD : va_D A [(m18, ai g 7 (upd fh (2 * t - 2) (nI (OR t a)))), (m19, ai g 4 fs), (k0, .inr (9, [.ref m0, .int s1, .int s2, .int s3, .int s4, .int s5, .int s6, .ref m7, .ref m8, .ref m9, .int s10, .int s11, .int s12, .ref m13, .ref m14, .ref m15, .int s16, .ref m17, .ref m18, .ref m19, .ref m20, .ref m21, .ref m22, .ref m23, .ref m24, .ref m25, .ref m26, .ref m27, .ref m28, .int s29, .ref m30, .int s31, .int s32, .int s33, .int s34, .int s35, .ref m36, .ref m37, .ref m38, .ref m39, .long s40])), (m17, ai g 63 gc_2)] := hD
  refine lv_iload_n hx hb dX9_rebuild_25 rfl (lv_at hl 0 rfl) ?_
  refine lv_istore_n (lv' := [(3, .int (nI (2 * t - 2))), (2, .int (nI (2 * t - 2))), (0, .ref k0), (1, .int (nI t))]) hx hb dX9_rebuild_26 rfl hl (by decide) rfl (fun ls hl => ?_)
  have loop27 : ∀ (fu : Nat) (nd : Nat) (h1 : Nat → Int32), (hn1 : t - 1 ≤ nd) → (hn2 : nd ≤ 2 * t - 2) → (hh1 : RHt t a nd h1) → nd < fu → ∀ (H : Heap) (locs : List Loc) (ls : Array Slot), va_P g.1 vwCl [(m18, ai g 7 h1), (m19, ai g 4 fs), (k0, .inr (9, [.ref m0, .int s1, .int s2, .int s3, .int s4, .int s5, .int s6, .ref m7, .ref m8, .ref m9, .int s10, .int s11, .int s12, .ref m13, .ref m14, .ref m15, .int s16, .ref m17, .ref m18, .ref m19, .ref m20, .ref m21, .ref m22, .ref m23, .ref m24, .ref m25, .ref m26, .ref m27, .ref m28, .int s29, .ref m30, .int s31, .int s32, .int s33, .int s34, .int s35, .ref m36, .ref m37, .ref m38, .ref m39, .long s40])), (m17, ai g 63 gc_2)] H → va_D A [(m18, ai g 7 h1), (m19, ai g 4 fs), (k0, .inr (9, [.ref m0, .int s1, .int s2, .int s3, .int s4, .int s5, .int s6, .ref m7, .ref m8, .ref m9, .int s10, .int s11, .int s12, .ref m13, .ref m14, .ref m15, .int s16, .ref m17, .ref m18, .ref m19, .ref m20, .ref m21, .ref m22, .ref m23, .ref m24, .ref m25, .ref m26, .ref m27, .ref m28, .int s29, .ref m30, .int s31, .int s32, .int s33, .int s34, .int s35, .ref m36, .ref m37, .ref m38, .ref m39, .long s40])), (m17, ai g 63 gc_2)] → va_S A s.heap H locs → lv_has ls 4 [(0, .ref k0), (1, .int (nI t)), (2, .int (nI (2 * t - 2))), (3, .int (nI nd))] → W p l e ({ frames := 5, cells := 0, slots := 0, locals := 114 }) s m [.ref k0, .int (nI t)].toArray below meth c H locs 0 0 (MQ below (va_Qi (po_X9_rebuild_f g k0 m0 s1 s2 s3 s4 s5 s6 m7 m8 m9 s10 s11 s12 m13 m14 m15 s16 m17 m18 m19 m20 m21 m22 m23 m24 m25 m26 m27 m28 s29 m30 s31 s32 s33 s34 s35 m36 m37 m38 m39 s40 fc fs fh t a) (bk g A) A) [.ref k0, .int (nI t)].toArray s 0 0 A) (F0 m 27 ls []) := by
    intro fu
    induction fu with
    | zero => intro nd h1 hn1 hn2 hh1 hfu; exact absurd hfu (Nat.not_lt_zero _)
    | succ fu ih =>
      intro nd h1 hn1 hn2 hh1 hfu H locs ls hP hD hS hl
      have ih27 := ih
      refine lv_iload_n hx hb dX9_rebuild_27 rfl (lv_at hl 3 rfl) ?_
      refine lv_iload_n hx hb dX9_rebuild_28 rfl (lv_at hl 1 rfl) ?_
      refine lv_icmp_lt (tgt := 88) hx hb dX9_rebuild_29 (by decide) (fun c29_10 => ?_) (fun c29_10 => ?_)
      · skip
        have hnt := (nI_ltI (by omega) (by omega)).mp c29_10
        refine lv_aload_n hx hb dX9_rebuild_88 rfl (lv_at hl 0 rfl) ?_
        refine va_get (D := g.1) (ci := 9) (v := .ref m17) (C := RX9) (T := TX9) (N := 41) hx hb hts q_X9_rebuild_f_f9 hown hE.1 hP 2 rfl rfl 17 (by decide) (hts (.fieldLink RX9 31 "SoundLawsModel" "costs" "[I") q_X9_rebuild_f_2) (fun _ h9 => h9) rfl dX9_rebuild_89 ?_
        refine lv_bipush (v := 9) hx hb dX9_rebuild_92 (by decide) ?_
        refine lv_iload_n hx hb dX9_rebuild_94 rfl (lv_at hl 2 rfl) ?_
        refine lv_imul hx hb dX9_rebuild_95 ?_
        refine lv_aload_n hx hb dX9_rebuild_96 rfl (lv_at hl 0 rfl) ?_
        refine va_get (D := g.1) (ci := 9) (v := .ref m18) (C := RX9) (T := TX9) (N := 41) hx hb hts q_X9_rebuild_f_f9 hown hE.1 hP 2 rfl rfl 18 (by decide) (hts (.fieldLink RX9 34 "SoundLawsModel" "had" "[I") q_X9_rebuild_f_1) (fun _ h9 => h9) rfl dX9_rebuild_97 ?_
        refine lv_iload_n hx hb dX9_rebuild_100 rfl (lv_at hl 2 rfl) ?_
        refine k_ald (2 * t - 2) rfl (by omega) hx hb hE hP 0 rfl (by decide) dX9_rebuild_101 ?_
        refine lv_topi (fun x_11 ex_11 => ?_)
        obtain rfl : x_11 = nI (OR t a) := by rw [ex_11]; exact hh1.1
        refine lv_iadd hx hb dX9_rebuild_102 ?_
        refine k_ald (9 * (2 * t - 2) + OR t a) (by rw [show (9 : Int32) = nI 9 from rfl, pk_mul, nI_add]) (by have := OR_lt (t := t) (a := a); omega) hx hb hE hP 3 rfl (by decide) dX9_rebuild_103 ?_
        refine W.widen (k := 0) (n := 0) (Nat.le_of_ble_eq_true rfl) (Nat.le_of_ble_eq_true rfl) ?_
        have hP9 := hP.sub (ws' := [(k0, .inr (9, [.ref m0, .int s1, .int s2, .int s3, .int s4, .int s5, .int s6, .ref m7, .ref m8, .ref m9, .int s10, .int s11, .int s12, .ref m13, .ref m14, .ref m15, .int s16, .ref m17, .ref m18, .ref m19, .ref m20, .ref m21, .ref m22, .ref m23, .ref m24, .ref m25, .ref m26, .ref m27, .ref m28, .int s29, .ref m30, .int s31, .int s32, .int s33, .int s34, .int s35, .ref m36, .ref m37, .ref m38, .ref m39, .long s40])), (m17, ai g 63 gc_2), (m18, ai g 7 h1), (m19, ai g 4 fs)]) [2, 3, 0, 1] rfl
        have hD9 := hD.sub (ws' := [(k0, .inr (9, [.ref m0, .int s1, .int s2, .int s3, .int s4, .int s5, .int s6, .ref m7, .ref m8, .ref m9, .int s10, .int s11, .int s12, .ref m13, .ref m14, .ref m15, .int s16, .ref m17, .ref m18, .ref m19, .ref m20, .ref m21, .ref m22, .ref m23, .ref m24, .ref m25, .ref m26, .ref m27, .ref m28, .int s29, .ref m30, .int s31, .int s32, .int s33, .int s34, .int s35, .ref m36, .ref m37, .ref m38, .ref m39, .long s40])), (m17, ai g 63 gc_2), (m18, ai g 7 h1), (m19, ai g 4 fs)]) [2, 3, 0, 1] (by decide) rfl
        exact k_ri hx hb hr hlocks hS hP9 hD9 ⟨gc_2, h1, rfl, ((hgc_3 (2 * t - 2) (by omega) _ OR_lt).trans (MC_n (by omega))).symm, (RH_end ht ht4 hnt hh1)⟩ dX9_rebuild_104
      · skip
        have hnt := ge_of_nlt (k := t) (n := nd) (by omega) (by omega) c29_10
        obtain ⟨hc1, hc2, hc3⟩ := ch_ok t (by omega) nd (by omega) ht hnt (by omega)
        have hos := OS_lt (t := t) (nd := nd) ha9
        refine lv_aload_n hx hb dX9_rebuild_32 rfl (lv_at hl 0 rfl) ?_
        refine va_get (D := g.1) (ci := 9) (v := .ref m18) (C := RX9) (T := TX9) (N := 41) hx hb hts q_X9_rebuild_f_f9 hown hE.1 hP 2 rfl rfl 18 (by decide) (hts (.fieldLink RX9 34 "SoundLawsModel" "had" "[I") q_X9_rebuild_f_1) (fun _ h9 => h9) rfl dX9_rebuild_33 ?_
        refine lv_iload_n hx hb dX9_rebuild_36 rfl (lv_at hl 1 rfl) ?_
        refine lv_iload_n hx hb dX9_rebuild_37 rfl (lv_at hl 3 rfl) ?_
        refine k_ci (wr := [(m18, ai g 7 h1), (m19, ai g 4 fs), (k0, .inr (9, [.ref m0, .int s1, .int s2, .int s3, .int s4, .int s5, .int s6, .ref m7, .ref m8, .ref m9, .int s10, .int s11, .int s12, .ref m13, .ref m14, .ref m15, .int s16, .ref m17, .ref m18, .ref m19, .ref m20, .ref m21, .ref m22, .ref m23, .ref m24, .ref m25, .ref m26, .ref m27, .ref m28, .int s29, .ref m30, .int s31, .int s32, .int s33, .int s34, .int s35, .ref m36, .ref m37, .ref m38, .ref m39, .long s40])), (m17, ai g 63 gc_2)]) hP hD hS hA [] [0, 1, 2, 3] rfl rfl (by decide) (by decide) (va_runS (As := [.int (nI t), .int (nI nd)]) (rest := [.ref m18]) ⟨hx, hb, hml, hown, hts⟩ (c_X9_belowFirst_f l g t nd (by first | assumption | omega) (by first | assumption | omega) (by first | assumption | omega) (by first | assumption | omega) H.size) (va_cwS 2 hts gX9_rebuild_X9_belowFirst rfl rfl rfl (by decide +kernel) ⟨Nat.le_of_ble_eq_true rfl, Nat.le_of_ble_eq_true rfl⟩) (k_preS hE hZ hP hD hS hA [] rfl (by decide)) rfl rfl hl.1 rfl (lv_room (Nat.le_of_ble_eq_true rfl)) dX9_rebuild_38 ⟨Nat.le_of_ble_eq_true rfl, Nat.le_of_ble_eq_true rfl⟩) (fun r_12 w1 H locs hw hP hD hS => ?_)
        obtain ⟨rfl, rfl⟩ := hw
        have hP : va_P g.1 vwCl [(m18, ai g 7 h1), (m19, ai g 4 fs), (k0, .inr (9, [.ref m0, .int s1, .int s2, .int s3, .int s4, .int s5, .int s6, .ref m7, .ref m8, .ref m9, .int s10, .int s11, .int s12, .ref m13, .ref m14, .ref m15, .int s16, .ref m17, .ref m18, .ref m19, .ref m20, .ref m21, .ref m22, .ref m23, .ref m24, .ref m25, .ref m26, .ref m27, .ref m28, .int s29, .ref m30, .int s31, .int s32, .int s33, .int s34, .int s35, .ref m36, .ref m37, .ref m38, .ref m39, .long s40])), (m17, ai g 63 gc_2)] H := hP
        have hD : va_D A [(m18, ai g 7 h1), (m19, ai g 4 fs), (k0, .inr (9, [.ref m0, .int s1, .int s2, .int s3, .int s4, .int s5, .int s6, .ref m7, .ref m8, .ref m9, .int s10, .int s11, .int s12, .ref m13, .ref m14, .ref m15, .int s16, .ref m17, .ref m18, .ref m19, .ref m20, .ref m21, .ref m22, .ref m23, .ref m24, .ref m25, .ref m26, .ref m27, .ref m28, .int s29, .ref m30, .int s31, .int s32, .int s33, .int s34, .int s35, .ref m36, .ref m37, .ref m38, .ref m39, .long s40])), (m17, ai g 63 gc_2)] := hD
        refine lv_aload_n hx hb dX9_rebuild_41 rfl (lv_at hl 0 rfl) ?_
        refine lv_iload_n hx hb dX9_rebuild_42 rfl (lv_at hl 1 rfl) ?_
        refine lv_iload_n hx hb dX9_rebuild_43 rfl (lv_at hl 3 rfl) ?_
        refine k_ci (wr := [(m18, ai g 7 h1), (m19, ai g 4 fs), (k0, .inr (9, [.ref m0, .int s1, .int s2, .int s3, .int s4, .int s5, .int s6, .ref m7, .ref m8, .ref m9, .int s10, .int s11, .int s12, .ref m13, .ref m14, .ref m15, .int s16, .ref m17, .ref m18, .ref m19, .ref m20, .ref m21, .ref m22, .ref m23, .ref m24, .ref m25, .ref m26, .ref m27, .ref m28, .int s29, .ref m30, .int s31, .int s32, .int s33, .int s34, .int s35, .ref m36, .ref m37, .ref m38, .ref m39, .long s40])), (m17, ai g 63 gc_2)]) hP hD hS hA [] [0, 1, 2, 3] rfl rfl (by decide) (by decide) (va_runS (As := [.int (nI t), .int (nI nd)]) (rest := [.ref k0, .int (nI (c1 t nd)), .ref m18]) ⟨hx, hb, hml, hown, hts⟩ (c_X9_belowFirst_f l g t nd (by first | assumption | omega) (by first | assumption | omega) (by first | assumption | omega) (by first | assumption | omega) H.size) (va_cwS 2 hts gX9_rebuild_X9_belowFirst rfl rfl rfl (by decide +kernel) ⟨Nat.le_of_ble_eq_true rfl, Nat.le_of_ble_eq_true rfl⟩) (k_preS hE hZ hP hD hS hA [] rfl (by decide)) rfl rfl hl.1 rfl (lv_room (Nat.le_of_ble_eq_true rfl)) dX9_rebuild_44 ⟨Nat.le_of_ble_eq_true rfl, Nat.le_of_ble_eq_true rfl⟩) (fun r_14 w1 H locs hw hP hD hS => ?_)
        obtain ⟨rfl, rfl⟩ := hw
        have hP : va_P g.1 vwCl [(m18, ai g 7 h1), (m19, ai g 4 fs), (k0, .inr (9, [.ref m0, .int s1, .int s2, .int s3, .int s4, .int s5, .int s6, .ref m7, .ref m8, .ref m9, .int s10, .int s11, .int s12, .ref m13, .ref m14, .ref m15, .int s16, .ref m17, .ref m18, .ref m19, .ref m20, .ref m21, .ref m22, .ref m23, .ref m24, .ref m25, .ref m26, .ref m27, .ref m28, .int s29, .ref m30, .int s31, .int s32, .int s33, .int s34, .int s35, .ref m36, .ref m37, .ref m38, .ref m39, .long s40])), (m17, ai g 63 gc_2)] H := hP
        have hD : va_D A [(m18, ai g 7 h1), (m19, ai g 4 fs), (k0, .inr (9, [.ref m0, .int s1, .int s2, .int s3, .int s4, .int s5, .int s6, .ref m7, .ref m8, .ref m9, .int s10, .int s11, .int s12, .ref m13, .ref m14, .ref m15, .int s16, .ref m17, .ref m18, .ref m19, .ref m20, .ref m21, .ref m22, .ref m23, .ref m24, .ref m25, .ref m26, .ref m27, .ref m28, .int s29, .ref m30, .int s31, .int s32, .int s33, .int s34, .int s35, .ref m36, .ref m37, .ref m38, .ref m39, .long s40])), (m17, ai g 63 gc_2)] := hD
        refine lv_aload_n hx hb dX9_rebuild_47 rfl (lv_at hl 0 rfl) ?_
        refine va_get (D := g.1) (ci := 9) (v := .ref m18) (C := RX9) (T := TX9) (N := 41) hx hb hts q_X9_rebuild_f_f9 hown hE.1 hP 2 rfl rfl 18 (by decide) (hts (.fieldLink RX9 34 "SoundLawsModel" "had" "[I") q_X9_rebuild_f_1) (fun _ h9 => h9) rfl dX9_rebuild_48 ?_
        refine lv_iload_n hx hb dX9_rebuild_51 rfl (lv_at hl 3 rfl) ?_
        refine k_ald nd rfl (by omega) hx hb hE hP 0 rfl (by decide) dX9_rebuild_52 ?_
        refine lv_topi (fun x_16 ex_16 => ?_)
        obtain rfl : x_16 = nI (OS t a nd) := by rw [ex_16]; exact RH_at ht ht4 (by omega) hh1
        refine k_ci (wr := [(m18, ai g 7 h1), (m19, ai g 4 fs)]) hP hD hS hA [2, 3] [0, 1] rfl rfl (by decide) (by decide) (va_runV (As := [.int (nI (c1 t nd)), .int (nI (OS t a nd))]) (rest := [.int (nI (c1 t nd)), .ref m18]) ⟨hx, hb, hml, hown, hts⟩ (c_X9_leastSound_f l g k0 m0 s1 s2 s3 s4 s5 s6 m7 m8 m9 s10 s11 s12 m13 m14 m15 s16 m17 m18 m19 m20 m21 m22 m23 m24 m25 m26 m27 m28 s29 m30 s31 s32 s33 s34 s35 m36 m37 m38 m39 s40 gc_2 (c1 t nd) (OS t a nd) (by first | assumption | omega) (by first | assumption | omega) H.size) (cwV 2 hts gX9_rebuild_X9_leastSound rfl rfl rfl (by decide +kernel) ⟨Nat.le_of_ble_eq_true rfl, Nat.le_of_ble_eq_true rfl⟩) (k_preV hE hZ hP hD hS hA [2, 3] rfl (by decide) (va_recv hE.1 hP (ci := 9) (q0 := 2) rfl rfl)) rfl rfl hl.1 rfl (lv_room (Nat.le_of_ble_eq_true rfl)) dX9_rebuild_53 ⟨Nat.le_of_ble_eq_true rfl, Nat.le_of_ble_eq_true rfl⟩) (fun r_17 w1 H locs hw hP hD hS => ?_)
        obtain ⟨rfl, rfl⟩ := hw
        have hP : va_P g.1 vwCl [(m18, ai g 7 h1), (m19, ai g 4 fs), (k0, .inr (9, [.ref m0, .int s1, .int s2, .int s3, .int s4, .int s5, .int s6, .ref m7, .ref m8, .ref m9, .int s10, .int s11, .int s12, .ref m13, .ref m14, .ref m15, .int s16, .ref m17, .ref m18, .ref m19, .ref m20, .ref m21, .ref m22, .ref m23, .ref m24, .ref m25, .ref m26, .ref m27, .ref m28, .int s29, .ref m30, .int s31, .int s32, .int s33, .int s34, .int s35, .ref m36, .ref m37, .ref m38, .ref m39, .long s40])), (m17, ai g 63 gc_2)] H := hP
        have hD : va_D A [(m18, ai g 7 h1), (m19, ai g 4 fs), (k0, .inr (9, [.ref m0, .int s1, .int s2, .int s3, .int s4, .int s5, .int s6, .ref m7, .ref m8, .ref m9, .int s10, .int s11, .int s12, .ref m13, .ref m14, .ref m15, .int s16, .ref m17, .ref m18, .ref m19, .ref m20, .ref m21, .ref m22, .ref m23, .ref m24, .ref m25, .ref m26, .ref m27, .ref m28, .int s29, .ref m30, .int s31, .int s32, .int s33, .int s34, .int s35, .ref m36, .ref m37, .ref m38, .ref m39, .long s40])), (m17, ai g 63 gc_2)] := hD
        refine k_ast (x := (nI (ams (fun s => gc_2 (9 * (c1 t nd) + s) + cmo (nI s) (nI (OS t a nd))) 9))) (c1 t nd) rfl (by omega) hx hb hE hP hD hS 0 rfl (by decide) dX9_rebuild_56 (fun H locs hP hD hS => ?_)
        have hP : va_P g.1 vwCl [(m18, ai g 7 (upd h1 (c1 t nd) (nI (ams (fun s => gc_2 (9 * (c1 t nd) + s) + cmo (nI s) (nI (OS t a nd))) 9)))), (m19, ai g 4 fs), (k0, .inr (9, [.ref m0, .int s1, .int s2, .int s3, .int s4, .int s5, .int s6, .ref m7, .ref m8, .ref m9, .int s10, .int s11, .int s12, .ref m13, .ref m14, .ref m15, .int s16, .ref m17, .ref m18, .ref m19, .ref m20, .ref m21, .ref m22, .ref m23, .ref m24, .ref m25, .ref m26, .ref m27, .ref m28, .int s29, .ref m30, .int s31, .int s32, .int s33, .int s34, .int s35, .ref m36, .ref m37, .ref m38, .ref m39, .long s40])), (m17, ai g 63 gc_2)] H := hP
        have hD : va_D A [(m18, ai g 7 (upd h1 (c1 t nd) (nI (ams (fun s => gc_2 (9 * (c1 t nd) + s) + cmo (nI s) (nI (OS t a nd))) 9)))), (m19, ai g 4 fs), (k0, .inr (9, [.ref m0, .int s1, .int s2, .int s3, .int s4, .int s5, .int s6, .ref m7, .ref m8, .ref m9, .int s10, .int s11, .int s12, .ref m13, .ref m14, .ref m15, .int s16, .ref m17, .ref m18, .ref m19, .ref m20, .ref m21, .ref m22, .ref m23, .ref m24, .ref m25, .ref m26, .ref m27, .ref m28, .int s29, .ref m30, .int s31, .int s32, .int s33, .int s34, .int s35, .ref m36, .ref m37, .ref m38, .ref m39, .long s40])), (m17, ai g 63 gc_2)] := hD
        refine lv_aload_n hx hb dX9_rebuild_57 rfl (lv_at hl 0 rfl) ?_
        refine va_get (D := g.1) (ci := 9) (v := .ref m18) (C := RX9) (T := TX9) (N := 41) hx hb hts q_X9_rebuild_f_f9 hown hE.1 hP 2 rfl rfl 18 (by decide) (hts (.fieldLink RX9 34 "SoundLawsModel" "had" "[I") q_X9_rebuild_f_1) (fun _ h9 => h9) rfl dX9_rebuild_58 ?_
        refine lv_iload_n hx hb dX9_rebuild_61 rfl (lv_at hl 1 rfl) ?_
        refine lv_iload_n hx hb dX9_rebuild_62 rfl (lv_at hl 3 rfl) ?_
        refine k_ci (wr := [(m18, ai g 7 (upd h1 (c1 t nd) (nI (ams (fun s => gc_2 (9 * (c1 t nd) + s) + cmo (nI s) (nI (OS t a nd))) 9)))), (m19, ai g 4 fs), (k0, .inr (9, [.ref m0, .int s1, .int s2, .int s3, .int s4, .int s5, .int s6, .ref m7, .ref m8, .ref m9, .int s10, .int s11, .int s12, .ref m13, .ref m14, .ref m15, .int s16, .ref m17, .ref m18, .ref m19, .ref m20, .ref m21, .ref m22, .ref m23, .ref m24, .ref m25, .ref m26, .ref m27, .ref m28, .int s29, .ref m30, .int s31, .int s32, .int s33, .int s34, .int s35, .ref m36, .ref m37, .ref m38, .ref m39, .long s40])), (m17, ai g 63 gc_2)]) hP hD hS hA [] [0, 1, 2, 3] rfl rfl (by decide) (by decide) (va_runS (As := [.int (nI t), .int (nI nd)]) (rest := [.ref m18]) ⟨hx, hb, hml, hown, hts⟩ (c_X9_belowSecond_f l g t nd (by first | assumption | omega) (by first | assumption | omega) (by first | assumption | omega) (by first | assumption | omega) H.size) (va_cwS 2 hts gX9_rebuild_X9_belowSecond rfl rfl rfl (by decide +kernel) ⟨Nat.le_of_ble_eq_true rfl, Nat.le_of_ble_eq_true rfl⟩) (k_preS hE hZ hP hD hS hA [] rfl (by decide)) rfl rfl hl.1 rfl (lv_room (Nat.le_of_ble_eq_true rfl)) dX9_rebuild_63 ⟨Nat.le_of_ble_eq_true rfl, Nat.le_of_ble_eq_true rfl⟩) (fun r_19 w1 H locs hw hP hD hS => ?_)
        obtain ⟨rfl, rfl⟩ := hw
        have hP : va_P g.1 vwCl [(m18, ai g 7 (upd h1 (c1 t nd) (nI (ams (fun s => gc_2 (9 * (c1 t nd) + s) + cmo (nI s) (nI (OS t a nd))) 9)))), (m19, ai g 4 fs), (k0, .inr (9, [.ref m0, .int s1, .int s2, .int s3, .int s4, .int s5, .int s6, .ref m7, .ref m8, .ref m9, .int s10, .int s11, .int s12, .ref m13, .ref m14, .ref m15, .int s16, .ref m17, .ref m18, .ref m19, .ref m20, .ref m21, .ref m22, .ref m23, .ref m24, .ref m25, .ref m26, .ref m27, .ref m28, .int s29, .ref m30, .int s31, .int s32, .int s33, .int s34, .int s35, .ref m36, .ref m37, .ref m38, .ref m39, .long s40])), (m17, ai g 63 gc_2)] H := hP
        have hD : va_D A [(m18, ai g 7 (upd h1 (c1 t nd) (nI (ams (fun s => gc_2 (9 * (c1 t nd) + s) + cmo (nI s) (nI (OS t a nd))) 9)))), (m19, ai g 4 fs), (k0, .inr (9, [.ref m0, .int s1, .int s2, .int s3, .int s4, .int s5, .int s6, .ref m7, .ref m8, .ref m9, .int s10, .int s11, .int s12, .ref m13, .ref m14, .ref m15, .int s16, .ref m17, .ref m18, .ref m19, .ref m20, .ref m21, .ref m22, .ref m23, .ref m24, .ref m25, .ref m26, .ref m27, .ref m28, .int s29, .ref m30, .int s31, .int s32, .int s33, .int s34, .int s35, .ref m36, .ref m37, .ref m38, .ref m39, .long s40])), (m17, ai g 63 gc_2)] := hD
        refine lv_aload_n hx hb dX9_rebuild_66 rfl (lv_at hl 0 rfl) ?_
        refine lv_iload_n hx hb dX9_rebuild_67 rfl (lv_at hl 1 rfl) ?_
        refine lv_iload_n hx hb dX9_rebuild_68 rfl (lv_at hl 3 rfl) ?_
        refine k_ci (wr := [(m18, ai g 7 (upd h1 (c1 t nd) (nI (ams (fun s => gc_2 (9 * (c1 t nd) + s) + cmo (nI s) (nI (OS t a nd))) 9)))), (m19, ai g 4 fs), (k0, .inr (9, [.ref m0, .int s1, .int s2, .int s3, .int s4, .int s5, .int s6, .ref m7, .ref m8, .ref m9, .int s10, .int s11, .int s12, .ref m13, .ref m14, .ref m15, .int s16, .ref m17, .ref m18, .ref m19, .ref m20, .ref m21, .ref m22, .ref m23, .ref m24, .ref m25, .ref m26, .ref m27, .ref m28, .int s29, .ref m30, .int s31, .int s32, .int s33, .int s34, .int s35, .ref m36, .ref m37, .ref m38, .ref m39, .long s40])), (m17, ai g 63 gc_2)]) hP hD hS hA [] [0, 1, 2, 3] rfl rfl (by decide) (by decide) (va_runS (As := [.int (nI t), .int (nI nd)]) (rest := [.ref k0, .int (nI (c2 t nd)), .ref m18]) ⟨hx, hb, hml, hown, hts⟩ (c_X9_belowSecond_f l g t nd (by first | assumption | omega) (by first | assumption | omega) (by first | assumption | omega) (by first | assumption | omega) H.size) (va_cwS 2 hts gX9_rebuild_X9_belowSecond rfl rfl rfl (by decide +kernel) ⟨Nat.le_of_ble_eq_true rfl, Nat.le_of_ble_eq_true rfl⟩) (k_preS hE hZ hP hD hS hA [] rfl (by decide)) rfl rfl hl.1 rfl (lv_room (Nat.le_of_ble_eq_true rfl)) dX9_rebuild_69 ⟨Nat.le_of_ble_eq_true rfl, Nat.le_of_ble_eq_true rfl⟩) (fun r_21 w1 H locs hw hP hD hS => ?_)
        obtain ⟨rfl, rfl⟩ := hw
        have hP : va_P g.1 vwCl [(m18, ai g 7 (upd h1 (c1 t nd) (nI (ams (fun s => gc_2 (9 * (c1 t nd) + s) + cmo (nI s) (nI (OS t a nd))) 9)))), (m19, ai g 4 fs), (k0, .inr (9, [.ref m0, .int s1, .int s2, .int s3, .int s4, .int s5, .int s6, .ref m7, .ref m8, .ref m9, .int s10, .int s11, .int s12, .ref m13, .ref m14, .ref m15, .int s16, .ref m17, .ref m18, .ref m19, .ref m20, .ref m21, .ref m22, .ref m23, .ref m24, .ref m25, .ref m26, .ref m27, .ref m28, .int s29, .ref m30, .int s31, .int s32, .int s33, .int s34, .int s35, .ref m36, .ref m37, .ref m38, .ref m39, .long s40])), (m17, ai g 63 gc_2)] H := hP
        have hD : va_D A [(m18, ai g 7 (upd h1 (c1 t nd) (nI (ams (fun s => gc_2 (9 * (c1 t nd) + s) + cmo (nI s) (nI (OS t a nd))) 9)))), (m19, ai g 4 fs), (k0, .inr (9, [.ref m0, .int s1, .int s2, .int s3, .int s4, .int s5, .int s6, .ref m7, .ref m8, .ref m9, .int s10, .int s11, .int s12, .ref m13, .ref m14, .ref m15, .int s16, .ref m17, .ref m18, .ref m19, .ref m20, .ref m21, .ref m22, .ref m23, .ref m24, .ref m25, .ref m26, .ref m27, .ref m28, .int s29, .ref m30, .int s31, .int s32, .int s33, .int s34, .int s35, .ref m36, .ref m37, .ref m38, .ref m39, .long s40])), (m17, ai g 63 gc_2)] := hD
        refine lv_aload_n hx hb dX9_rebuild_72 rfl (lv_at hl 0 rfl) ?_
        refine va_get (D := g.1) (ci := 9) (v := .ref m18) (C := RX9) (T := TX9) (N := 41) hx hb hts q_X9_rebuild_f_f9 hown hE.1 hP 2 rfl rfl 18 (by decide) (hts (.fieldLink RX9 34 "SoundLawsModel" "had" "[I") q_X9_rebuild_f_1) (fun _ h9 => h9) rfl dX9_rebuild_73 ?_
        refine lv_iload_n hx hb dX9_rebuild_76 rfl (lv_at hl 3 rfl) ?_
        refine k_ald nd rfl (by omega) hx hb hE hP 0 rfl (by decide) dX9_rebuild_77 ?_
        refine lv_topi (fun x_23 ex_23 => ?_)
        obtain rfl : x_23 = nI (OS t a nd) := by rw [ex_23]; exact RH_at2 ht ht4 hnt (by omega) hh1
        refine k_ci (wr := [(m18, ai g 7 (upd h1 (c1 t nd) (nI (ams (fun s => gc_2 (9 * (c1 t nd) + s) + cmo (nI s) (nI (OS t a nd))) 9)))), (m19, ai g 4 fs)]) hP hD hS hA [2, 3] [0, 1] rfl rfl (by decide) (by decide) (va_runV (As := [.int (nI (c2 t nd)), .int (nI (OS t a nd))]) (rest := [.int (nI (c2 t nd)), .ref m18]) ⟨hx, hb, hml, hown, hts⟩ (c_X9_leastSound_f l g k0 m0 s1 s2 s3 s4 s5 s6 m7 m8 m9 s10 s11 s12 m13 m14 m15 s16 m17 m18 m19 m20 m21 m22 m23 m24 m25 m26 m27 m28 s29 m30 s31 s32 s33 s34 s35 m36 m37 m38 m39 s40 gc_2 (c2 t nd) (OS t a nd) (by first | assumption | omega) (by first | assumption | omega) H.size) (cwV 2 hts gX9_rebuild_X9_leastSound rfl rfl rfl (by decide +kernel) ⟨Nat.le_of_ble_eq_true rfl, Nat.le_of_ble_eq_true rfl⟩) (k_preV hE hZ hP hD hS hA [2, 3] rfl (by decide) (va_recv hE.1 hP (ci := 9) (q0 := 2) rfl rfl)) rfl rfl hl.1 rfl (lv_room (Nat.le_of_ble_eq_true rfl)) dX9_rebuild_78 ⟨Nat.le_of_ble_eq_true rfl, Nat.le_of_ble_eq_true rfl⟩) (fun r_24 w1 H locs hw hP hD hS => ?_)
        obtain ⟨rfl, rfl⟩ := hw
        have hP : va_P g.1 vwCl [(m18, ai g 7 (upd h1 (c1 t nd) (nI (ams (fun s => gc_2 (9 * (c1 t nd) + s) + cmo (nI s) (nI (OS t a nd))) 9)))), (m19, ai g 4 fs), (k0, .inr (9, [.ref m0, .int s1, .int s2, .int s3, .int s4, .int s5, .int s6, .ref m7, .ref m8, .ref m9, .int s10, .int s11, .int s12, .ref m13, .ref m14, .ref m15, .int s16, .ref m17, .ref m18, .ref m19, .ref m20, .ref m21, .ref m22, .ref m23, .ref m24, .ref m25, .ref m26, .ref m27, .ref m28, .int s29, .ref m30, .int s31, .int s32, .int s33, .int s34, .int s35, .ref m36, .ref m37, .ref m38, .ref m39, .long s40])), (m17, ai g 63 gc_2)] H := hP
        have hD : va_D A [(m18, ai g 7 (upd h1 (c1 t nd) (nI (ams (fun s => gc_2 (9 * (c1 t nd) + s) + cmo (nI s) (nI (OS t a nd))) 9)))), (m19, ai g 4 fs), (k0, .inr (9, [.ref m0, .int s1, .int s2, .int s3, .int s4, .int s5, .int s6, .ref m7, .ref m8, .ref m9, .int s10, .int s11, .int s12, .ref m13, .ref m14, .ref m15, .int s16, .ref m17, .ref m18, .ref m19, .ref m20, .ref m21, .ref m22, .ref m23, .ref m24, .ref m25, .ref m26, .ref m27, .ref m28, .int s29, .ref m30, .int s31, .int s32, .int s33, .int s34, .int s35, .ref m36, .ref m37, .ref m38, .ref m39, .long s40])), (m17, ai g 63 gc_2)] := hD
        refine k_ast (x := (nI (ams (fun s => gc_2 (9 * (c2 t nd) + s) + cmo (nI s) (nI (OS t a nd))) 9))) (c2 t nd) rfl (by omega) hx hb hE hP hD hS 0 rfl (by decide) dX9_rebuild_81 (fun H locs hP hD hS => ?_)
        have hP : va_P g.1 vwCl [(m18, ai g 7 (upd (upd h1 (c1 t nd) (nI (ams (fun s => gc_2 (9 * (c1 t nd) + s) + cmo (nI s) (nI (OS t a nd))) 9))) (c2 t nd) (nI (ams (fun s => gc_2 (9 * (c2 t nd) + s) + cmo (nI s) (nI (OS t a nd))) 9)))), (m19, ai g 4 fs), (k0, .inr (9, [.ref m0, .int s1, .int s2, .int s3, .int s4, .int s5, .int s6, .ref m7, .ref m8, .ref m9, .int s10, .int s11, .int s12, .ref m13, .ref m14, .ref m15, .int s16, .ref m17, .ref m18, .ref m19, .ref m20, .ref m21, .ref m22, .ref m23, .ref m24, .ref m25, .ref m26, .ref m27, .ref m28, .int s29, .ref m30, .int s31, .int s32, .int s33, .int s34, .int s35, .ref m36, .ref m37, .ref m38, .ref m39, .long s40])), (m17, ai g 63 gc_2)] H := hP
        have hD : va_D A [(m18, ai g 7 (upd (upd h1 (c1 t nd) (nI (ams (fun s => gc_2 (9 * (c1 t nd) + s) + cmo (nI s) (nI (OS t a nd))) 9))) (c2 t nd) (nI (ams (fun s => gc_2 (9 * (c2 t nd) + s) + cmo (nI s) (nI (OS t a nd))) 9)))), (m19, ai g 4 fs), (k0, .inr (9, [.ref m0, .int s1, .int s2, .int s3, .int s4, .int s5, .int s6, .ref m7, .ref m8, .ref m9, .int s10, .int s11, .int s12, .ref m13, .ref m14, .ref m15, .int s16, .ref m17, .ref m18, .ref m19, .ref m20, .ref m21, .ref m22, .ref m23, .ref m24, .ref m25, .ref m26, .ref m27, .ref m28, .int s29, .ref m30, .int s31, .int s32, .int s33, .int s34, .int s35, .ref m36, .ref m37, .ref m38, .ref m39, .long s40])), (m17, ai g 63 gc_2)] := hD
        refine lv_iinc (v := (nI (nd - 1))) (lv' := [(3, .int (nI (nd - 1))), (0, .ref k0), (1, .int (nI t)), (2, .int (nI (2 * t - 2)))]) hx hb dX9_rebuild_82 hl (k := 3) rfl (nI_m1 (by omega)) (by decide) rfl (fun ls hl => ?_)
        refine lv_goto (tgt := 27) hx hb dX9_rebuild_85 (by decide) ?_
        exact ih27 (nd - 1) _ (by omega) (by omega) (RH_s ht ht4 hnt (by omega) hh1 ((ams_MC ht ht4 ha9 (by omega) hos (fun s hs => hgc_3 _ (by omega) s hs)).trans (OS_ch ht ht4 hnt (by omega) (Or.inl rfl))) ((ams_MC ht ht4 ha9 (by omega) hos (fun s hs => hgc_3 _ (by omega) s hs)).trans (OS_ch ht ht4 hnt (by omega) (Or.inr rfl)))) (by omega) _ _ _ hP hD hS (lv_sub hl [1, 2, 3, 0] rfl)
  exact loop27 _ (2 * t - 2) _ (by omega) (Nat.le_refl _) (RH_0 ht ht4) (Nat.lt_succ_self _) _ _ _ hP hD hS (lv_sub hl [2, 3, 1, 0] rfl)
def po_X9_laySets_f (g : GG) (k0 : Nat) (m0 : Nat) (s1 : Int32) (s2 : Int32) (s3 : Int32) (s4 : Int32) (s5 : Int32) (s6 : Int32) (m7 : Nat) (m8 : Nat) (m9 : Nat) (s12 : Int32) (m13 : Nat) (m14 : Nat) (m15 : Nat) (s16 : Int32) (m17 : Nat) (m18 : Nat) (m19 : Nat) (m20 : Nat) (m21 : Nat) (m22 : Nat) (m23 : Nat) (m24 : Nat) (m25 : Nat) (m26 : Nat) (m27 : Nat) (m28 : Nat) (s29 : Int32) (m30 : Nat) (s31 : Int32) (s32 : Int32) (s33 : Int32) (s34 : Int32) (s35 : Int32) (m36 : Nat) (m37 : Nat) (m38 : Nat) (m39 : Nat) (s40 : Int64) (z : Nat) (t : Nat) (K : Nat → Int32) (L : Nat → Int32) (V : Nat → Int32) (fc : Nat → Int32) (fh : Nat → Int32) (fs : Nat → Int32) (Rb : Nat → Int32) (Cg : Nat → Int32) (ka : Nat → Nat) (nl : Nat → Nat) (Ac : Nat → Nat → Nat → Nat) : va_W → Prop := fun w => ∃ (fc4 : Nat → Int32) (fh4 : Nat → Int32) (fs4 : Nat → Int32) (Rb4 : Nat → Int32) (Cg4 : Nat → Int32), w = [(k0, .inr (9, [.ref m0, .int s1, .int s2, .int s3, .int s4, .int s5, .int s6, .ref m7, .ref m8, .ref m9, .int (nI z), .int (nI t), .int s12, .ref m13, .ref m14, .ref m15, .int s16, .ref m17, .ref m18, .ref m19, .ref m20, .ref m21, .ref m22, .ref m23, .ref m24, .ref m25, .ref m26, .ref m27, .ref m28, .int s29, .ref m30, .int s31, .int s32, .int s33, .int s34, .int s35, .ref m36, .ref m37, .ref m38, .ref m39, .long s40])), (m13, ai g 6 K), (m14, ai g 6 L), (m15, ai g 96 V), (m17, ai g 63 fc4), (m18, ai g 7 fh4), (m19, ai g 4 fs4), (m20, ai g 168 Rb4), (m21, ai g 6 Cg4)] ∧ (SMr z t ka nl Ac Rb4) ∧ (∀ k, k < z → Cg4 k = chK t ka nl Ac k)
theorem q_X9_laySets_f_f9 : ∀ w ∈ u_ws RX9 TX9 41, w ∈ wsX9_laySets := by decide +kernel
theorem q_X9_laySets_f_1 : (Cond.fieldLink RX9 147 "SoundLawsModel" "sets" "I") ∈ wsX9_laySets := by decide +kernel
theorem q_X9_laySets_f_2 : (Cond.fieldLink RX9 43 "SoundLawsModel" "changes" "[I") ∈ wsX9_laySets := by decide +kernel
theorem q_X9_laySets_f_3 : (Cond.fieldLink RX9 25 "SoundLawsModel" "longs" "[I") ∈ wsX9_laySets := by decide +kernel
theorem q_X9_laySets_f_4 : (Cond.fieldLink RX9 150 "SoundLawsModel" "tongues" "I") ∈ wsX9_laySets := by decide +kernel
theorem q_X9_laySets_f_5 : (Cond.fieldLink RX9 40 "SoundLawsModel" "rebuilt" "[I") ∈ wsX9_laySets := by decide +kernel
theorem q_X9_laySets_f_6 : (Cond.fieldLink RX9 37 "SoundLawsModel" "said" "[I") ∈ wsX9_laySets := by decide +kernel
theorem q_X9_laySets_f_7 : (Cond.fieldLink RX9 28 "SoundLawsModel" "words" "[I") ∈ wsX9_laySets := by decide +kernel
theorem q_X9_laySets_f_8 : (Cond.fieldLink RX9 34 "SoundLawsModel" "had" "[I") ∈ wsX9_laySets := by decide +kernel
set_option maxHeartbeats 1500000 in
set_option maxRecDepth 100000 in
theorem c_X9_laySets_f (l : Launch) (g : GG) (k0 : Nat) (m0 : Nat) (s1 : Int32) (s2 : Int32) (s3 : Int32) (s4 : Int32) (s5 : Int32) (s6 : Int32) (m7 : Nat) (m8 : Nat) (m9 : Nat) (s12 : Int32) (m13 : Nat) (m14 : Nat) (m15 : Nat) (s16 : Int32) (m17 : Nat) (m18 : Nat) (m19 : Nat) (m20 : Nat) (m21 : Nat) (m22 : Nat) (m23 : Nat) (m24 : Nat) (m25 : Nat) (m26 : Nat) (m27 : Nat) (m28 : Nat) (s29 : Int32) (m30 : Nat) (s31 : Int32) (s32 : Int32) (s33 : Int32) (s34 : Int32) (s35 : Int32) (m36 : Nat) (m37 : Nat) (m38 : Nat) (m39 : Nat) (s40 : Int64) (z : Nat) (t : Nat) (K : Nat → Int32) (L : Nat → Int32) (V : Nat → Int32) (fc : Nat → Int32) (fh : Nat → Int32) (fs : Nat → Int32) (Rb : Nat → Int32) (Cg : Nat → Int32) (ka : Nat → Nat) (nl : Nat → Nat) (Ac : Nat → Nat → Nat → Nat) (hz : z ≤ 6) (hzt : 0 < z → 2 ≤ t) (ht4 : t ≤ 4) (hp : PIC z t K L V ka nl Ac) (sz : Nat) : MetV l yX9_laySets wsX9_laySets ({ frames := 6, cells := 0, slots := 0, locals := 137 }) g [.ref k0] [(k0, .inr (9, [.ref m0, .int s1, .int s2, .int s3, .int s4, .int s5, .int s6, .ref m7, .ref m8, .ref m9, .int (nI z), .int (nI t), .int s12, .ref m13, .ref m14, .ref m15, .int s16, .ref m17, .ref m18, .ref m19, .ref m20, .ref m21, .ref m22, .ref m23, .ref m24, .ref m25, .ref m26, .ref m27, .ref m28, .int s29, .ref m30, .int s31, .int s32, .int s33, .int s34, .int s35, .ref m36, .ref m37, .ref m38, .ref m39, .long s40])), (m13, ai g 6 K), (m14, ai g 6 L), (m15, ai g 96 V), (m17, ai g 63 fc), (m18, ai g 7 fh), (m19, ai g 4 fs), (m20, ai g 168 Rb), (m21, ai g 6 Cg)] sz (po_X9_laySets_f g k0 m0 s1 s2 s3 s4 s5 s6 m7 m8 m9 s12 m13 m14 m15 s16 m17 m18 m19 m20 m21 m22 m23 m24 m25 m26 m27 m28 s29 m30 s31 s32 s33 s34 s35 m36 m37 m38 m39 s40 z t K L V fc fh fs Rb Cg ka nl Ac) 0 0 := by
  refine k_of (l := l) (y := yX9_laySets) (ws := wsX9_laySets) (rm := { frames := 6, cells := 0, slots := 0, locals := 137 }) (mc := 0) (ms := 0) (av := [.ref k0]) (g := g) (wc := [(k0, .inr (9, [.ref m0, .int s1, .int s2, .int s3, .int s4, .int s5, .int s6, .ref m7, .ref m8, .ref m9, .int (nI z), .int (nI t), .int s12, .ref m13, .ref m14, .ref m15, .int s16, .ref m17, .ref m18, .ref m19, .ref m20, .ref m21, .ref m22, .ref m23, .ref m24, .ref m25, .ref m26, .ref m27, .ref m28, .int s29, .ref m30, .int s31, .int s32, .int s33, .int s34, .int s35, .ref m36, .ref m37, .ref m38, .ref m39, .long s40])), (m13, ai g 6 K), (m14, ai g 6 L), (m15, ai g 96 V), (m17, ai g 63 fc), (m18, ai g 7 fh), (m19, ai g 4 fs), (m20, ai g 168 Rb), (m21, ai g 6 Cg)]) (Qc := fun A => va_Qv (po_X9_laySets_f g k0 m0 s1 s2 s3 s4 s5 s6 m7 m8 m9 s12 m13 m14 m15 s16 m17 m18 m19 m20 m21 m22 m23 m24 m25 m26 m27 m28 s29 m30 s31 s32 s33 s34 s35 m36 m37 m38 m39 s40 z t K L V fc fh fs Rb Cg ka nl Ac) (bk g A) A) (cc := cX9_laySets) (maxL := 4) (ret := none) (by decide) rfl (Nat.le_of_ble_eq_true rfl) ?_ sz
  intro p e s m below meth c hx hb hr hts hown hlocks hnm hml A hA hE hZ hP hD hS ls hl
  have hown : s.vm.findClass RX9 = some m.cls := hown
  have hl : lv_has ls 4 [(0, .ref k0)] := hl
  refine lv_iconst (v := 0) hx hb dX9_laySets_0 (by decide) ?_
  refine lv_istore_n (lv' := [(1, .int 0), (0, .ref k0)]) hx hb dX9_laySets_1 rfl hl (by decide) rfl (fun ls hl => ?_)
  have loop2 : ∀ (fu : Nat) (a : Nat) (fc1 fh1 fs1 Rb1 Cg1 : Nat → Int32), (ha : a ≤ z) → (hR1 : SMr a t ka nl Ac Rb1) → (hC1 : ∀ k, k < a → Cg1 k = chK t ka nl Ac k) → z - a < fu → ∀ (H : Heap) (locs : List Loc) (ls : Array Slot), va_P g.1 vwCl [(k0, .inr (9, [.ref m0, .int s1, .int s2, .int s3, .int s4, .int s5, .int s6, .ref m7, .ref m8, .ref m9, .int (nI z), .int (nI t), .int s12, .ref m13, .ref m14, .ref m15, .int s16, .ref m17, .ref m18, .ref m19, .ref m20, .ref m21, .ref m22, .ref m23, .ref m24, .ref m25, .ref m26, .ref m27, .ref m28, .int s29, .ref m30, .int s31, .int s32, .int s33, .int s34, .int s35, .ref m36, .ref m37, .ref m38, .ref m39, .long s40])), (m13, ai g 6 K), (m14, ai g 6 L), (m15, ai g 96 V), (m17, ai g 63 fc1), (m18, ai g 7 fh1), (m19, ai g 4 fs1), (m20, ai g 168 Rb1), (m21, ai g 6 Cg1)] H → va_D A [(k0, .inr (9, [.ref m0, .int s1, .int s2, .int s3, .int s4, .int s5, .int s6, .ref m7, .ref m8, .ref m9, .int (nI z), .int (nI t), .int s12, .ref m13, .ref m14, .ref m15, .int s16, .ref m17, .ref m18, .ref m19, .ref m20, .ref m21, .ref m22, .ref m23, .ref m24, .ref m25, .ref m26, .ref m27, .ref m28, .int s29, .ref m30, .int s31, .int s32, .int s33, .int s34, .int s35, .ref m36, .ref m37, .ref m38, .ref m39, .long s40])), (m13, ai g 6 K), (m14, ai g 6 L), (m15, ai g 96 V), (m17, ai g 63 fc1), (m18, ai g 7 fh1), (m19, ai g 4 fs1), (m20, ai g 168 Rb1), (m21, ai g 6 Cg1)] → va_S A s.heap H locs → lv_has ls 4 [(0, .ref k0), (1, .int (nI a))] → W p l e ({ frames := 6, cells := 0, slots := 0, locals := 137 }) s m [.ref k0].toArray below meth c H locs 0 0 (MQ below (va_Qv (po_X9_laySets_f g k0 m0 s1 s2 s3 s4 s5 s6 m7 m8 m9 s12 m13 m14 m15 s16 m17 m18 m19 m20 m21 m22 m23 m24 m25 m26 m27 m28 s29 m30 s31 s32 s33 s34 s35 m36 m37 m38 m39 s40 z t K L V fc fh fs Rb Cg ka nl Ac) (bk g A) A) [.ref k0].toArray s 0 0 A) (F0 m 2 ls []) := by
    intro fu
    induction fu with
    | zero => intro a fc1 fh1 fs1 Rb1 Cg1 ha hR1 hC1 hfu; exact absurd hfu (Nat.not_lt_zero _)
    | succ fu ih =>
      intro a fc1 fh1 fs1 Rb1 Cg1 ha hR1 hC1 hfu H locs ls hP hD hS hl
      have ih2 := ih
      refine lv_iload_n hx hb dX9_laySets_2 rfl (lv_at hl 1 rfl) ?_
      refine lv_aload_n hx hb dX9_laySets_3 rfl (lv_at hl 0 rfl) ?_
      refine va_get (D := g.1) (ci := 9) (v := .int (nI z)) (C := RX9) (T := TX9) (N := 41) hx hb hts q_X9_laySets_f_f9 hown hE.1 hP 0 rfl rfl 10 (by decide) (hts (.fieldLink RX9 147 "SoundLawsModel" "sets" "I") q_X9_laySets_f_1) (fun _ h9 => h9) rfl dX9_laySets_4 ?_
      refine lv_icmp_ge (tgt := 180) hx hb dX9_laySets_7 (by decide) (fun c7_1 => ?_) (fun c7_1 => ?_)
      · skip
        have ha9 := ge_of_le (k := z) (n := a) (by omega) (by omega) c7_1
        refine W.widen (k := 0) (n := 0) (Nat.le_of_ble_eq_true rfl) (Nat.le_of_ble_eq_true rfl) ?_
        exact k_rv hx hb hr hlocks hS hP hD ⟨fc1, fh1, fs1, Rb1, Cg1, rfl, (by rw [show z = a by omega]; exact hR1), (fun k hk => hC1 k (by omega))⟩ dX9_laySets_180
      · skip
        have ha9 := lt_of_nle (k := z) (n := a) (by omega) (by omega) c7_1
        have ht := hzt (by omega)
        obtain ⟨⟨eK, hK5⟩, ⟨eL, hn5⟩, hAk⟩ := hp a ha9
        refine lv_aload_n hx hb dX9_laySets_10 rfl (lv_at hl 0 rfl) ?_
        refine va_get (D := g.1) (ci := 9) (v := .ref m21) (C := RX9) (T := TX9) (N := 41) hx hb hts q_X9_laySets_f_f9 hown hE.1 hP 0 rfl rfl 21 (by decide) (hts (.fieldLink RX9 43 "SoundLawsModel" "changes" "[I") q_X9_laySets_f_2) (fun _ h9 => h9) rfl dX9_laySets_11 ?_
        refine lv_iload_n hx hb dX9_laySets_14 rfl (lv_at hl 1 rfl) ?_
        refine lv_aload_n hx hb dX9_laySets_15 rfl (lv_at hl 0 rfl) ?_
        refine lv_iload_n hx hb dX9_laySets_16 rfl (lv_at hl 1 rfl) ?_
        refine k_ci (wr := [(m14, ai g 6 L), (m15, ai g 96 V), (m17, ai g 63 fc1), (m18, ai g 7 fh1), (m19, ai g 4 fs1), (m20, ai g 168 Rb1), (m21, ai g 6 Cg1)]) hP hD hS hA [0, 1] [2, 3, 4, 5, 6, 7, 8] rfl rfl (by decide) (by decide) (va_runV (As := [.int (nI a)]) (rest := [.int (nI a), .ref m21]) ⟨hx, hb, hml, hown, hts⟩ (c_X9_isRebuilt_b l g k0 m0 s1 s2 s3 s4 s5 s6 m7 m8 m9 (nI z) (nI t) s12 m13 m14 m15 s16 m17 m18 m19 m20 m21 m22 m23 m24 m25 m26 m27 m28 s29 m30 s31 s32 s33 s34 s35 m36 m37 m38 m39 s40 K a (by first | assumption | omega) H.size) (cwV 1 hts gX9_laySets_X9_isRebuilt rfl rfl rfl (by decide +kernel) ⟨Nat.le_of_ble_eq_true rfl, Nat.le_of_ble_eq_true rfl⟩) (k_preV hE hZ hP hD hS hA [0, 1] rfl (by decide) (va_recv hE.1 hP (ci := 9) (q0 := 0) rfl rfl)) rfl rfl hl.1 rfl (lv_room (Nat.le_of_ble_eq_true rfl)) dX9_laySets_17 ⟨Nat.le_of_ble_eq_true rfl, Nat.le_of_ble_eq_true rfl⟩) (fun r_2 w1 H locs hw hP hD hS => ?_)
        obtain ⟨rfl, rfl⟩ := hw
        have hP : va_P g.1 vwCl [(m14, ai g 6 L), (m15, ai g 96 V), (m17, ai g 63 fc1), (m18, ai g 7 fh1), (m19, ai g 4 fs1), (m20, ai g 168 Rb1), (m21, ai g 6 Cg1), (k0, .inr (9, [.ref m0, .int s1, .int s2, .int s3, .int s4, .int s5, .int s6, .ref m7, .ref m8, .ref m9, .int (nI z), .int (nI t), .int s12, .ref m13, .ref m14, .ref m15, .int s16, .ref m17, .ref m18, .ref m19, .ref m20, .ref m21, .ref m22, .ref m23, .ref m24, .ref m25, .ref m26, .ref m27, .ref m28, .int s29, .ref m30, .int s31, .int s32, .int s33, .int s34, .int s35, .ref m36, .ref m37, .ref m38, .ref m39, .long s40])), (m13, ai g 6 K)] H := hP
        have hD : va_D A [(m14, ai g 6 L), (m15, ai g 96 V), (m17, ai g 63 fc1), (m18, ai g 7 fh1), (m19, ai g 4 fs1), (m20, ai g 168 Rb1), (m21, ai g 6 Cg1), (k0, .inr (9, [.ref m0, .int s1, .int s2, .int s3, .int s4, .int s5, .int s6, .ref m7, .ref m8, .ref m9, .int (nI z), .int (nI t), .int s12, .ref m13, .ref m14, .ref m15, .int s16, .ref m17, .ref m18, .ref m19, .ref m20, .ref m21, .ref m22, .ref m23, .ref m24, .ref m25, .ref m26, .ref m27, .ref m28, .int s29, .ref m30, .int s31, .int s32, .int s33, .int s34, .int s35, .ref m36, .ref m37, .ref m38, .ref m39, .long s40])), (m13, ai g 6 K)] := hD
        refine lv_if_eq (tgt := 27) hx hb dX9_laySets_20 (by decide) (fun c20_4 => ?_) (fun c20_4 => ?_)
        · skip
          have hr0 := rb_i eK hK5 c20_4
          refine lv_iconst (v := (-1)) hx hb dX9_laySets_27 (by decide) ?_
          refine k_ast (x := (-1)) a rfl (by omega) hx hb hE hP hD hS 6 rfl (by decide) dX9_laySets_28 (fun H locs hP hD hS => ?_)
          have hP : va_P g.1 vwCl [(m14, ai g 6 L), (m15, ai g 96 V), (m17, ai g 63 fc1), (m18, ai g 7 fh1), (m19, ai g 4 fs1), (m20, ai g 168 Rb1), (m21, ai g 6 (upd Cg1 a (-1))), (k0, .inr (9, [.ref m0, .int s1, .int s2, .int s3, .int s4, .int s5, .int s6, .ref m7, .ref m8, .ref m9, .int (nI z), .int (nI t), .int s12, .ref m13, .ref m14, .ref m15, .int s16, .ref m17, .ref m18, .ref m19, .ref m20, .ref m21, .ref m22, .ref m23, .ref m24, .ref m25, .ref m26, .ref m27, .ref m28, .int s29, .ref m30, .int s31, .int s32, .int s33, .int s34, .int s35, .ref m36, .ref m37, .ref m38, .ref m39, .long s40])), (m13, ai g 6 K)] H := hP
          have hD : va_D A [(m14, ai g 6 L), (m15, ai g 96 V), (m17, ai g 63 fc1), (m18, ai g 7 fh1), (m19, ai g 4 fs1), (m20, ai g 168 Rb1), (m21, ai g 6 (upd Cg1 a (-1))), (k0, .inr (9, [.ref m0, .int s1, .int s2, .int s3, .int s4, .int s5, .int s6, .ref m7, .ref m8, .ref m9, .int (nI z), .int (nI t), .int s12, .ref m13, .ref m14, .ref m15, .int s16, .ref m17, .ref m18, .ref m19, .ref m20, .ref m21, .ref m22, .ref m23, .ref m24, .ref m25, .ref m26, .ref m27, .ref m28, .int s29, .ref m30, .int s31, .int s32, .int s33, .int s34, .int s35, .ref m36, .ref m37, .ref m38, .ref m39, .long s40])), (m13, ai g 6 K)] := hD
          refine lv_iconst (v := 0) hx hb dX9_laySets_29 (by decide) ?_
          refine lv_istore_n (lv' := [(2, .int 0), (0, .ref k0), (1, .int (nI a))]) hx hb dX9_laySets_30 rfl hl (by decide) rfl (fun ls hl => ?_)
          have loop31 : ∀ (fu : Nat) (q : Nat) (fc2 fh2 fs2 Rb2 Cg2 : Nat → Int32), (hq : q ≤ nl a) → (hR2 : SMr a t ka nl Ac Rb2) → (hQ2 : SRq t ka Ac a q Rb2) → (hC2 : ∀ k, k < a → Cg2 k = chK t ka nl Ac k) → (hC3 : Cg2 a = chR t ka Ac a q) → nl a - q < fu → ∀ (H : Heap) (locs : List Loc) (ls : Array Slot), va_P g.1 vwCl [(m14, ai g 6 L), (m15, ai g 96 V), (m17, ai g 63 fc2), (m18, ai g 7 fh2), (m19, ai g 4 fs2), (m20, ai g 168 Rb2), (m21, ai g 6 Cg2), (k0, .inr (9, [.ref m0, .int s1, .int s2, .int s3, .int s4, .int s5, .int s6, .ref m7, .ref m8, .ref m9, .int (nI z), .int (nI t), .int s12, .ref m13, .ref m14, .ref m15, .int s16, .ref m17, .ref m18, .ref m19, .ref m20, .ref m21, .ref m22, .ref m23, .ref m24, .ref m25, .ref m26, .ref m27, .ref m28, .int s29, .ref m30, .int s31, .int s32, .int s33, .int s34, .int s35, .ref m36, .ref m37, .ref m38, .ref m39, .long s40])), (m13, ai g 6 K)] H → va_D A [(m14, ai g 6 L), (m15, ai g 96 V), (m17, ai g 63 fc2), (m18, ai g 7 fh2), (m19, ai g 4 fs2), (m20, ai g 168 Rb2), (m21, ai g 6 Cg2), (k0, .inr (9, [.ref m0, .int s1, .int s2, .int s3, .int s4, .int s5, .int s6, .ref m7, .ref m8, .ref m9, .int (nI z), .int (nI t), .int s12, .ref m13, .ref m14, .ref m15, .int s16, .ref m17, .ref m18, .ref m19, .ref m20, .ref m21, .ref m22, .ref m23, .ref m24, .ref m25, .ref m26, .ref m27, .ref m28, .int s29, .ref m30, .int s31, .int s32, .int s33, .int s34, .int s35, .ref m36, .ref m37, .ref m38, .ref m39, .long s40])), (m13, ai g 6 K)] → va_S A s.heap H locs → lv_has ls 4 [(0, .ref k0), (1, .int (nI a)), (2, .int (nI q))] → W p l e ({ frames := 6, cells := 0, slots := 0, locals := 137 }) s m [.ref k0].toArray below meth c H locs 0 0 (MQ below (va_Qv (po_X9_laySets_f g k0 m0 s1 s2 s3 s4 s5 s6 m7 m8 m9 s12 m13 m14 m15 s16 m17 m18 m19 m20 m21 m22 m23 m24 m25 m26 m27 m28 s29 m30 s31 s32 s33 s34 s35 m36 m37 m38 m39 s40 z t K L V fc fh fs Rb Cg ka nl Ac) (bk g A) A) [.ref k0].toArray s 0 0 A) (F0 m 31 ls []) := by
            intro fu
            induction fu with
            | zero => intro q fc2 fh2 fs2 Rb2 Cg2 hq hR2 hQ2 hC2 hC3 hfu; exact absurd hfu (Nat.not_lt_zero _)
            | succ fu ih =>
              intro q fc2 fh2 fs2 Rb2 Cg2 hq hR2 hQ2 hC2 hC3 hfu H locs ls hP hD hS hl
              have ih31 := ih
              refine lv_iload_n hx hb dX9_laySets_31 rfl (lv_at hl 2 rfl) ?_
              refine lv_aload_n hx hb dX9_laySets_32 rfl (lv_at hl 0 rfl) ?_
              refine va_get (D := g.1) (ci := 9) (v := .ref m14) (C := RX9) (T := TX9) (N := 41) hx hb hts q_X9_laySets_f_f9 hown hE.1 hP 7 rfl rfl 14 (by decide) (hts (.fieldLink RX9 25 "SoundLawsModel" "longs" "[I") q_X9_laySets_f_3) (fun _ h9 => h9) rfl dX9_laySets_33 ?_
              refine lv_iload_n hx hb dX9_laySets_36 rfl (lv_at hl 1 rfl) ?_
              refine k_ald a rfl (by omega) hx hb hE hP 0 rfl (by decide) dX9_laySets_37 ?_
              refine lv_topi (fun x_5 ex_5 => ?_)
              obtain rfl : x_5 = nI (nl a) := by rw [ex_5]; exact eL
              refine lv_icmp_ge (tgt := 174) hx hb dX9_laySets_38 (by decide) (fun c38_6 => ?_) (fun c38_6 => ?_)
              · skip
                have hq9 := ge_of_le (k := nl a) (n := q) (by omega) (by omega) c38_6
                have hqn : q = nl a := by omega
                refine lv_iinc (v := (nI (a + 1))) (lv' := [(1, .int (nI (a + 1))), (0, .ref k0), (2, .int (nI q))]) hx hb dX9_laySets_174 hl (k := 1) rfl (nI_1 _) (by decide) rfl (fun ls hl => ?_)
                refine lv_goto (tgt := 2) hx hb dX9_laySets_177 (by decide) ?_
                exact ih2 (a + 1) _ _ _ _ _ (by omega) (SR_s hR2 (by rw [← hqn]; exact hQ2)) (chC_s hC2 (by rw [hC3, hqn]; rfl)) (by omega) _ _ _ (hP.sub [7, 8, 0, 1, 2, 3, 4, 5, 6] rfl) (hD.sub [7, 8, 0, 1, 2, 3, 4, 5, 6] (by decide) rfl) hS (lv_sub hl [1, 0] rfl)
              · skip
                have hq9 := lt_of_nle (k := nl a) (n := q) (by omega) (by omega) c38_6
                refine lv_iconst (v := 0) hx hb dX9_laySets_41 (by decide) ?_
                refine lv_istore_n (lv' := [(3, .int 0), (0, .ref k0), (1, .int (nI a)), (2, .int (nI q))]) hx hb dX9_laySets_42 rfl hl (by decide) rfl (fun ls hl => ?_)
                have loop43 : ∀ (fu : Nat) (u : Nat) (fs3 : Nat → Int32), (hu : u ≤ t) → (hf3 : ∀ v, v < u → fs3 v = nI (Ac a q v)) → t - u < fu → ∀ (H : Heap) (locs : List Loc) (ls : Array Slot), va_P g.1 vwCl [(m14, ai g 6 L), (m15, ai g 96 V), (m17, ai g 63 fc2), (m18, ai g 7 fh2), (m19, ai g 4 fs3), (m20, ai g 168 Rb2), (m21, ai g 6 Cg2), (k0, .inr (9, [.ref m0, .int s1, .int s2, .int s3, .int s4, .int s5, .int s6, .ref m7, .ref m8, .ref m9, .int (nI z), .int (nI t), .int s12, .ref m13, .ref m14, .ref m15, .int s16, .ref m17, .ref m18, .ref m19, .ref m20, .ref m21, .ref m22, .ref m23, .ref m24, .ref m25, .ref m26, .ref m27, .ref m28, .int s29, .ref m30, .int s31, .int s32, .int s33, .int s34, .int s35, .ref m36, .ref m37, .ref m38, .ref m39, .long s40])), (m13, ai g 6 K)] H → va_D A [(m14, ai g 6 L), (m15, ai g 96 V), (m17, ai g 63 fc2), (m18, ai g 7 fh2), (m19, ai g 4 fs3), (m20, ai g 168 Rb2), (m21, ai g 6 Cg2), (k0, .inr (9, [.ref m0, .int s1, .int s2, .int s3, .int s4, .int s5, .int s6, .ref m7, .ref m8, .ref m9, .int (nI z), .int (nI t), .int s12, .ref m13, .ref m14, .ref m15, .int s16, .ref m17, .ref m18, .ref m19, .ref m20, .ref m21, .ref m22, .ref m23, .ref m24, .ref m25, .ref m26, .ref m27, .ref m28, .int s29, .ref m30, .int s31, .int s32, .int s33, .int s34, .int s35, .ref m36, .ref m37, .ref m38, .ref m39, .long s40])), (m13, ai g 6 K)] → va_S A s.heap H locs → lv_has ls 4 [(0, .ref k0), (1, .int (nI a)), (2, .int (nI q)), (3, .int (nI u))] → W p l e ({ frames := 6, cells := 0, slots := 0, locals := 137 }) s m [.ref k0].toArray below meth c H locs 0 0 (MQ below (va_Qv (po_X9_laySets_f g k0 m0 s1 s2 s3 s4 s5 s6 m7 m8 m9 s12 m13 m14 m15 s16 m17 m18 m19 m20 m21 m22 m23 m24 m25 m26 m27 m28 s29 m30 s31 s32 s33 s34 s35 m36 m37 m38 m39 s40 z t K L V fc fh fs Rb Cg ka nl Ac) (bk g A) A) [.ref k0].toArray s 0 0 A) (F0 m 43 ls []) := by
                  intro fu
                  induction fu with
                  | zero => intro u fs3 hu hf3 hfu; exact absurd hfu (Nat.not_lt_zero _)
                  | succ fu ih =>
                    intro u fs3 hu hf3 hfu H locs ls hP hD hS hl
                    have ih43 := ih
                    refine lv_iload_n hx hb dX9_laySets_43 rfl (lv_at hl 3 rfl) ?_
                    refine lv_aload_n hx hb dX9_laySets_44 rfl (lv_at hl 0 rfl) ?_
                    refine va_get (D := g.1) (ci := 9) (v := .int (nI t)) (C := RX9) (T := TX9) (N := 41) hx hb hts q_X9_laySets_f_f9 hown hE.1 hP 7 rfl rfl 11 (by decide) (hts (.fieldLink RX9 150 "SoundLawsModel" "tongues" "I") q_X9_laySets_f_4) (fun _ h9 => h9) rfl dX9_laySets_45 ?_
                    refine lv_icmp_ge (tgt := 78) hx hb dX9_laySets_48 (by decide) (fun c48_7 => ?_) (fun c48_7 => ?_)
                    · skip
                      have hu9 := ge_of_le (k := t) (n := u) (by omega) (by omega) c48_7
                      refine lv_aload_n hx hb dX9_laySets_78 rfl (lv_at hl 0 rfl) ?_
                      refine lv_iload_n hx hb dX9_laySets_79 rfl (lv_at hl 1 rfl) ?_
                      refine k_ci (wr := [(m14, ai g 6 L), (m15, ai g 96 V), (m17, ai g 63 fc2), (m18, ai g 7 fh2), (m19, ai g 4 fs3), (m20, ai g 168 Rb2), (m21, ai g 6 Cg2)]) hP hD hS hA [7, 8] [0, 1, 2, 3, 4, 5, 6] rfl rfl (by decide) (by decide) (va_runV (As := [.int (nI a)]) (rest := []) ⟨hx, hb, hml, hown, hts⟩ (c_X9_isRebuilt_b l g k0 m0 s1 s2 s3 s4 s5 s6 m7 m8 m9 (nI z) (nI t) s12 m13 m14 m15 s16 m17 m18 m19 m20 m21 m22 m23 m24 m25 m26 m27 m28 s29 m30 s31 s32 s33 s34 s35 m36 m37 m38 m39 s40 K a (by first | assumption | omega) H.size) (cwV 1 hts gX9_laySets_X9_isRebuilt rfl rfl rfl (by decide +kernel) ⟨Nat.le_of_ble_eq_true rfl, Nat.le_of_ble_eq_true rfl⟩) (k_preV hE hZ hP hD hS hA [7, 8] rfl (by decide) (va_recv hE.1 hP (ci := 9) (q0 := 7) rfl rfl)) rfl rfl hl.1 rfl (lv_room (Nat.le_of_ble_eq_true rfl)) dX9_laySets_80 ⟨Nat.le_of_ble_eq_true rfl, Nat.le_of_ble_eq_true rfl⟩) (fun r_8 w1 H locs hw hP hD hS => ?_)
                      obtain ⟨rfl, rfl⟩ := hw
                      have hP : va_P g.1 vwCl [(m14, ai g 6 L), (m15, ai g 96 V), (m17, ai g 63 fc2), (m18, ai g 7 fh2), (m19, ai g 4 fs3), (m20, ai g 168 Rb2), (m21, ai g 6 Cg2), (k0, .inr (9, [.ref m0, .int s1, .int s2, .int s3, .int s4, .int s5, .int s6, .ref m7, .ref m8, .ref m9, .int (nI z), .int (nI t), .int s12, .ref m13, .ref m14, .ref m15, .int s16, .ref m17, .ref m18, .ref m19, .ref m20, .ref m21, .ref m22, .ref m23, .ref m24, .ref m25, .ref m26, .ref m27, .ref m28, .int s29, .ref m30, .int s31, .int s32, .int s33, .int s34, .int s35, .ref m36, .ref m37, .ref m38, .ref m39, .long s40])), (m13, ai g 6 K)] H := hP
                      have hD : va_D A [(m14, ai g 6 L), (m15, ai g 96 V), (m17, ai g 63 fc2), (m18, ai g 7 fh2), (m19, ai g 4 fs3), (m20, ai g 168 Rb2), (m21, ai g 6 Cg2), (k0, .inr (9, [.ref m0, .int s1, .int s2, .int s3, .int s4, .int s5, .int s6, .ref m7, .ref m8, .ref m9, .int (nI z), .int (nI t), .int s12, .ref m13, .ref m14, .ref m15, .int s16, .ref m17, .ref m18, .ref m19, .ref m20, .ref m21, .ref m22, .ref m23, .ref m24, .ref m25, .ref m26, .ref m27, .ref m28, .int s29, .ref m30, .int s31, .int s32, .int s33, .int s34, .int s35, .ref m36, .ref m37, .ref m38, .ref m39, .long s40])), (m13, ai g 6 K)] := hD
                      refine lv_if_eq (tgt := 103) hx hb dX9_laySets_83 (by decide) (fun c83_10 => ?_) (fun c83_10 => ?_)
                      · skip
                        refine lv_iconst (v := 0) hx hb dX9_laySets_103 (by decide) ?_
                        refine lv_istore_n (lv' := [(3, .int 0), (0, .ref k0), (1, .int (nI a)), (2, .int (nI q))]) hx hb dX9_laySets_104 rfl hl (by decide) rfl (fun ls hl => ?_)
                        have loop105 : ∀ (fu : Nat) (nd : Nat) (Rb3 : Nat → Int32), (hnd : nd ≤ 7) → (hR3 : SMr a t ka nl Ac Rb3) → (hQ3 : SRq t ka Ac a q Rb3) → (hM3 : SRm t ka Ac a q nd Rb3) → 7 - nd < fu → ∀ (H : Heap) (locs : List Loc) (ls : Array Slot), va_P g.1 vwCl [(m14, ai g 6 L), (m15, ai g 96 V), (m17, ai g 63 fc2), (m18, ai g 7 fh2), (m19, ai g 4 fs3), (m20, ai g 168 Rb3), (m21, ai g 6 Cg2), (k0, .inr (9, [.ref m0, .int s1, .int s2, .int s3, .int s4, .int s5, .int s6, .ref m7, .ref m8, .ref m9, .int (nI z), .int (nI t), .int s12, .ref m13, .ref m14, .ref m15, .int s16, .ref m17, .ref m18, .ref m19, .ref m20, .ref m21, .ref m22, .ref m23, .ref m24, .ref m25, .ref m26, .ref m27, .ref m28, .int s29, .ref m30, .int s31, .int s32, .int s33, .int s34, .int s35, .ref m36, .ref m37, .ref m38, .ref m39, .long s40])), (m13, ai g 6 K)] H → va_D A [(m14, ai g 6 L), (m15, ai g 96 V), (m17, ai g 63 fc2), (m18, ai g 7 fh2), (m19, ai g 4 fs3), (m20, ai g 168 Rb3), (m21, ai g 6 Cg2), (k0, .inr (9, [.ref m0, .int s1, .int s2, .int s3, .int s4, .int s5, .int s6, .ref m7, .ref m8, .ref m9, .int (nI z), .int (nI t), .int s12, .ref m13, .ref m14, .ref m15, .int s16, .ref m17, .ref m18, .ref m19, .ref m20, .ref m21, .ref m22, .ref m23, .ref m24, .ref m25, .ref m26, .ref m27, .ref m28, .int s29, .ref m30, .int s31, .int s32, .int s33, .int s34, .int s35, .ref m36, .ref m37, .ref m38, .ref m39, .long s40])), (m13, ai g 6 K)] → va_S A s.heap H locs → lv_has ls 4 [(0, .ref k0), (1, .int (nI a)), (2, .int (nI q)), (3, .int (nI nd))] → W p l e ({ frames := 6, cells := 0, slots := 0, locals := 137 }) s m [.ref k0].toArray below meth c H locs 0 0 (MQ below (va_Qv (po_X9_laySets_f g k0 m0 s1 s2 s3 s4 s5 s6 m7 m8 m9 s12 m13 m14 m15 s16 m17 m18 m19 m20 m21 m22 m23 m24 m25 m26 m27 m28 s29 m30 s31 s32 s33 s34 s35 m36 m37 m38 m39 s40 z t K L V fc fh fs Rb Cg ka nl Ac) (bk g A) A) [.ref k0].toArray s 0 0 A) (F0 m 105 ls []) := by
                          intro fu
                          induction fu with
                          | zero => intro nd Rb3 hnd hR3 hQ3 hM3 hfu; exact absurd hfu (Nat.not_lt_zero _)
                          | succ fu ih =>
                            intro nd Rb3 hnd hR3 hQ3 hM3 hfu H locs ls hP hD hS hl
                            have ih105 := ih
                            refine lv_iload_n hx hb dX9_laySets_105 rfl (lv_at hl 3 rfl) ?_
                            refine lv_bipush (v := 7) hx hb dX9_laySets_106 (by decide) ?_
                            refine lv_icmp_ge (tgt := 168) hx hb dX9_laySets_108 (by decide) (fun c108_11 => ?_) (fun c108_11 => ?_)
                            · skip
                              have hd9 := ge_of_le (k := 7) (n := nd) (by decide) (by omega) c108_11
                              have hM7 : SRm t ka Ac a q 7 Rb3 := by rw [show 7 = nd by omega]; exact hM3
                              refine lv_iinc (v := (nI (q + 1))) (lv' := [(2, .int (nI (q + 1))), (0, .ref k0), (1, .int (nI a)), (3, .int (nI nd))]) hx hb dX9_laySets_168 hl (k := 2) rfl (nI_1 _) (by decide) rfl (fun ls hl => ?_)
                              refine lv_goto (tgt := 31) hx hb dX9_laySets_171 (by decide) ?_
                              exact ih31 (q + 1) _ _ _ _ _ (by omega) hR3 (SQ_s ht4 hQ3 hM7) hC2 (by rw [hC3]; unfold chR; rw [if_pos hr0, if_pos hr0]) (by omega) _ _ _ hP hD hS (lv_sub hl [1, 2, 0] rfl)
                            · skip
                              have hd9 := lt_of_nle (k := 7) (n := nd) (by decide) (by omega) c108_11
                              refine lv_aload_n hx hb dX9_laySets_111 rfl (lv_at hl 0 rfl) ?_
                              refine va_get (D := g.1) (ci := 9) (v := .ref m20) (C := RX9) (T := TX9) (N := 41) hx hb hts q_X9_laySets_f_f9 hown hE.1 hP 7 rfl rfl 20 (by decide) (hts (.fieldLink RX9 40 "SoundLawsModel" "rebuilt" "[I") q_X9_laySets_f_5) (fun _ h9 => h9) rfl dX9_laySets_112 ?_
                              refine lv_bipush (v := 28) hx hb dX9_laySets_115 (by decide) ?_
                              refine lv_iload_n hx hb dX9_laySets_117 rfl (lv_at hl 1 rfl) ?_
                              refine lv_imul hx hb dX9_laySets_118 ?_
                              refine lv_bipush (v := 7) hx hb dX9_laySets_119 (by decide) ?_
                              refine lv_iload_n hx hb dX9_laySets_121 rfl (lv_at hl 2 rfl) ?_
                              refine lv_imul hx hb dX9_laySets_122 ?_
                              refine lv_iadd hx hb dX9_laySets_123 ?_
                              refine lv_iload_n hx hb dX9_laySets_124 rfl (lv_at hl 3 rfl) ?_
                              refine lv_iadd hx hb dX9_laySets_125 ?_
                              refine lv_iload_n hx hb dX9_laySets_126 rfl (lv_at hl 3 rfl) ?_
                              refine lv_aload_n hx hb dX9_laySets_127 rfl (lv_at hl 0 rfl) ?_
                              refine va_get (D := g.1) (ci := 9) (v := .int (nI t)) (C := RX9) (T := TX9) (N := 41) hx hb hts q_X9_laySets_f_f9 hown hE.1 hP 7 rfl rfl 11 (by decide) (hts (.fieldLink RX9 150 "SoundLawsModel" "tongues" "I") q_X9_laySets_f_4) (fun _ h9 => h9) rfl dX9_laySets_128 ?_
                              refine lv_icmp_ge (tgt := 143) hx hb dX9_laySets_131 (by decide) (fun c131_12 => ?_) (fun c131_12 => ?_)
                              · skip
                                have hnt := ge_of_le (k := t) (n := nd) (by omega) (by omega) c131_12
                                refine lv_aload_n hx hb dX9_laySets_143 rfl (lv_at hl 0 rfl) ?_
                                refine lv_iload_n hx hb dX9_laySets_144 rfl (lv_at hl 1 rfl) ?_
                                refine k_ci (wr := [(m14, ai g 6 L), (m15, ai g 96 V), (m17, ai g 63 fc2), (m18, ai g 7 fh2), (m19, ai g 4 fs3), (m20, ai g 168 Rb3), (m21, ai g 6 Cg2)]) hP hD hS hA [7, 8] [0, 1, 2, 3, 4, 5, 6] rfl rfl (by decide) (by decide) (va_runV (As := [.int (nI a)]) (rest := [.int (((28 * (nI a)) + (7 * (nI q))) + (nI nd)), .ref m20]) ⟨hx, hb, hml, hown, hts⟩ (c_X9_isRebuilt_b l g k0 m0 s1 s2 s3 s4 s5 s6 m7 m8 m9 (nI z) (nI t) s12 m13 m14 m15 s16 m17 m18 m19 m20 m21 m22 m23 m24 m25 m26 m27 m28 s29 m30 s31 s32 s33 s34 s35 m36 m37 m38 m39 s40 K a (by first | assumption | omega) H.size) (cwV 1 hts gX9_laySets_X9_isRebuilt rfl rfl rfl (by decide +kernel) ⟨Nat.le_of_ble_eq_true rfl, Nat.le_of_ble_eq_true rfl⟩) (k_preV hE hZ hP hD hS hA [7, 8] rfl (by decide) (va_recv hE.1 hP (ci := 9) (q0 := 7) rfl rfl)) rfl rfl hl.1 rfl (lv_room (Nat.le_of_ble_eq_true rfl)) dX9_laySets_145 ⟨Nat.le_of_ble_eq_true rfl, Nat.le_of_ble_eq_true rfl⟩) (fun r_13 w1 H locs hw hP hD hS => ?_)
                                obtain ⟨rfl, rfl⟩ := hw
                                have hP : va_P g.1 vwCl [(m14, ai g 6 L), (m15, ai g 96 V), (m17, ai g 63 fc2), (m18, ai g 7 fh2), (m19, ai g 4 fs3), (m20, ai g 168 Rb3), (m21, ai g 6 Cg2), (k0, .inr (9, [.ref m0, .int s1, .int s2, .int s3, .int s4, .int s5, .int s6, .ref m7, .ref m8, .ref m9, .int (nI z), .int (nI t), .int s12, .ref m13, .ref m14, .ref m15, .int s16, .ref m17, .ref m18, .ref m19, .ref m20, .ref m21, .ref m22, .ref m23, .ref m24, .ref m25, .ref m26, .ref m27, .ref m28, .int s29, .ref m30, .int s31, .int s32, .int s33, .int s34, .int s35, .ref m36, .ref m37, .ref m38, .ref m39, .long s40])), (m13, ai g 6 K)] H := hP
                                have hD : va_D A [(m14, ai g 6 L), (m15, ai g 96 V), (m17, ai g 63 fc2), (m18, ai g 7 fh2), (m19, ai g 4 fs3), (m20, ai g 168 Rb3), (m21, ai g 6 Cg2), (k0, .inr (9, [.ref m0, .int s1, .int s2, .int s3, .int s4, .int s5, .int s6, .ref m7, .ref m8, .ref m9, .int (nI z), .int (nI t), .int s12, .ref m13, .ref m14, .ref m15, .int s16, .ref m17, .ref m18, .ref m19, .ref m20, .ref m21, .ref m22, .ref m23, .ref m24, .ref m25, .ref m26, .ref m27, .ref m28, .int s29, .ref m30, .int s31, .int s32, .int s33, .int s34, .int s35, .ref m36, .ref m37, .ref m38, .ref m39, .long s40])), (m13, ai g 6 K)] := hD
                                refine lv_if_eq (tgt := 160) hx hb dX9_laySets_148 (by decide) (fun c148_15 => ?_) (fun c148_15 => ?_)
                                · skip
                                  refine lv_iconst (v := (-1)) hx hb dX9_laySets_160 (by decide) ?_
                                  refine lv_topi (fun xv exv => ?_)
                                  have hval : nd < 2 * t - 1 → xv = rv9 t ka Ac a q nd := fun _ => by rw [exv]; unfold rv9; rw [if_neg (Nat.not_lt.mpr hnt), if_pos hr0]
                                  refine k_ast (x := xv) (28 * a + 7 * q + nd) (by rw [show (28 : Int32) = nI 28 from rfl, show (7 : Int32) = nI 7 from rfl, pk_mul, pk_mul, nI_add, nI_add]) (by omega) hx hb hE hP hD hS 5 rfl (by decide) dX9_laySets_161 (fun H locs hP hD hS => ?_)
                                  have hP : va_P g.1 vwCl [(m14, ai g 6 L), (m15, ai g 96 V), (m17, ai g 63 fc2), (m18, ai g 7 fh2), (m19, ai g 4 fs3), (m20, ai g 168 (upd Rb3 (28 * a + 7 * q + nd) xv)), (m21, ai g 6 Cg2), (k0, .inr (9, [.ref m0, .int s1, .int s2, .int s3, .int s4, .int s5, .int s6, .ref m7, .ref m8, .ref m9, .int (nI z), .int (nI t), .int s12, .ref m13, .ref m14, .ref m15, .int s16, .ref m17, .ref m18, .ref m19, .ref m20, .ref m21, .ref m22, .ref m23, .ref m24, .ref m25, .ref m26, .ref m27, .ref m28, .int s29, .ref m30, .int s31, .int s32, .int s33, .int s34, .int s35, .ref m36, .ref m37, .ref m38, .ref m39, .long s40])), (m13, ai g 6 K)] H := hP
                                  have hD : va_D A [(m14, ai g 6 L), (m15, ai g 96 V), (m17, ai g 63 fc2), (m18, ai g 7 fh2), (m19, ai g 4 fs3), (m20, ai g 168 (upd Rb3 (28 * a + 7 * q + nd) xv)), (m21, ai g 6 Cg2), (k0, .inr (9, [.ref m0, .int s1, .int s2, .int s3, .int s4, .int s5, .int s6, .ref m7, .ref m8, .ref m9, .int (nI z), .int (nI t), .int s12, .ref m13, .ref m14, .ref m15, .int s16, .ref m17, .ref m18, .ref m19, .ref m20, .ref m21, .ref m22, .ref m23, .ref m24, .ref m25, .ref m26, .ref m27, .ref m28, .int s29, .ref m30, .int s31, .int s32, .int s33, .int s34, .int s35, .ref m36, .ref m37, .ref m38, .ref m39, .long s40])), (m13, ai g 6 K)] := hD
                                  refine lv_iinc (v := (nI (nd + 1))) (lv' := [(3, .int (nI (nd + 1))), (0, .ref k0), (1, .int (nI a)), (2, .int (nI q))]) hx hb dX9_laySets_162 hl (k := 3) rfl (nI_1 _) (by decide) rfl (fun ls hl => ?_)
                                  refine lv_goto (tgt := 105) hx hb dX9_laySets_165 (by decide) ?_
                                  exact ih105 (nd + 1) _ (by omega) (SR_u ht4 (fun y hy => (hp y (by omega)).2.1.2) hR3) (SQ_u ht4 hQ3) (SM_s hM3 hval) (by omega) _ _ _ hP hD hS (lv_sub hl [1, 2, 3, 0] rfl)
                                · exact (show False from (rb_j eK hK5 c148_15 hr0)).elim
                              · skip
                                have hnt := lt_of_nle (k := t) (n := nd) (by omega) (by omega) c131_12
                                refine lv_aload_n hx hb dX9_laySets_134 rfl (lv_at hl 0 rfl) ?_
                                refine va_get (D := g.1) (ci := 9) (v := .ref m19) (C := RX9) (T := TX9) (N := 41) hx hb hts q_X9_laySets_f_f9 hown hE.1 hP 7 rfl rfl 19 (by decide) (hts (.fieldLink RX9 37 "SoundLawsModel" "said" "[I") q_X9_laySets_f_6) (fun _ h9 => h9) rfl dX9_laySets_135 ?_
                                refine lv_iload_n hx hb dX9_laySets_138 rfl (lv_at hl 3 rfl) ?_
                                refine k_ald nd rfl (by omega) hx hb hE hP 4 rfl (by decide) dX9_laySets_139 ?_
                                refine lv_goto (tgt := 161) hx hb dX9_laySets_140 (by decide) ?_
                                refine lv_topi (fun xv exv => ?_)
                                have hval : nd < 2 * t - 1 → xv = rv9 t ka Ac a q nd := fun _ => by rw [exv]; unfold rv9; rw [if_pos hnt]; exact hf3 nd (by omega)
                                refine k_ast (x := xv) (28 * a + 7 * q + nd) (by rw [show (28 : Int32) = nI 28 from rfl, show (7 : Int32) = nI 7 from rfl, pk_mul, pk_mul, nI_add, nI_add]) (by omega) hx hb hE hP hD hS 5 rfl (by decide) dX9_laySets_161 (fun H locs hP hD hS => ?_)
                                have hP : va_P g.1 vwCl [(m14, ai g 6 L), (m15, ai g 96 V), (m17, ai g 63 fc2), (m18, ai g 7 fh2), (m19, ai g 4 fs3), (m20, ai g 168 (upd Rb3 (28 * a + 7 * q + nd) xv)), (m21, ai g 6 Cg2), (k0, .inr (9, [.ref m0, .int s1, .int s2, .int s3, .int s4, .int s5, .int s6, .ref m7, .ref m8, .ref m9, .int (nI z), .int (nI t), .int s12, .ref m13, .ref m14, .ref m15, .int s16, .ref m17, .ref m18, .ref m19, .ref m20, .ref m21, .ref m22, .ref m23, .ref m24, .ref m25, .ref m26, .ref m27, .ref m28, .int s29, .ref m30, .int s31, .int s32, .int s33, .int s34, .int s35, .ref m36, .ref m37, .ref m38, .ref m39, .long s40])), (m13, ai g 6 K)] H := hP
                                have hD : va_D A [(m14, ai g 6 L), (m15, ai g 96 V), (m17, ai g 63 fc2), (m18, ai g 7 fh2), (m19, ai g 4 fs3), (m20, ai g 168 (upd Rb3 (28 * a + 7 * q + nd) xv)), (m21, ai g 6 Cg2), (k0, .inr (9, [.ref m0, .int s1, .int s2, .int s3, .int s4, .int s5, .int s6, .ref m7, .ref m8, .ref m9, .int (nI z), .int (nI t), .int s12, .ref m13, .ref m14, .ref m15, .int s16, .ref m17, .ref m18, .ref m19, .ref m20, .ref m21, .ref m22, .ref m23, .ref m24, .ref m25, .ref m26, .ref m27, .ref m28, .int s29, .ref m30, .int s31, .int s32, .int s33, .int s34, .int s35, .ref m36, .ref m37, .ref m38, .ref m39, .long s40])), (m13, ai g 6 K)] := hD
                                refine lv_iinc (v := (nI (nd + 1))) (lv' := [(3, .int (nI (nd + 1))), (0, .ref k0), (1, .int (nI a)), (2, .int (nI q))]) hx hb dX9_laySets_162 hl (k := 3) rfl (nI_1 _) (by decide) rfl (fun ls hl => ?_)
                                refine lv_goto (tgt := 105) hx hb dX9_laySets_165 (by decide) ?_
                                exact ih105 (nd + 1) _ (by omega) (SR_u ht4 (fun y hy => (hp y (by omega)).2.1.2) hR3) (SQ_u ht4 hQ3) (SM_s hM3 hval) (by omega) _ _ _ hP hD hS (lv_sub hl [1, 2, 3, 0] rfl)
                        exact loop105 _ 0 Rb2 (Nat.zero_le 7) hR2 hQ2 (fun m h9 => absurd h9 (Nat.not_lt_zero m)) (Nat.lt_succ_self _) _ _ _ hP hD hS (lv_sub hl [1, 2, 3, 0] rfl)
                      · exact (show False from (rb_j eK hK5 c83_10 hr0)).elim
                    · skip
                      have hu9 := lt_of_nle (k := t) (n := u) (by omega) (by omega) c48_7
                      refine lv_aload_n hx hb dX9_laySets_51 rfl (lv_at hl 0 rfl) ?_
                      refine va_get (D := g.1) (ci := 9) (v := .ref m19) (C := RX9) (T := TX9) (N := 41) hx hb hts q_X9_laySets_f_f9 hown hE.1 hP 7 rfl rfl 19 (by decide) (hts (.fieldLink RX9 37 "SoundLawsModel" "said" "[I") q_X9_laySets_f_6) (fun _ h9 => h9) rfl dX9_laySets_52 ?_
                      refine lv_iload_n hx hb dX9_laySets_55 rfl (lv_at hl 3 rfl) ?_
                      refine lv_aload_n hx hb dX9_laySets_56 rfl (lv_at hl 0 rfl) ?_
                      refine va_get (D := g.1) (ci := 9) (v := .ref m15) (C := RX9) (T := TX9) (N := 41) hx hb hts q_X9_laySets_f_f9 hown hE.1 hP 7 rfl rfl 15 (by decide) (hts (.fieldLink RX9 28 "SoundLawsModel" "words" "[I") q_X9_laySets_f_7) (fun _ h9 => h9) rfl dX9_laySets_57 ?_
                      refine lv_bipush (v := 16) hx hb dX9_laySets_60 (by decide) ?_
                      refine lv_iload_n hx hb dX9_laySets_62 rfl (lv_at hl 1 rfl) ?_
                      refine lv_imul hx hb dX9_laySets_63 ?_
                      refine lv_iconst (v := 4) hx hb dX9_laySets_64 (by decide) ?_
                      refine lv_iload_n hx hb dX9_laySets_65 rfl (lv_at hl 3 rfl) ?_
                      refine lv_imul hx hb dX9_laySets_66 ?_
                      refine lv_iadd hx hb dX9_laySets_67 ?_
                      refine lv_iload_n hx hb dX9_laySets_68 rfl (lv_at hl 2 rfl) ?_
                      refine lv_iadd hx hb dX9_laySets_69 ?_
                      refine k_ald (16 * a + 4 * u + q) (by rw [show (16 : Int32) = nI 16 from rfl, show (4 : Int32) = nI 4 from rfl, pk_mul, pk_mul, nI_add, nI_add]) (by omega) hx hb hE hP 1 rfl (by decide) dX9_laySets_70 ?_
                      refine lv_topi (fun x_16 ex_16 => ?_)
                      obtain rfl : x_16 = nI (Ac a q u) := by rw [ex_16]; exact (hAk q hq9 u hu9).1
                      refine k_ast (x := (nI (Ac a q u))) u rfl (by omega) hx hb hE hP hD hS 4 rfl (by decide) dX9_laySets_71 (fun H locs hP hD hS => ?_)
                      have hP : va_P g.1 vwCl [(m14, ai g 6 L), (m15, ai g 96 V), (m17, ai g 63 fc2), (m18, ai g 7 fh2), (m19, ai g 4 (upd fs3 u (nI (Ac a q u)))), (m20, ai g 168 Rb2), (m21, ai g 6 Cg2), (k0, .inr (9, [.ref m0, .int s1, .int s2, .int s3, .int s4, .int s5, .int s6, .ref m7, .ref m8, .ref m9, .int (nI z), .int (nI t), .int s12, .ref m13, .ref m14, .ref m15, .int s16, .ref m17, .ref m18, .ref m19, .ref m20, .ref m21, .ref m22, .ref m23, .ref m24, .ref m25, .ref m26, .ref m27, .ref m28, .int s29, .ref m30, .int s31, .int s32, .int s33, .int s34, .int s35, .ref m36, .ref m37, .ref m38, .ref m39, .long s40])), (m13, ai g 6 K)] H := hP
                      have hD : va_D A [(m14, ai g 6 L), (m15, ai g 96 V), (m17, ai g 63 fc2), (m18, ai g 7 fh2), (m19, ai g 4 (upd fs3 u (nI (Ac a q u)))), (m20, ai g 168 Rb2), (m21, ai g 6 Cg2), (k0, .inr (9, [.ref m0, .int s1, .int s2, .int s3, .int s4, .int s5, .int s6, .ref m7, .ref m8, .ref m9, .int (nI z), .int (nI t), .int s12, .ref m13, .ref m14, .ref m15, .int s16, .ref m17, .ref m18, .ref m19, .ref m20, .ref m21, .ref m22, .ref m23, .ref m24, .ref m25, .ref m26, .ref m27, .ref m28, .int s29, .ref m30, .int s31, .int s32, .int s33, .int s34, .int s35, .ref m36, .ref m37, .ref m38, .ref m39, .long s40])), (m13, ai g 6 K)] := hD
                      refine lv_iinc (v := (nI (u + 1))) (lv' := [(3, .int (nI (u + 1))), (0, .ref k0), (1, .int (nI a)), (2, .int (nI q))]) hx hb dX9_laySets_72 hl (k := 3) rfl (nI_1 _) (by decide) rfl (fun ls hl => ?_)
                      refine lv_goto (tgt := 43) hx hb dX9_laySets_75 (by decide) ?_
                      exact ih43 (u + 1) _ (by omega) (up_s (B := fun v => nI (Ac a q v)) hf3 rfl) (by omega) _ _ _ hP hD hS (lv_sub hl [1, 2, 3, 0] rfl)
                exact loop43 _ 0 _ (Nat.zero_le t) (fun v hv => absurd hv (Nat.not_lt_zero v)) (Nat.lt_succ_self _) _ _ _ hP hD hS (lv_sub hl [1, 2, 3, 0] rfl)
          exact loop31 _ 0 _ _ _ _ _ (Nat.zero_le _) hR1 (fun y h9 => absurd h9 (Nat.not_lt_zero y)) (fun k hk => by rw [pk_un (by omega)]; exact hC1 k hk) (by rw [pk_us]; unfold chR; rw [if_pos hr0]) (Nat.lt_succ_self _) _ _ _ hP hD hS (lv_sub hl [1, 2, 0] rfl)
        · skip
          have hr1 := rb_j eK hK5 c20_4
          refine lv_iconst (v := 0) hx hb dX9_laySets_23 (by decide) ?_
          refine lv_goto (tgt := 28) hx hb dX9_laySets_24 (by decide) ?_
          refine k_ast (x := 0) a rfl (by omega) hx hb hE hP hD hS 6 rfl (by decide) dX9_laySets_28 (fun H locs hP hD hS => ?_)
          have hP : va_P g.1 vwCl [(m14, ai g 6 L), (m15, ai g 96 V), (m17, ai g 63 fc1), (m18, ai g 7 fh1), (m19, ai g 4 fs1), (m20, ai g 168 Rb1), (m21, ai g 6 (upd Cg1 a 0)), (k0, .inr (9, [.ref m0, .int s1, .int s2, .int s3, .int s4, .int s5, .int s6, .ref m7, .ref m8, .ref m9, .int (nI z), .int (nI t), .int s12, .ref m13, .ref m14, .ref m15, .int s16, .ref m17, .ref m18, .ref m19, .ref m20, .ref m21, .ref m22, .ref m23, .ref m24, .ref m25, .ref m26, .ref m27, .ref m28, .int s29, .ref m30, .int s31, .int s32, .int s33, .int s34, .int s35, .ref m36, .ref m37, .ref m38, .ref m39, .long s40])), (m13, ai g 6 K)] H := hP
          have hD : va_D A [(m14, ai g 6 L), (m15, ai g 96 V), (m17, ai g 63 fc1), (m18, ai g 7 fh1), (m19, ai g 4 fs1), (m20, ai g 168 Rb1), (m21, ai g 6 (upd Cg1 a 0)), (k0, .inr (9, [.ref m0, .int s1, .int s2, .int s3, .int s4, .int s5, .int s6, .ref m7, .ref m8, .ref m9, .int (nI z), .int (nI t), .int s12, .ref m13, .ref m14, .ref m15, .int s16, .ref m17, .ref m18, .ref m19, .ref m20, .ref m21, .ref m22, .ref m23, .ref m24, .ref m25, .ref m26, .ref m27, .ref m28, .int s29, .ref m30, .int s31, .int s32, .int s33, .int s34, .int s35, .ref m36, .ref m37, .ref m38, .ref m39, .long s40])), (m13, ai g 6 K)] := hD
          refine lv_iconst (v := 0) hx hb dX9_laySets_29 (by decide) ?_
          refine lv_istore_n (lv' := [(2, .int 0), (0, .ref k0), (1, .int (nI a))]) hx hb dX9_laySets_30 rfl hl (by decide) rfl (fun ls hl => ?_)
          have loop31 : ∀ (fu : Nat) (q : Nat) (fc2 fh2 fs2 Rb2 Cg2 : Nat → Int32), (hq : q ≤ nl a) → (hR2 : SMr a t ka nl Ac Rb2) → (hQ2 : SRq t ka Ac a q Rb2) → (hC2 : ∀ k, k < a → Cg2 k = chK t ka nl Ac k) → (hC3 : Cg2 a = chR t ka Ac a q) → nl a - q < fu → ∀ (H : Heap) (locs : List Loc) (ls : Array Slot), va_P g.1 vwCl [(m14, ai g 6 L), (m15, ai g 96 V), (m17, ai g 63 fc2), (m18, ai g 7 fh2), (m19, ai g 4 fs2), (m20, ai g 168 Rb2), (m21, ai g 6 Cg2), (k0, .inr (9, [.ref m0, .int s1, .int s2, .int s3, .int s4, .int s5, .int s6, .ref m7, .ref m8, .ref m9, .int (nI z), .int (nI t), .int s12, .ref m13, .ref m14, .ref m15, .int s16, .ref m17, .ref m18, .ref m19, .ref m20, .ref m21, .ref m22, .ref m23, .ref m24, .ref m25, .ref m26, .ref m27, .ref m28, .int s29, .ref m30, .int s31, .int s32, .int s33, .int s34, .int s35, .ref m36, .ref m37, .ref m38, .ref m39, .long s40])), (m13, ai g 6 K)] H → va_D A [(m14, ai g 6 L), (m15, ai g 96 V), (m17, ai g 63 fc2), (m18, ai g 7 fh2), (m19, ai g 4 fs2), (m20, ai g 168 Rb2), (m21, ai g 6 Cg2), (k0, .inr (9, [.ref m0, .int s1, .int s2, .int s3, .int s4, .int s5, .int s6, .ref m7, .ref m8, .ref m9, .int (nI z), .int (nI t), .int s12, .ref m13, .ref m14, .ref m15, .int s16, .ref m17, .ref m18, .ref m19, .ref m20, .ref m21, .ref m22, .ref m23, .ref m24, .ref m25, .ref m26, .ref m27, .ref m28, .int s29, .ref m30, .int s31, .int s32, .int s33, .int s34, .int s35, .ref m36, .ref m37, .ref m38, .ref m39, .long s40])), (m13, ai g 6 K)] → va_S A s.heap H locs → lv_has ls 4 [(0, .ref k0), (1, .int (nI a)), (2, .int (nI q))] → W p l e ({ frames := 6, cells := 0, slots := 0, locals := 137 }) s m [.ref k0].toArray below meth c H locs 0 0 (MQ below (va_Qv (po_X9_laySets_f g k0 m0 s1 s2 s3 s4 s5 s6 m7 m8 m9 s12 m13 m14 m15 s16 m17 m18 m19 m20 m21 m22 m23 m24 m25 m26 m27 m28 s29 m30 s31 s32 s33 s34 s35 m36 m37 m38 m39 s40 z t K L V fc fh fs Rb Cg ka nl Ac) (bk g A) A) [.ref k0].toArray s 0 0 A) (F0 m 31 ls []) := by
            intro fu
            induction fu with
            | zero => intro q fc2 fh2 fs2 Rb2 Cg2 hq hR2 hQ2 hC2 hC3 hfu; exact absurd hfu (Nat.not_lt_zero _)
            | succ fu ih =>
              intro q fc2 fh2 fs2 Rb2 Cg2 hq hR2 hQ2 hC2 hC3 hfu H locs ls hP hD hS hl
              have ih31 := ih
              refine lv_iload_n hx hb dX9_laySets_31 rfl (lv_at hl 2 rfl) ?_
              refine lv_aload_n hx hb dX9_laySets_32 rfl (lv_at hl 0 rfl) ?_
              refine va_get (D := g.1) (ci := 9) (v := .ref m14) (C := RX9) (T := TX9) (N := 41) hx hb hts q_X9_laySets_f_f9 hown hE.1 hP 7 rfl rfl 14 (by decide) (hts (.fieldLink RX9 25 "SoundLawsModel" "longs" "[I") q_X9_laySets_f_3) (fun _ h9 => h9) rfl dX9_laySets_33 ?_
              refine lv_iload_n hx hb dX9_laySets_36 rfl (lv_at hl 1 rfl) ?_
              refine k_ald a rfl (by omega) hx hb hE hP 0 rfl (by decide) dX9_laySets_37 ?_
              refine lv_topi (fun x_17 ex_17 => ?_)
              obtain rfl : x_17 = nI (nl a) := by rw [ex_17]; exact eL
              refine lv_icmp_ge (tgt := 174) hx hb dX9_laySets_38 (by decide) (fun c38_18 => ?_) (fun c38_18 => ?_)
              · skip
                have hq9 := ge_of_le (k := nl a) (n := q) (by omega) (by omega) c38_18
                have hqn : q = nl a := by omega
                refine lv_iinc (v := (nI (a + 1))) (lv' := [(1, .int (nI (a + 1))), (0, .ref k0), (2, .int (nI q))]) hx hb dX9_laySets_174 hl (k := 1) rfl (nI_1 _) (by decide) rfl (fun ls hl => ?_)
                refine lv_goto (tgt := 2) hx hb dX9_laySets_177 (by decide) ?_
                exact ih2 (a + 1) _ _ _ _ _ (by omega) (SR_s hR2 (by rw [← hqn]; exact hQ2)) (chC_s hC2 (by rw [hC3, hqn]; rfl)) (by omega) _ _ _ (hP.sub [7, 8, 0, 1, 2, 3, 4, 5, 6] rfl) (hD.sub [7, 8, 0, 1, 2, 3, 4, 5, 6] (by decide) rfl) hS (lv_sub hl [1, 0] rfl)
              · skip
                have hq9 := lt_of_nle (k := nl a) (n := q) (by omega) (by omega) c38_18
                refine lv_iconst (v := 0) hx hb dX9_laySets_41 (by decide) ?_
                refine lv_istore_n (lv' := [(3, .int 0), (0, .ref k0), (1, .int (nI a)), (2, .int (nI q))]) hx hb dX9_laySets_42 rfl hl (by decide) rfl (fun ls hl => ?_)
                have loop43 : ∀ (fu : Nat) (u : Nat) (fs3 : Nat → Int32), (hu : u ≤ t) → (hf3 : ∀ v, v < u → fs3 v = nI (Ac a q v)) → t - u < fu → ∀ (H : Heap) (locs : List Loc) (ls : Array Slot), va_P g.1 vwCl [(m14, ai g 6 L), (m15, ai g 96 V), (m17, ai g 63 fc2), (m18, ai g 7 fh2), (m19, ai g 4 fs3), (m20, ai g 168 Rb2), (m21, ai g 6 Cg2), (k0, .inr (9, [.ref m0, .int s1, .int s2, .int s3, .int s4, .int s5, .int s6, .ref m7, .ref m8, .ref m9, .int (nI z), .int (nI t), .int s12, .ref m13, .ref m14, .ref m15, .int s16, .ref m17, .ref m18, .ref m19, .ref m20, .ref m21, .ref m22, .ref m23, .ref m24, .ref m25, .ref m26, .ref m27, .ref m28, .int s29, .ref m30, .int s31, .int s32, .int s33, .int s34, .int s35, .ref m36, .ref m37, .ref m38, .ref m39, .long s40])), (m13, ai g 6 K)] H → va_D A [(m14, ai g 6 L), (m15, ai g 96 V), (m17, ai g 63 fc2), (m18, ai g 7 fh2), (m19, ai g 4 fs3), (m20, ai g 168 Rb2), (m21, ai g 6 Cg2), (k0, .inr (9, [.ref m0, .int s1, .int s2, .int s3, .int s4, .int s5, .int s6, .ref m7, .ref m8, .ref m9, .int (nI z), .int (nI t), .int s12, .ref m13, .ref m14, .ref m15, .int s16, .ref m17, .ref m18, .ref m19, .ref m20, .ref m21, .ref m22, .ref m23, .ref m24, .ref m25, .ref m26, .ref m27, .ref m28, .int s29, .ref m30, .int s31, .int s32, .int s33, .int s34, .int s35, .ref m36, .ref m37, .ref m38, .ref m39, .long s40])), (m13, ai g 6 K)] → va_S A s.heap H locs → lv_has ls 4 [(0, .ref k0), (1, .int (nI a)), (2, .int (nI q)), (3, .int (nI u))] → W p l e ({ frames := 6, cells := 0, slots := 0, locals := 137 }) s m [.ref k0].toArray below meth c H locs 0 0 (MQ below (va_Qv (po_X9_laySets_f g k0 m0 s1 s2 s3 s4 s5 s6 m7 m8 m9 s12 m13 m14 m15 s16 m17 m18 m19 m20 m21 m22 m23 m24 m25 m26 m27 m28 s29 m30 s31 s32 s33 s34 s35 m36 m37 m38 m39 s40 z t K L V fc fh fs Rb Cg ka nl Ac) (bk g A) A) [.ref k0].toArray s 0 0 A) (F0 m 43 ls []) := by
                  intro fu
                  induction fu with
                  | zero => intro u fs3 hu hf3 hfu; exact absurd hfu (Nat.not_lt_zero _)
                  | succ fu ih =>
                    intro u fs3 hu hf3 hfu H locs ls hP hD hS hl
                    have ih43 := ih
                    refine lv_iload_n hx hb dX9_laySets_43 rfl (lv_at hl 3 rfl) ?_
                    refine lv_aload_n hx hb dX9_laySets_44 rfl (lv_at hl 0 rfl) ?_
                    refine va_get (D := g.1) (ci := 9) (v := .int (nI t)) (C := RX9) (T := TX9) (N := 41) hx hb hts q_X9_laySets_f_f9 hown hE.1 hP 7 rfl rfl 11 (by decide) (hts (.fieldLink RX9 150 "SoundLawsModel" "tongues" "I") q_X9_laySets_f_4) (fun _ h9 => h9) rfl dX9_laySets_45 ?_
                    refine lv_icmp_ge (tgt := 78) hx hb dX9_laySets_48 (by decide) (fun c48_19 => ?_) (fun c48_19 => ?_)
                    · skip
                      have hu9 := ge_of_le (k := t) (n := u) (by omega) (by omega) c48_19
                      refine lv_aload_n hx hb dX9_laySets_78 rfl (lv_at hl 0 rfl) ?_
                      refine lv_iload_n hx hb dX9_laySets_79 rfl (lv_at hl 1 rfl) ?_
                      refine k_ci (wr := [(m14, ai g 6 L), (m15, ai g 96 V), (m17, ai g 63 fc2), (m18, ai g 7 fh2), (m19, ai g 4 fs3), (m20, ai g 168 Rb2), (m21, ai g 6 Cg2)]) hP hD hS hA [7, 8] [0, 1, 2, 3, 4, 5, 6] rfl rfl (by decide) (by decide) (va_runV (As := [.int (nI a)]) (rest := []) ⟨hx, hb, hml, hown, hts⟩ (c_X9_isRebuilt_b l g k0 m0 s1 s2 s3 s4 s5 s6 m7 m8 m9 (nI z) (nI t) s12 m13 m14 m15 s16 m17 m18 m19 m20 m21 m22 m23 m24 m25 m26 m27 m28 s29 m30 s31 s32 s33 s34 s35 m36 m37 m38 m39 s40 K a (by first | assumption | omega) H.size) (cwV 1 hts gX9_laySets_X9_isRebuilt rfl rfl rfl (by decide +kernel) ⟨Nat.le_of_ble_eq_true rfl, Nat.le_of_ble_eq_true rfl⟩) (k_preV hE hZ hP hD hS hA [7, 8] rfl (by decide) (va_recv hE.1 hP (ci := 9) (q0 := 7) rfl rfl)) rfl rfl hl.1 rfl (lv_room (Nat.le_of_ble_eq_true rfl)) dX9_laySets_80 ⟨Nat.le_of_ble_eq_true rfl, Nat.le_of_ble_eq_true rfl⟩) (fun r_20 w1 H locs hw hP hD hS => ?_)
                      obtain ⟨rfl, rfl⟩ := hw
                      have hP : va_P g.1 vwCl [(m14, ai g 6 L), (m15, ai g 96 V), (m17, ai g 63 fc2), (m18, ai g 7 fh2), (m19, ai g 4 fs3), (m20, ai g 168 Rb2), (m21, ai g 6 Cg2), (k0, .inr (9, [.ref m0, .int s1, .int s2, .int s3, .int s4, .int s5, .int s6, .ref m7, .ref m8, .ref m9, .int (nI z), .int (nI t), .int s12, .ref m13, .ref m14, .ref m15, .int s16, .ref m17, .ref m18, .ref m19, .ref m20, .ref m21, .ref m22, .ref m23, .ref m24, .ref m25, .ref m26, .ref m27, .ref m28, .int s29, .ref m30, .int s31, .int s32, .int s33, .int s34, .int s35, .ref m36, .ref m37, .ref m38, .ref m39, .long s40])), (m13, ai g 6 K)] H := hP
                      have hD : va_D A [(m14, ai g 6 L), (m15, ai g 96 V), (m17, ai g 63 fc2), (m18, ai g 7 fh2), (m19, ai g 4 fs3), (m20, ai g 168 Rb2), (m21, ai g 6 Cg2), (k0, .inr (9, [.ref m0, .int s1, .int s2, .int s3, .int s4, .int s5, .int s6, .ref m7, .ref m8, .ref m9, .int (nI z), .int (nI t), .int s12, .ref m13, .ref m14, .ref m15, .int s16, .ref m17, .ref m18, .ref m19, .ref m20, .ref m21, .ref m22, .ref m23, .ref m24, .ref m25, .ref m26, .ref m27, .ref m28, .int s29, .ref m30, .int s31, .int s32, .int s33, .int s34, .int s35, .ref m36, .ref m37, .ref m38, .ref m39, .long s40])), (m13, ai g 6 K)] := hD
                      refine lv_if_eq (tgt := 103) hx hb dX9_laySets_83 (by decide) (fun c83_22 => ?_) (fun c83_22 => ?_)
                      · exact (show False from (hr1 (rb_i eK hK5 c83_22))).elim
                      · skip
                        refine lv_aload_n hx hb dX9_laySets_86 rfl (lv_at hl 0 rfl) ?_
                        refine va_get (D := g.1) (ci := 9) (v := .ref m21) (C := RX9) (T := TX9) (N := 41) hx hb hts q_X9_laySets_f_f9 hown hE.1 hP 7 rfl rfl 21 (by decide) (hts (.fieldLink RX9 43 "SoundLawsModel" "changes" "[I") q_X9_laySets_f_2) (fun _ h9 => h9) rfl dX9_laySets_87 ?_
                        refine lv_iload_n hx hb dX9_laySets_90 rfl (lv_at hl 1 rfl) ?_
                        refine lv_dup2_11 hx hb dX9_laySets_91 rfl rfl ?_
                        refine k_ald a rfl (by omega) hx hb hE hP 6 rfl (by decide) dX9_laySets_92 ?_
                        refine lv_aload_n hx hb dX9_laySets_93 rfl (lv_at hl 0 rfl) ?_
                        refine lv_aload_n hx hb dX9_laySets_94 rfl (lv_at hl 0 rfl) ?_
                        refine va_get (D := g.1) (ci := 9) (v := .int (nI t)) (C := RX9) (T := TX9) (N := 41) hx hb hts q_X9_laySets_f_f9 hown hE.1 hP 7 rfl rfl 11 (by decide) (hts (.fieldLink RX9 150 "SoundLawsModel" "tongues" "I") q_X9_laySets_f_4) (fun _ h9 => h9) rfl dX9_laySets_95 ?_
                        refine k_ci (wr := [(m14, ai g 6 L), (m15, ai g 96 V), (m20, ai g 168 Rb2), (m21, ai g 6 Cg2), (m13, ai g 6 K)]) hP hD hS hA [7, 2, 3, 4] [0, 1, 5, 6, 8] rfl rfl (by decide) (by decide) (va_runV (As := [.int (nI t)]) (rest := [.int (Cg2 a), .int (nI a), .ref m21]) ⟨hx, hb, hml, hown, hts⟩ (c_X9_rebuild_f l g k0 m0 s1 s2 s3 s4 s5 s6 m7 m8 m9 (nI z) (nI t) s12 m13 m14 m15 s16 m17 m18 m19 m20 m21 m22 m23 m24 m25 m26 m27 m28 s29 m30 s31 s32 s33 s34 s35 m36 m37 m38 m39 s40 fc2 fs3 fh2 t (Ac a q) (by first | assumption | omega) (by first | assumption | omega) (fun v hv => hf3 v (by omega)) (fun v hv => (hAk q hq9 v hv).2) H.size) (cwV 1 hts gX9_laySets_X9_rebuild rfl rfl rfl (by decide +kernel) ⟨Nat.le_of_ble_eq_true rfl, Nat.le_of_ble_eq_true rfl⟩) (k_preV hE hZ hP hD hS hA [7, 2, 3, 4] rfl (by decide) (va_recv hE.1 hP (ci := 9) (q0 := 7) rfl rfl)) rfl rfl hl.1 rfl (lv_room (Nat.le_of_ble_eq_true rfl)) dX9_laySets_98 ⟨Nat.le_of_ble_eq_true rfl, Nat.le_of_ble_eq_true rfl⟩) (fun r_23 w1 H locs hw hP hD hS => ?_)
                        obtain ⟨gc_24, gh_25, rfl, rfl, hgh_27⟩ := hw
                        have hP : va_P g.1 vwCl [(m14, ai g 6 L), (m15, ai g 96 V), (m20, ai g 168 Rb2), (m21, ai g 6 Cg2), (m13, ai g 6 K), (k0, .inr (9, [.ref m0, .int s1, .int s2, .int s3, .int s4, .int s5, .int s6, .ref m7, .ref m8, .ref m9, .int (nI z), .int (nI t), .int s12, .ref m13, .ref m14, .ref m15, .int s16, .ref m17, .ref m18, .ref m19, .ref m20, .ref m21, .ref m22, .ref m23, .ref m24, .ref m25, .ref m26, .ref m27, .ref m28, .int s29, .ref m30, .int s31, .int s32, .int s33, .int s34, .int s35, .ref m36, .ref m37, .ref m38, .ref m39, .long s40])), (m17, ai g 63 gc_24), (m18, ai g 7 gh_25), (m19, ai g 4 fs3)] H := hP
                        have hD : va_D A [(m14, ai g 6 L), (m15, ai g 96 V), (m20, ai g 168 Rb2), (m21, ai g 6 Cg2), (m13, ai g 6 K), (k0, .inr (9, [.ref m0, .int s1, .int s2, .int s3, .int s4, .int s5, .int s6, .ref m7, .ref m8, .ref m9, .int (nI z), .int (nI t), .int s12, .ref m13, .ref m14, .ref m15, .int s16, .ref m17, .ref m18, .ref m19, .ref m20, .ref m21, .ref m22, .ref m23, .ref m24, .ref m25, .ref m26, .ref m27, .ref m28, .int s29, .ref m30, .int s31, .int s32, .int s33, .int s34, .int s35, .ref m36, .ref m37, .ref m38, .ref m39, .long s40])), (m17, ai g 63 gc_24), (m18, ai g 7 gh_25), (m19, ai g 4 fs3)] := hD
                        refine lv_iadd hx hb dX9_laySets_101 ?_
                        refine lv_topi (fun xg exg => ?_)
                        refine k_ast (x := xg) a rfl (by omega) hx hb hE hP hD hS 3 rfl (by decide) dX9_laySets_102 (fun H locs hP hD hS => ?_)
                        have hP : va_P g.1 vwCl [(m14, ai g 6 L), (m15, ai g 96 V), (m20, ai g 168 Rb2), (m21, ai g 6 (upd Cg2 a xg)), (m13, ai g 6 K), (k0, .inr (9, [.ref m0, .int s1, .int s2, .int s3, .int s4, .int s5, .int s6, .ref m7, .ref m8, .ref m9, .int (nI z), .int (nI t), .int s12, .ref m13, .ref m14, .ref m15, .int s16, .ref m17, .ref m18, .ref m19, .ref m20, .ref m21, .ref m22, .ref m23, .ref m24, .ref m25, .ref m26, .ref m27, .ref m28, .int s29, .ref m30, .int s31, .int s32, .int s33, .int s34, .int s35, .ref m36, .ref m37, .ref m38, .ref m39, .long s40])), (m17, ai g 63 gc_24), (m18, ai g 7 gh_25), (m19, ai g 4 fs3)] H := hP
                        have hD : va_D A [(m14, ai g 6 L), (m15, ai g 96 V), (m20, ai g 168 Rb2), (m21, ai g 6 (upd Cg2 a xg)), (m13, ai g 6 K), (k0, .inr (9, [.ref m0, .int s1, .int s2, .int s3, .int s4, .int s5, .int s6, .ref m7, .ref m8, .ref m9, .int (nI z), .int (nI t), .int s12, .ref m13, .ref m14, .ref m15, .int s16, .ref m17, .ref m18, .ref m19, .ref m20, .ref m21, .ref m22, .ref m23, .ref m24, .ref m25, .ref m26, .ref m27, .ref m28, .int s29, .ref m30, .int s31, .int s32, .int s33, .int s34, .int s35, .ref m36, .ref m37, .ref m38, .ref m39, .long s40])), (m17, ai g 63 gc_24), (m18, ai g 7 gh_25), (m19, ai g 4 fs3)] := hD
                        refine lv_iconst (v := 0) hx hb dX9_laySets_103 (by decide) ?_
                        refine lv_istore_n (lv' := [(3, .int 0), (0, .ref k0), (1, .int (nI a)), (2, .int (nI q))]) hx hb dX9_laySets_104 rfl hl (by decide) rfl (fun ls hl => ?_)
                        have loop105 : ∀ (fu : Nat) (nd : Nat) (Rb3 : Nat → Int32), (hnd : nd ≤ 7) → (hR3 : SMr a t ka nl Ac Rb3) → (hQ3 : SRq t ka Ac a q Rb3) → (hM3 : SRm t ka Ac a q nd Rb3) → 7 - nd < fu → ∀ (H : Heap) (locs : List Loc) (ls : Array Slot), va_P g.1 vwCl [(m14, ai g 6 L), (m15, ai g 96 V), (m20, ai g 168 Rb3), (m21, ai g 6 (upd Cg2 a xg)), (m13, ai g 6 K), (k0, .inr (9, [.ref m0, .int s1, .int s2, .int s3, .int s4, .int s5, .int s6, .ref m7, .ref m8, .ref m9, .int (nI z), .int (nI t), .int s12, .ref m13, .ref m14, .ref m15, .int s16, .ref m17, .ref m18, .ref m19, .ref m20, .ref m21, .ref m22, .ref m23, .ref m24, .ref m25, .ref m26, .ref m27, .ref m28, .int s29, .ref m30, .int s31, .int s32, .int s33, .int s34, .int s35, .ref m36, .ref m37, .ref m38, .ref m39, .long s40])), (m17, ai g 63 gc_24), (m18, ai g 7 gh_25), (m19, ai g 4 fs3)] H → va_D A [(m14, ai g 6 L), (m15, ai g 96 V), (m20, ai g 168 Rb3), (m21, ai g 6 (upd Cg2 a xg)), (m13, ai g 6 K), (k0, .inr (9, [.ref m0, .int s1, .int s2, .int s3, .int s4, .int s5, .int s6, .ref m7, .ref m8, .ref m9, .int (nI z), .int (nI t), .int s12, .ref m13, .ref m14, .ref m15, .int s16, .ref m17, .ref m18, .ref m19, .ref m20, .ref m21, .ref m22, .ref m23, .ref m24, .ref m25, .ref m26, .ref m27, .ref m28, .int s29, .ref m30, .int s31, .int s32, .int s33, .int s34, .int s35, .ref m36, .ref m37, .ref m38, .ref m39, .long s40])), (m17, ai g 63 gc_24), (m18, ai g 7 gh_25), (m19, ai g 4 fs3)] → va_S A s.heap H locs → lv_has ls 4 [(0, .ref k0), (1, .int (nI a)), (2, .int (nI q)), (3, .int (nI nd))] → W p l e ({ frames := 6, cells := 0, slots := 0, locals := 137 }) s m [.ref k0].toArray below meth c H locs 0 0 (MQ below (va_Qv (po_X9_laySets_f g k0 m0 s1 s2 s3 s4 s5 s6 m7 m8 m9 s12 m13 m14 m15 s16 m17 m18 m19 m20 m21 m22 m23 m24 m25 m26 m27 m28 s29 m30 s31 s32 s33 s34 s35 m36 m37 m38 m39 s40 z t K L V fc fh fs Rb Cg ka nl Ac) (bk g A) A) [.ref k0].toArray s 0 0 A) (F0 m 105 ls []) := by
                          intro fu
                          induction fu with
                          | zero => intro nd Rb3 hnd hR3 hQ3 hM3 hfu; exact absurd hfu (Nat.not_lt_zero _)
                          | succ fu ih =>
                            intro nd Rb3 hnd hR3 hQ3 hM3 hfu H locs ls hP hD hS hl
                            have ih105 := ih
                            refine lv_iload_n hx hb dX9_laySets_105 rfl (lv_at hl 3 rfl) ?_
                            refine lv_bipush (v := 7) hx hb dX9_laySets_106 (by decide) ?_
                            refine lv_icmp_ge (tgt := 168) hx hb dX9_laySets_108 (by decide) (fun c108_28 => ?_) (fun c108_28 => ?_)
                            · skip
                              have hd9 := ge_of_le (k := 7) (n := nd) (by decide) (by omega) c108_28
                              have hM7 : SRm t ka Ac a q 7 Rb3 := by rw [show 7 = nd by omega]; exact hM3
                              refine lv_iinc (v := (nI (q + 1))) (lv' := [(2, .int (nI (q + 1))), (0, .ref k0), (1, .int (nI a)), (3, .int (nI nd))]) hx hb dX9_laySets_168 hl (k := 2) rfl (nI_1 _) (by decide) rfl (fun ls hl => ?_)
                              refine lv_goto (tgt := 31) hx hb dX9_laySets_171 (by decide) ?_
                              exact ih31 (q + 1) _ _ _ _ _ (by omega) hR3 (SQ_s ht4 hQ3 hM7) (fun k hk => by rw [pk_un (by omega)]; exact hC2 k hk) (by rw [pk_us, exg, hC3]; unfold chR; rw [if_neg hr1, if_neg hr1]; rfl) (by omega) _ _ _ (hP.sub [0, 1, 6, 7, 8, 2, 3, 5, 4] rfl) (hD.sub [0, 1, 6, 7, 8, 2, 3, 5, 4] (by decide) rfl) hS (lv_sub hl [1, 2, 0] rfl)
                            · skip
                              have hd9 := lt_of_nle (k := 7) (n := nd) (by decide) (by omega) c108_28
                              refine lv_aload_n hx hb dX9_laySets_111 rfl (lv_at hl 0 rfl) ?_
                              refine va_get (D := g.1) (ci := 9) (v := .ref m20) (C := RX9) (T := TX9) (N := 41) hx hb hts q_X9_laySets_f_f9 hown hE.1 hP 5 rfl rfl 20 (by decide) (hts (.fieldLink RX9 40 "SoundLawsModel" "rebuilt" "[I") q_X9_laySets_f_5) (fun _ h9 => h9) rfl dX9_laySets_112 ?_
                              refine lv_bipush (v := 28) hx hb dX9_laySets_115 (by decide) ?_
                              refine lv_iload_n hx hb dX9_laySets_117 rfl (lv_at hl 1 rfl) ?_
                              refine lv_imul hx hb dX9_laySets_118 ?_
                              refine lv_bipush (v := 7) hx hb dX9_laySets_119 (by decide) ?_
                              refine lv_iload_n hx hb dX9_laySets_121 rfl (lv_at hl 2 rfl) ?_
                              refine lv_imul hx hb dX9_laySets_122 ?_
                              refine lv_iadd hx hb dX9_laySets_123 ?_
                              refine lv_iload_n hx hb dX9_laySets_124 rfl (lv_at hl 3 rfl) ?_
                              refine lv_iadd hx hb dX9_laySets_125 ?_
                              refine lv_iload_n hx hb dX9_laySets_126 rfl (lv_at hl 3 rfl) ?_
                              refine lv_aload_n hx hb dX9_laySets_127 rfl (lv_at hl 0 rfl) ?_
                              refine va_get (D := g.1) (ci := 9) (v := .int (nI t)) (C := RX9) (T := TX9) (N := 41) hx hb hts q_X9_laySets_f_f9 hown hE.1 hP 5 rfl rfl 11 (by decide) (hts (.fieldLink RX9 150 "SoundLawsModel" "tongues" "I") q_X9_laySets_f_4) (fun _ h9 => h9) rfl dX9_laySets_128 ?_
                              refine lv_icmp_ge (tgt := 143) hx hb dX9_laySets_131 (by decide) (fun c131_29 => ?_) (fun c131_29 => ?_)
                              · skip
                                have hnt := ge_of_le (k := t) (n := nd) (by omega) (by omega) c131_29
                                refine lv_aload_n hx hb dX9_laySets_143 rfl (lv_at hl 0 rfl) ?_
                                refine lv_iload_n hx hb dX9_laySets_144 rfl (lv_at hl 1 rfl) ?_
                                refine k_ci (wr := [(m14, ai g 6 L), (m15, ai g 96 V), (m20, ai g 168 Rb3), (m21, ai g 6 (upd Cg2 a xg)), (m17, ai g 63 gc_24), (m18, ai g 7 gh_25), (m19, ai g 4 fs3)]) hP hD hS hA [5, 4] [0, 1, 2, 3, 6, 7, 8] rfl rfl (by decide) (by decide) (va_runV (As := [.int (nI a)]) (rest := [.int (((28 * (nI a)) + (7 * (nI q))) + (nI nd)), .ref m20]) ⟨hx, hb, hml, hown, hts⟩ (c_X9_isRebuilt_b l g k0 m0 s1 s2 s3 s4 s5 s6 m7 m8 m9 (nI z) (nI t) s12 m13 m14 m15 s16 m17 m18 m19 m20 m21 m22 m23 m24 m25 m26 m27 m28 s29 m30 s31 s32 s33 s34 s35 m36 m37 m38 m39 s40 K a (by first | assumption | omega) H.size) (cwV 1 hts gX9_laySets_X9_isRebuilt rfl rfl rfl (by decide +kernel) ⟨Nat.le_of_ble_eq_true rfl, Nat.le_of_ble_eq_true rfl⟩) (k_preV hE hZ hP hD hS hA [5, 4] rfl (by decide) (va_recv hE.1 hP (ci := 9) (q0 := 5) rfl rfl)) rfl rfl hl.1 rfl (lv_room (Nat.le_of_ble_eq_true rfl)) dX9_laySets_145 ⟨Nat.le_of_ble_eq_true rfl, Nat.le_of_ble_eq_true rfl⟩) (fun r_30 w1 H locs hw hP hD hS => ?_)
                                obtain ⟨rfl, rfl⟩ := hw
                                have hP : va_P g.1 vwCl [(m14, ai g 6 L), (m15, ai g 96 V), (m20, ai g 168 Rb3), (m21, ai g 6 (upd Cg2 a xg)), (m17, ai g 63 gc_24), (m18, ai g 7 gh_25), (m19, ai g 4 fs3), (k0, .inr (9, [.ref m0, .int s1, .int s2, .int s3, .int s4, .int s5, .int s6, .ref m7, .ref m8, .ref m9, .int (nI z), .int (nI t), .int s12, .ref m13, .ref m14, .ref m15, .int s16, .ref m17, .ref m18, .ref m19, .ref m20, .ref m21, .ref m22, .ref m23, .ref m24, .ref m25, .ref m26, .ref m27, .ref m28, .int s29, .ref m30, .int s31, .int s32, .int s33, .int s34, .int s35, .ref m36, .ref m37, .ref m38, .ref m39, .long s40])), (m13, ai g 6 K)] H := hP
                                have hD : va_D A [(m14, ai g 6 L), (m15, ai g 96 V), (m20, ai g 168 Rb3), (m21, ai g 6 (upd Cg2 a xg)), (m17, ai g 63 gc_24), (m18, ai g 7 gh_25), (m19, ai g 4 fs3), (k0, .inr (9, [.ref m0, .int s1, .int s2, .int s3, .int s4, .int s5, .int s6, .ref m7, .ref m8, .ref m9, .int (nI z), .int (nI t), .int s12, .ref m13, .ref m14, .ref m15, .int s16, .ref m17, .ref m18, .ref m19, .ref m20, .ref m21, .ref m22, .ref m23, .ref m24, .ref m25, .ref m26, .ref m27, .ref m28, .int s29, .ref m30, .int s31, .int s32, .int s33, .int s34, .int s35, .ref m36, .ref m37, .ref m38, .ref m39, .long s40])), (m13, ai g 6 K)] := hD
                                refine lv_if_eq (tgt := 160) hx hb dX9_laySets_148 (by decide) (fun c148_32 => ?_) (fun c148_32 => ?_)
                                · exact (show False from (hr1 (rb_i eK hK5 c148_32))).elim
                                · skip
                                  refine lv_aload_n hx hb dX9_laySets_151 rfl (lv_at hl 0 rfl) ?_
                                  refine va_get (D := g.1) (ci := 9) (v := .ref m18) (C := RX9) (T := TX9) (N := 41) hx hb hts q_X9_laySets_f_f9 hown hE.1 hP 7 rfl rfl 18 (by decide) (hts (.fieldLink RX9 34 "SoundLawsModel" "had" "[I") q_X9_laySets_f_8) (fun _ h9 => h9) rfl dX9_laySets_152 ?_
                                  refine lv_iload_n hx hb dX9_laySets_155 rfl (lv_at hl 3 rfl) ?_
                                  refine k_ald nd rfl (by omega) hx hb hE hP 5 rfl (by decide) dX9_laySets_156 ?_
                                  refine lv_goto (tgt := 161) hx hb dX9_laySets_157 (by decide) ?_
                                  refine lv_topi (fun xv exv => ?_)
                                  have hval : nd < 2 * t - 1 → xv = rv9 t ka Ac a q nd := fun h9 => by rw [exv]; unfold rv9; rw [if_neg (Nat.not_lt.mpr hnt), if_neg hr1]; exact hgh_27 nd h9
                                  refine k_ast (x := xv) (28 * a + 7 * q + nd) (by rw [show (28 : Int32) = nI 28 from rfl, show (7 : Int32) = nI 7 from rfl, pk_mul, pk_mul, nI_add, nI_add]) (by omega) hx hb hE hP hD hS 2 rfl (by decide) dX9_laySets_161 (fun H locs hP hD hS => ?_)
                                  have hP : va_P g.1 vwCl [(m14, ai g 6 L), (m15, ai g 96 V), (m20, ai g 168 (upd Rb3 (28 * a + 7 * q + nd) xv)), (m21, ai g 6 (upd Cg2 a xg)), (m17, ai g 63 gc_24), (m18, ai g 7 gh_25), (m19, ai g 4 fs3), (k0, .inr (9, [.ref m0, .int s1, .int s2, .int s3, .int s4, .int s5, .int s6, .ref m7, .ref m8, .ref m9, .int (nI z), .int (nI t), .int s12, .ref m13, .ref m14, .ref m15, .int s16, .ref m17, .ref m18, .ref m19, .ref m20, .ref m21, .ref m22, .ref m23, .ref m24, .ref m25, .ref m26, .ref m27, .ref m28, .int s29, .ref m30, .int s31, .int s32, .int s33, .int s34, .int s35, .ref m36, .ref m37, .ref m38, .ref m39, .long s40])), (m13, ai g 6 K)] H := hP
                                  have hD : va_D A [(m14, ai g 6 L), (m15, ai g 96 V), (m20, ai g 168 (upd Rb3 (28 * a + 7 * q + nd) xv)), (m21, ai g 6 (upd Cg2 a xg)), (m17, ai g 63 gc_24), (m18, ai g 7 gh_25), (m19, ai g 4 fs3), (k0, .inr (9, [.ref m0, .int s1, .int s2, .int s3, .int s4, .int s5, .int s6, .ref m7, .ref m8, .ref m9, .int (nI z), .int (nI t), .int s12, .ref m13, .ref m14, .ref m15, .int s16, .ref m17, .ref m18, .ref m19, .ref m20, .ref m21, .ref m22, .ref m23, .ref m24, .ref m25, .ref m26, .ref m27, .ref m28, .int s29, .ref m30, .int s31, .int s32, .int s33, .int s34, .int s35, .ref m36, .ref m37, .ref m38, .ref m39, .long s40])), (m13, ai g 6 K)] := hD
                                  refine lv_iinc (v := (nI (nd + 1))) (lv' := [(3, .int (nI (nd + 1))), (0, .ref k0), (1, .int (nI a)), (2, .int (nI q))]) hx hb dX9_laySets_162 hl (k := 3) rfl (nI_1 _) (by decide) rfl (fun ls hl => ?_)
                                  refine lv_goto (tgt := 105) hx hb dX9_laySets_165 (by decide) ?_
                                  exact ih105 (nd + 1) _ (by omega) (SR_u ht4 (fun y hy => (hp y (by omega)).2.1.2) hR3) (SQ_u ht4 hQ3) (SM_s hM3 hval) (by omega) _ _ _ (hP.sub [0, 1, 2, 3, 8, 7, 4, 5, 6] rfl) (hD.sub [0, 1, 2, 3, 8, 7, 4, 5, 6] (by decide) rfl) hS (lv_sub hl [1, 2, 3, 0] rfl)
                              · skip
                                have hnt := lt_of_nle (k := t) (n := nd) (by omega) (by omega) c131_29
                                refine lv_aload_n hx hb dX9_laySets_134 rfl (lv_at hl 0 rfl) ?_
                                refine va_get (D := g.1) (ci := 9) (v := .ref m19) (C := RX9) (T := TX9) (N := 41) hx hb hts q_X9_laySets_f_f9 hown hE.1 hP 5 rfl rfl 19 (by decide) (hts (.fieldLink RX9 37 "SoundLawsModel" "said" "[I") q_X9_laySets_f_6) (fun _ h9 => h9) rfl dX9_laySets_135 ?_
                                refine lv_iload_n hx hb dX9_laySets_138 rfl (lv_at hl 3 rfl) ?_
                                refine k_ald nd rfl (by omega) hx hb hE hP 8 rfl (by decide) dX9_laySets_139 ?_
                                refine lv_goto (tgt := 161) hx hb dX9_laySets_140 (by decide) ?_
                                refine lv_topi (fun xv exv => ?_)
                                have hval : nd < 2 * t - 1 → xv = rv9 t ka Ac a q nd := fun _ => by rw [exv]; unfold rv9; rw [if_pos hnt]; exact hf3 nd (by omega)
                                refine k_ast (x := xv) (28 * a + 7 * q + nd) (by rw [show (28 : Int32) = nI 28 from rfl, show (7 : Int32) = nI 7 from rfl, pk_mul, pk_mul, nI_add, nI_add]) (by omega) hx hb hE hP hD hS 2 rfl (by decide) dX9_laySets_161 (fun H locs hP hD hS => ?_)
                                have hP : va_P g.1 vwCl [(m14, ai g 6 L), (m15, ai g 96 V), (m20, ai g 168 (upd Rb3 (28 * a + 7 * q + nd) xv)), (m21, ai g 6 (upd Cg2 a xg)), (m13, ai g 6 K), (k0, .inr (9, [.ref m0, .int s1, .int s2, .int s3, .int s4, .int s5, .int s6, .ref m7, .ref m8, .ref m9, .int (nI z), .int (nI t), .int s12, .ref m13, .ref m14, .ref m15, .int s16, .ref m17, .ref m18, .ref m19, .ref m20, .ref m21, .ref m22, .ref m23, .ref m24, .ref m25, .ref m26, .ref m27, .ref m28, .int s29, .ref m30, .int s31, .int s32, .int s33, .int s34, .int s35, .ref m36, .ref m37, .ref m38, .ref m39, .long s40])), (m17, ai g 63 gc_24), (m18, ai g 7 gh_25), (m19, ai g 4 fs3)] H := hP
                                have hD : va_D A [(m14, ai g 6 L), (m15, ai g 96 V), (m20, ai g 168 (upd Rb3 (28 * a + 7 * q + nd) xv)), (m21, ai g 6 (upd Cg2 a xg)), (m13, ai g 6 K), (k0, .inr (9, [.ref m0, .int s1, .int s2, .int s3, .int s4, .int s5, .int s6, .ref m7, .ref m8, .ref m9, .int (nI z), .int (nI t), .int s12, .ref m13, .ref m14, .ref m15, .int s16, .ref m17, .ref m18, .ref m19, .ref m20, .ref m21, .ref m22, .ref m23, .ref m24, .ref m25, .ref m26, .ref m27, .ref m28, .int s29, .ref m30, .int s31, .int s32, .int s33, .int s34, .int s35, .ref m36, .ref m37, .ref m38, .ref m39, .long s40])), (m17, ai g 63 gc_24), (m18, ai g 7 gh_25), (m19, ai g 4 fs3)] := hD
                                refine lv_iinc (v := (nI (nd + 1))) (lv' := [(3, .int (nI (nd + 1))), (0, .ref k0), (1, .int (nI a)), (2, .int (nI q))]) hx hb dX9_laySets_162 hl (k := 3) rfl (nI_1 _) (by decide) rfl (fun ls hl => ?_)
                                refine lv_goto (tgt := 105) hx hb dX9_laySets_165 (by decide) ?_
                                exact ih105 (nd + 1) _ (by omega) (SR_u ht4 (fun y hy => (hp y (by omega)).2.1.2) hR3) (SQ_u ht4 hQ3) (SM_s hM3 hval) (by omega) _ _ _ hP hD hS (lv_sub hl [1, 2, 3, 0] rfl)
                        exact loop105 _ 0 Rb2 (Nat.zero_le 7) hR2 hQ2 (fun m h9 => absurd h9 (Nat.not_lt_zero m)) (Nat.lt_succ_self _) _ _ _ hP hD hS (lv_sub hl [1, 2, 3, 0] rfl)
                    · skip
                      have hu9 := lt_of_nle (k := t) (n := u) (by omega) (by omega) c48_19
                      refine lv_aload_n hx hb dX9_laySets_51 rfl (lv_at hl 0 rfl) ?_
                      refine va_get (D := g.1) (ci := 9) (v := .ref m19) (C := RX9) (T := TX9) (N := 41) hx hb hts q_X9_laySets_f_f9 hown hE.1 hP 7 rfl rfl 19 (by decide) (hts (.fieldLink RX9 37 "SoundLawsModel" "said" "[I") q_X9_laySets_f_6) (fun _ h9 => h9) rfl dX9_laySets_52 ?_
                      refine lv_iload_n hx hb dX9_laySets_55 rfl (lv_at hl 3 rfl) ?_
                      refine lv_aload_n hx hb dX9_laySets_56 rfl (lv_at hl 0 rfl) ?_
                      refine va_get (D := g.1) (ci := 9) (v := .ref m15) (C := RX9) (T := TX9) (N := 41) hx hb hts q_X9_laySets_f_f9 hown hE.1 hP 7 rfl rfl 15 (by decide) (hts (.fieldLink RX9 28 "SoundLawsModel" "words" "[I") q_X9_laySets_f_7) (fun _ h9 => h9) rfl dX9_laySets_57 ?_
                      refine lv_bipush (v := 16) hx hb dX9_laySets_60 (by decide) ?_
                      refine lv_iload_n hx hb dX9_laySets_62 rfl (lv_at hl 1 rfl) ?_
                      refine lv_imul hx hb dX9_laySets_63 ?_
                      refine lv_iconst (v := 4) hx hb dX9_laySets_64 (by decide) ?_
                      refine lv_iload_n hx hb dX9_laySets_65 rfl (lv_at hl 3 rfl) ?_
                      refine lv_imul hx hb dX9_laySets_66 ?_
                      refine lv_iadd hx hb dX9_laySets_67 ?_
                      refine lv_iload_n hx hb dX9_laySets_68 rfl (lv_at hl 2 rfl) ?_
                      refine lv_iadd hx hb dX9_laySets_69 ?_
                      refine k_ald (16 * a + 4 * u + q) (by rw [show (16 : Int32) = nI 16 from rfl, show (4 : Int32) = nI 4 from rfl, pk_mul, pk_mul, nI_add, nI_add]) (by omega) hx hb hE hP 1 rfl (by decide) dX9_laySets_70 ?_
                      refine lv_topi (fun x_33 ex_33 => ?_)
                      obtain rfl : x_33 = nI (Ac a q u) := by rw [ex_33]; exact (hAk q hq9 u hu9).1
                      refine k_ast (x := (nI (Ac a q u))) u rfl (by omega) hx hb hE hP hD hS 4 rfl (by decide) dX9_laySets_71 (fun H locs hP hD hS => ?_)
                      have hP : va_P g.1 vwCl [(m14, ai g 6 L), (m15, ai g 96 V), (m17, ai g 63 fc2), (m18, ai g 7 fh2), (m19, ai g 4 (upd fs3 u (nI (Ac a q u)))), (m20, ai g 168 Rb2), (m21, ai g 6 Cg2), (k0, .inr (9, [.ref m0, .int s1, .int s2, .int s3, .int s4, .int s5, .int s6, .ref m7, .ref m8, .ref m9, .int (nI z), .int (nI t), .int s12, .ref m13, .ref m14, .ref m15, .int s16, .ref m17, .ref m18, .ref m19, .ref m20, .ref m21, .ref m22, .ref m23, .ref m24, .ref m25, .ref m26, .ref m27, .ref m28, .int s29, .ref m30, .int s31, .int s32, .int s33, .int s34, .int s35, .ref m36, .ref m37, .ref m38, .ref m39, .long s40])), (m13, ai g 6 K)] H := hP
                      have hD : va_D A [(m14, ai g 6 L), (m15, ai g 96 V), (m17, ai g 63 fc2), (m18, ai g 7 fh2), (m19, ai g 4 (upd fs3 u (nI (Ac a q u)))), (m20, ai g 168 Rb2), (m21, ai g 6 Cg2), (k0, .inr (9, [.ref m0, .int s1, .int s2, .int s3, .int s4, .int s5, .int s6, .ref m7, .ref m8, .ref m9, .int (nI z), .int (nI t), .int s12, .ref m13, .ref m14, .ref m15, .int s16, .ref m17, .ref m18, .ref m19, .ref m20, .ref m21, .ref m22, .ref m23, .ref m24, .ref m25, .ref m26, .ref m27, .ref m28, .int s29, .ref m30, .int s31, .int s32, .int s33, .int s34, .int s35, .ref m36, .ref m37, .ref m38, .ref m39, .long s40])), (m13, ai g 6 K)] := hD
                      refine lv_iinc (v := (nI (u + 1))) (lv' := [(3, .int (nI (u + 1))), (0, .ref k0), (1, .int (nI a)), (2, .int (nI q))]) hx hb dX9_laySets_72 hl (k := 3) rfl (nI_1 _) (by decide) rfl (fun ls hl => ?_)
                      refine lv_goto (tgt := 43) hx hb dX9_laySets_75 (by decide) ?_
                      exact ih43 (u + 1) _ (by omega) (up_s (B := fun v => nI (Ac a q v)) hf3 rfl) (by omega) _ _ _ hP hD hS (lv_sub hl [1, 2, 3, 0] rfl)
                exact loop43 _ 0 _ (Nat.zero_le t) (fun v hv => absurd hv (Nat.not_lt_zero v)) (Nat.lt_succ_self _) _ _ _ hP hD hS (lv_sub hl [1, 2, 3, 0] rfl)
          exact loop31 _ 0 _ _ _ _ _ (Nat.zero_le _) hR1 (fun y h9 => absurd h9 (Nat.not_lt_zero y)) (fun k hk => by rw [pk_un (by omega)]; exact hC1 k hk) (by rw [pk_us]; unfold chR; rw [if_neg hr1]; rfl) (Nat.lt_succ_self _) _ _ _ hP hD hS (lv_sub hl [1, 2, 0] rfl)
  exact loop2 _ 0 fc fh fs Rb Cg (Nat.zero_le z) (fun k h9 => absurd h9 (Nat.not_lt_zero k)) (fun k h9 => absurd h9 (Nat.not_lt_zero k)) (Nat.lt_succ_self _) _ _ _ hP hD hS (lv_sub hl [1, 0] rfl)
def po_X9_weightBy_f (g : GG) (k : Nat) : Int32 → va_W → Prop := fun (r : Int32) w => w = [] ∧ (nI (wg k) = r)
set_option maxHeartbeats 1500000 in
set_option maxRecDepth 100000 in
theorem c_X9_weightBy_f (l : Launch) (g : GG) (k : Nat) (hk : k < 5) (sz : Nat) : MetI l yX9_weightBy wsX9_weightBy ({ frames := 0, cells := 0, slots := 0, locals := 0 }) g [.int (nI k)] [] sz (po_X9_weightBy_f g k) 0 0 := by
  refine k_of (l := l) (y := yX9_weightBy) (ws := wsX9_weightBy) (rm := { frames := 0, cells := 0, slots := 0, locals := 0 }) (mc := 0) (ms := 0) (av := [.int (nI k)]) (g := g) (wc := []) (Qc := fun A => va_Qi (po_X9_weightBy_f g k) (bk g A) A) (cc := cX9_weightBy) (maxL := 1) (ret := (some .int)) (by decide) rfl (Nat.le_of_ble_eq_true rfl) ?_ sz
  intro p e s m below meth c hx hb hr hts hown hlocks hnm hml A hA hE hZ hP hD hS ls hl
  have hown : s.vm.findClass RX9 = some m.cls := hown
  have hl : lv_has ls 1 [(0, .int (nI k))] := hl
  refine lv_iload_n hx hb dX9_weightBy_0 rfl (lv_at hl 0 rfl) ?_
  refine lv_if_ne (tgt := 8) hx hb dX9_weightBy_1 (by decide) (fun c1_1 => ?_) (fun c1_1 => ?_)
  · skip
    refine lv_iload_n hx hb dX9_weightBy_8 rfl (lv_at hl 0 rfl) ?_
    refine lv_iconst (v := 4) hx hb dX9_weightBy_9 (by decide) ?_
    refine lv_icmp_ne (tgt := 17) hx hb dX9_weightBy_10 (by decide) (fun c10_2 => ?_) (fun c10_2 => ?_)
    · skip
      refine lv_iconst (v := 0) hx hb dX9_weightBy_17 (by decide) ?_
      refine W.widen (k := 0) (n := 0) (Nat.le_of_ble_eq_true rfl) (Nat.le_of_ble_eq_true rfl) ?_
      exact k_ri hx hb hr hlocks hS hP hD ⟨rfl, ((wgb k hk).2.2 (fun q9 => c1_1 (by rw [q9]; rfl)) (fun q9 => c10_2 (by rw [q9]; rfl)))⟩ dX9_weightBy_18
    · skip
      refine lv_iconst (v := 2) hx hb dX9_weightBy_13 (by decide) ?_
      refine lv_goto (tgt := 18) hx hb dX9_weightBy_14 (by decide) ?_
      refine W.widen (k := 0) (n := 0) (Nat.le_of_ble_eq_true rfl) (Nat.le_of_ble_eq_true rfl) ?_
      exact k_ri hx hb hr hlocks hS hP hD ⟨rfl, ((wgb k hk).2.1 (fun q9 => c1_1 (by rw [q9]; rfl)) ((nI_eq (b := 4) (by omega) (by decide)).mp c10_2))⟩ dX9_weightBy_18
  · skip
    refine lv_iconst (v := 1) hx hb dX9_weightBy_4 (by decide) ?_
    refine lv_goto (tgt := 18) hx hb dX9_weightBy_5 (by decide) ?_
    refine W.widen (k := 0) (n := 0) (Nat.le_of_ble_eq_true rfl) (Nat.le_of_ble_eq_true rfl) ?_
    exact k_ri hx hb hr hlocks hS hP hD ⟨rfl, ((wgb k hk).1 ((nI_eq (b := 0) (by omega) (by decide)).mp c1_1))⟩ dX9_weightBy_18
def po_X9_layTally_f (g : GG) (k0 : Nat) (m0 : Nat) (s1 : Int32) (s2 : Int32) (s3 : Int32) (s4 : Int32) (s5 : Int32) (s6 : Int32) (m7 : Nat) (m8 : Nat) (m9 : Nat) (s12 : Int32) (m13 : Nat) (m14 : Nat) (m15 : Nat) (s16 : Int32) (m17 : Nat) (m18 : Nat) (m19 : Nat) (m20 : Nat) (m21 : Nat) (m22 : Nat) (m23 : Nat) (m24 : Nat) (m25 : Nat) (m26 : Nat) (m27 : Nat) (m28 : Nat) (s29 : Int32) (m30 : Nat) (s31 : Int32) (s32 : Int32) (s33 : Int32) (s34 : Int32) (s35 : Int32) (m36 : Nat) (m37 : Nat) (m38 : Nat) (m39 : Nat) (s40 : Int64) (z : Nat) (t : Nat) (K : Nat → Int32) (L : Nat → Int32) (V : Nat → Int32) (Rb : Nat → Int32) (Ty : Nat → Int32) (ka : Nat → Nat) (nl : Nat → Nat) (Ac : Nat → Nat → Nat → Nat) (u : Nat) (sd : Nat) (ahd : Nat) : va_W → Prop := fun w => ∃ (Ty2 : Nat → Int32), w = [(k0, .inr (9, [.ref m0, .int s1, .int s2, .int s3, .int s4, .int s5, .int s6, .ref m7, .ref m8, .ref m9, .int (nI z), .int (nI t), .int s12, .ref m13, .ref m14, .ref m15, .int s16, .ref m17, .ref m18, .ref m19, .ref m20, .ref m21, .ref m22, .ref m23, .ref m24, .ref m25, .ref m26, .ref m27, .ref m28, .int s29, .ref m30, .int s31, .int s32, .int s33, .int s34, .int s35, .ref m36, .ref m37, .ref m38, .ref m39, .long s40])), (m13, ai g 6 K), (m14, ai g 6 L), (m15, ai g 96 V), (m20, ai g 168 Rb), (m25, ai g 9 Ty2)] ∧ (TZt z t ka nl Ac (18 * u + 2 * sd + ahd) Ty2)
theorem q_X9_layTally_f_f9 : ∀ w ∈ u_ws RX9 TX9 41, w ∈ wsX9_layTally := by decide +kernel
theorem q_X9_layTally_f_1 : (Cond.fieldLink RX9 147 "SoundLawsModel" "sets" "I") ∈ wsX9_layTally := by decide +kernel
theorem q_X9_layTally_f_2 : (Cond.fieldLink RX9 22 "SoundLawsModel" "kinds" "[I") ∈ wsX9_layTally := by decide +kernel
theorem q_X9_layTally_f_3 : (Cond.fieldLink RX9 25 "SoundLawsModel" "longs" "[I") ∈ wsX9_layTally := by decide +kernel
theorem q_X9_layTally_f_4 : (Cond.fieldLink RX9 55 "SoundLawsModel" "tally" "[I") ∈ wsX9_layTally := by decide +kernel
theorem q_X9_layTally_f_5 : (Cond.fieldLink RX9 28 "SoundLawsModel" "words" "[I") ∈ wsX9_layTally := by decide +kernel
set_option maxHeartbeats 1500000 in
set_option maxRecDepth 100000 in
theorem c_X9_layTally_f (l : Launch) (g : GG) (k0 : Nat) (m0 : Nat) (s1 : Int32) (s2 : Int32) (s3 : Int32) (s4 : Int32) (s5 : Int32) (s6 : Int32) (m7 : Nat) (m8 : Nat) (m9 : Nat) (s12 : Int32) (m13 : Nat) (m14 : Nat) (m15 : Nat) (s16 : Int32) (m17 : Nat) (m18 : Nat) (m19 : Nat) (m20 : Nat) (m21 : Nat) (m22 : Nat) (m23 : Nat) (m24 : Nat) (m25 : Nat) (m26 : Nat) (m27 : Nat) (m28 : Nat) (s29 : Int32) (m30 : Nat) (s31 : Int32) (s32 : Int32) (s33 : Int32) (s34 : Int32) (s35 : Int32) (m36 : Nat) (m37 : Nat) (m38 : Nat) (m39 : Nat) (s40 : Int64) (z : Nat) (t : Nat) (K : Nat → Int32) (L : Nat → Int32) (V : Nat → Int32) (Rb : Nat → Int32) (Ty : Nat → Int32) (ka : Nat → Nat) (nl : Nat → Nat) (Ac : Nat → Nat → Nat → Nat) (u : Nat) (sd : Nat) (ahd : Nat) (hz : z ≤ 6) (hzt : 0 < z → 2 ≤ t) (ht4 : t ≤ 4) (hp : PIC z t K L V ka nl Ac) (hR : SMr z t ka nl Ac Rb) (hu : u < t) (hsd : sd < 9) (hah : ahd < 2) (sz : Nat) : MetV l yX9_layTally wsX9_layTally ({ frames := 2, cells := 0, slots := 0, locals := 43 }) g [.ref k0, .int (nI u), .int (nI sd), .int (nI ahd)] [(k0, .inr (9, [.ref m0, .int s1, .int s2, .int s3, .int s4, .int s5, .int s6, .ref m7, .ref m8, .ref m9, .int (nI z), .int (nI t), .int s12, .ref m13, .ref m14, .ref m15, .int s16, .ref m17, .ref m18, .ref m19, .ref m20, .ref m21, .ref m22, .ref m23, .ref m24, .ref m25, .ref m26, .ref m27, .ref m28, .int s29, .ref m30, .int s31, .int s32, .int s33, .int s34, .int s35, .ref m36, .ref m37, .ref m38, .ref m39, .long s40])), (m13, ai g 6 K), (m14, ai g 6 L), (m15, ai g 96 V), (m20, ai g 168 Rb), (m25, ai g 9 Ty)] sz (po_X9_layTally_f g k0 m0 s1 s2 s3 s4 s5 s6 m7 m8 m9 s12 m13 m14 m15 s16 m17 m18 m19 m20 m21 m22 m23 m24 m25 m26 m27 m28 s29 m30 s31 s32 s33 s34 s35 m36 m37 m38 m39 s40 z t K L V Rb Ty ka nl Ac u sd ahd) 0 0 := by
  refine k_of (l := l) (y := yX9_layTally) (ws := wsX9_layTally) (rm := { frames := 2, cells := 0, slots := 0, locals := 43 }) (mc := 0) (ms := 0) (av := [.ref k0, .int (nI u), .int (nI sd), .int (nI ahd)]) (g := g) (wc := [(k0, .inr (9, [.ref m0, .int s1, .int s2, .int s3, .int s4, .int s5, .int s6, .ref m7, .ref m8, .ref m9, .int (nI z), .int (nI t), .int s12, .ref m13, .ref m14, .ref m15, .int s16, .ref m17, .ref m18, .ref m19, .ref m20, .ref m21, .ref m22, .ref m23, .ref m24, .ref m25, .ref m26, .ref m27, .ref m28, .int s29, .ref m30, .int s31, .int s32, .int s33, .int s34, .int s35, .ref m36, .ref m37, .ref m38, .ref m39, .long s40])), (m13, ai g 6 K), (m14, ai g 6 L), (m15, ai g 96 V), (m20, ai g 168 Rb), (m25, ai g 9 Ty)]) (Qc := fun A => va_Qv (po_X9_layTally_f g k0 m0 s1 s2 s3 s4 s5 s6 m7 m8 m9 s12 m13 m14 m15 s16 m17 m18 m19 m20 m21 m22 m23 m24 m25 m26 m27 m28 s29 m30 s31 s32 s33 s34 s35 m36 m37 m38 m39 s40 z t K L V Rb Ty ka nl Ac u sd ahd) (bk g A) A) (cc := cX9_layTally) (maxL := 7) (ret := none) (by decide) rfl (Nat.le_of_ble_eq_true rfl) ?_ sz
  intro p e s m below meth c hx hb hr hts hown hlocks hnm hml A hA hE hZ hP hD hS ls hl
  have hown : s.vm.findClass RX9 = some m.cls := hown
  have hl : lv_has ls 7 [(0, .ref k0), (1, .int (nI u)), (2, .int (nI sd)), (3, .int (nI ahd))] := hl
  refine lv_iconst (v := 0) hx hb dX9_layTally_0 (by decide) ?_
  refine lv_istore (lv' := [(4, .int 0), (0, .ref k0), (1, .int (nI u)), (2, .int (nI sd)), (3, .int (nI ahd))]) hx hb dX9_layTally_1 hl (by decide) rfl (fun ls hl => ?_)
  have loop3 : ∀ (fu : Nat) (j : Nat) (T1 : Nat → Int32), (hj : j ≤ 9) → (hT1 : ∀ v, v < j → T1 v = 0) → 9 - j < fu → ∀ (H : Heap) (locs : List Loc) (ls : Array Slot), va_P g.1 vwCl [(k0, .inr (9, [.ref m0, .int s1, .int s2, .int s3, .int s4, .int s5, .int s6, .ref m7, .ref m8, .ref m9, .int (nI z), .int (nI t), .int s12, .ref m13, .ref m14, .ref m15, .int s16, .ref m17, .ref m18, .ref m19, .ref m20, .ref m21, .ref m22, .ref m23, .ref m24, .ref m25, .ref m26, .ref m27, .ref m28, .int s29, .ref m30, .int s31, .int s32, .int s33, .int s34, .int s35, .ref m36, .ref m37, .ref m38, .ref m39, .long s40])), (m13, ai g 6 K), (m14, ai g 6 L), (m15, ai g 96 V), (m20, ai g 168 Rb), (m25, ai g 9 T1)] H → va_D A [(k0, .inr (9, [.ref m0, .int s1, .int s2, .int s3, .int s4, .int s5, .int s6, .ref m7, .ref m8, .ref m9, .int (nI z), .int (nI t), .int s12, .ref m13, .ref m14, .ref m15, .int s16, .ref m17, .ref m18, .ref m19, .ref m20, .ref m21, .ref m22, .ref m23, .ref m24, .ref m25, .ref m26, .ref m27, .ref m28, .int s29, .ref m30, .int s31, .int s32, .int s33, .int s34, .int s35, .ref m36, .ref m37, .ref m38, .ref m39, .long s40])), (m13, ai g 6 K), (m14, ai g 6 L), (m15, ai g 96 V), (m20, ai g 168 Rb), (m25, ai g 9 T1)] → va_S A s.heap H locs → lv_has ls 7 [(0, .ref k0), (1, .int (nI u)), (2, .int (nI sd)), (3, .int (nI ahd)), (4, .int (nI j))] → W p l e ({ frames := 2, cells := 0, slots := 0, locals := 43 }) s m [.ref k0, .int (nI u), .int (nI sd), .int (nI ahd)].toArray below meth c H locs 0 0 (MQ below (va_Qv (po_X9_layTally_f g k0 m0 s1 s2 s3 s4 s5 s6 m7 m8 m9 s12 m13 m14 m15 s16 m17 m18 m19 m20 m21 m22 m23 m24 m25 m26 m27 m28 s29 m30 s31 s32 s33 s34 s35 m36 m37 m38 m39 s40 z t K L V Rb Ty ka nl Ac u sd ahd) (bk g A) A) [.ref k0, .int (nI u), .int (nI sd), .int (nI ahd)].toArray s 0 0 A) (F0 m 3 ls []) := by
    intro fu
    induction fu with
    | zero => intro j T1 hj hT1 hfu; exact absurd hfu (Nat.not_lt_zero _)
    | succ fu ih =>
      intro j T1 hj hT1 hfu H locs ls hP hD hS hl
      have ih3 := ih
      refine lv_iload hx hb dX9_layTally_3 (lv_at hl 4 rfl) ?_
      refine lv_bipush (v := 9) hx hb dX9_layTally_5 (by decide) ?_
      refine lv_icmp_ge (tgt := 24) hx hb dX9_layTally_7 (by decide) (fun c7_1 => ?_) (fun c7_1 => ?_)
      · skip
        have hj9 := ge_of_le (k := 9) (n := j) (by decide) (by omega) c7_1
        refine lv_iconst (v := 0) hx hb dX9_layTally_24 (by decide) ?_
        refine lv_istore (lv' := [(4, .int 0), (0, .ref k0), (1, .int (nI u)), (2, .int (nI sd)), (3, .int (nI ahd))]) hx hb dX9_layTally_25 hl (by decide) rfl (fun ls hl => ?_)
        have loop27 : ∀ (fu : Nat) (a : Nat) (T2 : Nat → Int32), (ha : a ≤ z) → (hT2 : TZt a t ka nl Ac (18 * u + 2 * sd + ahd) T2) → z - a < fu → ∀ (H : Heap) (locs : List Loc) (ls : Array Slot), va_P g.1 vwCl [(k0, .inr (9, [.ref m0, .int s1, .int s2, .int s3, .int s4, .int s5, .int s6, .ref m7, .ref m8, .ref m9, .int (nI z), .int (nI t), .int s12, .ref m13, .ref m14, .ref m15, .int s16, .ref m17, .ref m18, .ref m19, .ref m20, .ref m21, .ref m22, .ref m23, .ref m24, .ref m25, .ref m26, .ref m27, .ref m28, .int s29, .ref m30, .int s31, .int s32, .int s33, .int s34, .int s35, .ref m36, .ref m37, .ref m38, .ref m39, .long s40])), (m13, ai g 6 K), (m14, ai g 6 L), (m15, ai g 96 V), (m20, ai g 168 Rb), (m25, ai g 9 T2)] H → va_D A [(k0, .inr (9, [.ref m0, .int s1, .int s2, .int s3, .int s4, .int s5, .int s6, .ref m7, .ref m8, .ref m9, .int (nI z), .int (nI t), .int s12, .ref m13, .ref m14, .ref m15, .int s16, .ref m17, .ref m18, .ref m19, .ref m20, .ref m21, .ref m22, .ref m23, .ref m24, .ref m25, .ref m26, .ref m27, .ref m28, .int s29, .ref m30, .int s31, .int s32, .int s33, .int s34, .int s35, .ref m36, .ref m37, .ref m38, .ref m39, .long s40])), (m13, ai g 6 K), (m14, ai g 6 L), (m15, ai g 96 V), (m20, ai g 168 Rb), (m25, ai g 9 T2)] → va_S A s.heap H locs → lv_has ls 7 [(0, .ref k0), (1, .int (nI u)), (2, .int (nI sd)), (3, .int (nI ahd)), (4, .int (nI a))] → W p l e ({ frames := 2, cells := 0, slots := 0, locals := 43 }) s m [.ref k0, .int (nI u), .int (nI sd), .int (nI ahd)].toArray below meth c H locs 0 0 (MQ below (va_Qv (po_X9_layTally_f g k0 m0 s1 s2 s3 s4 s5 s6 m7 m8 m9 s12 m13 m14 m15 s16 m17 m18 m19 m20 m21 m22 m23 m24 m25 m26 m27 m28 s29 m30 s31 s32 s33 s34 s35 m36 m37 m38 m39 s40 z t K L V Rb Ty ka nl Ac u sd ahd) (bk g A) A) [.ref k0, .int (nI u), .int (nI sd), .int (nI ahd)].toArray s 0 0 A) (F0 m 27 ls []) := by
          intro fu
          induction fu with
          | zero => intro a T2 ha hT2 hfu; exact absurd hfu (Nat.not_lt_zero _)
          | succ fu ih =>
            intro a T2 ha hT2 hfu H locs ls hP hD hS hl
            have ih27 := ih
            refine lv_iload hx hb dX9_layTally_27 (lv_at hl 4 rfl) ?_
            refine lv_aload_n hx hb dX9_layTally_29 rfl (lv_at hl 0 rfl) ?_
            refine va_get (D := g.1) (ci := 9) (v := .int (nI z)) (C := RX9) (T := TX9) (N := 41) hx hb hts q_X9_layTally_f_f9 hown hE.1 hP 0 rfl rfl 10 (by decide) (hts (.fieldLink RX9 147 "SoundLawsModel" "sets" "I") q_X9_layTally_f_1) (fun _ h9 => h9) rfl dX9_layTally_30 ?_
            refine lv_icmp_ge (tgt := 142) hx hb dX9_layTally_33 (by decide) (fun c33_2 => ?_) (fun c33_2 => ?_)
            · skip
              have ha9 := ge_of_le (k := z) (n := a) (by omega) (by omega) c33_2
              refine W.widen (k := 0) (n := 0) (Nat.le_of_ble_eq_true rfl) (Nat.le_of_ble_eq_true rfl) ?_
              exact k_rv hx hb hr hlocks hS hP hD ⟨T2, rfl, (by rw [show z = a by omega]; exact hT2)⟩ dX9_layTally_142
            · skip
              have ha9 := lt_of_nle (k := z) (n := a) (by omega) (by omega) c33_2
              have ht := hzt (by omega)
              obtain ⟨⟨eK, hK5⟩, ⟨eL, hn5⟩, hAk⟩ := hp a ha9
              refine lv_aload_n hx hb dX9_layTally_36 rfl (lv_at hl 0 rfl) ?_
              refine va_get (D := g.1) (ci := 9) (v := .ref m13) (C := RX9) (T := TX9) (N := 41) hx hb hts q_X9_layTally_f_f9 hown hE.1 hP 0 rfl rfl 13 (by decide) (hts (.fieldLink RX9 22 "SoundLawsModel" "kinds" "[I") q_X9_layTally_f_2) (fun _ h9 => h9) rfl dX9_layTally_37 ?_
              refine lv_iload hx hb dX9_layTally_40 (lv_at hl 4 rfl) ?_
              refine k_ald a rfl (by omega) hx hb hE hP 1 rfl (by decide) dX9_layTally_42 ?_
              refine lv_topi (fun x_3 ex_3 => ?_)
              obtain rfl : x_3 = nI (ka a) := by rw [ex_3]; exact eK
              refine k_ci (wr := [(k0, .inr (9, [.ref m0, .int s1, .int s2, .int s3, .int s4, .int s5, .int s6, .ref m7, .ref m8, .ref m9, .int (nI z), .int (nI t), .int s12, .ref m13, .ref m14, .ref m15, .int s16, .ref m17, .ref m18, .ref m19, .ref m20, .ref m21, .ref m22, .ref m23, .ref m24, .ref m25, .ref m26, .ref m27, .ref m28, .int s29, .ref m30, .int s31, .int s32, .int s33, .int s34, .int s35, .ref m36, .ref m37, .ref m38, .ref m39, .long s40])), (m13, ai g 6 K), (m14, ai g 6 L), (m15, ai g 96 V), (m20, ai g 168 Rb), (m25, ai g 9 T2)]) hP hD hS hA [] [0, 1, 2, 3, 4, 5] rfl rfl (by decide) (by decide) (va_runS (As := [.int (nI (ka a))]) (rest := []) ⟨hx, hb, hml, hown, hts⟩ (c_X9_weightBy_f l g (ka a) (by first | assumption | omega) H.size) (va_cwS 1 hts gX9_layTally_X9_weightBy rfl rfl rfl (by decide +kernel) ⟨Nat.le_of_ble_eq_true rfl, Nat.le_of_ble_eq_true rfl⟩) (k_preS hE hZ hP hD hS hA [] rfl (by decide)) rfl rfl hl.1 rfl (lv_room (Nat.le_of_ble_eq_true rfl)) dX9_layTally_43 ⟨Nat.le_of_ble_eq_true rfl, Nat.le_of_ble_eq_true rfl⟩) (fun r_4 w1 H locs hw hP hD hS => ?_)
              obtain ⟨rfl, rfl⟩ := hw
              have hP : va_P g.1 vwCl [(k0, .inr (9, [.ref m0, .int s1, .int s2, .int s3, .int s4, .int s5, .int s6, .ref m7, .ref m8, .ref m9, .int (nI z), .int (nI t), .int s12, .ref m13, .ref m14, .ref m15, .int s16, .ref m17, .ref m18, .ref m19, .ref m20, .ref m21, .ref m22, .ref m23, .ref m24, .ref m25, .ref m26, .ref m27, .ref m28, .int s29, .ref m30, .int s31, .int s32, .int s33, .int s34, .int s35, .ref m36, .ref m37, .ref m38, .ref m39, .long s40])), (m13, ai g 6 K), (m14, ai g 6 L), (m15, ai g 96 V), (m20, ai g 168 Rb), (m25, ai g 9 T2)] H := hP
              have hD : va_D A [(k0, .inr (9, [.ref m0, .int s1, .int s2, .int s3, .int s4, .int s5, .int s6, .ref m7, .ref m8, .ref m9, .int (nI z), .int (nI t), .int s12, .ref m13, .ref m14, .ref m15, .int s16, .ref m17, .ref m18, .ref m19, .ref m20, .ref m21, .ref m22, .ref m23, .ref m24, .ref m25, .ref m26, .ref m27, .ref m28, .int s29, .ref m30, .int s31, .int s32, .int s33, .int s34, .int s35, .ref m36, .ref m37, .ref m38, .ref m39, .long s40])), (m13, ai g 6 K), (m14, ai g 6 L), (m15, ai g 96 V), (m20, ai g 168 Rb), (m25, ai g 9 T2)] := hD
              refine lv_istore (lv' := [(5, .int (nI (wg (ka a)))), (0, .ref k0), (1, .int (nI u)), (2, .int (nI sd)), (3, .int (nI ahd)), (4, .int (nI a))]) hx hb dX9_layTally_46 hl (by decide) rfl (fun ls hl => ?_)
              refine lv_iconst (v := 0) hx hb dX9_layTally_48 (by decide) ?_
              refine lv_istore (lv' := [(6, .int 0), (5, .int (nI (wg (ka a)))), (0, .ref k0), (1, .int (nI u)), (2, .int (nI sd)), (3, .int (nI ahd)), (4, .int (nI a))]) hx hb dX9_layTally_49 hl (by decide) rfl (fun ls hl => ?_)
              have loop51 : ∀ (fu : Nat) (q : Nat) (T3 : Nat → Int32), (hq : q ≤ nl a) → (hT3 : TQt a q t ka nl Ac (18 * u + 2 * sd + ahd) T3) → nl a - q < fu → ∀ (H : Heap) (locs : List Loc) (ls : Array Slot), va_P g.1 vwCl [(k0, .inr (9, [.ref m0, .int s1, .int s2, .int s3, .int s4, .int s5, .int s6, .ref m7, .ref m8, .ref m9, .int (nI z), .int (nI t), .int s12, .ref m13, .ref m14, .ref m15, .int s16, .ref m17, .ref m18, .ref m19, .ref m20, .ref m21, .ref m22, .ref m23, .ref m24, .ref m25, .ref m26, .ref m27, .ref m28, .int s29, .ref m30, .int s31, .int s32, .int s33, .int s34, .int s35, .ref m36, .ref m37, .ref m38, .ref m39, .long s40])), (m13, ai g 6 K), (m14, ai g 6 L), (m15, ai g 96 V), (m20, ai g 168 Rb), (m25, ai g 9 T3)] H → va_D A [(k0, .inr (9, [.ref m0, .int s1, .int s2, .int s3, .int s4, .int s5, .int s6, .ref m7, .ref m8, .ref m9, .int (nI z), .int (nI t), .int s12, .ref m13, .ref m14, .ref m15, .int s16, .ref m17, .ref m18, .ref m19, .ref m20, .ref m21, .ref m22, .ref m23, .ref m24, .ref m25, .ref m26, .ref m27, .ref m28, .int s29, .ref m30, .int s31, .int s32, .int s33, .int s34, .int s35, .ref m36, .ref m37, .ref m38, .ref m39, .long s40])), (m13, ai g 6 K), (m14, ai g 6 L), (m15, ai g 96 V), (m20, ai g 168 Rb), (m25, ai g 9 T3)] → va_S A s.heap H locs → lv_has ls 7 [(0, .ref k0), (1, .int (nI u)), (2, .int (nI sd)), (3, .int (nI ahd)), (4, .int (nI a)), (5, .int (nI (wg (ka a)))), (6, .int (nI q))] → W p l e ({ frames := 2, cells := 0, slots := 0, locals := 43 }) s m [.ref k0, .int (nI u), .int (nI sd), .int (nI ahd)].toArray below meth c H locs 0 0 (MQ below (va_Qv (po_X9_layTally_f g k0 m0 s1 s2 s3 s4 s5 s6 m7 m8 m9 s12 m13 m14 m15 s16 m17 m18 m19 m20 m21 m22 m23 m24 m25 m26 m27 m28 s29 m30 s31 s32 s33 s34 s35 m36 m37 m38 m39 s40 z t K L V Rb Ty ka nl Ac u sd ahd) (bk g A) A) [.ref k0, .int (nI u), .int (nI sd), .int (nI ahd)].toArray s 0 0 A) (F0 m 51 ls []) := by
                intro fu
                induction fu with
                | zero => intro q T3 hq hT3 hfu; exact absurd hfu (Nat.not_lt_zero _)
                | succ fu ih =>
                  intro q T3 hq hT3 hfu H locs ls hP hD hS hl
                  have ih51 := ih
                  refine lv_iload hx hb dX9_layTally_51 (lv_at hl 6 rfl) ?_
                  refine lv_aload_n hx hb dX9_layTally_53 rfl (lv_at hl 0 rfl) ?_
                  refine va_get (D := g.1) (ci := 9) (v := .ref m14) (C := RX9) (T := TX9) (N := 41) hx hb hts q_X9_layTally_f_f9 hown hE.1 hP 0 rfl rfl 14 (by decide) (hts (.fieldLink RX9 25 "SoundLawsModel" "longs" "[I") q_X9_layTally_f_3) (fun _ h9 => h9) rfl dX9_layTally_54 ?_
                  refine lv_iload hx hb dX9_layTally_57 (lv_at hl 4 rfl) ?_
                  refine k_ald a rfl (by omega) hx hb hE hP 2 rfl (by decide) dX9_layTally_59 ?_
                  refine lv_topi (fun x_6 ex_6 => ?_)
                  obtain rfl : x_6 = nI (nl a) := by rw [ex_6]; exact eL
                  refine lv_icmp_ge (tgt := 136) hx hb dX9_layTally_60 (by decide) (fun c60_7 => ?_) (fun c60_7 => ?_)
                  · skip
                    have hq9 := ge_of_le (k := nl a) (n := q) (by omega) (by omega) c60_7
                    have hqn : q = nl a := by omega
                    refine lv_iinc (v := (nI (a + 1))) (lv' := [(4, .int (nI (a + 1))), (0, .ref k0), (1, .int (nI u)), (2, .int (nI sd)), (3, .int (nI ahd)), (5, .int (nI (wg (ka a)))), (6, .int (nI q))]) hx hb dX9_layTally_136 hl (k := 4) rfl (nI_1 _) (by decide) rfl (fun ls hl => ?_)
                    refine lv_goto (tgt := 27) hx hb dX9_layTally_139 (by decide) ?_
                    exact ih27 (a + 1) _ (by omega) (TQ_end hT3 (Or.inl hqn)) (by omega) _ _ _ hP hD hS (lv_sub hl [1, 2, 3, 4, 0] rfl)
                  · skip
                    have hq9 := lt_of_nle (k := nl a) (n := q) (by omega) (by omega) c60_7
                    have hac := (hAk q hq9 u hu).2
                    have hor := OR_lt (t := t) (a := Ac a q)
                    refine lv_iload hx hb dX9_layTally_63 (lv_at hl 5 rfl) ?_
                    refine lv_if_le (tgt := 136) hx hb dX9_layTally_65 (by decide) (fun c65_8 => ?_) (fun c65_8 => ?_)
                    · skip
                      have hw0 := wg_le (ka a) hK5 c65_8
                      refine lv_iinc (v := (nI (a + 1))) (lv' := [(4, .int (nI (a + 1))), (0, .ref k0), (1, .int (nI u)), (2, .int (nI sd)), (3, .int (nI ahd)), (5, .int (nI (wg (ka a)))), (6, .int (nI q))]) hx hb dX9_layTally_136 hl (k := 4) rfl (nI_1 _) (by decide) rfl (fun ls hl => ?_)
                      refine lv_goto (tgt := 27) hx hb dX9_layTally_139 (by decide) ?_
                      exact ih27 (a + 1) _ (by omega) (TQ_end hT3 (Or.inr hw0)) (by omega) _ _ _ hP hD hS (lv_sub hl [1, 2, 3, 4, 0] rfl)
                    · skip
                      have hw1 : ¬ wg (ka a) = 0 := fun q9 => c65_8 (by rw [q9]; decide)
                      refine lv_iload hx hb dX9_layTally_68 (lv_at hl 6 rfl) ?_
                      refine lv_if_ne (tgt := 77) hx hb dX9_layTally_70 (by decide) (fun c70_9 => ?_) (fun c70_9 => ?_)
                      · skip
                        refine lv_iconst (v := 0) hx hb dX9_layTally_77 (by decide) ?_
                        refine lv_iload_n hx hb dX9_layTally_78 rfl (lv_at hl 3 rfl) ?_
                        refine lv_iconst (v := 1) hx hb dX9_layTally_79 (by decide) ?_
                        refine lv_icmp_ne (tgt := 87) hx hb dX9_layTally_80 (by decide) (fun c80_10 => ?_) (fun c80_10 => ?_)
                        · skip
                          refine lv_iconst (v := 0) hx hb dX9_layTally_87 (by decide) ?_
                          refine lv_icmp_ne (tgt := 130) hx hb dX9_layTally_88 (by decide) (fun c88_11 => ?_) (fun c88_11 => ?_)
                          · exact absurd c88_11 (by decide)
                          · skip
                            refine lv_aload_n hx hb dX9_layTally_91 rfl (lv_at hl 0 rfl) ?_
                            refine lv_iload hx hb dX9_layTally_92 (lv_at hl 4 rfl) ?_
                            refine lv_iload hx hb dX9_layTally_94 (lv_at hl 6 rfl) ?_
                            refine k_ci (wr := [(m13, ai g 6 K), (m14, ai g 6 L), (m15, ai g 96 V), (m25, ai g 9 T3)]) hP hD hS hA [0, 4] [1, 2, 3, 5] rfl rfl (by decide) (by decide) (va_runV (As := [.int (nI a), .int (nI q)]) (rest := []) ⟨hx, hb, hml, hown, hts⟩ (c_X9_oldSound_g l g k0 m0 s1 s2 s3 s4 s5 s6 m7 m8 m9 (nI z) s12 m13 m14 m15 s16 m17 m18 m19 m20 m21 m22 m23 m24 m25 m26 m27 m28 s29 m30 s31 s32 s33 s34 s35 m36 m37 m38 m39 s40 t Rb a q (by first | assumption | omega) (by first | assumption | omega) (by first | assumption | omega) (by first | assumption | omega) H.size) (cwV 2 hts gX9_layTally_X9_oldSound rfl rfl rfl (by decide +kernel) ⟨Nat.le_of_ble_eq_true rfl, Nat.le_of_ble_eq_true rfl⟩) (k_preV hE hZ hP hD hS hA [0, 4] rfl (by decide) (va_recv hE.1 hP (ci := 9) (q0 := 0) rfl rfl)) rfl rfl hl.1 rfl (lv_room (Nat.le_of_ble_eq_true rfl)) dX9_layTally_96 ⟨Nat.le_of_ble_eq_true rfl, Nat.le_of_ble_eq_true rfl⟩) (fun r_12 w1 H locs hw hP hD hS => ?_)
                            obtain ⟨rfl, rfl⟩ := hw
                            have hP : va_P g.1 vwCl [(m13, ai g 6 K), (m14, ai g 6 L), (m15, ai g 96 V), (m25, ai g 9 T3), (k0, .inr (9, [.ref m0, .int s1, .int s2, .int s3, .int s4, .int s5, .int s6, .ref m7, .ref m8, .ref m9, .int (nI z), .int (nI t), .int s12, .ref m13, .ref m14, .ref m15, .int s16, .ref m17, .ref m18, .ref m19, .ref m20, .ref m21, .ref m22, .ref m23, .ref m24, .ref m25, .ref m26, .ref m27, .ref m28, .int s29, .ref m30, .int s31, .int s32, .int s33, .int s34, .int s35, .ref m36, .ref m37, .ref m38, .ref m39, .long s40])), (m20, ai g 168 Rb)] H := hP
                            have hD : va_D A [(m13, ai g 6 K), (m14, ai g 6 L), (m15, ai g 96 V), (m25, ai g 9 T3), (k0, .inr (9, [.ref m0, .int s1, .int s2, .int s3, .int s4, .int s5, .int s6, .ref m7, .ref m8, .ref m9, .int (nI z), .int (nI t), .int s12, .ref m13, .ref m14, .ref m15, .int s16, .ref m17, .ref m18, .ref m19, .ref m20, .ref m21, .ref m22, .ref m23, .ref m24, .ref m25, .ref m26, .ref m27, .ref m28, .int s29, .ref m30, .int s31, .int s32, .int s33, .int s34, .int s35, .ref m36, .ref m37, .ref m38, .ref m39, .long s40])), (m20, ai g 168 Rb)] := hD
                            refine lv_topi (fun x_14 ex_14 => ?_)
                            obtain rfl : x_14 = nI (OR t (Ac a q)) := by rw [ex_14]; exact SM_old ht hR ha9 (wg_rb (ka a) hK5 hw1) hq9
                            refine lv_iload_n hx hb dX9_layTally_99 rfl (lv_at hl 2 rfl) ?_
                            refine lv_icmp_ne (tgt := 130) hx hb dX9_layTally_100 (by decide) (fun c100_15 => ?_) (fun c100_15 => ?_)
                            · skip
                              refine lv_iinc (v := (nI (q + 1))) (lv' := [(6, .int (nI (q + 1))), (0, .ref k0), (1, .int (nI u)), (2, .int (nI sd)), (3, .int (nI ahd)), (4, .int (nI a)), (5, .int (nI (wg (ka a))))]) hx hb dX9_layTally_130 hl (k := 6) rfl (nI_1 _) (by decide) rfl (fun ls hl => ?_)
                              refine lv_goto (tgt := 51) hx hb dX9_layTally_133 (by decide) ?_
                              exact ih51 (q + 1) _ (by omega) (TQ_no (fun i hi => (hAk q hq9 i hi).2) hsd hah (Or.inr (fun w => c100_15 (by rw [w]))) hT3) (by omega) _ _ _ (hP.sub [4, 0, 1, 2, 5, 3] rfl) (hD.sub [4, 0, 1, 2, 5, 3] (by decide) rfl) hS (lv_sub hl [1, 2, 3, 4, 5, 6, 0] rfl)
                            · skip
                              refine lv_aload_n hx hb dX9_layTally_103 rfl (lv_at hl 0 rfl) ?_
                              refine va_get (D := g.1) (ci := 9) (v := .ref m25) (C := RX9) (T := TX9) (N := 41) hx hb hts q_X9_layTally_f_f9 hown hE.1 hP 4 rfl rfl 25 (by decide) (hts (.fieldLink RX9 55 "SoundLawsModel" "tally" "[I") q_X9_layTally_f_4) (fun _ h9 => h9) rfl dX9_layTally_104 ?_
                              refine lv_aload_n hx hb dX9_layTally_107 rfl (lv_at hl 0 rfl) ?_
                              refine va_get (D := g.1) (ci := 9) (v := .ref m15) (C := RX9) (T := TX9) (N := 41) hx hb hts q_X9_layTally_f_f9 hown hE.1 hP 4 rfl rfl 15 (by decide) (hts (.fieldLink RX9 28 "SoundLawsModel" "words" "[I") q_X9_layTally_f_5) (fun _ h9 => h9) rfl dX9_layTally_108 ?_
                              refine lv_bipush (v := 16) hx hb dX9_layTally_111 (by decide) ?_
                              refine lv_iload hx hb dX9_layTally_113 (lv_at hl 4 rfl) ?_
                              refine lv_imul hx hb dX9_layTally_115 ?_
                              refine lv_iconst (v := 4) hx hb dX9_layTally_116 (by decide) ?_
                              refine lv_iload_n hx hb dX9_layTally_117 rfl (lv_at hl 1 rfl) ?_
                              refine lv_imul hx hb dX9_layTally_118 ?_
                              refine lv_iadd hx hb dX9_layTally_119 ?_
                              refine lv_iload hx hb dX9_layTally_120 (lv_at hl 6 rfl) ?_
                              refine lv_iadd hx hb dX9_layTally_122 ?_
                              refine k_ald (16 * a + 4 * u + q) (by rw [show (16 : Int32) = nI 16 from rfl, show (4 : Int32) = nI 4 from rfl, pk_mul, pk_mul, nI_add, nI_add]) (by omega) hx hb hE hP 2 rfl (by decide) dX9_layTally_123 ?_
                              refine lv_topi (fun x_16 ex_16 => ?_)
                              obtain rfl : x_16 = nI (Ac a q u) := by rw [ex_16]; exact (hAk q hq9 u hu).1
                              refine lv_dup2_11 hx hb dX9_layTally_124 rfl rfl ?_
                              refine k_ald (Ac a q u) rfl (by omega) hx hb hE hP 3 rfl (by decide) dX9_layTally_125 ?_
                              refine lv_iload hx hb dX9_layTally_126 (lv_at hl 5 rfl) ?_
                              refine lv_iadd hx hb dX9_layTally_128 ?_
                              refine lv_topi (fun xt ext => ?_)
                              refine k_ast (x := xt) (Ac a q u) rfl (by omega) hx hb hE hP hD hS 3 rfl (by decide) dX9_layTally_129 (fun H locs hP hD hS => ?_)
                              have hP : va_P g.1 vwCl [(m13, ai g 6 K), (m14, ai g 6 L), (m15, ai g 96 V), (m25, ai g 9 (upd T3 (Ac a q u) xt)), (k0, .inr (9, [.ref m0, .int s1, .int s2, .int s3, .int s4, .int s5, .int s6, .ref m7, .ref m8, .ref m9, .int (nI z), .int (nI t), .int s12, .ref m13, .ref m14, .ref m15, .int s16, .ref m17, .ref m18, .ref m19, .ref m20, .ref m21, .ref m22, .ref m23, .ref m24, .ref m25, .ref m26, .ref m27, .ref m28, .int s29, .ref m30, .int s31, .int s32, .int s33, .int s34, .int s35, .ref m36, .ref m37, .ref m38, .ref m39, .long s40])), (m20, ai g 168 Rb)] H := hP
                              have hD : va_D A [(m13, ai g 6 K), (m14, ai g 6 L), (m15, ai g 96 V), (m25, ai g 9 (upd T3 (Ac a q u) xt)), (k0, .inr (9, [.ref m0, .int s1, .int s2, .int s3, .int s4, .int s5, .int s6, .ref m7, .ref m8, .ref m9, .int (nI z), .int (nI t), .int s12, .ref m13, .ref m14, .ref m15, .int s16, .ref m17, .ref m18, .ref m19, .ref m20, .ref m21, .ref m22, .ref m23, .ref m24, .ref m25, .ref m26, .ref m27, .ref m28, .int s29, .ref m30, .int s31, .int s32, .int s33, .int s34, .int s35, .ref m36, .ref m37, .ref m38, .ref m39, .long s40])), (m20, ai g 168 Rb)] := hD
                              refine lv_iinc (v := (nI (q + 1))) (lv' := [(6, .int (nI (q + 1))), (0, .ref k0), (1, .int (nI u)), (2, .int (nI sd)), (3, .int (nI ahd)), (4, .int (nI a)), (5, .int (nI (wg (ka a))))]) hx hb dX9_layTally_130 hl (k := 6) rfl (nI_1 _) (by decide) rfl (fun ls hl => ?_)
                              refine lv_goto (tgt := 51) hx hb dX9_layTally_133 (by decide) ?_
                              exact ih51 (q + 1) _ (by omega) (TQ_hit hu (fun i hi => (hAk q hq9 i hi).2) hsd hah ((ah_1 (fun q9 => c70_9 (by rw [q9]; rfl))).trans (by have w9 : ¬ ahd = 1 := (fun q9 => c80_10 (by rw [q9]; rfl)); omega)) ((nI_eq (by omega) (by omega)).mp c100_15) hT3 ext) (by omega) _ _ _ (hP.sub [4, 0, 1, 2, 5, 3] rfl) (hD.sub [4, 0, 1, 2, 5, 3] (by decide) rfl) hS (lv_sub hl [1, 2, 3, 4, 5, 6, 0] rfl)
                        · skip
                          refine lv_iconst (v := 1) hx hb dX9_layTally_83 (by decide) ?_
                          refine lv_goto (tgt := 88) hx hb dX9_layTally_84 (by decide) ?_
                          refine lv_icmp_ne (tgt := 130) hx hb dX9_layTally_88 (by decide) (fun c88_17 => ?_) (fun c88_17 => ?_)
                          · skip
                            refine lv_iinc (v := (nI (q + 1))) (lv' := [(6, .int (nI (q + 1))), (0, .ref k0), (1, .int (nI u)), (2, .int (nI sd)), (3, .int (nI ahd)), (4, .int (nI a)), (5, .int (nI (wg (ka a))))]) hx hb dX9_layTally_130 hl (k := 6) rfl (nI_1 _) (by decide) rfl (fun ls hl => ?_)
                            refine lv_goto (tgt := 51) hx hb dX9_layTally_133 (by decide) ?_
                            exact ih51 (q + 1) _ (by omega) (TQ_no (fun i hi => (hAk q hq9 i hi).2) hsd hah (Or.inl (fun w => absurd ((ah_1 (fun q9 => c70_9 (by rw [q9]; rfl))).symm.trans (w.trans ((nI_eq (b := 1) (by omega) (by decide)).mp c80_10))) (by decide))) hT3) (by omega) _ _ _ hP hD hS (lv_sub hl [1, 2, 3, 4, 5, 6, 0] rfl)
                          · exact absurd c88_17 (by decide)
                      · skip
                        refine lv_iconst (v := 1) hx hb dX9_layTally_73 (by decide) ?_
                        refine lv_goto (tgt := 78) hx hb dX9_layTally_74 (by decide) ?_
                        refine lv_iload_n hx hb dX9_layTally_78 rfl (lv_at hl 3 rfl) ?_
                        refine lv_iconst (v := 1) hx hb dX9_layTally_79 (by decide) ?_
                        refine lv_icmp_ne (tgt := 87) hx hb dX9_layTally_80 (by decide) (fun c80_18 => ?_) (fun c80_18 => ?_)
                        · skip
                          refine lv_iconst (v := 0) hx hb dX9_layTally_87 (by decide) ?_
                          refine lv_icmp_ne (tgt := 130) hx hb dX9_layTally_88 (by decide) (fun c88_19 => ?_) (fun c88_19 => ?_)
                          · skip
                            refine lv_iinc (v := (nI (q + 1))) (lv' := [(6, .int (nI (q + 1))), (0, .ref k0), (1, .int (nI u)), (2, .int (nI sd)), (3, .int (nI ahd)), (4, .int (nI a)), (5, .int (nI (wg (ka a))))]) hx hb dX9_layTally_130 hl (k := 6) rfl (nI_1 _) (by decide) rfl (fun ls hl => ?_)
                            refine lv_goto (tgt := 51) hx hb dX9_layTally_133 (by decide) ?_
                            exact ih51 (q + 1) _ (by omega) (TQ_no (fun i hi => (hAk q hq9 i hi).2) hsd hah (Or.inl (fun w => (fun q9 => c80_18 (by rw [q9]; rfl)) ((ah_0 ((nI_eq (b := 0) (by omega) (by decide)).mp c70_9)).symm.trans w).symm)) hT3) (by omega) _ _ _ hP hD hS (lv_sub hl [1, 2, 3, 4, 5, 6, 0] rfl)
                          · exact absurd c88_19 (by decide)
                        · skip
                          refine lv_iconst (v := 1) hx hb dX9_layTally_83 (by decide) ?_
                          refine lv_goto (tgt := 88) hx hb dX9_layTally_84 (by decide) ?_
                          refine lv_icmp_ne (tgt := 130) hx hb dX9_layTally_88 (by decide) (fun c88_20 => ?_) (fun c88_20 => ?_)
                          · exact absurd c88_20 (by decide)
                          · skip
                            refine lv_aload_n hx hb dX9_layTally_91 rfl (lv_at hl 0 rfl) ?_
                            refine lv_iload hx hb dX9_layTally_92 (lv_at hl 4 rfl) ?_
                            refine lv_iload hx hb dX9_layTally_94 (lv_at hl 6 rfl) ?_
                            refine k_ci (wr := [(m13, ai g 6 K), (m14, ai g 6 L), (m15, ai g 96 V), (m25, ai g 9 T3)]) hP hD hS hA [0, 4] [1, 2, 3, 5] rfl rfl (by decide) (by decide) (va_runV (As := [.int (nI a), .int (nI q)]) (rest := []) ⟨hx, hb, hml, hown, hts⟩ (c_X9_oldSound_g l g k0 m0 s1 s2 s3 s4 s5 s6 m7 m8 m9 (nI z) s12 m13 m14 m15 s16 m17 m18 m19 m20 m21 m22 m23 m24 m25 m26 m27 m28 s29 m30 s31 s32 s33 s34 s35 m36 m37 m38 m39 s40 t Rb a q (by first | assumption | omega) (by first | assumption | omega) (by first | assumption | omega) (by first | assumption | omega) H.size) (cwV 2 hts gX9_layTally_X9_oldSound rfl rfl rfl (by decide +kernel) ⟨Nat.le_of_ble_eq_true rfl, Nat.le_of_ble_eq_true rfl⟩) (k_preV hE hZ hP hD hS hA [0, 4] rfl (by decide) (va_recv hE.1 hP (ci := 9) (q0 := 0) rfl rfl)) rfl rfl hl.1 rfl (lv_room (Nat.le_of_ble_eq_true rfl)) dX9_layTally_96 ⟨Nat.le_of_ble_eq_true rfl, Nat.le_of_ble_eq_true rfl⟩) (fun r_21 w1 H locs hw hP hD hS => ?_)
                            obtain ⟨rfl, rfl⟩ := hw
                            have hP : va_P g.1 vwCl [(m13, ai g 6 K), (m14, ai g 6 L), (m15, ai g 96 V), (m25, ai g 9 T3), (k0, .inr (9, [.ref m0, .int s1, .int s2, .int s3, .int s4, .int s5, .int s6, .ref m7, .ref m8, .ref m9, .int (nI z), .int (nI t), .int s12, .ref m13, .ref m14, .ref m15, .int s16, .ref m17, .ref m18, .ref m19, .ref m20, .ref m21, .ref m22, .ref m23, .ref m24, .ref m25, .ref m26, .ref m27, .ref m28, .int s29, .ref m30, .int s31, .int s32, .int s33, .int s34, .int s35, .ref m36, .ref m37, .ref m38, .ref m39, .long s40])), (m20, ai g 168 Rb)] H := hP
                            have hD : va_D A [(m13, ai g 6 K), (m14, ai g 6 L), (m15, ai g 96 V), (m25, ai g 9 T3), (k0, .inr (9, [.ref m0, .int s1, .int s2, .int s3, .int s4, .int s5, .int s6, .ref m7, .ref m8, .ref m9, .int (nI z), .int (nI t), .int s12, .ref m13, .ref m14, .ref m15, .int s16, .ref m17, .ref m18, .ref m19, .ref m20, .ref m21, .ref m22, .ref m23, .ref m24, .ref m25, .ref m26, .ref m27, .ref m28, .int s29, .ref m30, .int s31, .int s32, .int s33, .int s34, .int s35, .ref m36, .ref m37, .ref m38, .ref m39, .long s40])), (m20, ai g 168 Rb)] := hD
                            refine lv_topi (fun x_23 ex_23 => ?_)
                            obtain rfl : x_23 = nI (OR t (Ac a q)) := by rw [ex_23]; exact SM_old ht hR ha9 (wg_rb (ka a) hK5 hw1) hq9
                            refine lv_iload_n hx hb dX9_layTally_99 rfl (lv_at hl 2 rfl) ?_
                            refine lv_icmp_ne (tgt := 130) hx hb dX9_layTally_100 (by decide) (fun c100_24 => ?_) (fun c100_24 => ?_)
                            · skip
                              refine lv_iinc (v := (nI (q + 1))) (lv' := [(6, .int (nI (q + 1))), (0, .ref k0), (1, .int (nI u)), (2, .int (nI sd)), (3, .int (nI ahd)), (4, .int (nI a)), (5, .int (nI (wg (ka a))))]) hx hb dX9_layTally_130 hl (k := 6) rfl (nI_1 _) (by decide) rfl (fun ls hl => ?_)
                              refine lv_goto (tgt := 51) hx hb dX9_layTally_133 (by decide) ?_
                              exact ih51 (q + 1) _ (by omega) (TQ_no (fun i hi => (hAk q hq9 i hi).2) hsd hah (Or.inr (fun w => c100_24 (by rw [w]))) hT3) (by omega) _ _ _ (hP.sub [4, 0, 1, 2, 5, 3] rfl) (hD.sub [4, 0, 1, 2, 5, 3] (by decide) rfl) hS (lv_sub hl [1, 2, 3, 4, 5, 6, 0] rfl)
                            · skip
                              refine lv_aload_n hx hb dX9_layTally_103 rfl (lv_at hl 0 rfl) ?_
                              refine va_get (D := g.1) (ci := 9) (v := .ref m25) (C := RX9) (T := TX9) (N := 41) hx hb hts q_X9_layTally_f_f9 hown hE.1 hP 4 rfl rfl 25 (by decide) (hts (.fieldLink RX9 55 "SoundLawsModel" "tally" "[I") q_X9_layTally_f_4) (fun _ h9 => h9) rfl dX9_layTally_104 ?_
                              refine lv_aload_n hx hb dX9_layTally_107 rfl (lv_at hl 0 rfl) ?_
                              refine va_get (D := g.1) (ci := 9) (v := .ref m15) (C := RX9) (T := TX9) (N := 41) hx hb hts q_X9_layTally_f_f9 hown hE.1 hP 4 rfl rfl 15 (by decide) (hts (.fieldLink RX9 28 "SoundLawsModel" "words" "[I") q_X9_layTally_f_5) (fun _ h9 => h9) rfl dX9_layTally_108 ?_
                              refine lv_bipush (v := 16) hx hb dX9_layTally_111 (by decide) ?_
                              refine lv_iload hx hb dX9_layTally_113 (lv_at hl 4 rfl) ?_
                              refine lv_imul hx hb dX9_layTally_115 ?_
                              refine lv_iconst (v := 4) hx hb dX9_layTally_116 (by decide) ?_
                              refine lv_iload_n hx hb dX9_layTally_117 rfl (lv_at hl 1 rfl) ?_
                              refine lv_imul hx hb dX9_layTally_118 ?_
                              refine lv_iadd hx hb dX9_layTally_119 ?_
                              refine lv_iload hx hb dX9_layTally_120 (lv_at hl 6 rfl) ?_
                              refine lv_iadd hx hb dX9_layTally_122 ?_
                              refine k_ald (16 * a + 4 * u + q) (by rw [show (16 : Int32) = nI 16 from rfl, show (4 : Int32) = nI 4 from rfl, pk_mul, pk_mul, nI_add, nI_add]) (by omega) hx hb hE hP 2 rfl (by decide) dX9_layTally_123 ?_
                              refine lv_topi (fun x_25 ex_25 => ?_)
                              obtain rfl : x_25 = nI (Ac a q u) := by rw [ex_25]; exact (hAk q hq9 u hu).1
                              refine lv_dup2_11 hx hb dX9_layTally_124 rfl rfl ?_
                              refine k_ald (Ac a q u) rfl (by omega) hx hb hE hP 3 rfl (by decide) dX9_layTally_125 ?_
                              refine lv_iload hx hb dX9_layTally_126 (lv_at hl 5 rfl) ?_
                              refine lv_iadd hx hb dX9_layTally_128 ?_
                              refine lv_topi (fun xt ext => ?_)
                              refine k_ast (x := xt) (Ac a q u) rfl (by omega) hx hb hE hP hD hS 3 rfl (by decide) dX9_layTally_129 (fun H locs hP hD hS => ?_)
                              have hP : va_P g.1 vwCl [(m13, ai g 6 K), (m14, ai g 6 L), (m15, ai g 96 V), (m25, ai g 9 (upd T3 (Ac a q u) xt)), (k0, .inr (9, [.ref m0, .int s1, .int s2, .int s3, .int s4, .int s5, .int s6, .ref m7, .ref m8, .ref m9, .int (nI z), .int (nI t), .int s12, .ref m13, .ref m14, .ref m15, .int s16, .ref m17, .ref m18, .ref m19, .ref m20, .ref m21, .ref m22, .ref m23, .ref m24, .ref m25, .ref m26, .ref m27, .ref m28, .int s29, .ref m30, .int s31, .int s32, .int s33, .int s34, .int s35, .ref m36, .ref m37, .ref m38, .ref m39, .long s40])), (m20, ai g 168 Rb)] H := hP
                              have hD : va_D A [(m13, ai g 6 K), (m14, ai g 6 L), (m15, ai g 96 V), (m25, ai g 9 (upd T3 (Ac a q u) xt)), (k0, .inr (9, [.ref m0, .int s1, .int s2, .int s3, .int s4, .int s5, .int s6, .ref m7, .ref m8, .ref m9, .int (nI z), .int (nI t), .int s12, .ref m13, .ref m14, .ref m15, .int s16, .ref m17, .ref m18, .ref m19, .ref m20, .ref m21, .ref m22, .ref m23, .ref m24, .ref m25, .ref m26, .ref m27, .ref m28, .int s29, .ref m30, .int s31, .int s32, .int s33, .int s34, .int s35, .ref m36, .ref m37, .ref m38, .ref m39, .long s40])), (m20, ai g 168 Rb)] := hD
                              refine lv_iinc (v := (nI (q + 1))) (lv' := [(6, .int (nI (q + 1))), (0, .ref k0), (1, .int (nI u)), (2, .int (nI sd)), (3, .int (nI ahd)), (4, .int (nI a)), (5, .int (nI (wg (ka a))))]) hx hb dX9_layTally_130 hl (k := 6) rfl (nI_1 _) (by decide) rfl (fun ls hl => ?_)
                              refine lv_goto (tgt := 51) hx hb dX9_layTally_133 (by decide) ?_
                              exact ih51 (q + 1) _ (by omega) (TQ_hit hu (fun i hi => (hAk q hq9 i hi).2) hsd hah ((ah_0 ((nI_eq (b := 0) (by omega) (by decide)).mp c70_9)).trans ((nI_eq (b := 1) (by omega) (by decide)).mp c80_18).symm) ((nI_eq (by omega) (by omega)).mp c100_24) hT3 ext) (by omega) _ _ _ (hP.sub [4, 0, 1, 2, 5, 3] rfl) (hD.sub [4, 0, 1, 2, 5, 3] (by decide) rfl) hS (lv_sub hl [1, 2, 3, 4, 5, 6, 0] rfl)
              exact loop51 _ 0 T2 (Nat.zero_le _) (TQ_0 hT2) (Nat.lt_succ_self _) _ _ _ hP hD hS (lv_sub hl [2, 3, 4, 5, 6, 1, 0] rfl)
        exact loop27 _ 0 T1 (Nat.zero_le z) (fun v hv => hT1 v (by omega)) (Nat.lt_succ_self _) _ _ _ hP hD hS (lv_sub hl [1, 2, 3, 4, 0] rfl)
      · skip
        have hj9 := lt_of_nle (k := 9) (n := j) (by decide) (by omega) c7_1
        refine lv_aload_n hx hb dX9_layTally_10 rfl (lv_at hl 0 rfl) ?_
        refine va_get (D := g.1) (ci := 9) (v := .ref m25) (C := RX9) (T := TX9) (N := 41) hx hb hts q_X9_layTally_f_f9 hown hE.1 hP 0 rfl rfl 25 (by decide) (hts (.fieldLink RX9 55 "SoundLawsModel" "tally" "[I") q_X9_layTally_f_4) (fun _ h9 => h9) rfl dX9_layTally_11 ?_
        refine lv_iload hx hb dX9_layTally_14 (lv_at hl 4 rfl) ?_
        refine lv_iconst (v := 0) hx hb dX9_layTally_16 (by decide) ?_
        refine k_ast (x := 0) j rfl (by omega) hx hb hE hP hD hS 5 rfl (by decide) dX9_layTally_17 (fun H locs hP hD hS => ?_)
        have hP : va_P g.1 vwCl [(k0, .inr (9, [.ref m0, .int s1, .int s2, .int s3, .int s4, .int s5, .int s6, .ref m7, .ref m8, .ref m9, .int (nI z), .int (nI t), .int s12, .ref m13, .ref m14, .ref m15, .int s16, .ref m17, .ref m18, .ref m19, .ref m20, .ref m21, .ref m22, .ref m23, .ref m24, .ref m25, .ref m26, .ref m27, .ref m28, .int s29, .ref m30, .int s31, .int s32, .int s33, .int s34, .int s35, .ref m36, .ref m37, .ref m38, .ref m39, .long s40])), (m13, ai g 6 K), (m14, ai g 6 L), (m15, ai g 96 V), (m20, ai g 168 Rb), (m25, ai g 9 (upd T1 j 0))] H := hP
        have hD : va_D A [(k0, .inr (9, [.ref m0, .int s1, .int s2, .int s3, .int s4, .int s5, .int s6, .ref m7, .ref m8, .ref m9, .int (nI z), .int (nI t), .int s12, .ref m13, .ref m14, .ref m15, .int s16, .ref m17, .ref m18, .ref m19, .ref m20, .ref m21, .ref m22, .ref m23, .ref m24, .ref m25, .ref m26, .ref m27, .ref m28, .int s29, .ref m30, .int s31, .int s32, .int s33, .int s34, .int s35, .ref m36, .ref m37, .ref m38, .ref m39, .long s40])), (m13, ai g 6 K), (m14, ai g 6 L), (m15, ai g 96 V), (m20, ai g 168 Rb), (m25, ai g 9 (upd T1 j 0))] := hD
        refine lv_iinc (v := (nI (j + 1))) (lv' := [(4, .int (nI (j + 1))), (0, .ref k0), (1, .int (nI u)), (2, .int (nI sd)), (3, .int (nI ahd))]) hx hb dX9_layTally_18 hl (k := 4) rfl (nI_1 _) (by decide) rfl (fun ls hl => ?_)
        refine lv_goto (tgt := 3) hx hb dX9_layTally_21 (by decide) ?_
        exact ih3 (j + 1) _ (by omega) (up_s (B := fun _ => 0) hT1 rfl) (by omega) _ _ _ hP hD hS (lv_sub hl [1, 2, 3, 4, 0] rfl)
  exact loop3 _ 0 Ty (Nat.zero_le 9) (fun v h9 => absurd h9 (Nat.not_lt_zero v)) (Nat.lt_succ_self _) _ _ _ hP hD hS (lv_sub hl [1, 2, 3, 4, 0] rfl)
def po_X9_layLaw_f (g : GG) (k0 : Nat) (m0 : Nat) (s1 : Int32) (s2 : Int32) (s3 : Int32) (s4 : Int32) (s5 : Int32) (s6 : Int32) (m7 : Nat) (m8 : Nat) (m9 : Nat) (s12 : Int32) (m13 : Nat) (m14 : Nat) (m15 : Nat) (s16 : Int32) (m17 : Nat) (m18 : Nat) (m19 : Nat) (m20 : Nat) (m21 : Nat) (m22 : Nat) (m23 : Nat) (m24 : Nat) (m25 : Nat) (m26 : Nat) (m27 : Nat) (m28 : Nat) (s29 : Int32) (m30 : Nat) (s31 : Int32) (s32 : Int32) (s33 : Int32) (s34 : Int32) (s35 : Int32) (m36 : Nat) (m37 : Nat) (m38 : Nat) (m39 : Nat) (s40 : Int64) (z : Nat) (t : Nat) (K : Nat → Int32) (L : Nat → Int32) (V : Nat → Int32) (Rb : Nat → Int32) (Ty : Nat → Int32) (W1 : Nat → Int32) (W2 : Nat → Int32) (W3 : Nat → Int32) (ka : Nat → Nat) (nl : Nat → Nat) (Ac : Nat → Nat → Nat → Nat) (u : Nat) (sd : Nat) (ahd : Nat) : va_W → Prop := fun w => ∃ (X1 : Nat → Int32) (X2 : Nat → Int32) (X3 : Nat → Int32) (Ty2 : Nat → Int32), w = [(k0, .inr (9, [.ref m0, .int s1, .int s2, .int s3, .int s4, .int s5, .int s6, .ref m7, .ref m8, .ref m9, .int (nI z), .int (nI t), .int s12, .ref m13, .ref m14, .ref m15, .int s16, .ref m17, .ref m18, .ref m19, .ref m20, .ref m21, .ref m22, .ref m23, .ref m24, .ref m25, .ref m26, .ref m27, .ref m28, .int s29, .ref m30, .int s31, .int s32, .int s33, .int s34, .int s35, .ref m36, .ref m37, .ref m38, .ref m39, .long s40])), (m13, ai g 6 K), (m14, ai g 6 L), (m15, ai g 96 V), (m20, ai g 168 Rb), (m25, ai g 9 Ty2), (m22, ai g 72 X1), (m23, ai g 72 X2), (m24, ai g 72 X3)] ∧ (X1 = upd W1 (18 * u + 2 * sd + ahd) (laB (wF z t ka nl Ac) (18 * u + 2 * sd + ahd))) ∧ (X2 = upd W2 (18 * u + 2 * sd + ahd) (laG (wF z t ka nl Ac) (18 * u + 2 * sd + ahd))) ∧ (X3 = upd W3 (18 * u + 2 * sd + ahd) (laX (wF z t ka nl Ac) (18 * u + 2 * sd + ahd)))
theorem q_X9_layLaw_f_f9 : ∀ w ∈ u_ws RX9 TX9 41, w ∈ wsX9_layLaw := by decide +kernel
theorem q_X9_layLaw_f_1 : (Cond.fieldLink RX9 46 "SoundLawsModel" "laws" "[I") ∈ wsX9_layLaw := by decide +kernel
theorem q_X9_layLaw_f_2 : (Cond.fieldLink RX9 49 "SoundLawsModel" "follows" "[I") ∈ wsX9_layLaw := by decide +kernel
theorem q_X9_layLaw_f_3 : (Cond.fieldLink RX9 52 "SoundLawsModel" "exceptions" "[I") ∈ wsX9_layLaw := by decide +kernel
theorem q_X9_layLaw_f_4 : (Cond.fieldLink RX9 55 "SoundLawsModel" "tally" "[I") ∈ wsX9_layLaw := by decide +kernel
set_option maxHeartbeats 1500000 in
set_option maxRecDepth 100000 in
theorem c_X9_layLaw_f (l : Launch) (g : GG) (k0 : Nat) (m0 : Nat) (s1 : Int32) (s2 : Int32) (s3 : Int32) (s4 : Int32) (s5 : Int32) (s6 : Int32) (m7 : Nat) (m8 : Nat) (m9 : Nat) (s12 : Int32) (m13 : Nat) (m14 : Nat) (m15 : Nat) (s16 : Int32) (m17 : Nat) (m18 : Nat) (m19 : Nat) (m20 : Nat) (m21 : Nat) (m22 : Nat) (m23 : Nat) (m24 : Nat) (m25 : Nat) (m26 : Nat) (m27 : Nat) (m28 : Nat) (s29 : Int32) (m30 : Nat) (s31 : Int32) (s32 : Int32) (s33 : Int32) (s34 : Int32) (s35 : Int32) (m36 : Nat) (m37 : Nat) (m38 : Nat) (m39 : Nat) (s40 : Int64) (z : Nat) (t : Nat) (K : Nat → Int32) (L : Nat → Int32) (V : Nat → Int32) (Rb : Nat → Int32) (Ty : Nat → Int32) (W1 : Nat → Int32) (W2 : Nat → Int32) (W3 : Nat → Int32) (ka : Nat → Nat) (nl : Nat → Nat) (Ac : Nat → Nat → Nat → Nat) (u : Nat) (sd : Nat) (ahd : Nat) (hz : z ≤ 6) (hzt : 0 < z → 2 ≤ t) (ht4 : t ≤ 4) (hp : PIC z t K L V ka nl Ac) (hR : SMr z t ka nl Ac Rb) (hu : u < t) (hsd : sd < 9) (hah : ahd < 2) (sz : Nat) : MetV l yX9_layLaw wsX9_layLaw ({ frames := 3, cells := 0, slots := 0, locals := 69 }) g [.ref k0, .int (nI u), .int (nI sd), .int (nI ahd)] [(k0, .inr (9, [.ref m0, .int s1, .int s2, .int s3, .int s4, .int s5, .int s6, .ref m7, .ref m8, .ref m9, .int (nI z), .int (nI t), .int s12, .ref m13, .ref m14, .ref m15, .int s16, .ref m17, .ref m18, .ref m19, .ref m20, .ref m21, .ref m22, .ref m23, .ref m24, .ref m25, .ref m26, .ref m27, .ref m28, .int s29, .ref m30, .int s31, .int s32, .int s33, .int s34, .int s35, .ref m36, .ref m37, .ref m38, .ref m39, .long s40])), (m13, ai g 6 K), (m14, ai g 6 L), (m15, ai g 96 V), (m20, ai g 168 Rb), (m25, ai g 9 Ty), (m22, ai g 72 W1), (m23, ai g 72 W2), (m24, ai g 72 W3)] sz (po_X9_layLaw_f g k0 m0 s1 s2 s3 s4 s5 s6 m7 m8 m9 s12 m13 m14 m15 s16 m17 m18 m19 m20 m21 m22 m23 m24 m25 m26 m27 m28 s29 m30 s31 s32 s33 s34 s35 m36 m37 m38 m39 s40 z t K L V Rb Ty W1 W2 W3 ka nl Ac u sd ahd) 0 0 := by
  refine k_of (l := l) (y := yX9_layLaw) (ws := wsX9_layLaw) (rm := { frames := 3, cells := 0, slots := 0, locals := 69 }) (mc := 0) (ms := 0) (av := [.ref k0, .int (nI u), .int (nI sd), .int (nI ahd)]) (g := g) (wc := [(k0, .inr (9, [.ref m0, .int s1, .int s2, .int s3, .int s4, .int s5, .int s6, .ref m7, .ref m8, .ref m9, .int (nI z), .int (nI t), .int s12, .ref m13, .ref m14, .ref m15, .int s16, .ref m17, .ref m18, .ref m19, .ref m20, .ref m21, .ref m22, .ref m23, .ref m24, .ref m25, .ref m26, .ref m27, .ref m28, .int s29, .ref m30, .int s31, .int s32, .int s33, .int s34, .int s35, .ref m36, .ref m37, .ref m38, .ref m39, .long s40])), (m13, ai g 6 K), (m14, ai g 6 L), (m15, ai g 96 V), (m20, ai g 168 Rb), (m25, ai g 9 Ty), (m22, ai g 72 W1), (m23, ai g 72 W2), (m24, ai g 72 W3)]) (Qc := fun A => va_Qv (po_X9_layLaw_f g k0 m0 s1 s2 s3 s4 s5 s6 m7 m8 m9 s12 m13 m14 m15 s16 m17 m18 m19 m20 m21 m22 m23 m24 m25 m26 m27 m28 s29 m30 s31 s32 s33 s34 s35 m36 m37 m38 m39 s40 z t K L V Rb Ty W1 W2 W3 ka nl Ac u sd ahd) (bk g A) A) (cc := cX9_layLaw) (maxL := 8) (ret := none) (by decide) rfl (Nat.le_of_ble_eq_true rfl) ?_ sz
  intro p e s m below meth c hx hb hr hts hown hlocks hnm hml A hA hE hZ hP hD hS ls hl
  have hown : s.vm.findClass RX9 = some m.cls := hown
  have hl : lv_has ls 8 [(0, .ref k0), (1, .int (nI u)), (2, .int (nI sd)), (3, .int (nI ahd))] := hl
  refine lv_aload_n hx hb dX9_layLaw_0 rfl (lv_at hl 0 rfl) ?_
  refine lv_iload_n hx hb dX9_layLaw_1 rfl (lv_at hl 1 rfl) ?_
  refine lv_iload_n hx hb dX9_layLaw_2 rfl (lv_at hl 2 rfl) ?_
  refine lv_iload_n hx hb dX9_layLaw_3 rfl (lv_at hl 3 rfl) ?_
  refine k_cv (wr := [(m22, ai g 72 W1), (m23, ai g 72 W2), (m24, ai g 72 W3)]) hP hD hS hA [0, 1, 2, 3, 4, 5] [6, 7, 8] rfl rfl (by decide) (by decide) (va_runV (As := [.int (nI u), .int (nI sd), .int (nI ahd)]) (rest := []) ⟨hx, hb, hml, hown, hts⟩ (c_X9_layTally_f l g k0 m0 s1 s2 s3 s4 s5 s6 m7 m8 m9 s12 m13 m14 m15 s16 m17 m18 m19 m20 m21 m22 m23 m24 m25 m26 m27 m28 s29 m30 s31 s32 s33 s34 s35 m36 m37 m38 m39 s40 z t K L V Rb Ty ka nl Ac u sd ahd (by first | assumption | omega) (by first | assumption | omega) (by first | assumption | omega) (by first | assumption | omega) (by first | assumption | omega) (by first | assumption | omega) (by first | assumption | omega) (by first | assumption | omega) s.heap.size) (cwV 3 hts gX9_layLaw_X9_layTally rfl rfl rfl (by decide +kernel) ⟨Nat.le_of_ble_eq_true rfl, Nat.le_of_ble_eq_true rfl⟩) (k_preV hE hZ hP hD hS hA [0, 1, 2, 3, 4, 5] rfl (by decide) (va_recv hE.1 hP (ci := 9) (q0 := 0) rfl rfl)) rfl rfl hl.1 rfl (lv_room (Nat.le_of_ble_eq_true rfl)) dX9_layLaw_4 ⟨Nat.le_of_ble_eq_true rfl, Nat.le_of_ble_eq_true rfl⟩) (fun w1 H locs hw hP hD hS => ?_)
  obtain ⟨Ty2_2, rfl, hT_3⟩ := hw
  have hP : va_P g.1 vwCl [(m22, ai g 72 W1), (m23, ai g 72 W2), (m24, ai g 72 W3), (k0, .inr (9, [.ref m0, .int s1, .int s2, .int s3, .int s4, .int s5, .int s6, .ref m7, .ref m8, .ref m9, .int (nI z), .int (nI t), .int s12, .ref m13, .ref m14, .ref m15, .int s16, .ref m17, .ref m18, .ref m19, .ref m20, .ref m21, .ref m22, .ref m23, .ref m24, .ref m25, .ref m26, .ref m27, .ref m28, .int s29, .ref m30, .int s31, .int s32, .int s33, .int s34, .int s35, .ref m36, .ref m37, .ref m38, .ref m39, .long s40])), (m13, ai g 6 K), (m14, ai g 6 L), (m15, ai g 96 V), (m20, ai g 168 Rb), (m25, ai g 9 Ty2_2)] H := hP
  have hD : va_D A [(m22, ai g 72 W1), (m23, ai g 72 W2), (m24, ai g 72 W3), (k0, .inr (9, [.ref m0, .int s1, .int s2, .int s3, .int s4, .int s5, .int s6, .ref m7, .ref m8, .ref m9, .int (nI z), .int (nI t), .int s12, .ref m13, .ref m14, .ref m15, .int s16, .ref m17, .ref m18, .ref m19, .ref m20, .ref m21, .ref m22, .ref m23, .ref m24, .ref m25, .ref m26, .ref m27, .ref m28, .int s29, .ref m30, .int s31, .int s32, .int s33, .int s34, .int s35, .ref m36, .ref m37, .ref m38, .ref m39, .long s40])), (m13, ai g 6 K), (m14, ai g 6 L), (m15, ai g 96 V), (m20, ai g 168 Rb), (m25, ai g 9 Ty2_2)] := hD
  refine lv_iconst (v := (-1)) hx hb dX9_layLaw_7 (by decide) ?_
  refine lv_istore (lv' := [(4, .int (-1)), (0, .ref k0), (1, .int (nI u)), (2, .int (nI sd)), (3, .int (nI ahd))]) hx hb dX9_layLaw_8 hl (by decide) rfl (fun ls hl => ?_)
  refine lv_iconst (v := 0) hx hb dX9_layLaw_10 (by decide) ?_
  refine lv_istore (lv' := [(5, .int 0), (4, .int (-1)), (0, .ref k0), (1, .int (nI u)), (2, .int (nI sd)), (3, .int (nI ahd))]) hx hb dX9_layLaw_11 hl (by decide) rfl (fun ls hl => ?_)
  refine lv_iconst (v := 0) hx hb dX9_layLaw_13 (by decide) ?_
  refine lv_istore (lv' := [(6, .int 0), (5, .int 0), (4, .int (-1)), (0, .ref k0), (1, .int (nI u)), (2, .int (nI sd)), (3, .int (nI ahd))]) hx hb dX9_layLaw_14 hl (by decide) rfl (fun ls hl => ?_)
  refine lv_iconst (v := 0) hx hb dX9_layLaw_16 (by decide) ?_
  refine lv_istore (lv' := [(7, .int 0), (6, .int 0), (5, .int 0), (4, .int (-1)), (0, .ref k0), (1, .int (nI u)), (2, .int (nI sd)), (3, .int (nI ahd))]) hx hb dX9_layLaw_17 hl (by decide) rfl (fun ls hl => ?_)
  have loop19 : ∀ (fu : Nat) (j : Nat) (x4 x5 x6 : Int32), (hj : j ≤ 9) → (e4 : x4 = lwB (fun v => wF z t ka nl Ac (9 * (18 * u + 2 * sd + ahd) + v)) j) → (e5 : x5 = lwG (fun v => wF z t ka nl Ac (9 * (18 * u + 2 * sd + ahd) + v)) j) → (e6 : x6 = lwA (fun v => wF z t ka nl Ac (9 * (18 * u + 2 * sd + ahd) + v)) j) → 9 - j < fu → ∀ (H : Heap) (locs : List Loc) (ls : Array Slot), va_P g.1 vwCl [(m22, ai g 72 W1), (m23, ai g 72 W2), (m24, ai g 72 W3), (k0, .inr (9, [.ref m0, .int s1, .int s2, .int s3, .int s4, .int s5, .int s6, .ref m7, .ref m8, .ref m9, .int (nI z), .int (nI t), .int s12, .ref m13, .ref m14, .ref m15, .int s16, .ref m17, .ref m18, .ref m19, .ref m20, .ref m21, .ref m22, .ref m23, .ref m24, .ref m25, .ref m26, .ref m27, .ref m28, .int s29, .ref m30, .int s31, .int s32, .int s33, .int s34, .int s35, .ref m36, .ref m37, .ref m38, .ref m39, .long s40])), (m13, ai g 6 K), (m14, ai g 6 L), (m15, ai g 96 V), (m20, ai g 168 Rb), (m25, ai g 9 Ty2_2)] H → va_D A [(m22, ai g 72 W1), (m23, ai g 72 W2), (m24, ai g 72 W3), (k0, .inr (9, [.ref m0, .int s1, .int s2, .int s3, .int s4, .int s5, .int s6, .ref m7, .ref m8, .ref m9, .int (nI z), .int (nI t), .int s12, .ref m13, .ref m14, .ref m15, .int s16, .ref m17, .ref m18, .ref m19, .ref m20, .ref m21, .ref m22, .ref m23, .ref m24, .ref m25, .ref m26, .ref m27, .ref m28, .int s29, .ref m30, .int s31, .int s32, .int s33, .int s34, .int s35, .ref m36, .ref m37, .ref m38, .ref m39, .long s40])), (m13, ai g 6 K), (m14, ai g 6 L), (m15, ai g 96 V), (m20, ai g 168 Rb), (m25, ai g 9 Ty2_2)] → va_S A s.heap H locs → lv_has ls 8 [(0, .ref k0), (1, .int (nI u)), (2, .int (nI sd)), (3, .int (nI ahd)), (4, .int x4), (5, .int x5), (6, .int x6), (7, .int (nI j))] → W p l e ({ frames := 3, cells := 0, slots := 0, locals := 69 }) s m [.ref k0, .int (nI u), .int (nI sd), .int (nI ahd)].toArray below meth c H locs 0 0 (MQ below (va_Qv (po_X9_layLaw_f g k0 m0 s1 s2 s3 s4 s5 s6 m7 m8 m9 s12 m13 m14 m15 s16 m17 m18 m19 m20 m21 m22 m23 m24 m25 m26 m27 m28 s29 m30 s31 s32 s33 s34 s35 m36 m37 m38 m39 s40 z t K L V Rb Ty W1 W2 W3 ka nl Ac u sd ahd) (bk g A) A) [.ref k0, .int (nI u), .int (nI sd), .int (nI ahd)].toArray s 0 0 A) (F0 m 19 ls []) := by
    intro fu
    induction fu with
    | zero => intro j x4 x5 x6 hj e4 e5 e6 hfu; exact absurd hfu (Nat.not_lt_zero _)
    | succ fu ih =>
      intro j x4 x5 x6 hj e4 e5 e6 hfu H locs ls hP hD hS hl
      have ih19 := ih
      refine lv_iload hx hb dX9_layLaw_19 (lv_at hl 7 rfl) ?_
      refine lv_bipush (v := 9) hx hb dX9_layLaw_21 (by decide) ?_
      refine lv_icmp_ge (tgt := 91) hx hb dX9_layLaw_23 (by decide) (fun c23_4 => ?_) (fun c23_4 => ?_)
      · skip
        have hj10 := ge_of_le (k := 9) (n := j) (by decide) (by omega) c23_4
        have hj9 : j = 9 := by omega
        refine lv_bipush (v := 18) hx hb dX9_layLaw_91 (by decide) ?_
        refine lv_iload_n hx hb dX9_layLaw_93 rfl (lv_at hl 1 rfl) ?_
        refine lv_imul hx hb dX9_layLaw_94 ?_
        refine lv_iconst (v := 2) hx hb dX9_layLaw_95 (by decide) ?_
        refine lv_iload_n hx hb dX9_layLaw_96 rfl (lv_at hl 2 rfl) ?_
        refine lv_imul hx hb dX9_layLaw_97 ?_
        refine lv_iadd hx hb dX9_layLaw_98 ?_
        refine lv_iload_n hx hb dX9_layLaw_99 rfl (lv_at hl 3 rfl) ?_
        refine lv_iadd hx hb dX9_layLaw_100 ?_
        refine lv_topi (fun x_5 ex_5 => ?_)
        obtain rfl : x_5 = nI (18 * u + 2 * sd + ahd) := by rw [ex_5]; rw [show (18 : Int32) = nI 18 from rfl, show (2 : Int32) = nI 2 from rfl, pk_mul, pk_mul, nI_add, nI_add]
        refine lv_istore (lv' := [(7, .int (nI (18 * u + 2 * sd + ahd))), (0, .ref k0), (1, .int (nI u)), (2, .int (nI sd)), (3, .int (nI ahd)), (4, .int x4), (5, .int x5), (6, .int x6)]) hx hb dX9_layLaw_101 hl (by decide) rfl (fun ls hl => ?_)
        refine lv_aload_n hx hb dX9_layLaw_103 rfl (lv_at hl 1 rfl) ?_
        refine va_get (D := g.1) (ci := 9) (v := .ref m22) (C := RX9) (T := TX9) (N := 41) hx hb hts q_X9_layLaw_f_f9 hown hE.1 hP 3 rfl rfl 22 (by decide) (hts (.fieldLink RX9 46 "SoundLawsModel" "laws" "[I") q_X9_layLaw_f_1) (fun _ h9 => h9) rfl dX9_layLaw_104 ?_
        refine lv_iload hx hb dX9_layLaw_107 (lv_at hl 0 rfl) ?_
        refine lv_iload hx hb dX9_layLaw_109 (lv_at hl 5 rfl) ?_
        refine k_ast (x := x4) (18 * u + 2 * sd + ahd) rfl (by omega) hx hb hE hP hD hS 0 rfl (by decide) dX9_layLaw_111 (fun H locs hP hD hS => ?_)
        have hP : va_P g.1 vwCl [(m22, ai g 72 (upd W1 (18 * u + 2 * sd + ahd) x4)), (m23, ai g 72 W2), (m24, ai g 72 W3), (k0, .inr (9, [.ref m0, .int s1, .int s2, .int s3, .int s4, .int s5, .int s6, .ref m7, .ref m8, .ref m9, .int (nI z), .int (nI t), .int s12, .ref m13, .ref m14, .ref m15, .int s16, .ref m17, .ref m18, .ref m19, .ref m20, .ref m21, .ref m22, .ref m23, .ref m24, .ref m25, .ref m26, .ref m27, .ref m28, .int s29, .ref m30, .int s31, .int s32, .int s33, .int s34, .int s35, .ref m36, .ref m37, .ref m38, .ref m39, .long s40])), (m13, ai g 6 K), (m14, ai g 6 L), (m15, ai g 96 V), (m20, ai g 168 Rb), (m25, ai g 9 Ty2_2)] H := hP
        have hD : va_D A [(m22, ai g 72 (upd W1 (18 * u + 2 * sd + ahd) x4)), (m23, ai g 72 W2), (m24, ai g 72 W3), (k0, .inr (9, [.ref m0, .int s1, .int s2, .int s3, .int s4, .int s5, .int s6, .ref m7, .ref m8, .ref m9, .int (nI z), .int (nI t), .int s12, .ref m13, .ref m14, .ref m15, .int s16, .ref m17, .ref m18, .ref m19, .ref m20, .ref m21, .ref m22, .ref m23, .ref m24, .ref m25, .ref m26, .ref m27, .ref m28, .int s29, .ref m30, .int s31, .int s32, .int s33, .int s34, .int s35, .ref m36, .ref m37, .ref m38, .ref m39, .long s40])), (m13, ai g 6 K), (m14, ai g 6 L), (m15, ai g 96 V), (m20, ai g 168 Rb), (m25, ai g 9 Ty2_2)] := hD
        refine lv_aload_n hx hb dX9_layLaw_112 rfl (lv_at hl 1 rfl) ?_
        refine va_get (D := g.1) (ci := 9) (v := .ref m23) (C := RX9) (T := TX9) (N := 41) hx hb hts q_X9_layLaw_f_f9 hown hE.1 hP 3 rfl rfl 23 (by decide) (hts (.fieldLink RX9 49 "SoundLawsModel" "follows" "[I") q_X9_layLaw_f_2) (fun _ h9 => h9) rfl dX9_layLaw_113 ?_
        refine lv_iload hx hb dX9_layLaw_116 (lv_at hl 0 rfl) ?_
        refine lv_iload hx hb dX9_layLaw_118 (lv_at hl 6 rfl) ?_
        refine k_ast (x := x5) (18 * u + 2 * sd + ahd) rfl (by omega) hx hb hE hP hD hS 1 rfl (by decide) dX9_layLaw_120 (fun H locs hP hD hS => ?_)
        have hP : va_P g.1 vwCl [(m22, ai g 72 (upd W1 (18 * u + 2 * sd + ahd) x4)), (m23, ai g 72 (upd W2 (18 * u + 2 * sd + ahd) x5)), (m24, ai g 72 W3), (k0, .inr (9, [.ref m0, .int s1, .int s2, .int s3, .int s4, .int s5, .int s6, .ref m7, .ref m8, .ref m9, .int (nI z), .int (nI t), .int s12, .ref m13, .ref m14, .ref m15, .int s16, .ref m17, .ref m18, .ref m19, .ref m20, .ref m21, .ref m22, .ref m23, .ref m24, .ref m25, .ref m26, .ref m27, .ref m28, .int s29, .ref m30, .int s31, .int s32, .int s33, .int s34, .int s35, .ref m36, .ref m37, .ref m38, .ref m39, .long s40])), (m13, ai g 6 K), (m14, ai g 6 L), (m15, ai g 96 V), (m20, ai g 168 Rb), (m25, ai g 9 Ty2_2)] H := hP
        have hD : va_D A [(m22, ai g 72 (upd W1 (18 * u + 2 * sd + ahd) x4)), (m23, ai g 72 (upd W2 (18 * u + 2 * sd + ahd) x5)), (m24, ai g 72 W3), (k0, .inr (9, [.ref m0, .int s1, .int s2, .int s3, .int s4, .int s5, .int s6, .ref m7, .ref m8, .ref m9, .int (nI z), .int (nI t), .int s12, .ref m13, .ref m14, .ref m15, .int s16, .ref m17, .ref m18, .ref m19, .ref m20, .ref m21, .ref m22, .ref m23, .ref m24, .ref m25, .ref m26, .ref m27, .ref m28, .int s29, .ref m30, .int s31, .int s32, .int s33, .int s34, .int s35, .ref m36, .ref m37, .ref m38, .ref m39, .long s40])), (m13, ai g 6 K), (m14, ai g 6 L), (m15, ai g 96 V), (m20, ai g 168 Rb), (m25, ai g 9 Ty2_2)] := hD
        refine lv_aload_n hx hb dX9_layLaw_121 rfl (lv_at hl 1 rfl) ?_
        refine va_get (D := g.1) (ci := 9) (v := .ref m24) (C := RX9) (T := TX9) (N := 41) hx hb hts q_X9_layLaw_f_f9 hown hE.1 hP 3 rfl rfl 24 (by decide) (hts (.fieldLink RX9 52 "SoundLawsModel" "exceptions" "[I") q_X9_layLaw_f_3) (fun _ h9 => h9) rfl dX9_layLaw_122 ?_
        refine lv_iload hx hb dX9_layLaw_125 (lv_at hl 0 rfl) ?_
        refine lv_iload hx hb dX9_layLaw_127 (lv_at hl 7 rfl) ?_
        refine lv_iload hx hb dX9_layLaw_129 (lv_at hl 6 rfl) ?_
        refine lv_isub hx hb dX9_layLaw_131 ?_
        refine lv_topi (fun x9 ex9 => ?_)
        refine k_ast (x := x9) (18 * u + 2 * sd + ahd) rfl (by omega) hx hb hE hP hD hS 2 rfl (by decide) dX9_layLaw_132 (fun H locs hP hD hS => ?_)
        have hP : va_P g.1 vwCl [(m22, ai g 72 (upd W1 (18 * u + 2 * sd + ahd) x4)), (m23, ai g 72 (upd W2 (18 * u + 2 * sd + ahd) x5)), (m24, ai g 72 (upd W3 (18 * u + 2 * sd + ahd) x9)), (k0, .inr (9, [.ref m0, .int s1, .int s2, .int s3, .int s4, .int s5, .int s6, .ref m7, .ref m8, .ref m9, .int (nI z), .int (nI t), .int s12, .ref m13, .ref m14, .ref m15, .int s16, .ref m17, .ref m18, .ref m19, .ref m20, .ref m21, .ref m22, .ref m23, .ref m24, .ref m25, .ref m26, .ref m27, .ref m28, .int s29, .ref m30, .int s31, .int s32, .int s33, .int s34, .int s35, .ref m36, .ref m37, .ref m38, .ref m39, .long s40])), (m13, ai g 6 K), (m14, ai g 6 L), (m15, ai g 96 V), (m20, ai g 168 Rb), (m25, ai g 9 Ty2_2)] H := hP
        have hD : va_D A [(m22, ai g 72 (upd W1 (18 * u + 2 * sd + ahd) x4)), (m23, ai g 72 (upd W2 (18 * u + 2 * sd + ahd) x5)), (m24, ai g 72 (upd W3 (18 * u + 2 * sd + ahd) x9)), (k0, .inr (9, [.ref m0, .int s1, .int s2, .int s3, .int s4, .int s5, .int s6, .ref m7, .ref m8, .ref m9, .int (nI z), .int (nI t), .int s12, .ref m13, .ref m14, .ref m15, .int s16, .ref m17, .ref m18, .ref m19, .ref m20, .ref m21, .ref m22, .ref m23, .ref m24, .ref m25, .ref m26, .ref m27, .ref m28, .int s29, .ref m30, .int s31, .int s32, .int s33, .int s34, .int s35, .ref m36, .ref m37, .ref m38, .ref m39, .long s40])), (m13, ai g 6 K), (m14, ai g 6 L), (m15, ai g 96 V), (m20, ai g 168 Rb), (m25, ai g 9 Ty2_2)] := hD
        refine W.widen (k := 0) (n := 0) (Nat.le_of_ble_eq_true rfl) (Nat.le_of_ble_eq_true rfl) ?_
        have hP9 := hP.sub (ws' := [(k0, .inr (9, [.ref m0, .int s1, .int s2, .int s3, .int s4, .int s5, .int s6, .ref m7, .ref m8, .ref m9, .int (nI z), .int (nI t), .int s12, .ref m13, .ref m14, .ref m15, .int s16, .ref m17, .ref m18, .ref m19, .ref m20, .ref m21, .ref m22, .ref m23, .ref m24, .ref m25, .ref m26, .ref m27, .ref m28, .int s29, .ref m30, .int s31, .int s32, .int s33, .int s34, .int s35, .ref m36, .ref m37, .ref m38, .ref m39, .long s40])), (m13, ai g 6 K), (m14, ai g 6 L), (m15, ai g 96 V), (m20, ai g 168 Rb), (m25, ai g 9 Ty2_2), (m22, ai g 72 (upd W1 (18 * u + 2 * sd + ahd) x4)), (m23, ai g 72 (upd W2 (18 * u + 2 * sd + ahd) x5)), (m24, ai g 72 (upd W3 (18 * u + 2 * sd + ahd) x9))]) [3, 4, 5, 6, 7, 8, 0, 1, 2] rfl
        have hD9 := hD.sub (ws' := [(k0, .inr (9, [.ref m0, .int s1, .int s2, .int s3, .int s4, .int s5, .int s6, .ref m7, .ref m8, .ref m9, .int (nI z), .int (nI t), .int s12, .ref m13, .ref m14, .ref m15, .int s16, .ref m17, .ref m18, .ref m19, .ref m20, .ref m21, .ref m22, .ref m23, .ref m24, .ref m25, .ref m26, .ref m27, .ref m28, .int s29, .ref m30, .int s31, .int s32, .int s33, .int s34, .int s35, .ref m36, .ref m37, .ref m38, .ref m39, .long s40])), (m13, ai g 6 K), (m14, ai g 6 L), (m15, ai g 96 V), (m20, ai g 168 Rb), (m25, ai g 9 Ty2_2), (m22, ai g 72 (upd W1 (18 * u + 2 * sd + ahd) x4)), (m23, ai g 72 (upd W2 (18 * u + 2 * sd + ahd) x5)), (m24, ai g 72 (upd W3 (18 * u + 2 * sd + ahd) x9))]) [3, 4, 5, 6, 7, 8, 0, 1, 2] (by decide) rfl
        exact k_rv hx hb hr hlocks hS hP9 hD9 ⟨(upd W1 (18 * u + 2 * sd + ahd) x4), (upd W2 (18 * u + 2 * sd + ahd) x5), (upd W3 (18 * u + 2 * sd + ahd) x9), Ty2_2, rfl, (by unfold laB; rw [e4, hj9]), (by unfold laG; rw [e5, hj9]), (by unfold laX; rw [ex9, e6, e5, hj9])⟩ dX9_layLaw_133
      · skip
        have hj9 := lt_of_nle (k := 9) (n := j) (by decide) (by omega) c23_4
        refine lv_iload hx hb dX9_layLaw_26 (lv_at hl 6 rfl) ?_
        refine lv_aload_n hx hb dX9_layLaw_28 rfl (lv_at hl 0 rfl) ?_
        refine va_get (D := g.1) (ci := 9) (v := .ref m25) (C := RX9) (T := TX9) (N := 41) hx hb hts q_X9_layLaw_f_f9 hown hE.1 hP 3 rfl rfl 25 (by decide) (hts (.fieldLink RX9 55 "SoundLawsModel" "tally" "[I") q_X9_layLaw_f_4) (fun _ h9 => h9) rfl dX9_layLaw_29 ?_
        refine lv_iload hx hb dX9_layLaw_32 (lv_at hl 7 rfl) ?_
        refine k_ald j rfl (by omega) hx hb hE hP 8 rfl (by decide) dX9_layLaw_34 ?_
        refine lv_iadd hx hb dX9_layLaw_35 ?_
        refine lv_topi (fun x6b ex6b => ?_)
        refine lv_istore (lv' := [(6, .int x6b), (0, .ref k0), (1, .int (nI u)), (2, .int (nI sd)), (3, .int (nI ahd)), (4, .int x4), (5, .int x5), (7, .int (nI j))]) hx hb dX9_layLaw_36 hl (by decide) rfl (fun ls hl => ?_)
        refine lv_aload_n hx hb dX9_layLaw_38 rfl (lv_at hl 1 rfl) ?_
        refine va_get (D := g.1) (ci := 9) (v := .ref m25) (C := RX9) (T := TX9) (N := 41) hx hb hts q_X9_layLaw_f_f9 hown hE.1 hP 3 rfl rfl 25 (by decide) (hts (.fieldLink RX9 55 "SoundLawsModel" "tally" "[I") q_X9_layLaw_f_4) (fun _ h9 => h9) rfl dX9_layLaw_39 ?_
        refine lv_iload hx hb dX9_layLaw_42 (lv_at hl 7 rfl) ?_
        refine k_ald j rfl (by omega) hx hb hE hP 8 rfl (by decide) dX9_layLaw_44 ?_
        refine lv_iload hx hb dX9_layLaw_45 (lv_at hl 6 rfl) ?_
        refine lv_icmp_le (tgt := 55) hx hb dX9_layLaw_47 (by decide) (fun c47_6 => ?_) (fun c47_6 => ?_)
        · skip
          refine lv_iload hx hb dX9_layLaw_55 (lv_at hl 5 rfl) ?_
          refine lv_istore (lv' := [(4, .int x4), (6, .int x6b), (0, .ref k0), (1, .int (nI u)), (2, .int (nI sd)), (3, .int (nI ahd)), (5, .int x5), (7, .int (nI j))]) hx hb dX9_layLaw_57 hl (by decide) rfl (fun ls hl => ?_)
          refine lv_aload_n hx hb dX9_layLaw_59 rfl (lv_at hl 2 rfl) ?_
          refine va_get (D := g.1) (ci := 9) (v := .ref m25) (C := RX9) (T := TX9) (N := 41) hx hb hts q_X9_layLaw_f_f9 hown hE.1 hP 3 rfl rfl 25 (by decide) (hts (.fieldLink RX9 55 "SoundLawsModel" "tally" "[I") q_X9_layLaw_f_4) (fun _ h9 => h9) rfl dX9_layLaw_60 ?_
          refine lv_iload hx hb dX9_layLaw_63 (lv_at hl 7 rfl) ?_
          refine k_ald j rfl (by omega) hx hb hE hP 8 rfl (by decide) dX9_layLaw_65 ?_
          refine lv_iload hx hb dX9_layLaw_66 (lv_at hl 6 rfl) ?_
          refine lv_icmp_le (tgt := 81) hx hb dX9_layLaw_68 (by decide) (fun c68_7 => ?_) (fun c68_7 => ?_)
          · skip
            refine lv_iload hx hb dX9_layLaw_81 (lv_at hl 6 rfl) ?_
            refine lv_istore (lv' := [(5, .int x5), (4, .int x4), (6, .int x6b), (0, .ref k0), (1, .int (nI u)), (2, .int (nI sd)), (3, .int (nI ahd)), (7, .int (nI j))]) hx hb dX9_layLaw_83 hl (by decide) rfl (fun ls hl => ?_)
            refine lv_iinc (v := (nI (j + 1))) (lv' := [(7, .int (nI (j + 1))), (5, .int x5), (4, .int x4), (6, .int x6b), (0, .ref k0), (1, .int (nI u)), (2, .int (nI sd)), (3, .int (nI ahd))]) hx hb dX9_layLaw_85 hl (k := 7) rfl (nI_1 _) (by decide) rfl (fun ls hl => ?_)
            refine lv_goto (tgt := 19) hx hb dX9_layLaw_88 (by decide) ?_
            exact ih19 (j + 1) _ _ _ (by omega) (lw_f (f := (fun v => wF z t ka nl Ac (9 * (18 * u + 2 * sd + ahd) + v))) (v := j) e4 e5 (hT_3 j hj9) c47_6).1 (lw_f (f := (fun v => wF z t ka nl Ac (9 * (18 * u + 2 * sd + ahd) + v))) (v := j) e4 e5 (hT_3 j hj9) c47_6).2 (lw_a (f := (fun v => wF z t ka nl Ac (9 * (18 * u + 2 * sd + ahd) + v))) (v := j) e6 (hT_3 j hj9) ex6b) (by omega) _ _ _ hP hD hS (lv_sub hl [4, 5, 6, 7, 2, 1, 3, 0] rfl)
          · exact (show False from c68_7 c47_6).elim
        · skip
          refine lv_iload hx hb dX9_layLaw_50 (lv_at hl 7 rfl) ?_
          refine lv_goto (tgt := 57) hx hb dX9_layLaw_52 (by decide) ?_
          refine lv_istore (lv' := [(4, .int (nI j)), (6, .int x6b), (0, .ref k0), (1, .int (nI u)), (2, .int (nI sd)), (3, .int (nI ahd)), (5, .int x5), (7, .int (nI j))]) hx hb dX9_layLaw_57 hl (by decide) rfl (fun ls hl => ?_)
          refine lv_aload_n hx hb dX9_layLaw_59 rfl (lv_at hl 2 rfl) ?_
          refine va_get (D := g.1) (ci := 9) (v := .ref m25) (C := RX9) (T := TX9) (N := 41) hx hb hts q_X9_layLaw_f_f9 hown hE.1 hP 3 rfl rfl 25 (by decide) (hts (.fieldLink RX9 55 "SoundLawsModel" "tally" "[I") q_X9_layLaw_f_4) (fun _ h9 => h9) rfl dX9_layLaw_60 ?_
          refine lv_iload hx hb dX9_layLaw_63 (lv_at hl 7 rfl) ?_
          refine k_ald j rfl (by omega) hx hb hE hP 8 rfl (by decide) dX9_layLaw_65 ?_
          refine lv_iload hx hb dX9_layLaw_66 (lv_at hl 6 rfl) ?_
          refine lv_icmp_le (tgt := 81) hx hb dX9_layLaw_68 (by decide) (fun c68_8 => ?_) (fun c68_8 => ?_)
          · exact (show False from c47_6 c68_8).elim
          · skip
            refine lv_aload_n hx hb dX9_layLaw_71 rfl (lv_at hl 2 rfl) ?_
            refine va_get (D := g.1) (ci := 9) (v := .ref m25) (C := RX9) (T := TX9) (N := 41) hx hb hts q_X9_layLaw_f_f9 hown hE.1 hP 3 rfl rfl 25 (by decide) (hts (.fieldLink RX9 55 "SoundLawsModel" "tally" "[I") q_X9_layLaw_f_4) (fun _ h9 => h9) rfl dX9_layLaw_72 ?_
            refine lv_iload hx hb dX9_layLaw_75 (lv_at hl 7 rfl) ?_
            refine k_ald j rfl (by omega) hx hb hE hP 8 rfl (by decide) dX9_layLaw_77 ?_
            refine lv_goto (tgt := 83) hx hb dX9_layLaw_78 (by decide) ?_
            refine lv_topi (fun x5b ex5b => ?_)
            refine lv_istore (lv' := [(5, .int x5b), (4, .int (nI j)), (6, .int x6b), (0, .ref k0), (1, .int (nI u)), (2, .int (nI sd)), (3, .int (nI ahd)), (7, .int (nI j))]) hx hb dX9_layLaw_83 hl (by decide) rfl (fun ls hl => ?_)
            refine lv_iinc (v := (nI (j + 1))) (lv' := [(7, .int (nI (j + 1))), (5, .int x5b), (4, .int (nI j)), (6, .int x6b), (0, .ref k0), (1, .int (nI u)), (2, .int (nI sd)), (3, .int (nI ahd))]) hx hb dX9_layLaw_85 hl (k := 7) rfl (nI_1 _) (by decide) rfl (fun ls hl => ?_)
            refine lv_goto (tgt := 19) hx hb dX9_layLaw_88 (by decide) ?_
            exact ih19 (j + 1) _ _ _ (by omega) (lw_t (f := (fun v => wF z t ka nl Ac (9 * (18 * u + 2 * sd + ahd) + v))) (v := j) e5 (hT_3 j hj9) c47_6).1 (ex5b.trans (lw_t (f := (fun v => wF z t ka nl Ac (9 * (18 * u + 2 * sd + ahd) + v))) (v := j) e5 (hT_3 j hj9) c47_6).2) (lw_a (f := (fun v => wF z t ka nl Ac (9 * (18 * u + 2 * sd + ahd) + v))) (v := j) e6 (hT_3 j hj9) ex6b) (by omega) _ _ _ hP hD hS (lv_sub hl [4, 5, 6, 7, 2, 1, 3, 0] rfl)
  exact loop19 _ 0 (-1) 0 0 (Nat.zero_le 9) rfl rfl rfl (Nat.lt_succ_self _) _ _ _ hP hD hS (lv_sub hl [4, 5, 6, 7, 3, 2, 1, 0] rfl)
def po_X9_freshen_f (g : GG) (k0 : Nat) (m0 : Nat) (s1 : Int32) (s2 : Int32) (s3 : Int32) (s4 : Int32) (s5 : Int32) (s6 : Int32) (m7 : Nat) (m8 : Nat) (m9 : Nat) (s12 : Int32) (m13 : Nat) (m14 : Nat) (m15 : Nat) (s16 : Int32) (m17 : Nat) (m18 : Nat) (m19 : Nat) (m20 : Nat) (m21 : Nat) (m22 : Nat) (m23 : Nat) (m24 : Nat) (m25 : Nat) (m26 : Nat) (m27 : Nat) (m28 : Nat) (s29 : Int32) (m30 : Nat) (s31 : Int32) (s32 : Int32) (s33 : Int32) (s34 : Int32) (s35 : Int32) (m36 : Nat) (m37 : Nat) (m38 : Nat) (m39 : Nat) (s40 : Int64) (z : Nat) (t : Nat) (K : Nat → Int32) (L : Nat → Int32) (V : Nat → Int32) (fc : Nat → Int32) (fh : Nat → Int32) (fs : Nat → Int32) (Rb : Nat → Int32) (Cg : Nat → Int32) (Ty : Nat → Int32) (W1 : Nat → Int32) (W2 : Nat → Int32) (W3 : Nat → Int32) : va_W → Prop := fun w => ∃ (o9 : Int32) (fc9 : Nat → Int32) (fh9 : Nat → Int32) (fs9 : Nat → Int32) (Rb9 : Nat → Int32) (Cg9 : Nat → Int32) (Ty9 : Nat → Int32) (W19 : Nat → Int32) (W29 : Nat → Int32) (W39 : Nat → Int32), w = [(k0, .inr (9, [.ref m0, .int s1, .int s2, .int s3, .int s4, .int s5, .int s6, .ref m7, .ref m8, .ref m9, .int (nI z), .int (nI t), .int s12, .ref m13, .ref m14, .ref m15, .int o9, .ref m17, .ref m18, .ref m19, .ref m20, .ref m21, .ref m22, .ref m23, .ref m24, .ref m25, .ref m26, .ref m27, .ref m28, .int s29, .ref m30, .int s31, .int s32, .int s33, .int s34, .int s35, .ref m36, .ref m37, .ref m38, .ref m39, .long s40])), (m13, ai g 6 K), (m14, ai g 6 L), (m15, ai g 96 V), (m17, ai g 63 fc9), (m18, ai g 7 fh9), (m19, ai g 4 fs9), (m20, ai g 168 Rb9), (m21, ai g 6 Cg9), (m25, ai g 9 Ty9), (m22, ai g 72 W19), (m23, ai g 72 W29), (m24, ai g 72 W39)] ∧ (SMY z t K L V Rb9 Cg9 W19 W29 W39)
theorem q_X9_freshen_f_f9 : ∀ w ∈ u_ws RX9 TX9 41, w ∈ wsX9_freshen := by decide +kernel
theorem q_X9_freshen_f_1 : (Cond.fieldLink RX9 153 "SoundLawsModel" "old" "Z") ∈ wsX9_freshen := by decide +kernel
theorem q_X9_freshen_f_2 : (Cond.fieldLink RX9 150 "SoundLawsModel" "tongues" "I") ∈ wsX9_freshen := by decide +kernel
set_option maxHeartbeats 1500000 in
set_option maxRecDepth 100000 in
theorem c_X9_freshen_f (l : Launch) (g : GG) (k0 : Nat) (m0 : Nat) (s1 : Int32) (s2 : Int32) (s3 : Int32) (s4 : Int32) (s5 : Int32) (s6 : Int32) (m7 : Nat) (m8 : Nat) (m9 : Nat) (s12 : Int32) (m13 : Nat) (m14 : Nat) (m15 : Nat) (s16 : Int32) (m17 : Nat) (m18 : Nat) (m19 : Nat) (m20 : Nat) (m21 : Nat) (m22 : Nat) (m23 : Nat) (m24 : Nat) (m25 : Nat) (m26 : Nat) (m27 : Nat) (m28 : Nat) (s29 : Int32) (m30 : Nat) (s31 : Int32) (s32 : Int32) (s33 : Int32) (s34 : Int32) (s35 : Int32) (m36 : Nat) (m37 : Nat) (m38 : Nat) (m39 : Nat) (s40 : Int64) (z : Nat) (t : Nat) (K : Nat → Int32) (L : Nat → Int32) (V : Nat → Int32) (fc : Nat → Int32) (fh : Nat → Int32) (fs : Nat → Int32) (Rb : Nat → Int32) (Cg : Nat → Int32) (Ty : Nat → Int32) (W1 : Nat → Int32) (W2 : Nat → Int32) (W3 : Nat → Int32) (hg : gst z t K L V) (hsm : s16 = 0 → SMY z t K L V Rb Cg W1 W2 W3) (sz : Nat) : MetV l yX9_freshen wsX9_freshen ({ frames := 7, cells := 0, slots := 0, locals := 160 }) g [.ref k0] [(k0, .inr (9, [.ref m0, .int s1, .int s2, .int s3, .int s4, .int s5, .int s6, .ref m7, .ref m8, .ref m9, .int (nI z), .int (nI t), .int s12, .ref m13, .ref m14, .ref m15, .int s16, .ref m17, .ref m18, .ref m19, .ref m20, .ref m21, .ref m22, .ref m23, .ref m24, .ref m25, .ref m26, .ref m27, .ref m28, .int s29, .ref m30, .int s31, .int s32, .int s33, .int s34, .int s35, .ref m36, .ref m37, .ref m38, .ref m39, .long s40])), (m13, ai g 6 K), (m14, ai g 6 L), (m15, ai g 96 V), (m17, ai g 63 fc), (m18, ai g 7 fh), (m19, ai g 4 fs), (m20, ai g 168 Rb), (m21, ai g 6 Cg), (m25, ai g 9 Ty), (m22, ai g 72 W1), (m23, ai g 72 W2), (m24, ai g 72 W3)] sz (po_X9_freshen_f g k0 m0 s1 s2 s3 s4 s5 s6 m7 m8 m9 s12 m13 m14 m15 s16 m17 m18 m19 m20 m21 m22 m23 m24 m25 m26 m27 m28 s29 m30 s31 s32 s33 s34 s35 m36 m37 m38 m39 s40 z t K L V fc fh fs Rb Cg Ty W1 W2 W3) 0 0 := by
  refine k_of (l := l) (y := yX9_freshen) (ws := wsX9_freshen) (rm := { frames := 7, cells := 0, slots := 0, locals := 160 }) (mc := 0) (ms := 0) (av := [.ref k0]) (g := g) (wc := [(k0, .inr (9, [.ref m0, .int s1, .int s2, .int s3, .int s4, .int s5, .int s6, .ref m7, .ref m8, .ref m9, .int (nI z), .int (nI t), .int s12, .ref m13, .ref m14, .ref m15, .int s16, .ref m17, .ref m18, .ref m19, .ref m20, .ref m21, .ref m22, .ref m23, .ref m24, .ref m25, .ref m26, .ref m27, .ref m28, .int s29, .ref m30, .int s31, .int s32, .int s33, .int s34, .int s35, .ref m36, .ref m37, .ref m38, .ref m39, .long s40])), (m13, ai g 6 K), (m14, ai g 6 L), (m15, ai g 96 V), (m17, ai g 63 fc), (m18, ai g 7 fh), (m19, ai g 4 fs), (m20, ai g 168 Rb), (m21, ai g 6 Cg), (m25, ai g 9 Ty), (m22, ai g 72 W1), (m23, ai g 72 W2), (m24, ai g 72 W3)]) (Qc := fun A => va_Qv (po_X9_freshen_f g k0 m0 s1 s2 s3 s4 s5 s6 m7 m8 m9 s12 m13 m14 m15 s16 m17 m18 m19 m20 m21 m22 m23 m24 m25 m26 m27 m28 s29 m30 s31 s32 s33 s34 s35 m36 m37 m38 m39 s40 z t K L V fc fh fs Rb Cg Ty W1 W2 W3) (bk g A) A) (cc := cX9_freshen) (maxL := 2) (ret := none) (by decide) rfl (Nat.le_of_ble_eq_true rfl) ?_ sz
  intro p e s m below meth c hx hb hr hts hown hlocks hnm hml A hA hE hZ hP hD hS ls hl
  have hown : s.vm.findClass RX9 = some m.cls := hown
  have hl : lv_has ls 2 [(0, .ref k0)] := hl
  obtain ⟨hz, hzt, ht4, hK, hL, hV⟩ := id hg
  have hp := pic_g hg
  refine lv_aload_n hx hb dX9_freshen_0 rfl (lv_at hl 0 rfl) ?_
  refine va_get (D := g.1) (ci := 9) (v := .int s16) (C := RX9) (T := TX9) (N := 41) hx hb hts q_X9_freshen_f_f9 hown hE.1 hP 0 rfl rfl 16 (by decide) (hts (.fieldLink RX9 153 "SoundLawsModel" "old" "Z") q_X9_freshen_f_1) (fun _ h9 => h9) rfl dX9_freshen_1 ?_
  refine lv_if_ne (tgt := 8) hx hb dX9_freshen_4 (by decide) (fun c4_1 => ?_) (fun c4_1 => ?_)
  · skip
    refine lv_aload_n hx hb dX9_freshen_8 rfl (lv_at hl 0 rfl) ?_
    refine k_cv (wr := [(m25, ai g 9 Ty), (m22, ai g 72 W1), (m23, ai g 72 W2), (m24, ai g 72 W3)]) hP hD hS hA [0, 1, 2, 3, 4, 5, 6, 7, 8] [9, 10, 11, 12] rfl rfl (by decide) (by decide) (va_runV (As := []) (rest := []) ⟨hx, hb, hml, hown, hts⟩ (c_X9_laySets_f l g k0 m0 s1 s2 s3 s4 s5 s6 m7 m8 m9 s12 m13 m14 m15 s16 m17 m18 m19 m20 m21 m22 m23 m24 m25 m26 m27 m28 s29 m30 s31 s32 s33 s34 s35 m36 m37 m38 m39 s40 z t K L V fc fh fs Rb Cg (pK z K) (pN z L) (pA z t L V) (by first | assumption | omega) (by first | assumption | omega) (by first | assumption | omega) hp s.heap.size) (cwV 0 hts gX9_freshen_X9_laySets rfl rfl rfl (by decide +kernel) ⟨Nat.le_of_ble_eq_true rfl, Nat.le_of_ble_eq_true rfl⟩) (k_preV hE hZ hP hD hS hA [0, 1, 2, 3, 4, 5, 6, 7, 8] rfl (by decide) (va_recv hE.1 hP (ci := 9) (q0 := 0) rfl rfl)) rfl rfl hl.1 rfl (lv_room (Nat.le_of_ble_eq_true rfl)) dX9_freshen_9 ⟨Nat.le_of_ble_eq_true rfl, Nat.le_of_ble_eq_true rfl⟩) (fun w1 H locs hw hP hD hS => ?_)
    obtain ⟨fc4_3, fh4_4, fs4_5, Rb4_6, Cg4_7, rfl, hR_8, hC_9⟩ := hw
    have hP : va_P g.1 vwCl [(m25, ai g 9 Ty), (m22, ai g 72 W1), (m23, ai g 72 W2), (m24, ai g 72 W3), (k0, .inr (9, [.ref m0, .int s1, .int s2, .int s3, .int s4, .int s5, .int s6, .ref m7, .ref m8, .ref m9, .int (nI z), .int (nI t), .int s12, .ref m13, .ref m14, .ref m15, .int s16, .ref m17, .ref m18, .ref m19, .ref m20, .ref m21, .ref m22, .ref m23, .ref m24, .ref m25, .ref m26, .ref m27, .ref m28, .int s29, .ref m30, .int s31, .int s32, .int s33, .int s34, .int s35, .ref m36, .ref m37, .ref m38, .ref m39, .long s40])), (m13, ai g 6 K), (m14, ai g 6 L), (m15, ai g 96 V), (m17, ai g 63 fc4_3), (m18, ai g 7 fh4_4), (m19, ai g 4 fs4_5), (m20, ai g 168 Rb4_6), (m21, ai g 6 Cg4_7)] H := hP
    have hD : va_D A [(m25, ai g 9 Ty), (m22, ai g 72 W1), (m23, ai g 72 W2), (m24, ai g 72 W3), (k0, .inr (9, [.ref m0, .int s1, .int s2, .int s3, .int s4, .int s5, .int s6, .ref m7, .ref m8, .ref m9, .int (nI z), .int (nI t), .int s12, .ref m13, .ref m14, .ref m15, .int s16, .ref m17, .ref m18, .ref m19, .ref m20, .ref m21, .ref m22, .ref m23, .ref m24, .ref m25, .ref m26, .ref m27, .ref m28, .int s29, .ref m30, .int s31, .int s32, .int s33, .int s34, .int s35, .ref m36, .ref m37, .ref m38, .ref m39, .long s40])), (m13, ai g 6 K), (m14, ai g 6 L), (m15, ai g 96 V), (m17, ai g 63 fc4_3), (m18, ai g 7 fh4_4), (m19, ai g 4 fs4_5), (m20, ai g 168 Rb4_6), (m21, ai g 6 Cg4_7)] := hD
    refine lv_iconst (v := 0) hx hb dX9_freshen_12 (by decide) ?_
    refine lv_istore_n (lv' := [(1, .int 0), (0, .ref k0)]) hx hb dX9_freshen_13 rfl hl (by decide) rfl (fun ls hl => ?_)
    have loop14 : ∀ (fu : Nat) (j : Nat) (T9 X1 X2 X3 : Nat → Int32), (hj : j ≤ 18 * t) → (hS3 : SLt (wF z t (pK z K) (pN z L) (pA z t L V)) X1 X2 X3 j) → 18 * t - j < fu → ∀ (H : Heap) (locs : List Loc) (ls : Array Slot), va_P g.1 vwCl [(m25, ai g 9 T9), (m22, ai g 72 X1), (m23, ai g 72 X2), (m24, ai g 72 X3), (k0, .inr (9, [.ref m0, .int s1, .int s2, .int s3, .int s4, .int s5, .int s6, .ref m7, .ref m8, .ref m9, .int (nI z), .int (nI t), .int s12, .ref m13, .ref m14, .ref m15, .int s16, .ref m17, .ref m18, .ref m19, .ref m20, .ref m21, .ref m22, .ref m23, .ref m24, .ref m25, .ref m26, .ref m27, .ref m28, .int s29, .ref m30, .int s31, .int s32, .int s33, .int s34, .int s35, .ref m36, .ref m37, .ref m38, .ref m39, .long s40])), (m13, ai g 6 K), (m14, ai g 6 L), (m15, ai g 96 V), (m17, ai g 63 fc4_3), (m18, ai g 7 fh4_4), (m19, ai g 4 fs4_5), (m20, ai g 168 Rb4_6), (m21, ai g 6 Cg4_7)] H → va_D A [(m25, ai g 9 T9), (m22, ai g 72 X1), (m23, ai g 72 X2), (m24, ai g 72 X3), (k0, .inr (9, [.ref m0, .int s1, .int s2, .int s3, .int s4, .int s5, .int s6, .ref m7, .ref m8, .ref m9, .int (nI z), .int (nI t), .int s12, .ref m13, .ref m14, .ref m15, .int s16, .ref m17, .ref m18, .ref m19, .ref m20, .ref m21, .ref m22, .ref m23, .ref m24, .ref m25, .ref m26, .ref m27, .ref m28, .int s29, .ref m30, .int s31, .int s32, .int s33, .int s34, .int s35, .ref m36, .ref m37, .ref m38, .ref m39, .long s40])), (m13, ai g 6 K), (m14, ai g 6 L), (m15, ai g 96 V), (m17, ai g 63 fc4_3), (m18, ai g 7 fh4_4), (m19, ai g 4 fs4_5), (m20, ai g 168 Rb4_6), (m21, ai g 6 Cg4_7)] → va_S A s.heap H locs → lv_has ls 2 [(0, .ref k0), (1, .int (nI j))] → W p l e ({ frames := 7, cells := 0, slots := 0, locals := 160 }) s m [.ref k0].toArray below meth c H locs 0 0 (MQ below (va_Qv (po_X9_freshen_f g k0 m0 s1 s2 s3 s4 s5 s6 m7 m8 m9 s12 m13 m14 m15 s16 m17 m18 m19 m20 m21 m22 m23 m24 m25 m26 m27 m28 s29 m30 s31 s32 s33 s34 s35 m36 m37 m38 m39 s40 z t K L V fc fh fs Rb Cg Ty W1 W2 W3) (bk g A) A) [.ref k0].toArray s 0 0 A) (F0 m 14 ls []) := by
      intro fu
      induction fu with
      | zero => intro j T9 X1 X2 X3 hj hS3 hfu; exact absurd hfu (Nat.not_lt_zero _)
      | succ fu ih =>
        intro j T9 X1 X2 X3 hj hS3 hfu H locs ls hP hD hS hl
        have ih14 := ih
        refine lv_iload_n hx hb dX9_freshen_14 rfl (lv_at hl 1 rfl) ?_
        refine lv_bipush (v := 18) hx hb dX9_freshen_15 (by decide) ?_
        refine lv_aload_n hx hb dX9_freshen_17 rfl (lv_at hl 0 rfl) ?_
        refine va_get (D := g.1) (ci := 9) (v := .int (nI t)) (C := RX9) (T := TX9) (N := 41) hx hb hts q_X9_freshen_f_f9 hown hE.1 hP 4 rfl rfl 11 (by decide) (hts (.fieldLink RX9 150 "SoundLawsModel" "tongues" "I") q_X9_freshen_f_2) (fun _ h9 => h9) rfl dX9_freshen_18 ?_
        refine lv_imul hx hb dX9_freshen_21 ?_
        refine lv_topi (fun x_10 ex_10 => ?_)
        obtain rfl : x_10 = nI (18 * t) := by rw [ex_10]; rw [show (18 : Int32) = nI 18 from rfl, pk_mul]
        refine lv_icmp_ge (tgt := 48) hx hb dX9_freshen_22 (by decide) (fun c22_11 => ?_) (fun c22_11 => ?_)
        · skip
          have hj9 := ge_of_le (k := 18 * t) (n := j) (by omega) (by omega) c22_11
          have hjt : j = 18 * t := by omega
          refine lv_aload_n hx hb dX9_freshen_48 rfl (lv_at hl 0 rfl) ?_
          refine lv_iconst (v := 0) hx hb dX9_freshen_49 (by decide) ?_
          refine va_put (D := g.1) (ci := 9) (v := .int 0) (ty := .boolean) (C := RX9) (T := TX9) (N := 41) hx hb hts q_X9_freshen_f_f9 tyX9 tyX9_ok nmX9 hown hE.1 hP hD hS 4 rfl rfl 16 (by decide) (hts (.fieldLink RX9 153 "SoundLawsModel" "old" "Z") q_X9_freshen_f_1) (fun _ h9 => h9) rfl (by decide +kernel) rfl rfl (Nat.le_of_ble_eq_true rfl) dX9_freshen_50 (fun H locs hP hD hS => ?_)
          have hP : va_P g.1 vwCl [(m25, ai g 9 T9), (m22, ai g 72 X1), (m23, ai g 72 X2), (m24, ai g 72 X3), (k0, .inr (9, [.ref m0, .int s1, .int s2, .int s3, .int s4, .int s5, .int s6, .ref m7, .ref m8, .ref m9, .int (nI z), .int (nI t), .int s12, .ref m13, .ref m14, .ref m15, .int 0, .ref m17, .ref m18, .ref m19, .ref m20, .ref m21, .ref m22, .ref m23, .ref m24, .ref m25, .ref m26, .ref m27, .ref m28, .int s29, .ref m30, .int s31, .int s32, .int s33, .int s34, .int s35, .ref m36, .ref m37, .ref m38, .ref m39, .long s40])), (m13, ai g 6 K), (m14, ai g 6 L), (m15, ai g 96 V), (m17, ai g 63 fc4_3), (m18, ai g 7 fh4_4), (m19, ai g 4 fs4_5), (m20, ai g 168 Rb4_6), (m21, ai g 6 Cg4_7)] H := hP
          have hD : va_D A [(m25, ai g 9 T9), (m22, ai g 72 X1), (m23, ai g 72 X2), (m24, ai g 72 X3), (k0, .inr (9, [.ref m0, .int s1, .int s2, .int s3, .int s4, .int s5, .int s6, .ref m7, .ref m8, .ref m9, .int (nI z), .int (nI t), .int s12, .ref m13, .ref m14, .ref m15, .int 0, .ref m17, .ref m18, .ref m19, .ref m20, .ref m21, .ref m22, .ref m23, .ref m24, .ref m25, .ref m26, .ref m27, .ref m28, .int s29, .ref m30, .int s31, .int s32, .int s33, .int s34, .int s35, .ref m36, .ref m37, .ref m38, .ref m39, .long s40])), (m13, ai g 6 K), (m14, ai g 6 L), (m15, ai g 96 V), (m17, ai g 63 fc4_3), (m18, ai g 7 fh4_4), (m19, ai g 4 fs4_5), (m20, ai g 168 Rb4_6), (m21, ai g 6 Cg4_7)] := hD
          refine W.widen (k := 0) (n := 0) (Nat.le_of_ble_eq_true rfl) (Nat.le_of_ble_eq_true rfl) ?_
          have hP9 := hP.sub (ws' := [(k0, .inr (9, [.ref m0, .int s1, .int s2, .int s3, .int s4, .int s5, .int s6, .ref m7, .ref m8, .ref m9, .int (nI z), .int (nI t), .int s12, .ref m13, .ref m14, .ref m15, .int 0, .ref m17, .ref m18, .ref m19, .ref m20, .ref m21, .ref m22, .ref m23, .ref m24, .ref m25, .ref m26, .ref m27, .ref m28, .int s29, .ref m30, .int s31, .int s32, .int s33, .int s34, .int s35, .ref m36, .ref m37, .ref m38, .ref m39, .long s40])), (m13, ai g 6 K), (m14, ai g 6 L), (m15, ai g 96 V), (m17, ai g 63 fc4_3), (m18, ai g 7 fh4_4), (m19, ai g 4 fs4_5), (m20, ai g 168 Rb4_6), (m21, ai g 6 Cg4_7), (m25, ai g 9 T9), (m22, ai g 72 X1), (m23, ai g 72 X2), (m24, ai g 72 X3)]) [4, 5, 6, 7, 8, 9, 10, 11, 12, 0, 1, 2, 3] rfl
          have hD9 := hD.sub (ws' := [(k0, .inr (9, [.ref m0, .int s1, .int s2, .int s3, .int s4, .int s5, .int s6, .ref m7, .ref m8, .ref m9, .int (nI z), .int (nI t), .int s12, .ref m13, .ref m14, .ref m15, .int 0, .ref m17, .ref m18, .ref m19, .ref m20, .ref m21, .ref m22, .ref m23, .ref m24, .ref m25, .ref m26, .ref m27, .ref m28, .int s29, .ref m30, .int s31, .int s32, .int s33, .int s34, .int s35, .ref m36, .ref m37, .ref m38, .ref m39, .long s40])), (m13, ai g 6 K), (m14, ai g 6 L), (m15, ai g 96 V), (m17, ai g 63 fc4_3), (m18, ai g 7 fh4_4), (m19, ai g 4 fs4_5), (m20, ai g 168 Rb4_6), (m21, ai g 6 Cg4_7), (m25, ai g 9 T9), (m22, ai g 72 X1), (m23, ai g 72 X2), (m24, ai g 72 X3)]) [4, 5, 6, 7, 8, 9, 10, 11, 12, 0, 1, 2, 3] (by decide) rfl
          exact k_rv hx hb hr hlocks hS hP9 hD9 ⟨0, fc4_3, fh4_4, fs4_5, Rb4_6, Cg4_7, T9, X1, X2, X3, rfl, ⟨hR_8, hC_9, (by rw [hjt] at hS3; exact hS3)⟩⟩ dX9_freshen_53
        · skip
          have hj9 := lt_of_nle (k := 18 * t) (n := j) (by omega) (by omega) c22_11
          have hix : 18 * (j / 18) + 2 * (j % 18 / 2) + j % 2 = j := by omega
          refine lv_aload_n hx hb dX9_freshen_25 rfl (lv_at hl 0 rfl) ?_
          refine lv_iload_n hx hb dX9_freshen_26 rfl (lv_at hl 1 rfl) ?_
          refine lv_bipush (v := 18) hx hb dX9_freshen_27 (by decide) ?_
          refine lv_idiv hx hb dX9_freshen_29 (by decide) ?_
          refine lv_topi (fun x_12 ex_12 => ?_)
          obtain rfl : x_12 = nI (j / 18) := by rw [ex_12]; exact pk_div (d := 18) (by omega) (by decide) (by decide)
          refine lv_iload_n hx hb dX9_freshen_30 rfl (lv_at hl 1 rfl) ?_
          refine lv_bipush (v := 18) hx hb dX9_freshen_31 (by decide) ?_
          refine lv_irem hx hb dX9_freshen_33 (by decide) ?_
          refine lv_topi (fun x_13 ex_13 => ?_)
          obtain rfl : x_13 = nI (j % 18) := by rw [ex_13]; exact pk_rem (d := 18) (by omega) (by decide) (by decide)
          refine lv_iconst (v := 2) hx hb dX9_freshen_34 (by decide) ?_
          refine lv_idiv hx hb dX9_freshen_35 (by decide) ?_
          refine lv_topi (fun x_14 ex_14 => ?_)
          obtain rfl : x_14 = nI (j % 18 / 2) := by rw [ex_14]; exact pk_div (d := 2) (by omega) (by decide) (by decide)
          refine lv_iload_n hx hb dX9_freshen_36 rfl (lv_at hl 1 rfl) ?_
          refine lv_iconst (v := 2) hx hb dX9_freshen_37 (by decide) ?_
          refine lv_irem hx hb dX9_freshen_38 (by decide) ?_
          refine lv_topi (fun x_15 ex_15 => ?_)
          obtain rfl : x_15 = nI (j % 2) := by rw [ex_15]; exact pk_rem (d := 2) (by omega) (by decide) (by decide)
          refine k_cv (wr := [(m17, ai g 63 fc4_3), (m18, ai g 7 fh4_4), (m19, ai g 4 fs4_5), (m21, ai g 6 Cg4_7)]) hP hD hS hA [4, 5, 6, 7, 11, 0, 1, 2, 3] [8, 9, 10, 12] rfl rfl (by decide) (by decide) (va_runV (As := [.int (nI (j / 18)), .int (nI (j % 18 / 2)), .int (nI (j % 2))]) (rest := []) ⟨hx, hb, hml, hown, hts⟩ (c_X9_layLaw_f l g k0 m0 s1 s2 s3 s4 s5 s6 m7 m8 m9 s12 m13 m14 m15 s16 m17 m18 m19 m20 m21 m22 m23 m24 m25 m26 m27 m28 s29 m30 s31 s32 s33 s34 s35 m36 m37 m38 m39 s40 z t K L V Rb4_6 T9 X1 X2 X3 (pK z K) (pN z L) (pA z t L V) (j / 18) (j % 18 / 2) (j % 2) (by first | assumption | omega) (by first | assumption | omega) (by first | assumption | omega) hp hR_8 (by first | assumption | omega) (by first | assumption | omega) (by first | assumption | omega) H.size) (cwV 3 hts gX9_freshen_X9_layLaw rfl rfl rfl (by decide +kernel) ⟨Nat.le_of_ble_eq_true rfl, Nat.le_of_ble_eq_true rfl⟩) (k_preV hE hZ hP hD hS hA [4, 5, 6, 7, 11, 0, 1, 2, 3] rfl (by decide) (va_recv hE.1 hP (ci := 9) (q0 := 4) rfl rfl)) rfl rfl hl.1 rfl (lv_room (Nat.le_of_ble_eq_true rfl)) dX9_freshen_39 ⟨Nat.le_of_ble_eq_true rfl, Nat.le_of_ble_eq_true rfl⟩) (fun w1 H locs hw hP hD hS => ?_)
          obtain ⟨X1_17, X2_18, X3_19, Ty2_20, rfl, hX1_21, hX2_22, hX3_23⟩ := hw
          have hP : va_P g.1 vwCl [(m17, ai g 63 fc4_3), (m18, ai g 7 fh4_4), (m19, ai g 4 fs4_5), (m21, ai g 6 Cg4_7), (k0, .inr (9, [.ref m0, .int s1, .int s2, .int s3, .int s4, .int s5, .int s6, .ref m7, .ref m8, .ref m9, .int (nI z), .int (nI t), .int s12, .ref m13, .ref m14, .ref m15, .int s16, .ref m17, .ref m18, .ref m19, .ref m20, .ref m21, .ref m22, .ref m23, .ref m24, .ref m25, .ref m26, .ref m27, .ref m28, .int s29, .ref m30, .int s31, .int s32, .int s33, .int s34, .int s35, .ref m36, .ref m37, .ref m38, .ref m39, .long s40])), (m13, ai g 6 K), (m14, ai g 6 L), (m15, ai g 96 V), (m20, ai g 168 Rb4_6), (m25, ai g 9 Ty2_20), (m22, ai g 72 X1_17), (m23, ai g 72 X2_18), (m24, ai g 72 X3_19)] H := hP
          have hD : va_D A [(m17, ai g 63 fc4_3), (m18, ai g 7 fh4_4), (m19, ai g 4 fs4_5), (m21, ai g 6 Cg4_7), (k0, .inr (9, [.ref m0, .int s1, .int s2, .int s3, .int s4, .int s5, .int s6, .ref m7, .ref m8, .ref m9, .int (nI z), .int (nI t), .int s12, .ref m13, .ref m14, .ref m15, .int s16, .ref m17, .ref m18, .ref m19, .ref m20, .ref m21, .ref m22, .ref m23, .ref m24, .ref m25, .ref m26, .ref m27, .ref m28, .int s29, .ref m30, .int s31, .int s32, .int s33, .int s34, .int s35, .ref m36, .ref m37, .ref m38, .ref m39, .long s40])), (m13, ai g 6 K), (m14, ai g 6 L), (m15, ai g 96 V), (m20, ai g 168 Rb4_6), (m25, ai g 9 Ty2_20), (m22, ai g 72 X1_17), (m23, ai g 72 X2_18), (m24, ai g 72 X3_19)] := hD
          refine lv_iinc (v := (nI (j + 1))) (lv' := [(1, .int (nI (j + 1))), (0, .ref k0)]) hx hb dX9_freshen_42 hl (k := 1) rfl (nI_1 _) (by decide) rfl (fun ls hl => ?_)
          refine lv_goto (tgt := 14) hx hb dX9_freshen_45 (by decide) ?_
          exact ih14 (j + 1) _ _ _ _ (by omega) (SL_s hS3 (by have h9 := hX1_21; rw [hix] at h9; exact h9) (by have h9 := hX2_22; rw [hix] at h9; exact h9) (by have h9 := hX3_23; rw [hix] at h9; exact h9)) (by omega) _ _ _ (hP.sub [9, 10, 11, 12, 4, 5, 6, 7, 0, 1, 2, 8, 3] rfl) (hD.sub [9, 10, 11, 12, 4, 5, 6, 7, 0, 1, 2, 8, 3] (by decide) rfl) hS (lv_sub hl [1, 0] rfl)
    exact loop14 _ 0 Ty W1 W2 W3 (Nat.zero_le _) SL_0 (Nat.lt_succ_self _) _ _ _ hP hD hS (lv_sub hl [1, 0] rfl)
  · skip
    refine W.widen (k := 0) (n := 0) (Nat.le_of_ble_eq_true rfl) (Nat.le_of_ble_eq_true rfl) ?_
    exact k_rv hx hb hr hlocks hS hP hD ⟨s16, fc, fh, fs, Rb, Cg, Ty, W1, W2, W3, rfl, (hsm c4_1)⟩ dX9_freshen_7

/-! the sets as a picture: kinds, lengths, sounds -/
def PIC (z t : Nat) (K L V : Nat → Int32) (ka n : Nat → Nat) (A : Nat → Nat → Nat → Nat) : Prop := ∀ k, k < z → (K k = nI (ka k) ∧ ka k < 5) ∧ (L k = nI (n k) ∧ n k < 5) ∧ ∀ q, q < n k → ∀ u, u < t → V (16 * k + 4 * u + q) = nI (A k q u) ∧ A k q u < 9
def pK (z : Nat) (K : Nat → Int32) (k : Nat) : Nat := if k < z then sN K k else 0
def pN (z : Nat) (L : Nat → Int32) (k : Nat) : Nat := if k < z then sN L k else 0
def pA (z t : Nat) (L V : Nat → Int32) (k q u : Nat) : Nat := if k < z ∧ q < sN L k ∧ u < t then sN V (16 * k + 4 * u + q) else 0
theorem sN_of {M : Nat → Int32} {i v : Nat} (h : M i = nI v) (hv : v < 2 ^ 31) : sN M i = v := by unfold sN; rw [h, nI_clamp hv]
theorem pic_g {z t : Nat} {K L V : Nat → Int32} (h : gst z t K L V) : PIC z t K L V (pK z K) (pN z L) (pA z t L V) := fun k hk => by
  obtain ⟨hz, hzt, ht4, hK, hL, hV⟩ := h
  obtain ⟨kk, hkk, ekk⟩ := hK k (by omega)
  obtain ⟨n, hn, en⟩ := hL k (by omega)
  have e1 : pK z K k = kk := by unfold pK; rw [if_pos hk, sN_of ekk (by omega)]
  have e2 : pN z L k = n := by unfold pN; rw [if_pos hk, sN_of en (by omega)]
  refine ⟨by rw [e1]; exact ⟨ekk, hkk⟩, by rw [e2]; exact ⟨en, hn⟩, fun q hq u hu => ?_⟩
  rw [e2] at hq
  obtain ⟨v, hv, ev⟩ := hV (16 * k + 4 * u + q) (by omega)
  have e3 : pA z t L V k q u = v := by
    unfold pA
    rw [if_pos ⟨hk, by rw [sN_of en (by omega)]; exact hq, hu⟩, sN_of ev (by omega)]
  rw [e3]
  exact ⟨ev, hv⟩
theorem pic_eq {z t : Nat} {K L V Km Lm Vm : Nat → Int32} (hL : rng 6 5 L) (hz : z ≤ 6) (h : EQs z t K L V Km Lm Vm) : pK z Km = pK z K ∧ pN z Lm = pN z L ∧ pA z t Lm Vm = pA z t L V := by
  refine ⟨funext fun k => ?_, funext fun k => ?_, funext fun k => funext fun q => funext fun u => ?_⟩
  · unfold pK
    by_cases hk : k < z
    · rw [if_pos hk, if_pos hk]; unfold sN; rw [(h k hk).1]
    · rw [if_neg hk, if_neg hk]
  · unfold pN
    by_cases hk : k < z
    · rw [if_pos hk, if_pos hk]; unfold sN; rw [(h k hk).2.1]
    · rw [if_neg hk, if_neg hk]
  · unfold pA
    by_cases hk : k < z
    · have eL : sN Lm k = sN L k := by unfold sN; rw [(h k hk).2.1]
      rw [eL]
      by_cases hc : k < z ∧ q < sN L k ∧ u < t
      · rw [if_pos hc, if_pos hc]
        obtain ⟨n, hn, en⟩ := hL k (by omega)
        have e2 := sN_of en (by omega)
        have e3 := (h k hk).2.2 u hc.2.2 q (by omega) (by rw [en]; exact nI_lt (by omega) (by omega))
        unfold sN
        rw [e3]
      · rw [if_neg hc, if_neg hc]
    · rw [if_neg (fun c => hk c.1), if_neg (fun c => hk c.1)]
/-! changes -/
def chQ (t : Nat) (A : Nat → Nat → Nat → Nat) (k q : Nat) : Int32 := SP t (A k q) (2 * t - 2) (OR t (A k q))
def chS (t : Nat) (A : Nat → Nat → Nat → Nat) (k : Nat) : Nat → Int32
  | 0 => 0
  | q + 1 => chS t A k q + chQ t A k q
def chK (t : Nat) (ka n : Nat → Nat) (A : Nat → Nat → Nat → Nat) (k : Nat) : Int32 := if rb (ka k) = 0 then (-1) else chS t A k (n k)
def chE (t : Nat) (ka n : Nat → Nat) (A : Nat → Nat → Nat → Nat) (k : Nat) : Int32 := if rb (ka k) = 0 then 0 else chS t A k (n k)
def chZ (t : Nat) (ka n : Nat → Nat) (A : Nat → Nat → Nat → Nat) : Nat → Int32
  | 0 => 0
  | k + 1 => chZ t ka n A k + chE t ka n A k
theorem rb_01 : ∀ k, k < 5 → nI (rb k) = irb (nI k) := by decide
theorem rb_z : ∀ k, k < 5 → (nI (rb k) = 0 ↔ rb k = 0) := by decide
theorem wg_z : ∀ k, k < 5 → (nI (wg k) = 0 ↔ wg k = 0) := by decide
theorem wg_3 : ∀ k, k < 5 → wg k < 3 := by decide
theorem wg_p : ∀ k, k < 5 → (¬ wg k = 0 → 0 < nI (wg k)) := by decide
theorem wg_rb : ∀ k, k < 5 → ¬ wg k = 0 → ¬ rb k = 0 := by decide
/-! weights by the flat place 9 * law + sound -/
def wU (t : Nat) (A : Nat → Nat → Nat → Nat) (k q : Nat) (x : Int32) (j : Nat) : Nat → Int32
  | 0 => 0
  | u + 1 => wU t A k q x j u + if j = 9 * (18 * u + 2 * OR t (A k q) + ah q) + A k q u then x else 0
def wQ (t : Nat) (A : Nat → Nat → Nat → Nat) (k : Nat) (x : Int32) (j : Nat) : Nat → Int32
  | 0 => 0
  | q + 1 => wQ t A k x j q + wU t A k q x j t
def wK (t : Nat) (ka n : Nat → Nat) (A : Nat → Nat → Nat → Nat) (j k : Nat) : Int32 := if wg (ka k) = 0 then 0 else wQ t A k (nI (wg (ka k))) j (n k)
def wZ (t : Nat) (ka n : Nat → Nat) (A : Nat → Nat → Nat → Nat) (j : Nat) : Nat → Int32
  | 0 => 0
  | k + 1 => wZ t ka n A j k + wK t ka n A j k
def wF (z t : Nat) (ka n : Nat → Nat) (A : Nat → Nat → Nat → Nat) (j : Nat) : Int32 := wZ t ka n A j z
/-! laws of a row of weights -/
def lwG (f : Nat → Int32) : Nat → Int32
  | 0 => 0
  | v + 1 => if lwG f v < f v then f v else lwG f v
def lwB (f : Nat → Int32) : Nat → Int32
  | 0 => (-1)
  | v + 1 => if lwG f v < f v then nI v else lwB f v
def lwA (f : Nat → Int32) : Nat → Int32
  | 0 => 0
  | v + 1 => lwA f v + f v
def laB (F : Nat → Int32) (i : Nat) : Int32 := lwB (fun v => F (9 * i + v)) 9
def laG (F : Nat → Int32) (i : Nat) : Int32 := lwG (fun v => F (9 * i + v)) 9
def laX (F : Nat → Int32) (i : Nat) : Int32 := lwA (fun v => F (9 * i + v)) 9 - lwG (fun v => F (9 * i + v)) 9
def knZ (F : Nat → Int32) : Nat → Int32
  | 0 => 0
  | i + 1 => knZ F i + if laB F i = (-1) then 0 else 1
def xoZ (F : Nat → Int32) : Nat → Int32
  | 0 => 0
  | i + 1 => xoZ F i + laX F i
theorem lwG_t {f : Nat → Int32} {v : Nat} (h : lwG f v < f v) : lwG f (v + 1) = f v := by simp only [lwG, if_pos h]
theorem lwG_f {f : Nat → Int32} {v : Nat} (h : ¬ lwG f v < f v) : lwG f (v + 1) = lwG f v := by simp only [lwG, if_neg h]
theorem lwB_t {f : Nat → Int32} {v : Nat} (h : lwG f v < f v) : lwB f (v + 1) = nI v := by simp only [lwB, if_pos h]
theorem lwB_f {f : Nat → Int32} {v : Nat} (h : ¬ lwG f v < f v) : lwB f (v + 1) = lwB f v := by simp only [lwB, if_neg h]
theorem lwB_in (f : Nat → Int32) : ∀ v, lwB f v = (-1) ∨ ∃ s, s < v ∧ lwB f v = nI s
  | 0 => Or.inl rfl
  | v + 1 => by
    by_cases h : lwG f v < f v
    · exact Or.inr ⟨v, Nat.lt_succ_self v, lwB_t h⟩
    · rw [lwB_f h]
      rcases lwB_in f v with e | ⟨s, hs, e⟩
      · exact Or.inl e
      · exact Or.inr ⟨s, by omega, e⟩
/-! the strange -/
def stQ (t : Nat) (A : Nat → Nat → Nat → Nat) (F : Nat → Int32) (k u : Nat) : Nat → Int32
  | 0 => 0
  | q + 1 => stQ t A F k u q + if ¬ laB F (18 * u + 2 * OR t (A k q) + ah q) = (-1) ∧ ¬ laB F (18 * u + 2 * OR t (A k q) + ah q) = nI (A k q u) then 1 else 0
def stN (t : Nat) (ka n : Nat → Nat) (A : Nat → Nat → Nat → Nat) (F : Nat → Int32) (k u : Nat) : Int32 := if rb (ka k) = 0 then 0 else stQ t A F k u (n k)
/-! what is held of the study: of the class, of the reference -/
def SDa (z t : Nat) (ka n : Nat → Nat) (A : Nat → Nat → Nat → Nat) (S1 : Nat → Int32) : Prop := ∀ k, k < z → ¬ rb (ka k) = 0 → ∀ q, q < n k → ∀ m, m < 2 * t - 1 → S1 (28 * k + 7 * q + m) = nI (OS t (A k q) m)
def SDl (t : Nat) (F F1 F2 F3 : Nat → Int32) : Prop := ∀ i, i < 18 * t → F1 i = laB F i ∧ F2 i = laG F i ∧ F3 i = laX F i
def SDs (z t : Nat) (ka n : Nat → Nat) (A : Nat → Nat → Nat → Nat) (F S3 : Nat → Int32) : Prop := ∀ k, k < z → ∀ u, u < 4 → S3 (4 * k + u) = if u < t then stN t ka n A F k u else 0
def STD (z t : Nat) (ka n : Nat → Nat) (A : Nat → Nat → Nat → Nat) (S1 S2 S3 F1 F2 F3 : Nat → Int32) (chg kn xo : Int32) : Prop := SDa z t ka n A S1 ∧ (∀ k, k < z → S2 k = chK t ka n A k) ∧ SDs z t ka n A (wF z t ka n A) S3 ∧ SDl t (wF z t ka n A) F1 F2 F3 ∧ chg = chZ t ka n A z ∧ kn = knZ (wF z t ka n A) (18 * t) ∧ xo = xoZ (wF z t ka n A) (18 * t)
def SMr (z t : Nat) (ka n : Nat → Nat) (A : Nat → Nat → Nat → Nat) (Rb : Nat → Int32) : Prop := ∀ k, k < z → ∀ q, q < n k → ∀ m, m < 2 * t - 1 → Rb (28 * k + 7 * q + m) = if m < t then nI (A k q m) else if rb (ka k) = 0 then (-1) else nI (OS t (A k q) m)
def STM (z t : Nat) (ka n : Nat → Nat) (A : Nat → Nat → Nat → Nat) (Rb Cg W1 W2 W3 : Nat → Int32) : Prop := SMr z t ka n A Rb ∧ (∀ k, k < z → Cg k = chK t ka n A k) ∧ SDl t (wF z t ka n A) W1 W2 W3
def SDY (z t : Nat) (K L V S1 S2 S3 F1 F2 F3 : Nat → Int32) (chg kn xo : Int32) : Prop := STD z t (pK z K) (pN z L) (pA z t L V) S1 S2 S3 F1 F2 F3 chg kn xo
def SMY (z t : Nat) (K L V Rb Cg W1 W2 W3 : Nat → Int32) : Prop := STM z t (pK z K) (pN z L) (pA z t L V) Rb Cg W1 W2 W3
/-! steps of the class -/
theorem upp {f : Nat → Int32} {k : Nat} {x y : Int32} (i : Nat) : upd (upd f k x) k y i = upd f k y i := by
  by_cases e : i = k
  · rw [e, pk_us, pk_us]
  · rw [pk_un e, pk_un e, pk_un e]
def RBt (t : Nat) (A : Nat → Nat → Nat → Nat) (k q : Nat) (S1 T1 : Nat → Int32) : Prop := (∀ i, (i < 28 * k ∨ 28 * k + 28 ≤ i) → T1 i = S1 i) ∧ ∀ y, y < q → ∀ m, m < 2 * t - 1 → T1 (28 * k + 7 * y + m) = nI (OS t (A k y) m)
theorem RB_0 {t k : Nat} {A : Nat → Nat → Nat → Nat} {S1 : Nat → Int32} : RBt t A k 0 S1 S1 := ⟨fun _ _ => rfl, fun y h => absurd h (Nat.not_lt_zero y)⟩
theorem RB_s {t k q : Nat} {A : Nat → Nat → Nat → Nat} {S1 T1 f : Nat → Int32} (ht4 : t ≤ 4) (hq : q < 4) (h : RBt t A k q S1 T1) (hf : ∀ m, m < 2 * t - 1 → f m = nI (OS t (A k q) m)) : RBt t A k (q + 1) S1 (va_cpy f T1 0 (28 * k + 7 * q) 7) := by
  refine ⟨fun i hi => ?_, fun y hy m hm => ?_⟩
  · rw [pk_cpy_out (by omega)]; exact h.1 i hi
  · by_cases e : y = q
    · subst e
      rw [pk_cpy_in (by omega) (by omega), show 0 + (28 * k + 7 * y + m - (28 * k + 7 * y)) = m by omega]
      exact hf m hm
    · rw [pk_cpy_out (by omega)]; exact h.2 y (by omega) m hm
def WQt (t : Nat) (A : Nat → Nat → Nat → Nat) (k q : Nat) (x : Int32) (F G : Nat → Int32) : Prop := ∀ j, j < 648 → G j = F j + wQ t A k x j q
def WUt (t : Nat) (A : Nat → Nat → Nat → Nat) (k q u : Nat) (x : Int32) (F G : Nat → Int32) : Prop := ∀ j, j < 648 → G j = F j + wU t A k q x j u
theorem WQ_0 {t k : Nat} {A : Nat → Nat → Nat → Nat} {x : Int32} {F : Nat → Int32} : WQt t A k 0 x F F := fun j _ => (Int32.add_zero (F j)).symm
theorem WU_0 {t k q : Nat} {A : Nat → Nat → Nat → Nat} {x : Int32} {F : Nat → Int32} : WUt t A k q 0 x F F := fun j _ => (Int32.add_zero (F j)).symm
theorem WU_s {t k q u : Nat} {A : Nat → Nat → Nat → Nat} {x : Int32} {F G : Nat → Int32} (h : WUt t A k q u x F G) : WUt t A k q (u + 1) x F (upd G (9 * (18 * u + 2 * OR t (A k q) + ah q) + A k q u) (G (9 * (18 * u + 2 * OR t (A k q) + ah q) + A k q u) + x)) := fun j hj => by
  show _ = F j + (wU t A k q x j u + if j = 9 * (18 * u + 2 * OR t (A k q) + ah q) + A k q u then x else 0)
  by_cases e : j = 9 * (18 * u + 2 * OR t (A k q) + ah q) + A k q u
  · rw [if_pos e, ← e, pk_us, h j hj, Int32.add_assoc]
  · rw [if_neg e, pk_un e, h j hj, Int32.add_zero]
theorem WQ_s {t k q : Nat} {A : Nat → Nat → Nat → Nat} {x : Int32} {F G H : Nat → Int32} (h : WQt t A k q x F G) (h2 : WUt t A k q t x G H) : WQt t A k (q + 1) x F H := fun j hj => by
  rw [h2 j hj, h j hj, Int32.add_assoc]
  rfl
theorem lw_t {f : Nat → Int32} {v : Nat} {g x : Int32} (e3 : g = lwG f v) (e6 : x = f v) (h : ¬ x ≤ g) : nI v = lwB f (v + 1) ∧ x = lwG f (v + 1) := by
  have q : lwG f v < f v := by rw [← e3, ← e6]; exact i_nle h
  exact ⟨(lwB_t q).symm, e6.trans (lwG_t q).symm⟩
theorem lw_f {f : Nat → Int32} {v : Nat} {b g x : Int32} (e2 : b = lwB f v) (e3 : g = lwG f v) (e6 : x = f v) (h : x ≤ g) : b = lwB f (v + 1) ∧ g = lwG f (v + 1) := by
  have q : ¬ lwG f v < f v := by rw [← e3, ← e6]; exact i_nlt h
  exact ⟨e2.trans (lwB_f q).symm, e3.trans (lwG_f q).symm⟩
theorem lw_a {f : Nat → Int32} {v : Nat} {a x y : Int32} (e4 : a = lwA f v) (e6 : x = f v) (ey : y = a + x) : y = lwA f (v + 1) := by
  rw [ey, e4, e6]
  rfl
def SLt (F G1 G2 G3 : Nat → Int32) (j : Nat) : Prop := ∀ i, i < j → G1 i = laB F i ∧ G2 i = laG F i ∧ G3 i = laX F i
theorem SL_0 {F G1 G2 G3 : Nat → Int32} : SLt F G1 G2 G3 0 := fun i h => absurd h (Nat.not_lt_zero i)
theorem SL_s {F G1 G2 G3 H1 H2 H3 : Nat → Int32} {j : Nat} (h : SLt F G1 G2 G3 j) (e1 : H1 = upd G1 j (laB F j)) (e2 : H2 = upd G2 j (laG F j)) (e3 : H3 = upd G3 j (laX F j)) : SLt F H1 H2 H3 (j + 1) := fun i hi => by
  rw [e1, e2, e3]
  by_cases e : i = j
  · rw [e, pk_us, pk_us, pk_us]; exact ⟨rfl, rfl, rfl⟩
  · rw [pk_un e, pk_un e, pk_un e]; exact h i (by omega)
theorem kn_t {F : Nat → Int32} {j : Nat} {x : Int32} (e : x = knZ F j) (h : laB F j = (-1)) : x = knZ F (j + 1) := by
  show x = knZ F j + if laB F j = (-1) then 0 else 1
  rw [if_pos h, Int32.add_zero]; exact e
theorem kn_f {F : Nat → Int32} {j : Nat} {x y : Int32} (e : x = knZ F j) (h : ¬ laB F j = (-1)) (ey : y = x + 1) : y = knZ F (j + 1) := by
  show y = knZ F j + if laB F j = (-1) then 0 else 1
  rw [if_neg h, ey, e]
theorem xo_s {F : Nat → Int32} {j : Nat} {x y d : Int32} (e : x = xoZ F j) (hd : d = laX F j) (ey : y = x + d) : y = xoZ F (j + 1) := by
  rw [ey, e, hd]; rfl
/-! the strange, step by step -/
def FZt (k u : Nat) (S T : Nat → Int32) : Prop := (∀ i, (i < 4 * k ∨ 4 * k + 4 ≤ i) → T i = S i) ∧ ∀ v, v < u → T (4 * k + v) = 0
def FQt (t : Nat) (A : Nat → Nat → Nat → Nat) (F : Nat → Int32) (k q : Nat) (S T : Nat → Int32) : Prop := (∀ i, (i < 4 * k ∨ 4 * k + 4 ≤ i) → T i = S i) ∧ ∀ v, v < 4 → T (4 * k + v) = if v < t then stQ t A F k v q else 0
def FUt (t : Nat) (A : Nat → Nat → Nat → Nat) (F : Nat → Int32) (k q u : Nat) (S T : Nat → Int32) : Prop := (∀ i, (i < 4 * k ∨ 4 * k + 4 ≤ i) → T i = S i) ∧ ∀ v, v < 4 → T (4 * k + v) = if v < t then (if v < u then stQ t A F k v (q + 1) else stQ t A F k v q) else 0
theorem FZ_0 {k : Nat} {S : Nat → Int32} : FZt k 0 S S := ⟨fun _ _ => rfl, fun v h => absurd h (Nat.not_lt_zero v)⟩
theorem FZ_s {k u : Nat} {S T : Nat → Int32} (hu : u < 4) (h : FZt k u S T) : FZt k (u + 1) S (upd T (4 * k + u) 0) := by
  refine ⟨fun i hi => ?_, fun v hv => ?_⟩
  · rw [pk_un (by omega)]; exact h.1 i hi
  · by_cases e : v = u
    · rw [e, pk_us]
    · rw [pk_un (by omega)]; exact h.2 v (by omega)
section FS
variable {t k q u : Nat} {A : Nat → Nat → Nat → Nat} {F S T : Nat → Int32}
theorem FQ_0 (h : FZt k 4 S T) : FQt t A F k 0 S T := ⟨h.1, fun v hv => by
  rw [h.2 v hv]
  split <;> rfl⟩
theorem FU_0 (h : FQt t A F k q S T) : FUt t A F k q 0 S T := ⟨h.1, fun v hv => by
  rw [h.2 v hv, if_neg (show ¬ v < 0 from Nat.not_lt_zero v)]⟩
theorem FU_t (h : FUt t A F k q t S T) : FQt t A F k (q + 1) S T := ⟨h.1, fun v hv => by
  rw [h.2 v hv]
  by_cases e : v < t
  · rw [if_pos e, if_pos e, if_pos e]
  · rw [if_neg e, if_neg e]⟩
theorem FU_no (hu : u < t) (h : FUt t A F k q u S T) (c : laB F (18 * u + 2 * OR t (A k q) + ah q) = (-1) ∨ laB F (18 * u + 2 * OR t (A k q) + ah q) = nI (A k q u)) : FUt t A F k q (u + 1) S T := ⟨h.1, fun v hv => by
  rw [h.2 v hv]
  by_cases e : v = u
  · subst e
    rw [if_pos hu, if_pos hu, if_neg (Nat.lt_irrefl v), if_pos (Nat.lt_succ_self v)]
    show _ = stQ t A F k v q + if ¬ laB F (18 * v + 2 * OR t (A k q) + ah q) = (-1) ∧ ¬ laB F (18 * v + 2 * OR t (A k q) + ah q) = nI (A k q v) then 1 else 0
    rw [if_neg (fun w => c.elim w.1 w.2), Int32.add_zero]
  · by_cases e2 : v < t
    · rw [if_pos e2, if_pos e2]
      by_cases e3 : v < u
      · rw [if_pos e3, if_pos (Nat.lt_succ_of_lt e3)]
      · rw [if_neg e3, if_neg (by omega)]
    · rw [if_neg e2, if_neg e2]⟩
theorem FU_hit (hu : u < t) (hu4 : u < 4) (h : FUt t A F k q u S T) {x : Int32} (c1 : ¬ laB F (18 * u + 2 * OR t (A k q) + ah q) = (-1)) (c2 : ¬ laB F (18 * u + 2 * OR t (A k q) + ah q) = nI (A k q u)) (hx9 : x = T (4 * k + u) + 1) : FUt t A F k q (u + 1) S (upd T (4 * k + u) x) := by
  refine ⟨fun i hi => ?_, fun v hv => ?_⟩
  · rw [pk_un (by omega)]; exact h.1 i hi
  · by_cases e : v = u
    · subst e
      rw [pk_us, if_pos hu, if_pos (Nat.lt_succ_self v), hx9, h.2 v hv, if_pos hu, if_neg (Nat.lt_irrefl v)]
      show _ = stQ t A F k v q + if ¬ laB F (18 * v + 2 * OR t (A k q) + ah q) = (-1) ∧ ¬ laB F (18 * v + 2 * OR t (A k q) + ah q) = nI (A k q v) then 1 else 0
      rw [if_pos ⟨c1, c2⟩]
    · rw [pk_un (by omega), h.2 v hv]
      by_cases e2 : v < t
      · rw [if_pos e2, if_pos e2]
        by_cases e3 : v < u
        · rw [if_pos e3, if_pos (Nat.lt_succ_of_lt e3)]
        · rw [if_neg e3, if_neg (by omega)]
      · rw [if_neg e2, if_neg e2]
end FS
/-! all sets, one behind another -/
theorem SDa_0 {t : Nat} {ka n : Nat → Nat} {A : Nat → Nat → Nat → Nat} {S : Nat → Int32} : SDa 0 t ka n A S := fun k h => absurd h (Nat.not_lt_zero k)
theorem SDa_s {a t : Nat} {ka n : Nat → Nat} {A : Nat → Nat → Nat → Nat} {S T : Nat → Int32} (ht4 : t ≤ 4) (hn : ∀ k, k ≤ a → n k < 5) (h : SDa a t ka n A S) (h1 : ∀ i, (i < 28 * a ∨ 28 * a + 28 ≤ i) → T i = S i) (h2 : ¬ rb (ka a) = 0 → ∀ q, q < n a → ∀ m, m < 2 * t - 1 → T (28 * a + 7 * q + m) = nI (OS t (A a q) m)) : SDa (a + 1) t ka n A T := fun k hk hr q hq m hm => by
  by_cases e : k = a
  · subst e; exact h2 hr q hq m hm
  · have := hn k (by omega)
    rw [h1 _ (by omega)]
    exact h k (by omega) hr q hq m hm
theorem chk_s {a : Nat} {c : Nat → Int32} {S T : Nat → Int32} (h : ∀ k, k < a → S k = c k) (h3 : ∀ i, T i = upd S a (c a) i) : ∀ k, k < a + 1 → T k = c k := fun k hk => by
  rw [h3]
  by_cases e : k = a
  · rw [e, pk_us]
  · rw [pk_un e]; exact h k (by omega)
theorem SDs_0 {t : Nat} {ka n : Nat → Nat} {A : Nat → Nat → Nat → Nat} {F S : Nat → Int32} : SDs 0 t ka n A F S := fun k h => absurd h (Nat.not_lt_zero k)
theorem SDs_s {a t : Nat} {ka n : Nat → Nat} {A : Nat → Nat → Nat → Nat} {F S T : Nat → Int32} (h : SDs a t ka n A F S) (h1 : ∀ i, (i < 4 * a ∨ 4 * a + 4 ≤ i) → T i = S i) (h2 : ∀ u, u < 4 → T (4 * a + u) = if u < t then stN t ka n A F a u else 0) : SDs (a + 1) t ka n A F T := fun k hk u hu => by
  by_cases e : k = a
  · subst e; exact h2 u hu
  · rw [h1 _ (by omega)]; exact h k (by omega) u hu
def po_X6_oldSound_f (g : GG) (sy : Nat) (y1 : Nat) (y2 : Nat) (y3 : Nat) (lw : Nat) (tr : Nat) (chg : Int32) (S1 : Nat → Int32) (sk : Nat) (s1 : Nat) (s2 : Nat) (s3 : Nat) (z : Nat) (t : Nat) (k : Nat) (q : Nat) : Int32 → va_W → Prop := fun (r : Int32) w => w = [(sy, .inr (6, [.ref y1, .ref y2, .ref y3, .ref lw, .int chg, .ref tr])), (y1, ai g 168 S1), (sk, .inr (5, [.int (nI z), .int (nI t), .ref s1, .ref s2, .ref s3]))] ∧ (S1 (28 * k + 7 * q + (2 * t - 2)) = r)
theorem q_X6_oldSound_f_f6 : ∀ w ∈ u_ws RX6 TX6 6, w ∈ wsX6_oldSound := by decide +kernel
theorem q_X6_oldSound_f_1 : (Cond.fieldLink RX6 9 "SoundLaws$Study" "sounds" "[I") ∈ wsX6_oldSound := by decide +kernel
theorem q_X6_oldSound_f_2 : (Cond.initialized RX8) ∈ wsX6_oldSound := by decide +kernel
theorem q_X6_oldSound_f_3 : (Cond.static yX8_nodesAt) ∈ wsX6_oldSound := by decide +kernel
theorem q_X6_oldSound_f_f5 : ∀ w ∈ u_ws RX5 TX5 5, w ∈ wsX6_oldSound := by decide +kernel
theorem q_X6_oldSound_f_5 : (Cond.fieldLink RX6 35 "SoundLaws$Stock" "tongues" "I") ∈ wsX6_oldSound := by decide +kernel
theorem q_X6_oldSound_f_6 : (Cond.static yX8_nodesOf) ∈ wsX6_oldSound := by decide +kernel
set_option maxHeartbeats 1500000 in
set_option maxRecDepth 100000 in
theorem c_X6_oldSound_f (l : Launch) (g : GG) (sy : Nat) (y1 : Nat) (y2 : Nat) (y3 : Nat) (lw : Nat) (tr : Nat) (chg : Int32) (S1 : Nat → Int32) (sk : Nat) (s1 : Nat) (s2 : Nat) (s3 : Nat) (z : Nat) (t : Nat) (k : Nat) (q : Nat) (ht : 2 ≤ t) (ht4 : t ≤ 4) (hk : k < 6) (hq : q < 4) (sz : Nat) : MetI l yX6_oldSound wsX6_oldSound ({ frames := 1, cells := 0, slots := 0, locals := 21 }) g [.ref sy, .ref sk, .int (nI k), .int (nI q)] [(sy, .inr (6, [.ref y1, .ref y2, .ref y3, .ref lw, .int chg, .ref tr])), (y1, ai g 168 S1), (sk, .inr (5, [.int (nI z), .int (nI t), .ref s1, .ref s2, .ref s3]))] sz (po_X6_oldSound_f g sy y1 y2 y3 lw tr chg S1 sk s1 s2 s3 z t k q) 0 0 := by
  refine k_of (l := l) (y := yX6_oldSound) (ws := wsX6_oldSound) (rm := { frames := 1, cells := 0, slots := 0, locals := 21 }) (mc := 0) (ms := 0) (av := [.ref sy, .ref sk, .int (nI k), .int (nI q)]) (g := g) (wc := [(sy, .inr (6, [.ref y1, .ref y2, .ref y3, .ref lw, .int chg, .ref tr])), (y1, ai g 168 S1), (sk, .inr (5, [.int (nI z), .int (nI t), .ref s1, .ref s2, .ref s3]))]) (Qc := fun A => va_Qi (po_X6_oldSound_f g sy y1 y2 y3 lw tr chg S1 sk s1 s2 s3 z t k q) (bk g A) A) (cc := cX6_oldSound) (maxL := 4) (ret := (some .int)) (by decide) rfl (Nat.le_of_ble_eq_true rfl) ?_ sz
  intro p e s m below meth c hx hb hr hts hown hlocks hnm hml A hA hE hZ hP hD hS ls hl
  have hown : s.vm.findClass RX6 = some m.cls := hown
  have hl : lv_has ls 4 [(0, .ref sy), (1, .ref sk), (2, .int (nI k)), (3, .int (nI q))] := hl
  refine lv_aload_n hx hb dX6_oldSound_0 rfl (lv_at hl 0 rfl) ?_
  refine va_get (D := g.1) (ci := 6) (v := .ref y1) (C := RX6) (T := TX6) (N := 6) hx hb hts q_X6_oldSound_f_f6 hown hE.1 hP 0 rfl rfl 0 (by decide) (hts (.fieldLink RX6 9 "SoundLaws$Study" "sounds" "[I") q_X6_oldSound_f_1) (fun _ h9 => h9) rfl dX6_oldSound_1 ?_
  refine lv_iload_n hx hb dX6_oldSound_4 rfl (lv_at hl 2 rfl) ?_
  refine lv_iload_n hx hb dX6_oldSound_5 rfl (lv_at hl 3 rfl) ?_
  refine k_ci (wr := [(sy, .inr (6, [.ref y1, .ref y2, .ref y3, .ref lw, .int chg, .ref tr])), (y1, ai g 168 S1), (sk, .inr (5, [.int (nI z), .int (nI t), .ref s1, .ref s2, .ref s3]))]) hP hD hS hA [] [0, 1, 2] rfl rfl (by decide) (by decide) (va_runSN (As := [.int (nI k), .int (nI q)]) (rest := [.ref y1]) ⟨hx, hb, hml, hown, hts⟩ (c_X8_nodesAt_g l g k q  s.heap.size) ⟨va_cnB 2 hts gX6_oldSound_X8_nodesAt_n67 rfl rfl rfl (hE.nw 18 rfl) (hts (.initialized RX8) q_X6_oldSound_f_2) (by decide +kernel) ⟨Nat.le_of_ble_eq_true rfl, Nat.le_of_ble_eq_true rfl⟩, (hts (.static yX8_nodesAt) q_X6_oldSound_f_3), trivial⟩ (k_preS hE hZ hP hD hS hA [] rfl (by decide)) rfl rfl hl.1 rfl (lv_room (Nat.le_of_ble_eq_true rfl)) dX6_oldSound_6 ⟨Nat.le_of_ble_eq_true rfl, Nat.le_of_ble_eq_true rfl⟩) (fun r_1 w1 H locs hw hP hD hS => ?_)
  obtain ⟨rfl, rfl⟩ := hw
  have hP : va_P g.1 vwCl [(sy, .inr (6, [.ref y1, .ref y2, .ref y3, .ref lw, .int chg, .ref tr])), (y1, ai g 168 S1), (sk, .inr (5, [.int (nI z), .int (nI t), .ref s1, .ref s2, .ref s3]))] H := hP
  have hD : va_D A [(sy, .inr (6, [.ref y1, .ref y2, .ref y3, .ref lw, .int chg, .ref tr])), (y1, ai g 168 S1), (sk, .inr (5, [.int (nI z), .int (nI t), .ref s1, .ref s2, .ref s3]))] := hD
  refine lv_aload_n hx hb dX6_oldSound_9 rfl (lv_at hl 1 rfl) ?_
  refine va_get (D := g.1) (ci := 5) (v := .int (nI t)) (C := RX5) (T := TX5) (N := 5) hx hb hts q_X6_oldSound_f_f5 hown hE.1 hP 2 rfl rfl 1 (by decide) (hts (.fieldLink RX6 35 "SoundLaws$Stock" "tongues" "I") q_X6_oldSound_f_5) (fun _ h9 => h9) rfl dX6_oldSound_10 ?_
  refine k_ci (wr := [(sy, .inr (6, [.ref y1, .ref y2, .ref y3, .ref lw, .int chg, .ref tr])), (y1, ai g 168 S1), (sk, .inr (5, [.int (nI z), .int (nI t), .ref s1, .ref s2, .ref s3]))]) hP hD hS hA [] [0, 1, 2] rfl rfl (by decide) (by decide) (va_runSN (As := [.int (nI t)]) (rest := [.int (nI (28 * k + 7 * q)), .ref y1]) ⟨hx, hb, hml, hown, hts⟩ (c_X8_nodesOf_g l g t (by first | assumption | omega) H.size) ⟨va_cnB 1 hts gX6_oldSound_X8_nodesOf_n71 rfl rfl rfl (hE.nw 20 rfl) (hts (.initialized RX8) q_X6_oldSound_f_2) (by decide +kernel) ⟨Nat.le_of_ble_eq_true rfl, Nat.le_of_ble_eq_true rfl⟩, (hts (.static yX8_nodesOf) q_X6_oldSound_f_6), trivial⟩ (k_preS hE hZ hP hD hS hA [] rfl (by decide)) rfl rfl hl.1 rfl (lv_room (Nat.le_of_ble_eq_true rfl)) dX6_oldSound_13 ⟨Nat.le_of_ble_eq_true rfl, Nat.le_of_ble_eq_true rfl⟩) (fun r_3 w1 H locs hw hP hD hS => ?_)
  obtain ⟨rfl, rfl⟩ := hw
  have hP : va_P g.1 vwCl [(sy, .inr (6, [.ref y1, .ref y2, .ref y3, .ref lw, .int chg, .ref tr])), (y1, ai g 168 S1), (sk, .inr (5, [.int (nI z), .int (nI t), .ref s1, .ref s2, .ref s3]))] H := hP
  have hD : va_D A [(sy, .inr (6, [.ref y1, .ref y2, .ref y3, .ref lw, .int chg, .ref tr])), (y1, ai g 168 S1), (sk, .inr (5, [.int (nI z), .int (nI t), .ref s1, .ref s2, .ref s3]))] := hD
  refine lv_iadd hx hb dX6_oldSound_16 ?_
  refine lv_iconst (v := 1) hx hb dX6_oldSound_17 (by decide) ?_
  refine lv_isub hx hb dX6_oldSound_18 ?_
  have hno := nod_eq ht; have hno7 := nod_le ht4
  refine lv_topi (fun x_5 ex_5 => ?_)
  obtain rfl : x_5 = nI (28 * k + 7 * q + (2 * t - 2)) := by rw [ex_5]; rw [nI_add, show (1 : Int32) = nI 1 from rfl, pk_sub (by omega)]; congr 1; omega
  refine k_ald (28 * k + 7 * q + (2 * t - 2)) rfl (by omega) hx hb hE hP 1 rfl (by decide) dX6_oldSound_19 ?_
  refine W.widen (k := 0) (n := 0) (Nat.le_of_ble_eq_true rfl) (Nat.le_of_ble_eq_true rfl) ?_
  exact k_ri hx hb hr hlocks hS hP hD ⟨rfl, rfl⟩ dX6_oldSound_20
def po_X6_rebuild_f (g : GG) (sy : Nat) (y1 : Nat) (y2 : Nat) (y3 : Nat) (lw : Nat) (tr : Nat) (chg : Int32) (S1 : Nat → Int32) (S2 : Nat → Int32) (S3 : Nat → Int32) (sk : Nat) (s1 : Nat) (s2 : Nat) (s3 : Nat) (z : Nat) (t : Nat) (K : Nat → Int32) (L : Nat → Int32) (V : Nat → Int32) (t1 : Nat) (t2 : Nat) (f : Nat → Int32) (fl : Nat → Int32) (ka : Nat → Nat) (nl : Nat → Nat) (Ac : Nat → Nat → Nat → Nat) (k : Nat) : va_W → Prop := fun w => ∃ (c2 : Int32) (T1 : Nat → Int32) (T2 : Nat → Int32) (f2 : Nat → Int32) (fl2 : Nat → Int32), w = [(sy, .inr (6, [.ref y1, .ref y2, .ref y3, .ref lw, .int c2, .ref tr])), (y1, ai g 168 T1), (y2, ai g 6 T2), (y3, ai g 24 S3), (sk, .inr (5, [.int (nI z), .int (nI t), .ref s1, .ref s2, .ref s3])), (s1, ai g 6 K), (s2, ai g 6 L), (s3, ai g 96 V), (tr, .inr (7, [.int (nI t), .ref t1, .ref t2])), (t1, ai g 7 f2), (t2, ai g 63 fl2)] ∧ (∀ i, (i < 28 * k ∨ 28 * k + 28 ≤ i) → T1 i = S1 i) ∧ (¬ rb (ka k) = 0 → ∀ q, q < nl k → ∀ m, m < 2 * t - 1 → T1 (28 * k + 7 * q + m) = nI (OS t (Ac k q) m)) ∧ (∀ i, T2 i = upd S2 k (chK t ka nl Ac k) i) ∧ (c2 = chg + chE t ka nl Ac k)
theorem q_X6_rebuild_f_f6 : ∀ w ∈ u_ws RX6 TX6 6, w ∈ wsX6_rebuild := by decide +kernel
theorem q_X6_rebuild_f_1 : (Cond.fieldLink RX6 15 "SoundLaws$Study" "changes" "[I") ∈ wsX6_rebuild := by decide +kernel
theorem q_X6_rebuild_f_f5 : ∀ w ∈ u_ws RX5 TX5 5, w ∈ wsX6_rebuild := by decide +kernel
theorem q_X6_rebuild_f_3 : (Cond.fieldLink RX6 90 "SoundLaws$Stock" "kinds" "[I") ∈ wsX6_rebuild := by decide +kernel
theorem q_X6_rebuild_f_4 : (Cond.fieldLink RX6 75 "SoundLaws$Stock" "lengths" "[I") ∈ wsX6_rebuild := by decide +kernel
theorem q_X6_rebuild_f_5 : (Cond.fieldLink RX6 45 "SoundLaws$Study" "changesOfAll" "I") ∈ wsX6_rebuild := by decide +kernel
theorem q_X6_rebuild_f_6 : (Cond.fieldLink RX6 35 "SoundLaws$Stock" "tongues" "I") ∈ wsX6_rebuild := by decide +kernel
theorem q_X6_rebuild_f_7 : (Cond.fieldLink RX6 31 "SoundLaws$Study" "tree" "LSoundLaws$Tree;") ∈ wsX6_rebuild := by decide +kernel
theorem q_X6_rebuild_f_f7 : ∀ w ∈ u_ws RX7 TX7 3, w ∈ wsX6_rebuild := by decide +kernel
theorem q_X6_rebuild_f_9 : (Cond.fieldLink RX6 93 "SoundLaws$Tree" "sounds" "[I") ∈ wsX6_rebuild := by decide +kernel
theorem q_X6_rebuild_f_10 : (Cond.fieldLink RX6 9 "SoundLaws$Study" "sounds" "[I") ∈ wsX6_rebuild := by decide +kernel
theorem q_X6_rebuild_f_11 : (Cond.initialized RX8) ∈ wsX6_rebuild := by decide +kernel
theorem q_X6_rebuild_f_12 : (Cond.static yX8_nodesAt) ∈ wsX6_rebuild := by decide +kernel
theorem q_X6_rebuild_f_13 : (Cond.methodLink RX6 107 arraycopyName) ∈ wsX6_rebuild := by decide +kernel
theorem q_X6_rebuild_f_14 : (Cond.native arraycopyName) ∈ wsX6_rebuild := by decide +kernel
theorem q_X6_rebuild_f_15 : (Cond.static arraycopyName) ∈ wsX6_rebuild := by decide +kernel
theorem q_X6_rebuild_f_16 : (Cond.initialized "java/lang/System") ∈ wsX6_rebuild := by decide +kernel
theorem q_X6_rebuild_f_17 : (Cond.fieldLink RX6 94 "SoundLaws$Stock" "words" "[I") ∈ wsX6_rebuild := by decide +kernel
theorem q_X6_rebuild_f_18 : (Cond.static yX8_wordAt) ∈ wsX6_rebuild := by decide +kernel
set_option maxHeartbeats 1500000 in
set_option maxRecDepth 100000 in
theorem c_X6_rebuild_f (l : Launch) (g : GG) (sy : Nat) (y1 : Nat) (y2 : Nat) (y3 : Nat) (lw : Nat) (tr : Nat) (chg : Int32) (S1 : Nat → Int32) (S2 : Nat → Int32) (S3 : Nat → Int32) (sk : Nat) (s1 : Nat) (s2 : Nat) (s3 : Nat) (z : Nat) (t : Nat) (K : Nat → Int32) (L : Nat → Int32) (V : Nat → Int32) (t1 : Nat) (t2 : Nat) (f : Nat → Int32) (fl : Nat → Int32) (ka : Nat → Nat) (nl : Nat → Nat) (Ac : Nat → Nat → Nat → Nat) (k : Nat) (ht : 2 ≤ t) (ht4 : t ≤ 4) (hz : z ≤ 6) (hp : PIC z t K L V ka nl Ac) (hkz : k < z) (sz : Nat) : MetV l yX6_rebuild wsX6_rebuild ({ frames := 3, cells := 0, slots := 0, locals := 69 }) g [.ref sy, .ref sk, .int (nI k)] [(sy, .inr (6, [.ref y1, .ref y2, .ref y3, .ref lw, .int chg, .ref tr])), (y1, ai g 168 S1), (y2, ai g 6 S2), (y3, ai g 24 S3), (sk, .inr (5, [.int (nI z), .int (nI t), .ref s1, .ref s2, .ref s3])), (s1, ai g 6 K), (s2, ai g 6 L), (s3, ai g 96 V), (tr, .inr (7, [.int (nI t), .ref t1, .ref t2])), (t1, ai g 7 f), (t2, ai g 63 fl)] sz (po_X6_rebuild_f g sy y1 y2 y3 lw tr chg S1 S2 S3 sk s1 s2 s3 z t K L V t1 t2 f fl ka nl Ac k) 0 0 := by
  refine k_of (l := l) (y := yX6_rebuild) (ws := wsX6_rebuild) (rm := { frames := 3, cells := 0, slots := 0, locals := 69 }) (mc := 0) (ms := 0) (av := [.ref sy, .ref sk, .int (nI k)]) (g := g) (wc := [(sy, .inr (6, [.ref y1, .ref y2, .ref y3, .ref lw, .int chg, .ref tr])), (y1, ai g 168 S1), (y2, ai g 6 S2), (y3, ai g 24 S3), (sk, .inr (5, [.int (nI z), .int (nI t), .ref s1, .ref s2, .ref s3])), (s1, ai g 6 K), (s2, ai g 6 L), (s3, ai g 96 V), (tr, .inr (7, [.int (nI t), .ref t1, .ref t2])), (t1, ai g 7 f), (t2, ai g 63 fl)]) (Qc := fun A => va_Qv (po_X6_rebuild_f g sy y1 y2 y3 lw tr chg S1 S2 S3 sk s1 s2 s3 z t K L V t1 t2 f fl ka nl Ac k) (bk g A) A) (cc := cX6_rebuild) (maxL := 6) (ret := none) (by decide) rfl (Nat.le_of_ble_eq_true rfl) ?_ sz
  intro p e s m below meth c hx hb hr hts hown hlocks hnm hml A hA hE hZ hP hD hS ls hl
  have hown : s.vm.findClass RX6 = some m.cls := hown
  have hl : lv_has ls 6 [(0, .ref sy), (1, .ref sk), (2, .int (nI k))] := hl
  obtain ⟨⟨eK, hK5⟩, ⟨eL, hn5⟩, hAk⟩ := hp k hkz
  refine lv_aload_n hx hb dX6_rebuild_0 rfl (lv_at hl 0 rfl) ?_
  refine va_get (D := g.1) (ci := 6) (v := .ref y2) (C := RX6) (T := TX6) (N := 6) hx hb hts q_X6_rebuild_f_f6 hown hE.1 hP 0 rfl rfl 1 (by decide) (hts (.fieldLink RX6 15 "SoundLaws$Study" "changes" "[I") q_X6_rebuild_f_1) (fun _ h9 => h9) rfl dX6_rebuild_1 ?_
  refine lv_iload_n hx hb dX6_rebuild_4 rfl (lv_at hl 2 rfl) ?_
  refine lv_iconst (v := (-1)) hx hb dX6_rebuild_5 (by decide) ?_
  refine k_ast (x := (-1)) k rfl (by omega) hx hb hE hP hD hS 2 rfl (by decide) dX6_rebuild_6 (fun H locs hP hD hS => ?_)
  have hP : va_P g.1 vwCl [(sy, .inr (6, [.ref y1, .ref y2, .ref y3, .ref lw, .int chg, .ref tr])), (y1, ai g 168 S1), (y2, ai g 6 (upd S2 k (-1))), (y3, ai g 24 S3), (sk, .inr (5, [.int (nI z), .int (nI t), .ref s1, .ref s2, .ref s3])), (s1, ai g 6 K), (s2, ai g 6 L), (s3, ai g 96 V), (tr, .inr (7, [.int (nI t), .ref t1, .ref t2])), (t1, ai g 7 f), (t2, ai g 63 fl)] H := hP
  have hD : va_D A [(sy, .inr (6, [.ref y1, .ref y2, .ref y3, .ref lw, .int chg, .ref tr])), (y1, ai g 168 S1), (y2, ai g 6 (upd S2 k (-1))), (y3, ai g 24 S3), (sk, .inr (5, [.int (nI z), .int (nI t), .ref s1, .ref s2, .ref s3])), (s1, ai g 6 K), (s2, ai g 6 L), (s3, ai g 96 V), (tr, .inr (7, [.int (nI t), .ref t1, .ref t2])), (t1, ai g 7 f), (t2, ai g 63 fl)] := hD
  refine va_getsN hx hb hZ.zREBUILDS hS hown (va_Nw.use rfl (hE.nw (w := .fieldLinkNest RX6 87 "SoundLaws" "REBUILDS" "[I" RX8) 11 rfl)) (fun _ h9 => h9) dX6_rebuild_7 ?_
  refine lv_aload_n hx hb dX6_rebuild_10 rfl (lv_at hl 1 rfl) ?_
  refine va_get (D := g.1) (ci := 5) (v := .ref s1) (C := RX5) (T := TX5) (N := 5) hx hb hts q_X6_rebuild_f_f5 hown hE.1 hP 4 rfl rfl 2 (by decide) (hts (.fieldLink RX6 90 "SoundLaws$Stock" "kinds" "[I") q_X6_rebuild_f_3) (fun _ h9 => h9) rfl dX6_rebuild_11 ?_
  refine lv_iload_n hx hb dX6_rebuild_14 rfl (lv_at hl 2 rfl) ?_
  refine k_ald k rfl (by omega) hx hb hE hP 5 rfl (by decide) dX6_rebuild_15 ?_
  refine lv_topi (fun x_1 ex_1 => ?_)
  obtain rfl : x_1 = nI (ka k) := by rw [ex_1]; exact eK
  refine k_tld (ka k) rfl (by omega) hx hb hZ.tREBUILDS hS (by decide) (v := tb_REBUILDS.getD (ka k) 0) rfl dX6_rebuild_16 ?_
  refine lv_topi (fun x_2 ex_2 => ?_)
  obtain rfl : x_2 = nI (rb (ka k)) := by rw [ex_2]; exact rb_tb (ka k) hK5
  refine lv_if_ne (tgt := 21) hx hb dX6_rebuild_17 (by decide) (fun c17_3 => ?_) (fun c17_3 => ?_)
  · skip
    have hr1 : ¬ rb (ka k) = 0 := fun q9 => c17_3 ((rb_z (ka k) hK5).mpr q9)
    refine lv_iconst (v := 0) hx hb dX6_rebuild_21 (by decide) ?_
    refine lv_istore_n (lv' := [(3, .int 0), (0, .ref sy), (1, .ref sk), (2, .int (nI k))]) hx hb dX6_rebuild_22 rfl hl (by decide) rfl (fun ls hl => ?_)
    refine lv_iconst (v := 0) hx hb dX6_rebuild_23 (by decide) ?_
    refine lv_istore (lv' := [(4, .int 0), (3, .int 0), (0, .ref sy), (1, .ref sk), (2, .int (nI k))]) hx hb dX6_rebuild_24 hl (by decide) rfl (fun ls hl => ?_)
    have loop26 : ∀ (fu : Nat) (q : Nat) (x3 : Int32) (T1 f1 fl1 : Nat → Int32), (hq : q ≤ nl k) → (e3 : x3 = chS t Ac k q) → (hT : RBt t Ac k q S1 T1) → nl k - q < fu → ∀ (H : Heap) (locs : List Loc) (ls : Array Slot), va_P g.1 vwCl [(sy, .inr (6, [.ref y1, .ref y2, .ref y3, .ref lw, .int chg, .ref tr])), (y1, ai g 168 T1), (y2, ai g 6 (upd S2 k (-1))), (y3, ai g 24 S3), (sk, .inr (5, [.int (nI z), .int (nI t), .ref s1, .ref s2, .ref s3])), (s1, ai g 6 K), (s2, ai g 6 L), (s3, ai g 96 V), (tr, .inr (7, [.int (nI t), .ref t1, .ref t2])), (t1, ai g 7 f1), (t2, ai g 63 fl1)] H → va_D A [(sy, .inr (6, [.ref y1, .ref y2, .ref y3, .ref lw, .int chg, .ref tr])), (y1, ai g 168 T1), (y2, ai g 6 (upd S2 k (-1))), (y3, ai g 24 S3), (sk, .inr (5, [.int (nI z), .int (nI t), .ref s1, .ref s2, .ref s3])), (s1, ai g 6 K), (s2, ai g 6 L), (s3, ai g 96 V), (tr, .inr (7, [.int (nI t), .ref t1, .ref t2])), (t1, ai g 7 f1), (t2, ai g 63 fl1)] → va_S A s.heap H locs → lv_has ls 6 [(0, .ref sy), (1, .ref sk), (2, .int (nI k)), (3, .int x3), (4, .int (nI q))] → W p l e ({ frames := 3, cells := 0, slots := 0, locals := 69 }) s m [.ref sy, .ref sk, .int (nI k)].toArray below meth c H locs 0 0 (MQ below (va_Qv (po_X6_rebuild_f g sy y1 y2 y3 lw tr chg S1 S2 S3 sk s1 s2 s3 z t K L V t1 t2 f fl ka nl Ac k) (bk g A) A) [.ref sy, .ref sk, .int (nI k)].toArray s 0 0 A) (F0 m 26 ls []) := by
      intro fu
      induction fu with
      | zero => intro q x3 T1 f1 fl1 hq e3 hT hfu; exact absurd hfu (Nat.not_lt_zero _)
      | succ fu ih =>
        intro q x3 T1 f1 fl1 hq e3 hT hfu H locs ls hP hD hS hl
        have ih26 := ih
        refine lv_iload hx hb dX6_rebuild_26 (lv_at hl 4 rfl) ?_
        refine lv_aload_n hx hb dX6_rebuild_28 rfl (lv_at hl 1 rfl) ?_
        refine va_get (D := g.1) (ci := 5) (v := .ref s2) (C := RX5) (T := TX5) (N := 5) hx hb hts q_X6_rebuild_f_f5 hown hE.1 hP 4 rfl rfl 3 (by decide) (hts (.fieldLink RX6 75 "SoundLaws$Stock" "lengths" "[I") q_X6_rebuild_f_4) (fun _ h9 => h9) rfl dX6_rebuild_29 ?_
        refine lv_iload_n hx hb dX6_rebuild_32 rfl (lv_at hl 2 rfl) ?_
        refine k_ald k rfl (by omega) hx hb hE hP 6 rfl (by decide) dX6_rebuild_33 ?_
        refine lv_topi (fun x_4 ex_4 => ?_)
        obtain rfl : x_4 = nI (nl k) := by rw [ex_4]; exact eL
        refine lv_icmp_ge (tgt := 125) hx hb dX6_rebuild_34 (by decide) (fun c34_5 => ?_) (fun c34_5 => ?_)
        · skip
          have hq10 := ge_of_le (k := nl k) (n := q) (by omega) (by omega) c34_5
          have hqn : q = nl k := by omega
          refine lv_aload_n hx hb dX6_rebuild_125 rfl (lv_at hl 0 rfl) ?_
          refine va_get (D := g.1) (ci := 6) (v := .ref y2) (C := RX6) (T := TX6) (N := 6) hx hb hts q_X6_rebuild_f_f6 hown hE.1 hP 0 rfl rfl 1 (by decide) (hts (.fieldLink RX6 15 "SoundLaws$Study" "changes" "[I") q_X6_rebuild_f_1) (fun _ h9 => h9) rfl dX6_rebuild_126 ?_
          refine lv_iload_n hx hb dX6_rebuild_129 rfl (lv_at hl 2 rfl) ?_
          refine lv_iload_n hx hb dX6_rebuild_130 rfl (lv_at hl 3 rfl) ?_
          refine k_ast (x := x3) k rfl (by omega) hx hb hE hP hD hS 2 rfl (by decide) dX6_rebuild_131 (fun H locs hP hD hS => ?_)
          have hP : va_P g.1 vwCl [(sy, .inr (6, [.ref y1, .ref y2, .ref y3, .ref lw, .int chg, .ref tr])), (y1, ai g 168 T1), (y2, ai g 6 (upd (upd S2 k (-1)) k x3)), (y3, ai g 24 S3), (sk, .inr (5, [.int (nI z), .int (nI t), .ref s1, .ref s2, .ref s3])), (s1, ai g 6 K), (s2, ai g 6 L), (s3, ai g 96 V), (tr, .inr (7, [.int (nI t), .ref t1, .ref t2])), (t1, ai g 7 f1), (t2, ai g 63 fl1)] H := hP
          have hD : va_D A [(sy, .inr (6, [.ref y1, .ref y2, .ref y3, .ref lw, .int chg, .ref tr])), (y1, ai g 168 T1), (y2, ai g 6 (upd (upd S2 k (-1)) k x3)), (y3, ai g 24 S3), (sk, .inr (5, [.int (nI z), .int (nI t), .ref s1, .ref s2, .ref s3])), (s1, ai g 6 K), (s2, ai g 6 L), (s3, ai g 96 V), (tr, .inr (7, [.int (nI t), .ref t1, .ref t2])), (t1, ai g 7 f1), (t2, ai g 63 fl1)] := hD
          refine lv_aload_n hx hb dX6_rebuild_132 rfl (lv_at hl 0 rfl) ?_
          refine lv_dup hx hb dX6_rebuild_133 rfl ?_
          refine va_get (D := g.1) (ci := 6) (v := .int chg) (C := RX6) (T := TX6) (N := 6) hx hb hts q_X6_rebuild_f_f6 hown hE.1 hP 0 rfl rfl 4 (by decide) (hts (.fieldLink RX6 45 "SoundLaws$Study" "changesOfAll" "I") q_X6_rebuild_f_5) (fun _ h9 => h9) rfl dX6_rebuild_134 ?_
          refine lv_iload_n hx hb dX6_rebuild_137 rfl (lv_at hl 3 rfl) ?_
          refine lv_iadd hx hb dX6_rebuild_138 ?_
          refine lv_topi (fun xc exc => ?_)
          refine va_put (D := g.1) (ci := 6) (v := .int xc) (ty := .int) (C := RX6) (T := TX6) (N := 6) hx hb hts q_X6_rebuild_f_f6 tyX6 tyX6_ok nmX6 hown hE.1 hP hD hS 0 rfl rfl 4 (by decide) (hts (.fieldLink RX6 45 "SoundLaws$Study" "changesOfAll" "I") q_X6_rebuild_f_5) (fun _ h9 => h9) rfl (by decide +kernel) rfl rfl (Nat.le_of_ble_eq_true rfl) dX6_rebuild_139 (fun H locs hP hD hS => ?_)
          have hP : va_P g.1 vwCl [(sy, .inr (6, [.ref y1, .ref y2, .ref y3, .ref lw, .int xc, .ref tr])), (y1, ai g 168 T1), (y2, ai g 6 (upd (upd S2 k (-1)) k x3)), (y3, ai g 24 S3), (sk, .inr (5, [.int (nI z), .int (nI t), .ref s1, .ref s2, .ref s3])), (s1, ai g 6 K), (s2, ai g 6 L), (s3, ai g 96 V), (tr, .inr (7, [.int (nI t), .ref t1, .ref t2])), (t1, ai g 7 f1), (t2, ai g 63 fl1)] H := hP
          have hD : va_D A [(sy, .inr (6, [.ref y1, .ref y2, .ref y3, .ref lw, .int xc, .ref tr])), (y1, ai g 168 T1), (y2, ai g 6 (upd (upd S2 k (-1)) k x3)), (y3, ai g 24 S3), (sk, .inr (5, [.int (nI z), .int (nI t), .ref s1, .ref s2, .ref s3])), (s1, ai g 6 K), (s2, ai g 6 L), (s3, ai g 96 V), (tr, .inr (7, [.int (nI t), .ref t1, .ref t2])), (t1, ai g 7 f1), (t2, ai g 63 fl1)] := hD
          refine W.widen (k := 0) (n := 0) (Nat.le_of_ble_eq_true rfl) (Nat.le_of_ble_eq_true rfl) ?_
          exact k_rv hx hb hr hlocks hS hP hD ⟨xc, T1, (upd (upd S2 k (-1)) k x3), f1, fl1, rfl, hT.1, (fun _ => by rw [← hqn]; exact hT.2), (fun i => by unfold chK; rw [if_neg hr1, ← hqn, ← e3]; exact upp i), (by unfold chE; rw [if_neg hr1, ← hqn, ← e3]; exact exc)⟩ dX6_rebuild_142
        · skip
          have hq9 := lt_of_nle (k := nl k) (n := q) (by omega) (by omega) c34_5
          refine lv_iconst (v := 0) hx hb dX6_rebuild_37 (by decide) ?_
          refine lv_istore (lv' := [(5, .int 0), (0, .ref sy), (1, .ref sk), (2, .int (nI k)), (3, .int x3), (4, .int (nI q))]) hx hb dX6_rebuild_38 hl (by decide) rfl (fun ls hl => ?_)
          have loop40 : ∀ (fu : Nat) (u : Nat) (f3 : Nat → Int32), (hu : u ≤ t) → (hf3 : ∀ v, v < u → f3 v = nI (Ac k q v)) → t - u < fu → ∀ (H : Heap) (locs : List Loc) (ls : Array Slot), va_P g.1 vwCl [(sy, .inr (6, [.ref y1, .ref y2, .ref y3, .ref lw, .int chg, .ref tr])), (y1, ai g 168 T1), (y2, ai g 6 (upd S2 k (-1))), (y3, ai g 24 S3), (sk, .inr (5, [.int (nI z), .int (nI t), .ref s1, .ref s2, .ref s3])), (s1, ai g 6 K), (s2, ai g 6 L), (s3, ai g 96 V), (tr, .inr (7, [.int (nI t), .ref t1, .ref t2])), (t1, ai g 7 f3), (t2, ai g 63 fl1)] H → va_D A [(sy, .inr (6, [.ref y1, .ref y2, .ref y3, .ref lw, .int chg, .ref tr])), (y1, ai g 168 T1), (y2, ai g 6 (upd S2 k (-1))), (y3, ai g 24 S3), (sk, .inr (5, [.int (nI z), .int (nI t), .ref s1, .ref s2, .ref s3])), (s1, ai g 6 K), (s2, ai g 6 L), (s3, ai g 96 V), (tr, .inr (7, [.int (nI t), .ref t1, .ref t2])), (t1, ai g 7 f3), (t2, ai g 63 fl1)] → va_S A s.heap H locs → lv_has ls 6 [(0, .ref sy), (1, .ref sk), (2, .int (nI k)), (3, .int x3), (4, .int (nI q)), (5, .int (nI u))] → W p l e ({ frames := 3, cells := 0, slots := 0, locals := 69 }) s m [.ref sy, .ref sk, .int (nI k)].toArray below meth c H locs 0 0 (MQ below (va_Qv (po_X6_rebuild_f g sy y1 y2 y3 lw tr chg S1 S2 S3 sk s1 s2 s3 z t K L V t1 t2 f fl ka nl Ac k) (bk g A) A) [.ref sy, .ref sk, .int (nI k)].toArray s 0 0 A) (F0 m 40 ls []) := by
            intro fu
            induction fu with
            | zero => intro u f3 hu hf3 hfu; exact absurd hfu (Nat.not_lt_zero _)
            | succ fu ih =>
              intro u f3 hu hf3 hfu H locs ls hP hD hS hl
              have ih40 := ih
              refine lv_iload hx hb dX6_rebuild_40 (lv_at hl 5 rfl) ?_
              refine lv_aload_n hx hb dX6_rebuild_42 rfl (lv_at hl 1 rfl) ?_
              refine va_get (D := g.1) (ci := 5) (v := .int (nI t)) (C := RX5) (T := TX5) (N := 5) hx hb hts q_X6_rebuild_f_f5 hown hE.1 hP 4 rfl rfl 1 (by decide) (hts (.fieldLink RX6 35 "SoundLaws$Stock" "tongues" "I") q_X6_rebuild_f_6) (fun _ h9 => h9) rfl dX6_rebuild_43 ?_
              refine lv_icmp_ge (tgt := 79) hx hb dX6_rebuild_46 (by decide) (fun c46_6 => ?_) (fun c46_6 => ?_)
              · skip
                have hu10 := ge_of_le (k := t) (n := u) (by omega) (by omega) c46_6
                have hut : u = t := by omega
                refine lv_iload_n hx hb dX6_rebuild_79 rfl (lv_at hl 3 rfl) ?_
                refine lv_aload_n hx hb dX6_rebuild_80 rfl (lv_at hl 0 rfl) ?_
                refine va_get (D := g.1) (ci := 6) (v := .ref tr) (C := RX6) (T := TX6) (N := 6) hx hb hts q_X6_rebuild_f_f6 hown hE.1 hP 0 rfl rfl 5 (by decide) (hts (.fieldLink RX6 31 "SoundLaws$Study" "tree" "LSoundLaws$Tree;") q_X6_rebuild_f_7) (fun _ h9 => h9) rfl dX6_rebuild_81 ?_
                refine k_ci (wr := [(sy, .inr (6, [.ref y1, .ref y2, .ref y3, .ref lw, .int chg, .ref tr])), (y1, ai g 168 T1), (y2, ai g 6 (upd S2 k (-1))), (y3, ai g 24 S3), (sk, .inr (5, [.int (nI z), .int (nI t), .ref s1, .ref s2, .ref s3])), (s1, ai g 6 K), (s2, ai g 6 L), (s3, ai g 96 V)]) hP hD hS hA [8, 9, 10] [0, 1, 2, 3, 4, 5, 6, 7] rfl rfl (by decide) (by decide) (va_runV (As := []) (rest := [.int x3]) ⟨hx, hb, hml, hown, hts⟩ (c_X7_climb_f l g tr t1 t2 t f3 fl1 (Ac k q) (by first | assumption | omega) (by first | assumption | omega) (fun v hv => hf3 v (by omega)) (fun v hv => (hAk q hq9 v hv).2) H.size) (cwV 0 hts gX6_rebuild_X7_climb rfl rfl rfl (by decide +kernel) ⟨Nat.le_of_ble_eq_true rfl, Nat.le_of_ble_eq_true rfl⟩) (k_preV hE hZ hP hD hS hA [8, 9, 10] rfl (by decide) (va_recv hE.1 hP (ci := 7) (q0 := 8) rfl rfl)) rfl rfl hl.1 rfl (lv_room (Nat.le_of_ble_eq_true rfl)) dX6_rebuild_84 ⟨Nat.le_of_ble_eq_true rfl, Nat.le_of_ble_eq_true rfl⟩) (fun r_7 w1 H locs hw hP hD hS => ?_)
                obtain ⟨gl_8, rfl, rfl, hgl_10⟩ := hw
                have hP : va_P g.1 vwCl [(sy, .inr (6, [.ref y1, .ref y2, .ref y3, .ref lw, .int chg, .ref tr])), (y1, ai g 168 T1), (y2, ai g 6 (upd S2 k (-1))), (y3, ai g 24 S3), (sk, .inr (5, [.int (nI z), .int (nI t), .ref s1, .ref s2, .ref s3])), (s1, ai g 6 K), (s2, ai g 6 L), (s3, ai g 96 V), (tr, .inr (7, [.int (nI t), .ref t1, .ref t2])), (t1, ai g 7 (upd f3 (2 * t - 2) (nI (OR t (Ac k q))))), (t2, ai g 63 gl_8)] H := hP
                have hD : va_D A [(sy, .inr (6, [.ref y1, .ref y2, .ref y3, .ref lw, .int chg, .ref tr])), (y1, ai g 168 T1), (y2, ai g 6 (upd S2 k (-1))), (y3, ai g 24 S3), (sk, .inr (5, [.int (nI z), .int (nI t), .ref s1, .ref s2, .ref s3])), (s1, ai g 6 K), (s2, ai g 6 L), (s3, ai g 96 V), (tr, .inr (7, [.int (nI t), .ref t1, .ref t2])), (t1, ai g 7 (upd f3 (2 * t - 2) (nI (OR t (Ac k q))))), (t2, ai g 63 gl_8)] := hD
                refine lv_iadd hx hb dX6_rebuild_87 ?_
                refine lv_topi (fun x3b ex3b => ?_)
                refine lv_istore_n (lv' := [(3, .int x3b), (0, .ref sy), (1, .ref sk), (2, .int (nI k)), (4, .int (nI q)), (5, .int (nI u))]) hx hb dX6_rebuild_88 rfl hl (by decide) rfl (fun ls hl => ?_)
                refine lv_aload_n hx hb dX6_rebuild_89 rfl (lv_at hl 1 rfl) ?_
                refine va_get (D := g.1) (ci := 6) (v := .ref tr) (C := RX6) (T := TX6) (N := 6) hx hb hts q_X6_rebuild_f_f6 hown hE.1 hP 0 rfl rfl 5 (by decide) (hts (.fieldLink RX6 31 "SoundLaws$Study" "tree" "LSoundLaws$Tree;") q_X6_rebuild_f_7) (fun _ h9 => h9) rfl dX6_rebuild_90 ?_
                refine k_cv (wr := [(sy, .inr (6, [.ref y1, .ref y2, .ref y3, .ref lw, .int chg, .ref tr])), (y1, ai g 168 T1), (y2, ai g 6 (upd S2 k (-1))), (y3, ai g 24 S3), (sk, .inr (5, [.int (nI z), .int (nI t), .ref s1, .ref s2, .ref s3])), (s1, ai g 6 K), (s2, ai g 6 L), (s3, ai g 96 V)]) hP hD hS hA [8, 9, 10] [0, 1, 2, 3, 4, 5, 6, 7] rfl rfl (by decide) (by decide) (va_runV (As := []) (rest := []) ⟨hx, hb, hml, hown, hts⟩ (c_X7_descend_f l g tr t1 t2 t (upd f3 (2 * t - 2) (nI (OR t (Ac k q)))) gl_8 (Ac k q) (by first | assumption | omega) (by first | assumption | omega) (fun v hv => (hAk q hq9 v hv).2) (fun v hv => by rw [pk_un (by omega)]; exact hf3 v (by omega)) (by rw [pk_us]) hgl_10 H.size) (cwV 0 hts gX6_rebuild_X7_descend rfl rfl rfl (by decide +kernel) ⟨Nat.le_of_ble_eq_true rfl, Nat.le_of_ble_eq_true rfl⟩) (k_preV hE hZ hP hD hS hA [8, 9, 10] rfl (by decide) (va_recv hE.1 hP (ci := 7) (q0 := 8) rfl rfl)) rfl rfl hl.1 rfl (lv_room (Nat.le_of_ble_eq_true rfl)) dX6_rebuild_93 ⟨Nat.le_of_ble_eq_true rfl, Nat.le_of_ble_eq_true rfl⟩) (fun w1 H locs hw hP hD hS => ?_)
                obtain ⟨f2_12, rfl, hf2_13⟩ := hw
                have hP : va_P g.1 vwCl [(sy, .inr (6, [.ref y1, .ref y2, .ref y3, .ref lw, .int chg, .ref tr])), (y1, ai g 168 T1), (y2, ai g 6 (upd S2 k (-1))), (y3, ai g 24 S3), (sk, .inr (5, [.int (nI z), .int (nI t), .ref s1, .ref s2, .ref s3])), (s1, ai g 6 K), (s2, ai g 6 L), (s3, ai g 96 V), (tr, .inr (7, [.int (nI t), .ref t1, .ref t2])), (t1, ai g 7 f2_12), (t2, ai g 63 gl_8)] H := hP
                have hD : va_D A [(sy, .inr (6, [.ref y1, .ref y2, .ref y3, .ref lw, .int chg, .ref tr])), (y1, ai g 168 T1), (y2, ai g 6 (upd S2 k (-1))), (y3, ai g 24 S3), (sk, .inr (5, [.int (nI z), .int (nI t), .ref s1, .ref s2, .ref s3])), (s1, ai g 6 K), (s2, ai g 6 L), (s3, ai g 96 V), (tr, .inr (7, [.int (nI t), .ref t1, .ref t2])), (t1, ai g 7 f2_12), (t2, ai g 63 gl_8)] := hD
                refine lv_aload_n hx hb dX6_rebuild_96 rfl (lv_at hl 1 rfl) ?_
                refine va_get (D := g.1) (ci := 6) (v := .ref tr) (C := RX6) (T := TX6) (N := 6) hx hb hts q_X6_rebuild_f_f6 hown hE.1 hP 0 rfl rfl 5 (by decide) (hts (.fieldLink RX6 31 "SoundLaws$Study" "tree" "LSoundLaws$Tree;") q_X6_rebuild_f_7) (fun _ h9 => h9) rfl dX6_rebuild_97 ?_
                refine va_get (D := g.1) (ci := 7) (v := .ref t1) (C := RX7) (T := TX7) (N := 3) hx hb hts q_X6_rebuild_f_f7 hown hE.1 hP 8 rfl rfl 1 (by decide) (hts (.fieldLink RX6 93 "SoundLaws$Tree" "sounds" "[I") q_X6_rebuild_f_9) (fun _ h9 => h9) rfl dX6_rebuild_100 ?_
                refine lv_iconst (v := 0) hx hb dX6_rebuild_103 (by decide) ?_
                refine lv_aload_n hx hb dX6_rebuild_104 rfl (lv_at hl 1 rfl) ?_
                refine va_get (D := g.1) (ci := 6) (v := .ref y1) (C := RX6) (T := TX6) (N := 6) hx hb hts q_X6_rebuild_f_f6 hown hE.1 hP 0 rfl rfl 0 (by decide) (hts (.fieldLink RX6 9 "SoundLaws$Study" "sounds" "[I") q_X6_rebuild_f_10) (fun _ h9 => h9) rfl dX6_rebuild_105 ?_
                refine lv_iload_n hx hb dX6_rebuild_108 rfl (lv_at hl 3 rfl) ?_
                refine lv_iload hx hb dX6_rebuild_109 (lv_at hl 4 rfl) ?_
                refine k_ci (wr := [(sy, .inr (6, [.ref y1, .ref y2, .ref y3, .ref lw, .int chg, .ref tr])), (y1, ai g 168 T1), (y2, ai g 6 (upd S2 k (-1))), (y3, ai g 24 S3), (sk, .inr (5, [.int (nI z), .int (nI t), .ref s1, .ref s2, .ref s3])), (s1, ai g 6 K), (s2, ai g 6 L), (s3, ai g 96 V), (tr, .inr (7, [.int (nI t), .ref t1, .ref t2])), (t1, ai g 7 f2_12), (t2, ai g 63 gl_8)]) hP hD hS hA [] [0, 1, 2, 3, 4, 5, 6, 7, 8, 9, 10] rfl rfl (by decide) (by decide) (va_runSN (As := [.int (nI k), .int (nI q)]) (rest := [.ref y1, .int 0, .ref t1]) ⟨hx, hb, hml, hown, hts⟩ (c_X8_nodesAt_g l g k q  H.size) ⟨va_cnB 2 hts gX6_rebuild_X8_nodesAt_n67 rfl rfl rfl (hE.nw 18 rfl) (hts (.initialized RX8) q_X6_rebuild_f_11) (by decide +kernel) ⟨Nat.le_of_ble_eq_true rfl, Nat.le_of_ble_eq_true rfl⟩, (hts (.static yX8_nodesAt) q_X6_rebuild_f_12), trivial⟩ (k_preS hE hZ hP hD hS hA [] rfl (by decide)) rfl rfl hl.1 rfl (lv_room (Nat.le_of_ble_eq_true rfl)) dX6_rebuild_111 ⟨Nat.le_of_ble_eq_true rfl, Nat.le_of_ble_eq_true rfl⟩) (fun r_14 w1 H locs hw hP hD hS => ?_)
                obtain ⟨rfl, rfl⟩ := hw
                have hP : va_P g.1 vwCl [(sy, .inr (6, [.ref y1, .ref y2, .ref y3, .ref lw, .int chg, .ref tr])), (y1, ai g 168 T1), (y2, ai g 6 (upd S2 k (-1))), (y3, ai g 24 S3), (sk, .inr (5, [.int (nI z), .int (nI t), .ref s1, .ref s2, .ref s3])), (s1, ai g 6 K), (s2, ai g 6 L), (s3, ai g 96 V), (tr, .inr (7, [.int (nI t), .ref t1, .ref t2])), (t1, ai g 7 f2_12), (t2, ai g 63 gl_8)] H := hP
                have hD : va_D A [(sy, .inr (6, [.ref y1, .ref y2, .ref y3, .ref lw, .int chg, .ref tr])), (y1, ai g 168 T1), (y2, ai g 6 (upd S2 k (-1))), (y3, ai g 24 S3), (sk, .inr (5, [.int (nI z), .int (nI t), .ref s1, .ref s2, .ref s3])), (s1, ai g 6 K), (s2, ai g 6 L), (s3, ai g 96 V), (tr, .inr (7, [.int (nI t), .ref t1, .ref t2])), (t1, ai g 7 f2_12), (t2, ai g 63 gl_8)] := hD
                refine lv_bipush (v := 7) hx hb dX6_rebuild_114 (by decide) ?_
                refine k_cpy 0 (28 * k + 7 * q) 7 (by decide) rfl (by decide) (by omega) (by omega) (by decide) (by decide) hx hb (by rw [hml]; exact hl.1.symm) hown (hts (.methodLink RX6 107 arraycopyName) q_X6_rebuild_f_13) (hts (.native arraycopyName) q_X6_rebuild_f_14) (hts (.static arraycopyName) q_X6_rebuild_f_15) (hts (.initialized "java/lang/System") q_X6_rebuild_f_16) hE hP hD hS 9 1 rfl rfl (Nat.le_of_ble_eq_true rfl) (Nat.le_of_ble_eq_true rfl) dX6_rebuild_116 (fun H locs hP hD hS => ?_)
                have hP : va_P g.1 vwCl [(sy, .inr (6, [.ref y1, .ref y2, .ref y3, .ref lw, .int chg, .ref tr])), (y1, ai g 168 (va_cpy f2_12 T1 0 (28 * k + 7 * q) 7)), (y2, ai g 6 (upd S2 k (-1))), (y3, ai g 24 S3), (sk, .inr (5, [.int (nI z), .int (nI t), .ref s1, .ref s2, .ref s3])), (s1, ai g 6 K), (s2, ai g 6 L), (s3, ai g 96 V), (tr, .inr (7, [.int (nI t), .ref t1, .ref t2])), (t1, ai g 7 f2_12), (t2, ai g 63 gl_8)] H := hP
                have hD : va_D A [(sy, .inr (6, [.ref y1, .ref y2, .ref y3, .ref lw, .int chg, .ref tr])), (y1, ai g 168 (va_cpy f2_12 T1 0 (28 * k + 7 * q) 7)), (y2, ai g 6 (upd S2 k (-1))), (y3, ai g 24 S3), (sk, .inr (5, [.int (nI z), .int (nI t), .ref s1, .ref s2, .ref s3])), (s1, ai g 6 K), (s2, ai g 6 L), (s3, ai g 96 V), (tr, .inr (7, [.int (nI t), .ref t1, .ref t2])), (t1, ai g 7 f2_12), (t2, ai g 63 gl_8)] := hD
                refine lv_iinc (v := (nI (q + 1))) (lv' := [(4, .int (nI (q + 1))), (3, .int x3b), (0, .ref sy), (1, .ref sk), (2, .int (nI k)), (5, .int (nI u))]) hx hb dX6_rebuild_119 hl (k := 4) rfl (nI_1 _) (by decide) rfl (fun ls hl => ?_)
                refine lv_goto (tgt := 26) hx hb dX6_rebuild_122 (by decide) ?_
                exact ih26 (q + 1) x3b _ _ _ (by omega) (by rw [ex3b, e3]; rfl) (RB_s ht4 (by omega) hT hf2_13) (by omega) _ _ _ hP hD hS (lv_sub hl [2, 3, 4, 1, 0] rfl)
              · skip
                have hu9 := lt_of_nle (k := t) (n := u) (by omega) (by omega) c46_6
                have hac := (hAk q hq9 u hu9).2
                have hor := OR_lt (t := t) (a := Ac k q)
                have hah := ah_lt q
                refine lv_aload_n hx hb dX6_rebuild_49 rfl (lv_at hl 0 rfl) ?_
                refine va_get (D := g.1) (ci := 6) (v := .ref tr) (C := RX6) (T := TX6) (N := 6) hx hb hts q_X6_rebuild_f_f6 hown hE.1 hP 0 rfl rfl 5 (by decide) (hts (.fieldLink RX6 31 "SoundLaws$Study" "tree" "LSoundLaws$Tree;") q_X6_rebuild_f_7) (fun _ h9 => h9) rfl dX6_rebuild_50 ?_
                refine va_get (D := g.1) (ci := 7) (v := .ref t1) (C := RX7) (T := TX7) (N := 3) hx hb hts q_X6_rebuild_f_f7 hown hE.1 hP 8 rfl rfl 1 (by decide) (hts (.fieldLink RX6 93 "SoundLaws$Tree" "sounds" "[I") q_X6_rebuild_f_9) (fun _ h9 => h9) rfl dX6_rebuild_53 ?_
                refine lv_iload hx hb dX6_rebuild_56 (lv_at hl 5 rfl) ?_
                refine lv_aload_n hx hb dX6_rebuild_58 rfl (lv_at hl 1 rfl) ?_
                refine va_get (D := g.1) (ci := 5) (v := .ref s3) (C := RX5) (T := TX5) (N := 5) hx hb hts q_X6_rebuild_f_f5 hown hE.1 hP 4 rfl rfl 4 (by decide) (hts (.fieldLink RX6 94 "SoundLaws$Stock" "words" "[I") q_X6_rebuild_f_17) (fun _ h9 => h9) rfl dX6_rebuild_59 ?_
                refine lv_iload_n hx hb dX6_rebuild_62 rfl (lv_at hl 2 rfl) ?_
                refine lv_iload hx hb dX6_rebuild_63 (lv_at hl 5 rfl) ?_
                refine k_ci (wr := [(sy, .inr (6, [.ref y1, .ref y2, .ref y3, .ref lw, .int chg, .ref tr])), (y1, ai g 168 T1), (y2, ai g 6 (upd S2 k (-1))), (y3, ai g 24 S3), (sk, .inr (5, [.int (nI z), .int (nI t), .ref s1, .ref s2, .ref s3])), (s1, ai g 6 K), (s2, ai g 6 L), (s3, ai g 96 V), (tr, .inr (7, [.int (nI t), .ref t1, .ref t2])), (t1, ai g 7 f3), (t2, ai g 63 fl1)]) hP hD hS hA [] [0, 1, 2, 3, 4, 5, 6, 7, 8, 9, 10] rfl rfl (by decide) (by decide) (va_runSN (As := [.int (nI k), .int (nI u)]) (rest := [.ref s3, .int (nI u), .ref t1]) ⟨hx, hb, hml, hown, hts⟩ (c_X8_wordAt_g l g k u  H.size) ⟨va_cnB 2 hts gX6_rebuild_X8_wordAt_n97 rfl rfl rfl (hE.nw 12 rfl) (hts (.initialized RX8) q_X6_rebuild_f_11) (by decide +kernel) ⟨Nat.le_of_ble_eq_true rfl, Nat.le_of_ble_eq_true rfl⟩, (hts (.static yX8_wordAt) q_X6_rebuild_f_18), trivial⟩ (k_preS hE hZ hP hD hS hA [] rfl (by decide)) rfl rfl hl.1 rfl (lv_room (Nat.le_of_ble_eq_true rfl)) dX6_rebuild_65 ⟨Nat.le_of_ble_eq_true rfl, Nat.le_of_ble_eq_true rfl⟩) (fun r_16 w1 H locs hw hP hD hS => ?_)
                obtain ⟨rfl, rfl⟩ := hw
                have hP : va_P g.1 vwCl [(sy, .inr (6, [.ref y1, .ref y2, .ref y3, .ref lw, .int chg, .ref tr])), (y1, ai g 168 T1), (y2, ai g 6 (upd S2 k (-1))), (y3, ai g 24 S3), (sk, .inr (5, [.int (nI z), .int (nI t), .ref s1, .ref s2, .ref s3])), (s1, ai g 6 K), (s2, ai g 6 L), (s3, ai g 96 V), (tr, .inr (7, [.int (nI t), .ref t1, .ref t2])), (t1, ai g 7 f3), (t2, ai g 63 fl1)] H := hP
                have hD : va_D A [(sy, .inr (6, [.ref y1, .ref y2, .ref y3, .ref lw, .int chg, .ref tr])), (y1, ai g 168 T1), (y2, ai g 6 (upd S2 k (-1))), (y3, ai g 24 S3), (sk, .inr (5, [.int (nI z), .int (nI t), .ref s1, .ref s2, .ref s3])), (s1, ai g 6 K), (s2, ai g 6 L), (s3, ai g 96 V), (tr, .inr (7, [.int (nI t), .ref t1, .ref t2])), (t1, ai g 7 f3), (t2, ai g 63 fl1)] := hD
                refine lv_iload hx hb dX6_rebuild_68 (lv_at hl 4 rfl) ?_
                refine lv_iadd hx hb dX6_rebuild_70 ?_
                refine k_ald (16 * k + 4 * u + q) (nI_add _ _) (by omega) hx hb hE hP 7 rfl (by decide) dX6_rebuild_71 ?_
                refine lv_topi (fun x_18 ex_18 => ?_)
                obtain rfl : x_18 = nI (Ac k q u) := by rw [ex_18]; exact (hAk q hq9 u hu9).1
                refine k_ast (x := (nI (Ac k q u))) u rfl (by omega) hx hb hE hP hD hS 9 rfl (by decide) dX6_rebuild_72 (fun H locs hP hD hS => ?_)
                have hP : va_P g.1 vwCl [(sy, .inr (6, [.ref y1, .ref y2, .ref y3, .ref lw, .int chg, .ref tr])), (y1, ai g 168 T1), (y2, ai g 6 (upd S2 k (-1))), (y3, ai g 24 S3), (sk, .inr (5, [.int (nI z), .int (nI t), .ref s1, .ref s2, .ref s3])), (s1, ai g 6 K), (s2, ai g 6 L), (s3, ai g 96 V), (tr, .inr (7, [.int (nI t), .ref t1, .ref t2])), (t1, ai g 7 (upd f3 u (nI (Ac k q u)))), (t2, ai g 63 fl1)] H := hP
                have hD : va_D A [(sy, .inr (6, [.ref y1, .ref y2, .ref y3, .ref lw, .int chg, .ref tr])), (y1, ai g 168 T1), (y2, ai g 6 (upd S2 k (-1))), (y3, ai g 24 S3), (sk, .inr (5, [.int (nI z), .int (nI t), .ref s1, .ref s2, .ref s3])), (s1, ai g 6 K), (s2, ai g 6 L), (s3, ai g 96 V), (tr, .inr (7, [.int (nI t), .ref t1, .ref t2])), (t1, ai g 7 (upd f3 u (nI (Ac k q u)))), (t2, ai g 63 fl1)] := hD
                refine lv_iinc (v := (nI (u + 1))) (lv' := [(5, .int (nI (u + 1))), (0, .ref sy), (1, .ref sk), (2, .int (nI k)), (3, .int x3), (4, .int (nI q))]) hx hb dX6_rebuild_73 hl (k := 5) rfl (nI_1 _) (by decide) rfl (fun ls hl => ?_)
                refine lv_goto (tgt := 40) hx hb dX6_rebuild_76 (by decide) ?_
                exact ih40 (u + 1) _ (by omega) (up_s (B := fun v => nI (Ac k q v)) hf3 rfl) (by omega) _ _ _ hP hD hS (lv_sub hl [1, 2, 3, 4, 5, 0] rfl)
          exact loop40 _ 0 f1 (Nat.zero_le t) (fun v hv => absurd hv (Nat.not_lt_zero v)) (Nat.lt_succ_self _) _ _ _ hP hD hS (lv_sub hl [1, 2, 3, 4, 5, 0] rfl)
    exact loop26 _ 0 0 S1 f fl (Nat.zero_le _) rfl RB_0 (Nat.lt_succ_self _) _ _ _ hP hD hS (lv_sub hl [2, 3, 4, 1, 0] rfl)
  · skip
    have hr0 := (rb_z (ka k) hK5).mp c17_3
    refine W.widen (k := 0) (n := 0) (Nat.le_of_ble_eq_true rfl) (Nat.le_of_ble_eq_true rfl) ?_
    exact k_rv hx hb hr hlocks hS hP hD ⟨chg, S1, (upd S2 k (-1)), f, fl, rfl, (fun _ _ => rfl), (fun q9 => absurd hr0 q9), (fun i => by unfold chK; rw [if_pos hr0]), (by unfold chE; rw [if_pos hr0, Int32.add_zero])⟩ dX6_rebuild_20
def po_X2_weigh_f (g : GG) (lw : Nat) (l1 : Nat) (l2 : Nat) (l3 : Nat) (l4 : Nat) (kn : Int32) (xo : Int32) (F4 : Nat → Int32) (i : Nat) (j : Nat) (w9 : Int32) : va_W → Prop := fun w => w = [(lw, .inr (2, [.ref l1, .ref l2, .ref l3, .int kn, .int xo, .ref l4])), (l4, ai g 648 (upd F4 (9 * i + j) (F4 (9 * i + j) + w9)))]
theorem q_X2_weigh_f_f2 : ∀ w ∈ u_ws RX2 TX2 6, w ∈ wsX2_weigh := by decide +kernel
theorem q_X2_weigh_f_1 : (Cond.fieldLink RX2 21 "SoundLaws$Laws" "weights" "[I") ∈ wsX2_weigh := by decide +kernel
set_option maxHeartbeats 1500000 in
set_option maxRecDepth 100000 in
theorem c_X2_weigh_f (l : Launch) (g : GG) (lw : Nat) (l1 : Nat) (l2 : Nat) (l3 : Nat) (l4 : Nat) (kn : Int32) (xo : Int32) (F4 : Nat → Int32) (i : Nat) (j : Nat) (w9 : Int32) (hi : i < 72) (hj : j < 9) (sz : Nat) : MetV l yX2_weigh wsX2_weigh ({ frames := 0, cells := 0, slots := 0, locals := 0 }) g [.ref lw, .int (nI i), .int (nI j), .int w9] [(lw, .inr (2, [.ref l1, .ref l2, .ref l3, .int kn, .int xo, .ref l4])), (l4, ai g 648 F4)] sz (po_X2_weigh_f g lw l1 l2 l3 l4 kn xo F4 i j w9) 0 0 := by
  refine k_of (l := l) (y := yX2_weigh) (ws := wsX2_weigh) (rm := { frames := 0, cells := 0, slots := 0, locals := 0 }) (mc := 0) (ms := 0) (av := [.ref lw, .int (nI i), .int (nI j), .int w9]) (g := g) (wc := [(lw, .inr (2, [.ref l1, .ref l2, .ref l3, .int kn, .int xo, .ref l4])), (l4, ai g 648 F4)]) (Qc := fun A => va_Qv (po_X2_weigh_f g lw l1 l2 l3 l4 kn xo F4 i j w9) (bk g A) A) (cc := cX2_weigh) (maxL := 4) (ret := none) (by decide) rfl (Nat.le_of_ble_eq_true rfl) ?_ sz
  intro p e s m below meth c hx hb hr hts hown hlocks hnm hml A hA hE hZ hP hD hS ls hl
  have hown : s.vm.findClass RX2 = some m.cls := hown
  have hl : lv_has ls 4 [(0, .ref lw), (1, .int (nI i)), (2, .int (nI j)), (3, .int w9)] := hl
  refine lv_aload_n hx hb dX2_weigh_0 rfl (lv_at hl 0 rfl) ?_
  refine va_get (D := g.1) (ci := 2) (v := .ref l4) (C := RX2) (T := TX2) (N := 6) hx hb hts q_X2_weigh_f_f2 hown hE.1 hP 0 rfl rfl 5 (by decide) (hts (.fieldLink RX2 21 "SoundLaws$Laws" "weights" "[I") q_X2_weigh_f_1) (fun _ h9 => h9) rfl dX2_weigh_1 ?_
  refine lv_iload_n hx hb dX2_weigh_4 rfl (lv_at hl 1 rfl) ?_
  refine lv_bipush (v := 9) hx hb dX2_weigh_5 (by decide) ?_
  refine lv_imul hx hb dX2_weigh_7 ?_
  refine lv_iload_n hx hb dX2_weigh_8 rfl (lv_at hl 2 rfl) ?_
  refine lv_iadd hx hb dX2_weigh_9 ?_
  refine lv_dup2_11 hx hb dX2_weigh_10 rfl rfl ?_
  refine k_ald (9 * i + j) (by rw [show (9 : Int32) = nI 9 from rfl, pk_mul, nI_add, Nat.mul_comm]) (by omega) hx hb hE hP 1 rfl (by decide) dX2_weigh_11 ?_
  refine lv_iload_n hx hb dX2_weigh_12 rfl (lv_at hl 3 rfl) ?_
  refine lv_iadd hx hb dX2_weigh_13 ?_
  refine k_ast (x := ((F4 (9 * i + j)) + w9)) (9 * i + j) (by rw [show (9 : Int32) = nI 9 from rfl, pk_mul, nI_add, Nat.mul_comm]) (by omega) hx hb hE hP hD hS 1 rfl (by decide) dX2_weigh_14 (fun H locs hP hD hS => ?_)
  have hP : va_P g.1 vwCl [(lw, .inr (2, [.ref l1, .ref l2, .ref l3, .int kn, .int xo, .ref l4])), (l4, ai g 648 (upd F4 (9 * i + j) ((F4 (9 * i + j)) + w9)))] H := hP
  have hD : va_D A [(lw, .inr (2, [.ref l1, .ref l2, .ref l3, .int kn, .int xo, .ref l4])), (l4, ai g 648 (upd F4 (9 * i + j) ((F4 (9 * i + j)) + w9)))] := hD
  refine W.widen (k := 0) (n := 0) (Nat.le_of_ble_eq_true rfl) (Nat.le_of_ble_eq_true rfl) ?_
  exact k_rv hx hb hr hlocks hS hP hD rfl dX2_weigh_15
def po_X6_weigh_f (g : GG) (sy : Nat) (y1 : Nat) (y2 : Nat) (y3 : Nat) (lw : Nat) (tr : Nat) (chg : Int32) (S1 : Nat → Int32) (sk : Nat) (s1 : Nat) (s2 : Nat) (s3 : Nat) (z : Nat) (t : Nat) (K : Nat → Int32) (L : Nat → Int32) (V : Nat → Int32) (l1 : Nat) (l2 : Nat) (l3 : Nat) (l4 : Nat) (kn : Int32) (xo : Int32) (F4 : Nat → Int32) (ka : Nat → Nat) (nl : Nat → Nat) (Ac : Nat → Nat → Nat → Nat) (k : Nat) : va_W → Prop := fun w => ∃ (G4 : Nat → Int32), w = [(sy, .inr (6, [.ref y1, .ref y2, .ref y3, .ref lw, .int chg, .ref tr])), (y1, ai g 168 S1), (sk, .inr (5, [.int (nI z), .int (nI t), .ref s1, .ref s2, .ref s3])), (s1, ai g 6 K), (s2, ai g 6 L), (s3, ai g 96 V), (lw, .inr (2, [.ref l1, .ref l2, .ref l3, .int kn, .int xo, .ref l4])), (l4, ai g 648 G4)] ∧ (∀ j, j < 648 → G4 j = F4 j + wK t ka nl Ac j k)
theorem q_X6_weigh_f_f5 : ∀ w ∈ u_ws RX5 TX5 5, w ∈ wsX6_weigh := by decide +kernel
theorem q_X6_weigh_f_1 : (Cond.fieldLink RX6 90 "SoundLaws$Stock" "kinds" "[I") ∈ wsX6_weigh := by decide +kernel
theorem q_X6_weigh_f_2 : (Cond.fieldLink RX6 75 "SoundLaws$Stock" "lengths" "[I") ∈ wsX6_weigh := by decide +kernel
theorem q_X6_weigh_f_3 : (Cond.fieldLink RX6 35 "SoundLaws$Stock" "tongues" "I") ∈ wsX6_weigh := by decide +kernel
theorem q_X6_weigh_f_4 : (Cond.fieldLink RX6 94 "SoundLaws$Stock" "words" "[I") ∈ wsX6_weigh := by decide +kernel
theorem q_X6_weigh_f_5 : (Cond.initialized RX8) ∈ wsX6_weigh := by decide +kernel
theorem q_X6_weigh_f_6 : (Cond.static yX8_wordAt) ∈ wsX6_weigh := by decide +kernel
theorem q_X6_weigh_f_f6 : ∀ w ∈ u_ws RX6 TX6 6, w ∈ wsX6_weigh := by decide +kernel
theorem q_X6_weigh_f_8 : (Cond.fieldLink RX6 24 "SoundLaws$Study" "laws" "LSoundLaws$Laws;") ∈ wsX6_weigh := by decide +kernel
theorem q_X6_weigh_f_9 : (Cond.static yX8_aheadAt) ∈ wsX6_weigh := by decide +kernel
theorem q_X6_weigh_f_10 : (Cond.static yX8_lawAt) ∈ wsX6_weigh := by decide +kernel
set_option maxHeartbeats 1500000 in
set_option maxRecDepth 100000 in
theorem c_X6_weigh_f (l : Launch) (g : GG) (sy : Nat) (y1 : Nat) (y2 : Nat) (y3 : Nat) (lw : Nat) (tr : Nat) (chg : Int32) (S1 : Nat → Int32) (sk : Nat) (s1 : Nat) (s2 : Nat) (s3 : Nat) (z : Nat) (t : Nat) (K : Nat → Int32) (L : Nat → Int32) (V : Nat → Int32) (l1 : Nat) (l2 : Nat) (l3 : Nat) (l4 : Nat) (kn : Int32) (xo : Int32) (F4 : Nat → Int32) (ka : Nat → Nat) (nl : Nat → Nat) (Ac : Nat → Nat → Nat → Nat) (k : Nat) (ht : 2 ≤ t) (ht4 : t ≤ 4) (hz : z ≤ 6) (hp : PIC z t K L V ka nl Ac) (hkz : k < z) (hSa : SDa z t ka nl Ac S1) (sz : Nat) : MetV l yX6_weigh wsX6_weigh ({ frames := 2, cells := 0, slots := 0, locals := 44 }) g [.ref sy, .ref sk, .int (nI k)] [(sy, .inr (6, [.ref y1, .ref y2, .ref y3, .ref lw, .int chg, .ref tr])), (y1, ai g 168 S1), (sk, .inr (5, [.int (nI z), .int (nI t), .ref s1, .ref s2, .ref s3])), (s1, ai g 6 K), (s2, ai g 6 L), (s3, ai g 96 V), (lw, .inr (2, [.ref l1, .ref l2, .ref l3, .int kn, .int xo, .ref l4])), (l4, ai g 648 F4)] sz (po_X6_weigh_f g sy y1 y2 y3 lw tr chg S1 sk s1 s2 s3 z t K L V l1 l2 l3 l4 kn xo F4 ka nl Ac k) 0 0 := by
  refine k_of (l := l) (y := yX6_weigh) (ws := wsX6_weigh) (rm := { frames := 2, cells := 0, slots := 0, locals := 44 }) (mc := 0) (ms := 0) (av := [.ref sy, .ref sk, .int (nI k)]) (g := g) (wc := [(sy, .inr (6, [.ref y1, .ref y2, .ref y3, .ref lw, .int chg, .ref tr])), (y1, ai g 168 S1), (sk, .inr (5, [.int (nI z), .int (nI t), .ref s1, .ref s2, .ref s3])), (s1, ai g 6 K), (s2, ai g 6 L), (s3, ai g 96 V), (lw, .inr (2, [.ref l1, .ref l2, .ref l3, .int kn, .int xo, .ref l4])), (l4, ai g 648 F4)]) (Qc := fun A => va_Qv (po_X6_weigh_f g sy y1 y2 y3 lw tr chg S1 sk s1 s2 s3 z t K L V l1 l2 l3 l4 kn xo F4 ka nl Ac k) (bk g A) A) (cc := cX6_weigh) (maxL := 8) (ret := none) (by decide) rfl (Nat.le_of_ble_eq_true rfl) ?_ sz
  intro p e s m below meth c hx hb hr hts hown hlocks hnm hml A hA hE hZ hP hD hS ls hl
  have hown : s.vm.findClass RX6 = some m.cls := hown
  have hl : lv_has ls 8 [(0, .ref sy), (1, .ref sk), (2, .int (nI k))] := hl
  obtain ⟨⟨eK, hK5⟩, ⟨eL, hn5⟩, hAk⟩ := hp k hkz
  refine va_getsN hx hb hZ.zWEIGHTS hS hown (va_Nw.use rfl (hE.nw (w := .fieldLinkNest RX6 113 "SoundLaws" "WEIGHTS" "[I" RX8) 19 rfl)) (fun _ h9 => h9) dX6_weigh_0 ?_
  refine lv_aload_n hx hb dX6_weigh_3 rfl (lv_at hl 1 rfl) ?_
  refine va_get (D := g.1) (ci := 5) (v := .ref s1) (C := RX5) (T := TX5) (N := 5) hx hb hts q_X6_weigh_f_f5 hown hE.1 hP 2 rfl rfl 2 (by decide) (hts (.fieldLink RX6 90 "SoundLaws$Stock" "kinds" "[I") q_X6_weigh_f_1) (fun _ h9 => h9) rfl dX6_weigh_4 ?_
  refine lv_iload_n hx hb dX6_weigh_7 rfl (lv_at hl 2 rfl) ?_
  refine k_ald k rfl (by omega) hx hb hE hP 3 rfl (by decide) dX6_weigh_8 ?_
  refine lv_topi (fun x_1 ex_1 => ?_)
  obtain rfl : x_1 = nI (ka k) := by rw [ex_1]; exact eK
  refine k_tld (ka k) rfl (by omega) hx hb hZ.tWEIGHTS hS (by decide) (v := tb_WEIGHTS.getD (ka k) 0) rfl dX6_weigh_9 ?_
  refine lv_topi (fun x_2 ex_2 => ?_)
  obtain rfl : x_2 = nI (wg (ka k)) := by rw [ex_2]; exact wg_tb (ka k) hK5
  refine lv_istore_n (lv' := [(3, .int (nI (wg (ka k)))), (0, .ref sy), (1, .ref sk), (2, .int (nI k))]) hx hb dX6_weigh_10 rfl hl (by decide) rfl (fun ls hl => ?_)
  refine lv_iload_n hx hb dX6_weigh_11 rfl (lv_at hl 0 rfl) ?_
  refine lv_if_ne (tgt := 16) hx hb dX6_weigh_12 (by decide) (fun c12_3 => ?_) (fun c12_3 => ?_)
  · skip
    have hw1 : ¬ wg (ka k) = 0 := fun q9 => c12_3 ((wg_z (ka k) hK5).mpr q9)
    have hrb := wg_rb (ka k) hK5 hw1
    refine lv_iconst (v := 0) hx hb dX6_weigh_16 (by decide) ?_
    refine lv_istore (lv' := [(4, .int 0), (3, .int (nI (wg (ka k)))), (0, .ref sy), (1, .ref sk), (2, .int (nI k))]) hx hb dX6_weigh_17 hl (by decide) rfl (fun ls hl => ?_)
    have loop19 : ∀ (fu : Nat) (q : Nat) (G4 : Nat → Int32), (hq : q ≤ nl k) → (hG4 : WQt t Ac k q (nI (wg (ka k))) F4 G4) → nl k - q < fu → ∀ (H : Heap) (locs : List Loc) (ls : Array Slot), va_P g.1 vwCl [(sy, .inr (6, [.ref y1, .ref y2, .ref y3, .ref lw, .int chg, .ref tr])), (y1, ai g 168 S1), (sk, .inr (5, [.int (nI z), .int (nI t), .ref s1, .ref s2, .ref s3])), (s1, ai g 6 K), (s2, ai g 6 L), (s3, ai g 96 V), (lw, .inr (2, [.ref l1, .ref l2, .ref l3, .int kn, .int xo, .ref l4])), (l4, ai g 648 G4)] H → va_D A [(sy, .inr (6, [.ref y1, .ref y2, .ref y3, .ref lw, .int chg, .ref tr])), (y1, ai g 168 S1), (sk, .inr (5, [.int (nI z), .int (nI t), .ref s1, .ref s2, .ref s3])), (s1, ai g 6 K), (s2, ai g 6 L), (s3, ai g 96 V), (lw, .inr (2, [.ref l1, .ref l2, .ref l3, .int kn, .int xo, .ref l4])), (l4, ai g 648 G4)] → va_S A s.heap H locs → lv_has ls 8 [(0, .ref sy), (1, .ref sk), (2, .int (nI k)), (3, .int (nI (wg (ka k)))), (4, .int (nI q))] → W p l e ({ frames := 2, cells := 0, slots := 0, locals := 44 }) s m [.ref sy, .ref sk, .int (nI k)].toArray below meth c H locs 0 0 (MQ below (va_Qv (po_X6_weigh_f g sy y1 y2 y3 lw tr chg S1 sk s1 s2 s3 z t K L V l1 l2 l3 l4 kn xo F4 ka nl Ac k) (bk g A) A) [.ref sy, .ref sk, .int (nI k)].toArray s 0 0 A) (F0 m 19 ls []) := by
      intro fu
      induction fu with
      | zero => intro q G4 hq hG4 hfu; exact absurd hfu (Nat.not_lt_zero _)
      | succ fu ih =>
        intro q G4 hq hG4 hfu H locs ls hP hD hS hl
        have ih19 := ih
        refine lv_iload hx hb dX6_weigh_19 (lv_at hl 4 rfl) ?_
        refine lv_aload_n hx hb dX6_weigh_21 rfl (lv_at hl 1 rfl) ?_
        refine va_get (D := g.1) (ci := 5) (v := .ref s2) (C := RX5) (T := TX5) (N := 5) hx hb hts q_X6_weigh_f_f5 hown hE.1 hP 2 rfl rfl 3 (by decide) (hts (.fieldLink RX6 75 "SoundLaws$Stock" "lengths" "[I") q_X6_weigh_f_2) (fun _ h9 => h9) rfl dX6_weigh_22 ?_
        refine lv_iload_n hx hb dX6_weigh_25 rfl (lv_at hl 2 rfl) ?_
        refine k_ald k rfl (by omega) hx hb hE hP 4 rfl (by decide) dX6_weigh_26 ?_
        refine lv_topi (fun x_4 ex_4 => ?_)
        obtain rfl : x_4 = nI (nl k) := by rw [ex_4]; exact eL
        refine lv_icmp_ge (tgt := 102) hx hb dX6_weigh_27 (by decide) (fun c27_5 => ?_) (fun c27_5 => ?_)
        · skip
          have hq10 := ge_of_le (k := nl k) (n := q) (by omega) (by omega) c27_5
          have hqn : q = nl k := by omega
          refine W.widen (k := 0) (n := 0) (Nat.le_of_ble_eq_true rfl) (Nat.le_of_ble_eq_true rfl) ?_
          exact k_rv hx hb hr hlocks hS hP hD ⟨G4, rfl, (fun j hj => by unfold wK; rw [if_neg hw1, ← hqn]; exact hG4 j hj)⟩ dX6_weigh_102
        · skip
          have hq9 := lt_of_nle (k := nl k) (n := q) (by omega) (by omega) c27_5
          refine lv_aload_n hx hb dX6_weigh_30 rfl (lv_at hl 0 rfl) ?_
          refine lv_aload_n hx hb dX6_weigh_31 rfl (lv_at hl 1 rfl) ?_
          refine lv_iload_n hx hb dX6_weigh_32 rfl (lv_at hl 2 rfl) ?_
          refine lv_iload hx hb dX6_weigh_33 (lv_at hl 4 rfl) ?_
          refine k_ci (wr := [(s1, ai g 6 K), (s2, ai g 6 L), (s3, ai g 96 V), (lw, .inr (2, [.ref l1, .ref l2, .ref l3, .int kn, .int xo, .ref l4])), (l4, ai g 648 G4)]) hP hD hS hA [0, 1, 2] [3, 4, 5, 6, 7] rfl rfl (by decide) (by decide) (va_runV (As := [.ref sk, .int (nI k), .int (nI q)]) (rest := []) ⟨hx, hb, hml, hown, hts⟩ (c_X6_oldSound_f l g sy y1 y2 y3 lw tr chg S1 sk s1 s2 s3 z t k q (by first | assumption | omega) (by first | assumption | omega) (by first | assumption | omega) (by first | assumption | omega) H.size) (cwV 3 hts gX6_weigh_X6_oldSound rfl rfl rfl (by decide +kernel) ⟨Nat.le_of_ble_eq_true rfl, Nat.le_of_ble_eq_true rfl⟩) (k_preV hE hZ hP hD hS hA [0, 1, 2] rfl (by decide) (va_recv hE.1 hP (ci := 6) (q0 := 0) rfl rfl)) rfl rfl hl.1 rfl (lv_room (Nat.le_of_ble_eq_true rfl)) dX6_weigh_35 ⟨Nat.le_of_ble_eq_true rfl, Nat.le_of_ble_eq_true rfl⟩) (fun r_6 w1 H locs hw hP hD hS => ?_)
          obtain ⟨rfl, rfl⟩ := hw
          have hP : va_P g.1 vwCl [(s1, ai g 6 K), (s2, ai g 6 L), (s3, ai g 96 V), (lw, .inr (2, [.ref l1, .ref l2, .ref l3, .int kn, .int xo, .ref l4])), (l4, ai g 648 G4), (sy, .inr (6, [.ref y1, .ref y2, .ref y3, .ref lw, .int chg, .ref tr])), (y1, ai g 168 S1), (sk, .inr (5, [.int (nI z), .int (nI t), .ref s1, .ref s2, .ref s3]))] H := hP
          have hD : va_D A [(s1, ai g 6 K), (s2, ai g 6 L), (s3, ai g 96 V), (lw, .inr (2, [.ref l1, .ref l2, .ref l3, .int kn, .int xo, .ref l4])), (l4, ai g 648 G4), (sy, .inr (6, [.ref y1, .ref y2, .ref y3, .ref lw, .int chg, .ref tr])), (y1, ai g 168 S1), (sk, .inr (5, [.int (nI z), .int (nI t), .ref s1, .ref s2, .ref s3]))] := hD
          refine lv_topi (fun x_8 ex_8 => ?_)
          obtain rfl : x_8 = nI (OR t (Ac k q)) := by rw [ex_8]; rw [hSa k hkz hrb q hq9 (2 * t - 2) (by omega), OS_root ht]
          refine lv_istore (lv' := [(5, .int (nI (OR t (Ac k q)))), (0, .ref sy), (1, .ref sk), (2, .int (nI k)), (3, .int (nI (wg (ka k)))), (4, .int (nI q))]) hx hb dX6_weigh_38 hl (by decide) rfl (fun ls hl => ?_)
          refine lv_iconst (v := 0) hx hb dX6_weigh_40 (by decide) ?_
          refine lv_istore (lv' := [(6, .int 0), (5, .int (nI (OR t (Ac k q)))), (0, .ref sy), (1, .ref sk), (2, .int (nI k)), (3, .int (nI (wg (ka k)))), (4, .int (nI q))]) hx hb dX6_weigh_41 hl (by decide) rfl (fun ls hl => ?_)
          have loop43 : ∀ (fu : Nat) (u : Nat) (M4 : Nat → Int32), (hu : u ≤ t) → (hM4 : WUt t Ac k q u (nI (wg (ka k))) G4 M4) → t - u < fu → ∀ (H : Heap) (locs : List Loc) (ls : Array Slot), va_P g.1 vwCl [(s1, ai g 6 K), (s2, ai g 6 L), (s3, ai g 96 V), (lw, .inr (2, [.ref l1, .ref l2, .ref l3, .int kn, .int xo, .ref l4])), (l4, ai g 648 M4), (sy, .inr (6, [.ref y1, .ref y2, .ref y3, .ref lw, .int chg, .ref tr])), (y1, ai g 168 S1), (sk, .inr (5, [.int (nI z), .int (nI t), .ref s1, .ref s2, .ref s3]))] H → va_D A [(s1, ai g 6 K), (s2, ai g 6 L), (s3, ai g 96 V), (lw, .inr (2, [.ref l1, .ref l2, .ref l3, .int kn, .int xo, .ref l4])), (l4, ai g 648 M4), (sy, .inr (6, [.ref y1, .ref y2, .ref y3, .ref lw, .int chg, .ref tr])), (y1, ai g 168 S1), (sk, .inr (5, [.int (nI z), .int (nI t), .ref s1, .ref s2, .ref s3]))] → va_S A s.heap H locs → lv_has ls 8 [(0, .ref sy), (1, .ref sk), (2, .int (nI k)), (3, .int (nI (wg (ka k)))), (4, .int (nI q)), (5, .int (nI (OR t (Ac k q)))), (6, .int (nI u))] → W p l e ({ frames := 2, cells := 0, slots := 0, locals := 44 }) s m [.ref sy, .ref sk, .int (nI k)].toArray below meth c H locs 0 0 (MQ below (va_Qv (po_X6_weigh_f g sy y1 y2 y3 lw tr chg S1 sk s1 s2 s3 z t K L V l1 l2 l3 l4 kn xo F4 ka nl Ac k) (bk g A) A) [.ref sy, .ref sk, .int (nI k)].toArray s 0 0 A) (F0 m 43 ls []) := by
            intro fu
            induction fu with
            | zero => intro u M4 hu hM4 hfu; exact absurd hfu (Nat.not_lt_zero _)
            | succ fu ih =>
              intro u M4 hu hM4 hfu H locs ls hP hD hS hl
              have ih43 := ih
              refine lv_iload hx hb dX6_weigh_43 (lv_at hl 6 rfl) ?_
              refine lv_aload_n hx hb dX6_weigh_45 rfl (lv_at hl 1 rfl) ?_
              refine va_get (D := g.1) (ci := 5) (v := .int (nI t)) (C := RX5) (T := TX5) (N := 5) hx hb hts q_X6_weigh_f_f5 hown hE.1 hP 7 rfl rfl 1 (by decide) (hts (.fieldLink RX6 35 "SoundLaws$Stock" "tongues" "I") q_X6_weigh_f_3) (fun _ h9 => h9) rfl dX6_weigh_46 ?_
              refine lv_icmp_ge (tgt := 96) hx hb dX6_weigh_49 (by decide) (fun c49_9 => ?_) (fun c49_9 => ?_)
              · skip
                have hu10 := ge_of_le (k := t) (n := u) (by omega) (by omega) c49_9
                have hut : u = t := by omega
                refine lv_iinc (v := (nI (q + 1))) (lv' := [(4, .int (nI (q + 1))), (0, .ref sy), (1, .ref sk), (2, .int (nI k)), (3, .int (nI (wg (ka k)))), (5, .int (nI (OR t (Ac k q)))), (6, .int (nI u))]) hx hb dX6_weigh_96 hl (k := 4) rfl (nI_1 _) (by decide) rfl (fun ls hl => ?_)
                refine lv_goto (tgt := 19) hx hb dX6_weigh_99 (by decide) ?_
                exact ih19 (q + 1) _ (by omega) (WQ_s hG4 (by rw [hut] at hM4; exact hM4)) (by omega) _ _ _ (hP.sub [5, 6, 7, 0, 1, 2, 3, 4] rfl) (hD.sub [5, 6, 7, 0, 1, 2, 3, 4] (by decide) rfl) hS (lv_sub hl [1, 2, 3, 4, 0] rfl)
              · skip
                have hu9 := lt_of_nle (k := t) (n := u) (by omega) (by omega) c49_9
                have hac := (hAk q hq9 u hu9).2
                have hor := OR_lt (t := t) (a := Ac k q)
                have hah := ah_lt q
                refine lv_aload_n hx hb dX6_weigh_52 rfl (lv_at hl 1 rfl) ?_
                refine va_get (D := g.1) (ci := 5) (v := .ref s3) (C := RX5) (T := TX5) (N := 5) hx hb hts q_X6_weigh_f_f5 hown hE.1 hP 7 rfl rfl 4 (by decide) (hts (.fieldLink RX6 94 "SoundLaws$Stock" "words" "[I") q_X6_weigh_f_4) (fun _ h9 => h9) rfl dX6_weigh_53 ?_
                refine lv_iload_n hx hb dX6_weigh_56 rfl (lv_at hl 2 rfl) ?_
                refine lv_iload hx hb dX6_weigh_57 (lv_at hl 6 rfl) ?_
                refine k_ci (wr := [(s1, ai g 6 K), (s2, ai g 6 L), (s3, ai g 96 V), (lw, .inr (2, [.ref l1, .ref l2, .ref l3, .int kn, .int xo, .ref l4])), (l4, ai g 648 M4), (sy, .inr (6, [.ref y1, .ref y2, .ref y3, .ref lw, .int chg, .ref tr])), (y1, ai g 168 S1), (sk, .inr (5, [.int (nI z), .int (nI t), .ref s1, .ref s2, .ref s3]))]) hP hD hS hA [] [0, 1, 2, 3, 4, 5, 6, 7] rfl rfl (by decide) (by decide) (va_runSN (As := [.int (nI k), .int (nI u)]) (rest := [.ref s3]) ⟨hx, hb, hml, hown, hts⟩ (c_X8_wordAt_g l g k u  H.size) ⟨va_cnB 2 hts gX6_weigh_X8_wordAt_n97 rfl rfl rfl (hE.nw 12 rfl) (hts (.initialized RX8) q_X6_weigh_f_5) (by decide +kernel) ⟨Nat.le_of_ble_eq_true rfl, Nat.le_of_ble_eq_true rfl⟩, (hts (.static yX8_wordAt) q_X6_weigh_f_6), trivial⟩ (k_preS hE hZ hP hD hS hA [] rfl (by decide)) rfl rfl hl.1 rfl (lv_room (Nat.le_of_ble_eq_true rfl)) dX6_weigh_59 ⟨Nat.le_of_ble_eq_true rfl, Nat.le_of_ble_eq_true rfl⟩) (fun r_10 w1 H locs hw hP hD hS => ?_)
                obtain ⟨rfl, rfl⟩ := hw
                have hP : va_P g.1 vwCl [(s1, ai g 6 K), (s2, ai g 6 L), (s3, ai g 96 V), (lw, .inr (2, [.ref l1, .ref l2, .ref l3, .int kn, .int xo, .ref l4])), (l4, ai g 648 M4), (sy, .inr (6, [.ref y1, .ref y2, .ref y3, .ref lw, .int chg, .ref tr])), (y1, ai g 168 S1), (sk, .inr (5, [.int (nI z), .int (nI t), .ref s1, .ref s2, .ref s3]))] H := hP
                have hD : va_D A [(s1, ai g 6 K), (s2, ai g 6 L), (s3, ai g 96 V), (lw, .inr (2, [.ref l1, .ref l2, .ref l3, .int kn, .int xo, .ref l4])), (l4, ai g 648 M4), (sy, .inr (6, [.ref y1, .ref y2, .ref y3, .ref lw, .int chg, .ref tr])), (y1, ai g 168 S1), (sk, .inr (5, [.int (nI z), .int (nI t), .ref s1, .ref s2, .ref s3]))] := hD
                refine lv_iload hx hb dX6_weigh_62 (lv_at hl 4 rfl) ?_
                refine lv_iadd hx hb dX6_weigh_64 ?_
                refine k_ald (16 * k + 4 * u + q) (nI_add _ _) (by omega) hx hb hE hP 2 rfl (by decide) dX6_weigh_65 ?_
                refine lv_topi (fun x_12 ex_12 => ?_)
                obtain rfl : x_12 = nI (Ac k q u) := by rw [ex_12]; exact (hAk q hq9 u hu9).1
                refine lv_istore (lv' := [(7, .int (nI (Ac k q u))), (0, .ref sy), (1, .ref sk), (2, .int (nI k)), (3, .int (nI (wg (ka k)))), (4, .int (nI q)), (5, .int (nI (OR t (Ac k q)))), (6, .int (nI u))]) hx hb dX6_weigh_66 hl (by decide) rfl (fun ls hl => ?_)
                refine lv_aload_n hx hb dX6_weigh_68 rfl (lv_at hl 1 rfl) ?_
                refine va_get (D := g.1) (ci := 6) (v := .ref lw) (C := RX6) (T := TX6) (N := 6) hx hb hts q_X6_weigh_f_f6 hown hE.1 hP 5 rfl rfl 3 (by decide) (hts (.fieldLink RX6 24 "SoundLaws$Study" "laws" "LSoundLaws$Laws;") q_X6_weigh_f_8) (fun _ h9 => h9) rfl dX6_weigh_69 ?_
                refine lv_iload hx hb dX6_weigh_72 (lv_at hl 7 rfl) ?_
                refine lv_iload hx hb dX6_weigh_74 (lv_at hl 6 rfl) ?_
                refine lv_iload hx hb dX6_weigh_76 (lv_at hl 5 rfl) ?_
                refine k_ci (wr := [(s1, ai g 6 K), (s2, ai g 6 L), (s3, ai g 96 V), (lw, .inr (2, [.ref l1, .ref l2, .ref l3, .int kn, .int xo, .ref l4])), (l4, ai g 648 M4), (sy, .inr (6, [.ref y1, .ref y2, .ref y3, .ref lw, .int chg, .ref tr])), (y1, ai g 168 S1), (sk, .inr (5, [.int (nI z), .int (nI t), .ref s1, .ref s2, .ref s3]))]) hP hD hS hA [] [0, 1, 2, 3, 4, 5, 6, 7] rfl rfl (by decide) (by decide) (va_runSN (As := [.int (nI q)]) (rest := [.int (nI (OR t (Ac k q))), .int (nI u), .ref lw]) ⟨hx, hb, hml, hown, hts⟩ (c_X8_aheadAt_g l g q (by first | assumption | omega) H.size) ⟨va_cnB 1 hts gX6_weigh_X8_aheadAt_n120 rfl rfl rfl (hE.nw 21 rfl) (hts (.initialized RX8) q_X6_weigh_f_5) (by decide +kernel) ⟨Nat.le_of_ble_eq_true rfl, Nat.le_of_ble_eq_true rfl⟩, (hts (.static yX8_aheadAt) q_X6_weigh_f_9), trivial⟩ (k_preS hE hZ hP hD hS hA [] rfl (by decide)) rfl rfl hl.1 rfl (lv_room (Nat.le_of_ble_eq_true rfl)) dX6_weigh_78 ⟨Nat.le_of_ble_eq_true rfl, Nat.le_of_ble_eq_true rfl⟩) (fun r_13 w1 H locs hw hP hD hS => ?_)
                obtain ⟨rfl, rfl⟩ := hw
                have hP : va_P g.1 vwCl [(s1, ai g 6 K), (s2, ai g 6 L), (s3, ai g 96 V), (lw, .inr (2, [.ref l1, .ref l2, .ref l3, .int kn, .int xo, .ref l4])), (l4, ai g 648 M4), (sy, .inr (6, [.ref y1, .ref y2, .ref y3, .ref lw, .int chg, .ref tr])), (y1, ai g 168 S1), (sk, .inr (5, [.int (nI z), .int (nI t), .ref s1, .ref s2, .ref s3]))] H := hP
                have hD : va_D A [(s1, ai g 6 K), (s2, ai g 6 L), (s3, ai g 96 V), (lw, .inr (2, [.ref l1, .ref l2, .ref l3, .int kn, .int xo, .ref l4])), (l4, ai g 648 M4), (sy, .inr (6, [.ref y1, .ref y2, .ref y3, .ref lw, .int chg, .ref tr])), (y1, ai g 168 S1), (sk, .inr (5, [.int (nI z), .int (nI t), .ref s1, .ref s2, .ref s3]))] := hD
                refine k_ci (wr := [(s1, ai g 6 K), (s2, ai g 6 L), (s3, ai g 96 V), (lw, .inr (2, [.ref l1, .ref l2, .ref l3, .int kn, .int xo, .ref l4])), (l4, ai g 648 M4), (sy, .inr (6, [.ref y1, .ref y2, .ref y3, .ref lw, .int chg, .ref tr])), (y1, ai g 168 S1), (sk, .inr (5, [.int (nI z), .int (nI t), .ref s1, .ref s2, .ref s3]))]) hP hD hS hA [] [0, 1, 2, 3, 4, 5, 6, 7] rfl rfl (by decide) (by decide) (va_runSN (As := [.int (nI u), .int (nI (OR t (Ac k q))), .int (nI (ah q))]) (rest := [.ref lw]) ⟨hx, hb, hml, hown, hts⟩ (c_X8_lawAt_g l g u (OR t (Ac k q)) (ah q)  H.size) ⟨va_cnB 3 hts gX6_weigh_X8_lawAt_n123 rfl rfl rfl (hE.nw 22 rfl) (hts (.initialized RX8) q_X6_weigh_f_5) (by decide +kernel) ⟨Nat.le_of_ble_eq_true rfl, Nat.le_of_ble_eq_true rfl⟩, (hts (.static yX8_lawAt) q_X6_weigh_f_10), trivial⟩ (k_preS hE hZ hP hD hS hA [] rfl (by decide)) rfl rfl hl.1 rfl (lv_room (Nat.le_of_ble_eq_true rfl)) dX6_weigh_81 ⟨Nat.le_of_ble_eq_true rfl, Nat.le_of_ble_eq_true rfl⟩) (fun r_15 w1 H locs hw hP hD hS => ?_)
                obtain ⟨rfl, rfl⟩ := hw
                have hP : va_P g.1 vwCl [(s1, ai g 6 K), (s2, ai g 6 L), (s3, ai g 96 V), (lw, .inr (2, [.ref l1, .ref l2, .ref l3, .int kn, .int xo, .ref l4])), (l4, ai g 648 M4), (sy, .inr (6, [.ref y1, .ref y2, .ref y3, .ref lw, .int chg, .ref tr])), (y1, ai g 168 S1), (sk, .inr (5, [.int (nI z), .int (nI t), .ref s1, .ref s2, .ref s3]))] H := hP
                have hD : va_D A [(s1, ai g 6 K), (s2, ai g 6 L), (s3, ai g 96 V), (lw, .inr (2, [.ref l1, .ref l2, .ref l3, .int kn, .int xo, .ref l4])), (l4, ai g 648 M4), (sy, .inr (6, [.ref y1, .ref y2, .ref y3, .ref lw, .int chg, .ref tr])), (y1, ai g 168 S1), (sk, .inr (5, [.int (nI z), .int (nI t), .ref s1, .ref s2, .ref s3]))] := hD
                refine lv_iload hx hb dX6_weigh_84 (lv_at hl 0 rfl) ?_
                refine lv_iload_n hx hb dX6_weigh_86 rfl (lv_at hl 4 rfl) ?_
                refine k_cv (wr := [(s1, ai g 6 K), (s2, ai g 6 L), (s3, ai g 96 V), (sy, .inr (6, [.ref y1, .ref y2, .ref y3, .ref lw, .int chg, .ref tr])), (y1, ai g 168 S1), (sk, .inr (5, [.int (nI z), .int (nI t), .ref s1, .ref s2, .ref s3]))]) hP hD hS hA [3, 4] [0, 1, 2, 5, 6, 7] rfl rfl (by decide) (by decide) (va_runV (As := [.int (nI (18 * u + 2 * (OR t (Ac k q)) + (ah q))), .int (nI (Ac k q u)), .int (nI (wg (ka k)))]) (rest := []) ⟨hx, hb, hml, hown, hts⟩ (c_X2_weigh_f l g lw l1 l2 l3 l4 kn xo M4 (18 * u + 2 * (OR t (Ac k q)) + (ah q)) (Ac k q u) (nI (wg (ka k))) (by first | assumption | omega) (by first | assumption | omega) H.size) (cwV 3 hts gX6_weigh_X2_weigh rfl rfl rfl (by decide +kernel) ⟨Nat.le_of_ble_eq_true rfl, Nat.le_of_ble_eq_true rfl⟩) (k_preV hE hZ hP hD hS hA [3, 4] rfl (by decide) (va_recv hE.1 hP (ci := 2) (q0 := 3) rfl rfl)) rfl rfl hl.1 rfl (lv_room (Nat.le_of_ble_eq_true rfl)) dX6_weigh_87 ⟨Nat.le_of_ble_eq_true rfl, Nat.le_of_ble_eq_true rfl⟩) (fun w1 H locs hw hP hD hS => ?_)
                obtain rfl := hw
                have hP : va_P g.1 vwCl [(s1, ai g 6 K), (s2, ai g 6 L), (s3, ai g 96 V), (sy, .inr (6, [.ref y1, .ref y2, .ref y3, .ref lw, .int chg, .ref tr])), (y1, ai g 168 S1), (sk, .inr (5, [.int (nI z), .int (nI t), .ref s1, .ref s2, .ref s3])), (lw, .inr (2, [.ref l1, .ref l2, .ref l3, .int kn, .int xo, .ref l4])), (l4, ai g 648 (upd M4 (9 * (18 * u + 2 * (OR t (Ac k q)) + (ah q)) + (Ac k q u)) (M4 (9 * (18 * u + 2 * (OR t (Ac k q)) + (ah q)) + (Ac k q u)) + (nI (wg (ka k))))))] H := hP
                have hD : va_D A [(s1, ai g 6 K), (s2, ai g 6 L), (s3, ai g 96 V), (sy, .inr (6, [.ref y1, .ref y2, .ref y3, .ref lw, .int chg, .ref tr])), (y1, ai g 168 S1), (sk, .inr (5, [.int (nI z), .int (nI t), .ref s1, .ref s2, .ref s3])), (lw, .inr (2, [.ref l1, .ref l2, .ref l3, .int kn, .int xo, .ref l4])), (l4, ai g 648 (upd M4 (9 * (18 * u + 2 * (OR t (Ac k q)) + (ah q)) + (Ac k q u)) (M4 (9 * (18 * u + 2 * (OR t (Ac k q)) + (ah q)) + (Ac k q u)) + (nI (wg (ka k))))))] := hD
                refine lv_iinc (v := (nI (u + 1))) (lv' := [(6, .int (nI (u + 1))), (7, .int (nI (Ac k q u))), (0, .ref sy), (1, .ref sk), (2, .int (nI k)), (3, .int (nI (wg (ka k)))), (4, .int (nI q)), (5, .int (nI (OR t (Ac k q))))]) hx hb dX6_weigh_90 hl (k := 7) rfl (nI_1 _) (by decide) rfl (fun ls hl => ?_)
                refine lv_goto (tgt := 43) hx hb dX6_weigh_93 (by decide) ?_
                exact ih43 (u + 1) _ (by omega) (WU_s hM4) (by omega) _ _ _ (hP.sub [0, 1, 2, 6, 7, 3, 4, 5] rfl) (hD.sub [0, 1, 2, 6, 7, 3, 4, 5] (by decide) rfl) hS (lv_sub hl [2, 3, 4, 5, 6, 7, 0] rfl)
          exact loop43 _ 0 G4 (Nat.zero_le t) WU_0 (Nat.lt_succ_self _) _ _ _ hP hD hS (lv_sub hl [2, 3, 4, 5, 6, 1, 0] rfl)
    exact loop19 _ 0 F4 (Nat.zero_le _) WQ_0 (Nat.lt_succ_self _) _ _ _ hP hD hS (lv_sub hl [2, 3, 4, 1, 0] rfl)
  · skip
    have hw0 := (wg_z (ka k) hK5).mp c12_3
    refine W.widen (k := 0) (n := 0) (Nat.le_of_ble_eq_true rfl) (Nat.le_of_ble_eq_true rfl) ?_
    exact k_rv hx hb hr hlocks hS hP hD ⟨F4, rfl, (fun j hj => by unfold wK; rw [if_pos hw0, Int32.add_zero])⟩ dX6_weigh_15
def po_X2_clear_f (g : GG) (lw : Nat) (l1 : Nat) (l2 : Nat) (l3 : Nat) (l4 : Nat) (kn : Int32) (xo : Int32) (F4 : Nat → Int32) : va_W → Prop := fun w => ∃ (G4 : Nat → Int32), w = [(lw, .inr (2, [.ref l1, .ref l2, .ref l3, .int kn, .int xo, .ref l4])), (l4, ai g 648 G4)] ∧ (∀ j, j < 648 → G4 j = 0)
theorem q_X2_clear_f_f2 : ∀ w ∈ u_ws RX2 TX2 6, w ∈ wsX2_clear := by decide +kernel
theorem q_X2_clear_f_1 : (Cond.fieldLink RX2 21 "SoundLaws$Laws" "weights" "[I") ∈ wsX2_clear := by decide +kernel
set_option maxHeartbeats 1500000 in
set_option maxRecDepth 100000 in
theorem c_X2_clear_f (l : Launch) (g : GG) (lw : Nat) (l1 : Nat) (l2 : Nat) (l3 : Nat) (l4 : Nat) (kn : Int32) (xo : Int32) (F4 : Nat → Int32)  (sz : Nat) : MetV l yX2_clear wsX2_clear ({ frames := 1, cells := 0, slots := 0, locals := 23 }) g [.ref lw] [(lw, .inr (2, [.ref l1, .ref l2, .ref l3, .int kn, .int xo, .ref l4])), (l4, ai g 648 F4)] sz (po_X2_clear_f g lw l1 l2 l3 l4 kn xo F4) 0 0 := by
  refine k_of (l := l) (y := yX2_clear) (ws := wsX2_clear) (rm := { frames := 1, cells := 0, slots := 0, locals := 23 }) (mc := 0) (ms := 0) (av := [.ref lw]) (g := g) (wc := [(lw, .inr (2, [.ref l1, .ref l2, .ref l3, .int kn, .int xo, .ref l4])), (l4, ai g 648 F4)]) (Qc := fun A => va_Qv (po_X2_clear_f g lw l1 l2 l3 l4 kn xo F4) (bk g A) A) (cc := cX2_clear) (maxL := 1) (ret := none) (by decide) rfl (Nat.le_of_ble_eq_true rfl) ?_ sz
  intro p e s m below meth c hx hb hr hts hown hlocks hnm hml A hA hE hZ hP hD hS ls hl
  have hown : s.vm.findClass RX2 = some m.cls := hown
  have hl : lv_has ls 1 [(0, .ref lw)] := hl
  refine lv_aload_n hx hb dX2_clear_0 rfl (lv_at hl 0 rfl) ?_
  refine va_get (D := g.1) (ci := 2) (v := .ref l4) (C := RX2) (T := TX2) (N := 6) hx hb hts q_X2_clear_f_f2 hown hE.1 hP 0 rfl rfl 5 (by decide) (hts (.fieldLink RX2 21 "SoundLaws$Laws" "weights" "[I") q_X2_clear_f_1) (fun _ h9 => h9) rfl dX2_clear_1 ?_
  refine lv_iconst (v := 0) hx hb dX2_clear_4 (by decide) ?_
  refine k_cv (wr := [(lw, .inr (2, [.ref l1, .ref l2, .ref l3, .int kn, .int xo, .ref l4]))]) hP hD hS hA [1] [0] rfl rfl (by decide) (by decide) (va_runS (As := [.ref l4, .int 0]) (rest := []) ⟨hx, hb, hml, hown, hts⟩ (c_J7_fill_53178 l g l4 F4  s.heap.size) (va_cwS 2 hts gX2_clear_J7_fill_53178 rfl rfl rfl (by decide +kernel) ⟨Nat.le_of_ble_eq_true rfl, Nat.le_of_ble_eq_true rfl⟩) (k_preS hE hZ hP hD hS hA [1] rfl (by decide)) rfl rfl hl.1 rfl (lv_room (Nat.le_of_ble_eq_true rfl)) dX2_clear_5 ⟨Nat.le_of_ble_eq_true rfl, Nat.le_of_ble_eq_true rfl⟩) (fun w1 H locs hw hP hD hS => ?_)
  obtain ⟨f1_2, rfl, hf1_3⟩ := hw
  have hP : va_P g.1 vwCl [(lw, .inr (2, [.ref l1, .ref l2, .ref l3, .int kn, .int xo, .ref l4])), (l4, ai g 648 f1_2)] H := hP
  have hD : va_D A [(lw, .inr (2, [.ref l1, .ref l2, .ref l3, .int kn, .int xo, .ref l4])), (l4, ai g 648 f1_2)] := hD
  refine W.widen (k := 0) (n := 0) (Nat.le_of_ble_eq_true rfl) (Nat.le_of_ble_eq_true rfl) ?_
  exact k_rv hx hb hr hlocks hS hP hD ⟨f1_2, rfl, hf1_3⟩ dX2_clear_8
def po_X2_settleLaw_f (g : GG) (lw : Nat) (l1 : Nat) (l2 : Nat) (l3 : Nat) (l4 : Nat) (kn : Int32) (xo : Int32) (F1 : Nat → Int32) (F2 : Nat → Int32) (F3 : Nat → Int32) (F4 : Nat → Int32) (Fw : Nat → Int32) (i : Nat) : va_W → Prop := fun w => ∃ (G1 : Nat → Int32) (G2 : Nat → Int32) (G3 : Nat → Int32), w = [(lw, .inr (2, [.ref l1, .ref l2, .ref l3, .int kn, .int xo, .ref l4])), (l1, ai g 72 G1), (l2, ai g 72 G2), (l3, ai g 72 G3), (l4, ai g 648 F4)] ∧ (G1 = upd F1 i (laB Fw i)) ∧ (G2 = upd F2 i (laG Fw i)) ∧ (G3 = upd F3 i (laX Fw i))
theorem q_X2_settleLaw_f_f2 : ∀ w ∈ u_ws RX2 TX2 6, w ∈ wsX2_settleLaw := by decide +kernel
theorem q_X2_settleLaw_f_1 : (Cond.fieldLink RX2 9 "SoundLaws$Laws" "becomes" "[I") ∈ wsX2_settleLaw := by decide +kernel
theorem q_X2_settleLaw_f_2 : (Cond.fieldLink RX2 15 "SoundLaws$Laws" "follows" "[I") ∈ wsX2_settleLaw := by decide +kernel
theorem q_X2_settleLaw_f_3 : (Cond.fieldLink RX2 18 "SoundLaws$Laws" "exceptions" "[I") ∈ wsX2_settleLaw := by decide +kernel
theorem q_X2_settleLaw_f_4 : (Cond.fieldLink RX2 21 "SoundLaws$Laws" "weights" "[I") ∈ wsX2_settleLaw := by decide +kernel
set_option maxHeartbeats 1500000 in
set_option maxRecDepth 100000 in
theorem c_X2_settleLaw_f (l : Launch) (g : GG) (lw : Nat) (l1 : Nat) (l2 : Nat) (l3 : Nat) (l4 : Nat) (kn : Int32) (xo : Int32) (F1 : Nat → Int32) (F2 : Nat → Int32) (F3 : Nat → Int32) (F4 : Nat → Int32) (Fw : Nat → Int32) (i : Nat) (hi : i < 72) (hF : ∀ j, j < 648 → F4 j = Fw j) (sz : Nat) : MetV l yX2_settleLaw wsX2_settleLaw ({ frames := 0, cells := 0, slots := 0, locals := 0 }) g [.ref lw, .int (nI i)] [(lw, .inr (2, [.ref l1, .ref l2, .ref l3, .int kn, .int xo, .ref l4])), (l1, ai g 72 F1), (l2, ai g 72 F2), (l3, ai g 72 F3), (l4, ai g 648 F4)] sz (po_X2_settleLaw_f g lw l1 l2 l3 l4 kn xo F1 F2 F3 F4 Fw i) 0 0 := by
  refine k_of (l := l) (y := yX2_settleLaw) (ws := wsX2_settleLaw) (rm := { frames := 0, cells := 0, slots := 0, locals := 0 }) (mc := 0) (ms := 0) (av := [.ref lw, .int (nI i)]) (g := g) (wc := [(lw, .inr (2, [.ref l1, .ref l2, .ref l3, .int kn, .int xo, .ref l4])), (l1, ai g 72 F1), (l2, ai g 72 F2), (l3, ai g 72 F3), (l4, ai g 648 F4)]) (Qc := fun A => va_Qv (po_X2_settleLaw_f g lw l1 l2 l3 l4 kn xo F1 F2 F3 F4 Fw i) (bk g A) A) (cc := cX2_settleLaw) (maxL := 7) (ret := none) (by decide) rfl (Nat.le_of_ble_eq_true rfl) ?_ sz
  intro p e s m below meth c hx hb hr hts hown hlocks hnm hml A hA hE hZ hP hD hS ls hl
  have hown : s.vm.findClass RX2 = some m.cls := hown
  have hl : lv_has ls 7 [(0, .ref lw), (1, .int (nI i))] := hl
  refine lv_iconst (v := (-1)) hx hb dX2_settleLaw_0 (by decide) ?_
  refine lv_istore_n (lv' := [(2, .int (-1)), (0, .ref lw), (1, .int (nI i))]) hx hb dX2_settleLaw_1 rfl hl (by decide) rfl (fun ls hl => ?_)
  refine lv_iconst (v := 0) hx hb dX2_settleLaw_2 (by decide) ?_
  refine lv_istore_n (lv' := [(3, .int 0), (2, .int (-1)), (0, .ref lw), (1, .int (nI i))]) hx hb dX2_settleLaw_3 rfl hl (by decide) rfl (fun ls hl => ?_)
  refine lv_iconst (v := 0) hx hb dX2_settleLaw_4 (by decide) ?_
  refine lv_istore (lv' := [(4, .int 0), (3, .int 0), (2, .int (-1)), (0, .ref lw), (1, .int (nI i))]) hx hb dX2_settleLaw_5 hl (by decide) rfl (fun ls hl => ?_)
  refine lv_iconst (v := 0) hx hb dX2_settleLaw_7 (by decide) ?_
  refine lv_istore (lv' := [(5, .int 0), (4, .int 0), (3, .int 0), (2, .int (-1)), (0, .ref lw), (1, .int (nI i))]) hx hb dX2_settleLaw_8 hl (by decide) rfl (fun ls hl => ?_)
  have loop10 : ∀ (fu : Nat) (j : Nat) (x2 x3 x4 : Int32), (hj : j ≤ 9) → (e2 : x2 = lwB (fun v => Fw (9 * i + v)) j) → (e3 : x3 = lwG (fun v => Fw (9 * i + v)) j) → (e4 : x4 = lwA (fun v => Fw (9 * i + v)) j) → 9 - j < fu → ∀ (H : Heap) (locs : List Loc) (ls : Array Slot), va_P g.1 vwCl [(lw, .inr (2, [.ref l1, .ref l2, .ref l3, .int kn, .int xo, .ref l4])), (l1, ai g 72 F1), (l2, ai g 72 F2), (l3, ai g 72 F3), (l4, ai g 648 F4)] H → va_D A [(lw, .inr (2, [.ref l1, .ref l2, .ref l3, .int kn, .int xo, .ref l4])), (l1, ai g 72 F1), (l2, ai g 72 F2), (l3, ai g 72 F3), (l4, ai g 648 F4)] → va_S A s.heap H locs → lv_has ls 7 [(0, .ref lw), (1, .int (nI i)), (2, .int x2), (3, .int x3), (4, .int x4), (5, .int (nI j))] → W p l e ({ frames := 0, cells := 0, slots := 0, locals := 0 }) s m [.ref lw, .int (nI i)].toArray below meth c H locs 0 0 (MQ below (va_Qv (po_X2_settleLaw_f g lw l1 l2 l3 l4 kn xo F1 F2 F3 F4 Fw i) (bk g A) A) [.ref lw, .int (nI i)].toArray s 0 0 A) (F0 m 10 ls []) := by
    intro fu
    induction fu with
    | zero => intro j x2 x3 x4 hj e2 e3 e4 hfu; exact absurd hfu (Nat.not_lt_zero _)
    | succ fu ih =>
      intro j x2 x3 x4 hj e2 e3 e4 hfu H locs ls hP hD hS hl
      have ih10 := ih
      refine lv_iload hx hb dX2_settleLaw_10 (lv_at hl 5 rfl) ?_
      refine lv_bipush (v := 9) hx hb dX2_settleLaw_12 (by decide) ?_
      refine lv_icmp_ge (tgt := 56) hx hb dX2_settleLaw_14 (by decide) (fun c14_1 => ?_) (fun c14_1 => ?_)
      · skip
        have hj10 := ge_of_le (k := 9) (n := j) (by decide) (by omega) c14_1
        have hj9 : j = 9 := by omega
        refine lv_aload_n hx hb dX2_settleLaw_56 rfl (lv_at hl 0 rfl) ?_
        refine va_get (D := g.1) (ci := 2) (v := .ref l1) (C := RX2) (T := TX2) (N := 6) hx hb hts q_X2_settleLaw_f_f2 hown hE.1 hP 0 rfl rfl 0 (by decide) (hts (.fieldLink RX2 9 "SoundLaws$Laws" "becomes" "[I") q_X2_settleLaw_f_1) (fun _ h9 => h9) rfl dX2_settleLaw_57 ?_
        refine lv_iload_n hx hb dX2_settleLaw_60 rfl (lv_at hl 1 rfl) ?_
        refine lv_iload_n hx hb dX2_settleLaw_61 rfl (lv_at hl 2 rfl) ?_
        refine k_ast (x := x2) i rfl (by omega) hx hb hE hP hD hS 1 rfl (by decide) dX2_settleLaw_62 (fun H locs hP hD hS => ?_)
        have hP : va_P g.1 vwCl [(lw, .inr (2, [.ref l1, .ref l2, .ref l3, .int kn, .int xo, .ref l4])), (l1, ai g 72 (upd F1 i x2)), (l2, ai g 72 F2), (l3, ai g 72 F3), (l4, ai g 648 F4)] H := hP
        have hD : va_D A [(lw, .inr (2, [.ref l1, .ref l2, .ref l3, .int kn, .int xo, .ref l4])), (l1, ai g 72 (upd F1 i x2)), (l2, ai g 72 F2), (l3, ai g 72 F3), (l4, ai g 648 F4)] := hD
        refine lv_aload_n hx hb dX2_settleLaw_63 rfl (lv_at hl 0 rfl) ?_
        refine va_get (D := g.1) (ci := 2) (v := .ref l2) (C := RX2) (T := TX2) (N := 6) hx hb hts q_X2_settleLaw_f_f2 hown hE.1 hP 0 rfl rfl 1 (by decide) (hts (.fieldLink RX2 15 "SoundLaws$Laws" "follows" "[I") q_X2_settleLaw_f_2) (fun _ h9 => h9) rfl dX2_settleLaw_64 ?_
        refine lv_iload_n hx hb dX2_settleLaw_67 rfl (lv_at hl 1 rfl) ?_
        refine lv_iload_n hx hb dX2_settleLaw_68 rfl (lv_at hl 3 rfl) ?_
        refine k_ast (x := x3) i rfl (by omega) hx hb hE hP hD hS 2 rfl (by decide) dX2_settleLaw_69 (fun H locs hP hD hS => ?_)
        have hP : va_P g.1 vwCl [(lw, .inr (2, [.ref l1, .ref l2, .ref l3, .int kn, .int xo, .ref l4])), (l1, ai g 72 (upd F1 i x2)), (l2, ai g 72 (upd F2 i x3)), (l3, ai g 72 F3), (l4, ai g 648 F4)] H := hP
        have hD : va_D A [(lw, .inr (2, [.ref l1, .ref l2, .ref l3, .int kn, .int xo, .ref l4])), (l1, ai g 72 (upd F1 i x2)), (l2, ai g 72 (upd F2 i x3)), (l3, ai g 72 F3), (l4, ai g 648 F4)] := hD
        refine lv_aload_n hx hb dX2_settleLaw_70 rfl (lv_at hl 0 rfl) ?_
        refine va_get (D := g.1) (ci := 2) (v := .ref l3) (C := RX2) (T := TX2) (N := 6) hx hb hts q_X2_settleLaw_f_f2 hown hE.1 hP 0 rfl rfl 2 (by decide) (hts (.fieldLink RX2 18 "SoundLaws$Laws" "exceptions" "[I") q_X2_settleLaw_f_3) (fun _ h9 => h9) rfl dX2_settleLaw_71 ?_
        refine lv_iload_n hx hb dX2_settleLaw_74 rfl (lv_at hl 1 rfl) ?_
        refine lv_iload hx hb dX2_settleLaw_75 (lv_at hl 4 rfl) ?_
        refine lv_iload_n hx hb dX2_settleLaw_77 rfl (lv_at hl 3 rfl) ?_
        refine lv_isub hx hb dX2_settleLaw_78 ?_
        refine lv_topi (fun x9 ex9 => ?_)
        refine k_ast (x := x9) i rfl (by omega) hx hb hE hP hD hS 3 rfl (by decide) dX2_settleLaw_79 (fun H locs hP hD hS => ?_)
        have hP : va_P g.1 vwCl [(lw, .inr (2, [.ref l1, .ref l2, .ref l3, .int kn, .int xo, .ref l4])), (l1, ai g 72 (upd F1 i x2)), (l2, ai g 72 (upd F2 i x3)), (l3, ai g 72 (upd F3 i x9)), (l4, ai g 648 F4)] H := hP
        have hD : va_D A [(lw, .inr (2, [.ref l1, .ref l2, .ref l3, .int kn, .int xo, .ref l4])), (l1, ai g 72 (upd F1 i x2)), (l2, ai g 72 (upd F2 i x3)), (l3, ai g 72 (upd F3 i x9)), (l4, ai g 648 F4)] := hD
        refine W.widen (k := 0) (n := 0) (Nat.le_of_ble_eq_true rfl) (Nat.le_of_ble_eq_true rfl) ?_
        exact k_rv hx hb hr hlocks hS hP hD ⟨(upd F1 i x2), (upd F2 i x3), (upd F3 i x9), rfl, (by unfold laB; rw [e2, hj9]), (by unfold laG; rw [e3, hj9]), (by unfold laX; rw [ex9, e4, e3, hj9])⟩ dX2_settleLaw_80
      · skip
        have hj9 := lt_of_nle (k := 9) (n := j) (by decide) (by omega) c14_1
        refine lv_aload_n hx hb dX2_settleLaw_17 rfl (lv_at hl 0 rfl) ?_
        refine va_get (D := g.1) (ci := 2) (v := .ref l4) (C := RX2) (T := TX2) (N := 6) hx hb hts q_X2_settleLaw_f_f2 hown hE.1 hP 0 rfl rfl 5 (by decide) (hts (.fieldLink RX2 21 "SoundLaws$Laws" "weights" "[I") q_X2_settleLaw_f_4) (fun _ h9 => h9) rfl dX2_settleLaw_18 ?_
        refine lv_iload_n hx hb dX2_settleLaw_21 rfl (lv_at hl 1 rfl) ?_
        refine lv_bipush (v := 9) hx hb dX2_settleLaw_22 (by decide) ?_
        refine lv_imul hx hb dX2_settleLaw_24 ?_
        refine lv_iload hx hb dX2_settleLaw_25 (lv_at hl 5 rfl) ?_
        refine lv_iadd hx hb dX2_settleLaw_27 ?_
        refine k_ald (9 * i + j) (by rw [show (9 : Int32) = nI 9 from rfl, pk_mul, nI_add, Nat.mul_comm]) (by omega) hx hb hE hP 4 rfl (by decide) dX2_settleLaw_28 ?_
        refine lv_topi (fun x6 ex6 => ?_)
        refine lv_istore (lv' := [(6, .int x6), (0, .ref lw), (1, .int (nI i)), (2, .int x2), (3, .int x3), (4, .int x4), (5, .int (nI j))]) hx hb dX2_settleLaw_29 hl (by decide) rfl (fun ls hl => ?_)
        have e6 : x6 = Fw (9 * i + j) := ex6.trans (hF _ (by omega))
        refine lv_iload hx hb dX2_settleLaw_31 (lv_at hl 5 rfl) ?_
        refine lv_iload hx hb dX2_settleLaw_33 (lv_at hl 0 rfl) ?_
        refine lv_iadd hx hb dX2_settleLaw_35 ?_
        refine lv_topi (fun x4b ex4b => ?_)
        refine lv_istore (lv' := [(4, .int x4b), (6, .int x6), (0, .ref lw), (1, .int (nI i)), (2, .int x2), (3, .int x3), (5, .int (nI j))]) hx hb dX2_settleLaw_36 hl (by decide) rfl (fun ls hl => ?_)
        refine lv_iload hx hb dX2_settleLaw_38 (lv_at hl 1 rfl) ?_
        refine lv_iload_n hx hb dX2_settleLaw_40 rfl (lv_at hl 5 rfl) ?_
        refine lv_icmp_le (tgt := 50) hx hb dX2_settleLaw_41 (by decide) (fun c41_2 => ?_) (fun c41_2 => ?_)
        · skip
          refine lv_iinc (v := (nI (j + 1))) (lv' := [(5, .int (nI (j + 1))), (4, .int x4b), (6, .int x6), (0, .ref lw), (1, .int (nI i)), (2, .int x2), (3, .int x3)]) hx hb dX2_settleLaw_50 hl (k := 6) rfl (nI_1 _) (by decide) rfl (fun ls hl => ?_)
          refine lv_goto (tgt := 10) hx hb dX2_settleLaw_53 (by decide) ?_
          exact ih10 (j + 1) _ _ _ (by omega) (lw_f (f := (fun v => Fw (9 * i + v))) (v := j) e2 e3 e6 c41_2).1 (lw_f (f := (fun v => Fw (9 * i + v))) (v := j) e2 e3 e6 c41_2).2 (lw_a (f := (fun v => Fw (9 * i + v))) (v := j) e4 e6 ex4b) (by omega) _ _ _ hP hD hS (lv_sub hl [3, 4, 5, 6, 1, 0] rfl)
        · skip
          refine lv_iload hx hb dX2_settleLaw_44 (lv_at hl 1 rfl) ?_
          refine lv_istore_n (lv' := [(3, .int x6), (4, .int x4b), (6, .int x6), (0, .ref lw), (1, .int (nI i)), (2, .int x2), (5, .int (nI j))]) hx hb dX2_settleLaw_46 rfl hl (by decide) rfl (fun ls hl => ?_)
          refine lv_iload hx hb dX2_settleLaw_47 (lv_at hl 6 rfl) ?_
          refine lv_istore_n (lv' := [(2, .int (nI j)), (3, .int x6), (4, .int x4b), (6, .int x6), (0, .ref lw), (1, .int (nI i)), (5, .int (nI j))]) hx hb dX2_settleLaw_49 rfl hl (by decide) rfl (fun ls hl => ?_)
          refine lv_iinc (v := (nI (j + 1))) (lv' := [(5, .int (nI (j + 1))), (2, .int (nI j)), (3, .int x6), (4, .int x4b), (6, .int x6), (0, .ref lw), (1, .int (nI i))]) hx hb dX2_settleLaw_50 hl (k := 6) rfl (nI_1 _) (by decide) rfl (fun ls hl => ?_)
          refine lv_goto (tgt := 10) hx hb dX2_settleLaw_53 (by decide) ?_
          exact ih10 (j + 1) _ _ _ (by omega) (lw_t (f := (fun v => Fw (9 * i + v))) (v := j) e3 e6 c41_2).1 (lw_t (f := (fun v => Fw (9 * i + v))) (v := j) e3 e6 c41_2).2 (lw_a (f := (fun v => Fw (9 * i + v))) (v := j) e4 e6 ex4b) (by omega) _ _ _ hP hD hS (lv_sub hl [5, 6, 1, 2, 3, 0] rfl)
  exact loop10 _ 0 (-1) 0 0 (Nat.zero_le 9) rfl rfl rfl (Nat.lt_succ_self _) _ _ _ hP hD hS (lv_sub hl [4, 5, 3, 2, 1, 0] rfl)
def po_X2_settle_f (g : GG) (lw : Nat) (l1 : Nat) (l2 : Nat) (l3 : Nat) (l4 : Nat) (kn : Int32) (xo : Int32) (F1 : Nat → Int32) (F2 : Nat → Int32) (F3 : Nat → Int32) (F4 : Nat → Int32) (Fw : Nat → Int32) (t : Nat) : va_W → Prop := fun w => ∃ (k2 : Int32) (x2 : Int32) (G1 : Nat → Int32) (G2 : Nat → Int32) (G3 : Nat → Int32), w = [(lw, .inr (2, [.ref l1, .ref l2, .ref l3, .int k2, .int x2, .ref l4])), (l1, ai g 72 G1), (l2, ai g 72 G2), (l3, ai g 72 G3), (l4, ai g 648 F4)] ∧ (SDl t Fw G1 G2 G3) ∧ (k2 = knZ Fw (18 * t)) ∧ (x2 = xoZ Fw (18 * t))
theorem q_X2_settle_f_f2 : ∀ w ∈ u_ws RX2 TX2 6, w ∈ wsX2_settle := by decide +kernel
theorem q_X2_settle_f_1 : (Cond.fieldLink RX2 30 "SoundLaws$Laws" "known" "I") ∈ wsX2_settle := by decide +kernel
theorem q_X2_settle_f_2 : (Cond.fieldLink RX2 34 "SoundLaws$Laws" "exceptionsOfAll" "I") ∈ wsX2_settle := by decide +kernel
theorem q_X2_settle_f_3 : (Cond.fieldLink RX2 9 "SoundLaws$Laws" "becomes" "[I") ∈ wsX2_settle := by decide +kernel
theorem q_X2_settle_f_4 : (Cond.fieldLink RX2 18 "SoundLaws$Laws" "exceptions" "[I") ∈ wsX2_settle := by decide +kernel
set_option maxHeartbeats 1500000 in
set_option maxRecDepth 100000 in
theorem c_X2_settle_f (l : Launch) (g : GG) (lw : Nat) (l1 : Nat) (l2 : Nat) (l3 : Nat) (l4 : Nat) (kn : Int32) (xo : Int32) (F1 : Nat → Int32) (F2 : Nat → Int32) (F3 : Nat → Int32) (F4 : Nat → Int32) (Fw : Nat → Int32) (t : Nat) (ht4 : t ≤ 4) (hF : ∀ j, j < 648 → F4 j = Fw j) (sz : Nat) : MetV l yX2_settle wsX2_settle ({ frames := 1, cells := 0, slots := 0, locals := 26 }) g [.ref lw, .int (nI t)] [(lw, .inr (2, [.ref l1, .ref l2, .ref l3, .int kn, .int xo, .ref l4])), (l1, ai g 72 F1), (l2, ai g 72 F2), (l3, ai g 72 F3), (l4, ai g 648 F4)] sz (po_X2_settle_f g lw l1 l2 l3 l4 kn xo F1 F2 F3 F4 Fw t) 0 0 := by
  refine k_of (l := l) (y := yX2_settle) (ws := wsX2_settle) (rm := { frames := 1, cells := 0, slots := 0, locals := 26 }) (mc := 0) (ms := 0) (av := [.ref lw, .int (nI t)]) (g := g) (wc := [(lw, .inr (2, [.ref l1, .ref l2, .ref l3, .int kn, .int xo, .ref l4])), (l1, ai g 72 F1), (l2, ai g 72 F2), (l3, ai g 72 F3), (l4, ai g 648 F4)]) (Qc := fun A => va_Qv (po_X2_settle_f g lw l1 l2 l3 l4 kn xo F1 F2 F3 F4 Fw t) (bk g A) A) (cc := cX2_settle) (maxL := 3) (ret := none) (by decide) rfl (Nat.le_of_ble_eq_true rfl) ?_ sz
  intro p e s m below meth c hx hb hr hts hown hlocks hnm hml A hA hE hZ hP hD hS ls hl
  have hown : s.vm.findClass RX2 = some m.cls := hown
  have hl : lv_has ls 3 [(0, .ref lw), (1, .int (nI t))] := hl
  refine lv_aload_n hx hb dX2_settle_0 rfl (lv_at hl 0 rfl) ?_
  refine lv_iconst (v := 0) hx hb dX2_settle_1 (by decide) ?_
  refine va_put (D := g.1) (ci := 2) (v := .int 0) (ty := .int) (C := RX2) (T := TX2) (N := 6) hx hb hts q_X2_settle_f_f2 tyX2 tyX2_ok nmX2 hown hE.1 hP hD hS 0 rfl rfl 3 (by decide) (hts (.fieldLink RX2 30 "SoundLaws$Laws" "known" "I") q_X2_settle_f_1) (fun _ h9 => h9) rfl (by decide +kernel) rfl rfl (Nat.le_of_ble_eq_true rfl) dX2_settle_2 (fun H locs hP hD hS => ?_)
  have hP : va_P g.1 vwCl [(lw, .inr (2, [.ref l1, .ref l2, .ref l3, .int 0, .int xo, .ref l4])), (l1, ai g 72 F1), (l2, ai g 72 F2), (l3, ai g 72 F3), (l4, ai g 648 F4)] H := hP
  have hD : va_D A [(lw, .inr (2, [.ref l1, .ref l2, .ref l3, .int 0, .int xo, .ref l4])), (l1, ai g 72 F1), (l2, ai g 72 F2), (l3, ai g 72 F3), (l4, ai g 648 F4)] := hD
  refine lv_aload_n hx hb dX2_settle_5 rfl (lv_at hl 0 rfl) ?_
  refine lv_iconst (v := 0) hx hb dX2_settle_6 (by decide) ?_
  refine va_put (D := g.1) (ci := 2) (v := .int 0) (ty := .int) (C := RX2) (T := TX2) (N := 6) hx hb hts q_X2_settle_f_f2 tyX2 tyX2_ok nmX2 hown hE.1 hP hD hS 0 rfl rfl 4 (by decide) (hts (.fieldLink RX2 34 "SoundLaws$Laws" "exceptionsOfAll" "I") q_X2_settle_f_2) (fun _ h9 => h9) rfl (by decide +kernel) rfl rfl (Nat.le_of_ble_eq_true rfl) dX2_settle_7 (fun H locs hP hD hS => ?_)
  have hP : va_P g.1 vwCl [(lw, .inr (2, [.ref l1, .ref l2, .ref l3, .int 0, .int 0, .ref l4])), (l1, ai g 72 F1), (l2, ai g 72 F2), (l3, ai g 72 F3), (l4, ai g 648 F4)] H := hP
  have hD : va_D A [(lw, .inr (2, [.ref l1, .ref l2, .ref l3, .int 0, .int 0, .ref l4])), (l1, ai g 72 F1), (l2, ai g 72 F2), (l3, ai g 72 F3), (l4, ai g 648 F4)] := hD
  refine lv_iconst (v := 0) hx hb dX2_settle_10 (by decide) ?_
  refine lv_istore_n (lv' := [(2, .int 0), (0, .ref lw), (1, .int (nI t))]) hx hb dX2_settle_11 rfl hl (by decide) rfl (fun ls hl => ?_)
  have loop12 : ∀ (fu : Nat) (j : Nat) (k2 x2 : Int32) (G1 G2 G3 : Nat → Int32), (hj : j ≤ 18 * t) → (hS3 : SLt Fw G1 G2 G3 j) → (ek : k2 = knZ Fw j) → (exo : x2 = xoZ Fw j) → 18 * t - j < fu → ∀ (H : Heap) (locs : List Loc) (ls : Array Slot), va_P g.1 vwCl [(lw, .inr (2, [.ref l1, .ref l2, .ref l3, .int k2, .int x2, .ref l4])), (l1, ai g 72 G1), (l2, ai g 72 G2), (l3, ai g 72 G3), (l4, ai g 648 F4)] H → va_D A [(lw, .inr (2, [.ref l1, .ref l2, .ref l3, .int k2, .int x2, .ref l4])), (l1, ai g 72 G1), (l2, ai g 72 G2), (l3, ai g 72 G3), (l4, ai g 648 F4)] → va_S A s.heap H locs → lv_has ls 3 [(0, .ref lw), (1, .int (nI t)), (2, .int (nI j))] → W p l e ({ frames := 1, cells := 0, slots := 0, locals := 26 }) s m [.ref lw, .int (nI t)].toArray below meth c H locs 0 0 (MQ below (va_Qv (po_X2_settle_f g lw l1 l2 l3 l4 kn xo F1 F2 F3 F4 Fw t) (bk g A) A) [.ref lw, .int (nI t)].toArray s 0 0 A) (F0 m 12 ls []) := by
    intro fu
    induction fu with
    | zero => intro j k2 x2 G1 G2 G3 hj hS3 ek exo hfu; exact absurd hfu (Nat.not_lt_zero _)
    | succ fu ih =>
      intro j k2 x2 G1 G2 G3 hj hS3 ek exo hfu H locs ls hP hD hS hl
      have ih12 := ih
      refine lv_iload_n hx hb dX2_settle_12 rfl (lv_at hl 2 rfl) ?_
      refine lv_iload_n hx hb dX2_settle_13 rfl (lv_at hl 1 rfl) ?_
      refine lv_bipush (v := 9) hx hb dX2_settle_14 (by decide) ?_
      refine lv_imul hx hb dX2_settle_16 ?_
      refine lv_iconst (v := 2) hx hb dX2_settle_17 (by decide) ?_
      refine lv_imul hx hb dX2_settle_18 ?_
      refine lv_topi (fun x_1 ex_1 => ?_)
      obtain rfl : x_1 = nI (18 * t) := by rw [ex_1]; rw [show (9 : Int32) = nI 9 from rfl, show (2 : Int32) = nI 2 from rfl, pk_mul, pk_mul]; congr 1; omega
      refine lv_icmp_ge (tgt := 68) hx hb dX2_settle_19 (by decide) (fun c19_2 => ?_) (fun c19_2 => ?_)
      · skip
        have hj9 := ge_of_le (k := 18 * t) (n := j) (by omega) (by omega) c19_2
        have hjt : j = 18 * t := by omega
        refine W.widen (k := 0) (n := 0) (Nat.le_of_ble_eq_true rfl) (Nat.le_of_ble_eq_true rfl) ?_
        exact k_rv hx hb hr hlocks hS hP hD ⟨k2, x2, G1, G2, G3, rfl, (by rw [hjt] at hS3; exact hS3), (by rw [← hjt]; exact ek), (by rw [← hjt]; exact exo)⟩ dX2_settle_68
      · skip
        have hj9 := lt_of_nle (k := 18 * t) (n := j) (by omega) (by omega) c19_2
        refine lv_aload_n hx hb dX2_settle_22 rfl (lv_at hl 0 rfl) ?_
        refine lv_iload_n hx hb dX2_settle_23 rfl (lv_at hl 2 rfl) ?_
        refine k_cv (wr := []) hP hD hS hA [0, 1, 2, 3, 4] [] rfl rfl (by decide) (by decide) (va_runV (As := [.int (nI j)]) (rest := []) ⟨hx, hb, hml, hown, hts⟩ (c_X2_settleLaw_f l g lw l1 l2 l3 l4 k2 x2 G1 G2 G3 F4 Fw j (by first | assumption | omega) (by first | assumption | omega) H.size) (cwV 1 hts gX2_settle_X2_settleLaw rfl rfl rfl (by decide +kernel) ⟨Nat.le_of_ble_eq_true rfl, Nat.le_of_ble_eq_true rfl⟩) (k_preV hE hZ hP hD hS hA [0, 1, 2, 3, 4] rfl (by decide) (va_recv hE.1 hP (ci := 2) (q0 := 0) rfl rfl)) rfl rfl hl.1 rfl (lv_room (Nat.le_of_ble_eq_true rfl)) dX2_settle_24 ⟨Nat.le_of_ble_eq_true rfl, Nat.le_of_ble_eq_true rfl⟩) (fun w1 H locs hw hP hD hS => ?_)
        obtain ⟨G1_4, G2_5, G3_6, rfl, hG1_7, hG2_8, hG3_9⟩ := hw
        have hP : va_P g.1 vwCl [(lw, .inr (2, [.ref l1, .ref l2, .ref l3, .int k2, .int x2, .ref l4])), (l1, ai g 72 G1_4), (l2, ai g 72 G2_5), (l3, ai g 72 G3_6), (l4, ai g 648 F4)] H := hP
        have hD : va_D A [(lw, .inr (2, [.ref l1, .ref l2, .ref l3, .int k2, .int x2, .ref l4])), (l1, ai g 72 G1_4), (l2, ai g 72 G2_5), (l3, ai g 72 G3_6), (l4, ai g 648 F4)] := hD
        refine lv_aload_n hx hb dX2_settle_27 rfl (lv_at hl 0 rfl) ?_
        refine va_get (D := g.1) (ci := 2) (v := .ref l1) (C := RX2) (T := TX2) (N := 6) hx hb hts q_X2_settle_f_f2 hown hE.1 hP 0 rfl rfl 0 (by decide) (hts (.fieldLink RX2 9 "SoundLaws$Laws" "becomes" "[I") q_X2_settle_f_3) (fun _ h9 => h9) rfl dX2_settle_28 ?_
        refine lv_iload_n hx hb dX2_settle_31 rfl (lv_at hl 2 rfl) ?_
        refine k_ald j rfl (by omega) hx hb hE hP 1 rfl (by decide) dX2_settle_32 ?_
        refine lv_iconst (v := (-1)) hx hb dX2_settle_33 (by decide) ?_
        refine lv_icmp_eq (tgt := 47) hx hb dX2_settle_34 (by decide) (fun c34_10 => ?_) (fun c34_10 => ?_)
        · skip
          refine lv_aload_n hx hb dX2_settle_47 rfl (lv_at hl 0 rfl) ?_
          refine lv_dup hx hb dX2_settle_48 rfl ?_
          refine va_get (D := g.1) (ci := 2) (v := .int x2) (C := RX2) (T := TX2) (N := 6) hx hb hts q_X2_settle_f_f2 hown hE.1 hP 0 rfl rfl 4 (by decide) (hts (.fieldLink RX2 34 "SoundLaws$Laws" "exceptionsOfAll" "I") q_X2_settle_f_2) (fun _ h9 => h9) rfl dX2_settle_49 ?_
          refine lv_aload_n hx hb dX2_settle_52 rfl (lv_at hl 0 rfl) ?_
          refine va_get (D := g.1) (ci := 2) (v := .ref l3) (C := RX2) (T := TX2) (N := 6) hx hb hts q_X2_settle_f_f2 hown hE.1 hP 0 rfl rfl 2 (by decide) (hts (.fieldLink RX2 18 "SoundLaws$Laws" "exceptions" "[I") q_X2_settle_f_4) (fun _ h9 => h9) rfl dX2_settle_53 ?_
          refine lv_iload_n hx hb dX2_settle_56 rfl (lv_at hl 2 rfl) ?_
          refine k_ald j rfl (by omega) hx hb hE hP 3 rfl (by decide) dX2_settle_57 ?_
          refine lv_iadd hx hb dX2_settle_58 ?_
          refine lv_topi (fun xb exb => ?_)
          refine va_put (D := g.1) (ci := 2) (v := .int xb) (ty := .int) (C := RX2) (T := TX2) (N := 6) hx hb hts q_X2_settle_f_f2 tyX2 tyX2_ok nmX2 hown hE.1 hP hD hS 0 rfl rfl 4 (by decide) (hts (.fieldLink RX2 34 "SoundLaws$Laws" "exceptionsOfAll" "I") q_X2_settle_f_2) (fun _ h9 => h9) rfl (by decide +kernel) rfl rfl (Nat.le_of_ble_eq_true rfl) dX2_settle_59 (fun H locs hP hD hS => ?_)
          have hP : va_P g.1 vwCl [(lw, .inr (2, [.ref l1, .ref l2, .ref l3, .int k2, .int xb, .ref l4])), (l1, ai g 72 G1_4), (l2, ai g 72 G2_5), (l3, ai g 72 G3_6), (l4, ai g 648 F4)] H := hP
          have hD : va_D A [(lw, .inr (2, [.ref l1, .ref l2, .ref l3, .int k2, .int xb, .ref l4])), (l1, ai g 72 G1_4), (l2, ai g 72 G2_5), (l3, ai g 72 G3_6), (l4, ai g 648 F4)] := hD
          refine lv_iinc (v := (nI (j + 1))) (lv' := [(2, .int (nI (j + 1))), (0, .ref lw), (1, .int (nI t))]) hx hb dX2_settle_62 hl (k := 2) rfl (nI_1 _) (by decide) rfl (fun ls hl => ?_)
          refine lv_goto (tgt := 12) hx hb dX2_settle_65 (by decide) ?_
          exact ih12 (j + 1) _ _ _ _ _ (by omega) (SL_s hS3 hG1_7 hG2_8 hG3_9) (kn_t ek (by have h9 := c34_10; rw [hG1_7, pk_us] at h9; exact h9)) (xo_s exo (by rw [hG3_9, pk_us]) exb) (by omega) _ _ _ hP hD hS (lv_sub hl [1, 2, 0] rfl)
        · skip
          refine lv_aload_n hx hb dX2_settle_37 rfl (lv_at hl 0 rfl) ?_
          refine lv_dup hx hb dX2_settle_38 rfl ?_
          refine va_get (D := g.1) (ci := 2) (v := .int k2) (C := RX2) (T := TX2) (N := 6) hx hb hts q_X2_settle_f_f2 hown hE.1 hP 0 rfl rfl 3 (by decide) (hts (.fieldLink RX2 30 "SoundLaws$Laws" "known" "I") q_X2_settle_f_1) (fun _ h9 => h9) rfl dX2_settle_39 ?_
          refine lv_iconst (v := 1) hx hb dX2_settle_42 (by decide) ?_
          refine lv_iadd hx hb dX2_settle_43 ?_
          refine lv_topi (fun kb ekb => ?_)
          refine va_put (D := g.1) (ci := 2) (v := .int kb) (ty := .int) (C := RX2) (T := TX2) (N := 6) hx hb hts q_X2_settle_f_f2 tyX2 tyX2_ok nmX2 hown hE.1 hP hD hS 0 rfl rfl 3 (by decide) (hts (.fieldLink RX2 30 "SoundLaws$Laws" "known" "I") q_X2_settle_f_1) (fun _ h9 => h9) rfl (by decide +kernel) rfl rfl (Nat.le_of_ble_eq_true rfl) dX2_settle_44 (fun H locs hP hD hS => ?_)
          have hP : va_P g.1 vwCl [(lw, .inr (2, [.ref l1, .ref l2, .ref l3, .int kb, .int x2, .ref l4])), (l1, ai g 72 G1_4), (l2, ai g 72 G2_5), (l3, ai g 72 G3_6), (l4, ai g 648 F4)] H := hP
          have hD : va_D A [(lw, .inr (2, [.ref l1, .ref l2, .ref l3, .int kb, .int x2, .ref l4])), (l1, ai g 72 G1_4), (l2, ai g 72 G2_5), (l3, ai g 72 G3_6), (l4, ai g 648 F4)] := hD
          refine lv_aload_n hx hb dX2_settle_47 rfl (lv_at hl 0 rfl) ?_
          refine lv_dup hx hb dX2_settle_48 rfl ?_
          refine va_get (D := g.1) (ci := 2) (v := .int x2) (C := RX2) (T := TX2) (N := 6) hx hb hts q_X2_settle_f_f2 hown hE.1 hP 0 rfl rfl 4 (by decide) (hts (.fieldLink RX2 34 "SoundLaws$Laws" "exceptionsOfAll" "I") q_X2_settle_f_2) (fun _ h9 => h9) rfl dX2_settle_49 ?_
          refine lv_aload_n hx hb dX2_settle_52 rfl (lv_at hl 0 rfl) ?_
          refine va_get (D := g.1) (ci := 2) (v := .ref l3) (C := RX2) (T := TX2) (N := 6) hx hb hts q_X2_settle_f_f2 hown hE.1 hP 0 rfl rfl 2 (by decide) (hts (.fieldLink RX2 18 "SoundLaws$Laws" "exceptions" "[I") q_X2_settle_f_4) (fun _ h9 => h9) rfl dX2_settle_53 ?_
          refine lv_iload_n hx hb dX2_settle_56 rfl (lv_at hl 2 rfl) ?_
          refine k_ald j rfl (by omega) hx hb hE hP 3 rfl (by decide) dX2_settle_57 ?_
          refine lv_iadd hx hb dX2_settle_58 ?_
          refine lv_topi (fun xb exb => ?_)
          refine va_put (D := g.1) (ci := 2) (v := .int xb) (ty := .int) (C := RX2) (T := TX2) (N := 6) hx hb hts q_X2_settle_f_f2 tyX2 tyX2_ok nmX2 hown hE.1 hP hD hS 0 rfl rfl 4 (by decide) (hts (.fieldLink RX2 34 "SoundLaws$Laws" "exceptionsOfAll" "I") q_X2_settle_f_2) (fun _ h9 => h9) rfl (by decide +kernel) rfl rfl (Nat.le_of_ble_eq_true rfl) dX2_settle_59 (fun H locs hP hD hS => ?_)
          have hP : va_P g.1 vwCl [(lw, .inr (2, [.ref l1, .ref l2, .ref l3, .int kb, .int xb, .ref l4])), (l1, ai g 72 G1_4), (l2, ai g 72 G2_5), (l3, ai g 72 G3_6), (l4, ai g 648 F4)] H := hP
          have hD : va_D A [(lw, .inr (2, [.ref l1, .ref l2, .ref l3, .int kb, .int xb, .ref l4])), (l1, ai g 72 G1_4), (l2, ai g 72 G2_5), (l3, ai g 72 G3_6), (l4, ai g 648 F4)] := hD
          refine lv_iinc (v := (nI (j + 1))) (lv' := [(2, .int (nI (j + 1))), (0, .ref lw), (1, .int (nI t))]) hx hb dX2_settle_62 hl (k := 2) rfl (nI_1 _) (by decide) rfl (fun ls hl => ?_)
          refine lv_goto (tgt := 12) hx hb dX2_settle_65 (by decide) ?_
          exact ih12 (j + 1) _ _ _ _ _ (by omega) (SL_s hS3 hG1_7 hG2_8 hG3_9) (kn_f ek (by have h9 := c34_10; rw [hG1_7, pk_us] at h9; exact h9) ekb) (xo_s exo (by rw [hG3_9, pk_us]) exb) (by omega) _ _ _ hP hD hS (lv_sub hl [1, 2, 0] rfl)
  exact loop12 _ 0 0 0 F1 F2 F3 (Nat.zero_le _) SL_0 rfl rfl (Nat.lt_succ_self _) _ _ _ hP hD hS (lv_sub hl [1, 2, 0] rfl)
def po_X6_findStrange_f (g : GG) (sy : Nat) (y1 : Nat) (y2 : Nat) (y3 : Nat) (lw : Nat) (tr : Nat) (chg : Int32) (S1 : Nat → Int32) (S3 : Nat → Int32) (sk : Nat) (s1 : Nat) (s2 : Nat) (s3 : Nat) (z : Nat) (t : Nat) (K : Nat → Int32) (L : Nat → Int32) (V : Nat → Int32) (l1 : Nat) (l2 : Nat) (l3 : Nat) (l4 : Nat) (kn : Int32) (xo : Int32) (F1 : Nat → Int32) (ka : Nat → Nat) (nl : Nat → Nat) (Ac : Nat → Nat → Nat → Nat) (Fw : Nat → Int32) (k : Nat) : va_W → Prop := fun w => ∃ (T3 : Nat → Int32), w = [(sy, .inr (6, [.ref y1, .ref y2, .ref y3, .ref lw, .int chg, .ref tr])), (y1, ai g 168 S1), (y3, ai g 24 T3), (sk, .inr (5, [.int (nI z), .int (nI t), .ref s1, .ref s2, .ref s3])), (s1, ai g 6 K), (s2, ai g 6 L), (s3, ai g 96 V), (lw, .inr (2, [.ref l1, .ref l2, .ref l3, .int kn, .int xo, .ref l4])), (l1, ai g 72 F1)] ∧ (∀ i, (i < 4 * k ∨ 4 * k + 4 ≤ i) → T3 i = S3 i) ∧ (∀ u, u < 4 → T3 (4 * k + u) = if u < t then stN t ka nl Ac Fw k u else 0)
theorem q_X6_findStrange_f_f5 : ∀ w ∈ u_ws RX5 TX5 5, w ∈ wsX6_findStrange := by decide +kernel
theorem q_X6_findStrange_f_1 : (Cond.fieldLink RX6 90 "SoundLaws$Stock" "kinds" "[I") ∈ wsX6_findStrange := by decide +kernel
theorem q_X6_findStrange_f_2 : (Cond.fieldLink RX6 75 "SoundLaws$Stock" "lengths" "[I") ∈ wsX6_findStrange := by decide +kernel
theorem q_X6_findStrange_f_3 : (Cond.fieldLink RX6 35 "SoundLaws$Stock" "tongues" "I") ∈ wsX6_findStrange := by decide +kernel
theorem q_X6_findStrange_f_f6 : ∀ w ∈ u_ws RX6 TX6 6, w ∈ wsX6_findStrange := by decide +kernel
theorem q_X6_findStrange_f_5 : (Cond.fieldLink RX6 24 "SoundLaws$Study" "laws" "LSoundLaws$Laws;") ∈ wsX6_findStrange := by decide +kernel
theorem q_X6_findStrange_f_f2 : ∀ w ∈ u_ws RX2 TX2 6, w ∈ wsX6_findStrange := by decide +kernel
theorem q_X6_findStrange_f_7 : (Cond.fieldLink RX6 130 "SoundLaws$Laws" "becomes" "[I") ∈ wsX6_findStrange := by decide +kernel
theorem q_X6_findStrange_f_8 : (Cond.initialized RX8) ∈ wsX6_findStrange := by decide +kernel
theorem q_X6_findStrange_f_9 : (Cond.static yX8_aheadAt) ∈ wsX6_findStrange := by decide +kernel
theorem q_X6_findStrange_f_10 : (Cond.static yX8_lawAt) ∈ wsX6_findStrange := by decide +kernel
theorem q_X6_findStrange_f_11 : (Cond.fieldLink RX6 94 "SoundLaws$Stock" "words" "[I") ∈ wsX6_findStrange := by decide +kernel
theorem q_X6_findStrange_f_12 : (Cond.static yX8_wordAt) ∈ wsX6_findStrange := by decide +kernel
theorem q_X6_findStrange_f_13 : (Cond.fieldLink RX6 18 "SoundLaws$Study" "strangePlaces" "[I") ∈ wsX6_findStrange := by decide +kernel
set_option maxHeartbeats 1500000 in
set_option maxRecDepth 100000 in
theorem c_X6_findStrange_f (l : Launch) (g : GG) (sy : Nat) (y1 : Nat) (y2 : Nat) (y3 : Nat) (lw : Nat) (tr : Nat) (chg : Int32) (S1 : Nat → Int32) (S3 : Nat → Int32) (sk : Nat) (s1 : Nat) (s2 : Nat) (s3 : Nat) (z : Nat) (t : Nat) (K : Nat → Int32) (L : Nat → Int32) (V : Nat → Int32) (l1 : Nat) (l2 : Nat) (l3 : Nat) (l4 : Nat) (kn : Int32) (xo : Int32) (F1 : Nat → Int32) (ka : Nat → Nat) (nl : Nat → Nat) (Ac : Nat → Nat → Nat → Nat) (Fw : Nat → Int32) (k : Nat) (ht : 2 ≤ t) (ht4 : t ≤ 4) (hz : z ≤ 6) (hp : PIC z t K L V ka nl Ac) (hkz : k < z) (hSa : SDa z t ka nl Ac S1) (hB : ∀ i, i < 18 * t → F1 i = laB Fw i) (sz : Nat) : MetV l yX6_findStrange wsX6_findStrange ({ frames := 2, cells := 0, slots := 0, locals := 44 }) g [.ref sy, .ref sk, .int (nI k)] [(sy, .inr (6, [.ref y1, .ref y2, .ref y3, .ref lw, .int chg, .ref tr])), (y1, ai g 168 S1), (y3, ai g 24 S3), (sk, .inr (5, [.int (nI z), .int (nI t), .ref s1, .ref s2, .ref s3])), (s1, ai g 6 K), (s2, ai g 6 L), (s3, ai g 96 V), (lw, .inr (2, [.ref l1, .ref l2, .ref l3, .int kn, .int xo, .ref l4])), (l1, ai g 72 F1)] sz (po_X6_findStrange_f g sy y1 y2 y3 lw tr chg S1 S3 sk s1 s2 s3 z t K L V l1 l2 l3 l4 kn xo F1 ka nl Ac Fw k) 0 0 := by
  refine k_of (l := l) (y := yX6_findStrange) (ws := wsX6_findStrange) (rm := { frames := 2, cells := 0, slots := 0, locals := 44 }) (mc := 0) (ms := 0) (av := [.ref sy, .ref sk, .int (nI k)]) (g := g) (wc := [(sy, .inr (6, [.ref y1, .ref y2, .ref y3, .ref lw, .int chg, .ref tr])), (y1, ai g 168 S1), (y3, ai g 24 S3), (sk, .inr (5, [.int (nI z), .int (nI t), .ref s1, .ref s2, .ref s3])), (s1, ai g 6 K), (s2, ai g 6 L), (s3, ai g 96 V), (lw, .inr (2, [.ref l1, .ref l2, .ref l3, .int kn, .int xo, .ref l4])), (l1, ai g 72 F1)]) (Qc := fun A => va_Qv (po_X6_findStrange_f g sy y1 y2 y3 lw tr chg S1 S3 sk s1 s2 s3 z t K L V l1 l2 l3 l4 kn xo F1 ka nl Ac Fw k) (bk g A) A) (cc := cX6_findStrange) (maxL := 8) (ret := none) (by decide) rfl (Nat.le_of_ble_eq_true rfl) ?_ sz
  intro p e s m below meth c hx hb hr hts hown hlocks hnm hml A hA hE hZ hP hD hS ls hl
  have hown : s.vm.findClass RX6 = some m.cls := hown
  have hl : lv_has ls 8 [(0, .ref sy), (1, .ref sk), (2, .int (nI k))] := hl
  obtain ⟨⟨eK, hK5⟩, ⟨eL, hn5⟩, hAk⟩ := hp k hkz
  refine lv_iconst (v := 0) hx hb dX6_findStrange_0 (by decide) ?_
  refine lv_istore_n (lv' := [(3, .int 0), (0, .ref sy), (1, .ref sk), (2, .int (nI k))]) hx hb dX6_findStrange_1 rfl hl (by decide) rfl (fun ls hl => ?_)
  have loop2 : ∀ (fu : Nat) (u : Nat) (M3 : Nat → Int32), (hu : u ≤ 4) → (hM3 : FZt k u S3 M3) → 4 - u < fu → ∀ (H : Heap) (locs : List Loc) (ls : Array Slot), va_P g.1 vwCl [(sy, .inr (6, [.ref y1, .ref y2, .ref y3, .ref lw, .int chg, .ref tr])), (y1, ai g 168 S1), (y3, ai g 24 M3), (sk, .inr (5, [.int (nI z), .int (nI t), .ref s1, .ref s2, .ref s3])), (s1, ai g 6 K), (s2, ai g 6 L), (s3, ai g 96 V), (lw, .inr (2, [.ref l1, .ref l2, .ref l3, .int kn, .int xo, .ref l4])), (l1, ai g 72 F1)] H → va_D A [(sy, .inr (6, [.ref y1, .ref y2, .ref y3, .ref lw, .int chg, .ref tr])), (y1, ai g 168 S1), (y3, ai g 24 M3), (sk, .inr (5, [.int (nI z), .int (nI t), .ref s1, .ref s2, .ref s3])), (s1, ai g 6 K), (s2, ai g 6 L), (s3, ai g 96 V), (lw, .inr (2, [.ref l1, .ref l2, .ref l3, .int kn, .int xo, .ref l4])), (l1, ai g 72 F1)] → va_S A s.heap H locs → lv_has ls 8 [(0, .ref sy), (1, .ref sk), (2, .int (nI k)), (3, .int (nI u))] → W p l e ({ frames := 2, cells := 0, slots := 0, locals := 44 }) s m [.ref sy, .ref sk, .int (nI k)].toArray below meth c H locs 0 0 (MQ below (va_Qv (po_X6_findStrange_f g sy y1 y2 y3 lw tr chg S1 S3 sk s1 s2 s3 z t K L V l1 l2 l3 l4 kn xo F1 ka nl Ac Fw k) (bk g A) A) [.ref sy, .ref sk, .int (nI k)].toArray s 0 0 A) (F0 m 2 ls []) := by
    intro fu
    induction fu with
    | zero => intro u M3 hu hM3 hfu; exact absurd hfu (Nat.not_lt_zero _)
    | succ fu ih =>
      intro u M3 hu hM3 hfu H locs ls hP hD hS hl
      have ih2 := ih
      refine lv_iload_n hx hb dX6_findStrange_2 rfl (lv_at hl 3 rfl) ?_
      refine lv_iconst (v := 4) hx hb dX6_findStrange_3 (by decide) ?_
      refine lv_icmp_ge (tgt := 24) hx hb dX6_findStrange_4 (by decide) (fun c4_1 => ?_) (fun c4_1 => ?_)
      · skip
        have hu10 := ge_of_le (k := 4) (n := u) (by decide) (by omega) c4_1
        have hM9 : FZt k 4 S3 M3 := by rw [show 4 = u by omega]; exact hM3
        refine va_getsN hx hb hZ.zREBUILDS hS hown (va_Nw.use rfl (hE.nw (w := .fieldLinkNest RX6 87 "SoundLaws" "REBUILDS" "[I" RX8) 11 rfl)) (fun _ h9 => h9) dX6_findStrange_24 ?_
        refine lv_aload_n hx hb dX6_findStrange_27 rfl (lv_at hl 1 rfl) ?_
        refine va_get (D := g.1) (ci := 5) (v := .ref s1) (C := RX5) (T := TX5) (N := 5) hx hb hts q_X6_findStrange_f_f5 hown hE.1 hP 3 rfl rfl 2 (by decide) (hts (.fieldLink RX6 90 "SoundLaws$Stock" "kinds" "[I") q_X6_findStrange_f_1) (fun _ h9 => h9) rfl dX6_findStrange_28 ?_
        refine lv_iload_n hx hb dX6_findStrange_31 rfl (lv_at hl 2 rfl) ?_
        refine k_ald k rfl (by omega) hx hb hE hP 4 rfl (by decide) dX6_findStrange_32 ?_
        refine lv_topi (fun x_2 ex_2 => ?_)
        obtain rfl : x_2 = nI (ka k) := by rw [ex_2]; exact eK
        refine k_tld (ka k) rfl (by omega) hx hb hZ.tREBUILDS hS (by decide) (v := tb_REBUILDS.getD (ka k) 0) rfl dX6_findStrange_33 ?_
        refine lv_topi (fun x_3 ex_3 => ?_)
        obtain rfl : x_3 = nI (rb (ka k)) := by rw [ex_3]; exact rb_tb (ka k) hK5
        refine lv_if_ne (tgt := 38) hx hb dX6_findStrange_34 (by decide) (fun c34_4 => ?_) (fun c34_4 => ?_)
        · skip
          have hr1 : ¬ rb (ka k) = 0 := fun q9 => c34_4 ((rb_z (ka k) hK5).mpr q9)
          refine lv_iconst (v := 0) hx hb dX6_findStrange_38 (by decide) ?_
          refine lv_istore_n (lv' := [(3, .int 0), (0, .ref sy), (1, .ref sk), (2, .int (nI k))]) hx hb dX6_findStrange_39 rfl hl (by decide) rfl (fun ls hl => ?_)
          have loop40 : ∀ (fu : Nat) (q : Nat) (T3 : Nat → Int32), (hq : q ≤ nl k) → (hT3 : FQt t Ac Fw k q S3 T3) → nl k - q < fu → ∀ (H : Heap) (locs : List Loc) (ls : Array Slot), va_P g.1 vwCl [(sy, .inr (6, [.ref y1, .ref y2, .ref y3, .ref lw, .int chg, .ref tr])), (y1, ai g 168 S1), (y3, ai g 24 T3), (sk, .inr (5, [.int (nI z), .int (nI t), .ref s1, .ref s2, .ref s3])), (s1, ai g 6 K), (s2, ai g 6 L), (s3, ai g 96 V), (lw, .inr (2, [.ref l1, .ref l2, .ref l3, .int kn, .int xo, .ref l4])), (l1, ai g 72 F1)] H → va_D A [(sy, .inr (6, [.ref y1, .ref y2, .ref y3, .ref lw, .int chg, .ref tr])), (y1, ai g 168 S1), (y3, ai g 24 T3), (sk, .inr (5, [.int (nI z), .int (nI t), .ref s1, .ref s2, .ref s3])), (s1, ai g 6 K), (s2, ai g 6 L), (s3, ai g 96 V), (lw, .inr (2, [.ref l1, .ref l2, .ref l3, .int kn, .int xo, .ref l4])), (l1, ai g 72 F1)] → va_S A s.heap H locs → lv_has ls 8 [(0, .ref sy), (1, .ref sk), (2, .int (nI k)), (3, .int (nI q))] → W p l e ({ frames := 2, cells := 0, slots := 0, locals := 44 }) s m [.ref sy, .ref sk, .int (nI k)].toArray below meth c H locs 0 0 (MQ below (va_Qv (po_X6_findStrange_f g sy y1 y2 y3 lw tr chg S1 S3 sk s1 s2 s3 z t K L V l1 l2 l3 l4 kn xo F1 ka nl Ac Fw k) (bk g A) A) [.ref sy, .ref sk, .int (nI k)].toArray s 0 0 A) (F0 m 40 ls []) := by
            intro fu
            induction fu with
            | zero => intro q T3 hq hT3 hfu; exact absurd hfu (Nat.not_lt_zero _)
            | succ fu ih =>
              intro q T3 hq hT3 hfu H locs ls hP hD hS hl
              have ih40 := ih
              refine lv_iload_n hx hb dX6_findStrange_40 rfl (lv_at hl 3 rfl) ?_
              refine lv_aload_n hx hb dX6_findStrange_41 rfl (lv_at hl 1 rfl) ?_
              refine va_get (D := g.1) (ci := 5) (v := .ref s2) (C := RX5) (T := TX5) (N := 5) hx hb hts q_X6_findStrange_f_f5 hown hE.1 hP 3 rfl rfl 3 (by decide) (hts (.fieldLink RX6 75 "SoundLaws$Stock" "lengths" "[I") q_X6_findStrange_f_2) (fun _ h9 => h9) rfl dX6_findStrange_42 ?_
              refine lv_iload_n hx hb dX6_findStrange_45 rfl (lv_at hl 2 rfl) ?_
              refine k_ald k rfl (by omega) hx hb hE hP 5 rfl (by decide) dX6_findStrange_46 ?_
              refine lv_topi (fun x_5 ex_5 => ?_)
              obtain rfl : x_5 = nI (nl k) := by rw [ex_5]; exact eL
              refine lv_icmp_ge (tgt := 147) hx hb dX6_findStrange_47 (by decide) (fun c47_6 => ?_) (fun c47_6 => ?_)
              · skip
                have hq10 := ge_of_le (k := nl k) (n := q) (by omega) (by omega) c47_6
                have hqn : q = nl k := by omega
                refine W.widen (k := 0) (n := 0) (Nat.le_of_ble_eq_true rfl) (Nat.le_of_ble_eq_true rfl) ?_
                exact k_rv hx hb hr hlocks hS hP hD ⟨T3, rfl, hT3.1, (fun u hu => by unfold stN; rw [hT3.2 u hu, if_neg hr1, hqn])⟩ dX6_findStrange_147
              · skip
                have hq9 := lt_of_nle (k := nl k) (n := q) (by omega) (by omega) c47_6
                refine lv_aload_n hx hb dX6_findStrange_50 rfl (lv_at hl 0 rfl) ?_
                refine lv_aload_n hx hb dX6_findStrange_51 rfl (lv_at hl 1 rfl) ?_
                refine lv_iload_n hx hb dX6_findStrange_52 rfl (lv_at hl 2 rfl) ?_
                refine lv_iload_n hx hb dX6_findStrange_53 rfl (lv_at hl 3 rfl) ?_
                refine k_ci (wr := [(y3, ai g 24 T3), (s1, ai g 6 K), (s2, ai g 6 L), (s3, ai g 96 V), (lw, .inr (2, [.ref l1, .ref l2, .ref l3, .int kn, .int xo, .ref l4])), (l1, ai g 72 F1)]) hP hD hS hA [0, 1, 3] [2, 4, 5, 6, 7, 8] rfl rfl (by decide) (by decide) (va_runV (As := [.ref sk, .int (nI k), .int (nI q)]) (rest := []) ⟨hx, hb, hml, hown, hts⟩ (c_X6_oldSound_f l g sy y1 y2 y3 lw tr chg S1 sk s1 s2 s3 z t k q (by first | assumption | omega) (by first | assumption | omega) (by first | assumption | omega) (by first | assumption | omega) H.size) (cwV 3 hts gX6_findStrange_X6_oldSound rfl rfl rfl (by decide +kernel) ⟨Nat.le_of_ble_eq_true rfl, Nat.le_of_ble_eq_true rfl⟩) (k_preV hE hZ hP hD hS hA [0, 1, 3] rfl (by decide) (va_recv hE.1 hP (ci := 6) (q0 := 0) rfl rfl)) rfl rfl hl.1 rfl (lv_room (Nat.le_of_ble_eq_true rfl)) dX6_findStrange_54 ⟨Nat.le_of_ble_eq_true rfl, Nat.le_of_ble_eq_true rfl⟩) (fun r_7 w1 H locs hw hP hD hS => ?_)
                obtain ⟨rfl, rfl⟩ := hw
                have hP : va_P g.1 vwCl [(y3, ai g 24 T3), (s1, ai g 6 K), (s2, ai g 6 L), (s3, ai g 96 V), (lw, .inr (2, [.ref l1, .ref l2, .ref l3, .int kn, .int xo, .ref l4])), (l1, ai g 72 F1), (sy, .inr (6, [.ref y1, .ref y2, .ref y3, .ref lw, .int chg, .ref tr])), (y1, ai g 168 S1), (sk, .inr (5, [.int (nI z), .int (nI t), .ref s1, .ref s2, .ref s3]))] H := hP
                have hD : va_D A [(y3, ai g 24 T3), (s1, ai g 6 K), (s2, ai g 6 L), (s3, ai g 96 V), (lw, .inr (2, [.ref l1, .ref l2, .ref l3, .int kn, .int xo, .ref l4])), (l1, ai g 72 F1), (sy, .inr (6, [.ref y1, .ref y2, .ref y3, .ref lw, .int chg, .ref tr])), (y1, ai g 168 S1), (sk, .inr (5, [.int (nI z), .int (nI t), .ref s1, .ref s2, .ref s3]))] := hD
                refine lv_topi (fun x_9 ex_9 => ?_)
                obtain rfl : x_9 = nI (OR t (Ac k q)) := by rw [ex_9]; rw [hSa k hkz hr1 q hq9 (2 * t - 2) (by omega), OS_root ht]
                refine lv_istore (lv' := [(4, .int (nI (OR t (Ac k q)))), (0, .ref sy), (1, .ref sk), (2, .int (nI k)), (3, .int (nI q))]) hx hb dX6_findStrange_57 hl (by decide) rfl (fun ls hl => ?_)
                refine lv_iconst (v := 0) hx hb dX6_findStrange_59 (by decide) ?_
                refine lv_istore (lv' := [(5, .int 0), (4, .int (nI (OR t (Ac k q)))), (0, .ref sy), (1, .ref sk), (2, .int (nI k)), (3, .int (nI q))]) hx hb dX6_findStrange_60 hl (by decide) rfl (fun ls hl => ?_)
                have loop62 : ∀ (fu : Nat) (u : Nat) (P3 : Nat → Int32), (hu : u ≤ t) → (hP3 : FUt t Ac Fw k q u S3 P3) → t - u < fu → ∀ (H : Heap) (locs : List Loc) (ls : Array Slot), va_P g.1 vwCl [(y3, ai g 24 P3), (s1, ai g 6 K), (s2, ai g 6 L), (s3, ai g 96 V), (lw, .inr (2, [.ref l1, .ref l2, .ref l3, .int kn, .int xo, .ref l4])), (l1, ai g 72 F1), (sy, .inr (6, [.ref y1, .ref y2, .ref y3, .ref lw, .int chg, .ref tr])), (y1, ai g 168 S1), (sk, .inr (5, [.int (nI z), .int (nI t), .ref s1, .ref s2, .ref s3]))] H → va_D A [(y3, ai g 24 P3), (s1, ai g 6 K), (s2, ai g 6 L), (s3, ai g 96 V), (lw, .inr (2, [.ref l1, .ref l2, .ref l3, .int kn, .int xo, .ref l4])), (l1, ai g 72 F1), (sy, .inr (6, [.ref y1, .ref y2, .ref y3, .ref lw, .int chg, .ref tr])), (y1, ai g 168 S1), (sk, .inr (5, [.int (nI z), .int (nI t), .ref s1, .ref s2, .ref s3]))] → va_S A s.heap H locs → lv_has ls 8 [(0, .ref sy), (1, .ref sk), (2, .int (nI k)), (3, .int (nI q)), (4, .int (nI (OR t (Ac k q)))), (5, .int (nI u))] → W p l e ({ frames := 2, cells := 0, slots := 0, locals := 44 }) s m [.ref sy, .ref sk, .int (nI k)].toArray below meth c H locs 0 0 (MQ below (va_Qv (po_X6_findStrange_f g sy y1 y2 y3 lw tr chg S1 S3 sk s1 s2 s3 z t K L V l1 l2 l3 l4 kn xo F1 ka nl Ac Fw k) (bk g A) A) [.ref sy, .ref sk, .int (nI k)].toArray s 0 0 A) (F0 m 62 ls []) := by
                  intro fu
                  induction fu with
                  | zero => intro u P3 hu hP3 hfu; exact absurd hfu (Nat.not_lt_zero _)
                  | succ fu ih =>
                    intro u P3 hu hP3 hfu H locs ls hP hD hS hl
                    have ih62 := ih
                    refine lv_iload hx hb dX6_findStrange_62 (lv_at hl 5 rfl) ?_
                    refine lv_aload_n hx hb dX6_findStrange_64 rfl (lv_at hl 1 rfl) ?_
                    refine va_get (D := g.1) (ci := 5) (v := .int (nI t)) (C := RX5) (T := TX5) (N := 5) hx hb hts q_X6_findStrange_f_f5 hown hE.1 hP 8 rfl rfl 1 (by decide) (hts (.fieldLink RX6 35 "SoundLaws$Stock" "tongues" "I") q_X6_findStrange_f_3) (fun _ h9 => h9) rfl dX6_findStrange_65 ?_
                    refine lv_icmp_ge (tgt := 141) hx hb dX6_findStrange_68 (by decide) (fun c68_10 => ?_) (fun c68_10 => ?_)
                    · skip
                      have hu10 := ge_of_le (k := t) (n := u) (by omega) (by omega) c68_10
                      have hut : u = t := by omega
                      refine lv_iinc (v := (nI (q + 1))) (lv' := [(3, .int (nI (q + 1))), (0, .ref sy), (1, .ref sk), (2, .int (nI k)), (4, .int (nI (OR t (Ac k q)))), (5, .int (nI u))]) hx hb dX6_findStrange_141 hl (k := 3) rfl (nI_1 _) (by decide) rfl (fun ls hl => ?_)
                      refine lv_goto (tgt := 40) hx hb dX6_findStrange_144 (by decide) ?_
                      exact ih40 (q + 1) _ (by omega) (FU_t (by rw [hut] at hP3; exact hP3)) (by omega) _ _ _ (hP.sub [6, 7, 0, 8, 1, 2, 3, 4, 5] rfl) (hD.sub [6, 7, 0, 8, 1, 2, 3, 4, 5] (by decide) rfl) hS (lv_sub hl [1, 2, 3, 0] rfl)
                    · skip
                      have hu9 := lt_of_nle (k := t) (n := u) (by omega) (by omega) c68_10
                      have hac := (hAk q hq9 u hu9).2
                      have hor := OR_lt (t := t) (a := Ac k q)
                      have hah := ah_lt q
                      refine lv_aload_n hx hb dX6_findStrange_71 rfl (lv_at hl 0 rfl) ?_
                      refine va_get (D := g.1) (ci := 6) (v := .ref lw) (C := RX6) (T := TX6) (N := 6) hx hb hts q_X6_findStrange_f_f6 hown hE.1 hP 6 rfl rfl 3 (by decide) (hts (.fieldLink RX6 24 "SoundLaws$Study" "laws" "LSoundLaws$Laws;") q_X6_findStrange_f_5) (fun _ h9 => h9) rfl dX6_findStrange_72 ?_
                      refine va_get (D := g.1) (ci := 2) (v := .ref l1) (C := RX2) (T := TX2) (N := 6) hx hb hts q_X6_findStrange_f_f2 hown hE.1 hP 4 rfl rfl 0 (by decide) (hts (.fieldLink RX6 130 "SoundLaws$Laws" "becomes" "[I") q_X6_findStrange_f_7) (fun _ h9 => h9) rfl dX6_findStrange_75 ?_
                      refine lv_iload hx hb dX6_findStrange_78 (lv_at hl 5 rfl) ?_
                      refine lv_iload hx hb dX6_findStrange_80 (lv_at hl 4 rfl) ?_
                      refine lv_iload_n hx hb dX6_findStrange_82 rfl (lv_at hl 3 rfl) ?_
                      refine k_ci (wr := [(y3, ai g 24 P3), (s1, ai g 6 K), (s2, ai g 6 L), (s3, ai g 96 V), (lw, .inr (2, [.ref l1, .ref l2, .ref l3, .int kn, .int xo, .ref l4])), (l1, ai g 72 F1), (sy, .inr (6, [.ref y1, .ref y2, .ref y3, .ref lw, .int chg, .ref tr])), (y1, ai g 168 S1), (sk, .inr (5, [.int (nI z), .int (nI t), .ref s1, .ref s2, .ref s3]))]) hP hD hS hA [] [0, 1, 2, 3, 4, 5, 6, 7, 8] rfl rfl (by decide) (by decide) (va_runSN (As := [.int (nI q)]) (rest := [.int (nI (OR t (Ac k q))), .int (nI u), .ref l1]) ⟨hx, hb, hml, hown, hts⟩ (c_X8_aheadAt_g l g q (by first | assumption | omega) H.size) ⟨va_cnB 1 hts gX6_findStrange_X8_aheadAt_n120 rfl rfl rfl (hE.nw 21 rfl) (hts (.initialized RX8) q_X6_findStrange_f_8) (by decide +kernel) ⟨Nat.le_of_ble_eq_true rfl, Nat.le_of_ble_eq_true rfl⟩, (hts (.static yX8_aheadAt) q_X6_findStrange_f_9), trivial⟩ (k_preS hE hZ hP hD hS hA [] rfl (by decide)) rfl rfl hl.1 rfl (lv_room (Nat.le_of_ble_eq_true rfl)) dX6_findStrange_83 ⟨Nat.le_of_ble_eq_true rfl, Nat.le_of_ble_eq_true rfl⟩) (fun r_11 w1 H locs hw hP hD hS => ?_)
                      obtain ⟨rfl, rfl⟩ := hw
                      have hP : va_P g.1 vwCl [(y3, ai g 24 P3), (s1, ai g 6 K), (s2, ai g 6 L), (s3, ai g 96 V), (lw, .inr (2, [.ref l1, .ref l2, .ref l3, .int kn, .int xo, .ref l4])), (l1, ai g 72 F1), (sy, .inr (6, [.ref y1, .ref y2, .ref y3, .ref lw, .int chg, .ref tr])), (y1, ai g 168 S1), (sk, .inr (5, [.int (nI z), .int (nI t), .ref s1, .ref s2, .ref s3]))] H := hP
                      have hD : va_D A [(y3, ai g 24 P3), (s1, ai g 6 K), (s2, ai g 6 L), (s3, ai g 96 V), (lw, .inr (2, [.ref l1, .ref l2, .ref l3, .int kn, .int xo, .ref l4])), (l1, ai g 72 F1), (sy, .inr (6, [.ref y1, .ref y2, .ref y3, .ref lw, .int chg, .ref tr])), (y1, ai g 168 S1), (sk, .inr (5, [.int (nI z), .int (nI t), .ref s1, .ref s2, .ref s3]))] := hD
                      refine k_ci (wr := [(y3, ai g 24 P3), (s1, ai g 6 K), (s2, ai g 6 L), (s3, ai g 96 V), (lw, .inr (2, [.ref l1, .ref l2, .ref l3, .int kn, .int xo, .ref l4])), (l1, ai g 72 F1), (sy, .inr (6, [.ref y1, .ref y2, .ref y3, .ref lw, .int chg, .ref tr])), (y1, ai g 168 S1), (sk, .inr (5, [.int (nI z), .int (nI t), .ref s1, .ref s2, .ref s3]))]) hP hD hS hA [] [0, 1, 2, 3, 4, 5, 6, 7, 8] rfl rfl (by decide) (by decide) (va_runSN (As := [.int (nI u), .int (nI (OR t (Ac k q))), .int (nI (ah q))]) (rest := [.ref l1]) ⟨hx, hb, hml, hown, hts⟩ (c_X8_lawAt_g l g u (OR t (Ac k q)) (ah q)  H.size) ⟨va_cnB 3 hts gX6_findStrange_X8_lawAt_n123 rfl rfl rfl (hE.nw 22 rfl) (hts (.initialized RX8) q_X6_findStrange_f_8) (by decide +kernel) ⟨Nat.le_of_ble_eq_true rfl, Nat.le_of_ble_eq_true rfl⟩, (hts (.static yX8_lawAt) q_X6_findStrange_f_10), trivial⟩ (k_preS hE hZ hP hD hS hA [] rfl (by decide)) rfl rfl hl.1 rfl (lv_room (Nat.le_of_ble_eq_true rfl)) dX6_findStrange_86 ⟨Nat.le_of_ble_eq_true rfl, Nat.le_of_ble_eq_true rfl⟩) (fun r_13 w1 H locs hw hP hD hS => ?_)
                      obtain ⟨rfl, rfl⟩ := hw
                      have hP : va_P g.1 vwCl [(y3, ai g 24 P3), (s1, ai g 6 K), (s2, ai g 6 L), (s3, ai g 96 V), (lw, .inr (2, [.ref l1, .ref l2, .ref l3, .int kn, .int xo, .ref l4])), (l1, ai g 72 F1), (sy, .inr (6, [.ref y1, .ref y2, .ref y3, .ref lw, .int chg, .ref tr])), (y1, ai g 168 S1), (sk, .inr (5, [.int (nI z), .int (nI t), .ref s1, .ref s2, .ref s3]))] H := hP
                      have hD : va_D A [(y3, ai g 24 P3), (s1, ai g 6 K), (s2, ai g 6 L), (s3, ai g 96 V), (lw, .inr (2, [.ref l1, .ref l2, .ref l3, .int kn, .int xo, .ref l4])), (l1, ai g 72 F1), (sy, .inr (6, [.ref y1, .ref y2, .ref y3, .ref lw, .int chg, .ref tr])), (y1, ai g 168 S1), (sk, .inr (5, [.int (nI z), .int (nI t), .ref s1, .ref s2, .ref s3]))] := hD
                      refine k_ald (18 * u + 2 * (OR t (Ac k q)) + (ah q)) rfl (by omega) hx hb hE hP 5 rfl (by decide) dX6_findStrange_89 ?_
                      refine lv_topi (fun x6 ex6 => ?_)
                      refine lv_istore (lv' := [(6, .int x6), (0, .ref sy), (1, .ref sk), (2, .int (nI k)), (3, .int (nI q)), (4, .int (nI (OR t (Ac k q)))), (5, .int (nI u))]) hx hb dX6_findStrange_90 hl (by decide) rfl (fun ls hl => ?_)
                      have e6 : x6 = laB Fw (18 * u + 2 * OR t (Ac k q) + ah q) := ex6.trans (hB _ (by omega))
                      refine lv_aload_n hx hb dX6_findStrange_92 rfl (lv_at hl 2 rfl) ?_
                      refine va_get (D := g.1) (ci := 5) (v := .ref s3) (C := RX5) (T := TX5) (N := 5) hx hb hts q_X6_findStrange_f_f5 hown hE.1 hP 8 rfl rfl 4 (by decide) (hts (.fieldLink RX6 94 "SoundLaws$Stock" "words" "[I") q_X6_findStrange_f_11) (fun _ h9 => h9) rfl dX6_findStrange_93 ?_
                      refine lv_iload_n hx hb dX6_findStrange_96 rfl (lv_at hl 3 rfl) ?_
                      refine lv_iload hx hb dX6_findStrange_97 (lv_at hl 6 rfl) ?_
                      refine k_ci (wr := [(y3, ai g 24 P3), (s1, ai g 6 K), (s2, ai g 6 L), (s3, ai g 96 V), (lw, .inr (2, [.ref l1, .ref l2, .ref l3, .int kn, .int xo, .ref l4])), (l1, ai g 72 F1), (sy, .inr (6, [.ref y1, .ref y2, .ref y3, .ref lw, .int chg, .ref tr])), (y1, ai g 168 S1), (sk, .inr (5, [.int (nI z), .int (nI t), .ref s1, .ref s2, .ref s3]))]) hP hD hS hA [] [0, 1, 2, 3, 4, 5, 6, 7, 8] rfl rfl (by decide) (by decide) (va_runSN (As := [.int (nI k), .int (nI u)]) (rest := [.ref s3]) ⟨hx, hb, hml, hown, hts⟩ (c_X8_wordAt_g l g k u  H.size) ⟨va_cnB 2 hts gX6_findStrange_X8_wordAt_n97 rfl rfl rfl (hE.nw 12 rfl) (hts (.initialized RX8) q_X6_findStrange_f_8) (by decide +kernel) ⟨Nat.le_of_ble_eq_true rfl, Nat.le_of_ble_eq_true rfl⟩, (hts (.static yX8_wordAt) q_X6_findStrange_f_12), trivial⟩ (k_preS hE hZ hP hD hS hA [] rfl (by decide)) rfl rfl hl.1 rfl (lv_room (Nat.le_of_ble_eq_true rfl)) dX6_findStrange_99 ⟨Nat.le_of_ble_eq_true rfl, Nat.le_of_ble_eq_true rfl⟩) (fun r_15 w1 H locs hw hP hD hS => ?_)
                      obtain ⟨rfl, rfl⟩ := hw
                      have hP : va_P g.1 vwCl [(y3, ai g 24 P3), (s1, ai g 6 K), (s2, ai g 6 L), (s3, ai g 96 V), (lw, .inr (2, [.ref l1, .ref l2, .ref l3, .int kn, .int xo, .ref l4])), (l1, ai g 72 F1), (sy, .inr (6, [.ref y1, .ref y2, .ref y3, .ref lw, .int chg, .ref tr])), (y1, ai g 168 S1), (sk, .inr (5, [.int (nI z), .int (nI t), .ref s1, .ref s2, .ref s3]))] H := hP
                      have hD : va_D A [(y3, ai g 24 P3), (s1, ai g 6 K), (s2, ai g 6 L), (s3, ai g 96 V), (lw, .inr (2, [.ref l1, .ref l2, .ref l3, .int kn, .int xo, .ref l4])), (l1, ai g 72 F1), (sy, .inr (6, [.ref y1, .ref y2, .ref y3, .ref lw, .int chg, .ref tr])), (y1, ai g 168 S1), (sk, .inr (5, [.int (nI z), .int (nI t), .ref s1, .ref s2, .ref s3]))] := hD
                      refine lv_iload_n hx hb dX6_findStrange_102 rfl (lv_at hl 4 rfl) ?_
                      refine lv_iadd hx hb dX6_findStrange_103 ?_
                      refine k_ald (16 * k + 4 * u + q) (nI_add _ _) (by omega) hx hb hE hP 3 rfl (by decide) dX6_findStrange_104 ?_
                      refine lv_topi (fun x_17 ex_17 => ?_)
                      obtain rfl : x_17 = nI (Ac k q u) := by rw [ex_17]; exact (hAk q hq9 u hu9).1
                      refine lv_istore (lv' := [(7, .int (nI (Ac k q u))), (6, .int x6), (0, .ref sy), (1, .ref sk), (2, .int (nI k)), (3, .int (nI q)), (4, .int (nI (OR t (Ac k q)))), (5, .int (nI u))]) hx hb dX6_findStrange_105 hl (by decide) rfl (fun ls hl => ?_)
                      refine lv_iload hx hb dX6_findStrange_107 (lv_at hl 1 rfl) ?_
                      refine lv_iconst (v := (-1)) hx hb dX6_findStrange_109 (by decide) ?_
                      refine lv_icmp_eq (tgt := 135) hx hb dX6_findStrange_110 (by decide) (fun c110_18 => ?_) (fun c110_18 => ?_)
                      · skip
                        refine lv_iinc (v := (nI (u + 1))) (lv' := [(5, .int (nI (u + 1))), (7, .int (nI (Ac k q u))), (6, .int x6), (0, .ref sy), (1, .ref sk), (2, .int (nI k)), (3, .int (nI q)), (4, .int (nI (OR t (Ac k q))))]) hx hb dX6_findStrange_135 hl (k := 7) rfl (nI_1 _) (by decide) rfl (fun ls hl => ?_)
                        refine lv_goto (tgt := 62) hx hb dX6_findStrange_138 (by decide) ?_
                        exact ih62 (u + 1) _ (by omega) (FU_no hu9 hP3 (Or.inl (by have h9 := c110_18; rw [e6] at h9; exact h9))) (by omega) _ _ _ hP hD hS (lv_sub hl [3, 4, 5, 6, 7, 0] rfl)
                      · skip
                        refine lv_iload hx hb dX6_findStrange_113 (lv_at hl 1 rfl) ?_
                        refine lv_iload hx hb dX6_findStrange_115 (lv_at hl 0 rfl) ?_
                        refine lv_icmp_eq (tgt := 135) hx hb dX6_findStrange_117 (by decide) (fun c117_19 => ?_) (fun c117_19 => ?_)
                        · skip
                          refine lv_iinc (v := (nI (u + 1))) (lv' := [(5, .int (nI (u + 1))), (7, .int (nI (Ac k q u))), (6, .int x6), (0, .ref sy), (1, .ref sk), (2, .int (nI k)), (3, .int (nI q)), (4, .int (nI (OR t (Ac k q))))]) hx hb dX6_findStrange_135 hl (k := 7) rfl (nI_1 _) (by decide) rfl (fun ls hl => ?_)
                          refine lv_goto (tgt := 62) hx hb dX6_findStrange_138 (by decide) ?_
                          exact ih62 (u + 1) _ (by omega) (FU_no hu9 hP3 (Or.inr (by have h9 := c117_19; rw [e6] at h9; exact h9))) (by omega) _ _ _ hP hD hS (lv_sub hl [3, 4, 5, 6, 7, 0] rfl)
                        · skip
                          refine lv_aload_n hx hb dX6_findStrange_120 rfl (lv_at hl 2 rfl) ?_
                          refine va_get (D := g.1) (ci := 6) (v := .ref y3) (C := RX6) (T := TX6) (N := 6) hx hb hts q_X6_findStrange_f_f6 hown hE.1 hP 6 rfl rfl 2 (by decide) (hts (.fieldLink RX6 18 "SoundLaws$Study" "strangePlaces" "[I") q_X6_findStrange_f_13) (fun _ h9 => h9) rfl dX6_findStrange_121 ?_
                          refine lv_iload_n hx hb dX6_findStrange_124 rfl (lv_at hl 4 rfl) ?_
                          refine lv_iconst (v := 4) hx hb dX6_findStrange_125 (by decide) ?_
                          refine lv_imul hx hb dX6_findStrange_126 ?_
                          refine lv_iload hx hb dX6_findStrange_127 (lv_at hl 7 rfl) ?_
                          refine lv_iadd hx hb dX6_findStrange_129 ?_
                          refine lv_dup2_11 hx hb dX6_findStrange_130 rfl rfl ?_
                          refine k_ald (4 * k + u) (by rw [show (4 : Int32) = nI 4 from rfl, pk_mul, nI_add, Nat.mul_comm]) (by omega) hx hb hE hP 0 rfl (by decide) dX6_findStrange_131 ?_
                          refine lv_iconst (v := 1) hx hb dX6_findStrange_132 (by decide) ?_
                          refine lv_iadd hx hb dX6_findStrange_133 ?_
                          refine lv_topi (fun xr exr => ?_)
                          refine k_ast (x := xr) (4 * k + u) (by rw [show (4 : Int32) = nI 4 from rfl, pk_mul, nI_add, Nat.mul_comm]) (by omega) hx hb hE hP hD hS 0 rfl (by decide) dX6_findStrange_134 (fun H locs hP hD hS => ?_)
                          have hP : va_P g.1 vwCl [(y3, ai g 24 (upd P3 (4 * k + u) xr)), (s1, ai g 6 K), (s2, ai g 6 L), (s3, ai g 96 V), (lw, .inr (2, [.ref l1, .ref l2, .ref l3, .int kn, .int xo, .ref l4])), (l1, ai g 72 F1), (sy, .inr (6, [.ref y1, .ref y2, .ref y3, .ref lw, .int chg, .ref tr])), (y1, ai g 168 S1), (sk, .inr (5, [.int (nI z), .int (nI t), .ref s1, .ref s2, .ref s3]))] H := hP
                          have hD : va_D A [(y3, ai g 24 (upd P3 (4 * k + u) xr)), (s1, ai g 6 K), (s2, ai g 6 L), (s3, ai g 96 V), (lw, .inr (2, [.ref l1, .ref l2, .ref l3, .int kn, .int xo, .ref l4])), (l1, ai g 72 F1), (sy, .inr (6, [.ref y1, .ref y2, .ref y3, .ref lw, .int chg, .ref tr])), (y1, ai g 168 S1), (sk, .inr (5, [.int (nI z), .int (nI t), .ref s1, .ref s2, .ref s3]))] := hD
                          refine lv_iinc (v := (nI (u + 1))) (lv' := [(5, .int (nI (u + 1))), (7, .int (nI (Ac k q u))), (6, .int x6), (0, .ref sy), (1, .ref sk), (2, .int (nI k)), (3, .int (nI q)), (4, .int (nI (OR t (Ac k q))))]) hx hb dX6_findStrange_135 hl (k := 7) rfl (nI_1 _) (by decide) rfl (fun ls hl => ?_)
                          refine lv_goto (tgt := 62) hx hb dX6_findStrange_138 (by decide) ?_
                          exact ih62 (u + 1) _ (by omega) (FU_hit hu9 (by omega) hP3 (by have h9 := c110_18; rw [e6] at h9; exact h9) (by have h9 := c117_19; rw [e6] at h9; exact h9) exr) (by omega) _ _ _ hP hD hS (lv_sub hl [3, 4, 5, 6, 7, 0] rfl)
                exact loop62 _ 0 T3 (Nat.zero_le t) (FU_0 hT3) (Nat.lt_succ_self _) _ _ _ hP hD hS (lv_sub hl [2, 3, 4, 5, 1, 0] rfl)
          exact loop40 _ 0 M3 (Nat.zero_le _) (FQ_0 hM9) (Nat.lt_succ_self _) _ _ _ hP hD hS (lv_sub hl [1, 2, 3, 0] rfl)
        · skip
          have hr0 := (rb_z (ka k) hK5).mp c34_4
          refine W.widen (k := 0) (n := 0) (Nat.le_of_ble_eq_true rfl) (Nat.le_of_ble_eq_true rfl) ?_
          exact k_rv hx hb hr hlocks hS hP hD ⟨M3, rfl, hM9.1, (fun u hu => by unfold stN; rw [hM9.2 u hu, if_pos hr0]; split <;> rfl)⟩ dX6_findStrange_37
      · skip
        have hu9 := lt_of_nle (k := 4) (n := u) (by decide) (by omega) c4_1
        refine lv_aload_n hx hb dX6_findStrange_7 rfl (lv_at hl 0 rfl) ?_
        refine va_get (D := g.1) (ci := 6) (v := .ref y3) (C := RX6) (T := TX6) (N := 6) hx hb hts q_X6_findStrange_f_f6 hown hE.1 hP 0 rfl rfl 2 (by decide) (hts (.fieldLink RX6 18 "SoundLaws$Study" "strangePlaces" "[I") q_X6_findStrange_f_13) (fun _ h9 => h9) rfl dX6_findStrange_8 ?_
        refine lv_iload_n hx hb dX6_findStrange_11 rfl (lv_at hl 2 rfl) ?_
        refine lv_iconst (v := 4) hx hb dX6_findStrange_12 (by decide) ?_
        refine lv_imul hx hb dX6_findStrange_13 ?_
        refine lv_iload_n hx hb dX6_findStrange_14 rfl (lv_at hl 3 rfl) ?_
        refine lv_iadd hx hb dX6_findStrange_15 ?_
        refine lv_iconst (v := 0) hx hb dX6_findStrange_16 (by decide) ?_
        refine k_ast (x := 0) (4 * k + u) (by rw [show (4 : Int32) = nI 4 from rfl, pk_mul, nI_add, Nat.mul_comm]) (by omega) hx hb hE hP hD hS 2 rfl (by decide) dX6_findStrange_17 (fun H locs hP hD hS => ?_)
        have hP : va_P g.1 vwCl [(sy, .inr (6, [.ref y1, .ref y2, .ref y3, .ref lw, .int chg, .ref tr])), (y1, ai g 168 S1), (y3, ai g 24 (upd M3 (4 * k + u) 0)), (sk, .inr (5, [.int (nI z), .int (nI t), .ref s1, .ref s2, .ref s3])), (s1, ai g 6 K), (s2, ai g 6 L), (s3, ai g 96 V), (lw, .inr (2, [.ref l1, .ref l2, .ref l3, .int kn, .int xo, .ref l4])), (l1, ai g 72 F1)] H := hP
        have hD : va_D A [(sy, .inr (6, [.ref y1, .ref y2, .ref y3, .ref lw, .int chg, .ref tr])), (y1, ai g 168 S1), (y3, ai g 24 (upd M3 (4 * k + u) 0)), (sk, .inr (5, [.int (nI z), .int (nI t), .ref s1, .ref s2, .ref s3])), (s1, ai g 6 K), (s2, ai g 6 L), (s3, ai g 96 V), (lw, .inr (2, [.ref l1, .ref l2, .ref l3, .int kn, .int xo, .ref l4])), (l1, ai g 72 F1)] := hD
        refine lv_iinc (v := (nI (u + 1))) (lv' := [(3, .int (nI (u + 1))), (0, .ref sy), (1, .ref sk), (2, .int (nI k))]) hx hb dX6_findStrange_18 hl (k := 3) rfl (nI_1 _) (by decide) rfl (fun ls hl => ?_)
        refine lv_goto (tgt := 2) hx hb dX6_findStrange_21 (by decide) ?_
        exact ih2 (u + 1) _ (by omega) (FZ_s hu9 hM3) (by omega) _ _ _ hP hD hS (lv_sub hl [1, 2, 3, 0] rfl)
  exact loop2 _ 0 S3 (Nat.zero_le 4) FZ_0 (Nat.lt_succ_self _) _ _ _ hP hD hS (lv_sub hl [1, 2, 3, 0] rfl)
def po_X6_renew_f (g : GG) (sy : Nat) (y1 : Nat) (y2 : Nat) (y3 : Nat) (lw : Nat) (tr : Nat) (chg : Int32) (S1 : Nat → Int32) (S2 : Nat → Int32) (S3 : Nat → Int32) (sk : Nat) (s1 : Nat) (s2 : Nat) (s3 : Nat) (z : Nat) (t : Nat) (K : Nat → Int32) (L : Nat → Int32) (V : Nat → Int32) (tg : Int32) (t1 : Nat) (t2 : Nat) (f : Nat → Int32) (fl : Nat → Int32) (l1 : Nat) (l2 : Nat) (l3 : Nat) (l4 : Nat) (kn : Int32) (xo : Int32) (F1 : Nat → Int32) (F2 : Nat → Int32) (F3 : Nat → Int32) (F4 : Nat → Int32) (ka : Nat → Nat) (nl : Nat → Nat) (Ac : Nat → Nat → Nat → Nat) : va_W → Prop := fun w => ∃ (c2 : Int32) (k2 : Int32) (x2 : Int32) (T1 : Nat → Int32) (T2 : Nat → Int32) (T3 : Nat → Int32) (f2 : Nat → Int32) (fl2 : Nat → Int32) (G1 : Nat → Int32) (G2 : Nat → Int32) (G3 : Nat → Int32) (G4 : Nat → Int32), w = [(sy, .inr (6, [.ref y1, .ref y2, .ref y3, .ref lw, .int c2, .ref tr])), (y1, ai g 168 T1), (y2, ai g 6 T2), (y3, ai g 24 T3), (sk, .inr (5, [.int (nI z), .int (nI t), .ref s1, .ref s2, .ref s3])), (s1, ai g 6 K), (s2, ai g 6 L), (s3, ai g 96 V), (tr, .inr (7, [.int (nI t), .ref t1, .ref t2])), (t1, ai g 7 f2), (t2, ai g 63 fl2), (lw, .inr (2, [.ref l1, .ref l2, .ref l3, .int k2, .int x2, .ref l4])), (l1, ai g 72 G1), (l2, ai g 72 G2), (l3, ai g 72 G3), (l4, ai g 648 G4)] ∧ (STD z t ka nl Ac T1 T2 T3 G1 G2 G3 c2 k2 x2)
theorem q_X6_renew_f_f6 : ∀ w ∈ u_ws RX6 TX6 6, w ∈ wsX6_renew := by decide +kernel
theorem q_X6_renew_f_1 : (Cond.fieldLink RX6 31 "SoundLaws$Study" "tree" "LSoundLaws$Tree;") ∈ wsX6_renew := by decide +kernel
theorem q_X6_renew_f_f5 : ∀ w ∈ u_ws RX5 TX5 5, w ∈ wsX6_renew := by decide +kernel
theorem q_X6_renew_f_3 : (Cond.fieldLink RX6 35 "SoundLaws$Stock" "tongues" "I") ∈ wsX6_renew := by decide +kernel
theorem q_X6_renew_f_4 : (Cond.fieldLink RX6 45 "SoundLaws$Study" "changesOfAll" "I") ∈ wsX6_renew := by decide +kernel
theorem q_X6_renew_f_5 : (Cond.fieldLink RX6 48 "SoundLaws$Stock" "size" "I") ∈ wsX6_renew := by decide +kernel
theorem q_X6_renew_f_6 : (Cond.fieldLink RX6 24 "SoundLaws$Study" "laws" "LSoundLaws$Laws;") ∈ wsX6_renew := by decide +kernel
set_option maxHeartbeats 1500000 in
set_option maxRecDepth 100000 in
theorem c_X6_renew_f (l : Launch) (g : GG) (sy : Nat) (y1 : Nat) (y2 : Nat) (y3 : Nat) (lw : Nat) (tr : Nat) (chg : Int32) (S1 : Nat → Int32) (S2 : Nat → Int32) (S3 : Nat → Int32) (sk : Nat) (s1 : Nat) (s2 : Nat) (s3 : Nat) (z : Nat) (t : Nat) (K : Nat → Int32) (L : Nat → Int32) (V : Nat → Int32) (tg : Int32) (t1 : Nat) (t2 : Nat) (f : Nat → Int32) (fl : Nat → Int32) (l1 : Nat) (l2 : Nat) (l3 : Nat) (l4 : Nat) (kn : Int32) (xo : Int32) (F1 : Nat → Int32) (F2 : Nat → Int32) (F3 : Nat → Int32) (F4 : Nat → Int32) (ka : Nat → Nat) (nl : Nat → Nat) (Ac : Nat → Nat → Nat → Nat) (hz : z ≤ 6) (hzt : 0 < z → 2 ≤ t) (ht4 : t ≤ 4) (hp : PIC z t K L V ka nl Ac) (sz : Nat) : MetV l yX6_renew wsX6_renew ({ frames := 4, cells := 0, slots := 0, locals := 94 }) g [.ref sy, .ref sk] [(sy, .inr (6, [.ref y1, .ref y2, .ref y3, .ref lw, .int chg, .ref tr])), (y1, ai g 168 S1), (y2, ai g 6 S2), (y3, ai g 24 S3), (sk, .inr (5, [.int (nI z), .int (nI t), .ref s1, .ref s2, .ref s3])), (s1, ai g 6 K), (s2, ai g 6 L), (s3, ai g 96 V), (tr, .inr (7, [.int tg, .ref t1, .ref t2])), (t1, ai g 7 f), (t2, ai g 63 fl), (lw, .inr (2, [.ref l1, .ref l2, .ref l3, .int kn, .int xo, .ref l4])), (l1, ai g 72 F1), (l2, ai g 72 F2), (l3, ai g 72 F3), (l4, ai g 648 F4)] sz (po_X6_renew_f g sy y1 y2 y3 lw tr chg S1 S2 S3 sk s1 s2 s3 z t K L V tg t1 t2 f fl l1 l2 l3 l4 kn xo F1 F2 F3 F4 ka nl Ac) 0 0 := by
  refine k_of (l := l) (y := yX6_renew) (ws := wsX6_renew) (rm := { frames := 4, cells := 0, slots := 0, locals := 94 }) (mc := 0) (ms := 0) (av := [.ref sy, .ref sk]) (g := g) (wc := [(sy, .inr (6, [.ref y1, .ref y2, .ref y3, .ref lw, .int chg, .ref tr])), (y1, ai g 168 S1), (y2, ai g 6 S2), (y3, ai g 24 S3), (sk, .inr (5, [.int (nI z), .int (nI t), .ref s1, .ref s2, .ref s3])), (s1, ai g 6 K), (s2, ai g 6 L), (s3, ai g 96 V), (tr, .inr (7, [.int tg, .ref t1, .ref t2])), (t1, ai g 7 f), (t2, ai g 63 fl), (lw, .inr (2, [.ref l1, .ref l2, .ref l3, .int kn, .int xo, .ref l4])), (l1, ai g 72 F1), (l2, ai g 72 F2), (l3, ai g 72 F3), (l4, ai g 648 F4)]) (Qc := fun A => va_Qv (po_X6_renew_f g sy y1 y2 y3 lw tr chg S1 S2 S3 sk s1 s2 s3 z t K L V tg t1 t2 f fl l1 l2 l3 l4 kn xo F1 F2 F3 F4 ka nl Ac) (bk g A) A) (cc := cX6_renew) (maxL := 3) (ret := none) (by decide) rfl (Nat.le_of_ble_eq_true rfl) ?_ sz
  intro p e s m below meth c hx hb hr hts hown hlocks hnm hml A hA hE hZ hP hD hS ls hl
  have hown : s.vm.findClass RX6 = some m.cls := hown
  have hl : lv_has ls 3 [(0, .ref sy), (1, .ref sk)] := hl
  refine lv_aload_n hx hb dX6_renew_0 rfl (lv_at hl 0 rfl) ?_
  refine va_get (D := g.1) (ci := 6) (v := .ref tr) (C := RX6) (T := TX6) (N := 6) hx hb hts q_X6_renew_f_f6 hown hE.1 hP 0 rfl rfl 5 (by decide) (hts (.fieldLink RX6 31 "SoundLaws$Study" "tree" "LSoundLaws$Tree;") q_X6_renew_f_1) (fun _ h9 => h9) rfl dX6_renew_1 ?_
  refine lv_aload_n hx hb dX6_renew_4 rfl (lv_at hl 1 rfl) ?_
  refine va_get (D := g.1) (ci := 5) (v := .int (nI t)) (C := RX5) (T := TX5) (N := 5) hx hb hts q_X6_renew_f_f5 hown hE.1 hP 4 rfl rfl 1 (by decide) (hts (.fieldLink RX6 35 "SoundLaws$Stock" "tongues" "I") q_X6_renew_f_3) (fun _ h9 => h9) rfl dX6_renew_5 ?_
  refine k_cv (wr := [(sy, .inr (6, [.ref y1, .ref y2, .ref y3, .ref lw, .int chg, .ref tr])), (y1, ai g 168 S1), (y2, ai g 6 S2), (y3, ai g 24 S3), (sk, .inr (5, [.int (nI z), .int (nI t), .ref s1, .ref s2, .ref s3])), (s1, ai g 6 K), (s2, ai g 6 L), (s3, ai g 96 V), (t1, ai g 7 f), (t2, ai g 63 fl), (lw, .inr (2, [.ref l1, .ref l2, .ref l3, .int kn, .int xo, .ref l4])), (l1, ai g 72 F1), (l2, ai g 72 F2), (l3, ai g 72 F3), (l4, ai g 648 F4)]) hP hD hS hA [8] [0, 1, 2, 3, 4, 5, 6, 7, 9, 10, 11, 12, 13, 14, 15] rfl rfl (by decide) (by decide) (va_runV (As := [.int (nI t)]) (rest := []) ⟨hx, hb, hml, hown, hts⟩ (c_X7_plant l g tr t1 t2 tg (nI t)  s.heap.size) (cwV 1 hts gX6_renew_X7_plant rfl rfl rfl (by decide +kernel) ⟨Nat.le_of_ble_eq_true rfl, Nat.le_of_ble_eq_true rfl⟩) (k_preV hE hZ hP hD hS hA [8] rfl (by decide) (va_recv hE.1 hP (ci := 7) (q0 := 8) rfl rfl)) rfl rfl hl.1 rfl (lv_room (Nat.le_of_ble_eq_true rfl)) dX6_renew_8 ⟨Nat.le_of_ble_eq_true rfl, Nat.le_of_ble_eq_true rfl⟩) (fun w1 H locs hw hP hD hS => ?_)
  obtain rfl := hw
  have hP : va_P g.1 vwCl [(sy, .inr (6, [.ref y1, .ref y2, .ref y3, .ref lw, .int chg, .ref tr])), (y1, ai g 168 S1), (y2, ai g 6 S2), (y3, ai g 24 S3), (sk, .inr (5, [.int (nI z), .int (nI t), .ref s1, .ref s2, .ref s3])), (s1, ai g 6 K), (s2, ai g 6 L), (s3, ai g 96 V), (t1, ai g 7 f), (t2, ai g 63 fl), (lw, .inr (2, [.ref l1, .ref l2, .ref l3, .int kn, .int xo, .ref l4])), (l1, ai g 72 F1), (l2, ai g 72 F2), (l3, ai g 72 F3), (l4, ai g 648 F4), (tr, .inr (7, [.int (nI t), .ref t1, .ref t2]))] H := hP
  have hD : va_D A [(sy, .inr (6, [.ref y1, .ref y2, .ref y3, .ref lw, .int chg, .ref tr])), (y1, ai g 168 S1), (y2, ai g 6 S2), (y3, ai g 24 S3), (sk, .inr (5, [.int (nI z), .int (nI t), .ref s1, .ref s2, .ref s3])), (s1, ai g 6 K), (s2, ai g 6 L), (s3, ai g 96 V), (t1, ai g 7 f), (t2, ai g 63 fl), (lw, .inr (2, [.ref l1, .ref l2, .ref l3, .int kn, .int xo, .ref l4])), (l1, ai g 72 F1), (l2, ai g 72 F2), (l3, ai g 72 F3), (l4, ai g 648 F4), (tr, .inr (7, [.int (nI t), .ref t1, .ref t2]))] := hD
  refine lv_aload_n hx hb dX6_renew_11 rfl (lv_at hl 0 rfl) ?_
  refine lv_iconst (v := 0) hx hb dX6_renew_12 (by decide) ?_
  refine va_put (D := g.1) (ci := 6) (v := .int 0) (ty := .int) (C := RX6) (T := TX6) (N := 6) hx hb hts q_X6_renew_f_f6 tyX6 tyX6_ok nmX6 hown hE.1 hP hD hS 0 rfl rfl 4 (by decide) (hts (.fieldLink RX6 45 "SoundLaws$Study" "changesOfAll" "I") q_X6_renew_f_4) (fun _ h9 => h9) rfl (by decide +kernel) rfl rfl (Nat.le_of_ble_eq_true rfl) dX6_renew_13 (fun H locs hP hD hS => ?_)
  have hP : va_P g.1 vwCl [(sy, .inr (6, [.ref y1, .ref y2, .ref y3, .ref lw, .int 0, .ref tr])), (y1, ai g 168 S1), (y2, ai g 6 S2), (y3, ai g 24 S3), (sk, .inr (5, [.int (nI z), .int (nI t), .ref s1, .ref s2, .ref s3])), (s1, ai g 6 K), (s2, ai g 6 L), (s3, ai g 96 V), (t1, ai g 7 f), (t2, ai g 63 fl), (lw, .inr (2, [.ref l1, .ref l2, .ref l3, .int kn, .int xo, .ref l4])), (l1, ai g 72 F1), (l2, ai g 72 F2), (l3, ai g 72 F3), (l4, ai g 648 F4), (tr, .inr (7, [.int (nI t), .ref t1, .ref t2]))] H := hP
  have hD : va_D A [(sy, .inr (6, [.ref y1, .ref y2, .ref y3, .ref lw, .int 0, .ref tr])), (y1, ai g 168 S1), (y2, ai g 6 S2), (y3, ai g 24 S3), (sk, .inr (5, [.int (nI z), .int (nI t), .ref s1, .ref s2, .ref s3])), (s1, ai g 6 K), (s2, ai g 6 L), (s3, ai g 96 V), (t1, ai g 7 f), (t2, ai g 63 fl), (lw, .inr (2, [.ref l1, .ref l2, .ref l3, .int kn, .int xo, .ref l4])), (l1, ai g 72 F1), (l2, ai g 72 F2), (l3, ai g 72 F3), (l4, ai g 648 F4), (tr, .inr (7, [.int (nI t), .ref t1, .ref t2]))] := hD
  refine lv_iconst (v := 0) hx hb dX6_renew_16 (by decide) ?_
  refine lv_istore_n (lv' := [(2, .int 0), (0, .ref sy), (1, .ref sk)]) hx hb dX6_renew_17 rfl hl (by decide) rfl (fun ls hl => ?_)
  have loop18 : ∀ (fu : Nat) (a : Nat) (c2 : Int32) (T1 T2 f2 fl2 : Nat → Int32), (ha : a ≤ z) → (hA1 : SDa a t ka nl Ac T1) → (hA2 : ∀ k, k < a → T2 k = chK t ka nl Ac k) → (ec : c2 = chZ t ka nl Ac a) → z - a < fu → ∀ (H : Heap) (locs : List Loc) (ls : Array Slot), va_P g.1 vwCl [(sy, .inr (6, [.ref y1, .ref y2, .ref y3, .ref lw, .int c2, .ref tr])), (y1, ai g 168 T1), (y2, ai g 6 T2), (y3, ai g 24 S3), (sk, .inr (5, [.int (nI z), .int (nI t), .ref s1, .ref s2, .ref s3])), (s1, ai g 6 K), (s2, ai g 6 L), (s3, ai g 96 V), (t1, ai g 7 f2), (t2, ai g 63 fl2), (lw, .inr (2, [.ref l1, .ref l2, .ref l3, .int kn, .int xo, .ref l4])), (l1, ai g 72 F1), (l2, ai g 72 F2), (l3, ai g 72 F3), (l4, ai g 648 F4), (tr, .inr (7, [.int (nI t), .ref t1, .ref t2]))] H → va_D A [(sy, .inr (6, [.ref y1, .ref y2, .ref y3, .ref lw, .int c2, .ref tr])), (y1, ai g 168 T1), (y2, ai g 6 T2), (y3, ai g 24 S3), (sk, .inr (5, [.int (nI z), .int (nI t), .ref s1, .ref s2, .ref s3])), (s1, ai g 6 K), (s2, ai g 6 L), (s3, ai g 96 V), (t1, ai g 7 f2), (t2, ai g 63 fl2), (lw, .inr (2, [.ref l1, .ref l2, .ref l3, .int kn, .int xo, .ref l4])), (l1, ai g 72 F1), (l2, ai g 72 F2), (l3, ai g 72 F3), (l4, ai g 648 F4), (tr, .inr (7, [.int (nI t), .ref t1, .ref t2]))] → va_S A s.heap H locs → lv_has ls 3 [(0, .ref sy), (1, .ref sk), (2, .int (nI a))] → W p l e ({ frames := 4, cells := 0, slots := 0, locals := 94 }) s m [.ref sy, .ref sk].toArray below meth c H locs 0 0 (MQ below (va_Qv (po_X6_renew_f g sy y1 y2 y3 lw tr chg S1 S2 S3 sk s1 s2 s3 z t K L V tg t1 t2 f fl l1 l2 l3 l4 kn xo F1 F2 F3 F4 ka nl Ac) (bk g A) A) [.ref sy, .ref sk].toArray s 0 0 A) (F0 m 18 ls []) := by
    intro fu
    induction fu with
    | zero => intro a c2 T1 T2 f2 fl2 ha hA1 hA2 ec hfu; exact absurd hfu (Nat.not_lt_zero _)
    | succ fu ih =>
      intro a c2 T1 T2 f2 fl2 ha hA1 hA2 ec hfu H locs ls hP hD hS hl
      have ih18 := ih
      refine lv_iload_n hx hb dX6_renew_18 rfl (lv_at hl 2 rfl) ?_
      refine lv_aload_n hx hb dX6_renew_19 rfl (lv_at hl 1 rfl) ?_
      refine va_get (D := g.1) (ci := 5) (v := .int (nI z)) (C := RX5) (T := TX5) (N := 5) hx hb hts q_X6_renew_f_f5 hown hE.1 hP 4 rfl rfl 0 (by decide) (hts (.fieldLink RX6 48 "SoundLaws$Stock" "size" "I") q_X6_renew_f_5) (fun _ h9 => h9) rfl dX6_renew_20 ?_
      refine lv_icmp_ge (tgt := 38) hx hb dX6_renew_23 (by decide) (fun c23_2 => ?_) (fun c23_2 => ?_)
      · skip
        have ha10 := ge_of_le (k := z) (n := a) (by omega) (by omega) c23_2
        have hS9 : SDa z t ka nl Ac T1 := by rw [show z = a by omega]; exact hA1
        refine lv_aload_n hx hb dX6_renew_38 rfl (lv_at hl 0 rfl) ?_
        refine va_get (D := g.1) (ci := 6) (v := .ref lw) (C := RX6) (T := TX6) (N := 6) hx hb hts q_X6_renew_f_f6 hown hE.1 hP 0 rfl rfl 3 (by decide) (hts (.fieldLink RX6 24 "SoundLaws$Study" "laws" "LSoundLaws$Laws;") q_X6_renew_f_6) (fun _ h9 => h9) rfl dX6_renew_39 ?_
        refine k_cv (wr := [(sy, .inr (6, [.ref y1, .ref y2, .ref y3, .ref lw, .int c2, .ref tr])), (y1, ai g 168 T1), (y2, ai g 6 T2), (y3, ai g 24 S3), (sk, .inr (5, [.int (nI z), .int (nI t), .ref s1, .ref s2, .ref s3])), (s1, ai g 6 K), (s2, ai g 6 L), (s3, ai g 96 V), (t1, ai g 7 f2), (t2, ai g 63 fl2), (l1, ai g 72 F1), (l2, ai g 72 F2), (l3, ai g 72 F3), (tr, .inr (7, [.int (nI t), .ref t1, .ref t2]))]) hP hD hS hA [10, 14] [0, 1, 2, 3, 4, 5, 6, 7, 8, 9, 11, 12, 13, 15] rfl rfl (by decide) (by decide) (va_runV (As := []) (rest := []) ⟨hx, hb, hml, hown, hts⟩ (c_X2_clear_f l g lw l1 l2 l3 l4 kn xo F4  H.size) (cwV 0 hts gX6_renew_X2_clear rfl rfl rfl (by decide +kernel) ⟨Nat.le_of_ble_eq_true rfl, Nat.le_of_ble_eq_true rfl⟩) (k_preV hE hZ hP hD hS hA [10, 14] rfl (by decide) (va_recv hE.1 hP (ci := 2) (q0 := 10) rfl rfl)) rfl rfl hl.1 rfl (lv_room (Nat.le_of_ble_eq_true rfl)) dX6_renew_42 ⟨Nat.le_of_ble_eq_true rfl, Nat.le_of_ble_eq_true rfl⟩) (fun w1 H locs hw hP hD hS => ?_)
        obtain ⟨G4_4, rfl, hG_5⟩ := hw
        have hP : va_P g.1 vwCl [(sy, .inr (6, [.ref y1, .ref y2, .ref y3, .ref lw, .int c2, .ref tr])), (y1, ai g 168 T1), (y2, ai g 6 T2), (y3, ai g 24 S3), (sk, .inr (5, [.int (nI z), .int (nI t), .ref s1, .ref s2, .ref s3])), (s1, ai g 6 K), (s2, ai g 6 L), (s3, ai g 96 V), (t1, ai g 7 f2), (t2, ai g 63 fl2), (l1, ai g 72 F1), (l2, ai g 72 F2), (l3, ai g 72 F3), (tr, .inr (7, [.int (nI t), .ref t1, .ref t2])), (lw, .inr (2, [.ref l1, .ref l2, .ref l3, .int kn, .int xo, .ref l4])), (l4, ai g 648 G4_4)] H := hP
        have hD : va_D A [(sy, .inr (6, [.ref y1, .ref y2, .ref y3, .ref lw, .int c2, .ref tr])), (y1, ai g 168 T1), (y2, ai g 6 T2), (y3, ai g 24 S3), (sk, .inr (5, [.int (nI z), .int (nI t), .ref s1, .ref s2, .ref s3])), (s1, ai g 6 K), (s2, ai g 6 L), (s3, ai g 96 V), (t1, ai g 7 f2), (t2, ai g 63 fl2), (l1, ai g 72 F1), (l2, ai g 72 F2), (l3, ai g 72 F3), (tr, .inr (7, [.int (nI t), .ref t1, .ref t2])), (lw, .inr (2, [.ref l1, .ref l2, .ref l3, .int kn, .int xo, .ref l4])), (l4, ai g 648 G4_4)] := hD
        refine lv_iconst (v := 0) hx hb dX6_renew_45 (by decide) ?_
        refine lv_istore_n (lv' := [(2, .int 0), (0, .ref sy), (1, .ref sk)]) hx hb dX6_renew_46 rfl hl (by decide) rfl (fun ls hl => ?_)
        have loop47 : ∀ (fu : Nat) (b : Nat) (G4 : Nat → Int32), (hb9x : b ≤ z) → (hW : ∀ j, j < 648 → G4 j = wZ t ka nl Ac j b) → z - b < fu → ∀ (H : Heap) (locs : List Loc) (ls : Array Slot), va_P g.1 vwCl [(sy, .inr (6, [.ref y1, .ref y2, .ref y3, .ref lw, .int c2, .ref tr])), (y1, ai g 168 T1), (y2, ai g 6 T2), (y3, ai g 24 S3), (sk, .inr (5, [.int (nI z), .int (nI t), .ref s1, .ref s2, .ref s3])), (s1, ai g 6 K), (s2, ai g 6 L), (s3, ai g 96 V), (t1, ai g 7 f2), (t2, ai g 63 fl2), (l1, ai g 72 F1), (l2, ai g 72 F2), (l3, ai g 72 F3), (tr, .inr (7, [.int (nI t), .ref t1, .ref t2])), (lw, .inr (2, [.ref l1, .ref l2, .ref l3, .int kn, .int xo, .ref l4])), (l4, ai g 648 G4)] H → va_D A [(sy, .inr (6, [.ref y1, .ref y2, .ref y3, .ref lw, .int c2, .ref tr])), (y1, ai g 168 T1), (y2, ai g 6 T2), (y3, ai g 24 S3), (sk, .inr (5, [.int (nI z), .int (nI t), .ref s1, .ref s2, .ref s3])), (s1, ai g 6 K), (s2, ai g 6 L), (s3, ai g 96 V), (t1, ai g 7 f2), (t2, ai g 63 fl2), (l1, ai g 72 F1), (l2, ai g 72 F2), (l3, ai g 72 F3), (tr, .inr (7, [.int (nI t), .ref t1, .ref t2])), (lw, .inr (2, [.ref l1, .ref l2, .ref l3, .int kn, .int xo, .ref l4])), (l4, ai g 648 G4)] → va_S A s.heap H locs → lv_has ls 3 [(0, .ref sy), (1, .ref sk), (2, .int (nI b))] → W p l e ({ frames := 4, cells := 0, slots := 0, locals := 94 }) s m [.ref sy, .ref sk].toArray below meth c H locs 0 0 (MQ below (va_Qv (po_X6_renew_f g sy y1 y2 y3 lw tr chg S1 S2 S3 sk s1 s2 s3 z t K L V tg t1 t2 f fl l1 l2 l3 l4 kn xo F1 F2 F3 F4 ka nl Ac) (bk g A) A) [.ref sy, .ref sk].toArray s 0 0 A) (F0 m 47 ls []) := by
          intro fu
          induction fu with
          | zero => intro b G4 hb9x hW hfu; exact absurd hfu (Nat.not_lt_zero _)
          | succ fu ih =>
            intro b G4 hb9x hW hfu H locs ls hP hD hS hl
            have ih47 := ih
            refine lv_iload_n hx hb dX6_renew_47 rfl (lv_at hl 2 rfl) ?_
            refine lv_aload_n hx hb dX6_renew_48 rfl (lv_at hl 1 rfl) ?_
            refine va_get (D := g.1) (ci := 5) (v := .int (nI z)) (C := RX5) (T := TX5) (N := 5) hx hb hts q_X6_renew_f_f5 hown hE.1 hP 4 rfl rfl 0 (by decide) (hts (.fieldLink RX6 48 "SoundLaws$Stock" "size" "I") q_X6_renew_f_5) (fun _ h9 => h9) rfl dX6_renew_49 ?_
            refine lv_icmp_ge (tgt := 67) hx hb dX6_renew_52 (by decide) (fun c52_6 => ?_) (fun c52_6 => ?_)
            · skip
              have hb10 := ge_of_le (k := z) (n := b) (by omega) (by omega) c52_6
              refine lv_aload_n hx hb dX6_renew_67 rfl (lv_at hl 0 rfl) ?_
              refine va_get (D := g.1) (ci := 6) (v := .ref lw) (C := RX6) (T := TX6) (N := 6) hx hb hts q_X6_renew_f_f6 hown hE.1 hP 0 rfl rfl 3 (by decide) (hts (.fieldLink RX6 24 "SoundLaws$Study" "laws" "LSoundLaws$Laws;") q_X6_renew_f_6) (fun _ h9 => h9) rfl dX6_renew_68 ?_
              refine lv_aload_n hx hb dX6_renew_71 rfl (lv_at hl 1 rfl) ?_
              refine va_get (D := g.1) (ci := 5) (v := .int (nI t)) (C := RX5) (T := TX5) (N := 5) hx hb hts q_X6_renew_f_f5 hown hE.1 hP 4 rfl rfl 1 (by decide) (hts (.fieldLink RX6 35 "SoundLaws$Stock" "tongues" "I") q_X6_renew_f_3) (fun _ h9 => h9) rfl dX6_renew_72 ?_
              refine k_cv (wr := [(sy, .inr (6, [.ref y1, .ref y2, .ref y3, .ref lw, .int c2, .ref tr])), (y1, ai g 168 T1), (y2, ai g 6 T2), (y3, ai g 24 S3), (sk, .inr (5, [.int (nI z), .int (nI t), .ref s1, .ref s2, .ref s3])), (s1, ai g 6 K), (s2, ai g 6 L), (s3, ai g 96 V), (t1, ai g 7 f2), (t2, ai g 63 fl2), (tr, .inr (7, [.int (nI t), .ref t1, .ref t2]))]) hP hD hS hA [14, 10, 11, 12, 15] [0, 1, 2, 3, 4, 5, 6, 7, 8, 9, 13] rfl rfl (by decide) (by decide) (va_runV (As := [.int (nI t)]) (rest := []) ⟨hx, hb, hml, hown, hts⟩ (c_X2_settle_f l g lw l1 l2 l3 l4 kn xo F1 F2 F3 G4 (wF z t ka nl Ac) t (by first | assumption | omega) (fun j hj => by rw [hW j hj, show b = z by omega]; rfl) H.size) (cwV 1 hts gX6_renew_X2_settle rfl rfl rfl (by decide +kernel) ⟨Nat.le_of_ble_eq_true rfl, Nat.le_of_ble_eq_true rfl⟩) (k_preV hE hZ hP hD hS hA [14, 10, 11, 12, 15] rfl (by decide) (va_recv hE.1 hP (ci := 2) (q0 := 14) rfl rfl)) rfl rfl hl.1 rfl (lv_room (Nat.le_of_ble_eq_true rfl)) dX6_renew_75 ⟨Nat.le_of_ble_eq_true rfl, Nat.le_of_ble_eq_true rfl⟩) (fun w1 H locs hw hP hD hS => ?_)
              obtain ⟨k2_8, x2_9, G1_10, G2_11, G3_12, rfl, hLa_13, hKn_14, hXo_15⟩ := hw
              have hP : va_P g.1 vwCl [(sy, .inr (6, [.ref y1, .ref y2, .ref y3, .ref lw, .int c2, .ref tr])), (y1, ai g 168 T1), (y2, ai g 6 T2), (y3, ai g 24 S3), (sk, .inr (5, [.int (nI z), .int (nI t), .ref s1, .ref s2, .ref s3])), (s1, ai g 6 K), (s2, ai g 6 L), (s3, ai g 96 V), (t1, ai g 7 f2), (t2, ai g 63 fl2), (tr, .inr (7, [.int (nI t), .ref t1, .ref t2])), (lw, .inr (2, [.ref l1, .ref l2, .ref l3, .int k2_8, .int x2_9, .ref l4])), (l1, ai g 72 G1_10), (l2, ai g 72 G2_11), (l3, ai g 72 G3_12), (l4, ai g 648 G4)] H := hP
              have hD : va_D A [(sy, .inr (6, [.ref y1, .ref y2, .ref y3, .ref lw, .int c2, .ref tr])), (y1, ai g 168 T1), (y2, ai g 6 T2), (y3, ai g 24 S3), (sk, .inr (5, [.int (nI z), .int (nI t), .ref s1, .ref s2, .ref s3])), (s1, ai g 6 K), (s2, ai g 6 L), (s3, ai g 96 V), (t1, ai g 7 f2), (t2, ai g 63 fl2), (tr, .inr (7, [.int (nI t), .ref t1, .ref t2])), (lw, .inr (2, [.ref l1, .ref l2, .ref l3, .int k2_8, .int x2_9, .ref l4])), (l1, ai g 72 G1_10), (l2, ai g 72 G2_11), (l3, ai g 72 G3_12), (l4, ai g 648 G4)] := hD
              refine lv_iconst (v := 0) hx hb dX6_renew_78 (by decide) ?_
              refine lv_istore_n (lv' := [(2, .int 0), (0, .ref sy), (1, .ref sk)]) hx hb dX6_renew_79 rfl hl (by decide) rfl (fun ls hl => ?_)
              have loop80 : ∀ (fu : Nat) (d : Nat) (T3 : Nat → Int32), (hd9x : d ≤ z) → (hD3 : SDs d t ka nl Ac (wF z t ka nl Ac) T3) → z - d < fu → ∀ (H : Heap) (locs : List Loc) (ls : Array Slot), va_P g.1 vwCl [(sy, .inr (6, [.ref y1, .ref y2, .ref y3, .ref lw, .int c2, .ref tr])), (y1, ai g 168 T1), (y2, ai g 6 T2), (y3, ai g 24 T3), (sk, .inr (5, [.int (nI z), .int (nI t), .ref s1, .ref s2, .ref s3])), (s1, ai g 6 K), (s2, ai g 6 L), (s3, ai g 96 V), (t1, ai g 7 f2), (t2, ai g 63 fl2), (tr, .inr (7, [.int (nI t), .ref t1, .ref t2])), (lw, .inr (2, [.ref l1, .ref l2, .ref l3, .int k2_8, .int x2_9, .ref l4])), (l1, ai g 72 G1_10), (l2, ai g 72 G2_11), (l3, ai g 72 G3_12), (l4, ai g 648 G4)] H → va_D A [(sy, .inr (6, [.ref y1, .ref y2, .ref y3, .ref lw, .int c2, .ref tr])), (y1, ai g 168 T1), (y2, ai g 6 T2), (y3, ai g 24 T3), (sk, .inr (5, [.int (nI z), .int (nI t), .ref s1, .ref s2, .ref s3])), (s1, ai g 6 K), (s2, ai g 6 L), (s3, ai g 96 V), (t1, ai g 7 f2), (t2, ai g 63 fl2), (tr, .inr (7, [.int (nI t), .ref t1, .ref t2])), (lw, .inr (2, [.ref l1, .ref l2, .ref l3, .int k2_8, .int x2_9, .ref l4])), (l1, ai g 72 G1_10), (l2, ai g 72 G2_11), (l3, ai g 72 G3_12), (l4, ai g 648 G4)] → va_S A s.heap H locs → lv_has ls 3 [(0, .ref sy), (1, .ref sk), (2, .int (nI d))] → W p l e ({ frames := 4, cells := 0, slots := 0, locals := 94 }) s m [.ref sy, .ref sk].toArray below meth c H locs 0 0 (MQ below (va_Qv (po_X6_renew_f g sy y1 y2 y3 lw tr chg S1 S2 S3 sk s1 s2 s3 z t K L V tg t1 t2 f fl l1 l2 l3 l4 kn xo F1 F2 F3 F4 ka nl Ac) (bk g A) A) [.ref sy, .ref sk].toArray s 0 0 A) (F0 m 80 ls []) := by
                intro fu
                induction fu with
                | zero => intro d T3 hd9x hD3 hfu; exact absurd hfu (Nat.not_lt_zero _)
                | succ fu ih =>
                  intro d T3 hd9x hD3 hfu H locs ls hP hD hS hl
                  have ih80 := ih
                  refine lv_iload_n hx hb dX6_renew_80 rfl (lv_at hl 2 rfl) ?_
                  refine lv_aload_n hx hb dX6_renew_81 rfl (lv_at hl 1 rfl) ?_
                  refine va_get (D := g.1) (ci := 5) (v := .int (nI z)) (C := RX5) (T := TX5) (N := 5) hx hb hts q_X6_renew_f_f5 hown hE.1 hP 4 rfl rfl 0 (by decide) (hts (.fieldLink RX6 48 "SoundLaws$Stock" "size" "I") q_X6_renew_f_5) (fun _ h9 => h9) rfl dX6_renew_82 ?_
                  refine lv_icmp_ge (tgt := 100) hx hb dX6_renew_85 (by decide) (fun c85_16 => ?_) (fun c85_16 => ?_)
                  · skip
                    have hd10 := ge_of_le (k := z) (n := d) (by omega) (by omega) c85_16
                    refine W.widen (k := 0) (n := 0) (Nat.le_of_ble_eq_true rfl) (Nat.le_of_ble_eq_true rfl) ?_
                    have hP9 := hP.sub (ws' := [(sy, .inr (6, [.ref y1, .ref y2, .ref y3, .ref lw, .int c2, .ref tr])), (y1, ai g 168 T1), (y2, ai g 6 T2), (y3, ai g 24 T3), (sk, .inr (5, [.int (nI z), .int (nI t), .ref s1, .ref s2, .ref s3])), (s1, ai g 6 K), (s2, ai g 6 L), (s3, ai g 96 V), (tr, .inr (7, [.int (nI t), .ref t1, .ref t2])), (t1, ai g 7 f2), (t2, ai g 63 fl2), (lw, .inr (2, [.ref l1, .ref l2, .ref l3, .int k2_8, .int x2_9, .ref l4])), (l1, ai g 72 G1_10), (l2, ai g 72 G2_11), (l3, ai g 72 G3_12), (l4, ai g 648 G4)]) [0, 1, 2, 3, 4, 5, 6, 7, 10, 8, 9, 11, 12, 13, 14, 15] rfl
                    have hD9 := hD.sub (ws' := [(sy, .inr (6, [.ref y1, .ref y2, .ref y3, .ref lw, .int c2, .ref tr])), (y1, ai g 168 T1), (y2, ai g 6 T2), (y3, ai g 24 T3), (sk, .inr (5, [.int (nI z), .int (nI t), .ref s1, .ref s2, .ref s3])), (s1, ai g 6 K), (s2, ai g 6 L), (s3, ai g 96 V), (tr, .inr (7, [.int (nI t), .ref t1, .ref t2])), (t1, ai g 7 f2), (t2, ai g 63 fl2), (lw, .inr (2, [.ref l1, .ref l2, .ref l3, .int k2_8, .int x2_9, .ref l4])), (l1, ai g 72 G1_10), (l2, ai g 72 G2_11), (l3, ai g 72 G3_12), (l4, ai g 648 G4)]) [0, 1, 2, 3, 4, 5, 6, 7, 10, 8, 9, 11, 12, 13, 14, 15] (by decide) rfl
                    exact k_rv hx hb hr hlocks hS hP9 hD9 ⟨c2, k2_8, x2_9, T1, T2, T3, f2, fl2, G1_10, G2_11, G3_12, G4, rfl, ⟨hS9, (fun k hk => hA2 k (by omega)), (fun k hk => hD3 k (by omega)), hLa_13, (by rw [show z = a by omega]; exact ec), hKn_14, hXo_15⟩⟩ dX6_renew_100
                  · skip
                    have hd9 := lt_of_nle (k := z) (n := d) (by omega) (by omega) c85_16
                    have ht := hzt (by omega)
                    refine lv_aload_n hx hb dX6_renew_88 rfl (lv_at hl 0 rfl) ?_
                    refine lv_aload_n hx hb dX6_renew_89 rfl (lv_at hl 1 rfl) ?_
                    refine lv_iload_n hx hb dX6_renew_90 rfl (lv_at hl 2 rfl) ?_
                    refine k_cv (wr := [(y2, ai g 6 T2), (t1, ai g 7 f2), (t2, ai g 63 fl2), (tr, .inr (7, [.int (nI t), .ref t1, .ref t2])), (l2, ai g 72 G2_11), (l3, ai g 72 G3_12), (l4, ai g 648 G4)]) hP hD hS hA [0, 1, 3, 4, 5, 6, 7, 11, 12] [2, 8, 9, 10, 13, 14, 15] rfl rfl (by decide) (by decide) (va_runV (As := [.ref sk, .int (nI d)]) (rest := []) ⟨hx, hb, hml, hown, hts⟩ (c_X6_findStrange_f l g sy y1 y2 y3 lw tr c2 T1 T3 sk s1 s2 s3 z t K L V l1 l2 l3 l4 k2_8 x2_9 G1_10 ka nl Ac (wF z t ka nl Ac) d (by first | assumption | omega) (by first | assumption | omega) (by first | assumption | omega) (by first | assumption | omega) (by first | assumption | omega) hS9 (fun i hi => (hLa_13 i hi).1) H.size) (cwV 2 hts gX6_renew_X6_findStrange rfl rfl rfl (by decide +kernel) ⟨Nat.le_of_ble_eq_true rfl, Nat.le_of_ble_eq_true rfl⟩) (k_preV hE hZ hP hD hS hA [0, 1, 3, 4, 5, 6, 7, 11, 12] rfl (by decide) (va_recv hE.1 hP (ci := 6) (q0 := 0) rfl rfl)) rfl rfl hl.1 rfl (lv_room (Nat.le_of_ble_eq_true rfl)) dX6_renew_91 ⟨Nat.le_of_ble_eq_true rfl, Nat.le_of_ble_eq_true rfl⟩) (fun w1 H locs hw hP hD hS => ?_)
                    obtain ⟨T3_18, rfl, h1_19, h2_20⟩ := hw
                    have hP : va_P g.1 vwCl [(y2, ai g 6 T2), (t1, ai g 7 f2), (t2, ai g 63 fl2), (tr, .inr (7, [.int (nI t), .ref t1, .ref t2])), (l2, ai g 72 G2_11), (l3, ai g 72 G3_12), (l4, ai g 648 G4), (sy, .inr (6, [.ref y1, .ref y2, .ref y3, .ref lw, .int c2, .ref tr])), (y1, ai g 168 T1), (y3, ai g 24 T3_18), (sk, .inr (5, [.int (nI z), .int (nI t), .ref s1, .ref s2, .ref s3])), (s1, ai g 6 K), (s2, ai g 6 L), (s3, ai g 96 V), (lw, .inr (2, [.ref l1, .ref l2, .ref l3, .int k2_8, .int x2_9, .ref l4])), (l1, ai g 72 G1_10)] H := hP
                    have hD : va_D A [(y2, ai g 6 T2), (t1, ai g 7 f2), (t2, ai g 63 fl2), (tr, .inr (7, [.int (nI t), .ref t1, .ref t2])), (l2, ai g 72 G2_11), (l3, ai g 72 G3_12), (l4, ai g 648 G4), (sy, .inr (6, [.ref y1, .ref y2, .ref y3, .ref lw, .int c2, .ref tr])), (y1, ai g 168 T1), (y3, ai g 24 T3_18), (sk, .inr (5, [.int (nI z), .int (nI t), .ref s1, .ref s2, .ref s3])), (s1, ai g 6 K), (s2, ai g 6 L), (s3, ai g 96 V), (lw, .inr (2, [.ref l1, .ref l2, .ref l3, .int k2_8, .int x2_9, .ref l4])), (l1, ai g 72 G1_10)] := hD
                    refine lv_iinc (v := (nI (d + 1))) (lv' := [(2, .int (nI (d + 1))), (0, .ref sy), (1, .ref sk)]) hx hb dX6_renew_94 hl (k := 2) rfl (nI_1 _) (by decide) rfl (fun ls hl => ?_)
                    refine lv_goto (tgt := 80) hx hb dX6_renew_97 (by decide) ?_
                    exact ih80 (d + 1) _ (by omega) (SDs_s hD3 h1_19 h2_20) (by omega) _ _ _ (hP.sub [7, 8, 0, 9, 10, 11, 12, 13, 1, 2, 3, 14, 15, 4, 5, 6] rfl) (hD.sub [7, 8, 0, 9, 10, 11, 12, 13, 1, 2, 3, 14, 15, 4, 5, 6] (by decide) rfl) hS (lv_sub hl [1, 2, 0] rfl)
              exact loop80 _ 0 S3 (Nat.zero_le z) SDs_0 (Nat.lt_succ_self _) _ _ _ hP hD hS (lv_sub hl [1, 2, 0] rfl)
            · skip
              have hb9 := lt_of_nle (k := z) (n := b) (by omega) (by omega) c52_6
              have ht := hzt (by omega)
              refine lv_aload_n hx hb dX6_renew_55 rfl (lv_at hl 0 rfl) ?_
              refine lv_aload_n hx hb dX6_renew_56 rfl (lv_at hl 1 rfl) ?_
              refine lv_iload_n hx hb dX6_renew_57 rfl (lv_at hl 2 rfl) ?_
              refine k_cv (wr := [(y2, ai g 6 T2), (y3, ai g 24 S3), (t1, ai g 7 f2), (t2, ai g 63 fl2), (l1, ai g 72 F1), (l2, ai g 72 F2), (l3, ai g 72 F3), (tr, .inr (7, [.int (nI t), .ref t1, .ref t2]))]) hP hD hS hA [0, 1, 4, 5, 6, 7, 14, 15] [2, 3, 8, 9, 10, 11, 12, 13] rfl rfl (by decide) (by decide) (va_runV (As := [.ref sk, .int (nI b)]) (rest := []) ⟨hx, hb, hml, hown, hts⟩ (c_X6_weigh_f l g sy y1 y2 y3 lw tr c2 T1 sk s1 s2 s3 z t K L V l1 l2 l3 l4 kn xo G4 ka nl Ac b (by first | assumption | omega) (by first | assumption | omega) (by first | assumption | omega) (by first | assumption | omega) (by first | assumption | omega) hS9 H.size) (cwV 2 hts gX6_renew_X6_weigh rfl rfl rfl (by decide +kernel) ⟨Nat.le_of_ble_eq_true rfl, Nat.le_of_ble_eq_true rfl⟩) (k_preV hE hZ hP hD hS hA [0, 1, 4, 5, 6, 7, 14, 15] rfl (by decide) (va_recv hE.1 hP (ci := 6) (q0 := 0) rfl rfl)) rfl rfl hl.1 rfl (lv_room (Nat.le_of_ble_eq_true rfl)) dX6_renew_58 ⟨Nat.le_of_ble_eq_true rfl, Nat.le_of_ble_eq_true rfl⟩) (fun w1 H locs hw hP hD hS => ?_)
              obtain ⟨G4_22, rfl, hG_23⟩ := hw
              have hP : va_P g.1 vwCl [(y2, ai g 6 T2), (y3, ai g 24 S3), (t1, ai g 7 f2), (t2, ai g 63 fl2), (l1, ai g 72 F1), (l2, ai g 72 F2), (l3, ai g 72 F3), (tr, .inr (7, [.int (nI t), .ref t1, .ref t2])), (sy, .inr (6, [.ref y1, .ref y2, .ref y3, .ref lw, .int c2, .ref tr])), (y1, ai g 168 T1), (sk, .inr (5, [.int (nI z), .int (nI t), .ref s1, .ref s2, .ref s3])), (s1, ai g 6 K), (s2, ai g 6 L), (s3, ai g 96 V), (lw, .inr (2, [.ref l1, .ref l2, .ref l3, .int kn, .int xo, .ref l4])), (l4, ai g 648 G4_22)] H := hP
              have hD : va_D A [(y2, ai g 6 T2), (y3, ai g 24 S3), (t1, ai g 7 f2), (t2, ai g 63 fl2), (l1, ai g 72 F1), (l2, ai g 72 F2), (l3, ai g 72 F3), (tr, .inr (7, [.int (nI t), .ref t1, .ref t2])), (sy, .inr (6, [.ref y1, .ref y2, .ref y3, .ref lw, .int c2, .ref tr])), (y1, ai g 168 T1), (sk, .inr (5, [.int (nI z), .int (nI t), .ref s1, .ref s2, .ref s3])), (s1, ai g 6 K), (s2, ai g 6 L), (s3, ai g 96 V), (lw, .inr (2, [.ref l1, .ref l2, .ref l3, .int kn, .int xo, .ref l4])), (l4, ai g 648 G4_22)] := hD
              refine lv_iinc (v := (nI (b + 1))) (lv' := [(2, .int (nI (b + 1))), (0, .ref sy), (1, .ref sk)]) hx hb dX6_renew_61 hl (k := 2) rfl (nI_1 _) (by decide) rfl (fun ls hl => ?_)
              refine lv_goto (tgt := 47) hx hb dX6_renew_64 (by decide) ?_
              exact ih47 (b + 1) _ (by omega) (fun j hj => by rw [hG_23 j hj, hW j hj]; rfl) (by omega) _ _ _ (hP.sub [8, 9, 0, 1, 10, 11, 12, 13, 2, 3, 4, 5, 6, 7, 14, 15] rfl) (hD.sub [8, 9, 0, 1, 10, 11, 12, 13, 2, 3, 4, 5, 6, 7, 14, 15] (by decide) rfl) hS (lv_sub hl [1, 2, 0] rfl)
        exact loop47 _ 0 _ (Nat.zero_le z) hG_5 (Nat.lt_succ_self _) _ _ _ hP hD hS (lv_sub hl [1, 2, 0] rfl)
      · skip
        have ha9 := lt_of_nle (k := z) (n := a) (by omega) (by omega) c23_2
        have ht := hzt (by omega)
        refine lv_aload_n hx hb dX6_renew_26 rfl (lv_at hl 0 rfl) ?_
        refine lv_aload_n hx hb dX6_renew_27 rfl (lv_at hl 1 rfl) ?_
        refine lv_iload_n hx hb dX6_renew_28 rfl (lv_at hl 2 rfl) ?_
        refine k_cv (wr := [(lw, .inr (2, [.ref l1, .ref l2, .ref l3, .int kn, .int xo, .ref l4])), (l1, ai g 72 F1), (l2, ai g 72 F2), (l3, ai g 72 F3), (l4, ai g 648 F4)]) hP hD hS hA [0, 1, 2, 3, 4, 5, 6, 7, 15, 8, 9] [10, 11, 12, 13, 14] rfl rfl (by decide) (by decide) (va_runV (As := [.ref sk, .int (nI a)]) (rest := []) ⟨hx, hb, hml, hown, hts⟩ (c_X6_rebuild_f l g sy y1 y2 y3 lw tr c2 T1 T2 S3 sk s1 s2 s3 z t K L V t1 t2 f2 fl2 ka nl Ac a (by first | assumption | omega) (by first | assumption | omega) (by first | assumption | omega) (by first | assumption | omega) (by first | assumption | omega) H.size) (cwV 2 hts gX6_renew_X6_rebuild rfl rfl rfl (by decide +kernel) ⟨Nat.le_of_ble_eq_true rfl, Nat.le_of_ble_eq_true rfl⟩) (k_preV hE hZ hP hD hS hA [0, 1, 2, 3, 4, 5, 6, 7, 15, 8, 9] rfl (by decide) (va_recv hE.1 hP (ci := 6) (q0 := 0) rfl rfl)) rfl rfl hl.1 rfl (lv_room (Nat.le_of_ble_eq_true rfl)) dX6_renew_29 ⟨Nat.le_of_ble_eq_true rfl, Nat.le_of_ble_eq_true rfl⟩) (fun w1 H locs hw hP hD hS => ?_)
        obtain ⟨c2_25, T1_26, T2_27, f2_28, fl2_29, rfl, h1_30, h2_31, h3_32, h4_33⟩ := hw
        have hP : va_P g.1 vwCl [(lw, .inr (2, [.ref l1, .ref l2, .ref l3, .int kn, .int xo, .ref l4])), (l1, ai g 72 F1), (l2, ai g 72 F2), (l3, ai g 72 F3), (l4, ai g 648 F4), (sy, .inr (6, [.ref y1, .ref y2, .ref y3, .ref lw, .int c2_25, .ref tr])), (y1, ai g 168 T1_26), (y2, ai g 6 T2_27), (y3, ai g 24 S3), (sk, .inr (5, [.int (nI z), .int (nI t), .ref s1, .ref s2, .ref s3])), (s1, ai g 6 K), (s2, ai g 6 L), (s3, ai g 96 V), (tr, .inr (7, [.int (nI t), .ref t1, .ref t2])), (t1, ai g 7 f2_28), (t2, ai g 63 fl2_29)] H := hP
        have hD : va_D A [(lw, .inr (2, [.ref l1, .ref l2, .ref l3, .int kn, .int xo, .ref l4])), (l1, ai g 72 F1), (l2, ai g 72 F2), (l3, ai g 72 F3), (l4, ai g 648 F4), (sy, .inr (6, [.ref y1, .ref y2, .ref y3, .ref lw, .int c2_25, .ref tr])), (y1, ai g 168 T1_26), (y2, ai g 6 T2_27), (y3, ai g 24 S3), (sk, .inr (5, [.int (nI z), .int (nI t), .ref s1, .ref s2, .ref s3])), (s1, ai g 6 K), (s2, ai g 6 L), (s3, ai g 96 V), (tr, .inr (7, [.int (nI t), .ref t1, .ref t2])), (t1, ai g 7 f2_28), (t2, ai g 63 fl2_29)] := hD
        refine lv_iinc (v := (nI (a + 1))) (lv' := [(2, .int (nI (a + 1))), (0, .ref sy), (1, .ref sk)]) hx hb dX6_renew_32 hl (k := 2) rfl (nI_1 _) (by decide) rfl (fun ls hl => ?_)
        refine lv_goto (tgt := 18) hx hb dX6_renew_35 (by decide) ?_
        exact ih18 (a + 1) _ _ _ _ _ (by omega) (SDa_s ht4 (fun k hk => (hp k (by omega)).2.1.2) hA1 h1_30 h2_31) (chk_s (c := chK t ka nl Ac) hA2 h3_32) (by rw [h4_33, ec]; rfl) (by omega) _ _ _ (hP.sub [5, 6, 7, 8, 9, 10, 11, 12, 14, 15, 0, 1, 2, 3, 4, 13] rfl) (hD.sub [5, 6, 7, 8, 9, 10, 11, 12, 14, 15, 0, 1, 2, 3, 4, 13] (by decide) rfl) hS (lv_sub hl [1, 2, 0] rfl)
  exact loop18 _ 0 0 S1 S2 f fl (Nat.zero_le z) SDa_0 (fun k h9 => absurd h9 (Nat.not_lt_zero k)) rfl (Nat.lt_succ_self _) _ _ _ hP hD hS (lv_sub hl [1, 2, 0] rfl)

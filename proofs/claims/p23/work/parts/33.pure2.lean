/-! pure words of the reference: the same, told otherwise -/
theorem lg_lt (x y : Int64) : lg_cmp x y < 0 ↔ x < y := by
  unfold lg_cmp
  by_cases h1 : x > y
  · rw [if_pos h1]
    exact ⟨fun h => absurd h (by decide), fun h => absurd h (Int64.not_lt.mpr (Int64.le_of_lt h1))⟩
  · rw [if_neg h1]
    by_cases h2 : x = y
    · rw [if_pos h2, h2]
      exact ⟨fun h => absurd h (by decide), fun h => (Int64.lt_irrefl h).elim⟩
    · rw [if_neg h2]
      exact ⟨fun _ => Int64.lt_of_le_of_ne (Int64.not_lt.mp h1) h2, fun _ => by decide⟩
theorem lg_gt (x y : Int64) : 0 < lg_cmp x y ↔ y < x := by
  unfold lg_cmp
  by_cases h1 : x > y
  · rw [if_pos h1]
    exact ⟨fun _ => h1, fun _ => by decide⟩
  · rw [if_neg h1]
    refine ⟨fun h => ?_, fun h => absurd h h1⟩
    by_cases h2 : x = y
    · rw [if_pos h2] at h; exact absurd h (by decide)
    · rw [if_neg h2] at h; exact absurd h (by decide)
def inL (v a b : Int64) : Int32 := if v < a ∨ b < v then 0 else 1
theorem inL_nar (v a b : Int64) : narrow .boolean (.int (inL v a b)) = .int (inL v a b) := by
  unfold inL
  split <;> rfl
theorem in_ne {x a b : Int32} (h : ¬ inL x.toInt64 a.toInt64 b.toInt64 = 0) : ¬ x < a ∧ ¬ b < x := by
  unfold inL at h
  refine ⟨fun q => h ?_, fun q => h ?_⟩
  · rw [if_pos (Or.inl ((fa_wide_lt _ _).mpr q))]
  · rw [if_pos (Or.inr ((fa_wide_lt _ _).mpr q))]
theorem in_eq {x a b : Int32} (h : inL x.toInt64 a.toInt64 b.toInt64 = 0) : x < a ∨ b < x := by
  unfold inL at h
  by_cases q : x.toInt64 < a.toInt64 ∨ b.toInt64 < x.toInt64
  · exact q.imp (fa_wide_lt _ _).mp (fa_wide_lt _ _).mp
  · rw [if_neg q] at h; exact absurd h (by decide)
theorem lt3_iff (x : Int32) : 2 < x ↔ ¬ x < 3 := by
  rw [fa_lt, fa_lt, show (2 : Int32).toInt = 2 from rfl, show (3 : Int32).toInt = 3 from rfl]
  omega
def cmo (x y : Int32) : Int32 := if x = y then 0 else if x = 0 ∨ y = 0 then 3 else if inL x.toInt64 1 3 = inL y.toInt64 1 3 then 1 else 2
set_option maxRecDepth 20000 in
theorem cm_cs : ∀ i, i < 9 → ∀ j, j < 9 → cmo (nI i) (nI j) = cs j i := by decide +kernel
def ml (f : Nat → Int32) : Nat → Int32
  | 0 => 9999
  | k + 1 => if f k < ml f k then f k else ml f k
def ams (f : Nat → Int32) : Nat → Nat
  | 0 => 0
  | k + 1 => if f k < ml f k then k else ams f k
theorem ml_t {f : Nat → Int32} {k : Nat} (h : f k < ml f k) : ml f (k + 1) = f k := by simp only [ml, if_pos h]
theorem ml_f {f : Nat → Int32} {k : Nat} (h : ¬ f k < ml f k) : ml f (k + 1) = ml f k := by simp only [ml, if_neg h]
theorem ams_t {f : Nat → Int32} {k : Nat} (h : f k < ml f k) : ams f (k + 1) = k := by simp only [ams, if_pos h]
theorem ams_f {f : Nat → Int32} {k : Nat} (h : ¬ f k < ml f k) : ams f (k + 1) = ams f k := by simp only [ams, if_neg h]
theorem ml_congr {f h : Nat → Int32} : ∀ k, (∀ t, t < k → f t = h t) → ml f k = ml h k
  | 0, _ => rfl
  | k + 1, hh => by
    have e := ml_congr k (fun t ht => hh t (Nat.lt_succ_of_lt ht))
    simp only [ml, e, hh k (Nat.lt_succ_self k)]
theorem ams_congr {f h : Nat → Int32} : ∀ k, (∀ t, t < k → f t = h t) → ams f k = ams h k
  | 0, _ => rfl
  | k + 1, hh => by
    have e := ams_congr k (fun t ht => hh t (Nat.lt_succ_of_lt ht))
    have e2 := ml_congr k (fun t ht => hh t (Nat.lt_succ_of_lt ht))
    simp only [ams, e, e2, hh k (Nat.lt_succ_self k)]
theorem ml_1 {f : Nat → Int32} (h : f 0 < 9999) : ml f 1 = f 0 := ml_t (k := 0) h
theorem ml_mn {f : Nat → Int32} (h : f 0 < 9999) : ∀ k, ml f (k + 1) = mn f k
  | 0 => ml_1 h
  | k + 1 => by
    have e := ml_mn h k
    show (if f (k + 1) < ml f (k + 1) then f (k + 1) else ml f (k + 1)) = _
    rw [e]
    rfl
theorem ams_am {f : Nat → Int32} (h : f 0 < 9999) : ∀ k, ams f (k + 1) = am f k ∧ ml f (k + 1) = f (am f k)
  | 0 => ⟨ams_t (k := 0) h, ml_1 h⟩
  | k + 1 => by
    obtain ⟨e1, e2⟩ := ams_am h k
    by_cases q : f (k + 1) < f (am f k)
    · rw [am_t q]
      exact ⟨ams_t (by rw [e2]; exact q), ml_t (by rw [e2]; exact q)⟩
    · rw [am_f q]
      exact ⟨(ams_f (by rw [e2]; exact q)).trans e1, (ml_f (by rw [e2]; exact q)).trans e2⟩
def lf (a s : Nat) : Int32 := if s = a then 0 else 999
set_option maxRecDepth 20000 in
theorem leaf_ml : ∀ a, a < 9 → ∀ b, b < 9 → ml (fun s => lf a s + cmo (nI s) (nI b)) 9 = cs b a := by decide +kernel
set_option maxRecDepth 20000 in
theorem n4_small : ∀ a, a < 9 → ∀ b, b < 9 → ∀ d, d < 9 → n4 a b 0 + cmo (nI 0) (nI d) < 9999 := by decide +kernel
set_option maxRecDepth 20000 in
theorem xm_small : ∀ a, a < 9 → ∀ b, b < 9 → (xm a b 0).toNatClampNeg < 10 ∧ xm a b 0 = nI (xm a b 0).toNatClampNeg := by decide +kernel
theorem xm_ml {a b d : Nat} (ha : a < 9) (hb : b < 9) (hd : d < 9) : ml (fun s => n4 a b s + cmo (nI s) (nI d)) 9 = xm a b d :=
  (ml_mn (f := fun s => n4 a b s + cmo (nI s) (nI d)) (n4_small a ha b hb d hd) 8).trans (mn_congr 8 (fun t ht => by
    show n4 a b t + cmo (nI t) (nI d) = cs d t + n4 a b t
    rw [cm_cs t (by omega) d hd, Int32.add_comm]))
theorem n6_small {a b c d : Nat} (ha : a < 9) (hb : b < 9) (hc : c < 9) (hd : d < 9) : n6 a b c d 0 < 9999 := by
  obtain ⟨h1, h2⟩ := xm_small a ha b hb
  obtain ⟨h3, h4⟩ := xm_small c hc d hd
  unfold n6
  rw [h2, h4, nI_add]
  exact nI_lt (b := 9999) (by omega) (by decide)
theorem rt_ams {a b c d : Nat} {F : Nat → Int32} (ha : a < 9) (hb : b < 9) (hc : c < 9) (hd : d < 9) (hF : ∀ t, t < 9 → F t = n6 a b c d t) : ams F 9 = rt a b c d :=
  (ams_congr 9 hF).trans (ams_am (n6_small ha hb hc hd) 8).1
def Mp (a b c d k : Nat) : Int32 := if k < 9 then lf a k else if k < 18 then lf b (k - 9) else if k < 27 then lf c (k - 18) else if k < 36 then lf d (k - 27) else Sp a b c d k
theorem Mp0 {a b c d t : Nat} (h : t < 9) : Mp a b c d (0 + t) = lf a t := by
  unfold Mp
  rw [if_pos (by omega), Nat.zero_add]
theorem Mp1 {a b c d t : Nat} (h : t < 9) : Mp a b c d (9 + t) = lf b t := by
  unfold Mp
  rw [if_neg (by omega), if_pos (by omega), show 9 + t - 9 = t by omega]
theorem Mp2 {a b c d t : Nat} (h : t < 9) : Mp a b c d (18 + t) = lf c t := by
  unfold Mp
  rw [if_neg (by omega), if_neg (by omega), if_pos (by omega), show 18 + t - 18 = t by omega]
theorem Mp3 {a b c d t : Nat} (h : t < 9) : Mp a b c d (27 + t) = lf d t := by
  unfold Mp
  rw [if_neg (by omega), if_neg (by omega), if_neg (by omega), if_pos (by omega), show 27 + t - 27 = t by omega]
theorem MpS {a b c d k : Nat} (h : 36 ≤ k) : Mp a b c d k = Sp a b c d k := by
  unfold Mp
  rw [if_neg (by omega), if_neg (by omega), if_neg (by omega), if_neg (by omega)]
theorem lf_t {a s : Nat} (h : s = a) : lf a s = 0 := if_pos h
theorem lf_f {a s : Nat} (h : ¬ s = a) : lf a s = 999 := if_neg h
theorem fa0 (x : Int32) : x + 0 = x := Int32.add_zero x
def isS (p : Int32) : Int32 := if p < 0 ∨ ¬ p < 9 then 0 else 1
def rLet (p : Int32) : Int32 := if p < 1 ∨ 126 < p then (-102) else 1
def rC (p q : Int32) : Int32 := if (p < 0 ∨ ¬ p < 9) ∨ (q < 0 ∨ ¬ q < 9) then (-101) else cs p.toNatClampNeg q.toNatClampNeg
def rN (p : Int32) : Int32 := if p < 0 ∨ ¬ p < 10 then (-102) else 0
def hsh : Nat → Int64
  | 0 => 1459
  | n + 1 => 31 * hsh n + (0 : Int32).toInt64
theorem in_m1 (x : Int32) : inL x.toInt64 0 ((-1) : Int32).toInt64 = 0 := by
  by_cases h : inL x.toInt64 0 ((-1) : Int32).toInt64 = 0
  · exact h
  · obtain ⟨h1, h2⟩ := in_ne (x := x) (a := 0) (b := -1) h
    rw [fa_lt] at h1 h2
    rw [show (0 : Int32).toInt = 0 from rfl] at h1
    rw [show ((-1) : Int32).toInt = -1 from rfl] at h2
    omega
theorem isS_nar (p : Int32) : narrow .boolean (.int (isS p)) = .int (isS p) := by
  unfold isS
  split <;> rfl
theorem isS_of {p : Int32} (h : ¬ isS p = 0) : ∃ i, i < 9 ∧ p = nI i := by
  have h1 : ¬ (p < 0 ∨ ¬ p < 9) := fun q => h (by unfold isS; rw [if_pos q])
  obtain ⟨i, hi, rfl⟩ := nI_of (x := p) (fun q => h1 (Or.inl q))
  exact ⟨i, (nI_ltI hi (by decide)).mp (Decidable.of_not_not (fun q => h1 (Or.inr q))), rfl⟩
theorem isS_0 {p : Int32} (h : isS p = 0) : p < 0 ∨ ¬ p < 9 := by
  by_cases q : p < 0 ∨ ¬ p < 9
  · exact q
  · unfold isS at h; rw [if_neg q] at h; exact absurd h (by decide)
theorem lt9_iff (x : Int32) : 8 < x ↔ ¬ x < 9 := by
  rw [fa_lt, fa_lt, show (8 : Int32).toInt = 8 from rfl, show (9 : Int32).toInt = 9 from rfl]
  omega
theorem rC_nI {i j : Nat} (hi : i < 9) (hj : j < 9) : rC (nI i) (nI j) = cs i j := by
  unfold rC
  rw [if_neg (fun h => h.elim (fun h => h.elim (nI_pos (by omega)) (fun q => q (nI_lt (b := 9) hi (by decide)))) (fun h => h.elim (nI_pos (by omega)) (fun q => q (nI_lt (b := 9) hj (by decide))))), nI_clamp (by omega), nI_clamp (by omega)]
theorem cm_sym : ∀ i, i < 9 → ∀ j, j < 9 → cs j i = cs i j := by decide +kernel

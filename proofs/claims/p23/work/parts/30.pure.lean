/-! pure words: what is rebuilt of four sounds, and the draws -/
/- pasted out of kit/laws (BITS: masks; NUMBERS: order of ints) -/
theorem u_tn {n : Nat} (h : n < 2 ^ 64) : (UInt64.ofNat n).toNat = n := Nat.mod_eq_of_lt h
theorem g_and {a b c : Nat} (ha : a < 2 ^ 64) (hb : b < 2 ^ 64) (hc : a &&& b = c) : lN a &&& lN b = lN c := by
  subst hc
  have h : UInt64.ofNat a &&& UInt64.ofNat b = UInt64.ofNat (a &&& b) := UInt64.toNat_inj.mp (by rw [UInt64.toNat_and, u_tn ha, u_tn hb, u_tn (Nat.and_lt_two_pow a hb)])
  have h2 := congrArg UInt64.toInt64 h
  exact h2
theorem g_and1 {a : Nat} (ha : a < 2 ^ 64) : lN a &&& 1 = lN (a % 2) := g_and (b := 1) ha (by decide) (Nat.and_two_pow_sub_one_eq_mod a 1)
theorem g_mask {a s p : Nat} (hp : 2 ^ s = p) (hs : s < 64) (ha : a < 2 ^ 64) : lN a &&& lN (p - 1) = lN (a % p) := by
  subst hp
  have := Nat.pow_lt_pow_right (show 1 < 2 by decide) hs
  exact g_and ha (by omega) (Nat.and_two_pow_sub_one_eq_mod a s)
theorem fa_lt (a b : Int32) : a < b ↔ a.toInt < b.toInt := Int32.lt_iff_toInt_lt
theorem fa_le (a b : Int32) : a ≤ b ↔ a.toInt ≤ b.toInt := Int32.le_iff_toInt_le
theorem fa_eq (a b : Int32) : a = b ↔ a.toInt = b.toInt := Int32.toInt_inj.symm
theorem fa_lt64 (a b : Int64) : a < b ↔ a.toInt < b.toInt := Int64.lt_iff_toInt_lt
theorem fa_le64 (a b : Int64) : a ≤ b ↔ a.toInt ≤ b.toInt := Int64.le_iff_toInt_le
theorem fa_eq64 (a b : Int64) : a = b ↔ a.toInt = b.toInt := Int64.toInt_inj.symm
/-- a comparison of two ints taken as longs -/
theorem fa_wide_lt (a b : Int32) : a.toInt64 < b.toInt64 ↔ a < b := by rw [fa_lt64, fa_lt, Int32.toInt_toInt64, Int32.toInt_toInt64]
theorem fa_wide_le (a b : Int32) : a.toInt64 ≤ b.toInt64 ↔ a ≤ b := by rw [fa_le64, fa_le, Int32.toInt_toInt64, Int32.toInt_toInt64]
theorem fa_wide_eq (a b : Int32) : a.toInt64 = b.toInt64 ↔ a = b := by rw [fa_eq64, fa_eq, Int32.toInt_toInt64, Int32.toInt_toInt64]
def cs (i j : Nat) : Int32 := tb_COSTS.getD (9 * i + j) 0
def mn (f : Nat → Int32) : Nat → Int32
  | 0 => f 0
  | k + 1 => if f (k + 1) < mn f k then f (k + 1) else mn f k
def am (f : Nat → Int32) : Nat → Nat
  | 0 => 0
  | k + 1 => if f (k + 1) < f (am f k) then k + 1 else am f k
theorem am_le (f : Nat → Int32) : ∀ k, am f k ≤ k
  | 0 => Nat.le_refl 0
  | k + 1 => by
    unfold am
    split
    · exact Nat.le_refl _
    · exact Nat.le_succ_of_le (am_le f k)
theorem mn_congr {f h : Nat → Int32} : ∀ k, (∀ t, t ≤ k → f t = h t) → mn f k = mn h k
  | 0, hh => hh 0 (Nat.le_refl 0)
  | k + 1, hh => by
    have e := mn_congr k (fun t ht => hh t (Nat.le_succ_of_le ht))
    simp only [mn, e, hh (k + 1) (Nat.le_refl _)]
theorem mn_t {f : Nat → Int32} {k : Nat} (h : f (k + 1) < mn f k) : mn f (k + 1) = f (k + 1) := by simp only [mn, if_pos h]
theorem mn_f {f : Nat → Int32} {k : Nat} (h : ¬ f (k + 1) < mn f k) : mn f (k + 1) = mn f k := by simp only [mn, if_neg h]
theorem am_t {f : Nat → Int32} {k : Nat} (h : f (k + 1) < f (am f k)) : am f (k + 1) = k + 1 := by simp only [am, if_pos h]
theorem am_f {f : Nat → Int32} {k : Nat} (h : ¬ f (k + 1) < f (am f k)) : am f (k + 1) = am f k := by simp only [am, if_neg h]
theorem i_nle {x y : Int32} (h : ¬ y ≤ x) : x < y := Int32.not_le.mp h
theorem i_nlt {x y : Int32} (h : y ≤ x) : ¬ x < y := Int32.not_lt.mpr h
theorem lt_of_nle {k n : Nat} (hk : k < 2 ^ 31) (hn : n < 2 ^ 31) (h : ¬ nI k ≤ nI n) : n < k := Nat.not_le.mp (fun q => h ((nI_leI hk hn).mpr q))
theorem ge_of_le {k n : Nat} (hk : k < 2 ^ 31) (hn : n < 2 ^ 31) (h : nI k ≤ nI n) : k ≤ n := (nI_leI hk hn).mp h
def n4 (a b s : Nat) : Int32 := cs s a + cs s b
def xm (a b s : Nat) : Int32 := mn (fun t => cs s t + n4 a b t) 8
def n6 (a b c d s : Nat) : Int32 := xm a b s + xm c d s
def Sp (a b c d k : Nat) : Int32 := if k < 45 then n4 a b (k - 36) else if k < 54 then n4 c d (k - 45) else n6 a b c d (k - 54)
theorem Sp4 {a b c d t : Nat} (h : t < 9) : Sp a b c d (36 + t) = n4 a b t := by
  unfold Sp
  rw [if_pos (by omega), show 36 + t - 36 = t by omega]
theorem Sp5 {a b c d t : Nat} (h : t < 9) : Sp a b c d (45 + t) = n4 c d t := by
  unfold Sp
  rw [if_neg (by omega), if_pos (by omega), show 45 + t - 45 = t by omega]
theorem Sp6 {a b c d t : Nat} : Sp a b c d (54 + t) = n6 a b c d t := by
  unfold Sp
  rw [if_neg (by omega), if_neg (by omega), show 54 + t - 54 = t by omega]
def rt (a b c d : Nat) : Nat := am (n6 a b c d) 8
def ch (a b c d : Nat) : Int32 := n6 a b c d (rt a b c d)
def fo (a b c d : Nat) : Int32 := if a = rt a b c d ∨ b = rt a b c d ∨ c = rt a b c d ∨ d = rt a b c d then 0 else 1
theorem fo_1 {a b c d : Nat} (h : ¬ fo a b c d = 0) : fo a b c d = 1 := by
  unfold fo at h ⊢
  split
  · rename_i hq
    rw [if_pos hq] at h
    exact absurd rfl h
  · rfl
def nx (k : Nat) : Nat := (1103515245 * k + 12345) % 2147483648
def so (k : Nat) : Nat := k / 65536 % 9
theorem nx_lt (k : Nat) : nx k < 2147483648 := Nat.mod_lt _ (by decide)
theorem so_lt (k : Nat) : so k < 9 := Nat.mod_lt _ (by decide)
def chk (k : Nat) : Int32 := ch (so (nx k)) (so (nx (nx k))) (so (nx (nx (nx k)))) (so (nx (nx (nx (nx k)))))
def fok (k : Nat) : Int32 := fo (so (nx k)) (so (nx (nx k))) (so (nx (nx (nx k)))) (so (nx (nx (nx (nx k)))))
def drS (k : Nat) : Nat → Nat
  | 0 => k
  | i + 1 => nx (nx (nx (nx (drS k i))))
def drC (k : Nat) : Nat → Int32
  | 0 => 0
  | i + 1 => drC k i + chk (drS k i)
def drF (k : Nat) : Nat → Int32
  | 0 => 0
  | i + 1 => drF k i + fok (drS k i)
theorem drS_lt {k : Nat} (h : k < 2147483648) : ∀ i, drS k i < 2147483648
  | 0 => h
  | _ + 1 => nx_lt _
theorem nx_mul {k : Nat} (h : k < 2147483648) : (1103515245 : Int64) * (nI k : Int32).toInt64 + 12345 = lN (1103515245 * k + 12345) := by
  rw [nI_l (show k < 2 ^ 31 by omega), show (1103515245 : Int64) = lN 1103515245 from rfl, lN_mul, show (12345 : Int64) = lN 12345 from rfl, lN_add]
theorem nx_int {k : Nat} (h : k < 2147483648) : (((1103515245 * (nI k : Int32).toInt64) + 12345) - ((1103515245 * (nI k : Int32).toInt64) + 12345) / 2147483648 * 2147483648 : Int64).toInt32 = nI (nx k) := by
  rw [nx_mul h, show (2147483648 : Int64) = lN 2147483648 from rfl, pk_lRem (by omega) (by omega) (by omega), lN_i]
  rfl
theorem nx_int2 {k : Nat} (h : k < 2147483648) : (((1103515245 * (nI k : Int32).toInt64) + 12345) &&& 2147483647 : Int64).toInt32 = nI (nx k) := by
  rw [nx_mul h, show (2147483647 : Int64) = lN (2147483648 - 1) from rfl, g_mask (s := 31) (by decide) (by decide) (by omega), lN_i]
  rfl
theorem so_div {j : Nat} (h : j < 2147483648) : nI j / 65536 = nI (j / 65536) := pk_div (by omega) (by decide) (by decide)
theorem so_rem {j : Nat} (h : j < 2147483648) : nI (j / 65536) - nI (j / 65536) / 9 * 9 = nI (so j) := pk_rem (by omega) (by decide) (by decide)
def fz (f : Nat → Int32) (o : Int32) : Int32 := if f 0 = o ∨ f 1 = o ∨ f 2 = o ∨ f 3 = o then 0 else 1
theorem fz_fo {F : Nat → Int32} {a b c d : Nat} (h0 : F 0 = nI a) (h1 : F 1 = nI b) (h2 : F 2 = nI c) (h3 : F 3 = nI d) (ha : a < 9) (hb : b < 9) (hc : c < 9) (hd : d < 9) : fz F (nI (rt a b c d)) = fo a b c d := by
  have hr : rt a b c d ≤ 8 := am_le _ 8
  have e0 : nI a = nI (rt a b c d) ↔ a = rt a b c d := nI_eq (by omega) (by omega)
  have e1 : nI b = nI (rt a b c d) ↔ b = rt a b c d := nI_eq (by omega) (by omega)
  have e2 : nI c = nI (rt a b c d) ↔ c = rt a b c d := nI_eq (by omega) (by omega)
  have e3 : nI d = nI (rt a b c d) ↔ d = rt a b c d := nI_eq (by omega) (by omega)
  unfold fz fo
  simp only [h0, h1, h2, h3, e0, e1, e2, e3]
def rD (p1 p2 p3 : Int32) : Int32 := if p1 < 1 ∨ 40 < p1 ∨ p2 < 0 ∨ p3 < 0 ∨ ¬ p3 < 3 then (-102) else if p3 = 0 then drC p2.toNatClampNeg p1.toNatClampNeg else if p3 = 1 then drF p2.toNatClampNeg p1.toNatClampNeg else nI (drS p2.toNatClampNeg p1.toNatClampNeg)

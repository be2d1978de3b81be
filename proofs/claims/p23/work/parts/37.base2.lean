/-! more rows of my own: copying, boolean rows, numbers in a range -/
section KB2
variable {p : Program} {l : Launch} {e : Env} {R : Room} {s : State} {m : MethodId} {args : Array Value} {below : List Frame} {meth : Method} {c : Code} {H : Heap} {locs : List Loc} {cells slots : Nat} {Q : State → Prop} {cc : ByteArray} {pc : Nat} {ls : Array Slot} {rest : List Value} {g : GG} {A : Nat → Prop} {ws : va_W}
theorem k_cpy {a0 a1 n0 n1 : Nat} {f h : Nat → Int32} {sp dp n : Int32} (i j k : Nat) (hi : sp = nI i) (hj : dp = nI j) (hk : n = nI k) (h4 : i + k ≤ n0) (h5 : j + k ≤ n1) (hn0 : n0 < 2 ^ 31) (hn1 : n1 < 2 ^ 31) (hx : p.tables.exec = Jvm.exec) (hb : c.code = cc) (hml : c.maxLocals = ls.size) {own : String} {index : Nat} (hown : s.vm.findClass own = some m.cls) (hlink : (Cond.methodLink own index arraycopyName).before args s = true) (hnat : (Cond.native arraycopyName).before args s = true) (hstat : (Cond.static arraycopyName).before args s = true) (hini : (Cond.initialized "java/lang/System").before args s = true)
    (hE : ek g s) (hP : va_P g.1 vwCl ws H) (hD : va_D A ws) (hS : va_S A s.heap H locs) (q0 q1 : Nat) (ha0 : ws[q0]? = some (a0, ai g n0 f)) (ha1 : ws[q1]? = some (a1, ai g n1 h)) (hframes : 1 ≤ R.frames) (hlocals : (rest.map fun v => v.category).sum + (nativeFrameWords "java/lang/System" "arraycopy" 5 + 11) ≤ R.locals) (hdg : decode cc pc = .ok (.invokestatic index, 3))
    (kk : ∀ (H1 : Heap) (locs1 : List Loc), va_P g.1 vwCl (ws.set q1 (a1, ai g n1 (va_cpy f h i j k))) H1 → va_D A (ws.set q1 (a1, ai g n1 (va_cpy f h i j k))) → va_S A s.heap H1 locs1 → W p l e R s m args below meth c H1 locs1 cells slots Q (F0 m (pc + 3) ls rest)) : W p l e R s m args below meth c H locs cells slots Q (F0 m pc ls (.int n :: .int dp :: .ref a1 :: .int sp :: .ref a0 :: rest)) := by
  subst hi; subst hj; subst hk
  have e1 : (nI i).toNatClampNeg = i := nI_clamp (by omega)
  have e2 : (nI j).toNatClampNeg = j := nI_clamp (by omega)
  have e3 : (nI k).toNatClampNeg = k := nI_clamp (by omega)
  refine va_copyi hx hb hml hown hlink hnat hstat hini hE.1 hP hD hS q0 q1 0 0 (ty := .int) ha0 ha1 rfl rfl rfl (nI_pos (by omega)) (nI_pos (by omega)) (nI_pos (by omega)) (by rw [e1, e3]; exact h4) (by rw [e2, e3]; exact h5) (fun _ _ => rfl) hframes hlocals hdg (fun H1 locs1 h1 h2 h3 => ?_)
  rw [e1, e2, e3] at h1 h2
  exact kk H1 locs1 h1 h2 h3
theorem k_zst {a n : Nat} {f : Nat → Int32} {i x : Int32} (k : Nat) (hi : i = nI k) (hk : k < n) (hx : p.tables.exec = Jvm.exec) (hb : c.code = cc) (hE : ek g s) (hP : va_P g.1 vwCl ws H) (hD : va_D A ws) (hS : va_S A s.heap H locs) (q0 : Nat) (ha : ws[q0]? = some (a, az g n f)) (hn : n < 2 ^ 31) (hdg : decode cc pc = .ok (.bastore, 1)) (kk : ∀ (H1 : Heap) (locs1 : List Loc), va_P g.1 vwCl (ws.set q0 (a, az g n (upd f k (vp_nar .boolean x)))) H1 → va_D A (ws.set q0 (a, az g n (upd f k (vp_nar .boolean x)))) → va_S A s.heap H1 locs1 → W p l e R s m args below meth c H1 locs1 cells slots Q (F0 m (pc + 1) ls rest)) : W p l e R s m args below meth c H locs cells slots Q (F0 m pc ls (.int x :: .int i :: .ref a :: rest)) := by
  subst hi
  refine va_zast hx hb hE.1 hP hD hS q0 1 ha rfl (vp_in_nI hk hn) hdg (fun H1 locs1 h1 h2 h3 => ?_)
  rw [nI_clamp (Nat.lt_trans hk hn)] at h1 h2
  exact kk H1 locs1 h1 h2 h3
theorem k_zld {a n : Nat} {f : Nat → Int32} {i : Int32} (k : Nat) (hi : i = nI k) (hk : k < n) (hx : p.tables.exec = Jvm.exec) (hb : c.code = cc) (hE : ek g s) (hP : va_P g.1 vwCl ws H) (q0 : Nat) (ha : ws[q0]? = some (a, az g n f)) (hn : n < 2 ^ 31) (hdg : decode cc pc = .ok (.baload, 1)) (kk : W p l e R s m args below meth c H locs cells slots Q (F0 m (pc + 1) ls (.int (f k) :: rest))) : W p l e R s m args below meth c H locs cells slots Q (F0 m pc ls (.int i :: .ref a :: rest)) := by
  subst hi
  refine va_zald hx hb hE.1 hP q0 1 ha rfl (vp_in_nI hk hn) hdg ?_
  rw [nI_clamp (Nat.lt_trans hk hn)]
  exact kk
end KB2
def isI (p : Int32) (z : Nat) : Int32 := if p < 0 ∨ ¬ p < nI z then 0 else 1
theorem isI_nar (p : Int32) (z : Nat) : narrow .boolean (.int (isI p z)) = .int (isI p z) := by
  unfold isI
  split <;> rfl
theorem isI_lo {p : Int32} {z : Nat} (h : p < 0) : isI p z = 0 := if_pos (Or.inl h)
theorem isI_hi {p : Int32} {z : Nat} (h : nI z ≤ p) : isI p z = 0 := if_pos (Or.inr (i_nlt h))
theorem isI_in {p : Int32} {z : Nat} (h1 : ¬ p < 0) (h2 : ¬ nI z ≤ p) : isI p z = 1 := if_neg (fun h => h.elim h1 (fun q => q (i_nle h2)))
theorem isI_lt {k z : Nat} (h : k < z) (hz : z < 2 ^ 31) : isI (nI k) z = 1 := isI_in (nI_pos (by omega)) (nI_ge h hz)
theorem isI_of {p : Int32} {z : Nat} (hz : z < 2 ^ 31) (h : ¬ isI p z = 0) : ∃ k, k < z ∧ p = nI k := by
  have h1 : ¬ (p < 0 ∨ ¬ p < nI z) := fun q => h (by unfold isI; rw [if_pos q])
  obtain ⟨i, hi, rfl⟩ := nI_of (x := p) (fun q => h1 (Or.inl q))
  exact ⟨i, (nI_ltI hi hz).mp (Decidable.of_not_not (fun q => h1 (Or.inr q))), rfl⟩
def okd (kind asked : Int32) : Int32 := if asked = 0 ∨ kind = asked ∨ (kind = 2 ∧ asked = 1) then 1 else 0
def rAs (p q : Int32) (z : Nat) (K : Nat → Int32) : Int32 := if isI p z = 0 then (-101) else if isI q 5 = 0 then (-102) else if okd (K p.toNatClampNeg) q = 0 then (-1) else p
def rCh (p q : Int32) (z : Nat) (K : Nat → Int32) : Int32 := if isI p z = 0 then (-101) else if isI q 5 = 0 then (-102) else K p.toNatClampNeg
def cKind (p q : Int32) (z : Nat) (K : Nat → Int32) : Nat → Int32 := if isI p z = 0 then K else if isI q 5 = 0 then K else upd K p.toNatClampNeg q
def rLt (p : Int32) (a : Nat) : Int32 := if p < 1 ∨ 126 < p then (-102) else if a < 110 then nI (a + 1) else (-104)
def nLt (p : Int32) (a : Nat) : Nat := if p < 1 ∨ 126 < p then a else if a < 110 then a + 1 else a
def fLt (p : Int32) (a : Nat) (f : Nat → Int32) : Nat → Int32 := if p < 1 ∨ 126 < p then f else if a < 110 then upd f a p else f
theorem cpy_in {f h : Nat → Int32} {n k : Nat} (hk : k < n) : va_cpy f h 0 0 n k = f k := by
  rw [pk_cpy_in (Nat.zero_le k) (by omega), Nat.zero_add, Nat.sub_zero]
def rng (n b : Nat) (f : Nat → Int32) : Prop := ∀ i, i < n → ∃ v, v < b ∧ f i = nI v
theorem rng_0 {n b : Nat} (hb : 0 < b) : rng n b (fun _ => 0) := fun _ _ => ⟨0, hb, rfl⟩
theorem rng_upd {n b k v : Nat} {f : Nat → Int32} (h : rng n b f) (hv : v < b) : rng n b (upd f k (nI v)) := fun i hi => by
  by_cases q : i = k
  · exact ⟨v, hv, by rw [q, pk_us]⟩
  · obtain ⟨w, h1, h2⟩ := h i hi
    exact ⟨w, h1, by rw [pk_un q, h2]⟩
theorem rng_cpy {n m b i j k : Nat} {f h : Nat → Int32} (hf : rng n b f) (hh : rng m b h) (hik : i + k ≤ n) : rng m b (va_cpy f h i j k) := fun x hx => by
  by_cases q : j ≤ x ∧ x < j + k
  · obtain ⟨w, h1, h2⟩ := hf (i + (x - j)) (by omega)
    exact ⟨w, h1, by rw [pk_cpy_in q.1 q.2, h2]⟩
  · obtain ⟨w, h1, h2⟩ := hh x hx
    exact ⟨w, h1, by rw [pk_cpy_out (by omega), h2]⟩
theorem up_s {C B : Nat → Int32} {j : Nat} {x : Int32} (h : ∀ i, i < j → C i = B i) (hx : x = B j) : ∀ i, i < j + 1 → upd C j x i = B i := fun i hi => by
  by_cases q : i = j
  · rw [q, pk_us]; exact hx
  · rw [pk_un q]; exact h i (by omega)
def rSee (p q : Int32) (z n : Nat) : Int32 := if isI p z = 0 then (-101) else if isI q 4 = 0 then (-102) else if n < 6 then nI (n + 1) else (-104)
def sh (k z i : Nat) : Nat := if i < k then i else if i + 1 < z then i + 1 else i
theorem sh_lt {k z i : Nat} (hz : z ≤ 6) (h : i < 6) : sh k z i < 6 := by
  unfold sh
  split
  · omega
  · split <;> omega
theorem sh_id {k i : Nat} : sh k (k + 1) i = i := by
  unfold sh
  split
  · rfl
  · rw [if_neg (by omega)]
theorem sh_s {k j i : Nat} (hkj : k ≤ j) : sh k (j + 2) i = if i = j then j + 1 else sh k (j + 1) i := by
  unfold sh
  by_cases q : i = j
  · rw [if_pos q, if_neg (by omega), if_pos (by omega), q]
  · rw [if_neg q]
    by_cases r : i < k
    · rw [if_pos r, if_pos r]
    · rw [if_neg r, if_neg r]
      by_cases t : i + 1 < j + 1
      · rw [if_pos (by omega), if_pos t]
      · rw [if_neg (by omega), if_neg t]
theorem sh_top {k j : Nat} : sh k (j + 1) (j + 1) = j + 1 := by
  unfold sh
  split
  · rfl
  · rw [if_neg (by omega)]
theorem sh_upd {K C : Nat → Int32} {k j : Nat} (hkj : k ≤ j) (hj : j + 1 < 6) (h : ∀ i, i < 6 → C i = K (sh k (j + 1) i)) : ∀ i, i < 6 → upd C j (C (j + 1)) i = K (sh k (j + 2) i) := fun i hi => by
  rw [sh_s hkj]
  by_cases q : i = j
  · rw [q, pk_us, if_pos rfl, h (j + 1) hj, sh_top]
  · rw [pk_un q, if_neg q, h i hi]
theorem sh_cpy {V C : Nat → Int32} {k j : Nat} (hkj : k ≤ j) (hj : j + 1 < 6) (h : ∀ i, i < 6 → ∀ x, x < 16 → C (16 * i + x) = V (16 * sh k (j + 1) i + x)) : ∀ i, i < 6 → ∀ x, x < 16 → va_cpy C C (16 * (j + 1)) (16 * j) 16 (16 * i + x) = V (16 * sh k (j + 2) i + x) := fun i hi x hx => by
  rw [sh_s hkj]
  by_cases q : i = j
  · rw [q, pk_cpy_in (by omega) (by omega), if_pos rfl, show 16 * (j + 1) + (16 * j + x - 16 * j) = 16 * (j + 1) + x by omega, h (j + 1) hj x hx, sh_top]
  · rw [pk_cpy_out (by omega), if_neg q, h i hi x hx]
def sil (f : Nat → Int32) (b o : Nat) : Nat → Int32
  | 0 => 1
  | n + 1 => if ¬ n = o ∧ ¬ f (b + n) = 0 then 0 else sil f b o n
theorem sil_0 {f : Nat → Int32} {b o j : Nat} (h1 : ¬ j = o) (h2 : ¬ f (b + j) = 0) : ∀ n, j < n → sil f b o n = 0
  | 0, h => absurd h (Nat.not_lt_zero j)
  | n + 1, h => by
    unfold sil
    by_cases q : n = j
    · rw [if_pos ⟨by rw [q]; exact h1, by rw [q]; exact h2⟩]
    · split
      · rfl
      · exact sil_0 h1 h2 n (by omega)
theorem sil_s {f : Nat → Int32} {b o n : Nat} (h : n = o ∨ f (b + n) = 0) : sil f b o (n + 1) = sil f b o n := if_neg (fun q => h.elim q.1 q.2)
def rCp (p : Int32) (z : Nat) : Int32 := if isI p z = 0 then (-101) else if z < 6 then nI z else (-104)
def rTk (p : Int32) (z : Nat) : Int32 := if isI p z = 0 then (-101) else if z = 1 then (-103) else nI (z - 1)

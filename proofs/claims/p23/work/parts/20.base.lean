abbrev vwCl : List vw_C := [(RX0, TX0, 5), (RX1, TX1, 4), (RX2, TX2, 6), (RX3, TX3, 7), (RX4, TX4, 4), (RX5, TX5, 5), (RX6, TX6, 6), (RX7, TX7, 3), (RX8, TX8, 13), (RX9, TX9, 41)]
/-! my own words: one picture of the tables for all contracts -/
abbrev GG : Type := va_G × ClassId × ClassId × (Nat → Nat)
abbrev tyl (g : GG) : List (ClassId × FieldType) := [(g.2.1, .int), (g.2.2.1, .boolean)]
abbrev ai (g : GG) (n : Nat) (f : Nat → Int32) : va_E := .inl (g.2.1, n, .inl f)
abbrev az (g : GG) (n : Nat) (f : Nat → Int32) : va_E := .inl (g.2.2.1, n, .inl f)
def nw_list : List Cond := [.methodLinkNest RX8 15 yX3_init RX8, .methodLinkNest RX3 11 yX5_init RX8, .methodLinkNest RX8 22 yX5_init RX8, .methodLinkNest RX8 29 yX4_init RX8, .methodLinkNest RX8 36 yX6_init RX8, .methodLinkNest RX6 23 yX2_init RX8, .methodLinkNest RX6 30 yX7_init RX8, .methodLinkNest RX8 49 yX0_init RX8, .methodLinkNest RX8 56 yX1_init RX8, .methodLinkNest RX1 11 yX7_init RX8, .methodLinkNest RX3 84 yX8_wordAt RX8, .fieldLinkNest RX6 87 "SoundLaws" "REBUILDS" "[I" RX8, .methodLinkNest RX6 97 yX8_wordAt RX8, .methodLinkNest RX7 22 yX8_nodesOf RX8, .fieldLinkNest RX7 44 "SoundLaws" "FIRST_PAIR" "[I" RX8, .fieldLinkNest RX7 29 "SoundLaws" "PAIRS" "[I" RX8, .fieldLinkNest RX7 47 "SoundLaws" "COSTS" "[I" RX8, .methodLinkNest RX7 50 yX8_costOf RX8, .methodLinkNest RX6 67 yX8_nodesAt RX8, .fieldLinkNest RX6 113 "SoundLaws" "WEIGHTS" "[I" RX8, .methodLinkNest RX6 71 yX8_nodesOf RX8, .methodLinkNest RX6 120 yX8_aheadAt RX8, .methodLinkNest RX6 123 yX8_lawAt RX8, .fieldLinkNest RX4 52 "SoundLaws" "WEIGHTS" "[I" RX8, .fieldLinkNest RX4 55 "SoundLaws" "REBUILDS" "[I" RX8, .methodLinkNest RX0 32 yX8_costOf RX8, .methodLinkNest RX5 34 yX8_wordAt RX8]
theorem nw_warm {s U : State} (hW : s.WarmedH U.vm) : ∀ w ∈ nw_list, va_Nw w s → va_Nw w U := List.forall_mem_cons.mpr ⟨va_Nw.warmM hW, List.forall_mem_cons.mpr ⟨va_Nw.warmM hW, List.forall_mem_cons.mpr ⟨va_Nw.warmM hW, List.forall_mem_cons.mpr ⟨va_Nw.warmM hW, List.forall_mem_cons.mpr ⟨va_Nw.warmM hW, List.forall_mem_cons.mpr ⟨va_Nw.warmM hW, List.forall_mem_cons.mpr ⟨va_Nw.warmM hW, List.forall_mem_cons.mpr ⟨va_Nw.warmM hW, List.forall_mem_cons.mpr ⟨va_Nw.warmM hW, List.forall_mem_cons.mpr ⟨va_Nw.warmM hW, List.forall_mem_cons.mpr ⟨va_Nw.warmM hW, List.forall_mem_cons.mpr ⟨va_Nw.warmF hW, List.forall_mem_cons.mpr ⟨va_Nw.warmM hW, List.forall_mem_cons.mpr ⟨va_Nw.warmM hW, List.forall_mem_cons.mpr ⟨va_Nw.warmF hW, List.forall_mem_cons.mpr ⟨va_Nw.warmF hW, List.forall_mem_cons.mpr ⟨va_Nw.warmF hW, List.forall_mem_cons.mpr ⟨va_Nw.warmM hW, List.forall_mem_cons.mpr ⟨va_Nw.warmM hW, List.forall_mem_cons.mpr ⟨va_Nw.warmF hW, List.forall_mem_cons.mpr ⟨va_Nw.warmM hW, List.forall_mem_cons.mpr ⟨va_Nw.warmM hW, List.forall_mem_cons.mpr ⟨va_Nw.warmM hW, List.forall_mem_cons.mpr ⟨va_Nw.warmF hW, List.forall_mem_cons.mpr ⟨va_Nw.warmF hW, List.forall_mem_cons.mpr ⟨va_Nw.warmM hW, List.forall_mem_cons.mpr ⟨va_Nw.warmM hW, fun _ h => absurd h List.not_mem_nil⟩⟩⟩⟩⟩⟩⟩⟩⟩⟩⟩⟩⟩⟩⟩⟩⟩⟩⟩⟩⟩⟩⟩⟩⟩⟩⟩
theorem nw_tabs : ∀ w ∈ nw_list, w.onTables = true := List.forall_mem_cons.mpr ⟨rfl, List.forall_mem_cons.mpr ⟨rfl, List.forall_mem_cons.mpr ⟨rfl, List.forall_mem_cons.mpr ⟨rfl, List.forall_mem_cons.mpr ⟨rfl, List.forall_mem_cons.mpr ⟨rfl, List.forall_mem_cons.mpr ⟨rfl, List.forall_mem_cons.mpr ⟨rfl, List.forall_mem_cons.mpr ⟨rfl, List.forall_mem_cons.mpr ⟨rfl, List.forall_mem_cons.mpr ⟨rfl, List.forall_mem_cons.mpr ⟨rfl, List.forall_mem_cons.mpr ⟨rfl, List.forall_mem_cons.mpr ⟨rfl, List.forall_mem_cons.mpr ⟨rfl, List.forall_mem_cons.mpr ⟨rfl, List.forall_mem_cons.mpr ⟨rfl, List.forall_mem_cons.mpr ⟨rfl, List.forall_mem_cons.mpr ⟨rfl, List.forall_mem_cons.mpr ⟨rfl, List.forall_mem_cons.mpr ⟨rfl, List.forall_mem_cons.mpr ⟨rfl, List.forall_mem_cons.mpr ⟨rfl, List.forall_mem_cons.mpr ⟨rfl, List.forall_mem_cons.mpr ⟨rfl, List.forall_mem_cons.mpr ⟨rfl, List.forall_mem_cons.mpr ⟨rfl, fun _ h => absurd h List.not_mem_nil⟩⟩⟩⟩⟩⟩⟩⟩⟩⟩⟩⟩⟩⟩⟩⟩⟩⟩⟩⟩⟩⟩⟩⟩⟩⟩⟩
def ek (g : GG) (U : State) : Prop := va_K g.1 vwCl (tyl g) U ∧ (∀ w ∈ nw_list, va_Nw w U) ∧ vk_R RX3 32 "wncld" (g.2.2.2 5) U ∧ vk_R RX3 51 ".aeoptksf" (g.2.2.2 6) U
theorem ek.warm {g : GG} {s U : State} (hW : s.WarmedH U.vm) (h : ek g s) : ek g U := ⟨va_K.moved hW.alike h.1, fun w hw => nw_warm hW w hw (h.2.1 w hw), vk_R.warm hW h.2.2.1, vk_R.warm hW h.2.2.2⟩
theorem ek.same {g : GG} {u U : State} (hv : u.vm = U.vm) (h : ek g u) : ek g U := ⟨va_K.moved (by rw [hv]; exact Vm.Alike.refl _) h.1, fun w hw => va_Nw.same (nw_tabs w hw) hv (h.2.1 w hw), vk_R.same hv.symm h.2.2.1, vk_R.same hv.symm h.2.2.2⟩
theorem ek.nw {g : GG} {s : State} (h : ek g s) {w : Cond} (i : Nat) (hi : nw_list[i]? = some w) : va_Nw w s := h.2.1 w (List.mem_of_getElem? hi)
def lenS : List Nat := [5, 9]
def bytS : List (List Int32) := [[119, 110, 99, 108, 100], [46, 97, 101, 111, 112, 116, 107, 115, 102]]
def tb_COSTS : List Int32 := [0, 3, 3, 3, 3, 3, 3, 3, 3, 3, 0, 1, 1, 2, 2, 2, 2, 2, 3, 1, 0, 1, 2, 2, 2, 2, 2, 3, 1, 1, 0, 2, 2, 2, 2, 2, 3, 2, 2, 2, 0, 1, 1, 1, 1, 3, 2, 2, 2, 1, 0, 1, 1, 1, 3, 2, 2, 2, 1, 1, 0, 1, 1, 3, 2, 2, 2, 1, 1, 1, 0, 1, 3, 2, 2, 2, 1, 1, 1, 1, 0]
def tf_COSTS (k : Nat) : Value := .int (tb_COSTS.getD k 0)
def tb_PAIRS : List Int32 := [0, 1, 0, 1, 3, 2, 0, 1, 2, 3, 4, 5]
def tf_PAIRS (k : Nat) : Value := .int (tb_PAIRS.getD k 0)
def tb_FIRST_PAIR : List Int32 := [0, 0, 0, 2, 6]
def tf_FIRST_PAIR (k : Nat) : Value := .int (tb_FIRST_PAIR.getD k 0)
def tb_WEIGHTS : List Int32 := [1, 0, 0, 0, 2]
def tf_WEIGHTS (k : Nat) : Value := .int (tb_WEIGHTS.getD k 0)
def tb_REBUILDS : List Int32 := [1, 1, 0, 0, 1]
def tf_REBUILDS (k : Nat) : Value := .int (tb_REBUILDS.getD k 0)
def es (g : GG) (A : Nat → Prop) (U : State) (H : Heap) : Prop := va_Z "SoundLaws" "COSTS" "[I" (.ref (g.2.2.2 0)) A U H ∧ va_T .int (g.2.2.2 0) 81 tf_COSTS A U H ∧ va_Z "SoundLaws" "PAIRS" "[I" (.ref (g.2.2.2 1)) A U H ∧ va_T .int (g.2.2.2 1) 12 tf_PAIRS A U H ∧ va_Z "SoundLaws" "FIRST_PAIR" "[I" (.ref (g.2.2.2 2)) A U H ∧ va_T .int (g.2.2.2 2) 5 tf_FIRST_PAIR A U H ∧ va_Z "SoundLaws" "WEIGHTS" "[I" (.ref (g.2.2.2 3)) A U H ∧ va_T .int (g.2.2.2 3) 5 tf_WEIGHTS A U H ∧ va_Z "SoundLaws" "REBUILDS" "[I" (.ref (g.2.2.2 4)) A U H ∧ va_T .int (g.2.2.2 4) 5 tf_REBUILDS A U H ∧ va_Z "java/lang/String" "COMPACT_STRINGS" "Z" (.int 1) A U H ∧ vk_S 2 lenS bytS (fun i => g.2.2.2 (5 + i)) (fun i => g.2.2.2 (7 + i)) A U H
theorem es.moved {g : GG} {A : Nat → Prop} {u U : State} {H : Heap} (hv : u.vm.Alike U.vm) (h : es g A u H) : es g A U H := ⟨va_Z.moved hv h.1, va_T.moved hv h.2.1, va_Z.moved hv h.2.2.1, va_T.moved hv h.2.2.2.1, va_Z.moved hv h.2.2.2.2.1, va_T.moved hv h.2.2.2.2.2.1, va_Z.moved hv h.2.2.2.2.2.2.1, va_T.moved hv h.2.2.2.2.2.2.2.1, va_Z.moved hv h.2.2.2.2.2.2.2.2.1, va_T.moved hv h.2.2.2.2.2.2.2.2.2.1, va_Z.moved hv h.2.2.2.2.2.2.2.2.2.2.1, vk_S.moved hv h.2.2.2.2.2.2.2.2.2.2.2⟩
theorem es.kept {g : GG} {A : Nat → Prop} {U : State} {H H1 : Heap} (h : es g A U H) (hq : ∀ a : Nat, a < H.size → ¬ A a → H1[a]? = H[a]?) : es g A U H1 := ⟨h.1.kept hq, h.2.1.kept hq, h.2.2.1.kept hq, h.2.2.2.1.kept hq, h.2.2.2.2.1.kept hq, h.2.2.2.2.2.1.kept hq, h.2.2.2.2.2.2.1.kept hq, h.2.2.2.2.2.2.2.1.kept hq, h.2.2.2.2.2.2.2.2.1.kept hq, h.2.2.2.2.2.2.2.2.2.1.kept hq, h.2.2.2.2.2.2.2.2.2.2.1.kept hq, h.2.2.2.2.2.2.2.2.2.2.2.kept hq⟩
theorem es.narrow {g : GG} {A B : Nat → Prop} {U : State} {H : Heap} (h : es g A U H) (hAB : ∀ q, B q → A q) : es g B U H := ⟨h.1.narrow hAB, h.2.1.narrow hAB, h.2.2.1.narrow hAB, h.2.2.2.1.narrow hAB, h.2.2.2.2.1.narrow hAB, h.2.2.2.2.2.1.narrow hAB, h.2.2.2.2.2.2.1.narrow hAB, h.2.2.2.2.2.2.2.1.narrow hAB, h.2.2.2.2.2.2.2.2.1.narrow hAB, h.2.2.2.2.2.2.2.2.2.1.narrow hAB, h.2.2.2.2.2.2.2.2.2.2.1.narrow hAB, h.2.2.2.2.2.2.2.2.2.2.2.narrow hAB⟩
theorem es.zCOSTS {g : GG} {A : Nat → Prop} {U : State} {H : Heap} (h : es g A U H) : va_Z "SoundLaws" "COSTS" "[I" (.ref (g.2.2.2 0)) A U H := h.1
theorem es.tCOSTS {g : GG} {A : Nat → Prop} {U : State} {H : Heap} (h : es g A U H) : va_T .int (g.2.2.2 0) 81 tf_COSTS A U H := h.2.1
theorem es.zPAIRS {g : GG} {A : Nat → Prop} {U : State} {H : Heap} (h : es g A U H) : va_Z "SoundLaws" "PAIRS" "[I" (.ref (g.2.2.2 1)) A U H := h.2.2.1
theorem es.tPAIRS {g : GG} {A : Nat → Prop} {U : State} {H : Heap} (h : es g A U H) : va_T .int (g.2.2.2 1) 12 tf_PAIRS A U H := h.2.2.2.1
theorem es.zFIRST_PAIR {g : GG} {A : Nat → Prop} {U : State} {H : Heap} (h : es g A U H) : va_Z "SoundLaws" "FIRST_PAIR" "[I" (.ref (g.2.2.2 2)) A U H := h.2.2.2.2.1
theorem es.tFIRST_PAIR {g : GG} {A : Nat → Prop} {U : State} {H : Heap} (h : es g A U H) : va_T .int (g.2.2.2 2) 5 tf_FIRST_PAIR A U H := h.2.2.2.2.2.1
theorem es.zWEIGHTS {g : GG} {A : Nat → Prop} {U : State} {H : Heap} (h : es g A U H) : va_Z "SoundLaws" "WEIGHTS" "[I" (.ref (g.2.2.2 3)) A U H := h.2.2.2.2.2.2.1
theorem es.tWEIGHTS {g : GG} {A : Nat → Prop} {U : State} {H : Heap} (h : es g A U H) : va_T .int (g.2.2.2 3) 5 tf_WEIGHTS A U H := h.2.2.2.2.2.2.2.1
theorem es.zREBUILDS {g : GG} {A : Nat → Prop} {U : State} {H : Heap} (h : es g A U H) : va_Z "SoundLaws" "REBUILDS" "[I" (.ref (g.2.2.2 4)) A U H := h.2.2.2.2.2.2.2.2.1
theorem es.tREBUILDS {g : GG} {A : Nat → Prop} {U : State} {H : Heap} (h : es g A U H) : va_T .int (g.2.2.2 4) 5 tf_REBUILDS A U H := h.2.2.2.2.2.2.2.2.2.1
theorem es.zc {g : GG} {A : Nat → Prop} {U : State} {H : Heap} (h : es g A U H) : va_Z "java/lang/String" "COMPACT_STRINGS" "Z" (.int 1) A U H := h.2.2.2.2.2.2.2.2.2.2.1
theorem es.st {g : GG} {A : Nat → Prop} {U : State} {H : Heap} (h : es g A U H) : vk_S 2 lenS bytS (fun i => g.2.2.2 (5 + i)) (fun i => g.2.2.2 (7 + i)) A U H := h.2.2.2.2.2.2.2.2.2.2.2
def pcE (g : GG) (wc : va_W) (sz : Nat) (U : State) : Prop := U.heap.size = sz ∧ va_P g.1 vwCl wc U.heap ∧ ek g U ∧ va_D (fun _ => True) wc ∧ es g (va_A wc sz) U U.heap
abbrev bk (g : GG) (A : Nat → Prop) : va_W → State → Prop := fun w t => va_P g.1 vwCl w t.heap ∧ va_D A w
theorem pcE_blind (g : GG) (wc : va_W) (sz : Nat) (av : List Value) : FrameBlind (va_Pc av (pcE g wc sz)) := fun a U f mk q => ⟨q.1, q.2.1, q.2.2.1, ek.same (u := U) (U := U.calling f mk a) rfl q.2.2.2.1, q.2.2.2.2.1, es.moved (u := U) (U := U.calling f mk a) (Vm.Alike.refl U.vm) q.2.2.2.2.2⟩
abbrev MetI (l : Launch) (y : MethodName) (ws : List Cond) (rm : Room) (g : GG) (av : List Value) (wc : va_W) (sz : Nat) (post : Int32 → va_W → Prop) (mc ms : Nat) : Prop := Met l y ws rm (va_Pc av (pcE g wc sz)) (va_Qi post (bk g (va_A wc sz)) (va_A wc sz)) mc ms (va_A wc sz)
abbrev MetL (l : Launch) (y : MethodName) (ws : List Cond) (rm : Room) (g : GG) (av : List Value) (wc : va_W) (sz : Nat) (post : Int64 → va_W → Prop) (mc ms : Nat) : Prop := Met l y ws rm (va_Pc av (pcE g wc sz)) (va_Ql post (bk g (va_A wc sz)) (va_A wc sz)) mc ms (va_A wc sz)
abbrev MetV (l : Launch) (y : MethodName) (ws : List Cond) (rm : Room) (g : GG) (av : List Value) (wc : va_W) (sz : Nat) (post : va_W → Prop) (mc ms : Nat) : Prop := Met l y ws rm (va_Pc av (pcE g wc sz)) (va_Qv post (bk g (va_A wc sz)) (va_A wc sz)) mc ms (va_A wc sz)
theorem k_of {l : Launch} {y : MethodName} {ws ws' : List Cond} {rm : Room} {g : GG} {av : List Value} {wc : va_W} {Qc : (Nat → Prop) → Array Value → State → Outcome → State → Prop} {mc ms : Nat} {cc : ByteArray} {maxL : Nat} {ret : Option FieldType} (hy : plainName y.cls = true) (hw : ws = Cond.code y cc maxL ret :: ws') (hav : (lg_sl av).length ≤ maxL)
    (body : ∀ (p : Program) (e : Env) (s : State) (m : MethodId) (below : List Frame) (meth : Method) (c : Code), p.tables.exec = Jvm.exec → c.code = cc → meth.sig.returnType = ret → (∀ w ∈ ws, w.before av.toArray s = true) → s.vm.findClass y.cls = some m.cls → meth.locks = false → meth.name = y.name → c.maxLocals = maxL → ∀ A : Nat → Prop, (∀ q : Nat, s.heap.size ≤ q → A q) → ek g s → es g A s s.heap → va_P g.1 vwCl wc s.heap → va_D A wc → va_S A s.heap s.heap [] → ∀ ls : Array Slot, lv_has ls maxL (lv_args 0 av) →
      W p l e rm s m av.toArray below meth c s.heap [] 0 0 (MQ below (Qc A) av.toArray s mc ms A) (F0 m 0 ls [])) (sz : Nat) : Met l y ws rm (va_Pc av (pcE g wc sz)) (Qc (va_A wc sz)) mc ms (va_A wc sz) := by
  refine Met.ofW (cc := cc) (maxL := maxL) (ret := ret) hy hw ?_
  intro p e s m args below meth c s₁ B hml hv
  obtain ⟨rfl, hsz, hP, hE, hD0, hZ⟩ := hv
  subst hsz
  have hl := lv_entry av (n := maxL) hav
  rw [lg_entry_eq]
  exact body p e s m below meth c B.exec B.bytes B.returns (atoms_spec (ws := ws) B.pre) (findClass_of_methodNamed B.named) B.notSynchronized (name_of_methodNamed B.named B.method).1 hml _ (fun q h => Or.inr h) hE hZ hP hD0.self va_S.rf _ hl
section KB
variable {p : Program} {l : Launch} {e : Env} {R : Room} {s : State} {m : MethodId} {args : Array Value} {below : List Frame} {meth : Method} {c : Code} {H : Heap} {locs : List Loc} {cells slots : Nat} {Q : State → Prop} {cc : ByteArray} {pc : Nat} {ls : Array Slot} {rest : List Value} {g : GG} {A : Nat → Prop} {ws : va_W}
theorem va_sub_fm {ws wc : va_W} {is : List Nat} (h : is.map (fun i => ws[i]?) = wc.map some) : is.filterMap (fun i => ws[i]?) = wc := by
  have e : is.filterMap (fun i => ws[i]?) = (is.map (fun i => ws[i]?)).filterMap id := by rw [List.filterMap_map]; rfl
  rw [e, h, List.filterMap_map]
  simp
theorem pcE_call {wc : va_W} (hE : ek g s) (hZ : es g A s s.heap) (hP : va_P g.1 vwCl ws H) (hD : va_D A ws) (hS : va_S A s.heap H locs) (hA : ∀ q : Nat, s.heap.size ≤ q → A q) (isC : List Nat) (hC : isC.map (fun i => ws[i]?) = wc.map some) (hn : va_nd isC = true) (U : State) (hU : U.heap = H) (hW : s.WarmedH U.vm) : pcE g wc H.size U := by
  refine ⟨by rw [hU], by rw [hU]; exact hP.sub isC (va_sub_fm hC), hE.warm hW, (hD.sub isC hn hC).weaken (fun _ _ _ _ => trivial), ?_⟩
  rw [hU]
  exact ((hZ.kept hS.2.1).narrow (va_free hD hS hA isC hC)).moved hW.alike
theorem k_preS {wc : va_W} {av : List Value} (hE : ek g s) (hZ : es g A s s.heap) (hP : va_P g.1 vwCl ws H) (hD : va_D A ws) (hS : va_S A s.heap H locs) (hA : ∀ q : Nat, s.heap.size ≤ q → A q) (isC : List Nat) (hC : isC.map (fun i => ws[i]?) = wc.map some) (hn : va_nd isC = true) : PreS s H (va_Pc av (pcE g wc H.size)) av := ⟨pcE_blind g wc H.size av, fun U hU hW => ⟨rfl, pcE_call hE hZ hP hD hS hA isC hC hn U hU hW⟩⟩
theorem k_preV {wc : va_W} {b : Nat} {As : List Value} {C : String} (hE : ek g s) (hZ : es g A s s.heap) (hP : va_P g.1 vwCl ws H) (hD : va_D A ws) (hS : va_S A s.heap H locs) (hA : ∀ q : Nat, s.heap.size ≤ q → A q) (isC : List Nat) (hC : isC.map (fun i => ws[i]?) = wc.map some) (hn : va_nd isC = true) (hrec : ∃ cell : Cell, H[b]? = some cell ∧ cell.vm.isStatics = false ∧ s.vm.findClass C = some cell.cls) : PreV s H C b (va_Pc (.ref b :: As) (pcE g wc H.size)) As := ⟨pcE_blind g wc H.size _, hrec, fun U hU hW => ⟨rfl, pcE_call hE hZ hP hD hS hA isC hC hn U hU hW⟩⟩
variable {mc ms : Nat} {st0 : List Value} {a : Array Value} {wc wr : va_W}
theorem k_ci {post : Int32 → va_W → Prop} (hP : va_P g.1 vwCl ws H) (hD : va_D A ws) (hS : va_S A s.heap H locs) (hA : ∀ q : Nat, s.heap.size ≤ q → A q) (isC isR : List Nat) (hC : isC.map (fun i => ws[i]?) = wc.map some) (hR : isR.map (fun i => ws[i]?) = wr.map some) (hn : va_nd isR = true) (hdis : ∀ i ∈ isR, i ∉ isC) (hr : va_Run p l e R s m args below meth c H locs cells slots mc ms (F0 m pc ls st0) rest (va_Qi post (bk g (va_A wc H.size)) (va_A wc H.size) a) (va_A wc H.size))
    (kk : ∀ (r : Int32) (w1 : va_W) (H1 : Heap) (locs1 : List Loc), post r w1 → va_P g.1 vwCl (wr ++ w1) H1 → va_D A (wr ++ w1) → va_S A s.heap H1 locs1 → W p l e R s m args below meth c H1 locs1 (cells + mc) (slots + ms) Q (F0 m (pc + 3) ls (.int r :: rest))) : W p l e R s m args below meth c H locs cells slots Q (F0 m pc ls st0) := by
  have hF := va_free hD hS hA isC hC
  refine va_calli hr hS (fun q _ h => hF q h) hF (fun r u t H1 locs1 ht hvm hw hB hz1 hk1 hS1 => ?_)
  obtain ⟨hP1, hD1⟩ := hB
  rw [ht] at hP1
  obtain ⟨hP2, hD2⟩ := va_join hP hD isC isR hC hR hn hdis hk1 hF hP1 hD1
  exact kk r u H1 locs1 hw hP2 hD2 hS1
theorem k_cl {post : Int64 → va_W → Prop} (hP : va_P g.1 vwCl ws H) (hD : va_D A ws) (hS : va_S A s.heap H locs) (hA : ∀ q : Nat, s.heap.size ≤ q → A q) (isC isR : List Nat) (hC : isC.map (fun i => ws[i]?) = wc.map some) (hR : isR.map (fun i => ws[i]?) = wr.map some) (hn : va_nd isR = true) (hdis : ∀ i ∈ isR, i ∉ isC) (hr : va_Run p l e R s m args below meth c H locs cells slots mc ms (F0 m pc ls st0) rest (va_Ql post (bk g (va_A wc H.size)) (va_A wc H.size) a) (va_A wc H.size))
    (kk : ∀ (r : Int64) (w1 : va_W) (H1 : Heap) (locs1 : List Loc), post r w1 → va_P g.1 vwCl (wr ++ w1) H1 → va_D A (wr ++ w1) → va_S A s.heap H1 locs1 → W p l e R s m args below meth c H1 locs1 (cells + mc) (slots + ms) Q (F0 m (pc + 3) ls (.long r :: rest))) : W p l e R s m args below meth c H locs cells slots Q (F0 m pc ls st0) := by
  have hF := va_free hD hS hA isC hC
  refine va_calll hr hS (fun q _ h => hF q h) hF (fun r u t H1 locs1 ht hvm hw hB hz1 hk1 hS1 => ?_)
  obtain ⟨hP1, hD1⟩ := hB
  rw [ht] at hP1
  obtain ⟨hP2, hD2⟩ := va_join hP hD isC isR hC hR hn hdis hk1 hF hP1 hD1
  exact kk r u H1 locs1 hw hP2 hD2 hS1
theorem k_cv {post : va_W → Prop} (hP : va_P g.1 vwCl ws H) (hD : va_D A ws) (hS : va_S A s.heap H locs) (hA : ∀ q : Nat, s.heap.size ≤ q → A q) (isC isR : List Nat) (hC : isC.map (fun i => ws[i]?) = wc.map some) (hR : isR.map (fun i => ws[i]?) = wr.map some) (hn : va_nd isR = true) (hdis : ∀ i ∈ isR, i ∉ isC) (hr : va_Run p l e R s m args below meth c H locs cells slots mc ms (F0 m pc ls st0) rest (va_Qv post (bk g (va_A wc H.size)) (va_A wc H.size) a) (va_A wc H.size))
    (kk : ∀ (w1 : va_W) (H1 : Heap) (locs1 : List Loc), post w1 → va_P g.1 vwCl (wr ++ w1) H1 → va_D A (wr ++ w1) → va_S A s.heap H1 locs1 → W p l e R s m args below meth c H1 locs1 (cells + mc) (slots + ms) Q (F0 m (pc + 3) ls rest)) : W p l e R s m args below meth c H locs cells slots Q (F0 m pc ls st0) := by
  have hF := va_free hD hS hA isC hC
  refine va_callv hr hS (fun q _ h => hF q h) hF (fun u t H1 locs1 ht hvm hw hB hz1 hk1 hS1 => ?_)
  obtain ⟨hP1, hD1⟩ := hB
  rw [ht] at hP1
  obtain ⟨hP2, hD2⟩ := va_join hP hD isC isR hC hR hn hdis hk1 hF hP1 hD1
  exact kk u H1 locs1 hw hP2 hD2 hS1
theorem k_ri {post : Int32 → va_W → Prop} {v : Int32} {w1 : va_W} (hx : p.tables.exec = Jvm.exec) (hb : c.code = cc) (hr : meth.sig.returnType = some .int) (hlocks : meth.locks = false) (hS : va_S A s.heap H locs) (hP : va_P g.1 vwCl w1 H) (hD : va_D A w1) (hp : post v w1) (hdg : decode cc pc = .ok (.ireturn, 1)) : W p l e R s m args below meth c H locs cells slots (MQ below (va_Qi post (bk g A) A) args s cells slots A) (F0 m pc ls [.int v]) :=
  W.iret hx hb hr (fun t ht hW => ⟨⟨v, w1, rfl, hp, by rw [ht]; exact hP, hD⟩, hS.F ht⟩) hS.2.2 hdg hlocks
theorem k_rz {post : Int32 → va_W → Prop} {v : Int32} {w1 : va_W} (hx : p.tables.exec = Jvm.exec) (hb : c.code = cc) (hr : meth.sig.returnType = some .boolean) (hlocks : meth.locks = false) (hS : va_S A s.heap H locs) (hP : va_P g.1 vwCl w1 H) (hD : va_D A w1) (hn : narrow .boolean (.int v) = .int v) (hp : post v w1) (hdg : decode cc pc = .ok (.ireturn, 1)) : W p l e R s m args below meth c H locs cells slots (MQ below (va_Qi post (bk g A) A) args s cells slots A) (F0 m pc ls [.int v]) :=
  W.zret hx hb hr hn (fun t ht hW => ⟨⟨v, w1, rfl, hp, by rw [ht]; exact hP, hD⟩, hS.F ht⟩) hS.2.2 hdg hlocks
theorem k_rl {post : Int64 → va_W → Prop} {v : Int64} {w1 : va_W} (hx : p.tables.exec = Jvm.exec) (hb : c.code = cc) (hr : meth.sig.returnType = some .long) (hlocks : meth.locks = false) (hS : va_S A s.heap H locs) (hP : va_P g.1 vwCl w1 H) (hD : va_D A w1) (hp : post v w1) (hdg : decode cc pc = .ok (.lreturn, 1)) : W p l e R s m args below meth c H locs cells slots (MQ below (va_Ql post (bk g A) A) args s cells slots A) (F0 m pc ls [.long v]) :=
  W.lret hx hb hr (fun t ht hW => ⟨⟨v, w1, rfl, hp, by rw [ht]; exact hP, hD⟩, hS.F ht⟩) hS.2.2 hdg hlocks
theorem k_rv {post : va_W → Prop} {w1 : va_W} (hx : p.tables.exec = Jvm.exec) (hb : c.code = cc) (hr : meth.sig.returnType = none) (hlocks : meth.locks = false) (hS : va_S A s.heap H locs) (hP : va_P g.1 vwCl w1 H) (hD : va_D A w1) (hp : post w1) (hdg : decode cc pc = .ok (.return_, 1)) : W p l e R s m args below meth c H locs cells slots (MQ below (va_Qv post (bk g A) A) args s cells slots A) (F0 m pc ls []) :=
  W.vret hx hb hr (fun t ht hW => ⟨⟨w1, rfl, hp, by rw [ht]; exact hP, hD⟩, hS.F ht⟩) hS.2.2 hdg hlocks
theorem k_newi {n : Int32} (N' : Nat) (hx : p.tables.exec = Jvm.exec) (hb : c.code = cc) (harr : (Cond.arrayClass .int).before args s = true) (hE : ek g s) (hP : va_P g.1 vwCl ws H) (hD : va_D A ws) (hS : va_S A s.heap H locs) (hA : ∀ q : Nat, s.heap.size ≤ q → A q) (hn : ¬ n < 0) (hN : n.toNatClampNeg = N') (hbytes : N' * componentBytes .int ≤ 536870912) (hcells : cells + 1 ≤ R.cells) (hslots : slots + N' ≤ R.slots) (hdg : decode cc pc = .ok (.newarray .int, 2))
    (kk : ∀ (q : Nat) (H1 : Heap), va_P g.1 vwCl (ws ++ [(q, ai g N' (fun _ => 0))]) H1 → va_D A (ws ++ [(q, ai g N' (fun _ => 0))]) → va_S A s.heap H1 locs → W p l e R s m args below meth c H1 locs (cells + 1) (slots + N') Q (F0 m (pc + 2) ls (.ref q :: rest))) : W p l e R s m args below meth c H locs cells slots Q (F0 m pc ls (.int n :: rest)) := by
  refine va_newa (atype := .int) (ty := .int) (a0 := (N', .inl (fun _ => 0))) hx hb harr rfl hE.1 hP hD hS hA (fun _ => rfl) hn hN hbytes hcells hslots hdg (fun q cA H1 hK1 hP1 hD1 hS1 => ?_)
  have h1 : s.vm.findClass ("[" ++ FieldType.int.toString) = some cA := (hK1.2 2 (cA, .int) rfl).2
  have h2 : s.vm.findClass ("[" ++ FieldType.int.toString) = some g.2.1 := (hE.1.2 0 (g.2.1, .int) rfl).2
  have h3 : cA = g.2.1 := Option.some.inj (h1.symm.trans h2)
  subst h3
  exact kk q H1 hP1 hD1 hS1
theorem k_newz {n : Int32} (N' : Nat) (hx : p.tables.exec = Jvm.exec) (hb : c.code = cc) (harr : (Cond.arrayClass .boolean).before args s = true) (hE : ek g s) (hP : va_P g.1 vwCl ws H) (hD : va_D A ws) (hS : va_S A s.heap H locs) (hA : ∀ q : Nat, s.heap.size ≤ q → A q) (hn : ¬ n < 0) (hN : n.toNatClampNeg = N') (hbytes : N' * componentBytes .boolean ≤ 536870912) (hcells : cells + 1 ≤ R.cells) (hslots : slots + N' ≤ R.slots) (hdg : decode cc pc = .ok (.newarray .boolean, 2))
    (kk : ∀ (q : Nat) (H1 : Heap), va_P g.1 vwCl (ws ++ [(q, az g N' (fun _ => 0))]) H1 → va_D A (ws ++ [(q, az g N' (fun _ => 0))]) → va_S A s.heap H1 locs → W p l e R s m args below meth c H1 locs (cells + 1) (slots + N') Q (F0 m (pc + 2) ls (.ref q :: rest))) : W p l e R s m args below meth c H locs cells slots Q (F0 m pc ls (.int n :: rest)) := by
  refine va_newa (atype := .boolean) (ty := .boolean) (a0 := (N', .inl (fun _ => 0))) hx hb harr rfl hE.1 hP hD hS hA (fun _ => rfl) hn hN hbytes hcells hslots hdg (fun q cA H1 hK1 hP1 hD1 hS1 => ?_)
  have h1 : s.vm.findClass ("[" ++ FieldType.boolean.toString) = some cA := (hK1.2 2 (cA, .boolean) rfl).2
  have h2 : s.vm.findClass ("[" ++ FieldType.boolean.toString) = some g.2.2.1 := (hE.1.2 1 (g.2.2.1, .boolean) rfl).2
  have h3 : cA = g.2.2.1 := Option.some.inj (h1.symm.trans h2)
  subst h3
  exact kk q H1 hP1 hD1 hS1
theorem k_ald {a n : Nat} {f : Nat → Int32} {i : Int32} (k : Nat) (hi : i = nI k) (hk : k < n) (hx : p.tables.exec = Jvm.exec) (hb : c.code = cc) (hE : ek g s) (hP : va_P g.1 vwCl ws H) (q0 : Nat) (ha : ws[q0]? = some (a, ai g n f)) (hn : n < 2 ^ 31) (hdg : decode cc pc = .ok (.iaload, 1)) (kk : W p l e R s m args below meth c H locs cells slots Q (F0 m (pc + 1) ls (.int (f k) :: rest))) : W p l e R s m args below meth c H locs cells slots Q (F0 m pc ls (.int i :: .ref a :: rest)) := by
  subst hi
  refine va_iald hx hb hE.1 hP q0 0 ha rfl (vp_in_nI hk hn) hdg ?_
  rw [nI_clamp (Nat.lt_trans hk hn)]
  exact kk
theorem k_tld {t N : Nat} {f : Nat → Value} {i v : Int32} (k : Nat) (hi : i = nI k) (hk : k < N) (hx : p.tables.exec = Jvm.exec) (hb : c.code = cc) (hT : va_T .int t N f A s s.heap) (hS : va_S A s.heap H locs) (hn : N < 2 ^ 31) (hv : f k = .int v) (hdg : decode cc pc = .ok (.iaload, 1)) (kk : W p l e R s m args below meth c H locs cells slots Q (F0 m (pc + 1) ls (.int v :: rest))) : W p l e R s m args below meth c H locs cells slots Q (F0 m pc ls (.int i :: .ref t :: rest)) := by
  subst hi
  exact va_ti hx hb hT hS (vp_in_nI hk hn) (by rw [nI_clamp (Nat.lt_trans hk hn)]; exact hv) hdg kk
theorem k_ast {a n : Nat} {f : Nat → Int32} {i x : Int32} (k : Nat) (hi : i = nI k) (hk : k < n) (hx : p.tables.exec = Jvm.exec) (hb : c.code = cc) (hE : ek g s) (hP : va_P g.1 vwCl ws H) (hD : va_D A ws) (hS : va_S A s.heap H locs) (q0 : Nat) (ha : ws[q0]? = some (a, ai g n f)) (hn : n < 2 ^ 31) (hdg : decode cc pc = .ok (.iastore, 1)) (kk : ∀ (H1 : Heap) (locs1 : List Loc), va_P g.1 vwCl (ws.set q0 (a, ai g n (upd f k x))) H1 → va_D A (ws.set q0 (a, ai g n (upd f k x))) → va_S A s.heap H1 locs1 → W p l e R s m args below meth c H1 locs1 cells slots Q (F0 m (pc + 1) ls rest)) : W p l e R s m args below meth c H locs cells slots Q (F0 m pc ls (.int x :: .int i :: .ref a :: rest)) := by
  subst hi
  refine va_iast hx hb hE.1 hP hD hS q0 0 ha rfl (vp_in_nI hk hn) hdg (fun H1 locs1 h1 h2 h3 => ?_)
  rw [nI_clamp (Nat.lt_trans hk hn)] at h1 h2
  exact kk H1 locs1 h1 h2 h3
end KB

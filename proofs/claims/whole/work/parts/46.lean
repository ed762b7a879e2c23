/-! throwing: contracts of calls that throw and change nothing -/
abbrev sIO : String := "java/lang/IndexOutOfBoundsException"
abbrev sIS : String := "java/lang/IllegalStateException"
abbrev sIA : String := "java/lang/IllegalArgumentException"
abbrev sUO : String := "java/lang/UnsupportedOperationException"
abbrev xNM : List String := ["java/lang/RuntimeException", "java/lang/Exception"]
def xD1 : MethodName := ⟨"java/lang/RuntimeException", "<init>", "()V"⟩
def xD2 : MethodName := ⟨"java/lang/Exception", "<init>", "()V"⟩
def xD3 : MethodName := ⟨"java/lang/Throwable", "<init>", "()V"⟩
def TX (U : State) : Prop := va_Nw (.castable sIO sIO) U ∧ va_Nw (.castable sIS sIS) U ∧ va_Nw (.castable sIA sIA) U ∧ va_Nw (.castable sUO sUO) U ∧ va_Nc sIA sIS U ∧ va_Nc sUO sIS U ∧ va_Nc sUO sIA U ∧ va_Nw (.declares xD1) U ∧ va_Nw (.declares xD2) U ∧ va_Nw (.declares xD3) U
theorem TX.same {u U : State} (h : u.vm = U.vm) (t : TX u) : TX U := by
  have ha : u.vm.Alike U.vm := by rw [h]; exact Vm.Alike.refl _
  exact ⟨va_Nw.same rfl h t.1, va_Nw.same rfl h t.2.1, va_Nw.same rfl h t.2.2.1, va_Nw.same rfl h t.2.2.2.1, t.2.2.2.2.1.moved ha, t.2.2.2.2.2.1.moved ha, t.2.2.2.2.2.2.1.moved ha, va_Nw.same rfl h t.2.2.2.2.2.2.2.1, va_Nw.same rfl h t.2.2.2.2.2.2.2.2.1, va_Nw.same rfl h t.2.2.2.2.2.2.2.2.2⟩
theorem TX.warm {s U : State} (hW : s.WarmedH U.vm) (t : TX s) : TX U :=
  ⟨va_Nw.warmC hW t.1, va_Nw.warmC hW t.2.1, va_Nw.warmC hW t.2.2.1, va_Nw.warmC hW t.2.2.2.1, t.2.2.2.2.1.moved hW.alike, t.2.2.2.2.2.1.moved hW.alike, t.2.2.2.2.2.2.1.moved hW.alike, va_Nw.warmD hW t.2.2.2.2.2.2.2.1, va_Nw.warmD hW t.2.2.2.2.2.2.2.2.1, va_Nw.warmD hW t.2.2.2.2.2.2.2.2.2⟩
def ZT (A : Nat → Prop) (U : State) (H : Heap) : Prop := vx_Zq Bundle.tN "UNASSIGNED_STACK" Bundle.steD A U H ∧ vx_Zq Bundle.tN "SUPPRESSED_SENTINEL" Bundle.listD A U H
theorem ZT.moved {A : Nat → Prop} {u U : State} {H : Heap} (hvm : u.vm.Alike U.vm) (h : ZT A u H) : ZT A U H := ⟨h.1.moved hvm, h.2.moved hvm⟩
theorem ZT.kept {A : Nat → Prop} {U : State} {H H1 : Heap} (h : ZT A U H) (hq : ∀ a : Nat, a < H.size → ¬ A a → H1[a]? = H[a]?) : ZT A U H1 := ⟨h.1.kept hq, h.2.kept hq⟩
theorem ZT.narrow {A B : Nat → Prop} {U : State} {H : Heap} (h : ZT A U H) (hAB : ∀ q, B q → A q) : ZT B U H := ⟨h.1.narrow hAB, h.2.narrow hAB⟩
def PT (dC : Nat → ClassId) (dI : Nat → Nat → Nat) (sz : Nat) (w : va_W) (ty : List (ClassId × FieldType)) (U : State) : Prop := PR dC dI sz w ty U ∧ TX U ∧ ZT (va_A w sz) U U.heap
theorem pt_blind {dC : Nat → ClassId} {dI : Nat → Nat → Nat} {sz : Nat} {w : va_W} {ty : List (ClassId × FieldType)} {av : List Value} : FrameBlind (va_Pc av (PT dC dI sz w ty)) := fun a U g mk q => by
  obtain ⟨q0, qR, qT, qZ⟩ := q
  have h := pr_blind (av := av) a U g mk ⟨q0, qR⟩
  exact ⟨q0, h.2, TX.same (U := U.calling g mk a) rfl qT, ZT.moved (U := U.calling g mk a) (Vm.Alike.refl U.vm) qZ⟩
def XT (dC : Nat → ClassId) (dI : Nat → Nat → Nat) (pre : va_W) (sz : Nat) (E : String) : String → State → State → Prop := fun E' st t => E' = E ∧ va_P (dC, dI) vwCl pre t.heap ∧ va_D (va_A pre sz) pre ∧ va_F (va_A pre sz) st t
/-- the method throws a new E; the cells pre stay -/
def MT (l : Launch) (dC : Nat → ClassId) (dI : Nat → Nat → Nat) (y : MethodName) (ws : List Cond) (rm : Room) (av : List Value) (pre : va_W) (ty : List (ClassId × FieldType)) (E : String) : Prop :=
  ∀ sz : Nat, vx_Met l y ws rm (va_Pc av (PT dC dI sz pre ty)) (fun _ _ _ _ => False) (XT dC dI pre sz E) rm.cells rm.slots (va_A pre sz)
theorem MT.to {l : Launch} {dC : Nat → ClassId} {dI : Nat → Nat → Nat} {y : MethodName} {ws : List Cond} {rm : Room} {av : List Value} {pre : va_W} {ty : List (ClassId × FieldType)} {E : String} (h : MT l dC dI y ws rm av pre ty E) (sz : Nat) : vx_Met l y ws rm (va_Pc av (PT dC dI sz pre ty)) (fun _ _ _ _ => False) (XT dC dI pre sz E) rm.cells rm.slots (va_A pre sz) := h sz
/-- as MO, where the call inside may throw -/
def MOT (l : Launch) (dC : Nat → ClassId) (dI : Nat → Nat → Nat) (y : MethodName) (ws : List Cond) (rm : Room) (av : List Value) (pre : va_W) (ty : List (ClassId × FieldType)) (post : va_W) (o : Option Value) : Prop :=
  ∀ sz : Nat, Met l y ws rm (va_Pc av (PT dC dI sz pre ty)) (QO dC dI pre post sz o) rm.cells rm.slots (va_A pre sz)
theorem MOT.to {l : Launch} {dC : Nat → ClassId} {dI : Nat → Nat → Nat} {y : MethodName} {ws : List Cond} {rm : Room} {av : List Value} {pre : va_W} {ty : List (ClassId × FieldType)} {post : va_W} {o : Option Value} (h : MOT l dC dI y ws rm av pre ty post o) (sz : Nat) : Met l y ws rm (va_Pc av (PT dC dI sz pre ty)) (QO dC dI pre post sz o) rm.cells rm.slots (va_A pre sz) := h sz
theorem mt_ofW {l : Launch} {dC : Nat → ClassId} {dI : Nat → Nat → Nat} {y : MethodName} {ws : List Cond} {rm : Room} {av : List Value} {pre : va_W} {ty : List (ClassId × FieldType)} {E : String} {cc : ByteArray} {maxL : Nat} {ret : Option FieldType}
    (hy : plainName y.cls = true) (hw : ws = Cond.code y cc maxL ret :: AW) (hlen : (lg_sl av).length ≤ maxL)
    (body : ∀ (p : Program) (e : Env) (s : State) (m : MethodId) (args : Array Value) (below : List Frame) (meth : Method) (c : Code) (Q : State → Prop) (A : Nat → Prop) (H : Heap) (locs : List Loc) (ls : Array Slot),
      p.tables.exec = Jvm.exec → c.code = cc → meth.sig.returnType = ret → meth.locks = false → c.maxLocals = maxL → (∀ w ∈ AW, w.before args s = true) → s.vm.findClass y.cls = some m.cls → meth.name = y.name → EX s → TX s → ZT A s s.heap → (∀ x ∈ c.exceptionTable.toList, False) →
      Q = vx_MQ below (fun _ _ _ _ => False) (XT dC dI pre s.heap.size E) args s rm.cells rm.slots (va_A pre s.heap.size) → va_A pre s.heap.size = A → (∀ q, s.heap.size ≤ q → A q) → va_K (dC, dI) vwCl ty s → va_P (dC, dI) vwCl pre H → va_D A pre → va_S A s.heap H locs → lv_has ls maxL (lv_args 0 av) →
      W p l e rm s m args below meth c H locs 0 0 Q (F0 m 0 ls [])) : MT l dC dI y ws rm av pre ty E := by
  intro sz
  refine vx_ofW (cc := cc) (maxL := maxL) (ret := ret) hy hw ?_
  intro p e s m args below meth c s₁ B hml ht hv
  obtain ⟨hav, ⟨hsz, hP, hK, hD0, hE⟩, hT, hZ⟩ := hv
  have hts := atoms_spec (ws := ws) B.pre
  have hl := lv_entry av (n := maxL) hlen
  subst hav
  rw [lg_entry_eq]
  subst hsz
  exact body p e s m _ below meth c _ _ s.heap [] _ B.exec B.bytes B.returns B.notSynchronized hml (fun w h => hts w (by rw [hw]; exact List.mem_cons_of_mem _ h)) (findClass_of_methodNamed B.named) (name_of_methodNamed B.named B.method).1 hE hT hZ ht rfl rfl (fun q h => Or.inr h) hK hP hD0.self va_S.rf hl
theorem met_ofWH {l : Launch} {y : MethodName} {ws ws' : List Cond} {rm : Room} {Pc : Array Value → State → Prop} {Qc : Array Value → State → Outcome → State → Prop} {mc ms : Nat} {free : Addr → Prop} {cc : ByteArray} {maxL : Nat} {ret : Option FieldType} {hh : List (Nat × Nat × Nat × Nat)}
    (hy : plainName y.cls = true) (hw : ws = Cond.codeWith y cc maxL ret hh :: ws')
    (body : ∀ p e s m args below meth c s₁, BodyLoose p l y (headSpec ws rm) cc maxL ret e s m args below meth c s₁ → c.maxLocals = maxL → Pc args s →
      W p l e (headSpec ws rm).room s m args below meth c s.heap [] 0 0 (MQ below Qc args s mc ms free) (entryFrame m args maxL)) : Met l y ws rm Pc Qc mc ms free := by
  refine MetFree.of_bodyS (code := cc) (maxLocals := maxL) (ret := ret) hy ?_ ?_
  · intro args s m h hn
    obtain ⟨m9, meth, c, hn9, h1, h2, h3, h4, -, h5, h6, -⟩ := Cond.codeWith_spec (atoms_spec (ws := ws) h _ (by rw [hw]; exact List.mem_cons_self))
    cases hn.symm.trans hn9
    exact ⟨meth, c, h1, h2, h3, h4, h5, h6⟩
  · intro p e s m args below meth c s₁ B hml hP _
    have hh0 : s₁.heap = s.heap := by rw [B.state]; rfl
    obtain ⟨t, a1, o, b1, b2, b3⟩ := body p e s m args below meth c s₁ B hml hP s₁ hh0 (Stand.of_body B)
    exact ⟨t, o, a1, b1, b2, ⟨b3.1, b3.2⟩⟩
theorem mo_ofWH {l : Launch} {dC : Nat → ClassId} {dI : Nat → Nat → Nat} {y : MethodName} {ws : List Cond} {rm : Room} {av : List Value} {pre : va_W} {ty : List (ClassId × FieldType)} {post : va_W} {o : Option Value} {cc : ByteArray} {maxL : Nat} {ret : Option FieldType} {hh : List (Nat × Nat × Nat × Nat)}
    (hy : plainName y.cls = true) (hw : ws = Cond.codeWith y cc maxL ret hh :: AW) (hlen : (lg_sl av).length ≤ maxL)
    (body : ∀ (p : Program) (e : Env) (s : State) (m : MethodId) (args : Array Value) (below : List Frame) (meth : Method) (c : Code) (Q : State → Prop) (A : Nat → Prop) (H : Heap) (locs : List Loc) (ls : Array Slot),
      p.tables.exec = Jvm.exec → c.code = cc → meth.sig.returnType = ret → meth.locks = false → c.maxLocals = maxL → (∀ w ∈ AW, w.before args s = true) → s.vm.findClass y.cls = some m.cls → meth.name = y.name → EX s →
      Q = MQ below (QO dC dI pre post s.heap.size o) args s rm.cells rm.slots (va_A pre s.heap.size) → va_A pre s.heap.size = A → (∀ q, s.heap.size ≤ q → A q) → va_K (dC, dI) vwCl ty s → va_P (dC, dI) vwCl pre H → va_D A pre → va_S A s.heap H locs → lv_has ls maxL (lv_args 0 av) →
      W p l e rm s m args below meth c H locs 0 0 Q (F0 m 0 ls [])) : MO l dC dI y ws rm av pre ty post o := by
  intro sz
  refine met_ofWH (cc := cc) (maxL := maxL) (ret := ret) (hh := hh) hy hw ?_
  intro p e s m args below meth c s₁ B hml hv
  obtain ⟨hav, hsz, hP, hK, hD0, hE⟩ := hv
  have hts := atoms_spec (ws := ws) B.pre
  have hl := lv_entry av (n := maxL) hlen
  subst hav
  rw [lg_entry_eq]
  subst hsz
  exact body p e s m _ below meth c _ _ s.heap [] _ B.exec B.bytes B.returns B.notSynchronized hml (fun w h => hts w (by rw [hw]; exact List.mem_cons_of_mem _ h)) (findClass_of_methodNamed B.named) (name_of_methodNamed B.named B.method).1 hE rfl rfl (fun q h => Or.inr h) hK hP hD0.self va_S.rf hl
theorem mx_ofWH {σ : Type} {l : Launch} {dC : Nat → ClassId} {dI : Nat → Nat → Nat} {y : MethodName} {ws : List Cond} {rm : Room} {av : List Value} {pre : va_W} {ty : List (ClassId × FieldType)} {post : σ → va_W} {ty2 : σ → List (ClassId × FieldType)} {Φ : σ → Prop} {o : σ → Option Value} {cc : ByteArray} {maxL : Nat} {ret : Option FieldType} {hh : List (Nat × Nat × Nat × Nat)}
    (hy : plainName y.cls = true) (hw : ws = Cond.codeWith y cc maxL ret hh :: AW) (hlen : (lg_sl av).length ≤ maxL)
    (body : ∀ (p : Program) (e : Env) (s : State) (m : MethodId) (args : Array Value) (below : List Frame) (meth : Method) (c : Code) (Q : State → Prop) (A : Nat → Prop) (H : Heap) (locs : List Loc) (ls : Array Slot),
      p.tables.exec = Jvm.exec → c.code = cc → meth.sig.returnType = ret → meth.locks = false → c.maxLocals = maxL → (∀ w ∈ AW, w.before args s = true) → s.vm.findClass y.cls = some m.cls → meth.name = y.name → EX s →
      Q = MQ below (QX dC dI pre post ty2 Φ s.heap.size o) args s rm.cells rm.slots (va_A pre s.heap.size) → va_A pre s.heap.size = A → (∀ q, s.heap.size ≤ q → A q) → va_K (dC, dI) vwCl ty s → va_P (dC, dI) vwCl pre H → va_D A pre → va_S A s.heap H locs → lv_has ls maxL (lv_args 0 av) →
      W p l e rm s m args below meth c H locs 0 0 Q (F0 m 0 ls [])) : MX l dC dI y ws rm av pre ty post ty2 Φ o := by
  intro sz
  refine met_ofWH (cc := cc) (maxL := maxL) (ret := ret) (hh := hh) hy hw ?_
  intro p e s m args below meth c s₁ B hml hv
  obtain ⟨hav, hsz, hP, hK, hD0, hE⟩ := hv
  have hts := atoms_spec (ws := ws) B.pre
  have hl := lv_entry av (n := maxL) hlen
  subst hav
  rw [lg_entry_eq]
  subst hsz
  exact body p e s m _ below meth c _ _ s.heap [] _ B.exec B.bytes B.returns B.notSynchronized hml (fun w h => hts w (by rw [hw]; exact List.mem_cons_of_mem _ h)) (findClass_of_methodNamed B.named) (name_of_methodNamed B.named B.method).1 hE rfl rfl (fun q h => Or.inr h) hK hP hD0.self va_S.rf hl
theorem mot_ofWH {l : Launch} {dC : Nat → ClassId} {dI : Nat → Nat → Nat} {y : MethodName} {ws : List Cond} {rm : Room} {av : List Value} {pre : va_W} {ty : List (ClassId × FieldType)} {post : va_W} {o : Option Value} {cc : ByteArray} {maxL : Nat} {ret : Option FieldType} {hh : List (Nat × Nat × Nat × Nat)}
    (hy : plainName y.cls = true) (hw : ws = Cond.codeWith y cc maxL ret hh :: AW) (hlen : (lg_sl av).length ≤ maxL)
    (body : ∀ (p : Program) (e : Env) (s : State) (m : MethodId) (args : Array Value) (below : List Frame) (meth : Method) (c : Code) (Q : State → Prop) (A : Nat → Prop) (H : Heap) (locs : List Loc) (ls : Array Slot),
      p.tables.exec = Jvm.exec → c.code = cc → meth.sig.returnType = ret → meth.locks = false → c.maxLocals = maxL → (∀ w ∈ AW, w.before args s = true) → s.vm.findClass y.cls = some m.cls → meth.name = y.name → EX s → TX s → ZT A s s.heap → c.exceptionTable.toList = tableOf hh →
      Q = MQ below (QO dC dI pre post s.heap.size o) args s rm.cells rm.slots (va_A pre s.heap.size) → va_A pre s.heap.size = A → (∀ q, s.heap.size ≤ q → A q) → va_K (dC, dI) vwCl ty s → va_P (dC, dI) vwCl pre H → va_D A pre → va_S A s.heap H locs → lv_has ls maxL (lv_args 0 av) →
      W p l e rm s m args below meth c H locs 0 0 Q (F0 m 0 ls [])) : MOT l dC dI y ws rm av pre ty post o := by
  intro sz
  refine met_ofWH (cc := cc) (maxL := maxL) (ret := ret) (hh := hh) hy hw ?_
  intro p e s m args below meth c s₁ B hml hv
  obtain ⟨hav, ⟨hsz, hP, hK, hD0, hE⟩, hT, hZ⟩ := hv
  have hts := atoms_spec (ws := ws) B.pre
  have hl := lv_entry av (n := maxL) hlen
  subst hav
  rw [lg_entry_eq]
  subst hsz
  exact body p e s m _ below meth c _ _ s.heap [] _ B.exec B.bytes B.returns B.notSynchronized hml (fun w h => hts w (by rw [hw]; exact List.mem_cons_of_mem _ h)) (findClass_of_methodNamed B.named) (name_of_methodNamed B.named B.method).1 hE hT hZ (vx_table (x := y) B (hts _ (by rw [hw]; exact List.mem_cons_self))) rfl rfl (fun q h => Or.inr h) hK hP hD0.self va_S.rf hl
section CT
variable {p : Program} {l : Launch} {e : Env} {R : Room} {s : State} {m : MethodId} {args : Array Value} {below : List Frame} {meth : Method} {c : Code} {H : Heap} {locs : List Loc} {cells slots : Nat} {Q : State → Prop}
variable {cc : ByteArray} {pc : Nat} {ls : Array Slot} {rest st0 : List Value} {A : Nat → Prop} {H0 : Heap} {mc ms mc1 ms1 : Nat} {dC : Nat → ClassId} {dI : Nat → Nat → Nat} {ws wc wr pre : va_W} {tys tc : List (ClassId × FieldType)} {Qc : Array Value → State → Outcome → State → Prop} {E : String}
theorem pt_S {As : List Value} (hP : va_P (dC, dI) vwCl ws H) (hD : va_D A ws) (hK : va_K (dC, dI) vwCl tys s) (hE : EX s) (hT : TX s) (hZ : ZT A s s.heap) (hS : va_S A s.heap H locs) (hA : ∀ q, s.heap.size ≤ q → A q) (isC tC : List Nat) (hn : va_nd isC = true) (hC : isC.map (fun i => ws[i]?) = wc.map some) (hTc : tC.map (fun i => tys[i]?) = tc.map some) : PreS s H (va_Pc As (PT dC dI H.size wc tc)) As :=
  ⟨pt_blind, fun U hU hW => ⟨rfl, ((pr_S (As := As) hP hD hK hE isC tC hn hC hTc).2 U hU hW).2, TX.warm hW hT, by rw [hU]; exact ZT.moved hW.alike ((hZ.kept hS.2.1).narrow (va_free (wc := wc) hD hS hA isC hC))⟩⟩
theorem pt_V {As : List Value} {b ci N : Nat} {C : String} {T : u_T} {fs : List Value} (hP : va_P (dC, dI) vwCl ws H) (hD : va_D A ws) (hK : va_K (dC, dI) vwCl tys s) (hE : EX s) (hT : TX s) (hZ : ZT A s s.heap) (hS : va_S A s.heap H locs) (hA : ∀ q, s.heap.size ≤ q → A q) (isC tC : List Nat) (hn : va_nd isC = true) (hC : isC.map (fun i => ws[i]?) = wc.map some) (hTc : tC.map (fun i => tys[i]?) = tc.map some) (hc : vwCl[ci]? = some (C, T, N)) (he : wc[0]? = some (b, .inr (ci, fs))) : PreV s H C b (va_Pc (.ref b :: As) (PT dC dI H.size wc tc)) As :=
  ⟨pt_blind, va_recv (q0 := 0) (hK.sub tC (fm_map hTc)) (hP.sub isC (fm_map hC)) hc he, (pt_S (As := .ref b :: As) hP hD hK hE hT hZ hS hA isC tC hn hC hTc).2⟩
theorem th_0 (hexec : p.tables.exec = Jvm.exec) (hb : c.code = cc) (hl : l.stackTraces = false) {own cls : String} {names : List String} {ik ic : Nat}
    (hown : s.vm.findClass own = some m.cls) (hcls : Bundle.fit cls = true) (hnames : ∀ n ∈ names, Bundle.fit n = true)
    (hk : (Cond.classLink own ik cls).before args s = true) (hini : (Cond.initialized cls).before args s = true) (hat : ∀ w ∈ vx_at0 own ic cls names, w.before args s = true)
    (hgood : ∀ w ∈ Cond.classLink own ik cls :: Cond.initialized cls :: vx_at0 own ic cls names, vx_ot w = true)
    (hQ : Q = vx_MQ below Qc (XT dC dI pre s.heap.size cls) args s mc ms (va_A pre s.heap.size)) (hAe : va_A pre s.heap.size = A) (hZ : ZT A s s.heap) (hP : va_P (dC, dI) vwCl ws H) (hD : va_D A ws) (hS : va_S A s.heap H locs) (hsize : ls.size = c.maxLocals)
    (is : List Nat) (hn : va_nd is = true) (hs : is.map (fun i => ws[i]?) = pre.map some)
    (d0 : decode cc pc = .ok (.new ik, 3)) (d3 : decode cc (pc + 3) = .ok (.dup, 1)) (d4 : decode cc (pc + 4) = .ok (.invokespecial ic, 3)) (d7 : decode cc (pc + 7) = .ok (.athrow, 1))
    (ht : ∀ x ∈ c.exceptionTable.toList, False)
    (hRf : names.length + 3 < R.frames) (hRl : (rest.map fun v => v.category).sum + (13 * (names.length + 1) + 42) ≤ R.locals) (hRc : cells + 1 ≤ R.cells) (hRs : slots + 6 ≤ R.slots) (hlk : meth.locks = false) (hc : cells + 1 ≤ mc) (hs2 : slots + 6 ≤ ms) :
    W p l e R s m args below meth c H locs cells slots Q (F0 m pc ls rest) := by
  subst hAe; subst hQ
  have hP' := hP.sub is (fm_map hs)
  exact vx_throw0 hexec hb hl hown hcls hnames hk hini hat hgood hZ.1 hZ.2 hS hsize d0 d3 d4 d7 (fun x hx => (ht x hx).elim) hRf hRl hRc hRs hlk
    (fun t hvm h1 h2 => ⟨rfl, hP'.kept (fun k x hk => h2 x.1 (hP' k x hk).lt), hD.sub is hn hs, Nat.le_trans hS.1 h1, fun q hq hA => (h2 q (Nat.lt_of_lt_of_le hq hS.1)).trans (hS.2.1 q hq hA)⟩) hS.2.2 hc hs2
/-- thrown further down, not caught here -/
theorem ct_out (hr : vx_Run p l e R s m args below meth c H locs cells slots mc1 ms1 (F0 m pc ls st0) rest (fun _ _ _ => False) (XT dC dI wc H.size E) (va_A wc H.size))
    (hQ : Q = vx_MQ below Qc (XT dC dI pre s.heap.size E) args s mc ms (va_A pre s.heap.size)) (hAe : va_A pre s.heap.size = A) (ht : ∀ x ∈ c.exceptionTable.toList, False) (hlk : meth.locks = false)
    (hP : va_P (dC, dI) vwCl ws H) (hD : va_D A ws) (hS : va_S A s.heap H locs) (hA : ∀ q, s.heap.size ≤ q → A q)
    (isC isR : List Nat) (hC : isC.map (fun i => ws[i]?) = wc.map some) (hR : isR.map (fun i => ws[i]?) = wr.map some) (hn : va_nd isR = true) (hdis : ∀ i ∈ isR, i ∉ isC)
    (is : List Nat) (hn2 : va_nd is = true) (hs2 : is.map (fun i => (wr ++ wc)[i]?) = pre.map some) (h1 : cells + mc1 ≤ mc) (h2 : slots + ms1 ≤ ms) : W p l e R s m args below meth c H locs cells slots Q (F0 m pc ls st0) := by
  subst hAe; subst hQ
  intro T hT X
  rcases hr T hT X with ⟨v, st₀, t, T', L, h0, X', hL, e1, e2, hq, st⟩ | ⟨q, st₀, t, T', L, E', ce, h0, X', hL, e1, e2, ⟨rfl, hb, hd, hF⟩, hce, hcv, hcl, st⟩
  · exact hq.elim
  · have hFr := va_free (wc := wc) hD hS hA isC hC
    obtain ⟨hz, hk⟩ := hF
    rw [h0] at hz hk
    obtain ⟨hP1, hD1⟩ := va_join (H1 := t.heap) hP hD isC isR hC hR hn hdis hk hFr hb hd
    have hS1 : va_S (va_A pre s.heap.size) s.heap T'.heap (locs ++ L) := ⟨Nat.le_trans hS.1 (by rw [e1]; exact hz), fun q h1 h2 => by rw [e1, hk q (Nat.lt_of_lt_of_le h1 hS.1) (fun z => h2 (hFr q z))]; exact hS.2.1 q h1 h2, fun q hq => by
      rcases List.mem_append.mp hq with h | h
      · exact hS.2.2 q h
      · exact hFr _ (hL q h)⟩
    obtain ⟨t2, a1, b1⟩ := vx_out (Qc := Qc) (XC := XT dC dI pre s.heap.size E') (ls := ls) (rest := rest) (pc := pc) (E := E') (free := va_A pre s.heap.size) (mc := mc) (ms := ms) (fun x hx => (ht x hx).elim) hlk (by rw [e1]; exact hce) hcv hcl
      (fun u hu hvm => ⟨rfl, by rw [hu, e1]; exact hP1.sub is (fm_map hs2), hD1.sub is hn2 hs2, hS1.F hu⟩) hS1.2.2 h1 h2 T' rfl X'
    exact ⟨t2, st.trans a1, b1⟩
/-- thrown further down, caught by a row of the table -/
theorem ct_catch (hr : vx_Run p l e R s m args below meth c H locs cells slots mc1 ms1 (F0 m pc ls st0) rest (fun _ _ _ => False) (XT dC dI wc H.size E) (va_A wc H.size)) {own : String} (hown : s.vm.findClass own = some m.cls)
    (pre0 : List ExceptionTableEntry) (x0 : ExceptionTableEntry) (suf0 : List ExceptionTableEntry) (hsplit : c.exceptionTable.toList = pre0 ++ x0 :: suf0)
    (hpass : ∀ z ∈ pre0, covers z pc = false ∨ (z.catchType ≠ 0 ∧ ∃ nm : String, (Cond.classLink own z.catchType nm).before args s = true ∧ va_Nc E nm s)) (hcov : covers x0 pc = true) (h00 : x0.catchType ≠ 0)
    (hlink : (Cond.classLink own x0.catchType E).before args s = true) (hcast : (Cond.castable E E).before args s = true)
    (hP : va_P (dC, dI) vwCl ws H) (hD : va_D A ws) (hS : va_S A H0 H locs) (hA : ∀ q, H0.size ≤ q → A q)
    (isC isR : List Nat) (hC : isC.map (fun i => ws[i]?) = wc.map some) (hR : isR.map (fun i => ws[i]?) = wr.map some) (hn : va_nd isR = true) (hdis : ∀ i ∈ isR, i ∉ isC)
    (kk : ∀ (q : Nat) (H1 : Heap) (locs1 : List Loc), va_P (dC, dI) vwCl (wr ++ wc) H1 → va_D A (wr ++ wc) → va_S A H0 H1 locs1 → W p l e R s m args below meth c H1 locs1 (cells + mc1) (slots + ms1) Q (F0 m x0.handlerPc ls [.ref q])) : W p l e R s m args below meth c H locs cells slots Q (F0 m pc ls st0) := by
  intro T hT X
  rcases hr T hT X with ⟨v, st₀, t, T', L, h0, X', hL, e1, e2, hq, st⟩ | ⟨q, st₀, t, T', L, E', ce, h0, X', hL, e1, e2, ⟨rfl, hb, hd, hF⟩, hce, hcv, hcl, st⟩
  · exact hq.elim
  · have hFr := va_free (wc := wc) hD hS hA isC hC
    obtain ⟨hz, hk⟩ := hF
    rw [h0] at hz hk
    obtain ⟨hP1, hD1⟩ := va_join (H1 := t.heap) hP hD isC isR hC hR hn hdis hk hFr hb hd
    have hS1 : va_S A H0 T'.heap (locs ++ L) := ⟨Nat.le_trans hS.1 (by rw [e1]; exact hz), fun q h1 h2 => by rw [e1, hk q (Nat.lt_of_lt_of_le h1 hS.1) (fun z => h2 (hFr q z))]; exact hS.2.1 q h1 h2, fun q hq => by
      rcases List.mem_append.mp hq with h | h
      · exact hS.2.2 q h
      · exact hFr _ (hL q h)⟩
    obtain ⟨t2, a1, b1⟩ := vx_catch (name := E') (E := E') (ls := ls) (rest := rest) (pc := pc) hown pre0 x0 suf0 hsplit hpass hcov h00 hlink hcast (by rw [e1]; exact hce) hcv hcl (kk q T'.heap (locs ++ L) (by rw [e1]; exact hP1) hD1 hS1) T' rfl X'
    exact ⟨t2, st.trans a1, b1⟩
end CT
theorem ge_lt {v : Int32} {a b : Nat} (h : v < 0 ∨ nI a ≤ v) (h0 : ¬ v < 0) (hab : b ≤ a ∧ a < 2147483648) : ¬ v < nI b := by
  intro h2
  rcases h with h | h
  · exact h0 h
  · have h3 : nI a < nI b := Int32.lt_of_le_of_lt h h2
    have h4 := (nI_ltI hab.2 (Nat.lt_of_le_of_lt hab.1 hab.2)).mp h3
    omega
theorem xa_49 : ∀ w ∈ (vx_at0 RX2 49 sIO xNM).filter goodWord, w ∈ AW := fun w hw => aw_i (of_decide_eq_true (List.all_eq_true.mp (show ((vx_at0 RX2 49 sIO xNM).filter goodWord).all (fun w => decide (w ∈ lw_tbl)) = true by decide +kernel) w hw)) (List.mem_filter.mp hw).2
theorem xb_49 : ∀ w ∈ (vx_at0 RX2 49 sIO xNM).filter (fun w => !goodWord w), w ∈ [Cond.castable sIO sIO, Cond.declares xD1, Cond.declares xD2, Cond.declares xD3] := by decide +kernel
theorem xg_49 : ∀ w ∈ Cond.classLink RX2 47 sIO :: Cond.initialized sIO :: vx_at0 RX2 49 sIO xNM, vx_ot w = true := by decide +kernel
theorem xa_91 : ∀ w ∈ (vx_at0 RX2 91 sIS xNM).filter goodWord, w ∈ AW := fun w hw => aw_i (of_decide_eq_true (List.all_eq_true.mp (show ((vx_at0 RX2 91 sIS xNM).filter goodWord).all (fun w => decide (w ∈ lw_tbl)) = true by decide +kernel) w hw)) (List.mem_filter.mp hw).2
theorem xb_91 : ∀ w ∈ (vx_at0 RX2 91 sIS xNM).filter (fun w => !goodWord w), w ∈ [Cond.castable sIS sIS, Cond.declares xD1, Cond.declares xD2, Cond.declares xD3] := by decide +kernel
theorem xg_91 : ∀ w ∈ Cond.classLink RX2 89 sIS :: Cond.initialized sIS :: vx_at0 RX2 91 sIS xNM, vx_ot w = true := by decide +kernel
theorem xa_128 : ∀ w ∈ (vx_at0 RX2 128 sIA xNM).filter goodWord, w ∈ AW := fun w hw => aw_i (of_decide_eq_true (List.all_eq_true.mp (show ((vx_at0 RX2 128 sIA xNM).filter goodWord).all (fun w => decide (w ∈ lw_tbl)) = true by decide +kernel) w hw)) (List.mem_filter.mp hw).2
theorem xb_128 : ∀ w ∈ (vx_at0 RX2 128 sIA xNM).filter (fun w => !goodWord w), w ∈ [Cond.castable sIA sIA, Cond.declares xD1, Cond.declares xD2, Cond.declares xD3] := by decide +kernel
theorem xg_128 : ∀ w ∈ Cond.classLink RX2 126 sIA :: Cond.initialized sIA :: vx_at0 RX2 128 sIA xNM, vx_ot w = true := by decide +kernel
theorem xa_131 : ∀ w ∈ (vx_at0 RX2 131 sUO xNM).filter goodWord, w ∈ AW := fun w hw => aw_i (of_decide_eq_true (List.all_eq_true.mp (show ((vx_at0 RX2 131 sUO xNM).filter goodWord).all (fun w => decide (w ∈ lw_tbl)) = true by decide +kernel) w hw)) (List.mem_filter.mp hw).2
theorem xb_131 : ∀ w ∈ (vx_at0 RX2 131 sUO xNM).filter (fun w => !goodWord w), w ∈ [Cond.castable sUO sUO, Cond.declares xD1, Cond.declares xD2, Cond.declares xD3] := by decide +kernel
theorem xg_131 : ∀ w ∈ Cond.classLink RX2 129 sUO :: Cond.initialized sUO :: vx_at0 RX2 131 sUO xNM, vx_ot w = true := by decide +kernel
abbrev wsL_word : List Cond := Cond.codeWith yL_word cL_word 4 (some .int) [(0, 9, 12, 13)] :: AW
abbrev wsL_aside : List Cond := Cond.codeWith yL_aside cL_aside 6 (some .int) [(0, 11, 14, 19), (0, 11, 18, 21), (0, 11, 22, 23)] :: AW
abbrev wsL_text : List Cond := Cond.codeWith yL_text cL_text 6 (some .int) [(0, 10, 13, 19), (0, 10, 17, 21), (0, 10, 21, 23)] :: AW
abbrev wsL_seal : List Cond := Cond.codeWith yL_seal cL_seal 3 (some .int) [(0, 8, 11, 19)] :: AW
abbrev wsL_open : List Cond := Cond.codeWith yL_open cL_open 7 (some .int) [(0, 18, 21, 19)] :: AW
abbrev wsL_tag : List Cond := Cond.codeWith yL_tag cL_tag 4 (some .int) [(0, 8, 11, 19)] :: AW

/-! what every walk here rests on: contracts that name the world behind a call outright -/
theorem top_i {p : Program} {l : Launch} {e : Env} {R : Room} {s : State} {m : MethodId} {args : Array Value} {below : List Frame} {meth : Method} {c : Code} {H : Heap} {locs : List Loc} {cells slots : Nat} {Q : State → Prop} {pc : Nat} {ls : Array Slot} {rest : List Value} {x y : Int32} (h : x = y) (k : W p l e R s m args below meth c H locs cells slots Q (F0 m pc ls (.int y :: rest))) : W p l e R s m args below meth c H locs cells slots Q (F0 m pc ls (.int x :: rest)) := by
  subst h; exact k
theorem top_l {p : Program} {l : Launch} {e : Env} {R : Room} {s : State} {m : MethodId} {args : Array Value} {below : List Frame} {meth : Method} {c : Code} {H : Heap} {locs : List Loc} {cells slots : Nat} {Q : State → Prop} {pc : Nat} {ls : Array Slot} {rest : List Value} {x y : Int64} (h : x = y) (k : W p l e R s m args below meth c H locs cells slots Q (F0 m pc ls (.long y :: rest))) : W p l e R s m args below meth c H locs cells slots Q (F0 m pc ls (.long x :: rest)) := by
  subst h; exact k
theorem w_pc {p : Program} {l : Launch} {e : Env} {R : Room} {s : State} {m : MethodId} {args : Array Value} {below : List Frame} {meth : Method} {c : Code} {H : Heap} {locs : List Loc} {cells slots : Nat} {Q : State → Prop} {pc pc2 : Nat} {ls : Array Slot} {st : List Value} (h : pc = pc2) (k : W p l e R s m args below meth c H locs cells slots Q (F0 m pc2 ls st)) : W p l e R s m args below meth c H locs cells slots Q (F0 m pc ls st) := by
  subst h; exact k
theorem fm_map {α β : Type} {f : α → Option β} : ∀ {is : List α} {l : List β}, is.map f = l.map some → is.filterMap f = l
  | [], [], _ => rfl
  | [], _ :: _, h => by cases h
  | _ :: _, [], h => by cases h
  | a :: is, b :: l, h => by
    simp only [List.map_cons, List.cons.injEq] at h
    rw [List.filterMap_cons_some h.1, fm_map h.2]
/-- what a walk carries beside the world: the nest mate's link -/
def EX (U : State) : Prop := va_Nw (.methodLinkNest RX0 83 yX2_joinBytes RX2) U
theorem EX.same {u U : State} (h : u.vm = U.vm) (hE : EX u) : EX U := va_Nw.same rfl h hE
theorem EX.warm {s U : State} (hW : s.WarmedH U.vm) (h : EX s) : EX U := va_Nw.warmM hW h
def PR (dC : Nat → ClassId) (dI : Nat → Nat → Nat) (sz : Nat) (w : va_W) (ty : List (ClassId × FieldType)) (U : State) : Prop :=
  U.heap.size = sz ∧ va_P (dC, dI) vwCl w U.heap ∧ va_K (dC, dI) vwCl ty U ∧ va_D (fun _ => True) w ∧ EX U
def QO (dC : Nat → ClassId) (dI : Nat → Nat → Nat) (pre post : va_W) (sz : Nat) (o : Option Value) : Array Value → State → Outcome → State → Prop :=
  fun _ st oc t => (oc = .returned o ∧ va_P (dC, dI) vwCl post t.heap ∧ va_D (va_A pre sz) post) ∧ va_F (va_A pre sz) st t
/-- a method's contract: from the cells pre it answers o, and the cells post are there -/
def MO (l : Launch) (dC : Nat → ClassId) (dI : Nat → Nat → Nat) (y : MethodName) (ws : List Cond) (rm : Room) (av : List Value) (pre : va_W) (ty : List (ClassId × FieldType)) (post : va_W) (o : Option Value) : Prop :=
  ∀ sz : Nat, Met l y ws rm (va_Pc av (PR dC dI sz pre ty)) (QO dC dI pre post sz o) rm.cells rm.slots (va_A pre sz)
theorem MO.to {l : Launch} {dC : Nat → ClassId} {dI : Nat → Nat → Nat} {y : MethodName} {ws : List Cond} {rm : Room} {av : List Value} {pre : va_W} {ty : List (ClassId × FieldType)} {post : va_W} {o : Option Value} (h : MO l dC dI y ws rm av pre ty post o) (sz : Nat) : Met l y ws rm (va_Pc av (PR dC dI sz pre ty)) (QO dC dI pre post sz o) rm.cells rm.slots (va_A pre sz) := h sz
theorem mo_ofW {l : Launch} {dC : Nat → ClassId} {dI : Nat → Nat → Nat} {y : MethodName} {ws : List Cond} {rm : Room} {av : List Value} {pre : va_W} {ty : List (ClassId × FieldType)} {post : va_W} {o : Option Value} {cc : ByteArray} {maxL : Nat} {ret : Option FieldType}
    (hy : plainName y.cls = true) (hw : ws = Cond.code y cc maxL ret :: AW) (hlen : (lg_sl av).length ≤ maxL)
    (body : ∀ (p : Program) (e : Env) (s : State) (m : MethodId) (args : Array Value) (below : List Frame) (meth : Method) (c : Code) (Q : State → Prop) (A : Nat → Prop) (H : Heap) (locs : List Loc) (ls : Array Slot),
      p.tables.exec = Jvm.exec → c.code = cc → meth.sig.returnType = ret → meth.locks = false → c.maxLocals = maxL → (∀ w ∈ AW, w.before args s = true) → s.vm.findClass y.cls = some m.cls → meth.name = y.name → EX s →
      Q = MQ below (QO dC dI pre post s.heap.size o) args s rm.cells rm.slots (va_A pre s.heap.size) → va_A pre s.heap.size = A → (∀ q, s.heap.size ≤ q → A q) → va_K (dC, dI) vwCl ty s → va_P (dC, dI) vwCl pre H → va_D A pre → va_S A s.heap H locs → lv_has ls maxL (lv_args 0 av) →
      W p l e rm s m args below meth c H locs 0 0 Q (F0 m 0 ls [])) : MO l dC dI y ws rm av pre ty post o := by
  intro sz
  refine Met.ofW (cc := cc) (maxL := maxL) (ret := ret) hy hw ?_
  intro p e s m args below meth c s₁ B hml hv
  obtain ⟨hav, hsz, hP, hK, hD0, hE⟩ := hv
  have hts := atoms_spec (ws := ws) B.pre
  have hl := lv_entry av (n := maxL) hlen
  subst hav
  rw [lg_entry_eq]
  subst hsz
  exact body p e s m _ below meth c _ _ s.heap [] _ B.exec B.bytes B.returns B.notSynchronized hml (fun w h => hts w (by rw [hw]; exact List.mem_cons_of_mem _ h)) (findClass_of_methodNamed B.named) (name_of_methodNamed B.named B.method).1 hE rfl rfl (fun q h => Or.inr h) hK hP hD0.self va_S.rf hl
theorem pr_blind {dC : Nat → ClassId} {dI : Nat → Nat → Nat} {sz : Nat} {w : va_W} {ty : List (ClassId × FieldType)} {av : List Value} : FrameBlind (va_Pc av (PR dC dI sz w ty)) := fun a U g mk q => by
  obtain ⟨q0, q1, qP, qK, qD, qE⟩ := q
  exact ⟨q0, q1, qP, va_K.moved (u := U) (U := U.calling g mk a) (Vm.Alike.refl U.vm) qK, qD, EX.same (U := U.calling g mk a) rfl qE⟩
section CF
variable {p : Program} {l : Launch} {e : Env} {R : Room} {s : State} {m : MethodId} {args : Array Value} {below : List Frame} {meth : Method} {c : Code} {H : Heap} {locs : List Loc} {cells slots : Nat} {Q : State → Prop}
variable {cc : ByteArray} {pc : Nat} {ls : Array Slot} {rest st0 : List Value} {A : Nat → Prop} {H0 : Heap} {mc ms : Nat} {dC : Nat → ClassId} {dI : Nat → Nat → Nat} {ws wc wr w1 pre post : va_W} {tys tc : List (ClassId × FieldType)}
theorem pr_S {As : List Value} (hP : va_P (dC, dI) vwCl ws H) (hD : va_D A ws) (hK : va_K (dC, dI) vwCl tys s) (hE : EX s) (isC tC : List Nat) (hn : va_nd isC = true) (hC : isC.map (fun i => ws[i]?) = wc.map some) (hT : tC.map (fun i => tys[i]?) = tc.map some) : PreS s H (va_Pc As (PR dC dI H.size wc tc)) As :=
  ⟨pr_blind, fun U hU hW => ⟨rfl, by rw [hU], by rw [hU]; exact hP.sub isC (fm_map hC), va_K.moved hW.alike (hK.sub tC (fm_map hT)), (hD.sub isC hn hC).weaken (fun _ _ _ _ => trivial), EX.warm hW hE⟩⟩
theorem pr_V {As : List Value} {b ci N : Nat} {C : String} {T : u_T} {fs : List Value} (hP : va_P (dC, dI) vwCl ws H) (hD : va_D A ws) (hK : va_K (dC, dI) vwCl tys s) (hE : EX s) (isC tC : List Nat) (hn : va_nd isC = true) (hC : isC.map (fun i => ws[i]?) = wc.map some) (hT : tC.map (fun i => tys[i]?) = tc.map some) (hc : vwCl[ci]? = some (C, T, N)) (he : wc[0]? = some (b, .inr (ci, fs))) : PreV s H C b (va_Pc (.ref b :: As) (PR dC dI H.size wc tc)) As :=
  ⟨pr_blind, va_recv (q0 := 0) (hK.sub tC (fm_map hT)) (hP.sub isC (fm_map hC)) hc he, (pr_S (As := .ref b :: As) hP hD hK hE isC tC hn hC hT).2⟩
theorem cf_o {o : Option Value} {a : Array Value} (hr : va_Run p l e R s m args below meth c H locs cells slots mc ms (F0 m pc ls st0) rest (QO dC dI wc w1 H.size o a) (va_A wc H.size)) (hP : va_P (dC, dI) vwCl ws H) (hD : va_D A ws) (hS : va_S A H0 H locs) (hA : ∀ q, H0.size ≤ q → A q)
    (isC isR : List Nat) (hC : isC.map (fun i => ws[i]?) = wc.map some) (hR : isR.map (fun i => ws[i]?) = wr.map some) (hn : va_nd isR = true) (hdis : ∀ i ∈ isR, i ∉ isC)
    (kk : ∀ (H1 : Heap) (locs1 : List Loc), va_P (dC, dI) vwCl (wr ++ w1) H1 → va_D A (wr ++ w1) → va_S A H0 H1 locs1 → W p l e R s m args below meth c H1 locs1 (cells + mc) (slots + ms) Q (F0 m (pc + 3) ls (o.toList ++ rest))) : W p l e R s m args below meth c H locs cells slots Q (F0 m pc ls st0) := by
  intro T hT X
  obtain ⟨v, st₀, t, T', L, h0, X', hL, e1, e2, ⟨⟨hv, hb, hd⟩, hz, hk⟩, st⟩ := hr T hT X
  cases hv
  have hF := va_free (wc := wc) hD hS hA isC hC
  rw [h0] at hz hk
  obtain ⟨hP1, hD1⟩ := va_join (H1 := t.heap) hP hD isC isR hC hR hn hdis hk hF hb hd
  obtain ⟨t2, a1, b1⟩ := kk T'.heap (locs ++ L) (by rw [e1]; exact hP1) hD1
    ⟨Nat.le_trans hS.1 (by rw [e1]; exact hz), fun q h1 h2 => by rw [e1, hk q (Nat.lt_of_lt_of_le h1 hS.1) (fun z => h2 (hF q z))]; exact hS.2.1 q h1 h2, fun q hq => by
      rcases List.mem_append.mp hq with h | h
      · exact hS.2.2 q h
      · exact hF _ (hL q h)⟩ T' rfl X'
  exact ⟨t2, st t2 a1, b1⟩
theorem cf_0 {a : Array Value} (hr : va_Run p l e R s m args below meth c H locs cells slots mc ms (F0 m pc ls st0) rest (QO dC dI wc w1 H.size none a) (va_A wc H.size)) (hP : va_P (dC, dI) vwCl ws H) (hD : va_D A ws) (hS : va_S A H0 H locs) (hA : ∀ q, H0.size ≤ q → A q)
    (isC isR : List Nat) (hC : isC.map (fun i => ws[i]?) = wc.map some) (hR : isR.map (fun i => ws[i]?) = wr.map some) (hn : va_nd isR = true) (hdis : ∀ i ∈ isR, i ∉ isC)
    (kk : ∀ (H1 : Heap) (locs1 : List Loc), va_P (dC, dI) vwCl (wr ++ w1) H1 → va_D A (wr ++ w1) → va_S A H0 H1 locs1 → W p l e R s m args below meth c H1 locs1 (cells + mc) (slots + ms) Q (F0 m (pc + 3) ls rest)) : W p l e R s m args below meth c H locs cells slots Q (F0 m pc ls st0) := cf_o hr hP hD hS hA isC isR hC hR hn hdis kk
theorem cf_1 {a : Array Value} {v : Value} (hr : va_Run p l e R s m args below meth c H locs cells slots mc ms (F0 m pc ls st0) rest (QO dC dI wc w1 H.size (some v) a) (va_A wc H.size)) (hP : va_P (dC, dI) vwCl ws H) (hD : va_D A ws) (hS : va_S A H0 H locs) (hA : ∀ q, H0.size ≤ q → A q)
    (isC isR : List Nat) (hC : isC.map (fun i => ws[i]?) = wc.map some) (hR : isR.map (fun i => ws[i]?) = wr.map some) (hn : va_nd isR = true) (hdis : ∀ i ∈ isR, i ∉ isC)
    (kk : ∀ (H1 : Heap) (locs1 : List Loc), va_P (dC, dI) vwCl (wr ++ w1) H1 → va_D A (wr ++ w1) → va_S A H0 H1 locs1 → W p l e R s m args below meth c H1 locs1 (cells + mc) (slots + ms) Q (F0 m (pc + 3) ls (v :: rest))) : W p l e R s m args below meth c H locs cells slots Q (F0 m pc ls st0) := cf_o hr hP hD hS hA isC isR hC hR hn hdis kk
theorem rt_0 (hexec : p.tables.exec = Jvm.exec) (hb : c.code = cc) (hr : meth.sig.returnType = none) (hlk : meth.locks = false) (hQ : Q = MQ below (QO dC dI pre post s.heap.size none) args s mc ms (va_A pre s.heap.size)) (hAe : va_A pre s.heap.size = A) (hP : va_P (dC, dI) vwCl ws H) (hD : va_D A ws) (hS : va_S A s.heap H locs)
    (is : List Nat) (hn : va_nd is = true) (hs : is.map (fun i => ws[i]?) = post.map some) (h1 : cells ≤ mc) (h2 : slots ≤ ms) (hdg : decode cc pc = .ok (.return_, 1)) : W p l e R s m args below meth c H locs cells slots Q (F0 m pc ls []) := by
  subst hAe; subst hQ
  exact W.widen h1 h2 (W.vret hexec hb hr (fun t ht hW => ⟨⟨rfl, by rw [ht]; exact hP.sub is (fm_map hs), hD.sub is hn hs⟩, hS.F ht⟩) hS.2.2 hdg hlk)
theorem rt_i {x r : Int32} (hexec : p.tables.exec = Jvm.exec) (hb : c.code = cc) (hr : meth.sig.returnType = some .int) (hlk : meth.locks = false) (hQ : Q = MQ below (QO dC dI pre post s.heap.size (some (.int r))) args s mc ms (va_A pre s.heap.size)) (hAe : va_A pre s.heap.size = A) (hP : va_P (dC, dI) vwCl ws H) (hD : va_D A ws) (hS : va_S A s.heap H locs)
    (is : List Nat) (hn : va_nd is = true) (hs : is.map (fun i => ws[i]?) = post.map some) (h1 : cells ≤ mc) (h2 : slots ≤ ms) (hv : x = r) (hdg : decode cc pc = .ok (.ireturn, 1)) : W p l e R s m args below meth c H locs cells slots Q (F0 m pc ls [.int x]) := by
  subst hAe; subst hQ; subst hv
  exact W.widen h1 h2 (W.iret hexec hb hr (fun t ht hW => ⟨⟨rfl, by rw [ht]; exact hP.sub is (fm_map hs), hD.sub is hn hs⟩, hS.F ht⟩) hS.2.2 hdg hlk)
theorem rt_l {x r : Int64} (hexec : p.tables.exec = Jvm.exec) (hb : c.code = cc) (hr : meth.sig.returnType = some .long) (hlk : meth.locks = false) (hQ : Q = MQ below (QO dC dI pre post s.heap.size (some (.long r))) args s mc ms (va_A pre s.heap.size)) (hAe : va_A pre s.heap.size = A) (hP : va_P (dC, dI) vwCl ws H) (hD : va_D A ws) (hS : va_S A s.heap H locs)
    (is : List Nat) (hn : va_nd is = true) (hs : is.map (fun i => ws[i]?) = post.map some) (h1 : cells ≤ mc) (h2 : slots ≤ ms) (hv : x = r) (hdg : decode cc pc = .ok (.lreturn, 1)) : W p l e R s m args below meth c H locs cells slots Q (F0 m pc ls [.long x]) := by
  subst hAe; subst hQ; subst hv
  exact W.widen h1 h2 (W.lret hexec hb hr (fun t ht hW => ⟨⟨rfl, by rw [ht]; exact hP.sub is (fm_map hs), hD.sub is hn hs⟩, hS.F ht⟩) hS.2.2 hdg hlk)
theorem rt_z {x r : Int32} (hexec : p.tables.exec = Jvm.exec) (hb : c.code = cc) (hr : meth.sig.returnType = some .boolean) (hlk : meth.locks = false) (hQ : Q = MQ below (QO dC dI pre post s.heap.size (some (.int r))) args s mc ms (va_A pre s.heap.size)) (hAe : va_A pre s.heap.size = A) (hP : va_P (dC, dI) vwCl ws H) (hD : va_D A ws) (hS : va_S A s.heap H locs)
    (is : List Nat) (hn : va_nd is = true) (hs : is.map (fun i => ws[i]?) = post.map some) (h1 : cells ≤ mc) (h2 : slots ≤ ms) (hv : x = r) (hz : narrow .boolean (.int r) = .int r) (hdg : decode cc pc = .ok (.ireturn, 1)) : W p l e R s m args below meth c H locs cells slots Q (F0 m pc ls [.int x]) := by
  subst hAe; subst hQ; subst hv
  exact W.widen h1 h2 (W.zret hexec hb hr hz (fun t ht hW => ⟨⟨rfl, by rw [ht]; exact hP.sub is (fm_map hs), hD.sub is hn hs⟩, hS.F ht⟩) hS.2.2 hdg hlk)
end CF
/-! arrays of bytes: a function on the natural numbers -/
def nF (b : Nat → Nat) : Nat → Int32 := fun i => nI (b i)
def un (b : Nat → Nat) (k v : Nat) : Nat → Nat := fun j => if j = k then v else b j
theorem un_s {b : Nat → Nat} {k v : Nat} : un b k v k = v := if_pos rfl
theorem un_n {b : Nat → Nat} {k v j : Nat} (h : j ≠ k) : un b k v j = b j := if_neg h
theorem upd_nF (b : Nat → Nat) (k v : Nat) : upd (nF b) k (nI v) = nF (un b k v) := by
  funext j
  by_cases h : j = k
  · simp [upd, nF, un, h]
  · simp [upd, nF, un, h]
section AL
variable {p : Program} {l : Launch} {e : Env} {R : Room} {s : State} {m : MethodId} {args : Array Value} {below : List Frame} {meth : Method} {c : Code} {H : Heap} {locs : List Loc} {cells slots : Nat} {Q : State → Prop}
variable {cc : ByteArray} {pc : Nat} {ls : Array Slot} {rest : List Value} {D : va_G} {cl : List vw_C} {tys : List (ClassId × FieldType)} {ws : va_W} {A : Nat → Prop} {H0 : Heap} {a : Nat}
/-- an array read at a natural number -/
theorem va_ialn (hexec : p.tables.exec = Jvm.exec) (hb : c.code = cc) (hK : va_K D cl tys s) (hP : va_P D cl ws H) (q0 t0 : Nat) {cA : ClassId} {n : Nat} {f : Nat → Int32} (ha : ws[q0]? = some (a, .inl (cA, n, .inl f))) (ht : tys[t0]? = some (cA, .int)) {k : Nat} (hk : k < n) (hn : n < 2147483648) (hdg : decode cc pc = .ok (.iaload, 1))
    (kk : W p l e R s m args below meth c H locs cells slots Q (F0 m (pc + 1) ls (.int (f k) :: rest))) : W p l e R s m args below meth c H locs cells slots Q (F0 m pc ls (.int (nI k) :: .ref a :: rest)) := by
  refine va_iald hexec hb hK hP q0 t0 ha ht (vp_in_nI hk hn) hdg ?_
  rw [nI_clamp (Nat.lt_trans hk hn)]
  exact kk
/-- an array of bytes read -/
theorem va_ialb (hexec : p.tables.exec = Jvm.exec) (hb : c.code = cc) (hK : va_K D cl tys s) (hP : va_P D cl ws H) (q0 t0 : Nat) {cA : ClassId} {n : Nat} {f : Nat → Nat} (ha : ws[q0]? = some (a, .inl (cA, n, .inl (nF f)))) (ht : tys[t0]? = some (cA, .int)) {k : Nat} (hk : k < n) (hn : n < 2147483648) (hdg : decode cc pc = .ok (.iaload, 1))
    (kk : W p l e R s m args below meth c H locs cells slots Q (F0 m (pc + 1) ls (.int (nI (f k)) :: rest))) : W p l e R s m args below meth c H locs cells slots Q (F0 m pc ls (.int (nI k) :: .ref a :: rest)) := va_ialn hexec hb hK hP q0 t0 ha ht hk hn hdg kk
theorem va_iasn (hexec : p.tables.exec = Jvm.exec) (hb : c.code = cc) (hK : va_K D cl tys s) (hP : va_P D cl ws H) (hD : va_D A ws) (hS : va_S A H0 H locs) (q0 t0 : Nat) {cA : ClassId} {n : Nat} {f : Nat → Int32} (ha : ws[q0]? = some (a, .inl (cA, n, .inl f))) (ht : tys[t0]? = some (cA, .int)) {x : Int32} {k : Nat} (hk : k < n) (hn : n < 2147483648) (hdg : decode cc pc = .ok (.iastore, 1))
    (kk : ∀ (H1 : Heap) (locs1 : List Loc), va_P D cl (ws.set q0 (a, .inl (cA, n, .inl (upd f k x)))) H1 → va_D A (ws.set q0 (a, .inl (cA, n, .inl (upd f k x)))) → va_S A H0 H1 locs1 → W p l e R s m args below meth c H1 locs1 cells slots Q (F0 m (pc + 1) ls rest)) : W p l e R s m args below meth c H locs cells slots Q (F0 m pc ls (.int x :: .int (nI k) :: .ref a :: rest)) := by
  refine va_iast hexec hb hK hP hD hS q0 t0 ha ht (vp_in_nI hk hn) hdg ?_
  rw [nI_clamp (Nat.lt_trans hk hn)]
  exact kk
theorem va_iasb (hexec : p.tables.exec = Jvm.exec) (hb : c.code = cc) (hK : va_K D cl tys s) (hP : va_P D cl ws H) (hD : va_D A ws) (hS : va_S A H0 H locs) (q0 t0 : Nat) {cA : ClassId} {n : Nat} {f : Nat → Nat} (ha : ws[q0]? = some (a, .inl (cA, n, .inl (nF f)))) (ht : tys[t0]? = some (cA, .int)) {x : Nat} {k : Nat} (hk : k < n) (hn : n < 2147483648) (hdg : decode cc pc = .ok (.iastore, 1))
    (kk : ∀ (H1 : Heap) (locs1 : List Loc), va_P D cl (ws.set q0 (a, .inl (cA, n, .inl (nF (un f k x))))) H1 → va_D A (ws.set q0 (a, .inl (cA, n, .inl (nF (un f k x))))) → va_S A H0 H1 locs1 → W p l e R s m args below meth c H1 locs1 cells slots Q (F0 m (pc + 1) ls rest)) : W p l e R s m args below meth c H locs cells slots Q (F0 m pc ls (.int (nI x) :: .int (nI k) :: .ref a :: rest)) := by
  refine va_iasn hexec hb hK hP hD hS q0 t0 ha ht hk hn hdg ?_
  rw [upd_nF]
  exact kk
end AL
theorem arrV_congr (cI : ClassId) (n : Nat) {f g : Nat → Value} (h : ∀ j, j < n → f j = g j) : arrV cI n f = arrV cI n g := by
  unfold arrV
  have e : (fun j : Fin n => f j.val) = fun j : Fin n => g j.val := funext fun j => h j.val j.isLt
  rw [e]
/-- the same cells by another function, where an array's length can't tell them apart -/
theorem va_rec {D : va_G} {cl : List vw_C} {ws : va_W} {A : Nat → Prop} {H : Heap} {a n : Nat} {cA : ClassId} {f g : Nat → Int32} (hP : va_P D cl ws H) (hD : va_D A ws) (q : Nat) (hq : ws[q]? = some (a, .inl (cA, n, .inl f))) (h : ∀ i, i < n → f i = g i) : va_P D cl (ws.set q (a, .inl (cA, n, .inl g))) H ∧ va_D A (ws.set q (a, .inl (cA, n, .inl g))) := by
  refine ⟨hP.set hD hq ?_ (fun _ _ => rfl), hD.set hq⟩
  have h0 : H[a]? = some (vp_cell cA (n, .inl f)) := hP q _ hq
  show H[a]? = some (vp_cell cA (n, .inl g))
  rw [h0, vp_cell_i, vp_cell_i]
  exact congrArg some (arrV_congr cA n (fun j hj => by rw [h j hj]))
theorem va_recb {D : va_G} {cl : List vw_C} {ws : va_W} {A : Nat → Prop} {H : Heap} {a n : Nat} {cA : ClassId} {f g : Nat → Nat} (hP : va_P D cl ws H) (hD : va_D A ws) (q : Nat) (hq : ws[q]? = some (a, .inl (cA, n, .inl (nF f)))) (h : ∀ i, i < n → f i = g i) : va_P D cl (ws.set q (a, .inl (cA, n, .inl (nF g)))) H ∧ va_D A (ws.set q (a, .inl (cA, n, .inl (nF g)))) := va_rec hP hD q hq (fun i hi => by unfold nF; rw [h i hi])
theorem cp16 {f g : Nat → Int32} : ∀ i, i < 16 → va_cpy f g (nI 0).toNatClampNeg (nI 0).toNatClampNeg (nI 16).toNatClampNeg i = f i := by
  intro i hi
  have h0 : (nI 0).toNatClampNeg = 0 := nI_clamp (by decide)
  have h16 : (nI 16).toNatClampNeg = 16 := nI_clamp (by decide)
  rw [h0, h16]
  exact sb_cpy0 hi
theorem lv_re {ls : Array Slot} {nL : Nat} {l l2 : List (Nat × Value)} (h : lv_has ls nL l) (k : Nat) {i : Nat} {v v2 : Value} (hk : l[k]? = some (i, v)) (e : v = v2) (hl : l.set k (i, v2) = l2) : lv_has ls nL l2 := by
  subst e; subst hl
  refine ⟨h.1, h.2.1, fun q hq => ?_⟩
  rcases List.mem_or_eq_of_mem_set hq with h1 | h1
  · exact h.2.2 q h1
  · rw [h1]
    exact h.2.2 _ (List.mem_of_getElem? hk)
/-! contracts with something left open: scratch rows, new cells -/
def QX {σ : Type} (dC : Nat → ClassId) (dI : Nat → Nat → Nat) (pre : va_W) (post : σ → va_W) (ty2 : σ → List (ClassId × FieldType)) (Φ : σ → Prop) (sz : Nat) (o : σ → Option Value) : Array Value → State → Outcome → State → Prop :=
  fun _ st oc t => (∃ u : σ, Φ u ∧ oc = .returned (o u) ∧ va_P (dC, dI) vwCl (post u) t.heap ∧ va_K (dC, dI) vwCl (ty2 u) t ∧ va_D (va_A pre sz) (post u)) ∧ va_F (va_A pre sz) st t
def MX {σ : Type} (l : Launch) (dC : Nat → ClassId) (dI : Nat → Nat → Nat) (y : MethodName) (ws : List Cond) (rm : Room) (av : List Value) (pre : va_W) (ty : List (ClassId × FieldType)) (post : σ → va_W) (ty2 : σ → List (ClassId × FieldType)) (Φ : σ → Prop) (o : σ → Option Value) : Prop :=
  ∀ sz : Nat, Met l y ws rm (va_Pc av (PR dC dI sz pre ty)) (QX dC dI pre post ty2 Φ sz o) rm.cells rm.slots (va_A pre sz)
theorem MX.to {σ : Type} {l : Launch} {dC : Nat → ClassId} {dI : Nat → Nat → Nat} {y : MethodName} {ws : List Cond} {rm : Room} {av : List Value} {pre : va_W} {ty : List (ClassId × FieldType)} {post : σ → va_W} {ty2 : σ → List (ClassId × FieldType)} {Φ : σ → Prop} {o : σ → Option Value} (h : MX l dC dI y ws rm av pre ty post ty2 Φ o) (sz : Nat) : Met l y ws rm (va_Pc av (PR dC dI sz pre ty)) (QX dC dI pre post ty2 Φ sz o) rm.cells rm.slots (va_A pre sz) := h sz
theorem mx_ofW {σ : Type} {l : Launch} {dC : Nat → ClassId} {dI : Nat → Nat → Nat} {y : MethodName} {ws : List Cond} {rm : Room} {av : List Value} {pre : va_W} {ty : List (ClassId × FieldType)} {post : σ → va_W} {ty2 : σ → List (ClassId × FieldType)} {Φ : σ → Prop} {o : σ → Option Value} {cc : ByteArray} {maxL : Nat} {ret : Option FieldType}
    (hy : plainName y.cls = true) (hw : ws = Cond.code y cc maxL ret :: AW) (hlen : (lg_sl av).length ≤ maxL)
    (body : ∀ (p : Program) (e : Env) (s : State) (m : MethodId) (args : Array Value) (below : List Frame) (meth : Method) (c : Code) (Q : State → Prop) (A : Nat → Prop) (H : Heap) (locs : List Loc) (ls : Array Slot),
      p.tables.exec = Jvm.exec → c.code = cc → meth.sig.returnType = ret → meth.locks = false → c.maxLocals = maxL → (∀ w ∈ AW, w.before args s = true) → s.vm.findClass y.cls = some m.cls → meth.name = y.name → EX s →
      Q = MQ below (QX dC dI pre post ty2 Φ s.heap.size o) args s rm.cells rm.slots (va_A pre s.heap.size) → va_A pre s.heap.size = A → (∀ q, s.heap.size ≤ q → A q) → va_K (dC, dI) vwCl ty s → va_P (dC, dI) vwCl pre H → va_D A pre → va_S A s.heap H locs → lv_has ls maxL (lv_args 0 av) →
      W p l e rm s m args below meth c H locs 0 0 Q (F0 m 0 ls [])) : MX l dC dI y ws rm av pre ty post ty2 Φ o := by
  intro sz
  refine Met.ofW (cc := cc) (maxL := maxL) (ret := ret) hy hw ?_
  intro p e s m args below meth c s₁ B hml hv
  obtain ⟨hav, hsz, hP, hK, hD0, hE⟩ := hv
  have hts := atoms_spec (ws := ws) B.pre
  have hl := lv_entry av (n := maxL) hlen
  subst hav
  rw [lg_entry_eq]
  subst hsz
  exact body p e s m _ below meth c _ _ s.heap [] _ B.exec B.bytes B.returns B.notSynchronized hml (fun w h => hts w (by rw [hw]; exact List.mem_cons_of_mem _ h)) (findClass_of_methodNamed B.named) (name_of_methodNamed B.named B.method).1 hE rfl rfl (fun q h => Or.inr h) hK hP hD0.self va_S.rf hl
section CX
variable {σ : Type} {p : Program} {l : Launch} {e : Env} {R : Room} {s : State} {m : MethodId} {args : Array Value} {below : List Frame} {meth : Method} {c : Code} {H : Heap} {locs : List Loc} {cells slots : Nat} {Q : State → Prop}
variable {cc : ByteArray} {pc : Nat} {ls : Array Slot} {rest st0 : List Value} {A : Nat → Prop} {H0 : Heap} {mc ms : Nat} {dC : Nat → ClassId} {dI : Nat → Nat → Nat} {ws wc wr pre : va_W} {post : σ → va_W} {tys : List (ClassId × FieldType)} {ty2 : σ → List (ClassId × FieldType)} {Φ : σ → Prop}
theorem cx_o {o : σ → Option Value} {a : Array Value} (hr : va_Run p l e R s m args below meth c H locs cells slots mc ms (F0 m pc ls st0) rest (QX dC dI wc post ty2 Φ H.size o a) (va_A wc H.size)) (hK : va_K (dC, dI) vwCl tys s) (hP : va_P (dC, dI) vwCl ws H) (hD : va_D A ws) (hS : va_S A H0 H locs) (hA : ∀ q, H0.size ≤ q → A q)
    (isC isR : List Nat) (hC : isC.map (fun i => ws[i]?) = wc.map some) (hR : isR.map (fun i => ws[i]?) = wr.map some) (hn : va_nd isR = true) (hdis : ∀ i ∈ isR, i ∉ isC)
    (kk : ∀ (u : σ) (H1 : Heap) (locs1 : List Loc), Φ u → va_K (dC, dI) vwCl (tys ++ ty2 u) s → va_P (dC, dI) vwCl (wr ++ post u) H1 → va_D A (wr ++ post u) → va_S A H0 H1 locs1 → W p l e R s m args below meth c H1 locs1 (cells + mc) (slots + ms) Q (F0 m (pc + 3) ls ((o u).toList ++ rest))) : W p l e R s m args below meth c H locs cells slots Q (F0 m pc ls st0) := by
  intro T hT X
  obtain ⟨v, st₀, t, T', L, h0, X', hL, e1, e2, ⟨⟨u, hphi, hv, hb, hk1, hd⟩, hz, hk⟩, st⟩ := hr T hT X
  cases hv
  have hF := va_free (wc := wc) hD hS hA isC hC
  have hvm : s.vm.Alike t.vm := by rw [← e2]; exact X'.warmed.alike
  rw [h0] at hz hk
  obtain ⟨hP1, hD1⟩ := va_join (H1 := t.heap) hP hD isC isR hC hR hn hdis hk hF hb hd
  obtain ⟨t2, a1, b1⟩ := kk u T'.heap (locs ++ L) hphi (hK.app (va_K.moved hvm.symm hk1)) (by rw [e1]; exact hP1) hD1
    ⟨Nat.le_trans hS.1 (by rw [e1]; exact hz), fun q h1 h2 => by rw [e1, hk q (Nat.lt_of_lt_of_le h1 hS.1) (fun z => h2 (hF q z))]; exact hS.2.1 q h1 h2, fun q hq => by
      rcases List.mem_append.mp hq with h | h
      · exact hS.2.2 q h
      · exact hF _ (hL q h)⟩ T' rfl X'
  exact ⟨t2, st t2 a1, b1⟩
theorem cx_0 {a : Array Value} (hr : va_Run p l e R s m args below meth c H locs cells slots mc ms (F0 m pc ls st0) rest (QX dC dI wc post ty2 Φ H.size (fun _ => none) a) (va_A wc H.size)) (hK : va_K (dC, dI) vwCl tys s) (hP : va_P (dC, dI) vwCl ws H) (hD : va_D A ws) (hS : va_S A H0 H locs) (hA : ∀ q, H0.size ≤ q → A q)
    (isC isR : List Nat) (hC : isC.map (fun i => ws[i]?) = wc.map some) (hR : isR.map (fun i => ws[i]?) = wr.map some) (hn : va_nd isR = true) (hdis : ∀ i ∈ isR, i ∉ isC)
    (kk : ∀ (u : σ) (H1 : Heap) (locs1 : List Loc), Φ u → va_K (dC, dI) vwCl (tys ++ ty2 u) s → va_P (dC, dI) vwCl (wr ++ post u) H1 → va_D A (wr ++ post u) → va_S A H0 H1 locs1 → W p l e R s m args below meth c H1 locs1 (cells + mc) (slots + ms) Q (F0 m (pc + 3) ls rest)) : W p l e R s m args below meth c H locs cells slots Q (F0 m pc ls st0) := cx_o hr hK hP hD hS hA isC isR hC hR hn hdis kk
theorem cx_1 {a : Array Value} {v : σ → Value} (hr : va_Run p l e R s m args below meth c H locs cells slots mc ms (F0 m pc ls st0) rest (QX dC dI wc post ty2 Φ H.size (fun u => some (v u)) a) (va_A wc H.size)) (hK : va_K (dC, dI) vwCl tys s) (hP : va_P (dC, dI) vwCl ws H) (hD : va_D A ws) (hS : va_S A H0 H locs) (hA : ∀ q, H0.size ≤ q → A q)
    (isC isR : List Nat) (hC : isC.map (fun i => ws[i]?) = wc.map some) (hR : isR.map (fun i => ws[i]?) = wr.map some) (hn : va_nd isR = true) (hdis : ∀ i ∈ isR, i ∉ isC)
    (kk : ∀ (u : σ) (H1 : Heap) (locs1 : List Loc), Φ u → va_K (dC, dI) vwCl (tys ++ ty2 u) s → va_P (dC, dI) vwCl (wr ++ post u) H1 → va_D A (wr ++ post u) → va_S A H0 H1 locs1 → W p l e R s m args below meth c H1 locs1 (cells + mc) (slots + ms) Q (F0 m (pc + 3) ls (v u :: rest))) : W p l e R s m args below meth c H locs cells slots Q (F0 m pc ls st0) := cx_o hr hK hP hD hS hA isC isR hC hR hn hdis kk
theorem rx_0 (u : σ) (hphi : Φ u) (hexec : p.tables.exec = Jvm.exec) (hb : c.code = cc) (hr : meth.sig.returnType = none) (hlk : meth.locks = false) (hQ : Q = MQ below (QX dC dI pre post ty2 Φ s.heap.size (fun _ => none)) args s mc ms (va_A pre s.heap.size)) (hAe : va_A pre s.heap.size = A) (hK : va_K (dC, dI) vwCl tys s) (hP : va_P (dC, dI) vwCl ws H) (hD : va_D A ws) (hS : va_S A s.heap H locs)
    (is ts : List Nat) (hn : va_nd is = true) (hs : is.map (fun i => ws[i]?) = (post u).map some) (ht2 : ts.map (fun i => tys[i]?) = (ty2 u).map some) (h1 : cells ≤ mc) (h2 : slots ≤ ms) (hdg : decode cc pc = .ok (.return_, 1)) : W p l e R s m args below meth c H locs cells slots Q (F0 m pc ls []) := by
  subst hAe; subst hQ
  exact W.widen h1 h2 (W.vret hexec hb hr (fun t ht hW => ⟨⟨u, hphi, rfl, by rw [ht]; exact hP.sub is (fm_map hs), va_K.moved hW.alike (hK.sub ts (fm_map ht2)), hD.sub is hn hs⟩, hS.F ht⟩) hS.2.2 hdg hlk)
theorem rx_i (u : σ) (hphi : Φ u) {x : Int32} {r : σ → Int32} (hexec : p.tables.exec = Jvm.exec) (hb : c.code = cc) (hr : meth.sig.returnType = some .int) (hlk : meth.locks = false) (hQ : Q = MQ below (QX dC dI pre post ty2 Φ s.heap.size (fun u => some (.int (r u)))) args s mc ms (va_A pre s.heap.size)) (hAe : va_A pre s.heap.size = A) (hK : va_K (dC, dI) vwCl tys s) (hP : va_P (dC, dI) vwCl ws H) (hD : va_D A ws) (hS : va_S A s.heap H locs)
    (is ts : List Nat) (hn : va_nd is = true) (hs : is.map (fun i => ws[i]?) = (post u).map some) (ht2 : ts.map (fun i => tys[i]?) = (ty2 u).map some) (h1 : cells ≤ mc) (h2 : slots ≤ ms) (hv : x = r u) (hdg : decode cc pc = .ok (.ireturn, 1)) : W p l e R s m args below meth c H locs cells slots Q (F0 m pc ls [.int x]) := by
  subst hAe; subst hQ; subst hv
  exact W.widen h1 h2 (W.iret hexec hb hr (fun t ht hW => ⟨⟨u, hphi, rfl, by rw [ht]; exact hP.sub is (fm_map hs), va_K.moved hW.alike (hK.sub ts (fm_map ht2)), hD.sub is hn hs⟩, hS.F ht⟩) hS.2.2 hdg hlk)
theorem rx_l (u : σ) (hphi : Φ u) {x : Int64} {r : σ → Int64} (hexec : p.tables.exec = Jvm.exec) (hb : c.code = cc) (hr : meth.sig.returnType = some .long) (hlk : meth.locks = false) (hQ : Q = MQ below (QX dC dI pre post ty2 Φ s.heap.size (fun u => some (.long (r u)))) args s mc ms (va_A pre s.heap.size)) (hAe : va_A pre s.heap.size = A) (hK : va_K (dC, dI) vwCl tys s) (hP : va_P (dC, dI) vwCl ws H) (hD : va_D A ws) (hS : va_S A s.heap H locs)
    (is ts : List Nat) (hn : va_nd is = true) (hs : is.map (fun i => ws[i]?) = (post u).map some) (ht2 : ts.map (fun i => tys[i]?) = (ty2 u).map some) (h1 : cells ≤ mc) (h2 : slots ≤ ms) (hv : x = r u) (hdg : decode cc pc = .ok (.lreturn, 1)) : W p l e R s m args below meth c H locs cells slots Q (F0 m pc ls [.long x]) := by
  subst hAe; subst hQ; subst hv
  exact W.widen h1 h2 (W.lret hexec hb hr (fun t ht hW => ⟨⟨u, hphi, rfl, by rw [ht]; exact hP.sub is (fm_map hs), va_K.moved hW.alike (hK.sub ts (fm_map ht2)), hD.sub is hn hs⟩, hS.F ht⟩) hS.2.2 hdg hlk)
theorem rx_z (u : σ) (hphi : Φ u) {x : Int32} {r : σ → Int32} (hexec : p.tables.exec = Jvm.exec) (hb : c.code = cc) (hr : meth.sig.returnType = some .boolean) (hlk : meth.locks = false) (hQ : Q = MQ below (QX dC dI pre post ty2 Φ s.heap.size (fun u => some (.int (r u)))) args s mc ms (va_A pre s.heap.size)) (hAe : va_A pre s.heap.size = A) (hK : va_K (dC, dI) vwCl tys s) (hP : va_P (dC, dI) vwCl ws H) (hD : va_D A ws) (hS : va_S A s.heap H locs)
    (is ts : List Nat) (hn : va_nd is = true) (hs : is.map (fun i => ws[i]?) = (post u).map some) (ht2 : ts.map (fun i => tys[i]?) = (ty2 u).map some) (h1 : cells ≤ mc) (h2 : slots ≤ ms) (hv : x = r u) (hz : narrow .boolean (.int (r u)) = .int (r u)) (hdg : decode cc pc = .ok (.ireturn, 1)) : W p l e R s m args below meth c H locs cells slots Q (F0 m pc ls [.int x]) := by
  subst hAe; subst hQ; subst hv
  exact W.widen h1 h2 (W.zret hexec hb hr hz (fun t ht hW => ⟨⟨u, hphi, rfl, by rw [ht]; exact hP.sub is (fm_map hs), va_K.moved hW.alike (hK.sub ts (fm_map ht2)), hD.sub is hn hs⟩, hS.F ht⟩) hS.2.2 hdg hlk)
end CX

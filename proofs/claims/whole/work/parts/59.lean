set_option maxHeartbeats 8000000 in
set_option maxRecDepth 100000 in
/-- the law's loop -/
theorem law_loop (p : Program) (l : Launch) (e : Env) (s : State) (m : MethodId) (args : Array Value) (below : List Frame) (meth : Method) (c : Code) (Q : State → Prop) (A : Nat → Prop) (dC : Nat → ClassId) (dI : Nat → Nat → Nat) (sa : Nat) (x : Nat) (qc : Nat) (qs : Nat) (qu : Nat) (qw : Nat) (qb : Nat) (qe : Nat) (qg : Nat) (qa : Nat) (qt : Nat) (qm : Nat) (ks : ClassId) (ku : ClassId) (kw : ClassId) (kb : ClassId) (ke : ClassId) (ka : ClassId) (kt : ClassId) (km : ClassId) (o : Nat) (rx : Nat) (rk : Nat) (rw : Nat) (rb : Nat) (rn : Nat) (rd : Nat) (rg : Nat) (jx : ClassId) (jk : ClassId) (jw : ClassId) (jb : ClassId) (jn : ClassId) (jd : ClassId) (jg : ClassId) (qo : Nat) (ko : ClassId) (L : Nat) (xs : Nat → Int32) (hx : p.tables.exec = Jvm.exec) (hb : c.code = cL_law) (hml : c.maxLocals = 8) (hta : ∀ w ∈ AW, w.before args s = true) (hown : s.vm.findClass RL = some m.cls) (hE : EX s) (hT : TX s) (hZ : ZT A s s.heap) (hst : l.stackTraces = false) (hA : ∀ q, s.heap.size ≤ q → A q) (hK : va_K (dC, dI) vwCl [(ks, .int), (ku, .int), (kw, .int), (kb, .int), (ke, .int), (ka, .int), (kt, .int), (km, .int), (jx, .int), (jk, .int), (jw, .int), (jb, .int), (jn, .int), (jd, .int), (jg, .int), (ko, .long)] s) (hX : va_X sa L xs s s.heap) (hbl : sa < s.heap.size) (hbA : ¬ A sa) (hL : L ≤ 5120) (hr : meth.sig.returnType = ret) (hlk : meth.locks = false) (hAe : A = fun q => s.heap.size ≤ q) (hQe : Q = lw_Z below args s) (har : args = #[Value.ref sa]) : ∀ (n k : Nat), k + n = L / 10 → HD p l e s m args below meth c Q A dC dI sa x qc qs qu qw qb qe qg qa qt qm ks ku kw kb ke ka kt km o rx rk rw rb rn rd rg jx jk jw jb jn jd jg qo ko k := by
  intro n
  induction n with
  | zero =>
    intro k hn
    intro w b z mk ab tb yh yl ph og nh nr na nt mb t1 t2 th b2 z2 bd gv mh ml u1 u2 pa ou ls H locs hI hl hP hD hS
    refine lv_iload hx hb dL_law_23 (lv_at hl 4 rfl) ?_
    refine lv_aload_n hx hb dL_law_25 rfl (lv_at hl 0 rfl) ?_
    refine va_slen hx hb hX hbl hbA hS dL_law_26 ?_
    refine lv_bipush (v := nI 10) hx hb dL_law_27 (by decide) ?_
    refine lv_isub hx hb dL_law_29 ?_
    refine lv_icmp_gt (tgt := 1358) hx hb dL_law_30 (by decide) (fun hc => ?_) (fun hc => ?_)
    · have hc := (lw_cmp (a := 10 * k) (L := L) (by omega) hL).mp hc
      refine lv_iconst (v := 1) hx hb dL_law_1358 (by decide) ?_
      refine W.widen (k := 601024) (n := 7293034) (by omega) (by omega) ?_
      refine va_forget (fun q9 hq9 => by have h9 := hS.2.2 q9 hq9; rw [hAe] at h9; exact h9) ?_
      subst har
      subst hQe
      exact lw_ret hx hb hr hlk dL_law_1359
    · have hc : ¬ L < 10 * k + 10 := fun z9 => hc ((lw_cmp (a := 10 * k) (L := L) (by omega) hL).mpr z9)
      exfalso; omega
  | succ n ih =>
    intro k hn
    have hd := ih (k + 1) (by omega)
    intro w b z mk ab tb yh yl ph og nh nr na nt mb t1 t2 th b2 z2 bd gv mh ml u1 u2 pa ou ls H locs hI hl hP hD hS
    refine lv_iload hx hb dL_law_23 (lv_at hl 4 rfl) ?_
    refine lv_aload_n hx hb dL_law_25 rfl (lv_at hl 0 rfl) ?_
    refine va_slen hx hb hX hbl hbA hS dL_law_26 ?_
    refine lv_bipush (v := nI 10) hx hb dL_law_27 (by decide) ?_
    refine lv_isub hx hb dL_law_29 ?_
    refine lv_icmp_gt (tgt := 1358) hx hb dL_law_30 (by decide) (fun hc => ?_) (fun hc => ?_)
    · have hc := (lw_cmp (a := 10 * k) (L := L) (by omega) hL).mp hc
      exfalso; omega
    · have hc : ¬ L < 10 * k + 10 := fun z9 => hc ((lw_cmp (a := 10 * k) (L := L) (by omega) hL).mpr z9)
      have hk : 10 * k + 10 ≤ L := by omega
      refine lv_aload_n hx hb dL_law_33 rfl (lv_at hl 0 rfl) ?_
      refine lv_iload hx hb dL_law_34 (lv_at hl 4 rfl) ?_
      refine va_sln (v := xs (10 * k)) hx hb hX hbl hbA hS (by omega) hL rfl dL_law_36 ?_
      refine lv_bipush (v := nI 15) hx hb dL_law_37 (by decide) ?_
      refine lv_iand hx hb dL_law_39 (top_i (pk_and _ 4 (by decide)) ?_)
      have ht16 : (xs (10 * k)).toBitVec.toNat % 2 ^ 4 < 16 := Nat.mod_lt _ (by decide)
      generalize (xs (10 * k)).toBitVec.toNat % 2 ^ 4 = t at ht16 ⊢
      refine w_pc (pc2 := 40) rfl ?_
      rcases (show t = 0 ∨ t = 1 ∨ t = 2 ∨ t = 3 ∨ t = 4 ∨ t = 5 ∨ t = 6 ∨ t = 7 ∨ t = 8 ∨ t = 9 ∨ t = 10 ∨ t = 11 ∨ t = 12 ∨ t = 13 ∨ t = 14 ∨ t = 15 by omega) with rfl | rfl | rfl | rfl | rfl | rfl | rfl | rfl | rfl | rfl | rfl | rfl | rfl | rfl | rfl | rfl
      · refine lv_tableIn (tgt := 112) (off := 72) hx hb dL_law_40 (by decide) (by decide) (by decide) (by decide) ?_
        exact lc_key p l e s m args below meth c Q A dC dI sa x qc qs qu qw qb qe qg qa qt qm ks ku kw kb ke ka kt km o rx rk rw rb rn rd rg jx jk jw jb jn jd jg qo ko L xs k hx hb hml hta hown hE hT hZ hst hA hK hX hbl hbA hL hk hd w b z mk ab tb yh yl ph og nh nr na nt mb t1 t2 th b2 z2 bd gv mh ml u1 u2 pa ou ls H locs hI hl hP hD hS 
      · refine lv_tableIn (tgt := 211) (off := 171) hx hb dL_law_40 (by decide) (by decide) (by decide) (by decide) ?_
        rcases pk_ix (xs (10 * k + 1)) (n := 44) (by decide) with h9 | h9 | ⟨j, hj, hv⟩
        · exact lc_word_n p l e s m args below meth c Q A dC dI sa x qc qs qu qw qb qe qg qa qt qm ks ku kw kb ke ka kt km o rx rk rw rb rn rd rg jx jk jw jb jn jd jg qo ko L xs k hx hb hml hta hown hE hT hZ hst hA hK hX hbl hbA hL hk hd w b z mk ab tb yh yl ph og nh nr na nt mb t1 t2 th b2 z2 bd gv mh ml u1 u2 pa ou ls H locs hI hl hP hD hS (Or.inl h9)
        · exact lc_word_n p l e s m args below meth c Q A dC dI sa x qc qs qu qw qb qe qg qa qt qm ks ku kw kb ke ka kt km o rx rk rw rb rn rd rg jx jk jw jb jn jd jg qo ko L xs k hx hb hml hta hown hE hT hZ hst hA hK hX hbl hbA hL hk hd w b z mk ab tb yh yl ph og nh nr na nt mb t1 t2 th b2 z2 bd gv mh ml u1 u2 pa ou ls H locs hI hl hP hD hS (Or.inr h9)
        · exact lc_word_y p l e s m args below meth c Q A dC dI sa x qc qs qu qw qb qe qg qa qt qm ks ku kw kb ke ka kt km o rx rk rw rb rn rd rg jx jk jw jb jn jd jg qo ko L xs k hx hb hml hta hown hE hT hZ hst hA hK hX hbl hbA hL hk hd w b z mk ab tb yh yl ph og nh nr na nt mb t1 t2 th b2 z2 bd gv mh ml u1 u2 pa ou ls H locs hI hl hP hD hS j hv hj
      · refine lv_tableIn (tgt := 267) (off := 227) hx hb dL_law_40 (by decide) (by decide) (by decide) (by decide) ?_
        exact lc_encrypt p l e s m args below meth c Q A dC dI sa x qc qs qu qw qb qe qg qa qt qm ks ku kw kb ke ka kt km o rx rk rw rb rn rd rg jx jk jw jb jn jd jg qo ko L xs k hx hb hml hta hown hE hT hZ hst hA hK hX hbl hbA hL hk hd w b z mk ab tb yh yl ph og nh nr na nt mb t1 t2 th b2 z2 bd gv mh ml u1 u2 pa ou ls H locs hI hl hP hD hS 
      · refine lv_tableIn (tgt := 397) (off := 357) hx hb dL_law_40 (by decide) (by decide) (by decide) (by decide) ?_
        exact lc_decrypt p l e s m args below meth c Q A dC dI sa x qc qs qu qw qb qe qg qa qt qm ks ku kw kb ke ka kt km o rx rk rw rb rn rd rg jx jk jw jb jn jd jg qo ko L xs k hx hb hml hta hown hE hT hZ hst hA hK hX hbl hbA hL hk hd w b z mk ab tb yh yl ph og nh nr na nt mb t1 t2 th b2 z2 bd gv mh ml u1 u2 pa ou ls H locs hI hl hP hD hS 
      · refine lv_tableIn (tgt := 527) (off := 487) hx hb dL_law_40 (by decide) (by decide) (by decide) (by decide) ?_
        exact lc_product p l e s m args below meth c Q A dC dI sa x qc qs qu qw qb qe qg qa qt qm ks ku kw kb ke ka kt km o rx rk rw rb rn rd rg jx jk jw jb jn jd jg qo ko L xs k hx hb hml hta hown hE hT hZ hst hA hK hX hbl hbA hL hk hd w b z mk ab tb yh yl ph og nh nr na nt mb t1 t2 th b2 z2 bd gv mh ml u1 u2 pa ou ls H locs hI hl hP hD hS 
      · refine lv_tableIn (tgt := 753) (off := 713) hx hb dL_law_40 (by decide) (by decide) (by decide) (by decide) ?_
        exact lc_start p l e s m args below meth c Q A dC dI sa x qc qs qu qw qb qe qg qa qt qm ks ku kw kb ke ka kt km o rx rk rw rb rn rd rg jx jk jw jb jn jd jg qo ko L xs k hx hb hml hta hown hE hT hZ hst hA hK hX hbl hbA hL hk hd w b z mk ab tb yh yl ph og nh nr na nt mb t1 t2 th b2 z2 bd gv mh ml u1 u2 pa ou ls H locs hI hl hP hD hS 
      · refine lv_tableIn (tgt := 848) (off := 808) hx hb dL_law_40 (by decide) (by decide) (by decide) (by decide) ?_
        by_cases hph : ph = 1
        · rcases pk_ix (xs (10 * k + 3)) (n := 9) (by decide) with h9 | h9 | ⟨cn, hcn, hv⟩
          · exact lc_aside_2 p l e s m args below meth c Q A dC dI sa x qc qs qu qw qb qe qg qa qt qm ks ku kw kb ke ka kt km o rx rk rw rb rn rd rg jx jk jw jb jn jd jg qo ko L xs k hx hb hml hta hown hE hT hZ hst hA hK hX hbl hbA hL hk hd w b z mk ab tb yh yl ph og nh nr na nt mb t1 t2 th b2 z2 bd gv mh ml u1 u2 pa ou ls H locs hI hl hP hD hS hph (Or.inl h9)
          · exact lc_aside_2 p l e s m args below meth c Q A dC dI sa x qc qs qu qw qb qe qg qa qt qm ks ku kw kb ke ka kt km o rx rk rw rb rn rd rg jx jk jw jb jn jd jg qo ko L xs k hx hb hml hta hown hE hT hZ hst hA hK hX hbl hbA hL hk hd w b z mk ab tb yh yl ph og nh nr na nt mb t1 t2 th b2 z2 bd gv mh ml u1 u2 pa ou ls H locs hI hl hP hD hS hph (Or.inr h9)
          · by_cases hna : na + cn ≤ 48
            · exact lc_aside_y p l e s m args below meth c Q A dC dI sa x qc qs qu qw qb qe qg qa qt qm ks ku kw kb ke ka kt km o rx rk rw rb rn rd rg jx jk jw jb jn jd jg qo ko L xs k hx hb hml hta hown hE hT hZ hst hA hK hX hbl hbA hL hk hd w b z mk ab tb yh yl ph og nh nr na nt mb t1 t2 th b2 z2 bd gv mh ml u1 u2 pa ou ls H locs hI hl hP hD hS cn hv hph (by omega) hna
            · exact lc_aside_3 p l e s m args below meth c Q A dC dI sa x qc qs qu qw qb qe qg qa qt qm ks ku kw kb ke ka kt km o rx rk rw rb rn rd rg jx jk jw jb jn jd jg qo ko L xs k hx hb hml hta hown hE hT hZ hst hA hK hX hbl hbA hL hk hd w b z mk ab tb yh yl ph og nh nr na nt mb t1 t2 th b2 z2 bd gv mh ml u1 u2 pa ou ls H locs hI hl hP hD hS cn hv hph (by omega) (by omega)
        · exact lc_aside_1 p l e s m args below meth c Q A dC dI sa x qc qs qu qw qb qe qg qa qt qm ks ku kw kb ke ka kt km o rx rk rw rb rn rd rg jx jk jw jb jn jd jg qo ko L xs k hx hb hml hta hown hE hT hZ hst hA hK hX hbl hbA hL hk hd w b z mk ab tb yh yl ph og nh nr na nt mb t1 t2 th b2 z2 bd gv mh ml u1 u2 pa ou ls H locs hI hl hP hD hS hph
      · refine lv_tableIn (tgt := 948) (off := 908) hx hb dL_law_40 (by decide) (by decide) (by decide) (by decide) ?_
        cases huw : uwN ph with
        | false => exact lc_text_1 p l e s m args below meth c Q A dC dI sa x qc qs qu qw qb qe qg qa qt qm ks ku kw kb ke ka kt km o rx rk rw rb rn rd rg jx jk jw jb jn jd jg qo ko L xs k hx hb hml hta hown hE hT hZ hst hA hK hX hbl hbA hL hk hd w b z mk ab tb yh yl ph og nh nr na nt mb t1 t2 th b2 z2 bd gv mh ml u1 u2 pa ou ls H locs hI hl hP hD hS huw
        | true =>
          rcases pk_ix (xs (10 * k + 3)) (n := 9) (by decide) with h9 | h9 | ⟨cn, hcn, hv⟩
          · exact lc_text_2 p l e s m args below meth c Q A dC dI sa x qc qs qu qw qb qe qg qa qt qm ks ku kw kb ke ka kt km o rx rk rw rb rn rd rg jx jk jw jb jn jd jg qo ko L xs k hx hb hml hta hown hE hT hZ hst hA hK hX hbl hbA hL hk hd w b z mk ab tb yh yl ph og nh nr na nt mb t1 t2 th b2 z2 bd gv mh ml u1 u2 pa ou ls H locs hI hl hP hD hS huw (Or.inl h9)
          · exact lc_text_2 p l e s m args below meth c Q A dC dI sa x qc qs qu qw qb qe qg qa qt qm ks ku kw kb ke ka kt km o rx rk rw rb rn rd rg jx jk jw jb jn jd jg qo ko L xs k hx hb hml hta hown hE hT hZ hst hA hK hX hbl hbA hL hk hd w b z mk ab tb yh yl ph og nh nr na nt mb t1 t2 th b2 z2 bd gv mh ml u1 u2 pa ou ls H locs hI hl hP hD hS huw (Or.inr h9)
          · by_cases hn9 : nt + cn ≤ 96
            · rcases Bool.eq_false_or_eq_true og with hog | hog
              · exact lc_text_s p l e s m args below meth c Q A dC dI sa x qc qs qu qw qb qe qg qa qt qm ks ku kw kb ke ka kt km o rx rk rw rb rn rd rg jx jk jw jb jn jd jg qo ko L xs k hx hb hml hta hown hE hT hZ hst hA hK hX hbl hbA hL hk hd w b z mk ab tb yh yl ph og nh nr na nt mb t1 t2 th b2 z2 bd gv mh ml u1 u2 pa ou ls H locs hI hl hP hD hS cn hv huw hog (by omega) hn9
              · exact lc_text_p p l e s m args below meth c Q A dC dI sa x qc qs qu qw qb qe qg qa qt qm ks ku kw kb ke ka kt km o rx rk rw rb rn rd rg jx jk jw jb jn jd jg qo ko L xs k hx hb hml hta hown hE hT hZ hst hA hK hX hbl hbA hL hk hd w b z mk ab tb yh yl ph og nh nr na nt mb t1 t2 th b2 z2 bd gv mh ml u1 u2 pa ou ls H locs hI hl hP hD hS cn hv huw hog (by omega) hn9
            · exact lc_text_3 p l e s m args below meth c Q A dC dI sa x qc qs qu qw qb qe qg qa qt qm ks ku kw kb ke ka kt km o rx rk rw rb rn rd rg jx jk jw jb jn jd jg qo ko L xs k hx hb hml hta hown hE hT hZ hst hA hK hX hbl hbA hL hk hd w b z mk ab tb yh yl ph og nh nr na nt mb t1 t2 th b2 z2 bd gv mh ml u1 u2 pa ou ls H locs hI hl hP hD hS cn hv huw (by omega) (by omega)
      · refine lv_tableIn (tgt := 1047) (off := 1007) hx hb dL_law_40 (by decide) (by decide) (by decide) (by decide) ?_
        rcases Bool.eq_false_or_eq_true (uwN ph) with huw | huw
        · rcases Bool.eq_false_or_eq_true og with hog | hog
          · exact lc_seal_n p l e s m args below meth c Q A dC dI sa x qc qs qu qw qb qe qg qa qt qm ks ku kw kb ke ka kt km o rx rk rw rb rn rd rg jx jk jw jb jn jd jg qo ko L xs k hx hb hml hta hown hE hT hZ hst hA hK hX hbl hbA hL hk hd w b z mk ab tb yh yl ph og nh nr na nt mb t1 t2 th b2 z2 bd gv mh ml u1 u2 pa ou ls H locs hI hl hP hD hS (Or.inr hog)
          · exact lc_seal_y p l e s m args below meth c Q A dC dI sa x qc qs qu qw qb qe qg qa qt qm ks ku kw kb ke ka kt km o rx rk rw rb rn rd rg jx jk jw jb jn jd jg qo ko L xs k hx hb hml hta hown hE hT hZ hst hA hK hX hbl hbA hL hk hd w b z mk ab tb yh yl ph og nh nr na nt mb t1 t2 th b2 z2 bd gv mh ml u1 u2 pa ou ls H locs hI hl hP hD hS huw hog
        · exact lc_seal_n p l e s m args below meth c Q A dC dI sa x qc qs qu qw qb qe qg qa qt qm ks ku kw kb ke ka kt km o rx rk rw rb rn rd rg jx jk jw jb jn jd jg qo ko L xs k hx hb hml hta hown hE hT hZ hst hA hK hX hbl hbA hL hk hd w b z mk ab tb yh yl ph og nh nr na nt mb t1 t2 th b2 z2 bd gv mh ml u1 u2 pa ou ls H locs hI hl hP hD hS (Or.inl huw)
      · refine lv_tableIn (tgt := 1091) (off := 1051) hx hb dL_law_40 (by decide) (by decide) (by decide) (by decide) ?_
        rcases Bool.eq_false_or_eq_true (uwN ph) with huw | huw
        · rcases Bool.eq_false_or_eq_true og with hog | hog
          · rcases Bool.eq_false_or_eq_true (eqB (lj (xs (10 * k + 1)) (xs (10 * k + 2))) (tgN SBN w nh nr ab na tb nt).1 (lj (xs (10 * k + 3)) (xs (10 * k + 4))) (tgN SBN w nh nr ab na tb nt).2) with heq | heq
            · exact lc_open_y p l e s m args below meth c Q A dC dI sa x qc qs qu qw qb qe qg qa qt qm ks ku kw kb ke ka kt km o rx rk rw rb rn rd rg jx jk jw jb jn jd jg qo ko L xs k hx hb hml hta hown hE hT hZ hst hA hK hX hbl hbA hL hk hd w b z mk ab tb yh yl ph og nh nr na nt mb t1 t2 th b2 z2 bd gv mh ml u1 u2 pa ou ls H locs hI hl hP hD hS huw hog heq
            · exact lc_open_n p l e s m args below meth c Q A dC dI sa x qc qs qu qw qb qe qg qa qt qm ks ku kw kb ke ka kt km o rx rk rw rb rn rd rg jx jk jw jb jn jd jg qo ko L xs k hx hb hml hta hown hE hT hZ hst hA hK hX hbl hbA hL hk hd w b z mk ab tb yh yl ph og nh nr na nt mb t1 t2 th b2 z2 bd gv mh ml u1 u2 pa ou ls H locs hI hl hP hD hS huw hog heq
          · exact lc_open_x p l e s m args below meth c Q A dC dI sa x qc qs qu qw qb qe qg qa qt qm ks ku kw kb ke ka kt km o rx rk rw rb rn rd rg jx jk jw jb jn jd jg qo ko L xs k hx hb hml hta hown hE hT hZ hst hA hK hX hbl hbA hL hk hd w b z mk ab tb yh yl ph og nh nr na nt mb t1 t2 th b2 z2 bd gv mh ml u1 u2 pa ou ls H locs hI hl hP hD hS (Or.inr hog)
        · exact lc_open_x p l e s m args below meth c Q A dC dI sa x qc qs qu qw qb qe qg qa qt qm ks ku kw kb ke ka kt km o rx rk rw rb rn rd rg jx jk jw jb jn jd jg qo ko L xs k hx hb hml hta hown hE hT hZ hst hA hK hX hbl hbA hL hk hd w b z mk ab tb yh yl ph og nh nr na nt mb t1 t2 th b2 z2 bd gv mh ml u1 u2 pa ou ls H locs hI hl hP hD hS (Or.inl huw)
      · refine lv_tableIn (tgt := 1230) (off := 1190) hx hb dL_law_40 (by decide) (by decide) (by decide) (by decide) ?_
        by_cases hph : ph = 3
        · exact lc_tag_y p l e s m args below meth c Q A dC dI sa x qc qs qu qw qb qe qg qa qt qm ks ku kw kb ke ka kt km o rx rk rw rb rn rd rg jx jk jw jb jn jd jg qo ko L xs k hx hb hml hta hown hE hT hZ hst hA hK hX hbl hbA hL hk hd w b z mk ab tb yh yl ph og nh nr na nt mb t1 t2 th b2 z2 bd gv mh ml u1 u2 pa ou ls H locs hI hl hP hD hS hph
        · exact lc_tag_n p l e s m args below meth c Q A dC dI sa x qc qs qu qw qb qe qg qa qt qm ks ku kw kb ke ka kt km o rx rk rw rb rn rd rg jx jk jw jb jn jd jg qo ko L xs k hx hb hml hta hown hE hT hZ hst hA hK hX hbl hbA hL hk hd w b z mk ab tb yh yl ph og nh nr na nt mb t1 t2 th b2 z2 bd gv mh ml u1 u2 pa ou ls H locs hI hl hP hD hS hph
      · refine lv_tableIn (tgt := 1301) (off := 1261) hx hb dL_law_40 (by decide) (by decide) (by decide) (by decide) ?_
        exact lc_length p l e s m args below meth c Q A dC dI sa x qc qs qu qw qb qe qg qa qt qm ks ku kw kb ke ka kt km o rx rk rw rb rn rd rg jx jk jw jb jn jd jg qo ko L xs k hx hb hml hta hown hE hT hZ hst hA hK hX hbl hbA hL hk hd w b z mk ab tb yh yl ph og nh nr na nt mb t1 t2 th b2 z2 bd gv mh ml u1 u2 pa ou ls H locs hI hl hP hD hS 
      · refine lv_tableIn (tgt := 1314) (off := 1274) hx hb dL_law_40 (by decide) (by decide) (by decide) (by decide) ?_
        rcases Bool.eq_false_or_eq_true (rdbN ph og) with hrd | hrd
        · rcases pk_ix (xs (10 * k + 1)) (n := nt) (by have h9 := hI.2.1; omega) with h9 | h9 | ⟨j, hj, hv⟩
          · exact lc_at_n p l e s m args below meth c Q A dC dI sa x qc qs qu qw qb qe qg qa qt qm ks ku kw kb ke ka kt km o rx rk rw rb rn rd rg jx jk jw jb jn jd jg qo ko L xs k hx hb hml hta hown hE hT hZ hst hA hK hX hbl hbA hL hk hd w b z mk ab tb yh yl ph og nh nr na nt mb t1 t2 th b2 z2 bd gv mh ml u1 u2 pa ou ls H locs hI hl hP hD hS (Or.inr (Or.inl h9))
          · exact lc_at_n p l e s m args below meth c Q A dC dI sa x qc qs qu qw qb qe qg qa qt qm ks ku kw kb ke ka kt km o rx rk rw rb rn rd rg jx jk jw jb jn jd jg qo ko L xs k hx hb hml hta hown hE hT hZ hst hA hK hX hbl hbA hL hk hd w b z mk ab tb yh yl ph og nh nr na nt mb t1 t2 th b2 z2 bd gv mh ml u1 u2 pa ou ls H locs hI hl hP hD hS (Or.inr (Or.inr h9))
          · exact lc_at_y p l e s m args below meth c Q A dC dI sa x qc qs qu qw qb qe qg qa qt qm ks ku kw kb ke ka kt km o rx rk rw rb rn rd rg jx jk jw jb jn jd jg qo ko L xs k hx hb hml hta hown hE hT hZ hst hA hK hX hbl hbA hL hk hd w b z mk ab tb yh yl ph og nh nr na nt mb t1 t2 th b2 z2 bd gv mh ml u1 u2 pa ou ls H locs hI hl hP hD hS j hv hrd hj
        · exact lc_at_n p l e s m args below meth c Q A dC dI sa x qc qs qu qw qb qe qg qa qt qm ks ku kw kb ke ka kt km o rx rk rw rb rn rd rg jx jk jw jb jn jd jg qo ko L xs k hx hb hml hta hown hE hT hZ hst hA hK hX hbl hbA hL hk hd w b z mk ab tb yh yl ph og nh nr na nt mb t1 t2 th b2 z2 bd gv mh ml u1 u2 pa ou ls H locs hI hl hP hD hS (Or.inl hrd)
      · refine lv_tableIn (tgt := 1339) (off := 1299) hx hb dL_law_40 (by decide) (by decide) (by decide) (by decide) ?_
        exact lc_phase p l e s m args below meth c Q A dC dI sa x qc qs qu qw qb qe qg qa qt qm ks ku kw kb ke ka kt km o rx rk rw rb rn rd rg jx jk jw jb jn jd jg qo ko L xs k hx hb hml hta hown hE hT hZ hst hA hK hX hbl hbA hL hk hd w b z mk ab tb yh yl ph og nh nr na nt mb t1 t2 th b2 z2 bd gv mh ml u1 u2 pa ou ls H locs hI hl hP hD hS 
      · refine lv_tableOut (tgt := 1352) hx hb dL_law_40 (by decide) (by decide) ?_
        exact lc_none p l e s m args below meth c Q A dC dI sa x qc qs qu qw qb qe qg qa qt qm ks ku kw kb ke ka kt km o rx rk rw rb rn rd rg jx jk jw jb jn jd jg qo ko L xs k hx hb hml hta hown hE hT hZ hst hA hK hX hbl hbA hL hk hd w b z mk ab tb yh yl ph og nh nr na nt mb t1 t2 th b2 z2 bd gv mh ml u1 u2 pa ou ls H locs hI hl hP hD hS 
      · refine lv_tableOut (tgt := 1352) hx hb dL_law_40 (by decide) (by decide) ?_
        exact lc_none p l e s m args below meth c Q A dC dI sa x qc qs qu qw qb qe qg qa qt qm ks ku kw kb ke ka kt km o rx rk rw rb rn rd rg jx jk jw jb jn jd jg qo ko L xs k hx hb hml hta hown hE hT hZ hst hA hK hX hbl hbA hL hk hd w b z mk ab tb yh yl ph og nh nr na nt mb t1 t2 th b2 z2 bd gv mh ml u1 u2 pa ou ls H locs hI hl hP hD hS 

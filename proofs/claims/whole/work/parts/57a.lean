set_option maxHeartbeats 4000000 in
set_option maxRecDepth 100000 in
/-- lc_key -/
theorem lc_key (p : Program) (l : Launch) (e : Env) (s : State) (m : MethodId) (args : Array Value) (below : List Frame) (meth : Method) (c : Code) (Q : State → Prop) (A : Nat → Prop) (dC : Nat → ClassId) (dI : Nat → Nat → Nat) (sa : Nat) (x : Nat) (qc : Nat) (qs : Nat) (qu : Nat) (qw : Nat) (qb : Nat) (qe : Nat) (qg : Nat) (qa : Nat) (qt : Nat) (qm : Nat) (ks : ClassId) (ku : ClassId) (kw : ClassId) (kb : ClassId) (ke : ClassId) (ka : ClassId) (kt : ClassId) (km : ClassId) (o : Nat) (rx : Nat) (rk : Nat) (rw : Nat) (rb : Nat) (rn : Nat) (rd : Nat) (rg : Nat) (jx : ClassId) (jk : ClassId) (jw : ClassId) (jb : ClassId) (jn : ClassId) (jd : ClassId) (jg : ClassId) (qo : Nat) (ko : ClassId) (L : Nat) (xs : Nat → Int32) (k : Nat) (hx : p.tables.exec = Jvm.exec) (hb : c.code = cL_law) (hml : c.maxLocals = 8) (hta : ∀ w ∈ AW, w.before args s = true) (hown : s.vm.findClass RL = some m.cls) (hE : EX s) (hT : TX s) (hZ : ZT A s s.heap) (hst : l.stackTraces = false) (hA : ∀ q, s.heap.size ≤ q → A q) (hK : va_K (dC, dI) vwCl [(ks, .int), (ku, .int), (kw, .int), (kb, .int), (ke, .int), (ka, .int), (kt, .int), (km, .int), (jx, .int), (jk, .int), (jw, .int), (jb, .int), (jn, .int), (jd, .int), (jg, .int), (ko, .long)] s) (hX : va_X sa L xs s s.heap) (hbl : sa < s.heap.size) (hbA : ¬ A sa) (hL : L ≤ 5120) (hk : 10 * k + 10 ≤ L) (hd : HD p l e s m args below meth c Q A dC dI sa x qc qs qu qw qb qe qg qa qt qm ks ku kw kb ke ka kt km o rx rk rw rb rn rd rg jx jk jw jb jn jd jg qo ko (k + 1)) (w : Nat → Int32) (b : Nat → Nat) (z : Nat → Nat) (mk : Nat → Nat) (ab : Nat → Nat) (tb : Nat → Nat) (yh : Int64) (yl : Int64) (ph : Nat) (og : Bool) (nh : Int64) (nr : Int32) (na : Nat) (nt : Nat) (mb : Int32) (t1 : Int64) (t2 : Int64) (th : Int32) (b2 : Nat → Nat) (z2 : Nat → Nat) (bd : Nat → Nat) (gv : Nat → Nat) (mh : Int64) (ml : Int64) (u1 : Int64) (u2 : Int64) (pa : Nat) (ou : Nat → Int64) (ls : Array Slot) (H : Heap) (locs : List Loc) (hI : INV w ph og nh nr na pa nt mb mk ab bd tb gv t1 t2 u1 u2) (hl : lv_has ls 8 [(0, .ref sa), (1, .ref x), (2, .ref o), (3, .ref qo), (4, .int (nI (10 * k)))]) (hP : va_P (dC, dI) vwCl [(x, .inr (2, [.ref qc, .ref qg, .ref qa, .ref qt, .ref qm, .int (nI ph), .int (zI og), .long nh, .int nr, .int (nI na), .int (nI nt), .int mb, .long t1, .long t2])), (qc, .inr (0, [.ref qs, .ref qu, .ref qw, .ref qb, .ref qe])), (qs, .inl (ks, 256, .inl (nF SBN))), (qu, .inl (ku, 256, .inl (nF UBN))), (qw, .inl (kw, 44, .inl w)), (qb, .inl (kb, 16, .inl (nF b))), (qe, .inl (ke, 16, .inl (nF z))), (qg, .inr (1, [.long yh, .long yl])), (qa, .inl (ka, 48, .inl (nF ab))), (qt, .inl (kt, 96, .inl (nF tb))), (qm, .inl (km, 16, .inl (nF mk))), (o, .inr (3, [.int th, .int (nI ph), .int (zI og), .ref rx, .ref rk, .ref rw, .ref rb, .ref rn, .long mh, .long ml, .long nh, .int nr, .int (nI pa), .ref rd, .int (nI nt), .ref rg, .long u1, .long u2])), (rx, .inl (jx, 256, .inl (nF SBN))), (rk, .inl (jk, 256, .inl (nF UBN))), (rw, .inl (jw, 44, .inl w)), (rb, .inl (jb, 16, .inl (nF b2))), (rn, .inl (jn, 16, .inl (nF z2))), (rd, .inl (jd, 48, .inl (nF bd))), (rg, .inl (jg, 96, .inl (nF gv))), (qo, .inl (ko, 1, .inr (.inl ou)))] H) (hD : va_D A [(x, .inr (2, [.ref qc, .ref qg, .ref qa, .ref qt, .ref qm, .int (nI ph), .int (zI og), .long nh, .int nr, .int (nI na), .int (nI nt), .int mb, .long t1, .long t2])), (qc, .inr (0, [.ref qs, .ref qu, .ref qw, .ref qb, .ref qe])), (qs, .inl (ks, 256, .inl (nF SBN))), (qu, .inl (ku, 256, .inl (nF UBN))), (qw, .inl (kw, 44, .inl w)), (qb, .inl (kb, 16, .inl (nF b))), (qe, .inl (ke, 16, .inl (nF z))), (qg, .inr (1, [.long yh, .long yl])), (qa, .inl (ka, 48, .inl (nF ab))), (qt, .inl (kt, 96, .inl (nF tb))), (qm, .inl (km, 16, .inl (nF mk))), (o, .inr (3, [.int th, .int (nI ph), .int (zI og), .ref rx, .ref rk, .ref rw, .ref rb, .ref rn, .long mh, .long ml, .long nh, .int nr, .int (nI pa), .ref rd, .int (nI nt), .ref rg, .long u1, .long u2])), (rx, .inl (jx, 256, .inl (nF SBN))), (rk, .inl (jk, 256, .inl (nF UBN))), (rw, .inl (jw, 44, .inl w)), (rb, .inl (jb, 16, .inl (nF b2))), (rn, .inl (jn, 16, .inl (nF z2))), (rd, .inl (jd, 48, .inl (nF bd))), (rg, .inl (jg, 96, .inl (nF gv))), (qo, .inl (ko, 1, .inr (.inl ou)))]) (hS : va_S A s.heap H locs)   : W p l e room_1 s m args below meth c H locs (21 + k) (1775 + 6 * k) Q (F0 m 112 ls []) := by
  have hI9 := hI
  obtain ⟨hph6, hnt, a256, d256, t256, g256, hne, h33, h45⟩ := hI
  refine lv_aload_n hx hb dL_law_112 rfl (lv_at hl 1 rfl) ?_
  refine lv_aload_n hx hb dL_law_113 rfl (lv_at hl 0 rfl) ?_
  refine lv_iload hx hb dL_law_114 (lv_at hl 4 rfl) ?_
  refine lv_iconst (v := nI 1) hx hb dL_law_116 (by decide) ?_
  refine lv_iadd hx hb dL_law_117 (top_i (nI_add _ _) ?_)
  refine va_sln (v := xs ((10 * k) + 1)) hx hb hX hbl hbA hS (by omega) hL (rfl) dL_law_118 ?_
  refine lv_i2l hx hb dL_law_119 rfl ?_
  refine lv_bipush (v := nI 32) hx hb dL_law_120 (by decide) ?_
  refine lv_lshl hx hb dL_law_122 rfl ?_
  refine lv_aload_n hx hb dL_law_123 rfl (lv_at hl 0 rfl) ?_
  refine lv_iload hx hb dL_law_124 (lv_at hl 4 rfl) ?_
  refine w_pc (pc2 := 126) rfl ?_
  refine lv_iconst (v := nI 2) hx hb dL_law_126 (by decide) ?_
  refine lv_iadd hx hb dL_law_127 (top_i (nI_add _ _) ?_)
  refine va_sln (v := xs ((10 * k) + 2)) hx hb hX hbl hbA hS (by omega) hL (rfl) dL_law_128 ?_
  refine lv_i2l hx hb dL_law_129 rfl ?_
  refine lv_ldc2 (v := 4294967295) hx hb hown (hta _ mw_631) dL_law_130 ?_
  refine top_l (y := lN 4294967295) (by decide) ?_
  refine lv_land hx hb dL_law_133 ?_
  refine lv_lor hx hb dL_law_134 ?_
  refine top_l (y := lj (xs ((10 * k) + 1)) (xs ((10 * k) + 2))) rfl ?_
  refine lv_aload_n hx hb dL_law_135 rfl (lv_at hl 0 rfl) ?_
  refine lv_iload hx hb dL_law_136 (lv_at hl 4 rfl) ?_
  refine lv_iconst (v := nI 3) hx hb dL_law_138 (by decide) ?_
  refine lv_iadd hx hb dL_law_139 (top_i (nI_add _ _) ?_)
  refine va_sln (v := xs ((10 * k) + 3)) hx hb hX hbl hbA hS (by omega) hL (rfl) dL_law_140 ?_
  refine w_pc (pc2 := 141) rfl ?_
  refine lv_i2l hx hb dL_law_141 rfl ?_
  refine lv_bipush (v := nI 32) hx hb dL_law_142 (by decide) ?_
  refine lv_lshl hx hb dL_law_144 rfl ?_
  refine lv_aload_n hx hb dL_law_145 rfl (lv_at hl 0 rfl) ?_
  refine lv_iload hx hb dL_law_146 (lv_at hl 4 rfl) ?_
  refine lv_iconst (v := nI 4) hx hb dL_law_148 (by decide) ?_
  refine lv_iadd hx hb dL_law_149 (top_i (nI_add _ _) ?_)
  refine va_sln (v := xs ((10 * k) + 4)) hx hb hX hbl hbA hS (by omega) hL (rfl) dL_law_150 ?_
  refine lv_i2l hx hb dL_law_151 rfl ?_
  refine lv_ldc2 (v := 4294967295) hx hb hown (hta _ mw_631) dL_law_152 ?_
  refine top_l (y := lN 4294967295) (by decide) ?_
  refine lv_land hx hb dL_law_155 ?_
  refine lv_lor hx hb dL_law_156 ?_
  refine top_l (y := lj (xs ((10 * k) + 3)) (xs ((10 * k) + 4))) rfl ?_
  refine w_pc (pc2 := 157) rfl ?_
  refine cf_0 (wr := [(qu, .inl (ku, 256, .inl (nF UBN))), (qb, .inl (kb, 16, .inl (nF b))), (qe, .inl (ke, 16, .inl (nF z))), (qg, .inr (1, [.long yh, .long yl])), (qa, .inl (ka, 48, .inl (nF ab))), (qt, .inl (kt, 96, .inl (nF tb))), (qm, .inl (km, 16, .inl (nF mk))), (o, .inr (3, [.int th, .int (nI ph), .int (zI og), .ref rx, .ref rk, .ref rw, .ref rb, .ref rn, .long mh, .long ml, .long nh, .int nr, .int (nI pa), .ref rd, .int (nI nt), .ref rg, .long u1, .long u2])), (rx, .inl (jx, 256, .inl (nF SBN))), (rk, .inl (jk, 256, .inl (nF UBN))), (rw, .inl (jw, 44, .inl w)), (rb, .inl (jb, 16, .inl (nF b2))), (rn, .inl (jn, 16, .inl (nF z2))), (rd, .inl (jd, 48, .inl (nF bd))), (rg, .inl (jg, 96, .inl (nF gv))), (qo, .inl (ko, 1, .inr (.inl ou)))]) (va_runV (As := [.long (lj (xs ((10 * k) + 1)) (xs ((10 * k) + 2))), .long (lj (xs ((10 * k) + 3)) (xs ((10 * k) + 4)))]) (rest := []) ⟨hx, hb, hml, hown, hta⟩ (MO.to (c_key l dC dI x qc qg qa qt qm ph og nh nr na nt mb t1 t2 qs qu qw qb qe ks kw SBN w (lj (xs ((10 * k) + 1)) (xs ((10 * k) + 2))) (lj (xs ((10 * k) + 3)) (xs ((10 * k) + 4)))) H.size) (cwV 2 hta (aw_V mw_126 mw_123 mw_124 mw_125 mw_1) rfl rfl rfl ⟨rfl, dyX2_key⟩ ⟨(Nat.le_of_ble_eq_true rfl), (Nat.le_of_ble_eq_true rfl)⟩) (pr_V hP hD hK hE [0, 1, 2, 4] [0, 2] (by decide) rfl rfl rfl rfl) rfl rfl hl.1 rfl (lv_room (Nat.le_of_ble_eq_true rfl)) dL_law_157 ⟨by show 21 + k + 0 ≤ 601024; omega, by show 1775 + 6 * k + 0 ≤ 7293034; omega⟩) hP hD hS hA [0, 1, 2, 4] [3, 5, 6, 7, 8, 9, 10, 11, 12, 13, 14, 15, 16, 17, 18, 19] rfl rfl (by decide) (by decide) (fun H locs hP hD hS => ?_)
  have hP : va_P (dC, dI) vwCl [(qu, .inl (ku, 256, .inl (nF UBN))), (qb, .inl (kb, 16, .inl (nF b))), (qe, .inl (ke, 16, .inl (nF z))), (qg, .inr (1, [.long yh, .long yl])), (qa, .inl (ka, 48, .inl (nF ab))), (qt, .inl (kt, 96, .inl (nF tb))), (qm, .inl (km, 16, .inl (nF mk))), (o, .inr (3, [.int th, .int (nI ph), .int (zI og), .ref rx, .ref rk, .ref rw, .ref rb, .ref rn, .long mh, .long ml, .long nh, .int nr, .int (nI pa), .ref rd, .int (nI nt), .ref rg, .long u1, .long u2])), (rx, .inl (jx, 256, .inl (nF SBN))), (rk, .inl (jk, 256, .inl (nF UBN))), (rw, .inl (jw, 44, .inl w)), (rb, .inl (jb, 16, .inl (nF b2))), (rn, .inl (jn, 16, .inl (nF z2))), (rd, .inl (jd, 48, .inl (nF bd))), (rg, .inl (jg, 96, .inl (nF gv))), (qo, .inl (ko, 1, .inr (.inl ou))), (x, .inr (2, [.ref qc, .ref qg, .ref qa, .ref qt, .ref qm, .int (nI 0), .int (zI og), .long nh, .int nr, .int (nI na), .int (nI 0), .int mb, .long t1, .long t2])), (qc, .inr (0, [.ref qs, .ref qu, .ref qw, .ref qb, .ref qe])), (qs, .inl (ks, 256, .inl (nF SBN))), (qw, .inl (kw, 44, .inl (kwN SBN (lj (xs ((10 * k) + 1)) (xs ((10 * k) + 2))) (lj (xs ((10 * k) + 3)) (xs ((10 * k) + 4))))))] H := hP
  have hD : va_D A [(qu, .inl (ku, 256, .inl (nF UBN))), (qb, .inl (kb, 16, .inl (nF b))), (qe, .inl (ke, 16, .inl (nF z))), (qg, .inr (1, [.long yh, .long yl])), (qa, .inl (ka, 48, .inl (nF ab))), (qt, .inl (kt, 96, .inl (nF tb))), (qm, .inl (km, 16, .inl (nF mk))), (o, .inr (3, [.int th, .int (nI ph), .int (zI og), .ref rx, .ref rk, .ref rw, .ref rb, .ref rn, .long mh, .long ml, .long nh, .int nr, .int (nI pa), .ref rd, .int (nI nt), .ref rg, .long u1, .long u2])), (rx, .inl (jx, 256, .inl (nF SBN))), (rk, .inl (jk, 256, .inl (nF UBN))), (rw, .inl (jw, 44, .inl w)), (rb, .inl (jb, 16, .inl (nF b2))), (rn, .inl (jn, 16, .inl (nF z2))), (rd, .inl (jd, 48, .inl (nF bd))), (rg, .inl (jg, 96, .inl (nF gv))), (qo, .inl (ko, 1, .inr (.inl ou))), (x, .inr (2, [.ref qc, .ref qg, .ref qa, .ref qt, .ref qm, .int (nI 0), .int (zI og), .long nh, .int nr, .int (nI na), .int (nI 0), .int mb, .long t1, .long t2])), (qc, .inr (0, [.ref qs, .ref qu, .ref qw, .ref qb, .ref qe])), (qs, .inl (ks, 256, .inl (nF SBN))), (qw, .inl (kw, 44, .inl (kwN SBN (lj (xs ((10 * k) + 1)) (xs ((10 * k) + 2))) (lj (xs ((10 * k) + 3)) (xs ((10 * k) + 4))))))] := hD
  refine W.widen (k := 21 + k) (n := 1775 + 6 * k) (by show 21 + k + 0 ≤ 21 + k; omega) (by show 1775 + 6 * k + 0 ≤ 1775 + 6 * k; omega) ?_
  refine w_pc (pc2 := 160) rfl ?_
  refine lv_aload_n hx hb dL_law_160 rfl (lv_at hl 2 rfl) ?_
  refine lv_aload_n hx hb dL_law_161 rfl (lv_at hl 0 rfl) ?_
  refine lv_iload hx hb dL_law_162 (lv_at hl 4 rfl) ?_
  refine lv_iconst (v := nI 1) hx hb dL_law_164 (by decide) ?_
  refine lv_iadd hx hb dL_law_165 (top_i (nI_add _ _) ?_)
  refine va_sln (v := xs ((10 * k) + 1)) hx hb hX hbl hbA hS (by omega) hL (rfl) dL_law_166 ?_
  refine lv_i2l hx hb dL_law_167 rfl ?_
  refine lv_bipush (v := nI 32) hx hb dL_law_168 (by decide) ?_
  refine lv_lshl hx hb dL_law_170 rfl ?_
  refine lv_aload_n hx hb dL_law_171 rfl (lv_at hl 0 rfl) ?_
  refine lv_iload hx hb dL_law_172 (lv_at hl 4 rfl) ?_
  refine lv_iconst (v := nI 2) hx hb dL_law_174 (by decide) ?_
  refine w_pc (pc2 := 175) rfl ?_
  refine lv_iadd hx hb dL_law_175 (top_i (nI_add _ _) ?_)
  refine va_sln (v := xs ((10 * k) + 2)) hx hb hX hbl hbA hS (by omega) hL (rfl) dL_law_176 ?_
  refine lv_i2l hx hb dL_law_177 rfl ?_
  refine lv_ldc2 (v := 4294967295) hx hb hown (hta _ mw_631) dL_law_178 ?_
  refine top_l (y := lN 4294967295) (by decide) ?_
  refine lv_land hx hb dL_law_181 ?_
  refine lv_lor hx hb dL_law_182 ?_
  refine top_l (y := lj (xs ((10 * k) + 1)) (xs ((10 * k) + 2))) rfl ?_
  refine lv_aload_n hx hb dL_law_183 rfl (lv_at hl 0 rfl) ?_
  refine lv_iload hx hb dL_law_184 (lv_at hl 4 rfl) ?_
  refine lv_iconst (v := nI 3) hx hb dL_law_186 (by decide) ?_
  refine lv_iadd hx hb dL_law_187 (top_i (nI_add _ _) ?_)
  refine va_sln (v := xs ((10 * k) + 3)) hx hb hX hbl hbA hS (by omega) hL (rfl) dL_law_188 ?_
  refine lv_i2l hx hb dL_law_189 rfl ?_
  refine w_pc (pc2 := 190) rfl ?_
  refine lv_bipush (v := nI 32) hx hb dL_law_190 (by decide) ?_
  refine lv_lshl hx hb dL_law_192 rfl ?_
  refine lv_aload_n hx hb dL_law_193 rfl (lv_at hl 0 rfl) ?_
  refine lv_iload hx hb dL_law_194 (lv_at hl 4 rfl) ?_
  refine lv_iconst (v := nI 4) hx hb dL_law_196 (by decide) ?_
  refine lv_iadd hx hb dL_law_197 (top_i (nI_add _ _) ?_)
  refine va_sln (v := xs ((10 * k) + 4)) hx hb hX hbl hbA hS (by omega) hL (rfl) dL_law_198 ?_
  refine lv_i2l hx hb dL_law_199 rfl ?_
  refine lv_ldc2 (v := 4294967295) hx hb hown (hta _ mw_631) dL_law_200 ?_
  refine top_l (y := lN 4294967295) (by decide) ?_
  refine lv_land hx hb dL_law_203 ?_
  refine lv_lor hx hb dL_law_204 ?_
  refine top_l (y := lj (xs ((10 * k) + 3)) (xs ((10 * k) + 4))) rfl ?_
  refine cf_0 (wr := [(qu, .inl (ku, 256, .inl (nF UBN))), (qb, .inl (kb, 16, .inl (nF b))), (qe, .inl (ke, 16, .inl (nF z))), (qg, .inr (1, [.long yh, .long yl])), (qa, .inl (ka, 48, .inl (nF ab))), (qt, .inl (kt, 96, .inl (nF tb))), (qm, .inl (km, 16, .inl (nF mk))), (rk, .inl (jk, 256, .inl (nF UBN))), (rb, .inl (jb, 16, .inl (nF b2))), (rn, .inl (jn, 16, .inl (nF z2))), (rd, .inl (jd, 48, .inl (nF bd))), (rg, .inl (jg, 96, .inl (nF gv))), (qo, .inl (ko, 1, .inr (.inl ou))), (x, .inr (2, [.ref qc, .ref qg, .ref qa, .ref qt, .ref qm, .int (nI 0), .int (zI og), .long nh, .int nr, .int (nI na), .int (nI 0), .int mb, .long t1, .long t2])), (qc, .inr (0, [.ref qs, .ref qu, .ref qw, .ref qb, .ref qe])), (qs, .inl (ks, 256, .inl (nF SBN))), (qw, .inl (kw, 44, .inl (kwN SBN (lj (xs ((10 * k) + 1)) (xs ((10 * k) + 2))) (lj (xs ((10 * k) + 3)) (xs ((10 * k) + 4))))))]) (va_runV (As := [.long (lj (xs ((10 * k) + 1)) (xs ((10 * k) + 2))), .long (lj (xs ((10 * k) + 3)) (xs ((10 * k) + 4)))]) (rest := []) ⟨hx, hb, hml, hown, hta⟩ (MO.to (m_key l dC dI o th ph og rx rk rw rb rn mh ml nh nr pa rd nt rg u1 u2 jx jw SBN w (lj (xs ((10 * k) + 1)) (xs ((10 * k) + 2))) (lj (xs ((10 * k) + 3)) (xs ((10 * k) + 4)))) H.size) (cwV 2 hta (aw_V mw_519 mw_516 mw_517 mw_518 mw_5) rfl rfl rfl ⟨rfl, dyX3_key⟩ ⟨(Nat.le_of_ble_eq_true rfl), (Nat.le_of_ble_eq_true rfl)⟩) (pr_V hP hD hK hE [7, 8, 10] [8, 10] (by decide) rfl rfl rfl rfl) rfl rfl hl.1 rfl (lv_room (Nat.le_of_ble_eq_true rfl)) dL_law_205 ⟨by show 21 + k + 0 ≤ 601024; omega, by show 1775 + 6 * k + 0 ≤ 7293034; omega⟩) hP hD hS hA [7, 8, 10] [0, 1, 2, 3, 4, 5, 6, 9, 11, 12, 13, 14, 15, 16, 17, 18, 19] rfl rfl (by decide) (by decide) (fun H locs hP hD hS => ?_)
  have hP : va_P (dC, dI) vwCl [(qu, .inl (ku, 256, .inl (nF UBN))), (qb, .inl (kb, 16, .inl (nF b))), (qe, .inl (ke, 16, .inl (nF z))), (qg, .inr (1, [.long yh, .long yl])), (qa, .inl (ka, 48, .inl (nF ab))), (qt, .inl (kt, 96, .inl (nF tb))), (qm, .inl (km, 16, .inl (nF mk))), (rk, .inl (jk, 256, .inl (nF UBN))), (rb, .inl (jb, 16, .inl (nF b2))), (rn, .inl (jn, 16, .inl (nF z2))), (rd, .inl (jd, 48, .inl (nF bd))), (rg, .inl (jg, 96, .inl (nF gv))), (qo, .inl (ko, 1, .inr (.inl ou))), (x, .inr (2, [.ref qc, .ref qg, .ref qa, .ref qt, .ref qm, .int (nI 0), .int (zI og), .long nh, .int nr, .int (nI na), .int (nI 0), .int mb, .long t1, .long t2])), (qc, .inr (0, [.ref qs, .ref qu, .ref qw, .ref qb, .ref qe])), (qs, .inl (ks, 256, .inl (nF SBN))), (qw, .inl (kw, 44, .inl (kwN SBN (lj (xs ((10 * k) + 1)) (xs ((10 * k) + 2))) (lj (xs ((10 * k) + 3)) (xs ((10 * k) + 4)))))), (o, .inr (3, [.int (nI 0), .int (nI 0), .int (zI og), .ref rx, .ref rk, .ref rw, .ref rb, .ref rn, .long mh, .long ml, .long nh, .int nr, .int (nI 0), .ref rd, .int (nI 0), .ref rg, .long u1, .long u2])), (rx, .inl (jx, 256, .inl (nF SBN))), (rw, .inl (jw, 44, .inl (kwN SBN (lj (xs ((10 * k) + 1)) (xs ((10 * k) + 2))) (lj (xs ((10 * k) + 3)) (xs ((10 * k) + 4))))))] H := hP
  have hD : va_D A [(qu, .inl (ku, 256, .inl (nF UBN))), (qb, .inl (kb, 16, .inl (nF b))), (qe, .inl (ke, 16, .inl (nF z))), (qg, .inr (1, [.long yh, .long yl])), (qa, .inl (ka, 48, .inl (nF ab))), (qt, .inl (kt, 96, .inl (nF tb))), (qm, .inl (km, 16, .inl (nF mk))), (rk, .inl (jk, 256, .inl (nF UBN))), (rb, .inl (jb, 16, .inl (nF b2))), (rn, .inl (jn, 16, .inl (nF z2))), (rd, .inl (jd, 48, .inl (nF bd))), (rg, .inl (jg, 96, .inl (nF gv))), (qo, .inl (ko, 1, .inr (.inl ou))), (x, .inr (2, [.ref qc, .ref qg, .ref qa, .ref qt, .ref qm, .int (nI 0), .int (zI og), .long nh, .int nr, .int (nI na), .int (nI 0), .int mb, .long t1, .long t2])), (qc, .inr (0, [.ref qs, .ref qu, .ref qw, .ref qb, .ref qe])), (qs, .inl (ks, 256, .inl (nF SBN))), (qw, .inl (kw, 44, .inl (kwN SBN (lj (xs ((10 * k) + 1)) (xs ((10 * k) + 2))) (lj (xs ((10 * k) + 3)) (xs ((10 * k) + 4)))))), (o, .inr (3, [.int (nI 0), .int (nI 0), .int (zI og), .ref rx, .ref rk, .ref rw, .ref rb, .ref rn, .long mh, .long ml, .long nh, .int nr, .int (nI 0), .ref rd, .int (nI 0), .ref rg, .long u1, .long u2])), (rx, .inl (jx, 256, .inl (nF SBN))), (rw, .inl (jw, 44, .inl (kwN SBN (lj (xs ((10 * k) + 1)) (xs ((10 * k) + 2))) (lj (xs ((10 * k) + 3)) (xs ((10 * k) + 4))))))] := hD
  refine W.widen (k := 21 + k) (n := 1775 + 6 * k) (by show 21 + k + 0 ≤ 21 + k; omega) (by show 1775 + 6 * k + 0 ≤ 1775 + 6 * k; omega) ?_
  refine w_pc (pc2 := 208) rfl ?_
  refine lv_goto (tgt := 1352) hx hb dL_law_208 (by decide) ?_
  refine lv_iinc (v := nI (10 * (k + 1))) (k := 4) hx hb dL_law_1352 hl rfl ((ix_inc _ 10).trans (congrArg nI (by omega))) (by decide) rfl (fun ls hl => ?_)
  have hl : lv_has ls 8 [(4, .int (nI (10 * (k + 1)))), (0, .ref sa), (1, .ref x), (2, .ref o), (3, .ref qo)] := hl
  refine lv_goto (tgt := 23) hx hb dL_law_1355 (by decide) ?_
  refine W.widen (k := 21 + (k + 1)) (n := 1775 + 6 * (k + 1)) (by omega) (by omega) ?_
  exact hd (kwN SBN (lj (xs ((10 * k) + 1)) (xs ((10 * k) + 2))) (lj (xs ((10 * k) + 3)) (xs ((10 * k) + 4)))) b z mk ab tb yh yl 0 og nh nr na 0 mb t1 t2 (nI 0) b2 z2 bd gv mh ml u1 u2 0 ou ls H locs (iv_key hI9) (lv_sub hl [1, 2, 3, 4, 0] rfl) (hP.sub [13, 14, 15, 0, 16, 1, 2, 3, 4, 5, 6, 17, 18, 7, 19, 8, 9, 10, 11, 12] rfl) (hD.sub [13, 14, 15, 0, 16, 1, 2, 3, 4, 5, 6, 17, 18, 7, 19, 8, 9, 10, 11, 12] (by decide) rfl) hS

set_option maxHeartbeats 4000000 in
set_option maxRecDepth 100000 in
/-- lc_encrypt -/
theorem lc_encrypt (p : Program) (l : Launch) (e : Env) (s : State) (m : MethodId) (args : Array Value) (below : List Frame) (meth : Method) (c : Code) (Q : State → Prop) (A : Nat → Prop) (dC : Nat → ClassId) (dI : Nat → Nat → Nat) (sa : Nat) (x : Nat) (qc : Nat) (qs : Nat) (qu : Nat) (qw : Nat) (qb : Nat) (qe : Nat) (qg : Nat) (qa : Nat) (qt : Nat) (qm : Nat) (ks : ClassId) (ku : ClassId) (kw : ClassId) (kb : ClassId) (ke : ClassId) (ka : ClassId) (kt : ClassId) (km : ClassId) (o : Nat) (rx : Nat) (rk : Nat) (rw : Nat) (rb : Nat) (rn : Nat) (rd : Nat) (rg : Nat) (jx : ClassId) (jk : ClassId) (jw : ClassId) (jb : ClassId) (jn : ClassId) (jd : ClassId) (jg : ClassId) (qo : Nat) (ko : ClassId) (L : Nat) (xs : Nat → Int32) (k : Nat) (hx : p.tables.exec = Jvm.exec) (hb : c.code = cL_law) (hml : c.maxLocals = 8) (hta : ∀ w ∈ AW, w.before args s = true) (hown : s.vm.findClass RL = some m.cls) (hE : EX s) (hT : TX s) (hZ : ZT A s s.heap) (hst : l.stackTraces = false) (hA : ∀ q, s.heap.size ≤ q → A q) (hK : va_K (dC, dI) vwCl [(ks, .int), (ku, .int), (kw, .int), (kb, .int), (ke, .int), (ka, .int), (kt, .int), (km, .int), (jx, .int), (jk, .int), (jw, .int), (jb, .int), (jn, .int), (jd, .int), (jg, .int), (ko, .long)] s) (hX : va_X sa L xs s s.heap) (hbl : sa < s.heap.size) (hbA : ¬ A sa) (hL : L ≤ 5120) (hk : 10 * k + 10 ≤ L) (hd : HD p l e s m args below meth c Q A dC dI sa x qc qs qu qw qb qe qg qa qt qm ks ku kw kb ke ka kt km o rx rk rw rb rn rd rg jx jk jw jb jn jd jg qo ko (k + 1)) (w : Nat → Int32) (b : Nat → Nat) (z : Nat → Nat) (mk : Nat → Nat) (ab : Nat → Nat) (tb : Nat → Nat) (yh : Int64) (yl : Int64) (ph : Nat) (og : Bool) (nh : Int64) (nr : Int32) (na : Nat) (nt : Nat) (mb : Int32) (t1 : Int64) (t2 : Int64) (th : Int32) (b2 : Nat → Nat) (z2 : Nat → Nat) (bd : Nat → Nat) (gv : Nat → Nat) (mh : Int64) (ml : Int64) (u1 : Int64) (u2 : Int64) (pa : Nat) (ou : Nat → Int64) (ls : Array Slot) (H : Heap) (locs : List Loc) (hI : INV w ph og nh nr na pa nt mb mk ab bd tb gv t1 t2 u1 u2) (hl : lv_has ls 8 [(0, .ref sa), (1, .ref x), (2, .ref o), (3, .ref qo), (4, .int (nI (10 * k)))]) (hP : va_P (dC, dI) vwCl [(x, .inr (2, [.ref qc, .ref qg, .ref qa, .ref qt, .ref qm, .int (nI ph), .int (zI og), .long nh, .int nr, .int (nI na), .int (nI nt), .int mb, .long t1, .long t2])), (qc, .inr (0, [.ref qs, .ref qu, .ref qw, .ref qb, .ref qe])), (qs, .inl (ks, 256, .inl (nF SBN))), (qu, .inl (ku, 256, .inl (nF UBN))), (qw, .inl (kw, 44, .inl w)), (qb, .inl (kb, 16, .inl (nF b))), (qe, .inl (ke, 16, .inl (nF z))), (qg, .inr (1, [.long yh, .long yl])), (qa, .inl (ka, 48, .inl (nF ab))), (qt, .inl (kt, 96, .inl (nF tb))), (qm, .inl (km, 16, .inl (nF mk))), (o, .inr (3, [.int th, .int (nI ph), .int (zI og), .ref rx, .ref rk, .ref rw, .ref rb, .ref rn, .long mh, .long ml, .long nh, .int nr, .int (nI pa), .ref rd, .int (nI nt), .ref rg, .long u1, .long u2])), (rx, .inl (jx, 256, .inl (nF SBN))), (rk, .inl (jk, 256, .inl (nF UBN))), (rw, .inl (jw, 44, .inl w)), (rb, .inl (jb, 16, .inl (nF b2))), (rn, .inl (jn, 16, .inl (nF z2))), (rd, .inl (jd, 48, .inl (nF bd))), (rg, .inl (jg, 96, .inl (nF gv))), (qo, .inl (ko, 1, .inr (.inl ou)))] H) (hD : va_D A [(x, .inr (2, [.ref qc, .ref qg, .ref qa, .ref qt, .ref qm, .int (nI ph), .int (zI og), .long nh, .int nr, .int (nI na), .int (nI nt), .int mb, .long t1, .long t2])), (qc, .inr (0, [.ref qs, .ref qu, .ref qw, .ref qb, .ref qe])), (qs, .inl (ks, 256, .inl (nF SBN))), (qu, .inl (ku, 256, .inl (nF UBN))), (qw, .inl (kw, 44, .inl w)), (qb, .inl (kb, 16, .inl (nF b))), (qe, .inl (ke, 16, .inl (nF z))), (qg, .inr (1, [.long yh, .long yl])), (qa, .inl (ka, 48, .inl (nF ab))), (qt, .inl (kt, 96, .inl (nF tb))), (qm, .inl (km, 16, .inl (nF mk))), (o, .inr (3, [.int th, .int (nI ph), .int (zI og), .ref rx, .ref rk, .ref rw, .ref rb, .ref rn, .long mh, .long ml, .long nh, .int nr, .int (nI pa), .ref rd, .int (nI nt), .ref rg, .long u1, .long u2])), (rx, .inl (jx, 256, .inl (nF SBN))), (rk, .inl (jk, 256, .inl (nF UBN))), (rw, .inl (jw, 44, .inl w)), (rb, .inl (jb, 16, .inl (nF b2))), (rn, .inl (jn, 16, .inl (nF z2))), (rd, .inl (jd, 48, .inl (nF bd))), (rg, .inl (jg, 96, .inl (nF gv))), (qo, .inl (ko, 1, .inr (.inl ou)))]) (hS : va_S A s.heap H locs)   : W p l e room_1 s m args below meth c H locs (21 + k) (1775 + 6 * k) Q (F0 m 267 ls []) := by
  have hI9 := hI
  obtain ⟨hph6, hnt, a256, d256, t256, g256, hne, h33, h45⟩ := hI
  refine lv_aload_n hx hb dL_law_267 rfl (lv_at hl 1 rfl) ?_
  refine lv_aload_n hx hb dL_law_268 rfl (lv_at hl 0 rfl) ?_
  refine lv_iload hx hb dL_law_269 (lv_at hl 4 rfl) ?_
  refine lv_iconst (v := nI 1) hx hb dL_law_271 (by decide) ?_
  refine lv_iadd hx hb dL_law_272 (top_i (nI_add _ _) ?_)
  refine va_sln (v := xs ((10 * k) + 1)) hx hb hX hbl hbA hS (by omega) hL (rfl) dL_law_273 ?_
  refine lv_i2l hx hb dL_law_274 rfl ?_
  refine lv_bipush (v := nI 32) hx hb dL_law_275 (by decide) ?_
  refine lv_lshl hx hb dL_law_277 rfl ?_
  refine lv_aload_n hx hb dL_law_278 rfl (lv_at hl 0 rfl) ?_
  refine lv_iload hx hb dL_law_279 (lv_at hl 4 rfl) ?_
  refine w_pc (pc2 := 281) rfl ?_
  refine lv_iconst (v := nI 2) hx hb dL_law_281 (by decide) ?_
  refine lv_iadd hx hb dL_law_282 (top_i (nI_add _ _) ?_)
  refine va_sln (v := xs ((10 * k) + 2)) hx hb hX hbl hbA hS (by omega) hL (rfl) dL_law_283 ?_
  refine lv_i2l hx hb dL_law_284 rfl ?_
  refine lv_ldc2 (v := 4294967295) hx hb hown (hta _ mw_631) dL_law_285 ?_
  refine top_l (y := lN 4294967295) (by decide) ?_
  refine lv_land hx hb dL_law_288 ?_
  refine lv_lor hx hb dL_law_289 ?_
  refine top_l (y := lj (xs ((10 * k) + 1)) (xs ((10 * k) + 2))) rfl ?_
  refine lv_aload_n hx hb dL_law_290 rfl (lv_at hl 0 rfl) ?_
  refine lv_iload hx hb dL_law_291 (lv_at hl 4 rfl) ?_
  refine lv_iconst (v := nI 3) hx hb dL_law_293 (by decide) ?_
  refine lv_iadd hx hb dL_law_294 (top_i (nI_add _ _) ?_)
  refine va_sln (v := xs ((10 * k) + 3)) hx hb hX hbl hbA hS (by omega) hL (rfl) dL_law_295 ?_
  refine w_pc (pc2 := 296) rfl ?_
  refine lv_i2l hx hb dL_law_296 rfl ?_
  refine lv_bipush (v := nI 32) hx hb dL_law_297 (by decide) ?_
  refine lv_lshl hx hb dL_law_299 rfl ?_
  refine lv_aload_n hx hb dL_law_300 rfl (lv_at hl 0 rfl) ?_
  refine lv_iload hx hb dL_law_301 (lv_at hl 4 rfl) ?_
  refine lv_iconst (v := nI 4) hx hb dL_law_303 (by decide) ?_
  refine lv_iadd hx hb dL_law_304 (top_i (nI_add _ _) ?_)
  refine va_sln (v := xs ((10 * k) + 4)) hx hb hX hbl hbA hS (by omega) hL (rfl) dL_law_305 ?_
  refine lv_i2l hx hb dL_law_306 rfl ?_
  refine lv_ldc2 (v := 4294967295) hx hb hown (hta _ mw_631) dL_law_307 ?_
  refine top_l (y := lN 4294967295) (by decide) ?_
  refine lv_land hx hb dL_law_310 ?_
  refine lv_lor hx hb dL_law_311 ?_
  refine top_l (y := lj (xs ((10 * k) + 3)) (xs ((10 * k) + 4))) rfl ?_
  refine w_pc (pc2 := 312) rfl ?_
  refine lv_aload_n hx hb dL_law_312 rfl (lv_at hl 0 rfl) ?_
  refine lv_iload hx hb dL_law_313 (lv_at hl 4 rfl) ?_
  refine lv_iconst (v := nI 5) hx hb dL_law_315 (by decide) ?_
  refine lv_iadd hx hb dL_law_316 (top_i (nI_add _ _) ?_)
  refine va_sln (v := xs ((10 * k) + 5)) hx hb hX hbl hbA hS (by omega) hL (rfl) dL_law_317 ?_
  refine lv_if_eq (tgt := 325) hx hb dL_law_318 (by decide) (fun hc_318 => ?_) (fun hc_318 => ?_)
  · skip
    refine lv_iconst (v := nI 0) hx hb dL_law_325 (by decide) ?_
    refine cf_1 (wr := [(qu, .inl (ku, 256, .inl (nF UBN))), (qg, .inr (1, [.long yh, .long yl])), (qa, .inl (ka, 48, .inl (nF ab))), (qt, .inl (kt, 96, .inl (nF tb))), (qm, .inl (km, 16, .inl (nF mk))), (o, .inr (3, [.int th, .int (nI ph), .int (zI og), .ref rx, .ref rk, .ref rw, .ref rb, .ref rn, .long mh, .long ml, .long nh, .int nr, .int (nI pa), .ref rd, .int (nI nt), .ref rg, .long u1, .long u2])), (rx, .inl (jx, 256, .inl (nF SBN))), (rk, .inl (jk, 256, .inl (nF UBN))), (rw, .inl (jw, 44, .inl w)), (rb, .inl (jb, 16, .inl (nF b2))), (rn, .inl (jn, 16, .inl (nF z2))), (rd, .inl (jd, 48, .inl (nF bd))), (rg, .inl (jg, 96, .inl (nF gv))), (qo, .inl (ko, 1, .inr (.inl ou)))]) (va_runV (As := [.long (lj (xs ((10 * k) + 1)) (xs ((10 * k) + 2))), .long (lj (xs ((10 * k) + 3)) (xs ((10 * k) + 4))), .int (nI 0)]) (rest := []) ⟨hx, hb, hml, hown, hta⟩ (MO.to (c_encrypt l dC dI x qc qg qa qt qm ph og nh nr na nt mb t1 t2 qs qu qw qb qe ks kw kb ke SBN w b z (lj (xs ((10 * k) + 1)) (xs ((10 * k) + 2))) (lj (xs ((10 * k) + 3)) (xs ((10 * k) + 4))) false SBN_lt) H.size) (cwV 3 hta (aw_V mw_131 mw_128 mw_129 mw_130 mw_1) rfl rfl rfl ⟨rfl, dyX2_encrypt⟩ ⟨(Nat.le_of_ble_eq_true rfl), (Nat.le_of_ble_eq_true rfl)⟩) (pr_V hP hD hK hE [0, 1, 2, 4, 5, 6] [0, 2, 3, 4] (by decide) rfl rfl rfl rfl) rfl rfl hl.1 rfl (lv_room (Nat.le_of_ble_eq_true rfl)) dL_law_326 ⟨by show 21 + k + 0 ≤ 601024; omega, by show 1775 + 6 * k + 0 ≤ 7293034; omega⟩) hP hD hS hA [0, 1, 2, 4, 5, 6] [3, 7, 8, 9, 10, 11, 12, 13, 14, 15, 16, 17, 18, 19] rfl rfl (by decide) (by decide) (fun H locs hP hD hS => ?_)
    have hP : va_P (dC, dI) vwCl [(qu, .inl (ku, 256, .inl (nF UBN))), (qg, .inr (1, [.long yh, .long yl])), (qa, .inl (ka, 48, .inl (nF ab))), (qt, .inl (kt, 96, .inl (nF tb))), (qm, .inl (km, 16, .inl (nF mk))), (o, .inr (3, [.int th, .int (nI ph), .int (zI og), .ref rx, .ref rk, .ref rw, .ref rb, .ref rn, .long mh, .long ml, .long nh, .int nr, .int (nI pa), .ref rd, .int (nI nt), .ref rg, .long u1, .long u2])), (rx, .inl (jx, 256, .inl (nF SBN))), (rk, .inl (jk, 256, .inl (nF UBN))), (rw, .inl (jw, 44, .inl w)), (rb, .inl (jb, 16, .inl (nF b2))), (rn, .inl (jn, 16, .inl (nF z2))), (rd, .inl (jd, 48, .inl (nF bd))), (rg, .inl (jg, 96, .inl (nF gv))), (qo, .inl (ko, 1, .inr (.inl ou))), (x, .inr (2, [.ref qc, .ref qg, .ref qa, .ref qt, .ref qm, .int (nI ph), .int (zI og), .long nh, .int nr, .int (nI na), .int (nI nt), .int mb, .long t1, .long t2])), (qc, .inr (0, [.ref qs, .ref qu, .ref qw, .ref qb, .ref qe])), (qs, .inl (ks, 256, .inl (nF SBN))), (qw, .inl (kw, 44, .inl w)), (qb, .inl (kb, 16, .inl (nF (erN SBN w (ldN (lj (xs ((10 * k) + 1)) (xs ((10 * k) + 2))) (lj (xs ((10 * k) + 3)) (xs ((10 * k) + 4)))) 10)))), (qe, .inl (ke, 16, .inl (nF (erN SBN w (ldN (lj (xs ((10 * k) + 1)) (xs ((10 * k) + 2))) (lj (xs ((10 * k) + 3)) (xs ((10 * k) + 4)))) 9))))] H := hP
    have hD : va_D A [(qu, .inl (ku, 256, .inl (nF UBN))), (qg, .inr (1, [.long yh, .long yl])), (qa, .inl (ka, 48, .inl (nF ab))), (qt, .inl (kt, 96, .inl (nF tb))), (qm, .inl (km, 16, .inl (nF mk))), (o, .inr (3, [.int th, .int (nI ph), .int (zI og), .ref rx, .ref rk, .ref rw, .ref rb, .ref rn, .long mh, .long ml, .long nh, .int nr, .int (nI pa), .ref rd, .int (nI nt), .ref rg, .long u1, .long u2])), (rx, .inl (jx, 256, .inl (nF SBN))), (rk, .inl (jk, 256, .inl (nF UBN))), (rw, .inl (jw, 44, .inl w)), (rb, .inl (jb, 16, .inl (nF b2))), (rn, .inl (jn, 16, .inl (nF z2))), (rd, .inl (jd, 48, .inl (nF bd))), (rg, .inl (jg, 96, .inl (nF gv))), (qo, .inl (ko, 1, .inr (.inl ou))), (x, .inr (2, [.ref qc, .ref qg, .ref qa, .ref qt, .ref qm, .int (nI ph), .int (zI og), .long nh, .int nr, .int (nI na), .int (nI nt), .int mb, .long t1, .long t2])), (qc, .inr (0, [.ref qs, .ref qu, .ref qw, .ref qb, .ref qe])), (qs, .inl (ks, 256, .inl (nF SBN))), (qw, .inl (kw, 44, .inl w)), (qb, .inl (kb, 16, .inl (nF (erN SBN w (ldN (lj (xs ((10 * k) + 1)) (xs ((10 * k) + 2))) (lj (xs ((10 * k) + 3)) (xs ((10 * k) + 4)))) 10)))), (qe, .inl (ke, 16, .inl (nF (erN SBN w (ldN (lj (xs ((10 * k) + 1)) (xs ((10 * k) + 2))) (lj (xs ((10 * k) + 3)) (xs ((10 * k) + 4)))) 9))))] := hD
    refine W.widen (k := 21 + k) (n := 1775 + 6 * k) (by show 21 + k + 0 ≤ 21 + k; omega) (by show 1775 + 6 * k + 0 ≤ 1775 + 6 * k; omega) ?_
    refine w_pc (pc2 := 329) rfl ?_
    refine lv_aload_n hx hb dL_law_329 rfl (lv_at hl 2 rfl) ?_
    refine lv_aload_n hx hb dL_law_330 rfl (lv_at hl 0 rfl) ?_
    refine lv_iload hx hb dL_law_331 (lv_at hl 4 rfl) ?_
    refine lv_iconst (v := nI 1) hx hb dL_law_333 (by decide) ?_
    refine lv_iadd hx hb dL_law_334 (top_i (nI_add _ _) ?_)
    refine va_sln (v := xs ((10 * k) + 1)) hx hb hX hbl hbA hS (by omega) hL (rfl) dL_law_335 ?_
    refine lv_i2l hx hb dL_law_336 rfl ?_
    refine lv_bipush (v := nI 32) hx hb dL_law_337 (by decide) ?_
    refine lv_lshl hx hb dL_law_339 rfl ?_
    refine lv_aload_n hx hb dL_law_340 rfl (lv_at hl 0 rfl) ?_
    refine lv_iload hx hb dL_law_341 (lv_at hl 4 rfl) ?_
    refine lv_iconst (v := nI 2) hx hb dL_law_343 (by decide) ?_
    refine w_pc (pc2 := 344) rfl ?_
    refine lv_iadd hx hb dL_law_344 (top_i (nI_add _ _) ?_)
    refine va_sln (v := xs ((10 * k) + 2)) hx hb hX hbl hbA hS (by omega) hL (rfl) dL_law_345 ?_
    refine lv_i2l hx hb dL_law_346 rfl ?_
    refine lv_ldc2 (v := 4294967295) hx hb hown (hta _ mw_631) dL_law_347 ?_
    refine top_l (y := lN 4294967295) (by decide) ?_
    refine lv_land hx hb dL_law_350 ?_
    refine lv_lor hx hb dL_law_351 ?_
    refine top_l (y := lj (xs ((10 * k) + 1)) (xs ((10 * k) + 2))) rfl ?_
    refine lv_aload_n hx hb dL_law_352 rfl (lv_at hl 0 rfl) ?_
    refine lv_iload hx hb dL_law_353 (lv_at hl 4 rfl) ?_
    refine lv_iconst (v := nI 3) hx hb dL_law_355 (by decide) ?_
    refine lv_iadd hx hb dL_law_356 (top_i (nI_add _ _) ?_)
    refine va_sln (v := xs ((10 * k) + 3)) hx hb hX hbl hbA hS (by omega) hL (rfl) dL_law_357 ?_
    refine lv_i2l hx hb dL_law_358 rfl ?_
    refine w_pc (pc2 := 359) rfl ?_
    refine lv_bipush (v := nI 32) hx hb dL_law_359 (by decide) ?_
    refine lv_lshl hx hb dL_law_361 rfl ?_
    refine lv_aload_n hx hb dL_law_362 rfl (lv_at hl 0 rfl) ?_
    refine lv_iload hx hb dL_law_363 (lv_at hl 4 rfl) ?_
    refine lv_iconst (v := nI 4) hx hb dL_law_365 (by decide) ?_
    refine lv_iadd hx hb dL_law_366 (top_i (nI_add _ _) ?_)
    refine va_sln (v := xs ((10 * k) + 4)) hx hb hX hbl hbA hS (by omega) hL (rfl) dL_law_367 ?_
    refine lv_i2l hx hb dL_law_368 rfl ?_
    refine lv_ldc2 (v := 4294967295) hx hb hown (hta _ mw_631) dL_law_369 ?_
    refine top_l (y := lN 4294967295) (by decide) ?_
    refine lv_land hx hb dL_law_372 ?_
    refine lv_lor hx hb dL_law_373 ?_
    refine top_l (y := lj (xs ((10 * k) + 3)) (xs ((10 * k) + 4))) rfl ?_
    refine lv_aload_n hx hb dL_law_374 rfl (lv_at hl 0 rfl) ?_
    refine w_pc (pc2 := 375) rfl ?_
    refine lv_iload hx hb dL_law_375 (lv_at hl 4 rfl) ?_
    refine lv_iconst (v := nI 5) hx hb dL_law_377 (by decide) ?_
    refine lv_iadd hx hb dL_law_378 (top_i (nI_add _ _) ?_)
    refine va_sln (v := xs ((10 * k) + 5)) hx hb hX hbl hbA hS (by omega) hL (rfl) dL_law_379 ?_
    refine lv_if_eq (tgt := 387) hx hb dL_law_380 (by decide) (fun hc_380 => ?_) (fun hc_380 => ?_)
    · skip
      refine lv_iconst (v := nI 0) hx hb dL_law_387 (by decide) ?_
      refine cf_1 (wr := [(qu, .inl (ku, 256, .inl (nF UBN))), (qg, .inr (1, [.long yh, .long yl])), (qa, .inl (ka, 48, .inl (nF ab))), (qt, .inl (kt, 96, .inl (nF tb))), (qm, .inl (km, 16, .inl (nF mk))), (rk, .inl (jk, 256, .inl (nF UBN))), (rd, .inl (jd, 48, .inl (nF bd))), (rg, .inl (jg, 96, .inl (nF gv))), (qo, .inl (ko, 1, .inr (.inl ou))), (x, .inr (2, [.ref qc, .ref qg, .ref qa, .ref qt, .ref qm, .int (nI ph), .int (zI og), .long nh, .int nr, .int (nI na), .int (nI nt), .int mb, .long t1, .long t2])), (qc, .inr (0, [.ref qs, .ref qu, .ref qw, .ref qb, .ref qe])), (qs, .inl (ks, 256, .inl (nF SBN))), (qw, .inl (kw, 44, .inl w)), (qb, .inl (kb, 16, .inl (nF (erN SBN w (ldN (lj (xs ((10 * k) + 1)) (xs ((10 * k) + 2))) (lj (xs ((10 * k) + 3)) (xs ((10 * k) + 4)))) 10)))), (qe, .inl (ke, 16, .inl (nF (erN SBN w (ldN (lj (xs ((10 * k) + 1)) (xs ((10 * k) + 2))) (lj (xs ((10 * k) + 3)) (xs ((10 * k) + 4)))) 9))))]) (va_runV (As := [.long (lj (xs ((10 * k) + 1)) (xs ((10 * k) + 2))), .long (lj (xs ((10 * k) + 3)) (xs ((10 * k) + 4))), .int (nI 0)]) (rest := [.long (if false then lN (jbN (erN SBN w (ldN (lj (xs ((10 * k) + 1)) (xs ((10 * k) + 2))) (lj (xs ((10 * k) + 3)) (xs ((10 * k) + 4)))) 10) 8 16 8) else lN (jbN (erN SBN w (ldN (lj (xs ((10 * k) + 1)) (xs ((10 * k) + 2))) (lj (xs ((10 * k) + 3)) (xs ((10 * k) + 4)))) 10) 0 16 8))]) ⟨hx, hb, hml, hown, hta⟩ (MO.to (m_encrypt l dC dI o th ph og rx rk rw rb rn mh ml nh nr pa rd nt rg u1 u2 jx jw jb jn SBN w b2 z2 (lj (xs ((10 * k) + 1)) (xs ((10 * k) + 2))) (lj (xs ((10 * k) + 3)) (xs ((10 * k) + 4))) false SBN_lt) H.size) (cwV 3 hta (aw_V mw_531 mw_528 mw_529 mw_530 mw_5) rfl rfl rfl ⟨rfl, dyX3_encrypt⟩ ⟨(Nat.le_of_ble_eq_true rfl), (Nat.le_of_ble_eq_true rfl)⟩) (pr_V hP hD hK hE [5, 6, 8, 9, 10] [8, 10, 11, 12] (by decide) rfl rfl rfl rfl) rfl rfl hl.1 rfl (lv_room (Nat.le_of_ble_eq_true rfl)) dL_law_388 ⟨by show 21 + k + 0 ≤ 601024; omega, by show 1775 + 6 * k + 0 ≤ 7293034; omega⟩) hP hD hS hA [5, 6, 8, 9, 10] [0, 1, 2, 3, 4, 7, 11, 12, 13, 14, 15, 16, 17, 18, 19] rfl rfl (by decide) (by decide) (fun H locs hP hD hS => ?_)
      have hP : va_P (dC, dI) vwCl [(qu, .inl (ku, 256, .inl (nF UBN))), (qg, .inr (1, [.long yh, .long yl])), (qa, .inl (ka, 48, .inl (nF ab))), (qt, .inl (kt, 96, .inl (nF tb))), (qm, .inl (km, 16, .inl (nF mk))), (rk, .inl (jk, 256, .inl (nF UBN))), (rd, .inl (jd, 48, .inl (nF bd))), (rg, .inl (jg, 96, .inl (nF gv))), (qo, .inl (ko, 1, .inr (.inl ou))), (x, .inr (2, [.ref qc, .ref qg, .ref qa, .ref qt, .ref qm, .int (nI ph), .int (zI og), .long nh, .int nr, .int (nI na), .int (nI nt), .int mb, .long t1, .long t2])), (qc, .inr (0, [.ref qs, .ref qu, .ref qw, .ref qb, .ref qe])), (qs, .inl (ks, 256, .inl (nF SBN))), (qw, .inl (kw, 44, .inl w)), (qb, .inl (kb, 16, .inl (nF (erN SBN w (ldN (lj (xs ((10 * k) + 1)) (xs ((10 * k) + 2))) (lj (xs ((10 * k) + 3)) (xs ((10 * k) + 4)))) 10)))), (qe, .inl (ke, 16, .inl (nF (erN SBN w (ldN (lj (xs ((10 * k) + 1)) (xs ((10 * k) + 2))) (lj (xs ((10 * k) + 3)) (xs ((10 * k) + 4)))) 9)))), (o, .inr (3, [.int (nI 0), .int (nI ph), .int (zI og), .ref rx, .ref rk, .ref rw, .ref rb, .ref rn, .long (lN (jbN (erN SBN w (ldN (lj (xs ((10 * k) + 1)) (xs ((10 * k) + 2))) (lj (xs ((10 * k) + 3)) (xs ((10 * k) + 4)))) 10) 0 16 8)), .long (lN (jbN (erN SBN w (ldN (lj (xs ((10 * k) + 1)) (xs ((10 * k) + 2))) (lj (xs ((10 * k) + 3)) (xs ((10 * k) + 4)))) 10) 8 16 8)), .long nh, .int nr, .int (nI pa), .ref rd, .int (nI nt), .ref rg, .long u1, .long u2])), (rx, .inl (jx, 256, .inl (nF SBN))), (rw, .inl (jw, 44, .inl w)), (rb, .inl (jb, 16, .inl (nF (erN SBN w (ldN (lj (xs ((10 * k) + 1)) (xs ((10 * k) + 2))) (lj (xs ((10 * k) + 3)) (xs ((10 * k) + 4)))) 10)))), (rn, .inl (jn, 16, .inl (nF (ssN SBN (erN SBN w (ldN (lj (xs ((10 * k) + 1)) (xs ((10 * k) + 2))) (lj (xs ((10 * k) + 3)) (xs ((10 * k) + 4)))) 9)))))] H := hP
      have hD : va_D A [(qu, .inl (ku, 256, .inl (nF UBN))), (qg, .inr (1, [.long yh, .long yl])), (qa, .inl (ka, 48, .inl (nF ab))), (qt, .inl (kt, 96, .inl (nF tb))), (qm, .inl (km, 16, .inl (nF mk))), (rk, .inl (jk, 256, .inl (nF UBN))), (rd, .inl (jd, 48, .inl (nF bd))), (rg, .inl (jg, 96, .inl (nF gv))), (qo, .inl (ko, 1, .inr (.inl ou))), (x, .inr (2, [.ref qc, .ref qg, .ref qa, .ref qt, .ref qm, .int (nI ph), .int (zI og), .long nh, .int nr, .int (nI na), .int (nI nt), .int mb, .long t1, .long t2])), (qc, .inr (0, [.ref qs, .ref qu, .ref qw, .ref qb, .ref qe])), (qs, .inl (ks, 256, .inl (nF SBN))), (qw, .inl (kw, 44, .inl w)), (qb, .inl (kb, 16, .inl (nF (erN SBN w (ldN (lj (xs ((10 * k) + 1)) (xs ((10 * k) + 2))) (lj (xs ((10 * k) + 3)) (xs ((10 * k) + 4)))) 10)))), (qe, .inl (ke, 16, .inl (nF (erN SBN w (ldN (lj (xs ((10 * k) + 1)) (xs ((10 * k) + 2))) (lj (xs ((10 * k) + 3)) (xs ((10 * k) + 4)))) 9)))), (o, .inr (3, [.int (nI 0), .int (nI ph), .int (zI og), .ref rx, .ref rk, .ref rw, .ref rb, .ref rn, .long (lN (jbN (erN SBN w (ldN (lj (xs ((10 * k) + 1)) (xs ((10 * k) + 2))) (lj (xs ((10 * k) + 3)) (xs ((10 * k) + 4)))) 10) 0 16 8)), .long (lN (jbN (erN SBN w (ldN (lj (xs ((10 * k) + 1)) (xs ((10 * k) + 2))) (lj (xs ((10 * k) + 3)) (xs ((10 * k) + 4)))) 10) 8 16 8)), .long nh, .int nr, .int (nI pa), .ref rd, .int (nI nt), .ref rg, .long u1, .long u2])), (rx, .inl (jx, 256, .inl (nF SBN))), (rw, .inl (jw, 44, .inl w)), (rb, .inl (jb, 16, .inl (nF (erN SBN w (ldN (lj (xs ((10 * k) + 1)) (xs ((10 * k) + 2))) (lj (xs ((10 * k) + 3)) (xs ((10 * k) + 4)))) 10)))), (rn, .inl (jn, 16, .inl (nF (ssN SBN (erN SBN w (ldN (lj (xs ((10 * k) + 1)) (xs ((10 * k) + 2))) (lj (xs ((10 * k) + 3)) (xs ((10 * k) + 4)))) 9)))))] := hD
      refine W.widen (k := 21 + k) (n := 1775 + 6 * k) (by show 21 + k + 0 ≤ 21 + k; omega) (by show 1775 + 6 * k + 0 ≤ 1775 + 6 * k; omega) ?_
      refine w_pc (pc2 := 391) rfl ?_
      refine W.lcmp hx hb dL_law_391 ?_
      refine top_i (y := nI 0) (cmpx.mpr (rfl)) ?_
      refine lv_if_eq (tgt := 1352) hx hb dL_law_392 (by decide) (fun hc_392 => ?_) (fun hc_392 => ?_)
      · skip
        have hc_392 := (ix_eq (a := 0) (b := 0) (by omega) (by omega)).mp hc_392
        have hc_392 : (0 = 0) := hc_392
        refine lv_iinc (v := nI (10 * (k + 1))) (k := 4) hx hb dL_law_1352 hl rfl ((ix_inc _ 10).trans (congrArg nI (by omega))) (by decide) rfl (fun ls hl => ?_)
        have hl : lv_has ls 8 [(4, .int (nI (10 * (k + 1)))), (0, .ref sa), (1, .ref x), (2, .ref o), (3, .ref qo)] := hl
        refine lv_goto (tgt := 23) hx hb dL_law_1355 (by decide) ?_
        refine W.widen (k := 21 + (k + 1)) (n := 1775 + 6 * (k + 1)) (by omega) (by omega) ?_
        exact hd w (erN SBN w (ldN (lj (xs ((10 * k) + 1)) (xs ((10 * k) + 2))) (lj (xs ((10 * k) + 3)) (xs ((10 * k) + 4)))) 10) (erN SBN w (ldN (lj (xs ((10 * k) + 1)) (xs ((10 * k) + 2))) (lj (xs ((10 * k) + 3)) (xs ((10 * k) + 4)))) 9) mk ab tb yh yl ph og nh nr na nt mb t1 t2 (nI 0) (erN SBN w (ldN (lj (xs ((10 * k) + 1)) (xs ((10 * k) + 2))) (lj (xs ((10 * k) + 3)) (xs ((10 * k) + 4)))) 10) (ssN SBN (erN SBN w (ldN (lj (xs ((10 * k) + 1)) (xs ((10 * k) + 2))) (lj (xs ((10 * k) + 3)) (xs ((10 * k) + 4)))) 9)) bd gv (lN (jbN (erN SBN w (ldN (lj (xs ((10 * k) + 1)) (xs ((10 * k) + 2))) (lj (xs ((10 * k) + 3)) (xs ((10 * k) + 4)))) 10) 0 16 8)) (lN (jbN (erN SBN w (ldN (lj (xs ((10 * k) + 1)) (xs ((10 * k) + 2))) (lj (xs ((10 * k) + 3)) (xs ((10 * k) + 4)))) 10) 8 16 8)) u1 u2 pa ou ls H locs (hI9) (lv_sub hl [1, 2, 3, 4, 0] rfl) (hP.sub [9, 10, 11, 0, 12, 13, 14, 1, 2, 3, 4, 15, 16, 5, 17, 18, 19, 6, 7, 8] rfl) (hD.sub [9, 10, 11, 0, 12, 13, 14, 1, 2, 3, 4, 15, 16, 5, 17, 18, 19, 6, 7, 8] (by decide) rfl) hS
      · skip
        have hc_392 := (not_congr (ix_eq (a := 0) (b := 0) (by omega) (by omega))).mp hc_392
        have hc_392 : ¬ (0 = 0) := hc_392
        exfalso; omega
    · skip
      exact (by first | exact absurd hc_318 hc_380 | exact absurd hc_380 hc_318)
  · skip
    refine lv_iconst (v := nI 1) hx hb dL_law_321 (by decide) ?_
    refine lv_goto (tgt := 326) hx hb dL_law_322 (by decide) ?_
    refine cf_1 (wr := [(qu, .inl (ku, 256, .inl (nF UBN))), (qg, .inr (1, [.long yh, .long yl])), (qa, .inl (ka, 48, .inl (nF ab))), (qt, .inl (kt, 96, .inl (nF tb))), (qm, .inl (km, 16, .inl (nF mk))), (o, .inr (3, [.int th, .int (nI ph), .int (zI og), .ref rx, .ref rk, .ref rw, .ref rb, .ref rn, .long mh, .long ml, .long nh, .int nr, .int (nI pa), .ref rd, .int (nI nt), .ref rg, .long u1, .long u2])), (rx, .inl (jx, 256, .inl (nF SBN))), (rk, .inl (jk, 256, .inl (nF UBN))), (rw, .inl (jw, 44, .inl w)), (rb, .inl (jb, 16, .inl (nF b2))), (rn, .inl (jn, 16, .inl (nF z2))), (rd, .inl (jd, 48, .inl (nF bd))), (rg, .inl (jg, 96, .inl (nF gv))), (qo, .inl (ko, 1, .inr (.inl ou)))]) (va_runV (As := [.long (lj (xs ((10 * k) + 1)) (xs ((10 * k) + 2))), .long (lj (xs ((10 * k) + 3)) (xs ((10 * k) + 4))), .int (nI 1)]) (rest := []) ⟨hx, hb, hml, hown, hta⟩ (MO.to (c_encrypt l dC dI x qc qg qa qt qm ph og nh nr na nt mb t1 t2 qs qu qw qb qe ks kw kb ke SBN w b z (lj (xs ((10 * k) + 1)) (xs ((10 * k) + 2))) (lj (xs ((10 * k) + 3)) (xs ((10 * k) + 4))) true SBN_lt) H.size) (cwV 3 hta (aw_V mw_131 mw_128 mw_129 mw_130 mw_1) rfl rfl rfl ⟨rfl, dyX2_encrypt⟩ ⟨(Nat.le_of_ble_eq_true rfl), (Nat.le_of_ble_eq_true rfl)⟩) (pr_V hP hD hK hE [0, 1, 2, 4, 5, 6] [0, 2, 3, 4] (by decide) rfl rfl rfl rfl) rfl rfl hl.1 rfl (lv_room (Nat.le_of_ble_eq_true rfl)) dL_law_326 ⟨by show 21 + k + 0 ≤ 601024; omega, by show 1775 + 6 * k + 0 ≤ 7293034; omega⟩) hP hD hS hA [0, 1, 2, 4, 5, 6] [3, 7, 8, 9, 10, 11, 12, 13, 14, 15, 16, 17, 18, 19] rfl rfl (by decide) (by decide) (fun H locs hP hD hS => ?_)
    have hP : va_P (dC, dI) vwCl [(qu, .inl (ku, 256, .inl (nF UBN))), (qg, .inr (1, [.long yh, .long yl])), (qa, .inl (ka, 48, .inl (nF ab))), (qt, .inl (kt, 96, .inl (nF tb))), (qm, .inl (km, 16, .inl (nF mk))), (o, .inr (3, [.int th, .int (nI ph), .int (zI og), .ref rx, .ref rk, .ref rw, .ref rb, .ref rn, .long mh, .long ml, .long nh, .int nr, .int (nI pa), .ref rd, .int (nI nt), .ref rg, .long u1, .long u2])), (rx, .inl (jx, 256, .inl (nF SBN))), (rk, .inl (jk, 256, .inl (nF UBN))), (rw, .inl (jw, 44, .inl w)), (rb, .inl (jb, 16, .inl (nF b2))), (rn, .inl (jn, 16, .inl (nF z2))), (rd, .inl (jd, 48, .inl (nF bd))), (rg, .inl (jg, 96, .inl (nF gv))), (qo, .inl (ko, 1, .inr (.inl ou))), (x, .inr (2, [.ref qc, .ref qg, .ref qa, .ref qt, .ref qm, .int (nI ph), .int (zI og), .long nh, .int nr, .int (nI na), .int (nI nt), .int mb, .long t1, .long t2])), (qc, .inr (0, [.ref qs, .ref qu, .ref qw, .ref qb, .ref qe])), (qs, .inl (ks, 256, .inl (nF SBN))), (qw, .inl (kw, 44, .inl w)), (qb, .inl (kb, 16, .inl (nF (erN SBN w (ldN (lj (xs ((10 * k) + 1)) (xs ((10 * k) + 2))) (lj (xs ((10 * k) + 3)) (xs ((10 * k) + 4)))) 10)))), (qe, .inl (ke, 16, .inl (nF (erN SBN w (ldN (lj (xs ((10 * k) + 1)) (xs ((10 * k) + 2))) (lj (xs ((10 * k) + 3)) (xs ((10 * k) + 4)))) 9))))] H := hP
    have hD : va_D A [(qu, .inl (ku, 256, .inl (nF UBN))), (qg, .inr (1, [.long yh, .long yl])), (qa, .inl (ka, 48, .inl (nF ab))), (qt, .inl (kt, 96, .inl (nF tb))), (qm, .inl (km, 16, .inl (nF mk))), (o, .inr (3, [.int th, .int (nI ph), .int (zI og), .ref rx, .ref rk, .ref rw, .ref rb, .ref rn, .long mh, .long ml, .long nh, .int nr, .int (nI pa), .ref rd, .int (nI nt), .ref rg, .long u1, .long u2])), (rx, .inl (jx, 256, .inl (nF SBN))), (rk, .inl (jk, 256, .inl (nF UBN))), (rw, .inl (jw, 44, .inl w)), (rb, .inl (jb, 16, .inl (nF b2))), (rn, .inl (jn, 16, .inl (nF z2))), (rd, .inl (jd, 48, .inl (nF bd))), (rg, .inl (jg, 96, .inl (nF gv))), (qo, .inl (ko, 1, .inr (.inl ou))), (x, .inr (2, [.ref qc, .ref qg, .ref qa, .ref qt, .ref qm, .int (nI ph), .int (zI og), .long nh, .int nr, .int (nI na), .int (nI nt), .int mb, .long t1, .long t2])), (qc, .inr (0, [.ref qs, .ref qu, .ref qw, .ref qb, .ref qe])), (qs, .inl (ks, 256, .inl (nF SBN))), (qw, .inl (kw, 44, .inl w)), (qb, .inl (kb, 16, .inl (nF (erN SBN w (ldN (lj (xs ((10 * k) + 1)) (xs ((10 * k) + 2))) (lj (xs ((10 * k) + 3)) (xs ((10 * k) + 4)))) 10)))), (qe, .inl (ke, 16, .inl (nF (erN SBN w (ldN (lj (xs ((10 * k) + 1)) (xs ((10 * k) + 2))) (lj (xs ((10 * k) + 3)) (xs ((10 * k) + 4)))) 9))))] := hD
    refine W.widen (k := 21 + k) (n := 1775 + 6 * k) (by show 21 + k + 0 ≤ 21 + k; omega) (by show 1775 + 6 * k + 0 ≤ 1775 + 6 * k; omega) ?_
    refine w_pc (pc2 := 329) rfl ?_
    refine lv_aload_n hx hb dL_law_329 rfl (lv_at hl 2 rfl) ?_
    refine lv_aload_n hx hb dL_law_330 rfl (lv_at hl 0 rfl) ?_
    refine lv_iload hx hb dL_law_331 (lv_at hl 4 rfl) ?_
    refine lv_iconst (v := nI 1) hx hb dL_law_333 (by decide) ?_
    refine lv_iadd hx hb dL_law_334 (top_i (nI_add _ _) ?_)
    refine va_sln (v := xs ((10 * k) + 1)) hx hb hX hbl hbA hS (by omega) hL (rfl) dL_law_335 ?_
    refine lv_i2l hx hb dL_law_336 rfl ?_
    refine lv_bipush (v := nI 32) hx hb dL_law_337 (by decide) ?_
    refine lv_lshl hx hb dL_law_339 rfl ?_
    refine lv_aload_n hx hb dL_law_340 rfl (lv_at hl 0 rfl) ?_
    refine lv_iload hx hb dL_law_341 (lv_at hl 4 rfl) ?_
    refine lv_iconst (v := nI 2) hx hb dL_law_343 (by decide) ?_
    refine w_pc (pc2 := 344) rfl ?_
    refine lv_iadd hx hb dL_law_344 (top_i (nI_add _ _) ?_)
    refine va_sln (v := xs ((10 * k) + 2)) hx hb hX hbl hbA hS (by omega) hL (rfl) dL_law_345 ?_
    refine lv_i2l hx hb dL_law_346 rfl ?_
    refine lv_ldc2 (v := 4294967295) hx hb hown (hta _ mw_631) dL_law_347 ?_
    refine top_l (y := lN 4294967295) (by decide) ?_
    refine lv_land hx hb dL_law_350 ?_
    refine lv_lor hx hb dL_law_351 ?_
    refine top_l (y := lj (xs ((10 * k) + 1)) (xs ((10 * k) + 2))) rfl ?_
    refine lv_aload_n hx hb dL_law_352 rfl (lv_at hl 0 rfl) ?_
    refine lv_iload hx hb dL_law_353 (lv_at hl 4 rfl) ?_
    refine lv_iconst (v := nI 3) hx hb dL_law_355 (by decide) ?_
    refine lv_iadd hx hb dL_law_356 (top_i (nI_add _ _) ?_)
    refine va_sln (v := xs ((10 * k) + 3)) hx hb hX hbl hbA hS (by omega) hL (rfl) dL_law_357 ?_
    refine lv_i2l hx hb dL_law_358 rfl ?_
    refine w_pc (pc2 := 359) rfl ?_
    refine lv_bipush (v := nI 32) hx hb dL_law_359 (by decide) ?_
    refine lv_lshl hx hb dL_law_361 rfl ?_
    refine lv_aload_n hx hb dL_law_362 rfl (lv_at hl 0 rfl) ?_
    refine lv_iload hx hb dL_law_363 (lv_at hl 4 rfl) ?_
    refine lv_iconst (v := nI 4) hx hb dL_law_365 (by decide) ?_
    refine lv_iadd hx hb dL_law_366 (top_i (nI_add _ _) ?_)
    refine va_sln (v := xs ((10 * k) + 4)) hx hb hX hbl hbA hS (by omega) hL (rfl) dL_law_367 ?_
    refine lv_i2l hx hb dL_law_368 rfl ?_
    refine lv_ldc2 (v := 4294967295) hx hb hown (hta _ mw_631) dL_law_369 ?_
    refine top_l (y := lN 4294967295) (by decide) ?_
    refine lv_land hx hb dL_law_372 ?_
    refine lv_lor hx hb dL_law_373 ?_
    refine top_l (y := lj (xs ((10 * k) + 3)) (xs ((10 * k) + 4))) rfl ?_
    refine lv_aload_n hx hb dL_law_374 rfl (lv_at hl 0 rfl) ?_
    refine w_pc (pc2 := 375) rfl ?_
    refine lv_iload hx hb dL_law_375 (lv_at hl 4 rfl) ?_
    refine lv_iconst (v := nI 5) hx hb dL_law_377 (by decide) ?_
    refine lv_iadd hx hb dL_law_378 (top_i (nI_add _ _) ?_)
    refine va_sln (v := xs ((10 * k) + 5)) hx hb hX hbl hbA hS (by omega) hL (rfl) dL_law_379 ?_
    refine lv_if_eq (tgt := 387) hx hb dL_law_380 (by decide) (fun hc_380 => ?_) (fun hc_380 => ?_)
    · skip
      exact (by first | exact absurd hc_318 hc_380 | exact absurd hc_380 hc_318)
    · skip
      refine lv_iconst (v := nI 1) hx hb dL_law_383 (by decide) ?_
      refine lv_goto (tgt := 388) hx hb dL_law_384 (by decide) ?_
      refine cf_1 (wr := [(qu, .inl (ku, 256, .inl (nF UBN))), (qg, .inr (1, [.long yh, .long yl])), (qa, .inl (ka, 48, .inl (nF ab))), (qt, .inl (kt, 96, .inl (nF tb))), (qm, .inl (km, 16, .inl (nF mk))), (rk, .inl (jk, 256, .inl (nF UBN))), (rd, .inl (jd, 48, .inl (nF bd))), (rg, .inl (jg, 96, .inl (nF gv))), (qo, .inl (ko, 1, .inr (.inl ou))), (x, .inr (2, [.ref qc, .ref qg, .ref qa, .ref qt, .ref qm, .int (nI ph), .int (zI og), .long nh, .int nr, .int (nI na), .int (nI nt), .int mb, .long t1, .long t2])), (qc, .inr (0, [.ref qs, .ref qu, .ref qw, .ref qb, .ref qe])), (qs, .inl (ks, 256, .inl (nF SBN))), (qw, .inl (kw, 44, .inl w)), (qb, .inl (kb, 16, .inl (nF (erN SBN w (ldN (lj (xs ((10 * k) + 1)) (xs ((10 * k) + 2))) (lj (xs ((10 * k) + 3)) (xs ((10 * k) + 4)))) 10)))), (qe, .inl (ke, 16, .inl (nF (erN SBN w (ldN (lj (xs ((10 * k) + 1)) (xs ((10 * k) + 2))) (lj (xs ((10 * k) + 3)) (xs ((10 * k) + 4)))) 9))))]) (va_runV (As := [.long (lj (xs ((10 * k) + 1)) (xs ((10 * k) + 2))), .long (lj (xs ((10 * k) + 3)) (xs ((10 * k) + 4))), .int (nI 1)]) (rest := [.long (if true then lN (jbN (erN SBN w (ldN (lj (xs ((10 * k) + 1)) (xs ((10 * k) + 2))) (lj (xs ((10 * k) + 3)) (xs ((10 * k) + 4)))) 10) 8 16 8) else lN (jbN (erN SBN w (ldN (lj (xs ((10 * k) + 1)) (xs ((10 * k) + 2))) (lj (xs ((10 * k) + 3)) (xs ((10 * k) + 4)))) 10) 0 16 8))]) ⟨hx, hb, hml, hown, hta⟩ (MO.to (m_encrypt l dC dI o th ph og rx rk rw rb rn mh ml nh nr pa rd nt rg u1 u2 jx jw jb jn SBN w b2 z2 (lj (xs ((10 * k) + 1)) (xs ((10 * k) + 2))) (lj (xs ((10 * k) + 3)) (xs ((10 * k) + 4))) true SBN_lt) H.size) (cwV 3 hta (aw_V mw_531 mw_528 mw_529 mw_530 mw_5) rfl rfl rfl ⟨rfl, dyX3_encrypt⟩ ⟨(Nat.le_of_ble_eq_true rfl), (Nat.le_of_ble_eq_true rfl)⟩) (pr_V hP hD hK hE [5, 6, 8, 9, 10] [8, 10, 11, 12] (by decide) rfl rfl rfl rfl) rfl rfl hl.1 rfl (lv_room (Nat.le_of_ble_eq_true rfl)) dL_law_388 ⟨by show 21 + k + 0 ≤ 601024; omega, by show 1775 + 6 * k + 0 ≤ 7293034; omega⟩) hP hD hS hA [5, 6, 8, 9, 10] [0, 1, 2, 3, 4, 7, 11, 12, 13, 14, 15, 16, 17, 18, 19] rfl rfl (by decide) (by decide) (fun H locs hP hD hS => ?_)
      have hP : va_P (dC, dI) vwCl [(qu, .inl (ku, 256, .inl (nF UBN))), (qg, .inr (1, [.long yh, .long yl])), (qa, .inl (ka, 48, .inl (nF ab))), (qt, .inl (kt, 96, .inl (nF tb))), (qm, .inl (km, 16, .inl (nF mk))), (rk, .inl (jk, 256, .inl (nF UBN))), (rd, .inl (jd, 48, .inl (nF bd))), (rg, .inl (jg, 96, .inl (nF gv))), (qo, .inl (ko, 1, .inr (.inl ou))), (x, .inr (2, [.ref qc, .ref qg, .ref qa, .ref qt, .ref qm, .int (nI ph), .int (zI og), .long nh, .int nr, .int (nI na), .int (nI nt), .int mb, .long t1, .long t2])), (qc, .inr (0, [.ref qs, .ref qu, .ref qw, .ref qb, .ref qe])), (qs, .inl (ks, 256, .inl (nF SBN))), (qw, .inl (kw, 44, .inl w)), (qb, .inl (kb, 16, .inl (nF (erN SBN w (ldN (lj (xs ((10 * k) + 1)) (xs ((10 * k) + 2))) (lj (xs ((10 * k) + 3)) (xs ((10 * k) + 4)))) 10)))), (qe, .inl (ke, 16, .inl (nF (erN SBN w (ldN (lj (xs ((10 * k) + 1)) (xs ((10 * k) + 2))) (lj (xs ((10 * k) + 3)) (xs ((10 * k) + 4)))) 9)))), (o, .inr (3, [.int (nI 0), .int (nI ph), .int (zI og), .ref rx, .ref rk, .ref rw, .ref rb, .ref rn, .long (lN (jbN (erN SBN w (ldN (lj (xs ((10 * k) + 1)) (xs ((10 * k) + 2))) (lj (xs ((10 * k) + 3)) (xs ((10 * k) + 4)))) 10) 0 16 8)), .long (lN (jbN (erN SBN w (ldN (lj (xs ((10 * k) + 1)) (xs ((10 * k) + 2))) (lj (xs ((10 * k) + 3)) (xs ((10 * k) + 4)))) 10) 8 16 8)), .long nh, .int nr, .int (nI pa), .ref rd, .int (nI nt), .ref rg, .long u1, .long u2])), (rx, .inl (jx, 256, .inl (nF SBN))), (rw, .inl (jw, 44, .inl w)), (rb, .inl (jb, 16, .inl (nF (erN SBN w (ldN (lj (xs ((10 * k) + 1)) (xs ((10 * k) + 2))) (lj (xs ((10 * k) + 3)) (xs ((10 * k) + 4)))) 10)))), (rn, .inl (jn, 16, .inl (nF (ssN SBN (erN SBN w (ldN (lj (xs ((10 * k) + 1)) (xs ((10 * k) + 2))) (lj (xs ((10 * k) + 3)) (xs ((10 * k) + 4)))) 9)))))] H := hP
      have hD : va_D A [(qu, .inl (ku, 256, .inl (nF UBN))), (qg, .inr (1, [.long yh, .long yl])), (qa, .inl (ka, 48, .inl (nF ab))), (qt, .inl (kt, 96, .inl (nF tb))), (qm, .inl (km, 16, .inl (nF mk))), (rk, .inl (jk, 256, .inl (nF UBN))), (rd, .inl (jd, 48, .inl (nF bd))), (rg, .inl (jg, 96, .inl (nF gv))), (qo, .inl (ko, 1, .inr (.inl ou))), (x, .inr (2, [.ref qc, .ref qg, .ref qa, .ref qt, .ref qm, .int (nI ph), .int (zI og), .long nh, .int nr, .int (nI na), .int (nI nt), .int mb, .long t1, .long t2])), (qc, .inr (0, [.ref qs, .ref qu, .ref qw, .ref qb, .ref qe])), (qs, .inl (ks, 256, .inl (nF SBN))), (qw, .inl (kw, 44, .inl w)), (qb, .inl (kb, 16, .inl (nF (erN SBN w (ldN (lj (xs ((10 * k) + 1)) (xs ((10 * k) + 2))) (lj (xs ((10 * k) + 3)) (xs ((10 * k) + 4)))) 10)))), (qe, .inl (ke, 16, .inl (nF (erN SBN w (ldN (lj (xs ((10 * k) + 1)) (xs ((10 * k) + 2))) (lj (xs ((10 * k) + 3)) (xs ((10 * k) + 4)))) 9)))), (o, .inr (3, [.int (nI 0), .int (nI ph), .int (zI og), .ref rx, .ref rk, .ref rw, .ref rb, .ref rn, .long (lN (jbN (erN SBN w (ldN (lj (xs ((10 * k) + 1)) (xs ((10 * k) + 2))) (lj (xs ((10 * k) + 3)) (xs ((10 * k) + 4)))) 10) 0 16 8)), .long (lN (jbN (erN SBN w (ldN (lj (xs ((10 * k) + 1)) (xs ((10 * k) + 2))) (lj (xs ((10 * k) + 3)) (xs ((10 * k) + 4)))) 10) 8 16 8)), .long nh, .int nr, .int (nI pa), .ref rd, .int (nI nt), .ref rg, .long u1, .long u2])), (rx, .inl (jx, 256, .inl (nF SBN))), (rw, .inl (jw, 44, .inl w)), (rb, .inl (jb, 16, .inl (nF (erN SBN w (ldN (lj (xs ((10 * k) + 1)) (xs ((10 * k) + 2))) (lj (xs ((10 * k) + 3)) (xs ((10 * k) + 4)))) 10)))), (rn, .inl (jn, 16, .inl (nF (ssN SBN (erN SBN w (ldN (lj (xs ((10 * k) + 1)) (xs ((10 * k) + 2))) (lj (xs ((10 * k) + 3)) (xs ((10 * k) + 4)))) 9)))))] := hD
      refine W.widen (k := 21 + k) (n := 1775 + 6 * k) (by show 21 + k + 0 ≤ 21 + k; omega) (by show 1775 + 6 * k + 0 ≤ 1775 + 6 * k; omega) ?_
      refine w_pc (pc2 := 391) rfl ?_
      refine W.lcmp hx hb dL_law_391 ?_
      refine top_i (y := nI 0) (cmpx.mpr (rfl)) ?_
      refine lv_if_eq (tgt := 1352) hx hb dL_law_392 (by decide) (fun hc_392 => ?_) (fun hc_392 => ?_)
      · skip
        have hc_392 := (ix_eq (a := 0) (b := 0) (by omega) (by omega)).mp hc_392
        have hc_392 : (0 = 0) := hc_392
        refine lv_iinc (v := nI (10 * (k + 1))) (k := 4) hx hb dL_law_1352 hl rfl ((ix_inc _ 10).trans (congrArg nI (by omega))) (by decide) rfl (fun ls hl => ?_)
        have hl : lv_has ls 8 [(4, .int (nI (10 * (k + 1)))), (0, .ref sa), (1, .ref x), (2, .ref o), (3, .ref qo)] := hl
        refine lv_goto (tgt := 23) hx hb dL_law_1355 (by decide) ?_
        refine W.widen (k := 21 + (k + 1)) (n := 1775 + 6 * (k + 1)) (by omega) (by omega) ?_
        exact hd w (erN SBN w (ldN (lj (xs ((10 * k) + 1)) (xs ((10 * k) + 2))) (lj (xs ((10 * k) + 3)) (xs ((10 * k) + 4)))) 10) (erN SBN w (ldN (lj (xs ((10 * k) + 1)) (xs ((10 * k) + 2))) (lj (xs ((10 * k) + 3)) (xs ((10 * k) + 4)))) 9) mk ab tb yh yl ph og nh nr na nt mb t1 t2 (nI 0) (erN SBN w (ldN (lj (xs ((10 * k) + 1)) (xs ((10 * k) + 2))) (lj (xs ((10 * k) + 3)) (xs ((10 * k) + 4)))) 10) (ssN SBN (erN SBN w (ldN (lj (xs ((10 * k) + 1)) (xs ((10 * k) + 2))) (lj (xs ((10 * k) + 3)) (xs ((10 * k) + 4)))) 9)) bd gv (lN (jbN (erN SBN w (ldN (lj (xs ((10 * k) + 1)) (xs ((10 * k) + 2))) (lj (xs ((10 * k) + 3)) (xs ((10 * k) + 4)))) 10) 0 16 8)) (lN (jbN (erN SBN w (ldN (lj (xs ((10 * k) + 1)) (xs ((10 * k) + 2))) (lj (xs ((10 * k) + 3)) (xs ((10 * k) + 4)))) 10) 8 16 8)) u1 u2 pa ou ls H locs (hI9) (lv_sub hl [1, 2, 3, 4, 0] rfl) (hP.sub [9, 10, 11, 0, 12, 13, 14, 1, 2, 3, 4, 15, 16, 5, 17, 18, 19, 6, 7, 8] rfl) (hD.sub [9, 10, 11, 0, 12, 13, 14, 1, 2, 3, 4, 15, 16, 5, 17, 18, 19, 6, 7, 8] (by decide) rfl) hS
      · skip
        have hc_392 := (not_congr (ix_eq (a := 0) (b := 0) (by omega) (by omega))).mp hc_392
        have hc_392 : ¬ (0 = 0) := hc_392
        exfalso; omega

set_option maxHeartbeats 4000000 in
set_option maxRecDepth 100000 in
/-- lc_decrypt -/
theorem lc_decrypt (p : Program) (l : Launch) (e : Env) (s : State) (m : MethodId) (args : Array Value) (below : List Frame) (meth : Method) (c : Code) (Q : State → Prop) (A : Nat → Prop) (dC : Nat → ClassId) (dI : Nat → Nat → Nat) (sa : Nat) (x : Nat) (qc : Nat) (qs : Nat) (qu : Nat) (qw : Nat) (qb : Nat) (qe : Nat) (qg : Nat) (qa : Nat) (qt : Nat) (qm : Nat) (ks : ClassId) (ku : ClassId) (kw : ClassId) (kb : ClassId) (ke : ClassId) (ka : ClassId) (kt : ClassId) (km : ClassId) (o : Nat) (rx : Nat) (rk : Nat) (rw : Nat) (rb : Nat) (rn : Nat) (rd : Nat) (rg : Nat) (jx : ClassId) (jk : ClassId) (jw : ClassId) (jb : ClassId) (jn : ClassId) (jd : ClassId) (jg : ClassId) (qo : Nat) (ko : ClassId) (L : Nat) (xs : Nat → Int32) (k : Nat) (hx : p.tables.exec = Jvm.exec) (hb : c.code = cL_law) (hml : c.maxLocals = 8) (hta : ∀ w ∈ AW, w.before args s = true) (hown : s.vm.findClass RL = some m.cls) (hE : EX s) (hT : TX s) (hZ : ZT A s s.heap) (hst : l.stackTraces = false) (hA : ∀ q, s.heap.size ≤ q → A q) (hK : va_K (dC, dI) vwCl [(ks, .int), (ku, .int), (kw, .int), (kb, .int), (ke, .int), (ka, .int), (kt, .int), (km, .int), (jx, .int), (jk, .int), (jw, .int), (jb, .int), (jn, .int), (jd, .int), (jg, .int), (ko, .long)] s) (hX : va_X sa L xs s s.heap) (hbl : sa < s.heap.size) (hbA : ¬ A sa) (hL : L ≤ 5120) (hk : 10 * k + 10 ≤ L) (hd : HD p l e s m args below meth c Q A dC dI sa x qc qs qu qw qb qe qg qa qt qm ks ku kw kb ke ka kt km o rx rk rw rb rn rd rg jx jk jw jb jn jd jg qo ko (k + 1)) (w : Nat → Int32) (b : Nat → Nat) (z : Nat → Nat) (mk : Nat → Nat) (ab : Nat → Nat) (tb : Nat → Nat) (yh : Int64) (yl : Int64) (ph : Nat) (og : Bool) (nh : Int64) (nr : Int32) (na : Nat) (nt : Nat) (mb : Int32) (t1 : Int64) (t2 : Int64) (th : Int32) (b2 : Nat → Nat) (z2 : Nat → Nat) (bd : Nat → Nat) (gv : Nat → Nat) (mh : Int64) (ml : Int64) (u1 : Int64) (u2 : Int64) (pa : Nat) (ou : Nat → Int64) (ls : Array Slot) (H : Heap) (locs : List Loc) (hI : INV w ph og nh nr na pa nt mb mk ab bd tb gv t1 t2 u1 u2) (hl : lv_has ls 8 [(0, .ref sa), (1, .ref x), (2, .ref o), (3, .ref qo), (4, .int (nI (10 * k)))]) (hP : va_P (dC, dI) vwCl [(x, .inr (2, [.ref qc, .ref qg, .ref qa, .ref qt, .ref qm, .int (nI ph), .int (zI og), .long nh, .int nr, .int (nI na), .int (nI nt), .int mb, .long t1, .long t2])), (qc, .inr (0, [.ref qs, .ref qu, .ref qw, .ref qb, .ref qe])), (qs, .inl (ks, 256, .inl (nF SBN))), (qu, .inl (ku, 256, .inl (nF UBN))), (qw, .inl (kw, 44, .inl w)), (qb, .inl (kb, 16, .inl (nF b))), (qe, .inl (ke, 16, .inl (nF z))), (qg, .inr (1, [.long yh, .long yl])), (qa, .inl (ka, 48, .inl (nF ab))), (qt, .inl (kt, 96, .inl (nF tb))), (qm, .inl (km, 16, .inl (nF mk))), (o, .inr (3, [.int th, .int (nI ph), .int (zI og), .ref rx, .ref rk, .ref rw, .ref rb, .ref rn, .long mh, .long ml, .long nh, .int nr, .int (nI pa), .ref rd, .int (nI nt), .ref rg, .long u1, .long u2])), (rx, .inl (jx, 256, .inl (nF SBN))), (rk, .inl (jk, 256, .inl (nF UBN))), (rw, .inl (jw, 44, .inl w)), (rb, .inl (jb, 16, .inl (nF b2))), (rn, .inl (jn, 16, .inl (nF z2))), (rd, .inl (jd, 48, .inl (nF bd))), (rg, .inl (jg, 96, .inl (nF gv))), (qo, .inl (ko, 1, .inr (.inl ou)))] H) (hD : va_D A [(x, .inr (2, [.ref qc, .ref qg, .ref qa, .ref qt, .ref qm, .int (nI ph), .int (zI og), .long nh, .int nr, .int (nI na), .int (nI nt), .int mb, .long t1, .long t2])), (qc, .inr (0, [.ref qs, .ref qu, .ref qw, .ref qb, .ref qe])), (qs, .inl (ks, 256, .inl (nF SBN))), (qu, .inl (ku, 256, .inl (nF UBN))), (qw, .inl (kw, 44, .inl w)), (qb, .inl (kb, 16, .inl (nF b))), (qe, .inl (ke, 16, .inl (nF z))), (qg, .inr (1, [.long yh, .long yl])), (qa, .inl (ka, 48, .inl (nF ab))), (qt, .inl (kt, 96, .inl (nF tb))), (qm, .inl (km, 16, .inl (nF mk))), (o, .inr (3, [.int th, .int (nI ph), .int (zI og), .ref rx, .ref rk, .ref rw, .ref rb, .ref rn, .long mh, .long ml, .long nh, .int nr, .int (nI pa), .ref rd, .int (nI nt), .ref rg, .long u1, .long u2])), (rx, .inl (jx, 256, .inl (nF SBN))), (rk, .inl (jk, 256, .inl (nF UBN))), (rw, .inl (jw, 44, .inl w)), (rb, .inl (jb, 16, .inl (nF b2))), (rn, .inl (jn, 16, .inl (nF z2))), (rd, .inl (jd, 48, .inl (nF bd))), (rg, .inl (jg, 96, .inl (nF gv))), (qo, .inl (ko, 1, .inr (.inl ou)))]) (hS : va_S A s.heap H locs)   : W p l e room_1 s m args below meth c H locs (21 + k) (1775 + 6 * k) Q (F0 m 397 ls []) := by
  have hI9 := hI
  obtain ⟨hph6, hnt, a256, d256, t256, g256, hne, h33, h45⟩ := hI
  refine lv_aload_n hx hb dL_law_397 rfl (lv_at hl 1 rfl) ?_
  refine lv_aload_n hx hb dL_law_398 rfl (lv_at hl 0 rfl) ?_
  refine lv_iload hx hb dL_law_399 (lv_at hl 4 rfl) ?_
  refine lv_iconst (v := nI 1) hx hb dL_law_401 (by decide) ?_
  refine lv_iadd hx hb dL_law_402 (top_i (nI_add _ _) ?_)
  refine va_sln (v := xs ((10 * k) + 1)) hx hb hX hbl hbA hS (by omega) hL (rfl) dL_law_403 ?_
  refine lv_i2l hx hb dL_law_404 rfl ?_
  refine lv_bipush (v := nI 32) hx hb dL_law_405 (by decide) ?_
  refine lv_lshl hx hb dL_law_407 rfl ?_
  refine lv_aload_n hx hb dL_law_408 rfl (lv_at hl 0 rfl) ?_
  refine lv_iload hx hb dL_law_409 (lv_at hl 4 rfl) ?_
  refine w_pc (pc2 := 411) rfl ?_
  refine lv_iconst (v := nI 2) hx hb dL_law_411 (by decide) ?_
  refine lv_iadd hx hb dL_law_412 (top_i (nI_add _ _) ?_)
  refine va_sln (v := xs ((10 * k) + 2)) hx hb hX hbl hbA hS (by omega) hL (rfl) dL_law_413 ?_
  refine lv_i2l hx hb dL_law_414 rfl ?_
  refine lv_ldc2 (v := 4294967295) hx hb hown (hta _ mw_631) dL_law_415 ?_
  refine top_l (y := lN 4294967295) (by decide) ?_
  refine lv_land hx hb dL_law_418 ?_
  refine lv_lor hx hb dL_law_419 ?_
  refine top_l (y := lj (xs ((10 * k) + 1)) (xs ((10 * k) + 2))) rfl ?_
  refine lv_aload_n hx hb dL_law_420 rfl (lv_at hl 0 rfl) ?_
  refine lv_iload hx hb dL_law_421 (lv_at hl 4 rfl) ?_
  refine lv_iconst (v := nI 3) hx hb dL_law_423 (by decide) ?_
  refine lv_iadd hx hb dL_law_424 (top_i (nI_add _ _) ?_)
  refine va_sln (v := xs ((10 * k) + 3)) hx hb hX hbl hbA hS (by omega) hL (rfl) dL_law_425 ?_
  refine w_pc (pc2 := 426) rfl ?_
  refine lv_i2l hx hb dL_law_426 rfl ?_
  refine lv_bipush (v := nI 32) hx hb dL_law_427 (by decide) ?_
  refine lv_lshl hx hb dL_law_429 rfl ?_
  refine lv_aload_n hx hb dL_law_430 rfl (lv_at hl 0 rfl) ?_
  refine lv_iload hx hb dL_law_431 (lv_at hl 4 rfl) ?_
  refine lv_iconst (v := nI 4) hx hb dL_law_433 (by decide) ?_
  refine lv_iadd hx hb dL_law_434 (top_i (nI_add _ _) ?_)
  refine va_sln (v := xs ((10 * k) + 4)) hx hb hX hbl hbA hS (by omega) hL (rfl) dL_law_435 ?_
  refine lv_i2l hx hb dL_law_436 rfl ?_
  refine lv_ldc2 (v := 4294967295) hx hb hown (hta _ mw_631) dL_law_437 ?_
  refine top_l (y := lN 4294967295) (by decide) ?_
  refine lv_land hx hb dL_law_440 ?_
  refine lv_lor hx hb dL_law_441 ?_
  refine top_l (y := lj (xs ((10 * k) + 3)) (xs ((10 * k) + 4))) rfl ?_
  refine w_pc (pc2 := 442) rfl ?_
  refine lv_aload_n hx hb dL_law_442 rfl (lv_at hl 0 rfl) ?_
  refine lv_iload hx hb dL_law_443 (lv_at hl 4 rfl) ?_
  refine lv_iconst (v := nI 5) hx hb dL_law_445 (by decide) ?_
  refine lv_iadd hx hb dL_law_446 (top_i (nI_add _ _) ?_)
  refine va_sln (v := xs ((10 * k) + 5)) hx hb hX hbl hbA hS (by omega) hL (rfl) dL_law_447 ?_
  refine lv_if_eq (tgt := 455) hx hb dL_law_448 (by decide) (fun hc_448 => ?_) (fun hc_448 => ?_)
  · skip
    refine lv_iconst (v := nI 0) hx hb dL_law_455 (by decide) ?_
    refine cf_1 (wr := [(qs, .inl (ks, 256, .inl (nF SBN))), (qg, .inr (1, [.long yh, .long yl])), (qa, .inl (ka, 48, .inl (nF ab))), (qt, .inl (kt, 96, .inl (nF tb))), (qm, .inl (km, 16, .inl (nF mk))), (o, .inr (3, [.int th, .int (nI ph), .int (zI og), .ref rx, .ref rk, .ref rw, .ref rb, .ref rn, .long mh, .long ml, .long nh, .int nr, .int (nI pa), .ref rd, .int (nI nt), .ref rg, .long u1, .long u2])), (rx, .inl (jx, 256, .inl (nF SBN))), (rk, .inl (jk, 256, .inl (nF UBN))), (rw, .inl (jw, 44, .inl w)), (rb, .inl (jb, 16, .inl (nF b2))), (rn, .inl (jn, 16, .inl (nF z2))), (rd, .inl (jd, 48, .inl (nF bd))), (rg, .inl (jg, 96, .inl (nF gv))), (qo, .inl (ko, 1, .inr (.inl ou)))]) (va_runV (As := [.long (lj (xs ((10 * k) + 1)) (xs ((10 * k) + 2))), .long (lj (xs ((10 * k) + 3)) (xs ((10 * k) + 4))), .int (nI 0)]) (rest := []) ⟨hx, hb, hml, hown, hta⟩ (MO.to (c_decrypt l dC dI x qc qg qa qt qm ph og nh nr na nt mb t1 t2 qs qu qw qb qe ku kw kb ke UBN w b z (lj (xs ((10 * k) + 1)) (xs ((10 * k) + 2))) (lj (xs ((10 * k) + 3)) (xs ((10 * k) + 4))) false UBN_lt) H.size) (cwV 3 hta (aw_V mw_176 mw_173 mw_174 mw_175 mw_1) rfl rfl rfl ⟨rfl, dyX2_decrypt⟩ ⟨(Nat.le_of_ble_eq_true rfl), (Nat.le_of_ble_eq_true rfl)⟩) (pr_V hP hD hK hE [0, 1, 3, 4, 5, 6] [1, 2, 3, 4] (by decide) rfl rfl rfl rfl) rfl rfl hl.1 rfl (lv_room (Nat.le_of_ble_eq_true rfl)) dL_law_456 ⟨by show 21 + k + 0 ≤ 601024; omega, by show 1775 + 6 * k + 0 ≤ 7293034; omega⟩) hP hD hS hA [0, 1, 3, 4, 5, 6] [2, 7, 8, 9, 10, 11, 12, 13, 14, 15, 16, 17, 18, 19] rfl rfl (by decide) (by decide) (fun H locs hP hD hS => ?_)
    have hP : va_P (dC, dI) vwCl [(qs, .inl (ks, 256, .inl (nF SBN))), (qg, .inr (1, [.long yh, .long yl])), (qa, .inl (ka, 48, .inl (nF ab))), (qt, .inl (kt, 96, .inl (nF tb))), (qm, .inl (km, 16, .inl (nF mk))), (o, .inr (3, [.int th, .int (nI ph), .int (zI og), .ref rx, .ref rk, .ref rw, .ref rb, .ref rn, .long mh, .long ml, .long nh, .int nr, .int (nI pa), .ref rd, .int (nI nt), .ref rg, .long u1, .long u2])), (rx, .inl (jx, 256, .inl (nF SBN))), (rk, .inl (jk, 256, .inl (nF UBN))), (rw, .inl (jw, 44, .inl w)), (rb, .inl (jb, 16, .inl (nF b2))), (rn, .inl (jn, 16, .inl (nF z2))), (rd, .inl (jd, 48, .inl (nF bd))), (rg, .inl (jg, 96, .inl (nF gv))), (qo, .inl (ko, 1, .inr (.inl ou))), (x, .inr (2, [.ref qc, .ref qg, .ref qa, .ref qt, .ref qm, .int (nI ph), .int (zI og), .long nh, .int nr, .int (nI na), .int (nI nt), .int mb, .long t1, .long t2])), (qc, .inr (0, [.ref qs, .ref qu, .ref qw, .ref qb, .ref qe])), (qu, .inl (ku, 256, .inl (nF UBN))), (qw, .inl (kw, 44, .inl w)), (qb, .inl (kb, 16, .inl (nF (akN w 0 (drN UBN w (ldN (lj (xs ((10 * k) + 1)) (xs ((10 * k) + 2))) (lj (xs ((10 * k) + 3)) (xs ((10 * k) + 4)))) 10))))), (qe, .inl (ke, 16, .inl (nF (umN w 9 (drN UBN w (ldN (lj (xs ((10 * k) + 1)) (xs ((10 * k) + 2))) (lj (xs ((10 * k) + 3)) (xs ((10 * k) + 4)))) 9)))))] H := hP
    have hD : va_D A [(qs, .inl (ks, 256, .inl (nF SBN))), (qg, .inr (1, [.long yh, .long yl])), (qa, .inl (ka, 48, .inl (nF ab))), (qt, .inl (kt, 96, .inl (nF tb))), (qm, .inl (km, 16, .inl (nF mk))), (o, .inr (3, [.int th, .int (nI ph), .int (zI og), .ref rx, .ref rk, .ref rw, .ref rb, .ref rn, .long mh, .long ml, .long nh, .int nr, .int (nI pa), .ref rd, .int (nI nt), .ref rg, .long u1, .long u2])), (rx, .inl (jx, 256, .inl (nF SBN))), (rk, .inl (jk, 256, .inl (nF UBN))), (rw, .inl (jw, 44, .inl w)), (rb, .inl (jb, 16, .inl (nF b2))), (rn, .inl (jn, 16, .inl (nF z2))), (rd, .inl (jd, 48, .inl (nF bd))), (rg, .inl (jg, 96, .inl (nF gv))), (qo, .inl (ko, 1, .inr (.inl ou))), (x, .inr (2, [.ref qc, .ref qg, .ref qa, .ref qt, .ref qm, .int (nI ph), .int (zI og), .long nh, .int nr, .int (nI na), .int (nI nt), .int mb, .long t1, .long t2])), (qc, .inr (0, [.ref qs, .ref qu, .ref qw, .ref qb, .ref qe])), (qu, .inl (ku, 256, .inl (nF UBN))), (qw, .inl (kw, 44, .inl w)), (qb, .inl (kb, 16, .inl (nF (akN w 0 (drN UBN w (ldN (lj (xs ((10 * k) + 1)) (xs ((10 * k) + 2))) (lj (xs ((10 * k) + 3)) (xs ((10 * k) + 4)))) 10))))), (qe, .inl (ke, 16, .inl (nF (umN w 9 (drN UBN w (ldN (lj (xs ((10 * k) + 1)) (xs ((10 * k) + 2))) (lj (xs ((10 * k) + 3)) (xs ((10 * k) + 4)))) 9)))))] := hD
    refine W.widen (k := 21 + k) (n := 1775 + 6 * k) (by show 21 + k + 0 ≤ 21 + k; omega) (by show 1775 + 6 * k + 0 ≤ 1775 + 6 * k; omega) ?_
    refine w_pc (pc2 := 459) rfl ?_
    refine lv_aload_n hx hb dL_law_459 rfl (lv_at hl 2 rfl) ?_
    refine lv_aload_n hx hb dL_law_460 rfl (lv_at hl 0 rfl) ?_
    refine lv_iload hx hb dL_law_461 (lv_at hl 4 rfl) ?_
    refine lv_iconst (v := nI 1) hx hb dL_law_463 (by decide) ?_
    refine lv_iadd hx hb dL_law_464 (top_i (nI_add _ _) ?_)
    refine va_sln (v := xs ((10 * k) + 1)) hx hb hX hbl hbA hS (by omega) hL (rfl) dL_law_465 ?_
    refine lv_i2l hx hb dL_law_466 rfl ?_
    refine lv_bipush (v := nI 32) hx hb dL_law_467 (by decide) ?_
    refine lv_lshl hx hb dL_law_469 rfl ?_
    refine lv_aload_n hx hb dL_law_470 rfl (lv_at hl 0 rfl) ?_
    refine lv_iload hx hb dL_law_471 (lv_at hl 4 rfl) ?_
    refine lv_iconst (v := nI 2) hx hb dL_law_473 (by decide) ?_
    refine w_pc (pc2 := 474) rfl ?_
    refine lv_iadd hx hb dL_law_474 (top_i (nI_add _ _) ?_)
    refine va_sln (v := xs ((10 * k) + 2)) hx hb hX hbl hbA hS (by omega) hL (rfl) dL_law_475 ?_
    refine lv_i2l hx hb dL_law_476 rfl ?_
    refine lv_ldc2 (v := 4294967295) hx hb hown (hta _ mw_631) dL_law_477 ?_
    refine top_l (y := lN 4294967295) (by decide) ?_
    refine lv_land hx hb dL_law_480 ?_
    refine lv_lor hx hb dL_law_481 ?_
    refine top_l (y := lj (xs ((10 * k) + 1)) (xs ((10 * k) + 2))) rfl ?_
    refine lv_aload_n hx hb dL_law_482 rfl (lv_at hl 0 rfl) ?_
    refine lv_iload hx hb dL_law_483 (lv_at hl 4 rfl) ?_
    refine lv_iconst (v := nI 3) hx hb dL_law_485 (by decide) ?_
    refine lv_iadd hx hb dL_law_486 (top_i (nI_add _ _) ?_)
    refine va_sln (v := xs ((10 * k) + 3)) hx hb hX hbl hbA hS (by omega) hL (rfl) dL_law_487 ?_
    refine lv_i2l hx hb dL_law_488 rfl ?_
    refine w_pc (pc2 := 489) rfl ?_
    refine lv_bipush (v := nI 32) hx hb dL_law_489 (by decide) ?_
    refine lv_lshl hx hb dL_law_491 rfl ?_
    refine lv_aload_n hx hb dL_law_492 rfl (lv_at hl 0 rfl) ?_
    refine lv_iload hx hb dL_law_493 (lv_at hl 4 rfl) ?_
    refine lv_iconst (v := nI 4) hx hb dL_law_495 (by decide) ?_
    refine lv_iadd hx hb dL_law_496 (top_i (nI_add _ _) ?_)
    refine va_sln (v := xs ((10 * k) + 4)) hx hb hX hbl hbA hS (by omega) hL (rfl) dL_law_497 ?_
    refine lv_i2l hx hb dL_law_498 rfl ?_
    refine lv_ldc2 (v := 4294967295) hx hb hown (hta _ mw_631) dL_law_499 ?_
    refine top_l (y := lN 4294967295) (by decide) ?_
    refine lv_land hx hb dL_law_502 ?_
    refine lv_lor hx hb dL_law_503 ?_
    refine top_l (y := lj (xs ((10 * k) + 3)) (xs ((10 * k) + 4))) rfl ?_
    refine lv_aload_n hx hb dL_law_504 rfl (lv_at hl 0 rfl) ?_
    refine w_pc (pc2 := 505) rfl ?_
    refine lv_iload hx hb dL_law_505 (lv_at hl 4 rfl) ?_
    refine lv_iconst (v := nI 5) hx hb dL_law_507 (by decide) ?_
    refine lv_iadd hx hb dL_law_508 (top_i (nI_add _ _) ?_)
    refine va_sln (v := xs ((10 * k) + 5)) hx hb hX hbl hbA hS (by omega) hL (rfl) dL_law_509 ?_
    refine lv_if_eq (tgt := 517) hx hb dL_law_510 (by decide) (fun hc_510 => ?_) (fun hc_510 => ?_)
    · skip
      refine lv_iconst (v := nI 0) hx hb dL_law_517 (by decide) ?_
      refine cf_1 (wr := [(qs, .inl (ks, 256, .inl (nF SBN))), (qg, .inr (1, [.long yh, .long yl])), (qa, .inl (ka, 48, .inl (nF ab))), (qt, .inl (kt, 96, .inl (nF tb))), (qm, .inl (km, 16, .inl (nF mk))), (rx, .inl (jx, 256, .inl (nF SBN))), (rd, .inl (jd, 48, .inl (nF bd))), (rg, .inl (jg, 96, .inl (nF gv))), (qo, .inl (ko, 1, .inr (.inl ou))), (x, .inr (2, [.ref qc, .ref qg, .ref qa, .ref qt, .ref qm, .int (nI ph), .int (zI og), .long nh, .int nr, .int (nI na), .int (nI nt), .int mb, .long t1, .long t2])), (qc, .inr (0, [.ref qs, .ref qu, .ref qw, .ref qb, .ref qe])), (qu, .inl (ku, 256, .inl (nF UBN))), (qw, .inl (kw, 44, .inl w)), (qb, .inl (kb, 16, .inl (nF (akN w 0 (drN UBN w (ldN (lj (xs ((10 * k) + 1)) (xs ((10 * k) + 2))) (lj (xs ((10 * k) + 3)) (xs ((10 * k) + 4)))) 10))))), (qe, .inl (ke, 16, .inl (nF (umN w 9 (drN UBN w (ldN (lj (xs ((10 * k) + 1)) (xs ((10 * k) + 2))) (lj (xs ((10 * k) + 3)) (xs ((10 * k) + 4)))) 9)))))]) (va_runV (As := [.long (lj (xs ((10 * k) + 1)) (xs ((10 * k) + 2))), .long (lj (xs ((10 * k) + 3)) (xs ((10 * k) + 4))), .int (nI 0)]) (rest := [.long (if false then lN (jbN (akN w 0 (drN UBN w (ldN (lj (xs ((10 * k) + 1)) (xs ((10 * k) + 2))) (lj (xs ((10 * k) + 3)) (xs ((10 * k) + 4)))) 10)) 8 16 8) else lN (jbN (akN w 0 (drN UBN w (ldN (lj (xs ((10 * k) + 1)) (xs ((10 * k) + 2))) (lj (xs ((10 * k) + 3)) (xs ((10 * k) + 4)))) 10)) 0 16 8))]) ⟨hx, hb, hml, hown, hta⟩ (MO.to (m_decrypt l dC dI o th ph og rx rk rw rb rn mh ml nh nr pa rd nt rg u1 u2 jk jw jb jn UBN w b2 z2 (lj (xs ((10 * k) + 1)) (xs ((10 * k) + 2))) (lj (xs ((10 * k) + 3)) (xs ((10 * k) + 4))) false UBN_lt) H.size) (cwV 3 hta (aw_V mw_556 mw_553 mw_554 mw_555 mw_5) rfl rfl rfl ⟨rfl, dyX3_decrypt⟩ ⟨(Nat.le_of_ble_eq_true rfl), (Nat.le_of_ble_eq_true rfl)⟩) (pr_V hP hD hK hE [5, 7, 8, 9, 10] [9, 10, 11, 12] (by decide) rfl rfl rfl rfl) rfl rfl hl.1 rfl (lv_room (Nat.le_of_ble_eq_true rfl)) dL_law_518 ⟨by show 21 + k + 0 ≤ 601024; omega, by show 1775 + 6 * k + 0 ≤ 7293034; omega⟩) hP hD hS hA [5, 7, 8, 9, 10] [0, 1, 2, 3, 4, 6, 11, 12, 13, 14, 15, 16, 17, 18, 19] rfl rfl (by decide) (by decide) (fun H locs hP hD hS => ?_)
      have hP : va_P (dC, dI) vwCl [(qs, .inl (ks, 256, .inl (nF SBN))), (qg, .inr (1, [.long yh, .long yl])), (qa, .inl (ka, 48, .inl (nF ab))), (qt, .inl (kt, 96, .inl (nF tb))), (qm, .inl (km, 16, .inl (nF mk))), (rx, .inl (jx, 256, .inl (nF SBN))), (rd, .inl (jd, 48, .inl (nF bd))), (rg, .inl (jg, 96, .inl (nF gv))), (qo, .inl (ko, 1, .inr (.inl ou))), (x, .inr (2, [.ref qc, .ref qg, .ref qa, .ref qt, .ref qm, .int (nI ph), .int (zI og), .long nh, .int nr, .int (nI na), .int (nI nt), .int mb, .long t1, .long t2])), (qc, .inr (0, [.ref qs, .ref qu, .ref qw, .ref qb, .ref qe])), (qu, .inl (ku, 256, .inl (nF UBN))), (qw, .inl (kw, 44, .inl w)), (qb, .inl (kb, 16, .inl (nF (akN w 0 (drN UBN w (ldN (lj (xs ((10 * k) + 1)) (xs ((10 * k) + 2))) (lj (xs ((10 * k) + 3)) (xs ((10 * k) + 4)))) 10))))), (qe, .inl (ke, 16, .inl (nF (umN w 9 (drN UBN w (ldN (lj (xs ((10 * k) + 1)) (xs ((10 * k) + 2))) (lj (xs ((10 * k) + 3)) (xs ((10 * k) + 4)))) 9))))), (o, .inr (3, [.int (nI 0), .int (nI ph), .int (zI og), .ref rx, .ref rk, .ref rw, .ref rb, .ref rn, .long (lN (jbN (akN w 0 (drN UBN w (ldN (lj (xs ((10 * k) + 1)) (xs ((10 * k) + 2))) (lj (xs ((10 * k) + 3)) (xs ((10 * k) + 4)))) 10)) 0 16 8)), .long (lN (jbN (akN w 0 (drN UBN w (ldN (lj (xs ((10 * k) + 1)) (xs ((10 * k) + 2))) (lj (xs ((10 * k) + 3)) (xs ((10 * k) + 4)))) 10)) 8 16 8)), .long nh, .int nr, .int (nI pa), .ref rd, .int (nI nt), .ref rg, .long u1, .long u2])), (rk, .inl (jk, 256, .inl (nF UBN))), (rw, .inl (jw, 44, .inl w)), (rb, .inl (jb, 16, .inl (nF (akN w 0 (drN UBN w (ldN (lj (xs ((10 * k) + 1)) (xs ((10 * k) + 2))) (lj (xs ((10 * k) + 3)) (xs ((10 * k) + 4)))) 10))))), (rn, .inl (jn, 16, .inl (nF (drN UBN w (ldN (lj (xs ((10 * k) + 1)) (xs ((10 * k) + 2))) (lj (xs ((10 * k) + 3)) (xs ((10 * k) + 4)))) 10))))] H := hP
      have hD : va_D A [(qs, .inl (ks, 256, .inl (nF SBN))), (qg, .inr (1, [.long yh, .long yl])), (qa, .inl (ka, 48, .inl (nF ab))), (qt, .inl (kt, 96, .inl (nF tb))), (qm, .inl (km, 16, .inl (nF mk))), (rx, .inl (jx, 256, .inl (nF SBN))), (rd, .inl (jd, 48, .inl (nF bd))), (rg, .inl (jg, 96, .inl (nF gv))), (qo, .inl (ko, 1, .inr (.inl ou))), (x, .inr (2, [.ref qc, .ref qg, .ref qa, .ref qt, .ref qm, .int (nI ph), .int (zI og), .long nh, .int nr, .int (nI na), .int (nI nt), .int mb, .long t1, .long t2])), (qc, .inr (0, [.ref qs, .ref qu, .ref qw, .ref qb, .ref qe])), (qu, .inl (ku, 256, .inl (nF UBN))), (qw, .inl (kw, 44, .inl w)), (qb, .inl (kb, 16, .inl (nF (akN w 0 (drN UBN w (ldN (lj (xs ((10 * k) + 1)) (xs ((10 * k) + 2))) (lj (xs ((10 * k) + 3)) (xs ((10 * k) + 4)))) 10))))), (qe, .inl (ke, 16, .inl (nF (umN w 9 (drN UBN w (ldN (lj (xs ((10 * k) + 1)) (xs ((10 * k) + 2))) (lj (xs ((10 * k) + 3)) (xs ((10 * k) + 4)))) 9))))), (o, .inr (3, [.int (nI 0), .int (nI ph), .int (zI og), .ref rx, .ref rk, .ref rw, .ref rb, .ref rn, .long (lN (jbN (akN w 0 (drN UBN w (ldN (lj (xs ((10 * k) + 1)) (xs ((10 * k) + 2))) (lj (xs ((10 * k) + 3)) (xs ((10 * k) + 4)))) 10)) 0 16 8)), .long (lN (jbN (akN w 0 (drN UBN w (ldN (lj (xs ((10 * k) + 1)) (xs ((10 * k) + 2))) (lj (xs ((10 * k) + 3)) (xs ((10 * k) + 4)))) 10)) 8 16 8)), .long nh, .int nr, .int (nI pa), .ref rd, .int (nI nt), .ref rg, .long u1, .long u2])), (rk, .inl (jk, 256, .inl (nF UBN))), (rw, .inl (jw, 44, .inl w)), (rb, .inl (jb, 16, .inl (nF (akN w 0 (drN UBN w (ldN (lj (xs ((10 * k) + 1)) (xs ((10 * k) + 2))) (lj (xs ((10 * k) + 3)) (xs ((10 * k) + 4)))) 10))))), (rn, .inl (jn, 16, .inl (nF (drN UBN w (ldN (lj (xs ((10 * k) + 1)) (xs ((10 * k) + 2))) (lj (xs ((10 * k) + 3)) (xs ((10 * k) + 4)))) 10))))] := hD
      refine W.widen (k := 21 + k) (n := 1775 + 6 * k) (by show 21 + k + 0 ≤ 21 + k; omega) (by show 1775 + 6 * k + 0 ≤ 1775 + 6 * k; omega) ?_
      refine w_pc (pc2 := 521) rfl ?_
      refine W.lcmp hx hb dL_law_521 ?_
      refine top_i (y := nI 0) (cmpx.mpr (rfl)) ?_
      refine lv_if_eq (tgt := 1352) hx hb dL_law_522 (by decide) (fun hc_522 => ?_) (fun hc_522 => ?_)
      · skip
        have hc_522 := (ix_eq (a := 0) (b := 0) (by omega) (by omega)).mp hc_522
        have hc_522 : (0 = 0) := hc_522
        refine lv_iinc (v := nI (10 * (k + 1))) (k := 4) hx hb dL_law_1352 hl rfl ((ix_inc _ 10).trans (congrArg nI (by omega))) (by decide) rfl (fun ls hl => ?_)
        have hl : lv_has ls 8 [(4, .int (nI (10 * (k + 1)))), (0, .ref sa), (1, .ref x), (2, .ref o), (3, .ref qo)] := hl
        refine lv_goto (tgt := 23) hx hb dL_law_1355 (by decide) ?_
        refine W.widen (k := 21 + (k + 1)) (n := 1775 + 6 * (k + 1)) (by omega) (by omega) ?_
        exact hd w (akN w 0 (drN UBN w (ldN (lj (xs ((10 * k) + 1)) (xs ((10 * k) + 2))) (lj (xs ((10 * k) + 3)) (xs ((10 * k) + 4)))) 10)) (umN w 9 (drN UBN w (ldN (lj (xs ((10 * k) + 1)) (xs ((10 * k) + 2))) (lj (xs ((10 * k) + 3)) (xs ((10 * k) + 4)))) 9)) mk ab tb yh yl ph og nh nr na nt mb t1 t2 (nI 0) (akN w 0 (drN UBN w (ldN (lj (xs ((10 * k) + 1)) (xs ((10 * k) + 2))) (lj (xs ((10 * k) + 3)) (xs ((10 * k) + 4)))) 10)) (drN UBN w (ldN (lj (xs ((10 * k) + 1)) (xs ((10 * k) + 2))) (lj (xs ((10 * k) + 3)) (xs ((10 * k) + 4)))) 10) bd gv (lN (jbN (akN w 0 (drN UBN w (ldN (lj (xs ((10 * k) + 1)) (xs ((10 * k) + 2))) (lj (xs ((10 * k) + 3)) (xs ((10 * k) + 4)))) 10)) 0 16 8)) (lN (jbN (akN w 0 (drN UBN w (ldN (lj (xs ((10 * k) + 1)) (xs ((10 * k) + 2))) (lj (xs ((10 * k) + 3)) (xs ((10 * k) + 4)))) 10)) 8 16 8)) u1 u2 pa ou ls H locs (hI9) (lv_sub hl [1, 2, 3, 4, 0] rfl) (hP.sub [9, 10, 0, 11, 12, 13, 14, 1, 2, 3, 4, 15, 5, 16, 17, 18, 19, 6, 7, 8] rfl) (hD.sub [9, 10, 0, 11, 12, 13, 14, 1, 2, 3, 4, 15, 5, 16, 17, 18, 19, 6, 7, 8] (by decide) rfl) hS
      · skip
        have hc_522 := (not_congr (ix_eq (a := 0) (b := 0) (by omega) (by omega))).mp hc_522
        have hc_522 : ¬ (0 = 0) := hc_522
        exfalso; omega
    · skip
      exact (by first | exact absurd hc_448 hc_510 | exact absurd hc_510 hc_448)
  · skip
    refine lv_iconst (v := nI 1) hx hb dL_law_451 (by decide) ?_
    refine lv_goto (tgt := 456) hx hb dL_law_452 (by decide) ?_
    refine cf_1 (wr := [(qs, .inl (ks, 256, .inl (nF SBN))), (qg, .inr (1, [.long yh, .long yl])), (qa, .inl (ka, 48, .inl (nF ab))), (qt, .inl (kt, 96, .inl (nF tb))), (qm, .inl (km, 16, .inl (nF mk))), (o, .inr (3, [.int th, .int (nI ph), .int (zI og), .ref rx, .ref rk, .ref rw, .ref rb, .ref rn, .long mh, .long ml, .long nh, .int nr, .int (nI pa), .ref rd, .int (nI nt), .ref rg, .long u1, .long u2])), (rx, .inl (jx, 256, .inl (nF SBN))), (rk, .inl (jk, 256, .inl (nF UBN))), (rw, .inl (jw, 44, .inl w)), (rb, .inl (jb, 16, .inl (nF b2))), (rn, .inl (jn, 16, .inl (nF z2))), (rd, .inl (jd, 48, .inl (nF bd))), (rg, .inl (jg, 96, .inl (nF gv))), (qo, .inl (ko, 1, .inr (.inl ou)))]) (va_runV (As := [.long (lj (xs ((10 * k) + 1)) (xs ((10 * k) + 2))), .long (lj (xs ((10 * k) + 3)) (xs ((10 * k) + 4))), .int (nI 1)]) (rest := []) ⟨hx, hb, hml, hown, hta⟩ (MO.to (c_decrypt l dC dI x qc qg qa qt qm ph og nh nr na nt mb t1 t2 qs qu qw qb qe ku kw kb ke UBN w b z (lj (xs ((10 * k) + 1)) (xs ((10 * k) + 2))) (lj (xs ((10 * k) + 3)) (xs ((10 * k) + 4))) true UBN_lt) H.size) (cwV 3 hta (aw_V mw_176 mw_173 mw_174 mw_175 mw_1) rfl rfl rfl ⟨rfl, dyX2_decrypt⟩ ⟨(Nat.le_of_ble_eq_true rfl), (Nat.le_of_ble_eq_true rfl)⟩) (pr_V hP hD hK hE [0, 1, 3, 4, 5, 6] [1, 2, 3, 4] (by decide) rfl rfl rfl rfl) rfl rfl hl.1 rfl (lv_room (Nat.le_of_ble_eq_true rfl)) dL_law_456 ⟨by show 21 + k + 0 ≤ 601024; omega, by show 1775 + 6 * k + 0 ≤ 7293034; omega⟩) hP hD hS hA [0, 1, 3, 4, 5, 6] [2, 7, 8, 9, 10, 11, 12, 13, 14, 15, 16, 17, 18, 19] rfl rfl (by decide) (by decide) (fun H locs hP hD hS => ?_)
    have hP : va_P (dC, dI) vwCl [(qs, .inl (ks, 256, .inl (nF SBN))), (qg, .inr (1, [.long yh, .long yl])), (qa, .inl (ka, 48, .inl (nF ab))), (qt, .inl (kt, 96, .inl (nF tb))), (qm, .inl (km, 16, .inl (nF mk))), (o, .inr (3, [.int th, .int (nI ph), .int (zI og), .ref rx, .ref rk, .ref rw, .ref rb, .ref rn, .long mh, .long ml, .long nh, .int nr, .int (nI pa), .ref rd, .int (nI nt), .ref rg, .long u1, .long u2])), (rx, .inl (jx, 256, .inl (nF SBN))), (rk, .inl (jk, 256, .inl (nF UBN))), (rw, .inl (jw, 44, .inl w)), (rb, .inl (jb, 16, .inl (nF b2))), (rn, .inl (jn, 16, .inl (nF z2))), (rd, .inl (jd, 48, .inl (nF bd))), (rg, .inl (jg, 96, .inl (nF gv))), (qo, .inl (ko, 1, .inr (.inl ou))), (x, .inr (2, [.ref qc, .ref qg, .ref qa, .ref qt, .ref qm, .int (nI ph), .int (zI og), .long nh, .int nr, .int (nI na), .int (nI nt), .int mb, .long t1, .long t2])), (qc, .inr (0, [.ref qs, .ref qu, .ref qw, .ref qb, .ref qe])), (qu, .inl (ku, 256, .inl (nF UBN))), (qw, .inl (kw, 44, .inl w)), (qb, .inl (kb, 16, .inl (nF (akN w 0 (drN UBN w (ldN (lj (xs ((10 * k) + 1)) (xs ((10 * k) + 2))) (lj (xs ((10 * k) + 3)) (xs ((10 * k) + 4)))) 10))))), (qe, .inl (ke, 16, .inl (nF (umN w 9 (drN UBN w (ldN (lj (xs ((10 * k) + 1)) (xs ((10 * k) + 2))) (lj (xs ((10 * k) + 3)) (xs ((10 * k) + 4)))) 9)))))] H := hP
    have hD : va_D A [(qs, .inl (ks, 256, .inl (nF SBN))), (qg, .inr (1, [.long yh, .long yl])), (qa, .inl (ka, 48, .inl (nF ab))), (qt, .inl (kt, 96, .inl (nF tb))), (qm, .inl (km, 16, .inl (nF mk))), (o, .inr (3, [.int th, .int (nI ph), .int (zI og), .ref rx, .ref rk, .ref rw, .ref rb, .ref rn, .long mh, .long ml, .long nh, .int nr, .int (nI pa), .ref rd, .int (nI nt), .ref rg, .long u1, .long u2])), (rx, .inl (jx, 256, .inl (nF SBN))), (rk, .inl (jk, 256, .inl (nF UBN))), (rw, .inl (jw, 44, .inl w)), (rb, .inl (jb, 16, .inl (nF b2))), (rn, .inl (jn, 16, .inl (nF z2))), (rd, .inl (jd, 48, .inl (nF bd))), (rg, .inl (jg, 96, .inl (nF gv))), (qo, .inl (ko, 1, .inr (.inl ou))), (x, .inr (2, [.ref qc, .ref qg, .ref qa, .ref qt, .ref qm, .int (nI ph), .int (zI og), .long nh, .int nr, .int (nI na), .int (nI nt), .int mb, .long t1, .long t2])), (qc, .inr (0, [.ref qs, .ref qu, .ref qw, .ref qb, .ref qe])), (qu, .inl (ku, 256, .inl (nF UBN))), (qw, .inl (kw, 44, .inl w)), (qb, .inl (kb, 16, .inl (nF (akN w 0 (drN UBN w (ldN (lj (xs ((10 * k) + 1)) (xs ((10 * k) + 2))) (lj (xs ((10 * k) + 3)) (xs ((10 * k) + 4)))) 10))))), (qe, .inl (ke, 16, .inl (nF (umN w 9 (drN UBN w (ldN (lj (xs ((10 * k) + 1)) (xs ((10 * k) + 2))) (lj (xs ((10 * k) + 3)) (xs ((10 * k) + 4)))) 9)))))] := hD
    refine W.widen (k := 21 + k) (n := 1775 + 6 * k) (by show 21 + k + 0 ≤ 21 + k; omega) (by show 1775 + 6 * k + 0 ≤ 1775 + 6 * k; omega) ?_
    refine w_pc (pc2 := 459) rfl ?_
    refine lv_aload_n hx hb dL_law_459 rfl (lv_at hl 2 rfl) ?_
    refine lv_aload_n hx hb dL_law_460 rfl (lv_at hl 0 rfl) ?_
    refine lv_iload hx hb dL_law_461 (lv_at hl 4 rfl) ?_
    refine lv_iconst (v := nI 1) hx hb dL_law_463 (by decide) ?_
    refine lv_iadd hx hb dL_law_464 (top_i (nI_add _ _) ?_)
    refine va_sln (v := xs ((10 * k) + 1)) hx hb hX hbl hbA hS (by omega) hL (rfl) dL_law_465 ?_
    refine lv_i2l hx hb dL_law_466 rfl ?_
    refine lv_bipush (v := nI 32) hx hb dL_law_467 (by decide) ?_
    refine lv_lshl hx hb dL_law_469 rfl ?_
    refine lv_aload_n hx hb dL_law_470 rfl (lv_at hl 0 rfl) ?_
    refine lv_iload hx hb dL_law_471 (lv_at hl 4 rfl) ?_
    refine lv_iconst (v := nI 2) hx hb dL_law_473 (by decide) ?_
    refine w_pc (pc2 := 474) rfl ?_
    refine lv_iadd hx hb dL_law_474 (top_i (nI_add _ _) ?_)
    refine va_sln (v := xs ((10 * k) + 2)) hx hb hX hbl hbA hS (by omega) hL (rfl) dL_law_475 ?_
    refine lv_i2l hx hb dL_law_476 rfl ?_
    refine lv_ldc2 (v := 4294967295) hx hb hown (hta _ mw_631) dL_law_477 ?_
    refine top_l (y := lN 4294967295) (by decide) ?_
    refine lv_land hx hb dL_law_480 ?_
    refine lv_lor hx hb dL_law_481 ?_
    refine top_l (y := lj (xs ((10 * k) + 1)) (xs ((10 * k) + 2))) rfl ?_
    refine lv_aload_n hx hb dL_law_482 rfl (lv_at hl 0 rfl) ?_
    refine lv_iload hx hb dL_law_483 (lv_at hl 4 rfl) ?_
    refine lv_iconst (v := nI 3) hx hb dL_law_485 (by decide) ?_
    refine lv_iadd hx hb dL_law_486 (top_i (nI_add _ _) ?_)
    refine va_sln (v := xs ((10 * k) + 3)) hx hb hX hbl hbA hS (by omega) hL (rfl) dL_law_487 ?_
    refine lv_i2l hx hb dL_law_488 rfl ?_
    refine w_pc (pc2 := 489) rfl ?_
    refine lv_bipush (v := nI 32) hx hb dL_law_489 (by decide) ?_
    refine lv_lshl hx hb dL_law_491 rfl ?_
    refine lv_aload_n hx hb dL_law_492 rfl (lv_at hl 0 rfl) ?_
    refine lv_iload hx hb dL_law_493 (lv_at hl 4 rfl) ?_
    refine lv_iconst (v := nI 4) hx hb dL_law_495 (by decide) ?_
    refine lv_iadd hx hb dL_law_496 (top_i (nI_add _ _) ?_)
    refine va_sln (v := xs ((10 * k) + 4)) hx hb hX hbl hbA hS (by omega) hL (rfl) dL_law_497 ?_
    refine lv_i2l hx hb dL_law_498 rfl ?_
    refine lv_ldc2 (v := 4294967295) hx hb hown (hta _ mw_631) dL_law_499 ?_
    refine top_l (y := lN 4294967295) (by decide) ?_
    refine lv_land hx hb dL_law_502 ?_
    refine lv_lor hx hb dL_law_503 ?_
    refine top_l (y := lj (xs ((10 * k) + 3)) (xs ((10 * k) + 4))) rfl ?_
    refine lv_aload_n hx hb dL_law_504 rfl (lv_at hl 0 rfl) ?_
    refine w_pc (pc2 := 505) rfl ?_
    refine lv_iload hx hb dL_law_505 (lv_at hl 4 rfl) ?_
    refine lv_iconst (v := nI 5) hx hb dL_law_507 (by decide) ?_
    refine lv_iadd hx hb dL_law_508 (top_i (nI_add _ _) ?_)
    refine va_sln (v := xs ((10 * k) + 5)) hx hb hX hbl hbA hS (by omega) hL (rfl) dL_law_509 ?_
    refine lv_if_eq (tgt := 517) hx hb dL_law_510 (by decide) (fun hc_510 => ?_) (fun hc_510 => ?_)
    · skip
      exact (by first | exact absurd hc_448 hc_510 | exact absurd hc_510 hc_448)
    · skip
      refine lv_iconst (v := nI 1) hx hb dL_law_513 (by decide) ?_
      refine lv_goto (tgt := 518) hx hb dL_law_514 (by decide) ?_
      refine cf_1 (wr := [(qs, .inl (ks, 256, .inl (nF SBN))), (qg, .inr (1, [.long yh, .long yl])), (qa, .inl (ka, 48, .inl (nF ab))), (qt, .inl (kt, 96, .inl (nF tb))), (qm, .inl (km, 16, .inl (nF mk))), (rx, .inl (jx, 256, .inl (nF SBN))), (rd, .inl (jd, 48, .inl (nF bd))), (rg, .inl (jg, 96, .inl (nF gv))), (qo, .inl (ko, 1, .inr (.inl ou))), (x, .inr (2, [.ref qc, .ref qg, .ref qa, .ref qt, .ref qm, .int (nI ph), .int (zI og), .long nh, .int nr, .int (nI na), .int (nI nt), .int mb, .long t1, .long t2])), (qc, .inr (0, [.ref qs, .ref qu, .ref qw, .ref qb, .ref qe])), (qu, .inl (ku, 256, .inl (nF UBN))), (qw, .inl (kw, 44, .inl w)), (qb, .inl (kb, 16, .inl (nF (akN w 0 (drN UBN w (ldN (lj (xs ((10 * k) + 1)) (xs ((10 * k) + 2))) (lj (xs ((10 * k) + 3)) (xs ((10 * k) + 4)))) 10))))), (qe, .inl (ke, 16, .inl (nF (umN w 9 (drN UBN w (ldN (lj (xs ((10 * k) + 1)) (xs ((10 * k) + 2))) (lj (xs ((10 * k) + 3)) (xs ((10 * k) + 4)))) 9)))))]) (va_runV (As := [.long (lj (xs ((10 * k) + 1)) (xs ((10 * k) + 2))), .long (lj (xs ((10 * k) + 3)) (xs ((10 * k) + 4))), .int (nI 1)]) (rest := [.long (if true then lN (jbN (akN w 0 (drN UBN w (ldN (lj (xs ((10 * k) + 1)) (xs ((10 * k) + 2))) (lj (xs ((10 * k) + 3)) (xs ((10 * k) + 4)))) 10)) 8 16 8) else lN (jbN (akN w 0 (drN UBN w (ldN (lj (xs ((10 * k) + 1)) (xs ((10 * k) + 2))) (lj (xs ((10 * k) + 3)) (xs ((10 * k) + 4)))) 10)) 0 16 8))]) ⟨hx, hb, hml, hown, hta⟩ (MO.to (m_decrypt l dC dI o th ph og rx rk rw rb rn mh ml nh nr pa rd nt rg u1 u2 jk jw jb jn UBN w b2 z2 (lj (xs ((10 * k) + 1)) (xs ((10 * k) + 2))) (lj (xs ((10 * k) + 3)) (xs ((10 * k) + 4))) true UBN_lt) H.size) (cwV 3 hta (aw_V mw_556 mw_553 mw_554 mw_555 mw_5) rfl rfl rfl ⟨rfl, dyX3_decrypt⟩ ⟨(Nat.le_of_ble_eq_true rfl), (Nat.le_of_ble_eq_true rfl)⟩) (pr_V hP hD hK hE [5, 7, 8, 9, 10] [9, 10, 11, 12] (by decide) rfl rfl rfl rfl) rfl rfl hl.1 rfl (lv_room (Nat.le_of_ble_eq_true rfl)) dL_law_518 ⟨by show 21 + k + 0 ≤ 601024; omega, by show 1775 + 6 * k + 0 ≤ 7293034; omega⟩) hP hD hS hA [5, 7, 8, 9, 10] [0, 1, 2, 3, 4, 6, 11, 12, 13, 14, 15, 16, 17, 18, 19] rfl rfl (by decide) (by decide) (fun H locs hP hD hS => ?_)
      have hP : va_P (dC, dI) vwCl [(qs, .inl (ks, 256, .inl (nF SBN))), (qg, .inr (1, [.long yh, .long yl])), (qa, .inl (ka, 48, .inl (nF ab))), (qt, .inl (kt, 96, .inl (nF tb))), (qm, .inl (km, 16, .inl (nF mk))), (rx, .inl (jx, 256, .inl (nF SBN))), (rd, .inl (jd, 48, .inl (nF bd))), (rg, .inl (jg, 96, .inl (nF gv))), (qo, .inl (ko, 1, .inr (.inl ou))), (x, .inr (2, [.ref qc, .ref qg, .ref qa, .ref qt, .ref qm, .int (nI ph), .int (zI og), .long nh, .int nr, .int (nI na), .int (nI nt), .int mb, .long t1, .long t2])), (qc, .inr (0, [.ref qs, .ref qu, .ref qw, .ref qb, .ref qe])), (qu, .inl (ku, 256, .inl (nF UBN))), (qw, .inl (kw, 44, .inl w)), (qb, .inl (kb, 16, .inl (nF (akN w 0 (drN UBN w (ldN (lj (xs ((10 * k) + 1)) (xs ((10 * k) + 2))) (lj (xs ((10 * k) + 3)) (xs ((10 * k) + 4)))) 10))))), (qe, .inl (ke, 16, .inl (nF (umN w 9 (drN UBN w (ldN (lj (xs ((10 * k) + 1)) (xs ((10 * k) + 2))) (lj (xs ((10 * k) + 3)) (xs ((10 * k) + 4)))) 9))))), (o, .inr (3, [.int (nI 0), .int (nI ph), .int (zI og), .ref rx, .ref rk, .ref rw, .ref rb, .ref rn, .long (lN (jbN (akN w 0 (drN UBN w (ldN (lj (xs ((10 * k) + 1)) (xs ((10 * k) + 2))) (lj (xs ((10 * k) + 3)) (xs ((10 * k) + 4)))) 10)) 0 16 8)), .long (lN (jbN (akN w 0 (drN UBN w (ldN (lj (xs ((10 * k) + 1)) (xs ((10 * k) + 2))) (lj (xs ((10 * k) + 3)) (xs ((10 * k) + 4)))) 10)) 8 16 8)), .long nh, .int nr, .int (nI pa), .ref rd, .int (nI nt), .ref rg, .long u1, .long u2])), (rk, .inl (jk, 256, .inl (nF UBN))), (rw, .inl (jw, 44, .inl w)), (rb, .inl (jb, 16, .inl (nF (akN w 0 (drN UBN w (ldN (lj (xs ((10 * k) + 1)) (xs ((10 * k) + 2))) (lj (xs ((10 * k) + 3)) (xs ((10 * k) + 4)))) 10))))), (rn, .inl (jn, 16, .inl (nF (drN UBN w (ldN (lj (xs ((10 * k) + 1)) (xs ((10 * k) + 2))) (lj (xs ((10 * k) + 3)) (xs ((10 * k) + 4)))) 10))))] H := hP
      have hD : va_D A [(qs, .inl (ks, 256, .inl (nF SBN))), (qg, .inr (1, [.long yh, .long yl])), (qa, .inl (ka, 48, .inl (nF ab))), (qt, .inl (kt, 96, .inl (nF tb))), (qm, .inl (km, 16, .inl (nF mk))), (rx, .inl (jx, 256, .inl (nF SBN))), (rd, .inl (jd, 48, .inl (nF bd))), (rg, .inl (jg, 96, .inl (nF gv))), (qo, .inl (ko, 1, .inr (.inl ou))), (x, .inr (2, [.ref qc, .ref qg, .ref qa, .ref qt, .ref qm, .int (nI ph), .int (zI og), .long nh, .int nr, .int (nI na), .int (nI nt), .int mb, .long t1, .long t2])), (qc, .inr (0, [.ref qs, .ref qu, .ref qw, .ref qb, .ref qe])), (qu, .inl (ku, 256, .inl (nF UBN))), (qw, .inl (kw, 44, .inl w)), (qb, .inl (kb, 16, .inl (nF (akN w 0 (drN UBN w (ldN (lj (xs ((10 * k) + 1)) (xs ((10 * k) + 2))) (lj (xs ((10 * k) + 3)) (xs ((10 * k) + 4)))) 10))))), (qe, .inl (ke, 16, .inl (nF (umN w 9 (drN UBN w (ldN (lj (xs ((10 * k) + 1)) (xs ((10 * k) + 2))) (lj (xs ((10 * k) + 3)) (xs ((10 * k) + 4)))) 9))))), (o, .inr (3, [.int (nI 0), .int (nI ph), .int (zI og), .ref rx, .ref rk, .ref rw, .ref rb, .ref rn, .long (lN (jbN (akN w 0 (drN UBN w (ldN (lj (xs ((10 * k) + 1)) (xs ((10 * k) + 2))) (lj (xs ((10 * k) + 3)) (xs ((10 * k) + 4)))) 10)) 0 16 8)), .long (lN (jbN (akN w 0 (drN UBN w (ldN (lj (xs ((10 * k) + 1)) (xs ((10 * k) + 2))) (lj (xs ((10 * k) + 3)) (xs ((10 * k) + 4)))) 10)) 8 16 8)), .long nh, .int nr, .int (nI pa), .ref rd, .int (nI nt), .ref rg, .long u1, .long u2])), (rk, .inl (jk, 256, .inl (nF UBN))), (rw, .inl (jw, 44, .inl w)), (rb, .inl (jb, 16, .inl (nF (akN w 0 (drN UBN w (ldN (lj (xs ((10 * k) + 1)) (xs ((10 * k) + 2))) (lj (xs ((10 * k) + 3)) (xs ((10 * k) + 4)))) 10))))), (rn, .inl (jn, 16, .inl (nF (drN UBN w (ldN (lj (xs ((10 * k) + 1)) (xs ((10 * k) + 2))) (lj (xs ((10 * k) + 3)) (xs ((10 * k) + 4)))) 10))))] := hD
      refine W.widen (k := 21 + k) (n := 1775 + 6 * k) (by show 21 + k + 0 ≤ 21 + k; omega) (by show 1775 + 6 * k + 0 ≤ 1775 + 6 * k; omega) ?_
      refine w_pc (pc2 := 521) rfl ?_
      refine W.lcmp hx hb dL_law_521 ?_
      refine top_i (y := nI 0) (cmpx.mpr (rfl)) ?_
      refine lv_if_eq (tgt := 1352) hx hb dL_law_522 (by decide) (fun hc_522 => ?_) (fun hc_522 => ?_)
      · skip
        have hc_522 := (ix_eq (a := 0) (b := 0) (by omega) (by omega)).mp hc_522
        have hc_522 : (0 = 0) := hc_522
        refine lv_iinc (v := nI (10 * (k + 1))) (k := 4) hx hb dL_law_1352 hl rfl ((ix_inc _ 10).trans (congrArg nI (by omega))) (by decide) rfl (fun ls hl => ?_)
        have hl : lv_has ls 8 [(4, .int (nI (10 * (k + 1)))), (0, .ref sa), (1, .ref x), (2, .ref o), (3, .ref qo)] := hl
        refine lv_goto (tgt := 23) hx hb dL_law_1355 (by decide) ?_
        refine W.widen (k := 21 + (k + 1)) (n := 1775 + 6 * (k + 1)) (by omega) (by omega) ?_
        exact hd w (akN w 0 (drN UBN w (ldN (lj (xs ((10 * k) + 1)) (xs ((10 * k) + 2))) (lj (xs ((10 * k) + 3)) (xs ((10 * k) + 4)))) 10)) (umN w 9 (drN UBN w (ldN (lj (xs ((10 * k) + 1)) (xs ((10 * k) + 2))) (lj (xs ((10 * k) + 3)) (xs ((10 * k) + 4)))) 9)) mk ab tb yh yl ph og nh nr na nt mb t1 t2 (nI 0) (akN w 0 (drN UBN w (ldN (lj (xs ((10 * k) + 1)) (xs ((10 * k) + 2))) (lj (xs ((10 * k) + 3)) (xs ((10 * k) + 4)))) 10)) (drN UBN w (ldN (lj (xs ((10 * k) + 1)) (xs ((10 * k) + 2))) (lj (xs ((10 * k) + 3)) (xs ((10 * k) + 4)))) 10) bd gv (lN (jbN (akN w 0 (drN UBN w (ldN (lj (xs ((10 * k) + 1)) (xs ((10 * k) + 2))) (lj (xs ((10 * k) + 3)) (xs ((10 * k) + 4)))) 10)) 0 16 8)) (lN (jbN (akN w 0 (drN UBN w (ldN (lj (xs ((10 * k) + 1)) (xs ((10 * k) + 2))) (lj (xs ((10 * k) + 3)) (xs ((10 * k) + 4)))) 10)) 8 16 8)) u1 u2 pa ou ls H locs (hI9) (lv_sub hl [1, 2, 3, 4, 0] rfl) (hP.sub [9, 10, 0, 11, 12, 13, 14, 1, 2, 3, 4, 15, 5, 16, 17, 18, 19, 6, 7, 8] rfl) (hD.sub [9, 10, 0, 11, 12, 13, 14, 1, 2, 3, 4, 15, 5, 16, 17, 18, 19, 6, 7, 8] (by decide) rfl) hS
      · skip
        have hc_522 := (not_congr (ix_eq (a := 0) (b := 0) (by omega) (by omega))).mp hc_522
        have hc_522 : ¬ (0 = 0) := hc_522
        exfalso; omega

set_option maxHeartbeats 4000000 in
set_option maxRecDepth 100000 in
/-- lc_product -/
theorem lc_product (p : Program) (l : Launch) (e : Env) (s : State) (m : MethodId) (args : Array Value) (below : List Frame) (meth : Method) (c : Code) (Q : State → Prop) (A : Nat → Prop) (dC : Nat → ClassId) (dI : Nat → Nat → Nat) (sa : Nat) (x : Nat) (qc : Nat) (qs : Nat) (qu : Nat) (qw : Nat) (qb : Nat) (qe : Nat) (qg : Nat) (qa : Nat) (qt : Nat) (qm : Nat) (ks : ClassId) (ku : ClassId) (kw : ClassId) (kb : ClassId) (ke : ClassId) (ka : ClassId) (kt : ClassId) (km : ClassId) (o : Nat) (rx : Nat) (rk : Nat) (rw : Nat) (rb : Nat) (rn : Nat) (rd : Nat) (rg : Nat) (jx : ClassId) (jk : ClassId) (jw : ClassId) (jb : ClassId) (jn : ClassId) (jd : ClassId) (jg : ClassId) (qo : Nat) (ko : ClassId) (L : Nat) (xs : Nat → Int32) (k : Nat) (hx : p.tables.exec = Jvm.exec) (hb : c.code = cL_law) (hml : c.maxLocals = 8) (hta : ∀ w ∈ AW, w.before args s = true) (hown : s.vm.findClass RL = some m.cls) (hE : EX s) (hT : TX s) (hZ : ZT A s s.heap) (hst : l.stackTraces = false) (hA : ∀ q, s.heap.size ≤ q → A q) (hK : va_K (dC, dI) vwCl [(ks, .int), (ku, .int), (kw, .int), (kb, .int), (ke, .int), (ka, .int), (kt, .int), (km, .int), (jx, .int), (jk, .int), (jw, .int), (jb, .int), (jn, .int), (jd, .int), (jg, .int), (ko, .long)] s) (hX : va_X sa L xs s s.heap) (hbl : sa < s.heap.size) (hbA : ¬ A sa) (hL : L ≤ 5120) (hk : 10 * k + 10 ≤ L) (hd : HD p l e s m args below meth c Q A dC dI sa x qc qs qu qw qb qe qg qa qt qm ks ku kw kb ke ka kt km o rx rk rw rb rn rd rg jx jk jw jb jn jd jg qo ko (k + 1)) (w : Nat → Int32) (b : Nat → Nat) (z : Nat → Nat) (mk : Nat → Nat) (ab : Nat → Nat) (tb : Nat → Nat) (yh : Int64) (yl : Int64) (ph : Nat) (og : Bool) (nh : Int64) (nr : Int32) (na : Nat) (nt : Nat) (mb : Int32) (t1 : Int64) (t2 : Int64) (th : Int32) (b2 : Nat → Nat) (z2 : Nat → Nat) (bd : Nat → Nat) (gv : Nat → Nat) (mh : Int64) (ml : Int64) (u1 : Int64) (u2 : Int64) (pa : Nat) (ou : Nat → Int64) (ls : Array Slot) (H : Heap) (locs : List Loc) (hI : INV w ph og nh nr na pa nt mb mk ab bd tb gv t1 t2 u1 u2) (hl : lv_has ls 8 [(0, .ref sa), (1, .ref x), (2, .ref o), (3, .ref qo), (4, .int (nI (10 * k)))]) (hP : va_P (dC, dI) vwCl [(x, .inr (2, [.ref qc, .ref qg, .ref qa, .ref qt, .ref qm, .int (nI ph), .int (zI og), .long nh, .int nr, .int (nI na), .int (nI nt), .int mb, .long t1, .long t2])), (qc, .inr (0, [.ref qs, .ref qu, .ref qw, .ref qb, .ref qe])), (qs, .inl (ks, 256, .inl (nF SBN))), (qu, .inl (ku, 256, .inl (nF UBN))), (qw, .inl (kw, 44, .inl w)), (qb, .inl (kb, 16, .inl (nF b))), (qe, .inl (ke, 16, .inl (nF z))), (qg, .inr (1, [.long yh, .long yl])), (qa, .inl (ka, 48, .inl (nF ab))), (qt, .inl (kt, 96, .inl (nF tb))), (qm, .inl (km, 16, .inl (nF mk))), (o, .inr (3, [.int th, .int (nI ph), .int (zI og), .ref rx, .ref rk, .ref rw, .ref rb, .ref rn, .long mh, .long ml, .long nh, .int nr, .int (nI pa), .ref rd, .int (nI nt), .ref rg, .long u1, .long u2])), (rx, .inl (jx, 256, .inl (nF SBN))), (rk, .inl (jk, 256, .inl (nF UBN))), (rw, .inl (jw, 44, .inl w)), (rb, .inl (jb, 16, .inl (nF b2))), (rn, .inl (jn, 16, .inl (nF z2))), (rd, .inl (jd, 48, .inl (nF bd))), (rg, .inl (jg, 96, .inl (nF gv))), (qo, .inl (ko, 1, .inr (.inl ou)))] H) (hD : va_D A [(x, .inr (2, [.ref qc, .ref qg, .ref qa, .ref qt, .ref qm, .int (nI ph), .int (zI og), .long nh, .int nr, .int (nI na), .int (nI nt), .int mb, .long t1, .long t2])), (qc, .inr (0, [.ref qs, .ref qu, .ref qw, .ref qb, .ref qe])), (qs, .inl (ks, 256, .inl (nF SBN))), (qu, .inl (ku, 256, .inl (nF UBN))), (qw, .inl (kw, 44, .inl w)), (qb, .inl (kb, 16, .inl (nF b))), (qe, .inl (ke, 16, .inl (nF z))), (qg, .inr (1, [.long yh, .long yl])), (qa, .inl (ka, 48, .inl (nF ab))), (qt, .inl (kt, 96, .inl (nF tb))), (qm, .inl (km, 16, .inl (nF mk))), (o, .inr (3, [.int th, .int (nI ph), .int (zI og), .ref rx, .ref rk, .ref rw, .ref rb, .ref rn, .long mh, .long ml, .long nh, .int nr, .int (nI pa), .ref rd, .int (nI nt), .ref rg, .long u1, .long u2])), (rx, .inl (jx, 256, .inl (nF SBN))), (rk, .inl (jk, 256, .inl (nF UBN))), (rw, .inl (jw, 44, .inl w)), (rb, .inl (jb, 16, .inl (nF b2))), (rn, .inl (jn, 16, .inl (nF z2))), (rd, .inl (jd, 48, .inl (nF bd))), (rg, .inl (jg, 96, .inl (nF gv))), (qo, .inl (ko, 1, .inr (.inl ou)))]) (hS : va_S A s.heap H locs)   : W p l e room_1 s m args below meth c H locs (21 + k) (1775 + 6 * k) Q (F0 m 527 ls []) := by
  have hI9 := hI
  obtain ⟨hph6, hnt, a256, d256, t256, g256, hne, h33, h45⟩ := hI
  refine lv_aload_n hx hb dL_law_527 rfl (lv_at hl 1 rfl) ?_
  refine lv_aload_n hx hb dL_law_528 rfl (lv_at hl 0 rfl) ?_
  refine lv_iload hx hb dL_law_529 (lv_at hl 4 rfl) ?_
  refine lv_iconst (v := nI 1) hx hb dL_law_531 (by decide) ?_
  refine lv_iadd hx hb dL_law_532 (top_i (nI_add _ _) ?_)
  refine va_sln (v := xs ((10 * k) + 1)) hx hb hX hbl hbA hS (by omega) hL (rfl) dL_law_533 ?_
  refine lv_i2l hx hb dL_law_534 rfl ?_
  refine lv_bipush (v := nI 32) hx hb dL_law_535 (by decide) ?_
  refine lv_lshl hx hb dL_law_537 rfl ?_
  refine lv_aload_n hx hb dL_law_538 rfl (lv_at hl 0 rfl) ?_
  refine lv_iload hx hb dL_law_539 (lv_at hl 4 rfl) ?_
  refine w_pc (pc2 := 541) rfl ?_
  refine lv_iconst (v := nI 2) hx hb dL_law_541 (by decide) ?_
  refine lv_iadd hx hb dL_law_542 (top_i (nI_add _ _) ?_)
  refine va_sln (v := xs ((10 * k) + 2)) hx hb hX hbl hbA hS (by omega) hL (rfl) dL_law_543 ?_
  refine lv_i2l hx hb dL_law_544 rfl ?_
  refine lv_ldc2 (v := 4294967295) hx hb hown (hta _ mw_631) dL_law_545 ?_
  refine top_l (y := lN 4294967295) (by decide) ?_
  refine lv_land hx hb dL_law_548 ?_
  refine lv_lor hx hb dL_law_549 ?_
  refine top_l (y := lj (xs ((10 * k) + 1)) (xs ((10 * k) + 2))) rfl ?_
  refine lv_aload_n hx hb dL_law_550 rfl (lv_at hl 0 rfl) ?_
  refine lv_iload hx hb dL_law_551 (lv_at hl 4 rfl) ?_
  refine lv_iconst (v := nI 3) hx hb dL_law_553 (by decide) ?_
  refine lv_iadd hx hb dL_law_554 (top_i (nI_add _ _) ?_)
  refine va_sln (v := xs ((10 * k) + 3)) hx hb hX hbl hbA hS (by omega) hL (rfl) dL_law_555 ?_
  refine w_pc (pc2 := 556) rfl ?_
  refine lv_i2l hx hb dL_law_556 rfl ?_
  refine lv_bipush (v := nI 32) hx hb dL_law_557 (by decide) ?_
  refine lv_lshl hx hb dL_law_559 rfl ?_
  refine lv_aload_n hx hb dL_law_560 rfl (lv_at hl 0 rfl) ?_
  refine lv_iload hx hb dL_law_561 (lv_at hl 4 rfl) ?_
  refine lv_iconst (v := nI 4) hx hb dL_law_563 (by decide) ?_
  refine lv_iadd hx hb dL_law_564 (top_i (nI_add _ _) ?_)
  refine va_sln (v := xs ((10 * k) + 4)) hx hb hX hbl hbA hS (by omega) hL (rfl) dL_law_565 ?_
  refine lv_i2l hx hb dL_law_566 rfl ?_
  refine lv_ldc2 (v := 4294967295) hx hb hown (hta _ mw_631) dL_law_567 ?_
  refine top_l (y := lN 4294967295) (by decide) ?_
  refine lv_land hx hb dL_law_570 ?_
  refine lv_lor hx hb dL_law_571 ?_
  refine top_l (y := lj (xs ((10 * k) + 3)) (xs ((10 * k) + 4))) rfl ?_
  refine w_pc (pc2 := 572) rfl ?_
  refine lv_aload_n hx hb dL_law_572 rfl (lv_at hl 0 rfl) ?_
  refine lv_iload hx hb dL_law_573 (lv_at hl 4 rfl) ?_
  refine lv_iconst (v := nI 5) hx hb dL_law_575 (by decide) ?_
  refine lv_iadd hx hb dL_law_576 (top_i (nI_add _ _) ?_)
  refine va_sln (v := xs ((10 * k) + 5)) hx hb hX hbl hbA hS (by omega) hL (rfl) dL_law_577 ?_
  refine lv_i2l hx hb dL_law_578 rfl ?_
  refine lv_bipush (v := nI 32) hx hb dL_law_579 (by decide) ?_
  refine lv_lshl hx hb dL_law_581 rfl ?_
  refine lv_aload_n hx hb dL_law_582 rfl (lv_at hl 0 rfl) ?_
  refine lv_iload hx hb dL_law_583 (lv_at hl 4 rfl) ?_
  refine lv_bipush (v := nI 6) hx hb dL_law_585 (by decide) ?_
  refine lv_iadd hx hb dL_law_587 (top_i (nI_add _ _) ?_)
  refine w_pc (pc2 := 588) rfl ?_
  refine va_sln (v := xs ((10 * k) + 6)) hx hb hX hbl hbA hS (by omega) hL (rfl) dL_law_588 ?_
  refine lv_i2l hx hb dL_law_589 rfl ?_
  refine lv_ldc2 (v := 4294967295) hx hb hown (hta _ mw_631) dL_law_590 ?_
  refine top_l (y := lN 4294967295) (by decide) ?_
  refine lv_land hx hb dL_law_593 ?_
  refine lv_lor hx hb dL_law_594 ?_
  refine top_l (y := lj (xs ((10 * k) + 5)) (xs ((10 * k) + 6))) rfl ?_
  refine lv_aload_n hx hb dL_law_595 rfl (lv_at hl 0 rfl) ?_
  refine lv_iload hx hb dL_law_596 (lv_at hl 4 rfl) ?_
  refine lv_bipush (v := nI 7) hx hb dL_law_598 (by decide) ?_
  refine lv_iadd hx hb dL_law_600 (top_i (nI_add _ _) ?_)
  refine va_sln (v := xs ((10 * k) + 7)) hx hb hX hbl hbA hS (by omega) hL (rfl) dL_law_601 ?_
  refine lv_i2l hx hb dL_law_602 rfl ?_
  refine lv_bipush (v := nI 32) hx hb dL_law_603 (by decide) ?_
  refine w_pc (pc2 := 605) rfl ?_
  refine lv_lshl hx hb dL_law_605 rfl ?_
  refine lv_aload_n hx hb dL_law_606 rfl (lv_at hl 0 rfl) ?_
  refine lv_iload hx hb dL_law_607 (lv_at hl 4 rfl) ?_
  refine lv_bipush (v := nI 8) hx hb dL_law_609 (by decide) ?_
  refine lv_iadd hx hb dL_law_611 (top_i (nI_add _ _) ?_)
  refine va_sln (v := xs ((10 * k) + 8)) hx hb hX hbl hbA hS (by omega) hL (rfl) dL_law_612 ?_
  refine lv_i2l hx hb dL_law_613 rfl ?_
  refine lv_ldc2 (v := 4294967295) hx hb hown (hta _ mw_631) dL_law_614 ?_
  refine top_l (y := lN 4294967295) (by decide) ?_
  refine lv_land hx hb dL_law_617 ?_
  refine lv_lor hx hb dL_law_618 ?_
  refine top_l (y := lj (xs ((10 * k) + 7)) (xs ((10 * k) + 8))) rfl ?_
  refine lv_aload_n hx hb dL_law_619 rfl (lv_at hl 0 rfl) ?_
  refine lv_iload hx hb dL_law_620 (lv_at hl 4 rfl) ?_
  refine w_pc (pc2 := 622) rfl ?_
  refine lv_bipush (v := nI 9) hx hb dL_law_622 (by decide) ?_
  refine lv_iadd hx hb dL_law_624 (top_i (nI_add _ _) ?_)
  refine va_sln (v := xs ((10 * k) + 9)) hx hb hX hbl hbA hS (by omega) hL (rfl) dL_law_625 ?_
  refine lv_if_eq (tgt := 633) hx hb dL_law_626 (by decide) (fun hc_626 => ?_) (fun hc_626 => ?_)
  · skip
    refine lv_iconst (v := nI 0) hx hb dL_law_633 (by decide) ?_
    refine cf_1 (wr := [(qc, .inr (0, [.ref qs, .ref qu, .ref qw, .ref qb, .ref qe])), (qs, .inl (ks, 256, .inl (nF SBN))), (qu, .inl (ku, 256, .inl (nF UBN))), (qw, .inl (kw, 44, .inl w)), (qb, .inl (kb, 16, .inl (nF b))), (qe, .inl (ke, 16, .inl (nF z))), (qa, .inl (ka, 48, .inl (nF ab))), (qt, .inl (kt, 96, .inl (nF tb))), (qm, .inl (km, 16, .inl (nF mk))), (o, .inr (3, [.int th, .int (nI ph), .int (zI og), .ref rx, .ref rk, .ref rw, .ref rb, .ref rn, .long mh, .long ml, .long nh, .int nr, .int (nI pa), .ref rd, .int (nI nt), .ref rg, .long u1, .long u2])), (rx, .inl (jx, 256, .inl (nF SBN))), (rk, .inl (jk, 256, .inl (nF UBN))), (rw, .inl (jw, 44, .inl w)), (rb, .inl (jb, 16, .inl (nF b2))), (rn, .inl (jn, 16, .inl (nF z2))), (rd, .inl (jd, 48, .inl (nF bd))), (rg, .inl (jg, 96, .inl (nF gv))), (qo, .inl (ko, 1, .inr (.inl ou)))]) (va_runV (As := [.long (lj (xs ((10 * k) + 1)) (xs ((10 * k) + 2))), .long (lj (xs ((10 * k) + 3)) (xs ((10 * k) + 4))), .long (lj (xs ((10 * k) + 5)) (xs ((10 * k) + 6))), .long (lj (xs ((10 * k) + 7)) (xs ((10 * k) + 8))), .int (nI 0)]) (rest := []) ⟨hx, hb, hml, hown, hta⟩ (MO.to (c_product l dC dI x qc qg qa qt qm ph og nh nr na nt mb t1 t2 yh yl (lj (xs ((10 * k) + 1)) (xs ((10 * k) + 2))) (lj (xs ((10 * k) + 3)) (xs ((10 * k) + 4))) (lj (xs ((10 * k) + 5)) (xs ((10 * k) + 6))) (lj (xs ((10 * k) + 7)) (xs ((10 * k) + 8))) false) H.size) (cwV 5 hta (aw_V mw_192 mw_189 mw_190 mw_191 mw_1) rfl rfl rfl ⟨rfl, dyX2_product⟩ ⟨(Nat.le_of_ble_eq_true rfl), (Nat.le_of_ble_eq_true rfl)⟩) (pr_V hP hD hK hE [0, 7] [] (by decide) rfl rfl rfl rfl) rfl rfl hl.1 rfl (lv_room (Nat.le_of_ble_eq_true rfl)) dL_law_634 ⟨by show 21 + k + 0 ≤ 601024; omega, by show 1775 + 6 * k + 0 ≤ 7293034; omega⟩) hP hD hS hA [0, 7] [1, 2, 3, 4, 5, 6, 8, 9, 10, 11, 12, 13, 14, 15, 16, 17, 18, 19] rfl rfl (by decide) (by decide) (fun H locs hP hD hS => ?_)
    have hP : va_P (dC, dI) vwCl [(qc, .inr (0, [.ref qs, .ref qu, .ref qw, .ref qb, .ref qe])), (qs, .inl (ks, 256, .inl (nF SBN))), (qu, .inl (ku, 256, .inl (nF UBN))), (qw, .inl (kw, 44, .inl w)), (qb, .inl (kb, 16, .inl (nF b))), (qe, .inl (ke, 16, .inl (nF z))), (qa, .inl (ka, 48, .inl (nF ab))), (qt, .inl (kt, 96, .inl (nF tb))), (qm, .inl (km, 16, .inl (nF mk))), (o, .inr (3, [.int th, .int (nI ph), .int (zI og), .ref rx, .ref rk, .ref rw, .ref rb, .ref rn, .long mh, .long ml, .long nh, .int nr, .int (nI pa), .ref rd, .int (nI nt), .ref rg, .long u1, .long u2])), (rx, .inl (jx, 256, .inl (nF SBN))), (rk, .inl (jk, 256, .inl (nF UBN))), (rw, .inl (jw, 44, .inl w)), (rb, .inl (jb, 16, .inl (nF b2))), (rn, .inl (jn, 16, .inl (nF z2))), (rd, .inl (jd, 48, .inl (nF bd))), (rg, .inl (jg, 96, .inl (nF gv))), (qo, .inl (ko, 1, .inr (.inl ou))), (x, .inr (2, [.ref qc, .ref qg, .ref qa, .ref qt, .ref qm, .int (nI ph), .int (zI og), .long nh, .int nr, .int (nI na), .int (nI nt), .int mb, .long t1, .long t2])), (qg, .inr (1, [.long ((gst (lj (xs ((10 * k) + 1)) (xs ((10 * k) + 2))) (lj (xs ((10 * k) + 3)) (xs ((10 * k) + 4))) (lj (xs ((10 * k) + 5)) (xs ((10 * k) + 6))) (lj (xs ((10 * k) + 7)) (xs ((10 * k) + 8))) 128).1), .long ((gst (lj (xs ((10 * k) + 1)) (xs ((10 * k) + 2))) (lj (xs ((10 * k) + 3)) (xs ((10 * k) + 4))) (lj (xs ((10 * k) + 5)) (xs ((10 * k) + 6))) (lj (xs ((10 * k) + 7)) (xs ((10 * k) + 8))) 128).2.1)]))] H := hP
    have hD : va_D A [(qc, .inr (0, [.ref qs, .ref qu, .ref qw, .ref qb, .ref qe])), (qs, .inl (ks, 256, .inl (nF SBN))), (qu, .inl (ku, 256, .inl (nF UBN))), (qw, .inl (kw, 44, .inl w)), (qb, .inl (kb, 16, .inl (nF b))), (qe, .inl (ke, 16, .inl (nF z))), (qa, .inl (ka, 48, .inl (nF ab))), (qt, .inl (kt, 96, .inl (nF tb))), (qm, .inl (km, 16, .inl (nF mk))), (o, .inr (3, [.int th, .int (nI ph), .int (zI og), .ref rx, .ref rk, .ref rw, .ref rb, .ref rn, .long mh, .long ml, .long nh, .int nr, .int (nI pa), .ref rd, .int (nI nt), .ref rg, .long u1, .long u2])), (rx, .inl (jx, 256, .inl (nF SBN))), (rk, .inl (jk, 256, .inl (nF UBN))), (rw, .inl (jw, 44, .inl w)), (rb, .inl (jb, 16, .inl (nF b2))), (rn, .inl (jn, 16, .inl (nF z2))), (rd, .inl (jd, 48, .inl (nF bd))), (rg, .inl (jg, 96, .inl (nF gv))), (qo, .inl (ko, 1, .inr (.inl ou))), (x, .inr (2, [.ref qc, .ref qg, .ref qa, .ref qt, .ref qm, .int (nI ph), .int (zI og), .long nh, .int nr, .int (nI na), .int (nI nt), .int mb, .long t1, .long t2])), (qg, .inr (1, [.long ((gst (lj (xs ((10 * k) + 1)) (xs ((10 * k) + 2))) (lj (xs ((10 * k) + 3)) (xs ((10 * k) + 4))) (lj (xs ((10 * k) + 5)) (xs ((10 * k) + 6))) (lj (xs ((10 * k) + 7)) (xs ((10 * k) + 8))) 128).1), .long ((gst (lj (xs ((10 * k) + 1)) (xs ((10 * k) + 2))) (lj (xs ((10 * k) + 3)) (xs ((10 * k) + 4))) (lj (xs ((10 * k) + 5)) (xs ((10 * k) + 6))) (lj (xs ((10 * k) + 7)) (xs ((10 * k) + 8))) 128).2.1)]))] := hD
    refine W.widen (k := 21 + k) (n := 1775 + 6 * k) (by show 21 + k + 0 ≤ 21 + k; omega) (by show 1775 + 6 * k + 0 ≤ 1775 + 6 * k; omega) ?_
    refine w_pc (pc2 := 637) rfl ?_
    refine lv_aload_n hx hb dL_law_637 rfl (lv_at hl 2 rfl) ?_
    refine lv_aload_n hx hb dL_law_638 rfl (lv_at hl 0 rfl) ?_
    refine lv_iload hx hb dL_law_639 (lv_at hl 4 rfl) ?_
    refine lv_iconst (v := nI 1) hx hb dL_law_641 (by decide) ?_
    refine lv_iadd hx hb dL_law_642 (top_i (nI_add _ _) ?_)
    refine va_sln (v := xs ((10 * k) + 1)) hx hb hX hbl hbA hS (by omega) hL (rfl) dL_law_643 ?_
    refine lv_i2l hx hb dL_law_644 rfl ?_
    refine lv_bipush (v := nI 32) hx hb dL_law_645 (by decide) ?_
    refine lv_lshl hx hb dL_law_647 rfl ?_
    refine lv_aload_n hx hb dL_law_648 rfl (lv_at hl 0 rfl) ?_
    refine lv_iload hx hb dL_law_649 (lv_at hl 4 rfl) ?_
    refine lv_iconst (v := nI 2) hx hb dL_law_651 (by decide) ?_
    refine w_pc (pc2 := 652) rfl ?_
    refine lv_iadd hx hb dL_law_652 (top_i (nI_add _ _) ?_)
    refine va_sln (v := xs ((10 * k) + 2)) hx hb hX hbl hbA hS (by omega) hL (rfl) dL_law_653 ?_
    refine lv_i2l hx hb dL_law_654 rfl ?_
    refine lv_ldc2 (v := 4294967295) hx hb hown (hta _ mw_631) dL_law_655 ?_
    refine top_l (y := lN 4294967295) (by decide) ?_
    refine lv_land hx hb dL_law_658 ?_
    refine lv_lor hx hb dL_law_659 ?_
    refine top_l (y := lj (xs ((10 * k) + 1)) (xs ((10 * k) + 2))) rfl ?_
    refine lv_aload_n hx hb dL_law_660 rfl (lv_at hl 0 rfl) ?_
    refine lv_iload hx hb dL_law_661 (lv_at hl 4 rfl) ?_
    refine lv_iconst (v := nI 3) hx hb dL_law_663 (by decide) ?_
    refine lv_iadd hx hb dL_law_664 (top_i (nI_add _ _) ?_)
    refine va_sln (v := xs ((10 * k) + 3)) hx hb hX hbl hbA hS (by omega) hL (rfl) dL_law_665 ?_
    refine lv_i2l hx hb dL_law_666 rfl ?_
    refine w_pc (pc2 := 667) rfl ?_
    refine lv_bipush (v := nI 32) hx hb dL_law_667 (by decide) ?_
    refine lv_lshl hx hb dL_law_669 rfl ?_
    refine lv_aload_n hx hb dL_law_670 rfl (lv_at hl 0 rfl) ?_
    refine lv_iload hx hb dL_law_671 (lv_at hl 4 rfl) ?_
    refine lv_iconst (v := nI 4) hx hb dL_law_673 (by decide) ?_
    refine lv_iadd hx hb dL_law_674 (top_i (nI_add _ _) ?_)
    refine va_sln (v := xs ((10 * k) + 4)) hx hb hX hbl hbA hS (by omega) hL (rfl) dL_law_675 ?_
    refine lv_i2l hx hb dL_law_676 rfl ?_
    refine lv_ldc2 (v := 4294967295) hx hb hown (hta _ mw_631) dL_law_677 ?_
    refine top_l (y := lN 4294967295) (by decide) ?_
    refine lv_land hx hb dL_law_680 ?_
    refine lv_lor hx hb dL_law_681 ?_
    refine top_l (y := lj (xs ((10 * k) + 3)) (xs ((10 * k) + 4))) rfl ?_
    refine lv_aload_n hx hb dL_law_682 rfl (lv_at hl 0 rfl) ?_
    refine w_pc (pc2 := 683) rfl ?_
    refine lv_iload hx hb dL_law_683 (lv_at hl 4 rfl) ?_
    refine lv_iconst (v := nI 5) hx hb dL_law_685 (by decide) ?_
    refine lv_iadd hx hb dL_law_686 (top_i (nI_add _ _) ?_)
    refine va_sln (v := xs ((10 * k) + 5)) hx hb hX hbl hbA hS (by omega) hL (rfl) dL_law_687 ?_
    refine lv_i2l hx hb dL_law_688 rfl ?_
    refine lv_bipush (v := nI 32) hx hb dL_law_689 (by decide) ?_
    refine lv_lshl hx hb dL_law_691 rfl ?_
    refine lv_aload_n hx hb dL_law_692 rfl (lv_at hl 0 rfl) ?_
    refine lv_iload hx hb dL_law_693 (lv_at hl 4 rfl) ?_
    refine lv_bipush (v := nI 6) hx hb dL_law_695 (by decide) ?_
    refine lv_iadd hx hb dL_law_697 (top_i (nI_add _ _) ?_)
    refine va_sln (v := xs ((10 * k) + 6)) hx hb hX hbl hbA hS (by omega) hL (rfl) dL_law_698 ?_
    refine w_pc (pc2 := 699) rfl ?_
    refine lv_i2l hx hb dL_law_699 rfl ?_
    refine lv_ldc2 (v := 4294967295) hx hb hown (hta _ mw_631) dL_law_700 ?_
    refine top_l (y := lN 4294967295) (by decide) ?_
    refine lv_land hx hb dL_law_703 ?_
    refine lv_lor hx hb dL_law_704 ?_
    refine top_l (y := lj (xs ((10 * k) + 5)) (xs ((10 * k) + 6))) rfl ?_
    refine lv_aload_n hx hb dL_law_705 rfl (lv_at hl 0 rfl) ?_
    refine lv_iload hx hb dL_law_706 (lv_at hl 4 rfl) ?_
    refine lv_bipush (v := nI 7) hx hb dL_law_708 (by decide) ?_
    refine lv_iadd hx hb dL_law_710 (top_i (nI_add _ _) ?_)
    refine va_sln (v := xs ((10 * k) + 7)) hx hb hX hbl hbA hS (by omega) hL (rfl) dL_law_711 ?_
    refine lv_i2l hx hb dL_law_712 rfl ?_
    refine lv_bipush (v := nI 32) hx hb dL_law_713 (by decide) ?_
    refine lv_lshl hx hb dL_law_715 rfl ?_
    refine w_pc (pc2 := 716) rfl ?_
    refine lv_aload_n hx hb dL_law_716 rfl (lv_at hl 0 rfl) ?_
    refine lv_iload hx hb dL_law_717 (lv_at hl 4 rfl) ?_
    refine lv_bipush (v := nI 8) hx hb dL_law_719 (by decide) ?_
    refine lv_iadd hx hb dL_law_721 (top_i (nI_add _ _) ?_)
    refine va_sln (v := xs ((10 * k) + 8)) hx hb hX hbl hbA hS (by omega) hL (rfl) dL_law_722 ?_
    refine lv_i2l hx hb dL_law_723 rfl ?_
    refine lv_ldc2 (v := 4294967295) hx hb hown (hta _ mw_631) dL_law_724 ?_
    refine top_l (y := lN 4294967295) (by decide) ?_
    refine lv_land hx hb dL_law_727 ?_
    refine lv_lor hx hb dL_law_728 ?_
    refine top_l (y := lj (xs ((10 * k) + 7)) (xs ((10 * k) + 8))) rfl ?_
    refine lv_aload_n hx hb dL_law_729 rfl (lv_at hl 0 rfl) ?_
    refine lv_iload hx hb dL_law_730 (lv_at hl 4 rfl) ?_
    refine lv_bipush (v := nI 9) hx hb dL_law_732 (by decide) ?_
    refine w_pc (pc2 := 734) rfl ?_
    refine lv_iadd hx hb dL_law_734 (top_i (nI_add _ _) ?_)
    refine va_sln (v := xs ((10 * k) + 9)) hx hb hX hbl hbA hS (by omega) hL (rfl) dL_law_735 ?_
    refine lv_if_eq (tgt := 743) hx hb dL_law_736 (by decide) (fun hc_736 => ?_) (fun hc_736 => ?_)
    · skip
      refine lv_iconst (v := nI 0) hx hb dL_law_743 (by decide) ?_
      refine cf_1 (wr := [(qc, .inr (0, [.ref qs, .ref qu, .ref qw, .ref qb, .ref qe])), (qs, .inl (ks, 256, .inl (nF SBN))), (qu, .inl (ku, 256, .inl (nF UBN))), (qw, .inl (kw, 44, .inl w)), (qb, .inl (kb, 16, .inl (nF b))), (qe, .inl (ke, 16, .inl (nF z))), (qa, .inl (ka, 48, .inl (nF ab))), (qt, .inl (kt, 96, .inl (nF tb))), (qm, .inl (km, 16, .inl (nF mk))), (rx, .inl (jx, 256, .inl (nF SBN))), (rk, .inl (jk, 256, .inl (nF UBN))), (rw, .inl (jw, 44, .inl w)), (rb, .inl (jb, 16, .inl (nF b2))), (rn, .inl (jn, 16, .inl (nF z2))), (rd, .inl (jd, 48, .inl (nF bd))), (rg, .inl (jg, 96, .inl (nF gv))), (qo, .inl (ko, 1, .inr (.inl ou))), (x, .inr (2, [.ref qc, .ref qg, .ref qa, .ref qt, .ref qm, .int (nI ph), .int (zI og), .long nh, .int nr, .int (nI na), .int (nI nt), .int mb, .long t1, .long t2])), (qg, .inr (1, [.long ((gst (lj (xs ((10 * k) + 1)) (xs ((10 * k) + 2))) (lj (xs ((10 * k) + 3)) (xs ((10 * k) + 4))) (lj (xs ((10 * k) + 5)) (xs ((10 * k) + 6))) (lj (xs ((10 * k) + 7)) (xs ((10 * k) + 8))) 128).1), .long ((gst (lj (xs ((10 * k) + 1)) (xs ((10 * k) + 2))) (lj (xs ((10 * k) + 3)) (xs ((10 * k) + 4))) (lj (xs ((10 * k) + 5)) (xs ((10 * k) + 6))) (lj (xs ((10 * k) + 7)) (xs ((10 * k) + 8))) 128).2.1)]))]) (va_runV (As := [.long (lj (xs ((10 * k) + 1)) (xs ((10 * k) + 2))), .long (lj (xs ((10 * k) + 3)) (xs ((10 * k) + 4))), .long (lj (xs ((10 * k) + 5)) (xs ((10 * k) + 6))), .long (lj (xs ((10 * k) + 7)) (xs ((10 * k) + 8))), .int (nI 0)]) (rest := [.long (if false then (gst (lj (xs ((10 * k) + 1)) (xs ((10 * k) + 2))) (lj (xs ((10 * k) + 3)) (xs ((10 * k) + 4))) (lj (xs ((10 * k) + 5)) (xs ((10 * k) + 6))) (lj (xs ((10 * k) + 7)) (xs ((10 * k) + 8))) 128).2.1 else (gst (lj (xs ((10 * k) + 1)) (xs ((10 * k) + 2))) (lj (xs ((10 * k) + 3)) (xs ((10 * k) + 4))) (lj (xs ((10 * k) + 5)) (xs ((10 * k) + 6))) (lj (xs ((10 * k) + 7)) (xs ((10 * k) + 8))) 128).1)]) ⟨hx, hb, hml, hown, hta⟩ (MO.to (m_product l dC dI o th ph og rx rk rw rb rn mh ml nh nr pa rd nt rg u1 u2 (lj (xs ((10 * k) + 1)) (xs ((10 * k) + 2))) (lj (xs ((10 * k) + 3)) (xs ((10 * k) + 4))) (lj (xs ((10 * k) + 5)) (xs ((10 * k) + 6))) (lj (xs ((10 * k) + 7)) (xs ((10 * k) + 8))) false) H.size) (cwV 5 hta (aw_V mw_564 mw_561 mw_562 mw_563 mw_5) rfl rfl rfl ⟨rfl, dyX3_product⟩ ⟨(Nat.le_of_ble_eq_true rfl), (Nat.le_of_ble_eq_true rfl)⟩) (pr_V hP hD hK hE [9] [] (by decide) rfl rfl rfl rfl) rfl rfl hl.1 rfl (lv_room (Nat.le_of_ble_eq_true rfl)) dL_law_744 ⟨by show 21 + k + 0 ≤ 601024; omega, by show 1775 + 6 * k + 0 ≤ 7293034; omega⟩) hP hD hS hA [9] [0, 1, 2, 3, 4, 5, 6, 7, 8, 10, 11, 12, 13, 14, 15, 16, 17, 18, 19] rfl rfl (by decide) (by decide) (fun H locs hP hD hS => ?_)
      have hP : va_P (dC, dI) vwCl [(qc, .inr (0, [.ref qs, .ref qu, .ref qw, .ref qb, .ref qe])), (qs, .inl (ks, 256, .inl (nF SBN))), (qu, .inl (ku, 256, .inl (nF UBN))), (qw, .inl (kw, 44, .inl w)), (qb, .inl (kb, 16, .inl (nF b))), (qe, .inl (ke, 16, .inl (nF z))), (qa, .inl (ka, 48, .inl (nF ab))), (qt, .inl (kt, 96, .inl (nF tb))), (qm, .inl (km, 16, .inl (nF mk))), (rx, .inl (jx, 256, .inl (nF SBN))), (rk, .inl (jk, 256, .inl (nF UBN))), (rw, .inl (jw, 44, .inl w)), (rb, .inl (jb, 16, .inl (nF b2))), (rn, .inl (jn, 16, .inl (nF z2))), (rd, .inl (jd, 48, .inl (nF bd))), (rg, .inl (jg, 96, .inl (nF gv))), (qo, .inl (ko, 1, .inr (.inl ou))), (x, .inr (2, [.ref qc, .ref qg, .ref qa, .ref qt, .ref qm, .int (nI ph), .int (zI og), .long nh, .int nr, .int (nI na), .int (nI nt), .int mb, .long t1, .long t2])), (qg, .inr (1, [.long ((gst (lj (xs ((10 * k) + 1)) (xs ((10 * k) + 2))) (lj (xs ((10 * k) + 3)) (xs ((10 * k) + 4))) (lj (xs ((10 * k) + 5)) (xs ((10 * k) + 6))) (lj (xs ((10 * k) + 7)) (xs ((10 * k) + 8))) 128).1), .long ((gst (lj (xs ((10 * k) + 1)) (xs ((10 * k) + 2))) (lj (xs ((10 * k) + 3)) (xs ((10 * k) + 4))) (lj (xs ((10 * k) + 5)) (xs ((10 * k) + 6))) (lj (xs ((10 * k) + 7)) (xs ((10 * k) + 8))) 128).2.1)])), (o, .inr (3, [.int (nI 0), .int (nI ph), .int (zI og), .ref rx, .ref rk, .ref rw, .ref rb, .ref rn, .long ((gst (lj (xs ((10 * k) + 1)) (xs ((10 * k) + 2))) (lj (xs ((10 * k) + 3)) (xs ((10 * k) + 4))) (lj (xs ((10 * k) + 5)) (xs ((10 * k) + 6))) (lj (xs ((10 * k) + 7)) (xs ((10 * k) + 8))) 128).1), .long ((gst (lj (xs ((10 * k) + 1)) (xs ((10 * k) + 2))) (lj (xs ((10 * k) + 3)) (xs ((10 * k) + 4))) (lj (xs ((10 * k) + 5)) (xs ((10 * k) + 6))) (lj (xs ((10 * k) + 7)) (xs ((10 * k) + 8))) 128).2.1), .long nh, .int nr, .int (nI pa), .ref rd, .int (nI nt), .ref rg, .long u1, .long u2]))] H := hP
      have hD : va_D A [(qc, .inr (0, [.ref qs, .ref qu, .ref qw, .ref qb, .ref qe])), (qs, .inl (ks, 256, .inl (nF SBN))), (qu, .inl (ku, 256, .inl (nF UBN))), (qw, .inl (kw, 44, .inl w)), (qb, .inl (kb, 16, .inl (nF b))), (qe, .inl (ke, 16, .inl (nF z))), (qa, .inl (ka, 48, .inl (nF ab))), (qt, .inl (kt, 96, .inl (nF tb))), (qm, .inl (km, 16, .inl (nF mk))), (rx, .inl (jx, 256, .inl (nF SBN))), (rk, .inl (jk, 256, .inl (nF UBN))), (rw, .inl (jw, 44, .inl w)), (rb, .inl (jb, 16, .inl (nF b2))), (rn, .inl (jn, 16, .inl (nF z2))), (rd, .inl (jd, 48, .inl (nF bd))), (rg, .inl (jg, 96, .inl (nF gv))), (qo, .inl (ko, 1, .inr (.inl ou))), (x, .inr (2, [.ref qc, .ref qg, .ref qa, .ref qt, .ref qm, .int (nI ph), .int (zI og), .long nh, .int nr, .int (nI na), .int (nI nt), .int mb, .long t1, .long t2])), (qg, .inr (1, [.long ((gst (lj (xs ((10 * k) + 1)) (xs ((10 * k) + 2))) (lj (xs ((10 * k) + 3)) (xs ((10 * k) + 4))) (lj (xs ((10 * k) + 5)) (xs ((10 * k) + 6))) (lj (xs ((10 * k) + 7)) (xs ((10 * k) + 8))) 128).1), .long ((gst (lj (xs ((10 * k) + 1)) (xs ((10 * k) + 2))) (lj (xs ((10 * k) + 3)) (xs ((10 * k) + 4))) (lj (xs ((10 * k) + 5)) (xs ((10 * k) + 6))) (lj (xs ((10 * k) + 7)) (xs ((10 * k) + 8))) 128).2.1)])), (o, .inr (3, [.int (nI 0), .int (nI ph), .int (zI og), .ref rx, .ref rk, .ref rw, .ref rb, .ref rn, .long ((gst (lj (xs ((10 * k) + 1)) (xs ((10 * k) + 2))) (lj (xs ((10 * k) + 3)) (xs ((10 * k) + 4))) (lj (xs ((10 * k) + 5)) (xs ((10 * k) + 6))) (lj (xs ((10 * k) + 7)) (xs ((10 * k) + 8))) 128).1), .long ((gst (lj (xs ((10 * k) + 1)) (xs ((10 * k) + 2))) (lj (xs ((10 * k) + 3)) (xs ((10 * k) + 4))) (lj (xs ((10 * k) + 5)) (xs ((10 * k) + 6))) (lj (xs ((10 * k) + 7)) (xs ((10 * k) + 8))) 128).2.1), .long nh, .int nr, .int (nI pa), .ref rd, .int (nI nt), .ref rg, .long u1, .long u2]))] := hD
      refine W.widen (k := 21 + k) (n := 1775 + 6 * k) (by show 21 + k + 0 ≤ 21 + k; omega) (by show 1775 + 6 * k + 0 ≤ 1775 + 6 * k; omega) ?_
      refine w_pc (pc2 := 747) rfl ?_
      refine W.lcmp hx hb dL_law_747 ?_
      refine top_i (y := nI 0) (cmpx.mpr (rfl)) ?_
      refine lv_if_eq (tgt := 1352) hx hb dL_law_748 (by decide) (fun hc_748 => ?_) (fun hc_748 => ?_)
      · skip
        have hc_748 := (ix_eq (a := 0) (b := 0) (by omega) (by omega)).mp hc_748
        have hc_748 : (0 = 0) := hc_748
        refine lv_iinc (v := nI (10 * (k + 1))) (k := 4) hx hb dL_law_1352 hl rfl ((ix_inc _ 10).trans (congrArg nI (by omega))) (by decide) rfl (fun ls hl => ?_)
        have hl : lv_has ls 8 [(4, .int (nI (10 * (k + 1)))), (0, .ref sa), (1, .ref x), (2, .ref o), (3, .ref qo)] := hl
        refine lv_goto (tgt := 23) hx hb dL_law_1355 (by decide) ?_
        refine W.widen (k := 21 + (k + 1)) (n := 1775 + 6 * (k + 1)) (by omega) (by omega) ?_
        exact hd w b z mk ab tb ((gst (lj (xs ((10 * k) + 1)) (xs ((10 * k) + 2))) (lj (xs ((10 * k) + 3)) (xs ((10 * k) + 4))) (lj (xs ((10 * k) + 5)) (xs ((10 * k) + 6))) (lj (xs ((10 * k) + 7)) (xs ((10 * k) + 8))) 128).1) ((gst (lj (xs ((10 * k) + 1)) (xs ((10 * k) + 2))) (lj (xs ((10 * k) + 3)) (xs ((10 * k) + 4))) (lj (xs ((10 * k) + 5)) (xs ((10 * k) + 6))) (lj (xs ((10 * k) + 7)) (xs ((10 * k) + 8))) 128).2.1) ph og nh nr na nt mb t1 t2 (nI 0) b2 z2 bd gv ((gst (lj (xs ((10 * k) + 1)) (xs ((10 * k) + 2))) (lj (xs ((10 * k) + 3)) (xs ((10 * k) + 4))) (lj (xs ((10 * k) + 5)) (xs ((10 * k) + 6))) (lj (xs ((10 * k) + 7)) (xs ((10 * k) + 8))) 128).1) ((gst (lj (xs ((10 * k) + 1)) (xs ((10 * k) + 2))) (lj (xs ((10 * k) + 3)) (xs ((10 * k) + 4))) (lj (xs ((10 * k) + 5)) (xs ((10 * k) + 6))) (lj (xs ((10 * k) + 7)) (xs ((10 * k) + 8))) 128).2.1) u1 u2 pa ou ls H locs (hI9) (lv_sub hl [1, 2, 3, 4, 0] rfl) (hP.sub [17, 0, 1, 2, 3, 4, 5, 18, 6, 7, 8, 19, 9, 10, 11, 12, 13, 14, 15, 16] rfl) (hD.sub [17, 0, 1, 2, 3, 4, 5, 18, 6, 7, 8, 19, 9, 10, 11, 12, 13, 14, 15, 16] (by decide) rfl) hS
      · skip
        have hc_748 := (not_congr (ix_eq (a := 0) (b := 0) (by omega) (by omega))).mp hc_748
        have hc_748 : ¬ (0 = 0) := hc_748
        exfalso; omega
    · skip
      exact (by first | exact absurd hc_626 hc_736 | exact absurd hc_736 hc_626)
  · skip
    refine lv_iconst (v := nI 1) hx hb dL_law_629 (by decide) ?_
    refine lv_goto (tgt := 634) hx hb dL_law_630 (by decide) ?_
    refine cf_1 (wr := [(qc, .inr (0, [.ref qs, .ref qu, .ref qw, .ref qb, .ref qe])), (qs, .inl (ks, 256, .inl (nF SBN))), (qu, .inl (ku, 256, .inl (nF UBN))), (qw, .inl (kw, 44, .inl w)), (qb, .inl (kb, 16, .inl (nF b))), (qe, .inl (ke, 16, .inl (nF z))), (qa, .inl (ka, 48, .inl (nF ab))), (qt, .inl (kt, 96, .inl (nF tb))), (qm, .inl (km, 16, .inl (nF mk))), (o, .inr (3, [.int th, .int (nI ph), .int (zI og), .ref rx, .ref rk, .ref rw, .ref rb, .ref rn, .long mh, .long ml, .long nh, .int nr, .int (nI pa), .ref rd, .int (nI nt), .ref rg, .long u1, .long u2])), (rx, .inl (jx, 256, .inl (nF SBN))), (rk, .inl (jk, 256, .inl (nF UBN))), (rw, .inl (jw, 44, .inl w)), (rb, .inl (jb, 16, .inl (nF b2))), (rn, .inl (jn, 16, .inl (nF z2))), (rd, .inl (jd, 48, .inl (nF bd))), (rg, .inl (jg, 96, .inl (nF gv))), (qo, .inl (ko, 1, .inr (.inl ou)))]) (va_runV (As := [.long (lj (xs ((10 * k) + 1)) (xs ((10 * k) + 2))), .long (lj (xs ((10 * k) + 3)) (xs ((10 * k) + 4))), .long (lj (xs ((10 * k) + 5)) (xs ((10 * k) + 6))), .long (lj (xs ((10 * k) + 7)) (xs ((10 * k) + 8))), .int (nI 1)]) (rest := []) ⟨hx, hb, hml, hown, hta⟩ (MO.to (c_product l dC dI x qc qg qa qt qm ph og nh nr na nt mb t1 t2 yh yl (lj (xs ((10 * k) + 1)) (xs ((10 * k) + 2))) (lj (xs ((10 * k) + 3)) (xs ((10 * k) + 4))) (lj (xs ((10 * k) + 5)) (xs ((10 * k) + 6))) (lj (xs ((10 * k) + 7)) (xs ((10 * k) + 8))) true) H.size) (cwV 5 hta (aw_V mw_192 mw_189 mw_190 mw_191 mw_1) rfl rfl rfl ⟨rfl, dyX2_product⟩ ⟨(Nat.le_of_ble_eq_true rfl), (Nat.le_of_ble_eq_true rfl)⟩) (pr_V hP hD hK hE [0, 7] [] (by decide) rfl rfl rfl rfl) rfl rfl hl.1 rfl (lv_room (Nat.le_of_ble_eq_true rfl)) dL_law_634 ⟨by show 21 + k + 0 ≤ 601024; omega, by show 1775 + 6 * k + 0 ≤ 7293034; omega⟩) hP hD hS hA [0, 7] [1, 2, 3, 4, 5, 6, 8, 9, 10, 11, 12, 13, 14, 15, 16, 17, 18, 19] rfl rfl (by decide) (by decide) (fun H locs hP hD hS => ?_)
    have hP : va_P (dC, dI) vwCl [(qc, .inr (0, [.ref qs, .ref qu, .ref qw, .ref qb, .ref qe])), (qs, .inl (ks, 256, .inl (nF SBN))), (qu, .inl (ku, 256, .inl (nF UBN))), (qw, .inl (kw, 44, .inl w)), (qb, .inl (kb, 16, .inl (nF b))), (qe, .inl (ke, 16, .inl (nF z))), (qa, .inl (ka, 48, .inl (nF ab))), (qt, .inl (kt, 96, .inl (nF tb))), (qm, .inl (km, 16, .inl (nF mk))), (o, .inr (3, [.int th, .int (nI ph), .int (zI og), .ref rx, .ref rk, .ref rw, .ref rb, .ref rn, .long mh, .long ml, .long nh, .int nr, .int (nI pa), .ref rd, .int (nI nt), .ref rg, .long u1, .long u2])), (rx, .inl (jx, 256, .inl (nF SBN))), (rk, .inl (jk, 256, .inl (nF UBN))), (rw, .inl (jw, 44, .inl w)), (rb, .inl (jb, 16, .inl (nF b2))), (rn, .inl (jn, 16, .inl (nF z2))), (rd, .inl (jd, 48, .inl (nF bd))), (rg, .inl (jg, 96, .inl (nF gv))), (qo, .inl (ko, 1, .inr (.inl ou))), (x, .inr (2, [.ref qc, .ref qg, .ref qa, .ref qt, .ref qm, .int (nI ph), .int (zI og), .long nh, .int nr, .int (nI na), .int (nI nt), .int mb, .long t1, .long t2])), (qg, .inr (1, [.long ((gst (lj (xs ((10 * k) + 1)) (xs ((10 * k) + 2))) (lj (xs ((10 * k) + 3)) (xs ((10 * k) + 4))) (lj (xs ((10 * k) + 5)) (xs ((10 * k) + 6))) (lj (xs ((10 * k) + 7)) (xs ((10 * k) + 8))) 128).1), .long ((gst (lj (xs ((10 * k) + 1)) (xs ((10 * k) + 2))) (lj (xs ((10 * k) + 3)) (xs ((10 * k) + 4))) (lj (xs ((10 * k) + 5)) (xs ((10 * k) + 6))) (lj (xs ((10 * k) + 7)) (xs ((10 * k) + 8))) 128).2.1)]))] H := hP
    have hD : va_D A [(qc, .inr (0, [.ref qs, .ref qu, .ref qw, .ref qb, .ref qe])), (qs, .inl (ks, 256, .inl (nF SBN))), (qu, .inl (ku, 256, .inl (nF UBN))), (qw, .inl (kw, 44, .inl w)), (qb, .inl (kb, 16, .inl (nF b))), (qe, .inl (ke, 16, .inl (nF z))), (qa, .inl (ka, 48, .inl (nF ab))), (qt, .inl (kt, 96, .inl (nF tb))), (qm, .inl (km, 16, .inl (nF mk))), (o, .inr (3, [.int th, .int (nI ph), .int (zI og), .ref rx, .ref rk, .ref rw, .ref rb, .ref rn, .long mh, .long ml, .long nh, .int nr, .int (nI pa), .ref rd, .int (nI nt), .ref rg, .long u1, .long u2])), (rx, .inl (jx, 256, .inl (nF SBN))), (rk, .inl (jk, 256, .inl (nF UBN))), (rw, .inl (jw, 44, .inl w)), (rb, .inl (jb, 16, .inl (nF b2))), (rn, .inl (jn, 16, .inl (nF z2))), (rd, .inl (jd, 48, .inl (nF bd))), (rg, .inl (jg, 96, .inl (nF gv))), (qo, .inl (ko, 1, .inr (.inl ou))), (x, .inr (2, [.ref qc, .ref qg, .ref qa, .ref qt, .ref qm, .int (nI ph), .int (zI og), .long nh, .int nr, .int (nI na), .int (nI nt), .int mb, .long t1, .long t2])), (qg, .inr (1, [.long ((gst (lj (xs ((10 * k) + 1)) (xs ((10 * k) + 2))) (lj (xs ((10 * k) + 3)) (xs ((10 * k) + 4))) (lj (xs ((10 * k) + 5)) (xs ((10 * k) + 6))) (lj (xs ((10 * k) + 7)) (xs ((10 * k) + 8))) 128).1), .long ((gst (lj (xs ((10 * k) + 1)) (xs ((10 * k) + 2))) (lj (xs ((10 * k) + 3)) (xs ((10 * k) + 4))) (lj (xs ((10 * k) + 5)) (xs ((10 * k) + 6))) (lj (xs ((10 * k) + 7)) (xs ((10 * k) + 8))) 128).2.1)]))] := hD
    refine W.widen (k := 21 + k) (n := 1775 + 6 * k) (by show 21 + k + 0 ≤ 21 + k; omega) (by show 1775 + 6 * k + 0 ≤ 1775 + 6 * k; omega) ?_
    refine w_pc (pc2 := 637) rfl ?_
    refine lv_aload_n hx hb dL_law_637 rfl (lv_at hl 2 rfl) ?_
    refine lv_aload_n hx hb dL_law_638 rfl (lv_at hl 0 rfl) ?_
    refine lv_iload hx hb dL_law_639 (lv_at hl 4 rfl) ?_
    refine lv_iconst (v := nI 1) hx hb dL_law_641 (by decide) ?_
    refine lv_iadd hx hb dL_law_642 (top_i (nI_add _ _) ?_)
    refine va_sln (v := xs ((10 * k) + 1)) hx hb hX hbl hbA hS (by omega) hL (rfl) dL_law_643 ?_
    refine lv_i2l hx hb dL_law_644 rfl ?_
    refine lv_bipush (v := nI 32) hx hb dL_law_645 (by decide) ?_
    refine lv_lshl hx hb dL_law_647 rfl ?_
    refine lv_aload_n hx hb dL_law_648 rfl (lv_at hl 0 rfl) ?_
    refine lv_iload hx hb dL_law_649 (lv_at hl 4 rfl) ?_
    refine lv_iconst (v := nI 2) hx hb dL_law_651 (by decide) ?_
    refine w_pc (pc2 := 652) rfl ?_
    refine lv_iadd hx hb dL_law_652 (top_i (nI_add _ _) ?_)
    refine va_sln (v := xs ((10 * k) + 2)) hx hb hX hbl hbA hS (by omega) hL (rfl) dL_law_653 ?_
    refine lv_i2l hx hb dL_law_654 rfl ?_
    refine lv_ldc2 (v := 4294967295) hx hb hown (hta _ mw_631) dL_law_655 ?_
    refine top_l (y := lN 4294967295) (by decide) ?_
    refine lv_land hx hb dL_law_658 ?_
    refine lv_lor hx hb dL_law_659 ?_
    refine top_l (y := lj (xs ((10 * k) + 1)) (xs ((10 * k) + 2))) rfl ?_
    refine lv_aload_n hx hb dL_law_660 rfl (lv_at hl 0 rfl) ?_
    refine lv_iload hx hb dL_law_661 (lv_at hl 4 rfl) ?_
    refine lv_iconst (v := nI 3) hx hb dL_law_663 (by decide) ?_
    refine lv_iadd hx hb dL_law_664 (top_i (nI_add _ _) ?_)
    refine va_sln (v := xs ((10 * k) + 3)) hx hb hX hbl hbA hS (by omega) hL (rfl) dL_law_665 ?_
    refine lv_i2l hx hb dL_law_666 rfl ?_
    refine w_pc (pc2 := 667) rfl ?_
    refine lv_bipush (v := nI 32) hx hb dL_law_667 (by decide) ?_
    refine lv_lshl hx hb dL_law_669 rfl ?_
    refine lv_aload_n hx hb dL_law_670 rfl (lv_at hl 0 rfl) ?_
    refine lv_iload hx hb dL_law_671 (lv_at hl 4 rfl) ?_
    refine lv_iconst (v := nI 4) hx hb dL_law_673 (by decide) ?_
    refine lv_iadd hx hb dL_law_674 (top_i (nI_add _ _) ?_)
    refine va_sln (v := xs ((10 * k) + 4)) hx hb hX hbl hbA hS (by omega) hL (rfl) dL_law_675 ?_
    refine lv_i2l hx hb dL_law_676 rfl ?_
    refine lv_ldc2 (v := 4294967295) hx hb hown (hta _ mw_631) dL_law_677 ?_
    refine top_l (y := lN 4294967295) (by decide) ?_
    refine lv_land hx hb dL_law_680 ?_
    refine lv_lor hx hb dL_law_681 ?_
    refine top_l (y := lj (xs ((10 * k) + 3)) (xs ((10 * k) + 4))) rfl ?_
    refine lv_aload_n hx hb dL_law_682 rfl (lv_at hl 0 rfl) ?_
    refine w_pc (pc2 := 683) rfl ?_
    refine lv_iload hx hb dL_law_683 (lv_at hl 4 rfl) ?_
    refine lv_iconst (v := nI 5) hx hb dL_law_685 (by decide) ?_
    refine lv_iadd hx hb dL_law_686 (top_i (nI_add _ _) ?_)
    refine va_sln (v := xs ((10 * k) + 5)) hx hb hX hbl hbA hS (by omega) hL (rfl) dL_law_687 ?_
    refine lv_i2l hx hb dL_law_688 rfl ?_
    refine lv_bipush (v := nI 32) hx hb dL_law_689 (by decide) ?_
    refine lv_lshl hx hb dL_law_691 rfl ?_
    refine lv_aload_n hx hb dL_law_692 rfl (lv_at hl 0 rfl) ?_
    refine lv_iload hx hb dL_law_693 (lv_at hl 4 rfl) ?_
    refine lv_bipush (v := nI 6) hx hb dL_law_695 (by decide) ?_
    refine lv_iadd hx hb dL_law_697 (top_i (nI_add _ _) ?_)
    refine va_sln (v := xs ((10 * k) + 6)) hx hb hX hbl hbA hS (by omega) hL (rfl) dL_law_698 ?_
    refine w_pc (pc2 := 699) rfl ?_
    refine lv_i2l hx hb dL_law_699 rfl ?_
    refine lv_ldc2 (v := 4294967295) hx hb hown (hta _ mw_631) dL_law_700 ?_
    refine top_l (y := lN 4294967295) (by decide) ?_
    refine lv_land hx hb dL_law_703 ?_
    refine lv_lor hx hb dL_law_704 ?_
    refine top_l (y := lj (xs ((10 * k) + 5)) (xs ((10 * k) + 6))) rfl ?_
    refine lv_aload_n hx hb dL_law_705 rfl (lv_at hl 0 rfl) ?_
    refine lv_iload hx hb dL_law_706 (lv_at hl 4 rfl) ?_
    refine lv_bipush (v := nI 7) hx hb dL_law_708 (by decide) ?_
    refine lv_iadd hx hb dL_law_710 (top_i (nI_add _ _) ?_)
    refine va_sln (v := xs ((10 * k) + 7)) hx hb hX hbl hbA hS (by omega) hL (rfl) dL_law_711 ?_
    refine lv_i2l hx hb dL_law_712 rfl ?_
    refine lv_bipush (v := nI 32) hx hb dL_law_713 (by decide) ?_
    refine lv_lshl hx hb dL_law_715 rfl ?_
    refine w_pc (pc2 := 716) rfl ?_
    refine lv_aload_n hx hb dL_law_716 rfl (lv_at hl 0 rfl) ?_
    refine lv_iload hx hb dL_law_717 (lv_at hl 4 rfl) ?_
    refine lv_bipush (v := nI 8) hx hb dL_law_719 (by decide) ?_
    refine lv_iadd hx hb dL_law_721 (top_i (nI_add _ _) ?_)
    refine va_sln (v := xs ((10 * k) + 8)) hx hb hX hbl hbA hS (by omega) hL (rfl) dL_law_722 ?_
    refine lv_i2l hx hb dL_law_723 rfl ?_
    refine lv_ldc2 (v := 4294967295) hx hb hown (hta _ mw_631) dL_law_724 ?_
    refine top_l (y := lN 4294967295) (by decide) ?_
    refine lv_land hx hb dL_law_727 ?_
    refine lv_lor hx hb dL_law_728 ?_
    refine top_l (y := lj (xs ((10 * k) + 7)) (xs ((10 * k) + 8))) rfl ?_
    refine lv_aload_n hx hb dL_law_729 rfl (lv_at hl 0 rfl) ?_
    refine lv_iload hx hb dL_law_730 (lv_at hl 4 rfl) ?_
    refine lv_bipush (v := nI 9) hx hb dL_law_732 (by decide) ?_
    refine w_pc (pc2 := 734) rfl ?_
    refine lv_iadd hx hb dL_law_734 (top_i (nI_add _ _) ?_)
    refine va_sln (v := xs ((10 * k) + 9)) hx hb hX hbl hbA hS (by omega) hL (rfl) dL_law_735 ?_
    refine lv_if_eq (tgt := 743) hx hb dL_law_736 (by decide) (fun hc_736 => ?_) (fun hc_736 => ?_)
    · skip
      exact (by first | exact absurd hc_626 hc_736 | exact absurd hc_736 hc_626)
    · skip
      refine lv_iconst (v := nI 1) hx hb dL_law_739 (by decide) ?_
      refine lv_goto (tgt := 744) hx hb dL_law_740 (by decide) ?_
      refine cf_1 (wr := [(qc, .inr (0, [.ref qs, .ref qu, .ref qw, .ref qb, .ref qe])), (qs, .inl (ks, 256, .inl (nF SBN))), (qu, .inl (ku, 256, .inl (nF UBN))), (qw, .inl (kw, 44, .inl w)), (qb, .inl (kb, 16, .inl (nF b))), (qe, .inl (ke, 16, .inl (nF z))), (qa, .inl (ka, 48, .inl (nF ab))), (qt, .inl (kt, 96, .inl (nF tb))), (qm, .inl (km, 16, .inl (nF mk))), (rx, .inl (jx, 256, .inl (nF SBN))), (rk, .inl (jk, 256, .inl (nF UBN))), (rw, .inl (jw, 44, .inl w)), (rb, .inl (jb, 16, .inl (nF b2))), (rn, .inl (jn, 16, .inl (nF z2))), (rd, .inl (jd, 48, .inl (nF bd))), (rg, .inl (jg, 96, .inl (nF gv))), (qo, .inl (ko, 1, .inr (.inl ou))), (x, .inr (2, [.ref qc, .ref qg, .ref qa, .ref qt, .ref qm, .int (nI ph), .int (zI og), .long nh, .int nr, .int (nI na), .int (nI nt), .int mb, .long t1, .long t2])), (qg, .inr (1, [.long ((gst (lj (xs ((10 * k) + 1)) (xs ((10 * k) + 2))) (lj (xs ((10 * k) + 3)) (xs ((10 * k) + 4))) (lj (xs ((10 * k) + 5)) (xs ((10 * k) + 6))) (lj (xs ((10 * k) + 7)) (xs ((10 * k) + 8))) 128).1), .long ((gst (lj (xs ((10 * k) + 1)) (xs ((10 * k) + 2))) (lj (xs ((10 * k) + 3)) (xs ((10 * k) + 4))) (lj (xs ((10 * k) + 5)) (xs ((10 * k) + 6))) (lj (xs ((10 * k) + 7)) (xs ((10 * k) + 8))) 128).2.1)]))]) (va_runV (As := [.long (lj (xs ((10 * k) + 1)) (xs ((10 * k) + 2))), .long (lj (xs ((10 * k) + 3)) (xs ((10 * k) + 4))), .long (lj (xs ((10 * k) + 5)) (xs ((10 * k) + 6))), .long (lj (xs ((10 * k) + 7)) (xs ((10 * k) + 8))), .int (nI 1)]) (rest := [.long (if true then (gst (lj (xs ((10 * k) + 1)) (xs ((10 * k) + 2))) (lj (xs ((10 * k) + 3)) (xs ((10 * k) + 4))) (lj (xs ((10 * k) + 5)) (xs ((10 * k) + 6))) (lj (xs ((10 * k) + 7)) (xs ((10 * k) + 8))) 128).2.1 else (gst (lj (xs ((10 * k) + 1)) (xs ((10 * k) + 2))) (lj (xs ((10 * k) + 3)) (xs ((10 * k) + 4))) (lj (xs ((10 * k) + 5)) (xs ((10 * k) + 6))) (lj (xs ((10 * k) + 7)) (xs ((10 * k) + 8))) 128).1)]) ⟨hx, hb, hml, hown, hta⟩ (MO.to (m_product l dC dI o th ph og rx rk rw rb rn mh ml nh nr pa rd nt rg u1 u2 (lj (xs ((10 * k) + 1)) (xs ((10 * k) + 2))) (lj (xs ((10 * k) + 3)) (xs ((10 * k) + 4))) (lj (xs ((10 * k) + 5)) (xs ((10 * k) + 6))) (lj (xs ((10 * k) + 7)) (xs ((10 * k) + 8))) true) H.size) (cwV 5 hta (aw_V mw_564 mw_561 mw_562 mw_563 mw_5) rfl rfl rfl ⟨rfl, dyX3_product⟩ ⟨(Nat.le_of_ble_eq_true rfl), (Nat.le_of_ble_eq_true rfl)⟩) (pr_V hP hD hK hE [9] [] (by decide) rfl rfl rfl rfl) rfl rfl hl.1 rfl (lv_room (Nat.le_of_ble_eq_true rfl)) dL_law_744 ⟨by show 21 + k + 0 ≤ 601024; omega, by show 1775 + 6 * k + 0 ≤ 7293034; omega⟩) hP hD hS hA [9] [0, 1, 2, 3, 4, 5, 6, 7, 8, 10, 11, 12, 13, 14, 15, 16, 17, 18, 19] rfl rfl (by decide) (by decide) (fun H locs hP hD hS => ?_)
      have hP : va_P (dC, dI) vwCl [(qc, .inr (0, [.ref qs, .ref qu, .ref qw, .ref qb, .ref qe])), (qs, .inl (ks, 256, .inl (nF SBN))), (qu, .inl (ku, 256, .inl (nF UBN))), (qw, .inl (kw, 44, .inl w)), (qb, .inl (kb, 16, .inl (nF b))), (qe, .inl (ke, 16, .inl (nF z))), (qa, .inl (ka, 48, .inl (nF ab))), (qt, .inl (kt, 96, .inl (nF tb))), (qm, .inl (km, 16, .inl (nF mk))), (rx, .inl (jx, 256, .inl (nF SBN))), (rk, .inl (jk, 256, .inl (nF UBN))), (rw, .inl (jw, 44, .inl w)), (rb, .inl (jb, 16, .inl (nF b2))), (rn, .inl (jn, 16, .inl (nF z2))), (rd, .inl (jd, 48, .inl (nF bd))), (rg, .inl (jg, 96, .inl (nF gv))), (qo, .inl (ko, 1, .inr (.inl ou))), (x, .inr (2, [.ref qc, .ref qg, .ref qa, .ref qt, .ref qm, .int (nI ph), .int (zI og), .long nh, .int nr, .int (nI na), .int (nI nt), .int mb, .long t1, .long t2])), (qg, .inr (1, [.long ((gst (lj (xs ((10 * k) + 1)) (xs ((10 * k) + 2))) (lj (xs ((10 * k) + 3)) (xs ((10 * k) + 4))) (lj (xs ((10 * k) + 5)) (xs ((10 * k) + 6))) (lj (xs ((10 * k) + 7)) (xs ((10 * k) + 8))) 128).1), .long ((gst (lj (xs ((10 * k) + 1)) (xs ((10 * k) + 2))) (lj (xs ((10 * k) + 3)) (xs ((10 * k) + 4))) (lj (xs ((10 * k) + 5)) (xs ((10 * k) + 6))) (lj (xs ((10 * k) + 7)) (xs ((10 * k) + 8))) 128).2.1)])), (o, .inr (3, [.int (nI 0), .int (nI ph), .int (zI og), .ref rx, .ref rk, .ref rw, .ref rb, .ref rn, .long ((gst (lj (xs ((10 * k) + 1)) (xs ((10 * k) + 2))) (lj (xs ((10 * k) + 3)) (xs ((10 * k) + 4))) (lj (xs ((10 * k) + 5)) (xs ((10 * k) + 6))) (lj (xs ((10 * k) + 7)) (xs ((10 * k) + 8))) 128).1), .long ((gst (lj (xs ((10 * k) + 1)) (xs ((10 * k) + 2))) (lj (xs ((10 * k) + 3)) (xs ((10 * k) + 4))) (lj (xs ((10 * k) + 5)) (xs ((10 * k) + 6))) (lj (xs ((10 * k) + 7)) (xs ((10 * k) + 8))) 128).2.1), .long nh, .int nr, .int (nI pa), .ref rd, .int (nI nt), .ref rg, .long u1, .long u2]))] H := hP
      have hD : va_D A [(qc, .inr (0, [.ref qs, .ref qu, .ref qw, .ref qb, .ref qe])), (qs, .inl (ks, 256, .inl (nF SBN))), (qu, .inl (ku, 256, .inl (nF UBN))), (qw, .inl (kw, 44, .inl w)), (qb, .inl (kb, 16, .inl (nF b))), (qe, .inl (ke, 16, .inl (nF z))), (qa, .inl (ka, 48, .inl (nF ab))), (qt, .inl (kt, 96, .inl (nF tb))), (qm, .inl (km, 16, .inl (nF mk))), (rx, .inl (jx, 256, .inl (nF SBN))), (rk, .inl (jk, 256, .inl (nF UBN))), (rw, .inl (jw, 44, .inl w)), (rb, .inl (jb, 16, .inl (nF b2))), (rn, .inl (jn, 16, .inl (nF z2))), (rd, .inl (jd, 48, .inl (nF bd))), (rg, .inl (jg, 96, .inl (nF gv))), (qo, .inl (ko, 1, .inr (.inl ou))), (x, .inr (2, [.ref qc, .ref qg, .ref qa, .ref qt, .ref qm, .int (nI ph), .int (zI og), .long nh, .int nr, .int (nI na), .int (nI nt), .int mb, .long t1, .long t2])), (qg, .inr (1, [.long ((gst (lj (xs ((10 * k) + 1)) (xs ((10 * k) + 2))) (lj (xs ((10 * k) + 3)) (xs ((10 * k) + 4))) (lj (xs ((10 * k) + 5)) (xs ((10 * k) + 6))) (lj (xs ((10 * k) + 7)) (xs ((10 * k) + 8))) 128).1), .long ((gst (lj (xs ((10 * k) + 1)) (xs ((10 * k) + 2))) (lj (xs ((10 * k) + 3)) (xs ((10 * k) + 4))) (lj (xs ((10 * k) + 5)) (xs ((10 * k) + 6))) (lj (xs ((10 * k) + 7)) (xs ((10 * k) + 8))) 128).2.1)])), (o, .inr (3, [.int (nI 0), .int (nI ph), .int (zI og), .ref rx, .ref rk, .ref rw, .ref rb, .ref rn, .long ((gst (lj (xs ((10 * k) + 1)) (xs ((10 * k) + 2))) (lj (xs ((10 * k) + 3)) (xs ((10 * k) + 4))) (lj (xs ((10 * k) + 5)) (xs ((10 * k) + 6))) (lj (xs ((10 * k) + 7)) (xs ((10 * k) + 8))) 128).1), .long ((gst (lj (xs ((10 * k) + 1)) (xs ((10 * k) + 2))) (lj (xs ((10 * k) + 3)) (xs ((10 * k) + 4))) (lj (xs ((10 * k) + 5)) (xs ((10 * k) + 6))) (lj (xs ((10 * k) + 7)) (xs ((10 * k) + 8))) 128).2.1), .long nh, .int nr, .int (nI pa), .ref rd, .int (nI nt), .ref rg, .long u1, .long u2]))] := hD
      refine W.widen (k := 21 + k) (n := 1775 + 6 * k) (by show 21 + k + 0 ≤ 21 + k; omega) (by show 1775 + 6 * k + 0 ≤ 1775 + 6 * k; omega) ?_
      refine w_pc (pc2 := 747) rfl ?_
      refine W.lcmp hx hb dL_law_747 ?_
      refine top_i (y := nI 0) (cmpx.mpr (rfl)) ?_
      refine lv_if_eq (tgt := 1352) hx hb dL_law_748 (by decide) (fun hc_748 => ?_) (fun hc_748 => ?_)
      · skip
        have hc_748 := (ix_eq (a := 0) (b := 0) (by omega) (by omega)).mp hc_748
        have hc_748 : (0 = 0) := hc_748
        refine lv_iinc (v := nI (10 * (k + 1))) (k := 4) hx hb dL_law_1352 hl rfl ((ix_inc _ 10).trans (congrArg nI (by omega))) (by decide) rfl (fun ls hl => ?_)
        have hl : lv_has ls 8 [(4, .int (nI (10 * (k + 1)))), (0, .ref sa), (1, .ref x), (2, .ref o), (3, .ref qo)] := hl
        refine lv_goto (tgt := 23) hx hb dL_law_1355 (by decide) ?_
        refine W.widen (k := 21 + (k + 1)) (n := 1775 + 6 * (k + 1)) (by omega) (by omega) ?_
        exact hd w b z mk ab tb ((gst (lj (xs ((10 * k) + 1)) (xs ((10 * k) + 2))) (lj (xs ((10 * k) + 3)) (xs ((10 * k) + 4))) (lj (xs ((10 * k) + 5)) (xs ((10 * k) + 6))) (lj (xs ((10 * k) + 7)) (xs ((10 * k) + 8))) 128).1) ((gst (lj (xs ((10 * k) + 1)) (xs ((10 * k) + 2))) (lj (xs ((10 * k) + 3)) (xs ((10 * k) + 4))) (lj (xs ((10 * k) + 5)) (xs ((10 * k) + 6))) (lj (xs ((10 * k) + 7)) (xs ((10 * k) + 8))) 128).2.1) ph og nh nr na nt mb t1 t2 (nI 0) b2 z2 bd gv ((gst (lj (xs ((10 * k) + 1)) (xs ((10 * k) + 2))) (lj (xs ((10 * k) + 3)) (xs ((10 * k) + 4))) (lj (xs ((10 * k) + 5)) (xs ((10 * k) + 6))) (lj (xs ((10 * k) + 7)) (xs ((10 * k) + 8))) 128).1) ((gst (lj (xs ((10 * k) + 1)) (xs ((10 * k) + 2))) (lj (xs ((10 * k) + 3)) (xs ((10 * k) + 4))) (lj (xs ((10 * k) + 5)) (xs ((10 * k) + 6))) (lj (xs ((10 * k) + 7)) (xs ((10 * k) + 8))) 128).2.1) u1 u2 pa ou ls H locs (hI9) (lv_sub hl [1, 2, 3, 4, 0] rfl) (hP.sub [17, 0, 1, 2, 3, 4, 5, 18, 6, 7, 8, 19, 9, 10, 11, 12, 13, 14, 15, 16] rfl) (hD.sub [17, 0, 1, 2, 3, 4, 5, 18, 6, 7, 8, 19, 9, 10, 11, 12, 13, 14, 15, 16] (by decide) rfl) hS
      · skip
        have hc_748 := (not_congr (ix_eq (a := 0) (b := 0) (by omega) (by omega))).mp hc_748
        have hc_748 : ¬ (0 = 0) := hc_748
        exfalso; omega

set_option maxHeartbeats 4000000 in
set_option maxRecDepth 100000 in
/-- lc_start -/
theorem lc_start (p : Program) (l : Launch) (e : Env) (s : State) (m : MethodId) (args : Array Value) (below : List Frame) (meth : Method) (c : Code) (Q : State → Prop) (A : Nat → Prop) (dC : Nat → ClassId) (dI : Nat → Nat → Nat) (sa : Nat) (x : Nat) (qc : Nat) (qs : Nat) (qu : Nat) (qw : Nat) (qb : Nat) (qe : Nat) (qg : Nat) (qa : Nat) (qt : Nat) (qm : Nat) (ks : ClassId) (ku : ClassId) (kw : ClassId) (kb : ClassId) (ke : ClassId) (ka : ClassId) (kt : ClassId) (km : ClassId) (o : Nat) (rx : Nat) (rk : Nat) (rw : Nat) (rb : Nat) (rn : Nat) (rd : Nat) (rg : Nat) (jx : ClassId) (jk : ClassId) (jw : ClassId) (jb : ClassId) (jn : ClassId) (jd : ClassId) (jg : ClassId) (qo : Nat) (ko : ClassId) (L : Nat) (xs : Nat → Int32) (k : Nat) (hx : p.tables.exec = Jvm.exec) (hb : c.code = cL_law) (hml : c.maxLocals = 8) (hta : ∀ w ∈ AW, w.before args s = true) (hown : s.vm.findClass RL = some m.cls) (hE : EX s) (hT : TX s) (hZ : ZT A s s.heap) (hst : l.stackTraces = false) (hA : ∀ q, s.heap.size ≤ q → A q) (hK : va_K (dC, dI) vwCl [(ks, .int), (ku, .int), (kw, .int), (kb, .int), (ke, .int), (ka, .int), (kt, .int), (km, .int), (jx, .int), (jk, .int), (jw, .int), (jb, .int), (jn, .int), (jd, .int), (jg, .int), (ko, .long)] s) (hX : va_X sa L xs s s.heap) (hbl : sa < s.heap.size) (hbA : ¬ A sa) (hL : L ≤ 5120) (hk : 10 * k + 10 ≤ L) (hd : HD p l e s m args below meth c Q A dC dI sa x qc qs qu qw qb qe qg qa qt qm ks ku kw kb ke ka kt km o rx rk rw rb rn rd rg jx jk jw jb jn jd jg qo ko (k + 1)) (w : Nat → Int32) (b : Nat → Nat) (z : Nat → Nat) (mk : Nat → Nat) (ab : Nat → Nat) (tb : Nat → Nat) (yh : Int64) (yl : Int64) (ph : Nat) (og : Bool) (nh : Int64) (nr : Int32) (na : Nat) (nt : Nat) (mb : Int32) (t1 : Int64) (t2 : Int64) (th : Int32) (b2 : Nat → Nat) (z2 : Nat → Nat) (bd : Nat → Nat) (gv : Nat → Nat) (mh : Int64) (ml : Int64) (u1 : Int64) (u2 : Int64) (pa : Nat) (ou : Nat → Int64) (ls : Array Slot) (H : Heap) (locs : List Loc) (hI : INV w ph og nh nr na pa nt mb mk ab bd tb gv t1 t2 u1 u2) (hl : lv_has ls 8 [(0, .ref sa), (1, .ref x), (2, .ref o), (3, .ref qo), (4, .int (nI (10 * k)))]) (hP : va_P (dC, dI) vwCl [(x, .inr (2, [.ref qc, .ref qg, .ref qa, .ref qt, .ref qm, .int (nI ph), .int (zI og), .long nh, .int nr, .int (nI na), .int (nI nt), .int mb, .long t1, .long t2])), (qc, .inr (0, [.ref qs, .ref qu, .ref qw, .ref qb, .ref qe])), (qs, .inl (ks, 256, .inl (nF SBN))), (qu, .inl (ku, 256, .inl (nF UBN))), (qw, .inl (kw, 44, .inl w)), (qb, .inl (kb, 16, .inl (nF b))), (qe, .inl (ke, 16, .inl (nF z))), (qg, .inr (1, [.long yh, .long yl])), (qa, .inl (ka, 48, .inl (nF ab))), (qt, .inl (kt, 96, .inl (nF tb))), (qm, .inl (km, 16, .inl (nF mk))), (o, .inr (3, [.int th, .int (nI ph), .int (zI og), .ref rx, .ref rk, .ref rw, .ref rb, .ref rn, .long mh, .long ml, .long nh, .int nr, .int (nI pa), .ref rd, .int (nI nt), .ref rg, .long u1, .long u2])), (rx, .inl (jx, 256, .inl (nF SBN))), (rk, .inl (jk, 256, .inl (nF UBN))), (rw, .inl (jw, 44, .inl w)), (rb, .inl (jb, 16, .inl (nF b2))), (rn, .inl (jn, 16, .inl (nF z2))), (rd, .inl (jd, 48, .inl (nF bd))), (rg, .inl (jg, 96, .inl (nF gv))), (qo, .inl (ko, 1, .inr (.inl ou)))] H) (hD : va_D A [(x, .inr (2, [.ref qc, .ref qg, .ref qa, .ref qt, .ref qm, .int (nI ph), .int (zI og), .long nh, .int nr, .int (nI na), .int (nI nt), .int mb, .long t1, .long t2])), (qc, .inr (0, [.ref qs, .ref qu, .ref qw, .ref qb, .ref qe])), (qs, .inl (ks, 256, .inl (nF SBN))), (qu, .inl (ku, 256, .inl (nF UBN))), (qw, .inl (kw, 44, .inl w)), (qb, .inl (kb, 16, .inl (nF b))), (qe, .inl (ke, 16, .inl (nF z))), (qg, .inr (1, [.long yh, .long yl])), (qa, .inl (ka, 48, .inl (nF ab))), (qt, .inl (kt, 96, .inl (nF tb))), (qm, .inl (km, 16, .inl (nF mk))), (o, .inr (3, [.int th, .int (nI ph), .int (zI og), .ref rx, .ref rk, .ref rw, .ref rb, .ref rn, .long mh, .long ml, .long nh, .int nr, .int (nI pa), .ref rd, .int (nI nt), .ref rg, .long u1, .long u2])), (rx, .inl (jx, 256, .inl (nF SBN))), (rk, .inl (jk, 256, .inl (nF UBN))), (rw, .inl (jw, 44, .inl w)), (rb, .inl (jb, 16, .inl (nF b2))), (rn, .inl (jn, 16, .inl (nF z2))), (rd, .inl (jd, 48, .inl (nF bd))), (rg, .inl (jg, 96, .inl (nF gv))), (qo, .inl (ko, 1, .inr (.inl ou)))]) (hS : va_S A s.heap H locs)   : W p l e room_1 s m args below meth c H locs (21 + k) (1775 + 6 * k) Q (F0 m 753 ls []) := by
  have hI9 := hI
  obtain ⟨hph6, hnt, a256, d256, t256, g256, hne, h33, h45⟩ := hI
  refine lv_aload_n hx hb dL_law_753 rfl (lv_at hl 1 rfl) ?_
  refine lv_aload_n hx hb dL_law_754 rfl (lv_at hl 0 rfl) ?_
  refine lv_iload hx hb dL_law_755 (lv_at hl 4 rfl) ?_
  refine lv_iconst (v := nI 1) hx hb dL_law_757 (by decide) ?_
  refine lv_iadd hx hb dL_law_758 (top_i (nI_add _ _) ?_)
  refine va_sln (v := xs ((10 * k) + 1)) hx hb hX hbl hbA hS (by omega) hL (rfl) dL_law_759 ?_
  refine lv_if_eq (tgt := 767) hx hb dL_law_760 (by decide) (fun hc_760 => ?_) (fun hc_760 => ?_)
  · skip
    refine lv_iconst (v := nI 0) hx hb dL_law_767 (by decide) ?_
    refine lv_aload_n hx hb dL_law_768 rfl (lv_at hl 0 rfl) ?_
    refine lv_iload hx hb dL_law_769 (lv_at hl 4 rfl) ?_
    refine lv_iconst (v := nI 2) hx hb dL_law_771 (by decide) ?_
    refine lv_iadd hx hb dL_law_772 (top_i (nI_add _ _) ?_)
    refine va_sln (v := xs ((10 * k) + 2)) hx hb hX hbl hbA hS (by omega) hL (rfl) dL_law_773 ?_
    refine lv_i2l hx hb dL_law_774 rfl ?_
    refine lv_bipush (v := nI 32) hx hb dL_law_775 (by decide) ?_
    refine lv_lshl hx hb dL_law_777 rfl ?_
    refine lv_aload_n hx hb dL_law_778 rfl (lv_at hl 0 rfl) ?_
    refine lv_iload hx hb dL_law_779 (lv_at hl 4 rfl) ?_
    refine w_pc (pc2 := 781) rfl ?_
    refine lv_iconst (v := nI 3) hx hb dL_law_781 (by decide) ?_
    refine lv_iadd hx hb dL_law_782 (top_i (nI_add _ _) ?_)
    refine va_sln (v := xs ((10 * k) + 3)) hx hb hX hbl hbA hS (by omega) hL (rfl) dL_law_783 ?_
    refine lv_i2l hx hb dL_law_784 rfl ?_
    refine lv_ldc2 (v := 4294967295) hx hb hown (hta _ mw_631) dL_law_785 ?_
    refine top_l (y := lN 4294967295) (by decide) ?_
    refine lv_land hx hb dL_law_788 ?_
    refine lv_lor hx hb dL_law_789 ?_
    refine top_l (y := lj (xs ((10 * k) + 2)) (xs ((10 * k) + 3))) rfl ?_
    refine lv_aload_n hx hb dL_law_790 rfl (lv_at hl 0 rfl) ?_
    refine lv_iload hx hb dL_law_791 (lv_at hl 4 rfl) ?_
    refine lv_iconst (v := nI 4) hx hb dL_law_793 (by decide) ?_
    refine lv_iadd hx hb dL_law_794 (top_i (nI_add _ _) ?_)
    refine va_sln (v := xs ((10 * k) + 4)) hx hb hX hbl hbA hS (by omega) hL (rfl) dL_law_795 ?_
    refine w_pc (pc2 := 796) rfl ?_
    refine cf_0 (wr := [(qc, .inr (0, [.ref qs, .ref qu, .ref qw, .ref qb, .ref qe])), (qs, .inl (ks, 256, .inl (nF SBN))), (qu, .inl (ku, 256, .inl (nF UBN))), (qw, .inl (kw, 44, .inl w)), (qb, .inl (kb, 16, .inl (nF b))), (qe, .inl (ke, 16, .inl (nF z))), (qg, .inr (1, [.long yh, .long yl])), (qa, .inl (ka, 48, .inl (nF ab))), (qt, .inl (kt, 96, .inl (nF tb))), (qm, .inl (km, 16, .inl (nF mk))), (o, .inr (3, [.int th, .int (nI ph), .int (zI og), .ref rx, .ref rk, .ref rw, .ref rb, .ref rn, .long mh, .long ml, .long nh, .int nr, .int (nI pa), .ref rd, .int (nI nt), .ref rg, .long u1, .long u2])), (rx, .inl (jx, 256, .inl (nF SBN))), (rk, .inl (jk, 256, .inl (nF UBN))), (rw, .inl (jw, 44, .inl w)), (rb, .inl (jb, 16, .inl (nF b2))), (rn, .inl (jn, 16, .inl (nF z2))), (rd, .inl (jd, 48, .inl (nF bd))), (rg, .inl (jg, 96, .inl (nF gv))), (qo, .inl (ko, 1, .inr (.inl ou)))]) (va_runV (As := [.int (nI 0), .long (lj (xs ((10 * k) + 2)) (xs ((10 * k) + 3))), .int (xs ((10 * k) + 4))]) (rest := []) ⟨hx, hb, hml, hown, hta⟩ (MO.to (c_start l dC dI x qc qg qa qt qm ph og nh nr na nt mb t1 t2 false (lj (xs ((10 * k) + 2)) (xs ((10 * k) + 3))) (xs ((10 * k) + 4))) H.size) (cwV 3 hta (aw_V mw_213 mw_210 mw_211 mw_212 mw_1) rfl rfl rfl ⟨rfl, dyX2_start⟩ ⟨(Nat.le_of_ble_eq_true rfl), (Nat.le_of_ble_eq_true rfl)⟩) (pr_V hP hD hK hE [0] [] (by decide) rfl rfl rfl rfl) rfl rfl hl.1 rfl (lv_room (Nat.le_of_ble_eq_true rfl)) dL_law_796 ⟨by show 21 + k + 0 ≤ 601024; omega, by show 1775 + 6 * k + 0 ≤ 7293034; omega⟩) hP hD hS hA [0] [1, 2, 3, 4, 5, 6, 7, 8, 9, 10, 11, 12, 13, 14, 15, 16, 17, 18, 19] rfl rfl (by decide) (by decide) (fun H locs hP hD hS => ?_)
    have hP : va_P (dC, dI) vwCl [(qc, .inr (0, [.ref qs, .ref qu, .ref qw, .ref qb, .ref qe])), (qs, .inl (ks, 256, .inl (nF SBN))), (qu, .inl (ku, 256, .inl (nF UBN))), (qw, .inl (kw, 44, .inl w)), (qb, .inl (kb, 16, .inl (nF b))), (qe, .inl (ke, 16, .inl (nF z))), (qg, .inr (1, [.long yh, .long yl])), (qa, .inl (ka, 48, .inl (nF ab))), (qt, .inl (kt, 96, .inl (nF tb))), (qm, .inl (km, 16, .inl (nF mk))), (o, .inr (3, [.int th, .int (nI ph), .int (zI og), .ref rx, .ref rk, .ref rw, .ref rb, .ref rn, .long mh, .long ml, .long nh, .int nr, .int (nI pa), .ref rd, .int (nI nt), .ref rg, .long u1, .long u2])), (rx, .inl (jx, 256, .inl (nF SBN))), (rk, .inl (jk, 256, .inl (nF UBN))), (rw, .inl (jw, 44, .inl w)), (rb, .inl (jb, 16, .inl (nF b2))), (rn, .inl (jn, 16, .inl (nF z2))), (rd, .inl (jd, 48, .inl (nF bd))), (rg, .inl (jg, 96, .inl (nF gv))), (qo, .inl (ko, 1, .inr (.inl ou))), (x, .inr (2, [.ref qc, .ref qg, .ref qa, .ref qt, .ref qm, .int (nI 1), .int (zI false), .long (lj (xs ((10 * k) + 2)) (xs ((10 * k) + 3))), .int (xs ((10 * k) + 4)), .int (nI 0), .int (nI 0), .int (-1 : Int32), .long t1, .long t2]))] H := hP
    have hD : va_D A [(qc, .inr (0, [.ref qs, .ref qu, .ref qw, .ref qb, .ref qe])), (qs, .inl (ks, 256, .inl (nF SBN))), (qu, .inl (ku, 256, .inl (nF UBN))), (qw, .inl (kw, 44, .inl w)), (qb, .inl (kb, 16, .inl (nF b))), (qe, .inl (ke, 16, .inl (nF z))), (qg, .inr (1, [.long yh, .long yl])), (qa, .inl (ka, 48, .inl (nF ab))), (qt, .inl (kt, 96, .inl (nF tb))), (qm, .inl (km, 16, .inl (nF mk))), (o, .inr (3, [.int th, .int (nI ph), .int (zI og), .ref rx, .ref rk, .ref rw, .ref rb, .ref rn, .long mh, .long ml, .long nh, .int nr, .int (nI pa), .ref rd, .int (nI nt), .ref rg, .long u1, .long u2])), (rx, .inl (jx, 256, .inl (nF SBN))), (rk, .inl (jk, 256, .inl (nF UBN))), (rw, .inl (jw, 44, .inl w)), (rb, .inl (jb, 16, .inl (nF b2))), (rn, .inl (jn, 16, .inl (nF z2))), (rd, .inl (jd, 48, .inl (nF bd))), (rg, .inl (jg, 96, .inl (nF gv))), (qo, .inl (ko, 1, .inr (.inl ou))), (x, .inr (2, [.ref qc, .ref qg, .ref qa, .ref qt, .ref qm, .int (nI 1), .int (zI false), .long (lj (xs ((10 * k) + 2)) (xs ((10 * k) + 3))), .int (xs ((10 * k) + 4)), .int (nI 0), .int (nI 0), .int (-1 : Int32), .long t1, .long t2]))] := hD
    refine W.widen (k := 21 + k) (n := 1775 + 6 * k) (by show 21 + k + 0 ≤ 21 + k; omega) (by show 1775 + 6 * k + 0 ≤ 1775 + 6 * k; omega) ?_
    refine w_pc (pc2 := 799) rfl ?_
    refine lv_aload_n hx hb dL_law_799 rfl (lv_at hl 2 rfl) ?_
    refine lv_aload_n hx hb dL_law_800 rfl (lv_at hl 0 rfl) ?_
    refine lv_iload hx hb dL_law_801 (lv_at hl 4 rfl) ?_
    refine lv_iconst (v := nI 1) hx hb dL_law_803 (by decide) ?_
    refine lv_iadd hx hb dL_law_804 (top_i (nI_add _ _) ?_)
    refine va_sln (v := xs ((10 * k) + 1)) hx hb hX hbl hbA hS (by omega) hL (rfl) dL_law_805 ?_
    refine lv_if_eq (tgt := 813) hx hb dL_law_806 (by decide) (fun hc_806 => ?_) (fun hc_806 => ?_)
    · skip
      refine lv_iconst (v := nI 0) hx hb dL_law_813 (by decide) ?_
      refine lv_aload_n hx hb dL_law_814 rfl (lv_at hl 0 rfl) ?_
      refine lv_iload hx hb dL_law_815 (lv_at hl 4 rfl) ?_
      refine lv_iconst (v := nI 2) hx hb dL_law_817 (by decide) ?_
      refine lv_iadd hx hb dL_law_818 (top_i (nI_add _ _) ?_)
      refine va_sln (v := xs ((10 * k) + 2)) hx hb hX hbl hbA hS (by omega) hL (rfl) dL_law_819 ?_
      refine lv_i2l hx hb dL_law_820 rfl ?_
      refine lv_bipush (v := nI 32) hx hb dL_law_821 (by decide) ?_
      refine lv_lshl hx hb dL_law_823 rfl ?_
      refine lv_aload_n hx hb dL_law_824 rfl (lv_at hl 0 rfl) ?_
      refine lv_iload hx hb dL_law_825 (lv_at hl 4 rfl) ?_
      refine w_pc (pc2 := 827) rfl ?_
      refine lv_iconst (v := nI 3) hx hb dL_law_827 (by decide) ?_
      refine lv_iadd hx hb dL_law_828 (top_i (nI_add _ _) ?_)
      refine va_sln (v := xs ((10 * k) + 3)) hx hb hX hbl hbA hS (by omega) hL (rfl) dL_law_829 ?_
      refine lv_i2l hx hb dL_law_830 rfl ?_
      refine lv_ldc2 (v := 4294967295) hx hb hown (hta _ mw_631) dL_law_831 ?_
      refine top_l (y := lN 4294967295) (by decide) ?_
      refine lv_land hx hb dL_law_834 ?_
      refine lv_lor hx hb dL_law_835 ?_
      refine top_l (y := lj (xs ((10 * k) + 2)) (xs ((10 * k) + 3))) rfl ?_
      refine lv_aload_n hx hb dL_law_836 rfl (lv_at hl 0 rfl) ?_
      refine lv_iload hx hb dL_law_837 (lv_at hl 4 rfl) ?_
      refine lv_iconst (v := nI 4) hx hb dL_law_839 (by decide) ?_
      refine lv_iadd hx hb dL_law_840 (top_i (nI_add _ _) ?_)
      refine va_sln (v := xs ((10 * k) + 4)) hx hb hX hbl hbA hS (by omega) hL (rfl) dL_law_841 ?_
      refine w_pc (pc2 := 842) rfl ?_
      refine cf_0 (wr := [(qc, .inr (0, [.ref qs, .ref qu, .ref qw, .ref qb, .ref qe])), (qs, .inl (ks, 256, .inl (nF SBN))), (qu, .inl (ku, 256, .inl (nF UBN))), (qw, .inl (kw, 44, .inl w)), (qb, .inl (kb, 16, .inl (nF b))), (qe, .inl (ke, 16, .inl (nF z))), (qg, .inr (1, [.long yh, .long yl])), (qa, .inl (ka, 48, .inl (nF ab))), (qt, .inl (kt, 96, .inl (nF tb))), (qm, .inl (km, 16, .inl (nF mk))), (rx, .inl (jx, 256, .inl (nF SBN))), (rk, .inl (jk, 256, .inl (nF UBN))), (rw, .inl (jw, 44, .inl w)), (rb, .inl (jb, 16, .inl (nF b2))), (rn, .inl (jn, 16, .inl (nF z2))), (rd, .inl (jd, 48, .inl (nF bd))), (rg, .inl (jg, 96, .inl (nF gv))), (qo, .inl (ko, 1, .inr (.inl ou))), (x, .inr (2, [.ref qc, .ref qg, .ref qa, .ref qt, .ref qm, .int (nI 1), .int (zI false), .long (lj (xs ((10 * k) + 2)) (xs ((10 * k) + 3))), .int (xs ((10 * k) + 4)), .int (nI 0), .int (nI 0), .int (-1 : Int32), .long t1, .long t2]))]) (va_runV (As := [.int (nI 0), .long (lj (xs ((10 * k) + 2)) (xs ((10 * k) + 3))), .int (xs ((10 * k) + 4))]) (rest := []) ⟨hx, hb, hml, hown, hta⟩ (MO.to (m_start l dC dI o th ph og rx rk rw rb rn mh ml nh nr pa rd nt rg u1 u2 false (lj (xs ((10 * k) + 2)) (xs ((10 * k) + 3))) (xs ((10 * k) + 4))) H.size) (cwV 3 hta (aw_V mw_573 mw_570 mw_571 mw_572 mw_5) rfl rfl rfl ⟨rfl, dyX3_start⟩ ⟨(Nat.le_of_ble_eq_true rfl), (Nat.le_of_ble_eq_true rfl)⟩) (pr_V hP hD hK hE [10] [] (by decide) rfl rfl rfl rfl) rfl rfl hl.1 rfl (lv_room (Nat.le_of_ble_eq_true rfl)) dL_law_842 ⟨by show 21 + k + 0 ≤ 601024; omega, by show 1775 + 6 * k + 0 ≤ 7293034; omega⟩) hP hD hS hA [10] [0, 1, 2, 3, 4, 5, 6, 7, 8, 9, 11, 12, 13, 14, 15, 16, 17, 18, 19] rfl rfl (by decide) (by decide) (fun H locs hP hD hS => ?_)
      have hP : va_P (dC, dI) vwCl [(qc, .inr (0, [.ref qs, .ref qu, .ref qw, .ref qb, .ref qe])), (qs, .inl (ks, 256, .inl (nF SBN))), (qu, .inl (ku, 256, .inl (nF UBN))), (qw, .inl (kw, 44, .inl w)), (qb, .inl (kb, 16, .inl (nF b))), (qe, .inl (ke, 16, .inl (nF z))), (qg, .inr (1, [.long yh, .long yl])), (qa, .inl (ka, 48, .inl (nF ab))), (qt, .inl (kt, 96, .inl (nF tb))), (qm, .inl (km, 16, .inl (nF mk))), (rx, .inl (jx, 256, .inl (nF SBN))), (rk, .inl (jk, 256, .inl (nF UBN))), (rw, .inl (jw, 44, .inl w)), (rb, .inl (jb, 16, .inl (nF b2))), (rn, .inl (jn, 16, .inl (nF z2))), (rd, .inl (jd, 48, .inl (nF bd))), (rg, .inl (jg, 96, .inl (nF gv))), (qo, .inl (ko, 1, .inr (.inl ou))), (x, .inr (2, [.ref qc, .ref qg, .ref qa, .ref qt, .ref qm, .int (nI 1), .int (zI false), .long (lj (xs ((10 * k) + 2)) (xs ((10 * k) + 3))), .int (xs ((10 * k) + 4)), .int (nI 0), .int (nI 0), .int (-1 : Int32), .long t1, .long t2])), (o, .inr (3, [.int (nI 0), .int (nI 1), .int (zI false), .ref rx, .ref rk, .ref rw, .ref rb, .ref rn, .long mh, .long ml, .long (lj (xs ((10 * k) + 2)) (xs ((10 * k) + 3))), .int (xs ((10 * k) + 4)), .int (nI 0), .ref rd, .int (nI 0), .ref rg, .long u1, .long u2]))] H := hP
      have hD : va_D A [(qc, .inr (0, [.ref qs, .ref qu, .ref qw, .ref qb, .ref qe])), (qs, .inl (ks, 256, .inl (nF SBN))), (qu, .inl (ku, 256, .inl (nF UBN))), (qw, .inl (kw, 44, .inl w)), (qb, .inl (kb, 16, .inl (nF b))), (qe, .inl (ke, 16, .inl (nF z))), (qg, .inr (1, [.long yh, .long yl])), (qa, .inl (ka, 48, .inl (nF ab))), (qt, .inl (kt, 96, .inl (nF tb))), (qm, .inl (km, 16, .inl (nF mk))), (rx, .inl (jx, 256, .inl (nF SBN))), (rk, .inl (jk, 256, .inl (nF UBN))), (rw, .inl (jw, 44, .inl w)), (rb, .inl (jb, 16, .inl (nF b2))), (rn, .inl (jn, 16, .inl (nF z2))), (rd, .inl (jd, 48, .inl (nF bd))), (rg, .inl (jg, 96, .inl (nF gv))), (qo, .inl (ko, 1, .inr (.inl ou))), (x, .inr (2, [.ref qc, .ref qg, .ref qa, .ref qt, .ref qm, .int (nI 1), .int (zI false), .long (lj (xs ((10 * k) + 2)) (xs ((10 * k) + 3))), .int (xs ((10 * k) + 4)), .int (nI 0), .int (nI 0), .int (-1 : Int32), .long t1, .long t2])), (o, .inr (3, [.int (nI 0), .int (nI 1), .int (zI false), .ref rx, .ref rk, .ref rw, .ref rb, .ref rn, .long mh, .long ml, .long (lj (xs ((10 * k) + 2)) (xs ((10 * k) + 3))), .int (xs ((10 * k) + 4)), .int (nI 0), .ref rd, .int (nI 0), .ref rg, .long u1, .long u2]))] := hD
      refine W.widen (k := 21 + k) (n := 1775 + 6 * k) (by show 21 + k + 0 ≤ 21 + k; omega) (by show 1775 + 6 * k + 0 ≤ 1775 + 6 * k; omega) ?_
      refine w_pc (pc2 := 845) rfl ?_
      refine lv_goto (tgt := 1352) hx hb dL_law_845 (by decide) ?_
      refine lv_iinc (v := nI (10 * (k + 1))) (k := 4) hx hb dL_law_1352 hl rfl ((ix_inc _ 10).trans (congrArg nI (by omega))) (by decide) rfl (fun ls hl => ?_)
      have hl : lv_has ls 8 [(4, .int (nI (10 * (k + 1)))), (0, .ref sa), (1, .ref x), (2, .ref o), (3, .ref qo)] := hl
      refine lv_goto (tgt := 23) hx hb dL_law_1355 (by decide) ?_
      refine W.widen (k := 21 + (k + 1)) (n := 1775 + 6 * (k + 1)) (by omega) (by omega) ?_
      exact hd w b z mk ab tb yh yl 1 false (lj (xs ((10 * k) + 2)) (xs ((10 * k) + 3))) (xs ((10 * k) + 4)) 0 0 (-1 : Int32) t1 t2 (nI 0) b2 z2 bd gv mh ml u1 u2 0 ou ls H locs (iv_start hI9) (lv_sub hl [1, 2, 3, 4, 0] rfl) (hP.sub [18, 0, 1, 2, 3, 4, 5, 6, 7, 8, 9, 19, 10, 11, 12, 13, 14, 15, 16, 17] rfl) (hD.sub [18, 0, 1, 2, 3, 4, 5, 6, 7, 8, 9, 19, 10, 11, 12, 13, 14, 15, 16, 17] (by decide) rfl) hS
    · skip
      exact (by first | exact absurd hc_760 hc_806 | exact absurd hc_806 hc_760)
  · skip
    refine lv_iconst (v := nI 1) hx hb dL_law_763 (by decide) ?_
    refine lv_goto (tgt := 768) hx hb dL_law_764 (by decide) ?_
    refine lv_aload_n hx hb dL_law_768 rfl (lv_at hl 0 rfl) ?_
    refine lv_iload hx hb dL_law_769 (lv_at hl 4 rfl) ?_
    refine lv_iconst (v := nI 2) hx hb dL_law_771 (by decide) ?_
    refine lv_iadd hx hb dL_law_772 (top_i (nI_add _ _) ?_)
    refine va_sln (v := xs ((10 * k) + 2)) hx hb hX hbl hbA hS (by omega) hL (rfl) dL_law_773 ?_
    refine lv_i2l hx hb dL_law_774 rfl ?_
    refine lv_bipush (v := nI 32) hx hb dL_law_775 (by decide) ?_
    refine lv_lshl hx hb dL_law_777 rfl ?_
    refine lv_aload_n hx hb dL_law_778 rfl (lv_at hl 0 rfl) ?_
    refine lv_iload hx hb dL_law_779 (lv_at hl 4 rfl) ?_
    refine lv_iconst (v := nI 3) hx hb dL_law_781 (by decide) ?_
    refine w_pc (pc2 := 782) rfl ?_
    refine lv_iadd hx hb dL_law_782 (top_i (nI_add _ _) ?_)
    refine va_sln (v := xs ((10 * k) + 3)) hx hb hX hbl hbA hS (by omega) hL (rfl) dL_law_783 ?_
    refine lv_i2l hx hb dL_law_784 rfl ?_
    refine lv_ldc2 (v := 4294967295) hx hb hown (hta _ mw_631) dL_law_785 ?_
    refine top_l (y := lN 4294967295) (by decide) ?_
    refine lv_land hx hb dL_law_788 ?_
    refine lv_lor hx hb dL_law_789 ?_
    refine top_l (y := lj (xs ((10 * k) + 2)) (xs ((10 * k) + 3))) rfl ?_
    refine lv_aload_n hx hb dL_law_790 rfl (lv_at hl 0 rfl) ?_
    refine lv_iload hx hb dL_law_791 (lv_at hl 4 rfl) ?_
    refine lv_iconst (v := nI 4) hx hb dL_law_793 (by decide) ?_
    refine lv_iadd hx hb dL_law_794 (top_i (nI_add _ _) ?_)
    refine va_sln (v := xs ((10 * k) + 4)) hx hb hX hbl hbA hS (by omega) hL (rfl) dL_law_795 ?_
    refine cf_0 (wr := [(qc, .inr (0, [.ref qs, .ref qu, .ref qw, .ref qb, .ref qe])), (qs, .inl (ks, 256, .inl (nF SBN))), (qu, .inl (ku, 256, .inl (nF UBN))), (qw, .inl (kw, 44, .inl w)), (qb, .inl (kb, 16, .inl (nF b))), (qe, .inl (ke, 16, .inl (nF z))), (qg, .inr (1, [.long yh, .long yl])), (qa, .inl (ka, 48, .inl (nF ab))), (qt, .inl (kt, 96, .inl (nF tb))), (qm, .inl (km, 16, .inl (nF mk))), (o, .inr (3, [.int th, .int (nI ph), .int (zI og), .ref rx, .ref rk, .ref rw, .ref rb, .ref rn, .long mh, .long ml, .long nh, .int nr, .int (nI pa), .ref rd, .int (nI nt), .ref rg, .long u1, .long u2])), (rx, .inl (jx, 256, .inl (nF SBN))), (rk, .inl (jk, 256, .inl (nF UBN))), (rw, .inl (jw, 44, .inl w)), (rb, .inl (jb, 16, .inl (nF b2))), (rn, .inl (jn, 16, .inl (nF z2))), (rd, .inl (jd, 48, .inl (nF bd))), (rg, .inl (jg, 96, .inl (nF gv))), (qo, .inl (ko, 1, .inr (.inl ou)))]) (va_runV (As := [.int (nI 1), .long (lj (xs ((10 * k) + 2)) (xs ((10 * k) + 3))), .int (xs ((10 * k) + 4))]) (rest := []) ⟨hx, hb, hml, hown, hta⟩ (MO.to (c_start l dC dI x qc qg qa qt qm ph og nh nr na nt mb t1 t2 true (lj (xs ((10 * k) + 2)) (xs ((10 * k) + 3))) (xs ((10 * k) + 4))) H.size) (cwV 3 hta (aw_V mw_213 mw_210 mw_211 mw_212 mw_1) rfl rfl rfl ⟨rfl, dyX2_start⟩ ⟨(Nat.le_of_ble_eq_true rfl), (Nat.le_of_ble_eq_true rfl)⟩) (pr_V hP hD hK hE [0] [] (by decide) rfl rfl rfl rfl) rfl rfl hl.1 rfl (lv_room (Nat.le_of_ble_eq_true rfl)) dL_law_796 ⟨by show 21 + k + 0 ≤ 601024; omega, by show 1775 + 6 * k + 0 ≤ 7293034; omega⟩) hP hD hS hA [0] [1, 2, 3, 4, 5, 6, 7, 8, 9, 10, 11, 12, 13, 14, 15, 16, 17, 18, 19] rfl rfl (by decide) (by decide) (fun H locs hP hD hS => ?_)
    have hP : va_P (dC, dI) vwCl [(qc, .inr (0, [.ref qs, .ref qu, .ref qw, .ref qb, .ref qe])), (qs, .inl (ks, 256, .inl (nF SBN))), (qu, .inl (ku, 256, .inl (nF UBN))), (qw, .inl (kw, 44, .inl w)), (qb, .inl (kb, 16, .inl (nF b))), (qe, .inl (ke, 16, .inl (nF z))), (qg, .inr (1, [.long yh, .long yl])), (qa, .inl (ka, 48, .inl (nF ab))), (qt, .inl (kt, 96, .inl (nF tb))), (qm, .inl (km, 16, .inl (nF mk))), (o, .inr (3, [.int th, .int (nI ph), .int (zI og), .ref rx, .ref rk, .ref rw, .ref rb, .ref rn, .long mh, .long ml, .long nh, .int nr, .int (nI pa), .ref rd, .int (nI nt), .ref rg, .long u1, .long u2])), (rx, .inl (jx, 256, .inl (nF SBN))), (rk, .inl (jk, 256, .inl (nF UBN))), (rw, .inl (jw, 44, .inl w)), (rb, .inl (jb, 16, .inl (nF b2))), (rn, .inl (jn, 16, .inl (nF z2))), (rd, .inl (jd, 48, .inl (nF bd))), (rg, .inl (jg, 96, .inl (nF gv))), (qo, .inl (ko, 1, .inr (.inl ou))), (x, .inr (2, [.ref qc, .ref qg, .ref qa, .ref qt, .ref qm, .int (nI 1), .int (zI true), .long (lj (xs ((10 * k) + 2)) (xs ((10 * k) + 3))), .int (xs ((10 * k) + 4)), .int (nI 0), .int (nI 0), .int (-1 : Int32), .long t1, .long t2]))] H := hP
    have hD : va_D A [(qc, .inr (0, [.ref qs, .ref qu, .ref qw, .ref qb, .ref qe])), (qs, .inl (ks, 256, .inl (nF SBN))), (qu, .inl (ku, 256, .inl (nF UBN))), (qw, .inl (kw, 44, .inl w)), (qb, .inl (kb, 16, .inl (nF b))), (qe, .inl (ke, 16, .inl (nF z))), (qg, .inr (1, [.long yh, .long yl])), (qa, .inl (ka, 48, .inl (nF ab))), (qt, .inl (kt, 96, .inl (nF tb))), (qm, .inl (km, 16, .inl (nF mk))), (o, .inr (3, [.int th, .int (nI ph), .int (zI og), .ref rx, .ref rk, .ref rw, .ref rb, .ref rn, .long mh, .long ml, .long nh, .int nr, .int (nI pa), .ref rd, .int (nI nt), .ref rg, .long u1, .long u2])), (rx, .inl (jx, 256, .inl (nF SBN))), (rk, .inl (jk, 256, .inl (nF UBN))), (rw, .inl (jw, 44, .inl w)), (rb, .inl (jb, 16, .inl (nF b2))), (rn, .inl (jn, 16, .inl (nF z2))), (rd, .inl (jd, 48, .inl (nF bd))), (rg, .inl (jg, 96, .inl (nF gv))), (qo, .inl (ko, 1, .inr (.inl ou))), (x, .inr (2, [.ref qc, .ref qg, .ref qa, .ref qt, .ref qm, .int (nI 1), .int (zI true), .long (lj (xs ((10 * k) + 2)) (xs ((10 * k) + 3))), .int (xs ((10 * k) + 4)), .int (nI 0), .int (nI 0), .int (-1 : Int32), .long t1, .long t2]))] := hD
    refine W.widen (k := 21 + k) (n := 1775 + 6 * k) (by show 21 + k + 0 ≤ 21 + k; omega) (by show 1775 + 6 * k + 0 ≤ 1775 + 6 * k; omega) ?_
    refine w_pc (pc2 := 799) rfl ?_
    refine lv_aload_n hx hb dL_law_799 rfl (lv_at hl 2 rfl) ?_
    refine lv_aload_n hx hb dL_law_800 rfl (lv_at hl 0 rfl) ?_
    refine lv_iload hx hb dL_law_801 (lv_at hl 4 rfl) ?_
    refine lv_iconst (v := nI 1) hx hb dL_law_803 (by decide) ?_
    refine lv_iadd hx hb dL_law_804 (top_i (nI_add _ _) ?_)
    refine va_sln (v := xs ((10 * k) + 1)) hx hb hX hbl hbA hS (by omega) hL (rfl) dL_law_805 ?_
    refine lv_if_eq (tgt := 813) hx hb dL_law_806 (by decide) (fun hc_806 => ?_) (fun hc_806 => ?_)
    · skip
      exact (by first | exact absurd hc_760 hc_806 | exact absurd hc_806 hc_760)
    · skip
      refine lv_iconst (v := nI 1) hx hb dL_law_809 (by decide) ?_
      refine lv_goto (tgt := 814) hx hb dL_law_810 (by decide) ?_
      refine lv_aload_n hx hb dL_law_814 rfl (lv_at hl 0 rfl) ?_
      refine lv_iload hx hb dL_law_815 (lv_at hl 4 rfl) ?_
      refine lv_iconst (v := nI 2) hx hb dL_law_817 (by decide) ?_
      refine lv_iadd hx hb dL_law_818 (top_i (nI_add _ _) ?_)
      refine va_sln (v := xs ((10 * k) + 2)) hx hb hX hbl hbA hS (by omega) hL (rfl) dL_law_819 ?_
      refine lv_i2l hx hb dL_law_820 rfl ?_
      refine lv_bipush (v := nI 32) hx hb dL_law_821 (by decide) ?_
      refine lv_lshl hx hb dL_law_823 rfl ?_
      refine lv_aload_n hx hb dL_law_824 rfl (lv_at hl 0 rfl) ?_
      refine lv_iload hx hb dL_law_825 (lv_at hl 4 rfl) ?_
      refine lv_iconst (v := nI 3) hx hb dL_law_827 (by decide) ?_
      refine w_pc (pc2 := 828) rfl ?_
      refine lv_iadd hx hb dL_law_828 (top_i (nI_add _ _) ?_)
      refine va_sln (v := xs ((10 * k) + 3)) hx hb hX hbl hbA hS (by omega) hL (rfl) dL_law_829 ?_
      refine lv_i2l hx hb dL_law_830 rfl ?_
      refine lv_ldc2 (v := 4294967295) hx hb hown (hta _ mw_631) dL_law_831 ?_
      refine top_l (y := lN 4294967295) (by decide) ?_
      refine lv_land hx hb dL_law_834 ?_
      refine lv_lor hx hb dL_law_835 ?_
      refine top_l (y := lj (xs ((10 * k) + 2)) (xs ((10 * k) + 3))) rfl ?_
      refine lv_aload_n hx hb dL_law_836 rfl (lv_at hl 0 rfl) ?_
      refine lv_iload hx hb dL_law_837 (lv_at hl 4 rfl) ?_
      refine lv_iconst (v := nI 4) hx hb dL_law_839 (by decide) ?_
      refine lv_iadd hx hb dL_law_840 (top_i (nI_add _ _) ?_)
      refine va_sln (v := xs ((10 * k) + 4)) hx hb hX hbl hbA hS (by omega) hL (rfl) dL_law_841 ?_
      refine cf_0 (wr := [(qc, .inr (0, [.ref qs, .ref qu, .ref qw, .ref qb, .ref qe])), (qs, .inl (ks, 256, .inl (nF SBN))), (qu, .inl (ku, 256, .inl (nF UBN))), (qw, .inl (kw, 44, .inl w)), (qb, .inl (kb, 16, .inl (nF b))), (qe, .inl (ke, 16, .inl (nF z))), (qg, .inr (1, [.long yh, .long yl])), (qa, .inl (ka, 48, .inl (nF ab))), (qt, .inl (kt, 96, .inl (nF tb))), (qm, .inl (km, 16, .inl (nF mk))), (rx, .inl (jx, 256, .inl (nF SBN))), (rk, .inl (jk, 256, .inl (nF UBN))), (rw, .inl (jw, 44, .inl w)), (rb, .inl (jb, 16, .inl (nF b2))), (rn, .inl (jn, 16, .inl (nF z2))), (rd, .inl (jd, 48, .inl (nF bd))), (rg, .inl (jg, 96, .inl (nF gv))), (qo, .inl (ko, 1, .inr (.inl ou))), (x, .inr (2, [.ref qc, .ref qg, .ref qa, .ref qt, .ref qm, .int (nI 1), .int (zI true), .long (lj (xs ((10 * k) + 2)) (xs ((10 * k) + 3))), .int (xs ((10 * k) + 4)), .int (nI 0), .int (nI 0), .int (-1 : Int32), .long t1, .long t2]))]) (va_runV (As := [.int (nI 1), .long (lj (xs ((10 * k) + 2)) (xs ((10 * k) + 3))), .int (xs ((10 * k) + 4))]) (rest := []) ⟨hx, hb, hml, hown, hta⟩ (MO.to (m_start l dC dI o th ph og rx rk rw rb rn mh ml nh nr pa rd nt rg u1 u2 true (lj (xs ((10 * k) + 2)) (xs ((10 * k) + 3))) (xs ((10 * k) + 4))) H.size) (cwV 3 hta (aw_V mw_573 mw_570 mw_571 mw_572 mw_5) rfl rfl rfl ⟨rfl, dyX3_start⟩ ⟨(Nat.le_of_ble_eq_true rfl), (Nat.le_of_ble_eq_true rfl)⟩) (pr_V hP hD hK hE [10] [] (by decide) rfl rfl rfl rfl) rfl rfl hl.1 rfl (lv_room (Nat.le_of_ble_eq_true rfl)) dL_law_842 ⟨by show 21 + k + 0 ≤ 601024; omega, by show 1775 + 6 * k + 0 ≤ 7293034; omega⟩) hP hD hS hA [10] [0, 1, 2, 3, 4, 5, 6, 7, 8, 9, 11, 12, 13, 14, 15, 16, 17, 18, 19] rfl rfl (by decide) (by decide) (fun H locs hP hD hS => ?_)
      have hP : va_P (dC, dI) vwCl [(qc, .inr (0, [.ref qs, .ref qu, .ref qw, .ref qb, .ref qe])), (qs, .inl (ks, 256, .inl (nF SBN))), (qu, .inl (ku, 256, .inl (nF UBN))), (qw, .inl (kw, 44, .inl w)), (qb, .inl (kb, 16, .inl (nF b))), (qe, .inl (ke, 16, .inl (nF z))), (qg, .inr (1, [.long yh, .long yl])), (qa, .inl (ka, 48, .inl (nF ab))), (qt, .inl (kt, 96, .inl (nF tb))), (qm, .inl (km, 16, .inl (nF mk))), (rx, .inl (jx, 256, .inl (nF SBN))), (rk, .inl (jk, 256, .inl (nF UBN))), (rw, .inl (jw, 44, .inl w)), (rb, .inl (jb, 16, .inl (nF b2))), (rn, .inl (jn, 16, .inl (nF z2))), (rd, .inl (jd, 48, .inl (nF bd))), (rg, .inl (jg, 96, .inl (nF gv))), (qo, .inl (ko, 1, .inr (.inl ou))), (x, .inr (2, [.ref qc, .ref qg, .ref qa, .ref qt, .ref qm, .int (nI 1), .int (zI true), .long (lj (xs ((10 * k) + 2)) (xs ((10 * k) + 3))), .int (xs ((10 * k) + 4)), .int (nI 0), .int (nI 0), .int (-1 : Int32), .long t1, .long t2])), (o, .inr (3, [.int (nI 0), .int (nI 1), .int (zI true), .ref rx, .ref rk, .ref rw, .ref rb, .ref rn, .long mh, .long ml, .long (lj (xs ((10 * k) + 2)) (xs ((10 * k) + 3))), .int (xs ((10 * k) + 4)), .int (nI 0), .ref rd, .int (nI 0), .ref rg, .long u1, .long u2]))] H := hP
      have hD : va_D A [(qc, .inr (0, [.ref qs, .ref qu, .ref qw, .ref qb, .ref qe])), (qs, .inl (ks, 256, .inl (nF SBN))), (qu, .inl (ku, 256, .inl (nF UBN))), (qw, .inl (kw, 44, .inl w)), (qb, .inl (kb, 16, .inl (nF b))), (qe, .inl (ke, 16, .inl (nF z))), (qg, .inr (1, [.long yh, .long yl])), (qa, .inl (ka, 48, .inl (nF ab))), (qt, .inl (kt, 96, .inl (nF tb))), (qm, .inl (km, 16, .inl (nF mk))), (rx, .inl (jx, 256, .inl (nF SBN))), (rk, .inl (jk, 256, .inl (nF UBN))), (rw, .inl (jw, 44, .inl w)), (rb, .inl (jb, 16, .inl (nF b2))), (rn, .inl (jn, 16, .inl (nF z2))), (rd, .inl (jd, 48, .inl (nF bd))), (rg, .inl (jg, 96, .inl (nF gv))), (qo, .inl (ko, 1, .inr (.inl ou))), (x, .inr (2, [.ref qc, .ref qg, .ref qa, .ref qt, .ref qm, .int (nI 1), .int (zI true), .long (lj (xs ((10 * k) + 2)) (xs ((10 * k) + 3))), .int (xs ((10 * k) + 4)), .int (nI 0), .int (nI 0), .int (-1 : Int32), .long t1, .long t2])), (o, .inr (3, [.int (nI 0), .int (nI 1), .int (zI true), .ref rx, .ref rk, .ref rw, .ref rb, .ref rn, .long mh, .long ml, .long (lj (xs ((10 * k) + 2)) (xs ((10 * k) + 3))), .int (xs ((10 * k) + 4)), .int (nI 0), .ref rd, .int (nI 0), .ref rg, .long u1, .long u2]))] := hD
      refine W.widen (k := 21 + k) (n := 1775 + 6 * k) (by show 21 + k + 0 ≤ 21 + k; omega) (by show 1775 + 6 * k + 0 ≤ 1775 + 6 * k; omega) ?_
      refine w_pc (pc2 := 845) rfl ?_
      refine lv_goto (tgt := 1352) hx hb dL_law_845 (by decide) ?_
      refine lv_iinc (v := nI (10 * (k + 1))) (k := 4) hx hb dL_law_1352 hl rfl ((ix_inc _ 10).trans (congrArg nI (by omega))) (by decide) rfl (fun ls hl => ?_)
      have hl : lv_has ls 8 [(4, .int (nI (10 * (k + 1)))), (0, .ref sa), (1, .ref x), (2, .ref o), (3, .ref qo)] := hl
      refine lv_goto (tgt := 23) hx hb dL_law_1355 (by decide) ?_
      refine W.widen (k := 21 + (k + 1)) (n := 1775 + 6 * (k + 1)) (by omega) (by omega) ?_
      exact hd w b z mk ab tb yh yl 1 true (lj (xs ((10 * k) + 2)) (xs ((10 * k) + 3))) (xs ((10 * k) + 4)) 0 0 (-1 : Int32) t1 t2 (nI 0) b2 z2 bd gv mh ml u1 u2 0 ou ls H locs (iv_start hI9) (lv_sub hl [1, 2, 3, 4, 0] rfl) (hP.sub [18, 0, 1, 2, 3, 4, 5, 6, 7, 8, 9, 19, 10, 11, 12, 13, 14, 15, 16, 17] rfl) (hD.sub [18, 0, 1, 2, 3, 4, 5, 6, 7, 8, 9, 19, 10, 11, 12, 13, 14, 15, 16, 17] (by decide) rfl) hS

set_option maxHeartbeats 4000000 in
set_option maxRecDepth 100000 in
/-- lc_length -/
theorem lc_length (p : Program) (l : Launch) (e : Env) (s : State) (m : MethodId) (args : Array Value) (below : List Frame) (meth : Method) (c : Code) (Q : State → Prop) (A : Nat → Prop) (dC : Nat → ClassId) (dI : Nat → Nat → Nat) (sa : Nat) (x : Nat) (qc : Nat) (qs : Nat) (qu : Nat) (qw : Nat) (qb : Nat) (qe : Nat) (qg : Nat) (qa : Nat) (qt : Nat) (qm : Nat) (ks : ClassId) (ku : ClassId) (kw : ClassId) (kb : ClassId) (ke : ClassId) (ka : ClassId) (kt : ClassId) (km : ClassId) (o : Nat) (rx : Nat) (rk : Nat) (rw : Nat) (rb : Nat) (rn : Nat) (rd : Nat) (rg : Nat) (jx : ClassId) (jk : ClassId) (jw : ClassId) (jb : ClassId) (jn : ClassId) (jd : ClassId) (jg : ClassId) (qo : Nat) (ko : ClassId) (L : Nat) (xs : Nat → Int32) (k : Nat) (hx : p.tables.exec = Jvm.exec) (hb : c.code = cL_law) (hml : c.maxLocals = 8) (hta : ∀ w ∈ AW, w.before args s = true) (hown : s.vm.findClass RL = some m.cls) (hE : EX s) (hT : TX s) (hZ : ZT A s s.heap) (hst : l.stackTraces = false) (hA : ∀ q, s.heap.size ≤ q → A q) (hK : va_K (dC, dI) vwCl [(ks, .int), (ku, .int), (kw, .int), (kb, .int), (ke, .int), (ka, .int), (kt, .int), (km, .int), (jx, .int), (jk, .int), (jw, .int), (jb, .int), (jn, .int), (jd, .int), (jg, .int), (ko, .long)] s) (hX : va_X sa L xs s s.heap) (hbl : sa < s.heap.size) (hbA : ¬ A sa) (hL : L ≤ 5120) (hk : 10 * k + 10 ≤ L) (hd : HD p l e s m args below meth c Q A dC dI sa x qc qs qu qw qb qe qg qa qt qm ks ku kw kb ke ka kt km o rx rk rw rb rn rd rg jx jk jw jb jn jd jg qo ko (k + 1)) (w : Nat → Int32) (b : Nat → Nat) (z : Nat → Nat) (mk : Nat → Nat) (ab : Nat → Nat) (tb : Nat → Nat) (yh : Int64) (yl : Int64) (ph : Nat) (og : Bool) (nh : Int64) (nr : Int32) (na : Nat) (nt : Nat) (mb : Int32) (t1 : Int64) (t2 : Int64) (th : Int32) (b2 : Nat → Nat) (z2 : Nat → Nat) (bd : Nat → Nat) (gv : Nat → Nat) (mh : Int64) (ml : Int64) (u1 : Int64) (u2 : Int64) (pa : Nat) (ou : Nat → Int64) (ls : Array Slot) (H : Heap) (locs : List Loc) (hI : INV w ph og nh nr na pa nt mb mk ab bd tb gv t1 t2 u1 u2) (hl : lv_has ls 8 [(0, .ref sa), (1, .ref x), (2, .ref o), (3, .ref qo), (4, .int (nI (10 * k)))]) (hP : va_P (dC, dI) vwCl [(x, .inr (2, [.ref qc, .ref qg, .ref qa, .ref qt, .ref qm, .int (nI ph), .int (zI og), .long nh, .int nr, .int (nI na), .int (nI nt), .int mb, .long t1, .long t2])), (qc, .inr (0, [.ref qs, .ref qu, .ref qw, .ref qb, .ref qe])), (qs, .inl (ks, 256, .inl (nF SBN))), (qu, .inl (ku, 256, .inl (nF UBN))), (qw, .inl (kw, 44, .inl w)), (qb, .inl (kb, 16, .inl (nF b))), (qe, .inl (ke, 16, .inl (nF z))), (qg, .inr (1, [.long yh, .long yl])), (qa, .inl (ka, 48, .inl (nF ab))), (qt, .inl (kt, 96, .inl (nF tb))), (qm, .inl (km, 16, .inl (nF mk))), (o, .inr (3, [.int th, .int (nI ph), .int (zI og), .ref rx, .ref rk, .ref rw, .ref rb, .ref rn, .long mh, .long ml, .long nh, .int nr, .int (nI pa), .ref rd, .int (nI nt), .ref rg, .long u1, .long u2])), (rx, .inl (jx, 256, .inl (nF SBN))), (rk, .inl (jk, 256, .inl (nF UBN))), (rw, .inl (jw, 44, .inl w)), (rb, .inl (jb, 16, .inl (nF b2))), (rn, .inl (jn, 16, .inl (nF z2))), (rd, .inl (jd, 48, .inl (nF bd))), (rg, .inl (jg, 96, .inl (nF gv))), (qo, .inl (ko, 1, .inr (.inl ou)))] H) (hD : va_D A [(x, .inr (2, [.ref qc, .ref qg, .ref qa, .ref qt, .ref qm, .int (nI ph), .int (zI og), .long nh, .int nr, .int (nI na), .int (nI nt), .int mb, .long t1, .long t2])), (qc, .inr (0, [.ref qs, .ref qu, .ref qw, .ref qb, .ref qe])), (qs, .inl (ks, 256, .inl (nF SBN))), (qu, .inl (ku, 256, .inl (nF UBN))), (qw, .inl (kw, 44, .inl w)), (qb, .inl (kb, 16, .inl (nF b))), (qe, .inl (ke, 16, .inl (nF z))), (qg, .inr (1, [.long yh, .long yl])), (qa, .inl (ka, 48, .inl (nF ab))), (qt, .inl (kt, 96, .inl (nF tb))), (qm, .inl (km, 16, .inl (nF mk))), (o, .inr (3, [.int th, .int (nI ph), .int (zI og), .ref rx, .ref rk, .ref rw, .ref rb, .ref rn, .long mh, .long ml, .long nh, .int nr, .int (nI pa), .ref rd, .int (nI nt), .ref rg, .long u1, .long u2])), (rx, .inl (jx, 256, .inl (nF SBN))), (rk, .inl (jk, 256, .inl (nF UBN))), (rw, .inl (jw, 44, .inl w)), (rb, .inl (jb, 16, .inl (nF b2))), (rn, .inl (jn, 16, .inl (nF z2))), (rd, .inl (jd, 48, .inl (nF bd))), (rg, .inl (jg, 96, .inl (nF gv))), (qo, .inl (ko, 1, .inr (.inl ou)))]) (hS : va_S A s.heap H locs)   : W p l e room_1 s m args below meth c H locs (21 + k) (1775 + 6 * k) Q (F0 m 1301 ls []) := by
  have hI9 := hI
  obtain ⟨hph6, hnt, a256, d256, t256, g256, hne, h33, h45⟩ := hI
  refine lv_aload_n hx hb dL_law_1301 rfl (lv_at hl 1 rfl) ?_
  refine cf_1 (wr := [(qc, .inr (0, [.ref qs, .ref qu, .ref qw, .ref qb, .ref qe])), (qs, .inl (ks, 256, .inl (nF SBN))), (qu, .inl (ku, 256, .inl (nF UBN))), (qw, .inl (kw, 44, .inl w)), (qb, .inl (kb, 16, .inl (nF b))), (qe, .inl (ke, 16, .inl (nF z))), (qg, .inr (1, [.long yh, .long yl])), (qa, .inl (ka, 48, .inl (nF ab))), (qt, .inl (kt, 96, .inl (nF tb))), (qm, .inl (km, 16, .inl (nF mk))), (o, .inr (3, [.int th, .int (nI ph), .int (zI og), .ref rx, .ref rk, .ref rw, .ref rb, .ref rn, .long mh, .long ml, .long nh, .int nr, .int (nI pa), .ref rd, .int (nI nt), .ref rg, .long u1, .long u2])), (rx, .inl (jx, 256, .inl (nF SBN))), (rk, .inl (jk, 256, .inl (nF UBN))), (rw, .inl (jw, 44, .inl w)), (rb, .inl (jb, 16, .inl (nF b2))), (rn, .inl (jn, 16, .inl (nF z2))), (rd, .inl (jd, 48, .inl (nF bd))), (rg, .inl (jg, 96, .inl (nF gv))), (qo, .inl (ko, 1, .inr (.inl ou)))]) (va_runV (As := []) (rest := []) ⟨hx, hb, hml, hown, hta⟩ (MO.to (c_length l dC dI x qc qg qa qt qm ph og nh nr na nt mb t1 t2) H.size) (cwV 0 hta (aw_V mw_217 mw_214 mw_215 mw_216 mw_1) rfl rfl rfl ⟨rfl, dyX2_length⟩ ⟨(Nat.le_of_ble_eq_true rfl), (Nat.le_of_ble_eq_true rfl)⟩) (pr_V hP hD hK hE [0] [] (by decide) rfl rfl rfl rfl) rfl rfl hl.1 rfl (lv_room (Nat.le_of_ble_eq_true rfl)) dL_law_1302 ⟨by show 21 + k + 0 ≤ 601024; omega, by show 1775 + 6 * k + 0 ≤ 7293034; omega⟩) hP hD hS hA [0] [1, 2, 3, 4, 5, 6, 7, 8, 9, 10, 11, 12, 13, 14, 15, 16, 17, 18, 19] rfl rfl (by decide) (by decide) (fun H locs hP hD hS => ?_)
  have hP : va_P (dC, dI) vwCl [(qc, .inr (0, [.ref qs, .ref qu, .ref qw, .ref qb, .ref qe])), (qs, .inl (ks, 256, .inl (nF SBN))), (qu, .inl (ku, 256, .inl (nF UBN))), (qw, .inl (kw, 44, .inl w)), (qb, .inl (kb, 16, .inl (nF b))), (qe, .inl (ke, 16, .inl (nF z))), (qg, .inr (1, [.long yh, .long yl])), (qa, .inl (ka, 48, .inl (nF ab))), (qt, .inl (kt, 96, .inl (nF tb))), (qm, .inl (km, 16, .inl (nF mk))), (o, .inr (3, [.int th, .int (nI ph), .int (zI og), .ref rx, .ref rk, .ref rw, .ref rb, .ref rn, .long mh, .long ml, .long nh, .int nr, .int (nI pa), .ref rd, .int (nI nt), .ref rg, .long u1, .long u2])), (rx, .inl (jx, 256, .inl (nF SBN))), (rk, .inl (jk, 256, .inl (nF UBN))), (rw, .inl (jw, 44, .inl w)), (rb, .inl (jb, 16, .inl (nF b2))), (rn, .inl (jn, 16, .inl (nF z2))), (rd, .inl (jd, 48, .inl (nF bd))), (rg, .inl (jg, 96, .inl (nF gv))), (qo, .inl (ko, 1, .inr (.inl ou))), (x, .inr (2, [.ref qc, .ref qg, .ref qa, .ref qt, .ref qm, .int (nI ph), .int (zI og), .long nh, .int nr, .int (nI na), .int (nI nt), .int mb, .long t1, .long t2]))] H := hP
  have hD : va_D A [(qc, .inr (0, [.ref qs, .ref qu, .ref qw, .ref qb, .ref qe])), (qs, .inl (ks, 256, .inl (nF SBN))), (qu, .inl (ku, 256, .inl (nF UBN))), (qw, .inl (kw, 44, .inl w)), (qb, .inl (kb, 16, .inl (nF b))), (qe, .inl (ke, 16, .inl (nF z))), (qg, .inr (1, [.long yh, .long yl])), (qa, .inl (ka, 48, .inl (nF ab))), (qt, .inl (kt, 96, .inl (nF tb))), (qm, .inl (km, 16, .inl (nF mk))), (o, .inr (3, [.int th, .int (nI ph), .int (zI og), .ref rx, .ref rk, .ref rw, .ref rb, .ref rn, .long mh, .long ml, .long nh, .int nr, .int (nI pa), .ref rd, .int (nI nt), .ref rg, .long u1, .long u2])), (rx, .inl (jx, 256, .inl (nF SBN))), (rk, .inl (jk, 256, .inl (nF UBN))), (rw, .inl (jw, 44, .inl w)), (rb, .inl (jb, 16, .inl (nF b2))), (rn, .inl (jn, 16, .inl (nF z2))), (rd, .inl (jd, 48, .inl (nF bd))), (rg, .inl (jg, 96, .inl (nF gv))), (qo, .inl (ko, 1, .inr (.inl ou))), (x, .inr (2, [.ref qc, .ref qg, .ref qa, .ref qt, .ref qm, .int (nI ph), .int (zI og), .long nh, .int nr, .int (nI na), .int (nI nt), .int mb, .long t1, .long t2]))] := hD
  refine W.widen (k := 21 + k) (n := 1775 + 6 * k) (by show 21 + k + 0 ≤ 21 + k; omega) (by show 1775 + 6 * k + 0 ≤ 1775 + 6 * k; omega) ?_
  refine w_pc (pc2 := 1305) rfl ?_
  refine lv_aload_n hx hb dL_law_1305 rfl (lv_at hl 2 rfl) ?_
  refine cf_1 (wr := [(qc, .inr (0, [.ref qs, .ref qu, .ref qw, .ref qb, .ref qe])), (qs, .inl (ks, 256, .inl (nF SBN))), (qu, .inl (ku, 256, .inl (nF UBN))), (qw, .inl (kw, 44, .inl w)), (qb, .inl (kb, 16, .inl (nF b))), (qe, .inl (ke, 16, .inl (nF z))), (qg, .inr (1, [.long yh, .long yl])), (qa, .inl (ka, 48, .inl (nF ab))), (qt, .inl (kt, 96, .inl (nF tb))), (qm, .inl (km, 16, .inl (nF mk))), (rx, .inl (jx, 256, .inl (nF SBN))), (rk, .inl (jk, 256, .inl (nF UBN))), (rw, .inl (jw, 44, .inl w)), (rb, .inl (jb, 16, .inl (nF b2))), (rn, .inl (jn, 16, .inl (nF z2))), (rd, .inl (jd, 48, .inl (nF bd))), (rg, .inl (jg, 96, .inl (nF gv))), (qo, .inl (ko, 1, .inr (.inl ou))), (x, .inr (2, [.ref qc, .ref qg, .ref qa, .ref qt, .ref qm, .int (nI ph), .int (zI og), .long nh, .int nr, .int (nI na), .int (nI nt), .int mb, .long t1, .long t2]))]) (va_runV (As := []) (rest := [.int (nI nt)]) ⟨hx, hb, hml, hown, hta⟩ (MO.to (m_length l dC dI o th ph og rx rk rw rb rn mh ml nh nr pa rd nt rg u1 u2) H.size) (cwV 0 hta (aw_V mw_622 mw_619 mw_620 mw_621 mw_5) rfl rfl rfl ⟨rfl, dyX3_length⟩ ⟨(Nat.le_of_ble_eq_true rfl), (Nat.le_of_ble_eq_true rfl)⟩) (pr_V hP hD hK hE [10] [] (by decide) rfl rfl rfl rfl) rfl rfl hl.1 rfl (lv_room (Nat.le_of_ble_eq_true rfl)) dL_law_1306 ⟨by show 21 + k + 0 ≤ 601024; omega, by show 1775 + 6 * k + 0 ≤ 7293034; omega⟩) hP hD hS hA [10] [0, 1, 2, 3, 4, 5, 6, 7, 8, 9, 11, 12, 13, 14, 15, 16, 17, 18, 19] rfl rfl (by decide) (by decide) (fun H locs hP hD hS => ?_)
  have hP : va_P (dC, dI) vwCl [(qc, .inr (0, [.ref qs, .ref qu, .ref qw, .ref qb, .ref qe])), (qs, .inl (ks, 256, .inl (nF SBN))), (qu, .inl (ku, 256, .inl (nF UBN))), (qw, .inl (kw, 44, .inl w)), (qb, .inl (kb, 16, .inl (nF b))), (qe, .inl (ke, 16, .inl (nF z))), (qg, .inr (1, [.long yh, .long yl])), (qa, .inl (ka, 48, .inl (nF ab))), (qt, .inl (kt, 96, .inl (nF tb))), (qm, .inl (km, 16, .inl (nF mk))), (rx, .inl (jx, 256, .inl (nF SBN))), (rk, .inl (jk, 256, .inl (nF UBN))), (rw, .inl (jw, 44, .inl w)), (rb, .inl (jb, 16, .inl (nF b2))), (rn, .inl (jn, 16, .inl (nF z2))), (rd, .inl (jd, 48, .inl (nF bd))), (rg, .inl (jg, 96, .inl (nF gv))), (qo, .inl (ko, 1, .inr (.inl ou))), (x, .inr (2, [.ref qc, .ref qg, .ref qa, .ref qt, .ref qm, .int (nI ph), .int (zI og), .long nh, .int nr, .int (nI na), .int (nI nt), .int mb, .long t1, .long t2])), (o, .inr (3, [.int (nI 0), .int (nI ph), .int (zI og), .ref rx, .ref rk, .ref rw, .ref rb, .ref rn, .long mh, .long ml, .long nh, .int nr, .int (nI pa), .ref rd, .int (nI nt), .ref rg, .long u1, .long u2]))] H := hP
  have hD : va_D A [(qc, .inr (0, [.ref qs, .ref qu, .ref qw, .ref qb, .ref qe])), (qs, .inl (ks, 256, .inl (nF SBN))), (qu, .inl (ku, 256, .inl (nF UBN))), (qw, .inl (kw, 44, .inl w)), (qb, .inl (kb, 16, .inl (nF b))), (qe, .inl (ke, 16, .inl (nF z))), (qg, .inr (1, [.long yh, .long yl])), (qa, .inl (ka, 48, .inl (nF ab))), (qt, .inl (kt, 96, .inl (nF tb))), (qm, .inl (km, 16, .inl (nF mk))), (rx, .inl (jx, 256, .inl (nF SBN))), (rk, .inl (jk, 256, .inl (nF UBN))), (rw, .inl (jw, 44, .inl w)), (rb, .inl (jb, 16, .inl (nF b2))), (rn, .inl (jn, 16, .inl (nF z2))), (rd, .inl (jd, 48, .inl (nF bd))), (rg, .inl (jg, 96, .inl (nF gv))), (qo, .inl (ko, 1, .inr (.inl ou))), (x, .inr (2, [.ref qc, .ref qg, .ref qa, .ref qt, .ref qm, .int (nI ph), .int (zI og), .long nh, .int nr, .int (nI na), .int (nI nt), .int mb, .long t1, .long t2])), (o, .inr (3, [.int (nI 0), .int (nI ph), .int (zI og), .ref rx, .ref rk, .ref rw, .ref rb, .ref rn, .long mh, .long ml, .long nh, .int nr, .int (nI pa), .ref rd, .int (nI nt), .ref rg, .long u1, .long u2]))] := hD
  refine W.widen (k := 21 + k) (n := 1775 + 6 * k) (by show 21 + k + 0 ≤ 21 + k; omega) (by show 1775 + 6 * k + 0 ≤ 1775 + 6 * k; omega) ?_
  refine w_pc (pc2 := 1309) rfl ?_
  refine lv_icmp_eq (tgt := 1352) hx hb dL_law_1309 (by decide) (fun hc_1309 => ?_) (fun hc_1309 => ?_)
  · skip
    have hc_1309 := (ix_eq (a := nt) (b := nt) (by omega) (by omega)).mp hc_1309
    have hc_1309 : (nt = nt) := hc_1309
    refine lv_iinc (v := nI (10 * (k + 1))) (k := 4) hx hb dL_law_1352 hl rfl ((ix_inc _ 10).trans (congrArg nI (by omega))) (by decide) rfl (fun ls hl => ?_)
    have hl : lv_has ls 8 [(4, .int (nI (10 * (k + 1)))), (0, .ref sa), (1, .ref x), (2, .ref o), (3, .ref qo)] := hl
    refine lv_goto (tgt := 23) hx hb dL_law_1355 (by decide) ?_
    refine W.widen (k := 21 + (k + 1)) (n := 1775 + 6 * (k + 1)) (by omega) (by omega) ?_
    exact hd w b z mk ab tb yh yl ph og nh nr na nt mb t1 t2 (nI 0) b2 z2 bd gv mh ml u1 u2 pa ou ls H locs (hI9) (lv_sub hl [1, 2, 3, 4, 0] rfl) (hP.sub [18, 0, 1, 2, 3, 4, 5, 6, 7, 8, 9, 19, 10, 11, 12, 13, 14, 15, 16, 17] rfl) (hD.sub [18, 0, 1, 2, 3, 4, 5, 6, 7, 8, 9, 19, 10, 11, 12, 13, 14, 15, 16, 17] (by decide) rfl) hS
  · skip
    have hc_1309 := (not_congr (ix_eq (a := nt) (b := nt) (by omega) (by omega))).mp hc_1309
    have hc_1309 : ¬ (nt = nt) := hc_1309
    exfalso; omega

set_option maxHeartbeats 4000000 in
set_option maxRecDepth 100000 in
/-- lc_phase -/
theorem lc_phase (p : Program) (l : Launch) (e : Env) (s : State) (m : MethodId) (args : Array Value) (below : List Frame) (meth : Method) (c : Code) (Q : State → Prop) (A : Nat → Prop) (dC : Nat → ClassId) (dI : Nat → Nat → Nat) (sa : Nat) (x : Nat) (qc : Nat) (qs : Nat) (qu : Nat) (qw : Nat) (qb : Nat) (qe : Nat) (qg : Nat) (qa : Nat) (qt : Nat) (qm : Nat) (ks : ClassId) (ku : ClassId) (kw : ClassId) (kb : ClassId) (ke : ClassId) (ka : ClassId) (kt : ClassId) (km : ClassId) (o : Nat) (rx : Nat) (rk : Nat) (rw : Nat) (rb : Nat) (rn : Nat) (rd : Nat) (rg : Nat) (jx : ClassId) (jk : ClassId) (jw : ClassId) (jb : ClassId) (jn : ClassId) (jd : ClassId) (jg : ClassId) (qo : Nat) (ko : ClassId) (L : Nat) (xs : Nat → Int32) (k : Nat) (hx : p.tables.exec = Jvm.exec) (hb : c.code = cL_law) (hml : c.maxLocals = 8) (hta : ∀ w ∈ AW, w.before args s = true) (hown : s.vm.findClass RL = some m.cls) (hE : EX s) (hT : TX s) (hZ : ZT A s s.heap) (hst : l.stackTraces = false) (hA : ∀ q, s.heap.size ≤ q → A q) (hK : va_K (dC, dI) vwCl [(ks, .int), (ku, .int), (kw, .int), (kb, .int), (ke, .int), (ka, .int), (kt, .int), (km, .int), (jx, .int), (jk, .int), (jw, .int), (jb, .int), (jn, .int), (jd, .int), (jg, .int), (ko, .long)] s) (hX : va_X sa L xs s s.heap) (hbl : sa < s.heap.size) (hbA : ¬ A sa) (hL : L ≤ 5120) (hk : 10 * k + 10 ≤ L) (hd : HD p l e s m args below meth c Q A dC dI sa x qc qs qu qw qb qe qg qa qt qm ks ku kw kb ke ka kt km o rx rk rw rb rn rd rg jx jk jw jb jn jd jg qo ko (k + 1)) (w : Nat → Int32) (b : Nat → Nat) (z : Nat → Nat) (mk : Nat → Nat) (ab : Nat → Nat) (tb : Nat → Nat) (yh : Int64) (yl : Int64) (ph : Nat) (og : Bool) (nh : Int64) (nr : Int32) (na : Nat) (nt : Nat) (mb : Int32) (t1 : Int64) (t2 : Int64) (th : Int32) (b2 : Nat → Nat) (z2 : Nat → Nat) (bd : Nat → Nat) (gv : Nat → Nat) (mh : Int64) (ml : Int64) (u1 : Int64) (u2 : Int64) (pa : Nat) (ou : Nat → Int64) (ls : Array Slot) (H : Heap) (locs : List Loc) (hI : INV w ph og nh nr na pa nt mb mk ab bd tb gv t1 t2 u1 u2) (hl : lv_has ls 8 [(0, .ref sa), (1, .ref x), (2, .ref o), (3, .ref qo), (4, .int (nI (10 * k)))]) (hP : va_P (dC, dI) vwCl [(x, .inr (2, [.ref qc, .ref qg, .ref qa, .ref qt, .ref qm, .int (nI ph), .int (zI og), .long nh, .int nr, .int (nI na), .int (nI nt), .int mb, .long t1, .long t2])), (qc, .inr (0, [.ref qs, .ref qu, .ref qw, .ref qb, .ref qe])), (qs, .inl (ks, 256, .inl (nF SBN))), (qu, .inl (ku, 256, .inl (nF UBN))), (qw, .inl (kw, 44, .inl w)), (qb, .inl (kb, 16, .inl (nF b))), (qe, .inl (ke, 16, .inl (nF z))), (qg, .inr (1, [.long yh, .long yl])), (qa, .inl (ka, 48, .inl (nF ab))), (qt, .inl (kt, 96, .inl (nF tb))), (qm, .inl (km, 16, .inl (nF mk))), (o, .inr (3, [.int th, .int (nI ph), .int (zI og), .ref rx, .ref rk, .ref rw, .ref rb, .ref rn, .long mh, .long ml, .long nh, .int nr, .int (nI pa), .ref rd, .int (nI nt), .ref rg, .long u1, .long u2])), (rx, .inl (jx, 256, .inl (nF SBN))), (rk, .inl (jk, 256, .inl (nF UBN))), (rw, .inl (jw, 44, .inl w)), (rb, .inl (jb, 16, .inl (nF b2))), (rn, .inl (jn, 16, .inl (nF z2))), (rd, .inl (jd, 48, .inl (nF bd))), (rg, .inl (jg, 96, .inl (nF gv))), (qo, .inl (ko, 1, .inr (.inl ou)))] H) (hD : va_D A [(x, .inr (2, [.ref qc, .ref qg, .ref qa, .ref qt, .ref qm, .int (nI ph), .int (zI og), .long nh, .int nr, .int (nI na), .int (nI nt), .int mb, .long t1, .long t2])), (qc, .inr (0, [.ref qs, .ref qu, .ref qw, .ref qb, .ref qe])), (qs, .inl (ks, 256, .inl (nF SBN))), (qu, .inl (ku, 256, .inl (nF UBN))), (qw, .inl (kw, 44, .inl w)), (qb, .inl (kb, 16, .inl (nF b))), (qe, .inl (ke, 16, .inl (nF z))), (qg, .inr (1, [.long yh, .long yl])), (qa, .inl (ka, 48, .inl (nF ab))), (qt, .inl (kt, 96, .inl (nF tb))), (qm, .inl (km, 16, .inl (nF mk))), (o, .inr (3, [.int th, .int (nI ph), .int (zI og), .ref rx, .ref rk, .ref rw, .ref rb, .ref rn, .long mh, .long ml, .long nh, .int nr, .int (nI pa), .ref rd, .int (nI nt), .ref rg, .long u1, .long u2])), (rx, .inl (jx, 256, .inl (nF SBN))), (rk, .inl (jk, 256, .inl (nF UBN))), (rw, .inl (jw, 44, .inl w)), (rb, .inl (jb, 16, .inl (nF b2))), (rn, .inl (jn, 16, .inl (nF z2))), (rd, .inl (jd, 48, .inl (nF bd))), (rg, .inl (jg, 96, .inl (nF gv))), (qo, .inl (ko, 1, .inr (.inl ou)))]) (hS : va_S A s.heap H locs)   : W p l e room_1 s m args below meth c H locs (21 + k) (1775 + 6 * k) Q (F0 m 1339 ls []) := by
  have hI9 := hI
  obtain ⟨hph6, hnt, a256, d256, t256, g256, hne, h33, h45⟩ := hI
  refine lv_aload_n hx hb dL_law_1339 rfl (lv_at hl 1 rfl) ?_
  refine cf_1 (wr := [(qc, .inr (0, [.ref qs, .ref qu, .ref qw, .ref qb, .ref qe])), (qs, .inl (ks, 256, .inl (nF SBN))), (qu, .inl (ku, 256, .inl (nF UBN))), (qw, .inl (kw, 44, .inl w)), (qb, .inl (kb, 16, .inl (nF b))), (qe, .inl (ke, 16, .inl (nF z))), (qg, .inr (1, [.long yh, .long yl])), (qa, .inl (ka, 48, .inl (nF ab))), (qt, .inl (kt, 96, .inl (nF tb))), (qm, .inl (km, 16, .inl (nF mk))), (o, .inr (3, [.int th, .int (nI ph), .int (zI og), .ref rx, .ref rk, .ref rw, .ref rb, .ref rn, .long mh, .long ml, .long nh, .int nr, .int (nI pa), .ref rd, .int (nI nt), .ref rg, .long u1, .long u2])), (rx, .inl (jx, 256, .inl (nF SBN))), (rk, .inl (jk, 256, .inl (nF UBN))), (rw, .inl (jw, 44, .inl w)), (rb, .inl (jb, 16, .inl (nF b2))), (rn, .inl (jn, 16, .inl (nF z2))), (rd, .inl (jd, 48, .inl (nF bd))), (rg, .inl (jg, 96, .inl (nF gv))), (qo, .inl (ko, 1, .inr (.inl ou)))]) (va_runV (As := []) (rest := []) ⟨hx, hb, hml, hown, hta⟩ (MO.to (c_phase l dC dI x qc qg qa qt qm ph og nh nr na nt mb t1 t2) H.size) (cwV 0 hta (aw_V mw_229 mw_226 mw_227 mw_228 mw_1) rfl rfl rfl ⟨rfl, dyX2_phase⟩ ⟨(Nat.le_of_ble_eq_true rfl), (Nat.le_of_ble_eq_true rfl)⟩) (pr_V hP hD hK hE [0] [] (by decide) rfl rfl rfl rfl) rfl rfl hl.1 rfl (lv_room (Nat.le_of_ble_eq_true rfl)) dL_law_1340 ⟨by show 21 + k + 0 ≤ 601024; omega, by show 1775 + 6 * k + 0 ≤ 7293034; omega⟩) hP hD hS hA [0] [1, 2, 3, 4, 5, 6, 7, 8, 9, 10, 11, 12, 13, 14, 15, 16, 17, 18, 19] rfl rfl (by decide) (by decide) (fun H locs hP hD hS => ?_)
  have hP : va_P (dC, dI) vwCl [(qc, .inr (0, [.ref qs, .ref qu, .ref qw, .ref qb, .ref qe])), (qs, .inl (ks, 256, .inl (nF SBN))), (qu, .inl (ku, 256, .inl (nF UBN))), (qw, .inl (kw, 44, .inl w)), (qb, .inl (kb, 16, .inl (nF b))), (qe, .inl (ke, 16, .inl (nF z))), (qg, .inr (1, [.long yh, .long yl])), (qa, .inl (ka, 48, .inl (nF ab))), (qt, .inl (kt, 96, .inl (nF tb))), (qm, .inl (km, 16, .inl (nF mk))), (o, .inr (3, [.int th, .int (nI ph), .int (zI og), .ref rx, .ref rk, .ref rw, .ref rb, .ref rn, .long mh, .long ml, .long nh, .int nr, .int (nI pa), .ref rd, .int (nI nt), .ref rg, .long u1, .long u2])), (rx, .inl (jx, 256, .inl (nF SBN))), (rk, .inl (jk, 256, .inl (nF UBN))), (rw, .inl (jw, 44, .inl w)), (rb, .inl (jb, 16, .inl (nF b2))), (rn, .inl (jn, 16, .inl (nF z2))), (rd, .inl (jd, 48, .inl (nF bd))), (rg, .inl (jg, 96, .inl (nF gv))), (qo, .inl (ko, 1, .inr (.inl ou))), (x, .inr (2, [.ref qc, .ref qg, .ref qa, .ref qt, .ref qm, .int (nI ph), .int (zI og), .long nh, .int nr, .int (nI na), .int (nI nt), .int mb, .long t1, .long t2]))] H := hP
  have hD : va_D A [(qc, .inr (0, [.ref qs, .ref qu, .ref qw, .ref qb, .ref qe])), (qs, .inl (ks, 256, .inl (nF SBN))), (qu, .inl (ku, 256, .inl (nF UBN))), (qw, .inl (kw, 44, .inl w)), (qb, .inl (kb, 16, .inl (nF b))), (qe, .inl (ke, 16, .inl (nF z))), (qg, .inr (1, [.long yh, .long yl])), (qa, .inl (ka, 48, .inl (nF ab))), (qt, .inl (kt, 96, .inl (nF tb))), (qm, .inl (km, 16, .inl (nF mk))), (o, .inr (3, [.int th, .int (nI ph), .int (zI og), .ref rx, .ref rk, .ref rw, .ref rb, .ref rn, .long mh, .long ml, .long nh, .int nr, .int (nI pa), .ref rd, .int (nI nt), .ref rg, .long u1, .long u2])), (rx, .inl (jx, 256, .inl (nF SBN))), (rk, .inl (jk, 256, .inl (nF UBN))), (rw, .inl (jw, 44, .inl w)), (rb, .inl (jb, 16, .inl (nF b2))), (rn, .inl (jn, 16, .inl (nF z2))), (rd, .inl (jd, 48, .inl (nF bd))), (rg, .inl (jg, 96, .inl (nF gv))), (qo, .inl (ko, 1, .inr (.inl ou))), (x, .inr (2, [.ref qc, .ref qg, .ref qa, .ref qt, .ref qm, .int (nI ph), .int (zI og), .long nh, .int nr, .int (nI na), .int (nI nt), .int mb, .long t1, .long t2]))] := hD
  refine W.widen (k := 21 + k) (n := 1775 + 6 * k) (by show 21 + k + 0 ≤ 21 + k; omega) (by show 1775 + 6 * k + 0 ≤ 1775 + 6 * k; omega) ?_
  refine w_pc (pc2 := 1343) rfl ?_
  refine lv_aload_n hx hb dL_law_1343 rfl (lv_at hl 2 rfl) ?_
  refine cf_1 (wr := [(qc, .inr (0, [.ref qs, .ref qu, .ref qw, .ref qb, .ref qe])), (qs, .inl (ks, 256, .inl (nF SBN))), (qu, .inl (ku, 256, .inl (nF UBN))), (qw, .inl (kw, 44, .inl w)), (qb, .inl (kb, 16, .inl (nF b))), (qe, .inl (ke, 16, .inl (nF z))), (qg, .inr (1, [.long yh, .long yl])), (qa, .inl (ka, 48, .inl (nF ab))), (qt, .inl (kt, 96, .inl (nF tb))), (qm, .inl (km, 16, .inl (nF mk))), (rx, .inl (jx, 256, .inl (nF SBN))), (rk, .inl (jk, 256, .inl (nF UBN))), (rw, .inl (jw, 44, .inl w)), (rb, .inl (jb, 16, .inl (nF b2))), (rn, .inl (jn, 16, .inl (nF z2))), (rd, .inl (jd, 48, .inl (nF bd))), (rg, .inl (jg, 96, .inl (nF gv))), (qo, .inl (ko, 1, .inr (.inl ou))), (x, .inr (2, [.ref qc, .ref qg, .ref qa, .ref qt, .ref qm, .int (nI ph), .int (zI og), .long nh, .int nr, .int (nI na), .int (nI nt), .int mb, .long t1, .long t2]))]) (va_runV (As := []) (rest := [.int (nI ph)]) ⟨hx, hb, hml, hown, hta⟩ (MO.to (m_phase l dC dI o th ph og rx rk rw rb rn mh ml nh nr pa rd nt rg u1 u2) H.size) (cwV 0 hta (aw_V mw_630 mw_627 mw_628 mw_629 mw_5) rfl rfl rfl ⟨rfl, dyX3_phase⟩ ⟨(Nat.le_of_ble_eq_true rfl), (Nat.le_of_ble_eq_true rfl)⟩) (pr_V hP hD hK hE [10] [] (by decide) rfl rfl rfl rfl) rfl rfl hl.1 rfl (lv_room (Nat.le_of_ble_eq_true rfl)) dL_law_1344 ⟨by show 21 + k + 0 ≤ 601024; omega, by show 1775 + 6 * k + 0 ≤ 7293034; omega⟩) hP hD hS hA [10] [0, 1, 2, 3, 4, 5, 6, 7, 8, 9, 11, 12, 13, 14, 15, 16, 17, 18, 19] rfl rfl (by decide) (by decide) (fun H locs hP hD hS => ?_)
  have hP : va_P (dC, dI) vwCl [(qc, .inr (0, [.ref qs, .ref qu, .ref qw, .ref qb, .ref qe])), (qs, .inl (ks, 256, .inl (nF SBN))), (qu, .inl (ku, 256, .inl (nF UBN))), (qw, .inl (kw, 44, .inl w)), (qb, .inl (kb, 16, .inl (nF b))), (qe, .inl (ke, 16, .inl (nF z))), (qg, .inr (1, [.long yh, .long yl])), (qa, .inl (ka, 48, .inl (nF ab))), (qt, .inl (kt, 96, .inl (nF tb))), (qm, .inl (km, 16, .inl (nF mk))), (rx, .inl (jx, 256, .inl (nF SBN))), (rk, .inl (jk, 256, .inl (nF UBN))), (rw, .inl (jw, 44, .inl w)), (rb, .inl (jb, 16, .inl (nF b2))), (rn, .inl (jn, 16, .inl (nF z2))), (rd, .inl (jd, 48, .inl (nF bd))), (rg, .inl (jg, 96, .inl (nF gv))), (qo, .inl (ko, 1, .inr (.inl ou))), (x, .inr (2, [.ref qc, .ref qg, .ref qa, .ref qt, .ref qm, .int (nI ph), .int (zI og), .long nh, .int nr, .int (nI na), .int (nI nt), .int mb, .long t1, .long t2])), (o, .inr (3, [.int (nI 0), .int (nI ph), .int (zI og), .ref rx, .ref rk, .ref rw, .ref rb, .ref rn, .long mh, .long ml, .long nh, .int nr, .int (nI pa), .ref rd, .int (nI nt), .ref rg, .long u1, .long u2]))] H := hP
  have hD : va_D A [(qc, .inr (0, [.ref qs, .ref qu, .ref qw, .ref qb, .ref qe])), (qs, .inl (ks, 256, .inl (nF SBN))), (qu, .inl (ku, 256, .inl (nF UBN))), (qw, .inl (kw, 44, .inl w)), (qb, .inl (kb, 16, .inl (nF b))), (qe, .inl (ke, 16, .inl (nF z))), (qg, .inr (1, [.long yh, .long yl])), (qa, .inl (ka, 48, .inl (nF ab))), (qt, .inl (kt, 96, .inl (nF tb))), (qm, .inl (km, 16, .inl (nF mk))), (rx, .inl (jx, 256, .inl (nF SBN))), (rk, .inl (jk, 256, .inl (nF UBN))), (rw, .inl (jw, 44, .inl w)), (rb, .inl (jb, 16, .inl (nF b2))), (rn, .inl (jn, 16, .inl (nF z2))), (rd, .inl (jd, 48, .inl (nF bd))), (rg, .inl (jg, 96, .inl (nF gv))), (qo, .inl (ko, 1, .inr (.inl ou))), (x, .inr (2, [.ref qc, .ref qg, .ref qa, .ref qt, .ref qm, .int (nI ph), .int (zI og), .long nh, .int nr, .int (nI na), .int (nI nt), .int mb, .long t1, .long t2])), (o, .inr (3, [.int (nI 0), .int (nI ph), .int (zI og), .ref rx, .ref rk, .ref rw, .ref rb, .ref rn, .long mh, .long ml, .long nh, .int nr, .int (nI pa), .ref rd, .int (nI nt), .ref rg, .long u1, .long u2]))] := hD
  refine W.widen (k := 21 + k) (n := 1775 + 6 * k) (by show 21 + k + 0 ≤ 21 + k; omega) (by show 1775 + 6 * k + 0 ≤ 1775 + 6 * k; omega) ?_
  refine w_pc (pc2 := 1347) rfl ?_
  refine lv_icmp_eq (tgt := 1352) hx hb dL_law_1347 (by decide) (fun hc_1347 => ?_) (fun hc_1347 => ?_)
  · skip
    have hc_1347 := (ix_eq (a := ph) (b := ph) (by omega) (by omega)).mp hc_1347
    have hc_1347 : (ph = ph) := hc_1347
    refine lv_iinc (v := nI (10 * (k + 1))) (k := 4) hx hb dL_law_1352 hl rfl ((ix_inc _ 10).trans (congrArg nI (by omega))) (by decide) rfl (fun ls hl => ?_)
    have hl : lv_has ls 8 [(4, .int (nI (10 * (k + 1)))), (0, .ref sa), (1, .ref x), (2, .ref o), (3, .ref qo)] := hl
    refine lv_goto (tgt := 23) hx hb dL_law_1355 (by decide) ?_
    refine W.widen (k := 21 + (k + 1)) (n := 1775 + 6 * (k + 1)) (by omega) (by omega) ?_
    exact hd w b z mk ab tb yh yl ph og nh nr na nt mb t1 t2 (nI 0) b2 z2 bd gv mh ml u1 u2 pa ou ls H locs (hI9) (lv_sub hl [1, 2, 3, 4, 0] rfl) (hP.sub [18, 0, 1, 2, 3, 4, 5, 6, 7, 8, 9, 19, 10, 11, 12, 13, 14, 15, 16, 17] rfl) (hD.sub [18, 0, 1, 2, 3, 4, 5, 6, 7, 8, 9, 19, 10, 11, 12, 13, 14, 15, 16, 17] (by decide) rfl) hS
  · skip
    have hc_1347 := (not_congr (ix_eq (a := ph) (b := ph) (by omega) (by omega))).mp hc_1347
    have hc_1347 : ¬ (ph = ph) := hc_1347
    exfalso; omega

set_option maxHeartbeats 4000000 in
set_option maxRecDepth 100000 in
/-- lc_none -/
theorem lc_none (p : Program) (l : Launch) (e : Env) (s : State) (m : MethodId) (args : Array Value) (below : List Frame) (meth : Method) (c : Code) (Q : State → Prop) (A : Nat → Prop) (dC : Nat → ClassId) (dI : Nat → Nat → Nat) (sa : Nat) (x : Nat) (qc : Nat) (qs : Nat) (qu : Nat) (qw : Nat) (qb : Nat) (qe : Nat) (qg : Nat) (qa : Nat) (qt : Nat) (qm : Nat) (ks : ClassId) (ku : ClassId) (kw : ClassId) (kb : ClassId) (ke : ClassId) (ka : ClassId) (kt : ClassId) (km : ClassId) (o : Nat) (rx : Nat) (rk : Nat) (rw : Nat) (rb : Nat) (rn : Nat) (rd : Nat) (rg : Nat) (jx : ClassId) (jk : ClassId) (jw : ClassId) (jb : ClassId) (jn : ClassId) (jd : ClassId) (jg : ClassId) (qo : Nat) (ko : ClassId) (L : Nat) (xs : Nat → Int32) (k : Nat) (hx : p.tables.exec = Jvm.exec) (hb : c.code = cL_law) (hml : c.maxLocals = 8) (hta : ∀ w ∈ AW, w.before args s = true) (hown : s.vm.findClass RL = some m.cls) (hE : EX s) (hT : TX s) (hZ : ZT A s s.heap) (hst : l.stackTraces = false) (hA : ∀ q, s.heap.size ≤ q → A q) (hK : va_K (dC, dI) vwCl [(ks, .int), (ku, .int), (kw, .int), (kb, .int), (ke, .int), (ka, .int), (kt, .int), (km, .int), (jx, .int), (jk, .int), (jw, .int), (jb, .int), (jn, .int), (jd, .int), (jg, .int), (ko, .long)] s) (hX : va_X sa L xs s s.heap) (hbl : sa < s.heap.size) (hbA : ¬ A sa) (hL : L ≤ 5120) (hk : 10 * k + 10 ≤ L) (hd : HD p l e s m args below meth c Q A dC dI sa x qc qs qu qw qb qe qg qa qt qm ks ku kw kb ke ka kt km o rx rk rw rb rn rd rg jx jk jw jb jn jd jg qo ko (k + 1)) (w : Nat → Int32) (b : Nat → Nat) (z : Nat → Nat) (mk : Nat → Nat) (ab : Nat → Nat) (tb : Nat → Nat) (yh : Int64) (yl : Int64) (ph : Nat) (og : Bool) (nh : Int64) (nr : Int32) (na : Nat) (nt : Nat) (mb : Int32) (t1 : Int64) (t2 : Int64) (th : Int32) (b2 : Nat → Nat) (z2 : Nat → Nat) (bd : Nat → Nat) (gv : Nat → Nat) (mh : Int64) (ml : Int64) (u1 : Int64) (u2 : Int64) (pa : Nat) (ou : Nat → Int64) (ls : Array Slot) (H : Heap) (locs : List Loc) (hI : INV w ph og nh nr na pa nt mb mk ab bd tb gv t1 t2 u1 u2) (hl : lv_has ls 8 [(0, .ref sa), (1, .ref x), (2, .ref o), (3, .ref qo), (4, .int (nI (10 * k)))]) (hP : va_P (dC, dI) vwCl [(x, .inr (2, [.ref qc, .ref qg, .ref qa, .ref qt, .ref qm, .int (nI ph), .int (zI og), .long nh, .int nr, .int (nI na), .int (nI nt), .int mb, .long t1, .long t2])), (qc, .inr (0, [.ref qs, .ref qu, .ref qw, .ref qb, .ref qe])), (qs, .inl (ks, 256, .inl (nF SBN))), (qu, .inl (ku, 256, .inl (nF UBN))), (qw, .inl (kw, 44, .inl w)), (qb, .inl (kb, 16, .inl (nF b))), (qe, .inl (ke, 16, .inl (nF z))), (qg, .inr (1, [.long yh, .long yl])), (qa, .inl (ka, 48, .inl (nF ab))), (qt, .inl (kt, 96, .inl (nF tb))), (qm, .inl (km, 16, .inl (nF mk))), (o, .inr (3, [.int th, .int (nI ph), .int (zI og), .ref rx, .ref rk, .ref rw, .ref rb, .ref rn, .long mh, .long ml, .long nh, .int nr, .int (nI pa), .ref rd, .int (nI nt), .ref rg, .long u1, .long u2])), (rx, .inl (jx, 256, .inl (nF SBN))), (rk, .inl (jk, 256, .inl (nF UBN))), (rw, .inl (jw, 44, .inl w)), (rb, .inl (jb, 16, .inl (nF b2))), (rn, .inl (jn, 16, .inl (nF z2))), (rd, .inl (jd, 48, .inl (nF bd))), (rg, .inl (jg, 96, .inl (nF gv))), (qo, .inl (ko, 1, .inr (.inl ou)))] H) (hD : va_D A [(x, .inr (2, [.ref qc, .ref qg, .ref qa, .ref qt, .ref qm, .int (nI ph), .int (zI og), .long nh, .int nr, .int (nI na), .int (nI nt), .int mb, .long t1, .long t2])), (qc, .inr (0, [.ref qs, .ref qu, .ref qw, .ref qb, .ref qe])), (qs, .inl (ks, 256, .inl (nF SBN))), (qu, .inl (ku, 256, .inl (nF UBN))), (qw, .inl (kw, 44, .inl w)), (qb, .inl (kb, 16, .inl (nF b))), (qe, .inl (ke, 16, .inl (nF z))), (qg, .inr (1, [.long yh, .long yl])), (qa, .inl (ka, 48, .inl (nF ab))), (qt, .inl (kt, 96, .inl (nF tb))), (qm, .inl (km, 16, .inl (nF mk))), (o, .inr (3, [.int th, .int (nI ph), .int (zI og), .ref rx, .ref rk, .ref rw, .ref rb, .ref rn, .long mh, .long ml, .long nh, .int nr, .int (nI pa), .ref rd, .int (nI nt), .ref rg, .long u1, .long u2])), (rx, .inl (jx, 256, .inl (nF SBN))), (rk, .inl (jk, 256, .inl (nF UBN))), (rw, .inl (jw, 44, .inl w)), (rb, .inl (jb, 16, .inl (nF b2))), (rn, .inl (jn, 16, .inl (nF z2))), (rd, .inl (jd, 48, .inl (nF bd))), (rg, .inl (jg, 96, .inl (nF gv))), (qo, .inl (ko, 1, .inr (.inl ou)))]) (hS : va_S A s.heap H locs)   : W p l e room_1 s m args below meth c H locs (21 + k) (1775 + 6 * k) Q (F0 m 1352 ls []) := by
  have hI9 := hI
  obtain ⟨hph6, hnt, a256, d256, t256, g256, hne, h33, h45⟩ := hI
  refine lv_iinc (v := nI (10 * (k + 1))) (k := 4) hx hb dL_law_1352 hl rfl ((ix_inc _ 10).trans (congrArg nI (by omega))) (by decide) rfl (fun ls hl => ?_)
  have hl : lv_has ls 8 [(4, .int (nI (10 * (k + 1)))), (0, .ref sa), (1, .ref x), (2, .ref o), (3, .ref qo)] := hl
  refine lv_goto (tgt := 23) hx hb dL_law_1355 (by decide) ?_
  refine W.widen (k := 21 + (k + 1)) (n := 1775 + 6 * (k + 1)) (by omega) (by omega) ?_
  exact hd w b z mk ab tb yh yl ph og nh nr na nt mb t1 t2 th b2 z2 bd gv mh ml u1 u2 pa ou ls H locs (hI9) (lv_sub hl [1, 2, 3, 4, 0] rfl) (hP.sub [0, 1, 2, 3, 4, 5, 6, 7, 8, 9, 10, 11, 12, 13, 14, 15, 16, 17, 18, 19] rfl) (hD.sub [0, 1, 2, 3, 4, 5, 6, 7, 8, 9, 10, 11, 12, 13, 14, 15, 16, 17, 18, 19] (by decide) rfl) hS

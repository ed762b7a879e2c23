def rm_l_word_y : Room := { frames := 2, cells := 0, slots := 0, locals := 42 }
set_option maxHeartbeats 4000000 in
set_option maxRecDepth 100000 in
/-- word, where it answers -/
theorem l_word_y (l : Launch) (dC : Nat → ClassId) (dI : Nat → Nat → Nat) (x : Nat) (qc : Nat) (qg : Nat) (qa : Nat) (qt : Nat) (qm : Nat) (ph : Nat) (og : Bool) (nh : Int64) (nr : Int32) (na : Nat) (nt : Nat) (mb : Int32) (t1 : Int64) (t2 : Int64) (qs : Nat) (qu : Nat) (qw : Nat) (qb : Nat) (qe : Nat) (kw : ClassId) (w : Nat → Int32) (j : Nat) (qo : Nat) (ko : ClassId) (ou : Nat → Int64) (hj : j < 44) : MO l dC dI yL_word wsL_word rm_l_word_y [.ref x, .int (nI j), .ref qo] [(x, .inr (2, [.ref qc, .ref qg, .ref qa, .ref qt, .ref qm, .int (nI ph), .int (zI og), .long nh, .int nr, .int (nI na), .int (nI nt), .int mb, .long t1, .long t2])), (qc, .inr (0, [.ref qs, .ref qu, .ref qw, .ref qb, .ref qe])), (qw, .inl (kw, 44, .inl w)), (qo, .inl (ko, 1, .inr (.inl ou)))] [(kw, .int), (ko, .long)] [(x, .inr (2, [.ref qc, .ref qg, .ref qa, .ref qt, .ref qm, .int (nI ph), .int (zI og), .long nh, .int nr, .int (nI na), .int (nI nt), .int mb, .long t1, .long t2])), (qc, .inr (0, [.ref qs, .ref qu, .ref qw, .ref qb, .ref qe])), (qw, .inl (kw, 44, .inl w)), (qo, .inl (ko, 1, .inr (.inl (vp_updL ou 0 ((w j).toInt64)))))] (some (.int (nI 0))) := by
  refine mo_ofWH (cc := cL_word) (maxL := 4) (ret := (some .int)) (by decide) rfl (Nat.le_of_ble_eq_true rfl) ?_
  intro p e s m args below meth c Q A H locs ls hx hb hr hlk hml hta hown hin hE hQ hAe hA hK hP hD hS hl
  have hown : s.vm.findClass RL = some m.cls := hown
  have hl : lv_has ls 4 [(0, .ref x), (1, .int (nI j)), (2, .ref qo)] := hl
  refine lv_aload_n hx hb dL_word_0 rfl (lv_at hl 2 rfl) ?_
  refine lv_iconst (v := nI 0) hx hb dL_word_1 (by decide) ?_
  refine lv_aload_n hx hb dL_word_2 rfl (lv_at hl 0 rfl) ?_
  refine lv_iload_n hx hb dL_word_3 rfl (lv_at hl 1 rfl) ?_
  refine cf_1 (wr := [(qo, .inl (ko, 1, .inr (.inl ou)))]) (va_runV (As := [.int (nI j)]) (rest := [.int (nI 0), .ref qo]) ⟨hx, hb, hml, hown, hta⟩ (MO.to (c_word_y l dC dI x qc qg qa qt qm ph og nh nr na nt mb t1 t2 qs qu qw qb qe kw w j hj) H.size) (cwV 1 hta (aw_V mw_237 mw_234 mw_235 mw_236 mw_1) rfl rfl rfl ⟨rfl, dyX2_word⟩ ⟨(Nat.le_of_ble_eq_true rfl), (Nat.le_of_ble_eq_true rfl)⟩) (pr_V hP hD hK hE [0, 1, 2] [0] (by decide) rfl rfl rfl rfl) rfl rfl hl.1 rfl (lv_room (Nat.le_of_ble_eq_true rfl)) dL_word_4 ⟨(Nat.le_of_ble_eq_true rfl), (Nat.le_of_ble_eq_true rfl)⟩) hP hD hS hA [0, 1, 2] [3] rfl rfl (by decide) (by decide) (fun H locs hP hD hS => ?_)
  have hP : va_P (dC, dI) vwCl [(qo, .inl (ko, 1, .inr (.inl ou))), (x, .inr (2, [.ref qc, .ref qg, .ref qa, .ref qt, .ref qm, .int (nI ph), .int (zI og), .long nh, .int nr, .int (nI na), .int (nI nt), .int mb, .long t1, .long t2])), (qc, .inr (0, [.ref qs, .ref qu, .ref qw, .ref qb, .ref qe])), (qw, .inl (kw, 44, .inl w))] H := hP
  have hD : va_D A [(qo, .inl (ko, 1, .inr (.inl ou))), (x, .inr (2, [.ref qc, .ref qg, .ref qa, .ref qt, .ref qm, .int (nI ph), .int (zI og), .long nh, .int nr, .int (nI na), .int (nI nt), .int mb, .long t1, .long t2])), (qc, .inr (0, [.ref qs, .ref qu, .ref qw, .ref qb, .ref qe])), (qw, .inl (kw, 44, .inl w))] := hD
  refine W.widen (k := 0) (n := 0) (Nat.le_of_ble_eq_true rfl) (Nat.le_of_ble_eq_true rfl) ?_
  refine w_pc (pc2 := 7) rfl ?_
  refine lv_i2l hx hb dL_word_7 rfl ?_
  refine va_lasn hx hb hK hP hD hS 0 1 rfl rfl (by omega) (by decide) dL_word_8 (fun H locs hP hD hS => ?_)
  have hP : va_P (dC, dI) vwCl [(qo, .inl (ko, 1, .inr (.inl (vp_updL ou 0 ((w j).toInt64))))), (x, .inr (2, [.ref qc, .ref qg, .ref qa, .ref qt, .ref qm, .int (nI ph), .int (zI og), .long nh, .int nr, .int (nI na), .int (nI nt), .int mb, .long t1, .long t2])), (qc, .inr (0, [.ref qs, .ref qu, .ref qw, .ref qb, .ref qe])), (qw, .inl (kw, 44, .inl w))] H := hP
  have hD : va_D A [(qo, .inl (ko, 1, .inr (.inl (vp_updL ou 0 ((w j).toInt64))))), (x, .inr (2, [.ref qc, .ref qg, .ref qa, .ref qt, .ref qm, .int (nI ph), .int (zI og), .long nh, .int nr, .int (nI na), .int (nI nt), .int mb, .long t1, .long t2])), (qc, .inr (0, [.ref qs, .ref qu, .ref qw, .ref qb, .ref qe])), (qw, .inl (kw, 44, .inl w))] := hD
  refine lv_goto (tgt := 15) hx hb dL_word_9 (by decide) ?_
  refine lv_iconst (v := nI 0) hx hb dL_word_15 (by decide) ?_
  exact rt_i hx hb hr hlk hQ hAe hP hD hS [1, 2, 3, 0] (by decide) rfl (Nat.le_of_ble_eq_true rfl) (Nat.le_of_ble_eq_true rfl) (rfl) dL_word_16

def rm_l_word_n : Room := { frames := 7, cells := 1, slots := 6, locals := 111 }
set_option maxHeartbeats 4000000 in
set_option maxRecDepth 100000 in
/-- word, where it throws -/
theorem l_word_n (l : Launch) (dC : Nat → ClassId) (dI : Nat → Nat → Nat) (x : Nat) (qc : Nat) (qg : Nat) (qa : Nat) (qt : Nat) (qm : Nat) (ph : Nat) (og : Bool) (nh : Int64) (nr : Int32) (na : Nat) (nt : Nat) (mb : Int32) (t1 : Int64) (t2 : Int64) (v : Int32) (qo : Nat) (hst : l.stackTraces = false) (hno : v < 0 ∨ nI 44 ≤ v) : MOT l dC dI yL_word wsL_word rm_l_word_n [.ref x, .int v, .ref qo] [(x, .inr (2, [.ref qc, .ref qg, .ref qa, .ref qt, .ref qm, .int (nI ph), .int (zI og), .long nh, .int nr, .int (nI na), .int (nI nt), .int mb, .long t1, .long t2]))] [] [(x, .inr (2, [.ref qc, .ref qg, .ref qa, .ref qt, .ref qm, .int (nI ph), .int (zI og), .long nh, .int nr, .int (nI na), .int (nI nt), .int mb, .long t1, .long t2]))] (some (.int (nI 1))) := by
  refine mot_ofWH (cc := cL_word) (maxL := 4) (ret := (some .int)) (by decide) rfl (Nat.le_of_ble_eq_true rfl) ?_
  intro p e s m args below meth c Q A H locs ls hx hb hr hlk hml hta hown hin hE hT hZ htab hQ hAe hA hK hP hD hS hl
  have hown : s.vm.findClass RL = some m.cls := hown
  have hl : lv_has ls 4 [(0, .ref x), (1, .int v), (2, .ref qo)] := hl
  refine lv_aload_n hx hb dL_word_0 rfl (lv_at hl 2 rfl) ?_
  refine lv_iconst (v := nI 0) hx hb dL_word_1 (by decide) ?_
  refine lv_aload_n hx hb dL_word_2 rfl (lv_at hl 0 rfl) ?_
  refine lv_iload_n hx hb dL_word_3 rfl (lv_at hl 1 rfl) ?_
  refine ct_catch (wr := []) (vx_runV (As := [.int v]) (rest := [.int (nI 0), .ref qo]) ⟨hx, hb, hml, hown, hta⟩ (MT.to (t_word l dC dI x qc qg qa qt qm ph og nh nr na nt mb t1 t2 v hst hno) H.size) (cwV 1 hta (aw_V mw_237 mw_234 mw_235 mw_236 mw_1) rfl rfl rfl ⟨rfl, dyX2_word⟩ ⟨(Nat.le_of_ble_eq_true rfl), (Nat.le_of_ble_eq_true rfl)⟩) (pt_V hP hD hK hE hT hZ hS hA [0] [] (by decide) rfl rfl rfl rfl) rfl rfl hl.1 rfl (lv_room (Nat.le_of_ble_eq_true rfl)) dL_word_4 ⟨(Nat.le_of_ble_eq_true rfl), (Nat.le_of_ble_eq_true rfl)⟩) hown [] ⟨0, 9, 12, 13⟩ [] htab (fun z9 hz9 => by cases hz9) (by decide) (by decide) (hta _ mw_233) (va_Nw.use rfl hT.1) hP hD hS hA [0] [] rfl rfl (by decide) (by decide) (fun q4 H locs hP hD hS => ?_)
  have hP : va_P (dC, dI) vwCl [(x, .inr (2, [.ref qc, .ref qg, .ref qa, .ref qt, .ref qm, .int (nI ph), .int (zI og), .long nh, .int nr, .int (nI na), .int (nI nt), .int mb, .long t1, .long t2]))] H := hP
  have hD : va_D A [(x, .inr (2, [.ref qc, .ref qg, .ref qa, .ref qt, .ref qm, .int (nI ph), .int (zI og), .long nh, .int nr, .int (nI na), .int (nI nt), .int mb, .long t1, .long t2]))] := hD
  refine W.widen (k := 1) (n := 6) (Nat.le_of_ble_eq_true rfl) (Nat.le_of_ble_eq_true rfl) ?_
  refine w_pc (pc2 := 12) rfl ?_
  refine lv_astore_n hx hb dL_word_12 rfl hl (by decide) rfl (fun ls hl => ?_)
  have hl : lv_has ls 4 [(3, .ref q4), (0, .ref x), (1, .int v), (2, .ref qo)] := hl
  refine lv_iconst (v := nI 1) hx hb dL_word_13 (by decide) ?_
  exact rt_i hx hb hr hlk hQ hAe hP hD hS [0] (by decide) rfl (Nat.le_of_ble_eq_true rfl) (Nat.le_of_ble_eq_true rfl) (rfl) dL_word_14

def rm_l_aside_y : Room := { frames := 2, cells := 0, slots := 0, locals := 46 }
set_option maxHeartbeats 4000000 in
set_option maxRecDepth 100000 in
/-- aside, where it answers -/
theorem l_aside_y (l : Launch) (dC : Nat → ClassId) (dI : Nat → Nat → Nat) (x : Nat) (qc : Nat) (qg : Nat) (qa : Nat) (qt : Nat) (qm : Nat) (ph : Nat) (og : Bool) (nh : Int64) (nr : Int32) (na : Nat) (nt : Nat) (mb : Int32) (t1 : Int64) (t2 : Int64) (ka : ClassId) (ab : Nat → Nat) (y : Int64) (cn : Nat) (qo : Nat) (ko : ClassId) (ou : Nat → Int64) (hph : ph = 1) (hcn : cn ≤ 8) (hna : na + cn ≤ 48) : MO l dC dI yL_aside wsL_aside rm_l_aside_y [.ref x, .long y, .int (nI cn), .ref qo] [(x, .inr (2, [.ref qc, .ref qg, .ref qa, .ref qt, .ref qm, .int (nI ph), .int (zI og), .long nh, .int nr, .int (nI na), .int (nI nt), .int mb, .long t1, .long t2])), (qa, .inl (ka, 48, .inl (nF ab))), (qo, .inl (ko, 1, .inr (.inl ou)))] [(ka, .int), (ko, .long)] [(x, .inr (2, [.ref qc, .ref qg, .ref qa, .ref qt, .ref qm, .int (nI ph), .int (zI og), .long nh, .int nr, .int (nI (na + cn)), .int (nI nt), .int mb, .long t1, .long t2])), (qa, .inl (ka, 48, .inl (nF (ofl (pbN y) ab na cn)))), (qo, .inl (ko, 1, .inr (.inl (vp_updL ou 0 (lN (na + cn))))))] (some (.int (nI 0))) := by
  refine mo_ofWH (cc := cL_aside) (maxL := 6) (ret := (some .int)) (by decide) rfl (Nat.le_of_ble_eq_true rfl) ?_
  intro p e s m args below meth c Q A H locs ls hx hb hr hlk hml hta hown hin hE hQ hAe hA hK hP hD hS hl
  have hown : s.vm.findClass RL = some m.cls := hown
  have hl : lv_has ls 6 [(0, .ref x), (1, .long y), (3, .int (nI cn)), (4, .ref qo)] := hl
  refine lv_aload hx hb dL_aside_0 (lv_at hl 3 rfl) ?_
  refine lv_iconst (v := nI 0) hx hb dL_aside_2 (by decide) ?_
  refine lv_aload_n hx hb dL_aside_3 rfl (lv_at hl 0 rfl) ?_
  refine lv_lload_n hx hb dL_aside_4 rfl (lv_at hl 1 rfl) ?_
  refine lv_iload_n hx hb dL_aside_5 rfl (lv_at hl 2 rfl) ?_
  refine cf_1 (wr := [(qo, .inl (ko, 1, .inr (.inl ou)))]) (va_runV (As := [.long y, .int (nI cn)]) (rest := [.int (nI 0), .ref qo]) ⟨hx, hb, hml, hown, hta⟩ (MO.to (c_aside_y l dC dI x qc qg qa qt qm ph og nh nr na nt mb t1 t2 ka ab y cn hph hcn hna) H.size) (cwV 2 hta (aw_V mw_315 mw_312 mw_313 mw_314 mw_1) rfl rfl rfl ⟨rfl, dyX2_aside⟩ ⟨(Nat.le_of_ble_eq_true rfl), (Nat.le_of_ble_eq_true rfl)⟩) (pr_V hP hD hK hE [0, 1] [0] (by decide) rfl rfl rfl rfl) rfl rfl hl.1 rfl (lv_room (Nat.le_of_ble_eq_true rfl)) dL_aside_6 ⟨(Nat.le_of_ble_eq_true rfl), (Nat.le_of_ble_eq_true rfl)⟩) hP hD hS hA [0, 1] [2] rfl rfl (by decide) (by decide) (fun H locs hP hD hS => ?_)
  have hP : va_P (dC, dI) vwCl [(qo, .inl (ko, 1, .inr (.inl ou))), (x, .inr (2, [.ref qc, .ref qg, .ref qa, .ref qt, .ref qm, .int (nI ph), .int (zI og), .long nh, .int nr, .int (nI (na + cn)), .int (nI nt), .int mb, .long t1, .long t2])), (qa, .inl (ka, 48, .inl (nF (ofl (pbN y) ab na cn))))] H := hP
  have hD : va_D A [(qo, .inl (ko, 1, .inr (.inl ou))), (x, .inr (2, [.ref qc, .ref qg, .ref qa, .ref qt, .ref qm, .int (nI ph), .int (zI og), .long nh, .int nr, .int (nI (na + cn)), .int (nI nt), .int mb, .long t1, .long t2])), (qa, .inl (ka, 48, .inl (nF (ofl (pbN y) ab na cn))))] := hD
  refine W.widen (k := 0) (n := 0) (Nat.le_of_ble_eq_true rfl) (Nat.le_of_ble_eq_true rfl) ?_
  refine w_pc (pc2 := 9) rfl ?_
  refine lv_i2l hx hb dL_aside_9 rfl (top_l (nI_l (by omega)) ?_)
  refine va_lasn hx hb hK hP hD hS 0 1 rfl rfl (by omega) (by decide) dL_aside_10 (fun H locs hP hD hS => ?_)
  have hP : va_P (dC, dI) vwCl [(qo, .inl (ko, 1, .inr (.inl (vp_updL ou 0 (lN (na + cn)))))), (x, .inr (2, [.ref qc, .ref qg, .ref qa, .ref qt, .ref qm, .int (nI ph), .int (zI og), .long nh, .int nr, .int (nI (na + cn)), .int (nI nt), .int mb, .long t1, .long t2])), (qa, .inl (ka, 48, .inl (nF (ofl (pbN y) ab na cn))))] H := hP
  have hD : va_D A [(qo, .inl (ko, 1, .inr (.inl (vp_updL ou 0 (lN (na + cn)))))), (x, .inr (2, [.ref qc, .ref qg, .ref qa, .ref qt, .ref qm, .int (nI ph), .int (zI og), .long nh, .int nr, .int (nI (na + cn)), .int (nI nt), .int mb, .long t1, .long t2])), (qa, .inl (ka, 48, .inl (nF (ofl (pbN y) ab na cn))))] := hD
  refine lv_goto (tgt := 26) hx hb dL_aside_11 (by decide) ?_
  refine lv_iconst (v := nI 0) hx hb dL_aside_26 (by decide) ?_
  exact rt_i hx hb hr hlk hQ hAe hP hD hS [1, 2, 0] (by decide) rfl (Nat.le_of_ble_eq_true rfl) (Nat.le_of_ble_eq_true rfl) (rfl) dL_aside_27

def rm_l_aside_1 : Room := { frames := 7, cells := 1, slots := 6, locals := 114 }
set_option maxHeartbeats 4000000 in
set_option maxRecDepth 100000 in
/-- aside, where it throws -/
theorem l_aside_1 (l : Launch) (dC : Nat → ClassId) (dI : Nat → Nat → Nat) (x : Nat) (qc : Nat) (qg : Nat) (qa : Nat) (qt : Nat) (qm : Nat) (ph : Nat) (og : Bool) (nh : Int64) (nr : Int32) (na : Nat) (nt : Nat) (mb : Int32) (t1 : Int64) (t2 : Int64) (y : Int64) (v : Int32) (qo : Nat) (hst : l.stackTraces = false) (hph6 : ph < 6) (hph : ¬ ph = 1) : MOT l dC dI yL_aside wsL_aside rm_l_aside_1 [.ref x, .long y, .int v, .ref qo] [(x, .inr (2, [.ref qc, .ref qg, .ref qa, .ref qt, .ref qm, .int (nI ph), .int (zI og), .long nh, .int nr, .int (nI na), .int (nI nt), .int mb, .long t1, .long t2]))] [] [(x, .inr (2, [.ref qc, .ref qg, .ref qa, .ref qt, .ref qm, .int (nI ph), .int (zI og), .long nh, .int nr, .int (nI na), .int (nI nt), .int mb, .long t1, .long t2]))] (some (.int (nI 1))) := by
  refine mot_ofWH (cc := cL_aside) (maxL := 6) (ret := (some .int)) (by decide) rfl (Nat.le_of_ble_eq_true rfl) ?_
  intro p e s m args below meth c Q A H locs ls hx hb hr hlk hml hta hown hin hE hT hZ htab hQ hAe hA hK hP hD hS hl
  have hown : s.vm.findClass RL = some m.cls := hown
  have hl : lv_has ls 6 [(0, .ref x), (1, .long y), (3, .int v), (4, .ref qo)] := hl
  refine lv_aload hx hb dL_aside_0 (lv_at hl 3 rfl) ?_
  refine lv_iconst (v := nI 0) hx hb dL_aside_2 (by decide) ?_
  refine lv_aload_n hx hb dL_aside_3 rfl (lv_at hl 0 rfl) ?_
  refine lv_lload_n hx hb dL_aside_4 rfl (lv_at hl 1 rfl) ?_
  refine lv_iload_n hx hb dL_aside_5 rfl (lv_at hl 2 rfl) ?_
  refine ct_catch (wr := []) (vx_runV (As := [.long y, .int v]) (rest := [.int (nI 0), .ref qo]) ⟨hx, hb, hml, hown, hta⟩ (MT.to (t_aside1 l dC dI x qc qg qa qt qm ph og nh nr na nt mb t1 t2 y v hst hph6 hph) H.size) (cwV 2 hta (aw_V mw_315 mw_312 mw_313 mw_314 mw_1) rfl rfl rfl ⟨rfl, dyX2_aside⟩ ⟨(Nat.le_of_ble_eq_true rfl), (Nat.le_of_ble_eq_true rfl)⟩) (pt_V hP hD hK hE hT hZ hS hA [0] [] (by decide) rfl rfl rfl rfl) rfl rfl hl.1 rfl (lv_room (Nat.le_of_ble_eq_true rfl)) dL_aside_6 ⟨(Nat.le_of_ble_eq_true rfl), (Nat.le_of_ble_eq_true rfl)⟩) hown [] ⟨0, 11, 14, 19⟩ [⟨0, 11, 18, 21⟩, ⟨0, 11, 22, 23⟩] htab (fun z9 hz9 => by cases hz9) (by decide) (by decide) (hta _ mw_309) (va_Nw.use rfl hT.2.1) hP hD hS hA [0] [] rfl rfl (by decide) (by decide) (fun q6 H locs hP hD hS => ?_)
  have hP : va_P (dC, dI) vwCl [(x, .inr (2, [.ref qc, .ref qg, .ref qa, .ref qt, .ref qm, .int (nI ph), .int (zI og), .long nh, .int nr, .int (nI na), .int (nI nt), .int mb, .long t1, .long t2]))] H := hP
  have hD : va_D A [(x, .inr (2, [.ref qc, .ref qg, .ref qa, .ref qt, .ref qm, .int (nI ph), .int (zI og), .long nh, .int nr, .int (nI na), .int (nI nt), .int mb, .long t1, .long t2]))] := hD
  refine W.widen (k := 1) (n := 6) (Nat.le_of_ble_eq_true rfl) (Nat.le_of_ble_eq_true rfl) ?_
  refine w_pc (pc2 := 14) rfl ?_
  refine lv_astore hx hb dL_aside_14 hl (by decide) rfl (fun ls hl => ?_)
  have hl : lv_has ls 6 [(5, .ref q6), (0, .ref x), (1, .long y), (3, .int v), (4, .ref qo)] := hl
  refine lv_iconst (v := nI 1) hx hb dL_aside_16 (by decide) ?_
  exact rt_i hx hb hr hlk hQ hAe hP hD hS [0] (by decide) rfl (Nat.le_of_ble_eq_true rfl) (Nat.le_of_ble_eq_true rfl) (rfl) dL_aside_17

def rm_l_aside_2 : Room := { frames := 8, cells := 1, slots := 6, locals := 136 }
set_option maxHeartbeats 4000000 in
set_option maxRecDepth 100000 in
/-- aside, where it throws -/
theorem l_aside_2 (l : Launch) (dC : Nat → ClassId) (dI : Nat → Nat → Nat) (x : Nat) (qc : Nat) (qg : Nat) (qa : Nat) (qt : Nat) (qm : Nat) (ph : Nat) (og : Bool) (nh : Int64) (nr : Int32) (na : Nat) (nt : Nat) (mb : Int32) (t1 : Int64) (t2 : Int64) (y : Int64) (v : Int32) (qo : Nat) (hst : l.stackTraces = false) (hph : ph = 1) (hno : v < 0 ∨ nI 9 ≤ v) : MOT l dC dI yL_aside wsL_aside rm_l_aside_2 [.ref x, .long y, .int v, .ref qo] [(x, .inr (2, [.ref qc, .ref qg, .ref qa, .ref qt, .ref qm, .int (nI ph), .int (zI og), .long nh, .int nr, .int (nI na), .int (nI nt), .int mb, .long t1, .long t2]))] [] [(x, .inr (2, [.ref qc, .ref qg, .ref qa, .ref qt, .ref qm, .int (nI ph), .int (zI og), .long nh, .int nr, .int (nI na), .int (nI nt), .int mb, .long t1, .long t2]))] (some (.int (nI 2))) := by
  refine mot_ofWH (cc := cL_aside) (maxL := 6) (ret := (some .int)) (by decide) rfl (Nat.le_of_ble_eq_true rfl) ?_
  intro p e s m args below meth c Q A H locs ls hx hb hr hlk hml hta hown hin hE hT hZ htab hQ hAe hA hK hP hD hS hl
  have hown : s.vm.findClass RL = some m.cls := hown
  have hl : lv_has ls 6 [(0, .ref x), (1, .long y), (3, .int v), (4, .ref qo)] := hl
  refine lv_aload hx hb dL_aside_0 (lv_at hl 3 rfl) ?_
  refine lv_iconst (v := nI 0) hx hb dL_aside_2 (by decide) ?_
  refine lv_aload_n hx hb dL_aside_3 rfl (lv_at hl 0 rfl) ?_
  refine lv_lload_n hx hb dL_aside_4 rfl (lv_at hl 1 rfl) ?_
  refine lv_iload_n hx hb dL_aside_5 rfl (lv_at hl 2 rfl) ?_
  refine ct_catch (wr := []) (vx_runV (As := [.long y, .int v]) (rest := [.int (nI 0), .ref qo]) ⟨hx, hb, hml, hown, hta⟩ (MT.to (t_aside2 l dC dI x qc qg qa qt qm ph og nh nr na nt mb t1 t2 y v hst hph hno) H.size) (cwV 2 hta (aw_V mw_315 mw_312 mw_313 mw_314 mw_1) rfl rfl rfl ⟨rfl, dyX2_aside⟩ ⟨(Nat.le_of_ble_eq_true rfl), (Nat.le_of_ble_eq_true rfl)⟩) (pt_V hP hD hK hE hT hZ hS hA [0] [] (by decide) rfl rfl rfl rfl) rfl rfl hl.1 rfl (lv_room (Nat.le_of_ble_eq_true rfl)) dL_aside_6 ⟨(Nat.le_of_ble_eq_true rfl), (Nat.le_of_ble_eq_true rfl)⟩) hown [⟨0, 11, 14, 19⟩] ⟨0, 11, 18, 21⟩ [⟨0, 11, 22, 23⟩] htab (fun z9 hz9 => Or.inr ((List.mem_cons.mp hz9).elim (fun h9 => by subst h9; exact ⟨by decide, sIS, hta _ mw_309, hT.2.2.2.2.1⟩) (fun h9 => by cases h9))) (by decide) (by decide) (hta _ mw_310) (va_Nw.use rfl hT.2.2.1) hP hD hS hA [0] [] rfl rfl (by decide) (by decide) (fun q6 H locs hP hD hS => ?_)
  have hP : va_P (dC, dI) vwCl [(x, .inr (2, [.ref qc, .ref qg, .ref qa, .ref qt, .ref qm, .int (nI ph), .int (zI og), .long nh, .int nr, .int (nI na), .int (nI nt), .int mb, .long t1, .long t2]))] H := hP
  have hD : va_D A [(x, .inr (2, [.ref qc, .ref qg, .ref qa, .ref qt, .ref qm, .int (nI ph), .int (zI og), .long nh, .int nr, .int (nI na), .int (nI nt), .int mb, .long t1, .long t2]))] := hD
  refine W.widen (k := 1) (n := 6) (Nat.le_of_ble_eq_true rfl) (Nat.le_of_ble_eq_true rfl) ?_
  refine w_pc (pc2 := 18) rfl ?_
  refine lv_astore hx hb dL_aside_18 hl (by decide) rfl (fun ls hl => ?_)
  have hl : lv_has ls 6 [(5, .ref q6), (0, .ref x), (1, .long y), (3, .int v), (4, .ref qo)] := hl
  refine lv_iconst (v := nI 2) hx hb dL_aside_20 (by decide) ?_
  exact rt_i hx hb hr hlk hQ hAe hP hD hS [0] (by decide) rfl (Nat.le_of_ble_eq_true rfl) (Nat.le_of_ble_eq_true rfl) (rfl) dL_aside_21

def rm_l_aside_3 : Room := { frames := 8, cells := 1, slots := 6, locals := 136 }
set_option maxHeartbeats 4000000 in
set_option maxRecDepth 100000 in
/-- aside, where it throws -/
theorem l_aside_3 (l : Launch) (dC : Nat → ClassId) (dI : Nat → Nat → Nat) (x : Nat) (qc : Nat) (qg : Nat) (qa : Nat) (qt : Nat) (qm : Nat) (ph : Nat) (og : Bool) (nh : Int64) (nr : Int32) (na : Nat) (nt : Nat) (mb : Int32) (t1 : Int64) (t2 : Int64) (y : Int64) (cn : Nat) (qo : Nat) (hst : l.stackTraces = false) (hph : ph = 1) (hcn : cn ≤ 8) (hna : 48 < na + cn) (hnb : na ≤ 96) : MOT l dC dI yL_aside wsL_aside rm_l_aside_3 [.ref x, .long y, .int (nI cn), .ref qo] [(x, .inr (2, [.ref qc, .ref qg, .ref qa, .ref qt, .ref qm, .int (nI ph), .int (zI og), .long nh, .int nr, .int (nI na), .int (nI nt), .int mb, .long t1, .long t2]))] [] [(x, .inr (2, [.ref qc, .ref qg, .ref qa, .ref qt, .ref qm, .int (nI ph), .int (zI og), .long nh, .int nr, .int (nI na), .int (nI nt), .int mb, .long t1, .long t2]))] (some (.int (nI 3))) := by
  refine mot_ofWH (cc := cL_aside) (maxL := 6) (ret := (some .int)) (by decide) rfl (Nat.le_of_ble_eq_true rfl) ?_
  intro p e s m args below meth c Q A H locs ls hx hb hr hlk hml hta hown hin hE hT hZ htab hQ hAe hA hK hP hD hS hl
  have hown : s.vm.findClass RL = some m.cls := hown
  have hl : lv_has ls 6 [(0, .ref x), (1, .long y), (3, .int (nI cn)), (4, .ref qo)] := hl
  refine lv_aload hx hb dL_aside_0 (lv_at hl 3 rfl) ?_
  refine lv_iconst (v := nI 0) hx hb dL_aside_2 (by decide) ?_
  refine lv_aload_n hx hb dL_aside_3 rfl (lv_at hl 0 rfl) ?_
  refine lv_lload_n hx hb dL_aside_4 rfl (lv_at hl 1 rfl) ?_
  refine lv_iload_n hx hb dL_aside_5 rfl (lv_at hl 2 rfl) ?_
  refine ct_catch (wr := []) (vx_runV (As := [.long y, .int (nI cn)]) (rest := [.int (nI 0), .ref qo]) ⟨hx, hb, hml, hown, hta⟩ (MT.to (t_aside3 l dC dI x qc qg qa qt qm ph og nh nr na nt mb t1 t2 y cn hst hph hcn hna hnb) H.size) (cwV 2 hta (aw_V mw_315 mw_312 mw_313 mw_314 mw_1) rfl rfl rfl ⟨rfl, dyX2_aside⟩ ⟨(Nat.le_of_ble_eq_true rfl), (Nat.le_of_ble_eq_true rfl)⟩) (pt_V hP hD hK hE hT hZ hS hA [0] [] (by decide) rfl rfl rfl rfl) rfl rfl hl.1 rfl (lv_room (Nat.le_of_ble_eq_true rfl)) dL_aside_6 ⟨(Nat.le_of_ble_eq_true rfl), (Nat.le_of_ble_eq_true rfl)⟩) hown [⟨0, 11, 14, 19⟩, ⟨0, 11, 18, 21⟩] ⟨0, 11, 22, 23⟩ [] htab (fun z9 hz9 => Or.inr ((List.mem_cons.mp hz9).elim (fun h9 => by subst h9; exact ⟨by decide, sIS, hta _ mw_309, hT.2.2.2.2.2.1⟩) (fun h8 => ((List.mem_cons.mp h8).elim (fun h9 => by subst h9; exact ⟨by decide, sIA, hta _ mw_310, hT.2.2.2.2.2.2.1⟩) (fun h9 => by cases h9))))) (by decide) (by decide) (hta _ mw_311) (va_Nw.use rfl hT.2.2.2.1) hP hD hS hA [0] [] rfl rfl (by decide) (by decide) (fun q6 H locs hP hD hS => ?_)
  have hP : va_P (dC, dI) vwCl [(x, .inr (2, [.ref qc, .ref qg, .ref qa, .ref qt, .ref qm, .int (nI ph), .int (zI og), .long nh, .int nr, .int (nI na), .int (nI nt), .int mb, .long t1, .long t2]))] H := hP
  have hD : va_D A [(x, .inr (2, [.ref qc, .ref qg, .ref qa, .ref qt, .ref qm, .int (nI ph), .int (zI og), .long nh, .int nr, .int (nI na), .int (nI nt), .int mb, .long t1, .long t2]))] := hD
  refine W.widen (k := 1) (n := 6) (Nat.le_of_ble_eq_true rfl) (Nat.le_of_ble_eq_true rfl) ?_
  refine w_pc (pc2 := 22) rfl ?_
  refine lv_astore hx hb dL_aside_22 hl (by decide) rfl (fun ls hl => ?_)
  have hl : lv_has ls 6 [(5, .ref q6), (0, .ref x), (1, .long y), (3, .int (nI cn)), (4, .ref qo)] := hl
  refine lv_iconst (v := nI 3) hx hb dL_aside_24 (by decide) ?_
  exact rt_i hx hb hr hlk hQ hAe hP hD hS [0] (by decide) rfl (Nat.le_of_ble_eq_true rfl) (Nat.le_of_ble_eq_true rfl) (rfl) dL_aside_25

def rm_l_text_s : Room := { frames := 3, cells := 0, slots := 0, locals := 69 }
set_option maxHeartbeats 4000000 in
set_option maxRecDepth 100000 in
/-- text, where it answers -/
theorem l_text_s (l : Launch) (dC : Nat → ClassId) (dI : Nat → Nat → Nat) (x : Nat) (qc : Nat) (qg : Nat) (qa : Nat) (qt : Nat) (qm : Nat) (ph : Nat) (og : Bool) (nh : Int64) (nr : Int32) (na : Nat) (nt : Nat) (mb : Int32) (t1 : Int64) (t2 : Int64) (kt : ClassId) (tb : Nat → Nat) (y : Int64) (cn : Nat) (qo : Nat) (ko : ClassId) (ou : Nat → Int64) (hph6 : ph < 6) (huw : uwN ph = true) (hog : og = true) (hcn : cn ≤ 8) (hnt : nt + cn ≤ 96) : MO l dC dI yL_text wsL_text rm_l_text_s [.ref x, .long y, .int (nI cn), .ref qo] [(x, .inr (2, [.ref qc, .ref qg, .ref qa, .ref qt, .ref qm, .int (nI ph), .int (zI og), .long nh, .int nr, .int (nI na), .int (nI nt), .int mb, .long t1, .long t2])), (qt, .inl (kt, 96, .inl (nF tb))), (qo, .inl (ko, 1, .inr (.inl ou)))] [(kt, .int), (ko, .long)] [(x, .inr (2, [.ref qc, .ref qg, .ref qa, .ref qt, .ref qm, .int (nI 2), .int (zI og), .long nh, .int nr, .int (nI na), .int (nI (nt + cn)), .int mb, .long t1, .long t2])), (qt, .inl (kt, 96, .inl (nF (ofl (pbN y) tb nt cn)))), (qo, .inl (ko, 1, .inr (.inl (vp_updL ou 0 (lN 0)))))] (some (.int (nI 0))) := by
  refine mo_ofWH (cc := cL_text) (maxL := 6) (ret := (some .int)) (by decide) rfl (Nat.le_of_ble_eq_true rfl) ?_
  intro p e s m args below meth c Q A H locs ls hx hb hr hlk hml hta hown hin hE hQ hAe hA hK hP hD hS hl
  have hown : s.vm.findClass RL = some m.cls := hown
  have hl : lv_has ls 6 [(0, .ref x), (1, .long y), (3, .int (nI cn)), (4, .ref qo)] := hl
  refine lv_aload hx hb dL_text_0 (lv_at hl 3 rfl) ?_
  refine lv_iconst (v := nI 0) hx hb dL_text_2 (by decide) ?_
  refine lv_aload_n hx hb dL_text_3 rfl (lv_at hl 0 rfl) ?_
  refine lv_lload_n hx hb dL_text_4 rfl (lv_at hl 1 rfl) ?_
  refine lv_iload_n hx hb dL_text_5 rfl (lv_at hl 2 rfl) ?_
  refine cf_1 (wr := [(qo, .inl (ko, 1, .inr (.inl ou)))]) (va_runV (As := [.long y, .int (nI cn)]) (rest := [.int (nI 0), .ref qo]) ⟨hx, hb, hml, hown, hta⟩ (MO.to (c_text_s l dC dI x qc qg qa qt qm ph og nh nr na nt mb t1 t2 kt tb y cn hph6 huw hog hcn hnt) H.size) (cwV 2 hta (aw_V mw_373 mw_370 mw_371 mw_372 mw_1) rfl rfl rfl ⟨rfl, dyX2_text⟩ ⟨(Nat.le_of_ble_eq_true rfl), (Nat.le_of_ble_eq_true rfl)⟩) (pr_V hP hD hK hE [0, 1] [0] (by decide) rfl rfl rfl rfl) rfl rfl hl.1 rfl (lv_room (Nat.le_of_ble_eq_true rfl)) dL_text_6 ⟨(Nat.le_of_ble_eq_true rfl), (Nat.le_of_ble_eq_true rfl)⟩) hP hD hS hA [0, 1] [2] rfl rfl (by decide) (by decide) (fun H locs hP hD hS => ?_)
  have hP : va_P (dC, dI) vwCl [(qo, .inl (ko, 1, .inr (.inl ou))), (x, .inr (2, [.ref qc, .ref qg, .ref qa, .ref qt, .ref qm, .int (nI 2), .int (zI og), .long nh, .int nr, .int (nI na), .int (nI (nt + cn)), .int mb, .long t1, .long t2])), (qt, .inl (kt, 96, .inl (nF (ofl (pbN y) tb nt cn))))] H := hP
  have hD : va_D A [(qo, .inl (ko, 1, .inr (.inl ou))), (x, .inr (2, [.ref qc, .ref qg, .ref qa, .ref qt, .ref qm, .int (nI 2), .int (zI og), .long nh, .int nr, .int (nI na), .int (nI (nt + cn)), .int mb, .long t1, .long t2])), (qt, .inl (kt, 96, .inl (nF (ofl (pbN y) tb nt cn))))] := hD
  refine W.widen (k := 0) (n := 0) (Nat.le_of_ble_eq_true rfl) (Nat.le_of_ble_eq_true rfl) ?_
  refine w_pc (pc2 := 9) rfl ?_
  refine va_lasn hx hb hK hP hD hS 0 1 rfl rfl (by omega) (by decide) dL_text_9 (fun H locs hP hD hS => ?_)
  have hP : va_P (dC, dI) vwCl [(qo, .inl (ko, 1, .inr (.inl (vp_updL ou 0 (lN 0))))), (x, .inr (2, [.ref qc, .ref qg, .ref qa, .ref qt, .ref qm, .int (nI 2), .int (zI og), .long nh, .int nr, .int (nI na), .int (nI (nt + cn)), .int mb, .long t1, .long t2])), (qt, .inl (kt, 96, .inl (nF (ofl (pbN y) tb nt cn))))] H := hP
  have hD : va_D A [(qo, .inl (ko, 1, .inr (.inl (vp_updL ou 0 (lN 0))))), (x, .inr (2, [.ref qc, .ref qg, .ref qa, .ref qt, .ref qm, .int (nI 2), .int (zI og), .long nh, .int nr, .int (nI na), .int (nI (nt + cn)), .int mb, .long t1, .long t2])), (qt, .inl (kt, 96, .inl (nF (ofl (pbN y) tb nt cn))))] := hD
  refine lv_goto (tgt := 25) hx hb dL_text_10 (by decide) ?_
  refine lv_iconst (v := nI 0) hx hb dL_text_25 (by decide) ?_
  exact rt_i hx hb hr hlk hQ hAe hP hD hS [1, 2, 0] (by decide) rfl (Nat.le_of_ble_eq_true rfl) (Nat.le_of_ble_eq_true rfl) (rfl) dL_text_26

def rm_l_text_p : Room := { frames := 8, cells := 0, slots := 0, locals := 220 }
set_option maxHeartbeats 4000000 in
set_option maxRecDepth 100000 in
/-- text, where it answers -/
theorem l_text_p (l : Launch) (dC : Nat → ClassId) (dI : Nat → Nat → Nat) (x : Nat) (qc : Nat) (qg : Nat) (qa : Nat) (qt : Nat) (qm : Nat) (ph : Nat) (og : Bool) (nh : Int64) (nr : Int32) (na : Nat) (nt : Nat) (mb : Int32) (t1 : Int64) (t2 : Int64) (qs : Nat) (qu : Nat) (qw : Nat) (qb : Nat) (qe : Nat) (ks : ClassId) (kw : ClassId) (kb : ClassId) (ke : ClassId) (km : ClassId) (kt : ClassId) (sb : Nat → Nat) (w : Nat → Int32) (b : Nat → Nat) (z : Nat → Nat) (mk : Nat → Nat) (tb : Nat → Nat) (y : Int64) (cn : Nat) (qo : Nat) (ko : ClassId) (ou : Nat → Int64) (s256 : ∀ i, sb i < 256) (hph6 : ph < 6) (huw : uwN ph = true) (hog : og = false) (hcn : cn ≤ 8) (hnt : nt + cn ≤ 96) (hmi : ∀ t, t < 96 → mb = nI t → ∀ j, j < 16 → mk j = mkN sb w nh nr (2 + t) j) : MX l dC dI yL_text wsL_text rm_l_text_p [.ref x, .long y, .int (nI cn), .ref qo] [(x, .inr (2, [.ref qc, .ref qg, .ref qa, .ref qt, .ref qm, .int (nI ph), .int (zI og), .long nh, .int nr, .int (nI na), .int (nI nt), .int mb, .long t1, .long t2])), (qc, .inr (0, [.ref qs, .ref qu, .ref qw, .ref qb, .ref qe])), (qs, .inl (ks, 256, .inl (nF sb))), (qw, .inl (kw, 44, .inl w)), (qb, .inl (kb, 16, .inl (nF b))), (qe, .inl (ke, 16, .inl (nF z))), (qm, .inl (km, 16, .inl (nF mk))), (qt, .inl (kt, 96, .inl (nF tb))), (qo, .inl (ko, 1, .inr (.inl ou)))] [(ks, .int), (kw, .int), (kb, .int), (ke, .int), (km, .int), (kt, .int), (ko, .long)] (fun ((b1, z1, mk1, mb1) : (Nat → Nat) × (Nat → Nat) × (Nat → Nat) × Int32) => [(x, .inr (2, [.ref qc, .ref qg, .ref qa, .ref qt, .ref qm, .int (nI 2), .int (zI og), .long nh, .int nr, .int (nI na), .int (nI (nt + cn)), .int mb1, .long t1, .long t2])), (qc, .inr (0, [.ref qs, .ref qu, .ref qw, .ref qb, .ref qe])), (qs, .inl (ks, 256, .inl (nF sb))), (qw, .inl (kw, 44, .inl w)), (qb, .inl (kb, 16, .inl (nF b1))), (qe, .inl (ke, 16, .inl (nF z1))), (qm, .inl (km, 16, .inl (nF mk1))), (qt, .inl (kt, 96, .inl (nF (ofl (tpg sb w nh nr y nt) tb nt cn)))), (qo, .inl (ko, 1, .inr (.inl (vp_updL ou 0 (lN (slN (tpg sb w nh nr y nt) cn))))))]) (fun ((b1, z1, mk1, mb1) : (Nat → Nat) × (Nat → Nat) × (Nat → Nat) × Int32) => []) (fun ((b1, z1, mk1, mb1) : (Nat → Nat) × (Nat → Nat) × (Nat → Nat) × Int32) => ∀ t, t < 96 → mb1 = nI t → ∀ j, j < 16 → mk1 j = mkN sb w nh nr (2 + t) j) (fun ((b1, z1, mk1, mb1) : (Nat → Nat) × (Nat → Nat) × (Nat → Nat) × Int32) => (some (.int (nI 0)))) := by
  refine mx_ofWH (cc := cL_text) (maxL := 6) (ret := (some .int)) (by decide) rfl (Nat.le_of_ble_eq_true rfl) ?_
  intro p e s m args below meth c Q A H locs ls hx hb hr hlk hml hta hown hin hE hQ hAe hA hK hP hD hS hl
  have hown : s.vm.findClass RL = some m.cls := hown
  have hl : lv_has ls 6 [(0, .ref x), (1, .long y), (3, .int (nI cn)), (4, .ref qo)] := hl
  refine lv_aload hx hb dL_text_0 (lv_at hl 3 rfl) ?_
  refine lv_iconst (v := nI 0) hx hb dL_text_2 (by decide) ?_
  refine lv_aload_n hx hb dL_text_3 rfl (lv_at hl 0 rfl) ?_
  refine lv_lload_n hx hb dL_text_4 rfl (lv_at hl 1 rfl) ?_
  refine lv_iload_n hx hb dL_text_5 rfl (lv_at hl 2 rfl) ?_
  refine cx_1 (wr := [(qo, .inl (ko, 1, .inr (.inl ou)))]) (va_runV (As := [.long y, .int (nI cn)]) (rest := [.int (nI 0), .ref qo]) ⟨hx, hb, hml, hown, hta⟩ (MX.to (c_text_p l dC dI x qc qg qa qt qm ph og nh nr na nt mb t1 t2 qs qu qw qb qe ks kw kb ke km kt sb w b z mk tb y cn s256 hph6 huw hog hcn hnt hmi) H.size) (cwV 2 hta (aw_V mw_373 mw_370 mw_371 mw_372 mw_1) rfl rfl rfl ⟨rfl, dyX2_text⟩ ⟨(Nat.le_of_ble_eq_true rfl), (Nat.le_of_ble_eq_true rfl)⟩) (pr_V hP hD hK hE [0, 1, 2, 3, 4, 5, 6, 7] [0, 1, 2, 3, 4, 5] (by decide) rfl rfl rfl rfl) rfl rfl hl.1 rfl (lv_room (Nat.le_of_ble_eq_true rfl)) dL_text_6 ⟨(Nat.le_of_ble_eq_true rfl), (Nat.le_of_ble_eq_true rfl)⟩) hK hP hD hS hA [0, 1, 2, 3, 4, 5, 6, 7] [8] rfl rfl (by decide) (by decide) (fun u9 H locs hphi_6 hK hP hD hS => ?_)
  obtain ⟨b1_1, z1_1, mk1_1, mb1_1⟩ := u9
  have hphi_6 : ∀ t, t < 96 → mb1_1 = nI t → ∀ j, j < 16 → mk1_1 j = mkN sb w nh nr (2 + t) j := hphi_6
  have hK : va_K (dC, dI) vwCl [(ks, .int), (kw, .int), (kb, .int), (ke, .int), (km, .int), (kt, .int), (ko, .long)] s := hK
  have hP : va_P (dC, dI) vwCl [(qo, .inl (ko, 1, .inr (.inl ou))), (x, .inr (2, [.ref qc, .ref qg, .ref qa, .ref qt, .ref qm, .int (nI 2), .int (zI og), .long nh, .int nr, .int (nI na), .int (nI (nt + cn)), .int mb1_1, .long t1, .long t2])), (qc, .inr (0, [.ref qs, .ref qu, .ref qw, .ref qb, .ref qe])), (qs, .inl (ks, 256, .inl (nF sb))), (qw, .inl (kw, 44, .inl w)), (qb, .inl (kb, 16, .inl (nF b1_1))), (qe, .inl (ke, 16, .inl (nF z1_1))), (qm, .inl (km, 16, .inl (nF mk1_1))), (qt, .inl (kt, 96, .inl (nF (ofl (tpg sb w nh nr y nt) tb nt cn))))] H := hP
  have hD : va_D A [(qo, .inl (ko, 1, .inr (.inl ou))), (x, .inr (2, [.ref qc, .ref qg, .ref qa, .ref qt, .ref qm, .int (nI 2), .int (zI og), .long nh, .int nr, .int (nI na), .int (nI (nt + cn)), .int mb1_1, .long t1, .long t2])), (qc, .inr (0, [.ref qs, .ref qu, .ref qw, .ref qb, .ref qe])), (qs, .inl (ks, 256, .inl (nF sb))), (qw, .inl (kw, 44, .inl w)), (qb, .inl (kb, 16, .inl (nF b1_1))), (qe, .inl (ke, 16, .inl (nF z1_1))), (qm, .inl (km, 16, .inl (nF mk1_1))), (qt, .inl (kt, 96, .inl (nF (ofl (tpg sb w nh nr y nt) tb nt cn))))] := hD
  refine W.widen (k := 0) (n := 0) (Nat.le_of_ble_eq_true rfl) (Nat.le_of_ble_eq_true rfl) ?_
  refine w_pc (pc2 := 9) rfl ?_
  refine va_lasn hx hb hK hP hD hS 0 6 rfl rfl (by omega) (by decide) dL_text_9 (fun H locs hP hD hS => ?_)
  have hP : va_P (dC, dI) vwCl [(qo, .inl (ko, 1, .inr (.inl (vp_updL ou 0 (lN (slN (tpg sb w nh nr y nt) cn)))))), (x, .inr (2, [.ref qc, .ref qg, .ref qa, .ref qt, .ref qm, .int (nI 2), .int (zI og), .long nh, .int nr, .int (nI na), .int (nI (nt + cn)), .int mb1_1, .long t1, .long t2])), (qc, .inr (0, [.ref qs, .ref qu, .ref qw, .ref qb, .ref qe])), (qs, .inl (ks, 256, .inl (nF sb))), (qw, .inl (kw, 44, .inl w)), (qb, .inl (kb, 16, .inl (nF b1_1))), (qe, .inl (ke, 16, .inl (nF z1_1))), (qm, .inl (km, 16, .inl (nF mk1_1))), (qt, .inl (kt, 96, .inl (nF (ofl (tpg sb w nh nr y nt) tb nt cn))))] H := hP
  have hD : va_D A [(qo, .inl (ko, 1, .inr (.inl (vp_updL ou 0 (lN (slN (tpg sb w nh nr y nt) cn)))))), (x, .inr (2, [.ref qc, .ref qg, .ref qa, .ref qt, .ref qm, .int (nI 2), .int (zI og), .long nh, .int nr, .int (nI na), .int (nI (nt + cn)), .int mb1_1, .long t1, .long t2])), (qc, .inr (0, [.ref qs, .ref qu, .ref qw, .ref qb, .ref qe])), (qs, .inl (ks, 256, .inl (nF sb))), (qw, .inl (kw, 44, .inl w)), (qb, .inl (kb, 16, .inl (nF b1_1))), (qe, .inl (ke, 16, .inl (nF z1_1))), (qm, .inl (km, 16, .inl (nF mk1_1))), (qt, .inl (kt, 96, .inl (nF (ofl (tpg sb w nh nr y nt) tb nt cn))))] := hD
  refine lv_goto (tgt := 25) hx hb dL_text_10 (by decide) ?_
  refine lv_iconst (v := nI 0) hx hb dL_text_25 (by decide) ?_
  exact rx_i (b1_1, z1_1, mk1_1, mb1_1) (hphi_6) hx hb hr hlk hQ hAe hK hP hD hS [1, 2, 3, 4, 5, 6, 7, 8, 0] [] (by decide) rfl rfl (Nat.le_of_ble_eq_true rfl) (Nat.le_of_ble_eq_true rfl) (rfl) dL_text_26

def rm_l_text_1 : Room := { frames := 7, cells := 1, slots := 6, locals := 113 }
set_option maxHeartbeats 4000000 in
set_option maxRecDepth 100000 in
/-- text, where it throws -/
theorem l_text_1 (l : Launch) (dC : Nat → ClassId) (dI : Nat → Nat → Nat) (x : Nat) (qc : Nat) (qg : Nat) (qa : Nat) (qt : Nat) (qm : Nat) (ph : Nat) (og : Bool) (nh : Int64) (nr : Int32) (na : Nat) (nt : Nat) (mb : Int32) (t1 : Int64) (t2 : Int64) (y : Int64) (v : Int32) (qo : Nat) (hst : l.stackTraces = false) (hph6 : ph < 6) (huw : uwN ph = false) : MOT l dC dI yL_text wsL_text rm_l_text_1 [.ref x, .long y, .int v, .ref qo] [(x, .inr (2, [.ref qc, .ref qg, .ref qa, .ref qt, .ref qm, .int (nI ph), .int (zI og), .long nh, .int nr, .int (nI na), .int (nI nt), .int mb, .long t1, .long t2]))] [] [(x, .inr (2, [.ref qc, .ref qg, .ref qa, .ref qt, .ref qm, .int (nI ph), .int (zI og), .long nh, .int nr, .int (nI na), .int (nI nt), .int mb, .long t1, .long t2]))] (some (.int (nI 1))) := by
  refine mot_ofWH (cc := cL_text) (maxL := 6) (ret := (some .int)) (by decide) rfl (Nat.le_of_ble_eq_true rfl) ?_
  intro p e s m args below meth c Q A H locs ls hx hb hr hlk hml hta hown hin hE hT hZ htab hQ hAe hA hK hP hD hS hl
  have hown : s.vm.findClass RL = some m.cls := hown
  have hl : lv_has ls 6 [(0, .ref x), (1, .long y), (3, .int v), (4, .ref qo)] := hl
  refine lv_aload hx hb dL_text_0 (lv_at hl 3 rfl) ?_
  refine lv_iconst (v := nI 0) hx hb dL_text_2 (by decide) ?_
  refine lv_aload_n hx hb dL_text_3 rfl (lv_at hl 0 rfl) ?_
  refine lv_lload_n hx hb dL_text_4 rfl (lv_at hl 1 rfl) ?_
  refine lv_iload_n hx hb dL_text_5 rfl (lv_at hl 2 rfl) ?_
  refine ct_catch (wr := []) (vx_runV (As := [.long y, .int v]) (rest := [.int (nI 0), .ref qo]) ⟨hx, hb, hml, hown, hta⟩ (MT.to (t_text1 l dC dI x qc qg qa qt qm ph og nh nr na nt mb t1 t2 y v hst hph6 huw) H.size) (cwV 2 hta (aw_V mw_373 mw_370 mw_371 mw_372 mw_1) rfl rfl rfl ⟨rfl, dyX2_text⟩ ⟨(Nat.le_of_ble_eq_true rfl), (Nat.le_of_ble_eq_true rfl)⟩) (pt_V hP hD hK hE hT hZ hS hA [0] [] (by decide) rfl rfl rfl rfl) rfl rfl hl.1 rfl (lv_room (Nat.le_of_ble_eq_true rfl)) dL_text_6 ⟨(Nat.le_of_ble_eq_true rfl), (Nat.le_of_ble_eq_true rfl)⟩) hown [] ⟨0, 10, 13, 19⟩ [⟨0, 10, 17, 21⟩, ⟨0, 10, 21, 23⟩] htab (fun z9 hz9 => by cases hz9) (by decide) (by decide) (hta _ mw_309) (va_Nw.use rfl hT.2.1) hP hD hS hA [0] [] rfl rfl (by decide) (by decide) (fun q6 H locs hP hD hS => ?_)
  have hP : va_P (dC, dI) vwCl [(x, .inr (2, [.ref qc, .ref qg, .ref qa, .ref qt, .ref qm, .int (nI ph), .int (zI og), .long nh, .int nr, .int (nI na), .int (nI nt), .int mb, .long t1, .long t2]))] H := hP
  have hD : va_D A [(x, .inr (2, [.ref qc, .ref qg, .ref qa, .ref qt, .ref qm, .int (nI ph), .int (zI og), .long nh, .int nr, .int (nI na), .int (nI nt), .int mb, .long t1, .long t2]))] := hD
  refine W.widen (k := 1) (n := 6) (Nat.le_of_ble_eq_true rfl) (Nat.le_of_ble_eq_true rfl) ?_
  refine w_pc (pc2 := 13) rfl ?_
  refine lv_astore hx hb dL_text_13 hl (by decide) rfl (fun ls hl => ?_)
  have hl : lv_has ls 6 [(5, .ref q6), (0, .ref x), (1, .long y), (3, .int v), (4, .ref qo)] := hl
  refine lv_iconst (v := nI 1) hx hb dL_text_15 (by decide) ?_
  exact rt_i hx hb hr hlk hQ hAe hP hD hS [0] (by decide) rfl (Nat.le_of_ble_eq_true rfl) (Nat.le_of_ble_eq_true rfl) (rfl) dL_text_16

def rm_l_text_2 : Room := { frames := 8, cells := 1, slots := 6, locals := 135 }
set_option maxHeartbeats 4000000 in
set_option maxRecDepth 100000 in
/-- text, where it throws -/
theorem l_text_2 (l : Launch) (dC : Nat → ClassId) (dI : Nat → Nat → Nat) (x : Nat) (qc : Nat) (qg : Nat) (qa : Nat) (qt : Nat) (qm : Nat) (ph : Nat) (og : Bool) (nh : Int64) (nr : Int32) (na : Nat) (nt : Nat) (mb : Int32) (t1 : Int64) (t2 : Int64) (y : Int64) (v : Int32) (qo : Nat) (hst : l.stackTraces = false) (hph6 : ph < 6) (huw : uwN ph = true) (hno : v < 0 ∨ nI 9 ≤ v) : MOT l dC dI yL_text wsL_text rm_l_text_2 [.ref x, .long y, .int v, .ref qo] [(x, .inr (2, [.ref qc, .ref qg, .ref qa, .ref qt, .ref qm, .int (nI ph), .int (zI og), .long nh, .int nr, .int (nI na), .int (nI nt), .int mb, .long t1, .long t2]))] [] [(x, .inr (2, [.ref qc, .ref qg, .ref qa, .ref qt, .ref qm, .int (nI ph), .int (zI og), .long nh, .int nr, .int (nI na), .int (nI nt), .int mb, .long t1, .long t2]))] (some (.int (nI 2))) := by
  refine mot_ofWH (cc := cL_text) (maxL := 6) (ret := (some .int)) (by decide) rfl (Nat.le_of_ble_eq_true rfl) ?_
  intro p e s m args below meth c Q A H locs ls hx hb hr hlk hml hta hown hin hE hT hZ htab hQ hAe hA hK hP hD hS hl
  have hown : s.vm.findClass RL = some m.cls := hown
  have hl : lv_has ls 6 [(0, .ref x), (1, .long y), (3, .int v), (4, .ref qo)] := hl
  refine lv_aload hx hb dL_text_0 (lv_at hl 3 rfl) ?_
  refine lv_iconst (v := nI 0) hx hb dL_text_2 (by decide) ?_
  refine lv_aload_n hx hb dL_text_3 rfl (lv_at hl 0 rfl) ?_
  refine lv_lload_n hx hb dL_text_4 rfl (lv_at hl 1 rfl) ?_
  refine lv_iload_n hx hb dL_text_5 rfl (lv_at hl 2 rfl) ?_
  refine ct_catch (wr := []) (vx_runV (As := [.long y, .int v]) (rest := [.int (nI 0), .ref qo]) ⟨hx, hb, hml, hown, hta⟩ (MT.to (t_text2 l dC dI x qc qg qa qt qm ph og nh nr na nt mb t1 t2 y v hst hph6 huw hno) H.size) (cwV 2 hta (aw_V mw_373 mw_370 mw_371 mw_372 mw_1) rfl rfl rfl ⟨rfl, dyX2_text⟩ ⟨(Nat.le_of_ble_eq_true rfl), (Nat.le_of_ble_eq_true rfl)⟩) (pt_V hP hD hK hE hT hZ hS hA [0] [] (by decide) rfl rfl rfl rfl) rfl rfl hl.1 rfl (lv_room (Nat.le_of_ble_eq_true rfl)) dL_text_6 ⟨(Nat.le_of_ble_eq_true rfl), (Nat.le_of_ble_eq_true rfl)⟩) hown [⟨0, 10, 13, 19⟩] ⟨0, 10, 17, 21⟩ [⟨0, 10, 21, 23⟩] htab (fun z9 hz9 => Or.inr ((List.mem_cons.mp hz9).elim (fun h9 => by subst h9; exact ⟨by decide, sIS, hta _ mw_309, hT.2.2.2.2.1⟩) (fun h9 => by cases h9))) (by decide) (by decide) (hta _ mw_310) (va_Nw.use rfl hT.2.2.1) hP hD hS hA [0] [] rfl rfl (by decide) (by decide) (fun q6 H locs hP hD hS => ?_)
  have hP : va_P (dC, dI) vwCl [(x, .inr (2, [.ref qc, .ref qg, .ref qa, .ref qt, .ref qm, .int (nI ph), .int (zI og), .long nh, .int nr, .int (nI na), .int (nI nt), .int mb, .long t1, .long t2]))] H := hP
  have hD : va_D A [(x, .inr (2, [.ref qc, .ref qg, .ref qa, .ref qt, .ref qm, .int (nI ph), .int (zI og), .long nh, .int nr, .int (nI na), .int (nI nt), .int mb, .long t1, .long t2]))] := hD
  refine W.widen (k := 1) (n := 6) (Nat.le_of_ble_eq_true rfl) (Nat.le_of_ble_eq_true rfl) ?_
  refine w_pc (pc2 := 17) rfl ?_
  refine lv_astore hx hb dL_text_17 hl (by decide) rfl (fun ls hl => ?_)
  have hl : lv_has ls 6 [(5, .ref q6), (0, .ref x), (1, .long y), (3, .int v), (4, .ref qo)] := hl
  refine lv_iconst (v := nI 2) hx hb dL_text_19 (by decide) ?_
  exact rt_i hx hb hr hlk hQ hAe hP hD hS [0] (by decide) rfl (Nat.le_of_ble_eq_true rfl) (Nat.le_of_ble_eq_true rfl) (rfl) dL_text_20

def rm_l_text_3 : Room := { frames := 8, cells := 1, slots := 6, locals := 135 }
set_option maxHeartbeats 4000000 in
set_option maxRecDepth 100000 in
/-- text, where it throws -/
theorem l_text_3 (l : Launch) (dC : Nat → ClassId) (dI : Nat → Nat → Nat) (x : Nat) (qc : Nat) (qg : Nat) (qa : Nat) (qt : Nat) (qm : Nat) (ph : Nat) (og : Bool) (nh : Int64) (nr : Int32) (na : Nat) (nt : Nat) (mb : Int32) (t1 : Int64) (t2 : Int64) (y : Int64) (cn : Nat) (qo : Nat) (hst : l.stackTraces = false) (hph6 : ph < 6) (huw : uwN ph = true) (hcn : cn ≤ 8) (hnt : 96 < nt + cn) (hnb : nt ≤ 96) : MOT l dC dI yL_text wsL_text rm_l_text_3 [.ref x, .long y, .int (nI cn), .ref qo] [(x, .inr (2, [.ref qc, .ref qg, .ref qa, .ref qt, .ref qm, .int (nI ph), .int (zI og), .long nh, .int nr, .int (nI na), .int (nI nt), .int mb, .long t1, .long t2]))] [] [(x, .inr (2, [.ref qc, .ref qg, .ref qa, .ref qt, .ref qm, .int (nI ph), .int (zI og), .long nh, .int nr, .int (nI na), .int (nI nt), .int mb, .long t1, .long t2]))] (some (.int (nI 3))) := by
  refine mot_ofWH (cc := cL_text) (maxL := 6) (ret := (some .int)) (by decide) rfl (Nat.le_of_ble_eq_true rfl) ?_
  intro p e s m args below meth c Q A H locs ls hx hb hr hlk hml hta hown hin hE hT hZ htab hQ hAe hA hK hP hD hS hl
  have hown : s.vm.findClass RL = some m.cls := hown
  have hl : lv_has ls 6 [(0, .ref x), (1, .long y), (3, .int (nI cn)), (4, .ref qo)] := hl
  refine lv_aload hx hb dL_text_0 (lv_at hl 3 rfl) ?_
  refine lv_iconst (v := nI 0) hx hb dL_text_2 (by decide) ?_
  refine lv_aload_n hx hb dL_text_3 rfl (lv_at hl 0 rfl) ?_
  refine lv_lload_n hx hb dL_text_4 rfl (lv_at hl 1 rfl) ?_
  refine lv_iload_n hx hb dL_text_5 rfl (lv_at hl 2 rfl) ?_
  refine ct_catch (wr := []) (vx_runV (As := [.long y, .int (nI cn)]) (rest := [.int (nI 0), .ref qo]) ⟨hx, hb, hml, hown, hta⟩ (MT.to (t_text3 l dC dI x qc qg qa qt qm ph og nh nr na nt mb t1 t2 y cn hst hph6 huw hcn hnt hnb) H.size) (cwV 2 hta (aw_V mw_373 mw_370 mw_371 mw_372 mw_1) rfl rfl rfl ⟨rfl, dyX2_text⟩ ⟨(Nat.le_of_ble_eq_true rfl), (Nat.le_of_ble_eq_true rfl)⟩) (pt_V hP hD hK hE hT hZ hS hA [0] [] (by decide) rfl rfl rfl rfl) rfl rfl hl.1 rfl (lv_room (Nat.le_of_ble_eq_true rfl)) dL_text_6 ⟨(Nat.le_of_ble_eq_true rfl), (Nat.le_of_ble_eq_true rfl)⟩) hown [⟨0, 10, 13, 19⟩, ⟨0, 10, 17, 21⟩] ⟨0, 10, 21, 23⟩ [] htab (fun z9 hz9 => Or.inr ((List.mem_cons.mp hz9).elim (fun h9 => by subst h9; exact ⟨by decide, sIS, hta _ mw_309, hT.2.2.2.2.2.1⟩) (fun h8 => ((List.mem_cons.mp h8).elim (fun h9 => by subst h9; exact ⟨by decide, sIA, hta _ mw_310, hT.2.2.2.2.2.2.1⟩) (fun h9 => by cases h9))))) (by decide) (by decide) (hta _ mw_311) (va_Nw.use rfl hT.2.2.2.1) hP hD hS hA [0] [] rfl rfl (by decide) (by decide) (fun q6 H locs hP hD hS => ?_)
  have hP : va_P (dC, dI) vwCl [(x, .inr (2, [.ref qc, .ref qg, .ref qa, .ref qt, .ref qm, .int (nI ph), .int (zI og), .long nh, .int nr, .int (nI na), .int (nI nt), .int mb, .long t1, .long t2]))] H := hP
  have hD : va_D A [(x, .inr (2, [.ref qc, .ref qg, .ref qa, .ref qt, .ref qm, .int (nI ph), .int (zI og), .long nh, .int nr, .int (nI na), .int (nI nt), .int mb, .long t1, .long t2]))] := hD
  refine W.widen (k := 1) (n := 6) (Nat.le_of_ble_eq_true rfl) (Nat.le_of_ble_eq_true rfl) ?_
  refine w_pc (pc2 := 21) rfl ?_
  refine lv_astore hx hb dL_text_21 hl (by decide) rfl (fun ls hl => ?_)
  have hl : lv_has ls 6 [(5, .ref q6), (0, .ref x), (1, .long y), (3, .int (nI cn)), (4, .ref qo)] := hl
  refine lv_iconst (v := nI 3) hx hb dL_text_23 (by decide) ?_
  exact rt_i hx hb hr hlk hQ hAe hP hD hS [0] (by decide) rfl (Nat.le_of_ble_eq_true rfl) (Nat.le_of_ble_eq_true rfl) (rfl) dL_text_24

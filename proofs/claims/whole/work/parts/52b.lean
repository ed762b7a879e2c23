def rm_l_seal_y : Room := { frames := 7, cells := 0, slots := 0, locals := 192 }
set_option maxHeartbeats 4000000 in
set_option maxRecDepth 100000 in
/-- seal, where it answers -/
theorem l_seal_y (l : Launch) (dC : Nat → ClassId) (dI : Nat → Nat → Nat) (x : Nat) (qc : Nat) (qg : Nat) (qa : Nat) (qt : Nat) (qm : Nat) (ph : Nat) (og : Bool) (nh : Int64) (nr : Int32) (na : Nat) (nt : Nat) (mb : Int32) (t1 : Int64) (t2 : Int64) (qs : Nat) (qu : Nat) (qw : Nat) (qb : Nat) (qe : Nat) (ks : ClassId) (kw : ClassId) (kb : ClassId) (ke : ClassId) (ka : ClassId) (kt : ClassId) (sb : Nat → Nat) (w : Nat → Int32) (b : Nat → Nat) (z : Nat → Nat) (yh : Int64) (yl : Int64) (ab : Nat → Nat) (tb : Nat → Nat) (qo : Nat) (ko : ClassId) (ou : Nat → Int64) (s256 : ∀ i, sb i < 256) (a256 : ∀ i, ab i < 256) (t256 : ∀ i, tb i < 256) (hna : na ≤ 48) (hnt : nt ≤ 96) (hph6 : ph < 6) (huw : uwN ph = true) (hog : og = false) : MX l dC dI yL_seal wsL_seal rm_l_seal_y [.ref x, .ref qo] [(x, .inr (2, [.ref qc, .ref qg, .ref qa, .ref qt, .ref qm, .int (nI ph), .int (zI og), .long nh, .int nr, .int (nI na), .int (nI nt), .int mb, .long t1, .long t2])), (qc, .inr (0, [.ref qs, .ref qu, .ref qw, .ref qb, .ref qe])), (qs, .inl (ks, 256, .inl (nF sb))), (qw, .inl (kw, 44, .inl w)), (qb, .inl (kb, 16, .inl (nF b))), (qe, .inl (ke, 16, .inl (nF z))), (qg, .inr (1, [.long yh, .long yl])), (qa, .inl (ka, 48, .inl (nF ab))), (qt, .inl (kt, 96, .inl (nF tb))), (qo, .inl (ko, 1, .inr (.inl ou)))] [(ks, .int), (kw, .int), (kb, .int), (ke, .int), (ka, .int), (kt, .int), (ko, .long)] (fun ((b1, z1, yh1, yl1) : (Nat → Nat) × (Nat → Nat) × Int64 × Int64) => [(x, .inr (2, [.ref qc, .ref qg, .ref qa, .ref qt, .ref qm, .int (nI 3), .int (zI og), .long nh, .int nr, .int (nI na), .int (nI nt), .int mb, .long ((tgN sb w nh nr ab na tb nt).1), .long ((tgN sb w nh nr ab na tb nt).2)])), (qc, .inr (0, [.ref qs, .ref qu, .ref qw, .ref qb, .ref qe])), (qs, .inl (ks, 256, .inl (nF sb))), (qw, .inl (kw, 44, .inl w)), (qb, .inl (kb, 16, .inl (nF b1))), (qe, .inl (ke, 16, .inl (nF z1))), (qg, .inr (1, [.long yh1, .long yl1])), (qa, .inl (ka, 48, .inl (nF ab))), (qt, .inl (kt, 96, .inl (nF tb))), (qo, .inl (ko, 1, .inr (.inl (vp_updL ou 0 (lN nt)))))]) (fun ((b1, z1, yh1, yl1) : (Nat → Nat) × (Nat → Nat) × Int64 × Int64) => []) (fun _ => True) (fun ((b1, z1, yh1, yl1) : (Nat → Nat) × (Nat → Nat) × Int64 × Int64) => (some (.int (nI 0)))) := by
  refine mx_ofWH (cc := cL_seal) (maxL := 3) (ret := (some .int)) (by decide) rfl (Nat.le_of_ble_eq_true rfl) ?_
  intro p e s m args below meth c Q A H locs ls hx hb hr hlk hml hta hown hin hE hQ hAe hA hK hP hD hS hl
  have hown : s.vm.findClass RL = some m.cls := hown
  have hl : lv_has ls 3 [(0, .ref x), (1, .ref qo)] := hl
  refine lv_aload_n hx hb dL_seal_0 rfl (lv_at hl 1 rfl) ?_
  refine lv_iconst (v := nI 0) hx hb dL_seal_1 (by decide) ?_
  refine lv_aload_n hx hb dL_seal_2 rfl (lv_at hl 0 rfl) ?_
  refine cx_1 (wr := [(qo, .inl (ko, 1, .inr (.inl ou)))]) (va_runV (As := []) (rest := [.int (nI 0), .ref qo]) ⟨hx, hb, hml, hown, hta⟩ (MX.to (c_seal_y l dC dI x qc qg qa qt qm ph og nh nr na nt mb t1 t2 qs qu qw qb qe ks kw kb ke ka kt sb w b z yh yl ab tb s256 a256 t256 hna hnt hph6 huw hog) H.size) (cwV 0 hta (aw_V mw_401 mw_398 mw_399 mw_400 mw_1) rfl rfl rfl ⟨rfl, dyX2_seal⟩ ⟨(Nat.le_of_ble_eq_true rfl), (Nat.le_of_ble_eq_true rfl)⟩) (pr_V hP hD hK hE [0, 1, 2, 3, 4, 5, 6, 7, 8] [0, 1, 2, 3, 4, 5] (by decide) rfl rfl rfl rfl) rfl rfl hl.1 rfl (lv_room (Nat.le_of_ble_eq_true rfl)) dL_seal_3 ⟨(Nat.le_of_ble_eq_true rfl), (Nat.le_of_ble_eq_true rfl)⟩) hK hP hD hS hA [0, 1, 2, 3, 4, 5, 6, 7, 8] [9] rfl rfl (by decide) (by decide) (fun u9 H locs hphi_3 hK hP hD hS => ?_)
  obtain ⟨b1_1, z1_1, yh1_1, yl1_1⟩ := u9
  have hK : va_K (dC, dI) vwCl [(ks, .int), (kw, .int), (kb, .int), (ke, .int), (ka, .int), (kt, .int), (ko, .long)] s := hK
  have hP : va_P (dC, dI) vwCl [(qo, .inl (ko, 1, .inr (.inl ou))), (x, .inr (2, [.ref qc, .ref qg, .ref qa, .ref qt, .ref qm, .int (nI 3), .int (zI og), .long nh, .int nr, .int (nI na), .int (nI nt), .int mb, .long ((tgN sb w nh nr ab na tb nt).1), .long ((tgN sb w nh nr ab na tb nt).2)])), (qc, .inr (0, [.ref qs, .ref qu, .ref qw, .ref qb, .ref qe])), (qs, .inl (ks, 256, .inl (nF sb))), (qw, .inl (kw, 44, .inl w)), (qb, .inl (kb, 16, .inl (nF b1_1))), (qe, .inl (ke, 16, .inl (nF z1_1))), (qg, .inr (1, [.long yh1_1, .long yl1_1])), (qa, .inl (ka, 48, .inl (nF ab))), (qt, .inl (kt, 96, .inl (nF tb)))] H := hP
  have hD : va_D A [(qo, .inl (ko, 1, .inr (.inl ou))), (x, .inr (2, [.ref qc, .ref qg, .ref qa, .ref qt, .ref qm, .int (nI 3), .int (zI og), .long nh, .int nr, .int (nI na), .int (nI nt), .int mb, .long ((tgN sb w nh nr ab na tb nt).1), .long ((tgN sb w nh nr ab na tb nt).2)])), (qc, .inr (0, [.ref qs, .ref qu, .ref qw, .ref qb, .ref qe])), (qs, .inl (ks, 256, .inl (nF sb))), (qw, .inl (kw, 44, .inl w)), (qb, .inl (kb, 16, .inl (nF b1_1))), (qe, .inl (ke, 16, .inl (nF z1_1))), (qg, .inr (1, [.long yh1_1, .long yl1_1])), (qa, .inl (ka, 48, .inl (nF ab))), (qt, .inl (kt, 96, .inl (nF tb)))] := hD
  refine W.widen (k := 0) (n := 0) (Nat.le_of_ble_eq_true rfl) (Nat.le_of_ble_eq_true rfl) ?_
  refine w_pc (pc2 := 6) rfl ?_
  refine lv_i2l hx hb dL_seal_6 rfl (top_l (nI_l (by omega)) ?_)
  refine va_lasn hx hb hK hP hD hS 0 6 rfl rfl (by omega) (by decide) dL_seal_7 (fun H locs hP hD hS => ?_)
  have hP : va_P (dC, dI) vwCl [(qo, .inl (ko, 1, .inr (.inl (vp_updL ou 0 (lN nt))))), (x, .inr (2, [.ref qc, .ref qg, .ref qa, .ref qt, .ref qm, .int (nI 3), .int (zI og), .long nh, .int nr, .int (nI na), .int (nI nt), .int mb, .long ((tgN sb w nh nr ab na tb nt).1), .long ((tgN sb w nh nr ab na tb nt).2)])), (qc, .inr (0, [.ref qs, .ref qu, .ref qw, .ref qb, .ref qe])), (qs, .inl (ks, 256, .inl (nF sb))), (qw, .inl (kw, 44, .inl w)), (qb, .inl (kb, 16, .inl (nF b1_1))), (qe, .inl (ke, 16, .inl (nF z1_1))), (qg, .inr (1, [.long yh1_1, .long yl1_1])), (qa, .inl (ka, 48, .inl (nF ab))), (qt, .inl (kt, 96, .inl (nF tb)))] H := hP
  have hD : va_D A [(qo, .inl (ko, 1, .inr (.inl (vp_updL ou 0 (lN nt))))), (x, .inr (2, [.ref qc, .ref qg, .ref qa, .ref qt, .ref qm, .int (nI 3), .int (zI og), .long nh, .int nr, .int (nI na), .int (nI nt), .int mb, .long ((tgN sb w nh nr ab na tb nt).1), .long ((tgN sb w nh nr ab na tb nt).2)])), (qc, .inr (0, [.ref qs, .ref qu, .ref qw, .ref qb, .ref qe])), (qs, .inl (ks, 256, .inl (nF sb))), (qw, .inl (kw, 44, .inl w)), (qb, .inl (kb, 16, .inl (nF b1_1))), (qe, .inl (ke, 16, .inl (nF z1_1))), (qg, .inr (1, [.long yh1_1, .long yl1_1])), (qa, .inl (ka, 48, .inl (nF ab))), (qt, .inl (kt, 96, .inl (nF tb)))] := hD
  refine lv_goto (tgt := 14) hx hb dL_seal_8 (by decide) ?_
  refine lv_iconst (v := nI 0) hx hb dL_seal_14 (by decide) ?_
  exact rx_i (b1_1, z1_1, yh1_1, yl1_1) trivial hx hb hr hlk hQ hAe hK hP hD hS [1, 2, 3, 4, 5, 6, 7, 8, 9, 0] [] (by decide) rfl rfl (Nat.le_of_ble_eq_true rfl) (Nat.le_of_ble_eq_true rfl) (rfl) dL_seal_15

def rm_l_seal_n : Room := { frames := 7, cells := 1, slots := 6, locals := 110 }
set_option maxHeartbeats 4000000 in
set_option maxRecDepth 100000 in
/-- seal, where it throws -/
theorem l_seal_n (l : Launch) (dC : Nat → ClassId) (dI : Nat → Nat → Nat) (x : Nat) (qc : Nat) (qg : Nat) (qa : Nat) (qt : Nat) (qm : Nat) (ph : Nat) (og : Bool) (nh : Int64) (nr : Int32) (na : Nat) (nt : Nat) (mb : Int32) (t1 : Int64) (t2 : Int64) (qo : Nat) (hst : l.stackTraces = false) (hph6 : ph < 6) (hno : uwN ph = false ∨ og = true) : MOT l dC dI yL_seal wsL_seal rm_l_seal_n [.ref x, .ref qo] [(x, .inr (2, [.ref qc, .ref qg, .ref qa, .ref qt, .ref qm, .int (nI ph), .int (zI og), .long nh, .int nr, .int (nI na), .int (nI nt), .int mb, .long t1, .long t2]))] [] [(x, .inr (2, [.ref qc, .ref qg, .ref qa, .ref qt, .ref qm, .int (nI ph), .int (zI og), .long nh, .int nr, .int (nI na), .int (nI nt), .int mb, .long t1, .long t2]))] (some (.int (nI 1))) := by
  refine mot_ofWH (cc := cL_seal) (maxL := 3) (ret := (some .int)) (by decide) rfl (Nat.le_of_ble_eq_true rfl) ?_
  intro p e s m args below meth c Q A H locs ls hx hb hr hlk hml hta hown hin hE hT hZ htab hQ hAe hA hK hP hD hS hl
  have hown : s.vm.findClass RL = some m.cls := hown
  have hl : lv_has ls 3 [(0, .ref x), (1, .ref qo)] := hl
  refine lv_aload_n hx hb dL_seal_0 rfl (lv_at hl 1 rfl) ?_
  refine lv_iconst (v := nI 0) hx hb dL_seal_1 (by decide) ?_
  refine lv_aload_n hx hb dL_seal_2 rfl (lv_at hl 0 rfl) ?_
  refine ct_catch (wr := []) (vx_runV (As := []) (rest := [.int (nI 0), .ref qo]) ⟨hx, hb, hml, hown, hta⟩ (MT.to (t_seal l dC dI x qc qg qa qt qm ph og nh nr na nt mb t1 t2 hst hph6 hno) H.size) (cwV 0 hta (aw_V mw_401 mw_398 mw_399 mw_400 mw_1) rfl rfl rfl ⟨rfl, dyX2_seal⟩ ⟨(Nat.le_of_ble_eq_true rfl), (Nat.le_of_ble_eq_true rfl)⟩) (pt_V hP hD hK hE hT hZ hS hA [0] [] (by decide) rfl rfl rfl rfl) rfl rfl hl.1 rfl (lv_room (Nat.le_of_ble_eq_true rfl)) dL_seal_3 ⟨(Nat.le_of_ble_eq_true rfl), (Nat.le_of_ble_eq_true rfl)⟩) hown [] ⟨0, 8, 11, 19⟩ [] htab (fun z9 hz9 => by cases hz9) (by decide) (by decide) (hta _ mw_309) (va_Nw.use rfl hT.2.1) hP hD hS hA [0] [] rfl rfl (by decide) (by decide) (fun q3 H locs hP hD hS => ?_)
  have hP : va_P (dC, dI) vwCl [(x, .inr (2, [.ref qc, .ref qg, .ref qa, .ref qt, .ref qm, .int (nI ph), .int (zI og), .long nh, .int nr, .int (nI na), .int (nI nt), .int mb, .long t1, .long t2]))] H := hP
  have hD : va_D A [(x, .inr (2, [.ref qc, .ref qg, .ref qa, .ref qt, .ref qm, .int (nI ph), .int (zI og), .long nh, .int nr, .int (nI na), .int (nI nt), .int mb, .long t1, .long t2]))] := hD
  refine W.widen (k := 1) (n := 6) (Nat.le_of_ble_eq_true rfl) (Nat.le_of_ble_eq_true rfl) ?_
  refine w_pc (pc2 := 11) rfl ?_
  refine lv_astore_n hx hb dL_seal_11 rfl hl (by decide) rfl (fun ls hl => ?_)
  have hl : lv_has ls 3 [(2, .ref q3), (0, .ref x), (1, .ref qo)] := hl
  refine lv_iconst (v := nI 1) hx hb dL_seal_12 (by decide) ?_
  exact rt_i hx hb hr hlk hQ hAe hP hD hS [0] (by decide) rfl (Nat.le_of_ble_eq_true rfl) (Nat.le_of_ble_eq_true rfl) (rfl) dL_seal_13

def rm_l_open_y : Room := { frames := 8, cells := 0, slots := 0, locals := 216 }
set_option maxHeartbeats 4000000 in
set_option maxRecDepth 100000 in
/-- open, where it answers -/
theorem l_open_y (l : Launch) (dC : Nat → ClassId) (dI : Nat → Nat → Nat) (x : Nat) (qc : Nat) (qg : Nat) (qa : Nat) (qt : Nat) (qm : Nat) (ph : Nat) (og : Bool) (nh : Int64) (nr : Int32) (na : Nat) (nt : Nat) (mb : Int32) (t1 : Int64) (t2 : Int64) (qs : Nat) (qu : Nat) (qw : Nat) (qb : Nat) (qe : Nat) (ks : ClassId) (kw : ClassId) (kb : ClassId) (ke : ClassId) (km : ClassId) (ka : ClassId) (kt : ClassId) (sb : Nat → Nat) (w : Nat → Int32) (b : Nat → Nat) (z : Nat → Nat) (yh : Int64) (yl : Int64) (mk : Nat → Nat) (ab : Nat → Nat) (tb : Nat → Nat) (hi : Int64) (lo : Int64) (qo : Nat) (ko : ClassId) (ou : Nat → Int64) (s256 : ∀ i, sb i < 256) (a256 : ∀ i, ab i < 256) (t256 : ∀ i, tb i < 256) (hna : na ≤ 48) (hnt : nt ≤ 96) (hph6 : ph < 6) (huw : uwN ph = true) (hog : og = true) (heq : eqB hi (tgN sb w nh nr ab na tb nt).1 lo (tgN sb w nh nr ab na tb nt).2 = true) (hmi : ∀ t, t < 96 → mb = nI t → ∀ j, j < 16 → mk j = mkN sb w nh nr (2 + t) j) : MX l dC dI yL_open wsL_open rm_l_open_y [.ref x, .long hi, .long lo, .ref qo] [(x, .inr (2, [.ref qc, .ref qg, .ref qa, .ref qt, .ref qm, .int (nI ph), .int (zI og), .long nh, .int nr, .int (nI na), .int (nI nt), .int mb, .long t1, .long t2])), (qc, .inr (0, [.ref qs, .ref qu, .ref qw, .ref qb, .ref qe])), (qs, .inl (ks, 256, .inl (nF sb))), (qw, .inl (kw, 44, .inl w)), (qb, .inl (kb, 16, .inl (nF b))), (qe, .inl (ke, 16, .inl (nF z))), (qg, .inr (1, [.long yh, .long yl])), (qm, .inl (km, 16, .inl (nF mk))), (qa, .inl (ka, 48, .inl (nF ab))), (qt, .inl (kt, 96, .inl (nF tb))), (qo, .inl (ko, 1, .inr (.inl ou)))] [(ks, .int), (kw, .int), (kb, .int), (ke, .int), (km, .int), (ka, .int), (kt, .int), (ko, .long)] (fun ((b1, z1, yh1, yl1, mk1, mb1) : (Nat → Nat) × (Nat → Nat) × Int64 × Int64 × (Nat → Nat) × Int32) => [(x, .inr (2, [.ref qc, .ref qg, .ref qa, .ref qt, .ref qm, .int (nI 4), .int (zI og), .long nh, .int nr, .int (nI na), .int (nI nt), .int mb1, .long ((tgN sb w nh nr ab na tb nt).1), .long ((tgN sb w nh nr ab na tb nt).2)])), (qc, .inr (0, [.ref qs, .ref qu, .ref qw, .ref qb, .ref qe])), (qs, .inl (ks, 256, .inl (nF sb))), (qw, .inl (kw, 44, .inl w)), (qb, .inl (kb, 16, .inl (nF b1))), (qe, .inl (ke, 16, .inl (nF z1))), (qg, .inr (1, [.long yh1, .long yl1])), (qm, .inl (km, 16, .inl (nF mk1))), (qa, .inl (ka, 48, .inl (nF ab))), (qt, .inl (kt, 96, .inl (nF (fl (umt sb w nh nr tb) tb nt)))), (qo, .inl (ko, 1, .inr (.inl (vp_updL ou 0 (lN 1)))))]) (fun ((b1, z1, yh1, yl1, mk1, mb1) : (Nat → Nat) × (Nat → Nat) × Int64 × Int64 × (Nat → Nat) × Int32) => []) (fun ((b1, z1, yh1, yl1, mk1, mb1) : (Nat → Nat) × (Nat → Nat) × Int64 × Int64 × (Nat → Nat) × Int32) => ∀ t, t < 96 → mb1 = nI t → ∀ j, j < 16 → mk1 j = mkN sb w nh nr (2 + t) j) (fun ((b1, z1, yh1, yl1, mk1, mb1) : (Nat → Nat) × (Nat → Nat) × Int64 × Int64 × (Nat → Nat) × Int32) => (some (.int (nI 0)))) := by
  refine mx_ofWH (cc := cL_open) (maxL := 7) (ret := (some .int)) (by decide) rfl (Nat.le_of_ble_eq_true rfl) ?_
  intro p e s m args below meth c Q A H locs ls hx hb hr hlk hml hta hown hin hE hQ hAe hA hK hP hD hS hl
  have hown : s.vm.findClass RL = some m.cls := hown
  have hl : lv_has ls 7 [(0, .ref x), (1, .long hi), (3, .long lo), (5, .ref qo)] := hl
  refine lv_aload hx hb dL_open_0 (lv_at hl 3 rfl) ?_
  refine lv_iconst (v := nI 0) hx hb dL_open_2 (by decide) ?_
  refine lv_aload_n hx hb dL_open_3 rfl (lv_at hl 0 rfl) ?_
  refine lv_lload_n hx hb dL_open_4 rfl (lv_at hl 1 rfl) ?_
  refine lv_lload_n hx hb dL_open_5 rfl (lv_at hl 2 rfl) ?_
  refine cx_1 (wr := [(qo, .inl (ko, 1, .inr (.inl ou)))]) (va_runV (As := [.long hi, .long lo]) (rest := [.int (nI 0), .ref qo]) ⟨hx, hb, hml, hown, hta⟩ (MX.to (c_open_y l dC dI x qc qg qa qt qm ph og nh nr na nt mb t1 t2 qs qu qw qb qe ks kw kb ke km ka kt sb w b z yh yl mk ab tb hi lo s256 a256 t256 hna hnt hph6 huw hog heq hmi) H.size) (cwV 2 hta (aw_V mw_422 mw_419 mw_420 mw_421 mw_1) rfl rfl rfl ⟨rfl, dyX2_open⟩ ⟨(Nat.le_of_ble_eq_true rfl), (Nat.le_of_ble_eq_true rfl)⟩) (pr_V hP hD hK hE [0, 1, 2, 3, 4, 5, 6, 7, 8, 9] [0, 1, 2, 3, 4, 5, 6] (by decide) rfl rfl rfl rfl) rfl rfl hl.1 rfl (lv_room (Nat.le_of_ble_eq_true rfl)) dL_open_6 ⟨(Nat.le_of_ble_eq_true rfl), (Nat.le_of_ble_eq_true rfl)⟩) hK hP hD hS hA [0, 1, 2, 3, 4, 5, 6, 7, 8, 9] [10] rfl rfl (by decide) (by decide) (fun u9 H locs hphi_6 hK hP hD hS => ?_)
  obtain ⟨b1_1, z1_1, yh1_1, yl1_1, mk1_1, mb1_1⟩ := u9
  have hphi_6 : ∀ t, t < 96 → mb1_1 = nI t → ∀ j, j < 16 → mk1_1 j = mkN sb w nh nr (2 + t) j := hphi_6
  have hK : va_K (dC, dI) vwCl [(ks, .int), (kw, .int), (kb, .int), (ke, .int), (km, .int), (ka, .int), (kt, .int), (ko, .long)] s := hK
  have hP : va_P (dC, dI) vwCl [(qo, .inl (ko, 1, .inr (.inl ou))), (x, .inr (2, [.ref qc, .ref qg, .ref qa, .ref qt, .ref qm, .int (nI 4), .int (zI og), .long nh, .int nr, .int (nI na), .int (nI nt), .int mb1_1, .long ((tgN sb w nh nr ab na tb nt).1), .long ((tgN sb w nh nr ab na tb nt).2)])), (qc, .inr (0, [.ref qs, .ref qu, .ref qw, .ref qb, .ref qe])), (qs, .inl (ks, 256, .inl (nF sb))), (qw, .inl (kw, 44, .inl w)), (qb, .inl (kb, 16, .inl (nF b1_1))), (qe, .inl (ke, 16, .inl (nF z1_1))), (qg, .inr (1, [.long yh1_1, .long yl1_1])), (qm, .inl (km, 16, .inl (nF mk1_1))), (qa, .inl (ka, 48, .inl (nF ab))), (qt, .inl (kt, 96, .inl (nF (fl (umt sb w nh nr tb) tb nt))))] H := hP
  have hD : va_D A [(qo, .inl (ko, 1, .inr (.inl ou))), (x, .inr (2, [.ref qc, .ref qg, .ref qa, .ref qt, .ref qm, .int (nI 4), .int (zI og), .long nh, .int nr, .int (nI na), .int (nI nt), .int mb1_1, .long ((tgN sb w nh nr ab na tb nt).1), .long ((tgN sb w nh nr ab na tb nt).2)])), (qc, .inr (0, [.ref qs, .ref qu, .ref qw, .ref qb, .ref qe])), (qs, .inl (ks, 256, .inl (nF sb))), (qw, .inl (kw, 44, .inl w)), (qb, .inl (kb, 16, .inl (nF b1_1))), (qe, .inl (ke, 16, .inl (nF z1_1))), (qg, .inr (1, [.long yh1_1, .long yl1_1])), (qm, .inl (km, 16, .inl (nF mk1_1))), (qa, .inl (ka, 48, .inl (nF ab))), (qt, .inl (kt, 96, .inl (nF (fl (umt sb w nh nr tb) tb nt))))] := hD
  refine W.widen (k := 0) (n := 0) (Nat.le_of_ble_eq_true rfl) (Nat.le_of_ble_eq_true rfl) ?_
  refine w_pc (pc2 := 9) rfl ?_
  refine lv_if_eq (tgt := 16) hx hb dL_open_9 (by decide) (fun hc_9 => ?_) (fun hc_9 => ?_)
  · skip
    exact absurd hc_9 (by decide)
  · skip
    refine lv_lconst (v := lN 1) hx hb dL_open_12 (by decide) ?_
    refine lv_goto (tgt := 17) hx hb dL_open_13 (by decide) ?_
    refine va_lasn hx hb hK hP hD hS 0 7 rfl rfl (by omega) (by decide) dL_open_17 (fun H locs hP hD hS => ?_)
    have hP : va_P (dC, dI) vwCl [(qo, .inl (ko, 1, .inr (.inl (vp_updL ou 0 (lN 1))))), (x, .inr (2, [.ref qc, .ref qg, .ref qa, .ref qt, .ref qm, .int (nI 4), .int (zI og), .long nh, .int nr, .int (nI na), .int (nI nt), .int mb1_1, .long ((tgN sb w nh nr ab na tb nt).1), .long ((tgN sb w nh nr ab na tb nt).2)])), (qc, .inr (0, [.ref qs, .ref qu, .ref qw, .ref qb, .ref qe])), (qs, .inl (ks, 256, .inl (nF sb))), (qw, .inl (kw, 44, .inl w)), (qb, .inl (kb, 16, .inl (nF b1_1))), (qe, .inl (ke, 16, .inl (nF z1_1))), (qg, .inr (1, [.long yh1_1, .long yl1_1])), (qm, .inl (km, 16, .inl (nF mk1_1))), (qa, .inl (ka, 48, .inl (nF ab))), (qt, .inl (kt, 96, .inl (nF (fl (umt sb w nh nr tb) tb nt))))] H := hP
    have hD : va_D A [(qo, .inl (ko, 1, .inr (.inl (vp_updL ou 0 (lN 1))))), (x, .inr (2, [.ref qc, .ref qg, .ref qa, .ref qt, .ref qm, .int (nI 4), .int (zI og), .long nh, .int nr, .int (nI na), .int (nI nt), .int mb1_1, .long ((tgN sb w nh nr ab na tb nt).1), .long ((tgN sb w nh nr ab na tb nt).2)])), (qc, .inr (0, [.ref qs, .ref qu, .ref qw, .ref qb, .ref qe])), (qs, .inl (ks, 256, .inl (nF sb))), (qw, .inl (kw, 44, .inl w)), (qb, .inl (kb, 16, .inl (nF b1_1))), (qe, .inl (ke, 16, .inl (nF z1_1))), (qg, .inr (1, [.long yh1_1, .long yl1_1])), (qm, .inl (km, 16, .inl (nF mk1_1))), (qa, .inl (ka, 48, .inl (nF ab))), (qt, .inl (kt, 96, .inl (nF (fl (umt sb w nh nr tb) tb nt))))] := hD
    refine lv_goto (tgt := 25) hx hb dL_open_18 (by decide) ?_
    refine lv_iconst (v := nI 0) hx hb dL_open_25 (by decide) ?_
    exact rx_i (b1_1, z1_1, yh1_1, yl1_1, mk1_1, mb1_1) (hphi_6) hx hb hr hlk hQ hAe hK hP hD hS [1, 2, 3, 4, 5, 6, 7, 8, 9, 10, 0] [] (by decide) rfl rfl (Nat.le_of_ble_eq_true rfl) (Nat.le_of_ble_eq_true rfl) (rfl) dL_open_26

def rm_l_open_n : Room := { frames := 8, cells := 0, slots := 0, locals := 216 }
set_option maxHeartbeats 4000000 in
set_option maxRecDepth 100000 in
/-- open, where it answers -/
theorem l_open_n (l : Launch) (dC : Nat → ClassId) (dI : Nat → Nat → Nat) (x : Nat) (qc : Nat) (qg : Nat) (qa : Nat) (qt : Nat) (qm : Nat) (ph : Nat) (og : Bool) (nh : Int64) (nr : Int32) (na : Nat) (nt : Nat) (mb : Int32) (t1 : Int64) (t2 : Int64) (qs : Nat) (qu : Nat) (qw : Nat) (qb : Nat) (qe : Nat) (ks : ClassId) (kw : ClassId) (kb : ClassId) (ke : ClassId) (km : ClassId) (ka : ClassId) (kt : ClassId) (sb : Nat → Nat) (w : Nat → Int32) (b : Nat → Nat) (z : Nat → Nat) (yh : Int64) (yl : Int64) (mk : Nat → Nat) (ab : Nat → Nat) (tb : Nat → Nat) (hi : Int64) (lo : Int64) (qo : Nat) (ko : ClassId) (ou : Nat → Int64) (s256 : ∀ i, sb i < 256) (a256 : ∀ i, ab i < 256) (t256 : ∀ i, tb i < 256) (hna : na ≤ 48) (hnt : nt ≤ 96) (hph6 : ph < 6) (huw : uwN ph = true) (hog : og = true) (heq : eqB hi (tgN sb w nh nr ab na tb nt).1 lo (tgN sb w nh nr ab na tb nt).2 = false) : MX l dC dI yL_open wsL_open rm_l_open_n [.ref x, .long hi, .long lo, .ref qo] [(x, .inr (2, [.ref qc, .ref qg, .ref qa, .ref qt, .ref qm, .int (nI ph), .int (zI og), .long nh, .int nr, .int (nI na), .int (nI nt), .int mb, .long t1, .long t2])), (qc, .inr (0, [.ref qs, .ref qu, .ref qw, .ref qb, .ref qe])), (qs, .inl (ks, 256, .inl (nF sb))), (qw, .inl (kw, 44, .inl w)), (qb, .inl (kb, 16, .inl (nF b))), (qe, .inl (ke, 16, .inl (nF z))), (qg, .inr (1, [.long yh, .long yl])), (qm, .inl (km, 16, .inl (nF mk))), (qa, .inl (ka, 48, .inl (nF ab))), (qt, .inl (kt, 96, .inl (nF tb))), (qo, .inl (ko, 1, .inr (.inl ou)))] [(ks, .int), (kw, .int), (kb, .int), (ke, .int), (km, .int), (ka, .int), (kt, .int), (ko, .long)] (fun ((b1, z1, yh1, yl1) : (Nat → Nat) × (Nat → Nat) × Int64 × Int64) => [(x, .inr (2, [.ref qc, .ref qg, .ref qa, .ref qt, .ref qm, .int (nI 5), .int (zI og), .long nh, .int nr, .int (nI na), .int (nI nt), .int mb, .long ((tgN sb w nh nr ab na tb nt).1), .long ((tgN sb w nh nr ab na tb nt).2)])), (qc, .inr (0, [.ref qs, .ref qu, .ref qw, .ref qb, .ref qe])), (qs, .inl (ks, 256, .inl (nF sb))), (qw, .inl (kw, 44, .inl w)), (qb, .inl (kb, 16, .inl (nF b1))), (qe, .inl (ke, 16, .inl (nF z1))), (qg, .inr (1, [.long yh1, .long yl1])), (qm, .inl (km, 16, .inl (nF mk))), (qa, .inl (ka, 48, .inl (nF ab))), (qt, .inl (kt, 96, .inl (nF tb))), (qo, .inl (ko, 1, .inr (.inl (vp_updL ou 0 (lN 0)))))]) (fun ((b1, z1, yh1, yl1) : (Nat → Nat) × (Nat → Nat) × Int64 × Int64) => []) (fun _ => True) (fun ((b1, z1, yh1, yl1) : (Nat → Nat) × (Nat → Nat) × Int64 × Int64) => (some (.int (nI 0)))) := by
  refine mx_ofWH (cc := cL_open) (maxL := 7) (ret := (some .int)) (by decide) rfl (Nat.le_of_ble_eq_true rfl) ?_
  intro p e s m args below meth c Q A H locs ls hx hb hr hlk hml hta hown hin hE hQ hAe hA hK hP hD hS hl
  have hown : s.vm.findClass RL = some m.cls := hown
  have hl : lv_has ls 7 [(0, .ref x), (1, .long hi), (3, .long lo), (5, .ref qo)] := hl
  refine lv_aload hx hb dL_open_0 (lv_at hl 3 rfl) ?_
  refine lv_iconst (v := nI 0) hx hb dL_open_2 (by decide) ?_
  refine lv_aload_n hx hb dL_open_3 rfl (lv_at hl 0 rfl) ?_
  refine lv_lload_n hx hb dL_open_4 rfl (lv_at hl 1 rfl) ?_
  refine lv_lload_n hx hb dL_open_5 rfl (lv_at hl 2 rfl) ?_
  refine cx_1 (wr := [(qo, .inl (ko, 1, .inr (.inl ou)))]) (va_runV (As := [.long hi, .long lo]) (rest := [.int (nI 0), .ref qo]) ⟨hx, hb, hml, hown, hta⟩ (MX.to (c_open_n l dC dI x qc qg qa qt qm ph og nh nr na nt mb t1 t2 qs qu qw qb qe ks kw kb ke km ka kt sb w b z yh yl mk ab tb hi lo s256 a256 t256 hna hnt hph6 huw hog heq) H.size) (cwV 2 hta (aw_V mw_422 mw_419 mw_420 mw_421 mw_1) rfl rfl rfl ⟨rfl, dyX2_open⟩ ⟨(Nat.le_of_ble_eq_true rfl), (Nat.le_of_ble_eq_true rfl)⟩) (pr_V hP hD hK hE [0, 1, 2, 3, 4, 5, 6, 7, 8, 9] [0, 1, 2, 3, 4, 5, 6] (by decide) rfl rfl rfl rfl) rfl rfl hl.1 rfl (lv_room (Nat.le_of_ble_eq_true rfl)) dL_open_6 ⟨(Nat.le_of_ble_eq_true rfl), (Nat.le_of_ble_eq_true rfl)⟩) hK hP hD hS hA [0, 1, 2, 3, 4, 5, 6, 7, 8, 9] [10] rfl rfl (by decide) (by decide) (fun u9 H locs hphi_6 hK hP hD hS => ?_)
  obtain ⟨b1_1, z1_1, yh1_1, yl1_1⟩ := u9
  have hK : va_K (dC, dI) vwCl [(ks, .int), (kw, .int), (kb, .int), (ke, .int), (km, .int), (ka, .int), (kt, .int), (ko, .long)] s := hK
  have hP : va_P (dC, dI) vwCl [(qo, .inl (ko, 1, .inr (.inl ou))), (x, .inr (2, [.ref qc, .ref qg, .ref qa, .ref qt, .ref qm, .int (nI 5), .int (zI og), .long nh, .int nr, .int (nI na), .int (nI nt), .int mb, .long ((tgN sb w nh nr ab na tb nt).1), .long ((tgN sb w nh nr ab na tb nt).2)])), (qc, .inr (0, [.ref qs, .ref qu, .ref qw, .ref qb, .ref qe])), (qs, .inl (ks, 256, .inl (nF sb))), (qw, .inl (kw, 44, .inl w)), (qb, .inl (kb, 16, .inl (nF b1_1))), (qe, .inl (ke, 16, .inl (nF z1_1))), (qg, .inr (1, [.long yh1_1, .long yl1_1])), (qm, .inl (km, 16, .inl (nF mk))), (qa, .inl (ka, 48, .inl (nF ab))), (qt, .inl (kt, 96, .inl (nF tb)))] H := hP
  have hD : va_D A [(qo, .inl (ko, 1, .inr (.inl ou))), (x, .inr (2, [.ref qc, .ref qg, .ref qa, .ref qt, .ref qm, .int (nI 5), .int (zI og), .long nh, .int nr, .int (nI na), .int (nI nt), .int mb, .long ((tgN sb w nh nr ab na tb nt).1), .long ((tgN sb w nh nr ab na tb nt).2)])), (qc, .inr (0, [.ref qs, .ref qu, .ref qw, .ref qb, .ref qe])), (qs, .inl (ks, 256, .inl (nF sb))), (qw, .inl (kw, 44, .inl w)), (qb, .inl (kb, 16, .inl (nF b1_1))), (qe, .inl (ke, 16, .inl (nF z1_1))), (qg, .inr (1, [.long yh1_1, .long yl1_1])), (qm, .inl (km, 16, .inl (nF mk))), (qa, .inl (ka, 48, .inl (nF ab))), (qt, .inl (kt, 96, .inl (nF tb)))] := hD
  refine W.widen (k := 0) (n := 0) (Nat.le_of_ble_eq_true rfl) (Nat.le_of_ble_eq_true rfl) ?_
  refine w_pc (pc2 := 9) rfl ?_
  refine lv_if_eq (tgt := 16) hx hb dL_open_9 (by decide) (fun hc_9 => ?_) (fun hc_9 => ?_)
  · skip
    refine lv_lconst (v := lN 0) hx hb dL_open_16 (by decide) ?_
    refine va_lasn hx hb hK hP hD hS 0 7 rfl rfl (by omega) (by decide) dL_open_17 (fun H locs hP hD hS => ?_)
    have hP : va_P (dC, dI) vwCl [(qo, .inl (ko, 1, .inr (.inl (vp_updL ou 0 (lN 0))))), (x, .inr (2, [.ref qc, .ref qg, .ref qa, .ref qt, .ref qm, .int (nI 5), .int (zI og), .long nh, .int nr, .int (nI na), .int (nI nt), .int mb, .long ((tgN sb w nh nr ab na tb nt).1), .long ((tgN sb w nh nr ab na tb nt).2)])), (qc, .inr (0, [.ref qs, .ref qu, .ref qw, .ref qb, .ref qe])), (qs, .inl (ks, 256, .inl (nF sb))), (qw, .inl (kw, 44, .inl w)), (qb, .inl (kb, 16, .inl (nF b1_1))), (qe, .inl (ke, 16, .inl (nF z1_1))), (qg, .inr (1, [.long yh1_1, .long yl1_1])), (qm, .inl (km, 16, .inl (nF mk))), (qa, .inl (ka, 48, .inl (nF ab))), (qt, .inl (kt, 96, .inl (nF tb)))] H := hP
    have hD : va_D A [(qo, .inl (ko, 1, .inr (.inl (vp_updL ou 0 (lN 0))))), (x, .inr (2, [.ref qc, .ref qg, .ref qa, .ref qt, .ref qm, .int (nI 5), .int (zI og), .long nh, .int nr, .int (nI na), .int (nI nt), .int mb, .long ((tgN sb w nh nr ab na tb nt).1), .long ((tgN sb w nh nr ab na tb nt).2)])), (qc, .inr (0, [.ref qs, .ref qu, .ref qw, .ref qb, .ref qe])), (qs, .inl (ks, 256, .inl (nF sb))), (qw, .inl (kw, 44, .inl w)), (qb, .inl (kb, 16, .inl (nF b1_1))), (qe, .inl (ke, 16, .inl (nF z1_1))), (qg, .inr (1, [.long yh1_1, .long yl1_1])), (qm, .inl (km, 16, .inl (nF mk))), (qa, .inl (ka, 48, .inl (nF ab))), (qt, .inl (kt, 96, .inl (nF tb)))] := hD
    refine lv_goto (tgt := 25) hx hb dL_open_18 (by decide) ?_
    refine lv_iconst (v := nI 0) hx hb dL_open_25 (by decide) ?_
    exact rx_i (b1_1, z1_1, yh1_1, yl1_1) trivial hx hb hr hlk hQ hAe hK hP hD hS [1, 2, 3, 4, 5, 6, 7, 8, 9, 10, 0] [] (by decide) rfl rfl (Nat.le_of_ble_eq_true rfl) (Nat.le_of_ble_eq_true rfl) (rfl) dL_open_26
  · skip
    exact absurd (by decide) hc_9

def rm_l_open_x : Room := { frames := 7, cells := 1, slots := 6, locals := 115 }
set_option maxHeartbeats 4000000 in
set_option maxRecDepth 100000 in
/-- open, where it throws -/
theorem l_open_x (l : Launch) (dC : Nat → ClassId) (dI : Nat → Nat → Nat) (x : Nat) (qc : Nat) (qg : Nat) (qa : Nat) (qt : Nat) (qm : Nat) (ph : Nat) (og : Bool) (nh : Int64) (nr : Int32) (na : Nat) (nt : Nat) (mb : Int32) (t1 : Int64) (t2 : Int64) (hi : Int64) (lo : Int64) (qo : Nat) (hst : l.stackTraces = false) (hph6 : ph < 6) (hno : uwN ph = false ∨ og = false) : MOT l dC dI yL_open wsL_open rm_l_open_x [.ref x, .long hi, .long lo, .ref qo] [(x, .inr (2, [.ref qc, .ref qg, .ref qa, .ref qt, .ref qm, .int (nI ph), .int (zI og), .long nh, .int nr, .int (nI na), .int (nI nt), .int mb, .long t1, .long t2]))] [] [(x, .inr (2, [.ref qc, .ref qg, .ref qa, .ref qt, .ref qm, .int (nI ph), .int (zI og), .long nh, .int nr, .int (nI na), .int (nI nt), .int mb, .long t1, .long t2]))] (some (.int (nI 1))) := by
  refine mot_ofWH (cc := cL_open) (maxL := 7) (ret := (some .int)) (by decide) rfl (Nat.le_of_ble_eq_true rfl) ?_
  intro p e s m args below meth c Q A H locs ls hx hb hr hlk hml hta hown hin hE hT hZ htab hQ hAe hA hK hP hD hS hl
  have hown : s.vm.findClass RL = some m.cls := hown
  have hl : lv_has ls 7 [(0, .ref x), (1, .long hi), (3, .long lo), (5, .ref qo)] := hl
  refine lv_aload hx hb dL_open_0 (lv_at hl 3 rfl) ?_
  refine lv_iconst (v := nI 0) hx hb dL_open_2 (by decide) ?_
  refine lv_aload_n hx hb dL_open_3 rfl (lv_at hl 0 rfl) ?_
  refine lv_lload_n hx hb dL_open_4 rfl (lv_at hl 1 rfl) ?_
  refine lv_lload_n hx hb dL_open_5 rfl (lv_at hl 2 rfl) ?_
  refine ct_catch (wr := []) (vx_runV (As := [.long hi, .long lo]) (rest := [.int (nI 0), .ref qo]) ⟨hx, hb, hml, hown, hta⟩ (MT.to (t_open l dC dI x qc qg qa qt qm ph og nh nr na nt mb t1 t2 hi lo hst hph6 hno) H.size) (cwV 2 hta (aw_V mw_422 mw_419 mw_420 mw_421 mw_1) rfl rfl rfl ⟨rfl, dyX2_open⟩ ⟨(Nat.le_of_ble_eq_true rfl), (Nat.le_of_ble_eq_true rfl)⟩) (pt_V hP hD hK hE hT hZ hS hA [0] [] (by decide) rfl rfl rfl rfl) rfl rfl hl.1 rfl (lv_room (Nat.le_of_ble_eq_true rfl)) dL_open_6 ⟨(Nat.le_of_ble_eq_true rfl), (Nat.le_of_ble_eq_true rfl)⟩) hown [] ⟨0, 18, 21, 19⟩ [] htab (fun z9 hz9 => by cases hz9) (by decide) (by decide) (hta _ mw_309) (va_Nw.use rfl hT.2.1) hP hD hS hA [0] [] rfl rfl (by decide) (by decide) (fun q6 H locs hP hD hS => ?_)
  have hP : va_P (dC, dI) vwCl [(x, .inr (2, [.ref qc, .ref qg, .ref qa, .ref qt, .ref qm, .int (nI ph), .int (zI og), .long nh, .int nr, .int (nI na), .int (nI nt), .int mb, .long t1, .long t2]))] H := hP
  have hD : va_D A [(x, .inr (2, [.ref qc, .ref qg, .ref qa, .ref qt, .ref qm, .int (nI ph), .int (zI og), .long nh, .int nr, .int (nI na), .int (nI nt), .int mb, .long t1, .long t2]))] := hD
  refine W.widen (k := 1) (n := 6) (Nat.le_of_ble_eq_true rfl) (Nat.le_of_ble_eq_true rfl) ?_
  refine w_pc (pc2 := 21) rfl ?_
  refine lv_astore hx hb dL_open_21 hl (by decide) rfl (fun ls hl => ?_)
  have hl : lv_has ls 7 [(6, .ref q6), (0, .ref x), (1, .long hi), (3, .long lo), (5, .ref qo)] := hl
  refine lv_iconst (v := nI 1) hx hb dL_open_23 (by decide) ?_
  exact rt_i hx hb hr hlk hQ hAe hP hD hS [0] (by decide) rfl (Nat.le_of_ble_eq_true rfl) (Nat.le_of_ble_eq_true rfl) (rfl) dL_open_24

def rm_l_tag_y : Room := { frames := 1, cells := 0, slots := 0, locals := 21 }
set_option maxHeartbeats 4000000 in
set_option maxRecDepth 100000 in
/-- tag, where it answers -/
theorem l_tag_y (l : Launch) (dC : Nat → ClassId) (dI : Nat → Nat → Nat) (x : Nat) (qc : Nat) (qg : Nat) (qa : Nat) (qt : Nat) (qm : Nat) (ph : Nat) (og : Bool) (nh : Int64) (nr : Int32) (na : Nat) (nt : Nat) (mb : Int32) (t1 : Int64) (t2 : Int64) (ot : Bool) (qo : Nat) (ko : ClassId) (ou : Nat → Int64) (hph : ph = 3) : MO l dC dI yL_tag wsL_tag rm_l_tag_y [.ref x, .int (zI ot), .ref qo] [(x, .inr (2, [.ref qc, .ref qg, .ref qa, .ref qt, .ref qm, .int (nI ph), .int (zI og), .long nh, .int nr, .int (nI na), .int (nI nt), .int mb, .long t1, .long t2])), (qo, .inl (ko, 1, .inr (.inl ou)))] [(ko, .long)] [(x, .inr (2, [.ref qc, .ref qg, .ref qa, .ref qt, .ref qm, .int (nI ph), .int (zI og), .long nh, .int nr, .int (nI na), .int (nI nt), .int mb, .long t1, .long t2])), (qo, .inl (ko, 1, .inr (.inl (vp_updL ou 0 (if ot then t2 else t1)))))] (some (.int (nI 0))) := by
  refine mo_ofWH (cc := cL_tag) (maxL := 4) (ret := (some .int)) (by decide) rfl (Nat.le_of_ble_eq_true rfl) ?_
  intro p e s m args below meth c Q A H locs ls hx hb hr hlk hml hta hown hin hE hQ hAe hA hK hP hD hS hl
  have hown : s.vm.findClass RL = some m.cls := hown
  have hl : lv_has ls 4 [(0, .ref x), (1, .int (zI ot)), (2, .ref qo)] := hl
  refine lv_aload_n hx hb dL_tag_0 rfl (lv_at hl 2 rfl) ?_
  refine lv_iconst (v := nI 0) hx hb dL_tag_1 (by decide) ?_
  refine lv_aload_n hx hb dL_tag_2 rfl (lv_at hl 0 rfl) ?_
  refine lv_iload_n hx hb dL_tag_3 rfl (lv_at hl 1 rfl) ?_
  refine cf_1 (wr := [(qo, .inl (ko, 1, .inr (.inl ou)))]) (va_runV (As := [.int (zI ot)]) (rest := [.int (nI 0), .ref qo]) ⟨hx, hb, hml, hown, hta⟩ (MO.to (c_tag_y l dC dI x qc qg qa qt qm ph og nh nr na nt mb t1 t2 ot hph) H.size) (cwV 1 hta (aw_V mw_433 mw_430 mw_431 mw_432 mw_1) rfl rfl rfl ⟨rfl, dyX2_tag⟩ ⟨(Nat.le_of_ble_eq_true rfl), (Nat.le_of_ble_eq_true rfl)⟩) (pr_V hP hD hK hE [0] [] (by decide) rfl rfl rfl rfl) rfl rfl hl.1 rfl (lv_room (Nat.le_of_ble_eq_true rfl)) dL_tag_4 ⟨(Nat.le_of_ble_eq_true rfl), (Nat.le_of_ble_eq_true rfl)⟩) hP hD hS hA [0] [1] rfl rfl (by decide) (by decide) (fun H locs hP hD hS => ?_)
  have hP : va_P (dC, dI) vwCl [(qo, .inl (ko, 1, .inr (.inl ou))), (x, .inr (2, [.ref qc, .ref qg, .ref qa, .ref qt, .ref qm, .int (nI ph), .int (zI og), .long nh, .int nr, .int (nI na), .int (nI nt), .int mb, .long t1, .long t2]))] H := hP
  have hD : va_D A [(qo, .inl (ko, 1, .inr (.inl ou))), (x, .inr (2, [.ref qc, .ref qg, .ref qa, .ref qt, .ref qm, .int (nI ph), .int (zI og), .long nh, .int nr, .int (nI na), .int (nI nt), .int mb, .long t1, .long t2]))] := hD
  refine W.widen (k := 0) (n := 0) (Nat.le_of_ble_eq_true rfl) (Nat.le_of_ble_eq_true rfl) ?_
  refine w_pc (pc2 := 7) rfl ?_
  refine va_lasn hx hb hK hP hD hS 0 0 rfl rfl (by omega) (by decide) dL_tag_7 (fun H locs hP hD hS => ?_)
  have hP : va_P (dC, dI) vwCl [(qo, .inl (ko, 1, .inr (.inl (vp_updL ou 0 (if ot then t2 else t1))))), (x, .inr (2, [.ref qc, .ref qg, .ref qa, .ref qt, .ref qm, .int (nI ph), .int (zI og), .long nh, .int nr, .int (nI na), .int (nI nt), .int mb, .long t1, .long t2]))] H := hP
  have hD : va_D A [(qo, .inl (ko, 1, .inr (.inl (vp_updL ou 0 (if ot then t2 else t1))))), (x, .inr (2, [.ref qc, .ref qg, .ref qa, .ref qt, .ref qm, .int (nI ph), .int (zI og), .long nh, .int nr, .int (nI na), .int (nI nt), .int mb, .long t1, .long t2]))] := hD
  refine lv_goto (tgt := 14) hx hb dL_tag_8 (by decide) ?_
  refine lv_iconst (v := nI 0) hx hb dL_tag_14 (by decide) ?_
  exact rt_i hx hb hr hlk hQ hAe hP hD hS [1, 0] (by decide) rfl (Nat.le_of_ble_eq_true rfl) (Nat.le_of_ble_eq_true rfl) (rfl) dL_tag_15

def rm_l_tag_n : Room := { frames := 7, cells := 1, slots := 6, locals := 111 }
set_option maxHeartbeats 4000000 in
set_option maxRecDepth 100000 in
/-- tag, where it throws -/
theorem l_tag_n (l : Launch) (dC : Nat → ClassId) (dI : Nat → Nat → Nat) (x : Nat) (qc : Nat) (qg : Nat) (qa : Nat) (qt : Nat) (qm : Nat) (ph : Nat) (og : Bool) (nh : Int64) (nr : Int32) (na : Nat) (nt : Nat) (mb : Int32) (t1 : Int64) (t2 : Int64) (ot : Bool) (qo : Nat) (hst : l.stackTraces = false) (hph6 : ph < 6) (hph : ¬ ph = 3) : MOT l dC dI yL_tag wsL_tag rm_l_tag_n [.ref x, .int (zI ot), .ref qo] [(x, .inr (2, [.ref qc, .ref qg, .ref qa, .ref qt, .ref qm, .int (nI ph), .int (zI og), .long nh, .int nr, .int (nI na), .int (nI nt), .int mb, .long t1, .long t2]))] [] [(x, .inr (2, [.ref qc, .ref qg, .ref qa, .ref qt, .ref qm, .int (nI ph), .int (zI og), .long nh, .int nr, .int (nI na), .int (nI nt), .int mb, .long t1, .long t2]))] (some (.int (nI 1))) := by
  refine mot_ofWH (cc := cL_tag) (maxL := 4) (ret := (some .int)) (by decide) rfl (Nat.le_of_ble_eq_true rfl) ?_
  intro p e s m args below meth c Q A H locs ls hx hb hr hlk hml hta hown hin hE hT hZ htab hQ hAe hA hK hP hD hS hl
  have hown : s.vm.findClass RL = some m.cls := hown
  have hl : lv_has ls 4 [(0, .ref x), (1, .int (zI ot)), (2, .ref qo)] := hl
  refine lv_aload_n hx hb dL_tag_0 rfl (lv_at hl 2 rfl) ?_
  refine lv_iconst (v := nI 0) hx hb dL_tag_1 (by decide) ?_
  refine lv_aload_n hx hb dL_tag_2 rfl (lv_at hl 0 rfl) ?_
  refine lv_iload_n hx hb dL_tag_3 rfl (lv_at hl 1 rfl) ?_
  refine ct_catch (wr := []) (vx_runV (As := [.int (zI ot)]) (rest := [.int (nI 0), .ref qo]) ⟨hx, hb, hml, hown, hta⟩ (MT.to (t_tag l dC dI x qc qg qa qt qm ph og nh nr na nt mb t1 t2 ot hst hph6 hph) H.size) (cwV 1 hta (aw_V mw_433 mw_430 mw_431 mw_432 mw_1) rfl rfl rfl ⟨rfl, dyX2_tag⟩ ⟨(Nat.le_of_ble_eq_true rfl), (Nat.le_of_ble_eq_true rfl)⟩) (pt_V hP hD hK hE hT hZ hS hA [0] [] (by decide) rfl rfl rfl rfl) rfl rfl hl.1 rfl (lv_room (Nat.le_of_ble_eq_true rfl)) dL_tag_4 ⟨(Nat.le_of_ble_eq_true rfl), (Nat.le_of_ble_eq_true rfl)⟩) hown [] ⟨0, 8, 11, 19⟩ [] htab (fun z9 hz9 => by cases hz9) (by decide) (by decide) (hta _ mw_309) (va_Nw.use rfl hT.2.1) hP hD hS hA [0] [] rfl rfl (by decide) (by decide) (fun q4 H locs hP hD hS => ?_)
  have hP : va_P (dC, dI) vwCl [(x, .inr (2, [.ref qc, .ref qg, .ref qa, .ref qt, .ref qm, .int (nI ph), .int (zI og), .long nh, .int nr, .int (nI na), .int (nI nt), .int mb, .long t1, .long t2]))] H := hP
  have hD : va_D A [(x, .inr (2, [.ref qc, .ref qg, .ref qa, .ref qt, .ref qm, .int (nI ph), .int (zI og), .long nh, .int nr, .int (nI na), .int (nI nt), .int mb, .long t1, .long t2]))] := hD
  refine W.widen (k := 1) (n := 6) (Nat.le_of_ble_eq_true rfl) (Nat.le_of_ble_eq_true rfl) ?_
  refine w_pc (pc2 := 11) rfl ?_
  refine lv_astore_n hx hb dL_tag_11 rfl hl (by decide) rfl (fun ls hl => ?_)
  have hl : lv_has ls 4 [(3, .ref q4), (0, .ref x), (1, .int (zI ot)), (2, .ref qo)] := hl
  refine lv_iconst (v := nI 1) hx hb dL_tag_12 (by decide) ?_
  exact rt_i hx hb hr hlk hQ hAe hP hD hS [0] (by decide) rfl (Nat.le_of_ble_eq_true rfl) (Nat.le_of_ble_eq_true rfl) (rfl) dL_tag_13

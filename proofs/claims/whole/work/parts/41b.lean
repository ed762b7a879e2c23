def rm_c_encipherNonce : Room := { frames := 4, cells := 0, slots := 0, locals := 127 }
set_option maxHeartbeats 4000000 in
set_option maxRecDepth 100000 in
/-- encipherNonce(num) -/
theorem c_encipherNonce (l : Launch) (dC : Nat → ClassId) (dI : Nat → Nat → Nat) (x : Nat) (qc : Nat) (qg : Nat) (qa : Nat) (qt : Nat) (qm : Nat) (ph : Nat) (og : Bool) (nh : Int64) (nr : Int32) (na : Nat) (nt : Nat) (mb : Int32) (t1 : Int64) (t2 : Int64) (qs : Nat) (qu : Nat) (qw : Nat) (qb : Nat) (qe : Nat) (ks : ClassId) (kw : ClassId) (kb : ClassId) (ke : ClassId) (sb : Nat → Nat) (w : Nat → Int32) (b : Nat → Nat) (z : Nat → Nat) (num : Nat) (s256 : ∀ i, sb i < 256) (hnum : num < 1000) : MO l dC dI yX2_encipherNonce wsX2_encipherNonce rm_c_encipherNonce [.ref x, .int (nI num)] [(x, .inr (2, [.ref qc, .ref qg, .ref qa, .ref qt, .ref qm, .int (nI ph), .int (zI og), .long nh, .int nr, .int (nI na), .int (nI nt), .int mb, .long t1, .long t2])), (qc, .inr (0, [.ref qs, .ref qu, .ref qw, .ref qb, .ref qe])), (qs, .inl (ks, 256, .inl (nF sb))), (qw, .inl (kw, 44, .inl w)), (qb, .inl (kb, 16, .inl (nF b))), (qe, .inl (ke, 16, .inl (nF z)))] [(ks, .int), (kw, .int), (kb, .int), (ke, .int)] [(x, .inr (2, [.ref qc, .ref qg, .ref qa, .ref qt, .ref qm, .int (nI ph), .int (zI og), .long nh, .int nr, .int (nI na), .int (nI nt), .int mb, .long t1, .long t2])), (qc, .inr (0, [.ref qs, .ref qu, .ref qw, .ref qb, .ref qe])), (qs, .inl (ks, 256, .inl (nF sb))), (qw, .inl (kw, 44, .inl w)), (qb, .inl (kb, 16, .inl (nF (mkN sb w nh nr num)))), (qe, .inl (ke, 16, .inl (nF (erN sb w (ldN nh (ctL nr num)) 9))))] none := by
  refine mo_ofW (cc := cX2_encipherNonce) (maxL := 2) (ret := none) (by decide) rfl (Nat.le_of_ble_eq_true rfl) ?_
  intro p e s m args below meth c Q A H locs ls hx hb hr hlk hml hta hown hin hE hQ hAe hA hK hP hD hS hl
  have hown : s.vm.findClass RX2 = some m.cls := hown
  have hl : lv_has ls 2 [(0, .ref x), (1, .int (nI num))] := hl
  refine lv_aload_n hx hb dX2_encipherNonce_0 rfl (lv_at hl 0 rfl) ?_
  refine va_get (D := (dC, dI)) (ci := 2) (v := .ref qc) (C := RX2) (T := TX2) (N := 14) hx hb hta inX2 hown hK hP 0 rfl rfl 0 (by decide) (hta _ mw_80) (fun _ h9 => h9) rfl dX2_encipherNonce_1 ?_
  refine lv_aload_n hx hb dX2_encipherNonce_4 rfl (lv_at hl 0 rfl) ?_
  refine va_get (D := (dC, dI)) (ci := 2) (v := .long nh) (C := RX2) (T := TX2) (N := 14) hx hb hta inX2 hown hK hP 0 rfl rfl 7 (by decide) (hta _ mw_87) (fun _ h9 => h9) rfl dX2_encipherNonce_5 ?_
  refine lv_aload_n hx hb dX2_encipherNonce_8 rfl (lv_at hl 0 rfl) ?_
  refine va_get (D := (dC, dI)) (ci := 2) (v := .int nr) (C := RX2) (T := TX2) (N := 14) hx hb hta inX2 hown hK hP 0 rfl rfl 8 (by decide) (hta _ mw_88) (fun _ h9 => h9) rfl dX2_encipherNonce_9 ?_
  refine lv_i2l hx hb dX2_encipherNonce_12 rfl ?_
  refine lv_bipush (v := nI 32) hx hb dX2_encipherNonce_13 (by decide) ?_
  refine lv_lshl hx hb dX2_encipherNonce_15 rfl ?_
  refine lv_iload_n hx hb dX2_encipherNonce_16 rfl (lv_at hl 1 rfl) ?_
  refine lv_i2l hx hb dX2_encipherNonce_17 rfl (top_l (nI_l (by omega)) ?_)
  refine w_pc (pc2 := 18) rfl ?_
  refine lv_lor hx hb dX2_encipherNonce_18 ?_
  refine top_l (y := ctL nr num) (rfl) ?_
  refine cf_0 (wr := [(x, .inr (2, [.ref qc, .ref qg, .ref qa, .ref qt, .ref qm, .int (nI ph), .int (zI og), .long nh, .int nr, .int (nI na), .int (nI nt), .int mb, .long t1, .long t2]))]) (va_runV (As := [.long nh, .long (ctL nr num)]) (rest := []) ⟨hx, hb, hml, hown, hta⟩ (MO.to (c_encipher l dC dI qc qs qu qw qb qe ks kw kb ke sb w b z nh (ctL nr num) s256) H.size) (cwV 2 hta (aw_V mw_135 mw_132 mw_133 mw_134 mw_2) rfl rfl rfl ⟨rfl, dyX0_encipher⟩ ⟨(Nat.le_of_ble_eq_true rfl), (Nat.le_of_ble_eq_true rfl)⟩) (pr_V hP hD hK hE [1, 2, 3, 4, 5] [0, 1, 2, 3] (by decide) rfl rfl rfl rfl) rfl rfl hl.1 rfl (lv_room (Nat.le_of_ble_eq_true rfl)) dX2_encipherNonce_19 ⟨(Nat.le_of_ble_eq_true rfl), (Nat.le_of_ble_eq_true rfl)⟩) hP hD hS hA [1, 2, 3, 4, 5] [0] rfl rfl (by decide) (by decide) (fun H locs hP hD hS => ?_)
  have hP : va_P (dC, dI) vwCl [(x, .inr (2, [.ref qc, .ref qg, .ref qa, .ref qt, .ref qm, .int (nI ph), .int (zI og), .long nh, .int nr, .int (nI na), .int (nI nt), .int mb, .long t1, .long t2])), (qc, .inr (0, [.ref qs, .ref qu, .ref qw, .ref qb, .ref qe])), (qs, .inl (ks, 256, .inl (nF sb))), (qw, .inl (kw, 44, .inl w)), (qb, .inl (kb, 16, .inl (nF (erN sb w (ldN nh (ctL nr num)) 10)))), (qe, .inl (ke, 16, .inl (nF (erN sb w (ldN nh (ctL nr num)) 9))))] H := hP
  have hD : va_D A [(x, .inr (2, [.ref qc, .ref qg, .ref qa, .ref qt, .ref qm, .int (nI ph), .int (zI og), .long nh, .int nr, .int (nI na), .int (nI nt), .int mb, .long t1, .long t2])), (qc, .inr (0, [.ref qs, .ref qu, .ref qw, .ref qb, .ref qe])), (qs, .inl (ks, 256, .inl (nF sb))), (qw, .inl (kw, 44, .inl w)), (qb, .inl (kb, 16, .inl (nF (erN sb w (ldN nh (ctL nr num)) 10)))), (qe, .inl (ke, 16, .inl (nF (erN sb w (ldN nh (ctL nr num)) 9))))] := hD
  refine W.widen (k := 0) (n := 0) (Nat.le_of_ble_eq_true rfl) (Nat.le_of_ble_eq_true rfl) ?_
  refine w_pc (pc2 := 22) rfl ?_
  obtain ⟨hP, hD⟩ := va_recb (g := mkN sb w nh nr num) hP hD 4 rfl (fun i _ => rfl)
  have hP : va_P (dC, dI) vwCl [(x, .inr (2, [.ref qc, .ref qg, .ref qa, .ref qt, .ref qm, .int (nI ph), .int (zI og), .long nh, .int nr, .int (nI na), .int (nI nt), .int mb, .long t1, .long t2])), (qc, .inr (0, [.ref qs, .ref qu, .ref qw, .ref qb, .ref qe])), (qs, .inl (ks, 256, .inl (nF sb))), (qw, .inl (kw, 44, .inl w)), (qb, .inl (kb, 16, .inl (nF (mkN sb w nh nr num)))), (qe, .inl (ke, 16, .inl (nF (erN sb w (ldN nh (ctL nr num)) 9))))] H := hP
  have hD : va_D A [(x, .inr (2, [.ref qc, .ref qg, .ref qa, .ref qt, .ref qm, .int (nI ph), .int (zI og), .long nh, .int nr, .int (nI na), .int (nI nt), .int mb, .long t1, .long t2])), (qc, .inr (0, [.ref qs, .ref qu, .ref qw, .ref qb, .ref qe])), (qs, .inl (ks, 256, .inl (nF sb))), (qw, .inl (kw, 44, .inl w)), (qb, .inl (kb, 16, .inl (nF (mkN sb w nh nr num)))), (qe, .inl (ke, 16, .inl (nF (erN sb w (ldN nh (ctL nr num)) 9))))] := hD
  exact rt_0 hx hb hr hlk hQ hAe hP hD hS [0, 1, 2, 3, 4, 5] (by decide) rfl (Nat.le_of_ble_eq_true rfl) (Nat.le_of_ble_eq_true rfl) dX2_encipherNonce_22

def rm_c_maskByte : Room := { frames := 5, cells := 0, slots := 0, locals := 148 }
set_option maxHeartbeats 4000000 in
set_option maxRecDepth 100000 in
/-- maskByte(i) -/
theorem c_maskByte (l : Launch) (dC : Nat → ClassId) (dI : Nat → Nat → Nat) (x : Nat) (qc : Nat) (qg : Nat) (qa : Nat) (qt : Nat) (qm : Nat) (ph : Nat) (og : Bool) (nh : Int64) (nr : Int32) (na : Nat) (nt : Nat) (mb : Int32) (t1 : Int64) (t2 : Int64) (qs : Nat) (qu : Nat) (qw : Nat) (qb : Nat) (qe : Nat) (ks : ClassId) (kw : ClassId) (kb : ClassId) (ke : ClassId) (km : ClassId) (sb : Nat → Nat) (w : Nat → Int32) (b : Nat → Nat) (z : Nat → Nat) (mk : Nat → Nat) (i : Nat) (s256 : ∀ i, sb i < 256) (hi9 : i < 96) (hmk : mb = nI (i / 16) → ∀ j, j < 16 → mk j = mkN sb w nh nr (2 + (i / 16)) j) : MX l dC dI yX2_maskByte wsX2_maskByte rm_c_maskByte [.ref x, .int (nI i)] [(x, .inr (2, [.ref qc, .ref qg, .ref qa, .ref qt, .ref qm, .int (nI ph), .int (zI og), .long nh, .int nr, .int (nI na), .int (nI nt), .int mb, .long t1, .long t2])), (qc, .inr (0, [.ref qs, .ref qu, .ref qw, .ref qb, .ref qe])), (qs, .inl (ks, 256, .inl (nF sb))), (qw, .inl (kw, 44, .inl w)), (qb, .inl (kb, 16, .inl (nF b))), (qe, .inl (ke, 16, .inl (nF z))), (qm, .inl (km, 16, .inl (nF mk)))] [(ks, .int), (kw, .int), (kb, .int), (ke, .int), (km, .int)] (fun ((b1, z1) : (Nat → Nat) × (Nat → Nat)) => [(x, .inr (2, [.ref qc, .ref qg, .ref qa, .ref qt, .ref qm, .int (nI ph), .int (zI og), .long nh, .int nr, .int (nI na), .int (nI nt), .int (nI (i / 16)), .long t1, .long t2])), (qc, .inr (0, [.ref qs, .ref qu, .ref qw, .ref qb, .ref qe])), (qs, .inl (ks, 256, .inl (nF sb))), (qw, .inl (kw, 44, .inl w)), (qb, .inl (kb, 16, .inl (nF b1))), (qe, .inl (ke, 16, .inl (nF z1))), (qm, .inl (km, 16, .inl (nF (mkN sb w nh nr (2 + (i / 16))))))]) (fun ((b1, z1) : (Nat → Nat) × (Nat → Nat)) => []) (fun _ => True) (fun ((b1, z1) : (Nat → Nat) × (Nat → Nat)) => (some (.int (nI (mkN sb w nh nr (2 + (i / 16)) (i % 16)))))) := by
  refine mx_ofW (cc := cX2_maskByte) (maxL := 3) (ret := (some .int)) (by decide) rfl (Nat.le_of_ble_eq_true rfl) ?_
  intro p e s m args below meth c Q A H locs ls hx hb hr hlk hml hta hown hin hE hQ hAe hA hK hP hD hS hl
  have hown : s.vm.findClass RX2 = some m.cls := hown
  have hl : lv_has ls 3 [(0, .ref x), (1, .int (nI i))] := hl
  refine lv_iload_n hx hb dX2_maskByte_0 rfl (lv_at hl 1 rfl) ?_
  refine lv_bipush (v := nI 16) hx hb dX2_maskByte_1 (by decide) ?_
  refine lv_idiv hx hb dX2_maskByte_3 (by decide) (top_i (pk_div (by omega) (by decide) (by decide)) ?_)
  refine lv_istore_n hx hb dX2_maskByte_4 rfl hl (by decide) rfl (fun ls hl => ?_)
  have hl : lv_has ls 3 [(2, .int (nI (i / 16))), (0, .ref x), (1, .int (nI i))] := hl
  refine lv_iload_n hx hb dX2_maskByte_5 rfl (lv_at hl 0 rfl) ?_
  refine lv_aload_n hx hb dX2_maskByte_6 rfl (lv_at hl 1 rfl) ?_
  refine va_get (D := (dC, dI)) (ci := 2) (v := .int mb) (C := RX2) (T := TX2) (N := 14) hx hb hta inX2 hown hK hP 0 rfl rfl 11 (by decide) (hta _ mw_91) (fun _ h9 => h9) rfl dX2_maskByte_7 ?_
  refine lv_icmp_eq (tgt := 36) hx hb dX2_maskByte_10 (by decide) (fun hc_10 => ?_) (fun hc_10 => ?_)
  · skip
    have hmb := hc_10.symm
    obtain ⟨hP, hD⟩ := va_recb (g := mkN sb w nh nr (2 + (i / 16))) hP hD 6 rfl (fun j9 hj9 => hmk hmb j9 hj9)
    have hP : va_P (dC, dI) vwCl [(x, .inr (2, [.ref qc, .ref qg, .ref qa, .ref qt, .ref qm, .int (nI ph), .int (zI og), .long nh, .int nr, .int (nI na), .int (nI nt), .int mb, .long t1, .long t2])), (qc, .inr (0, [.ref qs, .ref qu, .ref qw, .ref qb, .ref qe])), (qs, .inl (ks, 256, .inl (nF sb))), (qw, .inl (kw, 44, .inl w)), (qb, .inl (kb, 16, .inl (nF b))), (qe, .inl (ke, 16, .inl (nF z))), (qm, .inl (km, 16, .inl (nF (mkN sb w nh nr (2 + (i / 16))))))] H := hP
    have hD : va_D A [(x, .inr (2, [.ref qc, .ref qg, .ref qa, .ref qt, .ref qm, .int (nI ph), .int (zI og), .long nh, .int nr, .int (nI na), .int (nI nt), .int mb, .long t1, .long t2])), (qc, .inr (0, [.ref qs, .ref qu, .ref qw, .ref qb, .ref qe])), (qs, .inl (ks, 256, .inl (nF sb))), (qw, .inl (kw, 44, .inl w)), (qb, .inl (kb, 16, .inl (nF b))), (qe, .inl (ke, 16, .inl (nF z))), (qm, .inl (km, 16, .inl (nF (mkN sb w nh nr (2 + (i / 16))))))] := hD
    refine lv_aload_n hx hb dX2_maskByte_36 rfl (lv_at hl 1 rfl) ?_
    refine va_get (D := (dC, dI)) (ci := 2) (v := .ref qm) (C := RX2) (T := TX2) (N := 14) hx hb hta inX2 hown hK hP 0 rfl rfl 4 (by decide) (hta _ mw_84) (fun _ h9 => h9) rfl dX2_maskByte_37 ?_
    refine lv_iload_n hx hb dX2_maskByte_40 rfl (lv_at hl 2 rfl) ?_
    refine lv_bipush (v := nI 16) hx hb dX2_maskByte_41 (by decide) ?_
    refine lv_irem hx hb dX2_maskByte_43 (by decide) (top_i (pk_rem (by omega) (by decide) (by decide)) ?_)
    refine va_ialb hx hb hK hP 6 4 rfl rfl (Nat.mod_lt _ (by decide)) (by decide) dX2_maskByte_44 ?_
    have e9 : mb = nI (i / 16) := hmb
    have hP : va_P (dC, dI) vwCl [(x, .inr (2, [.ref qc, .ref qg, .ref qa, .ref qt, .ref qm, .int (nI ph), .int (zI og), .long nh, .int nr, .int (nI na), .int (nI nt), .int (nI (i / 16)), .long t1, .long t2])), (qc, .inr (0, [.ref qs, .ref qu, .ref qw, .ref qb, .ref qe])), (qs, .inl (ks, 256, .inl (nF sb))), (qw, .inl (kw, 44, .inl w)), (qb, .inl (kb, 16, .inl (nF b))), (qe, .inl (ke, 16, .inl (nF z))), (qm, .inl (km, 16, .inl (nF (mkN sb w nh nr (2 + (i / 16))))))] H := by rw [← e9]; exact hP
    have hD : va_D A [(x, .inr (2, [.ref qc, .ref qg, .ref qa, .ref qt, .ref qm, .int (nI ph), .int (zI og), .long nh, .int nr, .int (nI na), .int (nI nt), .int (nI (i / 16)), .long t1, .long t2])), (qc, .inr (0, [.ref qs, .ref qu, .ref qw, .ref qb, .ref qe])), (qs, .inl (ks, 256, .inl (nF sb))), (qw, .inl (kw, 44, .inl w)), (qb, .inl (kb, 16, .inl (nF b))), (qe, .inl (ke, 16, .inl (nF z))), (qm, .inl (km, 16, .inl (nF (mkN sb w nh nr (2 + (i / 16))))))] := by rw [← e9]; exact hD
    exact rx_i (b, z) trivial hx hb hr hlk hQ hAe hK hP hD hS [0, 1, 2, 3, 4, 5, 6] [] (by decide) rfl rfl (Nat.le_of_ble_eq_true rfl) (Nat.le_of_ble_eq_true rfl) (rfl) dX2_maskByte_45
  · skip
    refine lv_aload_n hx hb dX2_maskByte_13 rfl (lv_at hl 1 rfl) ?_
    refine lv_iconst (v := nI 2) hx hb dX2_maskByte_14 (by decide) ?_
    refine lv_iload_n hx hb dX2_maskByte_15 rfl (lv_at hl 0 rfl) ?_
    refine lv_iadd hx hb dX2_maskByte_16 (top_i (nI_add _ _) ?_)
    refine w_pc (pc2 := 17) rfl ?_
    refine cf_0 (wr := [(qm, .inl (km, 16, .inl (nF mk)))]) (va_runV (As := [.int (nI (2 + (i / 16)))]) (rest := []) ⟨hx, hb, hml, hown, hta⟩ (MO.to (c_encipherNonce l dC dI x qc qg qa qt qm ph og nh nr na nt mb t1 t2 qs qu qw qb qe ks kw kb ke sb w b z (2 + (i / 16)) s256 (by omega)) H.size) (cwV 1 hta (aw_V mw_393 mw_390 mw_392 mw_s15 mw_1) rfl rfl rfl ⟨rfl, dyX2_encipherNonce⟩ ⟨(Nat.le_of_ble_eq_true rfl), (Nat.le_of_ble_eq_true rfl)⟩) (pr_V hP hD hK hE [0, 1, 2, 3, 4, 5] [0, 1, 2, 3] (by decide) rfl rfl rfl rfl) rfl rfl hl.1 rfl (lv_room (Nat.le_of_ble_eq_true rfl)) dX2_maskByte_17 ⟨(Nat.le_of_ble_eq_true rfl), (Nat.le_of_ble_eq_true rfl)⟩) hP hD hS hA [0, 1, 2, 3, 4, 5] [6] rfl rfl (by decide) (by decide) (fun H locs hP hD hS => ?_)
    have hP : va_P (dC, dI) vwCl [(qm, .inl (km, 16, .inl (nF mk))), (x, .inr (2, [.ref qc, .ref qg, .ref qa, .ref qt, .ref qm, .int (nI ph), .int (zI og), .long nh, .int nr, .int (nI na), .int (nI nt), .int mb, .long t1, .long t2])), (qc, .inr (0, [.ref qs, .ref qu, .ref qw, .ref qb, .ref qe])), (qs, .inl (ks, 256, .inl (nF sb))), (qw, .inl (kw, 44, .inl w)), (qb, .inl (kb, 16, .inl (nF (mkN sb w nh nr (2 + (i / 16)))))), (qe, .inl (ke, 16, .inl (nF (erN sb w (ldN nh (ctL nr (2 + (i / 16)))) 9))))] H := hP
    have hD : va_D A [(qm, .inl (km, 16, .inl (nF mk))), (x, .inr (2, [.ref qc, .ref qg, .ref qa, .ref qt, .ref qm, .int (nI ph), .int (zI og), .long nh, .int nr, .int (nI na), .int (nI nt), .int mb, .long t1, .long t2])), (qc, .inr (0, [.ref qs, .ref qu, .ref qw, .ref qb, .ref qe])), (qs, .inl (ks, 256, .inl (nF sb))), (qw, .inl (kw, 44, .inl w)), (qb, .inl (kb, 16, .inl (nF (mkN sb w nh nr (2 + (i / 16)))))), (qe, .inl (ke, 16, .inl (nF (erN sb w (ldN nh (ctL nr (2 + (i / 16)))) 9))))] := hD
    refine W.widen (k := 0) (n := 0) (Nat.le_of_ble_eq_true rfl) (Nat.le_of_ble_eq_true rfl) ?_
    refine w_pc (pc2 := 20) rfl ?_
    refine lv_aload_n hx hb dX2_maskByte_20 rfl (lv_at hl 1 rfl) ?_
    refine va_get (D := (dC, dI)) (ci := 2) (v := .ref qc) (C := RX2) (T := TX2) (N := 14) hx hb hta inX2 hown hK hP 1 rfl rfl 0 (by decide) (hta _ mw_80) (fun _ h9 => h9) rfl dX2_maskByte_21 ?_
    refine lv_aload_n hx hb dX2_maskByte_24 rfl (lv_at hl 1 rfl) ?_
    refine va_get (D := (dC, dI)) (ci := 2) (v := .ref qm) (C := RX2) (T := TX2) (N := 14) hx hb hta inX2 hown hK hP 1 rfl rfl 4 (by decide) (hta _ mw_84) (fun _ h9 => h9) rfl dX2_maskByte_25 ?_
    refine cf_0 (wr := [(x, .inr (2, [.ref qc, .ref qg, .ref qa, .ref qt, .ref qm, .int (nI ph), .int (zI og), .long nh, .int nr, .int (nI na), .int (nI nt), .int mb, .long t1, .long t2])), (qs, .inl (ks, 256, .inl (nF sb))), (qw, .inl (kw, 44, .inl w)), (qe, .inl (ke, 16, .inl (nF (erN sb w (ldN nh (ctL nr (2 + (i / 16)))) 9))))]) (va_runV (As := [.ref qm]) (rest := []) ⟨hx, hb, hml, hown, hta⟩ (MO.to (c_copyBlock l dC dI qc qs qu qw qb qe kb (mkN sb w nh nr (2 + (i / 16))) qm km mk) H.size) (cwV 1 hta (aw_V mw_151 mw_394 mw_149 mw_150 mw_2) rfl rfl rfl ⟨rfl, dyX0_copyBlock⟩ ⟨(Nat.le_of_ble_eq_true rfl), (Nat.le_of_ble_eq_true rfl)⟩) (pr_V hP hD hK hE [2, 5, 0] [2, 4] (by decide) rfl rfl rfl rfl) rfl rfl hl.1 rfl (lv_room (Nat.le_of_ble_eq_true rfl)) dX2_maskByte_28 ⟨(Nat.le_of_ble_eq_true rfl), (Nat.le_of_ble_eq_true rfl)⟩) hP hD hS hA [2, 5, 0] [1, 3, 4, 6] rfl rfl (by decide) (by decide) (fun H locs hP hD hS => ?_)
    have hP : va_P (dC, dI) vwCl [(x, .inr (2, [.ref qc, .ref qg, .ref qa, .ref qt, .ref qm, .int (nI ph), .int (zI og), .long nh, .int nr, .int (nI na), .int (nI nt), .int mb, .long t1, .long t2])), (qs, .inl (ks, 256, .inl (nF sb))), (qw, .inl (kw, 44, .inl w)), (qe, .inl (ke, 16, .inl (nF (erN sb w (ldN nh (ctL nr (2 + (i / 16)))) 9)))), (qc, .inr (0, [.ref qs, .ref qu, .ref qw, .ref qb, .ref qe])), (qb, .inl (kb, 16, .inl (nF (mkN sb w nh nr (2 + (i / 16)))))), (qm, .inl (km, 16, .inl (nF (mkN sb w nh nr (2 + (i / 16))))))] H := hP
    have hD : va_D A [(x, .inr (2, [.ref qc, .ref qg, .ref qa, .ref qt, .ref qm, .int (nI ph), .int (zI og), .long nh, .int nr, .int (nI na), .int (nI nt), .int mb, .long t1, .long t2])), (qs, .inl (ks, 256, .inl (nF sb))), (qw, .inl (kw, 44, .inl w)), (qe, .inl (ke, 16, .inl (nF (erN sb w (ldN nh (ctL nr (2 + (i / 16)))) 9)))), (qc, .inr (0, [.ref qs, .ref qu, .ref qw, .ref qb, .ref qe])), (qb, .inl (kb, 16, .inl (nF (mkN sb w nh nr (2 + (i / 16)))))), (qm, .inl (km, 16, .inl (nF (mkN sb w nh nr (2 + (i / 16))))))] := hD
    refine W.widen (k := 0) (n := 0) (Nat.le_of_ble_eq_true rfl) (Nat.le_of_ble_eq_true rfl) ?_
    refine w_pc (pc2 := 31) rfl ?_
    refine lv_aload_n hx hb dX2_maskByte_31 rfl (lv_at hl 1 rfl) ?_
    refine lv_iload_n hx hb dX2_maskByte_32 rfl (lv_at hl 0 rfl) ?_
    refine va_put (D := (dC, dI)) (ci := 2) (v := .int (nI (i / 16))) (ty := .int) (C := RX2) (T := TX2) (N := 14) hx hb hta inX2 tyX2 tyX2_ok nmX2 hown hK hP hD hS 0 rfl rfl 11 (by decide) (hta _ mw_91) (fun _ h9 => h9) rfl (by decide +kernel) rfl rfl (Nat.le_of_ble_eq_true rfl) dX2_maskByte_33 (fun H locs hP hD hS => ?_)
    have hP : va_P (dC, dI) vwCl [(x, .inr (2, [.ref qc, .ref qg, .ref qa, .ref qt, .ref qm, .int (nI ph), .int (zI og), .long nh, .int nr, .int (nI na), .int (nI nt), .int (nI (i / 16)), .long t1, .long t2])), (qs, .inl (ks, 256, .inl (nF sb))), (qw, .inl (kw, 44, .inl w)), (qe, .inl (ke, 16, .inl (nF (erN sb w (ldN nh (ctL nr (2 + (i / 16)))) 9)))), (qc, .inr (0, [.ref qs, .ref qu, .ref qw, .ref qb, .ref qe])), (qb, .inl (kb, 16, .inl (nF (mkN sb w nh nr (2 + (i / 16)))))), (qm, .inl (km, 16, .inl (nF (mkN sb w nh nr (2 + (i / 16))))))] H := hP
    have hD : va_D A [(x, .inr (2, [.ref qc, .ref qg, .ref qa, .ref qt, .ref qm, .int (nI ph), .int (zI og), .long nh, .int nr, .int (nI na), .int (nI nt), .int (nI (i / 16)), .long t1, .long t2])), (qs, .inl (ks, 256, .inl (nF sb))), (qw, .inl (kw, 44, .inl w)), (qe, .inl (ke, 16, .inl (nF (erN sb w (ldN nh (ctL nr (2 + (i / 16)))) 9)))), (qc, .inr (0, [.ref qs, .ref qu, .ref qw, .ref qb, .ref qe])), (qb, .inl (kb, 16, .inl (nF (mkN sb w nh nr (2 + (i / 16)))))), (qm, .inl (km, 16, .inl (nF (mkN sb w nh nr (2 + (i / 16))))))] := hD
    refine lv_aload_n hx hb dX2_maskByte_36 rfl (lv_at hl 1 rfl) ?_
    refine va_get (D := (dC, dI)) (ci := 2) (v := .ref qm) (C := RX2) (T := TX2) (N := 14) hx hb hta inX2 hown hK hP 0 rfl rfl 4 (by decide) (hta _ mw_84) (fun _ h9 => h9) rfl dX2_maskByte_37 ?_
    refine lv_iload_n hx hb dX2_maskByte_40 rfl (lv_at hl 2 rfl) ?_
    refine lv_bipush (v := nI 16) hx hb dX2_maskByte_41 (by decide) ?_
    refine lv_irem hx hb dX2_maskByte_43 (by decide) (top_i (pk_rem (by omega) (by decide) (by decide)) ?_)
    refine va_ialb hx hb hK hP 6 4 rfl rfl (Nat.mod_lt _ (by decide)) (by decide) dX2_maskByte_44 ?_
    exact rx_i (mkN sb w nh nr (2 + (i / 16)), erN sb w (ldN nh (ctL nr (2 + (i / 16)))) 9) trivial hx hb hr hlk hQ hAe hK hP hD hS [0, 4, 1, 2, 5, 3, 6] [] (by decide) rfl rfl (Nat.le_of_ble_eq_true rfl) (Nat.le_of_ble_eq_true rfl) (rfl) dX2_maskByte_45

def rm_c_pieceByte : Room := { frames := 0, cells := 0, slots := 0, locals := 0 }
set_option maxHeartbeats 4000000 in
set_option maxRecDepth 100000 in
/-- pieceByte(y, k) -/
theorem c_pieceByte (l : Launch) (dC : Nat → ClassId) (dI : Nat → Nat → Nat) (y : Int64) (k : Nat) (hk9 : k < 8) : MO l dC dI yX2_pieceByte wsX2_pieceByte rm_c_pieceByte [.long y, .int (nI k)] [] [] [] (some (.int (nI (pbN y k)))) := by
  refine mo_ofW (cc := cX2_pieceByte) (maxL := 3) (ret := (some .int)) (by decide) rfl (Nat.le_of_ble_eq_true rfl) ?_
  intro p e s m args below meth c Q A H locs ls hx hb hr hlk hml hta hown hin hE hQ hAe hA hK hP hD hS hl
  have hown : s.vm.findClass RX2 = some m.cls := hown
  have hl : lv_has ls 3 [(0, .long y), (2, .int (nI k))] := hl
  refine lv_lload_n hx hb dX2_pieceByte_0 rfl (lv_at hl 0 rfl) ?_
  refine lv_bipush (v := nI 8) hx hb dX2_pieceByte_1 (by decide) ?_
  refine lv_iload_n hx hb dX2_pieceByte_3 rfl (lv_at hl 1 rfl) ?_
  refine lv_imul hx hb dX2_pieceByte_4 (top_i (pk_mul _ _) ?_)
  refine lv_lushr hx hb dX2_pieceByte_5 rfl (top_l (l_ushr _ (by omega)) ?_)
  refine lv_l2i hx hb dX2_pieceByte_6 rfl (top_i (lN_i _) ?_)
  refine lv_sipush (v := nI 255) hx hb dX2_pieceByte_7 (by decide) ?_
  refine lv_iand hx hb dX2_pieceByte_10 ?_
  refine top_i (y := nI (pbN y k)) (n_m255 _) ?_
  exact rt_i hx hb hr hlk hQ hAe hP hD hS [] (by decide) rfl (Nat.le_of_ble_eq_true rfl) (Nat.le_of_ble_eq_true rfl) (rfl) dX2_pieceByte_11

def rm_c_length : Room := { frames := 0, cells := 0, slots := 0, locals := 0 }
set_option maxHeartbeats 4000000 in
set_option maxRecDepth 100000 in
theorem c_length (l : Launch) (dC : Nat → ClassId) (dI : Nat → Nat → Nat) (x : Nat) (qc : Nat) (qg : Nat) (qa : Nat) (qt : Nat) (qm : Nat) (ph : Nat) (og : Bool) (nh : Int64) (nr : Int32) (na : Nat) (nt : Nat) (mb : Int32) (t1 : Int64) (t2 : Int64) : MO l dC dI yX2_length wsX2_length rm_c_length [.ref x] [(x, .inr (2, [.ref qc, .ref qg, .ref qa, .ref qt, .ref qm, .int (nI ph), .int (zI og), .long nh, .int nr, .int (nI na), .int (nI nt), .int mb, .long t1, .long t2]))] [] [(x, .inr (2, [.ref qc, .ref qg, .ref qa, .ref qt, .ref qm, .int (nI ph), .int (zI og), .long nh, .int nr, .int (nI na), .int (nI nt), .int mb, .long t1, .long t2]))] (some (.int (nI nt))) := by
  refine mo_ofW (cc := cX2_length) (maxL := 1) (ret := (some .int)) (by decide) rfl (Nat.le_of_ble_eq_true rfl) ?_
  intro p e s m args below meth c Q A H locs ls hx hb hr hlk hml hta hown hin hE hQ hAe hA hK hP hD hS hl
  have hown : s.vm.findClass RX2 = some m.cls := hown
  have hl : lv_has ls 1 [(0, .ref x)] := hl
  refine lv_aload_n hx hb dX2_length_0 rfl (lv_at hl 0 rfl) ?_
  refine va_get (D := (dC, dI)) (ci := 2) (v := .int (nI nt)) (C := RX2) (T := TX2) (N := 14) hx hb hta inX2 hown hK hP 0 rfl rfl 10 (by decide) (hta _ mw_90) (fun _ h9 => h9) rfl dX2_length_1 ?_
  exact rt_i hx hb hr hlk hQ hAe hP hD hS [0] (by decide) rfl (Nat.le_of_ble_eq_true rfl) (Nat.le_of_ble_eq_true rfl) (rfl) dX2_length_4

def rm_c_phase : Room := { frames := 0, cells := 0, slots := 0, locals := 0 }
set_option maxHeartbeats 4000000 in
set_option maxRecDepth 100000 in
theorem c_phase (l : Launch) (dC : Nat → ClassId) (dI : Nat → Nat → Nat) (x : Nat) (qc : Nat) (qg : Nat) (qa : Nat) (qt : Nat) (qm : Nat) (ph : Nat) (og : Bool) (nh : Int64) (nr : Int32) (na : Nat) (nt : Nat) (mb : Int32) (t1 : Int64) (t2 : Int64) : MO l dC dI yX2_phase wsX2_phase rm_c_phase [.ref x] [(x, .inr (2, [.ref qc, .ref qg, .ref qa, .ref qt, .ref qm, .int (nI ph), .int (zI og), .long nh, .int nr, .int (nI na), .int (nI nt), .int mb, .long t1, .long t2]))] [] [(x, .inr (2, [.ref qc, .ref qg, .ref qa, .ref qt, .ref qm, .int (nI ph), .int (zI og), .long nh, .int nr, .int (nI na), .int (nI nt), .int mb, .long t1, .long t2]))] (some (.int (nI ph))) := by
  refine mo_ofW (cc := cX2_phase) (maxL := 1) (ret := (some .int)) (by decide) rfl (Nat.le_of_ble_eq_true rfl) ?_
  intro p e s m args below meth c Q A H locs ls hx hb hr hlk hml hta hown hin hE hQ hAe hA hK hP hD hS hl
  have hown : s.vm.findClass RX2 = some m.cls := hown
  have hl : lv_has ls 1 [(0, .ref x)] := hl
  refine lv_aload_n hx hb dX2_phase_0 rfl (lv_at hl 0 rfl) ?_
  refine va_get (D := (dC, dI)) (ci := 2) (v := .int (nI ph)) (C := RX2) (T := TX2) (N := 14) hx hb hta inX2 hown hK hP 0 rfl rfl 5 (by decide) (hta _ mw_85) (fun _ h9 => h9) rfl dX2_phase_1 ?_
  exact rt_i hx hb hr hlk hQ hAe hP hD hS [0] (by decide) rfl (Nat.le_of_ble_eq_true rfl) (Nat.le_of_ble_eq_true rfl) (rfl) dX2_phase_4

def rm_c_start : Room := { frames := 0, cells := 0, slots := 0, locals := 0 }
set_option maxHeartbeats 4000000 in
set_option maxRecDepth 100000 in
/-- start -/
theorem c_start (l : Launch) (dC : Nat → ClassId) (dI : Nat → Nat → Nat) (x : Nat) (qc : Nat) (qg : Nat) (qa : Nat) (qt : Nat) (qm : Nat) (ph : Nat) (og : Bool) (nh : Int64) (nr : Int32) (na : Nat) (nt : Nat) (mb : Int32) (t1 : Int64) (t2 : Int64) (o2 : Bool) (hi : Int64) (v : Int32) : MO l dC dI yX2_start wsX2_start rm_c_start [.ref x, .int (zI o2), .long hi, .int v] [(x, .inr (2, [.ref qc, .ref qg, .ref qa, .ref qt, .ref qm, .int (nI ph), .int (zI og), .long nh, .int nr, .int (nI na), .int (nI nt), .int mb, .long t1, .long t2]))] [] [(x, .inr (2, [.ref qc, .ref qg, .ref qa, .ref qt, .ref qm, .int (nI 1), .int (zI o2), .long hi, .int v, .int (nI 0), .int (nI 0), .int (-1 : Int32), .long t1, .long t2]))] none := by
  refine mo_ofW (cc := cX2_start) (maxL := 5) (ret := none) (by decide) rfl (Nat.le_of_ble_eq_true rfl) ?_
  intro p e s m args below meth c Q A H locs ls hx hb hr hlk hml hta hown hin hE hQ hAe hA hK hP hD hS hl
  have hown : s.vm.findClass RX2 = some m.cls := hown
  have hl : lv_has ls 5 [(0, .ref x), (1, .int (zI o2)), (2, .long hi), (4, .int v)] := hl
  refine lv_aload_n hx hb dX2_start_0 rfl (lv_at hl 0 rfl) ?_
  refine lv_iload_n hx hb dX2_start_1 rfl (lv_at hl 1 rfl) ?_
  refine va_put (D := (dC, dI)) (ci := 2) (v := .int (zI o2)) (ty := .boolean) (C := RX2) (T := TX2) (N := 14) hx hb hta inX2 tyX2 tyX2_ok nmX2 hown hK hP hD hS 0 rfl rfl 6 (by decide) (hta _ mw_86) (fun _ h9 => h9) rfl (by decide +kernel) (zI_n o2) (zI_f o2) (Nat.le_of_ble_eq_true rfl) dX2_start_2 (fun H locs hP hD hS => ?_)
  have hP : va_P (dC, dI) vwCl [(x, .inr (2, [.ref qc, .ref qg, .ref qa, .ref qt, .ref qm, .int (nI ph), .int (zI o2), .long nh, .int nr, .int (nI na), .int (nI nt), .int mb, .long t1, .long t2]))] H := hP
  have hD : va_D A [(x, .inr (2, [.ref qc, .ref qg, .ref qa, .ref qt, .ref qm, .int (nI ph), .int (zI o2), .long nh, .int nr, .int (nI na), .int (nI nt), .int mb, .long t1, .long t2]))] := hD
  refine lv_aload_n hx hb dX2_start_5 rfl (lv_at hl 0 rfl) ?_
  refine lv_lload_n hx hb dX2_start_6 rfl (lv_at hl 2 rfl) ?_
  refine va_put (D := (dC, dI)) (ci := 2) (v := .long hi) (ty := .long) (C := RX2) (T := TX2) (N := 14) hx hb hta inX2 tyX2 tyX2_ok nmX2 hown hK hP hD hS 0 rfl rfl 7 (by decide) (hta _ mw_87) (fun _ h9 => h9) rfl (by decide +kernel) rfl rfl (Nat.le_of_ble_eq_true rfl) dX2_start_7 (fun H locs hP hD hS => ?_)
  have hP : va_P (dC, dI) vwCl [(x, .inr (2, [.ref qc, .ref qg, .ref qa, .ref qt, .ref qm, .int (nI ph), .int (zI o2), .long hi, .int nr, .int (nI na), .int (nI nt), .int mb, .long t1, .long t2]))] H := hP
  have hD : va_D A [(x, .inr (2, [.ref qc, .ref qg, .ref qa, .ref qt, .ref qm, .int (nI ph), .int (zI o2), .long hi, .int nr, .int (nI na), .int (nI nt), .int mb, .long t1, .long t2]))] := hD
  refine lv_aload_n hx hb dX2_start_10 rfl (lv_at hl 0 rfl) ?_
  refine lv_iload hx hb dX2_start_11 (lv_at hl 3 rfl) ?_
  refine va_put (D := (dC, dI)) (ci := 2) (v := .int v) (ty := .int) (C := RX2) (T := TX2) (N := 14) hx hb hta inX2 tyX2 tyX2_ok nmX2 hown hK hP hD hS 0 rfl rfl 8 (by decide) (hta _ mw_88) (fun _ h9 => h9) rfl (by decide +kernel) rfl rfl (Nat.le_of_ble_eq_true rfl) dX2_start_13 (fun H locs hP hD hS => ?_)
  have hP : va_P (dC, dI) vwCl [(x, .inr (2, [.ref qc, .ref qg, .ref qa, .ref qt, .ref qm, .int (nI ph), .int (zI o2), .long hi, .int v, .int (nI na), .int (nI nt), .int mb, .long t1, .long t2]))] H := hP
  have hD : va_D A [(x, .inr (2, [.ref qc, .ref qg, .ref qa, .ref qt, .ref qm, .int (nI ph), .int (zI o2), .long hi, .int v, .int (nI na), .int (nI nt), .int mb, .long t1, .long t2]))] := hD
  refine lv_aload_n hx hb dX2_start_16 rfl (lv_at hl 0 rfl) ?_
  refine lv_iconst (v := nI 0) hx hb dX2_start_17 (by decide) ?_
  refine w_pc (pc2 := 18) rfl ?_
  refine va_put (D := (dC, dI)) (ci := 2) (v := .int (nI 0)) (ty := .int) (C := RX2) (T := TX2) (N := 14) hx hb hta inX2 tyX2 tyX2_ok nmX2 hown hK hP hD hS 0 rfl rfl 9 (by decide) (hta _ mw_89) (fun _ h9 => h9) rfl (by decide +kernel) rfl rfl (Nat.le_of_ble_eq_true rfl) dX2_start_18 (fun H locs hP hD hS => ?_)
  have hP : va_P (dC, dI) vwCl [(x, .inr (2, [.ref qc, .ref qg, .ref qa, .ref qt, .ref qm, .int (nI ph), .int (zI o2), .long hi, .int v, .int (nI 0), .int (nI nt), .int mb, .long t1, .long t2]))] H := hP
  have hD : va_D A [(x, .inr (2, [.ref qc, .ref qg, .ref qa, .ref qt, .ref qm, .int (nI ph), .int (zI o2), .long hi, .int v, .int (nI 0), .int (nI nt), .int mb, .long t1, .long t2]))] := hD
  refine lv_aload_n hx hb dX2_start_21 rfl (lv_at hl 0 rfl) ?_
  refine lv_iconst (v := nI 0) hx hb dX2_start_22 (by decide) ?_
  refine va_put (D := (dC, dI)) (ci := 2) (v := .int (nI 0)) (ty := .int) (C := RX2) (T := TX2) (N := 14) hx hb hta inX2 tyX2 tyX2_ok nmX2 hown hK hP hD hS 0 rfl rfl 10 (by decide) (hta _ mw_90) (fun _ h9 => h9) rfl (by decide +kernel) rfl rfl (Nat.le_of_ble_eq_true rfl) dX2_start_23 (fun H locs hP hD hS => ?_)
  have hP : va_P (dC, dI) vwCl [(x, .inr (2, [.ref qc, .ref qg, .ref qa, .ref qt, .ref qm, .int (nI ph), .int (zI o2), .long hi, .int v, .int (nI 0), .int (nI 0), .int mb, .long t1, .long t2]))] H := hP
  have hD : va_D A [(x, .inr (2, [.ref qc, .ref qg, .ref qa, .ref qt, .ref qm, .int (nI ph), .int (zI o2), .long hi, .int v, .int (nI 0), .int (nI 0), .int mb, .long t1, .long t2]))] := hD
  refine lv_aload_n hx hb dX2_start_26 rfl (lv_at hl 0 rfl) ?_
  refine lv_iconst (v := (-1 : Int32)) hx hb dX2_start_27 (by decide) ?_
  refine va_put (D := (dC, dI)) (ci := 2) (v := .int (-1 : Int32)) (ty := .int) (C := RX2) (T := TX2) (N := 14) hx hb hta inX2 tyX2 tyX2_ok nmX2 hown hK hP hD hS 0 rfl rfl 11 (by decide) (hta _ mw_91) (fun _ h9 => h9) rfl (by decide +kernel) rfl rfl (Nat.le_of_ble_eq_true rfl) dX2_start_28 (fun H locs hP hD hS => ?_)
  have hP : va_P (dC, dI) vwCl [(x, .inr (2, [.ref qc, .ref qg, .ref qa, .ref qt, .ref qm, .int (nI ph), .int (zI o2), .long hi, .int v, .int (nI 0), .int (nI 0), .int (-1 : Int32), .long t1, .long t2]))] H := hP
  have hD : va_D A [(x, .inr (2, [.ref qc, .ref qg, .ref qa, .ref qt, .ref qm, .int (nI ph), .int (zI o2), .long hi, .int v, .int (nI 0), .int (nI 0), .int (-1 : Int32), .long t1, .long t2]))] := hD
  refine lv_aload_n hx hb dX2_start_31 rfl (lv_at hl 0 rfl) ?_
  refine lv_iconst (v := nI 1) hx hb dX2_start_32 (by decide) ?_
  refine va_put (D := (dC, dI)) (ci := 2) (v := .int (nI 1)) (ty := .int) (C := RX2) (T := TX2) (N := 14) hx hb hta inX2 tyX2 tyX2_ok nmX2 hown hK hP hD hS 0 rfl rfl 5 (by decide) (hta _ mw_85) (fun _ h9 => h9) rfl (by decide +kernel) rfl rfl (Nat.le_of_ble_eq_true rfl) dX2_start_33 (fun H locs hP hD hS => ?_)
  have hP : va_P (dC, dI) vwCl [(x, .inr (2, [.ref qc, .ref qg, .ref qa, .ref qt, .ref qm, .int (nI 1), .int (zI o2), .long hi, .int v, .int (nI 0), .int (nI 0), .int (-1 : Int32), .long t1, .long t2]))] H := hP
  have hD : va_D A [(x, .inr (2, [.ref qc, .ref qg, .ref qa, .ref qt, .ref qm, .int (nI 1), .int (zI o2), .long hi, .int v, .int (nI 0), .int (nI 0), .int (-1 : Int32), .long t1, .long t2]))] := hD
  exact rt_0 hx hb hr hlk hQ hAe hP hD hS [0] (by decide) rfl (Nat.le_of_ble_eq_true rfl) (Nat.le_of_ble_eq_true rfl) dX2_start_36

def rm_c_key : Room := { frames := 2, cells := 0, slots := 0, locals := 48 }
set_option maxHeartbeats 4000000 in
set_option maxRecDepth 100000 in
/-- key -/
theorem c_key (l : Launch) (dC : Nat → ClassId) (dI : Nat → Nat → Nat) (x : Nat) (qc : Nat) (qg : Nat) (qa : Nat) (qt : Nat) (qm : Nat) (ph : Nat) (og : Bool) (nh : Int64) (nr : Int32) (na : Nat) (nt : Nat) (mb : Int32) (t1 : Int64) (t2 : Int64) (qs : Nat) (qu : Nat) (qw : Nat) (qb : Nat) (qe : Nat) (ks : ClassId) (kw : ClassId) (sb : Nat → Nat) (w : Nat → Int32) (hi : Int64) (lo : Int64) : MO l dC dI yX2_key wsX2_key rm_c_key [.ref x, .long hi, .long lo] [(x, .inr (2, [.ref qc, .ref qg, .ref qa, .ref qt, .ref qm, .int (nI ph), .int (zI og), .long nh, .int nr, .int (nI na), .int (nI nt), .int mb, .long t1, .long t2])), (qc, .inr (0, [.ref qs, .ref qu, .ref qw, .ref qb, .ref qe])), (qs, .inl (ks, 256, .inl (nF sb))), (qw, .inl (kw, 44, .inl w))] [(ks, .int), (kw, .int)] [(x, .inr (2, [.ref qc, .ref qg, .ref qa, .ref qt, .ref qm, .int (nI 0), .int (zI og), .long nh, .int nr, .int (nI na), .int (nI 0), .int mb, .long t1, .long t2])), (qc, .inr (0, [.ref qs, .ref qu, .ref qw, .ref qb, .ref qe])), (qs, .inl (ks, 256, .inl (nF sb))), (qw, .inl (kw, 44, .inl (kwN sb hi lo)))] none := by
  refine mo_ofW (cc := cX2_key) (maxL := 5) (ret := none) (by decide) rfl (Nat.le_of_ble_eq_true rfl) ?_
  intro p e s m args below meth c Q A H locs ls hx hb hr hlk hml hta hown hin hE hQ hAe hA hK hP hD hS hl
  have hown : s.vm.findClass RX2 = some m.cls := hown
  have hl : lv_has ls 5 [(0, .ref x), (1, .long hi), (3, .long lo)] := hl
  refine lv_aload_n hx hb dX2_key_0 rfl (lv_at hl 0 rfl) ?_
  refine va_get (D := (dC, dI)) (ci := 2) (v := .ref qc) (C := RX2) (T := TX2) (N := 14) hx hb hta inX2 hown hK hP 0 rfl rfl 0 (by decide) (hta _ mw_80) (fun _ h9 => h9) rfl dX2_key_1 ?_
  refine lv_lload_n hx hb dX2_key_4 rfl (lv_at hl 1 rfl) ?_
  refine lv_lload_n hx hb dX2_key_5 rfl (lv_at hl 2 rfl) ?_
  refine cf_0 (wr := [(x, .inr (2, [.ref qc, .ref qg, .ref qa, .ref qt, .ref qm, .int (nI ph), .int (zI og), .long nh, .int nr, .int (nI na), .int (nI nt), .int mb, .long t1, .long t2]))]) (va_runV (As := [.long hi, .long lo]) (rest := []) ⟨hx, hb, hml, hown, hta⟩ (MO.to (c_expand l dC dI qc qs qu qw qb qe ks kw sb w hi lo) H.size) (cwV 2 hta (aw_V mw_42 mw_127 mw_40 mw_41 mw_2) rfl rfl rfl ⟨rfl, dyX0_expand⟩ ⟨(Nat.le_of_ble_eq_true rfl), (Nat.le_of_ble_eq_true rfl)⟩) (pr_V hP hD hK hE [1, 2, 3] [0, 1] (by decide) rfl rfl rfl rfl) rfl rfl hl.1 rfl (lv_room (Nat.le_of_ble_eq_true rfl)) dX2_key_6 ⟨(Nat.le_of_ble_eq_true rfl), (Nat.le_of_ble_eq_true rfl)⟩) hP hD hS hA [1, 2, 3] [0] rfl rfl (by decide) (by decide) (fun H locs hP hD hS => ?_)
  have hP : va_P (dC, dI) vwCl [(x, .inr (2, [.ref qc, .ref qg, .ref qa, .ref qt, .ref qm, .int (nI ph), .int (zI og), .long nh, .int nr, .int (nI na), .int (nI nt), .int mb, .long t1, .long t2])), (qc, .inr (0, [.ref qs, .ref qu, .ref qw, .ref qb, .ref qe])), (qs, .inl (ks, 256, .inl (nF sb))), (qw, .inl (kw, 44, .inl (kwN sb hi lo)))] H := hP
  have hD : va_D A [(x, .inr (2, [.ref qc, .ref qg, .ref qa, .ref qt, .ref qm, .int (nI ph), .int (zI og), .long nh, .int nr, .int (nI na), .int (nI nt), .int mb, .long t1, .long t2])), (qc, .inr (0, [.ref qs, .ref qu, .ref qw, .ref qb, .ref qe])), (qs, .inl (ks, 256, .inl (nF sb))), (qw, .inl (kw, 44, .inl (kwN sb hi lo)))] := hD
  refine W.widen (k := 0) (n := 0) (Nat.le_of_ble_eq_true rfl) (Nat.le_of_ble_eq_true rfl) ?_
  refine w_pc (pc2 := 9) rfl ?_
  refine lv_aload_n hx hb dX2_key_9 rfl (lv_at hl 0 rfl) ?_
  refine lv_iconst (v := nI 0) hx hb dX2_key_10 (by decide) ?_
  refine va_put (D := (dC, dI)) (ci := 2) (v := .int (nI 0)) (ty := .int) (C := RX2) (T := TX2) (N := 14) hx hb hta inX2 tyX2 tyX2_ok nmX2 hown hK hP hD hS 0 rfl rfl 5 (by decide) (hta _ mw_85) (fun _ h9 => h9) rfl (by decide +kernel) rfl rfl (Nat.le_of_ble_eq_true rfl) dX2_key_11 (fun H locs hP hD hS => ?_)
  have hP : va_P (dC, dI) vwCl [(x, .inr (2, [.ref qc, .ref qg, .ref qa, .ref qt, .ref qm, .int (nI 0), .int (zI og), .long nh, .int nr, .int (nI na), .int (nI nt), .int mb, .long t1, .long t2])), (qc, .inr (0, [.ref qs, .ref qu, .ref qw, .ref qb, .ref qe])), (qs, .inl (ks, 256, .inl (nF sb))), (qw, .inl (kw, 44, .inl (kwN sb hi lo)))] H := hP
  have hD : va_D A [(x, .inr (2, [.ref qc, .ref qg, .ref qa, .ref qt, .ref qm, .int (nI 0), .int (zI og), .long nh, .int nr, .int (nI na), .int (nI nt), .int mb, .long t1, .long t2])), (qc, .inr (0, [.ref qs, .ref qu, .ref qw, .ref qb, .ref qe])), (qs, .inl (ks, 256, .inl (nF sb))), (qw, .inl (kw, 44, .inl (kwN sb hi lo)))] := hD
  refine lv_aload_n hx hb dX2_key_14 rfl (lv_at hl 0 rfl) ?_
  refine lv_iconst (v := nI 0) hx hb dX2_key_15 (by decide) ?_
  refine va_put (D := (dC, dI)) (ci := 2) (v := .int (nI 0)) (ty := .int) (C := RX2) (T := TX2) (N := 14) hx hb hta inX2 tyX2 tyX2_ok nmX2 hown hK hP hD hS 0 rfl rfl 10 (by decide) (hta _ mw_90) (fun _ h9 => h9) rfl (by decide +kernel) rfl rfl (Nat.le_of_ble_eq_true rfl) dX2_key_16 (fun H locs hP hD hS => ?_)
  have hP : va_P (dC, dI) vwCl [(x, .inr (2, [.ref qc, .ref qg, .ref qa, .ref qt, .ref qm, .int (nI 0), .int (zI og), .long nh, .int nr, .int (nI na), .int (nI 0), .int mb, .long t1, .long t2])), (qc, .inr (0, [.ref qs, .ref qu, .ref qw, .ref qb, .ref qe])), (qs, .inl (ks, 256, .inl (nF sb))), (qw, .inl (kw, 44, .inl (kwN sb hi lo)))] H := hP
  have hD : va_D A [(x, .inr (2, [.ref qc, .ref qg, .ref qa, .ref qt, .ref qm, .int (nI 0), .int (zI og), .long nh, .int nr, .int (nI na), .int (nI 0), .int mb, .long t1, .long t2])), (qc, .inr (0, [.ref qs, .ref qu, .ref qw, .ref qb, .ref qe])), (qs, .inl (ks, 256, .inl (nF sb))), (qw, .inl (kw, 44, .inl (kwN sb hi lo)))] := hD
  exact rt_0 hx hb hr hlk hQ hAe hP hD hS [0, 1, 2, 3] (by decide) rfl (Nat.le_of_ble_eq_true rfl) (Nat.le_of_ble_eq_true rfl) dX2_key_19

def rm_c_encrypt : Room := { frames := 4, cells := 0, slots := 0, locals := 127 }
set_option maxHeartbeats 4000000 in
set_option maxRecDepth 100000 in
/-- encrypt -/
theorem c_encrypt (l : Launch) (dC : Nat → ClassId) (dI : Nat → Nat → Nat) (x : Nat) (qc : Nat) (qg : Nat) (qa : Nat) (qt : Nat) (qm : Nat) (ph : Nat) (og : Bool) (nh : Int64) (nr : Int32) (na : Nat) (nt : Nat) (mb : Int32) (t1 : Int64) (t2 : Int64) (qs : Nat) (qu : Nat) (qw : Nat) (qb : Nat) (qe : Nat) (ks : ClassId) (kw : ClassId) (kb : ClassId) (ke : ClassId) (sb : Nat → Nat) (w : Nat → Int32) (b : Nat → Nat) (z : Nat → Nat) (hi : Int64) (lo : Int64) (ot : Bool) (s256 : ∀ i, sb i < 256) : MO l dC dI yX2_encrypt wsX2_encrypt rm_c_encrypt [.ref x, .long hi, .long lo, .int (zI ot)] [(x, .inr (2, [.ref qc, .ref qg, .ref qa, .ref qt, .ref qm, .int (nI ph), .int (zI og), .long nh, .int nr, .int (nI na), .int (nI nt), .int mb, .long t1, .long t2])), (qc, .inr (0, [.ref qs, .ref qu, .ref qw, .ref qb, .ref qe])), (qs, .inl (ks, 256, .inl (nF sb))), (qw, .inl (kw, 44, .inl w)), (qb, .inl (kb, 16, .inl (nF b))), (qe, .inl (ke, 16, .inl (nF z)))] [(ks, .int), (kw, .int), (kb, .int), (ke, .int)] [(x, .inr (2, [.ref qc, .ref qg, .ref qa, .ref qt, .ref qm, .int (nI ph), .int (zI og), .long nh, .int nr, .int (nI na), .int (nI nt), .int mb, .long t1, .long t2])), (qc, .inr (0, [.ref qs, .ref qu, .ref qw, .ref qb, .ref qe])), (qs, .inl (ks, 256, .inl (nF sb))), (qw, .inl (kw, 44, .inl w)), (qb, .inl (kb, 16, .inl (nF (erN sb w (ldN hi lo) 10)))), (qe, .inl (ke, 16, .inl (nF (erN sb w (ldN hi lo) 9))))] (some (.long (if ot then lN (jbN (erN sb w (ldN hi lo) 10) 8 16 8) else lN (jbN (erN sb w (ldN hi lo) 10) 0 16 8)))) := by
  refine mo_ofW (cc := cX2_encrypt) (maxL := 6) (ret := (some .long)) (by decide) rfl (Nat.le_of_ble_eq_true rfl) ?_
  intro p e s m args below meth c Q A H locs ls hx hb hr hlk hml hta hown hin hE hQ hAe hA hK hP hD hS hl
  have hown : s.vm.findClass RX2 = some m.cls := hown
  have hl : lv_has ls 6 [(0, .ref x), (1, .long hi), (3, .long lo), (5, .int (zI ot))] := hl
  refine lv_aload_n hx hb dX2_encrypt_0 rfl (lv_at hl 0 rfl) ?_
  refine va_get (D := (dC, dI)) (ci := 2) (v := .ref qc) (C := RX2) (T := TX2) (N := 14) hx hb hta inX2 hown hK hP 0 rfl rfl 0 (by decide) (hta _ mw_80) (fun _ h9 => h9) rfl dX2_encrypt_1 ?_
  refine lv_lload_n hx hb dX2_encrypt_4 rfl (lv_at hl 1 rfl) ?_
  refine lv_lload_n hx hb dX2_encrypt_5 rfl (lv_at hl 2 rfl) ?_
  refine cf_0 (wr := [(x, .inr (2, [.ref qc, .ref qg, .ref qa, .ref qt, .ref qm, .int (nI ph), .int (zI og), .long nh, .int nr, .int (nI na), .int (nI nt), .int mb, .long t1, .long t2]))]) (va_runV (As := [.long hi, .long lo]) (rest := []) ⟨hx, hb, hml, hown, hta⟩ (MO.to (c_encipher l dC dI qc qs qu qw qb qe ks kw kb ke sb w b z hi lo s256) H.size) (cwV 2 hta (aw_V mw_135 mw_132 mw_133 mw_134 mw_2) rfl rfl rfl ⟨rfl, dyX0_encipher⟩ ⟨(Nat.le_of_ble_eq_true rfl), (Nat.le_of_ble_eq_true rfl)⟩) (pr_V hP hD hK hE [1, 2, 3, 4, 5] [0, 1, 2, 3] (by decide) rfl rfl rfl rfl) rfl rfl hl.1 rfl (lv_room (Nat.le_of_ble_eq_true rfl)) dX2_encrypt_6 ⟨(Nat.le_of_ble_eq_true rfl), (Nat.le_of_ble_eq_true rfl)⟩) hP hD hS hA [1, 2, 3, 4, 5] [0] rfl rfl (by decide) (by decide) (fun H locs hP hD hS => ?_)
  have hP : va_P (dC, dI) vwCl [(x, .inr (2, [.ref qc, .ref qg, .ref qa, .ref qt, .ref qm, .int (nI ph), .int (zI og), .long nh, .int nr, .int (nI na), .int (nI nt), .int mb, .long t1, .long t2])), (qc, .inr (0, [.ref qs, .ref qu, .ref qw, .ref qb, .ref qe])), (qs, .inl (ks, 256, .inl (nF sb))), (qw, .inl (kw, 44, .inl w)), (qb, .inl (kb, 16, .inl (nF (erN sb w (ldN hi lo) 10)))), (qe, .inl (ke, 16, .inl (nF (erN sb w (ldN hi lo) 9))))] H := hP
  have hD : va_D A [(x, .inr (2, [.ref qc, .ref qg, .ref qa, .ref qt, .ref qm, .int (nI ph), .int (zI og), .long nh, .int nr, .int (nI na), .int (nI nt), .int mb, .long t1, .long t2])), (qc, .inr (0, [.ref qs, .ref qu, .ref qw, .ref qb, .ref qe])), (qs, .inl (ks, 256, .inl (nF sb))), (qw, .inl (kw, 44, .inl w)), (qb, .inl (kb, 16, .inl (nF (erN sb w (ldN hi lo) 10)))), (qe, .inl (ke, 16, .inl (nF (erN sb w (ldN hi lo) 9))))] := hD
  refine W.widen (k := 0) (n := 0) (Nat.le_of_ble_eq_true rfl) (Nat.le_of_ble_eq_true rfl) ?_
  refine w_pc (pc2 := 9) rfl ?_
  refine lv_iload hx hb dX2_encrypt_9 (lv_at hl 3 rfl) ?_
  refine lv_if_eq (tgt := 24) hx hb dX2_encrypt_11 (by decide) (fun hc_11 => ?_) (fun hc_11 => ?_)
  · skip
    refine lv_aload_n hx hb dX2_encrypt_24 rfl (lv_at hl 0 rfl) ?_
    refine va_get (D := (dC, dI)) (ci := 2) (v := .ref qc) (C := RX2) (T := TX2) (N := 14) hx hb hta inX2 hown hK hP 0 rfl rfl 0 (by decide) (hta _ mw_80) (fun _ h9 => h9) rfl dX2_encrypt_25 ?_
    refine cf_1 (wr := [(x, .inr (2, [.ref qc, .ref qg, .ref qa, .ref qt, .ref qm, .int (nI ph), .int (zI og), .long nh, .int nr, .int (nI na), .int (nI nt), .int mb, .long t1, .long t2])), (qs, .inl (ks, 256, .inl (nF sb))), (qw, .inl (kw, 44, .inl w)), (qe, .inl (ke, 16, .inl (nF (erN sb w (ldN hi lo) 9))))]) (va_runV (As := []) (rest := []) ⟨hx, hb, hml, hown, hta⟩ (MO.to (c_chigh l dC dI qc qs qu qw qb qe kb (erN sb w (ldN hi lo) 10) (erN_lt s256 (ldN_lt hi lo) 10)) H.size) (cwV 0 hta (aw_V mw_172 mw_169 mw_170 mw_171 mw_2) rfl rfl rfl ⟨rfl, dyX0_high⟩ ⟨(Nat.le_of_ble_eq_true rfl), (Nat.le_of_ble_eq_true rfl)⟩) (pr_V hP hD hK hE [1, 4] [2] (by decide) rfl rfl rfl rfl) rfl rfl hl.1 rfl (lv_room (Nat.le_of_ble_eq_true rfl)) dX2_encrypt_28 ⟨(Nat.le_of_ble_eq_true rfl), (Nat.le_of_ble_eq_true rfl)⟩) hP hD hS hA [1, 4] [0, 2, 3, 5] rfl rfl (by decide) (by decide) (fun H locs hP hD hS => ?_)
    have hP : va_P (dC, dI) vwCl [(x, .inr (2, [.ref qc, .ref qg, .ref qa, .ref qt, .ref qm, .int (nI ph), .int (zI og), .long nh, .int nr, .int (nI na), .int (nI nt), .int mb, .long t1, .long t2])), (qs, .inl (ks, 256, .inl (nF sb))), (qw, .inl (kw, 44, .inl w)), (qe, .inl (ke, 16, .inl (nF (erN sb w (ldN hi lo) 9)))), (qc, .inr (0, [.ref qs, .ref qu, .ref qw, .ref qb, .ref qe])), (qb, .inl (kb, 16, .inl (nF (erN sb w (ldN hi lo) 10))))] H := hP
    have hD : va_D A [(x, .inr (2, [.ref qc, .ref qg, .ref qa, .ref qt, .ref qm, .int (nI ph), .int (zI og), .long nh, .int nr, .int (nI na), .int (nI nt), .int mb, .long t1, .long t2])), (qs, .inl (ks, 256, .inl (nF sb))), (qw, .inl (kw, 44, .inl w)), (qe, .inl (ke, 16, .inl (nF (erN sb w (ldN hi lo) 9)))), (qc, .inr (0, [.ref qs, .ref qu, .ref qw, .ref qb, .ref qe])), (qb, .inl (kb, 16, .inl (nF (erN sb w (ldN hi lo) 10))))] := hD
    refine W.widen (k := 0) (n := 0) (Nat.le_of_ble_eq_true rfl) (Nat.le_of_ble_eq_true rfl) ?_
    refine w_pc (pc2 := 31) rfl ?_
    exact rt_l hx hb hr hlk hQ hAe hP hD hS [0, 4, 1, 2, 5, 3] (by decide) rfl (Nat.le_of_ble_eq_true rfl) (Nat.le_of_ble_eq_true rfl) (by first | (rw [zI0 (b := ot) (by assumption)]; rfl) | (rw [zI1 (b := ot) (by assumption)]; rfl)) dX2_encrypt_31
  · skip
    refine lv_aload_n hx hb dX2_encrypt_14 rfl (lv_at hl 0 rfl) ?_
    refine va_get (D := (dC, dI)) (ci := 2) (v := .ref qc) (C := RX2) (T := TX2) (N := 14) hx hb hta inX2 hown hK hP 0 rfl rfl 0 (by decide) (hta _ mw_80) (fun _ h9 => h9) rfl dX2_encrypt_15 ?_
    refine cf_1 (wr := [(x, .inr (2, [.ref qc, .ref qg, .ref qa, .ref qt, .ref qm, .int (nI ph), .int (zI og), .long nh, .int nr, .int (nI na), .int (nI nt), .int mb, .long t1, .long t2])), (qs, .inl (ks, 256, .inl (nF sb))), (qw, .inl (kw, 44, .inl w)), (qe, .inl (ke, 16, .inl (nF (erN sb w (ldN hi lo) 9))))]) (va_runV (As := []) (rest := []) ⟨hx, hb, hml, hown, hta⟩ (MO.to (c_clow l dC dI qc qs qu qw qb qe kb (erN sb w (ldN hi lo) 10) (erN_lt s256 (ldN_lt hi lo) 10)) H.size) (cwV 0 hta (aw_V mw_165 mw_162 mw_163 mw_164 mw_2) rfl rfl rfl ⟨rfl, dyX0_low⟩ ⟨(Nat.le_of_ble_eq_true rfl), (Nat.le_of_ble_eq_true rfl)⟩) (pr_V hP hD hK hE [1, 4] [2] (by decide) rfl rfl rfl rfl) rfl rfl hl.1 rfl (lv_room (Nat.le_of_ble_eq_true rfl)) dX2_encrypt_18 ⟨(Nat.le_of_ble_eq_true rfl), (Nat.le_of_ble_eq_true rfl)⟩) hP hD hS hA [1, 4] [0, 2, 3, 5] rfl rfl (by decide) (by decide) (fun H locs hP hD hS => ?_)
    have hP : va_P (dC, dI) vwCl [(x, .inr (2, [.ref qc, .ref qg, .ref qa, .ref qt, .ref qm, .int (nI ph), .int (zI og), .long nh, .int nr, .int (nI na), .int (nI nt), .int mb, .long t1, .long t2])), (qs, .inl (ks, 256, .inl (nF sb))), (qw, .inl (kw, 44, .inl w)), (qe, .inl (ke, 16, .inl (nF (erN sb w (ldN hi lo) 9)))), (qc, .inr (0, [.ref qs, .ref qu, .ref qw, .ref qb, .ref qe])), (qb, .inl (kb, 16, .inl (nF (erN sb w (ldN hi lo) 10))))] H := hP
    have hD : va_D A [(x, .inr (2, [.ref qc, .ref qg, .ref qa, .ref qt, .ref qm, .int (nI ph), .int (zI og), .long nh, .int nr, .int (nI na), .int (nI nt), .int mb, .long t1, .long t2])), (qs, .inl (ks, 256, .inl (nF sb))), (qw, .inl (kw, 44, .inl w)), (qe, .inl (ke, 16, .inl (nF (erN sb w (ldN hi lo) 9)))), (qc, .inr (0, [.ref qs, .ref qu, .ref qw, .ref qb, .ref qe])), (qb, .inl (kb, 16, .inl (nF (erN sb w (ldN hi lo) 10))))] := hD
    refine W.widen (k := 0) (n := 0) (Nat.le_of_ble_eq_true rfl) (Nat.le_of_ble_eq_true rfl) ?_
    refine w_pc (pc2 := 21) rfl ?_
    refine lv_goto (tgt := 31) hx hb dX2_encrypt_21 (by decide) ?_
    exact rt_l hx hb hr hlk hQ hAe hP hD hS [0, 4, 1, 2, 5, 3] (by decide) rfl (Nat.le_of_ble_eq_true rfl) (Nat.le_of_ble_eq_true rfl) (by first | (rw [zI0 (b := ot) (by assumption)]; rfl) | (rw [zI1 (b := ot) (by assumption)]; rfl)) dX2_encrypt_31

def rm_c_decrypt : Room := { frames := 4, cells := 0, slots := 0, locals := 127 }
set_option maxHeartbeats 4000000 in
set_option maxRecDepth 100000 in
/-- decrypt -/
theorem c_decrypt (l : Launch) (dC : Nat → ClassId) (dI : Nat → Nat → Nat) (x : Nat) (qc : Nat) (qg : Nat) (qa : Nat) (qt : Nat) (qm : Nat) (ph : Nat) (og : Bool) (nh : Int64) (nr : Int32) (na : Nat) (nt : Nat) (mb : Int32) (t1 : Int64) (t2 : Int64) (qs : Nat) (qu : Nat) (qw : Nat) (qb : Nat) (qe : Nat) (ku : ClassId) (kw : ClassId) (kb : ClassId) (ke : ClassId) (ub : Nat → Nat) (w : Nat → Int32) (b : Nat → Nat) (z : Nat → Nat) (hi : Int64) (lo : Int64) (ot : Bool) (u256 : ∀ i, ub i < 256) : MO l dC dI yX2_decrypt wsX2_decrypt rm_c_decrypt [.ref x, .long hi, .long lo, .int (zI ot)] [(x, .inr (2, [.ref qc, .ref qg, .ref qa, .ref qt, .ref qm, .int (nI ph), .int (zI og), .long nh, .int nr, .int (nI na), .int (nI nt), .int mb, .long t1, .long t2])), (qc, .inr (0, [.ref qs, .ref qu, .ref qw, .ref qb, .ref qe])), (qu, .inl (ku, 256, .inl (nF ub))), (qw, .inl (kw, 44, .inl w)), (qb, .inl (kb, 16, .inl (nF b))), (qe, .inl (ke, 16, .inl (nF z)))] [(ku, .int), (kw, .int), (kb, .int), (ke, .int)] [(x, .inr (2, [.ref qc, .ref qg, .ref qa, .ref qt, .ref qm, .int (nI ph), .int (zI og), .long nh, .int nr, .int (nI na), .int (nI nt), .int mb, .long t1, .long t2])), (qc, .inr (0, [.ref qs, .ref qu, .ref qw, .ref qb, .ref qe])), (qu, .inl (ku, 256, .inl (nF ub))), (qw, .inl (kw, 44, .inl w)), (qb, .inl (kb, 16, .inl (nF (akN w 0 (drN ub w (ldN hi lo) 10))))), (qe, .inl (ke, 16, .inl (nF (umN w 9 (drN ub w (ldN hi lo) 9)))))] (some (.long (if ot then lN (jbN (akN w 0 (drN ub w (ldN hi lo) 10)) 8 16 8) else lN (jbN (akN w 0 (drN ub w (ldN hi lo) 10)) 0 16 8)))) := by
  refine mo_ofW (cc := cX2_decrypt) (maxL := 6) (ret := (some .long)) (by decide) rfl (Nat.le_of_ble_eq_true rfl) ?_
  intro p e s m args below meth c Q A H locs ls hx hb hr hlk hml hta hown hin hE hQ hAe hA hK hP hD hS hl
  have hown : s.vm.findClass RX2 = some m.cls := hown
  have hl : lv_has ls 6 [(0, .ref x), (1, .long hi), (3, .long lo), (5, .int (zI ot))] := hl
  refine lv_aload_n hx hb dX2_decrypt_0 rfl (lv_at hl 0 rfl) ?_
  refine va_get (D := (dC, dI)) (ci := 2) (v := .ref qc) (C := RX2) (T := TX2) (N := 14) hx hb hta inX2 hown hK hP 0 rfl rfl 0 (by decide) (hta _ mw_80) (fun _ h9 => h9) rfl dX2_decrypt_1 ?_
  refine lv_lload_n hx hb dX2_decrypt_4 rfl (lv_at hl 1 rfl) ?_
  refine lv_lload_n hx hb dX2_decrypt_5 rfl (lv_at hl 2 rfl) ?_
  refine cf_0 (wr := [(x, .inr (2, [.ref qc, .ref qg, .ref qa, .ref qt, .ref qm, .int (nI ph), .int (zI og), .long nh, .int nr, .int (nI na), .int (nI nt), .int mb, .long t1, .long t2]))]) (va_runV (As := [.long hi, .long lo]) (rest := []) ⟨hx, hb, hml, hown, hta⟩ (MO.to (c_decipher l dC dI qc qs qu qw qb qe ku kw kb ke ub w b z hi lo u256) H.size) (cwV 2 hta (aw_V mw_180 mw_177 mw_178 mw_179 mw_2) rfl rfl rfl ⟨rfl, dyX0_decipher⟩ ⟨(Nat.le_of_ble_eq_true rfl), (Nat.le_of_ble_eq_true rfl)⟩) (pr_V hP hD hK hE [1, 2, 3, 4, 5] [0, 1, 2, 3] (by decide) rfl rfl rfl rfl) rfl rfl hl.1 rfl (lv_room (Nat.le_of_ble_eq_true rfl)) dX2_decrypt_6 ⟨(Nat.le_of_ble_eq_true rfl), (Nat.le_of_ble_eq_true rfl)⟩) hP hD hS hA [1, 2, 3, 4, 5] [0] rfl rfl (by decide) (by decide) (fun H locs hP hD hS => ?_)
  have hP : va_P (dC, dI) vwCl [(x, .inr (2, [.ref qc, .ref qg, .ref qa, .ref qt, .ref qm, .int (nI ph), .int (zI og), .long nh, .int nr, .int (nI na), .int (nI nt), .int mb, .long t1, .long t2])), (qc, .inr (0, [.ref qs, .ref qu, .ref qw, .ref qb, .ref qe])), (qu, .inl (ku, 256, .inl (nF ub))), (qw, .inl (kw, 44, .inl w)), (qb, .inl (kb, 16, .inl (nF (akN w 0 (drN ub w (ldN hi lo) 10))))), (qe, .inl (ke, 16, .inl (nF (umN w 9 (drN ub w (ldN hi lo) 9)))))] H := hP
  have hD : va_D A [(x, .inr (2, [.ref qc, .ref qg, .ref qa, .ref qt, .ref qm, .int (nI ph), .int (zI og), .long nh, .int nr, .int (nI na), .int (nI nt), .int mb, .long t1, .long t2])), (qc, .inr (0, [.ref qs, .ref qu, .ref qw, .ref qb, .ref qe])), (qu, .inl (ku, 256, .inl (nF ub))), (qw, .inl (kw, 44, .inl w)), (qb, .inl (kb, 16, .inl (nF (akN w 0 (drN ub w (ldN hi lo) 10))))), (qe, .inl (ke, 16, .inl (nF (umN w 9 (drN ub w (ldN hi lo) 9)))))] := hD
  refine W.widen (k := 0) (n := 0) (Nat.le_of_ble_eq_true rfl) (Nat.le_of_ble_eq_true rfl) ?_
  refine w_pc (pc2 := 9) rfl ?_
  refine lv_iload hx hb dX2_decrypt_9 (lv_at hl 3 rfl) ?_
  refine lv_if_eq (tgt := 24) hx hb dX2_decrypt_11 (by decide) (fun hc_11 => ?_) (fun hc_11 => ?_)
  · skip
    refine lv_aload_n hx hb dX2_decrypt_24 rfl (lv_at hl 0 rfl) ?_
    refine va_get (D := (dC, dI)) (ci := 2) (v := .ref qc) (C := RX2) (T := TX2) (N := 14) hx hb hta inX2 hown hK hP 0 rfl rfl 0 (by decide) (hta _ mw_80) (fun _ h9 => h9) rfl dX2_decrypt_25 ?_
    refine cf_1 (wr := [(x, .inr (2, [.ref qc, .ref qg, .ref qa, .ref qt, .ref qm, .int (nI ph), .int (zI og), .long nh, .int nr, .int (nI na), .int (nI nt), .int mb, .long t1, .long t2])), (qu, .inl (ku, 256, .inl (nF ub))), (qw, .inl (kw, 44, .inl w)), (qe, .inl (ke, 16, .inl (nF (umN w 9 (drN ub w (ldN hi lo) 9)))))]) (va_runV (As := []) (rest := []) ⟨hx, hb, hml, hown, hta⟩ (MO.to (c_chigh l dC dI qc qs qu qw qb qe kb (akN w 0 (drN ub w (ldN hi lo) 10)) (akN_lt (drN_lt u256 (ldN_lt hi lo) 10))) H.size) (cwV 0 hta (aw_V mw_172 mw_169 mw_170 mw_171 mw_2) rfl rfl rfl ⟨rfl, dyX0_high⟩ ⟨(Nat.le_of_ble_eq_true rfl), (Nat.le_of_ble_eq_true rfl)⟩) (pr_V hP hD hK hE [1, 4] [2] (by decide) rfl rfl rfl rfl) rfl rfl hl.1 rfl (lv_room (Nat.le_of_ble_eq_true rfl)) dX2_decrypt_28 ⟨(Nat.le_of_ble_eq_true rfl), (Nat.le_of_ble_eq_true rfl)⟩) hP hD hS hA [1, 4] [0, 2, 3, 5] rfl rfl (by decide) (by decide) (fun H locs hP hD hS => ?_)
    have hP : va_P (dC, dI) vwCl [(x, .inr (2, [.ref qc, .ref qg, .ref qa, .ref qt, .ref qm, .int (nI ph), .int (zI og), .long nh, .int nr, .int (nI na), .int (nI nt), .int mb, .long t1, .long t2])), (qu, .inl (ku, 256, .inl (nF ub))), (qw, .inl (kw, 44, .inl w)), (qe, .inl (ke, 16, .inl (nF (umN w 9 (drN ub w (ldN hi lo) 9))))), (qc, .inr (0, [.ref qs, .ref qu, .ref qw, .ref qb, .ref qe])), (qb, .inl (kb, 16, .inl (nF (akN w 0 (drN ub w (ldN hi lo) 10)))))] H := hP
    have hD : va_D A [(x, .inr (2, [.ref qc, .ref qg, .ref qa, .ref qt, .ref qm, .int (nI ph), .int (zI og), .long nh, .int nr, .int (nI na), .int (nI nt), .int mb, .long t1, .long t2])), (qu, .inl (ku, 256, .inl (nF ub))), (qw, .inl (kw, 44, .inl w)), (qe, .inl (ke, 16, .inl (nF (umN w 9 (drN ub w (ldN hi lo) 9))))), (qc, .inr (0, [.ref qs, .ref qu, .ref qw, .ref qb, .ref qe])), (qb, .inl (kb, 16, .inl (nF (akN w 0 (drN ub w (ldN hi lo) 10)))))] := hD
    refine W.widen (k := 0) (n := 0) (Nat.le_of_ble_eq_true rfl) (Nat.le_of_ble_eq_true rfl) ?_
    refine w_pc (pc2 := 31) rfl ?_
    exact rt_l hx hb hr hlk hQ hAe hP hD hS [0, 4, 1, 2, 5, 3] (by decide) rfl (Nat.le_of_ble_eq_true rfl) (Nat.le_of_ble_eq_true rfl) (by first | (rw [zI0 (b := ot) (by assumption)]; rfl) | (rw [zI1 (b := ot) (by assumption)]; rfl)) dX2_decrypt_31
  · skip
    refine lv_aload_n hx hb dX2_decrypt_14 rfl (lv_at hl 0 rfl) ?_
    refine va_get (D := (dC, dI)) (ci := 2) (v := .ref qc) (C := RX2) (T := TX2) (N := 14) hx hb hta inX2 hown hK hP 0 rfl rfl 0 (by decide) (hta _ mw_80) (fun _ h9 => h9) rfl dX2_decrypt_15 ?_
    refine cf_1 (wr := [(x, .inr (2, [.ref qc, .ref qg, .ref qa, .ref qt, .ref qm, .int (nI ph), .int (zI og), .long nh, .int nr, .int (nI na), .int (nI nt), .int mb, .long t1, .long t2])), (qu, .inl (ku, 256, .inl (nF ub))), (qw, .inl (kw, 44, .inl w)), (qe, .inl (ke, 16, .inl (nF (umN w 9 (drN ub w (ldN hi lo) 9)))))]) (va_runV (As := []) (rest := []) ⟨hx, hb, hml, hown, hta⟩ (MO.to (c_clow l dC dI qc qs qu qw qb qe kb (akN w 0 (drN ub w (ldN hi lo) 10)) (akN_lt (drN_lt u256 (ldN_lt hi lo) 10))) H.size) (cwV 0 hta (aw_V mw_165 mw_162 mw_163 mw_164 mw_2) rfl rfl rfl ⟨rfl, dyX0_low⟩ ⟨(Nat.le_of_ble_eq_true rfl), (Nat.le_of_ble_eq_true rfl)⟩) (pr_V hP hD hK hE [1, 4] [2] (by decide) rfl rfl rfl rfl) rfl rfl hl.1 rfl (lv_room (Nat.le_of_ble_eq_true rfl)) dX2_decrypt_18 ⟨(Nat.le_of_ble_eq_true rfl), (Nat.le_of_ble_eq_true rfl)⟩) hP hD hS hA [1, 4] [0, 2, 3, 5] rfl rfl (by decide) (by decide) (fun H locs hP hD hS => ?_)
    have hP : va_P (dC, dI) vwCl [(x, .inr (2, [.ref qc, .ref qg, .ref qa, .ref qt, .ref qm, .int (nI ph), .int (zI og), .long nh, .int nr, .int (nI na), .int (nI nt), .int mb, .long t1, .long t2])), (qu, .inl (ku, 256, .inl (nF ub))), (qw, .inl (kw, 44, .inl w)), (qe, .inl (ke, 16, .inl (nF (umN w 9 (drN ub w (ldN hi lo) 9))))), (qc, .inr (0, [.ref qs, .ref qu, .ref qw, .ref qb, .ref qe])), (qb, .inl (kb, 16, .inl (nF (akN w 0 (drN ub w (ldN hi lo) 10)))))] H := hP
    have hD : va_D A [(x, .inr (2, [.ref qc, .ref qg, .ref qa, .ref qt, .ref qm, .int (nI ph), .int (zI og), .long nh, .int nr, .int (nI na), .int (nI nt), .int mb, .long t1, .long t2])), (qu, .inl (ku, 256, .inl (nF ub))), (qw, .inl (kw, 44, .inl w)), (qe, .inl (ke, 16, .inl (nF (umN w 9 (drN ub w (ldN hi lo) 9))))), (qc, .inr (0, [.ref qs, .ref qu, .ref qw, .ref qb, .ref qe])), (qb, .inl (kb, 16, .inl (nF (akN w 0 (drN ub w (ldN hi lo) 10)))))] := hD
    refine W.widen (k := 0) (n := 0) (Nat.le_of_ble_eq_true rfl) (Nat.le_of_ble_eq_true rfl) ?_
    refine w_pc (pc2 := 21) rfl ?_
    refine lv_goto (tgt := 31) hx hb dX2_decrypt_21 (by decide) ?_
    exact rt_l hx hb hr hlk hQ hAe hP hD hS [0, 4, 1, 2, 5, 3] (by decide) rfl (Nat.le_of_ble_eq_true rfl) (Nat.le_of_ble_eq_true rfl) (by first | (rw [zI0 (b := ot) (by assumption)]; rfl) | (rw [zI1 (b := ot) (by assumption)]; rfl)) dX2_decrypt_31

def rm_c_product : Room := { frames := 1, cells := 0, slots := 0, locals := 39 }
set_option maxHeartbeats 4000000 in
set_option maxRecDepth 100000 in
/-- product -/
theorem c_product (l : Launch) (dC : Nat → ClassId) (dI : Nat → Nat → Nat) (x : Nat) (qc : Nat) (qg : Nat) (qa : Nat) (qt : Nat) (qm : Nat) (ph : Nat) (og : Bool) (nh : Int64) (nr : Int32) (na : Nat) (nt : Nat) (mb : Int32) (t1 : Int64) (t2 : Int64) (yh : Int64) (yl : Int64) (hi : Int64) (lo : Int64) (oh : Int64) (ol : Int64) (ot : Bool) : MO l dC dI yX2_product wsX2_product rm_c_product [.ref x, .long hi, .long lo, .long oh, .long ol, .int (zI ot)] [(x, .inr (2, [.ref qc, .ref qg, .ref qa, .ref qt, .ref qm, .int (nI ph), .int (zI og), .long nh, .int nr, .int (nI na), .int (nI nt), .int mb, .long t1, .long t2])), (qg, .inr (1, [.long yh, .long yl]))] [] [(x, .inr (2, [.ref qc, .ref qg, .ref qa, .ref qt, .ref qm, .int (nI ph), .int (zI og), .long nh, .int nr, .int (nI na), .int (nI nt), .int mb, .long t1, .long t2])), (qg, .inr (1, [.long ((gst hi lo oh ol 128).1), .long ((gst hi lo oh ol 128).2.1)]))] (some (.long (if ot then (gst hi lo oh ol 128).2.1 else (gst hi lo oh ol 128).1))) := by
  refine mo_ofW (cc := cX2_product) (maxL := 10) (ret := (some .long)) (by decide) rfl (Nat.le_of_ble_eq_true rfl) ?_
  intro p e s m args below meth c Q A H locs ls hx hb hr hlk hml hta hown hin hE hQ hAe hA hK hP hD hS hl
  have hown : s.vm.findClass RX2 = some m.cls := hown
  have hl : lv_has ls 10 [(0, .ref x), (1, .long hi), (3, .long lo), (5, .long oh), (7, .long ol), (9, .int (zI ot))] := hl
  refine lv_aload_n hx hb dX2_product_0 rfl (lv_at hl 0 rfl) ?_
  refine va_get (D := (dC, dI)) (ci := 2) (v := .ref qg) (C := RX2) (T := TX2) (N := 14) hx hb hta inX2 hown hK hP 0 rfl rfl 1 (by decide) (hta _ mw_81) (fun _ h9 => h9) rfl dX2_product_1 ?_
  refine lv_lload_n hx hb dX2_product_4 rfl (lv_at hl 1 rfl) ?_
  refine lv_lload_n hx hb dX2_product_5 rfl (lv_at hl 2 rfl) ?_
  refine cf_0 (wr := [(x, .inr (2, [.ref qc, .ref qg, .ref qa, .ref qt, .ref qm, .int (nI ph), .int (zI og), .long nh, .int nr, .int (nI na), .int (nI nt), .int mb, .long t1, .long t2]))]) (va_runV (As := [.long hi, .long lo]) (rest := []) ⟨hx, hb, hml, hown, hta⟩ (MO.to (c_put l dC dI qg yh yl hi lo) H.size) (cwV 2 hta (aw_V mw_196 mw_193 mw_194 mw_195 mw_4) rfl rfl rfl ⟨rfl, dyX1_put⟩ ⟨(Nat.le_of_ble_eq_true rfl), (Nat.le_of_ble_eq_true rfl)⟩) (pr_V hP hD hK hE [1] [] (by decide) rfl rfl rfl rfl) rfl rfl hl.1 rfl (lv_room (Nat.le_of_ble_eq_true rfl)) dX2_product_6 ⟨(Nat.le_of_ble_eq_true rfl), (Nat.le_of_ble_eq_true rfl)⟩) hP hD hS hA [1] [0] rfl rfl (by decide) (by decide) (fun H locs hP hD hS => ?_)
  have hP : va_P (dC, dI) vwCl [(x, .inr (2, [.ref qc, .ref qg, .ref qa, .ref qt, .ref qm, .int (nI ph), .int (zI og), .long nh, .int nr, .int (nI na), .int (nI nt), .int mb, .long t1, .long t2])), (qg, .inr (1, [.long hi, .long lo]))] H := hP
  have hD : va_D A [(x, .inr (2, [.ref qc, .ref qg, .ref qa, .ref qt, .ref qm, .int (nI ph), .int (zI og), .long nh, .int nr, .int (nI na), .int (nI nt), .int mb, .long t1, .long t2])), (qg, .inr (1, [.long hi, .long lo]))] := hD
  refine W.widen (k := 0) (n := 0) (Nat.le_of_ble_eq_true rfl) (Nat.le_of_ble_eq_true rfl) ?_
  refine w_pc (pc2 := 9) rfl ?_
  refine lv_aload_n hx hb dX2_product_9 rfl (lv_at hl 0 rfl) ?_
  refine va_get (D := (dC, dI)) (ci := 2) (v := .ref qg) (C := RX2) (T := TX2) (N := 14) hx hb hta inX2 hown hK hP 0 rfl rfl 1 (by decide) (hta _ mw_81) (fun _ h9 => h9) rfl dX2_product_10 ?_
  refine lv_lload hx hb dX2_product_13 (lv_at hl 3 rfl) ?_
  refine lv_lload hx hb dX2_product_15 (lv_at hl 4 rfl) ?_
  refine cf_0 (wr := [(x, .inr (2, [.ref qc, .ref qg, .ref qa, .ref qt, .ref qm, .int (nI ph), .int (zI og), .long nh, .int nr, .int (nI na), .int (nI nt), .int mb, .long t1, .long t2]))]) (va_runV (As := [.long oh, .long ol]) (rest := []) ⟨hx, hb, hml, hown, hta⟩ (MO.to (c_multiply l dC dI qg hi lo oh ol) H.size) (cwV 2 hta (aw_V mw_200 mw_197 mw_198 mw_199 mw_4) rfl rfl rfl ⟨rfl, dyX1_multiply⟩ ⟨(Nat.le_of_ble_eq_true rfl), (Nat.le_of_ble_eq_true rfl)⟩) (pr_V hP hD hK hE [1] [] (by decide) rfl rfl rfl rfl) rfl rfl hl.1 rfl (lv_room (Nat.le_of_ble_eq_true rfl)) dX2_product_17 ⟨(Nat.le_of_ble_eq_true rfl), (Nat.le_of_ble_eq_true rfl)⟩) hP hD hS hA [1] [0] rfl rfl (by decide) (by decide) (fun H locs hP hD hS => ?_)
  have hP : va_P (dC, dI) vwCl [(x, .inr (2, [.ref qc, .ref qg, .ref qa, .ref qt, .ref qm, .int (nI ph), .int (zI og), .long nh, .int nr, .int (nI na), .int (nI nt), .int mb, .long t1, .long t2])), (qg, .inr (1, [.long ((gst hi lo oh ol 128).1), .long ((gst hi lo oh ol 128).2.1)]))] H := hP
  have hD : va_D A [(x, .inr (2, [.ref qc, .ref qg, .ref qa, .ref qt, .ref qm, .int (nI ph), .int (zI og), .long nh, .int nr, .int (nI na), .int (nI nt), .int mb, .long t1, .long t2])), (qg, .inr (1, [.long ((gst hi lo oh ol 128).1), .long ((gst hi lo oh ol 128).2.1)]))] := hD
  refine W.widen (k := 0) (n := 0) (Nat.le_of_ble_eq_true rfl) (Nat.le_of_ble_eq_true rfl) ?_
  refine w_pc (pc2 := 20) rfl ?_
  refine lv_iload hx hb dX2_product_20 (lv_at hl 5 rfl) ?_
  refine lv_if_eq (tgt := 35) hx hb dX2_product_22 (by decide) (fun hc_22 => ?_) (fun hc_22 => ?_)
  · skip
    refine lv_aload_n hx hb dX2_product_35 rfl (lv_at hl 0 rfl) ?_
    refine va_get (D := (dC, dI)) (ci := 2) (v := .ref qg) (C := RX2) (T := TX2) (N := 14) hx hb hta inX2 hown hK hP 0 rfl rfl 1 (by decide) (hta _ mw_81) (fun _ h9 => h9) rfl dX2_product_36 ?_
    refine cf_1 (wr := [(x, .inr (2, [.ref qc, .ref qg, .ref qa, .ref qt, .ref qm, .int (nI ph), .int (zI og), .long nh, .int nr, .int (nI na), .int (nI nt), .int mb, .long t1, .long t2]))]) (va_runV (As := []) (rest := []) ⟨hx, hb, hml, hown, hta⟩ (MO.to (c_ghigh l dC dI qg ((gst hi lo oh ol 128).1) ((gst hi lo oh ol 128).2.1)) H.size) (cwV 0 hta (aw_V mw_209 mw_206 mw_207 mw_208 mw_4) rfl rfl rfl ⟨rfl, dyX1_high⟩ ⟨(Nat.le_of_ble_eq_true rfl), (Nat.le_of_ble_eq_true rfl)⟩) (pr_V hP hD hK hE [1] [] (by decide) rfl rfl rfl rfl) rfl rfl hl.1 rfl (lv_room (Nat.le_of_ble_eq_true rfl)) dX2_product_39 ⟨(Nat.le_of_ble_eq_true rfl), (Nat.le_of_ble_eq_true rfl)⟩) hP hD hS hA [1] [0] rfl rfl (by decide) (by decide) (fun H locs hP hD hS => ?_)
    have hP : va_P (dC, dI) vwCl [(x, .inr (2, [.ref qc, .ref qg, .ref qa, .ref qt, .ref qm, .int (nI ph), .int (zI og), .long nh, .int nr, .int (nI na), .int (nI nt), .int mb, .long t1, .long t2])), (qg, .inr (1, [.long ((gst hi lo oh ol 128).1), .long ((gst hi lo oh ol 128).2.1)]))] H := hP
    have hD : va_D A [(x, .inr (2, [.ref qc, .ref qg, .ref qa, .ref qt, .ref qm, .int (nI ph), .int (zI og), .long nh, .int nr, .int (nI na), .int (nI nt), .int mb, .long t1, .long t2])), (qg, .inr (1, [.long ((gst hi lo oh ol 128).1), .long ((gst hi lo oh ol 128).2.1)]))] := hD
    refine W.widen (k := 0) (n := 0) (Nat.le_of_ble_eq_true rfl) (Nat.le_of_ble_eq_true rfl) ?_
    refine w_pc (pc2 := 42) rfl ?_
    exact rt_l hx hb hr hlk hQ hAe hP hD hS [0, 1] (by decide) rfl (Nat.le_of_ble_eq_true rfl) (Nat.le_of_ble_eq_true rfl) (by first | (rw [zI0 (b := ot) (by assumption)]; rfl) | (rw [zI1 (b := ot) (by assumption)]; rfl)) dX2_product_42
  · skip
    refine lv_aload_n hx hb dX2_product_25 rfl (lv_at hl 0 rfl) ?_
    refine va_get (D := (dC, dI)) (ci := 2) (v := .ref qg) (C := RX2) (T := TX2) (N := 14) hx hb hta inX2 hown hK hP 0 rfl rfl 1 (by decide) (hta _ mw_81) (fun _ h9 => h9) rfl dX2_product_26 ?_
    refine cf_1 (wr := [(x, .inr (2, [.ref qc, .ref qg, .ref qa, .ref qt, .ref qm, .int (nI ph), .int (zI og), .long nh, .int nr, .int (nI na), .int (nI nt), .int mb, .long t1, .long t2]))]) (va_runV (As := []) (rest := []) ⟨hx, hb, hml, hown, hta⟩ (MO.to (c_glow l dC dI qg ((gst hi lo oh ol 128).1) ((gst hi lo oh ol 128).2.1)) H.size) (cwV 0 hta (aw_V mw_205 mw_202 mw_203 mw_204 mw_4) rfl rfl rfl ⟨rfl, dyX1_low⟩ ⟨(Nat.le_of_ble_eq_true rfl), (Nat.le_of_ble_eq_true rfl)⟩) (pr_V hP hD hK hE [1] [] (by decide) rfl rfl rfl rfl) rfl rfl hl.1 rfl (lv_room (Nat.le_of_ble_eq_true rfl)) dX2_product_29 ⟨(Nat.le_of_ble_eq_true rfl), (Nat.le_of_ble_eq_true rfl)⟩) hP hD hS hA [1] [0] rfl rfl (by decide) (by decide) (fun H locs hP hD hS => ?_)
    have hP : va_P (dC, dI) vwCl [(x, .inr (2, [.ref qc, .ref qg, .ref qa, .ref qt, .ref qm, .int (nI ph), .int (zI og), .long nh, .int nr, .int (nI na), .int (nI nt), .int mb, .long t1, .long t2])), (qg, .inr (1, [.long ((gst hi lo oh ol 128).1), .long ((gst hi lo oh ol 128).2.1)]))] H := hP
    have hD : va_D A [(x, .inr (2, [.ref qc, .ref qg, .ref qa, .ref qt, .ref qm, .int (nI ph), .int (zI og), .long nh, .int nr, .int (nI na), .int (nI nt), .int mb, .long t1, .long t2])), (qg, .inr (1, [.long ((gst hi lo oh ol 128).1), .long ((gst hi lo oh ol 128).2.1)]))] := hD
    refine W.widen (k := 0) (n := 0) (Nat.le_of_ble_eq_true rfl) (Nat.le_of_ble_eq_true rfl) ?_
    refine w_pc (pc2 := 32) rfl ?_
    refine lv_goto (tgt := 42) hx hb dX2_product_32 (by decide) ?_
    exact rt_l hx hb hr hlk hQ hAe hP hD hS [0, 1] (by decide) rfl (Nat.le_of_ble_eq_true rfl) (Nat.le_of_ble_eq_true rfl) (by first | (rw [zI0 (b := ot) (by assumption)]; rfl) | (rw [zI1 (b := ot) (by assumption)]; rfl)) dX2_product_42

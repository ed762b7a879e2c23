def rm_m_encrypt : Room := { frames := 3, cells := 0, slots := 0, locals := 72 }
set_option maxHeartbeats 4000000 in
set_option maxRecDepth 100000 in
/-- encrypt -/
theorem m_encrypt (l : Launch) (dC : Nat → ClassId) (dI : Nat → Nat → Nat) (o : Nat) (th : Int32) (ph : Nat) (og : Bool) (qx : Nat) (qk : Nat) (qw : Nat) (qb : Nat) (qn : Nat) (mh : Int64) (ml : Int64) (nc : Int64) (rs : Int32) (na : Nat) (qd : Nat) (nz : Nat) (qg : Nat) (t1 : Int64) (t2 : Int64) (kx : ClassId) (kw : ClassId) (kb : ClassId) (kn : ClassId) (sb : Nat → Nat) (w : Nat → Int32) (b : Nat → Nat) (z : Nat → Nat) (hi : Int64) (lo : Int64) (ot : Bool) (s256 : ∀ i, sb i < 256) : MO l dC dI yX3_encrypt wsX3_encrypt rm_m_encrypt [.ref o, .long hi, .long lo, .int (zI ot)] [(o, .inr (3, [.int th, .int (nI ph), .int (zI og), .ref qx, .ref qk, .ref qw, .ref qb, .ref qn, .long mh, .long ml, .long nc, .int rs, .int (nI na), .ref qd, .int (nI nz), .ref qg, .long t1, .long t2])), (qx, .inl (kx, 256, .inl (nF sb))), (qw, .inl (kw, 44, .inl w)), (qb, .inl (kb, 16, .inl (nF b))), (qn, .inl (kn, 16, .inl (nF z)))] [(kx, .int), (kw, .int), (kb, .int), (kn, .int)] [(o, .inr (3, [.int (nI 0), .int (nI ph), .int (zI og), .ref qx, .ref qk, .ref qw, .ref qb, .ref qn, .long (lN (jbN (erN sb w (ldN hi lo) 10) 0 16 8)), .long (lN (jbN (erN sb w (ldN hi lo) 10) 8 16 8)), .long nc, .int rs, .int (nI na), .ref qd, .int (nI nz), .ref qg, .long t1, .long t2])), (qx, .inl (kx, 256, .inl (nF sb))), (qw, .inl (kw, 44, .inl w)), (qb, .inl (kb, 16, .inl (nF (erN sb w (ldN hi lo) 10)))), (qn, .inl (kn, 16, .inl (nF (ssN sb (erN sb w (ldN hi lo) 9)))))] (some (.long (if ot then lN (jbN (erN sb w (ldN hi lo) 10) 8 16 8) else lN (jbN (erN sb w (ldN hi lo) 10) 0 16 8)))) := by
  refine mo_ofW (cc := cX3_encrypt) (maxL := 6) (ret := (some .long)) (by decide) rfl (Nat.le_of_ble_eq_true rfl) ?_
  intro p e s m args below meth c Q A H locs ls hx hb hr hlk hml hta hown hin hE hQ hAe hA hK hP hD hS hl
  have hown : s.vm.findClass RX3 = some m.cls := hown
  have hl : lv_has ls 6 [(0, .ref o), (1, .long hi), (3, .long lo), (5, .int (zI ot))] := hl
  refine lv_aload_n hx hb dX3_encrypt_0 rfl (lv_at hl 0 rfl) ?_
  refine lv_iconst (v := nI 0) hx hb dX3_encrypt_1 (by decide) ?_
  refine va_put (D := (dC, dI)) (ci := 3) (v := .int (nI 0)) (ty := .int) (C := RX3) (T := TX3) (N := 18) hx hb hta inX3 tyX3 tyX3_ok nmX3 hown hK hP hD hS 0 rfl rfl 0 (by decide) (hta _ mw_457) (fun _ h9 => h9) rfl (by decide +kernel) rfl rfl (Nat.le_of_ble_eq_true rfl) dX3_encrypt_2 (fun H locs hP hD hS => ?_)
  have hP : va_P (dC, dI) vwCl [(o, .inr (3, [.int (nI 0), .int (nI ph), .int (zI og), .ref qx, .ref qk, .ref qw, .ref qb, .ref qn, .long mh, .long ml, .long nc, .int rs, .int (nI na), .ref qd, .int (nI nz), .ref qg, .long t1, .long t2])), (qx, .inl (kx, 256, .inl (nF sb))), (qw, .inl (kw, 44, .inl w)), (qb, .inl (kb, 16, .inl (nF b))), (qn, .inl (kn, 16, .inl (nF z)))] H := hP
  have hD : va_D A [(o, .inr (3, [.int (nI 0), .int (nI ph), .int (zI og), .ref qx, .ref qk, .ref qw, .ref qb, .ref qn, .long mh, .long ml, .long nc, .int rs, .int (nI na), .ref qd, .int (nI nz), .ref qg, .long t1, .long t2])), (qx, .inl (kx, 256, .inl (nF sb))), (qw, .inl (kw, 44, .inl w)), (qb, .inl (kb, 16, .inl (nF b))), (qn, .inl (kn, 16, .inl (nF z)))] := hD
  refine lv_aload_n hx hb dX3_encrypt_5 rfl (lv_at hl 0 rfl) ?_
  refine lv_lload_n hx hb dX3_encrypt_6 rfl (lv_at hl 1 rfl) ?_
  refine lv_lload_n hx hb dX3_encrypt_7 rfl (lv_at hl 2 rfl) ?_
  refine cf_0 (wr := [(qx, .inl (kx, 256, .inl (nF sb))), (qw, .inl (kw, 44, .inl w)), (qn, .inl (kn, 16, .inl (nF z)))]) (va_runV (As := [.long hi, .long lo]) (rest := []) ⟨hx, hb, hml, hown, hta⟩ (MO.to (m_lay l dC dI o (nI 0) ph og qx qk qw qb qn mh ml nc rs na qd nz qg t1 t2 kb b hi lo) H.size) (cwV 2 hta (aw_V mw_535 mw_532 mw_534 mw_s22 mw_5) rfl rfl rfl ⟨rfl, dyX3_lay⟩ ⟨(Nat.le_of_ble_eq_true rfl), (Nat.le_of_ble_eq_true rfl)⟩) (pr_V hP hD hK hE [0, 3] [2] (by decide) rfl rfl rfl rfl) rfl rfl hl.1 rfl (lv_room (Nat.le_of_ble_eq_true rfl)) dX3_encrypt_8 ⟨(Nat.le_of_ble_eq_true rfl), (Nat.le_of_ble_eq_true rfl)⟩) hP hD hS hA [0, 3] [1, 2, 4] rfl rfl (by decide) (by decide) (fun H locs hP hD hS => ?_)
  have hP : va_P (dC, dI) vwCl [(qx, .inl (kx, 256, .inl (nF sb))), (qw, .inl (kw, 44, .inl w)), (qn, .inl (kn, 16, .inl (nF z))), (o, .inr (3, [.int (nI 0), .int (nI ph), .int (zI og), .ref qx, .ref qk, .ref qw, .ref qb, .ref qn, .long mh, .long ml, .long nc, .int rs, .int (nI na), .ref qd, .int (nI nz), .ref qg, .long t1, .long t2])), (qb, .inl (kb, 16, .inl (nF (ldN hi lo))))] H := hP
  have hD : va_D A [(qx, .inl (kx, 256, .inl (nF sb))), (qw, .inl (kw, 44, .inl w)), (qn, .inl (kn, 16, .inl (nF z))), (o, .inr (3, [.int (nI 0), .int (nI ph), .int (zI og), .ref qx, .ref qk, .ref qw, .ref qb, .ref qn, .long mh, .long ml, .long nc, .int rs, .int (nI na), .ref qd, .int (nI nz), .ref qg, .long t1, .long t2])), (qb, .inl (kb, 16, .inl (nF (ldN hi lo))))] := hD
  refine W.widen (k := 0) (n := 0) (Nat.le_of_ble_eq_true rfl) (Nat.le_of_ble_eq_true rfl) ?_
  refine w_pc (pc2 := 11) rfl ?_
  refine lv_aload_n hx hb dX3_encrypt_11 rfl (lv_at hl 0 rfl) ?_
  refine cf_0 (wr := []) (va_runV (As := []) (rest := []) ⟨hx, hb, hml, hown, hta⟩ (MO.to (m_encryptBlock l dC dI o (nI 0) ph og qx qk qw qb qn mh ml nc rs na qd nz qg t1 t2 kx kw kb kn sb w (ldN hi lo) z s256 (ldN_lt hi lo)) H.size) (cwV 0 hta (aw_V mw_540 mw_537 mw_539 mw_s23 mw_5) rfl rfl rfl ⟨rfl, dyX3_encryptBlock⟩ ⟨(Nat.le_of_ble_eq_true rfl), (Nat.le_of_ble_eq_true rfl)⟩) (pr_V hP hD hK hE [3, 0, 1, 4, 2] [0, 1, 2, 3] (by decide) rfl rfl rfl rfl) rfl rfl hl.1 rfl (lv_room (Nat.le_of_ble_eq_true rfl)) dX3_encrypt_12 ⟨(Nat.le_of_ble_eq_true rfl), (Nat.le_of_ble_eq_true rfl)⟩) hP hD hS hA [3, 0, 1, 4, 2] [] rfl rfl (by decide) (by decide) (fun H locs hP hD hS => ?_)
  have hP : va_P (dC, dI) vwCl [(o, .inr (3, [.int (nI 0), .int (nI ph), .int (zI og), .ref qx, .ref qk, .ref qw, .ref qb, .ref qn, .long mh, .long ml, .long nc, .int rs, .int (nI na), .ref qd, .int (nI nz), .ref qg, .long t1, .long t2])), (qx, .inl (kx, 256, .inl (nF sb))), (qw, .inl (kw, 44, .inl w)), (qb, .inl (kb, 16, .inl (nF (erN sb w (ldN hi lo) 10)))), (qn, .inl (kn, 16, .inl (nF (ssN sb (erN sb w (ldN hi lo) 9)))))] H := hP
  have hD : va_D A [(o, .inr (3, [.int (nI 0), .int (nI ph), .int (zI og), .ref qx, .ref qk, .ref qw, .ref qb, .ref qn, .long mh, .long ml, .long nc, .int rs, .int (nI na), .ref qd, .int (nI nz), .ref qg, .long t1, .long t2])), (qx, .inl (kx, 256, .inl (nF sb))), (qw, .inl (kw, 44, .inl w)), (qb, .inl (kb, 16, .inl (nF (erN sb w (ldN hi lo) 10)))), (qn, .inl (kn, 16, .inl (nF (ssN sb (erN sb w (ldN hi lo) 9)))))] := hD
  refine W.widen (k := 0) (n := 0) (Nat.le_of_ble_eq_true rfl) (Nat.le_of_ble_eq_true rfl) ?_
  refine w_pc (pc2 := 15) rfl ?_
  refine lv_aload_n hx hb dX3_encrypt_15 rfl (lv_at hl 0 rfl) ?_
  refine cf_0 (wr := [(qx, .inl (kx, 256, .inl (nF sb))), (qw, .inl (kw, 44, .inl w)), (qn, .inl (kn, 16, .inl (nF (ssN sb (erN sb w (ldN hi lo) 9)))))]) (va_runV (As := []) (rest := []) ⟨hx, hb, hml, hown, hta⟩ (MO.to (m_tell l dC dI o (nI 0) ph og qx qk qw qb qn mh ml nc rs na qd nz qg t1 t2 kb (erN sb w (ldN hi lo) 10) (erN_lt s256 (ldN_lt hi lo) 10)) H.size) (cwV 0 hta (aw_V mw_552 mw_549 mw_551 mw_s26 mw_5) rfl rfl rfl ⟨rfl, dyX3_tell⟩ ⟨(Nat.le_of_ble_eq_true rfl), (Nat.le_of_ble_eq_true rfl)⟩) (pr_V hP hD hK hE [0, 3] [2] (by decide) rfl rfl rfl rfl) rfl rfl hl.1 rfl (lv_room (Nat.le_of_ble_eq_true rfl)) dX3_encrypt_16 ⟨(Nat.le_of_ble_eq_true rfl), (Nat.le_of_ble_eq_true rfl)⟩) hP hD hS hA [0, 3] [1, 2, 4] rfl rfl (by decide) (by decide) (fun H locs hP hD hS => ?_)
  have hP : va_P (dC, dI) vwCl [(qx, .inl (kx, 256, .inl (nF sb))), (qw, .inl (kw, 44, .inl w)), (qn, .inl (kn, 16, .inl (nF (ssN sb (erN sb w (ldN hi lo) 9))))), (o, .inr (3, [.int (nI 0), .int (nI ph), .int (zI og), .ref qx, .ref qk, .ref qw, .ref qb, .ref qn, .long (lN (jbN (erN sb w (ldN hi lo) 10) 0 16 8)), .long (lN (jbN (erN sb w (ldN hi lo) 10) 8 16 8)), .long nc, .int rs, .int (nI na), .ref qd, .int (nI nz), .ref qg, .long t1, .long t2])), (qb, .inl (kb, 16, .inl (nF (erN sb w (ldN hi lo) 10))))] H := hP
  have hD : va_D A [(qx, .inl (kx, 256, .inl (nF sb))), (qw, .inl (kw, 44, .inl w)), (qn, .inl (kn, 16, .inl (nF (ssN sb (erN sb w (ldN hi lo) 9))))), (o, .inr (3, [.int (nI 0), .int (nI ph), .int (zI og), .ref qx, .ref qk, .ref qw, .ref qb, .ref qn, .long (lN (jbN (erN sb w (ldN hi lo) 10) 0 16 8)), .long (lN (jbN (erN sb w (ldN hi lo) 10) 8 16 8)), .long nc, .int rs, .int (nI na), .ref qd, .int (nI nz), .ref qg, .long t1, .long t2])), (qb, .inl (kb, 16, .inl (nF (erN sb w (ldN hi lo) 10))))] := hD
  refine W.widen (k := 0) (n := 0) (Nat.le_of_ble_eq_true rfl) (Nat.le_of_ble_eq_true rfl) ?_
  refine w_pc (pc2 := 19) rfl ?_
  refine lv_iload hx hb dX3_encrypt_19 (lv_at hl 3 rfl) ?_
  refine lv_if_eq (tgt := 31) hx hb dX3_encrypt_21 (by decide) (fun hc_21 => ?_) (fun hc_21 => ?_)
  · skip
    refine lv_aload_n hx hb dX3_encrypt_31 rfl (lv_at hl 0 rfl) ?_
    refine va_get (D := (dC, dI)) (ci := 3) (v := .long (lN (jbN (erN sb w (ldN hi lo) 10) 0 16 8))) (C := RX3) (T := TX3) (N := 18) hx hb hta inX3 hown hK hP 3 rfl rfl 8 (by decide) (hta _ mw_465) (fun _ h9 => h9) rfl dX3_encrypt_32 ?_
    exact rt_l hx hb hr hlk hQ hAe hP hD hS [3, 0, 1, 4, 2] (by decide) rfl (Nat.le_of_ble_eq_true rfl) (Nat.le_of_ble_eq_true rfl) (by first | (rw [zI0 (b := ot) (by assumption)]; rfl) | (rw [zI1 (b := ot) (by assumption)]; rfl)) dX3_encrypt_35
  · skip
    refine lv_aload_n hx hb dX3_encrypt_24 rfl (lv_at hl 0 rfl) ?_
    refine va_get (D := (dC, dI)) (ci := 3) (v := .long (lN (jbN (erN sb w (ldN hi lo) 10) 8 16 8))) (C := RX3) (T := TX3) (N := 18) hx hb hta inX3 hown hK hP 3 rfl rfl 9 (by decide) (hta _ mw_466) (fun _ h9 => h9) rfl dX3_encrypt_25 ?_
    refine lv_goto (tgt := 35) hx hb dX3_encrypt_28 (by decide) ?_
    exact rt_l hx hb hr hlk hQ hAe hP hD hS [3, 0, 1, 4, 2] (by decide) rfl (Nat.le_of_ble_eq_true rfl) (Nat.le_of_ble_eq_true rfl) (by first | (rw [zI0 (b := ot) (by assumption)]; rfl) | (rw [zI1 (b := ot) (by assumption)]; rfl)) dX3_encrypt_35

def rm_m_decrypt : Room := { frames := 3, cells := 0, slots := 0, locals := 72 }
set_option maxHeartbeats 4000000 in
set_option maxRecDepth 100000 in
/-- decrypt -/
theorem m_decrypt (l : Launch) (dC : Nat → ClassId) (dI : Nat → Nat → Nat) (o : Nat) (th : Int32) (ph : Nat) (og : Bool) (qx : Nat) (qk : Nat) (qw : Nat) (qb : Nat) (qn : Nat) (mh : Int64) (ml : Int64) (nc : Int64) (rs : Int32) (na : Nat) (qd : Nat) (nz : Nat) (qg : Nat) (t1 : Int64) (t2 : Int64) (kk : ClassId) (kw : ClassId) (kb : ClassId) (kn : ClassId) (ub : Nat → Nat) (w : Nat → Int32) (b : Nat → Nat) (z : Nat → Nat) (hi : Int64) (lo : Int64) (ot : Bool) (u256 : ∀ i, ub i < 256) : MO l dC dI yX3_decrypt wsX3_decrypt rm_m_decrypt [.ref o, .long hi, .long lo, .int (zI ot)] [(o, .inr (3, [.int th, .int (nI ph), .int (zI og), .ref qx, .ref qk, .ref qw, .ref qb, .ref qn, .long mh, .long ml, .long nc, .int rs, .int (nI na), .ref qd, .int (nI nz), .ref qg, .long t1, .long t2])), (qk, .inl (kk, 256, .inl (nF ub))), (qw, .inl (kw, 44, .inl w)), (qb, .inl (kb, 16, .inl (nF b))), (qn, .inl (kn, 16, .inl (nF z)))] [(kk, .int), (kw, .int), (kb, .int), (kn, .int)] [(o, .inr (3, [.int (nI 0), .int (nI ph), .int (zI og), .ref qx, .ref qk, .ref qw, .ref qb, .ref qn, .long (lN (jbN (akN w 0 (drN ub w (ldN hi lo) 10)) 0 16 8)), .long (lN (jbN (akN w 0 (drN ub w (ldN hi lo) 10)) 8 16 8)), .long nc, .int rs, .int (nI na), .ref qd, .int (nI nz), .ref qg, .long t1, .long t2])), (qk, .inl (kk, 256, .inl (nF ub))), (qw, .inl (kw, 44, .inl w)), (qb, .inl (kb, 16, .inl (nF (akN w 0 (drN ub w (ldN hi lo) 10))))), (qn, .inl (kn, 16, .inl (nF (drN ub w (ldN hi lo) 10))))] (some (.long (if ot then lN (jbN (akN w 0 (drN ub w (ldN hi lo) 10)) 8 16 8) else lN (jbN (akN w 0 (drN ub w (ldN hi lo) 10)) 0 16 8)))) := by
  refine mo_ofW (cc := cX3_decrypt) (maxL := 6) (ret := (some .long)) (by decide) rfl (Nat.le_of_ble_eq_true rfl) ?_
  intro p e s m args below meth c Q A H locs ls hx hb hr hlk hml hta hown hin hE hQ hAe hA hK hP hD hS hl
  have hown : s.vm.findClass RX3 = some m.cls := hown
  have hl : lv_has ls 6 [(0, .ref o), (1, .long hi), (3, .long lo), (5, .int (zI ot))] := hl
  refine lv_aload_n hx hb dX3_decrypt_0 rfl (lv_at hl 0 rfl) ?_
  refine lv_iconst (v := nI 0) hx hb dX3_decrypt_1 (by decide) ?_
  refine va_put (D := (dC, dI)) (ci := 3) (v := .int (nI 0)) (ty := .int) (C := RX3) (T := TX3) (N := 18) hx hb hta inX3 tyX3 tyX3_ok nmX3 hown hK hP hD hS 0 rfl rfl 0 (by decide) (hta _ mw_457) (fun _ h9 => h9) rfl (by decide +kernel) rfl rfl (Nat.le_of_ble_eq_true rfl) dX3_decrypt_2 (fun H locs hP hD hS => ?_)
  have hP : va_P (dC, dI) vwCl [(o, .inr (3, [.int (nI 0), .int (nI ph), .int (zI og), .ref qx, .ref qk, .ref qw, .ref qb, .ref qn, .long mh, .long ml, .long nc, .int rs, .int (nI na), .ref qd, .int (nI nz), .ref qg, .long t1, .long t2])), (qk, .inl (kk, 256, .inl (nF ub))), (qw, .inl (kw, 44, .inl w)), (qb, .inl (kb, 16, .inl (nF b))), (qn, .inl (kn, 16, .inl (nF z)))] H := hP
  have hD : va_D A [(o, .inr (3, [.int (nI 0), .int (nI ph), .int (zI og), .ref qx, .ref qk, .ref qw, .ref qb, .ref qn, .long mh, .long ml, .long nc, .int rs, .int (nI na), .ref qd, .int (nI nz), .ref qg, .long t1, .long t2])), (qk, .inl (kk, 256, .inl (nF ub))), (qw, .inl (kw, 44, .inl w)), (qb, .inl (kb, 16, .inl (nF b))), (qn, .inl (kn, 16, .inl (nF z)))] := hD
  refine lv_aload_n hx hb dX3_decrypt_5 rfl (lv_at hl 0 rfl) ?_
  refine lv_lload_n hx hb dX3_decrypt_6 rfl (lv_at hl 1 rfl) ?_
  refine lv_lload_n hx hb dX3_decrypt_7 rfl (lv_at hl 2 rfl) ?_
  refine cf_0 (wr := [(qk, .inl (kk, 256, .inl (nF ub))), (qw, .inl (kw, 44, .inl w)), (qn, .inl (kn, 16, .inl (nF z)))]) (va_runV (As := [.long hi, .long lo]) (rest := []) ⟨hx, hb, hml, hown, hta⟩ (MO.to (m_lay l dC dI o (nI 0) ph og qx qk qw qb qn mh ml nc rs na qd nz qg t1 t2 kb b hi lo) H.size) (cwV 2 hta (aw_V mw_535 mw_532 mw_534 mw_s22 mw_5) rfl rfl rfl ⟨rfl, dyX3_lay⟩ ⟨(Nat.le_of_ble_eq_true rfl), (Nat.le_of_ble_eq_true rfl)⟩) (pr_V hP hD hK hE [0, 3] [2] (by decide) rfl rfl rfl rfl) rfl rfl hl.1 rfl (lv_room (Nat.le_of_ble_eq_true rfl)) dX3_decrypt_8 ⟨(Nat.le_of_ble_eq_true rfl), (Nat.le_of_ble_eq_true rfl)⟩) hP hD hS hA [0, 3] [1, 2, 4] rfl rfl (by decide) (by decide) (fun H locs hP hD hS => ?_)
  have hP : va_P (dC, dI) vwCl [(qk, .inl (kk, 256, .inl (nF ub))), (qw, .inl (kw, 44, .inl w)), (qn, .inl (kn, 16, .inl (nF z))), (o, .inr (3, [.int (nI 0), .int (nI ph), .int (zI og), .ref qx, .ref qk, .ref qw, .ref qb, .ref qn, .long mh, .long ml, .long nc, .int rs, .int (nI na), .ref qd, .int (nI nz), .ref qg, .long t1, .long t2])), (qb, .inl (kb, 16, .inl (nF (ldN hi lo))))] H := hP
  have hD : va_D A [(qk, .inl (kk, 256, .inl (nF ub))), (qw, .inl (kw, 44, .inl w)), (qn, .inl (kn, 16, .inl (nF z))), (o, .inr (3, [.int (nI 0), .int (nI ph), .int (zI og), .ref qx, .ref qk, .ref qw, .ref qb, .ref qn, .long mh, .long ml, .long nc, .int rs, .int (nI na), .ref qd, .int (nI nz), .ref qg, .long t1, .long t2])), (qb, .inl (kb, 16, .inl (nF (ldN hi lo))))] := hD
  refine W.widen (k := 0) (n := 0) (Nat.le_of_ble_eq_true rfl) (Nat.le_of_ble_eq_true rfl) ?_
  refine w_pc (pc2 := 11) rfl ?_
  refine lv_aload_n hx hb dX3_decrypt_11 rfl (lv_at hl 0 rfl) ?_
  refine cf_0 (wr := []) (va_runV (As := []) (rest := []) ⟨hx, hb, hml, hown, hta⟩ (MO.to (m_decryptBlock l dC dI o (nI 0) ph og qx qk qw qb qn mh ml nc rs na qd nz qg t1 t2 kk kw kb kn ub w (ldN hi lo) z u256 (ldN_lt hi lo)) H.size) (cwV 0 hta (aw_V mw_560 mw_557 mw_559 mw_s27 mw_5) rfl rfl rfl ⟨rfl, dyX3_decryptBlock⟩ ⟨(Nat.le_of_ble_eq_true rfl), (Nat.le_of_ble_eq_true rfl)⟩) (pr_V hP hD hK hE [3, 0, 1, 4, 2] [0, 1, 2, 3] (by decide) rfl rfl rfl rfl) rfl rfl hl.1 rfl (lv_room (Nat.le_of_ble_eq_true rfl)) dX3_decrypt_12 ⟨(Nat.le_of_ble_eq_true rfl), (Nat.le_of_ble_eq_true rfl)⟩) hP hD hS hA [3, 0, 1, 4, 2] [] rfl rfl (by decide) (by decide) (fun H locs hP hD hS => ?_)
  have hP : va_P (dC, dI) vwCl [(o, .inr (3, [.int (nI 0), .int (nI ph), .int (zI og), .ref qx, .ref qk, .ref qw, .ref qb, .ref qn, .long mh, .long ml, .long nc, .int rs, .int (nI na), .ref qd, .int (nI nz), .ref qg, .long t1, .long t2])), (qk, .inl (kk, 256, .inl (nF ub))), (qw, .inl (kw, 44, .inl w)), (qb, .inl (kb, 16, .inl (nF (akN w 0 (drN ub w (ldN hi lo) 10))))), (qn, .inl (kn, 16, .inl (nF (drN ub w (ldN hi lo) 10))))] H := hP
  have hD : va_D A [(o, .inr (3, [.int (nI 0), .int (nI ph), .int (zI og), .ref qx, .ref qk, .ref qw, .ref qb, .ref qn, .long mh, .long ml, .long nc, .int rs, .int (nI na), .ref qd, .int (nI nz), .ref qg, .long t1, .long t2])), (qk, .inl (kk, 256, .inl (nF ub))), (qw, .inl (kw, 44, .inl w)), (qb, .inl (kb, 16, .inl (nF (akN w 0 (drN ub w (ldN hi lo) 10))))), (qn, .inl (kn, 16, .inl (nF (drN ub w (ldN hi lo) 10))))] := hD
  refine W.widen (k := 0) (n := 0) (Nat.le_of_ble_eq_true rfl) (Nat.le_of_ble_eq_true rfl) ?_
  refine w_pc (pc2 := 15) rfl ?_
  refine lv_aload_n hx hb dX3_decrypt_15 rfl (lv_at hl 0 rfl) ?_
  refine cf_0 (wr := [(qk, .inl (kk, 256, .inl (nF ub))), (qw, .inl (kw, 44, .inl w)), (qn, .inl (kn, 16, .inl (nF (drN ub w (ldN hi lo) 10))))]) (va_runV (As := []) (rest := []) ⟨hx, hb, hml, hown, hta⟩ (MO.to (m_tell l dC dI o (nI 0) ph og qx qk qw qb qn mh ml nc rs na qd nz qg t1 t2 kb (akN w 0 (drN ub w (ldN hi lo) 10)) (akN_lt (drN_lt u256 (ldN_lt hi lo) 10))) H.size) (cwV 0 hta (aw_V mw_552 mw_549 mw_551 mw_s26 mw_5) rfl rfl rfl ⟨rfl, dyX3_tell⟩ ⟨(Nat.le_of_ble_eq_true rfl), (Nat.le_of_ble_eq_true rfl)⟩) (pr_V hP hD hK hE [0, 3] [2] (by decide) rfl rfl rfl rfl) rfl rfl hl.1 rfl (lv_room (Nat.le_of_ble_eq_true rfl)) dX3_decrypt_16 ⟨(Nat.le_of_ble_eq_true rfl), (Nat.le_of_ble_eq_true rfl)⟩) hP hD hS hA [0, 3] [1, 2, 4] rfl rfl (by decide) (by decide) (fun H locs hP hD hS => ?_)
  have hP : va_P (dC, dI) vwCl [(qk, .inl (kk, 256, .inl (nF ub))), (qw, .inl (kw, 44, .inl w)), (qn, .inl (kn, 16, .inl (nF (drN ub w (ldN hi lo) 10)))), (o, .inr (3, [.int (nI 0), .int (nI ph), .int (zI og), .ref qx, .ref qk, .ref qw, .ref qb, .ref qn, .long (lN (jbN (akN w 0 (drN ub w (ldN hi lo) 10)) 0 16 8)), .long (lN (jbN (akN w 0 (drN ub w (ldN hi lo) 10)) 8 16 8)), .long nc, .int rs, .int (nI na), .ref qd, .int (nI nz), .ref qg, .long t1, .long t2])), (qb, .inl (kb, 16, .inl (nF (akN w 0 (drN ub w (ldN hi lo) 10)))))] H := hP
  have hD : va_D A [(qk, .inl (kk, 256, .inl (nF ub))), (qw, .inl (kw, 44, .inl w)), (qn, .inl (kn, 16, .inl (nF (drN ub w (ldN hi lo) 10)))), (o, .inr (3, [.int (nI 0), .int (nI ph), .int (zI og), .ref qx, .ref qk, .ref qw, .ref qb, .ref qn, .long (lN (jbN (akN w 0 (drN ub w (ldN hi lo) 10)) 0 16 8)), .long (lN (jbN (akN w 0 (drN ub w (ldN hi lo) 10)) 8 16 8)), .long nc, .int rs, .int (nI na), .ref qd, .int (nI nz), .ref qg, .long t1, .long t2])), (qb, .inl (kb, 16, .inl (nF (akN w 0 (drN ub w (ldN hi lo) 10)))))] := hD
  refine W.widen (k := 0) (n := 0) (Nat.le_of_ble_eq_true rfl) (Nat.le_of_ble_eq_true rfl) ?_
  refine w_pc (pc2 := 19) rfl ?_
  refine lv_iload hx hb dX3_decrypt_19 (lv_at hl 3 rfl) ?_
  refine lv_if_eq (tgt := 31) hx hb dX3_decrypt_21 (by decide) (fun hc_21 => ?_) (fun hc_21 => ?_)
  · skip
    refine lv_aload_n hx hb dX3_decrypt_31 rfl (lv_at hl 0 rfl) ?_
    refine va_get (D := (dC, dI)) (ci := 3) (v := .long (lN (jbN (akN w 0 (drN ub w (ldN hi lo) 10)) 0 16 8))) (C := RX3) (T := TX3) (N := 18) hx hb hta inX3 hown hK hP 3 rfl rfl 8 (by decide) (hta _ mw_465) (fun _ h9 => h9) rfl dX3_decrypt_32 ?_
    exact rt_l hx hb hr hlk hQ hAe hP hD hS [3, 0, 1, 4, 2] (by decide) rfl (Nat.le_of_ble_eq_true rfl) (Nat.le_of_ble_eq_true rfl) (by first | (rw [zI0 (b := ot) (by assumption)]; rfl) | (rw [zI1 (b := ot) (by assumption)]; rfl)) dX3_decrypt_35
  · skip
    refine lv_aload_n hx hb dX3_decrypt_24 rfl (lv_at hl 0 rfl) ?_
    refine va_get (D := (dC, dI)) (ci := 3) (v := .long (lN (jbN (akN w 0 (drN ub w (ldN hi lo) 10)) 8 16 8))) (C := RX3) (T := TX3) (N := 18) hx hb hta inX3 hown hK hP 3 rfl rfl 9 (by decide) (hta _ mw_466) (fun _ h9 => h9) rfl dX3_decrypt_25 ?_
    refine lv_goto (tgt := 35) hx hb dX3_decrypt_28 (by decide) ?_
    exact rt_l hx hb hr hlk hQ hAe hP hD hS [3, 0, 1, 4, 2] (by decide) rfl (Nat.le_of_ble_eq_true rfl) (Nat.le_of_ble_eq_true rfl) (by first | (rw [zI0 (b := ot) (by assumption)]; rfl) | (rw [zI1 (b := ot) (by assumption)]; rfl)) dX3_decrypt_35

def rm_m_product : Room := { frames := 1, cells := 0, slots := 0, locals := 36 }
set_option maxHeartbeats 4000000 in
set_option maxRecDepth 100000 in
/-- product -/
theorem m_product (l : Launch) (dC : Nat → ClassId) (dI : Nat → Nat → Nat) (o : Nat) (th : Int32) (ph : Nat) (og : Bool) (qx : Nat) (qk : Nat) (qw : Nat) (qb : Nat) (qn : Nat) (mh : Int64) (ml : Int64) (nc : Int64) (rs : Int32) (na : Nat) (qd : Nat) (nz : Nat) (qg : Nat) (t1 : Int64) (t2 : Int64) (hi : Int64) (lo : Int64) (oh : Int64) (ol : Int64) (ot : Bool) : MO l dC dI yX3_product wsX3_product rm_m_product [.ref o, .long hi, .long lo, .long oh, .long ol, .int (zI ot)] [(o, .inr (3, [.int th, .int (nI ph), .int (zI og), .ref qx, .ref qk, .ref qw, .ref qb, .ref qn, .long mh, .long ml, .long nc, .int rs, .int (nI na), .ref qd, .int (nI nz), .ref qg, .long t1, .long t2]))] [] [(o, .inr (3, [.int (nI 0), .int (nI ph), .int (zI og), .ref qx, .ref qk, .ref qw, .ref qb, .ref qn, .long ((gst hi lo oh ol 128).1), .long ((gst hi lo oh ol 128).2.1), .long nc, .int rs, .int (nI na), .ref qd, .int (nI nz), .ref qg, .long t1, .long t2]))] (some (.long (if ot then (gst hi lo oh ol 128).2.1 else (gst hi lo oh ol 128).1))) := by
  refine mo_ofW (cc := cX3_product) (maxL := 10) (ret := (some .long)) (by decide) rfl (Nat.le_of_ble_eq_true rfl) ?_
  intro p e s m args below meth c Q A H locs ls hx hb hr hlk hml hta hown hin hE hQ hAe hA hK hP hD hS hl
  have hown : s.vm.findClass RX3 = some m.cls := hown
  have hl : lv_has ls 10 [(0, .ref o), (1, .long hi), (3, .long lo), (5, .long oh), (7, .long ol), (9, .int (zI ot))] := hl
  refine lv_aload_n hx hb dX3_product_0 rfl (lv_at hl 0 rfl) ?_
  refine lv_iconst (v := nI 0) hx hb dX3_product_1 (by decide) ?_
  refine va_put (D := (dC, dI)) (ci := 3) (v := .int (nI 0)) (ty := .int) (C := RX3) (T := TX3) (N := 18) hx hb hta inX3 tyX3 tyX3_ok nmX3 hown hK hP hD hS 0 rfl rfl 0 (by decide) (hta _ mw_457) (fun _ h9 => h9) rfl (by decide +kernel) rfl rfl (Nat.le_of_ble_eq_true rfl) dX3_product_2 (fun H locs hP hD hS => ?_)
  have hP : va_P (dC, dI) vwCl [(o, .inr (3, [.int (nI 0), .int (nI ph), .int (zI og), .ref qx, .ref qk, .ref qw, .ref qb, .ref qn, .long mh, .long ml, .long nc, .int rs, .int (nI na), .ref qd, .int (nI nz), .ref qg, .long t1, .long t2]))] H := hP
  have hD : va_D A [(o, .inr (3, [.int (nI 0), .int (nI ph), .int (zI og), .ref qx, .ref qk, .ref qw, .ref qb, .ref qn, .long mh, .long ml, .long nc, .int rs, .int (nI na), .ref qd, .int (nI nz), .ref qg, .long t1, .long t2]))] := hD
  refine lv_aload_n hx hb dX3_product_5 rfl (lv_at hl 0 rfl) ?_
  refine lv_lload_n hx hb dX3_product_6 rfl (lv_at hl 1 rfl) ?_
  refine va_put (D := (dC, dI)) (ci := 3) (v := .long hi) (ty := .long) (C := RX3) (T := TX3) (N := 18) hx hb hta inX3 tyX3 tyX3_ok nmX3 hown hK hP hD hS 0 rfl rfl 8 (by decide) (hta _ mw_465) (fun _ h9 => h9) rfl (by decide +kernel) rfl rfl (Nat.le_of_ble_eq_true rfl) dX3_product_7 (fun H locs hP hD hS => ?_)
  have hP : va_P (dC, dI) vwCl [(o, .inr (3, [.int (nI 0), .int (nI ph), .int (zI og), .ref qx, .ref qk, .ref qw, .ref qb, .ref qn, .long hi, .long ml, .long nc, .int rs, .int (nI na), .ref qd, .int (nI nz), .ref qg, .long t1, .long t2]))] H := hP
  have hD : va_D A [(o, .inr (3, [.int (nI 0), .int (nI ph), .int (zI og), .ref qx, .ref qk, .ref qw, .ref qb, .ref qn, .long hi, .long ml, .long nc, .int rs, .int (nI na), .ref qd, .int (nI nz), .ref qg, .long t1, .long t2]))] := hD
  refine lv_aload_n hx hb dX3_product_10 rfl (lv_at hl 0 rfl) ?_
  refine lv_lload_n hx hb dX3_product_11 rfl (lv_at hl 2 rfl) ?_
  refine va_put (D := (dC, dI)) (ci := 3) (v := .long lo) (ty := .long) (C := RX3) (T := TX3) (N := 18) hx hb hta inX3 tyX3 tyX3_ok nmX3 hown hK hP hD hS 0 rfl rfl 9 (by decide) (hta _ mw_466) (fun _ h9 => h9) rfl (by decide +kernel) rfl rfl (Nat.le_of_ble_eq_true rfl) dX3_product_12 (fun H locs hP hD hS => ?_)
  have hP : va_P (dC, dI) vwCl [(o, .inr (3, [.int (nI 0), .int (nI ph), .int (zI og), .ref qx, .ref qk, .ref qw, .ref qb, .ref qn, .long hi, .long lo, .long nc, .int rs, .int (nI na), .ref qd, .int (nI nz), .ref qg, .long t1, .long t2]))] H := hP
  have hD : va_D A [(o, .inr (3, [.int (nI 0), .int (nI ph), .int (zI og), .ref qx, .ref qk, .ref qw, .ref qb, .ref qn, .long hi, .long lo, .long nc, .int rs, .int (nI na), .ref qd, .int (nI nz), .ref qg, .long t1, .long t2]))] := hD
  refine lv_aload_n hx hb dX3_product_15 rfl (lv_at hl 0 rfl) ?_
  refine lv_lload hx hb dX3_product_16 (lv_at hl 3 rfl) ?_
  refine w_pc (pc2 := 18) rfl ?_
  refine lv_lload hx hb dX3_product_18 (lv_at hl 4 rfl) ?_
  refine cf_0 (wr := []) (va_runV (As := [.long oh, .long ol]) (rest := []) ⟨hx, hb, hml, hown, hta⟩ (MO.to (m_multiply l dC dI o (nI 0) ph og qx qk qw qb qn hi lo nc rs na qd nz qg t1 t2 oh ol) H.size) (cwV 2 hta (aw_V mw_568 mw_565 mw_567 mw_s28 mw_5) rfl rfl rfl ⟨rfl, dyX3_multiply⟩ ⟨(Nat.le_of_ble_eq_true rfl), (Nat.le_of_ble_eq_true rfl)⟩) (pr_V hP hD hK hE [0] [] (by decide) rfl rfl rfl rfl) rfl rfl hl.1 rfl (lv_room (Nat.le_of_ble_eq_true rfl)) dX3_product_20 ⟨(Nat.le_of_ble_eq_true rfl), (Nat.le_of_ble_eq_true rfl)⟩) hP hD hS hA [0] [] rfl rfl (by decide) (by decide) (fun H locs hP hD hS => ?_)
  have hP : va_P (dC, dI) vwCl [(o, .inr (3, [.int (nI 0), .int (nI ph), .int (zI og), .ref qx, .ref qk, .ref qw, .ref qb, .ref qn, .long ((gst hi lo oh ol 128).1), .long ((gst hi lo oh ol 128).2.1), .long nc, .int rs, .int (nI na), .ref qd, .int (nI nz), .ref qg, .long t1, .long t2]))] H := hP
  have hD : va_D A [(o, .inr (3, [.int (nI 0), .int (nI ph), .int (zI og), .ref qx, .ref qk, .ref qw, .ref qb, .ref qn, .long ((gst hi lo oh ol 128).1), .long ((gst hi lo oh ol 128).2.1), .long nc, .int rs, .int (nI na), .ref qd, .int (nI nz), .ref qg, .long t1, .long t2]))] := hD
  refine W.widen (k := 0) (n := 0) (Nat.le_of_ble_eq_true rfl) (Nat.le_of_ble_eq_true rfl) ?_
  refine w_pc (pc2 := 23) rfl ?_
  refine lv_iload hx hb dX3_product_23 (lv_at hl 5 rfl) ?_
  refine lv_if_eq (tgt := 35) hx hb dX3_product_25 (by decide) (fun hc_25 => ?_) (fun hc_25 => ?_)
  · skip
    refine lv_aload_n hx hb dX3_product_35 rfl (lv_at hl 0 rfl) ?_
    refine va_get (D := (dC, dI)) (ci := 3) (v := .long ((gst hi lo oh ol 128).1)) (C := RX3) (T := TX3) (N := 18) hx hb hta inX3 hown hK hP 0 rfl rfl 8 (by decide) (hta _ mw_465) (fun _ h9 => h9) rfl dX3_product_36 ?_
    exact rt_l hx hb hr hlk hQ hAe hP hD hS [0] (by decide) rfl (Nat.le_of_ble_eq_true rfl) (Nat.le_of_ble_eq_true rfl) (by first | (rw [zI0 (b := ot) (by assumption)]; rfl) | (rw [zI1 (b := ot) (by assumption)]; rfl)) dX3_product_39
  · skip
    refine lv_aload_n hx hb dX3_product_28 rfl (lv_at hl 0 rfl) ?_
    refine va_get (D := (dC, dI)) (ci := 3) (v := .long ((gst hi lo oh ol 128).2.1)) (C := RX3) (T := TX3) (N := 18) hx hb hta inX3 hown hK hP 0 rfl rfl 9 (by decide) (hta _ mw_466) (fun _ h9 => h9) rfl dX3_product_29 ?_
    refine lv_goto (tgt := 39) hx hb dX3_product_32 (by decide) ?_
    exact rt_l hx hb hr hlk hQ hAe hP hD hS [0] (by decide) rfl (Nat.le_of_ble_eq_true rfl) (Nat.le_of_ble_eq_true rfl) (by first | (rw [zI0 (b := ot) (by assumption)]; rfl) | (rw [zI1 (b := ot) (by assumption)]; rfl)) dX3_product_39

def rm_m_start : Room := { frames := 0, cells := 0, slots := 0, locals := 0 }
set_option maxHeartbeats 4000000 in
set_option maxRecDepth 100000 in
/-- start -/
theorem m_start (l : Launch) (dC : Nat → ClassId) (dI : Nat → Nat → Nat) (o : Nat) (th : Int32) (ph : Nat) (og : Bool) (qx : Nat) (qk : Nat) (qw : Nat) (qb : Nat) (qn : Nat) (mh : Int64) (ml : Int64) (nc : Int64) (rs : Int32) (na : Nat) (qd : Nat) (nz : Nat) (qg : Nat) (t1 : Int64) (t2 : Int64) (o2 : Bool) (hi : Int64) (x : Int32) : MO l dC dI yX3_start wsX3_start rm_m_start [.ref o, .int (zI o2), .long hi, .int x] [(o, .inr (3, [.int th, .int (nI ph), .int (zI og), .ref qx, .ref qk, .ref qw, .ref qb, .ref qn, .long mh, .long ml, .long nc, .int rs, .int (nI na), .ref qd, .int (nI nz), .ref qg, .long t1, .long t2]))] [] [(o, .inr (3, [.int (nI 0), .int (nI 1), .int (zI o2), .ref qx, .ref qk, .ref qw, .ref qb, .ref qn, .long mh, .long ml, .long hi, .int x, .int (nI 0), .ref qd, .int (nI 0), .ref qg, .long t1, .long t2]))] none := by
  refine mo_ofW (cc := cX3_start) (maxL := 5) (ret := none) (by decide) rfl (Nat.le_of_ble_eq_true rfl) ?_
  intro p e s m args below meth c Q A H locs ls hx hb hr hlk hml hta hown hin hE hQ hAe hA hK hP hD hS hl
  have hown : s.vm.findClass RX3 = some m.cls := hown
  have hl : lv_has ls 5 [(0, .ref o), (1, .int (zI o2)), (2, .long hi), (4, .int x)] := hl
  refine lv_aload_n hx hb dX3_start_0 rfl (lv_at hl 0 rfl) ?_
  refine lv_iconst (v := nI 0) hx hb dX3_start_1 (by decide) ?_
  refine va_put (D := (dC, dI)) (ci := 3) (v := .int (nI 0)) (ty := .int) (C := RX3) (T := TX3) (N := 18) hx hb hta inX3 tyX3 tyX3_ok nmX3 hown hK hP hD hS 0 rfl rfl 0 (by decide) (hta _ mw_457) (fun _ h9 => h9) rfl (by decide +kernel) rfl rfl (Nat.le_of_ble_eq_true rfl) dX3_start_2 (fun H locs hP hD hS => ?_)
  have hP : va_P (dC, dI) vwCl [(o, .inr (3, [.int (nI 0), .int (nI ph), .int (zI og), .ref qx, .ref qk, .ref qw, .ref qb, .ref qn, .long mh, .long ml, .long nc, .int rs, .int (nI na), .ref qd, .int (nI nz), .ref qg, .long t1, .long t2]))] H := hP
  have hD : va_D A [(o, .inr (3, [.int (nI 0), .int (nI ph), .int (zI og), .ref qx, .ref qk, .ref qw, .ref qb, .ref qn, .long mh, .long ml, .long nc, .int rs, .int (nI na), .ref qd, .int (nI nz), .ref qg, .long t1, .long t2]))] := hD
  refine lv_aload_n hx hb dX3_start_5 rfl (lv_at hl 0 rfl) ?_
  refine lv_iload_n hx hb dX3_start_6 rfl (lv_at hl 1 rfl) ?_
  refine va_put (D := (dC, dI)) (ci := 3) (v := .int (zI o2)) (ty := .boolean) (C := RX3) (T := TX3) (N := 18) hx hb hta inX3 tyX3 tyX3_ok nmX3 hown hK hP hD hS 0 rfl rfl 2 (by decide) (hta _ mw_459) (fun _ h9 => h9) rfl (by decide +kernel) (zI_n o2) (zI_f o2) (Nat.le_of_ble_eq_true rfl) dX3_start_7 (fun H locs hP hD hS => ?_)
  have hP : va_P (dC, dI) vwCl [(o, .inr (3, [.int (nI 0), .int (nI ph), .int (zI o2), .ref qx, .ref qk, .ref qw, .ref qb, .ref qn, .long mh, .long ml, .long nc, .int rs, .int (nI na), .ref qd, .int (nI nz), .ref qg, .long t1, .long t2]))] H := hP
  have hD : va_D A [(o, .inr (3, [.int (nI 0), .int (nI ph), .int (zI o2), .ref qx, .ref qk, .ref qw, .ref qb, .ref qn, .long mh, .long ml, .long nc, .int rs, .int (nI na), .ref qd, .int (nI nz), .ref qg, .long t1, .long t2]))] := hD
  refine lv_aload_n hx hb dX3_start_10 rfl (lv_at hl 0 rfl) ?_
  refine lv_lload_n hx hb dX3_start_11 rfl (lv_at hl 2 rfl) ?_
  refine va_put (D := (dC, dI)) (ci := 3) (v := .long hi) (ty := .long) (C := RX3) (T := TX3) (N := 18) hx hb hta inX3 tyX3 tyX3_ok nmX3 hown hK hP hD hS 0 rfl rfl 10 (by decide) (hta _ mw_467) (fun _ h9 => h9) rfl (by decide +kernel) rfl rfl (Nat.le_of_ble_eq_true rfl) dX3_start_12 (fun H locs hP hD hS => ?_)
  have hP : va_P (dC, dI) vwCl [(o, .inr (3, [.int (nI 0), .int (nI ph), .int (zI o2), .ref qx, .ref qk, .ref qw, .ref qb, .ref qn, .long mh, .long ml, .long hi, .int rs, .int (nI na), .ref qd, .int (nI nz), .ref qg, .long t1, .long t2]))] H := hP
  have hD : va_D A [(o, .inr (3, [.int (nI 0), .int (nI ph), .int (zI o2), .ref qx, .ref qk, .ref qw, .ref qb, .ref qn, .long mh, .long ml, .long hi, .int rs, .int (nI na), .ref qd, .int (nI nz), .ref qg, .long t1, .long t2]))] := hD
  refine lv_aload_n hx hb dX3_start_15 rfl (lv_at hl 0 rfl) ?_
  refine lv_iload hx hb dX3_start_16 (lv_at hl 3 rfl) ?_
  refine w_pc (pc2 := 18) rfl ?_
  refine va_put (D := (dC, dI)) (ci := 3) (v := .int x) (ty := .int) (C := RX3) (T := TX3) (N := 18) hx hb hta inX3 tyX3 tyX3_ok nmX3 hown hK hP hD hS 0 rfl rfl 11 (by decide) (hta _ mw_468) (fun _ h9 => h9) rfl (by decide +kernel) rfl rfl (Nat.le_of_ble_eq_true rfl) dX3_start_18 (fun H locs hP hD hS => ?_)
  have hP : va_P (dC, dI) vwCl [(o, .inr (3, [.int (nI 0), .int (nI ph), .int (zI o2), .ref qx, .ref qk, .ref qw, .ref qb, .ref qn, .long mh, .long ml, .long hi, .int x, .int (nI na), .ref qd, .int (nI nz), .ref qg, .long t1, .long t2]))] H := hP
  have hD : va_D A [(o, .inr (3, [.int (nI 0), .int (nI ph), .int (zI o2), .ref qx, .ref qk, .ref qw, .ref qb, .ref qn, .long mh, .long ml, .long hi, .int x, .int (nI na), .ref qd, .int (nI nz), .ref qg, .long t1, .long t2]))] := hD
  refine lv_aload_n hx hb dX3_start_21 rfl (lv_at hl 0 rfl) ?_
  refine lv_iconst (v := nI 0) hx hb dX3_start_22 (by decide) ?_
  refine va_put (D := (dC, dI)) (ci := 3) (v := .int (nI 0)) (ty := .int) (C := RX3) (T := TX3) (N := 18) hx hb hta inX3 tyX3 tyX3_ok nmX3 hown hK hP hD hS 0 rfl rfl 12 (by decide) (hta _ mw_469) (fun _ h9 => h9) rfl (by decide +kernel) rfl rfl (Nat.le_of_ble_eq_true rfl) dX3_start_23 (fun H locs hP hD hS => ?_)
  have hP : va_P (dC, dI) vwCl [(o, .inr (3, [.int (nI 0), .int (nI ph), .int (zI o2), .ref qx, .ref qk, .ref qw, .ref qb, .ref qn, .long mh, .long ml, .long hi, .int x, .int (nI 0), .ref qd, .int (nI nz), .ref qg, .long t1, .long t2]))] H := hP
  have hD : va_D A [(o, .inr (3, [.int (nI 0), .int (nI ph), .int (zI o2), .ref qx, .ref qk, .ref qw, .ref qb, .ref qn, .long mh, .long ml, .long hi, .int x, .int (nI 0), .ref qd, .int (nI nz), .ref qg, .long t1, .long t2]))] := hD
  refine lv_aload_n hx hb dX3_start_26 rfl (lv_at hl 0 rfl) ?_
  refine lv_iconst (v := nI 0) hx hb dX3_start_27 (by decide) ?_
  refine va_put (D := (dC, dI)) (ci := 3) (v := .int (nI 0)) (ty := .int) (C := RX3) (T := TX3) (N := 18) hx hb hta inX3 tyX3 tyX3_ok nmX3 hown hK hP hD hS 0 rfl rfl 14 (by decide) (hta _ mw_471) (fun _ h9 => h9) rfl (by decide +kernel) rfl rfl (Nat.le_of_ble_eq_true rfl) dX3_start_28 (fun H locs hP hD hS => ?_)
  have hP : va_P (dC, dI) vwCl [(o, .inr (3, [.int (nI 0), .int (nI ph), .int (zI o2), .ref qx, .ref qk, .ref qw, .ref qb, .ref qn, .long mh, .long ml, .long hi, .int x, .int (nI 0), .ref qd, .int (nI 0), .ref qg, .long t1, .long t2]))] H := hP
  have hD : va_D A [(o, .inr (3, [.int (nI 0), .int (nI ph), .int (zI o2), .ref qx, .ref qk, .ref qw, .ref qb, .ref qn, .long mh, .long ml, .long hi, .int x, .int (nI 0), .ref qd, .int (nI 0), .ref qg, .long t1, .long t2]))] := hD
  refine lv_aload_n hx hb dX3_start_31 rfl (lv_at hl 0 rfl) ?_
  refine lv_iconst (v := nI 1) hx hb dX3_start_32 (by decide) ?_
  refine va_put (D := (dC, dI)) (ci := 3) (v := .int (nI 1)) (ty := .int) (C := RX3) (T := TX3) (N := 18) hx hb hta inX3 tyX3 tyX3_ok nmX3 hown hK hP hD hS 0 rfl rfl 1 (by decide) (hta _ mw_458) (fun _ h9 => h9) rfl (by decide +kernel) rfl rfl (Nat.le_of_ble_eq_true rfl) dX3_start_33 (fun H locs hP hD hS => ?_)
  have hP : va_P (dC, dI) vwCl [(o, .inr (3, [.int (nI 0), .int (nI 1), .int (zI o2), .ref qx, .ref qk, .ref qw, .ref qb, .ref qn, .long mh, .long ml, .long hi, .int x, .int (nI 0), .ref qd, .int (nI 0), .ref qg, .long t1, .long t2]))] H := hP
  have hD : va_D A [(o, .inr (3, [.int (nI 0), .int (nI 1), .int (zI o2), .ref qx, .ref qk, .ref qw, .ref qb, .ref qn, .long mh, .long ml, .long hi, .int x, .int (nI 0), .ref qd, .int (nI 0), .ref qg, .long t1, .long t2]))] := hD
  exact rt_0 hx hb hr hlk hQ hAe hP hD hS [0] (by decide) rfl (Nat.le_of_ble_eq_true rfl) (Nat.le_of_ble_eq_true rfl) dX3_start_36

def rm_m_thrown : Room := { frames := 0, cells := 0, slots := 0, locals := 0 }
set_option maxHeartbeats 4000000 in
set_option maxRecDepth 100000 in
theorem m_thrown (l : Launch) (dC : Nat → ClassId) (dI : Nat → Nat → Nat) (o : Nat) (th : Int32) (ph : Nat) (og : Bool) (qx : Nat) (qk : Nat) (qw : Nat) (qb : Nat) (qn : Nat) (mh : Int64) (ml : Int64) (nc : Int64) (rs : Int32) (na : Nat) (qd : Nat) (nz : Nat) (qg : Nat) (t1 : Int64) (t2 : Int64) : MO l dC dI yX3_thrown wsX3_thrown rm_m_thrown [.ref o] [(o, .inr (3, [.int th, .int (nI ph), .int (zI og), .ref qx, .ref qk, .ref qw, .ref qb, .ref qn, .long mh, .long ml, .long nc, .int rs, .int (nI na), .ref qd, .int (nI nz), .ref qg, .long t1, .long t2]))] [] [(o, .inr (3, [.int th, .int (nI ph), .int (zI og), .ref qx, .ref qk, .ref qw, .ref qb, .ref qn, .long mh, .long ml, .long nc, .int rs, .int (nI na), .ref qd, .int (nI nz), .ref qg, .long t1, .long t2]))] (some (.int th)) := by
  refine mo_ofW (cc := cX3_thrown) (maxL := 1) (ret := (some .int)) (by decide) rfl (Nat.le_of_ble_eq_true rfl) ?_
  intro p e s m args below meth c Q A H locs ls hx hb hr hlk hml hta hown hin hE hQ hAe hA hK hP hD hS hl
  have hown : s.vm.findClass RX3 = some m.cls := hown
  have hl : lv_has ls 1 [(0, .ref o)] := hl
  refine lv_aload_n hx hb dX3_thrown_0 rfl (lv_at hl 0 rfl) ?_
  refine va_get (D := (dC, dI)) (ci := 3) (v := .int th) (C := RX3) (T := TX3) (N := 18) hx hb hta inX3 hown hK hP 0 rfl rfl 0 (by decide) (hta _ mw_457) (fun _ h9 => h9) rfl dX3_thrown_1 ?_
  exact rt_i hx hb hr hlk hQ hAe hP hD hS [0] (by decide) rfl (Nat.le_of_ble_eq_true rfl) (Nat.le_of_ble_eq_true rfl) (rfl) dX3_thrown_4

def rm_m_length : Room := { frames := 0, cells := 0, slots := 0, locals := 0 }
set_option maxHeartbeats 4000000 in
set_option maxRecDepth 100000 in
theorem m_length (l : Launch) (dC : Nat → ClassId) (dI : Nat → Nat → Nat) (o : Nat) (th : Int32) (ph : Nat) (og : Bool) (qx : Nat) (qk : Nat) (qw : Nat) (qb : Nat) (qn : Nat) (mh : Int64) (ml : Int64) (nc : Int64) (rs : Int32) (na : Nat) (qd : Nat) (nz : Nat) (qg : Nat) (t1 : Int64) (t2 : Int64) : MO l dC dI yX3_length wsX3_length rm_m_length [.ref o] [(o, .inr (3, [.int th, .int (nI ph), .int (zI og), .ref qx, .ref qk, .ref qw, .ref qb, .ref qn, .long mh, .long ml, .long nc, .int rs, .int (nI na), .ref qd, .int (nI nz), .ref qg, .long t1, .long t2]))] [] [(o, .inr (3, [.int (nI 0), .int (nI ph), .int (zI og), .ref qx, .ref qk, .ref qw, .ref qb, .ref qn, .long mh, .long ml, .long nc, .int rs, .int (nI na), .ref qd, .int (nI nz), .ref qg, .long t1, .long t2]))] (some (.int (nI nz))) := by
  refine mo_ofW (cc := cX3_length) (maxL := 1) (ret := (some .int)) (by decide) rfl (Nat.le_of_ble_eq_true rfl) ?_
  intro p e s m args below meth c Q A H locs ls hx hb hr hlk hml hta hown hin hE hQ hAe hA hK hP hD hS hl
  have hown : s.vm.findClass RX3 = some m.cls := hown
  have hl : lv_has ls 1 [(0, .ref o)] := hl
  refine lv_aload_n hx hb dX3_length_0 rfl (lv_at hl 0 rfl) ?_
  refine lv_iconst (v := nI 0) hx hb dX3_length_1 (by decide) ?_
  refine va_put (D := (dC, dI)) (ci := 3) (v := .int (nI 0)) (ty := .int) (C := RX3) (T := TX3) (N := 18) hx hb hta inX3 tyX3 tyX3_ok nmX3 hown hK hP hD hS 0 rfl rfl 0 (by decide) (hta _ mw_457) (fun _ h9 => h9) rfl (by decide +kernel) rfl rfl (Nat.le_of_ble_eq_true rfl) dX3_length_2 (fun H locs hP hD hS => ?_)
  have hP : va_P (dC, dI) vwCl [(o, .inr (3, [.int (nI 0), .int (nI ph), .int (zI og), .ref qx, .ref qk, .ref qw, .ref qb, .ref qn, .long mh, .long ml, .long nc, .int rs, .int (nI na), .ref qd, .int (nI nz), .ref qg, .long t1, .long t2]))] H := hP
  have hD : va_D A [(o, .inr (3, [.int (nI 0), .int (nI ph), .int (zI og), .ref qx, .ref qk, .ref qw, .ref qb, .ref qn, .long mh, .long ml, .long nc, .int rs, .int (nI na), .ref qd, .int (nI nz), .ref qg, .long t1, .long t2]))] := hD
  refine lv_aload_n hx hb dX3_length_5 rfl (lv_at hl 0 rfl) ?_
  refine va_get (D := (dC, dI)) (ci := 3) (v := .int (nI nz)) (C := RX3) (T := TX3) (N := 18) hx hb hta inX3 hown hK hP 0 rfl rfl 14 (by decide) (hta _ mw_471) (fun _ h9 => h9) rfl dX3_length_6 ?_
  exact rt_i hx hb hr hlk hQ hAe hP hD hS [0] (by decide) rfl (Nat.le_of_ble_eq_true rfl) (Nat.le_of_ble_eq_true rfl) (rfl) dX3_length_9

def rm_m_phase : Room := { frames := 0, cells := 0, slots := 0, locals := 0 }
set_option maxHeartbeats 4000000 in
set_option maxRecDepth 100000 in
theorem m_phase (l : Launch) (dC : Nat → ClassId) (dI : Nat → Nat → Nat) (o : Nat) (th : Int32) (ph : Nat) (og : Bool) (qx : Nat) (qk : Nat) (qw : Nat) (qb : Nat) (qn : Nat) (mh : Int64) (ml : Int64) (nc : Int64) (rs : Int32) (na : Nat) (qd : Nat) (nz : Nat) (qg : Nat) (t1 : Int64) (t2 : Int64) : MO l dC dI yX3_phase wsX3_phase rm_m_phase [.ref o] [(o, .inr (3, [.int th, .int (nI ph), .int (zI og), .ref qx, .ref qk, .ref qw, .ref qb, .ref qn, .long mh, .long ml, .long nc, .int rs, .int (nI na), .ref qd, .int (nI nz), .ref qg, .long t1, .long t2]))] [] [(o, .inr (3, [.int (nI 0), .int (nI ph), .int (zI og), .ref qx, .ref qk, .ref qw, .ref qb, .ref qn, .long mh, .long ml, .long nc, .int rs, .int (nI na), .ref qd, .int (nI nz), .ref qg, .long t1, .long t2]))] (some (.int (nI ph))) := by
  refine mo_ofW (cc := cX3_phase) (maxL := 1) (ret := (some .int)) (by decide) rfl (Nat.le_of_ble_eq_true rfl) ?_
  intro p e s m args below meth c Q A H locs ls hx hb hr hlk hml hta hown hin hE hQ hAe hA hK hP hD hS hl
  have hown : s.vm.findClass RX3 = some m.cls := hown
  have hl : lv_has ls 1 [(0, .ref o)] := hl
  refine lv_aload_n hx hb dX3_phase_0 rfl (lv_at hl 0 rfl) ?_
  refine lv_iconst (v := nI 0) hx hb dX3_phase_1 (by decide) ?_
  refine va_put (D := (dC, dI)) (ci := 3) (v := .int (nI 0)) (ty := .int) (C := RX3) (T := TX3) (N := 18) hx hb hta inX3 tyX3 tyX3_ok nmX3 hown hK hP hD hS 0 rfl rfl 0 (by decide) (hta _ mw_457) (fun _ h9 => h9) rfl (by decide +kernel) rfl rfl (Nat.le_of_ble_eq_true rfl) dX3_phase_2 (fun H locs hP hD hS => ?_)
  have hP : va_P (dC, dI) vwCl [(o, .inr (3, [.int (nI 0), .int (nI ph), .int (zI og), .ref qx, .ref qk, .ref qw, .ref qb, .ref qn, .long mh, .long ml, .long nc, .int rs, .int (nI na), .ref qd, .int (nI nz), .ref qg, .long t1, .long t2]))] H := hP
  have hD : va_D A [(o, .inr (3, [.int (nI 0), .int (nI ph), .int (zI og), .ref qx, .ref qk, .ref qw, .ref qb, .ref qn, .long mh, .long ml, .long nc, .int rs, .int (nI na), .ref qd, .int (nI nz), .ref qg, .long t1, .long t2]))] := hD
  refine lv_aload_n hx hb dX3_phase_5 rfl (lv_at hl 0 rfl) ?_
  refine va_get (D := (dC, dI)) (ci := 3) (v := .int (nI ph)) (C := RX3) (T := TX3) (N := 18) hx hb hta inX3 hown hK hP 0 rfl rfl 1 (by decide) (hta _ mw_458) (fun _ h9 => h9) rfl dX3_phase_6 ?_
  exact rt_i hx hb hr hlk hQ hAe hP hD hS [0] (by decide) rfl (Nat.le_of_ble_eq_true rfl) (Nat.le_of_ble_eq_true rfl) (rfl) dX3_phase_9

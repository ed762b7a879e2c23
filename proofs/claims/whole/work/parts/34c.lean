def rm_m_tag_y : Room := { frames := 1, cells := 0, slots := 0, locals := 23 }
set_option maxHeartbeats 4000000 in
set_option maxRecDepth 100000 in
/-- tag -/
theorem m_tag_y (l : Launch) (dC : Nat → ClassId) (dI : Nat → Nat → Nat) (o : Nat) (th : Int32) (ph : Nat) (og : Bool) (qx : Nat) (qk : Nat) (qw : Nat) (qb : Nat) (qn : Nat) (mh : Int64) (ml : Int64) (nc : Int64) (rs : Int32) (na : Nat) (qd : Nat) (nz : Nat) (qg : Nat) (t1 : Int64) (t2 : Int64) (ot : Bool) (hph : ph = 3) : MO l dC dI yX3_tag wsX3_tag rm_m_tag_y [.ref o, .int (zI ot)] [(o, .inr (3, [.int th, .int (nI ph), .int (zI og), .ref qx, .ref qk, .ref qw, .ref qb, .ref qn, .long mh, .long ml, .long nc, .int rs, .int (nI na), .ref qd, .int (nI nz), .ref qg, .long t1, .long t2]))] [] [(o, .inr (3, [.int (nI 0), .int (nI ph), .int (zI og), .ref qx, .ref qk, .ref qw, .ref qb, .ref qn, .long mh, .long ml, .long nc, .int rs, .int (nI na), .ref qd, .int (nI nz), .ref qg, .long t1, .long t2]))] (some (.long (if ot then t2 else t1))) := by
  refine mo_ofW (cc := cX3_tag) (maxL := 2) (ret := (some .long)) (by decide) rfl (Nat.le_of_ble_eq_true rfl) ?_
  intro p e s m args below meth c Q A H locs ls hx hb hr hlk hml hta hown hin hE hQ hAe hA hK hP hD hS hl
  have hown : s.vm.findClass RX3 = some m.cls := hown
  have hl : lv_has ls 2 [(0, .ref o), (1, .int (zI ot))] := hl
  refine lv_aload_n hx hb dX3_tag_0 rfl (lv_at hl 0 rfl) ?_
  refine lv_aload_n hx hb dX3_tag_1 rfl (lv_at hl 0 rfl) ?_
  refine va_get (D := (dC, dI)) (ci := 3) (v := .int (nI ph)) (C := RX3) (T := TX3) (N := 18) hx hb hta inX3 hown hK hP 0 rfl rfl 1 (by decide) (hta _ mw_458) (fun _ h9 => h9) rfl dX3_tag_2 ?_
  refine lv_iconst (v := nI 3) hx hb dX3_tag_5 (by decide) ?_
  refine lv_icmp_eq (tgt := 13) hx hb dX3_tag_6 (by decide) (fun hc_6 => ?_) (fun hc_6 => ?_)
  · skip
    have hc_6 := (ix_eq (a := ph) (b := 3) (by omega) (by omega)).mp hc_6
    have hc_6 : (ph = 3) := hc_6
    refine lv_iconst (v := nI 0) hx hb dX3_tag_13 (by decide) ?_
    refine lv_iconst (v := nI 0) hx hb dX3_tag_14 (by decide) ?_
    refine lv_iconst (v := nI 0) hx hb dX3_tag_15 (by decide) ?_
    refine cf_1 (wr := []) (va_runV (As := [.int (nI 0), .int (nI 0), .int (nI 0)]) (rest := []) ⟨hx, hb, hml, hown, hta⟩ (MO.to (m_refuses l dC dI o th ph og qx qk qw qb qn mh ml nc rs na qd nz qg t1 t2 false false false) H.size) (cwV 3 hta (aw_V mw_527 mw_524 mw_526 mw_s21 mw_5) rfl rfl rfl ⟨rfl, dyX3_refuses⟩ ⟨(Nat.le_of_ble_eq_true rfl), (Nat.le_of_ble_eq_true rfl)⟩) (pr_V hP hD hK hE [0] [] (by decide) rfl rfl rfl rfl) rfl rfl hl.1 rfl (lv_room (Nat.le_of_ble_eq_true rfl)) dX3_tag_16 ⟨(Nat.le_of_ble_eq_true rfl), (Nat.le_of_ble_eq_true rfl)⟩) hP hD hS hA [0] [] rfl rfl (by decide) (by decide) (fun H locs hP hD hS => ?_)
    have hP : va_P (dC, dI) vwCl [(o, .inr (3, [.int (rfN false false false), .int (nI ph), .int (zI og), .ref qx, .ref qk, .ref qw, .ref qb, .ref qn, .long mh, .long ml, .long nc, .int rs, .int (nI na), .ref qd, .int (nI nz), .ref qg, .long t1, .long t2]))] H := hP
    have hD : va_D A [(o, .inr (3, [.int (rfN false false false), .int (nI ph), .int (zI og), .ref qx, .ref qk, .ref qw, .ref qb, .ref qn, .long mh, .long ml, .long nc, .int rs, .int (nI na), .ref qd, .int (nI nz), .ref qg, .long t1, .long t2]))] := hD
    refine W.widen (k := 0) (n := 0) (Nat.le_of_ble_eq_true rfl) (Nat.le_of_ble_eq_true rfl) ?_
    have e9 : rfN false false false = nI 0 := rfl
    have hP : va_P (dC, dI) vwCl [(o, .inr (3, [.int (nI 0), .int (nI ph), .int (zI og), .ref qx, .ref qk, .ref qw, .ref qb, .ref qn, .long mh, .long ml, .long nc, .int rs, .int (nI na), .ref qd, .int (nI nz), .ref qg, .long t1, .long t2]))] H := by rw [← e9]; exact hP
    have hD : va_D A [(o, .inr (3, [.int (nI 0), .int (nI ph), .int (zI og), .ref qx, .ref qk, .ref qw, .ref qb, .ref qn, .long mh, .long ml, .long nc, .int rs, .int (nI na), .ref qd, .int (nI nz), .ref qg, .long t1, .long t2]))] := by rw [← e9]; exact hD
    refine w_pc (pc2 := 19) rfl ?_
    refine lv_if_eq (tgt := 26) hx hb dX3_tag_19 (by decide) (fun hc_19 => ?_) (fun hc_19 => ?_)
    · skip
      refine lv_iload_n hx hb dX3_tag_26 rfl (lv_at hl 1 rfl) ?_
      refine lv_if_eq (tgt := 37) hx hb dX3_tag_27 (by decide) (fun hc_27 => ?_) (fun hc_27 => ?_)
      · skip
        refine lv_aload_n hx hb dX3_tag_37 rfl (lv_at hl 0 rfl) ?_
        refine va_get (D := (dC, dI)) (ci := 3) (v := .long t1) (C := RX3) (T := TX3) (N := 18) hx hb hta inX3 hown hK hP 0 rfl rfl 16 (by decide) (hta _ mw_473) (fun _ h9 => h9) rfl dX3_tag_38 ?_
        exact rt_l hx hb hr hlk hQ hAe hP hD hS [0] (by decide) rfl (Nat.le_of_ble_eq_true rfl) (Nat.le_of_ble_eq_true rfl) (by first | (rw [zI0 (b := ot) (by assumption)]; rfl) | (rw [zI1 (b := ot) (by assumption)]; rfl)) dX3_tag_41
      · skip
        refine lv_aload_n hx hb dX3_tag_30 rfl (lv_at hl 0 rfl) ?_
        refine va_get (D := (dC, dI)) (ci := 3) (v := .long t2) (C := RX3) (T := TX3) (N := 18) hx hb hta inX3 hown hK hP 0 rfl rfl 17 (by decide) (hta _ mw_474) (fun _ h9 => h9) rfl dX3_tag_31 ?_
        refine lv_goto (tgt := 41) hx hb dX3_tag_34 (by decide) ?_
        exact rt_l hx hb hr hlk hQ hAe hP hD hS [0] (by decide) rfl (Nat.le_of_ble_eq_true rfl) (Nat.le_of_ble_eq_true rfl) (by first | (rw [zI0 (b := ot) (by assumption)]; rfl) | (rw [zI1 (b := ot) (by assumption)]; rfl)) dX3_tag_41
    · skip
      exact absurd (by decide) hc_19
  · skip
    have hc_6 := (not_congr (ix_eq (a := ph) (b := 3) (by omega) (by omega))).mp hc_6
    have hc_6 : ¬ (ph = 3) := hc_6
    exfalso; omega

def rm_m_tag_n : Room := { frames := 1, cells := 0, slots := 0, locals := 23 }
set_option maxHeartbeats 4000000 in
set_option maxRecDepth 100000 in
/-- tag, refused -/
theorem m_tag_n (l : Launch) (dC : Nat → ClassId) (dI : Nat → Nat → Nat) (o : Nat) (th : Int32) (ph : Nat) (og : Bool) (qx : Nat) (qk : Nat) (qw : Nat) (qb : Nat) (qn : Nat) (mh : Int64) (ml : Int64) (nc : Int64) (rs : Int32) (na : Nat) (qd : Nat) (nz : Nat) (qg : Nat) (t1 : Int64) (t2 : Int64) (ot : Bool) (hph6 : ph < 6) (hph : ¬ ph = 3) : MO l dC dI yX3_tag wsX3_tag rm_m_tag_n [.ref o, .int (zI ot)] [(o, .inr (3, [.int th, .int (nI ph), .int (zI og), .ref qx, .ref qk, .ref qw, .ref qb, .ref qn, .long mh, .long ml, .long nc, .int rs, .int (nI na), .ref qd, .int (nI nz), .ref qg, .long t1, .long t2]))] [] [(o, .inr (3, [.int (nI 1), .int (nI ph), .int (zI og), .ref qx, .ref qk, .ref qw, .ref qb, .ref qn, .long mh, .long ml, .long nc, .int rs, .int (nI na), .ref qd, .int (nI nz), .ref qg, .long t1, .long t2]))] (some (.long (lN 0))) := by
  refine mo_ofW (cc := cX3_tag) (maxL := 2) (ret := (some .long)) (by decide) rfl (Nat.le_of_ble_eq_true rfl) ?_
  intro p e s m args below meth c Q A H locs ls hx hb hr hlk hml hta hown hin hE hQ hAe hA hK hP hD hS hl
  have hown : s.vm.findClass RX3 = some m.cls := hown
  have hl : lv_has ls 2 [(0, .ref o), (1, .int (zI ot))] := hl
  refine lv_aload_n hx hb dX3_tag_0 rfl (lv_at hl 0 rfl) ?_
  refine lv_aload_n hx hb dX3_tag_1 rfl (lv_at hl 0 rfl) ?_
  refine va_get (D := (dC, dI)) (ci := 3) (v := .int (nI ph)) (C := RX3) (T := TX3) (N := 18) hx hb hta inX3 hown hK hP 0 rfl rfl 1 (by decide) (hta _ mw_458) (fun _ h9 => h9) rfl dX3_tag_2 ?_
  refine lv_iconst (v := nI 3) hx hb dX3_tag_5 (by decide) ?_
  refine lv_icmp_eq (tgt := 13) hx hb dX3_tag_6 (by decide) (fun hc_6 => ?_) (fun hc_6 => ?_)
  · skip
    have hc_6 := (ix_eq (a := ph) (b := 3) (by omega) (by omega)).mp hc_6
    have hc_6 : (ph = 3) := hc_6
    exfalso; omega
  · skip
    have hc_6 := (not_congr (ix_eq (a := ph) (b := 3) (by omega) (by omega))).mp hc_6
    have hc_6 : ¬ (ph = 3) := hc_6
    refine lv_iconst (v := nI 1) hx hb dX3_tag_9 (by decide) ?_
    refine lv_goto (tgt := 14) hx hb dX3_tag_10 (by decide) ?_
    refine lv_iconst (v := nI 0) hx hb dX3_tag_14 (by decide) ?_
    refine lv_iconst (v := nI 0) hx hb dX3_tag_15 (by decide) ?_
    refine cf_1 (wr := []) (va_runV (As := [.int (nI 1), .int (nI 0), .int (nI 0)]) (rest := []) ⟨hx, hb, hml, hown, hta⟩ (MO.to (m_refuses l dC dI o th ph og qx qk qw qb qn mh ml nc rs na qd nz qg t1 t2 true false false) H.size) (cwV 3 hta (aw_V mw_527 mw_524 mw_526 mw_s21 mw_5) rfl rfl rfl ⟨rfl, dyX3_refuses⟩ ⟨(Nat.le_of_ble_eq_true rfl), (Nat.le_of_ble_eq_true rfl)⟩) (pr_V hP hD hK hE [0] [] (by decide) rfl rfl rfl rfl) rfl rfl hl.1 rfl (lv_room (Nat.le_of_ble_eq_true rfl)) dX3_tag_16 ⟨(Nat.le_of_ble_eq_true rfl), (Nat.le_of_ble_eq_true rfl)⟩) hP hD hS hA [0] [] rfl rfl (by decide) (by decide) (fun H locs hP hD hS => ?_)
    have hP : va_P (dC, dI) vwCl [(o, .inr (3, [.int (rfN true false false), .int (nI ph), .int (zI og), .ref qx, .ref qk, .ref qw, .ref qb, .ref qn, .long mh, .long ml, .long nc, .int rs, .int (nI na), .ref qd, .int (nI nz), .ref qg, .long t1, .long t2]))] H := hP
    have hD : va_D A [(o, .inr (3, [.int (rfN true false false), .int (nI ph), .int (zI og), .ref qx, .ref qk, .ref qw, .ref qb, .ref qn, .long mh, .long ml, .long nc, .int rs, .int (nI na), .ref qd, .int (nI nz), .ref qg, .long t1, .long t2]))] := hD
    refine W.widen (k := 0) (n := 0) (Nat.le_of_ble_eq_true rfl) (Nat.le_of_ble_eq_true rfl) ?_
    have e9 : rfN true false false = nI 1 := rfl
    have hP : va_P (dC, dI) vwCl [(o, .inr (3, [.int (nI 1), .int (nI ph), .int (zI og), .ref qx, .ref qk, .ref qw, .ref qb, .ref qn, .long mh, .long ml, .long nc, .int rs, .int (nI na), .ref qd, .int (nI nz), .ref qg, .long t1, .long t2]))] H := by rw [← e9]; exact hP
    have hD : va_D A [(o, .inr (3, [.int (nI 1), .int (nI ph), .int (zI og), .ref qx, .ref qk, .ref qw, .ref qb, .ref qn, .long mh, .long ml, .long nc, .int rs, .int (nI na), .ref qd, .int (nI nz), .ref qg, .long t1, .long t2]))] := by rw [← e9]; exact hD
    refine w_pc (pc2 := 19) rfl ?_
    refine lv_if_eq (tgt := 26) hx hb dX3_tag_19 (by decide) (fun hc_19 => ?_) (fun hc_19 => ?_)
    · skip
      exact absurd hc_19 (by decide)
    · skip
      refine lv_lconst (v := lN 0) hx hb dX3_tag_22 (by decide) ?_
      refine lv_goto (tgt := 41) hx hb dX3_tag_23 (by decide) ?_
      exact rt_l hx hb hr hlk hQ hAe hP hD hS [0] (by decide) rfl (Nat.le_of_ble_eq_true rfl) (Nat.le_of_ble_eq_true rfl) (rfl) dX3_tag_41

def rm_m_at_y : Room := { frames := 5, cells := 0, slots := 0, locals := 114 }
set_option maxHeartbeats 4000000 in
set_option maxRecDepth 100000 in
/-- at(j) -/
theorem m_at_y (l : Launch) (dC : Nat → ClassId) (dI : Nat → Nat → Nat) (o : Nat) (th : Int32) (ph : Nat) (og : Bool) (qx : Nat) (qk : Nat) (qw : Nat) (qb : Nat) (qn : Nat) (mh : Int64) (ml : Int64) (nc : Int64) (rs : Int32) (na : Nat) (qd : Nat) (nz : Nat) (qg : Nat) (t1 : Int64) (t2 : Int64) (kx : ClassId) (kw : ClassId) (kb : ClassId) (kn : ClassId) (kg : ClassId) (sb : Nat → Nat) (w : Nat → Int32) (b : Nat → Nat) (z : Nat → Nat) (gv : Nat → Nat) (j : Nat) (s256 : ∀ i, sb i < 256) (hph6 : ph < 6) (hsh : shN ph og = true) (hj : j < nz) (hnz : nz ≤ 96) : MX l dC dI yX3_at wsX3_at rm_m_at_y [.ref o, .int (nI j)] [(o, .inr (3, [.int th, .int (nI ph), .int (zI og), .ref qx, .ref qk, .ref qw, .ref qb, .ref qn, .long mh, .long ml, .long nc, .int rs, .int (nI na), .ref qd, .int (nI nz), .ref qg, .long t1, .long t2])), (qx, .inl (kx, 256, .inl (nF sb))), (qw, .inl (kw, 44, .inl w)), (qb, .inl (kb, 16, .inl (nF b))), (qn, .inl (kn, 16, .inl (nF z))), (qg, .inl (kg, 96, .inl (nF gv)))] [(kx, .int), (kw, .int), (kb, .int), (kn, .int), (kg, .int)] (fun ((b1, z1) : (Nat → Nat) × (Nat → Nat)) => [(o, .inr (3, [.int (nI 0), .int (nI ph), .int (zI og), .ref qx, .ref qk, .ref qw, .ref qb, .ref qn, .long mh, .long ml, .long nc, .int rs, .int (nI na), .ref qd, .int (nI nz), .ref qg, .long t1, .long t2])), (qx, .inl (kx, 256, .inl (nF sb))), (qw, .inl (kw, 44, .inl w)), (qb, .inl (kb, 16, .inl (nF b1))), (qn, .inl (kn, 16, .inl (nF z1))), (qg, .inl (kg, 96, .inl (nF gv)))]) (fun ((b1, z1) : (Nat → Nat) × (Nat → Nat)) => []) (fun _ => True) (fun ((b1, z1) : (Nat → Nat) × (Nat → Nat)) => (some (.int (nI ((gv j) ^^^ (mskN sb w nc rs j)))))) := by
  refine mx_ofW (cc := cX3_at) (maxL := 3) (ret := (some .int)) (by decide) rfl (Nat.le_of_ble_eq_true rfl) ?_
  intro p e s m args below meth c Q A H locs ls hx hb hr hlk hml hta hown hin hE hQ hAe hA hK hP hD hS hl
  have hown : s.vm.findClass RX3 = some m.cls := hown
  have hl : lv_has ls 3 [(0, .ref o), (1, .int (nI j))] := hl
  refine lv_aload_n hx hb dX3_at_0 rfl (lv_at hl 0 rfl) ?_
  refine lv_iconst (v := nI 0) hx hb dX3_at_1 (by decide) ?_
  refine va_put (D := (dC, dI)) (ci := 3) (v := .int (nI 0)) (ty := .int) (C := RX3) (T := TX3) (N := 18) hx hb hta inX3 tyX3 tyX3_ok nmX3 hown hK hP hD hS 0 rfl rfl 0 (by decide) (hta _ mw_457) (fun _ h9 => h9) rfl (by decide +kernel) rfl rfl (Nat.le_of_ble_eq_true rfl) dX3_at_2 (fun H locs hP hD hS => ?_)
  have hP : va_P (dC, dI) vwCl [(o, .inr (3, [.int (nI 0), .int (nI ph), .int (zI og), .ref qx, .ref qk, .ref qw, .ref qb, .ref qn, .long mh, .long ml, .long nc, .int rs, .int (nI na), .ref qd, .int (nI nz), .ref qg, .long t1, .long t2])), (qx, .inl (kx, 256, .inl (nF sb))), (qw, .inl (kw, 44, .inl w)), (qb, .inl (kb, 16, .inl (nF b))), (qn, .inl (kn, 16, .inl (nF z))), (qg, .inl (kg, 96, .inl (nF gv)))] H := hP
  have hD : va_D A [(o, .inr (3, [.int (nI 0), .int (nI ph), .int (zI og), .ref qx, .ref qk, .ref qw, .ref qb, .ref qn, .long mh, .long ml, .long nc, .int rs, .int (nI na), .ref qd, .int (nI nz), .ref qg, .long t1, .long t2])), (qx, .inl (kx, 256, .inl (nF sb))), (qw, .inl (kw, 44, .inl w)), (qb, .inl (kb, 16, .inl (nF b))), (qn, .inl (kn, 16, .inl (nF z))), (qg, .inl (kg, 96, .inl (nF gv)))] := hD
  refine lv_aload_n hx hb dX3_at_5 rfl (lv_at hl 0 rfl) ?_
  refine va_get (D := (dC, dI)) (ci := 3) (v := .int (zI og)) (C := RX3) (T := TX3) (N := 18) hx hb hta inX3 hown hK hP 0 rfl rfl 2 (by decide) (hta _ mw_459) (fun _ h9 => h9) rfl dX3_at_6 ?_
  refine lv_if_ne (tgt := 27) hx hb dX3_at_9 (by decide) (fun hc_9 => ?_) (fun hc_9 => ?_)
  · skip
    refine lv_aload_n hx hb dX3_at_27 rfl (lv_at hl 0 rfl) ?_
    refine va_get (D := (dC, dI)) (ci := 3) (v := .int (nI ph)) (C := RX3) (T := TX3) (N := 18) hx hb hta inX3 hown hK hP 0 rfl rfl 1 (by decide) (hta _ mw_458) (fun _ h9 => h9) rfl dX3_at_28 ?_
    refine lv_iconst (v := nI 4) hx hb dX3_at_31 (by decide) ?_
    refine lv_icmp_ne (tgt := 39) hx hb dX3_at_32 (by decide) (fun hc_32 => ?_) (fun hc_32 => ?_)
    · skip
      have hc_32 := (not_congr (ix_eq (a := ph) (b := 4) (by omega) (by omega))).mp hc_32
      have hc_32 : ¬ (ph = 4) := hc_32
      have h9 : shN ph og = false := by first | exact shD (zI1 (b := og) (by assumption)) (by omega) | exact shE (zI0 (b := og) (by assumption)) (zI0 (b := uwN ph) (by assumption)) (by omega) (by omega)
      exact absurd hsh (by rw [h9]; decide)
    · skip
      have hc_32 := (ix_eq (a := ph) (b := 4) (by omega) (by omega)).mp hc_32
      have hc_32 : (ph = 4) := hc_32
      refine lv_iconst (v := nI 1) hx hb dX3_at_35 (by decide) ?_
      refine lv_goto (tgt := 40) hx hb dX3_at_36 (by decide) ?_
      refine lv_istore_n hx hb dX3_at_40 rfl hl (by decide) rfl (fun ls hl => ?_)
      have hl : lv_has ls 3 [(2, .int (nI 1)), (0, .ref o), (1, .int (nI j))] := hl
      refine lv_iload_n hx hb dX3_at_41 rfl (lv_at hl 0 rfl) ?_
      refine lv_if_eq (tgt := 72) hx hb dX3_at_42 (by decide) (fun hc_42 => ?_) (fun hc_42 => ?_)
      · skip
        have hc_42 := (ix_eq (a := 1) (b := 0) (by omega) (by omega)).mp hc_42
        have hc_42 : (1 = 0) := hc_42
        exfalso; omega
      · skip
        have hc_42 := (not_congr (ix_eq (a := 1) (b := 0) (by omega) (by omega))).mp hc_42
        have hc_42 : ¬ (1 = 0) := hc_42
        refine lv_iload_n hx hb dX3_at_45 rfl (lv_at hl 2 rfl) ?_
        refine lv_if_lt (tgt := 72) hx hb dX3_at_46 (by decide) (fun hc_46 => ?_) (fun hc_46 => ?_)
        · skip
          have hc_46 := (ix_lt (a := j) (b := 0) (by omega) (by omega)).mp hc_46
          have hc_46 : (j < 0) := hc_46
          exfalso; omega
        · skip
          have hc_46 := (not_congr (ix_lt (a := j) (b := 0) (by omega) (by omega))).mp hc_46
          have hc_46 : ¬ (j < 0) := hc_46
          refine lv_iload_n hx hb dX3_at_49 rfl (lv_at hl 2 rfl) ?_
          refine lv_aload_n hx hb dX3_at_50 rfl (lv_at hl 1 rfl) ?_
          refine va_get (D := (dC, dI)) (ci := 3) (v := .int (nI nz)) (C := RX3) (T := TX3) (N := 18) hx hb hta inX3 hown hK hP 0 rfl rfl 14 (by decide) (hta _ mw_471) (fun _ h9 => h9) rfl dX3_at_51 ?_
          refine lv_icmp_ge (tgt := 72) hx hb dX3_at_54 (by decide) (fun hc_54 => ?_) (fun hc_54 => ?_)
          · skip
            have hc_54 := (ix_le (a := nz) (b := j) (by omega) (by omega)).mp hc_54
            have hc_54 : (nz ≤ j) := hc_54
            exfalso; omega
          · skip
            have hc_54 := (not_congr (ix_le (a := nz) (b := j) (by omega) (by omega))).mp hc_54
            have hc_54 : ¬ (nz ≤ j) := hc_54
            refine lv_aload_n hx hb dX3_at_57 rfl (lv_at hl 1 rfl) ?_
            refine va_get (D := (dC, dI)) (ci := 3) (v := .ref qg) (C := RX3) (T := TX3) (N := 18) hx hb hta inX3 hown hK hP 0 rfl rfl 15 (by decide) (hta _ mw_472) (fun _ h9 => h9) rfl dX3_at_58 ?_
            refine lv_iload_n hx hb dX3_at_61 rfl (lv_at hl 2 rfl) ?_
            refine va_ialb hx hb hK hP 5 4 rfl rfl (by omega) (by decide) dX3_at_62 ?_
            refine lv_aload_n hx hb dX3_at_63 rfl (lv_at hl 1 rfl) ?_
            refine lv_iload_n hx hb dX3_at_64 rfl (lv_at hl 2 rfl) ?_
            refine cx_1 (wr := [(qg, .inl (kg, 96, .inl (nF gv)))]) (va_runV (As := [.int (nI j)]) (rest := [.int (nI (gv j))]) ⟨hx, hb, hml, hown, hta⟩ (MX.to (m_mask l dC dI o (nI 0) ph og qx qk qw qb qn mh ml nc rs na qd nz qg t1 t2 kx kw kb kn sb w b z j s256 (by omega)) H.size) (cwV 1 hta (aw_V mw_585 mw_582 mw_584 mw_s29 mw_5) rfl rfl rfl ⟨rfl, dyX3_mask⟩ ⟨(Nat.le_of_ble_eq_true rfl), (Nat.le_of_ble_eq_true rfl)⟩) (pr_V hP hD hK hE [0, 1, 2, 3, 4] [0, 1, 2, 3] (by decide) rfl rfl rfl rfl) rfl rfl hl.1 rfl (lv_room (Nat.le_of_ble_eq_true rfl)) dX3_at_65 ⟨(Nat.le_of_ble_eq_true rfl), (Nat.le_of_ble_eq_true rfl)⟩) hK hP hD hS hA [0, 1, 2, 3, 4] [5] rfl rfl (by decide) (by decide) (fun u9 H locs hphi_65 hK hP hD hS => ?_)
            obtain ⟨b1_1, z1_1⟩ := u9
            have hK : va_K (dC, dI) vwCl [(kx, .int), (kw, .int), (kb, .int), (kn, .int), (kg, .int)] s := hK
            have hP : va_P (dC, dI) vwCl [(qg, .inl (kg, 96, .inl (nF gv))), (o, .inr (3, [.int (nI 0), .int (nI ph), .int (zI og), .ref qx, .ref qk, .ref qw, .ref qb, .ref qn, .long mh, .long ml, .long nc, .int rs, .int (nI na), .ref qd, .int (nI nz), .ref qg, .long t1, .long t2])), (qx, .inl (kx, 256, .inl (nF sb))), (qw, .inl (kw, 44, .inl w)), (qb, .inl (kb, 16, .inl (nF b1_1))), (qn, .inl (kn, 16, .inl (nF z1_1)))] H := hP
            have hD : va_D A [(qg, .inl (kg, 96, .inl (nF gv))), (o, .inr (3, [.int (nI 0), .int (nI ph), .int (zI og), .ref qx, .ref qk, .ref qw, .ref qb, .ref qn, .long mh, .long ml, .long nc, .int rs, .int (nI na), .ref qd, .int (nI nz), .ref qg, .long t1, .long t2])), (qx, .inl (kx, 256, .inl (nF sb))), (qw, .inl (kw, 44, .inl w)), (qb, .inl (kb, 16, .inl (nF b1_1))), (qn, .inl (kn, 16, .inl (nF z1_1)))] := hD
            refine W.widen (k := 0) (n := 0) (Nat.le_of_ble_eq_true rfl) (Nat.le_of_ble_eq_true rfl) ?_
            refine w_pc (pc2 := 68) rfl ?_
            refine lv_ixor hx hb dX3_at_68 ?_
            refine top_i (y := nI ((gv j) ^^^ (mskN sb w nc rs j))) (n_xor _ _) ?_
            refine lv_goto (tgt := 73) hx hb dX3_at_69 (by decide) ?_
            exact rx_i (b1_1, z1_1) trivial hx hb hr hlk hQ hAe hK hP hD hS [1, 2, 3, 4, 5, 0] [] (by decide) rfl rfl (Nat.le_of_ble_eq_true rfl) (Nat.le_of_ble_eq_true rfl) (rfl) dX3_at_73
  · skip
    refine lv_aload_n hx hb dX3_at_12 rfl (lv_at hl 0 rfl) ?_
    refine cf_1 (wr := [(qx, .inl (kx, 256, .inl (nF sb))), (qw, .inl (kw, 44, .inl w)), (qb, .inl (kb, 16, .inl (nF b))), (qn, .inl (kn, 16, .inl (nF z))), (qg, .inl (kg, 96, .inl (nF gv)))]) (va_runV (As := []) (rest := []) ⟨hx, hb, hml, hown, hta⟩ (MO.to (m_isUnderWay l dC dI o (nI 0) ph og qx qk qw qb qn mh ml nc rs na qd nz qg t1 t2 hph6) H.size) (cwV 0 hta (aw_V mw_597 mw_594 mw_596 mw_s31 mw_5) rfl rfl rfl ⟨rfl, dyX3_isUnderWay⟩ ⟨(Nat.le_of_ble_eq_true rfl), (Nat.le_of_ble_eq_true rfl)⟩) (pr_V hP hD hK hE [0] [] (by decide) rfl rfl rfl rfl) rfl rfl hl.1 rfl (lv_room (Nat.le_of_ble_eq_true rfl)) dX3_at_13 ⟨(Nat.le_of_ble_eq_true rfl), (Nat.le_of_ble_eq_true rfl)⟩) hP hD hS hA [0] [1, 2, 3, 4, 5] rfl rfl (by decide) (by decide) (fun H locs hP hD hS => ?_)
    have hP : va_P (dC, dI) vwCl [(qx, .inl (kx, 256, .inl (nF sb))), (qw, .inl (kw, 44, .inl w)), (qb, .inl (kb, 16, .inl (nF b))), (qn, .inl (kn, 16, .inl (nF z))), (qg, .inl (kg, 96, .inl (nF gv))), (o, .inr (3, [.int (nI 0), .int (nI ph), .int (zI og), .ref qx, .ref qk, .ref qw, .ref qb, .ref qn, .long mh, .long ml, .long nc, .int rs, .int (nI na), .ref qd, .int (nI nz), .ref qg, .long t1, .long t2]))] H := hP
    have hD : va_D A [(qx, .inl (kx, 256, .inl (nF sb))), (qw, .inl (kw, 44, .inl w)), (qb, .inl (kb, 16, .inl (nF b))), (qn, .inl (kn, 16, .inl (nF z))), (qg, .inl (kg, 96, .inl (nF gv))), (o, .inr (3, [.int (nI 0), .int (nI ph), .int (zI og), .ref qx, .ref qk, .ref qw, .ref qb, .ref qn, .long mh, .long ml, .long nc, .int rs, .int (nI na), .ref qd, .int (nI nz), .ref qg, .long t1, .long t2]))] := hD
    refine W.widen (k := 0) (n := 0) (Nat.le_of_ble_eq_true rfl) (Nat.le_of_ble_eq_true rfl) ?_
    refine w_pc (pc2 := 16) rfl ?_
    refine lv_if_ne (tgt := 35) hx hb dX3_at_16 (by decide) (fun hc_16 => ?_) (fun hc_16 => ?_)
    · skip
      refine lv_iconst (v := nI 1) hx hb dX3_at_35 (by decide) ?_
      refine lv_goto (tgt := 40) hx hb dX3_at_36 (by decide) ?_
      refine lv_istore_n hx hb dX3_at_40 rfl hl (by decide) rfl (fun ls hl => ?_)
      have hl : lv_has ls 3 [(2, .int (nI 1)), (0, .ref o), (1, .int (nI j))] := hl
      refine lv_iload_n hx hb dX3_at_41 rfl (lv_at hl 0 rfl) ?_
      refine lv_if_eq (tgt := 72) hx hb dX3_at_42 (by decide) (fun hc_42 => ?_) (fun hc_42 => ?_)
      · skip
        have hc_42 := (ix_eq (a := 1) (b := 0) (by omega) (by omega)).mp hc_42
        have hc_42 : (1 = 0) := hc_42
        exfalso; omega
      · skip
        have hc_42 := (not_congr (ix_eq (a := 1) (b := 0) (by omega) (by omega))).mp hc_42
        have hc_42 : ¬ (1 = 0) := hc_42
        refine lv_iload_n hx hb dX3_at_45 rfl (lv_at hl 2 rfl) ?_
        refine lv_if_lt (tgt := 72) hx hb dX3_at_46 (by decide) (fun hc_46 => ?_) (fun hc_46 => ?_)
        · skip
          have hc_46 := (ix_lt (a := j) (b := 0) (by omega) (by omega)).mp hc_46
          have hc_46 : (j < 0) := hc_46
          exfalso; omega
        · skip
          have hc_46 := (not_congr (ix_lt (a := j) (b := 0) (by omega) (by omega))).mp hc_46
          have hc_46 : ¬ (j < 0) := hc_46
          refine lv_iload_n hx hb dX3_at_49 rfl (lv_at hl 2 rfl) ?_
          refine lv_aload_n hx hb dX3_at_50 rfl (lv_at hl 1 rfl) ?_
          refine va_get (D := (dC, dI)) (ci := 3) (v := .int (nI nz)) (C := RX3) (T := TX3) (N := 18) hx hb hta inX3 hown hK hP 5 rfl rfl 14 (by decide) (hta _ mw_471) (fun _ h9 => h9) rfl dX3_at_51 ?_
          refine lv_icmp_ge (tgt := 72) hx hb dX3_at_54 (by decide) (fun hc_54 => ?_) (fun hc_54 => ?_)
          · skip
            have hc_54 := (ix_le (a := nz) (b := j) (by omega) (by omega)).mp hc_54
            have hc_54 : (nz ≤ j) := hc_54
            exfalso; omega
          · skip
            have hc_54 := (not_congr (ix_le (a := nz) (b := j) (by omega) (by omega))).mp hc_54
            have hc_54 : ¬ (nz ≤ j) := hc_54
            refine lv_aload_n hx hb dX3_at_57 rfl (lv_at hl 1 rfl) ?_
            refine va_get (D := (dC, dI)) (ci := 3) (v := .ref qg) (C := RX3) (T := TX3) (N := 18) hx hb hta inX3 hown hK hP 5 rfl rfl 15 (by decide) (hta _ mw_472) (fun _ h9 => h9) rfl dX3_at_58 ?_
            refine lv_iload_n hx hb dX3_at_61 rfl (lv_at hl 2 rfl) ?_
            refine va_ialb hx hb hK hP 4 4 rfl rfl (by omega) (by decide) dX3_at_62 ?_
            refine lv_aload_n hx hb dX3_at_63 rfl (lv_at hl 1 rfl) ?_
            refine lv_iload_n hx hb dX3_at_64 rfl (lv_at hl 2 rfl) ?_
            refine cx_1 (wr := [(qg, .inl (kg, 96, .inl (nF gv)))]) (va_runV (As := [.int (nI j)]) (rest := [.int (nI (gv j))]) ⟨hx, hb, hml, hown, hta⟩ (MX.to (m_mask l dC dI o (nI 0) ph og qx qk qw qb qn mh ml nc rs na qd nz qg t1 t2 kx kw kb kn sb w b z j s256 (by omega)) H.size) (cwV 1 hta (aw_V mw_585 mw_582 mw_584 mw_s29 mw_5) rfl rfl rfl ⟨rfl, dyX3_mask⟩ ⟨(Nat.le_of_ble_eq_true rfl), (Nat.le_of_ble_eq_true rfl)⟩) (pr_V hP hD hK hE [5, 0, 1, 2, 3] [0, 1, 2, 3] (by decide) rfl rfl rfl rfl) rfl rfl hl.1 rfl (lv_room (Nat.le_of_ble_eq_true rfl)) dX3_at_65 ⟨(Nat.le_of_ble_eq_true rfl), (Nat.le_of_ble_eq_true rfl)⟩) hK hP hD hS hA [5, 0, 1, 2, 3] [4] rfl rfl (by decide) (by decide) (fun u9 H locs hphi_65 hK hP hD hS => ?_)
            obtain ⟨b1_2, z1_2⟩ := u9
            have hK : va_K (dC, dI) vwCl [(kx, .int), (kw, .int), (kb, .int), (kn, .int), (kg, .int)] s := hK
            have hP : va_P (dC, dI) vwCl [(qg, .inl (kg, 96, .inl (nF gv))), (o, .inr (3, [.int (nI 0), .int (nI ph), .int (zI og), .ref qx, .ref qk, .ref qw, .ref qb, .ref qn, .long mh, .long ml, .long nc, .int rs, .int (nI na), .ref qd, .int (nI nz), .ref qg, .long t1, .long t2])), (qx, .inl (kx, 256, .inl (nF sb))), (qw, .inl (kw, 44, .inl w)), (qb, .inl (kb, 16, .inl (nF b1_2))), (qn, .inl (kn, 16, .inl (nF z1_2)))] H := hP
            have hD : va_D A [(qg, .inl (kg, 96, .inl (nF gv))), (o, .inr (3, [.int (nI 0), .int (nI ph), .int (zI og), .ref qx, .ref qk, .ref qw, .ref qb, .ref qn, .long mh, .long ml, .long nc, .int rs, .int (nI na), .ref qd, .int (nI nz), .ref qg, .long t1, .long t2])), (qx, .inl (kx, 256, .inl (nF sb))), (qw, .inl (kw, 44, .inl w)), (qb, .inl (kb, 16, .inl (nF b1_2))), (qn, .inl (kn, 16, .inl (nF z1_2)))] := hD
            refine W.widen (k := 0) (n := 0) (Nat.le_of_ble_eq_true rfl) (Nat.le_of_ble_eq_true rfl) ?_
            refine w_pc (pc2 := 68) rfl ?_
            refine lv_ixor hx hb dX3_at_68 ?_
            refine top_i (y := nI ((gv j) ^^^ (mskN sb w nc rs j))) (n_xor _ _) ?_
            refine lv_goto (tgt := 73) hx hb dX3_at_69 (by decide) ?_
            exact rx_i (b1_2, z1_2) trivial hx hb hr hlk hQ hAe hK hP hD hS [1, 2, 3, 4, 5, 0] [] (by decide) rfl rfl (Nat.le_of_ble_eq_true rfl) (Nat.le_of_ble_eq_true rfl) (rfl) dX3_at_73
    · skip
      refine lv_aload_n hx hb dX3_at_19 rfl (lv_at hl 0 rfl) ?_
      refine va_get (D := (dC, dI)) (ci := 3) (v := .int (nI ph)) (C := RX3) (T := TX3) (N := 18) hx hb hta inX3 hown hK hP 5 rfl rfl 1 (by decide) (hta _ mw_458) (fun _ h9 => h9) rfl dX3_at_20 ?_
      refine lv_iconst (v := nI 3) hx hb dX3_at_23 (by decide) ?_
      refine lv_icmp_eq (tgt := 35) hx hb dX3_at_24 (by decide) (fun hc_24 => ?_) (fun hc_24 => ?_)
      · skip
        have hc_24 := (ix_eq (a := ph) (b := 3) (by omega) (by omega)).mp hc_24
        have hc_24 : (ph = 3) := hc_24
        refine lv_iconst (v := nI 1) hx hb dX3_at_35 (by decide) ?_
        refine lv_goto (tgt := 40) hx hb dX3_at_36 (by decide) ?_
        refine lv_istore_n hx hb dX3_at_40 rfl hl (by decide) rfl (fun ls hl => ?_)
        have hl : lv_has ls 3 [(2, .int (nI 1)), (0, .ref o), (1, .int (nI j))] := hl
        refine lv_iload_n hx hb dX3_at_41 rfl (lv_at hl 0 rfl) ?_
        refine lv_if_eq (tgt := 72) hx hb dX3_at_42 (by decide) (fun hc_42 => ?_) (fun hc_42 => ?_)
        · skip
          have hc_42 := (ix_eq (a := 1) (b := 0) (by omega) (by omega)).mp hc_42
          have hc_42 : (1 = 0) := hc_42
          exfalso; omega
        · skip
          have hc_42 := (not_congr (ix_eq (a := 1) (b := 0) (by omega) (by omega))).mp hc_42
          have hc_42 : ¬ (1 = 0) := hc_42
          refine lv_iload_n hx hb dX3_at_45 rfl (lv_at hl 2 rfl) ?_
          refine lv_if_lt (tgt := 72) hx hb dX3_at_46 (by decide) (fun hc_46 => ?_) (fun hc_46 => ?_)
          · skip
            have hc_46 := (ix_lt (a := j) (b := 0) (by omega) (by omega)).mp hc_46
            have hc_46 : (j < 0) := hc_46
            exfalso; omega
          · skip
            have hc_46 := (not_congr (ix_lt (a := j) (b := 0) (by omega) (by omega))).mp hc_46
            have hc_46 : ¬ (j < 0) := hc_46
            refine lv_iload_n hx hb dX3_at_49 rfl (lv_at hl 2 rfl) ?_
            refine lv_aload_n hx hb dX3_at_50 rfl (lv_at hl 1 rfl) ?_
            refine va_get (D := (dC, dI)) (ci := 3) (v := .int (nI nz)) (C := RX3) (T := TX3) (N := 18) hx hb hta inX3 hown hK hP 5 rfl rfl 14 (by decide) (hta _ mw_471) (fun _ h9 => h9) rfl dX3_at_51 ?_
            refine lv_icmp_ge (tgt := 72) hx hb dX3_at_54 (by decide) (fun hc_54 => ?_) (fun hc_54 => ?_)
            · skip
              have hc_54 := (ix_le (a := nz) (b := j) (by omega) (by omega)).mp hc_54
              have hc_54 : (nz ≤ j) := hc_54
              exfalso; omega
            · skip
              have hc_54 := (not_congr (ix_le (a := nz) (b := j) (by omega) (by omega))).mp hc_54
              have hc_54 : ¬ (nz ≤ j) := hc_54
              refine lv_aload_n hx hb dX3_at_57 rfl (lv_at hl 1 rfl) ?_
              refine va_get (D := (dC, dI)) (ci := 3) (v := .ref qg) (C := RX3) (T := TX3) (N := 18) hx hb hta inX3 hown hK hP 5 rfl rfl 15 (by decide) (hta _ mw_472) (fun _ h9 => h9) rfl dX3_at_58 ?_
              refine lv_iload_n hx hb dX3_at_61 rfl (lv_at hl 2 rfl) ?_
              refine va_ialb hx hb hK hP 4 4 rfl rfl (by omega) (by decide) dX3_at_62 ?_
              refine lv_aload_n hx hb dX3_at_63 rfl (lv_at hl 1 rfl) ?_
              refine lv_iload_n hx hb dX3_at_64 rfl (lv_at hl 2 rfl) ?_
              refine cx_1 (wr := [(qg, .inl (kg, 96, .inl (nF gv)))]) (va_runV (As := [.int (nI j)]) (rest := [.int (nI (gv j))]) ⟨hx, hb, hml, hown, hta⟩ (MX.to (m_mask l dC dI o (nI 0) ph og qx qk qw qb qn mh ml nc rs na qd nz qg t1 t2 kx kw kb kn sb w b z j s256 (by omega)) H.size) (cwV 1 hta (aw_V mw_585 mw_582 mw_584 mw_s29 mw_5) rfl rfl rfl ⟨rfl, dyX3_mask⟩ ⟨(Nat.le_of_ble_eq_true rfl), (Nat.le_of_ble_eq_true rfl)⟩) (pr_V hP hD hK hE [5, 0, 1, 2, 3] [0, 1, 2, 3] (by decide) rfl rfl rfl rfl) rfl rfl hl.1 rfl (lv_room (Nat.le_of_ble_eq_true rfl)) dX3_at_65 ⟨(Nat.le_of_ble_eq_true rfl), (Nat.le_of_ble_eq_true rfl)⟩) hK hP hD hS hA [5, 0, 1, 2, 3] [4] rfl rfl (by decide) (by decide) (fun u9 H locs hphi_65 hK hP hD hS => ?_)
              obtain ⟨b1_3, z1_3⟩ := u9
              have hK : va_K (dC, dI) vwCl [(kx, .int), (kw, .int), (kb, .int), (kn, .int), (kg, .int)] s := hK
              have hP : va_P (dC, dI) vwCl [(qg, .inl (kg, 96, .inl (nF gv))), (o, .inr (3, [.int (nI 0), .int (nI ph), .int (zI og), .ref qx, .ref qk, .ref qw, .ref qb, .ref qn, .long mh, .long ml, .long nc, .int rs, .int (nI na), .ref qd, .int (nI nz), .ref qg, .long t1, .long t2])), (qx, .inl (kx, 256, .inl (nF sb))), (qw, .inl (kw, 44, .inl w)), (qb, .inl (kb, 16, .inl (nF b1_3))), (qn, .inl (kn, 16, .inl (nF z1_3)))] H := hP
              have hD : va_D A [(qg, .inl (kg, 96, .inl (nF gv))), (o, .inr (3, [.int (nI 0), .int (nI ph), .int (zI og), .ref qx, .ref qk, .ref qw, .ref qb, .ref qn, .long mh, .long ml, .long nc, .int rs, .int (nI na), .ref qd, .int (nI nz), .ref qg, .long t1, .long t2])), (qx, .inl (kx, 256, .inl (nF sb))), (qw, .inl (kw, 44, .inl w)), (qb, .inl (kb, 16, .inl (nF b1_3))), (qn, .inl (kn, 16, .inl (nF z1_3)))] := hD
              refine W.widen (k := 0) (n := 0) (Nat.le_of_ble_eq_true rfl) (Nat.le_of_ble_eq_true rfl) ?_
              refine w_pc (pc2 := 68) rfl ?_
              refine lv_ixor hx hb dX3_at_68 ?_
              refine top_i (y := nI ((gv j) ^^^ (mskN sb w nc rs j))) (n_xor _ _) ?_
              refine lv_goto (tgt := 73) hx hb dX3_at_69 (by decide) ?_
              exact rx_i (b1_3, z1_3) trivial hx hb hr hlk hQ hAe hK hP hD hS [1, 2, 3, 4, 5, 0] [] (by decide) rfl rfl (Nat.le_of_ble_eq_true rfl) (Nat.le_of_ble_eq_true rfl) (rfl) dX3_at_73
      · skip
        have hc_24 := (not_congr (ix_eq (a := ph) (b := 3) (by omega) (by omega))).mp hc_24
        have hc_24 : ¬ (ph = 3) := hc_24
        refine lv_aload_n hx hb dX3_at_27 rfl (lv_at hl 0 rfl) ?_
        refine va_get (D := (dC, dI)) (ci := 3) (v := .int (nI ph)) (C := RX3) (T := TX3) (N := 18) hx hb hta inX3 hown hK hP 5 rfl rfl 1 (by decide) (hta _ mw_458) (fun _ h9 => h9) rfl dX3_at_28 ?_
        refine lv_iconst (v := nI 4) hx hb dX3_at_31 (by decide) ?_
        refine lv_icmp_ne (tgt := 39) hx hb dX3_at_32 (by decide) (fun hc_32 => ?_) (fun hc_32 => ?_)
        · skip
          have hc_32 := (not_congr (ix_eq (a := ph) (b := 4) (by omega) (by omega))).mp hc_32
          have hc_32 : ¬ (ph = 4) := hc_32
          have h9 : shN ph og = false := by first | exact shD (zI1 (b := og) (by assumption)) (by omega) | exact shE (zI0 (b := og) (by assumption)) (zI0 (b := uwN ph) (by assumption)) (by omega) (by omega)
          exact absurd hsh (by rw [h9]; decide)
        · skip
          have hc_32 := (ix_eq (a := ph) (b := 4) (by omega) (by omega)).mp hc_32
          have hc_32 : (ph = 4) := hc_32
          refine lv_iconst (v := nI 1) hx hb dX3_at_35 (by decide) ?_
          refine lv_goto (tgt := 40) hx hb dX3_at_36 (by decide) ?_
          refine lv_istore_n hx hb dX3_at_40 rfl hl (by decide) rfl (fun ls hl => ?_)
          have hl : lv_has ls 3 [(2, .int (nI 1)), (0, .ref o), (1, .int (nI j))] := hl
          refine lv_iload_n hx hb dX3_at_41 rfl (lv_at hl 0 rfl) ?_
          refine lv_if_eq (tgt := 72) hx hb dX3_at_42 (by decide) (fun hc_42 => ?_) (fun hc_42 => ?_)
          · skip
            have hc_42 := (ix_eq (a := 1) (b := 0) (by omega) (by omega)).mp hc_42
            have hc_42 : (1 = 0) := hc_42
            exfalso; omega
          · skip
            have hc_42 := (not_congr (ix_eq (a := 1) (b := 0) (by omega) (by omega))).mp hc_42
            have hc_42 : ¬ (1 = 0) := hc_42
            refine lv_iload_n hx hb dX3_at_45 rfl (lv_at hl 2 rfl) ?_
            refine lv_if_lt (tgt := 72) hx hb dX3_at_46 (by decide) (fun hc_46 => ?_) (fun hc_46 => ?_)
            · skip
              have hc_46 := (ix_lt (a := j) (b := 0) (by omega) (by omega)).mp hc_46
              have hc_46 : (j < 0) := hc_46
              exfalso; omega
            · skip
              have hc_46 := (not_congr (ix_lt (a := j) (b := 0) (by omega) (by omega))).mp hc_46
              have hc_46 : ¬ (j < 0) := hc_46
              refine lv_iload_n hx hb dX3_at_49 rfl (lv_at hl 2 rfl) ?_
              refine lv_aload_n hx hb dX3_at_50 rfl (lv_at hl 1 rfl) ?_
              refine va_get (D := (dC, dI)) (ci := 3) (v := .int (nI nz)) (C := RX3) (T := TX3) (N := 18) hx hb hta inX3 hown hK hP 5 rfl rfl 14 (by decide) (hta _ mw_471) (fun _ h9 => h9) rfl dX3_at_51 ?_
              refine lv_icmp_ge (tgt := 72) hx hb dX3_at_54 (by decide) (fun hc_54 => ?_) (fun hc_54 => ?_)
              · skip
                have hc_54 := (ix_le (a := nz) (b := j) (by omega) (by omega)).mp hc_54
                have hc_54 : (nz ≤ j) := hc_54
                exfalso; omega
              · skip
                have hc_54 := (not_congr (ix_le (a := nz) (b := j) (by omega) (by omega))).mp hc_54
                have hc_54 : ¬ (nz ≤ j) := hc_54
                refine lv_aload_n hx hb dX3_at_57 rfl (lv_at hl 1 rfl) ?_
                refine va_get (D := (dC, dI)) (ci := 3) (v := .ref qg) (C := RX3) (T := TX3) (N := 18) hx hb hta inX3 hown hK hP 5 rfl rfl 15 (by decide) (hta _ mw_472) (fun _ h9 => h9) rfl dX3_at_58 ?_
                refine lv_iload_n hx hb dX3_at_61 rfl (lv_at hl 2 rfl) ?_
                refine va_ialb hx hb hK hP 4 4 rfl rfl (by omega) (by decide) dX3_at_62 ?_
                refine lv_aload_n hx hb dX3_at_63 rfl (lv_at hl 1 rfl) ?_
                refine lv_iload_n hx hb dX3_at_64 rfl (lv_at hl 2 rfl) ?_
                refine cx_1 (wr := [(qg, .inl (kg, 96, .inl (nF gv)))]) (va_runV (As := [.int (nI j)]) (rest := [.int (nI (gv j))]) ⟨hx, hb, hml, hown, hta⟩ (MX.to (m_mask l dC dI o (nI 0) ph og qx qk qw qb qn mh ml nc rs na qd nz qg t1 t2 kx kw kb kn sb w b z j s256 (by omega)) H.size) (cwV 1 hta (aw_V mw_585 mw_582 mw_584 mw_s29 mw_5) rfl rfl rfl ⟨rfl, dyX3_mask⟩ ⟨(Nat.le_of_ble_eq_true rfl), (Nat.le_of_ble_eq_true rfl)⟩) (pr_V hP hD hK hE [5, 0, 1, 2, 3] [0, 1, 2, 3] (by decide) rfl rfl rfl rfl) rfl rfl hl.1 rfl (lv_room (Nat.le_of_ble_eq_true rfl)) dX3_at_65 ⟨(Nat.le_of_ble_eq_true rfl), (Nat.le_of_ble_eq_true rfl)⟩) hK hP hD hS hA [5, 0, 1, 2, 3] [4] rfl rfl (by decide) (by decide) (fun u9 H locs hphi_65 hK hP hD hS => ?_)
                obtain ⟨b1_4, z1_4⟩ := u9
                have hK : va_K (dC, dI) vwCl [(kx, .int), (kw, .int), (kb, .int), (kn, .int), (kg, .int)] s := hK
                have hP : va_P (dC, dI) vwCl [(qg, .inl (kg, 96, .inl (nF gv))), (o, .inr (3, [.int (nI 0), .int (nI ph), .int (zI og), .ref qx, .ref qk, .ref qw, .ref qb, .ref qn, .long mh, .long ml, .long nc, .int rs, .int (nI na), .ref qd, .int (nI nz), .ref qg, .long t1, .long t2])), (qx, .inl (kx, 256, .inl (nF sb))), (qw, .inl (kw, 44, .inl w)), (qb, .inl (kb, 16, .inl (nF b1_4))), (qn, .inl (kn, 16, .inl (nF z1_4)))] H := hP
                have hD : va_D A [(qg, .inl (kg, 96, .inl (nF gv))), (o, .inr (3, [.int (nI 0), .int (nI ph), .int (zI og), .ref qx, .ref qk, .ref qw, .ref qb, .ref qn, .long mh, .long ml, .long nc, .int rs, .int (nI na), .ref qd, .int (nI nz), .ref qg, .long t1, .long t2])), (qx, .inl (kx, 256, .inl (nF sb))), (qw, .inl (kw, 44, .inl w)), (qb, .inl (kb, 16, .inl (nF b1_4))), (qn, .inl (kn, 16, .inl (nF z1_4)))] := hD
                refine W.widen (k := 0) (n := 0) (Nat.le_of_ble_eq_true rfl) (Nat.le_of_ble_eq_true rfl) ?_
                refine w_pc (pc2 := 68) rfl ?_
                refine lv_ixor hx hb dX3_at_68 ?_
                refine top_i (y := nI ((gv j) ^^^ (mskN sb w nc rs j))) (n_xor _ _) ?_
                refine lv_goto (tgt := 73) hx hb dX3_at_69 (by decide) ?_
                exact rx_i (b1_4, z1_4) trivial hx hb hr hlk hQ hAe hK hP hD hS [1, 2, 3, 4, 5, 0] [] (by decide) rfl rfl (Nat.le_of_ble_eq_true rfl) (Nat.le_of_ble_eq_true rfl) (rfl) dX3_at_73

def rm_m_at_n : Room := { frames := 1, cells := 0, slots := 0, locals := 20 }
set_option maxHeartbeats 4000000 in
set_option maxRecDepth 100000 in
/-- at, where nothing is shown -/
theorem m_at_n (l : Launch) (dC : Nat → ClassId) (dI : Nat → Nat → Nat) (o : Nat) (th : Int32) (ph : Nat) (og : Bool) (qx : Nat) (qk : Nat) (qw : Nat) (qb : Nat) (qn : Nat) (mh : Int64) (ml : Int64) (nc : Int64) (rs : Int32) (na : Nat) (qd : Nat) (nz : Nat) (qg : Nat) (t1 : Int64) (t2 : Int64) (v : Int32) (hph6 : ph < 6) (hno : shN ph og = false ∨ v < 0 ∨ nI nz ≤ v) : MO l dC dI yX3_at wsX3_at rm_m_at_n [.ref o, .int v] [(o, .inr (3, [.int th, .int (nI ph), .int (zI og), .ref qx, .ref qk, .ref qw, .ref qb, .ref qn, .long mh, .long ml, .long nc, .int rs, .int (nI na), .ref qd, .int (nI nz), .ref qg, .long t1, .long t2]))] [] [(o, .inr (3, [.int (nI 0), .int (nI ph), .int (zI og), .ref qx, .ref qk, .ref qw, .ref qb, .ref qn, .long mh, .long ml, .long nc, .int rs, .int (nI na), .ref qd, .int (nI nz), .ref qg, .long t1, .long t2]))] (some (.int (-1 : Int32))) := by
  refine mo_ofW (cc := cX3_at) (maxL := 3) (ret := (some .int)) (by decide) rfl (Nat.le_of_ble_eq_true rfl) ?_
  intro p e s m args below meth c Q A H locs ls hx hb hr hlk hml hta hown hin hE hQ hAe hA hK hP hD hS hl
  have hown : s.vm.findClass RX3 = some m.cls := hown
  have hl : lv_has ls 3 [(0, .ref o), (1, .int v)] := hl
  refine lv_aload_n hx hb dX3_at_0 rfl (lv_at hl 0 rfl) ?_
  refine lv_iconst (v := nI 0) hx hb dX3_at_1 (by decide) ?_
  refine va_put (D := (dC, dI)) (ci := 3) (v := .int (nI 0)) (ty := .int) (C := RX3) (T := TX3) (N := 18) hx hb hta inX3 tyX3 tyX3_ok nmX3 hown hK hP hD hS 0 rfl rfl 0 (by decide) (hta _ mw_457) (fun _ h9 => h9) rfl (by decide +kernel) rfl rfl (Nat.le_of_ble_eq_true rfl) dX3_at_2 (fun H locs hP hD hS => ?_)
  have hP : va_P (dC, dI) vwCl [(o, .inr (3, [.int (nI 0), .int (nI ph), .int (zI og), .ref qx, .ref qk, .ref qw, .ref qb, .ref qn, .long mh, .long ml, .long nc, .int rs, .int (nI na), .ref qd, .int (nI nz), .ref qg, .long t1, .long t2]))] H := hP
  have hD : va_D A [(o, .inr (3, [.int (nI 0), .int (nI ph), .int (zI og), .ref qx, .ref qk, .ref qw, .ref qb, .ref qn, .long mh, .long ml, .long nc, .int rs, .int (nI na), .ref qd, .int (nI nz), .ref qg, .long t1, .long t2]))] := hD
  refine lv_aload_n hx hb dX3_at_5 rfl (lv_at hl 0 rfl) ?_
  refine va_get (D := (dC, dI)) (ci := 3) (v := .int (zI og)) (C := RX3) (T := TX3) (N := 18) hx hb hta inX3 hown hK hP 0 rfl rfl 2 (by decide) (hta _ mw_459) (fun _ h9 => h9) rfl dX3_at_6 ?_
  refine lv_if_ne (tgt := 27) hx hb dX3_at_9 (by decide) (fun hc_9 => ?_) (fun hc_9 => ?_)
  · skip
    refine lv_aload_n hx hb dX3_at_27 rfl (lv_at hl 0 rfl) ?_
    refine va_get (D := (dC, dI)) (ci := 3) (v := .int (nI ph)) (C := RX3) (T := TX3) (N := 18) hx hb hta inX3 hown hK hP 0 rfl rfl 1 (by decide) (hta _ mw_458) (fun _ h9 => h9) rfl dX3_at_28 ?_
    refine lv_iconst (v := nI 4) hx hb dX3_at_31 (by decide) ?_
    refine lv_icmp_ne (tgt := 39) hx hb dX3_at_32 (by decide) (fun hc_32 => ?_) (fun hc_32 => ?_)
    · skip
      have hc_32 := (not_congr (ix_eq (a := ph) (b := 4) (by omega) (by omega))).mp hc_32
      have hc_32 : ¬ (ph = 4) := hc_32
      refine lv_iconst (v := nI 0) hx hb dX3_at_39 (by decide) ?_
      refine lv_istore_n hx hb dX3_at_40 rfl hl (by decide) rfl (fun ls hl => ?_)
      have hl : lv_has ls 3 [(2, .int (nI 0)), (0, .ref o), (1, .int v)] := hl
      refine lv_iload_n hx hb dX3_at_41 rfl (lv_at hl 0 rfl) ?_
      refine lv_if_eq (tgt := 72) hx hb dX3_at_42 (by decide) (fun hc_42 => ?_) (fun hc_42 => ?_)
      · skip
        have hc_42 := (ix_eq (a := 0) (b := 0) (by omega) (by omega)).mp hc_42
        have hc_42 : (0 = 0) := hc_42
        refine lv_iconst (v := (-1 : Int32)) hx hb dX3_at_72 (by decide) ?_
        exact rt_i hx hb hr hlk hQ hAe hP hD hS [0] (by decide) rfl (Nat.le_of_ble_eq_true rfl) (Nat.le_of_ble_eq_true rfl) (rfl) dX3_at_73
      · skip
        have hc_42 := (not_congr (ix_eq (a := 0) (b := 0) (by omega) (by omega))).mp hc_42
        have hc_42 : ¬ (0 = 0) := hc_42
        exfalso; omega
    · skip
      have hc_32 := (ix_eq (a := ph) (b := 4) (by omega) (by omega)).mp hc_32
      have hc_32 : (ph = 4) := hc_32
      refine lv_iconst (v := nI 1) hx hb dX3_at_35 (by decide) ?_
      refine lv_goto (tgt := 40) hx hb dX3_at_36 (by decide) ?_
      refine lv_istore_n hx hb dX3_at_40 rfl hl (by decide) rfl (fun ls hl => ?_)
      have hl : lv_has ls 3 [(2, .int (nI 1)), (0, .ref o), (1, .int v)] := hl
      refine lv_iload_n hx hb dX3_at_41 rfl (lv_at hl 0 rfl) ?_
      refine lv_if_eq (tgt := 72) hx hb dX3_at_42 (by decide) (fun hc_42 => ?_) (fun hc_42 => ?_)
      · skip
        have hc_42 := (ix_eq (a := 1) (b := 0) (by omega) (by omega)).mp hc_42
        have hc_42 : (1 = 0) := hc_42
        exfalso; omega
      · skip
        have hc_42 := (not_congr (ix_eq (a := 1) (b := 0) (by omega) (by omega))).mp hc_42
        have hc_42 : ¬ (1 = 0) := hc_42
        refine lv_iload_n hx hb dX3_at_45 rfl (lv_at hl 2 rfl) ?_
        refine lv_if_lt (tgt := 72) hx hb dX3_at_46 (by decide) (fun hc_46 => ?_) (fun hc_46 => ?_)
        · skip
          refine lv_iconst (v := (-1 : Int32)) hx hb dX3_at_72 (by decide) ?_
          exact rt_i hx hb hr hlk hQ hAe hP hD hS [0] (by decide) rfl (Nat.le_of_ble_eq_true rfl) (Nat.le_of_ble_eq_true rfl) (rfl) dX3_at_73
        · skip
          refine lv_iload_n hx hb dX3_at_49 rfl (lv_at hl 2 rfl) ?_
          refine lv_aload_n hx hb dX3_at_50 rfl (lv_at hl 1 rfl) ?_
          refine va_get (D := (dC, dI)) (ci := 3) (v := .int (nI nz)) (C := RX3) (T := TX3) (N := 18) hx hb hta inX3 hown hK hP 0 rfl rfl 14 (by decide) (hta _ mw_471) (fun _ h9 => h9) rfl dX3_at_51 ?_
          refine lv_icmp_ge (tgt := 72) hx hb dX3_at_54 (by decide) (fun hc_54 => ?_) (fun hc_54 => ?_)
          · skip
            refine lv_iconst (v := (-1 : Int32)) hx hb dX3_at_72 (by decide) ?_
            exact rt_i hx hb hr hlk hQ hAe hP hD hS [0] (by decide) rfl (Nat.le_of_ble_eq_true rfl) (Nat.le_of_ble_eq_true rfl) (rfl) dX3_at_73
          · skip
            have h8 : shN ph og = true := by first | exact shA (zI0 (b := og) (by assumption)) (zI1 (b := uwN ph) (by assumption)) | exact shB (zI0 (b := og) (by assumption)) (by omega) | exact shC (by omega)
            rcases hno with h9 | h9 | h9
            · exact absurd h9 (by rw [h8]; decide)
            · exact absurd h9 (by assumption)
            · exact absurd h9 (by assumption)
  · skip
    refine lv_aload_n hx hb dX3_at_12 rfl (lv_at hl 0 rfl) ?_
    refine cf_1 (wr := []) (va_runV (As := []) (rest := []) ⟨hx, hb, hml, hown, hta⟩ (MO.to (m_isUnderWay l dC dI o (nI 0) ph og qx qk qw qb qn mh ml nc rs na qd nz qg t1 t2 hph6) H.size) (cwV 0 hta (aw_V mw_597 mw_594 mw_596 mw_s31 mw_5) rfl rfl rfl ⟨rfl, dyX3_isUnderWay⟩ ⟨(Nat.le_of_ble_eq_true rfl), (Nat.le_of_ble_eq_true rfl)⟩) (pr_V hP hD hK hE [0] [] (by decide) rfl rfl rfl rfl) rfl rfl hl.1 rfl (lv_room (Nat.le_of_ble_eq_true rfl)) dX3_at_13 ⟨(Nat.le_of_ble_eq_true rfl), (Nat.le_of_ble_eq_true rfl)⟩) hP hD hS hA [0] [] rfl rfl (by decide) (by decide) (fun H locs hP hD hS => ?_)
    have hP : va_P (dC, dI) vwCl [(o, .inr (3, [.int (nI 0), .int (nI ph), .int (zI og), .ref qx, .ref qk, .ref qw, .ref qb, .ref qn, .long mh, .long ml, .long nc, .int rs, .int (nI na), .ref qd, .int (nI nz), .ref qg, .long t1, .long t2]))] H := hP
    have hD : va_D A [(o, .inr (3, [.int (nI 0), .int (nI ph), .int (zI og), .ref qx, .ref qk, .ref qw, .ref qb, .ref qn, .long mh, .long ml, .long nc, .int rs, .int (nI na), .ref qd, .int (nI nz), .ref qg, .long t1, .long t2]))] := hD
    refine W.widen (k := 0) (n := 0) (Nat.le_of_ble_eq_true rfl) (Nat.le_of_ble_eq_true rfl) ?_
    refine w_pc (pc2 := 16) rfl ?_
    refine lv_if_ne (tgt := 35) hx hb dX3_at_16 (by decide) (fun hc_16 => ?_) (fun hc_16 => ?_)
    · skip
      refine lv_iconst (v := nI 1) hx hb dX3_at_35 (by decide) ?_
      refine lv_goto (tgt := 40) hx hb dX3_at_36 (by decide) ?_
      refine lv_istore_n hx hb dX3_at_40 rfl hl (by decide) rfl (fun ls hl => ?_)
      have hl : lv_has ls 3 [(2, .int (nI 1)), (0, .ref o), (1, .int v)] := hl
      refine lv_iload_n hx hb dX3_at_41 rfl (lv_at hl 0 rfl) ?_
      refine lv_if_eq (tgt := 72) hx hb dX3_at_42 (by decide) (fun hc_42 => ?_) (fun hc_42 => ?_)
      · skip
        have hc_42 := (ix_eq (a := 1) (b := 0) (by omega) (by omega)).mp hc_42
        have hc_42 : (1 = 0) := hc_42
        exfalso; omega
      · skip
        have hc_42 := (not_congr (ix_eq (a := 1) (b := 0) (by omega) (by omega))).mp hc_42
        have hc_42 : ¬ (1 = 0) := hc_42
        refine lv_iload_n hx hb dX3_at_45 rfl (lv_at hl 2 rfl) ?_
        refine lv_if_lt (tgt := 72) hx hb dX3_at_46 (by decide) (fun hc_46 => ?_) (fun hc_46 => ?_)
        · skip
          refine lv_iconst (v := (-1 : Int32)) hx hb dX3_at_72 (by decide) ?_
          exact rt_i hx hb hr hlk hQ hAe hP hD hS [0] (by decide) rfl (Nat.le_of_ble_eq_true rfl) (Nat.le_of_ble_eq_true rfl) (rfl) dX3_at_73
        · skip
          refine lv_iload_n hx hb dX3_at_49 rfl (lv_at hl 2 rfl) ?_
          refine lv_aload_n hx hb dX3_at_50 rfl (lv_at hl 1 rfl) ?_
          refine va_get (D := (dC, dI)) (ci := 3) (v := .int (nI nz)) (C := RX3) (T := TX3) (N := 18) hx hb hta inX3 hown hK hP 0 rfl rfl 14 (by decide) (hta _ mw_471) (fun _ h9 => h9) rfl dX3_at_51 ?_
          refine lv_icmp_ge (tgt := 72) hx hb dX3_at_54 (by decide) (fun hc_54 => ?_) (fun hc_54 => ?_)
          · skip
            refine lv_iconst (v := (-1 : Int32)) hx hb dX3_at_72 (by decide) ?_
            exact rt_i hx hb hr hlk hQ hAe hP hD hS [0] (by decide) rfl (Nat.le_of_ble_eq_true rfl) (Nat.le_of_ble_eq_true rfl) (rfl) dX3_at_73
          · skip
            have h8 : shN ph og = true := by first | exact shA (zI0 (b := og) (by assumption)) (zI1 (b := uwN ph) (by assumption)) | exact shB (zI0 (b := og) (by assumption)) (by omega) | exact shC (by omega)
            rcases hno with h9 | h9 | h9
            · exact absurd h9 (by rw [h8]; decide)
            · exact absurd h9 (by assumption)
            · exact absurd h9 (by assumption)
    · skip
      refine lv_aload_n hx hb dX3_at_19 rfl (lv_at hl 0 rfl) ?_
      refine va_get (D := (dC, dI)) (ci := 3) (v := .int (nI ph)) (C := RX3) (T := TX3) (N := 18) hx hb hta inX3 hown hK hP 0 rfl rfl 1 (by decide) (hta _ mw_458) (fun _ h9 => h9) rfl dX3_at_20 ?_
      refine lv_iconst (v := nI 3) hx hb dX3_at_23 (by decide) ?_
      refine lv_icmp_eq (tgt := 35) hx hb dX3_at_24 (by decide) (fun hc_24 => ?_) (fun hc_24 => ?_)
      · skip
        have hc_24 := (ix_eq (a := ph) (b := 3) (by omega) (by omega)).mp hc_24
        have hc_24 : (ph = 3) := hc_24
        refine lv_iconst (v := nI 1) hx hb dX3_at_35 (by decide) ?_
        refine lv_goto (tgt := 40) hx hb dX3_at_36 (by decide) ?_
        refine lv_istore_n hx hb dX3_at_40 rfl hl (by decide) rfl (fun ls hl => ?_)
        have hl : lv_has ls 3 [(2, .int (nI 1)), (0, .ref o), (1, .int v)] := hl
        refine lv_iload_n hx hb dX3_at_41 rfl (lv_at hl 0 rfl) ?_
        refine lv_if_eq (tgt := 72) hx hb dX3_at_42 (by decide) (fun hc_42 => ?_) (fun hc_42 => ?_)
        · skip
          have hc_42 := (ix_eq (a := 1) (b := 0) (by omega) (by omega)).mp hc_42
          have hc_42 : (1 = 0) := hc_42
          exfalso; omega
        · skip
          have hc_42 := (not_congr (ix_eq (a := 1) (b := 0) (by omega) (by omega))).mp hc_42
          have hc_42 : ¬ (1 = 0) := hc_42
          refine lv_iload_n hx hb dX3_at_45 rfl (lv_at hl 2 rfl) ?_
          refine lv_if_lt (tgt := 72) hx hb dX3_at_46 (by decide) (fun hc_46 => ?_) (fun hc_46 => ?_)
          · skip
            refine lv_iconst (v := (-1 : Int32)) hx hb dX3_at_72 (by decide) ?_
            exact rt_i hx hb hr hlk hQ hAe hP hD hS [0] (by decide) rfl (Nat.le_of_ble_eq_true rfl) (Nat.le_of_ble_eq_true rfl) (rfl) dX3_at_73
          · skip
            refine lv_iload_n hx hb dX3_at_49 rfl (lv_at hl 2 rfl) ?_
            refine lv_aload_n hx hb dX3_at_50 rfl (lv_at hl 1 rfl) ?_
            refine va_get (D := (dC, dI)) (ci := 3) (v := .int (nI nz)) (C := RX3) (T := TX3) (N := 18) hx hb hta inX3 hown hK hP 0 rfl rfl 14 (by decide) (hta _ mw_471) (fun _ h9 => h9) rfl dX3_at_51 ?_
            refine lv_icmp_ge (tgt := 72) hx hb dX3_at_54 (by decide) (fun hc_54 => ?_) (fun hc_54 => ?_)
            · skip
              refine lv_iconst (v := (-1 : Int32)) hx hb dX3_at_72 (by decide) ?_
              exact rt_i hx hb hr hlk hQ hAe hP hD hS [0] (by decide) rfl (Nat.le_of_ble_eq_true rfl) (Nat.le_of_ble_eq_true rfl) (rfl) dX3_at_73
            · skip
              have h8 : shN ph og = true := by first | exact shA (zI0 (b := og) (by assumption)) (zI1 (b := uwN ph) (by assumption)) | exact shB (zI0 (b := og) (by assumption)) (by omega) | exact shC (by omega)
              rcases hno with h9 | h9 | h9
              · exact absurd h9 (by rw [h8]; decide)
              · exact absurd h9 (by assumption)
              · exact absurd h9 (by assumption)
      · skip
        have hc_24 := (not_congr (ix_eq (a := ph) (b := 3) (by omega) (by omega))).mp hc_24
        have hc_24 : ¬ (ph = 3) := hc_24
        refine lv_aload_n hx hb dX3_at_27 rfl (lv_at hl 0 rfl) ?_
        refine va_get (D := (dC, dI)) (ci := 3) (v := .int (nI ph)) (C := RX3) (T := TX3) (N := 18) hx hb hta inX3 hown hK hP 0 rfl rfl 1 (by decide) (hta _ mw_458) (fun _ h9 => h9) rfl dX3_at_28 ?_
        refine lv_iconst (v := nI 4) hx hb dX3_at_31 (by decide) ?_
        refine lv_icmp_ne (tgt := 39) hx hb dX3_at_32 (by decide) (fun hc_32 => ?_) (fun hc_32 => ?_)
        · skip
          have hc_32 := (not_congr (ix_eq (a := ph) (b := 4) (by omega) (by omega))).mp hc_32
          have hc_32 : ¬ (ph = 4) := hc_32
          refine lv_iconst (v := nI 0) hx hb dX3_at_39 (by decide) ?_
          refine lv_istore_n hx hb dX3_at_40 rfl hl (by decide) rfl (fun ls hl => ?_)
          have hl : lv_has ls 3 [(2, .int (nI 0)), (0, .ref o), (1, .int v)] := hl
          refine lv_iload_n hx hb dX3_at_41 rfl (lv_at hl 0 rfl) ?_
          refine lv_if_eq (tgt := 72) hx hb dX3_at_42 (by decide) (fun hc_42 => ?_) (fun hc_42 => ?_)
          · skip
            have hc_42 := (ix_eq (a := 0) (b := 0) (by omega) (by omega)).mp hc_42
            have hc_42 : (0 = 0) := hc_42
            refine lv_iconst (v := (-1 : Int32)) hx hb dX3_at_72 (by decide) ?_
            exact rt_i hx hb hr hlk hQ hAe hP hD hS [0] (by decide) rfl (Nat.le_of_ble_eq_true rfl) (Nat.le_of_ble_eq_true rfl) (rfl) dX3_at_73
          · skip
            have hc_42 := (not_congr (ix_eq (a := 0) (b := 0) (by omega) (by omega))).mp hc_42
            have hc_42 : ¬ (0 = 0) := hc_42
            exfalso; omega
        · skip
          have hc_32 := (ix_eq (a := ph) (b := 4) (by omega) (by omega)).mp hc_32
          have hc_32 : (ph = 4) := hc_32
          refine lv_iconst (v := nI 1) hx hb dX3_at_35 (by decide) ?_
          refine lv_goto (tgt := 40) hx hb dX3_at_36 (by decide) ?_
          refine lv_istore_n hx hb dX3_at_40 rfl hl (by decide) rfl (fun ls hl => ?_)
          have hl : lv_has ls 3 [(2, .int (nI 1)), (0, .ref o), (1, .int v)] := hl
          refine lv_iload_n hx hb dX3_at_41 rfl (lv_at hl 0 rfl) ?_
          refine lv_if_eq (tgt := 72) hx hb dX3_at_42 (by decide) (fun hc_42 => ?_) (fun hc_42 => ?_)
          · skip
            have hc_42 := (ix_eq (a := 1) (b := 0) (by omega) (by omega)).mp hc_42
            have hc_42 : (1 = 0) := hc_42
            exfalso; omega
          · skip
            have hc_42 := (not_congr (ix_eq (a := 1) (b := 0) (by omega) (by omega))).mp hc_42
            have hc_42 : ¬ (1 = 0) := hc_42
            refine lv_iload_n hx hb dX3_at_45 rfl (lv_at hl 2 rfl) ?_
            refine lv_if_lt (tgt := 72) hx hb dX3_at_46 (by decide) (fun hc_46 => ?_) (fun hc_46 => ?_)
            · skip
              refine lv_iconst (v := (-1 : Int32)) hx hb dX3_at_72 (by decide) ?_
              exact rt_i hx hb hr hlk hQ hAe hP hD hS [0] (by decide) rfl (Nat.le_of_ble_eq_true rfl) (Nat.le_of_ble_eq_true rfl) (rfl) dX3_at_73
            · skip
              refine lv_iload_n hx hb dX3_at_49 rfl (lv_at hl 2 rfl) ?_
              refine lv_aload_n hx hb dX3_at_50 rfl (lv_at hl 1 rfl) ?_
              refine va_get (D := (dC, dI)) (ci := 3) (v := .int (nI nz)) (C := RX3) (T := TX3) (N := 18) hx hb hta inX3 hown hK hP 0 rfl rfl 14 (by decide) (hta _ mw_471) (fun _ h9 => h9) rfl dX3_at_51 ?_
              refine lv_icmp_ge (tgt := 72) hx hb dX3_at_54 (by decide) (fun hc_54 => ?_) (fun hc_54 => ?_)
              · skip
                refine lv_iconst (v := (-1 : Int32)) hx hb dX3_at_72 (by decide) ?_
                exact rt_i hx hb hr hlk hQ hAe hP hD hS [0] (by decide) rfl (Nat.le_of_ble_eq_true rfl) (Nat.le_of_ble_eq_true rfl) (rfl) dX3_at_73
              · skip
                have h8 : shN ph og = true := by first | exact shA (zI0 (b := og) (by assumption)) (zI1 (b := uwN ph) (by assumption)) | exact shB (zI0 (b := og) (by assumption)) (by omega) | exact shC (by omega)
                rcases hno with h9 | h9 | h9
                · exact absurd h9 (by rw [h8]; decide)
                · exact absurd h9 (by assumption)
                · exact absurd h9 (by assumption)

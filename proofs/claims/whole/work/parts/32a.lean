def rm_m_word_y : Room := { frames := 1, cells := 0, slots := 0, locals := 23 }
set_option maxHeartbeats 4000000 in
set_option maxRecDepth 100000 in
/-- word(j) -/
theorem m_word_y (l : Launch) (dC : Nat → ClassId) (dI : Nat → Nat → Nat) (o : Nat) (th : Int32) (ph : Nat) (og : Bool) (qx : Nat) (qk : Nat) (qw : Nat) (qb : Nat) (qn : Nat) (mh : Int64) (ml : Int64) (nc : Int64) (rs : Int32) (na : Nat) (qd : Nat) (nz : Nat) (qg : Nat) (t1 : Int64) (t2 : Int64) (kw : ClassId) (w : Nat → Int32) (j : Nat) (hj : j < 44) : MO l dC dI yX3_word wsX3_word rm_m_word_y [.ref o, .int (nI j)] [(o, .inr (3, [.int th, .int (nI ph), .int (zI og), .ref qx, .ref qk, .ref qw, .ref qb, .ref qn, .long mh, .long ml, .long nc, .int rs, .int (nI na), .ref qd, .int (nI nz), .ref qg, .long t1, .long t2])), (qw, .inl (kw, 44, .inl w))] [(kw, .int)] [(o, .inr (3, [.int (nI 0), .int (nI ph), .int (zI og), .ref qx, .ref qk, .ref qw, .ref qb, .ref qn, .long mh, .long ml, .long nc, .int rs, .int (nI na), .ref qd, .int (nI nz), .ref qg, .long t1, .long t2])), (qw, .inl (kw, 44, .inl w))] (some (.int (w j))) := by
  refine mo_ofW (cc := cX3_word) (maxL := 2) (ret := (some .int)) (by decide) rfl (Nat.le_of_ble_eq_true rfl) ?_
  intro p e s m args below meth c Q A H locs ls hx hb hr hlk hml hta hown hin hE hQ hAe hA hK hP hD hS hl
  have hown : s.vm.findClass RX3 = some m.cls := hown
  have hl : lv_has ls 2 [(0, .ref o), (1, .int (nI j))] := hl
  refine lv_aload_n hx hb dX3_word_0 rfl (lv_at hl 0 rfl) ?_
  refine lv_iload_n hx hb dX3_word_1 rfl (lv_at hl 1 rfl) ?_
  refine lv_if_lt (tgt := 11) hx hb dX3_word_2 (by decide) (fun hc_2 => ?_) (fun hc_2 => ?_)
  · skip
    have hc_2 := (ix_lt (a := j) (b := 0) (by omega) (by omega)).mp hc_2
    have hc_2 : (j < 0) := hc_2
    exfalso; omega
  · skip
    have hc_2 := (not_congr (ix_lt (a := j) (b := 0) (by omega) (by omega))).mp hc_2
    have hc_2 : ¬ (j < 0) := hc_2
    refine lv_iload_n hx hb dX3_word_5 rfl (lv_at hl 1 rfl) ?_
    refine lv_bipush (v := nI 43) hx hb dX3_word_6 (by decide) ?_
    refine lv_icmp_le (tgt := 15) hx hb dX3_word_8 (by decide) (fun hc_8 => ?_) (fun hc_8 => ?_)
    · skip
      have hc_8 := (ix_le (a := j) (b := 43) (by omega) (by omega)).mp hc_8
      have hc_8 : (j ≤ 43) := hc_8
      refine lv_iconst (v := nI 0) hx hb dX3_word_15 (by decide) ?_
      refine lv_iconst (v := nI 0) hx hb dX3_word_16 (by decide) ?_
      refine lv_iconst (v := nI 0) hx hb dX3_word_17 (by decide) ?_
      refine cf_1 (wr := [(qw, .inl (kw, 44, .inl w))]) (va_runV (As := [.int (nI 0), .int (nI 0), .int (nI 0)]) (rest := []) ⟨hx, hb, hml, hown, hta⟩ (MO.to (m_refuses l dC dI o th ph og qx qk qw qb qn mh ml nc rs na qd nz qg t1 t2 false false false) H.size) (cwV 3 hta (aw_V mw_527 mw_524 mw_526 mw_s21 mw_5) rfl rfl rfl ⟨rfl, dyX3_refuses⟩ ⟨(Nat.le_of_ble_eq_true rfl), (Nat.le_of_ble_eq_true rfl)⟩) (pr_V hP hD hK hE [0] [] (by decide) rfl rfl rfl rfl) rfl rfl hl.1 rfl (lv_room (Nat.le_of_ble_eq_true rfl)) dX3_word_18 ⟨(Nat.le_of_ble_eq_true rfl), (Nat.le_of_ble_eq_true rfl)⟩) hP hD hS hA [0] [1] rfl rfl (by decide) (by decide) (fun H locs hP hD hS => ?_)
      have hP : va_P (dC, dI) vwCl [(qw, .inl (kw, 44, .inl w)), (o, .inr (3, [.int (rfN false false false), .int (nI ph), .int (zI og), .ref qx, .ref qk, .ref qw, .ref qb, .ref qn, .long mh, .long ml, .long nc, .int rs, .int (nI na), .ref qd, .int (nI nz), .ref qg, .long t1, .long t2]))] H := hP
      have hD : va_D A [(qw, .inl (kw, 44, .inl w)), (o, .inr (3, [.int (rfN false false false), .int (nI ph), .int (zI og), .ref qx, .ref qk, .ref qw, .ref qb, .ref qn, .long mh, .long ml, .long nc, .int rs, .int (nI na), .ref qd, .int (nI nz), .ref qg, .long t1, .long t2]))] := hD
      refine W.widen (k := 0) (n := 0) (Nat.le_of_ble_eq_true rfl) (Nat.le_of_ble_eq_true rfl) ?_
      have e9 : rfN false false false = nI 0 := rfl
      have hP : va_P (dC, dI) vwCl [(qw, .inl (kw, 44, .inl w)), (o, .inr (3, [.int (nI 0), .int (nI ph), .int (zI og), .ref qx, .ref qk, .ref qw, .ref qb, .ref qn, .long mh, .long ml, .long nc, .int rs, .int (nI na), .ref qd, .int (nI nz), .ref qg, .long t1, .long t2]))] H := by rw [← e9]; exact hP
      have hD : va_D A [(qw, .inl (kw, 44, .inl w)), (o, .inr (3, [.int (nI 0), .int (nI ph), .int (zI og), .ref qx, .ref qk, .ref qw, .ref qb, .ref qn, .long mh, .long ml, .long nc, .int rs, .int (nI na), .ref qd, .int (nI nz), .ref qg, .long t1, .long t2]))] := by rw [← e9]; exact hD
      refine w_pc (pc2 := 21) rfl ?_
      refine lv_if_eq (tgt := 28) hx hb dX3_word_21 (by decide) (fun hc_21 => ?_) (fun hc_21 => ?_)
      · skip
        refine lv_aload_n hx hb dX3_word_28 rfl (lv_at hl 0 rfl) ?_
        refine va_get (D := (dC, dI)) (ci := 3) (v := .ref qw) (C := RX3) (T := TX3) (N := 18) hx hb hta inX3 hown hK hP 1 rfl rfl 5 (by decide) (hta _ mw_462) (fun _ h9 => h9) rfl dX3_word_29 ?_
        refine lv_iload_n hx hb dX3_word_32 rfl (lv_at hl 1 rfl) ?_
        refine va_ialn hx hb hK hP 0 0 rfl rfl (by omega) (by decide) dX3_word_33 ?_
        exact rt_i hx hb hr hlk hQ hAe hP hD hS [1, 0] (by decide) rfl (Nat.le_of_ble_eq_true rfl) (Nat.le_of_ble_eq_true rfl) (rfl) dX3_word_34
      · skip
        exact absurd (by decide) hc_21
    · skip
      have hc_8 := (not_congr (ix_le (a := j) (b := 43) (by omega) (by omega))).mp hc_8
      have hc_8 : ¬ (j ≤ 43) := hc_8
      exfalso; omega

def rm_m_word_n : Room := { frames := 1, cells := 0, slots := 0, locals := 23 }
set_option maxHeartbeats 4000000 in
set_option maxRecDepth 100000 in
/-- word, refused -/
theorem m_word_n (l : Launch) (dC : Nat → ClassId) (dI : Nat → Nat → Nat) (o : Nat) (th : Int32) (ph : Nat) (og : Bool) (qx : Nat) (qk : Nat) (qw : Nat) (qb : Nat) (qn : Nat) (mh : Int64) (ml : Int64) (nc : Int64) (rs : Int32) (na : Nat) (qd : Nat) (nz : Nat) (qg : Nat) (t1 : Int64) (t2 : Int64) (v : Int32) (hno : v < 0 ∨ nI 44 ≤ v) : MO l dC dI yX3_word wsX3_word rm_m_word_n [.ref o, .int v] [(o, .inr (3, [.int th, .int (nI ph), .int (zI og), .ref qx, .ref qk, .ref qw, .ref qb, .ref qn, .long mh, .long ml, .long nc, .int rs, .int (nI na), .ref qd, .int (nI nz), .ref qg, .long t1, .long t2]))] [] [(o, .inr (3, [.int (nI 1), .int (nI ph), .int (zI og), .ref qx, .ref qk, .ref qw, .ref qb, .ref qn, .long mh, .long ml, .long nc, .int rs, .int (nI na), .ref qd, .int (nI nz), .ref qg, .long t1, .long t2]))] (some (.int (nI 0))) := by
  refine mo_ofW (cc := cX3_word) (maxL := 2) (ret := (some .int)) (by decide) rfl (Nat.le_of_ble_eq_true rfl) ?_
  intro p e s m args below meth c Q A H locs ls hx hb hr hlk hml hta hown hin hE hQ hAe hA hK hP hD hS hl
  have hown : s.vm.findClass RX3 = some m.cls := hown
  have hl : lv_has ls 2 [(0, .ref o), (1, .int v)] := hl
  refine lv_aload_n hx hb dX3_word_0 rfl (lv_at hl 0 rfl) ?_
  refine lv_iload_n hx hb dX3_word_1 rfl (lv_at hl 1 rfl) ?_
  refine lv_if_lt (tgt := 11) hx hb dX3_word_2 (by decide) (fun hc_2 => ?_) (fun hc_2 => ?_)
  · skip
    refine lv_iconst (v := nI 1) hx hb dX3_word_11 (by decide) ?_
    refine lv_goto (tgt := 16) hx hb dX3_word_12 (by decide) ?_
    refine lv_iconst (v := nI 0) hx hb dX3_word_16 (by decide) ?_
    refine lv_iconst (v := nI 0) hx hb dX3_word_17 (by decide) ?_
    refine cf_1 (wr := []) (va_runV (As := [.int (nI 1), .int (nI 0), .int (nI 0)]) (rest := []) ⟨hx, hb, hml, hown, hta⟩ (MO.to (m_refuses l dC dI o th ph og qx qk qw qb qn mh ml nc rs na qd nz qg t1 t2 true false false) H.size) (cwV 3 hta (aw_V mw_527 mw_524 mw_526 mw_s21 mw_5) rfl rfl rfl ⟨rfl, dyX3_refuses⟩ ⟨(Nat.le_of_ble_eq_true rfl), (Nat.le_of_ble_eq_true rfl)⟩) (pr_V hP hD hK hE [0] [] (by decide) rfl rfl rfl rfl) rfl rfl hl.1 rfl (lv_room (Nat.le_of_ble_eq_true rfl)) dX3_word_18 ⟨(Nat.le_of_ble_eq_true rfl), (Nat.le_of_ble_eq_true rfl)⟩) hP hD hS hA [0] [] rfl rfl (by decide) (by decide) (fun H locs hP hD hS => ?_)
    have hP : va_P (dC, dI) vwCl [(o, .inr (3, [.int (rfN true false false), .int (nI ph), .int (zI og), .ref qx, .ref qk, .ref qw, .ref qb, .ref qn, .long mh, .long ml, .long nc, .int rs, .int (nI na), .ref qd, .int (nI nz), .ref qg, .long t1, .long t2]))] H := hP
    have hD : va_D A [(o, .inr (3, [.int (rfN true false false), .int (nI ph), .int (zI og), .ref qx, .ref qk, .ref qw, .ref qb, .ref qn, .long mh, .long ml, .long nc, .int rs, .int (nI na), .ref qd, .int (nI nz), .ref qg, .long t1, .long t2]))] := hD
    refine W.widen (k := 0) (n := 0) (Nat.le_of_ble_eq_true rfl) (Nat.le_of_ble_eq_true rfl) ?_
    have e9 : rfN true false false = nI 1 := rfl
    have hP : va_P (dC, dI) vwCl [(o, .inr (3, [.int (nI 1), .int (nI ph), .int (zI og), .ref qx, .ref qk, .ref qw, .ref qb, .ref qn, .long mh, .long ml, .long nc, .int rs, .int (nI na), .ref qd, .int (nI nz), .ref qg, .long t1, .long t2]))] H := by rw [← e9]; exact hP
    have hD : va_D A [(o, .inr (3, [.int (nI 1), .int (nI ph), .int (zI og), .ref qx, .ref qk, .ref qw, .ref qb, .ref qn, .long mh, .long ml, .long nc, .int rs, .int (nI na), .ref qd, .int (nI nz), .ref qg, .long t1, .long t2]))] := by rw [← e9]; exact hD
    refine w_pc (pc2 := 21) rfl ?_
    refine lv_if_eq (tgt := 28) hx hb dX3_word_21 (by decide) (fun hc_21 => ?_) (fun hc_21 => ?_)
    · skip
      exact absurd hc_21 (by decide)
    · skip
      refine lv_iconst (v := nI 0) hx hb dX3_word_24 (by decide) ?_
      refine lv_goto (tgt := 34) hx hb dX3_word_25 (by decide) ?_
      exact rt_i hx hb hr hlk hQ hAe hP hD hS [0] (by decide) rfl (Nat.le_of_ble_eq_true rfl) (Nat.le_of_ble_eq_true rfl) (rfl) dX3_word_34
  · skip
    refine lv_iload_n hx hb dX3_word_5 rfl (lv_at hl 1 rfl) ?_
    refine lv_bipush (v := nI 43) hx hb dX3_word_6 (by decide) ?_
    refine lv_icmp_le (tgt := 15) hx hb dX3_word_8 (by decide) (fun hc_8 => ?_) (fun hc_8 => ?_)
    · skip
      exact absurd hc_8 (ge_le hno (by assumption) (by decide))
    · skip
      refine lv_iconst (v := nI 1) hx hb dX3_word_11 (by decide) ?_
      refine lv_goto (tgt := 16) hx hb dX3_word_12 (by decide) ?_
      refine lv_iconst (v := nI 0) hx hb dX3_word_16 (by decide) ?_
      refine lv_iconst (v := nI 0) hx hb dX3_word_17 (by decide) ?_
      refine cf_1 (wr := []) (va_runV (As := [.int (nI 1), .int (nI 0), .int (nI 0)]) (rest := []) ⟨hx, hb, hml, hown, hta⟩ (MO.to (m_refuses l dC dI o th ph og qx qk qw qb qn mh ml nc rs na qd nz qg t1 t2 true false false) H.size) (cwV 3 hta (aw_V mw_527 mw_524 mw_526 mw_s21 mw_5) rfl rfl rfl ⟨rfl, dyX3_refuses⟩ ⟨(Nat.le_of_ble_eq_true rfl), (Nat.le_of_ble_eq_true rfl)⟩) (pr_V hP hD hK hE [0] [] (by decide) rfl rfl rfl rfl) rfl rfl hl.1 rfl (lv_room (Nat.le_of_ble_eq_true rfl)) dX3_word_18 ⟨(Nat.le_of_ble_eq_true rfl), (Nat.le_of_ble_eq_true rfl)⟩) hP hD hS hA [0] [] rfl rfl (by decide) (by decide) (fun H locs hP hD hS => ?_)
      have hP : va_P (dC, dI) vwCl [(o, .inr (3, [.int (rfN true false false), .int (nI ph), .int (zI og), .ref qx, .ref qk, .ref qw, .ref qb, .ref qn, .long mh, .long ml, .long nc, .int rs, .int (nI na), .ref qd, .int (nI nz), .ref qg, .long t1, .long t2]))] H := hP
      have hD : va_D A [(o, .inr (3, [.int (rfN true false false), .int (nI ph), .int (zI og), .ref qx, .ref qk, .ref qw, .ref qb, .ref qn, .long mh, .long ml, .long nc, .int rs, .int (nI na), .ref qd, .int (nI nz), .ref qg, .long t1, .long t2]))] := hD
      refine W.widen (k := 0) (n := 0) (Nat.le_of_ble_eq_true rfl) (Nat.le_of_ble_eq_true rfl) ?_
      have e9 : rfN true false false = nI 1 := rfl
      have hP : va_P (dC, dI) vwCl [(o, .inr (3, [.int (nI 1), .int (nI ph), .int (zI og), .ref qx, .ref qk, .ref qw, .ref qb, .ref qn, .long mh, .long ml, .long nc, .int rs, .int (nI na), .ref qd, .int (nI nz), .ref qg, .long t1, .long t2]))] H := by rw [← e9]; exact hP
      have hD : va_D A [(o, .inr (3, [.int (nI 1), .int (nI ph), .int (zI og), .ref qx, .ref qk, .ref qw, .ref qb, .ref qn, .long mh, .long ml, .long nc, .int rs, .int (nI na), .ref qd, .int (nI nz), .ref qg, .long t1, .long t2]))] := by rw [← e9]; exact hD
      refine w_pc (pc2 := 21) rfl ?_
      refine lv_if_eq (tgt := 28) hx hb dX3_word_21 (by decide) (fun hc_21 => ?_) (fun hc_21 => ?_)
      · skip
        exact absurd hc_21 (by decide)
      · skip
        refine lv_iconst (v := nI 0) hx hb dX3_word_24 (by decide) ?_
        refine lv_goto (tgt := 34) hx hb dX3_word_25 (by decide) ?_
        exact rt_i hx hb hr hlk hQ hAe hP hD hS [0] (by decide) rfl (Nat.le_of_ble_eq_true rfl) (Nat.le_of_ble_eq_true rfl) (rfl) dX3_word_34

def rm_m_aside_y : Room := { frames := 1, cells := 0, slots := 0, locals := 23 }
set_option maxHeartbeats 4000000 in
set_option maxRecDepth 100000 in
/-- aside -/
theorem m_aside_y (l : Launch) (dC : Nat → ClassId) (dI : Nat → Nat → Nat) (o : Nat) (th : Int32) (ph : Nat) (og : Bool) (qx : Nat) (qk : Nat) (qw : Nat) (qb : Nat) (qn : Nat) (mh : Int64) (ml : Int64) (nc : Int64) (rs : Int32) (na : Nat) (qd : Nat) (nz : Nat) (qg : Nat) (t1 : Int64) (t2 : Int64) (kd : ClassId) (bd : Nat → Nat) (y : Int64) (cn : Nat) (hph : ph = 1) (hcn : cn ≤ 8) (hna : na + cn ≤ 48) : MO l dC dI yX3_aside wsX3_aside rm_m_aside_y [.ref o, .long y, .int (nI cn)] [(o, .inr (3, [.int th, .int (nI ph), .int (zI og), .ref qx, .ref qk, .ref qw, .ref qb, .ref qn, .long mh, .long ml, .long nc, .int rs, .int (nI na), .ref qd, .int (nI nz), .ref qg, .long t1, .long t2])), (qd, .inl (kd, 48, .inl (nF bd)))] [(kd, .int)] [(o, .inr (3, [.int (nI 0), .int (nI ph), .int (zI og), .ref qx, .ref qk, .ref qw, .ref qb, .ref qn, .long mh, .long ml, .long nc, .int rs, .int (nI (na + cn)), .ref qd, .int (nI nz), .ref qg, .long t1, .long t2])), (qd, .inl (kd, 48, .inl (nF (ofl (pbN y) bd na cn))))] (some (.int (nI (na + cn)))) := by
  refine mo_ofW (cc := cX3_aside) (maxL := 5) (ret := (some .int)) (by decide) rfl (Nat.le_of_ble_eq_true rfl) ?_
  intro p e s m args below meth c Q A H locs ls hx hb hr hlk hml hta hown hin hE hQ hAe hA hK hP hD hS hl
  have hown : s.vm.findClass RX3 = some m.cls := hown
  have hl : lv_has ls 5 [(0, .ref o), (1, .long y), (3, .int (nI cn))] := hl
  refine lv_aload_n hx hb dX3_aside_0 rfl (lv_at hl 0 rfl) ?_
  refine lv_aload_n hx hb dX3_aside_1 rfl (lv_at hl 0 rfl) ?_
  refine va_get (D := (dC, dI)) (ci := 3) (v := .int (nI ph)) (C := RX3) (T := TX3) (N := 18) hx hb hta inX3 hown hK hP 0 rfl rfl 1 (by decide) (hta _ mw_458) (fun _ h9 => h9) rfl dX3_aside_2 ?_
  refine lv_iconst (v := nI 1) hx hb dX3_aside_5 (by decide) ?_
  refine lv_icmp_eq (tgt := 13) hx hb dX3_aside_6 (by decide) (fun hc_6 => ?_) (fun hc_6 => ?_)
  · skip
    have hc_6 := (ix_eq (a := ph) (b := 1) (by omega) (by omega)).mp hc_6
    have hc_6 : (ph = 1) := hc_6
    refine lv_iconst (v := nI 0) hx hb dX3_aside_13 (by decide) ?_
    refine lv_iload_n hx hb dX3_aside_14 rfl (lv_at hl 2 rfl) ?_
    refine lv_if_lt (tgt := 24) hx hb dX3_aside_15 (by decide) (fun hc_15 => ?_) (fun hc_15 => ?_)
    · skip
      have hc_15 := (ix_lt (a := cn) (b := 0) (by omega) (by omega)).mp hc_15
      have hc_15 : (cn < 0) := hc_15
      exfalso; omega
    · skip
      have hc_15 := (not_congr (ix_lt (a := cn) (b := 0) (by omega) (by omega))).mp hc_15
      have hc_15 : ¬ (cn < 0) := hc_15
      refine lv_iload_n hx hb dX3_aside_18 rfl (lv_at hl 2 rfl) ?_
      refine lv_bipush (v := nI 8) hx hb dX3_aside_19 (by decide) ?_
      refine lv_icmp_le (tgt := 28) hx hb dX3_aside_21 (by decide) (fun hc_21 => ?_) (fun hc_21 => ?_)
      · skip
        have hc_21 := (ix_le (a := cn) (b := 8) (by omega) (by omega)).mp hc_21
        have hc_21 : (cn ≤ 8) := hc_21
        refine lv_iconst (v := nI 0) hx hb dX3_aside_28 (by decide) ?_
        refine lv_aload_n hx hb dX3_aside_29 rfl (lv_at hl 0 rfl) ?_
        refine va_get (D := (dC, dI)) (ci := 3) (v := .int (nI na)) (C := RX3) (T := TX3) (N := 18) hx hb hta inX3 hown hK hP 0 rfl rfl 12 (by decide) (hta _ mw_469) (fun _ h9 => h9) rfl dX3_aside_30 ?_
        refine lv_iload_n hx hb dX3_aside_33 rfl (lv_at hl 2 rfl) ?_
        refine lv_iadd hx hb dX3_aside_34 (top_i (nI_add _ _) ?_)
        refine lv_bipush (v := nI 48) hx hb dX3_aside_35 (by decide) ?_
        refine lv_icmp_le (tgt := 44) hx hb dX3_aside_37 (by decide) (fun hc_37 => ?_) (fun hc_37 => ?_)
        · skip
          have hc_37 := (ix_le (a := na + cn) (b := 48) (by omega) (by omega)).mp hc_37
          have hc_37 : ((na + cn) ≤ 48) := hc_37
          refine lv_iconst (v := nI 0) hx hb dX3_aside_44 (by decide) ?_
          refine cf_1 (wr := [(qd, .inl (kd, 48, .inl (nF bd)))]) (va_runV (As := [.int (nI 0), .int (nI 0), .int (nI 0)]) (rest := []) ⟨hx, hb, hml, hown, hta⟩ (MO.to (m_refuses l dC dI o th ph og qx qk qw qb qn mh ml nc rs na qd nz qg t1 t2 false false false) H.size) (cwV 3 hta (aw_V mw_527 mw_524 mw_526 mw_s21 mw_5) rfl rfl rfl ⟨rfl, dyX3_refuses⟩ ⟨(Nat.le_of_ble_eq_true rfl), (Nat.le_of_ble_eq_true rfl)⟩) (pr_V hP hD hK hE [0] [] (by decide) rfl rfl rfl rfl) rfl rfl hl.1 rfl (lv_room (Nat.le_of_ble_eq_true rfl)) dX3_aside_45 ⟨(Nat.le_of_ble_eq_true rfl), (Nat.le_of_ble_eq_true rfl)⟩) hP hD hS hA [0] [1] rfl rfl (by decide) (by decide) (fun H locs hP hD hS => ?_)
          have hP : va_P (dC, dI) vwCl [(qd, .inl (kd, 48, .inl (nF bd))), (o, .inr (3, [.int (rfN false false false), .int (nI ph), .int (zI og), .ref qx, .ref qk, .ref qw, .ref qb, .ref qn, .long mh, .long ml, .long nc, .int rs, .int (nI na), .ref qd, .int (nI nz), .ref qg, .long t1, .long t2]))] H := hP
          have hD : va_D A [(qd, .inl (kd, 48, .inl (nF bd))), (o, .inr (3, [.int (rfN false false false), .int (nI ph), .int (zI og), .ref qx, .ref qk, .ref qw, .ref qb, .ref qn, .long mh, .long ml, .long nc, .int rs, .int (nI na), .ref qd, .int (nI nz), .ref qg, .long t1, .long t2]))] := hD
          refine W.widen (k := 0) (n := 0) (Nat.le_of_ble_eq_true rfl) (Nat.le_of_ble_eq_true rfl) ?_
          have e9 : rfN false false false = nI 0 := rfl
          have hP : va_P (dC, dI) vwCl [(qd, .inl (kd, 48, .inl (nF bd))), (o, .inr (3, [.int (nI 0), .int (nI ph), .int (zI og), .ref qx, .ref qk, .ref qw, .ref qb, .ref qn, .long mh, .long ml, .long nc, .int rs, .int (nI na), .ref qd, .int (nI nz), .ref qg, .long t1, .long t2]))] H := by rw [← e9]; exact hP
          have hD : va_D A [(qd, .inl (kd, 48, .inl (nF bd))), (o, .inr (3, [.int (nI 0), .int (nI ph), .int (zI og), .ref qx, .ref qk, .ref qw, .ref qb, .ref qn, .long mh, .long ml, .long nc, .int rs, .int (nI na), .ref qd, .int (nI nz), .ref qg, .long t1, .long t2]))] := by rw [← e9]; exact hD
          refine w_pc (pc2 := 48) rfl ?_
          refine lv_if_eq (tgt := 53) hx hb dX3_aside_48 (by decide) (fun hc_48 => ?_) (fun hc_48 => ?_)
          · skip
            refine lv_iconst (v := nI 0) hx hb dX3_aside_53 (by decide) ?_
            refine lv_istore hx hb dX3_aside_54 hl (by decide) rfl (fun ls hl => ?_)
            have hl : lv_has ls 5 [(4, .int (nI 0)), (0, .ref o), (1, .long y), (3, .int (nI cn))] := hl
            obtain ⟨hP, hD⟩ := va_recb (g := ofl (pbN y) bd na 0) hP hD 0 rfl (fun i _ => ofl_0 _ bd na i)
            have hP : va_P (dC, dI) vwCl [(qd, .inl (kd, 48, .inl (nF (ofl (pbN y) bd na 0)))), (o, .inr (3, [.int (nI 0), .int (nI ph), .int (zI og), .ref qx, .ref qk, .ref qw, .ref qb, .ref qn, .long mh, .long ml, .long nc, .int rs, .int (nI na), .ref qd, .int (nI nz), .ref qg, .long t1, .long t2]))] H := hP
            have hD : va_D A [(qd, .inl (kd, 48, .inl (nF (ofl (pbN y) bd na 0)))), (o, .inr (3, [.int (nI 0), .int (nI ph), .int (zI og), .ref qx, .ref qk, .ref qw, .ref qb, .ref qn, .long mh, .long ml, .long nc, .int rs, .int (nI na), .ref qd, .int (nI nz), .ref qg, .long t1, .long t2]))] := hD
            have loop_56 : ∀ (n k : Nat) (ls : Array Slot) (H : Heap) (locs : List Loc), k + n = cn → lv_has ls 5 [(4, .int (nI k)), (0, .ref o), (1, .long y), (3, .int (nI cn))] → va_P (dC, dI) vwCl [(qd, .inl (kd, 48, .inl (nF (ofl (pbN y) bd na k)))), (o, .inr (3, [.int (nI 0), .int (nI ph), .int (zI og), .ref qx, .ref qk, .ref qw, .ref qb, .ref qn, .long mh, .long ml, .long nc, .int rs, .int (nI (na + k)), .ref qd, .int (nI nz), .ref qg, .long t1, .long t2]))] H → va_D A [(qd, .inl (kd, 48, .inl (nF (ofl (pbN y) bd na k)))), (o, .inr (3, [.int (nI 0), .int (nI ph), .int (zI og), .ref qx, .ref qk, .ref qw, .ref qb, .ref qn, .long mh, .long ml, .long nc, .int rs, .int (nI (na + k)), .ref qd, .int (nI nz), .ref qg, .long t1, .long t2]))] → va_S A s.heap H locs → W p l e rm_m_aside_y s m args below meth c H locs 0 0 Q (F0 m 56 ls []) := by
              intro n
              induction n with
              | zero =>
                intro k ls H locs hn_56  hl hP hD hS
                obtain rfl : cn = k := by omega
                refine lv_iload hx hb dX3_aside_56 (lv_at hl 0 rfl) ?_
                refine lv_iload_n hx hb dX3_aside_58 rfl (lv_at hl 3 rfl) ?_
                refine lv_icmp_ge (tgt := 99) hx hb dX3_aside_59 (by decide) (fun hc_59 => ?_) (fun hc_59 => ?_)
                · skip
                  have hc_59 := (ix_le (a := cn) (b := cn) (by omega) (by omega)).mp hc_59
                  have hc_59 : (cn ≤ cn) := hc_59
                  refine lv_aload_n hx hb dX3_aside_99 rfl (lv_at hl 1 rfl) ?_
                  refine va_get (D := (dC, dI)) (ci := 3) (v := .int (nI (na + cn))) (C := RX3) (T := TX3) (N := 18) hx hb hta inX3 hown hK hP 1 rfl rfl 12 (by decide) (hta _ mw_469) (fun _ h9 => h9) rfl dX3_aside_100 ?_
                  exact rt_i hx hb hr hlk hQ hAe hP hD hS [1, 0] (by decide) rfl (Nat.le_of_ble_eq_true rfl) (Nat.le_of_ble_eq_true rfl) (rfl) dX3_aside_103
                · skip
                  have hc_59 := (not_congr (ix_le (a := cn) (b := cn) (by omega) (by omega))).mp hc_59
                  have hc_59 : ¬ (cn ≤ cn) := hc_59
                  exfalso; omega
              | succ n ih =>
                intro k ls H locs hn_56  hl hP hD hS
                refine lv_iload hx hb dX3_aside_56 (lv_at hl 0 rfl) ?_
                refine lv_iload_n hx hb dX3_aside_58 rfl (lv_at hl 3 rfl) ?_
                refine lv_icmp_ge (tgt := 99) hx hb dX3_aside_59 (by decide) (fun hc_59 => ?_) (fun hc_59 => ?_)
                · skip
                  have hc_59 := (ix_le (a := cn) (b := k) (by omega) (by omega)).mp hc_59
                  have hc_59 : (cn ≤ k) := hc_59
                  exfalso; omega
                · skip
                  have hc_59 := (not_congr (ix_le (a := cn) (b := k) (by omega) (by omega))).mp hc_59
                  have hc_59 : ¬ (cn ≤ k) := hc_59
                  refine lv_aload_n hx hb dX3_aside_62 rfl (lv_at hl 1 rfl) ?_
                  refine va_get (D := (dC, dI)) (ci := 3) (v := .ref qd) (C := RX3) (T := TX3) (N := 18) hx hb hta inX3 hown hK hP 1 rfl rfl 13 (by decide) (hta _ mw_470) (fun _ h9 => h9) rfl dX3_aside_63 ?_
                  refine lv_aload_n hx hb dX3_aside_66 rfl (lv_at hl 1 rfl) ?_
                  refine va_get (D := (dC, dI)) (ci := 3) (v := .int (nI (na + k))) (C := RX3) (T := TX3) (N := 18) hx hb hta inX3 hown hK hP 1 rfl rfl 12 (by decide) (hta _ mw_469) (fun _ h9 => h9) rfl dX3_aside_67 ?_
                  refine lv_lload_n hx hb dX3_aside_70 rfl (lv_at hl 2 rfl) ?_
                  refine lv_bipush (v := nI 8) hx hb dX3_aside_71 (by decide) ?_
                  refine lv_iload hx hb dX3_aside_73 (lv_at hl 0 rfl) ?_
                  refine lv_imul hx hb dX3_aside_75 (top_i (pk_mul _ _) ?_)
                  refine lv_lshr hx hb dX3_aside_76 rfl ?_
                  refine lv_ldc2 (v := 255) hx hb hown (hta _ mw_536) dX3_aside_77 ?_
                  refine top_l (y := lN 255) (by decide) ?_
                  refine lv_land hx hb dX3_aside_80 ?_
                  refine top_l (y := lN (pbN y k)) (l_sb _ (by omega)) ?_
                  refine w_pc (pc2 := 81) rfl ?_
                  refine lv_l2i hx hb dX3_aside_81 rfl (top_i (lN_i _) ?_)
                  refine va_iasb hx hb hK hP hD hS 0 0 rfl rfl (by omega) (by decide) dX3_aside_82 (fun H locs hP hD hS => ?_)
                  have hP : va_P (dC, dI) vwCl [(qd, .inl (kd, 48, .inl (nF (un (ofl (pbN y) bd na k) (na + k) (pbN y k))))), (o, .inr (3, [.int (nI 0), .int (nI ph), .int (zI og), .ref qx, .ref qk, .ref qw, .ref qb, .ref qn, .long mh, .long ml, .long nc, .int rs, .int (nI (na + k)), .ref qd, .int (nI nz), .ref qg, .long t1, .long t2]))] H := hP
                  have hD : va_D A [(qd, .inl (kd, 48, .inl (nF (un (ofl (pbN y) bd na k) (na + k) (pbN y k))))), (o, .inr (3, [.int (nI 0), .int (nI ph), .int (zI og), .ref qx, .ref qk, .ref qw, .ref qb, .ref qn, .long mh, .long ml, .long nc, .int rs, .int (nI (na + k)), .ref qd, .int (nI nz), .ref qg, .long t1, .long t2]))] := hD
                  refine lv_aload_n hx hb dX3_aside_83 rfl (lv_at hl 1 rfl) ?_
                  refine lv_dup hx hb dX3_aside_84 rfl ?_
                  refine va_get (D := (dC, dI)) (ci := 3) (v := .int (nI (na + k))) (C := RX3) (T := TX3) (N := 18) hx hb hta inX3 hown hK hP 1 rfl rfl 12 (by decide) (hta _ mw_469) (fun _ h9 => h9) rfl dX3_aside_85 ?_
                  refine lv_iconst (v := nI 1) hx hb dX3_aside_88 (by decide) ?_
                  refine lv_iadd hx hb dX3_aside_89 (top_i (nI_add _ _) ?_)
                  refine va_put (D := (dC, dI)) (ci := 3) (v := .int (nI ((na + k) + 1))) (ty := .int) (C := RX3) (T := TX3) (N := 18) hx hb hta inX3 tyX3 tyX3_ok nmX3 hown hK hP hD hS 1 rfl rfl 12 (by decide) (hta _ mw_469) (fun _ h9 => h9) rfl (by decide +kernel) rfl rfl (Nat.le_of_ble_eq_true rfl) dX3_aside_90 (fun H locs hP hD hS => ?_)
                  have hP : va_P (dC, dI) vwCl [(qd, .inl (kd, 48, .inl (nF (un (ofl (pbN y) bd na k) (na + k) (pbN y k))))), (o, .inr (3, [.int (nI 0), .int (nI ph), .int (zI og), .ref qx, .ref qk, .ref qw, .ref qb, .ref qn, .long mh, .long ml, .long nc, .int rs, .int (nI ((na + k) + 1)), .ref qd, .int (nI nz), .ref qg, .long t1, .long t2]))] H := hP
                  have hD : va_D A [(qd, .inl (kd, 48, .inl (nF (un (ofl (pbN y) bd na k) (na + k) (pbN y k))))), (o, .inr (3, [.int (nI 0), .int (nI ph), .int (zI og), .ref qx, .ref qk, .ref qw, .ref qb, .ref qn, .long mh, .long ml, .long nc, .int rs, .int (nI ((na + k) + 1)), .ref qd, .int (nI nz), .ref qg, .long t1, .long t2]))] := hD
                  refine lv_iinc (v := nI (k + 1)) (k := 0) hx hb dX3_aside_93 hl rfl (ix_inc _ 1) (by decide) rfl (fun ls hl => ?_)
                  have hl : lv_has ls 5 [(4, .int (nI (k + 1))), (0, .ref o), (1, .long y), (3, .int (nI cn))] := hl
                  refine lv_goto (tgt := 56) hx hb dX3_aside_96 (by decide) ?_
                  obtain ⟨hP, hD⟩ := va_recb (g := ofl (pbN y) bd na (k + 1)) hP hD 0 rfl (fun i _ => ofl_s (pbN y) bd na k i)
                  have hP : va_P (dC, dI) vwCl [(qd, .inl (kd, 48, .inl (nF (ofl (pbN y) bd na (k + 1))))), (o, .inr (3, [.int (nI 0), .int (nI ph), .int (zI og), .ref qx, .ref qk, .ref qw, .ref qb, .ref qn, .long mh, .long ml, .long nc, .int rs, .int (nI ((na + k) + 1)), .ref qd, .int (nI nz), .ref qg, .long t1, .long t2]))] H := hP
                  have hD : va_D A [(qd, .inl (kd, 48, .inl (nF (ofl (pbN y) bd na (k + 1))))), (o, .inr (3, [.int (nI 0), .int (nI ph), .int (zI og), .ref qx, .ref qk, .ref qw, .ref qb, .ref qn, .long mh, .long ml, .long nc, .int rs, .int (nI ((na + k) + 1)), .ref qd, .int (nI nz), .ref qg, .long t1, .long t2]))] := hD
                  exact ih (k + 1) ls H locs (by omega)  (lv_sub hl [0, 1, 2, 3] rfl) hP hD hS
            exact loop_56 cn 0 ls H locs (by omega)  (lv_sub hl [0, 1, 2, 3] rfl) hP hD hS
          · skip
            exact absurd (by decide) hc_48
        · skip
          have hc_37 := (not_congr (ix_le (a := na + cn) (b := 48) (by omega) (by omega))).mp hc_37
          have hc_37 : ¬ ((na + cn) ≤ 48) := hc_37
          exfalso; omega
      · skip
        have hc_21 := (not_congr (ix_le (a := cn) (b := 8) (by omega) (by omega))).mp hc_21
        have hc_21 : ¬ (cn ≤ 8) := hc_21
        exfalso; omega
  · skip
    have hc_6 := (not_congr (ix_eq (a := ph) (b := 1) (by omega) (by omega))).mp hc_6
    have hc_6 : ¬ (ph = 1) := hc_6
    exfalso; omega

def rm_m_aside_1 : Room := { frames := 1, cells := 0, slots := 0, locals := 23 }
set_option maxHeartbeats 4000000 in
set_option maxRecDepth 100000 in
/-- aside, refused -/
theorem m_aside_1 (l : Launch) (dC : Nat → ClassId) (dI : Nat → Nat → Nat) (o : Nat) (th : Int32) (ph : Nat) (og : Bool) (qx : Nat) (qk : Nat) (qw : Nat) (qb : Nat) (qn : Nat) (mh : Int64) (ml : Int64) (nc : Int64) (rs : Int32) (na : Nat) (qd : Nat) (nz : Nat) (qg : Nat) (t1 : Int64) (t2 : Int64) (y : Int64) (v : Int32) (hph6 : ph < 6) (hph : ¬ ph = 1) : MO l dC dI yX3_aside wsX3_aside rm_m_aside_1 [.ref o, .long y, .int v] [(o, .inr (3, [.int th, .int (nI ph), .int (zI og), .ref qx, .ref qk, .ref qw, .ref qb, .ref qn, .long mh, .long ml, .long nc, .int rs, .int (nI na), .ref qd, .int (nI nz), .ref qg, .long t1, .long t2]))] [] [(o, .inr (3, [.int (nI 1), .int (nI ph), .int (zI og), .ref qx, .ref qk, .ref qw, .ref qb, .ref qn, .long mh, .long ml, .long nc, .int rs, .int (nI na), .ref qd, .int (nI nz), .ref qg, .long t1, .long t2]))] (some (.int (nI 0))) := by
  refine mo_ofW (cc := cX3_aside) (maxL := 5) (ret := (some .int)) (by decide) rfl (Nat.le_of_ble_eq_true rfl) ?_
  intro p e s m args below meth c Q A H locs ls hx hb hr hlk hml hta hown hin hE hQ hAe hA hK hP hD hS hl
  have hown : s.vm.findClass RX3 = some m.cls := hown
  have hl : lv_has ls 5 [(0, .ref o), (1, .long y), (3, .int v)] := hl
  refine lv_aload_n hx hb dX3_aside_0 rfl (lv_at hl 0 rfl) ?_
  refine lv_aload_n hx hb dX3_aside_1 rfl (lv_at hl 0 rfl) ?_
  refine va_get (D := (dC, dI)) (ci := 3) (v := .int (nI ph)) (C := RX3) (T := TX3) (N := 18) hx hb hta inX3 hown hK hP 0 rfl rfl 1 (by decide) (hta _ mw_458) (fun _ h9 => h9) rfl dX3_aside_2 ?_
  refine lv_iconst (v := nI 1) hx hb dX3_aside_5 (by decide) ?_
  refine lv_icmp_eq (tgt := 13) hx hb dX3_aside_6 (by decide) (fun hc_6 => ?_) (fun hc_6 => ?_)
  · skip
    have hc_6 := (ix_eq (a := ph) (b := 1) (by omega) (by omega)).mp hc_6
    have hc_6 : (ph = 1) := hc_6
    exfalso; omega
  · skip
    have hc_6 := (not_congr (ix_eq (a := ph) (b := 1) (by omega) (by omega))).mp hc_6
    have hc_6 : ¬ (ph = 1) := hc_6
    refine lv_iconst (v := nI 1) hx hb dX3_aside_9 (by decide) ?_
    refine lv_goto (tgt := 14) hx hb dX3_aside_10 (by decide) ?_
    refine lv_iload_n hx hb dX3_aside_14 rfl (lv_at hl 2 rfl) ?_
    refine lv_if_lt (tgt := 24) hx hb dX3_aside_15 (by decide) (fun hc_15 => ?_) (fun hc_15 => ?_)
    · skip
      refine lv_iconst (v := nI 1) hx hb dX3_aside_24 (by decide) ?_
      refine lv_goto (tgt := 29) hx hb dX3_aside_25 (by decide) ?_
      refine lv_aload_n hx hb dX3_aside_29 rfl (lv_at hl 0 rfl) ?_
      refine va_get (D := (dC, dI)) (ci := 3) (v := .int (nI na)) (C := RX3) (T := TX3) (N := 18) hx hb hta inX3 hown hK hP 0 rfl rfl 12 (by decide) (hta _ mw_469) (fun _ h9 => h9) rfl dX3_aside_30 ?_
      refine lv_iload_n hx hb dX3_aside_33 rfl (lv_at hl 2 rfl) ?_
      refine lv_iadd hx hb dX3_aside_34 ?_
      refine lv_bipush (v := nI 48) hx hb dX3_aside_35 (by decide) ?_
      refine lv_icmp_le (tgt := 44) hx hb dX3_aside_37 (by decide) (fun hc_37 => ?_) (fun hc_37 => ?_)
      · skip
        refine lv_iconst (v := nI 0) hx hb dX3_aside_44 (by decide) ?_
        refine cf_1 (wr := []) (va_runV (As := [.int (nI 1), .int (nI 1), .int (nI 0)]) (rest := []) ⟨hx, hb, hml, hown, hta⟩ (MO.to (m_refuses l dC dI o th ph og qx qk qw qb qn mh ml nc rs na qd nz qg t1 t2 true true false) H.size) (cwV 3 hta (aw_V mw_527 mw_524 mw_526 mw_s21 mw_5) rfl rfl rfl ⟨rfl, dyX3_refuses⟩ ⟨(Nat.le_of_ble_eq_true rfl), (Nat.le_of_ble_eq_true rfl)⟩) (pr_V hP hD hK hE [0] [] (by decide) rfl rfl rfl rfl) rfl rfl hl.1 rfl (lv_room (Nat.le_of_ble_eq_true rfl)) dX3_aside_45 ⟨(Nat.le_of_ble_eq_true rfl), (Nat.le_of_ble_eq_true rfl)⟩) hP hD hS hA [0] [] rfl rfl (by decide) (by decide) (fun H locs hP hD hS => ?_)
        have hP : va_P (dC, dI) vwCl [(o, .inr (3, [.int (rfN true true false), .int (nI ph), .int (zI og), .ref qx, .ref qk, .ref qw, .ref qb, .ref qn, .long mh, .long ml, .long nc, .int rs, .int (nI na), .ref qd, .int (nI nz), .ref qg, .long t1, .long t2]))] H := hP
        have hD : va_D A [(o, .inr (3, [.int (rfN true true false), .int (nI ph), .int (zI og), .ref qx, .ref qk, .ref qw, .ref qb, .ref qn, .long mh, .long ml, .long nc, .int rs, .int (nI na), .ref qd, .int (nI nz), .ref qg, .long t1, .long t2]))] := hD
        refine W.widen (k := 0) (n := 0) (Nat.le_of_ble_eq_true rfl) (Nat.le_of_ble_eq_true rfl) ?_
        have e9 : rfN true true false = nI 1 := rfl
        have hP : va_P (dC, dI) vwCl [(o, .inr (3, [.int (nI 1), .int (nI ph), .int (zI og), .ref qx, .ref qk, .ref qw, .ref qb, .ref qn, .long mh, .long ml, .long nc, .int rs, .int (nI na), .ref qd, .int (nI nz), .ref qg, .long t1, .long t2]))] H := by rw [← e9]; exact hP
        have hD : va_D A [(o, .inr (3, [.int (nI 1), .int (nI ph), .int (zI og), .ref qx, .ref qk, .ref qw, .ref qb, .ref qn, .long mh, .long ml, .long nc, .int rs, .int (nI na), .ref qd, .int (nI nz), .ref qg, .long t1, .long t2]))] := by rw [← e9]; exact hD
        refine w_pc (pc2 := 48) rfl ?_
        refine lv_if_eq (tgt := 53) hx hb dX3_aside_48 (by decide) (fun hc_48 => ?_) (fun hc_48 => ?_)
        · skip
          exact absurd hc_48 (by decide)
        · skip
          refine lv_iconst (v := nI 0) hx hb dX3_aside_51 (by decide) ?_
          exact rt_i hx hb hr hlk hQ hAe hP hD hS [0] (by decide) rfl (Nat.le_of_ble_eq_true rfl) (Nat.le_of_ble_eq_true rfl) (rfl) dX3_aside_52
      · skip
        refine lv_iconst (v := nI 1) hx hb dX3_aside_40 (by decide) ?_
        refine lv_goto (tgt := 45) hx hb dX3_aside_41 (by decide) ?_
        refine cf_1 (wr := []) (va_runV (As := [.int (nI 1), .int (nI 1), .int (nI 1)]) (rest := []) ⟨hx, hb, hml, hown, hta⟩ (MO.to (m_refuses l dC dI o th ph og qx qk qw qb qn mh ml nc rs na qd nz qg t1 t2 true true true) H.size) (cwV 3 hta (aw_V mw_527 mw_524 mw_526 mw_s21 mw_5) rfl rfl rfl ⟨rfl, dyX3_refuses⟩ ⟨(Nat.le_of_ble_eq_true rfl), (Nat.le_of_ble_eq_true rfl)⟩) (pr_V hP hD hK hE [0] [] (by decide) rfl rfl rfl rfl) rfl rfl hl.1 rfl (lv_room (Nat.le_of_ble_eq_true rfl)) dX3_aside_45 ⟨(Nat.le_of_ble_eq_true rfl), (Nat.le_of_ble_eq_true rfl)⟩) hP hD hS hA [0] [] rfl rfl (by decide) (by decide) (fun H locs hP hD hS => ?_)
        have hP : va_P (dC, dI) vwCl [(o, .inr (3, [.int (rfN true true true), .int (nI ph), .int (zI og), .ref qx, .ref qk, .ref qw, .ref qb, .ref qn, .long mh, .long ml, .long nc, .int rs, .int (nI na), .ref qd, .int (nI nz), .ref qg, .long t1, .long t2]))] H := hP
        have hD : va_D A [(o, .inr (3, [.int (rfN true true true), .int (nI ph), .int (zI og), .ref qx, .ref qk, .ref qw, .ref qb, .ref qn, .long mh, .long ml, .long nc, .int rs, .int (nI na), .ref qd, .int (nI nz), .ref qg, .long t1, .long t2]))] := hD
        refine W.widen (k := 0) (n := 0) (Nat.le_of_ble_eq_true rfl) (Nat.le_of_ble_eq_true rfl) ?_
        have e9 : rfN true true true = nI 1 := rfl
        have hP : va_P (dC, dI) vwCl [(o, .inr (3, [.int (nI 1), .int (nI ph), .int (zI og), .ref qx, .ref qk, .ref qw, .ref qb, .ref qn, .long mh, .long ml, .long nc, .int rs, .int (nI na), .ref qd, .int (nI nz), .ref qg, .long t1, .long t2]))] H := by rw [← e9]; exact hP
        have hD : va_D A [(o, .inr (3, [.int (nI 1), .int (nI ph), .int (zI og), .ref qx, .ref qk, .ref qw, .ref qb, .ref qn, .long mh, .long ml, .long nc, .int rs, .int (nI na), .ref qd, .int (nI nz), .ref qg, .long t1, .long t2]))] := by rw [← e9]; exact hD
        refine w_pc (pc2 := 48) rfl ?_
        refine lv_if_eq (tgt := 53) hx hb dX3_aside_48 (by decide) (fun hc_48 => ?_) (fun hc_48 => ?_)
        · skip
          exact absurd hc_48 (by decide)
        · skip
          refine lv_iconst (v := nI 0) hx hb dX3_aside_51 (by decide) ?_
          exact rt_i hx hb hr hlk hQ hAe hP hD hS [0] (by decide) rfl (Nat.le_of_ble_eq_true rfl) (Nat.le_of_ble_eq_true rfl) (rfl) dX3_aside_52
    · skip
      refine lv_iload_n hx hb dX3_aside_18 rfl (lv_at hl 2 rfl) ?_
      refine lv_bipush (v := nI 8) hx hb dX3_aside_19 (by decide) ?_
      refine lv_icmp_le (tgt := 28) hx hb dX3_aside_21 (by decide) (fun hc_21 => ?_) (fun hc_21 => ?_)
      · skip
        refine lv_iconst (v := nI 0) hx hb dX3_aside_28 (by decide) ?_
        refine lv_aload_n hx hb dX3_aside_29 rfl (lv_at hl 0 rfl) ?_
        refine va_get (D := (dC, dI)) (ci := 3) (v := .int (nI na)) (C := RX3) (T := TX3) (N := 18) hx hb hta inX3 hown hK hP 0 rfl rfl 12 (by decide) (hta _ mw_469) (fun _ h9 => h9) rfl dX3_aside_30 ?_
        refine lv_iload_n hx hb dX3_aside_33 rfl (lv_at hl 2 rfl) ?_
        refine lv_iadd hx hb dX3_aside_34 ?_
        refine lv_bipush (v := nI 48) hx hb dX3_aside_35 (by decide) ?_
        refine lv_icmp_le (tgt := 44) hx hb dX3_aside_37 (by decide) (fun hc_37 => ?_) (fun hc_37 => ?_)
        · skip
          refine lv_iconst (v := nI 0) hx hb dX3_aside_44 (by decide) ?_
          refine cf_1 (wr := []) (va_runV (As := [.int (nI 1), .int (nI 0), .int (nI 0)]) (rest := []) ⟨hx, hb, hml, hown, hta⟩ (MO.to (m_refuses l dC dI o th ph og qx qk qw qb qn mh ml nc rs na qd nz qg t1 t2 true false false) H.size) (cwV 3 hta (aw_V mw_527 mw_524 mw_526 mw_s21 mw_5) rfl rfl rfl ⟨rfl, dyX3_refuses⟩ ⟨(Nat.le_of_ble_eq_true rfl), (Nat.le_of_ble_eq_true rfl)⟩) (pr_V hP hD hK hE [0] [] (by decide) rfl rfl rfl rfl) rfl rfl hl.1 rfl (lv_room (Nat.le_of_ble_eq_true rfl)) dX3_aside_45 ⟨(Nat.le_of_ble_eq_true rfl), (Nat.le_of_ble_eq_true rfl)⟩) hP hD hS hA [0] [] rfl rfl (by decide) (by decide) (fun H locs hP hD hS => ?_)
          have hP : va_P (dC, dI) vwCl [(o, .inr (3, [.int (rfN true false false), .int (nI ph), .int (zI og), .ref qx, .ref qk, .ref qw, .ref qb, .ref qn, .long mh, .long ml, .long nc, .int rs, .int (nI na), .ref qd, .int (nI nz), .ref qg, .long t1, .long t2]))] H := hP
          have hD : va_D A [(o, .inr (3, [.int (rfN true false false), .int (nI ph), .int (zI og), .ref qx, .ref qk, .ref qw, .ref qb, .ref qn, .long mh, .long ml, .long nc, .int rs, .int (nI na), .ref qd, .int (nI nz), .ref qg, .long t1, .long t2]))] := hD
          refine W.widen (k := 0) (n := 0) (Nat.le_of_ble_eq_true rfl) (Nat.le_of_ble_eq_true rfl) ?_
          have e9 : rfN true false false = nI 1 := rfl
          have hP : va_P (dC, dI) vwCl [(o, .inr (3, [.int (nI 1), .int (nI ph), .int (zI og), .ref qx, .ref qk, .ref qw, .ref qb, .ref qn, .long mh, .long ml, .long nc, .int rs, .int (nI na), .ref qd, .int (nI nz), .ref qg, .long t1, .long t2]))] H := by rw [← e9]; exact hP
          have hD : va_D A [(o, .inr (3, [.int (nI 1), .int (nI ph), .int (zI og), .ref qx, .ref qk, .ref qw, .ref qb, .ref qn, .long mh, .long ml, .long nc, .int rs, .int (nI na), .ref qd, .int (nI nz), .ref qg, .long t1, .long t2]))] := by rw [← e9]; exact hD
          refine w_pc (pc2 := 48) rfl ?_
          refine lv_if_eq (tgt := 53) hx hb dX3_aside_48 (by decide) (fun hc_48 => ?_) (fun hc_48 => ?_)
          · skip
            exact absurd hc_48 (by decide)
          · skip
            refine lv_iconst (v := nI 0) hx hb dX3_aside_51 (by decide) ?_
            exact rt_i hx hb hr hlk hQ hAe hP hD hS [0] (by decide) rfl (Nat.le_of_ble_eq_true rfl) (Nat.le_of_ble_eq_true rfl) (rfl) dX3_aside_52
        · skip
          refine lv_iconst (v := nI 1) hx hb dX3_aside_40 (by decide) ?_
          refine lv_goto (tgt := 45) hx hb dX3_aside_41 (by decide) ?_
          refine cf_1 (wr := []) (va_runV (As := [.int (nI 1), .int (nI 0), .int (nI 1)]) (rest := []) ⟨hx, hb, hml, hown, hta⟩ (MO.to (m_refuses l dC dI o th ph og qx qk qw qb qn mh ml nc rs na qd nz qg t1 t2 true false true) H.size) (cwV 3 hta (aw_V mw_527 mw_524 mw_526 mw_s21 mw_5) rfl rfl rfl ⟨rfl, dyX3_refuses⟩ ⟨(Nat.le_of_ble_eq_true rfl), (Nat.le_of_ble_eq_true rfl)⟩) (pr_V hP hD hK hE [0] [] (by decide) rfl rfl rfl rfl) rfl rfl hl.1 rfl (lv_room (Nat.le_of_ble_eq_true rfl)) dX3_aside_45 ⟨(Nat.le_of_ble_eq_true rfl), (Nat.le_of_ble_eq_true rfl)⟩) hP hD hS hA [0] [] rfl rfl (by decide) (by decide) (fun H locs hP hD hS => ?_)
          have hP : va_P (dC, dI) vwCl [(o, .inr (3, [.int (rfN true false true), .int (nI ph), .int (zI og), .ref qx, .ref qk, .ref qw, .ref qb, .ref qn, .long mh, .long ml, .long nc, .int rs, .int (nI na), .ref qd, .int (nI nz), .ref qg, .long t1, .long t2]))] H := hP
          have hD : va_D A [(o, .inr (3, [.int (rfN true false true), .int (nI ph), .int (zI og), .ref qx, .ref qk, .ref qw, .ref qb, .ref qn, .long mh, .long ml, .long nc, .int rs, .int (nI na), .ref qd, .int (nI nz), .ref qg, .long t1, .long t2]))] := hD
          refine W.widen (k := 0) (n := 0) (Nat.le_of_ble_eq_true rfl) (Nat.le_of_ble_eq_true rfl) ?_
          have e9 : rfN true false true = nI 1 := rfl
          have hP : va_P (dC, dI) vwCl [(o, .inr (3, [.int (nI 1), .int (nI ph), .int (zI og), .ref qx, .ref qk, .ref qw, .ref qb, .ref qn, .long mh, .long ml, .long nc, .int rs, .int (nI na), .ref qd, .int (nI nz), .ref qg, .long t1, .long t2]))] H := by rw [← e9]; exact hP
          have hD : va_D A [(o, .inr (3, [.int (nI 1), .int (nI ph), .int (zI og), .ref qx, .ref qk, .ref qw, .ref qb, .ref qn, .long mh, .long ml, .long nc, .int rs, .int (nI na), .ref qd, .int (nI nz), .ref qg, .long t1, .long t2]))] := by rw [← e9]; exact hD
          refine w_pc (pc2 := 48) rfl ?_
          refine lv_if_eq (tgt := 53) hx hb dX3_aside_48 (by decide) (fun hc_48 => ?_) (fun hc_48 => ?_)
          · skip
            exact absurd hc_48 (by decide)
          · skip
            refine lv_iconst (v := nI 0) hx hb dX3_aside_51 (by decide) ?_
            exact rt_i hx hb hr hlk hQ hAe hP hD hS [0] (by decide) rfl (Nat.le_of_ble_eq_true rfl) (Nat.le_of_ble_eq_true rfl) (rfl) dX3_aside_52
      · skip
        refine lv_iconst (v := nI 1) hx hb dX3_aside_24 (by decide) ?_
        refine lv_goto (tgt := 29) hx hb dX3_aside_25 (by decide) ?_
        refine lv_aload_n hx hb dX3_aside_29 rfl (lv_at hl 0 rfl) ?_
        refine va_get (D := (dC, dI)) (ci := 3) (v := .int (nI na)) (C := RX3) (T := TX3) (N := 18) hx hb hta inX3 hown hK hP 0 rfl rfl 12 (by decide) (hta _ mw_469) (fun _ h9 => h9) rfl dX3_aside_30 ?_
        refine lv_iload_n hx hb dX3_aside_33 rfl (lv_at hl 2 rfl) ?_
        refine lv_iadd hx hb dX3_aside_34 ?_
        refine lv_bipush (v := nI 48) hx hb dX3_aside_35 (by decide) ?_
        refine lv_icmp_le (tgt := 44) hx hb dX3_aside_37 (by decide) (fun hc_37 => ?_) (fun hc_37 => ?_)
        · skip
          refine lv_iconst (v := nI 0) hx hb dX3_aside_44 (by decide) ?_
          refine cf_1 (wr := []) (va_runV (As := [.int (nI 1), .int (nI 1), .int (nI 0)]) (rest := []) ⟨hx, hb, hml, hown, hta⟩ (MO.to (m_refuses l dC dI o th ph og qx qk qw qb qn mh ml nc rs na qd nz qg t1 t2 true true false) H.size) (cwV 3 hta (aw_V mw_527 mw_524 mw_526 mw_s21 mw_5) rfl rfl rfl ⟨rfl, dyX3_refuses⟩ ⟨(Nat.le_of_ble_eq_true rfl), (Nat.le_of_ble_eq_true rfl)⟩) (pr_V hP hD hK hE [0] [] (by decide) rfl rfl rfl rfl) rfl rfl hl.1 rfl (lv_room (Nat.le_of_ble_eq_true rfl)) dX3_aside_45 ⟨(Nat.le_of_ble_eq_true rfl), (Nat.le_of_ble_eq_true rfl)⟩) hP hD hS hA [0] [] rfl rfl (by decide) (by decide) (fun H locs hP hD hS => ?_)
          have hP : va_P (dC, dI) vwCl [(o, .inr (3, [.int (rfN true true false), .int (nI ph), .int (zI og), .ref qx, .ref qk, .ref qw, .ref qb, .ref qn, .long mh, .long ml, .long nc, .int rs, .int (nI na), .ref qd, .int (nI nz), .ref qg, .long t1, .long t2]))] H := hP
          have hD : va_D A [(o, .inr (3, [.int (rfN true true false), .int (nI ph), .int (zI og), .ref qx, .ref qk, .ref qw, .ref qb, .ref qn, .long mh, .long ml, .long nc, .int rs, .int (nI na), .ref qd, .int (nI nz), .ref qg, .long t1, .long t2]))] := hD
          refine W.widen (k := 0) (n := 0) (Nat.le_of_ble_eq_true rfl) (Nat.le_of_ble_eq_true rfl) ?_
          have e9 : rfN true true false = nI 1 := rfl
          have hP : va_P (dC, dI) vwCl [(o, .inr (3, [.int (nI 1), .int (nI ph), .int (zI og), .ref qx, .ref qk, .ref qw, .ref qb, .ref qn, .long mh, .long ml, .long nc, .int rs, .int (nI na), .ref qd, .int (nI nz), .ref qg, .long t1, .long t2]))] H := by rw [← e9]; exact hP
          have hD : va_D A [(o, .inr (3, [.int (nI 1), .int (nI ph), .int (zI og), .ref qx, .ref qk, .ref qw, .ref qb, .ref qn, .long mh, .long ml, .long nc, .int rs, .int (nI na), .ref qd, .int (nI nz), .ref qg, .long t1, .long t2]))] := by rw [← e9]; exact hD
          refine w_pc (pc2 := 48) rfl ?_
          refine lv_if_eq (tgt := 53) hx hb dX3_aside_48 (by decide) (fun hc_48 => ?_) (fun hc_48 => ?_)
          · skip
            exact absurd hc_48 (by decide)
          · skip
            refine lv_iconst (v := nI 0) hx hb dX3_aside_51 (by decide) ?_
            exact rt_i hx hb hr hlk hQ hAe hP hD hS [0] (by decide) rfl (Nat.le_of_ble_eq_true rfl) (Nat.le_of_ble_eq_true rfl) (rfl) dX3_aside_52
        · skip
          refine lv_iconst (v := nI 1) hx hb dX3_aside_40 (by decide) ?_
          refine lv_goto (tgt := 45) hx hb dX3_aside_41 (by decide) ?_
          refine cf_1 (wr := []) (va_runV (As := [.int (nI 1), .int (nI 1), .int (nI 1)]) (rest := []) ⟨hx, hb, hml, hown, hta⟩ (MO.to (m_refuses l dC dI o th ph og qx qk qw qb qn mh ml nc rs na qd nz qg t1 t2 true true true) H.size) (cwV 3 hta (aw_V mw_527 mw_524 mw_526 mw_s21 mw_5) rfl rfl rfl ⟨rfl, dyX3_refuses⟩ ⟨(Nat.le_of_ble_eq_true rfl), (Nat.le_of_ble_eq_true rfl)⟩) (pr_V hP hD hK hE [0] [] (by decide) rfl rfl rfl rfl) rfl rfl hl.1 rfl (lv_room (Nat.le_of_ble_eq_true rfl)) dX3_aside_45 ⟨(Nat.le_of_ble_eq_true rfl), (Nat.le_of_ble_eq_true rfl)⟩) hP hD hS hA [0] [] rfl rfl (by decide) (by decide) (fun H locs hP hD hS => ?_)
          have hP : va_P (dC, dI) vwCl [(o, .inr (3, [.int (rfN true true true), .int (nI ph), .int (zI og), .ref qx, .ref qk, .ref qw, .ref qb, .ref qn, .long mh, .long ml, .long nc, .int rs, .int (nI na), .ref qd, .int (nI nz), .ref qg, .long t1, .long t2]))] H := hP
          have hD : va_D A [(o, .inr (3, [.int (rfN true true true), .int (nI ph), .int (zI og), .ref qx, .ref qk, .ref qw, .ref qb, .ref qn, .long mh, .long ml, .long nc, .int rs, .int (nI na), .ref qd, .int (nI nz), .ref qg, .long t1, .long t2]))] := hD
          refine W.widen (k := 0) (n := 0) (Nat.le_of_ble_eq_true rfl) (Nat.le_of_ble_eq_true rfl) ?_
          have e9 : rfN true true true = nI 1 := rfl
          have hP : va_P (dC, dI) vwCl [(o, .inr (3, [.int (nI 1), .int (nI ph), .int (zI og), .ref qx, .ref qk, .ref qw, .ref qb, .ref qn, .long mh, .long ml, .long nc, .int rs, .int (nI na), .ref qd, .int (nI nz), .ref qg, .long t1, .long t2]))] H := by rw [← e9]; exact hP
          have hD : va_D A [(o, .inr (3, [.int (nI 1), .int (nI ph), .int (zI og), .ref qx, .ref qk, .ref qw, .ref qb, .ref qn, .long mh, .long ml, .long nc, .int rs, .int (nI na), .ref qd, .int (nI nz), .ref qg, .long t1, .long t2]))] := by rw [← e9]; exact hD
          refine w_pc (pc2 := 48) rfl ?_
          refine lv_if_eq (tgt := 53) hx hb dX3_aside_48 (by decide) (fun hc_48 => ?_) (fun hc_48 => ?_)
          · skip
            exact absurd hc_48 (by decide)
          · skip
            refine lv_iconst (v := nI 0) hx hb dX3_aside_51 (by decide) ?_
            exact rt_i hx hb hr hlk hQ hAe hP hD hS [0] (by decide) rfl (Nat.le_of_ble_eq_true rfl) (Nat.le_of_ble_eq_true rfl) (rfl) dX3_aside_52

def rm_m_aside_2 : Room := { frames := 1, cells := 0, slots := 0, locals := 23 }
set_option maxHeartbeats 4000000 in
set_option maxRecDepth 100000 in
/-- aside, refused -/
theorem m_aside_2 (l : Launch) (dC : Nat → ClassId) (dI : Nat → Nat → Nat) (o : Nat) (th : Int32) (ph : Nat) (og : Bool) (qx : Nat) (qk : Nat) (qw : Nat) (qb : Nat) (qn : Nat) (mh : Int64) (ml : Int64) (nc : Int64) (rs : Int32) (na : Nat) (qd : Nat) (nz : Nat) (qg : Nat) (t1 : Int64) (t2 : Int64) (y : Int64) (v : Int32) (hph6 : ph < 6) (hph : ph = 1) (hno : v < 0 ∨ nI 9 ≤ v) : MO l dC dI yX3_aside wsX3_aside rm_m_aside_2 [.ref o, .long y, .int v] [(o, .inr (3, [.int th, .int (nI ph), .int (zI og), .ref qx, .ref qk, .ref qw, .ref qb, .ref qn, .long mh, .long ml, .long nc, .int rs, .int (nI na), .ref qd, .int (nI nz), .ref qg, .long t1, .long t2]))] [] [(o, .inr (3, [.int (nI 2), .int (nI ph), .int (zI og), .ref qx, .ref qk, .ref qw, .ref qb, .ref qn, .long mh, .long ml, .long nc, .int rs, .int (nI na), .ref qd, .int (nI nz), .ref qg, .long t1, .long t2]))] (some (.int (nI 0))) := by
  refine mo_ofW (cc := cX3_aside) (maxL := 5) (ret := (some .int)) (by decide) rfl (Nat.le_of_ble_eq_true rfl) ?_
  intro p e s m args below meth c Q A H locs ls hx hb hr hlk hml hta hown hin hE hQ hAe hA hK hP hD hS hl
  have hown : s.vm.findClass RX3 = some m.cls := hown
  have hl : lv_has ls 5 [(0, .ref o), (1, .long y), (3, .int v)] := hl
  refine lv_aload_n hx hb dX3_aside_0 rfl (lv_at hl 0 rfl) ?_
  refine lv_aload_n hx hb dX3_aside_1 rfl (lv_at hl 0 rfl) ?_
  refine va_get (D := (dC, dI)) (ci := 3) (v := .int (nI ph)) (C := RX3) (T := TX3) (N := 18) hx hb hta inX3 hown hK hP 0 rfl rfl 1 (by decide) (hta _ mw_458) (fun _ h9 => h9) rfl dX3_aside_2 ?_
  refine lv_iconst (v := nI 1) hx hb dX3_aside_5 (by decide) ?_
  refine lv_icmp_eq (tgt := 13) hx hb dX3_aside_6 (by decide) (fun hc_6 => ?_) (fun hc_6 => ?_)
  · skip
    have hc_6 := (ix_eq (a := ph) (b := 1) (by omega) (by omega)).mp hc_6
    have hc_6 : (ph = 1) := hc_6
    refine lv_iconst (v := nI 0) hx hb dX3_aside_13 (by decide) ?_
    refine lv_iload_n hx hb dX3_aside_14 rfl (lv_at hl 2 rfl) ?_
    refine lv_if_lt (tgt := 24) hx hb dX3_aside_15 (by decide) (fun hc_15 => ?_) (fun hc_15 => ?_)
    · skip
      refine lv_iconst (v := nI 1) hx hb dX3_aside_24 (by decide) ?_
      refine lv_goto (tgt := 29) hx hb dX3_aside_25 (by decide) ?_
      refine lv_aload_n hx hb dX3_aside_29 rfl (lv_at hl 0 rfl) ?_
      refine va_get (D := (dC, dI)) (ci := 3) (v := .int (nI na)) (C := RX3) (T := TX3) (N := 18) hx hb hta inX3 hown hK hP 0 rfl rfl 12 (by decide) (hta _ mw_469) (fun _ h9 => h9) rfl dX3_aside_30 ?_
      refine lv_iload_n hx hb dX3_aside_33 rfl (lv_at hl 2 rfl) ?_
      refine lv_iadd hx hb dX3_aside_34 ?_
      refine lv_bipush (v := nI 48) hx hb dX3_aside_35 (by decide) ?_
      refine lv_icmp_le (tgt := 44) hx hb dX3_aside_37 (by decide) (fun hc_37 => ?_) (fun hc_37 => ?_)
      · skip
        refine lv_iconst (v := nI 0) hx hb dX3_aside_44 (by decide) ?_
        refine cf_1 (wr := []) (va_runV (As := [.int (nI 0), .int (nI 1), .int (nI 0)]) (rest := []) ⟨hx, hb, hml, hown, hta⟩ (MO.to (m_refuses l dC dI o th ph og qx qk qw qb qn mh ml nc rs na qd nz qg t1 t2 false true false) H.size) (cwV 3 hta (aw_V mw_527 mw_524 mw_526 mw_s21 mw_5) rfl rfl rfl ⟨rfl, dyX3_refuses⟩ ⟨(Nat.le_of_ble_eq_true rfl), (Nat.le_of_ble_eq_true rfl)⟩) (pr_V hP hD hK hE [0] [] (by decide) rfl rfl rfl rfl) rfl rfl hl.1 rfl (lv_room (Nat.le_of_ble_eq_true rfl)) dX3_aside_45 ⟨(Nat.le_of_ble_eq_true rfl), (Nat.le_of_ble_eq_true rfl)⟩) hP hD hS hA [0] [] rfl rfl (by decide) (by decide) (fun H locs hP hD hS => ?_)
        have hP : va_P (dC, dI) vwCl [(o, .inr (3, [.int (rfN false true false), .int (nI ph), .int (zI og), .ref qx, .ref qk, .ref qw, .ref qb, .ref qn, .long mh, .long ml, .long nc, .int rs, .int (nI na), .ref qd, .int (nI nz), .ref qg, .long t1, .long t2]))] H := hP
        have hD : va_D A [(o, .inr (3, [.int (rfN false true false), .int (nI ph), .int (zI og), .ref qx, .ref qk, .ref qw, .ref qb, .ref qn, .long mh, .long ml, .long nc, .int rs, .int (nI na), .ref qd, .int (nI nz), .ref qg, .long t1, .long t2]))] := hD
        refine W.widen (k := 0) (n := 0) (Nat.le_of_ble_eq_true rfl) (Nat.le_of_ble_eq_true rfl) ?_
        have e9 : rfN false true false = nI 2 := rfl
        have hP : va_P (dC, dI) vwCl [(o, .inr (3, [.int (nI 2), .int (nI ph), .int (zI og), .ref qx, .ref qk, .ref qw, .ref qb, .ref qn, .long mh, .long ml, .long nc, .int rs, .int (nI na), .ref qd, .int (nI nz), .ref qg, .long t1, .long t2]))] H := by rw [← e9]; exact hP
        have hD : va_D A [(o, .inr (3, [.int (nI 2), .int (nI ph), .int (zI og), .ref qx, .ref qk, .ref qw, .ref qb, .ref qn, .long mh, .long ml, .long nc, .int rs, .int (nI na), .ref qd, .int (nI nz), .ref qg, .long t1, .long t2]))] := by rw [← e9]; exact hD
        refine w_pc (pc2 := 48) rfl ?_
        refine lv_if_eq (tgt := 53) hx hb dX3_aside_48 (by decide) (fun hc_48 => ?_) (fun hc_48 => ?_)
        · skip
          exact absurd hc_48 (by decide)
        · skip
          refine lv_iconst (v := nI 0) hx hb dX3_aside_51 (by decide) ?_
          exact rt_i hx hb hr hlk hQ hAe hP hD hS [0] (by decide) rfl (Nat.le_of_ble_eq_true rfl) (Nat.le_of_ble_eq_true rfl) (rfl) dX3_aside_52
      · skip
        refine lv_iconst (v := nI 1) hx hb dX3_aside_40 (by decide) ?_
        refine lv_goto (tgt := 45) hx hb dX3_aside_41 (by decide) ?_
        refine cf_1 (wr := []) (va_runV (As := [.int (nI 0), .int (nI 1), .int (nI 1)]) (rest := []) ⟨hx, hb, hml, hown, hta⟩ (MO.to (m_refuses l dC dI o th ph og qx qk qw qb qn mh ml nc rs na qd nz qg t1 t2 false true true) H.size) (cwV 3 hta (aw_V mw_527 mw_524 mw_526 mw_s21 mw_5) rfl rfl rfl ⟨rfl, dyX3_refuses⟩ ⟨(Nat.le_of_ble_eq_true rfl), (Nat.le_of_ble_eq_true rfl)⟩) (pr_V hP hD hK hE [0] [] (by decide) rfl rfl rfl rfl) rfl rfl hl.1 rfl (lv_room (Nat.le_of_ble_eq_true rfl)) dX3_aside_45 ⟨(Nat.le_of_ble_eq_true rfl), (Nat.le_of_ble_eq_true rfl)⟩) hP hD hS hA [0] [] rfl rfl (by decide) (by decide) (fun H locs hP hD hS => ?_)
        have hP : va_P (dC, dI) vwCl [(o, .inr (3, [.int (rfN false true true), .int (nI ph), .int (zI og), .ref qx, .ref qk, .ref qw, .ref qb, .ref qn, .long mh, .long ml, .long nc, .int rs, .int (nI na), .ref qd, .int (nI nz), .ref qg, .long t1, .long t2]))] H := hP
        have hD : va_D A [(o, .inr (3, [.int (rfN false true true), .int (nI ph), .int (zI og), .ref qx, .ref qk, .ref qw, .ref qb, .ref qn, .long mh, .long ml, .long nc, .int rs, .int (nI na), .ref qd, .int (nI nz), .ref qg, .long t1, .long t2]))] := hD
        refine W.widen (k := 0) (n := 0) (Nat.le_of_ble_eq_true rfl) (Nat.le_of_ble_eq_true rfl) ?_
        have e9 : rfN false true true = nI 2 := rfl
        have hP : va_P (dC, dI) vwCl [(o, .inr (3, [.int (nI 2), .int (nI ph), .int (zI og), .ref qx, .ref qk, .ref qw, .ref qb, .ref qn, .long mh, .long ml, .long nc, .int rs, .int (nI na), .ref qd, .int (nI nz), .ref qg, .long t1, .long t2]))] H := by rw [← e9]; exact hP
        have hD : va_D A [(o, .inr (3, [.int (nI 2), .int (nI ph), .int (zI og), .ref qx, .ref qk, .ref qw, .ref qb, .ref qn, .long mh, .long ml, .long nc, .int rs, .int (nI na), .ref qd, .int (nI nz), .ref qg, .long t1, .long t2]))] := by rw [← e9]; exact hD
        refine w_pc (pc2 := 48) rfl ?_
        refine lv_if_eq (tgt := 53) hx hb dX3_aside_48 (by decide) (fun hc_48 => ?_) (fun hc_48 => ?_)
        · skip
          exact absurd hc_48 (by decide)
        · skip
          refine lv_iconst (v := nI 0) hx hb dX3_aside_51 (by decide) ?_
          exact rt_i hx hb hr hlk hQ hAe hP hD hS [0] (by decide) rfl (Nat.le_of_ble_eq_true rfl) (Nat.le_of_ble_eq_true rfl) (rfl) dX3_aside_52
    · skip
      refine lv_iload_n hx hb dX3_aside_18 rfl (lv_at hl 2 rfl) ?_
      refine lv_bipush (v := nI 8) hx hb dX3_aside_19 (by decide) ?_
      refine lv_icmp_le (tgt := 28) hx hb dX3_aside_21 (by decide) (fun hc_21 => ?_) (fun hc_21 => ?_)
      · skip
        exact absurd hc_21 (ge_le hno (by assumption) (by decide))
      · skip
        refine lv_iconst (v := nI 1) hx hb dX3_aside_24 (by decide) ?_
        refine lv_goto (tgt := 29) hx hb dX3_aside_25 (by decide) ?_
        refine lv_aload_n hx hb dX3_aside_29 rfl (lv_at hl 0 rfl) ?_
        refine va_get (D := (dC, dI)) (ci := 3) (v := .int (nI na)) (C := RX3) (T := TX3) (N := 18) hx hb hta inX3 hown hK hP 0 rfl rfl 12 (by decide) (hta _ mw_469) (fun _ h9 => h9) rfl dX3_aside_30 ?_
        refine lv_iload_n hx hb dX3_aside_33 rfl (lv_at hl 2 rfl) ?_
        refine lv_iadd hx hb dX3_aside_34 ?_
        refine lv_bipush (v := nI 48) hx hb dX3_aside_35 (by decide) ?_
        refine lv_icmp_le (tgt := 44) hx hb dX3_aside_37 (by decide) (fun hc_37 => ?_) (fun hc_37 => ?_)
        · skip
          refine lv_iconst (v := nI 0) hx hb dX3_aside_44 (by decide) ?_
          refine cf_1 (wr := []) (va_runV (As := [.int (nI 0), .int (nI 1), .int (nI 0)]) (rest := []) ⟨hx, hb, hml, hown, hta⟩ (MO.to (m_refuses l dC dI o th ph og qx qk qw qb qn mh ml nc rs na qd nz qg t1 t2 false true false) H.size) (cwV 3 hta (aw_V mw_527 mw_524 mw_526 mw_s21 mw_5) rfl rfl rfl ⟨rfl, dyX3_refuses⟩ ⟨(Nat.le_of_ble_eq_true rfl), (Nat.le_of_ble_eq_true rfl)⟩) (pr_V hP hD hK hE [0] [] (by decide) rfl rfl rfl rfl) rfl rfl hl.1 rfl (lv_room (Nat.le_of_ble_eq_true rfl)) dX3_aside_45 ⟨(Nat.le_of_ble_eq_true rfl), (Nat.le_of_ble_eq_true rfl)⟩) hP hD hS hA [0] [] rfl rfl (by decide) (by decide) (fun H locs hP hD hS => ?_)
          have hP : va_P (dC, dI) vwCl [(o, .inr (3, [.int (rfN false true false), .int (nI ph), .int (zI og), .ref qx, .ref qk, .ref qw, .ref qb, .ref qn, .long mh, .long ml, .long nc, .int rs, .int (nI na), .ref qd, .int (nI nz), .ref qg, .long t1, .long t2]))] H := hP
          have hD : va_D A [(o, .inr (3, [.int (rfN false true false), .int (nI ph), .int (zI og), .ref qx, .ref qk, .ref qw, .ref qb, .ref qn, .long mh, .long ml, .long nc, .int rs, .int (nI na), .ref qd, .int (nI nz), .ref qg, .long t1, .long t2]))] := hD
          refine W.widen (k := 0) (n := 0) (Nat.le_of_ble_eq_true rfl) (Nat.le_of_ble_eq_true rfl) ?_
          have e9 : rfN false true false = nI 2 := rfl
          have hP : va_P (dC, dI) vwCl [(o, .inr (3, [.int (nI 2), .int (nI ph), .int (zI og), .ref qx, .ref qk, .ref qw, .ref qb, .ref qn, .long mh, .long ml, .long nc, .int rs, .int (nI na), .ref qd, .int (nI nz), .ref qg, .long t1, .long t2]))] H := by rw [← e9]; exact hP
          have hD : va_D A [(o, .inr (3, [.int (nI 2), .int (nI ph), .int (zI og), .ref qx, .ref qk, .ref qw, .ref qb, .ref qn, .long mh, .long ml, .long nc, .int rs, .int (nI na), .ref qd, .int (nI nz), .ref qg, .long t1, .long t2]))] := by rw [← e9]; exact hD
          refine w_pc (pc2 := 48) rfl ?_
          refine lv_if_eq (tgt := 53) hx hb dX3_aside_48 (by decide) (fun hc_48 => ?_) (fun hc_48 => ?_)
          · skip
            exact absurd hc_48 (by decide)
          · skip
            refine lv_iconst (v := nI 0) hx hb dX3_aside_51 (by decide) ?_
            exact rt_i hx hb hr hlk hQ hAe hP hD hS [0] (by decide) rfl (Nat.le_of_ble_eq_true rfl) (Nat.le_of_ble_eq_true rfl) (rfl) dX3_aside_52
        · skip
          refine lv_iconst (v := nI 1) hx hb dX3_aside_40 (by decide) ?_
          refine lv_goto (tgt := 45) hx hb dX3_aside_41 (by decide) ?_
          refine cf_1 (wr := []) (va_runV (As := [.int (nI 0), .int (nI 1), .int (nI 1)]) (rest := []) ⟨hx, hb, hml, hown, hta⟩ (MO.to (m_refuses l dC dI o th ph og qx qk qw qb qn mh ml nc rs na qd nz qg t1 t2 false true true) H.size) (cwV 3 hta (aw_V mw_527 mw_524 mw_526 mw_s21 mw_5) rfl rfl rfl ⟨rfl, dyX3_refuses⟩ ⟨(Nat.le_of_ble_eq_true rfl), (Nat.le_of_ble_eq_true rfl)⟩) (pr_V hP hD hK hE [0] [] (by decide) rfl rfl rfl rfl) rfl rfl hl.1 rfl (lv_room (Nat.le_of_ble_eq_true rfl)) dX3_aside_45 ⟨(Nat.le_of_ble_eq_true rfl), (Nat.le_of_ble_eq_true rfl)⟩) hP hD hS hA [0] [] rfl rfl (by decide) (by decide) (fun H locs hP hD hS => ?_)
          have hP : va_P (dC, dI) vwCl [(o, .inr (3, [.int (rfN false true true), .int (nI ph), .int (zI og), .ref qx, .ref qk, .ref qw, .ref qb, .ref qn, .long mh, .long ml, .long nc, .int rs, .int (nI na), .ref qd, .int (nI nz), .ref qg, .long t1, .long t2]))] H := hP
          have hD : va_D A [(o, .inr (3, [.int (rfN false true true), .int (nI ph), .int (zI og), .ref qx, .ref qk, .ref qw, .ref qb, .ref qn, .long mh, .long ml, .long nc, .int rs, .int (nI na), .ref qd, .int (nI nz), .ref qg, .long t1, .long t2]))] := hD
          refine W.widen (k := 0) (n := 0) (Nat.le_of_ble_eq_true rfl) (Nat.le_of_ble_eq_true rfl) ?_
          have e9 : rfN false true true = nI 2 := rfl
          have hP : va_P (dC, dI) vwCl [(o, .inr (3, [.int (nI 2), .int (nI ph), .int (zI og), .ref qx, .ref qk, .ref qw, .ref qb, .ref qn, .long mh, .long ml, .long nc, .int rs, .int (nI na), .ref qd, .int (nI nz), .ref qg, .long t1, .long t2]))] H := by rw [← e9]; exact hP
          have hD : va_D A [(o, .inr (3, [.int (nI 2), .int (nI ph), .int (zI og), .ref qx, .ref qk, .ref qw, .ref qb, .ref qn, .long mh, .long ml, .long nc, .int rs, .int (nI na), .ref qd, .int (nI nz), .ref qg, .long t1, .long t2]))] := by rw [← e9]; exact hD
          refine w_pc (pc2 := 48) rfl ?_
          refine lv_if_eq (tgt := 53) hx hb dX3_aside_48 (by decide) (fun hc_48 => ?_) (fun hc_48 => ?_)
          · skip
            exact absurd hc_48 (by decide)
          · skip
            refine lv_iconst (v := nI 0) hx hb dX3_aside_51 (by decide) ?_
            exact rt_i hx hb hr hlk hQ hAe hP hD hS [0] (by decide) rfl (Nat.le_of_ble_eq_true rfl) (Nat.le_of_ble_eq_true rfl) (rfl) dX3_aside_52
  · skip
    have hc_6 := (not_congr (ix_eq (a := ph) (b := 1) (by omega) (by omega))).mp hc_6
    have hc_6 : ¬ (ph = 1) := hc_6
    exfalso; omega

def rm_m_aside_3 : Room := { frames := 1, cells := 0, slots := 0, locals := 23 }
set_option maxHeartbeats 4000000 in
set_option maxRecDepth 100000 in
/-- aside, too much -/
theorem m_aside_3 (l : Launch) (dC : Nat → ClassId) (dI : Nat → Nat → Nat) (o : Nat) (th : Int32) (ph : Nat) (og : Bool) (qx : Nat) (qk : Nat) (qw : Nat) (qb : Nat) (qn : Nat) (mh : Int64) (ml : Int64) (nc : Int64) (rs : Int32) (na : Nat) (qd : Nat) (nz : Nat) (qg : Nat) (t1 : Int64) (t2 : Int64) (y : Int64) (cn : Nat) (hph : ph = 1) (hcn : cn ≤ 8) (hna : 48 < na + cn) (hnb : na ≤ 48) : MO l dC dI yX3_aside wsX3_aside rm_m_aside_3 [.ref o, .long y, .int (nI cn)] [(o, .inr (3, [.int th, .int (nI ph), .int (zI og), .ref qx, .ref qk, .ref qw, .ref qb, .ref qn, .long mh, .long ml, .long nc, .int rs, .int (nI na), .ref qd, .int (nI nz), .ref qg, .long t1, .long t2]))] [] [(o, .inr (3, [.int (nI 3), .int (nI ph), .int (zI og), .ref qx, .ref qk, .ref qw, .ref qb, .ref qn, .long mh, .long ml, .long nc, .int rs, .int (nI na), .ref qd, .int (nI nz), .ref qg, .long t1, .long t2]))] (some (.int (nI 0))) := by
  refine mo_ofW (cc := cX3_aside) (maxL := 5) (ret := (some .int)) (by decide) rfl (Nat.le_of_ble_eq_true rfl) ?_
  intro p e s m args below meth c Q A H locs ls hx hb hr hlk hml hta hown hin hE hQ hAe hA hK hP hD hS hl
  have hown : s.vm.findClass RX3 = some m.cls := hown
  have hl : lv_has ls 5 [(0, .ref o), (1, .long y), (3, .int (nI cn))] := hl
  refine lv_aload_n hx hb dX3_aside_0 rfl (lv_at hl 0 rfl) ?_
  refine lv_aload_n hx hb dX3_aside_1 rfl (lv_at hl 0 rfl) ?_
  refine va_get (D := (dC, dI)) (ci := 3) (v := .int (nI ph)) (C := RX3) (T := TX3) (N := 18) hx hb hta inX3 hown hK hP 0 rfl rfl 1 (by decide) (hta _ mw_458) (fun _ h9 => h9) rfl dX3_aside_2 ?_
  refine lv_iconst (v := nI 1) hx hb dX3_aside_5 (by decide) ?_
  refine lv_icmp_eq (tgt := 13) hx hb dX3_aside_6 (by decide) (fun hc_6 => ?_) (fun hc_6 => ?_)
  · skip
    have hc_6 := (ix_eq (a := ph) (b := 1) (by omega) (by omega)).mp hc_6
    have hc_6 : (ph = 1) := hc_6
    refine lv_iconst (v := nI 0) hx hb dX3_aside_13 (by decide) ?_
    refine lv_iload_n hx hb dX3_aside_14 rfl (lv_at hl 2 rfl) ?_
    refine lv_if_lt (tgt := 24) hx hb dX3_aside_15 (by decide) (fun hc_15 => ?_) (fun hc_15 => ?_)
    · skip
      have hc_15 := (ix_lt (a := cn) (b := 0) (by omega) (by omega)).mp hc_15
      have hc_15 : (cn < 0) := hc_15
      exfalso; omega
    · skip
      have hc_15 := (not_congr (ix_lt (a := cn) (b := 0) (by omega) (by omega))).mp hc_15
      have hc_15 : ¬ (cn < 0) := hc_15
      refine lv_iload_n hx hb dX3_aside_18 rfl (lv_at hl 2 rfl) ?_
      refine lv_bipush (v := nI 8) hx hb dX3_aside_19 (by decide) ?_
      refine lv_icmp_le (tgt := 28) hx hb dX3_aside_21 (by decide) (fun hc_21 => ?_) (fun hc_21 => ?_)
      · skip
        have hc_21 := (ix_le (a := cn) (b := 8) (by omega) (by omega)).mp hc_21
        have hc_21 : (cn ≤ 8) := hc_21
        refine lv_iconst (v := nI 0) hx hb dX3_aside_28 (by decide) ?_
        refine lv_aload_n hx hb dX3_aside_29 rfl (lv_at hl 0 rfl) ?_
        refine va_get (D := (dC, dI)) (ci := 3) (v := .int (nI na)) (C := RX3) (T := TX3) (N := 18) hx hb hta inX3 hown hK hP 0 rfl rfl 12 (by decide) (hta _ mw_469) (fun _ h9 => h9) rfl dX3_aside_30 ?_
        refine lv_iload_n hx hb dX3_aside_33 rfl (lv_at hl 2 rfl) ?_
        refine lv_iadd hx hb dX3_aside_34 (top_i (nI_add _ _) ?_)
        refine lv_bipush (v := nI 48) hx hb dX3_aside_35 (by decide) ?_
        refine lv_icmp_le (tgt := 44) hx hb dX3_aside_37 (by decide) (fun hc_37 => ?_) (fun hc_37 => ?_)
        · skip
          have hc_37 := (ix_le (a := na + cn) (b := 48) (by omega) (by omega)).mp hc_37
          have hc_37 : ((na + cn) ≤ 48) := hc_37
          exfalso; omega
        · skip
          have hc_37 := (not_congr (ix_le (a := na + cn) (b := 48) (by omega) (by omega))).mp hc_37
          have hc_37 : ¬ ((na + cn) ≤ 48) := hc_37
          refine lv_iconst (v := nI 1) hx hb dX3_aside_40 (by decide) ?_
          refine lv_goto (tgt := 45) hx hb dX3_aside_41 (by decide) ?_
          refine cf_1 (wr := []) (va_runV (As := [.int (nI 0), .int (nI 0), .int (nI 1)]) (rest := []) ⟨hx, hb, hml, hown, hta⟩ (MO.to (m_refuses l dC dI o th ph og qx qk qw qb qn mh ml nc rs na qd nz qg t1 t2 false false true) H.size) (cwV 3 hta (aw_V mw_527 mw_524 mw_526 mw_s21 mw_5) rfl rfl rfl ⟨rfl, dyX3_refuses⟩ ⟨(Nat.le_of_ble_eq_true rfl), (Nat.le_of_ble_eq_true rfl)⟩) (pr_V hP hD hK hE [0] [] (by decide) rfl rfl rfl rfl) rfl rfl hl.1 rfl (lv_room (Nat.le_of_ble_eq_true rfl)) dX3_aside_45 ⟨(Nat.le_of_ble_eq_true rfl), (Nat.le_of_ble_eq_true rfl)⟩) hP hD hS hA [0] [] rfl rfl (by decide) (by decide) (fun H locs hP hD hS => ?_)
          have hP : va_P (dC, dI) vwCl [(o, .inr (3, [.int (rfN false false true), .int (nI ph), .int (zI og), .ref qx, .ref qk, .ref qw, .ref qb, .ref qn, .long mh, .long ml, .long nc, .int rs, .int (nI na), .ref qd, .int (nI nz), .ref qg, .long t1, .long t2]))] H := hP
          have hD : va_D A [(o, .inr (3, [.int (rfN false false true), .int (nI ph), .int (zI og), .ref qx, .ref qk, .ref qw, .ref qb, .ref qn, .long mh, .long ml, .long nc, .int rs, .int (nI na), .ref qd, .int (nI nz), .ref qg, .long t1, .long t2]))] := hD
          refine W.widen (k := 0) (n := 0) (Nat.le_of_ble_eq_true rfl) (Nat.le_of_ble_eq_true rfl) ?_
          have e9 : rfN false false true = nI 3 := rfl
          have hP : va_P (dC, dI) vwCl [(o, .inr (3, [.int (nI 3), .int (nI ph), .int (zI og), .ref qx, .ref qk, .ref qw, .ref qb, .ref qn, .long mh, .long ml, .long nc, .int rs, .int (nI na), .ref qd, .int (nI nz), .ref qg, .long t1, .long t2]))] H := by rw [← e9]; exact hP
          have hD : va_D A [(o, .inr (3, [.int (nI 3), .int (nI ph), .int (zI og), .ref qx, .ref qk, .ref qw, .ref qb, .ref qn, .long mh, .long ml, .long nc, .int rs, .int (nI na), .ref qd, .int (nI nz), .ref qg, .long t1, .long t2]))] := by rw [← e9]; exact hD
          refine w_pc (pc2 := 48) rfl ?_
          refine lv_if_eq (tgt := 53) hx hb dX3_aside_48 (by decide) (fun hc_48 => ?_) (fun hc_48 => ?_)
          · skip
            exact absurd hc_48 (by decide)
          · skip
            refine lv_iconst (v := nI 0) hx hb dX3_aside_51 (by decide) ?_
            exact rt_i hx hb hr hlk hQ hAe hP hD hS [0] (by decide) rfl (Nat.le_of_ble_eq_true rfl) (Nat.le_of_ble_eq_true rfl) (rfl) dX3_aside_52
      · skip
        have hc_21 := (not_congr (ix_le (a := cn) (b := 8) (by omega) (by omega))).mp hc_21
        have hc_21 : ¬ (cn ≤ 8) := hc_21
        exfalso; omega
  · skip
    have hc_6 := (not_congr (ix_eq (a := ph) (b := 1) (by omega) (by omega))).mp hc_6
    have hc_6 : ¬ (ph = 1) := hc_6
    exfalso; omega

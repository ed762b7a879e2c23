def rm_m_seal_y : Room := { frames := 8, cells := 0, slots := 0, locals := 193 }
set_option maxHeartbeats 4000000 in
set_option maxRecDepth 100000 in
/-- seal() -/
theorem m_seal_y (l : Launch) (dC : Nat → ClassId) (dI : Nat → Nat → Nat) (o : Nat) (th : Int32) (ph : Nat) (og : Bool) (qx : Nat) (qk : Nat) (qw : Nat) (qb : Nat) (qn : Nat) (mh : Int64) (ml : Int64) (nc : Int64) (rs : Int32) (na : Nat) (qd : Nat) (nz : Nat) (qg : Nat) (t1 : Int64) (t2 : Int64) (kx : ClassId) (kw : ClassId) (kb : ClassId) (kn : ClassId) (kd : ClassId) (kg : ClassId) (sb : Nat → Nat) (w : Nat → Int32) (b : Nat → Nat) (z : Nat → Nat) (bd : Nat → Nat) (gv : Nat → Nat) (s256 : ∀ i, sb i < 256) (d256 : ∀ i, bd i < 256) (g256 : ∀ i, gv i < 256) (hna : na ≤ 48) (hnz : nz ≤ 96) (hph6 : ph < 6) (huw : uwN ph = true) (hog : og = false) : MX l dC dI yX3_seal wsX3_seal rm_m_seal_y [.ref o] [(o, .inr (3, [.int th, .int (nI ph), .int (zI og), .ref qx, .ref qk, .ref qw, .ref qb, .ref qn, .long mh, .long ml, .long nc, .int rs, .int (nI na), .ref qd, .int (nI nz), .ref qg, .long t1, .long t2])), (qx, .inl (kx, 256, .inl (nF sb))), (qw, .inl (kw, 44, .inl w)), (qb, .inl (kb, 16, .inl (nF b))), (qn, .inl (kn, 16, .inl (nF z))), (qd, .inl (kd, 48, .inl (nF bd))), (qg, .inl (kg, 96, .inl (nF gv)))] [(kx, .int), (kw, .int), (kb, .int), (kn, .int), (kd, .int), (kg, .int)] (fun ((b1, z1, mh1, ml1) : (Nat → Nat) × (Nat → Nat) × Int64 × Int64) => [(o, .inr (3, [.int (nI 0), .int (nI 3), .int (zI og), .ref qx, .ref qk, .ref qw, .ref qb, .ref qn, .long mh1, .long ml1, .long nc, .int rs, .int (nI na), .ref qd, .int (nI nz), .ref qg, .long ((tgN sb w nc rs bd na (syN og sb w nc rs gv) nz).1), .long ((tgN sb w nc rs bd na (syN og sb w nc rs gv) nz).2)])), (qx, .inl (kx, 256, .inl (nF sb))), (qw, .inl (kw, 44, .inl w)), (qb, .inl (kb, 16, .inl (nF b1))), (qn, .inl (kn, 16, .inl (nF z1))), (qd, .inl (kd, 48, .inl (nF bd))), (qg, .inl (kg, 96, .inl (nF gv)))]) (fun ((b1, z1, mh1, ml1) : (Nat → Nat) × (Nat → Nat) × Int64 × Int64) => []) (fun _ => True) (fun ((b1, z1, mh1, ml1) : (Nat → Nat) × (Nat → Nat) × Int64 × Int64) => (some (.int (nI nz)))) := by
  refine mx_ofW (cc := cX3_seal) (maxL := 1) (ret := (some .int)) (by decide) rfl (Nat.le_of_ble_eq_true rfl) ?_
  intro p e s m args below meth c Q A H locs ls hx hb hr hlk hml hta hown hin hE hQ hAe hA hK hP hD hS hl
  have hown : s.vm.findClass RX3 = some m.cls := hown
  have hl : lv_has ls 1 [(0, .ref o)] := hl
  refine lv_aload_n hx hb dX3_seal_0 rfl (lv_at hl 0 rfl) ?_
  refine lv_aload_n hx hb dX3_seal_1 rfl (lv_at hl 0 rfl) ?_
  refine cf_1 (wr := [(qx, .inl (kx, 256, .inl (nF sb))), (qw, .inl (kw, 44, .inl w)), (qb, .inl (kb, 16, .inl (nF b))), (qn, .inl (kn, 16, .inl (nF z))), (qd, .inl (kd, 48, .inl (nF bd))), (qg, .inl (kg, 96, .inl (nF gv)))]) (va_runV (As := []) (rest := [.ref o]) ⟨hx, hb, hml, hown, hta⟩ (MO.to (m_isUnderWay l dC dI o th ph og qx qk qw qb qn mh ml nc rs na qd nz qg t1 t2 hph6) H.size) (cwV 0 hta (aw_V mw_597 mw_594 mw_596 mw_s31 mw_5) rfl rfl rfl ⟨rfl, dyX3_isUnderWay⟩ ⟨(Nat.le_of_ble_eq_true rfl), (Nat.le_of_ble_eq_true rfl)⟩) (pr_V hP hD hK hE [0] [] (by decide) rfl rfl rfl rfl) rfl rfl hl.1 rfl (lv_room (Nat.le_of_ble_eq_true rfl)) dX3_seal_2 ⟨(Nat.le_of_ble_eq_true rfl), (Nat.le_of_ble_eq_true rfl)⟩) hP hD hS hA [0] [1, 2, 3, 4, 5, 6] rfl rfl (by decide) (by decide) (fun H locs hP hD hS => ?_)
  have hP : va_P (dC, dI) vwCl [(qx, .inl (kx, 256, .inl (nF sb))), (qw, .inl (kw, 44, .inl w)), (qb, .inl (kb, 16, .inl (nF b))), (qn, .inl (kn, 16, .inl (nF z))), (qd, .inl (kd, 48, .inl (nF bd))), (qg, .inl (kg, 96, .inl (nF gv))), (o, .inr (3, [.int th, .int (nI ph), .int (zI og), .ref qx, .ref qk, .ref qw, .ref qb, .ref qn, .long mh, .long ml, .long nc, .int rs, .int (nI na), .ref qd, .int (nI nz), .ref qg, .long t1, .long t2]))] H := hP
  have hD : va_D A [(qx, .inl (kx, 256, .inl (nF sb))), (qw, .inl (kw, 44, .inl w)), (qb, .inl (kb, 16, .inl (nF b))), (qn, .inl (kn, 16, .inl (nF z))), (qd, .inl (kd, 48, .inl (nF bd))), (qg, .inl (kg, 96, .inl (nF gv))), (o, .inr (3, [.int th, .int (nI ph), .int (zI og), .ref qx, .ref qk, .ref qw, .ref qb, .ref qn, .long mh, .long ml, .long nc, .int rs, .int (nI na), .ref qd, .int (nI nz), .ref qg, .long t1, .long t2]))] := hD
  refine W.widen (k := 0) (n := 0) (Nat.le_of_ble_eq_true rfl) (Nat.le_of_ble_eq_true rfl) ?_
  refine w_pc (pc2 := 5) rfl ?_
  refine lv_if_eq (tgt := 15) hx hb dX3_seal_5 (by decide) (fun hc_5 => ?_) (fun hc_5 => ?_)
  · skip
    exact absurd (zI0 (b := uwN ph) hc_5) (by rw [huw]; decide)
  · skip
    refine lv_aload_n hx hb dX3_seal_8 rfl (lv_at hl 0 rfl) ?_
    refine va_get (D := (dC, dI)) (ci := 3) (v := .int (zI og)) (C := RX3) (T := TX3) (N := 18) hx hb hta inX3 hown hK hP 6 rfl rfl 2 (by decide) (hta _ mw_459) (fun _ h9 => h9) rfl dX3_seal_9 ?_
    refine lv_if_eq (tgt := 19) hx hb dX3_seal_12 (by decide) (fun hc_12 => ?_) (fun hc_12 => ?_)
    · skip
      refine lv_iconst (v := nI 0) hx hb dX3_seal_19 (by decide) ?_
      refine lv_iconst (v := nI 0) hx hb dX3_seal_20 (by decide) ?_
      refine lv_iconst (v := nI 0) hx hb dX3_seal_21 (by decide) ?_
      refine cf_1 (wr := [(qx, .inl (kx, 256, .inl (nF sb))), (qw, .inl (kw, 44, .inl w)), (qb, .inl (kb, 16, .inl (nF b))), (qn, .inl (kn, 16, .inl (nF z))), (qd, .inl (kd, 48, .inl (nF bd))), (qg, .inl (kg, 96, .inl (nF gv)))]) (va_runV (As := [.int (nI 0), .int (nI 0), .int (nI 0)]) (rest := []) ⟨hx, hb, hml, hown, hta⟩ (MO.to (m_refuses l dC dI o th ph og qx qk qw qb qn mh ml nc rs na qd nz qg t1 t2 false false false) H.size) (cwV 3 hta (aw_V mw_527 mw_524 mw_526 mw_s21 mw_5) rfl rfl rfl ⟨rfl, dyX3_refuses⟩ ⟨(Nat.le_of_ble_eq_true rfl), (Nat.le_of_ble_eq_true rfl)⟩) (pr_V hP hD hK hE [6] [] (by decide) rfl rfl rfl rfl) rfl rfl hl.1 rfl (lv_room (Nat.le_of_ble_eq_true rfl)) dX3_seal_22 ⟨(Nat.le_of_ble_eq_true rfl), (Nat.le_of_ble_eq_true rfl)⟩) hP hD hS hA [6] [0, 1, 2, 3, 4, 5] rfl rfl (by decide) (by decide) (fun H locs hP hD hS => ?_)
      have hP : va_P (dC, dI) vwCl [(qx, .inl (kx, 256, .inl (nF sb))), (qw, .inl (kw, 44, .inl w)), (qb, .inl (kb, 16, .inl (nF b))), (qn, .inl (kn, 16, .inl (nF z))), (qd, .inl (kd, 48, .inl (nF bd))), (qg, .inl (kg, 96, .inl (nF gv))), (o, .inr (3, [.int (rfN false false false), .int (nI ph), .int (zI og), .ref qx, .ref qk, .ref qw, .ref qb, .ref qn, .long mh, .long ml, .long nc, .int rs, .int (nI na), .ref qd, .int (nI nz), .ref qg, .long t1, .long t2]))] H := hP
      have hD : va_D A [(qx, .inl (kx, 256, .inl (nF sb))), (qw, .inl (kw, 44, .inl w)), (qb, .inl (kb, 16, .inl (nF b))), (qn, .inl (kn, 16, .inl (nF z))), (qd, .inl (kd, 48, .inl (nF bd))), (qg, .inl (kg, 96, .inl (nF gv))), (o, .inr (3, [.int (rfN false false false), .int (nI ph), .int (zI og), .ref qx, .ref qk, .ref qw, .ref qb, .ref qn, .long mh, .long ml, .long nc, .int rs, .int (nI na), .ref qd, .int (nI nz), .ref qg, .long t1, .long t2]))] := hD
      refine W.widen (k := 0) (n := 0) (Nat.le_of_ble_eq_true rfl) (Nat.le_of_ble_eq_true rfl) ?_
      have e9 : rfN false false false = nI 0 := rfl
      have hP : va_P (dC, dI) vwCl [(qx, .inl (kx, 256, .inl (nF sb))), (qw, .inl (kw, 44, .inl w)), (qb, .inl (kb, 16, .inl (nF b))), (qn, .inl (kn, 16, .inl (nF z))), (qd, .inl (kd, 48, .inl (nF bd))), (qg, .inl (kg, 96, .inl (nF gv))), (o, .inr (3, [.int (nI 0), .int (nI ph), .int (zI og), .ref qx, .ref qk, .ref qw, .ref qb, .ref qn, .long mh, .long ml, .long nc, .int rs, .int (nI na), .ref qd, .int (nI nz), .ref qg, .long t1, .long t2]))] H := by rw [← e9]; exact hP
      have hD : va_D A [(qx, .inl (kx, 256, .inl (nF sb))), (qw, .inl (kw, 44, .inl w)), (qb, .inl (kb, 16, .inl (nF b))), (qn, .inl (kn, 16, .inl (nF z))), (qd, .inl (kd, 48, .inl (nF bd))), (qg, .inl (kg, 96, .inl (nF gv))), (o, .inr (3, [.int (nI 0), .int (nI ph), .int (zI og), .ref qx, .ref qk, .ref qw, .ref qb, .ref qn, .long mh, .long ml, .long nc, .int rs, .int (nI na), .ref qd, .int (nI nz), .ref qg, .long t1, .long t2]))] := by rw [← e9]; exact hD
      refine w_pc (pc2 := 25) rfl ?_
      refine lv_if_eq (tgt := 30) hx hb dX3_seal_25 (by decide) (fun hc_25 => ?_) (fun hc_25 => ?_)
      · skip
        refine lv_aload_n hx hb dX3_seal_30 rfl (lv_at hl 0 rfl) ?_
        refine cx_0 (wr := []) (va_runV (As := []) (rest := []) ⟨hx, hb, hml, hown, hta⟩ (MX.to (m_makeTag l dC dI o (nI 0) ph og qx qk qw qb qn mh ml nc rs na qd nz qg t1 t2 kx kw kb kn kd kg sb w b z bd gv s256 d256 g256 hna hnz) H.size) (cwV 0 hta (aw_V mw_601 mw_598 mw_600 mw_s32 mw_5) rfl rfl rfl ⟨rfl, dyX3_makeTag⟩ ⟨(Nat.le_of_ble_eq_true rfl), (Nat.le_of_ble_eq_true rfl)⟩) (pr_V hP hD hK hE [6, 0, 1, 2, 3, 4, 5] [0, 1, 2, 3, 4, 5] (by decide) rfl rfl rfl rfl) rfl rfl hl.1 rfl (lv_room (Nat.le_of_ble_eq_true rfl)) dX3_seal_31 ⟨(Nat.le_of_ble_eq_true rfl), (Nat.le_of_ble_eq_true rfl)⟩) hK hP hD hS hA [6, 0, 1, 2, 3, 4, 5] [] rfl rfl (by decide) (by decide) (fun u9 H locs hphi_31 hK hP hD hS => ?_)
        obtain ⟨b1_1, z1_1, mh1_1, ml1_1⟩ := u9
        have hK : va_K (dC, dI) vwCl [(kx, .int), (kw, .int), (kb, .int), (kn, .int), (kd, .int), (kg, .int)] s := hK
        have hP : va_P (dC, dI) vwCl [(o, .inr (3, [.int (nI 0), .int (nI ph), .int (zI og), .ref qx, .ref qk, .ref qw, .ref qb, .ref qn, .long mh1_1, .long ml1_1, .long nc, .int rs, .int (nI na), .ref qd, .int (nI nz), .ref qg, .long ((tgN sb w nc rs bd na (syN og sb w nc rs gv) nz).1), .long ((tgN sb w nc rs bd na (syN og sb w nc rs gv) nz).2)])), (qx, .inl (kx, 256, .inl (nF sb))), (qw, .inl (kw, 44, .inl w)), (qb, .inl (kb, 16, .inl (nF b1_1))), (qn, .inl (kn, 16, .inl (nF z1_1))), (qd, .inl (kd, 48, .inl (nF bd))), (qg, .inl (kg, 96, .inl (nF gv)))] H := hP
        have hD : va_D A [(o, .inr (3, [.int (nI 0), .int (nI ph), .int (zI og), .ref qx, .ref qk, .ref qw, .ref qb, .ref qn, .long mh1_1, .long ml1_1, .long nc, .int rs, .int (nI na), .ref qd, .int (nI nz), .ref qg, .long ((tgN sb w nc rs bd na (syN og sb w nc rs gv) nz).1), .long ((tgN sb w nc rs bd na (syN og sb w nc rs gv) nz).2)])), (qx, .inl (kx, 256, .inl (nF sb))), (qw, .inl (kw, 44, .inl w)), (qb, .inl (kb, 16, .inl (nF b1_1))), (qn, .inl (kn, 16, .inl (nF z1_1))), (qd, .inl (kd, 48, .inl (nF bd))), (qg, .inl (kg, 96, .inl (nF gv)))] := hD
        refine W.widen (k := 0) (n := 0) (Nat.le_of_ble_eq_true rfl) (Nat.le_of_ble_eq_true rfl) ?_
        refine w_pc (pc2 := 34) rfl ?_
        refine lv_aload_n hx hb dX3_seal_34 rfl (lv_at hl 0 rfl) ?_
        refine lv_iconst (v := nI 3) hx hb dX3_seal_35 (by decide) ?_
        refine va_put (D := (dC, dI)) (ci := 3) (v := .int (nI 3)) (ty := .int) (C := RX3) (T := TX3) (N := 18) hx hb hta inX3 tyX3 tyX3_ok nmX3 hown hK hP hD hS 0 rfl rfl 1 (by decide) (hta _ mw_458) (fun _ h9 => h9) rfl (by decide +kernel) rfl rfl (Nat.le_of_ble_eq_true rfl) dX3_seal_36 (fun H locs hP hD hS => ?_)
        have hP : va_P (dC, dI) vwCl [(o, .inr (3, [.int (nI 0), .int (nI 3), .int (zI og), .ref qx, .ref qk, .ref qw, .ref qb, .ref qn, .long mh1_1, .long ml1_1, .long nc, .int rs, .int (nI na), .ref qd, .int (nI nz), .ref qg, .long ((tgN sb w nc rs bd na (syN og sb w nc rs gv) nz).1), .long ((tgN sb w nc rs bd na (syN og sb w nc rs gv) nz).2)])), (qx, .inl (kx, 256, .inl (nF sb))), (qw, .inl (kw, 44, .inl w)), (qb, .inl (kb, 16, .inl (nF b1_1))), (qn, .inl (kn, 16, .inl (nF z1_1))), (qd, .inl (kd, 48, .inl (nF bd))), (qg, .inl (kg, 96, .inl (nF gv)))] H := hP
        have hD : va_D A [(o, .inr (3, [.int (nI 0), .int (nI 3), .int (zI og), .ref qx, .ref qk, .ref qw, .ref qb, .ref qn, .long mh1_1, .long ml1_1, .long nc, .int rs, .int (nI na), .ref qd, .int (nI nz), .ref qg, .long ((tgN sb w nc rs bd na (syN og sb w nc rs gv) nz).1), .long ((tgN sb w nc rs bd na (syN og sb w nc rs gv) nz).2)])), (qx, .inl (kx, 256, .inl (nF sb))), (qw, .inl (kw, 44, .inl w)), (qb, .inl (kb, 16, .inl (nF b1_1))), (qn, .inl (kn, 16, .inl (nF z1_1))), (qd, .inl (kd, 48, .inl (nF bd))), (qg, .inl (kg, 96, .inl (nF gv)))] := hD
        refine lv_aload_n hx hb dX3_seal_39 rfl (lv_at hl 0 rfl) ?_
        refine va_get (D := (dC, dI)) (ci := 3) (v := .int (nI nz)) (C := RX3) (T := TX3) (N := 18) hx hb hta inX3 hown hK hP 0 rfl rfl 14 (by decide) (hta _ mw_471) (fun _ h9 => h9) rfl dX3_seal_40 ?_
        exact rx_i (b1_1, z1_1, mh1_1, ml1_1) trivial hx hb hr hlk hQ hAe hK hP hD hS [0, 1, 2, 3, 4, 5, 6] [] (by decide) rfl rfl (Nat.le_of_ble_eq_true rfl) (Nat.le_of_ble_eq_true rfl) (rfl) dX3_seal_43
      · skip
        exact absurd (by decide) hc_25
    · skip
      exact absurd (zI1 (b := og) hc_12) (by rw [hog]; decide)

def rm_m_seal_n : Room := { frames := 1, cells := 0, slots := 0, locals := 23 }
set_option maxHeartbeats 4000000 in
set_option maxRecDepth 100000 in
/-- seal, refused -/
theorem m_seal_n (l : Launch) (dC : Nat → ClassId) (dI : Nat → Nat → Nat) (o : Nat) (th : Int32) (ph : Nat) (og : Bool) (qx : Nat) (qk : Nat) (qw : Nat) (qb : Nat) (qn : Nat) (mh : Int64) (ml : Int64) (nc : Int64) (rs : Int32) (na : Nat) (qd : Nat) (nz : Nat) (qg : Nat) (t1 : Int64) (t2 : Int64) (hph6 : ph < 6) (hno : uwN ph = false ∨ og = true) : MO l dC dI yX3_seal wsX3_seal rm_m_seal_n [.ref o] [(o, .inr (3, [.int th, .int (nI ph), .int (zI og), .ref qx, .ref qk, .ref qw, .ref qb, .ref qn, .long mh, .long ml, .long nc, .int rs, .int (nI na), .ref qd, .int (nI nz), .ref qg, .long t1, .long t2]))] [] [(o, .inr (3, [.int (nI 1), .int (nI ph), .int (zI og), .ref qx, .ref qk, .ref qw, .ref qb, .ref qn, .long mh, .long ml, .long nc, .int rs, .int (nI na), .ref qd, .int (nI nz), .ref qg, .long t1, .long t2]))] (some (.int (nI 0))) := by
  refine mo_ofW (cc := cX3_seal) (maxL := 1) (ret := (some .int)) (by decide) rfl (Nat.le_of_ble_eq_true rfl) ?_
  intro p e s m args below meth c Q A H locs ls hx hb hr hlk hml hta hown hin hE hQ hAe hA hK hP hD hS hl
  have hown : s.vm.findClass RX3 = some m.cls := hown
  have hl : lv_has ls 1 [(0, .ref o)] := hl
  refine lv_aload_n hx hb dX3_seal_0 rfl (lv_at hl 0 rfl) ?_
  refine lv_aload_n hx hb dX3_seal_1 rfl (lv_at hl 0 rfl) ?_
  refine cf_1 (wr := []) (va_runV (As := []) (rest := [.ref o]) ⟨hx, hb, hml, hown, hta⟩ (MO.to (m_isUnderWay l dC dI o th ph og qx qk qw qb qn mh ml nc rs na qd nz qg t1 t2 hph6) H.size) (cwV 0 hta (aw_V mw_597 mw_594 mw_596 mw_s31 mw_5) rfl rfl rfl ⟨rfl, dyX3_isUnderWay⟩ ⟨(Nat.le_of_ble_eq_true rfl), (Nat.le_of_ble_eq_true rfl)⟩) (pr_V hP hD hK hE [0] [] (by decide) rfl rfl rfl rfl) rfl rfl hl.1 rfl (lv_room (Nat.le_of_ble_eq_true rfl)) dX3_seal_2 ⟨(Nat.le_of_ble_eq_true rfl), (Nat.le_of_ble_eq_true rfl)⟩) hP hD hS hA [0] [] rfl rfl (by decide) (by decide) (fun H locs hP hD hS => ?_)
  have hP : va_P (dC, dI) vwCl [(o, .inr (3, [.int th, .int (nI ph), .int (zI og), .ref qx, .ref qk, .ref qw, .ref qb, .ref qn, .long mh, .long ml, .long nc, .int rs, .int (nI na), .ref qd, .int (nI nz), .ref qg, .long t1, .long t2]))] H := hP
  have hD : va_D A [(o, .inr (3, [.int th, .int (nI ph), .int (zI og), .ref qx, .ref qk, .ref qw, .ref qb, .ref qn, .long mh, .long ml, .long nc, .int rs, .int (nI na), .ref qd, .int (nI nz), .ref qg, .long t1, .long t2]))] := hD
  refine W.widen (k := 0) (n := 0) (Nat.le_of_ble_eq_true rfl) (Nat.le_of_ble_eq_true rfl) ?_
  refine w_pc (pc2 := 5) rfl ?_
  refine lv_if_eq (tgt := 15) hx hb dX3_seal_5 (by decide) (fun hc_5 => ?_) (fun hc_5 => ?_)
  · skip
    refine lv_iconst (v := nI 1) hx hb dX3_seal_15 (by decide) ?_
    refine lv_goto (tgt := 20) hx hb dX3_seal_16 (by decide) ?_
    refine lv_iconst (v := nI 0) hx hb dX3_seal_20 (by decide) ?_
    refine lv_iconst (v := nI 0) hx hb dX3_seal_21 (by decide) ?_
    refine cf_1 (wr := []) (va_runV (As := [.int (nI 1), .int (nI 0), .int (nI 0)]) (rest := []) ⟨hx, hb, hml, hown, hta⟩ (MO.to (m_refuses l dC dI o th ph og qx qk qw qb qn mh ml nc rs na qd nz qg t1 t2 true false false) H.size) (cwV 3 hta (aw_V mw_527 mw_524 mw_526 mw_s21 mw_5) rfl rfl rfl ⟨rfl, dyX3_refuses⟩ ⟨(Nat.le_of_ble_eq_true rfl), (Nat.le_of_ble_eq_true rfl)⟩) (pr_V hP hD hK hE [0] [] (by decide) rfl rfl rfl rfl) rfl rfl hl.1 rfl (lv_room (Nat.le_of_ble_eq_true rfl)) dX3_seal_22 ⟨(Nat.le_of_ble_eq_true rfl), (Nat.le_of_ble_eq_true rfl)⟩) hP hD hS hA [0] [] rfl rfl (by decide) (by decide) (fun H locs hP hD hS => ?_)
    have hP : va_P (dC, dI) vwCl [(o, .inr (3, [.int (rfN true false false), .int (nI ph), .int (zI og), .ref qx, .ref qk, .ref qw, .ref qb, .ref qn, .long mh, .long ml, .long nc, .int rs, .int (nI na), .ref qd, .int (nI nz), .ref qg, .long t1, .long t2]))] H := hP
    have hD : va_D A [(o, .inr (3, [.int (rfN true false false), .int (nI ph), .int (zI og), .ref qx, .ref qk, .ref qw, .ref qb, .ref qn, .long mh, .long ml, .long nc, .int rs, .int (nI na), .ref qd, .int (nI nz), .ref qg, .long t1, .long t2]))] := hD
    refine W.widen (k := 0) (n := 0) (Nat.le_of_ble_eq_true rfl) (Nat.le_of_ble_eq_true rfl) ?_
    have e9 : rfN true false false = nI 1 := rfl
    have hP : va_P (dC, dI) vwCl [(o, .inr (3, [.int (nI 1), .int (nI ph), .int (zI og), .ref qx, .ref qk, .ref qw, .ref qb, .ref qn, .long mh, .long ml, .long nc, .int rs, .int (nI na), .ref qd, .int (nI nz), .ref qg, .long t1, .long t2]))] H := by rw [← e9]; exact hP
    have hD : va_D A [(o, .inr (3, [.int (nI 1), .int (nI ph), .int (zI og), .ref qx, .ref qk, .ref qw, .ref qb, .ref qn, .long mh, .long ml, .long nc, .int rs, .int (nI na), .ref qd, .int (nI nz), .ref qg, .long t1, .long t2]))] := by rw [← e9]; exact hD
    refine w_pc (pc2 := 25) rfl ?_
    refine lv_if_eq (tgt := 30) hx hb dX3_seal_25 (by decide) (fun hc_25 => ?_) (fun hc_25 => ?_)
    · skip
      exact absurd hc_25 (by decide)
    · skip
      refine lv_iconst (v := nI 0) hx hb dX3_seal_28 (by decide) ?_
      exact rt_i hx hb hr hlk hQ hAe hP hD hS [0] (by decide) rfl (Nat.le_of_ble_eq_true rfl) (Nat.le_of_ble_eq_true rfl) (rfl) dX3_seal_29
  · skip
    refine lv_aload_n hx hb dX3_seal_8 rfl (lv_at hl 0 rfl) ?_
    refine va_get (D := (dC, dI)) (ci := 3) (v := .int (zI og)) (C := RX3) (T := TX3) (N := 18) hx hb hta inX3 hown hK hP 0 rfl rfl 2 (by decide) (hta _ mw_459) (fun _ h9 => h9) rfl dX3_seal_9 ?_
    refine lv_if_eq (tgt := 19) hx hb dX3_seal_12 (by decide) (fun hc_12 => ?_) (fun hc_12 => ?_)
    · skip
      exact hno.elim (fun h9 => absurd h9 (by rw [zI1 (b := uwN ph) (by assumption)]; decide)) (fun h9 => absurd h9 (by rw [zI0 (b := og) hc_12]; decide))
    · skip
      refine lv_iconst (v := nI 1) hx hb dX3_seal_15 (by decide) ?_
      refine lv_goto (tgt := 20) hx hb dX3_seal_16 (by decide) ?_
      refine lv_iconst (v := nI 0) hx hb dX3_seal_20 (by decide) ?_
      refine lv_iconst (v := nI 0) hx hb dX3_seal_21 (by decide) ?_
      refine cf_1 (wr := []) (va_runV (As := [.int (nI 1), .int (nI 0), .int (nI 0)]) (rest := []) ⟨hx, hb, hml, hown, hta⟩ (MO.to (m_refuses l dC dI o th ph og qx qk qw qb qn mh ml nc rs na qd nz qg t1 t2 true false false) H.size) (cwV 3 hta (aw_V mw_527 mw_524 mw_526 mw_s21 mw_5) rfl rfl rfl ⟨rfl, dyX3_refuses⟩ ⟨(Nat.le_of_ble_eq_true rfl), (Nat.le_of_ble_eq_true rfl)⟩) (pr_V hP hD hK hE [0] [] (by decide) rfl rfl rfl rfl) rfl rfl hl.1 rfl (lv_room (Nat.le_of_ble_eq_true rfl)) dX3_seal_22 ⟨(Nat.le_of_ble_eq_true rfl), (Nat.le_of_ble_eq_true rfl)⟩) hP hD hS hA [0] [] rfl rfl (by decide) (by decide) (fun H locs hP hD hS => ?_)
      have hP : va_P (dC, dI) vwCl [(o, .inr (3, [.int (rfN true false false), .int (nI ph), .int (zI og), .ref qx, .ref qk, .ref qw, .ref qb, .ref qn, .long mh, .long ml, .long nc, .int rs, .int (nI na), .ref qd, .int (nI nz), .ref qg, .long t1, .long t2]))] H := hP
      have hD : va_D A [(o, .inr (3, [.int (rfN true false false), .int (nI ph), .int (zI og), .ref qx, .ref qk, .ref qw, .ref qb, .ref qn, .long mh, .long ml, .long nc, .int rs, .int (nI na), .ref qd, .int (nI nz), .ref qg, .long t1, .long t2]))] := hD
      refine W.widen (k := 0) (n := 0) (Nat.le_of_ble_eq_true rfl) (Nat.le_of_ble_eq_true rfl) ?_
      have e9 : rfN true false false = nI 1 := rfl
      have hP : va_P (dC, dI) vwCl [(o, .inr (3, [.int (nI 1), .int (nI ph), .int (zI og), .ref qx, .ref qk, .ref qw, .ref qb, .ref qn, .long mh, .long ml, .long nc, .int rs, .int (nI na), .ref qd, .int (nI nz), .ref qg, .long t1, .long t2]))] H := by rw [← e9]; exact hP
      have hD : va_D A [(o, .inr (3, [.int (nI 1), .int (nI ph), .int (zI og), .ref qx, .ref qk, .ref qw, .ref qb, .ref qn, .long mh, .long ml, .long nc, .int rs, .int (nI na), .ref qd, .int (nI nz), .ref qg, .long t1, .long t2]))] := by rw [← e9]; exact hD
      refine w_pc (pc2 := 25) rfl ?_
      refine lv_if_eq (tgt := 30) hx hb dX3_seal_25 (by decide) (fun hc_25 => ?_) (fun hc_25 => ?_)
      · skip
        exact absurd hc_25 (by decide)
      · skip
        refine lv_iconst (v := nI 0) hx hb dX3_seal_28 (by decide) ?_
        exact rt_i hx hb hr hlk hQ hAe hP hD hS [0] (by decide) rfl (Nat.le_of_ble_eq_true rfl) (Nat.le_of_ble_eq_true rfl) (rfl) dX3_seal_29

def rm_m_open_y : Room := { frames := 8, cells := 0, slots := 0, locals := 193 }
set_option maxHeartbeats 4000000 in
set_option maxRecDepth 100000 in
/-- open -/
theorem m_open_y (l : Launch) (dC : Nat → ClassId) (dI : Nat → Nat → Nat) (o : Nat) (th : Int32) (ph : Nat) (og : Bool) (qx : Nat) (qk : Nat) (qw : Nat) (qb : Nat) (qn : Nat) (mh : Int64) (ml : Int64) (nc : Int64) (rs : Int32) (na : Nat) (qd : Nat) (nz : Nat) (qg : Nat) (t1 : Int64) (t2 : Int64) (kx : ClassId) (kw : ClassId) (kb : ClassId) (kn : ClassId) (kd : ClassId) (kg : ClassId) (sb : Nat → Nat) (w : Nat → Int32) (b : Nat → Nat) (z : Nat → Nat) (bd : Nat → Nat) (gv : Nat → Nat) (hi : Int64) (lo : Int64) (s256 : ∀ i, sb i < 256) (d256 : ∀ i, bd i < 256) (g256 : ∀ i, gv i < 256) (hna : na ≤ 48) (hnz : nz ≤ 96) (hph6 : ph < 6) (huw : uwN ph = true) (hog : og = true) (heq : eqB hi (tgN sb w nc rs bd na (syN og sb w nc rs gv) nz).1 lo (tgN sb w nc rs bd na (syN og sb w nc rs gv) nz).2 = true) : MX l dC dI yX3_open wsX3_open rm_m_open_y [.ref o, .long hi, .long lo] [(o, .inr (3, [.int th, .int (nI ph), .int (zI og), .ref qx, .ref qk, .ref qw, .ref qb, .ref qn, .long mh, .long ml, .long nc, .int rs, .int (nI na), .ref qd, .int (nI nz), .ref qg, .long t1, .long t2])), (qx, .inl (kx, 256, .inl (nF sb))), (qw, .inl (kw, 44, .inl w)), (qb, .inl (kb, 16, .inl (nF b))), (qn, .inl (kn, 16, .inl (nF z))), (qd, .inl (kd, 48, .inl (nF bd))), (qg, .inl (kg, 96, .inl (nF gv)))] [(kx, .int), (kw, .int), (kb, .int), (kn, .int), (kd, .int), (kg, .int)] (fun ((b1, z1, mh1, ml1) : (Nat → Nat) × (Nat → Nat) × Int64 × Int64) => [(o, .inr (3, [.int (nI 0), .int (nI 4), .int (zI og), .ref qx, .ref qk, .ref qw, .ref qb, .ref qn, .long mh1, .long ml1, .long nc, .int rs, .int (nI na), .ref qd, .int (nI nz), .ref qg, .long ((tgN sb w nc rs bd na (syN og sb w nc rs gv) nz).1), .long ((tgN sb w nc rs bd na (syN og sb w nc rs gv) nz).2)])), (qx, .inl (kx, 256, .inl (nF sb))), (qw, .inl (kw, 44, .inl w)), (qb, .inl (kb, 16, .inl (nF b1))), (qn, .inl (kn, 16, .inl (nF z1))), (qd, .inl (kd, 48, .inl (nF bd))), (qg, .inl (kg, 96, .inl (nF gv)))]) (fun ((b1, z1, mh1, ml1) : (Nat → Nat) × (Nat → Nat) × Int64 × Int64) => []) (fun _ => True) (fun ((b1, z1, mh1, ml1) : (Nat → Nat) × (Nat → Nat) × Int64 × Int64) => (some (.int (zI true)))) := by
  refine mx_ofW (cc := cX3_open) (maxL := 6) (ret := (some .boolean)) (by decide) rfl (Nat.le_of_ble_eq_true rfl) ?_
  intro p e s m args below meth c Q A H locs ls hx hb hr hlk hml hta hown hin hE hQ hAe hA hK hP hD hS hl
  have hown : s.vm.findClass RX3 = some m.cls := hown
  have hl : lv_has ls 6 [(0, .ref o), (1, .long hi), (3, .long lo)] := hl
  refine lv_aload_n hx hb dX3_open_0 rfl (lv_at hl 0 rfl) ?_
  refine lv_aload_n hx hb dX3_open_1 rfl (lv_at hl 0 rfl) ?_
  refine cf_1 (wr := [(qx, .inl (kx, 256, .inl (nF sb))), (qw, .inl (kw, 44, .inl w)), (qb, .inl (kb, 16, .inl (nF b))), (qn, .inl (kn, 16, .inl (nF z))), (qd, .inl (kd, 48, .inl (nF bd))), (qg, .inl (kg, 96, .inl (nF gv)))]) (va_runV (As := []) (rest := [.ref o]) ⟨hx, hb, hml, hown, hta⟩ (MO.to (m_isUnderWay l dC dI o th ph og qx qk qw qb qn mh ml nc rs na qd nz qg t1 t2 hph6) H.size) (cwV 0 hta (aw_V mw_597 mw_594 mw_596 mw_s31 mw_5) rfl rfl rfl ⟨rfl, dyX3_isUnderWay⟩ ⟨(Nat.le_of_ble_eq_true rfl), (Nat.le_of_ble_eq_true rfl)⟩) (pr_V hP hD hK hE [0] [] (by decide) rfl rfl rfl rfl) rfl rfl hl.1 rfl (lv_room (Nat.le_of_ble_eq_true rfl)) dX3_open_2 ⟨(Nat.le_of_ble_eq_true rfl), (Nat.le_of_ble_eq_true rfl)⟩) hP hD hS hA [0] [1, 2, 3, 4, 5, 6] rfl rfl (by decide) (by decide) (fun H locs hP hD hS => ?_)
  have hP : va_P (dC, dI) vwCl [(qx, .inl (kx, 256, .inl (nF sb))), (qw, .inl (kw, 44, .inl w)), (qb, .inl (kb, 16, .inl (nF b))), (qn, .inl (kn, 16, .inl (nF z))), (qd, .inl (kd, 48, .inl (nF bd))), (qg, .inl (kg, 96, .inl (nF gv))), (o, .inr (3, [.int th, .int (nI ph), .int (zI og), .ref qx, .ref qk, .ref qw, .ref qb, .ref qn, .long mh, .long ml, .long nc, .int rs, .int (nI na), .ref qd, .int (nI nz), .ref qg, .long t1, .long t2]))] H := hP
  have hD : va_D A [(qx, .inl (kx, 256, .inl (nF sb))), (qw, .inl (kw, 44, .inl w)), (qb, .inl (kb, 16, .inl (nF b))), (qn, .inl (kn, 16, .inl (nF z))), (qd, .inl (kd, 48, .inl (nF bd))), (qg, .inl (kg, 96, .inl (nF gv))), (o, .inr (3, [.int th, .int (nI ph), .int (zI og), .ref qx, .ref qk, .ref qw, .ref qb, .ref qn, .long mh, .long ml, .long nc, .int rs, .int (nI na), .ref qd, .int (nI nz), .ref qg, .long t1, .long t2]))] := hD
  refine W.widen (k := 0) (n := 0) (Nat.le_of_ble_eq_true rfl) (Nat.le_of_ble_eq_true rfl) ?_
  refine w_pc (pc2 := 5) rfl ?_
  refine lv_if_eq (tgt := 15) hx hb dX3_open_5 (by decide) (fun hc_5 => ?_) (fun hc_5 => ?_)
  · skip
    exact absurd (zI0 (b := uwN ph) hc_5) (by rw [huw]; decide)
  · skip
    refine lv_aload_n hx hb dX3_open_8 rfl (lv_at hl 0 rfl) ?_
    refine va_get (D := (dC, dI)) (ci := 3) (v := .int (zI og)) (C := RX3) (T := TX3) (N := 18) hx hb hta inX3 hown hK hP 6 rfl rfl 2 (by decide) (hta _ mw_459) (fun _ h9 => h9) rfl dX3_open_9 ?_
    refine lv_if_ne (tgt := 19) hx hb dX3_open_12 (by decide) (fun hc_12 => ?_) (fun hc_12 => ?_)
    · skip
      refine lv_iconst (v := nI 0) hx hb dX3_open_19 (by decide) ?_
      refine lv_iconst (v := nI 0) hx hb dX3_open_20 (by decide) ?_
      refine lv_iconst (v := nI 0) hx hb dX3_open_21 (by decide) ?_
      refine cf_1 (wr := [(qx, .inl (kx, 256, .inl (nF sb))), (qw, .inl (kw, 44, .inl w)), (qb, .inl (kb, 16, .inl (nF b))), (qn, .inl (kn, 16, .inl (nF z))), (qd, .inl (kd, 48, .inl (nF bd))), (qg, .inl (kg, 96, .inl (nF gv)))]) (va_runV (As := [.int (nI 0), .int (nI 0), .int (nI 0)]) (rest := []) ⟨hx, hb, hml, hown, hta⟩ (MO.to (m_refuses l dC dI o th ph og qx qk qw qb qn mh ml nc rs na qd nz qg t1 t2 false false false) H.size) (cwV 3 hta (aw_V mw_527 mw_524 mw_526 mw_s21 mw_5) rfl rfl rfl ⟨rfl, dyX3_refuses⟩ ⟨(Nat.le_of_ble_eq_true rfl), (Nat.le_of_ble_eq_true rfl)⟩) (pr_V hP hD hK hE [6] [] (by decide) rfl rfl rfl rfl) rfl rfl hl.1 rfl (lv_room (Nat.le_of_ble_eq_true rfl)) dX3_open_22 ⟨(Nat.le_of_ble_eq_true rfl), (Nat.le_of_ble_eq_true rfl)⟩) hP hD hS hA [6] [0, 1, 2, 3, 4, 5] rfl rfl (by decide) (by decide) (fun H locs hP hD hS => ?_)
      have hP : va_P (dC, dI) vwCl [(qx, .inl (kx, 256, .inl (nF sb))), (qw, .inl (kw, 44, .inl w)), (qb, .inl (kb, 16, .inl (nF b))), (qn, .inl (kn, 16, .inl (nF z))), (qd, .inl (kd, 48, .inl (nF bd))), (qg, .inl (kg, 96, .inl (nF gv))), (o, .inr (3, [.int (rfN false false false), .int (nI ph), .int (zI og), .ref qx, .ref qk, .ref qw, .ref qb, .ref qn, .long mh, .long ml, .long nc, .int rs, .int (nI na), .ref qd, .int (nI nz), .ref qg, .long t1, .long t2]))] H := hP
      have hD : va_D A [(qx, .inl (kx, 256, .inl (nF sb))), (qw, .inl (kw, 44, .inl w)), (qb, .inl (kb, 16, .inl (nF b))), (qn, .inl (kn, 16, .inl (nF z))), (qd, .inl (kd, 48, .inl (nF bd))), (qg, .inl (kg, 96, .inl (nF gv))), (o, .inr (3, [.int (rfN false false false), .int (nI ph), .int (zI og), .ref qx, .ref qk, .ref qw, .ref qb, .ref qn, .long mh, .long ml, .long nc, .int rs, .int (nI na), .ref qd, .int (nI nz), .ref qg, .long t1, .long t2]))] := hD
      refine W.widen (k := 0) (n := 0) (Nat.le_of_ble_eq_true rfl) (Nat.le_of_ble_eq_true rfl) ?_
      have e9 : rfN false false false = nI 0 := rfl
      have hP : va_P (dC, dI) vwCl [(qx, .inl (kx, 256, .inl (nF sb))), (qw, .inl (kw, 44, .inl w)), (qb, .inl (kb, 16, .inl (nF b))), (qn, .inl (kn, 16, .inl (nF z))), (qd, .inl (kd, 48, .inl (nF bd))), (qg, .inl (kg, 96, .inl (nF gv))), (o, .inr (3, [.int (nI 0), .int (nI ph), .int (zI og), .ref qx, .ref qk, .ref qw, .ref qb, .ref qn, .long mh, .long ml, .long nc, .int rs, .int (nI na), .ref qd, .int (nI nz), .ref qg, .long t1, .long t2]))] H := by rw [← e9]; exact hP
      have hD : va_D A [(qx, .inl (kx, 256, .inl (nF sb))), (qw, .inl (kw, 44, .inl w)), (qb, .inl (kb, 16, .inl (nF b))), (qn, .inl (kn, 16, .inl (nF z))), (qd, .inl (kd, 48, .inl (nF bd))), (qg, .inl (kg, 96, .inl (nF gv))), (o, .inr (3, [.int (nI 0), .int (nI ph), .int (zI og), .ref qx, .ref qk, .ref qw, .ref qb, .ref qn, .long mh, .long ml, .long nc, .int rs, .int (nI na), .ref qd, .int (nI nz), .ref qg, .long t1, .long t2]))] := by rw [← e9]; exact hD
      refine w_pc (pc2 := 25) rfl ?_
      refine lv_if_eq (tgt := 30) hx hb dX3_open_25 (by decide) (fun hc_25 => ?_) (fun hc_25 => ?_)
      · skip
        refine lv_aload_n hx hb dX3_open_30 rfl (lv_at hl 0 rfl) ?_
        refine cx_0 (wr := []) (va_runV (As := []) (rest := []) ⟨hx, hb, hml, hown, hta⟩ (MX.to (m_makeTag l dC dI o (nI 0) ph og qx qk qw qb qn mh ml nc rs na qd nz qg t1 t2 kx kw kb kn kd kg sb w b z bd gv s256 d256 g256 hna hnz) H.size) (cwV 0 hta (aw_V mw_601 mw_598 mw_600 mw_s32 mw_5) rfl rfl rfl ⟨rfl, dyX3_makeTag⟩ ⟨(Nat.le_of_ble_eq_true rfl), (Nat.le_of_ble_eq_true rfl)⟩) (pr_V hP hD hK hE [6, 0, 1, 2, 3, 4, 5] [0, 1, 2, 3, 4, 5] (by decide) rfl rfl rfl rfl) rfl rfl hl.1 rfl (lv_room (Nat.le_of_ble_eq_true rfl)) dX3_open_31 ⟨(Nat.le_of_ble_eq_true rfl), (Nat.le_of_ble_eq_true rfl)⟩) hK hP hD hS hA [6, 0, 1, 2, 3, 4, 5] [] rfl rfl (by decide) (by decide) (fun u9 H locs hphi_31 hK hP hD hS => ?_)
        obtain ⟨b1_1, z1_1, mh1_1, ml1_1⟩ := u9
        have hK : va_K (dC, dI) vwCl [(kx, .int), (kw, .int), (kb, .int), (kn, .int), (kd, .int), (kg, .int)] s := hK
        have hP : va_P (dC, dI) vwCl [(o, .inr (3, [.int (nI 0), .int (nI ph), .int (zI og), .ref qx, .ref qk, .ref qw, .ref qb, .ref qn, .long mh1_1, .long ml1_1, .long nc, .int rs, .int (nI na), .ref qd, .int (nI nz), .ref qg, .long ((tgN sb w nc rs bd na (syN og sb w nc rs gv) nz).1), .long ((tgN sb w nc rs bd na (syN og sb w nc rs gv) nz).2)])), (qx, .inl (kx, 256, .inl (nF sb))), (qw, .inl (kw, 44, .inl w)), (qb, .inl (kb, 16, .inl (nF b1_1))), (qn, .inl (kn, 16, .inl (nF z1_1))), (qd, .inl (kd, 48, .inl (nF bd))), (qg, .inl (kg, 96, .inl (nF gv)))] H := hP
        have hD : va_D A [(o, .inr (3, [.int (nI 0), .int (nI ph), .int (zI og), .ref qx, .ref qk, .ref qw, .ref qb, .ref qn, .long mh1_1, .long ml1_1, .long nc, .int rs, .int (nI na), .ref qd, .int (nI nz), .ref qg, .long ((tgN sb w nc rs bd na (syN og sb w nc rs gv) nz).1), .long ((tgN sb w nc rs bd na (syN og sb w nc rs gv) nz).2)])), (qx, .inl (kx, 256, .inl (nF sb))), (qw, .inl (kw, 44, .inl w)), (qb, .inl (kb, 16, .inl (nF b1_1))), (qn, .inl (kn, 16, .inl (nF z1_1))), (qd, .inl (kd, 48, .inl (nF bd))), (qg, .inl (kg, 96, .inl (nF gv)))] := hD
        refine W.widen (k := 0) (n := 0) (Nat.le_of_ble_eq_true rfl) (Nat.le_of_ble_eq_true rfl) ?_
        refine w_pc (pc2 := 34) rfl ?_
        refine lv_lload_n hx hb dX3_open_34 rfl (lv_at hl 1 rfl) ?_
        refine lv_aload_n hx hb dX3_open_35 rfl (lv_at hl 0 rfl) ?_
        refine va_get (D := (dC, dI)) (ci := 3) (v := .long ((tgN sb w nc rs bd na (syN og sb w nc rs gv) nz).1)) (C := RX3) (T := TX3) (N := 18) hx hb hta inX3 hown hK hP 0 rfl rfl 16 (by decide) (hta _ mw_473) (fun _ h9 => h9) rfl dX3_open_36 ?_
        refine W.lcmp hx hb dX3_open_39 ?_
        refine lv_if_ne (tgt := 56) hx hb dX3_open_40 (by decide) (fun hc_40 => ?_) (fun hc_40 => ?_)
        · skip
          exact absurd heq (by rw [eq_n1 (fun z9 => hc_40 (cmpx.mpr z9))]; decide)
        · skip
          refine lv_lload_n hx hb dX3_open_43 rfl (lv_at hl 2 rfl) ?_
          refine lv_aload_n hx hb dX3_open_44 rfl (lv_at hl 0 rfl) ?_
          refine va_get (D := (dC, dI)) (ci := 3) (v := .long ((tgN sb w nc rs bd na (syN og sb w nc rs gv) nz).2)) (C := RX3) (T := TX3) (N := 18) hx hb hta inX3 hown hK hP 0 rfl rfl 17 (by decide) (hta _ mw_474) (fun _ h9 => h9) rfl dX3_open_45 ?_
          refine W.lcmp hx hb dX3_open_48 ?_
          refine lv_if_ne (tgt := 56) hx hb dX3_open_49 (by decide) (fun hc_49 => ?_) (fun hc_49 => ?_)
          · skip
            exact absurd heq (by rw [eq_n2 (fun z9 => hc_49 (cmpx.mpr z9))]; decide)
          · skip
            refine lv_iconst (v := nI 1) hx hb dX3_open_52 (by decide) ?_
            refine lv_goto (tgt := 57) hx hb dX3_open_53 (by decide) ?_
            refine lv_istore hx hb dX3_open_57 hl (by decide) rfl (fun ls hl => ?_)
            have hl : lv_has ls 6 [(5, .int (nI 1)), (0, .ref o), (1, .long hi), (3, .long lo)] := hl
            refine lv_aload_n hx hb dX3_open_59 rfl (lv_at hl 1 rfl) ?_
            refine lv_iload hx hb dX3_open_60 (lv_at hl 0 rfl) ?_
            refine lv_if_eq (tgt := 69) hx hb dX3_open_62 (by decide) (fun hc_62 => ?_) (fun hc_62 => ?_)
            · skip
              have hc_62 := (ix_eq (a := 1) (b := 0) (by omega) (by omega)).mp hc_62
              have hc_62 : (1 = 0) := hc_62
              exfalso; omega
            · skip
              have hc_62 := (not_congr (ix_eq (a := 1) (b := 0) (by omega) (by omega))).mp hc_62
              have hc_62 : ¬ (1 = 0) := hc_62
              refine lv_iconst (v := nI 4) hx hb dX3_open_65 (by decide) ?_
              refine lv_goto (tgt := 70) hx hb dX3_open_66 (by decide) ?_
              refine va_put (D := (dC, dI)) (ci := 3) (v := .int (nI 4)) (ty := .int) (C := RX3) (T := TX3) (N := 18) hx hb hta inX3 tyX3 tyX3_ok nmX3 hown hK hP hD hS 0 rfl rfl 1 (by decide) (hta _ mw_458) (fun _ h9 => h9) rfl (by decide +kernel) rfl rfl (Nat.le_of_ble_eq_true rfl) dX3_open_70 (fun H locs hP hD hS => ?_)
              have hP : va_P (dC, dI) vwCl [(o, .inr (3, [.int (nI 0), .int (nI 4), .int (zI og), .ref qx, .ref qk, .ref qw, .ref qb, .ref qn, .long mh1_1, .long ml1_1, .long nc, .int rs, .int (nI na), .ref qd, .int (nI nz), .ref qg, .long ((tgN sb w nc rs bd na (syN og sb w nc rs gv) nz).1), .long ((tgN sb w nc rs bd na (syN og sb w nc rs gv) nz).2)])), (qx, .inl (kx, 256, .inl (nF sb))), (qw, .inl (kw, 44, .inl w)), (qb, .inl (kb, 16, .inl (nF b1_1))), (qn, .inl (kn, 16, .inl (nF z1_1))), (qd, .inl (kd, 48, .inl (nF bd))), (qg, .inl (kg, 96, .inl (nF gv)))] H := hP
              have hD : va_D A [(o, .inr (3, [.int (nI 0), .int (nI 4), .int (zI og), .ref qx, .ref qk, .ref qw, .ref qb, .ref qn, .long mh1_1, .long ml1_1, .long nc, .int rs, .int (nI na), .ref qd, .int (nI nz), .ref qg, .long ((tgN sb w nc rs bd na (syN og sb w nc rs gv) nz).1), .long ((tgN sb w nc rs bd na (syN og sb w nc rs gv) nz).2)])), (qx, .inl (kx, 256, .inl (nF sb))), (qw, .inl (kw, 44, .inl w)), (qb, .inl (kb, 16, .inl (nF b1_1))), (qn, .inl (kn, 16, .inl (nF z1_1))), (qd, .inl (kd, 48, .inl (nF bd))), (qg, .inl (kg, 96, .inl (nF gv)))] := hD
              refine lv_iload hx hb dX3_open_73 (lv_at hl 0 rfl) ?_
              exact rx_z (b1_1, z1_1, mh1_1, ml1_1) trivial hx hb hr hlk hQ hAe hK hP hD hS [0, 1, 2, 3, 4, 5, 6] [] (by decide) rfl rfl (Nat.le_of_ble_eq_true rfl) (Nat.le_of_ble_eq_true rfl) (rfl) (zI_n true) dX3_open_75
      · skip
        exact absurd (by decide) hc_25
    · skip
      exact absurd (zI0 (b := og) hc_12) (by rw [hog]; decide)

def rm_m_open_n : Room := { frames := 8, cells := 0, slots := 0, locals := 193 }
set_option maxHeartbeats 4000000 in
set_option maxRecDepth 100000 in
/-- open -/
theorem m_open_n (l : Launch) (dC : Nat → ClassId) (dI : Nat → Nat → Nat) (o : Nat) (th : Int32) (ph : Nat) (og : Bool) (qx : Nat) (qk : Nat) (qw : Nat) (qb : Nat) (qn : Nat) (mh : Int64) (ml : Int64) (nc : Int64) (rs : Int32) (na : Nat) (qd : Nat) (nz : Nat) (qg : Nat) (t1 : Int64) (t2 : Int64) (kx : ClassId) (kw : ClassId) (kb : ClassId) (kn : ClassId) (kd : ClassId) (kg : ClassId) (sb : Nat → Nat) (w : Nat → Int32) (b : Nat → Nat) (z : Nat → Nat) (bd : Nat → Nat) (gv : Nat → Nat) (hi : Int64) (lo : Int64) (s256 : ∀ i, sb i < 256) (d256 : ∀ i, bd i < 256) (g256 : ∀ i, gv i < 256) (hna : na ≤ 48) (hnz : nz ≤ 96) (hph6 : ph < 6) (huw : uwN ph = true) (hog : og = true) (heq : eqB hi (tgN sb w nc rs bd na (syN og sb w nc rs gv) nz).1 lo (tgN sb w nc rs bd na (syN og sb w nc rs gv) nz).2 = false) : MX l dC dI yX3_open wsX3_open rm_m_open_n [.ref o, .long hi, .long lo] [(o, .inr (3, [.int th, .int (nI ph), .int (zI og), .ref qx, .ref qk, .ref qw, .ref qb, .ref qn, .long mh, .long ml, .long nc, .int rs, .int (nI na), .ref qd, .int (nI nz), .ref qg, .long t1, .long t2])), (qx, .inl (kx, 256, .inl (nF sb))), (qw, .inl (kw, 44, .inl w)), (qb, .inl (kb, 16, .inl (nF b))), (qn, .inl (kn, 16, .inl (nF z))), (qd, .inl (kd, 48, .inl (nF bd))), (qg, .inl (kg, 96, .inl (nF gv)))] [(kx, .int), (kw, .int), (kb, .int), (kn, .int), (kd, .int), (kg, .int)] (fun ((b1, z1, mh1, ml1) : (Nat → Nat) × (Nat → Nat) × Int64 × Int64) => [(o, .inr (3, [.int (nI 0), .int (nI 5), .int (zI og), .ref qx, .ref qk, .ref qw, .ref qb, .ref qn, .long mh1, .long ml1, .long nc, .int rs, .int (nI na), .ref qd, .int (nI nz), .ref qg, .long ((tgN sb w nc rs bd na (syN og sb w nc rs gv) nz).1), .long ((tgN sb w nc rs bd na (syN og sb w nc rs gv) nz).2)])), (qx, .inl (kx, 256, .inl (nF sb))), (qw, .inl (kw, 44, .inl w)), (qb, .inl (kb, 16, .inl (nF b1))), (qn, .inl (kn, 16, .inl (nF z1))), (qd, .inl (kd, 48, .inl (nF bd))), (qg, .inl (kg, 96, .inl (nF gv)))]) (fun ((b1, z1, mh1, ml1) : (Nat → Nat) × (Nat → Nat) × Int64 × Int64) => []) (fun _ => True) (fun ((b1, z1, mh1, ml1) : (Nat → Nat) × (Nat → Nat) × Int64 × Int64) => (some (.int (zI false)))) := by
  refine mx_ofW (cc := cX3_open) (maxL := 6) (ret := (some .boolean)) (by decide) rfl (Nat.le_of_ble_eq_true rfl) ?_
  intro p e s m args below meth c Q A H locs ls hx hb hr hlk hml hta hown hin hE hQ hAe hA hK hP hD hS hl
  have hown : s.vm.findClass RX3 = some m.cls := hown
  have hl : lv_has ls 6 [(0, .ref o), (1, .long hi), (3, .long lo)] := hl
  refine lv_aload_n hx hb dX3_open_0 rfl (lv_at hl 0 rfl) ?_
  refine lv_aload_n hx hb dX3_open_1 rfl (lv_at hl 0 rfl) ?_
  refine cf_1 (wr := [(qx, .inl (kx, 256, .inl (nF sb))), (qw, .inl (kw, 44, .inl w)), (qb, .inl (kb, 16, .inl (nF b))), (qn, .inl (kn, 16, .inl (nF z))), (qd, .inl (kd, 48, .inl (nF bd))), (qg, .inl (kg, 96, .inl (nF gv)))]) (va_runV (As := []) (rest := [.ref o]) ⟨hx, hb, hml, hown, hta⟩ (MO.to (m_isUnderWay l dC dI o th ph og qx qk qw qb qn mh ml nc rs na qd nz qg t1 t2 hph6) H.size) (cwV 0 hta (aw_V mw_597 mw_594 mw_596 mw_s31 mw_5) rfl rfl rfl ⟨rfl, dyX3_isUnderWay⟩ ⟨(Nat.le_of_ble_eq_true rfl), (Nat.le_of_ble_eq_true rfl)⟩) (pr_V hP hD hK hE [0] [] (by decide) rfl rfl rfl rfl) rfl rfl hl.1 rfl (lv_room (Nat.le_of_ble_eq_true rfl)) dX3_open_2 ⟨(Nat.le_of_ble_eq_true rfl), (Nat.le_of_ble_eq_true rfl)⟩) hP hD hS hA [0] [1, 2, 3, 4, 5, 6] rfl rfl (by decide) (by decide) (fun H locs hP hD hS => ?_)
  have hP : va_P (dC, dI) vwCl [(qx, .inl (kx, 256, .inl (nF sb))), (qw, .inl (kw, 44, .inl w)), (qb, .inl (kb, 16, .inl (nF b))), (qn, .inl (kn, 16, .inl (nF z))), (qd, .inl (kd, 48, .inl (nF bd))), (qg, .inl (kg, 96, .inl (nF gv))), (o, .inr (3, [.int th, .int (nI ph), .int (zI og), .ref qx, .ref qk, .ref qw, .ref qb, .ref qn, .long mh, .long ml, .long nc, .int rs, .int (nI na), .ref qd, .int (nI nz), .ref qg, .long t1, .long t2]))] H := hP
  have hD : va_D A [(qx, .inl (kx, 256, .inl (nF sb))), (qw, .inl (kw, 44, .inl w)), (qb, .inl (kb, 16, .inl (nF b))), (qn, .inl (kn, 16, .inl (nF z))), (qd, .inl (kd, 48, .inl (nF bd))), (qg, .inl (kg, 96, .inl (nF gv))), (o, .inr (3, [.int th, .int (nI ph), .int (zI og), .ref qx, .ref qk, .ref qw, .ref qb, .ref qn, .long mh, .long ml, .long nc, .int rs, .int (nI na), .ref qd, .int (nI nz), .ref qg, .long t1, .long t2]))] := hD
  refine W.widen (k := 0) (n := 0) (Nat.le_of_ble_eq_true rfl) (Nat.le_of_ble_eq_true rfl) ?_
  refine w_pc (pc2 := 5) rfl ?_
  refine lv_if_eq (tgt := 15) hx hb dX3_open_5 (by decide) (fun hc_5 => ?_) (fun hc_5 => ?_)
  · skip
    exact absurd (zI0 (b := uwN ph) hc_5) (by rw [huw]; decide)
  · skip
    refine lv_aload_n hx hb dX3_open_8 rfl (lv_at hl 0 rfl) ?_
    refine va_get (D := (dC, dI)) (ci := 3) (v := .int (zI og)) (C := RX3) (T := TX3) (N := 18) hx hb hta inX3 hown hK hP 6 rfl rfl 2 (by decide) (hta _ mw_459) (fun _ h9 => h9) rfl dX3_open_9 ?_
    refine lv_if_ne (tgt := 19) hx hb dX3_open_12 (by decide) (fun hc_12 => ?_) (fun hc_12 => ?_)
    · skip
      refine lv_iconst (v := nI 0) hx hb dX3_open_19 (by decide) ?_
      refine lv_iconst (v := nI 0) hx hb dX3_open_20 (by decide) ?_
      refine lv_iconst (v := nI 0) hx hb dX3_open_21 (by decide) ?_
      refine cf_1 (wr := [(qx, .inl (kx, 256, .inl (nF sb))), (qw, .inl (kw, 44, .inl w)), (qb, .inl (kb, 16, .inl (nF b))), (qn, .inl (kn, 16, .inl (nF z))), (qd, .inl (kd, 48, .inl (nF bd))), (qg, .inl (kg, 96, .inl (nF gv)))]) (va_runV (As := [.int (nI 0), .int (nI 0), .int (nI 0)]) (rest := []) ⟨hx, hb, hml, hown, hta⟩ (MO.to (m_refuses l dC dI o th ph og qx qk qw qb qn mh ml nc rs na qd nz qg t1 t2 false false false) H.size) (cwV 3 hta (aw_V mw_527 mw_524 mw_526 mw_s21 mw_5) rfl rfl rfl ⟨rfl, dyX3_refuses⟩ ⟨(Nat.le_of_ble_eq_true rfl), (Nat.le_of_ble_eq_true rfl)⟩) (pr_V hP hD hK hE [6] [] (by decide) rfl rfl rfl rfl) rfl rfl hl.1 rfl (lv_room (Nat.le_of_ble_eq_true rfl)) dX3_open_22 ⟨(Nat.le_of_ble_eq_true rfl), (Nat.le_of_ble_eq_true rfl)⟩) hP hD hS hA [6] [0, 1, 2, 3, 4, 5] rfl rfl (by decide) (by decide) (fun H locs hP hD hS => ?_)
      have hP : va_P (dC, dI) vwCl [(qx, .inl (kx, 256, .inl (nF sb))), (qw, .inl (kw, 44, .inl w)), (qb, .inl (kb, 16, .inl (nF b))), (qn, .inl (kn, 16, .inl (nF z))), (qd, .inl (kd, 48, .inl (nF bd))), (qg, .inl (kg, 96, .inl (nF gv))), (o, .inr (3, [.int (rfN false false false), .int (nI ph), .int (zI og), .ref qx, .ref qk, .ref qw, .ref qb, .ref qn, .long mh, .long ml, .long nc, .int rs, .int (nI na), .ref qd, .int (nI nz), .ref qg, .long t1, .long t2]))] H := hP
      have hD : va_D A [(qx, .inl (kx, 256, .inl (nF sb))), (qw, .inl (kw, 44, .inl w)), (qb, .inl (kb, 16, .inl (nF b))), (qn, .inl (kn, 16, .inl (nF z))), (qd, .inl (kd, 48, .inl (nF bd))), (qg, .inl (kg, 96, .inl (nF gv))), (o, .inr (3, [.int (rfN false false false), .int (nI ph), .int (zI og), .ref qx, .ref qk, .ref qw, .ref qb, .ref qn, .long mh, .long ml, .long nc, .int rs, .int (nI na), .ref qd, .int (nI nz), .ref qg, .long t1, .long t2]))] := hD
      refine W.widen (k := 0) (n := 0) (Nat.le_of_ble_eq_true rfl) (Nat.le_of_ble_eq_true rfl) ?_
      have e9 : rfN false false false = nI 0 := rfl
      have hP : va_P (dC, dI) vwCl [(qx, .inl (kx, 256, .inl (nF sb))), (qw, .inl (kw, 44, .inl w)), (qb, .inl (kb, 16, .inl (nF b))), (qn, .inl (kn, 16, .inl (nF z))), (qd, .inl (kd, 48, .inl (nF bd))), (qg, .inl (kg, 96, .inl (nF gv))), (o, .inr (3, [.int (nI 0), .int (nI ph), .int (zI og), .ref qx, .ref qk, .ref qw, .ref qb, .ref qn, .long mh, .long ml, .long nc, .int rs, .int (nI na), .ref qd, .int (nI nz), .ref qg, .long t1, .long t2]))] H := by rw [← e9]; exact hP
      have hD : va_D A [(qx, .inl (kx, 256, .inl (nF sb))), (qw, .inl (kw, 44, .inl w)), (qb, .inl (kb, 16, .inl (nF b))), (qn, .inl (kn, 16, .inl (nF z))), (qd, .inl (kd, 48, .inl (nF bd))), (qg, .inl (kg, 96, .inl (nF gv))), (o, .inr (3, [.int (nI 0), .int (nI ph), .int (zI og), .ref qx, .ref qk, .ref qw, .ref qb, .ref qn, .long mh, .long ml, .long nc, .int rs, .int (nI na), .ref qd, .int (nI nz), .ref qg, .long t1, .long t2]))] := by rw [← e9]; exact hD
      refine w_pc (pc2 := 25) rfl ?_
      refine lv_if_eq (tgt := 30) hx hb dX3_open_25 (by decide) (fun hc_25 => ?_) (fun hc_25 => ?_)
      · skip
        refine lv_aload_n hx hb dX3_open_30 rfl (lv_at hl 0 rfl) ?_
        refine cx_0 (wr := []) (va_runV (As := []) (rest := []) ⟨hx, hb, hml, hown, hta⟩ (MX.to (m_makeTag l dC dI o (nI 0) ph og qx qk qw qb qn mh ml nc rs na qd nz qg t1 t2 kx kw kb kn kd kg sb w b z bd gv s256 d256 g256 hna hnz) H.size) (cwV 0 hta (aw_V mw_601 mw_598 mw_600 mw_s32 mw_5) rfl rfl rfl ⟨rfl, dyX3_makeTag⟩ ⟨(Nat.le_of_ble_eq_true rfl), (Nat.le_of_ble_eq_true rfl)⟩) (pr_V hP hD hK hE [6, 0, 1, 2, 3, 4, 5] [0, 1, 2, 3, 4, 5] (by decide) rfl rfl rfl rfl) rfl rfl hl.1 rfl (lv_room (Nat.le_of_ble_eq_true rfl)) dX3_open_31 ⟨(Nat.le_of_ble_eq_true rfl), (Nat.le_of_ble_eq_true rfl)⟩) hK hP hD hS hA [6, 0, 1, 2, 3, 4, 5] [] rfl rfl (by decide) (by decide) (fun u9 H locs hphi_31 hK hP hD hS => ?_)
        obtain ⟨b1_1, z1_1, mh1_1, ml1_1⟩ := u9
        have hK : va_K (dC, dI) vwCl [(kx, .int), (kw, .int), (kb, .int), (kn, .int), (kd, .int), (kg, .int)] s := hK
        have hP : va_P (dC, dI) vwCl [(o, .inr (3, [.int (nI 0), .int (nI ph), .int (zI og), .ref qx, .ref qk, .ref qw, .ref qb, .ref qn, .long mh1_1, .long ml1_1, .long nc, .int rs, .int (nI na), .ref qd, .int (nI nz), .ref qg, .long ((tgN sb w nc rs bd na (syN og sb w nc rs gv) nz).1), .long ((tgN sb w nc rs bd na (syN og sb w nc rs gv) nz).2)])), (qx, .inl (kx, 256, .inl (nF sb))), (qw, .inl (kw, 44, .inl w)), (qb, .inl (kb, 16, .inl (nF b1_1))), (qn, .inl (kn, 16, .inl (nF z1_1))), (qd, .inl (kd, 48, .inl (nF bd))), (qg, .inl (kg, 96, .inl (nF gv)))] H := hP
        have hD : va_D A [(o, .inr (3, [.int (nI 0), .int (nI ph), .int (zI og), .ref qx, .ref qk, .ref qw, .ref qb, .ref qn, .long mh1_1, .long ml1_1, .long nc, .int rs, .int (nI na), .ref qd, .int (nI nz), .ref qg, .long ((tgN sb w nc rs bd na (syN og sb w nc rs gv) nz).1), .long ((tgN sb w nc rs bd na (syN og sb w nc rs gv) nz).2)])), (qx, .inl (kx, 256, .inl (nF sb))), (qw, .inl (kw, 44, .inl w)), (qb, .inl (kb, 16, .inl (nF b1_1))), (qn, .inl (kn, 16, .inl (nF z1_1))), (qd, .inl (kd, 48, .inl (nF bd))), (qg, .inl (kg, 96, .inl (nF gv)))] := hD
        refine W.widen (k := 0) (n := 0) (Nat.le_of_ble_eq_true rfl) (Nat.le_of_ble_eq_true rfl) ?_
        refine w_pc (pc2 := 34) rfl ?_
        refine lv_lload_n hx hb dX3_open_34 rfl (lv_at hl 1 rfl) ?_
        refine lv_aload_n hx hb dX3_open_35 rfl (lv_at hl 0 rfl) ?_
        refine va_get (D := (dC, dI)) (ci := 3) (v := .long ((tgN sb w nc rs bd na (syN og sb w nc rs gv) nz).1)) (C := RX3) (T := TX3) (N := 18) hx hb hta inX3 hown hK hP 0 rfl rfl 16 (by decide) (hta _ mw_473) (fun _ h9 => h9) rfl dX3_open_36 ?_
        refine W.lcmp hx hb dX3_open_39 ?_
        refine lv_if_ne (tgt := 56) hx hb dX3_open_40 (by decide) (fun hc_40 => ?_) (fun hc_40 => ?_)
        · skip
          refine lv_iconst (v := nI 0) hx hb dX3_open_56 (by decide) ?_
          refine lv_istore hx hb dX3_open_57 hl (by decide) rfl (fun ls hl => ?_)
          have hl : lv_has ls 6 [(5, .int (nI 0)), (0, .ref o), (1, .long hi), (3, .long lo)] := hl
          refine lv_aload_n hx hb dX3_open_59 rfl (lv_at hl 1 rfl) ?_
          refine lv_iload hx hb dX3_open_60 (lv_at hl 0 rfl) ?_
          refine lv_if_eq (tgt := 69) hx hb dX3_open_62 (by decide) (fun hc_62 => ?_) (fun hc_62 => ?_)
          · skip
            have hc_62 := (ix_eq (a := 0) (b := 0) (by omega) (by omega)).mp hc_62
            have hc_62 : (0 = 0) := hc_62
            refine lv_iconst (v := nI 5) hx hb dX3_open_69 (by decide) ?_
            refine va_put (D := (dC, dI)) (ci := 3) (v := .int (nI 5)) (ty := .int) (C := RX3) (T := TX3) (N := 18) hx hb hta inX3 tyX3 tyX3_ok nmX3 hown hK hP hD hS 0 rfl rfl 1 (by decide) (hta _ mw_458) (fun _ h9 => h9) rfl (by decide +kernel) rfl rfl (Nat.le_of_ble_eq_true rfl) dX3_open_70 (fun H locs hP hD hS => ?_)
            have hP : va_P (dC, dI) vwCl [(o, .inr (3, [.int (nI 0), .int (nI 5), .int (zI og), .ref qx, .ref qk, .ref qw, .ref qb, .ref qn, .long mh1_1, .long ml1_1, .long nc, .int rs, .int (nI na), .ref qd, .int (nI nz), .ref qg, .long ((tgN sb w nc rs bd na (syN og sb w nc rs gv) nz).1), .long ((tgN sb w nc rs bd na (syN og sb w nc rs gv) nz).2)])), (qx, .inl (kx, 256, .inl (nF sb))), (qw, .inl (kw, 44, .inl w)), (qb, .inl (kb, 16, .inl (nF b1_1))), (qn, .inl (kn, 16, .inl (nF z1_1))), (qd, .inl (kd, 48, .inl (nF bd))), (qg, .inl (kg, 96, .inl (nF gv)))] H := hP
            have hD : va_D A [(o, .inr (3, [.int (nI 0), .int (nI 5), .int (zI og), .ref qx, .ref qk, .ref qw, .ref qb, .ref qn, .long mh1_1, .long ml1_1, .long nc, .int rs, .int (nI na), .ref qd, .int (nI nz), .ref qg, .long ((tgN sb w nc rs bd na (syN og sb w nc rs gv) nz).1), .long ((tgN sb w nc rs bd na (syN og sb w nc rs gv) nz).2)])), (qx, .inl (kx, 256, .inl (nF sb))), (qw, .inl (kw, 44, .inl w)), (qb, .inl (kb, 16, .inl (nF b1_1))), (qn, .inl (kn, 16, .inl (nF z1_1))), (qd, .inl (kd, 48, .inl (nF bd))), (qg, .inl (kg, 96, .inl (nF gv)))] := hD
            refine lv_iload hx hb dX3_open_73 (lv_at hl 0 rfl) ?_
            exact rx_z (b1_1, z1_1, mh1_1, ml1_1) trivial hx hb hr hlk hQ hAe hK hP hD hS [0, 1, 2, 3, 4, 5, 6] [] (by decide) rfl rfl (Nat.le_of_ble_eq_true rfl) (Nat.le_of_ble_eq_true rfl) (rfl) (zI_n false) dX3_open_75
          · skip
            have hc_62 := (not_congr (ix_eq (a := 0) (b := 0) (by omega) (by omega))).mp hc_62
            have hc_62 : ¬ (0 = 0) := hc_62
            exfalso; omega
        · skip
          refine lv_lload_n hx hb dX3_open_43 rfl (lv_at hl 2 rfl) ?_
          refine lv_aload_n hx hb dX3_open_44 rfl (lv_at hl 0 rfl) ?_
          refine va_get (D := (dC, dI)) (ci := 3) (v := .long ((tgN sb w nc rs bd na (syN og sb w nc rs gv) nz).2)) (C := RX3) (T := TX3) (N := 18) hx hb hta inX3 hown hK hP 0 rfl rfl 17 (by decide) (hta _ mw_474) (fun _ h9 => h9) rfl dX3_open_45 ?_
          refine W.lcmp hx hb dX3_open_48 ?_
          refine lv_if_ne (tgt := 56) hx hb dX3_open_49 (by decide) (fun hc_49 => ?_) (fun hc_49 => ?_)
          · skip
            refine lv_iconst (v := nI 0) hx hb dX3_open_56 (by decide) ?_
            refine lv_istore hx hb dX3_open_57 hl (by decide) rfl (fun ls hl => ?_)
            have hl : lv_has ls 6 [(5, .int (nI 0)), (0, .ref o), (1, .long hi), (3, .long lo)] := hl
            refine lv_aload_n hx hb dX3_open_59 rfl (lv_at hl 1 rfl) ?_
            refine lv_iload hx hb dX3_open_60 (lv_at hl 0 rfl) ?_
            refine lv_if_eq (tgt := 69) hx hb dX3_open_62 (by decide) (fun hc_62 => ?_) (fun hc_62 => ?_)
            · skip
              have hc_62 := (ix_eq (a := 0) (b := 0) (by omega) (by omega)).mp hc_62
              have hc_62 : (0 = 0) := hc_62
              refine lv_iconst (v := nI 5) hx hb dX3_open_69 (by decide) ?_
              refine va_put (D := (dC, dI)) (ci := 3) (v := .int (nI 5)) (ty := .int) (C := RX3) (T := TX3) (N := 18) hx hb hta inX3 tyX3 tyX3_ok nmX3 hown hK hP hD hS 0 rfl rfl 1 (by decide) (hta _ mw_458) (fun _ h9 => h9) rfl (by decide +kernel) rfl rfl (Nat.le_of_ble_eq_true rfl) dX3_open_70 (fun H locs hP hD hS => ?_)
              have hP : va_P (dC, dI) vwCl [(o, .inr (3, [.int (nI 0), .int (nI 5), .int (zI og), .ref qx, .ref qk, .ref qw, .ref qb, .ref qn, .long mh1_1, .long ml1_1, .long nc, .int rs, .int (nI na), .ref qd, .int (nI nz), .ref qg, .long ((tgN sb w nc rs bd na (syN og sb w nc rs gv) nz).1), .long ((tgN sb w nc rs bd na (syN og sb w nc rs gv) nz).2)])), (qx, .inl (kx, 256, .inl (nF sb))), (qw, .inl (kw, 44, .inl w)), (qb, .inl (kb, 16, .inl (nF b1_1))), (qn, .inl (kn, 16, .inl (nF z1_1))), (qd, .inl (kd, 48, .inl (nF bd))), (qg, .inl (kg, 96, .inl (nF gv)))] H := hP
              have hD : va_D A [(o, .inr (3, [.int (nI 0), .int (nI 5), .int (zI og), .ref qx, .ref qk, .ref qw, .ref qb, .ref qn, .long mh1_1, .long ml1_1, .long nc, .int rs, .int (nI na), .ref qd, .int (nI nz), .ref qg, .long ((tgN sb w nc rs bd na (syN og sb w nc rs gv) nz).1), .long ((tgN sb w nc rs bd na (syN og sb w nc rs gv) nz).2)])), (qx, .inl (kx, 256, .inl (nF sb))), (qw, .inl (kw, 44, .inl w)), (qb, .inl (kb, 16, .inl (nF b1_1))), (qn, .inl (kn, 16, .inl (nF z1_1))), (qd, .inl (kd, 48, .inl (nF bd))), (qg, .inl (kg, 96, .inl (nF gv)))] := hD
              refine lv_iload hx hb dX3_open_73 (lv_at hl 0 rfl) ?_
              exact rx_z (b1_1, z1_1, mh1_1, ml1_1) trivial hx hb hr hlk hQ hAe hK hP hD hS [0, 1, 2, 3, 4, 5, 6] [] (by decide) rfl rfl (Nat.le_of_ble_eq_true rfl) (Nat.le_of_ble_eq_true rfl) (rfl) (zI_n false) dX3_open_75
            · skip
              have hc_62 := (not_congr (ix_eq (a := 0) (b := 0) (by omega) (by omega))).mp hc_62
              have hc_62 : ¬ (0 = 0) := hc_62
              exfalso; omega
          · skip
            exact absurd heq (by rw [eq_y (cmpx.mp hc_40) (cmpx.mp hc_49)]; decide)
      · skip
        exact absurd (by decide) hc_25
    · skip
      exact absurd (zI0 (b := og) hc_12) (by rw [hog]; decide)

def rm_m_open_x : Room := { frames := 1, cells := 0, slots := 0, locals := 23 }
set_option maxHeartbeats 4000000 in
set_option maxRecDepth 100000 in
/-- open, refused -/
theorem m_open_x (l : Launch) (dC : Nat → ClassId) (dI : Nat → Nat → Nat) (o : Nat) (th : Int32) (ph : Nat) (og : Bool) (qx : Nat) (qk : Nat) (qw : Nat) (qb : Nat) (qn : Nat) (mh : Int64) (ml : Int64) (nc : Int64) (rs : Int32) (na : Nat) (qd : Nat) (nz : Nat) (qg : Nat) (t1 : Int64) (t2 : Int64) (hi : Int64) (lo : Int64) (hph6 : ph < 6) (hno : uwN ph = false ∨ og = false) : MO l dC dI yX3_open wsX3_open rm_m_open_x [.ref o, .long hi, .long lo] [(o, .inr (3, [.int th, .int (nI ph), .int (zI og), .ref qx, .ref qk, .ref qw, .ref qb, .ref qn, .long mh, .long ml, .long nc, .int rs, .int (nI na), .ref qd, .int (nI nz), .ref qg, .long t1, .long t2]))] [] [(o, .inr (3, [.int (nI 1), .int (nI ph), .int (zI og), .ref qx, .ref qk, .ref qw, .ref qb, .ref qn, .long mh, .long ml, .long nc, .int rs, .int (nI na), .ref qd, .int (nI nz), .ref qg, .long t1, .long t2]))] (some (.int (zI false))) := by
  refine mo_ofW (cc := cX3_open) (maxL := 6) (ret := (some .boolean)) (by decide) rfl (Nat.le_of_ble_eq_true rfl) ?_
  intro p e s m args below meth c Q A H locs ls hx hb hr hlk hml hta hown hin hE hQ hAe hA hK hP hD hS hl
  have hown : s.vm.findClass RX3 = some m.cls := hown
  have hl : lv_has ls 6 [(0, .ref o), (1, .long hi), (3, .long lo)] := hl
  refine lv_aload_n hx hb dX3_open_0 rfl (lv_at hl 0 rfl) ?_
  refine lv_aload_n hx hb dX3_open_1 rfl (lv_at hl 0 rfl) ?_
  refine cf_1 (wr := []) (va_runV (As := []) (rest := [.ref o]) ⟨hx, hb, hml, hown, hta⟩ (MO.to (m_isUnderWay l dC dI o th ph og qx qk qw qb qn mh ml nc rs na qd nz qg t1 t2 hph6) H.size) (cwV 0 hta (aw_V mw_597 mw_594 mw_596 mw_s31 mw_5) rfl rfl rfl ⟨rfl, dyX3_isUnderWay⟩ ⟨(Nat.le_of_ble_eq_true rfl), (Nat.le_of_ble_eq_true rfl)⟩) (pr_V hP hD hK hE [0] [] (by decide) rfl rfl rfl rfl) rfl rfl hl.1 rfl (lv_room (Nat.le_of_ble_eq_true rfl)) dX3_open_2 ⟨(Nat.le_of_ble_eq_true rfl), (Nat.le_of_ble_eq_true rfl)⟩) hP hD hS hA [0] [] rfl rfl (by decide) (by decide) (fun H locs hP hD hS => ?_)
  have hP : va_P (dC, dI) vwCl [(o, .inr (3, [.int th, .int (nI ph), .int (zI og), .ref qx, .ref qk, .ref qw, .ref qb, .ref qn, .long mh, .long ml, .long nc, .int rs, .int (nI na), .ref qd, .int (nI nz), .ref qg, .long t1, .long t2]))] H := hP
  have hD : va_D A [(o, .inr (3, [.int th, .int (nI ph), .int (zI og), .ref qx, .ref qk, .ref qw, .ref qb, .ref qn, .long mh, .long ml, .long nc, .int rs, .int (nI na), .ref qd, .int (nI nz), .ref qg, .long t1, .long t2]))] := hD
  refine W.widen (k := 0) (n := 0) (Nat.le_of_ble_eq_true rfl) (Nat.le_of_ble_eq_true rfl) ?_
  refine w_pc (pc2 := 5) rfl ?_
  refine lv_if_eq (tgt := 15) hx hb dX3_open_5 (by decide) (fun hc_5 => ?_) (fun hc_5 => ?_)
  · skip
    refine lv_iconst (v := nI 1) hx hb dX3_open_15 (by decide) ?_
    refine lv_goto (tgt := 20) hx hb dX3_open_16 (by decide) ?_
    refine lv_iconst (v := nI 0) hx hb dX3_open_20 (by decide) ?_
    refine lv_iconst (v := nI 0) hx hb dX3_open_21 (by decide) ?_
    refine cf_1 (wr := []) (va_runV (As := [.int (nI 1), .int (nI 0), .int (nI 0)]) (rest := []) ⟨hx, hb, hml, hown, hta⟩ (MO.to (m_refuses l dC dI o th ph og qx qk qw qb qn mh ml nc rs na qd nz qg t1 t2 true false false) H.size) (cwV 3 hta (aw_V mw_527 mw_524 mw_526 mw_s21 mw_5) rfl rfl rfl ⟨rfl, dyX3_refuses⟩ ⟨(Nat.le_of_ble_eq_true rfl), (Nat.le_of_ble_eq_true rfl)⟩) (pr_V hP hD hK hE [0] [] (by decide) rfl rfl rfl rfl) rfl rfl hl.1 rfl (lv_room (Nat.le_of_ble_eq_true rfl)) dX3_open_22 ⟨(Nat.le_of_ble_eq_true rfl), (Nat.le_of_ble_eq_true rfl)⟩) hP hD hS hA [0] [] rfl rfl (by decide) (by decide) (fun H locs hP hD hS => ?_)
    have hP : va_P (dC, dI) vwCl [(o, .inr (3, [.int (rfN true false false), .int (nI ph), .int (zI og), .ref qx, .ref qk, .ref qw, .ref qb, .ref qn, .long mh, .long ml, .long nc, .int rs, .int (nI na), .ref qd, .int (nI nz), .ref qg, .long t1, .long t2]))] H := hP
    have hD : va_D A [(o, .inr (3, [.int (rfN true false false), .int (nI ph), .int (zI og), .ref qx, .ref qk, .ref qw, .ref qb, .ref qn, .long mh, .long ml, .long nc, .int rs, .int (nI na), .ref qd, .int (nI nz), .ref qg, .long t1, .long t2]))] := hD
    refine W.widen (k := 0) (n := 0) (Nat.le_of_ble_eq_true rfl) (Nat.le_of_ble_eq_true rfl) ?_
    have e9 : rfN true false false = nI 1 := rfl
    have hP : va_P (dC, dI) vwCl [(o, .inr (3, [.int (nI 1), .int (nI ph), .int (zI og), .ref qx, .ref qk, .ref qw, .ref qb, .ref qn, .long mh, .long ml, .long nc, .int rs, .int (nI na), .ref qd, .int (nI nz), .ref qg, .long t1, .long t2]))] H := by rw [← e9]; exact hP
    have hD : va_D A [(o, .inr (3, [.int (nI 1), .int (nI ph), .int (zI og), .ref qx, .ref qk, .ref qw, .ref qb, .ref qn, .long mh, .long ml, .long nc, .int rs, .int (nI na), .ref qd, .int (nI nz), .ref qg, .long t1, .long t2]))] := by rw [← e9]; exact hD
    refine w_pc (pc2 := 25) rfl ?_
    refine lv_if_eq (tgt := 30) hx hb dX3_open_25 (by decide) (fun hc_25 => ?_) (fun hc_25 => ?_)
    · skip
      exact absurd hc_25 (by decide)
    · skip
      refine lv_iconst (v := nI 0) hx hb dX3_open_28 (by decide) ?_
      exact rt_z hx hb hr hlk hQ hAe hP hD hS [0] (by decide) rfl (Nat.le_of_ble_eq_true rfl) (Nat.le_of_ble_eq_true rfl) (rfl) (zI_n false) dX3_open_29
  · skip
    refine lv_aload_n hx hb dX3_open_8 rfl (lv_at hl 0 rfl) ?_
    refine va_get (D := (dC, dI)) (ci := 3) (v := .int (zI og)) (C := RX3) (T := TX3) (N := 18) hx hb hta inX3 hown hK hP 0 rfl rfl 2 (by decide) (hta _ mw_459) (fun _ h9 => h9) rfl dX3_open_9 ?_
    refine lv_if_ne (tgt := 19) hx hb dX3_open_12 (by decide) (fun hc_12 => ?_) (fun hc_12 => ?_)
    · skip
      exact hno.elim (fun h9 => absurd h9 (by rw [zI1 (b := uwN ph) (by assumption)]; decide)) (fun h9 => absurd h9 (by rw [zI1 (b := og) hc_12]; decide))
    · skip
      refine lv_iconst (v := nI 1) hx hb dX3_open_15 (by decide) ?_
      refine lv_goto (tgt := 20) hx hb dX3_open_16 (by decide) ?_
      refine lv_iconst (v := nI 0) hx hb dX3_open_20 (by decide) ?_
      refine lv_iconst (v := nI 0) hx hb dX3_open_21 (by decide) ?_
      refine cf_1 (wr := []) (va_runV (As := [.int (nI 1), .int (nI 0), .int (nI 0)]) (rest := []) ⟨hx, hb, hml, hown, hta⟩ (MO.to (m_refuses l dC dI o th ph og qx qk qw qb qn mh ml nc rs na qd nz qg t1 t2 true false false) H.size) (cwV 3 hta (aw_V mw_527 mw_524 mw_526 mw_s21 mw_5) rfl rfl rfl ⟨rfl, dyX3_refuses⟩ ⟨(Nat.le_of_ble_eq_true rfl), (Nat.le_of_ble_eq_true rfl)⟩) (pr_V hP hD hK hE [0] [] (by decide) rfl rfl rfl rfl) rfl rfl hl.1 rfl (lv_room (Nat.le_of_ble_eq_true rfl)) dX3_open_22 ⟨(Nat.le_of_ble_eq_true rfl), (Nat.le_of_ble_eq_true rfl)⟩) hP hD hS hA [0] [] rfl rfl (by decide) (by decide) (fun H locs hP hD hS => ?_)
      have hP : va_P (dC, dI) vwCl [(o, .inr (3, [.int (rfN true false false), .int (nI ph), .int (zI og), .ref qx, .ref qk, .ref qw, .ref qb, .ref qn, .long mh, .long ml, .long nc, .int rs, .int (nI na), .ref qd, .int (nI nz), .ref qg, .long t1, .long t2]))] H := hP
      have hD : va_D A [(o, .inr (3, [.int (rfN true false false), .int (nI ph), .int (zI og), .ref qx, .ref qk, .ref qw, .ref qb, .ref qn, .long mh, .long ml, .long nc, .int rs, .int (nI na), .ref qd, .int (nI nz), .ref qg, .long t1, .long t2]))] := hD
      refine W.widen (k := 0) (n := 0) (Nat.le_of_ble_eq_true rfl) (Nat.le_of_ble_eq_true rfl) ?_
      have e9 : rfN true false false = nI 1 := rfl
      have hP : va_P (dC, dI) vwCl [(o, .inr (3, [.int (nI 1), .int (nI ph), .int (zI og), .ref qx, .ref qk, .ref qw, .ref qb, .ref qn, .long mh, .long ml, .long nc, .int rs, .int (nI na), .ref qd, .int (nI nz), .ref qg, .long t1, .long t2]))] H := by rw [← e9]; exact hP
      have hD : va_D A [(o, .inr (3, [.int (nI 1), .int (nI ph), .int (zI og), .ref qx, .ref qk, .ref qw, .ref qb, .ref qn, .long mh, .long ml, .long nc, .int rs, .int (nI na), .ref qd, .int (nI nz), .ref qg, .long t1, .long t2]))] := by rw [← e9]; exact hD
      refine w_pc (pc2 := 25) rfl ?_
      refine lv_if_eq (tgt := 30) hx hb dX3_open_25 (by decide) (fun hc_25 => ?_) (fun hc_25 => ?_)
      · skip
        exact absurd hc_25 (by decide)
      · skip
        refine lv_iconst (v := nI 0) hx hb dX3_open_28 (by decide) ?_
        exact rt_z hx hb hr hlk hQ hAe hP hD hS [0] (by decide) rfl (Nat.le_of_ble_eq_true rfl) (Nat.le_of_ble_eq_true rfl) (rfl) (zI_n false) dX3_open_29

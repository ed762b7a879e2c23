def rm_m_refuses : Room := { frames := 0, cells := 0, slots := 0, locals := 0 }
set_option maxHeartbeats 4000000 in
set_option maxRecDepth 100000 in
/-- refuses -/
theorem m_refuses (l : Launch) (dC : Nat → ClassId) (dI : Nat → Nat → Nat) (o : Nat) (th : Int32) (ph : Nat) (og : Bool) (qx : Nat) (qk : Nat) (qw : Nat) (qb : Nat) (qn : Nat) (mh : Int64) (ml : Int64) (nc : Int64) (rs : Int32) (na : Nat) (qd : Nat) (nz : Nat) (qg : Nat) (t1 : Int64) (t2 : Int64) (a1 : Bool) (a2 : Bool) (a3 : Bool) : MO l dC dI yX3_refuses wsX3_refuses rm_m_refuses [.ref o, .int (zI a1), .int (zI a2), .int (zI a3)] [(o, .inr (3, [.int th, .int (nI ph), .int (zI og), .ref qx, .ref qk, .ref qw, .ref qb, .ref qn, .long mh, .long ml, .long nc, .int rs, .int (nI na), .ref qd, .int (nI nz), .ref qg, .long t1, .long t2]))] [] [(o, .inr (3, [.int (rfN a1 a2 a3), .int (nI ph), .int (zI og), .ref qx, .ref qk, .ref qw, .ref qb, .ref qn, .long mh, .long ml, .long nc, .int rs, .int (nI na), .ref qd, .int (nI nz), .ref qg, .long t1, .long t2]))] (some (.int (zI (a1 || (a2 || a3))))) := by
  refine mo_ofW (cc := cX3_refuses) (maxL := 4) (ret := (some .boolean)) (by decide) rfl (Nat.le_of_ble_eq_true rfl) ?_
  intro p e s m args below meth c Q A H locs ls hx hb hr hlk hml hta hown hin hE hQ hAe hA hK hP hD hS hl
  have hown : s.vm.findClass RX3 = some m.cls := hown
  have hl : lv_has ls 4 [(0, .ref o), (1, .int (zI a1)), (2, .int (zI a2)), (3, .int (zI a3))] := hl
  refine lv_aload_n hx hb dX3_refuses_0 rfl (lv_at hl 0 rfl) ?_
  refine lv_iload_n hx hb dX3_refuses_1 rfl (lv_at hl 1 rfl) ?_
  refine lv_if_eq (tgt := 9) hx hb dX3_refuses_2 (by decide) (fun hc_2 => ?_) (fun hc_2 => ?_)
  · skip
    refine lv_iload_n hx hb dX3_refuses_9 rfl (lv_at hl 2 rfl) ?_
    refine lv_if_eq (tgt := 17) hx hb dX3_refuses_10 (by decide) (fun hc_10 => ?_) (fun hc_10 => ?_)
    · skip
      refine lv_iload_n hx hb dX3_refuses_17 rfl (lv_at hl 3 rfl) ?_
      refine lv_if_eq (tgt := 25) hx hb dX3_refuses_18 (by decide) (fun hc_18 => ?_) (fun hc_18 => ?_)
      · skip
        refine lv_iconst (v := nI 0) hx hb dX3_refuses_25 (by decide) ?_
        refine va_put (D := (dC, dI)) (ci := 3) (v := .int (nI 0)) (ty := .int) (C := RX3) (T := TX3) (N := 18) hx hb hta inX3 tyX3 tyX3_ok nmX3 hown hK hP hD hS 0 rfl rfl 0 (by decide) (hta _ mw_457) (fun _ h9 => h9) rfl (by decide +kernel) rfl rfl (Nat.le_of_ble_eq_true rfl) dX3_refuses_26 (fun H locs hP hD hS => ?_)
        have hP : va_P (dC, dI) vwCl [(o, .inr (3, [.int (nI 0), .int (nI ph), .int (zI og), .ref qx, .ref qk, .ref qw, .ref qb, .ref qn, .long mh, .long ml, .long nc, .int rs, .int (nI na), .ref qd, .int (nI nz), .ref qg, .long t1, .long t2]))] H := hP
        have hD : va_D A [(o, .inr (3, [.int (nI 0), .int (nI ph), .int (zI og), .ref qx, .ref qk, .ref qw, .ref qb, .ref qn, .long mh, .long ml, .long nc, .int rs, .int (nI na), .ref qd, .int (nI nz), .ref qg, .long t1, .long t2]))] := hD
        refine lv_aload_n hx hb dX3_refuses_29 rfl (lv_at hl 0 rfl) ?_
        refine va_get (D := (dC, dI)) (ci := 3) (v := .int (nI 0)) (C := RX3) (T := TX3) (N := 18) hx hb hta inX3 hown hK hP 0 rfl rfl 0 (by decide) (hta _ mw_457) (fun _ h9 => h9) rfl dX3_refuses_30 ?_
        refine lv_if_le (tgt := 40) hx hb dX3_refuses_33 (by decide) (fun hc_33 => ?_) (fun hc_33 => ?_)
        · skip
          have hc_33 := (ix_le (a := 0) (b := 0) (by omega) (by omega)).mp hc_33
          have hc_33 : (0 ≤ 0) := hc_33
          refine lv_iconst (v := nI 0) hx hb dX3_refuses_40 (by decide) ?_
          have e9 : nI 0 = rfN a1 a2 a3 := by (try rw [zI0 (b := a1) (by assumption)]); (try rw [zI1 (b := a1) (by assumption)]); (try rw [zI0 (b := a2) (by assumption)]); (try rw [zI1 (b := a2) (by assumption)]); (try rw [zI0 (b := a3) (by assumption)]); (try rw [zI1 (b := a3) (by assumption)]); rfl
          have hP : va_P (dC, dI) vwCl [(o, .inr (3, [.int (rfN a1 a2 a3), .int (nI ph), .int (zI og), .ref qx, .ref qk, .ref qw, .ref qb, .ref qn, .long mh, .long ml, .long nc, .int rs, .int (nI na), .ref qd, .int (nI nz), .ref qg, .long t1, .long t2]))] H := by rw [← e9]; exact hP
          have hD : va_D A [(o, .inr (3, [.int (rfN a1 a2 a3), .int (nI ph), .int (zI og), .ref qx, .ref qk, .ref qw, .ref qb, .ref qn, .long mh, .long ml, .long nc, .int rs, .int (nI na), .ref qd, .int (nI nz), .ref qg, .long t1, .long t2]))] := by rw [← e9]; exact hD
          exact rt_z hx hb hr hlk hQ hAe hP hD hS [0] (by decide) rfl (Nat.le_of_ble_eq_true rfl) (Nat.le_of_ble_eq_true rfl) (by (try rw [zI0 (b := a1) (by assumption)]); (try rw [zI1 (b := a1) (by assumption)]); (try rw [zI0 (b := a2) (by assumption)]); (try rw [zI1 (b := a2) (by assumption)]); (try rw [zI0 (b := a3) (by assumption)]); (try rw [zI1 (b := a3) (by assumption)]); rfl) (zI_n (a1 || (a2 || a3))) dX3_refuses_41
        · skip
          have hc_33 := (not_congr (ix_le (a := 0) (b := 0) (by omega) (by omega))).mp hc_33
          have hc_33 : ¬ (0 ≤ 0) := hc_33
          exfalso; omega
      · skip
        refine lv_iconst (v := nI 3) hx hb dX3_refuses_21 (by decide) ?_
        refine lv_goto (tgt := 26) hx hb dX3_refuses_22 (by decide) ?_
        refine va_put (D := (dC, dI)) (ci := 3) (v := .int (nI 3)) (ty := .int) (C := RX3) (T := TX3) (N := 18) hx hb hta inX3 tyX3 tyX3_ok nmX3 hown hK hP hD hS 0 rfl rfl 0 (by decide) (hta _ mw_457) (fun _ h9 => h9) rfl (by decide +kernel) rfl rfl (Nat.le_of_ble_eq_true rfl) dX3_refuses_26 (fun H locs hP hD hS => ?_)
        have hP : va_P (dC, dI) vwCl [(o, .inr (3, [.int (nI 3), .int (nI ph), .int (zI og), .ref qx, .ref qk, .ref qw, .ref qb, .ref qn, .long mh, .long ml, .long nc, .int rs, .int (nI na), .ref qd, .int (nI nz), .ref qg, .long t1, .long t2]))] H := hP
        have hD : va_D A [(o, .inr (3, [.int (nI 3), .int (nI ph), .int (zI og), .ref qx, .ref qk, .ref qw, .ref qb, .ref qn, .long mh, .long ml, .long nc, .int rs, .int (nI na), .ref qd, .int (nI nz), .ref qg, .long t1, .long t2]))] := hD
        refine lv_aload_n hx hb dX3_refuses_29 rfl (lv_at hl 0 rfl) ?_
        refine va_get (D := (dC, dI)) (ci := 3) (v := .int (nI 3)) (C := RX3) (T := TX3) (N := 18) hx hb hta inX3 hown hK hP 0 rfl rfl 0 (by decide) (hta _ mw_457) (fun _ h9 => h9) rfl dX3_refuses_30 ?_
        refine lv_if_le (tgt := 40) hx hb dX3_refuses_33 (by decide) (fun hc_33 => ?_) (fun hc_33 => ?_)
        · skip
          have hc_33 := (ix_le (a := 3) (b := 0) (by omega) (by omega)).mp hc_33
          have hc_33 : (3 ≤ 0) := hc_33
          exfalso; omega
        · skip
          have hc_33 := (not_congr (ix_le (a := 3) (b := 0) (by omega) (by omega))).mp hc_33
          have hc_33 : ¬ (3 ≤ 0) := hc_33
          refine lv_iconst (v := nI 1) hx hb dX3_refuses_36 (by decide) ?_
          refine lv_goto (tgt := 41) hx hb dX3_refuses_37 (by decide) ?_
          have e9 : nI 3 = rfN a1 a2 a3 := by (try rw [zI0 (b := a1) (by assumption)]); (try rw [zI1 (b := a1) (by assumption)]); (try rw [zI0 (b := a2) (by assumption)]); (try rw [zI1 (b := a2) (by assumption)]); (try rw [zI0 (b := a3) (by assumption)]); (try rw [zI1 (b := a3) (by assumption)]); rfl
          have hP : va_P (dC, dI) vwCl [(o, .inr (3, [.int (rfN a1 a2 a3), .int (nI ph), .int (zI og), .ref qx, .ref qk, .ref qw, .ref qb, .ref qn, .long mh, .long ml, .long nc, .int rs, .int (nI na), .ref qd, .int (nI nz), .ref qg, .long t1, .long t2]))] H := by rw [← e9]; exact hP
          have hD : va_D A [(o, .inr (3, [.int (rfN a1 a2 a3), .int (nI ph), .int (zI og), .ref qx, .ref qk, .ref qw, .ref qb, .ref qn, .long mh, .long ml, .long nc, .int rs, .int (nI na), .ref qd, .int (nI nz), .ref qg, .long t1, .long t2]))] := by rw [← e9]; exact hD
          exact rt_z hx hb hr hlk hQ hAe hP hD hS [0] (by decide) rfl (Nat.le_of_ble_eq_true rfl) (Nat.le_of_ble_eq_true rfl) (by (try rw [zI0 (b := a1) (by assumption)]); (try rw [zI1 (b := a1) (by assumption)]); (try rw [zI0 (b := a2) (by assumption)]); (try rw [zI1 (b := a2) (by assumption)]); (try rw [zI0 (b := a3) (by assumption)]); (try rw [zI1 (b := a3) (by assumption)]); rfl) (zI_n (a1 || (a2 || a3))) dX3_refuses_41
    · skip
      refine lv_iconst (v := nI 2) hx hb dX3_refuses_13 (by decide) ?_
      refine lv_goto (tgt := 26) hx hb dX3_refuses_14 (by decide) ?_
      refine va_put (D := (dC, dI)) (ci := 3) (v := .int (nI 2)) (ty := .int) (C := RX3) (T := TX3) (N := 18) hx hb hta inX3 tyX3 tyX3_ok nmX3 hown hK hP hD hS 0 rfl rfl 0 (by decide) (hta _ mw_457) (fun _ h9 => h9) rfl (by decide +kernel) rfl rfl (Nat.le_of_ble_eq_true rfl) dX3_refuses_26 (fun H locs hP hD hS => ?_)
      have hP : va_P (dC, dI) vwCl [(o, .inr (3, [.int (nI 2), .int (nI ph), .int (zI og), .ref qx, .ref qk, .ref qw, .ref qb, .ref qn, .long mh, .long ml, .long nc, .int rs, .int (nI na), .ref qd, .int (nI nz), .ref qg, .long t1, .long t2]))] H := hP
      have hD : va_D A [(o, .inr (3, [.int (nI 2), .int (nI ph), .int (zI og), .ref qx, .ref qk, .ref qw, .ref qb, .ref qn, .long mh, .long ml, .long nc, .int rs, .int (nI na), .ref qd, .int (nI nz), .ref qg, .long t1, .long t2]))] := hD
      refine lv_aload_n hx hb dX3_refuses_29 rfl (lv_at hl 0 rfl) ?_
      refine va_get (D := (dC, dI)) (ci := 3) (v := .int (nI 2)) (C := RX3) (T := TX3) (N := 18) hx hb hta inX3 hown hK hP 0 rfl rfl 0 (by decide) (hta _ mw_457) (fun _ h9 => h9) rfl dX3_refuses_30 ?_
      refine lv_if_le (tgt := 40) hx hb dX3_refuses_33 (by decide) (fun hc_33 => ?_) (fun hc_33 => ?_)
      · skip
        have hc_33 := (ix_le (a := 2) (b := 0) (by omega) (by omega)).mp hc_33
        have hc_33 : (2 ≤ 0) := hc_33
        exfalso; omega
      · skip
        have hc_33 := (not_congr (ix_le (a := 2) (b := 0) (by omega) (by omega))).mp hc_33
        have hc_33 : ¬ (2 ≤ 0) := hc_33
        refine lv_iconst (v := nI 1) hx hb dX3_refuses_36 (by decide) ?_
        refine lv_goto (tgt := 41) hx hb dX3_refuses_37 (by decide) ?_
        have e9 : nI 2 = rfN a1 a2 a3 := by (try rw [zI0 (b := a1) (by assumption)]); (try rw [zI1 (b := a1) (by assumption)]); (try rw [zI0 (b := a2) (by assumption)]); (try rw [zI1 (b := a2) (by assumption)]); (try rw [zI0 (b := a3) (by assumption)]); (try rw [zI1 (b := a3) (by assumption)]); rfl
        have hP : va_P (dC, dI) vwCl [(o, .inr (3, [.int (rfN a1 a2 a3), .int (nI ph), .int (zI og), .ref qx, .ref qk, .ref qw, .ref qb, .ref qn, .long mh, .long ml, .long nc, .int rs, .int (nI na), .ref qd, .int (nI nz), .ref qg, .long t1, .long t2]))] H := by rw [← e9]; exact hP
        have hD : va_D A [(o, .inr (3, [.int (rfN a1 a2 a3), .int (nI ph), .int (zI og), .ref qx, .ref qk, .ref qw, .ref qb, .ref qn, .long mh, .long ml, .long nc, .int rs, .int (nI na), .ref qd, .int (nI nz), .ref qg, .long t1, .long t2]))] := by rw [← e9]; exact hD
        exact rt_z hx hb hr hlk hQ hAe hP hD hS [0] (by decide) rfl (Nat.le_of_ble_eq_true rfl) (Nat.le_of_ble_eq_true rfl) (by (try rw [zI0 (b := a1) (by assumption)]); (try rw [zI1 (b := a1) (by assumption)]); (try rw [zI0 (b := a2) (by assumption)]); (try rw [zI1 (b := a2) (by assumption)]); (try rw [zI0 (b := a3) (by assumption)]); (try rw [zI1 (b := a3) (by assumption)]); rfl) (zI_n (a1 || (a2 || a3))) dX3_refuses_41
  · skip
    refine lv_iconst (v := nI 1) hx hb dX3_refuses_5 (by decide) ?_
    refine lv_goto (tgt := 26) hx hb dX3_refuses_6 (by decide) ?_
    refine va_put (D := (dC, dI)) (ci := 3) (v := .int (nI 1)) (ty := .int) (C := RX3) (T := TX3) (N := 18) hx hb hta inX3 tyX3 tyX3_ok nmX3 hown hK hP hD hS 0 rfl rfl 0 (by decide) (hta _ mw_457) (fun _ h9 => h9) rfl (by decide +kernel) rfl rfl (Nat.le_of_ble_eq_true rfl) dX3_refuses_26 (fun H locs hP hD hS => ?_)
    have hP : va_P (dC, dI) vwCl [(o, .inr (3, [.int (nI 1), .int (nI ph), .int (zI og), .ref qx, .ref qk, .ref qw, .ref qb, .ref qn, .long mh, .long ml, .long nc, .int rs, .int (nI na), .ref qd, .int (nI nz), .ref qg, .long t1, .long t2]))] H := hP
    have hD : va_D A [(o, .inr (3, [.int (nI 1), .int (nI ph), .int (zI og), .ref qx, .ref qk, .ref qw, .ref qb, .ref qn, .long mh, .long ml, .long nc, .int rs, .int (nI na), .ref qd, .int (nI nz), .ref qg, .long t1, .long t2]))] := hD
    refine lv_aload_n hx hb dX3_refuses_29 rfl (lv_at hl 0 rfl) ?_
    refine va_get (D := (dC, dI)) (ci := 3) (v := .int (nI 1)) (C := RX3) (T := TX3) (N := 18) hx hb hta inX3 hown hK hP 0 rfl rfl 0 (by decide) (hta _ mw_457) (fun _ h9 => h9) rfl dX3_refuses_30 ?_
    refine lv_if_le (tgt := 40) hx hb dX3_refuses_33 (by decide) (fun hc_33 => ?_) (fun hc_33 => ?_)
    · skip
      have hc_33 := (ix_le (a := 1) (b := 0) (by omega) (by omega)).mp hc_33
      have hc_33 : (1 ≤ 0) := hc_33
      exfalso; omega
    · skip
      have hc_33 := (not_congr (ix_le (a := 1) (b := 0) (by omega) (by omega))).mp hc_33
      have hc_33 : ¬ (1 ≤ 0) := hc_33
      refine lv_iconst (v := nI 1) hx hb dX3_refuses_36 (by decide) ?_
      refine lv_goto (tgt := 41) hx hb dX3_refuses_37 (by decide) ?_
      have e9 : nI 1 = rfN a1 a2 a3 := by (try rw [zI0 (b := a1) (by assumption)]); (try rw [zI1 (b := a1) (by assumption)]); (try rw [zI0 (b := a2) (by assumption)]); (try rw [zI1 (b := a2) (by assumption)]); (try rw [zI0 (b := a3) (by assumption)]); (try rw [zI1 (b := a3) (by assumption)]); rfl
      have hP : va_P (dC, dI) vwCl [(o, .inr (3, [.int (rfN a1 a2 a3), .int (nI ph), .int (zI og), .ref qx, .ref qk, .ref qw, .ref qb, .ref qn, .long mh, .long ml, .long nc, .int rs, .int (nI na), .ref qd, .int (nI nz), .ref qg, .long t1, .long t2]))] H := by rw [← e9]; exact hP
      have hD : va_D A [(o, .inr (3, [.int (rfN a1 a2 a3), .int (nI ph), .int (zI og), .ref qx, .ref qk, .ref qw, .ref qb, .ref qn, .long mh, .long ml, .long nc, .int rs, .int (nI na), .ref qd, .int (nI nz), .ref qg, .long t1, .long t2]))] := by rw [← e9]; exact hD
      exact rt_z hx hb hr hlk hQ hAe hP hD hS [0] (by decide) rfl (Nat.le_of_ble_eq_true rfl) (Nat.le_of_ble_eq_true rfl) (by (try rw [zI0 (b := a1) (by assumption)]); (try rw [zI1 (b := a1) (by assumption)]); (try rw [zI0 (b := a2) (by assumption)]); (try rw [zI1 (b := a2) (by assumption)]); (try rw [zI0 (b := a3) (by assumption)]); (try rw [zI1 (b := a3) (by assumption)]); rfl) (zI_n (a1 || (a2 || a3))) dX3_refuses_41

def rm_m_key : Room := { frames := 3, cells := 0, slots := 0, locals := 71 }
set_option maxHeartbeats 4000000 in
set_option maxRecDepth 100000 in
/-- key -/
theorem m_key (l : Launch) (dC : Nat → ClassId) (dI : Nat → Nat → Nat) (o : Nat) (th : Int32) (ph : Nat) (og : Bool) (qx : Nat) (qk : Nat) (qw : Nat) (qb : Nat) (qn : Nat) (mh : Int64) (ml : Int64) (nc : Int64) (rs : Int32) (na : Nat) (qd : Nat) (nz : Nat) (qg : Nat) (t1 : Int64) (t2 : Int64) (kx : ClassId) (kw : ClassId) (sb : Nat → Nat) (w : Nat → Int32) (hi : Int64) (lo : Int64) : MO l dC dI yX3_key wsX3_key rm_m_key [.ref o, .long hi, .long lo] [(o, .inr (3, [.int th, .int (nI ph), .int (zI og), .ref qx, .ref qk, .ref qw, .ref qb, .ref qn, .long mh, .long ml, .long nc, .int rs, .int (nI na), .ref qd, .int (nI nz), .ref qg, .long t1, .long t2])), (qx, .inl (kx, 256, .inl (nF sb))), (qw, .inl (kw, 44, .inl w))] [(kx, .int), (kw, .int)] [(o, .inr (3, [.int (nI 0), .int (nI 0), .int (zI og), .ref qx, .ref qk, .ref qw, .ref qb, .ref qn, .long mh, .long ml, .long nc, .int rs, .int (nI 0), .ref qd, .int (nI 0), .ref qg, .long t1, .long t2])), (qx, .inl (kx, 256, .inl (nF sb))), (qw, .inl (kw, 44, .inl (kwN sb hi lo)))] none := by
  refine mo_ofW (cc := cX3_key) (maxL := 5) (ret := none) (by decide) rfl (Nat.le_of_ble_eq_true rfl) ?_
  intro p e s m args below meth c Q A H locs ls hx hb hr hlk hml hta hown hin hE hQ hAe hA hK hP hD hS hl
  have hown : s.vm.findClass RX3 = some m.cls := hown
  have hl : lv_has ls 5 [(0, .ref o), (1, .long hi), (3, .long lo)] := hl
  refine lv_aload_n hx hb dX3_key_0 rfl (lv_at hl 0 rfl) ?_
  refine lv_iconst (v := nI 0) hx hb dX3_key_1 (by decide) ?_
  refine va_put (D := (dC, dI)) (ci := 3) (v := .int (nI 0)) (ty := .int) (C := RX3) (T := TX3) (N := 18) hx hb hta inX3 tyX3 tyX3_ok nmX3 hown hK hP hD hS 0 rfl rfl 0 (by decide) (hta _ mw_457) (fun _ h9 => h9) rfl (by decide +kernel) rfl rfl (Nat.le_of_ble_eq_true rfl) dX3_key_2 (fun H locs hP hD hS => ?_)
  have hP : va_P (dC, dI) vwCl [(o, .inr (3, [.int (nI 0), .int (nI ph), .int (zI og), .ref qx, .ref qk, .ref qw, .ref qb, .ref qn, .long mh, .long ml, .long nc, .int rs, .int (nI na), .ref qd, .int (nI nz), .ref qg, .long t1, .long t2])), (qx, .inl (kx, 256, .inl (nF sb))), (qw, .inl (kw, 44, .inl w))] H := hP
  have hD : va_D A [(o, .inr (3, [.int (nI 0), .int (nI ph), .int (zI og), .ref qx, .ref qk, .ref qw, .ref qb, .ref qn, .long mh, .long ml, .long nc, .int rs, .int (nI na), .ref qd, .int (nI nz), .ref qg, .long t1, .long t2])), (qx, .inl (kx, 256, .inl (nF sb))), (qw, .inl (kw, 44, .inl w))] := hD
  refine lv_aload_n hx hb dX3_key_5 rfl (lv_at hl 0 rfl) ?_
  refine lv_lload_n hx hb dX3_key_6 rfl (lv_at hl 1 rfl) ?_
  refine lv_lload_n hx hb dX3_key_7 rfl (lv_at hl 2 rfl) ?_
  refine cf_0 (wr := []) (va_runV (As := [.long hi, .long lo]) (rest := []) ⟨hx, hb, hml, hown, hta⟩ (MO.to (m_expand l dC dI o (nI 0) ph og qx qk qw qb qn mh ml nc rs na qd nz qg t1 t2 kx kw sb w hi lo) H.size) (cwV 2 hta (aw_V mw_449 mw_446 mw_448 mw_s19 mw_5) rfl rfl rfl ⟨rfl, dyX3_expand⟩ ⟨(Nat.le_of_ble_eq_true rfl), (Nat.le_of_ble_eq_true rfl)⟩) (pr_V hP hD hK hE [0, 1, 2] [0, 1] (by decide) rfl rfl rfl rfl) rfl rfl hl.1 rfl (lv_room (Nat.le_of_ble_eq_true rfl)) dX3_key_8 ⟨(Nat.le_of_ble_eq_true rfl), (Nat.le_of_ble_eq_true rfl)⟩) hP hD hS hA [0, 1, 2] [] rfl rfl (by decide) (by decide) (fun H locs hP hD hS => ?_)
  have hP : va_P (dC, dI) vwCl [(o, .inr (3, [.int (nI 0), .int (nI ph), .int (zI og), .ref qx, .ref qk, .ref qw, .ref qb, .ref qn, .long mh, .long ml, .long nc, .int rs, .int (nI na), .ref qd, .int (nI nz), .ref qg, .long t1, .long t2])), (qx, .inl (kx, 256, .inl (nF sb))), (qw, .inl (kw, 44, .inl (kwN sb hi lo)))] H := hP
  have hD : va_D A [(o, .inr (3, [.int (nI 0), .int (nI ph), .int (zI og), .ref qx, .ref qk, .ref qw, .ref qb, .ref qn, .long mh, .long ml, .long nc, .int rs, .int (nI na), .ref qd, .int (nI nz), .ref qg, .long t1, .long t2])), (qx, .inl (kx, 256, .inl (nF sb))), (qw, .inl (kw, 44, .inl (kwN sb hi lo)))] := hD
  refine W.widen (k := 0) (n := 0) (Nat.le_of_ble_eq_true rfl) (Nat.le_of_ble_eq_true rfl) ?_
  refine w_pc (pc2 := 11) rfl ?_
  refine lv_aload_n hx hb dX3_key_11 rfl (lv_at hl 0 rfl) ?_
  refine lv_iconst (v := nI 0) hx hb dX3_key_12 (by decide) ?_
  refine va_put (D := (dC, dI)) (ci := 3) (v := .int (nI 0)) (ty := .int) (C := RX3) (T := TX3) (N := 18) hx hb hta inX3 tyX3 tyX3_ok nmX3 hown hK hP hD hS 0 rfl rfl 1 (by decide) (hta _ mw_458) (fun _ h9 => h9) rfl (by decide +kernel) rfl rfl (Nat.le_of_ble_eq_true rfl) dX3_key_13 (fun H locs hP hD hS => ?_)
  have hP : va_P (dC, dI) vwCl [(o, .inr (3, [.int (nI 0), .int (nI 0), .int (zI og), .ref qx, .ref qk, .ref qw, .ref qb, .ref qn, .long mh, .long ml, .long nc, .int rs, .int (nI na), .ref qd, .int (nI nz), .ref qg, .long t1, .long t2])), (qx, .inl (kx, 256, .inl (nF sb))), (qw, .inl (kw, 44, .inl (kwN sb hi lo)))] H := hP
  have hD : va_D A [(o, .inr (3, [.int (nI 0), .int (nI 0), .int (zI og), .ref qx, .ref qk, .ref qw, .ref qb, .ref qn, .long mh, .long ml, .long nc, .int rs, .int (nI na), .ref qd, .int (nI nz), .ref qg, .long t1, .long t2])), (qx, .inl (kx, 256, .inl (nF sb))), (qw, .inl (kw, 44, .inl (kwN sb hi lo)))] := hD
  refine lv_aload_n hx hb dX3_key_16 rfl (lv_at hl 0 rfl) ?_
  refine lv_iconst (v := nI 0) hx hb dX3_key_17 (by decide) ?_
  refine va_put (D := (dC, dI)) (ci := 3) (v := .int (nI 0)) (ty := .int) (C := RX3) (T := TX3) (N := 18) hx hb hta inX3 tyX3 tyX3_ok nmX3 hown hK hP hD hS 0 rfl rfl 12 (by decide) (hta _ mw_469) (fun _ h9 => h9) rfl (by decide +kernel) rfl rfl (Nat.le_of_ble_eq_true rfl) dX3_key_18 (fun H locs hP hD hS => ?_)
  have hP : va_P (dC, dI) vwCl [(o, .inr (3, [.int (nI 0), .int (nI 0), .int (zI og), .ref qx, .ref qk, .ref qw, .ref qb, .ref qn, .long mh, .long ml, .long nc, .int rs, .int (nI 0), .ref qd, .int (nI nz), .ref qg, .long t1, .long t2])), (qx, .inl (kx, 256, .inl (nF sb))), (qw, .inl (kw, 44, .inl (kwN sb hi lo)))] H := hP
  have hD : va_D A [(o, .inr (3, [.int (nI 0), .int (nI 0), .int (zI og), .ref qx, .ref qk, .ref qw, .ref qb, .ref qn, .long mh, .long ml, .long nc, .int rs, .int (nI 0), .ref qd, .int (nI nz), .ref qg, .long t1, .long t2])), (qx, .inl (kx, 256, .inl (nF sb))), (qw, .inl (kw, 44, .inl (kwN sb hi lo)))] := hD
  refine lv_aload_n hx hb dX3_key_21 rfl (lv_at hl 0 rfl) ?_
  refine lv_iconst (v := nI 0) hx hb dX3_key_22 (by decide) ?_
  refine va_put (D := (dC, dI)) (ci := 3) (v := .int (nI 0)) (ty := .int) (C := RX3) (T := TX3) (N := 18) hx hb hta inX3 tyX3 tyX3_ok nmX3 hown hK hP hD hS 0 rfl rfl 14 (by decide) (hta _ mw_471) (fun _ h9 => h9) rfl (by decide +kernel) rfl rfl (Nat.le_of_ble_eq_true rfl) dX3_key_23 (fun H locs hP hD hS => ?_)
  have hP : va_P (dC, dI) vwCl [(o, .inr (3, [.int (nI 0), .int (nI 0), .int (zI og), .ref qx, .ref qk, .ref qw, .ref qb, .ref qn, .long mh, .long ml, .long nc, .int rs, .int (nI 0), .ref qd, .int (nI 0), .ref qg, .long t1, .long t2])), (qx, .inl (kx, 256, .inl (nF sb))), (qw, .inl (kw, 44, .inl (kwN sb hi lo)))] H := hP
  have hD : va_D A [(o, .inr (3, [.int (nI 0), .int (nI 0), .int (zI og), .ref qx, .ref qk, .ref qw, .ref qb, .ref qn, .long mh, .long ml, .long nc, .int rs, .int (nI 0), .ref qd, .int (nI 0), .ref qg, .long t1, .long t2])), (qx, .inl (kx, 256, .inl (nF sb))), (qw, .inl (kw, 44, .inl (kwN sb hi lo)))] := hD
  exact rt_0 hx hb hr hlk hQ hAe hP hD hS [0, 1, 2] (by decide) rfl (Nat.le_of_ble_eq_true rfl) (Nat.le_of_ble_eq_true rfl) dX3_key_26

def rm_m_counter : Room := { frames := 3, cells := 0, slots := 0, locals := 72 }
set_option maxHeartbeats 4000000 in
set_option maxRecDepth 100000 in
/-- counter(num) -/
theorem m_counter (l : Launch) (dC : Nat → ClassId) (dI : Nat → Nat → Nat) (o : Nat) (th : Int32) (ph : Nat) (og : Bool) (qx : Nat) (qk : Nat) (qw : Nat) (qb : Nat) (qn : Nat) (mh : Int64) (ml : Int64) (nc : Int64) (rs : Int32) (na : Nat) (qd : Nat) (nz : Nat) (qg : Nat) (t1 : Int64) (t2 : Int64) (kx : ClassId) (kw : ClassId) (kb : ClassId) (kn : ClassId) (sb : Nat → Nat) (w : Nat → Int32) (b : Nat → Nat) (z : Nat → Nat) (num : Nat) (s256 : ∀ i, sb i < 256) (hnum : num < 1000) : MO l dC dI yX3_counter wsX3_counter rm_m_counter [.ref o, .int (nI num)] [(o, .inr (3, [.int th, .int (nI ph), .int (zI og), .ref qx, .ref qk, .ref qw, .ref qb, .ref qn, .long mh, .long ml, .long nc, .int rs, .int (nI na), .ref qd, .int (nI nz), .ref qg, .long t1, .long t2])), (qx, .inl (kx, 256, .inl (nF sb))), (qw, .inl (kw, 44, .inl w)), (qb, .inl (kb, 16, .inl (nF b))), (qn, .inl (kn, 16, .inl (nF z)))] [(kx, .int), (kw, .int), (kb, .int), (kn, .int)] [(o, .inr (3, [.int th, .int (nI ph), .int (zI og), .ref qx, .ref qk, .ref qw, .ref qb, .ref qn, .long mh, .long ml, .long nc, .int rs, .int (nI na), .ref qd, .int (nI nz), .ref qg, .long t1, .long t2])), (qx, .inl (kx, 256, .inl (nF sb))), (qw, .inl (kw, 44, .inl w)), (qb, .inl (kb, 16, .inl (nF (mkN sb w nc rs num)))), (qn, .inl (kn, 16, .inl (nF (ssN sb (erN sb w (ldN nc (ctL rs num)) 9)))))] none := by
  refine mo_ofW (cc := cX3_counter) (maxL := 2) (ret := none) (by decide) rfl (Nat.le_of_ble_eq_true rfl) ?_
  intro p e s m args below meth c Q A H locs ls hx hb hr hlk hml hta hown hin hE hQ hAe hA hK hP hD hS hl
  have hown : s.vm.findClass RX3 = some m.cls := hown
  have hl : lv_has ls 2 [(0, .ref o), (1, .int (nI num))] := hl
  refine lv_aload_n hx hb dX3_counter_0 rfl (lv_at hl 0 rfl) ?_
  refine lv_aload_n hx hb dX3_counter_1 rfl (lv_at hl 0 rfl) ?_
  refine va_get (D := (dC, dI)) (ci := 3) (v := .long nc) (C := RX3) (T := TX3) (N := 18) hx hb hta inX3 hown hK hP 0 rfl rfl 10 (by decide) (hta _ mw_467) (fun _ h9 => h9) rfl dX3_counter_2 ?_
  refine lv_aload_n hx hb dX3_counter_5 rfl (lv_at hl 0 rfl) ?_
  refine va_get (D := (dC, dI)) (ci := 3) (v := .int rs) (C := RX3) (T := TX3) (N := 18) hx hb hta inX3 hown hK hP 0 rfl rfl 11 (by decide) (hta _ mw_468) (fun _ h9 => h9) rfl dX3_counter_6 ?_
  refine lv_i2l hx hb dX3_counter_9 rfl ?_
  refine lv_bipush (v := nI 32) hx hb dX3_counter_10 (by decide) ?_
  refine lv_lshl hx hb dX3_counter_12 rfl ?_
  refine lv_iload_n hx hb dX3_counter_13 rfl (lv_at hl 1 rfl) ?_
  refine lv_i2l hx hb dX3_counter_14 rfl (top_l (nI_l (by omega)) ?_)
  refine lv_lor hx hb dX3_counter_15 ?_
  refine top_l (y := ctL rs num) (rfl) ?_
  refine w_pc (pc2 := 16) rfl ?_
  refine cf_0 (wr := [(qx, .inl (kx, 256, .inl (nF sb))), (qw, .inl (kw, 44, .inl w)), (qn, .inl (kn, 16, .inl (nF z)))]) (va_runV (As := [.long nc, .long (ctL rs num)]) (rest := []) ⟨hx, hb, hml, hown, hta⟩ (MO.to (m_lay l dC dI o th ph og qx qk qw qb qn mh ml nc rs na qd nz qg t1 t2 kb b nc (ctL rs num)) H.size) (cwV 2 hta (aw_V mw_535 mw_532 mw_534 mw_s22 mw_5) rfl rfl rfl ⟨rfl, dyX3_lay⟩ ⟨(Nat.le_of_ble_eq_true rfl), (Nat.le_of_ble_eq_true rfl)⟩) (pr_V hP hD hK hE [0, 3] [2] (by decide) rfl rfl rfl rfl) rfl rfl hl.1 rfl (lv_room (Nat.le_of_ble_eq_true rfl)) dX3_counter_16 ⟨(Nat.le_of_ble_eq_true rfl), (Nat.le_of_ble_eq_true rfl)⟩) hP hD hS hA [0, 3] [1, 2, 4] rfl rfl (by decide) (by decide) (fun H locs hP hD hS => ?_)
  have hP : va_P (dC, dI) vwCl [(qx, .inl (kx, 256, .inl (nF sb))), (qw, .inl (kw, 44, .inl w)), (qn, .inl (kn, 16, .inl (nF z))), (o, .inr (3, [.int th, .int (nI ph), .int (zI og), .ref qx, .ref qk, .ref qw, .ref qb, .ref qn, .long mh, .long ml, .long nc, .int rs, .int (nI na), .ref qd, .int (nI nz), .ref qg, .long t1, .long t2])), (qb, .inl (kb, 16, .inl (nF (ldN nc (ctL rs num)))))] H := hP
  have hD : va_D A [(qx, .inl (kx, 256, .inl (nF sb))), (qw, .inl (kw, 44, .inl w)), (qn, .inl (kn, 16, .inl (nF z))), (o, .inr (3, [.int th, .int (nI ph), .int (zI og), .ref qx, .ref qk, .ref qw, .ref qb, .ref qn, .long mh, .long ml, .long nc, .int rs, .int (nI na), .ref qd, .int (nI nz), .ref qg, .long t1, .long t2])), (qb, .inl (kb, 16, .inl (nF (ldN nc (ctL rs num)))))] := hD
  refine W.widen (k := 0) (n := 0) (Nat.le_of_ble_eq_true rfl) (Nat.le_of_ble_eq_true rfl) ?_
  refine w_pc (pc2 := 19) rfl ?_
  refine lv_aload_n hx hb dX3_counter_19 rfl (lv_at hl 0 rfl) ?_
  refine cf_0 (wr := []) (va_runV (As := []) (rest := []) ⟨hx, hb, hml, hown, hta⟩ (MO.to (m_encryptBlock l dC dI o th ph og qx qk qw qb qn mh ml nc rs na qd nz qg t1 t2 kx kw kb kn sb w (ldN nc (ctL rs num)) z s256 (ldN_lt _ _)) H.size) (cwV 0 hta (aw_V mw_540 mw_537 mw_539 mw_s23 mw_5) rfl rfl rfl ⟨rfl, dyX3_encryptBlock⟩ ⟨(Nat.le_of_ble_eq_true rfl), (Nat.le_of_ble_eq_true rfl)⟩) (pr_V hP hD hK hE [3, 0, 1, 4, 2] [0, 1, 2, 3] (by decide) rfl rfl rfl rfl) rfl rfl hl.1 rfl (lv_room (Nat.le_of_ble_eq_true rfl)) dX3_counter_20 ⟨(Nat.le_of_ble_eq_true rfl), (Nat.le_of_ble_eq_true rfl)⟩) hP hD hS hA [3, 0, 1, 4, 2] [] rfl rfl (by decide) (by decide) (fun H locs hP hD hS => ?_)
  have hP : va_P (dC, dI) vwCl [(o, .inr (3, [.int th, .int (nI ph), .int (zI og), .ref qx, .ref qk, .ref qw, .ref qb, .ref qn, .long mh, .long ml, .long nc, .int rs, .int (nI na), .ref qd, .int (nI nz), .ref qg, .long t1, .long t2])), (qx, .inl (kx, 256, .inl (nF sb))), (qw, .inl (kw, 44, .inl w)), (qb, .inl (kb, 16, .inl (nF (erN sb w (ldN nc (ctL rs num)) 10)))), (qn, .inl (kn, 16, .inl (nF (ssN sb (erN sb w (ldN nc (ctL rs num)) 9)))))] H := hP
  have hD : va_D A [(o, .inr (3, [.int th, .int (nI ph), .int (zI og), .ref qx, .ref qk, .ref qw, .ref qb, .ref qn, .long mh, .long ml, .long nc, .int rs, .int (nI na), .ref qd, .int (nI nz), .ref qg, .long t1, .long t2])), (qx, .inl (kx, 256, .inl (nF sb))), (qw, .inl (kw, 44, .inl w)), (qb, .inl (kb, 16, .inl (nF (erN sb w (ldN nc (ctL rs num)) 10)))), (qn, .inl (kn, 16, .inl (nF (ssN sb (erN sb w (ldN nc (ctL rs num)) 9)))))] := hD
  refine W.widen (k := 0) (n := 0) (Nat.le_of_ble_eq_true rfl) (Nat.le_of_ble_eq_true rfl) ?_
  refine w_pc (pc2 := 23) rfl ?_
  obtain ⟨hP, hD⟩ := va_recb (g := mkN sb w nc rs num) hP hD 3 rfl (fun i _ => rfl)
  have hP : va_P (dC, dI) vwCl [(o, .inr (3, [.int th, .int (nI ph), .int (zI og), .ref qx, .ref qk, .ref qw, .ref qb, .ref qn, .long mh, .long ml, .long nc, .int rs, .int (nI na), .ref qd, .int (nI nz), .ref qg, .long t1, .long t2])), (qx, .inl (kx, 256, .inl (nF sb))), (qw, .inl (kw, 44, .inl w)), (qb, .inl (kb, 16, .inl (nF (mkN sb w nc rs num)))), (qn, .inl (kn, 16, .inl (nF (ssN sb (erN sb w (ldN nc (ctL rs num)) 9)))))] H := hP
  have hD : va_D A [(o, .inr (3, [.int th, .int (nI ph), .int (zI og), .ref qx, .ref qk, .ref qw, .ref qb, .ref qn, .long mh, .long ml, .long nc, .int rs, .int (nI na), .ref qd, .int (nI nz), .ref qg, .long t1, .long t2])), (qx, .inl (kx, 256, .inl (nF sb))), (qw, .inl (kw, 44, .inl w)), (qb, .inl (kb, 16, .inl (nF (mkN sb w nc rs num)))), (qn, .inl (kn, 16, .inl (nF (ssN sb (erN sb w (ldN nc (ctL rs num)) 9)))))] := hD
  exact rt_0 hx hb hr hlk hQ hAe hP hD hS [0, 1, 2, 3, 4] (by decide) rfl (Nat.le_of_ble_eq_true rfl) (Nat.le_of_ble_eq_true rfl) dX3_counter_23

def rm_m_mask : Room := { frames := 4, cells := 0, slots := 0, locals := 93 }
set_option maxHeartbeats 4000000 in
set_option maxRecDepth 100000 in
/-- mask(i) -/
theorem m_mask (l : Launch) (dC : Nat → ClassId) (dI : Nat → Nat → Nat) (o : Nat) (th : Int32) (ph : Nat) (og : Bool) (qx : Nat) (qk : Nat) (qw : Nat) (qb : Nat) (qn : Nat) (mh : Int64) (ml : Int64) (nc : Int64) (rs : Int32) (na : Nat) (qd : Nat) (nz : Nat) (qg : Nat) (t1 : Int64) (t2 : Int64) (kx : ClassId) (kw : ClassId) (kb : ClassId) (kn : ClassId) (sb : Nat → Nat) (w : Nat → Int32) (b : Nat → Nat) (z : Nat → Nat) (i : Nat) (s256 : ∀ i, sb i < 256) (hi9 : i < 96) : MX l dC dI yX3_mask wsX3_mask rm_m_mask [.ref o, .int (nI i)] [(o, .inr (3, [.int th, .int (nI ph), .int (zI og), .ref qx, .ref qk, .ref qw, .ref qb, .ref qn, .long mh, .long ml, .long nc, .int rs, .int (nI na), .ref qd, .int (nI nz), .ref qg, .long t1, .long t2])), (qx, .inl (kx, 256, .inl (nF sb))), (qw, .inl (kw, 44, .inl w)), (qb, .inl (kb, 16, .inl (nF b))), (qn, .inl (kn, 16, .inl (nF z)))] [(kx, .int), (kw, .int), (kb, .int), (kn, .int)] (fun ((b1, z1) : (Nat → Nat) × (Nat → Nat)) => [(o, .inr (3, [.int th, .int (nI ph), .int (zI og), .ref qx, .ref qk, .ref qw, .ref qb, .ref qn, .long mh, .long ml, .long nc, .int rs, .int (nI na), .ref qd, .int (nI nz), .ref qg, .long t1, .long t2])), (qx, .inl (kx, 256, .inl (nF sb))), (qw, .inl (kw, 44, .inl w)), (qb, .inl (kb, 16, .inl (nF b1))), (qn, .inl (kn, 16, .inl (nF z1)))]) (fun ((b1, z1) : (Nat → Nat) × (Nat → Nat)) => []) (fun _ => True) (fun ((b1, z1) : (Nat → Nat) × (Nat → Nat)) => (some (.int (nI (mskN sb w nc rs i))))) := by
  refine mx_ofW (cc := cX3_mask) (maxL := 2) (ret := (some .int)) (by decide) rfl (Nat.le_of_ble_eq_true rfl) ?_
  intro p e s m args below meth c Q A H locs ls hx hb hr hlk hml hta hown hin hE hQ hAe hA hK hP hD hS hl
  have hown : s.vm.findClass RX3 = some m.cls := hown
  have hl : lv_has ls 2 [(0, .ref o), (1, .int (nI i))] := hl
  refine lv_aload_n hx hb dX3_mask_0 rfl (lv_at hl 0 rfl) ?_
  refine lv_iconst (v := nI 2) hx hb dX3_mask_1 (by decide) ?_
  refine lv_iload_n hx hb dX3_mask_2 rfl (lv_at hl 1 rfl) ?_
  refine lv_bipush (v := nI 16) hx hb dX3_mask_3 (by decide) ?_
  refine lv_idiv hx hb dX3_mask_5 (by decide) (top_i (pk_div (by omega) (by decide) (by decide)) ?_)
  refine lv_iadd hx hb dX3_mask_6 (top_i (nI_add _ _) ?_)
  refine cf_0 (wr := []) (va_runV (As := [.int (nI (2 + (i / 16)))]) (rest := []) ⟨hx, hb, hml, hown, hta⟩ (MO.to (m_counter l dC dI o th ph og qx qk qw qb qn mh ml nc rs na qd nz qg t1 t2 kx kw kb kn sb w b z (2 + (i / 16)) s256 (by omega)) H.size) (cwV 1 hta (aw_V mw_589 mw_586 mw_588 mw_s30 mw_5) rfl rfl rfl ⟨rfl, dyX3_counter⟩ ⟨(Nat.le_of_ble_eq_true rfl), (Nat.le_of_ble_eq_true rfl)⟩) (pr_V hP hD hK hE [0, 1, 2, 3, 4] [0, 1, 2, 3] (by decide) rfl rfl rfl rfl) rfl rfl hl.1 rfl (lv_room (Nat.le_of_ble_eq_true rfl)) dX3_mask_7 ⟨(Nat.le_of_ble_eq_true rfl), (Nat.le_of_ble_eq_true rfl)⟩) hP hD hS hA [0, 1, 2, 3, 4] [] rfl rfl (by decide) (by decide) (fun H locs hP hD hS => ?_)
  have hP : va_P (dC, dI) vwCl [(o, .inr (3, [.int th, .int (nI ph), .int (zI og), .ref qx, .ref qk, .ref qw, .ref qb, .ref qn, .long mh, .long ml, .long nc, .int rs, .int (nI na), .ref qd, .int (nI nz), .ref qg, .long t1, .long t2])), (qx, .inl (kx, 256, .inl (nF sb))), (qw, .inl (kw, 44, .inl w)), (qb, .inl (kb, 16, .inl (nF (mkN sb w nc rs (2 + (i / 16)))))), (qn, .inl (kn, 16, .inl (nF (ssN sb (erN sb w (ldN nc (ctL rs (2 + (i / 16)))) 9)))))] H := hP
  have hD : va_D A [(o, .inr (3, [.int th, .int (nI ph), .int (zI og), .ref qx, .ref qk, .ref qw, .ref qb, .ref qn, .long mh, .long ml, .long nc, .int rs, .int (nI na), .ref qd, .int (nI nz), .ref qg, .long t1, .long t2])), (qx, .inl (kx, 256, .inl (nF sb))), (qw, .inl (kw, 44, .inl w)), (qb, .inl (kb, 16, .inl (nF (mkN sb w nc rs (2 + (i / 16)))))), (qn, .inl (kn, 16, .inl (nF (ssN sb (erN sb w (ldN nc (ctL rs (2 + (i / 16)))) 9)))))] := hD
  refine W.widen (k := 0) (n := 0) (Nat.le_of_ble_eq_true rfl) (Nat.le_of_ble_eq_true rfl) ?_
  refine w_pc (pc2 := 10) rfl ?_
  refine lv_aload_n hx hb dX3_mask_10 rfl (lv_at hl 0 rfl) ?_
  refine va_get (D := (dC, dI)) (ci := 3) (v := .ref qb) (C := RX3) (T := TX3) (N := 18) hx hb hta inX3 hown hK hP 0 rfl rfl 6 (by decide) (hta _ mw_463) (fun _ h9 => h9) rfl dX3_mask_11 ?_
  refine lv_iload_n hx hb dX3_mask_14 rfl (lv_at hl 1 rfl) ?_
  refine lv_bipush (v := nI 16) hx hb dX3_mask_15 (by decide) ?_
  refine lv_irem hx hb dX3_mask_17 (by decide) (top_i (pk_rem (by omega) (by decide) (by decide)) ?_)
  refine va_ialb hx hb hK hP 3 2 rfl rfl (Nat.mod_lt _ (by decide)) (by decide) dX3_mask_18 ?_
  exact rx_i (mkN sb w nc rs (2 + (i / 16)), ssN sb (erN sb w (ldN nc (ctL rs (2 + (i / 16)))) 9)) trivial hx hb hr hlk hQ hAe hK hP hD hS [0, 1, 2, 3, 4] [] (by decide) rfl rfl (Nat.le_of_ble_eq_true rfl) (Nat.le_of_ble_eq_true rfl) (rfl) dX3_mask_19

def rm_m_sealedByte : Room := { frames := 5, cells := 0, slots := 0, locals := 114 }
set_option maxHeartbeats 4000000 in
set_option maxRecDepth 100000 in
/-- sealedByte(i) -/
theorem m_sealedByte (l : Launch) (dC : Nat → ClassId) (dI : Nat → Nat → Nat) (o : Nat) (th : Int32) (ph : Nat) (og : Bool) (qx : Nat) (qk : Nat) (qw : Nat) (qb : Nat) (qn : Nat) (mh : Int64) (ml : Int64) (nc : Int64) (rs : Int32) (na : Nat) (qd : Nat) (nz : Nat) (qg : Nat) (t1 : Int64) (t2 : Int64) (kx : ClassId) (kw : ClassId) (kb : ClassId) (kn : ClassId) (kg : ClassId) (sb : Nat → Nat) (w : Nat → Int32) (b : Nat → Nat) (z : Nat → Nat) (gv : Nat → Nat) (i : Nat) (s256 : ∀ i, sb i < 256) (hi9 : i < 96) : MX l dC dI yX3_sealedByte wsX3_sealedByte rm_m_sealedByte [.ref o, .int (nI i)] [(o, .inr (3, [.int th, .int (nI ph), .int (zI og), .ref qx, .ref qk, .ref qw, .ref qb, .ref qn, .long mh, .long ml, .long nc, .int rs, .int (nI na), .ref qd, .int (nI nz), .ref qg, .long t1, .long t2])), (qx, .inl (kx, 256, .inl (nF sb))), (qw, .inl (kw, 44, .inl w)), (qb, .inl (kb, 16, .inl (nF b))), (qn, .inl (kn, 16, .inl (nF z))), (qg, .inl (kg, 96, .inl (nF gv)))] [(kx, .int), (kw, .int), (kb, .int), (kn, .int), (kg, .int)] (fun ((b1, z1) : (Nat → Nat) × (Nat → Nat)) => [(o, .inr (3, [.int th, .int (nI ph), .int (zI og), .ref qx, .ref qk, .ref qw, .ref qb, .ref qn, .long mh, .long ml, .long nc, .int rs, .int (nI na), .ref qd, .int (nI nz), .ref qg, .long t1, .long t2])), (qx, .inl (kx, 256, .inl (nF sb))), (qw, .inl (kw, 44, .inl w)), (qb, .inl (kb, 16, .inl (nF b1))), (qn, .inl (kn, 16, .inl (nF z1))), (qg, .inl (kg, 96, .inl (nF gv)))]) (fun ((b1, z1) : (Nat → Nat) × (Nat → Nat)) => []) (fun _ => True) (fun ((b1, z1) : (Nat → Nat) × (Nat → Nat)) => (some (.int (nI (syN og sb w nc rs gv i))))) := by
  refine mx_ofW (cc := cX3_sealedByte) (maxL := 2) (ret := (some .int)) (by decide) rfl (Nat.le_of_ble_eq_true rfl) ?_
  intro p e s m args below meth c Q A H locs ls hx hb hr hlk hml hta hown hin hE hQ hAe hA hK hP hD hS hl
  have hown : s.vm.findClass RX3 = some m.cls := hown
  have hl : lv_has ls 2 [(0, .ref o), (1, .int (nI i))] := hl
  refine lv_aload_n hx hb dX3_sealedByte_0 rfl (lv_at hl 0 rfl) ?_
  refine va_get (D := (dC, dI)) (ci := 3) (v := .int (zI og)) (C := RX3) (T := TX3) (N := 18) hx hb hta inX3 hown hK hP 0 rfl rfl 2 (by decide) (hta _ mw_459) (fun _ h9 => h9) rfl dX3_sealedByte_1 ?_
  refine lv_if_eq (tgt := 16) hx hb dX3_sealedByte_4 (by decide) (fun hc_4 => ?_) (fun hc_4 => ?_)
  · skip
    refine lv_aload_n hx hb dX3_sealedByte_16 rfl (lv_at hl 0 rfl) ?_
    refine va_get (D := (dC, dI)) (ci := 3) (v := .ref qg) (C := RX3) (T := TX3) (N := 18) hx hb hta inX3 hown hK hP 0 rfl rfl 15 (by decide) (hta _ mw_472) (fun _ h9 => h9) rfl dX3_sealedByte_17 ?_
    refine lv_iload_n hx hb dX3_sealedByte_20 rfl (lv_at hl 1 rfl) ?_
    refine va_ialb hx hb hK hP 5 4 rfl rfl (by omega) (by decide) dX3_sealedByte_21 ?_
    refine lv_aload_n hx hb dX3_sealedByte_22 rfl (lv_at hl 0 rfl) ?_
    refine lv_iload_n hx hb dX3_sealedByte_23 rfl (lv_at hl 1 rfl) ?_
    refine cx_1 (wr := [(qg, .inl (kg, 96, .inl (nF gv)))]) (va_runV (As := [.int (nI i)]) (rest := [.int (nI (gv i))]) ⟨hx, hb, hml, hown, hta⟩ (MX.to (m_mask l dC dI o th ph og qx qk qw qb qn mh ml nc rs na qd nz qg t1 t2 kx kw kb kn sb w b z i s256 hi9) H.size) (cwV 1 hta (aw_V mw_585 mw_582 mw_584 mw_s29 mw_5) rfl rfl rfl ⟨rfl, dyX3_mask⟩ ⟨(Nat.le_of_ble_eq_true rfl), (Nat.le_of_ble_eq_true rfl)⟩) (pr_V hP hD hK hE [0, 1, 2, 3, 4] [0, 1, 2, 3] (by decide) rfl rfl rfl rfl) rfl rfl hl.1 rfl (lv_room (Nat.le_of_ble_eq_true rfl)) dX3_sealedByte_24 ⟨(Nat.le_of_ble_eq_true rfl), (Nat.le_of_ble_eq_true rfl)⟩) hK hP hD hS hA [0, 1, 2, 3, 4] [5] rfl rfl (by decide) (by decide) (fun u9 H locs hphi_24 hK hP hD hS => ?_)
    obtain ⟨b1_1, z1_1⟩ := u9
    have hK : va_K (dC, dI) vwCl [(kx, .int), (kw, .int), (kb, .int), (kn, .int), (kg, .int)] s := hK
    have hP : va_P (dC, dI) vwCl [(qg, .inl (kg, 96, .inl (nF gv))), (o, .inr (3, [.int th, .int (nI ph), .int (zI og), .ref qx, .ref qk, .ref qw, .ref qb, .ref qn, .long mh, .long ml, .long nc, .int rs, .int (nI na), .ref qd, .int (nI nz), .ref qg, .long t1, .long t2])), (qx, .inl (kx, 256, .inl (nF sb))), (qw, .inl (kw, 44, .inl w)), (qb, .inl (kb, 16, .inl (nF b1_1))), (qn, .inl (kn, 16, .inl (nF z1_1)))] H := hP
    have hD : va_D A [(qg, .inl (kg, 96, .inl (nF gv))), (o, .inr (3, [.int th, .int (nI ph), .int (zI og), .ref qx, .ref qk, .ref qw, .ref qb, .ref qn, .long mh, .long ml, .long nc, .int rs, .int (nI na), .ref qd, .int (nI nz), .ref qg, .long t1, .long t2])), (qx, .inl (kx, 256, .inl (nF sb))), (qw, .inl (kw, 44, .inl w)), (qb, .inl (kb, 16, .inl (nF b1_1))), (qn, .inl (kn, 16, .inl (nF z1_1)))] := hD
    refine W.widen (k := 0) (n := 0) (Nat.le_of_ble_eq_true rfl) (Nat.le_of_ble_eq_true rfl) ?_
    refine w_pc (pc2 := 27) rfl ?_
    refine lv_ixor hx hb dX3_sealedByte_27 ?_
    refine top_i (y := nI ((gv i) ^^^ (mskN sb w nc rs i))) (n_xor _ _) ?_
    exact rx_i (b1_1, z1_1) trivial hx hb hr hlk hQ hAe hK hP hD hS [1, 2, 3, 4, 5, 0] [] (by decide) rfl rfl (Nat.le_of_ble_eq_true rfl) (Nat.le_of_ble_eq_true rfl) (by (try rw [zI0 (b := og) (by assumption)]); (try rw [zI1 (b := og) (by assumption)]); rfl) dX3_sealedByte_28
  · skip
    refine lv_aload_n hx hb dX3_sealedByte_7 rfl (lv_at hl 0 rfl) ?_
    refine va_get (D := (dC, dI)) (ci := 3) (v := .ref qg) (C := RX3) (T := TX3) (N := 18) hx hb hta inX3 hown hK hP 0 rfl rfl 15 (by decide) (hta _ mw_472) (fun _ h9 => h9) rfl dX3_sealedByte_8 ?_
    refine lv_iload_n hx hb dX3_sealedByte_11 rfl (lv_at hl 1 rfl) ?_
    refine va_ialb hx hb hK hP 5 4 rfl rfl (by omega) (by decide) dX3_sealedByte_12 ?_
    refine lv_goto (tgt := 28) hx hb dX3_sealedByte_13 (by decide) ?_
    exact rx_i (b, z) trivial hx hb hr hlk hQ hAe hK hP hD hS [0, 1, 2, 3, 4, 5] [] (by decide) rfl rfl (Nat.le_of_ble_eq_true rfl) (Nat.le_of_ble_eq_true rfl) (by (try rw [zI0 (b := og) (by assumption)]); (try rw [zI1 (b := og) (by assumption)]); rfl) dX3_sealedByte_28

def rm_m_isUnderWay : Room := { frames := 0, cells := 0, slots := 0, locals := 0 }
set_option maxHeartbeats 4000000 in
set_option maxRecDepth 100000 in
/-- isUnderWay() -/
theorem m_isUnderWay (l : Launch) (dC : Nat → ClassId) (dI : Nat → Nat → Nat) (o : Nat) (th : Int32) (ph : Nat) (og : Bool) (qx : Nat) (qk : Nat) (qw : Nat) (qb : Nat) (qn : Nat) (mh : Int64) (ml : Int64) (nc : Int64) (rs : Int32) (na : Nat) (qd : Nat) (nz : Nat) (qg : Nat) (t1 : Int64) (t2 : Int64) (hph : ph < 6) : MO l dC dI yX3_isUnderWay wsX3_isUnderWay rm_m_isUnderWay [.ref o] [(o, .inr (3, [.int th, .int (nI ph), .int (zI og), .ref qx, .ref qk, .ref qw, .ref qb, .ref qn, .long mh, .long ml, .long nc, .int rs, .int (nI na), .ref qd, .int (nI nz), .ref qg, .long t1, .long t2]))] [] [(o, .inr (3, [.int th, .int (nI ph), .int (zI og), .ref qx, .ref qk, .ref qw, .ref qb, .ref qn, .long mh, .long ml, .long nc, .int rs, .int (nI na), .ref qd, .int (nI nz), .ref qg, .long t1, .long t2]))] (some (.int (zI (uwN ph)))) := by
  refine mo_ofW (cc := cX3_isUnderWay) (maxL := 1) (ret := (some .boolean)) (by decide) rfl (Nat.le_of_ble_eq_true rfl) ?_
  intro p e s m args below meth c Q A H locs ls hx hb hr hlk hml hta hown hin hE hQ hAe hA hK hP hD hS hl
  have hown : s.vm.findClass RX3 = some m.cls := hown
  have hl : lv_has ls 1 [(0, .ref o)] := hl
  refine lv_aload_n hx hb dX3_isUnderWay_0 rfl (lv_at hl 0 rfl) ?_
  refine va_get (D := (dC, dI)) (ci := 3) (v := .int (nI ph)) (C := RX3) (T := TX3) (N := 18) hx hb hta inX3 hown hK hP 0 rfl rfl 1 (by decide) (hta _ mw_458) (fun _ h9 => h9) rfl dX3_isUnderWay_1 ?_
  refine lv_iconst (v := nI 1) hx hb dX3_isUnderWay_4 (by decide) ?_
  refine lv_icmp_eq (tgt := 16) hx hb dX3_isUnderWay_5 (by decide) (fun hc_5 => ?_) (fun hc_5 => ?_)
  · skip
    have hc_5 := (ix_eq (a := ph) (b := 1) (by omega) (by omega)).mp hc_5
    have hc_5 : (ph = 1) := hc_5
    refine lv_iconst (v := nI 1) hx hb dX3_isUnderWay_16 (by decide) ?_
    refine lv_goto (tgt := 21) hx hb dX3_isUnderWay_17 (by decide) ?_
    exact rt_z hx hb hr hlk hQ hAe hP hD hS [0] (by decide) rfl (Nat.le_of_ble_eq_true rfl) (Nat.le_of_ble_eq_true rfl) (by first | (rw [show uwN ph = true from decide_eq_true (by omega)]; rfl) | (rw [show uwN ph = false from decide_eq_false (by omega)]; rfl)) (zI_n (uwN ph)) dX3_isUnderWay_21
  · skip
    have hc_5 := (not_congr (ix_eq (a := ph) (b := 1) (by omega) (by omega))).mp hc_5
    have hc_5 : ¬ (ph = 1) := hc_5
    refine lv_aload_n hx hb dX3_isUnderWay_8 rfl (lv_at hl 0 rfl) ?_
    refine va_get (D := (dC, dI)) (ci := 3) (v := .int (nI ph)) (C := RX3) (T := TX3) (N := 18) hx hb hta inX3 hown hK hP 0 rfl rfl 1 (by decide) (hta _ mw_458) (fun _ h9 => h9) rfl dX3_isUnderWay_9 ?_
    refine lv_iconst (v := nI 2) hx hb dX3_isUnderWay_12 (by decide) ?_
    refine lv_icmp_ne (tgt := 20) hx hb dX3_isUnderWay_13 (by decide) (fun hc_13 => ?_) (fun hc_13 => ?_)
    · skip
      have hc_13 := (not_congr (ix_eq (a := ph) (b := 2) (by omega) (by omega))).mp hc_13
      have hc_13 : ¬ (ph = 2) := hc_13
      refine lv_iconst (v := nI 0) hx hb dX3_isUnderWay_20 (by decide) ?_
      exact rt_z hx hb hr hlk hQ hAe hP hD hS [0] (by decide) rfl (Nat.le_of_ble_eq_true rfl) (Nat.le_of_ble_eq_true rfl) (by first | (rw [show uwN ph = true from decide_eq_true (by omega)]; rfl) | (rw [show uwN ph = false from decide_eq_false (by omega)]; rfl)) (zI_n (uwN ph)) dX3_isUnderWay_21
    · skip
      have hc_13 := (ix_eq (a := ph) (b := 2) (by omega) (by omega)).mp hc_13
      have hc_13 : (ph = 2) := hc_13
      refine lv_iconst (v := nI 1) hx hb dX3_isUnderWay_16 (by decide) ?_
      refine lv_goto (tgt := 21) hx hb dX3_isUnderWay_17 (by decide) ?_
      exact rt_z hx hb hr hlk hQ hAe hP hD hS [0] (by decide) rfl (Nat.le_of_ble_eq_true rfl) (Nat.le_of_ble_eq_true rfl) (by first | (rw [show uwN ph = true from decide_eq_true (by omega)]; rfl) | (rw [show uwN ph = false from decide_eq_false (by omega)]; rfl)) (zI_n (uwN ph)) dX3_isUnderWay_21

def rm_c_tag_y : Room := { frames := 0, cells := 0, slots := 0, locals := 0 }
set_option maxHeartbeats 4000000 in
set_option maxRecDepth 100000 in
/-- tag -/
theorem c_tag_y (l : Launch) (dC : Nat → ClassId) (dI : Nat → Nat → Nat) (x : Nat) (qc : Nat) (qg : Nat) (qa : Nat) (qt : Nat) (qm : Nat) (ph : Nat) (og : Bool) (nh : Int64) (nr : Int32) (na : Nat) (nt : Nat) (mb : Int32) (t1 : Int64) (t2 : Int64) (ot : Bool) (hph : ph = 3) : MO l dC dI yX2_tag wsX2_tag rm_c_tag_y [.ref x, .int (zI ot)] [(x, .inr (2, [.ref qc, .ref qg, .ref qa, .ref qt, .ref qm, .int (nI ph), .int (zI og), .long nh, .int nr, .int (nI na), .int (nI nt), .int mb, .long t1, .long t2]))] [] [(x, .inr (2, [.ref qc, .ref qg, .ref qa, .ref qt, .ref qm, .int (nI ph), .int (zI og), .long nh, .int nr, .int (nI na), .int (nI nt), .int mb, .long t1, .long t2]))] (some (.long (if ot then t2 else t1))) := by
  refine mo_ofW (cc := cX2_tag) (maxL := 2) (ret := (some .long)) (by decide) rfl (Nat.le_of_ble_eq_true rfl) ?_
  intro p e s m args below meth c Q A H locs ls hx hb hr hlk hml hta hown hin hE hQ hAe hA hK hP hD hS hl
  have hown : s.vm.findClass RX2 = some m.cls := hown
  have hl : lv_has ls 2 [(0, .ref x), (1, .int (zI ot))] := hl
  refine lv_aload_n hx hb dX2_tag_0 rfl (lv_at hl 0 rfl) ?_
  refine va_get (D := (dC, dI)) (ci := 2) (v := .int (nI ph)) (C := RX2) (T := TX2) (N := 14) hx hb hta inX2 hown hK hP 0 rfl rfl 5 (by decide) (hta _ mw_85) (fun _ h9 => h9) rfl dX2_tag_1 ?_
  refine lv_iconst (v := nI 3) hx hb dX2_tag_4 (by decide) ?_
  refine lv_icmp_eq (tgt := 16) hx hb dX2_tag_5 (by decide) (fun hc_5 => ?_) (fun hc_5 => ?_)
  · skip
    have hc_5 := (ix_eq (a := ph) (b := 3) (by omega) (by omega)).mp hc_5
    have hc_5 : (ph = 3) := hc_5
    refine lv_iload_n hx hb dX2_tag_16 rfl (lv_at hl 1 rfl) ?_
    refine lv_if_eq (tgt := 27) hx hb dX2_tag_17 (by decide) (fun hc_17 => ?_) (fun hc_17 => ?_)
    · skip
      refine lv_aload_n hx hb dX2_tag_27 rfl (lv_at hl 0 rfl) ?_
      refine va_get (D := (dC, dI)) (ci := 2) (v := .long t1) (C := RX2) (T := TX2) (N := 14) hx hb hta inX2 hown hK hP 0 rfl rfl 12 (by decide) (hta _ mw_92) (fun _ h9 => h9) rfl dX2_tag_28 ?_
      exact rt_l hx hb hr hlk hQ hAe hP hD hS [0] (by decide) rfl (Nat.le_of_ble_eq_true rfl) (Nat.le_of_ble_eq_true rfl) (by first | (rw [zI0 (b := ot) (by assumption)]; rfl) | (rw [zI1 (b := ot) (by assumption)]; rfl)) dX2_tag_31
    · skip
      refine lv_aload_n hx hb dX2_tag_20 rfl (lv_at hl 0 rfl) ?_
      refine va_get (D := (dC, dI)) (ci := 2) (v := .long t2) (C := RX2) (T := TX2) (N := 14) hx hb hta inX2 hown hK hP 0 rfl rfl 13 (by decide) (hta _ mw_93) (fun _ h9 => h9) rfl dX2_tag_21 ?_
      refine lv_goto (tgt := 31) hx hb dX2_tag_24 (by decide) ?_
      exact rt_l hx hb hr hlk hQ hAe hP hD hS [0] (by decide) rfl (Nat.le_of_ble_eq_true rfl) (Nat.le_of_ble_eq_true rfl) (by first | (rw [zI0 (b := ot) (by assumption)]; rfl) | (rw [zI1 (b := ot) (by assumption)]; rfl)) dX2_tag_31
  · skip
    have hc_5 := (not_congr (ix_eq (a := ph) (b := 3) (by omega) (by omega))).mp hc_5
    have hc_5 : ¬ (ph = 3) := hc_5
    exfalso; omega

def rm_c_at_y : Room := { frames := 1, cells := 0, slots := 0, locals := 20 }
set_option maxHeartbeats 4000000 in
set_option maxRecDepth 100000 in
/-- at(j) -/
theorem c_at_y (l : Launch) (dC : Nat → ClassId) (dI : Nat → Nat → Nat) (x : Nat) (qc : Nat) (qg : Nat) (qa : Nat) (qt : Nat) (qm : Nat) (ph : Nat) (og : Bool) (nh : Int64) (nr : Int32) (na : Nat) (nt : Nat) (mb : Int32) (t1 : Int64) (t2 : Int64) (kt : ClassId) (tb : Nat → Nat) (j : Nat) (hph6 : ph < 6) (hrd : rdbN ph og = true) (hj : j < nt) (hnt : nt ≤ 96) : MO l dC dI yX2_at wsX2_at rm_c_at_y [.ref x, .int (nI j)] [(x, .inr (2, [.ref qc, .ref qg, .ref qa, .ref qt, .ref qm, .int (nI ph), .int (zI og), .long nh, .int nr, .int (nI na), .int (nI nt), .int mb, .long t1, .long t2])), (qt, .inl (kt, 96, .inl (nF tb)))] [(kt, .int)] [(x, .inr (2, [.ref qc, .ref qg, .ref qa, .ref qt, .ref qm, .int (nI ph), .int (zI og), .long nh, .int nr, .int (nI na), .int (nI nt), .int mb, .long t1, .long t2])), (qt, .inl (kt, 96, .inl (nF tb)))] (some (.int (nI (tb j)))) := by
  refine mo_ofW (cc := cX2_at) (maxL := 2) (ret := (some .int)) (by decide) rfl (Nat.le_of_ble_eq_true rfl) ?_
  intro p e s m args below meth c Q A H locs ls hx hb hr hlk hml hta hown hin hE hQ hAe hA hK hP hD hS hl
  have hown : s.vm.findClass RX2 = some m.cls := hown
  have hl : lv_has ls 2 [(0, .ref x), (1, .int (nI j))] := hl
  refine lv_aload_n hx hb dX2_at_0 rfl (lv_at hl 0 rfl) ?_
  refine cf_1 (wr := [(qt, .inl (kt, 96, .inl (nF tb)))]) (va_runV (As := []) (rest := []) ⟨hx, hb, hml, hown, hta⟩ (MO.to (c_isReadable l dC dI x qc qg qa qt qm ph og nh nr na nt mb t1 t2 hph6) H.size) (cwV 0 hta (aw_V mw_225 mw_222 mw_224 mw_s9 mw_1) rfl rfl rfl ⟨rfl, dyX2_isReadable⟩ ⟨(Nat.le_of_ble_eq_true rfl), (Nat.le_of_ble_eq_true rfl)⟩) (pr_V hP hD hK hE [0] [] (by decide) rfl rfl rfl rfl) rfl rfl hl.1 rfl (lv_room (Nat.le_of_ble_eq_true rfl)) dX2_at_1 ⟨(Nat.le_of_ble_eq_true rfl), (Nat.le_of_ble_eq_true rfl)⟩) hP hD hS hA [0] [1] rfl rfl (by decide) (by decide) (fun H locs hP hD hS => ?_)
  have hP : va_P (dC, dI) vwCl [(qt, .inl (kt, 96, .inl (nF tb))), (x, .inr (2, [.ref qc, .ref qg, .ref qa, .ref qt, .ref qm, .int (nI ph), .int (zI og), .long nh, .int nr, .int (nI na), .int (nI nt), .int mb, .long t1, .long t2]))] H := hP
  have hD : va_D A [(qt, .inl (kt, 96, .inl (nF tb))), (x, .inr (2, [.ref qc, .ref qg, .ref qa, .ref qt, .ref qm, .int (nI ph), .int (zI og), .long nh, .int nr, .int (nI na), .int (nI nt), .int mb, .long t1, .long t2]))] := hD
  refine W.widen (k := 0) (n := 0) (Nat.le_of_ble_eq_true rfl) (Nat.le_of_ble_eq_true rfl) ?_
  refine w_pc (pc2 := 4) rfl ?_
  refine lv_if_eq (tgt := 28) hx hb dX2_at_4 (by decide) (fun hc_4 => ?_) (fun hc_4 => ?_)
  · skip
    exact absurd (zI0 (b := rdbN ph og) hc_4) (by rw [hrd]; decide)
  · skip
    refine lv_iload_n hx hb dX2_at_7 rfl (lv_at hl 1 rfl) ?_
    refine lv_if_lt (tgt := 28) hx hb dX2_at_8 (by decide) (fun hc_8 => ?_) (fun hc_8 => ?_)
    · skip
      have hc_8 := (ix_lt (a := j) (b := 0) (by omega) (by omega)).mp hc_8
      have hc_8 : (j < 0) := hc_8
      exfalso; omega
    · skip
      have hc_8 := (not_congr (ix_lt (a := j) (b := 0) (by omega) (by omega))).mp hc_8
      have hc_8 : ¬ (j < 0) := hc_8
      refine lv_iload_n hx hb dX2_at_11 rfl (lv_at hl 1 rfl) ?_
      refine lv_aload_n hx hb dX2_at_12 rfl (lv_at hl 0 rfl) ?_
      refine va_get (D := (dC, dI)) (ci := 2) (v := .int (nI nt)) (C := RX2) (T := TX2) (N := 14) hx hb hta inX2 hown hK hP 1 rfl rfl 10 (by decide) (hta _ mw_90) (fun _ h9 => h9) rfl dX2_at_13 ?_
      refine lv_icmp_ge (tgt := 28) hx hb dX2_at_16 (by decide) (fun hc_16 => ?_) (fun hc_16 => ?_)
      · skip
        have hc_16 := (ix_le (a := nt) (b := j) (by omega) (by omega)).mp hc_16
        have hc_16 : (nt ≤ j) := hc_16
        exfalso; omega
      · skip
        have hc_16 := (not_congr (ix_le (a := nt) (b := j) (by omega) (by omega))).mp hc_16
        have hc_16 : ¬ (nt ≤ j) := hc_16
        refine lv_aload_n hx hb dX2_at_19 rfl (lv_at hl 0 rfl) ?_
        refine va_get (D := (dC, dI)) (ci := 2) (v := .ref qt) (C := RX2) (T := TX2) (N := 14) hx hb hta inX2 hown hK hP 1 rfl rfl 3 (by decide) (hta _ mw_83) (fun _ h9 => h9) rfl dX2_at_20 ?_
        refine lv_iload_n hx hb dX2_at_23 rfl (lv_at hl 1 rfl) ?_
        refine va_ialb hx hb hK hP 0 0 rfl rfl (by omega) (by decide) dX2_at_24 ?_
        refine lv_goto (tgt := 29) hx hb dX2_at_25 (by decide) ?_
        exact rt_i hx hb hr hlk hQ hAe hP hD hS [1, 0] (by decide) rfl (Nat.le_of_ble_eq_true rfl) (Nat.le_of_ble_eq_true rfl) (rfl) dX2_at_29

def rm_c_at_n : Room := { frames := 1, cells := 0, slots := 0, locals := 20 }
set_option maxHeartbeats 4000000 in
set_option maxRecDepth 100000 in
/-- at, where nothing is shown -/
theorem c_at_n (l : Launch) (dC : Nat → ClassId) (dI : Nat → Nat → Nat) (x : Nat) (qc : Nat) (qg : Nat) (qa : Nat) (qt : Nat) (qm : Nat) (ph : Nat) (og : Bool) (nh : Int64) (nr : Int32) (na : Nat) (nt : Nat) (mb : Int32) (t1 : Int64) (t2 : Int64) (v : Int32) (hph6 : ph < 6) (hno : rdbN ph og = false ∨ v < 0 ∨ nI nt ≤ v) : MO l dC dI yX2_at wsX2_at rm_c_at_n [.ref x, .int v] [(x, .inr (2, [.ref qc, .ref qg, .ref qa, .ref qt, .ref qm, .int (nI ph), .int (zI og), .long nh, .int nr, .int (nI na), .int (nI nt), .int mb, .long t1, .long t2]))] [] [(x, .inr (2, [.ref qc, .ref qg, .ref qa, .ref qt, .ref qm, .int (nI ph), .int (zI og), .long nh, .int nr, .int (nI na), .int (nI nt), .int mb, .long t1, .long t2]))] (some (.int (-1 : Int32))) := by
  refine mo_ofW (cc := cX2_at) (maxL := 2) (ret := (some .int)) (by decide) rfl (Nat.le_of_ble_eq_true rfl) ?_
  intro p e s m args below meth c Q A H locs ls hx hb hr hlk hml hta hown hin hE hQ hAe hA hK hP hD hS hl
  have hown : s.vm.findClass RX2 = some m.cls := hown
  have hl : lv_has ls 2 [(0, .ref x), (1, .int v)] := hl
  refine lv_aload_n hx hb dX2_at_0 rfl (lv_at hl 0 rfl) ?_
  refine cf_1 (wr := []) (va_runV (As := []) (rest := []) ⟨hx, hb, hml, hown, hta⟩ (MO.to (c_isReadable l dC dI x qc qg qa qt qm ph og nh nr na nt mb t1 t2 hph6) H.size) (cwV 0 hta (aw_V mw_225 mw_222 mw_224 mw_s9 mw_1) rfl rfl rfl ⟨rfl, dyX2_isReadable⟩ ⟨(Nat.le_of_ble_eq_true rfl), (Nat.le_of_ble_eq_true rfl)⟩) (pr_V hP hD hK hE [0] [] (by decide) rfl rfl rfl rfl) rfl rfl hl.1 rfl (lv_room (Nat.le_of_ble_eq_true rfl)) dX2_at_1 ⟨(Nat.le_of_ble_eq_true rfl), (Nat.le_of_ble_eq_true rfl)⟩) hP hD hS hA [0] [] rfl rfl (by decide) (by decide) (fun H locs hP hD hS => ?_)
  have hP : va_P (dC, dI) vwCl [(x, .inr (2, [.ref qc, .ref qg, .ref qa, .ref qt, .ref qm, .int (nI ph), .int (zI og), .long nh, .int nr, .int (nI na), .int (nI nt), .int mb, .long t1, .long t2]))] H := hP
  have hD : va_D A [(x, .inr (2, [.ref qc, .ref qg, .ref qa, .ref qt, .ref qm, .int (nI ph), .int (zI og), .long nh, .int nr, .int (nI na), .int (nI nt), .int mb, .long t1, .long t2]))] := hD
  refine W.widen (k := 0) (n := 0) (Nat.le_of_ble_eq_true rfl) (Nat.le_of_ble_eq_true rfl) ?_
  refine w_pc (pc2 := 4) rfl ?_
  refine lv_if_eq (tgt := 28) hx hb dX2_at_4 (by decide) (fun hc_4 => ?_) (fun hc_4 => ?_)
  · skip
    refine lv_iconst (v := (-1 : Int32)) hx hb dX2_at_28 (by decide) ?_
    exact rt_i hx hb hr hlk hQ hAe hP hD hS [0] (by decide) rfl (Nat.le_of_ble_eq_true rfl) (Nat.le_of_ble_eq_true rfl) (rfl) dX2_at_29
  · skip
    refine lv_iload_n hx hb dX2_at_7 rfl (lv_at hl 1 rfl) ?_
    refine lv_if_lt (tgt := 28) hx hb dX2_at_8 (by decide) (fun hc_8 => ?_) (fun hc_8 => ?_)
    · skip
      refine lv_iconst (v := (-1 : Int32)) hx hb dX2_at_28 (by decide) ?_
      exact rt_i hx hb hr hlk hQ hAe hP hD hS [0] (by decide) rfl (Nat.le_of_ble_eq_true rfl) (Nat.le_of_ble_eq_true rfl) (rfl) dX2_at_29
    · skip
      refine lv_iload_n hx hb dX2_at_11 rfl (lv_at hl 1 rfl) ?_
      refine lv_aload_n hx hb dX2_at_12 rfl (lv_at hl 0 rfl) ?_
      refine va_get (D := (dC, dI)) (ci := 2) (v := .int (nI nt)) (C := RX2) (T := TX2) (N := 14) hx hb hta inX2 hown hK hP 0 rfl rfl 10 (by decide) (hta _ mw_90) (fun _ h9 => h9) rfl dX2_at_13 ?_
      refine lv_icmp_ge (tgt := 28) hx hb dX2_at_16 (by decide) (fun hc_16 => ?_) (fun hc_16 => ?_)
      · skip
        refine lv_iconst (v := (-1 : Int32)) hx hb dX2_at_28 (by decide) ?_
        exact rt_i hx hb hr hlk hQ hAe hP hD hS [0] (by decide) rfl (Nat.le_of_ble_eq_true rfl) (Nat.le_of_ble_eq_true rfl) (rfl) dX2_at_29
      · skip
        rcases hno with h9 | h9 | h9
        · exact absurd h9 (by rw [zI1 (b := rdbN ph og) hc_4]; decide)
        · exact absurd h9 (by assumption)
        · exact absurd h9 (by assumption)

def rm_c_isUnderWay : Room := { frames := 0, cells := 0, slots := 0, locals := 0 }
set_option maxHeartbeats 4000000 in
set_option maxRecDepth 100000 in
/-- isUnderWay() -/
theorem c_isUnderWay (l : Launch) (dC : Nat → ClassId) (dI : Nat → Nat → Nat) (x : Nat) (qc : Nat) (qg : Nat) (qa : Nat) (qt : Nat) (qm : Nat) (ph : Nat) (og : Bool) (nh : Int64) (nr : Int32) (na : Nat) (nt : Nat) (mb : Int32) (t1 : Int64) (t2 : Int64) (hph6 : ph < 6) : MO l dC dI yX2_isUnderWay wsX2_isUnderWay rm_c_isUnderWay [.ref x] [(x, .inr (2, [.ref qc, .ref qg, .ref qa, .ref qt, .ref qm, .int (nI ph), .int (zI og), .long nh, .int nr, .int (nI na), .int (nI nt), .int mb, .long t1, .long t2]))] [] [(x, .inr (2, [.ref qc, .ref qg, .ref qa, .ref qt, .ref qm, .int (nI ph), .int (zI og), .long nh, .int nr, .int (nI na), .int (nI nt), .int mb, .long t1, .long t2]))] (some (.int (zI (uwN ph)))) := by
  refine mo_ofW (cc := cX2_isUnderWay) (maxL := 1) (ret := (some .boolean)) (by decide) rfl (Nat.le_of_ble_eq_true rfl) ?_
  intro p e s m args below meth c Q A H locs ls hx hb hr hlk hml hta hown hin hE hQ hAe hA hK hP hD hS hl
  have hown : s.vm.findClass RX2 = some m.cls := hown
  have hl : lv_has ls 1 [(0, .ref x)] := hl
  refine lv_aload_n hx hb dX2_isUnderWay_0 rfl (lv_at hl 0 rfl) ?_
  refine va_get (D := (dC, dI)) (ci := 2) (v := .int (nI ph)) (C := RX2) (T := TX2) (N := 14) hx hb hta inX2 hown hK hP 0 rfl rfl 5 (by decide) (hta _ mw_85) (fun _ h9 => h9) rfl dX2_isUnderWay_1 ?_
  refine lv_iconst (v := nI 1) hx hb dX2_isUnderWay_4 (by decide) ?_
  refine lv_icmp_eq (tgt := 16) hx hb dX2_isUnderWay_5 (by decide) (fun hc_5 => ?_) (fun hc_5 => ?_)
  · skip
    have hc_5 := (ix_eq (a := ph) (b := 1) (by omega) (by omega)).mp hc_5
    have hc_5 : (ph = 1) := hc_5
    refine lv_iconst (v := nI 1) hx hb dX2_isUnderWay_16 (by decide) ?_
    refine lv_goto (tgt := 21) hx hb dX2_isUnderWay_17 (by decide) ?_
    exact rt_z hx hb hr hlk hQ hAe hP hD hS [0] (by decide) rfl (Nat.le_of_ble_eq_true rfl) (Nat.le_of_ble_eq_true rfl) (by first | (rw [show uwN ph = true from decide_eq_true (by omega)]; rfl) | (rw [show uwN ph = false from decide_eq_false (by omega)]; rfl)) (zI_n (uwN ph)) dX2_isUnderWay_21
  · skip
    have hc_5 := (not_congr (ix_eq (a := ph) (b := 1) (by omega) (by omega))).mp hc_5
    have hc_5 : ¬ (ph = 1) := hc_5
    refine lv_aload_n hx hb dX2_isUnderWay_8 rfl (lv_at hl 0 rfl) ?_
    refine va_get (D := (dC, dI)) (ci := 2) (v := .int (nI ph)) (C := RX2) (T := TX2) (N := 14) hx hb hta inX2 hown hK hP 0 rfl rfl 5 (by decide) (hta _ mw_85) (fun _ h9 => h9) rfl dX2_isUnderWay_9 ?_
    refine lv_iconst (v := nI 2) hx hb dX2_isUnderWay_12 (by decide) ?_
    refine lv_icmp_ne (tgt := 20) hx hb dX2_isUnderWay_13 (by decide) (fun hc_13 => ?_) (fun hc_13 => ?_)
    · skip
      have hc_13 := (not_congr (ix_eq (a := ph) (b := 2) (by omega) (by omega))).mp hc_13
      have hc_13 : ¬ (ph = 2) := hc_13
      refine lv_iconst (v := nI 0) hx hb dX2_isUnderWay_20 (by decide) ?_
      exact rt_z hx hb hr hlk hQ hAe hP hD hS [0] (by decide) rfl (Nat.le_of_ble_eq_true rfl) (Nat.le_of_ble_eq_true rfl) (by first | (rw [show uwN ph = true from decide_eq_true (by omega)]; rfl) | (rw [show uwN ph = false from decide_eq_false (by omega)]; rfl)) (zI_n (uwN ph)) dX2_isUnderWay_21
    · skip
      have hc_13 := (ix_eq (a := ph) (b := 2) (by omega) (by omega)).mp hc_13
      have hc_13 : (ph = 2) := hc_13
      refine lv_iconst (v := nI 1) hx hb dX2_isUnderWay_16 (by decide) ?_
      refine lv_goto (tgt := 21) hx hb dX2_isUnderWay_17 (by decide) ?_
      exact rt_z hx hb hr hlk hQ hAe hP hD hS [0] (by decide) rfl (Nat.le_of_ble_eq_true rfl) (Nat.le_of_ble_eq_true rfl) (by first | (rw [show uwN ph = true from decide_eq_true (by omega)]; rfl) | (rw [show uwN ph = false from decide_eq_false (by omega)]; rfl)) (zI_n (uwN ph)) dX2_isUnderWay_21

def rm_c_isReadable : Room := { frames := 0, cells := 0, slots := 0, locals := 0 }
set_option maxHeartbeats 4000000 in
set_option maxRecDepth 100000 in
/-- isReadable() -/
theorem c_isReadable (l : Launch) (dC : Nat → ClassId) (dI : Nat → Nat → Nat) (x : Nat) (qc : Nat) (qg : Nat) (qa : Nat) (qt : Nat) (qm : Nat) (ph : Nat) (og : Bool) (nh : Int64) (nr : Int32) (na : Nat) (nt : Nat) (mb : Int32) (t1 : Int64) (t2 : Int64) (hph6 : ph < 6) : MO l dC dI yX2_isReadable wsX2_isReadable rm_c_isReadable [.ref x] [(x, .inr (2, [.ref qc, .ref qg, .ref qa, .ref qt, .ref qm, .int (nI ph), .int (zI og), .long nh, .int nr, .int (nI na), .int (nI nt), .int mb, .long t1, .long t2]))] [] [(x, .inr (2, [.ref qc, .ref qg, .ref qa, .ref qt, .ref qm, .int (nI ph), .int (zI og), .long nh, .int nr, .int (nI na), .int (nI nt), .int mb, .long t1, .long t2]))] (some (.int (zI (rdbN ph og)))) := by
  refine mo_ofW (cc := cX2_isReadable) (maxL := 1) (ret := (some .boolean)) (by decide) rfl (Nat.le_of_ble_eq_true rfl) ?_
  intro p e s m args below meth c Q A H locs ls hx hb hr hlk hml hta hown hin hE hQ hAe hA hK hP hD hS hl
  have hown : s.vm.findClass RX2 = some m.cls := hown
  have hl : lv_has ls 1 [(0, .ref x)] := hl
  refine lv_aload_n hx hb dX2_isReadable_0 rfl (lv_at hl 0 rfl) ?_
  refine va_get (D := (dC, dI)) (ci := 2) (v := .int (nI ph)) (C := RX2) (T := TX2) (N := 14) hx hb hta inX2 hown hK hP 0 rfl rfl 5 (by decide) (hta _ mw_85) (fun _ h9 => h9) rfl dX2_isReadable_1 ?_
  refine lv_iconst (v := nI 4) hx hb dX2_isReadable_4 (by decide) ?_
  refine lv_icmp_eq (tgt := 22) hx hb dX2_isReadable_5 (by decide) (fun hc_5 => ?_) (fun hc_5 => ?_)
  · skip
    have hc_5 := (ix_eq (a := ph) (b := 4) (by omega) (by omega)).mp hc_5
    have hc_5 : (ph = 4) := hc_5
    refine lv_iconst (v := nI 1) hx hb dX2_isReadable_22 (by decide) ?_
    refine lv_goto (tgt := 27) hx hb dX2_isReadable_23 (by decide) ?_
    exact rt_z hx hb hr hlk hQ hAe hP hD hS [0] (by decide) rfl (Nat.le_of_ble_eq_true rfl) (Nat.le_of_ble_eq_true rfl) (by first | (rw [rdb_4 (by omega)]; rfl) | (rw [rdb_0 (by omega)]; rfl) | (rw [rdb_o (by omega) (by omega), zI0 (b := og) (by assumption)]; rfl) | (rw [rdb_o (by omega) (by omega), zI1 (b := og) (by assumption)]; rfl)) (zI_n (rdbN ph og)) dX2_isReadable_27
  · skip
    have hc_5 := (not_congr (ix_eq (a := ph) (b := 4) (by omega) (by omega))).mp hc_5
    have hc_5 : ¬ (ph = 4) := hc_5
    refine lv_aload_n hx hb dX2_isReadable_8 rfl (lv_at hl 0 rfl) ?_
    refine va_get (D := (dC, dI)) (ci := 2) (v := .int (nI ph)) (C := RX2) (T := TX2) (N := 14) hx hb hta inX2 hown hK hP 0 rfl rfl 5 (by decide) (hta _ mw_85) (fun _ h9 => h9) rfl dX2_isReadable_9 ?_
    refine lv_if_eq (tgt := 26) hx hb dX2_isReadable_12 (by decide) (fun hc_12 => ?_) (fun hc_12 => ?_)
    · skip
      have hc_12 := (ix_eq (a := ph) (b := 0) (by omega) (by omega)).mp hc_12
      have hc_12 : (ph = 0) := hc_12
      refine lv_iconst (v := nI 0) hx hb dX2_isReadable_26 (by decide) ?_
      exact rt_z hx hb hr hlk hQ hAe hP hD hS [0] (by decide) rfl (Nat.le_of_ble_eq_true rfl) (Nat.le_of_ble_eq_true rfl) (by first | (rw [rdb_4 (by omega)]; rfl) | (rw [rdb_0 (by omega)]; rfl) | (rw [rdb_o (by omega) (by omega), zI0 (b := og) (by assumption)]; rfl) | (rw [rdb_o (by omega) (by omega), zI1 (b := og) (by assumption)]; rfl)) (zI_n (rdbN ph og)) dX2_isReadable_27
    · skip
      have hc_12 := (not_congr (ix_eq (a := ph) (b := 0) (by omega) (by omega))).mp hc_12
      have hc_12 : ¬ (ph = 0) := hc_12
      refine lv_aload_n hx hb dX2_isReadable_15 rfl (lv_at hl 0 rfl) ?_
      refine va_get (D := (dC, dI)) (ci := 2) (v := .int (zI og)) (C := RX2) (T := TX2) (N := 14) hx hb hta inX2 hown hK hP 0 rfl rfl 6 (by decide) (hta _ mw_86) (fun _ h9 => h9) rfl dX2_isReadable_16 ?_
      refine lv_if_ne (tgt := 26) hx hb dX2_isReadable_19 (by decide) (fun hc_19 => ?_) (fun hc_19 => ?_)
      · skip
        refine lv_iconst (v := nI 0) hx hb dX2_isReadable_26 (by decide) ?_
        exact rt_z hx hb hr hlk hQ hAe hP hD hS [0] (by decide) rfl (Nat.le_of_ble_eq_true rfl) (Nat.le_of_ble_eq_true rfl) (by first | (rw [rdb_4 (by omega)]; rfl) | (rw [rdb_0 (by omega)]; rfl) | (rw [rdb_o (by omega) (by omega), zI0 (b := og) (by assumption)]; rfl) | (rw [rdb_o (by omega) (by omega), zI1 (b := og) (by assumption)]; rfl)) (zI_n (rdbN ph og)) dX2_isReadable_27
      · skip
        refine lv_iconst (v := nI 1) hx hb dX2_isReadable_22 (by decide) ?_
        refine lv_goto (tgt := 27) hx hb dX2_isReadable_23 (by decide) ?_
        exact rt_z hx hb hr hlk hQ hAe hP hD hS [0] (by decide) rfl (Nat.le_of_ble_eq_true rfl) (Nat.le_of_ble_eq_true rfl) (by first | (rw [rdb_4 (by omega)]; rfl) | (rw [rdb_0 (by omega)]; rfl) | (rw [rdb_o (by omega) (by omega), zI0 (b := og) (by assumption)]; rfl) | (rw [rdb_o (by omega) (by omega), zI1 (b := og) (by assumption)]; rfl)) (zI_n (rdbN ph og)) dX2_isReadable_27

def rm_c_checkPiece : Room := { frames := 0, cells := 0, slots := 0, locals := 0 }
set_option maxHeartbeats 4000000 in
set_option maxRecDepth 100000 in
/-- checkPiece, where it holds -/
theorem c_checkPiece (l : Launch) (dC : Nat → ClassId) (dI : Nat → Nat → Nat) (cn : Nat) (hd9 : Nat) (mo : Nat) (hcn : cn ≤ 8) (hhd : hd9 + cn ≤ mo) (hmo : mo ≤ 96) : MO l dC dI yX2_checkPiece wsX2_checkPiece rm_c_checkPiece [.int (nI cn), .int (nI hd9), .int (nI mo)] [] [] [] none := by
  refine mo_ofW (cc := cX2_checkPiece) (maxL := 3) (ret := none) (by decide) rfl (Nat.le_of_ble_eq_true rfl) ?_
  intro p e s m args below meth c Q A H locs ls hx hb hr hlk hml hta hown hin hE hQ hAe hA hK hP hD hS hl
  have hown : s.vm.findClass RX2 = some m.cls := hown
  have hl : lv_has ls 3 [(0, .int (nI cn)), (1, .int (nI hd9)), (2, .int (nI mo))] := hl
  refine lv_iload_n hx hb dX2_checkPiece_0 rfl (lv_at hl 0 rfl) ?_
  refine lv_if_lt (tgt := 10) hx hb dX2_checkPiece_1 (by decide) (fun hc_1 => ?_) (fun hc_1 => ?_)
  · skip
    have hc_1 := (ix_lt (a := cn) (b := 0) (by omega) (by omega)).mp hc_1
    have hc_1 : (cn < 0) := hc_1
    exfalso; omega
  · skip
    have hc_1 := (not_congr (ix_lt (a := cn) (b := 0) (by omega) (by omega))).mp hc_1
    have hc_1 : ¬ (cn < 0) := hc_1
    refine lv_iload_n hx hb dX2_checkPiece_4 rfl (lv_at hl 0 rfl) ?_
    refine lv_bipush (v := nI 8) hx hb dX2_checkPiece_5 (by decide) ?_
    refine lv_icmp_le (tgt := 18) hx hb dX2_checkPiece_7 (by decide) (fun hc_7 => ?_) (fun hc_7 => ?_)
    · skip
      have hc_7 := (ix_le (a := cn) (b := 8) (by omega) (by omega)).mp hc_7
      have hc_7 : (cn ≤ 8) := hc_7
      refine lv_iload_n hx hb dX2_checkPiece_18 rfl (lv_at hl 1 rfl) ?_
      refine lv_iload_n hx hb dX2_checkPiece_19 rfl (lv_at hl 0 rfl) ?_
      refine lv_iadd hx hb dX2_checkPiece_20 (top_i (nI_add _ _) ?_)
      refine lv_iload_n hx hb dX2_checkPiece_21 rfl (lv_at hl 2 rfl) ?_
      refine lv_icmp_le (tgt := 33) hx hb dX2_checkPiece_22 (by decide) (fun hc_22 => ?_) (fun hc_22 => ?_)
      · skip
        have hc_22 := (ix_le (a := hd9 + cn) (b := mo) (by omega) (by omega)).mp hc_22
        have hc_22 : ((hd9 + cn) ≤ mo) := hc_22
        exact rt_0 hx hb hr hlk hQ hAe hP hD hS [] (by decide) rfl (Nat.le_of_ble_eq_true rfl) (Nat.le_of_ble_eq_true rfl) dX2_checkPiece_33
      · skip
        have hc_22 := (not_congr (ix_le (a := hd9 + cn) (b := mo) (by omega) (by omega))).mp hc_22
        have hc_22 : ¬ ((hd9 + cn) ≤ mo) := hc_22
        exfalso; omega
    · skip
      have hc_7 := (not_congr (ix_le (a := cn) (b := 8) (by omega) (by omega))).mp hc_7
      have hc_7 : ¬ (cn ≤ 8) := hc_7
      exfalso; omega

def rm_c_word_y : Room := { frames := 1, cells := 0, slots := 0, locals := 21 }
set_option maxHeartbeats 4000000 in
set_option maxRecDepth 100000 in
/-- word(j) -/
theorem c_word_y (l : Launch) (dC : Nat → ClassId) (dI : Nat → Nat → Nat) (x : Nat) (qc : Nat) (qg : Nat) (qa : Nat) (qt : Nat) (qm : Nat) (ph : Nat) (og : Bool) (nh : Int64) (nr : Int32) (na : Nat) (nt : Nat) (mb : Int32) (t1 : Int64) (t2 : Int64) (qs : Nat) (qu : Nat) (qw : Nat) (qb : Nat) (qe : Nat) (kw : ClassId) (w : Nat → Int32) (j : Nat) (hj : j < 44) : MO l dC dI yX2_word wsX2_word rm_c_word_y [.ref x, .int (nI j)] [(x, .inr (2, [.ref qc, .ref qg, .ref qa, .ref qt, .ref qm, .int (nI ph), .int (zI og), .long nh, .int nr, .int (nI na), .int (nI nt), .int mb, .long t1, .long t2])), (qc, .inr (0, [.ref qs, .ref qu, .ref qw, .ref qb, .ref qe])), (qw, .inl (kw, 44, .inl w))] [(kw, .int)] [(x, .inr (2, [.ref qc, .ref qg, .ref qa, .ref qt, .ref qm, .int (nI ph), .int (zI og), .long nh, .int nr, .int (nI na), .int (nI nt), .int mb, .long t1, .long t2])), (qc, .inr (0, [.ref qs, .ref qu, .ref qw, .ref qb, .ref qe])), (qw, .inl (kw, 44, .inl w))] (some (.int (w j))) := by
  refine mo_ofW (cc := cX2_word) (maxL := 2) (ret := (some .int)) (by decide) rfl (Nat.le_of_ble_eq_true rfl) ?_
  intro p e s m args below meth c Q A H locs ls hx hb hr hlk hml hta hown hin hE hQ hAe hA hK hP hD hS hl
  have hown : s.vm.findClass RX2 = some m.cls := hown
  have hl : lv_has ls 2 [(0, .ref x), (1, .int (nI j))] := hl
  refine lv_iload_n hx hb dX2_word_0 rfl (lv_at hl 1 rfl) ?_
  refine lv_if_lt (tgt := 10) hx hb dX2_word_1 (by decide) (fun hc_1 => ?_) (fun hc_1 => ?_)
  · skip
    have hc_1 := (ix_lt (a := j) (b := 0) (by omega) (by omega)).mp hc_1
    have hc_1 : (j < 0) := hc_1
    exfalso; omega
  · skip
    have hc_1 := (not_congr (ix_lt (a := j) (b := 0) (by omega) (by omega))).mp hc_1
    have hc_1 : ¬ (j < 0) := hc_1
    refine lv_iload_n hx hb dX2_word_4 rfl (lv_at hl 1 rfl) ?_
    refine lv_bipush (v := nI 44) hx hb dX2_word_5 (by decide) ?_
    refine lv_icmp_lt (tgt := 18) hx hb dX2_word_7 (by decide) (fun hc_7 => ?_) (fun hc_7 => ?_)
    · skip
      have hc_7 := (ix_lt (a := j) (b := 44) (by omega) (by omega)).mp hc_7
      have hc_7 : (j < 44) := hc_7
      refine lv_aload_n hx hb dX2_word_18 rfl (lv_at hl 0 rfl) ?_
      refine va_get (D := (dC, dI)) (ci := 2) (v := .ref qc) (C := RX2) (T := TX2) (N := 14) hx hb hta inX2 hown hK hP 0 rfl rfl 0 (by decide) (hta _ mw_80) (fun _ h9 => h9) rfl dX2_word_19 ?_
      refine lv_iload_n hx hb dX2_word_22 rfl (lv_at hl 1 rfl) ?_
      refine cf_1 (wr := [(x, .inr (2, [.ref qc, .ref qg, .ref qa, .ref qt, .ref qm, .int (nI ph), .int (zI og), .long nh, .int nr, .int (nI na), .int (nI nt), .int mb, .long t1, .long t2]))]) (va_runV (As := [.int (nI j)]) (rest := []) ⟨hx, hb, hml, hown, hta⟩ (MO.to (c_wordAt l dC dI qc qs qu qw qb qe kw w j hj) H.size) (cwV 1 hta (aw_V mw_305 mw_302 mw_303 mw_304 mw_2) rfl rfl rfl ⟨rfl, dyX0_wordAt⟩ ⟨(Nat.le_of_ble_eq_true rfl), (Nat.le_of_ble_eq_true rfl)⟩) (pr_V hP hD hK hE [1, 2] [0] (by decide) rfl rfl rfl rfl) rfl rfl hl.1 rfl (lv_room (Nat.le_of_ble_eq_true rfl)) dX2_word_23 ⟨(Nat.le_of_ble_eq_true rfl), (Nat.le_of_ble_eq_true rfl)⟩) hP hD hS hA [1, 2] [0] rfl rfl (by decide) (by decide) (fun H locs hP hD hS => ?_)
      have hP : va_P (dC, dI) vwCl [(x, .inr (2, [.ref qc, .ref qg, .ref qa, .ref qt, .ref qm, .int (nI ph), .int (zI og), .long nh, .int nr, .int (nI na), .int (nI nt), .int mb, .long t1, .long t2])), (qc, .inr (0, [.ref qs, .ref qu, .ref qw, .ref qb, .ref qe])), (qw, .inl (kw, 44, .inl w))] H := hP
      have hD : va_D A [(x, .inr (2, [.ref qc, .ref qg, .ref qa, .ref qt, .ref qm, .int (nI ph), .int (zI og), .long nh, .int nr, .int (nI na), .int (nI nt), .int mb, .long t1, .long t2])), (qc, .inr (0, [.ref qs, .ref qu, .ref qw, .ref qb, .ref qe])), (qw, .inl (kw, 44, .inl w))] := hD
      refine W.widen (k := 0) (n := 0) (Nat.le_of_ble_eq_true rfl) (Nat.le_of_ble_eq_true rfl) ?_
      refine w_pc (pc2 := 26) rfl ?_
      exact rt_i hx hb hr hlk hQ hAe hP hD hS [0, 1, 2] (by decide) rfl (Nat.le_of_ble_eq_true rfl) (Nat.le_of_ble_eq_true rfl) (rfl) dX2_word_26
    · skip
      have hc_7 := (not_congr (ix_lt (a := j) (b := 44) (by omega) (by omega))).mp hc_7
      have hc_7 : ¬ (j < 44) := hc_7
      exfalso; omega

def rm_c_aside_y : Room := { frames := 1, cells := 0, slots := 0, locals := 22 }
set_option maxHeartbeats 4000000 in
set_option maxRecDepth 100000 in
/-- aside -/
theorem c_aside_y (l : Launch) (dC : Nat → ClassId) (dI : Nat → Nat → Nat) (x : Nat) (qc : Nat) (qg : Nat) (qa : Nat) (qt : Nat) (qm : Nat) (ph : Nat) (og : Bool) (nh : Int64) (nr : Int32) (na : Nat) (nt : Nat) (mb : Int32) (t1 : Int64) (t2 : Int64) (ka : ClassId) (ab : Nat → Nat) (y : Int64) (cn : Nat) (hph : ph = 1) (hcn : cn ≤ 8) (hna : na + cn ≤ 48) : MO l dC dI yX2_aside wsX2_aside rm_c_aside_y [.ref x, .long y, .int (nI cn)] [(x, .inr (2, [.ref qc, .ref qg, .ref qa, .ref qt, .ref qm, .int (nI ph), .int (zI og), .long nh, .int nr, .int (nI na), .int (nI nt), .int mb, .long t1, .long t2])), (qa, .inl (ka, 48, .inl (nF ab)))] [(ka, .int)] [(x, .inr (2, [.ref qc, .ref qg, .ref qa, .ref qt, .ref qm, .int (nI ph), .int (zI og), .long nh, .int nr, .int (nI (na + cn)), .int (nI nt), .int mb, .long t1, .long t2])), (qa, .inl (ka, 48, .inl (nF (ofl (pbN y) ab na cn))))] (some (.int (nI (na + cn)))) := by
  refine mo_ofW (cc := cX2_aside) (maxL := 5) (ret := (some .int)) (by decide) rfl (Nat.le_of_ble_eq_true rfl) ?_
  intro p e s m args below meth c Q A H locs ls hx hb hr hlk hml hta hown hin hE hQ hAe hA hK hP hD hS hl
  have hown : s.vm.findClass RX2 = some m.cls := hown
  have hl : lv_has ls 5 [(0, .ref x), (1, .long y), (3, .int (nI cn))] := hl
  refine lv_aload_n hx hb dX2_aside_0 rfl (lv_at hl 0 rfl) ?_
  refine va_get (D := (dC, dI)) (ci := 2) (v := .int (nI ph)) (C := RX2) (T := TX2) (N := 14) hx hb hta inX2 hown hK hP 0 rfl rfl 5 (by decide) (hta _ mw_85) (fun _ h9 => h9) rfl dX2_aside_1 ?_
  refine lv_iconst (v := nI 1) hx hb dX2_aside_4 (by decide) ?_
  refine lv_icmp_eq (tgt := 16) hx hb dX2_aside_5 (by decide) (fun hc_5 => ?_) (fun hc_5 => ?_)
  · skip
    have hc_5 := (ix_eq (a := ph) (b := 1) (by omega) (by omega)).mp hc_5
    have hc_5 : (ph = 1) := hc_5
    refine lv_iload_n hx hb dX2_aside_16 rfl (lv_at hl 2 rfl) ?_
    refine lv_aload_n hx hb dX2_aside_17 rfl (lv_at hl 0 rfl) ?_
    refine va_get (D := (dC, dI)) (ci := 2) (v := .int (nI na)) (C := RX2) (T := TX2) (N := 14) hx hb hta inX2 hown hK hP 0 rfl rfl 9 (by decide) (hta _ mw_89) (fun _ h9 => h9) rfl dX2_aside_18 ?_
    refine lv_bipush (v := nI 48) hx hb dX2_aside_21 (by decide) ?_
    refine cf_0 (wr := [(x, .inr (2, [.ref qc, .ref qg, .ref qa, .ref qt, .ref qm, .int (nI ph), .int (zI og), .long nh, .int nr, .int (nI na), .int (nI nt), .int mb, .long t1, .long t2])), (qa, .inl (ka, 48, .inl (nF ab)))]) (va_runS (As := [.int (nI cn), .int (nI na), .int (nI 48)]) (rest := []) ⟨hx, hb, hml, hown, hta⟩ (MO.to (c_checkPiece l dC dI cn na 48 hcn hna (by decide)) H.size) (va_cwS 3 hta (aw_S mw_333 mw_331 mw_332 mw_1) rfl rfl rfl dyX2_checkPiece ⟨(Nat.le_of_ble_eq_true rfl), (Nat.le_of_ble_eq_true rfl)⟩) (pr_S hP hD hK hE [] [] (by decide) rfl rfl) rfl rfl hl.1 rfl (lv_room (Nat.le_of_ble_eq_true rfl)) dX2_aside_23 ⟨(Nat.le_of_ble_eq_true rfl), (Nat.le_of_ble_eq_true rfl)⟩) hP hD hS hA [] [0, 1] rfl rfl (by decide) (by decide) (fun H locs hP hD hS => ?_)
    have hP : va_P (dC, dI) vwCl [(x, .inr (2, [.ref qc, .ref qg, .ref qa, .ref qt, .ref qm, .int (nI ph), .int (zI og), .long nh, .int nr, .int (nI na), .int (nI nt), .int mb, .long t1, .long t2])), (qa, .inl (ka, 48, .inl (nF ab)))] H := hP
    have hD : va_D A [(x, .inr (2, [.ref qc, .ref qg, .ref qa, .ref qt, .ref qm, .int (nI ph), .int (zI og), .long nh, .int nr, .int (nI na), .int (nI nt), .int mb, .long t1, .long t2])), (qa, .inl (ka, 48, .inl (nF ab)))] := hD
    refine W.widen (k := 0) (n := 0) (Nat.le_of_ble_eq_true rfl) (Nat.le_of_ble_eq_true rfl) ?_
    refine w_pc (pc2 := 26) rfl ?_
    refine lv_iconst (v := nI 0) hx hb dX2_aside_26 (by decide) ?_
    refine lv_istore hx hb dX2_aside_27 hl (by decide) rfl (fun ls hl => ?_)
    have hl : lv_has ls 5 [(4, .int (nI 0)), (0, .ref x), (1, .long y), (3, .int (nI cn))] := hl
    obtain ⟨hP, hD⟩ := va_recb (g := ofl (pbN y) ab na 0) hP hD 1 rfl (fun i _ => ofl_0 _ ab na i)
    have hP : va_P (dC, dI) vwCl [(x, .inr (2, [.ref qc, .ref qg, .ref qa, .ref qt, .ref qm, .int (nI ph), .int (zI og), .long nh, .int nr, .int (nI na), .int (nI nt), .int mb, .long t1, .long t2])), (qa, .inl (ka, 48, .inl (nF (ofl (pbN y) ab na 0))))] H := hP
    have hD : va_D A [(x, .inr (2, [.ref qc, .ref qg, .ref qa, .ref qt, .ref qm, .int (nI ph), .int (zI og), .long nh, .int nr, .int (nI na), .int (nI nt), .int mb, .long t1, .long t2])), (qa, .inl (ka, 48, .inl (nF (ofl (pbN y) ab na 0))))] := hD
    have loop_29 : ∀ (n k : Nat) (ls : Array Slot) (H : Heap) (locs : List Loc), k + n = cn → lv_has ls 5 [(4, .int (nI k)), (0, .ref x), (1, .long y), (3, .int (nI cn))] → va_P (dC, dI) vwCl [(x, .inr (2, [.ref qc, .ref qg, .ref qa, .ref qt, .ref qm, .int (nI ph), .int (zI og), .long nh, .int nr, .int (nI (na + k)), .int (nI nt), .int mb, .long t1, .long t2])), (qa, .inl (ka, 48, .inl (nF (ofl (pbN y) ab na k))))] H → va_D A [(x, .inr (2, [.ref qc, .ref qg, .ref qa, .ref qt, .ref qm, .int (nI ph), .int (zI og), .long nh, .int nr, .int (nI (na + k)), .int (nI nt), .int mb, .long t1, .long t2])), (qa, .inl (ka, 48, .inl (nF (ofl (pbN y) ab na k))))] → va_S A s.heap H locs → W p l e rm_c_aside_y s m args below meth c H locs 0 0 Q (F0 m 29 ls []) := by
      intro n
      induction n with
      | zero =>
        intro k ls H locs hn_29  hl hP hD hS
        obtain rfl : cn = k := by omega
        refine lv_iload hx hb dX2_aside_29 (lv_at hl 0 rfl) ?_
        refine lv_iload_n hx hb dX2_aside_31 rfl (lv_at hl 3 rfl) ?_
        refine lv_icmp_ge (tgt := 66) hx hb dX2_aside_32 (by decide) (fun hc_32 => ?_) (fun hc_32 => ?_)
        · skip
          have hc_32 := (ix_le (a := cn) (b := cn) (by omega) (by omega)).mp hc_32
          have hc_32 : (cn ≤ cn) := hc_32
          refine lv_aload_n hx hb dX2_aside_66 rfl (lv_at hl 1 rfl) ?_
          refine va_get (D := (dC, dI)) (ci := 2) (v := .int (nI (na + cn))) (C := RX2) (T := TX2) (N := 14) hx hb hta inX2 hown hK hP 0 rfl rfl 9 (by decide) (hta _ mw_89) (fun _ h9 => h9) rfl dX2_aside_67 ?_
          exact rt_i hx hb hr hlk hQ hAe hP hD hS [0, 1] (by decide) rfl (Nat.le_of_ble_eq_true rfl) (Nat.le_of_ble_eq_true rfl) (rfl) dX2_aside_70
        · skip
          have hc_32 := (not_congr (ix_le (a := cn) (b := cn) (by omega) (by omega))).mp hc_32
          have hc_32 : ¬ (cn ≤ cn) := hc_32
          exfalso; omega
      | succ n ih =>
        intro k ls H locs hn_29  hl hP hD hS
        refine lv_iload hx hb dX2_aside_29 (lv_at hl 0 rfl) ?_
        refine lv_iload_n hx hb dX2_aside_31 rfl (lv_at hl 3 rfl) ?_
        refine lv_icmp_ge (tgt := 66) hx hb dX2_aside_32 (by decide) (fun hc_32 => ?_) (fun hc_32 => ?_)
        · skip
          have hc_32 := (ix_le (a := cn) (b := k) (by omega) (by omega)).mp hc_32
          have hc_32 : (cn ≤ k) := hc_32
          exfalso; omega
        · skip
          have hc_32 := (not_congr (ix_le (a := cn) (b := k) (by omega) (by omega))).mp hc_32
          have hc_32 : ¬ (cn ≤ k) := hc_32
          refine lv_aload_n hx hb dX2_aside_35 rfl (lv_at hl 1 rfl) ?_
          refine va_get (D := (dC, dI)) (ci := 2) (v := .ref qa) (C := RX2) (T := TX2) (N := 14) hx hb hta inX2 hown hK hP 0 rfl rfl 2 (by decide) (hta _ mw_82) (fun _ h9 => h9) rfl dX2_aside_36 ?_
          refine lv_aload_n hx hb dX2_aside_39 rfl (lv_at hl 1 rfl) ?_
          refine va_get (D := (dC, dI)) (ci := 2) (v := .int (nI (na + k))) (C := RX2) (T := TX2) (N := 14) hx hb hta inX2 hown hK hP 0 rfl rfl 9 (by decide) (hta _ mw_89) (fun _ h9 => h9) rfl dX2_aside_40 ?_
          refine lv_lload_n hx hb dX2_aside_43 rfl (lv_at hl 2 rfl) ?_
          refine lv_iload hx hb dX2_aside_44 (lv_at hl 0 rfl) ?_
          refine cf_1 (wr := [(x, .inr (2, [.ref qc, .ref qg, .ref qa, .ref qt, .ref qm, .int (nI ph), .int (zI og), .long nh, .int nr, .int (nI (na + k)), .int (nI nt), .int mb, .long t1, .long t2])), (qa, .inl (ka, 48, .inl (nF (ofl (pbN y) ab na k))))]) (va_runS (As := [.long y, .int (nI k)]) (rest := [.int (nI (na + k)), .ref qa]) ⟨hx, hb, hml, hown, hta⟩ (MO.to (c_pieceByte l dC dI y k (by omega)) H.size) (va_cwS 2 hta (aw_S mw_366 mw_364 mw_365 mw_1) rfl rfl rfl dyX2_pieceByte ⟨(Nat.le_of_ble_eq_true rfl), (Nat.le_of_ble_eq_true rfl)⟩) (pr_S hP hD hK hE [] [] (by decide) rfl rfl) rfl rfl hl.1 rfl (lv_room (Nat.le_of_ble_eq_true rfl)) dX2_aside_46 ⟨(Nat.le_of_ble_eq_true rfl), (Nat.le_of_ble_eq_true rfl)⟩) hP hD hS hA [] [0, 1] rfl rfl (by decide) (by decide) (fun H locs hP hD hS => ?_)
          have hP : va_P (dC, dI) vwCl [(x, .inr (2, [.ref qc, .ref qg, .ref qa, .ref qt, .ref qm, .int (nI ph), .int (zI og), .long nh, .int nr, .int (nI (na + k)), .int (nI nt), .int mb, .long t1, .long t2])), (qa, .inl (ka, 48, .inl (nF (ofl (pbN y) ab na k))))] H := hP
          have hD : va_D A [(x, .inr (2, [.ref qc, .ref qg, .ref qa, .ref qt, .ref qm, .int (nI ph), .int (zI og), .long nh, .int nr, .int (nI (na + k)), .int (nI nt), .int mb, .long t1, .long t2])), (qa, .inl (ka, 48, .inl (nF (ofl (pbN y) ab na k))))] := hD
          refine W.widen (k := 0) (n := 0) (Nat.le_of_ble_eq_true rfl) (Nat.le_of_ble_eq_true rfl) ?_
          refine w_pc (pc2 := 49) rfl ?_
          refine va_iasb hx hb hK hP hD hS 1 0 rfl rfl (by omega) (by decide) dX2_aside_49 (fun H locs hP hD hS => ?_)
          have hP : va_P (dC, dI) vwCl [(x, .inr (2, [.ref qc, .ref qg, .ref qa, .ref qt, .ref qm, .int (nI ph), .int (zI og), .long nh, .int nr, .int (nI (na + k)), .int (nI nt), .int mb, .long t1, .long t2])), (qa, .inl (ka, 48, .inl (nF (un (ofl (pbN y) ab na k) (na + k) (pbN y k)))))] H := hP
          have hD : va_D A [(x, .inr (2, [.ref qc, .ref qg, .ref qa, .ref qt, .ref qm, .int (nI ph), .int (zI og), .long nh, .int nr, .int (nI (na + k)), .int (nI nt), .int mb, .long t1, .long t2])), (qa, .inl (ka, 48, .inl (nF (un (ofl (pbN y) ab na k) (na + k) (pbN y k)))))] := hD
          refine lv_aload_n hx hb dX2_aside_50 rfl (lv_at hl 1 rfl) ?_
          refine lv_dup hx hb dX2_aside_51 rfl ?_
          refine va_get (D := (dC, dI)) (ci := 2) (v := .int (nI (na + k))) (C := RX2) (T := TX2) (N := 14) hx hb hta inX2 hown hK hP 0 rfl rfl 9 (by decide) (hta _ mw_89) (fun _ h9 => h9) rfl dX2_aside_52 ?_
          refine lv_iconst (v := nI 1) hx hb dX2_aside_55 (by decide) ?_
          refine lv_iadd hx hb dX2_aside_56 (top_i (nI_add _ _) ?_)
          refine va_put (D := (dC, dI)) (ci := 2) (v := .int (nI ((na + k) + 1))) (ty := .int) (C := RX2) (T := TX2) (N := 14) hx hb hta inX2 tyX2 tyX2_ok nmX2 hown hK hP hD hS 0 rfl rfl 9 (by decide) (hta _ mw_89) (fun _ h9 => h9) rfl (by decide +kernel) rfl rfl (Nat.le_of_ble_eq_true rfl) dX2_aside_57 (fun H locs hP hD hS => ?_)
          have hP : va_P (dC, dI) vwCl [(x, .inr (2, [.ref qc, .ref qg, .ref qa, .ref qt, .ref qm, .int (nI ph), .int (zI og), .long nh, .int nr, .int (nI ((na + k) + 1)), .int (nI nt), .int mb, .long t1, .long t2])), (qa, .inl (ka, 48, .inl (nF (un (ofl (pbN y) ab na k) (na + k) (pbN y k)))))] H := hP
          have hD : va_D A [(x, .inr (2, [.ref qc, .ref qg, .ref qa, .ref qt, .ref qm, .int (nI ph), .int (zI og), .long nh, .int nr, .int (nI ((na + k) + 1)), .int (nI nt), .int mb, .long t1, .long t2])), (qa, .inl (ka, 48, .inl (nF (un (ofl (pbN y) ab na k) (na + k) (pbN y k)))))] := hD
          refine lv_iinc (v := nI (k + 1)) (k := 0) hx hb dX2_aside_60 hl rfl (ix_inc _ 1) (by decide) rfl (fun ls hl => ?_)
          have hl : lv_has ls 5 [(4, .int (nI (k + 1))), (0, .ref x), (1, .long y), (3, .int (nI cn))] := hl
          refine lv_goto (tgt := 29) hx hb dX2_aside_63 (by decide) ?_
          obtain ⟨hP, hD⟩ := va_recb (g := ofl (pbN y) ab na (k + 1)) hP hD 1 rfl (fun i _ => ofl_s (pbN y) ab na k i)
          have hP : va_P (dC, dI) vwCl [(x, .inr (2, [.ref qc, .ref qg, .ref qa, .ref qt, .ref qm, .int (nI ph), .int (zI og), .long nh, .int nr, .int (nI ((na + k) + 1)), .int (nI nt), .int mb, .long t1, .long t2])), (qa, .inl (ka, 48, .inl (nF (ofl (pbN y) ab na (k + 1)))))] H := hP
          have hD : va_D A [(x, .inr (2, [.ref qc, .ref qg, .ref qa, .ref qt, .ref qm, .int (nI ph), .int (zI og), .long nh, .int nr, .int (nI ((na + k) + 1)), .int (nI nt), .int mb, .long t1, .long t2])), (qa, .inl (ka, 48, .inl (nF (ofl (pbN y) ab na (k + 1)))))] := hD
          exact ih (k + 1) ls H locs (by omega)  (lv_sub hl [0, 1, 2, 3] rfl) hP hD hS
    exact loop_29 cn 0 ls H locs (by omega)  (lv_sub hl [0, 1, 2, 3] rfl) hP hD hS
  · skip
    have hc_5 := (not_congr (ix_eq (a := ph) (b := 1) (by omega) (by omega))).mp hc_5
    have hc_5 : ¬ (ph = 1) := hc_5
    exfalso; omega

def rm_c_text_s : Room := { frames := 2, cells := 0, slots := 0, locals := 46 }
set_option maxHeartbeats 4000000 in
set_option maxRecDepth 100000 in
/-- text of a message that is opened -/
theorem c_text_s (l : Launch) (dC : Nat → ClassId) (dI : Nat → Nat → Nat) (x : Nat) (qc : Nat) (qg : Nat) (qa : Nat) (qt : Nat) (qm : Nat) (ph : Nat) (og : Bool) (nh : Int64) (nr : Int32) (na : Nat) (nt : Nat) (mb : Int32) (t1 : Int64) (t2 : Int64) (kt : ClassId) (tb : Nat → Nat) (y : Int64) (cn : Nat) (hph6 : ph < 6) (huw : uwN ph = true) (hog : og = true) (hcn : cn ≤ 8) (hnt : nt + cn ≤ 96) : MO l dC dI yX2_text wsX2_text rm_c_text_s [.ref x, .long y, .int (nI cn)] [(x, .inr (2, [.ref qc, .ref qg, .ref qa, .ref qt, .ref qm, .int (nI ph), .int (zI og), .long nh, .int nr, .int (nI na), .int (nI nt), .int mb, .long t1, .long t2])), (qt, .inl (kt, 96, .inl (nF tb)))] [(kt, .int)] [(x, .inr (2, [.ref qc, .ref qg, .ref qa, .ref qt, .ref qm, .int (nI 2), .int (zI og), .long nh, .int nr, .int (nI na), .int (nI (nt + cn)), .int mb, .long t1, .long t2])), (qt, .inl (kt, 96, .inl (nF (ofl (pbN y) tb nt cn))))] (some (.long (lN 0))) := by
  refine mo_ofW (cc := cX2_text) (maxL := 4) (ret := (some .long)) (by decide) rfl (Nat.le_of_ble_eq_true rfl) ?_
  intro p e s m args below meth c Q A H locs ls hx hb hr hlk hml hta hown hin hE hQ hAe hA hK hP hD hS hl
  have hown : s.vm.findClass RX2 = some m.cls := hown
  have hl : lv_has ls 4 [(0, .ref x), (1, .long y), (3, .int (nI cn))] := hl
  refine lv_aload_n hx hb dX2_text_0 rfl (lv_at hl 0 rfl) ?_
  refine cf_1 (wr := [(qt, .inl (kt, 96, .inl (nF tb)))]) (va_runV (As := []) (rest := []) ⟨hx, hb, hml, hown, hta⟩ (MO.to (c_isUnderWay l dC dI x qc qg qa qt qm ph og nh nr na nt mb t1 t2 hph6) H.size) (cwV 0 hta (aw_V mw_377 mw_374 mw_376 mw_s11 mw_1) rfl rfl rfl ⟨rfl, dyX2_isUnderWay⟩ ⟨(Nat.le_of_ble_eq_true rfl), (Nat.le_of_ble_eq_true rfl)⟩) (pr_V hP hD hK hE [0] [] (by decide) rfl rfl rfl rfl) rfl rfl hl.1 rfl (lv_room (Nat.le_of_ble_eq_true rfl)) dX2_text_1 ⟨(Nat.le_of_ble_eq_true rfl), (Nat.le_of_ble_eq_true rfl)⟩) hP hD hS hA [0] [1] rfl rfl (by decide) (by decide) (fun H locs hP hD hS => ?_)
  have hP : va_P (dC, dI) vwCl [(qt, .inl (kt, 96, .inl (nF tb))), (x, .inr (2, [.ref qc, .ref qg, .ref qa, .ref qt, .ref qm, .int (nI ph), .int (zI og), .long nh, .int nr, .int (nI na), .int (nI nt), .int mb, .long t1, .long t2]))] H := hP
  have hD : va_D A [(qt, .inl (kt, 96, .inl (nF tb))), (x, .inr (2, [.ref qc, .ref qg, .ref qa, .ref qt, .ref qm, .int (nI ph), .int (zI og), .long nh, .int nr, .int (nI na), .int (nI nt), .int mb, .long t1, .long t2]))] := hD
  refine W.widen (k := 0) (n := 0) (Nat.le_of_ble_eq_true rfl) (Nat.le_of_ble_eq_true rfl) ?_
  refine w_pc (pc2 := 4) rfl ?_
  refine lv_if_ne (tgt := 15) hx hb dX2_text_4 (by decide) (fun hc_4 => ?_) (fun hc_4 => ?_)
  · skip
    refine lv_iload_n hx hb dX2_text_15 rfl (lv_at hl 2 rfl) ?_
    refine lv_aload_n hx hb dX2_text_16 rfl (lv_at hl 0 rfl) ?_
    refine va_get (D := (dC, dI)) (ci := 2) (v := .int (nI nt)) (C := RX2) (T := TX2) (N := 14) hx hb hta inX2 hown hK hP 1 rfl rfl 10 (by decide) (hta _ mw_90) (fun _ h9 => h9) rfl dX2_text_17 ?_
    refine lv_bipush (v := nI 96) hx hb dX2_text_20 (by decide) ?_
    refine cf_0 (wr := [(qt, .inl (kt, 96, .inl (nF tb))), (x, .inr (2, [.ref qc, .ref qg, .ref qa, .ref qt, .ref qm, .int (nI ph), .int (zI og), .long nh, .int nr, .int (nI na), .int (nI nt), .int mb, .long t1, .long t2]))]) (va_runS (As := [.int (nI cn), .int (nI nt), .int (nI 96)]) (rest := []) ⟨hx, hb, hml, hown, hta⟩ (MO.to (c_checkPiece l dC dI cn nt 96 hcn hnt (by decide)) H.size) (va_cwS 3 hta (aw_S mw_333 mw_331 mw_332 mw_1) rfl rfl rfl dyX2_checkPiece ⟨(Nat.le_of_ble_eq_true rfl), (Nat.le_of_ble_eq_true rfl)⟩) (pr_S hP hD hK hE [] [] (by decide) rfl rfl) rfl rfl hl.1 rfl (lv_room (Nat.le_of_ble_eq_true rfl)) dX2_text_22 ⟨(Nat.le_of_ble_eq_true rfl), (Nat.le_of_ble_eq_true rfl)⟩) hP hD hS hA [] [0, 1] rfl rfl (by decide) (by decide) (fun H locs hP hD hS => ?_)
    have hP : va_P (dC, dI) vwCl [(qt, .inl (kt, 96, .inl (nF tb))), (x, .inr (2, [.ref qc, .ref qg, .ref qa, .ref qt, .ref qm, .int (nI ph), .int (zI og), .long nh, .int nr, .int (nI na), .int (nI nt), .int mb, .long t1, .long t2]))] H := hP
    have hD : va_D A [(qt, .inl (kt, 96, .inl (nF tb))), (x, .inr (2, [.ref qc, .ref qg, .ref qa, .ref qt, .ref qm, .int (nI ph), .int (zI og), .long nh, .int nr, .int (nI na), .int (nI nt), .int mb, .long t1, .long t2]))] := hD
    refine W.widen (k := 0) (n := 0) (Nat.le_of_ble_eq_true rfl) (Nat.le_of_ble_eq_true rfl) ?_
    refine w_pc (pc2 := 25) rfl ?_
    refine lv_aload_n hx hb dX2_text_25 rfl (lv_at hl 0 rfl) ?_
    refine lv_iconst (v := nI 2) hx hb dX2_text_26 (by decide) ?_
    refine va_put (D := (dC, dI)) (ci := 2) (v := .int (nI 2)) (ty := .int) (C := RX2) (T := TX2) (N := 14) hx hb hta inX2 tyX2 tyX2_ok nmX2 hown hK hP hD hS 1 rfl rfl 5 (by decide) (hta _ mw_85) (fun _ h9 => h9) rfl (by decide +kernel) rfl rfl (Nat.le_of_ble_eq_true rfl) dX2_text_27 (fun H locs hP hD hS => ?_)
    have hP : va_P (dC, dI) vwCl [(qt, .inl (kt, 96, .inl (nF tb))), (x, .inr (2, [.ref qc, .ref qg, .ref qa, .ref qt, .ref qm, .int (nI 2), .int (zI og), .long nh, .int nr, .int (nI na), .int (nI nt), .int mb, .long t1, .long t2]))] H := hP
    have hD : va_D A [(qt, .inl (kt, 96, .inl (nF tb))), (x, .inr (2, [.ref qc, .ref qg, .ref qa, .ref qt, .ref qm, .int (nI 2), .int (zI og), .long nh, .int nr, .int (nI na), .int (nI nt), .int mb, .long t1, .long t2]))] := hD
    refine lv_aload_n hx hb dX2_text_30 rfl (lv_at hl 0 rfl) ?_
    refine va_get (D := (dC, dI)) (ci := 2) (v := .int (zI og)) (C := RX2) (T := TX2) (N := 14) hx hb hta inX2 hown hK hP 1 rfl rfl 6 (by decide) (hta _ mw_86) (fun _ h9 => h9) rfl dX2_text_31 ?_
    refine lv_if_eq (tgt := 46) hx hb dX2_text_34 (by decide) (fun hc_34 => ?_) (fun hc_34 => ?_)
    · skip
      exact absurd (zI0 (b := og) hc_34) (by rw [hog]; decide)
    · skip
      refine lv_aload_n hx hb dX2_text_37 rfl (lv_at hl 0 rfl) ?_
      refine lv_lload_n hx hb dX2_text_38 rfl (lv_at hl 1 rfl) ?_
      refine lv_iload_n hx hb dX2_text_39 rfl (lv_at hl 2 rfl) ?_
      refine cf_1 (wr := []) (va_runV (As := [.long y, .int (nI cn)]) (rest := []) ⟨hx, hb, hml, hown, hta⟩ (MO.to (c_takeSealed l dC dI x qc qg qa qt qm 2 og nh nr na nt mb t1 t2 kt tb y cn hcn hnt) H.size) (cwV 2 hta (aw_V mw_381 mw_378 mw_380 mw_s12 mw_1) rfl rfl rfl ⟨rfl, dyX2_takeSealed⟩ ⟨(Nat.le_of_ble_eq_true rfl), (Nat.le_of_ble_eq_true rfl)⟩) (pr_V hP hD hK hE [1, 0] [0] (by decide) rfl rfl rfl rfl) rfl rfl hl.1 rfl (lv_room (Nat.le_of_ble_eq_true rfl)) dX2_text_40 ⟨(Nat.le_of_ble_eq_true rfl), (Nat.le_of_ble_eq_true rfl)⟩) hP hD hS hA [1, 0] [] rfl rfl (by decide) (by decide) (fun H locs hP hD hS => ?_)
      have hP : va_P (dC, dI) vwCl [(x, .inr (2, [.ref qc, .ref qg, .ref qa, .ref qt, .ref qm, .int (nI 2), .int (zI og), .long nh, .int nr, .int (nI na), .int (nI (nt + cn)), .int mb, .long t1, .long t2])), (qt, .inl (kt, 96, .inl (nF (ofl (pbN y) tb nt cn))))] H := hP
      have hD : va_D A [(x, .inr (2, [.ref qc, .ref qg, .ref qa, .ref qt, .ref qm, .int (nI 2), .int (zI og), .long nh, .int nr, .int (nI na), .int (nI (nt + cn)), .int mb, .long t1, .long t2])), (qt, .inl (kt, 96, .inl (nF (ofl (pbN y) tb nt cn))))] := hD
      refine W.widen (k := 0) (n := 0) (Nat.le_of_ble_eq_true rfl) (Nat.le_of_ble_eq_true rfl) ?_
      refine w_pc (pc2 := 43) rfl ?_
      refine lv_goto (tgt := 52) hx hb dX2_text_43 (by decide) ?_
      exact rt_l hx hb hr hlk hQ hAe hP hD hS [0, 1] (by decide) rfl (Nat.le_of_ble_eq_true rfl) (Nat.le_of_ble_eq_true rfl) (rfl) dX2_text_52
  · skip
    exact absurd (zI0 (b := uwN ph) hc_4) (by rw [huw]; decide)

def rm_c_text_p : Room := { frames := 7, cells := 0, slots := 0, locals := 197 }
set_option maxHeartbeats 4000000 in
set_option maxRecDepth 100000 in
/-- text of a message that is sealed -/
theorem c_text_p (l : Launch) (dC : Nat → ClassId) (dI : Nat → Nat → Nat) (x : Nat) (qc : Nat) (qg : Nat) (qa : Nat) (qt : Nat) (qm : Nat) (ph : Nat) (og : Bool) (nh : Int64) (nr : Int32) (na : Nat) (nt : Nat) (mb : Int32) (t1 : Int64) (t2 : Int64) (qs : Nat) (qu : Nat) (qw : Nat) (qb : Nat) (qe : Nat) (ks : ClassId) (kw : ClassId) (kb : ClassId) (ke : ClassId) (km : ClassId) (kt : ClassId) (sb : Nat → Nat) (w : Nat → Int32) (b : Nat → Nat) (z : Nat → Nat) (mk : Nat → Nat) (tb : Nat → Nat) (y : Int64) (cn : Nat) (s256 : ∀ i, sb i < 256) (hph6 : ph < 6) (huw : uwN ph = true) (hog : og = false) (hcn : cn ≤ 8) (hnt : nt + cn ≤ 96) (hmi : ∀ t, t < 96 → mb = nI t → ∀ j, j < 16 → mk j = mkN sb w nh nr (2 + t) j) : MX l dC dI yX2_text wsX2_text rm_c_text_p [.ref x, .long y, .int (nI cn)] [(x, .inr (2, [.ref qc, .ref qg, .ref qa, .ref qt, .ref qm, .int (nI ph), .int (zI og), .long nh, .int nr, .int (nI na), .int (nI nt), .int mb, .long t1, .long t2])), (qc, .inr (0, [.ref qs, .ref qu, .ref qw, .ref qb, .ref qe])), (qs, .inl (ks, 256, .inl (nF sb))), (qw, .inl (kw, 44, .inl w)), (qb, .inl (kb, 16, .inl (nF b))), (qe, .inl (ke, 16, .inl (nF z))), (qm, .inl (km, 16, .inl (nF mk))), (qt, .inl (kt, 96, .inl (nF tb)))] [(ks, .int), (kw, .int), (kb, .int), (ke, .int), (km, .int), (kt, .int)] (fun ((b1, z1, mk1, mb1) : (Nat → Nat) × (Nat → Nat) × (Nat → Nat) × Int32) => [(x, .inr (2, [.ref qc, .ref qg, .ref qa, .ref qt, .ref qm, .int (nI 2), .int (zI og), .long nh, .int nr, .int (nI na), .int (nI (nt + cn)), .int mb1, .long t1, .long t2])), (qc, .inr (0, [.ref qs, .ref qu, .ref qw, .ref qb, .ref qe])), (qs, .inl (ks, 256, .inl (nF sb))), (qw, .inl (kw, 44, .inl w)), (qb, .inl (kb, 16, .inl (nF b1))), (qe, .inl (ke, 16, .inl (nF z1))), (qm, .inl (km, 16, .inl (nF mk1))), (qt, .inl (kt, 96, .inl (nF (ofl (tpg sb w nh nr y nt) tb nt cn))))]) (fun ((b1, z1, mk1, mb1) : (Nat → Nat) × (Nat → Nat) × (Nat → Nat) × Int32) => []) (fun ((b1, z1, mk1, mb1) : (Nat → Nat) × (Nat → Nat) × (Nat → Nat) × Int32) => ∀ t, t < 96 → mb1 = nI t → ∀ j, j < 16 → mk1 j = mkN sb w nh nr (2 + t) j) (fun ((b1, z1, mk1, mb1) : (Nat → Nat) × (Nat → Nat) × (Nat → Nat) × Int32) => (some (.long (lN (slN (tpg sb w nh nr y nt) cn))))) := by
  refine mx_ofW (cc := cX2_text) (maxL := 4) (ret := (some .long)) (by decide) rfl (Nat.le_of_ble_eq_true rfl) ?_
  intro p e s m args below meth c Q A H locs ls hx hb hr hlk hml hta hown hin hE hQ hAe hA hK hP hD hS hl
  have hown : s.vm.findClass RX2 = some m.cls := hown
  have hl : lv_has ls 4 [(0, .ref x), (1, .long y), (3, .int (nI cn))] := hl
  refine lv_aload_n hx hb dX2_text_0 rfl (lv_at hl 0 rfl) ?_
  refine cf_1 (wr := [(qc, .inr (0, [.ref qs, .ref qu, .ref qw, .ref qb, .ref qe])), (qs, .inl (ks, 256, .inl (nF sb))), (qw, .inl (kw, 44, .inl w)), (qb, .inl (kb, 16, .inl (nF b))), (qe, .inl (ke, 16, .inl (nF z))), (qm, .inl (km, 16, .inl (nF mk))), (qt, .inl (kt, 96, .inl (nF tb)))]) (va_runV (As := []) (rest := []) ⟨hx, hb, hml, hown, hta⟩ (MO.to (c_isUnderWay l dC dI x qc qg qa qt qm ph og nh nr na nt mb t1 t2 hph6) H.size) (cwV 0 hta (aw_V mw_377 mw_374 mw_376 mw_s11 mw_1) rfl rfl rfl ⟨rfl, dyX2_isUnderWay⟩ ⟨(Nat.le_of_ble_eq_true rfl), (Nat.le_of_ble_eq_true rfl)⟩) (pr_V hP hD hK hE [0] [] (by decide) rfl rfl rfl rfl) rfl rfl hl.1 rfl (lv_room (Nat.le_of_ble_eq_true rfl)) dX2_text_1 ⟨(Nat.le_of_ble_eq_true rfl), (Nat.le_of_ble_eq_true rfl)⟩) hP hD hS hA [0] [1, 2, 3, 4, 5, 6, 7] rfl rfl (by decide) (by decide) (fun H locs hP hD hS => ?_)
  have hP : va_P (dC, dI) vwCl [(qc, .inr (0, [.ref qs, .ref qu, .ref qw, .ref qb, .ref qe])), (qs, .inl (ks, 256, .inl (nF sb))), (qw, .inl (kw, 44, .inl w)), (qb, .inl (kb, 16, .inl (nF b))), (qe, .inl (ke, 16, .inl (nF z))), (qm, .inl (km, 16, .inl (nF mk))), (qt, .inl (kt, 96, .inl (nF tb))), (x, .inr (2, [.ref qc, .ref qg, .ref qa, .ref qt, .ref qm, .int (nI ph), .int (zI og), .long nh, .int nr, .int (nI na), .int (nI nt), .int mb, .long t1, .long t2]))] H := hP
  have hD : va_D A [(qc, .inr (0, [.ref qs, .ref qu, .ref qw, .ref qb, .ref qe])), (qs, .inl (ks, 256, .inl (nF sb))), (qw, .inl (kw, 44, .inl w)), (qb, .inl (kb, 16, .inl (nF b))), (qe, .inl (ke, 16, .inl (nF z))), (qm, .inl (km, 16, .inl (nF mk))), (qt, .inl (kt, 96, .inl (nF tb))), (x, .inr (2, [.ref qc, .ref qg, .ref qa, .ref qt, .ref qm, .int (nI ph), .int (zI og), .long nh, .int nr, .int (nI na), .int (nI nt), .int mb, .long t1, .long t2]))] := hD
  refine W.widen (k := 0) (n := 0) (Nat.le_of_ble_eq_true rfl) (Nat.le_of_ble_eq_true rfl) ?_
  refine w_pc (pc2 := 4) rfl ?_
  refine lv_if_ne (tgt := 15) hx hb dX2_text_4 (by decide) (fun hc_4 => ?_) (fun hc_4 => ?_)
  · skip
    refine lv_iload_n hx hb dX2_text_15 rfl (lv_at hl 2 rfl) ?_
    refine lv_aload_n hx hb dX2_text_16 rfl (lv_at hl 0 rfl) ?_
    refine va_get (D := (dC, dI)) (ci := 2) (v := .int (nI nt)) (C := RX2) (T := TX2) (N := 14) hx hb hta inX2 hown hK hP 7 rfl rfl 10 (by decide) (hta _ mw_90) (fun _ h9 => h9) rfl dX2_text_17 ?_
    refine lv_bipush (v := nI 96) hx hb dX2_text_20 (by decide) ?_
    refine cf_0 (wr := [(qc, .inr (0, [.ref qs, .ref qu, .ref qw, .ref qb, .ref qe])), (qs, .inl (ks, 256, .inl (nF sb))), (qw, .inl (kw, 44, .inl w)), (qb, .inl (kb, 16, .inl (nF b))), (qe, .inl (ke, 16, .inl (nF z))), (qm, .inl (km, 16, .inl (nF mk))), (qt, .inl (kt, 96, .inl (nF tb))), (x, .inr (2, [.ref qc, .ref qg, .ref qa, .ref qt, .ref qm, .int (nI ph), .int (zI og), .long nh, .int nr, .int (nI na), .int (nI nt), .int mb, .long t1, .long t2]))]) (va_runS (As := [.int (nI cn), .int (nI nt), .int (nI 96)]) (rest := []) ⟨hx, hb, hml, hown, hta⟩ (MO.to (c_checkPiece l dC dI cn nt 96 hcn hnt (by decide)) H.size) (va_cwS 3 hta (aw_S mw_333 mw_331 mw_332 mw_1) rfl rfl rfl dyX2_checkPiece ⟨(Nat.le_of_ble_eq_true rfl), (Nat.le_of_ble_eq_true rfl)⟩) (pr_S hP hD hK hE [] [] (by decide) rfl rfl) rfl rfl hl.1 rfl (lv_room (Nat.le_of_ble_eq_true rfl)) dX2_text_22 ⟨(Nat.le_of_ble_eq_true rfl), (Nat.le_of_ble_eq_true rfl)⟩) hP hD hS hA [] [0, 1, 2, 3, 4, 5, 6, 7] rfl rfl (by decide) (by decide) (fun H locs hP hD hS => ?_)
    have hP : va_P (dC, dI) vwCl [(qc, .inr (0, [.ref qs, .ref qu, .ref qw, .ref qb, .ref qe])), (qs, .inl (ks, 256, .inl (nF sb))), (qw, .inl (kw, 44, .inl w)), (qb, .inl (kb, 16, .inl (nF b))), (qe, .inl (ke, 16, .inl (nF z))), (qm, .inl (km, 16, .inl (nF mk))), (qt, .inl (kt, 96, .inl (nF tb))), (x, .inr (2, [.ref qc, .ref qg, .ref qa, .ref qt, .ref qm, .int (nI ph), .int (zI og), .long nh, .int nr, .int (nI na), .int (nI nt), .int mb, .long t1, .long t2]))] H := hP
    have hD : va_D A [(qc, .inr (0, [.ref qs, .ref qu, .ref qw, .ref qb, .ref qe])), (qs, .inl (ks, 256, .inl (nF sb))), (qw, .inl (kw, 44, .inl w)), (qb, .inl (kb, 16, .inl (nF b))), (qe, .inl (ke, 16, .inl (nF z))), (qm, .inl (km, 16, .inl (nF mk))), (qt, .inl (kt, 96, .inl (nF tb))), (x, .inr (2, [.ref qc, .ref qg, .ref qa, .ref qt, .ref qm, .int (nI ph), .int (zI og), .long nh, .int nr, .int (nI na), .int (nI nt), .int mb, .long t1, .long t2]))] := hD
    refine W.widen (k := 0) (n := 0) (Nat.le_of_ble_eq_true rfl) (Nat.le_of_ble_eq_true rfl) ?_
    refine w_pc (pc2 := 25) rfl ?_
    refine lv_aload_n hx hb dX2_text_25 rfl (lv_at hl 0 rfl) ?_
    refine lv_iconst (v := nI 2) hx hb dX2_text_26 (by decide) ?_
    refine va_put (D := (dC, dI)) (ci := 2) (v := .int (nI 2)) (ty := .int) (C := RX2) (T := TX2) (N := 14) hx hb hta inX2 tyX2 tyX2_ok nmX2 hown hK hP hD hS 7 rfl rfl 5 (by decide) (hta _ mw_85) (fun _ h9 => h9) rfl (by decide +kernel) rfl rfl (Nat.le_of_ble_eq_true rfl) dX2_text_27 (fun H locs hP hD hS => ?_)
    have hP : va_P (dC, dI) vwCl [(qc, .inr (0, [.ref qs, .ref qu, .ref qw, .ref qb, .ref qe])), (qs, .inl (ks, 256, .inl (nF sb))), (qw, .inl (kw, 44, .inl w)), (qb, .inl (kb, 16, .inl (nF b))), (qe, .inl (ke, 16, .inl (nF z))), (qm, .inl (km, 16, .inl (nF mk))), (qt, .inl (kt, 96, .inl (nF tb))), (x, .inr (2, [.ref qc, .ref qg, .ref qa, .ref qt, .ref qm, .int (nI 2), .int (zI og), .long nh, .int nr, .int (nI na), .int (nI nt), .int mb, .long t1, .long t2]))] H := hP
    have hD : va_D A [(qc, .inr (0, [.ref qs, .ref qu, .ref qw, .ref qb, .ref qe])), (qs, .inl (ks, 256, .inl (nF sb))), (qw, .inl (kw, 44, .inl w)), (qb, .inl (kb, 16, .inl (nF b))), (qe, .inl (ke, 16, .inl (nF z))), (qm, .inl (km, 16, .inl (nF mk))), (qt, .inl (kt, 96, .inl (nF tb))), (x, .inr (2, [.ref qc, .ref qg, .ref qa, .ref qt, .ref qm, .int (nI 2), .int (zI og), .long nh, .int nr, .int (nI na), .int (nI nt), .int mb, .long t1, .long t2]))] := hD
    refine lv_aload_n hx hb dX2_text_30 rfl (lv_at hl 0 rfl) ?_
    refine va_get (D := (dC, dI)) (ci := 2) (v := .int (zI og)) (C := RX2) (T := TX2) (N := 14) hx hb hta inX2 hown hK hP 7 rfl rfl 6 (by decide) (hta _ mw_86) (fun _ h9 => h9) rfl dX2_text_31 ?_
    refine lv_if_eq (tgt := 46) hx hb dX2_text_34 (by decide) (fun hc_34 => ?_) (fun hc_34 => ?_)
    · skip
      refine lv_aload_n hx hb dX2_text_46 rfl (lv_at hl 0 rfl) ?_
      refine lv_lload_n hx hb dX2_text_47 rfl (lv_at hl 1 rfl) ?_
      refine lv_iload_n hx hb dX2_text_48 rfl (lv_at hl 2 rfl) ?_
      refine cx_1 (wr := []) (va_runV (As := [.long y, .int (nI cn)]) (rest := []) ⟨hx, hb, hml, hown, hta⟩ (MX.to (c_takePlain l dC dI x qc qg qa qt qm 2 og nh nr na nt mb t1 t2 qs qu qw qb qe ks kw kb ke km kt sb w b z mk tb y cn s256 hcn hnt hmi) H.size) (cwV 2 hta (aw_V mw_385 mw_382 mw_384 mw_s13 mw_1) rfl rfl rfl ⟨rfl, dyX2_takePlain⟩ ⟨(Nat.le_of_ble_eq_true rfl), (Nat.le_of_ble_eq_true rfl)⟩) (pr_V hP hD hK hE [7, 0, 1, 2, 3, 4, 5, 6] [0, 1, 2, 3, 4, 5] (by decide) rfl rfl rfl rfl) rfl rfl hl.1 rfl (lv_room (Nat.le_of_ble_eq_true rfl)) dX2_text_49 ⟨(Nat.le_of_ble_eq_true rfl), (Nat.le_of_ble_eq_true rfl)⟩) hK hP hD hS hA [7, 0, 1, 2, 3, 4, 5, 6] [] rfl rfl (by decide) (by decide) (fun u9 H locs hphi_49 hK hP hD hS => ?_)
      obtain ⟨b1_1, z1_1, mk1_1, mb1_1⟩ := u9
      have hphi_49 : ∀ t, t < 96 → mb1_1 = nI t → ∀ j, j < 16 → mk1_1 j = mkN sb w nh nr (2 + t) j := hphi_49
      have hK : va_K (dC, dI) vwCl [(ks, .int), (kw, .int), (kb, .int), (ke, .int), (km, .int), (kt, .int)] s := hK
      have hP : va_P (dC, dI) vwCl [(x, .inr (2, [.ref qc, .ref qg, .ref qa, .ref qt, .ref qm, .int (nI 2), .int (zI og), .long nh, .int nr, .int (nI na), .int (nI (nt + cn)), .int mb1_1, .long t1, .long t2])), (qc, .inr (0, [.ref qs, .ref qu, .ref qw, .ref qb, .ref qe])), (qs, .inl (ks, 256, .inl (nF sb))), (qw, .inl (kw, 44, .inl w)), (qb, .inl (kb, 16, .inl (nF b1_1))), (qe, .inl (ke, 16, .inl (nF z1_1))), (qm, .inl (km, 16, .inl (nF mk1_1))), (qt, .inl (kt, 96, .inl (nF (ofl (tpg sb w nh nr y nt) tb nt cn))))] H := hP
      have hD : va_D A [(x, .inr (2, [.ref qc, .ref qg, .ref qa, .ref qt, .ref qm, .int (nI 2), .int (zI og), .long nh, .int nr, .int (nI na), .int (nI (nt + cn)), .int mb1_1, .long t1, .long t2])), (qc, .inr (0, [.ref qs, .ref qu, .ref qw, .ref qb, .ref qe])), (qs, .inl (ks, 256, .inl (nF sb))), (qw, .inl (kw, 44, .inl w)), (qb, .inl (kb, 16, .inl (nF b1_1))), (qe, .inl (ke, 16, .inl (nF z1_1))), (qm, .inl (km, 16, .inl (nF mk1_1))), (qt, .inl (kt, 96, .inl (nF (ofl (tpg sb w nh nr y nt) tb nt cn))))] := hD
      refine W.widen (k := 0) (n := 0) (Nat.le_of_ble_eq_true rfl) (Nat.le_of_ble_eq_true rfl) ?_
      refine w_pc (pc2 := 52) rfl ?_
      exact rx_l (b1_1, z1_1, mk1_1, mb1_1) (hphi_49) hx hb hr hlk hQ hAe hK hP hD hS [0, 1, 2, 3, 4, 5, 6, 7] [] (by decide) rfl rfl (Nat.le_of_ble_eq_true rfl) (Nat.le_of_ble_eq_true rfl) (rfl) dX2_text_52
    · skip
      exact absurd (zI1 (b := og) hc_34) (by rw [hog]; decide)
  · skip
    exact absurd (zI0 (b := uwN ph) hc_4) (by rw [huw]; decide)

def rm_t_word : Room := { frames := 6, cells := 1, slots := 6, locals := 90 }
set_option maxHeartbeats 4000000 in
set_option maxRecDepth 100000 in
/-- word throws -/
theorem t_word (l : Launch) (dC : Nat → ClassId) (dI : Nat → Nat → Nat) (x : Nat) (qc : Nat) (qg : Nat) (qa : Nat) (qt : Nat) (qm : Nat) (ph : Nat) (og : Bool) (nh : Int64) (nr : Int32) (na : Nat) (nt : Nat) (mb : Int32) (t1 : Int64) (t2 : Int64) (v : Int32) (hst : l.stackTraces = false) (hno : v < 0 ∨ nI 44 ≤ v) : MT l dC dI yX2_word wsX2_word rm_t_word [.ref x, .int v] [(x, .inr (2, [.ref qc, .ref qg, .ref qa, .ref qt, .ref qm, .int (nI ph), .int (zI og), .long nh, .int nr, .int (nI na), .int (nI nt), .int mb, .long t1, .long t2]))] [] sIO := by
  refine mt_ofW (cc := cX2_word) (maxL := 2) (ret := (some .int)) (by decide) rfl (Nat.le_of_ble_eq_true rfl) ?_
  intro p e s m args below meth c Q A H locs ls hx hb hr hlk hml hta hown hin hE hT hZ ht hQ hAe hA hK hP hD hS hl
  have hown : s.vm.findClass RX2 = some m.cls := hown
  have hl : lv_has ls 2 [(0, .ref x), (1, .int v)] := hl
  refine lv_iload_n hx hb dX2_word_0 rfl (lv_at hl 1 rfl) ?_
  refine lv_if_lt (tgt := 10) hx hb dX2_word_1 (by decide) (fun hc_1 => ?_) (fun hc_1 => ?_)
  · skip
    exact th_0 (names := xNM) (cls := sIO) hx hb hst hown (by decide +kernel) (by decide +kernel) (hta _ mw_238) (hta _ mw_9) (vx_hat (fun w h => hta w (xa_49 w h)) xb_49 (vx_c (va_Nw.use rfl hT.1) (vx_c (va_Nw.use rfl hT.2.2.2.2.2.2.2.1) (vx_c (va_Nw.use rfl hT.2.2.2.2.2.2.2.2.1) (vx_c (va_Nw.use rfl hT.2.2.2.2.2.2.2.2.2) vx_n))))) xg_49 hQ hAe hZ hP hD hS (hl.1.trans hml.symm) [0] (by decide) rfl dX2_word_10 dX2_word_13 dX2_word_14 dX2_word_17 ht (by decide) (by decide) (Nat.le_of_ble_eq_true rfl) (Nat.le_of_ble_eq_true rfl) hlk (Nat.le_of_ble_eq_true rfl) (Nat.le_of_ble_eq_true rfl)
  · skip
    refine lv_iload_n hx hb dX2_word_4 rfl (lv_at hl 1 rfl) ?_
    refine lv_bipush (v := nI 44) hx hb dX2_word_5 (by decide) ?_
    refine lv_icmp_lt (tgt := 18) hx hb dX2_word_7 (by decide) (fun hc_7 => ?_) (fun hc_7 => ?_)
    · skip
      exact absurd hc_7 (ge_lt hno (by assumption) (by decide))
    · skip
      exact th_0 (names := xNM) (cls := sIO) hx hb hst hown (by decide +kernel) (by decide +kernel) (hta _ mw_238) (hta _ mw_9) (vx_hat (fun w h => hta w (xa_49 w h)) xb_49 (vx_c (va_Nw.use rfl hT.1) (vx_c (va_Nw.use rfl hT.2.2.2.2.2.2.2.1) (vx_c (va_Nw.use rfl hT.2.2.2.2.2.2.2.2.1) (vx_c (va_Nw.use rfl hT.2.2.2.2.2.2.2.2.2) vx_n))))) xg_49 hQ hAe hZ hP hD hS (hl.1.trans hml.symm) [0] (by decide) rfl dX2_word_10 dX2_word_13 dX2_word_14 dX2_word_17 ht (by decide) (by decide) (Nat.le_of_ble_eq_true rfl) (Nat.le_of_ble_eq_true rfl) hlk (Nat.le_of_ble_eq_true rfl) (Nat.le_of_ble_eq_true rfl)

def rm_t_check2 : Room := { frames := 6, cells := 1, slots := 6, locals := 90 }
set_option maxHeartbeats 4000000 in
set_option maxRecDepth 100000 in
/-- checkPiece: no piece -/
theorem t_check2 (l : Launch) (dC : Nat → ClassId) (dI : Nat → Nat → Nat) (v : Int32) (hd9 : Nat) (mo : Nat) (hst : l.stackTraces = false) (hno : v < 0 ∨ nI 9 ≤ v) : MT l dC dI yX2_checkPiece wsX2_checkPiece rm_t_check2 [.int v, .int (nI hd9), .int (nI mo)] [] [] sIA := by
  refine mt_ofW (cc := cX2_checkPiece) (maxL := 3) (ret := none) (by decide) rfl (Nat.le_of_ble_eq_true rfl) ?_
  intro p e s m args below meth c Q A H locs ls hx hb hr hlk hml hta hown hin hE hT hZ ht hQ hAe hA hK hP hD hS hl
  have hown : s.vm.findClass RX2 = some m.cls := hown
  have hl : lv_has ls 3 [(0, .int v), (1, .int (nI hd9)), (2, .int (nI mo))] := hl
  refine lv_iload_n hx hb dX2_checkPiece_0 rfl (lv_at hl 0 rfl) ?_
  refine lv_if_lt (tgt := 10) hx hb dX2_checkPiece_1 (by decide) (fun hc_1 => ?_) (fun hc_1 => ?_)
  · skip
    exact th_0 (names := xNM) (cls := sIA) hx hb hst hown (by decide +kernel) (by decide +kernel) (hta _ mw_334) (hta _ mw_12) (vx_hat (fun w h => hta w (xa_128 w h)) xb_128 (vx_c (va_Nw.use rfl hT.2.2.1) (vx_c (va_Nw.use rfl hT.2.2.2.2.2.2.2.1) (vx_c (va_Nw.use rfl hT.2.2.2.2.2.2.2.2.1) (vx_c (va_Nw.use rfl hT.2.2.2.2.2.2.2.2.2) vx_n))))) xg_128 hQ hAe hZ hP hD hS (hl.1.trans hml.symm) [] (by decide) rfl dX2_checkPiece_10 dX2_checkPiece_13 dX2_checkPiece_14 dX2_checkPiece_17 ht (by decide) (by decide) (Nat.le_of_ble_eq_true rfl) (Nat.le_of_ble_eq_true rfl) hlk (Nat.le_of_ble_eq_true rfl) (Nat.le_of_ble_eq_true rfl)
  · skip
    refine lv_iload_n hx hb dX2_checkPiece_4 rfl (lv_at hl 0 rfl) ?_
    refine lv_bipush (v := nI 8) hx hb dX2_checkPiece_5 (by decide) ?_
    refine lv_icmp_le (tgt := 18) hx hb dX2_checkPiece_7 (by decide) (fun hc_7 => ?_) (fun hc_7 => ?_)
    · skip
      exact absurd hc_7 (ge_le hno (by assumption) (by decide))
    · skip
      exact th_0 (names := xNM) (cls := sIA) hx hb hst hown (by decide +kernel) (by decide +kernel) (hta _ mw_334) (hta _ mw_12) (vx_hat (fun w h => hta w (xa_128 w h)) xb_128 (vx_c (va_Nw.use rfl hT.2.2.1) (vx_c (va_Nw.use rfl hT.2.2.2.2.2.2.2.1) (vx_c (va_Nw.use rfl hT.2.2.2.2.2.2.2.2.1) (vx_c (va_Nw.use rfl hT.2.2.2.2.2.2.2.2.2) vx_n))))) xg_128 hQ hAe hZ hP hD hS (hl.1.trans hml.symm) [] (by decide) rfl dX2_checkPiece_10 dX2_checkPiece_13 dX2_checkPiece_14 dX2_checkPiece_17 ht (by decide) (by decide) (Nat.le_of_ble_eq_true rfl) (Nat.le_of_ble_eq_true rfl) hlk (Nat.le_of_ble_eq_true rfl) (Nat.le_of_ble_eq_true rfl)

def rm_t_check3 : Room := { frames := 6, cells := 1, slots := 6, locals := 90 }
set_option maxHeartbeats 4000000 in
set_option maxRecDepth 100000 in
/-- checkPiece: too much -/
theorem t_check3 (l : Launch) (dC : Nat → ClassId) (dI : Nat → Nat → Nat) (cn : Nat) (hd9 : Nat) (mo : Nat) (hst : l.stackTraces = false) (hcn : cn ≤ 8) (hhd : mo < hd9 + cn) (hh9 : hd9 ≤ 96) : MT l dC dI yX2_checkPiece wsX2_checkPiece rm_t_check3 [.int (nI cn), .int (nI hd9), .int (nI mo)] [] [] sUO := by
  refine mt_ofW (cc := cX2_checkPiece) (maxL := 3) (ret := none) (by decide) rfl (Nat.le_of_ble_eq_true rfl) ?_
  intro p e s m args below meth c Q A H locs ls hx hb hr hlk hml hta hown hin hE hT hZ ht hQ hAe hA hK hP hD hS hl
  have hown : s.vm.findClass RX2 = some m.cls := hown
  have hl : lv_has ls 3 [(0, .int (nI cn)), (1, .int (nI hd9)), (2, .int (nI mo))] := hl
  refine lv_iload_n hx hb dX2_checkPiece_0 rfl (lv_at hl 0 rfl) ?_
  refine lv_if_lt (tgt := 10) hx hb dX2_checkPiece_1 (by decide) (fun hc_1 => ?_) (fun hc_1 => ?_)
  · skip
    have hc_1 := (ix_lt (a := cn) (b := 0) (by omega) (by omega)).mp hc_1
    have hc_1 : (cn < 0) := hc_1
    exfalso; omega
  · skip
    have hc_1 := (not_congr (ix_lt (a := cn) (b := 0) (by omega) (by omega))).mp hc_1
    have hc_1 : ¬ (cn < 0) := hc_1
    refine lv_iload_n hx hb dX2_checkPiece_4 rfl (lv_at hl 0 rfl) ?_
    refine lv_bipush (v := nI 8) hx hb dX2_checkPiece_5 (by decide) ?_
    refine lv_icmp_le (tgt := 18) hx hb dX2_checkPiece_7 (by decide) (fun hc_7 => ?_) (fun hc_7 => ?_)
    · skip
      have hc_7 := (ix_le (a := cn) (b := 8) (by omega) (by omega)).mp hc_7
      have hc_7 : (cn ≤ 8) := hc_7
      refine lv_iload_n hx hb dX2_checkPiece_18 rfl (lv_at hl 1 rfl) ?_
      refine lv_iload_n hx hb dX2_checkPiece_19 rfl (lv_at hl 0 rfl) ?_
      refine lv_iadd hx hb dX2_checkPiece_20 (top_i (nI_add _ _) ?_)
      refine lv_iload_n hx hb dX2_checkPiece_21 rfl (lv_at hl 2 rfl) ?_
      refine lv_icmp_le (tgt := 33) hx hb dX2_checkPiece_22 (by decide) (fun hc_22 => ?_) (fun hc_22 => ?_)
      · skip
        have hc_22 := (ix_le (a := hd9 + cn) (b := mo) (by omega) (by omega)).mp hc_22
        have hc_22 : ((hd9 + cn) ≤ mo) := hc_22
        exfalso; omega
      · skip
        have hc_22 := (not_congr (ix_le (a := hd9 + cn) (b := mo) (by omega) (by omega))).mp hc_22
        have hc_22 : ¬ ((hd9 + cn) ≤ mo) := hc_22
        exact th_0 (names := xNM) (cls := sUO) hx hb hst hown (by decide +kernel) (by decide +kernel) (hta _ mw_349) (hta _ mw_13) (vx_hat (fun w h => hta w (xa_131 w h)) xb_131 (vx_c (va_Nw.use rfl hT.2.2.2.1) (vx_c (va_Nw.use rfl hT.2.2.2.2.2.2.2.1) (vx_c (va_Nw.use rfl hT.2.2.2.2.2.2.2.2.1) (vx_c (va_Nw.use rfl hT.2.2.2.2.2.2.2.2.2) vx_n))))) xg_131 hQ hAe hZ hP hD hS (hl.1.trans hml.symm) [] (by decide) rfl dX2_checkPiece_25 dX2_checkPiece_28 dX2_checkPiece_29 dX2_checkPiece_32 ht (by decide) (by decide) (Nat.le_of_ble_eq_true rfl) (Nat.le_of_ble_eq_true rfl) hlk (Nat.le_of_ble_eq_true rfl) (Nat.le_of_ble_eq_true rfl)
    · skip
      have hc_7 := (not_congr (ix_le (a := cn) (b := 8) (by omega) (by omega))).mp hc_7
      have hc_7 : ¬ (cn ≤ 8) := hc_7
      exfalso; omega

def rm_t_aside1 : Room := { frames := 6, cells := 1, slots := 6, locals := 90 }
set_option maxHeartbeats 4000000 in
set_option maxRecDepth 100000 in
/-- aside: not now -/
theorem t_aside1 (l : Launch) (dC : Nat → ClassId) (dI : Nat → Nat → Nat) (x : Nat) (qc : Nat) (qg : Nat) (qa : Nat) (qt : Nat) (qm : Nat) (ph : Nat) (og : Bool) (nh : Int64) (nr : Int32) (na : Nat) (nt : Nat) (mb : Int32) (t1 : Int64) (t2 : Int64) (y : Int64) (v : Int32) (hst : l.stackTraces = false) (hph6 : ph < 6) (hph : ¬ ph = 1) : MT l dC dI yX2_aside wsX2_aside rm_t_aside1 [.ref x, .long y, .int v] [(x, .inr (2, [.ref qc, .ref qg, .ref qa, .ref qt, .ref qm, .int (nI ph), .int (zI og), .long nh, .int nr, .int (nI na), .int (nI nt), .int mb, .long t1, .long t2]))] [] sIS := by
  refine mt_ofW (cc := cX2_aside) (maxL := 5) (ret := (some .int)) (by decide) rfl (Nat.le_of_ble_eq_true rfl) ?_
  intro p e s m args below meth c Q A H locs ls hx hb hr hlk hml hta hown hin hE hT hZ ht hQ hAe hA hK hP hD hS hl
  have hown : s.vm.findClass RX2 = some m.cls := hown
  have hl : lv_has ls 5 [(0, .ref x), (1, .long y), (3, .int v)] := hl
  refine lv_aload_n hx hb dX2_aside_0 rfl (lv_at hl 0 rfl) ?_
  refine va_get (D := (dC, dI)) (ci := 2) (v := .int (nI ph)) (C := RX2) (T := TX2) (N := 14) hx hb hta inX2 hown hK hP 0 rfl rfl 5 (by decide) (hta _ mw_85) (fun _ h9 => h9) rfl dX2_aside_1 ?_
  refine lv_iconst (v := nI 1) hx hb dX2_aside_4 (by decide) ?_
  refine lv_icmp_eq (tgt := 16) hx hb dX2_aside_5 (by decide) (fun hc_5 => ?_) (fun hc_5 => ?_)
  · skip
    have hc_5 := (ix_eq (a := ph) (b := 1) (by omega) (by omega)).mp hc_5
    have hc_5 : (ph = 1) := hc_5
    exfalso; omega
  · skip
    have hc_5 := (not_congr (ix_eq (a := ph) (b := 1) (by omega) (by omega))).mp hc_5
    have hc_5 : ¬ (ph = 1) := hc_5
    exact th_0 (names := xNM) (cls := sIS) hx hb hst hown (by decide +kernel) (by decide +kernel) (hta _ mw_316) (hta _ mw_11) (vx_hat (fun w h => hta w (xa_91 w h)) xb_91 (vx_c (va_Nw.use rfl hT.2.1) (vx_c (va_Nw.use rfl hT.2.2.2.2.2.2.2.1) (vx_c (va_Nw.use rfl hT.2.2.2.2.2.2.2.2.1) (vx_c (va_Nw.use rfl hT.2.2.2.2.2.2.2.2.2) vx_n))))) xg_91 hQ hAe hZ hP hD hS (hl.1.trans hml.symm) [0] (by decide) rfl dX2_aside_8 dX2_aside_11 dX2_aside_12 dX2_aside_15 ht (by decide) (by decide) (Nat.le_of_ble_eq_true rfl) (Nat.le_of_ble_eq_true rfl) hlk (Nat.le_of_ble_eq_true rfl) (Nat.le_of_ble_eq_true rfl)

def rm_t_aside2 : Room := { frames := 7, cells := 1, slots := 6, locals := 112 }
set_option maxHeartbeats 4000000 in
set_option maxRecDepth 100000 in
/-- aside: no piece -/
theorem t_aside2 (l : Launch) (dC : Nat → ClassId) (dI : Nat → Nat → Nat) (x : Nat) (qc : Nat) (qg : Nat) (qa : Nat) (qt : Nat) (qm : Nat) (ph : Nat) (og : Bool) (nh : Int64) (nr : Int32) (na : Nat) (nt : Nat) (mb : Int32) (t1 : Int64) (t2 : Int64) (y : Int64) (v : Int32) (hst : l.stackTraces = false) (hph : ph = 1) (hno : v < 0 ∨ nI 9 ≤ v) : MT l dC dI yX2_aside wsX2_aside rm_t_aside2 [.ref x, .long y, .int v] [(x, .inr (2, [.ref qc, .ref qg, .ref qa, .ref qt, .ref qm, .int (nI ph), .int (zI og), .long nh, .int nr, .int (nI na), .int (nI nt), .int mb, .long t1, .long t2]))] [] sIA := by
  refine mt_ofW (cc := cX2_aside) (maxL := 5) (ret := (some .int)) (by decide) rfl (Nat.le_of_ble_eq_true rfl) ?_
  intro p e s m args below meth c Q A H locs ls hx hb hr hlk hml hta hown hin hE hT hZ ht hQ hAe hA hK hP hD hS hl
  have hown : s.vm.findClass RX2 = some m.cls := hown
  have hl : lv_has ls 5 [(0, .ref x), (1, .long y), (3, .int v)] := hl
  refine lv_aload_n hx hb dX2_aside_0 rfl (lv_at hl 0 rfl) ?_
  refine va_get (D := (dC, dI)) (ci := 2) (v := .int (nI ph)) (C := RX2) (T := TX2) (N := 14) hx hb hta inX2 hown hK hP 0 rfl rfl 5 (by decide) (hta _ mw_85) (fun _ h9 => h9) rfl dX2_aside_1 ?_
  refine lv_iconst (v := nI 1) hx hb dX2_aside_4 (by decide) ?_
  refine lv_icmp_eq (tgt := 16) hx hb dX2_aside_5 (by decide) (fun hc_5 => ?_) (fun hc_5 => ?_)
  · skip
    have hc_5 := (ix_eq (a := ph) (b := 1) (by omega) (by omega)).mp hc_5
    have hc_5 : (ph = 1) := hc_5
    refine lv_iload_n hx hb dX2_aside_16 rfl (lv_at hl 2 rfl) ?_
    refine lv_aload_n hx hb dX2_aside_17 rfl (lv_at hl 0 rfl) ?_
    refine va_get (D := (dC, dI)) (ci := 2) (v := .int (nI na)) (C := RX2) (T := TX2) (N := 14) hx hb hta inX2 hown hK hP 0 rfl rfl 9 (by decide) (hta _ mw_89) (fun _ h9 => h9) rfl dX2_aside_18 ?_
    refine lv_bipush (v := nI 48) hx hb dX2_aside_21 (by decide) ?_
    exact ct_out (wr := [(x, .inr (2, [.ref qc, .ref qg, .ref qa, .ref qt, .ref qm, .int (nI ph), .int (zI og), .long nh, .int nr, .int (nI na), .int (nI nt), .int mb, .long t1, .long t2]))]) (vx_runS (As := [.int v, .int (nI na), .int (nI 48)]) (rest := []) ⟨hx, hb, hml, hown, hta⟩ (MT.to (t_check2 l dC dI v na 48 hst hno) H.size) (va_cwS 3 hta (aw_S mw_333 mw_331 mw_332 mw_1) rfl rfl rfl dyX2_checkPiece ⟨(Nat.le_of_ble_eq_true rfl), (Nat.le_of_ble_eq_true rfl)⟩) (pt_S hP hD hK hE hT hZ hS hA [] [] (by decide) rfl rfl) rfl rfl hl.1 rfl (lv_room (Nat.le_of_ble_eq_true rfl)) dX2_aside_23 ⟨(Nat.le_of_ble_eq_true rfl), (Nat.le_of_ble_eq_true rfl)⟩) hQ hAe ht hlk hP hD hS hA [] [0] rfl rfl (by decide) (by decide) [0] (by decide) rfl (Nat.le_of_ble_eq_true rfl) (Nat.le_of_ble_eq_true rfl)
  · skip
    have hc_5 := (not_congr (ix_eq (a := ph) (b := 1) (by omega) (by omega))).mp hc_5
    have hc_5 : ¬ (ph = 1) := hc_5
    exfalso; omega

def rm_t_aside3 : Room := { frames := 7, cells := 1, slots := 6, locals := 112 }
set_option maxHeartbeats 4000000 in
set_option maxRecDepth 100000 in
/-- aside: too much -/
theorem t_aside3 (l : Launch) (dC : Nat → ClassId) (dI : Nat → Nat → Nat) (x : Nat) (qc : Nat) (qg : Nat) (qa : Nat) (qt : Nat) (qm : Nat) (ph : Nat) (og : Bool) (nh : Int64) (nr : Int32) (na : Nat) (nt : Nat) (mb : Int32) (t1 : Int64) (t2 : Int64) (y : Int64) (cn : Nat) (hst : l.stackTraces = false) (hph : ph = 1) (hcn : cn ≤ 8) (hna : 48 < na + cn) (hnb : na ≤ 96) : MT l dC dI yX2_aside wsX2_aside rm_t_aside3 [.ref x, .long y, .int (nI cn)] [(x, .inr (2, [.ref qc, .ref qg, .ref qa, .ref qt, .ref qm, .int (nI ph), .int (zI og), .long nh, .int nr, .int (nI na), .int (nI nt), .int mb, .long t1, .long t2]))] [] sUO := by
  refine mt_ofW (cc := cX2_aside) (maxL := 5) (ret := (some .int)) (by decide) rfl (Nat.le_of_ble_eq_true rfl) ?_
  intro p e s m args below meth c Q A H locs ls hx hb hr hlk hml hta hown hin hE hT hZ ht hQ hAe hA hK hP hD hS hl
  have hown : s.vm.findClass RX2 = some m.cls := hown
  have hl : lv_has ls 5 [(0, .ref x), (1, .long y), (3, .int (nI cn))] := hl
  refine lv_aload_n hx hb dX2_aside_0 rfl (lv_at hl 0 rfl) ?_
  refine va_get (D := (dC, dI)) (ci := 2) (v := .int (nI ph)) (C := RX2) (T := TX2) (N := 14) hx hb hta inX2 hown hK hP 0 rfl rfl 5 (by decide) (hta _ mw_85) (fun _ h9 => h9) rfl dX2_aside_1 ?_
  refine lv_iconst (v := nI 1) hx hb dX2_aside_4 (by decide) ?_
  refine lv_icmp_eq (tgt := 16) hx hb dX2_aside_5 (by decide) (fun hc_5 => ?_) (fun hc_5 => ?_)
  · skip
    have hc_5 := (ix_eq (a := ph) (b := 1) (by omega) (by omega)).mp hc_5
    have hc_5 : (ph = 1) := hc_5
    refine lv_iload_n hx hb dX2_aside_16 rfl (lv_at hl 2 rfl) ?_
    refine lv_aload_n hx hb dX2_aside_17 rfl (lv_at hl 0 rfl) ?_
    refine va_get (D := (dC, dI)) (ci := 2) (v := .int (nI na)) (C := RX2) (T := TX2) (N := 14) hx hb hta inX2 hown hK hP 0 rfl rfl 9 (by decide) (hta _ mw_89) (fun _ h9 => h9) rfl dX2_aside_18 ?_
    refine lv_bipush (v := nI 48) hx hb dX2_aside_21 (by decide) ?_
    exact ct_out (wr := [(x, .inr (2, [.ref qc, .ref qg, .ref qa, .ref qt, .ref qm, .int (nI ph), .int (zI og), .long nh, .int nr, .int (nI na), .int (nI nt), .int mb, .long t1, .long t2]))]) (vx_runS (As := [.int (nI cn), .int (nI na), .int (nI 48)]) (rest := []) ⟨hx, hb, hml, hown, hta⟩ (MT.to (t_check3 l dC dI cn na 48 hst hcn hna hnb) H.size) (va_cwS 3 hta (aw_S mw_333 mw_331 mw_332 mw_1) rfl rfl rfl dyX2_checkPiece ⟨(Nat.le_of_ble_eq_true rfl), (Nat.le_of_ble_eq_true rfl)⟩) (pt_S hP hD hK hE hT hZ hS hA [] [] (by decide) rfl rfl) rfl rfl hl.1 rfl (lv_room (Nat.le_of_ble_eq_true rfl)) dX2_aside_23 ⟨(Nat.le_of_ble_eq_true rfl), (Nat.le_of_ble_eq_true rfl)⟩) hQ hAe ht hlk hP hD hS hA [] [0] rfl rfl (by decide) (by decide) [0] (by decide) rfl (Nat.le_of_ble_eq_true rfl) (Nat.le_of_ble_eq_true rfl)
  · skip
    have hc_5 := (not_congr (ix_eq (a := ph) (b := 1) (by omega) (by omega))).mp hc_5
    have hc_5 : ¬ (ph = 1) := hc_5
    exfalso; omega

def rm_t_text1 : Room := { frames := 6, cells := 1, slots := 6, locals := 90 }
set_option maxHeartbeats 4000000 in
set_option maxRecDepth 100000 in
/-- text: not now -/
theorem t_text1 (l : Launch) (dC : Nat → ClassId) (dI : Nat → Nat → Nat) (x : Nat) (qc : Nat) (qg : Nat) (qa : Nat) (qt : Nat) (qm : Nat) (ph : Nat) (og : Bool) (nh : Int64) (nr : Int32) (na : Nat) (nt : Nat) (mb : Int32) (t1 : Int64) (t2 : Int64) (y : Int64) (v : Int32) (hst : l.stackTraces = false) (hph6 : ph < 6) (huw : uwN ph = false) : MT l dC dI yX2_text wsX2_text rm_t_text1 [.ref x, .long y, .int v] [(x, .inr (2, [.ref qc, .ref qg, .ref qa, .ref qt, .ref qm, .int (nI ph), .int (zI og), .long nh, .int nr, .int (nI na), .int (nI nt), .int mb, .long t1, .long t2]))] [] sIS := by
  refine mt_ofW (cc := cX2_text) (maxL := 4) (ret := (some .long)) (by decide) rfl (Nat.le_of_ble_eq_true rfl) ?_
  intro p e s m args below meth c Q A H locs ls hx hb hr hlk hml hta hown hin hE hT hZ ht hQ hAe hA hK hP hD hS hl
  have hown : s.vm.findClass RX2 = some m.cls := hown
  have hl : lv_has ls 4 [(0, .ref x), (1, .long y), (3, .int v)] := hl
  refine lv_aload_n hx hb dX2_text_0 rfl (lv_at hl 0 rfl) ?_
  refine cf_1 (wr := []) (va_runV (As := []) (rest := []) ⟨hx, hb, hml, hown, hta⟩ (MO.to (c_isUnderWay l dC dI x qc qg qa qt qm ph og nh nr na nt mb t1 t2 hph6) H.size) (cwV 0 hta (aw_V mw_377 mw_374 mw_376 mw_s11 mw_1) rfl rfl rfl ⟨rfl, dyX2_isUnderWay⟩ ⟨(Nat.le_of_ble_eq_true rfl), (Nat.le_of_ble_eq_true rfl)⟩) (pr_V hP hD hK hE [0] [] (by decide) rfl rfl rfl rfl) rfl rfl hl.1 rfl (lv_room (Nat.le_of_ble_eq_true rfl)) dX2_text_1 ⟨(Nat.le_of_ble_eq_true rfl), (Nat.le_of_ble_eq_true rfl)⟩) hP hD hS hA [0] [] rfl rfl (by decide) (by decide) (fun H locs hP hD hS => ?_)
  have hP : va_P (dC, dI) vwCl [(x, .inr (2, [.ref qc, .ref qg, .ref qa, .ref qt, .ref qm, .int (nI ph), .int (zI og), .long nh, .int nr, .int (nI na), .int (nI nt), .int mb, .long t1, .long t2]))] H := hP
  have hD : va_D A [(x, .inr (2, [.ref qc, .ref qg, .ref qa, .ref qt, .ref qm, .int (nI ph), .int (zI og), .long nh, .int nr, .int (nI na), .int (nI nt), .int mb, .long t1, .long t2]))] := hD
  refine W.widen (k := 0) (n := 0) (Nat.le_of_ble_eq_true rfl) (Nat.le_of_ble_eq_true rfl) ?_
  refine w_pc (pc2 := 4) rfl ?_
  refine lv_if_ne (tgt := 15) hx hb dX2_text_4 (by decide) (fun hc_4 => ?_) (fun hc_4 => ?_)
  · skip
    exact absurd (zI1 (b := uwN ph) hc_4) (by rw [huw]; decide)
  · skip
    exact th_0 (names := xNM) (cls := sIS) hx hb hst hown (by decide +kernel) (by decide +kernel) (hta _ mw_316) (hta _ mw_11) (vx_hat (fun w h => hta w (xa_91 w h)) xb_91 (vx_c (va_Nw.use rfl hT.2.1) (vx_c (va_Nw.use rfl hT.2.2.2.2.2.2.2.1) (vx_c (va_Nw.use rfl hT.2.2.2.2.2.2.2.2.1) (vx_c (va_Nw.use rfl hT.2.2.2.2.2.2.2.2.2) vx_n))))) xg_91 hQ hAe hZ hP hD hS (hl.1.trans hml.symm) [0] (by decide) rfl dX2_text_7 dX2_text_10 dX2_text_11 dX2_text_14 ht (by decide) (by decide) (Nat.le_of_ble_eq_true rfl) (Nat.le_of_ble_eq_true rfl) hlk (Nat.le_of_ble_eq_true rfl) (Nat.le_of_ble_eq_true rfl)

def rm_t_text2 : Room := { frames := 7, cells := 1, slots := 6, locals := 112 }
set_option maxHeartbeats 4000000 in
set_option maxRecDepth 100000 in
/-- text: no piece -/
theorem t_text2 (l : Launch) (dC : Nat → ClassId) (dI : Nat → Nat → Nat) (x : Nat) (qc : Nat) (qg : Nat) (qa : Nat) (qt : Nat) (qm : Nat) (ph : Nat) (og : Bool) (nh : Int64) (nr : Int32) (na : Nat) (nt : Nat) (mb : Int32) (t1 : Int64) (t2 : Int64) (y : Int64) (v : Int32) (hst : l.stackTraces = false) (hph6 : ph < 6) (huw : uwN ph = true) (hno : v < 0 ∨ nI 9 ≤ v) : MT l dC dI yX2_text wsX2_text rm_t_text2 [.ref x, .long y, .int v] [(x, .inr (2, [.ref qc, .ref qg, .ref qa, .ref qt, .ref qm, .int (nI ph), .int (zI og), .long nh, .int nr, .int (nI na), .int (nI nt), .int mb, .long t1, .long t2]))] [] sIA := by
  refine mt_ofW (cc := cX2_text) (maxL := 4) (ret := (some .long)) (by decide) rfl (Nat.le_of_ble_eq_true rfl) ?_
  intro p e s m args below meth c Q A H locs ls hx hb hr hlk hml hta hown hin hE hT hZ ht hQ hAe hA hK hP hD hS hl
  have hown : s.vm.findClass RX2 = some m.cls := hown
  have hl : lv_has ls 4 [(0, .ref x), (1, .long y), (3, .int v)] := hl
  refine lv_aload_n hx hb dX2_text_0 rfl (lv_at hl 0 rfl) ?_
  refine cf_1 (wr := []) (va_runV (As := []) (rest := []) ⟨hx, hb, hml, hown, hta⟩ (MO.to (c_isUnderWay l dC dI x qc qg qa qt qm ph og nh nr na nt mb t1 t2 hph6) H.size) (cwV 0 hta (aw_V mw_377 mw_374 mw_376 mw_s11 mw_1) rfl rfl rfl ⟨rfl, dyX2_isUnderWay⟩ ⟨(Nat.le_of_ble_eq_true rfl), (Nat.le_of_ble_eq_true rfl)⟩) (pr_V hP hD hK hE [0] [] (by decide) rfl rfl rfl rfl) rfl rfl hl.1 rfl (lv_room (Nat.le_of_ble_eq_true rfl)) dX2_text_1 ⟨(Nat.le_of_ble_eq_true rfl), (Nat.le_of_ble_eq_true rfl)⟩) hP hD hS hA [0] [] rfl rfl (by decide) (by decide) (fun H locs hP hD hS => ?_)
  have hP : va_P (dC, dI) vwCl [(x, .inr (2, [.ref qc, .ref qg, .ref qa, .ref qt, .ref qm, .int (nI ph), .int (zI og), .long nh, .int nr, .int (nI na), .int (nI nt), .int mb, .long t1, .long t2]))] H := hP
  have hD : va_D A [(x, .inr (2, [.ref qc, .ref qg, .ref qa, .ref qt, .ref qm, .int (nI ph), .int (zI og), .long nh, .int nr, .int (nI na), .int (nI nt), .int mb, .long t1, .long t2]))] := hD
  refine W.widen (k := 0) (n := 0) (Nat.le_of_ble_eq_true rfl) (Nat.le_of_ble_eq_true rfl) ?_
  refine w_pc (pc2 := 4) rfl ?_
  refine lv_if_ne (tgt := 15) hx hb dX2_text_4 (by decide) (fun hc_4 => ?_) (fun hc_4 => ?_)
  · skip
    refine lv_iload_n hx hb dX2_text_15 rfl (lv_at hl 2 rfl) ?_
    refine lv_aload_n hx hb dX2_text_16 rfl (lv_at hl 0 rfl) ?_
    refine va_get (D := (dC, dI)) (ci := 2) (v := .int (nI nt)) (C := RX2) (T := TX2) (N := 14) hx hb hta inX2 hown hK hP 0 rfl rfl 10 (by decide) (hta _ mw_90) (fun _ h9 => h9) rfl dX2_text_17 ?_
    refine lv_bipush (v := nI 96) hx hb dX2_text_20 (by decide) ?_
    exact ct_out (wr := [(x, .inr (2, [.ref qc, .ref qg, .ref qa, .ref qt, .ref qm, .int (nI ph), .int (zI og), .long nh, .int nr, .int (nI na), .int (nI nt), .int mb, .long t1, .long t2]))]) (vx_runS (As := [.int v, .int (nI nt), .int (nI 96)]) (rest := []) ⟨hx, hb, hml, hown, hta⟩ (MT.to (t_check2 l dC dI v nt 96 hst hno) H.size) (va_cwS 3 hta (aw_S mw_333 mw_331 mw_332 mw_1) rfl rfl rfl dyX2_checkPiece ⟨(Nat.le_of_ble_eq_true rfl), (Nat.le_of_ble_eq_true rfl)⟩) (pt_S hP hD hK hE hT hZ hS hA [] [] (by decide) rfl rfl) rfl rfl hl.1 rfl (lv_room (Nat.le_of_ble_eq_true rfl)) dX2_text_22 ⟨(Nat.le_of_ble_eq_true rfl), (Nat.le_of_ble_eq_true rfl)⟩) hQ hAe ht hlk hP hD hS hA [] [0] rfl rfl (by decide) (by decide) [0] (by decide) rfl (Nat.le_of_ble_eq_true rfl) (Nat.le_of_ble_eq_true rfl)
  · skip
    exact absurd (zI0 (b := uwN ph) hc_4) (by rw [huw]; decide)

def rm_t_text3 : Room := { frames := 7, cells := 1, slots := 6, locals := 112 }
set_option maxHeartbeats 4000000 in
set_option maxRecDepth 100000 in
/-- text: too much -/
theorem t_text3 (l : Launch) (dC : Nat → ClassId) (dI : Nat → Nat → Nat) (x : Nat) (qc : Nat) (qg : Nat) (qa : Nat) (qt : Nat) (qm : Nat) (ph : Nat) (og : Bool) (nh : Int64) (nr : Int32) (na : Nat) (nt : Nat) (mb : Int32) (t1 : Int64) (t2 : Int64) (y : Int64) (cn : Nat) (hst : l.stackTraces = false) (hph6 : ph < 6) (huw : uwN ph = true) (hcn : cn ≤ 8) (hnt : 96 < nt + cn) (hnb : nt ≤ 96) : MT l dC dI yX2_text wsX2_text rm_t_text3 [.ref x, .long y, .int (nI cn)] [(x, .inr (2, [.ref qc, .ref qg, .ref qa, .ref qt, .ref qm, .int (nI ph), .int (zI og), .long nh, .int nr, .int (nI na), .int (nI nt), .int mb, .long t1, .long t2]))] [] sUO := by
  refine mt_ofW (cc := cX2_text) (maxL := 4) (ret := (some .long)) (by decide) rfl (Nat.le_of_ble_eq_true rfl) ?_
  intro p e s m args below meth c Q A H locs ls hx hb hr hlk hml hta hown hin hE hT hZ ht hQ hAe hA hK hP hD hS hl
  have hown : s.vm.findClass RX2 = some m.cls := hown
  have hl : lv_has ls 4 [(0, .ref x), (1, .long y), (3, .int (nI cn))] := hl
  refine lv_aload_n hx hb dX2_text_0 rfl (lv_at hl 0 rfl) ?_
  refine cf_1 (wr := []) (va_runV (As := []) (rest := []) ⟨hx, hb, hml, hown, hta⟩ (MO.to (c_isUnderWay l dC dI x qc qg qa qt qm ph og nh nr na nt mb t1 t2 hph6) H.size) (cwV 0 hta (aw_V mw_377 mw_374 mw_376 mw_s11 mw_1) rfl rfl rfl ⟨rfl, dyX2_isUnderWay⟩ ⟨(Nat.le_of_ble_eq_true rfl), (Nat.le_of_ble_eq_true rfl)⟩) (pr_V hP hD hK hE [0] [] (by decide) rfl rfl rfl rfl) rfl rfl hl.1 rfl (lv_room (Nat.le_of_ble_eq_true rfl)) dX2_text_1 ⟨(Nat.le_of_ble_eq_true rfl), (Nat.le_of_ble_eq_true rfl)⟩) hP hD hS hA [0] [] rfl rfl (by decide) (by decide) (fun H locs hP hD hS => ?_)
  have hP : va_P (dC, dI) vwCl [(x, .inr (2, [.ref qc, .ref qg, .ref qa, .ref qt, .ref qm, .int (nI ph), .int (zI og), .long nh, .int nr, .int (nI na), .int (nI nt), .int mb, .long t1, .long t2]))] H := hP
  have hD : va_D A [(x, .inr (2, [.ref qc, .ref qg, .ref qa, .ref qt, .ref qm, .int (nI ph), .int (zI og), .long nh, .int nr, .int (nI na), .int (nI nt), .int mb, .long t1, .long t2]))] := hD
  refine W.widen (k := 0) (n := 0) (Nat.le_of_ble_eq_true rfl) (Nat.le_of_ble_eq_true rfl) ?_
  refine w_pc (pc2 := 4) rfl ?_
  refine lv_if_ne (tgt := 15) hx hb dX2_text_4 (by decide) (fun hc_4 => ?_) (fun hc_4 => ?_)
  · skip
    refine lv_iload_n hx hb dX2_text_15 rfl (lv_at hl 2 rfl) ?_
    refine lv_aload_n hx hb dX2_text_16 rfl (lv_at hl 0 rfl) ?_
    refine va_get (D := (dC, dI)) (ci := 2) (v := .int (nI nt)) (C := RX2) (T := TX2) (N := 14) hx hb hta inX2 hown hK hP 0 rfl rfl 10 (by decide) (hta _ mw_90) (fun _ h9 => h9) rfl dX2_text_17 ?_
    refine lv_bipush (v := nI 96) hx hb dX2_text_20 (by decide) ?_
    exact ct_out (wr := [(x, .inr (2, [.ref qc, .ref qg, .ref qa, .ref qt, .ref qm, .int (nI ph), .int (zI og), .long nh, .int nr, .int (nI na), .int (nI nt), .int mb, .long t1, .long t2]))]) (vx_runS (As := [.int (nI cn), .int (nI nt), .int (nI 96)]) (rest := []) ⟨hx, hb, hml, hown, hta⟩ (MT.to (t_check3 l dC dI cn nt 96 hst hcn hnt hnb) H.size) (va_cwS 3 hta (aw_S mw_333 mw_331 mw_332 mw_1) rfl rfl rfl dyX2_checkPiece ⟨(Nat.le_of_ble_eq_true rfl), (Nat.le_of_ble_eq_true rfl)⟩) (pt_S hP hD hK hE hT hZ hS hA [] [] (by decide) rfl rfl) rfl rfl hl.1 rfl (lv_room (Nat.le_of_ble_eq_true rfl)) dX2_text_22 ⟨(Nat.le_of_ble_eq_true rfl), (Nat.le_of_ble_eq_true rfl)⟩) hQ hAe ht hlk hP hD hS hA [] [0] rfl rfl (by decide) (by decide) [0] (by decide) rfl (Nat.le_of_ble_eq_true rfl) (Nat.le_of_ble_eq_true rfl)
  · skip
    exact absurd (zI0 (b := uwN ph) hc_4) (by rw [huw]; decide)

def rm_t_seal : Room := { frames := 6, cells := 1, slots := 6, locals := 90 }
set_option maxHeartbeats 4000000 in
set_option maxRecDepth 100000 in
/-- seal: not now -/
theorem t_seal (l : Launch) (dC : Nat → ClassId) (dI : Nat → Nat → Nat) (x : Nat) (qc : Nat) (qg : Nat) (qa : Nat) (qt : Nat) (qm : Nat) (ph : Nat) (og : Bool) (nh : Int64) (nr : Int32) (na : Nat) (nt : Nat) (mb : Int32) (t1 : Int64) (t2 : Int64) (hst : l.stackTraces = false) (hph6 : ph < 6) (hno : uwN ph = false ∨ og = true) : MT l dC dI yX2_seal wsX2_seal rm_t_seal [.ref x] [(x, .inr (2, [.ref qc, .ref qg, .ref qa, .ref qt, .ref qm, .int (nI ph), .int (zI og), .long nh, .int nr, .int (nI na), .int (nI nt), .int mb, .long t1, .long t2]))] [] sIS := by
  refine mt_ofW (cc := cX2_seal) (maxL := 1) (ret := (some .int)) (by decide) rfl (Nat.le_of_ble_eq_true rfl) ?_
  intro p e s m args below meth c Q A H locs ls hx hb hr hlk hml hta hown hin hE hT hZ ht hQ hAe hA hK hP hD hS hl
  have hown : s.vm.findClass RX2 = some m.cls := hown
  have hl : lv_has ls 1 [(0, .ref x)] := hl
  refine lv_aload_n hx hb dX2_seal_0 rfl (lv_at hl 0 rfl) ?_
  refine cf_1 (wr := []) (va_runV (As := []) (rest := []) ⟨hx, hb, hml, hown, hta⟩ (MO.to (c_isUnderWay l dC dI x qc qg qa qt qm ph og nh nr na nt mb t1 t2 hph6) H.size) (cwV 0 hta (aw_V mw_377 mw_374 mw_376 mw_s11 mw_1) rfl rfl rfl ⟨rfl, dyX2_isUnderWay⟩ ⟨(Nat.le_of_ble_eq_true rfl), (Nat.le_of_ble_eq_true rfl)⟩) (pr_V hP hD hK hE [0] [] (by decide) rfl rfl rfl rfl) rfl rfl hl.1 rfl (lv_room (Nat.le_of_ble_eq_true rfl)) dX2_seal_1 ⟨(Nat.le_of_ble_eq_true rfl), (Nat.le_of_ble_eq_true rfl)⟩) hP hD hS hA [0] [] rfl rfl (by decide) (by decide) (fun H locs hP hD hS => ?_)
  have hP : va_P (dC, dI) vwCl [(x, .inr (2, [.ref qc, .ref qg, .ref qa, .ref qt, .ref qm, .int (nI ph), .int (zI og), .long nh, .int nr, .int (nI na), .int (nI nt), .int mb, .long t1, .long t2]))] H := hP
  have hD : va_D A [(x, .inr (2, [.ref qc, .ref qg, .ref qa, .ref qt, .ref qm, .int (nI ph), .int (zI og), .long nh, .int nr, .int (nI na), .int (nI nt), .int mb, .long t1, .long t2]))] := hD
  refine W.widen (k := 0) (n := 0) (Nat.le_of_ble_eq_true rfl) (Nat.le_of_ble_eq_true rfl) ?_
  refine w_pc (pc2 := 4) rfl ?_
  refine lv_if_eq (tgt := 14) hx hb dX2_seal_4 (by decide) (fun hc_4 => ?_) (fun hc_4 => ?_)
  · skip
    exact th_0 (names := xNM) (cls := sIS) hx hb hst hown (by decide +kernel) (by decide +kernel) (hta _ mw_316) (hta _ mw_11) (vx_hat (fun w h => hta w (xa_91 w h)) xb_91 (vx_c (va_Nw.use rfl hT.2.1) (vx_c (va_Nw.use rfl hT.2.2.2.2.2.2.2.1) (vx_c (va_Nw.use rfl hT.2.2.2.2.2.2.2.2.1) (vx_c (va_Nw.use rfl hT.2.2.2.2.2.2.2.2.2) vx_n))))) xg_91 hQ hAe hZ hP hD hS (hl.1.trans hml.symm) [0] (by decide) rfl dX2_seal_14 dX2_seal_17 dX2_seal_18 dX2_seal_21 ht (by decide) (by decide) (Nat.le_of_ble_eq_true rfl) (Nat.le_of_ble_eq_true rfl) hlk (Nat.le_of_ble_eq_true rfl) (Nat.le_of_ble_eq_true rfl)
  · skip
    refine lv_aload_n hx hb dX2_seal_7 rfl (lv_at hl 0 rfl) ?_
    refine va_get (D := (dC, dI)) (ci := 2) (v := .int (zI og)) (C := RX2) (T := TX2) (N := 14) hx hb hta inX2 hown hK hP 0 rfl rfl 6 (by decide) (hta _ mw_86) (fun _ h9 => h9) rfl dX2_seal_8 ?_
    refine lv_if_eq (tgt := 22) hx hb dX2_seal_11 (by decide) (fun hc_11 => ?_) (fun hc_11 => ?_)
    · skip
      exact hno.elim (fun h9 => absurd h9 (by rw [zI1 (b := uwN ph) (by assumption)]; decide)) (fun h9 => absurd h9 (by rw [zI0 (b := og) hc_11]; decide))
    · skip
      exact th_0 (names := xNM) (cls := sIS) hx hb hst hown (by decide +kernel) (by decide +kernel) (hta _ mw_316) (hta _ mw_11) (vx_hat (fun w h => hta w (xa_91 w h)) xb_91 (vx_c (va_Nw.use rfl hT.2.1) (vx_c (va_Nw.use rfl hT.2.2.2.2.2.2.2.1) (vx_c (va_Nw.use rfl hT.2.2.2.2.2.2.2.2.1) (vx_c (va_Nw.use rfl hT.2.2.2.2.2.2.2.2.2) vx_n))))) xg_91 hQ hAe hZ hP hD hS (hl.1.trans hml.symm) [0] (by decide) rfl dX2_seal_14 dX2_seal_17 dX2_seal_18 dX2_seal_21 ht (by decide) (by decide) (Nat.le_of_ble_eq_true rfl) (Nat.le_of_ble_eq_true rfl) hlk (Nat.le_of_ble_eq_true rfl) (Nat.le_of_ble_eq_true rfl)

def rm_t_open : Room := { frames := 6, cells := 1, slots := 6, locals := 90 }
set_option maxHeartbeats 4000000 in
set_option maxRecDepth 100000 in
/-- open: not now -/
theorem t_open (l : Launch) (dC : Nat → ClassId) (dI : Nat → Nat → Nat) (x : Nat) (qc : Nat) (qg : Nat) (qa : Nat) (qt : Nat) (qm : Nat) (ph : Nat) (og : Bool) (nh : Int64) (nr : Int32) (na : Nat) (nt : Nat) (mb : Int32) (t1 : Int64) (t2 : Int64) (hi : Int64) (lo : Int64) (hst : l.stackTraces = false) (hph6 : ph < 6) (hno : uwN ph = false ∨ og = false) : MT l dC dI yX2_open wsX2_open rm_t_open [.ref x, .long hi, .long lo] [(x, .inr (2, [.ref qc, .ref qg, .ref qa, .ref qt, .ref qm, .int (nI ph), .int (zI og), .long nh, .int nr, .int (nI na), .int (nI nt), .int mb, .long t1, .long t2]))] [] sIS := by
  refine mt_ofW (cc := cX2_open) (maxL := 6) (ret := (some .boolean)) (by decide) rfl (Nat.le_of_ble_eq_true rfl) ?_
  intro p e s m args below meth c Q A H locs ls hx hb hr hlk hml hta hown hin hE hT hZ ht hQ hAe hA hK hP hD hS hl
  have hown : s.vm.findClass RX2 = some m.cls := hown
  have hl : lv_has ls 6 [(0, .ref x), (1, .long hi), (3, .long lo)] := hl
  refine lv_aload_n hx hb dX2_open_0 rfl (lv_at hl 0 rfl) ?_
  refine cf_1 (wr := []) (va_runV (As := []) (rest := []) ⟨hx, hb, hml, hown, hta⟩ (MO.to (c_isUnderWay l dC dI x qc qg qa qt qm ph og nh nr na nt mb t1 t2 hph6) H.size) (cwV 0 hta (aw_V mw_377 mw_374 mw_376 mw_s11 mw_1) rfl rfl rfl ⟨rfl, dyX2_isUnderWay⟩ ⟨(Nat.le_of_ble_eq_true rfl), (Nat.le_of_ble_eq_true rfl)⟩) (pr_V hP hD hK hE [0] [] (by decide) rfl rfl rfl rfl) rfl rfl hl.1 rfl (lv_room (Nat.le_of_ble_eq_true rfl)) dX2_open_1 ⟨(Nat.le_of_ble_eq_true rfl), (Nat.le_of_ble_eq_true rfl)⟩) hP hD hS hA [0] [] rfl rfl (by decide) (by decide) (fun H locs hP hD hS => ?_)
  have hP : va_P (dC, dI) vwCl [(x, .inr (2, [.ref qc, .ref qg, .ref qa, .ref qt, .ref qm, .int (nI ph), .int (zI og), .long nh, .int nr, .int (nI na), .int (nI nt), .int mb, .long t1, .long t2]))] H := hP
  have hD : va_D A [(x, .inr (2, [.ref qc, .ref qg, .ref qa, .ref qt, .ref qm, .int (nI ph), .int (zI og), .long nh, .int nr, .int (nI na), .int (nI nt), .int mb, .long t1, .long t2]))] := hD
  refine W.widen (k := 0) (n := 0) (Nat.le_of_ble_eq_true rfl) (Nat.le_of_ble_eq_true rfl) ?_
  refine w_pc (pc2 := 4) rfl ?_
  refine lv_if_eq (tgt := 14) hx hb dX2_open_4 (by decide) (fun hc_4 => ?_) (fun hc_4 => ?_)
  · skip
    exact th_0 (names := xNM) (cls := sIS) hx hb hst hown (by decide +kernel) (by decide +kernel) (hta _ mw_316) (hta _ mw_11) (vx_hat (fun w h => hta w (xa_91 w h)) xb_91 (vx_c (va_Nw.use rfl hT.2.1) (vx_c (va_Nw.use rfl hT.2.2.2.2.2.2.2.1) (vx_c (va_Nw.use rfl hT.2.2.2.2.2.2.2.2.1) (vx_c (va_Nw.use rfl hT.2.2.2.2.2.2.2.2.2) vx_n))))) xg_91 hQ hAe hZ hP hD hS (hl.1.trans hml.symm) [0] (by decide) rfl dX2_open_14 dX2_open_17 dX2_open_18 dX2_open_21 ht (by decide) (by decide) (Nat.le_of_ble_eq_true rfl) (Nat.le_of_ble_eq_true rfl) hlk (Nat.le_of_ble_eq_true rfl) (Nat.le_of_ble_eq_true rfl)
  · skip
    refine lv_aload_n hx hb dX2_open_7 rfl (lv_at hl 0 rfl) ?_
    refine va_get (D := (dC, dI)) (ci := 2) (v := .int (zI og)) (C := RX2) (T := TX2) (N := 14) hx hb hta inX2 hown hK hP 0 rfl rfl 6 (by decide) (hta _ mw_86) (fun _ h9 => h9) rfl dX2_open_8 ?_
    refine lv_if_ne (tgt := 22) hx hb dX2_open_11 (by decide) (fun hc_11 => ?_) (fun hc_11 => ?_)
    · skip
      exact hno.elim (fun h9 => absurd h9 (by rw [zI1 (b := uwN ph) (by assumption)]; decide)) (fun h9 => absurd h9 (by rw [zI1 (b := og) hc_11]; decide))
    · skip
      exact th_0 (names := xNM) (cls := sIS) hx hb hst hown (by decide +kernel) (by decide +kernel) (hta _ mw_316) (hta _ mw_11) (vx_hat (fun w h => hta w (xa_91 w h)) xb_91 (vx_c (va_Nw.use rfl hT.2.1) (vx_c (va_Nw.use rfl hT.2.2.2.2.2.2.2.1) (vx_c (va_Nw.use rfl hT.2.2.2.2.2.2.2.2.1) (vx_c (va_Nw.use rfl hT.2.2.2.2.2.2.2.2.2) vx_n))))) xg_91 hQ hAe hZ hP hD hS (hl.1.trans hml.symm) [0] (by decide) rfl dX2_open_14 dX2_open_17 dX2_open_18 dX2_open_21 ht (by decide) (by decide) (Nat.le_of_ble_eq_true rfl) (Nat.le_of_ble_eq_true rfl) hlk (Nat.le_of_ble_eq_true rfl) (Nat.le_of_ble_eq_true rfl)

def rm_t_tag : Room := { frames := 6, cells := 1, slots := 6, locals := 90 }
set_option maxHeartbeats 4000000 in
set_option maxRecDepth 100000 in
/-- tag: not now -/
theorem t_tag (l : Launch) (dC : Nat → ClassId) (dI : Nat → Nat → Nat) (x : Nat) (qc : Nat) (qg : Nat) (qa : Nat) (qt : Nat) (qm : Nat) (ph : Nat) (og : Bool) (nh : Int64) (nr : Int32) (na : Nat) (nt : Nat) (mb : Int32) (t1 : Int64) (t2 : Int64) (ot : Bool) (hst : l.stackTraces = false) (hph6 : ph < 6) (hph : ¬ ph = 3) : MT l dC dI yX2_tag wsX2_tag rm_t_tag [.ref x, .int (zI ot)] [(x, .inr (2, [.ref qc, .ref qg, .ref qa, .ref qt, .ref qm, .int (nI ph), .int (zI og), .long nh, .int nr, .int (nI na), .int (nI nt), .int mb, .long t1, .long t2]))] [] sIS := by
  refine mt_ofW (cc := cX2_tag) (maxL := 2) (ret := (some .long)) (by decide) rfl (Nat.le_of_ble_eq_true rfl) ?_
  intro p e s m args below meth c Q A H locs ls hx hb hr hlk hml hta hown hin hE hT hZ ht hQ hAe hA hK hP hD hS hl
  have hown : s.vm.findClass RX2 = some m.cls := hown
  have hl : lv_has ls 2 [(0, .ref x), (1, .int (zI ot))] := hl
  refine lv_aload_n hx hb dX2_tag_0 rfl (lv_at hl 0 rfl) ?_
  refine va_get (D := (dC, dI)) (ci := 2) (v := .int (nI ph)) (C := RX2) (T := TX2) (N := 14) hx hb hta inX2 hown hK hP 0 rfl rfl 5 (by decide) (hta _ mw_85) (fun _ h9 => h9) rfl dX2_tag_1 ?_
  refine lv_iconst (v := nI 3) hx hb dX2_tag_4 (by decide) ?_
  refine lv_icmp_eq (tgt := 16) hx hb dX2_tag_5 (by decide) (fun hc_5 => ?_) (fun hc_5 => ?_)
  · skip
    have hc_5 := (ix_eq (a := ph) (b := 3) (by omega) (by omega)).mp hc_5
    have hc_5 : (ph = 3) := hc_5
    exfalso; omega
  · skip
    have hc_5 := (not_congr (ix_eq (a := ph) (b := 3) (by omega) (by omega))).mp hc_5
    have hc_5 : ¬ (ph = 3) := hc_5
    exact th_0 (names := xNM) (cls := sIS) hx hb hst hown (by decide +kernel) (by decide +kernel) (hta _ mw_316) (hta _ mw_11) (vx_hat (fun w h => hta w (xa_91 w h)) xb_91 (vx_c (va_Nw.use rfl hT.2.1) (vx_c (va_Nw.use rfl hT.2.2.2.2.2.2.2.1) (vx_c (va_Nw.use rfl hT.2.2.2.2.2.2.2.2.1) (vx_c (va_Nw.use rfl hT.2.2.2.2.2.2.2.2.2) vx_n))))) xg_91 hQ hAe hZ hP hD hS (hl.1.trans hml.symm) [0] (by decide) rfl dX2_tag_8 dX2_tag_11 dX2_tag_12 dX2_tag_15 ht (by decide) (by decide) (Nat.le_of_ble_eq_true rfl) (Nat.le_of_ble_eq_true rfl) hlk (Nat.le_of_ble_eq_true rfl) (Nat.le_of_ble_eq_true rfl)

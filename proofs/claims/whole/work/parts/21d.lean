def rm_c_joinBytes : Room := { frames := 0, cells := 0, slots := 0, locals := 0 }
set_option maxHeartbeats 4000000 in
set_option maxRecDepth 100000 in
/-- joinBytes(row, from, end) -/
theorem c_joinBytes (l : Launch) (dC : Nat → ClassId) (dI : Nat → Nat → Nat) (r : Nat) (kr : ClassId) (nn : Nat) (b : Nat → Nat) (fr : Nat) (en : Nat) (b256 : ∀ i, b i < 256) (hnn : nn ≤ 96) (hen : en ≤ nn) (hfr : fr ≤ 96) : MO l dC dI yX2_joinBytes wsX2_joinBytes rm_c_joinBytes [.ref r, .int (nI fr), .int (nI en)] [(r, .inl (kr, nn, .inl (nF b)))] [(kr, .int)] [(r, .inl (kr, nn, .inl (nF b)))] (some (.long (lN (jbN b fr en 8)))) := by
  refine mo_ofW (cc := cX2_joinBytes) (maxL := 6) (ret := (some .long)) (by decide) rfl (Nat.le_of_ble_eq_true rfl) ?_
  intro p e s m args below meth c Q A H locs ls hx hb hr hlk hml hta hown hin hE hQ hAe hA hK hP hD hS hl
  have hown : s.vm.findClass RX2 = some m.cls := hown
  have hl : lv_has ls 6 [(0, .ref r), (1, .int (nI fr)), (2, .int (nI en))] := hl
  refine lv_lconst (v := lN 0) hx hb dX2_joinBytes_0 (by decide) ?_
  refine lv_lstore_n hx hb dX2_joinBytes_1 rfl hl (by decide) rfl (fun ls hl => ?_)
  have hl : lv_has ls 6 [(3, .long (lN 0)), (0, .ref r), (1, .int (nI fr)), (2, .int (nI en))] := hl
  refine lv_iload_n hx hb dX2_joinBytes_2 rfl (lv_at hl 2 rfl) ?_
  refine lv_istore hx hb dX2_joinBytes_3 hl (by decide) rfl (fun ls hl => ?_)
  have hl : lv_has ls 6 [(5, .int (nI fr)), (3, .long (lN 0)), (0, .ref r), (1, .int (nI fr)), (2, .int (nI en))] := hl
  have loop_5 : ∀ (n k : Nat) (ls : Array Slot) (H : Heap) (locs : List Loc), k + n = 8 → lv_has ls 6 [(3, .long (lN (jbN b fr en k))), (5, .int (nI (fr + k))), (0, .ref r), (1, .int (nI fr)), (2, .int (nI en))] → va_P (dC, dI) vwCl [(r, .inl (kr, nn, .inl (nF b)))] H → va_D A [(r, .inl (kr, nn, .inl (nF b)))] → va_S A s.heap H locs → W p l e rm_c_joinBytes s m args below meth c H locs 0 0 Q (F0 m 5 ls []) := by
    intro n
    induction n with
    | zero =>
      intro k ls H locs hn_5  hl hP hD hS
      obtain rfl : 8 = k := by omega
      refine lv_iload hx hb dX2_joinBytes_5 (lv_at hl 1 rfl) ?_
      refine lv_iload_n hx hb dX2_joinBytes_7 rfl (lv_at hl 3 rfl) ?_
      refine lv_bipush (v := nI 8) hx hb dX2_joinBytes_8 (by decide) ?_
      refine lv_iadd hx hb dX2_joinBytes_10 (top_i (nI_add _ _) ?_)
      refine lv_icmp_ge (tgt := 41) hx hb dX2_joinBytes_11 (by decide) (fun hc_11 => ?_) (fun hc_11 => ?_)
      · skip
        have hc_11 := (ix_le (a := fr + 8) (b := fr + 8) (by omega) (by omega)).mp hc_11
        have hc_11 : ((fr + 8) ≤ (fr + 8)) := hc_11
        refine lv_lload_n hx hb dX2_joinBytes_41 rfl (lv_at hl 0 rfl) ?_
        exact rt_l hx hb hr hlk hQ hAe hP hD hS [0] (by decide) rfl (Nat.le_of_ble_eq_true rfl) (Nat.le_of_ble_eq_true rfl) (rfl) dX2_joinBytes_42
      · skip
        have hc_11 := (not_congr (ix_le (a := fr + 8) (b := fr + 8) (by omega) (by omega))).mp hc_11
        have hc_11 : ¬ ((fr + 8) ≤ (fr + 8)) := hc_11
        exfalso; omega
    | succ n ih =>
      intro k ls H locs hn_5  hl hP hD hS
      refine lv_iload hx hb dX2_joinBytes_5 (lv_at hl 1 rfl) ?_
      refine lv_iload_n hx hb dX2_joinBytes_7 rfl (lv_at hl 3 rfl) ?_
      refine lv_bipush (v := nI 8) hx hb dX2_joinBytes_8 (by decide) ?_
      refine lv_iadd hx hb dX2_joinBytes_10 (top_i (nI_add _ _) ?_)
      refine lv_icmp_ge (tgt := 41) hx hb dX2_joinBytes_11 (by decide) (fun hc_11 => ?_) (fun hc_11 => ?_)
      · skip
        have hc_11 := (ix_le (a := fr + 8) (b := fr + k) (by omega) (by omega)).mp hc_11
        have hc_11 : ((fr + 8) ≤ (fr + k)) := hc_11
        exfalso; omega
      · skip
        have hc_11 := (not_congr (ix_le (a := fr + 8) (b := fr + k) (by omega) (by omega))).mp hc_11
        have hc_11 : ¬ ((fr + 8) ≤ (fr + k)) := hc_11
        refine lv_lload_n hx hb dX2_joinBytes_14 rfl (lv_at hl 0 rfl) ?_
        refine lv_bipush (v := nI 8) hx hb dX2_joinBytes_15 (by decide) ?_
        refine lv_lshl hx hb dX2_joinBytes_17 rfl (top_l (wb_shl _ (by decide)) ?_)
        refine lv_iload hx hb dX2_joinBytes_18 (lv_at hl 1 rfl) ?_
        refine lv_iload_n hx hb dX2_joinBytes_20 rfl (lv_at hl 4 rfl) ?_
        refine lv_icmp_ge (tgt := 31) hx hb dX2_joinBytes_21 (by decide) (fun hc_21 => ?_) (fun hc_21 => ?_)
        · skip
          have hc_21 := (ix_le (a := en) (b := fr + k) (by omega) (by omega)).mp hc_21
          have hc_21 : (en ≤ (fr + k)) := hc_21
          refine lv_iconst (v := nI 0) hx hb dX2_joinBytes_31 (by decide) ?_
          refine lv_i2l hx hb dX2_joinBytes_32 rfl (top_l (nI_l (by first | decide | exact Nat.lt_trans (b256 _) (by decide))) ?_)
          refine lv_lor hx hb dX2_joinBytes_33 ?_
          refine top_l (y := lN (jbN b fr en (k + 1))) ((l_or _ _).trans (congrArg lN (jbN_f (by omega)))) ?_
          refine lv_lstore_n hx hb dX2_joinBytes_34 rfl hl (by decide) rfl (fun ls hl => ?_)
          have hl : lv_has ls 6 [(3, .long (lN (jbN b fr en (k + 1)))), (5, .int (nI (fr + k))), (0, .ref r), (1, .int (nI fr)), (2, .int (nI en))] := hl
          refine lv_iinc (v := nI (fr + (k + 1))) (k := 1) hx hb dX2_joinBytes_35 hl rfl ((ix_inc _ 1).trans (congrArg nI (by omega))) (by decide) rfl (fun ls hl => ?_)
          have hl : lv_has ls 6 [(5, .int (nI (fr + (k + 1)))), (3, .long (lN (jbN b fr en (k + 1)))), (0, .ref r), (1, .int (nI fr)), (2, .int (nI en))] := hl
          refine lv_goto (tgt := 5) hx hb dX2_joinBytes_38 (by decide) ?_
          exact ih (k + 1) ls H locs (by omega)  (lv_sub hl [1, 0, 2, 3, 4] rfl) hP hD hS
        · skip
          have hc_21 := (not_congr (ix_le (a := en) (b := fr + k) (by omega) (by omega))).mp hc_21
          have hc_21 : ¬ (en ≤ (fr + k)) := hc_21
          refine lv_aload_n hx hb dX2_joinBytes_24 rfl (lv_at hl 2 rfl) ?_
          refine lv_iload hx hb dX2_joinBytes_25 (lv_at hl 1 rfl) ?_
          refine va_ialb hx hb hK hP 0 0 rfl rfl (by omega) (by omega) dX2_joinBytes_27 ?_
          refine lv_goto (tgt := 32) hx hb dX2_joinBytes_28 (by decide) ?_
          refine lv_i2l hx hb dX2_joinBytes_32 rfl (top_l (nI_l (by first | decide | exact Nat.lt_trans (b256 _) (by decide))) ?_)
          refine lv_lor hx hb dX2_joinBytes_33 ?_
          refine top_l (y := lN (jbN b fr en (k + 1))) ((l_or _ _).trans (congrArg lN (jbN_t (by omega)))) ?_
          refine lv_lstore_n hx hb dX2_joinBytes_34 rfl hl (by decide) rfl (fun ls hl => ?_)
          have hl : lv_has ls 6 [(3, .long (lN (jbN b fr en (k + 1)))), (5, .int (nI (fr + k))), (0, .ref r), (1, .int (nI fr)), (2, .int (nI en))] := hl
          refine lv_iinc (v := nI (fr + (k + 1))) (k := 1) hx hb dX2_joinBytes_35 hl rfl ((ix_inc _ 1).trans (congrArg nI (by omega))) (by decide) rfl (fun ls hl => ?_)
          have hl : lv_has ls 6 [(5, .int (nI (fr + (k + 1)))), (3, .long (lN (jbN b fr en (k + 1)))), (0, .ref r), (1, .int (nI fr)), (2, .int (nI en))] := hl
          refine lv_goto (tgt := 5) hx hb dX2_joinBytes_38 (by decide) ?_
          exact ih (k + 1) ls H locs (by omega)  (lv_sub hl [1, 0, 2, 3, 4] rfl) hP hD hS
  exact loop_5 8 0 ls H locs (by omega)  (lv_sub hl [1, 0, 2, 3, 4] rfl) hP hD hS

def rm_c_chigh : Room := { frames := 1, cells := 0, slots := 0, locals := 25 }
set_option maxHeartbeats 4000000 in
set_option maxRecDepth 100000 in
/-- high() of the cipher -/
theorem c_chigh (l : Launch) (dC : Nat → ClassId) (dI : Nat → Nat → Nat) (o : Nat) (qs : Nat) (qu : Nat) (qw : Nat) (qb : Nat) (qe : Nat) (kb : ClassId) (b : Nat → Nat) (b256 : ∀ i, b i < 256) : MO l dC dI yX0_high wsX0_high rm_c_chigh [.ref o] [(o, .inr (0, [.ref qs, .ref qu, .ref qw, .ref qb, .ref qe])), (qb, .inl (kb, 16, .inl (nF b)))] [(kb, .int)] [(o, .inr (0, [.ref qs, .ref qu, .ref qw, .ref qb, .ref qe])), (qb, .inl (kb, 16, .inl (nF b)))] (some (.long (lN (jbN b 0 16 8)))) := by
  refine mo_ofW (cc := cX0_high) (maxL := 1) (ret := (some .long)) (by decide) rfl (Nat.le_of_ble_eq_true rfl) ?_
  intro p e s m args below meth c Q A H locs ls hx hb hr hlk hml hta hown hin hE hQ hAe hA hK hP hD hS hl
  have hown : s.vm.findClass RX0 = some m.cls := hown
  have hl : lv_has ls 1 [(0, .ref o)] := hl
  refine lv_aload_n hx hb dX0_high_0 rfl (lv_at hl 0 rfl) ?_
  refine va_get (D := (dC, dI)) (ci := 0) (v := .ref qb) (C := RX0) (T := TX0) (N := 5) hx hb hta inX0 hown hK hP 0 rfl rfl 3 (by decide) (hta _ mw_53) (fun _ h9 => h9) rfl dX0_high_1 ?_
  refine lv_iconst (v := nI 0) hx hb dX0_high_4 (by decide) ?_
  refine lv_bipush (v := nI 16) hx hb dX0_high_5 (by decide) ?_
  refine cf_1 (wr := [(o, .inr (0, [.ref qs, .ref qu, .ref qw, .ref qb, .ref qe]))]) (va_runSN (As := [.ref qb, .int (nI 0), .int (nI 16)]) (rest := []) ⟨hx, hb, hml, hown, hta⟩ (MO.to (c_joinBytes l dC dI qb kb 16 b 0 16 b256 (by decide) (by decide) (by decide)) H.size) ⟨va_cnB 3 hta (aw_C mw_168) rfl rfl rfl hE (hta _ mw_1) dyX2_joinBytes ⟨(Nat.le_of_ble_eq_true rfl), (Nat.le_of_ble_eq_true rfl)⟩, hta _ mw_167, trivial⟩ (pr_S hP hD hK hE [1] [0] (by decide) rfl rfl) rfl rfl hl.1 rfl (lv_room (Nat.le_of_ble_eq_true rfl)) dX0_high_7 ⟨(Nat.le_of_ble_eq_true rfl), (Nat.le_of_ble_eq_true rfl)⟩) hP hD hS hA [1] [0] rfl rfl (by decide) (by decide) (fun H locs hP hD hS => ?_)
  have hP : va_P (dC, dI) vwCl [(o, .inr (0, [.ref qs, .ref qu, .ref qw, .ref qb, .ref qe])), (qb, .inl (kb, 16, .inl (nF b)))] H := hP
  have hD : va_D A [(o, .inr (0, [.ref qs, .ref qu, .ref qw, .ref qb, .ref qe])), (qb, .inl (kb, 16, .inl (nF b)))] := hD
  refine W.widen (k := 0) (n := 0) (Nat.le_of_ble_eq_true rfl) (Nat.le_of_ble_eq_true rfl) ?_
  refine w_pc (pc2 := 10) rfl ?_
  exact rt_l hx hb hr hlk hQ hAe hP hD hS [0, 1] (by decide) rfl (Nat.le_of_ble_eq_true rfl) (Nat.le_of_ble_eq_true rfl) (rfl) dX0_high_10

def rm_c_clow : Room := { frames := 1, cells := 0, slots := 0, locals := 25 }
set_option maxHeartbeats 4000000 in
set_option maxRecDepth 100000 in
/-- low() of the cipher -/
theorem c_clow (l : Launch) (dC : Nat → ClassId) (dI : Nat → Nat → Nat) (o : Nat) (qs : Nat) (qu : Nat) (qw : Nat) (qb : Nat) (qe : Nat) (kb : ClassId) (b : Nat → Nat) (b256 : ∀ i, b i < 256) : MO l dC dI yX0_low wsX0_low rm_c_clow [.ref o] [(o, .inr (0, [.ref qs, .ref qu, .ref qw, .ref qb, .ref qe])), (qb, .inl (kb, 16, .inl (nF b)))] [(kb, .int)] [(o, .inr (0, [.ref qs, .ref qu, .ref qw, .ref qb, .ref qe])), (qb, .inl (kb, 16, .inl (nF b)))] (some (.long (lN (jbN b 8 16 8)))) := by
  refine mo_ofW (cc := cX0_low) (maxL := 1) (ret := (some .long)) (by decide) rfl (Nat.le_of_ble_eq_true rfl) ?_
  intro p e s m args below meth c Q A H locs ls hx hb hr hlk hml hta hown hin hE hQ hAe hA hK hP hD hS hl
  have hown : s.vm.findClass RX0 = some m.cls := hown
  have hl : lv_has ls 1 [(0, .ref o)] := hl
  refine lv_aload_n hx hb dX0_low_0 rfl (lv_at hl 0 rfl) ?_
  refine va_get (D := (dC, dI)) (ci := 0) (v := .ref qb) (C := RX0) (T := TX0) (N := 5) hx hb hta inX0 hown hK hP 0 rfl rfl 3 (by decide) (hta _ mw_53) (fun _ h9 => h9) rfl dX0_low_1 ?_
  refine lv_bipush (v := nI 8) hx hb dX0_low_4 (by decide) ?_
  refine lv_bipush (v := nI 16) hx hb dX0_low_6 (by decide) ?_
  refine cf_1 (wr := [(o, .inr (0, [.ref qs, .ref qu, .ref qw, .ref qb, .ref qe]))]) (va_runSN (As := [.ref qb, .int (nI 8), .int (nI 16)]) (rest := []) ⟨hx, hb, hml, hown, hta⟩ (MO.to (c_joinBytes l dC dI qb kb 16 b 8 16 b256 (by decide) (by decide) (by decide)) H.size) ⟨va_cnB 3 hta (aw_C mw_168) rfl rfl rfl hE (hta _ mw_1) dyX2_joinBytes ⟨(Nat.le_of_ble_eq_true rfl), (Nat.le_of_ble_eq_true rfl)⟩, hta _ mw_167, trivial⟩ (pr_S hP hD hK hE [1] [0] (by decide) rfl rfl) rfl rfl hl.1 rfl (lv_room (Nat.le_of_ble_eq_true rfl)) dX0_low_8 ⟨(Nat.le_of_ble_eq_true rfl), (Nat.le_of_ble_eq_true rfl)⟩) hP hD hS hA [1] [0] rfl rfl (by decide) (by decide) (fun H locs hP hD hS => ?_)
  have hP : va_P (dC, dI) vwCl [(o, .inr (0, [.ref qs, .ref qu, .ref qw, .ref qb, .ref qe])), (qb, .inl (kb, 16, .inl (nF b)))] H := hP
  have hD : va_D A [(o, .inr (0, [.ref qs, .ref qu, .ref qw, .ref qb, .ref qe])), (qb, .inl (kb, 16, .inl (nF b)))] := hD
  refine W.widen (k := 0) (n := 0) (Nat.le_of_ble_eq_true rfl) (Nat.le_of_ble_eq_true rfl) ?_
  refine w_pc (pc2 := 11) rfl ?_
  exact rt_l hx hb hr hlk hQ hAe hP hD hS [0, 1] (by decide) rfl (Nat.le_of_ble_eq_true rfl) (Nat.le_of_ble_eq_true rfl) (rfl) dX0_low_11

def rm_c_put : Room := { frames := 0, cells := 0, slots := 0, locals := 0 }
set_option maxHeartbeats 4000000 in
set_option maxRecDepth 100000 in
theorem c_put (l : Launch) (dC : Nat → ClassId) (dI : Nat → Nat → Nat) (g : Nat) (hi : Int64) (lo : Int64) (x : Int64) (y : Int64) : MO l dC dI yX1_put wsX1_put rm_c_put [.ref g, .long x, .long y] [(g, .inr (1, [.long hi, .long lo]))] [] [(g, .inr (1, [.long x, .long y]))] none := by
  refine mo_ofW (cc := cX1_put) (maxL := 5) (ret := none) (by decide) rfl (Nat.le_of_ble_eq_true rfl) ?_
  intro p e s m args below meth c Q A H locs ls hx hb hr hlk hml hta hown hin hE hQ hAe hA hK hP hD hS hl
  have hown : s.vm.findClass RX1 = some m.cls := hown
  have hl : lv_has ls 5 [(0, .ref g), (1, .long x), (3, .long y)] := hl
  refine lv_aload_n hx hb dX1_put_0 rfl (lv_at hl 0 rfl) ?_
  refine lv_lload_n hx hb dX1_put_1 rfl (lv_at hl 1 rfl) ?_
  refine va_put (D := (dC, dI)) (ci := 1) (v := .long x) (ty := .long) (C := RX1) (T := TX1) (N := 2) hx hb hta inX1 tyX1 tyX1_ok nmX1 hown hK hP hD hS 0 rfl rfl 0 (by decide) (hta _ mw_73) (fun _ h9 => h9) rfl (by decide +kernel) rfl rfl (Nat.le_of_ble_eq_true rfl) dX1_put_2 (fun H locs hP hD hS => ?_)
  have hP : va_P (dC, dI) vwCl [(g, .inr (1, [.long x, .long lo]))] H := hP
  have hD : va_D A [(g, .inr (1, [.long x, .long lo]))] := hD
  refine lv_aload_n hx hb dX1_put_5 rfl (lv_at hl 0 rfl) ?_
  refine lv_lload_n hx hb dX1_put_6 rfl (lv_at hl 2 rfl) ?_
  refine va_put (D := (dC, dI)) (ci := 1) (v := .long y) (ty := .long) (C := RX1) (T := TX1) (N := 2) hx hb hta inX1 tyX1 tyX1_ok nmX1 hown hK hP hD hS 0 rfl rfl 1 (by decide) (hta _ mw_74) (fun _ h9 => h9) rfl (by decide +kernel) rfl rfl (Nat.le_of_ble_eq_true rfl) dX1_put_7 (fun H locs hP hD hS => ?_)
  have hP : va_P (dC, dI) vwCl [(g, .inr (1, [.long x, .long y]))] H := hP
  have hD : va_D A [(g, .inr (1, [.long x, .long y]))] := hD
  exact rt_0 hx hb hr hlk hQ hAe hP hD hS [0] (by decide) rfl (Nat.le_of_ble_eq_true rfl) (Nat.le_of_ble_eq_true rfl) dX1_put_10

def rm_c_add : Room := { frames := 0, cells := 0, slots := 0, locals := 0 }
set_option maxHeartbeats 4000000 in
set_option maxRecDepth 100000 in
theorem c_add (l : Launch) (dC : Nat → ClassId) (dI : Nat → Nat → Nat) (g : Nat) (hi : Int64) (lo : Int64) (x : Int64) (y : Int64) : MO l dC dI yX1_add wsX1_add rm_c_add [.ref g, .long x, .long y] [(g, .inr (1, [.long hi, .long lo]))] [] [(g, .inr (1, [.long (hi ^^^ x), .long (lo ^^^ y)]))] none := by
  refine mo_ofW (cc := cX1_add) (maxL := 5) (ret := none) (by decide) rfl (Nat.le_of_ble_eq_true rfl) ?_
  intro p e s m args below meth c Q A H locs ls hx hb hr hlk hml hta hown hin hE hQ hAe hA hK hP hD hS hl
  have hown : s.vm.findClass RX1 = some m.cls := hown
  have hl : lv_has ls 5 [(0, .ref g), (1, .long x), (3, .long y)] := hl
  refine lv_aload_n hx hb dX1_add_0 rfl (lv_at hl 0 rfl) ?_
  refine lv_dup hx hb dX1_add_1 rfl ?_
  refine va_get (D := (dC, dI)) (ci := 1) (v := .long hi) (C := RX1) (T := TX1) (N := 2) hx hb hta inX1 hown hK hP 0 rfl rfl 0 (by decide) (hta _ mw_73) (fun _ h9 => h9) rfl dX1_add_2 ?_
  refine lv_lload_n hx hb dX1_add_5 rfl (lv_at hl 1 rfl) ?_
  refine lv_lxor hx hb dX1_add_6 ?_
  refine va_put (D := (dC, dI)) (ci := 1) (v := .long (hi ^^^ x)) (ty := .long) (C := RX1) (T := TX1) (N := 2) hx hb hta inX1 tyX1 tyX1_ok nmX1 hown hK hP hD hS 0 rfl rfl 0 (by decide) (hta _ mw_73) (fun _ h9 => h9) rfl (by decide +kernel) rfl rfl (Nat.le_of_ble_eq_true rfl) dX1_add_7 (fun H locs hP hD hS => ?_)
  have hP : va_P (dC, dI) vwCl [(g, .inr (1, [.long (hi ^^^ x), .long lo]))] H := hP
  have hD : va_D A [(g, .inr (1, [.long (hi ^^^ x), .long lo]))] := hD
  refine lv_aload_n hx hb dX1_add_10 rfl (lv_at hl 0 rfl) ?_
  refine lv_dup hx hb dX1_add_11 rfl ?_
  refine va_get (D := (dC, dI)) (ci := 1) (v := .long lo) (C := RX1) (T := TX1) (N := 2) hx hb hta inX1 hown hK hP 0 rfl rfl 1 (by decide) (hta _ mw_74) (fun _ h9 => h9) rfl dX1_add_12 ?_
  refine lv_lload_n hx hb dX1_add_15 rfl (lv_at hl 2 rfl) ?_
  refine lv_lxor hx hb dX1_add_16 ?_
  refine w_pc (pc2 := 17) rfl ?_
  refine va_put (D := (dC, dI)) (ci := 1) (v := .long (lo ^^^ y)) (ty := .long) (C := RX1) (T := TX1) (N := 2) hx hb hta inX1 tyX1 tyX1_ok nmX1 hown hK hP hD hS 0 rfl rfl 1 (by decide) (hta _ mw_74) (fun _ h9 => h9) rfl (by decide +kernel) rfl rfl (Nat.le_of_ble_eq_true rfl) dX1_add_17 (fun H locs hP hD hS => ?_)
  have hP : va_P (dC, dI) vwCl [(g, .inr (1, [.long (hi ^^^ x), .long (lo ^^^ y)]))] H := hP
  have hD : va_D A [(g, .inr (1, [.long (hi ^^^ x), .long (lo ^^^ y)]))] := hD
  exact rt_0 hx hb hr hlk hQ hAe hP hD hS [0] (by decide) rfl (Nat.le_of_ble_eq_true rfl) (Nat.le_of_ble_eq_true rfl) dX1_add_20

def rm_c_ghigh : Room := { frames := 0, cells := 0, slots := 0, locals := 0 }
set_option maxHeartbeats 4000000 in
set_option maxRecDepth 100000 in
theorem c_ghigh (l : Launch) (dC : Nat → ClassId) (dI : Nat → Nat → Nat) (g : Nat) (hi : Int64) (lo : Int64) : MO l dC dI yX1_high wsX1_high rm_c_ghigh [.ref g] [(g, .inr (1, [.long hi, .long lo]))] [] [(g, .inr (1, [.long hi, .long lo]))] (some (.long hi)) := by
  refine mo_ofW (cc := cX1_high) (maxL := 1) (ret := (some .long)) (by decide) rfl (Nat.le_of_ble_eq_true rfl) ?_
  intro p e s m args below meth c Q A H locs ls hx hb hr hlk hml hta hown hin hE hQ hAe hA hK hP hD hS hl
  have hown : s.vm.findClass RX1 = some m.cls := hown
  have hl : lv_has ls 1 [(0, .ref g)] := hl
  refine lv_aload_n hx hb dX1_high_0 rfl (lv_at hl 0 rfl) ?_
  refine va_get (D := (dC, dI)) (ci := 1) (v := .long hi) (C := RX1) (T := TX1) (N := 2) hx hb hta inX1 hown hK hP 0 rfl rfl 0 (by decide) (hta _ mw_73) (fun _ h9 => h9) rfl dX1_high_1 ?_
  exact rt_l hx hb hr hlk hQ hAe hP hD hS [0] (by decide) rfl (Nat.le_of_ble_eq_true rfl) (Nat.le_of_ble_eq_true rfl) (rfl) dX1_high_4

def rm_c_glow : Room := { frames := 0, cells := 0, slots := 0, locals := 0 }
set_option maxHeartbeats 4000000 in
set_option maxRecDepth 100000 in
theorem c_glow (l : Launch) (dC : Nat → ClassId) (dI : Nat → Nat → Nat) (g : Nat) (hi : Int64) (lo : Int64) : MO l dC dI yX1_low wsX1_low rm_c_glow [.ref g] [(g, .inr (1, [.long hi, .long lo]))] [] [(g, .inr (1, [.long hi, .long lo]))] (some (.long lo)) := by
  refine mo_ofW (cc := cX1_low) (maxL := 1) (ret := (some .long)) (by decide) rfl (Nat.le_of_ble_eq_true rfl) ?_
  intro p e s m args below meth c Q A H locs ls hx hb hr hlk hml hta hown hin hE hQ hAe hA hK hP hD hS hl
  have hown : s.vm.findClass RX1 = some m.cls := hown
  have hl : lv_has ls 1 [(0, .ref g)] := hl
  refine lv_aload_n hx hb dX1_low_0 rfl (lv_at hl 0 rfl) ?_
  refine va_get (D := (dC, dI)) (ci := 1) (v := .long lo) (C := RX1) (T := TX1) (N := 2) hx hb hta inX1 hown hK hP 0 rfl rfl 1 (by decide) (hta _ mw_74) (fun _ h9 => h9) rfl dX1_low_1 ?_
  exact rt_l hx hb hr hlk hQ hAe hP hD hS [0] (by decide) rfl (Nat.le_of_ble_eq_true rfl) (Nat.le_of_ble_eq_true rfl) (rfl) dX1_low_4

def rm_c_ginit : Room := { frames := 1, cells := 0, slots := 0, locals := 16 }
set_option maxHeartbeats 4000000 in
set_option maxRecDepth 100000 in
theorem c_ginit (l : Launch) (dC : Nat → ClassId) (dI : Nat → Nat → Nat) (g : Nat) (hi : Int64) (lo : Int64) : MO l dC dI yX1_init wsX1_init rm_c_ginit [.ref g] [(g, .inr (1, [.long hi, .long lo]))] [] [(g, .inr (1, [.long (lN 0), .long (lN 0)]))] none := by
  refine mo_ofW (cc := cX1_init) (maxL := 1) (ret := none) (by decide) rfl (Nat.le_of_ble_eq_true rfl) ?_
  intro p e s m args below meth c Q A H locs ls hx hb hr hlk hml hta hown hin hE hQ hAe hA hK hP hD hS hl
  have hown : s.vm.findClass RX1 = some m.cls := hown
  have hl : lv_has ls 1 [(0, .ref g)] := hl
  refine lv_aload_n hx hb dX1_init_0 rfl (lv_at hl 0 rfl) ?_
  refine W.objInit hx hb hown (hta _ mw_72) (hta _ mw_20) (hta _ mw_21) rfl (by rw [hml]; exact hl.1) rfl dX1_init_1 (Nat.le_of_ble_eq_true rfl) (Nat.le_of_ble_eq_true rfl) ?_
  refine W.eq (g2 := F0 m 4 ls []) rfl ?_
  refine lv_aload_n hx hb dX1_init_4 rfl (lv_at hl 0 rfl) ?_
  refine lv_lconst (v := lN 0) hx hb dX1_init_5 (by decide) ?_
  refine va_put (D := (dC, dI)) (ci := 1) (v := .long (lN 0)) (ty := .long) (C := RX1) (T := TX1) (N := 2) hx hb hta inX1 tyX1 tyX1_ok nmX1 hown hK hP hD hS 0 rfl rfl 0 (by decide) (hta _ mw_73) (fun _ h9 => h9) rfl (by decide +kernel) rfl rfl (Nat.le_of_ble_eq_true rfl) dX1_init_6 (fun H locs hP hD hS => ?_)
  have hP : va_P (dC, dI) vwCl [(g, .inr (1, [.long (lN 0), .long lo]))] H := hP
  have hD : va_D A [(g, .inr (1, [.long (lN 0), .long lo]))] := hD
  refine lv_aload_n hx hb dX1_init_9 rfl (lv_at hl 0 rfl) ?_
  refine lv_lconst (v := lN 0) hx hb dX1_init_10 (by decide) ?_
  refine va_put (D := (dC, dI)) (ci := 1) (v := .long (lN 0)) (ty := .long) (C := RX1) (T := TX1) (N := 2) hx hb hta inX1 tyX1 tyX1_ok nmX1 hown hK hP hD hS 0 rfl rfl 1 (by decide) (hta _ mw_74) (fun _ h9 => h9) rfl (by decide +kernel) rfl rfl (Nat.le_of_ble_eq_true rfl) dX1_init_11 (fun H locs hP hD hS => ?_)
  have hP : va_P (dC, dI) vwCl [(g, .inr (1, [.long (lN 0), .long (lN 0)]))] H := hP
  have hD : va_D A [(g, .inr (1, [.long (lN 0), .long (lN 0)]))] := hD
  exact rt_0 hx hb hr hlk hQ hAe hP hD hS [0] (by decide) rfl (Nat.le_of_ble_eq_true rfl) (Nat.le_of_ble_eq_true rfl) dX1_init_14

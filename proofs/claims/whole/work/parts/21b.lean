def rm_c_encipher : Room := { frames := 3, cells := 0, slots := 0, locals := 102 }
set_option maxHeartbeats 4000000 in
set_option maxRecDepth 100000 in
/-- encipher(hi, lo) -/
theorem c_encipher (l : Launch) (dC : Nat → ClassId) (dI : Nat → Nat → Nat) (o : Nat) (qs : Nat) (qu : Nat) (qw : Nat) (qb : Nat) (qe : Nat) (ks : ClassId) (kw : ClassId) (kb : ClassId) (ke : ClassId) (sb : Nat → Nat) (w : Nat → Int32) (b : Nat → Nat) (z : Nat → Nat) (hi : Int64) (lo : Int64) (s256 : ∀ i, sb i < 256) : MO l dC dI yX0_encipher wsX0_encipher rm_c_encipher [.ref o, .long hi, .long lo] [(o, .inr (0, [.ref qs, .ref qu, .ref qw, .ref qb, .ref qe])), (qs, .inl (ks, 256, .inl (nF sb))), (qw, .inl (kw, 44, .inl w)), (qb, .inl (kb, 16, .inl (nF b))), (qe, .inl (ke, 16, .inl (nF z)))] [(ks, .int), (kw, .int), (kb, .int), (ke, .int)] [(o, .inr (0, [.ref qs, .ref qu, .ref qw, .ref qb, .ref qe])), (qs, .inl (ks, 256, .inl (nF sb))), (qw, .inl (kw, 44, .inl w)), (qb, .inl (kb, 16, .inl (nF (erN sb w (ldN hi lo) 10)))), (qe, .inl (ke, 16, .inl (nF (erN sb w (ldN hi lo) 9))))] none := by
  refine mo_ofW (cc := cX0_encipher) (maxL := 6) (ret := none) (by decide) rfl (Nat.le_of_ble_eq_true rfl) ?_
  intro p e s m args below meth c Q A H locs ls hx hb hr hlk hml hta hown hin hE hQ hAe hA hK hP hD hS hl
  have hown : s.vm.findClass RX0 = some m.cls := hown
  have hl : lv_has ls 6 [(0, .ref o), (1, .long hi), (3, .long lo)] := hl
  refine lv_aload_n hx hb dX0_encipher_0 rfl (lv_at hl 0 rfl) ?_
  refine lv_lload_n hx hb dX0_encipher_1 rfl (lv_at hl 1 rfl) ?_
  refine lv_lload_n hx hb dX0_encipher_2 rfl (lv_at hl 2 rfl) ?_
  refine cf_0 (wr := [(qs, .inl (ks, 256, .inl (nF sb))), (qw, .inl (kw, 44, .inl w)), (qe, .inl (ke, 16, .inl (nF z)))]) (va_runV (As := [.long hi, .long lo]) (rest := []) ⟨hx, hb, hml, hown, hta⟩ (MO.to (c_load l dC dI o qs qu qw qb qe kb b hi lo) H.size) (cwV 2 hta (aw_V mw_139 mw_136 mw_138 mw_s3 mw_2) rfl rfl rfl ⟨rfl, dyX0_load⟩ ⟨(Nat.le_of_ble_eq_true rfl), (Nat.le_of_ble_eq_true rfl)⟩) (pr_V hP hD hK hE [0, 3] [2] (by decide) rfl rfl rfl rfl) rfl rfl hl.1 rfl (lv_room (Nat.le_of_ble_eq_true rfl)) dX0_encipher_3 ⟨(Nat.le_of_ble_eq_true rfl), (Nat.le_of_ble_eq_true rfl)⟩) hP hD hS hA [0, 3] [1, 2, 4] rfl rfl (by decide) (by decide) (fun H locs hP hD hS => ?_)
  have hP : va_P (dC, dI) vwCl [(qs, .inl (ks, 256, .inl (nF sb))), (qw, .inl (kw, 44, .inl w)), (qe, .inl (ke, 16, .inl (nF z))), (o, .inr (0, [.ref qs, .ref qu, .ref qw, .ref qb, .ref qe])), (qb, .inl (kb, 16, .inl (nF (ldN hi lo))))] H := hP
  have hD : va_D A [(qs, .inl (ks, 256, .inl (nF sb))), (qw, .inl (kw, 44, .inl w)), (qe, .inl (ke, 16, .inl (nF z))), (o, .inr (0, [.ref qs, .ref qu, .ref qw, .ref qb, .ref qe])), (qb, .inl (kb, 16, .inl (nF (ldN hi lo))))] := hD
  refine W.widen (k := 0) (n := 0) (Nat.le_of_ble_eq_true rfl) (Nat.le_of_ble_eq_true rfl) ?_
  refine w_pc (pc2 := 6) rfl ?_
  refine lv_aload_n hx hb dX0_encipher_6 rfl (lv_at hl 0 rfl) ?_
  refine lv_iconst (v := nI 0) hx hb dX0_encipher_7 (by decide) ?_
  refine cf_0 (wr := [(qs, .inl (ks, 256, .inl (nF sb))), (qe, .inl (ke, 16, .inl (nF z)))]) (va_runV (As := [.int (nI 0)]) (rest := []) ⟨hx, hb, hml, hown, hta⟩ (MO.to (c_addWords l dC dI o qs qu qw qb qe kw kb w (ldN hi lo) 0 (by omega)) H.size) (cwV 1 hta (aw_V mw_143 mw_140 mw_142 mw_s4 mw_2) rfl rfl rfl ⟨rfl, dyX0_addWords⟩ ⟨(Nat.le_of_ble_eq_true rfl), (Nat.le_of_ble_eq_true rfl)⟩) (pr_V hP hD hK hE [3, 1, 4] [1, 2] (by decide) rfl rfl rfl rfl) rfl rfl hl.1 rfl (lv_room (Nat.le_of_ble_eq_true rfl)) dX0_encipher_8 ⟨(Nat.le_of_ble_eq_true rfl), (Nat.le_of_ble_eq_true rfl)⟩) hP hD hS hA [3, 1, 4] [0, 2] rfl rfl (by decide) (by decide) (fun H locs hP hD hS => ?_)
  have hP : va_P (dC, dI) vwCl [(qs, .inl (ks, 256, .inl (nF sb))), (qe, .inl (ke, 16, .inl (nF z))), (o, .inr (0, [.ref qs, .ref qu, .ref qw, .ref qb, .ref qe])), (qw, .inl (kw, 44, .inl w)), (qb, .inl (kb, 16, .inl (nF (akN w 0 (ldN hi lo)))))] H := hP
  have hD : va_D A [(qs, .inl (ks, 256, .inl (nF sb))), (qe, .inl (ke, 16, .inl (nF z))), (o, .inr (0, [.ref qs, .ref qu, .ref qw, .ref qb, .ref qe])), (qw, .inl (kw, 44, .inl w)), (qb, .inl (kb, 16, .inl (nF (akN w 0 (ldN hi lo)))))] := hD
  refine W.widen (k := 0) (n := 0) (Nat.le_of_ble_eq_true rfl) (Nat.le_of_ble_eq_true rfl) ?_
  refine w_pc (pc2 := 11) rfl ?_
  refine lv_iconst (v := nI 1) hx hb dX0_encipher_11 (by decide) ?_
  refine lv_istore hx hb dX0_encipher_12 hl (by decide) rfl (fun ls hl => ?_)
  have hl : lv_has ls 6 [(5, .int (nI 1)), (0, .ref o), (1, .long hi), (3, .long lo)] := hl
  obtain ⟨hP, hD⟩ := va_recb (g := erN sb w (ldN hi lo) 0) hP hD 4 rfl (fun i _ => rfl)
  have hP : va_P (dC, dI) vwCl [(qs, .inl (ks, 256, .inl (nF sb))), (qe, .inl (ke, 16, .inl (nF z))), (o, .inr (0, [.ref qs, .ref qu, .ref qw, .ref qb, .ref qe])), (qw, .inl (kw, 44, .inl w)), (qb, .inl (kb, 16, .inl (nF (erN sb w (ldN hi lo) 0))))] H := hP
  have hD : va_D A [(qs, .inl (ks, 256, .inl (nF sb))), (qe, .inl (ke, 16, .inl (nF z))), (o, .inr (0, [.ref qs, .ref qu, .ref qw, .ref qb, .ref qe])), (qw, .inl (kw, 44, .inl w)), (qb, .inl (kb, 16, .inl (nF (erN sb w (ldN hi lo) 0))))] := hD
  obtain ⟨hP, hD⟩ := va_recb (g := ebN sb w (ldN hi lo) z 0) hP hD 1 rfl (fun i _ => rfl)
  have hP : va_P (dC, dI) vwCl [(qs, .inl (ks, 256, .inl (nF sb))), (qe, .inl (ke, 16, .inl (nF (ebN sb w (ldN hi lo) z 0)))), (o, .inr (0, [.ref qs, .ref qu, .ref qw, .ref qb, .ref qe])), (qw, .inl (kw, 44, .inl w)), (qb, .inl (kb, 16, .inl (nF (erN sb w (ldN hi lo) 0))))] H := hP
  have hD : va_D A [(qs, .inl (ks, 256, .inl (nF sb))), (qe, .inl (ke, 16, .inl (nF (ebN sb w (ldN hi lo) z 0)))), (o, .inr (0, [.ref qs, .ref qu, .ref qw, .ref qb, .ref qe])), (qw, .inl (kw, 44, .inl w)), (qb, .inl (kb, 16, .inl (nF (erN sb w (ldN hi lo) 0))))] := hD
  have loop_14 : ∀ (n k : Nat) (ls : Array Slot) (H : Heap) (locs : List Loc), k + n = 10 → lv_has ls 6 [(5, .int (nI (k + 1))), (0, .ref o)] → va_P (dC, dI) vwCl [(qs, .inl (ks, 256, .inl (nF sb))), (qe, .inl (ke, 16, .inl (nF (ebN sb w (ldN hi lo) z k)))), (o, .inr (0, [.ref qs, .ref qu, .ref qw, .ref qb, .ref qe])), (qw, .inl (kw, 44, .inl w)), (qb, .inl (kb, 16, .inl (nF (erN sb w (ldN hi lo) k))))] H → va_D A [(qs, .inl (ks, 256, .inl (nF sb))), (qe, .inl (ke, 16, .inl (nF (ebN sb w (ldN hi lo) z k)))), (o, .inr (0, [.ref qs, .ref qu, .ref qw, .ref qb, .ref qe])), (qw, .inl (kw, 44, .inl w)), (qb, .inl (kb, 16, .inl (nF (erN sb w (ldN hi lo) k))))] → va_S A s.heap H locs → W p l e rm_c_encipher s m args below meth c H locs 0 0 Q (F0 m 14 ls []) := by
    intro n
    induction n with
    | zero =>
      intro k ls H locs hn_14  hl hP hD hS
      obtain rfl : 10 = k := by omega
      obtain ⟨hP, hD⟩ := va_recb (g := erN sb w (ldN hi lo) 9) hP hD 1 rfl (fun i _ => rfl)
      have hP : va_P (dC, dI) vwCl [(qs, .inl (ks, 256, .inl (nF sb))), (qe, .inl (ke, 16, .inl (nF (erN sb w (ldN hi lo) 9)))), (o, .inr (0, [.ref qs, .ref qu, .ref qw, .ref qb, .ref qe])), (qw, .inl (kw, 44, .inl w)), (qb, .inl (kb, 16, .inl (nF (erN sb w (ldN hi lo) 10))))] H := hP
      have hD : va_D A [(qs, .inl (ks, 256, .inl (nF sb))), (qe, .inl (ke, 16, .inl (nF (erN sb w (ldN hi lo) 9)))), (o, .inr (0, [.ref qs, .ref qu, .ref qw, .ref qb, .ref qe])), (qw, .inl (kw, 44, .inl w)), (qb, .inl (kb, 16, .inl (nF (erN sb w (ldN hi lo) 10))))] := hD
      refine lv_iload hx hb dX0_encipher_14 (lv_at hl 0 rfl) ?_
      refine lv_bipush (v := nI 10) hx hb dX0_encipher_16 (by decide) ?_
      refine lv_icmp_gt (tgt := 48) hx hb dX0_encipher_18 (by decide) (fun hc_18 => ?_) (fun hc_18 => ?_)
      · skip
        have hc_18 := (ix_lt (a := 10) (b := 10 + 1) (by omega) (by omega)).mp hc_18
        have hc_18 : (10 < (10 + 1)) := hc_18
        exact rt_0 hx hb hr hlk hQ hAe hP hD hS [2, 0, 3, 4, 1] (by decide) rfl (Nat.le_of_ble_eq_true rfl) (Nat.le_of_ble_eq_true rfl) dX0_encipher_48
      · skip
        have hc_18 := (not_congr (ix_lt (a := 10) (b := 10 + 1) (by omega) (by omega))).mp hc_18
        have hc_18 : ¬ (10 < (10 + 1)) := hc_18
        exfalso; omega
    | succ n ih =>
      intro k ls H locs hn_14  hl hP hD hS
      refine lv_iload hx hb dX0_encipher_14 (lv_at hl 0 rfl) ?_
      refine lv_bipush (v := nI 10) hx hb dX0_encipher_16 (by decide) ?_
      refine lv_icmp_gt (tgt := 48) hx hb dX0_encipher_18 (by decide) (fun hc_18 => ?_) (fun hc_18 => ?_)
      · skip
        have hc_18 := (ix_lt (a := 10) (b := k + 1) (by omega) (by omega)).mp hc_18
        have hc_18 : (10 < (k + 1)) := hc_18
        exfalso; omega
      · skip
        have hc_18 := (not_congr (ix_lt (a := 10) (b := k + 1) (by omega) (by omega))).mp hc_18
        have hc_18 : ¬ (10 < (k + 1)) := hc_18
        refine lv_aload_n hx hb dX0_encipher_21 rfl (lv_at hl 1 rfl) ?_
        refine cf_0 (wr := [(qw, .inl (kw, 44, .inl w))]) (va_runV (As := []) (rest := []) ⟨hx, hb, hml, hown, hta⟩ (MO.to (c_substAndShift l dC dI o qs qu qw qb qe ks kb ke sb (erN sb w (ldN hi lo) k) (ebN sb w (ldN hi lo) z k) (erN_lt s256 (ldN_lt hi lo) k)) H.size) (cwV 0 hta (aw_V mw_147 mw_144 mw_146 mw_s5 mw_2) rfl rfl rfl ⟨rfl, dyX0_substAndShift⟩ ⟨(Nat.le_of_ble_eq_true rfl), (Nat.le_of_ble_eq_true rfl)⟩) (pr_V hP hD hK hE [2, 0, 4, 1] [0, 2, 3] (by decide) rfl rfl rfl rfl) rfl rfl hl.1 rfl (lv_room (Nat.le_of_ble_eq_true rfl)) dX0_encipher_22 ⟨(Nat.le_of_ble_eq_true rfl), (Nat.le_of_ble_eq_true rfl)⟩) hP hD hS hA [2, 0, 4, 1] [3] rfl rfl (by decide) (by decide) (fun H locs hP hD hS => ?_)
        have hP : va_P (dC, dI) vwCl [(qw, .inl (kw, 44, .inl w)), (o, .inr (0, [.ref qs, .ref qu, .ref qw, .ref qb, .ref qe])), (qs, .inl (ks, 256, .inl (nF sb))), (qb, .inl (kb, 16, .inl (nF (ssN sb (erN sb w (ldN hi lo) k))))), (qe, .inl (ke, 16, .inl (nF (erN sb w (ldN hi lo) k))))] H := hP
        have hD : va_D A [(qw, .inl (kw, 44, .inl w)), (o, .inr (0, [.ref qs, .ref qu, .ref qw, .ref qb, .ref qe])), (qs, .inl (ks, 256, .inl (nF sb))), (qb, .inl (kb, 16, .inl (nF (ssN sb (erN sb w (ldN hi lo) k))))), (qe, .inl (ke, 16, .inl (nF (erN sb w (ldN hi lo) k))))] := hD
        refine W.widen (k := 0) (n := 0) (Nat.le_of_ble_eq_true rfl) (Nat.le_of_ble_eq_true rfl) ?_
        refine w_pc (pc2 := 25) rfl ?_
        refine lv_iload hx hb dX0_encipher_25 (lv_at hl 0 rfl) ?_
        refine lv_bipush (v := nI 10) hx hb dX0_encipher_27 (by decide) ?_
        refine lv_icmp_ge (tgt := 36) hx hb dX0_encipher_29 (by decide) (fun hc_29 => ?_) (fun hc_29 => ?_)
        · skip
          have hc_29 := (ix_le (a := 10) (b := k + 1) (by omega) (by omega)).mp hc_29
          have hc_29 : (10 ≤ (k + 1)) := hc_29
          refine lv_aload_n hx hb dX0_encipher_36 rfl (lv_at hl 1 rfl) ?_
          refine lv_iload hx hb dX0_encipher_37 (lv_at hl 0 rfl) ?_
          refine cf_0 (wr := [(qs, .inl (ks, 256, .inl (nF sb))), (qe, .inl (ke, 16, .inl (nF (erN sb w (ldN hi lo) k))))]) (va_runV (As := [.int (nI (k + 1))]) (rest := []) ⟨hx, hb, hml, hown, hta⟩ (MO.to (c_addWords l dC dI o qs qu qw qb qe kw kb w (ssN sb (erN sb w (ldN hi lo) k)) (k + 1) (by omega)) H.size) (cwV 1 hta (aw_V mw_143 mw_140 mw_142 mw_s4 mw_2) rfl rfl rfl ⟨rfl, dyX0_addWords⟩ ⟨(Nat.le_of_ble_eq_true rfl), (Nat.le_of_ble_eq_true rfl)⟩) (pr_V hP hD hK hE [1, 0, 3] [1, 2] (by decide) rfl rfl rfl rfl) rfl rfl hl.1 rfl (lv_room (Nat.le_of_ble_eq_true rfl)) dX0_encipher_39 ⟨(Nat.le_of_ble_eq_true rfl), (Nat.le_of_ble_eq_true rfl)⟩) hP hD hS hA [1, 0, 3] [2, 4] rfl rfl (by decide) (by decide) (fun H locs hP hD hS => ?_)
          have hP : va_P (dC, dI) vwCl [(qs, .inl (ks, 256, .inl (nF sb))), (qe, .inl (ke, 16, .inl (nF (erN sb w (ldN hi lo) k)))), (o, .inr (0, [.ref qs, .ref qu, .ref qw, .ref qb, .ref qe])), (qw, .inl (kw, 44, .inl w)), (qb, .inl (kb, 16, .inl (nF (akN w (k + 1) (ssN sb (erN sb w (ldN hi lo) k))))))] H := hP
          have hD : va_D A [(qs, .inl (ks, 256, .inl (nF sb))), (qe, .inl (ke, 16, .inl (nF (erN sb w (ldN hi lo) k)))), (o, .inr (0, [.ref qs, .ref qu, .ref qw, .ref qb, .ref qe])), (qw, .inl (kw, 44, .inl w)), (qb, .inl (kb, 16, .inl (nF (akN w (k + 1) (ssN sb (erN sb w (ldN hi lo) k))))))] := hD
          refine W.widen (k := 0) (n := 0) (Nat.le_of_ble_eq_true rfl) (Nat.le_of_ble_eq_true rfl) ?_
          refine w_pc (pc2 := 42) rfl ?_
          refine lv_iinc (v := nI ((k + 1) + 1)) (k := 0) hx hb dX0_encipher_42 hl rfl (ix_inc _ 1) (by decide) rfl (fun ls hl => ?_)
          have hl : lv_has ls 6 [(5, .int (nI ((k + 1) + 1))), (0, .ref o)] := hl
          refine lv_goto (tgt := 14) hx hb dX0_encipher_45 (by decide) ?_
          obtain ⟨hP, hD⟩ := va_recb (g := erN sb w (ldN hi lo) (k + 1)) hP hD 4 rfl (fun i _ => erN_e (by omega) i)
          have hP : va_P (dC, dI) vwCl [(qs, .inl (ks, 256, .inl (nF sb))), (qe, .inl (ke, 16, .inl (nF (erN sb w (ldN hi lo) k)))), (o, .inr (0, [.ref qs, .ref qu, .ref qw, .ref qb, .ref qe])), (qw, .inl (kw, 44, .inl w)), (qb, .inl (kb, 16, .inl (nF (erN sb w (ldN hi lo) (k + 1)))))] H := hP
          have hD : va_D A [(qs, .inl (ks, 256, .inl (nF sb))), (qe, .inl (ke, 16, .inl (nF (erN sb w (ldN hi lo) k)))), (o, .inr (0, [.ref qs, .ref qu, .ref qw, .ref qb, .ref qe])), (qw, .inl (kw, 44, .inl w)), (qb, .inl (kb, 16, .inl (nF (erN sb w (ldN hi lo) (k + 1)))))] := hD
          obtain ⟨hP, hD⟩ := va_recb (g := ebN sb w (ldN hi lo) z (k + 1)) hP hD 1 rfl (fun i _ => rfl)
          have hP : va_P (dC, dI) vwCl [(qs, .inl (ks, 256, .inl (nF sb))), (qe, .inl (ke, 16, .inl (nF (ebN sb w (ldN hi lo) z (k + 1))))), (o, .inr (0, [.ref qs, .ref qu, .ref qw, .ref qb, .ref qe])), (qw, .inl (kw, 44, .inl w)), (qb, .inl (kb, 16, .inl (nF (erN sb w (ldN hi lo) (k + 1)))))] H := hP
          have hD : va_D A [(qs, .inl (ks, 256, .inl (nF sb))), (qe, .inl (ke, 16, .inl (nF (ebN sb w (ldN hi lo) z (k + 1))))), (o, .inr (0, [.ref qs, .ref qu, .ref qw, .ref qb, .ref qe])), (qw, .inl (kw, 44, .inl w)), (qb, .inl (kb, 16, .inl (nF (erN sb w (ldN hi lo) (k + 1)))))] := hD
          exact ih (k + 1) ls H locs (by omega)  (lv_sub hl [0, 1] rfl) hP hD hS
        · skip
          have hc_29 := (not_congr (ix_le (a := 10) (b := k + 1) (by omega) (by omega))).mp hc_29
          have hc_29 : ¬ (10 ≤ (k + 1)) := hc_29
          refine lv_aload_n hx hb dX0_encipher_32 rfl (lv_at hl 1 rfl) ?_
          refine cf_0 (wr := [(qw, .inl (kw, 44, .inl w)), (qs, .inl (ks, 256, .inl (nF sb))), (qe, .inl (ke, 16, .inl (nF (erN sb w (ldN hi lo) k))))]) (va_runV (As := []) (rest := []) ⟨hx, hb, hml, hown, hta⟩ (MO.to (c_mix l dC dI o qs qu qw qb qe kb (ssN sb (erN sb w (ldN hi lo) k)) (ssN_lt s256)) H.size) (cwV 0 hta (aw_V mw_161 mw_158 mw_160 mw_s6 mw_2) rfl rfl rfl ⟨rfl, dyX0_mix⟩ ⟨(Nat.le_of_ble_eq_true rfl), (Nat.le_of_ble_eq_true rfl)⟩) (pr_V hP hD hK hE [1, 3] [2] (by decide) rfl rfl rfl rfl) rfl rfl hl.1 rfl (lv_room (Nat.le_of_ble_eq_true rfl)) dX0_encipher_33 ⟨(Nat.le_of_ble_eq_true rfl), (Nat.le_of_ble_eq_true rfl)⟩) hP hD hS hA [1, 3] [0, 2, 4] rfl rfl (by decide) (by decide) (fun H locs hP hD hS => ?_)
          have hP : va_P (dC, dI) vwCl [(qw, .inl (kw, 44, .inl w)), (qs, .inl (ks, 256, .inl (nF sb))), (qe, .inl (ke, 16, .inl (nF (erN sb w (ldN hi lo) k)))), (o, .inr (0, [.ref qs, .ref qu, .ref qw, .ref qb, .ref qe])), (qb, .inl (kb, 16, .inl (nF (mixN (ssN sb (erN sb w (ldN hi lo) k))))))] H := hP
          have hD : va_D A [(qw, .inl (kw, 44, .inl w)), (qs, .inl (ks, 256, .inl (nF sb))), (qe, .inl (ke, 16, .inl (nF (erN sb w (ldN hi lo) k)))), (o, .inr (0, [.ref qs, .ref qu, .ref qw, .ref qb, .ref qe])), (qb, .inl (kb, 16, .inl (nF (mixN (ssN sb (erN sb w (ldN hi lo) k))))))] := hD
          refine W.widen (k := 0) (n := 0) (Nat.le_of_ble_eq_true rfl) (Nat.le_of_ble_eq_true rfl) ?_
          refine w_pc (pc2 := 36) rfl ?_
          refine lv_aload_n hx hb dX0_encipher_36 rfl (lv_at hl 1 rfl) ?_
          refine lv_iload hx hb dX0_encipher_37 (lv_at hl 0 rfl) ?_
          refine cf_0 (wr := [(qs, .inl (ks, 256, .inl (nF sb))), (qe, .inl (ke, 16, .inl (nF (erN sb w (ldN hi lo) k))))]) (va_runV (As := [.int (nI (k + 1))]) (rest := []) ⟨hx, hb, hml, hown, hta⟩ (MO.to (c_addWords l dC dI o qs qu qw qb qe kw kb w (mixN (ssN sb (erN sb w (ldN hi lo) k))) (k + 1) (by omega)) H.size) (cwV 1 hta (aw_V mw_143 mw_140 mw_142 mw_s4 mw_2) rfl rfl rfl ⟨rfl, dyX0_addWords⟩ ⟨(Nat.le_of_ble_eq_true rfl), (Nat.le_of_ble_eq_true rfl)⟩) (pr_V hP hD hK hE [3, 0, 4] [1, 2] (by decide) rfl rfl rfl rfl) rfl rfl hl.1 rfl (lv_room (Nat.le_of_ble_eq_true rfl)) dX0_encipher_39 ⟨(Nat.le_of_ble_eq_true rfl), (Nat.le_of_ble_eq_true rfl)⟩) hP hD hS hA [3, 0, 4] [1, 2] rfl rfl (by decide) (by decide) (fun H locs hP hD hS => ?_)
          have hP : va_P (dC, dI) vwCl [(qs, .inl (ks, 256, .inl (nF sb))), (qe, .inl (ke, 16, .inl (nF (erN sb w (ldN hi lo) k)))), (o, .inr (0, [.ref qs, .ref qu, .ref qw, .ref qb, .ref qe])), (qw, .inl (kw, 44, .inl w)), (qb, .inl (kb, 16, .inl (nF (akN w (k + 1) (mixN (ssN sb (erN sb w (ldN hi lo) k)))))))] H := hP
          have hD : va_D A [(qs, .inl (ks, 256, .inl (nF sb))), (qe, .inl (ke, 16, .inl (nF (erN sb w (ldN hi lo) k)))), (o, .inr (0, [.ref qs, .ref qu, .ref qw, .ref qb, .ref qe])), (qw, .inl (kw, 44, .inl w)), (qb, .inl (kb, 16, .inl (nF (akN w (k + 1) (mixN (ssN sb (erN sb w (ldN hi lo) k)))))))] := hD
          refine W.widen (k := 0) (n := 0) (Nat.le_of_ble_eq_true rfl) (Nat.le_of_ble_eq_true rfl) ?_
          refine w_pc (pc2 := 42) rfl ?_
          refine lv_iinc (v := nI ((k + 1) + 1)) (k := 0) hx hb dX0_encipher_42 hl rfl (ix_inc _ 1) (by decide) rfl (fun ls hl => ?_)
          have hl : lv_has ls 6 [(5, .int (nI ((k + 1) + 1))), (0, .ref o)] := hl
          refine lv_goto (tgt := 14) hx hb dX0_encipher_45 (by decide) ?_
          obtain ⟨hP, hD⟩ := va_recb (g := erN sb w (ldN hi lo) (k + 1)) hP hD 4 rfl (fun i _ => erN_m (by omega) i)
          have hP : va_P (dC, dI) vwCl [(qs, .inl (ks, 256, .inl (nF sb))), (qe, .inl (ke, 16, .inl (nF (erN sb w (ldN hi lo) k)))), (o, .inr (0, [.ref qs, .ref qu, .ref qw, .ref qb, .ref qe])), (qw, .inl (kw, 44, .inl w)), (qb, .inl (kb, 16, .inl (nF (erN sb w (ldN hi lo) (k + 1)))))] H := hP
          have hD : va_D A [(qs, .inl (ks, 256, .inl (nF sb))), (qe, .inl (ke, 16, .inl (nF (erN sb w (ldN hi lo) k)))), (o, .inr (0, [.ref qs, .ref qu, .ref qw, .ref qb, .ref qe])), (qw, .inl (kw, 44, .inl w)), (qb, .inl (kb, 16, .inl (nF (erN sb w (ldN hi lo) (k + 1)))))] := hD
          obtain ⟨hP, hD⟩ := va_recb (g := ebN sb w (ldN hi lo) z (k + 1)) hP hD 1 rfl (fun i _ => rfl)
          have hP : va_P (dC, dI) vwCl [(qs, .inl (ks, 256, .inl (nF sb))), (qe, .inl (ke, 16, .inl (nF (ebN sb w (ldN hi lo) z (k + 1))))), (o, .inr (0, [.ref qs, .ref qu, .ref qw, .ref qb, .ref qe])), (qw, .inl (kw, 44, .inl w)), (qb, .inl (kb, 16, .inl (nF (erN sb w (ldN hi lo) (k + 1)))))] H := hP
          have hD : va_D A [(qs, .inl (ks, 256, .inl (nF sb))), (qe, .inl (ke, 16, .inl (nF (ebN sb w (ldN hi lo) z (k + 1))))), (o, .inr (0, [.ref qs, .ref qu, .ref qw, .ref qb, .ref qe])), (qw, .inl (kw, 44, .inl w)), (qb, .inl (kb, 16, .inl (nF (erN sb w (ldN hi lo) (k + 1)))))] := hD
          exact ih (k + 1) ls H locs (by omega)  (lv_sub hl [0, 1] rfl) hP hD hS
  exact loop_14 10 0 ls H locs (by omega)  (lv_sub hl [0, 1] rfl) hP hD hS

def rm_c_decipher : Room := { frames := 3, cells := 0, slots := 0, locals := 102 }
set_option maxHeartbeats 4000000 in
set_option maxRecDepth 100000 in
/-- decipher(hi, lo) -/
theorem c_decipher (l : Launch) (dC : Nat → ClassId) (dI : Nat → Nat → Nat) (o : Nat) (qs : Nat) (qu : Nat) (qw : Nat) (qb : Nat) (qe : Nat) (ku : ClassId) (kw : ClassId) (kb : ClassId) (ke : ClassId) (ub : Nat → Nat) (w : Nat → Int32) (b : Nat → Nat) (z : Nat → Nat) (hi : Int64) (lo : Int64) (u256 : ∀ i, ub i < 256) : MO l dC dI yX0_decipher wsX0_decipher rm_c_decipher [.ref o, .long hi, .long lo] [(o, .inr (0, [.ref qs, .ref qu, .ref qw, .ref qb, .ref qe])), (qu, .inl (ku, 256, .inl (nF ub))), (qw, .inl (kw, 44, .inl w)), (qb, .inl (kb, 16, .inl (nF b))), (qe, .inl (ke, 16, .inl (nF z)))] [(ku, .int), (kw, .int), (kb, .int), (ke, .int)] [(o, .inr (0, [.ref qs, .ref qu, .ref qw, .ref qb, .ref qe])), (qu, .inl (ku, 256, .inl (nF ub))), (qw, .inl (kw, 44, .inl w)), (qb, .inl (kb, 16, .inl (nF (akN w 0 (drN ub w (ldN hi lo) 10))))), (qe, .inl (ke, 16, .inl (nF (umN w 9 (drN ub w (ldN hi lo) 9)))))] none := by
  refine mo_ofW (cc := cX0_decipher) (maxL := 6) (ret := none) (by decide) rfl (Nat.le_of_ble_eq_true rfl) ?_
  intro p e s m args below meth c Q A H locs ls hx hb hr hlk hml hta hown hin hE hQ hAe hA hK hP hD hS hl
  have hown : s.vm.findClass RX0 = some m.cls := hown
  have hl : lv_has ls 6 [(0, .ref o), (1, .long hi), (3, .long lo)] := hl
  refine lv_aload_n hx hb dX0_decipher_0 rfl (lv_at hl 0 rfl) ?_
  refine lv_lload_n hx hb dX0_decipher_1 rfl (lv_at hl 1 rfl) ?_
  refine lv_lload_n hx hb dX0_decipher_2 rfl (lv_at hl 2 rfl) ?_
  refine cf_0 (wr := [(qu, .inl (ku, 256, .inl (nF ub))), (qw, .inl (kw, 44, .inl w)), (qe, .inl (ke, 16, .inl (nF z)))]) (va_runV (As := [.long hi, .long lo]) (rest := []) ⟨hx, hb, hml, hown, hta⟩ (MO.to (c_load l dC dI o qs qu qw qb qe kb b hi lo) H.size) (cwV 2 hta (aw_V mw_139 mw_136 mw_138 mw_s3 mw_2) rfl rfl rfl ⟨rfl, dyX0_load⟩ ⟨(Nat.le_of_ble_eq_true rfl), (Nat.le_of_ble_eq_true rfl)⟩) (pr_V hP hD hK hE [0, 3] [2] (by decide) rfl rfl rfl rfl) rfl rfl hl.1 rfl (lv_room (Nat.le_of_ble_eq_true rfl)) dX0_decipher_3 ⟨(Nat.le_of_ble_eq_true rfl), (Nat.le_of_ble_eq_true rfl)⟩) hP hD hS hA [0, 3] [1, 2, 4] rfl rfl (by decide) (by decide) (fun H locs hP hD hS => ?_)
  have hP : va_P (dC, dI) vwCl [(qu, .inl (ku, 256, .inl (nF ub))), (qw, .inl (kw, 44, .inl w)), (qe, .inl (ke, 16, .inl (nF z))), (o, .inr (0, [.ref qs, .ref qu, .ref qw, .ref qb, .ref qe])), (qb, .inl (kb, 16, .inl (nF (ldN hi lo))))] H := hP
  have hD : va_D A [(qu, .inl (ku, 256, .inl (nF ub))), (qw, .inl (kw, 44, .inl w)), (qe, .inl (ke, 16, .inl (nF z))), (o, .inr (0, [.ref qs, .ref qu, .ref qw, .ref qb, .ref qe])), (qb, .inl (kb, 16, .inl (nF (ldN hi lo))))] := hD
  refine W.widen (k := 0) (n := 0) (Nat.le_of_ble_eq_true rfl) (Nat.le_of_ble_eq_true rfl) ?_
  refine w_pc (pc2 := 6) rfl ?_
  refine lv_bipush (v := nI 10) hx hb dX0_decipher_6 (by decide) ?_
  refine lv_istore hx hb dX0_decipher_8 hl (by decide) rfl (fun ls hl => ?_)
  have hl : lv_has ls 6 [(5, .int (nI 10)), (0, .ref o), (1, .long hi), (3, .long lo)] := hl
  obtain ⟨hP, hD⟩ := va_recb (g := drN ub w (ldN hi lo) 0) hP hD 4 rfl (fun i _ => rfl)
  have hP : va_P (dC, dI) vwCl [(qu, .inl (ku, 256, .inl (nF ub))), (qw, .inl (kw, 44, .inl w)), (qe, .inl (ke, 16, .inl (nF z))), (o, .inr (0, [.ref qs, .ref qu, .ref qw, .ref qb, .ref qe])), (qb, .inl (kb, 16, .inl (nF (drN ub w (ldN hi lo) 0))))] H := hP
  have hD : va_D A [(qu, .inl (ku, 256, .inl (nF ub))), (qw, .inl (kw, 44, .inl w)), (qe, .inl (ke, 16, .inl (nF z))), (o, .inr (0, [.ref qs, .ref qu, .ref qw, .ref qb, .ref qe])), (qb, .inl (kb, 16, .inl (nF (drN ub w (ldN hi lo) 0))))] := hD
  obtain ⟨hP, hD⟩ := va_recb (g := dbN ub w (ldN hi lo) z 0) hP hD 2 rfl (fun i _ => rfl)
  have hP : va_P (dC, dI) vwCl [(qu, .inl (ku, 256, .inl (nF ub))), (qw, .inl (kw, 44, .inl w)), (qe, .inl (ke, 16, .inl (nF (dbN ub w (ldN hi lo) z 0)))), (o, .inr (0, [.ref qs, .ref qu, .ref qw, .ref qb, .ref qe])), (qb, .inl (kb, 16, .inl (nF (drN ub w (ldN hi lo) 0))))] H := hP
  have hD : va_D A [(qu, .inl (ku, 256, .inl (nF ub))), (qw, .inl (kw, 44, .inl w)), (qe, .inl (ke, 16, .inl (nF (dbN ub w (ldN hi lo) z 0)))), (o, .inr (0, [.ref qs, .ref qu, .ref qw, .ref qb, .ref qe])), (qb, .inl (kb, 16, .inl (nF (drN ub w (ldN hi lo) 0))))] := hD
  have loop_10 : ∀ (n t : Nat) (ls : Array Slot) (H : Heap) (locs : List Loc), t + n = 10 → lv_has ls 6 [(5, .int (nI (10 - t))), (0, .ref o)] → va_P (dC, dI) vwCl [(qu, .inl (ku, 256, .inl (nF ub))), (qw, .inl (kw, 44, .inl w)), (qe, .inl (ke, 16, .inl (nF (dbN ub w (ldN hi lo) z t)))), (o, .inr (0, [.ref qs, .ref qu, .ref qw, .ref qb, .ref qe])), (qb, .inl (kb, 16, .inl (nF (drN ub w (ldN hi lo) t))))] H → va_D A [(qu, .inl (ku, 256, .inl (nF ub))), (qw, .inl (kw, 44, .inl w)), (qe, .inl (ke, 16, .inl (nF (dbN ub w (ldN hi lo) z t)))), (o, .inr (0, [.ref qs, .ref qu, .ref qw, .ref qb, .ref qe])), (qb, .inl (kb, 16, .inl (nF (drN ub w (ldN hi lo) t))))] → va_S A s.heap H locs → W p l e rm_c_decipher s m args below meth c H locs 0 0 Q (F0 m 10 ls []) := by
    intro n
    induction n with
    | zero =>
      intro t ls H locs hn_10  hl hP hD hS
      obtain rfl : 10 = t := by omega
      obtain ⟨hP, hD⟩ := va_recb (g := umN w 9 (drN ub w (ldN hi lo) 9)) hP hD 2 rfl (fun i _ => rfl)
      have hP : va_P (dC, dI) vwCl [(qu, .inl (ku, 256, .inl (nF ub))), (qw, .inl (kw, 44, .inl w)), (qe, .inl (ke, 16, .inl (nF (umN w 9 (drN ub w (ldN hi lo) 9))))), (o, .inr (0, [.ref qs, .ref qu, .ref qw, .ref qb, .ref qe])), (qb, .inl (kb, 16, .inl (nF (drN ub w (ldN hi lo) 10))))] H := hP
      have hD : va_D A [(qu, .inl (ku, 256, .inl (nF ub))), (qw, .inl (kw, 44, .inl w)), (qe, .inl (ke, 16, .inl (nF (umN w 9 (drN ub w (ldN hi lo) 9))))), (o, .inr (0, [.ref qs, .ref qu, .ref qw, .ref qb, .ref qe])), (qb, .inl (kb, 16, .inl (nF (drN ub w (ldN hi lo) 10))))] := hD
      refine lv_iload hx hb dX0_decipher_10 (lv_at hl 0 rfl) ?_
      refine lv_iconst (v := nI 1) hx hb dX0_decipher_12 (by decide) ?_
      refine lv_icmp_lt (tgt := 43) hx hb dX0_decipher_13 (by decide) (fun hc_13 => ?_) (fun hc_13 => ?_)
      · skip
        have hc_13 := (ix_lt (a := 10 - 10) (b := 1) (by omega) (by omega)).mp hc_13
        have hc_13 : ((10 - 10) < 1) := hc_13
        refine lv_aload_n hx hb dX0_decipher_43 rfl (lv_at hl 1 rfl) ?_
        refine lv_iconst (v := nI 0) hx hb dX0_decipher_44 (by decide) ?_
        refine cf_0 (wr := [(qu, .inl (ku, 256, .inl (nF ub))), (qe, .inl (ke, 16, .inl (nF (umN w 9 (drN ub w (ldN hi lo) 9)))))]) (va_runV (As := [.int (nI 0)]) (rest := []) ⟨hx, hb, hml, hown, hta⟩ (MO.to (c_addWords l dC dI o qs qu qw qb qe kw kb w (drN ub w (ldN hi lo) 10) 0 (by omega)) H.size) (cwV 1 hta (aw_V mw_143 mw_140 mw_142 mw_s4 mw_2) rfl rfl rfl ⟨rfl, dyX0_addWords⟩ ⟨(Nat.le_of_ble_eq_true rfl), (Nat.le_of_ble_eq_true rfl)⟩) (pr_V hP hD hK hE [3, 1, 4] [1, 2] (by decide) rfl rfl rfl rfl) rfl rfl hl.1 rfl (lv_room (Nat.le_of_ble_eq_true rfl)) dX0_decipher_45 ⟨(Nat.le_of_ble_eq_true rfl), (Nat.le_of_ble_eq_true rfl)⟩) hP hD hS hA [3, 1, 4] [0, 2] rfl rfl (by decide) (by decide) (fun H locs hP hD hS => ?_)
        have hP : va_P (dC, dI) vwCl [(qu, .inl (ku, 256, .inl (nF ub))), (qe, .inl (ke, 16, .inl (nF (umN w 9 (drN ub w (ldN hi lo) 9))))), (o, .inr (0, [.ref qs, .ref qu, .ref qw, .ref qb, .ref qe])), (qw, .inl (kw, 44, .inl w)), (qb, .inl (kb, 16, .inl (nF (akN w 0 (drN ub w (ldN hi lo) 10)))))] H := hP
        have hD : va_D A [(qu, .inl (ku, 256, .inl (nF ub))), (qe, .inl (ke, 16, .inl (nF (umN w 9 (drN ub w (ldN hi lo) 9))))), (o, .inr (0, [.ref qs, .ref qu, .ref qw, .ref qb, .ref qe])), (qw, .inl (kw, 44, .inl w)), (qb, .inl (kb, 16, .inl (nF (akN w 0 (drN ub w (ldN hi lo) 10)))))] := hD
        refine W.widen (k := 0) (n := 0) (Nat.le_of_ble_eq_true rfl) (Nat.le_of_ble_eq_true rfl) ?_
        refine w_pc (pc2 := 48) rfl ?_
        exact rt_0 hx hb hr hlk hQ hAe hP hD hS [2, 0, 3, 4, 1] (by decide) rfl (Nat.le_of_ble_eq_true rfl) (Nat.le_of_ble_eq_true rfl) dX0_decipher_48
      · skip
        have hc_13 := (not_congr (ix_lt (a := 10 - 10) (b := 1) (by omega) (by omega))).mp hc_13
        have hc_13 : ¬ ((10 - 10) < 1) := hc_13
        exfalso; omega
    | succ n ih =>
      intro t ls H locs hn_10  hl hP hD hS
      refine lv_iload hx hb dX0_decipher_10 (lv_at hl 0 rfl) ?_
      refine lv_iconst (v := nI 1) hx hb dX0_decipher_12 (by decide) ?_
      refine lv_icmp_lt (tgt := 43) hx hb dX0_decipher_13 (by decide) (fun hc_13 => ?_) (fun hc_13 => ?_)
      · skip
        have hc_13 := (ix_lt (a := 10 - t) (b := 1) (by omega) (by omega)).mp hc_13
        have hc_13 : ((10 - t) < 1) := hc_13
        exfalso; omega
      · skip
        have hc_13 := (not_congr (ix_lt (a := 10 - t) (b := 1) (by omega) (by omega))).mp hc_13
        have hc_13 : ¬ ((10 - t) < 1) := hc_13
        refine lv_aload_n hx hb dX0_decipher_16 rfl (lv_at hl 1 rfl) ?_
        refine lv_iload hx hb dX0_decipher_17 (lv_at hl 0 rfl) ?_
        refine cf_0 (wr := [(qu, .inl (ku, 256, .inl (nF ub))), (qe, .inl (ke, 16, .inl (nF (dbN ub w (ldN hi lo) z t))))]) (va_runV (As := [.int (nI (10 - t))]) (rest := []) ⟨hx, hb, hml, hown, hta⟩ (MO.to (c_addWords l dC dI o qs qu qw qb qe kw kb w (drN ub w (ldN hi lo) t) (10 - t) (by omega)) H.size) (cwV 1 hta (aw_V mw_143 mw_140 mw_142 mw_s4 mw_2) rfl rfl rfl ⟨rfl, dyX0_addWords⟩ ⟨(Nat.le_of_ble_eq_true rfl), (Nat.le_of_ble_eq_true rfl)⟩) (pr_V hP hD hK hE [3, 1, 4] [1, 2] (by decide) rfl rfl rfl rfl) rfl rfl hl.1 rfl (lv_room (Nat.le_of_ble_eq_true rfl)) dX0_decipher_19 ⟨(Nat.le_of_ble_eq_true rfl), (Nat.le_of_ble_eq_true rfl)⟩) hP hD hS hA [3, 1, 4] [0, 2] rfl rfl (by decide) (by decide) (fun H locs hP hD hS => ?_)
        have hP : va_P (dC, dI) vwCl [(qu, .inl (ku, 256, .inl (nF ub))), (qe, .inl (ke, 16, .inl (nF (dbN ub w (ldN hi lo) z t)))), (o, .inr (0, [.ref qs, .ref qu, .ref qw, .ref qb, .ref qe])), (qw, .inl (kw, 44, .inl w)), (qb, .inl (kb, 16, .inl (nF (akN w (10 - t) (drN ub w (ldN hi lo) t)))))] H := hP
        have hD : va_D A [(qu, .inl (ku, 256, .inl (nF ub))), (qe, .inl (ke, 16, .inl (nF (dbN ub w (ldN hi lo) z t)))), (o, .inr (0, [.ref qs, .ref qu, .ref qw, .ref qb, .ref qe])), (qw, .inl (kw, 44, .inl w)), (qb, .inl (kb, 16, .inl (nF (akN w (10 - t) (drN ub w (ldN hi lo) t)))))] := hD
        refine W.widen (k := 0) (n := 0) (Nat.le_of_ble_eq_true rfl) (Nat.le_of_ble_eq_true rfl) ?_
        refine w_pc (pc2 := 22) rfl ?_
        refine lv_iload hx hb dX0_decipher_22 (lv_at hl 0 rfl) ?_
        refine lv_bipush (v := nI 10) hx hb dX0_decipher_24 (by decide) ?_
        refine lv_icmp_ge (tgt := 33) hx hb dX0_decipher_26 (by decide) (fun hc_26 => ?_) (fun hc_26 => ?_)
        · skip
          have hc_26 := (ix_le (a := 10) (b := 10 - t) (by omega) (by omega)).mp hc_26
          have hc_26 : (10 ≤ (10 - t)) := hc_26
          refine lv_aload_n hx hb dX0_decipher_33 rfl (lv_at hl 1 rfl) ?_
          refine cf_0 (wr := [(qw, .inl (kw, 44, .inl w))]) (va_runV (As := []) (rest := []) ⟨hx, hb, hml, hown, hta⟩ (MO.to (c_unshift l dC dI o qs qu qw qb qe ku kb ke ub (akN w (10 - t) (drN ub w (ldN hi lo) t)) (dbN ub w (ldN hi lo) z t) (akN_lt (drN_lt u256 (ldN_lt hi lo) t))) H.size) (cwV 0 hta (aw_V mw_188 mw_185 mw_187 mw_s8 mw_2) rfl rfl rfl ⟨rfl, dyX0_unshiftAndUnsubst⟩ ⟨(Nat.le_of_ble_eq_true rfl), (Nat.le_of_ble_eq_true rfl)⟩) (pr_V hP hD hK hE [2, 0, 4, 1] [0, 2, 3] (by decide) rfl rfl rfl rfl) rfl rfl hl.1 rfl (lv_room (Nat.le_of_ble_eq_true rfl)) dX0_decipher_34 ⟨(Nat.le_of_ble_eq_true rfl), (Nat.le_of_ble_eq_true rfl)⟩) hP hD hS hA [2, 0, 4, 1] [3] rfl rfl (by decide) (by decide) (fun H locs hP hD hS => ?_)
          have hP : va_P (dC, dI) vwCl [(qw, .inl (kw, 44, .inl w)), (o, .inr (0, [.ref qs, .ref qu, .ref qw, .ref qb, .ref qe])), (qu, .inl (ku, 256, .inl (nF ub))), (qb, .inl (kb, 16, .inl (nF (usN ub (akN w (10 - t) (drN ub w (ldN hi lo) t)))))), (qe, .inl (ke, 16, .inl (nF (akN w (10 - t) (drN ub w (ldN hi lo) t)))))] H := hP
          have hD : va_D A [(qw, .inl (kw, 44, .inl w)), (o, .inr (0, [.ref qs, .ref qu, .ref qw, .ref qb, .ref qe])), (qu, .inl (ku, 256, .inl (nF ub))), (qb, .inl (kb, 16, .inl (nF (usN ub (akN w (10 - t) (drN ub w (ldN hi lo) t)))))), (qe, .inl (ke, 16, .inl (nF (akN w (10 - t) (drN ub w (ldN hi lo) t)))))] := hD
          refine W.widen (k := 0) (n := 0) (Nat.le_of_ble_eq_true rfl) (Nat.le_of_ble_eq_true rfl) ?_
          refine w_pc (pc2 := 37) rfl ?_
          refine lv_iinc (v := nI (10 - (t + 1))) (k := 0) hx hb dX0_decipher_37 hl rfl ((ix_dec (by omega)).trans (congrArg nI (by omega))) (by decide) rfl (fun ls hl => ?_)
          have hl : lv_has ls 6 [(5, .int (nI (10 - (t + 1)))), (0, .ref o)] := hl
          refine lv_goto (tgt := 10) hx hb dX0_decipher_40 (by decide) ?_
          obtain ⟨hP, hD⟩ := va_recb (g := drN ub w (ldN hi lo) (t + 1)) hP hD 3 rfl (fun i _ => by rw [drN, umN_e (by omega)])
          have hP : va_P (dC, dI) vwCl [(qw, .inl (kw, 44, .inl w)), (o, .inr (0, [.ref qs, .ref qu, .ref qw, .ref qb, .ref qe])), (qu, .inl (ku, 256, .inl (nF ub))), (qb, .inl (kb, 16, .inl (nF (drN ub w (ldN hi lo) (t + 1))))), (qe, .inl (ke, 16, .inl (nF (akN w (10 - t) (drN ub w (ldN hi lo) t)))))] H := hP
          have hD : va_D A [(qw, .inl (kw, 44, .inl w)), (o, .inr (0, [.ref qs, .ref qu, .ref qw, .ref qb, .ref qe])), (qu, .inl (ku, 256, .inl (nF ub))), (qb, .inl (kb, 16, .inl (nF (drN ub w (ldN hi lo) (t + 1))))), (qe, .inl (ke, 16, .inl (nF (akN w (10 - t) (drN ub w (ldN hi lo) t)))))] := hD
          obtain ⟨hP, hD⟩ := va_recb (g := dbN ub w (ldN hi lo) z (t + 1)) hP hD 4 rfl (fun i _ => by rw [dbN, umN_e (by omega)])
          have hP : va_P (dC, dI) vwCl [(qw, .inl (kw, 44, .inl w)), (o, .inr (0, [.ref qs, .ref qu, .ref qw, .ref qb, .ref qe])), (qu, .inl (ku, 256, .inl (nF ub))), (qb, .inl (kb, 16, .inl (nF (drN ub w (ldN hi lo) (t + 1))))), (qe, .inl (ke, 16, .inl (nF (dbN ub w (ldN hi lo) z (t + 1)))))] H := hP
          have hD : va_D A [(qw, .inl (kw, 44, .inl w)), (o, .inr (0, [.ref qs, .ref qu, .ref qw, .ref qb, .ref qe])), (qu, .inl (ku, 256, .inl (nF ub))), (qb, .inl (kb, 16, .inl (nF (drN ub w (ldN hi lo) (t + 1))))), (qe, .inl (ke, 16, .inl (nF (dbN ub w (ldN hi lo) z (t + 1)))))] := hD
          exact ih (t + 1) ls H locs (by omega)  (lv_sub hl [0, 1] rfl) (hP.sub [2, 0, 4, 1, 3] rfl) (hD.sub [2, 0, 4, 1, 3] (by decide) rfl) hS
        · skip
          have hc_26 := (not_congr (ix_le (a := 10) (b := 10 - t) (by omega) (by omega))).mp hc_26
          have hc_26 : ¬ (10 ≤ (10 - t)) := hc_26
          refine lv_aload_n hx hb dX0_decipher_29 rfl (lv_at hl 1 rfl) ?_
          refine cf_0 (wr := [(qu, .inl (ku, 256, .inl (nF ub))), (qe, .inl (ke, 16, .inl (nF (dbN ub w (ldN hi lo) z t)))), (qw, .inl (kw, 44, .inl w))]) (va_runV (As := []) (rest := []) ⟨hx, hb, hml, hown, hta⟩ (MO.to (c_unmix l dC dI o qs qu qw qb qe kb (akN w (10 - t) (drN ub w (ldN hi lo) t)) (akN_lt (drN_lt u256 (ldN_lt hi lo) t))) H.size) (cwV 0 hta (aw_V mw_184 mw_181 mw_183 mw_s7 mw_2) rfl rfl rfl ⟨rfl, dyX0_unmix⟩ ⟨(Nat.le_of_ble_eq_true rfl), (Nat.le_of_ble_eq_true rfl)⟩) (pr_V hP hD hK hE [2, 4] [2] (by decide) rfl rfl rfl rfl) rfl rfl hl.1 rfl (lv_room (Nat.le_of_ble_eq_true rfl)) dX0_decipher_30 ⟨(Nat.le_of_ble_eq_true rfl), (Nat.le_of_ble_eq_true rfl)⟩) hP hD hS hA [2, 4] [0, 1, 3] rfl rfl (by decide) (by decide) (fun H locs hP hD hS => ?_)
          have hP : va_P (dC, dI) vwCl [(qu, .inl (ku, 256, .inl (nF ub))), (qe, .inl (ke, 16, .inl (nF (dbN ub w (ldN hi lo) z t)))), (qw, .inl (kw, 44, .inl w)), (o, .inr (0, [.ref qs, .ref qu, .ref qw, .ref qb, .ref qe])), (qb, .inl (kb, 16, .inl (nF (mixN (mixN (mixN (akN w (10 - t) (drN ub w (ldN hi lo) t))))))))] H := hP
          have hD : va_D A [(qu, .inl (ku, 256, .inl (nF ub))), (qe, .inl (ke, 16, .inl (nF (dbN ub w (ldN hi lo) z t)))), (qw, .inl (kw, 44, .inl w)), (o, .inr (0, [.ref qs, .ref qu, .ref qw, .ref qb, .ref qe])), (qb, .inl (kb, 16, .inl (nF (mixN (mixN (mixN (akN w (10 - t) (drN ub w (ldN hi lo) t))))))))] := hD
          refine W.widen (k := 0) (n := 0) (Nat.le_of_ble_eq_true rfl) (Nat.le_of_ble_eq_true rfl) ?_
          refine w_pc (pc2 := 33) rfl ?_
          refine lv_aload_n hx hb dX0_decipher_33 rfl (lv_at hl 1 rfl) ?_
          refine cf_0 (wr := [(qw, .inl (kw, 44, .inl w))]) (va_runV (As := []) (rest := []) ⟨hx, hb, hml, hown, hta⟩ (MO.to (c_unshift l dC dI o qs qu qw qb qe ku kb ke ub (mixN (mixN (mixN (akN w (10 - t) (drN ub w (ldN hi lo) t))))) (dbN ub w (ldN hi lo) z t) (mixN_lt (mixN_lt (mixN_lt (akN_lt (drN_lt u256 (ldN_lt hi lo) t)))))) H.size) (cwV 0 hta (aw_V mw_188 mw_185 mw_187 mw_s8 mw_2) rfl rfl rfl ⟨rfl, dyX0_unshiftAndUnsubst⟩ ⟨(Nat.le_of_ble_eq_true rfl), (Nat.le_of_ble_eq_true rfl)⟩) (pr_V hP hD hK hE [3, 0, 4, 1] [0, 2, 3] (by decide) rfl rfl rfl rfl) rfl rfl hl.1 rfl (lv_room (Nat.le_of_ble_eq_true rfl)) dX0_decipher_34 ⟨(Nat.le_of_ble_eq_true rfl), (Nat.le_of_ble_eq_true rfl)⟩) hP hD hS hA [3, 0, 4, 1] [2] rfl rfl (by decide) (by decide) (fun H locs hP hD hS => ?_)
          have hP : va_P (dC, dI) vwCl [(qw, .inl (kw, 44, .inl w)), (o, .inr (0, [.ref qs, .ref qu, .ref qw, .ref qb, .ref qe])), (qu, .inl (ku, 256, .inl (nF ub))), (qb, .inl (kb, 16, .inl (nF (usN ub (mixN (mixN (mixN (akN w (10 - t) (drN ub w (ldN hi lo) t))))))))), (qe, .inl (ke, 16, .inl (nF (mixN (mixN (mixN (akN w (10 - t) (drN ub w (ldN hi lo) t))))))))] H := hP
          have hD : va_D A [(qw, .inl (kw, 44, .inl w)), (o, .inr (0, [.ref qs, .ref qu, .ref qw, .ref qb, .ref qe])), (qu, .inl (ku, 256, .inl (nF ub))), (qb, .inl (kb, 16, .inl (nF (usN ub (mixN (mixN (mixN (akN w (10 - t) (drN ub w (ldN hi lo) t))))))))), (qe, .inl (ke, 16, .inl (nF (mixN (mixN (mixN (akN w (10 - t) (drN ub w (ldN hi lo) t))))))))] := hD
          refine W.widen (k := 0) (n := 0) (Nat.le_of_ble_eq_true rfl) (Nat.le_of_ble_eq_true rfl) ?_
          refine w_pc (pc2 := 37) rfl ?_
          refine lv_iinc (v := nI (10 - (t + 1))) (k := 0) hx hb dX0_decipher_37 hl rfl ((ix_dec (by omega)).trans (congrArg nI (by omega))) (by decide) rfl (fun ls hl => ?_)
          have hl : lv_has ls 6 [(5, .int (nI (10 - (t + 1)))), (0, .ref o)] := hl
          refine lv_goto (tgt := 10) hx hb dX0_decipher_40 (by decide) ?_
          obtain ⟨hP, hD⟩ := va_recb (g := drN ub w (ldN hi lo) (t + 1)) hP hD 3 rfl (fun i _ => by rw [drN, umN_m (by omega)])
          have hP : va_P (dC, dI) vwCl [(qw, .inl (kw, 44, .inl w)), (o, .inr (0, [.ref qs, .ref qu, .ref qw, .ref qb, .ref qe])), (qu, .inl (ku, 256, .inl (nF ub))), (qb, .inl (kb, 16, .inl (nF (drN ub w (ldN hi lo) (t + 1))))), (qe, .inl (ke, 16, .inl (nF (mixN (mixN (mixN (akN w (10 - t) (drN ub w (ldN hi lo) t))))))))] H := hP
          have hD : va_D A [(qw, .inl (kw, 44, .inl w)), (o, .inr (0, [.ref qs, .ref qu, .ref qw, .ref qb, .ref qe])), (qu, .inl (ku, 256, .inl (nF ub))), (qb, .inl (kb, 16, .inl (nF (drN ub w (ldN hi lo) (t + 1))))), (qe, .inl (ke, 16, .inl (nF (mixN (mixN (mixN (akN w (10 - t) (drN ub w (ldN hi lo) t))))))))] := hD
          obtain ⟨hP, hD⟩ := va_recb (g := dbN ub w (ldN hi lo) z (t + 1)) hP hD 4 rfl (fun i _ => by rw [dbN, umN_m (by omega)])
          have hP : va_P (dC, dI) vwCl [(qw, .inl (kw, 44, .inl w)), (o, .inr (0, [.ref qs, .ref qu, .ref qw, .ref qb, .ref qe])), (qu, .inl (ku, 256, .inl (nF ub))), (qb, .inl (kb, 16, .inl (nF (drN ub w (ldN hi lo) (t + 1))))), (qe, .inl (ke, 16, .inl (nF (dbN ub w (ldN hi lo) z (t + 1)))))] H := hP
          have hD : va_D A [(qw, .inl (kw, 44, .inl w)), (o, .inr (0, [.ref qs, .ref qu, .ref qw, .ref qb, .ref qe])), (qu, .inl (ku, 256, .inl (nF ub))), (qb, .inl (kb, 16, .inl (nF (drN ub w (ldN hi lo) (t + 1))))), (qe, .inl (ke, 16, .inl (nF (dbN ub w (ldN hi lo) z (t + 1)))))] := hD
          exact ih (t + 1) ls H locs (by omega)  (lv_sub hl [0, 1] rfl) (hP.sub [2, 0, 4, 1, 3] rfl) (hD.sub [2, 0, 4, 1, 3] (by decide) rfl) hS
  exact loop_10 10 0 ls H locs (by omega)  (lv_sub hl [0, 1] rfl) hP hD hS

def rm_c_expand : Room := { frames := 1, cells := 0, slots := 0, locals := 21 }
set_option maxHeartbeats 4000000 in
set_option maxRecDepth 100000 in
/-- expand(hi, lo) -/
theorem c_expand (l : Launch) (dC : Nat → ClassId) (dI : Nat → Nat → Nat) (o : Nat) (qs : Nat) (qu : Nat) (qw : Nat) (qb : Nat) (qe : Nat) (ks : ClassId) (kw : ClassId) (sb : Nat → Nat) (w : Nat → Int32) (hi : Int64) (lo : Int64) : MO l dC dI yX0_expand wsX0_expand rm_c_expand [.ref o, .long hi, .long lo] [(o, .inr (0, [.ref qs, .ref qu, .ref qw, .ref qb, .ref qe])), (qs, .inl (ks, 256, .inl (nF sb))), (qw, .inl (kw, 44, .inl w))] [(ks, .int), (kw, .int)] [(o, .inr (0, [.ref qs, .ref qu, .ref qw, .ref qb, .ref qe])), (qs, .inl (ks, 256, .inl (nF sb))), (qw, .inl (kw, 44, .inl (kwN sb hi lo)))] none := by
  refine mo_ofW (cc := cX0_expand) (maxL := 8) (ret := none) (by decide) rfl (Nat.le_of_ble_eq_true rfl) ?_
  intro p e s m args below meth c Q A H locs ls hx hb hr hlk hml hta hown hin hE hQ hAe hA hK hP hD hS hl
  have hown : s.vm.findClass RX0 = some m.cls := hown
  have hl : lv_has ls 8 [(0, .ref o), (1, .long hi), (3, .long lo)] := hl
  refine lv_aload_n hx hb dX0_expand_0 rfl (lv_at hl 0 rfl) ?_
  refine va_get (D := (dC, dI)) (ci := 0) (v := .ref qw) (C := RX0) (T := TX0) (N := 5) hx hb hta inX0 hown hK hP 0 rfl rfl 2 (by decide) (hta _ mw_52) (fun _ h9 => h9) rfl dX0_expand_1 ?_
  refine lv_iconst (v := nI 0) hx hb dX0_expand_4 (by decide) ?_
  refine lv_lload_n hx hb dX0_expand_5 rfl (lv_at hl 1 rfl) ?_
  refine lv_bipush (v := nI 32) hx hb dX0_expand_6 (by decide) ?_
  refine lv_lushr hx hb dX0_expand_8 rfl (top_l (l_ushr _ (by decide)) ?_)
  refine lv_l2i hx hb dX0_expand_9 rfl (top_i (lN_i _) ?_)
  refine va_iasn hx hb hK hP hD hS 2 1 rfl rfl (by omega) (by decide) dX0_expand_10 (fun H locs hP hD hS => ?_)
  have hP : va_P (dC, dI) vwCl [(o, .inr (0, [.ref qs, .ref qu, .ref qw, .ref qb, .ref qe])), (qs, .inl (ks, 256, .inl (nF sb))), (qw, .inl (kw, 44, .inl (upd w 0 (nI (lW hi / 2 ^ 32)))))] H := hP
  have hD : va_D A [(o, .inr (0, [.ref qs, .ref qu, .ref qw, .ref qb, .ref qe])), (qs, .inl (ks, 256, .inl (nF sb))), (qw, .inl (kw, 44, .inl (upd w 0 (nI (lW hi / 2 ^ 32)))))] := hD
  refine lv_aload_n hx hb dX0_expand_11 rfl (lv_at hl 0 rfl) ?_
  refine va_get (D := (dC, dI)) (ci := 0) (v := .ref qw) (C := RX0) (T := TX0) (N := 5) hx hb hta inX0 hown hK hP 0 rfl rfl 2 (by decide) (hta _ mw_52) (fun _ h9 => h9) rfl dX0_expand_12 ?_
  refine lv_iconst (v := nI 1) hx hb dX0_expand_15 (by decide) ?_
  refine w_pc (pc2 := 16) rfl ?_
  refine lv_lload_n hx hb dX0_expand_16 rfl (lv_at hl 1 rfl) ?_
  refine lv_l2i hx hb dX0_expand_17 rfl (top_i (l_toI _) ?_)
  refine va_iasn hx hb hK hP hD hS 2 1 rfl rfl (by omega) (by decide) dX0_expand_18 (fun H locs hP hD hS => ?_)
  have hP : va_P (dC, dI) vwCl [(o, .inr (0, [.ref qs, .ref qu, .ref qw, .ref qb, .ref qe])), (qs, .inl (ks, 256, .inl (nF sb))), (qw, .inl (kw, 44, .inl (upd (upd w 0 (nI (lW hi / 2 ^ 32))) 1 (nI (lW hi)))))] H := hP
  have hD : va_D A [(o, .inr (0, [.ref qs, .ref qu, .ref qw, .ref qb, .ref qe])), (qs, .inl (ks, 256, .inl (nF sb))), (qw, .inl (kw, 44, .inl (upd (upd w 0 (nI (lW hi / 2 ^ 32))) 1 (nI (lW hi)))))] := hD
  refine lv_aload_n hx hb dX0_expand_19 rfl (lv_at hl 0 rfl) ?_
  refine va_get (D := (dC, dI)) (ci := 0) (v := .ref qw) (C := RX0) (T := TX0) (N := 5) hx hb hta inX0 hown hK hP 0 rfl rfl 2 (by decide) (hta _ mw_52) (fun _ h9 => h9) rfl dX0_expand_20 ?_
  refine lv_iconst (v := nI 2) hx hb dX0_expand_23 (by decide) ?_
  refine lv_lload_n hx hb dX0_expand_24 rfl (lv_at hl 2 rfl) ?_
  refine lv_bipush (v := nI 32) hx hb dX0_expand_25 (by decide) ?_
  refine lv_lushr hx hb dX0_expand_27 rfl (top_l (l_ushr _ (by decide)) ?_)
  refine lv_l2i hx hb dX0_expand_28 rfl (top_i (lN_i _) ?_)
  refine va_iasn hx hb hK hP hD hS 2 1 rfl rfl (by omega) (by decide) dX0_expand_29 (fun H locs hP hD hS => ?_)
  have hP : va_P (dC, dI) vwCl [(o, .inr (0, [.ref qs, .ref qu, .ref qw, .ref qb, .ref qe])), (qs, .inl (ks, 256, .inl (nF sb))), (qw, .inl (kw, 44, .inl (upd (upd (upd w 0 (nI (lW hi / 2 ^ 32))) 1 (nI (lW hi))) 2 (nI (lW lo / 2 ^ 32)))))] H := hP
  have hD : va_D A [(o, .inr (0, [.ref qs, .ref qu, .ref qw, .ref qb, .ref qe])), (qs, .inl (ks, 256, .inl (nF sb))), (qw, .inl (kw, 44, .inl (upd (upd (upd w 0 (nI (lW hi / 2 ^ 32))) 1 (nI (lW hi))) 2 (nI (lW lo / 2 ^ 32)))))] := hD
  refine lv_aload_n hx hb dX0_expand_30 rfl (lv_at hl 0 rfl) ?_
  refine w_pc (pc2 := 31) rfl ?_
  refine va_get (D := (dC, dI)) (ci := 0) (v := .ref qw) (C := RX0) (T := TX0) (N := 5) hx hb hta inX0 hown hK hP 0 rfl rfl 2 (by decide) (hta _ mw_52) (fun _ h9 => h9) rfl dX0_expand_31 ?_
  refine lv_iconst (v := nI 3) hx hb dX0_expand_34 (by decide) ?_
  refine lv_lload_n hx hb dX0_expand_35 rfl (lv_at hl 2 rfl) ?_
  refine lv_l2i hx hb dX0_expand_36 rfl (top_i (l_toI _) ?_)
  refine va_iasn hx hb hK hP hD hS 2 1 rfl rfl (by omega) (by decide) dX0_expand_37 (fun H locs hP hD hS => ?_)
  have hP : va_P (dC, dI) vwCl [(o, .inr (0, [.ref qs, .ref qu, .ref qw, .ref qb, .ref qe])), (qs, .inl (ks, 256, .inl (nF sb))), (qw, .inl (kw, 44, .inl (upd (upd (upd (upd w 0 (nI (lW hi / 2 ^ 32))) 1 (nI (lW hi))) 2 (nI (lW lo / 2 ^ 32))) 3 (nI (lW lo)))))] H := hP
  have hD : va_D A [(o, .inr (0, [.ref qs, .ref qu, .ref qw, .ref qb, .ref qe])), (qs, .inl (ks, 256, .inl (nF sb))), (qw, .inl (kw, 44, .inl (upd (upd (upd (upd w 0 (nI (lW hi / 2 ^ 32))) 1 (nI (lW hi))) 2 (nI (lW lo / 2 ^ 32))) 3 (nI (lW lo)))))] := hD
  refine lv_iconst (v := nI 1) hx hb dX0_expand_38 (by decide) ?_
  refine lv_istore hx hb dX0_expand_39 hl (by decide) rfl (fun ls hl => ?_)
  have hl : lv_has ls 8 [(5, .int (nI 1)), (0, .ref o), (1, .long hi), (3, .long lo)] := hl
  refine lv_iconst (v := nI 4) hx hb dX0_expand_41 (by decide) ?_
  refine lv_istore hx hb dX0_expand_42 hl (by decide) rfl (fun ls hl => ?_)
  have hl : lv_has ls 8 [(6, .int (nI 4)), (5, .int (nI 1)), (0, .ref o), (1, .long hi), (3, .long lo)] := hl
  obtain ⟨hP, hD⟩ := va_rec (g := ksN sb (kw0 hi lo w) 0) hP hD 2 rfl (fun i _ => rfl)
  have hP : va_P (dC, dI) vwCl [(o, .inr (0, [.ref qs, .ref qu, .ref qw, .ref qb, .ref qe])), (qs, .inl (ks, 256, .inl (nF sb))), (qw, .inl (kw, 44, .inl (ksN sb (kw0 hi lo w) 0)))] H := hP
  have hD : va_D A [(o, .inr (0, [.ref qs, .ref qu, .ref qw, .ref qb, .ref qe])), (qs, .inl (ks, 256, .inl (nF sb))), (qw, .inl (kw, 44, .inl (ksN sb (kw0 hi lo w) 0)))] := hD
  have loop_44 : ∀ (n k : Nat) (ls : Array Slot) (H : Heap) (locs : List Loc), k + n = 40 → lv_has ls 8 [(5, .int (nI (rcN ((k + 3) / 4)))), (6, .int (nI (k + 4))), (0, .ref o)] → va_P (dC, dI) vwCl [(o, .inr (0, [.ref qs, .ref qu, .ref qw, .ref qb, .ref qe])), (qs, .inl (ks, 256, .inl (nF sb))), (qw, .inl (kw, 44, .inl (ksN sb (kw0 hi lo w) k)))] H → va_D A [(o, .inr (0, [.ref qs, .ref qu, .ref qw, .ref qb, .ref qe])), (qs, .inl (ks, 256, .inl (nF sb))), (qw, .inl (kw, 44, .inl (ksN sb (kw0 hi lo w) k)))] → va_S A s.heap H locs → W p l e rm_c_expand s m args below meth c H locs 0 0 Q (F0 m 44 ls []) := by
    intro n
    induction n with
    | zero =>
      intro k ls H locs hn_44  hl hP hD hS
      obtain rfl : 40 = k := by omega
      obtain ⟨hP, hD⟩ := va_rec (g := kwN sb hi lo) hP hD 2 rfl (fun i hi9 => kw_eq sb hi lo w i hi9)
      have hP : va_P (dC, dI) vwCl [(o, .inr (0, [.ref qs, .ref qu, .ref qw, .ref qb, .ref qe])), (qs, .inl (ks, 256, .inl (nF sb))), (qw, .inl (kw, 44, .inl (kwN sb hi lo)))] H := hP
      have hD : va_D A [(o, .inr (0, [.ref qs, .ref qu, .ref qw, .ref qb, .ref qe])), (qs, .inl (ks, 256, .inl (nF sb))), (qw, .inl (kw, 44, .inl (kwN sb hi lo)))] := hD
      refine lv_iload hx hb dX0_expand_44 (lv_at hl 1 rfl) ?_
      refine lv_bipush (v := nI 44) hx hb dX0_expand_46 (by decide) ?_
      refine lv_icmp_ge (tgt := 120) hx hb dX0_expand_48 (by decide) (fun hc_48 => ?_) (fun hc_48 => ?_)
      · skip
        have hc_48 := (ix_le (a := 44) (b := 40 + 4) (by omega) (by omega)).mp hc_48
        have hc_48 : (44 ≤ (40 + 4)) := hc_48
        exact rt_0 hx hb hr hlk hQ hAe hP hD hS [0, 1, 2] (by decide) rfl (Nat.le_of_ble_eq_true rfl) (Nat.le_of_ble_eq_true rfl) dX0_expand_120
      · skip
        have hc_48 := (not_congr (ix_le (a := 44) (b := 40 + 4) (by omega) (by omega))).mp hc_48
        have hc_48 : ¬ (44 ≤ (40 + 4)) := hc_48
        exfalso; omega
    | succ n ih =>
      intro k ls H locs hn_44  hl hP hD hS
      refine lv_iload hx hb dX0_expand_44 (lv_at hl 1 rfl) ?_
      refine lv_bipush (v := nI 44) hx hb dX0_expand_46 (by decide) ?_
      refine lv_icmp_ge (tgt := 120) hx hb dX0_expand_48 (by decide) (fun hc_48 => ?_) (fun hc_48 => ?_)
      · skip
        have hc_48 := (ix_le (a := 44) (b := k + 4) (by omega) (by omega)).mp hc_48
        have hc_48 : (44 ≤ (k + 4)) := hc_48
        exfalso; omega
      · skip
        have hc_48 := (not_congr (ix_le (a := 44) (b := k + 4) (by omega) (by omega))).mp hc_48
        have hc_48 : ¬ (44 ≤ (k + 4)) := hc_48
        refine lv_aload_n hx hb dX0_expand_51 rfl (lv_at hl 2 rfl) ?_
        refine va_get (D := (dC, dI)) (ci := 0) (v := .ref qw) (C := RX0) (T := TX0) (N := 5) hx hb hta inX0 hown hK hP 0 rfl rfl 2 (by decide) (hta _ mw_52) (fun _ h9 => h9) rfl dX0_expand_52 ?_
        refine lv_iload hx hb dX0_expand_55 (lv_at hl 1 rfl) ?_
        refine lv_iconst (v := nI 1) hx hb dX0_expand_57 (by decide) ?_
        refine lv_isub hx hb dX0_expand_58 (top_i (pk_sub (by omega)) ?_)
        refine va_ialn hx hb hK hP 2 1 rfl rfl (by omega) (by decide) dX0_expand_59 ?_
        refine lv_istore hx hb dX0_expand_60 hl (by decide) rfl (fun ls hl => ?_)
        have hl : lv_has ls 8 [(7, .int ((ksN sb (kw0 hi lo w) k) ((k + 4) - 1))), (5, .int (nI (rcN ((k + 3) / 4)))), (6, .int (nI (k + 4))), (0, .ref o)] := hl
        refine lv_iload hx hb dX0_expand_62 (lv_at hl 2 rfl) ?_
        refine lv_iconst (v := nI 4) hx hb dX0_expand_64 (by decide) ?_
        refine lv_irem hx hb dX0_expand_65 (by decide) (top_i (pk_rem (by omega) (by decide) (by decide)) ?_)
        refine lv_if_ne (tgt := 95) hx hb dX0_expand_66 (by decide) (fun hc_66 => ?_) (fun hc_66 => ?_)
        · skip
          have hc_66 := (not_congr (ix_eq (a := (k + 4) % 4) (b := 0) (by omega) (by omega))).mp hc_66
          have hc_66 : ¬ (((k + 4) % 4) = 0) := hc_66
          refine lv_aload_n hx hb dX0_expand_95 rfl (lv_at hl 3 rfl) ?_
          refine va_get (D := (dC, dI)) (ci := 0) (v := .ref qw) (C := RX0) (T := TX0) (N := 5) hx hb hta inX0 hown hK hP 0 rfl rfl 2 (by decide) (hta _ mw_52) (fun _ h9 => h9) rfl dX0_expand_96 ?_
          refine lv_iload hx hb dX0_expand_99 (lv_at hl 2 rfl) ?_
          refine lv_aload_n hx hb dX0_expand_101 rfl (lv_at hl 3 rfl) ?_
          refine va_get (D := (dC, dI)) (ci := 0) (v := .ref qw) (C := RX0) (T := TX0) (N := 5) hx hb hta inX0 hown hK hP 0 rfl rfl 2 (by decide) (hta _ mw_52) (fun _ h9 => h9) rfl dX0_expand_102 ?_
          refine lv_iload hx hb dX0_expand_105 (lv_at hl 2 rfl) ?_
          refine lv_iconst (v := nI 4) hx hb dX0_expand_107 (by decide) ?_
          refine lv_isub hx hb dX0_expand_108 (top_i (pk_sub (by omega)) ?_)
          refine va_ialn hx hb hK hP 2 1 rfl rfl (by omega) (by decide) dX0_expand_109 ?_
          refine lv_iload hx hb dX0_expand_110 (lv_at hl 0 rfl) ?_
          refine lv_ixor hx hb dX0_expand_112 ?_
          refine w_pc (pc2 := 113) rfl ?_
          refine va_iasn hx hb hK hP hD hS 2 1 rfl rfl (by omega) (by decide) dX0_expand_113 (fun H locs hP hD hS => ?_)
          have hP : va_P (dC, dI) vwCl [(o, .inr (0, [.ref qs, .ref qu, .ref qw, .ref qb, .ref qe])), (qs, .inl (ks, 256, .inl (nF sb))), (qw, .inl (kw, 44, .inl (upd (ksN sb (kw0 hi lo w) k) (k + 4) (((ksN sb (kw0 hi lo w) k) ((k + 4) - 4)) ^^^ ((ksN sb (kw0 hi lo w) k) ((k + 4) - 1))))))] H := hP
          have hD : va_D A [(o, .inr (0, [.ref qs, .ref qu, .ref qw, .ref qb, .ref qe])), (qs, .inl (ks, 256, .inl (nF sb))), (qw, .inl (kw, 44, .inl (upd (ksN sb (kw0 hi lo w) k) (k + 4) (((ksN sb (kw0 hi lo w) k) ((k + 4) - 4)) ^^^ ((ksN sb (kw0 hi lo w) k) ((k + 4) - 1))))))] := hD
          refine lv_iinc (v := nI ((k + 1) + 4)) (k := 2) hx hb dX0_expand_114 hl rfl ((ix_inc _ 1).trans (congrArg nI (by omega))) (by decide) rfl (fun ls hl => ?_)
          have hl : lv_has ls 8 [(6, .int (nI ((k + 1) + 4))), (7, .int ((ksN sb (kw0 hi lo w) k) ((k + 4) - 1))), (5, .int (nI (rcN ((k + 3) / 4)))), (0, .ref o)] := hl
          refine lv_goto (tgt := 44) hx hb dX0_expand_117 (by decide) ?_
          obtain ⟨hP, hD⟩ := va_rec (g := ksN sb (kw0 hi lo w) (k + 1)) hP hD 2 rfl (fun i _ => ksN_e (by omega) i)
          have hP : va_P (dC, dI) vwCl [(o, .inr (0, [.ref qs, .ref qu, .ref qw, .ref qb, .ref qe])), (qs, .inl (ks, 256, .inl (nF sb))), (qw, .inl (kw, 44, .inl (ksN sb (kw0 hi lo w) (k + 1))))] H := hP
          have hD : va_D A [(o, .inr (0, [.ref qs, .ref qu, .ref qw, .ref qb, .ref qe])), (qs, .inl (ks, 256, .inl (nF sb))), (qw, .inl (kw, 44, .inl (ksN sb (kw0 hi lo w) (k + 1))))] := hD
          have hl := lv_re hl 2 rfl (v2 := .int (nI (rcN (((k + 1) + 3) / 4)))) (congrArg Value.int (congrArg nI (rcN_e (by omega)))) rfl
          have hl : lv_has ls 8 [(6, .int (nI ((k + 1) + 4))), (7, .int ((ksN sb (kw0 hi lo w) k) ((k + 4) - 1))), (5, .int (nI (rcN (((k + 1) + 3) / 4)))), (0, .ref o)] := hl
          exact ih (k + 1) ls H locs (by omega)  (lv_sub hl [2, 0, 3] rfl) hP hD hS
        · skip
          have hc_66 := (ix_eq (a := (k + 4) % 4) (b := 0) (by omega) (by omega)).mp hc_66
          have hc_66 : (((k + 4) % 4) = 0) := hc_66
          refine lv_aload_n hx hb dX0_expand_69 rfl (lv_at hl 3 rfl) ?_
          refine lv_iload hx hb dX0_expand_70 (lv_at hl 0 rfl) ?_
          refine lv_bipush (v := nI 8) hx hb dX0_expand_72 (by decide) ?_
          refine cf_1 (wr := [(o, .inr (0, [.ref qs, .ref qu, .ref qw, .ref qb, .ref qe])), (qs, .inl (ks, 256, .inl (nF sb))), (qw, .inl (kw, 44, .inl (ksN sb (kw0 hi lo w) k)))]) (va_runS (As := [.int ((ksN sb (kw0 hi lo w) k) ((k + 4) - 1)), .int (nI 8)]) (rest := [.ref o]) ⟨hx, hb, hml, hown, hta⟩ (MO.to (c_rot l dC dI ((ksN sb (kw0 hi lo w) k) ((k + 4) - 1))) H.size) (va_cwS 2 hta (aw_S mw_45 mw_43 mw_44 mw_3) rfl rfl rfl dyJ_rotateLeft ⟨(Nat.le_of_ble_eq_true rfl), (Nat.le_of_ble_eq_true rfl)⟩) (pr_S hP hD hK hE [] [] (by decide) rfl rfl) rfl rfl hl.1 rfl (lv_room (Nat.le_of_ble_eq_true rfl)) dX0_expand_74 ⟨(Nat.le_of_ble_eq_true rfl), (Nat.le_of_ble_eq_true rfl)⟩) hP hD hS hA [] [0, 1, 2] rfl rfl (by decide) (by decide) (fun H locs hP hD hS => ?_)
          have hP : va_P (dC, dI) vwCl [(o, .inr (0, [.ref qs, .ref qu, .ref qw, .ref qb, .ref qe])), (qs, .inl (ks, 256, .inl (nF sb))), (qw, .inl (kw, 44, .inl (ksN sb (kw0 hi lo w) k)))] H := hP
          have hD : va_D A [(o, .inr (0, [.ref qs, .ref qu, .ref qw, .ref qb, .ref qe])), (qs, .inl (ks, 256, .inl (nF sb))), (qw, .inl (kw, 44, .inl (ksN sb (kw0 hi lo w) k)))] := hD
          refine W.widen (k := 0) (n := 0) (Nat.le_of_ble_eq_true rfl) (Nat.le_of_ble_eq_true rfl) ?_
          refine w_pc (pc2 := 77) rfl ?_
          refine cf_1 (wr := [(qw, .inl (kw, 44, .inl (ksN sb (kw0 hi lo w) k)))]) (va_runV (As := [.int (rl8 ((ksN sb (kw0 hi lo w) k) ((k + 4) - 1)))]) (rest := []) ⟨hx, hb, hml, hown, hta⟩ (MO.to (c_substWord l dC dI o qs qu qw qb qe ks sb (rl8 ((ksN sb (kw0 hi lo w) k) ((k + 4) - 1)))) H.size) (cwV 1 hta (aw_V mw_49 mw_46 mw_48 mw_s2 mw_2) rfl rfl rfl ⟨rfl, dyX0_substWord⟩ ⟨(Nat.le_of_ble_eq_true rfl), (Nat.le_of_ble_eq_true rfl)⟩) (pr_V hP hD hK hE [0, 1] [0] (by decide) rfl rfl rfl rfl) rfl rfl hl.1 rfl (lv_room (Nat.le_of_ble_eq_true rfl)) dX0_expand_77 ⟨(Nat.le_of_ble_eq_true rfl), (Nat.le_of_ble_eq_true rfl)⟩) hP hD hS hA [0, 1] [2] rfl rfl (by decide) (by decide) (fun H locs hP hD hS => ?_)
          have hP : va_P (dC, dI) vwCl [(qw, .inl (kw, 44, .inl (ksN sb (kw0 hi lo w) k))), (o, .inr (0, [.ref qs, .ref qu, .ref qw, .ref qb, .ref qe])), (qs, .inl (ks, 256, .inl (nF sb)))] H := hP
          have hD : va_D A [(qw, .inl (kw, 44, .inl (ksN sb (kw0 hi lo w) k))), (o, .inr (0, [.ref qs, .ref qu, .ref qw, .ref qb, .ref qe])), (qs, .inl (ks, 256, .inl (nF sb)))] := hD
          refine W.widen (k := 0) (n := 0) (Nat.le_of_ble_eq_true rfl) (Nat.le_of_ble_eq_true rfl) ?_
          refine w_pc (pc2 := 80) rfl ?_
          refine lv_iload hx hb dX0_expand_80 (lv_at hl 1 rfl) ?_
          refine lv_bipush (v := nI 24) hx hb dX0_expand_82 (by decide) ?_
          refine lv_ishl hx hb dX0_expand_84 (top_i (n_shl _ (by decide)) ?_)
          refine lv_ixor hx hb dX0_expand_85 (top_i (n_xor _ _) ?_)
          refine lv_istore hx hb dX0_expand_86 hl (by decide) rfl (fun ls hl => ?_)
          have hl : lv_has ls 8 [(7, .int (nI ((swN sb (rl8 ((ksN sb (kw0 hi lo w) k) ((k + 4) - 1)))) ^^^ ((rcN ((k + 3) / 4)) * 2 ^ 24)))), (5, .int (nI (rcN ((k + 3) / 4)))), (6, .int (nI (k + 4))), (0, .ref o)] := hl
          refine lv_iload hx hb dX0_expand_88 (lv_at hl 1 rfl) ?_
          refine cf_1 (wr := [(qw, .inl (kw, 44, .inl (ksN sb (kw0 hi lo w) k))), (o, .inr (0, [.ref qs, .ref qu, .ref qw, .ref qb, .ref qe])), (qs, .inl (ks, 256, .inl (nF sb)))]) (va_runS (As := [.int (nI (rcN ((k + 3) / 4)))]) (rest := []) ⟨hx, hb, hml, hown, hta⟩ (MO.to (c_twice l dC dI (rcN ((k + 3) / 4)) (rcN_lt _)) H.size) (va_cwS 1 hta (aw_S mw_34 mw_32 mw_33 mw_2) rfl rfl rfl dyX0_twice ⟨(Nat.le_of_ble_eq_true rfl), (Nat.le_of_ble_eq_true rfl)⟩) (pr_S hP hD hK hE [] [] (by decide) rfl rfl) rfl rfl hl.1 rfl (lv_room (Nat.le_of_ble_eq_true rfl)) dX0_expand_90 ⟨(Nat.le_of_ble_eq_true rfl), (Nat.le_of_ble_eq_true rfl)⟩) hP hD hS hA [] [0, 1, 2] rfl rfl (by decide) (by decide) (fun H locs hP hD hS => ?_)
          have hP : va_P (dC, dI) vwCl [(qw, .inl (kw, 44, .inl (ksN sb (kw0 hi lo w) k))), (o, .inr (0, [.ref qs, .ref qu, .ref qw, .ref qb, .ref qe])), (qs, .inl (ks, 256, .inl (nF sb)))] H := hP
          have hD : va_D A [(qw, .inl (kw, 44, .inl (ksN sb (kw0 hi lo w) k))), (o, .inr (0, [.ref qs, .ref qu, .ref qw, .ref qb, .ref qe])), (qs, .inl (ks, 256, .inl (nF sb)))] := hD
          refine W.widen (k := 0) (n := 0) (Nat.le_of_ble_eq_true rfl) (Nat.le_of_ble_eq_true rfl) ?_
          refine w_pc (pc2 := 93) rfl ?_
          refine lv_istore hx hb dX0_expand_93 hl (by decide) rfl (fun ls hl => ?_)
          have hl : lv_has ls 8 [(5, .int (nI (tw (rcN ((k + 3) / 4))))), (7, .int (nI ((swN sb (rl8 ((ksN sb (kw0 hi lo w) k) ((k + 4) - 1)))) ^^^ ((rcN ((k + 3) / 4)) * 2 ^ 24)))), (6, .int (nI (k + 4))), (0, .ref o)] := hl
          refine lv_aload_n hx hb dX0_expand_95 rfl (lv_at hl 3 rfl) ?_
          refine va_get (D := (dC, dI)) (ci := 0) (v := .ref qw) (C := RX0) (T := TX0) (N := 5) hx hb hta inX0 hown hK hP 1 rfl rfl 2 (by decide) (hta _ mw_52) (fun _ h9 => h9) rfl dX0_expand_96 ?_
          refine lv_iload hx hb dX0_expand_99 (lv_at hl 2 rfl) ?_
          refine lv_aload_n hx hb dX0_expand_101 rfl (lv_at hl 3 rfl) ?_
          refine va_get (D := (dC, dI)) (ci := 0) (v := .ref qw) (C := RX0) (T := TX0) (N := 5) hx hb hta inX0 hown hK hP 1 rfl rfl 2 (by decide) (hta _ mw_52) (fun _ h9 => h9) rfl dX0_expand_102 ?_
          refine lv_iload hx hb dX0_expand_105 (lv_at hl 2 rfl) ?_
          refine lv_iconst (v := nI 4) hx hb dX0_expand_107 (by decide) ?_
          refine lv_isub hx hb dX0_expand_108 (top_i (pk_sub (by omega)) ?_)
          refine va_ialn hx hb hK hP 0 1 rfl rfl (by omega) (by decide) dX0_expand_109 ?_
          refine lv_iload hx hb dX0_expand_110 (lv_at hl 1 rfl) ?_
          refine lv_ixor hx hb dX0_expand_112 ?_
          refine w_pc (pc2 := 113) rfl ?_
          refine va_iasn hx hb hK hP hD hS 0 1 rfl rfl (by omega) (by decide) dX0_expand_113 (fun H locs hP hD hS => ?_)
          have hP : va_P (dC, dI) vwCl [(qw, .inl (kw, 44, .inl (upd (ksN sb (kw0 hi lo w) k) (k + 4) (((ksN sb (kw0 hi lo w) k) ((k + 4) - 4)) ^^^ (nI ((swN sb (rl8 ((ksN sb (kw0 hi lo w) k) ((k + 4) - 1)))) ^^^ ((rcN ((k + 3) / 4)) * 2 ^ 24))))))), (o, .inr (0, [.ref qs, .ref qu, .ref qw, .ref qb, .ref qe])), (qs, .inl (ks, 256, .inl (nF sb)))] H := hP
          have hD : va_D A [(qw, .inl (kw, 44, .inl (upd (ksN sb (kw0 hi lo w) k) (k + 4) (((ksN sb (kw0 hi lo w) k) ((k + 4) - 4)) ^^^ (nI ((swN sb (rl8 ((ksN sb (kw0 hi lo w) k) ((k + 4) - 1)))) ^^^ ((rcN ((k + 3) / 4)) * 2 ^ 24))))))), (o, .inr (0, [.ref qs, .ref qu, .ref qw, .ref qb, .ref qe])), (qs, .inl (ks, 256, .inl (nF sb)))] := hD
          refine lv_iinc (v := nI ((k + 1) + 4)) (k := 2) hx hb dX0_expand_114 hl rfl ((ix_inc _ 1).trans (congrArg nI (by omega))) (by decide) rfl (fun ls hl => ?_)
          have hl : lv_has ls 8 [(6, .int (nI ((k + 1) + 4))), (5, .int (nI (tw (rcN ((k + 3) / 4))))), (7, .int (nI ((swN sb (rl8 ((ksN sb (kw0 hi lo w) k) ((k + 4) - 1)))) ^^^ ((rcN ((k + 3) / 4)) * 2 ^ 24)))), (0, .ref o)] := hl
          refine lv_goto (tgt := 44) hx hb dX0_expand_117 (by decide) ?_
          obtain ⟨hP, hD⟩ := va_rec (g := ksN sb (kw0 hi lo w) (k + 1)) hP hD 0 rfl (fun i _ => ksN_m (by omega) i)
          have hP : va_P (dC, dI) vwCl [(qw, .inl (kw, 44, .inl (ksN sb (kw0 hi lo w) (k + 1)))), (o, .inr (0, [.ref qs, .ref qu, .ref qw, .ref qb, .ref qe])), (qs, .inl (ks, 256, .inl (nF sb)))] H := hP
          have hD : va_D A [(qw, .inl (kw, 44, .inl (ksN sb (kw0 hi lo w) (k + 1)))), (o, .inr (0, [.ref qs, .ref qu, .ref qw, .ref qb, .ref qe])), (qs, .inl (ks, 256, .inl (nF sb)))] := hD
          have hl := lv_re hl 1 rfl (v2 := .int (nI (rcN (((k + 1) + 3) / 4)))) (congrArg Value.int (congrArg nI (rcN_s (by omega)))) rfl
          have hl : lv_has ls 8 [(6, .int (nI ((k + 1) + 4))), (5, .int (nI (rcN (((k + 1) + 3) / 4)))), (7, .int (nI ((swN sb (rl8 ((ksN sb (kw0 hi lo w) k) ((k + 4) - 1)))) ^^^ ((rcN ((k + 3) / 4)) * 2 ^ 24)))), (0, .ref o)] := hl
          exact ih (k + 1) ls H locs (by omega)  (lv_sub hl [1, 0, 3] rfl) (hP.sub [1, 2, 0] rfl) (hD.sub [1, 2, 0] (by decide) rfl) hS
  exact loop_44 40 0 ls H locs (by omega)  (lv_sub hl [1, 0, 2] rfl) hP hD hS

def rm_c_open_y : Room := { frames := 7, cells := 0, slots := 0, locals := 191 }
set_option maxHeartbeats 4000000 in
set_option maxRecDepth 100000 in
/-- open -/
theorem c_open_y (l : Launch) (dC : Nat → ClassId) (dI : Nat → Nat → Nat) (x : Nat) (qc : Nat) (qg : Nat) (qa : Nat) (qt : Nat) (qm : Nat) (ph : Nat) (og : Bool) (nh : Int64) (nr : Int32) (na : Nat) (nt : Nat) (mb : Int32) (t1 : Int64) (t2 : Int64) (qs : Nat) (qu : Nat) (qw : Nat) (qb : Nat) (qe : Nat) (ks : ClassId) (kw : ClassId) (kb : ClassId) (ke : ClassId) (km : ClassId) (ka : ClassId) (kt : ClassId) (sb : Nat → Nat) (w : Nat → Int32) (b : Nat → Nat) (z : Nat → Nat) (yh : Int64) (yl : Int64) (mk : Nat → Nat) (ab : Nat → Nat) (tb : Nat → Nat) (hi : Int64) (lo : Int64) (s256 : ∀ i, sb i < 256) (a256 : ∀ i, ab i < 256) (t256 : ∀ i, tb i < 256) (hna : na ≤ 48) (hnt : nt ≤ 96) (hph6 : ph < 6) (huw : uwN ph = true) (hog : og = true) (heq : eqB hi (tgN sb w nh nr ab na tb nt).1 lo (tgN sb w nh nr ab na tb nt).2 = true) (hmi : ∀ t, t < 96 → mb = nI t → ∀ j, j < 16 → mk j = mkN sb w nh nr (2 + t) j) : MX l dC dI yX2_open wsX2_open rm_c_open_y [.ref x, .long hi, .long lo] [(x, .inr (2, [.ref qc, .ref qg, .ref qa, .ref qt, .ref qm, .int (nI ph), .int (zI og), .long nh, .int nr, .int (nI na), .int (nI nt), .int mb, .long t1, .long t2])), (qc, .inr (0, [.ref qs, .ref qu, .ref qw, .ref qb, .ref qe])), (qs, .inl (ks, 256, .inl (nF sb))), (qw, .inl (kw, 44, .inl w)), (qb, .inl (kb, 16, .inl (nF b))), (qe, .inl (ke, 16, .inl (nF z))), (qg, .inr (1, [.long yh, .long yl])), (qm, .inl (km, 16, .inl (nF mk))), (qa, .inl (ka, 48, .inl (nF ab))), (qt, .inl (kt, 96, .inl (nF tb)))] [(ks, .int), (kw, .int), (kb, .int), (ke, .int), (km, .int), (ka, .int), (kt, .int)] (fun ((b1, z1, yh1, yl1, mk1, mb1) : (Nat → Nat) × (Nat → Nat) × Int64 × Int64 × (Nat → Nat) × Int32) => [(x, .inr (2, [.ref qc, .ref qg, .ref qa, .ref qt, .ref qm, .int (nI 4), .int (zI og), .long nh, .int nr, .int (nI na), .int (nI nt), .int mb1, .long ((tgN sb w nh nr ab na tb nt).1), .long ((tgN sb w nh nr ab na tb nt).2)])), (qc, .inr (0, [.ref qs, .ref qu, .ref qw, .ref qb, .ref qe])), (qs, .inl (ks, 256, .inl (nF sb))), (qw, .inl (kw, 44, .inl w)), (qb, .inl (kb, 16, .inl (nF b1))), (qe, .inl (ke, 16, .inl (nF z1))), (qg, .inr (1, [.long yh1, .long yl1])), (qm, .inl (km, 16, .inl (nF mk1))), (qa, .inl (ka, 48, .inl (nF ab))), (qt, .inl (kt, 96, .inl (nF (fl (umt sb w nh nr tb) tb nt))))]) (fun ((b1, z1, yh1, yl1, mk1, mb1) : (Nat → Nat) × (Nat → Nat) × Int64 × Int64 × (Nat → Nat) × Int32) => []) (fun ((b1, z1, yh1, yl1, mk1, mb1) : (Nat → Nat) × (Nat → Nat) × Int64 × Int64 × (Nat → Nat) × Int32) => ∀ t, t < 96 → mb1 = nI t → ∀ j, j < 16 → mk1 j = mkN sb w nh nr (2 + t) j) (fun ((b1, z1, yh1, yl1, mk1, mb1) : (Nat → Nat) × (Nat → Nat) × Int64 × Int64 × (Nat → Nat) × Int32) => (some (.int (zI true)))) := by
  refine mx_ofW (cc := cX2_open) (maxL := 6) (ret := (some .boolean)) (by decide) rfl (Nat.le_of_ble_eq_true rfl) ?_
  intro p e s m args below meth c Q A H locs ls hx hb hr hlk hml hta hown hin hE hQ hAe hA hK hP hD hS hl
  have hown : s.vm.findClass RX2 = some m.cls := hown
  have hl : lv_has ls 6 [(0, .ref x), (1, .long hi), (3, .long lo)] := hl
  refine lv_aload_n hx hb dX2_open_0 rfl (lv_at hl 0 rfl) ?_
  refine cf_1 (wr := [(qc, .inr (0, [.ref qs, .ref qu, .ref qw, .ref qb, .ref qe])), (qs, .inl (ks, 256, .inl (nF sb))), (qw, .inl (kw, 44, .inl w)), (qb, .inl (kb, 16, .inl (nF b))), (qe, .inl (ke, 16, .inl (nF z))), (qg, .inr (1, [.long yh, .long yl])), (qm, .inl (km, 16, .inl (nF mk))), (qa, .inl (ka, 48, .inl (nF ab))), (qt, .inl (kt, 96, .inl (nF tb)))]) (va_runV (As := []) (rest := []) ⟨hx, hb, hml, hown, hta⟩ (MO.to (c_isUnderWay l dC dI x qc qg qa qt qm ph og nh nr na nt mb t1 t2 hph6) H.size) (cwV 0 hta (aw_V mw_377 mw_374 mw_376 mw_s11 mw_1) rfl rfl rfl ⟨rfl, dyX2_isUnderWay⟩ ⟨(Nat.le_of_ble_eq_true rfl), (Nat.le_of_ble_eq_true rfl)⟩) (pr_V hP hD hK hE [0] [] (by decide) rfl rfl rfl rfl) rfl rfl hl.1 rfl (lv_room (Nat.le_of_ble_eq_true rfl)) dX2_open_1 ⟨(Nat.le_of_ble_eq_true rfl), (Nat.le_of_ble_eq_true rfl)⟩) hP hD hS hA [0] [1, 2, 3, 4, 5, 6, 7, 8, 9] rfl rfl (by decide) (by decide) (fun H locs hP hD hS => ?_)
  have hP : va_P (dC, dI) vwCl [(qc, .inr (0, [.ref qs, .ref qu, .ref qw, .ref qb, .ref qe])), (qs, .inl (ks, 256, .inl (nF sb))), (qw, .inl (kw, 44, .inl w)), (qb, .inl (kb, 16, .inl (nF b))), (qe, .inl (ke, 16, .inl (nF z))), (qg, .inr (1, [.long yh, .long yl])), (qm, .inl (km, 16, .inl (nF mk))), (qa, .inl (ka, 48, .inl (nF ab))), (qt, .inl (kt, 96, .inl (nF tb))), (x, .inr (2, [.ref qc, .ref qg, .ref qa, .ref qt, .ref qm, .int (nI ph), .int (zI og), .long nh, .int nr, .int (nI na), .int (nI nt), .int mb, .long t1, .long t2]))] H := hP
  have hD : va_D A [(qc, .inr (0, [.ref qs, .ref qu, .ref qw, .ref qb, .ref qe])), (qs, .inl (ks, 256, .inl (nF sb))), (qw, .inl (kw, 44, .inl w)), (qb, .inl (kb, 16, .inl (nF b))), (qe, .inl (ke, 16, .inl (nF z))), (qg, .inr (1, [.long yh, .long yl])), (qm, .inl (km, 16, .inl (nF mk))), (qa, .inl (ka, 48, .inl (nF ab))), (qt, .inl (kt, 96, .inl (nF tb))), (x, .inr (2, [.ref qc, .ref qg, .ref qa, .ref qt, .ref qm, .int (nI ph), .int (zI og), .long nh, .int nr, .int (nI na), .int (nI nt), .int mb, .long t1, .long t2]))] := hD
  refine W.widen (k := 0) (n := 0) (Nat.le_of_ble_eq_true rfl) (Nat.le_of_ble_eq_true rfl) ?_
  refine w_pc (pc2 := 4) rfl ?_
  refine lv_if_eq (tgt := 14) hx hb dX2_open_4 (by decide) (fun hc_4 => ?_) (fun hc_4 => ?_)
  · skip
    exact absurd (zI0 (b := uwN ph) hc_4) (by rw [huw]; decide)
  · skip
    refine lv_aload_n hx hb dX2_open_7 rfl (lv_at hl 0 rfl) ?_
    refine va_get (D := (dC, dI)) (ci := 2) (v := .int (zI og)) (C := RX2) (T := TX2) (N := 14) hx hb hta inX2 hown hK hP 9 rfl rfl 6 (by decide) (hta _ mw_86) (fun _ h9 => h9) rfl dX2_open_8 ?_
    refine lv_if_ne (tgt := 22) hx hb dX2_open_11 (by decide) (fun hc_11 => ?_) (fun hc_11 => ?_)
    · skip
      refine lv_aload_n hx hb dX2_open_22 rfl (lv_at hl 0 rfl) ?_
      refine cx_0 (wr := [(qm, .inl (km, 16, .inl (nF mk)))]) (va_runV (As := []) (rest := []) ⟨hx, hb, hml, hown, hta⟩ (MX.to (c_reckonTag l dC dI x qc qg qa qt qm ph og nh nr na nt mb t1 t2 qs qu qw qb qe ks kw kb ke ka kt sb w b z yh yl ab tb s256 a256 t256 hna hnt) H.size) (cwV 0 hta (aw_V mw_405 mw_402 mw_404 mw_s16 mw_1) rfl rfl rfl ⟨rfl, dyX2_reckonTag⟩ ⟨(Nat.le_of_ble_eq_true rfl), (Nat.le_of_ble_eq_true rfl)⟩) (pr_V hP hD hK hE [9, 0, 1, 2, 3, 4, 5, 7, 8] [0, 1, 2, 3, 5, 6] (by decide) rfl rfl rfl rfl) rfl rfl hl.1 rfl (lv_room (Nat.le_of_ble_eq_true rfl)) dX2_open_23 ⟨(Nat.le_of_ble_eq_true rfl), (Nat.le_of_ble_eq_true rfl)⟩) hK hP hD hS hA [9, 0, 1, 2, 3, 4, 5, 7, 8] [6] rfl rfl (by decide) (by decide) (fun u9 H locs hphi_23 hK hP hD hS => ?_)
      obtain ⟨b1_1, z1_1, yh1_1, yl1_1⟩ := u9
      have hK : va_K (dC, dI) vwCl [(ks, .int), (kw, .int), (kb, .int), (ke, .int), (km, .int), (ka, .int), (kt, .int)] s := hK
      have hP : va_P (dC, dI) vwCl [(qm, .inl (km, 16, .inl (nF mk))), (x, .inr (2, [.ref qc, .ref qg, .ref qa, .ref qt, .ref qm, .int (nI ph), .int (zI og), .long nh, .int nr, .int (nI na), .int (nI nt), .int mb, .long ((tgN sb w nh nr ab na tb nt).1), .long ((tgN sb w nh nr ab na tb nt).2)])), (qc, .inr (0, [.ref qs, .ref qu, .ref qw, .ref qb, .ref qe])), (qs, .inl (ks, 256, .inl (nF sb))), (qw, .inl (kw, 44, .inl w)), (qb, .inl (kb, 16, .inl (nF b1_1))), (qe, .inl (ke, 16, .inl (nF z1_1))), (qg, .inr (1, [.long yh1_1, .long yl1_1])), (qa, .inl (ka, 48, .inl (nF ab))), (qt, .inl (kt, 96, .inl (nF tb)))] H := hP
      have hD : va_D A [(qm, .inl (km, 16, .inl (nF mk))), (x, .inr (2, [.ref qc, .ref qg, .ref qa, .ref qt, .ref qm, .int (nI ph), .int (zI og), .long nh, .int nr, .int (nI na), .int (nI nt), .int mb, .long ((tgN sb w nh nr ab na tb nt).1), .long ((tgN sb w nh nr ab na tb nt).2)])), (qc, .inr (0, [.ref qs, .ref qu, .ref qw, .ref qb, .ref qe])), (qs, .inl (ks, 256, .inl (nF sb))), (qw, .inl (kw, 44, .inl w)), (qb, .inl (kb, 16, .inl (nF b1_1))), (qe, .inl (ke, 16, .inl (nF z1_1))), (qg, .inr (1, [.long yh1_1, .long yl1_1])), (qa, .inl (ka, 48, .inl (nF ab))), (qt, .inl (kt, 96, .inl (nF tb)))] := hD
      refine W.widen (k := 0) (n := 0) (Nat.le_of_ble_eq_true rfl) (Nat.le_of_ble_eq_true rfl) ?_
      refine w_pc (pc2 := 26) rfl ?_
      refine lv_lload_n hx hb dX2_open_26 rfl (lv_at hl 1 rfl) ?_
      refine lv_aload_n hx hb dX2_open_27 rfl (lv_at hl 0 rfl) ?_
      refine va_get (D := (dC, dI)) (ci := 2) (v := .long ((tgN sb w nh nr ab na tb nt).1)) (C := RX2) (T := TX2) (N := 14) hx hb hta inX2 hown hK hP 1 rfl rfl 12 (by decide) (hta _ mw_92) (fun _ h9 => h9) rfl dX2_open_28 ?_
      refine lv_lxor hx hb dX2_open_31 ?_
      refine lv_lload_n hx hb dX2_open_32 rfl (lv_at hl 2 rfl) ?_
      refine lv_aload_n hx hb dX2_open_33 rfl (lv_at hl 0 rfl) ?_
      refine va_get (D := (dC, dI)) (ci := 2) (v := .long ((tgN sb w nh nr ab na tb nt).2)) (C := RX2) (T := TX2) (N := 14) hx hb hta inX2 hown hK hP 1 rfl rfl 13 (by decide) (hta _ mw_93) (fun _ h9 => h9) rfl dX2_open_34 ?_
      refine lv_lxor hx hb dX2_open_37 ?_
      refine lv_lor hx hb dX2_open_38 ?_
      refine lv_lconst (v := lN 0) hx hb dX2_open_39 (by decide) ?_
      refine W.lcmp hx hb dX2_open_40 ?_
      refine lv_if_ne (tgt := 48) hx hb dX2_open_41 (by decide) (fun hc_41 => ?_) (fun hc_41 => ?_)
      · skip
        exact absurd heq (by rw [lc_f hc_41]; decide)
      · skip
        refine lv_iconst (v := nI 1) hx hb dX2_open_44 (by decide) ?_
        refine lv_goto (tgt := 49) hx hb dX2_open_45 (by decide) ?_
        refine lv_istore hx hb dX2_open_49 hl (by decide) rfl (fun ls hl => ?_)
        have hl : lv_has ls 6 [(5, .int (nI 1)), (0, .ref x), (1, .long hi), (3, .long lo)] := hl
        refine lv_iload hx hb dX2_open_51 (lv_at hl 0 rfl) ?_
        refine lv_if_eq (tgt := 60) hx hb dX2_open_53 (by decide) (fun hc_53 => ?_) (fun hc_53 => ?_)
        · skip
          have hc_53 := (ix_eq (a := 1) (b := 0) (by omega) (by omega)).mp hc_53
          have hc_53 : (1 = 0) := hc_53
          exfalso; omega
        · skip
          have hc_53 := (not_congr (ix_eq (a := 1) (b := 0) (by omega) (by omega))).mp hc_53
          have hc_53 : ¬ (1 = 0) := hc_53
          refine lv_aload_n hx hb dX2_open_56 rfl (lv_at hl 1 rfl) ?_
          refine cx_0 (wr := [(qg, .inr (1, [.long yh1_1, .long yl1_1])), (qa, .inl (ka, 48, .inl (nF ab)))]) (va_runV (As := []) (rest := []) ⟨hx, hb, hml, hown, hta⟩ (MX.to (c_unmaskText l dC dI x qc qg qa qt qm ph og nh nr na nt mb ((tgN sb w nh nr ab na tb nt).1) ((tgN sb w nh nr ab na tb nt).2) qs qu qw qb qe ks kw kb ke km kt sb w b1_1 z1_1 mk tb s256 hnt hmi) H.size) (cwV 0 hta (aw_V mw_426 mw_423 mw_425 mw_s18 mw_1) rfl rfl rfl ⟨rfl, dyX2_unmaskText⟩ ⟨(Nat.le_of_ble_eq_true rfl), (Nat.le_of_ble_eq_true rfl)⟩) (pr_V hP hD hK hE [1, 2, 3, 4, 5, 6, 0, 9] [0, 1, 2, 3, 4, 6] (by decide) rfl rfl rfl rfl) rfl rfl hl.1 rfl (lv_room (Nat.le_of_ble_eq_true rfl)) dX2_open_57 ⟨(Nat.le_of_ble_eq_true rfl), (Nat.le_of_ble_eq_true rfl)⟩) hK hP hD hS hA [1, 2, 3, 4, 5, 6, 0, 9] [7, 8] rfl rfl (by decide) (by decide) (fun u9 H locs hphi_57 hK hP hD hS => ?_)
          obtain ⟨b1_2, z1_2, mk1_2, mb1_2⟩ := u9
          have hphi_57 : ∀ t, t < 96 → mb1_2 = nI t → ∀ j, j < 16 → mk1_2 j = mkN sb w nh nr (2 + t) j := hphi_57
          have hK : va_K (dC, dI) vwCl [(ks, .int), (kw, .int), (kb, .int), (ke, .int), (km, .int), (ka, .int), (kt, .int)] s := hK
          have hP : va_P (dC, dI) vwCl [(qg, .inr (1, [.long yh1_1, .long yl1_1])), (qa, .inl (ka, 48, .inl (nF ab))), (x, .inr (2, [.ref qc, .ref qg, .ref qa, .ref qt, .ref qm, .int (nI ph), .int (zI og), .long nh, .int nr, .int (nI na), .int (nI nt), .int mb1_2, .long ((tgN sb w nh nr ab na tb nt).1), .long ((tgN sb w nh nr ab na tb nt).2)])), (qc, .inr (0, [.ref qs, .ref qu, .ref qw, .ref qb, .ref qe])), (qs, .inl (ks, 256, .inl (nF sb))), (qw, .inl (kw, 44, .inl w)), (qb, .inl (kb, 16, .inl (nF b1_2))), (qe, .inl (ke, 16, .inl (nF z1_2))), (qm, .inl (km, 16, .inl (nF mk1_2))), (qt, .inl (kt, 96, .inl (nF (fl (umt sb w nh nr tb) tb nt))))] H := hP
          have hD : va_D A [(qg, .inr (1, [.long yh1_1, .long yl1_1])), (qa, .inl (ka, 48, .inl (nF ab))), (x, .inr (2, [.ref qc, .ref qg, .ref qa, .ref qt, .ref qm, .int (nI ph), .int (zI og), .long nh, .int nr, .int (nI na), .int (nI nt), .int mb1_2, .long ((tgN sb w nh nr ab na tb nt).1), .long ((tgN sb w nh nr ab na tb nt).2)])), (qc, .inr (0, [.ref qs, .ref qu, .ref qw, .ref qb, .ref qe])), (qs, .inl (ks, 256, .inl (nF sb))), (qw, .inl (kw, 44, .inl w)), (qb, .inl (kb, 16, .inl (nF b1_2))), (qe, .inl (ke, 16, .inl (nF z1_2))), (qm, .inl (km, 16, .inl (nF mk1_2))), (qt, .inl (kt, 96, .inl (nF (fl (umt sb w nh nr tb) tb nt))))] := hD
          refine W.widen (k := 0) (n := 0) (Nat.le_of_ble_eq_true rfl) (Nat.le_of_ble_eq_true rfl) ?_
          refine w_pc (pc2 := 60) rfl ?_
          refine lv_aload_n hx hb dX2_open_60 rfl (lv_at hl 1 rfl) ?_
          refine lv_iload hx hb dX2_open_61 (lv_at hl 0 rfl) ?_
          refine lv_if_eq (tgt := 70) hx hb dX2_open_63 (by decide) (fun hc_63 => ?_) (fun hc_63 => ?_)
          · skip
            have hc_63 := (ix_eq (a := 1) (b := 0) (by omega) (by omega)).mp hc_63
            have hc_63 : (1 = 0) := hc_63
            exfalso; omega
          · skip
            have hc_63 := (not_congr (ix_eq (a := 1) (b := 0) (by omega) (by omega))).mp hc_63
            have hc_63 : ¬ (1 = 0) := hc_63
            refine lv_iconst (v := nI 4) hx hb dX2_open_66 (by decide) ?_
            refine lv_goto (tgt := 71) hx hb dX2_open_67 (by decide) ?_
            refine va_put (D := (dC, dI)) (ci := 2) (v := .int (nI 4)) (ty := .int) (C := RX2) (T := TX2) (N := 14) hx hb hta inX2 tyX2 tyX2_ok nmX2 hown hK hP hD hS 2 rfl rfl 5 (by decide) (hta _ mw_85) (fun _ h9 => h9) rfl (by decide +kernel) rfl rfl (Nat.le_of_ble_eq_true rfl) dX2_open_71 (fun H locs hP hD hS => ?_)
            have hP : va_P (dC, dI) vwCl [(qg, .inr (1, [.long yh1_1, .long yl1_1])), (qa, .inl (ka, 48, .inl (nF ab))), (x, .inr (2, [.ref qc, .ref qg, .ref qa, .ref qt, .ref qm, .int (nI 4), .int (zI og), .long nh, .int nr, .int (nI na), .int (nI nt), .int mb1_2, .long ((tgN sb w nh nr ab na tb nt).1), .long ((tgN sb w nh nr ab na tb nt).2)])), (qc, .inr (0, [.ref qs, .ref qu, .ref qw, .ref qb, .ref qe])), (qs, .inl (ks, 256, .inl (nF sb))), (qw, .inl (kw, 44, .inl w)), (qb, .inl (kb, 16, .inl (nF b1_2))), (qe, .inl (ke, 16, .inl (nF z1_2))), (qm, .inl (km, 16, .inl (nF mk1_2))), (qt, .inl (kt, 96, .inl (nF (fl (umt sb w nh nr tb) tb nt))))] H := hP
            have hD : va_D A [(qg, .inr (1, [.long yh1_1, .long yl1_1])), (qa, .inl (ka, 48, .inl (nF ab))), (x, .inr (2, [.ref qc, .ref qg, .ref qa, .ref qt, .ref qm, .int (nI 4), .int (zI og), .long nh, .int nr, .int (nI na), .int (nI nt), .int mb1_2, .long ((tgN sb w nh nr ab na tb nt).1), .long ((tgN sb w nh nr ab na tb nt).2)])), (qc, .inr (0, [.ref qs, .ref qu, .ref qw, .ref qb, .ref qe])), (qs, .inl (ks, 256, .inl (nF sb))), (qw, .inl (kw, 44, .inl w)), (qb, .inl (kb, 16, .inl (nF b1_2))), (qe, .inl (ke, 16, .inl (nF z1_2))), (qm, .inl (km, 16, .inl (nF mk1_2))), (qt, .inl (kt, 96, .inl (nF (fl (umt sb w nh nr tb) tb nt))))] := hD
            refine lv_iload hx hb dX2_open_74 (lv_at hl 0 rfl) ?_
            exact rx_z (b1_2, z1_2, yh1_1, yl1_1, mk1_2, mb1_2) (hphi_57) hx hb hr hlk hQ hAe hK hP hD hS [2, 3, 4, 5, 6, 7, 0, 8, 1, 9] [] (by decide) rfl rfl (Nat.le_of_ble_eq_true rfl) (Nat.le_of_ble_eq_true rfl) (rfl) (zI_n true) dX2_open_76
    · skip
      exact absurd (zI0 (b := og) hc_11) (by rw [hog]; decide)

def rm_c_open_n : Room := { frames := 7, cells := 0, slots := 0, locals := 191 }
set_option maxHeartbeats 4000000 in
set_option maxRecDepth 100000 in
/-- open -/
theorem c_open_n (l : Launch) (dC : Nat → ClassId) (dI : Nat → Nat → Nat) (x : Nat) (qc : Nat) (qg : Nat) (qa : Nat) (qt : Nat) (qm : Nat) (ph : Nat) (og : Bool) (nh : Int64) (nr : Int32) (na : Nat) (nt : Nat) (mb : Int32) (t1 : Int64) (t2 : Int64) (qs : Nat) (qu : Nat) (qw : Nat) (qb : Nat) (qe : Nat) (ks : ClassId) (kw : ClassId) (kb : ClassId) (ke : ClassId) (km : ClassId) (ka : ClassId) (kt : ClassId) (sb : Nat → Nat) (w : Nat → Int32) (b : Nat → Nat) (z : Nat → Nat) (yh : Int64) (yl : Int64) (mk : Nat → Nat) (ab : Nat → Nat) (tb : Nat → Nat) (hi : Int64) (lo : Int64) (s256 : ∀ i, sb i < 256) (a256 : ∀ i, ab i < 256) (t256 : ∀ i, tb i < 256) (hna : na ≤ 48) (hnt : nt ≤ 96) (hph6 : ph < 6) (huw : uwN ph = true) (hog : og = true) (heq : eqB hi (tgN sb w nh nr ab na tb nt).1 lo (tgN sb w nh nr ab na tb nt).2 = false) : MX l dC dI yX2_open wsX2_open rm_c_open_n [.ref x, .long hi, .long lo] [(x, .inr (2, [.ref qc, .ref qg, .ref qa, .ref qt, .ref qm, .int (nI ph), .int (zI og), .long nh, .int nr, .int (nI na), .int (nI nt), .int mb, .long t1, .long t2])), (qc, .inr (0, [.ref qs, .ref qu, .ref qw, .ref qb, .ref qe])), (qs, .inl (ks, 256, .inl (nF sb))), (qw, .inl (kw, 44, .inl w)), (qb, .inl (kb, 16, .inl (nF b))), (qe, .inl (ke, 16, .inl (nF z))), (qg, .inr (1, [.long yh, .long yl])), (qm, .inl (km, 16, .inl (nF mk))), (qa, .inl (ka, 48, .inl (nF ab))), (qt, .inl (kt, 96, .inl (nF tb)))] [(ks, .int), (kw, .int), (kb, .int), (ke, .int), (km, .int), (ka, .int), (kt, .int)] (fun ((b1, z1, yh1, yl1) : (Nat → Nat) × (Nat → Nat) × Int64 × Int64) => [(x, .inr (2, [.ref qc, .ref qg, .ref qa, .ref qt, .ref qm, .int (nI 5), .int (zI og), .long nh, .int nr, .int (nI na), .int (nI nt), .int mb, .long ((tgN sb w nh nr ab na tb nt).1), .long ((tgN sb w nh nr ab na tb nt).2)])), (qc, .inr (0, [.ref qs, .ref qu, .ref qw, .ref qb, .ref qe])), (qs, .inl (ks, 256, .inl (nF sb))), (qw, .inl (kw, 44, .inl w)), (qb, .inl (kb, 16, .inl (nF b1))), (qe, .inl (ke, 16, .inl (nF z1))), (qg, .inr (1, [.long yh1, .long yl1])), (qm, .inl (km, 16, .inl (nF mk))), (qa, .inl (ka, 48, .inl (nF ab))), (qt, .inl (kt, 96, .inl (nF tb)))]) (fun ((b1, z1, yh1, yl1) : (Nat → Nat) × (Nat → Nat) × Int64 × Int64) => []) (fun _ => True) (fun ((b1, z1, yh1, yl1) : (Nat → Nat) × (Nat → Nat) × Int64 × Int64) => (some (.int (zI false)))) := by
  refine mx_ofW (cc := cX2_open) (maxL := 6) (ret := (some .boolean)) (by decide) rfl (Nat.le_of_ble_eq_true rfl) ?_
  intro p e s m args below meth c Q A H locs ls hx hb hr hlk hml hta hown hin hE hQ hAe hA hK hP hD hS hl
  have hown : s.vm.findClass RX2 = some m.cls := hown
  have hl : lv_has ls 6 [(0, .ref x), (1, .long hi), (3, .long lo)] := hl
  refine lv_aload_n hx hb dX2_open_0 rfl (lv_at hl 0 rfl) ?_
  refine cf_1 (wr := [(qc, .inr (0, [.ref qs, .ref qu, .ref qw, .ref qb, .ref qe])), (qs, .inl (ks, 256, .inl (nF sb))), (qw, .inl (kw, 44, .inl w)), (qb, .inl (kb, 16, .inl (nF b))), (qe, .inl (ke, 16, .inl (nF z))), (qg, .inr (1, [.long yh, .long yl])), (qm, .inl (km, 16, .inl (nF mk))), (qa, .inl (ka, 48, .inl (nF ab))), (qt, .inl (kt, 96, .inl (nF tb)))]) (va_runV (As := []) (rest := []) ⟨hx, hb, hml, hown, hta⟩ (MO.to (c_isUnderWay l dC dI x qc qg qa qt qm ph og nh nr na nt mb t1 t2 hph6) H.size) (cwV 0 hta (aw_V mw_377 mw_374 mw_376 mw_s11 mw_1) rfl rfl rfl ⟨rfl, dyX2_isUnderWay⟩ ⟨(Nat.le_of_ble_eq_true rfl), (Nat.le_of_ble_eq_true rfl)⟩) (pr_V hP hD hK hE [0] [] (by decide) rfl rfl rfl rfl) rfl rfl hl.1 rfl (lv_room (Nat.le_of_ble_eq_true rfl)) dX2_open_1 ⟨(Nat.le_of_ble_eq_true rfl), (Nat.le_of_ble_eq_true rfl)⟩) hP hD hS hA [0] [1, 2, 3, 4, 5, 6, 7, 8, 9] rfl rfl (by decide) (by decide) (fun H locs hP hD hS => ?_)
  have hP : va_P (dC, dI) vwCl [(qc, .inr (0, [.ref qs, .ref qu, .ref qw, .ref qb, .ref qe])), (qs, .inl (ks, 256, .inl (nF sb))), (qw, .inl (kw, 44, .inl w)), (qb, .inl (kb, 16, .inl (nF b))), (qe, .inl (ke, 16, .inl (nF z))), (qg, .inr (1, [.long yh, .long yl])), (qm, .inl (km, 16, .inl (nF mk))), (qa, .inl (ka, 48, .inl (nF ab))), (qt, .inl (kt, 96, .inl (nF tb))), (x, .inr (2, [.ref qc, .ref qg, .ref qa, .ref qt, .ref qm, .int (nI ph), .int (zI og), .long nh, .int nr, .int (nI na), .int (nI nt), .int mb, .long t1, .long t2]))] H := hP
  have hD : va_D A [(qc, .inr (0, [.ref qs, .ref qu, .ref qw, .ref qb, .ref qe])), (qs, .inl (ks, 256, .inl (nF sb))), (qw, .inl (kw, 44, .inl w)), (qb, .inl (kb, 16, .inl (nF b))), (qe, .inl (ke, 16, .inl (nF z))), (qg, .inr (1, [.long yh, .long yl])), (qm, .inl (km, 16, .inl (nF mk))), (qa, .inl (ka, 48, .inl (nF ab))), (qt, .inl (kt, 96, .inl (nF tb))), (x, .inr (2, [.ref qc, .ref qg, .ref qa, .ref qt, .ref qm, .int (nI ph), .int (zI og), .long nh, .int nr, .int (nI na), .int (nI nt), .int mb, .long t1, .long t2]))] := hD
  refine W.widen (k := 0) (n := 0) (Nat.le_of_ble_eq_true rfl) (Nat.le_of_ble_eq_true rfl) ?_
  refine w_pc (pc2 := 4) rfl ?_
  refine lv_if_eq (tgt := 14) hx hb dX2_open_4 (by decide) (fun hc_4 => ?_) (fun hc_4 => ?_)
  · skip
    exact absurd (zI0 (b := uwN ph) hc_4) (by rw [huw]; decide)
  · skip
    refine lv_aload_n hx hb dX2_open_7 rfl (lv_at hl 0 rfl) ?_
    refine va_get (D := (dC, dI)) (ci := 2) (v := .int (zI og)) (C := RX2) (T := TX2) (N := 14) hx hb hta inX2 hown hK hP 9 rfl rfl 6 (by decide) (hta _ mw_86) (fun _ h9 => h9) rfl dX2_open_8 ?_
    refine lv_if_ne (tgt := 22) hx hb dX2_open_11 (by decide) (fun hc_11 => ?_) (fun hc_11 => ?_)
    · skip
      refine lv_aload_n hx hb dX2_open_22 rfl (lv_at hl 0 rfl) ?_
      refine cx_0 (wr := [(qm, .inl (km, 16, .inl (nF mk)))]) (va_runV (As := []) (rest := []) ⟨hx, hb, hml, hown, hta⟩ (MX.to (c_reckonTag l dC dI x qc qg qa qt qm ph og nh nr na nt mb t1 t2 qs qu qw qb qe ks kw kb ke ka kt sb w b z yh yl ab tb s256 a256 t256 hna hnt) H.size) (cwV 0 hta (aw_V mw_405 mw_402 mw_404 mw_s16 mw_1) rfl rfl rfl ⟨rfl, dyX2_reckonTag⟩ ⟨(Nat.le_of_ble_eq_true rfl), (Nat.le_of_ble_eq_true rfl)⟩) (pr_V hP hD hK hE [9, 0, 1, 2, 3, 4, 5, 7, 8] [0, 1, 2, 3, 5, 6] (by decide) rfl rfl rfl rfl) rfl rfl hl.1 rfl (lv_room (Nat.le_of_ble_eq_true rfl)) dX2_open_23 ⟨(Nat.le_of_ble_eq_true rfl), (Nat.le_of_ble_eq_true rfl)⟩) hK hP hD hS hA [9, 0, 1, 2, 3, 4, 5, 7, 8] [6] rfl rfl (by decide) (by decide) (fun u9 H locs hphi_23 hK hP hD hS => ?_)
      obtain ⟨b1_1, z1_1, yh1_1, yl1_1⟩ := u9
      have hK : va_K (dC, dI) vwCl [(ks, .int), (kw, .int), (kb, .int), (ke, .int), (km, .int), (ka, .int), (kt, .int)] s := hK
      have hP : va_P (dC, dI) vwCl [(qm, .inl (km, 16, .inl (nF mk))), (x, .inr (2, [.ref qc, .ref qg, .ref qa, .ref qt, .ref qm, .int (nI ph), .int (zI og), .long nh, .int nr, .int (nI na), .int (nI nt), .int mb, .long ((tgN sb w nh nr ab na tb nt).1), .long ((tgN sb w nh nr ab na tb nt).2)])), (qc, .inr (0, [.ref qs, .ref qu, .ref qw, .ref qb, .ref qe])), (qs, .inl (ks, 256, .inl (nF sb))), (qw, .inl (kw, 44, .inl w)), (qb, .inl (kb, 16, .inl (nF b1_1))), (qe, .inl (ke, 16, .inl (nF z1_1))), (qg, .inr (1, [.long yh1_1, .long yl1_1])), (qa, .inl (ka, 48, .inl (nF ab))), (qt, .inl (kt, 96, .inl (nF tb)))] H := hP
      have hD : va_D A [(qm, .inl (km, 16, .inl (nF mk))), (x, .inr (2, [.ref qc, .ref qg, .ref qa, .ref qt, .ref qm, .int (nI ph), .int (zI og), .long nh, .int nr, .int (nI na), .int (nI nt), .int mb, .long ((tgN sb w nh nr ab na tb nt).1), .long ((tgN sb w nh nr ab na tb nt).2)])), (qc, .inr (0, [.ref qs, .ref qu, .ref qw, .ref qb, .ref qe])), (qs, .inl (ks, 256, .inl (nF sb))), (qw, .inl (kw, 44, .inl w)), (qb, .inl (kb, 16, .inl (nF b1_1))), (qe, .inl (ke, 16, .inl (nF z1_1))), (qg, .inr (1, [.long yh1_1, .long yl1_1])), (qa, .inl (ka, 48, .inl (nF ab))), (qt, .inl (kt, 96, .inl (nF tb)))] := hD
      refine W.widen (k := 0) (n := 0) (Nat.le_of_ble_eq_true rfl) (Nat.le_of_ble_eq_true rfl) ?_
      refine w_pc (pc2 := 26) rfl ?_
      refine lv_lload_n hx hb dX2_open_26 rfl (lv_at hl 1 rfl) ?_
      refine lv_aload_n hx hb dX2_open_27 rfl (lv_at hl 0 rfl) ?_
      refine va_get (D := (dC, dI)) (ci := 2) (v := .long ((tgN sb w nh nr ab na tb nt).1)) (C := RX2) (T := TX2) (N := 14) hx hb hta inX2 hown hK hP 1 rfl rfl 12 (by decide) (hta _ mw_92) (fun _ h9 => h9) rfl dX2_open_28 ?_
      refine lv_lxor hx hb dX2_open_31 ?_
      refine lv_lload_n hx hb dX2_open_32 rfl (lv_at hl 2 rfl) ?_
      refine lv_aload_n hx hb dX2_open_33 rfl (lv_at hl 0 rfl) ?_
      refine va_get (D := (dC, dI)) (ci := 2) (v := .long ((tgN sb w nh nr ab na tb nt).2)) (C := RX2) (T := TX2) (N := 14) hx hb hta inX2 hown hK hP 1 rfl rfl 13 (by decide) (hta _ mw_93) (fun _ h9 => h9) rfl dX2_open_34 ?_
      refine lv_lxor hx hb dX2_open_37 ?_
      refine lv_lor hx hb dX2_open_38 ?_
      refine lv_lconst (v := lN 0) hx hb dX2_open_39 (by decide) ?_
      refine W.lcmp hx hb dX2_open_40 ?_
      refine lv_if_ne (tgt := 48) hx hb dX2_open_41 (by decide) (fun hc_41 => ?_) (fun hc_41 => ?_)
      · skip
        refine lv_iconst (v := nI 0) hx hb dX2_open_48 (by decide) ?_
        refine lv_istore hx hb dX2_open_49 hl (by decide) rfl (fun ls hl => ?_)
        have hl : lv_has ls 6 [(5, .int (nI 0)), (0, .ref x), (1, .long hi), (3, .long lo)] := hl
        refine lv_iload hx hb dX2_open_51 (lv_at hl 0 rfl) ?_
        refine lv_if_eq (tgt := 60) hx hb dX2_open_53 (by decide) (fun hc_53 => ?_) (fun hc_53 => ?_)
        · skip
          have hc_53 := (ix_eq (a := 0) (b := 0) (by omega) (by omega)).mp hc_53
          have hc_53 : (0 = 0) := hc_53
          refine lv_aload_n hx hb dX2_open_60 rfl (lv_at hl 1 rfl) ?_
          refine lv_iload hx hb dX2_open_61 (lv_at hl 0 rfl) ?_
          refine lv_if_eq (tgt := 70) hx hb dX2_open_63 (by decide) (fun hc_63 => ?_) (fun hc_63 => ?_)
          · skip
            have hc_63 := (ix_eq (a := 0) (b := 0) (by omega) (by omega)).mp hc_63
            have hc_63 : (0 = 0) := hc_63
            refine lv_iconst (v := nI 5) hx hb dX2_open_70 (by decide) ?_
            refine va_put (D := (dC, dI)) (ci := 2) (v := .int (nI 5)) (ty := .int) (C := RX2) (T := TX2) (N := 14) hx hb hta inX2 tyX2 tyX2_ok nmX2 hown hK hP hD hS 1 rfl rfl 5 (by decide) (hta _ mw_85) (fun _ h9 => h9) rfl (by decide +kernel) rfl rfl (Nat.le_of_ble_eq_true rfl) dX2_open_71 (fun H locs hP hD hS => ?_)
            have hP : va_P (dC, dI) vwCl [(qm, .inl (km, 16, .inl (nF mk))), (x, .inr (2, [.ref qc, .ref qg, .ref qa, .ref qt, .ref qm, .int (nI 5), .int (zI og), .long nh, .int nr, .int (nI na), .int (nI nt), .int mb, .long ((tgN sb w nh nr ab na tb nt).1), .long ((tgN sb w nh nr ab na tb nt).2)])), (qc, .inr (0, [.ref qs, .ref qu, .ref qw, .ref qb, .ref qe])), (qs, .inl (ks, 256, .inl (nF sb))), (qw, .inl (kw, 44, .inl w)), (qb, .inl (kb, 16, .inl (nF b1_1))), (qe, .inl (ke, 16, .inl (nF z1_1))), (qg, .inr (1, [.long yh1_1, .long yl1_1])), (qa, .inl (ka, 48, .inl (nF ab))), (qt, .inl (kt, 96, .inl (nF tb)))] H := hP
            have hD : va_D A [(qm, .inl (km, 16, .inl (nF mk))), (x, .inr (2, [.ref qc, .ref qg, .ref qa, .ref qt, .ref qm, .int (nI 5), .int (zI og), .long nh, .int nr, .int (nI na), .int (nI nt), .int mb, .long ((tgN sb w nh nr ab na tb nt).1), .long ((tgN sb w nh nr ab na tb nt).2)])), (qc, .inr (0, [.ref qs, .ref qu, .ref qw, .ref qb, .ref qe])), (qs, .inl (ks, 256, .inl (nF sb))), (qw, .inl (kw, 44, .inl w)), (qb, .inl (kb, 16, .inl (nF b1_1))), (qe, .inl (ke, 16, .inl (nF z1_1))), (qg, .inr (1, [.long yh1_1, .long yl1_1])), (qa, .inl (ka, 48, .inl (nF ab))), (qt, .inl (kt, 96, .inl (nF tb)))] := hD
            refine lv_iload hx hb dX2_open_74 (lv_at hl 0 rfl) ?_
            exact rx_z (b1_1, z1_1, yh1_1, yl1_1) trivial hx hb hr hlk hQ hAe hK hP hD hS [1, 2, 3, 4, 5, 6, 7, 0, 8, 9] [] (by decide) rfl rfl (Nat.le_of_ble_eq_true rfl) (Nat.le_of_ble_eq_true rfl) (rfl) (zI_n false) dX2_open_76
          · skip
            have hc_63 := (not_congr (ix_eq (a := 0) (b := 0) (by omega) (by omega))).mp hc_63
            have hc_63 : ¬ (0 = 0) := hc_63
            exfalso; omega
        · skip
          have hc_53 := (not_congr (ix_eq (a := 0) (b := 0) (by omega) (by omega))).mp hc_53
          have hc_53 : ¬ (0 = 0) := hc_53
          exfalso; omega
      · skip
        exact absurd heq (by rw [lc_t hc_41]; decide)
    · skip
      exact absurd (zI0 (b := og) hc_11) (by rw [hog]; decide)

def rm_c_takePlain : Room := { frames := 6, cells := 0, slots := 0, locals := 170 }
set_option maxHeartbeats 4000000 in
set_option maxRecDepth 100000 in
/-- takePlain -/
theorem c_takePlain (l : Launch) (dC : Nat → ClassId) (dI : Nat → Nat → Nat) (x : Nat) (qc : Nat) (qg : Nat) (qa : Nat) (qt : Nat) (qm : Nat) (ph : Nat) (og : Bool) (nh : Int64) (nr : Int32) (na : Nat) (nt : Nat) (mb : Int32) (t1 : Int64) (t2 : Int64) (qs : Nat) (qu : Nat) (qw : Nat) (qb : Nat) (qe : Nat) (ks : ClassId) (kw : ClassId) (kb : ClassId) (ke : ClassId) (km : ClassId) (kt : ClassId) (sb : Nat → Nat) (w : Nat → Int32) (b : Nat → Nat) (z : Nat → Nat) (mk : Nat → Nat) (tb : Nat → Nat) (y : Int64) (cn : Nat) (s256 : ∀ i, sb i < 256) (hcn : cn ≤ 8) (hnt : nt + cn ≤ 96) (hmi : ∀ t, t < 96 → mb = nI t → ∀ j, j < 16 → mk j = mkN sb w nh nr (2 + t) j) : MX l dC dI yX2_takePlain wsX2_takePlain rm_c_takePlain [.ref x, .long y, .int (nI cn)] [(x, .inr (2, [.ref qc, .ref qg, .ref qa, .ref qt, .ref qm, .int (nI ph), .int (zI og), .long nh, .int nr, .int (nI na), .int (nI nt), .int mb, .long t1, .long t2])), (qc, .inr (0, [.ref qs, .ref qu, .ref qw, .ref qb, .ref qe])), (qs, .inl (ks, 256, .inl (nF sb))), (qw, .inl (kw, 44, .inl w)), (qb, .inl (kb, 16, .inl (nF b))), (qe, .inl (ke, 16, .inl (nF z))), (qm, .inl (km, 16, .inl (nF mk))), (qt, .inl (kt, 96, .inl (nF tb)))] [(ks, .int), (kw, .int), (kb, .int), (ke, .int), (km, .int), (kt, .int)] (fun ((b1, z1, mk1, mb1) : (Nat → Nat) × (Nat → Nat) × (Nat → Nat) × Int32) => [(x, .inr (2, [.ref qc, .ref qg, .ref qa, .ref qt, .ref qm, .int (nI ph), .int (zI og), .long nh, .int nr, .int (nI na), .int (nI (nt + cn)), .int mb1, .long t1, .long t2])), (qc, .inr (0, [.ref qs, .ref qu, .ref qw, .ref qb, .ref qe])), (qs, .inl (ks, 256, .inl (nF sb))), (qw, .inl (kw, 44, .inl w)), (qb, .inl (kb, 16, .inl (nF b1))), (qe, .inl (ke, 16, .inl (nF z1))), (qm, .inl (km, 16, .inl (nF mk1))), (qt, .inl (kt, 96, .inl (nF (ofl (tpg sb w nh nr y nt) tb nt cn))))]) (fun ((b1, z1, mk1, mb1) : (Nat → Nat) × (Nat → Nat) × (Nat → Nat) × Int32) => []) (fun ((b1, z1, mk1, mb1) : (Nat → Nat) × (Nat → Nat) × (Nat → Nat) × Int32) => ∀ t, t < 96 → mb1 = nI t → ∀ j, j < 16 → mk1 j = mkN sb w nh nr (2 + t) j) (fun ((b1, z1, mk1, mb1) : (Nat → Nat) × (Nat → Nat) × (Nat → Nat) × Int32) => (some (.long (lN (slN (tpg sb w nh nr y nt) cn))))) := by
  refine mx_ofW (cc := cX2_takePlain) (maxL := 8) (ret := (some .long)) (by decide) rfl (Nat.le_of_ble_eq_true rfl) ?_
  intro p e s m args below meth c Q A H locs ls hx hb hr hlk hml hta hown hin hE hQ hAe hA hK hP hD hS hl
  have hown : s.vm.findClass RX2 = some m.cls := hown
  have hl : lv_has ls 8 [(0, .ref x), (1, .long y), (3, .int (nI cn))] := hl
  refine lv_lconst (v := lN 0) hx hb dX2_takePlain_0 (by decide) ?_
  refine lv_lstore hx hb dX2_takePlain_1 hl (by decide) rfl (fun ls hl => ?_)
  have hl : lv_has ls 8 [(4, .long (lN 0)), (0, .ref x), (1, .long y), (3, .int (nI cn))] := hl
  refine lv_iconst (v := nI 0) hx hb dX2_takePlain_3 (by decide) ?_
  refine lv_istore hx hb dX2_takePlain_4 hl (by decide) rfl (fun ls hl => ?_)
  have hl : lv_has ls 8 [(6, .int (nI 0)), (4, .long (lN 0)), (0, .ref x), (1, .long y), (3, .int (nI cn))] := hl
  obtain ⟨hP, hD⟩ := va_recb (g := ofl (tpg sb w nh nr y nt) tb nt 0) hP hD 7 rfl (fun i _ => ofl_0 _ tb nt i)
  have hP : va_P (dC, dI) vwCl [(x, .inr (2, [.ref qc, .ref qg, .ref qa, .ref qt, .ref qm, .int (nI ph), .int (zI og), .long nh, .int nr, .int (nI na), .int (nI nt), .int mb, .long t1, .long t2])), (qc, .inr (0, [.ref qs, .ref qu, .ref qw, .ref qb, .ref qe])), (qs, .inl (ks, 256, .inl (nF sb))), (qw, .inl (kw, 44, .inl w)), (qb, .inl (kb, 16, .inl (nF b))), (qe, .inl (ke, 16, .inl (nF z))), (qm, .inl (km, 16, .inl (nF mk))), (qt, .inl (kt, 96, .inl (nF (ofl (tpg sb w nh nr y nt) tb nt 0))))] H := hP
  have hD : va_D A [(x, .inr (2, [.ref qc, .ref qg, .ref qa, .ref qt, .ref qm, .int (nI ph), .int (zI og), .long nh, .int nr, .int (nI na), .int (nI nt), .int mb, .long t1, .long t2])), (qc, .inr (0, [.ref qs, .ref qu, .ref qw, .ref qb, .ref qe])), (qs, .inl (ks, 256, .inl (nF sb))), (qw, .inl (kw, 44, .inl w)), (qb, .inl (kb, 16, .inl (nF b))), (qe, .inl (ke, 16, .inl (nF z))), (qm, .inl (km, 16, .inl (nF mk))), (qt, .inl (kt, 96, .inl (nF (ofl (tpg sb w nh nr y nt) tb nt 0))))] := hD
  have loop_6 : ∀ (n k : Nat) (b9 : Nat → Nat) (z9 : Nat → Nat) (mk9 : Nat → Nat) (mb9 : Int32) (ls : Array Slot) (H : Heap) (locs : List Loc), k + n = cn → (∀ t, t < 96 → mb9 = nI t → ∀ j, j < 16 → mk9 j = mkN sb w nh nr (2 + t) j) → lv_has ls 8 [(4, .long (lN (slN (tpg sb w nh nr y nt) k))), (6, .int (nI k)), (0, .ref x), (1, .long y), (3, .int (nI cn))] → va_P (dC, dI) vwCl [(x, .inr (2, [.ref qc, .ref qg, .ref qa, .ref qt, .ref qm, .int (nI ph), .int (zI og), .long nh, .int nr, .int (nI na), .int (nI (nt + k)), .int mb9, .long t1, .long t2])), (qc, .inr (0, [.ref qs, .ref qu, .ref qw, .ref qb, .ref qe])), (qs, .inl (ks, 256, .inl (nF sb))), (qw, .inl (kw, 44, .inl w)), (qb, .inl (kb, 16, .inl (nF b9))), (qe, .inl (ke, 16, .inl (nF z9))), (qm, .inl (km, 16, .inl (nF mk9))), (qt, .inl (kt, 96, .inl (nF (ofl (tpg sb w nh nr y nt) tb nt k))))] H → va_D A [(x, .inr (2, [.ref qc, .ref qg, .ref qa, .ref qt, .ref qm, .int (nI ph), .int (zI og), .long nh, .int nr, .int (nI na), .int (nI (nt + k)), .int mb9, .long t1, .long t2])), (qc, .inr (0, [.ref qs, .ref qu, .ref qw, .ref qb, .ref qe])), (qs, .inl (ks, 256, .inl (nF sb))), (qw, .inl (kw, 44, .inl w)), (qb, .inl (kb, 16, .inl (nF b9))), (qe, .inl (ke, 16, .inl (nF z9))), (qm, .inl (km, 16, .inl (nF mk9))), (qt, .inl (kt, 96, .inl (nF (ofl (tpg sb w nh nr y nt) tb nt k))))] → va_S A s.heap H locs → W p l e rm_c_takePlain s m args below meth c H locs 0 0 Q (F0 m 6 ls []) := by
    intro n
    induction n with
    | zero =>
      intro k b9 z9 mk9 mb9 ls H locs hn_6 hmi9 hl hP hD hS
      obtain rfl : cn = k := by omega
      refine lv_iload hx hb dX2_takePlain_6 (lv_at hl 1 rfl) ?_
      refine lv_iload_n hx hb dX2_takePlain_8 rfl (lv_at hl 4 rfl) ?_
      refine lv_icmp_ge (tgt := 70) hx hb dX2_takePlain_9 (by decide) (fun hc_9 => ?_) (fun hc_9 => ?_)
      · skip
        have hc_9 := (ix_le (a := cn) (b := cn) (by omega) (by omega)).mp hc_9
        have hc_9 : (cn ≤ cn) := hc_9
        refine lv_lload hx hb dX2_takePlain_70 (lv_at hl 0 rfl) ?_
        exact rx_l (b9, z9, mk9, mb9) (hmi9) hx hb hr hlk hQ hAe hK hP hD hS [0, 1, 2, 3, 4, 5, 6, 7] [] (by decide) rfl rfl (Nat.le_of_ble_eq_true rfl) (Nat.le_of_ble_eq_true rfl) (rfl) dX2_takePlain_72
      · skip
        have hc_9 := (not_congr (ix_le (a := cn) (b := cn) (by omega) (by omega))).mp hc_9
        have hc_9 : ¬ (cn ≤ cn) := hc_9
        exfalso; omega
    | succ n ih =>
      intro k b9 z9 mk9 mb9 ls H locs hn_6 hmi9 hl hP hD hS
      refine lv_iload hx hb dX2_takePlain_6 (lv_at hl 1 rfl) ?_
      refine lv_iload_n hx hb dX2_takePlain_8 rfl (lv_at hl 4 rfl) ?_
      refine lv_icmp_ge (tgt := 70) hx hb dX2_takePlain_9 (by decide) (fun hc_9 => ?_) (fun hc_9 => ?_)
      · skip
        have hc_9 := (ix_le (a := cn) (b := k) (by omega) (by omega)).mp hc_9
        have hc_9 : (cn ≤ k) := hc_9
        exfalso; omega
      · skip
        have hc_9 := (not_congr (ix_le (a := cn) (b := k) (by omega) (by omega))).mp hc_9
        have hc_9 : ¬ (cn ≤ k) := hc_9
        refine lv_lload_n hx hb dX2_takePlain_12 rfl (lv_at hl 3 rfl) ?_
        refine lv_iload hx hb dX2_takePlain_13 (lv_at hl 1 rfl) ?_
        refine cf_1 (wr := [(x, .inr (2, [.ref qc, .ref qg, .ref qa, .ref qt, .ref qm, .int (nI ph), .int (zI og), .long nh, .int nr, .int (nI na), .int (nI (nt + k)), .int mb9, .long t1, .long t2])), (qc, .inr (0, [.ref qs, .ref qu, .ref qw, .ref qb, .ref qe])), (qs, .inl (ks, 256, .inl (nF sb))), (qw, .inl (kw, 44, .inl w)), (qb, .inl (kb, 16, .inl (nF b9))), (qe, .inl (ke, 16, .inl (nF z9))), (qm, .inl (km, 16, .inl (nF mk9))), (qt, .inl (kt, 96, .inl (nF (ofl (tpg sb w nh nr y nt) tb nt k))))]) (va_runS (As := [.long y, .int (nI k)]) (rest := []) ⟨hx, hb, hml, hown, hta⟩ (MO.to (c_pieceByte l dC dI y k (by omega)) H.size) (va_cwS 2 hta (aw_S mw_366 mw_364 mw_365 mw_1) rfl rfl rfl dyX2_pieceByte ⟨(Nat.le_of_ble_eq_true rfl), (Nat.le_of_ble_eq_true rfl)⟩) (pr_S hP hD hK hE [] [] (by decide) rfl rfl) rfl rfl hl.1 rfl (lv_room (Nat.le_of_ble_eq_true rfl)) dX2_takePlain_15 ⟨(Nat.le_of_ble_eq_true rfl), (Nat.le_of_ble_eq_true rfl)⟩) hP hD hS hA [] [0, 1, 2, 3, 4, 5, 6, 7] rfl rfl (by decide) (by decide) (fun H locs hP hD hS => ?_)
        have hP : va_P (dC, dI) vwCl [(x, .inr (2, [.ref qc, .ref qg, .ref qa, .ref qt, .ref qm, .int (nI ph), .int (zI og), .long nh, .int nr, .int (nI na), .int (nI (nt + k)), .int mb9, .long t1, .long t2])), (qc, .inr (0, [.ref qs, .ref qu, .ref qw, .ref qb, .ref qe])), (qs, .inl (ks, 256, .inl (nF sb))), (qw, .inl (kw, 44, .inl w)), (qb, .inl (kb, 16, .inl (nF b9))), (qe, .inl (ke, 16, .inl (nF z9))), (qm, .inl (km, 16, .inl (nF mk9))), (qt, .inl (kt, 96, .inl (nF (ofl (tpg sb w nh nr y nt) tb nt k))))] H := hP
        have hD : va_D A [(x, .inr (2, [.ref qc, .ref qg, .ref qa, .ref qt, .ref qm, .int (nI ph), .int (zI og), .long nh, .int nr, .int (nI na), .int (nI (nt + k)), .int mb9, .long t1, .long t2])), (qc, .inr (0, [.ref qs, .ref qu, .ref qw, .ref qb, .ref qe])), (qs, .inl (ks, 256, .inl (nF sb))), (qw, .inl (kw, 44, .inl w)), (qb, .inl (kb, 16, .inl (nF b9))), (qe, .inl (ke, 16, .inl (nF z9))), (qm, .inl (km, 16, .inl (nF mk9))), (qt, .inl (kt, 96, .inl (nF (ofl (tpg sb w nh nr y nt) tb nt k))))] := hD
        refine W.widen (k := 0) (n := 0) (Nat.le_of_ble_eq_true rfl) (Nat.le_of_ble_eq_true rfl) ?_
        refine w_pc (pc2 := 18) rfl ?_
        refine lv_aload_n hx hb dX2_takePlain_18 rfl (lv_at hl 2 rfl) ?_
        refine lv_aload_n hx hb dX2_takePlain_19 rfl (lv_at hl 2 rfl) ?_
        refine va_get (D := (dC, dI)) (ci := 2) (v := .int (nI (nt + k))) (C := RX2) (T := TX2) (N := 14) hx hb hta inX2 hown hK hP 0 rfl rfl 10 (by decide) (hta _ mw_90) (fun _ h9 => h9) rfl dX2_takePlain_20 ?_
        refine cx_1 (wr := [(qt, .inl (kt, 96, .inl (nF (ofl (tpg sb w nh nr y nt) tb nt k))))]) (va_runV (As := [.int (nI (nt + k))]) (rest := [.int (nI (pbN y k))]) ⟨hx, hb, hml, hown, hta⟩ (MX.to (c_maskByte l dC dI x qc qg qa qt qm ph og nh nr na (nt + k) mb9 t1 t2 qs qu qw qb qe ks kw kb ke km sb w b9 z9 mk9 (nt + k) s256 (by omega) (fun h9 => hmi9 _ (by omega) h9)) H.size) (cwV 1 hta (aw_V mw_389 mw_386 mw_388 mw_s14 mw_1) rfl rfl rfl ⟨rfl, dyX2_maskByte⟩ ⟨(Nat.le_of_ble_eq_true rfl), (Nat.le_of_ble_eq_true rfl)⟩) (pr_V hP hD hK hE [0, 1, 2, 3, 4, 5, 6] [0, 1, 2, 3, 4] (by decide) rfl rfl rfl rfl) rfl rfl hl.1 rfl (lv_room (Nat.le_of_ble_eq_true rfl)) dX2_takePlain_23 ⟨(Nat.le_of_ble_eq_true rfl), (Nat.le_of_ble_eq_true rfl)⟩) hK hP hD hS hA [0, 1, 2, 3, 4, 5, 6] [7] rfl rfl (by decide) (by decide) (fun u9 H locs hphi_23 hK hP hD hS => ?_)
        obtain ⟨b1_1, z1_1⟩ := u9
        have hK : va_K (dC, dI) vwCl [(ks, .int), (kw, .int), (kb, .int), (ke, .int), (km, .int), (kt, .int)] s := hK
        have hP : va_P (dC, dI) vwCl [(qt, .inl (kt, 96, .inl (nF (ofl (tpg sb w nh nr y nt) tb nt k)))), (x, .inr (2, [.ref qc, .ref qg, .ref qa, .ref qt, .ref qm, .int (nI ph), .int (zI og), .long nh, .int nr, .int (nI na), .int (nI (nt + k)), .int (nI ((nt + k) / 16)), .long t1, .long t2])), (qc, .inr (0, [.ref qs, .ref qu, .ref qw, .ref qb, .ref qe])), (qs, .inl (ks, 256, .inl (nF sb))), (qw, .inl (kw, 44, .inl w)), (qb, .inl (kb, 16, .inl (nF b1_1))), (qe, .inl (ke, 16, .inl (nF z1_1))), (qm, .inl (km, 16, .inl (nF (mkN sb w nh nr (2 + ((nt + k) / 16))))))] H := hP
        have hD : va_D A [(qt, .inl (kt, 96, .inl (nF (ofl (tpg sb w nh nr y nt) tb nt k)))), (x, .inr (2, [.ref qc, .ref qg, .ref qa, .ref qt, .ref qm, .int (nI ph), .int (zI og), .long nh, .int nr, .int (nI na), .int (nI (nt + k)), .int (nI ((nt + k) / 16)), .long t1, .long t2])), (qc, .inr (0, [.ref qs, .ref qu, .ref qw, .ref qb, .ref qe])), (qs, .inl (ks, 256, .inl (nF sb))), (qw, .inl (kw, 44, .inl w)), (qb, .inl (kb, 16, .inl (nF b1_1))), (qe, .inl (ke, 16, .inl (nF z1_1))), (qm, .inl (km, 16, .inl (nF (mkN sb w nh nr (2 + ((nt + k) / 16))))))] := hD
        refine W.widen (k := 0) (n := 0) (Nat.le_of_ble_eq_true rfl) (Nat.le_of_ble_eq_true rfl) ?_
        refine w_pc (pc2 := 26) rfl ?_
        refine lv_ixor hx hb dX2_takePlain_26 ?_
        refine top_i (y := nI ((tpg sb w nh nr y nt) k)) (n_xor _ _) ?_
        refine lv_istore hx hb dX2_takePlain_27 hl (by decide) rfl (fun ls hl => ?_)
        have hl : lv_has ls 8 [(7, .int (nI ((tpg sb w nh nr y nt) k))), (4, .long (lN (slN (tpg sb w nh nr y nt) k))), (6, .int (nI k)), (0, .ref x), (1, .long y), (3, .int (nI cn))] := hl
        refine lv_aload_n hx hb dX2_takePlain_29 rfl (lv_at hl 3 rfl) ?_
        refine va_get (D := (dC, dI)) (ci := 2) (v := .ref qt) (C := RX2) (T := TX2) (N := 14) hx hb hta inX2 hown hK hP 1 rfl rfl 3 (by decide) (hta _ mw_83) (fun _ h9 => h9) rfl dX2_takePlain_30 ?_
        refine lv_aload_n hx hb dX2_takePlain_33 rfl (lv_at hl 3 rfl) ?_
        refine va_get (D := (dC, dI)) (ci := 2) (v := .int (nI (nt + k))) (C := RX2) (T := TX2) (N := 14) hx hb hta inX2 hown hK hP 1 rfl rfl 10 (by decide) (hta _ mw_90) (fun _ h9 => h9) rfl dX2_takePlain_34 ?_
        refine lv_iload hx hb dX2_takePlain_37 (lv_at hl 0 rfl) ?_
        refine va_iasb hx hb hK hP hD hS 0 5 rfl rfl (by omega) (by decide) dX2_takePlain_39 (fun H locs hP hD hS => ?_)
        have hP : va_P (dC, dI) vwCl [(qt, .inl (kt, 96, .inl (nF (un (ofl (tpg sb w nh nr y nt) tb nt k) (nt + k) ((tpg sb w nh nr y nt) k))))), (x, .inr (2, [.ref qc, .ref qg, .ref qa, .ref qt, .ref qm, .int (nI ph), .int (zI og), .long nh, .int nr, .int (nI na), .int (nI (nt + k)), .int (nI ((nt + k) / 16)), .long t1, .long t2])), (qc, .inr (0, [.ref qs, .ref qu, .ref qw, .ref qb, .ref qe])), (qs, .inl (ks, 256, .inl (nF sb))), (qw, .inl (kw, 44, .inl w)), (qb, .inl (kb, 16, .inl (nF b1_1))), (qe, .inl (ke, 16, .inl (nF z1_1))), (qm, .inl (km, 16, .inl (nF (mkN sb w nh nr (2 + ((nt + k) / 16))))))] H := hP
        have hD : va_D A [(qt, .inl (kt, 96, .inl (nF (un (ofl (tpg sb w nh nr y nt) tb nt k) (nt + k) ((tpg sb w nh nr y nt) k))))), (x, .inr (2, [.ref qc, .ref qg, .ref qa, .ref qt, .ref qm, .int (nI ph), .int (zI og), .long nh, .int nr, .int (nI na), .int (nI (nt + k)), .int (nI ((nt + k) / 16)), .long t1, .long t2])), (qc, .inr (0, [.ref qs, .ref qu, .ref qw, .ref qb, .ref qe])), (qs, .inl (ks, 256, .inl (nF sb))), (qw, .inl (kw, 44, .inl w)), (qb, .inl (kb, 16, .inl (nF b1_1))), (qe, .inl (ke, 16, .inl (nF z1_1))), (qm, .inl (km, 16, .inl (nF (mkN sb w nh nr (2 + ((nt + k) / 16))))))] := hD
        refine lv_aload_n hx hb dX2_takePlain_40 rfl (lv_at hl 3 rfl) ?_
        refine lv_dup hx hb dX2_takePlain_41 rfl ?_
        refine va_get (D := (dC, dI)) (ci := 2) (v := .int (nI (nt + k))) (C := RX2) (T := TX2) (N := 14) hx hb hta inX2 hown hK hP 1 rfl rfl 10 (by decide) (hta _ mw_90) (fun _ h9 => h9) rfl dX2_takePlain_42 ?_
        refine lv_iconst (v := nI 1) hx hb dX2_takePlain_45 (by decide) ?_
        refine w_pc (pc2 := 46) rfl ?_
        refine lv_iadd hx hb dX2_takePlain_46 (top_i (nI_add _ _) ?_)
        refine va_put (D := (dC, dI)) (ci := 2) (v := .int (nI ((nt + k) + 1))) (ty := .int) (C := RX2) (T := TX2) (N := 14) hx hb hta inX2 tyX2 tyX2_ok nmX2 hown hK hP hD hS 1 rfl rfl 10 (by decide) (hta _ mw_90) (fun _ h9 => h9) rfl (by decide +kernel) rfl rfl (Nat.le_of_ble_eq_true rfl) dX2_takePlain_47 (fun H locs hP hD hS => ?_)
        have hP : va_P (dC, dI) vwCl [(qt, .inl (kt, 96, .inl (nF (un (ofl (tpg sb w nh nr y nt) tb nt k) (nt + k) ((tpg sb w nh nr y nt) k))))), (x, .inr (2, [.ref qc, .ref qg, .ref qa, .ref qt, .ref qm, .int (nI ph), .int (zI og), .long nh, .int nr, .int (nI na), .int (nI ((nt + k) + 1)), .int (nI ((nt + k) / 16)), .long t1, .long t2])), (qc, .inr (0, [.ref qs, .ref qu, .ref qw, .ref qb, .ref qe])), (qs, .inl (ks, 256, .inl (nF sb))), (qw, .inl (kw, 44, .inl w)), (qb, .inl (kb, 16, .inl (nF b1_1))), (qe, .inl (ke, 16, .inl (nF z1_1))), (qm, .inl (km, 16, .inl (nF (mkN sb w nh nr (2 + ((nt + k) / 16))))))] H := hP
        have hD : va_D A [(qt, .inl (kt, 96, .inl (nF (un (ofl (tpg sb w nh nr y nt) tb nt k) (nt + k) ((tpg sb w nh nr y nt) k))))), (x, .inr (2, [.ref qc, .ref qg, .ref qa, .ref qt, .ref qm, .int (nI ph), .int (zI og), .long nh, .int nr, .int (nI na), .int (nI ((nt + k) + 1)), .int (nI ((nt + k) / 16)), .long t1, .long t2])), (qc, .inr (0, [.ref qs, .ref qu, .ref qw, .ref qb, .ref qe])), (qs, .inl (ks, 256, .inl (nF sb))), (qw, .inl (kw, 44, .inl w)), (qb, .inl (kb, 16, .inl (nF b1_1))), (qe, .inl (ke, 16, .inl (nF z1_1))), (qm, .inl (km, 16, .inl (nF (mkN sb w nh nr (2 + ((nt + k) / 16))))))] := hD
        refine lv_lload hx hb dX2_takePlain_50 (lv_at hl 1 rfl) ?_
        refine lv_iload hx hb dX2_takePlain_52 (lv_at hl 0 rfl) ?_
        refine lv_i2l hx hb dX2_takePlain_54 rfl (top_l (nI_l (Nat.lt_trans (tpg_lt s256 k) (by decide))) ?_)
        refine lv_bipush (v := nI 8) hx hb dX2_takePlain_55 (by decide) ?_
        refine lv_iload hx hb dX2_takePlain_57 (lv_at hl 2 rfl) ?_
        refine lv_imul hx hb dX2_takePlain_59 (top_i (pk_mul _ _) ?_)
        refine lv_lshl hx hb dX2_takePlain_60 rfl (top_l (wb_shl _ (by omega)) ?_)
        refine lv_lor hx hb dX2_takePlain_61 ?_
        refine top_l (y := lN (slN (tpg sb w nh nr y nt) (k + 1))) (l_or _ _) ?_
        refine lv_lstore hx hb dX2_takePlain_62 hl (by decide) rfl (fun ls hl => ?_)
        have hl : lv_has ls 8 [(4, .long (lN (slN (tpg sb w nh nr y nt) (k + 1)))), (7, .int (nI ((tpg sb w nh nr y nt) k))), (6, .int (nI k)), (0, .ref x), (1, .long y), (3, .int (nI cn))] := hl
        refine lv_iinc (v := nI (k + 1)) (k := 2) hx hb dX2_takePlain_64 hl rfl (ix_inc _ 1) (by decide) rfl (fun ls hl => ?_)
        have hl : lv_has ls 8 [(6, .int (nI (k + 1))), (4, .long (lN (slN (tpg sb w nh nr y nt) (k + 1)))), (7, .int (nI ((tpg sb w nh nr y nt) k))), (0, .ref x), (1, .long y), (3, .int (nI cn))] := hl
        refine w_pc (pc2 := 67) rfl ?_
        refine lv_goto (tgt := 6) hx hb dX2_takePlain_67 (by decide) ?_
        obtain ⟨hP, hD⟩ := va_recb (g := ofl (tpg sb w nh nr y nt) tb nt (k + 1)) hP hD 0 rfl (fun i _ => ofl_s (tpg sb w nh nr y nt) tb nt k i)
        have hP : va_P (dC, dI) vwCl [(qt, .inl (kt, 96, .inl (nF (ofl (tpg sb w nh nr y nt) tb nt (k + 1))))), (x, .inr (2, [.ref qc, .ref qg, .ref qa, .ref qt, .ref qm, .int (nI ph), .int (zI og), .long nh, .int nr, .int (nI na), .int (nI ((nt + k) + 1)), .int (nI ((nt + k) / 16)), .long t1, .long t2])), (qc, .inr (0, [.ref qs, .ref qu, .ref qw, .ref qb, .ref qe])), (qs, .inl (ks, 256, .inl (nF sb))), (qw, .inl (kw, 44, .inl w)), (qb, .inl (kb, 16, .inl (nF b1_1))), (qe, .inl (ke, 16, .inl (nF z1_1))), (qm, .inl (km, 16, .inl (nF (mkN sb w nh nr (2 + ((nt + k) / 16))))))] H := hP
        have hD : va_D A [(qt, .inl (kt, 96, .inl (nF (ofl (tpg sb w nh nr y nt) tb nt (k + 1))))), (x, .inr (2, [.ref qc, .ref qg, .ref qa, .ref qt, .ref qm, .int (nI ph), .int (zI og), .long nh, .int nr, .int (nI na), .int (nI ((nt + k) + 1)), .int (nI ((nt + k) / 16)), .long t1, .long t2])), (qc, .inr (0, [.ref qs, .ref qu, .ref qw, .ref qb, .ref qe])), (qs, .inl (ks, 256, .inl (nF sb))), (qw, .inl (kw, 44, .inl w)), (qb, .inl (kb, 16, .inl (nF b1_1))), (qe, .inl (ke, 16, .inl (nF z1_1))), (qm, .inl (km, 16, .inl (nF (mkN sb w nh nr (2 + ((nt + k) / 16))))))] := hD
        exact ih (k + 1) b1_1 z1_1 (mkN sb w nh nr (2 + ((nt + k) / 16))) (nI ((nt + k) / 16)) ls H locs (by omega) (fun t9 ht9 he9 j9 _ => by rw [(ix_eq (by omega) (by omega)).mp he9]) (lv_sub hl [1, 0, 3, 4, 5] rfl) (hP.sub [1, 2, 3, 4, 5, 6, 7, 0] rfl) (hD.sub [1, 2, 3, 4, 5, 6, 7, 0] (by decide) rfl) hS
  exact loop_6 cn 0 b z mk mb ls H locs (by omega) hmi (lv_sub hl [1, 0, 2, 3, 4] rfl) hP hD hS

def rm_c_takeSealed : Room := { frames := 1, cells := 0, slots := 0, locals := 22 }
set_option maxHeartbeats 4000000 in
set_option maxRecDepth 100000 in
/-- takeSealed -/
theorem c_takeSealed (l : Launch) (dC : Nat → ClassId) (dI : Nat → Nat → Nat) (x : Nat) (qc : Nat) (qg : Nat) (qa : Nat) (qt : Nat) (qm : Nat) (ph : Nat) (og : Bool) (nh : Int64) (nr : Int32) (na : Nat) (nt : Nat) (mb : Int32) (t1 : Int64) (t2 : Int64) (kt : ClassId) (tb : Nat → Nat) (y : Int64) (cn : Nat) (hcn : cn ≤ 8) (hnt : nt + cn ≤ 96) : MO l dC dI yX2_takeSealed wsX2_takeSealed rm_c_takeSealed [.ref x, .long y, .int (nI cn)] [(x, .inr (2, [.ref qc, .ref qg, .ref qa, .ref qt, .ref qm, .int (nI ph), .int (zI og), .long nh, .int nr, .int (nI na), .int (nI nt), .int mb, .long t1, .long t2])), (qt, .inl (kt, 96, .inl (nF tb)))] [(kt, .int)] [(x, .inr (2, [.ref qc, .ref qg, .ref qa, .ref qt, .ref qm, .int (nI ph), .int (zI og), .long nh, .int nr, .int (nI na), .int (nI (nt + cn)), .int mb, .long t1, .long t2])), (qt, .inl (kt, 96, .inl (nF (ofl (pbN y) tb nt cn))))] (some (.long (lN 0))) := by
  refine mo_ofW (cc := cX2_takeSealed) (maxL := 5) (ret := (some .long)) (by decide) rfl (Nat.le_of_ble_eq_true rfl) ?_
  intro p e s m args below meth c Q A H locs ls hx hb hr hlk hml hta hown hin hE hQ hAe hA hK hP hD hS hl
  have hown : s.vm.findClass RX2 = some m.cls := hown
  have hl : lv_has ls 5 [(0, .ref x), (1, .long y), (3, .int (nI cn))] := hl
  refine lv_iconst (v := nI 0) hx hb dX2_takeSealed_0 (by decide) ?_
  refine lv_istore hx hb dX2_takeSealed_1 hl (by decide) rfl (fun ls hl => ?_)
  have hl : lv_has ls 5 [(4, .int (nI 0)), (0, .ref x), (1, .long y), (3, .int (nI cn))] := hl
  obtain ⟨hP, hD⟩ := va_recb (g := ofl (pbN y) tb nt 0) hP hD 1 rfl (fun i _ => ofl_0 _ tb nt i)
  have hP : va_P (dC, dI) vwCl [(x, .inr (2, [.ref qc, .ref qg, .ref qa, .ref qt, .ref qm, .int (nI ph), .int (zI og), .long nh, .int nr, .int (nI na), .int (nI nt), .int mb, .long t1, .long t2])), (qt, .inl (kt, 96, .inl (nF (ofl (pbN y) tb nt 0))))] H := hP
  have hD : va_D A [(x, .inr (2, [.ref qc, .ref qg, .ref qa, .ref qt, .ref qm, .int (nI ph), .int (zI og), .long nh, .int nr, .int (nI na), .int (nI nt), .int mb, .long t1, .long t2])), (qt, .inl (kt, 96, .inl (nF (ofl (pbN y) tb nt 0))))] := hD
  have loop_3 : ∀ (n k : Nat) (ls : Array Slot) (H : Heap) (locs : List Loc), k + n = cn → lv_has ls 5 [(4, .int (nI k)), (0, .ref x), (1, .long y), (3, .int (nI cn))] → va_P (dC, dI) vwCl [(x, .inr (2, [.ref qc, .ref qg, .ref qa, .ref qt, .ref qm, .int (nI ph), .int (zI og), .long nh, .int nr, .int (nI na), .int (nI (nt + k)), .int mb, .long t1, .long t2])), (qt, .inl (kt, 96, .inl (nF (ofl (pbN y) tb nt k))))] H → va_D A [(x, .inr (2, [.ref qc, .ref qg, .ref qa, .ref qt, .ref qm, .int (nI ph), .int (zI og), .long nh, .int nr, .int (nI na), .int (nI (nt + k)), .int mb, .long t1, .long t2])), (qt, .inl (kt, 96, .inl (nF (ofl (pbN y) tb nt k))))] → va_S A s.heap H locs → W p l e rm_c_takeSealed s m args below meth c H locs 0 0 Q (F0 m 3 ls []) := by
    intro n
    induction n with
    | zero =>
      intro k ls H locs hn_3  hl hP hD hS
      obtain rfl : cn = k := by omega
      refine lv_iload hx hb dX2_takeSealed_3 (lv_at hl 0 rfl) ?_
      refine lv_iload_n hx hb dX2_takeSealed_5 rfl (lv_at hl 3 rfl) ?_
      refine lv_icmp_ge (tgt := 40) hx hb dX2_takeSealed_6 (by decide) (fun hc_6 => ?_) (fun hc_6 => ?_)
      · skip
        have hc_6 := (ix_le (a := cn) (b := cn) (by omega) (by omega)).mp hc_6
        have hc_6 : (cn ≤ cn) := hc_6
        refine lv_lconst (v := lN 0) hx hb dX2_takeSealed_40 (by decide) ?_
        exact rt_l hx hb hr hlk hQ hAe hP hD hS [0, 1] (by decide) rfl (Nat.le_of_ble_eq_true rfl) (Nat.le_of_ble_eq_true rfl) (rfl) dX2_takeSealed_41
      · skip
        have hc_6 := (not_congr (ix_le (a := cn) (b := cn) (by omega) (by omega))).mp hc_6
        have hc_6 : ¬ (cn ≤ cn) := hc_6
        exfalso; omega
    | succ n ih =>
      intro k ls H locs hn_3  hl hP hD hS
      refine lv_iload hx hb dX2_takeSealed_3 (lv_at hl 0 rfl) ?_
      refine lv_iload_n hx hb dX2_takeSealed_5 rfl (lv_at hl 3 rfl) ?_
      refine lv_icmp_ge (tgt := 40) hx hb dX2_takeSealed_6 (by decide) (fun hc_6 => ?_) (fun hc_6 => ?_)
      · skip
        have hc_6 := (ix_le (a := cn) (b := k) (by omega) (by omega)).mp hc_6
        have hc_6 : (cn ≤ k) := hc_6
        exfalso; omega
      · skip
        have hc_6 := (not_congr (ix_le (a := cn) (b := k) (by omega) (by omega))).mp hc_6
        have hc_6 : ¬ (cn ≤ k) := hc_6
        refine lv_aload_n hx hb dX2_takeSealed_9 rfl (lv_at hl 1 rfl) ?_
        refine va_get (D := (dC, dI)) (ci := 2) (v := .ref qt) (C := RX2) (T := TX2) (N := 14) hx hb hta inX2 hown hK hP 0 rfl rfl 3 (by decide) (hta _ mw_83) (fun _ h9 => h9) rfl dX2_takeSealed_10 ?_
        refine lv_aload_n hx hb dX2_takeSealed_13 rfl (lv_at hl 1 rfl) ?_
        refine va_get (D := (dC, dI)) (ci := 2) (v := .int (nI (nt + k))) (C := RX2) (T := TX2) (N := 14) hx hb hta inX2 hown hK hP 0 rfl rfl 10 (by decide) (hta _ mw_90) (fun _ h9 => h9) rfl dX2_takeSealed_14 ?_
        refine lv_lload_n hx hb dX2_takeSealed_17 rfl (lv_at hl 2 rfl) ?_
        refine lv_iload hx hb dX2_takeSealed_18 (lv_at hl 0 rfl) ?_
        refine cf_1 (wr := [(x, .inr (2, [.ref qc, .ref qg, .ref qa, .ref qt, .ref qm, .int (nI ph), .int (zI og), .long nh, .int nr, .int (nI na), .int (nI (nt + k)), .int mb, .long t1, .long t2])), (qt, .inl (kt, 96, .inl (nF (ofl (pbN y) tb nt k))))]) (va_runS (As := [.long y, .int (nI k)]) (rest := [.int (nI (nt + k)), .ref qt]) ⟨hx, hb, hml, hown, hta⟩ (MO.to (c_pieceByte l dC dI y k (by omega)) H.size) (va_cwS 2 hta (aw_S mw_366 mw_364 mw_365 mw_1) rfl rfl rfl dyX2_pieceByte ⟨(Nat.le_of_ble_eq_true rfl), (Nat.le_of_ble_eq_true rfl)⟩) (pr_S hP hD hK hE [] [] (by decide) rfl rfl) rfl rfl hl.1 rfl (lv_room (Nat.le_of_ble_eq_true rfl)) dX2_takeSealed_20 ⟨(Nat.le_of_ble_eq_true rfl), (Nat.le_of_ble_eq_true rfl)⟩) hP hD hS hA [] [0, 1] rfl rfl (by decide) (by decide) (fun H locs hP hD hS => ?_)
        have hP : va_P (dC, dI) vwCl [(x, .inr (2, [.ref qc, .ref qg, .ref qa, .ref qt, .ref qm, .int (nI ph), .int (zI og), .long nh, .int nr, .int (nI na), .int (nI (nt + k)), .int mb, .long t1, .long t2])), (qt, .inl (kt, 96, .inl (nF (ofl (pbN y) tb nt k))))] H := hP
        have hD : va_D A [(x, .inr (2, [.ref qc, .ref qg, .ref qa, .ref qt, .ref qm, .int (nI ph), .int (zI og), .long nh, .int nr, .int (nI na), .int (nI (nt + k)), .int mb, .long t1, .long t2])), (qt, .inl (kt, 96, .inl (nF (ofl (pbN y) tb nt k))))] := hD
        refine W.widen (k := 0) (n := 0) (Nat.le_of_ble_eq_true rfl) (Nat.le_of_ble_eq_true rfl) ?_
        refine w_pc (pc2 := 23) rfl ?_
        refine va_iasb hx hb hK hP hD hS 1 0 rfl rfl (by omega) (by decide) dX2_takeSealed_23 (fun H locs hP hD hS => ?_)
        have hP : va_P (dC, dI) vwCl [(x, .inr (2, [.ref qc, .ref qg, .ref qa, .ref qt, .ref qm, .int (nI ph), .int (zI og), .long nh, .int nr, .int (nI na), .int (nI (nt + k)), .int mb, .long t1, .long t2])), (qt, .inl (kt, 96, .inl (nF (un (ofl (pbN y) tb nt k) (nt + k) (pbN y k)))))] H := hP
        have hD : va_D A [(x, .inr (2, [.ref qc, .ref qg, .ref qa, .ref qt, .ref qm, .int (nI ph), .int (zI og), .long nh, .int nr, .int (nI na), .int (nI (nt + k)), .int mb, .long t1, .long t2])), (qt, .inl (kt, 96, .inl (nF (un (ofl (pbN y) tb nt k) (nt + k) (pbN y k)))))] := hD
        refine lv_aload_n hx hb dX2_takeSealed_24 rfl (lv_at hl 1 rfl) ?_
        refine lv_dup hx hb dX2_takeSealed_25 rfl ?_
        refine va_get (D := (dC, dI)) (ci := 2) (v := .int (nI (nt + k))) (C := RX2) (T := TX2) (N := 14) hx hb hta inX2 hown hK hP 0 rfl rfl 10 (by decide) (hta _ mw_90) (fun _ h9 => h9) rfl dX2_takeSealed_26 ?_
        refine lv_iconst (v := nI 1) hx hb dX2_takeSealed_29 (by decide) ?_
        refine lv_iadd hx hb dX2_takeSealed_30 (top_i (nI_add _ _) ?_)
        refine va_put (D := (dC, dI)) (ci := 2) (v := .int (nI ((nt + k) + 1))) (ty := .int) (C := RX2) (T := TX2) (N := 14) hx hb hta inX2 tyX2 tyX2_ok nmX2 hown hK hP hD hS 0 rfl rfl 10 (by decide) (hta _ mw_90) (fun _ h9 => h9) rfl (by decide +kernel) rfl rfl (Nat.le_of_ble_eq_true rfl) dX2_takeSealed_31 (fun H locs hP hD hS => ?_)
        have hP : va_P (dC, dI) vwCl [(x, .inr (2, [.ref qc, .ref qg, .ref qa, .ref qt, .ref qm, .int (nI ph), .int (zI og), .long nh, .int nr, .int (nI na), .int (nI ((nt + k) + 1)), .int mb, .long t1, .long t2])), (qt, .inl (kt, 96, .inl (nF (un (ofl (pbN y) tb nt k) (nt + k) (pbN y k)))))] H := hP
        have hD : va_D A [(x, .inr (2, [.ref qc, .ref qg, .ref qa, .ref qt, .ref qm, .int (nI ph), .int (zI og), .long nh, .int nr, .int (nI na), .int (nI ((nt + k) + 1)), .int mb, .long t1, .long t2])), (qt, .inl (kt, 96, .inl (nF (un (ofl (pbN y) tb nt k) (nt + k) (pbN y k)))))] := hD
        refine lv_iinc (v := nI (k + 1)) (k := 0) hx hb dX2_takeSealed_34 hl rfl (ix_inc _ 1) (by decide) rfl (fun ls hl => ?_)
        have hl : lv_has ls 5 [(4, .int (nI (k + 1))), (0, .ref x), (1, .long y), (3, .int (nI cn))] := hl
        refine lv_goto (tgt := 3) hx hb dX2_takeSealed_37 (by decide) ?_
        obtain ⟨hP, hD⟩ := va_recb (g := ofl (pbN y) tb nt (k + 1)) hP hD 1 rfl (fun i _ => ofl_s (pbN y) tb nt k i)
        have hP : va_P (dC, dI) vwCl [(x, .inr (2, [.ref qc, .ref qg, .ref qa, .ref qt, .ref qm, .int (nI ph), .int (zI og), .long nh, .int nr, .int (nI na), .int (nI ((nt + k) + 1)), .int mb, .long t1, .long t2])), (qt, .inl (kt, 96, .inl (nF (ofl (pbN y) tb nt (k + 1)))))] H := hP
        have hD : va_D A [(x, .inr (2, [.ref qc, .ref qg, .ref qa, .ref qt, .ref qm, .int (nI ph), .int (zI og), .long nh, .int nr, .int (nI na), .int (nI ((nt + k) + 1)), .int mb, .long t1, .long t2])), (qt, .inl (kt, 96, .inl (nF (ofl (pbN y) tb nt (k + 1)))))] := hD
        exact ih (k + 1) ls H locs (by omega)  (lv_sub hl [0, 1, 2, 3] rfl) hP hD hS
  exact loop_3 cn 0 ls H locs (by omega)  (lv_sub hl [0, 1, 2, 3] rfl) hP hD hS

def rm_c_unmaskText : Room := { frames := 6, cells := 0, slots := 0, locals := 170 }
set_option maxHeartbeats 4000000 in
set_option maxRecDepth 100000 in
/-- unmaskText -/
theorem c_unmaskText (l : Launch) (dC : Nat → ClassId) (dI : Nat → Nat → Nat) (x : Nat) (qc : Nat) (qg : Nat) (qa : Nat) (qt : Nat) (qm : Nat) (ph : Nat) (og : Bool) (nh : Int64) (nr : Int32) (na : Nat) (nt : Nat) (mb : Int32) (t1 : Int64) (t2 : Int64) (qs : Nat) (qu : Nat) (qw : Nat) (qb : Nat) (qe : Nat) (ks : ClassId) (kw : ClassId) (kb : ClassId) (ke : ClassId) (km : ClassId) (kt : ClassId) (sb : Nat → Nat) (w : Nat → Int32) (b : Nat → Nat) (z : Nat → Nat) (mk : Nat → Nat) (tb : Nat → Nat) (s256 : ∀ i, sb i < 256) (hnt : nt ≤ 96) (hmi : ∀ t, t < 96 → mb = nI t → ∀ j, j < 16 → mk j = mkN sb w nh nr (2 + t) j) : MX l dC dI yX2_unmaskText wsX2_unmaskText rm_c_unmaskText [.ref x] [(x, .inr (2, [.ref qc, .ref qg, .ref qa, .ref qt, .ref qm, .int (nI ph), .int (zI og), .long nh, .int nr, .int (nI na), .int (nI nt), .int mb, .long t1, .long t2])), (qc, .inr (0, [.ref qs, .ref qu, .ref qw, .ref qb, .ref qe])), (qs, .inl (ks, 256, .inl (nF sb))), (qw, .inl (kw, 44, .inl w)), (qb, .inl (kb, 16, .inl (nF b))), (qe, .inl (ke, 16, .inl (nF z))), (qm, .inl (km, 16, .inl (nF mk))), (qt, .inl (kt, 96, .inl (nF tb)))] [(ks, .int), (kw, .int), (kb, .int), (ke, .int), (km, .int), (kt, .int)] (fun ((b1, z1, mk1, mb1) : (Nat → Nat) × (Nat → Nat) × (Nat → Nat) × Int32) => [(x, .inr (2, [.ref qc, .ref qg, .ref qa, .ref qt, .ref qm, .int (nI ph), .int (zI og), .long nh, .int nr, .int (nI na), .int (nI nt), .int mb1, .long t1, .long t2])), (qc, .inr (0, [.ref qs, .ref qu, .ref qw, .ref qb, .ref qe])), (qs, .inl (ks, 256, .inl (nF sb))), (qw, .inl (kw, 44, .inl w)), (qb, .inl (kb, 16, .inl (nF b1))), (qe, .inl (ke, 16, .inl (nF z1))), (qm, .inl (km, 16, .inl (nF mk1))), (qt, .inl (kt, 96, .inl (nF (fl (umt sb w nh nr tb) tb nt))))]) (fun ((b1, z1, mk1, mb1) : (Nat → Nat) × (Nat → Nat) × (Nat → Nat) × Int32) => []) (fun ((b1, z1, mk1, mb1) : (Nat → Nat) × (Nat → Nat) × (Nat → Nat) × Int32) => ∀ t, t < 96 → mb1 = nI t → ∀ j, j < 16 → mk1 j = mkN sb w nh nr (2 + t) j) (fun _ => none) := by
  refine mx_ofW (cc := cX2_unmaskText) (maxL := 2) (ret := none) (by decide) rfl (Nat.le_of_ble_eq_true rfl) ?_
  intro p e s m args below meth c Q A H locs ls hx hb hr hlk hml hta hown hin hE hQ hAe hA hK hP hD hS hl
  have hown : s.vm.findClass RX2 = some m.cls := hown
  have hl : lv_has ls 2 [(0, .ref x)] := hl
  refine lv_iconst (v := nI 0) hx hb dX2_unmaskText_0 (by decide) ?_
  refine lv_istore_n hx hb dX2_unmaskText_1 rfl hl (by decide) rfl (fun ls hl => ?_)
  have hl : lv_has ls 2 [(1, .int (nI 0)), (0, .ref x)] := hl
  obtain ⟨hP, hD⟩ := va_recb (g := fl (umt sb w nh nr tb) tb 0) hP hD 7 rfl (fun i _ => fl_0 _ tb i)
  have hP : va_P (dC, dI) vwCl [(x, .inr (2, [.ref qc, .ref qg, .ref qa, .ref qt, .ref qm, .int (nI ph), .int (zI og), .long nh, .int nr, .int (nI na), .int (nI nt), .int mb, .long t1, .long t2])), (qc, .inr (0, [.ref qs, .ref qu, .ref qw, .ref qb, .ref qe])), (qs, .inl (ks, 256, .inl (nF sb))), (qw, .inl (kw, 44, .inl w)), (qb, .inl (kb, 16, .inl (nF b))), (qe, .inl (ke, 16, .inl (nF z))), (qm, .inl (km, 16, .inl (nF mk))), (qt, .inl (kt, 96, .inl (nF (fl (umt sb w nh nr tb) tb 0))))] H := hP
  have hD : va_D A [(x, .inr (2, [.ref qc, .ref qg, .ref qa, .ref qt, .ref qm, .int (nI ph), .int (zI og), .long nh, .int nr, .int (nI na), .int (nI nt), .int mb, .long t1, .long t2])), (qc, .inr (0, [.ref qs, .ref qu, .ref qw, .ref qb, .ref qe])), (qs, .inl (ks, 256, .inl (nF sb))), (qw, .inl (kw, 44, .inl w)), (qb, .inl (kb, 16, .inl (nF b))), (qe, .inl (ke, 16, .inl (nF z))), (qm, .inl (km, 16, .inl (nF mk))), (qt, .inl (kt, 96, .inl (nF (fl (umt sb w nh nr tb) tb 0))))] := hD
  have loop_2 : ∀ (n k : Nat) (b9 : Nat → Nat) (z9 : Nat → Nat) (mk9 : Nat → Nat) (mb9 : Int32) (ls : Array Slot) (H : Heap) (locs : List Loc), k + n = nt → (∀ t, t < 96 → mb9 = nI t → ∀ j, j < 16 → mk9 j = mkN sb w nh nr (2 + t) j) → lv_has ls 2 [(1, .int (nI k)), (0, .ref x)] → va_P (dC, dI) vwCl [(x, .inr (2, [.ref qc, .ref qg, .ref qa, .ref qt, .ref qm, .int (nI ph), .int (zI og), .long nh, .int nr, .int (nI na), .int (nI nt), .int mb9, .long t1, .long t2])), (qc, .inr (0, [.ref qs, .ref qu, .ref qw, .ref qb, .ref qe])), (qs, .inl (ks, 256, .inl (nF sb))), (qw, .inl (kw, 44, .inl w)), (qb, .inl (kb, 16, .inl (nF b9))), (qe, .inl (ke, 16, .inl (nF z9))), (qm, .inl (km, 16, .inl (nF mk9))), (qt, .inl (kt, 96, .inl (nF (fl (umt sb w nh nr tb) tb k))))] H → va_D A [(x, .inr (2, [.ref qc, .ref qg, .ref qa, .ref qt, .ref qm, .int (nI ph), .int (zI og), .long nh, .int nr, .int (nI na), .int (nI nt), .int mb9, .long t1, .long t2])), (qc, .inr (0, [.ref qs, .ref qu, .ref qw, .ref qb, .ref qe])), (qs, .inl (ks, 256, .inl (nF sb))), (qw, .inl (kw, 44, .inl w)), (qb, .inl (kb, 16, .inl (nF b9))), (qe, .inl (ke, 16, .inl (nF z9))), (qm, .inl (km, 16, .inl (nF mk9))), (qt, .inl (kt, 96, .inl (nF (fl (umt sb w nh nr tb) tb k))))] → va_S A s.heap H locs → W p l e rm_c_unmaskText s m args below meth c H locs 0 0 Q (F0 m 2 ls []) := by
    intro n
    induction n with
    | zero =>
      intro k b9 z9 mk9 mb9 ls H locs hn_2 hmi9 hl hP hD hS
      obtain rfl : nt = k := by omega
      refine lv_iload_n hx hb dX2_unmaskText_2 rfl (lv_at hl 0 rfl) ?_
      refine lv_aload_n hx hb dX2_unmaskText_3 rfl (lv_at hl 1 rfl) ?_
      refine va_get (D := (dC, dI)) (ci := 2) (v := .int (nI nt)) (C := RX2) (T := TX2) (N := 14) hx hb hta inX2 hown hK hP 0 rfl rfl 10 (by decide) (hta _ mw_90) (fun _ h9 => h9) rfl dX2_unmaskText_4 ?_
      refine lv_icmp_ge (tgt := 30) hx hb dX2_unmaskText_7 (by decide) (fun hc_7 => ?_) (fun hc_7 => ?_)
      · skip
        have hc_7 := (ix_le (a := nt) (b := nt) (by omega) (by omega)).mp hc_7
        have hc_7 : (nt ≤ nt) := hc_7
        exact rx_0 (b9, z9, mk9, mb9) (hmi9) hx hb hr hlk hQ hAe hK hP hD hS [0, 1, 2, 3, 4, 5, 6, 7] [] (by decide) rfl rfl (Nat.le_of_ble_eq_true rfl) (Nat.le_of_ble_eq_true rfl) dX2_unmaskText_30
      · skip
        have hc_7 := (not_congr (ix_le (a := nt) (b := nt) (by omega) (by omega))).mp hc_7
        have hc_7 : ¬ (nt ≤ nt) := hc_7
        exfalso; omega
    | succ n ih =>
      intro k b9 z9 mk9 mb9 ls H locs hn_2 hmi9 hl hP hD hS
      refine lv_iload_n hx hb dX2_unmaskText_2 rfl (lv_at hl 0 rfl) ?_
      refine lv_aload_n hx hb dX2_unmaskText_3 rfl (lv_at hl 1 rfl) ?_
      refine va_get (D := (dC, dI)) (ci := 2) (v := .int (nI nt)) (C := RX2) (T := TX2) (N := 14) hx hb hta inX2 hown hK hP 0 rfl rfl 10 (by decide) (hta _ mw_90) (fun _ h9 => h9) rfl dX2_unmaskText_4 ?_
      refine lv_icmp_ge (tgt := 30) hx hb dX2_unmaskText_7 (by decide) (fun hc_7 => ?_) (fun hc_7 => ?_)
      · skip
        have hc_7 := (ix_le (a := nt) (b := k) (by omega) (by omega)).mp hc_7
        have hc_7 : (nt ≤ k) := hc_7
        exfalso; omega
      · skip
        have hc_7 := (not_congr (ix_le (a := nt) (b := k) (by omega) (by omega))).mp hc_7
        have hc_7 : ¬ (nt ≤ k) := hc_7
        refine lv_aload_n hx hb dX2_unmaskText_10 rfl (lv_at hl 1 rfl) ?_
        refine va_get (D := (dC, dI)) (ci := 2) (v := .ref qt) (C := RX2) (T := TX2) (N := 14) hx hb hta inX2 hown hK hP 0 rfl rfl 3 (by decide) (hta _ mw_83) (fun _ h9 => h9) rfl dX2_unmaskText_11 ?_
        refine lv_iload_n hx hb dX2_unmaskText_14 rfl (lv_at hl 0 rfl) ?_
        refine lv_dup2_11 hx hb dX2_unmaskText_15 rfl rfl ?_
        refine va_ialb hx hb hK hP 7 5 rfl rfl (by omega) (by decide) dX2_unmaskText_16 ?_
        refine top_i (y := nI (tb k)) (congrArg nI (fl_k _ tb k k (Nat.le_refl _))) ?_
        refine lv_aload_n hx hb dX2_unmaskText_17 rfl (lv_at hl 1 rfl) ?_
        refine lv_iload_n hx hb dX2_unmaskText_18 rfl (lv_at hl 0 rfl) ?_
        refine cx_1 (wr := [(qt, .inl (kt, 96, .inl (nF (fl (umt sb w nh nr tb) tb k))))]) (va_runV (As := [.int (nI k)]) (rest := [.int (nI (tb k)), .int (nI k), .ref qt]) ⟨hx, hb, hml, hown, hta⟩ (MX.to (c_maskByte l dC dI x qc qg qa qt qm ph og nh nr na nt mb9 t1 t2 qs qu qw qb qe ks kw kb ke km sb w b9 z9 mk9 k s256 (by omega) (fun h9 => hmi9 _ (by omega) h9)) H.size) (cwV 1 hta (aw_V mw_389 mw_386 mw_388 mw_s14 mw_1) rfl rfl rfl ⟨rfl, dyX2_maskByte⟩ ⟨(Nat.le_of_ble_eq_true rfl), (Nat.le_of_ble_eq_true rfl)⟩) (pr_V hP hD hK hE [0, 1, 2, 3, 4, 5, 6] [0, 1, 2, 3, 4] (by decide) rfl rfl rfl rfl) rfl rfl hl.1 rfl (lv_room (Nat.le_of_ble_eq_true rfl)) dX2_unmaskText_19 ⟨(Nat.le_of_ble_eq_true rfl), (Nat.le_of_ble_eq_true rfl)⟩) hK hP hD hS hA [0, 1, 2, 3, 4, 5, 6] [7] rfl rfl (by decide) (by decide) (fun u9 H locs hphi_19 hK hP hD hS => ?_)
        obtain ⟨b1_1, z1_1⟩ := u9
        have hK : va_K (dC, dI) vwCl [(ks, .int), (kw, .int), (kb, .int), (ke, .int), (km, .int), (kt, .int)] s := hK
        have hP : va_P (dC, dI) vwCl [(qt, .inl (kt, 96, .inl (nF (fl (umt sb w nh nr tb) tb k)))), (x, .inr (2, [.ref qc, .ref qg, .ref qa, .ref qt, .ref qm, .int (nI ph), .int (zI og), .long nh, .int nr, .int (nI na), .int (nI nt), .int (nI (k / 16)), .long t1, .long t2])), (qc, .inr (0, [.ref qs, .ref qu, .ref qw, .ref qb, .ref qe])), (qs, .inl (ks, 256, .inl (nF sb))), (qw, .inl (kw, 44, .inl w)), (qb, .inl (kb, 16, .inl (nF b1_1))), (qe, .inl (ke, 16, .inl (nF z1_1))), (qm, .inl (km, 16, .inl (nF (mkN sb w nh nr (2 + (k / 16))))))] H := hP
        have hD : va_D A [(qt, .inl (kt, 96, .inl (nF (fl (umt sb w nh nr tb) tb k)))), (x, .inr (2, [.ref qc, .ref qg, .ref qa, .ref qt, .ref qm, .int (nI ph), .int (zI og), .long nh, .int nr, .int (nI na), .int (nI nt), .int (nI (k / 16)), .long t1, .long t2])), (qc, .inr (0, [.ref qs, .ref qu, .ref qw, .ref qb, .ref qe])), (qs, .inl (ks, 256, .inl (nF sb))), (qw, .inl (kw, 44, .inl w)), (qb, .inl (kb, 16, .inl (nF b1_1))), (qe, .inl (ke, 16, .inl (nF z1_1))), (qm, .inl (km, 16, .inl (nF (mkN sb w nh nr (2 + (k / 16))))))] := hD
        refine W.widen (k := 0) (n := 0) (Nat.le_of_ble_eq_true rfl) (Nat.le_of_ble_eq_true rfl) ?_
        refine w_pc (pc2 := 22) rfl ?_
        refine lv_ixor hx hb dX2_unmaskText_22 ?_
        refine top_i (y := nI ((umt sb w nh nr tb) k)) (n_xor _ _) ?_
        refine va_iasb hx hb hK hP hD hS 0 5 rfl rfl (by omega) (by decide) dX2_unmaskText_23 (fun H locs hP hD hS => ?_)
        have hP : va_P (dC, dI) vwCl [(qt, .inl (kt, 96, .inl (nF (un (fl (umt sb w nh nr tb) tb k) k ((umt sb w nh nr tb) k))))), (x, .inr (2, [.ref qc, .ref qg, .ref qa, .ref qt, .ref qm, .int (nI ph), .int (zI og), .long nh, .int nr, .int (nI na), .int (nI nt), .int (nI (k / 16)), .long t1, .long t2])), (qc, .inr (0, [.ref qs, .ref qu, .ref qw, .ref qb, .ref qe])), (qs, .inl (ks, 256, .inl (nF sb))), (qw, .inl (kw, 44, .inl w)), (qb, .inl (kb, 16, .inl (nF b1_1))), (qe, .inl (ke, 16, .inl (nF z1_1))), (qm, .inl (km, 16, .inl (nF (mkN sb w nh nr (2 + (k / 16))))))] H := hP
        have hD : va_D A [(qt, .inl (kt, 96, .inl (nF (un (fl (umt sb w nh nr tb) tb k) k ((umt sb w nh nr tb) k))))), (x, .inr (2, [.ref qc, .ref qg, .ref qa, .ref qt, .ref qm, .int (nI ph), .int (zI og), .long nh, .int nr, .int (nI na), .int (nI nt), .int (nI (k / 16)), .long t1, .long t2])), (qc, .inr (0, [.ref qs, .ref qu, .ref qw, .ref qb, .ref qe])), (qs, .inl (ks, 256, .inl (nF sb))), (qw, .inl (kw, 44, .inl w)), (qb, .inl (kb, 16, .inl (nF b1_1))), (qe, .inl (ke, 16, .inl (nF z1_1))), (qm, .inl (km, 16, .inl (nF (mkN sb w nh nr (2 + (k / 16))))))] := hD
        refine lv_iinc (v := nI (k + 1)) (k := 0) hx hb dX2_unmaskText_24 hl rfl (ix_inc _ 1) (by decide) rfl (fun ls hl => ?_)
        have hl : lv_has ls 2 [(1, .int (nI (k + 1))), (0, .ref x)] := hl
        refine lv_goto (tgt := 2) hx hb dX2_unmaskText_27 (by decide) ?_
        obtain ⟨hP, hD⟩ := va_recb (g := fl (umt sb w nh nr tb) tb (k + 1)) hP hD 0 rfl (fun i _ => fl_s (umt sb w nh nr tb) tb k i)
        have hP : va_P (dC, dI) vwCl [(qt, .inl (kt, 96, .inl (nF (fl (umt sb w nh nr tb) tb (k + 1))))), (x, .inr (2, [.ref qc, .ref qg, .ref qa, .ref qt, .ref qm, .int (nI ph), .int (zI og), .long nh, .int nr, .int (nI na), .int (nI nt), .int (nI (k / 16)), .long t1, .long t2])), (qc, .inr (0, [.ref qs, .ref qu, .ref qw, .ref qb, .ref qe])), (qs, .inl (ks, 256, .inl (nF sb))), (qw, .inl (kw, 44, .inl w)), (qb, .inl (kb, 16, .inl (nF b1_1))), (qe, .inl (ke, 16, .inl (nF z1_1))), (qm, .inl (km, 16, .inl (nF (mkN sb w nh nr (2 + (k / 16))))))] H := hP
        have hD : va_D A [(qt, .inl (kt, 96, .inl (nF (fl (umt sb w nh nr tb) tb (k + 1))))), (x, .inr (2, [.ref qc, .ref qg, .ref qa, .ref qt, .ref qm, .int (nI ph), .int (zI og), .long nh, .int nr, .int (nI na), .int (nI nt), .int (nI (k / 16)), .long t1, .long t2])), (qc, .inr (0, [.ref qs, .ref qu, .ref qw, .ref qb, .ref qe])), (qs, .inl (ks, 256, .inl (nF sb))), (qw, .inl (kw, 44, .inl w)), (qb, .inl (kb, 16, .inl (nF b1_1))), (qe, .inl (ke, 16, .inl (nF z1_1))), (qm, .inl (km, 16, .inl (nF (mkN sb w nh nr (2 + (k / 16))))))] := hD
        exact ih (k + 1) b1_1 z1_1 (mkN sb w nh nr (2 + (k / 16))) (nI (k / 16)) ls H locs (by omega) (fun t9 ht9 he9 j9 _ => by rw [(ix_eq (by omega) (by omega)).mp he9]) (lv_sub hl [0, 1] rfl) (hP.sub [1, 2, 3, 4, 5, 6, 7, 0] rfl) (hD.sub [1, 2, 3, 4, 5, 6, 7, 0] (by decide) rfl) hS
  exact loop_2 nt 0 b z mk mb ls H locs (by omega) hmi (lv_sub hl [0, 1] rfl) hP hD hS

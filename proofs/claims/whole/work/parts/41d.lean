def rm_c_foldRow : Room := { frames := 1, cells := 0, slots := 0, locals := 39 }
set_option maxHeartbeats 4000000 in
set_option maxRecDepth 100000 in
/-- foldRow -/
theorem c_foldRow (l : Launch) (dC : Nat → ClassId) (dI : Nat → Nat → Nat) (x : Nat) (qc : Nat) (qg : Nat) (qa : Nat) (qt : Nat) (qm : Nat) (ph : Nat) (og : Bool) (nh : Int64) (nr : Int32) (na : Nat) (nt : Nat) (mb : Int32) (t1 : Int64) (t2 : Int64) (yh : Int64) (yl : Int64) (r : Nat) (kr : ClassId) (nn : Nat) (b : Nat → Nat) (cn : Nat) (fh : Int64) (fw : Int64) (b256 : ∀ i, b i < 256) (hnn : nn ≤ 96) (hcn : cn ≤ nn) : MO l dC dI yX2_foldRow wsX2_foldRow rm_c_foldRow [.ref x, .ref r, .int (nI cn), .long fh, .long fw] [(x, .inr (2, [.ref qc, .ref qg, .ref qa, .ref qt, .ref qm, .int (nI ph), .int (zI og), .long nh, .int nr, .int (nI na), .int (nI nt), .int mb, .long t1, .long t2])), (qg, .inr (1, [.long yh, .long yl])), (r, .inl (kr, nn, .inl (nF b)))] [(kr, .int)] [(x, .inr (2, [.ref qc, .ref qg, .ref qa, .ref qt, .ref qm, .int (nI ph), .int (zI og), .long nh, .int nr, .int (nI na), .int (nI nt), .int mb, .long t1, .long t2])), (qg, .inr (1, [.long ((fgN b cn fh fw (yh, yl) ((cn + 15) / 16)).1), .long ((fgN b cn fh fw (yh, yl) ((cn + 15) / 16)).2)])), (r, .inl (kr, nn, .inl (nF b)))] none := by
  refine mo_ofW (cc := cX2_foldRow) (maxL := 8) (ret := none) (by decide) rfl (Nat.le_of_ble_eq_true rfl) ?_
  intro p e s m args below meth c Q A H locs ls hx hb hr hlk hml hta hown hin hE hQ hAe hA hK hP hD hS hl
  have hown : s.vm.findClass RX2 = some m.cls := hown
  have hl : lv_has ls 8 [(0, .ref x), (1, .ref r), (2, .int (nI cn)), (3, .long fh), (5, .long fw)] := hl
  refine lv_iconst (v := nI 0) hx hb dX2_foldRow_0 (by decide) ?_
  refine lv_istore hx hb dX2_foldRow_1 hl (by decide) rfl (fun ls hl => ?_)
  have hl : lv_has ls 8 [(7, .int (nI 0)), (0, .ref x), (1, .ref r), (2, .int (nI cn)), (3, .long fh), (5, .long fw)] := hl
  have loop_3 : ∀ (n k : Nat) (ls : Array Slot) (H : Heap) (locs : List Loc), k + n = (cn + 15) / 16 → lv_has ls 8 [(7, .int (nI (16 * k))), (0, .ref x), (1, .ref r), (2, .int (nI cn)), (3, .long fh), (5, .long fw)] → va_P (dC, dI) vwCl [(x, .inr (2, [.ref qc, .ref qg, .ref qa, .ref qt, .ref qm, .int (nI ph), .int (zI og), .long nh, .int nr, .int (nI na), .int (nI nt), .int mb, .long t1, .long t2])), (qg, .inr (1, [.long ((fgN b cn fh fw (yh, yl) k).1), .long ((fgN b cn fh fw (yh, yl) k).2)])), (r, .inl (kr, nn, .inl (nF b)))] H → va_D A [(x, .inr (2, [.ref qc, .ref qg, .ref qa, .ref qt, .ref qm, .int (nI ph), .int (zI og), .long nh, .int nr, .int (nI na), .int (nI nt), .int mb, .long t1, .long t2])), (qg, .inr (1, [.long ((fgN b cn fh fw (yh, yl) k).1), .long ((fgN b cn fh fw (yh, yl) k).2)])), (r, .inl (kr, nn, .inl (nF b)))] → va_S A s.heap H locs → W p l e rm_c_foldRow s m args below meth c H locs 0 0 Q (F0 m 3 ls []) := by
    intro n
    induction n with
    | zero =>
      intro k ls H locs hn_3  hl hP hD hS
      obtain rfl : (cn + 15) / 16 = k := by omega
      refine lv_iload hx hb dX2_foldRow_3 (lv_at hl 0 rfl) ?_
      refine lv_iload_n hx hb dX2_foldRow_5 rfl (lv_at hl 3 rfl) ?_
      refine lv_icmp_ge (tgt := 49) hx hb dX2_foldRow_6 (by decide) (fun hc_6 => ?_) (fun hc_6 => ?_)
      · skip
        have hc_6 := (ix_le (a := cn) (b := 16 * ((cn + 15) / 16)) (by omega) (by omega)).mp hc_6
        have hc_6 : (cn ≤ (16 * ((cn + 15) / 16))) := hc_6
        exact rt_0 hx hb hr hlk hQ hAe hP hD hS [0, 1, 2] (by decide) rfl (Nat.le_of_ble_eq_true rfl) (Nat.le_of_ble_eq_true rfl) dX2_foldRow_49
      · skip
        have hc_6 := (not_congr (ix_le (a := cn) (b := 16 * ((cn + 15) / 16)) (by omega) (by omega))).mp hc_6
        have hc_6 : ¬ (cn ≤ (16 * ((cn + 15) / 16))) := hc_6
        exfalso; omega
    | succ n ih =>
      intro k ls H locs hn_3  hl hP hD hS
      refine lv_iload hx hb dX2_foldRow_3 (lv_at hl 0 rfl) ?_
      refine lv_iload_n hx hb dX2_foldRow_5 rfl (lv_at hl 3 rfl) ?_
      refine lv_icmp_ge (tgt := 49) hx hb dX2_foldRow_6 (by decide) (fun hc_6 => ?_) (fun hc_6 => ?_)
      · skip
        have hc_6 := (ix_le (a := cn) (b := 16 * k) (by omega) (by omega)).mp hc_6
        have hc_6 : (cn ≤ (16 * k)) := hc_6
        exfalso; omega
      · skip
        have hc_6 := (not_congr (ix_le (a := cn) (b := 16 * k) (by omega) (by omega))).mp hc_6
        have hc_6 : ¬ (cn ≤ (16 * k)) := hc_6
        refine lv_aload_n hx hb dX2_foldRow_9 rfl (lv_at hl 1 rfl) ?_
        refine va_get (D := (dC, dI)) (ci := 2) (v := .ref qg) (C := RX2) (T := TX2) (N := 14) hx hb hta inX2 hown hK hP 0 rfl rfl 1 (by decide) (hta _ mw_81) (fun _ h9 => h9) rfl dX2_foldRow_10 ?_
        refine lv_aload_n hx hb dX2_foldRow_13 rfl (lv_at hl 2 rfl) ?_
        refine lv_iload hx hb dX2_foldRow_14 (lv_at hl 0 rfl) ?_
        refine lv_iload_n hx hb dX2_foldRow_16 rfl (lv_at hl 3 rfl) ?_
        refine cf_1 (wr := [(x, .inr (2, [.ref qc, .ref qg, .ref qa, .ref qt, .ref qm, .int (nI ph), .int (zI og), .long nh, .int nr, .int (nI na), .int (nI nt), .int mb, .long t1, .long t2])), (qg, .inr (1, [.long ((fgN b cn fh fw (yh, yl) k).1), .long ((fgN b cn fh fw (yh, yl) k).2)]))]) (va_runS (As := [.ref r, .int (nI (16 * k)), .int (nI cn)]) (rest := [.ref qg]) ⟨hx, hb, hml, hown, hta⟩ (MO.to (c_joinBytes l dC dI r kr nn b (16 * k) cn b256 hnn hcn (by omega)) H.size) (va_cwS 3 hta (aw_S mw_168 mw_410 mw_167 mw_1) rfl rfl rfl dyX2_joinBytes ⟨(Nat.le_of_ble_eq_true rfl), (Nat.le_of_ble_eq_true rfl)⟩) (pr_S hP hD hK hE [2] [0] (by decide) rfl rfl) rfl rfl hl.1 rfl (lv_room (Nat.le_of_ble_eq_true rfl)) dX2_foldRow_17 ⟨(Nat.le_of_ble_eq_true rfl), (Nat.le_of_ble_eq_true rfl)⟩) hP hD hS hA [2] [0, 1] rfl rfl (by decide) (by decide) (fun H locs hP hD hS => ?_)
        have hP : va_P (dC, dI) vwCl [(x, .inr (2, [.ref qc, .ref qg, .ref qa, .ref qt, .ref qm, .int (nI ph), .int (zI og), .long nh, .int nr, .int (nI na), .int (nI nt), .int mb, .long t1, .long t2])), (qg, .inr (1, [.long ((fgN b cn fh fw (yh, yl) k).1), .long ((fgN b cn fh fw (yh, yl) k).2)])), (r, .inl (kr, nn, .inl (nF b)))] H := hP
        have hD : va_D A [(x, .inr (2, [.ref qc, .ref qg, .ref qa, .ref qt, .ref qm, .int (nI ph), .int (zI og), .long nh, .int nr, .int (nI na), .int (nI nt), .int mb, .long t1, .long t2])), (qg, .inr (1, [.long ((fgN b cn fh fw (yh, yl) k).1), .long ((fgN b cn fh fw (yh, yl) k).2)])), (r, .inl (kr, nn, .inl (nF b)))] := hD
        refine W.widen (k := 0) (n := 0) (Nat.le_of_ble_eq_true rfl) (Nat.le_of_ble_eq_true rfl) ?_
        refine w_pc (pc2 := 20) rfl ?_
        refine lv_aload_n hx hb dX2_foldRow_20 rfl (lv_at hl 2 rfl) ?_
        refine lv_iload hx hb dX2_foldRow_21 (lv_at hl 0 rfl) ?_
        refine lv_bipush (v := nI 8) hx hb dX2_foldRow_23 (by decide) ?_
        refine lv_iadd hx hb dX2_foldRow_25 (top_i (nI_add _ _) ?_)
        refine lv_iload_n hx hb dX2_foldRow_26 rfl (lv_at hl 3 rfl) ?_
        refine cf_1 (wr := [(x, .inr (2, [.ref qc, .ref qg, .ref qa, .ref qt, .ref qm, .int (nI ph), .int (zI og), .long nh, .int nr, .int (nI na), .int (nI nt), .int mb, .long t1, .long t2])), (qg, .inr (1, [.long ((fgN b cn fh fw (yh, yl) k).1), .long ((fgN b cn fh fw (yh, yl) k).2)]))]) (va_runS (As := [.ref r, .int (nI ((16 * k) + 8)), .int (nI cn)]) (rest := [.long (lN (jbN b (16 * k) cn 8)), .ref qg]) ⟨hx, hb, hml, hown, hta⟩ (MO.to (c_joinBytes l dC dI r kr nn b ((16 * k) + 8) cn b256 hnn hcn (by omega)) H.size) (va_cwS 3 hta (aw_S mw_168 mw_410 mw_167 mw_1) rfl rfl rfl dyX2_joinBytes ⟨(Nat.le_of_ble_eq_true rfl), (Nat.le_of_ble_eq_true rfl)⟩) (pr_S hP hD hK hE [2] [0] (by decide) rfl rfl) rfl rfl hl.1 rfl (lv_room (Nat.le_of_ble_eq_true rfl)) dX2_foldRow_27 ⟨(Nat.le_of_ble_eq_true rfl), (Nat.le_of_ble_eq_true rfl)⟩) hP hD hS hA [2] [0, 1] rfl rfl (by decide) (by decide) (fun H locs hP hD hS => ?_)
        have hP : va_P (dC, dI) vwCl [(x, .inr (2, [.ref qc, .ref qg, .ref qa, .ref qt, .ref qm, .int (nI ph), .int (zI og), .long nh, .int nr, .int (nI na), .int (nI nt), .int mb, .long t1, .long t2])), (qg, .inr (1, [.long ((fgN b cn fh fw (yh, yl) k).1), .long ((fgN b cn fh fw (yh, yl) k).2)])), (r, .inl (kr, nn, .inl (nF b)))] H := hP
        have hD : va_D A [(x, .inr (2, [.ref qc, .ref qg, .ref qa, .ref qt, .ref qm, .int (nI ph), .int (zI og), .long nh, .int nr, .int (nI na), .int (nI nt), .int mb, .long t1, .long t2])), (qg, .inr (1, [.long ((fgN b cn fh fw (yh, yl) k).1), .long ((fgN b cn fh fw (yh, yl) k).2)])), (r, .inl (kr, nn, .inl (nF b)))] := hD
        refine W.widen (k := 0) (n := 0) (Nat.le_of_ble_eq_true rfl) (Nat.le_of_ble_eq_true rfl) ?_
        refine w_pc (pc2 := 30) rfl ?_
        refine cf_0 (wr := [(x, .inr (2, [.ref qc, .ref qg, .ref qa, .ref qt, .ref qm, .int (nI ph), .int (zI og), .long nh, .int nr, .int (nI na), .int (nI nt), .int mb, .long t1, .long t2])), (r, .inl (kr, nn, .inl (nF b)))]) (va_runV (As := [.long (lN (jbN b (16 * k) cn 8)), .long (lN (jbN b ((16 * k) + 8) cn 8))]) (rest := []) ⟨hx, hb, hml, hown, hta⟩ (MO.to (c_add l dC dI qg ((fgN b cn fh fw (yh, yl) k).1) ((fgN b cn fh fw (yh, yl) k).2) (lN (jbN b (16 * k) cn 8)) (lN (jbN b ((16 * k) + 8) cn 8))) H.size) (cwV 2 hta (aw_V mw_414 mw_411 mw_412 mw_413 mw_4) rfl rfl rfl ⟨rfl, dyX1_add⟩ ⟨(Nat.le_of_ble_eq_true rfl), (Nat.le_of_ble_eq_true rfl)⟩) (pr_V hP hD hK hE [1] [] (by decide) rfl rfl rfl rfl) rfl rfl hl.1 rfl (lv_room (Nat.le_of_ble_eq_true rfl)) dX2_foldRow_30 ⟨(Nat.le_of_ble_eq_true rfl), (Nat.le_of_ble_eq_true rfl)⟩) hP hD hS hA [1] [0, 2] rfl rfl (by decide) (by decide) (fun H locs hP hD hS => ?_)
        have hP : va_P (dC, dI) vwCl [(x, .inr (2, [.ref qc, .ref qg, .ref qa, .ref qt, .ref qm, .int (nI ph), .int (zI og), .long nh, .int nr, .int (nI na), .int (nI nt), .int mb, .long t1, .long t2])), (r, .inl (kr, nn, .inl (nF b))), (qg, .inr (1, [.long (((fgN b cn fh fw (yh, yl) k).1) ^^^ (lN (jbN b (16 * k) cn 8))), .long (((fgN b cn fh fw (yh, yl) k).2) ^^^ (lN (jbN b ((16 * k) + 8) cn 8)))]))] H := hP
        have hD : va_D A [(x, .inr (2, [.ref qc, .ref qg, .ref qa, .ref qt, .ref qm, .int (nI ph), .int (zI og), .long nh, .int nr, .int (nI na), .int (nI nt), .int mb, .long t1, .long t2])), (r, .inl (kr, nn, .inl (nF b))), (qg, .inr (1, [.long (((fgN b cn fh fw (yh, yl) k).1) ^^^ (lN (jbN b (16 * k) cn 8))), .long (((fgN b cn fh fw (yh, yl) k).2) ^^^ (lN (jbN b ((16 * k) + 8) cn 8)))]))] := hD
        refine W.widen (k := 0) (n := 0) (Nat.le_of_ble_eq_true rfl) (Nat.le_of_ble_eq_true rfl) ?_
        refine w_pc (pc2 := 33) rfl ?_
        refine lv_aload_n hx hb dX2_foldRow_33 rfl (lv_at hl 1 rfl) ?_
        refine va_get (D := (dC, dI)) (ci := 2) (v := .ref qg) (C := RX2) (T := TX2) (N := 14) hx hb hta inX2 hown hK hP 0 rfl rfl 1 (by decide) (hta _ mw_81) (fun _ h9 => h9) rfl dX2_foldRow_34 ?_
        refine lv_lload_n hx hb dX2_foldRow_37 rfl (lv_at hl 4 rfl) ?_
        refine lv_lload hx hb dX2_foldRow_38 (lv_at hl 5 rfl) ?_
        refine cf_0 (wr := [(x, .inr (2, [.ref qc, .ref qg, .ref qa, .ref qt, .ref qm, .int (nI ph), .int (zI og), .long nh, .int nr, .int (nI na), .int (nI nt), .int mb, .long t1, .long t2])), (r, .inl (kr, nn, .inl (nF b)))]) (va_runV (As := [.long fh, .long fw]) (rest := []) ⟨hx, hb, hml, hown, hta⟩ (MO.to (c_multiply l dC dI qg (((fgN b cn fh fw (yh, yl) k).1) ^^^ (lN (jbN b (16 * k) cn 8))) (((fgN b cn fh fw (yh, yl) k).2) ^^^ (lN (jbN b ((16 * k) + 8) cn 8))) fh fw) H.size) (cwV 2 hta (aw_V mw_200 mw_197 mw_198 mw_199 mw_4) rfl rfl rfl ⟨rfl, dyX1_multiply⟩ ⟨(Nat.le_of_ble_eq_true rfl), (Nat.le_of_ble_eq_true rfl)⟩) (pr_V hP hD hK hE [2] [] (by decide) rfl rfl rfl rfl) rfl rfl hl.1 rfl (lv_room (Nat.le_of_ble_eq_true rfl)) dX2_foldRow_40 ⟨(Nat.le_of_ble_eq_true rfl), (Nat.le_of_ble_eq_true rfl)⟩) hP hD hS hA [2] [0, 1] rfl rfl (by decide) (by decide) (fun H locs hP hD hS => ?_)
        have hP : va_P (dC, dI) vwCl [(x, .inr (2, [.ref qc, .ref qg, .ref qa, .ref qt, .ref qm, .int (nI ph), .int (zI og), .long nh, .int nr, .int (nI na), .int (nI nt), .int mb, .long t1, .long t2])), (r, .inl (kr, nn, .inl (nF b))), (qg, .inr (1, [.long ((gst (((fgN b cn fh fw (yh, yl) k).1) ^^^ (lN (jbN b (16 * k) cn 8))) (((fgN b cn fh fw (yh, yl) k).2) ^^^ (lN (jbN b ((16 * k) + 8) cn 8))) fh fw 128).1), .long ((gst (((fgN b cn fh fw (yh, yl) k).1) ^^^ (lN (jbN b (16 * k) cn 8))) (((fgN b cn fh fw (yh, yl) k).2) ^^^ (lN (jbN b ((16 * k) + 8) cn 8))) fh fw 128).2.1)]))] H := hP
        have hD : va_D A [(x, .inr (2, [.ref qc, .ref qg, .ref qa, .ref qt, .ref qm, .int (nI ph), .int (zI og), .long nh, .int nr, .int (nI na), .int (nI nt), .int mb, .long t1, .long t2])), (r, .inl (kr, nn, .inl (nF b))), (qg, .inr (1, [.long ((gst (((fgN b cn fh fw (yh, yl) k).1) ^^^ (lN (jbN b (16 * k) cn 8))) (((fgN b cn fh fw (yh, yl) k).2) ^^^ (lN (jbN b ((16 * k) + 8) cn 8))) fh fw 128).1), .long ((gst (((fgN b cn fh fw (yh, yl) k).1) ^^^ (lN (jbN b (16 * k) cn 8))) (((fgN b cn fh fw (yh, yl) k).2) ^^^ (lN (jbN b ((16 * k) + 8) cn 8))) fh fw 128).2.1)]))] := hD
        refine W.widen (k := 0) (n := 0) (Nat.le_of_ble_eq_true rfl) (Nat.le_of_ble_eq_true rfl) ?_
        refine w_pc (pc2 := 43) rfl ?_
        refine lv_iinc (v := nI (16 * (k + 1))) (k := 0) hx hb dX2_foldRow_43 hl rfl ((ix_inc _ 16).trans (congrArg nI (by omega))) (by decide) rfl (fun ls hl => ?_)
        have hl : lv_has ls 8 [(7, .int (nI (16 * (k + 1)))), (0, .ref x), (1, .ref r), (2, .int (nI cn)), (3, .long fh), (5, .long fw)] := hl
        refine lv_goto (tgt := 3) hx hb dX2_foldRow_46 (by decide) ?_
        exact ih (k + 1) ls H locs (by omega)  (lv_sub hl [0, 1, 2, 3, 4, 5] rfl) (hP.sub [0, 2, 1] rfl) (hD.sub [0, 2, 1] (by decide) rfl) hS
  exact loop_3 ((cn + 15) / 16) 0 ls H locs (by omega)  (lv_sub hl [0, 1, 2, 3, 4, 5] rfl) hP hD hS

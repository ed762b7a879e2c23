def rm_m_fold_t : Room := { frames := 1, cells := 0, slots := 0, locals := 36 }
set_option maxHeartbeats 4000000 in
set_option maxRecDepth 100000 in
/-- fold, what goes along -/
theorem m_fold_t (l : Launch) (dC : Nat → ClassId) (dI : Nat → Nat → Nat) (o : Nat) (th : Int32) (ph : Nat) (og : Bool) (qx : Nat) (qk : Nat) (qw : Nat) (qb : Nat) (qn : Nat) (mh : Int64) (ml : Int64) (nc : Int64) (rs : Int32) (na : Nat) (qd : Nat) (nz : Nat) (qg : Nat) (t1 : Int64) (t2 : Int64) (kd : ClassId) (bd : Nat → Nat) (fr : Nat) (fh : Int64) (fw : Int64) (d256 : ∀ i, bd i < 256) (hfr : fr + 16 ≤ 112) (hfm : fr < na) (hm9 : na ≤ 48) : MO l dC dI yX3_fold wsX3_fold rm_m_fold_t [.ref o, .int (nI 1), .int (nI fr), .long fh, .long fw] [(o, .inr (3, [.int th, .int (nI ph), .int (zI og), .ref qx, .ref qk, .ref qw, .ref qb, .ref qn, .long mh, .long ml, .long nc, .int rs, .int (nI na), .ref qd, .int (nI nz), .ref qg, .long t1, .long t2])), (qd, .inl (kd, 48, .inl (nF bd)))] [(kd, .int)] [(o, .inr (3, [.int th, .int (nI ph), .int (zI og), .ref qx, .ref qk, .ref qw, .ref qb, .ref qn, .long ((gmN (t1 ^^^ lN (jbN bd fr na 8)) (t2 ^^^ lN (jbN bd (fr + 8) na 8)) fh fw).1), .long ((gmN (t1 ^^^ lN (jbN bd fr na 8)) (t2 ^^^ lN (jbN bd (fr + 8) na 8)) fh fw).2), .long nc, .int rs, .int (nI na), .ref qd, .int (nI nz), .ref qg, .long ((gmN (t1 ^^^ lN (jbN bd fr na 8)) (t2 ^^^ lN (jbN bd (fr + 8) na 8)) fh fw).1), .long ((gmN (t1 ^^^ lN (jbN bd fr na 8)) (t2 ^^^ lN (jbN bd (fr + 8) na 8)) fh fw).2)])), (qd, .inl (kd, 48, .inl (nF bd)))] none := by
  refine mo_ofW (cc := cX3_fold) (maxL := 14) (ret := none) (by decide) rfl (Nat.le_of_ble_eq_true rfl) ?_
  intro p e s m args below meth c Q A H locs ls hx hb hr hlk hml hta hown hin hE hQ hAe hA hK hP hD hS hl
  have hown : s.vm.findClass RX3 = some m.cls := hown
  have hl : lv_has ls 14 [(0, .ref o), (1, .int (nI 1)), (2, .int (nI fr)), (3, .long fh), (5, .long fw)] := hl
  refine lv_lconst (v := lN 0) hx hb dX3_fold_0 (by decide) ?_
  refine lv_lstore hx hb dX3_fold_1 hl (by decide) rfl (fun ls hl => ?_)
  have hl : lv_has ls 14 [(7, .long (lN 0)), (0, .ref o), (1, .int (nI 1)), (2, .int (nI fr)), (3, .long fh), (5, .long fw)] := hl
  refine lv_lconst (v := lN 0) hx hb dX3_fold_3 (by decide) ?_
  refine lv_lstore hx hb dX3_fold_4 hl (by decide) rfl (fun ls hl => ?_)
  have hl : lv_has ls 14 [(9, .long (lN 0)), (7, .long (lN 0)), (0, .ref o), (1, .int (nI 1)), (2, .int (nI fr)), (3, .long fh), (5, .long fw)] := hl
  refine lv_iload_n hx hb dX3_fold_6 rfl (lv_at hl 3 rfl) ?_
  refine lv_if_eq (tgt := 17) hx hb dX3_fold_7 (by decide) (fun hc_7 => ?_) (fun hc_7 => ?_)
  · skip
    have hc_7 := (ix_eq (a := 1) (b := 0) (by omega) (by omega)).mp hc_7
    have hc_7 : (1 = 0) := hc_7
    exfalso; omega
  · skip
    have hc_7 := (not_congr (ix_eq (a := 1) (b := 0) (by omega) (by omega))).mp hc_7
    have hc_7 : ¬ (1 = 0) := hc_7
    refine lv_aload_n hx hb dX3_fold_10 rfl (lv_at hl 2 rfl) ?_
    refine va_get (D := (dC, dI)) (ci := 3) (v := .int (nI na)) (C := RX3) (T := TX3) (N := 18) hx hb hta inX3 hown hK hP 0 rfl rfl 12 (by decide) (hta _ mw_469) (fun _ h9 => h9) rfl dX3_fold_11 ?_
    refine lv_goto (tgt := 21) hx hb dX3_fold_14 (by decide) ?_
    refine lv_istore hx hb dX3_fold_21 hl (by decide) rfl (fun ls hl => ?_)
    have hl : lv_has ls 14 [(11, .int (nI na)), (9, .long (lN 0)), (7, .long (lN 0)), (0, .ref o), (1, .int (nI 1)), (2, .int (nI fr)), (3, .long fh), (5, .long fw)] := hl
    refine lv_iconst (v := nI 0) hx hb dX3_fold_23 (by decide) ?_
    refine lv_istore hx hb dX3_fold_24 hl (by decide) rfl (fun ls hl => ?_)
    have hl : lv_has ls 14 [(12, .int (nI 0)), (11, .int (nI na)), (9, .long (lN 0)), (7, .long (lN 0)), (0, .ref o), (1, .int (nI 1)), (2, .int (nI fr)), (3, .long fh), (5, .long fw)] := hl
    have loop_26 : ∀ (n k : Nat) (ls : Array Slot) (H : Heap) (locs : List Loc), k + n = 16 → lv_has ls 14 [(7, .long (lN (jbN bd fr na (mn8 k)))), (9, .long (lN (jbN bd (fr + 8) na (k - 8)))), (12, .int (nI k)), (11, .int (nI na)), (0, .ref o), (1, .int (nI 1)), (2, .int (nI fr)), (3, .long fh), (5, .long fw)] → va_P (dC, dI) vwCl [(o, .inr (3, [.int th, .int (nI ph), .int (zI og), .ref qx, .ref qk, .ref qw, .ref qb, .ref qn, .long mh, .long ml, .long nc, .int rs, .int (nI na), .ref qd, .int (nI nz), .ref qg, .long t1, .long t2])), (qd, .inl (kd, 48, .inl (nF bd)))] H → va_D A [(o, .inr (3, [.int th, .int (nI ph), .int (zI og), .ref qx, .ref qk, .ref qw, .ref qb, .ref qn, .long mh, .long ml, .long nc, .int rs, .int (nI na), .ref qd, .int (nI nz), .ref qg, .long t1, .long t2])), (qd, .inl (kd, 48, .inl (nF bd)))] → va_S A s.heap H locs → W p l e rm_m_fold_t s m args below meth c H locs 0 0 Q (F0 m 26 ls []) := by
      intro n
      induction n with
      | zero =>
        intro k ls H locs hn_26  hl hP hD hS
        obtain rfl : 16 = k := by omega
        refine lv_iload hx hb dX3_fold_26 (lv_at hl 2 rfl) ?_
        refine lv_bipush (v := nI 16) hx hb dX3_fold_28 (by decide) ?_
        refine lv_icmp_ge (tgt := 124) hx hb dX3_fold_30 (by decide) (fun hc_30 => ?_) (fun hc_30 => ?_)
        · skip
          have hc_30 := (ix_le (a := 16) (b := 16) (by omega) (by omega)).mp hc_30
          have hc_30 : (16 ≤ 16) := hc_30
          refine lv_aload_n hx hb dX3_fold_124 rfl (lv_at hl 4 rfl) ?_
          refine lv_aload_n hx hb dX3_fold_125 rfl (lv_at hl 4 rfl) ?_
          refine va_get (D := (dC, dI)) (ci := 3) (v := .long t1) (C := RX3) (T := TX3) (N := 18) hx hb hta inX3 hown hK hP 0 rfl rfl 16 (by decide) (hta _ mw_473) (fun _ h9 => h9) rfl dX3_fold_126 ?_
          refine lv_lload hx hb dX3_fold_129 (lv_at hl 0 rfl) ?_
          refine lv_lxor hx hb dX3_fold_131 ?_
          refine va_put (D := (dC, dI)) (ci := 3) (v := .long (t1 ^^^ (lN (jbN bd fr na (mn8 16))))) (ty := .long) (C := RX3) (T := TX3) (N := 18) hx hb hta inX3 tyX3 tyX3_ok nmX3 hown hK hP hD hS 0 rfl rfl 8 (by decide) (hta _ mw_465) (fun _ h9 => h9) rfl (by decide +kernel) rfl rfl (Nat.le_of_ble_eq_true rfl) dX3_fold_132 (fun H locs hP hD hS => ?_)
          have hP : va_P (dC, dI) vwCl [(o, .inr (3, [.int th, .int (nI ph), .int (zI og), .ref qx, .ref qk, .ref qw, .ref qb, .ref qn, .long (t1 ^^^ (lN (jbN bd fr na (mn8 16)))), .long ml, .long nc, .int rs, .int (nI na), .ref qd, .int (nI nz), .ref qg, .long t1, .long t2])), (qd, .inl (kd, 48, .inl (nF bd)))] H := hP
          have hD : va_D A [(o, .inr (3, [.int th, .int (nI ph), .int (zI og), .ref qx, .ref qk, .ref qw, .ref qb, .ref qn, .long (t1 ^^^ (lN (jbN bd fr na (mn8 16)))), .long ml, .long nc, .int rs, .int (nI na), .ref qd, .int (nI nz), .ref qg, .long t1, .long t2])), (qd, .inl (kd, 48, .inl (nF bd)))] := hD
          refine lv_aload_n hx hb dX3_fold_135 rfl (lv_at hl 4 rfl) ?_
          refine lv_aload_n hx hb dX3_fold_136 rfl (lv_at hl 4 rfl) ?_
          refine va_get (D := (dC, dI)) (ci := 3) (v := .long t2) (C := RX3) (T := TX3) (N := 18) hx hb hta inX3 hown hK hP 0 rfl rfl 17 (by decide) (hta _ mw_474) (fun _ h9 => h9) rfl dX3_fold_137 ?_
          refine lv_lload hx hb dX3_fold_140 (lv_at hl 1 rfl) ?_
          refine lv_lxor hx hb dX3_fold_142 ?_
          refine w_pc (pc2 := 143) rfl ?_
          refine va_put (D := (dC, dI)) (ci := 3) (v := .long (t2 ^^^ (lN (jbN bd (fr + 8) na (16 - 8))))) (ty := .long) (C := RX3) (T := TX3) (N := 18) hx hb hta inX3 tyX3 tyX3_ok nmX3 hown hK hP hD hS 0 rfl rfl 9 (by decide) (hta _ mw_466) (fun _ h9 => h9) rfl (by decide +kernel) rfl rfl (Nat.le_of_ble_eq_true rfl) dX3_fold_143 (fun H locs hP hD hS => ?_)
          have hP : va_P (dC, dI) vwCl [(o, .inr (3, [.int th, .int (nI ph), .int (zI og), .ref qx, .ref qk, .ref qw, .ref qb, .ref qn, .long (t1 ^^^ (lN (jbN bd fr na (mn8 16)))), .long (t2 ^^^ (lN (jbN bd (fr + 8) na (16 - 8)))), .long nc, .int rs, .int (nI na), .ref qd, .int (nI nz), .ref qg, .long t1, .long t2])), (qd, .inl (kd, 48, .inl (nF bd)))] H := hP
          have hD : va_D A [(o, .inr (3, [.int th, .int (nI ph), .int (zI og), .ref qx, .ref qk, .ref qw, .ref qb, .ref qn, .long (t1 ^^^ (lN (jbN bd fr na (mn8 16)))), .long (t2 ^^^ (lN (jbN bd (fr + 8) na (16 - 8)))), .long nc, .int rs, .int (nI na), .ref qd, .int (nI nz), .ref qg, .long t1, .long t2])), (qd, .inl (kd, 48, .inl (nF bd)))] := hD
          refine lv_aload_n hx hb dX3_fold_146 rfl (lv_at hl 4 rfl) ?_
          refine lv_lload_n hx hb dX3_fold_147 rfl (lv_at hl 7 rfl) ?_
          refine lv_lload hx hb dX3_fold_148 (lv_at hl 8 rfl) ?_
          refine cf_0 (wr := [(qd, .inl (kd, 48, .inl (nF bd)))]) (va_runV (As := [.long fh, .long fw]) (rest := []) ⟨hx, hb, hml, hown, hta⟩ (MO.to (m_multiply l dC dI o th ph og qx qk qw qb qn (t1 ^^^ (lN (jbN bd fr na (mn8 16)))) (t2 ^^^ (lN (jbN bd (fr + 8) na (16 - 8)))) nc rs na qd nz qg t1 t2 fh fw) H.size) (cwV 2 hta (aw_V mw_568 mw_565 mw_567 mw_s28 mw_5) rfl rfl rfl ⟨rfl, dyX3_multiply⟩ ⟨(Nat.le_of_ble_eq_true rfl), (Nat.le_of_ble_eq_true rfl)⟩) (pr_V hP hD hK hE [0] [] (by decide) rfl rfl rfl rfl) rfl rfl hl.1 rfl (lv_room (Nat.le_of_ble_eq_true rfl)) dX3_fold_150 ⟨(Nat.le_of_ble_eq_true rfl), (Nat.le_of_ble_eq_true rfl)⟩) hP hD hS hA [0] [1] rfl rfl (by decide) (by decide) (fun H locs hP hD hS => ?_)
          have hP : va_P (dC, dI) vwCl [(qd, .inl (kd, 48, .inl (nF bd))), (o, .inr (3, [.int th, .int (nI ph), .int (zI og), .ref qx, .ref qk, .ref qw, .ref qb, .ref qn, .long ((gst (t1 ^^^ (lN (jbN bd fr na (mn8 16)))) (t2 ^^^ (lN (jbN bd (fr + 8) na (16 - 8)))) fh fw 128).1), .long ((gst (t1 ^^^ (lN (jbN bd fr na (mn8 16)))) (t2 ^^^ (lN (jbN bd (fr + 8) na (16 - 8)))) fh fw 128).2.1), .long nc, .int rs, .int (nI na), .ref qd, .int (nI nz), .ref qg, .long t1, .long t2]))] H := hP
          have hD : va_D A [(qd, .inl (kd, 48, .inl (nF bd))), (o, .inr (3, [.int th, .int (nI ph), .int (zI og), .ref qx, .ref qk, .ref qw, .ref qb, .ref qn, .long ((gst (t1 ^^^ (lN (jbN bd fr na (mn8 16)))) (t2 ^^^ (lN (jbN bd (fr + 8) na (16 - 8)))) fh fw 128).1), .long ((gst (t1 ^^^ (lN (jbN bd fr na (mn8 16)))) (t2 ^^^ (lN (jbN bd (fr + 8) na (16 - 8)))) fh fw 128).2.1), .long nc, .int rs, .int (nI na), .ref qd, .int (nI nz), .ref qg, .long t1, .long t2]))] := hD
          refine W.widen (k := 0) (n := 0) (Nat.le_of_ble_eq_true rfl) (Nat.le_of_ble_eq_true rfl) ?_
          refine w_pc (pc2 := 153) rfl ?_
          refine lv_aload_n hx hb dX3_fold_153 rfl (lv_at hl 4 rfl) ?_
          refine lv_aload_n hx hb dX3_fold_154 rfl (lv_at hl 4 rfl) ?_
          refine va_get (D := (dC, dI)) (ci := 3) (v := .long ((gst (t1 ^^^ (lN (jbN bd fr na (mn8 16)))) (t2 ^^^ (lN (jbN bd (fr + 8) na (16 - 8)))) fh fw 128).1)) (C := RX3) (T := TX3) (N := 18) hx hb hta inX3 hown hK hP 1 rfl rfl 8 (by decide) (hta _ mw_465) (fun _ h9 => h9) rfl dX3_fold_155 ?_
          refine va_put (D := (dC, dI)) (ci := 3) (v := .long ((gst (t1 ^^^ (lN (jbN bd fr na (mn8 16)))) (t2 ^^^ (lN (jbN bd (fr + 8) na (16 - 8)))) fh fw 128).1)) (ty := .long) (C := RX3) (T := TX3) (N := 18) hx hb hta inX3 tyX3 tyX3_ok nmX3 hown hK hP hD hS 1 rfl rfl 16 (by decide) (hta _ mw_473) (fun _ h9 => h9) rfl (by decide +kernel) rfl rfl (Nat.le_of_ble_eq_true rfl) dX3_fold_158 (fun H locs hP hD hS => ?_)
          have hP : va_P (dC, dI) vwCl [(qd, .inl (kd, 48, .inl (nF bd))), (o, .inr (3, [.int th, .int (nI ph), .int (zI og), .ref qx, .ref qk, .ref qw, .ref qb, .ref qn, .long ((gst (t1 ^^^ (lN (jbN bd fr na (mn8 16)))) (t2 ^^^ (lN (jbN bd (fr + 8) na (16 - 8)))) fh fw 128).1), .long ((gst (t1 ^^^ (lN (jbN bd fr na (mn8 16)))) (t2 ^^^ (lN (jbN bd (fr + 8) na (16 - 8)))) fh fw 128).2.1), .long nc, .int rs, .int (nI na), .ref qd, .int (nI nz), .ref qg, .long ((gst (t1 ^^^ (lN (jbN bd fr na (mn8 16)))) (t2 ^^^ (lN (jbN bd (fr + 8) na (16 - 8)))) fh fw 128).1), .long t2]))] H := hP
          have hD : va_D A [(qd, .inl (kd, 48, .inl (nF bd))), (o, .inr (3, [.int th, .int (nI ph), .int (zI og), .ref qx, .ref qk, .ref qw, .ref qb, .ref qn, .long ((gst (t1 ^^^ (lN (jbN bd fr na (mn8 16)))) (t2 ^^^ (lN (jbN bd (fr + 8) na (16 - 8)))) fh fw 128).1), .long ((gst (t1 ^^^ (lN (jbN bd fr na (mn8 16)))) (t2 ^^^ (lN (jbN bd (fr + 8) na (16 - 8)))) fh fw 128).2.1), .long nc, .int rs, .int (nI na), .ref qd, .int (nI nz), .ref qg, .long ((gst (t1 ^^^ (lN (jbN bd fr na (mn8 16)))) (t2 ^^^ (lN (jbN bd (fr + 8) na (16 - 8)))) fh fw 128).1), .long t2]))] := hD
          refine lv_aload_n hx hb dX3_fold_161 rfl (lv_at hl 4 rfl) ?_
          refine lv_aload_n hx hb dX3_fold_162 rfl (lv_at hl 4 rfl) ?_
          refine va_get (D := (dC, dI)) (ci := 3) (v := .long ((gst (t1 ^^^ (lN (jbN bd fr na (mn8 16)))) (t2 ^^^ (lN (jbN bd (fr + 8) na (16 - 8)))) fh fw 128).2.1)) (C := RX3) (T := TX3) (N := 18) hx hb hta inX3 hown hK hP 1 rfl rfl 9 (by decide) (hta _ mw_466) (fun _ h9 => h9) rfl dX3_fold_163 ?_
          refine va_put (D := (dC, dI)) (ci := 3) (v := .long ((gst (t1 ^^^ (lN (jbN bd fr na (mn8 16)))) (t2 ^^^ (lN (jbN bd (fr + 8) na (16 - 8)))) fh fw 128).2.1)) (ty := .long) (C := RX3) (T := TX3) (N := 18) hx hb hta inX3 tyX3 tyX3_ok nmX3 hown hK hP hD hS 1 rfl rfl 17 (by decide) (hta _ mw_474) (fun _ h9 => h9) rfl (by decide +kernel) rfl rfl (Nat.le_of_ble_eq_true rfl) dX3_fold_166 (fun H locs hP hD hS => ?_)
          have hP : va_P (dC, dI) vwCl [(qd, .inl (kd, 48, .inl (nF bd))), (o, .inr (3, [.int th, .int (nI ph), .int (zI og), .ref qx, .ref qk, .ref qw, .ref qb, .ref qn, .long ((gst (t1 ^^^ (lN (jbN bd fr na (mn8 16)))) (t2 ^^^ (lN (jbN bd (fr + 8) na (16 - 8)))) fh fw 128).1), .long ((gst (t1 ^^^ (lN (jbN bd fr na (mn8 16)))) (t2 ^^^ (lN (jbN bd (fr + 8) na (16 - 8)))) fh fw 128).2.1), .long nc, .int rs, .int (nI na), .ref qd, .int (nI nz), .ref qg, .long ((gst (t1 ^^^ (lN (jbN bd fr na (mn8 16)))) (t2 ^^^ (lN (jbN bd (fr + 8) na (16 - 8)))) fh fw 128).1), .long ((gst (t1 ^^^ (lN (jbN bd fr na (mn8 16)))) (t2 ^^^ (lN (jbN bd (fr + 8) na (16 - 8)))) fh fw 128).2.1)]))] H := hP
          have hD : va_D A [(qd, .inl (kd, 48, .inl (nF bd))), (o, .inr (3, [.int th, .int (nI ph), .int (zI og), .ref qx, .ref qk, .ref qw, .ref qb, .ref qn, .long ((gst (t1 ^^^ (lN (jbN bd fr na (mn8 16)))) (t2 ^^^ (lN (jbN bd (fr + 8) na (16 - 8)))) fh fw 128).1), .long ((gst (t1 ^^^ (lN (jbN bd fr na (mn8 16)))) (t2 ^^^ (lN (jbN bd (fr + 8) na (16 - 8)))) fh fw 128).2.1), .long nc, .int rs, .int (nI na), .ref qd, .int (nI nz), .ref qg, .long ((gst (t1 ^^^ (lN (jbN bd fr na (mn8 16)))) (t2 ^^^ (lN (jbN bd (fr + 8) na (16 - 8)))) fh fw 128).1), .long ((gst (t1 ^^^ (lN (jbN bd fr na (mn8 16)))) (t2 ^^^ (lN (jbN bd (fr + 8) na (16 - 8)))) fh fw 128).2.1)]))] := hD
          exact rt_0 hx hb hr hlk hQ hAe hP hD hS [1, 0] (by decide) rfl (Nat.le_of_ble_eq_true rfl) (Nat.le_of_ble_eq_true rfl) dX3_fold_169
        · skip
          have hc_30 := (not_congr (ix_le (a := 16) (b := 16) (by omega) (by omega))).mp hc_30
          have hc_30 : ¬ (16 ≤ 16) := hc_30
          exfalso; omega
      | succ n ih =>
        intro k ls H locs hn_26  hl hP hD hS
        refine lv_iload hx hb dX3_fold_26 (lv_at hl 2 rfl) ?_
        refine lv_bipush (v := nI 16) hx hb dX3_fold_28 (by decide) ?_
        refine lv_icmp_ge (tgt := 124) hx hb dX3_fold_30 (by decide) (fun hc_30 => ?_) (fun hc_30 => ?_)
        · skip
          have hc_30 := (ix_le (a := 16) (b := k) (by omega) (by omega)).mp hc_30
          have hc_30 : (16 ≤ k) := hc_30
          exfalso; omega
        · skip
          have hc_30 := (not_congr (ix_le (a := 16) (b := k) (by omega) (by omega))).mp hc_30
          have hc_30 : ¬ (16 ≤ k) := hc_30
          refine lv_iload_n hx hb dX3_fold_33 rfl (lv_at hl 6 rfl) ?_
          refine lv_iload hx hb dX3_fold_34 (lv_at hl 2 rfl) ?_
          refine lv_iadd hx hb dX3_fold_36 (top_i (nI_add _ _) ?_)
          refine lv_iload hx hb dX3_fold_37 (lv_at hl 3 rfl) ?_
          refine lv_icmp_lt (tgt := 46) hx hb dX3_fold_39 (by decide) (fun hc_39 => ?_) (fun hc_39 => ?_)
          · skip
            have hc_39 := (ix_lt (a := fr + k) (b := na) (by omega) (by omega)).mp hc_39
            have hc_39 : ((fr + k) < na) := hc_39
            refine lv_iload_n hx hb dX3_fold_46 rfl (lv_at hl 5 rfl) ?_
            refine lv_if_eq (tgt := 62) hx hb dX3_fold_47 (by decide) (fun hc_47 => ?_) (fun hc_47 => ?_)
            · skip
              have hc_47 := (ix_eq (a := 1) (b := 0) (by omega) (by omega)).mp hc_47
              have hc_47 : (1 = 0) := hc_47
              exfalso; omega
            · skip
              have hc_47 := (not_congr (ix_eq (a := 1) (b := 0) (by omega) (by omega))).mp hc_47
              have hc_47 : ¬ (1 = 0) := hc_47
              refine lv_aload_n hx hb dX3_fold_50 rfl (lv_at hl 4 rfl) ?_
              refine va_get (D := (dC, dI)) (ci := 3) (v := .ref qd) (C := RX3) (T := TX3) (N := 18) hx hb hta inX3 hown hK hP 0 rfl rfl 13 (by decide) (hta _ mw_470) (fun _ h9 => h9) rfl dX3_fold_51 ?_
              refine lv_iload_n hx hb dX3_fold_54 rfl (lv_at hl 6 rfl) ?_
              refine lv_iload hx hb dX3_fold_55 (lv_at hl 2 rfl) ?_
              refine lv_iadd hx hb dX3_fold_57 (top_i (nI_add _ _) ?_)
              refine va_ialb hx hb hK hP 1 0 rfl rfl (by omega) (by decide) dX3_fold_58 ?_
              refine lv_goto (tgt := 70) hx hb dX3_fold_59 (by decide) ?_
              refine lv_istore hx hb dX3_fold_70 hl (by decide) rfl (fun ls hl => ?_)
              have hl : lv_has ls 14 [(13, .int (nI (bd (fr + k)))), (7, .long (lN (jbN bd fr na (mn8 k)))), (9, .long (lN (jbN bd (fr + 8) na (k - 8)))), (12, .int (nI k)), (11, .int (nI na)), (0, .ref o), (1, .int (nI 1)), (2, .int (nI fr)), (3, .long fh), (5, .long fw)] := hl
              refine lv_iload hx hb dX3_fold_72 (lv_at hl 3 rfl) ?_
              refine lv_bipush (v := nI 8) hx hb dX3_fold_74 (by decide) ?_
              refine lv_icmp_ge (tgt := 91) hx hb dX3_fold_76 (by decide) (fun hc_76 => ?_) (fun hc_76 => ?_)
              · skip
                have hc_76 := (ix_le (a := 8) (b := k) (by omega) (by omega)).mp hc_76
                have hc_76 : (8 ≤ k) := hc_76
                refine lv_lload hx hb dX3_fold_91 (lv_at hl 1 rfl) ?_
                refine lv_lstore hx hb dX3_fold_93 hl (by decide) rfl (fun ls hl => ?_)
                have hl : lv_has ls 14 [(7, .long (lN (jbN bd fr na (mn8 k)))), (13, .int (nI (bd (fr + k)))), (9, .long (lN (jbN bd (fr + 8) na (k - 8)))), (12, .int (nI k)), (11, .int (nI na)), (0, .ref o), (1, .int (nI 1)), (2, .int (nI fr)), (3, .long fh), (5, .long fw)] := hl
                refine lv_iload hx hb dX3_fold_95 (lv_at hl 3 rfl) ?_
                refine lv_bipush (v := nI 8) hx hb dX3_fold_97 (by decide) ?_
                refine lv_icmp_ge (tgt := 107) hx hb dX3_fold_99 (by decide) (fun hc_99 => ?_) (fun hc_99 => ?_)
                · skip
                  have hc_99 := (ix_le (a := 8) (b := k) (by omega) (by omega)).mp hc_99
                  have hc_99 : (8 ≤ k) := hc_99
                  refine lv_lload hx hb dX3_fold_107 (lv_at hl 2 rfl) ?_
                  refine lv_bipush (v := nI 8) hx hb dX3_fold_109 (by decide) ?_
                  refine lv_lshl hx hb dX3_fold_111 rfl (top_l (wb_shl _ (by decide)) ?_)
                  refine lv_iload hx hb dX3_fold_112 (lv_at hl 1 rfl) ?_
                  refine lv_i2l hx hb dX3_fold_114 rfl (top_l (nI_l (by first | decide | exact Nat.lt_trans (d256 _) (by decide))) ?_)
                  refine lv_lor hx hb dX3_fold_115 (top_l (l_or _ _) ?_)
                  refine lv_lstore hx hb dX3_fold_116 hl (by decide) rfl (fun ls hl => ?_)
                  have hl : lv_has ls 14 [(9, .long (lN (((jbN bd (fr + 8) na (k - 8)) * 2 ^ 8) ||| (bd (fr + k))))), (7, .long (lN (jbN bd fr na (mn8 k)))), (13, .int (nI (bd (fr + k)))), (12, .int (nI k)), (11, .int (nI na)), (0, .ref o), (1, .int (nI 1)), (2, .int (nI fr)), (3, .long fh), (5, .long fw)] := hl
                  refine lv_iinc (v := nI (k + 1)) (k := 3) hx hb dX3_fold_118 hl rfl (ix_inc _ 1) (by decide) rfl (fun ls hl => ?_)
                  have hl : lv_has ls 14 [(12, .int (nI (k + 1))), (9, .long (lN (((jbN bd (fr + 8) na (k - 8)) * 2 ^ 8) ||| (bd (fr + k))))), (7, .long (lN (jbN bd fr na (mn8 k)))), (13, .int (nI (bd (fr + k)))), (11, .int (nI na)), (0, .ref o), (1, .int (nI 1)), (2, .int (nI fr)), (3, .long fh), (5, .long fw)] := hl
                  refine lv_goto (tgt := 26) hx hb dX3_fold_121 (by decide) ?_
                  have hl := lv_re hl 2 rfl (v2 := .long (lN (jbN bd fr na (mn8 (k + 1))))) (congrArg Value.long (congrArg lN (fo1n (by omega)))) rfl
                  have hl : lv_has ls 14 [(12, .int (nI (k + 1))), (9, .long (lN (((jbN bd (fr + 8) na (k - 8)) * 2 ^ 8) ||| (bd (fr + k))))), (7, .long (lN (jbN bd fr na (mn8 (k + 1))))), (13, .int (nI (bd (fr + k)))), (11, .int (nI na)), (0, .ref o), (1, .int (nI 1)), (2, .int (nI fr)), (3, .long fh), (5, .long fw)] := hl
                  have hl := lv_re hl 1 rfl (v2 := .long (lN (jbN bd (fr + 8) na ((k + 1) - 8)))) (congrArg Value.long (congrArg lN (fo2b (by omega) (by omega)))) rfl
                  have hl : lv_has ls 14 [(12, .int (nI (k + 1))), (9, .long (lN (jbN bd (fr + 8) na ((k + 1) - 8)))), (7, .long (lN (jbN bd fr na (mn8 (k + 1))))), (13, .int (nI (bd (fr + k)))), (11, .int (nI na)), (0, .ref o), (1, .int (nI 1)), (2, .int (nI fr)), (3, .long fh), (5, .long fw)] := hl
                  exact ih (k + 1) ls H locs (by omega)  (lv_sub hl [2, 1, 0, 4, 5, 6, 7, 8, 9] rfl) hP hD hS
                · skip
                  have hc_99 := (not_congr (ix_le (a := 8) (b := k) (by omega) (by omega))).mp hc_99
                  have hc_99 : ¬ (8 ≤ k) := hc_99
                  exfalso; omega
              · skip
                have hc_76 := (not_congr (ix_le (a := 8) (b := k) (by omega) (by omega))).mp hc_76
                have hc_76 : ¬ (8 ≤ k) := hc_76
                refine lv_lload hx hb dX3_fold_79 (lv_at hl 1 rfl) ?_
                refine lv_bipush (v := nI 8) hx hb dX3_fold_81 (by decide) ?_
                refine lv_lshl hx hb dX3_fold_83 rfl (top_l (wb_shl _ (by decide)) ?_)
                refine lv_iload hx hb dX3_fold_84 (lv_at hl 0 rfl) ?_
                refine lv_i2l hx hb dX3_fold_86 rfl (top_l (nI_l (by first | decide | exact Nat.lt_trans (d256 _) (by decide))) ?_)
                refine lv_lor hx hb dX3_fold_87 (top_l (l_or _ _) ?_)
                refine lv_goto (tgt := 93) hx hb dX3_fold_88 (by decide) ?_
                refine lv_lstore hx hb dX3_fold_93 hl (by decide) rfl (fun ls hl => ?_)
                have hl : lv_has ls 14 [(7, .long (lN (((jbN bd fr na (mn8 k)) * 2 ^ 8) ||| (bd (fr + k))))), (13, .int (nI (bd (fr + k)))), (9, .long (lN (jbN bd (fr + 8) na (k - 8)))), (12, .int (nI k)), (11, .int (nI na)), (0, .ref o), (1, .int (nI 1)), (2, .int (nI fr)), (3, .long fh), (5, .long fw)] := hl
                refine lv_iload hx hb dX3_fold_95 (lv_at hl 3 rfl) ?_
                refine lv_bipush (v := nI 8) hx hb dX3_fold_97 (by decide) ?_
                refine lv_icmp_ge (tgt := 107) hx hb dX3_fold_99 (by decide) (fun hc_99 => ?_) (fun hc_99 => ?_)
                · skip
                  have hc_99 := (ix_le (a := 8) (b := k) (by omega) (by omega)).mp hc_99
                  have hc_99 : (8 ≤ k) := hc_99
                  exfalso; omega
                · skip
                  have hc_99 := (not_congr (ix_le (a := 8) (b := k) (by omega) (by omega))).mp hc_99
                  have hc_99 : ¬ (8 ≤ k) := hc_99
                  refine lv_lload hx hb dX3_fold_102 (lv_at hl 2 rfl) ?_
                  refine lv_goto (tgt := 116) hx hb dX3_fold_104 (by decide) ?_
                  refine lv_lstore hx hb dX3_fold_116 hl (by decide) rfl (fun ls hl => ?_)
                  have hl : lv_has ls 14 [(9, .long (lN (jbN bd (fr + 8) na (k - 8)))), (7, .long (lN (((jbN bd fr na (mn8 k)) * 2 ^ 8) ||| (bd (fr + k))))), (13, .int (nI (bd (fr + k)))), (12, .int (nI k)), (11, .int (nI na)), (0, .ref o), (1, .int (nI 1)), (2, .int (nI fr)), (3, .long fh), (5, .long fw)] := hl
                  refine lv_iinc (v := nI (k + 1)) (k := 3) hx hb dX3_fold_118 hl rfl (ix_inc _ 1) (by decide) rfl (fun ls hl => ?_)
                  have hl : lv_has ls 14 [(12, .int (nI (k + 1))), (9, .long (lN (jbN bd (fr + 8) na (k - 8)))), (7, .long (lN (((jbN bd fr na (mn8 k)) * 2 ^ 8) ||| (bd (fr + k))))), (13, .int (nI (bd (fr + k)))), (11, .int (nI na)), (0, .ref o), (1, .int (nI 1)), (2, .int (nI fr)), (3, .long fh), (5, .long fw)] := hl
                  refine lv_goto (tgt := 26) hx hb dX3_fold_121 (by decide) ?_
                  have hl := lv_re hl 2 rfl (v2 := .long (lN (jbN bd fr na (mn8 (k + 1))))) (congrArg Value.long (congrArg lN (fo1b (by omega) (by omega)))) rfl
                  have hl : lv_has ls 14 [(12, .int (nI (k + 1))), (9, .long (lN (jbN bd (fr + 8) na (k - 8)))), (7, .long (lN (jbN bd fr na (mn8 (k + 1))))), (13, .int (nI (bd (fr + k)))), (11, .int (nI na)), (0, .ref o), (1, .int (nI 1)), (2, .int (nI fr)), (3, .long fh), (5, .long fw)] := hl
                  have hl := lv_re hl 1 rfl (v2 := .long (lN (jbN bd (fr + 8) na ((k + 1) - 8)))) (congrArg Value.long (congrArg lN (fo2n (by omega)))) rfl
                  have hl : lv_has ls 14 [(12, .int (nI (k + 1))), (9, .long (lN (jbN bd (fr + 8) na ((k + 1) - 8)))), (7, .long (lN (jbN bd fr na (mn8 (k + 1))))), (13, .int (nI (bd (fr + k)))), (11, .int (nI na)), (0, .ref o), (1, .int (nI 1)), (2, .int (nI fr)), (3, .long fh), (5, .long fw)] := hl
                  exact ih (k + 1) ls H locs (by omega)  (lv_sub hl [2, 1, 0, 4, 5, 6, 7, 8, 9] rfl) hP hD hS
          · skip
            have hc_39 := (not_congr (ix_lt (a := fr + k) (b := na) (by omega) (by omega))).mp hc_39
            have hc_39 : ¬ ((fr + k) < na) := hc_39
            refine lv_iconst (v := nI 0) hx hb dX3_fold_42 (by decide) ?_
            refine lv_goto (tgt := 70) hx hb dX3_fold_43 (by decide) ?_
            refine lv_istore hx hb dX3_fold_70 hl (by decide) rfl (fun ls hl => ?_)
            have hl : lv_has ls 14 [(13, .int (nI 0)), (7, .long (lN (jbN bd fr na (mn8 k)))), (9, .long (lN (jbN bd (fr + 8) na (k - 8)))), (12, .int (nI k)), (11, .int (nI na)), (0, .ref o), (1, .int (nI 1)), (2, .int (nI fr)), (3, .long fh), (5, .long fw)] := hl
            refine lv_iload hx hb dX3_fold_72 (lv_at hl 3 rfl) ?_
            refine lv_bipush (v := nI 8) hx hb dX3_fold_74 (by decide) ?_
            refine lv_icmp_ge (tgt := 91) hx hb dX3_fold_76 (by decide) (fun hc_76 => ?_) (fun hc_76 => ?_)
            · skip
              have hc_76 := (ix_le (a := 8) (b := k) (by omega) (by omega)).mp hc_76
              have hc_76 : (8 ≤ k) := hc_76
              refine lv_lload hx hb dX3_fold_91 (lv_at hl 1 rfl) ?_
              refine lv_lstore hx hb dX3_fold_93 hl (by decide) rfl (fun ls hl => ?_)
              have hl : lv_has ls 14 [(7, .long (lN (jbN bd fr na (mn8 k)))), (13, .int (nI 0)), (9, .long (lN (jbN bd (fr + 8) na (k - 8)))), (12, .int (nI k)), (11, .int (nI na)), (0, .ref o), (1, .int (nI 1)), (2, .int (nI fr)), (3, .long fh), (5, .long fw)] := hl
              refine lv_iload hx hb dX3_fold_95 (lv_at hl 3 rfl) ?_
              refine lv_bipush (v := nI 8) hx hb dX3_fold_97 (by decide) ?_
              refine lv_icmp_ge (tgt := 107) hx hb dX3_fold_99 (by decide) (fun hc_99 => ?_) (fun hc_99 => ?_)
              · skip
                have hc_99 := (ix_le (a := 8) (b := k) (by omega) (by omega)).mp hc_99
                have hc_99 : (8 ≤ k) := hc_99
                refine lv_lload hx hb dX3_fold_107 (lv_at hl 2 rfl) ?_
                refine lv_bipush (v := nI 8) hx hb dX3_fold_109 (by decide) ?_
                refine lv_lshl hx hb dX3_fold_111 rfl (top_l (wb_shl _ (by decide)) ?_)
                refine lv_iload hx hb dX3_fold_112 (lv_at hl 1 rfl) ?_
                refine lv_i2l hx hb dX3_fold_114 rfl (top_l (nI_l (by first | decide | exact Nat.lt_trans (d256 _) (by decide))) ?_)
                refine lv_lor hx hb dX3_fold_115 (top_l (l_or _ _) ?_)
                refine lv_lstore hx hb dX3_fold_116 hl (by decide) rfl (fun ls hl => ?_)
                have hl : lv_has ls 14 [(9, .long (lN (((jbN bd (fr + 8) na (k - 8)) * 2 ^ 8) ||| 0))), (7, .long (lN (jbN bd fr na (mn8 k)))), (13, .int (nI 0)), (12, .int (nI k)), (11, .int (nI na)), (0, .ref o), (1, .int (nI 1)), (2, .int (nI fr)), (3, .long fh), (5, .long fw)] := hl
                refine lv_iinc (v := nI (k + 1)) (k := 3) hx hb dX3_fold_118 hl rfl (ix_inc _ 1) (by decide) rfl (fun ls hl => ?_)
                have hl : lv_has ls 14 [(12, .int (nI (k + 1))), (9, .long (lN (((jbN bd (fr + 8) na (k - 8)) * 2 ^ 8) ||| 0))), (7, .long (lN (jbN bd fr na (mn8 k)))), (13, .int (nI 0)), (11, .int (nI na)), (0, .ref o), (1, .int (nI 1)), (2, .int (nI fr)), (3, .long fh), (5, .long fw)] := hl
                refine lv_goto (tgt := 26) hx hb dX3_fold_121 (by decide) ?_
                have hl := lv_re hl 2 rfl (v2 := .long (lN (jbN bd fr na (mn8 (k + 1))))) (congrArg Value.long (congrArg lN (fo1n (by omega)))) rfl
                have hl : lv_has ls 14 [(12, .int (nI (k + 1))), (9, .long (lN (((jbN bd (fr + 8) na (k - 8)) * 2 ^ 8) ||| 0))), (7, .long (lN (jbN bd fr na (mn8 (k + 1))))), (13, .int (nI 0)), (11, .int (nI na)), (0, .ref o), (1, .int (nI 1)), (2, .int (nI fr)), (3, .long fh), (5, .long fw)] := hl
                have hl := lv_re hl 1 rfl (v2 := .long (lN (jbN bd (fr + 8) na ((k + 1) - 8)))) (congrArg Value.long (congrArg lN (fo2z (by omega) (by omega)))) rfl
                have hl : lv_has ls 14 [(12, .int (nI (k + 1))), (9, .long (lN (jbN bd (fr + 8) na ((k + 1) - 8)))), (7, .long (lN (jbN bd fr na (mn8 (k + 1))))), (13, .int (nI 0)), (11, .int (nI na)), (0, .ref o), (1, .int (nI 1)), (2, .int (nI fr)), (3, .long fh), (5, .long fw)] := hl
                exact ih (k + 1) ls H locs (by omega)  (lv_sub hl [2, 1, 0, 4, 5, 6, 7, 8, 9] rfl) hP hD hS
              · skip
                have hc_99 := (not_congr (ix_le (a := 8) (b := k) (by omega) (by omega))).mp hc_99
                have hc_99 : ¬ (8 ≤ k) := hc_99
                exfalso; omega
            · skip
              have hc_76 := (not_congr (ix_le (a := 8) (b := k) (by omega) (by omega))).mp hc_76
              have hc_76 : ¬ (8 ≤ k) := hc_76
              refine lv_lload hx hb dX3_fold_79 (lv_at hl 1 rfl) ?_
              refine lv_bipush (v := nI 8) hx hb dX3_fold_81 (by decide) ?_
              refine lv_lshl hx hb dX3_fold_83 rfl (top_l (wb_shl _ (by decide)) ?_)
              refine lv_iload hx hb dX3_fold_84 (lv_at hl 0 rfl) ?_
              refine lv_i2l hx hb dX3_fold_86 rfl (top_l (nI_l (by first | decide | exact Nat.lt_trans (d256 _) (by decide))) ?_)
              refine lv_lor hx hb dX3_fold_87 (top_l (l_or _ _) ?_)
              refine lv_goto (tgt := 93) hx hb dX3_fold_88 (by decide) ?_
              refine lv_lstore hx hb dX3_fold_93 hl (by decide) rfl (fun ls hl => ?_)
              have hl : lv_has ls 14 [(7, .long (lN (((jbN bd fr na (mn8 k)) * 2 ^ 8) ||| 0))), (13, .int (nI 0)), (9, .long (lN (jbN bd (fr + 8) na (k - 8)))), (12, .int (nI k)), (11, .int (nI na)), (0, .ref o), (1, .int (nI 1)), (2, .int (nI fr)), (3, .long fh), (5, .long fw)] := hl
              refine lv_iload hx hb dX3_fold_95 (lv_at hl 3 rfl) ?_
              refine lv_bipush (v := nI 8) hx hb dX3_fold_97 (by decide) ?_
              refine lv_icmp_ge (tgt := 107) hx hb dX3_fold_99 (by decide) (fun hc_99 => ?_) (fun hc_99 => ?_)
              · skip
                have hc_99 := (ix_le (a := 8) (b := k) (by omega) (by omega)).mp hc_99
                have hc_99 : (8 ≤ k) := hc_99
                exfalso; omega
              · skip
                have hc_99 := (not_congr (ix_le (a := 8) (b := k) (by omega) (by omega))).mp hc_99
                have hc_99 : ¬ (8 ≤ k) := hc_99
                refine lv_lload hx hb dX3_fold_102 (lv_at hl 2 rfl) ?_
                refine lv_goto (tgt := 116) hx hb dX3_fold_104 (by decide) ?_
                refine lv_lstore hx hb dX3_fold_116 hl (by decide) rfl (fun ls hl => ?_)
                have hl : lv_has ls 14 [(9, .long (lN (jbN bd (fr + 8) na (k - 8)))), (7, .long (lN (((jbN bd fr na (mn8 k)) * 2 ^ 8) ||| 0))), (13, .int (nI 0)), (12, .int (nI k)), (11, .int (nI na)), (0, .ref o), (1, .int (nI 1)), (2, .int (nI fr)), (3, .long fh), (5, .long fw)] := hl
                refine lv_iinc (v := nI (k + 1)) (k := 3) hx hb dX3_fold_118 hl rfl (ix_inc _ 1) (by decide) rfl (fun ls hl => ?_)
                have hl : lv_has ls 14 [(12, .int (nI (k + 1))), (9, .long (lN (jbN bd (fr + 8) na (k - 8)))), (7, .long (lN (((jbN bd fr na (mn8 k)) * 2 ^ 8) ||| 0))), (13, .int (nI 0)), (11, .int (nI na)), (0, .ref o), (1, .int (nI 1)), (2, .int (nI fr)), (3, .long fh), (5, .long fw)] := hl
                refine lv_goto (tgt := 26) hx hb dX3_fold_121 (by decide) ?_
                have hl := lv_re hl 2 rfl (v2 := .long (lN (jbN bd fr na (mn8 (k + 1))))) (congrArg Value.long (congrArg lN (fo1z (by omega) (by omega)))) rfl
                have hl : lv_has ls 14 [(12, .int (nI (k + 1))), (9, .long (lN (jbN bd (fr + 8) na (k - 8)))), (7, .long (lN (jbN bd fr na (mn8 (k + 1))))), (13, .int (nI 0)), (11, .int (nI na)), (0, .ref o), (1, .int (nI 1)), (2, .int (nI fr)), (3, .long fh), (5, .long fw)] := hl
                have hl := lv_re hl 1 rfl (v2 := .long (lN (jbN bd (fr + 8) na ((k + 1) - 8)))) (congrArg Value.long (congrArg lN (fo2n (by omega)))) rfl
                have hl : lv_has ls 14 [(12, .int (nI (k + 1))), (9, .long (lN (jbN bd (fr + 8) na ((k + 1) - 8)))), (7, .long (lN (jbN bd fr na (mn8 (k + 1))))), (13, .int (nI 0)), (11, .int (nI na)), (0, .ref o), (1, .int (nI 1)), (2, .int (nI fr)), (3, .long fh), (5, .long fw)] := hl
                exact ih (k + 1) ls H locs (by omega)  (lv_sub hl [2, 1, 0, 4, 5, 6, 7, 8, 9] rfl) hP hD hS
    exact loop_26 16 0 ls H locs (by omega)  (lv_sub hl [3, 2, 0, 1, 4, 5, 6, 7, 8] rfl) hP hD hS

def rm_m_fold_f : Room := { frames := 6, cells := 0, slots := 0, locals := 135 }
set_option maxHeartbeats 4000000 in
set_option maxRecDepth 100000 in
/-- fold, the text -/
theorem m_fold_f (l : Launch) (dC : Nat → ClassId) (dI : Nat → Nat → Nat) (o : Nat) (th : Int32) (ph : Nat) (og : Bool) (qx : Nat) (qk : Nat) (qw : Nat) (qb : Nat) (qn : Nat) (mh : Int64) (ml : Int64) (nc : Int64) (rs : Int32) (na : Nat) (qd : Nat) (nz : Nat) (qg : Nat) (t1 : Int64) (t2 : Int64) (kx : ClassId) (kw : ClassId) (kb : ClassId) (kn : ClassId) (kg : ClassId) (sb : Nat → Nat) (w : Nat → Int32) (b : Nat → Nat) (z : Nat → Nat) (gv : Nat → Nat) (fr : Nat) (fh : Int64) (fw : Int64) (s256 : ∀ i, sb i < 256) (g256 : ∀ i, gv i < 256) (hfr : fr + 16 ≤ 112) (hfm : fr < nz) (hm9 : nz ≤ 96) : MX l dC dI yX3_fold wsX3_fold rm_m_fold_f [.ref o, .int (nI 0), .int (nI fr), .long fh, .long fw] [(o, .inr (3, [.int th, .int (nI ph), .int (zI og), .ref qx, .ref qk, .ref qw, .ref qb, .ref qn, .long mh, .long ml, .long nc, .int rs, .int (nI na), .ref qd, .int (nI nz), .ref qg, .long t1, .long t2])), (qx, .inl (kx, 256, .inl (nF sb))), (qw, .inl (kw, 44, .inl w)), (qb, .inl (kb, 16, .inl (nF b))), (qn, .inl (kn, 16, .inl (nF z))), (qg, .inl (kg, 96, .inl (nF gv)))] [(kx, .int), (kw, .int), (kb, .int), (kn, .int), (kg, .int)] (fun ((b1, z1) : (Nat → Nat) × (Nat → Nat)) => [(o, .inr (3, [.int th, .int (nI ph), .int (zI og), .ref qx, .ref qk, .ref qw, .ref qb, .ref qn, .long ((gmN (t1 ^^^ lN (jbN (syN og sb w nc rs gv) fr nz 8)) (t2 ^^^ lN (jbN (syN og sb w nc rs gv) (fr + 8) nz 8)) fh fw).1), .long ((gmN (t1 ^^^ lN (jbN (syN og sb w nc rs gv) fr nz 8)) (t2 ^^^ lN (jbN (syN og sb w nc rs gv) (fr + 8) nz 8)) fh fw).2), .long nc, .int rs, .int (nI na), .ref qd, .int (nI nz), .ref qg, .long ((gmN (t1 ^^^ lN (jbN (syN og sb w nc rs gv) fr nz 8)) (t2 ^^^ lN (jbN (syN og sb w nc rs gv) (fr + 8) nz 8)) fh fw).1), .long ((gmN (t1 ^^^ lN (jbN (syN og sb w nc rs gv) fr nz 8)) (t2 ^^^ lN (jbN (syN og sb w nc rs gv) (fr + 8) nz 8)) fh fw).2)])), (qx, .inl (kx, 256, .inl (nF sb))), (qw, .inl (kw, 44, .inl w)), (qb, .inl (kb, 16, .inl (nF b1))), (qn, .inl (kn, 16, .inl (nF z1))), (qg, .inl (kg, 96, .inl (nF gv)))]) (fun ((b1, z1) : (Nat → Nat) × (Nat → Nat)) => []) (fun _ => True) (fun _ => none) := by
  refine mx_ofW (cc := cX3_fold) (maxL := 14) (ret := none) (by decide) rfl (Nat.le_of_ble_eq_true rfl) ?_
  intro p e s m args below meth c Q A H locs ls hx hb hr hlk hml hta hown hin hE hQ hAe hA hK hP hD hS hl
  have hown : s.vm.findClass RX3 = some m.cls := hown
  have hl : lv_has ls 14 [(0, .ref o), (1, .int (nI 0)), (2, .int (nI fr)), (3, .long fh), (5, .long fw)] := hl
  refine lv_lconst (v := lN 0) hx hb dX3_fold_0 (by decide) ?_
  refine lv_lstore hx hb dX3_fold_1 hl (by decide) rfl (fun ls hl => ?_)
  have hl : lv_has ls 14 [(7, .long (lN 0)), (0, .ref o), (1, .int (nI 0)), (2, .int (nI fr)), (3, .long fh), (5, .long fw)] := hl
  refine lv_lconst (v := lN 0) hx hb dX3_fold_3 (by decide) ?_
  refine lv_lstore hx hb dX3_fold_4 hl (by decide) rfl (fun ls hl => ?_)
  have hl : lv_has ls 14 [(9, .long (lN 0)), (7, .long (lN 0)), (0, .ref o), (1, .int (nI 0)), (2, .int (nI fr)), (3, .long fh), (5, .long fw)] := hl
  refine lv_iload_n hx hb dX3_fold_6 rfl (lv_at hl 3 rfl) ?_
  refine lv_if_eq (tgt := 17) hx hb dX3_fold_7 (by decide) (fun hc_7 => ?_) (fun hc_7 => ?_)
  · skip
    have hc_7 := (ix_eq (a := 0) (b := 0) (by omega) (by omega)).mp hc_7
    have hc_7 : (0 = 0) := hc_7
    refine lv_aload_n hx hb dX3_fold_17 rfl (lv_at hl 2 rfl) ?_
    refine va_get (D := (dC, dI)) (ci := 3) (v := .int (nI nz)) (C := RX3) (T := TX3) (N := 18) hx hb hta inX3 hown hK hP 0 rfl rfl 14 (by decide) (hta _ mw_471) (fun _ h9 => h9) rfl dX3_fold_18 ?_
    refine lv_istore hx hb dX3_fold_21 hl (by decide) rfl (fun ls hl => ?_)
    have hl : lv_has ls 14 [(11, .int (nI nz)), (9, .long (lN 0)), (7, .long (lN 0)), (0, .ref o), (1, .int (nI 0)), (2, .int (nI fr)), (3, .long fh), (5, .long fw)] := hl
    refine lv_iconst (v := nI 0) hx hb dX3_fold_23 (by decide) ?_
    refine lv_istore hx hb dX3_fold_24 hl (by decide) rfl (fun ls hl => ?_)
    have hl : lv_has ls 14 [(12, .int (nI 0)), (11, .int (nI nz)), (9, .long (lN 0)), (7, .long (lN 0)), (0, .ref o), (1, .int (nI 0)), (2, .int (nI fr)), (3, .long fh), (5, .long fw)] := hl
    have loop_26 : ∀ (n k : Nat) (b9 : Nat → Nat) (z9 : Nat → Nat) (ls : Array Slot) (H : Heap) (locs : List Loc), k + n = 16 → lv_has ls 14 [(7, .long (lN (jbN (syN og sb w nc rs gv) fr nz (mn8 k)))), (9, .long (lN (jbN (syN og sb w nc rs gv) (fr + 8) nz (k - 8)))), (12, .int (nI k)), (11, .int (nI nz)), (0, .ref o), (1, .int (nI 0)), (2, .int (nI fr)), (3, .long fh), (5, .long fw)] → va_P (dC, dI) vwCl [(o, .inr (3, [.int th, .int (nI ph), .int (zI og), .ref qx, .ref qk, .ref qw, .ref qb, .ref qn, .long mh, .long ml, .long nc, .int rs, .int (nI na), .ref qd, .int (nI nz), .ref qg, .long t1, .long t2])), (qx, .inl (kx, 256, .inl (nF sb))), (qw, .inl (kw, 44, .inl w)), (qb, .inl (kb, 16, .inl (nF b9))), (qn, .inl (kn, 16, .inl (nF z9))), (qg, .inl (kg, 96, .inl (nF gv)))] H → va_D A [(o, .inr (3, [.int th, .int (nI ph), .int (zI og), .ref qx, .ref qk, .ref qw, .ref qb, .ref qn, .long mh, .long ml, .long nc, .int rs, .int (nI na), .ref qd, .int (nI nz), .ref qg, .long t1, .long t2])), (qx, .inl (kx, 256, .inl (nF sb))), (qw, .inl (kw, 44, .inl w)), (qb, .inl (kb, 16, .inl (nF b9))), (qn, .inl (kn, 16, .inl (nF z9))), (qg, .inl (kg, 96, .inl (nF gv)))] → va_S A s.heap H locs → W p l e rm_m_fold_f s m args below meth c H locs 0 0 Q (F0 m 26 ls []) := by
      intro n
      induction n with
      | zero =>
        intro k b9 z9 ls H locs hn_26  hl hP hD hS
        obtain rfl : 16 = k := by omega
        refine lv_iload hx hb dX3_fold_26 (lv_at hl 2 rfl) ?_
        refine lv_bipush (v := nI 16) hx hb dX3_fold_28 (by decide) ?_
        refine lv_icmp_ge (tgt := 124) hx hb dX3_fold_30 (by decide) (fun hc_30 => ?_) (fun hc_30 => ?_)
        · skip
          have hc_30 := (ix_le (a := 16) (b := 16) (by omega) (by omega)).mp hc_30
          have hc_30 : (16 ≤ 16) := hc_30
          refine lv_aload_n hx hb dX3_fold_124 rfl (lv_at hl 4 rfl) ?_
          refine lv_aload_n hx hb dX3_fold_125 rfl (lv_at hl 4 rfl) ?_
          refine va_get (D := (dC, dI)) (ci := 3) (v := .long t1) (C := RX3) (T := TX3) (N := 18) hx hb hta inX3 hown hK hP 0 rfl rfl 16 (by decide) (hta _ mw_473) (fun _ h9 => h9) rfl dX3_fold_126 ?_
          refine lv_lload hx hb dX3_fold_129 (lv_at hl 0 rfl) ?_
          refine lv_lxor hx hb dX3_fold_131 ?_
          refine va_put (D := (dC, dI)) (ci := 3) (v := .long (t1 ^^^ (lN (jbN (syN og sb w nc rs gv) fr nz (mn8 16))))) (ty := .long) (C := RX3) (T := TX3) (N := 18) hx hb hta inX3 tyX3 tyX3_ok nmX3 hown hK hP hD hS 0 rfl rfl 8 (by decide) (hta _ mw_465) (fun _ h9 => h9) rfl (by decide +kernel) rfl rfl (Nat.le_of_ble_eq_true rfl) dX3_fold_132 (fun H locs hP hD hS => ?_)
          have hP : va_P (dC, dI) vwCl [(o, .inr (3, [.int th, .int (nI ph), .int (zI og), .ref qx, .ref qk, .ref qw, .ref qb, .ref qn, .long (t1 ^^^ (lN (jbN (syN og sb w nc rs gv) fr nz (mn8 16)))), .long ml, .long nc, .int rs, .int (nI na), .ref qd, .int (nI nz), .ref qg, .long t1, .long t2])), (qx, .inl (kx, 256, .inl (nF sb))), (qw, .inl (kw, 44, .inl w)), (qb, .inl (kb, 16, .inl (nF b9))), (qn, .inl (kn, 16, .inl (nF z9))), (qg, .inl (kg, 96, .inl (nF gv)))] H := hP
          have hD : va_D A [(o, .inr (3, [.int th, .int (nI ph), .int (zI og), .ref qx, .ref qk, .ref qw, .ref qb, .ref qn, .long (t1 ^^^ (lN (jbN (syN og sb w nc rs gv) fr nz (mn8 16)))), .long ml, .long nc, .int rs, .int (nI na), .ref qd, .int (nI nz), .ref qg, .long t1, .long t2])), (qx, .inl (kx, 256, .inl (nF sb))), (qw, .inl (kw, 44, .inl w)), (qb, .inl (kb, 16, .inl (nF b9))), (qn, .inl (kn, 16, .inl (nF z9))), (qg, .inl (kg, 96, .inl (nF gv)))] := hD
          refine lv_aload_n hx hb dX3_fold_135 rfl (lv_at hl 4 rfl) ?_
          refine lv_aload_n hx hb dX3_fold_136 rfl (lv_at hl 4 rfl) ?_
          refine va_get (D := (dC, dI)) (ci := 3) (v := .long t2) (C := RX3) (T := TX3) (N := 18) hx hb hta inX3 hown hK hP 0 rfl rfl 17 (by decide) (hta _ mw_474) (fun _ h9 => h9) rfl dX3_fold_137 ?_
          refine lv_lload hx hb dX3_fold_140 (lv_at hl 1 rfl) ?_
          refine lv_lxor hx hb dX3_fold_142 ?_
          refine w_pc (pc2 := 143) rfl ?_
          refine va_put (D := (dC, dI)) (ci := 3) (v := .long (t2 ^^^ (lN (jbN (syN og sb w nc rs gv) (fr + 8) nz (16 - 8))))) (ty := .long) (C := RX3) (T := TX3) (N := 18) hx hb hta inX3 tyX3 tyX3_ok nmX3 hown hK hP hD hS 0 rfl rfl 9 (by decide) (hta _ mw_466) (fun _ h9 => h9) rfl (by decide +kernel) rfl rfl (Nat.le_of_ble_eq_true rfl) dX3_fold_143 (fun H locs hP hD hS => ?_)
          have hP : va_P (dC, dI) vwCl [(o, .inr (3, [.int th, .int (nI ph), .int (zI og), .ref qx, .ref qk, .ref qw, .ref qb, .ref qn, .long (t1 ^^^ (lN (jbN (syN og sb w nc rs gv) fr nz (mn8 16)))), .long (t2 ^^^ (lN (jbN (syN og sb w nc rs gv) (fr + 8) nz (16 - 8)))), .long nc, .int rs, .int (nI na), .ref qd, .int (nI nz), .ref qg, .long t1, .long t2])), (qx, .inl (kx, 256, .inl (nF sb))), (qw, .inl (kw, 44, .inl w)), (qb, .inl (kb, 16, .inl (nF b9))), (qn, .inl (kn, 16, .inl (nF z9))), (qg, .inl (kg, 96, .inl (nF gv)))] H := hP
          have hD : va_D A [(o, .inr (3, [.int th, .int (nI ph), .int (zI og), .ref qx, .ref qk, .ref qw, .ref qb, .ref qn, .long (t1 ^^^ (lN (jbN (syN og sb w nc rs gv) fr nz (mn8 16)))), .long (t2 ^^^ (lN (jbN (syN og sb w nc rs gv) (fr + 8) nz (16 - 8)))), .long nc, .int rs, .int (nI na), .ref qd, .int (nI nz), .ref qg, .long t1, .long t2])), (qx, .inl (kx, 256, .inl (nF sb))), (qw, .inl (kw, 44, .inl w)), (qb, .inl (kb, 16, .inl (nF b9))), (qn, .inl (kn, 16, .inl (nF z9))), (qg, .inl (kg, 96, .inl (nF gv)))] := hD
          refine lv_aload_n hx hb dX3_fold_146 rfl (lv_at hl 4 rfl) ?_
          refine lv_lload_n hx hb dX3_fold_147 rfl (lv_at hl 7 rfl) ?_
          refine lv_lload hx hb dX3_fold_148 (lv_at hl 8 rfl) ?_
          refine cf_0 (wr := [(qx, .inl (kx, 256, .inl (nF sb))), (qw, .inl (kw, 44, .inl w)), (qb, .inl (kb, 16, .inl (nF b9))), (qn, .inl (kn, 16, .inl (nF z9))), (qg, .inl (kg, 96, .inl (nF gv)))]) (va_runV (As := [.long fh, .long fw]) (rest := []) ⟨hx, hb, hml, hown, hta⟩ (MO.to (m_multiply l dC dI o th ph og qx qk qw qb qn (t1 ^^^ (lN (jbN (syN og sb w nc rs gv) fr nz (mn8 16)))) (t2 ^^^ (lN (jbN (syN og sb w nc rs gv) (fr + 8) nz (16 - 8)))) nc rs na qd nz qg t1 t2 fh fw) H.size) (cwV 2 hta (aw_V mw_568 mw_565 mw_567 mw_s28 mw_5) rfl rfl rfl ⟨rfl, dyX3_multiply⟩ ⟨(Nat.le_of_ble_eq_true rfl), (Nat.le_of_ble_eq_true rfl)⟩) (pr_V hP hD hK hE [0] [] (by decide) rfl rfl rfl rfl) rfl rfl hl.1 rfl (lv_room (Nat.le_of_ble_eq_true rfl)) dX3_fold_150 ⟨(Nat.le_of_ble_eq_true rfl), (Nat.le_of_ble_eq_true rfl)⟩) hP hD hS hA [0] [1, 2, 3, 4, 5] rfl rfl (by decide) (by decide) (fun H locs hP hD hS => ?_)
          have hP : va_P (dC, dI) vwCl [(qx, .inl (kx, 256, .inl (nF sb))), (qw, .inl (kw, 44, .inl w)), (qb, .inl (kb, 16, .inl (nF b9))), (qn, .inl (kn, 16, .inl (nF z9))), (qg, .inl (kg, 96, .inl (nF gv))), (o, .inr (3, [.int th, .int (nI ph), .int (zI og), .ref qx, .ref qk, .ref qw, .ref qb, .ref qn, .long ((gst (t1 ^^^ (lN (jbN (syN og sb w nc rs gv) fr nz (mn8 16)))) (t2 ^^^ (lN (jbN (syN og sb w nc rs gv) (fr + 8) nz (16 - 8)))) fh fw 128).1), .long ((gst (t1 ^^^ (lN (jbN (syN og sb w nc rs gv) fr nz (mn8 16)))) (t2 ^^^ (lN (jbN (syN og sb w nc rs gv) (fr + 8) nz (16 - 8)))) fh fw 128).2.1), .long nc, .int rs, .int (nI na), .ref qd, .int (nI nz), .ref qg, .long t1, .long t2]))] H := hP
          have hD : va_D A [(qx, .inl (kx, 256, .inl (nF sb))), (qw, .inl (kw, 44, .inl w)), (qb, .inl (kb, 16, .inl (nF b9))), (qn, .inl (kn, 16, .inl (nF z9))), (qg, .inl (kg, 96, .inl (nF gv))), (o, .inr (3, [.int th, .int (nI ph), .int (zI og), .ref qx, .ref qk, .ref qw, .ref qb, .ref qn, .long ((gst (t1 ^^^ (lN (jbN (syN og sb w nc rs gv) fr nz (mn8 16)))) (t2 ^^^ (lN (jbN (syN og sb w nc rs gv) (fr + 8) nz (16 - 8)))) fh fw 128).1), .long ((gst (t1 ^^^ (lN (jbN (syN og sb w nc rs gv) fr nz (mn8 16)))) (t2 ^^^ (lN (jbN (syN og sb w nc rs gv) (fr + 8) nz (16 - 8)))) fh fw 128).2.1), .long nc, .int rs, .int (nI na), .ref qd, .int (nI nz), .ref qg, .long t1, .long t2]))] := hD
          refine W.widen (k := 0) (n := 0) (Nat.le_of_ble_eq_true rfl) (Nat.le_of_ble_eq_true rfl) ?_
          refine w_pc (pc2 := 153) rfl ?_
          refine lv_aload_n hx hb dX3_fold_153 rfl (lv_at hl 4 rfl) ?_
          refine lv_aload_n hx hb dX3_fold_154 rfl (lv_at hl 4 rfl) ?_
          refine va_get (D := (dC, dI)) (ci := 3) (v := .long ((gst (t1 ^^^ (lN (jbN (syN og sb w nc rs gv) fr nz (mn8 16)))) (t2 ^^^ (lN (jbN (syN og sb w nc rs gv) (fr + 8) nz (16 - 8)))) fh fw 128).1)) (C := RX3) (T := TX3) (N := 18) hx hb hta inX3 hown hK hP 5 rfl rfl 8 (by decide) (hta _ mw_465) (fun _ h9 => h9) rfl dX3_fold_155 ?_
          refine va_put (D := (dC, dI)) (ci := 3) (v := .long ((gst (t1 ^^^ (lN (jbN (syN og sb w nc rs gv) fr nz (mn8 16)))) (t2 ^^^ (lN (jbN (syN og sb w nc rs gv) (fr + 8) nz (16 - 8)))) fh fw 128).1)) (ty := .long) (C := RX3) (T := TX3) (N := 18) hx hb hta inX3 tyX3 tyX3_ok nmX3 hown hK hP hD hS 5 rfl rfl 16 (by decide) (hta _ mw_473) (fun _ h9 => h9) rfl (by decide +kernel) rfl rfl (Nat.le_of_ble_eq_true rfl) dX3_fold_158 (fun H locs hP hD hS => ?_)
          have hP : va_P (dC, dI) vwCl [(qx, .inl (kx, 256, .inl (nF sb))), (qw, .inl (kw, 44, .inl w)), (qb, .inl (kb, 16, .inl (nF b9))), (qn, .inl (kn, 16, .inl (nF z9))), (qg, .inl (kg, 96, .inl (nF gv))), (o, .inr (3, [.int th, .int (nI ph), .int (zI og), .ref qx, .ref qk, .ref qw, .ref qb, .ref qn, .long ((gst (t1 ^^^ (lN (jbN (syN og sb w nc rs gv) fr nz (mn8 16)))) (t2 ^^^ (lN (jbN (syN og sb w nc rs gv) (fr + 8) nz (16 - 8)))) fh fw 128).1), .long ((gst (t1 ^^^ (lN (jbN (syN og sb w nc rs gv) fr nz (mn8 16)))) (t2 ^^^ (lN (jbN (syN og sb w nc rs gv) (fr + 8) nz (16 - 8)))) fh fw 128).2.1), .long nc, .int rs, .int (nI na), .ref qd, .int (nI nz), .ref qg, .long ((gst (t1 ^^^ (lN (jbN (syN og sb w nc rs gv) fr nz (mn8 16)))) (t2 ^^^ (lN (jbN (syN og sb w nc rs gv) (fr + 8) nz (16 - 8)))) fh fw 128).1), .long t2]))] H := hP
          have hD : va_D A [(qx, .inl (kx, 256, .inl (nF sb))), (qw, .inl (kw, 44, .inl w)), (qb, .inl (kb, 16, .inl (nF b9))), (qn, .inl (kn, 16, .inl (nF z9))), (qg, .inl (kg, 96, .inl (nF gv))), (o, .inr (3, [.int th, .int (nI ph), .int (zI og), .ref qx, .ref qk, .ref qw, .ref qb, .ref qn, .long ((gst (t1 ^^^ (lN (jbN (syN og sb w nc rs gv) fr nz (mn8 16)))) (t2 ^^^ (lN (jbN (syN og sb w nc rs gv) (fr + 8) nz (16 - 8)))) fh fw 128).1), .long ((gst (t1 ^^^ (lN (jbN (syN og sb w nc rs gv) fr nz (mn8 16)))) (t2 ^^^ (lN (jbN (syN og sb w nc rs gv) (fr + 8) nz (16 - 8)))) fh fw 128).2.1), .long nc, .int rs, .int (nI na), .ref qd, .int (nI nz), .ref qg, .long ((gst (t1 ^^^ (lN (jbN (syN og sb w nc rs gv) fr nz (mn8 16)))) (t2 ^^^ (lN (jbN (syN og sb w nc rs gv) (fr + 8) nz (16 - 8)))) fh fw 128).1), .long t2]))] := hD
          refine lv_aload_n hx hb dX3_fold_161 rfl (lv_at hl 4 rfl) ?_
          refine lv_aload_n hx hb dX3_fold_162 rfl (lv_at hl 4 rfl) ?_
          refine va_get (D := (dC, dI)) (ci := 3) (v := .long ((gst (t1 ^^^ (lN (jbN (syN og sb w nc rs gv) fr nz (mn8 16)))) (t2 ^^^ (lN (jbN (syN og sb w nc rs gv) (fr + 8) nz (16 - 8)))) fh fw 128).2.1)) (C := RX3) (T := TX3) (N := 18) hx hb hta inX3 hown hK hP 5 rfl rfl 9 (by decide) (hta _ mw_466) (fun _ h9 => h9) rfl dX3_fold_163 ?_
          refine va_put (D := (dC, dI)) (ci := 3) (v := .long ((gst (t1 ^^^ (lN (jbN (syN og sb w nc rs gv) fr nz (mn8 16)))) (t2 ^^^ (lN (jbN (syN og sb w nc rs gv) (fr + 8) nz (16 - 8)))) fh fw 128).2.1)) (ty := .long) (C := RX3) (T := TX3) (N := 18) hx hb hta inX3 tyX3 tyX3_ok nmX3 hown hK hP hD hS 5 rfl rfl 17 (by decide) (hta _ mw_474) (fun _ h9 => h9) rfl (by decide +kernel) rfl rfl (Nat.le_of_ble_eq_true rfl) dX3_fold_166 (fun H locs hP hD hS => ?_)
          have hP : va_P (dC, dI) vwCl [(qx, .inl (kx, 256, .inl (nF sb))), (qw, .inl (kw, 44, .inl w)), (qb, .inl (kb, 16, .inl (nF b9))), (qn, .inl (kn, 16, .inl (nF z9))), (qg, .inl (kg, 96, .inl (nF gv))), (o, .inr (3, [.int th, .int (nI ph), .int (zI og), .ref qx, .ref qk, .ref qw, .ref qb, .ref qn, .long ((gst (t1 ^^^ (lN (jbN (syN og sb w nc rs gv) fr nz (mn8 16)))) (t2 ^^^ (lN (jbN (syN og sb w nc rs gv) (fr + 8) nz (16 - 8)))) fh fw 128).1), .long ((gst (t1 ^^^ (lN (jbN (syN og sb w nc rs gv) fr nz (mn8 16)))) (t2 ^^^ (lN (jbN (syN og sb w nc rs gv) (fr + 8) nz (16 - 8)))) fh fw 128).2.1), .long nc, .int rs, .int (nI na), .ref qd, .int (nI nz), .ref qg, .long ((gst (t1 ^^^ (lN (jbN (syN og sb w nc rs gv) fr nz (mn8 16)))) (t2 ^^^ (lN (jbN (syN og sb w nc rs gv) (fr + 8) nz (16 - 8)))) fh fw 128).1), .long ((gst (t1 ^^^ (lN (jbN (syN og sb w nc rs gv) fr nz (mn8 16)))) (t2 ^^^ (lN (jbN (syN og sb w nc rs gv) (fr + 8) nz (16 - 8)))) fh fw 128).2.1)]))] H := hP
          have hD : va_D A [(qx, .inl (kx, 256, .inl (nF sb))), (qw, .inl (kw, 44, .inl w)), (qb, .inl (kb, 16, .inl (nF b9))), (qn, .inl (kn, 16, .inl (nF z9))), (qg, .inl (kg, 96, .inl (nF gv))), (o, .inr (3, [.int th, .int (nI ph), .int (zI og), .ref qx, .ref qk, .ref qw, .ref qb, .ref qn, .long ((gst (t1 ^^^ (lN (jbN (syN og sb w nc rs gv) fr nz (mn8 16)))) (t2 ^^^ (lN (jbN (syN og sb w nc rs gv) (fr + 8) nz (16 - 8)))) fh fw 128).1), .long ((gst (t1 ^^^ (lN (jbN (syN og sb w nc rs gv) fr nz (mn8 16)))) (t2 ^^^ (lN (jbN (syN og sb w nc rs gv) (fr + 8) nz (16 - 8)))) fh fw 128).2.1), .long nc, .int rs, .int (nI na), .ref qd, .int (nI nz), .ref qg, .long ((gst (t1 ^^^ (lN (jbN (syN og sb w nc rs gv) fr nz (mn8 16)))) (t2 ^^^ (lN (jbN (syN og sb w nc rs gv) (fr + 8) nz (16 - 8)))) fh fw 128).1), .long ((gst (t1 ^^^ (lN (jbN (syN og sb w nc rs gv) fr nz (mn8 16)))) (t2 ^^^ (lN (jbN (syN og sb w nc rs gv) (fr + 8) nz (16 - 8)))) fh fw 128).2.1)]))] := hD
          exact rx_0 (b9, z9) trivial hx hb hr hlk hQ hAe hK hP hD hS [5, 0, 1, 2, 3, 4] [] (by decide) rfl rfl (Nat.le_of_ble_eq_true rfl) (Nat.le_of_ble_eq_true rfl) dX3_fold_169
        · skip
          have hc_30 := (not_congr (ix_le (a := 16) (b := 16) (by omega) (by omega))).mp hc_30
          have hc_30 : ¬ (16 ≤ 16) := hc_30
          exfalso; omega
      | succ n ih =>
        intro k b9 z9 ls H locs hn_26  hl hP hD hS
        refine lv_iload hx hb dX3_fold_26 (lv_at hl 2 rfl) ?_
        refine lv_bipush (v := nI 16) hx hb dX3_fold_28 (by decide) ?_
        refine lv_icmp_ge (tgt := 124) hx hb dX3_fold_30 (by decide) (fun hc_30 => ?_) (fun hc_30 => ?_)
        · skip
          have hc_30 := (ix_le (a := 16) (b := k) (by omega) (by omega)).mp hc_30
          have hc_30 : (16 ≤ k) := hc_30
          exfalso; omega
        · skip
          have hc_30 := (not_congr (ix_le (a := 16) (b := k) (by omega) (by omega))).mp hc_30
          have hc_30 : ¬ (16 ≤ k) := hc_30
          refine lv_iload_n hx hb dX3_fold_33 rfl (lv_at hl 6 rfl) ?_
          refine lv_iload hx hb dX3_fold_34 (lv_at hl 2 rfl) ?_
          refine lv_iadd hx hb dX3_fold_36 (top_i (nI_add _ _) ?_)
          refine lv_iload hx hb dX3_fold_37 (lv_at hl 3 rfl) ?_
          refine lv_icmp_lt (tgt := 46) hx hb dX3_fold_39 (by decide) (fun hc_39 => ?_) (fun hc_39 => ?_)
          · skip
            have hc_39 := (ix_lt (a := fr + k) (b := nz) (by omega) (by omega)).mp hc_39
            have hc_39 : ((fr + k) < nz) := hc_39
            refine lv_iload_n hx hb dX3_fold_46 rfl (lv_at hl 5 rfl) ?_
            refine lv_if_eq (tgt := 62) hx hb dX3_fold_47 (by decide) (fun hc_47 => ?_) (fun hc_47 => ?_)
            · skip
              have hc_47 := (ix_eq (a := 0) (b := 0) (by omega) (by omega)).mp hc_47
              have hc_47 : (0 = 0) := hc_47
              refine lv_aload_n hx hb dX3_fold_62 rfl (lv_at hl 4 rfl) ?_
              refine lv_iload_n hx hb dX3_fold_63 rfl (lv_at hl 6 rfl) ?_
              refine lv_iload hx hb dX3_fold_64 (lv_at hl 2 rfl) ?_
              refine lv_iadd hx hb dX3_fold_66 (top_i (nI_add _ _) ?_)
              refine cx_1 (wr := []) (va_runV (As := [.int (nI (fr + k))]) (rest := []) ⟨hx, hb, hml, hown, hta⟩ (MX.to (m_sealedByte l dC dI o th ph og qx qk qw qb qn mh ml nc rs na qd nz qg t1 t2 kx kw kb kn kg sb w b9 z9 gv (fr + k) s256 (by omega)) H.size) (cwV 1 hta (aw_V mw_609 mw_606 mw_608 mw_s34 mw_5) rfl rfl rfl ⟨rfl, dyX3_sealedByte⟩ ⟨(Nat.le_of_ble_eq_true rfl), (Nat.le_of_ble_eq_true rfl)⟩) (pr_V hP hD hK hE [0, 1, 2, 3, 4, 5] [0, 1, 2, 3, 4] (by decide) rfl rfl rfl rfl) rfl rfl hl.1 rfl (lv_room (Nat.le_of_ble_eq_true rfl)) dX3_fold_67 ⟨(Nat.le_of_ble_eq_true rfl), (Nat.le_of_ble_eq_true rfl)⟩) hK hP hD hS hA [0, 1, 2, 3, 4, 5] [] rfl rfl (by decide) (by decide) (fun u9 H locs hphi_67 hK hP hD hS => ?_)
              obtain ⟨b1_1, z1_1⟩ := u9
              have hK : va_K (dC, dI) vwCl [(kx, .int), (kw, .int), (kb, .int), (kn, .int), (kg, .int)] s := hK
              have hP : va_P (dC, dI) vwCl [(o, .inr (3, [.int th, .int (nI ph), .int (zI og), .ref qx, .ref qk, .ref qw, .ref qb, .ref qn, .long mh, .long ml, .long nc, .int rs, .int (nI na), .ref qd, .int (nI nz), .ref qg, .long t1, .long t2])), (qx, .inl (kx, 256, .inl (nF sb))), (qw, .inl (kw, 44, .inl w)), (qb, .inl (kb, 16, .inl (nF b1_1))), (qn, .inl (kn, 16, .inl (nF z1_1))), (qg, .inl (kg, 96, .inl (nF gv)))] H := hP
              have hD : va_D A [(o, .inr (3, [.int th, .int (nI ph), .int (zI og), .ref qx, .ref qk, .ref qw, .ref qb, .ref qn, .long mh, .long ml, .long nc, .int rs, .int (nI na), .ref qd, .int (nI nz), .ref qg, .long t1, .long t2])), (qx, .inl (kx, 256, .inl (nF sb))), (qw, .inl (kw, 44, .inl w)), (qb, .inl (kb, 16, .inl (nF b1_1))), (qn, .inl (kn, 16, .inl (nF z1_1))), (qg, .inl (kg, 96, .inl (nF gv)))] := hD
              refine W.widen (k := 0) (n := 0) (Nat.le_of_ble_eq_true rfl) (Nat.le_of_ble_eq_true rfl) ?_
              refine w_pc (pc2 := 70) rfl ?_
              refine lv_istore hx hb dX3_fold_70 hl (by decide) rfl (fun ls hl => ?_)
              have hl : lv_has ls 14 [(13, .int (nI (syN og sb w nc rs gv (fr + k)))), (7, .long (lN (jbN (syN og sb w nc rs gv) fr nz (mn8 k)))), (9, .long (lN (jbN (syN og sb w nc rs gv) (fr + 8) nz (k - 8)))), (12, .int (nI k)), (11, .int (nI nz)), (0, .ref o), (1, .int (nI 0)), (2, .int (nI fr)), (3, .long fh), (5, .long fw)] := hl
              refine lv_iload hx hb dX3_fold_72 (lv_at hl 3 rfl) ?_
              refine lv_bipush (v := nI 8) hx hb dX3_fold_74 (by decide) ?_
              refine lv_icmp_ge (tgt := 91) hx hb dX3_fold_76 (by decide) (fun hc_76 => ?_) (fun hc_76 => ?_)
              · skip
                have hc_76 := (ix_le (a := 8) (b := k) (by omega) (by omega)).mp hc_76
                have hc_76 : (8 ≤ k) := hc_76
                refine lv_lload hx hb dX3_fold_91 (lv_at hl 1 rfl) ?_
                refine lv_lstore hx hb dX3_fold_93 hl (by decide) rfl (fun ls hl => ?_)
                have hl : lv_has ls 14 [(7, .long (lN (jbN (syN og sb w nc rs gv) fr nz (mn8 k)))), (13, .int (nI (syN og sb w nc rs gv (fr + k)))), (9, .long (lN (jbN (syN og sb w nc rs gv) (fr + 8) nz (k - 8)))), (12, .int (nI k)), (11, .int (nI nz)), (0, .ref o), (1, .int (nI 0)), (2, .int (nI fr)), (3, .long fh), (5, .long fw)] := hl
                refine lv_iload hx hb dX3_fold_95 (lv_at hl 3 rfl) ?_
                refine lv_bipush (v := nI 8) hx hb dX3_fold_97 (by decide) ?_
                refine lv_icmp_ge (tgt := 107) hx hb dX3_fold_99 (by decide) (fun hc_99 => ?_) (fun hc_99 => ?_)
                · skip
                  have hc_99 := (ix_le (a := 8) (b := k) (by omega) (by omega)).mp hc_99
                  have hc_99 : (8 ≤ k) := hc_99
                  refine lv_lload hx hb dX3_fold_107 (lv_at hl 2 rfl) ?_
                  refine lv_bipush (v := nI 8) hx hb dX3_fold_109 (by decide) ?_
                  refine lv_lshl hx hb dX3_fold_111 rfl (top_l (wb_shl _ (by decide)) ?_)
                  refine lv_iload hx hb dX3_fold_112 (lv_at hl 1 rfl) ?_
                  refine lv_i2l hx hb dX3_fold_114 rfl (top_l (nI_l (by first | decide | exact Nat.lt_trans (syN_lt s256 g256 _) (by decide))) ?_)
                  refine lv_lor hx hb dX3_fold_115 (top_l (l_or _ _) ?_)
                  refine lv_lstore hx hb dX3_fold_116 hl (by decide) rfl (fun ls hl => ?_)
                  have hl : lv_has ls 14 [(9, .long (lN (((jbN (syN og sb w nc rs gv) (fr + 8) nz (k - 8)) * 2 ^ 8) ||| (syN og sb w nc rs gv (fr + k))))), (7, .long (lN (jbN (syN og sb w nc rs gv) fr nz (mn8 k)))), (13, .int (nI (syN og sb w nc rs gv (fr + k)))), (12, .int (nI k)), (11, .int (nI nz)), (0, .ref o), (1, .int (nI 0)), (2, .int (nI fr)), (3, .long fh), (5, .long fw)] := hl
                  refine lv_iinc (v := nI (k + 1)) (k := 3) hx hb dX3_fold_118 hl rfl (ix_inc _ 1) (by decide) rfl (fun ls hl => ?_)
                  have hl : lv_has ls 14 [(12, .int (nI (k + 1))), (9, .long (lN (((jbN (syN og sb w nc rs gv) (fr + 8) nz (k - 8)) * 2 ^ 8) ||| (syN og sb w nc rs gv (fr + k))))), (7, .long (lN (jbN (syN og sb w nc rs gv) fr nz (mn8 k)))), (13, .int (nI (syN og sb w nc rs gv (fr + k)))), (11, .int (nI nz)), (0, .ref o), (1, .int (nI 0)), (2, .int (nI fr)), (3, .long fh), (5, .long fw)] := hl
                  refine lv_goto (tgt := 26) hx hb dX3_fold_121 (by decide) ?_
                  have hl := lv_re hl 2 rfl (v2 := .long (lN (jbN (syN og sb w nc rs gv) fr nz (mn8 (k + 1))))) (congrArg Value.long (congrArg lN (fo1n (by omega)))) rfl
                  have hl : lv_has ls 14 [(12, .int (nI (k + 1))), (9, .long (lN (((jbN (syN og sb w nc rs gv) (fr + 8) nz (k - 8)) * 2 ^ 8) ||| (syN og sb w nc rs gv (fr + k))))), (7, .long (lN (jbN (syN og sb w nc rs gv) fr nz (mn8 (k + 1))))), (13, .int (nI (syN og sb w nc rs gv (fr + k)))), (11, .int (nI nz)), (0, .ref o), (1, .int (nI 0)), (2, .int (nI fr)), (3, .long fh), (5, .long fw)] := hl
                  have hl := lv_re hl 1 rfl (v2 := .long (lN (jbN (syN og sb w nc rs gv) (fr + 8) nz ((k + 1) - 8)))) (congrArg Value.long (congrArg lN (fo2b (by omega) (by omega)))) rfl
                  have hl : lv_has ls 14 [(12, .int (nI (k + 1))), (9, .long (lN (jbN (syN og sb w nc rs gv) (fr + 8) nz ((k + 1) - 8)))), (7, .long (lN (jbN (syN og sb w nc rs gv) fr nz (mn8 (k + 1))))), (13, .int (nI (syN og sb w nc rs gv (fr + k)))), (11, .int (nI nz)), (0, .ref o), (1, .int (nI 0)), (2, .int (nI fr)), (3, .long fh), (5, .long fw)] := hl
                  exact ih (k + 1) b1_1 z1_1 ls H locs (by omega)  (lv_sub hl [2, 1, 0, 4, 5, 6, 7, 8, 9] rfl) hP hD hS
                · skip
                  have hc_99 := (not_congr (ix_le (a := 8) (b := k) (by omega) (by omega))).mp hc_99
                  have hc_99 : ¬ (8 ≤ k) := hc_99
                  exfalso; omega
              · skip
                have hc_76 := (not_congr (ix_le (a := 8) (b := k) (by omega) (by omega))).mp hc_76
                have hc_76 : ¬ (8 ≤ k) := hc_76
                refine lv_lload hx hb dX3_fold_79 (lv_at hl 1 rfl) ?_
                refine lv_bipush (v := nI 8) hx hb dX3_fold_81 (by decide) ?_
                refine lv_lshl hx hb dX3_fold_83 rfl (top_l (wb_shl _ (by decide)) ?_)
                refine lv_iload hx hb dX3_fold_84 (lv_at hl 0 rfl) ?_
                refine lv_i2l hx hb dX3_fold_86 rfl (top_l (nI_l (by first | decide | exact Nat.lt_trans (syN_lt s256 g256 _) (by decide))) ?_)
                refine lv_lor hx hb dX3_fold_87 (top_l (l_or _ _) ?_)
                refine lv_goto (tgt := 93) hx hb dX3_fold_88 (by decide) ?_
                refine lv_lstore hx hb dX3_fold_93 hl (by decide) rfl (fun ls hl => ?_)
                have hl : lv_has ls 14 [(7, .long (lN (((jbN (syN og sb w nc rs gv) fr nz (mn8 k)) * 2 ^ 8) ||| (syN og sb w nc rs gv (fr + k))))), (13, .int (nI (syN og sb w nc rs gv (fr + k)))), (9, .long (lN (jbN (syN og sb w nc rs gv) (fr + 8) nz (k - 8)))), (12, .int (nI k)), (11, .int (nI nz)), (0, .ref o), (1, .int (nI 0)), (2, .int (nI fr)), (3, .long fh), (5, .long fw)] := hl
                refine lv_iload hx hb dX3_fold_95 (lv_at hl 3 rfl) ?_
                refine lv_bipush (v := nI 8) hx hb dX3_fold_97 (by decide) ?_
                refine lv_icmp_ge (tgt := 107) hx hb dX3_fold_99 (by decide) (fun hc_99 => ?_) (fun hc_99 => ?_)
                · skip
                  have hc_99 := (ix_le (a := 8) (b := k) (by omega) (by omega)).mp hc_99
                  have hc_99 : (8 ≤ k) := hc_99
                  exfalso; omega
                · skip
                  have hc_99 := (not_congr (ix_le (a := 8) (b := k) (by omega) (by omega))).mp hc_99
                  have hc_99 : ¬ (8 ≤ k) := hc_99
                  refine lv_lload hx hb dX3_fold_102 (lv_at hl 2 rfl) ?_
                  refine lv_goto (tgt := 116) hx hb dX3_fold_104 (by decide) ?_
                  refine lv_lstore hx hb dX3_fold_116 hl (by decide) rfl (fun ls hl => ?_)
                  have hl : lv_has ls 14 [(9, .long (lN (jbN (syN og sb w nc rs gv) (fr + 8) nz (k - 8)))), (7, .long (lN (((jbN (syN og sb w nc rs gv) fr nz (mn8 k)) * 2 ^ 8) ||| (syN og sb w nc rs gv (fr + k))))), (13, .int (nI (syN og sb w nc rs gv (fr + k)))), (12, .int (nI k)), (11, .int (nI nz)), (0, .ref o), (1, .int (nI 0)), (2, .int (nI fr)), (3, .long fh), (5, .long fw)] := hl
                  refine lv_iinc (v := nI (k + 1)) (k := 3) hx hb dX3_fold_118 hl rfl (ix_inc _ 1) (by decide) rfl (fun ls hl => ?_)
                  have hl : lv_has ls 14 [(12, .int (nI (k + 1))), (9, .long (lN (jbN (syN og sb w nc rs gv) (fr + 8) nz (k - 8)))), (7, .long (lN (((jbN (syN og sb w nc rs gv) fr nz (mn8 k)) * 2 ^ 8) ||| (syN og sb w nc rs gv (fr + k))))), (13, .int (nI (syN og sb w nc rs gv (fr + k)))), (11, .int (nI nz)), (0, .ref o), (1, .int (nI 0)), (2, .int (nI fr)), (3, .long fh), (5, .long fw)] := hl
                  refine lv_goto (tgt := 26) hx hb dX3_fold_121 (by decide) ?_
                  have hl := lv_re hl 2 rfl (v2 := .long (lN (jbN (syN og sb w nc rs gv) fr nz (mn8 (k + 1))))) (congrArg Value.long (congrArg lN (fo1b (by omega) (by omega)))) rfl
                  have hl : lv_has ls 14 [(12, .int (nI (k + 1))), (9, .long (lN (jbN (syN og sb w nc rs gv) (fr + 8) nz (k - 8)))), (7, .long (lN (jbN (syN og sb w nc rs gv) fr nz (mn8 (k + 1))))), (13, .int (nI (syN og sb w nc rs gv (fr + k)))), (11, .int (nI nz)), (0, .ref o), (1, .int (nI 0)), (2, .int (nI fr)), (3, .long fh), (5, .long fw)] := hl
                  have hl := lv_re hl 1 rfl (v2 := .long (lN (jbN (syN og sb w nc rs gv) (fr + 8) nz ((k + 1) - 8)))) (congrArg Value.long (congrArg lN (fo2n (by omega)))) rfl
                  have hl : lv_has ls 14 [(12, .int (nI (k + 1))), (9, .long (lN (jbN (syN og sb w nc rs gv) (fr + 8) nz ((k + 1) - 8)))), (7, .long (lN (jbN (syN og sb w nc rs gv) fr nz (mn8 (k + 1))))), (13, .int (nI (syN og sb w nc rs gv (fr + k)))), (11, .int (nI nz)), (0, .ref o), (1, .int (nI 0)), (2, .int (nI fr)), (3, .long fh), (5, .long fw)] := hl
                  exact ih (k + 1) b1_1 z1_1 ls H locs (by omega)  (lv_sub hl [2, 1, 0, 4, 5, 6, 7, 8, 9] rfl) hP hD hS
            · skip
              have hc_47 := (not_congr (ix_eq (a := 0) (b := 0) (by omega) (by omega))).mp hc_47
              have hc_47 : ¬ (0 = 0) := hc_47
              exfalso; omega
          · skip
            have hc_39 := (not_congr (ix_lt (a := fr + k) (b := nz) (by omega) (by omega))).mp hc_39
            have hc_39 : ¬ ((fr + k) < nz) := hc_39
            refine lv_iconst (v := nI 0) hx hb dX3_fold_42 (by decide) ?_
            refine lv_goto (tgt := 70) hx hb dX3_fold_43 (by decide) ?_
            refine lv_istore hx hb dX3_fold_70 hl (by decide) rfl (fun ls hl => ?_)
            have hl : lv_has ls 14 [(13, .int (nI 0)), (7, .long (lN (jbN (syN og sb w nc rs gv) fr nz (mn8 k)))), (9, .long (lN (jbN (syN og sb w nc rs gv) (fr + 8) nz (k - 8)))), (12, .int (nI k)), (11, .int (nI nz)), (0, .ref o), (1, .int (nI 0)), (2, .int (nI fr)), (3, .long fh), (5, .long fw)] := hl
            refine lv_iload hx hb dX3_fold_72 (lv_at hl 3 rfl) ?_
            refine lv_bipush (v := nI 8) hx hb dX3_fold_74 (by decide) ?_
            refine lv_icmp_ge (tgt := 91) hx hb dX3_fold_76 (by decide) (fun hc_76 => ?_) (fun hc_76 => ?_)
            · skip
              have hc_76 := (ix_le (a := 8) (b := k) (by omega) (by omega)).mp hc_76
              have hc_76 : (8 ≤ k) := hc_76
              refine lv_lload hx hb dX3_fold_91 (lv_at hl 1 rfl) ?_
              refine lv_lstore hx hb dX3_fold_93 hl (by decide) rfl (fun ls hl => ?_)
              have hl : lv_has ls 14 [(7, .long (lN (jbN (syN og sb w nc rs gv) fr nz (mn8 k)))), (13, .int (nI 0)), (9, .long (lN (jbN (syN og sb w nc rs gv) (fr + 8) nz (k - 8)))), (12, .int (nI k)), (11, .int (nI nz)), (0, .ref o), (1, .int (nI 0)), (2, .int (nI fr)), (3, .long fh), (5, .long fw)] := hl
              refine lv_iload hx hb dX3_fold_95 (lv_at hl 3 rfl) ?_
              refine lv_bipush (v := nI 8) hx hb dX3_fold_97 (by decide) ?_
              refine lv_icmp_ge (tgt := 107) hx hb dX3_fold_99 (by decide) (fun hc_99 => ?_) (fun hc_99 => ?_)
              · skip
                have hc_99 := (ix_le (a := 8) (b := k) (by omega) (by omega)).mp hc_99
                have hc_99 : (8 ≤ k) := hc_99
                refine lv_lload hx hb dX3_fold_107 (lv_at hl 2 rfl) ?_
                refine lv_bipush (v := nI 8) hx hb dX3_fold_109 (by decide) ?_
                refine lv_lshl hx hb dX3_fold_111 rfl (top_l (wb_shl _ (by decide)) ?_)
                refine lv_iload hx hb dX3_fold_112 (lv_at hl 1 rfl) ?_
                refine lv_i2l hx hb dX3_fold_114 rfl (top_l (nI_l (by first | decide | exact Nat.lt_trans (syN_lt s256 g256 _) (by decide))) ?_)
                refine lv_lor hx hb dX3_fold_115 (top_l (l_or _ _) ?_)
                refine lv_lstore hx hb dX3_fold_116 hl (by decide) rfl (fun ls hl => ?_)
                have hl : lv_has ls 14 [(9, .long (lN (((jbN (syN og sb w nc rs gv) (fr + 8) nz (k - 8)) * 2 ^ 8) ||| 0))), (7, .long (lN (jbN (syN og sb w nc rs gv) fr nz (mn8 k)))), (13, .int (nI 0)), (12, .int (nI k)), (11, .int (nI nz)), (0, .ref o), (1, .int (nI 0)), (2, .int (nI fr)), (3, .long fh), (5, .long fw)] := hl
                refine lv_iinc (v := nI (k + 1)) (k := 3) hx hb dX3_fold_118 hl rfl (ix_inc _ 1) (by decide) rfl (fun ls hl => ?_)
                have hl : lv_has ls 14 [(12, .int (nI (k + 1))), (9, .long (lN (((jbN (syN og sb w nc rs gv) (fr + 8) nz (k - 8)) * 2 ^ 8) ||| 0))), (7, .long (lN (jbN (syN og sb w nc rs gv) fr nz (mn8 k)))), (13, .int (nI 0)), (11, .int (nI nz)), (0, .ref o), (1, .int (nI 0)), (2, .int (nI fr)), (3, .long fh), (5, .long fw)] := hl
                refine lv_goto (tgt := 26) hx hb dX3_fold_121 (by decide) ?_
                have hl := lv_re hl 2 rfl (v2 := .long (lN (jbN (syN og sb w nc rs gv) fr nz (mn8 (k + 1))))) (congrArg Value.long (congrArg lN (fo1n (by omega)))) rfl
                have hl : lv_has ls 14 [(12, .int (nI (k + 1))), (9, .long (lN (((jbN (syN og sb w nc rs gv) (fr + 8) nz (k - 8)) * 2 ^ 8) ||| 0))), (7, .long (lN (jbN (syN og sb w nc rs gv) fr nz (mn8 (k + 1))))), (13, .int (nI 0)), (11, .int (nI nz)), (0, .ref o), (1, .int (nI 0)), (2, .int (nI fr)), (3, .long fh), (5, .long fw)] := hl
                have hl := lv_re hl 1 rfl (v2 := .long (lN (jbN (syN og sb w nc rs gv) (fr + 8) nz ((k + 1) - 8)))) (congrArg Value.long (congrArg lN (fo2z (by omega) (by omega)))) rfl
                have hl : lv_has ls 14 [(12, .int (nI (k + 1))), (9, .long (lN (jbN (syN og sb w nc rs gv) (fr + 8) nz ((k + 1) - 8)))), (7, .long (lN (jbN (syN og sb w nc rs gv) fr nz (mn8 (k + 1))))), (13, .int (nI 0)), (11, .int (nI nz)), (0, .ref o), (1, .int (nI 0)), (2, .int (nI fr)), (3, .long fh), (5, .long fw)] := hl
                exact ih (k + 1) b9 z9 ls H locs (by omega)  (lv_sub hl [2, 1, 0, 4, 5, 6, 7, 8, 9] rfl) hP hD hS
              · skip
                have hc_99 := (not_congr (ix_le (a := 8) (b := k) (by omega) (by omega))).mp hc_99
                have hc_99 : ¬ (8 ≤ k) := hc_99
                exfalso; omega
            · skip
              have hc_76 := (not_congr (ix_le (a := 8) (b := k) (by omega) (by omega))).mp hc_76
              have hc_76 : ¬ (8 ≤ k) := hc_76
              refine lv_lload hx hb dX3_fold_79 (lv_at hl 1 rfl) ?_
              refine lv_bipush (v := nI 8) hx hb dX3_fold_81 (by decide) ?_
              refine lv_lshl hx hb dX3_fold_83 rfl (top_l (wb_shl _ (by decide)) ?_)
              refine lv_iload hx hb dX3_fold_84 (lv_at hl 0 rfl) ?_
              refine lv_i2l hx hb dX3_fold_86 rfl (top_l (nI_l (by first | decide | exact Nat.lt_trans (syN_lt s256 g256 _) (by decide))) ?_)
              refine lv_lor hx hb dX3_fold_87 (top_l (l_or _ _) ?_)
              refine lv_goto (tgt := 93) hx hb dX3_fold_88 (by decide) ?_
              refine lv_lstore hx hb dX3_fold_93 hl (by decide) rfl (fun ls hl => ?_)
              have hl : lv_has ls 14 [(7, .long (lN (((jbN (syN og sb w nc rs gv) fr nz (mn8 k)) * 2 ^ 8) ||| 0))), (13, .int (nI 0)), (9, .long (lN (jbN (syN og sb w nc rs gv) (fr + 8) nz (k - 8)))), (12, .int (nI k)), (11, .int (nI nz)), (0, .ref o), (1, .int (nI 0)), (2, .int (nI fr)), (3, .long fh), (5, .long fw)] := hl
              refine lv_iload hx hb dX3_fold_95 (lv_at hl 3 rfl) ?_
              refine lv_bipush (v := nI 8) hx hb dX3_fold_97 (by decide) ?_
              refine lv_icmp_ge (tgt := 107) hx hb dX3_fold_99 (by decide) (fun hc_99 => ?_) (fun hc_99 => ?_)
              · skip
                have hc_99 := (ix_le (a := 8) (b := k) (by omega) (by omega)).mp hc_99
                have hc_99 : (8 ≤ k) := hc_99
                exfalso; omega
              · skip
                have hc_99 := (not_congr (ix_le (a := 8) (b := k) (by omega) (by omega))).mp hc_99
                have hc_99 : ¬ (8 ≤ k) := hc_99
                refine lv_lload hx hb dX3_fold_102 (lv_at hl 2 rfl) ?_
                refine lv_goto (tgt := 116) hx hb dX3_fold_104 (by decide) ?_
                refine lv_lstore hx hb dX3_fold_116 hl (by decide) rfl (fun ls hl => ?_)
                have hl : lv_has ls 14 [(9, .long (lN (jbN (syN og sb w nc rs gv) (fr + 8) nz (k - 8)))), (7, .long (lN (((jbN (syN og sb w nc rs gv) fr nz (mn8 k)) * 2 ^ 8) ||| 0))), (13, .int (nI 0)), (12, .int (nI k)), (11, .int (nI nz)), (0, .ref o), (1, .int (nI 0)), (2, .int (nI fr)), (3, .long fh), (5, .long fw)] := hl
                refine lv_iinc (v := nI (k + 1)) (k := 3) hx hb dX3_fold_118 hl rfl (ix_inc _ 1) (by decide) rfl (fun ls hl => ?_)
                have hl : lv_has ls 14 [(12, .int (nI (k + 1))), (9, .long (lN (jbN (syN og sb w nc rs gv) (fr + 8) nz (k - 8)))), (7, .long (lN (((jbN (syN og sb w nc rs gv) fr nz (mn8 k)) * 2 ^ 8) ||| 0))), (13, .int (nI 0)), (11, .int (nI nz)), (0, .ref o), (1, .int (nI 0)), (2, .int (nI fr)), (3, .long fh), (5, .long fw)] := hl
                refine lv_goto (tgt := 26) hx hb dX3_fold_121 (by decide) ?_
                have hl := lv_re hl 2 rfl (v2 := .long (lN (jbN (syN og sb w nc rs gv) fr nz (mn8 (k + 1))))) (congrArg Value.long (congrArg lN (fo1z (by omega) (by omega)))) rfl
                have hl : lv_has ls 14 [(12, .int (nI (k + 1))), (9, .long (lN (jbN (syN og sb w nc rs gv) (fr + 8) nz (k - 8)))), (7, .long (lN (jbN (syN og sb w nc rs gv) fr nz (mn8 (k + 1))))), (13, .int (nI 0)), (11, .int (nI nz)), (0, .ref o), (1, .int (nI 0)), (2, .int (nI fr)), (3, .long fh), (5, .long fw)] := hl
                have hl := lv_re hl 1 rfl (v2 := .long (lN (jbN (syN og sb w nc rs gv) (fr + 8) nz ((k + 1) - 8)))) (congrArg Value.long (congrArg lN (fo2n (by omega)))) rfl
                have hl : lv_has ls 14 [(12, .int (nI (k + 1))), (9, .long (lN (jbN (syN og sb w nc rs gv) (fr + 8) nz ((k + 1) - 8)))), (7, .long (lN (jbN (syN og sb w nc rs gv) fr nz (mn8 (k + 1))))), (13, .int (nI 0)), (11, .int (nI nz)), (0, .ref o), (1, .int (nI 0)), (2, .int (nI fr)), (3, .long fh), (5, .long fw)] := hl
                exact ih (k + 1) b9 z9 ls H locs (by omega)  (lv_sub hl [2, 1, 0, 4, 5, 6, 7, 8, 9] rfl) hP hD hS
    exact loop_26 16 0 b z ls H locs (by omega)  (lv_sub hl [3, 2, 0, 1, 4, 5, 6, 7, 8] rfl) hP hD hS
  · skip
    have hc_7 := (not_congr (ix_eq (a := 0) (b := 0) (by omega) (by omega))).mp hc_7
    have hc_7 : ¬ (0 = 0) := hc_7
    exfalso; omega

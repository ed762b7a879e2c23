def rm_m_expand : Room := { frames := 2, cells := 0, slots := 0, locals := 44 }
set_option maxHeartbeats 4000000 in
set_option maxRecDepth 100000 in
/-- expand(hi, lo) -/
theorem m_expand (l : Launch) (dC : Nat → ClassId) (dI : Nat → Nat → Nat) (o : Nat) (th : Int32) (ph : Nat) (og : Bool) (qx : Nat) (qk : Nat) (qw : Nat) (qb : Nat) (qn : Nat) (mh : Int64) (ml : Int64) (nc : Int64) (rs : Int32) (na : Nat) (qd : Nat) (nz : Nat) (qg : Nat) (t1 : Int64) (t2 : Int64) (kx : ClassId) (kw : ClassId) (sb : Nat → Nat) (w : Nat → Int32) (hi : Int64) (lo : Int64) : MO l dC dI yX3_expand wsX3_expand rm_m_expand [.ref o, .long hi, .long lo] [(o, .inr (3, [.int th, .int (nI ph), .int (zI og), .ref qx, .ref qk, .ref qw, .ref qb, .ref qn, .long mh, .long ml, .long nc, .int rs, .int (nI na), .ref qd, .int (nI nz), .ref qg, .long t1, .long t2])), (qx, .inl (kx, 256, .inl (nF sb))), (qw, .inl (kw, 44, .inl w))] [(kx, .int), (kw, .int)] [(o, .inr (3, [.int th, .int (nI ph), .int (zI og), .ref qx, .ref qk, .ref qw, .ref qb, .ref qn, .long mh, .long ml, .long nc, .int rs, .int (nI na), .ref qd, .int (nI nz), .ref qg, .long t1, .long t2])), (qx, .inl (kx, 256, .inl (nF sb))), (qw, .inl (kw, 44, .inl (kwN sb hi lo)))] none := by
  refine mo_ofW (cc := cX3_expand) (maxL := 8) (ret := none) (by decide) rfl (Nat.le_of_ble_eq_true rfl) ?_
  intro p e s m args below meth c Q A H locs ls hx hb hr hlk hml hta hown hin hE hQ hAe hA hK hP hD hS hl
  have hown : s.vm.findClass RX3 = some m.cls := hown
  have hl : lv_has ls 8 [(0, .ref o), (1, .long hi), (3, .long lo)] := hl
  refine lv_aload_n hx hb dX3_expand_0 rfl (lv_at hl 0 rfl) ?_
  refine va_get (D := (dC, dI)) (ci := 3) (v := .ref qw) (C := RX3) (T := TX3) (N := 18) hx hb hta inX3 hown hK hP 0 rfl rfl 5 (by decide) (hta _ mw_462) (fun _ h9 => h9) rfl dX3_expand_1 ?_
  refine lv_iconst (v := nI 0) hx hb dX3_expand_4 (by decide) ?_
  refine lv_lload_n hx hb dX3_expand_5 rfl (lv_at hl 1 rfl) ?_
  refine lv_bipush (v := nI 32) hx hb dX3_expand_6 (by decide) ?_
  refine lv_lshr hx hb dX3_expand_8 rfl ?_
  refine lv_l2i hx hb dX3_expand_9 rfl ?_
  refine top_i (y := nI (lW hi / 2 ^ 32)) (l_s32 _) ?_
  refine va_iasn hx hb hK hP hD hS 2 1 rfl rfl (by omega) (by decide) dX3_expand_10 (fun H locs hP hD hS => ?_)
  have hP : va_P (dC, dI) vwCl [(o, .inr (3, [.int th, .int (nI ph), .int (zI og), .ref qx, .ref qk, .ref qw, .ref qb, .ref qn, .long mh, .long ml, .long nc, .int rs, .int (nI na), .ref qd, .int (nI nz), .ref qg, .long t1, .long t2])), (qx, .inl (kx, 256, .inl (nF sb))), (qw, .inl (kw, 44, .inl (upd w 0 (nI (lW hi / 2 ^ 32)))))] H := hP
  have hD : va_D A [(o, .inr (3, [.int th, .int (nI ph), .int (zI og), .ref qx, .ref qk, .ref qw, .ref qb, .ref qn, .long mh, .long ml, .long nc, .int rs, .int (nI na), .ref qd, .int (nI nz), .ref qg, .long t1, .long t2])), (qx, .inl (kx, 256, .inl (nF sb))), (qw, .inl (kw, 44, .inl (upd w 0 (nI (lW hi / 2 ^ 32)))))] := hD
  refine lv_aload_n hx hb dX3_expand_11 rfl (lv_at hl 0 rfl) ?_
  refine va_get (D := (dC, dI)) (ci := 3) (v := .ref qw) (C := RX3) (T := TX3) (N := 18) hx hb hta inX3 hown hK hP 0 rfl rfl 5 (by decide) (hta _ mw_462) (fun _ h9 => h9) rfl dX3_expand_12 ?_
  refine lv_iconst (v := nI 1) hx hb dX3_expand_15 (by decide) ?_
  refine w_pc (pc2 := 16) rfl ?_
  refine lv_lload_n hx hb dX3_expand_16 rfl (lv_at hl 1 rfl) ?_
  refine lv_l2i hx hb dX3_expand_17 rfl (top_i (l_toI _) ?_)
  refine va_iasn hx hb hK hP hD hS 2 1 rfl rfl (by omega) (by decide) dX3_expand_18 (fun H locs hP hD hS => ?_)
  have hP : va_P (dC, dI) vwCl [(o, .inr (3, [.int th, .int (nI ph), .int (zI og), .ref qx, .ref qk, .ref qw, .ref qb, .ref qn, .long mh, .long ml, .long nc, .int rs, .int (nI na), .ref qd, .int (nI nz), .ref qg, .long t1, .long t2])), (qx, .inl (kx, 256, .inl (nF sb))), (qw, .inl (kw, 44, .inl (upd (upd w 0 (nI (lW hi / 2 ^ 32))) 1 (nI (lW hi)))))] H := hP
  have hD : va_D A [(o, .inr (3, [.int th, .int (nI ph), .int (zI og), .ref qx, .ref qk, .ref qw, .ref qb, .ref qn, .long mh, .long ml, .long nc, .int rs, .int (nI na), .ref qd, .int (nI nz), .ref qg, .long t1, .long t2])), (qx, .inl (kx, 256, .inl (nF sb))), (qw, .inl (kw, 44, .inl (upd (upd w 0 (nI (lW hi / 2 ^ 32))) 1 (nI (lW hi)))))] := hD
  refine lv_aload_n hx hb dX3_expand_19 rfl (lv_at hl 0 rfl) ?_
  refine va_get (D := (dC, dI)) (ci := 3) (v := .ref qw) (C := RX3) (T := TX3) (N := 18) hx hb hta inX3 hown hK hP 0 rfl rfl 5 (by decide) (hta _ mw_462) (fun _ h9 => h9) rfl dX3_expand_20 ?_
  refine lv_iconst (v := nI 2) hx hb dX3_expand_23 (by decide) ?_
  refine lv_lload_n hx hb dX3_expand_24 rfl (lv_at hl 2 rfl) ?_
  refine lv_bipush (v := nI 32) hx hb dX3_expand_25 (by decide) ?_
  refine lv_lshr hx hb dX3_expand_27 rfl ?_
  refine lv_l2i hx hb dX3_expand_28 rfl ?_
  refine top_i (y := nI (lW lo / 2 ^ 32)) (l_s32 _) ?_
  refine va_iasn hx hb hK hP hD hS 2 1 rfl rfl (by omega) (by decide) dX3_expand_29 (fun H locs hP hD hS => ?_)
  have hP : va_P (dC, dI) vwCl [(o, .inr (3, [.int th, .int (nI ph), .int (zI og), .ref qx, .ref qk, .ref qw, .ref qb, .ref qn, .long mh, .long ml, .long nc, .int rs, .int (nI na), .ref qd, .int (nI nz), .ref qg, .long t1, .long t2])), (qx, .inl (kx, 256, .inl (nF sb))), (qw, .inl (kw, 44, .inl (upd (upd (upd w 0 (nI (lW hi / 2 ^ 32))) 1 (nI (lW hi))) 2 (nI (lW lo / 2 ^ 32)))))] H := hP
  have hD : va_D A [(o, .inr (3, [.int th, .int (nI ph), .int (zI og), .ref qx, .ref qk, .ref qw, .ref qb, .ref qn, .long mh, .long ml, .long nc, .int rs, .int (nI na), .ref qd, .int (nI nz), .ref qg, .long t1, .long t2])), (qx, .inl (kx, 256, .inl (nF sb))), (qw, .inl (kw, 44, .inl (upd (upd (upd w 0 (nI (lW hi / 2 ^ 32))) 1 (nI (lW hi))) 2 (nI (lW lo / 2 ^ 32)))))] := hD
  refine lv_aload_n hx hb dX3_expand_30 rfl (lv_at hl 0 rfl) ?_
  refine w_pc (pc2 := 31) rfl ?_
  refine va_get (D := (dC, dI)) (ci := 3) (v := .ref qw) (C := RX3) (T := TX3) (N := 18) hx hb hta inX3 hown hK hP 0 rfl rfl 5 (by decide) (hta _ mw_462) (fun _ h9 => h9) rfl dX3_expand_31 ?_
  refine lv_iconst (v := nI 3) hx hb dX3_expand_34 (by decide) ?_
  refine lv_lload_n hx hb dX3_expand_35 rfl (lv_at hl 2 rfl) ?_
  refine lv_l2i hx hb dX3_expand_36 rfl (top_i (l_toI _) ?_)
  refine va_iasn hx hb hK hP hD hS 2 1 rfl rfl (by omega) (by decide) dX3_expand_37 (fun H locs hP hD hS => ?_)
  have hP : va_P (dC, dI) vwCl [(o, .inr (3, [.int th, .int (nI ph), .int (zI og), .ref qx, .ref qk, .ref qw, .ref qb, .ref qn, .long mh, .long ml, .long nc, .int rs, .int (nI na), .ref qd, .int (nI nz), .ref qg, .long t1, .long t2])), (qx, .inl (kx, 256, .inl (nF sb))), (qw, .inl (kw, 44, .inl (upd (upd (upd (upd w 0 (nI (lW hi / 2 ^ 32))) 1 (nI (lW hi))) 2 (nI (lW lo / 2 ^ 32))) 3 (nI (lW lo)))))] H := hP
  have hD : va_D A [(o, .inr (3, [.int th, .int (nI ph), .int (zI og), .ref qx, .ref qk, .ref qw, .ref qb, .ref qn, .long mh, .long ml, .long nc, .int rs, .int (nI na), .ref qd, .int (nI nz), .ref qg, .long t1, .long t2])), (qx, .inl (kx, 256, .inl (nF sb))), (qw, .inl (kw, 44, .inl (upd (upd (upd (upd w 0 (nI (lW hi / 2 ^ 32))) 1 (nI (lW hi))) 2 (nI (lW lo / 2 ^ 32))) 3 (nI (lW lo)))))] := hD
  refine lv_iconst (v := nI 1) hx hb dX3_expand_38 (by decide) ?_
  refine lv_istore hx hb dX3_expand_39 hl (by decide) rfl (fun ls hl => ?_)
  have hl : lv_has ls 8 [(5, .int (nI 1)), (0, .ref o), (1, .long hi), (3, .long lo)] := hl
  refine lv_iconst (v := nI 4) hx hb dX3_expand_41 (by decide) ?_
  refine lv_istore hx hb dX3_expand_42 hl (by decide) rfl (fun ls hl => ?_)
  have hl : lv_has ls 8 [(6, .int (nI 4)), (5, .int (nI 1)), (0, .ref o), (1, .long hi), (3, .long lo)] := hl
  obtain ⟨hP, hD⟩ := va_rec (g := ksN sb (kw0 hi lo w) 0) hP hD 2 rfl (fun i _ => rfl)
  have hP : va_P (dC, dI) vwCl [(o, .inr (3, [.int th, .int (nI ph), .int (zI og), .ref qx, .ref qk, .ref qw, .ref qb, .ref qn, .long mh, .long ml, .long nc, .int rs, .int (nI na), .ref qd, .int (nI nz), .ref qg, .long t1, .long t2])), (qx, .inl (kx, 256, .inl (nF sb))), (qw, .inl (kw, 44, .inl (ksN sb (kw0 hi lo w) 0)))] H := hP
  have hD : va_D A [(o, .inr (3, [.int th, .int (nI ph), .int (zI og), .ref qx, .ref qk, .ref qw, .ref qb, .ref qn, .long mh, .long ml, .long nc, .int rs, .int (nI na), .ref qd, .int (nI nz), .ref qg, .long t1, .long t2])), (qx, .inl (kx, 256, .inl (nF sb))), (qw, .inl (kw, 44, .inl (ksN sb (kw0 hi lo w) 0)))] := hD
  have loop_44 : ∀ (n k : Nat) (ls : Array Slot) (H : Heap) (locs : List Loc), k + n = 40 → lv_has ls 8 [(5, .int (nI (rcN ((k + 3) / 4)))), (6, .int (nI (k + 4))), (0, .ref o)] → va_P (dC, dI) vwCl [(o, .inr (3, [.int th, .int (nI ph), .int (zI og), .ref qx, .ref qk, .ref qw, .ref qb, .ref qn, .long mh, .long ml, .long nc, .int rs, .int (nI na), .ref qd, .int (nI nz), .ref qg, .long t1, .long t2])), (qx, .inl (kx, 256, .inl (nF sb))), (qw, .inl (kw, 44, .inl (ksN sb (kw0 hi lo w) k)))] H → va_D A [(o, .inr (3, [.int th, .int (nI ph), .int (zI og), .ref qx, .ref qk, .ref qw, .ref qb, .ref qn, .long mh, .long ml, .long nc, .int rs, .int (nI na), .ref qd, .int (nI nz), .ref qg, .long t1, .long t2])), (qx, .inl (kx, 256, .inl (nF sb))), (qw, .inl (kw, 44, .inl (ksN sb (kw0 hi lo w) k)))] → va_S A s.heap H locs → W p l e rm_m_expand s m args below meth c H locs 0 0 Q (F0 m 44 ls []) := by
    intro n
    induction n with
    | zero =>
      intro k ls H locs hn_44  hl hP hD hS
      obtain rfl : 40 = k := by omega
      obtain ⟨hP, hD⟩ := va_rec (g := kwN sb hi lo) hP hD 2 rfl (fun i hi9 => kw_eq sb hi lo w i hi9)
      have hP : va_P (dC, dI) vwCl [(o, .inr (3, [.int th, .int (nI ph), .int (zI og), .ref qx, .ref qk, .ref qw, .ref qb, .ref qn, .long mh, .long ml, .long nc, .int rs, .int (nI na), .ref qd, .int (nI nz), .ref qg, .long t1, .long t2])), (qx, .inl (kx, 256, .inl (nF sb))), (qw, .inl (kw, 44, .inl (kwN sb hi lo)))] H := hP
      have hD : va_D A [(o, .inr (3, [.int th, .int (nI ph), .int (zI og), .ref qx, .ref qk, .ref qw, .ref qb, .ref qn, .long mh, .long ml, .long nc, .int rs, .int (nI na), .ref qd, .int (nI nz), .ref qg, .long t1, .long t2])), (qx, .inl (kx, 256, .inl (nF sb))), (qw, .inl (kw, 44, .inl (kwN sb hi lo)))] := hD
      refine lv_iload hx hb dX3_expand_44 (lv_at hl 1 rfl) ?_
      refine lv_bipush (v := nI 44) hx hb dX3_expand_46 (by decide) ?_
      refine lv_icmp_ge (tgt := 116) hx hb dX3_expand_48 (by decide) (fun hc_48 => ?_) (fun hc_48 => ?_)
      · skip
        have hc_48 := (ix_le (a := 44) (b := 40 + 4) (by omega) (by omega)).mp hc_48
        have hc_48 : (44 ≤ (40 + 4)) := hc_48
        exact rt_0 hx hb hr hlk hQ hAe hP hD hS [0, 1, 2] (by decide) rfl (Nat.le_of_ble_eq_true rfl) (Nat.le_of_ble_eq_true rfl) dX3_expand_116
      · skip
        have hc_48 := (not_congr (ix_le (a := 44) (b := 40 + 4) (by omega) (by omega))).mp hc_48
        have hc_48 : ¬ (44 ≤ (40 + 4)) := hc_48
        exfalso; omega
    | succ n ih =>
      intro k ls H locs hn_44  hl hP hD hS
      refine lv_iload hx hb dX3_expand_44 (lv_at hl 1 rfl) ?_
      refine lv_bipush (v := nI 44) hx hb dX3_expand_46 (by decide) ?_
      refine lv_icmp_ge (tgt := 116) hx hb dX3_expand_48 (by decide) (fun hc_48 => ?_) (fun hc_48 => ?_)
      · skip
        have hc_48 := (ix_le (a := 44) (b := k + 4) (by omega) (by omega)).mp hc_48
        have hc_48 : (44 ≤ (k + 4)) := hc_48
        exfalso; omega
      · skip
        have hc_48 := (not_congr (ix_le (a := 44) (b := k + 4) (by omega) (by omega))).mp hc_48
        have hc_48 : ¬ (44 ≤ (k + 4)) := hc_48
        refine lv_aload_n hx hb dX3_expand_51 rfl (lv_at hl 2 rfl) ?_
        refine va_get (D := (dC, dI)) (ci := 3) (v := .ref qw) (C := RX3) (T := TX3) (N := 18) hx hb hta inX3 hown hK hP 0 rfl rfl 5 (by decide) (hta _ mw_462) (fun _ h9 => h9) rfl dX3_expand_52 ?_
        refine lv_iload hx hb dX3_expand_55 (lv_at hl 1 rfl) ?_
        refine lv_iconst (v := nI 1) hx hb dX3_expand_57 (by decide) ?_
        refine lv_isub hx hb dX3_expand_58 (top_i (pk_sub (by omega)) ?_)
        refine va_ialn hx hb hK hP 2 1 rfl rfl (by omega) (by decide) dX3_expand_59 ?_
        refine lv_istore hx hb dX3_expand_60 hl (by decide) rfl (fun ls hl => ?_)
        have hl : lv_has ls 8 [(7, .int ((ksN sb (kw0 hi lo w) k) ((k + 4) - 1))), (5, .int (nI (rcN ((k + 3) / 4)))), (6, .int (nI (k + 4))), (0, .ref o)] := hl
        refine lv_iload hx hb dX3_expand_62 (lv_at hl 2 rfl) ?_
        refine lv_iconst (v := nI 4) hx hb dX3_expand_64 (by decide) ?_
        refine lv_irem hx hb dX3_expand_65 (by decide) (top_i (pk_rem (by omega) (by decide) (by decide)) ?_)
        refine lv_if_ne (tgt := 91) hx hb dX3_expand_66 (by decide) (fun hc_66 => ?_) (fun hc_66 => ?_)
        · skip
          have hc_66 := (not_congr (ix_eq (a := (k + 4) % 4) (b := 0) (by omega) (by omega))).mp hc_66
          have hc_66 : ¬ (((k + 4) % 4) = 0) := hc_66
          refine lv_aload_n hx hb dX3_expand_91 rfl (lv_at hl 3 rfl) ?_
          refine va_get (D := (dC, dI)) (ci := 3) (v := .ref qw) (C := RX3) (T := TX3) (N := 18) hx hb hta inX3 hown hK hP 0 rfl rfl 5 (by decide) (hta _ mw_462) (fun _ h9 => h9) rfl dX3_expand_92 ?_
          refine lv_iload hx hb dX3_expand_95 (lv_at hl 2 rfl) ?_
          refine lv_aload_n hx hb dX3_expand_97 rfl (lv_at hl 3 rfl) ?_
          refine va_get (D := (dC, dI)) (ci := 3) (v := .ref qw) (C := RX3) (T := TX3) (N := 18) hx hb hta inX3 hown hK hP 0 rfl rfl 5 (by decide) (hta _ mw_462) (fun _ h9 => h9) rfl dX3_expand_98 ?_
          refine lv_iload hx hb dX3_expand_101 (lv_at hl 2 rfl) ?_
          refine lv_iconst (v := nI 4) hx hb dX3_expand_103 (by decide) ?_
          refine lv_isub hx hb dX3_expand_104 (top_i (pk_sub (by omega)) ?_)
          refine va_ialn hx hb hK hP 2 1 rfl rfl (by omega) (by decide) dX3_expand_105 ?_
          refine lv_iload hx hb dX3_expand_106 (lv_at hl 0 rfl) ?_
          refine lv_ixor hx hb dX3_expand_108 ?_
          refine w_pc (pc2 := 109) rfl ?_
          refine va_iasn hx hb hK hP hD hS 2 1 rfl rfl (by omega) (by decide) dX3_expand_109 (fun H locs hP hD hS => ?_)
          have hP : va_P (dC, dI) vwCl [(o, .inr (3, [.int th, .int (nI ph), .int (zI og), .ref qx, .ref qk, .ref qw, .ref qb, .ref qn, .long mh, .long ml, .long nc, .int rs, .int (nI na), .ref qd, .int (nI nz), .ref qg, .long t1, .long t2])), (qx, .inl (kx, 256, .inl (nF sb))), (qw, .inl (kw, 44, .inl (upd (ksN sb (kw0 hi lo w) k) (k + 4) (((ksN sb (kw0 hi lo w) k) ((k + 4) - 4)) ^^^ ((ksN sb (kw0 hi lo w) k) ((k + 4) - 1))))))] H := hP
          have hD : va_D A [(o, .inr (3, [.int th, .int (nI ph), .int (zI og), .ref qx, .ref qk, .ref qw, .ref qb, .ref qn, .long mh, .long ml, .long nc, .int rs, .int (nI na), .ref qd, .int (nI nz), .ref qg, .long t1, .long t2])), (qx, .inl (kx, 256, .inl (nF sb))), (qw, .inl (kw, 44, .inl (upd (ksN sb (kw0 hi lo w) k) (k + 4) (((ksN sb (kw0 hi lo w) k) ((k + 4) - 4)) ^^^ ((ksN sb (kw0 hi lo w) k) ((k + 4) - 1))))))] := hD
          refine lv_iinc (v := nI ((k + 1) + 4)) (k := 2) hx hb dX3_expand_110 hl rfl ((ix_inc _ 1).trans (congrArg nI (by omega))) (by decide) rfl (fun ls hl => ?_)
          have hl : lv_has ls 8 [(6, .int (nI ((k + 1) + 4))), (7, .int ((ksN sb (kw0 hi lo w) k) ((k + 4) - 1))), (5, .int (nI (rcN ((k + 3) / 4)))), (0, .ref o)] := hl
          refine lv_goto (tgt := 44) hx hb dX3_expand_113 (by decide) ?_
          obtain ⟨hP, hD⟩ := va_rec (g := ksN sb (kw0 hi lo w) (k + 1)) hP hD 2 rfl (fun i _ => ksN_e (by omega) i)
          have hP : va_P (dC, dI) vwCl [(o, .inr (3, [.int th, .int (nI ph), .int (zI og), .ref qx, .ref qk, .ref qw, .ref qb, .ref qn, .long mh, .long ml, .long nc, .int rs, .int (nI na), .ref qd, .int (nI nz), .ref qg, .long t1, .long t2])), (qx, .inl (kx, 256, .inl (nF sb))), (qw, .inl (kw, 44, .inl (ksN sb (kw0 hi lo w) (k + 1))))] H := hP
          have hD : va_D A [(o, .inr (3, [.int th, .int (nI ph), .int (zI og), .ref qx, .ref qk, .ref qw, .ref qb, .ref qn, .long mh, .long ml, .long nc, .int rs, .int (nI na), .ref qd, .int (nI nz), .ref qg, .long t1, .long t2])), (qx, .inl (kx, 256, .inl (nF sb))), (qw, .inl (kw, 44, .inl (ksN sb (kw0 hi lo w) (k + 1))))] := hD
          have hl := lv_re hl 2 rfl (v2 := .int (nI (rcN (((k + 1) + 3) / 4)))) (congrArg Value.int (congrArg nI (rcN_e (by omega)))) rfl
          have hl : lv_has ls 8 [(6, .int (nI ((k + 1) + 4))), (7, .int ((ksN sb (kw0 hi lo w) k) ((k + 4) - 1))), (5, .int (nI (rcN (((k + 1) + 3) / 4)))), (0, .ref o)] := hl
          exact ih (k + 1) ls H locs (by omega)  (lv_sub hl [2, 0, 3] rfl) hP hD hS
        · skip
          have hc_66 := (ix_eq (a := (k + 4) % 4) (b := 0) (by omega) (by omega)).mp hc_66
          have hc_66 : (((k + 4) % 4) = 0) := hc_66
          refine lv_aload_n hx hb dX3_expand_69 rfl (lv_at hl 3 rfl) ?_
          refine lv_iload hx hb dX3_expand_70 (lv_at hl 0 rfl) ?_
          refine cf_1 (wr := [(qw, .inl (kw, 44, .inl (ksN sb (kw0 hi lo w) k)))]) (va_runV (As := [.int ((ksN sb (kw0 hi lo w) k) ((k + 4) - 1))]) (rest := []) ⟨hx, hb, hml, hown, hta⟩ (MO.to (m_changed l dC dI o th ph og qx qk qw qb qn mh ml nc rs na qd nz qg t1 t2 kx sb ((ksN sb (kw0 hi lo w) k) ((k + 4) - 1))) H.size) (cwV 1 hta (aw_V mw_453 mw_450 mw_452 mw_s20 mw_5) rfl rfl rfl ⟨rfl, dyX3_changed⟩ ⟨(Nat.le_of_ble_eq_true rfl), (Nat.le_of_ble_eq_true rfl)⟩) (pr_V hP hD hK hE [0, 1] [0] (by decide) rfl rfl rfl rfl) rfl rfl hl.1 rfl (lv_room (Nat.le_of_ble_eq_true rfl)) dX3_expand_72 ⟨(Nat.le_of_ble_eq_true rfl), (Nat.le_of_ble_eq_true rfl)⟩) hP hD hS hA [0, 1] [2] rfl rfl (by decide) (by decide) (fun H locs hP hD hS => ?_)
          have hP : va_P (dC, dI) vwCl [(qw, .inl (kw, 44, .inl (ksN sb (kw0 hi lo w) k))), (o, .inr (3, [.int th, .int (nI ph), .int (zI og), .ref qx, .ref qk, .ref qw, .ref qb, .ref qn, .long mh, .long ml, .long nc, .int rs, .int (nI na), .ref qd, .int (nI nz), .ref qg, .long t1, .long t2])), (qx, .inl (kx, 256, .inl (nF sb)))] H := hP
          have hD : va_D A [(qw, .inl (kw, 44, .inl (ksN sb (kw0 hi lo w) k))), (o, .inr (3, [.int th, .int (nI ph), .int (zI og), .ref qx, .ref qk, .ref qw, .ref qb, .ref qn, .long mh, .long ml, .long nc, .int rs, .int (nI na), .ref qd, .int (nI nz), .ref qg, .long t1, .long t2])), (qx, .inl (kx, 256, .inl (nF sb)))] := hD
          refine W.widen (k := 0) (n := 0) (Nat.le_of_ble_eq_true rfl) (Nat.le_of_ble_eq_true rfl) ?_
          refine w_pc (pc2 := 75) rfl ?_
          refine lv_iload hx hb dX3_expand_75 (lv_at hl 1 rfl) ?_
          refine lv_bipush (v := nI 24) hx hb dX3_expand_77 (by decide) ?_
          refine lv_ishl hx hb dX3_expand_79 (top_i (n_shl _ (by decide)) ?_)
          refine lv_ixor hx hb dX3_expand_80 (top_i (n_xor _ _) ?_)
          refine lv_istore hx hb dX3_expand_81 hl (by decide) rfl (fun ls hl => ?_)
          have hl : lv_has ls 8 [(7, .int (nI ((swN sb (rl8 ((ksN sb (kw0 hi lo w) k) ((k + 4) - 1)))) ^^^ ((rcN ((k + 3) / 4)) * 2 ^ 24)))), (5, .int (nI (rcN ((k + 3) / 4)))), (6, .int (nI (k + 4))), (0, .ref o)] := hl
          refine lv_iconst (v := nI 2) hx hb dX3_expand_83 (by decide) ?_
          refine lv_iload hx hb dX3_expand_84 (lv_at hl 1 rfl) ?_
          refine cf_1 (wr := [(qw, .inl (kw, 44, .inl (ksN sb (kw0 hi lo w) k))), (o, .inr (3, [.int th, .int (nI ph), .int (zI og), .ref qx, .ref qk, .ref qw, .ref qb, .ref qn, .long mh, .long ml, .long nc, .int rs, .int (nI na), .ref qd, .int (nI nz), .ref qg, .long t1, .long t2])), (qx, .inl (kx, 256, .inl (nF sb)))]) (va_runS (As := [.int (nI 2), .int (nI (rcN ((k + 3) / 4)))]) (rest := []) ⟨hx, hb, hml, hown, hta⟩ (MO.to (m_times l dC dI 2 (rcN ((k + 3) / 4)) (by decide) (rcN_lt _)) H.size) (va_cwS 2 hta (aw_S mw_445 mw_443 mw_444 mw_5) rfl rfl rfl dyX3_times ⟨(Nat.le_of_ble_eq_true rfl), (Nat.le_of_ble_eq_true rfl)⟩) (pr_S hP hD hK hE [] [] (by decide) rfl rfl) rfl rfl hl.1 rfl (lv_room (Nat.le_of_ble_eq_true rfl)) dX3_expand_86 ⟨(Nat.le_of_ble_eq_true rfl), (Nat.le_of_ble_eq_true rfl)⟩) hP hD hS hA [] [0, 1, 2] rfl rfl (by decide) (by decide) (fun H locs hP hD hS => ?_)
          have hP : va_P (dC, dI) vwCl [(qw, .inl (kw, 44, .inl (ksN sb (kw0 hi lo w) k))), (o, .inr (3, [.int th, .int (nI ph), .int (zI og), .ref qx, .ref qk, .ref qw, .ref qb, .ref qn, .long mh, .long ml, .long nc, .int rs, .int (nI na), .ref qd, .int (nI nz), .ref qg, .long t1, .long t2])), (qx, .inl (kx, 256, .inl (nF sb)))] H := hP
          have hD : va_D A [(qw, .inl (kw, 44, .inl (ksN sb (kw0 hi lo w) k))), (o, .inr (3, [.int th, .int (nI ph), .int (zI og), .ref qx, .ref qk, .ref qw, .ref qb, .ref qn, .long mh, .long ml, .long nc, .int rs, .int (nI na), .ref qd, .int (nI nz), .ref qg, .long t1, .long t2])), (qx, .inl (kx, 256, .inl (nF sb)))] := hD
          refine W.widen (k := 0) (n := 0) (Nat.le_of_ble_eq_true rfl) (Nat.le_of_ble_eq_true rfl) ?_
          refine w_pc (pc2 := 89) rfl ?_
          refine lv_istore hx hb dX3_expand_89 hl (by decide) rfl (fun ls hl => ?_)
          have hl : lv_has ls 8 [(5, .int (nI (tmN 2 (rcN ((k + 3) / 4))))), (7, .int (nI ((swN sb (rl8 ((ksN sb (kw0 hi lo w) k) ((k + 4) - 1)))) ^^^ ((rcN ((k + 3) / 4)) * 2 ^ 24)))), (6, .int (nI (k + 4))), (0, .ref o)] := hl
          refine lv_aload_n hx hb dX3_expand_91 rfl (lv_at hl 3 rfl) ?_
          refine va_get (D := (dC, dI)) (ci := 3) (v := .ref qw) (C := RX3) (T := TX3) (N := 18) hx hb hta inX3 hown hK hP 1 rfl rfl 5 (by decide) (hta _ mw_462) (fun _ h9 => h9) rfl dX3_expand_92 ?_
          refine lv_iload hx hb dX3_expand_95 (lv_at hl 2 rfl) ?_
          refine lv_aload_n hx hb dX3_expand_97 rfl (lv_at hl 3 rfl) ?_
          refine va_get (D := (dC, dI)) (ci := 3) (v := .ref qw) (C := RX3) (T := TX3) (N := 18) hx hb hta inX3 hown hK hP 1 rfl rfl 5 (by decide) (hta _ mw_462) (fun _ h9 => h9) rfl dX3_expand_98 ?_
          refine lv_iload hx hb dX3_expand_101 (lv_at hl 2 rfl) ?_
          refine lv_iconst (v := nI 4) hx hb dX3_expand_103 (by decide) ?_
          refine lv_isub hx hb dX3_expand_104 (top_i (pk_sub (by omega)) ?_)
          refine va_ialn hx hb hK hP 0 1 rfl rfl (by omega) (by decide) dX3_expand_105 ?_
          refine lv_iload hx hb dX3_expand_106 (lv_at hl 1 rfl) ?_
          refine lv_ixor hx hb dX3_expand_108 ?_
          refine w_pc (pc2 := 109) rfl ?_
          refine va_iasn hx hb hK hP hD hS 0 1 rfl rfl (by omega) (by decide) dX3_expand_109 (fun H locs hP hD hS => ?_)
          have hP : va_P (dC, dI) vwCl [(qw, .inl (kw, 44, .inl (upd (ksN sb (kw0 hi lo w) k) (k + 4) (((ksN sb (kw0 hi lo w) k) ((k + 4) - 4)) ^^^ (nI ((swN sb (rl8 ((ksN sb (kw0 hi lo w) k) ((k + 4) - 1)))) ^^^ ((rcN ((k + 3) / 4)) * 2 ^ 24))))))), (o, .inr (3, [.int th, .int (nI ph), .int (zI og), .ref qx, .ref qk, .ref qw, .ref qb, .ref qn, .long mh, .long ml, .long nc, .int rs, .int (nI na), .ref qd, .int (nI nz), .ref qg, .long t1, .long t2])), (qx, .inl (kx, 256, .inl (nF sb)))] H := hP
          have hD : va_D A [(qw, .inl (kw, 44, .inl (upd (ksN sb (kw0 hi lo w) k) (k + 4) (((ksN sb (kw0 hi lo w) k) ((k + 4) - 4)) ^^^ (nI ((swN sb (rl8 ((ksN sb (kw0 hi lo w) k) ((k + 4) - 1)))) ^^^ ((rcN ((k + 3) / 4)) * 2 ^ 24))))))), (o, .inr (3, [.int th, .int (nI ph), .int (zI og), .ref qx, .ref qk, .ref qw, .ref qb, .ref qn, .long mh, .long ml, .long nc, .int rs, .int (nI na), .ref qd, .int (nI nz), .ref qg, .long t1, .long t2])), (qx, .inl (kx, 256, .inl (nF sb)))] := hD
          refine lv_iinc (v := nI ((k + 1) + 4)) (k := 2) hx hb dX3_expand_110 hl rfl ((ix_inc _ 1).trans (congrArg nI (by omega))) (by decide) rfl (fun ls hl => ?_)
          have hl : lv_has ls 8 [(6, .int (nI ((k + 1) + 4))), (5, .int (nI (tmN 2 (rcN ((k + 3) / 4))))), (7, .int (nI ((swN sb (rl8 ((ksN sb (kw0 hi lo w) k) ((k + 4) - 1)))) ^^^ ((rcN ((k + 3) / 4)) * 2 ^ 24)))), (0, .ref o)] := hl
          refine lv_goto (tgt := 44) hx hb dX3_expand_113 (by decide) ?_
          obtain ⟨hP, hD⟩ := va_rec (g := ksN sb (kw0 hi lo w) (k + 1)) hP hD 0 rfl (fun i _ => ksN_m (by omega) i)
          have hP : va_P (dC, dI) vwCl [(qw, .inl (kw, 44, .inl (ksN sb (kw0 hi lo w) (k + 1)))), (o, .inr (3, [.int th, .int (nI ph), .int (zI og), .ref qx, .ref qk, .ref qw, .ref qb, .ref qn, .long mh, .long ml, .long nc, .int rs, .int (nI na), .ref qd, .int (nI nz), .ref qg, .long t1, .long t2])), (qx, .inl (kx, 256, .inl (nF sb)))] H := hP
          have hD : va_D A [(qw, .inl (kw, 44, .inl (ksN sb (kw0 hi lo w) (k + 1)))), (o, .inr (3, [.int th, .int (nI ph), .int (zI og), .ref qx, .ref qk, .ref qw, .ref qb, .ref qn, .long mh, .long ml, .long nc, .int rs, .int (nI na), .ref qd, .int (nI nz), .ref qg, .long t1, .long t2])), (qx, .inl (kx, 256, .inl (nF sb)))] := hD
          have hl := lv_re hl 1 rfl (v2 := .int (nI (rcN (((k + 1) + 3) / 4)))) (congrArg Value.int (congrArg nI ((tm2 (rcN_lt _)).trans (rcN_s (by omega))))) rfl
          have hl : lv_has ls 8 [(6, .int (nI ((k + 1) + 4))), (5, .int (nI (rcN (((k + 1) + 3) / 4)))), (7, .int (nI ((swN sb (rl8 ((ksN sb (kw0 hi lo w) k) ((k + 4) - 1)))) ^^^ ((rcN ((k + 3) / 4)) * 2 ^ 24)))), (0, .ref o)] := hl
          exact ih (k + 1) ls H locs (by omega)  (lv_sub hl [1, 0, 3] rfl) (hP.sub [1, 2, 0] rfl) (hD.sub [1, 2, 0] (by decide) rfl) hS
  exact loop_44 40 0 ls H locs (by omega)  (lv_sub hl [1, 0, 2] rfl) hP hD hS

def rm_m_lay : Room := { frames := 0, cells := 0, slots := 0, locals := 0 }
set_option maxHeartbeats 4000000 in
set_option maxRecDepth 100000 in
/-- lay(hi, lo) -/
theorem m_lay (l : Launch) (dC : Nat → ClassId) (dI : Nat → Nat → Nat) (o : Nat) (th : Int32) (ph : Nat) (og : Bool) (qx : Nat) (qk : Nat) (qw : Nat) (qb : Nat) (qn : Nat) (mh : Int64) (ml : Int64) (nc : Int64) (rs : Int32) (na : Nat) (qd : Nat) (nz : Nat) (qg : Nat) (t1 : Int64) (t2 : Int64) (kb : ClassId) (b : Nat → Nat) (hi : Int64) (lo : Int64) : MO l dC dI yX3_lay wsX3_lay rm_m_lay [.ref o, .long hi, .long lo] [(o, .inr (3, [.int th, .int (nI ph), .int (zI og), .ref qx, .ref qk, .ref qw, .ref qb, .ref qn, .long mh, .long ml, .long nc, .int rs, .int (nI na), .ref qd, .int (nI nz), .ref qg, .long t1, .long t2])), (qb, .inl (kb, 16, .inl (nF b)))] [(kb, .int)] [(o, .inr (3, [.int th, .int (nI ph), .int (zI og), .ref qx, .ref qk, .ref qw, .ref qb, .ref qn, .long mh, .long ml, .long nc, .int rs, .int (nI na), .ref qd, .int (nI nz), .ref qg, .long t1, .long t2])), (qb, .inl (kb, 16, .inl (nF (ldN hi lo))))] none := by
  refine mo_ofW (cc := cX3_lay) (maxL := 6) (ret := none) (by decide) rfl (Nat.le_of_ble_eq_true rfl) ?_
  intro p e s m args below meth c Q A H locs ls hx hb hr hlk hml hta hown hin hE hQ hAe hA hK hP hD hS hl
  have hown : s.vm.findClass RX3 = some m.cls := hown
  have hl : lv_has ls 6 [(0, .ref o), (1, .long hi), (3, .long lo)] := hl
  refine lv_iconst (v := nI 0) hx hb dX3_lay_0 (by decide) ?_
  refine lv_istore hx hb dX3_lay_1 hl (by decide) rfl (fun ls hl => ?_)
  have hl : lv_has ls 6 [(5, .int (nI 0)), (0, .ref o), (1, .long hi), (3, .long lo)] := hl
  obtain ⟨hP, hD⟩ := va_recb (g := ldp hi lo b 0) hP hD 1 rfl (fun i _ => ldp_0 hi lo b i)
  have hP : va_P (dC, dI) vwCl [(o, .inr (3, [.int th, .int (nI ph), .int (zI og), .ref qx, .ref qk, .ref qw, .ref qb, .ref qn, .long mh, .long ml, .long nc, .int rs, .int (nI na), .ref qd, .int (nI nz), .ref qg, .long t1, .long t2])), (qb, .inl (kb, 16, .inl (nF (ldp hi lo b 0))))] H := hP
  have hD : va_D A [(o, .inr (3, [.int th, .int (nI ph), .int (zI og), .ref qx, .ref qk, .ref qw, .ref qb, .ref qn, .long mh, .long ml, .long nc, .int rs, .int (nI na), .ref qd, .int (nI nz), .ref qg, .long t1, .long t2])), (qb, .inl (kb, 16, .inl (nF (ldp hi lo b 0))))] := hD
  have loop_3 : ∀ (n k : Nat) (ls : Array Slot) (H : Heap) (locs : List Loc), k + n = 8 → lv_has ls 6 [(5, .int (nI k)), (0, .ref o), (1, .long hi), (3, .long lo)] → va_P (dC, dI) vwCl [(o, .inr (3, [.int th, .int (nI ph), .int (zI og), .ref qx, .ref qk, .ref qw, .ref qb, .ref qn, .long mh, .long ml, .long nc, .int rs, .int (nI na), .ref qd, .int (nI nz), .ref qg, .long t1, .long t2])), (qb, .inl (kb, 16, .inl (nF (ldp hi lo b k))))] H → va_D A [(o, .inr (3, [.int th, .int (nI ph), .int (zI og), .ref qx, .ref qk, .ref qw, .ref qb, .ref qn, .long mh, .long ml, .long nc, .int rs, .int (nI na), .ref qd, .int (nI nz), .ref qg, .long t1, .long t2])), (qb, .inl (kb, 16, .inl (nF (ldp hi lo b k))))] → va_S A s.heap H locs → W p l e rm_m_lay s m args below meth c H locs 0 0 Q (F0 m 3 ls []) := by
    intro n
    induction n with
    | zero =>
      intro k ls H locs hn_3  hl hP hD hS
      obtain rfl : 8 = k := by omega
      refine lv_iload hx hb dX3_lay_3 (lv_at hl 0 rfl) ?_
      refine lv_bipush (v := nI 8) hx hb dX3_lay_5 (by decide) ?_
      refine lv_icmp_ge (tgt := 63) hx hb dX3_lay_7 (by decide) (fun hc_7 => ?_) (fun hc_7 => ?_)
      · skip
        have hc_7 := (ix_le (a := 8) (b := 8) (by omega) (by omega)).mp hc_7
        have hc_7 : (8 ≤ 8) := hc_7
        obtain ⟨hP, hD⟩ := va_recb (g := ldN hi lo) hP hD 1 rfl (fun i hi9 => ldp_8 hi lo b i hi9)
        have hP : va_P (dC, dI) vwCl [(o, .inr (3, [.int th, .int (nI ph), .int (zI og), .ref qx, .ref qk, .ref qw, .ref qb, .ref qn, .long mh, .long ml, .long nc, .int rs, .int (nI na), .ref qd, .int (nI nz), .ref qg, .long t1, .long t2])), (qb, .inl (kb, 16, .inl (nF (ldN hi lo))))] H := hP
        have hD : va_D A [(o, .inr (3, [.int th, .int (nI ph), .int (zI og), .ref qx, .ref qk, .ref qw, .ref qb, .ref qn, .long mh, .long ml, .long nc, .int rs, .int (nI na), .ref qd, .int (nI nz), .ref qg, .long t1, .long t2])), (qb, .inl (kb, 16, .inl (nF (ldN hi lo))))] := hD
        exact rt_0 hx hb hr hlk hQ hAe hP hD hS [0, 1] (by decide) rfl (Nat.le_of_ble_eq_true rfl) (Nat.le_of_ble_eq_true rfl) dX3_lay_63
      · skip
        have hc_7 := (not_congr (ix_le (a := 8) (b := 8) (by omega) (by omega))).mp hc_7
        have hc_7 : ¬ (8 ≤ 8) := hc_7
        exfalso; omega
    | succ n ih =>
      intro k ls H locs hn_3  hl hP hD hS
      refine lv_iload hx hb dX3_lay_3 (lv_at hl 0 rfl) ?_
      refine lv_bipush (v := nI 8) hx hb dX3_lay_5 (by decide) ?_
      refine lv_icmp_ge (tgt := 63) hx hb dX3_lay_7 (by decide) (fun hc_7 => ?_) (fun hc_7 => ?_)
      · skip
        have hc_7 := (ix_le (a := 8) (b := k) (by omega) (by omega)).mp hc_7
        have hc_7 : (8 ≤ k) := hc_7
        exfalso; omega
      · skip
        have hc_7 := (not_congr (ix_le (a := 8) (b := k) (by omega) (by omega))).mp hc_7
        have hc_7 : ¬ (8 ≤ k) := hc_7
        refine lv_aload_n hx hb dX3_lay_10 rfl (lv_at hl 1 rfl) ?_
        refine va_get (D := (dC, dI)) (ci := 3) (v := .ref qb) (C := RX3) (T := TX3) (N := 18) hx hb hta inX3 hown hK hP 0 rfl rfl 6 (by decide) (hta _ mw_463) (fun _ h9 => h9) rfl dX3_lay_11 ?_
        refine lv_iload hx hb dX3_lay_14 (lv_at hl 0 rfl) ?_
        refine lv_lload_n hx hb dX3_lay_16 rfl (lv_at hl 2 rfl) ?_
        refine lv_bipush (v := nI 56) hx hb dX3_lay_17 (by decide) ?_
        refine lv_bipush (v := nI 8) hx hb dX3_lay_19 (by decide) ?_
        refine lv_iload hx hb dX3_lay_21 (lv_at hl 0 rfl) ?_
        refine lv_imul hx hb dX3_lay_23 (top_i (pk_mul _ _) ?_)
        refine lv_isub hx hb dX3_lay_24 (top_i (pk_sub (by omega)) ?_)
        refine lv_lshr hx hb dX3_lay_25 rfl ?_
        refine lv_ldc2 (v := 255) hx hb hown (hta _ mw_536) dX3_lay_26 ?_
        refine top_l (y := lN 255) (by decide) ?_
        refine w_pc (pc2 := 29) rfl ?_
        refine lv_land hx hb dX3_lay_29 ?_
        refine top_l (y := lN (lb hi k)) (l_sb _ (by omega)) ?_
        refine lv_l2i hx hb dX3_lay_30 rfl (top_i (lN_i _) ?_)
        refine va_iasb hx hb hK hP hD hS 1 0 rfl rfl (by omega) (by decide) dX3_lay_31 (fun H locs hP hD hS => ?_)
        have hP : va_P (dC, dI) vwCl [(o, .inr (3, [.int th, .int (nI ph), .int (zI og), .ref qx, .ref qk, .ref qw, .ref qb, .ref qn, .long mh, .long ml, .long nc, .int rs, .int (nI na), .ref qd, .int (nI nz), .ref qg, .long t1, .long t2])), (qb, .inl (kb, 16, .inl (nF (un (ldp hi lo b k) k (lb hi k)))))] H := hP
        have hD : va_D A [(o, .inr (3, [.int th, .int (nI ph), .int (zI og), .ref qx, .ref qk, .ref qw, .ref qb, .ref qn, .long mh, .long ml, .long nc, .int rs, .int (nI na), .ref qd, .int (nI nz), .ref qg, .long t1, .long t2])), (qb, .inl (kb, 16, .inl (nF (un (ldp hi lo b k) k (lb hi k)))))] := hD
        refine lv_aload_n hx hb dX3_lay_32 rfl (lv_at hl 1 rfl) ?_
        refine va_get (D := (dC, dI)) (ci := 3) (v := .ref qb) (C := RX3) (T := TX3) (N := 18) hx hb hta inX3 hown hK hP 0 rfl rfl 6 (by decide) (hta _ mw_463) (fun _ h9 => h9) rfl dX3_lay_33 ?_
        refine lv_bipush (v := nI 8) hx hb dX3_lay_36 (by decide) ?_
        refine lv_iload hx hb dX3_lay_38 (lv_at hl 0 rfl) ?_
        refine lv_iadd hx hb dX3_lay_40 (top_i (nI_add _ _) ?_)
        refine lv_lload_n hx hb dX3_lay_41 rfl (lv_at hl 3 rfl) ?_
        refine lv_bipush (v := nI 56) hx hb dX3_lay_42 (by decide) ?_
        refine lv_bipush (v := nI 8) hx hb dX3_lay_44 (by decide) ?_
        refine lv_iload hx hb dX3_lay_46 (lv_at hl 0 rfl) ?_
        refine w_pc (pc2 := 48) rfl ?_
        refine lv_imul hx hb dX3_lay_48 (top_i (pk_mul _ _) ?_)
        refine lv_isub hx hb dX3_lay_49 (top_i (pk_sub (by omega)) ?_)
        refine lv_lshr hx hb dX3_lay_50 rfl ?_
        refine lv_ldc2 (v := 255) hx hb hown (hta _ mw_536) dX3_lay_51 ?_
        refine top_l (y := lN 255) (by decide) ?_
        refine lv_land hx hb dX3_lay_54 ?_
        refine top_l (y := lN (lb lo k)) (l_sb _ (by omega)) ?_
        refine lv_l2i hx hb dX3_lay_55 rfl (top_i (lN_i _) ?_)
        refine va_iasb hx hb hK hP hD hS 1 0 rfl rfl (by omega) (by decide) dX3_lay_56 (fun H locs hP hD hS => ?_)
        have hP : va_P (dC, dI) vwCl [(o, .inr (3, [.int th, .int (nI ph), .int (zI og), .ref qx, .ref qk, .ref qw, .ref qb, .ref qn, .long mh, .long ml, .long nc, .int rs, .int (nI na), .ref qd, .int (nI nz), .ref qg, .long t1, .long t2])), (qb, .inl (kb, 16, .inl (nF (un (un (ldp hi lo b k) k (lb hi k)) (8 + k) (lb lo k)))))] H := hP
        have hD : va_D A [(o, .inr (3, [.int th, .int (nI ph), .int (zI og), .ref qx, .ref qk, .ref qw, .ref qb, .ref qn, .long mh, .long ml, .long nc, .int rs, .int (nI na), .ref qd, .int (nI nz), .ref qg, .long t1, .long t2])), (qb, .inl (kb, 16, .inl (nF (un (un (ldp hi lo b k) k (lb hi k)) (8 + k) (lb lo k)))))] := hD
        refine lv_iinc (v := nI (k + 1)) (k := 0) hx hb dX3_lay_57 hl rfl (ix_inc _ 1) (by decide) rfl (fun ls hl => ?_)
        have hl : lv_has ls 6 [(5, .int (nI (k + 1))), (0, .ref o), (1, .long hi), (3, .long lo)] := hl
        refine lv_goto (tgt := 3) hx hb dX3_lay_60 (by decide) ?_
        obtain ⟨hP, hD⟩ := va_recb (g := ldp hi lo b (k + 1)) hP hD 1 rfl (fun i hi9 => ldp_s hi lo b k (by omega) i hi9)
        have hP : va_P (dC, dI) vwCl [(o, .inr (3, [.int th, .int (nI ph), .int (zI og), .ref qx, .ref qk, .ref qw, .ref qb, .ref qn, .long mh, .long ml, .long nc, .int rs, .int (nI na), .ref qd, .int (nI nz), .ref qg, .long t1, .long t2])), (qb, .inl (kb, 16, .inl (nF (ldp hi lo b (k + 1)))))] H := hP
        have hD : va_D A [(o, .inr (3, [.int th, .int (nI ph), .int (zI og), .ref qx, .ref qk, .ref qw, .ref qb, .ref qn, .long mh, .long ml, .long nc, .int rs, .int (nI na), .ref qd, .int (nI nz), .ref qg, .long t1, .long t2])), (qb, .inl (kb, 16, .inl (nF (ldp hi lo b (k + 1)))))] := hD
        exact ih (k + 1) ls H locs (by omega)  (lv_sub hl [0, 1, 2, 3] rfl) hP hD hS
  exact loop_3 8 0 ls H locs (by omega)  (lv_sub hl [0, 1, 2, 3] rfl) hP hD hS

def rm_m_tell : Room := { frames := 0, cells := 0, slots := 0, locals := 0 }
set_option maxHeartbeats 4000000 in
set_option maxRecDepth 100000 in
/-- tell() -/
theorem m_tell (l : Launch) (dC : Nat → ClassId) (dI : Nat → Nat → Nat) (o : Nat) (th : Int32) (ph : Nat) (og : Bool) (qx : Nat) (qk : Nat) (qw : Nat) (qb : Nat) (qn : Nat) (mh : Int64) (ml : Int64) (nc : Int64) (rs : Int32) (na : Nat) (qd : Nat) (nz : Nat) (qg : Nat) (t1 : Int64) (t2 : Int64) (kb : ClassId) (b : Nat → Nat) (b256 : ∀ i, b i < 256) : MO l dC dI yX3_tell wsX3_tell rm_m_tell [.ref o] [(o, .inr (3, [.int th, .int (nI ph), .int (zI og), .ref qx, .ref qk, .ref qw, .ref qb, .ref qn, .long mh, .long ml, .long nc, .int rs, .int (nI na), .ref qd, .int (nI nz), .ref qg, .long t1, .long t2])), (qb, .inl (kb, 16, .inl (nF b)))] [(kb, .int)] [(o, .inr (3, [.int th, .int (nI ph), .int (zI og), .ref qx, .ref qk, .ref qw, .ref qb, .ref qn, .long (lN (jbN b 0 16 8)), .long (lN (jbN b 8 16 8)), .long nc, .int rs, .int (nI na), .ref qd, .int (nI nz), .ref qg, .long t1, .long t2])), (qb, .inl (kb, 16, .inl (nF b)))] none := by
  refine mo_ofW (cc := cX3_tell) (maxL := 2) (ret := none) (by decide) rfl (Nat.le_of_ble_eq_true rfl) ?_
  intro p e s m args below meth c Q A H locs ls hx hb hr hlk hml hta hown hin hE hQ hAe hA hK hP hD hS hl
  have hown : s.vm.findClass RX3 = some m.cls := hown
  have hl : lv_has ls 2 [(0, .ref o)] := hl
  refine lv_aload_n hx hb dX3_tell_0 rfl (lv_at hl 0 rfl) ?_
  refine lv_lconst (v := lN 0) hx hb dX3_tell_1 (by decide) ?_
  refine va_put (D := (dC, dI)) (ci := 3) (v := .long (lN 0)) (ty := .long) (C := RX3) (T := TX3) (N := 18) hx hb hta inX3 tyX3 tyX3_ok nmX3 hown hK hP hD hS 0 rfl rfl 8 (by decide) (hta _ mw_465) (fun _ h9 => h9) rfl (by decide +kernel) rfl rfl (Nat.le_of_ble_eq_true rfl) dX3_tell_2 (fun H locs hP hD hS => ?_)
  have hP : va_P (dC, dI) vwCl [(o, .inr (3, [.int th, .int (nI ph), .int (zI og), .ref qx, .ref qk, .ref qw, .ref qb, .ref qn, .long (lN 0), .long ml, .long nc, .int rs, .int (nI na), .ref qd, .int (nI nz), .ref qg, .long t1, .long t2])), (qb, .inl (kb, 16, .inl (nF b)))] H := hP
  have hD : va_D A [(o, .inr (3, [.int th, .int (nI ph), .int (zI og), .ref qx, .ref qk, .ref qw, .ref qb, .ref qn, .long (lN 0), .long ml, .long nc, .int rs, .int (nI na), .ref qd, .int (nI nz), .ref qg, .long t1, .long t2])), (qb, .inl (kb, 16, .inl (nF b)))] := hD
  refine lv_aload_n hx hb dX3_tell_5 rfl (lv_at hl 0 rfl) ?_
  refine lv_lconst (v := lN 0) hx hb dX3_tell_6 (by decide) ?_
  refine va_put (D := (dC, dI)) (ci := 3) (v := .long (lN 0)) (ty := .long) (C := RX3) (T := TX3) (N := 18) hx hb hta inX3 tyX3 tyX3_ok nmX3 hown hK hP hD hS 0 rfl rfl 9 (by decide) (hta _ mw_466) (fun _ h9 => h9) rfl (by decide +kernel) rfl rfl (Nat.le_of_ble_eq_true rfl) dX3_tell_7 (fun H locs hP hD hS => ?_)
  have hP : va_P (dC, dI) vwCl [(o, .inr (3, [.int th, .int (nI ph), .int (zI og), .ref qx, .ref qk, .ref qw, .ref qb, .ref qn, .long (lN 0), .long (lN 0), .long nc, .int rs, .int (nI na), .ref qd, .int (nI nz), .ref qg, .long t1, .long t2])), (qb, .inl (kb, 16, .inl (nF b)))] H := hP
  have hD : va_D A [(o, .inr (3, [.int th, .int (nI ph), .int (zI og), .ref qx, .ref qk, .ref qw, .ref qb, .ref qn, .long (lN 0), .long (lN 0), .long nc, .int rs, .int (nI na), .ref qd, .int (nI nz), .ref qg, .long t1, .long t2])), (qb, .inl (kb, 16, .inl (nF b)))] := hD
  refine lv_iconst (v := nI 0) hx hb dX3_tell_10 (by decide) ?_
  refine lv_istore_n hx hb dX3_tell_11 rfl hl (by decide) rfl (fun ls hl => ?_)
  have hl : lv_has ls 2 [(1, .int (nI 0)), (0, .ref o)] := hl
  have loop_12 : ∀ (n k : Nat) (ls : Array Slot) (H : Heap) (locs : List Loc), k + n = 8 → lv_has ls 2 [(1, .int (nI k)), (0, .ref o)] → va_P (dC, dI) vwCl [(o, .inr (3, [.int th, .int (nI ph), .int (zI og), .ref qx, .ref qk, .ref qw, .ref qb, .ref qn, .long (lN (jbN b 0 16 k)), .long (lN (jbN b 8 16 k)), .long nc, .int rs, .int (nI na), .ref qd, .int (nI nz), .ref qg, .long t1, .long t2])), (qb, .inl (kb, 16, .inl (nF b)))] H → va_D A [(o, .inr (3, [.int th, .int (nI ph), .int (zI og), .ref qx, .ref qk, .ref qw, .ref qb, .ref qn, .long (lN (jbN b 0 16 k)), .long (lN (jbN b 8 16 k)), .long nc, .int rs, .int (nI na), .ref qd, .int (nI nz), .ref qg, .long t1, .long t2])), (qb, .inl (kb, 16, .inl (nF b)))] → va_S A s.heap H locs → W p l e rm_m_tell s m args below meth c H locs 0 0 Q (F0 m 12 ls []) := by
    intro n
    induction n with
    | zero =>
      intro k ls H locs hn_12  hl hP hD hS
      obtain rfl : 8 = k := by omega
      refine lv_iload_n hx hb dX3_tell_12 rfl (lv_at hl 0 rfl) ?_
      refine lv_bipush (v := nI 8) hx hb dX3_tell_13 (by decide) ?_
      refine lv_icmp_ge (tgt := 65) hx hb dX3_tell_15 (by decide) (fun hc_15 => ?_) (fun hc_15 => ?_)
      · skip
        have hc_15 := (ix_le (a := 8) (b := 8) (by omega) (by omega)).mp hc_15
        have hc_15 : (8 ≤ 8) := hc_15
        exact rt_0 hx hb hr hlk hQ hAe hP hD hS [0, 1] (by decide) rfl (Nat.le_of_ble_eq_true rfl) (Nat.le_of_ble_eq_true rfl) dX3_tell_65
      · skip
        have hc_15 := (not_congr (ix_le (a := 8) (b := 8) (by omega) (by omega))).mp hc_15
        have hc_15 : ¬ (8 ≤ 8) := hc_15
        exfalso; omega
    | succ n ih =>
      intro k ls H locs hn_12  hl hP hD hS
      refine lv_iload_n hx hb dX3_tell_12 rfl (lv_at hl 0 rfl) ?_
      refine lv_bipush (v := nI 8) hx hb dX3_tell_13 (by decide) ?_
      refine lv_icmp_ge (tgt := 65) hx hb dX3_tell_15 (by decide) (fun hc_15 => ?_) (fun hc_15 => ?_)
      · skip
        have hc_15 := (ix_le (a := 8) (b := k) (by omega) (by omega)).mp hc_15
        have hc_15 : (8 ≤ k) := hc_15
        exfalso; omega
      · skip
        have hc_15 := (not_congr (ix_le (a := 8) (b := k) (by omega) (by omega))).mp hc_15
        have hc_15 : ¬ (8 ≤ k) := hc_15
        refine lv_aload_n hx hb dX3_tell_18 rfl (lv_at hl 1 rfl) ?_
        refine lv_aload_n hx hb dX3_tell_19 rfl (lv_at hl 1 rfl) ?_
        refine va_get (D := (dC, dI)) (ci := 3) (v := .long (lN (jbN b 0 16 k))) (C := RX3) (T := TX3) (N := 18) hx hb hta inX3 hown hK hP 0 rfl rfl 8 (by decide) (hta _ mw_465) (fun _ h9 => h9) rfl dX3_tell_20 ?_
        refine lv_bipush (v := nI 8) hx hb dX3_tell_23 (by decide) ?_
        refine lv_lshl hx hb dX3_tell_25 rfl (top_l (wb_shl _ (by decide)) ?_)
        refine lv_aload_n hx hb dX3_tell_26 rfl (lv_at hl 1 rfl) ?_
        refine va_get (D := (dC, dI)) (ci := 3) (v := .ref qb) (C := RX3) (T := TX3) (N := 18) hx hb hta inX3 hown hK hP 0 rfl rfl 6 (by decide) (hta _ mw_463) (fun _ h9 => h9) rfl dX3_tell_27 ?_
        refine lv_iload_n hx hb dX3_tell_30 rfl (lv_at hl 0 rfl) ?_
        refine va_ialb hx hb hK hP 1 0 rfl rfl (by omega) (by decide) dX3_tell_31 ?_
        refine lv_i2l hx hb dX3_tell_32 rfl (top_l (nI_l (Nat.lt_trans (b256 _) (by decide))) ?_)
        refine lv_lor hx hb dX3_tell_33 ?_
        refine top_l (y := lN (jbN b 0 16 (k + 1))) ((l_or _ _).trans (congrArg lN (tl_h (by omega)))) ?_
        refine w_pc (pc2 := 34) rfl ?_
        refine va_put (D := (dC, dI)) (ci := 3) (v := .long (lN (jbN b 0 16 (k + 1)))) (ty := .long) (C := RX3) (T := TX3) (N := 18) hx hb hta inX3 tyX3 tyX3_ok nmX3 hown hK hP hD hS 0 rfl rfl 8 (by decide) (hta _ mw_465) (fun _ h9 => h9) rfl (by decide +kernel) rfl rfl (Nat.le_of_ble_eq_true rfl) dX3_tell_34 (fun H locs hP hD hS => ?_)
        have hP : va_P (dC, dI) vwCl [(o, .inr (3, [.int th, .int (nI ph), .int (zI og), .ref qx, .ref qk, .ref qw, .ref qb, .ref qn, .long (lN (jbN b 0 16 (k + 1))), .long (lN (jbN b 8 16 k)), .long nc, .int rs, .int (nI na), .ref qd, .int (nI nz), .ref qg, .long t1, .long t2])), (qb, .inl (kb, 16, .inl (nF b)))] H := hP
        have hD : va_D A [(o, .inr (3, [.int th, .int (nI ph), .int (zI og), .ref qx, .ref qk, .ref qw, .ref qb, .ref qn, .long (lN (jbN b 0 16 (k + 1))), .long (lN (jbN b 8 16 k)), .long nc, .int rs, .int (nI na), .ref qd, .int (nI nz), .ref qg, .long t1, .long t2])), (qb, .inl (kb, 16, .inl (nF b)))] := hD
        refine lv_aload_n hx hb dX3_tell_37 rfl (lv_at hl 1 rfl) ?_
        refine lv_aload_n hx hb dX3_tell_38 rfl (lv_at hl 1 rfl) ?_
        refine va_get (D := (dC, dI)) (ci := 3) (v := .long (lN (jbN b 8 16 k))) (C := RX3) (T := TX3) (N := 18) hx hb hta inX3 hown hK hP 0 rfl rfl 9 (by decide) (hta _ mw_466) (fun _ h9 => h9) rfl dX3_tell_39 ?_
        refine lv_bipush (v := nI 8) hx hb dX3_tell_42 (by decide) ?_
        refine lv_lshl hx hb dX3_tell_44 rfl (top_l (wb_shl _ (by decide)) ?_)
        refine lv_aload_n hx hb dX3_tell_45 rfl (lv_at hl 1 rfl) ?_
        refine va_get (D := (dC, dI)) (ci := 3) (v := .ref qb) (C := RX3) (T := TX3) (N := 18) hx hb hta inX3 hown hK hP 0 rfl rfl 6 (by decide) (hta _ mw_463) (fun _ h9 => h9) rfl dX3_tell_46 ?_
        refine lv_bipush (v := nI 8) hx hb dX3_tell_49 (by decide) ?_
        refine lv_iload_n hx hb dX3_tell_51 rfl (lv_at hl 0 rfl) ?_
        refine lv_iadd hx hb dX3_tell_52 (top_i (nI_add _ _) ?_)
        refine va_ialb hx hb hK hP 1 0 rfl rfl (by omega) (by decide) dX3_tell_53 ?_
        refine w_pc (pc2 := 54) rfl ?_
        refine lv_i2l hx hb dX3_tell_54 rfl (top_l (nI_l (Nat.lt_trans (b256 _) (by decide))) ?_)
        refine lv_lor hx hb dX3_tell_55 ?_
        refine top_l (y := lN (jbN b 8 16 (k + 1))) ((l_or _ _).trans (congrArg lN (jbN_t (by omega)))) ?_
        refine va_put (D := (dC, dI)) (ci := 3) (v := .long (lN (jbN b 8 16 (k + 1)))) (ty := .long) (C := RX3) (T := TX3) (N := 18) hx hb hta inX3 tyX3 tyX3_ok nmX3 hown hK hP hD hS 0 rfl rfl 9 (by decide) (hta _ mw_466) (fun _ h9 => h9) rfl (by decide +kernel) rfl rfl (Nat.le_of_ble_eq_true rfl) dX3_tell_56 (fun H locs hP hD hS => ?_)
        have hP : va_P (dC, dI) vwCl [(o, .inr (3, [.int th, .int (nI ph), .int (zI og), .ref qx, .ref qk, .ref qw, .ref qb, .ref qn, .long (lN (jbN b 0 16 (k + 1))), .long (lN (jbN b 8 16 (k + 1))), .long nc, .int rs, .int (nI na), .ref qd, .int (nI nz), .ref qg, .long t1, .long t2])), (qb, .inl (kb, 16, .inl (nF b)))] H := hP
        have hD : va_D A [(o, .inr (3, [.int th, .int (nI ph), .int (zI og), .ref qx, .ref qk, .ref qw, .ref qb, .ref qn, .long (lN (jbN b 0 16 (k + 1))), .long (lN (jbN b 8 16 (k + 1))), .long nc, .int rs, .int (nI na), .ref qd, .int (nI nz), .ref qg, .long t1, .long t2])), (qb, .inl (kb, 16, .inl (nF b)))] := hD
        refine lv_iinc (v := nI (k + 1)) (k := 0) hx hb dX3_tell_59 hl rfl (ix_inc _ 1) (by decide) rfl (fun ls hl => ?_)
        have hl : lv_has ls 2 [(1, .int (nI (k + 1))), (0, .ref o)] := hl
        refine lv_goto (tgt := 12) hx hb dX3_tell_62 (by decide) ?_
        exact ih (k + 1) ls H locs (by omega)  (lv_sub hl [0, 1] rfl) hP hD hS
  exact loop_12 8 0 ls H locs (by omega)  (lv_sub hl [0, 1] rfl) hP hD hS

def rm_m_addWords : Room := { frames := 1, cells := 0, slots := 0, locals := 21 }
set_option maxHeartbeats 4000000 in
set_option maxRecDepth 100000 in
/-- addWords(j) -/
theorem m_addWords (l : Launch) (dC : Nat → ClassId) (dI : Nat → Nat → Nat) (o : Nat) (th : Int32) (ph : Nat) (og : Bool) (qx : Nat) (qk : Nat) (qw : Nat) (qb : Nat) (qn : Nat) (mh : Int64) (ml : Int64) (nc : Int64) (rs : Int32) (na : Nat) (qd : Nat) (nz : Nat) (qg : Nat) (t1 : Int64) (t2 : Int64) (kw : ClassId) (kb : ClassId) (w : Nat → Int32) (b : Nat → Nat) (j : Nat) (hj : j ≤ 10) : MO l dC dI yX3_addWords wsX3_addWords rm_m_addWords [.ref o, .int (nI j)] [(o, .inr (3, [.int th, .int (nI ph), .int (zI og), .ref qx, .ref qk, .ref qw, .ref qb, .ref qn, .long mh, .long ml, .long nc, .int rs, .int (nI na), .ref qd, .int (nI nz), .ref qg, .long t1, .long t2])), (qw, .inl (kw, 44, .inl w)), (qb, .inl (kb, 16, .inl (nF b)))] [(kw, .int), (kb, .int)] [(o, .inr (3, [.int th, .int (nI ph), .int (zI og), .ref qx, .ref qk, .ref qw, .ref qb, .ref qn, .long mh, .long ml, .long nc, .int rs, .int (nI na), .ref qd, .int (nI nz), .ref qg, .long t1, .long t2])), (qw, .inl (kw, 44, .inl w)), (qb, .inl (kb, 16, .inl (nF (akN w j b))))] none := by
  refine mo_ofW (cc := cX3_addWords) (maxL := 3) (ret := none) (by decide) rfl (Nat.le_of_ble_eq_true rfl) ?_
  intro p e s m args below meth c Q A H locs ls hx hb hr hlk hml hta hown hin hE hQ hAe hA hK hP hD hS hl
  have hown : s.vm.findClass RX3 = some m.cls := hown
  have hl : lv_has ls 3 [(0, .ref o), (1, .int (nI j))] := hl
  refine lv_iconst (v := nI 0) hx hb dX3_addWords_0 (by decide) ?_
  refine lv_istore_n hx hb dX3_addWords_1 rfl hl (by decide) rfl (fun ls hl => ?_)
  have hl : lv_has ls 3 [(2, .int (nI 0)), (0, .ref o), (1, .int (nI j))] := hl
  obtain ⟨hP, hD⟩ := va_recb (g := akq w j b 0) hP hD 2 rfl (fun i _ => akq_0 w j b i)
  have hP : va_P (dC, dI) vwCl [(o, .inr (3, [.int th, .int (nI ph), .int (zI og), .ref qx, .ref qk, .ref qw, .ref qb, .ref qn, .long mh, .long ml, .long nc, .int rs, .int (nI na), .ref qd, .int (nI nz), .ref qg, .long t1, .long t2])), (qw, .inl (kw, 44, .inl w)), (qb, .inl (kb, 16, .inl (nF (akq w j b 0))))] H := hP
  have hD : va_D A [(o, .inr (3, [.int th, .int (nI ph), .int (zI og), .ref qx, .ref qk, .ref qw, .ref qb, .ref qn, .long mh, .long ml, .long nc, .int rs, .int (nI na), .ref qd, .int (nI nz), .ref qg, .long t1, .long t2])), (qw, .inl (kw, 44, .inl w)), (qb, .inl (kb, 16, .inl (nF (akq w j b 0))))] := hD
  have loop_2 : ∀ (n k : Nat) (ls : Array Slot) (H : Heap) (locs : List Loc), k + n = 16 → lv_has ls 3 [(2, .int (nI k)), (0, .ref o), (1, .int (nI j))] → va_P (dC, dI) vwCl [(o, .inr (3, [.int th, .int (nI ph), .int (zI og), .ref qx, .ref qk, .ref qw, .ref qb, .ref qn, .long mh, .long ml, .long nc, .int rs, .int (nI na), .ref qd, .int (nI nz), .ref qg, .long t1, .long t2])), (qw, .inl (kw, 44, .inl w)), (qb, .inl (kb, 16, .inl (nF (akq w j b k))))] H → va_D A [(o, .inr (3, [.int th, .int (nI ph), .int (zI og), .ref qx, .ref qk, .ref qw, .ref qb, .ref qn, .long mh, .long ml, .long nc, .int rs, .int (nI na), .ref qd, .int (nI nz), .ref qg, .long t1, .long t2])), (qw, .inl (kw, 44, .inl w)), (qb, .inl (kb, 16, .inl (nF (akq w j b k))))] → va_S A s.heap H locs → W p l e rm_m_addWords s m args below meth c H locs 0 0 Q (F0 m 2 ls []) := by
    intro n
    induction n with
    | zero =>
      intro k ls H locs hn_2  hl hP hD hS
      obtain rfl : 16 = k := by omega
      refine lv_iload_n hx hb dX3_addWords_2 rfl (lv_at hl 0 rfl) ?_
      refine lv_bipush (v := nI 16) hx hb dX3_addWords_3 (by decide) ?_
      refine lv_icmp_ge (tgt := 45) hx hb dX3_addWords_5 (by decide) (fun hc_5 => ?_) (fun hc_5 => ?_)
      · skip
        have hc_5 := (ix_le (a := 16) (b := 16) (by omega) (by omega)).mp hc_5
        have hc_5 : (16 ≤ 16) := hc_5
        obtain ⟨hP, hD⟩ := va_recb (g := akN w j b) hP hD 2 rfl (fun i hi9 => akq_16 w j b i hi9)
        have hP : va_P (dC, dI) vwCl [(o, .inr (3, [.int th, .int (nI ph), .int (zI og), .ref qx, .ref qk, .ref qw, .ref qb, .ref qn, .long mh, .long ml, .long nc, .int rs, .int (nI na), .ref qd, .int (nI nz), .ref qg, .long t1, .long t2])), (qw, .inl (kw, 44, .inl w)), (qb, .inl (kb, 16, .inl (nF (akN w j b))))] H := hP
        have hD : va_D A [(o, .inr (3, [.int th, .int (nI ph), .int (zI og), .ref qx, .ref qk, .ref qw, .ref qb, .ref qn, .long mh, .long ml, .long nc, .int rs, .int (nI na), .ref qd, .int (nI nz), .ref qg, .long t1, .long t2])), (qw, .inl (kw, 44, .inl w)), (qb, .inl (kb, 16, .inl (nF (akN w j b))))] := hD
        exact rt_0 hx hb hr hlk hQ hAe hP hD hS [0, 1, 2] (by decide) rfl (Nat.le_of_ble_eq_true rfl) (Nat.le_of_ble_eq_true rfl) dX3_addWords_45
      · skip
        have hc_5 := (not_congr (ix_le (a := 16) (b := 16) (by omega) (by omega))).mp hc_5
        have hc_5 : ¬ (16 ≤ 16) := hc_5
        exfalso; omega
    | succ n ih =>
      intro k ls H locs hn_2  hl hP hD hS
      refine lv_iload_n hx hb dX3_addWords_2 rfl (lv_at hl 0 rfl) ?_
      refine lv_bipush (v := nI 16) hx hb dX3_addWords_3 (by decide) ?_
      refine lv_icmp_ge (tgt := 45) hx hb dX3_addWords_5 (by decide) (fun hc_5 => ?_) (fun hc_5 => ?_)
      · skip
        have hc_5 := (ix_le (a := 16) (b := k) (by omega) (by omega)).mp hc_5
        have hc_5 : (16 ≤ k) := hc_5
        exfalso; omega
      · skip
        have hc_5 := (not_congr (ix_le (a := 16) (b := k) (by omega) (by omega))).mp hc_5
        have hc_5 : ¬ (16 ≤ k) := hc_5
        refine lv_aload_n hx hb dX3_addWords_8 rfl (lv_at hl 1 rfl) ?_
        refine va_get (D := (dC, dI)) (ci := 3) (v := .ref qb) (C := RX3) (T := TX3) (N := 18) hx hb hta inX3 hown hK hP 0 rfl rfl 6 (by decide) (hta _ mw_463) (fun _ h9 => h9) rfl dX3_addWords_9 ?_
        refine lv_iload_n hx hb dX3_addWords_12 rfl (lv_at hl 0 rfl) ?_
        refine lv_aload_n hx hb dX3_addWords_13 rfl (lv_at hl 1 rfl) ?_
        refine va_get (D := (dC, dI)) (ci := 3) (v := .ref qb) (C := RX3) (T := TX3) (N := 18) hx hb hta inX3 hown hK hP 0 rfl rfl 6 (by decide) (hta _ mw_463) (fun _ h9 => h9) rfl dX3_addWords_14 ?_
        refine lv_iload_n hx hb dX3_addWords_17 rfl (lv_at hl 0 rfl) ?_
        refine va_ialb hx hb hK hP 2 1 rfl rfl (by omega) (by decide) dX3_addWords_18 ?_
        refine top_i (y := nI (b k)) (congrArg nI (akq_k w j b k)) ?_
        refine lv_aload_n hx hb dX3_addWords_19 rfl (lv_at hl 1 rfl) ?_
        refine va_get (D := (dC, dI)) (ci := 3) (v := .ref qw) (C := RX3) (T := TX3) (N := 18) hx hb hta inX3 hown hK hP 0 rfl rfl 5 (by decide) (hta _ mw_462) (fun _ h9 => h9) rfl dX3_addWords_20 ?_
        refine lv_iconst (v := nI 4) hx hb dX3_addWords_23 (by decide) ?_
        refine lv_iload_n hx hb dX3_addWords_24 rfl (lv_at hl 2 rfl) ?_
        refine w_pc (pc2 := 25) rfl ?_
        refine lv_imul hx hb dX3_addWords_25 (top_i (pk_mul _ _) ?_)
        refine lv_iload_n hx hb dX3_addWords_26 rfl (lv_at hl 0 rfl) ?_
        refine lv_iconst (v := nI 4) hx hb dX3_addWords_27 (by decide) ?_
        refine lv_idiv hx hb dX3_addWords_28 (by decide) (top_i (pk_div (by omega) (by decide) (by decide)) ?_)
        refine lv_iadd hx hb dX3_addWords_29 (top_i (nI_add _ _) ?_)
        refine va_ialn hx hb hK hP 1 0 rfl rfl (by omega) (by decide) dX3_addWords_30 ?_
        refine lv_iload_n hx hb dX3_addWords_31 rfl (lv_at hl 0 rfl) ?_
        refine lv_iconst (v := nI 4) hx hb dX3_addWords_32 (by decide) ?_
        refine lv_irem hx hb dX3_addWords_33 (by decide) (top_i (pk_rem (by omega) (by decide) (by decide)) ?_)
        refine cf_1 (wr := [(o, .inr (3, [.int th, .int (nI ph), .int (zI og), .ref qx, .ref qk, .ref qw, .ref qb, .ref qn, .long mh, .long ml, .long nc, .int rs, .int (nI na), .ref qd, .int (nI nz), .ref qg, .long t1, .long t2])), (qw, .inl (kw, 44, .inl w)), (qb, .inl (kb, 16, .inl (nF (akq w j b k))))]) (va_runS (As := [.int (w ((4 * j) + (k / 4))), .int (nI (k % 4))]) (rest := [.int (nI (b k)), .int (nI k), .ref qb]) ⟨hx, hb, hml, hown, hta⟩ (MO.to (m_byteOf l dC dI (w ((4 * j) + (k / 4))) (k % 4) (Nat.mod_lt _ (by decide))) H.size) (va_cwS 2 hta (aw_S mw_456 mw_454 mw_455 mw_5) rfl rfl rfl dyX3_byteOf ⟨(Nat.le_of_ble_eq_true rfl), (Nat.le_of_ble_eq_true rfl)⟩) (pr_S hP hD hK hE [] [] (by decide) rfl rfl) rfl rfl hl.1 rfl (lv_room (Nat.le_of_ble_eq_true rfl)) dX3_addWords_34 ⟨(Nat.le_of_ble_eq_true rfl), (Nat.le_of_ble_eq_true rfl)⟩) hP hD hS hA [] [0, 1, 2] rfl rfl (by decide) (by decide) (fun H locs hP hD hS => ?_)
        have hP : va_P (dC, dI) vwCl [(o, .inr (3, [.int th, .int (nI ph), .int (zI og), .ref qx, .ref qk, .ref qw, .ref qb, .ref qn, .long mh, .long ml, .long nc, .int rs, .int (nI na), .ref qd, .int (nI nz), .ref qg, .long t1, .long t2])), (qw, .inl (kw, 44, .inl w)), (qb, .inl (kb, 16, .inl (nF (akq w j b k))))] H := hP
        have hD : va_D A [(o, .inr (3, [.int th, .int (nI ph), .int (zI og), .ref qx, .ref qk, .ref qw, .ref qb, .ref qn, .long mh, .long ml, .long nc, .int rs, .int (nI na), .ref qd, .int (nI nz), .ref qg, .long t1, .long t2])), (qw, .inl (kw, 44, .inl w)), (qb, .inl (kb, 16, .inl (nF (akq w j b k))))] := hD
        refine W.widen (k := 0) (n := 0) (Nat.le_of_ble_eq_true rfl) (Nat.le_of_ble_eq_true rfl) ?_
        refine w_pc (pc2 := 37) rfl ?_
        refine lv_ixor hx hb dX3_addWords_37 (top_i (n_xor _ _) ?_)
        refine va_iasb hx hb hK hP hD hS 2 1 rfl rfl (by omega) (by decide) dX3_addWords_38 (fun H locs hP hD hS => ?_)
        have hP : va_P (dC, dI) vwCl [(o, .inr (3, [.int th, .int (nI ph), .int (zI og), .ref qx, .ref qk, .ref qw, .ref qb, .ref qn, .long mh, .long ml, .long nc, .int rs, .int (nI na), .ref qd, .int (nI nz), .ref qg, .long t1, .long t2])), (qw, .inl (kw, 44, .inl w)), (qb, .inl (kb, 16, .inl (nF (un (akq w j b k) k ((b k) ^^^ (wbt (w ((4 * j) + (k / 4))) (k % 4)))))))] H := hP
        have hD : va_D A [(o, .inr (3, [.int th, .int (nI ph), .int (zI og), .ref qx, .ref qk, .ref qw, .ref qb, .ref qn, .long mh, .long ml, .long nc, .int rs, .int (nI na), .ref qd, .int (nI nz), .ref qg, .long t1, .long t2])), (qw, .inl (kw, 44, .inl w)), (qb, .inl (kb, 16, .inl (nF (un (akq w j b k) k ((b k) ^^^ (wbt (w ((4 * j) + (k / 4))) (k % 4)))))))] := hD
        refine lv_iinc (v := nI (k + 1)) (k := 0) hx hb dX3_addWords_39 hl rfl (ix_inc _ 1) (by decide) rfl (fun ls hl => ?_)
        have hl : lv_has ls 3 [(2, .int (nI (k + 1))), (0, .ref o), (1, .int (nI j))] := hl
        refine lv_goto (tgt := 2) hx hb dX3_addWords_42 (by decide) ?_
        obtain ⟨hP, hD⟩ := va_recb (g := akq w j b (k + 1)) hP hD 2 rfl (fun i _ => akq_s w j b k i)
        have hP : va_P (dC, dI) vwCl [(o, .inr (3, [.int th, .int (nI ph), .int (zI og), .ref qx, .ref qk, .ref qw, .ref qb, .ref qn, .long mh, .long ml, .long nc, .int rs, .int (nI na), .ref qd, .int (nI nz), .ref qg, .long t1, .long t2])), (qw, .inl (kw, 44, .inl w)), (qb, .inl (kb, 16, .inl (nF (akq w j b (k + 1)))))] H := hP
        have hD : va_D A [(o, .inr (3, [.int th, .int (nI ph), .int (zI og), .ref qx, .ref qk, .ref qw, .ref qb, .ref qn, .long mh, .long ml, .long nc, .int rs, .int (nI na), .ref qd, .int (nI nz), .ref qg, .long t1, .long t2])), (qw, .inl (kw, 44, .inl w)), (qb, .inl (kb, 16, .inl (nF (akq w j b (k + 1)))))] := hD
        exact ih (k + 1) ls H locs (by omega)  (lv_sub hl [0, 1, 2] rfl) hP hD hS
  exact loop_2 16 0 ls H locs (by omega)  (lv_sub hl [0, 1, 2] rfl) hP hD hS

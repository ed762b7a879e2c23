def rm_c_multiply : Room := { frames := 0, cells := 0, slots := 0, locals := 0 }
set_option maxHeartbeats 4000000 in
set_option maxRecDepth 100000 in
/-- multiply(oh, ol) -/
theorem c_multiply (l : Launch) (dC : Nat → ClassId) (dI : Nat → Nat → Nat) (g : Nat) (hi : Int64) (lo : Int64) (oh : Int64) (ol : Int64) : MO l dC dI yX1_multiply wsX1_multiply rm_c_multiply [.ref g, .long oh, .long ol] [(g, .inr (1, [.long hi, .long lo]))] [] [(g, .inr (1, [.long ((gst hi lo oh ol 128).1), .long ((gst hi lo oh ol 128).2.1)]))] none := by
  refine mo_ofW (cc := cX1_multiply) (maxL := 20) (ret := none) (by decide) rfl (Nat.le_of_ble_eq_true rfl) ?_
  intro p e s m args below meth c Q A H locs ls hx hb hr hlk hml hta hown hin hE hQ hAe hA hK hP hD hS hl
  have hown : s.vm.findClass RX1 = some m.cls := hown
  have hl : lv_has ls 20 [(0, .ref g), (1, .long oh), (3, .long ol)] := hl
  refine lv_lconst (v := lN 0) hx hb dX1_multiply_0 (by decide) ?_
  refine lv_lstore hx hb dX1_multiply_1 hl (by decide) rfl (fun ls hl => ?_)
  have hl : lv_has ls 20 [(5, .long (lN 0)), (0, .ref g), (1, .long oh), (3, .long ol)] := hl
  refine lv_lconst (v := lN 0) hx hb dX1_multiply_3 (by decide) ?_
  refine lv_lstore hx hb dX1_multiply_4 hl (by decide) rfl (fun ls hl => ?_)
  have hl : lv_has ls 20 [(7, .long (lN 0)), (5, .long (lN 0)), (0, .ref g), (1, .long oh), (3, .long ol)] := hl
  refine lv_lload_n hx hb dX1_multiply_6 rfl (lv_at hl 3 rfl) ?_
  refine lv_lstore hx hb dX1_multiply_7 hl (by decide) rfl (fun ls hl => ?_)
  have hl : lv_has ls 20 [(9, .long oh), (7, .long (lN 0)), (5, .long (lN 0)), (0, .ref g), (1, .long oh), (3, .long ol)] := hl
  refine lv_lload_n hx hb dX1_multiply_9 rfl (lv_at hl 5 rfl) ?_
  refine lv_lstore hx hb dX1_multiply_10 hl (by decide) rfl (fun ls hl => ?_)
  have hl : lv_has ls 20 [(11, .long ol), (9, .long oh), (7, .long (lN 0)), (5, .long (lN 0)), (0, .ref g), (1, .long oh), (3, .long ol)] := hl
  refine lv_iconst (v := nI 0) hx hb dX1_multiply_12 (by decide) ?_
  refine lv_istore hx hb dX1_multiply_13 hl (by decide) rfl (fun ls hl => ?_)
  have hl : lv_has ls 20 [(13, .int (nI 0)), (11, .long ol), (9, .long oh), (7, .long (lN 0)), (5, .long (lN 0)), (0, .ref g), (1, .long oh), (3, .long ol)] := hl
  have loop_15 : ∀ (n k : Nat) (ls : Array Slot) (H : Heap) (locs : List Loc), k + n = 128 → lv_has ls 20 [(5, .long ((gst hi lo oh ol k).1)), (7, .long ((gst hi lo oh ol k).2.1)), (9, .long ((gst hi lo oh ol k).2.2.1)), (11, .long ((gst hi lo oh ol k).2.2.2)), (13, .int (nI k)), (0, .ref g)] → va_P (dC, dI) vwCl [(g, .inr (1, [.long hi, .long lo]))] H → va_D A [(g, .inr (1, [.long hi, .long lo]))] → va_S A s.heap H locs → W p l e rm_c_multiply s m args below meth c H locs 0 0 Q (F0 m 15 ls []) := by
    intro n
    induction n with
    | zero =>
      intro k ls H locs hn_15  hl hP hD hS
      obtain rfl : 128 = k := by omega
      refine lv_iload hx hb dX1_multiply_15 (lv_at hl 4 rfl) ?_
      refine lv_sipush (v := nI 128) hx hb dX1_multiply_17 (by decide) ?_
      refine lv_icmp_ge (tgt := 117) hx hb dX1_multiply_20 (by decide) (fun hc_20 => ?_) (fun hc_20 => ?_)
      · skip
        have hc_20 := (ix_le (a := 128) (b := 128) (by omega) (by omega)).mp hc_20
        have hc_20 : (128 ≤ 128) := hc_20
        refine lv_aload_n hx hb dX1_multiply_117 rfl (lv_at hl 5 rfl) ?_
        refine lv_lload hx hb dX1_multiply_118 (lv_at hl 0 rfl) ?_
        refine va_put (D := (dC, dI)) (ci := 1) (v := .long ((gst hi lo oh ol 128).1)) (ty := .long) (C := RX1) (T := TX1) (N := 2) hx hb hta inX1 tyX1 tyX1_ok nmX1 hown hK hP hD hS 0 rfl rfl 0 (by decide) (hta _ mw_73) (fun _ h9 => h9) rfl (by decide +kernel) rfl rfl (Nat.le_of_ble_eq_true rfl) dX1_multiply_120 (fun H locs hP hD hS => ?_)
        have hP : va_P (dC, dI) vwCl [(g, .inr (1, [.long ((gst hi lo oh ol 128).1), .long lo]))] H := hP
        have hD : va_D A [(g, .inr (1, [.long ((gst hi lo oh ol 128).1), .long lo]))] := hD
        refine lv_aload_n hx hb dX1_multiply_123 rfl (lv_at hl 5 rfl) ?_
        refine lv_lload hx hb dX1_multiply_124 (lv_at hl 1 rfl) ?_
        refine va_put (D := (dC, dI)) (ci := 1) (v := .long ((gst hi lo oh ol 128).2.1)) (ty := .long) (C := RX1) (T := TX1) (N := 2) hx hb hta inX1 tyX1 tyX1_ok nmX1 hown hK hP hD hS 0 rfl rfl 1 (by decide) (hta _ mw_74) (fun _ h9 => h9) rfl (by decide +kernel) rfl rfl (Nat.le_of_ble_eq_true rfl) dX1_multiply_126 (fun H locs hP hD hS => ?_)
        have hP : va_P (dC, dI) vwCl [(g, .inr (1, [.long ((gst hi lo oh ol 128).1), .long ((gst hi lo oh ol 128).2.1)]))] H := hP
        have hD : va_D A [(g, .inr (1, [.long ((gst hi lo oh ol 128).1), .long ((gst hi lo oh ol 128).2.1)]))] := hD
        exact rt_0 hx hb hr hlk hQ hAe hP hD hS [0] (by decide) rfl (Nat.le_of_ble_eq_true rfl) (Nat.le_of_ble_eq_true rfl) dX1_multiply_129
      · skip
        have hc_20 := (not_congr (ix_le (a := 128) (b := 128) (by omega) (by omega))).mp hc_20
        have hc_20 : ¬ (128 ≤ 128) := hc_20
        exfalso; omega
    | succ n ih =>
      intro k ls H locs hn_15  hl hP hD hS
      refine lv_iload hx hb dX1_multiply_15 (lv_at hl 4 rfl) ?_
      refine lv_sipush (v := nI 128) hx hb dX1_multiply_17 (by decide) ?_
      refine lv_icmp_ge (tgt := 117) hx hb dX1_multiply_20 (by decide) (fun hc_20 => ?_) (fun hc_20 => ?_)
      · skip
        have hc_20 := (ix_le (a := 128) (b := k) (by omega) (by omega)).mp hc_20
        have hc_20 : (128 ≤ k) := hc_20
        exfalso; omega
      · skip
        have hc_20 := (not_congr (ix_le (a := 128) (b := k) (by omega) (by omega))).mp hc_20
        have hc_20 : ¬ (128 ≤ k) := hc_20
        refine lv_iload hx hb dX1_multiply_23 (lv_at hl 4 rfl) ?_
        refine lv_bipush (v := nI 64) hx hb dX1_multiply_25 (by decide) ?_
        refine lv_icmp_ge (tgt := 37) hx hb dX1_multiply_27 (by decide) (fun hc_27 => ?_) (fun hc_27 => ?_)
        · skip
          have hc_27 := (ix_le (a := 64) (b := k) (by omega) (by omega)).mp hc_27
          have hc_27 : (64 ≤ k) := hc_27
          refine lv_aload_n hx hb dX1_multiply_37 rfl (lv_at hl 5 rfl) ?_
          refine va_get (D := (dC, dI)) (ci := 1) (v := .long lo) (C := RX1) (T := TX1) (N := 2) hx hb hta inX1 hown hK hP 0 rfl rfl 1 (by decide) (hta _ mw_74) (fun _ h9 => h9) rfl dX1_multiply_38 ?_
          refine lv_lstore hx hb dX1_multiply_41 hl (by decide) rfl (fun ls hl => ?_)
          have hl : lv_has ls 20 [(14, .long lo), (5, .long ((gst hi lo oh ol k).1)), (7, .long ((gst hi lo oh ol k).2.1)), (9, .long ((gst hi lo oh ol k).2.2.1)), (11, .long ((gst hi lo oh ol k).2.2.2)), (13, .int (nI k)), (0, .ref g)] := hl
          refine lv_lload hx hb dX1_multiply_43 (lv_at hl 0 rfl) ?_
          refine lv_bipush (v := nI 63) hx hb dX1_multiply_45 (by decide) ?_
          refine lv_iload hx hb dX1_multiply_47 (lv_at hl 5 rfl) ?_
          refine lv_bipush (v := nI 64) hx hb dX1_multiply_49 (by decide) ?_
          refine lv_irem hx hb dX1_multiply_51 (by decide) (top_i (pk_rem (by omega) (by decide) (by decide)) ?_)
          refine lv_isub hx hb dX1_multiply_52 (top_i (pk_sub (by omega)) ?_)
          refine lv_lushr hx hb dX1_multiply_53 rfl (top_l (l_ushr _ (by omega)) ?_)
          refine lv_lconst (v := lN 1) hx hb dX1_multiply_54 (by decide) ?_
          refine w_pc (pc2 := 55) rfl ?_
          refine lv_land hx hb dX1_multiply_55 (top_l (l_and _ _) ?_)
          refine lv_lneg hx hb dX1_multiply_56 ?_
          refine top_l (y := gch hi lo k) (gch_lo hi lo (by omega) (by omega)) ?_
          refine lv_lstore hx hb dX1_multiply_57 hl (by decide) rfl (fun ls hl => ?_)
          have hl : lv_has ls 20 [(16, .long (gch hi lo k)), (14, .long lo), (5, .long ((gst hi lo oh ol k).1)), (7, .long ((gst hi lo oh ol k).2.1)), (9, .long ((gst hi lo oh ol k).2.2.1)), (11, .long ((gst hi lo oh ol k).2.2.2)), (13, .int (nI k)), (0, .ref g)] := hl
          refine lv_lload hx hb dX1_multiply_59 (lv_at hl 2 rfl) ?_
          refine lv_lload hx hb dX1_multiply_61 (lv_at hl 4 rfl) ?_
          refine lv_lload hx hb dX1_multiply_63 (lv_at hl 0 rfl) ?_
          refine lv_land hx hb dX1_multiply_65 ?_
          refine lv_lxor hx hb dX1_multiply_66 ?_
          refine top_l (y := (gst hi lo oh ol (k + 1)).1) (gst_1 _ _ _ _ _) ?_
          refine lv_lstore hx hb dX1_multiply_67 hl (by decide) rfl (fun ls hl => ?_)
          have hl : lv_has ls 20 [(5, .long ((gst hi lo oh ol (k + 1)).1)), (16, .long (gch hi lo k)), (14, .long lo), (7, .long ((gst hi lo oh ol k).2.1)), (9, .long ((gst hi lo oh ol k).2.2.1)), (11, .long ((gst hi lo oh ol k).2.2.2)), (13, .int (nI k)), (0, .ref g)] := hl
          refine lv_lload hx hb dX1_multiply_69 (lv_at hl 3 rfl) ?_
          refine lv_lload hx hb dX1_multiply_71 (lv_at hl 5 rfl) ?_
          refine lv_lload hx hb dX1_multiply_73 (lv_at hl 1 rfl) ?_
          refine w_pc (pc2 := 75) rfl ?_
          refine lv_land hx hb dX1_multiply_75 ?_
          refine lv_lxor hx hb dX1_multiply_76 ?_
          refine top_l (y := (gst hi lo oh ol (k + 1)).2.1) (gst_2 _ _ _ _ _) ?_
          refine lv_lstore hx hb dX1_multiply_77 hl (by decide) rfl (fun ls hl => ?_)
          have hl : lv_has ls 20 [(7, .long ((gst hi lo oh ol (k + 1)).2.1)), (5, .long ((gst hi lo oh ol (k + 1)).1)), (16, .long (gch hi lo k)), (14, .long lo), (9, .long ((gst hi lo oh ol k).2.2.1)), (11, .long ((gst hi lo oh ol k).2.2.2)), (13, .int (nI k)), (0, .ref g)] := hl
          refine lv_lload hx hb dX1_multiply_79 (lv_at hl 5 rfl) ?_
          refine lv_lconst (v := lN 1) hx hb dX1_multiply_81 (by decide) ?_
          refine lv_land hx hb dX1_multiply_82 ?_
          refine lv_lneg hx hb dX1_multiply_83 ?_
          refine top_l (y := gov (gst hi lo oh ol k).2.2.2) (gov_e _) ?_
          refine lv_lstore hx hb dX1_multiply_84 hl (by decide) rfl (fun ls hl => ?_)
          have hl : lv_has ls 20 [(18, .long (gov (gst hi lo oh ol k).2.2.2)), (7, .long ((gst hi lo oh ol (k + 1)).2.1)), (5, .long ((gst hi lo oh ol (k + 1)).1)), (16, .long (gch hi lo k)), (14, .long lo), (9, .long ((gst hi lo oh ol k).2.2.1)), (11, .long ((gst hi lo oh ol k).2.2.2)), (13, .int (nI k)), (0, .ref g)] := hl
          refine lv_lload hx hb dX1_multiply_86 (lv_at hl 6 rfl) ?_
          refine lv_iconst (v := nI 1) hx hb dX1_multiply_88 (by decide) ?_
          refine lv_lushr hx hb dX1_multiply_89 rfl ?_
          refine top_l (y := (((gst hi lo oh ol k).2.2.2).toUInt64 >>> ((nI 1).toInt64.toUInt64 &&& Int64.toUInt64 63)).toInt64) (rfl) ?_
          refine lv_lload hx hb dX1_multiply_90 (lv_at hl 5 rfl) ?_
          refine w_pc (pc2 := 92) rfl ?_
          refine lv_bipush (v := nI 63) hx hb dX1_multiply_92 (by decide) ?_
          refine lv_lshl hx hb dX1_multiply_94 rfl ?_
          refine lv_lor hx hb dX1_multiply_95 ?_
          refine top_l (y := (gst hi lo oh ol (k + 1)).2.2.2) (rfl) ?_
          refine lv_lstore hx hb dX1_multiply_96 hl (by decide) rfl (fun ls hl => ?_)
          have hl : lv_has ls 20 [(11, .long ((gst hi lo oh ol (k + 1)).2.2.2)), (18, .long (gov (gst hi lo oh ol k).2.2.2)), (7, .long ((gst hi lo oh ol (k + 1)).2.1)), (5, .long ((gst hi lo oh ol (k + 1)).1)), (16, .long (gch hi lo k)), (14, .long lo), (9, .long ((gst hi lo oh ol k).2.2.1)), (13, .int (nI k)), (0, .ref g)] := hl
          refine lv_lload hx hb dX1_multiply_98 (lv_at hl 6 rfl) ?_
          refine lv_iconst (v := nI 1) hx hb dX1_multiply_100 (by decide) ?_
          refine lv_lushr hx hb dX1_multiply_101 rfl ?_
          refine top_l (y := (((gst hi lo oh ol k).2.2.1).toUInt64 >>> ((nI 1).toInt64.toUInt64 &&& Int64.toUInt64 63)).toInt64) (rfl) ?_
          refine lv_lload hx hb dX1_multiply_102 (lv_at hl 1 rfl) ?_
          refine lv_ldc2 (v := (-2233785415175766016)) hx hb hown (hta _ mw_201) dX1_multiply_104 ?_
          refine lv_land hx hb dX1_multiply_107 ?_
          refine lv_lxor hx hb dX1_multiply_108 ?_
          refine top_l (y := (gst hi lo oh ol (k + 1)).2.2.1) (gst_3 _ _ _ _ _) ?_
          refine lv_lstore hx hb dX1_multiply_109 hl (by decide) rfl (fun ls hl => ?_)
          have hl : lv_has ls 20 [(9, .long ((gst hi lo oh ol (k + 1)).2.2.1)), (11, .long ((gst hi lo oh ol (k + 1)).2.2.2)), (18, .long (gov (gst hi lo oh ol k).2.2.2)), (7, .long ((gst hi lo oh ol (k + 1)).2.1)), (5, .long ((gst hi lo oh ol (k + 1)).1)), (16, .long (gch hi lo k)), (14, .long lo), (13, .int (nI k)), (0, .ref g)] := hl
          refine w_pc (pc2 := 111) rfl ?_
          refine lv_iinc (v := nI (k + 1)) (k := 7) hx hb dX1_multiply_111 hl rfl (ix_inc _ 1) (by decide) rfl (fun ls hl => ?_)
          have hl : lv_has ls 20 [(13, .int (nI (k + 1))), (9, .long ((gst hi lo oh ol (k + 1)).2.2.1)), (11, .long ((gst hi lo oh ol (k + 1)).2.2.2)), (18, .long (gov (gst hi lo oh ol k).2.2.2)), (7, .long ((gst hi lo oh ol (k + 1)).2.1)), (5, .long ((gst hi lo oh ol (k + 1)).1)), (16, .long (gch hi lo k)), (14, .long lo), (0, .ref g)] := hl
          refine lv_goto (tgt := 15) hx hb dX1_multiply_114 (by decide) ?_
          exact ih (k + 1) ls H locs (by omega)  (lv_sub hl [5, 4, 1, 2, 0, 8] rfl) hP hD hS
        · skip
          have hc_27 := (not_congr (ix_le (a := 64) (b := k) (by omega) (by omega))).mp hc_27
          have hc_27 : ¬ (64 ≤ k) := hc_27
          refine lv_aload_n hx hb dX1_multiply_30 rfl (lv_at hl 5 rfl) ?_
          refine va_get (D := (dC, dI)) (ci := 1) (v := .long hi) (C := RX1) (T := TX1) (N := 2) hx hb hta inX1 hown hK hP 0 rfl rfl 0 (by decide) (hta _ mw_73) (fun _ h9 => h9) rfl dX1_multiply_31 ?_
          refine lv_goto (tgt := 41) hx hb dX1_multiply_34 (by decide) ?_
          refine lv_lstore hx hb dX1_multiply_41 hl (by decide) rfl (fun ls hl => ?_)
          have hl : lv_has ls 20 [(14, .long hi), (5, .long ((gst hi lo oh ol k).1)), (7, .long ((gst hi lo oh ol k).2.1)), (9, .long ((gst hi lo oh ol k).2.2.1)), (11, .long ((gst hi lo oh ol k).2.2.2)), (13, .int (nI k)), (0, .ref g)] := hl
          refine lv_lload hx hb dX1_multiply_43 (lv_at hl 0 rfl) ?_
          refine lv_bipush (v := nI 63) hx hb dX1_multiply_45 (by decide) ?_
          refine lv_iload hx hb dX1_multiply_47 (lv_at hl 5 rfl) ?_
          refine lv_bipush (v := nI 64) hx hb dX1_multiply_49 (by decide) ?_
          refine lv_irem hx hb dX1_multiply_51 (by decide) (top_i (pk_rem (by omega) (by decide) (by decide)) ?_)
          refine lv_isub hx hb dX1_multiply_52 (top_i (pk_sub (by omega)) ?_)
          refine lv_lushr hx hb dX1_multiply_53 rfl (top_l (l_ushr _ (by omega)) ?_)
          refine lv_lconst (v := lN 1) hx hb dX1_multiply_54 (by decide) ?_
          refine lv_land hx hb dX1_multiply_55 (top_l (l_and _ _) ?_)
          refine lv_lneg hx hb dX1_multiply_56 ?_
          refine top_l (y := gch hi lo k) (gch_hi hi lo (by omega)) ?_
          refine w_pc (pc2 := 57) rfl ?_
          refine lv_lstore hx hb dX1_multiply_57 hl (by decide) rfl (fun ls hl => ?_)
          have hl : lv_has ls 20 [(16, .long (gch hi lo k)), (14, .long hi), (5, .long ((gst hi lo oh ol k).1)), (7, .long ((gst hi lo oh ol k).2.1)), (9, .long ((gst hi lo oh ol k).2.2.1)), (11, .long ((gst hi lo oh ol k).2.2.2)), (13, .int (nI k)), (0, .ref g)] := hl
          refine lv_lload hx hb dX1_multiply_59 (lv_at hl 2 rfl) ?_
          refine lv_lload hx hb dX1_multiply_61 (lv_at hl 4 rfl) ?_
          refine lv_lload hx hb dX1_multiply_63 (lv_at hl 0 rfl) ?_
          refine lv_land hx hb dX1_multiply_65 ?_
          refine lv_lxor hx hb dX1_multiply_66 ?_
          refine top_l (y := (gst hi lo oh ol (k + 1)).1) (gst_1 _ _ _ _ _) ?_
          refine lv_lstore hx hb dX1_multiply_67 hl (by decide) rfl (fun ls hl => ?_)
          have hl : lv_has ls 20 [(5, .long ((gst hi lo oh ol (k + 1)).1)), (16, .long (gch hi lo k)), (14, .long hi), (7, .long ((gst hi lo oh ol k).2.1)), (9, .long ((gst hi lo oh ol k).2.2.1)), (11, .long ((gst hi lo oh ol k).2.2.2)), (13, .int (nI k)), (0, .ref g)] := hl
          refine lv_lload hx hb dX1_multiply_69 (lv_at hl 3 rfl) ?_
          refine lv_lload hx hb dX1_multiply_71 (lv_at hl 5 rfl) ?_
          refine lv_lload hx hb dX1_multiply_73 (lv_at hl 1 rfl) ?_
          refine lv_land hx hb dX1_multiply_75 ?_
          refine lv_lxor hx hb dX1_multiply_76 ?_
          refine top_l (y := (gst hi lo oh ol (k + 1)).2.1) (gst_2 _ _ _ _ _) ?_
          refine w_pc (pc2 := 77) rfl ?_
          refine lv_lstore hx hb dX1_multiply_77 hl (by decide) rfl (fun ls hl => ?_)
          have hl : lv_has ls 20 [(7, .long ((gst hi lo oh ol (k + 1)).2.1)), (5, .long ((gst hi lo oh ol (k + 1)).1)), (16, .long (gch hi lo k)), (14, .long hi), (9, .long ((gst hi lo oh ol k).2.2.1)), (11, .long ((gst hi lo oh ol k).2.2.2)), (13, .int (nI k)), (0, .ref g)] := hl
          refine lv_lload hx hb dX1_multiply_79 (lv_at hl 5 rfl) ?_
          refine lv_lconst (v := lN 1) hx hb dX1_multiply_81 (by decide) ?_
          refine lv_land hx hb dX1_multiply_82 ?_
          refine lv_lneg hx hb dX1_multiply_83 ?_
          refine top_l (y := gov (gst hi lo oh ol k).2.2.2) (gov_e _) ?_
          refine lv_lstore hx hb dX1_multiply_84 hl (by decide) rfl (fun ls hl => ?_)
          have hl : lv_has ls 20 [(18, .long (gov (gst hi lo oh ol k).2.2.2)), (7, .long ((gst hi lo oh ol (k + 1)).2.1)), (5, .long ((gst hi lo oh ol (k + 1)).1)), (16, .long (gch hi lo k)), (14, .long hi), (9, .long ((gst hi lo oh ol k).2.2.1)), (11, .long ((gst hi lo oh ol k).2.2.2)), (13, .int (nI k)), (0, .ref g)] := hl
          refine lv_lload hx hb dX1_multiply_86 (lv_at hl 6 rfl) ?_
          refine lv_iconst (v := nI 1) hx hb dX1_multiply_88 (by decide) ?_
          refine lv_lushr hx hb dX1_multiply_89 rfl ?_
          refine top_l (y := (((gst hi lo oh ol k).2.2.2).toUInt64 >>> ((nI 1).toInt64.toUInt64 &&& Int64.toUInt64 63)).toInt64) (rfl) ?_
          refine lv_lload hx hb dX1_multiply_90 (lv_at hl 5 rfl) ?_
          refine lv_bipush (v := nI 63) hx hb dX1_multiply_92 (by decide) ?_
          refine lv_lshl hx hb dX1_multiply_94 rfl ?_
          refine w_pc (pc2 := 95) rfl ?_
          refine lv_lor hx hb dX1_multiply_95 ?_
          refine top_l (y := (gst hi lo oh ol (k + 1)).2.2.2) (rfl) ?_
          refine lv_lstore hx hb dX1_multiply_96 hl (by decide) rfl (fun ls hl => ?_)
          have hl : lv_has ls 20 [(11, .long ((gst hi lo oh ol (k + 1)).2.2.2)), (18, .long (gov (gst hi lo oh ol k).2.2.2)), (7, .long ((gst hi lo oh ol (k + 1)).2.1)), (5, .long ((gst hi lo oh ol (k + 1)).1)), (16, .long (gch hi lo k)), (14, .long hi), (9, .long ((gst hi lo oh ol k).2.2.1)), (13, .int (nI k)), (0, .ref g)] := hl
          refine lv_lload hx hb dX1_multiply_98 (lv_at hl 6 rfl) ?_
          refine lv_iconst (v := nI 1) hx hb dX1_multiply_100 (by decide) ?_
          refine lv_lushr hx hb dX1_multiply_101 rfl ?_
          refine top_l (y := (((gst hi lo oh ol k).2.2.1).toUInt64 >>> ((nI 1).toInt64.toUInt64 &&& Int64.toUInt64 63)).toInt64) (rfl) ?_
          refine lv_lload hx hb dX1_multiply_102 (lv_at hl 1 rfl) ?_
          refine lv_ldc2 (v := (-2233785415175766016)) hx hb hown (hta _ mw_201) dX1_multiply_104 ?_
          refine lv_land hx hb dX1_multiply_107 ?_
          refine lv_lxor hx hb dX1_multiply_108 ?_
          refine top_l (y := (gst hi lo oh ol (k + 1)).2.2.1) (gst_3 _ _ _ _ _) ?_
          refine lv_lstore hx hb dX1_multiply_109 hl (by decide) rfl (fun ls hl => ?_)
          have hl : lv_has ls 20 [(9, .long ((gst hi lo oh ol (k + 1)).2.2.1)), (11, .long ((gst hi lo oh ol (k + 1)).2.2.2)), (18, .long (gov (gst hi lo oh ol k).2.2.2)), (7, .long ((gst hi lo oh ol (k + 1)).2.1)), (5, .long ((gst hi lo oh ol (k + 1)).1)), (16, .long (gch hi lo k)), (14, .long hi), (13, .int (nI k)), (0, .ref g)] := hl
          refine lv_iinc (v := nI (k + 1)) (k := 7) hx hb dX1_multiply_111 hl rfl (ix_inc _ 1) (by decide) rfl (fun ls hl => ?_)
          have hl : lv_has ls 20 [(13, .int (nI (k + 1))), (9, .long ((gst hi lo oh ol (k + 1)).2.2.1)), (11, .long ((gst hi lo oh ol (k + 1)).2.2.2)), (18, .long (gov (gst hi lo oh ol k).2.2.2)), (7, .long ((gst hi lo oh ol (k + 1)).2.1)), (5, .long ((gst hi lo oh ol (k + 1)).1)), (16, .long (gch hi lo k)), (14, .long hi), (0, .ref g)] := hl
          refine lv_goto (tgt := 15) hx hb dX1_multiply_114 (by decide) ?_
          exact ih (k + 1) ls H locs (by omega)  (lv_sub hl [5, 4, 1, 2, 0, 8] rfl) hP hD hS
  exact loop_15 128 0 ls H locs (by omega)  (lv_sub hl [4, 3, 2, 1, 0, 5] rfl) hP hD hS

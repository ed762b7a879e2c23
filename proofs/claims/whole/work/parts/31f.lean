def rm_m_multiply : Room := { frames := 0, cells := 0, slots := 0, locals := 0 }
set_option maxHeartbeats 4000000 in
set_option maxRecDepth 100000 in
/-- multiply(oh, ol) -/
theorem m_multiply (l : Launch) (dC : Nat → ClassId) (dI : Nat → Nat → Nat) (o : Nat) (th : Int32) (ph : Nat) (og : Bool) (qx : Nat) (qk : Nat) (qw : Nat) (qb : Nat) (qn : Nat) (mh : Int64) (ml : Int64) (nc : Int64) (rs : Int32) (na : Nat) (qd : Nat) (nz : Nat) (qg : Nat) (t1 : Int64) (t2 : Int64) (oh : Int64) (ol : Int64) : MO l dC dI yX3_multiply wsX3_multiply rm_m_multiply [.ref o, .long oh, .long ol] [(o, .inr (3, [.int th, .int (nI ph), .int (zI og), .ref qx, .ref qk, .ref qw, .ref qb, .ref qn, .long mh, .long ml, .long nc, .int rs, .int (nI na), .ref qd, .int (nI nz), .ref qg, .long t1, .long t2]))] [] [(o, .inr (3, [.int th, .int (nI ph), .int (zI og), .ref qx, .ref qk, .ref qw, .ref qb, .ref qn, .long ((gst mh ml oh ol 128).1), .long ((gst mh ml oh ol 128).2.1), .long nc, .int rs, .int (nI na), .ref qd, .int (nI nz), .ref qg, .long t1, .long t2]))] none := by
  refine mo_ofW (cc := cX3_multiply) (maxL := 17) (ret := none) (by decide) rfl (Nat.le_of_ble_eq_true rfl) ?_
  intro p e s m args below meth c Q A H locs ls hx hb hr hlk hml hta hown hin hE hQ hAe hA hK hP hD hS hl
  have hown : s.vm.findClass RX3 = some m.cls := hown
  have hl : lv_has ls 17 [(0, .ref o), (1, .long oh), (3, .long ol)] := hl
  refine lv_lconst (v := lN 0) hx hb dX3_multiply_0 (by decide) ?_
  refine lv_lstore hx hb dX3_multiply_1 hl (by decide) rfl (fun ls hl => ?_)
  have hl : lv_has ls 17 [(5, .long (lN 0)), (0, .ref o), (1, .long oh), (3, .long ol)] := hl
  refine lv_lconst (v := lN 0) hx hb dX3_multiply_3 (by decide) ?_
  refine lv_lstore hx hb dX3_multiply_4 hl (by decide) rfl (fun ls hl => ?_)
  have hl : lv_has ls 17 [(7, .long (lN 0)), (5, .long (lN 0)), (0, .ref o), (1, .long oh), (3, .long ol)] := hl
  refine lv_lload_n hx hb dX3_multiply_6 rfl (lv_at hl 3 rfl) ?_
  refine lv_lstore hx hb dX3_multiply_7 hl (by decide) rfl (fun ls hl => ?_)
  have hl : lv_has ls 17 [(9, .long oh), (7, .long (lN 0)), (5, .long (lN 0)), (0, .ref o), (1, .long oh), (3, .long ol)] := hl
  refine lv_lload_n hx hb dX3_multiply_9 rfl (lv_at hl 5 rfl) ?_
  refine lv_lstore hx hb dX3_multiply_10 hl (by decide) rfl (fun ls hl => ?_)
  have hl : lv_has ls 17 [(11, .long ol), (9, .long oh), (7, .long (lN 0)), (5, .long (lN 0)), (0, .ref o), (1, .long oh), (3, .long ol)] := hl
  refine lv_iconst (v := nI 0) hx hb dX3_multiply_12 (by decide) ?_
  refine lv_istore hx hb dX3_multiply_13 hl (by decide) rfl (fun ls hl => ?_)
  have hl : lv_has ls 17 [(13, .int (nI 0)), (11, .long ol), (9, .long oh), (7, .long (lN 0)), (5, .long (lN 0)), (0, .ref o), (1, .long oh), (3, .long ol)] := hl
  have loop_15 : ∀ (n k : Nat) (ls : Array Slot) (H : Heap) (locs : List Loc), k + n = 128 → lv_has ls 17 [(5, .long ((gst mh ml oh ol k).1)), (7, .long ((gst mh ml oh ol k).2.1)), (9, .long ((gst mh ml oh ol k).2.2.1)), (11, .long ((gst mh ml oh ol k).2.2.2)), (13, .int (nI k)), (0, .ref o)] → va_P (dC, dI) vwCl [(o, .inr (3, [.int th, .int (nI ph), .int (zI og), .ref qx, .ref qk, .ref qw, .ref qb, .ref qn, .long mh, .long ml, .long nc, .int rs, .int (nI na), .ref qd, .int (nI nz), .ref qg, .long t1, .long t2]))] H → va_D A [(o, .inr (3, [.int th, .int (nI ph), .int (zI og), .ref qx, .ref qk, .ref qw, .ref qb, .ref qn, .long mh, .long ml, .long nc, .int rs, .int (nI na), .ref qd, .int (nI nz), .ref qg, .long t1, .long t2]))] → va_S A s.heap H locs → W p l e rm_m_multiply s m args below meth c H locs 0 0 Q (F0 m 15 ls []) := by
    intro n
    induction n with
    | zero =>
      intro k ls H locs hn_15  hl hP hD hS
      obtain rfl : 128 = k := by omega
      refine lv_iload hx hb dX3_multiply_15 (lv_at hl 4 rfl) ?_
      refine lv_sipush (v := nI 128) hx hb dX3_multiply_17 (by decide) ?_
      refine lv_icmp_ge (tgt := 153) hx hb dX3_multiply_20 (by decide) (fun hc_20 => ?_) (fun hc_20 => ?_)
      · skip
        have hc_20 := (ix_le (a := 128) (b := 128) (by omega) (by omega)).mp hc_20
        have hc_20 : (128 ≤ 128) := hc_20
        refine lv_aload_n hx hb dX3_multiply_153 rfl (lv_at hl 5 rfl) ?_
        refine lv_lload hx hb dX3_multiply_154 (lv_at hl 0 rfl) ?_
        refine va_put (D := (dC, dI)) (ci := 3) (v := .long ((gst mh ml oh ol 128).1)) (ty := .long) (C := RX3) (T := TX3) (N := 18) hx hb hta inX3 tyX3 tyX3_ok nmX3 hown hK hP hD hS 0 rfl rfl 8 (by decide) (hta _ mw_465) (fun _ h9 => h9) rfl (by decide +kernel) rfl rfl (Nat.le_of_ble_eq_true rfl) dX3_multiply_156 (fun H locs hP hD hS => ?_)
        have hP : va_P (dC, dI) vwCl [(o, .inr (3, [.int th, .int (nI ph), .int (zI og), .ref qx, .ref qk, .ref qw, .ref qb, .ref qn, .long ((gst mh ml oh ol 128).1), .long ml, .long nc, .int rs, .int (nI na), .ref qd, .int (nI nz), .ref qg, .long t1, .long t2]))] H := hP
        have hD : va_D A [(o, .inr (3, [.int th, .int (nI ph), .int (zI og), .ref qx, .ref qk, .ref qw, .ref qb, .ref qn, .long ((gst mh ml oh ol 128).1), .long ml, .long nc, .int rs, .int (nI na), .ref qd, .int (nI nz), .ref qg, .long t1, .long t2]))] := hD
        refine lv_aload_n hx hb dX3_multiply_159 rfl (lv_at hl 5 rfl) ?_
        refine lv_lload hx hb dX3_multiply_160 (lv_at hl 1 rfl) ?_
        refine va_put (D := (dC, dI)) (ci := 3) (v := .long ((gst mh ml oh ol 128).2.1)) (ty := .long) (C := RX3) (T := TX3) (N := 18) hx hb hta inX3 tyX3 tyX3_ok nmX3 hown hK hP hD hS 0 rfl rfl 9 (by decide) (hta _ mw_466) (fun _ h9 => h9) rfl (by decide +kernel) rfl rfl (Nat.le_of_ble_eq_true rfl) dX3_multiply_162 (fun H locs hP hD hS => ?_)
        have hP : va_P (dC, dI) vwCl [(o, .inr (3, [.int th, .int (nI ph), .int (zI og), .ref qx, .ref qk, .ref qw, .ref qb, .ref qn, .long ((gst mh ml oh ol 128).1), .long ((gst mh ml oh ol 128).2.1), .long nc, .int rs, .int (nI na), .ref qd, .int (nI nz), .ref qg, .long t1, .long t2]))] H := hP
        have hD : va_D A [(o, .inr (3, [.int th, .int (nI ph), .int (zI og), .ref qx, .ref qk, .ref qw, .ref qb, .ref qn, .long ((gst mh ml oh ol 128).1), .long ((gst mh ml oh ol 128).2.1), .long nc, .int rs, .int (nI na), .ref qd, .int (nI nz), .ref qg, .long t1, .long t2]))] := hD
        exact rt_0 hx hb hr hlk hQ hAe hP hD hS [0] (by decide) rfl (Nat.le_of_ble_eq_true rfl) (Nat.le_of_ble_eq_true rfl) dX3_multiply_165
      · skip
        have hc_20 := (not_congr (ix_le (a := 128) (b := 128) (by omega) (by omega))).mp hc_20
        have hc_20 : ¬ (128 ≤ 128) := hc_20
        exfalso; omega
    | succ n ih =>
      intro k ls H locs hn_15  hl hP hD hS
      refine lv_iload hx hb dX3_multiply_15 (lv_at hl 4 rfl) ?_
      refine lv_sipush (v := nI 128) hx hb dX3_multiply_17 (by decide) ?_
      refine lv_icmp_ge (tgt := 153) hx hb dX3_multiply_20 (by decide) (fun hc_20 => ?_) (fun hc_20 => ?_)
      · skip
        have hc_20 := (ix_le (a := 128) (b := k) (by omega) (by omega)).mp hc_20
        have hc_20 : (128 ≤ k) := hc_20
        exfalso; omega
      · skip
        have hc_20 := (not_congr (ix_le (a := 128) (b := k) (by omega) (by omega))).mp hc_20
        have hc_20 : ¬ (128 ≤ k) := hc_20
        refine lv_iload hx hb dX3_multiply_23 (lv_at hl 4 rfl) ?_
        refine lv_bipush (v := nI 64) hx hb dX3_multiply_25 (by decide) ?_
        refine lv_icmp_ge (tgt := 45) hx hb dX3_multiply_27 (by decide) (fun hc_27 => ?_) (fun hc_27 => ?_)
        · skip
          have hc_27 := (ix_le (a := 64) (b := k) (by omega) (by omega)).mp hc_27
          have hc_27 : (64 ≤ k) := hc_27
          refine lv_aload_n hx hb dX3_multiply_45 rfl (lv_at hl 5 rfl) ?_
          refine va_get (D := (dC, dI)) (ci := 3) (v := .long ml) (C := RX3) (T := TX3) (N := 18) hx hb hta inX3 hown hK hP 0 rfl rfl 9 (by decide) (hta _ mw_466) (fun _ h9 => h9) rfl dX3_multiply_46 ?_
          refine lv_bipush (v := nI 127) hx hb dX3_multiply_49 (by decide) ?_
          refine lv_iload hx hb dX3_multiply_51 (lv_at hl 4 rfl) ?_
          refine lv_isub hx hb dX3_multiply_53 (top_i (pk_sub (by omega)) ?_)
          refine lv_lshr hx hb dX3_multiply_54 rfl ?_
          refine lv_lconst (v := lN 1) hx hb dX3_multiply_55 (by decide) ?_
          refine lv_land hx hb dX3_multiply_56 ?_
          refine top_l (y := lN (bN (gbt mh ml k))) (gb_lo mh ml (by omega) (by omega)) ?_
          refine lv_lstore hx hb dX3_multiply_57 hl (by decide) rfl (fun ls hl => ?_)
          have hl : lv_has ls 17 [(14, .long (lN (bN (gbt mh ml k)))), (5, .long ((gst mh ml oh ol k).1)), (7, .long ((gst mh ml oh ol k).2.1)), (9, .long ((gst mh ml oh ol k).2.2.1)), (11, .long ((gst mh ml oh ol k).2.2.2)), (13, .int (nI k)), (0, .ref o)] := hl
          refine lv_lload hx hb dX3_multiply_59 (lv_at hl 0 rfl) ?_
          refine lv_lconst (v := lN 1) hx hb dX3_multiply_61 (by decide) ?_
          refine w_pc (pc2 := 62) rfl ?_
          refine W.lcmp hx hb dX3_multiply_62 ?_
          refine top_i (y := gz (gbt mh ml k)) (gz_e _) ?_
          refine lv_if_ne (tgt := 74) hx hb dX3_multiply_63 (by decide) (fun hc_63 => ?_) (fun hc_63 => ?_)
          · skip
            refine lv_lload hx hb dX3_multiply_74 (lv_at hl 1 rfl) ?_
            refine lv_lstore hx hb dX3_multiply_76 hl (by decide) rfl (fun ls hl => ?_)
            have hl : lv_has ls 17 [(5, .long ((gst mh ml oh ol k).1)), (14, .long (lN (bN (gbt mh ml k)))), (7, .long ((gst mh ml oh ol k).2.1)), (9, .long ((gst mh ml oh ol k).2.2.1)), (11, .long ((gst mh ml oh ol k).2.2.2)), (13, .int (nI k)), (0, .ref o)] := hl
            refine lv_lload hx hb dX3_multiply_78 (lv_at hl 1 rfl) ?_
            refine lv_lconst (v := lN 1) hx hb dX3_multiply_80 (by decide) ?_
            refine W.lcmp hx hb dX3_multiply_81 ?_
            refine top_i (y := gz (gbt mh ml k)) (gz_e _) ?_
            refine lv_if_ne (tgt := 93) hx hb dX3_multiply_82 (by decide) (fun hc_82 => ?_) (fun hc_82 => ?_)
            · skip
              refine lv_lload hx hb dX3_multiply_93 (lv_at hl 2 rfl) ?_
              refine lv_lstore hx hb dX3_multiply_95 hl (by decide) rfl (fun ls hl => ?_)
              have hl : lv_has ls 17 [(7, .long ((gst mh ml oh ol k).2.1)), (5, .long ((gst mh ml oh ol k).1)), (14, .long (lN (bN (gbt mh ml k)))), (9, .long ((gst mh ml oh ol k).2.2.1)), (11, .long ((gst mh ml oh ol k).2.2.2)), (13, .int (nI k)), (0, .ref o)] := hl
              refine lv_lload hx hb dX3_multiply_97 (lv_at hl 4 rfl) ?_
              refine lv_lconst (v := lN 1) hx hb dX3_multiply_99 (by decide) ?_
              refine lv_land hx hb dX3_multiply_100 ?_
              refine top_l (y := lN (bN ((gst mh ml oh ol k).2.2.2.toBitVec.getLsbD 0))) (gb_0 _) ?_
              refine lv_lconst (v := lN 1) hx hb dX3_multiply_101 (by decide) ?_
              refine W.lcmp hx hb dX3_multiply_102 ?_
              refine top_i (y := gz ((gst mh ml oh ol k).2.2.2.toBitVec.getLsbD 0)) (gz_e _) ?_
              refine lv_if_ne (tgt := 110) hx hb dX3_multiply_103 (by decide) (fun hc_103 => ?_) (fun hc_103 => ?_)
              · skip
                refine lv_iconst (v := nI 0) hx hb dX3_multiply_110 (by decide) ?_
                refine lv_istore hx hb dX3_multiply_111 hl (by decide) rfl (fun ls hl => ?_)
                have hl : lv_has ls 17 [(16, .int (nI 0)), (7, .long ((gst mh ml oh ol k).2.1)), (5, .long ((gst mh ml oh ol k).1)), (14, .long (lN (bN (gbt mh ml k)))), (9, .long ((gst mh ml oh ol k).2.2.1)), (11, .long ((gst mh ml oh ol k).2.2.2)), (13, .int (nI k)), (0, .ref o)] := hl
                refine lv_lload hx hb dX3_multiply_113 (lv_at hl 5 rfl) ?_
                refine lv_iconst (v := nI 1) hx hb dX3_multiply_115 (by decide) ?_
                refine lv_lushr hx hb dX3_multiply_116 rfl ?_
                refine top_l (y := (((gst mh ml oh ol k).2.2.2).toUInt64 >>> ((nI 1).toInt64.toUInt64 &&& Int64.toUInt64 63)).toInt64) (rfl) ?_
                refine lv_lload hx hb dX3_multiply_117 (lv_at hl 4 rfl) ?_
                refine lv_bipush (v := nI 63) hx hb dX3_multiply_119 (by decide) ?_
                refine lv_lshl hx hb dX3_multiply_121 rfl ?_
                refine lv_lor hx hb dX3_multiply_122 ?_
                refine top_l (y := (gst mh ml oh ol (k + 1)).2.2.2) (rfl) ?_
                refine lv_lstore hx hb dX3_multiply_123 hl (by decide) rfl (fun ls hl => ?_)
                have hl : lv_has ls 17 [(11, .long ((gst mh ml oh ol (k + 1)).2.2.2)), (16, .int (nI 0)), (7, .long ((gst mh ml oh ol k).2.1)), (5, .long ((gst mh ml oh ol k).1)), (14, .long (lN (bN (gbt mh ml k)))), (9, .long ((gst mh ml oh ol k).2.2.1)), (13, .int (nI k)), (0, .ref o)] := hl
                refine lv_iload hx hb dX3_multiply_125 (lv_at hl 1 rfl) ?_
                refine w_pc (pc2 := 127) rfl ?_
                refine lv_if_eq (tgt := 141) hx hb dX3_multiply_127 (by decide) (fun hc_127 => ?_) (fun hc_127 => ?_)
                · skip
                  have hc_127 := (ix_eq (a := 0) (b := 0) (by omega) (by omega)).mp hc_127
                  have hc_127 : (0 = 0) := hc_127
                  refine lv_lload hx hb dX3_multiply_141 (lv_at hl 5 rfl) ?_
                  refine lv_iconst (v := nI 1) hx hb dX3_multiply_143 (by decide) ?_
                  refine lv_lushr hx hb dX3_multiply_144 rfl ?_
                  refine top_l (y := (((gst mh ml oh ol k).2.2.1).toUInt64 >>> ((nI 1).toInt64.toUInt64 &&& Int64.toUInt64 63)).toInt64) (rfl) ?_
                  refine lv_lstore hx hb dX3_multiply_145 hl (by decide) rfl (fun ls hl => ?_)
                  have hl : lv_has ls 17 [(9, .long ((((gst mh ml oh ol k).2.2.1).toUInt64 >>> ((nI 1).toInt64.toUInt64 &&& Int64.toUInt64 63)).toInt64)), (11, .long ((gst mh ml oh ol (k + 1)).2.2.2)), (16, .int (nI 0)), (7, .long ((gst mh ml oh ol k).2.1)), (5, .long ((gst mh ml oh ol k).1)), (14, .long (lN (bN (gbt mh ml k)))), (13, .int (nI k)), (0, .ref o)] := hl
                  refine lv_iinc (v := nI (k + 1)) (k := 6) hx hb dX3_multiply_147 hl rfl (ix_inc _ 1) (by decide) rfl (fun ls hl => ?_)
                  have hl : lv_has ls 17 [(13, .int (nI (k + 1))), (9, .long ((((gst mh ml oh ol k).2.2.1).toUInt64 >>> ((nI 1).toInt64.toUInt64 &&& Int64.toUInt64 63)).toInt64)), (11, .long ((gst mh ml oh ol (k + 1)).2.2.2)), (16, .int (nI 0)), (7, .long ((gst mh ml oh ol k).2.1)), (5, .long ((gst mh ml oh ol k).1)), (14, .long (lN (bN (gbt mh ml k)))), (0, .ref o)] := hl
                  refine lv_goto (tgt := 15) hx hb dX3_multiply_150 (by decide) ?_
                  have hl := lv_re hl 5 rfl (v2 := .long ((gst mh ml oh ol (k + 1)).1)) (congrArg Value.long (gs1f (by assumption))) rfl
                  have hl : lv_has ls 17 [(13, .int (nI (k + 1))), (9, .long ((((gst mh ml oh ol k).2.2.1).toUInt64 >>> ((nI 1).toInt64.toUInt64 &&& Int64.toUInt64 63)).toInt64)), (11, .long ((gst mh ml oh ol (k + 1)).2.2.2)), (16, .int (nI 0)), (7, .long ((gst mh ml oh ol k).2.1)), (5, .long ((gst mh ml oh ol (k + 1)).1)), (14, .long (lN (bN (gbt mh ml k)))), (0, .ref o)] := hl
                  have hl := lv_re hl 4 rfl (v2 := .long ((gst mh ml oh ol (k + 1)).2.1)) (congrArg Value.long (gs2f (by assumption))) rfl
                  have hl : lv_has ls 17 [(13, .int (nI (k + 1))), (9, .long ((((gst mh ml oh ol k).2.2.1).toUInt64 >>> ((nI 1).toInt64.toUInt64 &&& Int64.toUInt64 63)).toInt64)), (11, .long ((gst mh ml oh ol (k + 1)).2.2.2)), (16, .int (nI 0)), (7, .long ((gst mh ml oh ol (k + 1)).2.1)), (5, .long ((gst mh ml oh ol (k + 1)).1)), (14, .long (lN (bN (gbt mh ml k)))), (0, .ref o)] := hl
                  have hl := lv_re hl 1 rfl (v2 := .long ((gst mh ml oh ol (k + 1)).2.2.1)) (congrArg Value.long (gs3f (by assumption))) rfl
                  have hl : lv_has ls 17 [(13, .int (nI (k + 1))), (9, .long ((gst mh ml oh ol (k + 1)).2.2.1)), (11, .long ((gst mh ml oh ol (k + 1)).2.2.2)), (16, .int (nI 0)), (7, .long ((gst mh ml oh ol (k + 1)).2.1)), (5, .long ((gst mh ml oh ol (k + 1)).1)), (14, .long (lN (bN (gbt mh ml k)))), (0, .ref o)] := hl
                  exact ih (k + 1) ls H locs (by omega)  (lv_sub hl [5, 4, 1, 2, 0, 7] rfl) hP hD hS
                · skip
                  have hc_127 := (not_congr (ix_eq (a := 0) (b := 0) (by omega) (by omega))).mp hc_127
                  have hc_127 : ¬ (0 = 0) := hc_127
                  exfalso; omega
              · skip
                refine lv_iconst (v := nI 1) hx hb dX3_multiply_106 (by decide) ?_
                refine lv_goto (tgt := 111) hx hb dX3_multiply_107 (by decide) ?_
                refine lv_istore hx hb dX3_multiply_111 hl (by decide) rfl (fun ls hl => ?_)
                have hl : lv_has ls 17 [(16, .int (nI 1)), (7, .long ((gst mh ml oh ol k).2.1)), (5, .long ((gst mh ml oh ol k).1)), (14, .long (lN (bN (gbt mh ml k)))), (9, .long ((gst mh ml oh ol k).2.2.1)), (11, .long ((gst mh ml oh ol k).2.2.2)), (13, .int (nI k)), (0, .ref o)] := hl
                refine lv_lload hx hb dX3_multiply_113 (lv_at hl 5 rfl) ?_
                refine lv_iconst (v := nI 1) hx hb dX3_multiply_115 (by decide) ?_
                refine lv_lushr hx hb dX3_multiply_116 rfl ?_
                refine top_l (y := (((gst mh ml oh ol k).2.2.2).toUInt64 >>> ((nI 1).toInt64.toUInt64 &&& Int64.toUInt64 63)).toInt64) (rfl) ?_
                refine lv_lload hx hb dX3_multiply_117 (lv_at hl 4 rfl) ?_
                refine lv_bipush (v := nI 63) hx hb dX3_multiply_119 (by decide) ?_
                refine lv_lshl hx hb dX3_multiply_121 rfl ?_
                refine lv_lor hx hb dX3_multiply_122 ?_
                refine top_l (y := (gst mh ml oh ol (k + 1)).2.2.2) (rfl) ?_
                refine lv_lstore hx hb dX3_multiply_123 hl (by decide) rfl (fun ls hl => ?_)
                have hl : lv_has ls 17 [(11, .long ((gst mh ml oh ol (k + 1)).2.2.2)), (16, .int (nI 1)), (7, .long ((gst mh ml oh ol k).2.1)), (5, .long ((gst mh ml oh ol k).1)), (14, .long (lN (bN (gbt mh ml k)))), (9, .long ((gst mh ml oh ol k).2.2.1)), (13, .int (nI k)), (0, .ref o)] := hl
                refine lv_iload hx hb dX3_multiply_125 (lv_at hl 1 rfl) ?_
                refine lv_if_eq (tgt := 141) hx hb dX3_multiply_127 (by decide) (fun hc_127 => ?_) (fun hc_127 => ?_)
                · skip
                  have hc_127 := (ix_eq (a := 1) (b := 0) (by omega) (by omega)).mp hc_127
                  have hc_127 : (1 = 0) := hc_127
                  exfalso; omega
                · skip
                  have hc_127 := (not_congr (ix_eq (a := 1) (b := 0) (by omega) (by omega))).mp hc_127
                  have hc_127 : ¬ (1 = 0) := hc_127
                  refine lv_lload hx hb dX3_multiply_130 (lv_at hl 5 rfl) ?_
                  refine lv_iconst (v := nI 1) hx hb dX3_multiply_132 (by decide) ?_
                  refine lv_lushr hx hb dX3_multiply_133 rfl ?_
                  refine top_l (y := (((gst mh ml oh ol k).2.2.1).toUInt64 >>> ((nI 1).toInt64.toUInt64 &&& Int64.toUInt64 63)).toInt64) (rfl) ?_
                  refine lv_ldc2 (v := (-2233785415175766016)) hx hb hown (hta _ mw_569) dX3_multiply_134 ?_
                  refine lv_lxor hx hb dX3_multiply_137 ?_
                  refine lv_goto (tgt := 145) hx hb dX3_multiply_138 (by decide) ?_
                  refine lv_lstore hx hb dX3_multiply_145 hl (by decide) rfl (fun ls hl => ?_)
                  have hl : lv_has ls 17 [(9, .long (((((gst mh ml oh ol k).2.2.1).toUInt64 >>> ((nI 1).toInt64.toUInt64 &&& Int64.toUInt64 63)).toInt64) ^^^ ((-2233785415175766016) : Int64))), (11, .long ((gst mh ml oh ol (k + 1)).2.2.2)), (16, .int (nI 1)), (7, .long ((gst mh ml oh ol k).2.1)), (5, .long ((gst mh ml oh ol k).1)), (14, .long (lN (bN (gbt mh ml k)))), (13, .int (nI k)), (0, .ref o)] := hl
                  refine lv_iinc (v := nI (k + 1)) (k := 6) hx hb dX3_multiply_147 hl rfl (ix_inc _ 1) (by decide) rfl (fun ls hl => ?_)
                  have hl : lv_has ls 17 [(13, .int (nI (k + 1))), (9, .long (((((gst mh ml oh ol k).2.2.1).toUInt64 >>> ((nI 1).toInt64.toUInt64 &&& Int64.toUInt64 63)).toInt64) ^^^ ((-2233785415175766016) : Int64))), (11, .long ((gst mh ml oh ol (k + 1)).2.2.2)), (16, .int (nI 1)), (7, .long ((gst mh ml oh ol k).2.1)), (5, .long ((gst mh ml oh ol k).1)), (14, .long (lN (bN (gbt mh ml k)))), (0, .ref o)] := hl
                  refine lv_goto (tgt := 15) hx hb dX3_multiply_150 (by decide) ?_
                  have hl := lv_re hl 5 rfl (v2 := .long ((gst mh ml oh ol (k + 1)).1)) (congrArg Value.long (gs1f (by assumption))) rfl
                  have hl : lv_has ls 17 [(13, .int (nI (k + 1))), (9, .long (((((gst mh ml oh ol k).2.2.1).toUInt64 >>> ((nI 1).toInt64.toUInt64 &&& Int64.toUInt64 63)).toInt64) ^^^ ((-2233785415175766016) : Int64))), (11, .long ((gst mh ml oh ol (k + 1)).2.2.2)), (16, .int (nI 1)), (7, .long ((gst mh ml oh ol k).2.1)), (5, .long ((gst mh ml oh ol (k + 1)).1)), (14, .long (lN (bN (gbt mh ml k)))), (0, .ref o)] := hl
                  have hl := lv_re hl 4 rfl (v2 := .long ((gst mh ml oh ol (k + 1)).2.1)) (congrArg Value.long (gs2f (by assumption))) rfl
                  have hl : lv_has ls 17 [(13, .int (nI (k + 1))), (9, .long (((((gst mh ml oh ol k).2.2.1).toUInt64 >>> ((nI 1).toInt64.toUInt64 &&& Int64.toUInt64 63)).toInt64) ^^^ ((-2233785415175766016) : Int64))), (11, .long ((gst mh ml oh ol (k + 1)).2.2.2)), (16, .int (nI 1)), (7, .long ((gst mh ml oh ol (k + 1)).2.1)), (5, .long ((gst mh ml oh ol (k + 1)).1)), (14, .long (lN (bN (gbt mh ml k)))), (0, .ref o)] := hl
                  have hl := lv_re hl 1 rfl (v2 := .long ((gst mh ml oh ol (k + 1)).2.2.1)) (congrArg Value.long (gs3t (by assumption))) rfl
                  have hl : lv_has ls 17 [(13, .int (nI (k + 1))), (9, .long ((gst mh ml oh ol (k + 1)).2.2.1)), (11, .long ((gst mh ml oh ol (k + 1)).2.2.2)), (16, .int (nI 1)), (7, .long ((gst mh ml oh ol (k + 1)).2.1)), (5, .long ((gst mh ml oh ol (k + 1)).1)), (14, .long (lN (bN (gbt mh ml k)))), (0, .ref o)] := hl
                  exact ih (k + 1) ls H locs (by omega)  (lv_sub hl [5, 4, 1, 2, 0, 7] rfl) hP hD hS
            · skip
              exact (by first | exact absurd hc_63 hc_82 | exact absurd hc_82 hc_63)
          · skip
            refine lv_lload hx hb dX3_multiply_66 (lv_at hl 1 rfl) ?_
            refine lv_lload hx hb dX3_multiply_68 (lv_at hl 3 rfl) ?_
            refine lv_lxor hx hb dX3_multiply_70 ?_
            refine lv_goto (tgt := 76) hx hb dX3_multiply_71 (by decide) ?_
            refine lv_lstore hx hb dX3_multiply_76 hl (by decide) rfl (fun ls hl => ?_)
            have hl : lv_has ls 17 [(5, .long (((gst mh ml oh ol k).1) ^^^ ((gst mh ml oh ol k).2.2.1))), (14, .long (lN (bN (gbt mh ml k)))), (7, .long ((gst mh ml oh ol k).2.1)), (9, .long ((gst mh ml oh ol k).2.2.1)), (11, .long ((gst mh ml oh ol k).2.2.2)), (13, .int (nI k)), (0, .ref o)] := hl
            refine lv_lload hx hb dX3_multiply_78 (lv_at hl 1 rfl) ?_
            refine lv_lconst (v := lN 1) hx hb dX3_multiply_80 (by decide) ?_
            refine W.lcmp hx hb dX3_multiply_81 ?_
            refine top_i (y := gz (gbt mh ml k)) (gz_e _) ?_
            refine lv_if_ne (tgt := 93) hx hb dX3_multiply_82 (by decide) (fun hc_82 => ?_) (fun hc_82 => ?_)
            · skip
              exact (by first | exact absurd hc_63 hc_82 | exact absurd hc_82 hc_63)
            · skip
              refine lv_lload hx hb dX3_multiply_85 (lv_at hl 2 rfl) ?_
              refine lv_lload hx hb dX3_multiply_87 (lv_at hl 4 rfl) ?_
              refine lv_lxor hx hb dX3_multiply_89 ?_
              refine lv_goto (tgt := 95) hx hb dX3_multiply_90 (by decide) ?_
              refine lv_lstore hx hb dX3_multiply_95 hl (by decide) rfl (fun ls hl => ?_)
              have hl : lv_has ls 17 [(7, .long (((gst mh ml oh ol k).2.1) ^^^ ((gst mh ml oh ol k).2.2.2))), (5, .long (((gst mh ml oh ol k).1) ^^^ ((gst mh ml oh ol k).2.2.1))), (14, .long (lN (bN (gbt mh ml k)))), (9, .long ((gst mh ml oh ol k).2.2.1)), (11, .long ((gst mh ml oh ol k).2.2.2)), (13, .int (nI k)), (0, .ref o)] := hl
              refine lv_lload hx hb dX3_multiply_97 (lv_at hl 4 rfl) ?_
              refine lv_lconst (v := lN 1) hx hb dX3_multiply_99 (by decide) ?_
              refine lv_land hx hb dX3_multiply_100 ?_
              refine top_l (y := lN (bN ((gst mh ml oh ol k).2.2.2.toBitVec.getLsbD 0))) (gb_0 _) ?_
              refine lv_lconst (v := lN 1) hx hb dX3_multiply_101 (by decide) ?_
              refine W.lcmp hx hb dX3_multiply_102 ?_
              refine top_i (y := gz ((gst mh ml oh ol k).2.2.2.toBitVec.getLsbD 0)) (gz_e _) ?_
              refine lv_if_ne (tgt := 110) hx hb dX3_multiply_103 (by decide) (fun hc_103 => ?_) (fun hc_103 => ?_)
              · skip
                refine lv_iconst (v := nI 0) hx hb dX3_multiply_110 (by decide) ?_
                refine lv_istore hx hb dX3_multiply_111 hl (by decide) rfl (fun ls hl => ?_)
                have hl : lv_has ls 17 [(16, .int (nI 0)), (7, .long (((gst mh ml oh ol k).2.1) ^^^ ((gst mh ml oh ol k).2.2.2))), (5, .long (((gst mh ml oh ol k).1) ^^^ ((gst mh ml oh ol k).2.2.1))), (14, .long (lN (bN (gbt mh ml k)))), (9, .long ((gst mh ml oh ol k).2.2.1)), (11, .long ((gst mh ml oh ol k).2.2.2)), (13, .int (nI k)), (0, .ref o)] := hl
                refine lv_lload hx hb dX3_multiply_113 (lv_at hl 5 rfl) ?_
                refine lv_iconst (v := nI 1) hx hb dX3_multiply_115 (by decide) ?_
                refine lv_lushr hx hb dX3_multiply_116 rfl ?_
                refine top_l (y := (((gst mh ml oh ol k).2.2.2).toUInt64 >>> ((nI 1).toInt64.toUInt64 &&& Int64.toUInt64 63)).toInt64) (rfl) ?_
                refine lv_lload hx hb dX3_multiply_117 (lv_at hl 4 rfl) ?_
                refine lv_bipush (v := nI 63) hx hb dX3_multiply_119 (by decide) ?_
                refine lv_lshl hx hb dX3_multiply_121 rfl ?_
                refine lv_lor hx hb dX3_multiply_122 ?_
                refine top_l (y := (gst mh ml oh ol (k + 1)).2.2.2) (rfl) ?_
                refine lv_lstore hx hb dX3_multiply_123 hl (by decide) rfl (fun ls hl => ?_)
                have hl : lv_has ls 17 [(11, .long ((gst mh ml oh ol (k + 1)).2.2.2)), (16, .int (nI 0)), (7, .long (((gst mh ml oh ol k).2.1) ^^^ ((gst mh ml oh ol k).2.2.2))), (5, .long (((gst mh ml oh ol k).1) ^^^ ((gst mh ml oh ol k).2.2.1))), (14, .long (lN (bN (gbt mh ml k)))), (9, .long ((gst mh ml oh ol k).2.2.1)), (13, .int (nI k)), (0, .ref o)] := hl
                refine lv_iload hx hb dX3_multiply_125 (lv_at hl 1 rfl) ?_
                refine w_pc (pc2 := 127) rfl ?_
                refine lv_if_eq (tgt := 141) hx hb dX3_multiply_127 (by decide) (fun hc_127 => ?_) (fun hc_127 => ?_)
                · skip
                  have hc_127 := (ix_eq (a := 0) (b := 0) (by omega) (by omega)).mp hc_127
                  have hc_127 : (0 = 0) := hc_127
                  refine lv_lload hx hb dX3_multiply_141 (lv_at hl 5 rfl) ?_
                  refine lv_iconst (v := nI 1) hx hb dX3_multiply_143 (by decide) ?_
                  refine lv_lushr hx hb dX3_multiply_144 rfl ?_
                  refine top_l (y := (((gst mh ml oh ol k).2.2.1).toUInt64 >>> ((nI 1).toInt64.toUInt64 &&& Int64.toUInt64 63)).toInt64) (rfl) ?_
                  refine lv_lstore hx hb dX3_multiply_145 hl (by decide) rfl (fun ls hl => ?_)
                  have hl : lv_has ls 17 [(9, .long ((((gst mh ml oh ol k).2.2.1).toUInt64 >>> ((nI 1).toInt64.toUInt64 &&& Int64.toUInt64 63)).toInt64)), (11, .long ((gst mh ml oh ol (k + 1)).2.2.2)), (16, .int (nI 0)), (7, .long (((gst mh ml oh ol k).2.1) ^^^ ((gst mh ml oh ol k).2.2.2))), (5, .long (((gst mh ml oh ol k).1) ^^^ ((gst mh ml oh ol k).2.2.1))), (14, .long (lN (bN (gbt mh ml k)))), (13, .int (nI k)), (0, .ref o)] := hl
                  refine lv_iinc (v := nI (k + 1)) (k := 6) hx hb dX3_multiply_147 hl rfl (ix_inc _ 1) (by decide) rfl (fun ls hl => ?_)
                  have hl : lv_has ls 17 [(13, .int (nI (k + 1))), (9, .long ((((gst mh ml oh ol k).2.2.1).toUInt64 >>> ((nI 1).toInt64.toUInt64 &&& Int64.toUInt64 63)).toInt64)), (11, .long ((gst mh ml oh ol (k + 1)).2.2.2)), (16, .int (nI 0)), (7, .long (((gst mh ml oh ol k).2.1) ^^^ ((gst mh ml oh ol k).2.2.2))), (5, .long (((gst mh ml oh ol k).1) ^^^ ((gst mh ml oh ol k).2.2.1))), (14, .long (lN (bN (gbt mh ml k)))), (0, .ref o)] := hl
                  refine lv_goto (tgt := 15) hx hb dX3_multiply_150 (by decide) ?_
                  have hl := lv_re hl 5 rfl (v2 := .long ((gst mh ml oh ol (k + 1)).1)) (congrArg Value.long (gs1t (by assumption))) rfl
                  have hl : lv_has ls 17 [(13, .int (nI (k + 1))), (9, .long ((((gst mh ml oh ol k).2.2.1).toUInt64 >>> ((nI 1).toInt64.toUInt64 &&& Int64.toUInt64 63)).toInt64)), (11, .long ((gst mh ml oh ol (k + 1)).2.2.2)), (16, .int (nI 0)), (7, .long (((gst mh ml oh ol k).2.1) ^^^ ((gst mh ml oh ol k).2.2.2))), (5, .long ((gst mh ml oh ol (k + 1)).1)), (14, .long (lN (bN (gbt mh ml k)))), (0, .ref o)] := hl
                  have hl := lv_re hl 4 rfl (v2 := .long ((gst mh ml oh ol (k + 1)).2.1)) (congrArg Value.long (gs2t (by assumption))) rfl
                  have hl : lv_has ls 17 [(13, .int (nI (k + 1))), (9, .long ((((gst mh ml oh ol k).2.2.1).toUInt64 >>> ((nI 1).toInt64.toUInt64 &&& Int64.toUInt64 63)).toInt64)), (11, .long ((gst mh ml oh ol (k + 1)).2.2.2)), (16, .int (nI 0)), (7, .long ((gst mh ml oh ol (k + 1)).2.1)), (5, .long ((gst mh ml oh ol (k + 1)).1)), (14, .long (lN (bN (gbt mh ml k)))), (0, .ref o)] := hl
                  have hl := lv_re hl 1 rfl (v2 := .long ((gst mh ml oh ol (k + 1)).2.2.1)) (congrArg Value.long (gs3f (by assumption))) rfl
                  have hl : lv_has ls 17 [(13, .int (nI (k + 1))), (9, .long ((gst mh ml oh ol (k + 1)).2.2.1)), (11, .long ((gst mh ml oh ol (k + 1)).2.2.2)), (16, .int (nI 0)), (7, .long ((gst mh ml oh ol (k + 1)).2.1)), (5, .long ((gst mh ml oh ol (k + 1)).1)), (14, .long (lN (bN (gbt mh ml k)))), (0, .ref o)] := hl
                  exact ih (k + 1) ls H locs (by omega)  (lv_sub hl [5, 4, 1, 2, 0, 7] rfl) hP hD hS
                · skip
                  have hc_127 := (not_congr (ix_eq (a := 0) (b := 0) (by omega) (by omega))).mp hc_127
                  have hc_127 : ¬ (0 = 0) := hc_127
                  exfalso; omega
              · skip
                refine lv_iconst (v := nI 1) hx hb dX3_multiply_106 (by decide) ?_
                refine lv_goto (tgt := 111) hx hb dX3_multiply_107 (by decide) ?_
                refine lv_istore hx hb dX3_multiply_111 hl (by decide) rfl (fun ls hl => ?_)
                have hl : lv_has ls 17 [(16, .int (nI 1)), (7, .long (((gst mh ml oh ol k).2.1) ^^^ ((gst mh ml oh ol k).2.2.2))), (5, .long (((gst mh ml oh ol k).1) ^^^ ((gst mh ml oh ol k).2.2.1))), (14, .long (lN (bN (gbt mh ml k)))), (9, .long ((gst mh ml oh ol k).2.2.1)), (11, .long ((gst mh ml oh ol k).2.2.2)), (13, .int (nI k)), (0, .ref o)] := hl
                refine lv_lload hx hb dX3_multiply_113 (lv_at hl 5 rfl) ?_
                refine lv_iconst (v := nI 1) hx hb dX3_multiply_115 (by decide) ?_
                refine lv_lushr hx hb dX3_multiply_116 rfl ?_
                refine top_l (y := (((gst mh ml oh ol k).2.2.2).toUInt64 >>> ((nI 1).toInt64.toUInt64 &&& Int64.toUInt64 63)).toInt64) (rfl) ?_
                refine lv_lload hx hb dX3_multiply_117 (lv_at hl 4 rfl) ?_
                refine lv_bipush (v := nI 63) hx hb dX3_multiply_119 (by decide) ?_
                refine lv_lshl hx hb dX3_multiply_121 rfl ?_
                refine lv_lor hx hb dX3_multiply_122 ?_
                refine top_l (y := (gst mh ml oh ol (k + 1)).2.2.2) (rfl) ?_
                refine lv_lstore hx hb dX3_multiply_123 hl (by decide) rfl (fun ls hl => ?_)
                have hl : lv_has ls 17 [(11, .long ((gst mh ml oh ol (k + 1)).2.2.2)), (16, .int (nI 1)), (7, .long (((gst mh ml oh ol k).2.1) ^^^ ((gst mh ml oh ol k).2.2.2))), (5, .long (((gst mh ml oh ol k).1) ^^^ ((gst mh ml oh ol k).2.2.1))), (14, .long (lN (bN (gbt mh ml k)))), (9, .long ((gst mh ml oh ol k).2.2.1)), (13, .int (nI k)), (0, .ref o)] := hl
                refine lv_iload hx hb dX3_multiply_125 (lv_at hl 1 rfl) ?_
                refine lv_if_eq (tgt := 141) hx hb dX3_multiply_127 (by decide) (fun hc_127 => ?_) (fun hc_127 => ?_)
                · skip
                  have hc_127 := (ix_eq (a := 1) (b := 0) (by omega) (by omega)).mp hc_127
                  have hc_127 : (1 = 0) := hc_127
                  exfalso; omega
                · skip
                  have hc_127 := (not_congr (ix_eq (a := 1) (b := 0) (by omega) (by omega))).mp hc_127
                  have hc_127 : ¬ (1 = 0) := hc_127
                  refine lv_lload hx hb dX3_multiply_130 (lv_at hl 5 rfl) ?_
                  refine lv_iconst (v := nI 1) hx hb dX3_multiply_132 (by decide) ?_
                  refine lv_lushr hx hb dX3_multiply_133 rfl ?_
                  refine top_l (y := (((gst mh ml oh ol k).2.2.1).toUInt64 >>> ((nI 1).toInt64.toUInt64 &&& Int64.toUInt64 63)).toInt64) (rfl) ?_
                  refine lv_ldc2 (v := (-2233785415175766016)) hx hb hown (hta _ mw_569) dX3_multiply_134 ?_
                  refine lv_lxor hx hb dX3_multiply_137 ?_
                  refine lv_goto (tgt := 145) hx hb dX3_multiply_138 (by decide) ?_
                  refine lv_lstore hx hb dX3_multiply_145 hl (by decide) rfl (fun ls hl => ?_)
                  have hl : lv_has ls 17 [(9, .long (((((gst mh ml oh ol k).2.2.1).toUInt64 >>> ((nI 1).toInt64.toUInt64 &&& Int64.toUInt64 63)).toInt64) ^^^ ((-2233785415175766016) : Int64))), (11, .long ((gst mh ml oh ol (k + 1)).2.2.2)), (16, .int (nI 1)), (7, .long (((gst mh ml oh ol k).2.1) ^^^ ((gst mh ml oh ol k).2.2.2))), (5, .long (((gst mh ml oh ol k).1) ^^^ ((gst mh ml oh ol k).2.2.1))), (14, .long (lN (bN (gbt mh ml k)))), (13, .int (nI k)), (0, .ref o)] := hl
                  refine lv_iinc (v := nI (k + 1)) (k := 6) hx hb dX3_multiply_147 hl rfl (ix_inc _ 1) (by decide) rfl (fun ls hl => ?_)
                  have hl : lv_has ls 17 [(13, .int (nI (k + 1))), (9, .long (((((gst mh ml oh ol k).2.2.1).toUInt64 >>> ((nI 1).toInt64.toUInt64 &&& Int64.toUInt64 63)).toInt64) ^^^ ((-2233785415175766016) : Int64))), (11, .long ((gst mh ml oh ol (k + 1)).2.2.2)), (16, .int (nI 1)), (7, .long (((gst mh ml oh ol k).2.1) ^^^ ((gst mh ml oh ol k).2.2.2))), (5, .long (((gst mh ml oh ol k).1) ^^^ ((gst mh ml oh ol k).2.2.1))), (14, .long (lN (bN (gbt mh ml k)))), (0, .ref o)] := hl
                  refine lv_goto (tgt := 15) hx hb dX3_multiply_150 (by decide) ?_
                  have hl := lv_re hl 5 rfl (v2 := .long ((gst mh ml oh ol (k + 1)).1)) (congrArg Value.long (gs1t (by assumption))) rfl
                  have hl : lv_has ls 17 [(13, .int (nI (k + 1))), (9, .long (((((gst mh ml oh ol k).2.2.1).toUInt64 >>> ((nI 1).toInt64.toUInt64 &&& Int64.toUInt64 63)).toInt64) ^^^ ((-2233785415175766016) : Int64))), (11, .long ((gst mh ml oh ol (k + 1)).2.2.2)), (16, .int (nI 1)), (7, .long (((gst mh ml oh ol k).2.1) ^^^ ((gst mh ml oh ol k).2.2.2))), (5, .long ((gst mh ml oh ol (k + 1)).1)), (14, .long (lN (bN (gbt mh ml k)))), (0, .ref o)] := hl
                  have hl := lv_re hl 4 rfl (v2 := .long ((gst mh ml oh ol (k + 1)).2.1)) (congrArg Value.long (gs2t (by assumption))) rfl
                  have hl : lv_has ls 17 [(13, .int (nI (k + 1))), (9, .long (((((gst mh ml oh ol k).2.2.1).toUInt64 >>> ((nI 1).toInt64.toUInt64 &&& Int64.toUInt64 63)).toInt64) ^^^ ((-2233785415175766016) : Int64))), (11, .long ((gst mh ml oh ol (k + 1)).2.2.2)), (16, .int (nI 1)), (7, .long ((gst mh ml oh ol (k + 1)).2.1)), (5, .long ((gst mh ml oh ol (k + 1)).1)), (14, .long (lN (bN (gbt mh ml k)))), (0, .ref o)] := hl
                  have hl := lv_re hl 1 rfl (v2 := .long ((gst mh ml oh ol (k + 1)).2.2.1)) (congrArg Value.long (gs3t (by assumption))) rfl
                  have hl : lv_has ls 17 [(13, .int (nI (k + 1))), (9, .long ((gst mh ml oh ol (k + 1)).2.2.1)), (11, .long ((gst mh ml oh ol (k + 1)).2.2.2)), (16, .int (nI 1)), (7, .long ((gst mh ml oh ol (k + 1)).2.1)), (5, .long ((gst mh ml oh ol (k + 1)).1)), (14, .long (lN (bN (gbt mh ml k)))), (0, .ref o)] := hl
                  exact ih (k + 1) ls H locs (by omega)  (lv_sub hl [5, 4, 1, 2, 0, 7] rfl) hP hD hS
        · skip
          have hc_27 := (not_congr (ix_le (a := 64) (b := k) (by omega) (by omega))).mp hc_27
          have hc_27 : ¬ (64 ≤ k) := hc_27
          refine lv_aload_n hx hb dX3_multiply_30 rfl (lv_at hl 5 rfl) ?_
          refine va_get (D := (dC, dI)) (ci := 3) (v := .long mh) (C := RX3) (T := TX3) (N := 18) hx hb hta inX3 hown hK hP 0 rfl rfl 8 (by decide) (hta _ mw_465) (fun _ h9 => h9) rfl dX3_multiply_31 ?_
          refine lv_bipush (v := nI 63) hx hb dX3_multiply_34 (by decide) ?_
          refine lv_iload hx hb dX3_multiply_36 (lv_at hl 4 rfl) ?_
          refine lv_isub hx hb dX3_multiply_38 (top_i (pk_sub (by omega)) ?_)
          refine lv_lshr hx hb dX3_multiply_39 rfl ?_
          refine lv_lconst (v := lN 1) hx hb dX3_multiply_40 (by decide) ?_
          refine lv_land hx hb dX3_multiply_41 ?_
          refine top_l (y := lN (bN (gbt mh ml k))) (gb_hi mh ml (by omega)) ?_
          refine lv_goto (tgt := 57) hx hb dX3_multiply_42 (by decide) ?_
          refine lv_lstore hx hb dX3_multiply_57 hl (by decide) rfl (fun ls hl => ?_)
          have hl : lv_has ls 17 [(14, .long (lN (bN (gbt mh ml k)))), (5, .long ((gst mh ml oh ol k).1)), (7, .long ((gst mh ml oh ol k).2.1)), (9, .long ((gst mh ml oh ol k).2.2.1)), (11, .long ((gst mh ml oh ol k).2.2.2)), (13, .int (nI k)), (0, .ref o)] := hl
          refine lv_lload hx hb dX3_multiply_59 (lv_at hl 0 rfl) ?_
          refine lv_lconst (v := lN 1) hx hb dX3_multiply_61 (by decide) ?_
          refine W.lcmp hx hb dX3_multiply_62 ?_
          refine top_i (y := gz (gbt mh ml k)) (gz_e _) ?_
          refine lv_if_ne (tgt := 74) hx hb dX3_multiply_63 (by decide) (fun hc_63 => ?_) (fun hc_63 => ?_)
          · skip
            refine lv_lload hx hb dX3_multiply_74 (lv_at hl 1 rfl) ?_
            refine lv_lstore hx hb dX3_multiply_76 hl (by decide) rfl (fun ls hl => ?_)
            have hl : lv_has ls 17 [(5, .long ((gst mh ml oh ol k).1)), (14, .long (lN (bN (gbt mh ml k)))), (7, .long ((gst mh ml oh ol k).2.1)), (9, .long ((gst mh ml oh ol k).2.2.1)), (11, .long ((gst mh ml oh ol k).2.2.2)), (13, .int (nI k)), (0, .ref o)] := hl
            refine lv_lload hx hb dX3_multiply_78 (lv_at hl 1 rfl) ?_
            refine lv_lconst (v := lN 1) hx hb dX3_multiply_80 (by decide) ?_
            refine W.lcmp hx hb dX3_multiply_81 ?_
            refine top_i (y := gz (gbt mh ml k)) (gz_e _) ?_
            refine lv_if_ne (tgt := 93) hx hb dX3_multiply_82 (by decide) (fun hc_82 => ?_) (fun hc_82 => ?_)
            · skip
              refine lv_lload hx hb dX3_multiply_93 (lv_at hl 2 rfl) ?_
              refine lv_lstore hx hb dX3_multiply_95 hl (by decide) rfl (fun ls hl => ?_)
              have hl : lv_has ls 17 [(7, .long ((gst mh ml oh ol k).2.1)), (5, .long ((gst mh ml oh ol k).1)), (14, .long (lN (bN (gbt mh ml k)))), (9, .long ((gst mh ml oh ol k).2.2.1)), (11, .long ((gst mh ml oh ol k).2.2.2)), (13, .int (nI k)), (0, .ref o)] := hl
              refine lv_lload hx hb dX3_multiply_97 (lv_at hl 4 rfl) ?_
              refine lv_lconst (v := lN 1) hx hb dX3_multiply_99 (by decide) ?_
              refine lv_land hx hb dX3_multiply_100 ?_
              refine top_l (y := lN (bN ((gst mh ml oh ol k).2.2.2.toBitVec.getLsbD 0))) (gb_0 _) ?_
              refine lv_lconst (v := lN 1) hx hb dX3_multiply_101 (by decide) ?_
              refine W.lcmp hx hb dX3_multiply_102 ?_
              refine top_i (y := gz ((gst mh ml oh ol k).2.2.2.toBitVec.getLsbD 0)) (gz_e _) ?_
              refine lv_if_ne (tgt := 110) hx hb dX3_multiply_103 (by decide) (fun hc_103 => ?_) (fun hc_103 => ?_)
              · skip
                refine lv_iconst (v := nI 0) hx hb dX3_multiply_110 (by decide) ?_
                refine lv_istore hx hb dX3_multiply_111 hl (by decide) rfl (fun ls hl => ?_)
                have hl : lv_has ls 17 [(16, .int (nI 0)), (7, .long ((gst mh ml oh ol k).2.1)), (5, .long ((gst mh ml oh ol k).1)), (14, .long (lN (bN (gbt mh ml k)))), (9, .long ((gst mh ml oh ol k).2.2.1)), (11, .long ((gst mh ml oh ol k).2.2.2)), (13, .int (nI k)), (0, .ref o)] := hl
                refine lv_lload hx hb dX3_multiply_113 (lv_at hl 5 rfl) ?_
                refine lv_iconst (v := nI 1) hx hb dX3_multiply_115 (by decide) ?_
                refine lv_lushr hx hb dX3_multiply_116 rfl ?_
                refine top_l (y := (((gst mh ml oh ol k).2.2.2).toUInt64 >>> ((nI 1).toInt64.toUInt64 &&& Int64.toUInt64 63)).toInt64) (rfl) ?_
                refine lv_lload hx hb dX3_multiply_117 (lv_at hl 4 rfl) ?_
                refine lv_bipush (v := nI 63) hx hb dX3_multiply_119 (by decide) ?_
                refine lv_lshl hx hb dX3_multiply_121 rfl ?_
                refine lv_lor hx hb dX3_multiply_122 ?_
                refine top_l (y := (gst mh ml oh ol (k + 1)).2.2.2) (rfl) ?_
                refine lv_lstore hx hb dX3_multiply_123 hl (by decide) rfl (fun ls hl => ?_)
                have hl : lv_has ls 17 [(11, .long ((gst mh ml oh ol (k + 1)).2.2.2)), (16, .int (nI 0)), (7, .long ((gst mh ml oh ol k).2.1)), (5, .long ((gst mh ml oh ol k).1)), (14, .long (lN (bN (gbt mh ml k)))), (9, .long ((gst mh ml oh ol k).2.2.1)), (13, .int (nI k)), (0, .ref o)] := hl
                refine lv_iload hx hb dX3_multiply_125 (lv_at hl 1 rfl) ?_
                refine w_pc (pc2 := 127) rfl ?_
                refine lv_if_eq (tgt := 141) hx hb dX3_multiply_127 (by decide) (fun hc_127 => ?_) (fun hc_127 => ?_)
                · skip
                  have hc_127 := (ix_eq (a := 0) (b := 0) (by omega) (by omega)).mp hc_127
                  have hc_127 : (0 = 0) := hc_127
                  refine lv_lload hx hb dX3_multiply_141 (lv_at hl 5 rfl) ?_
                  refine lv_iconst (v := nI 1) hx hb dX3_multiply_143 (by decide) ?_
                  refine lv_lushr hx hb dX3_multiply_144 rfl ?_
                  refine top_l (y := (((gst mh ml oh ol k).2.2.1).toUInt64 >>> ((nI 1).toInt64.toUInt64 &&& Int64.toUInt64 63)).toInt64) (rfl) ?_
                  refine lv_lstore hx hb dX3_multiply_145 hl (by decide) rfl (fun ls hl => ?_)
                  have hl : lv_has ls 17 [(9, .long ((((gst mh ml oh ol k).2.2.1).toUInt64 >>> ((nI 1).toInt64.toUInt64 &&& Int64.toUInt64 63)).toInt64)), (11, .long ((gst mh ml oh ol (k + 1)).2.2.2)), (16, .int (nI 0)), (7, .long ((gst mh ml oh ol k).2.1)), (5, .long ((gst mh ml oh ol k).1)), (14, .long (lN (bN (gbt mh ml k)))), (13, .int (nI k)), (0, .ref o)] := hl
                  refine lv_iinc (v := nI (k + 1)) (k := 6) hx hb dX3_multiply_147 hl rfl (ix_inc _ 1) (by decide) rfl (fun ls hl => ?_)
                  have hl : lv_has ls 17 [(13, .int (nI (k + 1))), (9, .long ((((gst mh ml oh ol k).2.2.1).toUInt64 >>> ((nI 1).toInt64.toUInt64 &&& Int64.toUInt64 63)).toInt64)), (11, .long ((gst mh ml oh ol (k + 1)).2.2.2)), (16, .int (nI 0)), (7, .long ((gst mh ml oh ol k).2.1)), (5, .long ((gst mh ml oh ol k).1)), (14, .long (lN (bN (gbt mh ml k)))), (0, .ref o)] := hl
                  refine lv_goto (tgt := 15) hx hb dX3_multiply_150 (by decide) ?_
                  have hl := lv_re hl 5 rfl (v2 := .long ((gst mh ml oh ol (k + 1)).1)) (congrArg Value.long (gs1f (by assumption))) rfl
                  have hl : lv_has ls 17 [(13, .int (nI (k + 1))), (9, .long ((((gst mh ml oh ol k).2.2.1).toUInt64 >>> ((nI 1).toInt64.toUInt64 &&& Int64.toUInt64 63)).toInt64)), (11, .long ((gst mh ml oh ol (k + 1)).2.2.2)), (16, .int (nI 0)), (7, .long ((gst mh ml oh ol k).2.1)), (5, .long ((gst mh ml oh ol (k + 1)).1)), (14, .long (lN (bN (gbt mh ml k)))), (0, .ref o)] := hl
                  have hl := lv_re hl 4 rfl (v2 := .long ((gst mh ml oh ol (k + 1)).2.1)) (congrArg Value.long (gs2f (by assumption))) rfl
                  have hl : lv_has ls 17 [(13, .int (nI (k + 1))), (9, .long ((((gst mh ml oh ol k).2.2.1).toUInt64 >>> ((nI 1).toInt64.toUInt64 &&& Int64.toUInt64 63)).toInt64)), (11, .long ((gst mh ml oh ol (k + 1)).2.2.2)), (16, .int (nI 0)), (7, .long ((gst mh ml oh ol (k + 1)).2.1)), (5, .long ((gst mh ml oh ol (k + 1)).1)), (14, .long (lN (bN (gbt mh ml k)))), (0, .ref o)] := hl
                  have hl := lv_re hl 1 rfl (v2 := .long ((gst mh ml oh ol (k + 1)).2.2.1)) (congrArg Value.long (gs3f (by assumption))) rfl
                  have hl : lv_has ls 17 [(13, .int (nI (k + 1))), (9, .long ((gst mh ml oh ol (k + 1)).2.2.1)), (11, .long ((gst mh ml oh ol (k + 1)).2.2.2)), (16, .int (nI 0)), (7, .long ((gst mh ml oh ol (k + 1)).2.1)), (5, .long ((gst mh ml oh ol (k + 1)).1)), (14, .long (lN (bN (gbt mh ml k)))), (0, .ref o)] := hl
                  exact ih (k + 1) ls H locs (by omega)  (lv_sub hl [5, 4, 1, 2, 0, 7] rfl) hP hD hS
                · skip
                  have hc_127 := (not_congr (ix_eq (a := 0) (b := 0) (by omega) (by omega))).mp hc_127
                  have hc_127 : ¬ (0 = 0) := hc_127
                  exfalso; omega
              · skip
                refine lv_iconst (v := nI 1) hx hb dX3_multiply_106 (by decide) ?_
                refine lv_goto (tgt := 111) hx hb dX3_multiply_107 (by decide) ?_
                refine lv_istore hx hb dX3_multiply_111 hl (by decide) rfl (fun ls hl => ?_)
                have hl : lv_has ls 17 [(16, .int (nI 1)), (7, .long ((gst mh ml oh ol k).2.1)), (5, .long ((gst mh ml oh ol k).1)), (14, .long (lN (bN (gbt mh ml k)))), (9, .long ((gst mh ml oh ol k).2.2.1)), (11, .long ((gst mh ml oh ol k).2.2.2)), (13, .int (nI k)), (0, .ref o)] := hl
                refine lv_lload hx hb dX3_multiply_113 (lv_at hl 5 rfl) ?_
                refine lv_iconst (v := nI 1) hx hb dX3_multiply_115 (by decide) ?_
                refine lv_lushr hx hb dX3_multiply_116 rfl ?_
                refine top_l (y := (((gst mh ml oh ol k).2.2.2).toUInt64 >>> ((nI 1).toInt64.toUInt64 &&& Int64.toUInt64 63)).toInt64) (rfl) ?_
                refine lv_lload hx hb dX3_multiply_117 (lv_at hl 4 rfl) ?_
                refine lv_bipush (v := nI 63) hx hb dX3_multiply_119 (by decide) ?_
                refine lv_lshl hx hb dX3_multiply_121 rfl ?_
                refine lv_lor hx hb dX3_multiply_122 ?_
                refine top_l (y := (gst mh ml oh ol (k + 1)).2.2.2) (rfl) ?_
                refine lv_lstore hx hb dX3_multiply_123 hl (by decide) rfl (fun ls hl => ?_)
                have hl : lv_has ls 17 [(11, .long ((gst mh ml oh ol (k + 1)).2.2.2)), (16, .int (nI 1)), (7, .long ((gst mh ml oh ol k).2.1)), (5, .long ((gst mh ml oh ol k).1)), (14, .long (lN (bN (gbt mh ml k)))), (9, .long ((gst mh ml oh ol k).2.2.1)), (13, .int (nI k)), (0, .ref o)] := hl
                refine lv_iload hx hb dX3_multiply_125 (lv_at hl 1 rfl) ?_
                refine lv_if_eq (tgt := 141) hx hb dX3_multiply_127 (by decide) (fun hc_127 => ?_) (fun hc_127 => ?_)
                · skip
                  have hc_127 := (ix_eq (a := 1) (b := 0) (by omega) (by omega)).mp hc_127
                  have hc_127 : (1 = 0) := hc_127
                  exfalso; omega
                · skip
                  have hc_127 := (not_congr (ix_eq (a := 1) (b := 0) (by omega) (by omega))).mp hc_127
                  have hc_127 : ¬ (1 = 0) := hc_127
                  refine lv_lload hx hb dX3_multiply_130 (lv_at hl 5 rfl) ?_
                  refine lv_iconst (v := nI 1) hx hb dX3_multiply_132 (by decide) ?_
                  refine lv_lushr hx hb dX3_multiply_133 rfl ?_
                  refine top_l (y := (((gst mh ml oh ol k).2.2.1).toUInt64 >>> ((nI 1).toInt64.toUInt64 &&& Int64.toUInt64 63)).toInt64) (rfl) ?_
                  refine lv_ldc2 (v := (-2233785415175766016)) hx hb hown (hta _ mw_569) dX3_multiply_134 ?_
                  refine lv_lxor hx hb dX3_multiply_137 ?_
                  refine lv_goto (tgt := 145) hx hb dX3_multiply_138 (by decide) ?_
                  refine lv_lstore hx hb dX3_multiply_145 hl (by decide) rfl (fun ls hl => ?_)
                  have hl : lv_has ls 17 [(9, .long (((((gst mh ml oh ol k).2.2.1).toUInt64 >>> ((nI 1).toInt64.toUInt64 &&& Int64.toUInt64 63)).toInt64) ^^^ ((-2233785415175766016) : Int64))), (11, .long ((gst mh ml oh ol (k + 1)).2.2.2)), (16, .int (nI 1)), (7, .long ((gst mh ml oh ol k).2.1)), (5, .long ((gst mh ml oh ol k).1)), (14, .long (lN (bN (gbt mh ml k)))), (13, .int (nI k)), (0, .ref o)] := hl
                  refine lv_iinc (v := nI (k + 1)) (k := 6) hx hb dX3_multiply_147 hl rfl (ix_inc _ 1) (by decide) rfl (fun ls hl => ?_)
                  have hl : lv_has ls 17 [(13, .int (nI (k + 1))), (9, .long (((((gst mh ml oh ol k).2.2.1).toUInt64 >>> ((nI 1).toInt64.toUInt64 &&& Int64.toUInt64 63)).toInt64) ^^^ ((-2233785415175766016) : Int64))), (11, .long ((gst mh ml oh ol (k + 1)).2.2.2)), (16, .int (nI 1)), (7, .long ((gst mh ml oh ol k).2.1)), (5, .long ((gst mh ml oh ol k).1)), (14, .long (lN (bN (gbt mh ml k)))), (0, .ref o)] := hl
                  refine lv_goto (tgt := 15) hx hb dX3_multiply_150 (by decide) ?_
                  have hl := lv_re hl 5 rfl (v2 := .long ((gst mh ml oh ol (k + 1)).1)) (congrArg Value.long (gs1f (by assumption))) rfl
                  have hl : lv_has ls 17 [(13, .int (nI (k + 1))), (9, .long (((((gst mh ml oh ol k).2.2.1).toUInt64 >>> ((nI 1).toInt64.toUInt64 &&& Int64.toUInt64 63)).toInt64) ^^^ ((-2233785415175766016) : Int64))), (11, .long ((gst mh ml oh ol (k + 1)).2.2.2)), (16, .int (nI 1)), (7, .long ((gst mh ml oh ol k).2.1)), (5, .long ((gst mh ml oh ol (k + 1)).1)), (14, .long (lN (bN (gbt mh ml k)))), (0, .ref o)] := hl
                  have hl := lv_re hl 4 rfl (v2 := .long ((gst mh ml oh ol (k + 1)).2.1)) (congrArg Value.long (gs2f (by assumption))) rfl
                  have hl : lv_has ls 17 [(13, .int (nI (k + 1))), (9, .long (((((gst mh ml oh ol k).2.2.1).toUInt64 >>> ((nI 1).toInt64.toUInt64 &&& Int64.toUInt64 63)).toInt64) ^^^ ((-2233785415175766016) : Int64))), (11, .long ((gst mh ml oh ol (k + 1)).2.2.2)), (16, .int (nI 1)), (7, .long ((gst mh ml oh ol (k + 1)).2.1)), (5, .long ((gst mh ml oh ol (k + 1)).1)), (14, .long (lN (bN (gbt mh ml k)))), (0, .ref o)] := hl
                  have hl := lv_re hl 1 rfl (v2 := .long ((gst mh ml oh ol (k + 1)).2.2.1)) (congrArg Value.long (gs3t (by assumption))) rfl
                  have hl : lv_has ls 17 [(13, .int (nI (k + 1))), (9, .long ((gst mh ml oh ol (k + 1)).2.2.1)), (11, .long ((gst mh ml oh ol (k + 1)).2.2.2)), (16, .int (nI 1)), (7, .long ((gst mh ml oh ol (k + 1)).2.1)), (5, .long ((gst mh ml oh ol (k + 1)).1)), (14, .long (lN (bN (gbt mh ml k)))), (0, .ref o)] := hl
                  exact ih (k + 1) ls H locs (by omega)  (lv_sub hl [5, 4, 1, 2, 0, 7] rfl) hP hD hS
            · skip
              exact (by first | exact absurd hc_63 hc_82 | exact absurd hc_82 hc_63)
          · skip
            refine lv_lload hx hb dX3_multiply_66 (lv_at hl 1 rfl) ?_
            refine lv_lload hx hb dX3_multiply_68 (lv_at hl 3 rfl) ?_
            refine lv_lxor hx hb dX3_multiply_70 ?_
            refine lv_goto (tgt := 76) hx hb dX3_multiply_71 (by decide) ?_
            refine lv_lstore hx hb dX3_multiply_76 hl (by decide) rfl (fun ls hl => ?_)
            have hl : lv_has ls 17 [(5, .long (((gst mh ml oh ol k).1) ^^^ ((gst mh ml oh ol k).2.2.1))), (14, .long (lN (bN (gbt mh ml k)))), (7, .long ((gst mh ml oh ol k).2.1)), (9, .long ((gst mh ml oh ol k).2.2.1)), (11, .long ((gst mh ml oh ol k).2.2.2)), (13, .int (nI k)), (0, .ref o)] := hl
            refine lv_lload hx hb dX3_multiply_78 (lv_at hl 1 rfl) ?_
            refine lv_lconst (v := lN 1) hx hb dX3_multiply_80 (by decide) ?_
            refine W.lcmp hx hb dX3_multiply_81 ?_
            refine top_i (y := gz (gbt mh ml k)) (gz_e _) ?_
            refine lv_if_ne (tgt := 93) hx hb dX3_multiply_82 (by decide) (fun hc_82 => ?_) (fun hc_82 => ?_)
            · skip
              exact (by first | exact absurd hc_63 hc_82 | exact absurd hc_82 hc_63)
            · skip
              refine lv_lload hx hb dX3_multiply_85 (lv_at hl 2 rfl) ?_
              refine lv_lload hx hb dX3_multiply_87 (lv_at hl 4 rfl) ?_
              refine lv_lxor hx hb dX3_multiply_89 ?_
              refine lv_goto (tgt := 95) hx hb dX3_multiply_90 (by decide) ?_
              refine lv_lstore hx hb dX3_multiply_95 hl (by decide) rfl (fun ls hl => ?_)
              have hl : lv_has ls 17 [(7, .long (((gst mh ml oh ol k).2.1) ^^^ ((gst mh ml oh ol k).2.2.2))), (5, .long (((gst mh ml oh ol k).1) ^^^ ((gst mh ml oh ol k).2.2.1))), (14, .long (lN (bN (gbt mh ml k)))), (9, .long ((gst mh ml oh ol k).2.2.1)), (11, .long ((gst mh ml oh ol k).2.2.2)), (13, .int (nI k)), (0, .ref o)] := hl
              refine lv_lload hx hb dX3_multiply_97 (lv_at hl 4 rfl) ?_
              refine lv_lconst (v := lN 1) hx hb dX3_multiply_99 (by decide) ?_
              refine lv_land hx hb dX3_multiply_100 ?_
              refine top_l (y := lN (bN ((gst mh ml oh ol k).2.2.2.toBitVec.getLsbD 0))) (gb_0 _) ?_
              refine lv_lconst (v := lN 1) hx hb dX3_multiply_101 (by decide) ?_
              refine W.lcmp hx hb dX3_multiply_102 ?_
              refine top_i (y := gz ((gst mh ml oh ol k).2.2.2.toBitVec.getLsbD 0)) (gz_e _) ?_
              refine lv_if_ne (tgt := 110) hx hb dX3_multiply_103 (by decide) (fun hc_103 => ?_) (fun hc_103 => ?_)
              · skip
                refine lv_iconst (v := nI 0) hx hb dX3_multiply_110 (by decide) ?_
                refine lv_istore hx hb dX3_multiply_111 hl (by decide) rfl (fun ls hl => ?_)
                have hl : lv_has ls 17 [(16, .int (nI 0)), (7, .long (((gst mh ml oh ol k).2.1) ^^^ ((gst mh ml oh ol k).2.2.2))), (5, .long (((gst mh ml oh ol k).1) ^^^ ((gst mh ml oh ol k).2.2.1))), (14, .long (lN (bN (gbt mh ml k)))), (9, .long ((gst mh ml oh ol k).2.2.1)), (11, .long ((gst mh ml oh ol k).2.2.2)), (13, .int (nI k)), (0, .ref o)] := hl
                refine lv_lload hx hb dX3_multiply_113 (lv_at hl 5 rfl) ?_
                refine lv_iconst (v := nI 1) hx hb dX3_multiply_115 (by decide) ?_
                refine lv_lushr hx hb dX3_multiply_116 rfl ?_
                refine top_l (y := (((gst mh ml oh ol k).2.2.2).toUInt64 >>> ((nI 1).toInt64.toUInt64 &&& Int64.toUInt64 63)).toInt64) (rfl) ?_
                refine lv_lload hx hb dX3_multiply_117 (lv_at hl 4 rfl) ?_
                refine lv_bipush (v := nI 63) hx hb dX3_multiply_119 (by decide) ?_
                refine lv_lshl hx hb dX3_multiply_121 rfl ?_
                refine lv_lor hx hb dX3_multiply_122 ?_
                refine top_l (y := (gst mh ml oh ol (k + 1)).2.2.2) (rfl) ?_
                refine lv_lstore hx hb dX3_multiply_123 hl (by decide) rfl (fun ls hl => ?_)
                have hl : lv_has ls 17 [(11, .long ((gst mh ml oh ol (k + 1)).2.2.2)), (16, .int (nI 0)), (7, .long (((gst mh ml oh ol k).2.1) ^^^ ((gst mh ml oh ol k).2.2.2))), (5, .long (((gst mh ml oh ol k).1) ^^^ ((gst mh ml oh ol k).2.2.1))), (14, .long (lN (bN (gbt mh ml k)))), (9, .long ((gst mh ml oh ol k).2.2.1)), (13, .int (nI k)), (0, .ref o)] := hl
                refine lv_iload hx hb dX3_multiply_125 (lv_at hl 1 rfl) ?_
                refine w_pc (pc2 := 127) rfl ?_
                refine lv_if_eq (tgt := 141) hx hb dX3_multiply_127 (by decide) (fun hc_127 => ?_) (fun hc_127 => ?_)
                · skip
                  have hc_127 := (ix_eq (a := 0) (b := 0) (by omega) (by omega)).mp hc_127
                  have hc_127 : (0 = 0) := hc_127
                  refine lv_lload hx hb dX3_multiply_141 (lv_at hl 5 rfl) ?_
                  refine lv_iconst (v := nI 1) hx hb dX3_multiply_143 (by decide) ?_
                  refine lv_lushr hx hb dX3_multiply_144 rfl ?_
                  refine top_l (y := (((gst mh ml oh ol k).2.2.1).toUInt64 >>> ((nI 1).toInt64.toUInt64 &&& Int64.toUInt64 63)).toInt64) (rfl) ?_
                  refine lv_lstore hx hb dX3_multiply_145 hl (by decide) rfl (fun ls hl => ?_)
                  have hl : lv_has ls 17 [(9, .long ((((gst mh ml oh ol k).2.2.1).toUInt64 >>> ((nI 1).toInt64.toUInt64 &&& Int64.toUInt64 63)).toInt64)), (11, .long ((gst mh ml oh ol (k + 1)).2.2.2)), (16, .int (nI 0)), (7, .long (((gst mh ml oh ol k).2.1) ^^^ ((gst mh ml oh ol k).2.2.2))), (5, .long (((gst mh ml oh ol k).1) ^^^ ((gst mh ml oh ol k).2.2.1))), (14, .long (lN (bN (gbt mh ml k)))), (13, .int (nI k)), (0, .ref o)] := hl
                  refine lv_iinc (v := nI (k + 1)) (k := 6) hx hb dX3_multiply_147 hl rfl (ix_inc _ 1) (by decide) rfl (fun ls hl => ?_)
                  have hl : lv_has ls 17 [(13, .int (nI (k + 1))), (9, .long ((((gst mh ml oh ol k).2.2.1).toUInt64 >>> ((nI 1).toInt64.toUInt64 &&& Int64.toUInt64 63)).toInt64)), (11, .long ((gst mh ml oh ol (k + 1)).2.2.2)), (16, .int (nI 0)), (7, .long (((gst mh ml oh ol k).2.1) ^^^ ((gst mh ml oh ol k).2.2.2))), (5, .long (((gst mh ml oh ol k).1) ^^^ ((gst mh ml oh ol k).2.2.1))), (14, .long (lN (bN (gbt mh ml k)))), (0, .ref o)] := hl
                  refine lv_goto (tgt := 15) hx hb dX3_multiply_150 (by decide) ?_
                  have hl := lv_re hl 5 rfl (v2 := .long ((gst mh ml oh ol (k + 1)).1)) (congrArg Value.long (gs1t (by assumption))) rfl
                  have hl : lv_has ls 17 [(13, .int (nI (k + 1))), (9, .long ((((gst mh ml oh ol k).2.2.1).toUInt64 >>> ((nI 1).toInt64.toUInt64 &&& Int64.toUInt64 63)).toInt64)), (11, .long ((gst mh ml oh ol (k + 1)).2.2.2)), (16, .int (nI 0)), (7, .long (((gst mh ml oh ol k).2.1) ^^^ ((gst mh ml oh ol k).2.2.2))), (5, .long ((gst mh ml oh ol (k + 1)).1)), (14, .long (lN (bN (gbt mh ml k)))), (0, .ref o)] := hl
                  have hl := lv_re hl 4 rfl (v2 := .long ((gst mh ml oh ol (k + 1)).2.1)) (congrArg Value.long (gs2t (by assumption))) rfl
                  have hl : lv_has ls 17 [(13, .int (nI (k + 1))), (9, .long ((((gst mh ml oh ol k).2.2.1).toUInt64 >>> ((nI 1).toInt64.toUInt64 &&& Int64.toUInt64 63)).toInt64)), (11, .long ((gst mh ml oh ol (k + 1)).2.2.2)), (16, .int (nI 0)), (7, .long ((gst mh ml oh ol (k + 1)).2.1)), (5, .long ((gst mh ml oh ol (k + 1)).1)), (14, .long (lN (bN (gbt mh ml k)))), (0, .ref o)] := hl
                  have hl := lv_re hl 1 rfl (v2 := .long ((gst mh ml oh ol (k + 1)).2.2.1)) (congrArg Value.long (gs3f (by assumption))) rfl
                  have hl : lv_has ls 17 [(13, .int (nI (k + 1))), (9, .long ((gst mh ml oh ol (k + 1)).2.2.1)), (11, .long ((gst mh ml oh ol (k + 1)).2.2.2)), (16, .int (nI 0)), (7, .long ((gst mh ml oh ol (k + 1)).2.1)), (5, .long ((gst mh ml oh ol (k + 1)).1)), (14, .long (lN (bN (gbt mh ml k)))), (0, .ref o)] := hl
                  exact ih (k + 1) ls H locs (by omega)  (lv_sub hl [5, 4, 1, 2, 0, 7] rfl) hP hD hS
                · skip
                  have hc_127 := (not_congr (ix_eq (a := 0) (b := 0) (by omega) (by omega))).mp hc_127
                  have hc_127 : ¬ (0 = 0) := hc_127
                  exfalso; omega
              · skip
                refine lv_iconst (v := nI 1) hx hb dX3_multiply_106 (by decide) ?_
                refine lv_goto (tgt := 111) hx hb dX3_multiply_107 (by decide) ?_
                refine lv_istore hx hb dX3_multiply_111 hl (by decide) rfl (fun ls hl => ?_)
                have hl : lv_has ls 17 [(16, .int (nI 1)), (7, .long (((gst mh ml oh ol k).2.1) ^^^ ((gst mh ml oh ol k).2.2.2))), (5, .long (((gst mh ml oh ol k).1) ^^^ ((gst mh ml oh ol k).2.2.1))), (14, .long (lN (bN (gbt mh ml k)))), (9, .long ((gst mh ml oh ol k).2.2.1)), (11, .long ((gst mh ml oh ol k).2.2.2)), (13, .int (nI k)), (0, .ref o)] := hl
                refine lv_lload hx hb dX3_multiply_113 (lv_at hl 5 rfl) ?_
                refine lv_iconst (v := nI 1) hx hb dX3_multiply_115 (by decide) ?_
                refine lv_lushr hx hb dX3_multiply_116 rfl ?_
                refine top_l (y := (((gst mh ml oh ol k).2.2.2).toUInt64 >>> ((nI 1).toInt64.toUInt64 &&& Int64.toUInt64 63)).toInt64) (rfl) ?_
                refine lv_lload hx hb dX3_multiply_117 (lv_at hl 4 rfl) ?_
                refine lv_bipush (v := nI 63) hx hb dX3_multiply_119 (by decide) ?_
                refine lv_lshl hx hb dX3_multiply_121 rfl ?_
                refine lv_lor hx hb dX3_multiply_122 ?_
                refine top_l (y := (gst mh ml oh ol (k + 1)).2.2.2) (rfl) ?_
                refine lv_lstore hx hb dX3_multiply_123 hl (by decide) rfl (fun ls hl => ?_)
                have hl : lv_has ls 17 [(11, .long ((gst mh ml oh ol (k + 1)).2.2.2)), (16, .int (nI 1)), (7, .long (((gst mh ml oh ol k).2.1) ^^^ ((gst mh ml oh ol k).2.2.2))), (5, .long (((gst mh ml oh ol k).1) ^^^ ((gst mh ml oh ol k).2.2.1))), (14, .long (lN (bN (gbt mh ml k)))), (9, .long ((gst mh ml oh ol k).2.2.1)), (13, .int (nI k)), (0, .ref o)] := hl
                refine lv_iload hx hb dX3_multiply_125 (lv_at hl 1 rfl) ?_
                refine lv_if_eq (tgt := 141) hx hb dX3_multiply_127 (by decide) (fun hc_127 => ?_) (fun hc_127 => ?_)
                · skip
                  have hc_127 := (ix_eq (a := 1) (b := 0) (by omega) (by omega)).mp hc_127
                  have hc_127 : (1 = 0) := hc_127
                  exfalso; omega
                · skip
                  have hc_127 := (not_congr (ix_eq (a := 1) (b := 0) (by omega) (by omega))).mp hc_127
                  have hc_127 : ¬ (1 = 0) := hc_127
                  refine lv_lload hx hb dX3_multiply_130 (lv_at hl 5 rfl) ?_
                  refine lv_iconst (v := nI 1) hx hb dX3_multiply_132 (by decide) ?_
                  refine lv_lushr hx hb dX3_multiply_133 rfl ?_
                  refine top_l (y := (((gst mh ml oh ol k).2.2.1).toUInt64 >>> ((nI 1).toInt64.toUInt64 &&& Int64.toUInt64 63)).toInt64) (rfl) ?_
                  refine lv_ldc2 (v := (-2233785415175766016)) hx hb hown (hta _ mw_569) dX3_multiply_134 ?_
                  refine lv_lxor hx hb dX3_multiply_137 ?_
                  refine lv_goto (tgt := 145) hx hb dX3_multiply_138 (by decide) ?_
                  refine lv_lstore hx hb dX3_multiply_145 hl (by decide) rfl (fun ls hl => ?_)
                  have hl : lv_has ls 17 [(9, .long (((((gst mh ml oh ol k).2.2.1).toUInt64 >>> ((nI 1).toInt64.toUInt64 &&& Int64.toUInt64 63)).toInt64) ^^^ ((-2233785415175766016) : Int64))), (11, .long ((gst mh ml oh ol (k + 1)).2.2.2)), (16, .int (nI 1)), (7, .long (((gst mh ml oh ol k).2.1) ^^^ ((gst mh ml oh ol k).2.2.2))), (5, .long (((gst mh ml oh ol k).1) ^^^ ((gst mh ml oh ol k).2.2.1))), (14, .long (lN (bN (gbt mh ml k)))), (13, .int (nI k)), (0, .ref o)] := hl
                  refine lv_iinc (v := nI (k + 1)) (k := 6) hx hb dX3_multiply_147 hl rfl (ix_inc _ 1) (by decide) rfl (fun ls hl => ?_)
                  have hl : lv_has ls 17 [(13, .int (nI (k + 1))), (9, .long (((((gst mh ml oh ol k).2.2.1).toUInt64 >>> ((nI 1).toInt64.toUInt64 &&& Int64.toUInt64 63)).toInt64) ^^^ ((-2233785415175766016) : Int64))), (11, .long ((gst mh ml oh ol (k + 1)).2.2.2)), (16, .int (nI 1)), (7, .long (((gst mh ml oh ol k).2.1) ^^^ ((gst mh ml oh ol k).2.2.2))), (5, .long (((gst mh ml oh ol k).1) ^^^ ((gst mh ml oh ol k).2.2.1))), (14, .long (lN (bN (gbt mh ml k)))), (0, .ref o)] := hl
                  refine lv_goto (tgt := 15) hx hb dX3_multiply_150 (by decide) ?_
                  have hl := lv_re hl 5 rfl (v2 := .long ((gst mh ml oh ol (k + 1)).1)) (congrArg Value.long (gs1t (by assumption))) rfl
                  have hl : lv_has ls 17 [(13, .int (nI (k + 1))), (9, .long (((((gst mh ml oh ol k).2.2.1).toUInt64 >>> ((nI 1).toInt64.toUInt64 &&& Int64.toUInt64 63)).toInt64) ^^^ ((-2233785415175766016) : Int64))), (11, .long ((gst mh ml oh ol (k + 1)).2.2.2)), (16, .int (nI 1)), (7, .long (((gst mh ml oh ol k).2.1) ^^^ ((gst mh ml oh ol k).2.2.2))), (5, .long ((gst mh ml oh ol (k + 1)).1)), (14, .long (lN (bN (gbt mh ml k)))), (0, .ref o)] := hl
                  have hl := lv_re hl 4 rfl (v2 := .long ((gst mh ml oh ol (k + 1)).2.1)) (congrArg Value.long (gs2t (by assumption))) rfl
                  have hl : lv_has ls 17 [(13, .int (nI (k + 1))), (9, .long (((((gst mh ml oh ol k).2.2.1).toUInt64 >>> ((nI 1).toInt64.toUInt64 &&& Int64.toUInt64 63)).toInt64) ^^^ ((-2233785415175766016) : Int64))), (11, .long ((gst mh ml oh ol (k + 1)).2.2.2)), (16, .int (nI 1)), (7, .long ((gst mh ml oh ol (k + 1)).2.1)), (5, .long ((gst mh ml oh ol (k + 1)).1)), (14, .long (lN (bN (gbt mh ml k)))), (0, .ref o)] := hl
                  have hl := lv_re hl 1 rfl (v2 := .long ((gst mh ml oh ol (k + 1)).2.2.1)) (congrArg Value.long (gs3t (by assumption))) rfl
                  have hl : lv_has ls 17 [(13, .int (nI (k + 1))), (9, .long ((gst mh ml oh ol (k + 1)).2.2.1)), (11, .long ((gst mh ml oh ol (k + 1)).2.2.2)), (16, .int (nI 1)), (7, .long ((gst mh ml oh ol (k + 1)).2.1)), (5, .long ((gst mh ml oh ol (k + 1)).1)), (14, .long (lN (bN (gbt mh ml k)))), (0, .ref o)] := hl
                  exact ih (k + 1) ls H locs (by omega)  (lv_sub hl [5, 4, 1, 2, 0, 7] rfl) hP hD hS
  exact loop_15 128 0 ls H locs (by omega)  (lv_sub hl [4, 3, 2, 1, 0, 5] rfl) hP hD hS

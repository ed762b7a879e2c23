def rm_m_text_s : Room := { frames := 1, cells := 0, slots := 0, locals := 23 }
set_option maxHeartbeats 4000000 in
set_option maxRecDepth 100000 in
/-- text, opening -/
theorem m_text_s (l : Launch) (dC : Nat → ClassId) (dI : Nat → Nat → Nat) (o : Nat) (th : Int32) (ph : Nat) (og : Bool) (qx : Nat) (qk : Nat) (qw : Nat) (qb : Nat) (qn : Nat) (mh : Int64) (ml : Int64) (nc : Int64) (rs : Int32) (na : Nat) (qd : Nat) (nz : Nat) (qg : Nat) (t1 : Int64) (t2 : Int64) (kg : ClassId) (gv : Nat → Nat) (y : Int64) (cn : Nat) (huw : ph = 1 ∨ ph = 2) (hog : og = true) (hcn : cn ≤ 8) (hnz : nz + cn ≤ 96) : MO l dC dI yX3_text wsX3_text rm_m_text_s [.ref o, .long y, .int (nI cn)] [(o, .inr (3, [.int th, .int (nI ph), .int (zI og), .ref qx, .ref qk, .ref qw, .ref qb, .ref qn, .long mh, .long ml, .long nc, .int rs, .int (nI na), .ref qd, .int (nI nz), .ref qg, .long t1, .long t2])), (qg, .inl (kg, 96, .inl (nF gv)))] [(kg, .int)] [(o, .inr (3, [.int (nI 0), .int (nI 2), .int (zI og), .ref qx, .ref qk, .ref qw, .ref qb, .ref qn, .long mh, .long ml, .long nc, .int rs, .int (nI na), .ref qd, .int (nI (nz + cn)), .ref qg, .long t1, .long t2])), (qg, .inl (kg, 96, .inl (nF (ofl (pbN y) gv nz cn))))] (some (.long (lN 0))) := by
  refine mo_ofW (cc := cX3_text) (maxL := 7) (ret := (some .long)) (by decide) rfl (Nat.le_of_ble_eq_true rfl) ?_
  intro p e s m args below meth c Q A H locs ls hx hb hr hlk hml hta hown hin hE hQ hAe hA hK hP hD hS hl
  have hown : s.vm.findClass RX3 = some m.cls := hown
  have hl : lv_has ls 7 [(0, .ref o), (1, .long y), (3, .int (nI cn))] := hl
  refine lv_aload_n hx hb dX3_text_0 rfl (lv_at hl 0 rfl) ?_
  refine lv_aload_n hx hb dX3_text_1 rfl (lv_at hl 0 rfl) ?_
  refine va_get (D := (dC, dI)) (ci := 3) (v := .int (nI ph)) (C := RX3) (T := TX3) (N := 18) hx hb hta inX3 hown hK hP 0 rfl rfl 1 (by decide) (hta _ mw_458) (fun _ h9 => h9) rfl dX3_text_2 ?_
  refine lv_iconst (v := nI 1) hx hb dX3_text_5 (by decide) ?_
  refine lv_icmp_eq (tgt := 21) hx hb dX3_text_6 (by decide) (fun hc_6 => ?_) (fun hc_6 => ?_)
  · skip
    have hc_6 := (ix_eq (a := ph) (b := 1) (by omega) (by omega)).mp hc_6
    have hc_6 : (ph = 1) := hc_6
    refine lv_iconst (v := nI 0) hx hb dX3_text_21 (by decide) ?_
    refine lv_iload_n hx hb dX3_text_22 rfl (lv_at hl 2 rfl) ?_
    refine lv_if_lt (tgt := 32) hx hb dX3_text_23 (by decide) (fun hc_23 => ?_) (fun hc_23 => ?_)
    · skip
      have hc_23 := (ix_lt (a := cn) (b := 0) (by omega) (by omega)).mp hc_23
      have hc_23 : (cn < 0) := hc_23
      exfalso; omega
    · skip
      have hc_23 := (not_congr (ix_lt (a := cn) (b := 0) (by omega) (by omega))).mp hc_23
      have hc_23 : ¬ (cn < 0) := hc_23
      refine lv_iload_n hx hb dX3_text_26 rfl (lv_at hl 2 rfl) ?_
      refine lv_bipush (v := nI 8) hx hb dX3_text_27 (by decide) ?_
      refine lv_icmp_le (tgt := 36) hx hb dX3_text_29 (by decide) (fun hc_29 => ?_) (fun hc_29 => ?_)
      · skip
        have hc_29 := (ix_le (a := cn) (b := 8) (by omega) (by omega)).mp hc_29
        have hc_29 : (cn ≤ 8) := hc_29
        refine lv_iconst (v := nI 0) hx hb dX3_text_36 (by decide) ?_
        refine lv_aload_n hx hb dX3_text_37 rfl (lv_at hl 0 rfl) ?_
        refine va_get (D := (dC, dI)) (ci := 3) (v := .int (nI nz)) (C := RX3) (T := TX3) (N := 18) hx hb hta inX3 hown hK hP 0 rfl rfl 14 (by decide) (hta _ mw_471) (fun _ h9 => h9) rfl dX3_text_38 ?_
        refine lv_iload_n hx hb dX3_text_41 rfl (lv_at hl 2 rfl) ?_
        refine lv_iadd hx hb dX3_text_42 (top_i (nI_add _ _) ?_)
        refine lv_bipush (v := nI 96) hx hb dX3_text_43 (by decide) ?_
        refine lv_icmp_le (tgt := 52) hx hb dX3_text_45 (by decide) (fun hc_45 => ?_) (fun hc_45 => ?_)
        · skip
          have hc_45 := (ix_le (a := nz + cn) (b := 96) (by omega) (by omega)).mp hc_45
          have hc_45 : ((nz + cn) ≤ 96) := hc_45
          refine lv_iconst (v := nI 0) hx hb dX3_text_52 (by decide) ?_
          refine cf_1 (wr := [(qg, .inl (kg, 96, .inl (nF gv)))]) (va_runV (As := [.int (nI 0), .int (nI 0), .int (nI 0)]) (rest := []) ⟨hx, hb, hml, hown, hta⟩ (MO.to (m_refuses l dC dI o th ph og qx qk qw qb qn mh ml nc rs na qd nz qg t1 t2 false false false) H.size) (cwV 3 hta (aw_V mw_527 mw_524 mw_526 mw_s21 mw_5) rfl rfl rfl ⟨rfl, dyX3_refuses⟩ ⟨(Nat.le_of_ble_eq_true rfl), (Nat.le_of_ble_eq_true rfl)⟩) (pr_V hP hD hK hE [0] [] (by decide) rfl rfl rfl rfl) rfl rfl hl.1 rfl (lv_room (Nat.le_of_ble_eq_true rfl)) dX3_text_53 ⟨(Nat.le_of_ble_eq_true rfl), (Nat.le_of_ble_eq_true rfl)⟩) hP hD hS hA [0] [1] rfl rfl (by decide) (by decide) (fun H locs hP hD hS => ?_)
          have hP : va_P (dC, dI) vwCl [(qg, .inl (kg, 96, .inl (nF gv))), (o, .inr (3, [.int (rfN false false false), .int (nI ph), .int (zI og), .ref qx, .ref qk, .ref qw, .ref qb, .ref qn, .long mh, .long ml, .long nc, .int rs, .int (nI na), .ref qd, .int (nI nz), .ref qg, .long t1, .long t2]))] H := hP
          have hD : va_D A [(qg, .inl (kg, 96, .inl (nF gv))), (o, .inr (3, [.int (rfN false false false), .int (nI ph), .int (zI og), .ref qx, .ref qk, .ref qw, .ref qb, .ref qn, .long mh, .long ml, .long nc, .int rs, .int (nI na), .ref qd, .int (nI nz), .ref qg, .long t1, .long t2]))] := hD
          refine W.widen (k := 0) (n := 0) (Nat.le_of_ble_eq_true rfl) (Nat.le_of_ble_eq_true rfl) ?_
          have e9 : rfN false false false = nI 0 := rfl
          have hP : va_P (dC, dI) vwCl [(qg, .inl (kg, 96, .inl (nF gv))), (o, .inr (3, [.int (nI 0), .int (nI ph), .int (zI og), .ref qx, .ref qk, .ref qw, .ref qb, .ref qn, .long mh, .long ml, .long nc, .int rs, .int (nI na), .ref qd, .int (nI nz), .ref qg, .long t1, .long t2]))] H := by rw [← e9]; exact hP
          have hD : va_D A [(qg, .inl (kg, 96, .inl (nF gv))), (o, .inr (3, [.int (nI 0), .int (nI ph), .int (zI og), .ref qx, .ref qk, .ref qw, .ref qb, .ref qn, .long mh, .long ml, .long nc, .int rs, .int (nI na), .ref qd, .int (nI nz), .ref qg, .long t1, .long t2]))] := by rw [← e9]; exact hD
          refine w_pc (pc2 := 56) rfl ?_
          refine lv_if_eq (tgt := 61) hx hb dX3_text_56 (by decide) (fun hc_56 => ?_) (fun hc_56 => ?_)
          · skip
            refine lv_aload_n hx hb dX3_text_61 rfl (lv_at hl 0 rfl) ?_
            refine lv_iconst (v := nI 2) hx hb dX3_text_62 (by decide) ?_
            refine va_put (D := (dC, dI)) (ci := 3) (v := .int (nI 2)) (ty := .int) (C := RX3) (T := TX3) (N := 18) hx hb hta inX3 tyX3 tyX3_ok nmX3 hown hK hP hD hS 1 rfl rfl 1 (by decide) (hta _ mw_458) (fun _ h9 => h9) rfl (by decide +kernel) rfl rfl (Nat.le_of_ble_eq_true rfl) dX3_text_63 (fun H locs hP hD hS => ?_)
            have hP : va_P (dC, dI) vwCl [(qg, .inl (kg, 96, .inl (nF gv))), (o, .inr (3, [.int (nI 0), .int (nI 2), .int (zI og), .ref qx, .ref qk, .ref qw, .ref qb, .ref qn, .long mh, .long ml, .long nc, .int rs, .int (nI na), .ref qd, .int (nI nz), .ref qg, .long t1, .long t2]))] H := hP
            have hD : va_D A [(qg, .inl (kg, 96, .inl (nF gv))), (o, .inr (3, [.int (nI 0), .int (nI 2), .int (zI og), .ref qx, .ref qk, .ref qw, .ref qb, .ref qn, .long mh, .long ml, .long nc, .int rs, .int (nI na), .ref qd, .int (nI nz), .ref qg, .long t1, .long t2]))] := hD
            refine lv_lconst (v := lN 0) hx hb dX3_text_66 (by decide) ?_
            refine lv_lstore hx hb dX3_text_67 hl (by decide) rfl (fun ls hl => ?_)
            have hl : lv_has ls 7 [(4, .long (lN 0)), (0, .ref o), (1, .long y), (3, .int (nI cn))] := hl
            refine lv_iconst (v := nI 0) hx hb dX3_text_69 (by decide) ?_
            refine lv_istore hx hb dX3_text_70 hl (by decide) rfl (fun ls hl => ?_)
            have hl : lv_has ls 7 [(6, .int (nI 0)), (4, .long (lN 0)), (0, .ref o), (1, .long y), (3, .int (nI cn))] := hl
            obtain ⟨hP, hD⟩ := va_recb (g := ofl (pbN y) gv nz 0) hP hD 0 rfl (fun i _ => ofl_0 _ gv nz i)
            have hP : va_P (dC, dI) vwCl [(qg, .inl (kg, 96, .inl (nF (ofl (pbN y) gv nz 0)))), (o, .inr (3, [.int (nI 0), .int (nI 2), .int (zI og), .ref qx, .ref qk, .ref qw, .ref qb, .ref qn, .long mh, .long ml, .long nc, .int rs, .int (nI na), .ref qd, .int (nI nz), .ref qg, .long t1, .long t2]))] H := hP
            have hD : va_D A [(qg, .inl (kg, 96, .inl (nF (ofl (pbN y) gv nz 0)))), (o, .inr (3, [.int (nI 0), .int (nI 2), .int (zI og), .ref qx, .ref qk, .ref qw, .ref qb, .ref qn, .long mh, .long ml, .long nc, .int rs, .int (nI na), .ref qd, .int (nI nz), .ref qg, .long t1, .long t2]))] := hD
            have loop_72 : ∀ (n k : Nat) (ls : Array Slot) (H : Heap) (locs : List Loc), k + n = cn → lv_has ls 7 [(4, .long (lN 0)), (6, .int (nI k)), (0, .ref o), (1, .long y), (3, .int (nI cn))] → va_P (dC, dI) vwCl [(qg, .inl (kg, 96, .inl (nF (ofl (pbN y) gv nz k)))), (o, .inr (3, [.int (nI 0), .int (nI 2), .int (zI og), .ref qx, .ref qk, .ref qw, .ref qb, .ref qn, .long mh, .long ml, .long nc, .int rs, .int (nI na), .ref qd, .int (nI (nz + k)), .ref qg, .long t1, .long t2]))] H → va_D A [(qg, .inl (kg, 96, .inl (nF (ofl (pbN y) gv nz k)))), (o, .inr (3, [.int (nI 0), .int (nI 2), .int (zI og), .ref qx, .ref qk, .ref qw, .ref qb, .ref qn, .long mh, .long ml, .long nc, .int rs, .int (nI na), .ref qd, .int (nI (nz + k)), .ref qg, .long t1, .long t2]))] → va_S A s.heap H locs → W p l e rm_m_text_s s m args below meth c H locs 0 0 Q (F0 m 72 ls []) := by
              intro n
              induction n with
              | zero =>
                intro k ls H locs hn_72  hl hP hD hS
                obtain rfl : cn = k := by omega
                refine lv_iload hx hb dX3_text_72 (lv_at hl 1 rfl) ?_
                refine lv_iload_n hx hb dX3_text_74 rfl (lv_at hl 4 rfl) ?_
                refine lv_icmp_ge (tgt := 156) hx hb dX3_text_75 (by decide) (fun hc_75 => ?_) (fun hc_75 => ?_)
                · skip
                  have hc_75 := (ix_le (a := cn) (b := cn) (by omega) (by omega)).mp hc_75
                  have hc_75 : (cn ≤ cn) := hc_75
                  refine lv_lload hx hb dX3_text_156 (lv_at hl 0 rfl) ?_
                  exact rt_l hx hb hr hlk hQ hAe hP hD hS [1, 0] (by decide) rfl (Nat.le_of_ble_eq_true rfl) (Nat.le_of_ble_eq_true rfl) (rfl) dX3_text_158
                · skip
                  have hc_75 := (not_congr (ix_le (a := cn) (b := cn) (by omega) (by omega))).mp hc_75
                  have hc_75 : ¬ (cn ≤ cn) := hc_75
                  exfalso; omega
              | succ n ih =>
                intro k ls H locs hn_72  hl hP hD hS
                refine lv_iload hx hb dX3_text_72 (lv_at hl 1 rfl) ?_
                refine lv_iload_n hx hb dX3_text_74 rfl (lv_at hl 4 rfl) ?_
                refine lv_icmp_ge (tgt := 156) hx hb dX3_text_75 (by decide) (fun hc_75 => ?_) (fun hc_75 => ?_)
                · skip
                  have hc_75 := (ix_le (a := cn) (b := k) (by omega) (by omega)).mp hc_75
                  have hc_75 : (cn ≤ k) := hc_75
                  exfalso; omega
                · skip
                  have hc_75 := (not_congr (ix_le (a := cn) (b := k) (by omega) (by omega))).mp hc_75
                  have hc_75 : ¬ (cn ≤ k) := hc_75
                  refine lv_aload_n hx hb dX3_text_78 rfl (lv_at hl 2 rfl) ?_
                  refine va_get (D := (dC, dI)) (ci := 3) (v := .ref qg) (C := RX3) (T := TX3) (N := 18) hx hb hta inX3 hown hK hP 1 rfl rfl 15 (by decide) (hta _ mw_472) (fun _ h9 => h9) rfl dX3_text_79 ?_
                  refine lv_aload_n hx hb dX3_text_82 rfl (lv_at hl 2 rfl) ?_
                  refine va_get (D := (dC, dI)) (ci := 3) (v := .int (nI (nz + k))) (C := RX3) (T := TX3) (N := 18) hx hb hta inX3 hown hK hP 1 rfl rfl 14 (by decide) (hta _ mw_471) (fun _ h9 => h9) rfl dX3_text_83 ?_
                  refine lv_lload_n hx hb dX3_text_86 rfl (lv_at hl 3 rfl) ?_
                  refine lv_bipush (v := nI 8) hx hb dX3_text_87 (by decide) ?_
                  refine lv_iload hx hb dX3_text_89 (lv_at hl 1 rfl) ?_
                  refine lv_imul hx hb dX3_text_91 (top_i (pk_mul _ _) ?_)
                  refine lv_lshr hx hb dX3_text_92 rfl ?_
                  refine lv_ldc2 (v := 255) hx hb hown (hta _ mw_536) dX3_text_93 ?_
                  refine top_l (y := lN 255) (by decide) ?_
                  refine lv_land hx hb dX3_text_96 ?_
                  refine top_l (y := lN (pbN y k)) (l_sb _ (by omega)) ?_
                  refine w_pc (pc2 := 97) rfl ?_
                  refine lv_l2i hx hb dX3_text_97 rfl (top_i (lN_i _) ?_)
                  refine va_iasb hx hb hK hP hD hS 0 0 rfl rfl (by omega) (by decide) dX3_text_98 (fun H locs hP hD hS => ?_)
                  have hP : va_P (dC, dI) vwCl [(qg, .inl (kg, 96, .inl (nF (un (ofl (pbN y) gv nz k) (nz + k) (pbN y k))))), (o, .inr (3, [.int (nI 0), .int (nI 2), .int (zI og), .ref qx, .ref qk, .ref qw, .ref qb, .ref qn, .long mh, .long ml, .long nc, .int rs, .int (nI na), .ref qd, .int (nI (nz + k)), .ref qg, .long t1, .long t2]))] H := hP
                  have hD : va_D A [(qg, .inl (kg, 96, .inl (nF (un (ofl (pbN y) gv nz k) (nz + k) (pbN y k))))), (o, .inr (3, [.int (nI 0), .int (nI 2), .int (zI og), .ref qx, .ref qk, .ref qw, .ref qb, .ref qn, .long mh, .long ml, .long nc, .int rs, .int (nI na), .ref qd, .int (nI (nz + k)), .ref qg, .long t1, .long t2]))] := hD
                  refine lv_aload_n hx hb dX3_text_99 rfl (lv_at hl 2 rfl) ?_
                  refine va_get (D := (dC, dI)) (ci := 3) (v := .int (zI og)) (C := RX3) (T := TX3) (N := 18) hx hb hta inX3 hown hK hP 1 rfl rfl 2 (by decide) (hta _ mw_459) (fun _ h9 => h9) rfl dX3_text_100 ?_
                  refine lv_if_eq (tgt := 110) hx hb dX3_text_103 (by decide) (fun hc_103 => ?_) (fun hc_103 => ?_)
                  · skip
                    exact absurd (zI0 (b := og) hc_103) (by rw [hog]; decide)
                  · skip
                    refine lv_lconst (v := lN 0) hx hb dX3_text_106 (by decide) ?_
                    refine lv_goto (tgt := 138) hx hb dX3_text_107 (by decide) ?_
                    refine lv_lstore hx hb dX3_text_138 hl (by decide) rfl (fun ls hl => ?_)
                    have hl : lv_has ls 7 [(4, .long (lN 0)), (6, .int (nI k)), (0, .ref o), (1, .long y), (3, .int (nI cn))] := hl
                    refine lv_aload_n hx hb dX3_text_140 rfl (lv_at hl 2 rfl) ?_
                    refine lv_dup hx hb dX3_text_141 rfl ?_
                    refine va_get (D := (dC, dI)) (ci := 3) (v := .int (nI (nz + k))) (C := RX3) (T := TX3) (N := 18) hx hb hta inX3 hown hK hP 1 rfl rfl 14 (by decide) (hta _ mw_471) (fun _ h9 => h9) rfl dX3_text_142 ?_
                    refine lv_iconst (v := nI 1) hx hb dX3_text_145 (by decide) ?_
                    refine lv_iadd hx hb dX3_text_146 (top_i (nI_add _ _) ?_)
                    refine va_put (D := (dC, dI)) (ci := 3) (v := .int (nI ((nz + k) + 1))) (ty := .int) (C := RX3) (T := TX3) (N := 18) hx hb hta inX3 tyX3 tyX3_ok nmX3 hown hK hP hD hS 1 rfl rfl 14 (by decide) (hta _ mw_471) (fun _ h9 => h9) rfl (by decide +kernel) rfl rfl (Nat.le_of_ble_eq_true rfl) dX3_text_147 (fun H locs hP hD hS => ?_)
                    have hP : va_P (dC, dI) vwCl [(qg, .inl (kg, 96, .inl (nF (un (ofl (pbN y) gv nz k) (nz + k) (pbN y k))))), (o, .inr (3, [.int (nI 0), .int (nI 2), .int (zI og), .ref qx, .ref qk, .ref qw, .ref qb, .ref qn, .long mh, .long ml, .long nc, .int rs, .int (nI na), .ref qd, .int (nI ((nz + k) + 1)), .ref qg, .long t1, .long t2]))] H := hP
                    have hD : va_D A [(qg, .inl (kg, 96, .inl (nF (un (ofl (pbN y) gv nz k) (nz + k) (pbN y k))))), (o, .inr (3, [.int (nI 0), .int (nI 2), .int (zI og), .ref qx, .ref qk, .ref qw, .ref qb, .ref qn, .long mh, .long ml, .long nc, .int rs, .int (nI na), .ref qd, .int (nI ((nz + k) + 1)), .ref qg, .long t1, .long t2]))] := hD
                    refine lv_iinc (v := nI (k + 1)) (k := 1) hx hb dX3_text_150 hl rfl (ix_inc _ 1) (by decide) rfl (fun ls hl => ?_)
                    have hl : lv_has ls 7 [(6, .int (nI (k + 1))), (4, .long (lN 0)), (0, .ref o), (1, .long y), (3, .int (nI cn))] := hl
                    refine lv_goto (tgt := 72) hx hb dX3_text_153 (by decide) ?_
                    obtain ⟨hP, hD⟩ := va_recb (g := ofl (pbN y) gv nz (k + 1)) hP hD 0 rfl (fun i _ => ofl_s (pbN y) gv nz k i)
                    have hP : va_P (dC, dI) vwCl [(qg, .inl (kg, 96, .inl (nF (ofl (pbN y) gv nz (k + 1))))), (o, .inr (3, [.int (nI 0), .int (nI 2), .int (zI og), .ref qx, .ref qk, .ref qw, .ref qb, .ref qn, .long mh, .long ml, .long nc, .int rs, .int (nI na), .ref qd, .int (nI ((nz + k) + 1)), .ref qg, .long t1, .long t2]))] H := hP
                    have hD : va_D A [(qg, .inl (kg, 96, .inl (nF (ofl (pbN y) gv nz (k + 1))))), (o, .inr (3, [.int (nI 0), .int (nI 2), .int (zI og), .ref qx, .ref qk, .ref qw, .ref qb, .ref qn, .long mh, .long ml, .long nc, .int rs, .int (nI na), .ref qd, .int (nI ((nz + k) + 1)), .ref qg, .long t1, .long t2]))] := hD
                    exact ih (k + 1) ls H locs (by omega)  (lv_sub hl [1, 0, 2, 3, 4] rfl) hP hD hS
            exact loop_72 cn 0 ls H locs (by omega)  (lv_sub hl [1, 0, 2, 3, 4] rfl) hP hD hS
          · skip
            exact absurd (by decide) hc_56
        · skip
          have hc_45 := (not_congr (ix_le (a := nz + cn) (b := 96) (by omega) (by omega))).mp hc_45
          have hc_45 : ¬ ((nz + cn) ≤ 96) := hc_45
          exfalso; omega
      · skip
        have hc_29 := (not_congr (ix_le (a := cn) (b := 8) (by omega) (by omega))).mp hc_29
        have hc_29 : ¬ (cn ≤ 8) := hc_29
        exfalso; omega
  · skip
    have hc_6 := (not_congr (ix_eq (a := ph) (b := 1) (by omega) (by omega))).mp hc_6
    have hc_6 : ¬ (ph = 1) := hc_6
    refine lv_aload_n hx hb dX3_text_9 rfl (lv_at hl 0 rfl) ?_
    refine va_get (D := (dC, dI)) (ci := 3) (v := .int (nI ph)) (C := RX3) (T := TX3) (N := 18) hx hb hta inX3 hown hK hP 0 rfl rfl 1 (by decide) (hta _ mw_458) (fun _ h9 => h9) rfl dX3_text_10 ?_
    refine lv_iconst (v := nI 2) hx hb dX3_text_13 (by decide) ?_
    refine lv_icmp_eq (tgt := 21) hx hb dX3_text_14 (by decide) (fun hc_14 => ?_) (fun hc_14 => ?_)
    · skip
      have hc_14 := (ix_eq (a := ph) (b := 2) (by omega) (by omega)).mp hc_14
      have hc_14 : (ph = 2) := hc_14
      refine lv_iconst (v := nI 0) hx hb dX3_text_21 (by decide) ?_
      refine lv_iload_n hx hb dX3_text_22 rfl (lv_at hl 2 rfl) ?_
      refine lv_if_lt (tgt := 32) hx hb dX3_text_23 (by decide) (fun hc_23 => ?_) (fun hc_23 => ?_)
      · skip
        have hc_23 := (ix_lt (a := cn) (b := 0) (by omega) (by omega)).mp hc_23
        have hc_23 : (cn < 0) := hc_23
        exfalso; omega
      · skip
        have hc_23 := (not_congr (ix_lt (a := cn) (b := 0) (by omega) (by omega))).mp hc_23
        have hc_23 : ¬ (cn < 0) := hc_23
        refine lv_iload_n hx hb dX3_text_26 rfl (lv_at hl 2 rfl) ?_
        refine lv_bipush (v := nI 8) hx hb dX3_text_27 (by decide) ?_
        refine lv_icmp_le (tgt := 36) hx hb dX3_text_29 (by decide) (fun hc_29 => ?_) (fun hc_29 => ?_)
        · skip
          have hc_29 := (ix_le (a := cn) (b := 8) (by omega) (by omega)).mp hc_29
          have hc_29 : (cn ≤ 8) := hc_29
          refine lv_iconst (v := nI 0) hx hb dX3_text_36 (by decide) ?_
          refine lv_aload_n hx hb dX3_text_37 rfl (lv_at hl 0 rfl) ?_
          refine va_get (D := (dC, dI)) (ci := 3) (v := .int (nI nz)) (C := RX3) (T := TX3) (N := 18) hx hb hta inX3 hown hK hP 0 rfl rfl 14 (by decide) (hta _ mw_471) (fun _ h9 => h9) rfl dX3_text_38 ?_
          refine lv_iload_n hx hb dX3_text_41 rfl (lv_at hl 2 rfl) ?_
          refine lv_iadd hx hb dX3_text_42 (top_i (nI_add _ _) ?_)
          refine lv_bipush (v := nI 96) hx hb dX3_text_43 (by decide) ?_
          refine lv_icmp_le (tgt := 52) hx hb dX3_text_45 (by decide) (fun hc_45 => ?_) (fun hc_45 => ?_)
          · skip
            have hc_45 := (ix_le (a := nz + cn) (b := 96) (by omega) (by omega)).mp hc_45
            have hc_45 : ((nz + cn) ≤ 96) := hc_45
            refine lv_iconst (v := nI 0) hx hb dX3_text_52 (by decide) ?_
            refine cf_1 (wr := [(qg, .inl (kg, 96, .inl (nF gv)))]) (va_runV (As := [.int (nI 0), .int (nI 0), .int (nI 0)]) (rest := []) ⟨hx, hb, hml, hown, hta⟩ (MO.to (m_refuses l dC dI o th ph og qx qk qw qb qn mh ml nc rs na qd nz qg t1 t2 false false false) H.size) (cwV 3 hta (aw_V mw_527 mw_524 mw_526 mw_s21 mw_5) rfl rfl rfl ⟨rfl, dyX3_refuses⟩ ⟨(Nat.le_of_ble_eq_true rfl), (Nat.le_of_ble_eq_true rfl)⟩) (pr_V hP hD hK hE [0] [] (by decide) rfl rfl rfl rfl) rfl rfl hl.1 rfl (lv_room (Nat.le_of_ble_eq_true rfl)) dX3_text_53 ⟨(Nat.le_of_ble_eq_true rfl), (Nat.le_of_ble_eq_true rfl)⟩) hP hD hS hA [0] [1] rfl rfl (by decide) (by decide) (fun H locs hP hD hS => ?_)
            have hP : va_P (dC, dI) vwCl [(qg, .inl (kg, 96, .inl (nF gv))), (o, .inr (3, [.int (rfN false false false), .int (nI ph), .int (zI og), .ref qx, .ref qk, .ref qw, .ref qb, .ref qn, .long mh, .long ml, .long nc, .int rs, .int (nI na), .ref qd, .int (nI nz), .ref qg, .long t1, .long t2]))] H := hP
            have hD : va_D A [(qg, .inl (kg, 96, .inl (nF gv))), (o, .inr (3, [.int (rfN false false false), .int (nI ph), .int (zI og), .ref qx, .ref qk, .ref qw, .ref qb, .ref qn, .long mh, .long ml, .long nc, .int rs, .int (nI na), .ref qd, .int (nI nz), .ref qg, .long t1, .long t2]))] := hD
            refine W.widen (k := 0) (n := 0) (Nat.le_of_ble_eq_true rfl) (Nat.le_of_ble_eq_true rfl) ?_
            have e9 : rfN false false false = nI 0 := rfl
            have hP : va_P (dC, dI) vwCl [(qg, .inl (kg, 96, .inl (nF gv))), (o, .inr (3, [.int (nI 0), .int (nI ph), .int (zI og), .ref qx, .ref qk, .ref qw, .ref qb, .ref qn, .long mh, .long ml, .long nc, .int rs, .int (nI na), .ref qd, .int (nI nz), .ref qg, .long t1, .long t2]))] H := by rw [← e9]; exact hP
            have hD : va_D A [(qg, .inl (kg, 96, .inl (nF gv))), (o, .inr (3, [.int (nI 0), .int (nI ph), .int (zI og), .ref qx, .ref qk, .ref qw, .ref qb, .ref qn, .long mh, .long ml, .long nc, .int rs, .int (nI na), .ref qd, .int (nI nz), .ref qg, .long t1, .long t2]))] := by rw [← e9]; exact hD
            refine w_pc (pc2 := 56) rfl ?_
            refine lv_if_eq (tgt := 61) hx hb dX3_text_56 (by decide) (fun hc_56 => ?_) (fun hc_56 => ?_)
            · skip
              refine lv_aload_n hx hb dX3_text_61 rfl (lv_at hl 0 rfl) ?_
              refine lv_iconst (v := nI 2) hx hb dX3_text_62 (by decide) ?_
              refine va_put (D := (dC, dI)) (ci := 3) (v := .int (nI 2)) (ty := .int) (C := RX3) (T := TX3) (N := 18) hx hb hta inX3 tyX3 tyX3_ok nmX3 hown hK hP hD hS 1 rfl rfl 1 (by decide) (hta _ mw_458) (fun _ h9 => h9) rfl (by decide +kernel) rfl rfl (Nat.le_of_ble_eq_true rfl) dX3_text_63 (fun H locs hP hD hS => ?_)
              have hP : va_P (dC, dI) vwCl [(qg, .inl (kg, 96, .inl (nF gv))), (o, .inr (3, [.int (nI 0), .int (nI 2), .int (zI og), .ref qx, .ref qk, .ref qw, .ref qb, .ref qn, .long mh, .long ml, .long nc, .int rs, .int (nI na), .ref qd, .int (nI nz), .ref qg, .long t1, .long t2]))] H := hP
              have hD : va_D A [(qg, .inl (kg, 96, .inl (nF gv))), (o, .inr (3, [.int (nI 0), .int (nI 2), .int (zI og), .ref qx, .ref qk, .ref qw, .ref qb, .ref qn, .long mh, .long ml, .long nc, .int rs, .int (nI na), .ref qd, .int (nI nz), .ref qg, .long t1, .long t2]))] := hD
              refine lv_lconst (v := lN 0) hx hb dX3_text_66 (by decide) ?_
              refine lv_lstore hx hb dX3_text_67 hl (by decide) rfl (fun ls hl => ?_)
              have hl : lv_has ls 7 [(4, .long (lN 0)), (0, .ref o), (1, .long y), (3, .int (nI cn))] := hl
              refine lv_iconst (v := nI 0) hx hb dX3_text_69 (by decide) ?_
              refine lv_istore hx hb dX3_text_70 hl (by decide) rfl (fun ls hl => ?_)
              have hl : lv_has ls 7 [(6, .int (nI 0)), (4, .long (lN 0)), (0, .ref o), (1, .long y), (3, .int (nI cn))] := hl
              obtain ⟨hP, hD⟩ := va_recb (g := ofl (pbN y) gv nz 0) hP hD 0 rfl (fun i _ => ofl_0 _ gv nz i)
              have hP : va_P (dC, dI) vwCl [(qg, .inl (kg, 96, .inl (nF (ofl (pbN y) gv nz 0)))), (o, .inr (3, [.int (nI 0), .int (nI 2), .int (zI og), .ref qx, .ref qk, .ref qw, .ref qb, .ref qn, .long mh, .long ml, .long nc, .int rs, .int (nI na), .ref qd, .int (nI nz), .ref qg, .long t1, .long t2]))] H := hP
              have hD : va_D A [(qg, .inl (kg, 96, .inl (nF (ofl (pbN y) gv nz 0)))), (o, .inr (3, [.int (nI 0), .int (nI 2), .int (zI og), .ref qx, .ref qk, .ref qw, .ref qb, .ref qn, .long mh, .long ml, .long nc, .int rs, .int (nI na), .ref qd, .int (nI nz), .ref qg, .long t1, .long t2]))] := hD
              have loop_72 : ∀ (n k : Nat) (ls : Array Slot) (H : Heap) (locs : List Loc), k + n = cn → lv_has ls 7 [(4, .long (lN 0)), (6, .int (nI k)), (0, .ref o), (1, .long y), (3, .int (nI cn))] → va_P (dC, dI) vwCl [(qg, .inl (kg, 96, .inl (nF (ofl (pbN y) gv nz k)))), (o, .inr (3, [.int (nI 0), .int (nI 2), .int (zI og), .ref qx, .ref qk, .ref qw, .ref qb, .ref qn, .long mh, .long ml, .long nc, .int rs, .int (nI na), .ref qd, .int (nI (nz + k)), .ref qg, .long t1, .long t2]))] H → va_D A [(qg, .inl (kg, 96, .inl (nF (ofl (pbN y) gv nz k)))), (o, .inr (3, [.int (nI 0), .int (nI 2), .int (zI og), .ref qx, .ref qk, .ref qw, .ref qb, .ref qn, .long mh, .long ml, .long nc, .int rs, .int (nI na), .ref qd, .int (nI (nz + k)), .ref qg, .long t1, .long t2]))] → va_S A s.heap H locs → W p l e rm_m_text_s s m args below meth c H locs 0 0 Q (F0 m 72 ls []) := by
                intro n
                induction n with
                | zero =>
                  intro k ls H locs hn_72  hl hP hD hS
                  obtain rfl : cn = k := by omega
                  refine lv_iload hx hb dX3_text_72 (lv_at hl 1 rfl) ?_
                  refine lv_iload_n hx hb dX3_text_74 rfl (lv_at hl 4 rfl) ?_
                  refine lv_icmp_ge (tgt := 156) hx hb dX3_text_75 (by decide) (fun hc_75 => ?_) (fun hc_75 => ?_)
                  · skip
                    have hc_75 := (ix_le (a := cn) (b := cn) (by omega) (by omega)).mp hc_75
                    have hc_75 : (cn ≤ cn) := hc_75
                    refine lv_lload hx hb dX3_text_156 (lv_at hl 0 rfl) ?_
                    exact rt_l hx hb hr hlk hQ hAe hP hD hS [1, 0] (by decide) rfl (Nat.le_of_ble_eq_true rfl) (Nat.le_of_ble_eq_true rfl) (rfl) dX3_text_158
                  · skip
                    have hc_75 := (not_congr (ix_le (a := cn) (b := cn) (by omega) (by omega))).mp hc_75
                    have hc_75 : ¬ (cn ≤ cn) := hc_75
                    exfalso; omega
                | succ n ih =>
                  intro k ls H locs hn_72  hl hP hD hS
                  refine lv_iload hx hb dX3_text_72 (lv_at hl 1 rfl) ?_
                  refine lv_iload_n hx hb dX3_text_74 rfl (lv_at hl 4 rfl) ?_
                  refine lv_icmp_ge (tgt := 156) hx hb dX3_text_75 (by decide) (fun hc_75 => ?_) (fun hc_75 => ?_)
                  · skip
                    have hc_75 := (ix_le (a := cn) (b := k) (by omega) (by omega)).mp hc_75
                    have hc_75 : (cn ≤ k) := hc_75
                    exfalso; omega
                  · skip
                    have hc_75 := (not_congr (ix_le (a := cn) (b := k) (by omega) (by omega))).mp hc_75
                    have hc_75 : ¬ (cn ≤ k) := hc_75
                    refine lv_aload_n hx hb dX3_text_78 rfl (lv_at hl 2 rfl) ?_
                    refine va_get (D := (dC, dI)) (ci := 3) (v := .ref qg) (C := RX3) (T := TX3) (N := 18) hx hb hta inX3 hown hK hP 1 rfl rfl 15 (by decide) (hta _ mw_472) (fun _ h9 => h9) rfl dX3_text_79 ?_
                    refine lv_aload_n hx hb dX3_text_82 rfl (lv_at hl 2 rfl) ?_
                    refine va_get (D := (dC, dI)) (ci := 3) (v := .int (nI (nz + k))) (C := RX3) (T := TX3) (N := 18) hx hb hta inX3 hown hK hP 1 rfl rfl 14 (by decide) (hta _ mw_471) (fun _ h9 => h9) rfl dX3_text_83 ?_
                    refine lv_lload_n hx hb dX3_text_86 rfl (lv_at hl 3 rfl) ?_
                    refine lv_bipush (v := nI 8) hx hb dX3_text_87 (by decide) ?_
                    refine lv_iload hx hb dX3_text_89 (lv_at hl 1 rfl) ?_
                    refine lv_imul hx hb dX3_text_91 (top_i (pk_mul _ _) ?_)
                    refine lv_lshr hx hb dX3_text_92 rfl ?_
                    refine lv_ldc2 (v := 255) hx hb hown (hta _ mw_536) dX3_text_93 ?_
                    refine top_l (y := lN 255) (by decide) ?_
                    refine lv_land hx hb dX3_text_96 ?_
                    refine top_l (y := lN (pbN y k)) (l_sb _ (by omega)) ?_
                    refine w_pc (pc2 := 97) rfl ?_
                    refine lv_l2i hx hb dX3_text_97 rfl (top_i (lN_i _) ?_)
                    refine va_iasb hx hb hK hP hD hS 0 0 rfl rfl (by omega) (by decide) dX3_text_98 (fun H locs hP hD hS => ?_)
                    have hP : va_P (dC, dI) vwCl [(qg, .inl (kg, 96, .inl (nF (un (ofl (pbN y) gv nz k) (nz + k) (pbN y k))))), (o, .inr (3, [.int (nI 0), .int (nI 2), .int (zI og), .ref qx, .ref qk, .ref qw, .ref qb, .ref qn, .long mh, .long ml, .long nc, .int rs, .int (nI na), .ref qd, .int (nI (nz + k)), .ref qg, .long t1, .long t2]))] H := hP
                    have hD : va_D A [(qg, .inl (kg, 96, .inl (nF (un (ofl (pbN y) gv nz k) (nz + k) (pbN y k))))), (o, .inr (3, [.int (nI 0), .int (nI 2), .int (zI og), .ref qx, .ref qk, .ref qw, .ref qb, .ref qn, .long mh, .long ml, .long nc, .int rs, .int (nI na), .ref qd, .int (nI (nz + k)), .ref qg, .long t1, .long t2]))] := hD
                    refine lv_aload_n hx hb dX3_text_99 rfl (lv_at hl 2 rfl) ?_
                    refine va_get (D := (dC, dI)) (ci := 3) (v := .int (zI og)) (C := RX3) (T := TX3) (N := 18) hx hb hta inX3 hown hK hP 1 rfl rfl 2 (by decide) (hta _ mw_459) (fun _ h9 => h9) rfl dX3_text_100 ?_
                    refine lv_if_eq (tgt := 110) hx hb dX3_text_103 (by decide) (fun hc_103 => ?_) (fun hc_103 => ?_)
                    · skip
                      exact absurd (zI0 (b := og) hc_103) (by rw [hog]; decide)
                    · skip
                      refine lv_lconst (v := lN 0) hx hb dX3_text_106 (by decide) ?_
                      refine lv_goto (tgt := 138) hx hb dX3_text_107 (by decide) ?_
                      refine lv_lstore hx hb dX3_text_138 hl (by decide) rfl (fun ls hl => ?_)
                      have hl : lv_has ls 7 [(4, .long (lN 0)), (6, .int (nI k)), (0, .ref o), (1, .long y), (3, .int (nI cn))] := hl
                      refine lv_aload_n hx hb dX3_text_140 rfl (lv_at hl 2 rfl) ?_
                      refine lv_dup hx hb dX3_text_141 rfl ?_
                      refine va_get (D := (dC, dI)) (ci := 3) (v := .int (nI (nz + k))) (C := RX3) (T := TX3) (N := 18) hx hb hta inX3 hown hK hP 1 rfl rfl 14 (by decide) (hta _ mw_471) (fun _ h9 => h9) rfl dX3_text_142 ?_
                      refine lv_iconst (v := nI 1) hx hb dX3_text_145 (by decide) ?_
                      refine lv_iadd hx hb dX3_text_146 (top_i (nI_add _ _) ?_)
                      refine va_put (D := (dC, dI)) (ci := 3) (v := .int (nI ((nz + k) + 1))) (ty := .int) (C := RX3) (T := TX3) (N := 18) hx hb hta inX3 tyX3 tyX3_ok nmX3 hown hK hP hD hS 1 rfl rfl 14 (by decide) (hta _ mw_471) (fun _ h9 => h9) rfl (by decide +kernel) rfl rfl (Nat.le_of_ble_eq_true rfl) dX3_text_147 (fun H locs hP hD hS => ?_)
                      have hP : va_P (dC, dI) vwCl [(qg, .inl (kg, 96, .inl (nF (un (ofl (pbN y) gv nz k) (nz + k) (pbN y k))))), (o, .inr (3, [.int (nI 0), .int (nI 2), .int (zI og), .ref qx, .ref qk, .ref qw, .ref qb, .ref qn, .long mh, .long ml, .long nc, .int rs, .int (nI na), .ref qd, .int (nI ((nz + k) + 1)), .ref qg, .long t1, .long t2]))] H := hP
                      have hD : va_D A [(qg, .inl (kg, 96, .inl (nF (un (ofl (pbN y) gv nz k) (nz + k) (pbN y k))))), (o, .inr (3, [.int (nI 0), .int (nI 2), .int (zI og), .ref qx, .ref qk, .ref qw, .ref qb, .ref qn, .long mh, .long ml, .long nc, .int rs, .int (nI na), .ref qd, .int (nI ((nz + k) + 1)), .ref qg, .long t1, .long t2]))] := hD
                      refine lv_iinc (v := nI (k + 1)) (k := 1) hx hb dX3_text_150 hl rfl (ix_inc _ 1) (by decide) rfl (fun ls hl => ?_)
                      have hl : lv_has ls 7 [(6, .int (nI (k + 1))), (4, .long (lN 0)), (0, .ref o), (1, .long y), (3, .int (nI cn))] := hl
                      refine lv_goto (tgt := 72) hx hb dX3_text_153 (by decide) ?_
                      obtain ⟨hP, hD⟩ := va_recb (g := ofl (pbN y) gv nz (k + 1)) hP hD 0 rfl (fun i _ => ofl_s (pbN y) gv nz k i)
                      have hP : va_P (dC, dI) vwCl [(qg, .inl (kg, 96, .inl (nF (ofl (pbN y) gv nz (k + 1))))), (o, .inr (3, [.int (nI 0), .int (nI 2), .int (zI og), .ref qx, .ref qk, .ref qw, .ref qb, .ref qn, .long mh, .long ml, .long nc, .int rs, .int (nI na), .ref qd, .int (nI ((nz + k) + 1)), .ref qg, .long t1, .long t2]))] H := hP
                      have hD : va_D A [(qg, .inl (kg, 96, .inl (nF (ofl (pbN y) gv nz (k + 1))))), (o, .inr (3, [.int (nI 0), .int (nI 2), .int (zI og), .ref qx, .ref qk, .ref qw, .ref qb, .ref qn, .long mh, .long ml, .long nc, .int rs, .int (nI na), .ref qd, .int (nI ((nz + k) + 1)), .ref qg, .long t1, .long t2]))] := hD
                      exact ih (k + 1) ls H locs (by omega)  (lv_sub hl [1, 0, 2, 3, 4] rfl) hP hD hS
              exact loop_72 cn 0 ls H locs (by omega)  (lv_sub hl [1, 0, 2, 3, 4] rfl) hP hD hS
            · skip
              exact absurd (by decide) hc_56
          · skip
            have hc_45 := (not_congr (ix_le (a := nz + cn) (b := 96) (by omega) (by omega))).mp hc_45
            have hc_45 : ¬ ((nz + cn) ≤ 96) := hc_45
            exfalso; omega
        · skip
          have hc_29 := (not_congr (ix_le (a := cn) (b := 8) (by omega) (by omega))).mp hc_29
          have hc_29 : ¬ (cn ≤ 8) := hc_29
          exfalso; omega
    · skip
      have hc_14 := (not_congr (ix_eq (a := ph) (b := 2) (by omega) (by omega))).mp hc_14
      have hc_14 : ¬ (ph = 2) := hc_14
      exfalso; omega

def rm_m_text_p : Room := { frames := 5, cells := 0, slots := 0, locals := 114 }
set_option maxHeartbeats 4000000 in
set_option maxRecDepth 100000 in
/-- text, sealing -/
theorem m_text_p (l : Launch) (dC : Nat → ClassId) (dI : Nat → Nat → Nat) (o : Nat) (th : Int32) (ph : Nat) (og : Bool) (qx : Nat) (qk : Nat) (qw : Nat) (qb : Nat) (qn : Nat) (mh : Int64) (ml : Int64) (nc : Int64) (rs : Int32) (na : Nat) (qd : Nat) (nz : Nat) (qg : Nat) (t1 : Int64) (t2 : Int64) (kx : ClassId) (kw : ClassId) (kb : ClassId) (kn : ClassId) (kg : ClassId) (sb : Nat → Nat) (w : Nat → Int32) (b : Nat → Nat) (z : Nat → Nat) (gv : Nat → Nat) (y : Int64) (cn : Nat) (s256 : ∀ i, sb i < 256) (huw : ph = 1 ∨ ph = 2) (hog : og = false) (hcn : cn ≤ 8) (hnz : nz + cn ≤ 96) : MX l dC dI yX3_text wsX3_text rm_m_text_p [.ref o, .long y, .int (nI cn)] [(o, .inr (3, [.int th, .int (nI ph), .int (zI og), .ref qx, .ref qk, .ref qw, .ref qb, .ref qn, .long mh, .long ml, .long nc, .int rs, .int (nI na), .ref qd, .int (nI nz), .ref qg, .long t1, .long t2])), (qx, .inl (kx, 256, .inl (nF sb))), (qw, .inl (kw, 44, .inl w)), (qb, .inl (kb, 16, .inl (nF b))), (qn, .inl (kn, 16, .inl (nF z))), (qg, .inl (kg, 96, .inl (nF gv)))] [(kx, .int), (kw, .int), (kb, .int), (kn, .int), (kg, .int)] (fun ((b1, z1) : (Nat → Nat) × (Nat → Nat)) => [(o, .inr (3, [.int (nI 0), .int (nI 2), .int (zI og), .ref qx, .ref qk, .ref qw, .ref qb, .ref qn, .long mh, .long ml, .long nc, .int rs, .int (nI na), .ref qd, .int (nI (nz + cn)), .ref qg, .long t1, .long t2])), (qx, .inl (kx, 256, .inl (nF sb))), (qw, .inl (kw, 44, .inl w)), (qb, .inl (kb, 16, .inl (nF b1))), (qn, .inl (kn, 16, .inl (nF z1))), (qg, .inl (kg, 96, .inl (nF (ofl (pbN y) gv nz cn))))]) (fun ((b1, z1) : (Nat → Nat) × (Nat → Nat)) => []) (fun _ => True) (fun ((b1, z1) : (Nat → Nat) × (Nat → Nat)) => (some (.long (lN (slN (tpg sb w nc rs y nz) cn))))) := by
  refine mx_ofW (cc := cX3_text) (maxL := 7) (ret := (some .long)) (by decide) rfl (Nat.le_of_ble_eq_true rfl) ?_
  intro p e s m args below meth c Q A H locs ls hx hb hr hlk hml hta hown hin hE hQ hAe hA hK hP hD hS hl
  have hown : s.vm.findClass RX3 = some m.cls := hown
  have hl : lv_has ls 7 [(0, .ref o), (1, .long y), (3, .int (nI cn))] := hl
  refine lv_aload_n hx hb dX3_text_0 rfl (lv_at hl 0 rfl) ?_
  refine lv_aload_n hx hb dX3_text_1 rfl (lv_at hl 0 rfl) ?_
  refine va_get (D := (dC, dI)) (ci := 3) (v := .int (nI ph)) (C := RX3) (T := TX3) (N := 18) hx hb hta inX3 hown hK hP 0 rfl rfl 1 (by decide) (hta _ mw_458) (fun _ h9 => h9) rfl dX3_text_2 ?_
  refine lv_iconst (v := nI 1) hx hb dX3_text_5 (by decide) ?_
  refine lv_icmp_eq (tgt := 21) hx hb dX3_text_6 (by decide) (fun hc_6 => ?_) (fun hc_6 => ?_)
  · skip
    have hc_6 := (ix_eq (a := ph) (b := 1) (by omega) (by omega)).mp hc_6
    have hc_6 : (ph = 1) := hc_6
    refine lv_iconst (v := nI 0) hx hb dX3_text_21 (by decide) ?_
    refine lv_iload_n hx hb dX3_text_22 rfl (lv_at hl 2 rfl) ?_
    refine lv_if_lt (tgt := 32) hx hb dX3_text_23 (by decide) (fun hc_23 => ?_) (fun hc_23 => ?_)
    · skip
      have hc_23 := (ix_lt (a := cn) (b := 0) (by omega) (by omega)).mp hc_23
      have hc_23 : (cn < 0) := hc_23
      exfalso; omega
    · skip
      have hc_23 := (not_congr (ix_lt (a := cn) (b := 0) (by omega) (by omega))).mp hc_23
      have hc_23 : ¬ (cn < 0) := hc_23
      refine lv_iload_n hx hb dX3_text_26 rfl (lv_at hl 2 rfl) ?_
      refine lv_bipush (v := nI 8) hx hb dX3_text_27 (by decide) ?_
      refine lv_icmp_le (tgt := 36) hx hb dX3_text_29 (by decide) (fun hc_29 => ?_) (fun hc_29 => ?_)
      · skip
        have hc_29 := (ix_le (a := cn) (b := 8) (by omega) (by omega)).mp hc_29
        have hc_29 : (cn ≤ 8) := hc_29
        refine lv_iconst (v := nI 0) hx hb dX3_text_36 (by decide) ?_
        refine lv_aload_n hx hb dX3_text_37 rfl (lv_at hl 0 rfl) ?_
        refine va_get (D := (dC, dI)) (ci := 3) (v := .int (nI nz)) (C := RX3) (T := TX3) (N := 18) hx hb hta inX3 hown hK hP 0 rfl rfl 14 (by decide) (hta _ mw_471) (fun _ h9 => h9) rfl dX3_text_38 ?_
        refine lv_iload_n hx hb dX3_text_41 rfl (lv_at hl 2 rfl) ?_
        refine lv_iadd hx hb dX3_text_42 (top_i (nI_add _ _) ?_)
        refine lv_bipush (v := nI 96) hx hb dX3_text_43 (by decide) ?_
        refine lv_icmp_le (tgt := 52) hx hb dX3_text_45 (by decide) (fun hc_45 => ?_) (fun hc_45 => ?_)
        · skip
          have hc_45 := (ix_le (a := nz + cn) (b := 96) (by omega) (by omega)).mp hc_45
          have hc_45 : ((nz + cn) ≤ 96) := hc_45
          refine lv_iconst (v := nI 0) hx hb dX3_text_52 (by decide) ?_
          refine cf_1 (wr := [(qx, .inl (kx, 256, .inl (nF sb))), (qw, .inl (kw, 44, .inl w)), (qb, .inl (kb, 16, .inl (nF b))), (qn, .inl (kn, 16, .inl (nF z))), (qg, .inl (kg, 96, .inl (nF gv)))]) (va_runV (As := [.int (nI 0), .int (nI 0), .int (nI 0)]) (rest := []) ⟨hx, hb, hml, hown, hta⟩ (MO.to (m_refuses l dC dI o th ph og qx qk qw qb qn mh ml nc rs na qd nz qg t1 t2 false false false) H.size) (cwV 3 hta (aw_V mw_527 mw_524 mw_526 mw_s21 mw_5) rfl rfl rfl ⟨rfl, dyX3_refuses⟩ ⟨(Nat.le_of_ble_eq_true rfl), (Nat.le_of_ble_eq_true rfl)⟩) (pr_V hP hD hK hE [0] [] (by decide) rfl rfl rfl rfl) rfl rfl hl.1 rfl (lv_room (Nat.le_of_ble_eq_true rfl)) dX3_text_53 ⟨(Nat.le_of_ble_eq_true rfl), (Nat.le_of_ble_eq_true rfl)⟩) hP hD hS hA [0] [1, 2, 3, 4, 5] rfl rfl (by decide) (by decide) (fun H locs hP hD hS => ?_)
          have hP : va_P (dC, dI) vwCl [(qx, .inl (kx, 256, .inl (nF sb))), (qw, .inl (kw, 44, .inl w)), (qb, .inl (kb, 16, .inl (nF b))), (qn, .inl (kn, 16, .inl (nF z))), (qg, .inl (kg, 96, .inl (nF gv))), (o, .inr (3, [.int (rfN false false false), .int (nI ph), .int (zI og), .ref qx, .ref qk, .ref qw, .ref qb, .ref qn, .long mh, .long ml, .long nc, .int rs, .int (nI na), .ref qd, .int (nI nz), .ref qg, .long t1, .long t2]))] H := hP
          have hD : va_D A [(qx, .inl (kx, 256, .inl (nF sb))), (qw, .inl (kw, 44, .inl w)), (qb, .inl (kb, 16, .inl (nF b))), (qn, .inl (kn, 16, .inl (nF z))), (qg, .inl (kg, 96, .inl (nF gv))), (o, .inr (3, [.int (rfN false false false), .int (nI ph), .int (zI og), .ref qx, .ref qk, .ref qw, .ref qb, .ref qn, .long mh, .long ml, .long nc, .int rs, .int (nI na), .ref qd, .int (nI nz), .ref qg, .long t1, .long t2]))] := hD
          refine W.widen (k := 0) (n := 0) (Nat.le_of_ble_eq_true rfl) (Nat.le_of_ble_eq_true rfl) ?_
          have e9 : rfN false false false = nI 0 := rfl
          have hP : va_P (dC, dI) vwCl [(qx, .inl (kx, 256, .inl (nF sb))), (qw, .inl (kw, 44, .inl w)), (qb, .inl (kb, 16, .inl (nF b))), (qn, .inl (kn, 16, .inl (nF z))), (qg, .inl (kg, 96, .inl (nF gv))), (o, .inr (3, [.int (nI 0), .int (nI ph), .int (zI og), .ref qx, .ref qk, .ref qw, .ref qb, .ref qn, .long mh, .long ml, .long nc, .int rs, .int (nI na), .ref qd, .int (nI nz), .ref qg, .long t1, .long t2]))] H := by rw [← e9]; exact hP
          have hD : va_D A [(qx, .inl (kx, 256, .inl (nF sb))), (qw, .inl (kw, 44, .inl w)), (qb, .inl (kb, 16, .inl (nF b))), (qn, .inl (kn, 16, .inl (nF z))), (qg, .inl (kg, 96, .inl (nF gv))), (o, .inr (3, [.int (nI 0), .int (nI ph), .int (zI og), .ref qx, .ref qk, .ref qw, .ref qb, .ref qn, .long mh, .long ml, .long nc, .int rs, .int (nI na), .ref qd, .int (nI nz), .ref qg, .long t1, .long t2]))] := by rw [← e9]; exact hD
          refine w_pc (pc2 := 56) rfl ?_
          refine lv_if_eq (tgt := 61) hx hb dX3_text_56 (by decide) (fun hc_56 => ?_) (fun hc_56 => ?_)
          · skip
            refine lv_aload_n hx hb dX3_text_61 rfl (lv_at hl 0 rfl) ?_
            refine lv_iconst (v := nI 2) hx hb dX3_text_62 (by decide) ?_
            refine va_put (D := (dC, dI)) (ci := 3) (v := .int (nI 2)) (ty := .int) (C := RX3) (T := TX3) (N := 18) hx hb hta inX3 tyX3 tyX3_ok nmX3 hown hK hP hD hS 5 rfl rfl 1 (by decide) (hta _ mw_458) (fun _ h9 => h9) rfl (by decide +kernel) rfl rfl (Nat.le_of_ble_eq_true rfl) dX3_text_63 (fun H locs hP hD hS => ?_)
            have hP : va_P (dC, dI) vwCl [(qx, .inl (kx, 256, .inl (nF sb))), (qw, .inl (kw, 44, .inl w)), (qb, .inl (kb, 16, .inl (nF b))), (qn, .inl (kn, 16, .inl (nF z))), (qg, .inl (kg, 96, .inl (nF gv))), (o, .inr (3, [.int (nI 0), .int (nI 2), .int (zI og), .ref qx, .ref qk, .ref qw, .ref qb, .ref qn, .long mh, .long ml, .long nc, .int rs, .int (nI na), .ref qd, .int (nI nz), .ref qg, .long t1, .long t2]))] H := hP
            have hD : va_D A [(qx, .inl (kx, 256, .inl (nF sb))), (qw, .inl (kw, 44, .inl w)), (qb, .inl (kb, 16, .inl (nF b))), (qn, .inl (kn, 16, .inl (nF z))), (qg, .inl (kg, 96, .inl (nF gv))), (o, .inr (3, [.int (nI 0), .int (nI 2), .int (zI og), .ref qx, .ref qk, .ref qw, .ref qb, .ref qn, .long mh, .long ml, .long nc, .int rs, .int (nI na), .ref qd, .int (nI nz), .ref qg, .long t1, .long t2]))] := hD
            refine lv_lconst (v := lN 0) hx hb dX3_text_66 (by decide) ?_
            refine lv_lstore hx hb dX3_text_67 hl (by decide) rfl (fun ls hl => ?_)
            have hl : lv_has ls 7 [(4, .long (lN 0)), (0, .ref o), (1, .long y), (3, .int (nI cn))] := hl
            refine lv_iconst (v := nI 0) hx hb dX3_text_69 (by decide) ?_
            refine lv_istore hx hb dX3_text_70 hl (by decide) rfl (fun ls hl => ?_)
            have hl : lv_has ls 7 [(6, .int (nI 0)), (4, .long (lN 0)), (0, .ref o), (1, .long y), (3, .int (nI cn))] := hl
            obtain ⟨hP, hD⟩ := va_recb (g := ofl (pbN y) gv nz 0) hP hD 4 rfl (fun i _ => ofl_0 _ gv nz i)
            have hP : va_P (dC, dI) vwCl [(qx, .inl (kx, 256, .inl (nF sb))), (qw, .inl (kw, 44, .inl w)), (qb, .inl (kb, 16, .inl (nF b))), (qn, .inl (kn, 16, .inl (nF z))), (qg, .inl (kg, 96, .inl (nF (ofl (pbN y) gv nz 0)))), (o, .inr (3, [.int (nI 0), .int (nI 2), .int (zI og), .ref qx, .ref qk, .ref qw, .ref qb, .ref qn, .long mh, .long ml, .long nc, .int rs, .int (nI na), .ref qd, .int (nI nz), .ref qg, .long t1, .long t2]))] H := hP
            have hD : va_D A [(qx, .inl (kx, 256, .inl (nF sb))), (qw, .inl (kw, 44, .inl w)), (qb, .inl (kb, 16, .inl (nF b))), (qn, .inl (kn, 16, .inl (nF z))), (qg, .inl (kg, 96, .inl (nF (ofl (pbN y) gv nz 0)))), (o, .inr (3, [.int (nI 0), .int (nI 2), .int (zI og), .ref qx, .ref qk, .ref qw, .ref qb, .ref qn, .long mh, .long ml, .long nc, .int rs, .int (nI na), .ref qd, .int (nI nz), .ref qg, .long t1, .long t2]))] := hD
            have loop_72 : ∀ (n k : Nat) (b9 : Nat → Nat) (z9 : Nat → Nat) (ls : Array Slot) (H : Heap) (locs : List Loc), k + n = cn → lv_has ls 7 [(4, .long (lN (slN (tpg sb w nc rs y nz) k))), (6, .int (nI k)), (0, .ref o), (1, .long y), (3, .int (nI cn))] → va_P (dC, dI) vwCl [(qx, .inl (kx, 256, .inl (nF sb))), (qw, .inl (kw, 44, .inl w)), (qb, .inl (kb, 16, .inl (nF b9))), (qn, .inl (kn, 16, .inl (nF z9))), (qg, .inl (kg, 96, .inl (nF (ofl (pbN y) gv nz k)))), (o, .inr (3, [.int (nI 0), .int (nI 2), .int (zI og), .ref qx, .ref qk, .ref qw, .ref qb, .ref qn, .long mh, .long ml, .long nc, .int rs, .int (nI na), .ref qd, .int (nI (nz + k)), .ref qg, .long t1, .long t2]))] H → va_D A [(qx, .inl (kx, 256, .inl (nF sb))), (qw, .inl (kw, 44, .inl w)), (qb, .inl (kb, 16, .inl (nF b9))), (qn, .inl (kn, 16, .inl (nF z9))), (qg, .inl (kg, 96, .inl (nF (ofl (pbN y) gv nz k)))), (o, .inr (3, [.int (nI 0), .int (nI 2), .int (zI og), .ref qx, .ref qk, .ref qw, .ref qb, .ref qn, .long mh, .long ml, .long nc, .int rs, .int (nI na), .ref qd, .int (nI (nz + k)), .ref qg, .long t1, .long t2]))] → va_S A s.heap H locs → W p l e rm_m_text_p s m args below meth c H locs 0 0 Q (F0 m 72 ls []) := by
              intro n
              induction n with
              | zero =>
                intro k b9 z9 ls H locs hn_72  hl hP hD hS
                obtain rfl : cn = k := by omega
                refine lv_iload hx hb dX3_text_72 (lv_at hl 1 rfl) ?_
                refine lv_iload_n hx hb dX3_text_74 rfl (lv_at hl 4 rfl) ?_
                refine lv_icmp_ge (tgt := 156) hx hb dX3_text_75 (by decide) (fun hc_75 => ?_) (fun hc_75 => ?_)
                · skip
                  have hc_75 := (ix_le (a := cn) (b := cn) (by omega) (by omega)).mp hc_75
                  have hc_75 : (cn ≤ cn) := hc_75
                  refine lv_lload hx hb dX3_text_156 (lv_at hl 0 rfl) ?_
                  exact rx_l (b9, z9) trivial hx hb hr hlk hQ hAe hK hP hD hS [5, 0, 1, 2, 3, 4] [] (by decide) rfl rfl (Nat.le_of_ble_eq_true rfl) (Nat.le_of_ble_eq_true rfl) (rfl) dX3_text_158
                · skip
                  have hc_75 := (not_congr (ix_le (a := cn) (b := cn) (by omega) (by omega))).mp hc_75
                  have hc_75 : ¬ (cn ≤ cn) := hc_75
                  exfalso; omega
              | succ n ih =>
                intro k b9 z9 ls H locs hn_72  hl hP hD hS
                refine lv_iload hx hb dX3_text_72 (lv_at hl 1 rfl) ?_
                refine lv_iload_n hx hb dX3_text_74 rfl (lv_at hl 4 rfl) ?_
                refine lv_icmp_ge (tgt := 156) hx hb dX3_text_75 (by decide) (fun hc_75 => ?_) (fun hc_75 => ?_)
                · skip
                  have hc_75 := (ix_le (a := cn) (b := k) (by omega) (by omega)).mp hc_75
                  have hc_75 : (cn ≤ k) := hc_75
                  exfalso; omega
                · skip
                  have hc_75 := (not_congr (ix_le (a := cn) (b := k) (by omega) (by omega))).mp hc_75
                  have hc_75 : ¬ (cn ≤ k) := hc_75
                  refine lv_aload_n hx hb dX3_text_78 rfl (lv_at hl 2 rfl) ?_
                  refine va_get (D := (dC, dI)) (ci := 3) (v := .ref qg) (C := RX3) (T := TX3) (N := 18) hx hb hta inX3 hown hK hP 5 rfl rfl 15 (by decide) (hta _ mw_472) (fun _ h9 => h9) rfl dX3_text_79 ?_
                  refine lv_aload_n hx hb dX3_text_82 rfl (lv_at hl 2 rfl) ?_
                  refine va_get (D := (dC, dI)) (ci := 3) (v := .int (nI (nz + k))) (C := RX3) (T := TX3) (N := 18) hx hb hta inX3 hown hK hP 5 rfl rfl 14 (by decide) (hta _ mw_471) (fun _ h9 => h9) rfl dX3_text_83 ?_
                  refine lv_lload_n hx hb dX3_text_86 rfl (lv_at hl 3 rfl) ?_
                  refine lv_bipush (v := nI 8) hx hb dX3_text_87 (by decide) ?_
                  refine lv_iload hx hb dX3_text_89 (lv_at hl 1 rfl) ?_
                  refine lv_imul hx hb dX3_text_91 (top_i (pk_mul _ _) ?_)
                  refine lv_lshr hx hb dX3_text_92 rfl ?_
                  refine lv_ldc2 (v := 255) hx hb hown (hta _ mw_536) dX3_text_93 ?_
                  refine top_l (y := lN 255) (by decide) ?_
                  refine lv_land hx hb dX3_text_96 ?_
                  refine top_l (y := lN (pbN y k)) (l_sb _ (by omega)) ?_
                  refine w_pc (pc2 := 97) rfl ?_
                  refine lv_l2i hx hb dX3_text_97 rfl (top_i (lN_i _) ?_)
                  refine va_iasb hx hb hK hP hD hS 4 4 rfl rfl (by omega) (by decide) dX3_text_98 (fun H locs hP hD hS => ?_)
                  have hP : va_P (dC, dI) vwCl [(qx, .inl (kx, 256, .inl (nF sb))), (qw, .inl (kw, 44, .inl w)), (qb, .inl (kb, 16, .inl (nF b9))), (qn, .inl (kn, 16, .inl (nF z9))), (qg, .inl (kg, 96, .inl (nF (un (ofl (pbN y) gv nz k) (nz + k) (pbN y k))))), (o, .inr (3, [.int (nI 0), .int (nI 2), .int (zI og), .ref qx, .ref qk, .ref qw, .ref qb, .ref qn, .long mh, .long ml, .long nc, .int rs, .int (nI na), .ref qd, .int (nI (nz + k)), .ref qg, .long t1, .long t2]))] H := hP
                  have hD : va_D A [(qx, .inl (kx, 256, .inl (nF sb))), (qw, .inl (kw, 44, .inl w)), (qb, .inl (kb, 16, .inl (nF b9))), (qn, .inl (kn, 16, .inl (nF z9))), (qg, .inl (kg, 96, .inl (nF (un (ofl (pbN y) gv nz k) (nz + k) (pbN y k))))), (o, .inr (3, [.int (nI 0), .int (nI 2), .int (zI og), .ref qx, .ref qk, .ref qw, .ref qb, .ref qn, .long mh, .long ml, .long nc, .int rs, .int (nI na), .ref qd, .int (nI (nz + k)), .ref qg, .long t1, .long t2]))] := hD
                  refine lv_aload_n hx hb dX3_text_99 rfl (lv_at hl 2 rfl) ?_
                  refine va_get (D := (dC, dI)) (ci := 3) (v := .int (zI og)) (C := RX3) (T := TX3) (N := 18) hx hb hta inX3 hown hK hP 5 rfl rfl 2 (by decide) (hta _ mw_459) (fun _ h9 => h9) rfl dX3_text_100 ?_
                  refine lv_if_eq (tgt := 110) hx hb dX3_text_103 (by decide) (fun hc_103 => ?_) (fun hc_103 => ?_)
                  · skip
                    refine lv_lload hx hb dX3_text_110 (lv_at hl 0 rfl) ?_
                    refine lv_aload_n hx hb dX3_text_112 rfl (lv_at hl 2 rfl) ?_
                    refine va_get (D := (dC, dI)) (ci := 3) (v := .ref qg) (C := RX3) (T := TX3) (N := 18) hx hb hta inX3 hown hK hP 5 rfl rfl 15 (by decide) (hta _ mw_472) (fun _ h9 => h9) rfl dX3_text_113 ?_
                    refine lv_aload_n hx hb dX3_text_116 rfl (lv_at hl 2 rfl) ?_
                    refine va_get (D := (dC, dI)) (ci := 3) (v := .int (nI (nz + k))) (C := RX3) (T := TX3) (N := 18) hx hb hta inX3 hown hK hP 5 rfl rfl 14 (by decide) (hta _ mw_471) (fun _ h9 => h9) rfl dX3_text_117 ?_
                    refine va_ialb hx hb hK hP 4 4 rfl rfl (by omega) (by decide) dX3_text_120 ?_
                    refine top_i (y := nI (pbN y k)) (congrArg nI un_s) ?_
                    refine lv_aload_n hx hb dX3_text_121 rfl (lv_at hl 2 rfl) ?_
                    refine lv_aload_n hx hb dX3_text_122 rfl (lv_at hl 2 rfl) ?_
                    refine va_get (D := (dC, dI)) (ci := 3) (v := .int (nI (nz + k))) (C := RX3) (T := TX3) (N := 18) hx hb hta inX3 hown hK hP 5 rfl rfl 14 (by decide) (hta _ mw_471) (fun _ h9 => h9) rfl dX3_text_123 ?_
                    refine cx_1 (wr := [(qg, .inl (kg, 96, .inl (nF (un (ofl (pbN y) gv nz k) (nz + k) (pbN y k)))))]) (va_runV (As := [.int (nI (nz + k))]) (rest := [.int (nI (pbN y k)), .long (lN (slN (tpg sb w nc rs y nz) k))]) ⟨hx, hb, hml, hown, hta⟩ (MX.to (m_mask l dC dI o (nI 0) 2 og qx qk qw qb qn mh ml nc rs na qd (nz + k) qg t1 t2 kx kw kb kn sb w b9 z9 (nz + k) s256 (by omega)) H.size) (cwV 1 hta (aw_V mw_585 mw_582 mw_584 mw_s29 mw_5) rfl rfl rfl ⟨rfl, dyX3_mask⟩ ⟨(Nat.le_of_ble_eq_true rfl), (Nat.le_of_ble_eq_true rfl)⟩) (pr_V hP hD hK hE [5, 0, 1, 2, 3] [0, 1, 2, 3] (by decide) rfl rfl rfl rfl) rfl rfl hl.1 rfl (lv_room (Nat.le_of_ble_eq_true rfl)) dX3_text_126 ⟨(Nat.le_of_ble_eq_true rfl), (Nat.le_of_ble_eq_true rfl)⟩) hK hP hD hS hA [5, 0, 1, 2, 3] [4] rfl rfl (by decide) (by decide) (fun u9 H locs hphi_126 hK hP hD hS => ?_)
                    obtain ⟨b1_1, z1_1⟩ := u9
                    have hK : va_K (dC, dI) vwCl [(kx, .int), (kw, .int), (kb, .int), (kn, .int), (kg, .int)] s := hK
                    have hP : va_P (dC, dI) vwCl [(qg, .inl (kg, 96, .inl (nF (un (ofl (pbN y) gv nz k) (nz + k) (pbN y k))))), (o, .inr (3, [.int (nI 0), .int (nI 2), .int (zI og), .ref qx, .ref qk, .ref qw, .ref qb, .ref qn, .long mh, .long ml, .long nc, .int rs, .int (nI na), .ref qd, .int (nI (nz + k)), .ref qg, .long t1, .long t2])), (qx, .inl (kx, 256, .inl (nF sb))), (qw, .inl (kw, 44, .inl w)), (qb, .inl (kb, 16, .inl (nF b1_1))), (qn, .inl (kn, 16, .inl (nF z1_1)))] H := hP
                    have hD : va_D A [(qg, .inl (kg, 96, .inl (nF (un (ofl (pbN y) gv nz k) (nz + k) (pbN y k))))), (o, .inr (3, [.int (nI 0), .int (nI 2), .int (zI og), .ref qx, .ref qk, .ref qw, .ref qb, .ref qn, .long mh, .long ml, .long nc, .int rs, .int (nI na), .ref qd, .int (nI (nz + k)), .ref qg, .long t1, .long t2])), (qx, .inl (kx, 256, .inl (nF sb))), (qw, .inl (kw, 44, .inl w)), (qb, .inl (kb, 16, .inl (nF b1_1))), (qn, .inl (kn, 16, .inl (nF z1_1)))] := hD
                    refine W.widen (k := 0) (n := 0) (Nat.le_of_ble_eq_true rfl) (Nat.le_of_ble_eq_true rfl) ?_
                    refine w_pc (pc2 := 129) rfl ?_
                    refine lv_ixor hx hb dX3_text_129 ?_
                    refine top_i (y := nI ((tpg sb w nc rs y nz) k)) (n_xor _ _) ?_
                    refine lv_i2l hx hb dX3_text_130 rfl (top_l (nI_l (Nat.lt_trans (tpg_lt s256 k) (by decide))) ?_)
                    refine lv_bipush (v := nI 8) hx hb dX3_text_131 (by decide) ?_
                    refine lv_iload hx hb dX3_text_133 (lv_at hl 1 rfl) ?_
                    refine lv_imul hx hb dX3_text_135 (top_i (pk_mul _ _) ?_)
                    refine lv_lshl hx hb dX3_text_136 rfl (top_l (wb_shl _ (by omega)) ?_)
                    refine lv_lor hx hb dX3_text_137 ?_
                    refine top_l (y := lN (slN (tpg sb w nc rs y nz) (k + 1))) (l_or _ _) ?_
                    refine lv_lstore hx hb dX3_text_138 hl (by decide) rfl (fun ls hl => ?_)
                    have hl : lv_has ls 7 [(4, .long (lN (slN (tpg sb w nc rs y nz) (k + 1)))), (6, .int (nI k)), (0, .ref o), (1, .long y), (3, .int (nI cn))] := hl
                    refine lv_aload_n hx hb dX3_text_140 rfl (lv_at hl 2 rfl) ?_
                    refine lv_dup hx hb dX3_text_141 rfl ?_
                    refine va_get (D := (dC, dI)) (ci := 3) (v := .int (nI (nz + k))) (C := RX3) (T := TX3) (N := 18) hx hb hta inX3 hown hK hP 1 rfl rfl 14 (by decide) (hta _ mw_471) (fun _ h9 => h9) rfl dX3_text_142 ?_
                    refine lv_iconst (v := nI 1) hx hb dX3_text_145 (by decide) ?_
                    refine w_pc (pc2 := 146) rfl ?_
                    refine lv_iadd hx hb dX3_text_146 (top_i (nI_add _ _) ?_)
                    refine va_put (D := (dC, dI)) (ci := 3) (v := .int (nI ((nz + k) + 1))) (ty := .int) (C := RX3) (T := TX3) (N := 18) hx hb hta inX3 tyX3 tyX3_ok nmX3 hown hK hP hD hS 1 rfl rfl 14 (by decide) (hta _ mw_471) (fun _ h9 => h9) rfl (by decide +kernel) rfl rfl (Nat.le_of_ble_eq_true rfl) dX3_text_147 (fun H locs hP hD hS => ?_)
                    have hP : va_P (dC, dI) vwCl [(qg, .inl (kg, 96, .inl (nF (un (ofl (pbN y) gv nz k) (nz + k) (pbN y k))))), (o, .inr (3, [.int (nI 0), .int (nI 2), .int (zI og), .ref qx, .ref qk, .ref qw, .ref qb, .ref qn, .long mh, .long ml, .long nc, .int rs, .int (nI na), .ref qd, .int (nI ((nz + k) + 1)), .ref qg, .long t1, .long t2])), (qx, .inl (kx, 256, .inl (nF sb))), (qw, .inl (kw, 44, .inl w)), (qb, .inl (kb, 16, .inl (nF b1_1))), (qn, .inl (kn, 16, .inl (nF z1_1)))] H := hP
                    have hD : va_D A [(qg, .inl (kg, 96, .inl (nF (un (ofl (pbN y) gv nz k) (nz + k) (pbN y k))))), (o, .inr (3, [.int (nI 0), .int (nI 2), .int (zI og), .ref qx, .ref qk, .ref qw, .ref qb, .ref qn, .long mh, .long ml, .long nc, .int rs, .int (nI na), .ref qd, .int (nI ((nz + k) + 1)), .ref qg, .long t1, .long t2])), (qx, .inl (kx, 256, .inl (nF sb))), (qw, .inl (kw, 44, .inl w)), (qb, .inl (kb, 16, .inl (nF b1_1))), (qn, .inl (kn, 16, .inl (nF z1_1)))] := hD
                    refine lv_iinc (v := nI (k + 1)) (k := 1) hx hb dX3_text_150 hl rfl (ix_inc _ 1) (by decide) rfl (fun ls hl => ?_)
                    have hl : lv_has ls 7 [(6, .int (nI (k + 1))), (4, .long (lN (slN (tpg sb w nc rs y nz) (k + 1)))), (0, .ref o), (1, .long y), (3, .int (nI cn))] := hl
                    refine lv_goto (tgt := 72) hx hb dX3_text_153 (by decide) ?_
                    obtain ⟨hP, hD⟩ := va_recb (g := ofl (pbN y) gv nz (k + 1)) hP hD 0 rfl (fun i _ => ofl_s (pbN y) gv nz k i)
                    have hP : va_P (dC, dI) vwCl [(qg, .inl (kg, 96, .inl (nF (ofl (pbN y) gv nz (k + 1))))), (o, .inr (3, [.int (nI 0), .int (nI 2), .int (zI og), .ref qx, .ref qk, .ref qw, .ref qb, .ref qn, .long mh, .long ml, .long nc, .int rs, .int (nI na), .ref qd, .int (nI ((nz + k) + 1)), .ref qg, .long t1, .long t2])), (qx, .inl (kx, 256, .inl (nF sb))), (qw, .inl (kw, 44, .inl w)), (qb, .inl (kb, 16, .inl (nF b1_1))), (qn, .inl (kn, 16, .inl (nF z1_1)))] H := hP
                    have hD : va_D A [(qg, .inl (kg, 96, .inl (nF (ofl (pbN y) gv nz (k + 1))))), (o, .inr (3, [.int (nI 0), .int (nI 2), .int (zI og), .ref qx, .ref qk, .ref qw, .ref qb, .ref qn, .long mh, .long ml, .long nc, .int rs, .int (nI na), .ref qd, .int (nI ((nz + k) + 1)), .ref qg, .long t1, .long t2])), (qx, .inl (kx, 256, .inl (nF sb))), (qw, .inl (kw, 44, .inl w)), (qb, .inl (kb, 16, .inl (nF b1_1))), (qn, .inl (kn, 16, .inl (nF z1_1)))] := hD
                    exact ih (k + 1) b1_1 z1_1 ls H locs (by omega)  (lv_sub hl [1, 0, 2, 3, 4] rfl) (hP.sub [2, 3, 4, 5, 0, 1] rfl) (hD.sub [2, 3, 4, 5, 0, 1] (by decide) rfl) hS
                  · skip
                    exact absurd (zI1 (b := og) hc_103) (by rw [hog]; decide)
            exact loop_72 cn 0 b z ls H locs (by omega)  (lv_sub hl [1, 0, 2, 3, 4] rfl) hP hD hS
          · skip
            exact absurd (by decide) hc_56
        · skip
          have hc_45 := (not_congr (ix_le (a := nz + cn) (b := 96) (by omega) (by omega))).mp hc_45
          have hc_45 : ¬ ((nz + cn) ≤ 96) := hc_45
          exfalso; omega
      · skip
        have hc_29 := (not_congr (ix_le (a := cn) (b := 8) (by omega) (by omega))).mp hc_29
        have hc_29 : ¬ (cn ≤ 8) := hc_29
        exfalso; omega
  · skip
    have hc_6 := (not_congr (ix_eq (a := ph) (b := 1) (by omega) (by omega))).mp hc_6
    have hc_6 : ¬ (ph = 1) := hc_6
    refine lv_aload_n hx hb dX3_text_9 rfl (lv_at hl 0 rfl) ?_
    refine va_get (D := (dC, dI)) (ci := 3) (v := .int (nI ph)) (C := RX3) (T := TX3) (N := 18) hx hb hta inX3 hown hK hP 0 rfl rfl 1 (by decide) (hta _ mw_458) (fun _ h9 => h9) rfl dX3_text_10 ?_
    refine lv_iconst (v := nI 2) hx hb dX3_text_13 (by decide) ?_
    refine lv_icmp_eq (tgt := 21) hx hb dX3_text_14 (by decide) (fun hc_14 => ?_) (fun hc_14 => ?_)
    · skip
      have hc_14 := (ix_eq (a := ph) (b := 2) (by omega) (by omega)).mp hc_14
      have hc_14 : (ph = 2) := hc_14
      refine lv_iconst (v := nI 0) hx hb dX3_text_21 (by decide) ?_
      refine lv_iload_n hx hb dX3_text_22 rfl (lv_at hl 2 rfl) ?_
      refine lv_if_lt (tgt := 32) hx hb dX3_text_23 (by decide) (fun hc_23 => ?_) (fun hc_23 => ?_)
      · skip
        have hc_23 := (ix_lt (a := cn) (b := 0) (by omega) (by omega)).mp hc_23
        have hc_23 : (cn < 0) := hc_23
        exfalso; omega
      · skip
        have hc_23 := (not_congr (ix_lt (a := cn) (b := 0) (by omega) (by omega))).mp hc_23
        have hc_23 : ¬ (cn < 0) := hc_23
        refine lv_iload_n hx hb dX3_text_26 rfl (lv_at hl 2 rfl) ?_
        refine lv_bipush (v := nI 8) hx hb dX3_text_27 (by decide) ?_
        refine lv_icmp_le (tgt := 36) hx hb dX3_text_29 (by decide) (fun hc_29 => ?_) (fun hc_29 => ?_)
        · skip
          have hc_29 := (ix_le (a := cn) (b := 8) (by omega) (by omega)).mp hc_29
          have hc_29 : (cn ≤ 8) := hc_29
          refine lv_iconst (v := nI 0) hx hb dX3_text_36 (by decide) ?_
          refine lv_aload_n hx hb dX3_text_37 rfl (lv_at hl 0 rfl) ?_
          refine va_get (D := (dC, dI)) (ci := 3) (v := .int (nI nz)) (C := RX3) (T := TX3) (N := 18) hx hb hta inX3 hown hK hP 0 rfl rfl 14 (by decide) (hta _ mw_471) (fun _ h9 => h9) rfl dX3_text_38 ?_
          refine lv_iload_n hx hb dX3_text_41 rfl (lv_at hl 2 rfl) ?_
          refine lv_iadd hx hb dX3_text_42 (top_i (nI_add _ _) ?_)
          refine lv_bipush (v := nI 96) hx hb dX3_text_43 (by decide) ?_
          refine lv_icmp_le (tgt := 52) hx hb dX3_text_45 (by decide) (fun hc_45 => ?_) (fun hc_45 => ?_)
          · skip
            have hc_45 := (ix_le (a := nz + cn) (b := 96) (by omega) (by omega)).mp hc_45
            have hc_45 : ((nz + cn) ≤ 96) := hc_45
            refine lv_iconst (v := nI 0) hx hb dX3_text_52 (by decide) ?_
            refine cf_1 (wr := [(qx, .inl (kx, 256, .inl (nF sb))), (qw, .inl (kw, 44, .inl w)), (qb, .inl (kb, 16, .inl (nF b))), (qn, .inl (kn, 16, .inl (nF z))), (qg, .inl (kg, 96, .inl (nF gv)))]) (va_runV (As := [.int (nI 0), .int (nI 0), .int (nI 0)]) (rest := []) ⟨hx, hb, hml, hown, hta⟩ (MO.to (m_refuses l dC dI o th ph og qx qk qw qb qn mh ml nc rs na qd nz qg t1 t2 false false false) H.size) (cwV 3 hta (aw_V mw_527 mw_524 mw_526 mw_s21 mw_5) rfl rfl rfl ⟨rfl, dyX3_refuses⟩ ⟨(Nat.le_of_ble_eq_true rfl), (Nat.le_of_ble_eq_true rfl)⟩) (pr_V hP hD hK hE [0] [] (by decide) rfl rfl rfl rfl) rfl rfl hl.1 rfl (lv_room (Nat.le_of_ble_eq_true rfl)) dX3_text_53 ⟨(Nat.le_of_ble_eq_true rfl), (Nat.le_of_ble_eq_true rfl)⟩) hP hD hS hA [0] [1, 2, 3, 4, 5] rfl rfl (by decide) (by decide) (fun H locs hP hD hS => ?_)
            have hP : va_P (dC, dI) vwCl [(qx, .inl (kx, 256, .inl (nF sb))), (qw, .inl (kw, 44, .inl w)), (qb, .inl (kb, 16, .inl (nF b))), (qn, .inl (kn, 16, .inl (nF z))), (qg, .inl (kg, 96, .inl (nF gv))), (o, .inr (3, [.int (rfN false false false), .int (nI ph), .int (zI og), .ref qx, .ref qk, .ref qw, .ref qb, .ref qn, .long mh, .long ml, .long nc, .int rs, .int (nI na), .ref qd, .int (nI nz), .ref qg, .long t1, .long t2]))] H := hP
            have hD : va_D A [(qx, .inl (kx, 256, .inl (nF sb))), (qw, .inl (kw, 44, .inl w)), (qb, .inl (kb, 16, .inl (nF b))), (qn, .inl (kn, 16, .inl (nF z))), (qg, .inl (kg, 96, .inl (nF gv))), (o, .inr (3, [.int (rfN false false false), .int (nI ph), .int (zI og), .ref qx, .ref qk, .ref qw, .ref qb, .ref qn, .long mh, .long ml, .long nc, .int rs, .int (nI na), .ref qd, .int (nI nz), .ref qg, .long t1, .long t2]))] := hD
            refine W.widen (k := 0) (n := 0) (Nat.le_of_ble_eq_true rfl) (Nat.le_of_ble_eq_true rfl) ?_
            have e9 : rfN false false false = nI 0 := rfl
            have hP : va_P (dC, dI) vwCl [(qx, .inl (kx, 256, .inl (nF sb))), (qw, .inl (kw, 44, .inl w)), (qb, .inl (kb, 16, .inl (nF b))), (qn, .inl (kn, 16, .inl (nF z))), (qg, .inl (kg, 96, .inl (nF gv))), (o, .inr (3, [.int (nI 0), .int (nI ph), .int (zI og), .ref qx, .ref qk, .ref qw, .ref qb, .ref qn, .long mh, .long ml, .long nc, .int rs, .int (nI na), .ref qd, .int (nI nz), .ref qg, .long t1, .long t2]))] H := by rw [← e9]; exact hP
            have hD : va_D A [(qx, .inl (kx, 256, .inl (nF sb))), (qw, .inl (kw, 44, .inl w)), (qb, .inl (kb, 16, .inl (nF b))), (qn, .inl (kn, 16, .inl (nF z))), (qg, .inl (kg, 96, .inl (nF gv))), (o, .inr (3, [.int (nI 0), .int (nI ph), .int (zI og), .ref qx, .ref qk, .ref qw, .ref qb, .ref qn, .long mh, .long ml, .long nc, .int rs, .int (nI na), .ref qd, .int (nI nz), .ref qg, .long t1, .long t2]))] := by rw [← e9]; exact hD
            refine w_pc (pc2 := 56) rfl ?_
            refine lv_if_eq (tgt := 61) hx hb dX3_text_56 (by decide) (fun hc_56 => ?_) (fun hc_56 => ?_)
            · skip
              refine lv_aload_n hx hb dX3_text_61 rfl (lv_at hl 0 rfl) ?_
              refine lv_iconst (v := nI 2) hx hb dX3_text_62 (by decide) ?_
              refine va_put (D := (dC, dI)) (ci := 3) (v := .int (nI 2)) (ty := .int) (C := RX3) (T := TX3) (N := 18) hx hb hta inX3 tyX3 tyX3_ok nmX3 hown hK hP hD hS 5 rfl rfl 1 (by decide) (hta _ mw_458) (fun _ h9 => h9) rfl (by decide +kernel) rfl rfl (Nat.le_of_ble_eq_true rfl) dX3_text_63 (fun H locs hP hD hS => ?_)
              have hP : va_P (dC, dI) vwCl [(qx, .inl (kx, 256, .inl (nF sb))), (qw, .inl (kw, 44, .inl w)), (qb, .inl (kb, 16, .inl (nF b))), (qn, .inl (kn, 16, .inl (nF z))), (qg, .inl (kg, 96, .inl (nF gv))), (o, .inr (3, [.int (nI 0), .int (nI 2), .int (zI og), .ref qx, .ref qk, .ref qw, .ref qb, .ref qn, .long mh, .long ml, .long nc, .int rs, .int (nI na), .ref qd, .int (nI nz), .ref qg, .long t1, .long t2]))] H := hP
              have hD : va_D A [(qx, .inl (kx, 256, .inl (nF sb))), (qw, .inl (kw, 44, .inl w)), (qb, .inl (kb, 16, .inl (nF b))), (qn, .inl (kn, 16, .inl (nF z))), (qg, .inl (kg, 96, .inl (nF gv))), (o, .inr (3, [.int (nI 0), .int (nI 2), .int (zI og), .ref qx, .ref qk, .ref qw, .ref qb, .ref qn, .long mh, .long ml, .long nc, .int rs, .int (nI na), .ref qd, .int (nI nz), .ref qg, .long t1, .long t2]))] := hD
              refine lv_lconst (v := lN 0) hx hb dX3_text_66 (by decide) ?_
              refine lv_lstore hx hb dX3_text_67 hl (by decide) rfl (fun ls hl => ?_)
              have hl : lv_has ls 7 [(4, .long (lN 0)), (0, .ref o), (1, .long y), (3, .int (nI cn))] := hl
              refine lv_iconst (v := nI 0) hx hb dX3_text_69 (by decide) ?_
              refine lv_istore hx hb dX3_text_70 hl (by decide) rfl (fun ls hl => ?_)
              have hl : lv_has ls 7 [(6, .int (nI 0)), (4, .long (lN 0)), (0, .ref o), (1, .long y), (3, .int (nI cn))] := hl
              obtain ⟨hP, hD⟩ := va_recb (g := ofl (pbN y) gv nz 0) hP hD 4 rfl (fun i _ => ofl_0 _ gv nz i)
              have hP : va_P (dC, dI) vwCl [(qx, .inl (kx, 256, .inl (nF sb))), (qw, .inl (kw, 44, .inl w)), (qb, .inl (kb, 16, .inl (nF b))), (qn, .inl (kn, 16, .inl (nF z))), (qg, .inl (kg, 96, .inl (nF (ofl (pbN y) gv nz 0)))), (o, .inr (3, [.int (nI 0), .int (nI 2), .int (zI og), .ref qx, .ref qk, .ref qw, .ref qb, .ref qn, .long mh, .long ml, .long nc, .int rs, .int (nI na), .ref qd, .int (nI nz), .ref qg, .long t1, .long t2]))] H := hP
              have hD : va_D A [(qx, .inl (kx, 256, .inl (nF sb))), (qw, .inl (kw, 44, .inl w)), (qb, .inl (kb, 16, .inl (nF b))), (qn, .inl (kn, 16, .inl (nF z))), (qg, .inl (kg, 96, .inl (nF (ofl (pbN y) gv nz 0)))), (o, .inr (3, [.int (nI 0), .int (nI 2), .int (zI og), .ref qx, .ref qk, .ref qw, .ref qb, .ref qn, .long mh, .long ml, .long nc, .int rs, .int (nI na), .ref qd, .int (nI nz), .ref qg, .long t1, .long t2]))] := hD
              have loop_72 : ∀ (n k : Nat) (b9 : Nat → Nat) (z9 : Nat → Nat) (ls : Array Slot) (H : Heap) (locs : List Loc), k + n = cn → lv_has ls 7 [(4, .long (lN (slN (tpg sb w nc rs y nz) k))), (6, .int (nI k)), (0, .ref o), (1, .long y), (3, .int (nI cn))] → va_P (dC, dI) vwCl [(qx, .inl (kx, 256, .inl (nF sb))), (qw, .inl (kw, 44, .inl w)), (qb, .inl (kb, 16, .inl (nF b9))), (qn, .inl (kn, 16, .inl (nF z9))), (qg, .inl (kg, 96, .inl (nF (ofl (pbN y) gv nz k)))), (o, .inr (3, [.int (nI 0), .int (nI 2), .int (zI og), .ref qx, .ref qk, .ref qw, .ref qb, .ref qn, .long mh, .long ml, .long nc, .int rs, .int (nI na), .ref qd, .int (nI (nz + k)), .ref qg, .long t1, .long t2]))] H → va_D A [(qx, .inl (kx, 256, .inl (nF sb))), (qw, .inl (kw, 44, .inl w)), (qb, .inl (kb, 16, .inl (nF b9))), (qn, .inl (kn, 16, .inl (nF z9))), (qg, .inl (kg, 96, .inl (nF (ofl (pbN y) gv nz k)))), (o, .inr (3, [.int (nI 0), .int (nI 2), .int (zI og), .ref qx, .ref qk, .ref qw, .ref qb, .ref qn, .long mh, .long ml, .long nc, .int rs, .int (nI na), .ref qd, .int (nI (nz + k)), .ref qg, .long t1, .long t2]))] → va_S A s.heap H locs → W p l e rm_m_text_p s m args below meth c H locs 0 0 Q (F0 m 72 ls []) := by
                intro n
                induction n with
                | zero =>
                  intro k b9 z9 ls H locs hn_72  hl hP hD hS
                  obtain rfl : cn = k := by omega
                  refine lv_iload hx hb dX3_text_72 (lv_at hl 1 rfl) ?_
                  refine lv_iload_n hx hb dX3_text_74 rfl (lv_at hl 4 rfl) ?_
                  refine lv_icmp_ge (tgt := 156) hx hb dX3_text_75 (by decide) (fun hc_75 => ?_) (fun hc_75 => ?_)
                  · skip
                    have hc_75 := (ix_le (a := cn) (b := cn) (by omega) (by omega)).mp hc_75
                    have hc_75 : (cn ≤ cn) := hc_75
                    refine lv_lload hx hb dX3_text_156 (lv_at hl 0 rfl) ?_
                    exact rx_l (b9, z9) trivial hx hb hr hlk hQ hAe hK hP hD hS [5, 0, 1, 2, 3, 4] [] (by decide) rfl rfl (Nat.le_of_ble_eq_true rfl) (Nat.le_of_ble_eq_true rfl) (rfl) dX3_text_158
                  · skip
                    have hc_75 := (not_congr (ix_le (a := cn) (b := cn) (by omega) (by omega))).mp hc_75
                    have hc_75 : ¬ (cn ≤ cn) := hc_75
                    exfalso; omega
                | succ n ih =>
                  intro k b9 z9 ls H locs hn_72  hl hP hD hS
                  refine lv_iload hx hb dX3_text_72 (lv_at hl 1 rfl) ?_
                  refine lv_iload_n hx hb dX3_text_74 rfl (lv_at hl 4 rfl) ?_
                  refine lv_icmp_ge (tgt := 156) hx hb dX3_text_75 (by decide) (fun hc_75 => ?_) (fun hc_75 => ?_)
                  · skip
                    have hc_75 := (ix_le (a := cn) (b := k) (by omega) (by omega)).mp hc_75
                    have hc_75 : (cn ≤ k) := hc_75
                    exfalso; omega
                  · skip
                    have hc_75 := (not_congr (ix_le (a := cn) (b := k) (by omega) (by omega))).mp hc_75
                    have hc_75 : ¬ (cn ≤ k) := hc_75
                    refine lv_aload_n hx hb dX3_text_78 rfl (lv_at hl 2 rfl) ?_
                    refine va_get (D := (dC, dI)) (ci := 3) (v := .ref qg) (C := RX3) (T := TX3) (N := 18) hx hb hta inX3 hown hK hP 5 rfl rfl 15 (by decide) (hta _ mw_472) (fun _ h9 => h9) rfl dX3_text_79 ?_
                    refine lv_aload_n hx hb dX3_text_82 rfl (lv_at hl 2 rfl) ?_
                    refine va_get (D := (dC, dI)) (ci := 3) (v := .int (nI (nz + k))) (C := RX3) (T := TX3) (N := 18) hx hb hta inX3 hown hK hP 5 rfl rfl 14 (by decide) (hta _ mw_471) (fun _ h9 => h9) rfl dX3_text_83 ?_
                    refine lv_lload_n hx hb dX3_text_86 rfl (lv_at hl 3 rfl) ?_
                    refine lv_bipush (v := nI 8) hx hb dX3_text_87 (by decide) ?_
                    refine lv_iload hx hb dX3_text_89 (lv_at hl 1 rfl) ?_
                    refine lv_imul hx hb dX3_text_91 (top_i (pk_mul _ _) ?_)
                    refine lv_lshr hx hb dX3_text_92 rfl ?_
                    refine lv_ldc2 (v := 255) hx hb hown (hta _ mw_536) dX3_text_93 ?_
                    refine top_l (y := lN 255) (by decide) ?_
                    refine lv_land hx hb dX3_text_96 ?_
                    refine top_l (y := lN (pbN y k)) (l_sb _ (by omega)) ?_
                    refine w_pc (pc2 := 97) rfl ?_
                    refine lv_l2i hx hb dX3_text_97 rfl (top_i (lN_i _) ?_)
                    refine va_iasb hx hb hK hP hD hS 4 4 rfl rfl (by omega) (by decide) dX3_text_98 (fun H locs hP hD hS => ?_)
                    have hP : va_P (dC, dI) vwCl [(qx, .inl (kx, 256, .inl (nF sb))), (qw, .inl (kw, 44, .inl w)), (qb, .inl (kb, 16, .inl (nF b9))), (qn, .inl (kn, 16, .inl (nF z9))), (qg, .inl (kg, 96, .inl (nF (un (ofl (pbN y) gv nz k) (nz + k) (pbN y k))))), (o, .inr (3, [.int (nI 0), .int (nI 2), .int (zI og), .ref qx, .ref qk, .ref qw, .ref qb, .ref qn, .long mh, .long ml, .long nc, .int rs, .int (nI na), .ref qd, .int (nI (nz + k)), .ref qg, .long t1, .long t2]))] H := hP
                    have hD : va_D A [(qx, .inl (kx, 256, .inl (nF sb))), (qw, .inl (kw, 44, .inl w)), (qb, .inl (kb, 16, .inl (nF b9))), (qn, .inl (kn, 16, .inl (nF z9))), (qg, .inl (kg, 96, .inl (nF (un (ofl (pbN y) gv nz k) (nz + k) (pbN y k))))), (o, .inr (3, [.int (nI 0), .int (nI 2), .int (zI og), .ref qx, .ref qk, .ref qw, .ref qb, .ref qn, .long mh, .long ml, .long nc, .int rs, .int (nI na), .ref qd, .int (nI (nz + k)), .ref qg, .long t1, .long t2]))] := hD
                    refine lv_aload_n hx hb dX3_text_99 rfl (lv_at hl 2 rfl) ?_
                    refine va_get (D := (dC, dI)) (ci := 3) (v := .int (zI og)) (C := RX3) (T := TX3) (N := 18) hx hb hta inX3 hown hK hP 5 rfl rfl 2 (by decide) (hta _ mw_459) (fun _ h9 => h9) rfl dX3_text_100 ?_
                    refine lv_if_eq (tgt := 110) hx hb dX3_text_103 (by decide) (fun hc_103 => ?_) (fun hc_103 => ?_)
                    · skip
                      refine lv_lload hx hb dX3_text_110 (lv_at hl 0 rfl) ?_
                      refine lv_aload_n hx hb dX3_text_112 rfl (lv_at hl 2 rfl) ?_
                      refine va_get (D := (dC, dI)) (ci := 3) (v := .ref qg) (C := RX3) (T := TX3) (N := 18) hx hb hta inX3 hown hK hP 5 rfl rfl 15 (by decide) (hta _ mw_472) (fun _ h9 => h9) rfl dX3_text_113 ?_
                      refine lv_aload_n hx hb dX3_text_116 rfl (lv_at hl 2 rfl) ?_
                      refine va_get (D := (dC, dI)) (ci := 3) (v := .int (nI (nz + k))) (C := RX3) (T := TX3) (N := 18) hx hb hta inX3 hown hK hP 5 rfl rfl 14 (by decide) (hta _ mw_471) (fun _ h9 => h9) rfl dX3_text_117 ?_
                      refine va_ialb hx hb hK hP 4 4 rfl rfl (by omega) (by decide) dX3_text_120 ?_
                      refine top_i (y := nI (pbN y k)) (congrArg nI un_s) ?_
                      refine lv_aload_n hx hb dX3_text_121 rfl (lv_at hl 2 rfl) ?_
                      refine lv_aload_n hx hb dX3_text_122 rfl (lv_at hl 2 rfl) ?_
                      refine va_get (D := (dC, dI)) (ci := 3) (v := .int (nI (nz + k))) (C := RX3) (T := TX3) (N := 18) hx hb hta inX3 hown hK hP 5 rfl rfl 14 (by decide) (hta _ mw_471) (fun _ h9 => h9) rfl dX3_text_123 ?_
                      refine cx_1 (wr := [(qg, .inl (kg, 96, .inl (nF (un (ofl (pbN y) gv nz k) (nz + k) (pbN y k)))))]) (va_runV (As := [.int (nI (nz + k))]) (rest := [.int (nI (pbN y k)), .long (lN (slN (tpg sb w nc rs y nz) k))]) ⟨hx, hb, hml, hown, hta⟩ (MX.to (m_mask l dC dI o (nI 0) 2 og qx qk qw qb qn mh ml nc rs na qd (nz + k) qg t1 t2 kx kw kb kn sb w b9 z9 (nz + k) s256 (by omega)) H.size) (cwV 1 hta (aw_V mw_585 mw_582 mw_584 mw_s29 mw_5) rfl rfl rfl ⟨rfl, dyX3_mask⟩ ⟨(Nat.le_of_ble_eq_true rfl), (Nat.le_of_ble_eq_true rfl)⟩) (pr_V hP hD hK hE [5, 0, 1, 2, 3] [0, 1, 2, 3] (by decide) rfl rfl rfl rfl) rfl rfl hl.1 rfl (lv_room (Nat.le_of_ble_eq_true rfl)) dX3_text_126 ⟨(Nat.le_of_ble_eq_true rfl), (Nat.le_of_ble_eq_true rfl)⟩) hK hP hD hS hA [5, 0, 1, 2, 3] [4] rfl rfl (by decide) (by decide) (fun u9 H locs hphi_126 hK hP hD hS => ?_)
                      obtain ⟨b1_2, z1_2⟩ := u9
                      have hK : va_K (dC, dI) vwCl [(kx, .int), (kw, .int), (kb, .int), (kn, .int), (kg, .int)] s := hK
                      have hP : va_P (dC, dI) vwCl [(qg, .inl (kg, 96, .inl (nF (un (ofl (pbN y) gv nz k) (nz + k) (pbN y k))))), (o, .inr (3, [.int (nI 0), .int (nI 2), .int (zI og), .ref qx, .ref qk, .ref qw, .ref qb, .ref qn, .long mh, .long ml, .long nc, .int rs, .int (nI na), .ref qd, .int (nI (nz + k)), .ref qg, .long t1, .long t2])), (qx, .inl (kx, 256, .inl (nF sb))), (qw, .inl (kw, 44, .inl w)), (qb, .inl (kb, 16, .inl (nF b1_2))), (qn, .inl (kn, 16, .inl (nF z1_2)))] H := hP
                      have hD : va_D A [(qg, .inl (kg, 96, .inl (nF (un (ofl (pbN y) gv nz k) (nz + k) (pbN y k))))), (o, .inr (3, [.int (nI 0), .int (nI 2), .int (zI og), .ref qx, .ref qk, .ref qw, .ref qb, .ref qn, .long mh, .long ml, .long nc, .int rs, .int (nI na), .ref qd, .int (nI (nz + k)), .ref qg, .long t1, .long t2])), (qx, .inl (kx, 256, .inl (nF sb))), (qw, .inl (kw, 44, .inl w)), (qb, .inl (kb, 16, .inl (nF b1_2))), (qn, .inl (kn, 16, .inl (nF z1_2)))] := hD
                      refine W.widen (k := 0) (n := 0) (Nat.le_of_ble_eq_true rfl) (Nat.le_of_ble_eq_true rfl) ?_
                      refine w_pc (pc2 := 129) rfl ?_
                      refine lv_ixor hx hb dX3_text_129 ?_
                      refine top_i (y := nI ((tpg sb w nc rs y nz) k)) (n_xor _ _) ?_
                      refine lv_i2l hx hb dX3_text_130 rfl (top_l (nI_l (Nat.lt_trans (tpg_lt s256 k) (by decide))) ?_)
                      refine lv_bipush (v := nI 8) hx hb dX3_text_131 (by decide) ?_
                      refine lv_iload hx hb dX3_text_133 (lv_at hl 1 rfl) ?_
                      refine lv_imul hx hb dX3_text_135 (top_i (pk_mul _ _) ?_)
                      refine lv_lshl hx hb dX3_text_136 rfl (top_l (wb_shl _ (by omega)) ?_)
                      refine lv_lor hx hb dX3_text_137 ?_
                      refine top_l (y := lN (slN (tpg sb w nc rs y nz) (k + 1))) (l_or _ _) ?_
                      refine lv_lstore hx hb dX3_text_138 hl (by decide) rfl (fun ls hl => ?_)
                      have hl : lv_has ls 7 [(4, .long (lN (slN (tpg sb w nc rs y nz) (k + 1)))), (6, .int (nI k)), (0, .ref o), (1, .long y), (3, .int (nI cn))] := hl
                      refine lv_aload_n hx hb dX3_text_140 rfl (lv_at hl 2 rfl) ?_
                      refine lv_dup hx hb dX3_text_141 rfl ?_
                      refine va_get (D := (dC, dI)) (ci := 3) (v := .int (nI (nz + k))) (C := RX3) (T := TX3) (N := 18) hx hb hta inX3 hown hK hP 1 rfl rfl 14 (by decide) (hta _ mw_471) (fun _ h9 => h9) rfl dX3_text_142 ?_
                      refine lv_iconst (v := nI 1) hx hb dX3_text_145 (by decide) ?_
                      refine w_pc (pc2 := 146) rfl ?_
                      refine lv_iadd hx hb dX3_text_146 (top_i (nI_add _ _) ?_)
                      refine va_put (D := (dC, dI)) (ci := 3) (v := .int (nI ((nz + k) + 1))) (ty := .int) (C := RX3) (T := TX3) (N := 18) hx hb hta inX3 tyX3 tyX3_ok nmX3 hown hK hP hD hS 1 rfl rfl 14 (by decide) (hta _ mw_471) (fun _ h9 => h9) rfl (by decide +kernel) rfl rfl (Nat.le_of_ble_eq_true rfl) dX3_text_147 (fun H locs hP hD hS => ?_)
                      have hP : va_P (dC, dI) vwCl [(qg, .inl (kg, 96, .inl (nF (un (ofl (pbN y) gv nz k) (nz + k) (pbN y k))))), (o, .inr (3, [.int (nI 0), .int (nI 2), .int (zI og), .ref qx, .ref qk, .ref qw, .ref qb, .ref qn, .long mh, .long ml, .long nc, .int rs, .int (nI na), .ref qd, .int (nI ((nz + k) + 1)), .ref qg, .long t1, .long t2])), (qx, .inl (kx, 256, .inl (nF sb))), (qw, .inl (kw, 44, .inl w)), (qb, .inl (kb, 16, .inl (nF b1_2))), (qn, .inl (kn, 16, .inl (nF z1_2)))] H := hP
                      have hD : va_D A [(qg, .inl (kg, 96, .inl (nF (un (ofl (pbN y) gv nz k) (nz + k) (pbN y k))))), (o, .inr (3, [.int (nI 0), .int (nI 2), .int (zI og), .ref qx, .ref qk, .ref qw, .ref qb, .ref qn, .long mh, .long ml, .long nc, .int rs, .int (nI na), .ref qd, .int (nI ((nz + k) + 1)), .ref qg, .long t1, .long t2])), (qx, .inl (kx, 256, .inl (nF sb))), (qw, .inl (kw, 44, .inl w)), (qb, .inl (kb, 16, .inl (nF b1_2))), (qn, .inl (kn, 16, .inl (nF z1_2)))] := hD
                      refine lv_iinc (v := nI (k + 1)) (k := 1) hx hb dX3_text_150 hl rfl (ix_inc _ 1) (by decide) rfl (fun ls hl => ?_)
                      have hl : lv_has ls 7 [(6, .int (nI (k + 1))), (4, .long (lN (slN (tpg sb w nc rs y nz) (k + 1)))), (0, .ref o), (1, .long y), (3, .int (nI cn))] := hl
                      refine lv_goto (tgt := 72) hx hb dX3_text_153 (by decide) ?_
                      obtain ⟨hP, hD⟩ := va_recb (g := ofl (pbN y) gv nz (k + 1)) hP hD 0 rfl (fun i _ => ofl_s (pbN y) gv nz k i)
                      have hP : va_P (dC, dI) vwCl [(qg, .inl (kg, 96, .inl (nF (ofl (pbN y) gv nz (k + 1))))), (o, .inr (3, [.int (nI 0), .int (nI 2), .int (zI og), .ref qx, .ref qk, .ref qw, .ref qb, .ref qn, .long mh, .long ml, .long nc, .int rs, .int (nI na), .ref qd, .int (nI ((nz + k) + 1)), .ref qg, .long t1, .long t2])), (qx, .inl (kx, 256, .inl (nF sb))), (qw, .inl (kw, 44, .inl w)), (qb, .inl (kb, 16, .inl (nF b1_2))), (qn, .inl (kn, 16, .inl (nF z1_2)))] H := hP
                      have hD : va_D A [(qg, .inl (kg, 96, .inl (nF (ofl (pbN y) gv nz (k + 1))))), (o, .inr (3, [.int (nI 0), .int (nI 2), .int (zI og), .ref qx, .ref qk, .ref qw, .ref qb, .ref qn, .long mh, .long ml, .long nc, .int rs, .int (nI na), .ref qd, .int (nI ((nz + k) + 1)), .ref qg, .long t1, .long t2])), (qx, .inl (kx, 256, .inl (nF sb))), (qw, .inl (kw, 44, .inl w)), (qb, .inl (kb, 16, .inl (nF b1_2))), (qn, .inl (kn, 16, .inl (nF z1_2)))] := hD
                      exact ih (k + 1) b1_2 z1_2 ls H locs (by omega)  (lv_sub hl [1, 0, 2, 3, 4] rfl) (hP.sub [2, 3, 4, 5, 0, 1] rfl) (hD.sub [2, 3, 4, 5, 0, 1] (by decide) rfl) hS
                    · skip
                      exact absurd (zI1 (b := og) hc_103) (by rw [hog]; decide)
              exact loop_72 cn 0 b z ls H locs (by omega)  (lv_sub hl [1, 0, 2, 3, 4] rfl) hP hD hS
            · skip
              exact absurd (by decide) hc_56
          · skip
            have hc_45 := (not_congr (ix_le (a := nz + cn) (b := 96) (by omega) (by omega))).mp hc_45
            have hc_45 : ¬ ((nz + cn) ≤ 96) := hc_45
            exfalso; omega
        · skip
          have hc_29 := (not_congr (ix_le (a := cn) (b := 8) (by omega) (by omega))).mp hc_29
          have hc_29 : ¬ (cn ≤ 8) := hc_29
          exfalso; omega
    · skip
      have hc_14 := (not_congr (ix_eq (a := ph) (b := 2) (by omega) (by omega))).mp hc_14
      have hc_14 : ¬ (ph = 2) := hc_14
      exfalso; omega

def rm_m_text_1 : Room := { frames := 1, cells := 0, slots := 0, locals := 23 }
set_option maxHeartbeats 4000000 in
set_option maxRecDepth 100000 in
/-- text, refused -/
theorem m_text_1 (l : Launch) (dC : Nat → ClassId) (dI : Nat → Nat → Nat) (o : Nat) (th : Int32) (ph : Nat) (og : Bool) (qx : Nat) (qk : Nat) (qw : Nat) (qb : Nat) (qn : Nat) (mh : Int64) (ml : Int64) (nc : Int64) (rs : Int32) (na : Nat) (qd : Nat) (nz : Nat) (qg : Nat) (t1 : Int64) (t2 : Int64) (y : Int64) (v : Int32) (hph6 : ph < 6) (huw : ¬ (ph = 1 ∨ ph = 2)) : MO l dC dI yX3_text wsX3_text rm_m_text_1 [.ref o, .long y, .int v] [(o, .inr (3, [.int th, .int (nI ph), .int (zI og), .ref qx, .ref qk, .ref qw, .ref qb, .ref qn, .long mh, .long ml, .long nc, .int rs, .int (nI na), .ref qd, .int (nI nz), .ref qg, .long t1, .long t2]))] [] [(o, .inr (3, [.int (nI 1), .int (nI ph), .int (zI og), .ref qx, .ref qk, .ref qw, .ref qb, .ref qn, .long mh, .long ml, .long nc, .int rs, .int (nI na), .ref qd, .int (nI nz), .ref qg, .long t1, .long t2]))] (some (.long (lN 0))) := by
  refine mo_ofW (cc := cX3_text) (maxL := 7) (ret := (some .long)) (by decide) rfl (Nat.le_of_ble_eq_true rfl) ?_
  intro p e s m args below meth c Q A H locs ls hx hb hr hlk hml hta hown hin hE hQ hAe hA hK hP hD hS hl
  have hown : s.vm.findClass RX3 = some m.cls := hown
  have hl : lv_has ls 7 [(0, .ref o), (1, .long y), (3, .int v)] := hl
  refine lv_aload_n hx hb dX3_text_0 rfl (lv_at hl 0 rfl) ?_
  refine lv_aload_n hx hb dX3_text_1 rfl (lv_at hl 0 rfl) ?_
  refine va_get (D := (dC, dI)) (ci := 3) (v := .int (nI ph)) (C := RX3) (T := TX3) (N := 18) hx hb hta inX3 hown hK hP 0 rfl rfl 1 (by decide) (hta _ mw_458) (fun _ h9 => h9) rfl dX3_text_2 ?_
  refine lv_iconst (v := nI 1) hx hb dX3_text_5 (by decide) ?_
  refine lv_icmp_eq (tgt := 21) hx hb dX3_text_6 (by decide) (fun hc_6 => ?_) (fun hc_6 => ?_)
  · skip
    have hc_6 := (ix_eq (a := ph) (b := 1) (by omega) (by omega)).mp hc_6
    have hc_6 : (ph = 1) := hc_6
    exfalso; omega
  · skip
    have hc_6 := (not_congr (ix_eq (a := ph) (b := 1) (by omega) (by omega))).mp hc_6
    have hc_6 : ¬ (ph = 1) := hc_6
    refine lv_aload_n hx hb dX3_text_9 rfl (lv_at hl 0 rfl) ?_
    refine va_get (D := (dC, dI)) (ci := 3) (v := .int (nI ph)) (C := RX3) (T := TX3) (N := 18) hx hb hta inX3 hown hK hP 0 rfl rfl 1 (by decide) (hta _ mw_458) (fun _ h9 => h9) rfl dX3_text_10 ?_
    refine lv_iconst (v := nI 2) hx hb dX3_text_13 (by decide) ?_
    refine lv_icmp_eq (tgt := 21) hx hb dX3_text_14 (by decide) (fun hc_14 => ?_) (fun hc_14 => ?_)
    · skip
      have hc_14 := (ix_eq (a := ph) (b := 2) (by omega) (by omega)).mp hc_14
      have hc_14 : (ph = 2) := hc_14
      exfalso; omega
    · skip
      have hc_14 := (not_congr (ix_eq (a := ph) (b := 2) (by omega) (by omega))).mp hc_14
      have hc_14 : ¬ (ph = 2) := hc_14
      refine lv_iconst (v := nI 1) hx hb dX3_text_17 (by decide) ?_
      refine lv_goto (tgt := 22) hx hb dX3_text_18 (by decide) ?_
      refine lv_iload_n hx hb dX3_text_22 rfl (lv_at hl 2 rfl) ?_
      refine lv_if_lt (tgt := 32) hx hb dX3_text_23 (by decide) (fun hc_23 => ?_) (fun hc_23 => ?_)
      · skip
        refine lv_iconst (v := nI 1) hx hb dX3_text_32 (by decide) ?_
        refine lv_goto (tgt := 37) hx hb dX3_text_33 (by decide) ?_
        refine lv_aload_n hx hb dX3_text_37 rfl (lv_at hl 0 rfl) ?_
        refine va_get (D := (dC, dI)) (ci := 3) (v := .int (nI nz)) (C := RX3) (T := TX3) (N := 18) hx hb hta inX3 hown hK hP 0 rfl rfl 14 (by decide) (hta _ mw_471) (fun _ h9 => h9) rfl dX3_text_38 ?_
        refine lv_iload_n hx hb dX3_text_41 rfl (lv_at hl 2 rfl) ?_
        refine lv_iadd hx hb dX3_text_42 ?_
        refine lv_bipush (v := nI 96) hx hb dX3_text_43 (by decide) ?_
        refine lv_icmp_le (tgt := 52) hx hb dX3_text_45 (by decide) (fun hc_45 => ?_) (fun hc_45 => ?_)
        · skip
          refine lv_iconst (v := nI 0) hx hb dX3_text_52 (by decide) ?_
          refine cf_1 (wr := []) (va_runV (As := [.int (nI 1), .int (nI 1), .int (nI 0)]) (rest := []) ⟨hx, hb, hml, hown, hta⟩ (MO.to (m_refuses l dC dI o th ph og qx qk qw qb qn mh ml nc rs na qd nz qg t1 t2 true true false) H.size) (cwV 3 hta (aw_V mw_527 mw_524 mw_526 mw_s21 mw_5) rfl rfl rfl ⟨rfl, dyX3_refuses⟩ ⟨(Nat.le_of_ble_eq_true rfl), (Nat.le_of_ble_eq_true rfl)⟩) (pr_V hP hD hK hE [0] [] (by decide) rfl rfl rfl rfl) rfl rfl hl.1 rfl (lv_room (Nat.le_of_ble_eq_true rfl)) dX3_text_53 ⟨(Nat.le_of_ble_eq_true rfl), (Nat.le_of_ble_eq_true rfl)⟩) hP hD hS hA [0] [] rfl rfl (by decide) (by decide) (fun H locs hP hD hS => ?_)
          have hP : va_P (dC, dI) vwCl [(o, .inr (3, [.int (rfN true true false), .int (nI ph), .int (zI og), .ref qx, .ref qk, .ref qw, .ref qb, .ref qn, .long mh, .long ml, .long nc, .int rs, .int (nI na), .ref qd, .int (nI nz), .ref qg, .long t1, .long t2]))] H := hP
          have hD : va_D A [(o, .inr (3, [.int (rfN true true false), .int (nI ph), .int (zI og), .ref qx, .ref qk, .ref qw, .ref qb, .ref qn, .long mh, .long ml, .long nc, .int rs, .int (nI na), .ref qd, .int (nI nz), .ref qg, .long t1, .long t2]))] := hD
          refine W.widen (k := 0) (n := 0) (Nat.le_of_ble_eq_true rfl) (Nat.le_of_ble_eq_true rfl) ?_
          have e9 : rfN true true false = nI 1 := rfl
          have hP : va_P (dC, dI) vwCl [(o, .inr (3, [.int (nI 1), .int (nI ph), .int (zI og), .ref qx, .ref qk, .ref qw, .ref qb, .ref qn, .long mh, .long ml, .long nc, .int rs, .int (nI na), .ref qd, .int (nI nz), .ref qg, .long t1, .long t2]))] H := by rw [← e9]; exact hP
          have hD : va_D A [(o, .inr (3, [.int (nI 1), .int (nI ph), .int (zI og), .ref qx, .ref qk, .ref qw, .ref qb, .ref qn, .long mh, .long ml, .long nc, .int rs, .int (nI na), .ref qd, .int (nI nz), .ref qg, .long t1, .long t2]))] := by rw [← e9]; exact hD
          refine w_pc (pc2 := 56) rfl ?_
          refine lv_if_eq (tgt := 61) hx hb dX3_text_56 (by decide) (fun hc_56 => ?_) (fun hc_56 => ?_)
          · skip
            exact absurd hc_56 (by decide)
          · skip
            refine lv_lconst (v := lN 0) hx hb dX3_text_59 (by decide) ?_
            exact rt_l hx hb hr hlk hQ hAe hP hD hS [0] (by decide) rfl (Nat.le_of_ble_eq_true rfl) (Nat.le_of_ble_eq_true rfl) (rfl) dX3_text_60
        · skip
          refine lv_iconst (v := nI 1) hx hb dX3_text_48 (by decide) ?_
          refine lv_goto (tgt := 53) hx hb dX3_text_49 (by decide) ?_
          refine cf_1 (wr := []) (va_runV (As := [.int (nI 1), .int (nI 1), .int (nI 1)]) (rest := []) ⟨hx, hb, hml, hown, hta⟩ (MO.to (m_refuses l dC dI o th ph og qx qk qw qb qn mh ml nc rs na qd nz qg t1 t2 true true true) H.size) (cwV 3 hta (aw_V mw_527 mw_524 mw_526 mw_s21 mw_5) rfl rfl rfl ⟨rfl, dyX3_refuses⟩ ⟨(Nat.le_of_ble_eq_true rfl), (Nat.le_of_ble_eq_true rfl)⟩) (pr_V hP hD hK hE [0] [] (by decide) rfl rfl rfl rfl) rfl rfl hl.1 rfl (lv_room (Nat.le_of_ble_eq_true rfl)) dX3_text_53 ⟨(Nat.le_of_ble_eq_true rfl), (Nat.le_of_ble_eq_true rfl)⟩) hP hD hS hA [0] [] rfl rfl (by decide) (by decide) (fun H locs hP hD hS => ?_)
          have hP : va_P (dC, dI) vwCl [(o, .inr (3, [.int (rfN true true true), .int (nI ph), .int (zI og), .ref qx, .ref qk, .ref qw, .ref qb, .ref qn, .long mh, .long ml, .long nc, .int rs, .int (nI na), .ref qd, .int (nI nz), .ref qg, .long t1, .long t2]))] H := hP
          have hD : va_D A [(o, .inr (3, [.int (rfN true true true), .int (nI ph), .int (zI og), .ref qx, .ref qk, .ref qw, .ref qb, .ref qn, .long mh, .long ml, .long nc, .int rs, .int (nI na), .ref qd, .int (nI nz), .ref qg, .long t1, .long t2]))] := hD
          refine W.widen (k := 0) (n := 0) (Nat.le_of_ble_eq_true rfl) (Nat.le_of_ble_eq_true rfl) ?_
          have e9 : rfN true true true = nI 1 := rfl
          have hP : va_P (dC, dI) vwCl [(o, .inr (3, [.int (nI 1), .int (nI ph), .int (zI og), .ref qx, .ref qk, .ref qw, .ref qb, .ref qn, .long mh, .long ml, .long nc, .int rs, .int (nI na), .ref qd, .int (nI nz), .ref qg, .long t1, .long t2]))] H := by rw [← e9]; exact hP
          have hD : va_D A [(o, .inr (3, [.int (nI 1), .int (nI ph), .int (zI og), .ref qx, .ref qk, .ref qw, .ref qb, .ref qn, .long mh, .long ml, .long nc, .int rs, .int (nI na), .ref qd, .int (nI nz), .ref qg, .long t1, .long t2]))] := by rw [← e9]; exact hD
          refine w_pc (pc2 := 56) rfl ?_
          refine lv_if_eq (tgt := 61) hx hb dX3_text_56 (by decide) (fun hc_56 => ?_) (fun hc_56 => ?_)
          · skip
            exact absurd hc_56 (by decide)
          · skip
            refine lv_lconst (v := lN 0) hx hb dX3_text_59 (by decide) ?_
            exact rt_l hx hb hr hlk hQ hAe hP hD hS [0] (by decide) rfl (Nat.le_of_ble_eq_true rfl) (Nat.le_of_ble_eq_true rfl) (rfl) dX3_text_60
      · skip
        refine lv_iload_n hx hb dX3_text_26 rfl (lv_at hl 2 rfl) ?_
        refine lv_bipush (v := nI 8) hx hb dX3_text_27 (by decide) ?_
        refine lv_icmp_le (tgt := 36) hx hb dX3_text_29 (by decide) (fun hc_29 => ?_) (fun hc_29 => ?_)
        · skip
          refine lv_iconst (v := nI 0) hx hb dX3_text_36 (by decide) ?_
          refine lv_aload_n hx hb dX3_text_37 rfl (lv_at hl 0 rfl) ?_
          refine va_get (D := (dC, dI)) (ci := 3) (v := .int (nI nz)) (C := RX3) (T := TX3) (N := 18) hx hb hta inX3 hown hK hP 0 rfl rfl 14 (by decide) (hta _ mw_471) (fun _ h9 => h9) rfl dX3_text_38 ?_
          refine lv_iload_n hx hb dX3_text_41 rfl (lv_at hl 2 rfl) ?_
          refine lv_iadd hx hb dX3_text_42 ?_
          refine lv_bipush (v := nI 96) hx hb dX3_text_43 (by decide) ?_
          refine lv_icmp_le (tgt := 52) hx hb dX3_text_45 (by decide) (fun hc_45 => ?_) (fun hc_45 => ?_)
          · skip
            refine lv_iconst (v := nI 0) hx hb dX3_text_52 (by decide) ?_
            refine cf_1 (wr := []) (va_runV (As := [.int (nI 1), .int (nI 0), .int (nI 0)]) (rest := []) ⟨hx, hb, hml, hown, hta⟩ (MO.to (m_refuses l dC dI o th ph og qx qk qw qb qn mh ml nc rs na qd nz qg t1 t2 true false false) H.size) (cwV 3 hta (aw_V mw_527 mw_524 mw_526 mw_s21 mw_5) rfl rfl rfl ⟨rfl, dyX3_refuses⟩ ⟨(Nat.le_of_ble_eq_true rfl), (Nat.le_of_ble_eq_true rfl)⟩) (pr_V hP hD hK hE [0] [] (by decide) rfl rfl rfl rfl) rfl rfl hl.1 rfl (lv_room (Nat.le_of_ble_eq_true rfl)) dX3_text_53 ⟨(Nat.le_of_ble_eq_true rfl), (Nat.le_of_ble_eq_true rfl)⟩) hP hD hS hA [0] [] rfl rfl (by decide) (by decide) (fun H locs hP hD hS => ?_)
            have hP : va_P (dC, dI) vwCl [(o, .inr (3, [.int (rfN true false false), .int (nI ph), .int (zI og), .ref qx, .ref qk, .ref qw, .ref qb, .ref qn, .long mh, .long ml, .long nc, .int rs, .int (nI na), .ref qd, .int (nI nz), .ref qg, .long t1, .long t2]))] H := hP
            have hD : va_D A [(o, .inr (3, [.int (rfN true false false), .int (nI ph), .int (zI og), .ref qx, .ref qk, .ref qw, .ref qb, .ref qn, .long mh, .long ml, .long nc, .int rs, .int (nI na), .ref qd, .int (nI nz), .ref qg, .long t1, .long t2]))] := hD
            refine W.widen (k := 0) (n := 0) (Nat.le_of_ble_eq_true rfl) (Nat.le_of_ble_eq_true rfl) ?_
            have e9 : rfN true false false = nI 1 := rfl
            have hP : va_P (dC, dI) vwCl [(o, .inr (3, [.int (nI 1), .int (nI ph), .int (zI og), .ref qx, .ref qk, .ref qw, .ref qb, .ref qn, .long mh, .long ml, .long nc, .int rs, .int (nI na), .ref qd, .int (nI nz), .ref qg, .long t1, .long t2]))] H := by rw [← e9]; exact hP
            have hD : va_D A [(o, .inr (3, [.int (nI 1), .int (nI ph), .int (zI og), .ref qx, .ref qk, .ref qw, .ref qb, .ref qn, .long mh, .long ml, .long nc, .int rs, .int (nI na), .ref qd, .int (nI nz), .ref qg, .long t1, .long t2]))] := by rw [← e9]; exact hD
            refine w_pc (pc2 := 56) rfl ?_
            refine lv_if_eq (tgt := 61) hx hb dX3_text_56 (by decide) (fun hc_56 => ?_) (fun hc_56 => ?_)
            · skip
              exact absurd hc_56 (by decide)
            · skip
              refine lv_lconst (v := lN 0) hx hb dX3_text_59 (by decide) ?_
              exact rt_l hx hb hr hlk hQ hAe hP hD hS [0] (by decide) rfl (Nat.le_of_ble_eq_true rfl) (Nat.le_of_ble_eq_true rfl) (rfl) dX3_text_60
          · skip
            refine lv_iconst (v := nI 1) hx hb dX3_text_48 (by decide) ?_
            refine lv_goto (tgt := 53) hx hb dX3_text_49 (by decide) ?_
            refine cf_1 (wr := []) (va_runV (As := [.int (nI 1), .int (nI 0), .int (nI 1)]) (rest := []) ⟨hx, hb, hml, hown, hta⟩ (MO.to (m_refuses l dC dI o th ph og qx qk qw qb qn mh ml nc rs na qd nz qg t1 t2 true false true) H.size) (cwV 3 hta (aw_V mw_527 mw_524 mw_526 mw_s21 mw_5) rfl rfl rfl ⟨rfl, dyX3_refuses⟩ ⟨(Nat.le_of_ble_eq_true rfl), (Nat.le_of_ble_eq_true rfl)⟩) (pr_V hP hD hK hE [0] [] (by decide) rfl rfl rfl rfl) rfl rfl hl.1 rfl (lv_room (Nat.le_of_ble_eq_true rfl)) dX3_text_53 ⟨(Nat.le_of_ble_eq_true rfl), (Nat.le_of_ble_eq_true rfl)⟩) hP hD hS hA [0] [] rfl rfl (by decide) (by decide) (fun H locs hP hD hS => ?_)
            have hP : va_P (dC, dI) vwCl [(o, .inr (3, [.int (rfN true false true), .int (nI ph), .int (zI og), .ref qx, .ref qk, .ref qw, .ref qb, .ref qn, .long mh, .long ml, .long nc, .int rs, .int (nI na), .ref qd, .int (nI nz), .ref qg, .long t1, .long t2]))] H := hP
            have hD : va_D A [(o, .inr (3, [.int (rfN true false true), .int (nI ph), .int (zI og), .ref qx, .ref qk, .ref qw, .ref qb, .ref qn, .long mh, .long ml, .long nc, .int rs, .int (nI na), .ref qd, .int (nI nz), .ref qg, .long t1, .long t2]))] := hD
            refine W.widen (k := 0) (n := 0) (Nat.le_of_ble_eq_true rfl) (Nat.le_of_ble_eq_true rfl) ?_
            have e9 : rfN true false true = nI 1 := rfl
            have hP : va_P (dC, dI) vwCl [(o, .inr (3, [.int (nI 1), .int (nI ph), .int (zI og), .ref qx, .ref qk, .ref qw, .ref qb, .ref qn, .long mh, .long ml, .long nc, .int rs, .int (nI na), .ref qd, .int (nI nz), .ref qg, .long t1, .long t2]))] H := by rw [← e9]; exact hP
            have hD : va_D A [(o, .inr (3, [.int (nI 1), .int (nI ph), .int (zI og), .ref qx, .ref qk, .ref qw, .ref qb, .ref qn, .long mh, .long ml, .long nc, .int rs, .int (nI na), .ref qd, .int (nI nz), .ref qg, .long t1, .long t2]))] := by rw [← e9]; exact hD
            refine w_pc (pc2 := 56) rfl ?_
            refine lv_if_eq (tgt := 61) hx hb dX3_text_56 (by decide) (fun hc_56 => ?_) (fun hc_56 => ?_)
            · skip
              exact absurd hc_56 (by decide)
            · skip
              refine lv_lconst (v := lN 0) hx hb dX3_text_59 (by decide) ?_
              exact rt_l hx hb hr hlk hQ hAe hP hD hS [0] (by decide) rfl (Nat.le_of_ble_eq_true rfl) (Nat.le_of_ble_eq_true rfl) (rfl) dX3_text_60
        · skip
          refine lv_iconst (v := nI 1) hx hb dX3_text_32 (by decide) ?_
          refine lv_goto (tgt := 37) hx hb dX3_text_33 (by decide) ?_
          refine lv_aload_n hx hb dX3_text_37 rfl (lv_at hl 0 rfl) ?_
          refine va_get (D := (dC, dI)) (ci := 3) (v := .int (nI nz)) (C := RX3) (T := TX3) (N := 18) hx hb hta inX3 hown hK hP 0 rfl rfl 14 (by decide) (hta _ mw_471) (fun _ h9 => h9) rfl dX3_text_38 ?_
          refine lv_iload_n hx hb dX3_text_41 rfl (lv_at hl 2 rfl) ?_
          refine lv_iadd hx hb dX3_text_42 ?_
          refine lv_bipush (v := nI 96) hx hb dX3_text_43 (by decide) ?_
          refine lv_icmp_le (tgt := 52) hx hb dX3_text_45 (by decide) (fun hc_45 => ?_) (fun hc_45 => ?_)
          · skip
            refine lv_iconst (v := nI 0) hx hb dX3_text_52 (by decide) ?_
            refine cf_1 (wr := []) (va_runV (As := [.int (nI 1), .int (nI 1), .int (nI 0)]) (rest := []) ⟨hx, hb, hml, hown, hta⟩ (MO.to (m_refuses l dC dI o th ph og qx qk qw qb qn mh ml nc rs na qd nz qg t1 t2 true true false) H.size) (cwV 3 hta (aw_V mw_527 mw_524 mw_526 mw_s21 mw_5) rfl rfl rfl ⟨rfl, dyX3_refuses⟩ ⟨(Nat.le_of_ble_eq_true rfl), (Nat.le_of_ble_eq_true rfl)⟩) (pr_V hP hD hK hE [0] [] (by decide) rfl rfl rfl rfl) rfl rfl hl.1 rfl (lv_room (Nat.le_of_ble_eq_true rfl)) dX3_text_53 ⟨(Nat.le_of_ble_eq_true rfl), (Nat.le_of_ble_eq_true rfl)⟩) hP hD hS hA [0] [] rfl rfl (by decide) (by decide) (fun H locs hP hD hS => ?_)
            have hP : va_P (dC, dI) vwCl [(o, .inr (3, [.int (rfN true true false), .int (nI ph), .int (zI og), .ref qx, .ref qk, .ref qw, .ref qb, .ref qn, .long mh, .long ml, .long nc, .int rs, .int (nI na), .ref qd, .int (nI nz), .ref qg, .long t1, .long t2]))] H := hP
            have hD : va_D A [(o, .inr (3, [.int (rfN true true false), .int (nI ph), .int (zI og), .ref qx, .ref qk, .ref qw, .ref qb, .ref qn, .long mh, .long ml, .long nc, .int rs, .int (nI na), .ref qd, .int (nI nz), .ref qg, .long t1, .long t2]))] := hD
            refine W.widen (k := 0) (n := 0) (Nat.le_of_ble_eq_true rfl) (Nat.le_of_ble_eq_true rfl) ?_
            have e9 : rfN true true false = nI 1 := rfl
            have hP : va_P (dC, dI) vwCl [(o, .inr (3, [.int (nI 1), .int (nI ph), .int (zI og), .ref qx, .ref qk, .ref qw, .ref qb, .ref qn, .long mh, .long ml, .long nc, .int rs, .int (nI na), .ref qd, .int (nI nz), .ref qg, .long t1, .long t2]))] H := by rw [← e9]; exact hP
            have hD : va_D A [(o, .inr (3, [.int (nI 1), .int (nI ph), .int (zI og), .ref qx, .ref qk, .ref qw, .ref qb, .ref qn, .long mh, .long ml, .long nc, .int rs, .int (nI na), .ref qd, .int (nI nz), .ref qg, .long t1, .long t2]))] := by rw [← e9]; exact hD
            refine w_pc (pc2 := 56) rfl ?_
            refine lv_if_eq (tgt := 61) hx hb dX3_text_56 (by decide) (fun hc_56 => ?_) (fun hc_56 => ?_)
            · skip
              exact absurd hc_56 (by decide)
            · skip
              refine lv_lconst (v := lN 0) hx hb dX3_text_59 (by decide) ?_
              exact rt_l hx hb hr hlk hQ hAe hP hD hS [0] (by decide) rfl (Nat.le_of_ble_eq_true rfl) (Nat.le_of_ble_eq_true rfl) (rfl) dX3_text_60
          · skip
            refine lv_iconst (v := nI 1) hx hb dX3_text_48 (by decide) ?_
            refine lv_goto (tgt := 53) hx hb dX3_text_49 (by decide) ?_
            refine cf_1 (wr := []) (va_runV (As := [.int (nI 1), .int (nI 1), .int (nI 1)]) (rest := []) ⟨hx, hb, hml, hown, hta⟩ (MO.to (m_refuses l dC dI o th ph og qx qk qw qb qn mh ml nc rs na qd nz qg t1 t2 true true true) H.size) (cwV 3 hta (aw_V mw_527 mw_524 mw_526 mw_s21 mw_5) rfl rfl rfl ⟨rfl, dyX3_refuses⟩ ⟨(Nat.le_of_ble_eq_true rfl), (Nat.le_of_ble_eq_true rfl)⟩) (pr_V hP hD hK hE [0] [] (by decide) rfl rfl rfl rfl) rfl rfl hl.1 rfl (lv_room (Nat.le_of_ble_eq_true rfl)) dX3_text_53 ⟨(Nat.le_of_ble_eq_true rfl), (Nat.le_of_ble_eq_true rfl)⟩) hP hD hS hA [0] [] rfl rfl (by decide) (by decide) (fun H locs hP hD hS => ?_)
            have hP : va_P (dC, dI) vwCl [(o, .inr (3, [.int (rfN true true true), .int (nI ph), .int (zI og), .ref qx, .ref qk, .ref qw, .ref qb, .ref qn, .long mh, .long ml, .long nc, .int rs, .int (nI na), .ref qd, .int (nI nz), .ref qg, .long t1, .long t2]))] H := hP
            have hD : va_D A [(o, .inr (3, [.int (rfN true true true), .int (nI ph), .int (zI og), .ref qx, .ref qk, .ref qw, .ref qb, .ref qn, .long mh, .long ml, .long nc, .int rs, .int (nI na), .ref qd, .int (nI nz), .ref qg, .long t1, .long t2]))] := hD
            refine W.widen (k := 0) (n := 0) (Nat.le_of_ble_eq_true rfl) (Nat.le_of_ble_eq_true rfl) ?_
            have e9 : rfN true true true = nI 1 := rfl
            have hP : va_P (dC, dI) vwCl [(o, .inr (3, [.int (nI 1), .int (nI ph), .int (zI og), .ref qx, .ref qk, .ref qw, .ref qb, .ref qn, .long mh, .long ml, .long nc, .int rs, .int (nI na), .ref qd, .int (nI nz), .ref qg, .long t1, .long t2]))] H := by rw [← e9]; exact hP
            have hD : va_D A [(o, .inr (3, [.int (nI 1), .int (nI ph), .int (zI og), .ref qx, .ref qk, .ref qw, .ref qb, .ref qn, .long mh, .long ml, .long nc, .int rs, .int (nI na), .ref qd, .int (nI nz), .ref qg, .long t1, .long t2]))] := by rw [← e9]; exact hD
            refine w_pc (pc2 := 56) rfl ?_
            refine lv_if_eq (tgt := 61) hx hb dX3_text_56 (by decide) (fun hc_56 => ?_) (fun hc_56 => ?_)
            · skip
              exact absurd hc_56 (by decide)
            · skip
              refine lv_lconst (v := lN 0) hx hb dX3_text_59 (by decide) ?_
              exact rt_l hx hb hr hlk hQ hAe hP hD hS [0] (by decide) rfl (Nat.le_of_ble_eq_true rfl) (Nat.le_of_ble_eq_true rfl) (rfl) dX3_text_60

def rm_m_text_2 : Room := { frames := 1, cells := 0, slots := 0, locals := 23 }
set_option maxHeartbeats 4000000 in
set_option maxRecDepth 100000 in
/-- text, refused -/
theorem m_text_2 (l : Launch) (dC : Nat → ClassId) (dI : Nat → Nat → Nat) (o : Nat) (th : Int32) (ph : Nat) (og : Bool) (qx : Nat) (qk : Nat) (qw : Nat) (qb : Nat) (qn : Nat) (mh : Int64) (ml : Int64) (nc : Int64) (rs : Int32) (na : Nat) (qd : Nat) (nz : Nat) (qg : Nat) (t1 : Int64) (t2 : Int64) (y : Int64) (v : Int32) (hph6 : ph < 6) (huw : ph = 1 ∨ ph = 2) (hno : v < 0 ∨ nI 9 ≤ v) : MO l dC dI yX3_text wsX3_text rm_m_text_2 [.ref o, .long y, .int v] [(o, .inr (3, [.int th, .int (nI ph), .int (zI og), .ref qx, .ref qk, .ref qw, .ref qb, .ref qn, .long mh, .long ml, .long nc, .int rs, .int (nI na), .ref qd, .int (nI nz), .ref qg, .long t1, .long t2]))] [] [(o, .inr (3, [.int (nI 2), .int (nI ph), .int (zI og), .ref qx, .ref qk, .ref qw, .ref qb, .ref qn, .long mh, .long ml, .long nc, .int rs, .int (nI na), .ref qd, .int (nI nz), .ref qg, .long t1, .long t2]))] (some (.long (lN 0))) := by
  refine mo_ofW (cc := cX3_text) (maxL := 7) (ret := (some .long)) (by decide) rfl (Nat.le_of_ble_eq_true rfl) ?_
  intro p e s m args below meth c Q A H locs ls hx hb hr hlk hml hta hown hin hE hQ hAe hA hK hP hD hS hl
  have hown : s.vm.findClass RX3 = some m.cls := hown
  have hl : lv_has ls 7 [(0, .ref o), (1, .long y), (3, .int v)] := hl
  refine lv_aload_n hx hb dX3_text_0 rfl (lv_at hl 0 rfl) ?_
  refine lv_aload_n hx hb dX3_text_1 rfl (lv_at hl 0 rfl) ?_
  refine va_get (D := (dC, dI)) (ci := 3) (v := .int (nI ph)) (C := RX3) (T := TX3) (N := 18) hx hb hta inX3 hown hK hP 0 rfl rfl 1 (by decide) (hta _ mw_458) (fun _ h9 => h9) rfl dX3_text_2 ?_
  refine lv_iconst (v := nI 1) hx hb dX3_text_5 (by decide) ?_
  refine lv_icmp_eq (tgt := 21) hx hb dX3_text_6 (by decide) (fun hc_6 => ?_) (fun hc_6 => ?_)
  · skip
    have hc_6 := (ix_eq (a := ph) (b := 1) (by omega) (by omega)).mp hc_6
    have hc_6 : (ph = 1) := hc_6
    refine lv_iconst (v := nI 0) hx hb dX3_text_21 (by decide) ?_
    refine lv_iload_n hx hb dX3_text_22 rfl (lv_at hl 2 rfl) ?_
    refine lv_if_lt (tgt := 32) hx hb dX3_text_23 (by decide) (fun hc_23 => ?_) (fun hc_23 => ?_)
    · skip
      refine lv_iconst (v := nI 1) hx hb dX3_text_32 (by decide) ?_
      refine lv_goto (tgt := 37) hx hb dX3_text_33 (by decide) ?_
      refine lv_aload_n hx hb dX3_text_37 rfl (lv_at hl 0 rfl) ?_
      refine va_get (D := (dC, dI)) (ci := 3) (v := .int (nI nz)) (C := RX3) (T := TX3) (N := 18) hx hb hta inX3 hown hK hP 0 rfl rfl 14 (by decide) (hta _ mw_471) (fun _ h9 => h9) rfl dX3_text_38 ?_
      refine lv_iload_n hx hb dX3_text_41 rfl (lv_at hl 2 rfl) ?_
      refine lv_iadd hx hb dX3_text_42 ?_
      refine lv_bipush (v := nI 96) hx hb dX3_text_43 (by decide) ?_
      refine lv_icmp_le (tgt := 52) hx hb dX3_text_45 (by decide) (fun hc_45 => ?_) (fun hc_45 => ?_)
      · skip
        refine lv_iconst (v := nI 0) hx hb dX3_text_52 (by decide) ?_
        refine cf_1 (wr := []) (va_runV (As := [.int (nI 0), .int (nI 1), .int (nI 0)]) (rest := []) ⟨hx, hb, hml, hown, hta⟩ (MO.to (m_refuses l dC dI o th ph og qx qk qw qb qn mh ml nc rs na qd nz qg t1 t2 false true false) H.size) (cwV 3 hta (aw_V mw_527 mw_524 mw_526 mw_s21 mw_5) rfl rfl rfl ⟨rfl, dyX3_refuses⟩ ⟨(Nat.le_of_ble_eq_true rfl), (Nat.le_of_ble_eq_true rfl)⟩) (pr_V hP hD hK hE [0] [] (by decide) rfl rfl rfl rfl) rfl rfl hl.1 rfl (lv_room (Nat.le_of_ble_eq_true rfl)) dX3_text_53 ⟨(Nat.le_of_ble_eq_true rfl), (Nat.le_of_ble_eq_true rfl)⟩) hP hD hS hA [0] [] rfl rfl (by decide) (by decide) (fun H locs hP hD hS => ?_)
        have hP : va_P (dC, dI) vwCl [(o, .inr (3, [.int (rfN false true false), .int (nI ph), .int (zI og), .ref qx, .ref qk, .ref qw, .ref qb, .ref qn, .long mh, .long ml, .long nc, .int rs, .int (nI na), .ref qd, .int (nI nz), .ref qg, .long t1, .long t2]))] H := hP
        have hD : va_D A [(o, .inr (3, [.int (rfN false true false), .int (nI ph), .int (zI og), .ref qx, .ref qk, .ref qw, .ref qb, .ref qn, .long mh, .long ml, .long nc, .int rs, .int (nI na), .ref qd, .int (nI nz), .ref qg, .long t1, .long t2]))] := hD
        refine W.widen (k := 0) (n := 0) (Nat.le_of_ble_eq_true rfl) (Nat.le_of_ble_eq_true rfl) ?_
        have e9 : rfN false true false = nI 2 := rfl
        have hP : va_P (dC, dI) vwCl [(o, .inr (3, [.int (nI 2), .int (nI ph), .int (zI og), .ref qx, .ref qk, .ref qw, .ref qb, .ref qn, .long mh, .long ml, .long nc, .int rs, .int (nI na), .ref qd, .int (nI nz), .ref qg, .long t1, .long t2]))] H := by rw [← e9]; exact hP
        have hD : va_D A [(o, .inr (3, [.int (nI 2), .int (nI ph), .int (zI og), .ref qx, .ref qk, .ref qw, .ref qb, .ref qn, .long mh, .long ml, .long nc, .int rs, .int (nI na), .ref qd, .int (nI nz), .ref qg, .long t1, .long t2]))] := by rw [← e9]; exact hD
        refine w_pc (pc2 := 56) rfl ?_
        refine lv_if_eq (tgt := 61) hx hb dX3_text_56 (by decide) (fun hc_56 => ?_) (fun hc_56 => ?_)
        · skip
          exact absurd hc_56 (by decide)
        · skip
          refine lv_lconst (v := lN 0) hx hb dX3_text_59 (by decide) ?_
          exact rt_l hx hb hr hlk hQ hAe hP hD hS [0] (by decide) rfl (Nat.le_of_ble_eq_true rfl) (Nat.le_of_ble_eq_true rfl) (rfl) dX3_text_60
      · skip
        refine lv_iconst (v := nI 1) hx hb dX3_text_48 (by decide) ?_
        refine lv_goto (tgt := 53) hx hb dX3_text_49 (by decide) ?_
        refine cf_1 (wr := []) (va_runV (As := [.int (nI 0), .int (nI 1), .int (nI 1)]) (rest := []) ⟨hx, hb, hml, hown, hta⟩ (MO.to (m_refuses l dC dI o th ph og qx qk qw qb qn mh ml nc rs na qd nz qg t1 t2 false true true) H.size) (cwV 3 hta (aw_V mw_527 mw_524 mw_526 mw_s21 mw_5) rfl rfl rfl ⟨rfl, dyX3_refuses⟩ ⟨(Nat.le_of_ble_eq_true rfl), (Nat.le_of_ble_eq_true rfl)⟩) (pr_V hP hD hK hE [0] [] (by decide) rfl rfl rfl rfl) rfl rfl hl.1 rfl (lv_room (Nat.le_of_ble_eq_true rfl)) dX3_text_53 ⟨(Nat.le_of_ble_eq_true rfl), (Nat.le_of_ble_eq_true rfl)⟩) hP hD hS hA [0] [] rfl rfl (by decide) (by decide) (fun H locs hP hD hS => ?_)
        have hP : va_P (dC, dI) vwCl [(o, .inr (3, [.int (rfN false true true), .int (nI ph), .int (zI og), .ref qx, .ref qk, .ref qw, .ref qb, .ref qn, .long mh, .long ml, .long nc, .int rs, .int (nI na), .ref qd, .int (nI nz), .ref qg, .long t1, .long t2]))] H := hP
        have hD : va_D A [(o, .inr (3, [.int (rfN false true true), .int (nI ph), .int (zI og), .ref qx, .ref qk, .ref qw, .ref qb, .ref qn, .long mh, .long ml, .long nc, .int rs, .int (nI na), .ref qd, .int (nI nz), .ref qg, .long t1, .long t2]))] := hD
        refine W.widen (k := 0) (n := 0) (Nat.le_of_ble_eq_true rfl) (Nat.le_of_ble_eq_true rfl) ?_
        have e9 : rfN false true true = nI 2 := rfl
        have hP : va_P (dC, dI) vwCl [(o, .inr (3, [.int (nI 2), .int (nI ph), .int (zI og), .ref qx, .ref qk, .ref qw, .ref qb, .ref qn, .long mh, .long ml, .long nc, .int rs, .int (nI na), .ref qd, .int (nI nz), .ref qg, .long t1, .long t2]))] H := by rw [← e9]; exact hP
        have hD : va_D A [(o, .inr (3, [.int (nI 2), .int (nI ph), .int (zI og), .ref qx, .ref qk, .ref qw, .ref qb, .ref qn, .long mh, .long ml, .long nc, .int rs, .int (nI na), .ref qd, .int (nI nz), .ref qg, .long t1, .long t2]))] := by rw [← e9]; exact hD
        refine w_pc (pc2 := 56) rfl ?_
        refine lv_if_eq (tgt := 61) hx hb dX3_text_56 (by decide) (fun hc_56 => ?_) (fun hc_56 => ?_)
        · skip
          exact absurd hc_56 (by decide)
        · skip
          refine lv_lconst (v := lN 0) hx hb dX3_text_59 (by decide) ?_
          exact rt_l hx hb hr hlk hQ hAe hP hD hS [0] (by decide) rfl (Nat.le_of_ble_eq_true rfl) (Nat.le_of_ble_eq_true rfl) (rfl) dX3_text_60
    · skip
      refine lv_iload_n hx hb dX3_text_26 rfl (lv_at hl 2 rfl) ?_
      refine lv_bipush (v := nI 8) hx hb dX3_text_27 (by decide) ?_
      refine lv_icmp_le (tgt := 36) hx hb dX3_text_29 (by decide) (fun hc_29 => ?_) (fun hc_29 => ?_)
      · skip
        exact absurd hc_29 (ge_le hno (by assumption) (by decide))
      · skip
        refine lv_iconst (v := nI 1) hx hb dX3_text_32 (by decide) ?_
        refine lv_goto (tgt := 37) hx hb dX3_text_33 (by decide) ?_
        refine lv_aload_n hx hb dX3_text_37 rfl (lv_at hl 0 rfl) ?_
        refine va_get (D := (dC, dI)) (ci := 3) (v := .int (nI nz)) (C := RX3) (T := TX3) (N := 18) hx hb hta inX3 hown hK hP 0 rfl rfl 14 (by decide) (hta _ mw_471) (fun _ h9 => h9) rfl dX3_text_38 ?_
        refine lv_iload_n hx hb dX3_text_41 rfl (lv_at hl 2 rfl) ?_
        refine lv_iadd hx hb dX3_text_42 ?_
        refine lv_bipush (v := nI 96) hx hb dX3_text_43 (by decide) ?_
        refine lv_icmp_le (tgt := 52) hx hb dX3_text_45 (by decide) (fun hc_45 => ?_) (fun hc_45 => ?_)
        · skip
          refine lv_iconst (v := nI 0) hx hb dX3_text_52 (by decide) ?_
          refine cf_1 (wr := []) (va_runV (As := [.int (nI 0), .int (nI 1), .int (nI 0)]) (rest := []) ⟨hx, hb, hml, hown, hta⟩ (MO.to (m_refuses l dC dI o th ph og qx qk qw qb qn mh ml nc rs na qd nz qg t1 t2 false true false) H.size) (cwV 3 hta (aw_V mw_527 mw_524 mw_526 mw_s21 mw_5) rfl rfl rfl ⟨rfl, dyX3_refuses⟩ ⟨(Nat.le_of_ble_eq_true rfl), (Nat.le_of_ble_eq_true rfl)⟩) (pr_V hP hD hK hE [0] [] (by decide) rfl rfl rfl rfl) rfl rfl hl.1 rfl (lv_room (Nat.le_of_ble_eq_true rfl)) dX3_text_53 ⟨(Nat.le_of_ble_eq_true rfl), (Nat.le_of_ble_eq_true rfl)⟩) hP hD hS hA [0] [] rfl rfl (by decide) (by decide) (fun H locs hP hD hS => ?_)
          have hP : va_P (dC, dI) vwCl [(o, .inr (3, [.int (rfN false true false), .int (nI ph), .int (zI og), .ref qx, .ref qk, .ref qw, .ref qb, .ref qn, .long mh, .long ml, .long nc, .int rs, .int (nI na), .ref qd, .int (nI nz), .ref qg, .long t1, .long t2]))] H := hP
          have hD : va_D A [(o, .inr (3, [.int (rfN false true false), .int (nI ph), .int (zI og), .ref qx, .ref qk, .ref qw, .ref qb, .ref qn, .long mh, .long ml, .long nc, .int rs, .int (nI na), .ref qd, .int (nI nz), .ref qg, .long t1, .long t2]))] := hD
          refine W.widen (k := 0) (n := 0) (Nat.le_of_ble_eq_true rfl) (Nat.le_of_ble_eq_true rfl) ?_
          have e9 : rfN false true false = nI 2 := rfl
          have hP : va_P (dC, dI) vwCl [(o, .inr (3, [.int (nI 2), .int (nI ph), .int (zI og), .ref qx, .ref qk, .ref qw, .ref qb, .ref qn, .long mh, .long ml, .long nc, .int rs, .int (nI na), .ref qd, .int (nI nz), .ref qg, .long t1, .long t2]))] H := by rw [← e9]; exact hP
          have hD : va_D A [(o, .inr (3, [.int (nI 2), .int (nI ph), .int (zI og), .ref qx, .ref qk, .ref qw, .ref qb, .ref qn, .long mh, .long ml, .long nc, .int rs, .int (nI na), .ref qd, .int (nI nz), .ref qg, .long t1, .long t2]))] := by rw [← e9]; exact hD
          refine w_pc (pc2 := 56) rfl ?_
          refine lv_if_eq (tgt := 61) hx hb dX3_text_56 (by decide) (fun hc_56 => ?_) (fun hc_56 => ?_)
          · skip
            exact absurd hc_56 (by decide)
          · skip
            refine lv_lconst (v := lN 0) hx hb dX3_text_59 (by decide) ?_
            exact rt_l hx hb hr hlk hQ hAe hP hD hS [0] (by decide) rfl (Nat.le_of_ble_eq_true rfl) (Nat.le_of_ble_eq_true rfl) (rfl) dX3_text_60
        · skip
          refine lv_iconst (v := nI 1) hx hb dX3_text_48 (by decide) ?_
          refine lv_goto (tgt := 53) hx hb dX3_text_49 (by decide) ?_
          refine cf_1 (wr := []) (va_runV (As := [.int (nI 0), .int (nI 1), .int (nI 1)]) (rest := []) ⟨hx, hb, hml, hown, hta⟩ (MO.to (m_refuses l dC dI o th ph og qx qk qw qb qn mh ml nc rs na qd nz qg t1 t2 false true true) H.size) (cwV 3 hta (aw_V mw_527 mw_524 mw_526 mw_s21 mw_5) rfl rfl rfl ⟨rfl, dyX3_refuses⟩ ⟨(Nat.le_of_ble_eq_true rfl), (Nat.le_of_ble_eq_true rfl)⟩) (pr_V hP hD hK hE [0] [] (by decide) rfl rfl rfl rfl) rfl rfl hl.1 rfl (lv_room (Nat.le_of_ble_eq_true rfl)) dX3_text_53 ⟨(Nat.le_of_ble_eq_true rfl), (Nat.le_of_ble_eq_true rfl)⟩) hP hD hS hA [0] [] rfl rfl (by decide) (by decide) (fun H locs hP hD hS => ?_)
          have hP : va_P (dC, dI) vwCl [(o, .inr (3, [.int (rfN false true true), .int (nI ph), .int (zI og), .ref qx, .ref qk, .ref qw, .ref qb, .ref qn, .long mh, .long ml, .long nc, .int rs, .int (nI na), .ref qd, .int (nI nz), .ref qg, .long t1, .long t2]))] H := hP
          have hD : va_D A [(o, .inr (3, [.int (rfN false true true), .int (nI ph), .int (zI og), .ref qx, .ref qk, .ref qw, .ref qb, .ref qn, .long mh, .long ml, .long nc, .int rs, .int (nI na), .ref qd, .int (nI nz), .ref qg, .long t1, .long t2]))] := hD
          refine W.widen (k := 0) (n := 0) (Nat.le_of_ble_eq_true rfl) (Nat.le_of_ble_eq_true rfl) ?_
          have e9 : rfN false true true = nI 2 := rfl
          have hP : va_P (dC, dI) vwCl [(o, .inr (3, [.int (nI 2), .int (nI ph), .int (zI og), .ref qx, .ref qk, .ref qw, .ref qb, .ref qn, .long mh, .long ml, .long nc, .int rs, .int (nI na), .ref qd, .int (nI nz), .ref qg, .long t1, .long t2]))] H := by rw [← e9]; exact hP
          have hD : va_D A [(o, .inr (3, [.int (nI 2), .int (nI ph), .int (zI og), .ref qx, .ref qk, .ref qw, .ref qb, .ref qn, .long mh, .long ml, .long nc, .int rs, .int (nI na), .ref qd, .int (nI nz), .ref qg, .long t1, .long t2]))] := by rw [← e9]; exact hD
          refine w_pc (pc2 := 56) rfl ?_
          refine lv_if_eq (tgt := 61) hx hb dX3_text_56 (by decide) (fun hc_56 => ?_) (fun hc_56 => ?_)
          · skip
            exact absurd hc_56 (by decide)
          · skip
            refine lv_lconst (v := lN 0) hx hb dX3_text_59 (by decide) ?_
            exact rt_l hx hb hr hlk hQ hAe hP hD hS [0] (by decide) rfl (Nat.le_of_ble_eq_true rfl) (Nat.le_of_ble_eq_true rfl) (rfl) dX3_text_60
  · skip
    have hc_6 := (not_congr (ix_eq (a := ph) (b := 1) (by omega) (by omega))).mp hc_6
    have hc_6 : ¬ (ph = 1) := hc_6
    refine lv_aload_n hx hb dX3_text_9 rfl (lv_at hl 0 rfl) ?_
    refine va_get (D := (dC, dI)) (ci := 3) (v := .int (nI ph)) (C := RX3) (T := TX3) (N := 18) hx hb hta inX3 hown hK hP 0 rfl rfl 1 (by decide) (hta _ mw_458) (fun _ h9 => h9) rfl dX3_text_10 ?_
    refine lv_iconst (v := nI 2) hx hb dX3_text_13 (by decide) ?_
    refine lv_icmp_eq (tgt := 21) hx hb dX3_text_14 (by decide) (fun hc_14 => ?_) (fun hc_14 => ?_)
    · skip
      have hc_14 := (ix_eq (a := ph) (b := 2) (by omega) (by omega)).mp hc_14
      have hc_14 : (ph = 2) := hc_14
      refine lv_iconst (v := nI 0) hx hb dX3_text_21 (by decide) ?_
      refine lv_iload_n hx hb dX3_text_22 rfl (lv_at hl 2 rfl) ?_
      refine lv_if_lt (tgt := 32) hx hb dX3_text_23 (by decide) (fun hc_23 => ?_) (fun hc_23 => ?_)
      · skip
        refine lv_iconst (v := nI 1) hx hb dX3_text_32 (by decide) ?_
        refine lv_goto (tgt := 37) hx hb dX3_text_33 (by decide) ?_
        refine lv_aload_n hx hb dX3_text_37 rfl (lv_at hl 0 rfl) ?_
        refine va_get (D := (dC, dI)) (ci := 3) (v := .int (nI nz)) (C := RX3) (T := TX3) (N := 18) hx hb hta inX3 hown hK hP 0 rfl rfl 14 (by decide) (hta _ mw_471) (fun _ h9 => h9) rfl dX3_text_38 ?_
        refine lv_iload_n hx hb dX3_text_41 rfl (lv_at hl 2 rfl) ?_
        refine lv_iadd hx hb dX3_text_42 ?_
        refine lv_bipush (v := nI 96) hx hb dX3_text_43 (by decide) ?_
        refine lv_icmp_le (tgt := 52) hx hb dX3_text_45 (by decide) (fun hc_45 => ?_) (fun hc_45 => ?_)
        · skip
          refine lv_iconst (v := nI 0) hx hb dX3_text_52 (by decide) ?_
          refine cf_1 (wr := []) (va_runV (As := [.int (nI 0), .int (nI 1), .int (nI 0)]) (rest := []) ⟨hx, hb, hml, hown, hta⟩ (MO.to (m_refuses l dC dI o th ph og qx qk qw qb qn mh ml nc rs na qd nz qg t1 t2 false true false) H.size) (cwV 3 hta (aw_V mw_527 mw_524 mw_526 mw_s21 mw_5) rfl rfl rfl ⟨rfl, dyX3_refuses⟩ ⟨(Nat.le_of_ble_eq_true rfl), (Nat.le_of_ble_eq_true rfl)⟩) (pr_V hP hD hK hE [0] [] (by decide) rfl rfl rfl rfl) rfl rfl hl.1 rfl (lv_room (Nat.le_of_ble_eq_true rfl)) dX3_text_53 ⟨(Nat.le_of_ble_eq_true rfl), (Nat.le_of_ble_eq_true rfl)⟩) hP hD hS hA [0] [] rfl rfl (by decide) (by decide) (fun H locs hP hD hS => ?_)
          have hP : va_P (dC, dI) vwCl [(o, .inr (3, [.int (rfN false true false), .int (nI ph), .int (zI og), .ref qx, .ref qk, .ref qw, .ref qb, .ref qn, .long mh, .long ml, .long nc, .int rs, .int (nI na), .ref qd, .int (nI nz), .ref qg, .long t1, .long t2]))] H := hP
          have hD : va_D A [(o, .inr (3, [.int (rfN false true false), .int (nI ph), .int (zI og), .ref qx, .ref qk, .ref qw, .ref qb, .ref qn, .long mh, .long ml, .long nc, .int rs, .int (nI na), .ref qd, .int (nI nz), .ref qg, .long t1, .long t2]))] := hD
          refine W.widen (k := 0) (n := 0) (Nat.le_of_ble_eq_true rfl) (Nat.le_of_ble_eq_true rfl) ?_
          have e9 : rfN false true false = nI 2 := rfl
          have hP : va_P (dC, dI) vwCl [(o, .inr (3, [.int (nI 2), .int (nI ph), .int (zI og), .ref qx, .ref qk, .ref qw, .ref qb, .ref qn, .long mh, .long ml, .long nc, .int rs, .int (nI na), .ref qd, .int (nI nz), .ref qg, .long t1, .long t2]))] H := by rw [← e9]; exact hP
          have hD : va_D A [(o, .inr (3, [.int (nI 2), .int (nI ph), .int (zI og), .ref qx, .ref qk, .ref qw, .ref qb, .ref qn, .long mh, .long ml, .long nc, .int rs, .int (nI na), .ref qd, .int (nI nz), .ref qg, .long t1, .long t2]))] := by rw [← e9]; exact hD
          refine w_pc (pc2 := 56) rfl ?_
          refine lv_if_eq (tgt := 61) hx hb dX3_text_56 (by decide) (fun hc_56 => ?_) (fun hc_56 => ?_)
          · skip
            exact absurd hc_56 (by decide)
          · skip
            refine lv_lconst (v := lN 0) hx hb dX3_text_59 (by decide) ?_
            exact rt_l hx hb hr hlk hQ hAe hP hD hS [0] (by decide) rfl (Nat.le_of_ble_eq_true rfl) (Nat.le_of_ble_eq_true rfl) (rfl) dX3_text_60
        · skip
          refine lv_iconst (v := nI 1) hx hb dX3_text_48 (by decide) ?_
          refine lv_goto (tgt := 53) hx hb dX3_text_49 (by decide) ?_
          refine cf_1 (wr := []) (va_runV (As := [.int (nI 0), .int (nI 1), .int (nI 1)]) (rest := []) ⟨hx, hb, hml, hown, hta⟩ (MO.to (m_refuses l dC dI o th ph og qx qk qw qb qn mh ml nc rs na qd nz qg t1 t2 false true true) H.size) (cwV 3 hta (aw_V mw_527 mw_524 mw_526 mw_s21 mw_5) rfl rfl rfl ⟨rfl, dyX3_refuses⟩ ⟨(Nat.le_of_ble_eq_true rfl), (Nat.le_of_ble_eq_true rfl)⟩) (pr_V hP hD hK hE [0] [] (by decide) rfl rfl rfl rfl) rfl rfl hl.1 rfl (lv_room (Nat.le_of_ble_eq_true rfl)) dX3_text_53 ⟨(Nat.le_of_ble_eq_true rfl), (Nat.le_of_ble_eq_true rfl)⟩) hP hD hS hA [0] [] rfl rfl (by decide) (by decide) (fun H locs hP hD hS => ?_)
          have hP : va_P (dC, dI) vwCl [(o, .inr (3, [.int (rfN false true true), .int (nI ph), .int (zI og), .ref qx, .ref qk, .ref qw, .ref qb, .ref qn, .long mh, .long ml, .long nc, .int rs, .int (nI na), .ref qd, .int (nI nz), .ref qg, .long t1, .long t2]))] H := hP
          have hD : va_D A [(o, .inr (3, [.int (rfN false true true), .int (nI ph), .int (zI og), .ref qx, .ref qk, .ref qw, .ref qb, .ref qn, .long mh, .long ml, .long nc, .int rs, .int (nI na), .ref qd, .int (nI nz), .ref qg, .long t1, .long t2]))] := hD
          refine W.widen (k := 0) (n := 0) (Nat.le_of_ble_eq_true rfl) (Nat.le_of_ble_eq_true rfl) ?_
          have e9 : rfN false true true = nI 2 := rfl
          have hP : va_P (dC, dI) vwCl [(o, .inr (3, [.int (nI 2), .int (nI ph), .int (zI og), .ref qx, .ref qk, .ref qw, .ref qb, .ref qn, .long mh, .long ml, .long nc, .int rs, .int (nI na), .ref qd, .int (nI nz), .ref qg, .long t1, .long t2]))] H := by rw [← e9]; exact hP
          have hD : va_D A [(o, .inr (3, [.int (nI 2), .int (nI ph), .int (zI og), .ref qx, .ref qk, .ref qw, .ref qb, .ref qn, .long mh, .long ml, .long nc, .int rs, .int (nI na), .ref qd, .int (nI nz), .ref qg, .long t1, .long t2]))] := by rw [← e9]; exact hD
          refine w_pc (pc2 := 56) rfl ?_
          refine lv_if_eq (tgt := 61) hx hb dX3_text_56 (by decide) (fun hc_56 => ?_) (fun hc_56 => ?_)
          · skip
            exact absurd hc_56 (by decide)
          · skip
            refine lv_lconst (v := lN 0) hx hb dX3_text_59 (by decide) ?_
            exact rt_l hx hb hr hlk hQ hAe hP hD hS [0] (by decide) rfl (Nat.le_of_ble_eq_true rfl) (Nat.le_of_ble_eq_true rfl) (rfl) dX3_text_60
      · skip
        refine lv_iload_n hx hb dX3_text_26 rfl (lv_at hl 2 rfl) ?_
        refine lv_bipush (v := nI 8) hx hb dX3_text_27 (by decide) ?_
        refine lv_icmp_le (tgt := 36) hx hb dX3_text_29 (by decide) (fun hc_29 => ?_) (fun hc_29 => ?_)
        · skip
          exact absurd hc_29 (ge_le hno (by assumption) (by decide))
        · skip
          refine lv_iconst (v := nI 1) hx hb dX3_text_32 (by decide) ?_
          refine lv_goto (tgt := 37) hx hb dX3_text_33 (by decide) ?_
          refine lv_aload_n hx hb dX3_text_37 rfl (lv_at hl 0 rfl) ?_
          refine va_get (D := (dC, dI)) (ci := 3) (v := .int (nI nz)) (C := RX3) (T := TX3) (N := 18) hx hb hta inX3 hown hK hP 0 rfl rfl 14 (by decide) (hta _ mw_471) (fun _ h9 => h9) rfl dX3_text_38 ?_
          refine lv_iload_n hx hb dX3_text_41 rfl (lv_at hl 2 rfl) ?_
          refine lv_iadd hx hb dX3_text_42 ?_
          refine lv_bipush (v := nI 96) hx hb dX3_text_43 (by decide) ?_
          refine lv_icmp_le (tgt := 52) hx hb dX3_text_45 (by decide) (fun hc_45 => ?_) (fun hc_45 => ?_)
          · skip
            refine lv_iconst (v := nI 0) hx hb dX3_text_52 (by decide) ?_
            refine cf_1 (wr := []) (va_runV (As := [.int (nI 0), .int (nI 1), .int (nI 0)]) (rest := []) ⟨hx, hb, hml, hown, hta⟩ (MO.to (m_refuses l dC dI o th ph og qx qk qw qb qn mh ml nc rs na qd nz qg t1 t2 false true false) H.size) (cwV 3 hta (aw_V mw_527 mw_524 mw_526 mw_s21 mw_5) rfl rfl rfl ⟨rfl, dyX3_refuses⟩ ⟨(Nat.le_of_ble_eq_true rfl), (Nat.le_of_ble_eq_true rfl)⟩) (pr_V hP hD hK hE [0] [] (by decide) rfl rfl rfl rfl) rfl rfl hl.1 rfl (lv_room (Nat.le_of_ble_eq_true rfl)) dX3_text_53 ⟨(Nat.le_of_ble_eq_true rfl), (Nat.le_of_ble_eq_true rfl)⟩) hP hD hS hA [0] [] rfl rfl (by decide) (by decide) (fun H locs hP hD hS => ?_)
            have hP : va_P (dC, dI) vwCl [(o, .inr (3, [.int (rfN false true false), .int (nI ph), .int (zI og), .ref qx, .ref qk, .ref qw, .ref qb, .ref qn, .long mh, .long ml, .long nc, .int rs, .int (nI na), .ref qd, .int (nI nz), .ref qg, .long t1, .long t2]))] H := hP
            have hD : va_D A [(o, .inr (3, [.int (rfN false true false), .int (nI ph), .int (zI og), .ref qx, .ref qk, .ref qw, .ref qb, .ref qn, .long mh, .long ml, .long nc, .int rs, .int (nI na), .ref qd, .int (nI nz), .ref qg, .long t1, .long t2]))] := hD
            refine W.widen (k := 0) (n := 0) (Nat.le_of_ble_eq_true rfl) (Nat.le_of_ble_eq_true rfl) ?_
            have e9 : rfN false true false = nI 2 := rfl
            have hP : va_P (dC, dI) vwCl [(o, .inr (3, [.int (nI 2), .int (nI ph), .int (zI og), .ref qx, .ref qk, .ref qw, .ref qb, .ref qn, .long mh, .long ml, .long nc, .int rs, .int (nI na), .ref qd, .int (nI nz), .ref qg, .long t1, .long t2]))] H := by rw [← e9]; exact hP
            have hD : va_D A [(o, .inr (3, [.int (nI 2), .int (nI ph), .int (zI og), .ref qx, .ref qk, .ref qw, .ref qb, .ref qn, .long mh, .long ml, .long nc, .int rs, .int (nI na), .ref qd, .int (nI nz), .ref qg, .long t1, .long t2]))] := by rw [← e9]; exact hD
            refine w_pc (pc2 := 56) rfl ?_
            refine lv_if_eq (tgt := 61) hx hb dX3_text_56 (by decide) (fun hc_56 => ?_) (fun hc_56 => ?_)
            · skip
              exact absurd hc_56 (by decide)
            · skip
              refine lv_lconst (v := lN 0) hx hb dX3_text_59 (by decide) ?_
              exact rt_l hx hb hr hlk hQ hAe hP hD hS [0] (by decide) rfl (Nat.le_of_ble_eq_true rfl) (Nat.le_of_ble_eq_true rfl) (rfl) dX3_text_60
          · skip
            refine lv_iconst (v := nI 1) hx hb dX3_text_48 (by decide) ?_
            refine lv_goto (tgt := 53) hx hb dX3_text_49 (by decide) ?_
            refine cf_1 (wr := []) (va_runV (As := [.int (nI 0), .int (nI 1), .int (nI 1)]) (rest := []) ⟨hx, hb, hml, hown, hta⟩ (MO.to (m_refuses l dC dI o th ph og qx qk qw qb qn mh ml nc rs na qd nz qg t1 t2 false true true) H.size) (cwV 3 hta (aw_V mw_527 mw_524 mw_526 mw_s21 mw_5) rfl rfl rfl ⟨rfl, dyX3_refuses⟩ ⟨(Nat.le_of_ble_eq_true rfl), (Nat.le_of_ble_eq_true rfl)⟩) (pr_V hP hD hK hE [0] [] (by decide) rfl rfl rfl rfl) rfl rfl hl.1 rfl (lv_room (Nat.le_of_ble_eq_true rfl)) dX3_text_53 ⟨(Nat.le_of_ble_eq_true rfl), (Nat.le_of_ble_eq_true rfl)⟩) hP hD hS hA [0] [] rfl rfl (by decide) (by decide) (fun H locs hP hD hS => ?_)
            have hP : va_P (dC, dI) vwCl [(o, .inr (3, [.int (rfN false true true), .int (nI ph), .int (zI og), .ref qx, .ref qk, .ref qw, .ref qb, .ref qn, .long mh, .long ml, .long nc, .int rs, .int (nI na), .ref qd, .int (nI nz), .ref qg, .long t1, .long t2]))] H := hP
            have hD : va_D A [(o, .inr (3, [.int (rfN false true true), .int (nI ph), .int (zI og), .ref qx, .ref qk, .ref qw, .ref qb, .ref qn, .long mh, .long ml, .long nc, .int rs, .int (nI na), .ref qd, .int (nI nz), .ref qg, .long t1, .long t2]))] := hD
            refine W.widen (k := 0) (n := 0) (Nat.le_of_ble_eq_true rfl) (Nat.le_of_ble_eq_true rfl) ?_
            have e9 : rfN false true true = nI 2 := rfl
            have hP : va_P (dC, dI) vwCl [(o, .inr (3, [.int (nI 2), .int (nI ph), .int (zI og), .ref qx, .ref qk, .ref qw, .ref qb, .ref qn, .long mh, .long ml, .long nc, .int rs, .int (nI na), .ref qd, .int (nI nz), .ref qg, .long t1, .long t2]))] H := by rw [← e9]; exact hP
            have hD : va_D A [(o, .inr (3, [.int (nI 2), .int (nI ph), .int (zI og), .ref qx, .ref qk, .ref qw, .ref qb, .ref qn, .long mh, .long ml, .long nc, .int rs, .int (nI na), .ref qd, .int (nI nz), .ref qg, .long t1, .long t2]))] := by rw [← e9]; exact hD
            refine w_pc (pc2 := 56) rfl ?_
            refine lv_if_eq (tgt := 61) hx hb dX3_text_56 (by decide) (fun hc_56 => ?_) (fun hc_56 => ?_)
            · skip
              exact absurd hc_56 (by decide)
            · skip
              refine lv_lconst (v := lN 0) hx hb dX3_text_59 (by decide) ?_
              exact rt_l hx hb hr hlk hQ hAe hP hD hS [0] (by decide) rfl (Nat.le_of_ble_eq_true rfl) (Nat.le_of_ble_eq_true rfl) (rfl) dX3_text_60
    · skip
      have hc_14 := (not_congr (ix_eq (a := ph) (b := 2) (by omega) (by omega))).mp hc_14
      have hc_14 : ¬ (ph = 2) := hc_14
      exfalso; omega

def rm_m_text_3 : Room := { frames := 1, cells := 0, slots := 0, locals := 23 }
set_option maxHeartbeats 4000000 in
set_option maxRecDepth 100000 in
/-- text, too much -/
theorem m_text_3 (l : Launch) (dC : Nat → ClassId) (dI : Nat → Nat → Nat) (o : Nat) (th : Int32) (ph : Nat) (og : Bool) (qx : Nat) (qk : Nat) (qw : Nat) (qb : Nat) (qn : Nat) (mh : Int64) (ml : Int64) (nc : Int64) (rs : Int32) (na : Nat) (qd : Nat) (nz : Nat) (qg : Nat) (t1 : Int64) (t2 : Int64) (y : Int64) (cn : Nat) (huw : ph = 1 ∨ ph = 2) (hcn : cn ≤ 8) (hnz : 96 < nz + cn) (hnb : nz ≤ 96) : MO l dC dI yX3_text wsX3_text rm_m_text_3 [.ref o, .long y, .int (nI cn)] [(o, .inr (3, [.int th, .int (nI ph), .int (zI og), .ref qx, .ref qk, .ref qw, .ref qb, .ref qn, .long mh, .long ml, .long nc, .int rs, .int (nI na), .ref qd, .int (nI nz), .ref qg, .long t1, .long t2]))] [] [(o, .inr (3, [.int (nI 3), .int (nI ph), .int (zI og), .ref qx, .ref qk, .ref qw, .ref qb, .ref qn, .long mh, .long ml, .long nc, .int rs, .int (nI na), .ref qd, .int (nI nz), .ref qg, .long t1, .long t2]))] (some (.long (lN 0))) := by
  refine mo_ofW (cc := cX3_text) (maxL := 7) (ret := (some .long)) (by decide) rfl (Nat.le_of_ble_eq_true rfl) ?_
  intro p e s m args below meth c Q A H locs ls hx hb hr hlk hml hta hown hin hE hQ hAe hA hK hP hD hS hl
  have hown : s.vm.findClass RX3 = some m.cls := hown
  have hl : lv_has ls 7 [(0, .ref o), (1, .long y), (3, .int (nI cn))] := hl
  refine lv_aload_n hx hb dX3_text_0 rfl (lv_at hl 0 rfl) ?_
  refine lv_aload_n hx hb dX3_text_1 rfl (lv_at hl 0 rfl) ?_
  refine va_get (D := (dC, dI)) (ci := 3) (v := .int (nI ph)) (C := RX3) (T := TX3) (N := 18) hx hb hta inX3 hown hK hP 0 rfl rfl 1 (by decide) (hta _ mw_458) (fun _ h9 => h9) rfl dX3_text_2 ?_
  refine lv_iconst (v := nI 1) hx hb dX3_text_5 (by decide) ?_
  refine lv_icmp_eq (tgt := 21) hx hb dX3_text_6 (by decide) (fun hc_6 => ?_) (fun hc_6 => ?_)
  · skip
    have hc_6 := (ix_eq (a := ph) (b := 1) (by omega) (by omega)).mp hc_6
    have hc_6 : (ph = 1) := hc_6
    refine lv_iconst (v := nI 0) hx hb dX3_text_21 (by decide) ?_
    refine lv_iload_n hx hb dX3_text_22 rfl (lv_at hl 2 rfl) ?_
    refine lv_if_lt (tgt := 32) hx hb dX3_text_23 (by decide) (fun hc_23 => ?_) (fun hc_23 => ?_)
    · skip
      have hc_23 := (ix_lt (a := cn) (b := 0) (by omega) (by omega)).mp hc_23
      have hc_23 : (cn < 0) := hc_23
      exfalso; omega
    · skip
      have hc_23 := (not_congr (ix_lt (a := cn) (b := 0) (by omega) (by omega))).mp hc_23
      have hc_23 : ¬ (cn < 0) := hc_23
      refine lv_iload_n hx hb dX3_text_26 rfl (lv_at hl 2 rfl) ?_
      refine lv_bipush (v := nI 8) hx hb dX3_text_27 (by decide) ?_
      refine lv_icmp_le (tgt := 36) hx hb dX3_text_29 (by decide) (fun hc_29 => ?_) (fun hc_29 => ?_)
      · skip
        have hc_29 := (ix_le (a := cn) (b := 8) (by omega) (by omega)).mp hc_29
        have hc_29 : (cn ≤ 8) := hc_29
        refine lv_iconst (v := nI 0) hx hb dX3_text_36 (by decide) ?_
        refine lv_aload_n hx hb dX3_text_37 rfl (lv_at hl 0 rfl) ?_
        refine va_get (D := (dC, dI)) (ci := 3) (v := .int (nI nz)) (C := RX3) (T := TX3) (N := 18) hx hb hta inX3 hown hK hP 0 rfl rfl 14 (by decide) (hta _ mw_471) (fun _ h9 => h9) rfl dX3_text_38 ?_
        refine lv_iload_n hx hb dX3_text_41 rfl (lv_at hl 2 rfl) ?_
        refine lv_iadd hx hb dX3_text_42 (top_i (nI_add _ _) ?_)
        refine lv_bipush (v := nI 96) hx hb dX3_text_43 (by decide) ?_
        refine lv_icmp_le (tgt := 52) hx hb dX3_text_45 (by decide) (fun hc_45 => ?_) (fun hc_45 => ?_)
        · skip
          have hc_45 := (ix_le (a := nz + cn) (b := 96) (by omega) (by omega)).mp hc_45
          have hc_45 : ((nz + cn) ≤ 96) := hc_45
          exfalso; omega
        · skip
          have hc_45 := (not_congr (ix_le (a := nz + cn) (b := 96) (by omega) (by omega))).mp hc_45
          have hc_45 : ¬ ((nz + cn) ≤ 96) := hc_45
          refine lv_iconst (v := nI 1) hx hb dX3_text_48 (by decide) ?_
          refine lv_goto (tgt := 53) hx hb dX3_text_49 (by decide) ?_
          refine cf_1 (wr := []) (va_runV (As := [.int (nI 0), .int (nI 0), .int (nI 1)]) (rest := []) ⟨hx, hb, hml, hown, hta⟩ (MO.to (m_refuses l dC dI o th ph og qx qk qw qb qn mh ml nc rs na qd nz qg t1 t2 false false true) H.size) (cwV 3 hta (aw_V mw_527 mw_524 mw_526 mw_s21 mw_5) rfl rfl rfl ⟨rfl, dyX3_refuses⟩ ⟨(Nat.le_of_ble_eq_true rfl), (Nat.le_of_ble_eq_true rfl)⟩) (pr_V hP hD hK hE [0] [] (by decide) rfl rfl rfl rfl) rfl rfl hl.1 rfl (lv_room (Nat.le_of_ble_eq_true rfl)) dX3_text_53 ⟨(Nat.le_of_ble_eq_true rfl), (Nat.le_of_ble_eq_true rfl)⟩) hP hD hS hA [0] [] rfl rfl (by decide) (by decide) (fun H locs hP hD hS => ?_)
          have hP : va_P (dC, dI) vwCl [(o, .inr (3, [.int (rfN false false true), .int (nI ph), .int (zI og), .ref qx, .ref qk, .ref qw, .ref qb, .ref qn, .long mh, .long ml, .long nc, .int rs, .int (nI na), .ref qd, .int (nI nz), .ref qg, .long t1, .long t2]))] H := hP
          have hD : va_D A [(o, .inr (3, [.int (rfN false false true), .int (nI ph), .int (zI og), .ref qx, .ref qk, .ref qw, .ref qb, .ref qn, .long mh, .long ml, .long nc, .int rs, .int (nI na), .ref qd, .int (nI nz), .ref qg, .long t1, .long t2]))] := hD
          refine W.widen (k := 0) (n := 0) (Nat.le_of_ble_eq_true rfl) (Nat.le_of_ble_eq_true rfl) ?_
          have e9 : rfN false false true = nI 3 := rfl
          have hP : va_P (dC, dI) vwCl [(o, .inr (3, [.int (nI 3), .int (nI ph), .int (zI og), .ref qx, .ref qk, .ref qw, .ref qb, .ref qn, .long mh, .long ml, .long nc, .int rs, .int (nI na), .ref qd, .int (nI nz), .ref qg, .long t1, .long t2]))] H := by rw [← e9]; exact hP
          have hD : va_D A [(o, .inr (3, [.int (nI 3), .int (nI ph), .int (zI og), .ref qx, .ref qk, .ref qw, .ref qb, .ref qn, .long mh, .long ml, .long nc, .int rs, .int (nI na), .ref qd, .int (nI nz), .ref qg, .long t1, .long t2]))] := by rw [← e9]; exact hD
          refine w_pc (pc2 := 56) rfl ?_
          refine lv_if_eq (tgt := 61) hx hb dX3_text_56 (by decide) (fun hc_56 => ?_) (fun hc_56 => ?_)
          · skip
            exact absurd hc_56 (by decide)
          · skip
            refine lv_lconst (v := lN 0) hx hb dX3_text_59 (by decide) ?_
            exact rt_l hx hb hr hlk hQ hAe hP hD hS [0] (by decide) rfl (Nat.le_of_ble_eq_true rfl) (Nat.le_of_ble_eq_true rfl) (rfl) dX3_text_60
      · skip
        have hc_29 := (not_congr (ix_le (a := cn) (b := 8) (by omega) (by omega))).mp hc_29
        have hc_29 : ¬ (cn ≤ 8) := hc_29
        exfalso; omega
  · skip
    have hc_6 := (not_congr (ix_eq (a := ph) (b := 1) (by omega) (by omega))).mp hc_6
    have hc_6 : ¬ (ph = 1) := hc_6
    refine lv_aload_n hx hb dX3_text_9 rfl (lv_at hl 0 rfl) ?_
    refine va_get (D := (dC, dI)) (ci := 3) (v := .int (nI ph)) (C := RX3) (T := TX3) (N := 18) hx hb hta inX3 hown hK hP 0 rfl rfl 1 (by decide) (hta _ mw_458) (fun _ h9 => h9) rfl dX3_text_10 ?_
    refine lv_iconst (v := nI 2) hx hb dX3_text_13 (by decide) ?_
    refine lv_icmp_eq (tgt := 21) hx hb dX3_text_14 (by decide) (fun hc_14 => ?_) (fun hc_14 => ?_)
    · skip
      have hc_14 := (ix_eq (a := ph) (b := 2) (by omega) (by omega)).mp hc_14
      have hc_14 : (ph = 2) := hc_14
      refine lv_iconst (v := nI 0) hx hb dX3_text_21 (by decide) ?_
      refine lv_iload_n hx hb dX3_text_22 rfl (lv_at hl 2 rfl) ?_
      refine lv_if_lt (tgt := 32) hx hb dX3_text_23 (by decide) (fun hc_23 => ?_) (fun hc_23 => ?_)
      · skip
        have hc_23 := (ix_lt (a := cn) (b := 0) (by omega) (by omega)).mp hc_23
        have hc_23 : (cn < 0) := hc_23
        exfalso; omega
      · skip
        have hc_23 := (not_congr (ix_lt (a := cn) (b := 0) (by omega) (by omega))).mp hc_23
        have hc_23 : ¬ (cn < 0) := hc_23
        refine lv_iload_n hx hb dX3_text_26 rfl (lv_at hl 2 rfl) ?_
        refine lv_bipush (v := nI 8) hx hb dX3_text_27 (by decide) ?_
        refine lv_icmp_le (tgt := 36) hx hb dX3_text_29 (by decide) (fun hc_29 => ?_) (fun hc_29 => ?_)
        · skip
          have hc_29 := (ix_le (a := cn) (b := 8) (by omega) (by omega)).mp hc_29
          have hc_29 : (cn ≤ 8) := hc_29
          refine lv_iconst (v := nI 0) hx hb dX3_text_36 (by decide) ?_
          refine lv_aload_n hx hb dX3_text_37 rfl (lv_at hl 0 rfl) ?_
          refine va_get (D := (dC, dI)) (ci := 3) (v := .int (nI nz)) (C := RX3) (T := TX3) (N := 18) hx hb hta inX3 hown hK hP 0 rfl rfl 14 (by decide) (hta _ mw_471) (fun _ h9 => h9) rfl dX3_text_38 ?_
          refine lv_iload_n hx hb dX3_text_41 rfl (lv_at hl 2 rfl) ?_
          refine lv_iadd hx hb dX3_text_42 (top_i (nI_add _ _) ?_)
          refine lv_bipush (v := nI 96) hx hb dX3_text_43 (by decide) ?_
          refine lv_icmp_le (tgt := 52) hx hb dX3_text_45 (by decide) (fun hc_45 => ?_) (fun hc_45 => ?_)
          · skip
            have hc_45 := (ix_le (a := nz + cn) (b := 96) (by omega) (by omega)).mp hc_45
            have hc_45 : ((nz + cn) ≤ 96) := hc_45
            exfalso; omega
          · skip
            have hc_45 := (not_congr (ix_le (a := nz + cn) (b := 96) (by omega) (by omega))).mp hc_45
            have hc_45 : ¬ ((nz + cn) ≤ 96) := hc_45
            refine lv_iconst (v := nI 1) hx hb dX3_text_48 (by decide) ?_
            refine lv_goto (tgt := 53) hx hb dX3_text_49 (by decide) ?_
            refine cf_1 (wr := []) (va_runV (As := [.int (nI 0), .int (nI 0), .int (nI 1)]) (rest := []) ⟨hx, hb, hml, hown, hta⟩ (MO.to (m_refuses l dC dI o th ph og qx qk qw qb qn mh ml nc rs na qd nz qg t1 t2 false false true) H.size) (cwV 3 hta (aw_V mw_527 mw_524 mw_526 mw_s21 mw_5) rfl rfl rfl ⟨rfl, dyX3_refuses⟩ ⟨(Nat.le_of_ble_eq_true rfl), (Nat.le_of_ble_eq_true rfl)⟩) (pr_V hP hD hK hE [0] [] (by decide) rfl rfl rfl rfl) rfl rfl hl.1 rfl (lv_room (Nat.le_of_ble_eq_true rfl)) dX3_text_53 ⟨(Nat.le_of_ble_eq_true rfl), (Nat.le_of_ble_eq_true rfl)⟩) hP hD hS hA [0] [] rfl rfl (by decide) (by decide) (fun H locs hP hD hS => ?_)
            have hP : va_P (dC, dI) vwCl [(o, .inr (3, [.int (rfN false false true), .int (nI ph), .int (zI og), .ref qx, .ref qk, .ref qw, .ref qb, .ref qn, .long mh, .long ml, .long nc, .int rs, .int (nI na), .ref qd, .int (nI nz), .ref qg, .long t1, .long t2]))] H := hP
            have hD : va_D A [(o, .inr (3, [.int (rfN false false true), .int (nI ph), .int (zI og), .ref qx, .ref qk, .ref qw, .ref qb, .ref qn, .long mh, .long ml, .long nc, .int rs, .int (nI na), .ref qd, .int (nI nz), .ref qg, .long t1, .long t2]))] := hD
            refine W.widen (k := 0) (n := 0) (Nat.le_of_ble_eq_true rfl) (Nat.le_of_ble_eq_true rfl) ?_
            have e9 : rfN false false true = nI 3 := rfl
            have hP : va_P (dC, dI) vwCl [(o, .inr (3, [.int (nI 3), .int (nI ph), .int (zI og), .ref qx, .ref qk, .ref qw, .ref qb, .ref qn, .long mh, .long ml, .long nc, .int rs, .int (nI na), .ref qd, .int (nI nz), .ref qg, .long t1, .long t2]))] H := by rw [← e9]; exact hP
            have hD : va_D A [(o, .inr (3, [.int (nI 3), .int (nI ph), .int (zI og), .ref qx, .ref qk, .ref qw, .ref qb, .ref qn, .long mh, .long ml, .long nc, .int rs, .int (nI na), .ref qd, .int (nI nz), .ref qg, .long t1, .long t2]))] := by rw [← e9]; exact hD
            refine w_pc (pc2 := 56) rfl ?_
            refine lv_if_eq (tgt := 61) hx hb dX3_text_56 (by decide) (fun hc_56 => ?_) (fun hc_56 => ?_)
            · skip
              exact absurd hc_56 (by decide)
            · skip
              refine lv_lconst (v := lN 0) hx hb dX3_text_59 (by decide) ?_
              exact rt_l hx hb hr hlk hQ hAe hP hD hS [0] (by decide) rfl (Nat.le_of_ble_eq_true rfl) (Nat.le_of_ble_eq_true rfl) (rfl) dX3_text_60
        · skip
          have hc_29 := (not_congr (ix_le (a := cn) (b := 8) (by omega) (by omega))).mp hc_29
          have hc_29 : ¬ (cn ≤ 8) := hc_29
          exfalso; omega
    · skip
      have hc_14 := (not_congr (ix_eq (a := ph) (b := 2) (by omega) (by omega))).mp hc_14
      have hc_14 : ¬ (ph = 2) := hc_14
      exfalso; omega

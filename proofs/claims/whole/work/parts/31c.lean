def rm_m_mix : Room := { frames := 1, cells := 0, slots := 0, locals := 23 }
set_option maxHeartbeats 4000000 in
set_option maxRecDepth 100000 in
/-- mix(x1, x2, x3, x4) -/
theorem m_mix (l : Launch) (dC : Nat → ClassId) (dI : Nat → Nat → Nat) (o : Nat) (th : Int32) (ph : Nat) (og : Bool) (qx : Nat) (qk : Nat) (qw : Nat) (qb : Nat) (qn : Nat) (mh : Int64) (ml : Int64) (nc : Int64) (rs : Int32) (na : Nat) (qd : Nat) (nz : Nat) (qg : Nat) (t1 : Int64) (t2 : Int64) (kb : ClassId) (kn : ClassId) (b : Nat → Nat) (z : Nat → Nat) (x1 : Nat) (x2 : Nat) (x3 : Nat) (x4 : Nat) (b256 : ∀ i, b i < 256) (hx1 : x1 < 256) (hx2 : x2 < 256) (hx3 : x3 < 256) (hx4 : x4 < 256) : MO l dC dI yX3_mix wsX3_mix rm_m_mix [.ref o, .int (nI x1), .int (nI x2), .int (nI x3), .int (nI x4)] [(o, .inr (3, [.int th, .int (nI ph), .int (zI og), .ref qx, .ref qk, .ref qw, .ref qb, .ref qn, .long mh, .long ml, .long nc, .int rs, .int (nI na), .ref qd, .int (nI nz), .ref qg, .long t1, .long t2])), (qb, .inl (kb, 16, .inl (nF b))), (qn, .inl (kn, 16, .inl (nF z)))] [(kb, .int), (kn, .int)] [(o, .inr (3, [.int th, .int (nI ph), .int (zI og), .ref qx, .ref qk, .ref qw, .ref qb, .ref qn, .long mh, .long ml, .long nc, .int rs, .int (nI na), .ref qd, .int (nI nz), .ref qg, .long t1, .long t2])), (qb, .inl (kb, 16, .inl (nF (mmN x1 x2 x3 x4 b)))), (qn, .inl (kn, 16, .inl (nF (mmN x1 x2 x3 x4 b))))] none := by
  refine mo_ofW (cc := cX3_mix) (maxL := 8) (ret := none) (by decide) rfl (Nat.le_of_ble_eq_true rfl) ?_
  intro p e s m args below meth c Q A H locs ls hx hb hr hlk hml hta hown hin hE hQ hAe hA hK hP hD hS hl
  have hown : s.vm.findClass RX3 = some m.cls := hown
  have hl : lv_has ls 8 [(0, .ref o), (1, .int (nI x1)), (2, .int (nI x2)), (3, .int (nI x3)), (4, .int (nI x4))] := hl
  refine lv_iconst (v := nI 0) hx hb dX3_mix_0 (by decide) ?_
  refine lv_istore hx hb dX3_mix_1 hl (by decide) rfl (fun ls hl => ?_)
  have hl : lv_has ls 8 [(5, .int (nI 0)), (0, .ref o), (1, .int (nI x1)), (2, .int (nI x2)), (3, .int (nI x3)), (4, .int (nI x4))] := hl
  obtain ⟨hP, hD⟩ := va_recb (g := fl (mmN x1 x2 x3 x4 b) z 0) hP hD 2 rfl (fun i _ => fl_0 _ z i)
  have hP : va_P (dC, dI) vwCl [(o, .inr (3, [.int th, .int (nI ph), .int (zI og), .ref qx, .ref qk, .ref qw, .ref qb, .ref qn, .long mh, .long ml, .long nc, .int rs, .int (nI na), .ref qd, .int (nI nz), .ref qg, .long t1, .long t2])), (qb, .inl (kb, 16, .inl (nF b))), (qn, .inl (kn, 16, .inl (nF (fl (mmN x1 x2 x3 x4 b) z 0))))] H := hP
  have hD : va_D A [(o, .inr (3, [.int th, .int (nI ph), .int (zI og), .ref qx, .ref qk, .ref qw, .ref qb, .ref qn, .long mh, .long ml, .long nc, .int rs, .int (nI na), .ref qd, .int (nI nz), .ref qg, .long t1, .long t2])), (qb, .inl (kb, 16, .inl (nF b))), (qn, .inl (kn, 16, .inl (nF (fl (mmN x1 x2 x3 x4 b) z 0))))] := hD
  have loop_3 : ∀ (n k : Nat) (ls : Array Slot) (H : Heap) (locs : List Loc), k + n = 16 → lv_has ls 8 [(5, .int (nI k)), (0, .ref o), (1, .int (nI x1)), (2, .int (nI x2)), (3, .int (nI x3)), (4, .int (nI x4))] → va_P (dC, dI) vwCl [(o, .inr (3, [.int th, .int (nI ph), .int (zI og), .ref qx, .ref qk, .ref qw, .ref qb, .ref qn, .long mh, .long ml, .long nc, .int rs, .int (nI na), .ref qd, .int (nI nz), .ref qg, .long t1, .long t2])), (qb, .inl (kb, 16, .inl (nF b))), (qn, .inl (kn, 16, .inl (nF (fl (mmN x1 x2 x3 x4 b) z k))))] H → va_D A [(o, .inr (3, [.int th, .int (nI ph), .int (zI og), .ref qx, .ref qk, .ref qw, .ref qb, .ref qn, .long mh, .long ml, .long nc, .int rs, .int (nI na), .ref qd, .int (nI nz), .ref qg, .long t1, .long t2])), (qb, .inl (kb, 16, .inl (nF b))), (qn, .inl (kn, 16, .inl (nF (fl (mmN x1 x2 x3 x4 b) z k))))] → va_S A s.heap H locs → W p l e rm_m_mix s m args below meth c H locs 0 0 Q (F0 m 3 ls []) := by
    intro n
    induction n with
    | zero =>
      intro k ls H locs hn_3  hl hP hD hS
      obtain rfl : 16 = k := by omega
      refine lv_iload hx hb dX3_mix_3 (lv_at hl 0 rfl) ?_
      refine lv_bipush (v := nI 16) hx hb dX3_mix_5 (by decide) ?_
      refine lv_icmp_ge (tgt := 107) hx hb dX3_mix_7 (by decide) (fun hc_7 => ?_) (fun hc_7 => ?_)
      · skip
        have hc_7 := (ix_le (a := 16) (b := 16) (by omega) (by omega)).mp hc_7
        have hc_7 : (16 ≤ 16) := hc_7
        refine lv_iconst (v := nI 0) hx hb dX3_mix_107 (by decide) ?_
        refine lv_istore hx hb dX3_mix_108 hl (by decide) rfl (fun ls hl => ?_)
        have hl : lv_has ls 8 [(5, .int (nI 0)), (0, .ref o), (1, .int (nI x1)), (2, .int (nI x2)), (3, .int (nI x3)), (4, .int (nI x4))] := hl
        obtain ⟨hP, hD⟩ := va_recb (g := mmN x1 x2 x3 x4 b) hP hD 2 rfl (fun i hi9 => fl_n _ z 16 i hi9)
        have hP : va_P (dC, dI) vwCl [(o, .inr (3, [.int th, .int (nI ph), .int (zI og), .ref qx, .ref qk, .ref qw, .ref qb, .ref qn, .long mh, .long ml, .long nc, .int rs, .int (nI na), .ref qd, .int (nI nz), .ref qg, .long t1, .long t2])), (qb, .inl (kb, 16, .inl (nF b))), (qn, .inl (kn, 16, .inl (nF (mmN x1 x2 x3 x4 b))))] H := hP
        have hD : va_D A [(o, .inr (3, [.int th, .int (nI ph), .int (zI og), .ref qx, .ref qk, .ref qw, .ref qb, .ref qn, .long mh, .long ml, .long nc, .int rs, .int (nI na), .ref qd, .int (nI nz), .ref qg, .long t1, .long t2])), (qb, .inl (kb, 16, .inl (nF b))), (qn, .inl (kn, 16, .inl (nF (mmN x1 x2 x3 x4 b))))] := hD
        obtain ⟨hP, hD⟩ := va_recb (g := fl (mmN x1 x2 x3 x4 b) b 0) hP hD 1 rfl (fun i _ => fl_0 _ b i)
        have hP : va_P (dC, dI) vwCl [(o, .inr (3, [.int th, .int (nI ph), .int (zI og), .ref qx, .ref qk, .ref qw, .ref qb, .ref qn, .long mh, .long ml, .long nc, .int rs, .int (nI na), .ref qd, .int (nI nz), .ref qg, .long t1, .long t2])), (qb, .inl (kb, 16, .inl (nF (fl (mmN x1 x2 x3 x4 b) b 0)))), (qn, .inl (kn, 16, .inl (nF (mmN x1 x2 x3 x4 b))))] H := hP
        have hD : va_D A [(o, .inr (3, [.int th, .int (nI ph), .int (zI og), .ref qx, .ref qk, .ref qw, .ref qb, .ref qn, .long mh, .long ml, .long nc, .int rs, .int (nI na), .ref qd, .int (nI nz), .ref qg, .long t1, .long t2])), (qb, .inl (kb, 16, .inl (nF (fl (mmN x1 x2 x3 x4 b) b 0)))), (qn, .inl (kn, 16, .inl (nF (mmN x1 x2 x3 x4 b))))] := hD
        have loop_110 : ∀ (n t : Nat) (ls : Array Slot) (H : Heap) (locs : List Loc), t + n = 16 → lv_has ls 8 [(5, .int (nI t)), (0, .ref o)] → va_P (dC, dI) vwCl [(o, .inr (3, [.int th, .int (nI ph), .int (zI og), .ref qx, .ref qk, .ref qw, .ref qb, .ref qn, .long mh, .long ml, .long nc, .int rs, .int (nI na), .ref qd, .int (nI nz), .ref qg, .long t1, .long t2])), (qb, .inl (kb, 16, .inl (nF (fl (mmN x1 x2 x3 x4 b) b t)))), (qn, .inl (kn, 16, .inl (nF (mmN x1 x2 x3 x4 b))))] H → va_D A [(o, .inr (3, [.int th, .int (nI ph), .int (zI og), .ref qx, .ref qk, .ref qw, .ref qb, .ref qn, .long mh, .long ml, .long nc, .int rs, .int (nI na), .ref qd, .int (nI nz), .ref qg, .long t1, .long t2])), (qb, .inl (kb, 16, .inl (nF (fl (mmN x1 x2 x3 x4 b) b t)))), (qn, .inl (kn, 16, .inl (nF (mmN x1 x2 x3 x4 b))))] → va_S A s.heap H locs → W p l e rm_m_mix s m args below meth c H locs 0 0 Q (F0 m 110 ls []) := by
          intro n
          induction n with
          | zero =>
            intro t ls H locs hn_110  hl hP hD hS
            obtain rfl : 16 = t := by omega
            refine lv_iload hx hb dX3_mix_110 (lv_at hl 0 rfl) ?_
            refine lv_bipush (v := nI 16) hx hb dX3_mix_112 (by decide) ?_
            refine lv_icmp_ge (tgt := 137) hx hb dX3_mix_114 (by decide) (fun hc_114 => ?_) (fun hc_114 => ?_)
            · skip
              have hc_114 := (ix_le (a := 16) (b := 16) (by omega) (by omega)).mp hc_114
              have hc_114 : (16 ≤ 16) := hc_114
              obtain ⟨hP, hD⟩ := va_recb (g := mmN x1 x2 x3 x4 b) hP hD 1 rfl (fun i hi9 => fl_n _ b 16 i hi9)
              have hP : va_P (dC, dI) vwCl [(o, .inr (3, [.int th, .int (nI ph), .int (zI og), .ref qx, .ref qk, .ref qw, .ref qb, .ref qn, .long mh, .long ml, .long nc, .int rs, .int (nI na), .ref qd, .int (nI nz), .ref qg, .long t1, .long t2])), (qb, .inl (kb, 16, .inl (nF (mmN x1 x2 x3 x4 b)))), (qn, .inl (kn, 16, .inl (nF (mmN x1 x2 x3 x4 b))))] H := hP
              have hD : va_D A [(o, .inr (3, [.int th, .int (nI ph), .int (zI og), .ref qx, .ref qk, .ref qw, .ref qb, .ref qn, .long mh, .long ml, .long nc, .int rs, .int (nI na), .ref qd, .int (nI nz), .ref qg, .long t1, .long t2])), (qb, .inl (kb, 16, .inl (nF (mmN x1 x2 x3 x4 b)))), (qn, .inl (kn, 16, .inl (nF (mmN x1 x2 x3 x4 b))))] := hD
              exact rt_0 hx hb hr hlk hQ hAe hP hD hS [0, 1, 2] (by decide) rfl (Nat.le_of_ble_eq_true rfl) (Nat.le_of_ble_eq_true rfl) dX3_mix_137
            · skip
              have hc_114 := (not_congr (ix_le (a := 16) (b := 16) (by omega) (by omega))).mp hc_114
              have hc_114 : ¬ (16 ≤ 16) := hc_114
              exfalso; omega
          | succ n ih =>
            intro t ls H locs hn_110  hl hP hD hS
            refine lv_iload hx hb dX3_mix_110 (lv_at hl 0 rfl) ?_
            refine lv_bipush (v := nI 16) hx hb dX3_mix_112 (by decide) ?_
            refine lv_icmp_ge (tgt := 137) hx hb dX3_mix_114 (by decide) (fun hc_114 => ?_) (fun hc_114 => ?_)
            · skip
              have hc_114 := (ix_le (a := 16) (b := t) (by omega) (by omega)).mp hc_114
              have hc_114 : (16 ≤ t) := hc_114
              exfalso; omega
            · skip
              have hc_114 := (not_congr (ix_le (a := 16) (b := t) (by omega) (by omega))).mp hc_114
              have hc_114 : ¬ (16 ≤ t) := hc_114
              refine lv_aload_n hx hb dX3_mix_117 rfl (lv_at hl 1 rfl) ?_
              refine va_get (D := (dC, dI)) (ci := 3) (v := .ref qb) (C := RX3) (T := TX3) (N := 18) hx hb hta inX3 hown hK hP 0 rfl rfl 6 (by decide) (hta _ mw_463) (fun _ h9 => h9) rfl dX3_mix_118 ?_
              refine lv_iload hx hb dX3_mix_121 (lv_at hl 0 rfl) ?_
              refine lv_aload_n hx hb dX3_mix_123 rfl (lv_at hl 1 rfl) ?_
              refine va_get (D := (dC, dI)) (ci := 3) (v := .ref qn) (C := RX3) (T := TX3) (N := 18) hx hb hta inX3 hown hK hP 0 rfl rfl 7 (by decide) (hta _ mw_464) (fun _ h9 => h9) rfl dX3_mix_124 ?_
              refine lv_iload hx hb dX3_mix_127 (lv_at hl 0 rfl) ?_
              refine va_ialb hx hb hK hP 2 1 rfl rfl (by omega) (by decide) dX3_mix_129 ?_
              refine va_iasb hx hb hK hP hD hS 1 0 rfl rfl (by omega) (by decide) dX3_mix_130 (fun H locs hP hD hS => ?_)
              have hP : va_P (dC, dI) vwCl [(o, .inr (3, [.int th, .int (nI ph), .int (zI og), .ref qx, .ref qk, .ref qw, .ref qb, .ref qn, .long mh, .long ml, .long nc, .int rs, .int (nI na), .ref qd, .int (nI nz), .ref qg, .long t1, .long t2])), (qb, .inl (kb, 16, .inl (nF (un (fl (mmN x1 x2 x3 x4 b) b t) t ((mmN x1 x2 x3 x4 b) t))))), (qn, .inl (kn, 16, .inl (nF (mmN x1 x2 x3 x4 b))))] H := hP
              have hD : va_D A [(o, .inr (3, [.int th, .int (nI ph), .int (zI og), .ref qx, .ref qk, .ref qw, .ref qb, .ref qn, .long mh, .long ml, .long nc, .int rs, .int (nI na), .ref qd, .int (nI nz), .ref qg, .long t1, .long t2])), (qb, .inl (kb, 16, .inl (nF (un (fl (mmN x1 x2 x3 x4 b) b t) t ((mmN x1 x2 x3 x4 b) t))))), (qn, .inl (kn, 16, .inl (nF (mmN x1 x2 x3 x4 b))))] := hD
              refine lv_iinc (v := nI (t + 1)) (k := 0) hx hb dX3_mix_131 hl rfl (ix_inc _ 1) (by decide) rfl (fun ls hl => ?_)
              have hl : lv_has ls 8 [(5, .int (nI (t + 1))), (0, .ref o)] := hl
              refine lv_goto (tgt := 110) hx hb dX3_mix_134 (by decide) ?_
              obtain ⟨hP, hD⟩ := va_recb (g := fl (mmN x1 x2 x3 x4 b) b (t + 1)) hP hD 1 rfl (fun i _ => fl_s (mmN x1 x2 x3 x4 b) b t i)
              have hP : va_P (dC, dI) vwCl [(o, .inr (3, [.int th, .int (nI ph), .int (zI og), .ref qx, .ref qk, .ref qw, .ref qb, .ref qn, .long mh, .long ml, .long nc, .int rs, .int (nI na), .ref qd, .int (nI nz), .ref qg, .long t1, .long t2])), (qb, .inl (kb, 16, .inl (nF (fl (mmN x1 x2 x3 x4 b) b (t + 1))))), (qn, .inl (kn, 16, .inl (nF (mmN x1 x2 x3 x4 b))))] H := hP
              have hD : va_D A [(o, .inr (3, [.int th, .int (nI ph), .int (zI og), .ref qx, .ref qk, .ref qw, .ref qb, .ref qn, .long mh, .long ml, .long nc, .int rs, .int (nI na), .ref qd, .int (nI nz), .ref qg, .long t1, .long t2])), (qb, .inl (kb, 16, .inl (nF (fl (mmN x1 x2 x3 x4 b) b (t + 1))))), (qn, .inl (kn, 16, .inl (nF (mmN x1 x2 x3 x4 b))))] := hD
              exact ih (t + 1) ls H locs (by omega)  (lv_sub hl [0, 1] rfl) hP hD hS
        exact loop_110 16 0 ls H locs (by omega)  (lv_sub hl [0, 1] rfl) hP hD hS
      · skip
        have hc_7 := (not_congr (ix_le (a := 16) (b := 16) (by omega) (by omega))).mp hc_7
        have hc_7 : ¬ (16 ≤ 16) := hc_7
        exfalso; omega
    | succ n ih =>
      intro k ls H locs hn_3  hl hP hD hS
      refine lv_iload hx hb dX3_mix_3 (lv_at hl 0 rfl) ?_
      refine lv_bipush (v := nI 16) hx hb dX3_mix_5 (by decide) ?_
      refine lv_icmp_ge (tgt := 107) hx hb dX3_mix_7 (by decide) (fun hc_7 => ?_) (fun hc_7 => ?_)
      · skip
        have hc_7 := (ix_le (a := 16) (b := k) (by omega) (by omega)).mp hc_7
        have hc_7 : (16 ≤ k) := hc_7
        exfalso; omega
      · skip
        have hc_7 := (not_congr (ix_le (a := 16) (b := k) (by omega) (by omega))).mp hc_7
        have hc_7 : ¬ (16 ≤ k) := hc_7
        refine lv_iload hx hb dX3_mix_10 (lv_at hl 0 rfl) ?_
        refine lv_iload hx hb dX3_mix_12 (lv_at hl 0 rfl) ?_
        refine lv_iconst (v := nI 4) hx hb dX3_mix_14 (by decide) ?_
        refine lv_irem hx hb dX3_mix_15 (by decide) (top_i (pk_rem (by omega) (by decide) (by decide)) ?_)
        refine lv_isub hx hb dX3_mix_16 (top_i (pk_sub (by omega)) ?_)
        refine lv_istore hx hb dX3_mix_17 hl (by decide) rfl (fun ls hl => ?_)
        have hl : lv_has ls 8 [(6, .int (nI (k - (k % 4)))), (5, .int (nI k)), (0, .ref o), (1, .int (nI x1)), (2, .int (nI x2)), (3, .int (nI x3)), (4, .int (nI x4))] := hl
        refine lv_iload hx hb dX3_mix_19 (lv_at hl 1 rfl) ?_
        refine lv_iconst (v := nI 4) hx hb dX3_mix_21 (by decide) ?_
        refine lv_irem hx hb dX3_mix_22 (by decide) (top_i (pk_rem (by omega) (by decide) (by decide)) ?_)
        refine lv_istore hx hb dX3_mix_23 hl (by decide) rfl (fun ls hl => ?_)
        have hl : lv_has ls 8 [(7, .int (nI (k % 4))), (6, .int (nI (k - (k % 4)))), (5, .int (nI k)), (0, .ref o), (1, .int (nI x1)), (2, .int (nI x2)), (3, .int (nI x3)), (4, .int (nI x4))] := hl
        refine lv_aload_n hx hb dX3_mix_25 rfl (lv_at hl 3 rfl) ?_
        refine w_pc (pc2 := 26) rfl ?_
        refine va_get (D := (dC, dI)) (ci := 3) (v := .ref qn) (C := RX3) (T := TX3) (N := 18) hx hb hta inX3 hown hK hP 0 rfl rfl 7 (by decide) (hta _ mw_464) (fun _ h9 => h9) rfl dX3_mix_26 ?_
        refine lv_iload hx hb dX3_mix_29 (lv_at hl 2 rfl) ?_
        refine lv_iload_n hx hb dX3_mix_31 rfl (lv_at hl 4 rfl) ?_
        refine lv_aload_n hx hb dX3_mix_32 rfl (lv_at hl 3 rfl) ?_
        refine va_get (D := (dC, dI)) (ci := 3) (v := .ref qb) (C := RX3) (T := TX3) (N := 18) hx hb hta inX3 hown hK hP 0 rfl rfl 6 (by decide) (hta _ mw_463) (fun _ h9 => h9) rfl dX3_mix_33 ?_
        refine lv_iload hx hb dX3_mix_36 (lv_at hl 2 rfl) ?_
        refine va_ialb hx hb hK hP 1 0 rfl rfl (by omega) (by decide) dX3_mix_38 ?_
        refine cf_1 (wr := [(o, .inr (3, [.int th, .int (nI ph), .int (zI og), .ref qx, .ref qk, .ref qw, .ref qb, .ref qn, .long mh, .long ml, .long nc, .int rs, .int (nI na), .ref qd, .int (nI nz), .ref qg, .long t1, .long t2])), (qb, .inl (kb, 16, .inl (nF b))), (qn, .inl (kn, 16, .inl (nF (fl (mmN x1 x2 x3 x4 b) z k))))]) (va_runS (As := [.int (nI x1), .int (nI (b k))]) (rest := [.int (nI k), .ref qn]) ⟨hx, hb, hml, hown, hta⟩ (MO.to (m_times l dC dI x1 (b k) hx1 (b256 _)) H.size) (va_cwS 2 hta (aw_S mw_445 mw_443 mw_444 mw_5) rfl rfl rfl dyX3_times ⟨(Nat.le_of_ble_eq_true rfl), (Nat.le_of_ble_eq_true rfl)⟩) (pr_S hP hD hK hE [] [] (by decide) rfl rfl) rfl rfl hl.1 rfl (lv_room (Nat.le_of_ble_eq_true rfl)) dX3_mix_39 ⟨(Nat.le_of_ble_eq_true rfl), (Nat.le_of_ble_eq_true rfl)⟩) hP hD hS hA [] [0, 1, 2] rfl rfl (by decide) (by decide) (fun H locs hP hD hS => ?_)
        have hP : va_P (dC, dI) vwCl [(o, .inr (3, [.int th, .int (nI ph), .int (zI og), .ref qx, .ref qk, .ref qw, .ref qb, .ref qn, .long mh, .long ml, .long nc, .int rs, .int (nI na), .ref qd, .int (nI nz), .ref qg, .long t1, .long t2])), (qb, .inl (kb, 16, .inl (nF b))), (qn, .inl (kn, 16, .inl (nF (fl (mmN x1 x2 x3 x4 b) z k))))] H := hP
        have hD : va_D A [(o, .inr (3, [.int th, .int (nI ph), .int (zI og), .ref qx, .ref qk, .ref qw, .ref qb, .ref qn, .long mh, .long ml, .long nc, .int rs, .int (nI na), .ref qd, .int (nI nz), .ref qg, .long t1, .long t2])), (qb, .inl (kb, 16, .inl (nF b))), (qn, .inl (kn, 16, .inl (nF (fl (mmN x1 x2 x3 x4 b) z k))))] := hD
        refine W.widen (k := 0) (n := 0) (Nat.le_of_ble_eq_true rfl) (Nat.le_of_ble_eq_true rfl) ?_
        refine w_pc (pc2 := 42) rfl ?_
        refine lv_iload_n hx hb dX3_mix_42 rfl (lv_at hl 5 rfl) ?_
        refine lv_aload_n hx hb dX3_mix_43 rfl (lv_at hl 3 rfl) ?_
        refine va_get (D := (dC, dI)) (ci := 3) (v := .ref qb) (C := RX3) (T := TX3) (N := 18) hx hb hta inX3 hown hK hP 0 rfl rfl 6 (by decide) (hta _ mw_463) (fun _ h9 => h9) rfl dX3_mix_44 ?_
        refine lv_iload hx hb dX3_mix_47 (lv_at hl 1 rfl) ?_
        refine lv_iload hx hb dX3_mix_49 (lv_at hl 0 rfl) ?_
        refine lv_iconst (v := nI 1) hx hb dX3_mix_51 (by decide) ?_
        refine lv_iadd hx hb dX3_mix_52 (top_i (nI_add _ _) ?_)
        refine lv_iconst (v := nI 4) hx hb dX3_mix_53 (by decide) ?_
        refine lv_irem hx hb dX3_mix_54 (by decide) (top_i (pk_rem (by omega) (by decide) (by decide)) ?_)
        refine lv_iadd hx hb dX3_mix_55 (top_i (nI_add _ _) ?_)
        refine va_ialb hx hb hK hP 1 0 rfl rfl (by omega) (by decide) dX3_mix_56 ?_
        refine cf_1 (wr := [(o, .inr (3, [.int th, .int (nI ph), .int (zI og), .ref qx, .ref qk, .ref qw, .ref qb, .ref qn, .long mh, .long ml, .long nc, .int rs, .int (nI na), .ref qd, .int (nI nz), .ref qg, .long t1, .long t2])), (qb, .inl (kb, 16, .inl (nF b))), (qn, .inl (kn, 16, .inl (nF (fl (mmN x1 x2 x3 x4 b) z k))))]) (va_runS (As := [.int (nI x2), .int (nI (b ((k - (k % 4)) + (((k % 4) + 1) % 4))))]) (rest := [.int (nI (tmN x1 (b k))), .int (nI k), .ref qn]) ⟨hx, hb, hml, hown, hta⟩ (MO.to (m_times l dC dI x2 (b ((k - (k % 4)) + (((k % 4) + 1) % 4))) hx2 (b256 _)) H.size) (va_cwS 2 hta (aw_S mw_445 mw_443 mw_444 mw_5) rfl rfl rfl dyX3_times ⟨(Nat.le_of_ble_eq_true rfl), (Nat.le_of_ble_eq_true rfl)⟩) (pr_S hP hD hK hE [] [] (by decide) rfl rfl) rfl rfl hl.1 rfl (lv_room (Nat.le_of_ble_eq_true rfl)) dX3_mix_57 ⟨(Nat.le_of_ble_eq_true rfl), (Nat.le_of_ble_eq_true rfl)⟩) hP hD hS hA [] [0, 1, 2] rfl rfl (by decide) (by decide) (fun H locs hP hD hS => ?_)
        have hP : va_P (dC, dI) vwCl [(o, .inr (3, [.int th, .int (nI ph), .int (zI og), .ref qx, .ref qk, .ref qw, .ref qb, .ref qn, .long mh, .long ml, .long nc, .int rs, .int (nI na), .ref qd, .int (nI nz), .ref qg, .long t1, .long t2])), (qb, .inl (kb, 16, .inl (nF b))), (qn, .inl (kn, 16, .inl (nF (fl (mmN x1 x2 x3 x4 b) z k))))] H := hP
        have hD : va_D A [(o, .inr (3, [.int th, .int (nI ph), .int (zI og), .ref qx, .ref qk, .ref qw, .ref qb, .ref qn, .long mh, .long ml, .long nc, .int rs, .int (nI na), .ref qd, .int (nI nz), .ref qg, .long t1, .long t2])), (qb, .inl (kb, 16, .inl (nF b))), (qn, .inl (kn, 16, .inl (nF (fl (mmN x1 x2 x3 x4 b) z k))))] := hD
        refine W.widen (k := 0) (n := 0) (Nat.le_of_ble_eq_true rfl) (Nat.le_of_ble_eq_true rfl) ?_
        refine w_pc (pc2 := 60) rfl ?_
        refine lv_ixor hx hb dX3_mix_60 (top_i (n_xor _ _) ?_)
        refine lv_iload_n hx hb dX3_mix_61 rfl (lv_at hl 6 rfl) ?_
        refine lv_aload_n hx hb dX3_mix_62 rfl (lv_at hl 3 rfl) ?_
        refine va_get (D := (dC, dI)) (ci := 3) (v := .ref qb) (C := RX3) (T := TX3) (N := 18) hx hb hta inX3 hown hK hP 0 rfl rfl 6 (by decide) (hta _ mw_463) (fun _ h9 => h9) rfl dX3_mix_63 ?_
        refine lv_iload hx hb dX3_mix_66 (lv_at hl 1 rfl) ?_
        refine lv_iload hx hb dX3_mix_68 (lv_at hl 0 rfl) ?_
        refine lv_iconst (v := nI 2) hx hb dX3_mix_70 (by decide) ?_
        refine lv_iadd hx hb dX3_mix_71 (top_i (nI_add _ _) ?_)
        refine lv_iconst (v := nI 4) hx hb dX3_mix_72 (by decide) ?_
        refine lv_irem hx hb dX3_mix_73 (by decide) (top_i (pk_rem (by omega) (by decide) (by decide)) ?_)
        refine lv_iadd hx hb dX3_mix_74 (top_i (nI_add _ _) ?_)
        refine va_ialb hx hb hK hP 1 0 rfl rfl (by omega) (by decide) dX3_mix_75 ?_
        refine w_pc (pc2 := 76) rfl ?_
        refine cf_1 (wr := [(o, .inr (3, [.int th, .int (nI ph), .int (zI og), .ref qx, .ref qk, .ref qw, .ref qb, .ref qn, .long mh, .long ml, .long nc, .int rs, .int (nI na), .ref qd, .int (nI nz), .ref qg, .long t1, .long t2])), (qb, .inl (kb, 16, .inl (nF b))), (qn, .inl (kn, 16, .inl (nF (fl (mmN x1 x2 x3 x4 b) z k))))]) (va_runS (As := [.int (nI x3), .int (nI (b ((k - (k % 4)) + (((k % 4) + 2) % 4))))]) (rest := [.int (nI ((tmN x1 (b k)) ^^^ (tmN x2 (b ((k - (k % 4)) + (((k % 4) + 1) % 4)))))), .int (nI k), .ref qn]) ⟨hx, hb, hml, hown, hta⟩ (MO.to (m_times l dC dI x3 (b ((k - (k % 4)) + (((k % 4) + 2) % 4))) hx3 (b256 _)) H.size) (va_cwS 2 hta (aw_S mw_445 mw_443 mw_444 mw_5) rfl rfl rfl dyX3_times ⟨(Nat.le_of_ble_eq_true rfl), (Nat.le_of_ble_eq_true rfl)⟩) (pr_S hP hD hK hE [] [] (by decide) rfl rfl) rfl rfl hl.1 rfl (lv_room (Nat.le_of_ble_eq_true rfl)) dX3_mix_76 ⟨(Nat.le_of_ble_eq_true rfl), (Nat.le_of_ble_eq_true rfl)⟩) hP hD hS hA [] [0, 1, 2] rfl rfl (by decide) (by decide) (fun H locs hP hD hS => ?_)
        have hP : va_P (dC, dI) vwCl [(o, .inr (3, [.int th, .int (nI ph), .int (zI og), .ref qx, .ref qk, .ref qw, .ref qb, .ref qn, .long mh, .long ml, .long nc, .int rs, .int (nI na), .ref qd, .int (nI nz), .ref qg, .long t1, .long t2])), (qb, .inl (kb, 16, .inl (nF b))), (qn, .inl (kn, 16, .inl (nF (fl (mmN x1 x2 x3 x4 b) z k))))] H := hP
        have hD : va_D A [(o, .inr (3, [.int th, .int (nI ph), .int (zI og), .ref qx, .ref qk, .ref qw, .ref qb, .ref qn, .long mh, .long ml, .long nc, .int rs, .int (nI na), .ref qd, .int (nI nz), .ref qg, .long t1, .long t2])), (qb, .inl (kb, 16, .inl (nF b))), (qn, .inl (kn, 16, .inl (nF (fl (mmN x1 x2 x3 x4 b) z k))))] := hD
        refine W.widen (k := 0) (n := 0) (Nat.le_of_ble_eq_true rfl) (Nat.le_of_ble_eq_true rfl) ?_
        refine w_pc (pc2 := 79) rfl ?_
        refine lv_ixor hx hb dX3_mix_79 (top_i (n_xor _ _) ?_)
        refine lv_iload hx hb dX3_mix_80 (lv_at hl 7 rfl) ?_
        refine lv_aload_n hx hb dX3_mix_82 rfl (lv_at hl 3 rfl) ?_
        refine va_get (D := (dC, dI)) (ci := 3) (v := .ref qb) (C := RX3) (T := TX3) (N := 18) hx hb hta inX3 hown hK hP 0 rfl rfl 6 (by decide) (hta _ mw_463) (fun _ h9 => h9) rfl dX3_mix_83 ?_
        refine lv_iload hx hb dX3_mix_86 (lv_at hl 1 rfl) ?_
        refine lv_iload hx hb dX3_mix_88 (lv_at hl 0 rfl) ?_
        refine lv_iconst (v := nI 3) hx hb dX3_mix_90 (by decide) ?_
        refine lv_iadd hx hb dX3_mix_91 (top_i (nI_add _ _) ?_)
        refine lv_iconst (v := nI 4) hx hb dX3_mix_92 (by decide) ?_
        refine lv_irem hx hb dX3_mix_93 (by decide) (top_i (pk_rem (by omega) (by decide) (by decide)) ?_)
        refine lv_iadd hx hb dX3_mix_94 (top_i (nI_add _ _) ?_)
        refine va_ialb hx hb hK hP 1 0 rfl rfl (by omega) (by decide) dX3_mix_95 ?_
        refine w_pc (pc2 := 96) rfl ?_
        refine cf_1 (wr := [(o, .inr (3, [.int th, .int (nI ph), .int (zI og), .ref qx, .ref qk, .ref qw, .ref qb, .ref qn, .long mh, .long ml, .long nc, .int rs, .int (nI na), .ref qd, .int (nI nz), .ref qg, .long t1, .long t2])), (qb, .inl (kb, 16, .inl (nF b))), (qn, .inl (kn, 16, .inl (nF (fl (mmN x1 x2 x3 x4 b) z k))))]) (va_runS (As := [.int (nI x4), .int (nI (b ((k - (k % 4)) + (((k % 4) + 3) % 4))))]) (rest := [.int (nI (((tmN x1 (b k)) ^^^ (tmN x2 (b ((k - (k % 4)) + (((k % 4) + 1) % 4))))) ^^^ (tmN x3 (b ((k - (k % 4)) + (((k % 4) + 2) % 4)))))), .int (nI k), .ref qn]) ⟨hx, hb, hml, hown, hta⟩ (MO.to (m_times l dC dI x4 (b ((k - (k % 4)) + (((k % 4) + 3) % 4))) hx4 (b256 _)) H.size) (va_cwS 2 hta (aw_S mw_445 mw_443 mw_444 mw_5) rfl rfl rfl dyX3_times ⟨(Nat.le_of_ble_eq_true rfl), (Nat.le_of_ble_eq_true rfl)⟩) (pr_S hP hD hK hE [] [] (by decide) rfl rfl) rfl rfl hl.1 rfl (lv_room (Nat.le_of_ble_eq_true rfl)) dX3_mix_96 ⟨(Nat.le_of_ble_eq_true rfl), (Nat.le_of_ble_eq_true rfl)⟩) hP hD hS hA [] [0, 1, 2] rfl rfl (by decide) (by decide) (fun H locs hP hD hS => ?_)
        have hP : va_P (dC, dI) vwCl [(o, .inr (3, [.int th, .int (nI ph), .int (zI og), .ref qx, .ref qk, .ref qw, .ref qb, .ref qn, .long mh, .long ml, .long nc, .int rs, .int (nI na), .ref qd, .int (nI nz), .ref qg, .long t1, .long t2])), (qb, .inl (kb, 16, .inl (nF b))), (qn, .inl (kn, 16, .inl (nF (fl (mmN x1 x2 x3 x4 b) z k))))] H := hP
        have hD : va_D A [(o, .inr (3, [.int th, .int (nI ph), .int (zI og), .ref qx, .ref qk, .ref qw, .ref qb, .ref qn, .long mh, .long ml, .long nc, .int rs, .int (nI na), .ref qd, .int (nI nz), .ref qg, .long t1, .long t2])), (qb, .inl (kb, 16, .inl (nF b))), (qn, .inl (kn, 16, .inl (nF (fl (mmN x1 x2 x3 x4 b) z k))))] := hD
        refine W.widen (k := 0) (n := 0) (Nat.le_of_ble_eq_true rfl) (Nat.le_of_ble_eq_true rfl) ?_
        refine w_pc (pc2 := 99) rfl ?_
        refine lv_ixor hx hb dX3_mix_99 ?_
        refine top_i (y := nI ((mmN x1 x2 x3 x4 b) k)) (n_xor _ _) ?_
        refine va_iasb hx hb hK hP hD hS 2 1 rfl rfl (by omega) (by decide) dX3_mix_100 (fun H locs hP hD hS => ?_)
        have hP : va_P (dC, dI) vwCl [(o, .inr (3, [.int th, .int (nI ph), .int (zI og), .ref qx, .ref qk, .ref qw, .ref qb, .ref qn, .long mh, .long ml, .long nc, .int rs, .int (nI na), .ref qd, .int (nI nz), .ref qg, .long t1, .long t2])), (qb, .inl (kb, 16, .inl (nF b))), (qn, .inl (kn, 16, .inl (nF (un (fl (mmN x1 x2 x3 x4 b) z k) k ((mmN x1 x2 x3 x4 b) k)))))] H := hP
        have hD : va_D A [(o, .inr (3, [.int th, .int (nI ph), .int (zI og), .ref qx, .ref qk, .ref qw, .ref qb, .ref qn, .long mh, .long ml, .long nc, .int rs, .int (nI na), .ref qd, .int (nI nz), .ref qg, .long t1, .long t2])), (qb, .inl (kb, 16, .inl (nF b))), (qn, .inl (kn, 16, .inl (nF (un (fl (mmN x1 x2 x3 x4 b) z k) k ((mmN x1 x2 x3 x4 b) k)))))] := hD
        refine lv_iinc (v := nI (k + 1)) (k := 2) hx hb dX3_mix_101 hl rfl (ix_inc _ 1) (by decide) rfl (fun ls hl => ?_)
        have hl : lv_has ls 8 [(5, .int (nI (k + 1))), (7, .int (nI (k % 4))), (6, .int (nI (k - (k % 4)))), (0, .ref o), (1, .int (nI x1)), (2, .int (nI x2)), (3, .int (nI x3)), (4, .int (nI x4))] := hl
        refine lv_goto (tgt := 3) hx hb dX3_mix_104 (by decide) ?_
        obtain ⟨hP, hD⟩ := va_recb (g := fl (mmN x1 x2 x3 x4 b) z (k + 1)) hP hD 2 rfl (fun i _ => fl_s (mmN x1 x2 x3 x4 b) z k i)
        have hP : va_P (dC, dI) vwCl [(o, .inr (3, [.int th, .int (nI ph), .int (zI og), .ref qx, .ref qk, .ref qw, .ref qb, .ref qn, .long mh, .long ml, .long nc, .int rs, .int (nI na), .ref qd, .int (nI nz), .ref qg, .long t1, .long t2])), (qb, .inl (kb, 16, .inl (nF b))), (qn, .inl (kn, 16, .inl (nF (fl (mmN x1 x2 x3 x4 b) z (k + 1)))))] H := hP
        have hD : va_D A [(o, .inr (3, [.int th, .int (nI ph), .int (zI og), .ref qx, .ref qk, .ref qw, .ref qb, .ref qn, .long mh, .long ml, .long nc, .int rs, .int (nI na), .ref qd, .int (nI nz), .ref qg, .long t1, .long t2])), (qb, .inl (kb, 16, .inl (nF b))), (qn, .inl (kn, 16, .inl (nF (fl (mmN x1 x2 x3 x4 b) z (k + 1)))))] := hD
        exact ih (k + 1) ls H locs (by omega)  (lv_sub hl [0, 3, 4, 5, 6, 7] rfl) hP hD hS
  exact loop_3 16 0 ls H locs (by omega)  (lv_sub hl [0, 1, 2, 3, 4, 5] rfl) hP hD hS

def rm_c_twice : Room := { frames := 0, cells := 0, slots := 0, locals := 0 }
set_option maxHeartbeats 4000000 in
set_option maxRecDepth 100000 in
/-- twice(a) -/
theorem c_twice (l : Launch) (dC : Nat → ClassId) (dI : Nat → Nat → Nat) (a : Nat) (ha : a < 256) : MO l dC dI yX0_twice wsX0_twice rm_c_twice [.int (nI a)] [] [] [] (some (.int (nI (tw a)))) := by
  refine mo_ofW (cc := cX0_twice) (maxL := 1) (ret := (some .int)) (by decide) rfl (Nat.le_of_ble_eq_true rfl) ?_
  intro p e s m args below meth c Q A H locs ls hx hb hr hlk hml hta hown hin hE hQ hAe hA hK hP hD hS hl
  have hown : s.vm.findClass RX0 = some m.cls := hown
  have hl : lv_has ls 1 [(0, .int (nI a))] := hl
  refine lv_iload_n hx hb dX0_twice_0 rfl (lv_at hl 0 rfl) ?_
  refine lv_iconst (v := nI 1) hx hb dX0_twice_1 (by decide) ?_
  refine lv_ishl hx hb dX0_twice_2 (top_i (n_shl _ (by decide)) ?_)
  refine lv_iload_n hx hb dX0_twice_3 rfl (lv_at hl 0 rfl) ?_
  refine lv_bipush (v := nI 7) hx hb dX0_twice_4 (by decide) ?_
  refine lv_iushr hx hb dX0_twice_6 rfl (top_i (n_ushr (by omega) (by decide)) ?_)
  refine lv_sipush (v := nI 283) hx hb dX0_twice_7 (by decide) ?_
  refine lv_imul hx hb dX0_twice_10 (top_i (pk_mul _ _) ?_)
  refine lv_ixor hx hb dX0_twice_11 (top_i (n_xor _ _) ?_)
  exact rt_i hx hb hr hlk hQ hAe hP hD hS [] (by decide) rfl (Nat.le_of_ble_eq_true rfl) (Nat.le_of_ble_eq_true rfl) (rfl) dX0_twice_12

def rm_c_sf : Room := { frames := 0, cells := 0, slots := 0, locals := 0 }
set_option maxHeartbeats 4000000 in
set_option maxRecDepth 100000 in
/-- shiftedFrom(i) -/
theorem c_sf (l : Launch) (dC : Nat → ClassId) (dI : Nat → Nat → Nat) (i : Nat) (hi : i < 16) : MO l dC dI yX0_shiftedFrom wsX0_shiftedFrom rm_c_sf [.int (nI i)] [] [] [] (some (.int (nI (sf i)))) := by
  refine mo_ofW (cc := cX0_shiftedFrom) (maxL := 1) (ret := (some .int)) (by decide) rfl (Nat.le_of_ble_eq_true rfl) ?_
  intro p e s m args below meth c Q A H locs ls hx hb hr hlk hml hta hown hin hE hQ hAe hA hK hP hD hS hl
  have hown : s.vm.findClass RX0 = some m.cls := hown
  have hl : lv_has ls 1 [(0, .int (nI i))] := hl
  refine lv_iload_n hx hb dX0_shiftedFrom_0 rfl (lv_at hl 0 rfl) ?_
  refine lv_iconst (v := nI 4) hx hb dX0_shiftedFrom_1 (by decide) ?_
  refine lv_iload_n hx hb dX0_shiftedFrom_2 rfl (lv_at hl 0 rfl) ?_
  refine lv_iconst (v := nI 4) hx hb dX0_shiftedFrom_3 (by decide) ?_
  refine lv_irem hx hb dX0_shiftedFrom_4 (by decide) (top_i (pk_rem (by omega) (by decide) (by decide)) ?_)
  refine lv_imul hx hb dX0_shiftedFrom_5 (top_i (pk_mul _ _) ?_)
  refine lv_iadd hx hb dX0_shiftedFrom_6 (top_i (nI_add _ _) ?_)
  refine lv_bipush (v := nI 16) hx hb dX0_shiftedFrom_7 (by decide) ?_
  refine lv_irem hx hb dX0_shiftedFrom_9 (by decide) (top_i (pk_rem (by omega) (by decide) (by decide)) ?_)
  exact rt_i hx hb hr hlk hQ hAe hP hD hS [] (by decide) rfl (Nat.le_of_ble_eq_true rfl) (Nat.le_of_ble_eq_true rfl) (rfl) dX0_shiftedFrom_10

def rm_c_rot : Room := { frames := 0, cells := 0, slots := 0, locals := 0 }
set_option maxHeartbeats 4000000 in
set_option maxRecDepth 100000 in
/-- Integer.rotateLeft(t, 8) -/
theorem c_rot (l : Launch) (dC : Nat → ClassId) (dI : Nat → Nat → Nat) (t : Int32) : MO l dC dI yJ_rotateLeft wsJ_rotateLeft rm_c_rot [.int t, .int (nI 8)] [] [] [] (some (.int (rl8 t))) := by
  refine mo_ofW (cc := cJ_rotateLeft) (maxL := 2) (ret := (some .int)) (by decide) rfl (Nat.le_of_ble_eq_true rfl) ?_
  intro p e s m args below meth c Q A H locs ls hx hb hr hlk hml hta hown hin hE hQ hAe hA hK hP hD hS hl
  have hown : s.vm.findClass "java/lang/Integer" = some m.cls := hown
  have hl : lv_has ls 2 [(0, .int t), (1, .int (nI 8))] := hl
  refine lv_iload_n hx hb dJ_rotateLeft_0 rfl (lv_at hl 0 rfl) ?_
  refine lv_iload_n hx hb dJ_rotateLeft_1 rfl (lv_at hl 1 rfl) ?_
  refine lv_ishl hx hb dJ_rotateLeft_2 ?_
  refine lv_iload_n hx hb dJ_rotateLeft_3 rfl (lv_at hl 0 rfl) ?_
  refine lv_iload_n hx hb dJ_rotateLeft_4 rfl (lv_at hl 1 rfl) ?_
  refine lv_ineg hx hb dJ_rotateLeft_5 ?_
  refine lv_iushr hx hb dJ_rotateLeft_6 rfl ?_
  refine lv_ior hx hb dJ_rotateLeft_7 ?_
  exact rt_i hx hb hr hlk hQ hAe hP hD hS [] (by decide) rfl (Nat.le_of_ble_eq_true rfl) (Nat.le_of_ble_eq_true rfl) (rfl) dJ_rotateLeft_8

def rm_c_wordAt : Room := { frames := 0, cells := 0, slots := 0, locals := 0 }
set_option maxHeartbeats 4000000 in
set_option maxRecDepth 100000 in
/-- wordAt(i) -/
theorem c_wordAt (l : Launch) (dC : Nat → ClassId) (dI : Nat → Nat → Nat) (o : Nat) (qs : Nat) (qu : Nat) (qw : Nat) (qb : Nat) (qe : Nat) (kw : ClassId) (w : Nat → Int32) (i : Nat) (hi : i < 44) : MO l dC dI yX0_wordAt wsX0_wordAt rm_c_wordAt [.ref o, .int (nI i)] [(o, .inr (0, [.ref qs, .ref qu, .ref qw, .ref qb, .ref qe])), (qw, .inl (kw, 44, .inl w))] [(kw, .int)] [(o, .inr (0, [.ref qs, .ref qu, .ref qw, .ref qb, .ref qe])), (qw, .inl (kw, 44, .inl w))] (some (.int (w i))) := by
  refine mo_ofW (cc := cX0_wordAt) (maxL := 2) (ret := (some .int)) (by decide) rfl (Nat.le_of_ble_eq_true rfl) ?_
  intro p e s m args below meth c Q A H locs ls hx hb hr hlk hml hta hown hin hE hQ hAe hA hK hP hD hS hl
  have hown : s.vm.findClass RX0 = some m.cls := hown
  have hl : lv_has ls 2 [(0, .ref o), (1, .int (nI i))] := hl
  refine lv_aload_n hx hb dX0_wordAt_0 rfl (lv_at hl 0 rfl) ?_
  refine va_get (D := (dC, dI)) (ci := 0) (v := .ref qw) (C := RX0) (T := TX0) (N := 5) hx hb hta inX0 hown hK hP 0 rfl rfl 2 (by decide) (hta _ mw_52) (fun _ h9 => h9) rfl dX0_wordAt_1 ?_
  refine lv_iload_n hx hb dX0_wordAt_4 rfl (lv_at hl 1 rfl) ?_
  refine va_ialn hx hb hK hP 1 0 rfl rfl (by omega) (by decide) dX0_wordAt_5 ?_
  exact rt_i hx hb hr hlk hQ hAe hP hD hS [0, 1] (by decide) rfl (Nat.le_of_ble_eq_true rfl) (Nat.le_of_ble_eq_true rfl) (rfl) dX0_wordAt_6

def rm_c_substWord : Room := { frames := 0, cells := 0, slots := 0, locals := 0 }
set_option maxHeartbeats 4000000 in
set_option maxRecDepth 100000 in
/-- substWord(x) -/
theorem c_substWord (l : Launch) (dC : Nat → ClassId) (dI : Nat → Nat → Nat) (o : Nat) (qs : Nat) (qu : Nat) (qw : Nat) (qb : Nat) (qe : Nat) (ks : ClassId) (sb : Nat → Nat) (x : Int32) : MO l dC dI yX0_substWord wsX0_substWord rm_c_substWord [.ref o, .int x] [(o, .inr (0, [.ref qs, .ref qu, .ref qw, .ref qb, .ref qe])), (qs, .inl (ks, 256, .inl (nF sb)))] [(ks, .int)] [(o, .inr (0, [.ref qs, .ref qu, .ref qw, .ref qb, .ref qe])), (qs, .inl (ks, 256, .inl (nF sb)))] (some (.int (nI (swN sb x)))) := by
  refine mo_ofW (cc := cX0_substWord) (maxL := 2) (ret := (some .int)) (by decide) rfl (Nat.le_of_ble_eq_true rfl) ?_
  intro p e s m args below meth c Q A H locs ls hx hb hr hlk hml hta hown hin hE hQ hAe hA hK hP hD hS hl
  have hown : s.vm.findClass RX0 = some m.cls := hown
  have hl : lv_has ls 2 [(0, .ref o), (1, .int x)] := hl
  refine lv_aload_n hx hb dX0_substWord_0 rfl (lv_at hl 0 rfl) ?_
  refine va_get (D := (dC, dI)) (ci := 0) (v := .ref qs) (C := RX0) (T := TX0) (N := 5) hx hb hta inX0 hown hK hP 0 rfl rfl 0 (by decide) (hta _ mw_50) (fun _ h9 => h9) rfl dX0_substWord_1 ?_
  refine lv_iload_n hx hb dX0_substWord_4 rfl (lv_at hl 1 rfl) ?_
  refine lv_bipush (v := nI 24) hx hb dX0_substWord_5 (by decide) ?_
  refine lv_iushr hx hb dX0_substWord_7 rfl (top_i (w_ushr _ (by decide)) ?_)
  refine va_ialb hx hb hK hP 1 0 rfl rfl (wq24 _) (by decide) dX0_substWord_8 ?_
  refine lv_bipush (v := nI 24) hx hb dX0_substWord_9 (by decide) ?_
  refine lv_ishl hx hb dX0_substWord_11 (top_i (n_shl _ (by decide)) ?_)
  refine lv_aload_n hx hb dX0_substWord_12 rfl (lv_at hl 0 rfl) ?_
  refine va_get (D := (dC, dI)) (ci := 0) (v := .ref qs) (C := RX0) (T := TX0) (N := 5) hx hb hta inX0 hown hK hP 0 rfl rfl 0 (by decide) (hta _ mw_50) (fun _ h9 => h9) rfl dX0_substWord_13 ?_
  refine lv_iload_n hx hb dX0_substWord_16 rfl (lv_at hl 1 rfl) ?_
  refine w_pc (pc2 := 17) rfl ?_
  refine lv_bipush (v := nI 16) hx hb dX0_substWord_17 (by decide) ?_
  refine lv_iushr hx hb dX0_substWord_19 rfl (top_i (w_ushr _ (by decide)) ?_)
  refine lv_sipush (v := nI 255) hx hb dX0_substWord_20 (by decide) ?_
  refine lv_iand hx hb dX0_substWord_23 (top_i (n_m255 _) ?_)
  refine va_ialb hx hb hK hP 1 0 rfl rfl (Nat.mod_lt _ (by decide)) (by decide) dX0_substWord_24 ?_
  refine lv_bipush (v := nI 16) hx hb dX0_substWord_25 (by decide) ?_
  refine lv_ishl hx hb dX0_substWord_27 (top_i (n_shl _ (by decide)) ?_)
  refine lv_ior hx hb dX0_substWord_28 (top_i (n_or _ _) ?_)
  refine lv_aload_n hx hb dX0_substWord_29 rfl (lv_at hl 0 rfl) ?_
  refine va_get (D := (dC, dI)) (ci := 0) (v := .ref qs) (C := RX0) (T := TX0) (N := 5) hx hb hta inX0 hown hK hP 0 rfl rfl 0 (by decide) (hta _ mw_50) (fun _ h9 => h9) rfl dX0_substWord_30 ?_
  refine lv_iload_n hx hb dX0_substWord_33 rfl (lv_at hl 1 rfl) ?_
  refine lv_bipush (v := nI 8) hx hb dX0_substWord_34 (by decide) ?_
  refine w_pc (pc2 := 36) rfl ?_
  refine lv_iushr hx hb dX0_substWord_36 rfl (top_i (w_ushr _ (by decide)) ?_)
  refine lv_sipush (v := nI 255) hx hb dX0_substWord_37 (by decide) ?_
  refine lv_iand hx hb dX0_substWord_40 (top_i (n_m255 _) ?_)
  refine va_ialb hx hb hK hP 1 0 rfl rfl (Nat.mod_lt _ (by decide)) (by decide) dX0_substWord_41 ?_
  refine lv_bipush (v := nI 8) hx hb dX0_substWord_42 (by decide) ?_
  refine lv_ishl hx hb dX0_substWord_44 (top_i (n_shl _ (by decide)) ?_)
  refine lv_ior hx hb dX0_substWord_45 (top_i (n_or _ _) ?_)
  refine lv_aload_n hx hb dX0_substWord_46 rfl (lv_at hl 0 rfl) ?_
  refine va_get (D := (dC, dI)) (ci := 0) (v := .ref qs) (C := RX0) (T := TX0) (N := 5) hx hb hta inX0 hown hK hP 0 rfl rfl 0 (by decide) (hta _ mw_50) (fun _ h9 => h9) rfl dX0_substWord_47 ?_
  refine lv_iload_n hx hb dX0_substWord_50 rfl (lv_at hl 1 rfl) ?_
  refine lv_sipush (v := nI 255) hx hb dX0_substWord_51 (by decide) ?_
  refine lv_iand hx hb dX0_substWord_54 (top_i (w_m255 _) ?_)
  refine w_pc (pc2 := 55) rfl ?_
  refine va_ialb hx hb hK hP 1 0 rfl rfl (Nat.mod_lt _ (by decide)) (by decide) dX0_substWord_55 ?_
  refine lv_ior hx hb dX0_substWord_56 (top_i (n_or _ _) ?_)
  exact rt_i hx hb hr hlk hQ hAe hP hD hS [0, 1] (by decide) rfl (Nat.le_of_ble_eq_true rfl) (Nat.le_of_ble_eq_true rfl) (rfl) dX0_substWord_57

def rm_c_load : Room := { frames := 0, cells := 0, slots := 0, locals := 0 }
set_option maxHeartbeats 4000000 in
set_option maxRecDepth 100000 in
/-- load(hi, lo) -/
theorem c_load (l : Launch) (dC : Nat → ClassId) (dI : Nat → Nat → Nat) (o : Nat) (qs : Nat) (qu : Nat) (qw : Nat) (qb : Nat) (qe : Nat) (kb : ClassId) (b : Nat → Nat) (hi : Int64) (lo : Int64) : MO l dC dI yX0_load wsX0_load rm_c_load [.ref o, .long hi, .long lo] [(o, .inr (0, [.ref qs, .ref qu, .ref qw, .ref qb, .ref qe])), (qb, .inl (kb, 16, .inl (nF b)))] [(kb, .int)] [(o, .inr (0, [.ref qs, .ref qu, .ref qw, .ref qb, .ref qe])), (qb, .inl (kb, 16, .inl (nF (ldN hi lo))))] none := by
  refine mo_ofW (cc := cX0_load) (maxL := 6) (ret := none) (by decide) rfl (Nat.le_of_ble_eq_true rfl) ?_
  intro p e s m args below meth c Q A H locs ls hx hb hr hlk hml hta hown hin hE hQ hAe hA hK hP hD hS hl
  have hown : s.vm.findClass RX0 = some m.cls := hown
  have hl : lv_has ls 6 [(0, .ref o), (1, .long hi), (3, .long lo)] := hl
  refine lv_iconst (v := nI 0) hx hb dX0_load_0 (by decide) ?_
  refine lv_istore hx hb dX0_load_1 hl (by decide) rfl (fun ls hl => ?_)
  have hl : lv_has ls 6 [(5, .int (nI 0)), (0, .ref o), (1, .long hi), (3, .long lo)] := hl
  obtain ⟨hP, hD⟩ := va_recb (g := ldp hi lo b 0) hP hD 1 rfl (fun i _ => ldp_0 hi lo b i)
  have hP : va_P (dC, dI) vwCl [(o, .inr (0, [.ref qs, .ref qu, .ref qw, .ref qb, .ref qe])), (qb, .inl (kb, 16, .inl (nF (ldp hi lo b 0))))] H := hP
  have hD : va_D A [(o, .inr (0, [.ref qs, .ref qu, .ref qw, .ref qb, .ref qe])), (qb, .inl (kb, 16, .inl (nF (ldp hi lo b 0))))] := hD
  have loop_3 : ∀ (n k : Nat) (ls : Array Slot) (H : Heap) (locs : List Loc), k + n = 8 → lv_has ls 6 [(5, .int (nI k)), (0, .ref o), (1, .long hi), (3, .long lo)] → va_P (dC, dI) vwCl [(o, .inr (0, [.ref qs, .ref qu, .ref qw, .ref qb, .ref qe])), (qb, .inl (kb, 16, .inl (nF (ldp hi lo b k))))] H → va_D A [(o, .inr (0, [.ref qs, .ref qu, .ref qw, .ref qb, .ref qe])), (qb, .inl (kb, 16, .inl (nF (ldp hi lo b k))))] → va_S A s.heap H locs → W p l e rm_c_load s m args below meth c H locs 0 0 Q (F0 m 3 ls []) := by
    intro n
    induction n with
    | zero =>
      intro k ls H locs hn_3  hl hP hD hS
      obtain rfl : 8 = k := by omega
      refine lv_iload hx hb dX0_load_3 (lv_at hl 0 rfl) ?_
      refine lv_bipush (v := nI 8) hx hb dX0_load_5 (by decide) ?_
      refine lv_icmp_ge (tgt := 63) hx hb dX0_load_7 (by decide) (fun hc_7 => ?_) (fun hc_7 => ?_)
      · skip
        have hc_7 := (ix_le (a := 8) (b := 8) (by omega) (by omega)).mp hc_7
        have hc_7 : (8 ≤ 8) := hc_7
        obtain ⟨hP, hD⟩ := va_recb (g := ldN hi lo) hP hD 1 rfl (fun i hi9 => ldp_8 hi lo b i hi9)
        have hP : va_P (dC, dI) vwCl [(o, .inr (0, [.ref qs, .ref qu, .ref qw, .ref qb, .ref qe])), (qb, .inl (kb, 16, .inl (nF (ldN hi lo))))] H := hP
        have hD : va_D A [(o, .inr (0, [.ref qs, .ref qu, .ref qw, .ref qb, .ref qe])), (qb, .inl (kb, 16, .inl (nF (ldN hi lo))))] := hD
        exact rt_0 hx hb hr hlk hQ hAe hP hD hS [0, 1] (by decide) rfl (Nat.le_of_ble_eq_true rfl) (Nat.le_of_ble_eq_true rfl) dX0_load_63
      · skip
        have hc_7 := (not_congr (ix_le (a := 8) (b := 8) (by omega) (by omega))).mp hc_7
        have hc_7 : ¬ (8 ≤ 8) := hc_7
        exfalso; omega
    | succ n ih =>
      intro k ls H locs hn_3  hl hP hD hS
      refine lv_iload hx hb dX0_load_3 (lv_at hl 0 rfl) ?_
      refine lv_bipush (v := nI 8) hx hb dX0_load_5 (by decide) ?_
      refine lv_icmp_ge (tgt := 63) hx hb dX0_load_7 (by decide) (fun hc_7 => ?_) (fun hc_7 => ?_)
      · skip
        have hc_7 := (ix_le (a := 8) (b := k) (by omega) (by omega)).mp hc_7
        have hc_7 : (8 ≤ k) := hc_7
        exfalso; omega
      · skip
        have hc_7 := (not_congr (ix_le (a := 8) (b := k) (by omega) (by omega))).mp hc_7
        have hc_7 : ¬ (8 ≤ k) := hc_7
        refine lv_aload_n hx hb dX0_load_10 rfl (lv_at hl 1 rfl) ?_
        refine va_get (D := (dC, dI)) (ci := 0) (v := .ref qb) (C := RX0) (T := TX0) (N := 5) hx hb hta inX0 hown hK hP 0 rfl rfl 3 (by decide) (hta _ mw_53) (fun _ h9 => h9) rfl dX0_load_11 ?_
        refine lv_iload hx hb dX0_load_14 (lv_at hl 0 rfl) ?_
        refine lv_lload_n hx hb dX0_load_16 rfl (lv_at hl 2 rfl) ?_
        refine lv_bipush (v := nI 56) hx hb dX0_load_17 (by decide) ?_
        refine lv_bipush (v := nI 8) hx hb dX0_load_19 (by decide) ?_
        refine lv_iload hx hb dX0_load_21 (lv_at hl 0 rfl) ?_
        refine lv_imul hx hb dX0_load_23 (top_i (pk_mul _ _) ?_)
        refine lv_isub hx hb dX0_load_24 (top_i (pk_sub (by omega)) ?_)
        refine lv_lushr hx hb dX0_load_25 rfl (top_l (l_ushr _ (by omega)) ?_)
        refine lv_l2i hx hb dX0_load_26 rfl (top_i (lN_i _) ?_)
        refine w_pc (pc2 := 27) rfl ?_
        refine lv_sipush (v := nI 255) hx hb dX0_load_27 (by decide) ?_
        refine lv_iand hx hb dX0_load_30 (top_i (n_m255 _) ?_)
        refine va_iasb hx hb hK hP hD hS 1 0 rfl rfl (by omega) (by decide) dX0_load_31 (fun H locs hP hD hS => ?_)
        have hP : va_P (dC, dI) vwCl [(o, .inr (0, [.ref qs, .ref qu, .ref qw, .ref qb, .ref qe])), (qb, .inl (kb, 16, .inl (nF (un (ldp hi lo b k) k ((lW hi / 2 ^ (56 - (8 * k))) % 256)))))] H := hP
        have hD : va_D A [(o, .inr (0, [.ref qs, .ref qu, .ref qw, .ref qb, .ref qe])), (qb, .inl (kb, 16, .inl (nF (un (ldp hi lo b k) k ((lW hi / 2 ^ (56 - (8 * k))) % 256)))))] := hD
        refine lv_aload_n hx hb dX0_load_32 rfl (lv_at hl 1 rfl) ?_
        refine va_get (D := (dC, dI)) (ci := 0) (v := .ref qb) (C := RX0) (T := TX0) (N := 5) hx hb hta inX0 hown hK hP 0 rfl rfl 3 (by decide) (hta _ mw_53) (fun _ h9 => h9) rfl dX0_load_33 ?_
        refine lv_bipush (v := nI 8) hx hb dX0_load_36 (by decide) ?_
        refine lv_iload hx hb dX0_load_38 (lv_at hl 0 rfl) ?_
        refine lv_iadd hx hb dX0_load_40 (top_i (nI_add _ _) ?_)
        refine lv_lload_n hx hb dX0_load_41 rfl (lv_at hl 3 rfl) ?_
        refine lv_bipush (v := nI 56) hx hb dX0_load_42 (by decide) ?_
        refine lv_bipush (v := nI 8) hx hb dX0_load_44 (by decide) ?_
        refine lv_iload hx hb dX0_load_46 (lv_at hl 0 rfl) ?_
        refine w_pc (pc2 := 48) rfl ?_
        refine lv_imul hx hb dX0_load_48 (top_i (pk_mul _ _) ?_)
        refine lv_isub hx hb dX0_load_49 (top_i (pk_sub (by omega)) ?_)
        refine lv_lushr hx hb dX0_load_50 rfl (top_l (l_ushr _ (by omega)) ?_)
        refine lv_l2i hx hb dX0_load_51 rfl (top_i (lN_i _) ?_)
        refine lv_sipush (v := nI 255) hx hb dX0_load_52 (by decide) ?_
        refine lv_iand hx hb dX0_load_55 (top_i (n_m255 _) ?_)
        refine va_iasb hx hb hK hP hD hS 1 0 rfl rfl (by omega) (by decide) dX0_load_56 (fun H locs hP hD hS => ?_)
        have hP : va_P (dC, dI) vwCl [(o, .inr (0, [.ref qs, .ref qu, .ref qw, .ref qb, .ref qe])), (qb, .inl (kb, 16, .inl (nF (un (un (ldp hi lo b k) k ((lW hi / 2 ^ (56 - (8 * k))) % 256)) (8 + k) ((lW lo / 2 ^ (56 - (8 * k))) % 256)))))] H := hP
        have hD : va_D A [(o, .inr (0, [.ref qs, .ref qu, .ref qw, .ref qb, .ref qe])), (qb, .inl (kb, 16, .inl (nF (un (un (ldp hi lo b k) k ((lW hi / 2 ^ (56 - (8 * k))) % 256)) (8 + k) ((lW lo / 2 ^ (56 - (8 * k))) % 256)))))] := hD
        refine lv_iinc (v := nI (k + 1)) (k := 0) hx hb dX0_load_57 hl rfl (ix_inc _ 1) (by decide) rfl (fun ls hl => ?_)
        have hl : lv_has ls 6 [(5, .int (nI (k + 1))), (0, .ref o), (1, .long hi), (3, .long lo)] := hl
        refine lv_goto (tgt := 3) hx hb dX0_load_60 (by decide) ?_
        obtain ⟨hP, hD⟩ := va_recb (g := ldp hi lo b (k + 1)) hP hD 1 rfl (fun i hi9 => ldp_s hi lo b k (by omega) i hi9)
        have hP : va_P (dC, dI) vwCl [(o, .inr (0, [.ref qs, .ref qu, .ref qw, .ref qb, .ref qe])), (qb, .inl (kb, 16, .inl (nF (ldp hi lo b (k + 1)))))] H := hP
        have hD : va_D A [(o, .inr (0, [.ref qs, .ref qu, .ref qw, .ref qb, .ref qe])), (qb, .inl (kb, 16, .inl (nF (ldp hi lo b (k + 1)))))] := hD
        exact ih (k + 1) ls H locs (by omega)  (lv_sub hl [0, 1, 2, 3] rfl) hP hD hS
  exact loop_3 8 0 ls H locs (by omega)  (lv_sub hl [0, 1, 2, 3] rfl) hP hD hS

def rm_c_addWords : Room := { frames := 0, cells := 0, slots := 0, locals := 0 }
set_option maxHeartbeats 4000000 in
set_option maxRecDepth 100000 in
/-- addWords(j) -/
theorem c_addWords (l : Launch) (dC : Nat → ClassId) (dI : Nat → Nat → Nat) (o : Nat) (qs : Nat) (qu : Nat) (qw : Nat) (qb : Nat) (qe : Nat) (kw : ClassId) (kb : ClassId) (w : Nat → Int32) (b : Nat → Nat) (j : Nat) (hj : j ≤ 10) : MO l dC dI yX0_addWords wsX0_addWords rm_c_addWords [.ref o, .int (nI j)] [(o, .inr (0, [.ref qs, .ref qu, .ref qw, .ref qb, .ref qe])), (qw, .inl (kw, 44, .inl w)), (qb, .inl (kb, 16, .inl (nF b)))] [(kw, .int), (kb, .int)] [(o, .inr (0, [.ref qs, .ref qu, .ref qw, .ref qb, .ref qe])), (qw, .inl (kw, 44, .inl w)), (qb, .inl (kb, 16, .inl (nF (akN w j b))))] none := by
  refine mo_ofW (cc := cX0_addWords) (maxL := 4) (ret := none) (by decide) rfl (Nat.le_of_ble_eq_true rfl) ?_
  intro p e s m args below meth c Q A H locs ls hx hb hr hlk hml hta hown hin hE hQ hAe hA hK hP hD hS hl
  have hown : s.vm.findClass RX0 = some m.cls := hown
  have hl : lv_has ls 4 [(0, .ref o), (1, .int (nI j))] := hl
  refine lv_iconst (v := nI 0) hx hb dX0_addWords_0 (by decide) ?_
  refine lv_istore_n hx hb dX0_addWords_1 rfl hl (by decide) rfl (fun ls hl => ?_)
  have hl : lv_has ls 4 [(2, .int (nI 0)), (0, .ref o), (1, .int (nI j))] := hl
  obtain ⟨hP, hD⟩ := va_recb (g := akp w j b 0) hP hD 2 rfl (fun i _ => akp_0 w j b i)
  have hP : va_P (dC, dI) vwCl [(o, .inr (0, [.ref qs, .ref qu, .ref qw, .ref qb, .ref qe])), (qw, .inl (kw, 44, .inl w)), (qb, .inl (kb, 16, .inl (nF (akp w j b 0))))] H := hP
  have hD : va_D A [(o, .inr (0, [.ref qs, .ref qu, .ref qw, .ref qb, .ref qe])), (qw, .inl (kw, 44, .inl w)), (qb, .inl (kb, 16, .inl (nF (akp w j b 0))))] := hD
  have loop_2 : ∀ (n k : Nat) (ls : Array Slot) (H : Heap) (locs : List Loc), k + n = 4 → lv_has ls 4 [(2, .int (nI k)), (0, .ref o), (1, .int (nI j))] → va_P (dC, dI) vwCl [(o, .inr (0, [.ref qs, .ref qu, .ref qw, .ref qb, .ref qe])), (qw, .inl (kw, 44, .inl w)), (qb, .inl (kb, 16, .inl (nF (akp w j b k))))] H → va_D A [(o, .inr (0, [.ref qs, .ref qu, .ref qw, .ref qb, .ref qe])), (qw, .inl (kw, 44, .inl w)), (qb, .inl (kb, 16, .inl (nF (akp w j b k))))] → va_S A s.heap H locs → W p l e rm_c_addWords s m args below meth c H locs 0 0 Q (F0 m 2 ls []) := by
    intro n
    induction n with
    | zero =>
      intro k ls H locs hn_2  hl hP hD hS
      obtain rfl : 4 = k := by omega
      refine lv_iload_n hx hb dX0_addWords_2 rfl (lv_at hl 0 rfl) ?_
      refine lv_iconst (v := nI 4) hx hb dX0_addWords_3 (by decide) ?_
      refine lv_icmp_ge (tgt := 99) hx hb dX0_addWords_4 (by decide) (fun hc_4 => ?_) (fun hc_4 => ?_)
      · skip
        have hc_4 := (ix_le (a := 4) (b := 4) (by omega) (by omega)).mp hc_4
        have hc_4 : (4 ≤ 4) := hc_4
        obtain ⟨hP, hD⟩ := va_recb (g := akN w j b) hP hD 2 rfl (fun i hi9 => akp_4 w j b i hi9)
        have hP : va_P (dC, dI) vwCl [(o, .inr (0, [.ref qs, .ref qu, .ref qw, .ref qb, .ref qe])), (qw, .inl (kw, 44, .inl w)), (qb, .inl (kb, 16, .inl (nF (akN w j b))))] H := hP
        have hD : va_D A [(o, .inr (0, [.ref qs, .ref qu, .ref qw, .ref qb, .ref qe])), (qw, .inl (kw, 44, .inl w)), (qb, .inl (kb, 16, .inl (nF (akN w j b))))] := hD
        exact rt_0 hx hb hr hlk hQ hAe hP hD hS [0, 1, 2] (by decide) rfl (Nat.le_of_ble_eq_true rfl) (Nat.le_of_ble_eq_true rfl) dX0_addWords_99
      · skip
        have hc_4 := (not_congr (ix_le (a := 4) (b := 4) (by omega) (by omega))).mp hc_4
        have hc_4 : ¬ (4 ≤ 4) := hc_4
        exfalso; omega
    | succ n ih =>
      intro k ls H locs hn_2  hl hP hD hS
      refine lv_iload_n hx hb dX0_addWords_2 rfl (lv_at hl 0 rfl) ?_
      refine lv_iconst (v := nI 4) hx hb dX0_addWords_3 (by decide) ?_
      refine lv_icmp_ge (tgt := 99) hx hb dX0_addWords_4 (by decide) (fun hc_4 => ?_) (fun hc_4 => ?_)
      · skip
        have hc_4 := (ix_le (a := 4) (b := k) (by omega) (by omega)).mp hc_4
        have hc_4 : (4 ≤ k) := hc_4
        exfalso; omega
      · skip
        have hc_4 := (not_congr (ix_le (a := 4) (b := k) (by omega) (by omega))).mp hc_4
        have hc_4 : ¬ (4 ≤ k) := hc_4
        refine lv_aload_n hx hb dX0_addWords_7 rfl (lv_at hl 1 rfl) ?_
        refine va_get (D := (dC, dI)) (ci := 0) (v := .ref qw) (C := RX0) (T := TX0) (N := 5) hx hb hta inX0 hown hK hP 0 rfl rfl 2 (by decide) (hta _ mw_52) (fun _ h9 => h9) rfl dX0_addWords_8 ?_
        refine lv_iconst (v := nI 4) hx hb dX0_addWords_11 (by decide) ?_
        refine lv_iload_n hx hb dX0_addWords_12 rfl (lv_at hl 2 rfl) ?_
        refine lv_imul hx hb dX0_addWords_13 (top_i (pk_mul _ _) ?_)
        refine lv_iload_n hx hb dX0_addWords_14 rfl (lv_at hl 0 rfl) ?_
        refine lv_iadd hx hb dX0_addWords_15 (top_i (nI_add _ _) ?_)
        refine va_ialn hx hb hK hP 1 0 rfl rfl (by omega) (by decide) dX0_addWords_16 ?_
        refine lv_istore_n hx hb dX0_addWords_17 rfl hl (by decide) rfl (fun ls hl => ?_)
        have hl : lv_has ls 4 [(3, .int (w ((4 * j) + k))), (2, .int (nI k)), (0, .ref o), (1, .int (nI j))] := hl
        refine lv_aload_n hx hb dX0_addWords_18 rfl (lv_at hl 2 rfl) ?_
        refine va_get (D := (dC, dI)) (ci := 0) (v := .ref qb) (C := RX0) (T := TX0) (N := 5) hx hb hta inX0 hown hK hP 0 rfl rfl 3 (by decide) (hta _ mw_53) (fun _ h9 => h9) rfl dX0_addWords_19 ?_
        refine w_pc (pc2 := 22) rfl ?_
        refine lv_iconst (v := nI 4) hx hb dX0_addWords_22 (by decide) ?_
        refine lv_iload_n hx hb dX0_addWords_23 rfl (lv_at hl 1 rfl) ?_
        refine lv_imul hx hb dX0_addWords_24 (top_i (pk_mul _ _) ?_)
        refine lv_dup2_11 hx hb dX0_addWords_25 rfl rfl ?_
        refine va_ialb hx hb hK hP 2 1 rfl rfl (by omega) (by decide) dX0_addWords_26 ?_
        refine top_i (y := nI (b (4 * k))) (congrArg nI (akp_ge w j b k _ (by omega))) ?_
        refine lv_iload_n hx hb dX0_addWords_27 rfl (lv_at hl 0 rfl) ?_
        refine lv_bipush (v := nI 24) hx hb dX0_addWords_28 (by decide) ?_
        refine lv_iushr hx hb dX0_addWords_30 rfl (top_i (w_ushr _ (by decide)) ?_)
        refine lv_ixor hx hb dX0_addWords_31 ?_
        refine top_i (y := nI ((b (4 * k)) ^^^ (wbt (w ((4 * j) + k)) 0))) ((n_xor _ _).trans (congrArg nI (congrArg (_ ^^^ ·) (wbt_0 _)))) ?_
        refine va_iasb hx hb hK hP hD hS 2 1 rfl rfl (by omega) (by decide) dX0_addWords_32 (fun H locs hP hD hS => ?_)
        have hP : va_P (dC, dI) vwCl [(o, .inr (0, [.ref qs, .ref qu, .ref qw, .ref qb, .ref qe])), (qw, .inl (kw, 44, .inl w)), (qb, .inl (kb, 16, .inl (nF (un (akp w j b k) (4 * k) ((b (4 * k)) ^^^ (wbt (w ((4 * j) + k)) 0))))))] H := hP
        have hD : va_D A [(o, .inr (0, [.ref qs, .ref qu, .ref qw, .ref qb, .ref qe])), (qw, .inl (kw, 44, .inl w)), (qb, .inl (kb, 16, .inl (nF (un (akp w j b k) (4 * k) ((b (4 * k)) ^^^ (wbt (w ((4 * j) + k)) 0))))))] := hD
        refine lv_aload_n hx hb dX0_addWords_33 rfl (lv_at hl 2 rfl) ?_
        refine va_get (D := (dC, dI)) (ci := 0) (v := .ref qb) (C := RX0) (T := TX0) (N := 5) hx hb hta inX0 hown hK hP 0 rfl rfl 3 (by decide) (hta _ mw_53) (fun _ h9 => h9) rfl dX0_addWords_34 ?_
        refine w_pc (pc2 := 37) rfl ?_
        refine lv_iconst (v := nI 4) hx hb dX0_addWords_37 (by decide) ?_
        refine lv_iload_n hx hb dX0_addWords_38 rfl (lv_at hl 1 rfl) ?_
        refine lv_imul hx hb dX0_addWords_39 (top_i (pk_mul _ _) ?_)
        refine lv_iconst (v := nI 1) hx hb dX0_addWords_40 (by decide) ?_
        refine lv_iadd hx hb dX0_addWords_41 (top_i (nI_add _ _) ?_)
        refine lv_dup2_11 hx hb dX0_addWords_42 rfl rfl ?_
        refine va_ialb hx hb hK hP 2 1 rfl rfl (by omega) (by decide) dX0_addWords_43 ?_
        refine top_i (y := nI (b ((4 * k) + 1))) (congrArg nI ((un_n (by omega)).trans (akp_ge w j b k _ (by omega)))) ?_
        refine lv_iload_n hx hb dX0_addWords_44 rfl (lv_at hl 0 rfl) ?_
        refine lv_bipush (v := nI 16) hx hb dX0_addWords_45 (by decide) ?_
        refine lv_iushr hx hb dX0_addWords_47 rfl (top_i (w_ushr _ (by decide)) ?_)
        refine lv_sipush (v := nI 255) hx hb dX0_addWords_48 (by decide) ?_
        refine lv_iand hx hb dX0_addWords_51 (top_i (n_m255 _) ?_)
        refine w_pc (pc2 := 52) rfl ?_
        refine lv_ixor hx hb dX0_addWords_52 ?_
        refine top_i (y := nI ((b ((4 * k) + 1)) ^^^ (wbt (w ((4 * j) + k)) 1))) ((n_xor _ _).trans (congrArg nI (congrArg (_ ^^^ ·) rfl))) ?_
        refine va_iasb hx hb hK hP hD hS 2 1 rfl rfl (by omega) (by decide) dX0_addWords_53 (fun H locs hP hD hS => ?_)
        have hP : va_P (dC, dI) vwCl [(o, .inr (0, [.ref qs, .ref qu, .ref qw, .ref qb, .ref qe])), (qw, .inl (kw, 44, .inl w)), (qb, .inl (kb, 16, .inl (nF (un (un (akp w j b k) (4 * k) ((b (4 * k)) ^^^ (wbt (w ((4 * j) + k)) 0))) ((4 * k) + 1) ((b ((4 * k) + 1)) ^^^ (wbt (w ((4 * j) + k)) 1))))))] H := hP
        have hD : va_D A [(o, .inr (0, [.ref qs, .ref qu, .ref qw, .ref qb, .ref qe])), (qw, .inl (kw, 44, .inl w)), (qb, .inl (kb, 16, .inl (nF (un (un (akp w j b k) (4 * k) ((b (4 * k)) ^^^ (wbt (w ((4 * j) + k)) 0))) ((4 * k) + 1) ((b ((4 * k) + 1)) ^^^ (wbt (w ((4 * j) + k)) 1))))))] := hD
        refine lv_aload_n hx hb dX0_addWords_54 rfl (lv_at hl 2 rfl) ?_
        refine va_get (D := (dC, dI)) (ci := 0) (v := .ref qb) (C := RX0) (T := TX0) (N := 5) hx hb hta inX0 hown hK hP 0 rfl rfl 3 (by decide) (hta _ mw_53) (fun _ h9 => h9) rfl dX0_addWords_55 ?_
        refine lv_iconst (v := nI 4) hx hb dX0_addWords_58 (by decide) ?_
        refine lv_iload_n hx hb dX0_addWords_59 rfl (lv_at hl 1 rfl) ?_
        refine lv_imul hx hb dX0_addWords_60 (top_i (pk_mul _ _) ?_)
        refine lv_iconst (v := nI 2) hx hb dX0_addWords_61 (by decide) ?_
        refine lv_iadd hx hb dX0_addWords_62 (top_i (nI_add _ _) ?_)
        refine lv_dup2_11 hx hb dX0_addWords_63 rfl rfl ?_
        refine va_ialb hx hb hK hP 2 1 rfl rfl (by omega) (by decide) dX0_addWords_64 ?_
        refine top_i (y := nI (b ((4 * k) + 2))) (congrArg nI ((un_n (by omega)).trans ((un_n (by omega)).trans (akp_ge w j b k _ (by omega))))) ?_
        refine lv_iload_n hx hb dX0_addWords_65 rfl (lv_at hl 0 rfl) ?_
        refine w_pc (pc2 := 66) rfl ?_
        refine lv_bipush (v := nI 8) hx hb dX0_addWords_66 (by decide) ?_
        refine lv_iushr hx hb dX0_addWords_68 rfl (top_i (w_ushr _ (by decide)) ?_)
        refine lv_sipush (v := nI 255) hx hb dX0_addWords_69 (by decide) ?_
        refine lv_iand hx hb dX0_addWords_72 (top_i (n_m255 _) ?_)
        refine lv_ixor hx hb dX0_addWords_73 ?_
        refine top_i (y := nI ((b ((4 * k) + 2)) ^^^ (wbt (w ((4 * j) + k)) 2))) ((n_xor _ _).trans (congrArg nI (congrArg (_ ^^^ ·) rfl))) ?_
        refine va_iasb hx hb hK hP hD hS 2 1 rfl rfl (by omega) (by decide) dX0_addWords_74 (fun H locs hP hD hS => ?_)
        have hP : va_P (dC, dI) vwCl [(o, .inr (0, [.ref qs, .ref qu, .ref qw, .ref qb, .ref qe])), (qw, .inl (kw, 44, .inl w)), (qb, .inl (kb, 16, .inl (nF (un (un (un (akp w j b k) (4 * k) ((b (4 * k)) ^^^ (wbt (w ((4 * j) + k)) 0))) ((4 * k) + 1) ((b ((4 * k) + 1)) ^^^ (wbt (w ((4 * j) + k)) 1))) ((4 * k) + 2) ((b ((4 * k) + 2)) ^^^ (wbt (w ((4 * j) + k)) 2))))))] H := hP
        have hD : va_D A [(o, .inr (0, [.ref qs, .ref qu, .ref qw, .ref qb, .ref qe])), (qw, .inl (kw, 44, .inl w)), (qb, .inl (kb, 16, .inl (nF (un (un (un (akp w j b k) (4 * k) ((b (4 * k)) ^^^ (wbt (w ((4 * j) + k)) 0))) ((4 * k) + 1) ((b ((4 * k) + 1)) ^^^ (wbt (w ((4 * j) + k)) 1))) ((4 * k) + 2) ((b ((4 * k) + 2)) ^^^ (wbt (w ((4 * j) + k)) 2))))))] := hD
        refine lv_aload_n hx hb dX0_addWords_75 rfl (lv_at hl 2 rfl) ?_
        refine va_get (D := (dC, dI)) (ci := 0) (v := .ref qb) (C := RX0) (T := TX0) (N := 5) hx hb hta inX0 hown hK hP 0 rfl rfl 3 (by decide) (hta _ mw_53) (fun _ h9 => h9) rfl dX0_addWords_76 ?_
        refine lv_iconst (v := nI 4) hx hb dX0_addWords_79 (by decide) ?_
        refine lv_iload_n hx hb dX0_addWords_80 rfl (lv_at hl 1 rfl) ?_
        refine lv_imul hx hb dX0_addWords_81 (top_i (pk_mul _ _) ?_)
        refine lv_iconst (v := nI 3) hx hb dX0_addWords_82 (by decide) ?_
        refine w_pc (pc2 := 83) rfl ?_
        refine lv_iadd hx hb dX0_addWords_83 (top_i (nI_add _ _) ?_)
        refine lv_dup2_11 hx hb dX0_addWords_84 rfl rfl ?_
        refine va_ialb hx hb hK hP 2 1 rfl rfl (by omega) (by decide) dX0_addWords_85 ?_
        refine top_i (y := nI (b ((4 * k) + 3))) (congrArg nI ((un_n (by omega)).trans ((un_n (by omega)).trans ((un_n (by omega)).trans (akp_ge w j b k _ (by omega)))))) ?_
        refine lv_iload_n hx hb dX0_addWords_86 rfl (lv_at hl 0 rfl) ?_
        refine lv_sipush (v := nI 255) hx hb dX0_addWords_87 (by decide) ?_
        refine lv_iand hx hb dX0_addWords_90 (top_i (w_m255 _) ?_)
        refine lv_ixor hx hb dX0_addWords_91 ?_
        refine top_i (y := nI ((b ((4 * k) + 3)) ^^^ (wbt (w ((4 * j) + k)) 3))) ((n_xor _ _).trans (congrArg nI (congrArg (_ ^^^ ·) rfl))) ?_
        refine va_iasb hx hb hK hP hD hS 2 1 rfl rfl (by omega) (by decide) dX0_addWords_92 (fun H locs hP hD hS => ?_)
        have hP : va_P (dC, dI) vwCl [(o, .inr (0, [.ref qs, .ref qu, .ref qw, .ref qb, .ref qe])), (qw, .inl (kw, 44, .inl w)), (qb, .inl (kb, 16, .inl (nF (un (un (un (un (akp w j b k) (4 * k) ((b (4 * k)) ^^^ (wbt (w ((4 * j) + k)) 0))) ((4 * k) + 1) ((b ((4 * k) + 1)) ^^^ (wbt (w ((4 * j) + k)) 1))) ((4 * k) + 2) ((b ((4 * k) + 2)) ^^^ (wbt (w ((4 * j) + k)) 2))) ((4 * k) + 3) ((b ((4 * k) + 3)) ^^^ (wbt (w ((4 * j) + k)) 3))))))] H := hP
        have hD : va_D A [(o, .inr (0, [.ref qs, .ref qu, .ref qw, .ref qb, .ref qe])), (qw, .inl (kw, 44, .inl w)), (qb, .inl (kb, 16, .inl (nF (un (un (un (un (akp w j b k) (4 * k) ((b (4 * k)) ^^^ (wbt (w ((4 * j) + k)) 0))) ((4 * k) + 1) ((b ((4 * k) + 1)) ^^^ (wbt (w ((4 * j) + k)) 1))) ((4 * k) + 2) ((b ((4 * k) + 2)) ^^^ (wbt (w ((4 * j) + k)) 2))) ((4 * k) + 3) ((b ((4 * k) + 3)) ^^^ (wbt (w ((4 * j) + k)) 3))))))] := hD
        refine lv_iinc (v := nI (k + 1)) (k := 1) hx hb dX0_addWords_93 hl rfl (ix_inc _ 1) (by decide) rfl (fun ls hl => ?_)
        have hl : lv_has ls 4 [(2, .int (nI (k + 1))), (3, .int (w ((4 * j) + k))), (0, .ref o), (1, .int (nI j))] := hl
        refine lv_goto (tgt := 2) hx hb dX0_addWords_96 (by decide) ?_
        obtain ⟨hP, hD⟩ := va_recb (g := akp w j b (k + 1)) hP hD 2 rfl (fun i _ => akp_s w j b k i)
        have hP : va_P (dC, dI) vwCl [(o, .inr (0, [.ref qs, .ref qu, .ref qw, .ref qb, .ref qe])), (qw, .inl (kw, 44, .inl w)), (qb, .inl (kb, 16, .inl (nF (akp w j b (k + 1)))))] H := hP
        have hD : va_D A [(o, .inr (0, [.ref qs, .ref qu, .ref qw, .ref qb, .ref qe])), (qw, .inl (kw, 44, .inl w)), (qb, .inl (kb, 16, .inl (nF (akp w j b (k + 1)))))] := hD
        exact ih (k + 1) ls H locs (by omega)  (lv_sub hl [0, 2, 3] rfl) hP hD hS
  exact loop_2 4 0 ls H locs (by omega)  (lv_sub hl [0, 1, 2] rfl) hP hD hS

def rm_c_copyBlock : Room := { frames := 1, cells := 0, slots := 0, locals := 60 }
set_option maxHeartbeats 4000000 in
set_option maxRecDepth 100000 in
/-- copyBlock(row) -/
theorem c_copyBlock (l : Launch) (dC : Nat → ClassId) (dI : Nat → Nat → Nat) (o : Nat) (qs : Nat) (qu : Nat) (qw : Nat) (qb : Nat) (qe : Nat) (kb : ClassId) (b : Nat → Nat) (r : Nat) (kr : ClassId) (z : Nat → Nat) : MO l dC dI yX0_copyBlock wsX0_copyBlock rm_c_copyBlock [.ref o, .ref r] [(o, .inr (0, [.ref qs, .ref qu, .ref qw, .ref qb, .ref qe])), (qb, .inl (kb, 16, .inl (nF b))), (r, .inl (kr, 16, .inl (nF z)))] [(kb, .int), (kr, .int)] [(o, .inr (0, [.ref qs, .ref qu, .ref qw, .ref qb, .ref qe])), (qb, .inl (kb, 16, .inl (nF b))), (r, .inl (kr, 16, .inl (nF b)))] none := by
  refine mo_ofW (cc := cX0_copyBlock) (maxL := 2) (ret := none) (by decide) rfl (Nat.le_of_ble_eq_true rfl) ?_
  intro p e s m args below meth c Q A H locs ls hx hb hr hlk hml hta hown hin hE hQ hAe hA hK hP hD hS hl
  have hown : s.vm.findClass RX0 = some m.cls := hown
  have hl : lv_has ls 2 [(0, .ref o), (1, .ref r)] := hl
  refine lv_aload_n hx hb dX0_copyBlock_0 rfl (lv_at hl 0 rfl) ?_
  refine va_get (D := (dC, dI)) (ci := 0) (v := .ref qb) (C := RX0) (T := TX0) (N := 5) hx hb hta inX0 hown hK hP 0 rfl rfl 3 (by decide) (hta _ mw_53) (fun _ h9 => h9) rfl dX0_copyBlock_1 ?_
  refine lv_iconst (v := nI 0) hx hb dX0_copyBlock_4 (by decide) ?_
  refine lv_aload_n hx hb dX0_copyBlock_5 rfl (lv_at hl 1 rfl) ?_
  refine lv_iconst (v := nI 0) hx hb dX0_copyBlock_6 (by decide) ?_
  refine lv_bipush (v := nI 16) hx hb dX0_copyBlock_7 (by decide) ?_
  refine va_copyi hx hb (hml.trans hl.1.symm) hown (hta _ mw_152) (hta _ mw_154) (hta _ mw_153) (hta _ mw_10) hK hP hD hS 1 2 0 1 rfl rfl rfl rfl rfl (by decide) (by decide) (by decide) (by decide) (by decide) (fun _ _ => rfl) (Nat.le_of_ble_eq_true rfl) (by decide) dX0_copyBlock_9 (fun H locs hP hD hS => ?_)
  have hP : va_P (dC, dI) vwCl [(o, .inr (0, [.ref qs, .ref qu, .ref qw, .ref qb, .ref qe])), (qb, .inl (kb, 16, .inl (nF b))), (r, .inl (kr, 16, .inl (va_cpy (nF b) (nF z) (nI 0).toNatClampNeg (nI 0).toNatClampNeg (nI 16).toNatClampNeg)))] H := hP
  have hD : va_D A [(o, .inr (0, [.ref qs, .ref qu, .ref qw, .ref qb, .ref qe])), (qb, .inl (kb, 16, .inl (nF b))), (r, .inl (kr, 16, .inl (va_cpy (nF b) (nF z) (nI 0).toNatClampNeg (nI 0).toNatClampNeg (nI 16).toNatClampNeg)))] := hD
  obtain ⟨hP, hD⟩ := va_rec (g := nF b) hP hD 2 rfl (cp16 (f := nF b) (g := nF z))
  have hP : va_P (dC, dI) vwCl [(o, .inr (0, [.ref qs, .ref qu, .ref qw, .ref qb, .ref qe])), (qb, .inl (kb, 16, .inl (nF b))), (r, .inl (kr, 16, .inl (nF b)))] H := hP
  have hD : va_D A [(o, .inr (0, [.ref qs, .ref qu, .ref qw, .ref qb, .ref qe])), (qb, .inl (kb, 16, .inl (nF b))), (r, .inl (kr, 16, .inl (nF b)))] := hD
  exact rt_0 hx hb hr hlk hQ hAe hP hD hS [0, 1, 2] (by decide) rfl (Nat.le_of_ble_eq_true rfl) (Nat.le_of_ble_eq_true rfl) dX0_copyBlock_12

def rm_c_substAndShift : Room := { frames := 2, cells := 0, slots := 0, locals := 81 }
set_option maxHeartbeats 4000000 in
set_option maxRecDepth 100000 in
/-- substAndShift() -/
theorem c_substAndShift (l : Launch) (dC : Nat → ClassId) (dI : Nat → Nat → Nat) (o : Nat) (qs : Nat) (qu : Nat) (qw : Nat) (qb : Nat) (qe : Nat) (ks : ClassId) (kb : ClassId) (ke : ClassId) (sb : Nat → Nat) (b : Nat → Nat) (z : Nat → Nat) (b256 : ∀ i, b i < 256) : MO l dC dI yX0_substAndShift wsX0_substAndShift rm_c_substAndShift [.ref o] [(o, .inr (0, [.ref qs, .ref qu, .ref qw, .ref qb, .ref qe])), (qs, .inl (ks, 256, .inl (nF sb))), (qb, .inl (kb, 16, .inl (nF b))), (qe, .inl (ke, 16, .inl (nF z)))] [(ks, .int), (kb, .int), (ke, .int)] [(o, .inr (0, [.ref qs, .ref qu, .ref qw, .ref qb, .ref qe])), (qs, .inl (ks, 256, .inl (nF sb))), (qb, .inl (kb, 16, .inl (nF (ssN sb b)))), (qe, .inl (ke, 16, .inl (nF b)))] none := by
  refine mo_ofW (cc := cX0_substAndShift) (maxL := 2) (ret := none) (by decide) rfl (Nat.le_of_ble_eq_true rfl) ?_
  intro p e s m args below meth c Q A H locs ls hx hb hr hlk hml hta hown hin hE hQ hAe hA hK hP hD hS hl
  have hown : s.vm.findClass RX0 = some m.cls := hown
  have hl : lv_has ls 2 [(0, .ref o)] := hl
  refine lv_aload_n hx hb dX0_substAndShift_0 rfl (lv_at hl 0 rfl) ?_
  refine lv_aload_n hx hb dX0_substAndShift_1 rfl (lv_at hl 0 rfl) ?_
  refine va_get (D := (dC, dI)) (ci := 0) (v := .ref qe) (C := RX0) (T := TX0) (N := 5) hx hb hta inX0 hown hK hP 0 rfl rfl 4 (by decide) (hta _ mw_54) (fun _ h9 => h9) rfl dX0_substAndShift_2 ?_
  refine cf_0 (wr := [(qs, .inl (ks, 256, .inl (nF sb)))]) (va_runV (As := [.ref qe]) (rest := []) ⟨hx, hb, hml, hown, hta⟩ (MO.to (c_copyBlock l dC dI o qs qu qw qb qe kb b qe ke z) H.size) (cwV 1 hta (aw_V mw_151 mw_148 mw_149 mw_150 mw_2) rfl rfl rfl ⟨rfl, dyX0_copyBlock⟩ ⟨(Nat.le_of_ble_eq_true rfl), (Nat.le_of_ble_eq_true rfl)⟩) (pr_V hP hD hK hE [0, 2, 3] [1, 2] (by decide) rfl rfl rfl rfl) rfl rfl hl.1 rfl (lv_room (Nat.le_of_ble_eq_true rfl)) dX0_substAndShift_5 ⟨(Nat.le_of_ble_eq_true rfl), (Nat.le_of_ble_eq_true rfl)⟩) hP hD hS hA [0, 2, 3] [1] rfl rfl (by decide) (by decide) (fun H locs hP hD hS => ?_)
  have hP : va_P (dC, dI) vwCl [(qs, .inl (ks, 256, .inl (nF sb))), (o, .inr (0, [.ref qs, .ref qu, .ref qw, .ref qb, .ref qe])), (qb, .inl (kb, 16, .inl (nF b))), (qe, .inl (ke, 16, .inl (nF b)))] H := hP
  have hD : va_D A [(qs, .inl (ks, 256, .inl (nF sb))), (o, .inr (0, [.ref qs, .ref qu, .ref qw, .ref qb, .ref qe])), (qb, .inl (kb, 16, .inl (nF b))), (qe, .inl (ke, 16, .inl (nF b)))] := hD
  refine W.widen (k := 0) (n := 0) (Nat.le_of_ble_eq_true rfl) (Nat.le_of_ble_eq_true rfl) ?_
  refine w_pc (pc2 := 8) rfl ?_
  refine lv_iconst (v := nI 0) hx hb dX0_substAndShift_8 (by decide) ?_
  refine lv_istore_n hx hb dX0_substAndShift_9 rfl hl (by decide) rfl (fun ls hl => ?_)
  have hl : lv_has ls 2 [(1, .int (nI 0)), (0, .ref o)] := hl
  obtain ⟨hP, hD⟩ := va_recb (g := ssp sb b 0) hP hD 2 rfl (fun i _ => ssp_0 sb b i)
  have hP : va_P (dC, dI) vwCl [(qs, .inl (ks, 256, .inl (nF sb))), (o, .inr (0, [.ref qs, .ref qu, .ref qw, .ref qb, .ref qe])), (qb, .inl (kb, 16, .inl (nF (ssp sb b 0)))), (qe, .inl (ke, 16, .inl (nF b)))] H := hP
  have hD : va_D A [(qs, .inl (ks, 256, .inl (nF sb))), (o, .inr (0, [.ref qs, .ref qu, .ref qw, .ref qb, .ref qe])), (qb, .inl (kb, 16, .inl (nF (ssp sb b 0)))), (qe, .inl (ke, 16, .inl (nF b)))] := hD
  have loop_10 : ∀ (n k : Nat) (ls : Array Slot) (H : Heap) (locs : List Loc), k + n = 16 → lv_has ls 2 [(1, .int (nI k)), (0, .ref o)] → va_P (dC, dI) vwCl [(qs, .inl (ks, 256, .inl (nF sb))), (o, .inr (0, [.ref qs, .ref qu, .ref qw, .ref qb, .ref qe])), (qb, .inl (kb, 16, .inl (nF (ssp sb b k)))), (qe, .inl (ke, 16, .inl (nF b)))] H → va_D A [(qs, .inl (ks, 256, .inl (nF sb))), (o, .inr (0, [.ref qs, .ref qu, .ref qw, .ref qb, .ref qe])), (qb, .inl (kb, 16, .inl (nF (ssp sb b k)))), (qe, .inl (ke, 16, .inl (nF b)))] → va_S A s.heap H locs → W p l e rm_c_substAndShift s m args below meth c H locs 0 0 Q (F0 m 10 ls []) := by
    intro n
    induction n with
    | zero =>
      intro k ls H locs hn_10  hl hP hD hS
      obtain rfl : 16 = k := by omega
      refine lv_iload_n hx hb dX0_substAndShift_10 rfl (lv_at hl 0 rfl) ?_
      refine lv_bipush (v := nI 16) hx hb dX0_substAndShift_11 (by decide) ?_
      refine lv_icmp_ge (tgt := 42) hx hb dX0_substAndShift_13 (by decide) (fun hc_13 => ?_) (fun hc_13 => ?_)
      · skip
        have hc_13 := (ix_le (a := 16) (b := 16) (by omega) (by omega)).mp hc_13
        have hc_13 : (16 ≤ 16) := hc_13
        obtain ⟨hP, hD⟩ := va_recb (g := ssN sb b) hP hD 2 rfl (fun i hi9 => ssp_16 sb b i hi9)
        have hP : va_P (dC, dI) vwCl [(qs, .inl (ks, 256, .inl (nF sb))), (o, .inr (0, [.ref qs, .ref qu, .ref qw, .ref qb, .ref qe])), (qb, .inl (kb, 16, .inl (nF (ssN sb b)))), (qe, .inl (ke, 16, .inl (nF b)))] H := hP
        have hD : va_D A [(qs, .inl (ks, 256, .inl (nF sb))), (o, .inr (0, [.ref qs, .ref qu, .ref qw, .ref qb, .ref qe])), (qb, .inl (kb, 16, .inl (nF (ssN sb b)))), (qe, .inl (ke, 16, .inl (nF b)))] := hD
        exact rt_0 hx hb hr hlk hQ hAe hP hD hS [1, 0, 2, 3] (by decide) rfl (Nat.le_of_ble_eq_true rfl) (Nat.le_of_ble_eq_true rfl) dX0_substAndShift_42
      · skip
        have hc_13 := (not_congr (ix_le (a := 16) (b := 16) (by omega) (by omega))).mp hc_13
        have hc_13 : ¬ (16 ≤ 16) := hc_13
        exfalso; omega
    | succ n ih =>
      intro k ls H locs hn_10  hl hP hD hS
      refine lv_iload_n hx hb dX0_substAndShift_10 rfl (lv_at hl 0 rfl) ?_
      refine lv_bipush (v := nI 16) hx hb dX0_substAndShift_11 (by decide) ?_
      refine lv_icmp_ge (tgt := 42) hx hb dX0_substAndShift_13 (by decide) (fun hc_13 => ?_) (fun hc_13 => ?_)
      · skip
        have hc_13 := (ix_le (a := 16) (b := k) (by omega) (by omega)).mp hc_13
        have hc_13 : (16 ≤ k) := hc_13
        exfalso; omega
      · skip
        have hc_13 := (not_congr (ix_le (a := 16) (b := k) (by omega) (by omega))).mp hc_13
        have hc_13 : ¬ (16 ≤ k) := hc_13
        refine lv_aload_n hx hb dX0_substAndShift_16 rfl (lv_at hl 1 rfl) ?_
        refine va_get (D := (dC, dI)) (ci := 0) (v := .ref qb) (C := RX0) (T := TX0) (N := 5) hx hb hta inX0 hown hK hP 1 rfl rfl 3 (by decide) (hta _ mw_53) (fun _ h9 => h9) rfl dX0_substAndShift_17 ?_
        refine lv_iload_n hx hb dX0_substAndShift_20 rfl (lv_at hl 0 rfl) ?_
        refine lv_aload_n hx hb dX0_substAndShift_21 rfl (lv_at hl 1 rfl) ?_
        refine va_get (D := (dC, dI)) (ci := 0) (v := .ref qs) (C := RX0) (T := TX0) (N := 5) hx hb hta inX0 hown hK hP 1 rfl rfl 0 (by decide) (hta _ mw_50) (fun _ h9 => h9) rfl dX0_substAndShift_22 ?_
        refine lv_aload_n hx hb dX0_substAndShift_25 rfl (lv_at hl 1 rfl) ?_
        refine va_get (D := (dC, dI)) (ci := 0) (v := .ref qe) (C := RX0) (T := TX0) (N := 5) hx hb hta inX0 hown hK hP 1 rfl rfl 4 (by decide) (hta _ mw_54) (fun _ h9 => h9) rfl dX0_substAndShift_26 ?_
        refine lv_iload_n hx hb dX0_substAndShift_29 rfl (lv_at hl 0 rfl) ?_
        refine cf_1 (wr := [(qs, .inl (ks, 256, .inl (nF sb))), (o, .inr (0, [.ref qs, .ref qu, .ref qw, .ref qb, .ref qe])), (qb, .inl (kb, 16, .inl (nF (ssp sb b k)))), (qe, .inl (ke, 16, .inl (nF b)))]) (va_runS (As := [.int (nI k)]) (rest := [.ref qe, .ref qs, .int (nI k), .ref qb]) ⟨hx, hb, hml, hown, hta⟩ (MO.to (c_sf l dC dI k (by omega)) H.size) (va_cwS 1 hta (aw_S mw_157 mw_155 mw_156 mw_2) rfl rfl rfl dyX0_shiftedFrom ⟨(Nat.le_of_ble_eq_true rfl), (Nat.le_of_ble_eq_true rfl)⟩) (pr_S hP hD hK hE [] [] (by decide) rfl rfl) rfl rfl hl.1 rfl (lv_room (Nat.le_of_ble_eq_true rfl)) dX0_substAndShift_30 ⟨(Nat.le_of_ble_eq_true rfl), (Nat.le_of_ble_eq_true rfl)⟩) hP hD hS hA [] [0, 1, 2, 3] rfl rfl (by decide) (by decide) (fun H locs hP hD hS => ?_)
        have hP : va_P (dC, dI) vwCl [(qs, .inl (ks, 256, .inl (nF sb))), (o, .inr (0, [.ref qs, .ref qu, .ref qw, .ref qb, .ref qe])), (qb, .inl (kb, 16, .inl (nF (ssp sb b k)))), (qe, .inl (ke, 16, .inl (nF b)))] H := hP
        have hD : va_D A [(qs, .inl (ks, 256, .inl (nF sb))), (o, .inr (0, [.ref qs, .ref qu, .ref qw, .ref qb, .ref qe])), (qb, .inl (kb, 16, .inl (nF (ssp sb b k)))), (qe, .inl (ke, 16, .inl (nF b)))] := hD
        refine W.widen (k := 0) (n := 0) (Nat.le_of_ble_eq_true rfl) (Nat.le_of_ble_eq_true rfl) ?_
        refine w_pc (pc2 := 33) rfl ?_
        refine va_ialb hx hb hK hP 3 2 rfl rfl (sf_lt _) (by decide) dX0_substAndShift_33 ?_
        refine va_ialb hx hb hK hP 0 0 rfl rfl (b256 _) (by decide) dX0_substAndShift_34 ?_
        refine va_iasb hx hb hK hP hD hS 2 1 rfl rfl (by omega) (by decide) dX0_substAndShift_35 (fun H locs hP hD hS => ?_)
        have hP : va_P (dC, dI) vwCl [(qs, .inl (ks, 256, .inl (nF sb))), (o, .inr (0, [.ref qs, .ref qu, .ref qw, .ref qb, .ref qe])), (qb, .inl (kb, 16, .inl (nF (un (ssp sb b k) k (sb (b (sf k))))))), (qe, .inl (ke, 16, .inl (nF b)))] H := hP
        have hD : va_D A [(qs, .inl (ks, 256, .inl (nF sb))), (o, .inr (0, [.ref qs, .ref qu, .ref qw, .ref qb, .ref qe])), (qb, .inl (kb, 16, .inl (nF (un (ssp sb b k) k (sb (b (sf k))))))), (qe, .inl (ke, 16, .inl (nF b)))] := hD
        refine lv_iinc (v := nI (k + 1)) (k := 0) hx hb dX0_substAndShift_36 hl rfl (ix_inc _ 1) (by decide) rfl (fun ls hl => ?_)
        have hl : lv_has ls 2 [(1, .int (nI (k + 1))), (0, .ref o)] := hl
        refine lv_goto (tgt := 10) hx hb dX0_substAndShift_39 (by decide) ?_
        obtain ⟨hP, hD⟩ := va_recb (g := ssp sb b (k + 1)) hP hD 2 rfl (fun i _ => ssp_s sb b k i)
        have hP : va_P (dC, dI) vwCl [(qs, .inl (ks, 256, .inl (nF sb))), (o, .inr (0, [.ref qs, .ref qu, .ref qw, .ref qb, .ref qe])), (qb, .inl (kb, 16, .inl (nF (ssp sb b (k + 1))))), (qe, .inl (ke, 16, .inl (nF b)))] H := hP
        have hD : va_D A [(qs, .inl (ks, 256, .inl (nF sb))), (o, .inr (0, [.ref qs, .ref qu, .ref qw, .ref qb, .ref qe])), (qb, .inl (kb, 16, .inl (nF (ssp sb b (k + 1))))), (qe, .inl (ke, 16, .inl (nF b)))] := hD
        exact ih (k + 1) ls H locs (by omega)  (lv_sub hl [0, 1] rfl) hP hD hS
  exact loop_10 16 0 ls H locs (by omega)  (lv_sub hl [0, 1] rfl) hP hD hS

def rm_c_unshift : Room := { frames := 2, cells := 0, slots := 0, locals := 81 }
set_option maxHeartbeats 4000000 in
set_option maxRecDepth 100000 in
/-- unshiftAndUnsubst() -/
theorem c_unshift (l : Launch) (dC : Nat → ClassId) (dI : Nat → Nat → Nat) (o : Nat) (qs : Nat) (qu : Nat) (qw : Nat) (qb : Nat) (qe : Nat) (ku : ClassId) (kb : ClassId) (ke : ClassId) (ub : Nat → Nat) (b : Nat → Nat) (z : Nat → Nat) (b256 : ∀ i, b i < 256) : MO l dC dI yX0_unshiftAndUnsubst wsX0_unshiftAndUnsubst rm_c_unshift [.ref o] [(o, .inr (0, [.ref qs, .ref qu, .ref qw, .ref qb, .ref qe])), (qu, .inl (ku, 256, .inl (nF ub))), (qb, .inl (kb, 16, .inl (nF b))), (qe, .inl (ke, 16, .inl (nF z)))] [(ku, .int), (kb, .int), (ke, .int)] [(o, .inr (0, [.ref qs, .ref qu, .ref qw, .ref qb, .ref qe])), (qu, .inl (ku, 256, .inl (nF ub))), (qb, .inl (kb, 16, .inl (nF (usN ub b)))), (qe, .inl (ke, 16, .inl (nF b)))] none := by
  refine mo_ofW (cc := cX0_unshiftAndUnsubst) (maxL := 2) (ret := none) (by decide) rfl (Nat.le_of_ble_eq_true rfl) ?_
  intro p e s m args below meth c Q A H locs ls hx hb hr hlk hml hta hown hin hE hQ hAe hA hK hP hD hS hl
  have hown : s.vm.findClass RX0 = some m.cls := hown
  have hl : lv_has ls 2 [(0, .ref o)] := hl
  refine lv_aload_n hx hb dX0_unshiftAndUnsubst_0 rfl (lv_at hl 0 rfl) ?_
  refine lv_aload_n hx hb dX0_unshiftAndUnsubst_1 rfl (lv_at hl 0 rfl) ?_
  refine va_get (D := (dC, dI)) (ci := 0) (v := .ref qe) (C := RX0) (T := TX0) (N := 5) hx hb hta inX0 hown hK hP 0 rfl rfl 4 (by decide) (hta _ mw_54) (fun _ h9 => h9) rfl dX0_unshiftAndUnsubst_2 ?_
  refine cf_0 (wr := [(qu, .inl (ku, 256, .inl (nF ub)))]) (va_runV (As := [.ref qe]) (rest := []) ⟨hx, hb, hml, hown, hta⟩ (MO.to (c_copyBlock l dC dI o qs qu qw qb qe kb b qe ke z) H.size) (cwV 1 hta (aw_V mw_151 mw_148 mw_149 mw_150 mw_2) rfl rfl rfl ⟨rfl, dyX0_copyBlock⟩ ⟨(Nat.le_of_ble_eq_true rfl), (Nat.le_of_ble_eq_true rfl)⟩) (pr_V hP hD hK hE [0, 2, 3] [1, 2] (by decide) rfl rfl rfl rfl) rfl rfl hl.1 rfl (lv_room (Nat.le_of_ble_eq_true rfl)) dX0_unshiftAndUnsubst_5 ⟨(Nat.le_of_ble_eq_true rfl), (Nat.le_of_ble_eq_true rfl)⟩) hP hD hS hA [0, 2, 3] [1] rfl rfl (by decide) (by decide) (fun H locs hP hD hS => ?_)
  have hP : va_P (dC, dI) vwCl [(qu, .inl (ku, 256, .inl (nF ub))), (o, .inr (0, [.ref qs, .ref qu, .ref qw, .ref qb, .ref qe])), (qb, .inl (kb, 16, .inl (nF b))), (qe, .inl (ke, 16, .inl (nF b)))] H := hP
  have hD : va_D A [(qu, .inl (ku, 256, .inl (nF ub))), (o, .inr (0, [.ref qs, .ref qu, .ref qw, .ref qb, .ref qe])), (qb, .inl (kb, 16, .inl (nF b))), (qe, .inl (ke, 16, .inl (nF b)))] := hD
  refine W.widen (k := 0) (n := 0) (Nat.le_of_ble_eq_true rfl) (Nat.le_of_ble_eq_true rfl) ?_
  refine w_pc (pc2 := 8) rfl ?_
  refine lv_iconst (v := nI 0) hx hb dX0_unshiftAndUnsubst_8 (by decide) ?_
  refine lv_istore_n hx hb dX0_unshiftAndUnsubst_9 rfl hl (by decide) rfl (fun ls hl => ?_)
  have hl : lv_has ls 2 [(1, .int (nI 0)), (0, .ref o)] := hl
  obtain ⟨hP, hD⟩ := va_recb (g := usp ub b 0) hP hD 2 rfl (fun i _ => usp_0 ub b i)
  have hP : va_P (dC, dI) vwCl [(qu, .inl (ku, 256, .inl (nF ub))), (o, .inr (0, [.ref qs, .ref qu, .ref qw, .ref qb, .ref qe])), (qb, .inl (kb, 16, .inl (nF (usp ub b 0)))), (qe, .inl (ke, 16, .inl (nF b)))] H := hP
  have hD : va_D A [(qu, .inl (ku, 256, .inl (nF ub))), (o, .inr (0, [.ref qs, .ref qu, .ref qw, .ref qb, .ref qe])), (qb, .inl (kb, 16, .inl (nF (usp ub b 0)))), (qe, .inl (ke, 16, .inl (nF b)))] := hD
  have loop_10 : ∀ (n k : Nat) (ls : Array Slot) (H : Heap) (locs : List Loc), k + n = 16 → lv_has ls 2 [(1, .int (nI k)), (0, .ref o)] → va_P (dC, dI) vwCl [(qu, .inl (ku, 256, .inl (nF ub))), (o, .inr (0, [.ref qs, .ref qu, .ref qw, .ref qb, .ref qe])), (qb, .inl (kb, 16, .inl (nF (usp ub b k)))), (qe, .inl (ke, 16, .inl (nF b)))] H → va_D A [(qu, .inl (ku, 256, .inl (nF ub))), (o, .inr (0, [.ref qs, .ref qu, .ref qw, .ref qb, .ref qe])), (qb, .inl (kb, 16, .inl (nF (usp ub b k)))), (qe, .inl (ke, 16, .inl (nF b)))] → va_S A s.heap H locs → W p l e rm_c_unshift s m args below meth c H locs 0 0 Q (F0 m 10 ls []) := by
    intro n
    induction n with
    | zero =>
      intro k ls H locs hn_10  hl hP hD hS
      obtain rfl : 16 = k := by omega
      refine lv_iload_n hx hb dX0_unshiftAndUnsubst_10 rfl (lv_at hl 0 rfl) ?_
      refine lv_bipush (v := nI 16) hx hb dX0_unshiftAndUnsubst_11 (by decide) ?_
      refine lv_icmp_ge (tgt := 42) hx hb dX0_unshiftAndUnsubst_13 (by decide) (fun hc_13 => ?_) (fun hc_13 => ?_)
      · skip
        have hc_13 := (ix_le (a := 16) (b := 16) (by omega) (by omega)).mp hc_13
        have hc_13 : (16 ≤ 16) := hc_13
        obtain ⟨hP, hD⟩ := va_recb (g := usN ub b) hP hD 2 rfl (fun i _ => usp_16 ub b i)
        have hP : va_P (dC, dI) vwCl [(qu, .inl (ku, 256, .inl (nF ub))), (o, .inr (0, [.ref qs, .ref qu, .ref qw, .ref qb, .ref qe])), (qb, .inl (kb, 16, .inl (nF (usN ub b)))), (qe, .inl (ke, 16, .inl (nF b)))] H := hP
        have hD : va_D A [(qu, .inl (ku, 256, .inl (nF ub))), (o, .inr (0, [.ref qs, .ref qu, .ref qw, .ref qb, .ref qe])), (qb, .inl (kb, 16, .inl (nF (usN ub b)))), (qe, .inl (ke, 16, .inl (nF b)))] := hD
        exact rt_0 hx hb hr hlk hQ hAe hP hD hS [1, 0, 2, 3] (by decide) rfl (Nat.le_of_ble_eq_true rfl) (Nat.le_of_ble_eq_true rfl) dX0_unshiftAndUnsubst_42
      · skip
        have hc_13 := (not_congr (ix_le (a := 16) (b := 16) (by omega) (by omega))).mp hc_13
        have hc_13 : ¬ (16 ≤ 16) := hc_13
        exfalso; omega
    | succ n ih =>
      intro k ls H locs hn_10  hl hP hD hS
      refine lv_iload_n hx hb dX0_unshiftAndUnsubst_10 rfl (lv_at hl 0 rfl) ?_
      refine lv_bipush (v := nI 16) hx hb dX0_unshiftAndUnsubst_11 (by decide) ?_
      refine lv_icmp_ge (tgt := 42) hx hb dX0_unshiftAndUnsubst_13 (by decide) (fun hc_13 => ?_) (fun hc_13 => ?_)
      · skip
        have hc_13 := (ix_le (a := 16) (b := k) (by omega) (by omega)).mp hc_13
        have hc_13 : (16 ≤ k) := hc_13
        exfalso; omega
      · skip
        have hc_13 := (not_congr (ix_le (a := 16) (b := k) (by omega) (by omega))).mp hc_13
        have hc_13 : ¬ (16 ≤ k) := hc_13
        refine lv_aload_n hx hb dX0_unshiftAndUnsubst_16 rfl (lv_at hl 1 rfl) ?_
        refine va_get (D := (dC, dI)) (ci := 0) (v := .ref qb) (C := RX0) (T := TX0) (N := 5) hx hb hta inX0 hown hK hP 1 rfl rfl 3 (by decide) (hta _ mw_53) (fun _ h9 => h9) rfl dX0_unshiftAndUnsubst_17 ?_
        refine lv_iload_n hx hb dX0_unshiftAndUnsubst_20 rfl (lv_at hl 0 rfl) ?_
        refine cf_1 (wr := [(qu, .inl (ku, 256, .inl (nF ub))), (o, .inr (0, [.ref qs, .ref qu, .ref qw, .ref qb, .ref qe])), (qb, .inl (kb, 16, .inl (nF (usp ub b k)))), (qe, .inl (ke, 16, .inl (nF b)))]) (va_runS (As := [.int (nI k)]) (rest := [.ref qb]) ⟨hx, hb, hml, hown, hta⟩ (MO.to (c_sf l dC dI k (by omega)) H.size) (va_cwS 1 hta (aw_S mw_157 mw_155 mw_156 mw_2) rfl rfl rfl dyX0_shiftedFrom ⟨(Nat.le_of_ble_eq_true rfl), (Nat.le_of_ble_eq_true rfl)⟩) (pr_S hP hD hK hE [] [] (by decide) rfl rfl) rfl rfl hl.1 rfl (lv_room (Nat.le_of_ble_eq_true rfl)) dX0_unshiftAndUnsubst_21 ⟨(Nat.le_of_ble_eq_true rfl), (Nat.le_of_ble_eq_true rfl)⟩) hP hD hS hA [] [0, 1, 2, 3] rfl rfl (by decide) (by decide) (fun H locs hP hD hS => ?_)
        have hP : va_P (dC, dI) vwCl [(qu, .inl (ku, 256, .inl (nF ub))), (o, .inr (0, [.ref qs, .ref qu, .ref qw, .ref qb, .ref qe])), (qb, .inl (kb, 16, .inl (nF (usp ub b k)))), (qe, .inl (ke, 16, .inl (nF b)))] H := hP
        have hD : va_D A [(qu, .inl (ku, 256, .inl (nF ub))), (o, .inr (0, [.ref qs, .ref qu, .ref qw, .ref qb, .ref qe])), (qb, .inl (kb, 16, .inl (nF (usp ub b k)))), (qe, .inl (ke, 16, .inl (nF b)))] := hD
        refine W.widen (k := 0) (n := 0) (Nat.le_of_ble_eq_true rfl) (Nat.le_of_ble_eq_true rfl) ?_
        refine w_pc (pc2 := 24) rfl ?_
        refine lv_aload_n hx hb dX0_unshiftAndUnsubst_24 rfl (lv_at hl 1 rfl) ?_
        refine va_get (D := (dC, dI)) (ci := 0) (v := .ref qu) (C := RX0) (T := TX0) (N := 5) hx hb hta inX0 hown hK hP 1 rfl rfl 1 (by decide) (hta _ mw_51) (fun _ h9 => h9) rfl dX0_unshiftAndUnsubst_25 ?_
        refine lv_aload_n hx hb dX0_unshiftAndUnsubst_28 rfl (lv_at hl 1 rfl) ?_
        refine va_get (D := (dC, dI)) (ci := 0) (v := .ref qe) (C := RX0) (T := TX0) (N := 5) hx hb hta inX0 hown hK hP 1 rfl rfl 4 (by decide) (hta _ mw_54) (fun _ h9 => h9) rfl dX0_unshiftAndUnsubst_29 ?_
        refine lv_iload_n hx hb dX0_unshiftAndUnsubst_32 rfl (lv_at hl 0 rfl) ?_
        refine va_ialb hx hb hK hP 3 2 rfl rfl (by omega) (by decide) dX0_unshiftAndUnsubst_33 ?_
        refine va_ialb hx hb hK hP 0 0 rfl rfl (b256 _) (by decide) dX0_unshiftAndUnsubst_34 ?_
        refine va_iasb hx hb hK hP hD hS 2 1 rfl rfl (sf_lt _) (by decide) dX0_unshiftAndUnsubst_35 (fun H locs hP hD hS => ?_)
        have hP : va_P (dC, dI) vwCl [(qu, .inl (ku, 256, .inl (nF ub))), (o, .inr (0, [.ref qs, .ref qu, .ref qw, .ref qb, .ref qe])), (qb, .inl (kb, 16, .inl (nF (un (usp ub b k) (sf k) (ub (b k)))))), (qe, .inl (ke, 16, .inl (nF b)))] H := hP
        have hD : va_D A [(qu, .inl (ku, 256, .inl (nF ub))), (o, .inr (0, [.ref qs, .ref qu, .ref qw, .ref qb, .ref qe])), (qb, .inl (kb, 16, .inl (nF (un (usp ub b k) (sf k) (ub (b k)))))), (qe, .inl (ke, 16, .inl (nF b)))] := hD
        refine lv_iinc (v := nI (k + 1)) (k := 0) hx hb dX0_unshiftAndUnsubst_36 hl rfl (ix_inc _ 1) (by decide) rfl (fun ls hl => ?_)
        have hl : lv_has ls 2 [(1, .int (nI (k + 1))), (0, .ref o)] := hl
        refine lv_goto (tgt := 10) hx hb dX0_unshiftAndUnsubst_39 (by decide) ?_
        obtain ⟨hP, hD⟩ := va_recb (g := usp ub b (k + 1)) hP hD 2 rfl (fun i hi9 => usp_s ub b k (by omega) i hi9)
        have hP : va_P (dC, dI) vwCl [(qu, .inl (ku, 256, .inl (nF ub))), (o, .inr (0, [.ref qs, .ref qu, .ref qw, .ref qb, .ref qe])), (qb, .inl (kb, 16, .inl (nF (usp ub b (k + 1))))), (qe, .inl (ke, 16, .inl (nF b)))] H := hP
        have hD : va_D A [(qu, .inl (ku, 256, .inl (nF ub))), (o, .inr (0, [.ref qs, .ref qu, .ref qw, .ref qb, .ref qe])), (qb, .inl (kb, 16, .inl (nF (usp ub b (k + 1))))), (qe, .inl (ke, 16, .inl (nF b)))] := hD
        exact ih (k + 1) ls H locs (by omega)  (lv_sub hl [0, 1] rfl) hP hD hS
  exact loop_10 16 0 ls H locs (by omega)  (lv_sub hl [0, 1] rfl) hP hD hS

def rm_c_mix : Room := { frames := 1, cells := 0, slots := 0, locals := 20 }
set_option maxHeartbeats 4000000 in
set_option maxRecDepth 100000 in
/-- mix() -/
theorem c_mix (l : Launch) (dC : Nat → ClassId) (dI : Nat → Nat → Nat) (o : Nat) (qs : Nat) (qu : Nat) (qw : Nat) (qb : Nat) (qe : Nat) (kb : ClassId) (b : Nat → Nat) (b256 : ∀ i, b i < 256) : MO l dC dI yX0_mix wsX0_mix rm_c_mix [.ref o] [(o, .inr (0, [.ref qs, .ref qu, .ref qw, .ref qb, .ref qe])), (qb, .inl (kb, 16, .inl (nF b)))] [(kb, .int)] [(o, .inr (0, [.ref qs, .ref qu, .ref qw, .ref qb, .ref qe])), (qb, .inl (kb, 16, .inl (nF (mixN b))))] none := by
  refine mo_ofW (cc := cX0_mix) (maxL := 7) (ret := none) (by decide) rfl (Nat.le_of_ble_eq_true rfl) ?_
  intro p e s m args below meth c Q A H locs ls hx hb hr hlk hml hta hown hin hE hQ hAe hA hK hP hD hS hl
  have hown : s.vm.findClass RX0 = some m.cls := hown
  have hl : lv_has ls 7 [(0, .ref o)] := hl
  refine lv_iconst (v := nI 0) hx hb dX0_mix_0 (by decide) ?_
  refine lv_istore_n hx hb dX0_mix_1 rfl hl (by decide) rfl (fun ls hl => ?_)
  have hl : lv_has ls 7 [(1, .int (nI 0)), (0, .ref o)] := hl
  obtain ⟨hP, hD⟩ := va_recb (g := mxp b 0) hP hD 1 rfl (fun i _ => mxp_0 b i)
  have hP : va_P (dC, dI) vwCl [(o, .inr (0, [.ref qs, .ref qu, .ref qw, .ref qb, .ref qe])), (qb, .inl (kb, 16, .inl (nF (mxp b 0))))] H := hP
  have hD : va_D A [(o, .inr (0, [.ref qs, .ref qu, .ref qw, .ref qb, .ref qe])), (qb, .inl (kb, 16, .inl (nF (mxp b 0))))] := hD
  have loop_2 : ∀ (n k : Nat) (ls : Array Slot) (H : Heap) (locs : List Loc), k + n = 4 → lv_has ls 7 [(1, .int (nI (4 * k))), (0, .ref o)] → va_P (dC, dI) vwCl [(o, .inr (0, [.ref qs, .ref qu, .ref qw, .ref qb, .ref qe])), (qb, .inl (kb, 16, .inl (nF (mxp b k))))] H → va_D A [(o, .inr (0, [.ref qs, .ref qu, .ref qw, .ref qb, .ref qe])), (qb, .inl (kb, 16, .inl (nF (mxp b k))))] → va_S A s.heap H locs → W p l e rm_c_mix s m args below meth c H locs 0 0 Q (F0 m 2 ls []) := by
    intro n
    induction n with
    | zero =>
      intro k ls H locs hn_2  hl hP hD hS
      obtain rfl : 4 = k := by omega
      refine lv_iload_n hx hb dX0_mix_2 rfl (lv_at hl 0 rfl) ?_
      refine lv_bipush (v := nI 16) hx hb dX0_mix_3 (by decide) ?_
      refine lv_icmp_ge (tgt := 141) hx hb dX0_mix_5 (by decide) (fun hc_5 => ?_) (fun hc_5 => ?_)
      · skip
        have hc_5 := (ix_le (a := 16) (b := 4 * 4) (by omega) (by omega)).mp hc_5
        have hc_5 : (16 ≤ (4 * 4)) := hc_5
        obtain ⟨hP, hD⟩ := va_recb (g := mixN b) hP hD 1 rfl (fun i hi9 => mxp_4 b i hi9)
        have hP : va_P (dC, dI) vwCl [(o, .inr (0, [.ref qs, .ref qu, .ref qw, .ref qb, .ref qe])), (qb, .inl (kb, 16, .inl (nF (mixN b))))] H := hP
        have hD : va_D A [(o, .inr (0, [.ref qs, .ref qu, .ref qw, .ref qb, .ref qe])), (qb, .inl (kb, 16, .inl (nF (mixN b))))] := hD
        exact rt_0 hx hb hr hlk hQ hAe hP hD hS [0, 1] (by decide) rfl (Nat.le_of_ble_eq_true rfl) (Nat.le_of_ble_eq_true rfl) dX0_mix_141
      · skip
        have hc_5 := (not_congr (ix_le (a := 16) (b := 4 * 4) (by omega) (by omega))).mp hc_5
        have hc_5 : ¬ (16 ≤ (4 * 4)) := hc_5
        exfalso; omega
    | succ n ih =>
      intro k ls H locs hn_2  hl hP hD hS
      refine lv_iload_n hx hb dX0_mix_2 rfl (lv_at hl 0 rfl) ?_
      refine lv_bipush (v := nI 16) hx hb dX0_mix_3 (by decide) ?_
      refine lv_icmp_ge (tgt := 141) hx hb dX0_mix_5 (by decide) (fun hc_5 => ?_) (fun hc_5 => ?_)
      · skip
        have hc_5 := (ix_le (a := 16) (b := 4 * k) (by omega) (by omega)).mp hc_5
        have hc_5 : (16 ≤ (4 * k)) := hc_5
        exfalso; omega
      · skip
        have hc_5 := (not_congr (ix_le (a := 16) (b := 4 * k) (by omega) (by omega))).mp hc_5
        have hc_5 : ¬ (16 ≤ (4 * k)) := hc_5
        refine lv_aload_n hx hb dX0_mix_8 rfl (lv_at hl 1 rfl) ?_
        refine va_get (D := (dC, dI)) (ci := 0) (v := .ref qb) (C := RX0) (T := TX0) (N := 5) hx hb hta inX0 hown hK hP 0 rfl rfl 3 (by decide) (hta _ mw_53) (fun _ h9 => h9) rfl dX0_mix_9 ?_
        refine lv_iload_n hx hb dX0_mix_12 rfl (lv_at hl 0 rfl) ?_
        refine va_ialb hx hb hK hP 1 0 rfl rfl (by omega) (by decide) dX0_mix_13 ?_
        refine top_i (y := nI (b (4 * k))) (congrArg nI (mxp_ge b k _ (by omega))) ?_
        refine lv_istore_n hx hb dX0_mix_14 rfl hl (by decide) rfl (fun ls hl => ?_)
        have hl : lv_has ls 7 [(2, .int (nI (b (4 * k)))), (1, .int (nI (4 * k))), (0, .ref o)] := hl
        refine lv_aload_n hx hb dX0_mix_15 rfl (lv_at hl 2 rfl) ?_
        refine va_get (D := (dC, dI)) (ci := 0) (v := .ref qb) (C := RX0) (T := TX0) (N := 5) hx hb hta inX0 hown hK hP 0 rfl rfl 3 (by decide) (hta _ mw_53) (fun _ h9 => h9) rfl dX0_mix_16 ?_
        refine lv_iload_n hx hb dX0_mix_19 rfl (lv_at hl 1 rfl) ?_
        refine lv_iconst (v := nI 1) hx hb dX0_mix_20 (by decide) ?_
        refine lv_iadd hx hb dX0_mix_21 (top_i (nI_add _ _) ?_)
        refine va_ialb hx hb hK hP 1 0 rfl rfl (by omega) (by decide) dX0_mix_22 ?_
        refine top_i (y := nI (b ((4 * k) + 1))) (congrArg nI (mxp_ge b k _ (by omega))) ?_
        refine w_pc (pc2 := 23) rfl ?_
        refine lv_istore_n hx hb dX0_mix_23 rfl hl (by decide) rfl (fun ls hl => ?_)
        have hl : lv_has ls 7 [(3, .int (nI (b ((4 * k) + 1)))), (2, .int (nI (b (4 * k)))), (1, .int (nI (4 * k))), (0, .ref o)] := hl
        refine lv_aload_n hx hb dX0_mix_24 rfl (lv_at hl 3 rfl) ?_
        refine va_get (D := (dC, dI)) (ci := 0) (v := .ref qb) (C := RX0) (T := TX0) (N := 5) hx hb hta inX0 hown hK hP 0 rfl rfl 3 (by decide) (hta _ mw_53) (fun _ h9 => h9) rfl dX0_mix_25 ?_
        refine lv_iload_n hx hb dX0_mix_28 rfl (lv_at hl 2 rfl) ?_
        refine lv_iconst (v := nI 2) hx hb dX0_mix_29 (by decide) ?_
        refine lv_iadd hx hb dX0_mix_30 (top_i (nI_add _ _) ?_)
        refine va_ialb hx hb hK hP 1 0 rfl rfl (by omega) (by decide) dX0_mix_31 ?_
        refine top_i (y := nI (b ((4 * k) + 2))) (congrArg nI (mxp_ge b k _ (by omega))) ?_
        refine lv_istore hx hb dX0_mix_32 hl (by decide) rfl (fun ls hl => ?_)
        have hl : lv_has ls 7 [(4, .int (nI (b ((4 * k) + 2)))), (3, .int (nI (b ((4 * k) + 1)))), (2, .int (nI (b (4 * k)))), (1, .int (nI (4 * k))), (0, .ref o)] := hl
        refine lv_aload_n hx hb dX0_mix_34 rfl (lv_at hl 4 rfl) ?_
        refine va_get (D := (dC, dI)) (ci := 0) (v := .ref qb) (C := RX0) (T := TX0) (N := 5) hx hb hta inX0 hown hK hP 0 rfl rfl 3 (by decide) (hta _ mw_53) (fun _ h9 => h9) rfl dX0_mix_35 ?_
        refine lv_iload_n hx hb dX0_mix_38 rfl (lv_at hl 3 rfl) ?_
        refine lv_iconst (v := nI 3) hx hb dX0_mix_39 (by decide) ?_
        refine w_pc (pc2 := 40) rfl ?_
        refine lv_iadd hx hb dX0_mix_40 (top_i (nI_add _ _) ?_)
        refine va_ialb hx hb hK hP 1 0 rfl rfl (by omega) (by decide) dX0_mix_41 ?_
        refine top_i (y := nI (b ((4 * k) + 3))) (congrArg nI (mxp_ge b k _ (by omega))) ?_
        refine lv_istore hx hb dX0_mix_42 hl (by decide) rfl (fun ls hl => ?_)
        have hl : lv_has ls 7 [(5, .int (nI (b ((4 * k) + 3)))), (4, .int (nI (b ((4 * k) + 2)))), (3, .int (nI (b ((4 * k) + 1)))), (2, .int (nI (b (4 * k)))), (1, .int (nI (4 * k))), (0, .ref o)] := hl
        refine lv_iload_n hx hb dX0_mix_44 rfl (lv_at hl 3 rfl) ?_
        refine lv_iload_n hx hb dX0_mix_45 rfl (lv_at hl 2 rfl) ?_
        refine lv_ixor hx hb dX0_mix_46 (top_i (n_xor _ _) ?_)
        refine lv_iload hx hb dX0_mix_47 (lv_at hl 1 rfl) ?_
        refine lv_ixor hx hb dX0_mix_49 (top_i (n_xor _ _) ?_)
        refine lv_iload hx hb dX0_mix_50 (lv_at hl 0 rfl) ?_
        refine lv_ixor hx hb dX0_mix_52 (top_i (n_xor _ _) ?_)
        refine lv_istore hx hb dX0_mix_53 hl (by decide) rfl (fun ls hl => ?_)
        have hl : lv_has ls 7 [(6, .int (nI ((((b (4 * k)) ^^^ (b ((4 * k) + 1))) ^^^ (b ((4 * k) + 2))) ^^^ (b ((4 * k) + 3))))), (5, .int (nI (b ((4 * k) + 3)))), (4, .int (nI (b ((4 * k) + 2)))), (3, .int (nI (b ((4 * k) + 1)))), (2, .int (nI (b (4 * k)))), (1, .int (nI (4 * k))), (0, .ref o)] := hl
        refine lv_aload_n hx hb dX0_mix_55 rfl (lv_at hl 6 rfl) ?_
        refine w_pc (pc2 := 56) rfl ?_
        refine va_get (D := (dC, dI)) (ci := 0) (v := .ref qb) (C := RX0) (T := TX0) (N := 5) hx hb hta inX0 hown hK hP 0 rfl rfl 3 (by decide) (hta _ mw_53) (fun _ h9 => h9) rfl dX0_mix_56 ?_
        refine lv_iload_n hx hb dX0_mix_59 rfl (lv_at hl 5 rfl) ?_
        refine lv_iload hx hb dX0_mix_60 (lv_at hl 0 rfl) ?_
        refine lv_iload_n hx hb dX0_mix_62 rfl (lv_at hl 4 rfl) ?_
        refine lv_ixor hx hb dX0_mix_63 (top_i (n_xor _ _) ?_)
        refine lv_iload_n hx hb dX0_mix_64 rfl (lv_at hl 4 rfl) ?_
        refine lv_iload_n hx hb dX0_mix_65 rfl (lv_at hl 3 rfl) ?_
        refine lv_ixor hx hb dX0_mix_66 (top_i (n_xor _ _) ?_)
        refine cf_1 (wr := [(o, .inr (0, [.ref qs, .ref qu, .ref qw, .ref qb, .ref qe])), (qb, .inl (kb, 16, .inl (nF (mxp b k))))]) (va_runS (As := [.int (nI ((b (4 * k)) ^^^ (b ((4 * k) + 1))))]) (rest := [.int (nI (((((b (4 * k)) ^^^ (b ((4 * k) + 1))) ^^^ (b ((4 * k) + 2))) ^^^ (b ((4 * k) + 3))) ^^^ (b (4 * k)))), .int (nI (4 * k)), .ref qb]) ⟨hx, hb, hml, hown, hta⟩ (MO.to (c_twice l dC dI ((b (4 * k)) ^^^ (b ((4 * k) + 1))) (xor_lt (b256 _) (b256 _))) H.size) (va_cwS 1 hta (aw_S mw_34 mw_32 mw_33 mw_2) rfl rfl rfl dyX0_twice ⟨(Nat.le_of_ble_eq_true rfl), (Nat.le_of_ble_eq_true rfl)⟩) (pr_S hP hD hK hE [] [] (by decide) rfl rfl) rfl rfl hl.1 rfl (lv_room (Nat.le_of_ble_eq_true rfl)) dX0_mix_67 ⟨(Nat.le_of_ble_eq_true rfl), (Nat.le_of_ble_eq_true rfl)⟩) hP hD hS hA [] [0, 1] rfl rfl (by decide) (by decide) (fun H locs hP hD hS => ?_)
        have hP : va_P (dC, dI) vwCl [(o, .inr (0, [.ref qs, .ref qu, .ref qw, .ref qb, .ref qe])), (qb, .inl (kb, 16, .inl (nF (mxp b k))))] H := hP
        have hD : va_D A [(o, .inr (0, [.ref qs, .ref qu, .ref qw, .ref qb, .ref qe])), (qb, .inl (kb, 16, .inl (nF (mxp b k))))] := hD
        refine W.widen (k := 0) (n := 0) (Nat.le_of_ble_eq_true rfl) (Nat.le_of_ble_eq_true rfl) ?_
        refine w_pc (pc2 := 70) rfl ?_
        refine lv_ixor hx hb dX0_mix_70 ?_
        refine top_i (y := nI (mx (b (4 * k)) (b ((4 * k) + 1)) (b ((4 * k) + 2)) (b ((4 * k) + 3)) (b (4 * k)) (b ((4 * k) + 1)))) (n_xor _ _) ?_
        refine va_iasb hx hb hK hP hD hS 1 0 rfl rfl (by omega) (by decide) dX0_mix_71 (fun H locs hP hD hS => ?_)
        have hP : va_P (dC, dI) vwCl [(o, .inr (0, [.ref qs, .ref qu, .ref qw, .ref qb, .ref qe])), (qb, .inl (kb, 16, .inl (nF (un (mxp b k) (4 * k) (mx (b (4 * k)) (b ((4 * k) + 1)) (b ((4 * k) + 2)) (b ((4 * k) + 3)) (b (4 * k)) (b ((4 * k) + 1)))))))] H := hP
        have hD : va_D A [(o, .inr (0, [.ref qs, .ref qu, .ref qw, .ref qb, .ref qe])), (qb, .inl (kb, 16, .inl (nF (un (mxp b k) (4 * k) (mx (b (4 * k)) (b ((4 * k) + 1)) (b ((4 * k) + 2)) (b ((4 * k) + 3)) (b (4 * k)) (b ((4 * k) + 1)))))))] := hD
        refine lv_aload_n hx hb dX0_mix_72 rfl (lv_at hl 6 rfl) ?_
        refine va_get (D := (dC, dI)) (ci := 0) (v := .ref qb) (C := RX0) (T := TX0) (N := 5) hx hb hta inX0 hown hK hP 0 rfl rfl 3 (by decide) (hta _ mw_53) (fun _ h9 => h9) rfl dX0_mix_73 ?_
        refine lv_iload_n hx hb dX0_mix_76 rfl (lv_at hl 5 rfl) ?_
        refine lv_iconst (v := nI 1) hx hb dX0_mix_77 (by decide) ?_
        refine lv_iadd hx hb dX0_mix_78 (top_i (nI_add _ _) ?_)
        refine lv_iload hx hb dX0_mix_79 (lv_at hl 0 rfl) ?_
        refine lv_iload_n hx hb dX0_mix_81 rfl (lv_at hl 3 rfl) ?_
        refine lv_ixor hx hb dX0_mix_82 (top_i (n_xor _ _) ?_)
        refine lv_iload_n hx hb dX0_mix_83 rfl (lv_at hl 3 rfl) ?_
        refine lv_iload hx hb dX0_mix_84 (lv_at hl 2 rfl) ?_
        refine w_pc (pc2 := 86) rfl ?_
        refine lv_ixor hx hb dX0_mix_86 (top_i (n_xor _ _) ?_)
        refine cf_1 (wr := [(o, .inr (0, [.ref qs, .ref qu, .ref qw, .ref qb, .ref qe])), (qb, .inl (kb, 16, .inl (nF (un (mxp b k) (4 * k) (mx (b (4 * k)) (b ((4 * k) + 1)) (b ((4 * k) + 2)) (b ((4 * k) + 3)) (b (4 * k)) (b ((4 * k) + 1)))))))]) (va_runS (As := [.int (nI ((b ((4 * k) + 1)) ^^^ (b ((4 * k) + 2))))]) (rest := [.int (nI (((((b (4 * k)) ^^^ (b ((4 * k) + 1))) ^^^ (b ((4 * k) + 2))) ^^^ (b ((4 * k) + 3))) ^^^ (b ((4 * k) + 1)))), .int (nI ((4 * k) + 1)), .ref qb]) ⟨hx, hb, hml, hown, hta⟩ (MO.to (c_twice l dC dI ((b ((4 * k) + 1)) ^^^ (b ((4 * k) + 2))) (xor_lt (b256 _) (b256 _))) H.size) (va_cwS 1 hta (aw_S mw_34 mw_32 mw_33 mw_2) rfl rfl rfl dyX0_twice ⟨(Nat.le_of_ble_eq_true rfl), (Nat.le_of_ble_eq_true rfl)⟩) (pr_S hP hD hK hE [] [] (by decide) rfl rfl) rfl rfl hl.1 rfl (lv_room (Nat.le_of_ble_eq_true rfl)) dX0_mix_87 ⟨(Nat.le_of_ble_eq_true rfl), (Nat.le_of_ble_eq_true rfl)⟩) hP hD hS hA [] [0, 1] rfl rfl (by decide) (by decide) (fun H locs hP hD hS => ?_)
        have hP : va_P (dC, dI) vwCl [(o, .inr (0, [.ref qs, .ref qu, .ref qw, .ref qb, .ref qe])), (qb, .inl (kb, 16, .inl (nF (un (mxp b k) (4 * k) (mx (b (4 * k)) (b ((4 * k) + 1)) (b ((4 * k) + 2)) (b ((4 * k) + 3)) (b (4 * k)) (b ((4 * k) + 1)))))))] H := hP
        have hD : va_D A [(o, .inr (0, [.ref qs, .ref qu, .ref qw, .ref qb, .ref qe])), (qb, .inl (kb, 16, .inl (nF (un (mxp b k) (4 * k) (mx (b (4 * k)) (b ((4 * k) + 1)) (b ((4 * k) + 2)) (b ((4 * k) + 3)) (b (4 * k)) (b ((4 * k) + 1)))))))] := hD
        refine W.widen (k := 0) (n := 0) (Nat.le_of_ble_eq_true rfl) (Nat.le_of_ble_eq_true rfl) ?_
        refine w_pc (pc2 := 90) rfl ?_
        refine lv_ixor hx hb dX0_mix_90 ?_
        refine top_i (y := nI (mx (b (4 * k)) (b ((4 * k) + 1)) (b ((4 * k) + 2)) (b ((4 * k) + 3)) (b ((4 * k) + 1)) (b ((4 * k) + 2)))) (n_xor _ _) ?_
        refine va_iasb hx hb hK hP hD hS 1 0 rfl rfl (by omega) (by decide) dX0_mix_91 (fun H locs hP hD hS => ?_)
        have hP : va_P (dC, dI) vwCl [(o, .inr (0, [.ref qs, .ref qu, .ref qw, .ref qb, .ref qe])), (qb, .inl (kb, 16, .inl (nF (un (un (mxp b k) (4 * k) (mx (b (4 * k)) (b ((4 * k) + 1)) (b ((4 * k) + 2)) (b ((4 * k) + 3)) (b (4 * k)) (b ((4 * k) + 1)))) ((4 * k) + 1) (mx (b (4 * k)) (b ((4 * k) + 1)) (b ((4 * k) + 2)) (b ((4 * k) + 3)) (b ((4 * k) + 1)) (b ((4 * k) + 2)))))))] H := hP
        have hD : va_D A [(o, .inr (0, [.ref qs, .ref qu, .ref qw, .ref qb, .ref qe])), (qb, .inl (kb, 16, .inl (nF (un (un (mxp b k) (4 * k) (mx (b (4 * k)) (b ((4 * k) + 1)) (b ((4 * k) + 2)) (b ((4 * k) + 3)) (b (4 * k)) (b ((4 * k) + 1)))) ((4 * k) + 1) (mx (b (4 * k)) (b ((4 * k) + 1)) (b ((4 * k) + 2)) (b ((4 * k) + 3)) (b ((4 * k) + 1)) (b ((4 * k) + 2)))))))] := hD
        refine lv_aload_n hx hb dX0_mix_92 rfl (lv_at hl 6 rfl) ?_
        refine va_get (D := (dC, dI)) (ci := 0) (v := .ref qb) (C := RX0) (T := TX0) (N := 5) hx hb hta inX0 hown hK hP 0 rfl rfl 3 (by decide) (hta _ mw_53) (fun _ h9 => h9) rfl dX0_mix_93 ?_
        refine lv_iload_n hx hb dX0_mix_96 rfl (lv_at hl 5 rfl) ?_
        refine lv_iconst (v := nI 2) hx hb dX0_mix_97 (by decide) ?_
        refine lv_iadd hx hb dX0_mix_98 (top_i (nI_add _ _) ?_)
        refine lv_iload hx hb dX0_mix_99 (lv_at hl 0 rfl) ?_
        refine lv_iload hx hb dX0_mix_101 (lv_at hl 2 rfl) ?_
        refine lv_ixor hx hb dX0_mix_103 (top_i (n_xor _ _) ?_)
        refine lv_iload hx hb dX0_mix_104 (lv_at hl 2 rfl) ?_
        refine lv_iload hx hb dX0_mix_106 (lv_at hl 1 rfl) ?_
        refine w_pc (pc2 := 108) rfl ?_
        refine lv_ixor hx hb dX0_mix_108 (top_i (n_xor _ _) ?_)
        refine cf_1 (wr := [(o, .inr (0, [.ref qs, .ref qu, .ref qw, .ref qb, .ref qe])), (qb, .inl (kb, 16, .inl (nF (un (un (mxp b k) (4 * k) (mx (b (4 * k)) (b ((4 * k) + 1)) (b ((4 * k) + 2)) (b ((4 * k) + 3)) (b (4 * k)) (b ((4 * k) + 1)))) ((4 * k) + 1) (mx (b (4 * k)) (b ((4 * k) + 1)) (b ((4 * k) + 2)) (b ((4 * k) + 3)) (b ((4 * k) + 1)) (b ((4 * k) + 2)))))))]) (va_runS (As := [.int (nI ((b ((4 * k) + 2)) ^^^ (b ((4 * k) + 3))))]) (rest := [.int (nI (((((b (4 * k)) ^^^ (b ((4 * k) + 1))) ^^^ (b ((4 * k) + 2))) ^^^ (b ((4 * k) + 3))) ^^^ (b ((4 * k) + 2)))), .int (nI ((4 * k) + 2)), .ref qb]) ⟨hx, hb, hml, hown, hta⟩ (MO.to (c_twice l dC dI ((b ((4 * k) + 2)) ^^^ (b ((4 * k) + 3))) (xor_lt (b256 _) (b256 _))) H.size) (va_cwS 1 hta (aw_S mw_34 mw_32 mw_33 mw_2) rfl rfl rfl dyX0_twice ⟨(Nat.le_of_ble_eq_true rfl), (Nat.le_of_ble_eq_true rfl)⟩) (pr_S hP hD hK hE [] [] (by decide) rfl rfl) rfl rfl hl.1 rfl (lv_room (Nat.le_of_ble_eq_true rfl)) dX0_mix_109 ⟨(Nat.le_of_ble_eq_true rfl), (Nat.le_of_ble_eq_true rfl)⟩) hP hD hS hA [] [0, 1] rfl rfl (by decide) (by decide) (fun H locs hP hD hS => ?_)
        have hP : va_P (dC, dI) vwCl [(o, .inr (0, [.ref qs, .ref qu, .ref qw, .ref qb, .ref qe])), (qb, .inl (kb, 16, .inl (nF (un (un (mxp b k) (4 * k) (mx (b (4 * k)) (b ((4 * k) + 1)) (b ((4 * k) + 2)) (b ((4 * k) + 3)) (b (4 * k)) (b ((4 * k) + 1)))) ((4 * k) + 1) (mx (b (4 * k)) (b ((4 * k) + 1)) (b ((4 * k) + 2)) (b ((4 * k) + 3)) (b ((4 * k) + 1)) (b ((4 * k) + 2)))))))] H := hP
        have hD : va_D A [(o, .inr (0, [.ref qs, .ref qu, .ref qw, .ref qb, .ref qe])), (qb, .inl (kb, 16, .inl (nF (un (un (mxp b k) (4 * k) (mx (b (4 * k)) (b ((4 * k) + 1)) (b ((4 * k) + 2)) (b ((4 * k) + 3)) (b (4 * k)) (b ((4 * k) + 1)))) ((4 * k) + 1) (mx (b (4 * k)) (b ((4 * k) + 1)) (b ((4 * k) + 2)) (b ((4 * k) + 3)) (b ((4 * k) + 1)) (b ((4 * k) + 2)))))))] := hD
        refine W.widen (k := 0) (n := 0) (Nat.le_of_ble_eq_true rfl) (Nat.le_of_ble_eq_true rfl) ?_
        refine w_pc (pc2 := 112) rfl ?_
        refine lv_ixor hx hb dX0_mix_112 ?_
        refine top_i (y := nI (mx (b (4 * k)) (b ((4 * k) + 1)) (b ((4 * k) + 2)) (b ((4 * k) + 3)) (b ((4 * k) + 2)) (b ((4 * k) + 3)))) (n_xor _ _) ?_
        refine va_iasb hx hb hK hP hD hS 1 0 rfl rfl (by omega) (by decide) dX0_mix_113 (fun H locs hP hD hS => ?_)
        have hP : va_P (dC, dI) vwCl [(o, .inr (0, [.ref qs, .ref qu, .ref qw, .ref qb, .ref qe])), (qb, .inl (kb, 16, .inl (nF (un (un (un (mxp b k) (4 * k) (mx (b (4 * k)) (b ((4 * k) + 1)) (b ((4 * k) + 2)) (b ((4 * k) + 3)) (b (4 * k)) (b ((4 * k) + 1)))) ((4 * k) + 1) (mx (b (4 * k)) (b ((4 * k) + 1)) (b ((4 * k) + 2)) (b ((4 * k) + 3)) (b ((4 * k) + 1)) (b ((4 * k) + 2)))) ((4 * k) + 2) (mx (b (4 * k)) (b ((4 * k) + 1)) (b ((4 * k) + 2)) (b ((4 * k) + 3)) (b ((4 * k) + 2)) (b ((4 * k) + 3)))))))] H := hP
        have hD : va_D A [(o, .inr (0, [.ref qs, .ref qu, .ref qw, .ref qb, .ref qe])), (qb, .inl (kb, 16, .inl (nF (un (un (un (mxp b k) (4 * k) (mx (b (4 * k)) (b ((4 * k) + 1)) (b ((4 * k) + 2)) (b ((4 * k) + 3)) (b (4 * k)) (b ((4 * k) + 1)))) ((4 * k) + 1) (mx (b (4 * k)) (b ((4 * k) + 1)) (b ((4 * k) + 2)) (b ((4 * k) + 3)) (b ((4 * k) + 1)) (b ((4 * k) + 2)))) ((4 * k) + 2) (mx (b (4 * k)) (b ((4 * k) + 1)) (b ((4 * k) + 2)) (b ((4 * k) + 3)) (b ((4 * k) + 2)) (b ((4 * k) + 3)))))))] := hD
        refine lv_aload_n hx hb dX0_mix_114 rfl (lv_at hl 6 rfl) ?_
        refine va_get (D := (dC, dI)) (ci := 0) (v := .ref qb) (C := RX0) (T := TX0) (N := 5) hx hb hta inX0 hown hK hP 0 rfl rfl 3 (by decide) (hta _ mw_53) (fun _ h9 => h9) rfl dX0_mix_115 ?_
        refine lv_iload_n hx hb dX0_mix_118 rfl (lv_at hl 5 rfl) ?_
        refine lv_iconst (v := nI 3) hx hb dX0_mix_119 (by decide) ?_
        refine lv_iadd hx hb dX0_mix_120 (top_i (nI_add _ _) ?_)
        refine lv_iload hx hb dX0_mix_121 (lv_at hl 0 rfl) ?_
        refine lv_iload hx hb dX0_mix_123 (lv_at hl 1 rfl) ?_
        refine lv_ixor hx hb dX0_mix_125 (top_i (n_xor _ _) ?_)
        refine lv_iload hx hb dX0_mix_126 (lv_at hl 1 rfl) ?_
        refine lv_iload_n hx hb dX0_mix_128 rfl (lv_at hl 4 rfl) ?_
        refine w_pc (pc2 := 129) rfl ?_
        refine lv_ixor hx hb dX0_mix_129 (top_i (n_xor _ _) ?_)
        refine cf_1 (wr := [(o, .inr (0, [.ref qs, .ref qu, .ref qw, .ref qb, .ref qe])), (qb, .inl (kb, 16, .inl (nF (un (un (un (mxp b k) (4 * k) (mx (b (4 * k)) (b ((4 * k) + 1)) (b ((4 * k) + 2)) (b ((4 * k) + 3)) (b (4 * k)) (b ((4 * k) + 1)))) ((4 * k) + 1) (mx (b (4 * k)) (b ((4 * k) + 1)) (b ((4 * k) + 2)) (b ((4 * k) + 3)) (b ((4 * k) + 1)) (b ((4 * k) + 2)))) ((4 * k) + 2) (mx (b (4 * k)) (b ((4 * k) + 1)) (b ((4 * k) + 2)) (b ((4 * k) + 3)) (b ((4 * k) + 2)) (b ((4 * k) + 3)))))))]) (va_runS (As := [.int (nI ((b ((4 * k) + 3)) ^^^ (b (4 * k))))]) (rest := [.int (nI (((((b (4 * k)) ^^^ (b ((4 * k) + 1))) ^^^ (b ((4 * k) + 2))) ^^^ (b ((4 * k) + 3))) ^^^ (b ((4 * k) + 3)))), .int (nI ((4 * k) + 3)), .ref qb]) ⟨hx, hb, hml, hown, hta⟩ (MO.to (c_twice l dC dI ((b ((4 * k) + 3)) ^^^ (b (4 * k))) (xor_lt (b256 _) (b256 _))) H.size) (va_cwS 1 hta (aw_S mw_34 mw_32 mw_33 mw_2) rfl rfl rfl dyX0_twice ⟨(Nat.le_of_ble_eq_true rfl), (Nat.le_of_ble_eq_true rfl)⟩) (pr_S hP hD hK hE [] [] (by decide) rfl rfl) rfl rfl hl.1 rfl (lv_room (Nat.le_of_ble_eq_true rfl)) dX0_mix_130 ⟨(Nat.le_of_ble_eq_true rfl), (Nat.le_of_ble_eq_true rfl)⟩) hP hD hS hA [] [0, 1] rfl rfl (by decide) (by decide) (fun H locs hP hD hS => ?_)
        have hP : va_P (dC, dI) vwCl [(o, .inr (0, [.ref qs, .ref qu, .ref qw, .ref qb, .ref qe])), (qb, .inl (kb, 16, .inl (nF (un (un (un (mxp b k) (4 * k) (mx (b (4 * k)) (b ((4 * k) + 1)) (b ((4 * k) + 2)) (b ((4 * k) + 3)) (b (4 * k)) (b ((4 * k) + 1)))) ((4 * k) + 1) (mx (b (4 * k)) (b ((4 * k) + 1)) (b ((4 * k) + 2)) (b ((4 * k) + 3)) (b ((4 * k) + 1)) (b ((4 * k) + 2)))) ((4 * k) + 2) (mx (b (4 * k)) (b ((4 * k) + 1)) (b ((4 * k) + 2)) (b ((4 * k) + 3)) (b ((4 * k) + 2)) (b ((4 * k) + 3)))))))] H := hP
        have hD : va_D A [(o, .inr (0, [.ref qs, .ref qu, .ref qw, .ref qb, .ref qe])), (qb, .inl (kb, 16, .inl (nF (un (un (un (mxp b k) (4 * k) (mx (b (4 * k)) (b ((4 * k) + 1)) (b ((4 * k) + 2)) (b ((4 * k) + 3)) (b (4 * k)) (b ((4 * k) + 1)))) ((4 * k) + 1) (mx (b (4 * k)) (b ((4 * k) + 1)) (b ((4 * k) + 2)) (b ((4 * k) + 3)) (b ((4 * k) + 1)) (b ((4 * k) + 2)))) ((4 * k) + 2) (mx (b (4 * k)) (b ((4 * k) + 1)) (b ((4 * k) + 2)) (b ((4 * k) + 3)) (b ((4 * k) + 2)) (b ((4 * k) + 3)))))))] := hD
        refine W.widen (k := 0) (n := 0) (Nat.le_of_ble_eq_true rfl) (Nat.le_of_ble_eq_true rfl) ?_
        refine w_pc (pc2 := 133) rfl ?_
        refine lv_ixor hx hb dX0_mix_133 ?_
        refine top_i (y := nI (mx (b (4 * k)) (b ((4 * k) + 1)) (b ((4 * k) + 2)) (b ((4 * k) + 3)) (b ((4 * k) + 3)) (b (4 * k)))) (n_xor _ _) ?_
        refine va_iasb hx hb hK hP hD hS 1 0 rfl rfl (by omega) (by decide) dX0_mix_134 (fun H locs hP hD hS => ?_)
        have hP : va_P (dC, dI) vwCl [(o, .inr (0, [.ref qs, .ref qu, .ref qw, .ref qb, .ref qe])), (qb, .inl (kb, 16, .inl (nF (un (un (un (un (mxp b k) (4 * k) (mx (b (4 * k)) (b ((4 * k) + 1)) (b ((4 * k) + 2)) (b ((4 * k) + 3)) (b (4 * k)) (b ((4 * k) + 1)))) ((4 * k) + 1) (mx (b (4 * k)) (b ((4 * k) + 1)) (b ((4 * k) + 2)) (b ((4 * k) + 3)) (b ((4 * k) + 1)) (b ((4 * k) + 2)))) ((4 * k) + 2) (mx (b (4 * k)) (b ((4 * k) + 1)) (b ((4 * k) + 2)) (b ((4 * k) + 3)) (b ((4 * k) + 2)) (b ((4 * k) + 3)))) ((4 * k) + 3) (mx (b (4 * k)) (b ((4 * k) + 1)) (b ((4 * k) + 2)) (b ((4 * k) + 3)) (b ((4 * k) + 3)) (b (4 * k)))))))] H := hP
        have hD : va_D A [(o, .inr (0, [.ref qs, .ref qu, .ref qw, .ref qb, .ref qe])), (qb, .inl (kb, 16, .inl (nF (un (un (un (un (mxp b k) (4 * k) (mx (b (4 * k)) (b ((4 * k) + 1)) (b ((4 * k) + 2)) (b ((4 * k) + 3)) (b (4 * k)) (b ((4 * k) + 1)))) ((4 * k) + 1) (mx (b (4 * k)) (b ((4 * k) + 1)) (b ((4 * k) + 2)) (b ((4 * k) + 3)) (b ((4 * k) + 1)) (b ((4 * k) + 2)))) ((4 * k) + 2) (mx (b (4 * k)) (b ((4 * k) + 1)) (b ((4 * k) + 2)) (b ((4 * k) + 3)) (b ((4 * k) + 2)) (b ((4 * k) + 3)))) ((4 * k) + 3) (mx (b (4 * k)) (b ((4 * k) + 1)) (b ((4 * k) + 2)) (b ((4 * k) + 3)) (b ((4 * k) + 3)) (b (4 * k)))))))] := hD
        refine lv_iinc (v := nI (4 * (k + 1))) (k := 5) hx hb dX0_mix_135 hl rfl ((ix_inc _ 4).trans (congrArg nI (by omega))) (by decide) rfl (fun ls hl => ?_)
        have hl : lv_has ls 7 [(1, .int (nI (4 * (k + 1)))), (6, .int (nI ((((b (4 * k)) ^^^ (b ((4 * k) + 1))) ^^^ (b ((4 * k) + 2))) ^^^ (b ((4 * k) + 3))))), (5, .int (nI (b ((4 * k) + 3)))), (4, .int (nI (b ((4 * k) + 2)))), (3, .int (nI (b ((4 * k) + 1)))), (2, .int (nI (b (4 * k)))), (0, .ref o)] := hl
        refine lv_goto (tgt := 2) hx hb dX0_mix_138 (by decide) ?_
        obtain ⟨hP, hD⟩ := va_recb (g := mxp b (k + 1)) hP hD 1 rfl (fun i _ => mxp_s b k i)
        have hP : va_P (dC, dI) vwCl [(o, .inr (0, [.ref qs, .ref qu, .ref qw, .ref qb, .ref qe])), (qb, .inl (kb, 16, .inl (nF (mxp b (k + 1)))))] H := hP
        have hD : va_D A [(o, .inr (0, [.ref qs, .ref qu, .ref qw, .ref qb, .ref qe])), (qb, .inl (kb, 16, .inl (nF (mxp b (k + 1)))))] := hD
        exact ih (k + 1) ls H locs (by omega)  (lv_sub hl [0, 6] rfl) hP hD hS
  exact loop_2 4 0 ls H locs (by omega)  (lv_sub hl [0, 1] rfl) hP hD hS

def rm_c_unmix : Room := { frames := 2, cells := 0, slots := 0, locals := 46 }
set_option maxHeartbeats 4000000 in
set_option maxRecDepth 100000 in
/-- unmix() -/
theorem c_unmix (l : Launch) (dC : Nat → ClassId) (dI : Nat → Nat → Nat) (o : Nat) (qs : Nat) (qu : Nat) (qw : Nat) (qb : Nat) (qe : Nat) (kb : ClassId) (b : Nat → Nat) (b256 : ∀ i, b i < 256) : MO l dC dI yX0_unmix wsX0_unmix rm_c_unmix [.ref o] [(o, .inr (0, [.ref qs, .ref qu, .ref qw, .ref qb, .ref qe])), (qb, .inl (kb, 16, .inl (nF b)))] [(kb, .int)] [(o, .inr (0, [.ref qs, .ref qu, .ref qw, .ref qb, .ref qe])), (qb, .inl (kb, 16, .inl (nF (mixN (mixN (mixN b))))))] none := by
  refine mo_ofW (cc := cX0_unmix) (maxL := 1) (ret := none) (by decide) rfl (Nat.le_of_ble_eq_true rfl) ?_
  intro p e s m args below meth c Q A H locs ls hx hb hr hlk hml hta hown hin hE hQ hAe hA hK hP hD hS hl
  have hown : s.vm.findClass RX0 = some m.cls := hown
  have hl : lv_has ls 1 [(0, .ref o)] := hl
  refine lv_aload_n hx hb dX0_unmix_0 rfl (lv_at hl 0 rfl) ?_
  refine cf_0 (wr := []) (va_runV (As := []) (rest := []) ⟨hx, hb, hml, hown, hta⟩ (MO.to (c_mix l dC dI o qs qu qw qb qe kb b b256) H.size) (cwV 0 hta (aw_V mw_161 mw_158 mw_160 mw_s6 mw_2) rfl rfl rfl ⟨rfl, dyX0_mix⟩ ⟨(Nat.le_of_ble_eq_true rfl), (Nat.le_of_ble_eq_true rfl)⟩) (pr_V hP hD hK hE [0, 1] [0] (by decide) rfl rfl rfl rfl) rfl rfl hl.1 rfl (lv_room (Nat.le_of_ble_eq_true rfl)) dX0_unmix_1 ⟨(Nat.le_of_ble_eq_true rfl), (Nat.le_of_ble_eq_true rfl)⟩) hP hD hS hA [0, 1] [] rfl rfl (by decide) (by decide) (fun H locs hP hD hS => ?_)
  have hP : va_P (dC, dI) vwCl [(o, .inr (0, [.ref qs, .ref qu, .ref qw, .ref qb, .ref qe])), (qb, .inl (kb, 16, .inl (nF (mixN b))))] H := hP
  have hD : va_D A [(o, .inr (0, [.ref qs, .ref qu, .ref qw, .ref qb, .ref qe])), (qb, .inl (kb, 16, .inl (nF (mixN b))))] := hD
  refine W.widen (k := 0) (n := 0) (Nat.le_of_ble_eq_true rfl) (Nat.le_of_ble_eq_true rfl) ?_
  refine w_pc (pc2 := 4) rfl ?_
  refine lv_aload_n hx hb dX0_unmix_4 rfl (lv_at hl 0 rfl) ?_
  refine cf_0 (wr := []) (va_runV (As := []) (rest := []) ⟨hx, hb, hml, hown, hta⟩ (MO.to (c_mix l dC dI o qs qu qw qb qe kb (mixN b) (mixN_lt b256)) H.size) (cwV 0 hta (aw_V mw_161 mw_158 mw_160 mw_s6 mw_2) rfl rfl rfl ⟨rfl, dyX0_mix⟩ ⟨(Nat.le_of_ble_eq_true rfl), (Nat.le_of_ble_eq_true rfl)⟩) (pr_V hP hD hK hE [0, 1] [0] (by decide) rfl rfl rfl rfl) rfl rfl hl.1 rfl (lv_room (Nat.le_of_ble_eq_true rfl)) dX0_unmix_5 ⟨(Nat.le_of_ble_eq_true rfl), (Nat.le_of_ble_eq_true rfl)⟩) hP hD hS hA [0, 1] [] rfl rfl (by decide) (by decide) (fun H locs hP hD hS => ?_)
  have hP : va_P (dC, dI) vwCl [(o, .inr (0, [.ref qs, .ref qu, .ref qw, .ref qb, .ref qe])), (qb, .inl (kb, 16, .inl (nF (mixN (mixN b)))))] H := hP
  have hD : va_D A [(o, .inr (0, [.ref qs, .ref qu, .ref qw, .ref qb, .ref qe])), (qb, .inl (kb, 16, .inl (nF (mixN (mixN b)))))] := hD
  refine W.widen (k := 0) (n := 0) (Nat.le_of_ble_eq_true rfl) (Nat.le_of_ble_eq_true rfl) ?_
  refine w_pc (pc2 := 8) rfl ?_
  refine lv_aload_n hx hb dX0_unmix_8 rfl (lv_at hl 0 rfl) ?_
  refine cf_0 (wr := []) (va_runV (As := []) (rest := []) ⟨hx, hb, hml, hown, hta⟩ (MO.to (c_mix l dC dI o qs qu qw qb qe kb (mixN (mixN b)) (mixN_lt (mixN_lt b256))) H.size) (cwV 0 hta (aw_V mw_161 mw_158 mw_160 mw_s6 mw_2) rfl rfl rfl ⟨rfl, dyX0_mix⟩ ⟨(Nat.le_of_ble_eq_true rfl), (Nat.le_of_ble_eq_true rfl)⟩) (pr_V hP hD hK hE [0, 1] [0] (by decide) rfl rfl rfl rfl) rfl rfl hl.1 rfl (lv_room (Nat.le_of_ble_eq_true rfl)) dX0_unmix_9 ⟨(Nat.le_of_ble_eq_true rfl), (Nat.le_of_ble_eq_true rfl)⟩) hP hD hS hA [0, 1] [] rfl rfl (by decide) (by decide) (fun H locs hP hD hS => ?_)
  have hP : va_P (dC, dI) vwCl [(o, .inr (0, [.ref qs, .ref qu, .ref qw, .ref qb, .ref qe])), (qb, .inl (kb, 16, .inl (nF (mixN (mixN (mixN b))))))] H := hP
  have hD : va_D A [(o, .inr (0, [.ref qs, .ref qu, .ref qw, .ref qb, .ref qe])), (qb, .inl (kb, 16, .inl (nF (mixN (mixN (mixN b))))))] := hD
  refine W.widen (k := 0) (n := 0) (Nat.le_of_ble_eq_true rfl) (Nat.le_of_ble_eq_true rfl) ?_
  refine w_pc (pc2 := 12) rfl ?_
  exact rt_0 hx hb hr hlk hQ hAe hP hD hS [0, 1] (by decide) rfl (Nat.le_of_ble_eq_true rfl) (Nat.le_of_ble_eq_true rfl) dX0_unmix_12

def rm_c_encipher : Room := { frames := 3, cells := 0, slots := 0, locals := 102 }
set_option maxHeartbeats 4000000 in
set_option maxRecDepth 100000 in
/-- encipher(hi, lo) -/
theorem c_encipher (l : Launch) (dC : Nat → ClassId) (dI : Nat → Nat → Nat) (o : Nat) (qs : Nat) (qu : Nat) (qw : Nat) (qb : Nat) (qe : Nat) (ks : ClassId) (kw : ClassId) (kb : ClassId) (ke : ClassId) (sb : Nat → Nat) (w : Nat → Int32) (b : Nat → Nat) (z : Nat → Nat) (hi : Int64) (lo : Int64) (s256 : ∀ i, sb i < 256) : MO l dC dI yX0_encipher wsX0_encipher rm_c_encipher [.ref o, .long hi, .long lo] [(o, .inr (0, [.ref qs, .ref qu, .ref qw, .ref qb, .ref qe])), (qs, .inl (ks, 256, .inl (nF sb))), (qw, .inl (kw, 44, .inl w)), (qb, .inl (kb, 16, .inl (nF b))), (qe, .inl (ke, 16, .inl (nF z)))] [(ks, .int), (kw, .int), (kb, .int), (ke, .int)] [(o, .inr (0, [.ref qs, .ref qu, .ref qw, .ref qb, .ref qe])), (qs, .inl (ks, 256, .inl (nF sb))), (qw, .inl (kw, 44, .inl w)), (qb, .inl (kb, 16, .inl (nF (erN sb w (ldN hi lo) 10)))), (qe, .inl (ke, 16, .inl (nF (erN sb w (ldN hi lo) 9))))] none := by
  refine mo_ofW (cc := cX0_encipher) (maxL := 6) (ret := none) (by decide) rfl (Nat.le_of_ble_eq_true rfl) ?_
  intro p e s m args below meth c Q A H locs ls hx hb hr hlk hml hta hown hin hE hQ hAe hA hK hP hD hS hl
  have hown : s.vm.findClass RX0 = some m.cls := hown
  have hl : lv_has ls 6 [(0, .ref o), (1, .long hi), (3, .long lo)] := hl
  refine lv_aload_n hx hb dX0_encipher_0 rfl (lv_at hl 0 rfl) ?_
  refine lv_lload_n hx hb dX0_encipher_1 rfl (lv_at hl 1 rfl) ?_
  refine lv_lload_n hx hb dX0_encipher_2 rfl (lv_at hl 2 rfl) ?_
  refine cf_0 (wr := [(qs, .inl (ks, 256, .inl (nF sb))), (qw, .inl (kw, 44, .inl w)), (qe, .inl (ke, 16, .inl (nF z)))]) (va_runV (As := [.long hi, .long lo]) (rest := []) ⟨hx, hb, hml, hown, hta⟩ (MO.to (c_load l dC dI o qs qu qw qb qe kb b hi lo) H.size) (cwV 2 hta (aw_V mw_139 mw_136 mw_138 mw_s3 mw_2) rfl rfl rfl ⟨rfl, dyX0_load⟩ ⟨(Nat.le_of_ble_eq_true rfl), (Nat.le_of_ble_eq_true rfl)⟩) (pr_V hP hD hK hE [0, 3] [2] (by decide) rfl rfl rfl rfl) rfl rfl hl.1 rfl (lv_room (Nat.le_of_ble_eq_true rfl)) dX0_encipher_3 ⟨(Nat.le_of_ble_eq_true rfl), (Nat.le_of_ble_eq_true rfl)⟩) hP hD hS hA [0, 3] [1, 2, 4] rfl rfl (by decide) (by decide) (fun H locs hP hD hS => ?_)
  have hP : va_P (dC, dI) vwCl [(qs, .inl (ks, 256, .inl (nF sb))), (qw, .inl (kw, 44, .inl w)), (qe, .inl (ke, 16, .inl (nF z))), (o, .inr (0, [.ref qs, .ref qu, .ref qw, .ref qb, .ref qe])), (qb, .inl (kb, 16, .inl (nF (ldN hi lo))))] H := hP
  have hD : va_D A [(qs, .inl (ks, 256, .inl (nF sb))), (qw, .inl (kw, 44, .inl w)), (qe, .inl (ke, 16, .inl (nF z))), (o, .inr (0, [.ref qs, .ref qu, .ref qw, .ref qb, .ref qe])), (qb, .inl (kb, 16, .inl (nF (ldN hi lo))))] := hD
  refine W.widen (k := 0) (n := 0) (Nat.le_of_ble_eq_true rfl) (Nat.le_of_ble_eq_true rfl) ?_
  refine w_pc (pc2 := 6) rfl ?_
  refine lv_aload_n hx hb dX0_encipher_6 rfl (lv_at hl 0 rfl) ?_
  refine lv_iconst (v := nI 0) hx hb dX0_encipher_7 (by decide) ?_
  refine cf_0 (wr := [(qs, .inl (ks, 256, .inl (nF sb))), (qe, .inl (ke, 16, .inl (nF z)))]) (va_runV (As := [.int (nI 0)]) (rest := []) ⟨hx, hb, hml, hown, hta⟩ (MO.to (c_addWords l dC dI o qs qu qw qb qe kw kb w (ldN hi lo) 0 (by omega)) H.size) (cwV 1 hta (aw_V mw_143 mw_140 mw_142 mw_s4 mw_2) rfl rfl rfl ⟨rfl, dyX0_addWords⟩ ⟨(Nat.le_of_ble_eq_true rfl), (Nat.le_of_ble_eq_true rfl)⟩) (pr_V hP hD hK hE [3, 1, 4] [1, 2] (by decide) rfl rfl rfl rfl) rfl rfl hl.1 rfl (lv_room (Nat.le_of_ble_eq_true rfl)) dX0_encipher_8 ⟨(Nat.le_of_ble_eq_true rfl), (Nat.le_of_ble_eq_true rfl)⟩) hP hD hS hA [3, 1, 4] [0, 2] rfl rfl (by decide) (by decide) (fun H locs hP hD hS => ?_)
  have hP : va_P (dC, dI) vwCl [(qs, .inl (ks, 256, .inl (nF sb))), (qe, .inl (ke, 16, .inl (nF z))), (o, .inr (0, [.ref qs, .ref qu, .ref qw, .ref qb, .ref qe])), (qw, .inl (kw, 44, .inl w)), (qb, .inl (kb, 16, .inl (nF (akN w 0 (ldN hi lo)))))] H := hP
  have hD : va_D A [(qs, .inl (ks, 256, .inl (nF sb))), (qe, .inl (ke, 16, .inl (nF z))), (o, .inr (0, [.ref qs, .ref qu, .ref qw, .ref qb, .ref qe])), (qw, .inl (kw, 44, .inl w)), (qb, .inl (kb, 16, .inl (nF (akN w 0 (ldN hi lo)))))] := hD
  refine W.widen (k := 0) (n := 0) (Nat.le_of_ble_eq_true rfl) (Nat.le_of_ble_eq_true rfl) ?_
  refine w_pc (pc2 := 11) rfl ?_
  refine lv_iconst (v := nI 1) hx hb dX0_encipher_11 (by decide) ?_
  refine lv_istore hx hb dX0_encipher_12 hl (by decide) rfl (fun ls hl => ?_)
  have hl : lv_has ls 6 [(5, .int (nI 1)), (0, .ref o), (1, .long hi), (3, .long lo)] := hl
  obtain ⟨hP, hD⟩ := va_recb (g := erN sb w (ldN hi lo) 0) hP hD 4 rfl (fun i _ => rfl)
  have hP : va_P (dC, dI) vwCl [(qs, .inl (ks, 256, .inl (nF sb))), (qe, .inl (ke, 16, .inl (nF z))), (o, .inr (0, [.ref qs, .ref qu, .ref qw, .ref qb, .ref qe])), (qw, .inl (kw, 44, .inl w)), (qb, .inl (kb, 16, .inl (nF (erN sb w (ldN hi lo) 0))))] H := hP
  have hD : va_D A [(qs, .inl (ks, 256, .inl (nF sb))), (qe, .inl (ke, 16, .inl (nF z))), (o, .inr (0, [.ref qs, .ref qu, .ref qw, .ref qb, .ref qe])), (qw, .inl (kw, 44, .inl w)), (qb, .inl (kb, 16, .inl (nF (erN sb w (ldN hi lo) 0))))] := hD
  obtain ⟨hP, hD⟩ := va_recb (g := ebN sb w (ldN hi lo) z 0) hP hD 1 rfl (fun i _ => rfl)
  have hP : va_P (dC, dI) vwCl [(qs, .inl (ks, 256, .inl (nF sb))), (qe, .inl (ke, 16, .inl (nF (ebN sb w (ldN hi lo) z 0)))), (o, .inr (0, [.ref qs, .ref qu, .ref qw, .ref qb, .ref qe])), (qw, .inl (kw, 44, .inl w)), (qb, .inl (kb, 16, .inl (nF (erN sb w (ldN hi lo) 0))))] H := hP
  have hD : va_D A [(qs, .inl (ks, 256, .inl (nF sb))), (qe, .inl (ke, 16, .inl (nF (ebN sb w (ldN hi lo) z 0)))), (o, .inr (0, [.ref qs, .ref qu, .ref qw, .ref qb, .ref qe])), (qw, .inl (kw, 44, .inl w)), (qb, .inl (kb, 16, .inl (nF (erN sb w (ldN hi lo) 0))))] := hD
  have loop_14 : ∀ (n k : Nat) (ls : Array Slot) (H : Heap) (locs : List Loc), k + n = 10 → lv_has ls 6 [(5, .int (nI (k + 1))), (0, .ref o)] → va_P (dC, dI) vwCl [(qs, .inl (ks, 256, .inl (nF sb))), (qe, .inl (ke, 16, .inl (nF (ebN sb w (ldN hi lo) z k)))), (o, .inr (0, [.ref qs, .ref qu, .ref qw, .ref qb, .ref qe])), (qw, .inl (kw, 44, .inl w)), (qb, .inl (kb, 16, .inl (nF (erN sb w (ldN hi lo) k))))] H → va_D A [(qs, .inl (ks, 256, .inl (nF sb))), (qe, .inl (ke, 16, .inl (nF (ebN sb w (ldN hi lo) z k)))), (o, .inr (0, [.ref qs, .ref qu, .ref qw, .ref qb, .ref qe])), (qw, .inl (kw, 44, .inl w)), (qb, .inl (kb, 16, .inl (nF (erN sb w (ldN hi lo) k))))] → va_S A s.heap H locs → W p l e rm_c_encipher s m args below meth c H locs 0 0 Q (F0 m 14 ls []) := by
    intro n
    induction n with
    | zero =>
      intro k ls H locs hn_14  hl hP hD hS
      obtain rfl : 10 = k := by omega
      obtain ⟨hP, hD⟩ := va_recb (g := erN sb w (ldN hi lo) 9) hP hD 1 rfl (fun i _ => rfl)
      have hP : va_P (dC, dI) vwCl [(qs, .inl (ks, 256, .inl (nF sb))), (qe, .inl (ke, 16, .inl (nF (erN sb w (ldN hi lo) 9)))), (o, .inr (0, [.ref qs, .ref qu, .ref qw, .ref qb, .ref qe])), (qw, .inl (kw, 44, .inl w)), (qb, .inl (kb, 16, .inl (nF (erN sb w (ldN hi lo) 10))))] H := hP
      have hD : va_D A [(qs, .inl (ks, 256, .inl (nF sb))), (qe, .inl (ke, 16, .inl (nF (erN sb w (ldN hi lo) 9)))), (o, .inr (0, [.ref qs, .ref qu, .ref qw, .ref qb, .ref qe])), (qw, .inl (kw, 44, .inl w)), (qb, .inl (kb, 16, .inl (nF (erN sb w (ldN hi lo) 10))))] := hD
      refine lv_iload hx hb dX0_encipher_14 (lv_at hl 0 rfl) ?_
      refine lv_bipush (v := nI 10) hx hb dX0_encipher_16 (by decide) ?_
      refine lv_icmp_gt (tgt := 48) hx hb dX0_encipher_18 (by decide) (fun hc_18 => ?_) (fun hc_18 => ?_)
      · skip
        have hc_18 := (ix_lt (a := 10) (b := 10 + 1) (by omega) (by omega)).mp hc_18
        have hc_18 : (10 < (10 + 1)) := hc_18
        exact rt_0 hx hb hr hlk hQ hAe hP hD hS [2, 0, 3, 4, 1] (by decide) rfl (Nat.le_of_ble_eq_true rfl) (Nat.le_of_ble_eq_true rfl) dX0_encipher_48
      · skip
        have hc_18 := (not_congr (ix_lt (a := 10) (b := 10 + 1) (by omega) (by omega))).mp hc_18
        have hc_18 : ¬ (10 < (10 + 1)) := hc_18
        exfalso; omega
    | succ n ih =>
      intro k ls H locs hn_14  hl hP hD hS
      refine lv_iload hx hb dX0_encipher_14 (lv_at hl 0 rfl) ?_
      refine lv_bipush (v := nI 10) hx hb dX0_encipher_16 (by decide) ?_
      refine lv_icmp_gt (tgt := 48) hx hb dX0_encipher_18 (by decide) (fun hc_18 => ?_) (fun hc_18 => ?_)
      · skip
        have hc_18 := (ix_lt (a := 10) (b := k + 1) (by omega) (by omega)).mp hc_18
        have hc_18 : (10 < (k + 1)) := hc_18
        exfalso; omega
      · skip
        have hc_18 := (not_congr (ix_lt (a := 10) (b := k + 1) (by omega) (by omega))).mp hc_18
        have hc_18 : ¬ (10 < (k + 1)) := hc_18
        refine lv_aload_n hx hb dX0_encipher_21 rfl (lv_at hl 1 rfl) ?_
        refine cf_0 (wr := [(qw, .inl (kw, 44, .inl w))]) (va_runV (As := []) (rest := []) ⟨hx, hb, hml, hown, hta⟩ (MO.to (c_substAndShift l dC dI o qs qu qw qb qe ks kb ke sb (erN sb w (ldN hi lo) k) (ebN sb w (ldN hi lo) z k) (erN_lt s256 (ldN_lt hi lo) k)) H.size) (cwV 0 hta (aw_V mw_147 mw_144 mw_146 mw_s5 mw_2) rfl rfl rfl ⟨rfl, dyX0_substAndShift⟩ ⟨(Nat.le_of_ble_eq_true rfl), (Nat.le_of_ble_eq_true rfl)⟩) (pr_V hP hD hK hE [2, 0, 4, 1] [0, 2, 3] (by decide) rfl rfl rfl rfl) rfl rfl hl.1 rfl (lv_room (Nat.le_of_ble_eq_true rfl)) dX0_encipher_22 ⟨(Nat.le_of_ble_eq_true rfl), (Nat.le_of_ble_eq_true rfl)⟩) hP hD hS hA [2, 0, 4, 1] [3] rfl rfl (by decide) (by decide) (fun H locs hP hD hS => ?_)
        have hP : va_P (dC, dI) vwCl [(qw, .inl (kw, 44, .inl w)), (o, .inr (0, [.ref qs, .ref qu, .ref qw, .ref qb, .ref qe])), (qs, .inl (ks, 256, .inl (nF sb))), (qb, .inl (kb, 16, .inl (nF (ssN sb (erN sb w (ldN hi lo) k))))), (qe, .inl (ke, 16, .inl (nF (erN sb w (ldN hi lo) k))))] H := hP
        have hD : va_D A [(qw, .inl (kw, 44, .inl w)), (o, .inr (0, [.ref qs, .ref qu, .ref qw, .ref qb, .ref qe])), (qs, .inl (ks, 256, .inl (nF sb))), (qb, .inl (kb, 16, .inl (nF (ssN sb (erN sb w (ldN hi lo) k))))), (qe, .inl (ke, 16, .inl (nF (erN sb w (ldN hi lo) k))))] := hD
        refine W.widen (k := 0) (n := 0) (Nat.le_of_ble_eq_true rfl) (Nat.le_of_ble_eq_true rfl) ?_
        refine w_pc (pc2 := 25) rfl ?_
        refine lv_iload hx hb dX0_encipher_25 (lv_at hl 0 rfl) ?_
        refine lv_bipush (v := nI 10) hx hb dX0_encipher_27 (by decide) ?_
        refine lv_icmp_ge (tgt := 36) hx hb dX0_encipher_29 (by decide) (fun hc_29 => ?_) (fun hc_29 => ?_)
        · skip
          have hc_29 := (ix_le (a := 10) (b := k + 1) (by omega) (by omega)).mp hc_29
          have hc_29 : (10 ≤ (k + 1)) := hc_29
          refine lv_aload_n hx hb dX0_encipher_36 rfl (lv_at hl 1 rfl) ?_
          refine lv_iload hx hb dX0_encipher_37 (lv_at hl 0 rfl) ?_
          refine cf_0 (wr := [(qs, .inl (ks, 256, .inl (nF sb))), (qe, .inl (ke, 16, .inl (nF (erN sb w (ldN hi lo) k))))]) (va_runV (As := [.int (nI (k + 1))]) (rest := []) ⟨hx, hb, hml, hown, hta⟩ (MO.to (c_addWords l dC dI o qs qu qw qb qe kw kb w (ssN sb (erN sb w (ldN hi lo) k)) (k + 1) (by omega)) H.size) (cwV 1 hta (aw_V mw_143 mw_140 mw_142 mw_s4 mw_2) rfl rfl rfl ⟨rfl, dyX0_addWords⟩ ⟨(Nat.le_of_ble_eq_true rfl), (Nat.le_of_ble_eq_true rfl)⟩) (pr_V hP hD hK hE [1, 0, 3] [1, 2] (by decide) rfl rfl rfl rfl) rfl rfl hl.1 rfl (lv_room (Nat.le_of_ble_eq_true rfl)) dX0_encipher_39 ⟨(Nat.le_of_ble_eq_true rfl), (Nat.le_of_ble_eq_true rfl)⟩) hP hD hS hA [1, 0, 3] [2, 4] rfl rfl (by decide) (by decide) (fun H locs hP hD hS => ?_)
          have hP : va_P (dC, dI) vwCl [(qs, .inl (ks, 256, .inl (nF sb))), (qe, .inl (ke, 16, .inl (nF (erN sb w (ldN hi lo) k)))), (o, .inr (0, [.ref qs, .ref qu, .ref qw, .ref qb, .ref qe])), (qw, .inl (kw, 44, .inl w)), (qb, .inl (kb, 16, .inl (nF (akN w (k + 1) (ssN sb (erN sb w (ldN hi lo) k))))))] H := hP
          have hD : va_D A [(qs, .inl (ks, 256, .inl (nF sb))), (qe, .inl (ke, 16, .inl (nF (erN sb w (ldN hi lo) k)))), (o, .inr (0, [.ref qs, .ref qu, .ref qw, .ref qb, .ref qe])), (qw, .inl (kw, 44, .inl w)), (qb, .inl (kb, 16, .inl (nF (akN w (k + 1) (ssN sb (erN sb w (ldN hi lo) k))))))] := hD
          refine W.widen (k := 0) (n := 0) (Nat.le_of_ble_eq_true rfl) (Nat.le_of_ble_eq_true rfl) ?_
          refine w_pc (pc2 := 42) rfl ?_
          refine lv_iinc (v := nI ((k + 1) + 1)) (k := 0) hx hb dX0_encipher_42 hl rfl (ix_inc _ 1) (by decide) rfl (fun ls hl => ?_)
          have hl : lv_has ls 6 [(5, .int (nI ((k + 1) + 1))), (0, .ref o)] := hl
          refine lv_goto (tgt := 14) hx hb dX0_encipher_45 (by decide) ?_
          obtain ⟨hP, hD⟩ := va_recb (g := erN sb w (ldN hi lo) (k + 1)) hP hD 4 rfl (fun i _ => erN_e (by omega) i)
          have hP : va_P (dC, dI) vwCl [(qs, .inl (ks, 256, .inl (nF sb))), (qe, .inl (ke, 16, .inl (nF (erN sb w (ldN hi lo) k)))), (o, .inr (0, [.ref qs, .ref qu, .ref qw, .ref qb, .ref qe])), (qw, .inl (kw, 44, .inl w)), (qb, .inl (kb, 16, .inl (nF (erN sb w (ldN hi lo) (k + 1)))))] H := hP
          have hD : va_D A [(qs, .inl (ks, 256, .inl (nF sb))), (qe, .inl (ke, 16, .inl (nF (erN sb w (ldN hi lo) k)))), (o, .inr (0, [.ref qs, .ref qu, .ref qw, .ref qb, .ref qe])), (qw, .inl (kw, 44, .inl w)), (qb, .inl (kb, 16, .inl (nF (erN sb w (ldN hi lo) (k + 1)))))] := hD
          obtain ⟨hP, hD⟩ := va_recb (g := ebN sb w (ldN hi lo) z (k + 1)) hP hD 1 rfl (fun i _ => rfl)
          have hP : va_P (dC, dI) vwCl [(qs, .inl (ks, 256, .inl (nF sb))), (qe, .inl (ke, 16, .inl (nF (ebN sb w (ldN hi lo) z (k + 1))))), (o, .inr (0, [.ref qs, .ref qu, .ref qw, .ref qb, .ref qe])), (qw, .inl (kw, 44, .inl w)), (qb, .inl (kb, 16, .inl (nF (erN sb w (ldN hi lo) (k + 1)))))] H := hP
          have hD : va_D A [(qs, .inl (ks, 256, .inl (nF sb))), (qe, .inl (ke, 16, .inl (nF (ebN sb w (ldN hi lo) z (k + 1))))), (o, .inr (0, [.ref qs, .ref qu, .ref qw, .ref qb, .ref qe])), (qw, .inl (kw, 44, .inl w)), (qb, .inl (kb, 16, .inl (nF (erN sb w (ldN hi lo) (k + 1)))))] := hD
          exact ih (k + 1) ls H locs (by omega)  (lv_sub hl [0, 1] rfl) hP hD hS
        · skip
          have hc_29 := (not_congr (ix_le (a := 10) (b := k + 1) (by omega) (by omega))).mp hc_29
          have hc_29 : ¬ (10 ≤ (k + 1)) := hc_29
          refine lv_aload_n hx hb dX0_encipher_32 rfl (lv_at hl 1 rfl) ?_
          refine cf_0 (wr := [(qw, .inl (kw, 44, .inl w)), (qs, .inl (ks, 256, .inl (nF sb))), (qe, .inl (ke, 16, .inl (nF (erN sb w (ldN hi lo) k))))]) (va_runV (As := []) (rest := []) ⟨hx, hb, hml, hown, hta⟩ (MO.to (c_mix l dC dI o qs qu qw qb qe kb (ssN sb (erN sb w (ldN hi lo) k)) (ssN_lt s256)) H.size) (cwV 0 hta (aw_V mw_161 mw_158 mw_160 mw_s6 mw_2) rfl rfl rfl ⟨rfl, dyX0_mix⟩ ⟨(Nat.le_of_ble_eq_true rfl), (Nat.le_of_ble_eq_true rfl)⟩) (pr_V hP hD hK hE [1, 3] [2] (by decide) rfl rfl rfl rfl) rfl rfl hl.1 rfl (lv_room (Nat.le_of_ble_eq_true rfl)) dX0_encipher_33 ⟨(Nat.le_of_ble_eq_true rfl), (Nat.le_of_ble_eq_true rfl)⟩) hP hD hS hA [1, 3] [0, 2, 4] rfl rfl (by decide) (by decide) (fun H locs hP hD hS => ?_)
          have hP : va_P (dC, dI) vwCl [(qw, .inl (kw, 44, .inl w)), (qs, .inl (ks, 256, .inl (nF sb))), (qe, .inl (ke, 16, .inl (nF (erN sb w (ldN hi lo) k)))), (o, .inr (0, [.ref qs, .ref qu, .ref qw, .ref qb, .ref qe])), (qb, .inl (kb, 16, .inl (nF (mixN (ssN sb (erN sb w (ldN hi lo) k))))))] H := hP
          have hD : va_D A [(qw, .inl (kw, 44, .inl w)), (qs, .inl (ks, 256, .inl (nF sb))), (qe, .inl (ke, 16, .inl (nF (erN sb w (ldN hi lo) k)))), (o, .inr (0, [.ref qs, .ref qu, .ref qw, .ref qb, .ref qe])), (qb, .inl (kb, 16, .inl (nF (mixN (ssN sb (erN sb w (ldN hi lo) k))))))] := hD
          refine W.widen (k := 0) (n := 0) (Nat.le_of_ble_eq_true rfl) (Nat.le_of_ble_eq_true rfl) ?_
          refine w_pc (pc2 := 36) rfl ?_
          refine lv_aload_n hx hb dX0_encipher_36 rfl (lv_at hl 1 rfl) ?_
          refine lv_iload hx hb dX0_encipher_37 (lv_at hl 0 rfl) ?_
          refine cf_0 (wr := [(qs, .inl (ks, 256, .inl (nF sb))), (qe, .inl (ke, 16, .inl (nF (erN sb w (ldN hi lo) k))))]) (va_runV (As := [.int (nI (k + 1))]) (rest := []) ⟨hx, hb, hml, hown, hta⟩ (MO.to (c_addWords l dC dI o qs qu qw qb qe kw kb w (mixN (ssN sb (erN sb w (ldN hi lo) k))) (k + 1) (by omega)) H.size) (cwV 1 hta (aw_V mw_143 mw_140 mw_142 mw_s4 mw_2) rfl rfl rfl ⟨rfl, dyX0_addWords⟩ ⟨(Nat.le_of_ble_eq_true rfl), (Nat.le_of_ble_eq_true rfl)⟩) (pr_V hP hD hK hE [3, 0, 4] [1, 2] (by decide) rfl rfl rfl rfl) rfl rfl hl.1 rfl (lv_room (Nat.le_of_ble_eq_true rfl)) dX0_encipher_39 ⟨(Nat.le_of_ble_eq_true rfl), (Nat.le_of_ble_eq_true rfl)⟩) hP hD hS hA [3, 0, 4] [1, 2] rfl rfl (by decide) (by decide) (fun H locs hP hD hS => ?_)
          have hP : va_P (dC, dI) vwCl [(qs, .inl (ks, 256, .inl (nF sb))), (qe, .inl (ke, 16, .inl (nF (erN sb w (ldN hi lo) k)))), (o, .inr (0, [.ref qs, .ref qu, .ref qw, .ref qb, .ref qe])), (qw, .inl (kw, 44, .inl w)), (qb, .inl (kb, 16, .inl (nF (akN w (k + 1) (mixN (ssN sb (erN sb w (ldN hi lo) k)))))))] H := hP
          have hD : va_D A [(qs, .inl (ks, 256, .inl (nF sb))), (qe, .inl (ke, 16, .inl (nF (erN sb w (ldN hi lo) k)))), (o, .inr (0, [.ref qs, .ref qu, .ref qw, .ref qb, .ref qe])), (qw, .inl (kw, 44, .inl w)), (qb, .inl (kb, 16, .inl (nF (akN w (k + 1) (mixN (ssN sb (erN sb w (ldN hi lo) k)))))))] := hD
          refine W.widen (k := 0) (n := 0) (Nat.le_of_ble_eq_true rfl) (Nat.le_of_ble_eq_true rfl) ?_
          refine w_pc (pc2 := 42) rfl ?_
          refine lv_iinc (v := nI ((k + 1) + 1)) (k := 0) hx hb dX0_encipher_42 hl rfl (ix_inc _ 1) (by decide) rfl (fun ls hl => ?_)
          have hl : lv_has ls 6 [(5, .int (nI ((k + 1) + 1))), (0, .ref o)] := hl
          refine lv_goto (tgt := 14) hx hb dX0_encipher_45 (by decide) ?_
          obtain ⟨hP, hD⟩ := va_recb (g := erN sb w (ldN hi lo) (k + 1)) hP hD 4 rfl (fun i _ => erN_m (by omega) i)
          have hP : va_P (dC, dI) vwCl [(qs, .inl (ks, 256, .inl (nF sb))), (qe, .inl (ke, 16, .inl (nF (erN sb w (ldN hi lo) k)))), (o, .inr (0, [.ref qs, .ref qu, .ref qw, .ref qb, .ref qe])), (qw, .inl (kw, 44, .inl w)), (qb, .inl (kb, 16, .inl (nF (erN sb w (ldN hi lo) (k + 1)))))] H := hP
          have hD : va_D A [(qs, .inl (ks, 256, .inl (nF sb))), (qe, .inl (ke, 16, .inl (nF (erN sb w (ldN hi lo) k)))), (o, .inr (0, [.ref qs, .ref qu, .ref qw, .ref qb, .ref qe])), (qw, .inl (kw, 44, .inl w)), (qb, .inl (kb, 16, .inl (nF (erN sb w (ldN hi lo) (k + 1)))))] := hD
          obtain ⟨hP, hD⟩ := va_recb (g := ebN sb w (ldN hi lo) z (k + 1)) hP hD 1 rfl (fun i _ => rfl)
          have hP : va_P (dC, dI) vwCl [(qs, .inl (ks, 256, .inl (nF sb))), (qe, .inl (ke, 16, .inl (nF (ebN sb w (ldN hi lo) z (k + 1))))), (o, .inr (0, [.ref qs, .ref qu, .ref qw, .ref qb, .ref qe])), (qw, .inl (kw, 44, .inl w)), (qb, .inl (kb, 16, .inl (nF (erN sb w (ldN hi lo) (k + 1)))))] H := hP
          have hD : va_D A [(qs, .inl (ks, 256, .inl (nF sb))), (qe, .inl (ke, 16, .inl (nF (ebN sb w (ldN hi lo) z (k + 1))))), (o, .inr (0, [.ref qs, .ref qu, .ref qw, .ref qb, .ref qe])), (qw, .inl (kw, 44, .inl w)), (qb, .inl (kb, 16, .inl (nF (erN sb w (ldN hi lo) (k + 1)))))] := hD
          exact ih (k + 1) ls H locs (by omega)  (lv_sub hl [0, 1] rfl) hP hD hS
  exact loop_14 10 0 ls H locs (by omega)  (lv_sub hl [0, 1] rfl) hP hD hS

def rm_c_decipher : Room := { frames := 3, cells := 0, slots := 0, locals := 102 }
set_option maxHeartbeats 4000000 in
set_option maxRecDepth 100000 in
/-- decipher(hi, lo) -/
theorem c_decipher (l : Launch) (dC : Nat → ClassId) (dI : Nat → Nat → Nat) (o : Nat) (qs : Nat) (qu : Nat) (qw : Nat) (qb : Nat) (qe : Nat) (ku : ClassId) (kw : ClassId) (kb : ClassId) (ke : ClassId) (ub : Nat → Nat) (w : Nat → Int32) (b : Nat → Nat) (z : Nat → Nat) (hi : Int64) (lo : Int64) (u256 : ∀ i, ub i < 256) : MO l dC dI yX0_decipher wsX0_decipher rm_c_decipher [.ref o, .long hi, .long lo] [(o, .inr (0, [.ref qs, .ref qu, .ref qw, .ref qb, .ref qe])), (qu, .inl (ku, 256, .inl (nF ub))), (qw, .inl (kw, 44, .inl w)), (qb, .inl (kb, 16, .inl (nF b))), (qe, .inl (ke, 16, .inl (nF z)))] [(ku, .int), (kw, .int), (kb, .int), (ke, .int)] [(o, .inr (0, [.ref qs, .ref qu, .ref qw, .ref qb, .ref qe])), (qu, .inl (ku, 256, .inl (nF ub))), (qw, .inl (kw, 44, .inl w)), (qb, .inl (kb, 16, .inl (nF (akN w 0 (drN ub w (ldN hi lo) 10))))), (qe, .inl (ke, 16, .inl (nF (umN w 9 (drN ub w (ldN hi lo) 9)))))] none := by
  refine mo_ofW (cc := cX0_decipher) (maxL := 6) (ret := none) (by decide) rfl (Nat.le_of_ble_eq_true rfl) ?_
  intro p e s m args below meth c Q A H locs ls hx hb hr hlk hml hta hown hin hE hQ hAe hA hK hP hD hS hl
  have hown : s.vm.findClass RX0 = some m.cls := hown
  have hl : lv_has ls 6 [(0, .ref o), (1, .long hi), (3, .long lo)] := hl
  refine lv_aload_n hx hb dX0_decipher_0 rfl (lv_at hl 0 rfl) ?_
  refine lv_lload_n hx hb dX0_decipher_1 rfl (lv_at hl 1 rfl) ?_
  refine lv_lload_n hx hb dX0_decipher_2 rfl (lv_at hl 2 rfl) ?_
  refine cf_0 (wr := [(qu, .inl (ku, 256, .inl (nF ub))), (qw, .inl (kw, 44, .inl w)), (qe, .inl (ke, 16, .inl (nF z)))]) (va_runV (As := [.long hi, .long lo]) (rest := []) ⟨hx, hb, hml, hown, hta⟩ (MO.to (c_load l dC dI o qs qu qw qb qe kb b hi lo) H.size) (cwV 2 hta (aw_V mw_139 mw_136 mw_138 mw_s3 mw_2) rfl rfl rfl ⟨rfl, dyX0_load⟩ ⟨(Nat.le_of_ble_eq_true rfl), (Nat.le_of_ble_eq_true rfl)⟩) (pr_V hP hD hK hE [0, 3] [2] (by decide) rfl rfl rfl rfl) rfl rfl hl.1 rfl (lv_room (Nat.le_of_ble_eq_true rfl)) dX0_decipher_3 ⟨(Nat.le_of_ble_eq_true rfl), (Nat.le_of_ble_eq_true rfl)⟩) hP hD hS hA [0, 3] [1, 2, 4] rfl rfl (by decide) (by decide) (fun H locs hP hD hS => ?_)
  have hP : va_P (dC, dI) vwCl [(qu, .inl (ku, 256, .inl (nF ub))), (qw, .inl (kw, 44, .inl w)), (qe, .inl (ke, 16, .inl (nF z))), (o, .inr (0, [.ref qs, .ref qu, .ref qw, .ref qb, .ref qe])), (qb, .inl (kb, 16, .inl (nF (ldN hi lo))))] H := hP
  have hD : va_D A [(qu, .inl (ku, 256, .inl (nF ub))), (qw, .inl (kw, 44, .inl w)), (qe, .inl (ke, 16, .inl (nF z))), (o, .inr (0, [.ref qs, .ref qu, .ref qw, .ref qb, .ref qe])), (qb, .inl (kb, 16, .inl (nF (ldN hi lo))))] := hD
  refine W.widen (k := 0) (n := 0) (Nat.le_of_ble_eq_true rfl) (Nat.le_of_ble_eq_true rfl) ?_
  refine w_pc (pc2 := 6) rfl ?_
  refine lv_bipush (v := nI 10) hx hb dX0_decipher_6 (by decide) ?_
  refine lv_istore hx hb dX0_decipher_8 hl (by decide) rfl (fun ls hl => ?_)
  have hl : lv_has ls 6 [(5, .int (nI 10)), (0, .ref o), (1, .long hi), (3, .long lo)] := hl
  obtain ⟨hP, hD⟩ := va_recb (g := drN ub w (ldN hi lo) 0) hP hD 4 rfl (fun i _ => rfl)
  have hP : va_P (dC, dI) vwCl [(qu, .inl (ku, 256, .inl (nF ub))), (qw, .inl (kw, 44, .inl w)), (qe, .inl (ke, 16, .inl (nF z))), (o, .inr (0, [.ref qs, .ref qu, .ref qw, .ref qb, .ref qe])), (qb, .inl (kb, 16, .inl (nF (drN ub w (ldN hi lo) 0))))] H := hP
  have hD : va_D A [(qu, .inl (ku, 256, .inl (nF ub))), (qw, .inl (kw, 44, .inl w)), (qe, .inl (ke, 16, .inl (nF z))), (o, .inr (0, [.ref qs, .ref qu, .ref qw, .ref qb, .ref qe])), (qb, .inl (kb, 16, .inl (nF (drN ub w (ldN hi lo) 0))))] := hD
  obtain ⟨hP, hD⟩ := va_recb (g := dbN ub w (ldN hi lo) z 0) hP hD 2 rfl (fun i _ => rfl)
  have hP : va_P (dC, dI) vwCl [(qu, .inl (ku, 256, .inl (nF ub))), (qw, .inl (kw, 44, .inl w)), (qe, .inl (ke, 16, .inl (nF (dbN ub w (ldN hi lo) z 0)))), (o, .inr (0, [.ref qs, .ref qu, .ref qw, .ref qb, .ref qe])), (qb, .inl (kb, 16, .inl (nF (drN ub w (ldN hi lo) 0))))] H := hP
  have hD : va_D A [(qu, .inl (ku, 256, .inl (nF ub))), (qw, .inl (kw, 44, .inl w)), (qe, .inl (ke, 16, .inl (nF (dbN ub w (ldN hi lo) z 0)))), (o, .inr (0, [.ref qs, .ref qu, .ref qw, .ref qb, .ref qe])), (qb, .inl (kb, 16, .inl (nF (drN ub w (ldN hi lo) 0))))] := hD
  have loop_10 : ∀ (n t : Nat) (ls : Array Slot) (H : Heap) (locs : List Loc), t + n = 10 → lv_has ls 6 [(5, .int (nI (10 - t))), (0, .ref o)] → va_P (dC, dI) vwCl [(qu, .inl (ku, 256, .inl (nF ub))), (qw, .inl (kw, 44, .inl w)), (qe, .inl (ke, 16, .inl (nF (dbN ub w (ldN hi lo) z t)))), (o, .inr (0, [.ref qs, .ref qu, .ref qw, .ref qb, .ref qe])), (qb, .inl (kb, 16, .inl (nF (drN ub w (ldN hi lo) t))))] H → va_D A [(qu, .inl (ku, 256, .inl (nF ub))), (qw, .inl (kw, 44, .inl w)), (qe, .inl (ke, 16, .inl (nF (dbN ub w (ldN hi lo) z t)))), (o, .inr (0, [.ref qs, .ref qu, .ref qw, .ref qb, .ref qe])), (qb, .inl (kb, 16, .inl (nF (drN ub w (ldN hi lo) t))))] → va_S A s.heap H locs → W p l e rm_c_decipher s m args below meth c H locs 0 0 Q (F0 m 10 ls []) := by
    intro n
    induction n with
    | zero =>
      intro t ls H locs hn_10  hl hP hD hS
      obtain rfl : 10 = t := by omega
      obtain ⟨hP, hD⟩ := va_recb (g := umN w 9 (drN ub w (ldN hi lo) 9)) hP hD 2 rfl (fun i _ => rfl)
      have hP : va_P (dC, dI) vwCl [(qu, .inl (ku, 256, .inl (nF ub))), (qw, .inl (kw, 44, .inl w)), (qe, .inl (ke, 16, .inl (nF (umN w 9 (drN ub w (ldN hi lo) 9))))), (o, .inr (0, [.ref qs, .ref qu, .ref qw, .ref qb, .ref qe])), (qb, .inl (kb, 16, .inl (nF (drN ub w (ldN hi lo) 10))))] H := hP
      have hD : va_D A [(qu, .inl (ku, 256, .inl (nF ub))), (qw, .inl (kw, 44, .inl w)), (qe, .inl (ke, 16, .inl (nF (umN w 9 (drN ub w (ldN hi lo) 9))))), (o, .inr (0, [.ref qs, .ref qu, .ref qw, .ref qb, .ref qe])), (qb, .inl (kb, 16, .inl (nF (drN ub w (ldN hi lo) 10))))] := hD
      refine lv_iload hx hb dX0_decipher_10 (lv_at hl 0 rfl) ?_
      refine lv_iconst (v := nI 1) hx hb dX0_decipher_12 (by decide) ?_
      refine lv_icmp_lt (tgt := 43) hx hb dX0_decipher_13 (by decide) (fun hc_13 => ?_) (fun hc_13 => ?_)
      · skip
        have hc_13 := (ix_lt (a := 10 - 10) (b := 1) (by omega) (by omega)).mp hc_13
        have hc_13 : ((10 - 10) < 1) := hc_13
        refine lv_aload_n hx hb dX0_decipher_43 rfl (lv_at hl 1 rfl) ?_
        refine lv_iconst (v := nI 0) hx hb dX0_decipher_44 (by decide) ?_
        refine cf_0 (wr := [(qu, .inl (ku, 256, .inl (nF ub))), (qe, .inl (ke, 16, .inl (nF (umN w 9 (drN ub w (ldN hi lo) 9)))))]) (va_runV (As := [.int (nI 0)]) (rest := []) ⟨hx, hb, hml, hown, hta⟩ (MO.to (c_addWords l dC dI o qs qu qw qb qe kw kb w (drN ub w (ldN hi lo) 10) 0 (by omega)) H.size) (cwV 1 hta (aw_V mw_143 mw_140 mw_142 mw_s4 mw_2) rfl rfl rfl ⟨rfl, dyX0_addWords⟩ ⟨(Nat.le_of_ble_eq_true rfl), (Nat.le_of_ble_eq_true rfl)⟩) (pr_V hP hD hK hE [3, 1, 4] [1, 2] (by decide) rfl rfl rfl rfl) rfl rfl hl.1 rfl (lv_room (Nat.le_of_ble_eq_true rfl)) dX0_decipher_45 ⟨(Nat.le_of_ble_eq_true rfl), (Nat.le_of_ble_eq_true rfl)⟩) hP hD hS hA [3, 1, 4] [0, 2] rfl rfl (by decide) (by decide) (fun H locs hP hD hS => ?_)
        have hP : va_P (dC, dI) vwCl [(qu, .inl (ku, 256, .inl (nF ub))), (qe, .inl (ke, 16, .inl (nF (umN w 9 (drN ub w (ldN hi lo) 9))))), (o, .inr (0, [.ref qs, .ref qu, .ref qw, .ref qb, .ref qe])), (qw, .inl (kw, 44, .inl w)), (qb, .inl (kb, 16, .inl (nF (akN w 0 (drN ub w (ldN hi lo) 10)))))] H := hP
        have hD : va_D A [(qu, .inl (ku, 256, .inl (nF ub))), (qe, .inl (ke, 16, .inl (nF (umN w 9 (drN ub w (ldN hi lo) 9))))), (o, .inr (0, [.ref qs, .ref qu, .ref qw, .ref qb, .ref qe])), (qw, .inl (kw, 44, .inl w)), (qb, .inl (kb, 16, .inl (nF (akN w 0 (drN ub w (ldN hi lo) 10)))))] := hD
        refine W.widen (k := 0) (n := 0) (Nat.le_of_ble_eq_true rfl) (Nat.le_of_ble_eq_true rfl) ?_
        refine w_pc (pc2 := 48) rfl ?_
        exact rt_0 hx hb hr hlk hQ hAe hP hD hS [2, 0, 3, 4, 1] (by decide) rfl (Nat.le_of_ble_eq_true rfl) (Nat.le_of_ble_eq_true rfl) dX0_decipher_48
      · skip
        have hc_13 := (not_congr (ix_lt (a := 10 - 10) (b := 1) (by omega) (by omega))).mp hc_13
        have hc_13 : ¬ ((10 - 10) < 1) := hc_13
        exfalso; omega
    | succ n ih =>
      intro t ls H locs hn_10  hl hP hD hS
      refine lv_iload hx hb dX0_decipher_10 (lv_at hl 0 rfl) ?_
      refine lv_iconst (v := nI 1) hx hb dX0_decipher_12 (by decide) ?_
      refine lv_icmp_lt (tgt := 43) hx hb dX0_decipher_13 (by decide) (fun hc_13 => ?_) (fun hc_13 => ?_)
      · skip
        have hc_13 := (ix_lt (a := 10 - t) (b := 1) (by omega) (by omega)).mp hc_13
        have hc_13 : ((10 - t) < 1) := hc_13
        exfalso; omega
      · skip
        have hc_13 := (not_congr (ix_lt (a := 10 - t) (b := 1) (by omega) (by omega))).mp hc_13
        have hc_13 : ¬ ((10 - t) < 1) := hc_13
        refine lv_aload_n hx hb dX0_decipher_16 rfl (lv_at hl 1 rfl) ?_
        refine lv_iload hx hb dX0_decipher_17 (lv_at hl 0 rfl) ?_
        refine cf_0 (wr := [(qu, .inl (ku, 256, .inl (nF ub))), (qe, .inl (ke, 16, .inl (nF (dbN ub w (ldN hi lo) z t))))]) (va_runV (As := [.int (nI (10 - t))]) (rest := []) ⟨hx, hb, hml, hown, hta⟩ (MO.to (c_addWords l dC dI o qs qu qw qb qe kw kb w (drN ub w (ldN hi lo) t) (10 - t) (by omega)) H.size) (cwV 1 hta (aw_V mw_143 mw_140 mw_142 mw_s4 mw_2) rfl rfl rfl ⟨rfl, dyX0_addWords⟩ ⟨(Nat.le_of_ble_eq_true rfl), (Nat.le_of_ble_eq_true rfl)⟩) (pr_V hP hD hK hE [3, 1, 4] [1, 2] (by decide) rfl rfl rfl rfl) rfl rfl hl.1 rfl (lv_room (Nat.le_of_ble_eq_true rfl)) dX0_decipher_19 ⟨(Nat.le_of_ble_eq_true rfl), (Nat.le_of_ble_eq_true rfl)⟩) hP hD hS hA [3, 1, 4] [0, 2] rfl rfl (by decide) (by decide) (fun H locs hP hD hS => ?_)
        have hP : va_P (dC, dI) vwCl [(qu, .inl (ku, 256, .inl (nF ub))), (qe, .inl (ke, 16, .inl (nF (dbN ub w (ldN hi lo) z t)))), (o, .inr (0, [.ref qs, .ref qu, .ref qw, .ref qb, .ref qe])), (qw, .inl (kw, 44, .inl w)), (qb, .inl (kb, 16, .inl (nF (akN w (10 - t) (drN ub w (ldN hi lo) t)))))] H := hP
        have hD : va_D A [(qu, .inl (ku, 256, .inl (nF ub))), (qe, .inl (ke, 16, .inl (nF (dbN ub w (ldN hi lo) z t)))), (o, .inr (0, [.ref qs, .ref qu, .ref qw, .ref qb, .ref qe])), (qw, .inl (kw, 44, .inl w)), (qb, .inl (kb, 16, .inl (nF (akN w (10 - t) (drN ub w (ldN hi lo) t)))))] := hD
        refine W.widen (k := 0) (n := 0) (Nat.le_of_ble_eq_true rfl) (Nat.le_of_ble_eq_true rfl) ?_
        refine w_pc (pc2 := 22) rfl ?_
        refine lv_iload hx hb dX0_decipher_22 (lv_at hl 0 rfl) ?_
        refine lv_bipush (v := nI 10) hx hb dX0_decipher_24 (by decide) ?_
        refine lv_icmp_ge (tgt := 33) hx hb dX0_decipher_26 (by decide) (fun hc_26 => ?_) (fun hc_26 => ?_)
        · skip
          have hc_26 := (ix_le (a := 10) (b := 10 - t) (by omega) (by omega)).mp hc_26
          have hc_26 : (10 ≤ (10 - t)) := hc_26
          refine lv_aload_n hx hb dX0_decipher_33 rfl (lv_at hl 1 rfl) ?_
          refine cf_0 (wr := [(qw, .inl (kw, 44, .inl w))]) (va_runV (As := []) (rest := []) ⟨hx, hb, hml, hown, hta⟩ (MO.to (c_unshift l dC dI o qs qu qw qb qe ku kb ke ub (akN w (10 - t) (drN ub w (ldN hi lo) t)) (dbN ub w (ldN hi lo) z t) (akN_lt (drN_lt u256 (ldN_lt hi lo) t))) H.size) (cwV 0 hta (aw_V mw_188 mw_185 mw_187 mw_s8 mw_2) rfl rfl rfl ⟨rfl, dyX0_unshiftAndUnsubst⟩ ⟨(Nat.le_of_ble_eq_true rfl), (Nat.le_of_ble_eq_true rfl)⟩) (pr_V hP hD hK hE [2, 0, 4, 1] [0, 2, 3] (by decide) rfl rfl rfl rfl) rfl rfl hl.1 rfl (lv_room (Nat.le_of_ble_eq_true rfl)) dX0_decipher_34 ⟨(Nat.le_of_ble_eq_true rfl), (Nat.le_of_ble_eq_true rfl)⟩) hP hD hS hA [2, 0, 4, 1] [3] rfl rfl (by decide) (by decide) (fun H locs hP hD hS => ?_)
          have hP : va_P (dC, dI) vwCl [(qw, .inl (kw, 44, .inl w)), (o, .inr (0, [.ref qs, .ref qu, .ref qw, .ref qb, .ref qe])), (qu, .inl (ku, 256, .inl (nF ub))), (qb, .inl (kb, 16, .inl (nF (usN ub (akN w (10 - t) (drN ub w (ldN hi lo) t)))))), (qe, .inl (ke, 16, .inl (nF (akN w (10 - t) (drN ub w (ldN hi lo) t)))))] H := hP
          have hD : va_D A [(qw, .inl (kw, 44, .inl w)), (o, .inr (0, [.ref qs, .ref qu, .ref qw, .ref qb, .ref qe])), (qu, .inl (ku, 256, .inl (nF ub))), (qb, .inl (kb, 16, .inl (nF (usN ub (akN w (10 - t) (drN ub w (ldN hi lo) t)))))), (qe, .inl (ke, 16, .inl (nF (akN w (10 - t) (drN ub w (ldN hi lo) t)))))] := hD
          refine W.widen (k := 0) (n := 0) (Nat.le_of_ble_eq_true rfl) (Nat.le_of_ble_eq_true rfl) ?_
          refine w_pc (pc2 := 37) rfl ?_
          refine lv_iinc (v := nI (10 - (t + 1))) (k := 0) hx hb dX0_decipher_37 hl rfl ((ix_dec (by omega)).trans (congrArg nI (by omega))) (by decide) rfl (fun ls hl => ?_)
          have hl : lv_has ls 6 [(5, .int (nI (10 - (t + 1)))), (0, .ref o)] := hl
          refine lv_goto (tgt := 10) hx hb dX0_decipher_40 (by decide) ?_
          obtain ⟨hP, hD⟩ := va_recb (g := drN ub w (ldN hi lo) (t + 1)) hP hD 3 rfl (fun i _ => by rw [drN, umN_e (by omega)])
          have hP : va_P (dC, dI) vwCl [(qw, .inl (kw, 44, .inl w)), (o, .inr (0, [.ref qs, .ref qu, .ref qw, .ref qb, .ref qe])), (qu, .inl (ku, 256, .inl (nF ub))), (qb, .inl (kb, 16, .inl (nF (drN ub w (ldN hi lo) (t + 1))))), (qe, .inl (ke, 16, .inl (nF (akN w (10 - t) (drN ub w (ldN hi lo) t)))))] H := hP
          have hD : va_D A [(qw, .inl (kw, 44, .inl w)), (o, .inr (0, [.ref qs, .ref qu, .ref qw, .ref qb, .ref qe])), (qu, .inl (ku, 256, .inl (nF ub))), (qb, .inl (kb, 16, .inl (nF (drN ub w (ldN hi lo) (t + 1))))), (qe, .inl (ke, 16, .inl (nF (akN w (10 - t) (drN ub w (ldN hi lo) t)))))] := hD
          obtain ⟨hP, hD⟩ := va_recb (g := dbN ub w (ldN hi lo) z (t + 1)) hP hD 4 rfl (fun i _ => by rw [dbN, umN_e (by omega)])
          have hP : va_P (dC, dI) vwCl [(qw, .inl (kw, 44, .inl w)), (o, .inr (0, [.ref qs, .ref qu, .ref qw, .ref qb, .ref qe])), (qu, .inl (ku, 256, .inl (nF ub))), (qb, .inl (kb, 16, .inl (nF (drN ub w (ldN hi lo) (t + 1))))), (qe, .inl (ke, 16, .inl (nF (dbN ub w (ldN hi lo) z (t + 1)))))] H := hP
          have hD : va_D A [(qw, .inl (kw, 44, .inl w)), (o, .inr (0, [.ref qs, .ref qu, .ref qw, .ref qb, .ref qe])), (qu, .inl (ku, 256, .inl (nF ub))), (qb, .inl (kb, 16, .inl (nF (drN ub w (ldN hi lo) (t + 1))))), (qe, .inl (ke, 16, .inl (nF (dbN ub w (ldN hi lo) z (t + 1)))))] := hD
          exact ih (t + 1) ls H locs (by omega)  (lv_sub hl [0, 1] rfl) (hP.sub [2, 0, 4, 1, 3] rfl) (hD.sub [2, 0, 4, 1, 3] (by decide) rfl) hS
        · skip
          have hc_26 := (not_congr (ix_le (a := 10) (b := 10 - t) (by omega) (by omega))).mp hc_26
          have hc_26 : ¬ (10 ≤ (10 - t)) := hc_26
          refine lv_aload_n hx hb dX0_decipher_29 rfl (lv_at hl 1 rfl) ?_
          refine cf_0 (wr := [(qu, .inl (ku, 256, .inl (nF ub))), (qe, .inl (ke, 16, .inl (nF (dbN ub w (ldN hi lo) z t)))), (qw, .inl (kw, 44, .inl w))]) (va_runV (As := []) (rest := []) ⟨hx, hb, hml, hown, hta⟩ (MO.to (c_unmix l dC dI o qs qu qw qb qe kb (akN w (10 - t) (drN ub w (ldN hi lo) t)) (akN_lt (drN_lt u256 (ldN_lt hi lo) t))) H.size) (cwV 0 hta (aw_V mw_184 mw_181 mw_183 mw_s7 mw_2) rfl rfl rfl ⟨rfl, dyX0_unmix⟩ ⟨(Nat.le_of_ble_eq_true rfl), (Nat.le_of_ble_eq_true rfl)⟩) (pr_V hP hD hK hE [2, 4] [2] (by decide) rfl rfl rfl rfl) rfl rfl hl.1 rfl (lv_room (Nat.le_of_ble_eq_true rfl)) dX0_decipher_30 ⟨(Nat.le_of_ble_eq_true rfl), (Nat.le_of_ble_eq_true rfl)⟩) hP hD hS hA [2, 4] [0, 1, 3] rfl rfl (by decide) (by decide) (fun H locs hP hD hS => ?_)
          have hP : va_P (dC, dI) vwCl [(qu, .inl (ku, 256, .inl (nF ub))), (qe, .inl (ke, 16, .inl (nF (dbN ub w (ldN hi lo) z t)))), (qw, .inl (kw, 44, .inl w)), (o, .inr (0, [.ref qs, .ref qu, .ref qw, .ref qb, .ref qe])), (qb, .inl (kb, 16, .inl (nF (mixN (mixN (mixN (akN w (10 - t) (drN ub w (ldN hi lo) t))))))))] H := hP
          have hD : va_D A [(qu, .inl (ku, 256, .inl (nF ub))), (qe, .inl (ke, 16, .inl (nF (dbN ub w (ldN hi lo) z t)))), (qw, .inl (kw, 44, .inl w)), (o, .inr (0, [.ref qs, .ref qu, .ref qw, .ref qb, .ref qe])), (qb, .inl (kb, 16, .inl (nF (mixN (mixN (mixN (akN w (10 - t) (drN ub w (ldN hi lo) t))))))))] := hD
          refine W.widen (k := 0) (n := 0) (Nat.le_of_ble_eq_true rfl) (Nat.le_of_ble_eq_true rfl) ?_
          refine w_pc (pc2 := 33) rfl ?_
          refine lv_aload_n hx hb dX0_decipher_33 rfl (lv_at hl 1 rfl) ?_
          refine cf_0 (wr := [(qw, .inl (kw, 44, .inl w))]) (va_runV (As := []) (rest := []) ⟨hx, hb, hml, hown, hta⟩ (MO.to (c_unshift l dC dI o qs qu qw qb qe ku kb ke ub (mixN (mixN (mixN (akN w (10 - t) (drN ub w (ldN hi lo) t))))) (dbN ub w (ldN hi lo) z t) (mixN_lt (mixN_lt (mixN_lt (akN_lt (drN_lt u256 (ldN_lt hi lo) t)))))) H.size) (cwV 0 hta (aw_V mw_188 mw_185 mw_187 mw_s8 mw_2) rfl rfl rfl ⟨rfl, dyX0_unshiftAndUnsubst⟩ ⟨(Nat.le_of_ble_eq_true rfl), (Nat.le_of_ble_eq_true rfl)⟩) (pr_V hP hD hK hE [3, 0, 4, 1] [0, 2, 3] (by decide) rfl rfl rfl rfl) rfl rfl hl.1 rfl (lv_room (Nat.le_of_ble_eq_true rfl)) dX0_decipher_34 ⟨(Nat.le_of_ble_eq_true rfl), (Nat.le_of_ble_eq_true rfl)⟩) hP hD hS hA [3, 0, 4, 1] [2] rfl rfl (by decide) (by decide) (fun H locs hP hD hS => ?_)
          have hP : va_P (dC, dI) vwCl [(qw, .inl (kw, 44, .inl w)), (o, .inr (0, [.ref qs, .ref qu, .ref qw, .ref qb, .ref qe])), (qu, .inl (ku, 256, .inl (nF ub))), (qb, .inl (kb, 16, .inl (nF (usN ub (mixN (mixN (mixN (akN w (10 - t) (drN ub w (ldN hi lo) t))))))))), (qe, .inl (ke, 16, .inl (nF (mixN (mixN (mixN (akN w (10 - t) (drN ub w (ldN hi lo) t))))))))] H := hP
          have hD : va_D A [(qw, .inl (kw, 44, .inl w)), (o, .inr (0, [.ref qs, .ref qu, .ref qw, .ref qb, .ref qe])), (qu, .inl (ku, 256, .inl (nF ub))), (qb, .inl (kb, 16, .inl (nF (usN ub (mixN (mixN (mixN (akN w (10 - t) (drN ub w (ldN hi lo) t))))))))), (qe, .inl (ke, 16, .inl (nF (mixN (mixN (mixN (akN w (10 - t) (drN ub w (ldN hi lo) t))))))))] := hD
          refine W.widen (k := 0) (n := 0) (Nat.le_of_ble_eq_true rfl) (Nat.le_of_ble_eq_true rfl) ?_
          refine w_pc (pc2 := 37) rfl ?_
          refine lv_iinc (v := nI (10 - (t + 1))) (k := 0) hx hb dX0_decipher_37 hl rfl ((ix_dec (by omega)).trans (congrArg nI (by omega))) (by decide) rfl (fun ls hl => ?_)
          have hl : lv_has ls 6 [(5, .int (nI (10 - (t + 1)))), (0, .ref o)] := hl
          refine lv_goto (tgt := 10) hx hb dX0_decipher_40 (by decide) ?_
          obtain ⟨hP, hD⟩ := va_recb (g := drN ub w (ldN hi lo) (t + 1)) hP hD 3 rfl (fun i _ => by rw [drN, umN_m (by omega)])
          have hP : va_P (dC, dI) vwCl [(qw, .inl (kw, 44, .inl w)), (o, .inr (0, [.ref qs, .ref qu, .ref qw, .ref qb, .ref qe])), (qu, .inl (ku, 256, .inl (nF ub))), (qb, .inl (kb, 16, .inl (nF (drN ub w (ldN hi lo) (t + 1))))), (qe, .inl (ke, 16, .inl (nF (mixN (mixN (mixN (akN w (10 - t) (drN ub w (ldN hi lo) t))))))))] H := hP
          have hD : va_D A [(qw, .inl (kw, 44, .inl w)), (o, .inr (0, [.ref qs, .ref qu, .ref qw, .ref qb, .ref qe])), (qu, .inl (ku, 256, .inl (nF ub))), (qb, .inl (kb, 16, .inl (nF (drN ub w (ldN hi lo) (t + 1))))), (qe, .inl (ke, 16, .inl (nF (mixN (mixN (mixN (akN w (10 - t) (drN ub w (ldN hi lo) t))))))))] := hD
          obtain ⟨hP, hD⟩ := va_recb (g := dbN ub w (ldN hi lo) z (t + 1)) hP hD 4 rfl (fun i _ => by rw [dbN, umN_m (by omega)])
          have hP : va_P (dC, dI) vwCl [(qw, .inl (kw, 44, .inl w)), (o, .inr (0, [.ref qs, .ref qu, .ref qw, .ref qb, .ref qe])), (qu, .inl (ku, 256, .inl (nF ub))), (qb, .inl (kb, 16, .inl (nF (drN ub w (ldN hi lo) (t + 1))))), (qe, .inl (ke, 16, .inl (nF (dbN ub w (ldN hi lo) z (t + 1)))))] H := hP
          have hD : va_D A [(qw, .inl (kw, 44, .inl w)), (o, .inr (0, [.ref qs, .ref qu, .ref qw, .ref qb, .ref qe])), (qu, .inl (ku, 256, .inl (nF ub))), (qb, .inl (kb, 16, .inl (nF (drN ub w (ldN hi lo) (t + 1))))), (qe, .inl (ke, 16, .inl (nF (dbN ub w (ldN hi lo) z (t + 1)))))] := hD
          exact ih (t + 1) ls H locs (by omega)  (lv_sub hl [0, 1] rfl) (hP.sub [2, 0, 4, 1, 3] rfl) (hD.sub [2, 0, 4, 1, 3] (by decide) rfl) hS
  exact loop_10 10 0 ls H locs (by omega)  (lv_sub hl [0, 1] rfl) hP hD hS

def rm_c_expand : Room := { frames := 1, cells := 0, slots := 0, locals := 21 }
set_option maxHeartbeats 4000000 in
set_option maxRecDepth 100000 in
/-- expand(hi, lo) -/
theorem c_expand (l : Launch) (dC : Nat → ClassId) (dI : Nat → Nat → Nat) (o : Nat) (qs : Nat) (qu : Nat) (qw : Nat) (qb : Nat) (qe : Nat) (ks : ClassId) (kw : ClassId) (sb : Nat → Nat) (w : Nat → Int32) (hi : Int64) (lo : Int64) : MO l dC dI yX0_expand wsX0_expand rm_c_expand [.ref o, .long hi, .long lo] [(o, .inr (0, [.ref qs, .ref qu, .ref qw, .ref qb, .ref qe])), (qs, .inl (ks, 256, .inl (nF sb))), (qw, .inl (kw, 44, .inl w))] [(ks, .int), (kw, .int)] [(o, .inr (0, [.ref qs, .ref qu, .ref qw, .ref qb, .ref qe])), (qs, .inl (ks, 256, .inl (nF sb))), (qw, .inl (kw, 44, .inl (kwN sb hi lo)))] none := by
  refine mo_ofW (cc := cX0_expand) (maxL := 8) (ret := none) (by decide) rfl (Nat.le_of_ble_eq_true rfl) ?_
  intro p e s m args below meth c Q A H locs ls hx hb hr hlk hml hta hown hin hE hQ hAe hA hK hP hD hS hl
  have hown : s.vm.findClass RX0 = some m.cls := hown
  have hl : lv_has ls 8 [(0, .ref o), (1, .long hi), (3, .long lo)] := hl
  refine lv_aload_n hx hb dX0_expand_0 rfl (lv_at hl 0 rfl) ?_
  refine va_get (D := (dC, dI)) (ci := 0) (v := .ref qw) (C := RX0) (T := TX0) (N := 5) hx hb hta inX0 hown hK hP 0 rfl rfl 2 (by decide) (hta _ mw_52) (fun _ h9 => h9) rfl dX0_expand_1 ?_
  refine lv_iconst (v := nI 0) hx hb dX0_expand_4 (by decide) ?_
  refine lv_lload_n hx hb dX0_expand_5 rfl (lv_at hl 1 rfl) ?_
  refine lv_bipush (v := nI 32) hx hb dX0_expand_6 (by decide) ?_
  refine lv_lushr hx hb dX0_expand_8 rfl (top_l (l_ushr _ (by decide)) ?_)
  refine lv_l2i hx hb dX0_expand_9 rfl (top_i (lN_i _) ?_)
  refine va_iasn hx hb hK hP hD hS 2 1 rfl rfl (by omega) (by decide) dX0_expand_10 (fun H locs hP hD hS => ?_)
  have hP : va_P (dC, dI) vwCl [(o, .inr (0, [.ref qs, .ref qu, .ref qw, .ref qb, .ref qe])), (qs, .inl (ks, 256, .inl (nF sb))), (qw, .inl (kw, 44, .inl (upd w 0 (nI (lW hi / 2 ^ 32)))))] H := hP
  have hD : va_D A [(o, .inr (0, [.ref qs, .ref qu, .ref qw, .ref qb, .ref qe])), (qs, .inl (ks, 256, .inl (nF sb))), (qw, .inl (kw, 44, .inl (upd w 0 (nI (lW hi / 2 ^ 32)))))] := hD
  refine lv_aload_n hx hb dX0_expand_11 rfl (lv_at hl 0 rfl) ?_
  refine va_get (D := (dC, dI)) (ci := 0) (v := .ref qw) (C := RX0) (T := TX0) (N := 5) hx hb hta inX0 hown hK hP 0 rfl rfl 2 (by decide) (hta _ mw_52) (fun _ h9 => h9) rfl dX0_expand_12 ?_
  refine lv_iconst (v := nI 1) hx hb dX0_expand_15 (by decide) ?_
  refine w_pc (pc2 := 16) rfl ?_
  refine lv_lload_n hx hb dX0_expand_16 rfl (lv_at hl 1 rfl) ?_
  refine lv_l2i hx hb dX0_expand_17 rfl (top_i (l_toI _) ?_)
  refine va_iasn hx hb hK hP hD hS 2 1 rfl rfl (by omega) (by decide) dX0_expand_18 (fun H locs hP hD hS => ?_)
  have hP : va_P (dC, dI) vwCl [(o, .inr (0, [.ref qs, .ref qu, .ref qw, .ref qb, .ref qe])), (qs, .inl (ks, 256, .inl (nF sb))), (qw, .inl (kw, 44, .inl (upd (upd w 0 (nI (lW hi / 2 ^ 32))) 1 (nI (lW hi)))))] H := hP
  have hD : va_D A [(o, .inr (0, [.ref qs, .ref qu, .ref qw, .ref qb, .ref qe])), (qs, .inl (ks, 256, .inl (nF sb))), (qw, .inl (kw, 44, .inl (upd (upd w 0 (nI (lW hi / 2 ^ 32))) 1 (nI (lW hi)))))] := hD
  refine lv_aload_n hx hb dX0_expand_19 rfl (lv_at hl 0 rfl) ?_
  refine va_get (D := (dC, dI)) (ci := 0) (v := .ref qw) (C := RX0) (T := TX0) (N := 5) hx hb hta inX0 hown hK hP 0 rfl rfl 2 (by decide) (hta _ mw_52) (fun _ h9 => h9) rfl dX0_expand_20 ?_
  refine lv_iconst (v := nI 2) hx hb dX0_expand_23 (by decide) ?_
  refine lv_lload_n hx hb dX0_expand_24 rfl (lv_at hl 2 rfl) ?_
  refine lv_bipush (v := nI 32) hx hb dX0_expand_25 (by decide) ?_
  refine lv_lushr hx hb dX0_expand_27 rfl (top_l (l_ushr _ (by decide)) ?_)
  refine lv_l2i hx hb dX0_expand_28 rfl (top_i (lN_i _) ?_)
  refine va_iasn hx hb hK hP hD hS 2 1 rfl rfl (by omega) (by decide) dX0_expand_29 (fun H locs hP hD hS => ?_)
  have hP : va_P (dC, dI) vwCl [(o, .inr (0, [.ref qs, .ref qu, .ref qw, .ref qb, .ref qe])), (qs, .inl (ks, 256, .inl (nF sb))), (qw, .inl (kw, 44, .inl (upd (upd (upd w 0 (nI (lW hi / 2 ^ 32))) 1 (nI (lW hi))) 2 (nI (lW lo / 2 ^ 32)))))] H := hP
  have hD : va_D A [(o, .inr (0, [.ref qs, .ref qu, .ref qw, .ref qb, .ref qe])), (qs, .inl (ks, 256, .inl (nF sb))), (qw, .inl (kw, 44, .inl (upd (upd (upd w 0 (nI (lW hi / 2 ^ 32))) 1 (nI (lW hi))) 2 (nI (lW lo / 2 ^ 32)))))] := hD
  refine lv_aload_n hx hb dX0_expand_30 rfl (lv_at hl 0 rfl) ?_
  refine w_pc (pc2 := 31) rfl ?_
  refine va_get (D := (dC, dI)) (ci := 0) (v := .ref qw) (C := RX0) (T := TX0) (N := 5) hx hb hta inX0 hown hK hP 0 rfl rfl 2 (by decide) (hta _ mw_52) (fun _ h9 => h9) rfl dX0_expand_31 ?_
  refine lv_iconst (v := nI 3) hx hb dX0_expand_34 (by decide) ?_
  refine lv_lload_n hx hb dX0_expand_35 rfl (lv_at hl 2 rfl) ?_
  refine lv_l2i hx hb dX0_expand_36 rfl (top_i (l_toI _) ?_)
  refine va_iasn hx hb hK hP hD hS 2 1 rfl rfl (by omega) (by decide) dX0_expand_37 (fun H locs hP hD hS => ?_)
  have hP : va_P (dC, dI) vwCl [(o, .inr (0, [.ref qs, .ref qu, .ref qw, .ref qb, .ref qe])), (qs, .inl (ks, 256, .inl (nF sb))), (qw, .inl (kw, 44, .inl (upd (upd (upd (upd w 0 (nI (lW hi / 2 ^ 32))) 1 (nI (lW hi))) 2 (nI (lW lo / 2 ^ 32))) 3 (nI (lW lo)))))] H := hP
  have hD : va_D A [(o, .inr (0, [.ref qs, .ref qu, .ref qw, .ref qb, .ref qe])), (qs, .inl (ks, 256, .inl (nF sb))), (qw, .inl (kw, 44, .inl (upd (upd (upd (upd w 0 (nI (lW hi / 2 ^ 32))) 1 (nI (lW hi))) 2 (nI (lW lo / 2 ^ 32))) 3 (nI (lW lo)))))] := hD
  refine lv_iconst (v := nI 1) hx hb dX0_expand_38 (by decide) ?_
  refine lv_istore hx hb dX0_expand_39 hl (by decide) rfl (fun ls hl => ?_)
  have hl : lv_has ls 8 [(5, .int (nI 1)), (0, .ref o), (1, .long hi), (3, .long lo)] := hl
  refine lv_iconst (v := nI 4) hx hb dX0_expand_41 (by decide) ?_
  refine lv_istore hx hb dX0_expand_42 hl (by decide) rfl (fun ls hl => ?_)
  have hl : lv_has ls 8 [(6, .int (nI 4)), (5, .int (nI 1)), (0, .ref o), (1, .long hi), (3, .long lo)] := hl
  obtain ⟨hP, hD⟩ := va_rec (g := ksN sb (kw0 hi lo w) 0) hP hD 2 rfl (fun i _ => rfl)
  have hP : va_P (dC, dI) vwCl [(o, .inr (0, [.ref qs, .ref qu, .ref qw, .ref qb, .ref qe])), (qs, .inl (ks, 256, .inl (nF sb))), (qw, .inl (kw, 44, .inl (ksN sb (kw0 hi lo w) 0)))] H := hP
  have hD : va_D A [(o, .inr (0, [.ref qs, .ref qu, .ref qw, .ref qb, .ref qe])), (qs, .inl (ks, 256, .inl (nF sb))), (qw, .inl (kw, 44, .inl (ksN sb (kw0 hi lo w) 0)))] := hD
  have loop_44 : ∀ (n k : Nat) (ls : Array Slot) (H : Heap) (locs : List Loc), k + n = 40 → lv_has ls 8 [(5, .int (nI (rcN ((k + 3) / 4)))), (6, .int (nI (k + 4))), (0, .ref o)] → va_P (dC, dI) vwCl [(o, .inr (0, [.ref qs, .ref qu, .ref qw, .ref qb, .ref qe])), (qs, .inl (ks, 256, .inl (nF sb))), (qw, .inl (kw, 44, .inl (ksN sb (kw0 hi lo w) k)))] H → va_D A [(o, .inr (0, [.ref qs, .ref qu, .ref qw, .ref qb, .ref qe])), (qs, .inl (ks, 256, .inl (nF sb))), (qw, .inl (kw, 44, .inl (ksN sb (kw0 hi lo w) k)))] → va_S A s.heap H locs → W p l e rm_c_expand s m args below meth c H locs 0 0 Q (F0 m 44 ls []) := by
    intro n
    induction n with
    | zero =>
      intro k ls H locs hn_44  hl hP hD hS
      obtain rfl : 40 = k := by omega
      obtain ⟨hP, hD⟩ := va_rec (g := kwN sb hi lo) hP hD 2 rfl (fun i hi9 => kw_eq sb hi lo w i hi9)
      have hP : va_P (dC, dI) vwCl [(o, .inr (0, [.ref qs, .ref qu, .ref qw, .ref qb, .ref qe])), (qs, .inl (ks, 256, .inl (nF sb))), (qw, .inl (kw, 44, .inl (kwN sb hi lo)))] H := hP
      have hD : va_D A [(o, .inr (0, [.ref qs, .ref qu, .ref qw, .ref qb, .ref qe])), (qs, .inl (ks, 256, .inl (nF sb))), (qw, .inl (kw, 44, .inl (kwN sb hi lo)))] := hD
      refine lv_iload hx hb dX0_expand_44 (lv_at hl 1 rfl) ?_
      refine lv_bipush (v := nI 44) hx hb dX0_expand_46 (by decide) ?_
      refine lv_icmp_ge (tgt := 120) hx hb dX0_expand_48 (by decide) (fun hc_48 => ?_) (fun hc_48 => ?_)
      · skip
        have hc_48 := (ix_le (a := 44) (b := 40 + 4) (by omega) (by omega)).mp hc_48
        have hc_48 : (44 ≤ (40 + 4)) := hc_48
        exact rt_0 hx hb hr hlk hQ hAe hP hD hS [0, 1, 2] (by decide) rfl (Nat.le_of_ble_eq_true rfl) (Nat.le_of_ble_eq_true rfl) dX0_expand_120
      · skip
        have hc_48 := (not_congr (ix_le (a := 44) (b := 40 + 4) (by omega) (by omega))).mp hc_48
        have hc_48 : ¬ (44 ≤ (40 + 4)) := hc_48
        exfalso; omega
    | succ n ih =>
      intro k ls H locs hn_44  hl hP hD hS
      refine lv_iload hx hb dX0_expand_44 (lv_at hl 1 rfl) ?_
      refine lv_bipush (v := nI 44) hx hb dX0_expand_46 (by decide) ?_
      refine lv_icmp_ge (tgt := 120) hx hb dX0_expand_48 (by decide) (fun hc_48 => ?_) (fun hc_48 => ?_)
      · skip
        have hc_48 := (ix_le (a := 44) (b := k + 4) (by omega) (by omega)).mp hc_48
        have hc_48 : (44 ≤ (k + 4)) := hc_48
        exfalso; omega
      · skip
        have hc_48 := (not_congr (ix_le (a := 44) (b := k + 4) (by omega) (by omega))).mp hc_48
        have hc_48 : ¬ (44 ≤ (k + 4)) := hc_48
        refine lv_aload_n hx hb dX0_expand_51 rfl (lv_at hl 2 rfl) ?_
        refine va_get (D := (dC, dI)) (ci := 0) (v := .ref qw) (C := RX0) (T := TX0) (N := 5) hx hb hta inX0 hown hK hP 0 rfl rfl 2 (by decide) (hta _ mw_52) (fun _ h9 => h9) rfl dX0_expand_52 ?_
        refine lv_iload hx hb dX0_expand_55 (lv_at hl 1 rfl) ?_
        refine lv_iconst (v := nI 1) hx hb dX0_expand_57 (by decide) ?_
        refine lv_isub hx hb dX0_expand_58 (top_i (pk_sub (by omega)) ?_)
        refine va_ialn hx hb hK hP 2 1 rfl rfl (by omega) (by decide) dX0_expand_59 ?_
        refine lv_istore hx hb dX0_expand_60 hl (by decide) rfl (fun ls hl => ?_)
        have hl : lv_has ls 8 [(7, .int ((ksN sb (kw0 hi lo w) k) ((k + 4) - 1))), (5, .int (nI (rcN ((k + 3) / 4)))), (6, .int (nI (k + 4))), (0, .ref o)] := hl
        refine lv_iload hx hb dX0_expand_62 (lv_at hl 2 rfl) ?_
        refine lv_iconst (v := nI 4) hx hb dX0_expand_64 (by decide) ?_
        refine lv_irem hx hb dX0_expand_65 (by decide) (top_i (pk_rem (by omega) (by decide) (by decide)) ?_)
        refine lv_if_ne (tgt := 95) hx hb dX0_expand_66 (by decide) (fun hc_66 => ?_) (fun hc_66 => ?_)
        · skip
          have hc_66 := (not_congr (ix_eq (a := (k + 4) % 4) (b := 0) (by omega) (by omega))).mp hc_66
          have hc_66 : ¬ (((k + 4) % 4) = 0) := hc_66
          refine lv_aload_n hx hb dX0_expand_95 rfl (lv_at hl 3 rfl) ?_
          refine va_get (D := (dC, dI)) (ci := 0) (v := .ref qw) (C := RX0) (T := TX0) (N := 5) hx hb hta inX0 hown hK hP 0 rfl rfl 2 (by decide) (hta _ mw_52) (fun _ h9 => h9) rfl dX0_expand_96 ?_
          refine lv_iload hx hb dX0_expand_99 (lv_at hl 2 rfl) ?_
          refine lv_aload_n hx hb dX0_expand_101 rfl (lv_at hl 3 rfl) ?_
          refine va_get (D := (dC, dI)) (ci := 0) (v := .ref qw) (C := RX0) (T := TX0) (N := 5) hx hb hta inX0 hown hK hP 0 rfl rfl 2 (by decide) (hta _ mw_52) (fun _ h9 => h9) rfl dX0_expand_102 ?_
          refine lv_iload hx hb dX0_expand_105 (lv_at hl 2 rfl) ?_
          refine lv_iconst (v := nI 4) hx hb dX0_expand_107 (by decide) ?_
          refine lv_isub hx hb dX0_expand_108 (top_i (pk_sub (by omega)) ?_)
          refine va_ialn hx hb hK hP 2 1 rfl rfl (by omega) (by decide) dX0_expand_109 ?_
          refine lv_iload hx hb dX0_expand_110 (lv_at hl 0 rfl) ?_
          refine lv_ixor hx hb dX0_expand_112 ?_
          refine w_pc (pc2 := 113) rfl ?_
          refine va_iasn hx hb hK hP hD hS 2 1 rfl rfl (by omega) (by decide) dX0_expand_113 (fun H locs hP hD hS => ?_)
          have hP : va_P (dC, dI) vwCl [(o, .inr (0, [.ref qs, .ref qu, .ref qw, .ref qb, .ref qe])), (qs, .inl (ks, 256, .inl (nF sb))), (qw, .inl (kw, 44, .inl (upd (ksN sb (kw0 hi lo w) k) (k + 4) (((ksN sb (kw0 hi lo w) k) ((k + 4) - 4)) ^^^ ((ksN sb (kw0 hi lo w) k) ((k + 4) - 1))))))] H := hP
          have hD : va_D A [(o, .inr (0, [.ref qs, .ref qu, .ref qw, .ref qb, .ref qe])), (qs, .inl (ks, 256, .inl (nF sb))), (qw, .inl (kw, 44, .inl (upd (ksN sb (kw0 hi lo w) k) (k + 4) (((ksN sb (kw0 hi lo w) k) ((k + 4) - 4)) ^^^ ((ksN sb (kw0 hi lo w) k) ((k + 4) - 1))))))] := hD
          refine lv_iinc (v := nI ((k + 1) + 4)) (k := 2) hx hb dX0_expand_114 hl rfl ((ix_inc _ 1).trans (congrArg nI (by omega))) (by decide) rfl (fun ls hl => ?_)
          have hl : lv_has ls 8 [(6, .int (nI ((k + 1) + 4))), (7, .int ((ksN sb (kw0 hi lo w) k) ((k + 4) - 1))), (5, .int (nI (rcN ((k + 3) / 4)))), (0, .ref o)] := hl
          refine lv_goto (tgt := 44) hx hb dX0_expand_117 (by decide) ?_
          obtain ⟨hP, hD⟩ := va_rec (g := ksN sb (kw0 hi lo w) (k + 1)) hP hD 2 rfl (fun i _ => ksN_e (by omega) i)
          have hP : va_P (dC, dI) vwCl [(o, .inr (0, [.ref qs, .ref qu, .ref qw, .ref qb, .ref qe])), (qs, .inl (ks, 256, .inl (nF sb))), (qw, .inl (kw, 44, .inl (ksN sb (kw0 hi lo w) (k + 1))))] H := hP
          have hD : va_D A [(o, .inr (0, [.ref qs, .ref qu, .ref qw, .ref qb, .ref qe])), (qs, .inl (ks, 256, .inl (nF sb))), (qw, .inl (kw, 44, .inl (ksN sb (kw0 hi lo w) (k + 1))))] := hD
          have hl := lv_re hl 2 rfl (v2 := .int (nI (rcN (((k + 1) + 3) / 4)))) (congrArg Value.int (congrArg nI (rcN_e (by omega)))) rfl
          have hl : lv_has ls 8 [(6, .int (nI ((k + 1) + 4))), (7, .int ((ksN sb (kw0 hi lo w) k) ((k + 4) - 1))), (5, .int (nI (rcN (((k + 1) + 3) / 4)))), (0, .ref o)] := hl
          exact ih (k + 1) ls H locs (by omega)  (lv_sub hl [2, 0, 3] rfl) hP hD hS
        · skip
          have hc_66 := (ix_eq (a := (k + 4) % 4) (b := 0) (by omega) (by omega)).mp hc_66
          have hc_66 : (((k + 4) % 4) = 0) := hc_66
          refine lv_aload_n hx hb dX0_expand_69 rfl (lv_at hl 3 rfl) ?_
          refine lv_iload hx hb dX0_expand_70 (lv_at hl 0 rfl) ?_
          refine lv_bipush (v := nI 8) hx hb dX0_expand_72 (by decide) ?_
          refine cf_1 (wr := [(o, .inr (0, [.ref qs, .ref qu, .ref qw, .ref qb, .ref qe])), (qs, .inl (ks, 256, .inl (nF sb))), (qw, .inl (kw, 44, .inl (ksN sb (kw0 hi lo w) k)))]) (va_runS (As := [.int ((ksN sb (kw0 hi lo w) k) ((k + 4) - 1)), .int (nI 8)]) (rest := [.ref o]) ⟨hx, hb, hml, hown, hta⟩ (MO.to (c_rot l dC dI ((ksN sb (kw0 hi lo w) k) ((k + 4) - 1))) H.size) (va_cwS 2 hta (aw_S mw_45 mw_43 mw_44 mw_3) rfl rfl rfl dyJ_rotateLeft ⟨(Nat.le_of_ble_eq_true rfl), (Nat.le_of_ble_eq_true rfl)⟩) (pr_S hP hD hK hE [] [] (by decide) rfl rfl) rfl rfl hl.1 rfl (lv_room (Nat.le_of_ble_eq_true rfl)) dX0_expand_74 ⟨(Nat.le_of_ble_eq_true rfl), (Nat.le_of_ble_eq_true rfl)⟩) hP hD hS hA [] [0, 1, 2] rfl rfl (by decide) (by decide) (fun H locs hP hD hS => ?_)
          have hP : va_P (dC, dI) vwCl [(o, .inr (0, [.ref qs, .ref qu, .ref qw, .ref qb, .ref qe])), (qs, .inl (ks, 256, .inl (nF sb))), (qw, .inl (kw, 44, .inl (ksN sb (kw0 hi lo w) k)))] H := hP
          have hD : va_D A [(o, .inr (0, [.ref qs, .ref qu, .ref qw, .ref qb, .ref qe])), (qs, .inl (ks, 256, .inl (nF sb))), (qw, .inl (kw, 44, .inl (ksN sb (kw0 hi lo w) k)))] := hD
          refine W.widen (k := 0) (n := 0) (Nat.le_of_ble_eq_true rfl) (Nat.le_of_ble_eq_true rfl) ?_
          refine w_pc (pc2 := 77) rfl ?_
          refine cf_1 (wr := [(qw, .inl (kw, 44, .inl (ksN sb (kw0 hi lo w) k)))]) (va_runV (As := [.int (rl8 ((ksN sb (kw0 hi lo w) k) ((k + 4) - 1)))]) (rest := []) ⟨hx, hb, hml, hown, hta⟩ (MO.to (c_substWord l dC dI o qs qu qw qb qe ks sb (rl8 ((ksN sb (kw0 hi lo w) k) ((k + 4) - 1)))) H.size) (cwV 1 hta (aw_V mw_49 mw_46 mw_48 mw_s2 mw_2) rfl rfl rfl ⟨rfl, dyX0_substWord⟩ ⟨(Nat.le_of_ble_eq_true rfl), (Nat.le_of_ble_eq_true rfl)⟩) (pr_V hP hD hK hE [0, 1] [0] (by decide) rfl rfl rfl rfl) rfl rfl hl.1 rfl (lv_room (Nat.le_of_ble_eq_true rfl)) dX0_expand_77 ⟨(Nat.le_of_ble_eq_true rfl), (Nat.le_of_ble_eq_true rfl)⟩) hP hD hS hA [0, 1] [2] rfl rfl (by decide) (by decide) (fun H locs hP hD hS => ?_)
          have hP : va_P (dC, dI) vwCl [(qw, .inl (kw, 44, .inl (ksN sb (kw0 hi lo w) k))), (o, .inr (0, [.ref qs, .ref qu, .ref qw, .ref qb, .ref qe])), (qs, .inl (ks, 256, .inl (nF sb)))] H := hP
          have hD : va_D A [(qw, .inl (kw, 44, .inl (ksN sb (kw0 hi lo w) k))), (o, .inr (0, [.ref qs, .ref qu, .ref qw, .ref qb, .ref qe])), (qs, .inl (ks, 256, .inl (nF sb)))] := hD
          refine W.widen (k := 0) (n := 0) (Nat.le_of_ble_eq_true rfl) (Nat.le_of_ble_eq_true rfl) ?_
          refine w_pc (pc2 := 80) rfl ?_
          refine lv_iload hx hb dX0_expand_80 (lv_at hl 1 rfl) ?_
          refine lv_bipush (v := nI 24) hx hb dX0_expand_82 (by decide) ?_
          refine lv_ishl hx hb dX0_expand_84 (top_i (n_shl _ (by decide)) ?_)
          refine lv_ixor hx hb dX0_expand_85 (top_i (n_xor _ _) ?_)
          refine lv_istore hx hb dX0_expand_86 hl (by decide) rfl (fun ls hl => ?_)
          have hl : lv_has ls 8 [(7, .int (nI ((swN sb (rl8 ((ksN sb (kw0 hi lo w) k) ((k + 4) - 1)))) ^^^ ((rcN ((k + 3) / 4)) * 2 ^ 24)))), (5, .int (nI (rcN ((k + 3) / 4)))), (6, .int (nI (k + 4))), (0, .ref o)] := hl
          refine lv_iload hx hb dX0_expand_88 (lv_at hl 1 rfl) ?_
          refine cf_1 (wr := [(qw, .inl (kw, 44, .inl (ksN sb (kw0 hi lo w) k))), (o, .inr (0, [.ref qs, .ref qu, .ref qw, .ref qb, .ref qe])), (qs, .inl (ks, 256, .inl (nF sb)))]) (va_runS (As := [.int (nI (rcN ((k + 3) / 4)))]) (rest := []) ⟨hx, hb, hml, hown, hta⟩ (MO.to (c_twice l dC dI (rcN ((k + 3) / 4)) (rcN_lt _)) H.size) (va_cwS 1 hta (aw_S mw_34 mw_32 mw_33 mw_2) rfl rfl rfl dyX0_twice ⟨(Nat.le_of_ble_eq_true rfl), (Nat.le_of_ble_eq_true rfl)⟩) (pr_S hP hD hK hE [] [] (by decide) rfl rfl) rfl rfl hl.1 rfl (lv_room (Nat.le_of_ble_eq_true rfl)) dX0_expand_90 ⟨(Nat.le_of_ble_eq_true rfl), (Nat.le_of_ble_eq_true rfl)⟩) hP hD hS hA [] [0, 1, 2] rfl rfl (by decide) (by decide) (fun H locs hP hD hS => ?_)
          have hP : va_P (dC, dI) vwCl [(qw, .inl (kw, 44, .inl (ksN sb (kw0 hi lo w) k))), (o, .inr (0, [.ref qs, .ref qu, .ref qw, .ref qb, .ref qe])), (qs, .inl (ks, 256, .inl (nF sb)))] H := hP
          have hD : va_D A [(qw, .inl (kw, 44, .inl (ksN sb (kw0 hi lo w) k))), (o, .inr (0, [.ref qs, .ref qu, .ref qw, .ref qb, .ref qe])), (qs, .inl (ks, 256, .inl (nF sb)))] := hD
          refine W.widen (k := 0) (n := 0) (Nat.le_of_ble_eq_true rfl) (Nat.le_of_ble_eq_true rfl) ?_
          refine w_pc (pc2 := 93) rfl ?_
          refine lv_istore hx hb dX0_expand_93 hl (by decide) rfl (fun ls hl => ?_)
          have hl : lv_has ls 8 [(5, .int (nI (tw (rcN ((k + 3) / 4))))), (7, .int (nI ((swN sb (rl8 ((ksN sb (kw0 hi lo w) k) ((k + 4) - 1)))) ^^^ ((rcN ((k + 3) / 4)) * 2 ^ 24)))), (6, .int (nI (k + 4))), (0, .ref o)] := hl
          refine lv_aload_n hx hb dX0_expand_95 rfl (lv_at hl 3 rfl) ?_
          refine va_get (D := (dC, dI)) (ci := 0) (v := .ref qw) (C := RX0) (T := TX0) (N := 5) hx hb hta inX0 hown hK hP 1 rfl rfl 2 (by decide) (hta _ mw_52) (fun _ h9 => h9) rfl dX0_expand_96 ?_
          refine lv_iload hx hb dX0_expand_99 (lv_at hl 2 rfl) ?_
          refine lv_aload_n hx hb dX0_expand_101 rfl (lv_at hl 3 rfl) ?_
          refine va_get (D := (dC, dI)) (ci := 0) (v := .ref qw) (C := RX0) (T := TX0) (N := 5) hx hb hta inX0 hown hK hP 1 rfl rfl 2 (by decide) (hta _ mw_52) (fun _ h9 => h9) rfl dX0_expand_102 ?_
          refine lv_iload hx hb dX0_expand_105 (lv_at hl 2 rfl) ?_
          refine lv_iconst (v := nI 4) hx hb dX0_expand_107 (by decide) ?_
          refine lv_isub hx hb dX0_expand_108 (top_i (pk_sub (by omega)) ?_)
          refine va_ialn hx hb hK hP 0 1 rfl rfl (by omega) (by decide) dX0_expand_109 ?_
          refine lv_iload hx hb dX0_expand_110 (lv_at hl 1 rfl) ?_
          refine lv_ixor hx hb dX0_expand_112 ?_
          refine w_pc (pc2 := 113) rfl ?_
          refine va_iasn hx hb hK hP hD hS 0 1 rfl rfl (by omega) (by decide) dX0_expand_113 (fun H locs hP hD hS => ?_)
          have hP : va_P (dC, dI) vwCl [(qw, .inl (kw, 44, .inl (upd (ksN sb (kw0 hi lo w) k) (k + 4) (((ksN sb (kw0 hi lo w) k) ((k + 4) - 4)) ^^^ (nI ((swN sb (rl8 ((ksN sb (kw0 hi lo w) k) ((k + 4) - 1)))) ^^^ ((rcN ((k + 3) / 4)) * 2 ^ 24))))))), (o, .inr (0, [.ref qs, .ref qu, .ref qw, .ref qb, .ref qe])), (qs, .inl (ks, 256, .inl (nF sb)))] H := hP
          have hD : va_D A [(qw, .inl (kw, 44, .inl (upd (ksN sb (kw0 hi lo w) k) (k + 4) (((ksN sb (kw0 hi lo w) k) ((k + 4) - 4)) ^^^ (nI ((swN sb (rl8 ((ksN sb (kw0 hi lo w) k) ((k + 4) - 1)))) ^^^ ((rcN ((k + 3) / 4)) * 2 ^ 24))))))), (o, .inr (0, [.ref qs, .ref qu, .ref qw, .ref qb, .ref qe])), (qs, .inl (ks, 256, .inl (nF sb)))] := hD
          refine lv_iinc (v := nI ((k + 1) + 4)) (k := 2) hx hb dX0_expand_114 hl rfl ((ix_inc _ 1).trans (congrArg nI (by omega))) (by decide) rfl (fun ls hl => ?_)
          have hl : lv_has ls 8 [(6, .int (nI ((k + 1) + 4))), (5, .int (nI (tw (rcN ((k + 3) / 4))))), (7, .int (nI ((swN sb (rl8 ((ksN sb (kw0 hi lo w) k) ((k + 4) - 1)))) ^^^ ((rcN ((k + 3) / 4)) * 2 ^ 24)))), (0, .ref o)] := hl
          refine lv_goto (tgt := 44) hx hb dX0_expand_117 (by decide) ?_
          obtain ⟨hP, hD⟩ := va_rec (g := ksN sb (kw0 hi lo w) (k + 1)) hP hD 0 rfl (fun i _ => ksN_m (by omega) i)
          have hP : va_P (dC, dI) vwCl [(qw, .inl (kw, 44, .inl (ksN sb (kw0 hi lo w) (k + 1)))), (o, .inr (0, [.ref qs, .ref qu, .ref qw, .ref qb, .ref qe])), (qs, .inl (ks, 256, .inl (nF sb)))] H := hP
          have hD : va_D A [(qw, .inl (kw, 44, .inl (ksN sb (kw0 hi lo w) (k + 1)))), (o, .inr (0, [.ref qs, .ref qu, .ref qw, .ref qb, .ref qe])), (qs, .inl (ks, 256, .inl (nF sb)))] := hD
          have hl := lv_re hl 1 rfl (v2 := .int (nI (rcN (((k + 1) + 3) / 4)))) (congrArg Value.int (congrArg nI (rcN_s (by omega)))) rfl
          have hl : lv_has ls 8 [(6, .int (nI ((k + 1) + 4))), (5, .int (nI (rcN (((k + 1) + 3) / 4)))), (7, .int (nI ((swN sb (rl8 ((ksN sb (kw0 hi lo w) k) ((k + 4) - 1)))) ^^^ ((rcN ((k + 3) / 4)) * 2 ^ 24)))), (0, .ref o)] := hl
          exact ih (k + 1) ls H locs (by omega)  (lv_sub hl [1, 0, 3] rfl) (hP.sub [1, 2, 0] rfl) (hD.sub [1, 2, 0] (by decide) rfl) hS
  exact loop_44 40 0 ls H locs (by omega)  (lv_sub hl [1, 0, 2] rfl) hP hD hS

def rm_c_enterSubst : Room := { frames := 0, cells := 0, slots := 0, locals := 0 }
set_option maxHeartbeats 4000000 in
set_option maxRecDepth 100000 in
/-- enterSubst(x, v) -/
theorem c_enterSubst (l : Launch) (dC : Nat → ClassId) (dI : Nat → Nat → Nat) (o : Nat) (qs : Nat) (qu : Nat) (qw : Nat) (qb : Nat) (qe : Nat) (ks : ClassId) (ku : ClassId) (f : Nat → Nat) (g : Nat → Nat) (x : Nat) (v : Nat) (hx9 : x < 256) (hv9 : v < 256) : MO l dC dI yX0_enterSubst wsX0_enterSubst rm_c_enterSubst [.ref o, .int (nI x), .int (nI v)] [(o, .inr (0, [.ref qs, .ref qu, .ref qw, .ref qb, .ref qe])), (qs, .inl (ks, 256, .inl (nF f))), (qu, .inl (ku, 256, .inl (nF g)))] [(ks, .int), (ku, .int)] [(o, .inr (0, [.ref qs, .ref qu, .ref qw, .ref qb, .ref qe])), (qs, .inl (ks, 256, .inl (nF (un f x (afN v))))), (qu, .inl (ku, 256, .inl (nF (un g (afN v) x))))] none := by
  refine mo_ofW (cc := cX0_enterSubst) (maxL := 5) (ret := none) (by decide) rfl (Nat.le_of_ble_eq_true rfl) ?_
  intro p e s m args below meth c Q A H locs ls hx hb hr hlk hml hta hown hin hE hQ hAe hA hK hP hD hS hl
  have hown : s.vm.findClass RX0 = some m.cls := hown
  have hl : lv_has ls 5 [(0, .ref o), (1, .int (nI x)), (2, .int (nI v))] := hl
  refine lv_iload_n hx hb dX0_enterSubst_0 rfl (lv_at hl 2 rfl) ?_
  refine lv_iload_n hx hb dX0_enterSubst_1 rfl (lv_at hl 2 rfl) ?_
  refine lv_bipush (v := nI 8) hx hb dX0_enterSubst_2 (by decide) ?_
  refine lv_ishl hx hb dX0_enterSubst_4 (top_i (n_shl _ (by decide)) ?_)
  refine lv_ior hx hb dX0_enterSubst_5 ?_
  refine top_i (y := nI (ccN v)) (n_or _ _) ?_
  refine lv_istore_n hx hb dX0_enterSubst_6 rfl hl (by decide) rfl (fun ls hl => ?_)
  have hl : lv_has ls 5 [(3, .int (nI (ccN v))), (0, .ref o), (1, .int (nI x)), (2, .int (nI v))] := hl
  refine lv_iload_n hx hb dX0_enterSubst_7 rfl (lv_at hl 0 rfl) ?_
  refine lv_iload_n hx hb dX0_enterSubst_8 rfl (lv_at hl 0 rfl) ?_
  refine lv_iconst (v := nI 4) hx hb dX0_enterSubst_9 (by decide) ?_
  refine lv_iushr hx hb dX0_enterSubst_10 rfl (top_i (n_ushr (ccN_lt hv9) (by decide)) ?_)
  refine lv_ixor hx hb dX0_enterSubst_11 (top_i (n_xor _ _) ?_)
  refine w_pc (pc2 := 12) rfl ?_
  refine lv_iload_n hx hb dX0_enterSubst_12 rfl (lv_at hl 0 rfl) ?_
  refine lv_iconst (v := nI 5) hx hb dX0_enterSubst_13 (by decide) ?_
  refine lv_iushr hx hb dX0_enterSubst_14 rfl (top_i (n_ushr (ccN_lt hv9) (by decide)) ?_)
  refine lv_ixor hx hb dX0_enterSubst_15 (top_i (n_xor _ _) ?_)
  refine lv_iload_n hx hb dX0_enterSubst_16 rfl (lv_at hl 0 rfl) ?_
  refine lv_bipush (v := nI 6) hx hb dX0_enterSubst_17 (by decide) ?_
  refine lv_iushr hx hb dX0_enterSubst_19 rfl (top_i (n_ushr (ccN_lt hv9) (by decide)) ?_)
  refine lv_ixor hx hb dX0_enterSubst_20 (top_i (n_xor _ _) ?_)
  refine lv_iload_n hx hb dX0_enterSubst_21 rfl (lv_at hl 0 rfl) ?_
  refine lv_bipush (v := nI 7) hx hb dX0_enterSubst_22 (by decide) ?_
  refine lv_iushr hx hb dX0_enterSubst_24 rfl (top_i (n_ushr (ccN_lt hv9) (by decide)) ?_)
  refine lv_ixor hx hb dX0_enterSubst_25 (top_i (n_xor _ _) ?_)
  refine w_pc (pc2 := 26) rfl ?_
  refine lv_bipush (v := nI 99) hx hb dX0_enterSubst_26 (by decide) ?_
  refine lv_ixor hx hb dX0_enterSubst_28 (top_i (n_xor _ _) ?_)
  refine lv_sipush (v := nI 255) hx hb dX0_enterSubst_29 (by decide) ?_
  refine lv_iand hx hb dX0_enterSubst_32 ?_
  refine top_i (y := nI (afN v)) (n_m255 _) ?_
  refine lv_istore hx hb dX0_enterSubst_33 hl (by decide) rfl (fun ls hl => ?_)
  have hl : lv_has ls 5 [(4, .int (nI (afN v))), (3, .int (nI (ccN v))), (0, .ref o), (1, .int (nI x)), (2, .int (nI v))] := hl
  refine lv_aload_n hx hb dX0_enterSubst_35 rfl (lv_at hl 2 rfl) ?_
  refine va_get (D := (dC, dI)) (ci := 0) (v := .ref qs) (C := RX0) (T := TX0) (N := 5) hx hb hta inX0 hown hK hP 0 rfl rfl 0 (by decide) (hta _ mw_50) (fun _ h9 => h9) rfl dX0_enterSubst_36 ?_
  refine lv_iload_n hx hb dX0_enterSubst_39 rfl (lv_at hl 3 rfl) ?_
  refine lv_iload hx hb dX0_enterSubst_40 (lv_at hl 0 rfl) ?_
  refine va_iasb hx hb hK hP hD hS 1 0 rfl rfl (by omega) (by decide) dX0_enterSubst_42 (fun H locs hP hD hS => ?_)
  have hP : va_P (dC, dI) vwCl [(o, .inr (0, [.ref qs, .ref qu, .ref qw, .ref qb, .ref qe])), (qs, .inl (ks, 256, .inl (nF (un f x (afN v))))), (qu, .inl (ku, 256, .inl (nF g)))] H := hP
  have hD : va_D A [(o, .inr (0, [.ref qs, .ref qu, .ref qw, .ref qb, .ref qe])), (qs, .inl (ks, 256, .inl (nF (un f x (afN v))))), (qu, .inl (ku, 256, .inl (nF g)))] := hD
  refine lv_aload_n hx hb dX0_enterSubst_43 rfl (lv_at hl 2 rfl) ?_
  refine va_get (D := (dC, dI)) (ci := 0) (v := .ref qu) (C := RX0) (T := TX0) (N := 5) hx hb hta inX0 hown hK hP 0 rfl rfl 1 (by decide) (hta _ mw_51) (fun _ h9 => h9) rfl dX0_enterSubst_44 ?_
  refine w_pc (pc2 := 47) rfl ?_
  refine lv_iload hx hb dX0_enterSubst_47 (lv_at hl 0 rfl) ?_
  refine lv_iload_n hx hb dX0_enterSubst_49 rfl (lv_at hl 3 rfl) ?_
  refine va_iasb hx hb hK hP hD hS 2 1 rfl rfl (afN_lt _) (by decide) dX0_enterSubst_50 (fun H locs hP hD hS => ?_)
  have hP : va_P (dC, dI) vwCl [(o, .inr (0, [.ref qs, .ref qu, .ref qw, .ref qb, .ref qe])), (qs, .inl (ks, 256, .inl (nF (un f x (afN v))))), (qu, .inl (ku, 256, .inl (nF (un g (afN v) x))))] H := hP
  have hD : va_D A [(o, .inr (0, [.ref qs, .ref qu, .ref qw, .ref qb, .ref qe])), (qs, .inl (ks, 256, .inl (nF (un f x (afN v))))), (qu, .inl (ku, 256, .inl (nF (un g (afN v) x))))] := hD
  exact rt_0 hx hb hr hlk hQ hAe hP hD hS [0, 1, 2] (by decide) rfl (Nat.le_of_ble_eq_true rfl) (Nat.le_of_ble_eq_true rfl) dX0_enterSubst_51

def rm_c_fillSubst : Room := { frames := 1, cells := 1, slots := 255, locals := 24 }
set_option maxHeartbeats 4000000 in
set_option maxRecDepth 100000 in
/-- fillSubst() -/
theorem c_fillSubst (l : Launch) (dC : Nat → ClassId) (dI : Nat → Nat → Nat) (o : Nat) (qs : Nat) (qu : Nat) (qw : Nat) (qb : Nat) (qe : Nat) (ks : ClassId) (ku : ClassId) (f : Nat → Nat) (g : Nat → Nat) : MO l dC dI yX0_fillSubst wsX0_fillSubst rm_c_fillSubst [.ref o] [(o, .inr (0, [.ref qs, .ref qu, .ref qw, .ref qb, .ref qe])), (qs, .inl (ks, 256, .inl (nF f))), (qu, .inl (ku, 256, .inl (nF g)))] [(ks, .int), (ku, .int)] [(o, .inr (0, [.ref qs, .ref qu, .ref qw, .ref qb, .ref qe])), (qs, .inl (ks, 256, .inl (nF (esN f 255)))), (qu, .inl (ku, 256, .inl (nF (euN g 255))))] none := by
  refine mo_ofW (cc := cX0_fillSubst) (maxL := 4) (ret := none) (by decide) rfl (Nat.le_of_ble_eq_true rfl) ?_
  intro p e s m args below meth c Q A H locs ls hx hb hr hlk hml hta hown hin hE hQ hAe hA hK hP hD hS hl
  have hown : s.vm.findClass RX0 = some m.cls := hown
  have hl : lv_has ls 4 [(0, .ref o)] := hl
  refine lv_sipush (v := nI 255) hx hb dX0_fillSubst_0 (by decide) ?_
  refine va_newa (a0 := (255, .inl (nF fun _ => 0))) (N' := 255) hx hb (hta _ mw_66) rfl hK hP hD hS hA (fun _ => rfl) (by decide) (by decide) (by decide) (Nat.le_of_ble_eq_true rfl) (Nat.le_of_ble_eq_true rfl) dX0_fillSubst_3 (fun qp kqp H hK hP hD hS => ?_)
  have hP : va_P (dC, dI) vwCl [(o, .inr (0, [.ref qs, .ref qu, .ref qw, .ref qb, .ref qe])), (qs, .inl (ks, 256, .inl (nF f))), (qu, .inl (ku, 256, .inl (nF g))), (qp, .inl (kqp, 255, .inl (nF (fun _ => 0))))] H := hP
  have hD : va_D A [(o, .inr (0, [.ref qs, .ref qu, .ref qw, .ref qb, .ref qe])), (qs, .inl (ks, 256, .inl (nF f))), (qu, .inl (ku, 256, .inl (nF g))), (qp, .inl (kqp, 255, .inl (nF (fun _ => 0))))] := hD
  have hK : va_K (dC, dI) vwCl [(ks, .int), (ku, .int), (kqp, .int)] s := hK
  refine W.widen (k := 1) (n := 255) (Nat.le_of_ble_eq_true rfl) (Nat.le_of_ble_eq_true rfl) ?_
  refine lv_astore_n hx hb dX0_fillSubst_5 rfl hl (by decide) rfl (fun ls hl => ?_)
  have hl : lv_has ls 4 [(1, .ref qp), (0, .ref o)] := hl
  refine lv_iconst (v := nI 1) hx hb dX0_fillSubst_6 (by decide) ?_
  refine lv_istore_n hx hb dX0_fillSubst_7 rfl hl (by decide) rfl (fun ls hl => ?_)
  have hl : lv_has ls 4 [(2, .int (nI 1)), (1, .ref qp), (0, .ref o)] := hl
  refine lv_iconst (v := nI 0) hx hb dX0_fillSubst_8 (by decide) ?_
  refine lv_istore_n hx hb dX0_fillSubst_9 rfl hl (by decide) rfl (fun ls hl => ?_)
  have hl : lv_has ls 4 [(3, .int (nI 0)), (2, .int (nI 1)), (1, .ref qp), (0, .ref o)] := hl
  obtain ⟨hP, hD⟩ := va_recb (g := ppN 0) hP hD 3 rfl (fun i _ => ppN_0 i)
  have hP : va_P (dC, dI) vwCl [(o, .inr (0, [.ref qs, .ref qu, .ref qw, .ref qb, .ref qe])), (qs, .inl (ks, 256, .inl (nF f))), (qu, .inl (ku, 256, .inl (nF g))), (qp, .inl (kqp, 255, .inl (nF (ppN 0))))] H := hP
  have hD : va_D A [(o, .inr (0, [.ref qs, .ref qu, .ref qw, .ref qb, .ref qe])), (qs, .inl (ks, 256, .inl (nF f))), (qu, .inl (ku, 256, .inl (nF g))), (qp, .inl (kqp, 255, .inl (nF (ppN 0))))] := hD
  have loop_10 : ∀ (n k : Nat) (ls : Array Slot) (H : Heap) (locs : List Loc), k + n = 255 → lv_has ls 4 [(2, .int (nI (pwN k))), (3, .int (nI k)), (1, .ref qp), (0, .ref o)] → va_P (dC, dI) vwCl [(o, .inr (0, [.ref qs, .ref qu, .ref qw, .ref qb, .ref qe])), (qs, .inl (ks, 256, .inl (nF f))), (qu, .inl (ku, 256, .inl (nF g))), (qp, .inl (kqp, 255, .inl (nF (ppN k))))] H → va_D A [(o, .inr (0, [.ref qs, .ref qu, .ref qw, .ref qb, .ref qe])), (qs, .inl (ks, 256, .inl (nF f))), (qu, .inl (ku, 256, .inl (nF g))), (qp, .inl (kqp, 255, .inl (nF (ppN k))))] → va_S A s.heap H locs → W p l e rm_c_fillSubst s m args below meth c H locs 1 255 Q (F0 m 10 ls []) := by
    intro n
    induction n with
    | zero =>
      intro k ls H locs hn_10  hl hP hD hS
      obtain rfl : 255 = k := by omega
      refine lv_iload_n hx hb dX0_fillSubst_10 rfl (lv_at hl 1 rfl) ?_
      refine lv_sipush (v := nI 255) hx hb dX0_fillSubst_11 (by decide) ?_
      refine lv_icmp_ge (tgt := 34) hx hb dX0_fillSubst_14 (by decide) (fun hc_14 => ?_) (fun hc_14 => ?_)
      · skip
        have hc_14 := (ix_le (a := 255) (b := 255) (by omega) (by omega)).mp hc_14
        have hc_14 : (255 ≤ 255) := hc_14
        refine lv_aload_n hx hb dX0_fillSubst_34 rfl (lv_at hl 3 rfl) ?_
        refine lv_iconst (v := nI 0) hx hb dX0_fillSubst_35 (by decide) ?_
        refine lv_iconst (v := nI 0) hx hb dX0_fillSubst_36 (by decide) ?_
        refine cf_0 (wr := [(qp, .inl (kqp, 255, .inl (nF (ppN 255))))]) (va_runV (As := [.int (nI 0), .int (nI 0)]) (rest := []) ⟨hx, hb, hml, hown, hta⟩ (MO.to (c_enterSubst l dC dI o qs qu qw qb qe ks ku f g 0 0 (by decide) (by decide)) H.size) (cwV 2 hta (aw_V mw_38 mw_35 mw_37 mw_s1 mw_2) rfl rfl rfl ⟨rfl, dyX0_enterSubst⟩ ⟨(Nat.le_of_ble_eq_true rfl), (Nat.le_of_ble_eq_true rfl)⟩) (pr_V hP hD hK hE [0, 1, 2] [0, 1] (by decide) rfl rfl rfl rfl) rfl rfl hl.1 rfl (lv_room (Nat.le_of_ble_eq_true rfl)) dX0_fillSubst_37 ⟨(Nat.le_of_ble_eq_true rfl), (Nat.le_of_ble_eq_true rfl)⟩) hP hD hS hA [0, 1, 2] [3] rfl rfl (by decide) (by decide) (fun H locs hP hD hS => ?_)
        have hP : va_P (dC, dI) vwCl [(qp, .inl (kqp, 255, .inl (nF (ppN 255)))), (o, .inr (0, [.ref qs, .ref qu, .ref qw, .ref qb, .ref qe])), (qs, .inl (ks, 256, .inl (nF (un f 0 (afN 0))))), (qu, .inl (ku, 256, .inl (nF (un g (afN 0) 0))))] H := hP
        have hD : va_D A [(qp, .inl (kqp, 255, .inl (nF (ppN 255)))), (o, .inr (0, [.ref qs, .ref qu, .ref qw, .ref qb, .ref qe])), (qs, .inl (ks, 256, .inl (nF (un f 0 (afN 0))))), (qu, .inl (ku, 256, .inl (nF (un g (afN 0) 0))))] := hD
        refine W.widen (k := 1) (n := 255) (Nat.le_of_ble_eq_true rfl) (Nat.le_of_ble_eq_true rfl) ?_
        refine w_pc (pc2 := 40) rfl ?_
        refine lv_iconst (v := nI 0) hx hb dX0_fillSubst_40 (by decide) ?_
        refine lv_istore_n hx hb dX0_fillSubst_41 rfl hl (by decide) rfl (fun ls hl => ?_)
        have hl : lv_has ls 4 [(3, .int (nI 0)), (2, .int (nI (pwN 255))), (1, .ref qp), (0, .ref o)] := hl
        obtain ⟨hP, hD⟩ := va_recb (g := pwN) hP hD 0 rfl (fun i hi9 => ppN_255 i hi9)
        have hP : va_P (dC, dI) vwCl [(qp, .inl (kqp, 255, .inl (nF pwN))), (o, .inr (0, [.ref qs, .ref qu, .ref qw, .ref qb, .ref qe])), (qs, .inl (ks, 256, .inl (nF (un f 0 (afN 0))))), (qu, .inl (ku, 256, .inl (nF (un g (afN 0) 0))))] H := hP
        have hD : va_D A [(qp, .inl (kqp, 255, .inl (nF pwN))), (o, .inr (0, [.ref qs, .ref qu, .ref qw, .ref qb, .ref qe])), (qs, .inl (ks, 256, .inl (nF (un f 0 (afN 0))))), (qu, .inl (ku, 256, .inl (nF (un g (afN 0) 0))))] := hD
        obtain ⟨hP, hD⟩ := va_recb (g := esN f 0) hP hD 2 rfl (fun i _ => rfl)
        have hP : va_P (dC, dI) vwCl [(qp, .inl (kqp, 255, .inl (nF pwN))), (o, .inr (0, [.ref qs, .ref qu, .ref qw, .ref qb, .ref qe])), (qs, .inl (ks, 256, .inl (nF (esN f 0)))), (qu, .inl (ku, 256, .inl (nF (un g (afN 0) 0))))] H := hP
        have hD : va_D A [(qp, .inl (kqp, 255, .inl (nF pwN))), (o, .inr (0, [.ref qs, .ref qu, .ref qw, .ref qb, .ref qe])), (qs, .inl (ks, 256, .inl (nF (esN f 0)))), (qu, .inl (ku, 256, .inl (nF (un g (afN 0) 0))))] := hD
        obtain ⟨hP, hD⟩ := va_recb (g := euN g 0) hP hD 3 rfl (fun i _ => rfl)
        have hP : va_P (dC, dI) vwCl [(qp, .inl (kqp, 255, .inl (nF pwN))), (o, .inr (0, [.ref qs, .ref qu, .ref qw, .ref qb, .ref qe])), (qs, .inl (ks, 256, .inl (nF (esN f 0)))), (qu, .inl (ku, 256, .inl (nF (euN g 0))))] H := hP
        have hD : va_D A [(qp, .inl (kqp, 255, .inl (nF pwN))), (o, .inr (0, [.ref qs, .ref qu, .ref qw, .ref qb, .ref qe])), (qs, .inl (ks, 256, .inl (nF (esN f 0)))), (qu, .inl (ku, 256, .inl (nF (euN g 0))))] := hD
        have loop_42 : ∀ (n t : Nat) (ls : Array Slot) (H : Heap) (locs : List Loc), t + n = 255 → lv_has ls 4 [(3, .int (nI t)), (1, .ref qp), (0, .ref o)] → va_P (dC, dI) vwCl [(qp, .inl (kqp, 255, .inl (nF pwN))), (o, .inr (0, [.ref qs, .ref qu, .ref qw, .ref qb, .ref qe])), (qs, .inl (ks, 256, .inl (nF (esN f t)))), (qu, .inl (ku, 256, .inl (nF (euN g t))))] H → va_D A [(qp, .inl (kqp, 255, .inl (nF pwN))), (o, .inr (0, [.ref qs, .ref qu, .ref qw, .ref qb, .ref qe])), (qs, .inl (ks, 256, .inl (nF (esN f t)))), (qu, .inl (ku, 256, .inl (nF (euN g t))))] → va_S A s.heap H locs → W p l e rm_c_fillSubst s m args below meth c H locs 1 255 Q (F0 m 42 ls []) := by
          intro n
          induction n with
          | zero =>
            intro t ls H locs hn_42  hl hP hD hS
            obtain rfl : 255 = t := by omega
            refine lv_iload_n hx hb dX0_fillSubst_42 rfl (lv_at hl 0 rfl) ?_
            refine lv_sipush (v := nI 255) hx hb dX0_fillSubst_43 (by decide) ?_
            refine lv_icmp_ge (tgt := 73) hx hb dX0_fillSubst_46 (by decide) (fun hc_46 => ?_) (fun hc_46 => ?_)
            · skip
              have hc_46 := (ix_le (a := 255) (b := 255) (by omega) (by omega)).mp hc_46
              have hc_46 : (255 ≤ 255) := hc_46
              exact rt_0 hx hb hr hlk hQ hAe hP hD hS [1, 2, 3] (by decide) rfl (Nat.le_of_ble_eq_true rfl) (Nat.le_of_ble_eq_true rfl) dX0_fillSubst_73
            · skip
              have hc_46 := (not_congr (ix_le (a := 255) (b := 255) (by omega) (by omega))).mp hc_46
              have hc_46 : ¬ (255 ≤ 255) := hc_46
              exfalso; omega
          | succ n ih =>
            intro t ls H locs hn_42  hl hP hD hS
            refine lv_iload_n hx hb dX0_fillSubst_42 rfl (lv_at hl 0 rfl) ?_
            refine lv_sipush (v := nI 255) hx hb dX0_fillSubst_43 (by decide) ?_
            refine lv_icmp_ge (tgt := 73) hx hb dX0_fillSubst_46 (by decide) (fun hc_46 => ?_) (fun hc_46 => ?_)
            · skip
              have hc_46 := (ix_le (a := 255) (b := t) (by omega) (by omega)).mp hc_46
              have hc_46 : (255 ≤ t) := hc_46
              exfalso; omega
            · skip
              have hc_46 := (not_congr (ix_le (a := 255) (b := t) (by omega) (by omega))).mp hc_46
              have hc_46 : ¬ (255 ≤ t) := hc_46
              refine lv_aload_n hx hb dX0_fillSubst_49 rfl (lv_at hl 2 rfl) ?_
              refine lv_aload_n hx hb dX0_fillSubst_50 rfl (lv_at hl 1 rfl) ?_
              refine lv_iload_n hx hb dX0_fillSubst_51 rfl (lv_at hl 0 rfl) ?_
              refine va_ialb hx hb hK hP 0 2 rfl rfl (by omega) (by decide) dX0_fillSubst_52 ?_
              refine lv_aload_n hx hb dX0_fillSubst_53 rfl (lv_at hl 1 rfl) ?_
              refine lv_sipush (v := nI 255) hx hb dX0_fillSubst_54 (by decide) ?_
              refine lv_iload_n hx hb dX0_fillSubst_57 rfl (lv_at hl 0 rfl) ?_
              refine lv_isub hx hb dX0_fillSubst_58 (top_i (pk_sub (by omega)) ?_)
              refine lv_sipush (v := nI 255) hx hb dX0_fillSubst_59 (by decide) ?_
              refine lv_irem hx hb dX0_fillSubst_62 (by decide) (top_i (pk_rem (by omega) (by decide) (by decide)) ?_)
              refine va_ialb hx hb hK hP 0 2 rfl rfl (Nat.mod_lt _ (by decide)) (by decide) dX0_fillSubst_63 ?_
              refine w_pc (pc2 := 64) rfl ?_
              refine cf_0 (wr := [(qp, .inl (kqp, 255, .inl (nF pwN)))]) (va_runV (As := [.int (nI (pwN t)), .int (nI (pwN ((255 - t) % 255)))]) (rest := []) ⟨hx, hb, hml, hown, hta⟩ (MO.to (c_enterSubst l dC dI o qs qu qw qb qe ks ku (esN f t) (euN g t) (pwN t) (pwN ((255 - t) % 255)) (pwN_lt _) (pwN_lt _)) H.size) (cwV 2 hta (aw_V mw_38 mw_35 mw_37 mw_s1 mw_2) rfl rfl rfl ⟨rfl, dyX0_enterSubst⟩ ⟨(Nat.le_of_ble_eq_true rfl), (Nat.le_of_ble_eq_true rfl)⟩) (pr_V hP hD hK hE [1, 2, 3] [0, 1] (by decide) rfl rfl rfl rfl) rfl rfl hl.1 rfl (lv_room (Nat.le_of_ble_eq_true rfl)) dX0_fillSubst_64 ⟨(Nat.le_of_ble_eq_true rfl), (Nat.le_of_ble_eq_true rfl)⟩) hP hD hS hA [1, 2, 3] [0] rfl rfl (by decide) (by decide) (fun H locs hP hD hS => ?_)
              have hP : va_P (dC, dI) vwCl [(qp, .inl (kqp, 255, .inl (nF pwN))), (o, .inr (0, [.ref qs, .ref qu, .ref qw, .ref qb, .ref qe])), (qs, .inl (ks, 256, .inl (nF (un (esN f t) (pwN t) (afN (pwN ((255 - t) % 255))))))), (qu, .inl (ku, 256, .inl (nF (un (euN g t) (afN (pwN ((255 - t) % 255))) (pwN t)))))] H := hP
              have hD : va_D A [(qp, .inl (kqp, 255, .inl (nF pwN))), (o, .inr (0, [.ref qs, .ref qu, .ref qw, .ref qb, .ref qe])), (qs, .inl (ks, 256, .inl (nF (un (esN f t) (pwN t) (afN (pwN ((255 - t) % 255))))))), (qu, .inl (ku, 256, .inl (nF (un (euN g t) (afN (pwN ((255 - t) % 255))) (pwN t)))))] := hD
              refine W.widen (k := 1) (n := 255) (Nat.le_of_ble_eq_true rfl) (Nat.le_of_ble_eq_true rfl) ?_
              refine w_pc (pc2 := 67) rfl ?_
              refine lv_iinc (v := nI (t + 1)) (k := 0) hx hb dX0_fillSubst_67 hl rfl (ix_inc _ 1) (by decide) rfl (fun ls hl => ?_)
              have hl : lv_has ls 4 [(3, .int (nI (t + 1))), (1, .ref qp), (0, .ref o)] := hl
              refine lv_goto (tgt := 42) hx hb dX0_fillSubst_70 (by decide) ?_
              obtain ⟨hP, hD⟩ := va_recb (g := esN f (t + 1)) hP hD 2 rfl (fun i _ => rfl)
              have hP : va_P (dC, dI) vwCl [(qp, .inl (kqp, 255, .inl (nF pwN))), (o, .inr (0, [.ref qs, .ref qu, .ref qw, .ref qb, .ref qe])), (qs, .inl (ks, 256, .inl (nF (esN f (t + 1))))), (qu, .inl (ku, 256, .inl (nF (un (euN g t) (afN (pwN ((255 - t) % 255))) (pwN t)))))] H := hP
              have hD : va_D A [(qp, .inl (kqp, 255, .inl (nF pwN))), (o, .inr (0, [.ref qs, .ref qu, .ref qw, .ref qb, .ref qe])), (qs, .inl (ks, 256, .inl (nF (esN f (t + 1))))), (qu, .inl (ku, 256, .inl (nF (un (euN g t) (afN (pwN ((255 - t) % 255))) (pwN t)))))] := hD
              obtain ⟨hP, hD⟩ := va_recb (g := euN g (t + 1)) hP hD 3 rfl (fun i _ => rfl)
              have hP : va_P (dC, dI) vwCl [(qp, .inl (kqp, 255, .inl (nF pwN))), (o, .inr (0, [.ref qs, .ref qu, .ref qw, .ref qb, .ref qe])), (qs, .inl (ks, 256, .inl (nF (esN f (t + 1))))), (qu, .inl (ku, 256, .inl (nF (euN g (t + 1)))))] H := hP
              have hD : va_D A [(qp, .inl (kqp, 255, .inl (nF pwN))), (o, .inr (0, [.ref qs, .ref qu, .ref qw, .ref qb, .ref qe])), (qs, .inl (ks, 256, .inl (nF (esN f (t + 1))))), (qu, .inl (ku, 256, .inl (nF (euN g (t + 1)))))] := hD
              exact ih (t + 1) ls H locs (by omega)  (lv_sub hl [0, 1, 2] rfl) hP hD hS
        exact loop_42 255 0 ls H locs (by omega)  (lv_sub hl [0, 2, 3] rfl) hP hD hS
      · skip
        have hc_14 := (not_congr (ix_le (a := 255) (b := 255) (by omega) (by omega))).mp hc_14
        have hc_14 : ¬ (255 ≤ 255) := hc_14
        exfalso; omega
    | succ n ih =>
      intro k ls H locs hn_10  hl hP hD hS
      refine lv_iload_n hx hb dX0_fillSubst_10 rfl (lv_at hl 1 rfl) ?_
      refine lv_sipush (v := nI 255) hx hb dX0_fillSubst_11 (by decide) ?_
      refine lv_icmp_ge (tgt := 34) hx hb dX0_fillSubst_14 (by decide) (fun hc_14 => ?_) (fun hc_14 => ?_)
      · skip
        have hc_14 := (ix_le (a := 255) (b := k) (by omega) (by omega)).mp hc_14
        have hc_14 : (255 ≤ k) := hc_14
        exfalso; omega
      · skip
        have hc_14 := (not_congr (ix_le (a := 255) (b := k) (by omega) (by omega))).mp hc_14
        have hc_14 : ¬ (255 ≤ k) := hc_14
        refine lv_aload_n hx hb dX0_fillSubst_17 rfl (lv_at hl 2 rfl) ?_
        refine lv_iload_n hx hb dX0_fillSubst_18 rfl (lv_at hl 1 rfl) ?_
        refine lv_iload_n hx hb dX0_fillSubst_19 rfl (lv_at hl 0 rfl) ?_
        refine va_iasb hx hb hK hP hD hS 3 2 rfl rfl (by omega) (by decide) dX0_fillSubst_20 (fun H locs hP hD hS => ?_)
        have hP : va_P (dC, dI) vwCl [(o, .inr (0, [.ref qs, .ref qu, .ref qw, .ref qb, .ref qe])), (qs, .inl (ks, 256, .inl (nF f))), (qu, .inl (ku, 256, .inl (nF g))), (qp, .inl (kqp, 255, .inl (nF (un (ppN k) k (pwN k)))))] H := hP
        have hD : va_D A [(o, .inr (0, [.ref qs, .ref qu, .ref qw, .ref qb, .ref qe])), (qs, .inl (ks, 256, .inl (nF f))), (qu, .inl (ku, 256, .inl (nF g))), (qp, .inl (kqp, 255, .inl (nF (un (ppN k) k (pwN k)))))] := hD
        refine lv_iload_n hx hb dX0_fillSubst_21 rfl (lv_at hl 0 rfl) ?_
        refine lv_iload_n hx hb dX0_fillSubst_22 rfl (lv_at hl 0 rfl) ?_
        refine cf_1 (wr := [(o, .inr (0, [.ref qs, .ref qu, .ref qw, .ref qb, .ref qe])), (qs, .inl (ks, 256, .inl (nF f))), (qu, .inl (ku, 256, .inl (nF g))), (qp, .inl (kqp, 255, .inl (nF (un (ppN k) k (pwN k)))))]) (va_runS (As := [.int (nI (pwN k))]) (rest := [.int (nI (pwN k))]) ⟨hx, hb, hml, hown, hta⟩ (MO.to (c_twice l dC dI (pwN k) (pwN_lt _)) H.size) (va_cwS 1 hta (aw_S mw_34 mw_32 mw_33 mw_2) rfl rfl rfl dyX0_twice ⟨(Nat.le_of_ble_eq_true rfl), (Nat.le_of_ble_eq_true rfl)⟩) (pr_S hP hD hK hE [] [] (by decide) rfl rfl) rfl rfl hl.1 rfl (lv_room (Nat.le_of_ble_eq_true rfl)) dX0_fillSubst_23 ⟨(Nat.le_of_ble_eq_true rfl), (Nat.le_of_ble_eq_true rfl)⟩) hP hD hS hA [] [0, 1, 2, 3] rfl rfl (by decide) (by decide) (fun H locs hP hD hS => ?_)
        have hP : va_P (dC, dI) vwCl [(o, .inr (0, [.ref qs, .ref qu, .ref qw, .ref qb, .ref qe])), (qs, .inl (ks, 256, .inl (nF f))), (qu, .inl (ku, 256, .inl (nF g))), (qp, .inl (kqp, 255, .inl (nF (un (ppN k) k (pwN k)))))] H := hP
        have hD : va_D A [(o, .inr (0, [.ref qs, .ref qu, .ref qw, .ref qb, .ref qe])), (qs, .inl (ks, 256, .inl (nF f))), (qu, .inl (ku, 256, .inl (nF g))), (qp, .inl (kqp, 255, .inl (nF (un (ppN k) k (pwN k)))))] := hD
        refine W.widen (k := 1) (n := 255) (Nat.le_of_ble_eq_true rfl) (Nat.le_of_ble_eq_true rfl) ?_
        refine w_pc (pc2 := 26) rfl ?_
        refine lv_ixor hx hb dX0_fillSubst_26 ?_
        refine top_i (y := nI (pwN (k + 1))) (n_xor _ _) ?_
        refine lv_istore_n hx hb dX0_fillSubst_27 rfl hl (by decide) rfl (fun ls hl => ?_)
        have hl : lv_has ls 4 [(2, .int (nI (pwN (k + 1)))), (3, .int (nI k)), (1, .ref qp), (0, .ref o)] := hl
        refine lv_iinc (v := nI (k + 1)) (k := 1) hx hb dX0_fillSubst_28 hl rfl (ix_inc _ 1) (by decide) rfl (fun ls hl => ?_)
        have hl : lv_has ls 4 [(3, .int (nI (k + 1))), (2, .int (nI (pwN (k + 1)))), (1, .ref qp), (0, .ref o)] := hl
        refine lv_goto (tgt := 10) hx hb dX0_fillSubst_31 (by decide) ?_
        obtain ⟨hP, hD⟩ := va_recb (g := ppN (k + 1)) hP hD 3 rfl (fun i _ => ppN_s k i)
        have hP : va_P (dC, dI) vwCl [(o, .inr (0, [.ref qs, .ref qu, .ref qw, .ref qb, .ref qe])), (qs, .inl (ks, 256, .inl (nF f))), (qu, .inl (ku, 256, .inl (nF g))), (qp, .inl (kqp, 255, .inl (nF (ppN (k + 1)))))] H := hP
        have hD : va_D A [(o, .inr (0, [.ref qs, .ref qu, .ref qw, .ref qb, .ref qe])), (qs, .inl (ks, 256, .inl (nF f))), (qu, .inl (ku, 256, .inl (nF g))), (qp, .inl (kqp, 255, .inl (nF (ppN (k + 1)))))] := hD
        exact ih (k + 1) ls H locs (by omega)  (lv_sub hl [1, 0, 2, 3] rfl) hP hD hS
  exact loop_10 255 0 ls H locs (by omega)  (lv_sub hl [1, 0, 2, 3] rfl) hP hD hS

def rm_c_joinBytes : Room := { frames := 0, cells := 0, slots := 0, locals := 0 }
set_option maxHeartbeats 4000000 in
set_option maxRecDepth 100000 in
/-- joinBytes(row, from, end) -/
theorem c_joinBytes (l : Launch) (dC : Nat → ClassId) (dI : Nat → Nat → Nat) (r : Nat) (kr : ClassId) (nn : Nat) (b : Nat → Nat) (fr : Nat) (en : Nat) (b256 : ∀ i, b i < 256) (hnn : nn ≤ 96) (hen : en ≤ nn) (hfr : fr ≤ 96) : MO l dC dI yX2_joinBytes wsX2_joinBytes rm_c_joinBytes [.ref r, .int (nI fr), .int (nI en)] [(r, .inl (kr, nn, .inl (nF b)))] [(kr, .int)] [(r, .inl (kr, nn, .inl (nF b)))] (some (.long (lN (jbN b fr en 8)))) := by
  refine mo_ofW (cc := cX2_joinBytes) (maxL := 6) (ret := (some .long)) (by decide) rfl (Nat.le_of_ble_eq_true rfl) ?_
  intro p e s m args below meth c Q A H locs ls hx hb hr hlk hml hta hown hin hE hQ hAe hA hK hP hD hS hl
  have hown : s.vm.findClass RX2 = some m.cls := hown
  have hl : lv_has ls 6 [(0, .ref r), (1, .int (nI fr)), (2, .int (nI en))] := hl
  refine lv_lconst (v := lN 0) hx hb dX2_joinBytes_0 (by decide) ?_
  refine lv_lstore_n hx hb dX2_joinBytes_1 rfl hl (by decide) rfl (fun ls hl => ?_)
  have hl : lv_has ls 6 [(3, .long (lN 0)), (0, .ref r), (1, .int (nI fr)), (2, .int (nI en))] := hl
  refine lv_iload_n hx hb dX2_joinBytes_2 rfl (lv_at hl 2 rfl) ?_
  refine lv_istore hx hb dX2_joinBytes_3 hl (by decide) rfl (fun ls hl => ?_)
  have hl : lv_has ls 6 [(5, .int (nI fr)), (3, .long (lN 0)), (0, .ref r), (1, .int (nI fr)), (2, .int (nI en))] := hl
  have loop_5 : ∀ (n k : Nat) (ls : Array Slot) (H : Heap) (locs : List Loc), k + n = 8 → lv_has ls 6 [(3, .long (lN (jbN b fr en k))), (5, .int (nI (fr + k))), (0, .ref r), (1, .int (nI fr)), (2, .int (nI en))] → va_P (dC, dI) vwCl [(r, .inl (kr, nn, .inl (nF b)))] H → va_D A [(r, .inl (kr, nn, .inl (nF b)))] → va_S A s.heap H locs → W p l e rm_c_joinBytes s m args below meth c H locs 0 0 Q (F0 m 5 ls []) := by
    intro n
    induction n with
    | zero =>
      intro k ls H locs hn_5  hl hP hD hS
      obtain rfl : 8 = k := by omega
      refine lv_iload hx hb dX2_joinBytes_5 (lv_at hl 1 rfl) ?_
      refine lv_iload_n hx hb dX2_joinBytes_7 rfl (lv_at hl 3 rfl) ?_
      refine lv_bipush (v := nI 8) hx hb dX2_joinBytes_8 (by decide) ?_
      refine lv_iadd hx hb dX2_joinBytes_10 (top_i (nI_add _ _) ?_)
      refine lv_icmp_ge (tgt := 41) hx hb dX2_joinBytes_11 (by decide) (fun hc_11 => ?_) (fun hc_11 => ?_)
      · skip
        have hc_11 := (ix_le (a := fr + 8) (b := fr + 8) (by omega) (by omega)).mp hc_11
        have hc_11 : ((fr + 8) ≤ (fr + 8)) := hc_11
        refine lv_lload_n hx hb dX2_joinBytes_41 rfl (lv_at hl 0 rfl) ?_
        exact rt_l hx hb hr hlk hQ hAe hP hD hS [0] (by decide) rfl (Nat.le_of_ble_eq_true rfl) (Nat.le_of_ble_eq_true rfl) (rfl) dX2_joinBytes_42
      · skip
        have hc_11 := (not_congr (ix_le (a := fr + 8) (b := fr + 8) (by omega) (by omega))).mp hc_11
        have hc_11 : ¬ ((fr + 8) ≤ (fr + 8)) := hc_11
        exfalso; omega
    | succ n ih =>
      intro k ls H locs hn_5  hl hP hD hS
      refine lv_iload hx hb dX2_joinBytes_5 (lv_at hl 1 rfl) ?_
      refine lv_iload_n hx hb dX2_joinBytes_7 rfl (lv_at hl 3 rfl) ?_
      refine lv_bipush (v := nI 8) hx hb dX2_joinBytes_8 (by decide) ?_
      refine lv_iadd hx hb dX2_joinBytes_10 (top_i (nI_add _ _) ?_)
      refine lv_icmp_ge (tgt := 41) hx hb dX2_joinBytes_11 (by decide) (fun hc_11 => ?_) (fun hc_11 => ?_)
      · skip
        have hc_11 := (ix_le (a := fr + 8) (b := fr + k) (by omega) (by omega)).mp hc_11
        have hc_11 : ((fr + 8) ≤ (fr + k)) := hc_11
        exfalso; omega
      · skip
        have hc_11 := (not_congr (ix_le (a := fr + 8) (b := fr + k) (by omega) (by omega))).mp hc_11
        have hc_11 : ¬ ((fr + 8) ≤ (fr + k)) := hc_11
        refine lv_lload_n hx hb dX2_joinBytes_14 rfl (lv_at hl 0 rfl) ?_
        refine lv_bipush (v := nI 8) hx hb dX2_joinBytes_15 (by decide) ?_
        refine lv_lshl hx hb dX2_joinBytes_17 rfl (top_l (wb_shl _ (by decide)) ?_)
        refine lv_iload hx hb dX2_joinBytes_18 (lv_at hl 1 rfl) ?_
        refine lv_iload_n hx hb dX2_joinBytes_20 rfl (lv_at hl 4 rfl) ?_
        refine lv_icmp_ge (tgt := 31) hx hb dX2_joinBytes_21 (by decide) (fun hc_21 => ?_) (fun hc_21 => ?_)
        · skip
          have hc_21 := (ix_le (a := en) (b := fr + k) (by omega) (by omega)).mp hc_21
          have hc_21 : (en ≤ (fr + k)) := hc_21
          refine lv_iconst (v := nI 0) hx hb dX2_joinBytes_31 (by decide) ?_
          refine lv_i2l hx hb dX2_joinBytes_32 rfl (top_l (nI_l (by first | decide | exact Nat.lt_trans (b256 _) (by decide))) ?_)
          refine lv_lor hx hb dX2_joinBytes_33 ?_
          refine top_l (y := lN (jbN b fr en (k + 1))) ((l_or _ _).trans (congrArg lN (jbN_f (by omega)))) ?_
          refine lv_lstore_n hx hb dX2_joinBytes_34 rfl hl (by decide) rfl (fun ls hl => ?_)
          have hl : lv_has ls 6 [(3, .long (lN (jbN b fr en (k + 1)))), (5, .int (nI (fr + k))), (0, .ref r), (1, .int (nI fr)), (2, .int (nI en))] := hl
          refine lv_iinc (v := nI (fr + (k + 1))) (k := 1) hx hb dX2_joinBytes_35 hl rfl ((ix_inc _ 1).trans (congrArg nI (by omega))) (by decide) rfl (fun ls hl => ?_)
          have hl : lv_has ls 6 [(5, .int (nI (fr + (k + 1)))), (3, .long (lN (jbN b fr en (k + 1)))), (0, .ref r), (1, .int (nI fr)), (2, .int (nI en))] := hl
          refine lv_goto (tgt := 5) hx hb dX2_joinBytes_38 (by decide) ?_
          exact ih (k + 1) ls H locs (by omega)  (lv_sub hl [1, 0, 2, 3, 4] rfl) hP hD hS
        · skip
          have hc_21 := (not_congr (ix_le (a := en) (b := fr + k) (by omega) (by omega))).mp hc_21
          have hc_21 : ¬ (en ≤ (fr + k)) := hc_21
          refine lv_aload_n hx hb dX2_joinBytes_24 rfl (lv_at hl 2 rfl) ?_
          refine lv_iload hx hb dX2_joinBytes_25 (lv_at hl 1 rfl) ?_
          refine va_ialb hx hb hK hP 0 0 rfl rfl (by omega) (by omega) dX2_joinBytes_27 ?_
          refine lv_goto (tgt := 32) hx hb dX2_joinBytes_28 (by decide) ?_
          refine lv_i2l hx hb dX2_joinBytes_32 rfl (top_l (nI_l (by first | decide | exact Nat.lt_trans (b256 _) (by decide))) ?_)
          refine lv_lor hx hb dX2_joinBytes_33 ?_
          refine top_l (y := lN (jbN b fr en (k + 1))) ((l_or _ _).trans (congrArg lN (jbN_t (by omega)))) ?_
          refine lv_lstore_n hx hb dX2_joinBytes_34 rfl hl (by decide) rfl (fun ls hl => ?_)
          have hl : lv_has ls 6 [(3, .long (lN (jbN b fr en (k + 1)))), (5, .int (nI (fr + k))), (0, .ref r), (1, .int (nI fr)), (2, .int (nI en))] := hl
          refine lv_iinc (v := nI (fr + (k + 1))) (k := 1) hx hb dX2_joinBytes_35 hl rfl ((ix_inc _ 1).trans (congrArg nI (by omega))) (by decide) rfl (fun ls hl => ?_)
          have hl : lv_has ls 6 [(5, .int (nI (fr + (k + 1)))), (3, .long (lN (jbN b fr en (k + 1)))), (0, .ref r), (1, .int (nI fr)), (2, .int (nI en))] := hl
          refine lv_goto (tgt := 5) hx hb dX2_joinBytes_38 (by decide) ?_
          exact ih (k + 1) ls H locs (by omega)  (lv_sub hl [1, 0, 2, 3, 4] rfl) hP hD hS
  exact loop_5 8 0 ls H locs (by omega)  (lv_sub hl [1, 0, 2, 3, 4] rfl) hP hD hS

def rm_c_chigh : Room := { frames := 1, cells := 0, slots := 0, locals := 25 }
set_option maxHeartbeats 4000000 in
set_option maxRecDepth 100000 in
/-- high() of the cipher -/
theorem c_chigh (l : Launch) (dC : Nat → ClassId) (dI : Nat → Nat → Nat) (o : Nat) (qs : Nat) (qu : Nat) (qw : Nat) (qb : Nat) (qe : Nat) (kb : ClassId) (b : Nat → Nat) (b256 : ∀ i, b i < 256) : MO l dC dI yX0_high wsX0_high rm_c_chigh [.ref o] [(o, .inr (0, [.ref qs, .ref qu, .ref qw, .ref qb, .ref qe])), (qb, .inl (kb, 16, .inl (nF b)))] [(kb, .int)] [(o, .inr (0, [.ref qs, .ref qu, .ref qw, .ref qb, .ref qe])), (qb, .inl (kb, 16, .inl (nF b)))] (some (.long (lN (jbN b 0 16 8)))) := by
  refine mo_ofW (cc := cX0_high) (maxL := 1) (ret := (some .long)) (by decide) rfl (Nat.le_of_ble_eq_true rfl) ?_
  intro p e s m args below meth c Q A H locs ls hx hb hr hlk hml hta hown hin hE hQ hAe hA hK hP hD hS hl
  have hown : s.vm.findClass RX0 = some m.cls := hown
  have hl : lv_has ls 1 [(0, .ref o)] := hl
  refine lv_aload_n hx hb dX0_high_0 rfl (lv_at hl 0 rfl) ?_
  refine va_get (D := (dC, dI)) (ci := 0) (v := .ref qb) (C := RX0) (T := TX0) (N := 5) hx hb hta inX0 hown hK hP 0 rfl rfl 3 (by decide) (hta _ mw_53) (fun _ h9 => h9) rfl dX0_high_1 ?_
  refine lv_iconst (v := nI 0) hx hb dX0_high_4 (by decide) ?_
  refine lv_bipush (v := nI 16) hx hb dX0_high_5 (by decide) ?_
  refine cf_1 (wr := [(o, .inr (0, [.ref qs, .ref qu, .ref qw, .ref qb, .ref qe]))]) (va_runSN (As := [.ref qb, .int (nI 0), .int (nI 16)]) (rest := []) ⟨hx, hb, hml, hown, hta⟩ (MO.to (c_joinBytes l dC dI qb kb 16 b 0 16 b256 (by decide) (by decide) (by decide)) H.size) ⟨va_cnB 3 hta (aw_C mw_168) rfl rfl rfl hE (hta _ mw_1) dyX2_joinBytes ⟨(Nat.le_of_ble_eq_true rfl), (Nat.le_of_ble_eq_true rfl)⟩, hta _ mw_167, trivial⟩ (pr_S hP hD hK hE [1] [0] (by decide) rfl rfl) rfl rfl hl.1 rfl (lv_room (Nat.le_of_ble_eq_true rfl)) dX0_high_7 ⟨(Nat.le_of_ble_eq_true rfl), (Nat.le_of_ble_eq_true rfl)⟩) hP hD hS hA [1] [0] rfl rfl (by decide) (by decide) (fun H locs hP hD hS => ?_)
  have hP : va_P (dC, dI) vwCl [(o, .inr (0, [.ref qs, .ref qu, .ref qw, .ref qb, .ref qe])), (qb, .inl (kb, 16, .inl (nF b)))] H := hP
  have hD : va_D A [(o, .inr (0, [.ref qs, .ref qu, .ref qw, .ref qb, .ref qe])), (qb, .inl (kb, 16, .inl (nF b)))] := hD
  refine W.widen (k := 0) (n := 0) (Nat.le_of_ble_eq_true rfl) (Nat.le_of_ble_eq_true rfl) ?_
  refine w_pc (pc2 := 10) rfl ?_
  exact rt_l hx hb hr hlk hQ hAe hP hD hS [0, 1] (by decide) rfl (Nat.le_of_ble_eq_true rfl) (Nat.le_of_ble_eq_true rfl) (rfl) dX0_high_10

def rm_c_clow : Room := { frames := 1, cells := 0, slots := 0, locals := 25 }
set_option maxHeartbeats 4000000 in
set_option maxRecDepth 100000 in
/-- low() of the cipher -/
theorem c_clow (l : Launch) (dC : Nat → ClassId) (dI : Nat → Nat → Nat) (o : Nat) (qs : Nat) (qu : Nat) (qw : Nat) (qb : Nat) (qe : Nat) (kb : ClassId) (b : Nat → Nat) (b256 : ∀ i, b i < 256) : MO l dC dI yX0_low wsX0_low rm_c_clow [.ref o] [(o, .inr (0, [.ref qs, .ref qu, .ref qw, .ref qb, .ref qe])), (qb, .inl (kb, 16, .inl (nF b)))] [(kb, .int)] [(o, .inr (0, [.ref qs, .ref qu, .ref qw, .ref qb, .ref qe])), (qb, .inl (kb, 16, .inl (nF b)))] (some (.long (lN (jbN b 8 16 8)))) := by
  refine mo_ofW (cc := cX0_low) (maxL := 1) (ret := (some .long)) (by decide) rfl (Nat.le_of_ble_eq_true rfl) ?_
  intro p e s m args below meth c Q A H locs ls hx hb hr hlk hml hta hown hin hE hQ hAe hA hK hP hD hS hl
  have hown : s.vm.findClass RX0 = some m.cls := hown
  have hl : lv_has ls 1 [(0, .ref o)] := hl
  refine lv_aload_n hx hb dX0_low_0 rfl (lv_at hl 0 rfl) ?_
  refine va_get (D := (dC, dI)) (ci := 0) (v := .ref qb) (C := RX0) (T := TX0) (N := 5) hx hb hta inX0 hown hK hP 0 rfl rfl 3 (by decide) (hta _ mw_53) (fun _ h9 => h9) rfl dX0_low_1 ?_
  refine lv_bipush (v := nI 8) hx hb dX0_low_4 (by decide) ?_
  refine lv_bipush (v := nI 16) hx hb dX0_low_6 (by decide) ?_
  refine cf_1 (wr := [(o, .inr (0, [.ref qs, .ref qu, .ref qw, .ref qb, .ref qe]))]) (va_runSN (As := [.ref qb, .int (nI 8), .int (nI 16)]) (rest := []) ⟨hx, hb, hml, hown, hta⟩ (MO.to (c_joinBytes l dC dI qb kb 16 b 8 16 b256 (by decide) (by decide) (by decide)) H.size) ⟨va_cnB 3 hta (aw_C mw_168) rfl rfl rfl hE (hta _ mw_1) dyX2_joinBytes ⟨(Nat.le_of_ble_eq_true rfl), (Nat.le_of_ble_eq_true rfl)⟩, hta _ mw_167, trivial⟩ (pr_S hP hD hK hE [1] [0] (by decide) rfl rfl) rfl rfl hl.1 rfl (lv_room (Nat.le_of_ble_eq_true rfl)) dX0_low_8 ⟨(Nat.le_of_ble_eq_true rfl), (Nat.le_of_ble_eq_true rfl)⟩) hP hD hS hA [1] [0] rfl rfl (by decide) (by decide) (fun H locs hP hD hS => ?_)
  have hP : va_P (dC, dI) vwCl [(o, .inr (0, [.ref qs, .ref qu, .ref qw, .ref qb, .ref qe])), (qb, .inl (kb, 16, .inl (nF b)))] H := hP
  have hD : va_D A [(o, .inr (0, [.ref qs, .ref qu, .ref qw, .ref qb, .ref qe])), (qb, .inl (kb, 16, .inl (nF b)))] := hD
  refine W.widen (k := 0) (n := 0) (Nat.le_of_ble_eq_true rfl) (Nat.le_of_ble_eq_true rfl) ?_
  refine w_pc (pc2 := 11) rfl ?_
  exact rt_l hx hb hr hlk hQ hAe hP hD hS [0, 1] (by decide) rfl (Nat.le_of_ble_eq_true rfl) (Nat.le_of_ble_eq_true rfl) (rfl) dX0_low_11

def rm_c_put : Room := { frames := 0, cells := 0, slots := 0, locals := 0 }
set_option maxHeartbeats 4000000 in
set_option maxRecDepth 100000 in
theorem c_put (l : Launch) (dC : Nat → ClassId) (dI : Nat → Nat → Nat) (g : Nat) (hi : Int64) (lo : Int64) (x : Int64) (y : Int64) : MO l dC dI yX1_put wsX1_put rm_c_put [.ref g, .long x, .long y] [(g, .inr (1, [.long hi, .long lo]))] [] [(g, .inr (1, [.long x, .long y]))] none := by
  refine mo_ofW (cc := cX1_put) (maxL := 5) (ret := none) (by decide) rfl (Nat.le_of_ble_eq_true rfl) ?_
  intro p e s m args below meth c Q A H locs ls hx hb hr hlk hml hta hown hin hE hQ hAe hA hK hP hD hS hl
  have hown : s.vm.findClass RX1 = some m.cls := hown
  have hl : lv_has ls 5 [(0, .ref g), (1, .long x), (3, .long y)] := hl
  refine lv_aload_n hx hb dX1_put_0 rfl (lv_at hl 0 rfl) ?_
  refine lv_lload_n hx hb dX1_put_1 rfl (lv_at hl 1 rfl) ?_
  refine va_put (D := (dC, dI)) (ci := 1) (v := .long x) (ty := .long) (C := RX1) (T := TX1) (N := 2) hx hb hta inX1 tyX1 tyX1_ok nmX1 hown hK hP hD hS 0 rfl rfl 0 (by decide) (hta _ mw_73) (fun _ h9 => h9) rfl (by decide +kernel) rfl rfl (Nat.le_of_ble_eq_true rfl) dX1_put_2 (fun H locs hP hD hS => ?_)
  have hP : va_P (dC, dI) vwCl [(g, .inr (1, [.long x, .long lo]))] H := hP
  have hD : va_D A [(g, .inr (1, [.long x, .long lo]))] := hD
  refine lv_aload_n hx hb dX1_put_5 rfl (lv_at hl 0 rfl) ?_
  refine lv_lload_n hx hb dX1_put_6 rfl (lv_at hl 2 rfl) ?_
  refine va_put (D := (dC, dI)) (ci := 1) (v := .long y) (ty := .long) (C := RX1) (T := TX1) (N := 2) hx hb hta inX1 tyX1 tyX1_ok nmX1 hown hK hP hD hS 0 rfl rfl 1 (by decide) (hta _ mw_74) (fun _ h9 => h9) rfl (by decide +kernel) rfl rfl (Nat.le_of_ble_eq_true rfl) dX1_put_7 (fun H locs hP hD hS => ?_)
  have hP : va_P (dC, dI) vwCl [(g, .inr (1, [.long x, .long y]))] H := hP
  have hD : va_D A [(g, .inr (1, [.long x, .long y]))] := hD
  exact rt_0 hx hb hr hlk hQ hAe hP hD hS [0] (by decide) rfl (Nat.le_of_ble_eq_true rfl) (Nat.le_of_ble_eq_true rfl) dX1_put_10

def rm_c_add : Room := { frames := 0, cells := 0, slots := 0, locals := 0 }
set_option maxHeartbeats 4000000 in
set_option maxRecDepth 100000 in
theorem c_add (l : Launch) (dC : Nat → ClassId) (dI : Nat → Nat → Nat) (g : Nat) (hi : Int64) (lo : Int64) (x : Int64) (y : Int64) : MO l dC dI yX1_add wsX1_add rm_c_add [.ref g, .long x, .long y] [(g, .inr (1, [.long hi, .long lo]))] [] [(g, .inr (1, [.long (hi ^^^ x), .long (lo ^^^ y)]))] none := by
  refine mo_ofW (cc := cX1_add) (maxL := 5) (ret := none) (by decide) rfl (Nat.le_of_ble_eq_true rfl) ?_
  intro p e s m args below meth c Q A H locs ls hx hb hr hlk hml hta hown hin hE hQ hAe hA hK hP hD hS hl
  have hown : s.vm.findClass RX1 = some m.cls := hown
  have hl : lv_has ls 5 [(0, .ref g), (1, .long x), (3, .long y)] := hl
  refine lv_aload_n hx hb dX1_add_0 rfl (lv_at hl 0 rfl) ?_
  refine lv_dup hx hb dX1_add_1 rfl ?_
  refine va_get (D := (dC, dI)) (ci := 1) (v := .long hi) (C := RX1) (T := TX1) (N := 2) hx hb hta inX1 hown hK hP 0 rfl rfl 0 (by decide) (hta _ mw_73) (fun _ h9 => h9) rfl dX1_add_2 ?_
  refine lv_lload_n hx hb dX1_add_5 rfl (lv_at hl 1 rfl) ?_
  refine lv_lxor hx hb dX1_add_6 ?_
  refine va_put (D := (dC, dI)) (ci := 1) (v := .long (hi ^^^ x)) (ty := .long) (C := RX1) (T := TX1) (N := 2) hx hb hta inX1 tyX1 tyX1_ok nmX1 hown hK hP hD hS 0 rfl rfl 0 (by decide) (hta _ mw_73) (fun _ h9 => h9) rfl (by decide +kernel) rfl rfl (Nat.le_of_ble_eq_true rfl) dX1_add_7 (fun H locs hP hD hS => ?_)
  have hP : va_P (dC, dI) vwCl [(g, .inr (1, [.long (hi ^^^ x), .long lo]))] H := hP
  have hD : va_D A [(g, .inr (1, [.long (hi ^^^ x), .long lo]))] := hD
  refine lv_aload_n hx hb dX1_add_10 rfl (lv_at hl 0 rfl) ?_
  refine lv_dup hx hb dX1_add_11 rfl ?_
  refine va_get (D := (dC, dI)) (ci := 1) (v := .long lo) (C := RX1) (T := TX1) (N := 2) hx hb hta inX1 hown hK hP 0 rfl rfl 1 (by decide) (hta _ mw_74) (fun _ h9 => h9) rfl dX1_add_12 ?_
  refine lv_lload_n hx hb dX1_add_15 rfl (lv_at hl 2 rfl) ?_
  refine lv_lxor hx hb dX1_add_16 ?_
  refine w_pc (pc2 := 17) rfl ?_
  refine va_put (D := (dC, dI)) (ci := 1) (v := .long (lo ^^^ y)) (ty := .long) (C := RX1) (T := TX1) (N := 2) hx hb hta inX1 tyX1 tyX1_ok nmX1 hown hK hP hD hS 0 rfl rfl 1 (by decide) (hta _ mw_74) (fun _ h9 => h9) rfl (by decide +kernel) rfl rfl (Nat.le_of_ble_eq_true rfl) dX1_add_17 (fun H locs hP hD hS => ?_)
  have hP : va_P (dC, dI) vwCl [(g, .inr (1, [.long (hi ^^^ x), .long (lo ^^^ y)]))] H := hP
  have hD : va_D A [(g, .inr (1, [.long (hi ^^^ x), .long (lo ^^^ y)]))] := hD
  exact rt_0 hx hb hr hlk hQ hAe hP hD hS [0] (by decide) rfl (Nat.le_of_ble_eq_true rfl) (Nat.le_of_ble_eq_true rfl) dX1_add_20

def rm_c_ghigh : Room := { frames := 0, cells := 0, slots := 0, locals := 0 }
set_option maxHeartbeats 4000000 in
set_option maxRecDepth 100000 in
theorem c_ghigh (l : Launch) (dC : Nat → ClassId) (dI : Nat → Nat → Nat) (g : Nat) (hi : Int64) (lo : Int64) : MO l dC dI yX1_high wsX1_high rm_c_ghigh [.ref g] [(g, .inr (1, [.long hi, .long lo]))] [] [(g, .inr (1, [.long hi, .long lo]))] (some (.long hi)) := by
  refine mo_ofW (cc := cX1_high) (maxL := 1) (ret := (some .long)) (by decide) rfl (Nat.le_of_ble_eq_true rfl) ?_
  intro p e s m args below meth c Q A H locs ls hx hb hr hlk hml hta hown hin hE hQ hAe hA hK hP hD hS hl
  have hown : s.vm.findClass RX1 = some m.cls := hown
  have hl : lv_has ls 1 [(0, .ref g)] := hl
  refine lv_aload_n hx hb dX1_high_0 rfl (lv_at hl 0 rfl) ?_
  refine va_get (D := (dC, dI)) (ci := 1) (v := .long hi) (C := RX1) (T := TX1) (N := 2) hx hb hta inX1 hown hK hP 0 rfl rfl 0 (by decide) (hta _ mw_73) (fun _ h9 => h9) rfl dX1_high_1 ?_
  exact rt_l hx hb hr hlk hQ hAe hP hD hS [0] (by decide) rfl (Nat.le_of_ble_eq_true rfl) (Nat.le_of_ble_eq_true rfl) (rfl) dX1_high_4

def rm_c_glow : Room := { frames := 0, cells := 0, slots := 0, locals := 0 }
set_option maxHeartbeats 4000000 in
set_option maxRecDepth 100000 in
theorem c_glow (l : Launch) (dC : Nat → ClassId) (dI : Nat → Nat → Nat) (g : Nat) (hi : Int64) (lo : Int64) : MO l dC dI yX1_low wsX1_low rm_c_glow [.ref g] [(g, .inr (1, [.long hi, .long lo]))] [] [(g, .inr (1, [.long hi, .long lo]))] (some (.long lo)) := by
  refine mo_ofW (cc := cX1_low) (maxL := 1) (ret := (some .long)) (by decide) rfl (Nat.le_of_ble_eq_true rfl) ?_
  intro p e s m args below meth c Q A H locs ls hx hb hr hlk hml hta hown hin hE hQ hAe hA hK hP hD hS hl
  have hown : s.vm.findClass RX1 = some m.cls := hown
  have hl : lv_has ls 1 [(0, .ref g)] := hl
  refine lv_aload_n hx hb dX1_low_0 rfl (lv_at hl 0 rfl) ?_
  refine va_get (D := (dC, dI)) (ci := 1) (v := .long lo) (C := RX1) (T := TX1) (N := 2) hx hb hta inX1 hown hK hP 0 rfl rfl 1 (by decide) (hta _ mw_74) (fun _ h9 => h9) rfl dX1_low_1 ?_
  exact rt_l hx hb hr hlk hQ hAe hP hD hS [0] (by decide) rfl (Nat.le_of_ble_eq_true rfl) (Nat.le_of_ble_eq_true rfl) (rfl) dX1_low_4

def rm_c_ginit : Room := { frames := 1, cells := 0, slots := 0, locals := 16 }
set_option maxHeartbeats 4000000 in
set_option maxRecDepth 100000 in
theorem c_ginit (l : Launch) (dC : Nat → ClassId) (dI : Nat → Nat → Nat) (g : Nat) (hi : Int64) (lo : Int64) : MO l dC dI yX1_init wsX1_init rm_c_ginit [.ref g] [(g, .inr (1, [.long hi, .long lo]))] [] [(g, .inr (1, [.long (lN 0), .long (lN 0)]))] none := by
  refine mo_ofW (cc := cX1_init) (maxL := 1) (ret := none) (by decide) rfl (Nat.le_of_ble_eq_true rfl) ?_
  intro p e s m args below meth c Q A H locs ls hx hb hr hlk hml hta hown hin hE hQ hAe hA hK hP hD hS hl
  have hown : s.vm.findClass RX1 = some m.cls := hown
  have hl : lv_has ls 1 [(0, .ref g)] := hl
  refine lv_aload_n hx hb dX1_init_0 rfl (lv_at hl 0 rfl) ?_
  refine W.objInit hx hb hown (hta _ mw_72) (hta _ mw_20) (hta _ mw_21) rfl (by rw [hml]; exact hl.1) rfl dX1_init_1 (Nat.le_of_ble_eq_true rfl) (Nat.le_of_ble_eq_true rfl) ?_
  refine W.eq (g2 := F0 m 4 ls []) rfl ?_
  refine lv_aload_n hx hb dX1_init_4 rfl (lv_at hl 0 rfl) ?_
  refine lv_lconst (v := lN 0) hx hb dX1_init_5 (by decide) ?_
  refine va_put (D := (dC, dI)) (ci := 1) (v := .long (lN 0)) (ty := .long) (C := RX1) (T := TX1) (N := 2) hx hb hta inX1 tyX1 tyX1_ok nmX1 hown hK hP hD hS 0 rfl rfl 0 (by decide) (hta _ mw_73) (fun _ h9 => h9) rfl (by decide +kernel) rfl rfl (Nat.le_of_ble_eq_true rfl) dX1_init_6 (fun H locs hP hD hS => ?_)
  have hP : va_P (dC, dI) vwCl [(g, .inr (1, [.long (lN 0), .long lo]))] H := hP
  have hD : va_D A [(g, .inr (1, [.long (lN 0), .long lo]))] := hD
  refine lv_aload_n hx hb dX1_init_9 rfl (lv_at hl 0 rfl) ?_
  refine lv_lconst (v := lN 0) hx hb dX1_init_10 (by decide) ?_
  refine va_put (D := (dC, dI)) (ci := 1) (v := .long (lN 0)) (ty := .long) (C := RX1) (T := TX1) (N := 2) hx hb hta inX1 tyX1 tyX1_ok nmX1 hown hK hP hD hS 0 rfl rfl 1 (by decide) (hta _ mw_74) (fun _ h9 => h9) rfl (by decide +kernel) rfl rfl (Nat.le_of_ble_eq_true rfl) dX1_init_11 (fun H locs hP hD hS => ?_)
  have hP : va_P (dC, dI) vwCl [(g, .inr (1, [.long (lN 0), .long (lN 0)]))] H := hP
  have hD : va_D A [(g, .inr (1, [.long (lN 0), .long (lN 0)]))] := hD
  exact rt_0 hx hb hr hlk hQ hAe hP hD hS [0] (by decide) rfl (Nat.le_of_ble_eq_true rfl) (Nat.le_of_ble_eq_true rfl) dX1_init_14

def rm_c_multiply : Room := { frames := 0, cells := 0, slots := 0, locals := 0 }
set_option maxHeartbeats 4000000 in
set_option maxRecDepth 100000 in
/-- multiply(oh, ol) -/
theorem c_multiply (l : Launch) (dC : Nat → ClassId) (dI : Nat → Nat → Nat) (g : Nat) (hi : Int64) (lo : Int64) (oh : Int64) (ol : Int64) : MO l dC dI yX1_multiply wsX1_multiply rm_c_multiply [.ref g, .long oh, .long ol] [(g, .inr (1, [.long hi, .long lo]))] [] [(g, .inr (1, [.long ((gst hi lo oh ol 128).1), .long ((gst hi lo oh ol 128).2.1)]))] none := by
  refine mo_ofW (cc := cX1_multiply) (maxL := 20) (ret := none) (by decide) rfl (Nat.le_of_ble_eq_true rfl) ?_
  intro p e s m args below meth c Q A H locs ls hx hb hr hlk hml hta hown hin hE hQ hAe hA hK hP hD hS hl
  have hown : s.vm.findClass RX1 = some m.cls := hown
  have hl : lv_has ls 20 [(0, .ref g), (1, .long oh), (3, .long ol)] := hl
  refine lv_lconst (v := lN 0) hx hb dX1_multiply_0 (by decide) ?_
  refine lv_lstore hx hb dX1_multiply_1 hl (by decide) rfl (fun ls hl => ?_)
  have hl : lv_has ls 20 [(5, .long (lN 0)), (0, .ref g), (1, .long oh), (3, .long ol)] := hl
  refine lv_lconst (v := lN 0) hx hb dX1_multiply_3 (by decide) ?_
  refine lv_lstore hx hb dX1_multiply_4 hl (by decide) rfl (fun ls hl => ?_)
  have hl : lv_has ls 20 [(7, .long (lN 0)), (5, .long (lN 0)), (0, .ref g), (1, .long oh), (3, .long ol)] := hl
  refine lv_lload_n hx hb dX1_multiply_6 rfl (lv_at hl 3 rfl) ?_
  refine lv_lstore hx hb dX1_multiply_7 hl (by decide) rfl (fun ls hl => ?_)
  have hl : lv_has ls 20 [(9, .long oh), (7, .long (lN 0)), (5, .long (lN 0)), (0, .ref g), (1, .long oh), (3, .long ol)] := hl
  refine lv_lload_n hx hb dX1_multiply_9 rfl (lv_at hl 5 rfl) ?_
  refine lv_lstore hx hb dX1_multiply_10 hl (by decide) rfl (fun ls hl => ?_)
  have hl : lv_has ls 20 [(11, .long ol), (9, .long oh), (7, .long (lN 0)), (5, .long (lN 0)), (0, .ref g), (1, .long oh), (3, .long ol)] := hl
  refine lv_iconst (v := nI 0) hx hb dX1_multiply_12 (by decide) ?_
  refine lv_istore hx hb dX1_multiply_13 hl (by decide) rfl (fun ls hl => ?_)
  have hl : lv_has ls 20 [(13, .int (nI 0)), (11, .long ol), (9, .long oh), (7, .long (lN 0)), (5, .long (lN 0)), (0, .ref g), (1, .long oh), (3, .long ol)] := hl
  have loop_15 : ∀ (n k : Nat) (ls : Array Slot) (H : Heap) (locs : List Loc), k + n = 128 → lv_has ls 20 [(5, .long ((gst hi lo oh ol k).1)), (7, .long ((gst hi lo oh ol k).2.1)), (9, .long ((gst hi lo oh ol k).2.2.1)), (11, .long ((gst hi lo oh ol k).2.2.2)), (13, .int (nI k)), (0, .ref g)] → va_P (dC, dI) vwCl [(g, .inr (1, [.long hi, .long lo]))] H → va_D A [(g, .inr (1, [.long hi, .long lo]))] → va_S A s.heap H locs → W p l e rm_c_multiply s m args below meth c H locs 0 0 Q (F0 m 15 ls []) := by
    intro n
    induction n with
    | zero =>
      intro k ls H locs hn_15  hl hP hD hS
      obtain rfl : 128 = k := by omega
      refine lv_iload hx hb dX1_multiply_15 (lv_at hl 4 rfl) ?_
      refine lv_sipush (v := nI 128) hx hb dX1_multiply_17 (by decide) ?_
      refine lv_icmp_ge (tgt := 117) hx hb dX1_multiply_20 (by decide) (fun hc_20 => ?_) (fun hc_20 => ?_)
      · skip
        have hc_20 := (ix_le (a := 128) (b := 128) (by omega) (by omega)).mp hc_20
        have hc_20 : (128 ≤ 128) := hc_20
        refine lv_aload_n hx hb dX1_multiply_117 rfl (lv_at hl 5 rfl) ?_
        refine lv_lload hx hb dX1_multiply_118 (lv_at hl 0 rfl) ?_
        refine va_put (D := (dC, dI)) (ci := 1) (v := .long ((gst hi lo oh ol 128).1)) (ty := .long) (C := RX1) (T := TX1) (N := 2) hx hb hta inX1 tyX1 tyX1_ok nmX1 hown hK hP hD hS 0 rfl rfl 0 (by decide) (hta _ mw_73) (fun _ h9 => h9) rfl (by decide +kernel) rfl rfl (Nat.le_of_ble_eq_true rfl) dX1_multiply_120 (fun H locs hP hD hS => ?_)
        have hP : va_P (dC, dI) vwCl [(g, .inr (1, [.long ((gst hi lo oh ol 128).1), .long lo]))] H := hP
        have hD : va_D A [(g, .inr (1, [.long ((gst hi lo oh ol 128).1), .long lo]))] := hD
        refine lv_aload_n hx hb dX1_multiply_123 rfl (lv_at hl 5 rfl) ?_
        refine lv_lload hx hb dX1_multiply_124 (lv_at hl 1 rfl) ?_
        refine va_put (D := (dC, dI)) (ci := 1) (v := .long ((gst hi lo oh ol 128).2.1)) (ty := .long) (C := RX1) (T := TX1) (N := 2) hx hb hta inX1 tyX1 tyX1_ok nmX1 hown hK hP hD hS 0 rfl rfl 1 (by decide) (hta _ mw_74) (fun _ h9 => h9) rfl (by decide +kernel) rfl rfl (Nat.le_of_ble_eq_true rfl) dX1_multiply_126 (fun H locs hP hD hS => ?_)
        have hP : va_P (dC, dI) vwCl [(g, .inr (1, [.long ((gst hi lo oh ol 128).1), .long ((gst hi lo oh ol 128).2.1)]))] H := hP
        have hD : va_D A [(g, .inr (1, [.long ((gst hi lo oh ol 128).1), .long ((gst hi lo oh ol 128).2.1)]))] := hD
        exact rt_0 hx hb hr hlk hQ hAe hP hD hS [0] (by decide) rfl (Nat.le_of_ble_eq_true rfl) (Nat.le_of_ble_eq_true rfl) dX1_multiply_129
      · skip
        have hc_20 := (not_congr (ix_le (a := 128) (b := 128) (by omega) (by omega))).mp hc_20
        have hc_20 : ¬ (128 ≤ 128) := hc_20
        exfalso; omega
    | succ n ih =>
      intro k ls H locs hn_15  hl hP hD hS
      refine lv_iload hx hb dX1_multiply_15 (lv_at hl 4 rfl) ?_
      refine lv_sipush (v := nI 128) hx hb dX1_multiply_17 (by decide) ?_
      refine lv_icmp_ge (tgt := 117) hx hb dX1_multiply_20 (by decide) (fun hc_20 => ?_) (fun hc_20 => ?_)
      · skip
        have hc_20 := (ix_le (a := 128) (b := k) (by omega) (by omega)).mp hc_20
        have hc_20 : (128 ≤ k) := hc_20
        exfalso; omega
      · skip
        have hc_20 := (not_congr (ix_le (a := 128) (b := k) (by omega) (by omega))).mp hc_20
        have hc_20 : ¬ (128 ≤ k) := hc_20
        refine lv_iload hx hb dX1_multiply_23 (lv_at hl 4 rfl) ?_
        refine lv_bipush (v := nI 64) hx hb dX1_multiply_25 (by decide) ?_
        refine lv_icmp_ge (tgt := 37) hx hb dX1_multiply_27 (by decide) (fun hc_27 => ?_) (fun hc_27 => ?_)
        · skip
          have hc_27 := (ix_le (a := 64) (b := k) (by omega) (by omega)).mp hc_27
          have hc_27 : (64 ≤ k) := hc_27
          refine lv_aload_n hx hb dX1_multiply_37 rfl (lv_at hl 5 rfl) ?_
          refine va_get (D := (dC, dI)) (ci := 1) (v := .long lo) (C := RX1) (T := TX1) (N := 2) hx hb hta inX1 hown hK hP 0 rfl rfl 1 (by decide) (hta _ mw_74) (fun _ h9 => h9) rfl dX1_multiply_38 ?_
          refine lv_lstore hx hb dX1_multiply_41 hl (by decide) rfl (fun ls hl => ?_)
          have hl : lv_has ls 20 [(14, .long lo), (5, .long ((gst hi lo oh ol k).1)), (7, .long ((gst hi lo oh ol k).2.1)), (9, .long ((gst hi lo oh ol k).2.2.1)), (11, .long ((gst hi lo oh ol k).2.2.2)), (13, .int (nI k)), (0, .ref g)] := hl
          refine lv_lload hx hb dX1_multiply_43 (lv_at hl 0 rfl) ?_
          refine lv_bipush (v := nI 63) hx hb dX1_multiply_45 (by decide) ?_
          refine lv_iload hx hb dX1_multiply_47 (lv_at hl 5 rfl) ?_
          refine lv_bipush (v := nI 64) hx hb dX1_multiply_49 (by decide) ?_
          refine lv_irem hx hb dX1_multiply_51 (by decide) (top_i (pk_rem (by omega) (by decide) (by decide)) ?_)
          refine lv_isub hx hb dX1_multiply_52 (top_i (pk_sub (by omega)) ?_)
          refine lv_lushr hx hb dX1_multiply_53 rfl (top_l (l_ushr _ (by omega)) ?_)
          refine lv_lconst (v := lN 1) hx hb dX1_multiply_54 (by decide) ?_
          refine w_pc (pc2 := 55) rfl ?_
          refine lv_land hx hb dX1_multiply_55 (top_l (l_and _ _) ?_)
          refine lv_lneg hx hb dX1_multiply_56 ?_
          refine top_l (y := gch hi lo k) (gch_lo hi lo (by omega) (by omega)) ?_
          refine lv_lstore hx hb dX1_multiply_57 hl (by decide) rfl (fun ls hl => ?_)
          have hl : lv_has ls 20 [(16, .long (gch hi lo k)), (14, .long lo), (5, .long ((gst hi lo oh ol k).1)), (7, .long ((gst hi lo oh ol k).2.1)), (9, .long ((gst hi lo oh ol k).2.2.1)), (11, .long ((gst hi lo oh ol k).2.2.2)), (13, .int (nI k)), (0, .ref g)] := hl
          refine lv_lload hx hb dX1_multiply_59 (lv_at hl 2 rfl) ?_
          refine lv_lload hx hb dX1_multiply_61 (lv_at hl 4 rfl) ?_
          refine lv_lload hx hb dX1_multiply_63 (lv_at hl 0 rfl) ?_
          refine lv_land hx hb dX1_multiply_65 ?_
          refine lv_lxor hx hb dX1_multiply_66 ?_
          refine top_l (y := (gst hi lo oh ol (k + 1)).1) (gst_1 _ _ _ _ _) ?_
          refine lv_lstore hx hb dX1_multiply_67 hl (by decide) rfl (fun ls hl => ?_)
          have hl : lv_has ls 20 [(5, .long ((gst hi lo oh ol (k + 1)).1)), (16, .long (gch hi lo k)), (14, .long lo), (7, .long ((gst hi lo oh ol k).2.1)), (9, .long ((gst hi lo oh ol k).2.2.1)), (11, .long ((gst hi lo oh ol k).2.2.2)), (13, .int (nI k)), (0, .ref g)] := hl
          refine lv_lload hx hb dX1_multiply_69 (lv_at hl 3 rfl) ?_
          refine lv_lload hx hb dX1_multiply_71 (lv_at hl 5 rfl) ?_
          refine lv_lload hx hb dX1_multiply_73 (lv_at hl 1 rfl) ?_
          refine w_pc (pc2 := 75) rfl ?_
          refine lv_land hx hb dX1_multiply_75 ?_
          refine lv_lxor hx hb dX1_multiply_76 ?_
          refine top_l (y := (gst hi lo oh ol (k + 1)).2.1) (gst_2 _ _ _ _ _) ?_
          refine lv_lstore hx hb dX1_multiply_77 hl (by decide) rfl (fun ls hl => ?_)
          have hl : lv_has ls 20 [(7, .long ((gst hi lo oh ol (k + 1)).2.1)), (5, .long ((gst hi lo oh ol (k + 1)).1)), (16, .long (gch hi lo k)), (14, .long lo), (9, .long ((gst hi lo oh ol k).2.2.1)), (11, .long ((gst hi lo oh ol k).2.2.2)), (13, .int (nI k)), (0, .ref g)] := hl
          refine lv_lload hx hb dX1_multiply_79 (lv_at hl 5 rfl) ?_
          refine lv_lconst (v := lN 1) hx hb dX1_multiply_81 (by decide) ?_
          refine lv_land hx hb dX1_multiply_82 ?_
          refine lv_lneg hx hb dX1_multiply_83 ?_
          refine top_l (y := gov (gst hi lo oh ol k).2.2.2) (gov_e _) ?_
          refine lv_lstore hx hb dX1_multiply_84 hl (by decide) rfl (fun ls hl => ?_)
          have hl : lv_has ls 20 [(18, .long (gov (gst hi lo oh ol k).2.2.2)), (7, .long ((gst hi lo oh ol (k + 1)).2.1)), (5, .long ((gst hi lo oh ol (k + 1)).1)), (16, .long (gch hi lo k)), (14, .long lo), (9, .long ((gst hi lo oh ol k).2.2.1)), (11, .long ((gst hi lo oh ol k).2.2.2)), (13, .int (nI k)), (0, .ref g)] := hl
          refine lv_lload hx hb dX1_multiply_86 (lv_at hl 6 rfl) ?_
          refine lv_iconst (v := nI 1) hx hb dX1_multiply_88 (by decide) ?_
          refine lv_lushr hx hb dX1_multiply_89 rfl ?_
          refine top_l (y := (((gst hi lo oh ol k).2.2.2).toUInt64 >>> ((nI 1).toInt64.toUInt64 &&& Int64.toUInt64 63)).toInt64) (rfl) ?_
          refine lv_lload hx hb dX1_multiply_90 (lv_at hl 5 rfl) ?_
          refine w_pc (pc2 := 92) rfl ?_
          refine lv_bipush (v := nI 63) hx hb dX1_multiply_92 (by decide) ?_
          refine lv_lshl hx hb dX1_multiply_94 rfl ?_
          refine lv_lor hx hb dX1_multiply_95 ?_
          refine top_l (y := (gst hi lo oh ol (k + 1)).2.2.2) (rfl) ?_
          refine lv_lstore hx hb dX1_multiply_96 hl (by decide) rfl (fun ls hl => ?_)
          have hl : lv_has ls 20 [(11, .long ((gst hi lo oh ol (k + 1)).2.2.2)), (18, .long (gov (gst hi lo oh ol k).2.2.2)), (7, .long ((gst hi lo oh ol (k + 1)).2.1)), (5, .long ((gst hi lo oh ol (k + 1)).1)), (16, .long (gch hi lo k)), (14, .long lo), (9, .long ((gst hi lo oh ol k).2.2.1)), (13, .int (nI k)), (0, .ref g)] := hl
          refine lv_lload hx hb dX1_multiply_98 (lv_at hl 6 rfl) ?_
          refine lv_iconst (v := nI 1) hx hb dX1_multiply_100 (by decide) ?_
          refine lv_lushr hx hb dX1_multiply_101 rfl ?_
          refine top_l (y := (((gst hi lo oh ol k).2.2.1).toUInt64 >>> ((nI 1).toInt64.toUInt64 &&& Int64.toUInt64 63)).toInt64) (rfl) ?_
          refine lv_lload hx hb dX1_multiply_102 (lv_at hl 1 rfl) ?_
          refine lv_ldc2 (v := (-2233785415175766016)) hx hb hown (hta _ mw_201) dX1_multiply_104 ?_
          refine lv_land hx hb dX1_multiply_107 ?_
          refine lv_lxor hx hb dX1_multiply_108 ?_
          refine top_l (y := (gst hi lo oh ol (k + 1)).2.2.1) (gst_3 _ _ _ _ _) ?_
          refine lv_lstore hx hb dX1_multiply_109 hl (by decide) rfl (fun ls hl => ?_)
          have hl : lv_has ls 20 [(9, .long ((gst hi lo oh ol (k + 1)).2.2.1)), (11, .long ((gst hi lo oh ol (k + 1)).2.2.2)), (18, .long (gov (gst hi lo oh ol k).2.2.2)), (7, .long ((gst hi lo oh ol (k + 1)).2.1)), (5, .long ((gst hi lo oh ol (k + 1)).1)), (16, .long (gch hi lo k)), (14, .long lo), (13, .int (nI k)), (0, .ref g)] := hl
          refine w_pc (pc2 := 111) rfl ?_
          refine lv_iinc (v := nI (k + 1)) (k := 7) hx hb dX1_multiply_111 hl rfl (ix_inc _ 1) (by decide) rfl (fun ls hl => ?_)
          have hl : lv_has ls 20 [(13, .int (nI (k + 1))), (9, .long ((gst hi lo oh ol (k + 1)).2.2.1)), (11, .long ((gst hi lo oh ol (k + 1)).2.2.2)), (18, .long (gov (gst hi lo oh ol k).2.2.2)), (7, .long ((gst hi lo oh ol (k + 1)).2.1)), (5, .long ((gst hi lo oh ol (k + 1)).1)), (16, .long (gch hi lo k)), (14, .long lo), (0, .ref g)] := hl
          refine lv_goto (tgt := 15) hx hb dX1_multiply_114 (by decide) ?_
          exact ih (k + 1) ls H locs (by omega)  (lv_sub hl [5, 4, 1, 2, 0, 8] rfl) hP hD hS
        · skip
          have hc_27 := (not_congr (ix_le (a := 64) (b := k) (by omega) (by omega))).mp hc_27
          have hc_27 : ¬ (64 ≤ k) := hc_27
          refine lv_aload_n hx hb dX1_multiply_30 rfl (lv_at hl 5 rfl) ?_
          refine va_get (D := (dC, dI)) (ci := 1) (v := .long hi) (C := RX1) (T := TX1) (N := 2) hx hb hta inX1 hown hK hP 0 rfl rfl 0 (by decide) (hta _ mw_73) (fun _ h9 => h9) rfl dX1_multiply_31 ?_
          refine lv_goto (tgt := 41) hx hb dX1_multiply_34 (by decide) ?_
          refine lv_lstore hx hb dX1_multiply_41 hl (by decide) rfl (fun ls hl => ?_)
          have hl : lv_has ls 20 [(14, .long hi), (5, .long ((gst hi lo oh ol k).1)), (7, .long ((gst hi lo oh ol k).2.1)), (9, .long ((gst hi lo oh ol k).2.2.1)), (11, .long ((gst hi lo oh ol k).2.2.2)), (13, .int (nI k)), (0, .ref g)] := hl
          refine lv_lload hx hb dX1_multiply_43 (lv_at hl 0 rfl) ?_
          refine lv_bipush (v := nI 63) hx hb dX1_multiply_45 (by decide) ?_
          refine lv_iload hx hb dX1_multiply_47 (lv_at hl 5 rfl) ?_
          refine lv_bipush (v := nI 64) hx hb dX1_multiply_49 (by decide) ?_
          refine lv_irem hx hb dX1_multiply_51 (by decide) (top_i (pk_rem (by omega) (by decide) (by decide)) ?_)
          refine lv_isub hx hb dX1_multiply_52 (top_i (pk_sub (by omega)) ?_)
          refine lv_lushr hx hb dX1_multiply_53 rfl (top_l (l_ushr _ (by omega)) ?_)
          refine lv_lconst (v := lN 1) hx hb dX1_multiply_54 (by decide) ?_
          refine lv_land hx hb dX1_multiply_55 (top_l (l_and _ _) ?_)
          refine lv_lneg hx hb dX1_multiply_56 ?_
          refine top_l (y := gch hi lo k) (gch_hi hi lo (by omega)) ?_
          refine w_pc (pc2 := 57) rfl ?_
          refine lv_lstore hx hb dX1_multiply_57 hl (by decide) rfl (fun ls hl => ?_)
          have hl : lv_has ls 20 [(16, .long (gch hi lo k)), (14, .long hi), (5, .long ((gst hi lo oh ol k).1)), (7, .long ((gst hi lo oh ol k).2.1)), (9, .long ((gst hi lo oh ol k).2.2.1)), (11, .long ((gst hi lo oh ol k).2.2.2)), (13, .int (nI k)), (0, .ref g)] := hl
          refine lv_lload hx hb dX1_multiply_59 (lv_at hl 2 rfl) ?_
          refine lv_lload hx hb dX1_multiply_61 (lv_at hl 4 rfl) ?_
          refine lv_lload hx hb dX1_multiply_63 (lv_at hl 0 rfl) ?_
          refine lv_land hx hb dX1_multiply_65 ?_
          refine lv_lxor hx hb dX1_multiply_66 ?_
          refine top_l (y := (gst hi lo oh ol (k + 1)).1) (gst_1 _ _ _ _ _) ?_
          refine lv_lstore hx hb dX1_multiply_67 hl (by decide) rfl (fun ls hl => ?_)
          have hl : lv_has ls 20 [(5, .long ((gst hi lo oh ol (k + 1)).1)), (16, .long (gch hi lo k)), (14, .long hi), (7, .long ((gst hi lo oh ol k).2.1)), (9, .long ((gst hi lo oh ol k).2.2.1)), (11, .long ((gst hi lo oh ol k).2.2.2)), (13, .int (nI k)), (0, .ref g)] := hl
          refine lv_lload hx hb dX1_multiply_69 (lv_at hl 3 rfl) ?_
          refine lv_lload hx hb dX1_multiply_71 (lv_at hl 5 rfl) ?_
          refine lv_lload hx hb dX1_multiply_73 (lv_at hl 1 rfl) ?_
          refine lv_land hx hb dX1_multiply_75 ?_
          refine lv_lxor hx hb dX1_multiply_76 ?_
          refine top_l (y := (gst hi lo oh ol (k + 1)).2.1) (gst_2 _ _ _ _ _) ?_
          refine w_pc (pc2 := 77) rfl ?_
          refine lv_lstore hx hb dX1_multiply_77 hl (by decide) rfl (fun ls hl => ?_)
          have hl : lv_has ls 20 [(7, .long ((gst hi lo oh ol (k + 1)).2.1)), (5, .long ((gst hi lo oh ol (k + 1)).1)), (16, .long (gch hi lo k)), (14, .long hi), (9, .long ((gst hi lo oh ol k).2.2.1)), (11, .long ((gst hi lo oh ol k).2.2.2)), (13, .int (nI k)), (0, .ref g)] := hl
          refine lv_lload hx hb dX1_multiply_79 (lv_at hl 5 rfl) ?_
          refine lv_lconst (v := lN 1) hx hb dX1_multiply_81 (by decide) ?_
          refine lv_land hx hb dX1_multiply_82 ?_
          refine lv_lneg hx hb dX1_multiply_83 ?_
          refine top_l (y := gov (gst hi lo oh ol k).2.2.2) (gov_e _) ?_
          refine lv_lstore hx hb dX1_multiply_84 hl (by decide) rfl (fun ls hl => ?_)
          have hl : lv_has ls 20 [(18, .long (gov (gst hi lo oh ol k).2.2.2)), (7, .long ((gst hi lo oh ol (k + 1)).2.1)), (5, .long ((gst hi lo oh ol (k + 1)).1)), (16, .long (gch hi lo k)), (14, .long hi), (9, .long ((gst hi lo oh ol k).2.2.1)), (11, .long ((gst hi lo oh ol k).2.2.2)), (13, .int (nI k)), (0, .ref g)] := hl
          refine lv_lload hx hb dX1_multiply_86 (lv_at hl 6 rfl) ?_
          refine lv_iconst (v := nI 1) hx hb dX1_multiply_88 (by decide) ?_
          refine lv_lushr hx hb dX1_multiply_89 rfl ?_
          refine top_l (y := (((gst hi lo oh ol k).2.2.2).toUInt64 >>> ((nI 1).toInt64.toUInt64 &&& Int64.toUInt64 63)).toInt64) (rfl) ?_
          refine lv_lload hx hb dX1_multiply_90 (lv_at hl 5 rfl) ?_
          refine lv_bipush (v := nI 63) hx hb dX1_multiply_92 (by decide) ?_
          refine lv_lshl hx hb dX1_multiply_94 rfl ?_
          refine w_pc (pc2 := 95) rfl ?_
          refine lv_lor hx hb dX1_multiply_95 ?_
          refine top_l (y := (gst hi lo oh ol (k + 1)).2.2.2) (rfl) ?_
          refine lv_lstore hx hb dX1_multiply_96 hl (by decide) rfl (fun ls hl => ?_)
          have hl : lv_has ls 20 [(11, .long ((gst hi lo oh ol (k + 1)).2.2.2)), (18, .long (gov (gst hi lo oh ol k).2.2.2)), (7, .long ((gst hi lo oh ol (k + 1)).2.1)), (5, .long ((gst hi lo oh ol (k + 1)).1)), (16, .long (gch hi lo k)), (14, .long hi), (9, .long ((gst hi lo oh ol k).2.2.1)), (13, .int (nI k)), (0, .ref g)] := hl
          refine lv_lload hx hb dX1_multiply_98 (lv_at hl 6 rfl) ?_
          refine lv_iconst (v := nI 1) hx hb dX1_multiply_100 (by decide) ?_
          refine lv_lushr hx hb dX1_multiply_101 rfl ?_
          refine top_l (y := (((gst hi lo oh ol k).2.2.1).toUInt64 >>> ((nI 1).toInt64.toUInt64 &&& Int64.toUInt64 63)).toInt64) (rfl) ?_
          refine lv_lload hx hb dX1_multiply_102 (lv_at hl 1 rfl) ?_
          refine lv_ldc2 (v := (-2233785415175766016)) hx hb hown (hta _ mw_201) dX1_multiply_104 ?_
          refine lv_land hx hb dX1_multiply_107 ?_
          refine lv_lxor hx hb dX1_multiply_108 ?_
          refine top_l (y := (gst hi lo oh ol (k + 1)).2.2.1) (gst_3 _ _ _ _ _) ?_
          refine lv_lstore hx hb dX1_multiply_109 hl (by decide) rfl (fun ls hl => ?_)
          have hl : lv_has ls 20 [(9, .long ((gst hi lo oh ol (k + 1)).2.2.1)), (11, .long ((gst hi lo oh ol (k + 1)).2.2.2)), (18, .long (gov (gst hi lo oh ol k).2.2.2)), (7, .long ((gst hi lo oh ol (k + 1)).2.1)), (5, .long ((gst hi lo oh ol (k + 1)).1)), (16, .long (gch hi lo k)), (14, .long hi), (13, .int (nI k)), (0, .ref g)] := hl
          refine lv_iinc (v := nI (k + 1)) (k := 7) hx hb dX1_multiply_111 hl rfl (ix_inc _ 1) (by decide) rfl (fun ls hl => ?_)
          have hl : lv_has ls 20 [(13, .int (nI (k + 1))), (9, .long ((gst hi lo oh ol (k + 1)).2.2.1)), (11, .long ((gst hi lo oh ol (k + 1)).2.2.2)), (18, .long (gov (gst hi lo oh ol k).2.2.2)), (7, .long ((gst hi lo oh ol (k + 1)).2.1)), (5, .long ((gst hi lo oh ol (k + 1)).1)), (16, .long (gch hi lo k)), (14, .long hi), (0, .ref g)] := hl
          refine lv_goto (tgt := 15) hx hb dX1_multiply_114 (by decide) ?_
          exact ih (k + 1) ls H locs (by omega)  (lv_sub hl [5, 4, 1, 2, 0, 8] rfl) hP hD hS
  exact loop_15 128 0 ls H locs (by omega)  (lv_sub hl [4, 3, 2, 1, 0, 5] rfl) hP hD hS


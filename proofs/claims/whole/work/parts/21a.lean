def rm_c_twice : Room := { frames := 0, cells := 0, slots := 0, locals := 0 }
set_option maxHeartbeats 4000000 in
set_option maxRecDepth 100000 in
/-- twice(a) -/
theorem c_twice (l : Launch) (dC : Nat → ClassId) (dI : Nat → Nat → Nat) (a : Nat) (ha : a < 256) : MO l dC dI yX0_twice wsX0_twice rm_c_twice [.int (nI a)] [] [] [] (some (.int (nI (tw a)))) := by
  refine mo_ofW (cc := cX0_twice) (maxL := 1) (ret := (some .int)) (by decide) rfl (Nat.le_of_ble_eq_true rfl) ?_
  intro p e s m args below meth c Q A H locs ls hx hb hr hlk hml hta hown hin hE hQ hAe hA hK hP hD hS hl
  have hown : s.vm.findClass RX0 = some m.cls := hown
  have hl : lv_has ls 1 [(0, .int (nI a))] := hl
  refine lv_iload_n hx hb dX0_twice_0 rfl (lv_at hl 0 rfl) ?_
  refine lv_iconst (v := nI 1) hx hb dX0_twice_1 (by decide) ?_
  refine lv_ishl hx hb dX0_twice_2 (top_i (n_shl _ (by decide)) ?_)
  refine lv_iload_n hx hb dX0_twice_3 rfl (lv_at hl 0 rfl) ?_
  refine lv_bipush (v := nI 7) hx hb dX0_twice_4 (by decide) ?_
  refine lv_iushr hx hb dX0_twice_6 rfl (top_i (n_ushr (by omega) (by decide)) ?_)
  refine lv_sipush (v := nI 283) hx hb dX0_twice_7 (by decide) ?_
  refine lv_imul hx hb dX0_twice_10 (top_i (pk_mul _ _) ?_)
  refine lv_ixor hx hb dX0_twice_11 (top_i (n_xor _ _) ?_)
  exact rt_i hx hb hr hlk hQ hAe hP hD hS [] (by decide) rfl (Nat.le_of_ble_eq_true rfl) (Nat.le_of_ble_eq_true rfl) (rfl) dX0_twice_12

def rm_c_sf : Room := { frames := 0, cells := 0, slots := 0, locals := 0 }
set_option maxHeartbeats 4000000 in
set_option maxRecDepth 100000 in
/-- shiftedFrom(i) -/
theorem c_sf (l : Launch) (dC : Nat → ClassId) (dI : Nat → Nat → Nat) (i : Nat) (hi : i < 16) : MO l dC dI yX0_shiftedFrom wsX0_shiftedFrom rm_c_sf [.int (nI i)] [] [] [] (some (.int (nI (sf i)))) := by
  refine mo_ofW (cc := cX0_shiftedFrom) (maxL := 1) (ret := (some .int)) (by decide) rfl (Nat.le_of_ble_eq_true rfl) ?_
  intro p e s m args below meth c Q A H locs ls hx hb hr hlk hml hta hown hin hE hQ hAe hA hK hP hD hS hl
  have hown : s.vm.findClass RX0 = some m.cls := hown
  have hl : lv_has ls 1 [(0, .int (nI i))] := hl
  refine lv_iload_n hx hb dX0_shiftedFrom_0 rfl (lv_at hl 0 rfl) ?_
  refine lv_iconst (v := nI 4) hx hb dX0_shiftedFrom_1 (by decide) ?_
  refine lv_iload_n hx hb dX0_shiftedFrom_2 rfl (lv_at hl 0 rfl) ?_
  refine lv_iconst (v := nI 4) hx hb dX0_shiftedFrom_3 (by decide) ?_
  refine lv_irem hx hb dX0_shiftedFrom_4 (by decide) (top_i (pk_rem (by omega) (by decide) (by decide)) ?_)
  refine lv_imul hx hb dX0_shiftedFrom_5 (top_i (pk_mul _ _) ?_)
  refine lv_iadd hx hb dX0_shiftedFrom_6 (top_i (nI_add _ _) ?_)
  refine lv_bipush (v := nI 16) hx hb dX0_shiftedFrom_7 (by decide) ?_
  refine lv_irem hx hb dX0_shiftedFrom_9 (by decide) (top_i (pk_rem (by omega) (by decide) (by decide)) ?_)
  exact rt_i hx hb hr hlk hQ hAe hP hD hS [] (by decide) rfl (Nat.le_of_ble_eq_true rfl) (Nat.le_of_ble_eq_true rfl) (rfl) dX0_shiftedFrom_10

def rm_c_rot : Room := { frames := 0, cells := 0, slots := 0, locals := 0 }
set_option maxHeartbeats 4000000 in
set_option maxRecDepth 100000 in
/-- Integer.rotateLeft(t, 8) -/
theorem c_rot (l : Launch) (dC : Nat → ClassId) (dI : Nat → Nat → Nat) (t : Int32) : MO l dC dI yJ_rotateLeft wsJ_rotateLeft rm_c_rot [.int t, .int (nI 8)] [] [] [] (some (.int (rl8 t))) := by
  refine mo_ofW (cc := cJ_rotateLeft) (maxL := 2) (ret := (some .int)) (by decide) rfl (Nat.le_of_ble_eq_true rfl) ?_
  intro p e s m args below meth c Q A H locs ls hx hb hr hlk hml hta hown hin hE hQ hAe hA hK hP hD hS hl
  have hown : s.vm.findClass "java/lang/Integer" = some m.cls := hown
  have hl : lv_has ls 2 [(0, .int t), (1, .int (nI 8))] := hl
  refine lv_iload_n hx hb dJ_rotateLeft_0 rfl (lv_at hl 0 rfl) ?_
  refine lv_iload_n hx hb dJ_rotateLeft_1 rfl (lv_at hl 1 rfl) ?_
  refine lv_ishl hx hb dJ_rotateLeft_2 ?_
  refine lv_iload_n hx hb dJ_rotateLeft_3 rfl (lv_at hl 0 rfl) ?_
  refine lv_iload_n hx hb dJ_rotateLeft_4 rfl (lv_at hl 1 rfl) ?_
  refine lv_ineg hx hb dJ_rotateLeft_5 ?_
  refine lv_iushr hx hb dJ_rotateLeft_6 rfl ?_
  refine lv_ior hx hb dJ_rotateLeft_7 ?_
  exact rt_i hx hb hr hlk hQ hAe hP hD hS [] (by decide) rfl (Nat.le_of_ble_eq_true rfl) (Nat.le_of_ble_eq_true rfl) (rfl) dJ_rotateLeft_8

def rm_c_wordAt : Room := { frames := 0, cells := 0, slots := 0, locals := 0 }
set_option maxHeartbeats 4000000 in
set_option maxRecDepth 100000 in
/-- wordAt(i) -/
theorem c_wordAt (l : Launch) (dC : Nat → ClassId) (dI : Nat → Nat → Nat) (o : Nat) (qs : Nat) (qu : Nat) (qw : Nat) (qb : Nat) (qe : Nat) (kw : ClassId) (w : Nat → Int32) (i : Nat) (hi : i < 44) : MO l dC dI yX0_wordAt wsX0_wordAt rm_c_wordAt [.ref o, .int (nI i)] [(o, .inr (0, [.ref qs, .ref qu, .ref qw, .ref qb, .ref qe])), (qw, .inl (kw, 44, .inl w))] [(kw, .int)] [(o, .inr (0, [.ref qs, .ref qu, .ref qw, .ref qb, .ref qe])), (qw, .inl (kw, 44, .inl w))] (some (.int (w i))) := by
  refine mo_ofW (cc := cX0_wordAt) (maxL := 2) (ret := (some .int)) (by decide) rfl (Nat.le_of_ble_eq_true rfl) ?_
  intro p e s m args below meth c Q A H locs ls hx hb hr hlk hml hta hown hin hE hQ hAe hA hK hP hD hS hl
  have hown : s.vm.findClass RX0 = some m.cls := hown
  have hl : lv_has ls 2 [(0, .ref o), (1, .int (nI i))] := hl
  refine lv_aload_n hx hb dX0_wordAt_0 rfl (lv_at hl 0 rfl) ?_
  refine va_get (D := (dC, dI)) (ci := 0) (v := .ref qw) (C := RX0) (T := TX0) (N := 5) hx hb hta inX0 hown hK hP 0 rfl rfl 2 (by decide) (hta _ mw_52) (fun _ h9 => h9) rfl dX0_wordAt_1 ?_
  refine lv_iload_n hx hb dX0_wordAt_4 rfl (lv_at hl 1 rfl) ?_
  refine va_ialn hx hb hK hP 1 0 rfl rfl (by omega) (by decide) dX0_wordAt_5 ?_
  exact rt_i hx hb hr hlk hQ hAe hP hD hS [0, 1] (by decide) rfl (Nat.le_of_ble_eq_true rfl) (Nat.le_of_ble_eq_true rfl) (rfl) dX0_wordAt_6

def rm_c_substWord : Room := { frames := 0, cells := 0, slots := 0, locals := 0 }
set_option maxHeartbeats 4000000 in
set_option maxRecDepth 100000 in
/-- substWord(x) -/
theorem c_substWord (l : Launch) (dC : Nat → ClassId) (dI : Nat → Nat → Nat) (o : Nat) (qs : Nat) (qu : Nat) (qw : Nat) (qb : Nat) (qe : Nat) (ks : ClassId) (sb : Nat → Nat) (x : Int32) : MO l dC dI yX0_substWord wsX0_substWord rm_c_substWord [.ref o, .int x] [(o, .inr (0, [.ref qs, .ref qu, .ref qw, .ref qb, .ref qe])), (qs, .inl (ks, 256, .inl (nF sb)))] [(ks, .int)] [(o, .inr (0, [.ref qs, .ref qu, .ref qw, .ref qb, .ref qe])), (qs, .inl (ks, 256, .inl (nF sb)))] (some (.int (nI (swN sb x)))) := by
  refine mo_ofW (cc := cX0_substWord) (maxL := 2) (ret := (some .int)) (by decide) rfl (Nat.le_of_ble_eq_true rfl) ?_
  intro p e s m args below meth c Q A H locs ls hx hb hr hlk hml hta hown hin hE hQ hAe hA hK hP hD hS hl
  have hown : s.vm.findClass RX0 = some m.cls := hown
  have hl : lv_has ls 2 [(0, .ref o), (1, .int x)] := hl
  refine lv_aload_n hx hb dX0_substWord_0 rfl (lv_at hl 0 rfl) ?_
  refine va_get (D := (dC, dI)) (ci := 0) (v := .ref qs) (C := RX0) (T := TX0) (N := 5) hx hb hta inX0 hown hK hP 0 rfl rfl 0 (by decide) (hta _ mw_50) (fun _ h9 => h9) rfl dX0_substWord_1 ?_
  refine lv_iload_n hx hb dX0_substWord_4 rfl (lv_at hl 1 rfl) ?_
  refine lv_bipush (v := nI 24) hx hb dX0_substWord_5 (by decide) ?_
  refine lv_iushr hx hb dX0_substWord_7 rfl (top_i (w_ushr _ (by decide)) ?_)
  refine va_ialb hx hb hK hP 1 0 rfl rfl (wq24 _) (by decide) dX0_substWord_8 ?_
  refine lv_bipush (v := nI 24) hx hb dX0_substWord_9 (by decide) ?_
  refine lv_ishl hx hb dX0_substWord_11 (top_i (n_shl _ (by decide)) ?_)
  refine lv_aload_n hx hb dX0_substWord_12 rfl (lv_at hl 0 rfl) ?_
  refine va_get (D := (dC, dI)) (ci := 0) (v := .ref qs) (C := RX0) (T := TX0) (N := 5) hx hb hta inX0 hown hK hP 0 rfl rfl 0 (by decide) (hta _ mw_50) (fun _ h9 => h9) rfl dX0_substWord_13 ?_
  refine lv_iload_n hx hb dX0_substWord_16 rfl (lv_at hl 1 rfl) ?_
  refine w_pc (pc2 := 17) rfl ?_
  refine lv_bipush (v := nI 16) hx hb dX0_substWord_17 (by decide) ?_
  refine lv_iushr hx hb dX0_substWord_19 rfl (top_i (w_ushr _ (by decide)) ?_)
  refine lv_sipush (v := nI 255) hx hb dX0_substWord_20 (by decide) ?_
  refine lv_iand hx hb dX0_substWord_23 (top_i (n_m255 _) ?_)
  refine va_ialb hx hb hK hP 1 0 rfl rfl (Nat.mod_lt _ (by decide)) (by decide) dX0_substWord_24 ?_
  refine lv_bipush (v := nI 16) hx hb dX0_substWord_25 (by decide) ?_
  refine lv_ishl hx hb dX0_substWord_27 (top_i (n_shl _ (by decide)) ?_)
  refine lv_ior hx hb dX0_substWord_28 (top_i (n_or _ _) ?_)
  refine lv_aload_n hx hb dX0_substWord_29 rfl (lv_at hl 0 rfl) ?_
  refine va_get (D := (dC, dI)) (ci := 0) (v := .ref qs) (C := RX0) (T := TX0) (N := 5) hx hb hta inX0 hown hK hP 0 rfl rfl 0 (by decide) (hta _ mw_50) (fun _ h9 => h9) rfl dX0_substWord_30 ?_
  refine lv_iload_n hx hb dX0_substWord_33 rfl (lv_at hl 1 rfl) ?_
  refine lv_bipush (v := nI 8) hx hb dX0_substWord_34 (by decide) ?_
  refine w_pc (pc2 := 36) rfl ?_
  refine lv_iushr hx hb dX0_substWord_36 rfl (top_i (w_ushr _ (by decide)) ?_)
  refine lv_sipush (v := nI 255) hx hb dX0_substWord_37 (by decide) ?_
  refine lv_iand hx hb dX0_substWord_40 (top_i (n_m255 _) ?_)
  refine va_ialb hx hb hK hP 1 0 rfl rfl (Nat.mod_lt _ (by decide)) (by decide) dX0_substWord_41 ?_
  refine lv_bipush (v := nI 8) hx hb dX0_substWord_42 (by decide) ?_
  refine lv_ishl hx hb dX0_substWord_44 (top_i (n_shl _ (by decide)) ?_)
  refine lv_ior hx hb dX0_substWord_45 (top_i (n_or _ _) ?_)
  refine lv_aload_n hx hb dX0_substWord_46 rfl (lv_at hl 0 rfl) ?_
  refine va_get (D := (dC, dI)) (ci := 0) (v := .ref qs) (C := RX0) (T := TX0) (N := 5) hx hb hta inX0 hown hK hP 0 rfl rfl 0 (by decide) (hta _ mw_50) (fun _ h9 => h9) rfl dX0_substWord_47 ?_
  refine lv_iload_n hx hb dX0_substWord_50 rfl (lv_at hl 1 rfl) ?_
  refine lv_sipush (v := nI 255) hx hb dX0_substWord_51 (by decide) ?_
  refine lv_iand hx hb dX0_substWord_54 (top_i (w_m255 _) ?_)
  refine w_pc (pc2 := 55) rfl ?_
  refine va_ialb hx hb hK hP 1 0 rfl rfl (Nat.mod_lt _ (by decide)) (by decide) dX0_substWord_55 ?_
  refine lv_ior hx hb dX0_substWord_56 (top_i (n_or _ _) ?_)
  exact rt_i hx hb hr hlk hQ hAe hP hD hS [0, 1] (by decide) rfl (Nat.le_of_ble_eq_true rfl) (Nat.le_of_ble_eq_true rfl) (rfl) dX0_substWord_57

def rm_c_load : Room := { frames := 0, cells := 0, slots := 0, locals := 0 }
set_option maxHeartbeats 4000000 in
set_option maxRecDepth 100000 in
/-- load(hi, lo) -/
theorem c_load (l : Launch) (dC : Nat → ClassId) (dI : Nat → Nat → Nat) (o : Nat) (qs : Nat) (qu : Nat) (qw : Nat) (qb : Nat) (qe : Nat) (kb : ClassId) (b : Nat → Nat) (hi : Int64) (lo : Int64) : MO l dC dI yX0_load wsX0_load rm_c_load [.ref o, .long hi, .long lo] [(o, .inr (0, [.ref qs, .ref qu, .ref qw, .ref qb, .ref qe])), (qb, .inl (kb, 16, .inl (nF b)))] [(kb, .int)] [(o, .inr (0, [.ref qs, .ref qu, .ref qw, .ref qb, .ref qe])), (qb, .inl (kb, 16, .inl (nF (ldN hi lo))))] none := by
  refine mo_ofW (cc := cX0_load) (maxL := 6) (ret := none) (by decide) rfl (Nat.le_of_ble_eq_true rfl) ?_
  intro p e s m args below meth c Q A H locs ls hx hb hr hlk hml hta hown hin hE hQ hAe hA hK hP hD hS hl
  have hown : s.vm.findClass RX0 = some m.cls := hown
  have hl : lv_has ls 6 [(0, .ref o), (1, .long hi), (3, .long lo)] := hl
  refine lv_iconst (v := nI 0) hx hb dX0_load_0 (by decide) ?_
  refine lv_istore hx hb dX0_load_1 hl (by decide) rfl (fun ls hl => ?_)
  have hl : lv_has ls 6 [(5, .int (nI 0)), (0, .ref o), (1, .long hi), (3, .long lo)] := hl
  obtain ⟨hP, hD⟩ := va_recb (g := ldp hi lo b 0) hP hD 1 rfl (fun i _ => ldp_0 hi lo b i)
  have hP : va_P (dC, dI) vwCl [(o, .inr (0, [.ref qs, .ref qu, .ref qw, .ref qb, .ref qe])), (qb, .inl (kb, 16, .inl (nF (ldp hi lo b 0))))] H := hP
  have hD : va_D A [(o, .inr (0, [.ref qs, .ref qu, .ref qw, .ref qb, .ref qe])), (qb, .inl (kb, 16, .inl (nF (ldp hi lo b 0))))] := hD
  have loop_3 : ∀ (n k : Nat) (ls : Array Slot) (H : Heap) (locs : List Loc), k + n = 8 → lv_has ls 6 [(5, .int (nI k)), (0, .ref o), (1, .long hi), (3, .long lo)] → va_P (dC, dI) vwCl [(o, .inr (0, [.ref qs, .ref qu, .ref qw, .ref qb, .ref qe])), (qb, .inl (kb, 16, .inl (nF (ldp hi lo b k))))] H → va_D A [(o, .inr (0, [.ref qs, .ref qu, .ref qw, .ref qb, .ref qe])), (qb, .inl (kb, 16, .inl (nF (ldp hi lo b k))))] → va_S A s.heap H locs → W p l e rm_c_load s m args below meth c H locs 0 0 Q (F0 m 3 ls []) := by
    intro n
    induction n with
    | zero =>
      intro k ls H locs hn_3  hl hP hD hS
      obtain rfl : 8 = k := by omega
      refine lv_iload hx hb dX0_load_3 (lv_at hl 0 rfl) ?_
      refine lv_bipush (v := nI 8) hx hb dX0_load_5 (by decide) ?_
      refine lv_icmp_ge (tgt := 63) hx hb dX0_load_7 (by decide) (fun hc_7 => ?_) (fun hc_7 => ?_)
      · skip
        have hc_7 := (ix_le (a := 8) (b := 8) (by omega) (by omega)).mp hc_7
        have hc_7 : (8 ≤ 8) := hc_7
        obtain ⟨hP, hD⟩ := va_recb (g := ldN hi lo) hP hD 1 rfl (fun i hi9 => ldp_8 hi lo b i hi9)
        have hP : va_P (dC, dI) vwCl [(o, .inr (0, [.ref qs, .ref qu, .ref qw, .ref qb, .ref qe])), (qb, .inl (kb, 16, .inl (nF (ldN hi lo))))] H := hP
        have hD : va_D A [(o, .inr (0, [.ref qs, .ref qu, .ref qw, .ref qb, .ref qe])), (qb, .inl (kb, 16, .inl (nF (ldN hi lo))))] := hD
        exact rt_0 hx hb hr hlk hQ hAe hP hD hS [0, 1] (by decide) rfl (Nat.le_of_ble_eq_true rfl) (Nat.le_of_ble_eq_true rfl) dX0_load_63
      · skip
        have hc_7 := (not_congr (ix_le (a := 8) (b := 8) (by omega) (by omega))).mp hc_7
        have hc_7 : ¬ (8 ≤ 8) := hc_7
        exfalso; omega
    | succ n ih =>
      intro k ls H locs hn_3  hl hP hD hS
      refine lv_iload hx hb dX0_load_3 (lv_at hl 0 rfl) ?_
      refine lv_bipush (v := nI 8) hx hb dX0_load_5 (by decide) ?_
      refine lv_icmp_ge (tgt := 63) hx hb dX0_load_7 (by decide) (fun hc_7 => ?_) (fun hc_7 => ?_)
      · skip
        have hc_7 := (ix_le (a := 8) (b := k) (by omega) (by omega)).mp hc_7
        have hc_7 : (8 ≤ k) := hc_7
        exfalso; omega
      · skip
        have hc_7 := (not_congr (ix_le (a := 8) (b := k) (by omega) (by omega))).mp hc_7
        have hc_7 : ¬ (8 ≤ k) := hc_7
        refine lv_aload_n hx hb dX0_load_10 rfl (lv_at hl 1 rfl) ?_
        refine va_get (D := (dC, dI)) (ci := 0) (v := .ref qb) (C := RX0) (T := TX0) (N := 5) hx hb hta inX0 hown hK hP 0 rfl rfl 3 (by decide) (hta _ mw_53) (fun _ h9 => h9) rfl dX0_load_11 ?_
        refine lv_iload hx hb dX0_load_14 (lv_at hl 0 rfl) ?_
        refine lv_lload_n hx hb dX0_load_16 rfl (lv_at hl 2 rfl) ?_
        refine lv_bipush (v := nI 56) hx hb dX0_load_17 (by decide) ?_
        refine lv_bipush (v := nI 8) hx hb dX0_load_19 (by decide) ?_
        refine lv_iload hx hb dX0_load_21 (lv_at hl 0 rfl) ?_
        refine lv_imul hx hb dX0_load_23 (top_i (pk_mul _ _) ?_)
        refine lv_isub hx hb dX0_load_24 (top_i (pk_sub (by omega)) ?_)
        refine lv_lushr hx hb dX0_load_25 rfl (top_l (l_ushr _ (by omega)) ?_)
        refine lv_l2i hx hb dX0_load_26 rfl (top_i (lN_i _) ?_)
        refine w_pc (pc2 := 27) rfl ?_
        refine lv_sipush (v := nI 255) hx hb dX0_load_27 (by decide) ?_
        refine lv_iand hx hb dX0_load_30 (top_i (n_m255 _) ?_)
        refine va_iasb hx hb hK hP hD hS 1 0 rfl rfl (by omega) (by decide) dX0_load_31 (fun H locs hP hD hS => ?_)
        have hP : va_P (dC, dI) vwCl [(o, .inr (0, [.ref qs, .ref qu, .ref qw, .ref qb, .ref qe])), (qb, .inl (kb, 16, .inl (nF (un (ldp hi lo b k) k ((lW hi / 2 ^ (56 - (8 * k))) % 256)))))] H := hP
        have hD : va_D A [(o, .inr (0, [.ref qs, .ref qu, .ref qw, .ref qb, .ref qe])), (qb, .inl (kb, 16, .inl (nF (un (ldp hi lo b k) k ((lW hi / 2 ^ (56 - (8 * k))) % 256)))))] := hD
        refine lv_aload_n hx hb dX0_load_32 rfl (lv_at hl 1 rfl) ?_
        refine va_get (D := (dC, dI)) (ci := 0) (v := .ref qb) (C := RX0) (T := TX0) (N := 5) hx hb hta inX0 hown hK hP 0 rfl rfl 3 (by decide) (hta _ mw_53) (fun _ h9 => h9) rfl dX0_load_33 ?_
        refine lv_bipush (v := nI 8) hx hb dX0_load_36 (by decide) ?_
        refine lv_iload hx hb dX0_load_38 (lv_at hl 0 rfl) ?_
        refine lv_iadd hx hb dX0_load_40 (top_i (nI_add _ _) ?_)
        refine lv_lload_n hx hb dX0_load_41 rfl (lv_at hl 3 rfl) ?_
        refine lv_bipush (v := nI 56) hx hb dX0_load_42 (by decide) ?_
        refine lv_bipush (v := nI 8) hx hb dX0_load_44 (by decide) ?_
        refine lv_iload hx hb dX0_load_46 (lv_at hl 0 rfl) ?_
        refine w_pc (pc2 := 48) rfl ?_
        refine lv_imul hx hb dX0_load_48 (top_i (pk_mul _ _) ?_)
        refine lv_isub hx hb dX0_load_49 (top_i (pk_sub (by omega)) ?_)
        refine lv_lushr hx hb dX0_load_50 rfl (top_l (l_ushr _ (by omega)) ?_)
        refine lv_l2i hx hb dX0_load_51 rfl (top_i (lN_i _) ?_)
        refine lv_sipush (v := nI 255) hx hb dX0_load_52 (by decide) ?_
        refine lv_iand hx hb dX0_load_55 (top_i (n_m255 _) ?_)
        refine va_iasb hx hb hK hP hD hS 1 0 rfl rfl (by omega) (by decide) dX0_load_56 (fun H locs hP hD hS => ?_)
        have hP : va_P (dC, dI) vwCl [(o, .inr (0, [.ref qs, .ref qu, .ref qw, .ref qb, .ref qe])), (qb, .inl (kb, 16, .inl (nF (un (un (ldp hi lo b k) k ((lW hi / 2 ^ (56 - (8 * k))) % 256)) (8 + k) ((lW lo / 2 ^ (56 - (8 * k))) % 256)))))] H := hP
        have hD : va_D A [(o, .inr (0, [.ref qs, .ref qu, .ref qw, .ref qb, .ref qe])), (qb, .inl (kb, 16, .inl (nF (un (un (ldp hi lo b k) k ((lW hi / 2 ^ (56 - (8 * k))) % 256)) (8 + k) ((lW lo / 2 ^ (56 - (8 * k))) % 256)))))] := hD
        refine lv_iinc (v := nI (k + 1)) (k := 0) hx hb dX0_load_57 hl rfl (ix_inc _ 1) (by decide) rfl (fun ls hl => ?_)
        have hl : lv_has ls 6 [(5, .int (nI (k + 1))), (0, .ref o), (1, .long hi), (3, .long lo)] := hl
        refine lv_goto (tgt := 3) hx hb dX0_load_60 (by decide) ?_
        obtain ⟨hP, hD⟩ := va_recb (g := ldp hi lo b (k + 1)) hP hD 1 rfl (fun i hi9 => ldp_s hi lo b k (by omega) i hi9)
        have hP : va_P (dC, dI) vwCl [(o, .inr (0, [.ref qs, .ref qu, .ref qw, .ref qb, .ref qe])), (qb, .inl (kb, 16, .inl (nF (ldp hi lo b (k + 1)))))] H := hP
        have hD : va_D A [(o, .inr (0, [.ref qs, .ref qu, .ref qw, .ref qb, .ref qe])), (qb, .inl (kb, 16, .inl (nF (ldp hi lo b (k + 1)))))] := hD
        exact ih (k + 1) ls H locs (by omega)  (lv_sub hl [0, 1, 2, 3] rfl) hP hD hS
  exact loop_3 8 0 ls H locs (by omega)  (lv_sub hl [0, 1, 2, 3] rfl) hP hD hS

def rm_c_addWords : Room := { frames := 0, cells := 0, slots := 0, locals := 0 }
set_option maxHeartbeats 4000000 in
set_option maxRecDepth 100000 in
/-- addWords(j) -/
theorem c_addWords (l : Launch) (dC : Nat → ClassId) (dI : Nat → Nat → Nat) (o : Nat) (qs : Nat) (qu : Nat) (qw : Nat) (qb : Nat) (qe : Nat) (kw : ClassId) (kb : ClassId) (w : Nat → Int32) (b : Nat → Nat) (j : Nat) (hj : j ≤ 10) : MO l dC dI yX0_addWords wsX0_addWords rm_c_addWords [.ref o, .int (nI j)] [(o, .inr (0, [.ref qs, .ref qu, .ref qw, .ref qb, .ref qe])), (qw, .inl (kw, 44, .inl w)), (qb, .inl (kb, 16, .inl (nF b)))] [(kw, .int), (kb, .int)] [(o, .inr (0, [.ref qs, .ref qu, .ref qw, .ref qb, .ref qe])), (qw, .inl (kw, 44, .inl w)), (qb, .inl (kb, 16, .inl (nF (akN w j b))))] none := by
  refine mo_ofW (cc := cX0_addWords) (maxL := 4) (ret := none) (by decide) rfl (Nat.le_of_ble_eq_true rfl) ?_
  intro p e s m args below meth c Q A H locs ls hx hb hr hlk hml hta hown hin hE hQ hAe hA hK hP hD hS hl
  have hown : s.vm.findClass RX0 = some m.cls := hown
  have hl : lv_has ls 4 [(0, .ref o), (1, .int (nI j))] := hl
  refine lv_iconst (v := nI 0) hx hb dX0_addWords_0 (by decide) ?_
  refine lv_istore_n hx hb dX0_addWords_1 rfl hl (by decide) rfl (fun ls hl => ?_)
  have hl : lv_has ls 4 [(2, .int (nI 0)), (0, .ref o), (1, .int (nI j))] := hl
  obtain ⟨hP, hD⟩ := va_recb (g := akp w j b 0) hP hD 2 rfl (fun i _ => akp_0 w j b i)
  have hP : va_P (dC, dI) vwCl [(o, .inr (0, [.ref qs, .ref qu, .ref qw, .ref qb, .ref qe])), (qw, .inl (kw, 44, .inl w)), (qb, .inl (kb, 16, .inl (nF (akp w j b 0))))] H := hP
  have hD : va_D A [(o, .inr (0, [.ref qs, .ref qu, .ref qw, .ref qb, .ref qe])), (qw, .inl (kw, 44, .inl w)), (qb, .inl (kb, 16, .inl (nF (akp w j b 0))))] := hD
  have loop_2 : ∀ (n k : Nat) (ls : Array Slot) (H : Heap) (locs : List Loc), k + n = 4 → lv_has ls 4 [(2, .int (nI k)), (0, .ref o), (1, .int (nI j))] → va_P (dC, dI) vwCl [(o, .inr (0, [.ref qs, .ref qu, .ref qw, .ref qb, .ref qe])), (qw, .inl (kw, 44, .inl w)), (qb, .inl (kb, 16, .inl (nF (akp w j b k))))] H → va_D A [(o, .inr (0, [.ref qs, .ref qu, .ref qw, .ref qb, .ref qe])), (qw, .inl (kw, 44, .inl w)), (qb, .inl (kb, 16, .inl (nF (akp w j b k))))] → va_S A s.heap H locs → W p l e rm_c_addWords s m args below meth c H locs 0 0 Q (F0 m 2 ls []) := by
    intro n
    induction n with
    | zero =>
      intro k ls H locs hn_2  hl hP hD hS
      obtain rfl : 4 = k := by omega
      refine lv_iload_n hx hb dX0_addWords_2 rfl (lv_at hl 0 rfl) ?_
      refine lv_iconst (v := nI 4) hx hb dX0_addWords_3 (by decide) ?_
      refine lv_icmp_ge (tgt := 99) hx hb dX0_addWords_4 (by decide) (fun hc_4 => ?_) (fun hc_4 => ?_)
      · skip
        have hc_4 := (ix_le (a := 4) (b := 4) (by omega) (by omega)).mp hc_4
        have hc_4 : (4 ≤ 4) := hc_4
        obtain ⟨hP, hD⟩ := va_recb (g := akN w j b) hP hD 2 rfl (fun i hi9 => akp_4 w j b i hi9)
        have hP : va_P (dC, dI) vwCl [(o, .inr (0, [.ref qs, .ref qu, .ref qw, .ref qb, .ref qe])), (qw, .inl (kw, 44, .inl w)), (qb, .inl (kb, 16, .inl (nF (akN w j b))))] H := hP
        have hD : va_D A [(o, .inr (0, [.ref qs, .ref qu, .ref qw, .ref qb, .ref qe])), (qw, .inl (kw, 44, .inl w)), (qb, .inl (kb, 16, .inl (nF (akN w j b))))] := hD
        exact rt_0 hx hb hr hlk hQ hAe hP hD hS [0, 1, 2] (by decide) rfl (Nat.le_of_ble_eq_true rfl) (Nat.le_of_ble_eq_true rfl) dX0_addWords_99
      · skip
        have hc_4 := (not_congr (ix_le (a := 4) (b := 4) (by omega) (by omega))).mp hc_4
        have hc_4 : ¬ (4 ≤ 4) := hc_4
        exfalso; omega
    | succ n ih =>
      intro k ls H locs hn_2  hl hP hD hS
      refine lv_iload_n hx hb dX0_addWords_2 rfl (lv_at hl 0 rfl) ?_
      refine lv_iconst (v := nI 4) hx hb dX0_addWords_3 (by decide) ?_
      refine lv_icmp_ge (tgt := 99) hx hb dX0_addWords_4 (by decide) (fun hc_4 => ?_) (fun hc_4 => ?_)
      · skip
        have hc_4 := (ix_le (a := 4) (b := k) (by omega) (by omega)).mp hc_4
        have hc_4 : (4 ≤ k) := hc_4
        exfalso; omega
      · skip
        have hc_4 := (not_congr (ix_le (a := 4) (b := k) (by omega) (by omega))).mp hc_4
        have hc_4 : ¬ (4 ≤ k) := hc_4
        refine lv_aload_n hx hb dX0_addWords_7 rfl (lv_at hl 1 rfl) ?_
        refine va_get (D := (dC, dI)) (ci := 0) (v := .ref qw) (C := RX0) (T := TX0) (N := 5) hx hb hta inX0 hown hK hP 0 rfl rfl 2 (by decide) (hta _ mw_52) (fun _ h9 => h9) rfl dX0_addWords_8 ?_
        refine lv_iconst (v := nI 4) hx hb dX0_addWords_11 (by decide) ?_
        refine lv_iload_n hx hb dX0_addWords_12 rfl (lv_at hl 2 rfl) ?_
        refine lv_imul hx hb dX0_addWords_13 (top_i (pk_mul _ _) ?_)
        refine lv_iload_n hx hb dX0_addWords_14 rfl (lv_at hl 0 rfl) ?_
        refine lv_iadd hx hb dX0_addWords_15 (top_i (nI_add _ _) ?_)
        refine va_ialn hx hb hK hP 1 0 rfl rfl (by omega) (by decide) dX0_addWords_16 ?_
        refine lv_istore_n hx hb dX0_addWords_17 rfl hl (by decide) rfl (fun ls hl => ?_)
        have hl : lv_has ls 4 [(3, .int (w ((4 * j) + k))), (2, .int (nI k)), (0, .ref o), (1, .int (nI j))] := hl
        refine lv_aload_n hx hb dX0_addWords_18 rfl (lv_at hl 2 rfl) ?_
        refine va_get (D := (dC, dI)) (ci := 0) (v := .ref qb) (C := RX0) (T := TX0) (N := 5) hx hb hta inX0 hown hK hP 0 rfl rfl 3 (by decide) (hta _ mw_53) (fun _ h9 => h9) rfl dX0_addWords_19 ?_
        refine w_pc (pc2 := 22) rfl ?_
        refine lv_iconst (v := nI 4) hx hb dX0_addWords_22 (by decide) ?_
        refine lv_iload_n hx hb dX0_addWords_23 rfl (lv_at hl 1 rfl) ?_
        refine lv_imul hx hb dX0_addWords_24 (top_i (pk_mul _ _) ?_)
        refine lv_dup2_11 hx hb dX0_addWords_25 rfl rfl ?_
        refine va_ialb hx hb hK hP 2 1 rfl rfl (by omega) (by decide) dX0_addWords_26 ?_
        refine top_i (y := nI (b (4 * k))) (congrArg nI (akp_ge w j b k _ (by omega))) ?_
        refine lv_iload_n hx hb dX0_addWords_27 rfl (lv_at hl 0 rfl) ?_
        refine lv_bipush (v := nI 24) hx hb dX0_addWords_28 (by decide) ?_
        refine lv_iushr hx hb dX0_addWords_30 rfl (top_i (w_ushr _ (by decide)) ?_)
        refine lv_ixor hx hb dX0_addWords_31 ?_
        refine top_i (y := nI ((b (4 * k)) ^^^ (wbt (w ((4 * j) + k)) 0))) (by rw [n_xor, wbt_0]) ?_
        refine va_iasb hx hb hK hP hD hS 2 1 rfl rfl (by omega) (by decide) dX0_addWords_32 (fun H locs hP hD hS => ?_)
        have hP : va_P (dC, dI) vwCl [(o, .inr (0, [.ref qs, .ref qu, .ref qw, .ref qb, .ref qe])), (qw, .inl (kw, 44, .inl w)), (qb, .inl (kb, 16, .inl (nF (un (akp w j b k) (4 * k) ((b (4 * k)) ^^^ (wbt (w ((4 * j) + k)) 0))))))] H := hP
        have hD : va_D A [(o, .inr (0, [.ref qs, .ref qu, .ref qw, .ref qb, .ref qe])), (qw, .inl (kw, 44, .inl w)), (qb, .inl (kb, 16, .inl (nF (un (akp w j b k) (4 * k) ((b (4 * k)) ^^^ (wbt (w ((4 * j) + k)) 0))))))] := hD
        refine lv_aload_n hx hb dX0_addWords_33 rfl (lv_at hl 2 rfl) ?_
        refine va_get (D := (dC, dI)) (ci := 0) (v := .ref qb) (C := RX0) (T := TX0) (N := 5) hx hb hta inX0 hown hK hP 0 rfl rfl 3 (by decide) (hta _ mw_53) (fun _ h9 => h9) rfl dX0_addWords_34 ?_
        refine w_pc (pc2 := 37) rfl ?_
        refine lv_iconst (v := nI 4) hx hb dX0_addWords_37 (by decide) ?_
        refine lv_iload_n hx hb dX0_addWords_38 rfl (lv_at hl 1 rfl) ?_
        refine lv_imul hx hb dX0_addWords_39 (top_i (pk_mul _ _) ?_)
        refine lv_iconst (v := nI 1) hx hb dX0_addWords_40 (by decide) ?_
        refine lv_iadd hx hb dX0_addWords_41 (top_i (nI_add _ _) ?_)
        refine lv_dup2_11 hx hb dX0_addWords_42 rfl rfl ?_
        refine va_ialb hx hb hK hP 2 1 rfl rfl (by omega) (by decide) dX0_addWords_43 ?_
        refine top_i (y := nI (b ((4 * k) + 1))) (congrArg nI ((un_n (by omega)).trans (akp_ge w j b k _ (by omega)))) ?_
        refine lv_iload_n hx hb dX0_addWords_44 rfl (lv_at hl 0 rfl) ?_
        refine lv_bipush (v := nI 16) hx hb dX0_addWords_45 (by decide) ?_
        refine lv_iushr hx hb dX0_addWords_47 rfl (top_i (w_ushr _ (by decide)) ?_)
        refine lv_sipush (v := nI 255) hx hb dX0_addWords_48 (by decide) ?_
        refine lv_iand hx hb dX0_addWords_51 (top_i (n_m255 _) ?_)
        refine w_pc (pc2 := 52) rfl ?_
        refine lv_ixor hx hb dX0_addWords_52 ?_
        refine top_i (y := nI ((b ((4 * k) + 1)) ^^^ (wbt (w ((4 * j) + k)) 1))) (n_xor _ _) ?_
        refine va_iasb hx hb hK hP hD hS 2 1 rfl rfl (by omega) (by decide) dX0_addWords_53 (fun H locs hP hD hS => ?_)
        have hP : va_P (dC, dI) vwCl [(o, .inr (0, [.ref qs, .ref qu, .ref qw, .ref qb, .ref qe])), (qw, .inl (kw, 44, .inl w)), (qb, .inl (kb, 16, .inl (nF (un (un (akp w j b k) (4 * k) ((b (4 * k)) ^^^ (wbt (w ((4 * j) + k)) 0))) ((4 * k) + 1) ((b ((4 * k) + 1)) ^^^ (wbt (w ((4 * j) + k)) 1))))))] H := hP
        have hD : va_D A [(o, .inr (0, [.ref qs, .ref qu, .ref qw, .ref qb, .ref qe])), (qw, .inl (kw, 44, .inl w)), (qb, .inl (kb, 16, .inl (nF (un (un (akp w j b k) (4 * k) ((b (4 * k)) ^^^ (wbt (w ((4 * j) + k)) 0))) ((4 * k) + 1) ((b ((4 * k) + 1)) ^^^ (wbt (w ((4 * j) + k)) 1))))))] := hD
        refine lv_aload_n hx hb dX0_addWords_54 rfl (lv_at hl 2 rfl) ?_
        refine va_get (D := (dC, dI)) (ci := 0) (v := .ref qb) (C := RX0) (T := TX0) (N := 5) hx hb hta inX0 hown hK hP 0 rfl rfl 3 (by decide) (hta _ mw_53) (fun _ h9 => h9) rfl dX0_addWords_55 ?_
        refine lv_iconst (v := nI 4) hx hb dX0_addWords_58 (by decide) ?_
        refine lv_iload_n hx hb dX0_addWords_59 rfl (lv_at hl 1 rfl) ?_
        refine lv_imul hx hb dX0_addWords_60 (top_i (pk_mul _ _) ?_)
        refine lv_iconst (v := nI 2) hx hb dX0_addWords_61 (by decide) ?_
        refine lv_iadd hx hb dX0_addWords_62 (top_i (nI_add _ _) ?_)
        refine lv_dup2_11 hx hb dX0_addWords_63 rfl rfl ?_
        refine va_ialb hx hb hK hP 2 1 rfl rfl (by omega) (by decide) dX0_addWords_64 ?_
        refine top_i (y := nI (b ((4 * k) + 2))) (congrArg nI ((un_n (by omega)).trans ((un_n (by omega)).trans (akp_ge w j b k _ (by omega))))) ?_
        refine lv_iload_n hx hb dX0_addWords_65 rfl (lv_at hl 0 rfl) ?_
        refine w_pc (pc2 := 66) rfl ?_
        refine lv_bipush (v := nI 8) hx hb dX0_addWords_66 (by decide) ?_
        refine lv_iushr hx hb dX0_addWords_68 rfl (top_i (w_ushr _ (by decide)) ?_)
        refine lv_sipush (v := nI 255) hx hb dX0_addWords_69 (by decide) ?_
        refine lv_iand hx hb dX0_addWords_72 (top_i (n_m255 _) ?_)
        refine lv_ixor hx hb dX0_addWords_73 ?_
        refine top_i (y := nI ((b ((4 * k) + 2)) ^^^ (wbt (w ((4 * j) + k)) 2))) (n_xor _ _) ?_
        refine va_iasb hx hb hK hP hD hS 2 1 rfl rfl (by omega) (by decide) dX0_addWords_74 (fun H locs hP hD hS => ?_)
        have hP : va_P (dC, dI) vwCl [(o, .inr (0, [.ref qs, .ref qu, .ref qw, .ref qb, .ref qe])), (qw, .inl (kw, 44, .inl w)), (qb, .inl (kb, 16, .inl (nF (un (un (un (akp w j b k) (4 * k) ((b (4 * k)) ^^^ (wbt (w ((4 * j) + k)) 0))) ((4 * k) + 1) ((b ((4 * k) + 1)) ^^^ (wbt (w ((4 * j) + k)) 1))) ((4 * k) + 2) ((b ((4 * k) + 2)) ^^^ (wbt (w ((4 * j) + k)) 2))))))] H := hP
        have hD : va_D A [(o, .inr (0, [.ref qs, .ref qu, .ref qw, .ref qb, .ref qe])), (qw, .inl (kw, 44, .inl w)), (qb, .inl (kb, 16, .inl (nF (un (un (un (akp w j b k) (4 * k) ((b (4 * k)) ^^^ (wbt (w ((4 * j) + k)) 0))) ((4 * k) + 1) ((b ((4 * k) + 1)) ^^^ (wbt (w ((4 * j) + k)) 1))) ((4 * k) + 2) ((b ((4 * k) + 2)) ^^^ (wbt (w ((4 * j) + k)) 2))))))] := hD
        refine lv_aload_n hx hb dX0_addWords_75 rfl (lv_at hl 2 rfl) ?_
        refine va_get (D := (dC, dI)) (ci := 0) (v := .ref qb) (C := RX0) (T := TX0) (N := 5) hx hb hta inX0 hown hK hP 0 rfl rfl 3 (by decide) (hta _ mw_53) (fun _ h9 => h9) rfl dX0_addWords_76 ?_
        refine lv_iconst (v := nI 4) hx hb dX0_addWords_79 (by decide) ?_
        refine lv_iload_n hx hb dX0_addWords_80 rfl (lv_at hl 1 rfl) ?_
        refine lv_imul hx hb dX0_addWords_81 (top_i (pk_mul _ _) ?_)
        refine lv_iconst (v := nI 3) hx hb dX0_addWords_82 (by decide) ?_
        refine w_pc (pc2 := 83) rfl ?_
        refine lv_iadd hx hb dX0_addWords_83 (top_i (nI_add _ _) ?_)
        refine lv_dup2_11 hx hb dX0_addWords_84 rfl rfl ?_
        refine va_ialb hx hb hK hP 2 1 rfl rfl (by omega) (by decide) dX0_addWords_85 ?_
        refine top_i (y := nI (b ((4 * k) + 3))) (congrArg nI ((un_n (by omega)).trans ((un_n (by omega)).trans ((un_n (by omega)).trans (akp_ge w j b k _ (by omega)))))) ?_
        refine lv_iload_n hx hb dX0_addWords_86 rfl (lv_at hl 0 rfl) ?_
        refine lv_sipush (v := nI 255) hx hb dX0_addWords_87 (by decide) ?_
        refine lv_iand hx hb dX0_addWords_90 (top_i (w_m255 _) ?_)
        refine lv_ixor hx hb dX0_addWords_91 ?_
        refine top_i (y := nI ((b ((4 * k) + 3)) ^^^ (wbt (w ((4 * j) + k)) 3))) (by rw [n_xor, wbt_3]) ?_
        refine va_iasb hx hb hK hP hD hS 2 1 rfl rfl (by omega) (by decide) dX0_addWords_92 (fun H locs hP hD hS => ?_)
        have hP : va_P (dC, dI) vwCl [(o, .inr (0, [.ref qs, .ref qu, .ref qw, .ref qb, .ref qe])), (qw, .inl (kw, 44, .inl w)), (qb, .inl (kb, 16, .inl (nF (un (un (un (un (akp w j b k) (4 * k) ((b (4 * k)) ^^^ (wbt (w ((4 * j) + k)) 0))) ((4 * k) + 1) ((b ((4 * k) + 1)) ^^^ (wbt (w ((4 * j) + k)) 1))) ((4 * k) + 2) ((b ((4 * k) + 2)) ^^^ (wbt (w ((4 * j) + k)) 2))) ((4 * k) + 3) ((b ((4 * k) + 3)) ^^^ (wbt (w ((4 * j) + k)) 3))))))] H := hP
        have hD : va_D A [(o, .inr (0, [.ref qs, .ref qu, .ref qw, .ref qb, .ref qe])), (qw, .inl (kw, 44, .inl w)), (qb, .inl (kb, 16, .inl (nF (un (un (un (un (akp w j b k) (4 * k) ((b (4 * k)) ^^^ (wbt (w ((4 * j) + k)) 0))) ((4 * k) + 1) ((b ((4 * k) + 1)) ^^^ (wbt (w ((4 * j) + k)) 1))) ((4 * k) + 2) ((b ((4 * k) + 2)) ^^^ (wbt (w ((4 * j) + k)) 2))) ((4 * k) + 3) ((b ((4 * k) + 3)) ^^^ (wbt (w ((4 * j) + k)) 3))))))] := hD
        refine lv_iinc (v := nI (k + 1)) (k := 1) hx hb dX0_addWords_93 hl rfl (ix_inc _ 1) (by decide) rfl (fun ls hl => ?_)
        have hl : lv_has ls 4 [(2, .int (nI (k + 1))), (3, .int (w ((4 * j) + k))), (0, .ref o), (1, .int (nI j))] := hl
        refine lv_goto (tgt := 2) hx hb dX0_addWords_96 (by decide) ?_
        obtain ⟨hP, hD⟩ := va_recb (g := akp w j b (k + 1)) hP hD 2 rfl (fun i _ => akp_s w j b k i)
        have hP : va_P (dC, dI) vwCl [(o, .inr (0, [.ref qs, .ref qu, .ref qw, .ref qb, .ref qe])), (qw, .inl (kw, 44, .inl w)), (qb, .inl (kb, 16, .inl (nF (akp w j b (k + 1)))))] H := hP
        have hD : va_D A [(o, .inr (0, [.ref qs, .ref qu, .ref qw, .ref qb, .ref qe])), (qw, .inl (kw, 44, .inl w)), (qb, .inl (kb, 16, .inl (nF (akp w j b (k + 1)))))] := hD
        exact ih (k + 1) ls H locs (by omega)  (lv_sub hl [0, 2, 3] rfl) hP hD hS
  exact loop_2 4 0 ls H locs (by omega)  (lv_sub hl [0, 1, 2] rfl) hP hD hS

def rm_c_copyBlock : Room := { frames := 1, cells := 0, slots := 0, locals := 60 }
set_option maxHeartbeats 4000000 in
set_option maxRecDepth 100000 in
/-- copyBlock(row) -/
theorem c_copyBlock (l : Launch) (dC : Nat → ClassId) (dI : Nat → Nat → Nat) (o : Nat) (qs : Nat) (qu : Nat) (qw : Nat) (qb : Nat) (qe : Nat) (kb : ClassId) (b : Nat → Nat) (r : Nat) (kr : ClassId) (z : Nat → Nat) : MO l dC dI yX0_copyBlock wsX0_copyBlock rm_c_copyBlock [.ref o, .ref r] [(o, .inr (0, [.ref qs, .ref qu, .ref qw, .ref qb, .ref qe])), (qb, .inl (kb, 16, .inl (nF b))), (r, .inl (kr, 16, .inl (nF z)))] [(kb, .int), (kr, .int)] [(o, .inr (0, [.ref qs, .ref qu, .ref qw, .ref qb, .ref qe])), (qb, .inl (kb, 16, .inl (nF b))), (r, .inl (kr, 16, .inl (nF b)))] none := by
  refine mo_ofW (cc := cX0_copyBlock) (maxL := 2) (ret := none) (by decide) rfl (Nat.le_of_ble_eq_true rfl) ?_
  intro p e s m args below meth c Q A H locs ls hx hb hr hlk hml hta hown hin hE hQ hAe hA hK hP hD hS hl
  have hown : s.vm.findClass RX0 = some m.cls := hown
  have hl : lv_has ls 2 [(0, .ref o), (1, .ref r)] := hl
  refine lv_aload_n hx hb dX0_copyBlock_0 rfl (lv_at hl 0 rfl) ?_
  refine va_get (D := (dC, dI)) (ci := 0) (v := .ref qb) (C := RX0) (T := TX0) (N := 5) hx hb hta inX0 hown hK hP 0 rfl rfl 3 (by decide) (hta _ mw_53) (fun _ h9 => h9) rfl dX0_copyBlock_1 ?_
  refine lv_iconst (v := nI 0) hx hb dX0_copyBlock_4 (by decide) ?_
  refine lv_aload_n hx hb dX0_copyBlock_5 rfl (lv_at hl 1 rfl) ?_
  refine lv_iconst (v := nI 0) hx hb dX0_copyBlock_6 (by decide) ?_
  refine lv_bipush (v := nI 16) hx hb dX0_copyBlock_7 (by decide) ?_
  refine va_copyi hx hb (hml.trans hl.1.symm) hown (hta _ mw_152) (hta _ mw_154) (hta _ mw_153) (hta _ mw_10) hK hP hD hS 1 2 0 1 rfl rfl rfl rfl rfl (by decide) (by decide) (by decide) (by decide) (by decide) (fun _ _ => rfl) (Nat.le_of_ble_eq_true rfl) (by decide) dX0_copyBlock_9 (fun H locs hP hD hS => ?_)
  have hP : va_P (dC, dI) vwCl [(o, .inr (0, [.ref qs, .ref qu, .ref qw, .ref qb, .ref qe])), (qb, .inl (kb, 16, .inl (nF b))), (r, .inl (kr, 16, .inl (va_cpy (nF b) (nF z) (nI 0).toNatClampNeg (nI 0).toNatClampNeg (nI 16).toNatClampNeg)))] H := hP
  have hD : va_D A [(o, .inr (0, [.ref qs, .ref qu, .ref qw, .ref qb, .ref qe])), (qb, .inl (kb, 16, .inl (nF b))), (r, .inl (kr, 16, .inl (va_cpy (nF b) (nF z) (nI 0).toNatClampNeg (nI 0).toNatClampNeg (nI 16).toNatClampNeg)))] := hD
  obtain ⟨hP, hD⟩ := va_rec (g := nF b) hP hD 2 rfl (cp16 (f := nF b) (g := nF z))
  have hP : va_P (dC, dI) vwCl [(o, .inr (0, [.ref qs, .ref qu, .ref qw, .ref qb, .ref qe])), (qb, .inl (kb, 16, .inl (nF b))), (r, .inl (kr, 16, .inl (nF b)))] H := hP
  have hD : va_D A [(o, .inr (0, [.ref qs, .ref qu, .ref qw, .ref qb, .ref qe])), (qb, .inl (kb, 16, .inl (nF b))), (r, .inl (kr, 16, .inl (nF b)))] := hD
  exact rt_0 hx hb hr hlk hQ hAe hP hD hS [0, 1, 2] (by decide) rfl (Nat.le_of_ble_eq_true rfl) (Nat.le_of_ble_eq_true rfl) dX0_copyBlock_12

def rm_c_substAndShift : Room := { frames := 2, cells := 0, slots := 0, locals := 81 }
set_option maxHeartbeats 4000000 in
set_option maxRecDepth 100000 in
/-- substAndShift() -/
theorem c_substAndShift (l : Launch) (dC : Nat → ClassId) (dI : Nat → Nat → Nat) (o : Nat) (qs : Nat) (qu : Nat) (qw : Nat) (qb : Nat) (qe : Nat) (ks : ClassId) (kb : ClassId) (ke : ClassId) (sb : Nat → Nat) (b : Nat → Nat) (z : Nat → Nat) (b256 : ∀ i, b i < 256) : MO l dC dI yX0_substAndShift wsX0_substAndShift rm_c_substAndShift [.ref o] [(o, .inr (0, [.ref qs, .ref qu, .ref qw, .ref qb, .ref qe])), (qs, .inl (ks, 256, .inl (nF sb))), (qb, .inl (kb, 16, .inl (nF b))), (qe, .inl (ke, 16, .inl (nF z)))] [(ks, .int), (kb, .int), (ke, .int)] [(o, .inr (0, [.ref qs, .ref qu, .ref qw, .ref qb, .ref qe])), (qs, .inl (ks, 256, .inl (nF sb))), (qb, .inl (kb, 16, .inl (nF (ssN sb b)))), (qe, .inl (ke, 16, .inl (nF b)))] none := by
  refine mo_ofW (cc := cX0_substAndShift) (maxL := 2) (ret := none) (by decide) rfl (Nat.le_of_ble_eq_true rfl) ?_
  intro p e s m args below meth c Q A H locs ls hx hb hr hlk hml hta hown hin hE hQ hAe hA hK hP hD hS hl
  have hown : s.vm.findClass RX0 = some m.cls := hown
  have hl : lv_has ls 2 [(0, .ref o)] := hl
  refine lv_aload_n hx hb dX0_substAndShift_0 rfl (lv_at hl 0 rfl) ?_
  refine lv_aload_n hx hb dX0_substAndShift_1 rfl (lv_at hl 0 rfl) ?_
  refine va_get (D := (dC, dI)) (ci := 0) (v := .ref qe) (C := RX0) (T := TX0) (N := 5) hx hb hta inX0 hown hK hP 0 rfl rfl 4 (by decide) (hta _ mw_54) (fun _ h9 => h9) rfl dX0_substAndShift_2 ?_
  refine cf_0 (wr := [(qs, .inl (ks, 256, .inl (nF sb)))]) (va_runV (As := [.ref qe]) (rest := []) ⟨hx, hb, hml, hown, hta⟩ (MO.to (c_copyBlock l dC dI o qs qu qw qb qe kb b qe ke z) H.size) (cwV 1 hta (aw_V mw_151 mw_148 mw_149 mw_150 mw_2) rfl rfl rfl ⟨rfl, dyX0_copyBlock⟩ ⟨(Nat.le_of_ble_eq_true rfl), (Nat.le_of_ble_eq_true rfl)⟩) (pr_V hP hD hK hE [0, 2, 3] [1, 2] (by decide) rfl rfl rfl rfl) rfl rfl hl.1 rfl (lv_room (Nat.le_of_ble_eq_true rfl)) dX0_substAndShift_5 ⟨(Nat.le_of_ble_eq_true rfl), (Nat.le_of_ble_eq_true rfl)⟩) hP hD hS hA [0, 2, 3] [1] rfl rfl (by decide) (by decide) (fun H locs hP hD hS => ?_)
  have hP : va_P (dC, dI) vwCl [(qs, .inl (ks, 256, .inl (nF sb))), (o, .inr (0, [.ref qs, .ref qu, .ref qw, .ref qb, .ref qe])), (qb, .inl (kb, 16, .inl (nF b))), (qe, .inl (ke, 16, .inl (nF b)))] H := hP
  have hD : va_D A [(qs, .inl (ks, 256, .inl (nF sb))), (o, .inr (0, [.ref qs, .ref qu, .ref qw, .ref qb, .ref qe])), (qb, .inl (kb, 16, .inl (nF b))), (qe, .inl (ke, 16, .inl (nF b)))] := hD
  refine W.widen (k := 0) (n := 0) (Nat.le_of_ble_eq_true rfl) (Nat.le_of_ble_eq_true rfl) ?_
  refine w_pc (pc2 := 8) rfl ?_
  refine lv_iconst (v := nI 0) hx hb dX0_substAndShift_8 (by decide) ?_
  refine lv_istore_n hx hb dX0_substAndShift_9 rfl hl (by decide) rfl (fun ls hl => ?_)
  have hl : lv_has ls 2 [(1, .int (nI 0)), (0, .ref o)] := hl
  obtain ⟨hP, hD⟩ := va_recb (g := ssp sb b 0) hP hD 2 rfl (fun i _ => ssp_0 sb b i)
  have hP : va_P (dC, dI) vwCl [(qs, .inl (ks, 256, .inl (nF sb))), (o, .inr (0, [.ref qs, .ref qu, .ref qw, .ref qb, .ref qe])), (qb, .inl (kb, 16, .inl (nF (ssp sb b 0)))), (qe, .inl (ke, 16, .inl (nF b)))] H := hP
  have hD : va_D A [(qs, .inl (ks, 256, .inl (nF sb))), (o, .inr (0, [.ref qs, .ref qu, .ref qw, .ref qb, .ref qe])), (qb, .inl (kb, 16, .inl (nF (ssp sb b 0)))), (qe, .inl (ke, 16, .inl (nF b)))] := hD
  have loop_10 : ∀ (n k : Nat) (ls : Array Slot) (H : Heap) (locs : List Loc), k + n = 16 → lv_has ls 2 [(1, .int (nI k)), (0, .ref o)] → va_P (dC, dI) vwCl [(qs, .inl (ks, 256, .inl (nF sb))), (o, .inr (0, [.ref qs, .ref qu, .ref qw, .ref qb, .ref qe])), (qb, .inl (kb, 16, .inl (nF (ssp sb b k)))), (qe, .inl (ke, 16, .inl (nF b)))] H → va_D A [(qs, .inl (ks, 256, .inl (nF sb))), (o, .inr (0, [.ref qs, .ref qu, .ref qw, .ref qb, .ref qe])), (qb, .inl (kb, 16, .inl (nF (ssp sb b k)))), (qe, .inl (ke, 16, .inl (nF b)))] → va_S A s.heap H locs → W p l e rm_c_substAndShift s m args below meth c H locs 0 0 Q (F0 m 10 ls []) := by
    intro n
    induction n with
    | zero =>
      intro k ls H locs hn_10  hl hP hD hS
      obtain rfl : 16 = k := by omega
      refine lv_iload_n hx hb dX0_substAndShift_10 rfl (lv_at hl 0 rfl) ?_
      refine lv_bipush (v := nI 16) hx hb dX0_substAndShift_11 (by decide) ?_
      refine lv_icmp_ge (tgt := 42) hx hb dX0_substAndShift_13 (by decide) (fun hc_13 => ?_) (fun hc_13 => ?_)
      · skip
        have hc_13 := (ix_le (a := 16) (b := 16) (by omega) (by omega)).mp hc_13
        have hc_13 : (16 ≤ 16) := hc_13
        obtain ⟨hP, hD⟩ := va_recb (g := ssN sb b) hP hD 2 rfl (fun i hi9 => ssp_16 sb b i hi9)
        have hP : va_P (dC, dI) vwCl [(qs, .inl (ks, 256, .inl (nF sb))), (o, .inr (0, [.ref qs, .ref qu, .ref qw, .ref qb, .ref qe])), (qb, .inl (kb, 16, .inl (nF (ssN sb b)))), (qe, .inl (ke, 16, .inl (nF b)))] H := hP
        have hD : va_D A [(qs, .inl (ks, 256, .inl (nF sb))), (o, .inr (0, [.ref qs, .ref qu, .ref qw, .ref qb, .ref qe])), (qb, .inl (kb, 16, .inl (nF (ssN sb b)))), (qe, .inl (ke, 16, .inl (nF b)))] := hD
        exact rt_0 hx hb hr hlk hQ hAe hP hD hS [1, 0, 2, 3] (by decide) rfl (Nat.le_of_ble_eq_true rfl) (Nat.le_of_ble_eq_true rfl) dX0_substAndShift_42
      · skip
        have hc_13 := (not_congr (ix_le (a := 16) (b := 16) (by omega) (by omega))).mp hc_13
        have hc_13 : ¬ (16 ≤ 16) := hc_13
        exfalso; omega
    | succ n ih =>
      intro k ls H locs hn_10  hl hP hD hS
      refine lv_iload_n hx hb dX0_substAndShift_10 rfl (lv_at hl 0 rfl) ?_
      refine lv_bipush (v := nI 16) hx hb dX0_substAndShift_11 (by decide) ?_
      refine lv_icmp_ge (tgt := 42) hx hb dX0_substAndShift_13 (by decide) (fun hc_13 => ?_) (fun hc_13 => ?_)
      · skip
        have hc_13 := (ix_le (a := 16) (b := k) (by omega) (by omega)).mp hc_13
        have hc_13 : (16 ≤ k) := hc_13
        exfalso; omega
      · skip
        have hc_13 := (not_congr (ix_le (a := 16) (b := k) (by omega) (by omega))).mp hc_13
        have hc_13 : ¬ (16 ≤ k) := hc_13
        refine lv_aload_n hx hb dX0_substAndShift_16 rfl (lv_at hl 1 rfl) ?_
        refine va_get (D := (dC, dI)) (ci := 0) (v := .ref qb) (C := RX0) (T := TX0) (N := 5) hx hb hta inX0 hown hK hP 1 rfl rfl 3 (by decide) (hta _ mw_53) (fun _ h9 => h9) rfl dX0_substAndShift_17 ?_
        refine lv_iload_n hx hb dX0_substAndShift_20 rfl (lv_at hl 0 rfl) ?_
        refine lv_aload_n hx hb dX0_substAndShift_21 rfl (lv_at hl 1 rfl) ?_
        refine va_get (D := (dC, dI)) (ci := 0) (v := .ref qs) (C := RX0) (T := TX0) (N := 5) hx hb hta inX0 hown hK hP 1 rfl rfl 0 (by decide) (hta _ mw_50) (fun _ h9 => h9) rfl dX0_substAndShift_22 ?_
        refine lv_aload_n hx hb dX0_substAndShift_25 rfl (lv_at hl 1 rfl) ?_
        refine va_get (D := (dC, dI)) (ci := 0) (v := .ref qe) (C := RX0) (T := TX0) (N := 5) hx hb hta inX0 hown hK hP 1 rfl rfl 4 (by decide) (hta _ mw_54) (fun _ h9 => h9) rfl dX0_substAndShift_26 ?_
        refine lv_iload_n hx hb dX0_substAndShift_29 rfl (lv_at hl 0 rfl) ?_
        refine cf_1 (wr := [(qs, .inl (ks, 256, .inl (nF sb))), (o, .inr (0, [.ref qs, .ref qu, .ref qw, .ref qb, .ref qe])), (qb, .inl (kb, 16, .inl (nF (ssp sb b k)))), (qe, .inl (ke, 16, .inl (nF b)))]) (va_runS (As := [.int (nI k)]) (rest := [.ref qe, .ref qs, .int (nI k), .ref qb]) ⟨hx, hb, hml, hown, hta⟩ (MO.to (c_sf l dC dI k (by omega)) H.size) (va_cwS 1 hta (aw_S mw_157 mw_155 mw_156 mw_2) rfl rfl rfl dyX0_shiftedFrom ⟨(Nat.le_of_ble_eq_true rfl), (Nat.le_of_ble_eq_true rfl)⟩) (pr_S hP hD hK hE [] [] (by decide) rfl rfl) rfl rfl hl.1 rfl (lv_room (Nat.le_of_ble_eq_true rfl)) dX0_substAndShift_30 ⟨(Nat.le_of_ble_eq_true rfl), (Nat.le_of_ble_eq_true rfl)⟩) hP hD hS hA [] [0, 1, 2, 3] rfl rfl (by decide) (by decide) (fun H locs hP hD hS => ?_)
        have hP : va_P (dC, dI) vwCl [(qs, .inl (ks, 256, .inl (nF sb))), (o, .inr (0, [.ref qs, .ref qu, .ref qw, .ref qb, .ref qe])), (qb, .inl (kb, 16, .inl (nF (ssp sb b k)))), (qe, .inl (ke, 16, .inl (nF b)))] H := hP
        have hD : va_D A [(qs, .inl (ks, 256, .inl (nF sb))), (o, .inr (0, [.ref qs, .ref qu, .ref qw, .ref qb, .ref qe])), (qb, .inl (kb, 16, .inl (nF (ssp sb b k)))), (qe, .inl (ke, 16, .inl (nF b)))] := hD
        refine W.widen (k := 0) (n := 0) (Nat.le_of_ble_eq_true rfl) (Nat.le_of_ble_eq_true rfl) ?_
        refine w_pc (pc2 := 33) rfl ?_
        refine va_ialb hx hb hK hP 3 2 rfl rfl (sf_lt _) (by decide) dX0_substAndShift_33 ?_
        refine va_ialb hx hb hK hP 0 0 rfl rfl (b256 _) (by decide) dX0_substAndShift_34 ?_
        refine va_iasb hx hb hK hP hD hS 2 1 rfl rfl (by omega) (by decide) dX0_substAndShift_35 (fun H locs hP hD hS => ?_)
        have hP : va_P (dC, dI) vwCl [(qs, .inl (ks, 256, .inl (nF sb))), (o, .inr (0, [.ref qs, .ref qu, .ref qw, .ref qb, .ref qe])), (qb, .inl (kb, 16, .inl (nF (un (ssp sb b k) k (sb (b (sf k))))))), (qe, .inl (ke, 16, .inl (nF b)))] H := hP
        have hD : va_D A [(qs, .inl (ks, 256, .inl (nF sb))), (o, .inr (0, [.ref qs, .ref qu, .ref qw, .ref qb, .ref qe])), (qb, .inl (kb, 16, .inl (nF (un (ssp sb b k) k (sb (b (sf k))))))), (qe, .inl (ke, 16, .inl (nF b)))] := hD
        refine lv_iinc (v := nI (k + 1)) (k := 0) hx hb dX0_substAndShift_36 hl rfl (ix_inc _ 1) (by decide) rfl (fun ls hl => ?_)
        have hl : lv_has ls 2 [(1, .int (nI (k + 1))), (0, .ref o)] := hl
        refine lv_goto (tgt := 10) hx hb dX0_substAndShift_39 (by decide) ?_
        obtain ⟨hP, hD⟩ := va_recb (g := ssp sb b (k + 1)) hP hD 2 rfl (fun i _ => ssp_s sb b k i)
        have hP : va_P (dC, dI) vwCl [(qs, .inl (ks, 256, .inl (nF sb))), (o, .inr (0, [.ref qs, .ref qu, .ref qw, .ref qb, .ref qe])), (qb, .inl (kb, 16, .inl (nF (ssp sb b (k + 1))))), (qe, .inl (ke, 16, .inl (nF b)))] H := hP
        have hD : va_D A [(qs, .inl (ks, 256, .inl (nF sb))), (o, .inr (0, [.ref qs, .ref qu, .ref qw, .ref qb, .ref qe])), (qb, .inl (kb, 16, .inl (nF (ssp sb b (k + 1))))), (qe, .inl (ke, 16, .inl (nF b)))] := hD
        exact ih (k + 1) ls H locs (by omega)  (lv_sub hl [0, 1] rfl) hP hD hS
  exact loop_10 16 0 ls H locs (by omega)  (lv_sub hl [0, 1] rfl) hP hD hS

def rm_c_unshift : Room := { frames := 2, cells := 0, slots := 0, locals := 81 }
set_option maxHeartbeats 4000000 in
set_option maxRecDepth 100000 in
/-- unshiftAndUnsubst() -/
theorem c_unshift (l : Launch) (dC : Nat → ClassId) (dI : Nat → Nat → Nat) (o : Nat) (qs : Nat) (qu : Nat) (qw : Nat) (qb : Nat) (qe : Nat) (ku : ClassId) (kb : ClassId) (ke : ClassId) (ub : Nat → Nat) (b : Nat → Nat) (z : Nat → Nat) (b256 : ∀ i, b i < 256) : MO l dC dI yX0_unshiftAndUnsubst wsX0_unshiftAndUnsubst rm_c_unshift [.ref o] [(o, .inr (0, [.ref qs, .ref qu, .ref qw, .ref qb, .ref qe])), (qu, .inl (ku, 256, .inl (nF ub))), (qb, .inl (kb, 16, .inl (nF b))), (qe, .inl (ke, 16, .inl (nF z)))] [(ku, .int), (kb, .int), (ke, .int)] [(o, .inr (0, [.ref qs, .ref qu, .ref qw, .ref qb, .ref qe])), (qu, .inl (ku, 256, .inl (nF ub))), (qb, .inl (kb, 16, .inl (nF (usN ub b)))), (qe, .inl (ke, 16, .inl (nF b)))] none := by
  refine mo_ofW (cc := cX0_unshiftAndUnsubst) (maxL := 2) (ret := none) (by decide) rfl (Nat.le_of_ble_eq_true rfl) ?_
  intro p e s m args below meth c Q A H locs ls hx hb hr hlk hml hta hown hin hE hQ hAe hA hK hP hD hS hl
  have hown : s.vm.findClass RX0 = some m.cls := hown
  have hl : lv_has ls 2 [(0, .ref o)] := hl
  refine lv_aload_n hx hb dX0_unshiftAndUnsubst_0 rfl (lv_at hl 0 rfl) ?_
  refine lv_aload_n hx hb dX0_unshiftAndUnsubst_1 rfl (lv_at hl 0 rfl) ?_
  refine va_get (D := (dC, dI)) (ci := 0) (v := .ref qe) (C := RX0) (T := TX0) (N := 5) hx hb hta inX0 hown hK hP 0 rfl rfl 4 (by decide) (hta _ mw_54) (fun _ h9 => h9) rfl dX0_unshiftAndUnsubst_2 ?_
  refine cf_0 (wr := [(qu, .inl (ku, 256, .inl (nF ub)))]) (va_runV (As := [.ref qe]) (rest := []) ⟨hx, hb, hml, hown, hta⟩ (MO.to (c_copyBlock l dC dI o qs qu qw qb qe kb b qe ke z) H.size) (cwV 1 hta (aw_V mw_151 mw_148 mw_149 mw_150 mw_2) rfl rfl rfl ⟨rfl, dyX0_copyBlock⟩ ⟨(Nat.le_of_ble_eq_true rfl), (Nat.le_of_ble_eq_true rfl)⟩) (pr_V hP hD hK hE [0, 2, 3] [1, 2] (by decide) rfl rfl rfl rfl) rfl rfl hl.1 rfl (lv_room (Nat.le_of_ble_eq_true rfl)) dX0_unshiftAndUnsubst_5 ⟨(Nat.le_of_ble_eq_true rfl), (Nat.le_of_ble_eq_true rfl)⟩) hP hD hS hA [0, 2, 3] [1] rfl rfl (by decide) (by decide) (fun H locs hP hD hS => ?_)
  have hP : va_P (dC, dI) vwCl [(qu, .inl (ku, 256, .inl (nF ub))), (o, .inr (0, [.ref qs, .ref qu, .ref qw, .ref qb, .ref qe])), (qb, .inl (kb, 16, .inl (nF b))), (qe, .inl (ke, 16, .inl (nF b)))] H := hP
  have hD : va_D A [(qu, .inl (ku, 256, .inl (nF ub))), (o, .inr (0, [.ref qs, .ref qu, .ref qw, .ref qb, .ref qe])), (qb, .inl (kb, 16, .inl (nF b))), (qe, .inl (ke, 16, .inl (nF b)))] := hD
  refine W.widen (k := 0) (n := 0) (Nat.le_of_ble_eq_true rfl) (Nat.le_of_ble_eq_true rfl) ?_
  refine w_pc (pc2 := 8) rfl ?_
  refine lv_iconst (v := nI 0) hx hb dX0_unshiftAndUnsubst_8 (by decide) ?_
  refine lv_istore_n hx hb dX0_unshiftAndUnsubst_9 rfl hl (by decide) rfl (fun ls hl => ?_)
  have hl : lv_has ls 2 [(1, .int (nI 0)), (0, .ref o)] := hl
  obtain ⟨hP, hD⟩ := va_recb (g := usp ub b 0) hP hD 2 rfl (fun i _ => usp_0 ub b i)
  have hP : va_P (dC, dI) vwCl [(qu, .inl (ku, 256, .inl (nF ub))), (o, .inr (0, [.ref qs, .ref qu, .ref qw, .ref qb, .ref qe])), (qb, .inl (kb, 16, .inl (nF (usp ub b 0)))), (qe, .inl (ke, 16, .inl (nF b)))] H := hP
  have hD : va_D A [(qu, .inl (ku, 256, .inl (nF ub))), (o, .inr (0, [.ref qs, .ref qu, .ref qw, .ref qb, .ref qe])), (qb, .inl (kb, 16, .inl (nF (usp ub b 0)))), (qe, .inl (ke, 16, .inl (nF b)))] := hD
  have loop_10 : ∀ (n k : Nat) (ls : Array Slot) (H : Heap) (locs : List Loc), k + n = 16 → lv_has ls 2 [(1, .int (nI k)), (0, .ref o)] → va_P (dC, dI) vwCl [(qu, .inl (ku, 256, .inl (nF ub))), (o, .inr (0, [.ref qs, .ref qu, .ref qw, .ref qb, .ref qe])), (qb, .inl (kb, 16, .inl (nF (usp ub b k)))), (qe, .inl (ke, 16, .inl (nF b)))] H → va_D A [(qu, .inl (ku, 256, .inl (nF ub))), (o, .inr (0, [.ref qs, .ref qu, .ref qw, .ref qb, .ref qe])), (qb, .inl (kb, 16, .inl (nF (usp ub b k)))), (qe, .inl (ke, 16, .inl (nF b)))] → va_S A s.heap H locs → W p l e rm_c_unshift s m args below meth c H locs 0 0 Q (F0 m 10 ls []) := by
    intro n
    induction n with
    | zero =>
      intro k ls H locs hn_10  hl hP hD hS
      obtain rfl : 16 = k := by omega
      refine lv_iload_n hx hb dX0_unshiftAndUnsubst_10 rfl (lv_at hl 0 rfl) ?_
      refine lv_bipush (v := nI 16) hx hb dX0_unshiftAndUnsubst_11 (by decide) ?_
      refine lv_icmp_ge (tgt := 42) hx hb dX0_unshiftAndUnsubst_13 (by decide) (fun hc_13 => ?_) (fun hc_13 => ?_)
      · skip
        have hc_13 := (ix_le (a := 16) (b := 16) (by omega) (by omega)).mp hc_13
        have hc_13 : (16 ≤ 16) := hc_13
        obtain ⟨hP, hD⟩ := va_recb (g := usN ub b) hP hD 2 rfl (fun i _ => usp_16 ub b i)
        have hP : va_P (dC, dI) vwCl [(qu, .inl (ku, 256, .inl (nF ub))), (o, .inr (0, [.ref qs, .ref qu, .ref qw, .ref qb, .ref qe])), (qb, .inl (kb, 16, .inl (nF (usN ub b)))), (qe, .inl (ke, 16, .inl (nF b)))] H := hP
        have hD : va_D A [(qu, .inl (ku, 256, .inl (nF ub))), (o, .inr (0, [.ref qs, .ref qu, .ref qw, .ref qb, .ref qe])), (qb, .inl (kb, 16, .inl (nF (usN ub b)))), (qe, .inl (ke, 16, .inl (nF b)))] := hD
        exact rt_0 hx hb hr hlk hQ hAe hP hD hS [1, 0, 2, 3] (by decide) rfl (Nat.le_of_ble_eq_true rfl) (Nat.le_of_ble_eq_true rfl) dX0_unshiftAndUnsubst_42
      · skip
        have hc_13 := (not_congr (ix_le (a := 16) (b := 16) (by omega) (by omega))).mp hc_13
        have hc_13 : ¬ (16 ≤ 16) := hc_13
        exfalso; omega
    | succ n ih =>
      intro k ls H locs hn_10  hl hP hD hS
      refine lv_iload_n hx hb dX0_unshiftAndUnsubst_10 rfl (lv_at hl 0 rfl) ?_
      refine lv_bipush (v := nI 16) hx hb dX0_unshiftAndUnsubst_11 (by decide) ?_
      refine lv_icmp_ge (tgt := 42) hx hb dX0_unshiftAndUnsubst_13 (by decide) (fun hc_13 => ?_) (fun hc_13 => ?_)
      · skip
        have hc_13 := (ix_le (a := 16) (b := k) (by omega) (by omega)).mp hc_13
        have hc_13 : (16 ≤ k) := hc_13
        exfalso; omega
      · skip
        have hc_13 := (not_congr (ix_le (a := 16) (b := k) (by omega) (by omega))).mp hc_13
        have hc_13 : ¬ (16 ≤ k) := hc_13
        refine lv_aload_n hx hb dX0_unshiftAndUnsubst_16 rfl (lv_at hl 1 rfl) ?_
        refine va_get (D := (dC, dI)) (ci := 0) (v := .ref qb) (C := RX0) (T := TX0) (N := 5) hx hb hta inX0 hown hK hP 1 rfl rfl 3 (by decide) (hta _ mw_53) (fun _ h9 => h9) rfl dX0_unshiftAndUnsubst_17 ?_
        refine lv_iload_n hx hb dX0_unshiftAndUnsubst_20 rfl (lv_at hl 0 rfl) ?_
        refine cf_1 (wr := [(qu, .inl (ku, 256, .inl (nF ub))), (o, .inr (0, [.ref qs, .ref qu, .ref qw, .ref qb, .ref qe])), (qb, .inl (kb, 16, .inl (nF (usp ub b k)))), (qe, .inl (ke, 16, .inl (nF b)))]) (va_runS (As := [.int (nI k)]) (rest := [.ref qb]) ⟨hx, hb, hml, hown, hta⟩ (MO.to (c_sf l dC dI k (by omega)) H.size) (va_cwS 1 hta (aw_S mw_157 mw_155 mw_156 mw_2) rfl rfl rfl dyX0_shiftedFrom ⟨(Nat.le_of_ble_eq_true rfl), (Nat.le_of_ble_eq_true rfl)⟩) (pr_S hP hD hK hE [] [] (by decide) rfl rfl) rfl rfl hl.1 rfl (lv_room (Nat.le_of_ble_eq_true rfl)) dX0_unshiftAndUnsubst_21 ⟨(Nat.le_of_ble_eq_true rfl), (Nat.le_of_ble_eq_true rfl)⟩) hP hD hS hA [] [0, 1, 2, 3] rfl rfl (by decide) (by decide) (fun H locs hP hD hS => ?_)
        have hP : va_P (dC, dI) vwCl [(qu, .inl (ku, 256, .inl (nF ub))), (o, .inr (0, [.ref qs, .ref qu, .ref qw, .ref qb, .ref qe])), (qb, .inl (kb, 16, .inl (nF (usp ub b k)))), (qe, .inl (ke, 16, .inl (nF b)))] H := hP
        have hD : va_D A [(qu, .inl (ku, 256, .inl (nF ub))), (o, .inr (0, [.ref qs, .ref qu, .ref qw, .ref qb, .ref qe])), (qb, .inl (kb, 16, .inl (nF (usp ub b k)))), (qe, .inl (ke, 16, .inl (nF b)))] := hD
        refine W.widen (k := 0) (n := 0) (Nat.le_of_ble_eq_true rfl) (Nat.le_of_ble_eq_true rfl) ?_
        refine w_pc (pc2 := 24) rfl ?_
        refine lv_aload_n hx hb dX0_unshiftAndUnsubst_24 rfl (lv_at hl 1 rfl) ?_
        refine va_get (D := (dC, dI)) (ci := 0) (v := .ref qu) (C := RX0) (T := TX0) (N := 5) hx hb hta inX0 hown hK hP 1 rfl rfl 1 (by decide) (hta _ mw_51) (fun _ h9 => h9) rfl dX0_unshiftAndUnsubst_25 ?_
        refine lv_aload_n hx hb dX0_unshiftAndUnsubst_28 rfl (lv_at hl 1 rfl) ?_
        refine va_get (D := (dC, dI)) (ci := 0) (v := .ref qe) (C := RX0) (T := TX0) (N := 5) hx hb hta inX0 hown hK hP 1 rfl rfl 4 (by decide) (hta _ mw_54) (fun _ h9 => h9) rfl dX0_unshiftAndUnsubst_29 ?_
        refine lv_iload_n hx hb dX0_unshiftAndUnsubst_32 rfl (lv_at hl 0 rfl) ?_
        refine va_ialb hx hb hK hP 3 2 rfl rfl (by omega) (by decide) dX0_unshiftAndUnsubst_33 ?_
        refine va_ialb hx hb hK hP 0 0 rfl rfl (b256 _) (by decide) dX0_unshiftAndUnsubst_34 ?_
        refine va_iasb hx hb hK hP hD hS 2 1 rfl rfl (sf_lt _) (by decide) dX0_unshiftAndUnsubst_35 (fun H locs hP hD hS => ?_)
        have hP : va_P (dC, dI) vwCl [(qu, .inl (ku, 256, .inl (nF ub))), (o, .inr (0, [.ref qs, .ref qu, .ref qw, .ref qb, .ref qe])), (qb, .inl (kb, 16, .inl (nF (un (usp ub b k) (sf k) (ub (b k)))))), (qe, .inl (ke, 16, .inl (nF b)))] H := hP
        have hD : va_D A [(qu, .inl (ku, 256, .inl (nF ub))), (o, .inr (0, [.ref qs, .ref qu, .ref qw, .ref qb, .ref qe])), (qb, .inl (kb, 16, .inl (nF (un (usp ub b k) (sf k) (ub (b k)))))), (qe, .inl (ke, 16, .inl (nF b)))] := hD
        refine lv_iinc (v := nI (k + 1)) (k := 0) hx hb dX0_unshiftAndUnsubst_36 hl rfl (ix_inc _ 1) (by decide) rfl (fun ls hl => ?_)
        have hl : lv_has ls 2 [(1, .int (nI (k + 1))), (0, .ref o)] := hl
        refine lv_goto (tgt := 10) hx hb dX0_unshiftAndUnsubst_39 (by decide) ?_
        obtain ⟨hP, hD⟩ := va_recb (g := usp ub b (k + 1)) hP hD 2 rfl (fun i hi9 => usp_s ub b k (by omega) i hi9)
        have hP : va_P (dC, dI) vwCl [(qu, .inl (ku, 256, .inl (nF ub))), (o, .inr (0, [.ref qs, .ref qu, .ref qw, .ref qb, .ref qe])), (qb, .inl (kb, 16, .inl (nF (usp ub b (k + 1))))), (qe, .inl (ke, 16, .inl (nF b)))] H := hP
        have hD : va_D A [(qu, .inl (ku, 256, .inl (nF ub))), (o, .inr (0, [.ref qs, .ref qu, .ref qw, .ref qb, .ref qe])), (qb, .inl (kb, 16, .inl (nF (usp ub b (k + 1))))), (qe, .inl (ke, 16, .inl (nF b)))] := hD
        exact ih (k + 1) ls H locs (by omega)  (lv_sub hl [0, 1] rfl) hP hD hS
  exact loop_10 16 0 ls H locs (by omega)  (lv_sub hl [0, 1] rfl) hP hD hS

def rm_c_mix : Room := { frames := 1, cells := 0, slots := 0, locals := 20 }
set_option maxHeartbeats 4000000 in
set_option maxRecDepth 100000 in
/-- mix() -/
theorem c_mix (l : Launch) (dC : Nat → ClassId) (dI : Nat → Nat → Nat) (o : Nat) (qs : Nat) (qu : Nat) (qw : Nat) (qb : Nat) (qe : Nat) (kb : ClassId) (b : Nat → Nat) (b256 : ∀ i, b i < 256) : MO l dC dI yX0_mix wsX0_mix rm_c_mix [.ref o] [(o, .inr (0, [.ref qs, .ref qu, .ref qw, .ref qb, .ref qe])), (qb, .inl (kb, 16, .inl (nF b)))] [(kb, .int)] [(o, .inr (0, [.ref qs, .ref qu, .ref qw, .ref qb, .ref qe])), (qb, .inl (kb, 16, .inl (nF (mixN b))))] none := by
  refine mo_ofW (cc := cX0_mix) (maxL := 7) (ret := none) (by decide) rfl (Nat.le_of_ble_eq_true rfl) ?_
  intro p e s m args below meth c Q A H locs ls hx hb hr hlk hml hta hown hin hE hQ hAe hA hK hP hD hS hl
  have hown : s.vm.findClass RX0 = some m.cls := hown
  have hl : lv_has ls 7 [(0, .ref o)] := hl
  refine lv_iconst (v := nI 0) hx hb dX0_mix_0 (by decide) ?_
  refine lv_istore_n hx hb dX0_mix_1 rfl hl (by decide) rfl (fun ls hl => ?_)
  have hl : lv_has ls 7 [(1, .int (nI 0)), (0, .ref o)] := hl
  obtain ⟨hP, hD⟩ := va_recb (g := mxp b 0) hP hD 1 rfl (fun i _ => mxp_0 b i)
  have hP : va_P (dC, dI) vwCl [(o, .inr (0, [.ref qs, .ref qu, .ref qw, .ref qb, .ref qe])), (qb, .inl (kb, 16, .inl (nF (mxp b 0))))] H := hP
  have hD : va_D A [(o, .inr (0, [.ref qs, .ref qu, .ref qw, .ref qb, .ref qe])), (qb, .inl (kb, 16, .inl (nF (mxp b 0))))] := hD
  have loop_2 : ∀ (n k : Nat) (ls : Array Slot) (H : Heap) (locs : List Loc), k + n = 4 → lv_has ls 7 [(1, .int (nI (4 * k))), (0, .ref o)] → va_P (dC, dI) vwCl [(o, .inr (0, [.ref qs, .ref qu, .ref qw, .ref qb, .ref qe])), (qb, .inl (kb, 16, .inl (nF (mxp b k))))] H → va_D A [(o, .inr (0, [.ref qs, .ref qu, .ref qw, .ref qb, .ref qe])), (qb, .inl (kb, 16, .inl (nF (mxp b k))))] → va_S A s.heap H locs → W p l e rm_c_mix s m args below meth c H locs 0 0 Q (F0 m 2 ls []) := by
    intro n
    induction n with
    | zero =>
      intro k ls H locs hn_2  hl hP hD hS
      obtain rfl : 4 = k := by omega
      refine lv_iload_n hx hb dX0_mix_2 rfl (lv_at hl 0 rfl) ?_
      refine lv_bipush (v := nI 16) hx hb dX0_mix_3 (by decide) ?_
      refine lv_icmp_ge (tgt := 141) hx hb dX0_mix_5 (by decide) (fun hc_5 => ?_) (fun hc_5 => ?_)
      · skip
        have hc_5 := (ix_le (a := 16) (b := 4 * 4) (by omega) (by omega)).mp hc_5
        have hc_5 : (16 ≤ (4 * 4)) := hc_5
        obtain ⟨hP, hD⟩ := va_recb (g := mixN b) hP hD 1 rfl (fun i hi9 => mxp_4 b i hi9)
        have hP : va_P (dC, dI) vwCl [(o, .inr (0, [.ref qs, .ref qu, .ref qw, .ref qb, .ref qe])), (qb, .inl (kb, 16, .inl (nF (mixN b))))] H := hP
        have hD : va_D A [(o, .inr (0, [.ref qs, .ref qu, .ref qw, .ref qb, .ref qe])), (qb, .inl (kb, 16, .inl (nF (mixN b))))] := hD
        exact rt_0 hx hb hr hlk hQ hAe hP hD hS [0, 1] (by decide) rfl (Nat.le_of_ble_eq_true rfl) (Nat.le_of_ble_eq_true rfl) dX0_mix_141
      · skip
        have hc_5 := (not_congr (ix_le (a := 16) (b := 4 * 4) (by omega) (by omega))).mp hc_5
        have hc_5 : ¬ (16 ≤ (4 * 4)) := hc_5
        exfalso; omega
    | succ n ih =>
      intro k ls H locs hn_2  hl hP hD hS
      refine lv_iload_n hx hb dX0_mix_2 rfl (lv_at hl 0 rfl) ?_
      refine lv_bipush (v := nI 16) hx hb dX0_mix_3 (by decide) ?_
      refine lv_icmp_ge (tgt := 141) hx hb dX0_mix_5 (by decide) (fun hc_5 => ?_) (fun hc_5 => ?_)
      · skip
        have hc_5 := (ix_le (a := 16) (b := 4 * k) (by omega) (by omega)).mp hc_5
        have hc_5 : (16 ≤ (4 * k)) := hc_5
        exfalso; omega
      · skip
        have hc_5 := (not_congr (ix_le (a := 16) (b := 4 * k) (by omega) (by omega))).mp hc_5
        have hc_5 : ¬ (16 ≤ (4 * k)) := hc_5
        refine lv_aload_n hx hb dX0_mix_8 rfl (lv_at hl 1 rfl) ?_
        refine va_get (D := (dC, dI)) (ci := 0) (v := .ref qb) (C := RX0) (T := TX0) (N := 5) hx hb hta inX0 hown hK hP 0 rfl rfl 3 (by decide) (hta _ mw_53) (fun _ h9 => h9) rfl dX0_mix_9 ?_
        refine lv_iload_n hx hb dX0_mix_12 rfl (lv_at hl 0 rfl) ?_
        refine va_ialb hx hb hK hP 1 0 rfl rfl (by omega) (by decide) dX0_mix_13 ?_
        refine top_i (y := nI (b (4 * k))) (congrArg nI (mxp_ge b k _ (by omega))) ?_
        refine lv_istore_n hx hb dX0_mix_14 rfl hl (by decide) rfl (fun ls hl => ?_)
        have hl : lv_has ls 7 [(2, .int (nI (b (4 * k)))), (1, .int (nI (4 * k))), (0, .ref o)] := hl
        refine lv_aload_n hx hb dX0_mix_15 rfl (lv_at hl 2 rfl) ?_
        refine va_get (D := (dC, dI)) (ci := 0) (v := .ref qb) (C := RX0) (T := TX0) (N := 5) hx hb hta inX0 hown hK hP 0 rfl rfl 3 (by decide) (hta _ mw_53) (fun _ h9 => h9) rfl dX0_mix_16 ?_
        refine lv_iload_n hx hb dX0_mix_19 rfl (lv_at hl 1 rfl) ?_
        refine lv_iconst (v := nI 1) hx hb dX0_mix_20 (by decide) ?_
        refine lv_iadd hx hb dX0_mix_21 (top_i (nI_add _ _) ?_)
        refine va_ialb hx hb hK hP 1 0 rfl rfl (by omega) (by decide) dX0_mix_22 ?_
        refine top_i (y := nI (b ((4 * k) + 1))) (congrArg nI (mxp_ge b k _ (by omega))) ?_
        refine w_pc (pc2 := 23) rfl ?_
        refine lv_istore_n hx hb dX0_mix_23 rfl hl (by decide) rfl (fun ls hl => ?_)
        have hl : lv_has ls 7 [(3, .int (nI (b ((4 * k) + 1)))), (2, .int (nI (b (4 * k)))), (1, .int (nI (4 * k))), (0, .ref o)] := hl
        refine lv_aload_n hx hb dX0_mix_24 rfl (lv_at hl 3 rfl) ?_
        refine va_get (D := (dC, dI)) (ci := 0) (v := .ref qb) (C := RX0) (T := TX0) (N := 5) hx hb hta inX0 hown hK hP 0 rfl rfl 3 (by decide) (hta _ mw_53) (fun _ h9 => h9) rfl dX0_mix_25 ?_
        refine lv_iload_n hx hb dX0_mix_28 rfl (lv_at hl 2 rfl) ?_
        refine lv_iconst (v := nI 2) hx hb dX0_mix_29 (by decide) ?_
        refine lv_iadd hx hb dX0_mix_30 (top_i (nI_add _ _) ?_)
        refine va_ialb hx hb hK hP 1 0 rfl rfl (by omega) (by decide) dX0_mix_31 ?_
        refine top_i (y := nI (b ((4 * k) + 2))) (congrArg nI (mxp_ge b k _ (by omega))) ?_
        refine lv_istore hx hb dX0_mix_32 hl (by decide) rfl (fun ls hl => ?_)
        have hl : lv_has ls 7 [(4, .int (nI (b ((4 * k) + 2)))), (3, .int (nI (b ((4 * k) + 1)))), (2, .int (nI (b (4 * k)))), (1, .int (nI (4 * k))), (0, .ref o)] := hl
        refine lv_aload_n hx hb dX0_mix_34 rfl (lv_at hl 4 rfl) ?_
        refine va_get (D := (dC, dI)) (ci := 0) (v := .ref qb) (C := RX0) (T := TX0) (N := 5) hx hb hta inX0 hown hK hP 0 rfl rfl 3 (by decide) (hta _ mw_53) (fun _ h9 => h9) rfl dX0_mix_35 ?_
        refine lv_iload_n hx hb dX0_mix_38 rfl (lv_at hl 3 rfl) ?_
        refine lv_iconst (v := nI 3) hx hb dX0_mix_39 (by decide) ?_
        refine w_pc (pc2 := 40) rfl ?_
        refine lv_iadd hx hb dX0_mix_40 (top_i (nI_add _ _) ?_)
        refine va_ialb hx hb hK hP 1 0 rfl rfl (by omega) (by decide) dX0_mix_41 ?_
        refine top_i (y := nI (b ((4 * k) + 3))) (congrArg nI (mxp_ge b k _ (by omega))) ?_
        refine lv_istore hx hb dX0_mix_42 hl (by decide) rfl (fun ls hl => ?_)
        have hl : lv_has ls 7 [(5, .int (nI (b ((4 * k) + 3)))), (4, .int (nI (b ((4 * k) + 2)))), (3, .int (nI (b ((4 * k) + 1)))), (2, .int (nI (b (4 * k)))), (1, .int (nI (4 * k))), (0, .ref o)] := hl
        refine lv_iload_n hx hb dX0_mix_44 rfl (lv_at hl 3 rfl) ?_
        refine lv_iload_n hx hb dX0_mix_45 rfl (lv_at hl 2 rfl) ?_
        refine lv_ixor hx hb dX0_mix_46 (top_i (n_xor _ _) ?_)
        refine lv_iload hx hb dX0_mix_47 (lv_at hl 1 rfl) ?_
        refine lv_ixor hx hb dX0_mix_49 (top_i (n_xor _ _) ?_)
        refine lv_iload hx hb dX0_mix_50 (lv_at hl 0 rfl) ?_
        refine lv_ixor hx hb dX0_mix_52 (top_i (n_xor _ _) ?_)
        refine lv_istore hx hb dX0_mix_53 hl (by decide) rfl (fun ls hl => ?_)
        have hl : lv_has ls 7 [(6, .int (nI ((((b (4 * k)) ^^^ (b ((4 * k) + 1))) ^^^ (b ((4 * k) + 2))) ^^^ (b ((4 * k) + 3))))), (5, .int (nI (b ((4 * k) + 3)))), (4, .int (nI (b ((4 * k) + 2)))), (3, .int (nI (b ((4 * k) + 1)))), (2, .int (nI (b (4 * k)))), (1, .int (nI (4 * k))), (0, .ref o)] := hl
        refine lv_aload_n hx hb dX0_mix_55 rfl (lv_at hl 6 rfl) ?_
        refine w_pc (pc2 := 56) rfl ?_
        refine va_get (D := (dC, dI)) (ci := 0) (v := .ref qb) (C := RX0) (T := TX0) (N := 5) hx hb hta inX0 hown hK hP 0 rfl rfl 3 (by decide) (hta _ mw_53) (fun _ h9 => h9) rfl dX0_mix_56 ?_
        refine lv_iload_n hx hb dX0_mix_59 rfl (lv_at hl 5 rfl) ?_
        refine lv_iload hx hb dX0_mix_60 (lv_at hl 0 rfl) ?_
        refine lv_iload_n hx hb dX0_mix_62 rfl (lv_at hl 4 rfl) ?_
        refine lv_ixor hx hb dX0_mix_63 (top_i (n_xor _ _) ?_)
        refine lv_iload_n hx hb dX0_mix_64 rfl (lv_at hl 4 rfl) ?_
        refine lv_iload_n hx hb dX0_mix_65 rfl (lv_at hl 3 rfl) ?_
        refine lv_ixor hx hb dX0_mix_66 (top_i (n_xor _ _) ?_)
        refine cf_1 (wr := [(o, .inr (0, [.ref qs, .ref qu, .ref qw, .ref qb, .ref qe])), (qb, .inl (kb, 16, .inl (nF (mxp b k))))]) (va_runS (As := [.int (nI ((b (4 * k)) ^^^ (b ((4 * k) + 1))))]) (rest := [.int (nI (((((b (4 * k)) ^^^ (b ((4 * k) + 1))) ^^^ (b ((4 * k) + 2))) ^^^ (b ((4 * k) + 3))) ^^^ (b (4 * k)))), .int (nI (4 * k)), .ref qb]) ⟨hx, hb, hml, hown, hta⟩ (MO.to (c_twice l dC dI ((b (4 * k)) ^^^ (b ((4 * k) + 1))) (xor_lt (b256 _) (b256 _))) H.size) (va_cwS 1 hta (aw_S mw_34 mw_32 mw_33 mw_2) rfl rfl rfl dyX0_twice ⟨(Nat.le_of_ble_eq_true rfl), (Nat.le_of_ble_eq_true rfl)⟩) (pr_S hP hD hK hE [] [] (by decide) rfl rfl) rfl rfl hl.1 rfl (lv_room (Nat.le_of_ble_eq_true rfl)) dX0_mix_67 ⟨(Nat.le_of_ble_eq_true rfl), (Nat.le_of_ble_eq_true rfl)⟩) hP hD hS hA [] [0, 1] rfl rfl (by decide) (by decide) (fun H locs hP hD hS => ?_)
        have hP : va_P (dC, dI) vwCl [(o, .inr (0, [.ref qs, .ref qu, .ref qw, .ref qb, .ref qe])), (qb, .inl (kb, 16, .inl (nF (mxp b k))))] H := hP
        have hD : va_D A [(o, .inr (0, [.ref qs, .ref qu, .ref qw, .ref qb, .ref qe])), (qb, .inl (kb, 16, .inl (nF (mxp b k))))] := hD
        refine W.widen (k := 0) (n := 0) (Nat.le_of_ble_eq_true rfl) (Nat.le_of_ble_eq_true rfl) ?_
        refine w_pc (pc2 := 70) rfl ?_
        refine lv_ixor hx hb dX0_mix_70 ?_
        refine top_i (y := nI (mx (b (4 * k)) (b ((4 * k) + 1)) (b ((4 * k) + 2)) (b ((4 * k) + 3)) (b (4 * k)) (b ((4 * k) + 1)))) (n_xor _ _) ?_
        refine va_iasb hx hb hK hP hD hS 1 0 rfl rfl (by omega) (by decide) dX0_mix_71 (fun H locs hP hD hS => ?_)
        have hP : va_P (dC, dI) vwCl [(o, .inr (0, [.ref qs, .ref qu, .ref qw, .ref qb, .ref qe])), (qb, .inl (kb, 16, .inl (nF (un (mxp b k) (4 * k) (mx (b (4 * k)) (b ((4 * k) + 1)) (b ((4 * k) + 2)) (b ((4 * k) + 3)) (b (4 * k)) (b ((4 * k) + 1)))))))] H := hP
        have hD : va_D A [(o, .inr (0, [.ref qs, .ref qu, .ref qw, .ref qb, .ref qe])), (qb, .inl (kb, 16, .inl (nF (un (mxp b k) (4 * k) (mx (b (4 * k)) (b ((4 * k) + 1)) (b ((4 * k) + 2)) (b ((4 * k) + 3)) (b (4 * k)) (b ((4 * k) + 1)))))))] := hD
        refine lv_aload_n hx hb dX0_mix_72 rfl (lv_at hl 6 rfl) ?_
        refine va_get (D := (dC, dI)) (ci := 0) (v := .ref qb) (C := RX0) (T := TX0) (N := 5) hx hb hta inX0 hown hK hP 0 rfl rfl 3 (by decide) (hta _ mw_53) (fun _ h9 => h9) rfl dX0_mix_73 ?_
        refine lv_iload_n hx hb dX0_mix_76 rfl (lv_at hl 5 rfl) ?_
        refine lv_iconst (v := nI 1) hx hb dX0_mix_77 (by decide) ?_
        refine lv_iadd hx hb dX0_mix_78 (top_i (nI_add _ _) ?_)
        refine lv_iload hx hb dX0_mix_79 (lv_at hl 0 rfl) ?_
        refine lv_iload_n hx hb dX0_mix_81 rfl (lv_at hl 3 rfl) ?_
        refine lv_ixor hx hb dX0_mix_82 (top_i (n_xor _ _) ?_)
        refine lv_iload_n hx hb dX0_mix_83 rfl (lv_at hl 3 rfl) ?_
        refine lv_iload hx hb dX0_mix_84 (lv_at hl 2 rfl) ?_
        refine w_pc (pc2 := 86) rfl ?_
        refine lv_ixor hx hb dX0_mix_86 (top_i (n_xor _ _) ?_)
        refine cf_1 (wr := [(o, .inr (0, [.ref qs, .ref qu, .ref qw, .ref qb, .ref qe])), (qb, .inl (kb, 16, .inl (nF (un (mxp b k) (4 * k) (mx (b (4 * k)) (b ((4 * k) + 1)) (b ((4 * k) + 2)) (b ((4 * k) + 3)) (b (4 * k)) (b ((4 * k) + 1)))))))]) (va_runS (As := [.int (nI ((b ((4 * k) + 1)) ^^^ (b ((4 * k) + 2))))]) (rest := [.int (nI (((((b (4 * k)) ^^^ (b ((4 * k) + 1))) ^^^ (b ((4 * k) + 2))) ^^^ (b ((4 * k) + 3))) ^^^ (b ((4 * k) + 1)))), .int (nI ((4 * k) + 1)), .ref qb]) ⟨hx, hb, hml, hown, hta⟩ (MO.to (c_twice l dC dI ((b ((4 * k) + 1)) ^^^ (b ((4 * k) + 2))) (xor_lt (b256 _) (b256 _))) H.size) (va_cwS 1 hta (aw_S mw_34 mw_32 mw_33 mw_2) rfl rfl rfl dyX0_twice ⟨(Nat.le_of_ble_eq_true rfl), (Nat.le_of_ble_eq_true rfl)⟩) (pr_S hP hD hK hE [] [] (by decide) rfl rfl) rfl rfl hl.1 rfl (lv_room (Nat.le_of_ble_eq_true rfl)) dX0_mix_87 ⟨(Nat.le_of_ble_eq_true rfl), (Nat.le_of_ble_eq_true rfl)⟩) hP hD hS hA [] [0, 1] rfl rfl (by decide) (by decide) (fun H locs hP hD hS => ?_)
        have hP : va_P (dC, dI) vwCl [(o, .inr (0, [.ref qs, .ref qu, .ref qw, .ref qb, .ref qe])), (qb, .inl (kb, 16, .inl (nF (un (mxp b k) (4 * k) (mx (b (4 * k)) (b ((4 * k) + 1)) (b ((4 * k) + 2)) (b ((4 * k) + 3)) (b (4 * k)) (b ((4 * k) + 1)))))))] H := hP
        have hD : va_D A [(o, .inr (0, [.ref qs, .ref qu, .ref qw, .ref qb, .ref qe])), (qb, .inl (kb, 16, .inl (nF (un (mxp b k) (4 * k) (mx (b (4 * k)) (b ((4 * k) + 1)) (b ((4 * k) + 2)) (b ((4 * k) + 3)) (b (4 * k)) (b ((4 * k) + 1)))))))] := hD
        refine W.widen (k := 0) (n := 0) (Nat.le_of_ble_eq_true rfl) (Nat.le_of_ble_eq_true rfl) ?_
        refine w_pc (pc2 := 90) rfl ?_
        refine lv_ixor hx hb dX0_mix_90 ?_
        refine top_i (y := nI (mx (b (4 * k)) (b ((4 * k) + 1)) (b ((4 * k) + 2)) (b ((4 * k) + 3)) (b ((4 * k) + 1)) (b ((4 * k) + 2)))) (n_xor _ _) ?_
        refine va_iasb hx hb hK hP hD hS 1 0 rfl rfl (by omega) (by decide) dX0_mix_91 (fun H locs hP hD hS => ?_)
        have hP : va_P (dC, dI) vwCl [(o, .inr (0, [.ref qs, .ref qu, .ref qw, .ref qb, .ref qe])), (qb, .inl (kb, 16, .inl (nF (un (un (mxp b k) (4 * k) (mx (b (4 * k)) (b ((4 * k) + 1)) (b ((4 * k) + 2)) (b ((4 * k) + 3)) (b (4 * k)) (b ((4 * k) + 1)))) ((4 * k) + 1) (mx (b (4 * k)) (b ((4 * k) + 1)) (b ((4 * k) + 2)) (b ((4 * k) + 3)) (b ((4 * k) + 1)) (b ((4 * k) + 2)))))))] H := hP
        have hD : va_D A [(o, .inr (0, [.ref qs, .ref qu, .ref qw, .ref qb, .ref qe])), (qb, .inl (kb, 16, .inl (nF (un (un (mxp b k) (4 * k) (mx (b (4 * k)) (b ((4 * k) + 1)) (b ((4 * k) + 2)) (b ((4 * k) + 3)) (b (4 * k)) (b ((4 * k) + 1)))) ((4 * k) + 1) (mx (b (4 * k)) (b ((4 * k) + 1)) (b ((4 * k) + 2)) (b ((4 * k) + 3)) (b ((4 * k) + 1)) (b ((4 * k) + 2)))))))] := hD
        refine lv_aload_n hx hb dX0_mix_92 rfl (lv_at hl 6 rfl) ?_
        refine va_get (D := (dC, dI)) (ci := 0) (v := .ref qb) (C := RX0) (T := TX0) (N := 5) hx hb hta inX0 hown hK hP 0 rfl rfl 3 (by decide) (hta _ mw_53) (fun _ h9 => h9) rfl dX0_mix_93 ?_
        refine lv_iload_n hx hb dX0_mix_96 rfl (lv_at hl 5 rfl) ?_
        refine lv_iconst (v := nI 2) hx hb dX0_mix_97 (by decide) ?_
        refine lv_iadd hx hb dX0_mix_98 (top_i (nI_add _ _) ?_)
        refine lv_iload hx hb dX0_mix_99 (lv_at hl 0 rfl) ?_
        refine lv_iload hx hb dX0_mix_101 (lv_at hl 2 rfl) ?_
        refine lv_ixor hx hb dX0_mix_103 (top_i (n_xor _ _) ?_)
        refine lv_iload hx hb dX0_mix_104 (lv_at hl 2 rfl) ?_
        refine lv_iload hx hb dX0_mix_106 (lv_at hl 1 rfl) ?_
        refine w_pc (pc2 := 108) rfl ?_
        refine lv_ixor hx hb dX0_mix_108 (top_i (n_xor _ _) ?_)
        refine cf_1 (wr := [(o, .inr (0, [.ref qs, .ref qu, .ref qw, .ref qb, .ref qe])), (qb, .inl (kb, 16, .inl (nF (un (un (mxp b k) (4 * k) (mx (b (4 * k)) (b ((4 * k) + 1)) (b ((4 * k) + 2)) (b ((4 * k) + 3)) (b (4 * k)) (b ((4 * k) + 1)))) ((4 * k) + 1) (mx (b (4 * k)) (b ((4 * k) + 1)) (b ((4 * k) + 2)) (b ((4 * k) + 3)) (b ((4 * k) + 1)) (b ((4 * k) + 2)))))))]) (va_runS (As := [.int (nI ((b ((4 * k) + 2)) ^^^ (b ((4 * k) + 3))))]) (rest := [.int (nI (((((b (4 * k)) ^^^ (b ((4 * k) + 1))) ^^^ (b ((4 * k) + 2))) ^^^ (b ((4 * k) + 3))) ^^^ (b ((4 * k) + 2)))), .int (nI ((4 * k) + 2)), .ref qb]) ⟨hx, hb, hml, hown, hta⟩ (MO.to (c_twice l dC dI ((b ((4 * k) + 2)) ^^^ (b ((4 * k) + 3))) (xor_lt (b256 _) (b256 _))) H.size) (va_cwS 1 hta (aw_S mw_34 mw_32 mw_33 mw_2) rfl rfl rfl dyX0_twice ⟨(Nat.le_of_ble_eq_true rfl), (Nat.le_of_ble_eq_true rfl)⟩) (pr_S hP hD hK hE [] [] (by decide) rfl rfl) rfl rfl hl.1 rfl (lv_room (Nat.le_of_ble_eq_true rfl)) dX0_mix_109 ⟨(Nat.le_of_ble_eq_true rfl), (Nat.le_of_ble_eq_true rfl)⟩) hP hD hS hA [] [0, 1] rfl rfl (by decide) (by decide) (fun H locs hP hD hS => ?_)
        have hP : va_P (dC, dI) vwCl [(o, .inr (0, [.ref qs, .ref qu, .ref qw, .ref qb, .ref qe])), (qb, .inl (kb, 16, .inl (nF (un (un (mxp b k) (4 * k) (mx (b (4 * k)) (b ((4 * k) + 1)) (b ((4 * k) + 2)) (b ((4 * k) + 3)) (b (4 * k)) (b ((4 * k) + 1)))) ((4 * k) + 1) (mx (b (4 * k)) (b ((4 * k) + 1)) (b ((4 * k) + 2)) (b ((4 * k) + 3)) (b ((4 * k) + 1)) (b ((4 * k) + 2)))))))] H := hP
        have hD : va_D A [(o, .inr (0, [.ref qs, .ref qu, .ref qw, .ref qb, .ref qe])), (qb, .inl (kb, 16, .inl (nF (un (un (mxp b k) (4 * k) (mx (b (4 * k)) (b ((4 * k) + 1)) (b ((4 * k) + 2)) (b ((4 * k) + 3)) (b (4 * k)) (b ((4 * k) + 1)))) ((4 * k) + 1) (mx (b (4 * k)) (b ((4 * k) + 1)) (b ((4 * k) + 2)) (b ((4 * k) + 3)) (b ((4 * k) + 1)) (b ((4 * k) + 2)))))))] := hD
        refine W.widen (k := 0) (n := 0) (Nat.le_of_ble_eq_true rfl) (Nat.le_of_ble_eq_true rfl) ?_
        refine w_pc (pc2 := 112) rfl ?_
        refine lv_ixor hx hb dX0_mix_112 ?_
        refine top_i (y := nI (mx (b (4 * k)) (b ((4 * k) + 1)) (b ((4 * k) + 2)) (b ((4 * k) + 3)) (b ((4 * k) + 2)) (b ((4 * k) + 3)))) (n_xor _ _) ?_
        refine va_iasb hx hb hK hP hD hS 1 0 rfl rfl (by omega) (by decide) dX0_mix_113 (fun H locs hP hD hS => ?_)
        have hP : va_P (dC, dI) vwCl [(o, .inr (0, [.ref qs, .ref qu, .ref qw, .ref qb, .ref qe])), (qb, .inl (kb, 16, .inl (nF (un (un (un (mxp b k) (4 * k) (mx (b (4 * k)) (b ((4 * k) + 1)) (b ((4 * k) + 2)) (b ((4 * k) + 3)) (b (4 * k)) (b ((4 * k) + 1)))) ((4 * k) + 1) (mx (b (4 * k)) (b ((4 * k) + 1)) (b ((4 * k) + 2)) (b ((4 * k) + 3)) (b ((4 * k) + 1)) (b ((4 * k) + 2)))) ((4 * k) + 2) (mx (b (4 * k)) (b ((4 * k) + 1)) (b ((4 * k) + 2)) (b ((4 * k) + 3)) (b ((4 * k) + 2)) (b ((4 * k) + 3)))))))] H := hP
        have hD : va_D A [(o, .inr (0, [.ref qs, .ref qu, .ref qw, .ref qb, .ref qe])), (qb, .inl (kb, 16, .inl (nF (un (un (un (mxp b k) (4 * k) (mx (b (4 * k)) (b ((4 * k) + 1)) (b ((4 * k) + 2)) (b ((4 * k) + 3)) (b (4 * k)) (b ((4 * k) + 1)))) ((4 * k) + 1) (mx (b (4 * k)) (b ((4 * k) + 1)) (b ((4 * k) + 2)) (b ((4 * k) + 3)) (b ((4 * k) + 1)) (b ((4 * k) + 2)))) ((4 * k) + 2) (mx (b (4 * k)) (b ((4 * k) + 1)) (b ((4 * k) + 2)) (b ((4 * k) + 3)) (b ((4 * k) + 2)) (b ((4 * k) + 3)))))))] := hD
        refine lv_aload_n hx hb dX0_mix_114 rfl (lv_at hl 6 rfl) ?_
        refine va_get (D := (dC, dI)) (ci := 0) (v := .ref qb) (C := RX0) (T := TX0) (N := 5) hx hb hta inX0 hown hK hP 0 rfl rfl 3 (by decide) (hta _ mw_53) (fun _ h9 => h9) rfl dX0_mix_115 ?_
        refine lv_iload_n hx hb dX0_mix_118 rfl (lv_at hl 5 rfl) ?_
        refine lv_iconst (v := nI 3) hx hb dX0_mix_119 (by decide) ?_
        refine lv_iadd hx hb dX0_mix_120 (top_i (nI_add _ _) ?_)
        refine lv_iload hx hb dX0_mix_121 (lv_at hl 0 rfl) ?_
        refine lv_iload hx hb dX0_mix_123 (lv_at hl 1 rfl) ?_
        refine lv_ixor hx hb dX0_mix_125 (top_i (n_xor _ _) ?_)
        refine lv_iload hx hb dX0_mix_126 (lv_at hl 1 rfl) ?_
        refine lv_iload_n hx hb dX0_mix_128 rfl (lv_at hl 4 rfl) ?_
        refine w_pc (pc2 := 129) rfl ?_
        refine lv_ixor hx hb dX0_mix_129 (top_i (n_xor _ _) ?_)
        refine cf_1 (wr := [(o, .inr (0, [.ref qs, .ref qu, .ref qw, .ref qb, .ref qe])), (qb, .inl (kb, 16, .inl (nF (un (un (un (mxp b k) (4 * k) (mx (b (4 * k)) (b ((4 * k) + 1)) (b ((4 * k) + 2)) (b ((4 * k) + 3)) (b (4 * k)) (b ((4 * k) + 1)))) ((4 * k) + 1) (mx (b (4 * k)) (b ((4 * k) + 1)) (b ((4 * k) + 2)) (b ((4 * k) + 3)) (b ((4 * k) + 1)) (b ((4 * k) + 2)))) ((4 * k) + 2) (mx (b (4 * k)) (b ((4 * k) + 1)) (b ((4 * k) + 2)) (b ((4 * k) + 3)) (b ((4 * k) + 2)) (b ((4 * k) + 3)))))))]) (va_runS (As := [.int (nI ((b ((4 * k) + 3)) ^^^ (b (4 * k))))]) (rest := [.int (nI (((((b (4 * k)) ^^^ (b ((4 * k) + 1))) ^^^ (b ((4 * k) + 2))) ^^^ (b ((4 * k) + 3))) ^^^ (b ((4 * k) + 3)))), .int (nI ((4 * k) + 3)), .ref qb]) ⟨hx, hb, hml, hown, hta⟩ (MO.to (c_twice l dC dI ((b ((4 * k) + 3)) ^^^ (b (4 * k))) (xor_lt (b256 _) (b256 _))) H.size) (va_cwS 1 hta (aw_S mw_34 mw_32 mw_33 mw_2) rfl rfl rfl dyX0_twice ⟨(Nat.le_of_ble_eq_true rfl), (Nat.le_of_ble_eq_true rfl)⟩) (pr_S hP hD hK hE [] [] (by decide) rfl rfl) rfl rfl hl.1 rfl (lv_room (Nat.le_of_ble_eq_true rfl)) dX0_mix_130 ⟨(Nat.le_of_ble_eq_true rfl), (Nat.le_of_ble_eq_true rfl)⟩) hP hD hS hA [] [0, 1] rfl rfl (by decide) (by decide) (fun H locs hP hD hS => ?_)
        have hP : va_P (dC, dI) vwCl [(o, .inr (0, [.ref qs, .ref qu, .ref qw, .ref qb, .ref qe])), (qb, .inl (kb, 16, .inl (nF (un (un (un (mxp b k) (4 * k) (mx (b (4 * k)) (b ((4 * k) + 1)) (b ((4 * k) + 2)) (b ((4 * k) + 3)) (b (4 * k)) (b ((4 * k) + 1)))) ((4 * k) + 1) (mx (b (4 * k)) (b ((4 * k) + 1)) (b ((4 * k) + 2)) (b ((4 * k) + 3)) (b ((4 * k) + 1)) (b ((4 * k) + 2)))) ((4 * k) + 2) (mx (b (4 * k)) (b ((4 * k) + 1)) (b ((4 * k) + 2)) (b ((4 * k) + 3)) (b ((4 * k) + 2)) (b ((4 * k) + 3)))))))] H := hP
        have hD : va_D A [(o, .inr (0, [.ref qs, .ref qu, .ref qw, .ref qb, .ref qe])), (qb, .inl (kb, 16, .inl (nF (un (un (un (mxp b k) (4 * k) (mx (b (4 * k)) (b ((4 * k) + 1)) (b ((4 * k) + 2)) (b ((4 * k) + 3)) (b (4 * k)) (b ((4 * k) + 1)))) ((4 * k) + 1) (mx (b (4 * k)) (b ((4 * k) + 1)) (b ((4 * k) + 2)) (b ((4 * k) + 3)) (b ((4 * k) + 1)) (b ((4 * k) + 2)))) ((4 * k) + 2) (mx (b (4 * k)) (b ((4 * k) + 1)) (b ((4 * k) + 2)) (b ((4 * k) + 3)) (b ((4 * k) + 2)) (b ((4 * k) + 3)))))))] := hD
        refine W.widen (k := 0) (n := 0) (Nat.le_of_ble_eq_true rfl) (Nat.le_of_ble_eq_true rfl) ?_
        refine w_pc (pc2 := 133) rfl ?_
        refine lv_ixor hx hb dX0_mix_133 ?_
        refine top_i (y := nI (mx (b (4 * k)) (b ((4 * k) + 1)) (b ((4 * k) + 2)) (b ((4 * k) + 3)) (b ((4 * k) + 3)) (b (4 * k)))) (n_xor _ _) ?_
        refine va_iasb hx hb hK hP hD hS 1 0 rfl rfl (by omega) (by decide) dX0_mix_134 (fun H locs hP hD hS => ?_)
        have hP : va_P (dC, dI) vwCl [(o, .inr (0, [.ref qs, .ref qu, .ref qw, .ref qb, .ref qe])), (qb, .inl (kb, 16, .inl (nF (un (un (un (un (mxp b k) (4 * k) (mx (b (4 * k)) (b ((4 * k) + 1)) (b ((4 * k) + 2)) (b ((4 * k) + 3)) (b (4 * k)) (b ((4 * k) + 1)))) ((4 * k) + 1) (mx (b (4 * k)) (b ((4 * k) + 1)) (b ((4 * k) + 2)) (b ((4 * k) + 3)) (b ((4 * k) + 1)) (b ((4 * k) + 2)))) ((4 * k) + 2) (mx (b (4 * k)) (b ((4 * k) + 1)) (b ((4 * k) + 2)) (b ((4 * k) + 3)) (b ((4 * k) + 2)) (b ((4 * k) + 3)))) ((4 * k) + 3) (mx (b (4 * k)) (b ((4 * k) + 1)) (b ((4 * k) + 2)) (b ((4 * k) + 3)) (b ((4 * k) + 3)) (b (4 * k)))))))] H := hP
        have hD : va_D A [(o, .inr (0, [.ref qs, .ref qu, .ref qw, .ref qb, .ref qe])), (qb, .inl (kb, 16, .inl (nF (un (un (un (un (mxp b k) (4 * k) (mx (b (4 * k)) (b ((4 * k) + 1)) (b ((4 * k) + 2)) (b ((4 * k) + 3)) (b (4 * k)) (b ((4 * k) + 1)))) ((4 * k) + 1) (mx (b (4 * k)) (b ((4 * k) + 1)) (b ((4 * k) + 2)) (b ((4 * k) + 3)) (b ((4 * k) + 1)) (b ((4 * k) + 2)))) ((4 * k) + 2) (mx (b (4 * k)) (b ((4 * k) + 1)) (b ((4 * k) + 2)) (b ((4 * k) + 3)) (b ((4 * k) + 2)) (b ((4 * k) + 3)))) ((4 * k) + 3) (mx (b (4 * k)) (b ((4 * k) + 1)) (b ((4 * k) + 2)) (b ((4 * k) + 3)) (b ((4 * k) + 3)) (b (4 * k)))))))] := hD
        refine lv_iinc (v := nI (4 * (k + 1))) (k := 5) hx hb dX0_mix_135 hl rfl ((ix_inc _ 4).trans (congrArg nI (by omega))) (by decide) rfl (fun ls hl => ?_)
        have hl : lv_has ls 7 [(1, .int (nI (4 * (k + 1)))), (6, .int (nI ((((b (4 * k)) ^^^ (b ((4 * k) + 1))) ^^^ (b ((4 * k) + 2))) ^^^ (b ((4 * k) + 3))))), (5, .int (nI (b ((4 * k) + 3)))), (4, .int (nI (b ((4 * k) + 2)))), (3, .int (nI (b ((4 * k) + 1)))), (2, .int (nI (b (4 * k)))), (0, .ref o)] := hl
        refine lv_goto (tgt := 2) hx hb dX0_mix_138 (by decide) ?_
        obtain ⟨hP, hD⟩ := va_recb (g := mxp b (k + 1)) hP hD 1 rfl (fun i _ => mxp_s b k i)
        have hP : va_P (dC, dI) vwCl [(o, .inr (0, [.ref qs, .ref qu, .ref qw, .ref qb, .ref qe])), (qb, .inl (kb, 16, .inl (nF (mxp b (k + 1)))))] H := hP
        have hD : va_D A [(o, .inr (0, [.ref qs, .ref qu, .ref qw, .ref qb, .ref qe])), (qb, .inl (kb, 16, .inl (nF (mxp b (k + 1)))))] := hD
        exact ih (k + 1) ls H locs (by omega)  (lv_sub hl [0, 6] rfl) hP hD hS
  exact loop_2 4 0 ls H locs (by omega)  (lv_sub hl [0, 1] rfl) hP hD hS

def rm_c_unmix : Room := { frames := 2, cells := 0, slots := 0, locals := 46 }
set_option maxHeartbeats 4000000 in
set_option maxRecDepth 100000 in
/-- unmix() -/
theorem c_unmix (l : Launch) (dC : Nat → ClassId) (dI : Nat → Nat → Nat) (o : Nat) (qs : Nat) (qu : Nat) (qw : Nat) (qb : Nat) (qe : Nat) (kb : ClassId) (b : Nat → Nat) (b256 : ∀ i, b i < 256) : MO l dC dI yX0_unmix wsX0_unmix rm_c_unmix [.ref o] [(o, .inr (0, [.ref qs, .ref qu, .ref qw, .ref qb, .ref qe])), (qb, .inl (kb, 16, .inl (nF b)))] [(kb, .int)] [(o, .inr (0, [.ref qs, .ref qu, .ref qw, .ref qb, .ref qe])), (qb, .inl (kb, 16, .inl (nF (mixN (mixN (mixN b))))))] none := by
  refine mo_ofW (cc := cX0_unmix) (maxL := 1) (ret := none) (by decide) rfl (Nat.le_of_ble_eq_true rfl) ?_
  intro p e s m args below meth c Q A H locs ls hx hb hr hlk hml hta hown hin hE hQ hAe hA hK hP hD hS hl
  have hown : s.vm.findClass RX0 = some m.cls := hown
  have hl : lv_has ls 1 [(0, .ref o)] := hl
  refine lv_aload_n hx hb dX0_unmix_0 rfl (lv_at hl 0 rfl) ?_
  refine cf_0 (wr := []) (va_runV (As := []) (rest := []) ⟨hx, hb, hml, hown, hta⟩ (MO.to (c_mix l dC dI o qs qu qw qb qe kb b b256) H.size) (cwV 0 hta (aw_V mw_161 mw_158 mw_160 mw_s6 mw_2) rfl rfl rfl ⟨rfl, dyX0_mix⟩ ⟨(Nat.le_of_ble_eq_true rfl), (Nat.le_of_ble_eq_true rfl)⟩) (pr_V hP hD hK hE [0, 1] [0] (by decide) rfl rfl rfl rfl) rfl rfl hl.1 rfl (lv_room (Nat.le_of_ble_eq_true rfl)) dX0_unmix_1 ⟨(Nat.le_of_ble_eq_true rfl), (Nat.le_of_ble_eq_true rfl)⟩) hP hD hS hA [0, 1] [] rfl rfl (by decide) (by decide) (fun H locs hP hD hS => ?_)
  have hP : va_P (dC, dI) vwCl [(o, .inr (0, [.ref qs, .ref qu, .ref qw, .ref qb, .ref qe])), (qb, .inl (kb, 16, .inl (nF (mixN b))))] H := hP
  have hD : va_D A [(o, .inr (0, [.ref qs, .ref qu, .ref qw, .ref qb, .ref qe])), (qb, .inl (kb, 16, .inl (nF (mixN b))))] := hD
  refine W.widen (k := 0) (n := 0) (Nat.le_of_ble_eq_true rfl) (Nat.le_of_ble_eq_true rfl) ?_
  refine w_pc (pc2 := 4) rfl ?_
  refine lv_aload_n hx hb dX0_unmix_4 rfl (lv_at hl 0 rfl) ?_
  refine cf_0 (wr := []) (va_runV (As := []) (rest := []) ⟨hx, hb, hml, hown, hta⟩ (MO.to (c_mix l dC dI o qs qu qw qb qe kb (mixN b) (mixN_lt b256)) H.size) (cwV 0 hta (aw_V mw_161 mw_158 mw_160 mw_s6 mw_2) rfl rfl rfl ⟨rfl, dyX0_mix⟩ ⟨(Nat.le_of_ble_eq_true rfl), (Nat.le_of_ble_eq_true rfl)⟩) (pr_V hP hD hK hE [0, 1] [0] (by decide) rfl rfl rfl rfl) rfl rfl hl.1 rfl (lv_room (Nat.le_of_ble_eq_true rfl)) dX0_unmix_5 ⟨(Nat.le_of_ble_eq_true rfl), (Nat.le_of_ble_eq_true rfl)⟩) hP hD hS hA [0, 1] [] rfl rfl (by decide) (by decide) (fun H locs hP hD hS => ?_)
  have hP : va_P (dC, dI) vwCl [(o, .inr (0, [.ref qs, .ref qu, .ref qw, .ref qb, .ref qe])), (qb, .inl (kb, 16, .inl (nF (mixN (mixN b)))))] H := hP
  have hD : va_D A [(o, .inr (0, [.ref qs, .ref qu, .ref qw, .ref qb, .ref qe])), (qb, .inl (kb, 16, .inl (nF (mixN (mixN b)))))] := hD
  refine W.widen (k := 0) (n := 0) (Nat.le_of_ble_eq_true rfl) (Nat.le_of_ble_eq_true rfl) ?_
  refine w_pc (pc2 := 8) rfl ?_
  refine lv_aload_n hx hb dX0_unmix_8 rfl (lv_at hl 0 rfl) ?_
  refine cf_0 (wr := []) (va_runV (As := []) (rest := []) ⟨hx, hb, hml, hown, hta⟩ (MO.to (c_mix l dC dI o qs qu qw qb qe kb (mixN (mixN b)) (mixN_lt (mixN_lt b256))) H.size) (cwV 0 hta (aw_V mw_161 mw_158 mw_160 mw_s6 mw_2) rfl rfl rfl ⟨rfl, dyX0_mix⟩ ⟨(Nat.le_of_ble_eq_true rfl), (Nat.le_of_ble_eq_true rfl)⟩) (pr_V hP hD hK hE [0, 1] [0] (by decide) rfl rfl rfl rfl) rfl rfl hl.1 rfl (lv_room (Nat.le_of_ble_eq_true rfl)) dX0_unmix_9 ⟨(Nat.le_of_ble_eq_true rfl), (Nat.le_of_ble_eq_true rfl)⟩) hP hD hS hA [0, 1] [] rfl rfl (by decide) (by decide) (fun H locs hP hD hS => ?_)
  have hP : va_P (dC, dI) vwCl [(o, .inr (0, [.ref qs, .ref qu, .ref qw, .ref qb, .ref qe])), (qb, .inl (kb, 16, .inl (nF (mixN (mixN (mixN b))))))] H := hP
  have hD : va_D A [(o, .inr (0, [.ref qs, .ref qu, .ref qw, .ref qb, .ref qe])), (qb, .inl (kb, 16, .inl (nF (mixN (mixN (mixN b))))))] := hD
  refine W.widen (k := 0) (n := 0) (Nat.le_of_ble_eq_true rfl) (Nat.le_of_ble_eq_true rfl) ?_
  refine w_pc (pc2 := 12) rfl ?_
  exact rt_0 hx hb hr hlk hQ hAe hP hD hS [0, 1] (by decide) rfl (Nat.le_of_ble_eq_true rfl) (Nat.le_of_ble_eq_true rfl) dX0_unmix_12

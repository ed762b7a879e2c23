def rm_c_enterSubst : Room := { frames := 0, cells := 0, slots := 0, locals := 0 }
set_option maxHeartbeats 4000000 in
set_option maxRecDepth 100000 in
/-- enterSubst(x, v) -/
theorem c_enterSubst (l : Launch) (dC : Nat → ClassId) (dI : Nat → Nat → Nat) (o : Nat) (qs : Nat) (qu : Nat) (qw : Nat) (qb : Nat) (qe : Nat) (ks : ClassId) (ku : ClassId) (f : Nat → Nat) (g : Nat → Nat) (x : Nat) (v : Nat) (hx9 : x < 256) (hv9 : v < 256) : MO l dC dI yX0_enterSubst wsX0_enterSubst rm_c_enterSubst [.ref o, .int (nI x), .int (nI v)] [(o, .inr (0, [.ref qs, .ref qu, .ref qw, .ref qb, .ref qe])), (qs, .inl (ks, 256, .inl (nF f))), (qu, .inl (ku, 256, .inl (nF g)))] [(ks, .int), (ku, .int)] [(o, .inr (0, [.ref qs, .ref qu, .ref qw, .ref qb, .ref qe])), (qs, .inl (ks, 256, .inl (nF (un f x (afN v))))), (qu, .inl (ku, 256, .inl (nF (un g (afN v) x))))] none := by
  refine mo_ofW (cc := cX0_enterSubst) (maxL := 5) (ret := none) (by decide) rfl (Nat.le_of_ble_eq_true rfl) ?_
  intro p e s m args below meth c Q A H locs ls hx hb hr hlk hml hta hown hin hE hQ hAe hA hK hP hD hS hl
  have hown : s.vm.findClass RX0 = some m.cls := hown
  have hl : lv_has ls 5 [(0, .ref o), (1, .int (nI x)), (2, .int (nI v))] := hl
  refine lv_iload_n hx hb dX0_enterSubst_0 rfl (lv_at hl 2 rfl) ?_
  refine lv_iload_n hx hb dX0_enterSubst_1 rfl (lv_at hl 2 rfl) ?_
  refine lv_bipush (v := nI 8) hx hb dX0_enterSubst_2 (by decide) ?_
  refine lv_ishl hx hb dX0_enterSubst_4 (top_i (n_shl _ (by decide)) ?_)
  refine lv_ior hx hb dX0_enterSubst_5 ?_
  refine top_i (y := nI (ccN v)) (n_or _ _) ?_
  refine lv_istore_n hx hb dX0_enterSubst_6 rfl hl (by decide) rfl (fun ls hl => ?_)
  have hl : lv_has ls 5 [(3, .int (nI (ccN v))), (0, .ref o), (1, .int (nI x)), (2, .int (nI v))] := hl
  refine lv_iload_n hx hb dX0_enterSubst_7 rfl (lv_at hl 0 rfl) ?_
  refine lv_iload_n hx hb dX0_enterSubst_8 rfl (lv_at hl 0 rfl) ?_
  refine lv_iconst (v := nI 4) hx hb dX0_enterSubst_9 (by decide) ?_
  refine lv_iushr hx hb dX0_enterSubst_10 rfl (top_i (n_ushr (ccN_lt hv9) (by decide)) ?_)
  refine lv_ixor hx hb dX0_enterSubst_11 (top_i (n_xor _ _) ?_)
  refine w_pc (pc2 := 12) rfl ?_
  refine lv_iload_n hx hb dX0_enterSubst_12 rfl (lv_at hl 0 rfl) ?_
  refine lv_iconst (v := nI 5) hx hb dX0_enterSubst_13 (by decide) ?_
  refine lv_iushr hx hb dX0_enterSubst_14 rfl (top_i (n_ushr (ccN_lt hv9) (by decide)) ?_)
  refine lv_ixor hx hb dX0_enterSubst_15 (top_i (n_xor _ _) ?_)
  refine lv_iload_n hx hb dX0_enterSubst_16 rfl (lv_at hl 0 rfl) ?_
  refine lv_bipush (v := nI 6) hx hb dX0_enterSubst_17 (by decide) ?_
  refine lv_iushr hx hb dX0_enterSubst_19 rfl (top_i (n_ushr (ccN_lt hv9) (by decide)) ?_)
  refine lv_ixor hx hb dX0_enterSubst_20 (top_i (n_xor _ _) ?_)
  refine lv_iload_n hx hb dX0_enterSubst_21 rfl (lv_at hl 0 rfl) ?_
  refine lv_bipush (v := nI 7) hx hb dX0_enterSubst_22 (by decide) ?_
  refine lv_iushr hx hb dX0_enterSubst_24 rfl (top_i (n_ushr (ccN_lt hv9) (by decide)) ?_)
  refine lv_ixor hx hb dX0_enterSubst_25 (top_i (n_xor _ _) ?_)
  refine w_pc (pc2 := 26) rfl ?_
  refine lv_bipush (v := nI 99) hx hb dX0_enterSubst_26 (by decide) ?_
  refine lv_ixor hx hb dX0_enterSubst_28 (top_i (n_xor _ _) ?_)
  refine lv_sipush (v := nI 255) hx hb dX0_enterSubst_29 (by decide) ?_
  refine lv_iand hx hb dX0_enterSubst_32 ?_
  refine top_i (y := nI (afN v)) (n_m255 _) ?_
  refine lv_istore hx hb dX0_enterSubst_33 hl (by decide) rfl (fun ls hl => ?_)
  have hl : lv_has ls 5 [(4, .int (nI (afN v))), (3, .int (nI (ccN v))), (0, .ref o), (1, .int (nI x)), (2, .int (nI v))] := hl
  refine lv_aload_n hx hb dX0_enterSubst_35 rfl (lv_at hl 2 rfl) ?_
  refine va_get (D := (dC, dI)) (ci := 0) (v := .ref qs) (C := RX0) (T := TX0) (N := 5) hx hb hta inX0 hown hK hP 0 rfl rfl 0 (by decide) (hta _ mw_50) (fun _ h9 => h9) rfl dX0_enterSubst_36 ?_
  refine lv_iload_n hx hb dX0_enterSubst_39 rfl (lv_at hl 3 rfl) ?_
  refine lv_iload hx hb dX0_enterSubst_40 (lv_at hl 0 rfl) ?_
  refine va_iasb hx hb hK hP hD hS 1 0 rfl rfl (by omega) (by decide) dX0_enterSubst_42 (fun H locs hP hD hS => ?_)
  have hP : va_P (dC, dI) vwCl [(o, .inr (0, [.ref qs, .ref qu, .ref qw, .ref qb, .ref qe])), (qs, .inl (ks, 256, .inl (nF (un f x (afN v))))), (qu, .inl (ku, 256, .inl (nF g)))] H := hP
  have hD : va_D A [(o, .inr (0, [.ref qs, .ref qu, .ref qw, .ref qb, .ref qe])), (qs, .inl (ks, 256, .inl (nF (un f x (afN v))))), (qu, .inl (ku, 256, .inl (nF g)))] := hD
  refine lv_aload_n hx hb dX0_enterSubst_43 rfl (lv_at hl 2 rfl) ?_
  refine va_get (D := (dC, dI)) (ci := 0) (v := .ref qu) (C := RX0) (T := TX0) (N := 5) hx hb hta inX0 hown hK hP 0 rfl rfl 1 (by decide) (hta _ mw_51) (fun _ h9 => h9) rfl dX0_enterSubst_44 ?_
  refine w_pc (pc2 := 47) rfl ?_
  refine lv_iload hx hb dX0_enterSubst_47 (lv_at hl 0 rfl) ?_
  refine lv_iload_n hx hb dX0_enterSubst_49 rfl (lv_at hl 3 rfl) ?_
  refine va_iasb hx hb hK hP hD hS 2 1 rfl rfl (afN_lt _) (by decide) dX0_enterSubst_50 (fun H locs hP hD hS => ?_)
  have hP : va_P (dC, dI) vwCl [(o, .inr (0, [.ref qs, .ref qu, .ref qw, .ref qb, .ref qe])), (qs, .inl (ks, 256, .inl (nF (un f x (afN v))))), (qu, .inl (ku, 256, .inl (nF (un g (afN v) x))))] H := hP
  have hD : va_D A [(o, .inr (0, [.ref qs, .ref qu, .ref qw, .ref qb, .ref qe])), (qs, .inl (ks, 256, .inl (nF (un f x (afN v))))), (qu, .inl (ku, 256, .inl (nF (un g (afN v) x))))] := hD
  exact rt_0 hx hb hr hlk hQ hAe hP hD hS [0, 1, 2] (by decide) rfl (Nat.le_of_ble_eq_true rfl) (Nat.le_of_ble_eq_true rfl) dX0_enterSubst_51

def rm_c_fillSubst : Room := { frames := 1, cells := 1, slots := 255, locals := 24 }
set_option maxHeartbeats 4000000 in
set_option maxRecDepth 100000 in
/-- fillSubst() -/
theorem c_fillSubst (l : Launch) (dC : Nat → ClassId) (dI : Nat → Nat → Nat) (o : Nat) (qs : Nat) (qu : Nat) (qw : Nat) (qb : Nat) (qe : Nat) (ks : ClassId) (ku : ClassId) (f : Nat → Nat) (g : Nat → Nat) : MO l dC dI yX0_fillSubst wsX0_fillSubst rm_c_fillSubst [.ref o] [(o, .inr (0, [.ref qs, .ref qu, .ref qw, .ref qb, .ref qe])), (qs, .inl (ks, 256, .inl (nF f))), (qu, .inl (ku, 256, .inl (nF g)))] [(ks, .int), (ku, .int)] [(o, .inr (0, [.ref qs, .ref qu, .ref qw, .ref qb, .ref qe])), (qs, .inl (ks, 256, .inl (nF (esN f 255)))), (qu, .inl (ku, 256, .inl (nF (euN g 255))))] none := by
  refine mo_ofW (cc := cX0_fillSubst) (maxL := 4) (ret := none) (by decide) rfl (Nat.le_of_ble_eq_true rfl) ?_
  intro p e s m args below meth c Q A H locs ls hx hb hr hlk hml hta hown hin hE hQ hAe hA hK hP hD hS hl
  have hown : s.vm.findClass RX0 = some m.cls := hown
  have hl : lv_has ls 4 [(0, .ref o)] := hl
  refine lv_sipush (v := nI 255) hx hb dX0_fillSubst_0 (by decide) ?_
  refine va_newa (atype := .int) (a0 := (255, .inl (nF fun _ => 0))) (N' := 255) hx hb (hta _ mw_66) rfl hK hP hD hS hA (fun _ => rfl) (by decide) (by decide) (by decide) (Nat.le_of_ble_eq_true rfl) (Nat.le_of_ble_eq_true rfl) dX0_fillSubst_3 (fun qp kqp H hK hP hD hS => ?_)
  have hP : va_P (dC, dI) vwCl [(o, .inr (0, [.ref qs, .ref qu, .ref qw, .ref qb, .ref qe])), (qs, .inl (ks, 256, .inl (nF f))), (qu, .inl (ku, 256, .inl (nF g))), (qp, .inl (kqp, 255, .inl (nF (fun _ => 0))))] H := hP
  have hD : va_D A [(o, .inr (0, [.ref qs, .ref qu, .ref qw, .ref qb, .ref qe])), (qs, .inl (ks, 256, .inl (nF f))), (qu, .inl (ku, 256, .inl (nF g))), (qp, .inl (kqp, 255, .inl (nF (fun _ => 0))))] := hD
  have hK : va_K (dC, dI) vwCl [(ks, .int), (ku, .int), (kqp, .int)] s := hK
  refine W.widen (k := 1) (n := 255) (Nat.le_of_ble_eq_true rfl) (Nat.le_of_ble_eq_true rfl) ?_
  refine lv_astore_n hx hb dX0_fillSubst_5 rfl hl (by decide) rfl (fun ls hl => ?_)
  have hl : lv_has ls 4 [(1, .ref qp), (0, .ref o)] := hl
  refine lv_iconst (v := nI 1) hx hb dX0_fillSubst_6 (by decide) ?_
  refine lv_istore_n hx hb dX0_fillSubst_7 rfl hl (by decide) rfl (fun ls hl => ?_)
  have hl : lv_has ls 4 [(2, .int (nI 1)), (1, .ref qp), (0, .ref o)] := hl
  refine lv_iconst (v := nI 0) hx hb dX0_fillSubst_8 (by decide) ?_
  refine lv_istore_n hx hb dX0_fillSubst_9 rfl hl (by decide) rfl (fun ls hl => ?_)
  have hl : lv_has ls 4 [(3, .int (nI 0)), (2, .int (nI 1)), (1, .ref qp), (0, .ref o)] := hl
  obtain ⟨hP, hD⟩ := va_recb (g := ppN 0) hP hD 3 rfl (fun i _ => ppN_0 i)
  have hP : va_P (dC, dI) vwCl [(o, .inr (0, [.ref qs, .ref qu, .ref qw, .ref qb, .ref qe])), (qs, .inl (ks, 256, .inl (nF f))), (qu, .inl (ku, 256, .inl (nF g))), (qp, .inl (kqp, 255, .inl (nF (ppN 0))))] H := hP
  have hD : va_D A [(o, .inr (0, [.ref qs, .ref qu, .ref qw, .ref qb, .ref qe])), (qs, .inl (ks, 256, .inl (nF f))), (qu, .inl (ku, 256, .inl (nF g))), (qp, .inl (kqp, 255, .inl (nF (ppN 0))))] := hD
  have loop_10 : ∀ (n k : Nat) (ls : Array Slot) (H : Heap) (locs : List Loc), k + n = 255 → lv_has ls 4 [(2, .int (nI (pwN k))), (3, .int (nI k)), (1, .ref qp), (0, .ref o)] → va_P (dC, dI) vwCl [(o, .inr (0, [.ref qs, .ref qu, .ref qw, .ref qb, .ref qe])), (qs, .inl (ks, 256, .inl (nF f))), (qu, .inl (ku, 256, .inl (nF g))), (qp, .inl (kqp, 255, .inl (nF (ppN k))))] H → va_D A [(o, .inr (0, [.ref qs, .ref qu, .ref qw, .ref qb, .ref qe])), (qs, .inl (ks, 256, .inl (nF f))), (qu, .inl (ku, 256, .inl (nF g))), (qp, .inl (kqp, 255, .inl (nF (ppN k))))] → va_S A s.heap H locs → W p l e rm_c_fillSubst s m args below meth c H locs 1 255 Q (F0 m 10 ls []) := by
    intro n
    induction n with
    | zero =>
      intro k ls H locs hn_10  hl hP hD hS
      obtain rfl : 255 = k := by omega
      refine lv_iload_n hx hb dX0_fillSubst_10 rfl (lv_at hl 1 rfl) ?_
      refine lv_sipush (v := nI 255) hx hb dX0_fillSubst_11 (by decide) ?_
      refine lv_icmp_ge (tgt := 34) hx hb dX0_fillSubst_14 (by decide) (fun hc_14 => ?_) (fun hc_14 => ?_)
      · skip
        have hc_14 := (ix_le (a := 255) (b := 255) (by omega) (by omega)).mp hc_14
        have hc_14 : (255 ≤ 255) := hc_14
        refine lv_aload_n hx hb dX0_fillSubst_34 rfl (lv_at hl 3 rfl) ?_
        refine lv_iconst (v := nI 0) hx hb dX0_fillSubst_35 (by decide) ?_
        refine lv_iconst (v := nI 0) hx hb dX0_fillSubst_36 (by decide) ?_
        refine cf_0 (wr := [(qp, .inl (kqp, 255, .inl (nF (ppN 255))))]) (va_runV (As := [.int (nI 0), .int (nI 0)]) (rest := []) ⟨hx, hb, hml, hown, hta⟩ (MO.to (c_enterSubst l dC dI o qs qu qw qb qe ks ku f g 0 0 (by decide) (by decide)) H.size) (cwV 2 hta (aw_V mw_38 mw_35 mw_37 mw_s1 mw_2) rfl rfl rfl ⟨rfl, dyX0_enterSubst⟩ ⟨(Nat.le_of_ble_eq_true rfl), (Nat.le_of_ble_eq_true rfl)⟩) (pr_V hP hD hK hE [0, 1, 2] [0, 1] (by decide) rfl rfl rfl rfl) rfl rfl hl.1 rfl (lv_room (Nat.le_of_ble_eq_true rfl)) dX0_fillSubst_37 ⟨(Nat.le_of_ble_eq_true rfl), (Nat.le_of_ble_eq_true rfl)⟩) hP hD hS hA [0, 1, 2] [3] rfl rfl (by decide) (by decide) (fun H locs hP hD hS => ?_)
        have hP : va_P (dC, dI) vwCl [(qp, .inl (kqp, 255, .inl (nF (ppN 255)))), (o, .inr (0, [.ref qs, .ref qu, .ref qw, .ref qb, .ref qe])), (qs, .inl (ks, 256, .inl (nF (un f 0 (afN 0))))), (qu, .inl (ku, 256, .inl (nF (un g (afN 0) 0))))] H := hP
        have hD : va_D A [(qp, .inl (kqp, 255, .inl (nF (ppN 255)))), (o, .inr (0, [.ref qs, .ref qu, .ref qw, .ref qb, .ref qe])), (qs, .inl (ks, 256, .inl (nF (un f 0 (afN 0))))), (qu, .inl (ku, 256, .inl (nF (un g (afN 0) 0))))] := hD
        refine W.widen (k := 1) (n := 255) (Nat.le_of_ble_eq_true rfl) (Nat.le_of_ble_eq_true rfl) ?_
        refine w_pc (pc2 := 40) rfl ?_
        refine lv_iconst (v := nI 0) hx hb dX0_fillSubst_40 (by decide) ?_
        refine lv_istore_n hx hb dX0_fillSubst_41 rfl hl (by decide) rfl (fun ls hl => ?_)
        have hl : lv_has ls 4 [(3, .int (nI 0)), (2, .int (nI (pwN 255))), (1, .ref qp), (0, .ref o)] := hl
        obtain ⟨hP, hD⟩ := va_recb (g := pwN) hP hD 0 rfl (fun i hi9 => ppN_255 i hi9)
        have hP : va_P (dC, dI) vwCl [(qp, .inl (kqp, 255, .inl (nF pwN))), (o, .inr (0, [.ref qs, .ref qu, .ref qw, .ref qb, .ref qe])), (qs, .inl (ks, 256, .inl (nF (un f 0 (afN 0))))), (qu, .inl (ku, 256, .inl (nF (un g (afN 0) 0))))] H := hP
        have hD : va_D A [(qp, .inl (kqp, 255, .inl (nF pwN))), (o, .inr (0, [.ref qs, .ref qu, .ref qw, .ref qb, .ref qe])), (qs, .inl (ks, 256, .inl (nF (un f 0 (afN 0))))), (qu, .inl (ku, 256, .inl (nF (un g (afN 0) 0))))] := hD
        obtain ⟨hP, hD⟩ := va_recb (g := esN f 0) hP hD 2 rfl (fun i _ => rfl)
        have hP : va_P (dC, dI) vwCl [(qp, .inl (kqp, 255, .inl (nF pwN))), (o, .inr (0, [.ref qs, .ref qu, .ref qw, .ref qb, .ref qe])), (qs, .inl (ks, 256, .inl (nF (esN f 0)))), (qu, .inl (ku, 256, .inl (nF (un g (afN 0) 0))))] H := hP
        have hD : va_D A [(qp, .inl (kqp, 255, .inl (nF pwN))), (o, .inr (0, [.ref qs, .ref qu, .ref qw, .ref qb, .ref qe])), (qs, .inl (ks, 256, .inl (nF (esN f 0)))), (qu, .inl (ku, 256, .inl (nF (un g (afN 0) 0))))] := hD
        obtain ⟨hP, hD⟩ := va_recb (g := euN g 0) hP hD 3 rfl (fun i _ => rfl)
        have hP : va_P (dC, dI) vwCl [(qp, .inl (kqp, 255, .inl (nF pwN))), (o, .inr (0, [.ref qs, .ref qu, .ref qw, .ref qb, .ref qe])), (qs, .inl (ks, 256, .inl (nF (esN f 0)))), (qu, .inl (ku, 256, .inl (nF (euN g 0))))] H := hP
        have hD : va_D A [(qp, .inl (kqp, 255, .inl (nF pwN))), (o, .inr (0, [.ref qs, .ref qu, .ref qw, .ref qb, .ref qe])), (qs, .inl (ks, 256, .inl (nF (esN f 0)))), (qu, .inl (ku, 256, .inl (nF (euN g 0))))] := hD
        have loop_42 : ∀ (n t : Nat) (ls : Array Slot) (H : Heap) (locs : List Loc), t + n = 255 → lv_has ls 4 [(3, .int (nI t)), (1, .ref qp), (0, .ref o)] → va_P (dC, dI) vwCl [(qp, .inl (kqp, 255, .inl (nF pwN))), (o, .inr (0, [.ref qs, .ref qu, .ref qw, .ref qb, .ref qe])), (qs, .inl (ks, 256, .inl (nF (esN f t)))), (qu, .inl (ku, 256, .inl (nF (euN g t))))] H → va_D A [(qp, .inl (kqp, 255, .inl (nF pwN))), (o, .inr (0, [.ref qs, .ref qu, .ref qw, .ref qb, .ref qe])), (qs, .inl (ks, 256, .inl (nF (esN f t)))), (qu, .inl (ku, 256, .inl (nF (euN g t))))] → va_S A s.heap H locs → W p l e rm_c_fillSubst s m args below meth c H locs 1 255 Q (F0 m 42 ls []) := by
          intro n
          induction n with
          | zero =>
            intro t ls H locs hn_42  hl hP hD hS
            obtain rfl : 255 = t := by omega
            refine lv_iload_n hx hb dX0_fillSubst_42 rfl (lv_at hl 0 rfl) ?_
            refine lv_sipush (v := nI 255) hx hb dX0_fillSubst_43 (by decide) ?_
            refine lv_icmp_ge (tgt := 73) hx hb dX0_fillSubst_46 (by decide) (fun hc_46 => ?_) (fun hc_46 => ?_)
            · skip
              have hc_46 := (ix_le (a := 255) (b := 255) (by omega) (by omega)).mp hc_46
              have hc_46 : (255 ≤ 255) := hc_46
              exact rt_0 hx hb hr hlk hQ hAe hP hD hS [1, 2, 3] (by decide) rfl (Nat.le_of_ble_eq_true rfl) (Nat.le_of_ble_eq_true rfl) dX0_fillSubst_73
            · skip
              have hc_46 := (not_congr (ix_le (a := 255) (b := 255) (by omega) (by omega))).mp hc_46
              have hc_46 : ¬ (255 ≤ 255) := hc_46
              exfalso; omega
          | succ n ih =>
            intro t ls H locs hn_42  hl hP hD hS
            refine lv_iload_n hx hb dX0_fillSubst_42 rfl (lv_at hl 0 rfl) ?_
            refine lv_sipush (v := nI 255) hx hb dX0_fillSubst_43 (by decide) ?_
            refine lv_icmp_ge (tgt := 73) hx hb dX0_fillSubst_46 (by decide) (fun hc_46 => ?_) (fun hc_46 => ?_)
            · skip
              have hc_46 := (ix_le (a := 255) (b := t) (by omega) (by omega)).mp hc_46
              have hc_46 : (255 ≤ t) := hc_46
              exfalso; omega
            · skip
              have hc_46 := (not_congr (ix_le (a := 255) (b := t) (by omega) (by omega))).mp hc_46
              have hc_46 : ¬ (255 ≤ t) := hc_46
              refine lv_aload_n hx hb dX0_fillSubst_49 rfl (lv_at hl 2 rfl) ?_
              refine lv_aload_n hx hb dX0_fillSubst_50 rfl (lv_at hl 1 rfl) ?_
              refine lv_iload_n hx hb dX0_fillSubst_51 rfl (lv_at hl 0 rfl) ?_
              refine va_ialb hx hb hK hP 0 2 rfl rfl (by omega) (by decide) dX0_fillSubst_52 ?_
              refine lv_aload_n hx hb dX0_fillSubst_53 rfl (lv_at hl 1 rfl) ?_
              refine lv_sipush (v := nI 255) hx hb dX0_fillSubst_54 (by decide) ?_
              refine lv_iload_n hx hb dX0_fillSubst_57 rfl (lv_at hl 0 rfl) ?_
              refine lv_isub hx hb dX0_fillSubst_58 (top_i (pk_sub (by omega)) ?_)
              refine lv_sipush (v := nI 255) hx hb dX0_fillSubst_59 (by decide) ?_
              refine lv_irem hx hb dX0_fillSubst_62 (by decide) (top_i (pk_rem (by omega) (by decide) (by decide)) ?_)
              refine va_ialb hx hb hK hP 0 2 rfl rfl (Nat.mod_lt _ (by decide)) (by decide) dX0_fillSubst_63 ?_
              refine w_pc (pc2 := 64) rfl ?_
              refine cf_0 (wr := [(qp, .inl (kqp, 255, .inl (nF pwN)))]) (va_runV (As := [.int (nI (pwN t)), .int (nI (pwN ((255 - t) % 255)))]) (rest := []) ⟨hx, hb, hml, hown, hta⟩ (MO.to (c_enterSubst l dC dI o qs qu qw qb qe ks ku (esN f t) (euN g t) (pwN t) (pwN ((255 - t) % 255)) (pwN_lt _) (pwN_lt _)) H.size) (cwV 2 hta (aw_V mw_38 mw_35 mw_37 mw_s1 mw_2) rfl rfl rfl ⟨rfl, dyX0_enterSubst⟩ ⟨(Nat.le_of_ble_eq_true rfl), (Nat.le_of_ble_eq_true rfl)⟩) (pr_V hP hD hK hE [1, 2, 3] [0, 1] (by decide) rfl rfl rfl rfl) rfl rfl hl.1 rfl (lv_room (Nat.le_of_ble_eq_true rfl)) dX0_fillSubst_64 ⟨(Nat.le_of_ble_eq_true rfl), (Nat.le_of_ble_eq_true rfl)⟩) hP hD hS hA [1, 2, 3] [0] rfl rfl (by decide) (by decide) (fun H locs hP hD hS => ?_)
              have hP : va_P (dC, dI) vwCl [(qp, .inl (kqp, 255, .inl (nF pwN))), (o, .inr (0, [.ref qs, .ref qu, .ref qw, .ref qb, .ref qe])), (qs, .inl (ks, 256, .inl (nF (un (esN f t) (pwN t) (afN (pwN ((255 - t) % 255))))))), (qu, .inl (ku, 256, .inl (nF (un (euN g t) (afN (pwN ((255 - t) % 255))) (pwN t)))))] H := hP
              have hD : va_D A [(qp, .inl (kqp, 255, .inl (nF pwN))), (o, .inr (0, [.ref qs, .ref qu, .ref qw, .ref qb, .ref qe])), (qs, .inl (ks, 256, .inl (nF (un (esN f t) (pwN t) (afN (pwN ((255 - t) % 255))))))), (qu, .inl (ku, 256, .inl (nF (un (euN g t) (afN (pwN ((255 - t) % 255))) (pwN t)))))] := hD
              refine W.widen (k := 1) (n := 255) (Nat.le_of_ble_eq_true rfl) (Nat.le_of_ble_eq_true rfl) ?_
              refine w_pc (pc2 := 67) rfl ?_
              refine lv_iinc (v := nI (t + 1)) (k := 0) hx hb dX0_fillSubst_67 hl rfl (ix_inc _ 1) (by decide) rfl (fun ls hl => ?_)
              have hl : lv_has ls 4 [(3, .int (nI (t + 1))), (1, .ref qp), (0, .ref o)] := hl
              refine lv_goto (tgt := 42) hx hb dX0_fillSubst_70 (by decide) ?_
              obtain ⟨hP, hD⟩ := va_recb (g := esN f (t + 1)) hP hD 2 rfl (fun i _ => rfl)
              have hP : va_P (dC, dI) vwCl [(qp, .inl (kqp, 255, .inl (nF pwN))), (o, .inr (0, [.ref qs, .ref qu, .ref qw, .ref qb, .ref qe])), (qs, .inl (ks, 256, .inl (nF (esN f (t + 1))))), (qu, .inl (ku, 256, .inl (nF (un (euN g t) (afN (pwN ((255 - t) % 255))) (pwN t)))))] H := hP
              have hD : va_D A [(qp, .inl (kqp, 255, .inl (nF pwN))), (o, .inr (0, [.ref qs, .ref qu, .ref qw, .ref qb, .ref qe])), (qs, .inl (ks, 256, .inl (nF (esN f (t + 1))))), (qu, .inl (ku, 256, .inl (nF (un (euN g t) (afN (pwN ((255 - t) % 255))) (pwN t)))))] := hD
              obtain ⟨hP, hD⟩ := va_recb (g := euN g (t + 1)) hP hD 3 rfl (fun i _ => rfl)
              have hP : va_P (dC, dI) vwCl [(qp, .inl (kqp, 255, .inl (nF pwN))), (o, .inr (0, [.ref qs, .ref qu, .ref qw, .ref qb, .ref qe])), (qs, .inl (ks, 256, .inl (nF (esN f (t + 1))))), (qu, .inl (ku, 256, .inl (nF (euN g (t + 1)))))] H := hP
              have hD : va_D A [(qp, .inl (kqp, 255, .inl (nF pwN))), (o, .inr (0, [.ref qs, .ref qu, .ref qw, .ref qb, .ref qe])), (qs, .inl (ks, 256, .inl (nF (esN f (t + 1))))), (qu, .inl (ku, 256, .inl (nF (euN g (t + 1)))))] := hD
              exact ih (t + 1) ls H locs (by omega)  (lv_sub hl [0, 1, 2] rfl) hP hD hS
        exact loop_42 255 0 ls H locs (by omega)  (lv_sub hl [0, 2, 3] rfl) hP hD hS
      · skip
        have hc_14 := (not_congr (ix_le (a := 255) (b := 255) (by omega) (by omega))).mp hc_14
        have hc_14 : ¬ (255 ≤ 255) := hc_14
        exfalso; omega
    | succ n ih =>
      intro k ls H locs hn_10  hl hP hD hS
      refine lv_iload_n hx hb dX0_fillSubst_10 rfl (lv_at hl 1 rfl) ?_
      refine lv_sipush (v := nI 255) hx hb dX0_fillSubst_11 (by decide) ?_
      refine lv_icmp_ge (tgt := 34) hx hb dX0_fillSubst_14 (by decide) (fun hc_14 => ?_) (fun hc_14 => ?_)
      · skip
        have hc_14 := (ix_le (a := 255) (b := k) (by omega) (by omega)).mp hc_14
        have hc_14 : (255 ≤ k) := hc_14
        exfalso; omega
      · skip
        have hc_14 := (not_congr (ix_le (a := 255) (b := k) (by omega) (by omega))).mp hc_14
        have hc_14 : ¬ (255 ≤ k) := hc_14
        refine lv_aload_n hx hb dX0_fillSubst_17 rfl (lv_at hl 2 rfl) ?_
        refine lv_iload_n hx hb dX0_fillSubst_18 rfl (lv_at hl 1 rfl) ?_
        refine lv_iload_n hx hb dX0_fillSubst_19 rfl (lv_at hl 0 rfl) ?_
        refine va_iasb hx hb hK hP hD hS 3 2 rfl rfl (by omega) (by decide) dX0_fillSubst_20 (fun H locs hP hD hS => ?_)
        have hP : va_P (dC, dI) vwCl [(o, .inr (0, [.ref qs, .ref qu, .ref qw, .ref qb, .ref qe])), (qs, .inl (ks, 256, .inl (nF f))), (qu, .inl (ku, 256, .inl (nF g))), (qp, .inl (kqp, 255, .inl (nF (un (ppN k) k (pwN k)))))] H := hP
        have hD : va_D A [(o, .inr (0, [.ref qs, .ref qu, .ref qw, .ref qb, .ref qe])), (qs, .inl (ks, 256, .inl (nF f))), (qu, .inl (ku, 256, .inl (nF g))), (qp, .inl (kqp, 255, .inl (nF (un (ppN k) k (pwN k)))))] := hD
        refine lv_iload_n hx hb dX0_fillSubst_21 rfl (lv_at hl 0 rfl) ?_
        refine lv_iload_n hx hb dX0_fillSubst_22 rfl (lv_at hl 0 rfl) ?_
        refine cf_1 (wr := [(o, .inr (0, [.ref qs, .ref qu, .ref qw, .ref qb, .ref qe])), (qs, .inl (ks, 256, .inl (nF f))), (qu, .inl (ku, 256, .inl (nF g))), (qp, .inl (kqp, 255, .inl (nF (un (ppN k) k (pwN k)))))]) (va_runS (As := [.int (nI (pwN k))]) (rest := [.int (nI (pwN k))]) ⟨hx, hb, hml, hown, hta⟩ (MO.to (c_twice l dC dI (pwN k) (pwN_lt _)) H.size) (va_cwS 1 hta (aw_S mw_34 mw_32 mw_33 mw_2) rfl rfl rfl dyX0_twice ⟨(Nat.le_of_ble_eq_true rfl), (Nat.le_of_ble_eq_true rfl)⟩) (pr_S hP hD hK hE [] [] (by decide) rfl rfl) rfl rfl hl.1 rfl (lv_room (Nat.le_of_ble_eq_true rfl)) dX0_fillSubst_23 ⟨(Nat.le_of_ble_eq_true rfl), (Nat.le_of_ble_eq_true rfl)⟩) hP hD hS hA [] [0, 1, 2, 3] rfl rfl (by decide) (by decide) (fun H locs hP hD hS => ?_)
        have hP : va_P (dC, dI) vwCl [(o, .inr (0, [.ref qs, .ref qu, .ref qw, .ref qb, .ref qe])), (qs, .inl (ks, 256, .inl (nF f))), (qu, .inl (ku, 256, .inl (nF g))), (qp, .inl (kqp, 255, .inl (nF (un (ppN k) k (pwN k)))))] H := hP
        have hD : va_D A [(o, .inr (0, [.ref qs, .ref qu, .ref qw, .ref qb, .ref qe])), (qs, .inl (ks, 256, .inl (nF f))), (qu, .inl (ku, 256, .inl (nF g))), (qp, .inl (kqp, 255, .inl (nF (un (ppN k) k (pwN k)))))] := hD
        refine W.widen (k := 1) (n := 255) (Nat.le_of_ble_eq_true rfl) (Nat.le_of_ble_eq_true rfl) ?_
        refine w_pc (pc2 := 26) rfl ?_
        refine lv_ixor hx hb dX0_fillSubst_26 ?_
        refine top_i (y := nI (pwN (k + 1))) (n_xor _ _) ?_
        refine lv_istore_n hx hb dX0_fillSubst_27 rfl hl (by decide) rfl (fun ls hl => ?_)
        have hl : lv_has ls 4 [(2, .int (nI (pwN (k + 1)))), (3, .int (nI k)), (1, .ref qp), (0, .ref o)] := hl
        refine lv_iinc (v := nI (k + 1)) (k := 1) hx hb dX0_fillSubst_28 hl rfl (ix_inc _ 1) (by decide) rfl (fun ls hl => ?_)
        have hl : lv_has ls 4 [(3, .int (nI (k + 1))), (2, .int (nI (pwN (k + 1)))), (1, .ref qp), (0, .ref o)] := hl
        refine lv_goto (tgt := 10) hx hb dX0_fillSubst_31 (by decide) ?_
        obtain ⟨hP, hD⟩ := va_recb (g := ppN (k + 1)) hP hD 3 rfl (fun i _ => ppN_s k i)
        have hP : va_P (dC, dI) vwCl [(o, .inr (0, [.ref qs, .ref qu, .ref qw, .ref qb, .ref qe])), (qs, .inl (ks, 256, .inl (nF f))), (qu, .inl (ku, 256, .inl (nF g))), (qp, .inl (kqp, 255, .inl (nF (ppN (k + 1)))))] H := hP
        have hD : va_D A [(o, .inr (0, [.ref qs, .ref qu, .ref qw, .ref qb, .ref qe])), (qs, .inl (ks, 256, .inl (nF f))), (qu, .inl (ku, 256, .inl (nF g))), (qp, .inl (kqp, 255, .inl (nF (ppN (k + 1)))))] := hD
        exact ih (k + 1) ls H locs (by omega)  (lv_sub hl [1, 0, 2, 3] rfl) hP hD hS
  exact loop_10 255 0 ls H locs (by omega)  (lv_sub hl [1, 0, 2, 3] rfl) hP hD hS

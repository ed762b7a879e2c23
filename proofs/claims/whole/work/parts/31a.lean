def rm_m_times : Room := { frames := 0, cells := 0, slots := 0, locals := 0 }
set_option maxHeartbeats 4000000 in
set_option maxRecDepth 100000 in
/-- times(x, y) -/
theorem m_times (l : Launch) (dC : Nat → ClassId) (dI : Nat → Nat → Nat) (x : Nat) (y : Nat) (hx9 : x < 256) (hy9 : y < 256) : MO l dC dI yX3_times wsX3_times rm_m_times [.int (nI x), .int (nI y)] [] [] [] (some (.int (nI (tmN x y)))) := by
  refine mo_ofW (cc := cX3_times) (maxL := 4) (ret := (some .int)) (by decide) rfl (Nat.le_of_ble_eq_true rfl) ?_
  intro p e s m args below meth c Q A H locs ls hx hb hr hlk hml hta hown hin hE hQ hAe hA hK hP hD hS hl
  have hown : s.vm.findClass RX3 = some m.cls := hown
  have hl : lv_has ls 4 [(0, .int (nI x)), (1, .int (nI y))] := hl
  refine lv_iconst (v := nI 0) hx hb dX3_times_0 (by decide) ?_
  refine lv_istore_n hx hb dX3_times_1 rfl hl (by decide) rfl (fun ls hl => ?_)
  have hl : lv_has ls 4 [(2, .int (nI 0)), (0, .int (nI x)), (1, .int (nI y))] := hl
  refine lv_iconst (v := nI 0) hx hb dX3_times_2 (by decide) ?_
  refine lv_istore_n hx hb dX3_times_3 rfl hl (by decide) rfl (fun ls hl => ?_)
  have hl : lv_has ls 4 [(3, .int (nI 0)), (2, .int (nI 0)), (0, .int (nI x)), (1, .int (nI y))] := hl
  have loop_4 : ∀ (n k : Nat) (ls : Array Slot) (H : Heap) (locs : List Loc), k + n = 8 → lv_has ls 4 [(2, .int (nI (mpN x y k))), (3, .int (nI k)), (0, .int (nI x)), (1, .int (nI y))] → va_P (dC, dI) vwCl [] H → va_D A [] → va_S A s.heap H locs → W p l e rm_m_times s m args below meth c H locs 0 0 Q (F0 m 4 ls []) := by
    intro n
    induction n with
    | zero =>
      intro k ls H locs hn_4  hl hP hD hS
      obtain rfl : 8 = k := by omega
      refine lv_iload_n hx hb dX3_times_4 rfl (lv_at hl 1 rfl) ?_
      refine lv_bipush (v := nI 8) hx hb dX3_times_5 (by decide) ?_
      refine lv_icmp_ge (tgt := 35) hx hb dX3_times_7 (by decide) (fun hc_7 => ?_) (fun hc_7 => ?_)
      · skip
        have hc_7 := (ix_le (a := 8) (b := 8) (by omega) (by omega)).mp hc_7
        have hc_7 : (8 ≤ 8) := hc_7
        refine lv_bipush (v := nI 14) hx hb dX3_times_35 (by decide) ?_
        refine lv_istore_n hx hb dX3_times_37 rfl hl (by decide) rfl (fun ls hl => ?_)
        have hl : lv_has ls 4 [(3, .int (nI 14)), (2, .int (nI (mpN x y 8))), (0, .int (nI x)), (1, .int (nI y))] := hl
        have loop_38 : ∀ (n t : Nat) (ls : Array Slot) (H : Heap) (locs : List Loc), t + n = 7 → lv_has ls 4 [(2, .int (nI (rdN (mpN x y 8) t))), (3, .int (nI (14 - t)))] → va_P (dC, dI) vwCl [] H → va_D A [] → va_S A s.heap H locs → W p l e rm_m_times s m args below meth c H locs 0 0 Q (F0 m 38 ls []) := by
          intro n
          induction n with
          | zero =>
            intro t ls H locs hn_38  hl hP hD hS
            obtain rfl : 7 = t := by omega
            refine lv_iload_n hx hb dX3_times_38 rfl (lv_at hl 1 rfl) ?_
            refine lv_bipush (v := nI 7) hx hb dX3_times_39 (by decide) ?_
            refine lv_icmp_le (tgt := 74) hx hb dX3_times_41 (by decide) (fun hc_41 => ?_) (fun hc_41 => ?_)
            · skip
              have hc_41 := (ix_le (a := 14 - 7) (b := 7) (by omega) (by omega)).mp hc_41
              have hc_41 : ((14 - 7) ≤ 7) := hc_41
              refine lv_iload_n hx hb dX3_times_74 rfl (lv_at hl 0 rfl) ?_
              exact rt_i hx hb hr hlk hQ hAe hP hD hS [] (by decide) rfl (Nat.le_of_ble_eq_true rfl) (Nat.le_of_ble_eq_true rfl) (rfl) dX3_times_75
            · skip
              have hc_41 := (not_congr (ix_le (a := 14 - 7) (b := 7) (by omega) (by omega))).mp hc_41
              have hc_41 : ¬ ((14 - 7) ≤ 7) := hc_41
              exfalso; omega
          | succ n ih =>
            intro t ls H locs hn_38  hl hP hD hS
            refine lv_iload_n hx hb dX3_times_38 rfl (lv_at hl 1 rfl) ?_
            refine lv_bipush (v := nI 7) hx hb dX3_times_39 (by decide) ?_
            refine lv_icmp_le (tgt := 74) hx hb dX3_times_41 (by decide) (fun hc_41 => ?_) (fun hc_41 => ?_)
            · skip
              have hc_41 := (ix_le (a := 14 - t) (b := 7) (by omega) (by omega)).mp hc_41
              have hc_41 : ((14 - t) ≤ 7) := hc_41
              exfalso; omega
            · skip
              have hc_41 := (not_congr (ix_le (a := 14 - t) (b := 7) (by omega) (by omega))).mp hc_41
              have hc_41 : ¬ ((14 - t) ≤ 7) := hc_41
              refine lv_iload_n hx hb dX3_times_44 rfl (lv_at hl 0 rfl) ?_
              refine lv_iload_n hx hb dX3_times_45 rfl (lv_at hl 1 rfl) ?_
              refine lv_ishr hx hb dX3_times_46 (top_i (n_shr (Nat.lt_trans (rdN_lt (mpN_lt hx9 8 (by decide)) t) (by decide)) (by omega)) ?_)
              refine lv_iconst (v := nI 1) hx hb dX3_times_47 (by decide) ?_
              refine lv_iand hx hb dX3_times_48 (top_i (n_m1 _) ?_)
              refine lv_iconst (v := nI 1) hx hb dX3_times_49 (by decide) ?_
              refine lv_icmp_ne (tgt := 66) hx hb dX3_times_50 (by decide) (fun hc_50 => ?_) (fun hc_50 => ?_)
              · skip
                have hc_50 := (not_congr (ix_eq (a := ((rdN (mpN x y 8) t) / 2 ^ (14 - t)) % 2) (b := 1) (by omega) (by omega))).mp hc_50
                have hc_50 : ¬ ((((rdN (mpN x y 8) t) / 2 ^ (14 - t)) % 2) = 1) := hc_50
                refine lv_iload_n hx hb dX3_times_66 rfl (lv_at hl 0 rfl) ?_
                refine lv_istore_n hx hb dX3_times_67 rfl hl (by decide) rfl (fun ls hl => ?_)
                have hl : lv_has ls 4 [(2, .int (nI (rdN (mpN x y 8) t))), (3, .int (nI (14 - t)))] := hl
                refine lv_iinc (v := nI (14 - (t + 1))) (k := 1) hx hb dX3_times_68 hl rfl ((ix_dec (by omega)).trans (congrArg nI (by omega))) (by decide) rfl (fun ls hl => ?_)
                have hl : lv_has ls 4 [(3, .int (nI (14 - (t + 1)))), (2, .int (nI (rdN (mpN x y 8) t)))] := hl
                refine lv_goto (tgt := 38) hx hb dX3_times_71 (by decide) ?_
                have hl := lv_re hl 1 rfl (v2 := .int (nI (rdN (mpN x y 8) (t + 1)))) (congrArg Value.int (congrArg nI (rdN_f (by assumption)))) rfl
                have hl : lv_has ls 4 [(3, .int (nI (14 - (t + 1)))), (2, .int (nI (rdN (mpN x y 8) (t + 1))))] := hl
                exact ih (t + 1) ls H locs (by omega)  (lv_sub hl [1, 0] rfl) hP hD hS
              · skip
                have hc_50 := (ix_eq (a := ((rdN (mpN x y 8) t) / 2 ^ (14 - t)) % 2) (b := 1) (by omega) (by omega)).mp hc_50
                have hc_50 : ((((rdN (mpN x y 8) t) / 2 ^ (14 - t)) % 2) = 1) := hc_50
                refine lv_iload_n hx hb dX3_times_53 rfl (lv_at hl 0 rfl) ?_
                refine lv_sipush (v := nI 283) hx hb dX3_times_54 (by decide) ?_
                refine lv_iload_n hx hb dX3_times_57 rfl (lv_at hl 1 rfl) ?_
                refine lv_bipush (v := nI 8) hx hb dX3_times_58 (by decide) ?_
                refine lv_isub hx hb dX3_times_60 (top_i (pk_sub (by omega)) ?_)
                refine lv_ishl hx hb dX3_times_61 (top_i (n_shl _ (by omega)) ?_)
                refine lv_ixor hx hb dX3_times_62 (top_i (n_xor _ _) ?_)
                refine lv_goto (tgt := 67) hx hb dX3_times_63 (by decide) ?_
                refine lv_istore_n hx hb dX3_times_67 rfl hl (by decide) rfl (fun ls hl => ?_)
                have hl : lv_has ls 4 [(2, .int (nI ((rdN (mpN x y 8) t) ^^^ (283 * 2 ^ ((14 - t) - 8))))), (3, .int (nI (14 - t)))] := hl
                refine lv_iinc (v := nI (14 - (t + 1))) (k := 1) hx hb dX3_times_68 hl rfl ((ix_dec (by omega)).trans (congrArg nI (by omega))) (by decide) rfl (fun ls hl => ?_)
                have hl : lv_has ls 4 [(3, .int (nI (14 - (t + 1)))), (2, .int (nI ((rdN (mpN x y 8) t) ^^^ (283 * 2 ^ ((14 - t) - 8)))))] := hl
                refine lv_goto (tgt := 38) hx hb dX3_times_71 (by decide) ?_
                have hl := lv_re hl 1 rfl (v2 := .int (nI (rdN (mpN x y 8) (t + 1)))) (congrArg Value.int (congrArg nI (rdN_t (by assumption)))) rfl
                have hl : lv_has ls 4 [(3, .int (nI (14 - (t + 1)))), (2, .int (nI (rdN (mpN x y 8) (t + 1))))] := hl
                exact ih (t + 1) ls H locs (by omega)  (lv_sub hl [1, 0] rfl) hP hD hS
        exact loop_38 7 0 ls H locs (by omega)  (lv_sub hl [1, 0] rfl) hP hD hS
      · skip
        have hc_7 := (not_congr (ix_le (a := 8) (b := 8) (by omega) (by omega))).mp hc_7
        have hc_7 : ¬ (8 ≤ 8) := hc_7
        exfalso; omega
    | succ n ih =>
      intro k ls H locs hn_4  hl hP hD hS
      refine lv_iload_n hx hb dX3_times_4 rfl (lv_at hl 1 rfl) ?_
      refine lv_bipush (v := nI 8) hx hb dX3_times_5 (by decide) ?_
      refine lv_icmp_ge (tgt := 35) hx hb dX3_times_7 (by decide) (fun hc_7 => ?_) (fun hc_7 => ?_)
      · skip
        have hc_7 := (ix_le (a := 8) (b := k) (by omega) (by omega)).mp hc_7
        have hc_7 : (8 ≤ k) := hc_7
        exfalso; omega
      · skip
        have hc_7 := (not_congr (ix_le (a := 8) (b := k) (by omega) (by omega))).mp hc_7
        have hc_7 : ¬ (8 ≤ k) := hc_7
        refine lv_iload_n hx hb dX3_times_10 rfl (lv_at hl 3 rfl) ?_
        refine lv_iload_n hx hb dX3_times_11 rfl (lv_at hl 1 rfl) ?_
        refine lv_ishr hx hb dX3_times_12 (top_i (n_shr (Nat.lt_trans hy9 (by decide)) (by omega)) ?_)
        refine lv_iconst (v := nI 1) hx hb dX3_times_13 (by decide) ?_
        refine lv_iand hx hb dX3_times_14 (top_i (n_m1 _) ?_)
        refine lv_iconst (v := nI 1) hx hb dX3_times_15 (by decide) ?_
        refine lv_icmp_ne (tgt := 27) hx hb dX3_times_16 (by decide) (fun hc_16 => ?_) (fun hc_16 => ?_)
        · skip
          have hc_16 := (not_congr (ix_eq (a := (y / 2 ^ k) % 2) (b := 1) (by omega) (by omega))).mp hc_16
          have hc_16 : ¬ (((y / 2 ^ k) % 2) = 1) := hc_16
          refine lv_iload_n hx hb dX3_times_27 rfl (lv_at hl 0 rfl) ?_
          refine lv_istore_n hx hb dX3_times_28 rfl hl (by decide) rfl (fun ls hl => ?_)
          have hl : lv_has ls 4 [(2, .int (nI (mpN x y k))), (3, .int (nI k)), (0, .int (nI x)), (1, .int (nI y))] := hl
          refine lv_iinc (v := nI (k + 1)) (k := 1) hx hb dX3_times_29 hl rfl (ix_inc _ 1) (by decide) rfl (fun ls hl => ?_)
          have hl : lv_has ls 4 [(3, .int (nI (k + 1))), (2, .int (nI (mpN x y k))), (0, .int (nI x)), (1, .int (nI y))] := hl
          refine lv_goto (tgt := 4) hx hb dX3_times_32 (by decide) ?_
          have hl := lv_re hl 1 rfl (v2 := .int (nI (mpN x y (k + 1)))) (congrArg Value.int (congrArg nI (mpN_f (by assumption)))) rfl
          have hl : lv_has ls 4 [(3, .int (nI (k + 1))), (2, .int (nI (mpN x y (k + 1)))), (0, .int (nI x)), (1, .int (nI y))] := hl
          exact ih (k + 1) ls H locs (by omega)  (lv_sub hl [1, 0, 2, 3] rfl) hP hD hS
        · skip
          have hc_16 := (ix_eq (a := (y / 2 ^ k) % 2) (b := 1) (by omega) (by omega)).mp hc_16
          have hc_16 : (((y / 2 ^ k) % 2) = 1) := hc_16
          refine lv_iload_n hx hb dX3_times_19 rfl (lv_at hl 0 rfl) ?_
          refine lv_iload_n hx hb dX3_times_20 rfl (lv_at hl 2 rfl) ?_
          refine lv_iload_n hx hb dX3_times_21 rfl (lv_at hl 1 rfl) ?_
          refine lv_ishl hx hb dX3_times_22 (top_i (n_shl _ (by omega)) ?_)
          refine lv_ixor hx hb dX3_times_23 (top_i (n_xor _ _) ?_)
          refine lv_goto (tgt := 28) hx hb dX3_times_24 (by decide) ?_
          refine lv_istore_n hx hb dX3_times_28 rfl hl (by decide) rfl (fun ls hl => ?_)
          have hl : lv_has ls 4 [(2, .int (nI ((mpN x y k) ^^^ (x * 2 ^ k)))), (3, .int (nI k)), (0, .int (nI x)), (1, .int (nI y))] := hl
          refine lv_iinc (v := nI (k + 1)) (k := 1) hx hb dX3_times_29 hl rfl (ix_inc _ 1) (by decide) rfl (fun ls hl => ?_)
          have hl : lv_has ls 4 [(3, .int (nI (k + 1))), (2, .int (nI ((mpN x y k) ^^^ (x * 2 ^ k)))), (0, .int (nI x)), (1, .int (nI y))] := hl
          refine lv_goto (tgt := 4) hx hb dX3_times_32 (by decide) ?_
          have hl := lv_re hl 1 rfl (v2 := .int (nI (mpN x y (k + 1)))) (congrArg Value.int (congrArg nI (mpN_t (by assumption)))) rfl
          have hl : lv_has ls 4 [(3, .int (nI (k + 1))), (2, .int (nI (mpN x y (k + 1)))), (0, .int (nI x)), (1, .int (nI y))] := hl
          exact ih (k + 1) ls H locs (by omega)  (lv_sub hl [1, 0, 2, 3] rfl) hP hD hS
  exact loop_4 8 0 ls H locs (by omega)  (lv_sub hl [1, 0, 2, 3] rfl) hP hD hS

def rm_m_affine : Room := { frames := 0, cells := 0, slots := 0, locals := 0 }
set_option maxHeartbeats 4000000 in
set_option maxRecDepth 100000 in
/-- affine(x) -/
theorem m_affine (l : Launch) (dC : Nat → ClassId) (dI : Nat → Nat → Nat) (x : Nat) (hx9 : x < 256) : MO l dC dI yX3_affine wsX3_affine rm_m_affine [.int (nI x)] [] [] [] (some (.int (nI (avN x 8)))) := by
  refine mo_ofW (cc := cX3_affine) (maxL := 4) (ret := (some .int)) (by decide) rfl (Nat.le_of_ble_eq_true rfl) ?_
  intro p e s m args below meth c Q A H locs ls hx hb hr hlk hml hta hown hin hE hQ hAe hA hK hP hD hS hl
  have hown : s.vm.findClass RX3 = some m.cls := hown
  have hl : lv_has ls 4 [(0, .int (nI x))] := hl
  refine lv_iconst (v := nI 0) hx hb dX3_affine_0 (by decide) ?_
  refine lv_istore_n hx hb dX3_affine_1 rfl hl (by decide) rfl (fun ls hl => ?_)
  have hl : lv_has ls 4 [(1, .int (nI 0)), (0, .int (nI x))] := hl
  refine lv_iconst (v := nI 0) hx hb dX3_affine_2 (by decide) ?_
  refine lv_istore_n hx hb dX3_affine_3 rfl hl (by decide) rfl (fun ls hl => ?_)
  have hl : lv_has ls 4 [(2, .int (nI 0)), (1, .int (nI 0)), (0, .int (nI x))] := hl
  have loop_4 : ∀ (n k : Nat) (ls : Array Slot) (H : Heap) (locs : List Loc), k + n = 8 → lv_has ls 4 [(1, .int (nI (avN x k))), (2, .int (nI k)), (0, .int (nI x))] → va_P (dC, dI) vwCl [] H → va_D A [] → va_S A s.heap H locs → W p l e rm_m_affine s m args below meth c H locs 0 0 Q (F0 m 4 ls []) := by
    intro n
    induction n with
    | zero =>
      intro k ls H locs hn_4  hl hP hD hS
      obtain rfl : 8 = k := by omega
      refine lv_iload_n hx hb dX3_affine_4 rfl (lv_at hl 1 rfl) ?_
      refine lv_bipush (v := nI 8) hx hb dX3_affine_5 (by decide) ?_
      refine lv_icmp_ge (tgt := 71) hx hb dX3_affine_7 (by decide) (fun hc_7 => ?_) (fun hc_7 => ?_)
      · skip
        have hc_7 := (ix_le (a := 8) (b := 8) (by omega) (by omega)).mp hc_7
        have hc_7 : (8 ≤ 8) := hc_7
        refine lv_iload_n hx hb dX3_affine_71 rfl (lv_at hl 0 rfl) ?_
        exact rt_i hx hb hr hlk hQ hAe hP hD hS [] (by decide) rfl (Nat.le_of_ble_eq_true rfl) (Nat.le_of_ble_eq_true rfl) (rfl) dX3_affine_72
      · skip
        have hc_7 := (not_congr (ix_le (a := 8) (b := 8) (by omega) (by omega))).mp hc_7
        have hc_7 : ¬ (8 ≤ 8) := hc_7
        exfalso; omega
    | succ n ih =>
      intro k ls H locs hn_4  hl hP hD hS
      refine lv_iload_n hx hb dX3_affine_4 rfl (lv_at hl 1 rfl) ?_
      refine lv_bipush (v := nI 8) hx hb dX3_affine_5 (by decide) ?_
      refine lv_icmp_ge (tgt := 71) hx hb dX3_affine_7 (by decide) (fun hc_7 => ?_) (fun hc_7 => ?_)
      · skip
        have hc_7 := (ix_le (a := 8) (b := k) (by omega) (by omega)).mp hc_7
        have hc_7 : (8 ≤ k) := hc_7
        exfalso; omega
      · skip
        have hc_7 := (not_congr (ix_le (a := 8) (b := k) (by omega) (by omega))).mp hc_7
        have hc_7 : ¬ (8 ≤ k) := hc_7
        refine lv_bipush (v := nI 99) hx hb dX3_affine_10 (by decide) ?_
        refine lv_iload_n hx hb dX3_affine_12 rfl (lv_at hl 1 rfl) ?_
        refine lv_ishr hx hb dX3_affine_13 (top_i (n_shr (by decide) (by omega)) ?_)
        refine lv_iload_n hx hb dX3_affine_14 rfl (lv_at hl 2 rfl) ?_
        refine lv_iload_n hx hb dX3_affine_15 rfl (lv_at hl 1 rfl) ?_
        refine lv_ishr hx hb dX3_affine_16 (top_i (n_shr (Nat.lt_trans hx9 (by decide)) (by omega)) ?_)
        refine lv_ixor hx hb dX3_affine_17 (top_i (n_xor _ _) ?_)
        refine lv_iload_n hx hb dX3_affine_18 rfl (lv_at hl 2 rfl) ?_
        refine lv_iload_n hx hb dX3_affine_19 rfl (lv_at hl 1 rfl) ?_
        refine lv_iconst (v := nI 4) hx hb dX3_affine_20 (by decide) ?_
        refine lv_iadd hx hb dX3_affine_21 (top_i (nI_add _ _) ?_)
        refine w_pc (pc2 := 22) rfl ?_
        refine lv_bipush (v := nI 8) hx hb dX3_affine_22 (by decide) ?_
        refine lv_irem hx hb dX3_affine_24 (by decide) (top_i (pk_rem (by omega) (by decide) (by decide)) ?_)
        refine lv_ishr hx hb dX3_affine_25 (top_i (n_shr (Nat.lt_trans hx9 (by decide)) (by omega)) ?_)
        refine lv_ixor hx hb dX3_affine_26 (top_i (n_xor _ _) ?_)
        refine lv_iload_n hx hb dX3_affine_27 rfl (lv_at hl 2 rfl) ?_
        refine lv_iload_n hx hb dX3_affine_28 rfl (lv_at hl 1 rfl) ?_
        refine lv_iconst (v := nI 5) hx hb dX3_affine_29 (by decide) ?_
        refine lv_iadd hx hb dX3_affine_30 (top_i (nI_add _ _) ?_)
        refine lv_bipush (v := nI 8) hx hb dX3_affine_31 (by decide) ?_
        refine lv_irem hx hb dX3_affine_33 (by decide) (top_i (pk_rem (by omega) (by decide) (by decide)) ?_)
        refine lv_ishr hx hb dX3_affine_34 (top_i (n_shr (Nat.lt_trans hx9 (by decide)) (by omega)) ?_)
        refine lv_ixor hx hb dX3_affine_35 (top_i (n_xor _ _) ?_)
        refine w_pc (pc2 := 36) rfl ?_
        refine lv_iload_n hx hb dX3_affine_36 rfl (lv_at hl 2 rfl) ?_
        refine lv_iload_n hx hb dX3_affine_37 rfl (lv_at hl 1 rfl) ?_
        refine lv_bipush (v := nI 6) hx hb dX3_affine_38 (by decide) ?_
        refine lv_iadd hx hb dX3_affine_40 (top_i (nI_add _ _) ?_)
        refine lv_bipush (v := nI 8) hx hb dX3_affine_41 (by decide) ?_
        refine lv_irem hx hb dX3_affine_43 (by decide) (top_i (pk_rem (by omega) (by decide) (by decide)) ?_)
        refine lv_ishr hx hb dX3_affine_44 (top_i (n_shr (Nat.lt_trans hx9 (by decide)) (by omega)) ?_)
        refine lv_ixor hx hb dX3_affine_45 (top_i (n_xor _ _) ?_)
        refine lv_iload_n hx hb dX3_affine_46 rfl (lv_at hl 2 rfl) ?_
        refine lv_iload_n hx hb dX3_affine_47 rfl (lv_at hl 1 rfl) ?_
        refine lv_bipush (v := nI 7) hx hb dX3_affine_48 (by decide) ?_
        refine lv_iadd hx hb dX3_affine_50 (top_i (nI_add _ _) ?_)
        refine w_pc (pc2 := 51) rfl ?_
        refine lv_bipush (v := nI 8) hx hb dX3_affine_51 (by decide) ?_
        refine lv_irem hx hb dX3_affine_53 (by decide) (top_i (pk_rem (by omega) (by decide) (by decide)) ?_)
        refine lv_ishr hx hb dX3_affine_54 (top_i (n_shr (Nat.lt_trans hx9 (by decide)) (by omega)) ?_)
        refine lv_ixor hx hb dX3_affine_55 (top_i (n_xor _ _) ?_)
        refine lv_istore_n hx hb dX3_affine_56 rfl hl (by decide) rfl (fun ls hl => ?_)
        have hl : lv_has ls 4 [(3, .int (nI ((((((99 / 2 ^ k) ^^^ (x / 2 ^ k)) ^^^ (x / 2 ^ ((k + 4) % 8))) ^^^ (x / 2 ^ ((k + 5) % 8))) ^^^ (x / 2 ^ ((k + 6) % 8))) ^^^ (x / 2 ^ ((k + 7) % 8))))), (1, .int (nI (avN x k))), (2, .int (nI k)), (0, .int (nI x))] := hl
        refine lv_iload_n hx hb dX3_affine_57 rfl (lv_at hl 1 rfl) ?_
        refine lv_iload_n hx hb dX3_affine_58 rfl (lv_at hl 0 rfl) ?_
        refine lv_iconst (v := nI 1) hx hb dX3_affine_59 (by decide) ?_
        refine lv_iand hx hb dX3_affine_60 (top_i (n_m1 _) ?_)
        refine lv_iload_n hx hb dX3_affine_61 rfl (lv_at hl 2 rfl) ?_
        refine lv_ishl hx hb dX3_affine_62 (top_i (n_shl _ (by omega)) ?_)
        refine lv_ior hx hb dX3_affine_63 ?_
        refine top_i (y := nI (avN x (k + 1))) (n_or _ _) ?_
        refine w_pc (pc2 := 64) rfl ?_
        refine lv_istore_n hx hb dX3_affine_64 rfl hl (by decide) rfl (fun ls hl => ?_)
        have hl : lv_has ls 4 [(1, .int (nI (avN x (k + 1)))), (3, .int (nI ((((((99 / 2 ^ k) ^^^ (x / 2 ^ k)) ^^^ (x / 2 ^ ((k + 4) % 8))) ^^^ (x / 2 ^ ((k + 5) % 8))) ^^^ (x / 2 ^ ((k + 6) % 8))) ^^^ (x / 2 ^ ((k + 7) % 8))))), (2, .int (nI k)), (0, .int (nI x))] := hl
        refine lv_iinc (v := nI (k + 1)) (k := 2) hx hb dX3_affine_65 hl rfl (ix_inc _ 1) (by decide) rfl (fun ls hl => ?_)
        have hl : lv_has ls 4 [(2, .int (nI (k + 1))), (1, .int (nI (avN x (k + 1)))), (3, .int (nI ((((((99 / 2 ^ k) ^^^ (x / 2 ^ k)) ^^^ (x / 2 ^ ((k + 4) % 8))) ^^^ (x / 2 ^ ((k + 5) % 8))) ^^^ (x / 2 ^ ((k + 6) % 8))) ^^^ (x / 2 ^ ((k + 7) % 8))))), (0, .int (nI x))] := hl
        refine lv_goto (tgt := 4) hx hb dX3_affine_68 (by decide) ?_
        exact ih (k + 1) ls H locs (by omega)  (lv_sub hl [1, 0, 3] rfl) hP hD hS
  exact loop_4 8 0 ls H locs (by omega)  (lv_sub hl [1, 0, 2] rfl) hP hD hS

def rm_m_byteOf : Room := { frames := 0, cells := 0, slots := 0, locals := 0 }
set_option maxHeartbeats 4000000 in
set_option maxRecDepth 100000 in
/-- byteOf(x, r) -/
theorem m_byteOf (l : Launch) (dC : Nat → ClassId) (dI : Nat → Nat → Nat) (x : Int32) (r : Nat) (hr9 : r < 4) : MO l dC dI yX3_byteOf wsX3_byteOf rm_m_byteOf [.int x, .int (nI r)] [] [] [] (some (.int (nI (wbt x r)))) := by
  refine mo_ofW (cc := cX3_byteOf) (maxL := 2) (ret := (some .int)) (by decide) rfl (Nat.le_of_ble_eq_true rfl) ?_
  intro p e s m args below meth c Q A H locs ls hx hb hr hlk hml hta hown hin hE hQ hAe hA hK hP hD hS hl
  have hown : s.vm.findClass RX3 = some m.cls := hown
  have hl : lv_has ls 2 [(0, .int x), (1, .int (nI r))] := hl
  refine lv_iload_n hx hb dX3_byteOf_0 rfl (lv_at hl 0 rfl) ?_
  refine lv_bipush (v := nI 24) hx hb dX3_byteOf_1 (by decide) ?_
  refine lv_bipush (v := nI 8) hx hb dX3_byteOf_3 (by decide) ?_
  refine lv_iload_n hx hb dX3_byteOf_5 rfl (lv_at hl 1 rfl) ?_
  refine lv_imul hx hb dX3_byteOf_6 (top_i (pk_mul _ _) ?_)
  refine lv_isub hx hb dX3_byteOf_7 (top_i (pk_sub (by omega)) ?_)
  refine lv_ishr hx hb dX3_byteOf_8 ?_
  refine lv_sipush (v := nI 255) hx hb dX3_byteOf_9 (by decide) ?_
  refine lv_iand hx hb dX3_byteOf_12 ?_
  refine top_i (y := nI (wbt x r)) (w_sb _ (by omega)) ?_
  exact rt_i hx hb hr hlk hQ hAe hP hD hS [] (by decide) rfl (Nat.le_of_ble_eq_true rfl) (Nat.le_of_ble_eq_true rfl) (rfl) dX3_byteOf_13

def rm_m_changed : Room := { frames := 1, cells := 0, slots := 0, locals := 21 }
set_option maxHeartbeats 4000000 in
set_option maxRecDepth 100000 in
/-- changed(x) -/
theorem m_changed (l : Launch) (dC : Nat → ClassId) (dI : Nat → Nat → Nat) (o : Nat) (th : Int32) (ph : Nat) (og : Bool) (qx : Nat) (qk : Nat) (qw : Nat) (qb : Nat) (qn : Nat) (mh : Int64) (ml : Int64) (nc : Int64) (rs : Int32) (na : Nat) (qd : Nat) (nz : Nat) (qg : Nat) (t1 : Int64) (t2 : Int64) (kx : ClassId) (sb : Nat → Nat) (x : Int32) : MO l dC dI yX3_changed wsX3_changed rm_m_changed [.ref o, .int x] [(o, .inr (3, [.int th, .int (nI ph), .int (zI og), .ref qx, .ref qk, .ref qw, .ref qb, .ref qn, .long mh, .long ml, .long nc, .int rs, .int (nI na), .ref qd, .int (nI nz), .ref qg, .long t1, .long t2])), (qx, .inl (kx, 256, .inl (nF sb)))] [(kx, .int)] [(o, .inr (3, [.int th, .int (nI ph), .int (zI og), .ref qx, .ref qk, .ref qw, .ref qb, .ref qn, .long mh, .long ml, .long nc, .int rs, .int (nI na), .ref qd, .int (nI nz), .ref qg, .long t1, .long t2])), (qx, .inl (kx, 256, .inl (nF sb)))] (some (.int (nI (swN sb (rl8 x))))) := by
  refine mo_ofW (cc := cX3_changed) (maxL := 4) (ret := (some .int)) (by decide) rfl (Nat.le_of_ble_eq_true rfl) ?_
  intro p e s m args below meth c Q A H locs ls hx hb hr hlk hml hta hown hin hE hQ hAe hA hK hP hD hS hl
  have hown : s.vm.findClass RX3 = some m.cls := hown
  have hl : lv_has ls 4 [(0, .ref o), (1, .int x)] := hl
  refine lv_iconst (v := nI 0) hx hb dX3_changed_0 (by decide) ?_
  refine lv_istore_n hx hb dX3_changed_1 rfl hl (by decide) rfl (fun ls hl => ?_)
  have hl : lv_has ls 4 [(2, .int (nI 0)), (0, .ref o), (1, .int x)] := hl
  refine lv_iconst (v := nI 0) hx hb dX3_changed_2 (by decide) ?_
  refine lv_istore_n hx hb dX3_changed_3 rfl hl (by decide) rfl (fun ls hl => ?_)
  have hl : lv_has ls 4 [(3, .int (nI 0)), (2, .int (nI 0)), (0, .ref o), (1, .int x)] := hl
  have loop_4 : ∀ (n k : Nat) (ls : Array Slot) (H : Heap) (locs : List Loc), k + n = 4 → lv_has ls 4 [(2, .int (nI (chN sb x k))), (3, .int (nI k)), (0, .ref o), (1, .int x)] → va_P (dC, dI) vwCl [(o, .inr (3, [.int th, .int (nI ph), .int (zI og), .ref qx, .ref qk, .ref qw, .ref qb, .ref qn, .long mh, .long ml, .long nc, .int rs, .int (nI na), .ref qd, .int (nI nz), .ref qg, .long t1, .long t2])), (qx, .inl (kx, 256, .inl (nF sb)))] H → va_D A [(o, .inr (3, [.int th, .int (nI ph), .int (zI og), .ref qx, .ref qk, .ref qw, .ref qb, .ref qn, .long mh, .long ml, .long nc, .int rs, .int (nI na), .ref qd, .int (nI nz), .ref qg, .long t1, .long t2])), (qx, .inl (kx, 256, .inl (nF sb)))] → va_S A s.heap H locs → W p l e rm_m_changed s m args below meth c H locs 0 0 Q (F0 m 4 ls []) := by
    intro n
    induction n with
    | zero =>
      intro k ls H locs hn_4  hl hP hD hS
      obtain rfl : 4 = k := by omega
      refine lv_iload_n hx hb dX3_changed_4 rfl (lv_at hl 1 rfl) ?_
      refine lv_iconst (v := nI 4) hx hb dX3_changed_5 (by decide) ?_
      refine lv_icmp_ge (tgt := 35) hx hb dX3_changed_6 (by decide) (fun hc_6 => ?_) (fun hc_6 => ?_)
      · skip
        have hc_6 := (ix_le (a := 4) (b := 4) (by omega) (by omega)).mp hc_6
        have hc_6 : (4 ≤ 4) := hc_6
        refine lv_iload_n hx hb dX3_changed_35 rfl (lv_at hl 0 rfl) ?_
        exact rt_i hx hb hr hlk hQ hAe hP hD hS [0, 1] (by decide) rfl (Nat.le_of_ble_eq_true rfl) (Nat.le_of_ble_eq_true rfl) (congrArg nI (chN_sw sb x)) dX3_changed_36
      · skip
        have hc_6 := (not_congr (ix_le (a := 4) (b := 4) (by omega) (by omega))).mp hc_6
        have hc_6 : ¬ (4 ≤ 4) := hc_6
        exfalso; omega
    | succ n ih =>
      intro k ls H locs hn_4  hl hP hD hS
      refine lv_iload_n hx hb dX3_changed_4 rfl (lv_at hl 1 rfl) ?_
      refine lv_iconst (v := nI 4) hx hb dX3_changed_5 (by decide) ?_
      refine lv_icmp_ge (tgt := 35) hx hb dX3_changed_6 (by decide) (fun hc_6 => ?_) (fun hc_6 => ?_)
      · skip
        have hc_6 := (ix_le (a := 4) (b := k) (by omega) (by omega)).mp hc_6
        have hc_6 : (4 ≤ k) := hc_6
        exfalso; omega
      · skip
        have hc_6 := (not_congr (ix_le (a := 4) (b := k) (by omega) (by omega))).mp hc_6
        have hc_6 : ¬ (4 ≤ k) := hc_6
        refine lv_iload_n hx hb dX3_changed_9 rfl (lv_at hl 0 rfl) ?_
        refine lv_bipush (v := nI 8) hx hb dX3_changed_10 (by decide) ?_
        refine lv_ishl hx hb dX3_changed_12 (top_i (n_shl _ (by decide)) ?_)
        refine lv_aload_n hx hb dX3_changed_13 rfl (lv_at hl 2 rfl) ?_
        refine va_get (D := (dC, dI)) (ci := 3) (v := .ref qx) (C := RX3) (T := TX3) (N := 18) hx hb hta inX3 hown hK hP 0 rfl rfl 3 (by decide) (hta _ mw_460) (fun _ h9 => h9) rfl dX3_changed_14 ?_
        refine lv_iload_n hx hb dX3_changed_17 rfl (lv_at hl 3 rfl) ?_
        refine lv_iload_n hx hb dX3_changed_18 rfl (lv_at hl 1 rfl) ?_
        refine lv_iconst (v := nI 1) hx hb dX3_changed_19 (by decide) ?_
        refine lv_iadd hx hb dX3_changed_20 (top_i (nI_add _ _) ?_)
        refine lv_iconst (v := nI 4) hx hb dX3_changed_21 (by decide) ?_
        refine lv_irem hx hb dX3_changed_22 (by decide) (top_i (pk_rem (by omega) (by decide) (by decide)) ?_)
        refine w_pc (pc2 := 23) rfl ?_
        refine cf_1 (wr := [(o, .inr (3, [.int th, .int (nI ph), .int (zI og), .ref qx, .ref qk, .ref qw, .ref qb, .ref qn, .long mh, .long ml, .long nc, .int rs, .int (nI na), .ref qd, .int (nI nz), .ref qg, .long t1, .long t2])), (qx, .inl (kx, 256, .inl (nF sb)))]) (va_runS (As := [.int x, .int (nI ((k + 1) % 4))]) (rest := [.ref qx, .int (nI ((chN sb x k) * 2 ^ 8))]) ⟨hx, hb, hml, hown, hta⟩ (MO.to (m_byteOf l dC dI x ((k + 1) % 4) (Nat.mod_lt _ (by decide))) H.size) (va_cwS 2 hta (aw_S mw_456 mw_454 mw_455 mw_5) rfl rfl rfl dyX3_byteOf ⟨(Nat.le_of_ble_eq_true rfl), (Nat.le_of_ble_eq_true rfl)⟩) (pr_S hP hD hK hE [] [] (by decide) rfl rfl) rfl rfl hl.1 rfl (lv_room (Nat.le_of_ble_eq_true rfl)) dX3_changed_23 ⟨(Nat.le_of_ble_eq_true rfl), (Nat.le_of_ble_eq_true rfl)⟩) hP hD hS hA [] [0, 1] rfl rfl (by decide) (by decide) (fun H locs hP hD hS => ?_)
        have hP : va_P (dC, dI) vwCl [(o, .inr (3, [.int th, .int (nI ph), .int (zI og), .ref qx, .ref qk, .ref qw, .ref qb, .ref qn, .long mh, .long ml, .long nc, .int rs, .int (nI na), .ref qd, .int (nI nz), .ref qg, .long t1, .long t2])), (qx, .inl (kx, 256, .inl (nF sb)))] H := hP
        have hD : va_D A [(o, .inr (3, [.int th, .int (nI ph), .int (zI og), .ref qx, .ref qk, .ref qw, .ref qb, .ref qn, .long mh, .long ml, .long nc, .int rs, .int (nI na), .ref qd, .int (nI nz), .ref qg, .long t1, .long t2])), (qx, .inl (kx, 256, .inl (nF sb)))] := hD
        refine W.widen (k := 0) (n := 0) (Nat.le_of_ble_eq_true rfl) (Nat.le_of_ble_eq_true rfl) ?_
        refine w_pc (pc2 := 26) rfl ?_
        refine va_ialb hx hb hK hP 1 0 rfl rfl (wbt_lt _ _) (by decide) dX3_changed_26 ?_
        refine lv_ior hx hb dX3_changed_27 ?_
        refine top_i (y := nI (chN sb x (k + 1))) (n_or _ _) ?_
        refine lv_istore_n hx hb dX3_changed_28 rfl hl (by decide) rfl (fun ls hl => ?_)
        have hl : lv_has ls 4 [(2, .int (nI (chN sb x (k + 1)))), (3, .int (nI k)), (0, .ref o), (1, .int x)] := hl
        refine lv_iinc (v := nI (k + 1)) (k := 1) hx hb dX3_changed_29 hl rfl (ix_inc _ 1) (by decide) rfl (fun ls hl => ?_)
        have hl : lv_has ls 4 [(3, .int (nI (k + 1))), (2, .int (nI (chN sb x (k + 1)))), (0, .ref o), (1, .int x)] := hl
        refine lv_goto (tgt := 4) hx hb dX3_changed_32 (by decide) ?_
        exact ih (k + 1) ls H locs (by omega)  (lv_sub hl [1, 0, 2, 3] rfl) hP hD hS
  exact loop_4 4 0 ls H locs (by omega)  (lv_sub hl [1, 0, 2, 3] rfl) hP hD hS

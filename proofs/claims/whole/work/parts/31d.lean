def rm_m_encryptBlock : Room := { frames := 2, cells := 0, slots := 0, locals := 50 }
set_option maxHeartbeats 4000000 in
set_option maxRecDepth 100000 in
/-- encryptBlock() -/
theorem m_encryptBlock (l : Launch) (dC : Nat → ClassId) (dI : Nat → Nat → Nat) (o : Nat) (th : Int32) (ph : Nat) (og : Bool) (qx : Nat) (qk : Nat) (qw : Nat) (qb : Nat) (qn : Nat) (mh : Int64) (ml : Int64) (nc : Int64) (rs : Int32) (na : Nat) (qd : Nat) (nz : Nat) (qg : Nat) (t1 : Int64) (t2 : Int64) (kx : ClassId) (kw : ClassId) (kb : ClassId) (kn : ClassId) (sb : Nat → Nat) (w : Nat → Int32) (b : Nat → Nat) (z : Nat → Nat) (s256 : ∀ i, sb i < 256) (b256 : ∀ i, b i < 256) : MO l dC dI yX3_encryptBlock wsX3_encryptBlock rm_m_encryptBlock [.ref o] [(o, .inr (3, [.int th, .int (nI ph), .int (zI og), .ref qx, .ref qk, .ref qw, .ref qb, .ref qn, .long mh, .long ml, .long nc, .int rs, .int (nI na), .ref qd, .int (nI nz), .ref qg, .long t1, .long t2])), (qx, .inl (kx, 256, .inl (nF sb))), (qw, .inl (kw, 44, .inl w)), (qb, .inl (kb, 16, .inl (nF b))), (qn, .inl (kn, 16, .inl (nF z)))] [(kx, .int), (kw, .int), (kb, .int), (kn, .int)] [(o, .inr (3, [.int th, .int (nI ph), .int (zI og), .ref qx, .ref qk, .ref qw, .ref qb, .ref qn, .long mh, .long ml, .long nc, .int rs, .int (nI na), .ref qd, .int (nI nz), .ref qg, .long t1, .long t2])), (qx, .inl (kx, 256, .inl (nF sb))), (qw, .inl (kw, 44, .inl w)), (qb, .inl (kb, 16, .inl (nF (erN sb w b 10)))), (qn, .inl (kn, 16, .inl (nF (ssN sb (erN sb w b 9)))))] none := by
  refine mo_ofW (cc := cX3_encryptBlock) (maxL := 3) (ret := none) (by decide) rfl (Nat.le_of_ble_eq_true rfl) ?_
  intro p e s m args below meth c Q A H locs ls hx hb hr hlk hml hta hown hin hE hQ hAe hA hK hP hD hS hl
  have hown : s.vm.findClass RX3 = some m.cls := hown
  have hl : lv_has ls 3 [(0, .ref o)] := hl
  refine lv_aload_n hx hb dX3_encryptBlock_0 rfl (lv_at hl 0 rfl) ?_
  refine lv_iconst (v := nI 0) hx hb dX3_encryptBlock_1 (by decide) ?_
  refine cf_0 (wr := [(qx, .inl (kx, 256, .inl (nF sb))), (qn, .inl (kn, 16, .inl (nF z)))]) (va_runV (As := [.int (nI 0)]) (rest := []) ⟨hx, hb, hml, hown, hta⟩ (MO.to (m_addWords l dC dI o th ph og qx qk qw qb qn mh ml nc rs na qd nz qg t1 t2 kw kb w b 0 (by omega)) H.size) (cwV 1 hta (aw_V mw_544 mw_541 mw_543 mw_s24 mw_5) rfl rfl rfl ⟨rfl, dyX3_addWords⟩ ⟨(Nat.le_of_ble_eq_true rfl), (Nat.le_of_ble_eq_true rfl)⟩) (pr_V hP hD hK hE [0, 2, 3] [1, 2] (by decide) rfl rfl rfl rfl) rfl rfl hl.1 rfl (lv_room (Nat.le_of_ble_eq_true rfl)) dX3_encryptBlock_2 ⟨(Nat.le_of_ble_eq_true rfl), (Nat.le_of_ble_eq_true rfl)⟩) hP hD hS hA [0, 2, 3] [1, 4] rfl rfl (by decide) (by decide) (fun H locs hP hD hS => ?_)
  have hP : va_P (dC, dI) vwCl [(qx, .inl (kx, 256, .inl (nF sb))), (qn, .inl (kn, 16, .inl (nF z))), (o, .inr (3, [.int th, .int (nI ph), .int (zI og), .ref qx, .ref qk, .ref qw, .ref qb, .ref qn, .long mh, .long ml, .long nc, .int rs, .int (nI na), .ref qd, .int (nI nz), .ref qg, .long t1, .long t2])), (qw, .inl (kw, 44, .inl w)), (qb, .inl (kb, 16, .inl (nF (akN w 0 b))))] H := hP
  have hD : va_D A [(qx, .inl (kx, 256, .inl (nF sb))), (qn, .inl (kn, 16, .inl (nF z))), (o, .inr (3, [.int th, .int (nI ph), .int (zI og), .ref qx, .ref qk, .ref qw, .ref qb, .ref qn, .long mh, .long ml, .long nc, .int rs, .int (nI na), .ref qd, .int (nI nz), .ref qg, .long t1, .long t2])), (qw, .inl (kw, 44, .inl w)), (qb, .inl (kb, 16, .inl (nF (akN w 0 b))))] := hD
  refine W.widen (k := 0) (n := 0) (Nat.le_of_ble_eq_true rfl) (Nat.le_of_ble_eq_true rfl) ?_
  refine w_pc (pc2 := 5) rfl ?_
  refine lv_iconst (v := nI 1) hx hb dX3_encryptBlock_5 (by decide) ?_
  refine lv_istore_n hx hb dX3_encryptBlock_6 rfl hl (by decide) rfl (fun ls hl => ?_)
  have hl : lv_has ls 3 [(1, .int (nI 1)), (0, .ref o)] := hl
  obtain ⟨hP, hD⟩ := va_recb (g := erN sb w b 0) hP hD 4 rfl (fun i _ => rfl)
  have hP : va_P (dC, dI) vwCl [(qx, .inl (kx, 256, .inl (nF sb))), (qn, .inl (kn, 16, .inl (nF z))), (o, .inr (3, [.int th, .int (nI ph), .int (zI og), .ref qx, .ref qk, .ref qw, .ref qb, .ref qn, .long mh, .long ml, .long nc, .int rs, .int (nI na), .ref qd, .int (nI nz), .ref qg, .long t1, .long t2])), (qw, .inl (kw, 44, .inl w)), (qb, .inl (kb, 16, .inl (nF (erN sb w b 0))))] H := hP
  have hD : va_D A [(qx, .inl (kx, 256, .inl (nF sb))), (qn, .inl (kn, 16, .inl (nF z))), (o, .inr (3, [.int th, .int (nI ph), .int (zI og), .ref qx, .ref qk, .ref qw, .ref qb, .ref qn, .long mh, .long ml, .long nc, .int rs, .int (nI na), .ref qd, .int (nI nz), .ref qg, .long t1, .long t2])), (qw, .inl (kw, 44, .inl w)), (qb, .inl (kb, 16, .inl (nF (erN sb w b 0))))] := hD
  obtain ⟨hP, hD⟩ := va_recb (g := enN sb w b z 0) hP hD 1 rfl (fun i _ => rfl)
  have hP : va_P (dC, dI) vwCl [(qx, .inl (kx, 256, .inl (nF sb))), (qn, .inl (kn, 16, .inl (nF (enN sb w b z 0)))), (o, .inr (3, [.int th, .int (nI ph), .int (zI og), .ref qx, .ref qk, .ref qw, .ref qb, .ref qn, .long mh, .long ml, .long nc, .int rs, .int (nI na), .ref qd, .int (nI nz), .ref qg, .long t1, .long t2])), (qw, .inl (kw, 44, .inl w)), (qb, .inl (kb, 16, .inl (nF (erN sb w b 0))))] H := hP
  have hD : va_D A [(qx, .inl (kx, 256, .inl (nF sb))), (qn, .inl (kn, 16, .inl (nF (enN sb w b z 0)))), (o, .inr (3, [.int th, .int (nI ph), .int (zI og), .ref qx, .ref qk, .ref qw, .ref qb, .ref qn, .long mh, .long ml, .long nc, .int rs, .int (nI na), .ref qd, .int (nI nz), .ref qg, .long t1, .long t2])), (qw, .inl (kw, 44, .inl w)), (qb, .inl (kb, 16, .inl (nF (erN sb w b 0))))] := hD
  have loop_7 : ∀ (n k : Nat) (ls : Array Slot) (H : Heap) (locs : List Loc), k + n = 10 → lv_has ls 3 [(1, .int (nI (k + 1))), (0, .ref o)] → va_P (dC, dI) vwCl [(qx, .inl (kx, 256, .inl (nF sb))), (qn, .inl (kn, 16, .inl (nF (enN sb w b z k)))), (o, .inr (3, [.int th, .int (nI ph), .int (zI og), .ref qx, .ref qk, .ref qw, .ref qb, .ref qn, .long mh, .long ml, .long nc, .int rs, .int (nI na), .ref qd, .int (nI nz), .ref qg, .long t1, .long t2])), (qw, .inl (kw, 44, .inl w)), (qb, .inl (kb, 16, .inl (nF (erN sb w b k))))] H → va_D A [(qx, .inl (kx, 256, .inl (nF sb))), (qn, .inl (kn, 16, .inl (nF (enN sb w b z k)))), (o, .inr (3, [.int th, .int (nI ph), .int (zI og), .ref qx, .ref qk, .ref qw, .ref qb, .ref qn, .long mh, .long ml, .long nc, .int rs, .int (nI na), .ref qd, .int (nI nz), .ref qg, .long t1, .long t2])), (qw, .inl (kw, 44, .inl w)), (qb, .inl (kb, 16, .inl (nF (erN sb w b k))))] → va_S A s.heap H locs → W p l e rm_m_encryptBlock s m args below meth c H locs 0 0 Q (F0 m 7 ls []) := by
    intro n
    induction n with
    | zero =>
      intro k ls H locs hn_7  hl hP hD hS
      obtain rfl : 10 = k := by omega
      obtain ⟨hP, hD⟩ := va_recb (g := ssN sb (erN sb w b 9)) hP hD 1 rfl (fun i _ => rfl)
      have hP : va_P (dC, dI) vwCl [(qx, .inl (kx, 256, .inl (nF sb))), (qn, .inl (kn, 16, .inl (nF (ssN sb (erN sb w b 9))))), (o, .inr (3, [.int th, .int (nI ph), .int (zI og), .ref qx, .ref qk, .ref qw, .ref qb, .ref qn, .long mh, .long ml, .long nc, .int rs, .int (nI na), .ref qd, .int (nI nz), .ref qg, .long t1, .long t2])), (qw, .inl (kw, 44, .inl w)), (qb, .inl (kb, 16, .inl (nF (erN sb w b 10))))] H := hP
      have hD : va_D A [(qx, .inl (kx, 256, .inl (nF sb))), (qn, .inl (kn, 16, .inl (nF (ssN sb (erN sb w b 9))))), (o, .inr (3, [.int th, .int (nI ph), .int (zI og), .ref qx, .ref qk, .ref qw, .ref qb, .ref qn, .long mh, .long ml, .long nc, .int rs, .int (nI na), .ref qd, .int (nI nz), .ref qg, .long t1, .long t2])), (qw, .inl (kw, 44, .inl w)), (qb, .inl (kb, 16, .inl (nF (erN sb w b 10))))] := hD
      refine lv_iload_n hx hb dX3_encryptBlock_7 rfl (lv_at hl 0 rfl) ?_
      refine lv_bipush (v := nI 10) hx hb dX3_encryptBlock_8 (by decide) ?_
      refine lv_icmp_gt (tgt := 109) hx hb dX3_encryptBlock_10 (by decide) (fun hc_10 => ?_) (fun hc_10 => ?_)
      · skip
        have hc_10 := (ix_lt (a := 10) (b := 10 + 1) (by omega) (by omega)).mp hc_10
        have hc_10 : (10 < (10 + 1)) := hc_10
        exact rt_0 hx hb hr hlk hQ hAe hP hD hS [2, 0, 3, 4, 1] (by decide) rfl (Nat.le_of_ble_eq_true rfl) (Nat.le_of_ble_eq_true rfl) dX3_encryptBlock_109
      · skip
        have hc_10 := (not_congr (ix_lt (a := 10) (b := 10 + 1) (by omega) (by omega))).mp hc_10
        have hc_10 : ¬ (10 < (10 + 1)) := hc_10
        exfalso; omega
    | succ n ih =>
      intro k ls H locs hn_7  hl hP hD hS
      refine lv_iload_n hx hb dX3_encryptBlock_7 rfl (lv_at hl 0 rfl) ?_
      refine lv_bipush (v := nI 10) hx hb dX3_encryptBlock_8 (by decide) ?_
      refine lv_icmp_gt (tgt := 109) hx hb dX3_encryptBlock_10 (by decide) (fun hc_10 => ?_) (fun hc_10 => ?_)
      · skip
        have hc_10 := (ix_lt (a := 10) (b := k + 1) (by omega) (by omega)).mp hc_10
        have hc_10 : (10 < (k + 1)) := hc_10
        exfalso; omega
      · skip
        have hc_10 := (not_congr (ix_lt (a := 10) (b := k + 1) (by omega) (by omega))).mp hc_10
        have hc_10 : ¬ (10 < (k + 1)) := hc_10
        refine lv_iconst (v := nI 0) hx hb dX3_encryptBlock_13 (by decide) ?_
        refine lv_istore_n hx hb dX3_encryptBlock_14 rfl hl (by decide) rfl (fun ls hl => ?_)
        have hl : lv_has ls 3 [(2, .int (nI 0)), (1, .int (nI (k + 1))), (0, .ref o)] := hl
        obtain ⟨hP, hD⟩ := va_recb (g := fl (ssN sb (erN sb w b k)) (enN sb w b z k) 0) hP hD 1 rfl (fun i _ => fl_0 _ _ i)
        have hP : va_P (dC, dI) vwCl [(qx, .inl (kx, 256, .inl (nF sb))), (qn, .inl (kn, 16, .inl (nF (fl (ssN sb (erN sb w b k)) (enN sb w b z k) 0)))), (o, .inr (3, [.int th, .int (nI ph), .int (zI og), .ref qx, .ref qk, .ref qw, .ref qb, .ref qn, .long mh, .long ml, .long nc, .int rs, .int (nI na), .ref qd, .int (nI nz), .ref qg, .long t1, .long t2])), (qw, .inl (kw, 44, .inl w)), (qb, .inl (kb, 16, .inl (nF (erN sb w b k))))] H := hP
        have hD : va_D A [(qx, .inl (kx, 256, .inl (nF sb))), (qn, .inl (kn, 16, .inl (nF (fl (ssN sb (erN sb w b k)) (enN sb w b z k) 0)))), (o, .inr (3, [.int th, .int (nI ph), .int (zI og), .ref qx, .ref qk, .ref qw, .ref qb, .ref qn, .long mh, .long ml, .long nc, .int rs, .int (nI na), .ref qd, .int (nI nz), .ref qg, .long t1, .long t2])), (qw, .inl (kw, 44, .inl w)), (qb, .inl (kb, 16, .inl (nF (erN sb w b k))))] := hD
        have loop_15 : ∀ (n t : Nat) (ls : Array Slot) (H : Heap) (locs : List Loc), t + n = 16 → lv_has ls 3 [(2, .int (nI t)), (1, .int (nI (k + 1))), (0, .ref o)] → va_P (dC, dI) vwCl [(qx, .inl (kx, 256, .inl (nF sb))), (qn, .inl (kn, 16, .inl (nF (fl (ssN sb (erN sb w b k)) (enN sb w b z k) t)))), (o, .inr (3, [.int th, .int (nI ph), .int (zI og), .ref qx, .ref qk, .ref qw, .ref qb, .ref qn, .long mh, .long ml, .long nc, .int rs, .int (nI na), .ref qd, .int (nI nz), .ref qg, .long t1, .long t2])), (qw, .inl (kw, 44, .inl w)), (qb, .inl (kb, 16, .inl (nF (erN sb w b k))))] H → va_D A [(qx, .inl (kx, 256, .inl (nF sb))), (qn, .inl (kn, 16, .inl (nF (fl (ssN sb (erN sb w b k)) (enN sb w b z k) t)))), (o, .inr (3, [.int th, .int (nI ph), .int (zI og), .ref qx, .ref qk, .ref qw, .ref qb, .ref qn, .long mh, .long ml, .long nc, .int rs, .int (nI na), .ref qd, .int (nI nz), .ref qg, .long t1, .long t2])), (qw, .inl (kw, 44, .inl w)), (qb, .inl (kb, 16, .inl (nF (erN sb w b k))))] → va_S A s.heap H locs → W p l e rm_m_encryptBlock s m args below meth c H locs 0 0 Q (F0 m 15 ls []) := by
          intro n
          induction n with
          | zero =>
            intro t ls H locs hn_15  hl hP hD hS
            obtain rfl : 16 = t := by omega
            obtain ⟨hP, hD⟩ := va_recb (g := ssN sb (erN sb w b k)) hP hD 1 rfl (fun i hi9 => fl_n _ _ 16 i hi9)
            have hP : va_P (dC, dI) vwCl [(qx, .inl (kx, 256, .inl (nF sb))), (qn, .inl (kn, 16, .inl (nF (ssN sb (erN sb w b k))))), (o, .inr (3, [.int th, .int (nI ph), .int (zI og), .ref qx, .ref qk, .ref qw, .ref qb, .ref qn, .long mh, .long ml, .long nc, .int rs, .int (nI na), .ref qd, .int (nI nz), .ref qg, .long t1, .long t2])), (qw, .inl (kw, 44, .inl w)), (qb, .inl (kb, 16, .inl (nF (erN sb w b k))))] H := hP
            have hD : va_D A [(qx, .inl (kx, 256, .inl (nF sb))), (qn, .inl (kn, 16, .inl (nF (ssN sb (erN sb w b k))))), (o, .inr (3, [.int th, .int (nI ph), .int (zI og), .ref qx, .ref qk, .ref qw, .ref qb, .ref qn, .long mh, .long ml, .long nc, .int rs, .int (nI na), .ref qd, .int (nI nz), .ref qg, .long t1, .long t2])), (qw, .inl (kw, 44, .inl w)), (qb, .inl (kb, 16, .inl (nF (erN sb w b k))))] := hD
            refine lv_iload_n hx hb dX3_encryptBlock_15 rfl (lv_at hl 0 rfl) ?_
            refine lv_bipush (v := nI 16) hx hb dX3_encryptBlock_16 (by decide) ?_
            refine lv_icmp_ge (tgt := 58) hx hb dX3_encryptBlock_18 (by decide) (fun hc_18 => ?_) (fun hc_18 => ?_)
            · skip
              have hc_18 := (ix_le (a := 16) (b := 16) (by omega) (by omega)).mp hc_18
              have hc_18 : (16 ≤ 16) := hc_18
              refine lv_iconst (v := nI 0) hx hb dX3_encryptBlock_58 (by decide) ?_
              refine lv_istore_n hx hb dX3_encryptBlock_59 rfl hl (by decide) rfl (fun ls hl => ?_)
              have hl : lv_has ls 3 [(2, .int (nI 0)), (1, .int (nI (k + 1))), (0, .ref o)] := hl
              obtain ⟨hP, hD⟩ := va_recb (g := fl (ssN sb (erN sb w b k)) (erN sb w b k) 0) hP hD 4 rfl (fun i _ => fl_0 _ _ i)
              have hP : va_P (dC, dI) vwCl [(qx, .inl (kx, 256, .inl (nF sb))), (qn, .inl (kn, 16, .inl (nF (ssN sb (erN sb w b k))))), (o, .inr (3, [.int th, .int (nI ph), .int (zI og), .ref qx, .ref qk, .ref qw, .ref qb, .ref qn, .long mh, .long ml, .long nc, .int rs, .int (nI na), .ref qd, .int (nI nz), .ref qg, .long t1, .long t2])), (qw, .inl (kw, 44, .inl w)), (qb, .inl (kb, 16, .inl (nF (fl (ssN sb (erN sb w b k)) (erN sb w b k) 0))))] H := hP
              have hD : va_D A [(qx, .inl (kx, 256, .inl (nF sb))), (qn, .inl (kn, 16, .inl (nF (ssN sb (erN sb w b k))))), (o, .inr (3, [.int th, .int (nI ph), .int (zI og), .ref qx, .ref qk, .ref qw, .ref qb, .ref qn, .long mh, .long ml, .long nc, .int rs, .int (nI na), .ref qd, .int (nI nz), .ref qg, .long t1, .long t2])), (qw, .inl (kw, 44, .inl w)), (qb, .inl (kb, 16, .inl (nF (fl (ssN sb (erN sb w b k)) (erN sb w b k) 0))))] := hD
              have loop_60 : ∀ (n v : Nat) (ls : Array Slot) (H : Heap) (locs : List Loc), v + n = 16 → lv_has ls 3 [(2, .int (nI v)), (1, .int (nI (k + 1))), (0, .ref o)] → va_P (dC, dI) vwCl [(qx, .inl (kx, 256, .inl (nF sb))), (qn, .inl (kn, 16, .inl (nF (ssN sb (erN sb w b k))))), (o, .inr (3, [.int th, .int (nI ph), .int (zI og), .ref qx, .ref qk, .ref qw, .ref qb, .ref qn, .long mh, .long ml, .long nc, .int rs, .int (nI na), .ref qd, .int (nI nz), .ref qg, .long t1, .long t2])), (qw, .inl (kw, 44, .inl w)), (qb, .inl (kb, 16, .inl (nF (fl (ssN sb (erN sb w b k)) (erN sb w b k) v))))] H → va_D A [(qx, .inl (kx, 256, .inl (nF sb))), (qn, .inl (kn, 16, .inl (nF (ssN sb (erN sb w b k))))), (o, .inr (3, [.int th, .int (nI ph), .int (zI og), .ref qx, .ref qk, .ref qw, .ref qb, .ref qn, .long mh, .long ml, .long nc, .int rs, .int (nI na), .ref qd, .int (nI nz), .ref qg, .long t1, .long t2])), (qw, .inl (kw, 44, .inl w)), (qb, .inl (kb, 16, .inl (nF (fl (ssN sb (erN sb w b k)) (erN sb w b k) v))))] → va_S A s.heap H locs → W p l e rm_m_encryptBlock s m args below meth c H locs 0 0 Q (F0 m 60 ls []) := by
                intro n
                induction n with
                | zero =>
                  intro v ls H locs hn_60  hl hP hD hS
                  obtain rfl : 16 = v := by omega
                  obtain ⟨hP, hD⟩ := va_recb (g := ssN sb (erN sb w b k)) hP hD 4 rfl (fun i hi9 => fl_n _ _ 16 i hi9)
                  have hP : va_P (dC, dI) vwCl [(qx, .inl (kx, 256, .inl (nF sb))), (qn, .inl (kn, 16, .inl (nF (ssN sb (erN sb w b k))))), (o, .inr (3, [.int th, .int (nI ph), .int (zI og), .ref qx, .ref qk, .ref qw, .ref qb, .ref qn, .long mh, .long ml, .long nc, .int rs, .int (nI na), .ref qd, .int (nI nz), .ref qg, .long t1, .long t2])), (qw, .inl (kw, 44, .inl w)), (qb, .inl (kb, 16, .inl (nF (ssN sb (erN sb w b k)))))] H := hP
                  have hD : va_D A [(qx, .inl (kx, 256, .inl (nF sb))), (qn, .inl (kn, 16, .inl (nF (ssN sb (erN sb w b k))))), (o, .inr (3, [.int th, .int (nI ph), .int (zI og), .ref qx, .ref qk, .ref qw, .ref qb, .ref qn, .long mh, .long ml, .long nc, .int rs, .int (nI na), .ref qd, .int (nI nz), .ref qg, .long t1, .long t2])), (qw, .inl (kw, 44, .inl w)), (qb, .inl (kb, 16, .inl (nF (ssN sb (erN sb w b k)))))] := hD
                  refine lv_iload_n hx hb dX3_encryptBlock_60 rfl (lv_at hl 0 rfl) ?_
                  refine lv_bipush (v := nI 16) hx hb dX3_encryptBlock_61 (by decide) ?_
                  refine lv_icmp_ge (tgt := 84) hx hb dX3_encryptBlock_63 (by decide) (fun hc_63 => ?_) (fun hc_63 => ?_)
                  · skip
                    have hc_63 := (ix_le (a := 16) (b := 16) (by omega) (by omega)).mp hc_63
                    have hc_63 : (16 ≤ 16) := hc_63
                    refine lv_iload_n hx hb dX3_encryptBlock_84 rfl (lv_at hl 1 rfl) ?_
                    refine lv_bipush (v := nI 10) hx hb dX3_encryptBlock_85 (by decide) ?_
                    refine lv_icmp_ge (tgt := 98) hx hb dX3_encryptBlock_87 (by decide) (fun hc_87 => ?_) (fun hc_87 => ?_)
                    · skip
                      have hc_87 := (ix_le (a := 10) (b := k + 1) (by omega) (by omega)).mp hc_87
                      have hc_87 : (10 ≤ (k + 1)) := hc_87
                      refine lv_aload_n hx hb dX3_encryptBlock_98 rfl (lv_at hl 2 rfl) ?_
                      refine lv_iload_n hx hb dX3_encryptBlock_99 rfl (lv_at hl 1 rfl) ?_
                      refine cf_0 (wr := [(qx, .inl (kx, 256, .inl (nF sb))), (qn, .inl (kn, 16, .inl (nF (ssN sb (erN sb w b k)))))]) (va_runV (As := [.int (nI (k + 1))]) (rest := []) ⟨hx, hb, hml, hown, hta⟩ (MO.to (m_addWords l dC dI o th ph og qx qk qw qb qn mh ml nc rs na qd nz qg t1 t2 kw kb w (ssN sb (erN sb w b k)) (k + 1) (by omega)) H.size) (cwV 1 hta (aw_V mw_544 mw_541 mw_543 mw_s24 mw_5) rfl rfl rfl ⟨rfl, dyX3_addWords⟩ ⟨(Nat.le_of_ble_eq_true rfl), (Nat.le_of_ble_eq_true rfl)⟩) (pr_V hP hD hK hE [2, 3, 4] [1, 2] (by decide) rfl rfl rfl rfl) rfl rfl hl.1 rfl (lv_room (Nat.le_of_ble_eq_true rfl)) dX3_encryptBlock_100 ⟨(Nat.le_of_ble_eq_true rfl), (Nat.le_of_ble_eq_true rfl)⟩) hP hD hS hA [2, 3, 4] [0, 1] rfl rfl (by decide) (by decide) (fun H locs hP hD hS => ?_)
                      have hP : va_P (dC, dI) vwCl [(qx, .inl (kx, 256, .inl (nF sb))), (qn, .inl (kn, 16, .inl (nF (ssN sb (erN sb w b k))))), (o, .inr (3, [.int th, .int (nI ph), .int (zI og), .ref qx, .ref qk, .ref qw, .ref qb, .ref qn, .long mh, .long ml, .long nc, .int rs, .int (nI na), .ref qd, .int (nI nz), .ref qg, .long t1, .long t2])), (qw, .inl (kw, 44, .inl w)), (qb, .inl (kb, 16, .inl (nF (akN w (k + 1) (ssN sb (erN sb w b k))))))] H := hP
                      have hD : va_D A [(qx, .inl (kx, 256, .inl (nF sb))), (qn, .inl (kn, 16, .inl (nF (ssN sb (erN sb w b k))))), (o, .inr (3, [.int th, .int (nI ph), .int (zI og), .ref qx, .ref qk, .ref qw, .ref qb, .ref qn, .long mh, .long ml, .long nc, .int rs, .int (nI na), .ref qd, .int (nI nz), .ref qg, .long t1, .long t2])), (qw, .inl (kw, 44, .inl w)), (qb, .inl (kb, 16, .inl (nF (akN w (k + 1) (ssN sb (erN sb w b k))))))] := hD
                      refine W.widen (k := 0) (n := 0) (Nat.le_of_ble_eq_true rfl) (Nat.le_of_ble_eq_true rfl) ?_
                      refine w_pc (pc2 := 103) rfl ?_
                      refine lv_iinc (v := nI ((k + 1) + 1)) (k := 1) hx hb dX3_encryptBlock_103 hl rfl (ix_inc _ 1) (by decide) rfl (fun ls hl => ?_)
                      have hl : lv_has ls 3 [(1, .int (nI ((k + 1) + 1))), (2, .int (nI 16)), (0, .ref o)] := hl
                      refine lv_goto (tgt := 7) hx hb dX3_encryptBlock_106 (by decide) ?_
                      obtain ⟨hP, hD⟩ := va_recb (g := erN sb w b (k + 1)) hP hD 4 rfl (fun i _ => erN_e (by omega) i)
                      have hP : va_P (dC, dI) vwCl [(qx, .inl (kx, 256, .inl (nF sb))), (qn, .inl (kn, 16, .inl (nF (ssN sb (erN sb w b k))))), (o, .inr (3, [.int th, .int (nI ph), .int (zI og), .ref qx, .ref qk, .ref qw, .ref qb, .ref qn, .long mh, .long ml, .long nc, .int rs, .int (nI na), .ref qd, .int (nI nz), .ref qg, .long t1, .long t2])), (qw, .inl (kw, 44, .inl w)), (qb, .inl (kb, 16, .inl (nF (erN sb w b (k + 1)))))] H := hP
                      have hD : va_D A [(qx, .inl (kx, 256, .inl (nF sb))), (qn, .inl (kn, 16, .inl (nF (ssN sb (erN sb w b k))))), (o, .inr (3, [.int th, .int (nI ph), .int (zI og), .ref qx, .ref qk, .ref qw, .ref qb, .ref qn, .long mh, .long ml, .long nc, .int rs, .int (nI na), .ref qd, .int (nI nz), .ref qg, .long t1, .long t2])), (qw, .inl (kw, 44, .inl w)), (qb, .inl (kb, 16, .inl (nF (erN sb w b (k + 1)))))] := hD
                      obtain ⟨hP, hD⟩ := va_recb (g := enN sb w b z (k + 1)) hP hD 1 rfl (fun i _ => enN_e (by omega) i)
                      have hP : va_P (dC, dI) vwCl [(qx, .inl (kx, 256, .inl (nF sb))), (qn, .inl (kn, 16, .inl (nF (enN sb w b z (k + 1))))), (o, .inr (3, [.int th, .int (nI ph), .int (zI og), .ref qx, .ref qk, .ref qw, .ref qb, .ref qn, .long mh, .long ml, .long nc, .int rs, .int (nI na), .ref qd, .int (nI nz), .ref qg, .long t1, .long t2])), (qw, .inl (kw, 44, .inl w)), (qb, .inl (kb, 16, .inl (nF (erN sb w b (k + 1)))))] H := hP
                      have hD : va_D A [(qx, .inl (kx, 256, .inl (nF sb))), (qn, .inl (kn, 16, .inl (nF (enN sb w b z (k + 1))))), (o, .inr (3, [.int th, .int (nI ph), .int (zI og), .ref qx, .ref qk, .ref qw, .ref qb, .ref qn, .long mh, .long ml, .long nc, .int rs, .int (nI na), .ref qd, .int (nI nz), .ref qg, .long t1, .long t2])), (qw, .inl (kw, 44, .inl w)), (qb, .inl (kb, 16, .inl (nF (erN sb w b (k + 1)))))] := hD
                      exact ih (k + 1) ls H locs (by omega)  (lv_sub hl [0, 2] rfl) hP hD hS
                    · skip
                      have hc_87 := (not_congr (ix_le (a := 10) (b := k + 1) (by omega) (by omega))).mp hc_87
                      have hc_87 : ¬ (10 ≤ (k + 1)) := hc_87
                      refine lv_aload_n hx hb dX3_encryptBlock_90 rfl (lv_at hl 2 rfl) ?_
                      refine lv_iconst (v := nI 2) hx hb dX3_encryptBlock_91 (by decide) ?_
                      refine lv_iconst (v := nI 3) hx hb dX3_encryptBlock_92 (by decide) ?_
                      refine lv_iconst (v := nI 1) hx hb dX3_encryptBlock_93 (by decide) ?_
                      refine lv_iconst (v := nI 1) hx hb dX3_encryptBlock_94 (by decide) ?_
                      refine cf_0 (wr := [(qx, .inl (kx, 256, .inl (nF sb))), (qw, .inl (kw, 44, .inl w))]) (va_runV (As := [.int (nI 2), .int (nI 3), .int (nI 1), .int (nI 1)]) (rest := []) ⟨hx, hb, hml, hown, hta⟩ (MO.to (m_mix l dC dI o th ph og qx qk qw qb qn mh ml nc rs na qd nz qg t1 t2 kb kn (ssN sb (erN sb w b k)) (ssN sb (erN sb w b k)) 2 3 1 1 (ssN_lt s256) (by decide) (by decide) (by decide) (by decide)) H.size) (cwV 4 hta (aw_V mw_548 mw_545 mw_547 mw_s25 mw_5) rfl rfl rfl ⟨rfl, dyX3_mix⟩ ⟨(Nat.le_of_ble_eq_true rfl), (Nat.le_of_ble_eq_true rfl)⟩) (pr_V hP hD hK hE [2, 4, 1] [2, 3] (by decide) rfl rfl rfl rfl) rfl rfl hl.1 rfl (lv_room (Nat.le_of_ble_eq_true rfl)) dX3_encryptBlock_95 ⟨(Nat.le_of_ble_eq_true rfl), (Nat.le_of_ble_eq_true rfl)⟩) hP hD hS hA [2, 4, 1] [0, 3] rfl rfl (by decide) (by decide) (fun H locs hP hD hS => ?_)
                      have hP : va_P (dC, dI) vwCl [(qx, .inl (kx, 256, .inl (nF sb))), (qw, .inl (kw, 44, .inl w)), (o, .inr (3, [.int th, .int (nI ph), .int (zI og), .ref qx, .ref qk, .ref qw, .ref qb, .ref qn, .long mh, .long ml, .long nc, .int rs, .int (nI na), .ref qd, .int (nI nz), .ref qg, .long t1, .long t2])), (qb, .inl (kb, 16, .inl (nF (mmN 2 3 1 1 (ssN sb (erN sb w b k)))))), (qn, .inl (kn, 16, .inl (nF (mmN 2 3 1 1 (ssN sb (erN sb w b k))))))] H := hP
                      have hD : va_D A [(qx, .inl (kx, 256, .inl (nF sb))), (qw, .inl (kw, 44, .inl w)), (o, .inr (3, [.int th, .int (nI ph), .int (zI og), .ref qx, .ref qk, .ref qw, .ref qb, .ref qn, .long mh, .long ml, .long nc, .int rs, .int (nI na), .ref qd, .int (nI nz), .ref qg, .long t1, .long t2])), (qb, .inl (kb, 16, .inl (nF (mmN 2 3 1 1 (ssN sb (erN sb w b k)))))), (qn, .inl (kn, 16, .inl (nF (mmN 2 3 1 1 (ssN sb (erN sb w b k))))))] := hD
                      refine W.widen (k := 0) (n := 0) (Nat.le_of_ble_eq_true rfl) (Nat.le_of_ble_eq_true rfl) ?_
                      obtain ⟨hP, hD⟩ := va_recb (g := mixN (ssN sb (erN sb w b k))) hP hD 3 rfl (fun i _ => mm_mix (ssN_lt s256) i)
                      have hP : va_P (dC, dI) vwCl [(qx, .inl (kx, 256, .inl (nF sb))), (qw, .inl (kw, 44, .inl w)), (o, .inr (3, [.int th, .int (nI ph), .int (zI og), .ref qx, .ref qk, .ref qw, .ref qb, .ref qn, .long mh, .long ml, .long nc, .int rs, .int (nI na), .ref qd, .int (nI nz), .ref qg, .long t1, .long t2])), (qb, .inl (kb, 16, .inl (nF (mixN (ssN sb (erN sb w b k)))))), (qn, .inl (kn, 16, .inl (nF (mmN 2 3 1 1 (ssN sb (erN sb w b k))))))] H := hP
                      have hD : va_D A [(qx, .inl (kx, 256, .inl (nF sb))), (qw, .inl (kw, 44, .inl w)), (o, .inr (3, [.int th, .int (nI ph), .int (zI og), .ref qx, .ref qk, .ref qw, .ref qb, .ref qn, .long mh, .long ml, .long nc, .int rs, .int (nI na), .ref qd, .int (nI nz), .ref qg, .long t1, .long t2])), (qb, .inl (kb, 16, .inl (nF (mixN (ssN sb (erN sb w b k)))))), (qn, .inl (kn, 16, .inl (nF (mmN 2 3 1 1 (ssN sb (erN sb w b k))))))] := hD
                      obtain ⟨hP, hD⟩ := va_recb (g := mixN (ssN sb (erN sb w b k))) hP hD 4 rfl (fun i _ => mm_mix (ssN_lt s256) i)
                      have hP : va_P (dC, dI) vwCl [(qx, .inl (kx, 256, .inl (nF sb))), (qw, .inl (kw, 44, .inl w)), (o, .inr (3, [.int th, .int (nI ph), .int (zI og), .ref qx, .ref qk, .ref qw, .ref qb, .ref qn, .long mh, .long ml, .long nc, .int rs, .int (nI na), .ref qd, .int (nI nz), .ref qg, .long t1, .long t2])), (qb, .inl (kb, 16, .inl (nF (mixN (ssN sb (erN sb w b k)))))), (qn, .inl (kn, 16, .inl (nF (mixN (ssN sb (erN sb w b k))))))] H := hP
                      have hD : va_D A [(qx, .inl (kx, 256, .inl (nF sb))), (qw, .inl (kw, 44, .inl w)), (o, .inr (3, [.int th, .int (nI ph), .int (zI og), .ref qx, .ref qk, .ref qw, .ref qb, .ref qn, .long mh, .long ml, .long nc, .int rs, .int (nI na), .ref qd, .int (nI nz), .ref qg, .long t1, .long t2])), (qb, .inl (kb, 16, .inl (nF (mixN (ssN sb (erN sb w b k)))))), (qn, .inl (kn, 16, .inl (nF (mixN (ssN sb (erN sb w b k))))))] := hD
                      refine w_pc (pc2 := 98) rfl ?_
                      refine lv_aload_n hx hb dX3_encryptBlock_98 rfl (lv_at hl 2 rfl) ?_
                      refine lv_iload_n hx hb dX3_encryptBlock_99 rfl (lv_at hl 1 rfl) ?_
                      refine cf_0 (wr := [(qx, .inl (kx, 256, .inl (nF sb))), (qn, .inl (kn, 16, .inl (nF (mixN (ssN sb (erN sb w b k))))))]) (va_runV (As := [.int (nI (k + 1))]) (rest := []) ⟨hx, hb, hml, hown, hta⟩ (MO.to (m_addWords l dC dI o th ph og qx qk qw qb qn mh ml nc rs na qd nz qg t1 t2 kw kb w (mixN (ssN sb (erN sb w b k))) (k + 1) (by omega)) H.size) (cwV 1 hta (aw_V mw_544 mw_541 mw_543 mw_s24 mw_5) rfl rfl rfl ⟨rfl, dyX3_addWords⟩ ⟨(Nat.le_of_ble_eq_true rfl), (Nat.le_of_ble_eq_true rfl)⟩) (pr_V hP hD hK hE [2, 1, 3] [1, 2] (by decide) rfl rfl rfl rfl) rfl rfl hl.1 rfl (lv_room (Nat.le_of_ble_eq_true rfl)) dX3_encryptBlock_100 ⟨(Nat.le_of_ble_eq_true rfl), (Nat.le_of_ble_eq_true rfl)⟩) hP hD hS hA [2, 1, 3] [0, 4] rfl rfl (by decide) (by decide) (fun H locs hP hD hS => ?_)
                      have hP : va_P (dC, dI) vwCl [(qx, .inl (kx, 256, .inl (nF sb))), (qn, .inl (kn, 16, .inl (nF (mixN (ssN sb (erN sb w b k)))))), (o, .inr (3, [.int th, .int (nI ph), .int (zI og), .ref qx, .ref qk, .ref qw, .ref qb, .ref qn, .long mh, .long ml, .long nc, .int rs, .int (nI na), .ref qd, .int (nI nz), .ref qg, .long t1, .long t2])), (qw, .inl (kw, 44, .inl w)), (qb, .inl (kb, 16, .inl (nF (akN w (k + 1) (mixN (ssN sb (erN sb w b k)))))))] H := hP
                      have hD : va_D A [(qx, .inl (kx, 256, .inl (nF sb))), (qn, .inl (kn, 16, .inl (nF (mixN (ssN sb (erN sb w b k)))))), (o, .inr (3, [.int th, .int (nI ph), .int (zI og), .ref qx, .ref qk, .ref qw, .ref qb, .ref qn, .long mh, .long ml, .long nc, .int rs, .int (nI na), .ref qd, .int (nI nz), .ref qg, .long t1, .long t2])), (qw, .inl (kw, 44, .inl w)), (qb, .inl (kb, 16, .inl (nF (akN w (k + 1) (mixN (ssN sb (erN sb w b k)))))))] := hD
                      refine W.widen (k := 0) (n := 0) (Nat.le_of_ble_eq_true rfl) (Nat.le_of_ble_eq_true rfl) ?_
                      refine w_pc (pc2 := 103) rfl ?_
                      refine lv_iinc (v := nI ((k + 1) + 1)) (k := 1) hx hb dX3_encryptBlock_103 hl rfl (ix_inc _ 1) (by decide) rfl (fun ls hl => ?_)
                      have hl : lv_has ls 3 [(1, .int (nI ((k + 1) + 1))), (2, .int (nI 16)), (0, .ref o)] := hl
                      refine lv_goto (tgt := 7) hx hb dX3_encryptBlock_106 (by decide) ?_
                      obtain ⟨hP, hD⟩ := va_recb (g := erN sb w b (k + 1)) hP hD 4 rfl (fun i _ => erN_m (by omega) i)
                      have hP : va_P (dC, dI) vwCl [(qx, .inl (kx, 256, .inl (nF sb))), (qn, .inl (kn, 16, .inl (nF (mixN (ssN sb (erN sb w b k)))))), (o, .inr (3, [.int th, .int (nI ph), .int (zI og), .ref qx, .ref qk, .ref qw, .ref qb, .ref qn, .long mh, .long ml, .long nc, .int rs, .int (nI na), .ref qd, .int (nI nz), .ref qg, .long t1, .long t2])), (qw, .inl (kw, 44, .inl w)), (qb, .inl (kb, 16, .inl (nF (erN sb w b (k + 1)))))] H := hP
                      have hD : va_D A [(qx, .inl (kx, 256, .inl (nF sb))), (qn, .inl (kn, 16, .inl (nF (mixN (ssN sb (erN sb w b k)))))), (o, .inr (3, [.int th, .int (nI ph), .int (zI og), .ref qx, .ref qk, .ref qw, .ref qb, .ref qn, .long mh, .long ml, .long nc, .int rs, .int (nI na), .ref qd, .int (nI nz), .ref qg, .long t1, .long t2])), (qw, .inl (kw, 44, .inl w)), (qb, .inl (kb, 16, .inl (nF (erN sb w b (k + 1)))))] := hD
                      obtain ⟨hP, hD⟩ := va_recb (g := enN sb w b z (k + 1)) hP hD 1 rfl (fun i _ => enN_m (by omega) i)
                      have hP : va_P (dC, dI) vwCl [(qx, .inl (kx, 256, .inl (nF sb))), (qn, .inl (kn, 16, .inl (nF (enN sb w b z (k + 1))))), (o, .inr (3, [.int th, .int (nI ph), .int (zI og), .ref qx, .ref qk, .ref qw, .ref qb, .ref qn, .long mh, .long ml, .long nc, .int rs, .int (nI na), .ref qd, .int (nI nz), .ref qg, .long t1, .long t2])), (qw, .inl (kw, 44, .inl w)), (qb, .inl (kb, 16, .inl (nF (erN sb w b (k + 1)))))] H := hP
                      have hD : va_D A [(qx, .inl (kx, 256, .inl (nF sb))), (qn, .inl (kn, 16, .inl (nF (enN sb w b z (k + 1))))), (o, .inr (3, [.int th, .int (nI ph), .int (zI og), .ref qx, .ref qk, .ref qw, .ref qb, .ref qn, .long mh, .long ml, .long nc, .int rs, .int (nI na), .ref qd, .int (nI nz), .ref qg, .long t1, .long t2])), (qw, .inl (kw, 44, .inl w)), (qb, .inl (kb, 16, .inl (nF (erN sb w b (k + 1)))))] := hD
                      exact ih (k + 1) ls H locs (by omega)  (lv_sub hl [0, 2] rfl) hP hD hS
                  · skip
                    have hc_63 := (not_congr (ix_le (a := 16) (b := 16) (by omega) (by omega))).mp hc_63
                    have hc_63 : ¬ (16 ≤ 16) := hc_63
                    exfalso; omega
                | succ n ih =>
                  intro v ls H locs hn_60  hl hP hD hS
                  refine lv_iload_n hx hb dX3_encryptBlock_60 rfl (lv_at hl 0 rfl) ?_
                  refine lv_bipush (v := nI 16) hx hb dX3_encryptBlock_61 (by decide) ?_
                  refine lv_icmp_ge (tgt := 84) hx hb dX3_encryptBlock_63 (by decide) (fun hc_63 => ?_) (fun hc_63 => ?_)
                  · skip
                    have hc_63 := (ix_le (a := 16) (b := v) (by omega) (by omega)).mp hc_63
                    have hc_63 : (16 ≤ v) := hc_63
                    exfalso; omega
                  · skip
                    have hc_63 := (not_congr (ix_le (a := 16) (b := v) (by omega) (by omega))).mp hc_63
                    have hc_63 : ¬ (16 ≤ v) := hc_63
                    refine lv_aload_n hx hb dX3_encryptBlock_66 rfl (lv_at hl 2 rfl) ?_
                    refine va_get (D := (dC, dI)) (ci := 3) (v := .ref qb) (C := RX3) (T := TX3) (N := 18) hx hb hta inX3 hown hK hP 2 rfl rfl 6 (by decide) (hta _ mw_463) (fun _ h9 => h9) rfl dX3_encryptBlock_67 ?_
                    refine lv_iload_n hx hb dX3_encryptBlock_70 rfl (lv_at hl 0 rfl) ?_
                    refine lv_aload_n hx hb dX3_encryptBlock_71 rfl (lv_at hl 2 rfl) ?_
                    refine va_get (D := (dC, dI)) (ci := 3) (v := .ref qn) (C := RX3) (T := TX3) (N := 18) hx hb hta inX3 hown hK hP 2 rfl rfl 7 (by decide) (hta _ mw_464) (fun _ h9 => h9) rfl dX3_encryptBlock_72 ?_
                    refine lv_iload_n hx hb dX3_encryptBlock_75 rfl (lv_at hl 0 rfl) ?_
                    refine va_ialb hx hb hK hP 1 3 rfl rfl (by omega) (by decide) dX3_encryptBlock_76 ?_
                    refine va_iasb hx hb hK hP hD hS 4 2 rfl rfl (by omega) (by decide) dX3_encryptBlock_77 (fun H locs hP hD hS => ?_)
                    have hP : va_P (dC, dI) vwCl [(qx, .inl (kx, 256, .inl (nF sb))), (qn, .inl (kn, 16, .inl (nF (ssN sb (erN sb w b k))))), (o, .inr (3, [.int th, .int (nI ph), .int (zI og), .ref qx, .ref qk, .ref qw, .ref qb, .ref qn, .long mh, .long ml, .long nc, .int rs, .int (nI na), .ref qd, .int (nI nz), .ref qg, .long t1, .long t2])), (qw, .inl (kw, 44, .inl w)), (qb, .inl (kb, 16, .inl (nF (un (fl (ssN sb (erN sb w b k)) (erN sb w b k) v) v ((ssN sb (erN sb w b k)) v)))))] H := hP
                    have hD : va_D A [(qx, .inl (kx, 256, .inl (nF sb))), (qn, .inl (kn, 16, .inl (nF (ssN sb (erN sb w b k))))), (o, .inr (3, [.int th, .int (nI ph), .int (zI og), .ref qx, .ref qk, .ref qw, .ref qb, .ref qn, .long mh, .long ml, .long nc, .int rs, .int (nI na), .ref qd, .int (nI nz), .ref qg, .long t1, .long t2])), (qw, .inl (kw, 44, .inl w)), (qb, .inl (kb, 16, .inl (nF (un (fl (ssN sb (erN sb w b k)) (erN sb w b k) v) v ((ssN sb (erN sb w b k)) v)))))] := hD
                    refine lv_iinc (v := nI (v + 1)) (k := 0) hx hb dX3_encryptBlock_78 hl rfl (ix_inc _ 1) (by decide) rfl (fun ls hl => ?_)
                    have hl : lv_has ls 3 [(2, .int (nI (v + 1))), (1, .int (nI (k + 1))), (0, .ref o)] := hl
                    refine lv_goto (tgt := 60) hx hb dX3_encryptBlock_81 (by decide) ?_
                    obtain ⟨hP, hD⟩ := va_recb (g := fl (ssN sb (erN sb w b k)) (erN sb w b k) (v + 1)) hP hD 4 rfl (fun i _ => fl_s (ssN sb (erN sb w b k)) (erN sb w b k) v i)
                    have hP : va_P (dC, dI) vwCl [(qx, .inl (kx, 256, .inl (nF sb))), (qn, .inl (kn, 16, .inl (nF (ssN sb (erN sb w b k))))), (o, .inr (3, [.int th, .int (nI ph), .int (zI og), .ref qx, .ref qk, .ref qw, .ref qb, .ref qn, .long mh, .long ml, .long nc, .int rs, .int (nI na), .ref qd, .int (nI nz), .ref qg, .long t1, .long t2])), (qw, .inl (kw, 44, .inl w)), (qb, .inl (kb, 16, .inl (nF (fl (ssN sb (erN sb w b k)) (erN sb w b k) (v + 1)))))] H := hP
                    have hD : va_D A [(qx, .inl (kx, 256, .inl (nF sb))), (qn, .inl (kn, 16, .inl (nF (ssN sb (erN sb w b k))))), (o, .inr (3, [.int th, .int (nI ph), .int (zI og), .ref qx, .ref qk, .ref qw, .ref qb, .ref qn, .long mh, .long ml, .long nc, .int rs, .int (nI na), .ref qd, .int (nI nz), .ref qg, .long t1, .long t2])), (qw, .inl (kw, 44, .inl w)), (qb, .inl (kb, 16, .inl (nF (fl (ssN sb (erN sb w b k)) (erN sb w b k) (v + 1)))))] := hD
                    exact ih (v + 1) ls H locs (by omega)  (lv_sub hl [0, 1, 2] rfl) hP hD hS
              exact loop_60 16 0 ls H locs (by omega)  (lv_sub hl [0, 1, 2] rfl) hP hD hS
            · skip
              have hc_18 := (not_congr (ix_le (a := 16) (b := 16) (by omega) (by omega))).mp hc_18
              have hc_18 : ¬ (16 ≤ 16) := hc_18
              exfalso; omega
          | succ n ih =>
            intro t ls H locs hn_15  hl hP hD hS
            refine lv_iload_n hx hb dX3_encryptBlock_15 rfl (lv_at hl 0 rfl) ?_
            refine lv_bipush (v := nI 16) hx hb dX3_encryptBlock_16 (by decide) ?_
            refine lv_icmp_ge (tgt := 58) hx hb dX3_encryptBlock_18 (by decide) (fun hc_18 => ?_) (fun hc_18 => ?_)
            · skip
              have hc_18 := (ix_le (a := 16) (b := t) (by omega) (by omega)).mp hc_18
              have hc_18 : (16 ≤ t) := hc_18
              exfalso; omega
            · skip
              have hc_18 := (not_congr (ix_le (a := 16) (b := t) (by omega) (by omega))).mp hc_18
              have hc_18 : ¬ (16 ≤ t) := hc_18
              refine lv_aload_n hx hb dX3_encryptBlock_21 rfl (lv_at hl 2 rfl) ?_
              refine va_get (D := (dC, dI)) (ci := 3) (v := .ref qn) (C := RX3) (T := TX3) (N := 18) hx hb hta inX3 hown hK hP 2 rfl rfl 7 (by decide) (hta _ mw_464) (fun _ h9 => h9) rfl dX3_encryptBlock_22 ?_
              refine lv_iload_n hx hb dX3_encryptBlock_25 rfl (lv_at hl 0 rfl) ?_
              refine lv_aload_n hx hb dX3_encryptBlock_26 rfl (lv_at hl 2 rfl) ?_
              refine va_get (D := (dC, dI)) (ci := 3) (v := .ref qx) (C := RX3) (T := TX3) (N := 18) hx hb hta inX3 hown hK hP 2 rfl rfl 3 (by decide) (hta _ mw_460) (fun _ h9 => h9) rfl dX3_encryptBlock_27 ?_
              refine lv_aload_n hx hb dX3_encryptBlock_30 rfl (lv_at hl 2 rfl) ?_
              refine va_get (D := (dC, dI)) (ci := 3) (v := .ref qb) (C := RX3) (T := TX3) (N := 18) hx hb hta inX3 hown hK hP 2 rfl rfl 6 (by decide) (hta _ mw_463) (fun _ h9 => h9) rfl dX3_encryptBlock_31 ?_
              refine lv_iconst (v := nI 4) hx hb dX3_encryptBlock_34 (by decide) ?_
              refine lv_iload_n hx hb dX3_encryptBlock_35 rfl (lv_at hl 0 rfl) ?_
              refine lv_iconst (v := nI 4) hx hb dX3_encryptBlock_36 (by decide) ?_
              refine lv_idiv hx hb dX3_encryptBlock_37 (by decide) (top_i (pk_div (by omega) (by decide) (by decide)) ?_)
              refine w_pc (pc2 := 38) rfl ?_
              refine lv_iload_n hx hb dX3_encryptBlock_38 rfl (lv_at hl 0 rfl) ?_
              refine lv_iconst (v := nI 4) hx hb dX3_encryptBlock_39 (by decide) ?_
              refine lv_irem hx hb dX3_encryptBlock_40 (by decide) (top_i (pk_rem (by omega) (by decide) (by decide)) ?_)
              refine lv_iadd hx hb dX3_encryptBlock_41 (top_i (nI_add _ _) ?_)
              refine lv_iconst (v := nI 4) hx hb dX3_encryptBlock_42 (by decide) ?_
              refine lv_irem hx hb dX3_encryptBlock_43 (by decide) (top_i (pk_rem (by omega) (by decide) (by decide)) ?_)
              refine lv_imul hx hb dX3_encryptBlock_44 (top_i (pk_mul _ _) ?_)
              refine lv_iload_n hx hb dX3_encryptBlock_45 rfl (lv_at hl 0 rfl) ?_
              refine lv_iconst (v := nI 4) hx hb dX3_encryptBlock_46 (by decide) ?_
              refine lv_irem hx hb dX3_encryptBlock_47 (by decide) (top_i (pk_rem (by omega) (by decide) (by decide)) ?_)
              refine lv_iadd hx hb dX3_encryptBlock_48 (top_i (nI_add _ _) ?_)
              refine va_ialb hx hb hK hP 4 2 rfl rfl (sfm_lt t) (by decide) dX3_encryptBlock_49 ?_
              refine top_i (y := nI ((erN sb w b k) (sf t))) (congrArg nI (congrArg (erN sb w b k) (sfm_sf (by omega)))) ?_
              refine w_pc (pc2 := 50) rfl ?_
              refine va_ialb hx hb hK hP 0 0 rfl rfl (erN_lt s256 b256 k _) (by decide) dX3_encryptBlock_50 ?_
              refine va_iasb hx hb hK hP hD hS 1 3 rfl rfl (by omega) (by decide) dX3_encryptBlock_51 (fun H locs hP hD hS => ?_)
              have hP : va_P (dC, dI) vwCl [(qx, .inl (kx, 256, .inl (nF sb))), (qn, .inl (kn, 16, .inl (nF (un (fl (ssN sb (erN sb w b k)) (enN sb w b z k) t) t (sb ((erN sb w b k) (sf t))))))), (o, .inr (3, [.int th, .int (nI ph), .int (zI og), .ref qx, .ref qk, .ref qw, .ref qb, .ref qn, .long mh, .long ml, .long nc, .int rs, .int (nI na), .ref qd, .int (nI nz), .ref qg, .long t1, .long t2])), (qw, .inl (kw, 44, .inl w)), (qb, .inl (kb, 16, .inl (nF (erN sb w b k))))] H := hP
              have hD : va_D A [(qx, .inl (kx, 256, .inl (nF sb))), (qn, .inl (kn, 16, .inl (nF (un (fl (ssN sb (erN sb w b k)) (enN sb w b z k) t) t (sb ((erN sb w b k) (sf t))))))), (o, .inr (3, [.int th, .int (nI ph), .int (zI og), .ref qx, .ref qk, .ref qw, .ref qb, .ref qn, .long mh, .long ml, .long nc, .int rs, .int (nI na), .ref qd, .int (nI nz), .ref qg, .long t1, .long t2])), (qw, .inl (kw, 44, .inl w)), (qb, .inl (kb, 16, .inl (nF (erN sb w b k))))] := hD
              refine lv_iinc (v := nI (t + 1)) (k := 0) hx hb dX3_encryptBlock_52 hl rfl (ix_inc _ 1) (by decide) rfl (fun ls hl => ?_)
              have hl : lv_has ls 3 [(2, .int (nI (t + 1))), (1, .int (nI (k + 1))), (0, .ref o)] := hl
              refine lv_goto (tgt := 15) hx hb dX3_encryptBlock_55 (by decide) ?_
              obtain ⟨hP, hD⟩ := va_recb (g := fl (ssN sb (erN sb w b k)) (enN sb w b z k) (t + 1)) hP hD 1 rfl (fun i _ => fl_s (ssN sb (erN sb w b k)) (enN sb w b z k) t i)
              have hP : va_P (dC, dI) vwCl [(qx, .inl (kx, 256, .inl (nF sb))), (qn, .inl (kn, 16, .inl (nF (fl (ssN sb (erN sb w b k)) (enN sb w b z k) (t + 1))))), (o, .inr (3, [.int th, .int (nI ph), .int (zI og), .ref qx, .ref qk, .ref qw, .ref qb, .ref qn, .long mh, .long ml, .long nc, .int rs, .int (nI na), .ref qd, .int (nI nz), .ref qg, .long t1, .long t2])), (qw, .inl (kw, 44, .inl w)), (qb, .inl (kb, 16, .inl (nF (erN sb w b k))))] H := hP
              have hD : va_D A [(qx, .inl (kx, 256, .inl (nF sb))), (qn, .inl (kn, 16, .inl (nF (fl (ssN sb (erN sb w b k)) (enN sb w b z k) (t + 1))))), (o, .inr (3, [.int th, .int (nI ph), .int (zI og), .ref qx, .ref qk, .ref qw, .ref qb, .ref qn, .long mh, .long ml, .long nc, .int rs, .int (nI na), .ref qd, .int (nI nz), .ref qg, .long t1, .long t2])), (qw, .inl (kw, 44, .inl w)), (qb, .inl (kb, 16, .inl (nF (erN sb w b k))))] := hD
              exact ih (t + 1) ls H locs (by omega)  (lv_sub hl [0, 1, 2] rfl) hP hD hS
        exact loop_15 16 0 ls H locs (by omega)  (lv_sub hl [0, 1, 2] rfl) hP hD hS
  exact loop_7 10 0 ls H locs (by omega)  (lv_sub hl [0, 1] rfl) hP hD hS

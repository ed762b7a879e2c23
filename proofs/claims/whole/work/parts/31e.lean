def rm_m_decryptBlock : Room := { frames := 2, cells := 0, slots := 0, locals := 50 }
set_option maxHeartbeats 4000000 in
set_option maxRecDepth 100000 in
/-- decryptBlock() -/
theorem m_decryptBlock (l : Launch) (dC : Nat → ClassId) (dI : Nat → Nat → Nat) (o : Nat) (th : Int32) (ph : Nat) (og : Bool) (qx : Nat) (qk : Nat) (qw : Nat) (qb : Nat) (qn : Nat) (mh : Int64) (ml : Int64) (nc : Int64) (rs : Int32) (na : Nat) (qd : Nat) (nz : Nat) (qg : Nat) (t1 : Int64) (t2 : Int64) (kk : ClassId) (kw : ClassId) (kb : ClassId) (kn : ClassId) (ub : Nat → Nat) (w : Nat → Int32) (b : Nat → Nat) (z : Nat → Nat) (u256 : ∀ i, ub i < 256) (b256 : ∀ i, b i < 256) : MO l dC dI yX3_decryptBlock wsX3_decryptBlock rm_m_decryptBlock [.ref o] [(o, .inr (3, [.int th, .int (nI ph), .int (zI og), .ref qx, .ref qk, .ref qw, .ref qb, .ref qn, .long mh, .long ml, .long nc, .int rs, .int (nI na), .ref qd, .int (nI nz), .ref qg, .long t1, .long t2])), (qk, .inl (kk, 256, .inl (nF ub))), (qw, .inl (kw, 44, .inl w)), (qb, .inl (kb, 16, .inl (nF b))), (qn, .inl (kn, 16, .inl (nF z)))] [(kk, .int), (kw, .int), (kb, .int), (kn, .int)] [(o, .inr (3, [.int th, .int (nI ph), .int (zI og), .ref qx, .ref qk, .ref qw, .ref qb, .ref qn, .long mh, .long ml, .long nc, .int rs, .int (nI na), .ref qd, .int (nI nz), .ref qg, .long t1, .long t2])), (qk, .inl (kk, 256, .inl (nF ub))), (qw, .inl (kw, 44, .inl w)), (qb, .inl (kb, 16, .inl (nF (akN w 0 (drN ub w b 10))))), (qn, .inl (kn, 16, .inl (nF (drN ub w b 10))))] none := by
  refine mo_ofW (cc := cX3_decryptBlock) (maxL := 3) (ret := none) (by decide) rfl (Nat.le_of_ble_eq_true rfl) ?_
  intro p e s m args below meth c Q A H locs ls hx hb hr hlk hml hta hown hin hE hQ hAe hA hK hP hD hS hl
  have hown : s.vm.findClass RX3 = some m.cls := hown
  have hl : lv_has ls 3 [(0, .ref o)] := hl
  refine lv_bipush (v := nI 10) hx hb dX3_decryptBlock_0 (by decide) ?_
  refine lv_istore_n hx hb dX3_decryptBlock_2 rfl hl (by decide) rfl (fun ls hl => ?_)
  have hl : lv_has ls 3 [(1, .int (nI 10)), (0, .ref o)] := hl
  obtain ⟨hP, hD⟩ := va_recb (g := drN ub w b 0) hP hD 3 rfl (fun i _ => rfl)
  have hP : va_P (dC, dI) vwCl [(o, .inr (3, [.int th, .int (nI ph), .int (zI og), .ref qx, .ref qk, .ref qw, .ref qb, .ref qn, .long mh, .long ml, .long nc, .int rs, .int (nI na), .ref qd, .int (nI nz), .ref qg, .long t1, .long t2])), (qk, .inl (kk, 256, .inl (nF ub))), (qw, .inl (kw, 44, .inl w)), (qb, .inl (kb, 16, .inl (nF (drN ub w b 0)))), (qn, .inl (kn, 16, .inl (nF z)))] H := hP
  have hD : va_D A [(o, .inr (3, [.int th, .int (nI ph), .int (zI og), .ref qx, .ref qk, .ref qw, .ref qb, .ref qn, .long mh, .long ml, .long nc, .int rs, .int (nI na), .ref qd, .int (nI nz), .ref qg, .long t1, .long t2])), (qk, .inl (kk, 256, .inl (nF ub))), (qw, .inl (kw, 44, .inl w)), (qb, .inl (kb, 16, .inl (nF (drN ub w b 0)))), (qn, .inl (kn, 16, .inl (nF z)))] := hD
  obtain ⟨hP, hD⟩ := va_recb (g := dnN ub w b z 0) hP hD 4 rfl (fun i _ => rfl)
  have hP : va_P (dC, dI) vwCl [(o, .inr (3, [.int th, .int (nI ph), .int (zI og), .ref qx, .ref qk, .ref qw, .ref qb, .ref qn, .long mh, .long ml, .long nc, .int rs, .int (nI na), .ref qd, .int (nI nz), .ref qg, .long t1, .long t2])), (qk, .inl (kk, 256, .inl (nF ub))), (qw, .inl (kw, 44, .inl w)), (qb, .inl (kb, 16, .inl (nF (drN ub w b 0)))), (qn, .inl (kn, 16, .inl (nF (dnN ub w b z 0))))] H := hP
  have hD : va_D A [(o, .inr (3, [.int th, .int (nI ph), .int (zI og), .ref qx, .ref qk, .ref qw, .ref qb, .ref qn, .long mh, .long ml, .long nc, .int rs, .int (nI na), .ref qd, .int (nI nz), .ref qg, .long t1, .long t2])), (qk, .inl (kk, 256, .inl (nF ub))), (qw, .inl (kw, 44, .inl w)), (qb, .inl (kb, 16, .inl (nF (drN ub w b 0)))), (qn, .inl (kn, 16, .inl (nF (dnN ub w b z 0))))] := hD
  have loop_3 : ∀ (n k : Nat) (ls : Array Slot) (H : Heap) (locs : List Loc), k + n = 10 → lv_has ls 3 [(1, .int (nI (10 - k))), (0, .ref o)] → va_P (dC, dI) vwCl [(o, .inr (3, [.int th, .int (nI ph), .int (zI og), .ref qx, .ref qk, .ref qw, .ref qb, .ref qn, .long mh, .long ml, .long nc, .int rs, .int (nI na), .ref qd, .int (nI nz), .ref qg, .long t1, .long t2])), (qk, .inl (kk, 256, .inl (nF ub))), (qw, .inl (kw, 44, .inl w)), (qb, .inl (kb, 16, .inl (nF (drN ub w b k)))), (qn, .inl (kn, 16, .inl (nF (dnN ub w b z k))))] H → va_D A [(o, .inr (3, [.int th, .int (nI ph), .int (zI og), .ref qx, .ref qk, .ref qw, .ref qb, .ref qn, .long mh, .long ml, .long nc, .int rs, .int (nI na), .ref qd, .int (nI nz), .ref qg, .long t1, .long t2])), (qk, .inl (kk, 256, .inl (nF ub))), (qw, .inl (kw, 44, .inl w)), (qb, .inl (kb, 16, .inl (nF (drN ub w b k)))), (qn, .inl (kn, 16, .inl (nF (dnN ub w b z k))))] → va_S A s.heap H locs → W p l e rm_m_decryptBlock s m args below meth c H locs 0 0 Q (F0 m 3 ls []) := by
    intro n
    induction n with
    | zero =>
      intro k ls H locs hn_3  hl hP hD hS
      obtain rfl : 10 = k := by omega
      obtain ⟨hP, hD⟩ := va_recb (g := drN ub w b 10) hP hD 4 rfl (fun i _ => rfl)
      have hP : va_P (dC, dI) vwCl [(o, .inr (3, [.int th, .int (nI ph), .int (zI og), .ref qx, .ref qk, .ref qw, .ref qb, .ref qn, .long mh, .long ml, .long nc, .int rs, .int (nI na), .ref qd, .int (nI nz), .ref qg, .long t1, .long t2])), (qk, .inl (kk, 256, .inl (nF ub))), (qw, .inl (kw, 44, .inl w)), (qb, .inl (kb, 16, .inl (nF (drN ub w b 10)))), (qn, .inl (kn, 16, .inl (nF (drN ub w b 10))))] H := hP
      have hD : va_D A [(o, .inr (3, [.int th, .int (nI ph), .int (zI og), .ref qx, .ref qk, .ref qw, .ref qb, .ref qn, .long mh, .long ml, .long nc, .int rs, .int (nI na), .ref qd, .int (nI nz), .ref qg, .long t1, .long t2])), (qk, .inl (kk, 256, .inl (nF ub))), (qw, .inl (kw, 44, .inl w)), (qb, .inl (kb, 16, .inl (nF (drN ub w b 10)))), (qn, .inl (kn, 16, .inl (nF (drN ub w b 10))))] := hD
      refine lv_iload_n hx hb dX3_decryptBlock_3 rfl (lv_at hl 0 rfl) ?_
      refine lv_if_le (tgt := 107) hx hb dX3_decryptBlock_4 (by decide) (fun hc_4 => ?_) (fun hc_4 => ?_)
      · skip
        have hc_4 := (ix_le (a := 10 - 10) (b := 0) (by omega) (by omega)).mp hc_4
        have hc_4 : ((10 - 10) ≤ 0) := hc_4
        refine lv_aload_n hx hb dX3_decryptBlock_107 rfl (lv_at hl 1 rfl) ?_
        refine lv_iconst (v := nI 0) hx hb dX3_decryptBlock_108 (by decide) ?_
        refine cf_0 (wr := [(qk, .inl (kk, 256, .inl (nF ub))), (qn, .inl (kn, 16, .inl (nF (drN ub w b 10))))]) (va_runV (As := [.int (nI 0)]) (rest := []) ⟨hx, hb, hml, hown, hta⟩ (MO.to (m_addWords l dC dI o th ph og qx qk qw qb qn mh ml nc rs na qd nz qg t1 t2 kw kb w (drN ub w b 10) 0 (by omega)) H.size) (cwV 1 hta (aw_V mw_544 mw_541 mw_543 mw_s24 mw_5) rfl rfl rfl ⟨rfl, dyX3_addWords⟩ ⟨(Nat.le_of_ble_eq_true rfl), (Nat.le_of_ble_eq_true rfl)⟩) (pr_V hP hD hK hE [0, 2, 3] [1, 2] (by decide) rfl rfl rfl rfl) rfl rfl hl.1 rfl (lv_room (Nat.le_of_ble_eq_true rfl)) dX3_decryptBlock_109 ⟨(Nat.le_of_ble_eq_true rfl), (Nat.le_of_ble_eq_true rfl)⟩) hP hD hS hA [0, 2, 3] [1, 4] rfl rfl (by decide) (by decide) (fun H locs hP hD hS => ?_)
        have hP : va_P (dC, dI) vwCl [(qk, .inl (kk, 256, .inl (nF ub))), (qn, .inl (kn, 16, .inl (nF (drN ub w b 10)))), (o, .inr (3, [.int th, .int (nI ph), .int (zI og), .ref qx, .ref qk, .ref qw, .ref qb, .ref qn, .long mh, .long ml, .long nc, .int rs, .int (nI na), .ref qd, .int (nI nz), .ref qg, .long t1, .long t2])), (qw, .inl (kw, 44, .inl w)), (qb, .inl (kb, 16, .inl (nF (akN w 0 (drN ub w b 10)))))] H := hP
        have hD : va_D A [(qk, .inl (kk, 256, .inl (nF ub))), (qn, .inl (kn, 16, .inl (nF (drN ub w b 10)))), (o, .inr (3, [.int th, .int (nI ph), .int (zI og), .ref qx, .ref qk, .ref qw, .ref qb, .ref qn, .long mh, .long ml, .long nc, .int rs, .int (nI na), .ref qd, .int (nI nz), .ref qg, .long t1, .long t2])), (qw, .inl (kw, 44, .inl w)), (qb, .inl (kb, 16, .inl (nF (akN w 0 (drN ub w b 10)))))] := hD
        refine W.widen (k := 0) (n := 0) (Nat.le_of_ble_eq_true rfl) (Nat.le_of_ble_eq_true rfl) ?_
        refine w_pc (pc2 := 112) rfl ?_
        exact rt_0 hx hb hr hlk hQ hAe hP hD hS [2, 0, 3, 4, 1] (by decide) rfl (Nat.le_of_ble_eq_true rfl) (Nat.le_of_ble_eq_true rfl) dX3_decryptBlock_112
      · skip
        have hc_4 := (not_congr (ix_le (a := 10 - 10) (b := 0) (by omega) (by omega))).mp hc_4
        have hc_4 : ¬ ((10 - 10) ≤ 0) := hc_4
        exfalso; omega
    | succ n ih =>
      intro k ls H locs hn_3  hl hP hD hS
      refine lv_iload_n hx hb dX3_decryptBlock_3 rfl (lv_at hl 0 rfl) ?_
      refine lv_if_le (tgt := 107) hx hb dX3_decryptBlock_4 (by decide) (fun hc_4 => ?_) (fun hc_4 => ?_)
      · skip
        have hc_4 := (ix_le (a := 10 - k) (b := 0) (by omega) (by omega)).mp hc_4
        have hc_4 : ((10 - k) ≤ 0) := hc_4
        exfalso; omega
      · skip
        have hc_4 := (not_congr (ix_le (a := 10 - k) (b := 0) (by omega) (by omega))).mp hc_4
        have hc_4 : ¬ ((10 - k) ≤ 0) := hc_4
        refine lv_aload_n hx hb dX3_decryptBlock_7 rfl (lv_at hl 1 rfl) ?_
        refine lv_iload_n hx hb dX3_decryptBlock_8 rfl (lv_at hl 0 rfl) ?_
        refine cf_0 (wr := [(qk, .inl (kk, 256, .inl (nF ub))), (qn, .inl (kn, 16, .inl (nF (dnN ub w b z k))))]) (va_runV (As := [.int (nI (10 - k))]) (rest := []) ⟨hx, hb, hml, hown, hta⟩ (MO.to (m_addWords l dC dI o th ph og qx qk qw qb qn mh ml nc rs na qd nz qg t1 t2 kw kb w (drN ub w b k) (10 - k) (by omega)) H.size) (cwV 1 hta (aw_V mw_544 mw_541 mw_543 mw_s24 mw_5) rfl rfl rfl ⟨rfl, dyX3_addWords⟩ ⟨(Nat.le_of_ble_eq_true rfl), (Nat.le_of_ble_eq_true rfl)⟩) (pr_V hP hD hK hE [0, 2, 3] [1, 2] (by decide) rfl rfl rfl rfl) rfl rfl hl.1 rfl (lv_room (Nat.le_of_ble_eq_true rfl)) dX3_decryptBlock_9 ⟨(Nat.le_of_ble_eq_true rfl), (Nat.le_of_ble_eq_true rfl)⟩) hP hD hS hA [0, 2, 3] [1, 4] rfl rfl (by decide) (by decide) (fun H locs hP hD hS => ?_)
        have hP : va_P (dC, dI) vwCl [(qk, .inl (kk, 256, .inl (nF ub))), (qn, .inl (kn, 16, .inl (nF (dnN ub w b z k)))), (o, .inr (3, [.int th, .int (nI ph), .int (zI og), .ref qx, .ref qk, .ref qw, .ref qb, .ref qn, .long mh, .long ml, .long nc, .int rs, .int (nI na), .ref qd, .int (nI nz), .ref qg, .long t1, .long t2])), (qw, .inl (kw, 44, .inl w)), (qb, .inl (kb, 16, .inl (nF (akN w (10 - k) (drN ub w b k)))))] H := hP
        have hD : va_D A [(qk, .inl (kk, 256, .inl (nF ub))), (qn, .inl (kn, 16, .inl (nF (dnN ub w b z k)))), (o, .inr (3, [.int th, .int (nI ph), .int (zI og), .ref qx, .ref qk, .ref qw, .ref qb, .ref qn, .long mh, .long ml, .long nc, .int rs, .int (nI na), .ref qd, .int (nI nz), .ref qg, .long t1, .long t2])), (qw, .inl (kw, 44, .inl w)), (qb, .inl (kb, 16, .inl (nF (akN w (10 - k) (drN ub w b k)))))] := hD
        refine W.widen (k := 0) (n := 0) (Nat.le_of_ble_eq_true rfl) (Nat.le_of_ble_eq_true rfl) ?_
        refine w_pc (pc2 := 12) rfl ?_
        refine lv_iload_n hx hb dX3_decryptBlock_12 rfl (lv_at hl 0 rfl) ?_
        refine lv_bipush (v := nI 10) hx hb dX3_decryptBlock_13 (by decide) ?_
        refine lv_icmp_ge (tgt := 30) hx hb dX3_decryptBlock_15 (by decide) (fun hc_15 => ?_) (fun hc_15 => ?_)
        · skip
          have hc_15 := (ix_le (a := 10) (b := 10 - k) (by omega) (by omega)).mp hc_15
          have hc_15 : (10 ≤ (10 - k)) := hc_15
          refine lv_iconst (v := nI 0) hx hb dX3_decryptBlock_30 (by decide) ?_
          refine lv_istore_n hx hb dX3_decryptBlock_31 rfl hl (by decide) rfl (fun ls hl => ?_)
          have hl : lv_has ls 3 [(2, .int (nI 0)), (1, .int (nI (10 - k))), (0, .ref o)] := hl
          obtain ⟨hP, hD⟩ := va_recb (g := (umN w k (drN ub w b k))) hP hD 4 rfl (fun i _ => congrFun (umN_e (by omega)) i)
          have hP : va_P (dC, dI) vwCl [(qk, .inl (kk, 256, .inl (nF ub))), (qn, .inl (kn, 16, .inl (nF (dnN ub w b z k)))), (o, .inr (3, [.int th, .int (nI ph), .int (zI og), .ref qx, .ref qk, .ref qw, .ref qb, .ref qn, .long mh, .long ml, .long nc, .int rs, .int (nI na), .ref qd, .int (nI nz), .ref qg, .long t1, .long t2])), (qw, .inl (kw, 44, .inl w)), (qb, .inl (kb, 16, .inl (nF (umN w k (drN ub w b k)))))] H := hP
          have hD : va_D A [(qk, .inl (kk, 256, .inl (nF ub))), (qn, .inl (kn, 16, .inl (nF (dnN ub w b z k)))), (o, .inr (3, [.int th, .int (nI ph), .int (zI og), .ref qx, .ref qk, .ref qw, .ref qb, .ref qn, .long mh, .long ml, .long nc, .int rs, .int (nI na), .ref qd, .int (nI nz), .ref qg, .long t1, .long t2])), (qw, .inl (kw, 44, .inl w)), (qb, .inl (kb, 16, .inl (nF (umN w k (drN ub w b k)))))] := hD
          obtain ⟨hP, hD⟩ := va_recb (g := uqN ub (umN w k (drN ub w b k)) (dnN ub w b z k) 0) hP hD 1 rfl (fun i _ => uqN_0 _ _ _ i)
          have hP : va_P (dC, dI) vwCl [(qk, .inl (kk, 256, .inl (nF ub))), (qn, .inl (kn, 16, .inl (nF (uqN ub (umN w k (drN ub w b k)) (dnN ub w b z k) 0)))), (o, .inr (3, [.int th, .int (nI ph), .int (zI og), .ref qx, .ref qk, .ref qw, .ref qb, .ref qn, .long mh, .long ml, .long nc, .int rs, .int (nI na), .ref qd, .int (nI nz), .ref qg, .long t1, .long t2])), (qw, .inl (kw, 44, .inl w)), (qb, .inl (kb, 16, .inl (nF (umN w k (drN ub w b k)))))] H := hP
          have hD : va_D A [(qk, .inl (kk, 256, .inl (nF ub))), (qn, .inl (kn, 16, .inl (nF (uqN ub (umN w k (drN ub w b k)) (dnN ub w b z k) 0)))), (o, .inr (3, [.int th, .int (nI ph), .int (zI og), .ref qx, .ref qk, .ref qw, .ref qb, .ref qn, .long mh, .long ml, .long nc, .int rs, .int (nI na), .ref qd, .int (nI nz), .ref qg, .long t1, .long t2])), (qw, .inl (kw, 44, .inl w)), (qb, .inl (kb, 16, .inl (nF (umN w k (drN ub w b k)))))] := hD
          have loop_32 : ∀ (n t : Nat) (ls : Array Slot) (H : Heap) (locs : List Loc), t + n = 16 → lv_has ls 3 [(2, .int (nI t)), (1, .int (nI (10 - k))), (0, .ref o)] → va_P (dC, dI) vwCl [(qk, .inl (kk, 256, .inl (nF ub))), (qn, .inl (kn, 16, .inl (nF (uqN ub (umN w k (drN ub w b k)) (dnN ub w b z k) t)))), (o, .inr (3, [.int th, .int (nI ph), .int (zI og), .ref qx, .ref qk, .ref qw, .ref qb, .ref qn, .long mh, .long ml, .long nc, .int rs, .int (nI na), .ref qd, .int (nI nz), .ref qg, .long t1, .long t2])), (qw, .inl (kw, 44, .inl w)), (qb, .inl (kb, 16, .inl (nF (umN w k (drN ub w b k)))))] H → va_D A [(qk, .inl (kk, 256, .inl (nF ub))), (qn, .inl (kn, 16, .inl (nF (uqN ub (umN w k (drN ub w b k)) (dnN ub w b z k) t)))), (o, .inr (3, [.int th, .int (nI ph), .int (zI og), .ref qx, .ref qk, .ref qw, .ref qb, .ref qn, .long mh, .long ml, .long nc, .int rs, .int (nI na), .ref qd, .int (nI nz), .ref qg, .long t1, .long t2])), (qw, .inl (kw, 44, .inl w)), (qb, .inl (kb, 16, .inl (nF (umN w k (drN ub w b k)))))] → va_S A s.heap H locs → W p l e rm_m_decryptBlock s m args below meth c H locs 0 0 Q (F0 m 32 ls []) := by
            intro n
            induction n with
            | zero =>
              intro t ls H locs hn_32  hl hP hD hS
              obtain rfl : 16 = t := by omega
              obtain ⟨hP, hD⟩ := va_recb (g := usN ub (umN w k (drN ub w b k))) hP hD 1 rfl (fun i _ => uqN_16 _ _ _ i)
              have hP : va_P (dC, dI) vwCl [(qk, .inl (kk, 256, .inl (nF ub))), (qn, .inl (kn, 16, .inl (nF (usN ub (umN w k (drN ub w b k)))))), (o, .inr (3, [.int th, .int (nI ph), .int (zI og), .ref qx, .ref qk, .ref qw, .ref qb, .ref qn, .long mh, .long ml, .long nc, .int rs, .int (nI na), .ref qd, .int (nI nz), .ref qg, .long t1, .long t2])), (qw, .inl (kw, 44, .inl w)), (qb, .inl (kb, 16, .inl (nF (umN w k (drN ub w b k)))))] H := hP
              have hD : va_D A [(qk, .inl (kk, 256, .inl (nF ub))), (qn, .inl (kn, 16, .inl (nF (usN ub (umN w k (drN ub w b k)))))), (o, .inr (3, [.int th, .int (nI ph), .int (zI og), .ref qx, .ref qk, .ref qw, .ref qb, .ref qn, .long mh, .long ml, .long nc, .int rs, .int (nI na), .ref qd, .int (nI nz), .ref qg, .long t1, .long t2])), (qw, .inl (kw, 44, .inl w)), (qb, .inl (kb, 16, .inl (nF (umN w k (drN ub w b k)))))] := hD
              refine lv_iload_n hx hb dX3_decryptBlock_32 rfl (lv_at hl 0 rfl) ?_
              refine lv_bipush (v := nI 16) hx hb dX3_decryptBlock_33 (by decide) ?_
              refine lv_icmp_ge (tgt := 75) hx hb dX3_decryptBlock_35 (by decide) (fun hc_35 => ?_) (fun hc_35 => ?_)
              · skip
                have hc_35 := (ix_le (a := 16) (b := 16) (by omega) (by omega)).mp hc_35
                have hc_35 : (16 ≤ 16) := hc_35
                refine lv_iconst (v := nI 0) hx hb dX3_decryptBlock_75 (by decide) ?_
                refine lv_istore_n hx hb dX3_decryptBlock_76 rfl hl (by decide) rfl (fun ls hl => ?_)
                have hl : lv_has ls 3 [(2, .int (nI 0)), (1, .int (nI (10 - k))), (0, .ref o)] := hl
                obtain ⟨hP, hD⟩ := va_recb (g := fl (usN ub (umN w k (drN ub w b k))) (umN w k (drN ub w b k)) 0) hP hD 4 rfl (fun i _ => fl_0 _ _ i)
                have hP : va_P (dC, dI) vwCl [(qk, .inl (kk, 256, .inl (nF ub))), (qn, .inl (kn, 16, .inl (nF (usN ub (umN w k (drN ub w b k)))))), (o, .inr (3, [.int th, .int (nI ph), .int (zI og), .ref qx, .ref qk, .ref qw, .ref qb, .ref qn, .long mh, .long ml, .long nc, .int rs, .int (nI na), .ref qd, .int (nI nz), .ref qg, .long t1, .long t2])), (qw, .inl (kw, 44, .inl w)), (qb, .inl (kb, 16, .inl (nF (fl (usN ub (umN w k (drN ub w b k))) (umN w k (drN ub w b k)) 0))))] H := hP
                have hD : va_D A [(qk, .inl (kk, 256, .inl (nF ub))), (qn, .inl (kn, 16, .inl (nF (usN ub (umN w k (drN ub w b k)))))), (o, .inr (3, [.int th, .int (nI ph), .int (zI og), .ref qx, .ref qk, .ref qw, .ref qb, .ref qn, .long mh, .long ml, .long nc, .int rs, .int (nI na), .ref qd, .int (nI nz), .ref qg, .long t1, .long t2])), (qw, .inl (kw, 44, .inl w)), (qb, .inl (kb, 16, .inl (nF (fl (usN ub (umN w k (drN ub w b k))) (umN w k (drN ub w b k)) 0))))] := hD
                have loop_77 : ∀ (n v : Nat) (ls : Array Slot) (H : Heap) (locs : List Loc), v + n = 16 → lv_has ls 3 [(2, .int (nI v)), (1, .int (nI (10 - k))), (0, .ref o)] → va_P (dC, dI) vwCl [(qk, .inl (kk, 256, .inl (nF ub))), (qn, .inl (kn, 16, .inl (nF (usN ub (umN w k (drN ub w b k)))))), (o, .inr (3, [.int th, .int (nI ph), .int (zI og), .ref qx, .ref qk, .ref qw, .ref qb, .ref qn, .long mh, .long ml, .long nc, .int rs, .int (nI na), .ref qd, .int (nI nz), .ref qg, .long t1, .long t2])), (qw, .inl (kw, 44, .inl w)), (qb, .inl (kb, 16, .inl (nF (fl (usN ub (umN w k (drN ub w b k))) (umN w k (drN ub w b k)) v))))] H → va_D A [(qk, .inl (kk, 256, .inl (nF ub))), (qn, .inl (kn, 16, .inl (nF (usN ub (umN w k (drN ub w b k)))))), (o, .inr (3, [.int th, .int (nI ph), .int (zI og), .ref qx, .ref qk, .ref qw, .ref qb, .ref qn, .long mh, .long ml, .long nc, .int rs, .int (nI na), .ref qd, .int (nI nz), .ref qg, .long t1, .long t2])), (qw, .inl (kw, 44, .inl w)), (qb, .inl (kb, 16, .inl (nF (fl (usN ub (umN w k (drN ub w b k))) (umN w k (drN ub w b k)) v))))] → va_S A s.heap H locs → W p l e rm_m_decryptBlock s m args below meth c H locs 0 0 Q (F0 m 77 ls []) := by
                  intro n
                  induction n with
                  | zero =>
                    intro v ls H locs hn_77  hl hP hD hS
                    obtain rfl : 16 = v := by omega
                    obtain ⟨hP, hD⟩ := va_recb (g := usN ub (umN w k (drN ub w b k))) hP hD 4 rfl (fun i hi9 => fl_n _ _ 16 i hi9)
                    have hP : va_P (dC, dI) vwCl [(qk, .inl (kk, 256, .inl (nF ub))), (qn, .inl (kn, 16, .inl (nF (usN ub (umN w k (drN ub w b k)))))), (o, .inr (3, [.int th, .int (nI ph), .int (zI og), .ref qx, .ref qk, .ref qw, .ref qb, .ref qn, .long mh, .long ml, .long nc, .int rs, .int (nI na), .ref qd, .int (nI nz), .ref qg, .long t1, .long t2])), (qw, .inl (kw, 44, .inl w)), (qb, .inl (kb, 16, .inl (nF (usN ub (umN w k (drN ub w b k))))))] H := hP
                    have hD : va_D A [(qk, .inl (kk, 256, .inl (nF ub))), (qn, .inl (kn, 16, .inl (nF (usN ub (umN w k (drN ub w b k)))))), (o, .inr (3, [.int th, .int (nI ph), .int (zI og), .ref qx, .ref qk, .ref qw, .ref qb, .ref qn, .long mh, .long ml, .long nc, .int rs, .int (nI na), .ref qd, .int (nI nz), .ref qg, .long t1, .long t2])), (qw, .inl (kw, 44, .inl w)), (qb, .inl (kb, 16, .inl (nF (usN ub (umN w k (drN ub w b k))))))] := hD
                    refine lv_iload_n hx hb dX3_decryptBlock_77 rfl (lv_at hl 0 rfl) ?_
                    refine lv_bipush (v := nI 16) hx hb dX3_decryptBlock_78 (by decide) ?_
                    refine lv_icmp_ge (tgt := 101) hx hb dX3_decryptBlock_80 (by decide) (fun hc_80 => ?_) (fun hc_80 => ?_)
                    · skip
                      have hc_80 := (ix_le (a := 16) (b := 16) (by omega) (by omega)).mp hc_80
                      have hc_80 : (16 ≤ 16) := hc_80
                      refine lv_iinc (v := nI (10 - (k + 1))) (k := 1) hx hb dX3_decryptBlock_101 hl rfl ((ix_dec (by omega)).trans (congrArg nI (by omega))) (by decide) rfl (fun ls hl => ?_)
                      have hl : lv_has ls 3 [(1, .int (nI (10 - (k + 1)))), (2, .int (nI 16)), (0, .ref o)] := hl
                      refine lv_goto (tgt := 3) hx hb dX3_decryptBlock_104 (by decide) ?_
                      obtain ⟨hP, hD⟩ := va_recb (g := drN ub w b (k + 1)) hP hD 4 rfl (fun i _ => rfl)
                      have hP : va_P (dC, dI) vwCl [(qk, .inl (kk, 256, .inl (nF ub))), (qn, .inl (kn, 16, .inl (nF (usN ub (umN w k (drN ub w b k)))))), (o, .inr (3, [.int th, .int (nI ph), .int (zI og), .ref qx, .ref qk, .ref qw, .ref qb, .ref qn, .long mh, .long ml, .long nc, .int rs, .int (nI na), .ref qd, .int (nI nz), .ref qg, .long t1, .long t2])), (qw, .inl (kw, 44, .inl w)), (qb, .inl (kb, 16, .inl (nF (drN ub w b (k + 1)))))] H := hP
                      have hD : va_D A [(qk, .inl (kk, 256, .inl (nF ub))), (qn, .inl (kn, 16, .inl (nF (usN ub (umN w k (drN ub w b k)))))), (o, .inr (3, [.int th, .int (nI ph), .int (zI og), .ref qx, .ref qk, .ref qw, .ref qb, .ref qn, .long mh, .long ml, .long nc, .int rs, .int (nI na), .ref qd, .int (nI nz), .ref qg, .long t1, .long t2])), (qw, .inl (kw, 44, .inl w)), (qb, .inl (kb, 16, .inl (nF (drN ub w b (k + 1)))))] := hD
                      obtain ⟨hP, hD⟩ := va_recb (g := dnN ub w b z (k + 1)) hP hD 1 rfl (fun i _ => rfl)
                      have hP : va_P (dC, dI) vwCl [(qk, .inl (kk, 256, .inl (nF ub))), (qn, .inl (kn, 16, .inl (nF (dnN ub w b z (k + 1))))), (o, .inr (3, [.int th, .int (nI ph), .int (zI og), .ref qx, .ref qk, .ref qw, .ref qb, .ref qn, .long mh, .long ml, .long nc, .int rs, .int (nI na), .ref qd, .int (nI nz), .ref qg, .long t1, .long t2])), (qw, .inl (kw, 44, .inl w)), (qb, .inl (kb, 16, .inl (nF (drN ub w b (k + 1)))))] H := hP
                      have hD : va_D A [(qk, .inl (kk, 256, .inl (nF ub))), (qn, .inl (kn, 16, .inl (nF (dnN ub w b z (k + 1))))), (o, .inr (3, [.int th, .int (nI ph), .int (zI og), .ref qx, .ref qk, .ref qw, .ref qb, .ref qn, .long mh, .long ml, .long nc, .int rs, .int (nI na), .ref qd, .int (nI nz), .ref qg, .long t1, .long t2])), (qw, .inl (kw, 44, .inl w)), (qb, .inl (kb, 16, .inl (nF (drN ub w b (k + 1)))))] := hD
                      exact ih (k + 1) ls H locs (by omega)  (lv_sub hl [0, 2] rfl) (hP.sub [2, 0, 3, 4, 1] rfl) (hD.sub [2, 0, 3, 4, 1] (by decide) rfl) hS
                    · skip
                      have hc_80 := (not_congr (ix_le (a := 16) (b := 16) (by omega) (by omega))).mp hc_80
                      have hc_80 : ¬ (16 ≤ 16) := hc_80
                      exfalso; omega
                  | succ n ih =>
                    intro v ls H locs hn_77  hl hP hD hS
                    refine lv_iload_n hx hb dX3_decryptBlock_77 rfl (lv_at hl 0 rfl) ?_
                    refine lv_bipush (v := nI 16) hx hb dX3_decryptBlock_78 (by decide) ?_
                    refine lv_icmp_ge (tgt := 101) hx hb dX3_decryptBlock_80 (by decide) (fun hc_80 => ?_) (fun hc_80 => ?_)
                    · skip
                      have hc_80 := (ix_le (a := 16) (b := v) (by omega) (by omega)).mp hc_80
                      have hc_80 : (16 ≤ v) := hc_80
                      exfalso; omega
                    · skip
                      have hc_80 := (not_congr (ix_le (a := 16) (b := v) (by omega) (by omega))).mp hc_80
                      have hc_80 : ¬ (16 ≤ v) := hc_80
                      refine lv_aload_n hx hb dX3_decryptBlock_83 rfl (lv_at hl 2 rfl) ?_
                      refine va_get (D := (dC, dI)) (ci := 3) (v := .ref qb) (C := RX3) (T := TX3) (N := 18) hx hb hta inX3 hown hK hP 2 rfl rfl 6 (by decide) (hta _ mw_463) (fun _ h9 => h9) rfl dX3_decryptBlock_84 ?_
                      refine lv_iload_n hx hb dX3_decryptBlock_87 rfl (lv_at hl 0 rfl) ?_
                      refine lv_aload_n hx hb dX3_decryptBlock_88 rfl (lv_at hl 2 rfl) ?_
                      refine va_get (D := (dC, dI)) (ci := 3) (v := .ref qn) (C := RX3) (T := TX3) (N := 18) hx hb hta inX3 hown hK hP 2 rfl rfl 7 (by decide) (hta _ mw_464) (fun _ h9 => h9) rfl dX3_decryptBlock_89 ?_
                      refine lv_iload_n hx hb dX3_decryptBlock_92 rfl (lv_at hl 0 rfl) ?_
                      refine va_ialb hx hb hK hP 1 3 rfl rfl (by omega) (by decide) dX3_decryptBlock_93 ?_
                      refine va_iasb hx hb hK hP hD hS 4 2 rfl rfl (by omega) (by decide) dX3_decryptBlock_94 (fun H locs hP hD hS => ?_)
                      have hP : va_P (dC, dI) vwCl [(qk, .inl (kk, 256, .inl (nF ub))), (qn, .inl (kn, 16, .inl (nF (usN ub (umN w k (drN ub w b k)))))), (o, .inr (3, [.int th, .int (nI ph), .int (zI og), .ref qx, .ref qk, .ref qw, .ref qb, .ref qn, .long mh, .long ml, .long nc, .int rs, .int (nI na), .ref qd, .int (nI nz), .ref qg, .long t1, .long t2])), (qw, .inl (kw, 44, .inl w)), (qb, .inl (kb, 16, .inl (nF (un (fl (usN ub (umN w k (drN ub w b k))) (umN w k (drN ub w b k)) v) v ((usN ub (umN w k (drN ub w b k))) v)))))] H := hP
                      have hD : va_D A [(qk, .inl (kk, 256, .inl (nF ub))), (qn, .inl (kn, 16, .inl (nF (usN ub (umN w k (drN ub w b k)))))), (o, .inr (3, [.int th, .int (nI ph), .int (zI og), .ref qx, .ref qk, .ref qw, .ref qb, .ref qn, .long mh, .long ml, .long nc, .int rs, .int (nI na), .ref qd, .int (nI nz), .ref qg, .long t1, .long t2])), (qw, .inl (kw, 44, .inl w)), (qb, .inl (kb, 16, .inl (nF (un (fl (usN ub (umN w k (drN ub w b k))) (umN w k (drN ub w b k)) v) v ((usN ub (umN w k (drN ub w b k))) v)))))] := hD
                      refine lv_iinc (v := nI (v + 1)) (k := 0) hx hb dX3_decryptBlock_95 hl rfl (ix_inc _ 1) (by decide) rfl (fun ls hl => ?_)
                      have hl : lv_has ls 3 [(2, .int (nI (v + 1))), (1, .int (nI (10 - k))), (0, .ref o)] := hl
                      refine lv_goto (tgt := 77) hx hb dX3_decryptBlock_98 (by decide) ?_
                      obtain ⟨hP, hD⟩ := va_recb (g := fl (usN ub (umN w k (drN ub w b k))) (umN w k (drN ub w b k)) (v + 1)) hP hD 4 rfl (fun i _ => fl_s (usN ub (umN w k (drN ub w b k))) (umN w k (drN ub w b k)) v i)
                      have hP : va_P (dC, dI) vwCl [(qk, .inl (kk, 256, .inl (nF ub))), (qn, .inl (kn, 16, .inl (nF (usN ub (umN w k (drN ub w b k)))))), (o, .inr (3, [.int th, .int (nI ph), .int (zI og), .ref qx, .ref qk, .ref qw, .ref qb, .ref qn, .long mh, .long ml, .long nc, .int rs, .int (nI na), .ref qd, .int (nI nz), .ref qg, .long t1, .long t2])), (qw, .inl (kw, 44, .inl w)), (qb, .inl (kb, 16, .inl (nF (fl (usN ub (umN w k (drN ub w b k))) (umN w k (drN ub w b k)) (v + 1)))))] H := hP
                      have hD : va_D A [(qk, .inl (kk, 256, .inl (nF ub))), (qn, .inl (kn, 16, .inl (nF (usN ub (umN w k (drN ub w b k)))))), (o, .inr (3, [.int th, .int (nI ph), .int (zI og), .ref qx, .ref qk, .ref qw, .ref qb, .ref qn, .long mh, .long ml, .long nc, .int rs, .int (nI na), .ref qd, .int (nI nz), .ref qg, .long t1, .long t2])), (qw, .inl (kw, 44, .inl w)), (qb, .inl (kb, 16, .inl (nF (fl (usN ub (umN w k (drN ub w b k))) (umN w k (drN ub w b k)) (v + 1)))))] := hD
                      exact ih (v + 1) ls H locs (by omega)  (lv_sub hl [0, 1, 2] rfl) hP hD hS
                exact loop_77 16 0 ls H locs (by omega)  (lv_sub hl [0, 1, 2] rfl) hP hD hS
              · skip
                have hc_35 := (not_congr (ix_le (a := 16) (b := 16) (by omega) (by omega))).mp hc_35
                have hc_35 : ¬ (16 ≤ 16) := hc_35
                exfalso; omega
            | succ n ih =>
              intro t ls H locs hn_32  hl hP hD hS
              refine lv_iload_n hx hb dX3_decryptBlock_32 rfl (lv_at hl 0 rfl) ?_
              refine lv_bipush (v := nI 16) hx hb dX3_decryptBlock_33 (by decide) ?_
              refine lv_icmp_ge (tgt := 75) hx hb dX3_decryptBlock_35 (by decide) (fun hc_35 => ?_) (fun hc_35 => ?_)
              · skip
                have hc_35 := (ix_le (a := 16) (b := t) (by omega) (by omega)).mp hc_35
                have hc_35 : (16 ≤ t) := hc_35
                exfalso; omega
              · skip
                have hc_35 := (not_congr (ix_le (a := 16) (b := t) (by omega) (by omega))).mp hc_35
                have hc_35 : ¬ (16 ≤ t) := hc_35
                refine lv_aload_n hx hb dX3_decryptBlock_38 rfl (lv_at hl 2 rfl) ?_
                refine va_get (D := (dC, dI)) (ci := 3) (v := .ref qn) (C := RX3) (T := TX3) (N := 18) hx hb hta inX3 hown hK hP 2 rfl rfl 7 (by decide) (hta _ mw_464) (fun _ h9 => h9) rfl dX3_decryptBlock_39 ?_
                refine lv_iconst (v := nI 4) hx hb dX3_decryptBlock_42 (by decide) ?_
                refine lv_iload_n hx hb dX3_decryptBlock_43 rfl (lv_at hl 0 rfl) ?_
                refine lv_iconst (v := nI 4) hx hb dX3_decryptBlock_44 (by decide) ?_
                refine lv_idiv hx hb dX3_decryptBlock_45 (by decide) (top_i (pk_div (by omega) (by decide) (by decide)) ?_)
                refine lv_iload_n hx hb dX3_decryptBlock_46 rfl (lv_at hl 0 rfl) ?_
                refine lv_iconst (v := nI 4) hx hb dX3_decryptBlock_47 (by decide) ?_
                refine lv_irem hx hb dX3_decryptBlock_48 (by decide) (top_i (pk_rem (by omega) (by decide) (by decide)) ?_)
                refine lv_iadd hx hb dX3_decryptBlock_49 (top_i (nI_add _ _) ?_)
                refine lv_iconst (v := nI 4) hx hb dX3_decryptBlock_50 (by decide) ?_
                refine w_pc (pc2 := 51) rfl ?_
                refine lv_irem hx hb dX3_decryptBlock_51 (by decide) (top_i (pk_rem (by omega) (by decide) (by decide)) ?_)
                refine lv_imul hx hb dX3_decryptBlock_52 (top_i (pk_mul _ _) ?_)
                refine lv_iload_n hx hb dX3_decryptBlock_53 rfl (lv_at hl 0 rfl) ?_
                refine lv_iconst (v := nI 4) hx hb dX3_decryptBlock_54 (by decide) ?_
                refine lv_irem hx hb dX3_decryptBlock_55 (by decide) (top_i (pk_rem (by omega) (by decide) (by decide)) ?_)
                refine lv_iadd hx hb dX3_decryptBlock_56 (top_i (nI_add _ _) ?_)
                refine lv_aload_n hx hb dX3_decryptBlock_57 rfl (lv_at hl 2 rfl) ?_
                refine va_get (D := (dC, dI)) (ci := 3) (v := .ref qk) (C := RX3) (T := TX3) (N := 18) hx hb hta inX3 hown hK hP 2 rfl rfl 4 (by decide) (hta _ mw_461) (fun _ h9 => h9) rfl dX3_decryptBlock_58 ?_
                refine lv_aload_n hx hb dX3_decryptBlock_61 rfl (lv_at hl 2 rfl) ?_
                refine va_get (D := (dC, dI)) (ci := 3) (v := .ref qb) (C := RX3) (T := TX3) (N := 18) hx hb hta inX3 hown hK hP 2 rfl rfl 6 (by decide) (hta _ mw_463) (fun _ h9 => h9) rfl dX3_decryptBlock_62 ?_
                refine lv_iload_n hx hb dX3_decryptBlock_65 rfl (lv_at hl 0 rfl) ?_
                refine va_ialb hx hb hK hP 4 2 rfl rfl (by omega) (by decide) dX3_decryptBlock_66 ?_
                refine w_pc (pc2 := 67) rfl ?_
                refine va_ialb hx hb hK hP 0 0 rfl rfl (umN_lt (drN_lt u256 b256 k) _) (by decide) dX3_decryptBlock_67 ?_
                refine va_iasb hx hb hK hP hD hS 1 3 rfl rfl (sfm_lt t) (by decide) dX3_decryptBlock_68 (fun H locs hP hD hS => ?_)
                have hP : va_P (dC, dI) vwCl [(qk, .inl (kk, 256, .inl (nF ub))), (qn, .inl (kn, 16, .inl (nF (un (uqN ub (umN w k (drN ub w b k)) (dnN ub w b z k) t) ((4 * (((t / 4) + (t % 4)) % 4)) + (t % 4)) (ub ((umN w k (drN ub w b k)) t)))))), (o, .inr (3, [.int th, .int (nI ph), .int (zI og), .ref qx, .ref qk, .ref qw, .ref qb, .ref qn, .long mh, .long ml, .long nc, .int rs, .int (nI na), .ref qd, .int (nI nz), .ref qg, .long t1, .long t2])), (qw, .inl (kw, 44, .inl w)), (qb, .inl (kb, 16, .inl (nF (umN w k (drN ub w b k)))))] H := hP
                have hD : va_D A [(qk, .inl (kk, 256, .inl (nF ub))), (qn, .inl (kn, 16, .inl (nF (un (uqN ub (umN w k (drN ub w b k)) (dnN ub w b z k) t) ((4 * (((t / 4) + (t % 4)) % 4)) + (t % 4)) (ub ((umN w k (drN ub w b k)) t)))))), (o, .inr (3, [.int th, .int (nI ph), .int (zI og), .ref qx, .ref qk, .ref qw, .ref qb, .ref qn, .long mh, .long ml, .long nc, .int rs, .int (nI na), .ref qd, .int (nI nz), .ref qg, .long t1, .long t2])), (qw, .inl (kw, 44, .inl w)), (qb, .inl (kb, 16, .inl (nF (umN w k (drN ub w b k)))))] := hD
                refine lv_iinc (v := nI (t + 1)) (k := 0) hx hb dX3_decryptBlock_69 hl rfl (ix_inc _ 1) (by decide) rfl (fun ls hl => ?_)
                have hl : lv_has ls 3 [(2, .int (nI (t + 1))), (1, .int (nI (10 - k))), (0, .ref o)] := hl
                refine lv_goto (tgt := 32) hx hb dX3_decryptBlock_72 (by decide) ?_
                obtain ⟨hP, hD⟩ := va_recb (g := uqN ub (umN w k (drN ub w b k)) (dnN ub w b z k) (t + 1)) hP hD 1 rfl (fun i hi9 => uqN_s ub (umN w k (drN ub w b k)) (dnN ub w b z k) t (by omega) i hi9)
                have hP : va_P (dC, dI) vwCl [(qk, .inl (kk, 256, .inl (nF ub))), (qn, .inl (kn, 16, .inl (nF (uqN ub (umN w k (drN ub w b k)) (dnN ub w b z k) (t + 1))))), (o, .inr (3, [.int th, .int (nI ph), .int (zI og), .ref qx, .ref qk, .ref qw, .ref qb, .ref qn, .long mh, .long ml, .long nc, .int rs, .int (nI na), .ref qd, .int (nI nz), .ref qg, .long t1, .long t2])), (qw, .inl (kw, 44, .inl w)), (qb, .inl (kb, 16, .inl (nF (umN w k (drN ub w b k)))))] H := hP
                have hD : va_D A [(qk, .inl (kk, 256, .inl (nF ub))), (qn, .inl (kn, 16, .inl (nF (uqN ub (umN w k (drN ub w b k)) (dnN ub w b z k) (t + 1))))), (o, .inr (3, [.int th, .int (nI ph), .int (zI og), .ref qx, .ref qk, .ref qw, .ref qb, .ref qn, .long mh, .long ml, .long nc, .int rs, .int (nI na), .ref qd, .int (nI nz), .ref qg, .long t1, .long t2])), (qw, .inl (kw, 44, .inl w)), (qb, .inl (kb, 16, .inl (nF (umN w k (drN ub w b k)))))] := hD
                exact ih (t + 1) ls H locs (by omega)  (lv_sub hl [0, 1, 2] rfl) hP hD hS
          exact loop_32 16 0 ls H locs (by omega)  (lv_sub hl [0, 1, 2] rfl) hP hD hS
        · skip
          have hc_15 := (not_congr (ix_le (a := 10) (b := 10 - k) (by omega) (by omega))).mp hc_15
          have hc_15 : ¬ (10 ≤ (10 - k)) := hc_15
          refine lv_aload_n hx hb dX3_decryptBlock_18 rfl (lv_at hl 1 rfl) ?_
          refine lv_bipush (v := nI 14) hx hb dX3_decryptBlock_19 (by decide) ?_
          refine lv_bipush (v := nI 11) hx hb dX3_decryptBlock_21 (by decide) ?_
          refine lv_bipush (v := nI 13) hx hb dX3_decryptBlock_23 (by decide) ?_
          refine lv_bipush (v := nI 9) hx hb dX3_decryptBlock_25 (by decide) ?_
          refine cf_0 (wr := [(qk, .inl (kk, 256, .inl (nF ub))), (qw, .inl (kw, 44, .inl w))]) (va_runV (As := [.int (nI 14), .int (nI 11), .int (nI 13), .int (nI 9)]) (rest := []) ⟨hx, hb, hml, hown, hta⟩ (MO.to (m_mix l dC dI o th ph og qx qk qw qb qn mh ml nc rs na qd nz qg t1 t2 kb kn (akN w (10 - k) (drN ub w b k)) (dnN ub w b z k) 14 11 13 9 (akN_lt (drN_lt u256 b256 k)) (by decide) (by decide) (by decide) (by decide)) H.size) (cwV 4 hta (aw_V mw_548 mw_545 mw_547 mw_s25 mw_5) rfl rfl rfl ⟨rfl, dyX3_mix⟩ ⟨(Nat.le_of_ble_eq_true rfl), (Nat.le_of_ble_eq_true rfl)⟩) (pr_V hP hD hK hE [2, 4, 1] [2, 3] (by decide) rfl rfl rfl rfl) rfl rfl hl.1 rfl (lv_room (Nat.le_of_ble_eq_true rfl)) dX3_decryptBlock_27 ⟨(Nat.le_of_ble_eq_true rfl), (Nat.le_of_ble_eq_true rfl)⟩) hP hD hS hA [2, 4, 1] [0, 3] rfl rfl (by decide) (by decide) (fun H locs hP hD hS => ?_)
          have hP : va_P (dC, dI) vwCl [(qk, .inl (kk, 256, .inl (nF ub))), (qw, .inl (kw, 44, .inl w)), (o, .inr (3, [.int th, .int (nI ph), .int (zI og), .ref qx, .ref qk, .ref qw, .ref qb, .ref qn, .long mh, .long ml, .long nc, .int rs, .int (nI na), .ref qd, .int (nI nz), .ref qg, .long t1, .long t2])), (qb, .inl (kb, 16, .inl (nF (mmN 14 11 13 9 (akN w (10 - k) (drN ub w b k)))))), (qn, .inl (kn, 16, .inl (nF (mmN 14 11 13 9 (akN w (10 - k) (drN ub w b k))))))] H := hP
          have hD : va_D A [(qk, .inl (kk, 256, .inl (nF ub))), (qw, .inl (kw, 44, .inl w)), (o, .inr (3, [.int th, .int (nI ph), .int (zI og), .ref qx, .ref qk, .ref qw, .ref qb, .ref qn, .long mh, .long ml, .long nc, .int rs, .int (nI na), .ref qd, .int (nI nz), .ref qg, .long t1, .long t2])), (qb, .inl (kb, 16, .inl (nF (mmN 14 11 13 9 (akN w (10 - k) (drN ub w b k)))))), (qn, .inl (kn, 16, .inl (nF (mmN 14 11 13 9 (akN w (10 - k) (drN ub w b k))))))] := hD
          refine W.widen (k := 0) (n := 0) (Nat.le_of_ble_eq_true rfl) (Nat.le_of_ble_eq_true rfl) ?_
          obtain ⟨hP, hD⟩ := va_recb (g := mixN (mixN (mixN (akN w (10 - k) (drN ub w b k))))) hP hD 3 rfl (fun i _ => mm_unmix (akN_lt (drN_lt u256 b256 k)) i)
          have hP : va_P (dC, dI) vwCl [(qk, .inl (kk, 256, .inl (nF ub))), (qw, .inl (kw, 44, .inl w)), (o, .inr (3, [.int th, .int (nI ph), .int (zI og), .ref qx, .ref qk, .ref qw, .ref qb, .ref qn, .long mh, .long ml, .long nc, .int rs, .int (nI na), .ref qd, .int (nI nz), .ref qg, .long t1, .long t2])), (qb, .inl (kb, 16, .inl (nF (mixN (mixN (mixN (akN w (10 - k) (drN ub w b k)))))))), (qn, .inl (kn, 16, .inl (nF (mmN 14 11 13 9 (akN w (10 - k) (drN ub w b k))))))] H := hP
          have hD : va_D A [(qk, .inl (kk, 256, .inl (nF ub))), (qw, .inl (kw, 44, .inl w)), (o, .inr (3, [.int th, .int (nI ph), .int (zI og), .ref qx, .ref qk, .ref qw, .ref qb, .ref qn, .long mh, .long ml, .long nc, .int rs, .int (nI na), .ref qd, .int (nI nz), .ref qg, .long t1, .long t2])), (qb, .inl (kb, 16, .inl (nF (mixN (mixN (mixN (akN w (10 - k) (drN ub w b k)))))))), (qn, .inl (kn, 16, .inl (nF (mmN 14 11 13 9 (akN w (10 - k) (drN ub w b k))))))] := hD
          refine w_pc (pc2 := 30) rfl ?_
          refine lv_iconst (v := nI 0) hx hb dX3_decryptBlock_30 (by decide) ?_
          refine lv_istore_n hx hb dX3_decryptBlock_31 rfl hl (by decide) rfl (fun ls hl => ?_)
          have hl : lv_has ls 3 [(2, .int (nI 0)), (1, .int (nI (10 - k))), (0, .ref o)] := hl
          obtain ⟨hP, hD⟩ := va_recb (g := (umN w k (drN ub w b k))) hP hD 3 rfl (fun i _ => congrFun (umN_m (by omega)) i)
          have hP : va_P (dC, dI) vwCl [(qk, .inl (kk, 256, .inl (nF ub))), (qw, .inl (kw, 44, .inl w)), (o, .inr (3, [.int th, .int (nI ph), .int (zI og), .ref qx, .ref qk, .ref qw, .ref qb, .ref qn, .long mh, .long ml, .long nc, .int rs, .int (nI na), .ref qd, .int (nI nz), .ref qg, .long t1, .long t2])), (qb, .inl (kb, 16, .inl (nF (umN w k (drN ub w b k))))), (qn, .inl (kn, 16, .inl (nF (mmN 14 11 13 9 (akN w (10 - k) (drN ub w b k))))))] H := hP
          have hD : va_D A [(qk, .inl (kk, 256, .inl (nF ub))), (qw, .inl (kw, 44, .inl w)), (o, .inr (3, [.int th, .int (nI ph), .int (zI og), .ref qx, .ref qk, .ref qw, .ref qb, .ref qn, .long mh, .long ml, .long nc, .int rs, .int (nI na), .ref qd, .int (nI nz), .ref qg, .long t1, .long t2])), (qb, .inl (kb, 16, .inl (nF (umN w k (drN ub w b k))))), (qn, .inl (kn, 16, .inl (nF (mmN 14 11 13 9 (akN w (10 - k) (drN ub w b k))))))] := hD
          obtain ⟨hP, hD⟩ := va_recb (g := uqN ub (umN w k (drN ub w b k)) (mmN 14 11 13 9 (akN w (10 - k) (drN ub w b k))) 0) hP hD 4 rfl (fun i _ => uqN_0 _ _ _ i)
          have hP : va_P (dC, dI) vwCl [(qk, .inl (kk, 256, .inl (nF ub))), (qw, .inl (kw, 44, .inl w)), (o, .inr (3, [.int th, .int (nI ph), .int (zI og), .ref qx, .ref qk, .ref qw, .ref qb, .ref qn, .long mh, .long ml, .long nc, .int rs, .int (nI na), .ref qd, .int (nI nz), .ref qg, .long t1, .long t2])), (qb, .inl (kb, 16, .inl (nF (umN w k (drN ub w b k))))), (qn, .inl (kn, 16, .inl (nF (uqN ub (umN w k (drN ub w b k)) (mmN 14 11 13 9 (akN w (10 - k) (drN ub w b k))) 0))))] H := hP
          have hD : va_D A [(qk, .inl (kk, 256, .inl (nF ub))), (qw, .inl (kw, 44, .inl w)), (o, .inr (3, [.int th, .int (nI ph), .int (zI og), .ref qx, .ref qk, .ref qw, .ref qb, .ref qn, .long mh, .long ml, .long nc, .int rs, .int (nI na), .ref qd, .int (nI nz), .ref qg, .long t1, .long t2])), (qb, .inl (kb, 16, .inl (nF (umN w k (drN ub w b k))))), (qn, .inl (kn, 16, .inl (nF (uqN ub (umN w k (drN ub w b k)) (mmN 14 11 13 9 (akN w (10 - k) (drN ub w b k))) 0))))] := hD
          have loop_32 : ∀ (n t : Nat) (ls : Array Slot) (H : Heap) (locs : List Loc), t + n = 16 → lv_has ls 3 [(2, .int (nI t)), (1, .int (nI (10 - k))), (0, .ref o)] → va_P (dC, dI) vwCl [(qk, .inl (kk, 256, .inl (nF ub))), (qw, .inl (kw, 44, .inl w)), (o, .inr (3, [.int th, .int (nI ph), .int (zI og), .ref qx, .ref qk, .ref qw, .ref qb, .ref qn, .long mh, .long ml, .long nc, .int rs, .int (nI na), .ref qd, .int (nI nz), .ref qg, .long t1, .long t2])), (qb, .inl (kb, 16, .inl (nF (umN w k (drN ub w b k))))), (qn, .inl (kn, 16, .inl (nF (uqN ub (umN w k (drN ub w b k)) (mmN 14 11 13 9 (akN w (10 - k) (drN ub w b k))) t))))] H → va_D A [(qk, .inl (kk, 256, .inl (nF ub))), (qw, .inl (kw, 44, .inl w)), (o, .inr (3, [.int th, .int (nI ph), .int (zI og), .ref qx, .ref qk, .ref qw, .ref qb, .ref qn, .long mh, .long ml, .long nc, .int rs, .int (nI na), .ref qd, .int (nI nz), .ref qg, .long t1, .long t2])), (qb, .inl (kb, 16, .inl (nF (umN w k (drN ub w b k))))), (qn, .inl (kn, 16, .inl (nF (uqN ub (umN w k (drN ub w b k)) (mmN 14 11 13 9 (akN w (10 - k) (drN ub w b k))) t))))] → va_S A s.heap H locs → W p l e rm_m_decryptBlock s m args below meth c H locs 0 0 Q (F0 m 32 ls []) := by
            intro n
            induction n with
            | zero =>
              intro t ls H locs hn_32  hl hP hD hS
              obtain rfl : 16 = t := by omega
              obtain ⟨hP, hD⟩ := va_recb (g := usN ub (umN w k (drN ub w b k))) hP hD 4 rfl (fun i _ => uqN_16 _ _ _ i)
              have hP : va_P (dC, dI) vwCl [(qk, .inl (kk, 256, .inl (nF ub))), (qw, .inl (kw, 44, .inl w)), (o, .inr (3, [.int th, .int (nI ph), .int (zI og), .ref qx, .ref qk, .ref qw, .ref qb, .ref qn, .long mh, .long ml, .long nc, .int rs, .int (nI na), .ref qd, .int (nI nz), .ref qg, .long t1, .long t2])), (qb, .inl (kb, 16, .inl (nF (umN w k (drN ub w b k))))), (qn, .inl (kn, 16, .inl (nF (usN ub (umN w k (drN ub w b k))))))] H := hP
              have hD : va_D A [(qk, .inl (kk, 256, .inl (nF ub))), (qw, .inl (kw, 44, .inl w)), (o, .inr (3, [.int th, .int (nI ph), .int (zI og), .ref qx, .ref qk, .ref qw, .ref qb, .ref qn, .long mh, .long ml, .long nc, .int rs, .int (nI na), .ref qd, .int (nI nz), .ref qg, .long t1, .long t2])), (qb, .inl (kb, 16, .inl (nF (umN w k (drN ub w b k))))), (qn, .inl (kn, 16, .inl (nF (usN ub (umN w k (drN ub w b k))))))] := hD
              refine lv_iload_n hx hb dX3_decryptBlock_32 rfl (lv_at hl 0 rfl) ?_
              refine lv_bipush (v := nI 16) hx hb dX3_decryptBlock_33 (by decide) ?_
              refine lv_icmp_ge (tgt := 75) hx hb dX3_decryptBlock_35 (by decide) (fun hc_35 => ?_) (fun hc_35 => ?_)
              · skip
                have hc_35 := (ix_le (a := 16) (b := 16) (by omega) (by omega)).mp hc_35
                have hc_35 : (16 ≤ 16) := hc_35
                refine lv_iconst (v := nI 0) hx hb dX3_decryptBlock_75 (by decide) ?_
                refine lv_istore_n hx hb dX3_decryptBlock_76 rfl hl (by decide) rfl (fun ls hl => ?_)
                have hl : lv_has ls 3 [(2, .int (nI 0)), (1, .int (nI (10 - k))), (0, .ref o)] := hl
                obtain ⟨hP, hD⟩ := va_recb (g := fl (usN ub (umN w k (drN ub w b k))) (umN w k (drN ub w b k)) 0) hP hD 3 rfl (fun i _ => fl_0 _ _ i)
                have hP : va_P (dC, dI) vwCl [(qk, .inl (kk, 256, .inl (nF ub))), (qw, .inl (kw, 44, .inl w)), (o, .inr (3, [.int th, .int (nI ph), .int (zI og), .ref qx, .ref qk, .ref qw, .ref qb, .ref qn, .long mh, .long ml, .long nc, .int rs, .int (nI na), .ref qd, .int (nI nz), .ref qg, .long t1, .long t2])), (qb, .inl (kb, 16, .inl (nF (fl (usN ub (umN w k (drN ub w b k))) (umN w k (drN ub w b k)) 0)))), (qn, .inl (kn, 16, .inl (nF (usN ub (umN w k (drN ub w b k))))))] H := hP
                have hD : va_D A [(qk, .inl (kk, 256, .inl (nF ub))), (qw, .inl (kw, 44, .inl w)), (o, .inr (3, [.int th, .int (nI ph), .int (zI og), .ref qx, .ref qk, .ref qw, .ref qb, .ref qn, .long mh, .long ml, .long nc, .int rs, .int (nI na), .ref qd, .int (nI nz), .ref qg, .long t1, .long t2])), (qb, .inl (kb, 16, .inl (nF (fl (usN ub (umN w k (drN ub w b k))) (umN w k (drN ub w b k)) 0)))), (qn, .inl (kn, 16, .inl (nF (usN ub (umN w k (drN ub w b k))))))] := hD
                have loop_77 : ∀ (n v : Nat) (ls : Array Slot) (H : Heap) (locs : List Loc), v + n = 16 → lv_has ls 3 [(2, .int (nI v)), (1, .int (nI (10 - k))), (0, .ref o)] → va_P (dC, dI) vwCl [(qk, .inl (kk, 256, .inl (nF ub))), (qw, .inl (kw, 44, .inl w)), (o, .inr (3, [.int th, .int (nI ph), .int (zI og), .ref qx, .ref qk, .ref qw, .ref qb, .ref qn, .long mh, .long ml, .long nc, .int rs, .int (nI na), .ref qd, .int (nI nz), .ref qg, .long t1, .long t2])), (qb, .inl (kb, 16, .inl (nF (fl (usN ub (umN w k (drN ub w b k))) (umN w k (drN ub w b k)) v)))), (qn, .inl (kn, 16, .inl (nF (usN ub (umN w k (drN ub w b k))))))] H → va_D A [(qk, .inl (kk, 256, .inl (nF ub))), (qw, .inl (kw, 44, .inl w)), (o, .inr (3, [.int th, .int (nI ph), .int (zI og), .ref qx, .ref qk, .ref qw, .ref qb, .ref qn, .long mh, .long ml, .long nc, .int rs, .int (nI na), .ref qd, .int (nI nz), .ref qg, .long t1, .long t2])), (qb, .inl (kb, 16, .inl (nF (fl (usN ub (umN w k (drN ub w b k))) (umN w k (drN ub w b k)) v)))), (qn, .inl (kn, 16, .inl (nF (usN ub (umN w k (drN ub w b k))))))] → va_S A s.heap H locs → W p l e rm_m_decryptBlock s m args below meth c H locs 0 0 Q (F0 m 77 ls []) := by
                  intro n
                  induction n with
                  | zero =>
                    intro v ls H locs hn_77  hl hP hD hS
                    obtain rfl : 16 = v := by omega
                    obtain ⟨hP, hD⟩ := va_recb (g := usN ub (umN w k (drN ub w b k))) hP hD 3 rfl (fun i hi9 => fl_n _ _ 16 i hi9)
                    have hP : va_P (dC, dI) vwCl [(qk, .inl (kk, 256, .inl (nF ub))), (qw, .inl (kw, 44, .inl w)), (o, .inr (3, [.int th, .int (nI ph), .int (zI og), .ref qx, .ref qk, .ref qw, .ref qb, .ref qn, .long mh, .long ml, .long nc, .int rs, .int (nI na), .ref qd, .int (nI nz), .ref qg, .long t1, .long t2])), (qb, .inl (kb, 16, .inl (nF (usN ub (umN w k (drN ub w b k)))))), (qn, .inl (kn, 16, .inl (nF (usN ub (umN w k (drN ub w b k))))))] H := hP
                    have hD : va_D A [(qk, .inl (kk, 256, .inl (nF ub))), (qw, .inl (kw, 44, .inl w)), (o, .inr (3, [.int th, .int (nI ph), .int (zI og), .ref qx, .ref qk, .ref qw, .ref qb, .ref qn, .long mh, .long ml, .long nc, .int rs, .int (nI na), .ref qd, .int (nI nz), .ref qg, .long t1, .long t2])), (qb, .inl (kb, 16, .inl (nF (usN ub (umN w k (drN ub w b k)))))), (qn, .inl (kn, 16, .inl (nF (usN ub (umN w k (drN ub w b k))))))] := hD
                    refine lv_iload_n hx hb dX3_decryptBlock_77 rfl (lv_at hl 0 rfl) ?_
                    refine lv_bipush (v := nI 16) hx hb dX3_decryptBlock_78 (by decide) ?_
                    refine lv_icmp_ge (tgt := 101) hx hb dX3_decryptBlock_80 (by decide) (fun hc_80 => ?_) (fun hc_80 => ?_)
                    · skip
                      have hc_80 := (ix_le (a := 16) (b := 16) (by omega) (by omega)).mp hc_80
                      have hc_80 : (16 ≤ 16) := hc_80
                      refine lv_iinc (v := nI (10 - (k + 1))) (k := 1) hx hb dX3_decryptBlock_101 hl rfl ((ix_dec (by omega)).trans (congrArg nI (by omega))) (by decide) rfl (fun ls hl => ?_)
                      have hl : lv_has ls 3 [(1, .int (nI (10 - (k + 1)))), (2, .int (nI 16)), (0, .ref o)] := hl
                      refine lv_goto (tgt := 3) hx hb dX3_decryptBlock_104 (by decide) ?_
                      obtain ⟨hP, hD⟩ := va_recb (g := drN ub w b (k + 1)) hP hD 3 rfl (fun i _ => rfl)
                      have hP : va_P (dC, dI) vwCl [(qk, .inl (kk, 256, .inl (nF ub))), (qw, .inl (kw, 44, .inl w)), (o, .inr (3, [.int th, .int (nI ph), .int (zI og), .ref qx, .ref qk, .ref qw, .ref qb, .ref qn, .long mh, .long ml, .long nc, .int rs, .int (nI na), .ref qd, .int (nI nz), .ref qg, .long t1, .long t2])), (qb, .inl (kb, 16, .inl (nF (drN ub w b (k + 1))))), (qn, .inl (kn, 16, .inl (nF (usN ub (umN w k (drN ub w b k))))))] H := hP
                      have hD : va_D A [(qk, .inl (kk, 256, .inl (nF ub))), (qw, .inl (kw, 44, .inl w)), (o, .inr (3, [.int th, .int (nI ph), .int (zI og), .ref qx, .ref qk, .ref qw, .ref qb, .ref qn, .long mh, .long ml, .long nc, .int rs, .int (nI na), .ref qd, .int (nI nz), .ref qg, .long t1, .long t2])), (qb, .inl (kb, 16, .inl (nF (drN ub w b (k + 1))))), (qn, .inl (kn, 16, .inl (nF (usN ub (umN w k (drN ub w b k))))))] := hD
                      obtain ⟨hP, hD⟩ := va_recb (g := dnN ub w b z (k + 1)) hP hD 4 rfl (fun i _ => rfl)
                      have hP : va_P (dC, dI) vwCl [(qk, .inl (kk, 256, .inl (nF ub))), (qw, .inl (kw, 44, .inl w)), (o, .inr (3, [.int th, .int (nI ph), .int (zI og), .ref qx, .ref qk, .ref qw, .ref qb, .ref qn, .long mh, .long ml, .long nc, .int rs, .int (nI na), .ref qd, .int (nI nz), .ref qg, .long t1, .long t2])), (qb, .inl (kb, 16, .inl (nF (drN ub w b (k + 1))))), (qn, .inl (kn, 16, .inl (nF (dnN ub w b z (k + 1)))))] H := hP
                      have hD : va_D A [(qk, .inl (kk, 256, .inl (nF ub))), (qw, .inl (kw, 44, .inl w)), (o, .inr (3, [.int th, .int (nI ph), .int (zI og), .ref qx, .ref qk, .ref qw, .ref qb, .ref qn, .long mh, .long ml, .long nc, .int rs, .int (nI na), .ref qd, .int (nI nz), .ref qg, .long t1, .long t2])), (qb, .inl (kb, 16, .inl (nF (drN ub w b (k + 1))))), (qn, .inl (kn, 16, .inl (nF (dnN ub w b z (k + 1)))))] := hD
                      exact ih (k + 1) ls H locs (by omega)  (lv_sub hl [0, 2] rfl) (hP.sub [2, 0, 1, 3, 4] rfl) (hD.sub [2, 0, 1, 3, 4] (by decide) rfl) hS
                    · skip
                      have hc_80 := (not_congr (ix_le (a := 16) (b := 16) (by omega) (by omega))).mp hc_80
                      have hc_80 : ¬ (16 ≤ 16) := hc_80
                      exfalso; omega
                  | succ n ih =>
                    intro v ls H locs hn_77  hl hP hD hS
                    refine lv_iload_n hx hb dX3_decryptBlock_77 rfl (lv_at hl 0 rfl) ?_
                    refine lv_bipush (v := nI 16) hx hb dX3_decryptBlock_78 (by decide) ?_
                    refine lv_icmp_ge (tgt := 101) hx hb dX3_decryptBlock_80 (by decide) (fun hc_80 => ?_) (fun hc_80 => ?_)
                    · skip
                      have hc_80 := (ix_le (a := 16) (b := v) (by omega) (by omega)).mp hc_80
                      have hc_80 : (16 ≤ v) := hc_80
                      exfalso; omega
                    · skip
                      have hc_80 := (not_congr (ix_le (a := 16) (b := v) (by omega) (by omega))).mp hc_80
                      have hc_80 : ¬ (16 ≤ v) := hc_80
                      refine lv_aload_n hx hb dX3_decryptBlock_83 rfl (lv_at hl 2 rfl) ?_
                      refine va_get (D := (dC, dI)) (ci := 3) (v := .ref qb) (C := RX3) (T := TX3) (N := 18) hx hb hta inX3 hown hK hP 2 rfl rfl 6 (by decide) (hta _ mw_463) (fun _ h9 => h9) rfl dX3_decryptBlock_84 ?_
                      refine lv_iload_n hx hb dX3_decryptBlock_87 rfl (lv_at hl 0 rfl) ?_
                      refine lv_aload_n hx hb dX3_decryptBlock_88 rfl (lv_at hl 2 rfl) ?_
                      refine va_get (D := (dC, dI)) (ci := 3) (v := .ref qn) (C := RX3) (T := TX3) (N := 18) hx hb hta inX3 hown hK hP 2 rfl rfl 7 (by decide) (hta _ mw_464) (fun _ h9 => h9) rfl dX3_decryptBlock_89 ?_
                      refine lv_iload_n hx hb dX3_decryptBlock_92 rfl (lv_at hl 0 rfl) ?_
                      refine va_ialb hx hb hK hP 4 3 rfl rfl (by omega) (by decide) dX3_decryptBlock_93 ?_
                      refine va_iasb hx hb hK hP hD hS 3 2 rfl rfl (by omega) (by decide) dX3_decryptBlock_94 (fun H locs hP hD hS => ?_)
                      have hP : va_P (dC, dI) vwCl [(qk, .inl (kk, 256, .inl (nF ub))), (qw, .inl (kw, 44, .inl w)), (o, .inr (3, [.int th, .int (nI ph), .int (zI og), .ref qx, .ref qk, .ref qw, .ref qb, .ref qn, .long mh, .long ml, .long nc, .int rs, .int (nI na), .ref qd, .int (nI nz), .ref qg, .long t1, .long t2])), (qb, .inl (kb, 16, .inl (nF (un (fl (usN ub (umN w k (drN ub w b k))) (umN w k (drN ub w b k)) v) v ((usN ub (umN w k (drN ub w b k))) v))))), (qn, .inl (kn, 16, .inl (nF (usN ub (umN w k (drN ub w b k))))))] H := hP
                      have hD : va_D A [(qk, .inl (kk, 256, .inl (nF ub))), (qw, .inl (kw, 44, .inl w)), (o, .inr (3, [.int th, .int (nI ph), .int (zI og), .ref qx, .ref qk, .ref qw, .ref qb, .ref qn, .long mh, .long ml, .long nc, .int rs, .int (nI na), .ref qd, .int (nI nz), .ref qg, .long t1, .long t2])), (qb, .inl (kb, 16, .inl (nF (un (fl (usN ub (umN w k (drN ub w b k))) (umN w k (drN ub w b k)) v) v ((usN ub (umN w k (drN ub w b k))) v))))), (qn, .inl (kn, 16, .inl (nF (usN ub (umN w k (drN ub w b k))))))] := hD
                      refine lv_iinc (v := nI (v + 1)) (k := 0) hx hb dX3_decryptBlock_95 hl rfl (ix_inc _ 1) (by decide) rfl (fun ls hl => ?_)
                      have hl : lv_has ls 3 [(2, .int (nI (v + 1))), (1, .int (nI (10 - k))), (0, .ref o)] := hl
                      refine lv_goto (tgt := 77) hx hb dX3_decryptBlock_98 (by decide) ?_
                      obtain ⟨hP, hD⟩ := va_recb (g := fl (usN ub (umN w k (drN ub w b k))) (umN w k (drN ub w b k)) (v + 1)) hP hD 3 rfl (fun i _ => fl_s (usN ub (umN w k (drN ub w b k))) (umN w k (drN ub w b k)) v i)
                      have hP : va_P (dC, dI) vwCl [(qk, .inl (kk, 256, .inl (nF ub))), (qw, .inl (kw, 44, .inl w)), (o, .inr (3, [.int th, .int (nI ph), .int (zI og), .ref qx, .ref qk, .ref qw, .ref qb, .ref qn, .long mh, .long ml, .long nc, .int rs, .int (nI na), .ref qd, .int (nI nz), .ref qg, .long t1, .long t2])), (qb, .inl (kb, 16, .inl (nF (fl (usN ub (umN w k (drN ub w b k))) (umN w k (drN ub w b k)) (v + 1))))), (qn, .inl (kn, 16, .inl (nF (usN ub (umN w k (drN ub w b k))))))] H := hP
                      have hD : va_D A [(qk, .inl (kk, 256, .inl (nF ub))), (qw, .inl (kw, 44, .inl w)), (o, .inr (3, [.int th, .int (nI ph), .int (zI og), .ref qx, .ref qk, .ref qw, .ref qb, .ref qn, .long mh, .long ml, .long nc, .int rs, .int (nI na), .ref qd, .int (nI nz), .ref qg, .long t1, .long t2])), (qb, .inl (kb, 16, .inl (nF (fl (usN ub (umN w k (drN ub w b k))) (umN w k (drN ub w b k)) (v + 1))))), (qn, .inl (kn, 16, .inl (nF (usN ub (umN w k (drN ub w b k))))))] := hD
                      exact ih (v + 1) ls H locs (by omega)  (lv_sub hl [0, 1, 2] rfl) hP hD hS
                exact loop_77 16 0 ls H locs (by omega)  (lv_sub hl [0, 1, 2] rfl) hP hD hS
              · skip
                have hc_35 := (not_congr (ix_le (a := 16) (b := 16) (by omega) (by omega))).mp hc_35
                have hc_35 : ¬ (16 ≤ 16) := hc_35
                exfalso; omega
            | succ n ih =>
              intro t ls H locs hn_32  hl hP hD hS
              refine lv_iload_n hx hb dX3_decryptBlock_32 rfl (lv_at hl 0 rfl) ?_
              refine lv_bipush (v := nI 16) hx hb dX3_decryptBlock_33 (by decide) ?_
              refine lv_icmp_ge (tgt := 75) hx hb dX3_decryptBlock_35 (by decide) (fun hc_35 => ?_) (fun hc_35 => ?_)
              · skip
                have hc_35 := (ix_le (a := 16) (b := t) (by omega) (by omega)).mp hc_35
                have hc_35 : (16 ≤ t) := hc_35
                exfalso; omega
              · skip
                have hc_35 := (not_congr (ix_le (a := 16) (b := t) (by omega) (by omega))).mp hc_35
                have hc_35 : ¬ (16 ≤ t) := hc_35
                refine lv_aload_n hx hb dX3_decryptBlock_38 rfl (lv_at hl 2 rfl) ?_
                refine va_get (D := (dC, dI)) (ci := 3) (v := .ref qn) (C := RX3) (T := TX3) (N := 18) hx hb hta inX3 hown hK hP 2 rfl rfl 7 (by decide) (hta _ mw_464) (fun _ h9 => h9) rfl dX3_decryptBlock_39 ?_
                refine lv_iconst (v := nI 4) hx hb dX3_decryptBlock_42 (by decide) ?_
                refine lv_iload_n hx hb dX3_decryptBlock_43 rfl (lv_at hl 0 rfl) ?_
                refine lv_iconst (v := nI 4) hx hb dX3_decryptBlock_44 (by decide) ?_
                refine lv_idiv hx hb dX3_decryptBlock_45 (by decide) (top_i (pk_div (by omega) (by decide) (by decide)) ?_)
                refine lv_iload_n hx hb dX3_decryptBlock_46 rfl (lv_at hl 0 rfl) ?_
                refine lv_iconst (v := nI 4) hx hb dX3_decryptBlock_47 (by decide) ?_
                refine lv_irem hx hb dX3_decryptBlock_48 (by decide) (top_i (pk_rem (by omega) (by decide) (by decide)) ?_)
                refine lv_iadd hx hb dX3_decryptBlock_49 (top_i (nI_add _ _) ?_)
                refine lv_iconst (v := nI 4) hx hb dX3_decryptBlock_50 (by decide) ?_
                refine w_pc (pc2 := 51) rfl ?_
                refine lv_irem hx hb dX3_decryptBlock_51 (by decide) (top_i (pk_rem (by omega) (by decide) (by decide)) ?_)
                refine lv_imul hx hb dX3_decryptBlock_52 (top_i (pk_mul _ _) ?_)
                refine lv_iload_n hx hb dX3_decryptBlock_53 rfl (lv_at hl 0 rfl) ?_
                refine lv_iconst (v := nI 4) hx hb dX3_decryptBlock_54 (by decide) ?_
                refine lv_irem hx hb dX3_decryptBlock_55 (by decide) (top_i (pk_rem (by omega) (by decide) (by decide)) ?_)
                refine lv_iadd hx hb dX3_decryptBlock_56 (top_i (nI_add _ _) ?_)
                refine lv_aload_n hx hb dX3_decryptBlock_57 rfl (lv_at hl 2 rfl) ?_
                refine va_get (D := (dC, dI)) (ci := 3) (v := .ref qk) (C := RX3) (T := TX3) (N := 18) hx hb hta inX3 hown hK hP 2 rfl rfl 4 (by decide) (hta _ mw_461) (fun _ h9 => h9) rfl dX3_decryptBlock_58 ?_
                refine lv_aload_n hx hb dX3_decryptBlock_61 rfl (lv_at hl 2 rfl) ?_
                refine va_get (D := (dC, dI)) (ci := 3) (v := .ref qb) (C := RX3) (T := TX3) (N := 18) hx hb hta inX3 hown hK hP 2 rfl rfl 6 (by decide) (hta _ mw_463) (fun _ h9 => h9) rfl dX3_decryptBlock_62 ?_
                refine lv_iload_n hx hb dX3_decryptBlock_65 rfl (lv_at hl 0 rfl) ?_
                refine va_ialb hx hb hK hP 3 2 rfl rfl (by omega) (by decide) dX3_decryptBlock_66 ?_
                refine w_pc (pc2 := 67) rfl ?_
                refine va_ialb hx hb hK hP 0 0 rfl rfl (umN_lt (drN_lt u256 b256 k) _) (by decide) dX3_decryptBlock_67 ?_
                refine va_iasb hx hb hK hP hD hS 4 3 rfl rfl (sfm_lt t) (by decide) dX3_decryptBlock_68 (fun H locs hP hD hS => ?_)
                have hP : va_P (dC, dI) vwCl [(qk, .inl (kk, 256, .inl (nF ub))), (qw, .inl (kw, 44, .inl w)), (o, .inr (3, [.int th, .int (nI ph), .int (zI og), .ref qx, .ref qk, .ref qw, .ref qb, .ref qn, .long mh, .long ml, .long nc, .int rs, .int (nI na), .ref qd, .int (nI nz), .ref qg, .long t1, .long t2])), (qb, .inl (kb, 16, .inl (nF (umN w k (drN ub w b k))))), (qn, .inl (kn, 16, .inl (nF (un (uqN ub (umN w k (drN ub w b k)) (mmN 14 11 13 9 (akN w (10 - k) (drN ub w b k))) t) ((4 * (((t / 4) + (t % 4)) % 4)) + (t % 4)) (ub ((umN w k (drN ub w b k)) t))))))] H := hP
                have hD : va_D A [(qk, .inl (kk, 256, .inl (nF ub))), (qw, .inl (kw, 44, .inl w)), (o, .inr (3, [.int th, .int (nI ph), .int (zI og), .ref qx, .ref qk, .ref qw, .ref qb, .ref qn, .long mh, .long ml, .long nc, .int rs, .int (nI na), .ref qd, .int (nI nz), .ref qg, .long t1, .long t2])), (qb, .inl (kb, 16, .inl (nF (umN w k (drN ub w b k))))), (qn, .inl (kn, 16, .inl (nF (un (uqN ub (umN w k (drN ub w b k)) (mmN 14 11 13 9 (akN w (10 - k) (drN ub w b k))) t) ((4 * (((t / 4) + (t % 4)) % 4)) + (t % 4)) (ub ((umN w k (drN ub w b k)) t))))))] := hD
                refine lv_iinc (v := nI (t + 1)) (k := 0) hx hb dX3_decryptBlock_69 hl rfl (ix_inc _ 1) (by decide) rfl (fun ls hl => ?_)
                have hl : lv_has ls 3 [(2, .int (nI (t + 1))), (1, .int (nI (10 - k))), (0, .ref o)] := hl
                refine lv_goto (tgt := 32) hx hb dX3_decryptBlock_72 (by decide) ?_
                obtain ⟨hP, hD⟩ := va_recb (g := uqN ub (umN w k (drN ub w b k)) (mmN 14 11 13 9 (akN w (10 - k) (drN ub w b k))) (t + 1)) hP hD 4 rfl (fun i hi9 => uqN_s ub (umN w k (drN ub w b k)) (mmN 14 11 13 9 (akN w (10 - k) (drN ub w b k))) t (by omega) i hi9)
                have hP : va_P (dC, dI) vwCl [(qk, .inl (kk, 256, .inl (nF ub))), (qw, .inl (kw, 44, .inl w)), (o, .inr (3, [.int th, .int (nI ph), .int (zI og), .ref qx, .ref qk, .ref qw, .ref qb, .ref qn, .long mh, .long ml, .long nc, .int rs, .int (nI na), .ref qd, .int (nI nz), .ref qg, .long t1, .long t2])), (qb, .inl (kb, 16, .inl (nF (umN w k (drN ub w b k))))), (qn, .inl (kn, 16, .inl (nF (uqN ub (umN w k (drN ub w b k)) (mmN 14 11 13 9 (akN w (10 - k) (drN ub w b k))) (t + 1)))))] H := hP
                have hD : va_D A [(qk, .inl (kk, 256, .inl (nF ub))), (qw, .inl (kw, 44, .inl w)), (o, .inr (3, [.int th, .int (nI ph), .int (zI og), .ref qx, .ref qk, .ref qw, .ref qb, .ref qn, .long mh, .long ml, .long nc, .int rs, .int (nI na), .ref qd, .int (nI nz), .ref qg, .long t1, .long t2])), (qb, .inl (kb, 16, .inl (nF (umN w k (drN ub w b k))))), (qn, .inl (kn, 16, .inl (nF (uqN ub (umN w k (drN ub w b k)) (mmN 14 11 13 9 (akN w (10 - k) (drN ub w b k))) (t + 1)))))] := hD
                exact ih (t + 1) ls H locs (by omega)  (lv_sub hl [0, 1, 2] rfl) hP hD hS
          exact loop_32 16 0 ls H locs (by omega)  (lv_sub hl [0, 1, 2] rfl) hP hD hS
  exact loop_3 10 0 ls H locs (by omega)  (lv_sub hl [0, 1] rfl) hP hD hS

/-! what class and reference hold in common between two calls -/
def tvN (ph : Nat) (og : Bool) (w : Nat → Int32) (nh : Int64) (nr : Int32) (gv : Nat → Nat) (i : Nat) : Nat := if og = true ∧ ph ≠ 4 then gv i else gv i ^^^ mskN SBN w nh nr i
def INV (w : Nat → Int32) (ph : Nat) (og : Bool) (nh : Int64) (nr : Int32) (na pa nt : Nat) (mb : Int32) (mk ab bd tb gv : Nat → Nat) (t1 t2 u1 u2 : Int64) : Prop :=
  ph < 6 ∧ nt ≤ 96 ∧ (∀ i, ab i < 256) ∧ (∀ i, bd i < 256) ∧ (∀ i, tb i < 256) ∧ (∀ i, gv i < 256) ∧
  (ph ≠ 0 → pa = na ∧ na ≤ 48 ∧ (∀ i, i < na → ab i = bd i) ∧ (∀ i, i < nt → tb i = tvN ph og w nh nr gv i) ∧ (∀ t, t < 96 → mb = nI t → ∀ j, j < 16 → mk j = mkN SBN w nh nr (2 + t) j)) ∧
  (ph = 3 → og = false ∧ t1 = u1 ∧ t2 = u2) ∧ (ph = 4 ∨ ph = 5 → og = true)
def lj (x y : Int32) : Int64 := (x.toInt64 <<< ((nI 32).toInt64 &&& 63)) ||| (y.toInt64 &&& lN 4294967295)
theorem ofl_lt {g b : Nat → Nat} {o k : Nat} (hg : ∀ i, g i < 256) (hb : ∀ i, b i < 256) (i : Nat) : ofl g b o k i < 256 := by
  unfold ofl
  split
  · exact hg _
  · exact hb _
theorem fl_lt {g b : Nat → Nat} {k : Nat} (hg : ∀ i, g i < 256) (hb : ∀ i, b i < 256) (i : Nat) : fl g b k i < 256 := by
  unfold fl
  split
  · exact hg _
  · exact hb _
theorem ofl_in {g b : Nat → Nat} {o k i : Nat} (h : o ≤ i) (h2 : i < o + k) : ofl g b o k i = g (i - o) := by
  unfold ofl
  rw [if_pos ⟨h, h2⟩]
theorem ofl_out {g b : Nat → Nat} {o k i : Nat} (h : i < o) : ofl g b o k i = b i := by
  unfold ofl
  rw [if_neg (by omega)]
theorem uw_or {ph : Nat} (h : uwN ph = true) : ph = 1 ∨ ph = 2 := of_decide_eq_true h
theorem uw_no {ph : Nat} (h : uwN ph = false) : ¬ (ph = 1 ∨ ph = 2) := of_decide_eq_false h
theorem iv_key {w w2 : Nat → Int32} {ph : Nat} {og : Bool} {nh : Int64} {nr : Int32} {na pa nt : Nat} {mb : Int32} {mk ab bd tb gv : Nat → Nat} {t1 t2 u1 u2 : Int64} (h : INV w ph og nh nr na pa nt mb mk ab bd tb gv t1 t2 u1 u2) : INV w2 0 og nh nr na 0 0 mb mk ab bd tb gv t1 t2 u1 u2 := by
  obtain ⟨-, -, h3, h4, h5, h6, -, -, -⟩ := h
  exact ⟨by decide, by decide, h3, h4, h5, h6, fun z => absurd rfl z, fun z => absurd z (by decide), fun z => absurd z (by decide)⟩
theorem iv_first : INV (kwN SBN (lN 0) (lN 0)) 0 false (lN 0) (nI 0) 0 0 0 (-1) (fun _ => 0) (fun _ => 0) (fun _ => 0) (fun _ => 0) (fun _ => 0) (lN 0) (lN 0) (lN 0) (lN 0) :=
  ⟨by decide, by decide, fun _ => (by decide : 0 < 256), fun _ => (by decide : 0 < 256), fun _ => (by decide : 0 < 256), fun _ => (by decide : 0 < 256), fun z => absurd rfl z, fun z => absurd z (by decide), fun z => absurd z (by decide)⟩
theorem iv_start {w : Nat → Int32} {ph : Nat} {og o2 : Bool} {nh n2 : Int64} {nr r2 : Int32} {na pa nt : Nat} {mb : Int32} {mk ab bd tb gv : Nat → Nat} {t1 t2 u1 u2 : Int64} (h : INV w ph og nh nr na pa nt mb mk ab bd tb gv t1 t2 u1 u2) : INV w 1 o2 n2 r2 0 0 0 (-1) mk ab bd tb gv t1 t2 u1 u2 := by
  obtain ⟨-, -, h3, h4, h5, h6, -, -, -⟩ := h
  refine ⟨by decide, by decide, h3, h4, h5, h6, fun _ => ⟨rfl, by decide, fun i hi => absurd hi (Nat.not_lt_zero i), fun i hi => absurd hi (Nat.not_lt_zero i), fun t ht he => ?_⟩, fun z => absurd z (by decide), fun z => absurd z (by decide)⟩
  exact absurd he ((by decide +kernel : ∀ t, t < 96 → ¬ (-1 : Int32) = nI t) t ht)
theorem iv_aside {w : Nat → Int32} {ph : Nat} {og : Bool} {nh : Int64} {nr : Int32} {na pa nt : Nat} {mb : Int32} {mk ab bd tb gv : Nat → Nat} {t1 t2 u1 u2 y : Int64} {cn : Nat} (h : INV w ph og nh nr na pa nt mb mk ab bd tb gv t1 t2 u1 u2) (hp : ph = 1) (hc : na + cn ≤ 48) : INV w ph og nh nr (na + cn) (pa + cn) nt mb mk (ofl (pbN y) ab na cn) (ofl (pbN y) bd pa cn) tb gv t1 t2 u1 u2 := by
  obtain ⟨h1, h2, h3, h4, h5, h6, h7, h8, h9⟩ := h
  obtain ⟨e1, e2, e3, e4, e5⟩ := h7 (by omega)
  subst e1
  refine ⟨h1, h2, ofl_lt (pbN_lt y) h3, ofl_lt (pbN_lt y) h4, h5, h6, fun _ => ⟨rfl, hc, fun i hi => ?_, e4, e5⟩, h8, h9⟩
  by_cases hlt : i < pa
  · rw [ofl_out hlt, ofl_out hlt, e3 i hlt]
  · rw [ofl_in (by omega) hi, ofl_in (by omega) hi]
theorem iv_text_s {w : Nat → Int32} {ph : Nat} {og : Bool} {nh : Int64} {nr : Int32} {na pa nt : Nat} {mb : Int32} {mk ab bd tb gv : Nat → Nat} {t1 t2 u1 u2 y : Int64} {cn : Nat} (h : INV w ph og nh nr na pa nt mb mk ab bd tb gv t1 t2 u1 u2) (hp : ph = 1 ∨ ph = 2) (ho : og = true) (hc : nt + cn ≤ 96) : INV w 2 og nh nr na pa (nt + cn) mb mk ab bd (ofl (pbN y) tb nt cn) (ofl (pbN y) gv nt cn) t1 t2 u1 u2 := by
  obtain ⟨h1, h2, h3, h4, h5, h6, h7, h8, h9⟩ := h
  obtain ⟨e1, e2, e3, e4, e5⟩ := h7 (by omega)
  refine ⟨by decide, hc, h3, h4, ofl_lt (pbN_lt y) h5, ofl_lt (pbN_lt y) h6, fun _ => ⟨e1, e2, e3, fun i hi => ?_, e5⟩, fun z => absurd z (by decide), fun z => absurd z (by decide)⟩
  have hv : tvN 2 og w nh nr (ofl (pbN y) gv nt cn) i = ofl (pbN y) gv nt cn i := by
    unfold tvN
    rw [if_pos ⟨ho, by decide⟩]
  rw [hv]
  by_cases hlt : i < nt
  · rw [ofl_out hlt, ofl_out hlt, e4 i hlt]
    unfold tvN
    rw [if_pos ⟨ho, by omega⟩]
  · rw [ofl_in (by omega) hi, ofl_in (by omega) hi]
theorem iv_text_p {w : Nat → Int32} {ph : Nat} {og : Bool} {nh : Int64} {nr : Int32} {na pa nt : Nat} {mb m2 : Int32} {mk k2 ab bd tb gv : Nat → Nat} {t1 t2 u1 u2 y : Int64} {cn : Nat} (h : INV w ph og nh nr na pa nt mb mk ab bd tb gv t1 t2 u1 u2) (hp : ph = 1 ∨ ph = 2) (ho : og = false) (hc : nt + cn ≤ 96) (hm : ∀ t, t < 96 → m2 = nI t → ∀ j, j < 16 → k2 j = mkN SBN w nh nr (2 + t) j) : INV w 2 og nh nr na pa (nt + cn) m2 k2 ab bd (ofl (tpg SBN w nh nr y nt) tb nt cn) (ofl (pbN y) gv nt cn) t1 t2 u1 u2 := by
  obtain ⟨h1, h2, h3, h4, h5, h6, h7, h8, h9⟩ := h
  obtain ⟨e1, e2, e3, e4, e5⟩ := h7 (by omega)
  refine ⟨by decide, hc, h3, h4, ofl_lt (tpg_lt SBN_lt) h5, ofl_lt (pbN_lt y) h6, fun _ => ⟨e1, e2, e3, fun i hi => ?_, hm⟩, fun z => absurd z (by decide), fun z => absurd z (by decide)⟩
  have hv : tvN 2 og w nh nr (ofl (pbN y) gv nt cn) i = ofl (pbN y) gv nt cn i ^^^ mskN SBN w nh nr i := by
    unfold tvN
    rw [if_neg (fun z => by rw [ho] at z; exact absurd z.1 (by decide))]
  rw [hv]
  by_cases hlt : i < nt
  · rw [ofl_out hlt, ofl_out hlt, e4 i hlt]
    unfold tvN
    rw [if_neg (fun z => by rw [ho] at z; exact absurd z.1 (by decide))]
  · rw [ofl_in (by omega) hi, ofl_in (by omega) hi]
    unfold tpg
    rw [show nt + (i - nt) = i by omega]
theorem jbN_ext {b c : Nat → Nat} {fr en : Nat} (h : ∀ i, i < en → b i = c i) : ∀ k, jbN b fr en k = jbN c fr en k
  | 0 => rfl
  | k + 1 => by
    rw [jbN, jbN, jbN_ext h k]
    by_cases hk : fr + k < en
    · rw [if_pos hk, if_pos hk, h _ hk]
    · rw [if_neg hk, if_neg hk]
theorem fgN_ext {b c : Nat → Nat} {cn : Nat} {fh fw : Int64} {y : Int64 × Int64} (h : ∀ i, i < cn → b i = c i) : ∀ k, fgN b cn fh fw y k = fgN c cn fh fw y k
  | 0 => rfl
  | k + 1 => by rw [fgN, fgN, fgN_ext h k, jbN_ext h, jbN_ext h]
theorem tgN_ext {sb : Nat → Nat} {w : Nat → Int32} {nh : Int64} {nr : Int32} {ab bd tb sy : Nat → Nat} {na nt : Nat} (h1 : ∀ i, i < na → ab i = bd i) (h2 : ∀ i, i < nt → tb i = sy i) : tgN sb w nh nr ab na tb nt = tgN sb w nh nr bd na sy nt := by
  unfold tgN tzN tyN
  rw [fgN_ext h1, fgN_ext h2]
/-- the tags of the two sides, while a message is under way -/
theorem tg_eq {w : Nat → Int32} {ph : Nat} {og : Bool} {nh : Int64} {nr : Int32} {na pa nt : Nat} {mb : Int32} {mk ab bd tb gv : Nat → Nat} {t1 t2 u1 u2 : Int64} (h : INV w ph og nh nr na pa nt mb mk ab bd tb gv t1 t2 u1 u2) (hp : ph = 1 ∨ ph = 2) : tgN SBN w nh nr ab na tb nt = tgN SBN w nh nr bd pa (syN og SBN w nh nr gv) nt := by
  obtain ⟨h1, h2, h3, h4, h5, h6, h7, h8, h9⟩ := h
  obtain ⟨e1, e2, e3, e4, e5⟩ := h7 (by omega)
  subst e1
  refine tgN_ext e3 (fun i hi => ?_)
  rw [e4 i hi]
  unfold tvN syN
  cases og
  · rfl
  · rw [if_pos ⟨rfl, by omega⟩]
    rfl
theorem iv_seal {w : Nat → Int32} {ph : Nat} {og : Bool} {nh : Int64} {nr : Int32} {na pa nt : Nat} {mb : Int32} {mk ab bd tb gv : Nat → Nat} {t1 t2 u1 u2 : Int64} (h : INV w ph og nh nr na pa nt mb mk ab bd tb gv t1 t2 u1 u2) (hp : ph = 1 ∨ ph = 2) (ho : og = false) : INV w 3 og nh nr na pa nt mb mk ab bd tb gv (tgN SBN w nh nr ab na tb nt).1 (tgN SBN w nh nr ab na tb nt).2 (tgN SBN w nh nr bd pa (syN og SBN w nh nr gv) nt).1 (tgN SBN w nh nr bd pa (syN og SBN w nh nr gv) nt).2 := by
  have ht := tg_eq h hp
  obtain ⟨h1, h2, h3, h4, h5, h6, h7, h8, h9⟩ := h
  obtain ⟨e1, e2, e3, e4, e5⟩ := h7 (by omega)
  refine ⟨by decide, h2, h3, h4, h5, h6, fun _ => ⟨e1, e2, e3, fun i hi => ?_, e5⟩, fun _ => ⟨ho, by rw [ht], by rw [ht]⟩, fun z => absurd z (by decide)⟩
  rw [e4 i hi]
  unfold tvN
  rw [if_neg (fun z => by rw [ho] at z; exact absurd z.1 (by decide)), if_neg (fun z => by rw [ho] at z; exact absurd z.1 (by decide))]
theorem iv_open_y {w : Nat → Int32} {ph : Nat} {og : Bool} {nh : Int64} {nr : Int32} {na pa nt : Nat} {mb m2 : Int32} {mk k2 ab bd tb gv : Nat → Nat} {t1 t2 u1 u2 a1 a2 c1 c2 : Int64} (h : INV w ph og nh nr na pa nt mb mk ab bd tb gv t1 t2 u1 u2) (hp : ph = 1 ∨ ph = 2) (ho : og = true) (hm : ∀ t, t < 96 → m2 = nI t → ∀ j, j < 16 → k2 j = mkN SBN w nh nr (2 + t) j) : INV w 4 og nh nr na pa nt m2 k2 ab bd (fl (umt SBN w nh nr tb) tb nt) gv a1 a2 c1 c2 := by
  obtain ⟨h1, h2, h3, h4, h5, h6, h7, h8, h9⟩ := h
  obtain ⟨e1, e2, e3, e4, e5⟩ := h7 (by omega)
  refine ⟨by decide, h2, h3, h4, fl_lt (fun i => xor_lt (h5 i) (mkN_lt SBN_lt _)) h5, h6, fun _ => ⟨e1, e2, e3, fun i hi => ?_, hm⟩, fun z => absurd z (by decide), fun _ => ho⟩
  rw [fl_n _ _ _ _ hi]
  unfold umt
  rw [e4 i hi]
  unfold tvN
  rw [if_pos ⟨ho, by omega⟩, if_neg (fun z => z.2 rfl)]
theorem iv_open_n {w : Nat → Int32} {ph : Nat} {og : Bool} {nh : Int64} {nr : Int32} {na pa nt : Nat} {mb : Int32} {mk ab bd tb gv : Nat → Nat} {t1 t2 u1 u2 a1 a2 c1 c2 : Int64} (h : INV w ph og nh nr na pa nt mb mk ab bd tb gv t1 t2 u1 u2) (hp : ph = 1 ∨ ph = 2) (ho : og = true) : INV w 5 og nh nr na pa nt mb mk ab bd tb gv a1 a2 c1 c2 := by
  obtain ⟨h1, h2, h3, h4, h5, h6, h7, h8, h9⟩ := h
  obtain ⟨e1, e2, e3, e4, e5⟩ := h7 (by omega)
  refine ⟨by decide, h2, h3, h4, h5, h6, fun _ => ⟨e1, e2, e3, fun i hi => ?_, e5⟩, fun z => absurd z (by decide), fun _ => ho⟩
  rw [e4 i hi]
  unfold tvN
  rw [if_pos ⟨ho, by omega⟩, if_pos ⟨ho, by omega⟩]
/-- what is shown is the same -/
theorem sh_rd {w : Nat → Int32} {ph : Nat} {og : Bool} {nh : Int64} {nr : Int32} {na pa nt : Nat} {mb : Int32} {mk ab bd tb gv : Nat → Nat} {t1 t2 u1 u2 : Int64} (h : INV w ph og nh nr na pa nt mb mk ab bd tb gv t1 t2 u1 u2) : shN ph og = rdbN ph og := by
  obtain ⟨h1, -, -, -, -, -, -, h8, h9⟩ := h
  rcases (show ph = 0 ∨ ph = 1 ∨ ph = 2 ∨ ph = 3 ∨ ph = 4 ∨ ph = 5 by omega) with rfl | rfl | rfl | rfl | rfl | rfl
  · cases og <;> rfl
  · cases og <;> rfl
  · cases og <;> rfl
  · cases og <;> rfl
  · cases og <;> rfl
  · rw [h9 (Or.inr rfl)]
    rfl
theorem at_eq {w : Nat → Int32} {ph : Nat} {og : Bool} {nh : Int64} {nr : Int32} {na pa nt : Nat} {mb : Int32} {mk ab bd tb gv : Nat → Nat} {t1 t2 u1 u2 : Int64} (h : INV w ph og nh nr na pa nt mb mk ab bd tb gv t1 t2 u1 u2) (hr : rdbN ph og = true) {j : Nat} (hj : j < nt) : tb j = gv j ^^^ mskN SBN w nh nr j := by
  obtain ⟨h1, -, -, -, -, -, h7, h8, h9⟩ := h
  by_cases h0 : ph = 0
  · rw [rdb_0 h0] at hr
    exact absurd hr (by decide)
  · obtain ⟨e1, e2, e3, e4, e5⟩ := h7 h0
    rw [e4 j hj]
    unfold tvN
    refine if_neg (fun z => ?_)
    rw [rdb_o z.2 h0, z.1] at hr
    exact absurd hr (by decide)
theorem va_sln {p : Program} {l : Launch} {e : Env} {R : Room} {s : State} {m : MethodId} {args : Array Value} {below : List Frame} {meth : Method} {c : Code} {H : Heap} {locs : List Loc} {cells slots : Nat} {Q : State → Prop} {cc : ByteArray} {pc : Nat} {ls : Array Slot} {rest : List Value} {A : Nat → Prop} {H0 : Heap} (hexec : p.tables.exec = Jvm.exec) (hb : c.code = cc) {b L : Nat} {xs : Nat → Int32} (hX : va_X b L xs s H0) (hbl : b < H0.size) (hbA : ¬ A b) (hS : va_S A H0 H locs) {i : Nat} {v : Int32} (hi : i < L) (hL : L ≤ 5120) (hv : xs i = v) (hdg : decode cc pc = .ok (.iaload, 1))
    (kk : W p l e R s m args below meth c H locs cells slots Q (F0 m (pc + 1) ls (.int v :: rest))) : W p l e R s m args below meth c H locs cells slots Q (F0 m pc ls (.int (nI i) :: .ref b :: rest)) := by
  refine va_sld hexec hb hX hbl hbA hS (vp_in_nI hi (by omega)) hdg ?_
  rw [nI_clamp (by omega), hv]
  exact kk
theorem lw_cmp {a L : Nat} (ha : a < 1073741824) (hL : L ≤ 5120) : nI L - nI 10 < nI a ↔ L < a + 10 := by
  rw [Int32.lt_iff_toInt_lt, pk_sub_toInt (by omega) (by omega), nI_toInt (by omega)]
  omega

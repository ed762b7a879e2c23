/-! the cipher on natural numbers: what class and reference both reckon -/
def tw (a : Nat) : Nat := (a * 2 ^ 1) ^^^ ((a / 2 ^ 7) * 283)
theorem tw_lt {a : Nat} (h : a < 256) : tw a < 256 := (by decide +kernel : ∀ a, a < 256 → tw a < 256) a h
def sf (i : Nat) : Nat := (i + (4 * (i % 4))) % 16
theorem sf_lt (i : Nat) : sf i < 16 := Nat.mod_lt _ (by decide)
def usf (i : Nat) : Nat := (i + (12 * (i % 4))) % 16
theorem usf_lt (i : Nat) : usf i < 16 := Nat.mod_lt _ (by decide)
theorem usf_sf : ∀ j, j < 16 → ∀ k, k < 16 → (j = sf k ↔ usf j = k) := by decide +kernel
/-- byte r of a word -/
def wbt (w : Int32) (r : Nat) : Nat := wN w / 2 ^ (24 - 8 * r) % 256
theorem wbt_lt (w : Int32) (r : Nat) : wbt w r < 256 := Nat.mod_lt _ (by decide)
theorem wq24 (w : Int32) : wN w / 2 ^ 24 < 256 := by
  have := wN_lt w
  omega
/-- byte i of a long, the first one highest -/
def lb (x : Int64) (i : Nat) : Nat := (lW x / 2 ^ (56 - (8 * i))) % 256
theorem lb_lt (x : Int64) (i : Nat) : lb x i < 256 := Nat.mod_lt _ (by decide)
/-- a block of two longs -/
def ldN (hi lo : Int64) : Nat → Nat := fun i => if i < 8 then lb hi i else lb lo (i - 8)
theorem ldN_lt (hi lo : Int64) (i : Nat) : ldN hi lo i < 256 := by
  unfold ldN; split <;> exact lb_lt _ _
def ldp (hi lo : Int64) (b : Nat → Nat) (k : Nat) : Nat → Nat := fun i => if i < k then lb hi i else if 8 ≤ i ∧ i < 8 + k then lb lo (i - 8) else b i
theorem ldp_0 (hi lo : Int64) (b : Nat → Nat) (i : Nat) : b i = ldp hi lo b 0 i := by
  unfold ldp
  rw [if_neg (by omega), if_neg (by omega)]
theorem ldp_8 (hi lo : Int64) (b : Nat → Nat) (i : Nat) (h : i < 16) : ldp hi lo b 8 i = ldN hi lo i := by
  unfold ldp ldN
  by_cases h8 : i < 8
  · rw [if_pos h8, if_pos h8]
  · rw [if_neg h8, if_neg h8, if_pos (by omega)]
theorem ldp_s (hi lo : Int64) (b : Nat → Nat) (k : Nat) (hk : k < 8) (i : Nat) (h : i < 16) : un (un (ldp hi lo b k) k (lb hi k)) (8 + k) (lb lo k) i = ldp hi lo b (k + 1) i := by
  unfold un ldp
  by_cases h1 : i = 8 + k
  · subst h1
    rw [if_pos rfl, if_neg (by omega), if_pos (by omega), show 8 + k - 8 = k by omega]
  · rw [if_neg h1]
    by_cases h2 : i = k
    · subst h2
      rw [if_pos rfl, if_pos (by omega)]
    · rw [if_neg h2]
      by_cases h3 : i < k
      · rw [if_pos h3, if_pos (by omega)]
      · rw [if_neg h3, if_neg (show ¬ i < k + 1 by omega)]
        by_cases h4 : 8 ≤ i ∧ i < 8 + k
        · rw [if_pos h4, if_pos (by omega)]
        · rw [if_neg h4, if_neg (by omega)]
/-- a round key added -/
def akN (w : Nat → Int32) (j : Nat) (b : Nat → Nat) : Nat → Nat := fun i => b i ^^^ wbt (w (4 * j + i / 4)) (i % 4)
theorem akN_lt {w : Nat → Int32} {j : Nat} {b : Nat → Nat} (h : ∀ i, b i < 256) (i : Nat) : akN w j b i < 256 := xor_lt (h i) (wbt_lt _ _)
def akp (w : Nat → Int32) (j : Nat) (b : Nat → Nat) (c : Nat) : Nat → Nat := fun i => if i < 4 * c then akN w j b i else b i
theorem akp_0 (w : Nat → Int32) (j : Nat) (b : Nat → Nat) (i : Nat) : b i = akp w j b 0 i := by
  unfold akp
  rw [if_neg (by omega)]
theorem akp_4 (w : Nat → Int32) (j : Nat) (b : Nat → Nat) (i : Nat) (h : i < 16) : akp w j b 4 i = akN w j b i := by
  unfold akp
  rw [if_pos (by omega)]
theorem akp_ge (w : Nat → Int32) (j : Nat) (b : Nat → Nat) (c i : Nat) (h : 4 * c ≤ i) : akp w j b c i = b i := by
  unfold akp
  rw [if_neg (by omega)]
theorem wbt_0 (w : Int32) : wN w / 2 ^ 24 = wbt w 0 := by
  have := wq24 w
  unfold wbt
  rw [Nat.mod_eq_of_lt (by simpa using this)]
theorem wbt_3 (w : Int32) : wN w % 256 = wbt w 3 := by
  unfold wbt
  rw [show 24 - 8 * 3 = 0 from rfl, Nat.pow_zero, Nat.div_one]
theorem akp_s (w : Nat → Int32) (j : Nat) (b : Nat → Nat) (c : Nat) (i : Nat) :
    un (un (un (un (akp w j b c) (4 * c) (b (4 * c) ^^^ wbt (w (4 * j + c)) 0)) (4 * c + 1) (b (4 * c + 1) ^^^ wbt (w (4 * j + c)) 1)) (4 * c + 2) (b (4 * c + 2) ^^^ wbt (w (4 * j + c)) 2)) (4 * c + 3) (b (4 * c + 3) ^^^ wbt (w (4 * j + c)) 3) i = akp w j b (c + 1) i := by
  have e : ∀ r, r < 4 → (4 * c + r) / 4 = c ∧ (4 * c + r) % 4 = r := fun r hr => by omega
  unfold un
  by_cases h3 : i = 4 * c + 3
  · subst h3
    rw [if_pos rfl]
    unfold akp akN
    rw [if_pos (by omega), (e 3 (by decide)).1, (e 3 (by decide)).2]
  rw [if_neg h3]
  by_cases h2 : i = 4 * c + 2
  · subst h2
    rw [if_pos rfl]
    unfold akp akN
    rw [if_pos (by omega), (e 2 (by decide)).1, (e 2 (by decide)).2]
  rw [if_neg h2]
  by_cases h1 : i = 4 * c + 1
  · subst h1
    rw [if_pos rfl]
    unfold akp akN
    rw [if_pos (by omega), (e 1 (by decide)).1, (e 1 (by decide)).2]
  rw [if_neg h1]
  by_cases h0 : i = 4 * c
  · subst h0
    rw [if_pos rfl]
    unfold akp akN
    rw [if_pos (by omega), show 4 * c / 4 = c by omega, show 4 * c % 4 = 0 by omega]
  rw [if_neg h0]
  unfold akp
  by_cases h : i < 4 * c
  · rw [if_pos h, if_pos (by omega)]
  · rw [if_neg h, if_neg (by omega)]
/-- substitution and shift -/
def ssN (sb b : Nat → Nat) : Nat → Nat := fun i => sb (b (sf i))
def ssp (sb b : Nat → Nat) (k : Nat) : Nat → Nat := fun i => if i < k then sb (b (sf i)) else b i
theorem ssp_0 (sb b : Nat → Nat) (i : Nat) : b i = ssp sb b 0 i := by
  unfold ssp
  rw [if_neg (by omega)]
theorem ssp_16 (sb b : Nat → Nat) (i : Nat) (h : i < 16) : ssp sb b 16 i = ssN sb b i := by
  unfold ssp
  rw [if_pos h]
  rfl
theorem ssp_s (sb b : Nat → Nat) (k i : Nat) : un (ssp sb b k) k (sb (b (sf k))) i = ssp sb b (k + 1) i := by
  unfold un ssp
  by_cases h : i = k
  · subst h
    rw [if_pos rfl, if_pos (by omega)]
  · rw [if_neg h]
    by_cases h2 : i < k
    · rw [if_pos h2, if_pos (by omega)]
    · rw [if_neg h2, if_neg (by omega)]
def usN (ub b : Nat → Nat) : Nat → Nat := fun i => ub (b (usf i))
def usp (ub b : Nat → Nat) (k : Nat) : Nat → Nat := fun i => if usf i < k then ub (b (usf i)) else b i
theorem usp_0 (ub b : Nat → Nat) (i : Nat) : b i = usp ub b 0 i := by
  unfold usp
  rw [if_neg (by omega)]
theorem usp_16 (ub b : Nat → Nat) (i : Nat) : usp ub b 16 i = usN ub b i := by
  unfold usp
  rw [if_pos (usf_lt i)]
  rfl
theorem usp_s (ub b : Nat → Nat) (k : Nat) (hk : k < 16) (i : Nat) (hi : i < 16) : un (usp ub b k) (sf k) (ub (b k)) i = usp ub b (k + 1) i := by
  unfold un usp
  by_cases h : i = sf k
  · have h2 := (usf_sf i hi k hk).mp h
    rw [if_pos h, if_pos (by omega), h2]
  · have h2 : ¬ usf i = k := fun z => h ((usf_sf i hi k hk).mpr z)
    rw [if_neg h]
    by_cases h3 : usf i < k
    · rw [if_pos h3, if_pos (by omega)]
    · rw [if_neg h3, if_neg (by omega)]
/-- the mixing of the columns -/
def mx (a0 a1 a2 a3 a b : Nat) : Nat := (((a0 ^^^ a1) ^^^ a2) ^^^ a3) ^^^ a ^^^ tw (a ^^^ b)
theorem mx_lt {a0 a1 a2 a3 a b : Nat} (h0 : a0 < 256) (h1 : a1 < 256) (h2 : a2 < 256) (h3 : a3 < 256) (ha : a < 256) (hb : b < 256) : mx a0 a1 a2 a3 a b < 256 := xor_lt (xor_lt (xor_lt (xor_lt (xor_lt h0 h1) h2) h3) ha) (tw_lt (xor_lt ha hb))
def mixN (b : Nat → Nat) : Nat → Nat := fun i => mx (b (4 * (i / 4))) (b (4 * (i / 4) + 1)) (b (4 * (i / 4) + 2)) (b (4 * (i / 4) + 3)) (b i) (b (4 * (i / 4) + (i % 4 + 1) % 4))
theorem mixN_lt {b : Nat → Nat} (h : ∀ i, b i < 256) (i : Nat) : mixN b i < 256 := mx_lt (h _) (h _) (h _) (h _) (h _) (h _)
def mxp (b : Nat → Nat) (c : Nat) : Nat → Nat := fun i => if i < 4 * c then mixN b i else b i
theorem mxp_0 (b : Nat → Nat) (i : Nat) : b i = mxp b 0 i := by
  unfold mxp
  rw [if_neg (by omega)]
theorem mxp_4 (b : Nat → Nat) (i : Nat) (h : i < 16) : mxp b 4 i = mixN b i := by
  unfold mxp
  rw [if_pos (by omega)]
theorem mxp_ge (b : Nat → Nat) (c i : Nat) (h : 4 * c ≤ i) : mxp b c i = b i := by
  unfold mxp
  rw [if_neg (by omega)]
theorem mxp_s (b : Nat → Nat) (c i : Nat) :
    un (un (un (un (mxp b c) (4 * c) (mx (b (4 * c)) (b (4 * c + 1)) (b (4 * c + 2)) (b (4 * c + 3)) (b (4 * c)) (b (4 * c + 1)))) (4 * c + 1) (mx (b (4 * c)) (b (4 * c + 1)) (b (4 * c + 2)) (b (4 * c + 3)) (b (4 * c + 1)) (b (4 * c + 2)))) (4 * c + 2) (mx (b (4 * c)) (b (4 * c + 1)) (b (4 * c + 2)) (b (4 * c + 3)) (b (4 * c + 2)) (b (4 * c + 3)))) (4 * c + 3) (mx (b (4 * c)) (b (4 * c + 1)) (b (4 * c + 2)) (b (4 * c + 3)) (b (4 * c + 3)) (b (4 * c))) i = mxp b (c + 1) i := by
  have e : ∀ r, r < 4 → (4 * c + r) / 4 = c ∧ (4 * c + r) % 4 = r := fun r hr => by omega
  unfold un
  by_cases h3 : i = 4 * c + 3
  · subst h3
    rw [if_pos rfl]
    unfold mxp mixN
    rw [if_pos (by omega), (e 3 (by decide)).1, (e 3 (by decide)).2]
    rfl
  rw [if_neg h3]
  by_cases h2 : i = 4 * c + 2
  · subst h2
    rw [if_pos rfl]
    unfold mxp mixN
    rw [if_pos (by omega), (e 2 (by decide)).1, (e 2 (by decide)).2]
  rw [if_neg h2]
  by_cases h1 : i = 4 * c + 1
  · subst h1
    rw [if_pos rfl]
    unfold mxp mixN
    rw [if_pos (by omega), (e 1 (by decide)).1, (e 1 (by decide)).2]
  rw [if_neg h1]
  by_cases h0 : i = 4 * c
  · subst h0
    rw [if_pos rfl]
    unfold mxp mixN
    rw [if_pos (by omega), show 4 * c / 4 = c by omega, show 4 * c % 4 = 0 by omega]
  rw [if_neg h0]
  unfold mxp
  by_cases h : i < 4 * c
  · rw [if_pos h, if_pos (by omega)]
  · rw [if_neg h, if_neg (by omega)]
/-- a block under the key's words, j rounds on -/
def erN (sb : Nat → Nat) (w : Nat → Int32) (b : Nat → Nat) : Nat → Nat → Nat
  | 0 => akN w 0 b
  | j + 1 => akN w (j + 1) (if j + 1 < 10 then mixN (ssN sb (erN sb w b j)) else ssN sb (erN sb w b j))
theorem ssN_lt {sb b : Nat → Nat} (hs : ∀ i, sb i < 256) (i : Nat) : ssN sb b i < 256 := hs _
theorem erN_lt {sb : Nat → Nat} {w : Nat → Int32} {b : Nat → Nat} (hs : ∀ i, sb i < 256) (h : ∀ i, b i < 256) : ∀ j i, erN sb w b j i < 256
  | 0, i => akN_lt h i
  | j + 1, i => by
    unfold erN
    refine akN_lt (fun i => ?_) i
    split
    · exact mixN_lt (ssN_lt hs) i
    · exact ssN_lt hs i
def ebN (sb : Nat → Nat) (w : Nat → Int32) (b z : Nat → Nat) : Nat → Nat → Nat
  | 0 => z
  | j + 1 => erN sb w b j
/-- the way back, t steps on -/
def umN (w : Nat → Int32) (t : Nat) (b : Nat → Nat) : Nat → Nat := if 10 - t < 10 then mixN (mixN (mixN (akN w (10 - t) b))) else akN w (10 - t) b
def drN (ub : Nat → Nat) (w : Nat → Int32) (b : Nat → Nat) : Nat → Nat → Nat
  | 0 => b
  | t + 1 => usN ub (umN w t (drN ub w b t))
theorem umN_lt {w : Nat → Int32} {t : Nat} {b : Nat → Nat} (h : ∀ i, b i < 256) (i : Nat) : umN w t b i < 256 := by
  unfold umN
  split
  · exact mixN_lt (mixN_lt (mixN_lt (akN_lt h))) i
  · exact akN_lt h i
theorem drN_lt {ub : Nat → Nat} {w : Nat → Int32} {b : Nat → Nat} (hs : ∀ i, ub i < 256) (h : ∀ i, b i < 256) : ∀ j i, drN ub w b j i < 256
  | 0, i => h i
  | j + 1, i => hs _
def dbN (ub : Nat → Nat) (w : Nat → Int32) (b z : Nat → Nat) : Nat → Nat → Nat
  | 0 => z
  | t + 1 => umN w t (drN ub w b t)
/-- the key's words -/
def swN (sb : Nat → Nat) (w : Int32) : Nat := (((sb (wN w / 2 ^ 24) * 2 ^ 24) ||| (sb ((wN w / 2 ^ 16) % 256) * 2 ^ 16)) ||| (sb ((wN w / 2 ^ 8) % 256) * 2 ^ 8)) ||| sb (wN w % 256)
def rl8 (t : Int32) : Int32 := (t <<< ((nI 8) &&& 31)) ||| (t.toUInt32 >>> ((-(nI 8)).toUInt32 &&& Int32.toUInt32 31)).toInt32
def rcN : Nat → Nat
  | 0 => 1
  | n + 1 => tw (rcN n)
theorem rcN_lt : ∀ n, rcN n < 256
  | 0 => by decide
  | n + 1 => tw_lt (rcN_lt n)
def kt (sb : Nat → Nat) (k : Nat) (t : Int32) : Int32 := if (k + 4) % 4 = 0 then nI (swN sb (rl8 t) ^^^ (rcN ((k + 3) / 4) * 2 ^ 24)) else t
def ksN (sb : Nat → Nat) (w : Nat → Int32) : Nat → Nat → Int32
  | 0 => w
  | k + 1 => upd (ksN sb w k) (k + 4) (ksN sb w k (k + 4 - 4) ^^^ kt sb k (ksN sb w k (k + 4 - 1)))
theorem rcN_s {k : Nat} (h : (k + 4) % 4 = 0) : tw (rcN ((k + 3) / 4)) = rcN ((k + 1 + 3) / 4) := by
  rw [show (k + 1 + 3) / 4 = (k + 3) / 4 + 1 by omega]
  rfl
theorem rcN_e {k : Nat} (h : ¬ (k + 4) % 4 = 0) : rcN ((k + 3) / 4) = rcN ((k + 1 + 3) / 4) := by
  rw [show (k + 1 + 3) / 4 = (k + 3) / 4 by omega]
def kw0 (hi lo : Int64) (w : Nat → Int32) : Nat → Int32 := upd (upd (upd (upd w 0 (nI (lW hi / 2 ^ 32))) 1 (nI (lW hi))) 2 (nI (lW lo / 2 ^ 32))) 3 (nI (lW lo))
/-- eight bytes of a row -/
def jbN (b : Nat → Nat) (fr en : Nat) : Nat → Nat
  | 0 => 0
  | k + 1 => (jbN b fr en k * 2 ^ 8) ||| (if fr + k < en then b (fr + k) else 0)
/-- one bit of a block: i counts from the highest -/
def gbt (hi lo : Int64) (i : Nat) : Bool := if i < 64 then hi.toBitVec.getLsbD (63 - i) else lo.toBitVec.getLsbD (127 - i)
/-- one step of the product: the sum, and the factor shifted -/
def gst (hi lo oh ol : Int64) : Nat → Int64 × Int64 × Int64 × Int64
  | 0 => (lN 0, lN 0, oh, ol)
  | k + 1 =>
    let z := gst hi lo oh ol k
    (if gbt hi lo k then z.1 ^^^ z.2.2.1 else z.1, if gbt hi lo k then z.2.1 ^^^ z.2.2.2 else z.2.1,
     if z.2.2.2.toBitVec.getLsbD 0 then (z.2.2.1.toUInt64 >>> ((nI 1).toInt64.toUInt64 &&& Int64.toUInt64 63)).toInt64 ^^^ (-2233785415175766016) else (z.2.2.1.toUInt64 >>> ((nI 1).toInt64.toUInt64 &&& Int64.toUInt64 63)).toInt64,
     (z.2.2.2.toUInt64 >>> ((nI 1).toInt64.toUInt64 &&& Int64.toUInt64 63)).toInt64 ||| (z.2.2.1 <<< ((nI 63).toInt64 &&& 63)))
theorem erN_m {sb : Nat → Nat} {w : Nat → Int32} {b : Nat → Nat} {k : Nat} (h : k + 1 < 10) (i : Nat) : akN w (k + 1) (mixN (ssN sb (erN sb w b k))) i = erN sb w b (k + 1) i := by
  rw [erN, if_pos h]
theorem erN_e {sb : Nat → Nat} {w : Nat → Int32} {b : Nat → Nat} {k : Nat} (h : ¬ k + 1 < 10) (i : Nat) : akN w (k + 1) (ssN sb (erN sb w b k)) i = erN sb w b (k + 1) i := by
  rw [erN, if_neg h]
theorem umN_m {w : Nat → Int32} {t : Nat} {b : Nat → Nat} (h : 10 - t < 10) : mixN (mixN (mixN (akN w (10 - t) b))) = umN w t b := by
  rw [umN, if_pos h]
theorem umN_e {w : Nat → Int32} {t : Nat} {b : Nat → Nat} (h : ¬ 10 - t < 10) : akN w (10 - t) b = umN w t b := by
  rw [umN, if_neg h]
theorem ksN_m {sb : Nat → Nat} {w : Nat → Int32} {k : Nat} (h : (k + 4) % 4 = 0) (i : Nat) : upd (ksN sb w k) (k + 4) (ksN sb w k (k + 4 - 4) ^^^ nI (swN sb (rl8 (ksN sb w k (k + 4 - 1))) ^^^ (rcN ((k + 3) / 4) * 2 ^ 24))) i = ksN sb w (k + 1) i := by
  rw [ksN, kt, if_pos h]
theorem ksN_e {sb : Nat → Nat} {w : Nat → Int32} {k : Nat} (h : ¬ (k + 4) % 4 = 0) (i : Nat) : upd (ksN sb w k) (k + 4) (ksN sb w k (k + 4 - 4) ^^^ ksN sb w k (k + 4 - 1)) i = ksN sb w (k + 1) i := by
  rw [ksN, kt, if_neg h]
/-- the table's filling -/
def ccN (v : Nat) : Nat := v ||| (v * 2 ^ 8)
theorem ccN_lt {v : Nat} (h : v < 256) : ccN v < 4294967296 := Nat.lt_trans ((by decide +kernel : ∀ v, v < 256 → ccN v < 65536) v h) (by decide)
def afN (v : Nat) : Nat := (((((ccN v ^^^ (ccN v / 2 ^ 4)) ^^^ (ccN v / 2 ^ 5)) ^^^ (ccN v / 2 ^ 6)) ^^^ (ccN v / 2 ^ 7)) ^^^ 99) % 256
theorem afN_lt (v : Nat) : afN v < 256 := Nat.mod_lt _ (by decide)
def pwN : Nat → Nat
  | 0 => 1
  | k + 1 => pwN k ^^^ tw (pwN k)
theorem pwN_lt : ∀ k, pwN k < 256
  | 0 => by decide
  | k + 1 => xor_lt (pwN_lt k) (tw_lt (pwN_lt k))
def ppN (k : Nat) : Nat → Nat := fun i => if i < k then pwN i else 0
theorem ppN_0 (i : Nat) : 0 = ppN 0 i := by
  unfold ppN
  rw [if_neg (by omega)]
theorem ppN_s (k i : Nat) : un (ppN k) k (pwN k) i = ppN (k + 1) i := by
  unfold un ppN
  by_cases h : i = k
  · subst h
    rw [if_pos rfl, if_pos (by omega)]
  · rw [if_neg h]
    by_cases h2 : i < k
    · rw [if_pos h2, if_pos (by omega)]
    · rw [if_neg h2, if_neg (by omega)]
theorem ppN_255 (i : Nat) (h : i < 255) : ppN 255 i = pwN i := by
  unfold ppN
  rw [if_pos h]
def esN (f : Nat → Nat) : Nat → Nat → Nat
  | 0 => un f 0 (afN 0)
  | t + 1 => un (esN f t) (pwN t) (afN (pwN ((255 - t) % 255)))
def euN (g : Nat → Nat) : Nat → Nat → Nat
  | 0 => un g (afN 0) 0
  | t + 1 => un (euN g t) (afN (pwN ((255 - t) % 255))) (pwN t)
theorem jbN_t {b : Nat → Nat} {fr en k : Nat} (h : fr + k < en) : (jbN b fr en k * 2 ^ 8) ||| b (fr + k) = jbN b fr en (k + 1) := by
  rw [jbN, if_pos h]
theorem jbN_f {b : Nat → Nat} {fr en k : Nat} (h : ¬ fr + k < en) : (jbN b fr en k * 2 ^ 8) ||| 0 = jbN b fr en (k + 1) := by
  rw [jbN, if_neg h]
/-- bits as masks -/
theorem lbit (x : Int64) (j : Nat) : lW x / 2 ^ j &&& 1 = if x.toBitVec.getLsbD j then 1 else 0 := by
  rw [Nat.and_one_is_mod]
  have h : x.toBitVec.getLsbD j = decide (lW x / 2 ^ j % 2 = 1) := Nat.testBit_eq_decide_div_mod_eq
  rw [h]
  by_cases h2 : lW x / 2 ^ j % 2 = 1
  · simp [h2]
  · simp [h2]
    omega
def gch (hi lo : Int64) (k : Nat) : Int64 := if gbt hi lo k then -1 else 0
theorem gch_hi (hi lo : Int64) {k : Nat} (h : k < 64) : -(lN ((lW hi / 2 ^ (63 - (k % 64))) &&& 1)) = gch hi lo k := by
  rw [Nat.mod_eq_of_lt h, lbit]
  unfold gch gbt
  rw [if_pos h]
  cases hi.toBitVec.getLsbD (63 - k) <;> decide
theorem gch_lo (hi lo : Int64) {k : Nat} (h : 64 ≤ k) (h2 : k < 128) : -(lN ((lW lo / 2 ^ (63 - (k % 64))) &&& 1)) = gch hi lo k := by
  rw [show 63 - k % 64 = 127 - k by omega, lbit]
  unfold gch gbt
  rw [if_neg (show ¬ k < 64 by omega)]
  cases lo.toBitVec.getLsbD (127 - k) <;> decide
theorem l_xm (x v : Int64) (b : Bool) : x ^^^ (v &&& (if b then (-1 : Int64) else 0)) = if b then x ^^^ v else x := by
  cases b
  · apply Int64.toBitVec_inj.mp
    simp
  · apply Int64.toBitVec_inj.mp
    simp
def gov (x : Int64) : Int64 := if x.toBitVec.getLsbD 0 then -1 else 0
theorem gov_e (x : Int64) : -(x &&& lN 1) = gov x := by
  have h : x &&& lN 1 = lN (lW x / 2 ^ 0 &&& 1) := by
    have h1 := l_and (lW x) 1
    rw [lN_lW] at h1
    rw [h1, Nat.pow_zero, Nat.div_one]
  rw [h, lbit]
  unfold gov
  cases x.toBitVec.getLsbD 0 <;> decide
theorem gst_1 (hi lo oh ol : Int64) (k : Nat) : (gst hi lo oh ol k).1 ^^^ ((gst hi lo oh ol k).2.2.1 &&& gch hi lo k) = (gst hi lo oh ol (k + 1)).1 := by
  unfold gch
  rw [l_xm]
  rfl
theorem gst_2 (hi lo oh ol : Int64) (k : Nat) : (gst hi lo oh ol k).2.1 ^^^ ((gst hi lo oh ol k).2.2.2 &&& gch hi lo k) = (gst hi lo oh ol (k + 1)).2.1 := by
  unfold gch
  rw [l_xm]
  rfl
theorem l_xm2 (x v : Int64) (b : Bool) : x ^^^ ((if b then (-1 : Int64) else 0) &&& v) = if b then x ^^^ v else x := by
  cases b
  · apply Int64.toBitVec_inj.mp
    simp
  · apply Int64.toBitVec_inj.mp
    simp
theorem gst_3 (hi lo oh ol : Int64) (k : Nat) : ((gst hi lo oh ol k).2.2.1.toUInt64 >>> ((nI 1).toInt64.toUInt64 &&& Int64.toUInt64 63)).toInt64 ^^^ (gov (gst hi lo oh ol k).2.2.2 &&& (-2233785415175766016 : Int64)) = (gst hi lo oh ol (k + 1)).2.2.1 := by
  unfold gov
  rw [l_xm2]
  rfl

/-! the reference's own ways to the same functions -/
def zI (b : Bool) : Int32 := if b then 1 else 0
theorem zI_n (b : Bool) : narrow .boolean (.int (zI b)) = .int (zI b) := by cases b <;> rfl
theorem zI_f (b : Bool) : fits .boolean (.int (zI b)) = true := by cases b <;> rfl
def mpN (x y : Nat) : Nat → Nat
  | 0 => 0
  | k + 1 => if (y / 2 ^ k) % 2 = 1 then mpN x y k ^^^ (x * 2 ^ k) else mpN x y k
theorem mpN_t {x y k : Nat} (h : (y / 2 ^ k) % 2 = 1) : mpN x y k ^^^ (x * 2 ^ k) = mpN x y (k + 1) := by
  rw [mpN, if_pos h]
theorem mpN_f {x y k : Nat} (h : ¬ (y / 2 ^ k) % 2 = 1) : mpN x y k = mpN x y (k + 1) := by
  rw [mpN, if_neg h]
def rdN (z : Nat) : Nat → Nat
  | 0 => z
  | t + 1 => if (rdN z t / 2 ^ (14 - t)) % 2 = 1 then rdN z t ^^^ (283 * 2 ^ ((14 - t) - 8)) else rdN z t
theorem rdN_t {z t : Nat} (h : (rdN z t / 2 ^ (14 - t)) % 2 = 1) : rdN z t ^^^ (283 * 2 ^ ((14 - t) - 8)) = rdN z (t + 1) := by
  rw [rdN, if_pos h]
theorem rdN_f {z t : Nat} (h : ¬ (rdN z t / 2 ^ (14 - t)) % 2 = 1) : rdN z t = rdN z (t + 1) := by
  rw [rdN, if_neg h]
theorem x15 {x y : Nat} (hx : x < 2 ^ 15) (hy : y < 2 ^ 15) : x ^^^ y < 2 ^ 15 := Nat.xor_lt_two_pow hx hy
theorem mpN_lt {x y : Nat} (hx : x < 256) : ∀ k, k ≤ 8 → mpN x y k < 2 ^ 15
  | 0, _ => (by decide : 0 < 2 ^ 15)
  | k + 1, h => by
    rw [mpN]
    split
    · refine x15 (mpN_lt hx k (by omega)) ?_
      have h2 : 2 ^ k ≤ 2 ^ 7 := Nat.pow_le_pow_right (by decide) (by omega)
      calc x * 2 ^ k ≤ x * 2 ^ 7 := Nat.mul_le_mul_left _ h2
        _ < 2 ^ 15 := by omega
    · exact mpN_lt hx k (by omega)
theorem rdN_lt {z : Nat} (hz : z < 2 ^ 15) : ∀ t, rdN z t < 2 ^ 15
  | 0 => hz
  | t + 1 => by
    rw [rdN]
    split
    · refine x15 (rdN_lt hz t) ?_
      have h2 : 2 ^ ((14 - t) - 8) ≤ 2 ^ 6 := Nat.pow_le_pow_right (by decide) (by omega)
      calc 283 * 2 ^ ((14 - t) - 8) ≤ 283 * 2 ^ 6 := Nat.mul_le_mul_left _ h2
        _ < 2 ^ 15 := by decide
    · exact rdN_lt hz t
def tmN (x y : Nat) : Nat := rdN (mpN x y 8) 7
theorem tm1 {y : Nat} (h : y < 256) : tmN 1 y = y := (by decide +kernel : ∀ y, y < 256 → tmN 1 y = y) y h
theorem tm2 {y : Nat} (h : y < 256) : tmN 2 y = tw y := (by decide +kernel : ∀ y, y < 256 → tmN 2 y = tw y) y h
theorem tm3 {y : Nat} (h : y < 256) : tmN 3 y = tw y ^^^ y := (by decide +kernel : ∀ y, y < 256 → tmN 3 y = tw y ^^^ y) y h
theorem tm9 {y : Nat} (h : y < 256) : tmN 9 y = tw (tw (tw y)) ^^^ y := (by decide +kernel : ∀ y, y < 256 → tmN 9 y = tw (tw (tw y)) ^^^ y) y h
theorem tm11 {y : Nat} (h : y < 256) : tmN 11 y = tw (tw (tw y)) ^^^ (tw y ^^^ y) := (by decide +kernel : ∀ y, y < 256 → tmN 11 y = tw (tw (tw y)) ^^^ (tw y ^^^ y)) y h
theorem tm13 {y : Nat} (h : y < 256) : tmN 13 y = tw (tw (tw y)) ^^^ (tw (tw y) ^^^ y) := (by decide +kernel : ∀ y, y < 256 → tmN 13 y = tw (tw (tw y)) ^^^ (tw (tw y) ^^^ y)) y h
theorem tm14 {y : Nat} (h : y < 256) : tmN 14 y = tw (tw (tw y)) ^^^ (tw (tw y) ^^^ tw y) := (by decide +kernel : ∀ y, y < 256 → tmN 14 y = tw (tw (tw y)) ^^^ (tw (tw y) ^^^ tw y)) y h
theorem xx4 (p q r t : Nat) : (p ^^^ q) ^^^ (r ^^^ t) = (p ^^^ r) ^^^ (q ^^^ t) := by
  apply Nat.eq_of_testBit_eq
  intro i
  simp only [Nat.testBit_xor]
  cases p.testBit i <;> cases q.testBit i <;> cases r.testBit i <;> cases t.testBit i <;> rfl
theorem tw_x {a b : Nat} (ha : a < 256) (hb : b < 256) : tw (a ^^^ b) = tw a ^^^ tw b := by
  unfold tw
  have h1 : (a ^^^ b) * 2 ^ 1 = (a * 2 ^ 1) ^^^ (b * 2 ^ 1) := by rw [← Nat.shiftLeft_eq, ← Nat.shiftLeft_eq, ← Nat.shiftLeft_eq, Nat.shiftLeft_xor_distrib]
  have h2 : (a ^^^ b) / 2 ^ 7 = (a / 2 ^ 7) ^^^ (b / 2 ^ 7) := by rw [← Nat.shiftRight_eq_div_pow, ← Nat.shiftRight_eq_div_pow, ← Nat.shiftRight_eq_div_pow, Nat.shiftRight_xor_distrib]
  have h3 : ∀ x, x < 2 → ∀ y, y < 2 → (x ^^^ y) * 283 = (x * 283) ^^^ (y * 283) := by decide
  rw [h1, h2, h3 _ (by omega) _ (by omega)]
  exact xx4 _ _ _ _
def avN (x : Nat) : Nat → Nat
  | 0 => 0
  | i + 1 => avN x i ||| ((((((((99 / 2 ^ i) ^^^ (x / 2 ^ i)) ^^^ (x / 2 ^ ((i + 4) % 8))) ^^^ (x / 2 ^ ((i + 5) % 8))) ^^^ (x / 2 ^ ((i + 6) % 8))) ^^^ (x / 2 ^ ((i + 7) % 8))) % 2) * 2 ^ i)
theorem avN_8 {x : Nat} (h : x < 256) : avN x 8 = afN x := (by decide +kernel : ∀ x, x < 256 → avN x 8 = afN x) x h
theorem avN_s (x i : Nat) : avN x i ||| ((((((((99 / 2 ^ i) ^^^ (x / 2 ^ i)) ^^^ (x / 2 ^ ((i + 4) % 8))) ^^^ (x / 2 ^ ((i + 5) % 8))) ^^^ (x / 2 ^ ((i + 6) % 8))) ^^^ (x / 2 ^ ((i + 7) % 8))) % 2) * 2 ^ i) = avN x (i + 1) := rfl
def chN (sb : Nat → Nat) (w : Int32) : Nat → Nat
  | 0 => 0
  | k + 1 => (chN sb w k * 2 ^ 8) ||| sb (wbt w ((k + 1) % 4))
theorem l_s32 (x : Int64) : (x >>> ((nI 32).toInt64 &&& 63)).toInt32 = nI (lW x / 2 ^ 32) := by
  apply Int32.toBitVec_inj.mp
  apply BitVec.eq_of_getLsbD_eq
  intro i hi
  rw [Int64.toBitVec_toInt32, BitVec.getLsbD_signExtend, Int64.toBitVec_shiftRight]
  show _ = (BitVec.ofNat 32 (lW x / 2 ^ 32)).getLsbD i
  rw [BitVec.getLsbD_ofNat, Nat.testBit_div_two_pow, if_pos (by omega)]
  show (decide (i < 32) && (x.toBitVec.sshiftRight (((nI 32).toInt64 &&& 63).toBitVec.smod 64).toNat).getLsbD i) = _
  rw [l_sl 32 (by decide), BitVec.getLsbD_sshiftRight]
  have h3 : 32 + i < 64 := by omega
  have h4 : ¬ 64 ≤ i := by omega
  simp [hi, h3, h4, lW, BitVec.getLsbD]
  rw [Nat.add_comm]
theorem tl_h {b : Nat → Nat} {k : Nat} (h : k < 16) : (jbN b 0 16 k * 2 ^ 8) ||| b k = jbN b 0 16 (k + 1) := by
  rw [jbN, Nat.zero_add, if_pos h]
def akq (w : Nat → Int32) (j : Nat) (b : Nat → Nat) (k : Nat) : Nat → Nat := fun i => if i < k then akN w j b i else b i
theorem akq_0 (w : Nat → Int32) (j : Nat) (b : Nat → Nat) (i : Nat) : b i = akq w j b 0 i := by
  unfold akq
  rw [if_neg (by omega)]
theorem akq_16 (w : Nat → Int32) (j : Nat) (b : Nat → Nat) (i : Nat) (h : i < 16) : akq w j b 16 i = akN w j b i := by
  unfold akq
  rw [if_pos h]
theorem akq_k (w : Nat → Int32) (j : Nat) (b : Nat → Nat) (k : Nat) : akq w j b k k = b k := by
  unfold akq
  rw [if_neg (by omega)]
/-- a row filled from the front -/
def fl (g b : Nat → Nat) (k : Nat) : Nat → Nat := fun i => if i < k then g i else b i
theorem fl_0 (g b : Nat → Nat) (i : Nat) : b i = fl g b 0 i := by
  unfold fl
  rw [if_neg (by omega)]
theorem fl_n (g b : Nat → Nat) (n i : Nat) (h : i < n) : fl g b n i = g i := by
  unfold fl
  rw [if_pos h]
theorem fl_k (g b : Nat → Nat) (k i : Nat) (h : k ≤ i) : fl g b k i = b i := by
  unfold fl
  rw [if_neg (by omega)]
theorem fl_s (g b : Nat → Nat) (k i : Nat) : un (fl g b k) k (g k) i = fl g b (k + 1) i := by
  unfold un fl
  by_cases h : i = k
  · subst h
    rw [if_pos rfl, if_pos (by omega)]
  · rw [if_neg h]
    by_cases h2 : i < k
    · rw [if_pos h2, if_pos (by omega)]
    · rw [if_neg h2, if_neg (by omega)]
theorem akq_s (w : Nat → Int32) (j : Nat) (b : Nat → Nat) (k i : Nat) : un (akq w j b k) k (b k ^^^ wbt (w (4 * j + k / 4)) (k % 4)) i = akq w j b (k + 1) i := fl_s (akN w j b) b k i
def sfm (k : Nat) : Nat := (4 * (((k / 4) + (k % 4)) % 4)) + (k % 4)
theorem sfm_sf {k : Nat} (h : k < 16) : sfm k = sf k := (by decide +kernel : ∀ k, k < 16 → sfm k = sf k) k h
theorem sfm_lt (k : Nat) : sfm k < 16 := by
  unfold sfm
  omega
/-- where the r-th neighbour in the column stands -/
def nb (k r : Nat) : Nat := (k - (k % 4)) + (((k % 4) + r) % 4)
theorem nb_lt {k r : Nat} (h : k < 16) : nb k r < 16 := by
  unfold nb
  omega
def mmN (x1 x2 x3 x4 : Nat) (b : Nat → Nat) : Nat → Nat := fun k => ((tmN x1 (b k) ^^^ tmN x2 (b (nb k 1))) ^^^ tmN x3 (b (nb k 2))) ^^^ tmN x4 (b (nb k 3))
theorem nb4 (q r d : Nat) (hr : r < 4) : nb (4 * q + r) d = 4 * q + (r + d) % 4 := by
  unfold nb
  omega
theorem m_x1 (x y z u tx ty : Nat) : ((tx ^^^ (ty ^^^ y)) ^^^ z) ^^^ u = (((x ^^^ y) ^^^ z) ^^^ u) ^^^ x ^^^ (tx ^^^ ty) := by
  apply Nat.eq_of_testBit_eq
  intro i
  simp only [Nat.testBit_xor]
  cases x.testBit i <;> cases y.testBit i <;> cases z.testBit i <;> cases u.testBit i <;> cases tx.testBit i <;> cases ty.testBit i <;> rfl
theorem xr4 (x y z u : Nat) : ((x ^^^ y) ^^^ z) ^^^ u = ((y ^^^ z) ^^^ u) ^^^ x := by
  apply Nat.eq_of_testBit_eq
  intro i
  simp only [Nat.testBit_xor]
  cases x.testBit i <;> cases y.testBit i <;> cases z.testBit i <;> cases u.testBit i <;> rfl
/-- a column's sum, from any of its places -/
theorem col (b : Nat → Nat) (q r : Nat) (hr : r < 4) : ((b (4 * q) ^^^ b (4 * q + 1)) ^^^ b (4 * q + 2)) ^^^ b (4 * q + 3) = ((b (4 * q + r) ^^^ b (4 * q + (r + 1) % 4)) ^^^ b (4 * q + (r + 2) % 4)) ^^^ b (4 * q + (r + 3) % 4) := by
  rcases (show r = 0 ∨ r = 1 ∨ r = 2 ∨ r = 3 by omega) with rfl | rfl | rfl | rfl
  · rfl
  · exact xr4 _ _ _ _
  · exact (xr4 _ _ _ _).trans (xr4 _ _ _ _)
  · exact ((xr4 _ _ _ _).trans (xr4 _ _ _ _)).trans (xr4 _ _ _ _)
/-- the mixing by the four neighbours -/
theorem mixN_c (b : Nat → Nat) (h : ∀ i, b i < 256) (q r : Nat) (hr : r < 4) : mixN b (4 * q + r) = ((tw (b (4 * q + r)) ^^^ (tw (b (4 * q + (r + 1) % 4)) ^^^ b (4 * q + (r + 1) % 4))) ^^^ b (4 * q + (r + 2) % 4)) ^^^ b (4 * q + (r + 3) % 4) := by
  unfold mixN mx
  rw [show (4 * q + r) / 4 = q by omega, show (4 * q + r) % 4 = r by omega, tw_x (h _) (h _), col b q r hr]
  exact (m_x1 _ _ _ _ _ _).symm
theorem mm_mix {b : Nat → Nat} (h : ∀ i, b i < 256) (i : Nat) : mmN 2 3 1 1 b i = mixN b i := by
  obtain ⟨q, r, hr, rfl⟩ : ∃ q r, r < 4 ∧ i = 4 * q + r := ⟨i / 4, i % 4, by omega, by omega⟩
  rw [mixN_c b h q r hr]
  unfold mmN
  rw [nb4 q r 1 hr, nb4 q r 2 hr, nb4 q r 3 hr, tm2 (h _), tm3 (h _), tm1 (h _), tm1 (h _)]
theorem tw5 {a b c d e : Nat} (ha : a < 256) (hb : b < 256) (hc : c < 256) (hd : d < 256) (he : e < 256) : tw (((a ^^^ (b ^^^ c)) ^^^ d) ^^^ e) = ((tw a ^^^ (tw b ^^^ tw c)) ^^^ tw d) ^^^ tw e := by
  rw [tw_x (xor_lt (xor_lt ha (xor_lt hb hc)) hd) he, tw_x (xor_lt ha (xor_lt hb hc)) hd, tw_x ha (xor_lt hb hc), tw_x hb hc]
theorem bl2 : ∀ x0 x1 x2 x3 y0 y1 y2 y3 z0 z1 z2 : Bool,
    ((((((z0 ^^ (z1 ^^ y1)) ^^ y2) ^^ y3) ^^ ((((z1 ^^ (z2 ^^ y2)) ^^ y3) ^^ y0) ^^ (((y1 ^^ (y2 ^^ x2)) ^^ x3) ^^ x0))) ^^ (((y2 ^^ (y3 ^^ x3)) ^^ x0) ^^ x1)) ^^ (((y3 ^^ (y0 ^^ x0)) ^^ x1) ^^ x2)) = (((z0 ^^ x0) ^^ z2)) := by decide +kernel
theorem nx2 (x0 x1 x2 x3 y0 y1 y2 y3 z0 z1 z2 : Nat) :
    (((((z0 ^^^ (z1 ^^^ y1)) ^^^ y2) ^^^ y3) ^^^ ((((z1 ^^^ (z2 ^^^ y2)) ^^^ y3) ^^^ y0) ^^^ (((y1 ^^^ (y2 ^^^ x2)) ^^^ x3) ^^^ x0))) ^^^ (((y2 ^^^ (y3 ^^^ x3)) ^^^ x0) ^^^ x1)) ^^^ (((y3 ^^^ (y0 ^^^ x0)) ^^^ x1) ^^^ x2) = ((z0 ^^^ x0) ^^^ z2) := by
  apply Nat.eq_of_testBit_eq
  intro i
  simp only [Nat.testBit_xor]
  exact bl2 _ _ _ _ _ _ _ _ _ _ _
theorem mix2 (b : Nat → Nat) (h : ∀ i, b i < 256) (q r : Nat) (hr : r < 4) : mixN (mixN b) (4 * q + r) = (tw (tw (b (4 * q + r))) ^^^ b (4 * q + r)) ^^^ tw (tw (b (4 * q + (r + 2) % 4))) := by
  rw [mixN_c (mixN b) (mixN_lt h) q r hr, mixN_c b h q r hr, mixN_c b h q ((r + 1) % 4) (by omega), mixN_c b h q ((r + 2) % 4) (by omega), mixN_c b h q ((r + 3) % 4) (by omega)]
  rw [show ((r + 1) % 4 + 1) % 4 = (r + 2) % 4 by omega, show ((r + 1) % 4 + 2) % 4 = (r + 3) % 4 by omega, show ((r + 1) % 4 + 3) % 4 = r by omega, show ((r + 2) % 4 + 1) % 4 = (r + 3) % 4 by omega, show ((r + 2) % 4 + 2) % 4 = r by omega, show ((r + 2) % 4 + 3) % 4 = (r + 1) % 4 by omega, show ((r + 3) % 4 + 1) % 4 = r by omega, show ((r + 3) % 4 + 2) % 4 = (r + 1) % 4 by omega, show ((r + 3) % 4 + 3) % 4 = (r + 2) % 4 by omega]
  have h0 := h (4 * q + r)
  have h1 := h (4 * q + (r + 1) % 4)
  have h2 := h (4 * q + (r + 2) % 4)
  have h3 := h (4 * q + (r + 3) % 4)
  rw [tw5 (tw_lt h0) (tw_lt h1) h1 h2 h3, tw5 (tw_lt h1) (tw_lt h2) h2 h3 h0]
  exact nx2 _ _ _ _ _ _ _ _ _ _ _
theorem bl3 : ∀ x1 x2 x3 y0 y1 z0 z1 z2 z3 u0 u1 u2 u3 : Bool,
    (((((u0 ^^ y0) ^^ u2) ^^ (((u1 ^^ y1) ^^ u3) ^^ ((z1 ^^ x1) ^^ z3))) ^^ ((z2 ^^ x2) ^^ z0)) ^^ ((z3 ^^ x3) ^^ z1)) = ((((u0 ^^ (z0 ^^ y0)) ^^ (u1 ^^ (y1 ^^ x1))) ^^ (u2 ^^ (z2 ^^ x2))) ^^ (u3 ^^ x3)) := by decide +kernel
theorem nx3 (x1 x2 x3 y0 y1 z0 z1 z2 z3 u0 u1 u2 u3 : Nat) :
    ((((u0 ^^^ y0) ^^^ u2) ^^^ (((u1 ^^^ y1) ^^^ u3) ^^^ ((z1 ^^^ x1) ^^^ z3))) ^^^ ((z2 ^^^ x2) ^^^ z0)) ^^^ ((z3 ^^^ x3) ^^^ z1) = (((u0 ^^^ (z0 ^^^ y0)) ^^^ (u1 ^^^ (y1 ^^^ x1))) ^^^ (u2 ^^^ (z2 ^^^ x2))) ^^^ (u3 ^^^ x3) := by
  apply Nat.eq_of_testBit_eq
  intro i
  simp only [Nat.testBit_xor]
  exact bl3 _ _ _ _ _ _ _ _ _ _ _ _ _
theorem tw3 {a b c : Nat} (ha : a < 256) (hb : b < 256) (hc : c < 256) : tw ((a ^^^ b) ^^^ c) = (tw a ^^^ tw b) ^^^ tw c := by
  rw [tw_x (xor_lt ha hb) hc, tw_x ha hb]
theorem mm_unmix {b : Nat → Nat} (h : ∀ i, b i < 256) (i : Nat) : mmN 14 11 13 9 b i = mixN (mixN (mixN b)) i := by
  obtain ⟨q, r, hr, rfl⟩ : ∃ q r, r < 4 ∧ i = 4 * q + r := ⟨i / 4, i % 4, by omega, by omega⟩
  rw [mixN_c (mixN (mixN b)) (mixN_lt (mixN_lt h)) q r hr, mix2 b h q r hr, mix2 b h q ((r + 1) % 4) (by omega), mix2 b h q ((r + 2) % 4) (by omega), mix2 b h q ((r + 3) % 4) (by omega)]
  rw [show ((r + 1) % 4 + 2) % 4 = (r + 3) % 4 by omega, show ((r + 2) % 4 + 2) % 4 = r by omega, show ((r + 3) % 4 + 2) % 4 = (r + 1) % 4 by omega]
  unfold mmN
  rw [nb4 q r 1 hr, nb4 q r 2 hr, nb4 q r 3 hr, tm14 (h _), tm11 (h _), tm13 (h _), tm9 (h _)]
  have h0 := h (4 * q + r)
  have h1 := h (4 * q + (r + 1) % 4)
  have h2 := h (4 * q + (r + 2) % 4)
  have h3 := h (4 * q + (r + 3) % 4)
  rw [tw3 (tw_lt (tw_lt h0)) h0 (tw_lt (tw_lt h2)), tw3 (tw_lt (tw_lt h1)) h1 (tw_lt (tw_lt h3))]
  exact (nx3 _ _ _ _ _ _ _ _ _ _ _ _ _).symm
/-- the words: the reference's way -/
theorem sh_or (a b k : Nat) : (a ||| b) * 2 ^ k = (a * 2 ^ k) ||| (b * 2 ^ k) := by
  rw [← Nat.shiftLeft_eq, ← Nat.shiftLeft_eq, ← Nat.shiftLeft_eq, Nat.shiftLeft_or_distrib]
theorem rl8_n (t : Int32) : wN (rl8 t) = (wN t % 16777216) * 256 + wN t / 16777216 := by
  have h1 : t <<< (nI 8 &&& 31) = nI (wN t * 2 ^ 8) := by
    have h := n_shl (wN t) (k := 8) (by decide)
    rwa [nI_wN] at h
  have h2 : (t.toUInt32 >>> ((-(nI 8)).toUInt32 &&& Int32.toUInt32 31)).toInt32 = nI (wN t / 2 ^ 24) := by
    have h := w_ushr t (k := 24) (by decide)
    have e : ((-(nI 8)).toUInt32 &&& Int32.toUInt32 31) = ((nI 24).toUInt32 &&& Int32.toUInt32 31) := by decide
    rw [e]
    exact h
  have ht := wN_lt t
  unfold rl8
  rw [h1, h2, n_or]
  have e1 : nI (wN t * 2 ^ 8 ||| wN t / 2 ^ 24) = nI ((wN t % 16777216) * 256 + wN t / 16777216) := by
    apply Int32.toBitVec_inj.mp
    apply BitVec.eq_of_toNat_eq
    show (BitVec.ofNat 32 _).toNat = (BitVec.ofNat 32 _).toNat
    rw [BitVec.toNat_ofNat, BitVec.toNat_ofNat]
    have e2 : wN t * 2 ^ 8 ||| wN t / 2 ^ 24 = wN t * 2 ^ 8 + wN t / 2 ^ 24 := by
      rw [← Nat.shiftLeft_eq, Nat.shiftLeft_add_eq_or_of_lt (by omega)]
    rw [e2]
    omega
  rw [e1, wN_nI (by omega)]
theorem rl8_b (w : Int32) : wN (rl8 w) = wbt w 1 * 16777216 + wbt w 2 * 65536 + wbt w 3 * 256 + wbt w 0 := by
  rw [rl8_n]
  show (wN w % 16777216) * 256 + wN w / 16777216 = ((wN w / 65536) % 256) * 16777216 + ((wN w / 256) % 256) * 65536 + ((wN w / 1) % 256) * 256 + (wN w / 16777216) % 256
  have hw := wN_lt w
  have h1 : wN w % 16777216 = ((wN w / 65536) % 256) * 65536 + ((wN w / 256) % 256) * 256 + (wN w) % 256 := by omega
  have h2 : (wN w / 16777216) % 256 = wN w / 16777216 := by omega
  rw [h1, h2, Nat.div_one]
  omega
theorem p24 (x : Nat) : x * 2 ^ 8 * 2 ^ 8 * 2 ^ 8 = x * 2 ^ 24 := by omega
theorem p16 (x : Nat) : x * 2 ^ 8 * 2 ^ 8 = x * 2 ^ 16 := by omega
theorem chN_sw (sb : Nat → Nat) (w : Int32) : chN sb w 4 = swN sb (rl8 w) := by
  have e := rl8_b w
  have l0 := wbt_lt w 0
  have l1 := wbt_lt w 1
  have l2 := wbt_lt w 2
  have l3 := wbt_lt w 3
  have b1 : wN (rl8 w) / 2 ^ 24 = wbt w 1 := by
    rw [e]; omega
  have b2 : (wN (rl8 w) / 2 ^ 16) % 256 = wbt w 2 := by
    rw [e]; omega
  have b3 : (wN (rl8 w) / 2 ^ 8) % 256 = wbt w 3 := by
    rw [e]; omega
  have b0 : wN (rl8 w) % 256 = wbt w 0 := by
    rw [e]; omega
  unfold swN
  rw [b1, b2, b3, b0]
  show ((((((0 * 2 ^ 8) ||| sb (wbt w 1)) * 2 ^ 8) ||| sb (wbt w 2)) * 2 ^ 8 ||| sb (wbt w 3)) * 2 ^ 8 ||| sb (wbt w 0)) = _
  rw [sh_or, sh_or, sh_or, sh_or, sh_or, sh_or]
  simp only [Nat.zero_mul, Nat.zero_or]
  rw [p24, p16]
def enN (sb : Nat → Nat) (w : Nat → Int32) (b z : Nat → Nat) : Nat → Nat → Nat
  | 0 => z
  | j + 1 => if j + 1 < 10 then mixN (ssN sb (erN sb w b j)) else ssN sb (erN sb w b j)
theorem enN_m {sb : Nat → Nat} {w : Nat → Int32} {b z : Nat → Nat} {k : Nat} (h : k + 1 < 10) (i : Nat) : mixN (ssN sb (erN sb w b k)) i = enN sb w b z (k + 1) i := by
  rw [enN, if_pos h]
theorem enN_e {sb : Nat → Nat} {w : Nat → Int32} {b z : Nat → Nat} {k : Nat} (h : ¬ k + 1 < 10) (i : Nat) : ssN sb (erN sb w b k) i = enN sb w b z (k + 1) i := by
  rw [enN, if_neg h]
def dnN (ub : Nat → Nat) (w : Nat → Int32) (b z : Nat → Nat) : Nat → Nat → Nat
  | 0 => z
  | t + 1 => drN ub w b (t + 1)
def uqN (ub b z : Nat → Nat) (k : Nat) : Nat → Nat := fun i => if usf i < k then ub (b (usf i)) else z i
theorem uqN_0 (ub b z : Nat → Nat) (i : Nat) : z i = uqN ub b z 0 i := by
  unfold uqN
  rw [if_neg (by omega)]
theorem uqN_16 (ub b z : Nat → Nat) (i : Nat) : uqN ub b z 16 i = usN ub b i := by
  unfold uqN
  rw [if_pos (usf_lt i)]
  rfl
theorem uqN_s (ub b z : Nat → Nat) (k : Nat) (hk : k < 16) (i : Nat) (hi : i < 16) : un (uqN ub b z k) (sfm k) (ub (b k)) i = uqN ub b z (k + 1) i := by
  unfold un uqN
  rw [sfm_sf hk]
  by_cases h : i = sf k
  · have h2 := (usf_sf i hi k hk).mp h
    rw [if_pos h, if_pos (by omega), h2]
  · have h2 : ¬ usf i = k := fun z => h ((usf_sf i hi k hk).mpr z)
    rw [if_neg h]
    by_cases h3 : usf i < k
    · rw [if_pos h3, if_pos (by omega)]
    · rw [if_neg h3, if_neg (by omega)]
theorem zI0 {b : Bool} (h : zI b = 0) : b = false := by
  cases b
  · rfl
  · exact absurd h (by decide)
theorem zI1 {b : Bool} (h : ¬ zI b = 0) : b = true := by
  cases b
  · exact absurd rfl h
  · rfl
/-! the product's steps, the reference's way -/
def bN (b : Bool) : Nat := if b then 1 else 0
def gz (b : Bool) : Int32 := if b then 0 else -1
theorem gz_e (b : Bool) : lg_cmp (lN (bN b)) (lN 1) = gz b := by cases b <;> decide
theorem gz_t {b : Bool} (h : gz b = 0) : b = true := by
  cases b
  · exact absurd h (by decide)
  · rfl
theorem gz_f {b : Bool} (h : ¬ gz b = 0) : b = false := by
  cases b
  · rfl
  · exact absurd rfl h
/-- a bit of a long, by an arithmetic shift -/
theorem l_bit (x : Int64) {k : Nat} (hk : k < 64) : (x >>> ((nI k).toInt64 &&& 63)) &&& lN 1 = lN (bN (x.toBitVec.getLsbD k)) := by
  apply Int64.toBitVec_inj.mp
  apply BitVec.eq_of_getLsbD_eq
  intro i hi
  rw [Int64.toBitVec_and, BitVec.getLsbD_and, Int64.toBitVec_shiftRight]
  show ((x.toBitVec.sshiftRight (((nI k).toInt64 &&& 63).toBitVec.smod 64).toNat).getLsbD i && (BitVec.ofNat 64 1).getLsbD i) = (BitVec.ofNat 64 (bN (x.toBitVec.getLsbD k))).getLsbD i
  rw [l_sl k hk, BitVec.getLsbD_sshiftRight]
  cases i with
  | zero =>
    have h4 : ¬ 64 ≤ 0 := by decide
    simp only [Nat.add_zero, hk, h4, if_true, decide_false, Bool.not_false, Bool.true_and]
    cases x.toBitVec.getLsbD k <;> rfl
  | succ i =>
    have e1 : (BitVec.ofNat 64 1).getLsbD (i + 1) = false := by simp
    rw [e1, Bool.and_false]
    cases x.toBitVec.getLsbD k
    · simp [bN]
    · simp [bN]
theorem gb_hi (mh ml : Int64) {k : Nat} (h : k < 64) : (mh >>> ((nI (63 - k)).toInt64 &&& 63)) &&& lN 1 = lN (bN (gbt mh ml k)) := by
  rw [l_bit mh (by omega)]
  unfold gbt
  rw [if_pos h]
theorem gb_lo (mh ml : Int64) {k : Nat} (h : 64 ≤ k) (h2 : k < 128) : (ml >>> ((nI (127 - k)).toInt64 &&& 63)) &&& lN 1 = lN (bN (gbt mh ml k)) := by
  rw [l_bit ml (by omega)]
  unfold gbt
  rw [if_neg (show ¬ k < 64 by omega)]
theorem gb_0 (x : Int64) : x &&& lN 1 = lN (bN (x.toBitVec.getLsbD 0)) := by
  have h : x &&& lN 1 = lN (lW x / 2 ^ 0 &&& 1) := by
    have h1 := l_and (lW x) 1
    rw [lN_lW] at h1
    rw [h1, Nat.pow_zero, Nat.div_one]
  rw [h, lbit]
  rfl
theorem gs1t {mh ml oh ol : Int64} {k : Nat} (h : gz (gbt mh ml k) = 0) : (gst mh ml oh ol k).1 ^^^ (gst mh ml oh ol k).2.2.1 = (gst mh ml oh ol (k + 1)).1 := by
  show _ = if gbt mh ml k then _ else _
  rw [gz_t h]; rfl
theorem gs1f {mh ml oh ol : Int64} {k : Nat} (h : ¬ gz (gbt mh ml k) = 0) : (gst mh ml oh ol k).1 = (gst mh ml oh ol (k + 1)).1 := by
  show _ = if gbt mh ml k then _ else _
  rw [gz_f h]; rfl
theorem gs2t {mh ml oh ol : Int64} {k : Nat} (h : gz (gbt mh ml k) = 0) : (gst mh ml oh ol k).2.1 ^^^ (gst mh ml oh ol k).2.2.2 = (gst mh ml oh ol (k + 1)).2.1 := by
  show _ = if gbt mh ml k then _ else _
  rw [gz_t h]; rfl
theorem gs2f {mh ml oh ol : Int64} {k : Nat} (h : ¬ gz (gbt mh ml k) = 0) : (gst mh ml oh ol k).2.1 = (gst mh ml oh ol (k + 1)).2.1 := by
  show _ = if gbt mh ml k then _ else _
  rw [gz_f h]; rfl
theorem gs3t {mh ml oh ol : Int64} {k : Nat} (h : gz ((gst mh ml oh ol k).2.2.2.toBitVec.getLsbD 0) = 0) : ((gst mh ml oh ol k).2.2.1.toUInt64 >>> ((nI 1).toInt64.toUInt64 &&& Int64.toUInt64 63)).toInt64 ^^^ (-2233785415175766016 : Int64) = (gst mh ml oh ol (k + 1)).2.2.1 := by
  show _ = if (gst mh ml oh ol k).2.2.2.toBitVec.getLsbD 0 then _ else _
  rw [gz_t h]; rfl
theorem gs3f {mh ml oh ol : Int64} {k : Nat} (h : ¬ gz ((gst mh ml oh ol k).2.2.2.toBitVec.getLsbD 0) = 0) : ((gst mh ml oh ol k).2.2.1.toUInt64 >>> ((nI 1).toInt64.toUInt64 &&& Int64.toUInt64 63)).toInt64 = (gst mh ml oh ol (k + 1)).2.2.1 := by
  show _ = if (gst mh ml oh ol k).2.2.2.toBitVec.getLsbD 0 then _ else _
  rw [gz_f h]; rfl
def pbN (y : Int64) (k : Nat) : Nat := (lW y / 2 ^ (8 * k)) % 256
theorem pbN_lt (y : Int64) (k : Nat) : pbN y k < 256 := Nat.mod_lt _ (by decide)
def ctL (nr : Int32) (num : Nat) : Int64 := (nr.toInt64 <<< ((nI 32).toInt64 &&& 63)) ||| lN num
/-- a block of the mask -/
def mkN (sb : Nat → Nat) (w : Nat → Int32) (nh : Int64) (nr : Int32) (num : Nat) : Nat → Nat := erN sb w (ldN nh (ctL nr num)) 10
theorem mkN_lt {sb : Nat → Nat} {w : Nat → Int32} {nh : Int64} {nr : Int32} {num : Nat} (hs : ∀ i, sb i < 256) (i : Nat) : mkN sb w nh nr num i < 256 := erN_lt hs (ldN_lt _ _) 10 i
/-- a byte of the mask -/
def mskN (sb : Nat → Nat) (w : Nat → Int32) (nh : Int64) (nr : Int32) (i : Nat) : Nat := mkN sb w nh nr (2 + (i / 16)) (i % 16)
def tpg (sb : Nat → Nat) (w : Nat → Int32) (nh : Int64) (nr : Int32) (y : Int64) (nt : Nat) : Nat → Nat := fun j => pbN y j ^^^ mskN sb w nh nr (nt + j)
theorem tpg_lt {sb : Nat → Nat} {w : Nat → Int32} {nh : Int64} {nr : Int32} {y : Int64} {nt : Nat} (hs : ∀ i, sb i < 256) (j : Nat) : tpg sb w nh nr y nt j < 256 := xor_lt (pbN_lt _ _) (mkN_lt hs _)
def umt (sb : Nat → Nat) (w : Nat → Int32) (nh : Int64) (nr : Int32) (tb : Nat → Nat) : Nat → Nat := fun i => tb i ^^^ mskN sb w nh nr i
/-- a row written from a place on -/
def ofl (g b : Nat → Nat) (o k : Nat) : Nat → Nat := fun i => if o ≤ i ∧ i < o + k then g (i - o) else b i
theorem ofl_0 (g b : Nat → Nat) (o i : Nat) : b i = ofl g b o 0 i := by
  unfold ofl
  rw [if_neg (by omega)]
theorem ofl_s (g b : Nat → Nat) (o k i : Nat) : un (ofl g b o k) (o + k) (g k) i = ofl g b o (k + 1) i := by
  unfold un ofl
  by_cases h : i = o + k
  · subst h
    rw [if_pos rfl, if_pos (by omega), show o + k - o = k by omega]
  · rw [if_neg h]
    by_cases h2 : o ≤ i ∧ i < o + k
    · rw [if_pos h2, if_pos (by omega)]
    · rw [if_neg h2, if_neg (by omega)]
/-- the sealed bytes of a piece, as a long -/
def slN (g : Nat → Nat) : Nat → Nat
  | 0 => 0
  | k + 1 => slN g k ||| (g k * 2 ^ (8 * k))
/-- blocks folded into the sum -/
def gmN (yh yl fh fw : Int64) : Int64 × Int64 := ((gst yh yl fh fw 128).1, (gst yh yl fh fw 128).2.1)
def fgN (b : Nat → Nat) (cn : Nat) (fh fw : Int64) (y : Int64 × Int64) : Nat → Int64 × Int64
  | 0 => y
  | k + 1 => gmN ((fgN b cn fh fw y k).1 ^^^ lN (jbN b (16 * k) cn 8)) ((fgN b cn fh fw y k).2 ^^^ lN (jbN b (16 * k + 8) cn 8)) fh fw
def rfN (a1 a2 a3 : Bool) : Int32 := if a1 then nI 1 else if a2 then nI 2 else if a3 then nI 3 else nI 0
def syN (og : Bool) (sb : Nat → Nat) (w : Nat → Int32) (nh : Int64) (nr : Int32) (gv : Nat → Nat) (i : Nat) : Nat := if og then gv i else gv i ^^^ mskN sb w nh nr i
def uwN (ph : Nat) : Bool := decide (ph = 1 ∨ ph = 2)

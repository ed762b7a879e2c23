/-! numbers: ints and longs that are natural numbers. wb_* are pasted from the laws of bits -/
def wN (x : Int32) : Nat := x.toBitVec.toNat
def lW (x : Int64) : Nat := x.toBitVec.toNat
theorem wN_lt (x : Int32) : wN x < 4294967296 := x.toBitVec.isLt
theorem lW_lt (x : Int64) : lW x < 18446744073709551616 := x.toBitVec.isLt
theorem nI_wN (x : Int32) : nI (wN x) = x := Int32.toBitVec_inj.mp (by show BitVec.ofNat 32 x.toBitVec.toNat = x.toBitVec; simp)
theorem lN_lW (x : Int64) : lN (lW x) = x := Int64.toBitVec_inj.mp (by show BitVec.ofNat 64 x.toBitVec.toNat = x.toBitVec; simp)
theorem wN_nI {n : Nat} (h : n < 4294967296) : wN (nI n) = n := pk_tn h
theorem lW_lN {n : Nat} (h : n < 18446744073709551616) : lW (lN n) = n := Nat.mod_eq_of_lt h
theorem n_sl : ∀ n, n < 32 → ((nI n &&& 31).toBitVec.smod 32).toNat = n := by decide +kernel
theorem n_su : ∀ n, n < 32 → (((nI n).toUInt32 &&& Int32.toUInt32 31).toBitVec % 32).toNat = n := by decide +kernel
theorem n_and (a b : Nat) : nI a &&& nI b = nI (a &&& b) := by
  apply Int32.toBitVec_inj.1
  show BitVec.ofNat 32 a &&& BitVec.ofNat 32 b = BitVec.ofNat 32 (a &&& b)
  apply BitVec.eq_of_getLsbD_eq
  intro i hi
  simp [hi]
theorem n_xor (a b : Nat) : nI a ^^^ nI b = nI (a ^^^ b) := by
  apply Int32.toBitVec_inj.1
  show BitVec.ofNat 32 a ^^^ BitVec.ofNat 32 b = BitVec.ofNat 32 (a ^^^ b)
  apply BitVec.eq_of_getLsbD_eq
  intro i hi
  simp [hi]
theorem n_or (a b : Nat) : nI a ||| nI b = nI (a ||| b) := by
  apply Int32.toBitVec_inj.1
  show BitVec.ofNat 32 a ||| BitVec.ofNat 32 b = BitVec.ofNat 32 (a ||| b)
  apply BitVec.eq_of_getLsbD_eq
  intro i hi
  simp [hi]
theorem l_and (a b : Nat) : lN a &&& lN b = lN (a &&& b) := by
  apply Int64.toBitVec_inj.1
  show BitVec.ofNat 64 a &&& BitVec.ofNat 64 b = BitVec.ofNat 64 (a &&& b)
  apply BitVec.eq_of_getLsbD_eq
  intro i hi
  simp [hi]
theorem l_or (a b : Nat) : lN a ||| lN b = lN (a ||| b) := by
  apply Int64.toBitVec_inj.1
  show BitVec.ofNat 64 a ||| BitVec.ofNat 64 b = BitVec.ofNat 64 (a ||| b)
  apply BitVec.eq_of_getLsbD_eq
  intro i hi
  simp [hi]
theorem n_shl (a : Nat) {k : Nat} (hk : k < 32) : nI a <<< (nI k &&& 31) = nI (a * 2 ^ k) := by
  apply Int32.toBitVec_inj.mp
  apply BitVec.eq_of_toNat_eq
  rw [pk_shl _ _ k (n_sl k hk)]
  show (BitVec.ofNat 32 a).toNat * 2 ^ k % 2 ^ 32 = (BitVec.ofNat 32 (a * 2 ^ k)).toNat
  rw [BitVec.toNat_ofNat, BitVec.toNat_ofNat, Nat.mul_mod, Nat.mod_mod, ← Nat.mul_mod]
theorem n_ushr {a k : Nat} (ha : a < 4294967296) (hk : k < 32) : ((nI a).toUInt32 >>> ((nI k).toUInt32 &&& Int32.toUInt32 31)).toInt32 = nI (a / 2 ^ k) := pk_ushrN ha (nI k) k (n_su k hk)
theorem n_shr {a k : Nat} (ha : a < 2147483648) (hk : k < 32) : nI a >>> (nI k &&& 31) = nI (a / 2 ^ k) := pk_shrN ha _ k (n_sl k hk)
theorem w_ushr (x : Int32) {k : Nat} (hk : k < 32) : (x.toUInt32 >>> ((nI k).toUInt32 &&& Int32.toUInt32 31)).toInt32 = nI (wN x / 2 ^ k) := by
  have h := n_ushr (wN_lt x) hk
  rwa [nI_wN] at h
theorem n_m255 (a : Nat) : nI a &&& nI 255 = nI (a % 256) := by
  rw [n_and, show (255 : Nat) = 2 ^ 8 - 1 from rfl, Nat.and_two_pow_sub_one_eq_mod]
theorem n_m1 (a : Nat) : nI a &&& nI 1 = nI (a % 2) := by
  rw [n_and, Nat.and_one_is_mod]
theorem w_m255 (x : Int32) : x &&& nI 255 = nI (wN x % 256) := by
  have h := n_m255 (wN x)
  rwa [nI_wN] at h
theorem b255 : ∀ i, i < 32 → (nI 255).toBitVec.getLsbD i = decide (i < 8) := by decide +kernel
theorem b255l : ∀ i, i < 64 → (lN 255).toBitVec.getLsbD i = decide (i < 8) := by decide +kernel
/-- a byte of a word, by an arithmetic shift -/
theorem w_sb (x : Int32) {k : Nat} (hk : k ≤ 24) : (x >>> (nI k &&& 31)) &&& nI 255 = nI (wN x / 2 ^ k % 256) := by
  apply Int32.toBitVec_inj.mp
  apply BitVec.eq_of_getLsbD_eq
  intro i hi
  rw [Int32.toBitVec_and, BitVec.getLsbD_and, b255 i hi, Int32.toBitVec_shiftRight]
  show ((x.toBitVec.sshiftRight ((nI k &&& 31).toBitVec.smod 32).toNat).getLsbD i && decide (i < 8)) = (BitVec.ofNat 32 (wN x / 2 ^ k % 256)).getLsbD i
  rw [n_sl k (by omega), BitVec.getLsbD_sshiftRight, BitVec.getLsbD_ofNat, show (256 : Nat) = 2 ^ 8 from rfl, Nat.testBit_mod_two_pow, Nat.testBit_div_two_pow]
  by_cases h8 : i < 8
  · have h3 : k + i < 32 := by omega
    have h4 : ¬ 32 ≤ i := by omega
    simp [h8, hi, h3, h4, wN, BitVec.getLsbD]
    rw [Nat.add_comm]
  · simp [h8]
theorem wb_tb (n : Nat) : (lN n).toBitVec = BitVec.ofNat 64 n := rfl
theorem wb_inj {a b : Int64} (h : a.toBitVec = b.toBitVec) : a = b := Int64.toBitVec_inj.mp h
theorem wb_tn {n : Nat} (h : n < 2 ^ 64) : (lN n).toBitVec.toNat = n := by rw [wb_tb, BitVec.toNat_ofNat, Nat.mod_eq_of_lt h]
theorem wb_c : ∀ k, k < 64 → ((nI k).toInt64 &&& 63) = lN k := by decide +kernel
theorem wb_cu : ∀ k, k < 64 → ((nI k).toInt64.toUInt64 &&& Int64.toUInt64 63) = UInt64.ofNat k := by decide +kernel
theorem wb_sm : ∀ k, k < 64 → (BitVec.ofNat 64 k).smod 64 = BitVec.ofNat 64 k := by decide +kernel
theorem wb_shr {n k : Nat} (hn : n < 2 ^ 64) (hk : k < 64) : ((lN n).toUInt64 >>> ((nI k).toInt64.toUInt64 &&& Int64.toUInt64 63)).toInt64 = lN (n / 2 ^ k) := by
  rw [wb_cu k hk]
  apply wb_inj
  apply BitVec.eq_of_toNat_eq
  show ((lN n).toUInt64 >>> UInt64.ofNat k).toNat = (BitVec.ofNat 64 _).toNat
  have h1 : (UInt64.ofNat k).toNat = k := by
    show (BitVec.ofNat 64 k).toNat = k
    rw [BitVec.toNat_ofNat, Nat.mod_eq_of_lt (by omega)]
  have h2 : (lN n).toUInt64.toNat = n := wb_tn hn
  rw [UInt64.toNat_shiftRight, h1, h2, Nat.mod_eq_of_lt hk, Nat.shiftRight_eq_div_pow, BitVec.toNat_ofNat, Nat.mod_eq_of_lt (Nat.lt_of_le_of_lt (Nat.div_le_self _ _) hn)]
theorem wb_shl (n : Nat) {k : Nat} (hk : k < 64) : lN n <<< ((nI k).toInt64 &&& 63) = lN (n * 2 ^ k) := by
  rw [wb_c k hk]
  apply wb_inj
  rw [Int64.toBitVec_shiftLeft, wb_tb, wb_tb, wb_tb, wb_sm k hk]
  apply BitVec.eq_of_toNat_eq
  rw [BitVec.shiftLeft_eq', BitVec.toNat_shiftLeft, BitVec.toNat_ofNat, BitVec.toNat_ofNat, BitVec.toNat_ofNat, Nat.mod_eq_of_lt (show k < 2 ^ 64 by omega), Nat.shiftLeft_eq, Nat.mul_mod, Nat.mod_mod, ← Nat.mul_mod]
theorem l_ushr (x : Int64) {k : Nat} (hk : k < 64) : (x.toUInt64 >>> ((nI k).toInt64.toUInt64 &&& Int64.toUInt64 63)).toInt64 = lN (lW x / 2 ^ k) := by
  have h := wb_shr (n := lW x) (lW_lt x) hk
  rwa [lN_lW] at h
theorem l_toI (x : Int64) : x.toInt32 = nI (lW x) := by
  have h := lN_i (lW x)
  rwa [lN_lW] at h
theorem l_sl : ∀ n, n < 64 → (((nI n).toInt64 &&& 63).toBitVec.smod 64).toNat = n := by decide +kernel
/-- a byte of a long, by an arithmetic shift -/
theorem l_sb (x : Int64) {k : Nat} (hk : k ≤ 56) : (x >>> ((nI k).toInt64 &&& 63)) &&& lN 255 = lN (lW x / 2 ^ k % 256) := by
  apply Int64.toBitVec_inj.mp
  apply BitVec.eq_of_getLsbD_eq
  intro i hi
  rw [Int64.toBitVec_and, BitVec.getLsbD_and, b255l i hi, Int64.toBitVec_shiftRight]
  show ((x.toBitVec.sshiftRight (((nI k).toInt64 &&& 63).toBitVec.smod 64).toNat).getLsbD i && decide (i < 8)) = (BitVec.ofNat 64 (lW x / 2 ^ k % 256)).getLsbD i
  rw [l_sl k (by omega), BitVec.getLsbD_sshiftRight, BitVec.getLsbD_ofNat, show (256 : Nat) = 2 ^ 8 from rfl, Nat.testBit_mod_two_pow, Nat.testBit_div_two_pow]
  by_cases h8 : i < 8
  · have h3 : k + i < 64 := by omega
    have h4 : ¬ 64 ≤ i := by omega
    simp [h8, hi, h3, h4, lW, BitVec.getLsbD]
    rw [Nat.add_comm]
  · simp [h8]
theorem ix_le {a b : Nat} (h1 : a < 2147483648) (h2 : b < 2147483648) : nI a ≤ nI b ↔ a ≤ b := nI_leI h1 h2
theorem ix_lt {a b : Nat} (h1 : a < 2147483648) (h2 : b < 2147483648) : nI a < nI b ↔ a < b := nI_ltI h1 h2
theorem ix_eq {a b : Nat} (h1 : a < 2147483648) (h2 : b < 2147483648) : nI a = nI b ↔ a = b := nI_eq h1 h2
theorem ix_inc (a n : Nat) : nI a + Int32.ofInt n = nI (a + n) := by rw [← nI_add]; rfl
theorem ix_dec {a : Nat} (h : 1 ≤ a) : nI a + Int32.ofInt (-1) = nI (a - 1) := by
  obtain ⟨b, rfl⟩ : ∃ b, a = b + 1 := ⟨a - 1, by omega⟩
  exact pk_m1 b
theorem xor_lt {a b : Nat} (ha : a < 256) (hb : b < 256) : a ^^^ b < 256 := Nat.xor_lt_two_pow (n := 8) ha hb

/-! the reference's calls -/
theorem ge_le {v : Int32} {a b : Nat} (h : v < 0 ∨ nI a ≤ v) (h0 : ¬ v < 0) (hab : b < a ∧ a < 2147483648) : ¬ v ≤ nI b := by
  intro h2
  rcases h with h | h
  · exact h0 h
  · have h3 : nI a ≤ nI b := Int32.le_trans h h2
    have h4 := (nI_leI hab.2 (Nat.lt_trans hab.1 hab.2)).mp h3
    omega
def mn8 (k : Nat) : Nat := if k < 8 then k else 8
theorem fo1b {b : Nat → Nat} {fr en k : Nat} (h8 : k < 8) (h : fr + k < en) : (jbN b fr en (mn8 k) * 2 ^ 8) ||| b (fr + k) = jbN b fr en (mn8 (k + 1)) := by
  have e1 : mn8 k = k := if_pos h8
  have e2 : mn8 (k + 1) = k + 1 := by
    unfold mn8
    split <;> omega
  rw [e1, e2, jbN_t h]
theorem fo1z {b : Nat → Nat} {fr en k : Nat} (h8 : k < 8) (h : ¬ fr + k < en) : (jbN b fr en (mn8 k) * 2 ^ 8) ||| 0 = jbN b fr en (mn8 (k + 1)) := by
  have e1 : mn8 k = k := if_pos h8
  have e2 : mn8 (k + 1) = k + 1 := by
    unfold mn8
    split <;> omega
  rw [e1, e2, jbN_f h]
theorem fo1n {b : Nat → Nat} {fr en k : Nat} (h8 : 8 ≤ k) : jbN b fr en (mn8 k) = jbN b fr en (mn8 (k + 1)) := by
  unfold mn8
  rw [if_neg (by omega), if_neg (by omega)]
theorem fo2n {b : Nat → Nat} {fr en k : Nat} (h8 : k < 8) : jbN b fr en (k - 8) = jbN b fr en (k + 1 - 8) := by
  rw [show k - 8 = k + 1 - 8 by omega]
theorem fo2b {b : Nat → Nat} {fr en k : Nat} (h8 : 8 ≤ k) (h : fr + k < en) : (jbN b (fr + 8) en (k - 8) * 2 ^ 8) ||| b (fr + k) = jbN b (fr + 8) en (k + 1 - 8) := by
  rw [show k + 1 - 8 = (k - 8) + 1 by omega, ← jbN_t (by omega), show fr + 8 + (k - 8) = fr + k by omega]
theorem fo2z {b : Nat → Nat} {fr en k : Nat} (h8 : 8 ≤ k) (h : ¬ fr + k < en) : (jbN b (fr + 8) en (k - 8) * 2 ^ 8) ||| 0 = jbN b (fr + 8) en (k + 1 - 8) := by
  rw [show k + 1 - 8 = (k - 8) + 1 by omega, ← jbN_f (by omega)]
theorem syN_lt {og : Bool} {sb : Nat → Nat} {w : Nat → Int32} {nh : Int64} {nr : Int32} {gv : Nat → Nat} (hs : ∀ i, sb i < 256) (hg : ∀ i, gv i < 256) (i : Nat) : syN og sb w nh nr gv i < 256 := by
  unfold syN
  split
  · exact hg i
  · exact xor_lt (hg i) (mkN_lt hs _)

theorem myN_lt {k : Nat} (h : k ≤ 255) : myN k < 256 := by
  rw [myN_pw k h]
  exact pwN_lt _

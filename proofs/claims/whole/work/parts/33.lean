/-! what the calls of the stream answer -/
def rdbN (ph : Nat) (og : Bool) : Bool := decide (ph = 4) || (decide (ph ≠ 0) && !og)
theorem rdb_4 {ph : Nat} {og : Bool} (h : ph = 4) : rdbN ph og = true := by
  unfold rdbN
  rw [decide_eq_true h, Bool.true_or]
theorem rdb_0 {ph : Nat} {og : Bool} (h : ph = 0) : rdbN ph og = false := by
  subst h
  rfl
theorem rdb_o {ph : Nat} {og : Bool} (h4 : ¬ ph = 4) (h0 : ¬ ph = 0) : rdbN ph og = !og := by
  unfold rdbN
  rw [decide_eq_false h4, decide_eq_true (show ph ≠ 0 from h0), Bool.false_or, Bool.true_and]
/-- the tag: of the bytes ab that go along, and of the sealed bytes tb -/
def hkN (sb : Nat → Nat) (w : Nat → Int32) : Nat → Nat := erN sb w (ldN (lN 0) (lN 0)) 10
def tyN (sb : Nat → Nat) (w : Nat → Int32) (ab : Nat → Nat) (na : Nat) (tb : Nat → Nat) (nt : Nat) : Int64 × Int64 :=
  fgN tb nt (lN (jbN (hkN sb w) 0 16 8)) (lN (jbN (hkN sb w) 8 16 8)) ((fgN ab na (lN (jbN (hkN sb w) 0 16 8)) (lN (jbN (hkN sb w) 8 16 8)) (lN 0, lN 0) ((na + 15) / 16)).1, (fgN ab na (lN (jbN (hkN sb w) 0 16 8)) (lN (jbN (hkN sb w) 8 16 8)) (lN 0, lN 0) ((na + 15) / 16)).2) ((nt + 15) / 16)
def tzN (sb : Nat → Nat) (w : Nat → Int32) (ab : Nat → Nat) (na : Nat) (tb : Nat → Nat) (nt : Nat) : Int64 × Int64 :=
  gmN ((tyN sb w ab na tb nt).1 ^^^ lN (8 * na)) ((tyN sb w ab na tb nt).2 ^^^ lN (8 * nt)) (lN (jbN (hkN sb w) 0 16 8)) (lN (jbN (hkN sb w) 8 16 8))
def tgN (sb : Nat → Nat) (w : Nat → Int32) (nh : Int64) (nr : Int32) (ab : Nat → Nat) (na : Nat) (tb : Nat → Nat) (nt : Nat) : Int64 × Int64 :=
  ((tzN sb w ab na tb nt).1 ^^^ lN (jbN (mkN sb w nh nr 1) 0 16 8), (tzN sb w ab na tb nt).2 ^^^ lN (jbN (mkN sb w nh nr 1) 8 16 8))
def eqB (a b c d : Int64) : Bool := decide (a = b ∧ c = d)
theorem cmp0 {x : Int64} : lg_cmp x (lN 0) = 0 ↔ x = lN 0 := by
  unfold lg_cmp
  by_cases h : x > lN 0
  · rw [if_pos h]
    refine ⟨fun z => absurd z (by decide), fun z => ?_⟩
    rw [z] at h
    exact absurd h (by decide)
  · rw [if_neg h]
    by_cases h2 : x = lN 0
    · rw [if_pos h2]
      exact ⟨fun _ => h2, fun _ => rfl⟩
    · rw [if_neg h2]
      exact ⟨fun z => absurd z (by decide), fun z => absurd z h2⟩
theorem xo0 {a b c d : Int64} : (a ^^^ b) ||| (c ^^^ d) = lN 0 ↔ a = b ∧ c = d := by
  constructor
  · intro h
    have hb : ∀ i, i < 64 → ((a.toBitVec.getLsbD i ^^ b.toBitVec.getLsbD i) || (c.toBitVec.getLsbD i ^^ d.toBitVec.getLsbD i)) = false := by
      intro i hi
      have h1 := congrArg (fun z : Int64 => z.toBitVec.getLsbD i) h
      simp only [Int64.toBitVec_or, Int64.toBitVec_xor, BitVec.getLsbD_or, BitVec.getLsbD_xor] at h1
      rw [h1]
      show (BitVec.ofNat 64 0).getLsbD i = false
      simp
    refine ⟨Int64.toBitVec_inj.mp (BitVec.eq_of_getLsbD_eq fun i hi => ?_), Int64.toBitVec_inj.mp (BitVec.eq_of_getLsbD_eq fun i hi => ?_)⟩
    · have h1 := hb i hi
      revert h1
      cases a.toBitVec.getLsbD i <;> cases b.toBitVec.getLsbD i <;> simp
    · have h1 := hb i hi
      revert h1
      cases c.toBitVec.getLsbD i <;> cases d.toBitVec.getLsbD i <;> simp
  · rintro ⟨rfl, rfl⟩
    apply Int64.toBitVec_inj.mp
    show (a.toBitVec ^^^ a.toBitVec) ||| (c.toBitVec ^^^ c.toBitVec) = BitVec.ofNat 64 0
    simp
theorem lc_t {a b c d : Int64} (h : lg_cmp ((a ^^^ b) ||| (c ^^^ d)) (lN 0) = 0) : eqB a b c d = true := decide_eq_true (xo0.mp (cmp0.mp h))
theorem lc_f {a b c d : Int64} (h : ¬ lg_cmp ((a ^^^ b) ||| (c ^^^ d)) (lN 0) = 0) : eqB a b c d = false := decide_eq_false (fun z => h (cmp0.mpr (xo0.mpr z)))
theorem cmpx {x y : Int64} : lg_cmp x y = 0 ↔ x = y := by
  unfold lg_cmp
  by_cases h : x > y
  · rw [if_pos h]
    refine ⟨fun z => absurd z (by decide), fun z => ?_⟩
    rw [z] at h
    exact absurd h (Int64.lt_irrefl)
  · rw [if_neg h]
    by_cases h2 : x = y
    · rw [if_pos h2]
      exact ⟨fun _ => h2, fun _ => rfl⟩
    · rw [if_neg h2]
      exact ⟨fun z => absurd z (by decide), fun z => absurd z h2⟩
theorem eq_n1 {a b c d : Int64} (h : ¬ a = b) : eqB a b c d = false := decide_eq_false (fun z => h z.1)
theorem eq_n2 {a b c d : Int64} (h : ¬ c = d) : eqB a b c d = false := decide_eq_false (fun z => h z.2)
theorem eq_y {a b c d : Int64} (h : a = b) (h2 : c = d) : eqB a b c d = true := decide_eq_true ⟨h, h2⟩
/-- whether the reference shows the text -/
def shN (ph : Nat) (og : Bool) : Bool := (!og && (uwN ph || decide (ph = 3))) || decide (ph = 4)
theorem shA {ph : Nat} {og : Bool} (h1 : og = false) (h2 : uwN ph = true) : shN ph og = true := by
  unfold shN
  rw [h1, h2]
  rfl
theorem shB {ph : Nat} {og : Bool} (h1 : og = false) (h2 : ph = 3) : shN ph og = true := by
  subst h1; subst h2
  rfl
theorem shC {ph : Nat} {og : Bool} (h2 : ph = 4) : shN ph og = true := by
  subst h2
  unfold shN
  rw [decide_eq_true rfl, Bool.or_true]
theorem shD {ph : Nat} {og : Bool} (h1 : og = true) (h2 : ¬ ph = 4) : shN ph og = false := by
  unfold shN
  rw [h1, decide_eq_false h2]
  rfl
theorem shE {ph : Nat} {og : Bool} (h1 : og = false) (h2 : uwN ph = false) (h3 : ¬ ph = 3) (h4 : ¬ ph = 4) : shN ph og = false := by
  unfold shN
  rw [h1, h2, decide_eq_false h3, decide_eq_false h4]
  rfl

/-! The words of the document, as functions. -/
theorem r1 {B : Bool} (h : B = true) : some (Value.int (nI 1)) = some (Value.int (b2i B)) := by rw [h]; rfl
theorem r0 {B : Bool} (h : B = false) : some (Value.int (nI 0)) = some (Value.int (b2i B)) := by rw [h]; rfl
/-- a number from 0 on, below n -/
def inR (x : Int32) (n : Nat) : Bool := decide (¬ x < 0) && decide (¬ nI n ≤ x)
theorem inR_of {x : Int32} {n : Nat} (h : inR x n = true) (hn : n < 2 ^ 31) : ∃ j : Nat, j < n ∧ x = nI j := by
  simp only [inR, Bool.and_eq_true, decide_eq_true_eq] at h
  obtain ⟨j, hj, rfl⟩ := nI_of h.1
  refine ⟨j, ?_, rfl⟩
  rcases Nat.lt_or_ge j n with q | q
  · exact q
  · exact absurd (nI_le q hj) h.2
theorem inR_nI {j n : Nat} (hj : j < 2 ^ 31) (hn : n < 2 ^ 31) : inR (nI j) n = decide (j < n) := by
  simp only [inR, nI_pos hj, not_false_eq_true, decide_true, Bool.true_and]
  have := nI_leI hn hj
  by_cases h : j < n
  · simp only [h, decide_true, decide_eq_true_eq, this]; omega
  · simp only [h, decide_false, decide_eq_false_iff_not, this]; omega
/-- elder e and beginner b CAN be a pair -/
def canB (le lb : Nat → Nat) (br : Nat → Bool) (e b : Nat) : Bool := decide (le (e * 16 + b) ≠ 0) && decide (lb (e * 16 + b) ≠ 0) && !br (e * 16 + b)
/-- beginner b PREFERS elder e to elder o -/
def prB (lb : Nat → Nat) (b e o : Nat) : Bool := decide (lb (o * 16 + b) < lb (e * 16 + b)) || (decide (lb (e * 16 + b) = lb (o * 16 + b)) && decide (e < o))
def prBO (lb : Nat → Nat) (b e : Nat) (o : Option Nat) : Bool := match o with
  | none => true
  | some o => prB lb b e o
/-- elder e PREFERS beginner b to beginner o -/
def prE (le : Nat → Nat) (e b o : Nat) : Bool := decide (le (e * 16 + o) < le (e * 16 + b)) || (decide (le (e * 16 + b) = le (e * 16 + o)) && decide (b < o))

/-! The words of the document, as functions. -/
theorem r1 {B : Bool} (h : B = true) : some (Value.int (nI 1)) = some (Value.int (b2i B)) := by rw [h]; rfl
theorem r0 {B : Bool} (h : B = false) : some (Value.int (nI 0)) = some (Value.int (b2i B)) := by rw [h]; rfl
/-- a number from 0 on, below n -/
def inR (x : Int32) (n : Nat) : Bool := decide (¬ x < 0) && decide (¬ nI n ≤ x)
theorem inR_of {x : Int32} {n : Nat} (h : inR x n = true) (hn : n < 2 ^ 31) : ∃ j : Nat, j < n ∧ x = nI j := by
  simp only [inR, Bool.and_eq_true, decide_eq_true_eq] at h
  obtain ⟨j, hj, rfl⟩ := nI_of h.1
  refine ⟨j, ?_, rfl⟩
  rcases Nat.lt_or_ge j n with q | q
  · exact q
  · exact absurd (nI_le q hj) h.2
theorem inR_nI {j n : Nat} (hj : j < 2 ^ 31) (hn : n < 2 ^ 31) : inR (nI j) n = decide (j < n) := by
  simp only [inR, nI_pos hj, not_false_eq_true, decide_true, Bool.true_and]
  have := nI_leI hn hj
  by_cases h : j < n
  · simp only [h, decide_true, decide_eq_true_eq, this]; omega
  · simp only [h, decide_false, decide_eq_false_iff_not, this]; omega
/-- elder e and beginner b CAN be a pair -/
def canB (le lb : Nat → Nat) (br : Nat → Bool) (e b : Nat) : Bool := decide (le (e * 16 + b) ≠ 0) && decide (lb (e * 16 + b) ≠ 0) && !br (e * 16 + b)
/-- beginner b PREFERS elder e to elder o -/
def prB (lb : Nat → Nat) (b e o : Nat) : Bool := decide (lb (o * 16 + b) < lb (e * 16 + b)) || (decide (lb (e * 16 + b) = lb (o * 16 + b)) && decide (e < o))
def prBO (lb : Nat → Nat) (b e : Nat) (o : Option Nat) : Bool := match o with
  | none => true
  | some o => prB lb b e o
/-- elder e PREFERS beginner b to beginner o -/
def prE (le : Nat → Nat) (e b o : Nat) : Bool := decide (le (e * 16 + o) < le (e * 16 + b)) || (decide (le (e * 16 + b) = le (e * 16 + o)) && decide (b < o))
/-! numbers of 64 bits -/
theorem lrem_lN {a b : Nat} (ha : a < 2 ^ 63) (h0 : 0 < b) (hb : b < 2 ^ 63) : lN a - lN a / lN b * lN b = lN (a % b) := pk_lRem ha h0 hb
/-- Euclid: after st steps -/
def euc (a b st g m : Nat) : Prop := Nat.gcd g m = Nat.gcd a b ∧ ((st = 0 ∧ g * m ≤ a * b) ∨ m ≤ g) ∧ g * m * 2 ^ st ≤ 2 * (a * b) ∧ g < 2 ^ 49 ∧ m < 2 ^ 49
theorem euc_0 {a b : Nat} (ha : a < 2 ^ 49) (hb : b < 2 ^ 49) : euc a b 0 a b := ⟨rfl, Or.inl ⟨rfl, Nat.le_refl _⟩, by simp only [Nat.pow_zero, Nat.mul_one]; omega, ha, hb⟩
theorem euc_s {a b st g m : Nat} (h : euc a b st g m) (hm : m ≠ 0) : euc a b (st + 1) m (g % m) := by
  obtain ⟨h1, h2, h3, h4, h5⟩ := h
  have hlt : g % m < m := Nat.mod_lt _ (Nat.pos_of_ne_zero hm)
  refine ⟨?_, Or.inr (Nat.le_of_lt hlt), ?_, h5, by omega⟩
  · rw [← h1, Nat.gcd_comm g m, Nat.gcd_rec m g, Nat.gcd_comm]
  · rcases Nat.lt_or_ge g m with q | q
    · rcases h2 with h2 | h2
      · obtain ⟨h2, h9⟩ := h2
        subst h2
        rw [Nat.mod_eq_of_lt q, Nat.mul_comm m g]
        have : g * m * 2 ^ (0 + 1) = 2 * (g * m) := by rw [Nat.zero_add, Nat.pow_one]; omega
        omega
      · omega
    · have hh : 2 * (g % m) ≤ g := by
        have e := Nat.div_add_mod g m
        have : 1 ≤ g / m := (Nat.one_le_div_iff (Nat.pos_of_ne_zero hm)).mpr q
        have : m * 1 ≤ m * (g / m) := Nat.mul_le_mul_left m this
        omega
      calc m * (g % m) * 2 ^ (st + 1) = m * (2 * (g % m)) * 2 ^ st := by rw [Nat.pow_succ]; simp only [Nat.mul_assoc, Nat.mul_comm, Nat.mul_left_comm]
        _ ≤ m * g * 2 ^ st := Nat.mul_le_mul_right _ (Nat.mul_le_mul_left m hh)
        _ ≤ 2 * (a * b) := by rw [Nat.mul_comm m g]; exact h3
theorem euc_end {a b st g m : Nat} (h : euc a b st g m) (ha : a < 2 ^ 49) (hb : b < 2 ^ 49) (hst : 100 ≤ st ∨ m = 0) : g = Nat.gcd a b := by
  obtain ⟨h1, h2, h3, h4, h5⟩ := h
  have hm : m = 0 := by
    rcases hst with hst | hst
    · rcases Nat.eq_zero_or_pos m with q | q
      · exact q
      · exfalso
        have hg : m ≤ g := by
          rcases h2 with h2 | h2
          · omega
          · exact h2
        have h6 : 1 * 1 ≤ g * m := Nat.mul_le_mul (by omega) q
        have h7 : 2 ^ 100 ≤ 2 ^ st := Nat.pow_le_pow_right (by decide) hst
        have h8 : 1 * 2 ^ 100 ≤ g * m * 2 ^ st := Nat.mul_le_mul (by omega) h7
        have h9 : a * b ≤ 2 ^ 49 * 2 ^ 49 := Nat.mul_le_mul (Nat.le_of_lt ha) (Nat.le_of_lt hb)
        have e1 : (2 : Nat) ^ 49 * 2 ^ 49 = 2 ^ 98 := by decide
        have e2 : (2 : Nat) ^ 100 = 4 * 2 ^ 98 := by decide
        rw [e1] at h9
        omega
    · exact hst
  subst hm
  rw [← h1, Nat.gcd_zero_right]
/-- what the fraction x by k is cut by -/
def gdl (x : Int64) (k : Nat) : Nat := Nat.gcd x.toInt.natAbs k
theorem abs_lN (x : Int64) (h : x.toInt.natAbs < 2 ^ 49) : (if 0 < x then x else -x) = lN x.toInt.natAbs := by
  have e0 : (0 : Int64).toInt = 0 := by decide
  apply Int64.toInt_inj.mp
  rw [pk_lT (by omega)]
  split
  · rename_i h0
    rw [Int64.lt_iff_toInt_lt, e0] at h0
    omega
  · rename_i h0
    rw [Int64.lt_iff_toInt_lt, e0] at h0
    have hn : (-x).toInt = -x.toInt := by
      rw [Int64.toInt_neg]
      have h1 : -9223372036854775808 ≤ -x.toInt := by omega
      have h2 : -x.toInt < 9223372036854775808 := by omega
      rw [Int.bmod_eq_of_le (by omega) (by omega)]
    rw [hn]
    omega
theorem gdl_pos {x : Int64} {k : Nat} (h : 0 < k) : 0 < gdl x k := Nat.gcd_pos_of_pos_right _ h
theorem gdl_le {x : Int64} {k : Nat} (h : 0 < k) : gdl x k ≤ k := Nat.gcd_le_right _ h
theorem lN_ne0 {n : Nat} (h0 : 0 < n) (h : n < 2 ^ 63) : ¬ lN n = 0 := fun e => by
  have := (pk_lEQ h (by decide : 0 < 2 ^ 63)).mp e
  omega
theorem lN_gt0 {n : Nat} (h0 : 0 < n) (h : n < 2 ^ 63) : ¬ lN n ≤ 0 := fun e => by
  have := (pk_lLE h (by decide : 0 < 2 ^ 63)).mp e
  omega
/-- GOALS: reached as of a day; fuel n -/
def rch (gc : Nat → Option Nat) (gd : Nat → Nat) (gh : Nat → Option Nat) : Nat → Option Nat → Nat → Bool
  | 0, _, _ => true
  | n + 1, k, by_ => match k with
    | none => true
    | some k => match gc k with
      | none => false
      | some c => if by_ < c then false else if gd k < c then false else rch gc gd gh n (gh k) c
def knO (td : Nat → Nat) (o : Option Nat) (n : Nat) : Bool := match o with
  | none => true
  | some c => decide (td c ≤ td n)
/-- MEETINGS: the telling that counts, of those before n -/
def knw (tm td : Nat → Nat) (m day : Nat) : Nat → Option Nat
  | 0 => none
  | n + 1 => if tm n = m ∧ td n ≤ day ∧ knO td (knw tm td m day n) n = true then some n else knw tm td m day n
def knwS (tk : Nat → Bool) (o : Option Nat) : Nat := match o with
  | none => 2
  | some c => if tk c then 0 else 1
/-- of the meetings before n: those of b due by day that are known as w -/
def metC (mb md tm td : Nat → Nat) (tk : Nat → Bool) (tt b day w : Nat) : Nat → Nat
  | 0 => 0
  | n + 1 => metC mb md tm td tk tt b day w n + if mb n = b ∧ md n ≤ day ∧ knwS tk (knw tm td n day tt) = w then 1 else 0
/-- LASTING -/
def cntE (rm : Nat → Nat) (re : Nat → Bool) (t : Nat) : Nat → Nat
  | 0 => 0
  | n + 1 => cntE rm re t n + if re n = true ∧ rm n = t then 1 else 0
def cntR (rm : Nat → Nat) (t : Nat) : Nat → Nat
  | 0 => 0
  | n + 1 => cntR rm t n + if t ≤ rm n then 1 else 0
theorem cntE_le (rm : Nat → Nat) (re : Nat → Bool) (t : Nat) : ∀ n, cntE rm re t n ≤ cntR rm t n
  | 0 => Nat.le_refl _
  | n + 1 => by
    have := cntE_le rm re t n
    simp only [cntE, cntR]
    split
    · rename_i h
      rw [if_pos (by omega)]
      omega
    · split <;> omega
theorem cntR_le (rm : Nat → Nat) (t : Nat) : ∀ n, cntR rm t n ≤ n
  | 0 => Nat.le_refl _
  | n + 1 => by
    have := cntR_le rm t n
    simp only [cntR]
    split <;> omega
def shA (rm : Nat → Nat) (re : Nat → Bool) (n : Nat) : Nat → Nat
  | 0 => 1
  | t + 1 => if cntE rm re (t + 1) n = 0 then shA rm re n t else shA rm re n t * (cntR rm (t + 1) n - cntE rm re (t + 1) n)
def shB (rm : Nat → Nat) (re : Nat → Bool) (n : Nat) : Nat → Nat
  | 0 => 1
  | t + 1 => if cntE rm re (t + 1) n = 0 then shB rm re n t else shB rm re n t * cntR rm (t + 1) n
/-- TRAYS -/
def cutL (so : Nat) (v : Int64) : Int64 := match so with
  | 0 => v.toInt32.toInt8.toInt32.toInt64
  | 1 => v.toInt32.toInt16.toInt32.toInt64
  | 2 => v.toInt32.toInt64
  | _ => v
def hasP (x z : Int32) (n : Nat) : Bool := decide (¬ x < 0) && decide (¬ nI n < x) && decide (¬ (nI n - x) < z)
def outc (u : Nat → Int64) : Nat → Bool
  | 0 => true
  | n + 1 => outc u n && decide (¬ u n < 0) && decide (u n ≤ 100)
theorem outc_bad {u : Nat → Int64} {i : Nat} (h : u i < 0 ∨ ¬ u i ≤ 100) : ∀ n, i < n → outc u n = false
  | 0, hi => absurd hi (Nat.not_lt_zero _)
  | n + 1, hi => by
    rcases Nat.lt_or_ge i n with q | q
    · simp [outc, outc_bad h n q]
    · have e : i = n := by omega
      subst e
      rcases h with h | h <;> simp [outc, h]

/-! TRIALS: bits, sums over sets, draws. -/
def ush (x : Int32) (k : Nat) : Int32 := (x.toUInt32 >>> ((nI k).toUInt32 &&& Int32.toUInt32 31)).toInt32
def bc1 (x : Int32) : Int32 := x - (ush x 1 &&& 1431655765)
def bc2 (x : Int32) : Int32 := (x &&& 858993459) + (ush x 2 &&& 858993459)
def bc3 (x : Int32) : Int32 := (x + ush x 4) &&& 252645135
def bc4 (x : Int32) : Int32 := x + ush x 8
def bc5 (x : Int32) : Int32 := x + ush x 16
def bcF (x : Int32) : Int32 := bc5 (bc4 (bc3 (bc2 (bc1 x)))) &&& nI 63
def tzm (x : Int32) : Int32 := (x ^^^ oI none) &&& (x - nI 1)
def tz3 (x : Int32) (c : Nat) : Int32 := if x ≤ nI 4 then nI c + ush x 1 else nI (c + 2) + ush (ush x 2) 1
def tz2 (x : Int32) (c : Nat) : Int32 := if x ≤ nI 16 then tz3 x c else tz3 (ush x 4) (c + 4)
def tz1 (x : Int32) (c : Nat) : Int32 := if x ≤ nI 256 then tz2 x c else tz2 (ush x 8) (c + 8)
def tzF (x : Int32) : Int32 := if 0 < tzm x then (if tzm x ≤ 65536 then tz1 (tzm x) 1 else tz1 (ush (tzm x) 16) 17) else tzm x &&& nI 32
def nxF (x : Int32) : Int32 := (x + (x &&& -x)) ||| ((ush (x ^^^ (x + (x &&& -x))) 2).toUInt32 >>> ((tzF (x &&& -x)).toUInt32 &&& Int32.toUInt32 31)).toInt32
theorem nI_and (a b : Nat) : nI a &&& nI b = nI (a &&& b) := by
  apply Int32.toBitVec_inj.mp
  simp only [nI, Int32.toBitVec_and]
  show BitVec.ofNat 32 a &&& BitVec.ofNat 32 b = BitVec.ofNat 32 (a &&& b)
  exact BitVec.ofNat_and.symm
def tzn : Nat → Nat → Nat
  | 0, _ => 0
  | f + 1, s => if s % 2 = 1 then 0 else 1 + tzn f (s / 2)
theorem tz8_tab : ∀ s : Fin 256, s.val = 0 ∨ (tzF (nI s.val) = nI (tzn 8 s.val) ∧ tzn 8 s.val < 8 ∧ s.val.testBit (tzn 8 s.val) = true ∧ ∀ i : Fin 8, (s.val &&& (s.val - 1)).testBit i.val = (s.val.testBit i.val && decide (i.val ≠ tzn 8 s.val))) := by decide +kernel
theorem tz8 {s : Nat} (h0 : 0 < s) (h : s < 256) : tzF (nI s) = nI (tzn 8 s) ∧ tzn 8 s < 8 ∧ s.testBit (tzn 8 s) = true ∧ ∀ i, i < 8 → (s &&& (s - 1)).testBit i = (s.testBit i && decide (i ≠ tzn 8 s)) := by
  rcases tz8_tab ⟨s, h⟩ with q | ⟨q1, q2, q3, q4⟩
  · exact absurd q (by simp only; omega)
  · exact ⟨q1, q2, q3, fun i hi => q4 ⟨i, hi⟩⟩
/-- the sum of g over the set s, of the first m -/
def bsum (g : Nat → Int64) (s : Nat) : Nat → Int64
  | 0 => 0
  | i + 1 => bsum g s i + if s.testBit i then g i else 0
theorem bsum_cong {g : Nat → Int64} {s t : Nat} : ∀ m, (∀ i, i < m → s.testBit i = t.testBit i) → bsum g s m = bsum g t m
  | 0, _ => rfl
  | m + 1, h => by rw [bsum, bsum, bsum_cong m (fun i hi => h i (by omega)), h m (by omega)]
theorem bsum_drop {g : Nat → Int64} {s t j : Nat} (hj : s.testBit j = true) : ∀ m, (∀ i, i < m → t.testBit i = (s.testBit i && decide (i ≠ j))) → j < m → bsum g s m = bsum g t m + g j
  | 0, _, h => absurd h (Nat.not_lt_zero _)
  | m + 1, h, hm => by
    rw [bsum, bsum]
    rcases Nat.lt_or_ge j m with q | q
    · have h1 := h m (by omega)
      rw [bsum_drop hj m (fun i hi => h i (by omega)) q, h1]
      have : decide (m ≠ j) = true := decide_eq_true (by omega)
      rw [this, Bool.and_true, Int64.add_assoc, Int64.add_assoc, Int64.add_comm (g j)]
    · have e : j = m := by omega
      subst e
      have h1 := h j (by omega)
      have : decide (j ≠ j) = false := by simp
      rw [this, Bool.and_false] at h1
      rw [h1, hj]
      rw [bsum_cong (s := s) (t := t) j (fun i hi => by rw [h i (by omega)]; have : decide (i ≠ j) = true := decide_eq_true (by omega); rw [this, Bool.and_true])]
      simp
def lsm (u : Nat → Int64) (n fr s : Nat) : Int64 := bsum (fun i => if fr + i < n then u (fr + i) else 0) s 8
theorem lsm_0 (u : Nat → Int64) (n fr : Nat) : lsm u n fr 0 = 0 := by
  unfold lsm
  simp [bsum, Nat.zero_testBit]
theorem lsm_s {u : Nat → Int64} {n fr s : Nat} (h0 : 0 < s) (h : s < 256) : lsm u n fr (s &&& (s - 1)) + (if fr + tzn 8 s < n then u (fr + tzn 8 s) else 0) = lsm u n fr s := by
  obtain ⟨-, h2, h3, h4⟩ := tz8 h0 h
  unfold lsm
  exact (bsum_drop h3 8 h4 h2).symm
/-- g on the first j places, f behind -/
def pf {α : Type} (g f : Nat → α) (j : Nat) : Nat → α := fun k => if k < j then g k else f k
theorem pf_s {α : Type} (g f : Nat → α) (j : Nat) : va_up (pf g f j) j (g j) = pf g f (j + 1) := by
  funext k
  simp only [va_up, pf]
  by_cases h : k = j
  · subst h; simp
  · by_cases h2 : k < j
    · simp [h, h2, Nat.lt_succ_of_lt h2]
    · have : ¬ k < j + 1 := by omega
      simp [h, h2, this]
theorem pf_1 {α : Type} {g f : Nat → α} (h : f 0 = g 0) : pf g f 1 = f := by
  funext k
  simp only [pf]
  split
  · have : k = 0 := by omega
    subst this
    exact h.symm
  · rfl
theorem pf_in {α : Type} {g f : Nat → α} {j k : Nat} (h : k < j) : pf g f j k = g k := by simp [pf, h]
/-- how many sets of k among n, as it is worked out -/
def csF (n k : Nat) : Nat → Nat
  | 0 => 1
  | i + 1 => csF n k i * (n - k + (i + 1)) / (i + 1)
theorem csF_tab : ∀ n : Fin 17, ∀ k : Fin 17, ∀ i : Fin 17, csF n.val k.val i.val ≤ 200000 ∨ ¬ (k.val ≤ n.val ∧ i.val ≤ k.val) := by decide +kernel
theorem csF_le {n k i : Nat} (hn : n ≤ 16) (hk : k ≤ n) (hi : i ≤ k) : csF n k i ≤ 200000 := by
  rcases csF_tab ⟨n, by omega⟩ ⟨k, by omega⟩ ⟨i, by omega⟩ with q | q
  · exact q
  · exact absurd ⟨hk, hi⟩ q
/-- how many of the sets o 0 .. o (j-1) have a sum that is not less -/
def ngF (S : Nat → Int64) (t : Int64) (o : Nat → Nat) : Nat → Nat
  | 0 => 0
  | j + 1 => ngF S t o j + if S (o j) < t then 0 else 1
theorem ngF_le (S : Nat → Int64) (t : Int64) (o : Nat → Nat) : ∀ j, ngF S t o j ≤ j
  | 0 => Nat.le_refl _
  | j + 1 => by
    have := ngF_le S t o j
    simp only [ngF]
    split <;> omega
def lotS (s : Int64) : Int64 := (1103515245 * s + 12345) &&& 2147483647
def drF (n : Nat) : Nat → Int64 → Int32 → Int32 → Int32
  | 0, _, _, set => set
  | f + 1, s, left, set =>
    let s1 := lotS s
    let x := s1 >>> ((nI 16).toInt64 &&& 63)
    let d := (nI (f + 1)).toInt64
    if left.toInt64 ≤ x - x / d * d then drF n f s1 left set else drF n f s1 (left + (-1)) (set ||| (nI 1 <<< (nI (n - (f + 1)) &&& 31)))
theorem shl1_tab : ∀ n : Fin 31, nI 1 <<< (nI n.val &&& 31) = nI (2 ^ n.val) := by decide +kernel
theorem shl1 {n : Nat} (h : n < 31) : nI 1 <<< (nI n &&& 31) = nI (2 ^ n) := shl1_tab ⟨n, h⟩
theorem two_pow_le {n m : Nat} (h : n ≤ m) : 2 ^ n ≤ 2 ^ m := Nat.pow_le_pow_right (by decide) h
/-- the sum that two rows of sums give -/
def sm2 (f1 f2 : Nat → Int64) (s : Nat) : Int64 := f1 (s % 256) + f2 (s / 256 % 256)

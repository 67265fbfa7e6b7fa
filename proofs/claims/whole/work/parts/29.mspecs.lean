/-! The reference: its trays, in the words of the class's. -/
def msO (ym : Nat → Option Nat) : Nat → Bool := fun k => (ym k).isNone
def lnO (ym : Nat → Option Nat) : Nat → Nat := fun k => (ym k).getD 0
theorem msO_n {ym : Nat → Option Nat} {k : Nat} (h : ym k = none) : msO ym k = true := by simp [msO, h]
theorem msO_s {ym : Nat → Option Nat} {k n : Nat} (h : ym k = some n) : msO ym k = false := by simp [msO, h]
theorem lnO_s {ym : Nat → Option Nat} {k n : Nat} (h : ym k = some n) : lnO ym k = n := by simp [lnO, h]
theorem lnO_le {ym : Nat → Option Nat} (h : ∀ k, ob 41 (ym k)) : ∀ k, lnO ym k ≤ 40 := fun k => by
  unfold lnO
  cases e : ym k with
  | none => simp
  | some n => have := h k n e; simp only [Option.getD_some]; omega
theorem hasP_1 {m n : Nat} (hm : m < 2 ^ 31) (hn : n ≤ 40) : hasP (nI m) (nI 1) n = decide (m < n) := by
  by_cases h : m < n
  · rw [decide_eq_true h]; exact (hasP_nat hm (by decide) hn).mpr h
  · rw [decide_eq_false h]
    cases e : hasP (nI m) (nI 1) n with
    | false => rfl
    | true => exact absurd ((hasP_nat hm (by decide) hn).mp e) (by omega)
theorem hasP_neg {x z : Int32} {n : Nat} (h : x < 0) : hasP x z n = false := by simp [hasP, h]
theorem hasP_0 {m n : Nat} (hm : m < 2 ^ 31) (hn : n ≤ 40) : hasP (nI 0) (nI m) n = decide (m ≤ n) := by
  by_cases h : m ≤ n
  · rw [decide_eq_true h]; exact (hasP_nat (by decide) hm hn).mpr (by omega)
  · rw [decide_eq_false h]
    cases e : hasP (nI 0) (nI m) n with
    | false => rfl
    | true => exact absurd ((hasP_nat (by decide) hm hn).mp e) (by omega)
/-- the row of the numbers of tray k, within one long row -/
def nuT (nu : Nat → Int64) : u4 := fun k i => nu (40 * k + i)
theorem cntO_cong {f g : Nat → Option Nat} {e : Nat} : ∀ n, (∀ b, b < n → f b = g b) → cntO f e n = cntO g e n
  | 0, _ => rfl
  | n + 1, h => by rw [cntO, cntO, cntO_cong n (fun b hb => h b (by omega)), h n (by omega)]
theorem cntO_end {f : Nat → Option Nat} {e n : Nat} (h : ∀ b, n ≤ b → f b = none) : ∀ m, cntO f e (n + m) = cntO f e n
  | 0 => rfl
  | m + 1 => by
    have e0 : cntO f e (n + (m + 1)) = cntO f e (n + m) + if f (n + m) = some e then 1 else 0 := rfl
    rw [e0, cntO_end h m, h (n + m) (by omega)]
    simp
theorem lst_cong {le : Nat → Nat} {f g : Nat → Option Nat} {e : Nat} : ∀ n, (∀ b, b < n → f b = g b) → lst le f e n = lst le g e n
  | 0, _ => rfl
  | n + 1, h => by rw [lst, lst, lst_cong n (fun b hb => h b (by omega)), h n (by omega)]
/-- the reference's own BLOCK, over the beginners that there are -/
def blkM (pl le lb : Nat → Nat) (br : Nat → Bool) (gi : Nat → Option Nat) (be e b : Nat) : Bool :=
  if canB le lb br e b = false then false else if gi b = some e then false else if prBO lb b e (gi b) = false then false else if cntO gi e be < pl e then true else
  match lst le gi e be with
  | none => false
  | some w => prE le e b w
def mbI (pl le lb : Nat → Nat) (br : Nat → Bool) (gi : Nat → Option Nat) (be e : Nat) : Nat → Nat
  | 0 => 0
  | n + 1 => mbI pl le lb br gi be e n + if blkM pl le lb br gi be e n = true then 1 else 0
def mbO (pl le lb : Nat → Nat) (br : Nat → Bool) (gi : Nat → Option Nat) (be : Nat) : Nat → Nat
  | 0 => 0
  | n + 1 => mbO pl le lb br gi be n + mbI pl le lb br gi be n be
theorem rch_more {gc : Nat → Option Nat} {gd : Nat → Nat} {gh : Nat → Option Nat} (hgh : ∀ k j, gh k = some j → j < k) : ∀ (n m : Nat) (k : Option Nat) (b : Nat), (∀ j, k = some j → j < n) → n ≤ m → rch gc gd gh m k b = rch gc gd gh n k b
  | 0, m, k, b, hk, _ => by
    cases k with
    | none => cases m <;> rfl
    | some j => exact absurd (hk j rfl) (Nat.not_lt_zero _)
  | n + 1, m, k, b, hk, hm => by
    obtain ⟨m, rfl⟩ : ∃ q, m = q + 1 := ⟨m - 1, by omega⟩
    cases k with
    | none => rfl
    | some j =>
      have hj := hk j rfl
      simp only [rch]
      cases gc j with
      | none => rfl
      | some c =>
        simp only
        split
        · rfl
        · split
          · rfl
          · exact rch_more hgh n m (gh j) c (fun i hi => by have := hgh j i hi; omega) (by omega)
/-- the reference's Euclid ends -/
theorem gcd_s {g m : Nat} (hm : m ≠ 0) : Nat.gcd m (g % m) = Nat.gcd g m := by
  rw [Nat.gcd_comm g m, Nat.gcd_rec m g, Nat.gcd_comm]
def sHasM (el be : Nat) (gv : Bool) (gi : Nat → Option Nat) (x : Int32) : Option Nat × Nat :=
  if inR x el = false then (none, 2) else if gv = false then (none, 10) else (some (cntO gi (tN x) be), 0)

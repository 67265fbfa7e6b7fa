def sTrayM (ym : Nat → Option Nat) (ts : Nat → Nat) (nu : Nat → Int64) (x w m : Int32) : Bool × Nat × (Nat → Option Nat) × (Nat → Nat) × (Nat → Int64) :=
  if inR x 4 = false then (false, 1, ym, ts, nu) else if inR w 4 = false then (false, 1, ym, ts, nu) else if m ≤ nI 40 then
  (if 0 ≤ m then (true, 0, va_up ym (tN x) (some (tN m)), va_up ts (tN x) (tN w), fia 0 nu (40 * tN x) (tN m)) else (false, 6, ym, ts, nu)) else (false, 5, ym, ts, nu)
theorem inR_4 {w : Int32} (h0 : ¬ w < 0) (h : ¬ w ≤ nI 3) : inR w 4 = false := by
  obtain ⟨k, hk, rfl⟩ := nI_of h0
  rw [inR_nI hk (by decide)]
  exact decide_eq_false (fun h9 => h (nI_le (by omega) (by decide)))
theorem inR_3 {k : Nat} (h : k ≤ 3) : inR (nI k) 4 = true := by
  rw [inR_nI (by omega) (by decide)]
  exact decide_eq_true (by omega)
def cpX (rs : Bool) (f : Nat → Int64) (a b n i : Nat) : Nat → Int64 := if rs then cpD f a b n i else cpU f a b i
theorem cpX_0 (rs : Bool) (f : Nat → Int64) (a b n : Nat) : cpX rs f a b n 0 = f := by
  cases rs
  · exact cpU_0 f a b
  · exact cpD_0 f a b n
theorem cpX_n (rs : Bool) (f : Nat → Int64) (a b n : Nat) : cpX rs f a b n n = cpU f a b n := by
  cases rs
  · rfl
  · exact (cpU_D f a b n).symm
def sPourM (ym : Nat → Option Nat) (ts : Nat → Nat) (nu : Nat → Int64) (x i to_ j m : Int32) : Bool × Nat × (Nat → Int64) :=
  if poG (msO ym) ts (lnO ym) x i to_ j m = 0 then (true, 0, cpU nu (40 * tN x + tN i) (40 * tN to_ + tN j) (tN m)) else (false, poG (msO ym) ts (lnO ym) x i to_ j m, nu)
theorem hasP_big {a b n : Nat} (ha : a < 2 ^ 31) (hb : b < 2 ^ 31) (hn : n ≤ 40) (h : n < a + b) : hasP (nI a) (nI b) n = false := by
  cases e : hasP (nI a) (nI b) n with
  | false => rfl
  | true => exact absurd ((hasP_nat ha hb hn).mp e) (by omega)
theorem cpX_t {f : Nat → Int64} {a b n i : Nat} (hi : i < n) (h : a ≤ b ∨ b + n ≤ a + (n - 1 - i)) : va_up (cpX true f a b n i) (b + (n - 1 - i)) (cpX true f a b n i (a + (n - 1 - i))) = cpX true f a b n (i + 1) := cpD_s hi h
theorem cpX_f {f : Nat → Int64} {a b n i : Nat} (h : b ≤ a ∨ a + i < b ∨ b + i ≤ a) : va_up (cpX false f a b n i) (b + i) (cpX false f a b n i (a + i)) = cpX false f a b n (i + 1) := cpU_s h

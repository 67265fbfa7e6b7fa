/-! CHANGE: the search of the class, as functions. -/
def mayM (le lb : Nat → Nat) (br : Nat → Bool) (eb : Nat → Option Nat) (m e : Nat) : Bool := decide (¬ some e = eb m) && canB le lb br e m
def frB (pl : Nat → Nat) (eb : Nat → Option Nat) (f0 e : Nat) : Bool := decide (cntO eb e 16 - (if eb f0 = some e then 1 else 0) < pl e)
def ffn (p : Nat → Bool) : Nat → Option Nat
  | 0 => none
  | n + 1 => match ffn p n with
    | some j => some j
    | none => if p n then some n else none
theorem ffn_ob (p : Nat → Bool) : ∀ n, ob n (ffn p n)
  | 0 => ob_n
  | n + 1 => by
    have h := ffn_ob p n
    simp only [ffn]
    split
    · rename_i j hj
      exact ob_s (by have := h j hj; omega)
    · split
      · exact ob_s (Nat.lt_succ_self n)
      · exact ob_n
theorem ffn_at {p : Nat → Bool} {e : Nat} (h0 : ffn p e = none) (h1 : p e = true) : ∀ n, e < n → ffn p n = some e
  | 0, h => absurd h (Nat.not_lt_zero _)
  | n + 1, h => by
    rcases Nat.lt_or_ge e n with q | q
    · simp [ffn, ffn_at h0 h1 n q]
    · have e2 : e = n := by omega
      subst e2
      simp [ffn, h0, h1]
def freeE (pl le lb : Nat → Nat) (br : Nat → Bool) (eb : Nat → Option Nat) (f0 el m : Nat) : Option Nat := ffn (fun e => mayM le lb br eb m e && frB pl eb f0 e) el
abbrev qT : Type := (Nat → Option Nat) × (Nat → Nat) × Nat
def qlS (eb : Nat → Option Nat) (f0 m e b : Nat) (s : qT) : qT := if (¬ b = f0 ∧ s.1 b = none) ∧ eb b = some e ∧ s.2.2 < 16 then (va_up s.1 b (some m), va_up s.2.1 s.2.2 b, s.2.2 + 1) else s
def qlB (eb : Nat → Option Nat) (f0 m e : Nat) (s : qT) : Nat → qT
  | 0 => s
  | n + 1 => qlS eb f0 m e n (qlB eb f0 m e s n)
def qlE (le lb : Nat → Nat) (br : Nat → Bool) (eb : Nat → Option Nat) (f0 be m : Nat) (s : qT) : Nat → qT
  | 0 => s
  | n + 1 => if mayM le lb br eb m n = true then qlB eb f0 m n (qlE le lb br eb f0 be m s n) be else qlE le lb br eb f0 be m s n
def qOk (s : qT) : Prop := (∀ k, ob 16 (s.1 k)) ∧ (∀ k, s.2.1 k < 16) ∧ s.2.2 ≤ 16
theorem nup_lt {n i v : Nat} {f : Nat → Nat} (h : ∀ k, f k < n) (hv : v < n) : ∀ k, va_up f i v k < n := fun k => by
  simp only [va_up]
  split
  · exact hv
  · exact h k
theorem nup_le {n i v : Nat} {f : Nat → Nat} (h : ∀ k, f k ≤ n) (hv : v ≤ n) : ∀ k, va_up f i v k ≤ n := fun k => by
  simp only [va_up]
  split
  · exact hv
  · exact h k
theorem qlS_ok {eb : Nat → Option Nat} {f0 m e b : Nat} {s : qT} (h : qOk s) (hm : m < 16) (hb : b < 16) : qOk (qlS eb f0 m e b s) := by
  unfold qlS
  split
  · rename_i hc
    exact ⟨ob_up h.1 (ob_s hm), nup_lt h.2.1 hb, by have := hc.2.2; simp only; omega⟩
  · exact h
theorem qlB_ok {eb : Nat → Option Nat} {f0 m e : Nat} {s : qT} (h : qOk s) (hm : m < 16) : ∀ n, n ≤ 16 → qOk (qlB eb f0 m e s n)
  | 0, _ => h
  | n + 1, hn => qlS_ok (qlB_ok h hm n (by omega)) hm (by omega)
theorem qlE_ok {le lb : Nat → Nat} {br : Nat → Bool} {eb : Nat → Option Nat} {f0 be m : Nat} {s : qT} (h : qOk s) (hm : m < 16) (hbe : be ≤ 16) : ∀ n, qOk (qlE le lb br eb f0 be m s n)
  | 0 => h
  | n + 1 => by
    simp only [qlE]
    split
    · exact qlB_ok (qlE_ok h hm hbe n) hm be hbe
    · exact qlE_ok h hm hbe n
def flF (pl le lb : Nat → Nat) (br : Nat → Bool) (eb : Nat → Option Nat) (f0 el be : Nat) : Nat → qT → Option Nat → Option Nat × qT × Option Nat
  | 0, s, fe => (none, s, fe)
  | n + 1, s, fe => if 15 - n < s.2.2 then
      (match freeE pl le lb br eb f0 el (s.2.1 (15 - n)) with
      | some x => (some (s.2.1 (15 - n)), s, some x)
      | none => flF pl le lb br eb f0 el be n (qlE le lb br eb f0 be (s.2.1 (15 - n)) s el) none)
    else (none, s, fe)
def flI (tk : Nat → Option Nat) (qu : Nat → Nat) (f0 : Nat) : qT := (fil none tk 16, va_up qu 0 f0, 1)
def mvF (tk : Nat → Option Nat) : Nat → (Nat → Option Nat) → Option Nat → Option Nat → Nat → (Nat → Option Nat) × Nat
  | 0, eb, _, _, k => (eb, k)
  | n + 1, eb, m, to, k => match m with
    | none => (eb, k)
    | some m => mvF tk n (va_up eb m to) (tk m) (eb m) (k + 1)
theorem ob_fil {n i : Nat} {f : Nat → Option Nat} (h : ∀ k, ob n (f k)) : ∀ k, ob n (fil none f i k) := fun k => by
  simp only [fil]
  split
  · exact ob_n
  · exact h k

/-- the reference's trays -/
def sReadM (ym : Nat → Option Nat) (nu : Nat → Int64) (x k : Int32) : Int64 × Nat :=
  if plF (msO ym) (lnO ym) x k = 0 then (nuT nu (tN x) (tN k), 0) else (-1, plF (msO ym) (lnO ym) x k)
def sWriteM (ym : Nat → Option Nat) (ts : Nat → Nat) (nu : Nat → Int64) (x k : Int32) (v : Int64) : Bool × Nat × (Nat → Int64) :=
  if plF (msO ym) (lnO ym) x k = 0 then (true, 0, va_up nu (40 * tN x + tN k) (cutL (ts (tN x)) v)) else (false, plF (msO ym) (lnO ym) x k, nu)
/-- the first i places from a on hold v -/
def fia {α : Type} (v : α) (f : Nat → α) (a i : Nat) : Nat → α := fun k => if a ≤ k ∧ k < a + i then v else f k
theorem fia_0 {α : Type} (v : α) (f : Nat → α) (a : Nat) : fia v f a 0 = f := by
  funext k
  simp only [fia]
  rw [if_neg (by omega)]
theorem fia_s {α : Type} (v : α) (f : Nat → α) (a i : Nat) : va_up (fia v f a i) (a + i) v = fia v f a (i + 1) := by
  funext k
  simp only [va_up, fia]
  by_cases h : k = a + i
  · subst h; rw [if_pos rfl, if_pos (by omega)]
  · rw [if_neg h]
    by_cases h2 : a ≤ k ∧ k < a + i
    · rw [if_pos h2, if_pos (by omega)]
    · rw [if_neg h2, if_neg (by omega)]
/-- copying within a row: what comes to a place -/
def cpM (f : Nat → Int64) (a b : Nat) (p : Nat → Bool) : Nat → Int64 := fun k => if b ≤ k ∧ p (k - b) = true then f (a + (k - b)) else f k
def cpA (f : Nat → Int64) (a b n : Nat) : Nat → Int64 := fun k => if b ≤ k ∧ k < b + n then f (a + (k - b)) else f k
/-- upwards from the first: the first i are there; what is read next is as it was, if it does not lie among them -/
def cpU (f : Nat → Int64) (a b i : Nat) : Nat → Int64 := fun k => if b ≤ k ∧ k < b + i then f (a + (k - b)) else f k
theorem cpU_0 (f : Nat → Int64) (a b : Nat) : cpU f a b 0 = f := by
  funext k; simp only [cpU]; rw [if_neg (by omega)]
theorem cpU_s {f : Nat → Int64} {a b i : Nat} (h : b ≤ a ∨ a + i < b ∨ b + i ≤ a) : va_up (cpU f a b i) (b + i) (cpU f a b i (a + i)) = cpU f a b (i + 1) := by
  have hr : cpU f a b i (a + i) = f (a + i) := by
    simp only [cpU]
    rw [if_neg (by omega)]
  rw [hr]
  funext k
  simp only [va_up, cpU]
  by_cases h1 : k = b + i
  · subst h1
    rw [if_pos rfl, if_pos (by omega), show a + (b + i - b) = a + i by omega]
  · rw [if_neg h1]
    by_cases h2 : b ≤ k ∧ k < b + i
    · rw [if_pos h2, if_pos (by omega)]
    · rw [if_neg h2, if_neg (by omega)]
/-- downwards from the last of n: the last i are there -/
def cpD (f : Nat → Int64) (a b n i : Nat) : Nat → Int64 := fun k => if b + (n - i) ≤ k ∧ k < b + n then f (a + (k - b)) else f k
theorem cpD_0 (f : Nat → Int64) (a b n : Nat) : cpD f a b n 0 = f := by
  funext k; simp only [cpD]; rw [if_neg (by omega)]
theorem cpD_s {f : Nat → Int64} {a b n i : Nat} (hi : i < n) (h : a ≤ b ∨ b + n ≤ a + (n - 1 - i)) : va_up (cpD f a b n i) (b + (n - 1 - i)) (cpD f a b n i (a + (n - 1 - i))) = cpD f a b n (i + 1) := by
  have hr : cpD f a b n i (a + (n - 1 - i)) = f (a + (n - 1 - i)) := by
    simp only [cpD]
    rw [if_neg (by omega)]
  rw [hr]
  funext k
  simp only [va_up, cpD]
  by_cases h1 : k = b + (n - 1 - i)
  · subst h1
    rw [if_pos rfl, if_pos (by omega), show a + (b + (n - 1 - i) - b) = a + (n - 1 - i) by omega]
  · rw [if_neg h1]
    by_cases h2 : b + (n - i) ≤ k ∧ k < b + n
    · rw [if_pos h2, if_pos (by omega)]
    · rw [if_neg h2, if_neg (by omega)]
theorem cpU_D (f : Nat → Int64) (a b n : Nat) : cpU f a b n = cpD f a b n n := by
  funext k; simp only [cpU, cpD, Nat.sub_self, Nat.add_zero]
def ssm (nu : Nat → Int64) (t : Nat) : Nat → Int64 := nuT nu t
/-- counts of the reference's chance -/
def chP (nu : Nat → Int64) (m t s : Nat) : Bool := decide (pcn s 16 = pcn t 16) && decide (¬ wsm nu s m < wsm nu t m)
theorem ctp_1 {p : Nat → Bool} (h : p 0 = false) : ctp p 1 = 0 := by simp [ctp, h]
theorem chP_ct {u : Nat → Int64} {m t : Nat} (hm : m ≤ 16) (ho : outc u m = true) : ctp (chP u m t) (2 ^ m) = chN u m t := by
  unfold chN
  refine ctp_cong _ (fun s hs => ?_)
  have h1 := wsm_le u s m (fun i hi => (outc_at ho i hi).2)
  have h2 := wsm_le u t m (fun i hi => (outc_at ho i hi).2)
  have e := pk_lLT (a := wsm u s m) (b := wsm u t m) (by omega) (by omega)
  unfold chP
  simp only [e]
theorem bit_tab : ∀ k : Fin 16, ((nI k.val &&& 31).toBitVec.smod 32).toNat = k.val := by decide +kernel
theorem bit_at {s k : Nat} (hs : s < 65536) (hk : k < 16) : nI s >>> (nI k &&& 31) = nI (s / 2 ^ k) := pk_shrN (by omega) _ k (bit_tab ⟨k, hk⟩)
theorem bit_1 (s k : Nat) : (s / 2 ^ k) % 2 = 1 ↔ s.testBit k = true := by
  rw [Nat.testBit_eq_decide_div_mod_eq, decide_eq_true_eq]
theorem l2i_lN {n : Nat} : (lN n).toInt32 = nI n := lN_i n
theorem lt1_le0 {s : Int32} : s < nI 1 ↔ s ≤ 0 := by
  rw [Int32.lt_iff_toInt_lt, Int32.le_iff_toInt_le]
  have e1 : (nI 1).toInt = 1 := by decide
  have e0 : (0 : Int32).toInt = 0 := by decide
  omega
theorem ctp_le (p : Nat → Bool) : ∀ n, ctp p n ≤ n
  | 0 => Nat.le_refl _
  | n + 1 => by
    have := ctp_le p n
    rw [ctp]
    split <;> omega
def sGainM (ym : Nat → Option Nat) (nu : Nat → Int64) (fa fb : Int64) (x n s : Int32) : Bool × Nat × Int64 × Int64 :=
  if trF (msO ym) (lnO ym) (nuT nu) x n s = 0 then (true, 0, gnX (nuT nu (tN x)) (tN n) (tN s) / lN (gdl (gnX (nuT nu (tN x)) (tN n) (tN s)) (gnK (tN n) (tN s))), lN (gnK (tN n) (tN s)) / lN (gdl (gnX (nuT nu (tN x)) (tN n) (tN s)) (gnK (tN n) (tN s))))
  else (false, trF (msO ym) (lnO ym) (nuT nu) x n s, fa, fb)
def sChanceM (ym : Nat → Option Nat) (nu : Nat → Int64) (fa fb : Int64) (x n s : Int32) : Bool × Nat × Int64 × Int64 :=
  if trF (msO ym) (lnO ym) (nuT nu) x n s = 0 then (true, 0, lN (chN (nuT nu (tN x)) (tN n) (tN s)) / lN (gdl (lN (chN (nuT nu (tN x)) (tN n) (tN s))) (chA (tN n) (tN s))), lN (chA (tN n) (tN s)) / lN (gdl (lN (chN (nuT nu (tN x)) (tN n) (tN s))) (chA (tN n) (tN s))))
  else (false, trF (msO ym) (lnO ym) (nuT nu) x n s, fa, fb)

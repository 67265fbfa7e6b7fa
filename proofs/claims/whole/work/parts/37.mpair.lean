/-! PAIR, as the reference does it. -/
def rnk (le lb : Nat → Nat) (br : Nat → Bool) (b e : Nat) : Nat → Nat
  | 0 => 0
  | n + 1 => rnk le lb br b e n + if ¬ n = e ∧ canB le lb br n b = true ∧ prBO lb b n (some e) = true then 1 else 0
theorem rnk_le (le lb : Nat → Nat) (br : Nat → Bool) (b e : Nat) : ∀ n, rnk le lb br b e n ≤ n
  | 0 => Nat.le_refl _
  | n + 1 => by
    have := rnk_le le lb br b e n
    rw [rnk]
    split <;> omega
theorem rnk_lt {le lb : Nat → Nat} {br : Nat → Bool} {b e : Nat} : ∀ n, e < n → rnk le lb br b e n < n
  | 0, h => absurd h (Nat.not_lt_zero _)
  | n + 1, h => by
    rw [rnk]
    rcases Nat.lt_or_ge e n with q | q
    · have := rnk_lt (le := le) (lb := lb) (br := br) (b := b) n q
      split <;> omega
    · have e2 : n = e := by omega
      have := rnk_le le lb br b e n
      rw [if_neg (fun h => h.1 e2)]
      omega
def askd (le lb : Nat → Nat) (br : Nat → Bool) (el b n : Nat) : Option Nat := ffn (fun e => canB le lb br e b && decide (rnk le lb br b e el = n)) el
theorem ffn_some {p : Nat → Bool} {e : Nat} : ∀ n, ffn p n = some e → e < n ∧ p e = true
  | 0, h => by simp [ffn] at h
  | n + 1, h => by
    simp only [ffn] at h
    split at h
    · rename_i j hj
      cases h
      have := ffn_some n hj
      exact ⟨by omega, this.2⟩
    · split at h
      · rename_i hp
        cases h
        exact ⟨Nat.lt_succ_self _, hp⟩
      · cases h
theorem askd_ob (le lb : Nat → Nat) (br : Nat → Bool) (el b n : Nat) : ob el (askd le lb br el b n) := ffn_ob _ _
theorem askd_lt {le lb : Nat → Nat} {br : Nat → Bool} {el b n e : Nat} (h : askd le lb br el b n = some e) : e < el ∧ canB le lb br e b = true ∧ rnk le lb br b e el = n ∧ n < el := by
  obtain ⟨h1, h2⟩ := ffn_some el h
  simp only [Bool.and_eq_true, decide_eq_true_eq] at h2
  exact ⟨h1, h2.1, h2.2, by have := rnk_lt (le := le) (lb := lb) (br := br) (b := b) el h1; omega⟩
abbrev pT : Type := (Nat → Option Nat) × (Nat → Nat)
/-- elder e gives up the one whom they prefer least, if they have too many -/
def mDrop (pl le : Nat → Nat) (be e : Nat) (g : Nat → Option Nat) : Nat → Option Nat :=
  if pl e < cntO g e be then (match lst le g e be with | some w => va_up g w none | none => g) else g
def mSt (pl le lb : Nat → Nat) (br : Nat → Bool) (el be : Nat) (s : pT × Bool) (b : Nat) : pT × Bool :=
  if s.1.1 b = none then
    (match askd le lb br el b (s.1.2 b) with
    | none => s
    | some e => ((mDrop pl le be e (va_up s.1.1 b (some e)), va_up s.1.2 b (s.1.2 b + 1)), true))
  else s
def mFor (pl le lb : Nat → Nat) (br : Nat → Bool) (el be : Nat) (s : pT) : Nat → pT × Bool
  | 0 => (s, false)
  | n + 1 => mSt pl le lb br el be (mFor pl le lb br el be s n) n
def mWh (pl le lb : Nat → Nat) (br : Nat → Bool) (el be : Nat) : Nat → pT → pT
  | 0, s => s
  | f + 1, s => if (mFor pl le lb br el be s be).2 = true then mWh pl le lb br el be f (mFor pl le lb br el be s be).1 else (mFor pl le lb br el be s be).1
def pOk (s : pT) : Prop := (∀ k, ob 12 (s.1 k)) ∧ ∀ k, s.2 k ≤ 12
theorem lst_some {le : Nat → Nat} {g : Nat → Option Nat} {e : Nat} : ∀ n, 0 < cntO g e n → ∃ w, lst le g e n = some w
  | 0, h => absurd h (by simp [cntO])
  | n + 1, h => by
    simp only [lst]
    by_cases c : g n = some e
    · cases hl : lst le g e n with
      | none => exact ⟨n, by rw [if_pos ⟨c, rfl⟩]⟩
      | some w =>
        by_cases c2 : prEO le e (some w) n = true
        · exact ⟨n, by rw [if_pos ⟨c, c2⟩]⟩
        · exact ⟨w, by rw [if_neg (fun h => c2 h.2)]⟩
    · rw [cntO, if_neg c] at h
      obtain ⟨w, hw⟩ := lst_some n h
      exact ⟨w, by rw [if_neg (fun h => c h.1)]; exact hw⟩
theorem mDrop_ob {pl le : Nat → Nat} {be e : Nat} {g : Nat → Option Nat} (h : ∀ k, ob 12 (g k)) : ∀ k, ob 12 (mDrop pl le be e g k) := by
  unfold mDrop
  split
  · cases lst le g e be with
    | none => exact h
    | some w => exact ob_up h ob_n
  · exact h
theorem mSt_ok {pl le lb : Nat → Nat} {br : Nat → Bool} {el be b : Nat} {s : pT × Bool} (hel : el ≤ 12) (h : pOk s.1) : pOk (mSt pl le lb br el be s b).1 := by
  unfold mSt
  split
  · split
    · exact h
    · rename_i e he
      have h1 := askd_lt he
      exact ⟨mDrop_ob (ob_up h.1 (ob_s (by omega))), nup_le h.2 (by omega)⟩
  · exact h
theorem mFor_ok {pl le lb : Nat → Nat} {br : Nat → Bool} {el be : Nat} {s : pT} (hel : el ≤ 12) (h : pOk s) : ∀ n, pOk (mFor pl le lb br el be s n).1
  | 0 => h
  | n + 1 => mSt_ok hel (mFor_ok hel h n)
/-- what may still be asked -/
def pot (ak : Nat → Nat) : Nat → Nat
  | 0 => 0
  | n + 1 => pot ak n + (12 - ak n)
theorem pot_up {ak : Nat → Nat} {b : Nat} (h : ak b < 12) : ∀ n, b < n → pot (va_up ak b (ak b + 1)) n + 1 = pot ak n
  | 0, hb => absurd hb (Nat.not_lt_zero _)
  | n + 1, hb => by
    have e : ∀ m, m ≤ b → pot (va_up ak b (ak b + 1)) m = pot ak m := by
      intro m
      induction m with
      | zero => intro _; rfl
      | succ m ih => intro hm; rw [pot, pot, ih (by omega), va_up_ne _ _ (by omega)]
    rw [pot, pot]
    rcases Nat.lt_or_ge b n with q | q
    · have := pot_up h n q
      rw [va_up_ne _ _ (by omega)]
      omega
    · have e2 : b = n := by omega
      subst e2
      rw [e b (Nat.le_refl _), va_up_self]
      omega
theorem mFor_pot {pl le lb : Nat → Nat} {br : Nat → Bool} {el be : Nat} {s : pT} (hel : el ≤ 12) (h : pOk s) : ∀ n, n ≤ be → pot (mFor pl le lb br el be s n).1.2 be + (if (mFor pl le lb br el be s n).2 = true then 1 else 0) ≤ pot s.2 be
  | 0, _ => by simp [mFor]
  | n + 1, hn => by
    have ih := mFor_pot (pl := pl) (le := le) (lb := lb) (br := br) (be := be) hel h n (by omega)
    rw [mFor]
    unfold mSt
    split
    · split
      · exact ih
      · rename_i e he
        have h1 := askd_lt he
        have h2 := pot_up (ak := (mFor pl le lb br el be s n).1.2) (b := n) (by omega) be (by omega)
        simp only [if_true]
        split at ih <;> omega
    · exact ih
theorem pot_0 : ∀ n, pot (fun _ => 0) n = 12 * n
  | 0 => rfl
  | n + 1 => by rw [pot, pot_0 n]; omega
theorem cntS_end {f : Nat → Option Nat} {n : Nat} (h : ∀ b, n ≤ b → f b = none) : ∀ m, cntS f (n + m) = cntS f n
  | 0 => rfl
  | m + 1 => by
    have e0 : cntS f (n + (m + 1)) = cntS f (n + m) + if f (n + m) = none then 0 else 1 := rfl
    rw [e0, cntS_end h m, h (n + m) (by omega)]
    simp
/-- the start: nobody has anybody, nothing is asked -/
def pIni (be : Nat) (gi : Nat → Option Nat) (ak : Nat → Nat) : pT := (fil none gi be, fil 0 ak be)
theorem pot_ini {ak : Nat → Nat} {be : Nat} : ∀ n, n ≤ be → pot (fil 0 ak be) n = 12 * n
  | 0, _ => rfl
  | n + 1, h => by rw [pot, pot_ini n (by omega)]; simp only [fil]; rw [if_pos (by omega)]; omega

/-! Sums of outcomes; bounds of shares. -/
def ww (u : Nat → Int64) (i : Nat) : Nat := (u i).toInt.toNat
def wsm (u : Nat → Int64) (s : Nat) : Nat → Nat
  | 0 => 0
  | i + 1 => wsm u s i + if s.testBit i then ww u i else 0
theorem outc_at {u : Nat → Int64} : ∀ {n : Nat}, outc u n = true → ∀ i, i < n → u i = lN (ww u i) ∧ ww u i ≤ 100
  | 0, _, i, hi => absurd hi (Nat.not_lt_zero _)
  | n + 1, h, i, hi => by
    simp only [outc, Bool.and_eq_true, decide_eq_true_eq] at h
    rcases Nat.lt_or_ge i n with q | q
    · exact outc_at h.1.1 i q
    · have e : i = n := by omega
      subst e
      have h1 := h.1.2
      have h2 := h.2
      rw [Int64.lt_iff_toInt_lt] at h1
      rw [Int64.le_iff_toInt_le] at h2
      have e0 : (0 : Int64).toInt = 0 := by decide
      have e1 : (100 : Int64).toInt = 100 := by decide
      have hw : ww u i ≤ 100 := by unfold ww; omega
      refine ⟨?_, hw⟩
      apply Int64.toInt_inj.mp
      rw [pk_lT (by omega)]
      unfold ww
      omega
theorem bsum_16 (u : Nat → Int64) (n s : Nat) (h : ∀ i, i < n → u i = lN (ww u i) ∧ ww u i ≤ 100) : ∀ m, bsum (fun i => if i < n then u i else 0) s m = lN (wsm u s (min m n))
  | 0 => by rw [Nat.zero_min]; rfl
  | m + 1 => by
    rw [bsum, bsum_16 u n s h m]
    rcases Nat.lt_or_ge m n with q | q
    · rw [show min m n = m by omega, show min (m + 1) n = m + 1 by omega, wsm]
      by_cases c : s.testBit m = true
      · rw [if_pos c, if_pos c, if_pos q, (h m q).1, lN_add]
      · rw [if_neg c, if_neg c]
        exact lN_add _ 0
    · have hz : (if m < n then u m else 0) = 0 := if_neg (by omega)
      rw [show min m n = n by omega, show min (m + 1) n = n by omega, hz]
      have h0 : (if s.testBit m = true then (0 : Int64) else 0) = 0 := by split <;> rfl
      rw [h0]
      exact lN_add _ 0
theorem bsum_app (g : Nat → Int64) (s : Nat) : ∀ m, bsum g s (8 + m) = bsum g s 8 + bsum (fun i => g (8 + i)) (s / 256) m
  | 0 => by simp [bsum]
  | m + 1 => by
    have e0 : bsum g s (8 + (m + 1)) = bsum g s (8 + m) + if s.testBit (8 + m) then g (8 + m) else 0 := rfl
    have e1 : bsum (fun i => g (8 + i)) (s / 256) (m + 1) = bsum (fun i => g (8 + i)) (s / 256) m + if (s / 256).testBit m then g (8 + m) else 0 := rfl
    have e : s.testBit (8 + m) = (s / 256).testBit m := by
      rw [show (256 : Nat) = 2 ^ 8 by decide, Nat.testBit_div_two_pow, Nat.add_comm]
    rw [e0, e1, bsum_app g s m, e, Int64.add_assoc]
theorem sm2_eq {u : Nat → Int64} {n s : Nat} {f1 f2 : Nat → Int64} (hn : n ≤ 16) (ho : outc u n = true) : sm2 (pf (lsm u n 0) f1 256) (pf (lsm u n 8) f2 256) s = lN (wsm u s n) := by
  have h := bsum_16 u n s (outc_at ho) (8 + 8)
  rw [show min (8 + 8) n = n by omega, bsum_app] at h
  have hA : lsm u n 0 (s % 256) = bsum (fun i => if i < n then u i else 0) s 8 := by
    unfold lsm
    rw [bsum_cong (s := s % 256) (t := s) 8 (fun i hi => by rw [show (256 : Nat) = 2 ^ 8 by decide, Nat.testBit_mod_two_pow]; simp [hi])]
    have e : (fun i => if 0 + i < n then u (0 + i) else 0) = fun i => if i < n then u i else 0 := by funext i; rw [Nat.zero_add]
    rw [e]
  have hB : lsm u n 8 (s / 256 % 256) = bsum (fun i => if 8 + i < n then u (8 + i) else 0) (s / 256) 8 := by
    unfold lsm
    exact bsum_cong 8 (fun i hi => by rw [show (256 : Nat) = 2 ^ 8 by decide, Nat.testBit_mod_two_pow]; simp [hi])
  have hC : sm2 (pf (lsm u n 0) f1 256) (pf (lsm u n 8) f2 256) s = lsm u n 0 (s % 256) + lsm u n 8 (s / 256 % 256) := by
    unfold sm2
    rw [pf_in (Nat.mod_lt _ (by decide)), pf_in (Nat.mod_lt _ (by decide))]
  rw [hC, hA, hB]
  exact h
theorem wsm_le (u : Nat → Int64) (s : Nat) : ∀ n, (∀ i, i < n → ww u i ≤ 100) → wsm u s n ≤ n * 100
  | 0, _ => by simp [wsm]
  | n + 1, hw => by
    have h1 := wsm_le u s n (fun i hi => hw i (by omega))
    have h2 := hw n (by omega)
    rw [wsm]
    split <;> omega
theorem wsm_full (u : Nat → Int64) (t m : Nat) : ∀ n, n ≤ m → wsm u t n ≤ wsm u (2 ^ m - 1) n ∧ wsm u ((2 ^ m - 1) ^^^ t) n = wsm u (2 ^ m - 1) n - wsm u t n
  | 0, _ => ⟨Nat.le_refl _, rfl⟩
  | n + 1, hn => by
    obtain ⟨h1, h2⟩ := wsm_full u t m n (by omega)
    have hb : (2 ^ m - 1).testBit n = true := by rw [Nat.testBit_two_pow_sub_one]; simp; omega
    simp only [wsm, hb, Nat.testBit_xor, h2, if_true]
    by_cases c : t.testBit n = true
    · simp only [c, if_true]
      refine ⟨by omega, ?_⟩
      simp
      omega
    · have c2 : t.testBit n = false := by simpa using c
      simp only [c2]
      refine ⟨?_, ?_⟩
      · simp; omega
      · simp; omega
theorem pcn_le (t : Nat) : ∀ n, pcn t n ≤ n
  | 0 => Nat.le_refl _
  | n + 1 => by
    have := pcn_le t n
    rw [pcn]
    split <;> omega
theorem pcn_top {t n : Nat} (h : t < 2 ^ n) : ∀ m, pcn t (n + m) = pcn t n
  | 0 => rfl
  | m + 1 => by
    have e0 : pcn t (n + (m + 1)) = pcn t (n + m) + if t.testBit (n + m) then 1 else 0 := rfl
    have hf : t.testBit (n + m) = false := Nat.testBit_lt_two_pow (by
      have := two_pow_le (n := n) (m := n + m) (by omega)
      omega)
    rw [e0, pcn_top h m, hf]
    rfl
theorem pcn_lt {t : Nat} : ∀ n, t < 2 ^ n - 1 → pcn t n < n
  | 0, h => by simp at h
  | n + 1, h => by
    have e : 2 ^ (n + 1) = 2 ^ n + 2 ^ n := by rw [Nat.pow_succ]; omega
    rcases Nat.lt_or_ge t (2 ^ n) with q | q
    · have h1 := pcn_top q 1
      have h2 := pcn_le t n
      omega
    · have ht : 2 ^ n + (t - 2 ^ n) = t := by omega
      have h1 := pcn_lt (t := t - 2 ^ n) n (by omega)
      have h2 := pcn_add (n := n) (t := t - 2 ^ n) (by omega) (n + 1)
      have h3 := pcn_top (t := t - 2 ^ n) (n := n) (by omega) 1
      rw [if_pos (Nat.lt_succ_self n), ht] at h2
      omega
theorem pcn_in {t n : Nat} (hn : n ≤ 16) (h0 : 0 < t) (h : t < 2 ^ n - 1) : 0 < pcn t 16 ∧ pcn t 16 < n := by
  have h1 := pcn_pos n hn h0 (by omega)
  have h2 := pcn_top (t := t) (n := n) (by omega) (16 - n)
  rw [show n + (16 - n) = 16 by omega] at h2
  have h3 := pcn_lt (t := t) n h
  omega
theorem lN_sub_abs {p q : Nat} (hp : p < 2 ^ 48) (hq : q < 2 ^ 48) : (lN p - lN q).toInt.natAbs < 2 ^ 49 := by
  rw [Int64.toInt_sub, pk_lT (by omega), pk_lT (by omega), Int.bmod_eq_of_le (by omega) (by omega)]
  omega
theorem gain_abs {a b k m : Nat} (hb : b ≤ 1600) (hab : a ≤ b) (hk : k ≤ 16) (hm : m ≤ 16) : (lN a * lN m - lN (b - a) * lN k).toInt.natAbs < 2 ^ 49 := by
  rw [lN_mul, lN_mul]
  have h1 : a * m ≤ 1600 * 16 := Nat.mul_le_mul (by omega) hm
  have h2 : (b - a) * k ≤ 1600 * 16 := Nat.mul_le_mul (by omega) hk
  exact lN_sub_abs (by omega) (by omega)
/-- bounds of shares -/
def fct : Nat → Nat
  | 0 => 1
  | n + 1 => (n + 1) * fct n
theorem fct_pos : ∀ n, 0 < fct n
  | 0 => by decide
  | n + 1 => Nat.mul_pos (Nat.succ_pos n) (fct_pos n)
theorem fct_mono {m : Nat} : ∀ n, m ≤ n → fct m ≤ fct n
  | 0, h => by have : m = 0 := by omega
               subst this; exact Nat.le_refl _
  | n + 1, h => by
    rcases Nat.lt_or_ge m (n + 1) with q | q
    · have h1 := fct_mono (m := m) n (by omega)
      have h2 : 1 * fct n ≤ (n + 1) * fct n := Nat.mul_le_mul_right _ (by omega)
      rw [fct]
      omega
    · have : m = n + 1 := by omega
      subst this
      exact Nat.le_refl _
theorem cntR_dn (mo : Nat → Nat) (re : Nat → Bool) (t : Nat) : ∀ n, cntR mo (t + 1) n + cntE mo re t n ≤ cntR mo t n
  | 0 => Nat.le_refl _
  | n + 1 => by
    have h := cntR_dn mo re t n
    simp only [cntR, cntE]
    by_cases c1 : t + 1 ≤ mo n
    · rw [if_pos c1, if_neg (fun h => by have := h.2; omega), if_pos (by omega)]
      omega
    · rw [if_neg c1]
      split
      · rename_i hh
        rw [if_pos (by have := hh.2; omega)]; omega
      · split <;> omega
theorem shB_fct (mo : Nat → Nat) (re : Nat → Bool) (n : Nat) : ∀ t, shB mo re n t * fct (cntR mo (t + 1) n) ≤ fct n ∧ 0 < shB mo re n t ∧ shA mo re n t ≤ shB mo re n t
  | 0 => ⟨by rw [shB, Nat.one_mul]; exact fct_mono n (cntR_le mo 1 n), Nat.one_pos, Nat.le_refl _⟩
  | t + 1 => by
    obtain ⟨h1, h2, h3⟩ := shB_fct mo re n t
    have hd := cntR_dn mo re (t + 1) n
    have he := cntE_le mo re (t + 1) n
    simp only [shA, shB]
    by_cases c : cntE mo re (t + 1) n = 0
    · rw [if_pos c, if_pos c]
      refine ⟨Nat.le_trans (Nat.mul_le_mul_left _ (fct_mono _ (by omega))) h1, h2, h3⟩
    · rw [if_neg c, if_neg c]
      refine ⟨?_, Nat.mul_pos h2 (by omega), Nat.mul_le_mul h3 (by omega)⟩
      refine Nat.le_trans ?_ h1
      rw [Nat.mul_assoc]
      refine Nat.mul_le_mul_left _ ?_
      obtain ⟨r, hr⟩ : ∃ r, cntR mo (t + 1) n = r + 1 := ⟨cntR mo (t + 1) n - 1, by omega⟩
      rw [hr, fct]
      exact Nat.mul_le_mul_left _ (fct_mono r (by omega))
theorem sh_ok {mo : Nat → Nat} {re : Nat → Bool} {n : Nat} (hn : n ≤ 16) (t : Nat) : shA mo re n t < 2 ^ 49 ∧ 0 < shB mo re n t ∧ shB mo re n t < 2 ^ 49 := by
  obtain ⟨h1, h2, h3⟩ := shB_fct mo re n t
  have h4 := fct_mono 16 hn
  have h5 : fct 16 = 20922789888000 := by decide +kernel
  have h6 : shB mo re n t * 1 ≤ shB mo re n t * fct (cntR mo (t + 1) n) := Nat.mul_le_mul_left _ (fct_pos _)
  omega

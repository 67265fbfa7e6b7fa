theorem oz_n {n k : Nat} (h : n ≤ k) : oz n k = none := by
  simp only [oz]
  rw [if_neg (by omega)]
theorem oz_ob {n m : Nat} (h : 0 < m) : ∀ k, ob m (oz n k) := fun k => by
  simp only [oz]
  split
  · exact ob_s h
  · exact ob_n
theorem ym_0 : ∀ t, va_up (va_up (va_up (va_up (oz 4) 0 none) 1 none) 2 none) 3 none t = none := fun t => by
  by_cases h3 : t = 3
  · subst h3; exact va_up_self _ _ _
  · rw [va_up_ne _ _ h3]
    by_cases h2 : t = 2
    · subst h2; exact va_up_self _ _ _
    · rw [va_up_ne _ _ h2]
      by_cases h1 : t = 1
      · subst h1; exact va_up_self _ _ _
      · rw [va_up_ne _ _ h1]
        by_cases h0 : t = 0
        · subst h0; exact va_up_self _ _ _
        · rw [va_up_ne _ _ h0]
          exact oz_n (by omega)
theorem eb_0 : ∀ k, fil none (oz 16) 16 k = none := fun k => by
  simp only [fil]
  split
  · rfl
  · exact oz_n (by omega)
theorem lwR_0 : lwR 0 0 (fun _ => true) (fun _ => 0) (fun _ => 0) (fun _ _ => 0) (va_up (va_up (va_up (va_up (oz 4) 0 none) 1 none) 2 none) 3 none) (fun _ => 0) (fun _ => 0) 0 0 (fun _ => 0) (fun _ => 0) (fun _ => 0) (fun _ => false) false (fil none (oz 16) 16) (fun _ => some 0) (oz 16) (fun _ => 0) (fun _ => 0) (oz 16) 0 none none (fun _ => 0) (fun _ => false) 0 0 (fun _ => 0) (fun _ => 0) (fun _ => 0) (fun _ => 0) (fun _ => false) 0 (fun _ => 0) (fun _ => 0) (fun _ => some 0) (fun _ => some 0) 0 (fun _ => 0) (fun _ => false) 0 (fun _ => 0) (fun _ => 0) 0 1 := by
  refine ⟨⟨?_, ?_, ?_, ?_, ?_, ?_, ?_, ?_⟩, ⟨?_, ?_, ?_, ?_, ?_⟩, ⟨?_, ?_, ?_, ?_, ?_, ?_, ?_, ?_, ?_, ?_, ?_⟩, ⟨?_, ?_, ?_, ?_, ?_, ?_⟩, ⟨?_, ?_, ?_, ?_, ?_, ?_, ?_⟩, ⟨?_, ?_⟩, rfl, rfl⟩
  · intro t _; rw [msO, ym_0]; rfl
  · intro t _; rw [lnO, ym_0]; rfl
  · intro t _; rfl
  · intro t _ i hi; exact absurd hi (Nat.not_lt_zero _)
  · intro k; exact Nat.zero_le _
  · intro k; show (0 : Nat) < 4; decide
  · intro k; rw [ym_0]; exact ob_n
  · intro k; show (0 : Nat) < 4; decide
  · exact Nat.zero_le _
  · exact Nat.zero_le _
  · intro k; exact Nat.zero_le _
  · intro k; exact Nat.zero_le _
  · intro k; exact Nat.zero_le _
  · intro b hb; exact absurd hb (Nat.not_lt_zero _)
  · intro b _; exact eb_0 b
  · intro k; rw [eb_0]; exact ob_n
  · exact oz_ob (by decide)
  · intro k hk; exact oz_n hk
  · intro k; exact ob_s (by decide)
  · intro k; exact Nat.zero_le _
  · intro k; show (0 : Nat) < 16; decide
  · exact oz_ob (by decide)
  · intro k hk; exact oz_n hk
  · exact ob_n
  · exact Nat.zero_le _
  · exact Nat.zero_le _
  · intro k; show (0 : Nat) < 16; decide
  · intro k; show (0 : Nat) < 10000; decide
  · intro k; show (0 : Nat) < 100; decide
  · intro k; show (0 : Nat) < 10000; decide
  · exact Nat.zero_le _
  · intro k; show (0 : Nat) < 16; decide
  · intro k; show (0 : Nat) < 10000; decide
  · intro k; exact ob_s (by decide)
  · intro k; exact ob_s (by decide)
  · intro k j hk; exact absurd hk (Nat.not_lt_zero _)
  · intro k j _ hj; cases hj; rfl
  · exact Nat.zero_le _
  · intro k; exact Nat.zero_le _

/-! PAIRS: what the class works out, as functions. -/
def cntO (eb : Nat → Option Nat) (e : Nat) : Nat → Nat
  | 0 => 0
  | n + 1 => cntO eb e n + if eb n = some e then 1 else 0
theorem cntO_le (eb : Nat → Option Nat) (e : Nat) : ∀ n, cntO eb e n ≤ n
  | 0 => Nat.le_refl _
  | n + 1 => by
    have := cntO_le eb e n
    simp only [cntO]
    split <;> omega
theorem cntO_pos {eb : Nat → Option Nat} {e b : Nat} (h : eb b = some e) : ∀ n, b < n → 1 ≤ cntO eb e n
  | 0, hb => absurd hb (Nat.not_lt_zero _)
  | n + 1, hb => by
    simp only [cntO]
    rcases Nat.lt_or_ge b n with q | q
    · have := cntO_pos h n q
      omega
    · have e2 : b = n := by omega
      subst e2
      rw [if_pos h]
      omega
def cntS (eb : Nat → Option Nat) : Nat → Nat
  | 0 => 0
  | n + 1 => cntS eb n + if eb n = none then 0 else 1
theorem cntS_le (eb : Nat → Option Nat) : ∀ n, cntS eb n ≤ n
  | 0 => Nat.le_refl _
  | n + 1 => by
    have := cntS_le eb n
    simp only [cntS]
    split <;> omega
def prEO (le : Nat → Nat) (e : Nat) (o : Option Nat) (n : Nat) : Bool := match o with
  | none => true
  | some w => prE le e w n
/-- of elder e's beginners before n the one whom they prefer least -/
def lst (le : Nat → Nat) (eb : Nat → Option Nat) (e : Nat) : Nat → Option Nat
  | 0 => none
  | n + 1 => if eb n = some e ∧ prEO le e (lst le eb e n) n = true then some n else lst le eb e n
theorem lst_ob (le : Nat → Nat) (eb : Nat → Option Nat) (e : Nat) : ∀ n, ob n (lst le eb e n)
  | 0 => ob_n
  | n + 1 => by
    simp only [lst]
    split
    · exact ob_s (Nat.lt_succ_self n)
    · exact (lst_ob le eb e n).big (Nat.le_succ n)
def laO (lb : Nat → Nat) (b : Nat) (la : Option Nat) (n : Nat) : Bool := match la with
  | none => true
  | some j => prBO lb b j (some n)
/-- of the elders before n whom beginner b prefers, of those not asked yet -/
def nxt (le lb : Nat → Nat) (br : Nat → Bool) (b : Nat) (la : Option Nat) : Nat → Option Nat
  | 0 => none
  | n + 1 => if canB le lb br n b = true ∧ laO lb b la n = true ∧ prBO lb b n (nxt le lb br b la n) = true then some n else nxt le lb br b la n
theorem nxt_ob (le lb : Nat → Nat) (br : Nat → Bool) (b : Nat) (la : Option Nat) : ∀ n, ob n (nxt le lb br b la n)
  | 0 => ob_n
  | n + 1 => by
    simp only [nxt]
    split
    · exact ob_s (Nat.lt_succ_self n)
    · exact (nxt_ob le lb br b la n).big (Nat.le_succ n)
/-- beginner a asks elder e: who has whom then, and who is without an elder -/
def askF (pl le : Nat → Nat) (eb : Nat → Option Nat) (be e a : Nat) : (Nat → Option Nat) × Option Nat :=
  if cntO eb e 16 < pl e then (va_up eb a (some e), none) else
  match lst le eb e be with
  | none => (eb, some a)
  | some w => if prE le e a w = true then (va_up (va_up eb w none) a (some e), some w) else (eb, some a)
theorem ob_up {n i : Nat} {f : Nat → Option Nat} {v : Option Nat} (h : ∀ k, ob n (f k)) (hv : ob n v) : ∀ k, ob n (va_up f i v k) := fun k => by
  simp only [va_up]
  split
  · exact hv
  · exact h k
theorem none_up {n i : Nat} {f : Nat → Option Nat} {v : Option Nat} (h : ∀ k, n ≤ k → f k = none) (hi : i < n) : ∀ k, n ≤ k → va_up f i v k = none := fun k hk => by
  simp only [va_up]
  rw [if_neg (by omega)]
  exact h k hk
theorem askF_ob {pl le : Nat → Nat} {eb : Nat → Option Nat} {be e a : Nat} (heb : ∀ k, ob 12 (eb k)) (he : e < 12) (ha : a < 16) (hbe : be ≤ 16) : (∀ k, ob 12 ((askF pl le eb be e a).1 k)) ∧ ob 16 (askF pl le eb be e a).2 := by
  unfold askF
  have hl := lst_ob le eb e be
  split
  · exact ⟨ob_up heb (ob_s he), ob_n⟩
  · split
    · exact ⟨heb, ob_s ha⟩
    · rename_i w hw
      have hw16 : w < 16 := by have := hl w hw; omega
      split
      · exact ⟨ob_up (ob_up heb ob_n) (ob_s he), ob_s hw16⟩
      · exact ⟨heb, ob_s ha⟩
theorem askF_none {pl le : Nat → Nat} {eb : Nat → Option Nat} {be e a : Nat} (heb : ∀ k, 16 ≤ k → eb k = none) (ha : a < 16) (hbe : be ≤ 16) : ∀ k, 16 ≤ k → (askF pl le eb be e a).1 k = none := by
  unfold askF
  have hl := lst_ob le eb e be
  split
  · exact none_up heb ha
  · split
    · exact heb
    · rename_i w hw
      have hw16 : w < 16 := by have := hl w hw; omega
      split
      · exact none_up (none_up heb hw16) ha
      · exact heb
/-- the asking of one who seeks, and of those who lose their place by it -/
def seatF (pl le lb : Nat → Nat) (br : Nat → Bool) (el be : Nat) : Nat → (Nat → Option Nat) → (Nat → Option Nat) → Option Nat → (Nat → Option Nat) × (Nat → Option Nat)
  | 0, eb, la, _ => (eb, la)
  | n + 1, eb, la, sk => match sk with
    | none => (eb, la)
    | some s => match nxt le lb br s (la s) el with
      | none => (eb, la)
      | some e => seatF pl le lb br el be n (askF pl le eb be e s).1 (va_up la s (some e)) (askF pl le eb be e s).2
theorem seatF_ob {pl le lb : Nat → Nat} {br : Nat → Bool} {el be : Nat} (hel : el ≤ 12) (hbe : be ≤ 16) : ∀ (n : Nat) (eb la : Nat → Option Nat) (sk : Option Nat), (∀ k, ob 12 (eb k)) → (∀ k, ob 12 (la k)) → (∀ k, 16 ≤ k → eb k = none) → (∀ k, 16 ≤ k → la k = none) → ob 16 sk →
    ((∀ k, ob 12 ((seatF pl le lb br el be n eb la sk).1 k)) ∧ (∀ k, ob 12 ((seatF pl le lb br el be n eb la sk).2 k))) ∧ (∀ k, 16 ≤ k → (seatF pl le lb br el be n eb la sk).1 k = none) ∧ (∀ k, 16 ≤ k → (seatF pl le lb br el be n eb la sk).2 k = none)
  | 0, eb, la, sk, h1, h2, h3, h4, _ => ⟨⟨h1, h2⟩, h3, h4⟩
  | n + 1, eb, la, sk, h1, h2, h3, h4, h5 => by
    unfold seatF
    cases sk with
    | none => exact ⟨⟨h1, h2⟩, h3, h4⟩
    | some s =>
      have hs := h5 s rfl
      dsimp only
      split
      · exact ⟨⟨h1, h2⟩, h3, h4⟩
      · rename_i e he
        have he12 : e < 12 := by have := nxt_ob le lb br s (la s) el e he; omega
        exact seatF_ob hel hbe n _ _ _ (askF_ob h1 he12 hs hbe).1 (ob_up h2 (ob_s he12)) (askF_none h3 hs hbe) (none_up h4 hs) (askF_ob h1 he12 hs hbe).2
def bestF (pl le lb : Nat → Nat) (br : Nat → Bool) (el be : Nat) : Nat → (Nat → Option Nat) × (Nat → Option Nat)
  | 0 => (fun _ => none, fun _ => none)
  | n + 1 => seatF pl le lb br el be 192 (bestF pl le lb br el be n).1 (bestF pl le lb br el be n).2 (some n)
theorem bestF_ob {pl le lb : Nat → Nat} {br : Nat → Bool} {el be : Nat} (hel : el ≤ 12) (hbe : be ≤ 16) : ∀ n, n ≤ be → ((∀ k, ob 12 ((bestF pl le lb br el be n).1 k)) ∧ (∀ k, ob 12 ((bestF pl le lb br el be n).2 k))) ∧ (∀ k, 16 ≤ k → (bestF pl le lb br el be n).1 k = none) ∧ (∀ k, 16 ≤ k → (bestF pl le lb br el be n).2 k = none)
  | 0, _ => ⟨⟨fun _ => ob_n, fun _ => ob_n⟩, fun _ _ => rfl, fun _ _ => rfl⟩
  | n + 1, hn => by
    have h := bestF_ob (pl := pl) (le := le) (lb := lb) (br := br) (el := el) (be := be) hel hbe n (by omega)
    exact seatF_ob hel hbe 192 _ _ _ h.1.1 h.1.2 h.2.1 h.2.2 (ob_s (by omega))
/-- elder e and beginner b BLOCK -/
def blk (pl le lb : Nat → Nat) (br : Nat → Bool) (eb : Nat → Option Nat) (be e b : Nat) : Bool :=
  if eb b = some e then false else if canB le lb br e b = false then false else if prBO lb b e (eb b) = false then false else if cntO eb e 16 < pl e then true else
  match lst le eb e be with
  | none => false
  | some w => prE le e b w
def cbI (pl le lb : Nat → Nat) (br : Nat → Bool) (eb : Nat → Option Nat) (be e : Nat) : Nat → Nat
  | 0 => 0
  | n + 1 => cbI pl le lb br eb be e n + if blk pl le lb br eb be e n = true then 1 else 0
def cbO (pl le lb : Nat → Nat) (br : Nat → Bool) (eb : Nat → Option Nat) (be : Nat) : Nat → Nat
  | 0 => 0
  | n + 1 => cbO pl le lb br eb be n + cbI pl le lb br eb be n be
theorem fil_none {f : Nat → Option Nat} {n : Nat} (h : ∀ k, n ≤ k → f k = none) : fil none f n = fun _ => none := by
  funext k
  simp only [fil]
  split
  · rfl
  · exact h k (by omega)

/-! CHANGE, as the reference does it. -/
def anyN (p : Nat → Bool) : Nat → Bool
  | 0 => false
  | n + 1 => anyN p n || p n
theorem anyN_iff {p : Nat → Bool} : ∀ {n : Nat}, anyN p n = true ↔ ∃ k, k < n ∧ p k = true
  | 0 => ⟨fun h => (by cases h), fun ⟨k, hk, _⟩ => absurd hk (Nat.not_lt_zero _)⟩
  | n + 1 => by
    rw [anyN, Bool.or_eq_true, anyN_iff]
    constructor
    · rintro (⟨k, h1, h2⟩ | h)
      · exact ⟨k, by omega, h2⟩
      · exact ⟨n, Nat.lt_succ_self _, h⟩
    · rintro ⟨k, h1, h2⟩
      by_cases c : k = n
      · subst c; exact Or.inr h2
      · exact Or.inl ⟨k, by omega, h2⟩
theorem pf_ge {α : Type} {g f : Nat → α} {j k : Nat} (h : j ≤ k) : pf g f j k = f k := by simp only [pf]; rw [if_neg (by omega)]
theorem pf_0 {α : Type} (g f : Nat → α) : pf g f 0 = f := by funext k; exact pf_ge (Nat.zero_le _)
theorem nI_dec {n : Nat} (h : 1 ≤ n) : nI n + (-1) = nI (n - 1) := by
  rw [← pk_sub h, Int32.sub_eq_add_neg]
  rfl
def prd : Nat → Option Nat
  | 0 => none
  | n + 1 => some n
theorem prd_dec (n : Nat) : nI n + (-1) = oI (prd n) := by
  cases n with
  | zero => decide
  | succ n => exact nI_dec (by omega)
theorem prd_sub (n : Nat) : nI n - nI 1 = oI (prd n) := by
  rw [← prd_dec, Int32.sub_eq_add_neg]
  rfl
theorem prd_ob {n m : Nat} (h : n ≤ m) : ob m (prd n) := by
  intro j hj
  cases n with
  | zero => cases hj
  | succ n => cases hj; omega
theorem prd_s {n c : Nat} (h : prd n = some c) : n = c + 1 := by
  cases n with
  | zero => cases h
  | succ n => cases h; rfl
theorem prd_n {n : Nat} (h : prd n = none) : n = 0 := by
  cases n with
  | zero => rfl
  | succ n => cases h
def isFr (pl : Nat → Nat) (gi : Nat → Option Nat) (be lf e : Nat) : Bool := decide (cntO gi e be - (if e = lf then 1 else 0) < pl e)
def tmB (pl le lb : Nat → Nat) (br : Nat → Bool) (gi : Nat → Option Nat) (be lf b : Nat) : Nat → Bool := fun e => mayM le lb br gi b e && isFr pl gi be lf e
def st1 (pl le lb : Nat → Nat) (br : Nat → Bool) (gi : Nat → Option Nat) (el be lf b : Nat) : Nat := if gi b = none then 1000 else if anyN (tmB pl le lb br gi be lf b) el = true then 1 else 1000
def stB (le lb : Nat → Nat) (br : Nat → Bool) (gi : Nat → Option Nat) (s : Nat → Nat) (j b c : Nat) : Bool := match gi c with
  | none => false
  | some g => decide (s c = j + 1) && mayM le lb br gi b g
def rd2 (le lb : Nat → Nat) (br : Nat → Bool) (gi : Nat → Option Nat) (be : Nat) (s : Nat → Nat) (j b : Nat) : Nat := if gi b = none ∨ s b < 1000 then s b else if anyN (stB le lb br gi s j b) be = true then j + 2 else s b
def spN (pl le lb : Nat → Nat) (br : Nat → Bool) (gi : Nat → Option Nat) (el be lf : Nat) (sp : Nat → Nat) : Nat → Nat → Nat
  | 0 => pf (st1 pl le lb br gi el be lf) sp be
  | j + 1 => pf (rd2 le lb br gi be (spN pl le lb br gi el be lf sp j) j) (spN pl le lb br gi el be lf sp j) be
theorem stB_iff {le lb : Nat → Nat} {br : Nat → Bool} {gi : Nat → Option Nat} {s : Nat → Nat} {j b c : Nat} : stB le lb br gi s j b c = true ↔ ∃ g, gi c = some g ∧ s c = j + 1 ∧ mayM le lb br gi b g = true := by
  unfold stB
  cases h : gi c with
  | none => simp
  | some g => simp
/-- as the row is worked over, who is at j + 1 stays so -/
theorem rd_is {le lb : Nat → Nat} {br : Nat → Bool} {gi : Nat → Option Nat} {be : Nat} {s : Nat → Nat} {j b c v : Nat} (hj : j ≤ 16) (hb : 1000 ≤ s b) (hv : v = j + 2 ∨ v = s b) : va_up (pf (rd2 le lb br gi be s j) s b) b v c = j + 1 ↔ s c = j + 1 := by
  by_cases h : c = b
  · subst h
    rw [va_up_self]
    omega
  · rw [va_up_ne _ _ h]
    rcases Nat.lt_or_ge c b with q | q
    · rw [pf_in q, rd2]
      split
      · exact Iff.rfl
      · rename_i h2
        split
        · have : ¬ s c < 1000 := fun z => h2 (Or.inr z)
          omega
        · exact Iff.rfl
    · rw [pf_ge q]
section SP
variable {pl le lb : Nat → Nat} {br : Nat → Bool} {gi : Nat → Option Nat} {el be lf : Nat} {sp : Nat → Nat}
theorem sp_ok {b : Nat} (hb : b < be) : ∀ j, spN pl le lb br gi el be lf sp j b = 1000 ∨ (1 ≤ spN pl le lb br gi el be lf sp j b ∧ spN pl le lb br gi el be lf sp j b ≤ j + 1 ∧ gi b ≠ none)
  | 0 => by
    rw [spN, pf_in hb, st1]
    split
    · exact Or.inl rfl
    · rename_i h
      split
      · exact Or.inr ⟨by omega, by omega, h⟩
      · exact Or.inl rfl
  | j + 1 => by
    rw [spN, pf_in hb, rd2]
    have ih := sp_ok hb j
    split
    · exact ih.imp id (fun z => ⟨z.1, by omega, z.2.2⟩)
    · rename_i h
      split
      · exact Or.inr ⟨by omega, by omega, fun z => h (Or.inl z)⟩
      · exact ih.imp id (fun z => ⟨z.1, by omega, z.2.2⟩)
theorem sp_up {b : Nat} (hb : b < be) {j : Nat} (h : spN pl le lb br gi el be lf sp j b < 1000) : ∀ d, spN pl le lb br gi el be lf sp (j + d) b = spN pl le lb br gi el be lf sp j b
  | 0 => rfl
  | d + 1 => by
    have ih := sp_up hb h d
    show spN pl le lb br gi el be lf sp (j + d + 1) b = _
    rw [spN, pf_in hb, rd2, if_pos (Or.inr (by omega)), ih]
theorem sp_dn {b v n : Nat} (hb : b < be) (hv : v < 1000) (hvn : v ≤ n + 1) : ∀ d, spN pl le lb br gi el be lf sp (n + d) b = v → spN pl le lb br gi el be lf sp n b = v
  | 0, h => h
  | d + 1, h => by
    have h : spN pl le lb br gi el be lf sp (n + d + 1) b = v := h
    rw [spN, pf_in hb, rd2] at h
    refine sp_dn hb hv hvn d ?_
    split at h
    · exact h
    · split at h
      · omega
      · exact h
theorem sp_1 {b : Nat} (hb : b < be) {j : Nat} : spN pl le lb br gi el be lf sp j b = 1 ↔ gi b ≠ none ∧ anyN (tmB pl le lb br gi be lf b) el = true := by
  have h0 : spN pl le lb br gi el be lf sp 0 b = 1 ↔ gi b ≠ none ∧ anyN (tmB pl le lb br gi be lf b) el = true := by
    rw [spN, pf_in hb, st1]
    by_cases c : gi b = none
    · rw [if_pos c]; simp [c]
    · rw [if_neg c]
      by_cases d : anyN (tmB pl le lb br gi be lf b) el = true
      · rw [if_pos d]; simp [c, d]
      · rw [if_neg d]; simp [d]
  rw [← h0]
  constructor
  · intro h
    exact sp_dn (v := 1) (n := 0) hb (by omega) (by omega) j (by rw [Nat.zero_add]; exact h)
  · intro h
    have := sp_up (j := 0) hb (show spN pl le lb br gi el be lf sp 0 b < 1000 by omega) j
    rw [Nat.zero_add] at this
    rw [this]; exact h
theorem sp_2 {b n : Nat} (hb : b < be) {j : Nat} (hn : n + 2 < 1000) (h : spN pl le lb br gi el be lf sp j b = n + 2) : ∃ c g, c < be ∧ gi c = some g ∧ spN pl le lb br gi el be lf sp j c = n + 1 ∧ mayM le lb br gi b g = true := by
  have hj : n + 1 ≤ j := by have := sp_ok (pl := pl) (le := le) (lb := lb) (br := br) (gi := gi) (el := el) (lf := lf) (sp := sp) hb j; omega
  have h1 : spN pl le lb br gi el be lf sp (n + 1) b = n + 2 := sp_dn hb hn (by omega) (j - (n + 1)) (by rw [show n + 1 + (j - (n + 1)) = j by omega]; exact h)
  rw [spN, pf_in hb, rd2] at h1
  split at h1
  · have := sp_ok (pl := pl) (le := le) (lb := lb) (br := br) (gi := gi) (el := el) (lf := lf) (sp := sp) hb n
    omega
  · split at h1
    · rename_i h2
      obtain ⟨c, hc, h3⟩ := anyN_iff.mp h2
      obtain ⟨g, h4, h5, h6⟩ := stB_iff.mp h3
      refine ⟨c, g, hc, h4, ?_, h6⟩
      have := sp_up (pl := pl) (le := le) (lb := lb) (br := br) (gi := gi) (el := el) (lf := lf) (sp := sp) hc (j := n) (by omega) (j - n)
      rw [show n + (j - n) = j by omega] at this
      omega
    · have := sp_ok (pl := pl) (le := le) (lb := lb) (br := br) (gi := gi) (el := el) (lf := lf) (sp := sp) hb n
      omega
theorem sp_3 {b c g n : Nat} (hb : b < be) (hc : c < be) {j : Nat} (hn : n + 1 ≤ j) (hj : j ≤ 16) (hg : gi b ≠ none) (hcg : gi c = some g) (hm : mayM le lb br gi b g = true) (h : spN pl le lb br gi el be lf sp j c = n + 1) : spN pl le lb br gi el be lf sp j b ≤ n + 2 := by
  have h1 : spN pl le lb br gi el be lf sp n c = n + 1 := sp_dn hc (by omega) (by omega) (j - n) (by rw [show n + (j - n) = j by omega]; exact h)
  have h2 : spN pl le lb br gi el be lf sp (n + 1) b ≤ n + 2 := by
    rw [spN, pf_in hb, rd2]
    split
    · rename_i h3
      rcases h3 with h3 | h3
      · exact absurd h3 hg
      · have := sp_ok (pl := pl) (le := le) (lb := lb) (br := br) (gi := gi) (el := el) (lf := lf) (sp := sp) hb n
        omega
    · rw [if_pos (anyN_iff.mpr ⟨c, hc, stB_iff.mpr ⟨g, hcg, h1, hm⟩⟩)]
      exact Nat.le_refl _
  have := sp_up (pl := pl) (le := le) (lb := lb) (br := br) (gi := gi) (el := el) (lf := lf) (sp := sp) hb (j := n + 1) (by omega) (j - (n + 1))
  rw [show n + 1 + (j - (n + 1)) = j by omega] at this
  omega
end SP
/-! the row that is moved -/
def nxP (g : Nat → Option Nat) (sp : Nat → Nat) (to n : Nat) : Nat → Bool := fun c => decide (g c = some to) && decide (sp c = n - 1)
def tkB (le lb : Nat → Nat) (br : Nat → Bool) (g : Nat → Option Nat) (sp : Nat → Nat) (fr : Nat → Bool) (be b n e : Nat) : Bool := mayM le lb br g b e && (if n = 1 then fr e else anyN (nxP g sp e n) be)
def nxC (g : Nat → Option Nat) (sp : Nat → Nat) (be to n : Nat) : Option Nat := if n ≤ 1 then none else ffn (nxP g sp to n) be
def chF (le lb : Nat → Nat) (br : Nat → Bool) (sp : Nat → Nat) (fr : Nat → Bool) (el be : Nat) : Nat → (Nat → Option Nat) → Option Nat → (Nat → Option Nat)
  | 0, g, _ => g
  | n + 1, g, nw => match nw with
    | none => g
    | some b => match ffn (tkB le lb br g sp fr be b (n + 1)) el with
      | none => g
      | some to => chF le lb br sp fr el be n (va_up g b (some to)) (nxC g sp be to (n + 1))
def fsd (p : Nat → Bool) (m : Nat) : Nat → Option Nat
  | 0 => none
  | d + 1 => if p m = true then some m else fsd p (m + 1) d
theorem ffn_least {p : Nat → Bool} {t : Nat} : ∀ n, ffn p n = some t → ∀ k, k < t → p k = false
  | 0, h => by cases h
  | n + 1, h => by
    simp only [ffn] at h
    cases h1 : ffn p n with
    | some j => rw [h1] at h; cases h; exact ffn_least n h1
    | none =>
      rw [h1] at h
      cases h2 : p n with
      | false => rw [h2] at h; cases h
      | true =>
        rw [h2] at h
        cases h
        exact fun k hk => ffn_no _ h1 k hk
theorem ffn_uni {p : Nat → Bool} {n t : Nat} (h1 : t < n) (h2 : p t = true) (h3 : ∀ k, k < t → p k = false) : ffn p n = some t := by
  cases h : ffn p n with
  | none => rw [ffn_no n h t h1] at h2; cases h2
  | some v =>
    obtain ⟨a1, a2⟩ := ffn_some n h
    rcases Nat.lt_trichotomy v t with q | q | q
    · rw [h3 v q] at a2; cases a2
    · rw [q]
    · rw [ffn_least n h t q] at h2; cases h2
theorem ffn_ex {p : Nat → Bool} {n k : Nat} (h1 : k < n) (h2 : p k = true) : ∃ t, ffn p n = some t := by
  cases h : ffn p n with
  | none => rw [ffn_no n h k h1] at h2; cases h2
  | some v => exact ⟨v, rfl⟩
theorem fsd_is {p : Nat → Bool} : ∀ (d m : Nat), (∀ t, fsd p m d = some t → m ≤ t ∧ t < m + d ∧ p t = true ∧ ∀ k, m ≤ k → k < t → p k = false) ∧ (fsd p m d = none → ∀ k, m ≤ k → k < m + d → p k = false)
  | 0, m => ⟨fun t h => by (cases h), fun _ k h1 h2 => by omega⟩
  | d + 1, m => by
    obtain ⟨i1, i2⟩ := fsd_is (p := p) d (m + 1)
    rw [fsd]
    by_cases c : p m = true
    · rw [if_pos c]
      refine ⟨fun t h => ?_, fun h => by cases h⟩
      cases h
      exact ⟨Nat.le_refl _, by omega, c, fun k h1 h2 => by omega⟩
    · rw [if_neg c]
      refine ⟨fun t h => ?_, fun h k h1 h2 => ?_⟩
      · obtain ⟨a1, a2, a3, a4⟩ := i1 t h
        refine ⟨by omega, by omega, a3, fun k h1 h2 => ?_⟩
        by_cases e : k = m
        · subst e; simpa using c
        · exact a4 k (by omega) h2
      · by_cases e : k = m
        · subst e; simpa using c
        · exact i2 h k (by omega) (by omega)
theorem fsd_ffn (p : Nat → Bool) (n : Nat) : fsd p 0 n = ffn p n := by
  obtain ⟨i1, i2⟩ := fsd_is (p := p) n 0
  cases h : fsd p 0 n with
  | none =>
    cases h2 : ffn p n with
    | none => rfl
    | some t =>
      obtain ⟨a1, a2⟩ := ffn_some n h2
      rw [i2 h t (Nat.zero_le _) (by omega)] at a2
      cases a2
  | some t =>
    obtain ⟨a1, a2, a3, a4⟩ := i1 t h
    exact (ffn_uni (by omega) a3 (fun k hk => a4 k (Nat.zero_le _) hk)).symm
/-- what stands while the row is moved: n are still to move -/
def chOk (gi : Nat → Option Nat) (sp : Nat → Nat) (be n : Nat) (g : Nat → Option Nat) (nw : Option Nat) : Prop :=
  n ≤ 16 ∧ (1 ≤ n → ∃ j, nw = some j ∧ j < be ∧ sp j = n) ∧ (∀ c, c < be → sp c ≤ n → g c = gi c) ∧ (∀ k, ob 12 (g k))
theorem mayM_g {le lb : Nat → Nat} {br : Nat → Bool} {g gi : Nat → Option Nat} {b e : Nat} (h : g b = gi b) : mayM le lb br g b e = mayM le lb br gi b e := by simp only [mayM, h]
/-- there is someone to take the one who moves -/
theorem ch_to {pl le lb : Nat → Nat} {br : Nat → Bool} {gi g : Nat → Option Nat} {el be lf n j : Nat} {s0 : Nat → Nat} {fr : Nat → Bool} (hel : ∀ k, k < be → ob el (gi k)) (hbe : be ≤ 16) (hfr : ∀ e, e < el → fr e = isFr pl gi be lf e) (ok : chOk gi (spN pl le lb br gi el be lf s0 (be - 1)) be n g (some j)) (hn : 1 ≤ n) :
    ∃ t, ffn (tkB le lb br g (spN pl le lb br gi el be lf s0 (be - 1)) fr be j n) el = some t := by
  obtain ⟨o1, o2, o3, o4⟩ := ok
  obtain ⟨j', e1, hj, hs⟩ := o2 hn
  cases e1
  by_cases c : n = 1
  · subst c
    obtain ⟨h1, h2⟩ := (sp_1 hj).mp hs
    obtain ⟨e, he, h3⟩ := anyN_iff.mp h2
    simp only [tmB, Bool.and_eq_true] at h3
    refine ffn_ex he ?_
    simp only [tkB, if_true, Bool.and_eq_true]
    exact ⟨(mayM_g (o3 j hj (by omega))).trans h3.1, (hfr e he).trans h3.2⟩
  · obtain ⟨m, rfl⟩ : ∃ m, n = m + 2 := ⟨n - 2, by omega⟩
    obtain ⟨c', g', hc, h4, h5, h6⟩ := sp_2 hj (by omega) hs
    refine ffn_ex (hel c' hc g' h4) ?_
    simp only [tkB, if_neg c, Bool.and_eq_true]
    refine ⟨(mayM_g (o3 j hj (by omega))).trans h6, anyN_iff.mpr ⟨c', hc, ?_⟩⟩
    simp only [nxP, Bool.and_eq_true, decide_eq_true_eq]
    exact ⟨(o3 c' hc (by omega)).trans h4, by omega⟩
theorem ch_nx {le lb : Nat → Nat} {br : Nat → Bool} {gi g : Nat → Option Nat} {sp : Nat → Nat} {fr : Nat → Bool} {el be n j t : Nat} (hel : el ≤ 12) (ok : chOk gi sp be n g (some j)) (hn : 1 ≤ n) (ht : ffn (tkB le lb br g sp fr be j n) el = some t) : chOk gi sp be (n - 1) (va_up g j (some t)) (nxC g sp be t n) := by
  obtain ⟨o1, o2, o3, o4⟩ := ok
  obtain ⟨j', e1, hj, hs⟩ := o2 hn
  cases e1
  obtain ⟨t1, t2⟩ := ffn_some el ht
  refine ⟨by omega, fun h => ?_, fun c hc h => ?_, ob_up o4 (ob_s (by omega))⟩
  · simp only [tkB, Bool.and_eq_true, if_neg (show ¬ n = 1 by omega)] at t2
    obtain ⟨c, hc, h3⟩ := anyN_iff.mp t2.2
    obtain ⟨v, hv⟩ := ffn_ex hc h3
    obtain ⟨v1, v2⟩ := ffn_some be hv
    refine ⟨v, by rw [nxC, if_neg (by omega), hv], v1, ?_⟩
    simp only [nxP, Bool.and_eq_true, decide_eq_true_eq] at v2
    exact v2.2
  · rw [va_up_ne _ _ (fun z => by subst z; omega)]
    exact o3 c hc (by omega)
theorem ch_st {le lb : Nat → Nat} {br : Nat → Bool} {g : Nat → Option Nat} {sp : Nat → Nat} {fr : Nat → Bool} {el be n j t : Nat} (hn : 1 ≤ n) (ht : ffn (tkB le lb br g sp fr be j n) el = some t) : chF le lb br sp fr el be n g (some j) = chF le lb br sp fr el be (n - 1) (va_up g j (some t)) (nxC g sp be t n) := by
  obtain ⟨m, rfl⟩ : ∃ m, n = m + 1 := ⟨n - 1, by omega⟩
  rw [chF, ht]
  rfl
theorem sp_le {pl le lb : Nat → Nat} {br : Nat → Bool} {gi : Nat → Option Nat} {el be lf : Nat} {sp : Nat → Nat} {b j : Nat} (hb : b < be) (hj : j ≤ 16) : spN pl le lb br gi el be lf sp j b ≤ 1000 := by
  rcases sp_ok (pl := pl) (le := le) (lb := lb) (br := br) (gi := gi) (el := el) (lf := lf) (sp := sp) hb j with h | h <;> omega
theorem rd_le {le lb : Nat → Nat} {br : Nat → Bool} {gi : Nat → Option Nat} {be : Nat} {s : Nat → Nat} {j b c v : Nat} (hj : j ≤ 16) (hs : ∀ k, k < be → s k ≤ 1000) (hb : b < be) (hc : c < be) (hv : v = j + 2 ∨ v = s b) : va_up (pf (rd2 le lb br gi be s j) s b) b v c < 2147483648 := by
  have h1 := hs c hc
  have h2 := hs b hb
  by_cases h : c = b
  · subst h
    rw [va_up_self]
    omega
  · rw [va_up_ne _ _ h]
    rcases Nat.lt_or_ge c b with q | q
    · rw [pf_in q, rd2]
      split
      · omega
      · split <;> omega
    · rw [pf_ge q]; omega
theorem pf_id {α : Type} {g f : Nat → α} {j : Nat} (h : g j = f j) : pf g f j = pf g f (j + 1) := by
  rw [← pf_s, h, up_id (pf_ge (Nat.le_refl _))]
theorem if_two {P : Prop} [Decidable P] {a b : Nat} : (if P then a else b) = a ∨ (if P then a else b) = b := by split <;> simp
abbrev dT : Type := Option Nat × Nat × (Nat → Option Nat) × (Nat → Bool) × (Nat → Nat) × (Nat → Bool)
def sChN (pl le lb : Nat → Nat) (br : Nat → Bool) (gi : Nat → Option Nat) (el be b lf : Nat) (sp : Nat → Nat) (fr : Nat → Bool) : dT :=
  if spN pl le lb (va_up br (lf * 16 + b) true) gi el be lf sp (be - 1) b = 1000 then (none, 12, gi, br, spN pl le lb (va_up br (lf * 16 + b) true) gi el be lf sp (be - 1), fr)
  else (some (spN pl le lb (va_up br (lf * 16 + b) true) gi el be lf sp (be - 1) b), 0, chF le lb (va_up br (lf * 16 + b) true) (spN pl le lb (va_up br (lf * 16 + b) true) gi el be lf sp (be - 1)) (pf (isFr pl gi be lf) fr el) el be (spN pl le lb (va_up br (lf * 16 + b) true) gi el be lf sp (be - 1) b) gi (some b),
    va_up br (lf * 16 + b) true, spN pl le lb (va_up br (lf * 16 + b) true) gi el be lf sp (be - 1), pf (isFr pl gi be lf) fr el)
def sChM (pl le lb : Nat → Nat) (br : Nat → Bool) (gi : Nat → Option Nat) (el be : Nat) (gz : Bool) (sp : Nat → Nat) (fr : Nat → Bool) (x : Int32) : dT :=
  if pdF be gz gi x = 0 then (match gi (tN x) with
    | none => (none, 9, gi, br, sp, fr)
    | some lf => sChN pl le lb br gi el be (tN x) lf sp fr)
  else (none, pdF be gz gi x, gi, br, sp, fr)
theorem sChM_at {pl le lb : Nat → Nat} {br : Nat → Bool} {gi : Nat → Option Nat} {el be : Nat} {gz : Bool} {sp : Nat → Nat} {fr : Nat → Bool} {b lf : Nat} (hbe : be ≤ 16) (hb : b < be) (hg : gi b = some lf) (hz : gz = true) : sChM pl le lb br gi el be gz sp fr (nI b) = sChN pl le lb br gi el be b lf sp fr := by
  have h1 : inR (nI b) be = true := by rw [inR_nI (by omega) (by omega)]; exact decide_eq_true hb
  have h2 : tN (nI b) = b := nI_clamp (by omega)
  have h3 : pdF be gz gi (nI b) = 0 := by simp [pdF, h1, h2, hz, hg]
  simp only [sChM, h3, h2, hg, if_true]
theorem sChM_ok {pl le lb : Nat → Nat} {br : Nat → Bool} {gi : Nat → Option Nat} {el be : Nat} {gz : Bool} {sp : Nat → Nat} {fr : Nat → Bool} {b lf : Nat} {b1 : Nat → Bool} {s2 : Nat → Nat} {f1 : Nat → Bool} (hbe : be ≤ 16) (hb : b < be) (hg : gi b = some lf) (hz : gz = true) (h1 : b1 = va_up br (lf * 16 + b) true) (h2 : s2 = spN pl le lb b1 gi el be lf sp (be - 1)) (h3 : f1 = pf (isFr pl gi be lf) fr el) (hn : ¬ s2 b = 1000) :
    sChM pl le lb br gi el be gz sp fr (nI b) = (some (s2 b), 0, chF le lb b1 s2 f1 el be (s2 b) gi (some b), b1, s2, f1) := by
  rw [sChM_at hbe hb hg hz, sChN]
  subst h1; subst h2; subst h3
  rw [if_neg hn]
theorem sChM_no {pl le lb : Nat → Nat} {br : Nat → Bool} {gi : Nat → Option Nat} {el be : Nat} {gz : Bool} {sp : Nat → Nat} {fr : Nat → Bool} {b lf : Nat} (hbe : be ≤ 16) (hb : b < be) (hg : gi b = some lf) (hz : gz = true) (hn : spN pl le lb (va_up br (lf * 16 + b) true) gi el be lf sp (be - 1) b = 1000) :
    sChM pl le lb br gi el be gz sp fr (nI b) = (none, 12, gi, br, spN pl le lb (va_up br (lf * 16 + b) true) gi el be lf sp (be - 1), fr) := by
  rw [sChM_at hbe hb hg hz, sChN, if_pos hn]
theorem chOk_0 {gi : Nat → Option Nat} {sp : Nat → Nat} {be b : Nat} (hgi : ∀ k, ob 12 (gi k)) (hb : b < be) (hs : sp b ≤ 16) : chOk gi sp be (sp b) gi (some b) := ⟨hs, fun _ => ⟨b, rfl, hb, rfl⟩, fun _ _ _ => rfl, hgi⟩

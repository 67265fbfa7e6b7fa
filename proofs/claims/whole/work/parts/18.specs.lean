/-! What each call answers, and what it leaves: (answer, STATUS, what changed). -/
def inC (x : Int32) (n : Nat) : Bool := decide (¬ x < 0) && decide (¬ nI n < x)
theorem inC_of {x : Int32} {n : Nat} (h : inC x n = true) (hn : n < 2 ^ 31) : ∃ j : Nat, j ≤ n ∧ x = nI j := by
  simp only [inC, Bool.and_eq_true, decide_eq_true_eq] at h
  obtain ⟨j, hj, rfl⟩ := nI_of h.1
  refine ⟨j, ?_, rfl⟩
  rcases Nat.lt_or_ge n j with q | q
  · exact absurd (nI_lt q hj) h.2
  · exact q
theorem rng_of {x : Int32} {n : Nat} (h0 : ¬ x < 0) (h1 : x ≤ nI n) (hn : n < 2 ^ 31) : ∃ j : Nat, j ≤ n ∧ x = nI j := by
  obtain ⟨j, hj, rfl⟩ := nI_of h0
  exact ⟨j, (nI_leI hj hn).mp h1, rfl⟩
theorem rng_of1 {x : Int32} {n : Nat} (h0 : ¬ x < nI 1) (h1 : x ≤ nI n) (hn : n < 2 ^ 31) : ∃ j : Nat, 1 ≤ j ∧ j ≤ n ∧ x = nI j := by
  have h2 : ¬ x < 0 := fun h => h0 (by
    rw [Int32.lt_iff_toInt_lt] at h ⊢
    have e1 : (nI 1).toInt = 1 := by decide
    have e0 : (0 : Int32).toInt = 0 := by decide
    omega)
  obtain ⟨j, hj, rfl⟩ := rng_of h2 h1 hn
  refine ⟨j, ?_, hj, rfl⟩
  rcases Nat.lt_or_ge j 1 with q | q
  · exact absurd (nI_lt q (by decide)) h0
  · exact q
def in1 (x : Int32) (n : Nat) : Bool := decide (¬ x < nI 1) && decide (¬ nI n < x)
theorem cl0 : (nI 0).toNatClampNeg = 0 := by decide
theorem cl1 : (nI 1).toNatClampNeg = 1 := by decide
theorem cl2 : (nI 2).toNatClampNeg = 2 := by decide
theorem cl3 : (nI 3).toNatClampNeg = 3 := by decide
def tyF (tA : Nat → Nat) : Nat → Option Nat := fun t => some (tA t)
abbrev tN (x : Int32) : Nat := x.toNatClampNeg
def sElder (el : Nat) (pl : Nat → Nat) (x : Int32) : Option Nat × Nat × Nat × (Nat → Nat) :=
  if inC x 4 = false then (none, 5, el, pl) else if el < 12 then (some el, 0, el + 1, va_up pl el (tN x)) else (none, 7, el, pl)
def sBeg (be : Nat) : Option Nat × Nat × Nat := if be < 16 then (some be, 0, be + 1) else (none, 7, be)
def sPlaces (el : Nat) (pl : Nat → Nat) (x z : Int32) : Bool × Nat × (Nat → Nat) :=
  if inR x el = false then (false, 2, pl) else if inC z 4 = false then (false, 5, pl) else (true, 0, va_up pl (tN x) (tN z))
def sLike (el be : Nat) (le lb : Nat → Nat) (x z : Int32) (by_ : Bool) (mu : Int32) : Bool × Nat × (Nat → Nat) × (Nat → Nat) :=
  if (inR x el && inR z be) = false then (false, 2, le, lb) else if inC mu 100 = false then (false, 5, le, lb) else
  (true, 0, if by_ then va_up le (tN x * 16 + tN z) (tN mu) else le, if by_ then lb else va_up lb (tN x * 16 + tN z) (tN mu))
def sBar (el be : Nat) (br : Nat → Bool) (x z : Int32) (is_ : Bool) : Bool × Nat × (Nat → Bool) :=
  if (inR x el && inR z be) = false then (false, 2, br) else if br (tN x * 16 + tN z) = is_ then (false, 8, br) else (true, 0, va_up br (tN x * 16 + tN z) is_)
def pdF (be : Nat) (gv : Bool) (eb : Nat → Option Nat) (x : Int32) : Nat :=
  if inR x be = false then 2 else if gv = false then 10 else if eb (tN x) = none then 9 else 0
theorem pdF_0 {be : Nat} {gv : Bool} {eb : Nat → Option Nat} {x : Int32} (h : pdF be gv eb x = 0) (hbe : be ≤ 16) : ∃ j e : Nat, j < be ∧ x = nI j ∧ gv = true ∧ eb j = some e := by
  unfold pdF at h
  split at h
  · exact absurd h (by decide)
  · rename_i h1
    split at h
    · exact absurd h (by decide)
    · rename_i h2
      split at h
      · exact absurd h (by decide)
      · rename_i h3
        obtain ⟨j, hj, rfl⟩ := inR_of (by simpa using h1) (by omega)
        rw [tN, nI_clamp (by omega)] at h3
        obtain ⟨e, he⟩ := Option.ne_none_iff_exists'.mp h3
        exact ⟨j, e, hj, rfl, by simpa using h2, he⟩
theorem pdF_le (be : Nat) (gv : Bool) (eb : Nat → Option Nat) (x : Int32) : pdF be gv eb x ≤ 10 := by
  unfold pdF
  split
  · decide
  · split
    · decide
    · split <;> decide
def sElderOf (be : Nat) (gv : Bool) (eb : Nat → Option Nat) (x : Int32) : Option Nat × Nat :=
  if pdF be gv eb x = 0 then (eb (tN x), 0) else (none, pdF be gv eb x)
def sHas (el : Nat) (gv : Bool) (eb : Nat → Option Nat) (x : Int32) : Option Nat × Nat :=
  if inR x el = false then (none, 2) else if gv = false then (none, 10) else (some (cntO eb (tN x) 16), 0)
def sBlocks (gv : Bool) (v : Nat) : Option Nat × Nat := if gv = false then (none, 10) else (some v, 0)
def sBlock (el be : Nat) (gv : Bool) (f : Nat → Nat → Bool) (x z : Int32) : Option Nat × Nat :=
  if (inR x el && inR z be) = false then (none, 2) else if gv = false then (none, 10) else (some (if f (tN x) (tN z) = true then 1 else 0), 0)
abbrev cT : Type := Option Nat × Nat × (Nat → Option Nat) × (Nat → Bool) × qT × Option Nat × Option Nat
def sChange1 (eb : Nat → Option Nat) (br : Nat → Bool) (j : Nat) (R : Option Nat × qT × Option Nat) : cT :=
  match R.1, eb j with
  | some la, some e => (some (mvF R.2.1.1 16 eb (some la) R.2.2 0).2, 0, (mvF R.2.1.1 16 eb (some la) R.2.2 0).1, va_up br (e * 16 + j) true, R.2.1, some j, R.2.2)
  | _, _ => (none, 12, eb, br, R.2.1, some j, R.2.2)
def sChange (pl le lb : Nat → Nat) (br : Nat → Bool) (eb : Nat → Option Nat) (el be : Nat) (gv : Bool) (tk : Nat → Option Nat) (qu : Nat → Nat) (qd : Nat) (fi fe : Option Nat) (x : Int32) : cT :=
  if pdF be gv eb x = 0 then sChange1 eb br (tN x) (flF pl le lb br eb (tN x) el be 16 (flI tk qu (tN x)) fe) else (none, pdF be gv eb x, eb, br, (tk, qu, qd), fi, fe)
def sMeet (be mm : Nat) (mb md : Nat → Nat) (x d : Int32) : Option Nat × Nat × Nat × (Nat → Nat) × (Nat → Nat) :=
  if inR x be = false then (none, 2, mm, mb, md) else if inC d 9999 = false then (none, 5, mm, mb, md) else if mm < 100 then (some mm, 0, mm + 1, va_up mb mm (tN x), va_up md mm (tN d)) else (none, 7, mm, mb, md)
def sTell (mm tt : Nat) (md tm td : Nat → Nat) (tk : Nat → Bool) (x : Int32) (kp : Bool) (d : Int32) : Bool × Nat × Nat × (Nat → Nat) × (Nat → Nat) × (Nat → Bool) :=
  if inR x mm = false then (false, 2, tt, tm, td, tk) else if inC d 9999 = false then (false, 5, tt, tm, td, tk) else if md (tN x) ≤ tN d then
    (if tt < 200 then (true, 0, tt + 1, va_up tm tt (tN x), va_up td tt (tN d), va_up tk tt kp) else (false, 7, tt, tm, td, tk)) else (false, 5, tt, tm, td, tk)
def sMet (be mm tt : Nat) (mb md tm td : Nat → Nat) (tk : Nat → Bool) (x d w : Int32) : Option Nat × Nat :=
  if inR x be = false then (none, 2) else if inC d 9999 = false then (none, 5) else if w < 0 ∨ nI 2 < w then (none, 5) else (some (metC mb md tm td tk tt (tN x) (tN d) (tN w) mm), 0)
def sGoal (be gm : Nat) (gb gd : Nat → Nat) (gh gc : Nat → Option Nat) (x d bh : Int32) : Option Nat × Nat × Nat × (Nat → Nat) × (Nat → Nat) × (Nat → Option Nat) × (Nat → Option Nat) :=
  if inR x be = false then (none, 2, gm, gb, gd, gh, gc) else if ¬ bh = -1 ∧ (inR bh gm && decide (gb (tN bh) = tN x)) = false then (none, 2, gm, gb, gd, gh, gc) else if inC d 9999 = false then (none, 5, gm, gb, gd, gh, gc) else
  if gm < 40 then (some gm, 0, gm + 1, va_up gb gm (tN x), va_up gd gm (tN d), va_up gh gm (if bh = -1 then none else some (tN bh)), va_up gc gm none) else (none, 7, gm, gb, gd, gh, gc)
def sConf (gm : Nat) (gc : Nat → Option Nat) (x d : Int32) : Bool × Nat × (Nat → Option Nat) :=
  if inR x gm = false then (false, 2, gc) else if inC d 9999 = false then (false, 5, gc) else if gc (tN x) = none then (true, 0, va_up gc (tN x) (some (tN d))) else (false, 8, gc)
def sGat (gm : Nat) (gd : Nat → Nat) (gh gc : Nat → Option Nat) (x d : Int32) : Option Nat × Nat :=
  if inR x gm = false then (none, 2) else if inC d 9999 = false then (none, 5) else (some (if rch gc gd gh 40 (some (tN x)) (tN d) then 1 else if tN d ≤ gd (tN x) then 0 else 2), 0)
def sRun (rn : Nat) (mo : Nat → Nat) (re : Nat → Bool) (m : Int32) (en : Bool) : Bool × Nat × Nat × (Nat → Nat) × (Nat → Bool) :=
  if in1 m 60 = false then (false, 5, rn, mo, re) else if rn < 16 then (true, 0, rn + 1, va_up mo rn (tN m), va_up re rn en) else (false, 7, rn, mo, re)
def sLasts (rn : Nat) (mo : Nat → Nat) (re : Nat → Bool) (fa fb : Int64) (m : Int32) : Bool × Nat × Int64 × Int64 :=
  if inC m 60 = false then (false, 5, fa, fb) else if rn = 0 then (false, 9, fa, fb) else
  (true, 0, lN (shA mo re rn (tN m)) / lN (gdl (lN (shA mo re rn (tN m))) (shB mo re rn (tN m))), lN (shB mo re rn (tN m)) / lN (gdl (lN (shA mo re rn (tN m))) (shB mo re rn (tN m))))
def sDraw (n k seed : Int32) : Int32 × Nat :=
  if in1 n 16 = false ∨ k < 0 ∨ n < k ∨ seed < 0 then (oI none, 5) else (drF (tN n) (tN n) (nI (tN seed)).toInt64 (nI (tN k)) (nI 0), 0)
/-- TRAYS -/
def tfF (ms : Nat → Bool) (x : Int32) : Nat := if inR x 4 = false then 1 else if ms (tN x) = true then 3 else 0
def plF (ms : Nat → Bool) (ln : Nat → Nat) (x k : Int32) : Nat := if tfF ms x = 0 then (if hasP k (nI 1) (ln (tN x)) = true then 0 else 4) else tfF ms x
def poF (ms : Nat → Bool) (so ln : Nat → Nat) (x i to_ j m : Int32) : Nat :=
  if inR x 4 = false then 1 else if inR to_ 4 = false then 1 else if ms (tN x) = true then 3 else if ms (tN to_) = true then 3 else if ¬ so (tN x) = so (tN to_) then 11 else if m < 0 then 6 else
  if hasP i m (ln (tN x)) = true ∧ hasP j m (ln (tN to_)) = true then 0 else 4
def trF (ms : Nat → Bool) (ln : Nat → Nat) (u : Nat → Nat → Int64) (x n s : Int32) : Nat :=
  if tfF ms x = 0 then (if n < nI 2 ∨ nI 16 < n then 5 else if hasP (nI 0) n (ln (tN x)) = false then 4 else if s ≤ 0 ∨ nI (2 ^ tN n - 1) ≤ s then 5 else if outc (u (tN x)) (tN n) = true then 0 else 5) else tfF ms x
theorem tfF_0 {ms : Nat → Bool} {x : Int32} (h : tfF ms x = 0) : ∃ j : Nat, j < 4 ∧ x = nI j ∧ ms j = false := by
  unfold tfF at h
  split at h
  · exact absurd h (by decide)
  · rename_i h1
    split at h
    · exact absurd h (by decide)
    · rename_i h2
      obtain ⟨j, hj, rfl⟩ := inR_of (by simpa using h1) (by decide)
      rw [tN, nI_clamp (by omega)] at h2
      exact ⟨j, hj, rfl, by simpa using h2⟩
theorem tfF_le (ms : Nat → Bool) (x : Int32) : tfF ms x ≤ 3 := by
  unfold tfF
  split
  · decide
  · split <;> decide
theorem j_icmpB_ne {κ : jK} {l : Launch} {y : MethodName} {cc : ByteArray} {nL : Nat} {own : String} {Ts : List Cond} {ret : Option FieldType} {rm : Room} {G : jG} {A : Nat → Prop} {cs ss : Nat} {Q : State → Prop} {pc : Nat} {lv : List (Nat × Value)} {st : List Value} {ws : va_W} (X : CX κ l y cc nL own Ts ret rm G A) {a b : Bool} {off : Int} {tgt : Nat} (hd : decode cc pc = .ok (.if_icmp .ne off, 3)) (ht : (pc : Int) + off = (tgt : Int)) (kt : ¬ a = b → JJ κ nL G A cs ss Q tgt lv st ws) (kf : a = b → JJ κ nL G A cs ss Q (pc + 3) lv st ws) : JJ κ nL G A cs ss Q pc lv (.int (b2i b) :: .int (b2i a) :: st) ws :=
  j_icmp_ne X hd ht (fun c => kt (fun h => c (by rw [h]))) (fun c => kf (b2i_inj.mp c))

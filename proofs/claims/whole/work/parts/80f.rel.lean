section
/-! What holds between class and reference, and that every call keeps it. -/
def tR (ms : Nat → Bool) (so ln : Nat → Nat) (u : u4) (ym : Nat → Option Nat) (ts : Nat → Nat) (nu : Nat → Int64) : Prop :=
  (∀ t, t < 4 → ms t = msO ym t) ∧ (∀ t, t < 4 → ln t = lnO ym t) ∧ (∀ t, t < 4 → so t = ts t) ∧ (∀ t, t < 4 → ∀ i, i < ln t → u t i = nuT nu t i) ∧ (∀ k, ln k ≤ 40) ∧ (∀ k, so k < 4) ∧ (∀ k, ob 41 (ym k)) ∧ (∀ k, ts k < 4)
def cR (el be : Nat) (pl le lb : Nat → Nat) : Prop := el ≤ 12 ∧ be ≤ 16 ∧ (∀ k, pl k ≤ 4) ∧ (∀ k, le k ≤ 100) ∧ (∀ k, lb k ≤ 100)
def pR (el be : Nat) (eb gi la : Nat → Option Nat) (ak qv : Nat → Nat) (tr : Nat → Option Nat) (fe : Option Nat) : Prop :=
  (∀ b, b < be → gi b = eb b) ∧ (∀ b, be ≤ b → eb b = none) ∧ (∀ k, ob el (eb k)) ∧ (∀ k, ob 12 (la k)) ∧ (∀ k, 16 ≤ k → la k = none) ∧ (∀ k, ob 12 (gi k)) ∧ (∀ k, ak k ≤ 12) ∧ (∀ k, qv k < 16) ∧ (∀ k, ob 16 (tr k)) ∧ (∀ k, 16 ≤ k → tr k = none) ∧ ob 12 fe
def mR (mm tt : Nat) (mb md tm td : Nat → Nat) : Prop := mm ≤ 100 ∧ tt ≤ 200 ∧ (∀ k, mb k < 16) ∧ (∀ k, md k < 10000) ∧ (∀ k, tm k < 100) ∧ (∀ k, td k < 10000)
def gR (gm : Nat) (gb gd : Nat → Nat) (gh gc : Nat → Option Nat) : Prop := gm ≤ 40 ∧ (∀ k, gb k < 16) ∧ (∀ k, gd k < 10000) ∧ (∀ k, ob 40 (gh k)) ∧ (∀ k, ob 10000 (gc k)) ∧ (∀ k j, k < gm → gh k = some j → j < k) ∧ (∀ k j, gm ≤ k → gh k = some j → j = 0)
def rR (rn : Nat) (mo : Nat → Nat) : Prop := rn ≤ 16 ∧ (∀ k, mo k ≤ 60)
theorem tN_n {j : Nat} (h : j < 2 ^ 31) : tN (nI j) = j := nI_clamp h
section TR
variable {ms : Nat → Bool} {so ln : Nat → Nat} {u : u4} {ym : Nat → Option Nat} {ts : Nat → Nat} {nu : Nat → Int64}
theorem tf_eq (R : tR ms so ln u ym ts nu) (x : Int32) : tfF (msO ym) x = tfF ms x := by
  unfold tfF
  by_cases c : inR x 4 = false
  · rw [if_pos c, if_pos c]
  · obtain ⟨j, hj, rfl⟩ := inR_of (by simpa using c) (by decide)
    rw [tN_n (by omega), R.1 j hj]
theorem pl_eq (R : tR ms so ln u ym ts nu) (x k : Int32) : plF (msO ym) (lnO ym) x k = plF ms ln x k := by
  unfold plF
  rw [tf_eq R]
  by_cases c : tfF ms x = 0
  · rw [if_pos c, if_pos c]
    obtain ⟨j, hj, rfl, -⟩ := tfF_0 c
    rw [tN_n (by omega), R.2.1 j hj]
  · rw [if_neg c, if_neg c]
theorem po_eq (R : tR ms so ln u ym ts nu) (x i to_ j m : Int32) : poG (msO ym) ts (lnO ym) x i to_ j m = poG ms so ln x i to_ j m := by
  unfold poG
  by_cases c : inR x 4 = false
  · rw [if_pos c, if_pos c]
  · by_cases d : inR to_ 4 = false
    · rw [if_neg c, if_neg c, if_pos d, if_pos d]
    · rw [if_neg c, if_neg c, if_neg d, if_neg d]
      obtain ⟨a, ha, rfl⟩ := inR_of (by simpa using c) (by decide)
      obtain ⟨b, hb, rfl⟩ := inR_of (by simpa using d) (by decide)
      rw [tN_n (by omega), tN_n (by omega), ← R.1 a ha, ← R.1 b hb, ← R.2.1 a ha, ← R.2.1 b hb, ← R.2.2.1 a ha, ← R.2.2.1 b hb]
theorem outc_cg {f g : Nat → Int64} : ∀ n, (∀ i, i < n → f i = g i) → outc f n = outc g n
  | 0, _ => rfl
  | n + 1, h => by rw [outc, outc, outc_cg n (fun i hi => h i (by omega)), h n (by omega)]
theorem wsm_cg {f g : Nat → Int64} {s : Nat} : ∀ n, (∀ i, i < n → f i = g i) → wsm f s n = wsm g s n
  | 0, _ => rfl
  | n + 1, h => by
    have e : ww f n = ww g n := by unfold ww; rw [h n (by omega)]
    rw [wsm, wsm, wsm_cg n (fun i hi => h i (by omega)), e]
theorem tr_eq (R : tR ms so ln u ym ts nu) (x n s : Int32) : trF (msO ym) (lnO ym) (nuT nu) x n s = trF ms ln u x n s := by
  unfold trF
  rw [tf_eq R]
  by_cases c : tfF ms x = 0
  · rw [if_pos c, if_pos c]
    obtain ⟨j, hj, rfl, -⟩ := tfF_0 c
    rw [tN_n (by omega), ← R.2.1 j hj]
    by_cases d : n < nI 2 ∨ nI 16 < n
    · rw [if_pos d, if_pos d]
    · rw [if_neg d, if_neg d]
      by_cases f : hasP (nI 0) n (ln j) = false
      · rw [if_pos f, if_pos f]
      · rw [if_neg f, if_neg f]
        obtain ⟨m, h2, h16, rfl⟩ := rng_of2 (fun z => d (Or.inl z)) (Int32.not_lt.mp (fun z => d (Or.inr z)))
        rw [hasP_0 (by omega) (R.2.2.2.2.1 j)] at f
        have hm : m ≤ ln j := by simpa using f
        rw [tN_n (by omega), outc_cg (g := u j) m (fun i hi => (R.2.2.2.1 j hj i (by omega)).symm)]
  · rw [if_neg c, if_neg c]
theorem gn_eq (R : tR ms so ln u ym ts nu) (fa fb : Int64) (tn : Nat) (f1 f2 : Nat → Int64) (x n s : Int32) :
    (sGainM ym nu fa fb x n s).1 = (sGain ms ln u fa fb tn f1 f2 x n s).1 ∧ (sGainM ym nu fa fb x n s).2.1 = (sGain ms ln u fa fb tn f1 f2 x n s).2.1 ∧ (sGainM ym nu fa fb x n s).2.2.1 = (sGain ms ln u fa fb tn f1 f2 x n s).2.2.1 ∧ (sGainM ym nu fa fb x n s).2.2.2 = (sGain ms ln u fa fb tn f1 f2 x n s).2.2.2.1 := by
  unfold sGainM sGain
  rw [tr_eq R]
  by_cases c : trF ms ln u x n s = 0
  · rw [if_pos c, if_pos c]
    obtain ⟨j, m, t, hj, rfl, hms, hm2, hm16, rfl, hmln, ht0, ht, rfl, hou⟩ := trF_0 R.2.2.2.2.1 c
    have hp := two_pow_le hm16
    rw [tN_n (by omega), tN_n (by omega), tN_n (by omega)]
    have e : gnX (nuT nu j) m t = gnX (u j) m t := by
      unfold gnX
      rw [wsm_cg (g := u j) m (fun i hi => (R.2.2.2.1 j hj i (by omega)).symm), wsm_cg (g := u j) m (fun i hi => (R.2.2.2.1 j hj i (by omega)).symm)]
    rw [e]
    exact ⟨rfl, rfl, rfl, rfl⟩
  · rw [if_neg c, if_neg c]
    exact ⟨rfl, rfl, rfl, rfl⟩
theorem ch_eq2 (R : tR ms so ln u ym ts nu) (fa fb : Int64) (tn : Nat) (f1 f2 : Nat → Int64) (x n s : Int32) :
    (sChanceM ym nu fa fb x n s).1 = (sChance ms ln u fa fb tn f1 f2 x n s).1 ∧ (sChanceM ym nu fa fb x n s).2.1 = (sChance ms ln u fa fb tn f1 f2 x n s).2.1 ∧ (sChanceM ym nu fa fb x n s).2.2.1 = (sChance ms ln u fa fb tn f1 f2 x n s).2.2.1 ∧ (sChanceM ym nu fa fb x n s).2.2.2 = (sChance ms ln u fa fb tn f1 f2 x n s).2.2.2.1 := by
  unfold sChanceM sChance
  rw [tr_eq R]
  by_cases c : trF ms ln u x n s = 0
  · rw [if_pos c, if_pos c]
    obtain ⟨j, m, t, hj, rfl, hms, hm2, hm16, rfl, hmln, ht0, ht, rfl, hou⟩ := trF_0 R.2.2.2.2.1 c
    have hp := two_pow_le hm16
    rw [tN_n (by omega), tN_n (by omega), tN_n (by omega)]
    have e : chN (nuT nu j) m t = chN (u j) m t := by
      unfold chN
      refine ctp_cong _ (fun s _ => ?_)
      rw [wsm_cg (s := s) (g := u j) m (fun i hi => (R.2.2.2.1 j hj i (by omega)).symm), wsm_cg (s := t) (g := u j) m (fun i hi => (R.2.2.2.1 j hj i (by omega)).symm)]
    rw [e]
    exact ⟨rfl, rfl, rfl, rfl⟩
  · rw [if_neg c, if_neg c]
    exact ⟨rfl, rfl, rfl, rfl⟩
theorem gn_f (fa fb : Int64) (tn : Nat) {f1 f2 : Nat → Int64} (h1 : f1 0 = 0) (h2 : f2 0 = 0) (x n s : Int32) : (sGain ms ln u fa fb tn f1 f2 x n s).2.2.2.2.2.1 0 = 0 ∧ (sGain ms ln u fa fb tn f1 f2 x n s).2.2.2.2.2.2 0 = 0 := by
  unfold sGain
  split
  · refine ⟨?_, ?_⟩
    · show pf (lsm (u (tN x)) (tN n) 0) f1 256 0 = 0
      rw [pf_in (by decide)]; rfl
    · show pf (lsm (u (tN x)) (tN n) 8) f2 256 0 = 0
      rw [pf_in (by decide)]; rfl
  · exact ⟨h1, h2⟩
theorem ch_f (fa fb : Int64) (tn : Nat) {f1 f2 : Nat → Int64} (h1 : f1 0 = 0) (h2 : f2 0 = 0) (x n s : Int32) : (sChance ms ln u fa fb tn f1 f2 x n s).2.2.2.2.2.1 0 = 0 ∧ (sChance ms ln u fa fb tn f1 f2 x n s).2.2.2.2.2.2 0 = 0 := by
  unfold sChance
  split
  · refine ⟨?_, ?_⟩
    · show pf (lsm (u (tN x)) (tN n) 0) f1 256 0 = 0
      rw [pf_in (by decide)]; rfl
    · show pf (lsm (u (tN x)) (tN n) 8) f2 256 0 = 0
      rw [pf_in (by decide)]; rfl
  · exact ⟨h1, h2⟩
theorem rd_eq (R : tR ms so ln u ym ts nu) (x k : Int32) : sReadM ym nu x k = sRead ms ln u x k := by
  unfold sReadM sRead
  rw [pl_eq R]
  by_cases c : plF ms ln x k = 0
  · rw [if_pos c, if_pos c]
    obtain ⟨j, m, hj, rfl, -, hm, rfl⟩ := plF_0 R.2.2.2.2.1 c
    have := R.2.2.2.2.1 j
    rw [tN_n (by omega), tN_n (by omega), R.2.2.2.1 j hj m hm]
  · rw [if_neg c, if_neg c]
theorem cutL_any : True := trivial
theorem wr_eq (R : tR ms so ln u ym ts nu) (x k : Int32) (v : Int64) : (sWriteM ym ts nu x k v).1 = (sWrite ms so ln u x k v).1 ∧ (sWriteM ym ts nu x k v).2.1 = (sWrite ms so ln u x k v).2.1 ∧ tR ms so ln (sWrite ms so ln u x k v).2.2 ym ts (sWriteM ym ts nu x k v).2.2 := by
  unfold sWriteM sWrite
  rw [pl_eq R]
  by_cases c : plF ms ln x k = 0
  · rw [if_pos c, if_pos c]
    obtain ⟨j, m, hj, rfl, -, hm, rfl⟩ := plF_0 R.2.2.2.2.1 c
    have h40 := R.2.2.2.2.1 j
    rw [tN_n (by omega), tN_n (by omega)]
    refine ⟨rfl, rfl, R.1, R.2.1, R.2.2.1, ?_, R.2.2.2.2⟩
    intro t ht i hi
    have h41 := R.2.2.2.2.1 t
    show va_up u j (va_up (u j) m (cutL (so j) v)) t i = va_up nu (40 * j + m) (cutL (ts j) v) (40 * t + i)
    by_cases z : t = j
    · subst z
      rw [va_up_self]
      by_cases z2 : i = m
      · subst z2
        rw [va_up_self, va_up_self, R.2.2.1 t ht]
      · rw [va_up_ne _ _ z2, va_up_ne _ _ (by omega)]
        exact R.2.2.2.1 t ht i hi
    · rw [va_up_ne _ _ z, va_up_ne _ _ (by omega)]
      exact R.2.2.2.1 t ht i hi
  · rw [if_neg c, if_neg c]
    exact ⟨rfl, rfl, R⟩
theorem po_eq2 (R : tR ms so ln u ym ts nu) (x i to_ j m : Int32) : (sPourM ym ts nu x i to_ j m).1 = (sPour ms so ln u x i to_ j m).1 ∧ (sPourM ym ts nu x i to_ j m).2.1 = (sPour ms so ln u x i to_ j m).2.1 ∧ tR ms so ln (sPour ms so ln u x i to_ j m).2.2 ym ts (sPourM ym ts nu x i to_ j m).2.2 := by
  unfold sPourM sPour
  rw [po_eq R]
  by_cases c : poG ms so ln x i to_ j m = 0
  · rw [if_pos c, if_pos c]
    obtain ⟨a, b, i2, j2, m2, ha, hb, rfl, rfl, rfl, rfl, rfl, hma, hmb, hsab, hi2, hj2⟩ := poG_0 R.2.2.2.2.1 c
    have h40 := R.2.2.2.2.1 a
    have h42 := R.2.2.2.2.1 b
    rw [tN_n (by omega), tN_n (by omega), tN_n (by omega), tN_n (by omega), tN_n (by omega)]
    refine ⟨rfl, rfl, R.1, R.2.1, R.2.2.1, ?_, R.2.2.2.2⟩
    intro t ht k hk
    have h41 := R.2.2.2.2.1 t
    show va_up u b (va_cpy (u a) (u b) i2 j2 m2) t k = cpU nu (40 * a + i2) (40 * b + j2) m2 (40 * t + k)
    by_cases z : t = b
    · subst z
      rw [va_up_self]
      simp only [va_cpy, cpU]
      by_cases z2 : j2 ≤ k ∧ k < j2 + m2
      · rw [if_pos z2, if_pos (by omega), R.2.2.2.1 a ha _ (by omega)]
        show nu _ = nu _
        congr 1
        omega
      · rw [if_neg z2, if_neg (by omega)]
        exact R.2.2.2.1 t ht k hk
    · rw [va_up_ne _ _ z]
      simp only [cpU]
      rw [if_neg (by omega)]
      exact R.2.2.2.1 t ht k hk
  · rw [if_neg c, if_neg c]
    exact ⟨rfl, rfl, R⟩
theorem ty_eq (R : tR ms so ln u ym ts nu) (x w m : Int32) : (sTrayM ym ts nu x w m).1 = (sTray ms so ln u x w m).1 ∧ (sTrayM ym ts nu x w m).2.1 = (sTray ms so ln u x w m).2.1 ∧ tR (sTray ms so ln u x w m).2.2.1 (sTray ms so ln u x w m).2.2.2.1 (sTray ms so ln u x w m).2.2.2.2.1 (sTray ms so ln u x w m).2.2.2.2.2 (sTrayM ym ts nu x w m).2.2.1 (sTrayM ym ts nu x w m).2.2.2.1 (sTrayM ym ts nu x w m).2.2.2.2 := by
  unfold sTrayM sTray
  by_cases c : inR x 4 = false
  · rw [if_pos c, if_pos c]; exact ⟨rfl, rfl, R⟩
  · rw [if_neg c, if_neg c]
    by_cases d : inR w 4 = false
    · rw [if_pos d, if_pos d]; exact ⟨rfl, rfl, R⟩
    · rw [if_neg d, if_neg d]
      by_cases e : m ≤ nI 40
      · rw [if_pos e, if_pos e]
        by_cases f : 0 ≤ m
        · rw [if_pos f, if_pos f]
          obtain ⟨j, hj, rfl⟩ := inR_of (by simpa using c) (by decide)
          obtain ⟨k, hk, rfl⟩ := inR_of (by simpa using d) (by decide)
          obtain ⟨n, hn, rfl⟩ := rng_of (Int32.not_lt.mpr f) e (by decide)
          rw [tN_n (by omega), tN_n (by omega), tN_n (by omega)]
          obtain ⟨r1, r2, r3, r4, r5, r6, r7, r8⟩ := R
          refine ⟨rfl, rfl, ?_, ?_, ?_, ?_, nup_le r5 hn, nup_lt r6 hk, ob_up r7 (ob_s (by omega)), nup_lt r8 hk⟩
          · intro t ht
            show va_up ms j false t = msO (va_up ym j (some n)) t
            by_cases z : t = j
            · subst z; rw [va_up_self, msO, va_up_self]; rfl
            · rw [va_up_ne _ _ z, msO, va_up_ne _ _ z]; exact r1 t ht
          · intro t ht
            show va_up ln j n t = lnO (va_up ym j (some n)) t
            by_cases z : t = j
            · subst z; rw [va_up_self, lnO, va_up_self]; rfl
            · rw [va_up_ne _ _ z, lnO, va_up_ne _ _ z]; exact r2 t ht
          · intro t ht
            show va_up so j k t = va_up ts j k t
            by_cases z : t = j
            · subst z; rw [va_up_self, va_up_self]
            · rw [va_up_ne _ _ z, va_up_ne _ _ z]; exact r3 t ht
          · intro t ht i hi
            have hi : i < va_up ln j n t := hi
            show va_up u j (fil 0 (u j) 40) t i = fia 0 nu (40 * j) n (40 * t + i)
            simp only [fia]
            by_cases z : t = j
            · subst z
              rw [va_up_self] at hi
              rw [va_up_self, fil, if_pos (by omega), if_pos (by omega)]
            · rw [va_up_ne _ _ z] at hi
              have := r5 t
              rw [va_up_ne _ _ z, if_neg (by omega)]
              exact r4 t ht i hi
        · rw [if_neg f, if_neg f]; exact ⟨rfl, rfl, R⟩
      · rw [if_neg e, if_neg e]; exact ⟨rfl, rfl, R⟩
end TR
section CR
variable {el be : Nat} {pl le lb : Nat → Nat} {eb gi la : Nat → Option Nat} {ak qv : Nat → Nat} {tr : Nat → Option Nat} {fe : Option Nat}
theorem cR_elder (C : cR el be pl le lb) (x : Int32) : cR (sElder el pl x).2.2.1 be (sElder el pl x).2.2.2 le lb ∧ el ≤ (sElder el pl x).2.2.1 := by
  unfold sElder
  split
  · exact ⟨C, Nat.le_refl _⟩
  · rename_i h
    split
    · obtain ⟨j, hj, rfl⟩ := inC_of (by simpa using h) (by decide)
      rw [tN_n (by omega)]
      exact ⟨⟨by show el + 1 ≤ 12; omega, C.2.1, nup_le C.2.2.1 hj, C.2.2.2⟩, Nat.le_succ _⟩
    · exact ⟨C, Nat.le_refl _⟩
theorem pR_el {el2 : Nat} (P : pR el be eb gi la ak qv tr fe) (h : el ≤ el2) : pR el2 be eb gi la ak qv tr fe := ⟨P.1, P.2.1, fun k => (P.2.2.1 k).big h, P.2.2.2⟩
theorem cR_beg (C : cR el be pl le lb) (P : pR el be eb gi la ak qv tr fe) : cR el (sBeg be).2.2 pl le lb ∧ pR el (sBeg be).2.2 eb (if be < 16 then va_up gi be none else gi) la ak qv tr fe := by
  unfold sBeg
  split
  · rename_i h
    refine ⟨⟨C.1, h, C.2.2⟩, ?_, ?_, P.2.2.1, P.2.2.2.1, P.2.2.2.2.1, ob_up P.2.2.2.2.2.1 ob_n, P.2.2.2.2.2.2⟩
    · intro b hb
      have hb : b < be + 1 := hb
      by_cases z : b = be
      · subst z
        rw [va_up_self]
        exact (P.2.1 b (Nat.le_refl _)).symm
      · rw [va_up_ne _ _ z]
        exact P.1 b (by omega)
    · intro b hb
      have hb : be + 1 ≤ b := hb
      exact P.2.1 b (by omega)
  · exact ⟨C, P⟩
theorem cR_places (C : cR el be pl le lb) (x w : Int32) : cR el be (sPlaces el pl x w).2.2 le lb := by
  unfold sPlaces
  split
  · exact C
  · split
    · exact C
    · rename_i h
      obtain ⟨j, hj, rfl⟩ := inC_of (by simpa using h) (by decide)
      rw [tN_n (j := j) (by omega)]
      exact ⟨C.1, C.2.1, nup_le C.2.2.1 hj, C.2.2.2⟩
theorem cR_like (C : cR el be pl le lb) (x w : Int32) (by_ : Bool) (mu : Int32) : cR el be pl (sLike el be le lb x w by_ mu).2.2.1 (sLike el be le lb x w by_ mu).2.2.2 := by
  unfold sLike
  split
  · exact C
  · split
    · exact C
    · rename_i h
      obtain ⟨j, hj, rfl⟩ := inC_of (by simpa using h) (by decide)
      rw [tN_n (j := j) (by omega)]
      cases by_
      · exact ⟨C.1, C.2.1, C.2.2.1, C.2.2.2.1, nup_le C.2.2.2.2 hj⟩
      · exact ⟨C.1, C.2.1, C.2.2.1, nup_le C.2.2.2.1 hj, C.2.2.2.2⟩
theorem mWh_ok {br : Nat → Bool} (hel : el ≤ 12) : ∀ (f : Nat) (s : pT), pOk s → pOk (mWh pl le lb br el be f s)
  | 0, s, h => h
  | f + 1, s, h => by
    rw [mWh]
    split
    · exact mWh_ok hel f _ (mFor_ok hel h be)
    · exact mFor_ok hel h be
theorem pR_pair {br : Nat → Bool} (C : cR el be pl le lb) (P : pR el be eb gi la ak qv tr fe) : pR el be (bestF pl le lb br el be be).1 (mWh pl le lb br el be 200 (pIni be gi ak)).1 (bestF pl le lb br el be be).2 (mWh pl le lb br el be 200 (pIni be gi ak)).2 qv tr fe := by
  obtain ⟨p1, p2, p3, p4⟩ := pair_one (pl := pl) (le := le) (lb := lb) (br := br) C.1 C.2.1 P.2.2.2.2.2.1 P.2.2.2.2.2.2.1
  obtain ⟨⟨b1, b2⟩, b3, b4⟩ := bestF_ob (pl := pl) (le := le) (lb := lb) (br := br) C.1 C.2.1 be (Nat.le_refl _)
  obtain ⟨i1, -⟩ := best_in (pl := pl) (le := le) (lb := lb) (br := br) C.1 C.2.1 be (Nat.le_refl _)
  have hp : pOk (pIni be gi ak) := ⟨fun k => ob_fil P.2.2.2.2.2.1 k, fun k => by
    show fil 0 ak be k ≤ 12
    simp only [fil]
    split
    · omega
    · exact P.2.2.2.2.2.2.1 k⟩
  obtain ⟨m1, m2⟩ := mWh_ok (pl := pl) (le := le) (lb := lb) (br := br) (be := be) C.1 200 _ hp
  exact ⟨p1, p2, fun k x hx => ((i1 _ clo_T).2.1 x k ((i1 _ clo_T).1 k x hx)).1, b2, b4, m1, m2, P.2.2.2.2.2.2.2⟩
theorem sCh_ob {br : Nat → Bool} {gv : Bool} {qd : Nat} {fi : Option Nat} {x : Int32} (C : cR el be pl le lb) (P : pR el be eb gi la ak qv tr fe) :
    (∀ k, (sChange pl le lb br eb el be gv tr qv qd fi fe x).2.2.2.2.1.2.1 k < 16) ∧ (∀ k, ob 16 ((sChange pl le lb br eb el be gv tr qv qd fi fe x).2.2.2.2.1.1 k)) ∧ ob 12 (sChange pl le lb br eb el be gv tr qv qd fi fe x).2.2.2.2.2.2 := by
  unfold sChange
  split
  · rename_i h
    obtain ⟨j, e, hj, rfl, -, hje⟩ := pdF_0 h C.2.1
    rw [tN_n (by have := C.2.1; omega)]
    obtain ⟨k1, ⟨k2, k3, -⟩, k4⟩ := flF_ok (pl := pl) (le := le) (lb := lb) (br := br) (eb := eb) (f0 := j) C.1 C.2.1 16 (flI tr qv j) fe ⟨ob_fil P.2.2.2.2.2.2.2.2.1, nup_lt P.2.2.2.2.2.2.2.1 (by have := C.2.1; omega), Nat.le_of_ble_eq_true rfl⟩ P.2.2.2.2.2.2.2.2.2.2
    unfold sChange1
    split
    · exact ⟨k3, k2, k4⟩
    · exact ⟨k3, k2, k4⟩
  · exact ⟨P.2.2.2.2.2.2.2.1, P.2.2.2.2.2.2.2.2.1, P.2.2.2.2.2.2.2.2.2.2⟩
theorem sChM_ob {br : Nat → Bool} {gv : Bool} {sp : Nat → Nat} {fr : Nat → Bool} {x : Int32} (hel : el ≤ 12) (hgi : ∀ k, ob 12 (gi k)) : ∀ k, ob 12 ((sChM pl le lb br gi el be gv sp fr x).2.2.1 k) := by
  unfold sChM
  split
  · split
    · exact hgi
    · unfold sChN
      split
      · exact hgi
      · exact chF_ob hel _ _ _ hgi
  · exact hgi
theorem pR_change {br : Nat → Bool} {gv : Bool} {qd : Nat} {fi : Option Nat} {sp : Nat → Nat} {fr : Nat → Bool} {x : Int32} (C : cR el be pl le lb) (P : pR el be eb gi la ak qv tr fe) :
    (sChM pl le lb br gi el be gv sp fr x).1 = (sChange pl le lb br eb el be gv tr qv qd fi fe x).1 ∧ (sChM pl le lb br gi el be gv sp fr x).2.1 = (sChange pl le lb br eb el be gv tr qv qd fi fe x).2.1 ∧ (sChM pl le lb br gi el be gv sp fr x).2.2.2.1 = (sChange pl le lb br eb el be gv tr qv qd fi fe x).2.2.2.1 ∧
    pR el be (sChange pl le lb br eb el be gv tr qv qd fi fe x).2.2.1 (sChM pl le lb br gi el be gv sp fr x).2.2.1 la ak (sChange pl le lb br eb el be gv tr qv qd fi fe x).2.2.2.2.1.2.1 (sChange pl le lb br eb el be gv tr qv qd fi fe x).2.2.2.2.1.1 (sChange pl le lb br eb el be gv tr qv qd fi fe x).2.2.2.2.2.2 := by
  obtain ⟨c1, c2, c3, c4, c5, c6, c7⟩ := chg_one (pl := pl) (le := le) (lb := lb) (br := br) (gv := gv) (qu := qv) (qd := qd) (fi := fi) (fe := fe) (sp := sp) (fr := fr) (x := x) C.2.1 P.1 P.2.1 P.2.2.1 P.2.2.2.2.2.2.2.2.2.1
  obtain ⟨o1, o2, o3⟩ := sCh_ob (br := br) (gv := gv) (qd := qd) (fi := fi) (x := x) C P
  exact ⟨c1, c2, c6, c3, c4, c5, P.2.2.2.1, P.2.2.2.2.1, sChM_ob C.1 P.2.2.2.2.2.1, P.2.2.2.2.2.2.1, o1, o2, c7, o3⟩
theorem eo_eq {gv : Bool} (C : cR el be pl le lb) (P : pR el be eb gi la ak qv tr fe) (x : Int32) : sElderOf be gv gi x = sElderOf be gv eb x := by
  have hbe := C.2.1
  unfold sElderOf pdF
  by_cases c : inR x be = false
  · simp only [c, if_true]
    rfl
  · obtain ⟨j, hj, rfl⟩ := inR_of (by simpa using c) (by omega)
    rw [tN_n (by omega), P.1 j hj]
theorem has_eq {gv : Bool} (C : cR el be pl le lb) (P : pR el be eb gi la ak qv tr fe) (x : Int32) : sHasM el be gv gi x = sHas el gv eb x := by
  have hbe := C.2.1
  have h1 := cntO_end (e := tN x) P.2.1 (16 - be)
  rw [show be + (16 - be) = 16 by omega] at h1
  unfold sHasM sHas
  rw [h1, cntO_cong be P.1]
theorem blk_eq {br : Nat → Bool} (C : cR el be pl le lb) (P : pR el be eb gi la ak qv tr fe) {e b : Nat} (hb : b < be) : blkM pl le lb br gi be e b = blk pl le lb br eb be e b := by
  have hbe := C.2.1
  have h1 := cntO_end (e := e) P.2.1 (16 - be)
  rw [show be + (16 - be) = 16 by omega] at h1
  unfold blkM blk
  rw [h1, cntO_cong be P.1, lst_cong be P.1, P.1 b hb]
  by_cases c : canB le lb br e b = false
  · rw [if_pos c, if_pos c]
    split <;> rfl
  · rw [if_neg c, if_neg c]
    cases lst le eb e be <;> rfl
theorem cb_eq {br : Nat → Bool} (C : cR el be pl le lb) (P : pR el be eb gi la ak qv tr fe) : ∀ n, mbO pl le lb br gi be n = cbO pl le lb br eb be n
  | 0 => rfl
  | n + 1 => by
    have h : ∀ k, k ≤ be → mbI pl le lb br gi be n k = cbI pl le lb br eb be n k := by
      intro k
      induction k with
      | zero => intro _; rfl
      | succ k ih => intro hk; rw [mbI, cbI, ih (by omega), blk_eq C P (by omega)]
    rw [mbO, cbO, cb_eq C P n, h be (Nat.le_refl _)]
theorem bk_eq {br : Nat → Bool} {gv : Bool} (C : cR el be pl le lb) (P : pR el be eb gi la ak qv tr fe) (x w : Int32) : sBlock el be gv (blkM pl le lb br gi be) x w = sBlock el be gv (blk pl le lb br eb be) x w := by
  have hbe := C.2.1
  unfold sBlock
  by_cases c : (inR x el && inR w be) = false
  · rw [if_pos c, if_pos c]
  · rw [if_neg c, if_neg c]
    have h2 : inR w be = true := by
      cases h : inR w be with
      | true => rfl
      | false => rw [h, Bool.and_false] at c; exact absurd rfl c
    obtain ⟨j, hj, rfl⟩ := inR_of h2 (by omega)
    rw [tN_n (j := j) (by omega), blk_eq C P hj]
end CR
theorem mR_meet {be mm tt : Nat} {mb md tm td : Nat → Nat} (M : mR mm tt mb md tm td) (hbe : be ≤ 16) (x d : Int32) : mR (sMeet be mm mb md x d).2.2.1 tt (sMeet be mm mb md x d).2.2.2.1 (sMeet be mm mb md x d).2.2.2.2 tm td := by
  unfold sMeet
  split
  · exact M
  · rename_i h
    split
    · exact M
    · rename_i h2
      split
      · rename_i h3
        obtain ⟨j, hj, rfl⟩ := inR_of (by simpa using h) (by omega)
        obtain ⟨k, hk, rfl⟩ := inC_of (by simpa using h2) (by decide)
        rw [tN_n (by omega), tN_n (by omega)]
        exact ⟨h3, M.2.1, nup_lt M.2.2.1 (by omega), nup_lt M.2.2.2.1 (by omega), M.2.2.2.2⟩
      · exact M
theorem mR_tell {mm tt : Nat} {mb md tm td : Nat → Nat} {tk : Nat → Bool} (M : mR mm tt mb md tm td) (x : Int32) (kp : Bool) (d : Int32) : mR mm (sTell mm tt md tm td tk x kp d).2.2.1 mb md (sTell mm tt md tm td tk x kp d).2.2.2.1 (sTell mm tt md tm td tk x kp d).2.2.2.2.1 := by
  have hmm := M.1
  unfold sTell
  split
  · exact M
  · rename_i h
    split
    · exact M
    · rename_i h2
      split
      · split
        · rename_i h3
          obtain ⟨j, hj, rfl⟩ := inR_of (by simpa using h) (by omega)
          obtain ⟨k, hk, rfl⟩ := inC_of (by simpa using h2) (by decide)
          rw [tN_n (by omega), tN_n (by omega)]
          exact ⟨M.1, h3, M.2.2.1, M.2.2.2.1, nup_lt M.2.2.2.2.1 (by omega), nup_lt M.2.2.2.2.2 (by omega)⟩
        · exact M
      · exact M
theorem gR_goal {be gm : Nat} {gb gd : Nat → Nat} {gh gc : Nat → Option Nat} (M : gR gm gb gd gh gc) (hbe : be ≤ 16) (x d bh : Int32) : gR (sGoal be gm gb gd gh gc x d bh).2.2.1 (sGoal be gm gb gd gh gc x d bh).2.2.2.1 (sGoal be gm gb gd gh gc x d bh).2.2.2.2.1 (sGoal be gm gb gd gh gc x d bh).2.2.2.2.2.1 (sGoal be gm gb gd gh gc x d bh).2.2.2.2.2.2 := by
  obtain ⟨m1, m2, m3, m4, m5, m6, m7⟩ := id M
  unfold sGoal
  split
  · exact M
  · rename_i h
    split
    · exact M
    · rename_i hb
      split
      · exact M
      · rename_i h2
        split
        · rename_i h3
          obtain ⟨j, hj, rfl⟩ := inR_of (by simpa using h) (by omega)
          obtain ⟨k, hk, rfl⟩ := inC_of (by simpa using h2) (by decide)
          have hv : ∀ q, (if bh = -1 then none else some (tN bh)) = some q → q < gm := by
            intro q hq
            by_cases z : bh = -1
            · rw [if_pos z] at hq; cases hq
            · rw [if_neg z] at hq
              cases hq
              have h4 : inR bh gm = true := by
                cases h5 : inR bh gm with
                | true => rfl
                | false => exact absurd ⟨z, by rw [h5, Bool.false_and]⟩ hb
              obtain ⟨q2, hq2, rfl⟩ := inR_of h4 (by omega)
              rw [tN_n (by omega)]
              exact hq2
          have e1 : tN (nI j) = j := tN_n (by omega)
          have e2 : tN (nI k) = k := tN_n (by omega)
          refine ⟨h3, ?_, ?_, ob_up m4 (fun q hq => by have := hv q hq; omega), ob_up m5 ob_n, ?_, ?_⟩
          · show ∀ q, va_up gb gm (tN (nI j)) q < 16
            rw [e1]; exact nup_lt m2 (by omega)
          · show ∀ q, va_up gd gm (tN (nI k)) q < 10000
            rw [e2]; exact nup_lt m3 (by omega)
          · intro q i hq hi
            have hq : q < gm + 1 := hq
            have hi : va_up gh gm (if bh = -1 then none else some (tN bh)) q = some i := hi
            by_cases z : q = gm
            · subst z
              rw [va_up_self] at hi
              exact hv i hi
            · rw [va_up_ne _ _ z] at hi
              exact m6 q i (by omega) hi
          · intro q i hq hi
            have hq : gm + 1 ≤ q := hq
            have hi : va_up gh gm (if bh = -1 then none else some (tN bh)) q = some i := hi
            rw [va_up_ne _ _ (by omega)] at hi
            exact m7 q i (by omega) hi
        · exact M
theorem gR_conf {gm : Nat} {gb gd : Nat → Nat} {gh gc : Nat → Option Nat} (M : gR gm gb gd gh gc) (x d : Int32) : gR gm gb gd gh (sConf gm gc x d).2.2 := by
  unfold sConf
  split
  · exact M
  · split
    · exact M
    · rename_i h2
      split
      · obtain ⟨k, hk, rfl⟩ := inC_of (by simpa using h2) (by decide)
        rw [tN_n (j := k) (by omega)]
        exact ⟨M.1, M.2.1, M.2.2.1, M.2.2.2.1, ob_up M.2.2.2.2.1 (ob_s (by omega)), M.2.2.2.2.2⟩
      · exact M
theorem gR_hgh {gm : Nat} {gb gd : Nat → Nat} {gh gc : Nat → Option Nat} (M : gR gm gb gd gh gc) (h : ¬ gm = 0) : ∀ k j, gh k = some j → j < k := fun k j hk => by
  rcases Nat.lt_or_ge k gm with q | q
  · exact M.2.2.2.2.2.1 k j q hk
  · have := M.2.2.2.2.2.2 k j q hk
    omega
theorem rR_run {rn : Nat} {mo : Nat → Nat} {re : Nat → Bool} (M : rR rn mo) (m : Int32) (en : Bool) : rR (sRun rn mo re m en).2.2.1 (sRun rn mo re m en).2.2.2.1 := by
  unfold sRun
  split
  · exact M
  · rename_i h
    split
    · rename_i h3
      have h0 : ¬ m < nI 1 := fun z => h (by simp [in1, z])
      have h1 : ¬ nI 60 < m := fun z => h (by simp [in1, z])
      obtain ⟨j, hj1, hj, rfl⟩ := rng_of1 h0 (Int32.not_lt.mp h1) (by decide)
      rw [tN_n (by omega)]
      exact ⟨h3, nup_le M.2 hj⟩
    · exact M
end

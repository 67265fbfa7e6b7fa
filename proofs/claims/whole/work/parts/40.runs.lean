/-! The class's pairing and the reference's are one. -/
theorem ctp_mono {p q : Nat → Bool} : ∀ n, (∀ k, k < n → p k = true → q k = true) → ctp p n ≤ ctp q n
  | 0, _ => Nat.le_refl _
  | n + 1, h => by
    have := ctp_mono n (fun k hk => h k (by omega))
    rw [ctp, ctp]
    by_cases c : p n = true
    · rw [if_pos c, if_pos (h n (by omega) c)]; omega
    · rw [if_neg c]; omega
theorem ctp_rm {p : Nat → Bool} {w : Nat} (hw : p w = true) : ∀ n, w < n → ctp (fun k => p k && decide (k ≠ w)) n + 1 = ctp p n
  | 0, hn => absurd hn (Nat.not_lt_zero _)
  | n + 1, hn => by
    rw [ctp, ctp]
    rcases Nat.lt_or_ge w n with q | q
    · have e1 : (p n && decide (n ≠ w)) = p n := by rw [decide_eq_true (by omega)]; simp
      rw [← ctp_rm hw n q, e1]; omega
    · have e2 : w = n := by omega
      subst e2
      have e1 : ctp (fun k => p k && decide (k ≠ w)) w = ctp p w := ctp_cong w (fun t ht => by rw [decide_eq_true (by omega)]; simp)
      rw [e1, if_pos hw, if_neg (by simp)]
theorem ctp_lt {p q : Nat → Bool} {w n : Nat} (h : ∀ k, k < n → p k = true → q k = true) (hw : w < n) (h1 : p w = false) (h2 : q w = true) : ctp p n < ctp q n := by
  have h3 := ctp_rm h2 n hw
  have h4 : ctp p n ≤ ctp (fun k => q k && decide (k ≠ w)) n := ctp_mono n (fun k hk hp => by
    have : k ≠ w := fun z => by rw [z, h1] at hp; cases hp
    rw [h k hk hp, decide_eq_true this]; rfl)
  omega
def bkB (le lb : Nat → Nat) (br : Nat → Bool) (b e : Nat) : Nat → Bool := fun k => canB le lb br k b && prB lb b k e
theorem bkB_iff {le lb : Nat → Nat} {br : Nat → Bool} {b e k : Nat} : bkB le lb br b e k = true ↔ canB le lb br k b = true ∧ prB lb b k e = true := by simp [bkB]
theorem rnk_ctp (le lb : Nat → Nat) (br : Nat → Bool) (b e : Nat) : ∀ n, rnk le lb br b e n = ctp (bkB le lb br b e) n
  | 0 => rfl
  | n + 1 => by
    rw [rnk, ctp, rnk_ctp le lb br b e n]
    by_cases c : bkB le lb br b e n = true
    · have c2 := bkB_iff.mp c
      have hne : ¬ n = e := fun z => by subst z; exact prB_irr c2.2
      rw [if_pos c, if_pos ⟨hne, c2.1, c2.2⟩]
    · rw [if_neg c, if_neg (fun z => c (bkB_iff.mpr ⟨z.2.1, z.2.2⟩))]
theorem rnk_pr {le lb : Nat → Nat} {br : Nat → Bool} {b x e n : Nat} (hx : x < n) (hc : canB le lb br x b = true) (hp : prB lb b x e = true) : rnk le lb br b x n < rnk le lb br b e n := by
  rw [rnk_ctp, rnk_ctp]
  refine ctp_lt (w := x) (fun k _ hk => ?_) hx ?_ ?_
  · have := bkB_iff.mp hk
    exact bkB_iff.mpr ⟨this.1, prB_trans this.2 hp⟩
  · cases h : bkB le lb br b x x with
    | false => rfl
    | true => exact absurd (bkB_iff.mp h).2 (fun z => prB_irr z)
  · exact bkB_iff.mpr ⟨hc, hp⟩
theorem rnk_inj {le lb : Nat → Nat} {br : Nat → Bool} {b x e n : Nat} (hx : x < n) (he : e < n) (hc : canB le lb br x b = true) (hd : canB le lb br e b = true) (h : rnk le lb br b x n = rnk le lb br b e n) : x = e := by
  by_cases q : x = e
  · exact q
  · rcases prB_tot (lb := lb) (b := b) q with r | r
    · have := rnk_pr hx hc r; omega
    · have := rnk_pr he hd r; omega
theorem wrst {lb : Nat → Nat} {b : Nat} {p : Nat → Bool} : ∀ n, 0 < ctp p n → ∃ w, w < n ∧ p w = true ∧ ∀ k, k < n → p k = true → k = w ∨ prB lb b k w = true
  | 0, h => absurd h (by simp [ctp])
  | n + 1, h => by
    rw [ctp] at h
    rcases Nat.eq_zero_or_pos (ctp p n) with q | q
    · by_cases c : p n = true
      · refine ⟨n, Nat.lt_succ_self _, c, fun k hk hpk => ?_⟩
        rcases Nat.lt_or_ge k n with r | r
        · have : ctp (fun _ => false) n < ctp p n := ctp_lt (w := k) (fun _ _ z => by cases z) r rfl hpk
          omega
        · exact Or.inl (by omega)
      · rw [if_neg c] at h; omega
    · obtain ⟨w, h1, h2, h3⟩ := wrst (lb := lb) (b := b) n q
      by_cases c : p n = true ∧ prB lb b w n = true
      · refine ⟨n, Nat.lt_succ_self _, c.1, fun k hk hpk => ?_⟩
        rcases Nat.lt_or_ge k n with r | r
        · rcases h3 k r hpk with z | z
          · subst z; exact Or.inr c.2
          · exact Or.inr (prB_trans z c.2)
        · exact Or.inl (by omega)
      · refine ⟨w, by omega, h2, fun k hk hpk => ?_⟩
        rcases Nat.lt_or_ge k n with r | r
        · exact h3 k r hpk
        · have e2 : k = n := by omega
          subst e2
          rcases prB_tot (lb := lb) (b := b) (show k ≠ w by omega) with z | z
          · exact Or.inr z
          · exact absurd ⟨hpk, z⟩ c
theorem rnk_step {le lb : Nat → Nat} {br : Nat → Bool} {b e n : Nat} (h : 0 < rnk le lb br b e n) : ∃ w, w < n ∧ canB le lb br w b = true ∧ rnk le lb br b w n + 1 = rnk le lb br b e n := by
  rw [rnk_ctp] at h
  obtain ⟨w, h1, h2, h3⟩ := wrst (lb := lb) (b := b) n h
  refine ⟨w, h1, (bkB_iff.mp h2).1, ?_⟩
  rw [rnk_ctp, rnk_ctp, ← ctp_rm h2 n h1]
  congr 1
  refine ctp_cong n (fun k hk => ?_)
  have hpw := (bkB_iff.mp h2).2
  cases h4 : bkB le lb br b w k with
  | true =>
    have h5 := bkB_iff.mp h4
    have hne : k ≠ w := fun z => by subst z; exact prB_irr h5.2
    rw [bkB_iff.mpr ⟨h5.1, prB_trans h5.2 hpw⟩, decide_eq_true hne]
    rfl
  | false =>
    cases h6 : bkB le lb br b e k with
    | false => rfl
    | true =>
      rcases h3 k hk h6 with z | z
      · rw [decide_eq_false (by simp [z])]; rfl
      · have := bkB_iff.mpr ⟨(bkB_iff.mp h6).1, z⟩
        rw [h4] at this; cases this
theorem rnk_all {le lb : Nat → Nat} {br : Nat → Bool} {b n m : Nat} : ∀ (d e : Nat), e < n → canB le lb br e b = true → rnk le lb br b e n = m + d → ∃ w, w < n ∧ canB le lb br w b = true ∧ rnk le lb br b w n = m
  | 0, e, he, hc, h => ⟨e, he, hc, h⟩
  | d + 1, e, he, hc, h => by
    obtain ⟨w, h1, h2, h3⟩ := rnk_step (le := le) (lb := lb) (br := br) (b := b) (e := e) (n := n) (by omega)
    exact rnk_all d w h1 h2 (by omega)
theorem ffn_no {p : Nat → Bool} : ∀ n, ffn p n = none → ∀ k, k < n → p k = false
  | 0, _, k, hk => absurd hk (Nat.not_lt_zero _)
  | n + 1, h, k, hk => by
    simp only [ffn] at h
    cases h1 : ffn p n with
    | some j => rw [h1] at h; cases h
    | none =>
      rw [h1] at h
      rcases Nat.lt_or_ge k n with r | r
      · exact ffn_no n h1 k r
      · have e2 : k = n := by omega
        subst e2
        cases h2 : p k with
        | false => rfl
        | true => rw [h2] at h; cases h
theorem askd_no {le lb : Nat → Nat} {br : Nat → Bool} {el b m : Nat} (h : askd le lb br el b m = none) {e : Nat} (he : e < el) (hc : canB le lb br e b = true) : rnk le lb br b e el < m := by
  rcases Nat.lt_or_ge (rnk le lb br b e el) m with q | q
  · exact q
  · obtain ⟨w, h1, h2, h3⟩ := rnk_all (m := m) (rnk le lb br b e el - m) e he hc (by omega)
    have := ffn_no el h w h1
    simp [h2, h3] at this
/-! the reference -/
def res (be : Nat) (g : Nat → Option Nat) : Nat → Option Nat := fun b => if b < be then g b else none
theorem res_lt {be b : Nat} {g : Nat → Option Nat} (h : b < be) : res be g b = g b := by simp [res, h]
theorem res_ge {be b : Nat} {g : Nat → Option Nat} (h : be ≤ b) : res be g b = none := by simp [res]; omega
theorem res_up {be b : Nat} {g : Nat → Option Nat} {v : Option Nat} (h : b < be) : res be (va_up g b v) = va_up (res be g) b v := by
  funext k
  by_cases c : k = b
  · subst c; rw [res_lt h, va_up_self, va_up_self]
  · rw [va_up_ne _ _ c]; simp only [res]; rw [va_up_ne _ _ c]
theorem res_drop {pl le : Nat → Nat} {be e : Nat} {g : Nat → Option Nat} : res be (mDrop pl le be e g) = mDrop pl le be e (res be g) := by
  unfold mDrop
  rw [cntO_cong (f := res be g) (g := g) be (fun b hb => res_lt hb), lst_cong (f := res be g) (g := g) be (fun b hb => res_lt hb)]
  split
  · have := lst_ob le g e be
    cases h : lst le g e be with
    | none => rfl
    | some w => exact res_up (this w h)
  · rfl
def mA (le lb : Nat → Nat) (br : Nat → Bool) (el be : Nat) (ak : Nat → Nat) : aT := fun e b => decide (e < el) && decide (b < be) && canB le lb br e b && decide (rnk le lb br b e el < ak b)
theorem mA_iff {le lb : Nat → Nat} {br : Nat → Bool} {el be : Nat} {ak : Nat → Nat} {e b : Nat} : mA le lb br el be ak e b = true ↔ e < el ∧ b < be ∧ canB le lb br e b = true ∧ rnk le lb br b e el < ak b := by simp [mA, and_assoc]
theorem aT_ext {A B : aT} (h : ∀ e b, A e b = true ↔ B e b = true) : A = B := by
  funext e b
  have := h e b
  cases h1 : A e b <;> cases h2 : B e b <;> simp_all
theorem mA_up {le lb : Nat → Nat} {br : Nat → Bool} {el be : Nat} {ak : Nat → Nat} {e b : Nat} (hb : b < be) (h : askd le lb br el b (ak b) = some e) : mA le lb br el be (va_up ak b (ak b + 1)) = adA (mA le lb br el be ak) e b := by
  obtain ⟨h1, h2, h3, -⟩ := askd_lt h
  refine aT_ext (fun x z => ?_)
  rw [adA_iff, mA_iff, mA_iff]
  by_cases c : z = b
  · subst c
    rw [va_up_self]
    constructor
    · rintro ⟨a1, a2, a3, a4⟩
      rcases Nat.lt_or_ge (rnk le lb br z x el) (ak z) with r | r
      · exact Or.inl ⟨a1, a2, a3, r⟩
      · exact Or.inr ⟨rnk_inj a1 h1 a3 h2 (by omega), rfl⟩
    · rintro (⟨a1, a2, a3, a4⟩ | ⟨rfl, -⟩)
      · exact ⟨a1, a2, a3, by omega⟩
      · exact ⟨h1, hb, h2, by omega⟩
  · rw [va_up_ne _ _ c]
    constructor
    · exact Or.inl
    · rintro (a | ⟨-, a⟩)
      · exact a
      · exact absurd a c
def mIn (pl le lb : Nat → Nat) (br : Nat → Bool) (el be : Nat) (s : pT) : Prop := ∀ R, clo pl le lb br el be R → DA pl le lb br el be R (res be s.1) (mA le lb br el be s.2)
theorem mSt_in {pl le lb : Nat → Nat} {br : Nat → Bool} {el be b : Nat} {s : pT × Bool} (hb : b < be) (h : mIn pl le lb br el be s.1) : mIn pl le lb br el be (mSt pl le lb br el be s b).1 := by
  unfold mSt
  split
  · rename_i hn
    split
    · exact h
    · rename_i e he
      obtain ⟨h1, h2, h3, -⟩ := askd_lt he
      intro R hR
      show DA pl le lb br el be R (res be (mDrop pl le be e (va_up s.1.1 b (some e)))) (mA le lb br el be (va_up s.1.2 b (s.1.2 b + 1)))
      rw [mA_up hb he, res_drop, res_up hb]
      refine DA_ask hR (h R hR) (by rw [res_lt hb]; exact hn) hb h1 h2 ?_ (fun x hx hc hp => mA_iff.mpr ⟨hx, hb, hc, by have := rnk_pr hx hc hp; omega⟩)
      cases h5 : mA le lb br el be s.1.2 e b with
      | false => rfl
      | true => have := (mA_iff.mp h5).2.2.2; omega
  · exact h
theorem mFor_in {pl le lb : Nat → Nat} {br : Nat → Bool} {el be : Nat} {s : pT} (h : mIn pl le lb br el be s) : ∀ n, n ≤ be → mIn pl le lb br el be (mFor pl le lb br el be s n).1
  | 0, _ => h
  | n + 1, hn => mSt_in (by omega) (mFor_in h n (by omega))
theorem mFor_no {pl le lb : Nat → Nat} {br : Nat → Bool} {el be : Nat} {s : pT} : ∀ n, (mFor pl le lb br el be s n).2 = false → (mFor pl le lb br el be s n).1 = s ∧ ∀ b, b < n → s.1 b = none → askd le lb br el b (s.2 b) = none
  | 0, _ => ⟨rfl, fun b hb => absurd hb (Nat.not_lt_zero _)⟩
  | n + 1, h => by
    rw [mFor] at h ⊢
    have key : ∀ t : pT × Bool, (mSt pl le lb br el be t n).2 = false → (mSt pl le lb br el be t n) = t ∧ (t.1.1 n = none → askd le lb br el n (t.1.2 n) = none) := by
      intro t ht
      unfold mSt at ht ⊢
      split at ht
      · rename_i hn
        rw [if_pos hn]
        cases ha : askd le lb br el n (t.1.2 n) with
        | none => exact ⟨rfl, fun _ => rfl⟩
        | some e => rw [ha] at ht; cases ht
      · rename_i hn
        rw [if_neg hn]
        exact ⟨rfl, fun z => absurd z hn⟩
    obtain ⟨k1, k2⟩ := key _ h
    rw [k1] at h ⊢
    obtain ⟨i1, i2⟩ := mFor_no n h
    refine ⟨i1, fun b hb hs => ?_⟩
    rcases Nat.lt_or_ge b n with r | r
    · exact i2 b r hs
    · have e2 : b = n := by omega
      subst e2
      rw [i1] at k2
      exact k2 hs
theorem mWh_in {pl le lb : Nat → Nat} {br : Nat → Bool} {el be : Nat} (hel : el ≤ 12) : ∀ (f : Nat) (s : pT), pOk s → pot s.2 be < f → mIn pl le lb br el be s → mIn pl le lb br el be (mWh pl le lb br el be f s) ∧ DAe le lb br el be (res be (mWh pl le lb br el be f s).1) (mA le lb br el be (mWh pl le lb br el be f s).2)
  | 0, s, _, h, _ => absurd h (Nat.not_lt_zero _)
  | f + 1, s, hk, hf, hi => by
    have hp := mFor_pot (pl := pl) (le := le) (lb := lb) (br := br) (be := be) hel hk be (Nat.le_refl _)
    rw [mWh]
    by_cases c : (mFor pl le lb br el be s be).2 = true
    · rw [if_pos c] at hp ⊢
      exact mWh_in hel f _ (mFor_ok hel hk be) (by omega) (mFor_in hi be (Nat.le_refl _))
    · rw [if_neg c]
      refine ⟨mFor_in hi be (Nat.le_refl _), ?_⟩
      obtain ⟨h1, h2⟩ := mFor_no be (by simpa using c)
      rw [h1]
      intro b hb hn e he hc
      rw [res_lt hb] at hn
      exact mA_iff.mpr ⟨he, hb, hc, askd_no (h2 b hb hn) he hc⟩
theorem DA_start {pl le lb : Nat → Nat} {br : Nat → Bool} {el be : Nat} {R : aT} {h : Nat → Option Nat} {A : aT} (h1 : ∀ b, h b = none) (h2 : ∀ e b, A e b = false) : DA pl le lb br el be R h A := by
  refine ⟨fun b e z => (by rw [h1] at z; cases z), fun e b z => (by rw [h2] at z; cases z), fun e x b z => (by rw [h2] at z; cases z), fun b e x z => (by rw [h1] at z; cases z), fun e b z => (by rw [h2] at z; cases z), fun e => ?_, fun e b z => (by rw [h2] at z; cases z)⟩
  have : cntO h e be = 0 := by
    have h3 : cntO h e be ≤ ctp (fun _ => false) be := cnt_ctp be (fun b _ z => by rw [h1] at z; cases z)
    rw [ctp_none be (fun _ _ => rfl)] at h3
    omega
  omega
theorem mWh_end {pl le lb : Nat → Nat} {br : Nat → Bool} {el be : Nat} {gi : Nat → Option Nat} {ak : Nat → Nat} (hel : el ≤ 12) (hbe : be ≤ 16) (hg : ∀ k, ob 12 (gi k)) (hak : ∀ k, ak k ≤ 12) : mIn pl le lb br el be (mWh pl le lb br el be 200 (pIni be gi ak)) ∧ DAe le lb br el be (res be (mWh pl le lb br el be 200 (pIni be gi ak)).1) (mA le lb br el be (mWh pl le lb br el be 200 (pIni be gi ak)).2) := by
  refine mWh_in hel 200 _ ⟨ob_fil hg, fun k => ?_⟩ ?_ (fun R hR => DA_start (fun b => ?_) (fun e b => ?_))
  · simp only [pIni, fil]; split
    · omega
    · exact hak k
  · have := pot_ini (ak := ak) (be := be) be (Nat.le_refl _)
    show pot (fil 0 ak be) be < 200
    omega
  · rcases Nat.lt_or_ge b be with r | r
    · rw [res_lt r]; simp [pIni, fil, r]
    · exact res_ge r
  · cases h : mA le lb br el be (pIni be gi ak).2 e b with
    | false => rfl
    | true =>
      have := mA_iff.mp h
      simp [pIni, fil, this.2.1] at this
/-! the class -/
def cA (le lb : Nat → Nat) (br : Nat → Bool) (el be : Nat) (la : Nat → Option Nat) : aT := fun e b => decide (e < el) && decide (b < be) && canB le lb br e b && (match la b with | none => false | some j => decide (e = j) || prB lb b e j)
theorem cA_iff {le lb : Nat → Nat} {br : Nat → Bool} {el be : Nat} {la : Nat → Option Nat} {e b : Nat} : cA le lb br el be la e b = true ↔ e < el ∧ b < be ∧ canB le lb br e b = true ∧ ∃ j, la b = some j ∧ (e = j ∨ prB lb b e j = true) := by
  unfold cA
  cases h : la b with
  | none => simp
  | some j => simp [and_assoc]
theorem nxt_no {le lb : Nat → Nat} {br : Nat → Bool} {b : Nat} {la : Option Nat} : ∀ m, nxt le lb br b la m = none → ∀ y, y < m → canB le lb br y b = true → laO lb b la y = true → False
  | 0, _, y, hy, _, _ => absurd hy (Nat.not_lt_zero _)
  | m + 1, hm, y, hy, h1, h2 => by
    simp only [nxt] at hm
    split at hm
    · cases hm
    · rename_i hno
      rcases Nat.lt_or_ge y m with q | q
      · exact nxt_no m hm y q h1 h2
      · have e2 : y = m := by omega
        subst e2
        exact hno ⟨h1, h2, by rw [hm]; rfl⟩
theorem nxt_is {le lb : Nat → Nat} {br : Nat → Bool} {b : Nat} {la : Option Nat} : ∀ n e, nxt le lb br b la n = some e → e < n ∧ canB le lb br e b = true ∧ laO lb b la e = true ∧ ∀ x, x < n → canB le lb br x b = true → laO lb b la x = true → x = e ∨ prB lb b e x = true
  | 0, e, h => by simp [nxt] at h
  | n + 1, e, h => by
    simp only [nxt] at h
    by_cases c : canB le lb br n b = true ∧ laO lb b la n = true ∧ prBO lb b n (nxt le lb br b la n) = true
    · rw [if_pos c] at h
      cases h
      refine ⟨Nat.lt_succ_self _, c.1, c.2.1, fun x hx h1 h2 => ?_⟩
      rcases Nat.lt_or_ge x n with r | r
      · cases h3 : nxt le lb br b la n with
        | none => exact absurd h2 (fun z => nxt_no n h3 x r h1 z)
        | some v =>
          rw [h3] at c
          obtain ⟨-, -, -, g⟩ := nxt_is n v h3
          rcases g x r h1 h2 with z | z
          · subst z; exact Or.inr c.2.2
          · exact Or.inr (prB_trans c.2.2 z)
      · exact Or.inl (by omega)
    · rw [if_neg c] at h
      obtain ⟨g1, g2, g3, g4⟩ := nxt_is n e h
      refine ⟨by omega, g2, g3, fun x hx h1 h2 => ?_⟩
      rcases Nat.lt_or_ge x n with r | r
      · exact g4 x r h1 h2
      · have e2 : x = n := by omega
        subst e2
        rcases prB_tot (lb := lb) (b := b) (show x ≠ e by omega) with z | z
        · exact absurd ⟨h1, h2, by rw [h]; exact z⟩ c
        · exact Or.inr z
theorem cA_hup {le lb : Nat → Nat} {br : Nat → Bool} {el be : Nat} {la : Nat → Option Nat} {e s : Nat} (hs : s < be) (h : nxt le lb br s (la s) el = some e) : ∀ x, x < el → canB le lb br x s = true → prB lb s x e = true → cA le lb br el be la x s = true := by
  obtain ⟨h1, h2, h3, h4⟩ := nxt_is el e h
  intro x hx hc hp
  have no : laO lb s (la s) x = true → False := fun z => by
    rcases h4 x hx hc z with r | r
    · subst r; exact prB_irr hp
    · exact prB_asym hp r
  cases hl : la s with
  | none => rw [hl] at no; exact absurd rfl no
  | some j =>
    rw [hl] at no
    refine cA_iff.mpr ⟨hx, hs, hc, j, hl, ?_⟩
    by_cases q : x = j
    · exact Or.inl q
    · rcases prB_tot (lb := lb) (b := s) q with r | r
      · exact Or.inr r
      · exact absurd r no
theorem cA_new {le lb : Nat → Nat} {br : Nat → Bool} {el be : Nat} {la : Nat → Option Nat} {e s : Nat} (h : nxt le lb br s (la s) el = some e) : cA le lb br el be la e s = false := by
  obtain ⟨h1, h2, h3, h4⟩ := nxt_is el e h
  cases hA : cA le lb br el be la e s with
  | false => rfl
  | true =>
    obtain ⟨-, -, -, j, hj, r⟩ := cA_iff.mp hA
    rw [hj] at h3
    rcases r with r | r
    · subst r; exact absurd h3 (fun z => prB_irr z)
    · exact absurd h3 (fun z => prB_asym r z)
theorem cA_up {le lb : Nat → Nat} {br : Nat → Bool} {el be : Nat} {la : Nat → Option Nat} {e s : Nat} (hs : s < be) (h : nxt le lb br s (la s) el = some e) : cA le lb br el be (va_up la s (some e)) = adA (cA le lb br el be la) e s := by
  have hup := cA_hup (be := be) hs h
  obtain ⟨h1, h2, h3, h4⟩ := nxt_is el e h
  refine aT_ext (fun x z => ?_)
  rw [adA_iff]
  by_cases c : z = s
  · subst c
    constructor
    · intro a
      obtain ⟨a1, a2, a3, j, a4, a5⟩ := cA_iff.mp a
      rw [va_up_self] at a4
      cases a4
      rcases a5 with r | r
      · exact Or.inr ⟨r, rfl⟩
      · exact Or.inl (hup x a1 a3 r)
    · rintro (a | ⟨rfl, -⟩)
      · obtain ⟨a1, a2, a3, j, a4, a5⟩ := cA_iff.mp a
        refine cA_iff.mpr ⟨a1, a2, a3, e, va_up_self _ _ _, Or.inr ?_⟩
        rw [a4] at h3
        rcases a5 with r | r
        · subst r; exact h3
        · exact prB_trans r h3
      · exact cA_iff.mpr ⟨h1, hs, h2, x, va_up_self _ _ _, Or.inl rfl⟩
  · rw [cA_iff, cA_iff, va_up_ne _ _ c]
    constructor
    · exact Or.inl
    · rintro (a | ⟨-, a⟩)
      · exact a
      · exact absurd a c
theorem up_up {α : Type} {f : Nat → α} {i : Nat} {v w : α} : va_up (va_up f i v) i w = va_up f i w := by
  funext k
  by_cases c : k = i
  · subst c; rw [va_up_self, va_up_self]
  · rw [va_up_ne _ _ c, va_up_ne _ _ c, va_up_ne _ _ c]
theorem up_id {α : Type} {f : Nat → α} {i : Nat} {v : α} (h : f i = v) : va_up f i v = f := by
  funext k
  by_cases c : k = i
  · subst c; rw [va_up_self, h]
  · rw [va_up_ne _ _ c]
theorem up_comm {α : Type} {f : Nat → α} {i j : Nat} {v w : α} (h : i ≠ j) : va_up (va_up f i v) j w = va_up (va_up f j w) i v := by
  funext k
  by_cases c : k = i
  · subst c; rw [va_up_self, va_up_ne _ _ h, va_up_self]
  · by_cases d : k = j
    · subst d; rw [va_up_self, va_up_ne _ _ c, va_up_self]
    · rw [va_up_ne _ _ d, va_up_ne _ _ c, va_up_ne _ _ c, va_up_ne _ _ d]
theorem askF_is {pl le : Nat → Nat} {h : Nat → Option Nat} {be e a : Nat} (hbe : be ≤ 16) (hn : ∀ b, be ≤ b → h b = none) (ha : h a = none) (hab : a < be) (hc : cntO h e be ≤ pl e) :
    (askF pl le h be e a).1 = mDrop pl le be e (va_up h a (some e)) ∧ (∀ w, (askF pl le h be e a).2 = some w → (askF pl le h be e a).1 w = none ∧ (w = a ∨ h w = some e)) ∧
    (∀ b, (askF pl le h be e a).1 b = none → h b = none ∨ (askF pl le h be e a).2 = some b) ∧ ((askF pl le h be e a).1 a = none → (askF pl le h be e a).2 = some a) := by
  have c16 : cntO h e 16 = cntO h e be := by
    have := cntO_end (f := h) (e := e) (n := be) hn (16 - be)
    rw [show be + (16 - be) = 16 by omega] at this
    exact this
  have c1 : cntO (va_up h a (some e)) e be = cntO h e be + 1 := cnt_in (by rw [ha]; simp) be hab
  unfold askF mDrop
  rw [c16, c1]
  by_cases q : cntO h e be < pl e
  · rw [if_pos q, if_neg (by omega)]
    refine ⟨rfl, fun w hw => (by cases hw), fun b hb => Or.inl ?_, fun hb => ?_⟩
    · by_cases c : b = a
      · subst c; exact ha
      · have hb : va_up h a (some e) b = none := hb
        rw [va_up_ne _ _ c] at hb; exact hb
    · have hb : va_up h a (some e) a = none := hb
      rw [va_up_self] at hb; cases hb
  · rw [if_neg q, if_pos (by omega)]
    cases hl : lst le h e be with
    | none =>
      have h0 : cntO h e be = 0 := by
        rcases Nat.eq_zero_or_pos (cntO h e be) with z | z
        · exact z
        · obtain ⟨w, hw⟩ := lst_some (le := le) be z
          rw [hl] at hw; cases hw
      have h1 : lst le (va_up h a (some e)) e be = some a := lst_uni hab (va_up_self _ _ _) (fun b hb hbe => by
        by_cases c : b = a
        · exact Or.inl c
        · rw [va_up_ne _ _ c] at hbe
          have := cntO_pos hbe be hb
          omega)
      rw [h1]
      refine ⟨?_, fun w hw => by cases hw; exact ⟨ha, Or.inl rfl⟩, fun b hb => Or.inl hb, fun _ => rfl⟩
      show h = va_up (va_up h a (some e)) a none
      rw [up_up, up_id ha]
    | some w =>
      obtain ⟨w1, w2, w3⟩ := lst_is be w hl
      have hwa : w ≠ a := fun z => by rw [z, ha] at w2; cases w2
      dsimp only
      by_cases p : prE le e a w = true
      · have h1 : lst le (va_up h a (some e)) e be = some w := lst_uni w1 (by rw [va_up_ne _ _ hwa]; exact w2) (fun b hb hbe => by
          by_cases c : b = a
          · subst c; exact Or.inr p
          · rw [va_up_ne _ _ c] at hbe
            exact w3 b hb hbe)
        rw [h1, if_pos p]
        refine ⟨?_, fun v hv => ?_, fun b hb => ?_, fun hb => ?_⟩
        · exact up_comm hwa
        · cases hv
          exact ⟨by show va_up (va_up h w none) a (some e) w = none; rw [va_up_ne _ _ hwa, va_up_self], Or.inr w2⟩
        · have hb : va_up (va_up h w none) a (some e) b = none := hb
          by_cases c : b = w
          · subst c; exact Or.inr rfl
          · by_cases d : b = a
            · subst d; exact Or.inl ha
            · rw [va_up_ne _ _ d, va_up_ne _ _ c] at hb; exact Or.inl hb
        · have hb : va_up (va_up h w none) a (some e) a = none := hb
          rw [va_up_self] at hb; cases hb
      · have p2 : prE le e w a = true := (prE_tot (le := le) (e := e) hwa).elim id (fun z => absurd z p)
        have h1 : lst le (va_up h a (some e)) e be = some a := lst_uni hab (va_up_self _ _ _) (fun b hb hbe => by
          by_cases c : b = a
          · exact Or.inl c
          · rw [va_up_ne _ _ c] at hbe
            rcases w3 b hb hbe with z | z
            · subst z; exact Or.inr p2
            · exact Or.inr (prE_trans z p2))
        rw [h1, if_neg p]
        refine ⟨?_, fun w hw => by cases hw; exact ⟨ha, Or.inl rfl⟩, fun b hb => Or.inl hb, fun _ => rfl⟩
        show h = va_up (va_up h a (some e)) a none
        rw [up_up, up_id ha]
/-- how many pairs are not asked yet -/
def nA (A : aT) (el : Nat) : Nat := ctp (fun k => !A (k / 16) (k % 16)) (el * 16)
theorem nA_ad {A : aT} {el e a : Nat} (he : e < el) (ha : a < 16) (h : A e a = false) : nA (adA A e a) el < nA A el := by
  unfold nA
  have e1 : (e * 16 + a) / 16 = e := by omega
  have e2 : (e * 16 + a) % 16 = a := by omega
  refine ctp_lt (w := e * 16 + a) (fun k _ hk => ?_) (by omega) ?_ ?_
  · simp only [adA, Bool.not_or, Bool.and_eq_true] at hk
    exact hk.1
  · simp only [e1, e2]
    rw [adA_iff.mpr (Or.inr ⟨rfl, rfl⟩)]
    rfl
  · simp only [e1, e2, h]; rfl
theorem nA_0 {A : aT} {el e a : Nat} (he : e < el) (ha : a < 16) (h : nA A el = 0) : A e a = true := by
  cases h2 : A e a with
  | true => rfl
  | false => have := nA_ad he ha h2; omega
def cIn (pl le lb : Nat → Nat) (br : Nat → Bool) (el be m : Nat) (h la : Nat → Option Nat) (sk : Option Nat) : Prop := (∀ R, clo pl le lb br el be R → DA pl le lb br el be R h (cA le lb br el be la)) ∧ (∀ b, m ≤ b → la b = none) ∧
  (∀ b, b < m → sk ≠ some b → h b = none → ∀ e, e < el → canB le lb br e b = true → cA le lb br el be la e b = true) ∧ (∀ s, sk = some s → s < m ∧ h s = none)
theorem clo_T {pl le lb : Nat → Nat} {br : Nat → Bool} {el be : Nat} : clo pl le lb br el be (fun _ _ => true) := fun _ _ _ _ _ _ _ => rfl
theorem seat_in {pl le lb : Nat → Nat} {br : Nat → Bool} {el be m : Nat} (hbe : be ≤ 16) (hm : m ≤ be) : ∀ (n : Nat) (h la : Nat → Option Nat) (sk : Option Nat), cIn pl le lb br el be m h la sk → nA (cA le lb br el be la) el ≤ n → cIn pl le lb br el be m (seatF pl le lb br el be n h la sk).1 (seatF pl le lb br el be n h la sk).2 none
  | 0, h, la, sk, hi, h0 => by
    obtain ⟨i1, i2, i3, i4⟩ := hi
    exact ⟨i1, i2, fun b hb _ _ e he _ => nA_0 (A := cA le lb br el be la) he (by omega) (Nat.le_zero.mp h0), fun s z => by cases z⟩
  | n + 1, h, la, sk, hi, hn => by
    unfold seatF
    cases sk with
    | none => exact hi
    | some s =>
      dsimp only
      obtain ⟨i1, i2, i3, i4⟩ := hi
      obtain ⟨hs, hns⟩ := i4 s rfl
      cases hx : nxt le lb br s (la s) el with
      | none =>
        refine ⟨i1, i2, fun b hb _ hb0 e he hc => ?_, fun s z => by cases z⟩
        by_cases c : b = s
        · subst c
          have no := nxt_no el hx e he hc
          cases hl : la b with
          | none => rw [hl] at no; exact absurd rfl no
          | some j =>
            rw [hl] at no
            refine cA_iff.mpr ⟨he, by omega, hc, j, hl, ?_⟩
            by_cases q : e = j
            · exact Or.inl q
            · rcases prB_tot (lb := lb) (b := b) q with r | r
              · exact Or.inr r
              · exact absurd r no
        · exact i3 b hb (fun z => c (by cases z; rfl)) hb0 e he hc
      | some e =>
        dsimp only
        have D := i1 _ clo_T
        obtain ⟨h1, h2, h3, h4⟩ := nxt_is el e hx
        have hnb : ∀ b, be ≤ b → h b = none := fun b hb => by
          cases hh : h b with
          | none => rfl
          | some x => have := (D.2.1 x b (D.1 b x hh)).2.1; omega
        obtain ⟨a1, a2, a3, a4⟩ := askF_is (pl := pl) (le := le) (h := h) (be := be) (e := e) (a := s) hbe hnb hns (by omega) (D.2.2.2.2.2.1 e)
        have hcA := cA_up (be := be) (by omega) hx
        have hnew := cA_new (be := be) hx
        refine seat_in hbe hm n _ _ _ ⟨fun R hR => ?_, fun b hb => ?_, fun b hb hbs hb0 x hx1 hc => ?_, fun w hw => ?_⟩ ?_
        · rw [hcA, a1]
          exact DA_ask hR (i1 R hR) hns (by omega) h1 h2 hnew (cA_hup (by omega) hx)
        · rw [va_up_ne _ _ (by omega)]; exact i2 b hb
        · rcases a3 b hb0 with r | r
          · by_cases c : b = s
            · subst c; exact absurd (a4 hb0) hbs
            · rw [hcA]
              exact adA_iff.mpr (Or.inl (i3 b hb (fun z => c (by cases z; rfl)) r x hx1 hc))
          · exact absurd r hbs
        · obtain ⟨q1, q2⟩ := a2 w hw
          refine ⟨?_, q1⟩
          rcases q2 with r | r
          · omega
          · obtain ⟨-, -, -, j, hj, -⟩ := cA_iff.mp (D.1 w e r)
            rcases Nat.lt_or_ge w m with z | z
            · exact z
            · rw [i2 w z] at hj; cases hj
        · have := nA_ad (el := el) h1 (show s < 16 by omega) hnew
          rw [hcA]
          omega
theorem best_in {pl le lb : Nat → Nat} {br : Nat → Bool} {el be : Nat} (hel : el ≤ 12) (hbe : be ≤ 16) : ∀ n, n ≤ be → cIn pl le lb br el be n (bestF pl le lb br el be n).1 (bestF pl le lb br el be n).2 none
  | 0, _ => ⟨fun R _ => DA_start (fun _ => rfl) (fun e b => by
      cases h : cA le lb br el be (bestF pl le lb br el be 0).2 e b with
      | false => rfl
      | true =>
        obtain ⟨-, -, -, j, hj, -⟩ := cA_iff.mp h
        cases hj), fun _ _ => rfl, fun b hb => absurd hb (Nat.not_lt_zero _), fun s z => by cases z⟩
  | n + 1, hn => by
    obtain ⟨i1, i2, i3, i4⟩ := best_in (pl := pl) (le := le) (lb := lb) (br := br) hel hbe n (by omega)
    rw [bestF]
    refine seat_in hbe hn 192 _ _ _ ⟨i1, fun b hb => i2 b (by omega), fun b hb hbs hb0 => ?_, fun s hs => ?_⟩ ?_
    · rcases Nat.lt_or_ge b n with r | r
      · exact i3 b r (by simp) hb0
      · have e2 : b = n := by omega
        subst e2
        exact absurd rfl hbs
    · cases hs
      refine ⟨Nat.lt_succ_self _, ?_⟩
      cases hh : (bestF pl le lb br el be n).1 n with
      | none => rfl
      | some x =>
        obtain ⟨-, -, -, j, hj, -⟩ := cA_iff.mp ((i1 _ clo_T).1 n x hh)
        rw [i2 n (Nat.le_refl _)] at hj
        cases hj
    · have := ctp_le (fun k => !cA le lb br el be (bestF pl le lb br el be n).2 (k / 16) (k % 16)) (el * 16)
      unfold nA
      omega
/-- both pair alike -/
theorem pair_one {pl le lb : Nat → Nat} {br : Nat → Bool} {el be : Nat} {gi : Nat → Option Nat} {ak : Nat → Nat} (hel : el ≤ 12) (hbe : be ≤ 16) (hg : ∀ k, ob 12 (gi k)) (hak : ∀ k, ak k ≤ 12) :
    (∀ b, b < be → (mWh pl le lb br el be 200 (pIni be gi ak)).1 b = (bestF pl le lb br el be be).1 b) ∧ (∀ b, be ≤ b → (bestF pl le lb br el be be).1 b = none) ∧ (∀ b, be ≤ b → (bestF pl le lb br el be be).2 b = none) ∧ cntS (mWh pl le lb br el be 200 (pIni be gi ak)).1 be = cntS (bestF pl le lb br el be be).1 16 := by
  obtain ⟨m1, m2⟩ := mWh_end (pl := pl) (le := le) (lb := lb) (br := br) (el := el) (be := be) (gi := gi) (ak := ak) hel hbe hg hak
  obtain ⟨i1, i2, i3, i4⟩ := best_in (pl := pl) (le := le) (lb := lb) (br := br) hel hbe be (Nat.le_refl _)
  have h1 := DA_one m1 i1 _ clo_T m2 (fun b hb hn => i3 b hb (by simp) hn)
  have h2 : ∀ b, be ≤ b → (bestF pl le lb br el be be).1 b = none := fun b hb => by
    cases hh : (bestF pl le lb br el be be).1 b with
    | none => rfl
    | some x =>
      have := ((i1 _ clo_T).2.1 x b ((i1 _ clo_T).1 b x hh)).2.1
      omega
  have h3 : ∀ b, b < be → (mWh pl le lb br el be 200 (pIni be gi ak)).1 b = (bestF pl le lb br el be be).1 b := fun b hb => by
    rw [← h1 b hb, res_lt hb]
  refine ⟨h3, h2, i2, ?_⟩
  have h4 := cntS_end h2 (16 - be)
  rw [show be + (16 - be) = 16 by omega] at h4
  rw [h4]
  have : ∀ n, n ≤ be → cntS (mWh pl le lb br el be 200 (pIni be gi ak)).1 n = cntS (bestF pl le lb br el be be).1 n := by
    intro n
    induction n with
    | zero => intro _; rfl
    | succ n ih => intro hn; rw [cntS, cntS, ih (by omega), h3 n (by omega)]
  exact this be (Nat.le_refl _)

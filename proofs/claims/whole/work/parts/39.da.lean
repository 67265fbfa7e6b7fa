/-! Beginners ask, elders hold: what every way of doing it comes to. -/
def ordL (f : Nat → Nat) (x z : Nat) : Bool := decide (f z < f x) || (decide (f x = f z) && decide (x < z))
theorem ordL_iff {f : Nat → Nat} {x z : Nat} : ordL f x z = true ↔ f z < f x ∨ (f x = f z ∧ x < z) := by simp [ordL]
theorem ordL_tot {f : Nat → Nat} {x z : Nat} (h : x ≠ z) : ordL f x z = true ∨ ordL f z x = true := by
  rw [ordL_iff, ordL_iff]; omega
theorem ordL_asym {f : Nat → Nat} {x z : Nat} (h : ordL f x z = true) (h2 : ordL f z x = true) : False := by
  rw [ordL_iff] at h h2; omega
theorem ordL_trans {f : Nat → Nat} {x z w : Nat} (h : ordL f x z = true) (h2 : ordL f z w = true) : ordL f x w = true := by
  rw [ordL_iff] at h h2 ⊢; omega
theorem ordL_irr {f : Nat → Nat} {x : Nat} (h : ordL f x x = true) : False := ordL_asym h h
theorem prB_ord (lb : Nat → Nat) (b e o : Nat) : prB lb b e o = ordL (fun x => lb (x * 16 + b)) e o := rfl
theorem prE_ord (le : Nat → Nat) (e b o : Nat) : prE le e b o = ordL (fun x => le (e * 16 + x)) b o := rfl
theorem prE_trans {le : Nat → Nat} {e x z w : Nat} (h : prE le e x z = true) (h2 : prE le e z w = true) : prE le e x w = true := ordL_trans (f := fun x => le (e * 16 + x)) h h2
theorem prE_asym {le : Nat → Nat} {e x z : Nat} (h : prE le e x z = true) (h2 : prE le e z x = true) : False := ordL_asym (f := fun x => le (e * 16 + x)) h h2
theorem prE_irr {le : Nat → Nat} {e x : Nat} (h : prE le e x x = true) : False := prE_asym h h
theorem prE_tot {le : Nat → Nat} {e x z : Nat} (h : x ≠ z) : prE le e x z = true ∨ prE le e z x = true := ordL_tot (f := fun x => le (e * 16 + x)) h
theorem prB_trans {lb : Nat → Nat} {b x z w : Nat} (h : prB lb b x z = true) (h2 : prB lb b z w = true) : prB lb b x w = true := ordL_trans (f := fun x => lb (x * 16 + b)) h h2
theorem prB_asym {lb : Nat → Nat} {b x z : Nat} (h : prB lb b x z = true) (h2 : prB lb b z x = true) : False := ordL_asym (f := fun x => lb (x * 16 + b)) h h2
theorem prB_irr {lb : Nat → Nat} {b x : Nat} (h : prB lb b x x = true) : False := prB_asym h h
theorem prB_tot {lb : Nat → Nat} {b x z : Nat} (h : x ≠ z) : prB lb b x z = true ∨ prB lb b z x = true := ordL_tot (f := fun x => lb (x * 16 + b)) h
theorem cnt_in {h : Nat → Option Nat} {a e : Nat} (ha : h a ≠ some e) : ∀ n, a < n → cntO (va_up h a (some e)) e n = cntO h e n + 1
  | 0, hn => absurd hn (Nat.not_lt_zero _)
  | n + 1, hn => by
    have out : ∀ m, m ≤ a → cntO (va_up h a (some e)) e m = cntO h e m := fun m hm => cntO_cong m (fun b hb => va_up_ne _ _ (by omega))
    rw [cntO, cntO]
    rcases Nat.lt_or_ge a n with q | q
    · rw [cnt_in ha n q, va_up_ne _ _ (by omega)]; omega
    · have e2 : a = n := by omega
      subst e2
      rw [out a (Nat.le_refl _), va_up_self, if_pos rfl, if_neg ha]
theorem cnt_out {h : Nat → Option Nat} {w e : Nat} (hw : h w = some e) : ∀ n, w < n → cntO (va_up h w none) e n + 1 = cntO h e n
  | 0, hn => absurd hn (Nat.not_lt_zero _)
  | n + 1, hn => by
    have out : ∀ m, m ≤ w → cntO (va_up h w none) e m = cntO h e m := fun m hm => cntO_cong m (fun b hb => va_up_ne _ _ (by omega))
    rw [cntO, cntO]
    rcases Nat.lt_or_ge w n with q | q
    · rw [← cnt_out hw n q, va_up_ne _ _ (by omega)]; omega
    · have e2 : w = n := by omega
      subst e2
      rw [out w (Nat.le_refl _), va_up_self, if_neg (by simp), if_pos hw]
theorem cnt_oth {h : Nat → Option Nat} {a e : Nat} {v : Option Nat} (ha : h a ≠ some e) (hv : v ≠ some e) : ∀ n, cntO (va_up h a v) e n = cntO h e n
  | 0 => rfl
  | n + 1 => by
    rw [cntO, cntO, cnt_oth ha hv n]
    by_cases c : n = a
    · subst c; rw [va_up_self, if_neg hv, if_neg ha]
    · rw [va_up_ne _ _ c]
theorem cnt_ctp {h : Nat → Option Nat} {e : Nat} {p : Nat → Bool} : ∀ n, (∀ b, b < n → h b = some e → p b = true) → cntO h e n ≤ ctp p n
  | 0, _ => Nat.le_refl _
  | n + 1, hp => by
    have := cnt_ctp n (fun b hb => hp b (by omega))
    rw [cntO, ctp]
    by_cases c : h n = some e
    · rw [if_pos c, if_pos (hp n (by omega) c)]; omega
    · rw [if_neg c]; omega
theorem ctp_cnt {h : Nat → Option Nat} {e : Nat} {p : Nat → Bool} : ∀ n, (∀ b, b < n → p b = true → h b = some e) → ctp p n ≤ cntO h e n
  | 0, _ => Nat.le_refl _
  | n + 1, hp => by
    have := ctp_cnt n (fun b hb => hp b (by omega))
    rw [cntO, ctp]
    by_cases c : p n = true
    · rw [if_pos c, if_pos (hp n (by omega) c)]; omega
    · rw [if_neg c]; omega
/-- the least preferred of those who are with e -/
theorem lst_is {le : Nat → Nat} {h : Nat → Option Nat} {e : Nat} : ∀ n w, lst le h e n = some w → w < n ∧ h w = some e ∧ ∀ b, b < n → h b = some e → b = w ∨ prE le e b w = true
  | 0, w, hw => by simp [lst] at hw
  | n + 1, w, hw => by
    simp only [lst] at hw
    by_cases c : h n = some e
    · cases hl : lst le h e n with
      | none =>
        rw [hl, if_pos ⟨c, rfl⟩] at hw
        cases hw
        refine ⟨Nat.lt_succ_self _, c, fun b hb hbe => ?_⟩
        rcases Nat.lt_or_ge b n with q | q
        · have : 0 < cntO h e n := cntO_pos hbe n q
          obtain ⟨w, hw⟩ := lst_some (le := le) n this
          rw [hl] at hw
          cases hw
        · exact Or.inl (by omega)
      | some v =>
        obtain ⟨h1, h2, h3⟩ := lst_is n v hl
        rw [hl] at hw
        by_cases c2 : prEO le e (some v) n = true
        · rw [if_pos ⟨c, c2⟩] at hw
          cases hw
          refine ⟨Nat.lt_succ_self _, c, fun b hb hbe => ?_⟩
          rcases Nat.lt_or_ge b n with q | q
          · rcases h3 b q hbe with rfl | r
            · exact Or.inr c2
            · exact Or.inr (prE_trans r c2)
          · exact Or.inl (by omega)
        · rw [if_neg (fun h => c2 h.2)] at hw
          cases hw
          refine ⟨by omega, h2, fun b hb hbe => ?_⟩
          rcases Nat.lt_or_ge b n with q | q
          · exact h3 b q hbe
          · have e2 : b = n := by omega
            subst e2
            rcases prE_tot (le := le) (e := e) (show b ≠ w by omega) with r | r
            · exact Or.inr r
            · exact absurd r c2
    · rw [if_neg (fun h => c h.1)] at hw
      obtain ⟨h1, h2, h3⟩ := lst_is n w hw
      refine ⟨by omega, h2, fun b hb hbe => ?_⟩
      rcases Nat.lt_or_ge b n with q | q
      · exact h3 b q hbe
      · have e2 : b = n := by omega
        subst e2
        exact absurd hbe c
theorem lst_uni {le : Nat → Nat} {h : Nat → Option Nat} {e n w : Nat} (h1 : w < n) (h2 : h w = some e) (h3 : ∀ b, b < n → h b = some e → b = w ∨ prE le e b w = true) : lst le h e n = some w := by
  obtain ⟨v, hv⟩ := lst_some (le := le) (g := h) (e := e) n (cntO_pos h2 n h1)
  obtain ⟨g1, g2, g3⟩ := lst_is n v hv
  rw [hv]
  rcases h3 v g1 g2 with rfl | q
  · rfl
  · rcases g3 w h1 h2 with rfl | r
    · rfl
    · exact absurd q (fun q => prE_asym q r)
abbrev aT : Type := Nat → Nat → Bool
/-- all elders whom b can have and prefers to e are in R with b -/
def upB (lb : Nat → Nat) (le : Nat → Nat) (br : Nat → Bool) (el : Nat) (R : aT) (e b : Nat) : Bool := (List.range el).all (fun x => !(canB le lb br x b && prB lb b x e) || R x b)
theorem upB_iff {lb le : Nat → Nat} {br : Nat → Bool} {el : Nat} {R : aT} {e b : Nat} : upB lb le br el R e b = true ↔ ∀ x, x < el → canB le lb br x b = true → prB lb b x e = true → R x b = true := by
  simp only [upB, List.all_eq_true, List.mem_range, Bool.or_eq_true, Bool.not_eq_true', Bool.and_eq_false_iff]
  constructor
  · intro h x hx h1 h2
    rcases h x hx with (q | q) | q
    · rw [h1] at q; cases q
    · rw [h2] at q; cases q
    · exact q
  · intro h x hx
    cases h1 : canB le lb br x b with
    | false => exact Or.inl (Or.inl rfl)
    | true =>
      cases h2 : prB lb b x e with
      | false => exact Or.inl (Or.inr rfl)
      | true => exact Or.inr (h x hx h1 h2)
def bet (lb le : Nat → Nat) (br : Nat → Bool) (el : Nat) (R : aT) (e b : Nat) : Nat → Bool := fun c => canB le lb br e c && prE le e c b && upB lb le br el R e c
def clo (pl le lb : Nat → Nat) (br : Nat → Bool) (el be : Nat) (R : aT) : Prop := ∀ e b, e < el → b < be → canB le lb br e b = true → upB lb le br el R e b = true → pl e ≤ ctp (bet lb le br el R e b) be → R e b = true
def DA (pl le lb : Nat → Nat) (br : Nat → Bool) (el be : Nat) (R : aT) (h : Nat → Option Nat) (A : aT) : Prop :=
  (∀ b e, h b = some e → A e b = true) ∧ (∀ e b, A e b = true → e < el ∧ b < be ∧ canB le lb br e b = true) ∧ (∀ e x b, A e b = true → x < el → canB le lb br x b = true → prB lb b x e = true → A x b = true) ∧
  (∀ b e x, h b = some e → A x b = true → x = e ∨ prB lb b x e = true) ∧ (∀ e b, A e b = true → h b ≠ some e → pl e ≤ cntO h e be ∧ ∀ c, h c = some e → prE le e c b = true) ∧ (∀ e, cntO h e be ≤ pl e) ∧
  (∀ e b, A e b = true → h b ≠ some e → R e b = true)
def adA (A : aT) (e a : Nat) : aT := fun x z => A x z || (decide (x = e) && decide (z = a))
theorem adA_iff {A : aT} {e a x z : Nat} : adA A e a x z = true ↔ A x z = true ∨ (x = e ∧ z = a) := by simp [adA]
theorem DA_ask {pl le lb : Nat → Nat} {br : Nat → Bool} {el be : Nat} {R : aT} {h : Nat → Option Nat} {A : aT} {e a : Nat} (hc : clo pl le lb br el be R) (D : DA pl le lb br el be R h A) (ha : h a = none) (hab : a < be) (he : e < el) (hcan : canB le lb br e a = true) (hna : A e a = false) (hup : ∀ x, x < el → canB le lb br x a = true → prB lb a x e = true → A x a = true) :
    DA pl le lb br el be R (mDrop pl le be e (va_up h a (some e))) (adA A e a) := by
  obtain ⟨d1, d2, d3, d4, d5, d6, d7⟩ := D
  have hold : ∀ x, A x a = true → prB lb a x e = true := by
    intro x hx
    have hne : x ≠ e := fun q => by rw [q, hna] at hx; cases hx
    rcases prB_tot (lb := lb) (b := a) hne with r | r
    · exact r
    · have := d3 x e a hx he hcan r
      rw [hna] at this; cases this
  have c1 : cntO (va_up h a (some e)) e be = cntO h e be + 1 := cnt_in (by rw [ha]; simp) be hab
  have c2 : ∀ x, x ≠ e → cntO (va_up h a (some e)) x be = cntO h x be := fun x hx => cnt_oth (by rw [ha]; simp) (fun q => hx (by cases q; rfl)) be
  have k2 : ∀ x b, adA A e a x b = true → x < el ∧ b < be ∧ canB le lb br x b = true := by
    intro x b hx
    rcases adA_iff.mp hx with q | ⟨rfl, rfl⟩
    · exact d2 x b q
    · exact ⟨he, hab, hcan⟩
  have k3 : ∀ x y b, adA A e a x b = true → y < el → canB le lb br y b = true → prB lb b y x = true → adA A e a y b = true := by
    intro x y b hx hy hcy hp
    rcases adA_iff.mp hx with q | ⟨rfl, rfl⟩
    · exact adA_iff.mpr (Or.inl (d3 x y b q hy hcy hp))
    · exact adA_iff.mpr (Or.inl (hup y hy hcy hp))
  -- whoever holds or asks e is refused by all whom they prefer
  have up1 : ∀ c, va_up h a (some e) c = some e → upB lb le br el R e c = true := by
    intro c hce
    refine upB_iff.mpr (fun x hx hcx hpx => ?_)
    by_cases q : c = a
    · subst q
      exact d7 x c (hup x hx hcx hpx) (by rw [ha]; simp)
    · rw [va_up_ne _ _ q] at hce
      exact d7 x c (d3 e x c (d1 c e hce) hx hcx hpx) (fun z => by rw [hce] at z; cases z; exact prB_irr hpx)
  have can1 : ∀ c, va_up h a (some e) c = some e → canB le lb br e c = true := by
    intro c hce
    by_cases q : c = a
    · subst q; exact hcan
    · rw [va_up_ne _ _ q] at hce
      exact (d2 e c (d1 c e hce)).2.2
  have g4 : ∀ b x y, va_up h a (some e) b = some x → adA A e a y b = true → y = x ∨ prB lb b y x = true := by
    intro b x y hb hy
    by_cases q : b = a
    · subst q
      rw [va_up_self] at hb
      cases hb
      rcases adA_iff.mp hy with r | ⟨r, -⟩
      · exact Or.inr (hold y r)
      · exact Or.inl r
    · rw [va_up_ne _ _ q] at hb
      rcases adA_iff.mp hy with r | ⟨-, r⟩
      · exact d4 b x y hb r
      · exact absurd r q
  have g1 : ∀ b x, va_up h a (some e) b = some x → adA A e a x b = true := by
    intro b x hb
    by_cases q : b = a
    · subst q
      rw [va_up_self] at hb
      cases hb
      exact adA_iff.mpr (Or.inr ⟨rfl, rfl⟩)
    · rw [va_up_ne _ _ q] at hb
      exact adA_iff.mpr (Or.inl (d1 b x hb))
  unfold mDrop
  by_cases hfull : pl e < cntO (va_up h a (some e)) e be
  · rw [if_pos hfull]
    obtain ⟨w, hw⟩ := lst_some (le := le) (g := va_up h a (some e)) (e := e) be (by omega)
    rw [hw]
    show DA pl le lb br el be R (va_up (va_up h a (some e)) w none) (adA A e a)
    obtain ⟨w1, w2, w3⟩ := lst_is be w hw
    have hpl : cntO h e be = pl e := by have := d6 e; omega
    have c3 := cnt_out w2 be w1
    have hh : ∀ b x, va_up (va_up h a (some e)) w none b = some x → va_up h a (some e) b = some x ∧ b ≠ w := by
      intro b x hb
      by_cases q : b = w
      · subst q; rw [va_up_self] at hb; cases hb
      · rw [va_up_ne _ _ q] at hb; exact ⟨hb, q⟩
    have hrest : ∀ c, va_up (va_up h a (some e)) w none c = some e → c < be → prE le e c w = true := by
      intro c hcx hcb
      obtain ⟨q1, q2⟩ := hh c e hcx
      rcases w3 c hcb q1 with r | r
      · exact absurd r q2
      · exact r
    have hlt : ∀ c x, va_up (va_up h a (some e)) w none c = some x → c < be := fun c x hcx => (k2 x c (g1 c x (hh c x hcx).1)).2.1
    have wA : adA A e a e w = true := g1 w e w2
    have rejw : R e w = true := by
      refine hc e w he w1 (can1 w w2) (up1 w w2) ?_
      have : cntO (va_up (va_up h a (some e)) w none) e be ≤ ctp (bet lb le br el R e w) be := cnt_ctp be (fun c hcb hce => by
        obtain ⟨q1, q2⟩ := hh c e hce
        simp only [bet, Bool.and_eq_true]
        exact ⟨⟨can1 c q1, hrest c hce hcb⟩, up1 c q1⟩)
      omega
    refine ⟨fun b x hb => g1 b x (hh b x hb).1, k2, k3, fun b x y hb hy => g4 b x y (hh b x hb).1 hy, ?_, ?_, ?_⟩
    · intro x b hx hbx
      by_cases qx : x = e
      · subst qx
        refine ⟨by omega, fun c hce => ?_⟩
        have hcb := hlt c x hce
        by_cases qb : b = w
        · subst qb; exact hrest c hce hcb
        · rw [va_up_ne _ _ qb] at hbx
          have hba : b ≠ a := fun q => by subst q; rw [va_up_self] at hbx; exact hbx rfl
          rw [va_up_ne _ _ hba] at hbx
          rcases adA_iff.mp hx with r | ⟨-, r⟩
          · have h5 := (d5 x b r hbx).2
            obtain ⟨q1, q2⟩ := hh c x hce
            by_cases qc : c = a
            · subst qc
              -- a is preferred to w, w (held before) to b
              have hwa : w ≠ c := fun q => q2 q.symm
              rw [va_up_ne _ _ hwa] at w2
              exact prE_trans (hrest c hce hcb) (h5 w w2)
            · rw [va_up_ne _ _ qc] at q1
              exact h5 c q1
          · exact absurd r hba
      · have hxb : h b ≠ some x := by
          intro z
          have hbw : b ≠ w := fun q => by
            subst q
            by_cases qa : b = a
            · subst qa; rw [ha] at z; cases z
            · rw [va_up_ne _ _ qa, z] at w2; cases w2; exact qx rfl
          have hba : b ≠ a := fun q => by subst q; rw [ha] at z; cases z
          rw [va_up_ne _ _ hbw, va_up_ne _ _ hba] at hbx
          exact hbx z
        rcases adA_iff.mp hx with r | ⟨r, -⟩
        · obtain ⟨h5, h6⟩ := d5 x b r hxb
          have c4 : cntO (va_up (va_up h a (some e)) w none) x be = cntO (va_up h a (some e)) x be := cnt_oth (by rw [w2]; intro q; cases q; exact qx rfl) (by simp) be
          refine ⟨by rw [c4, c2 x qx]; exact h5, fun c hcx => ?_⟩
          have q1 := (hh c x hcx).1
          have hca : c ≠ a := fun q => by subst q; rw [va_up_self] at q1; cases q1; exact qx rfl
          rw [va_up_ne _ _ hca] at q1
          exact h6 c q1
        · exact absurd r qx
    · intro x
      by_cases qx : x = e
      · subst qx; omega
      · have c4 : cntO (va_up (va_up h a (some e)) w none) x be = cntO (va_up h a (some e)) x be := cnt_oth (by rw [w2]; intro q; cases q; exact qx rfl) (by simp) be
        rw [c4, c2 x qx]
        exact d6 x
    · intro x b hx hbx
      by_cases q : x = e ∧ b = w
      · rw [q.1, q.2]; exact rejw
      · have hbx2 : va_up h a (some e) b ≠ some x := by
          by_cases qb : b = w
          · subst qb
            rw [w2]
            intro z
            cases z
            exact q ⟨rfl, rfl⟩
          · rw [va_up_ne _ _ qb] at hbx; exact hbx
        rcases adA_iff.mp hx with r | ⟨r1, r2⟩
        · by_cases qa : b = a
          · subst qa
            exact d7 x b r (by rw [ha]; simp)
          · rw [va_up_ne _ _ qa] at hbx2
            exact d7 x b r hbx2
        · rw [r1, r2, va_up_self] at hbx2
          exact absurd rfl hbx2
  · rw [if_neg hfull]
    refine ⟨g1, k2, k3, g4, ?_, ?_, ?_⟩
    · intro x b hx hbx
      have hba : b ≠ a ∨ x ≠ e := by
        by_cases q : b = a
        · right; intro z; subst z; subst q; rw [va_up_self] at hbx; exact hbx rfl
        · exact Or.inl q
      rcases adA_iff.mp hx with r | ⟨r1, r2⟩
      · have hxb : h b ≠ some x := by
          intro z
          by_cases q : b = a
          · subst q; rw [ha] at z; cases z
          · rw [va_up_ne _ _ q] at hbx; exact hbx z
        obtain ⟨h5, h6⟩ := d5 x b r hxb
        by_cases qx : x = e
        · subst qx; exfalso; omega
        · refine ⟨by rw [c2 x qx]; exact h5, fun c hcx => ?_⟩
          have hca : c ≠ a := fun q => by subst q; rw [va_up_self] at hcx; cases hcx; exact qx rfl
          rw [va_up_ne _ _ hca] at hcx
          exact h6 c hcx
      · rcases hba with q | q
        · exact absurd r2 q
        · exact absurd r1 q
    · intro x
      by_cases qx : x = e
      · subst qx; omega
      · rw [c2 x qx]; exact d6 x
    · intro x b hx hbx
      rcases adA_iff.mp hx with r | ⟨r1, r2⟩
      · by_cases q : b = a
        · subst q; exact d7 x b r (by rw [ha]; simp)
        · rw [va_up_ne _ _ q] at hbx; exact d7 x b r hbx
      · rw [r1, r2, va_up_self] at hbx
        exact absurd rfl hbx
/-- nobody is without an elder who could still ask one -/
def DAe (le lb : Nat → Nat) (br : Nat → Bool) (el be : Nat) (h : Nat → Option Nat) (A : aT) : Prop := ∀ b, b < be → h b = none → ∀ e, e < el → canB le lb br e b = true → A e b = true
def rjB (h : Nat → Option Nat) (A : aT) : aT := fun e b => A e b && decide (h b ≠ some e)
theorem rjB_iff {h : Nat → Option Nat} {A : aT} {e b : Nat} : rjB h A e b = true ↔ A e b = true ∧ h b ≠ some e := by simp [rjB]
/-- whoever is refused by all whom they prefer to e has asked e -/
theorem DA_at {pl le lb : Nat → Nat} {br : Nat → Bool} {el be : Nat} {R : aT} {h : Nat → Option Nat} {A : aT} {e b : Nat} (D : DA pl le lb br el be R h A) (E : DAe le lb br el be h A) (he : e < el) (hb : b < be) (hc : canB le lb br e b = true) (hu : upB lb le br el (rjB h A) e b = true) : A e b = true := by
  obtain ⟨d1, d2, d3, d4, d5, d6, d7⟩ := D
  cases hx : h b with
  | none => exact E b hb hx e he hc
  | some x =>
    by_cases q : x = e
    · subst q; exact d1 b x hx
    · rcases prB_tot (lb := lb) (b := b) q with r | r
      · have := (rjB_iff.mp (upB_iff.mp hu x (d2 x b (d1 b x hx)).1 (d2 x b (d1 b x hx)).2.2 r)).2
        exact absurd hx this
      · exact d3 x e b (d1 b x hx) he hc r
theorem DA_clo {pl le lb : Nat → Nat} {br : Nat → Bool} {el be : Nat} {R : aT} {h : Nat → Option Nat} {A : aT} (D : DA pl le lb br el be R h A) (E : DAe le lb br el be h A) : clo pl le lb br el be (rjB h A) := by
  intro e b he hb hcan hup hct
  have hA := DA_at D E he hb hcan hup
  refine rjB_iff.mpr ⟨hA, fun hbe => ?_⟩
  have D0 := D
  obtain ⟨d1, d2, d3, d4, d5, d6, d7⟩ := D
  -- all the better ones are with e: else b is not
  have all : ∀ c, c < be → bet lb le br el (rjB h A) e b c = true → h c = some e := by
    intro c hcb hc
    simp only [bet, Bool.and_eq_true] at hc
    have hAc := DA_at D0 E he hcb hc.1.1 hc.2
    by_cases q : h c = some e
    · exact q
    · exact absurd hc.1.2 (fun r => prE_asym r ((d5 e c hAc q).2 b hbe))
  have h1 : ctp (bet lb le br el (rjB h A) e b) be + 1 ≤ cntO h e be := by
    have h2 : ctp (bet lb le br el (rjB h A) e b) be ≤ cntO (va_up h b none) e be := ctp_cnt be (fun c hcb hc => by
      have hne : c ≠ b := fun q => by
        subst q
        simp only [bet, Bool.and_eq_true] at hc
        exact prE_irr hc.1.2
      rw [va_up_ne _ _ hne]
      exact all c hcb hc)
    have h3 := cnt_out hbe be hb
    omega
  have := d6 e
  omega
/-- two ends are one -/
theorem DA_one {pl le lb : Nat → Nat} {br : Nat → Bool} {el be : Nat} {h h2 : Nat → Option Nat} {A A2 : aT} (D : ∀ R, clo pl le lb br el be R → DA pl le lb br el be R h A) (D2 : ∀ R, clo pl le lb br el be R → DA pl le lb br el be R h2 A2) (T : aT) (hT : clo pl le lb br el be T) (E : DAe le lb br el be h A) (E2 : DAe le lb br el be h2 A2) : ∀ b, b < be → h b = h2 b := by
  have c1 := DA_clo (D T hT) E
  have c2 := DA_clo (D2 T hT) E2
  have r12 : ∀ e b, rjB h A e b = true → rjB h2 A2 e b = true := fun e b q => (D _ c2).2.2.2.2.2.2 e b (rjB_iff.mp q).1 (rjB_iff.mp q).2
  have r21 : ∀ e b, rjB h2 A2 e b = true → rjB h A e b = true := fun e b q => (D2 _ c1).2.2.2.2.2.2 e b (rjB_iff.mp q).1 (rjB_iff.mp q).2
  have half : ∀ (h h2 : Nat → Option Nat) (A A2 : aT), DA pl le lb br el be T h A → DA pl le lb br el be T h2 A2 → DAe le lb br el be h2 A2 → (∀ e b, rjB h A e b = true → rjB h2 A2 e b = true) → (∀ e b, rjB h2 A2 e b = true → rjB h A e b = true) → ∀ b e, h b = some e → h2 b = some e := by
    intro h h2 A A2 D D2 E2 r12 r21 b e hbe
    have hA := D.1 b e hbe
    obtain ⟨he, hb, hc⟩ := D.2.1 e b hA
    have hA2 := DA_at D2 E2 he hb hc (upB_iff.mpr (fun x hx hcx hp => r12 x b (rjB_iff.mpr ⟨D.2.2.1 e x b hA hx hcx hp, fun z => by rw [hbe] at z; cases z; exact prB_irr hp⟩)))
    by_cases q : h2 b = some e
    · exact q
    · exact absurd hbe (rjB_iff.mp (r21 e b (rjB_iff.mpr ⟨hA2, q⟩))).2
  intro b hb
  cases h1 : h b with
  | some e => exact (half h h2 A A2 (D T hT) (D2 T hT) E2 r12 r21 b e h1).symm
  | none =>
    cases h3 : h2 b with
    | none => rfl
    | some e =>
      have := half h2 h A2 A (D2 T hT) (D T hT) E r21 r12 b e h3
      rw [h1] at this
      cases this

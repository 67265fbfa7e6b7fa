section
/-! CHANGE: the class's search finds the reference's row. First the search alone. -/
theorem ffn_cong {p q : Nat → Bool} : ∀ n, (∀ k, k < n → p k = q k) → ffn p n = ffn q n
  | 0, _ => rfl
  | n + 1, h => by rw [ffn, ffn, ffn_cong n (fun k hk => h k (by omega)), h n (by omega)]
theorem cntS_cg {f g : Nat → Option Nat} : ∀ n, (∀ b, b < n → f b = g b) → cntS f n = cntS g n
  | 0, _ => rfl
  | n + 1, h => by rw [cntS, cntS, cntS_cg n (fun b hb => h b (by omega)), h n (by omega)]
theorem cntS_up {f : Nat → Option Nat} {i v : Nat} (h : f i = none) : ∀ n, i < n → cntS (va_up f i (some v)) n = cntS f n + 1
  | 0, hi => absurd hi (Nat.not_lt_zero _)
  | n + 1, hi => by
    by_cases c : i = n
    · subst c
      rw [cntS, cntS, cntS_cg (g := f) i (fun b hb => va_up_ne _ _ (by omega)), va_up_self, h]
      simp
    · rw [cntS, cntS, cntS_up h n (by omega), va_up_ne _ _ (fun z => c z.symm)]
      omega
theorem cntS_one {f : Nat → Option Nat} {i : Nat} (h : f i = none) (n : Nat) (hi : i < n) : cntS f n + 1 ≤ n := by
  have h1 := cntS_up (v := 0) h n hi
  have h2 := cntS_le (va_up f i (some 0)) n
  omega
theorem cntS_two {f : Nat → Option Nat} {i j : Nat} (h : f i = none) (h2 : f j = none) (hij : j ≠ i) (n : Nat) (hi : i < n) (hj : j < n) : cntS f n + 2 ≤ n := by
  have h3 := cntS_up (v := 0) h n hi
  have h4 : va_up f i (some 0) j = none := by rw [va_up_ne _ _ hij]; exact h2
  have h5 := cntS_one h4 n hj
  omega
def visB (f0 : Nat) (tk : Nat → Option Nat) (c : Nat) : Prop := c = f0 ∨ tk c ≠ none
def keyE (eb : Nat → Option Nat) (c : Nat) : Nat := match eb c with
  | none => c
  | some e => e * 16 + c
theorem keyE_s {eb : Nat → Option Nat} {c e : Nat} (h : eb c = some e) : keyE eb c = e * 16 + c := by simp only [keyE, h]
theorem vis_s {f0 c p : Nat} {tk : Nat → Option Nat} (h : tk c = some p) : visB f0 tk c := Or.inr (by rw [h]; simp)
def bfs (le lb : Nat → Nat) (br : Nat → Bool) (eb : Nat → Option Nat) (f0 be : Nat) (ps : Nat → Nat) (a K : Nat) (s : qT) : Prop :=
  (ps f0 = 0 ∧ s.1 f0 = none ∧ f0 < be) ∧
  (∀ c, visB f0 s.1 c → c < be ∧ ps c < s.2.2 ∧ s.2.1 (ps c) = c) ∧
  (∀ j, j < s.2.2 → visB f0 s.1 (s.2.1 j) ∧ ps (s.2.1 j) = j) ∧
  (∀ c p, s.1 c = some p → visB f0 s.1 p ∧ ps p < ps c ∧ ps p ≤ a ∧ ∃ e, eb c = some e ∧ mayM le lb br eb p e = true ∧ (ps p = a → e * 16 + c < K)) ∧
  (∀ c c' p p', s.1 c = some p → s.1 c' = some p' → ps c < ps c' → ps p ≤ ps p' ∧ (p = p' → keyE eb c < keyE eb c')) ∧
  (∀ p c e, visB f0 s.1 p → c < be → c ≠ f0 → eb c = some e → mayM le lb br eb p e = true → (ps p < a ∨ (ps p = a ∧ e * 16 + c < K)) → ∃ p', s.1 c = some p' ∧ ps p' ≤ ps p) ∧
  cntS s.1 16 + 1 = s.2.2
section BF
variable {le lb : Nat → Nat} {br : Nat → Bool} {eb : Nat → Option Nat} {f0 be : Nat}
theorem bfs_S {ps : Nat → Nat} {a K m e b : Nat} {s : qT} (B : bfs le lb br eb f0 be ps a K s) (hbe : be ≤ 16) (ha : a < s.2.2) (hm : s.2.1 a = m) (hme : mayM le lb br eb m e = true) (hK : K = e * 16 + b) (hb : b < be) :
    ∃ ps', bfs le lb br eb f0 be ps' a (K + 1) (qlS eb f0 m e b s) ∧ (∀ j, j < s.2.2 → (qlS eb f0 m e b s).2.1 j = s.2.1 j) ∧ s.2.2 ≤ (qlS eb f0 m e b s).2.2 := by
  obtain ⟨⟨b1, b1', b1''⟩, b2, b3, b4, b5, b6, b7⟩ := B
  have vm : visB f0 s.1 m := by rw [← hm]; exact (b3 a ha).1
  have pm : ps m = a := by rw [← hm]; exact (b3 a ha).2
  unfold qlS
  by_cases c : (¬ b = f0 ∧ s.1 b = none) ∧ eb b = some e ∧ s.2.2 < 16
  · rw [if_pos c]
    obtain ⟨⟨c1, c2⟩, c3, c4⟩ := c
    have nv : ∀ c, visB f0 s.1 c → c ≠ b := fun c h z => by
      subst z
      rcases h with h | h
      · exact c1 h
      · exact h c2
    have vv : ∀ c, visB f0 (va_up s.1 b (some m)) c → c = b ∨ visB f0 s.1 c := fun c h => by
      by_cases z : c = b
      · exact Or.inl z
      · right
        rcases h with h | h
        · exact Or.inl h
        · rw [va_up_ne _ _ z] at h; exact Or.inr h
    have vw : ∀ c, visB f0 s.1 c → visB f0 (va_up s.1 b (some m)) c := fun c h => by
      have hne := nv c h
      rcases h with h' | h'
      · exact Or.inl h'
      · right
        rw [va_up_ne _ _ hne]; exact h'
    refine ⟨va_up ps b s.2.2, ⟨⟨?_, ?_, b1''⟩, ?_, ?_, ?_, ?_, ?_, ?_⟩, ?_, ?_⟩
    · rw [va_up_ne _ _ (fun z => c1 z.symm)]; exact b1
    · show va_up s.1 b (some m) f0 = none
      rw [va_up_ne _ _ (fun z => c1 z.symm)]; exact b1'
    · intro c h
      show c < be ∧ va_up ps b s.2.2 c < s.2.2 + 1 ∧ va_up s.2.1 s.2.2 b (va_up ps b s.2.2 c) = c
      rcases vv c h with z | z
      · subst z
        rw [va_up_self, va_up_self]
        exact ⟨hb, Nat.lt_succ_self _, rfl⟩
      · obtain ⟨d1, d2, d3⟩ := b2 c z
        rw [va_up_ne _ _ (nv c z), va_up_ne _ _ (by omega)]
        exact ⟨d1, by omega, d3⟩
    · intro j hj
      have hj : j < s.2.2 + 1 := hj
      show visB f0 (va_up s.1 b (some m)) (va_up s.2.1 s.2.2 b j) ∧ va_up ps b s.2.2 (va_up s.2.1 s.2.2 b j) = j
      by_cases z : j = s.2.2
      · subst z
        rw [va_up_self, va_up_self]
        exact ⟨Or.inr (by rw [va_up_self]; simp), rfl⟩
      · rw [va_up_ne _ _ z]
        obtain ⟨d1, d2⟩ := b3 j (by omega)
        exact ⟨vw _ d1, by rw [va_up_ne _ _ (nv _ d1)]; exact d2⟩
    · intro c p h
      have h : va_up s.1 b (some m) c = some p := h
      show visB f0 (va_up s.1 b (some m)) p ∧ _
      by_cases z : c = b
      · subst z
        rw [va_up_self] at h
        cases h
        rw [va_up_ne _ _ (nv m vm), va_up_self, pm]
        exact ⟨vw m vm, ha, Nat.le_refl _, e, c3, hme, fun _ => by omega⟩
      · rw [va_up_ne _ _ z] at h
        obtain ⟨d1, d2, d3, e', d4, d5, d6⟩ := b4 c p h
        rw [va_up_ne _ _ (nv p d1), va_up_ne _ _ z]
        exact ⟨vw p d1, d2, d3, e', d4, d5, fun q => by have := d6 q; omega⟩
    · intro c c' p p' h h' hlt
      have h : va_up s.1 b (some m) c = some p := h
      have h' : va_up s.1 b (some m) c' = some p' := h'
      by_cases z' : c' = b
      · by_cases z : c = b
        · rw [z, z'] at hlt; exact absurd hlt (Nat.lt_irrefl _)
        · rw [va_up_ne _ _ z] at h
          rw [z', va_up_self] at h'
          cases h'
          obtain ⟨d1, d2, d3, e', d4, d5, d6⟩ := b4 c p h
          rw [va_up_ne _ _ (nv p d1), va_up_ne _ _ (nv m vm), pm]
          refine ⟨d3, fun q => ?_⟩
          subst q
          have := d6 pm
          rw [keyE_s d4, z', keyE_s c3]
          omega
      · rw [va_up_ne _ _ z'] at h'
        by_cases z : c = b
        · rw [z, va_up_self, va_up_ne _ _ z'] at hlt
          have := (b2 c' (vis_s h')).2.1
          omega
        · rw [va_up_ne _ _ z] at h
          rw [va_up_ne _ _ z, va_up_ne _ _ z'] at hlt
          rw [va_up_ne _ _ (nv p (b4 c p h).1), va_up_ne _ _ (nv p' (b4 c' p' h').1)]
          exact b5 c c' p p' h h' hlt
    · intro p c e' hp hc hcf he hmy hcase
      show ∃ p', va_up s.1 b (some m) c = some p' ∧ _
      rcases vv p hp with zp | zp
      · rw [zp, va_up_self] at hcase
        omega
      · rw [va_up_ne _ _ (nv p zp)] at hcase ⊢
        by_cases z : c = b
        · refine ⟨m, by rw [z, va_up_self], ?_⟩
          rw [va_up_ne _ _ (nv m vm), pm]
          rcases hcase with hcase | hcase
          · obtain ⟨p', q1, q2⟩ := b6 p c e' zp hc hcf he hmy (Or.inl hcase)
            rw [z, c2] at q1
            cases q1
          · omega
        · have hcase' : ps p < a ∨ (ps p = a ∧ e' * 16 + c < K) := by omega
          obtain ⟨p', d1, d2⟩ := b6 p c e' zp hc hcf he hmy hcase'
          exact ⟨p', by rw [va_up_ne _ _ z]; exact d1, by rw [va_up_ne _ _ (nv p' (b4 c p' d1).1)]; exact d2⟩
    · show cntS (va_up s.1 b (some m)) 16 + 1 = s.2.2 + 1
      rw [cntS_up c2 16 (by omega)]
      omega
    · intro j hj
      exact va_up_ne _ _ (by omega)
    · exact Nat.le_succ _
  · rw [if_neg c]
    refine ⟨ps, ⟨⟨b1, b1', b1''⟩, b2, b3, ?_, b5, ?_, b7⟩, fun _ _ => rfl, Nat.le_refl _⟩
    · intro c p h
      obtain ⟨d1, d2, d3, e', d4, d5, d6⟩ := b4 c p h
      exact ⟨d1, d2, d3, e', d4, d5, fun q => by have := d6 q; omega⟩
    · intro p c' e' hp hc hcf he hmy hcase
      by_cases z : ps p < a ∨ (ps p = a ∧ e' * 16 + c' < K)
      · exact b6 p c' e' hp hc hcf he hmy z
      · have z1 : c' = b := by omega
        have z2 : e' = e := by omega
        subst z1; subst z2
        by_cases t : s.1 c' = none
        · exfalso
          apply c
          refine ⟨⟨hcf, t⟩, he, ?_⟩
          have := cntS_two b1' t hcf 16 (by omega) (by omega)
          omega
        · obtain ⟨p', hp'⟩ := Option.ne_none_iff_exists'.mp t
          exact ⟨p', hp', by have := (b4 c' p' hp').2.2.1; omega⟩
theorem bfs_B {ps : Nat → Nat} {a m e : Nat} {s : qT} (B : bfs le lb br eb f0 be ps a (e * 16) s) (hbe : be ≤ 16) (ha : a < s.2.2) (hm : s.2.1 a = m) (hme : mayM le lb br eb m e = true) : ∀ n, n ≤ be →
    ∃ ps', bfs le lb br eb f0 be ps' a (e * 16 + n) (qlB eb f0 m e s n) ∧ (∀ j, j < s.2.2 → (qlB eb f0 m e s n).2.1 j = s.2.1 j) ∧ s.2.2 ≤ (qlB eb f0 m e s n).2.2
  | 0, _ => ⟨ps, B, fun _ _ => rfl, Nat.le_refl _⟩
  | n + 1, hn => by
    obtain ⟨ps1, B1, p1, l1⟩ := bfs_B B hbe ha hm hme n (by omega)
    obtain ⟨ps2, B2, p2, l2⟩ := bfs_S B1 hbe (by omega) ((p1 a ha).trans hm) hme rfl (by omega)
    exact ⟨ps2, B2, fun j hj => (p2 j (by omega)).trans (p1 j hj), Nat.le_trans l1 l2⟩
theorem bfs_K {ps : Nat → Nat} {a K K' m : Nat} {s : qT} (B : bfs le lb br eb f0 be ps a K s) (ha : a < s.2.2) (hm : s.2.1 a = m) (hK : K ≤ K') (h : ∀ c e, c < be → mayM le lb br eb m e = true → K ≤ e * 16 + c → e * 16 + c < K' → False) : bfs le lb br eb f0 be ps a K' s := by
  obtain ⟨b1, b2, b3, b4, b5, b6, b7⟩ := B
  refine ⟨b1, b2, b3, ?_, b5, ?_, b7⟩
  · intro c p h
    obtain ⟨d1, d2, d3, e', d4, d5, d6⟩ := b4 c p h
    exact ⟨d1, d2, d3, e', d4, d5, fun q => by have := d6 q; omega⟩
  · intro p c e hp hc hcf he hmy hcase
    by_cases z : ps p < a ∨ (ps p = a ∧ e * 16 + c < K)
    · exact b6 p c e hp hc hcf he hmy z
    · exfalso
      have z1 : ps p = a := by omega
      have z2 : p = m := by rw [← hm, ← z1]; exact (b2 p hp).2.2.symm
      rw [z2] at hmy
      exact h c e hc hmy (by omega) (by omega)
theorem bfs_E {ps : Nat → Nat} {a m : Nat} {s : qT} (B : bfs le lb br eb f0 be ps a 0 s) (hbe : be ≤ 16) (ha : a < s.2.2) (hm : s.2.1 a = m) : ∀ n,
    ∃ ps', bfs le lb br eb f0 be ps' a (n * 16) (qlE le lb br eb f0 be m s n) ∧ (∀ j, j < s.2.2 → (qlE le lb br eb f0 be m s n).2.1 j = s.2.1 j) ∧ s.2.2 ≤ (qlE le lb br eb f0 be m s n).2.2
  | 0 => ⟨ps, by rw [Nat.zero_mul]; exact B, fun _ _ => rfl, Nat.le_refl _⟩
  | n + 1 => by
    obtain ⟨ps1, B1, p1, l1⟩ := bfs_E B hbe ha hm n
    have hm1 := (p1 a ha).trans hm
    rw [qlE]
    split
    · rename_i hme
      obtain ⟨ps2, B2, p2, l2⟩ := bfs_B B1 hbe (by omega) hm1 hme be (Nat.le_refl _)
      refine ⟨ps2, bfs_K B2 (by omega) ((p2 a (by omega)).trans hm1) (by omega) (fun c e hc _ h1 h2 => by omega), fun j hj => (p2 j (by omega)).trans (p1 j hj), Nat.le_trans l1 l2⟩
    · rename_i hme
      refine ⟨ps1, bfs_K B1 (by omega) hm1 (by omega) (fun c e hc h0 h1 h2 => ?_), p1, l1⟩
      have : e = n := by omega
      subst this
      exact hme h0
theorem bfs_N {ps : Nat → Nat} {a el : Nat} {s : qT} (B : bfs le lb br eb f0 be ps a (el * 16) s) (hbe : be ≤ 16) (hel : ∀ k, ob el (eb k)) : bfs le lb br eb f0 be ps (a + 1) 0 s := by
  obtain ⟨b1, b2, b3, b4, b5, b6, b7⟩ := B
  refine ⟨b1, b2, b3, ?_, b5, ?_, b7⟩
  · intro c p h
    obtain ⟨d1, d2, d3, e', d4, d5, d6⟩ := b4 c p h
    exact ⟨d1, d2, by omega, e', d4, d5, fun q => by omega⟩
  · intro p c e hp hc hcf he hmy hcase
    have := hel c e he
    exact b6 p c e hp hc hcf he hmy (by omega)
theorem bfs_0 {tk : Nat → Option Nat} {qu : Nat → Nat} (hf : f0 < be) (hz : ∀ k, 16 ≤ k → tk k = none) : bfs le lb br eb f0 be (fun _ => 0) 0 0 (flI tk qu f0) := by
  have hn : ∀ c, (flI tk qu f0).1 c = none := fun c => by
    simp only [flI, fil]
    split
    · rfl
    · exact hz c (by omega)
  have hq : (flI tk qu f0).2.1 0 = f0 := by simp [flI, va_up]
  refine ⟨⟨rfl, hn f0, hf⟩, ?_, ?_, ?_, ?_, ?_, ?_⟩
  · intro c h
    rcases h with h | h
    · subst h; exact ⟨hf, Nat.lt_succ_self _, hq⟩
    · exact absurd (hn c) h
  · intro j hj
    have hj : j < 1 := hj
    have : j = 0 := by omega
    subst this
    exact ⟨Or.inl hq, rfl⟩
  · intro c p h; rw [hn c] at h; cases h
  · intro c c' p p' h; rw [hn c] at h; cases h
  · intro p c e hp hc hcf he hmy hcase
    omega
  · have : cntS (flI tk qu f0).1 16 = cntS (fun _ => none) 16 := cntS_cg 16 (fun b _ => hn b)
    rw [this]; rfl
/-- where the search ends -/
theorem bfs_fl {pl : Nat → Nat} {el : Nat} (hbe : be ≤ 16) (hel : ∀ k, ob el (eb k)) : ∀ (n : Nat) (s : qT) (fe : Option Nat) (ps : Nat → Nat), n ≤ 16 → bfs le lb br eb f0 be ps (16 - n) 0 s → (∀ i, i < 16 - n → i < s.2.2 → freeE pl le lb br eb f0 el (s.2.1 i) = none) →
    ∃ ps' a s', bfs le lb br eb f0 be ps' a 0 s' ∧ (∀ i, i < a → i < s'.2.2 → freeE pl le lb br eb f0 el (s'.2.1 i) = none) ∧
      ((∃ x, a < s'.2.2 ∧ freeE pl le lb br eb f0 el (s'.2.1 a) = some x ∧ flF pl le lb br eb f0 el be n s fe = (some (s'.2.1 a), s', some x)) ∨ (s'.2.2 ≤ a ∧ ∃ fe', flF pl le lb br eb f0 el be n s fe = (none, s', fe') ∧ (fe' = fe ∨ fe' = none)))
  | 0, s, fe, ps, _, B, hno => ⟨ps, 16, s, B, hno, Or.inr ⟨by have := cntS_one B.1.2.1 16 (by have := B.1.2.2; omega); have := B.2.2.2.2.2.2; omega, fe, rfl, Or.inl rfl⟩⟩
  | n + 1, s, fe, ps, hn, B, hno => by
    have e1 : 16 - (n + 1) = 15 - n := by omega
    rw [e1] at B hno
    rw [flF]
    by_cases h : 15 - n < s.2.2
    · rw [if_pos h]
      cases hf : freeE pl le lb br eb f0 el (s.2.1 (15 - n)) with
      | some x => exact ⟨ps, 15 - n, s, B, hno, Or.inl ⟨x, h, hf, rfl⟩⟩
      | none =>
        obtain ⟨ps1, B1, p1, l1⟩ := bfs_E B hbe h rfl el
        have B2 := bfs_N B1 hbe hel
        have e2 : 15 - n + 1 = 16 - n := by omega
        rw [e2] at B2
        obtain ⟨ps', a, s', k1, k2, k3⟩ := bfs_fl (pl := pl) hbe hel n _ none ps1 (by omega) B2 (fun i hi hi2 => by
          by_cases z : i = 15 - n
          · rw [z, p1 _ h]; exact hf
          · rw [p1 i (by omega)]; exact hno i (by omega) (by omega))
        refine ⟨ps', a, s', k1, k2, ?_⟩
        rcases k3 with k3 | ⟨k4, fe', k5, k6⟩
        · exact Or.inl k3
        · exact Or.inr ⟨k4, fe', k5, Or.inr (by rcases k6 with k6 | k6 <;> exact k6)⟩
    · rw [if_neg h]
      exact ⟨ps, 15 - n, s, B, hno, Or.inr ⟨by omega, fe, rfl, Or.inl rfl⟩⟩
end BF
end

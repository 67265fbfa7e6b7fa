section
/-! CHANGE: both move the same row. -/
def dpt (tk : Nat → Option Nat) : Nat → Nat → Nat
  | 0, _ => 0
  | n + 1, c => match tk c with
    | none => 0
    | some p => dpt tk n p + 1
theorem dpt_n {tk : Nat → Option Nat} {c : Nat} (h : tk c = none) : ∀ n, dpt tk n c = 0
  | 0 => rfl
  | n + 1 => by simp only [dpt, h]
theorem dpt_s {tk : Nat → Option Nat} {c p : Nat} (h : tk c = some p) (n : Nat) : dpt tk (n + 1) c = dpt tk n p + 1 := by simp only [dpt, h]
def anc (tk : Nat → Option Nat) (c : Nat) : Nat → Nat
  | 0 => c
  | n + 1 => match tk (anc tk c n) with
    | none => anc tk c n
    | some p => p
theorem anc_s {tk : Nat → Option Nat} {c n p : Nat} (h : tk (anc tk c n) = some p) : anc tk c (n + 1) = p := by simp only [anc, h]
def vlF (eb : Nat → Option Nat) (pa : Nat → Nat) (x : Nat) : Nat → Option Nat
  | 0 => some x
  | i + 1 => eb (pa i)
def nwF (eb : Nat → Option Nat) (pa : Nat → Nat) (x : Nat) : Nat → (Nat → Option Nat) → Nat → Option Nat
  | 0, g => va_up g (pa 0) (some x)
  | t + 1, g => nwF eb pa x t (va_up g (pa (t + 1)) (eb (pa t)))
theorem nw_at {eb : Nat → Option Nat} {pa : Nat → Nat} {x : Nat} : ∀ (t : Nat) (g : Nat → Option Nat), (∀ i j, i ≤ t → j ≤ t → pa i = pa j → i = j) → (∀ i, i ≤ t → nwF eb pa x t g (pa i) = vlF eb pa x i) ∧ (∀ c, (∀ i, i ≤ t → c ≠ pa i) → nwF eb pa x t g c = g c)
  | 0, g, _ => ⟨fun i hi => by
      have : i = 0 := by omega
      subst this
      exact va_up_self _ _ _, fun c hc => va_up_ne _ _ (hc 0 (Nat.le_refl _))⟩
  | t + 1, g, hj => by
    obtain ⟨h1, h2⟩ := nw_at (eb := eb) (x := x) t (va_up g (pa (t + 1)) (eb (pa t))) (fun i j hi hk => hj i j (by omega) (by omega))
    refine ⟨fun i hi => ?_, fun c hc => ?_⟩
    · by_cases z : i = t + 1
      · subst z
        rw [nwF, h2 _ (fun j hk z => by have := hj _ _ (Nat.le_refl _) (by omega) z; omega), va_up_self]
        rfl
      · exact h1 i (by omega)
    · rw [nwF, h2 c (fun i hi => hc i (by omega)), va_up_ne _ _ (hc _ (Nat.le_refl _))]
theorem mv_none {tk : Nat → Option Nat} {g : Nat → Option Nat} {to : Option Nat} {k : Nat} : ∀ n, mvF tk n g none to k = (g, k)
  | 0 => rfl
  | _ + 1 => rfl
theorem mv_at {tk eb : Nat → Option Nat} {pa : Nat → Nat} {L : Nat} (htk : ∀ i, i < L → tk (pa i) = some (pa (i + 1))) (hend : tk (pa L) = none) (hj : ∀ i j, i ≤ L → j ≤ L → pa i = pa j → i = j) : ∀ (d t n kk : Nat) (f : Nat → Option Nat) (to : Option Nat), t + d = L → d + 1 ≤ n → (∀ i, t ≤ i → i ≤ L → f (pa i) = eb (pa i)) →
    (mvF tk n f (some (pa t)) to kk).2 = kk + d + 1 ∧ (mvF tk n f (some (pa t)) to kk).1 (pa t) = to ∧ (∀ i, t ≤ i → i < L → (mvF tk n f (some (pa t)) to kk).1 (pa (i + 1)) = eb (pa i)) ∧ (∀ c, (∀ i, t ≤ i → i ≤ L → c ≠ pa i) → (mvF tk n f (some (pa t)) to kk).1 c = f c)
  | 0, t, n, kk, f, to, hd, hn, hf => by
    obtain ⟨n', rfl⟩ : ∃ n', n = n' + 1 := ⟨n - 1, by omega⟩
    have e : t = L := by omega
    subst e
    rw [mvF, hend, mv_none]
    exact ⟨rfl, va_up_self _ _ _, fun i h1 h2 => by omega, fun c hc => va_up_ne _ _ (hc _ (Nat.le_refl _) (Nat.le_refl _))⟩
  | d + 1, t, n, kk, f, to, hd, hn, hf => by
    obtain ⟨n', rfl⟩ : ∃ n', n = n' + 1 := ⟨n - 1, by omega⟩
    rw [mvF, htk t (by omega)]
    obtain ⟨h1, h2, h3, h4⟩ := mv_at (eb := eb) htk hend hj d (t + 1) n' (kk + 1) (va_up f (pa t) to) (f (pa t)) (by omega) (by omega) (fun i hi hi2 => by
      rw [va_up_ne _ _ (fun z => by have := hj _ _ hi2 (by omega) z; omega)]
      exact hf i (by omega) hi2)
    refine ⟨by rw [h1]; omega, ?_, ?_, ?_⟩
    · rw [h4 _ (fun i hi hi2 z => by have := hj _ _ (by omega) hi2 z; omega), va_up_self]
    · intro i hi hi2
      by_cases z : i = t
      · subst z
        rw [h2]
        exact hf _ (Nat.le_refl _) (by omega)
      · exact h3 i (by omega) hi2
    · intro c hc
      rw [h4 c (fun i hi hi2 => hc i (by omega) hi2), va_up_ne _ _ (hc t (Nat.le_refl _) (by omega))]
/-- what is used of the reference's steps -/
def spH (pl le lb : Nat → Nat) (br : Nat → Bool) (eb : Nat → Option Nat) (f0 el be : Nat) (sp : Nat → Nat) : Prop :=
  (∀ c, c < be → sp c = 1000 ∨ (1 ≤ sp c ∧ sp c ≤ be)) ∧
  (∀ c, c < be → eb c ≠ none → (sp c = 1 ↔ freeE pl le lb br eb f0 el c ≠ none)) ∧
  (∀ c n, c < be → n + 2 < 1000 → sp c = n + 2 → ∃ c' g, c' < be ∧ eb c' = some g ∧ sp c' = n + 1 ∧ mayM le lb br eb c g = true) ∧
  (∀ c c' g n, c < be → c' < be → n + 1 ≤ be - 1 → eb c ≠ none → eb c' = some g → mayM le lb br eb c g = true → sp c' = n + 1 → sp c ≤ n + 2)
section CH
variable {pl le lb : Nat → Nat} {br : Nat → Bool} {eb : Nat → Option Nat} {f0 el be : Nat} {ps : Nat → Nat} {a K : Nat} {s : qT} {sp : Nat → Nat}
theorem dp_st (B : bfs le lb br eb f0 be ps a K s) : ∀ n c, ps c ≤ n → dpt s.1 (n + 1) c = dpt s.1 n c
  | 0, c, h => by
    cases hc : s.1 c with
    | none => rw [dpt_n hc, dpt_n hc]
    | some p => have := (B.2.2.2.1 c p hc).2.1; omega
  | n + 1, c, h => by
    cases hc : s.1 c with
    | none => rw [dpt_n hc, dpt_n hc]
    | some p => rw [dpt_s hc, dpt_s hc, dp_st B n p (by have := (B.2.2.2.1 c p hc).2.1; omega)]
theorem dp_le (B : bfs le lb br eb f0 be ps a K s) : ∀ n c, dpt s.1 n c ≤ ps c
  | 0, c => Nat.zero_le _
  | n + 1, c => by
    cases hc : s.1 c with
    | none => rw [dpt_n hc]; exact Nat.zero_le _
    | some p =>
      have := (B.2.2.2.1 c p hc).2.1
      have := dp_le B n p
      rw [dpt_s hc]; omega
theorem ps_inj (B : bfs le lb br eb f0 be ps a K s) {c c' : Nat} (h : visB f0 s.1 c) (h' : visB f0 s.1 c') (e : ps c = ps c') : c = c' := by
  rw [← (B.2.1 c h).2.2, ← (B.2.1 c' h').2.2, e]
theorem dp_mono (B : bfs le lb br eb f0 be ps a K s) : ∀ n c c', visB f0 s.1 c → visB f0 s.1 c' → ps c ≤ ps c' → dpt s.1 n c ≤ dpt s.1 n c'
  | 0, c, c', _, _, _ => Nat.le_refl _
  | n + 1, c, c', h, h', hl => by
    cases hc : s.1 c with
    | none => rw [dpt_n hc]; exact Nat.zero_le _
    | some p =>
      have hp := (B.2.2.2.1 c p hc).2.1
      cases hc' : s.1 c' with
      | none =>
        rcases h' with h' | h'
        · rw [h', B.1.1] at hl; omega
        · exact absurd hc' h'
      | some p' =>
        by_cases z : ps c = ps c'
        · rw [ps_inj B h h' z]; exact Nat.le_refl _
        · have := (B.2.2.2.2.1 c c' p p' hc hc' (by omega)).1
          rw [dpt_s hc, dpt_s hc']
          exact Nat.succ_le_succ (dp_mono B n p p' (B.2.2.2.1 c p hc).1 (B.2.2.2.1 c' p' hc').1 this)
theorem qd_be (B : bfs le lb br eb f0 be ps a K s) (hbe : be ≤ 16) : s.2.2 ≤ be := by
  have h1 := cntS_one B.1.2.1 be B.1.2.2
  have h2 : ∀ b, be ≤ b → s.1 b = none := fun b hb => by
    cases hc : s.1 b with
    | none => rfl
    | some p => have := (B.2.1 b (vis_s hc)).1; omega
  have h3 := cntS_end h2 (16 - be)
  rw [show be + (16 - be) = 16 by omega] at h3
  have := B.2.2.2.2.2.2
  omega
theorem dp_s (B : bfs le lb br eb f0 be ps a K s) (hbe : be ≤ 16) {c p : Nat} (h : s.1 c = some p) : dpt s.1 16 c = dpt s.1 16 p + 1 := by
  have h1 := (B.2.1 p (B.2.2.2.1 c p h).1).2.1
  have h2 := qd_be B hbe
  rw [dpt_s h, dp_st B 15 p (by omega)]
theorem vis_eb (B : bfs le lb br eb f0 be ps a K s) (hf : eb f0 ≠ none) {c : Nat} (h : visB f0 s.1 c) : eb c ≠ none := by
  cases hc : s.1 c with
  | none =>
    rcases h with h | h
    · rw [h]; exact hf
    · exact absurd hc h
  | some p =>
    obtain ⟨-, -, -, e, h1, -⟩ := B.2.2.2.1 c p hc
    rw [h1]; simp
theorem ch_none (B : bfs le lb br eb f0 be ps a K s) (H : spH pl le lb br eb f0 el be sp) (hf : eb f0 ≠ none) (hq : s.2.2 ≤ a) (hno : ∀ i, i < a → i < s.2.2 → freeE pl le lb br eb f0 el (s.2.1 i) = none) : ∀ n c, visB f0 s.1 c → sp c = n + 1 → n + 1 < 1000 → False
  | 0, c, hv, h, _ => by
    obtain ⟨v1, v2, v3⟩ := B.2.1 c hv
    have h1 := (H.2.1 c v1 (vis_eb B hf hv)).mp h
    rw [← v3] at h1
    exact h1 (hno _ (by omega) v2)
  | n + 1, c, hv, h, hn => by
    obtain ⟨v1, v2, v3⟩ := B.2.1 c hv
    obtain ⟨c', g, h1, h2, h3, h4⟩ := H.2.2.1 c n v1 hn h
    refine ch_none B H hf hq hno n c' ?_ h3 (by omega)
    by_cases z : c' = f0
    · exact Or.inl z
    · obtain ⟨p', h5, -⟩ := B.2.2.2.2.2.1 c c' g hv h1 z h2 h4 (Or.inl (by omega))
      exact vis_s h5
theorem anc_ok (B : bfs le lb br eb f0 be ps a K s) (hbe : be ≤ 16) (ha : a < s.2.2) : ∀ t, t ≤ dpt s.1 16 (s.2.1 a) → visB f0 s.1 (anc s.1 (s.2.1 a) t) ∧ dpt s.1 16 (anc s.1 (s.2.1 a) t) + t = dpt s.1 16 (s.2.1 a) ∧ ps (anc s.1 (s.2.1 a) t) ≤ a
  | 0, _ => ⟨(B.2.2.1 a ha).1, rfl, Nat.le_of_eq (B.2.2.1 a ha).2⟩
  | t + 1, ht => by
    obtain ⟨h1, h2, h3⟩ := anc_ok B hbe ha t (by omega)
    cases hc : s.1 (anc s.1 (s.2.1 a) t) with
    | none => rw [dpt_n hc] at h2; omega
    | some p =>
      rw [anc_s hc]
      obtain ⟨q1, q2, q3, -⟩ := B.2.2.2.1 _ p hc
      have := dp_s B hbe hc
      exact ⟨q1, by omega, by omega⟩
theorem anc_tk (B : bfs le lb br eb f0 be ps a K s) (hbe : be ≤ 16) (ha : a < s.2.2) {t : Nat} (ht : t < dpt s.1 16 (s.2.1 a)) : s.1 (anc s.1 (s.2.1 a) t) = some (anc s.1 (s.2.1 a) (t + 1)) := by
  obtain ⟨h1, h2, h3⟩ := anc_ok B hbe ha t (by omega)
  cases hc : s.1 (anc s.1 (s.2.1 a) t) with
  | none => rw [dpt_n hc] at h2; omega
  | some p => rw [anc_s hc]
theorem anc_end (B : bfs le lb br eb f0 be ps a K s) (hbe : be ≤ 16) (ha : a < s.2.2) : s.1 (anc s.1 (s.2.1 a) (dpt s.1 16 (s.2.1 a))) = none ∧ anc s.1 (s.2.1 a) (dpt s.1 16 (s.2.1 a)) = f0 := by
  obtain ⟨h1, h2, h3⟩ := anc_ok B hbe ha _ (Nat.le_refl _)
  have hc : s.1 (anc s.1 (s.2.1 a) (dpt s.1 16 (s.2.1 a))) = none := by
    cases hc : s.1 (anc s.1 (s.2.1 a) (dpt s.1 16 (s.2.1 a))) with
    | none => rfl
    | some p => have := dp_s B hbe hc; omega
  refine ⟨hc, ?_⟩
  rcases h1 with h1 | h1
  · exact h1
  · exact absurd hc h1
theorem anc_inj (B : bfs le lb br eb f0 be ps a K s) (hbe : be ≤ 16) (ha : a < s.2.2) (i j : Nat) (hi : i ≤ dpt s.1 16 (s.2.1 a)) (hj : j ≤ dpt s.1 16 (s.2.1 a)) (e : anc s.1 (s.2.1 a) i = anc s.1 (s.2.1 a) j) : i = j := by
  have h1 := (anc_ok B hbe ha i hi).2.1
  have h2 := (anc_ok B hbe ha j hj).2.1
  rw [e] at h1
  omega
theorem ch_lo (B : bfs le lb br eb f0 be ps a K s) (hbe : be ≤ 16) (H : spH pl le lb br eb f0 el be sp) (hf : eb f0 ≠ none) (ha : a < s.2.2) (hno : ∀ i, i < a → i < s.2.2 → freeE pl le lb br eb f0 el (s.2.1 i) = none) : ∀ n c, visB f0 s.1 c → sp c = n + 1 → n + 1 < 1000 → dpt s.1 16 (s.2.1 a) ≤ n + dpt s.1 16 c := by
  have far : ∀ c, visB f0 s.1 c → ¬ ps c < a → dpt s.1 16 (s.2.1 a) ≤ dpt s.1 16 c := fun c hv h => dp_mono B 16 _ _ (B.2.2.1 a ha).1 hv (by rw [(B.2.2.1 a ha).2]; omega)
  intro n
  induction n with
  | zero =>
    intro c hv h _
    obtain ⟨v1, v2, v3⟩ := B.2.1 c hv
    have h1 := (H.2.1 c v1 (vis_eb B hf hv)).mp h
    have := far c hv (fun q => by rw [← v3] at h1; exact h1 (hno _ q v2))
    omega
  | succ n ih =>
    intro c hv h hn
    by_cases q : ps c < a
    · obtain ⟨v1, v2, v3⟩ := B.2.1 c hv
      obtain ⟨c', g, h1, h2, h3, h4⟩ := H.2.2.1 c n v1 hn h
      by_cases z : c' = f0
      · have h5 := ih c' (Or.inl z) h3 (by omega)
        rw [z, dpt_n B.1.2.1] at h5
        omega
      · obtain ⟨p', h5, h6⟩ := B.2.2.2.2.2.1 c c' g hv h1 z h2 h4 (Or.inl q)
        have h7 := ih c' (vis_s h5) h3 (by omega)
        rw [dp_s B hbe h5] at h7
        have h8 := dp_mono B 16 p' c (B.2.2.2.1 c' p' h5).1 hv h6
        omega
    · have := far c hv q
      omega
theorem ch_lt (B : bfs le lb br eb f0 be ps a K s) (hbe : be ≤ 16) (H : spH pl le lb br eb f0 el be sp) (hf : eb f0 ≠ none) (ha : a < s.2.2) (hno : ∀ i, i < a → i < s.2.2 → freeE pl le lb br eb f0 el (s.2.1 i) = none) : ∀ t, t ≤ dpt s.1 16 (s.2.1 a) → ∀ c, visB f0 s.1 c → ps c < ps (anc s.1 (s.2.1 a) t) → ∀ m, sp c = m + 1 → m + 1 < 1000 → t < m := by
  have goal : ∀ c, visB f0 s.1 c → ps c < a → sp c ≠ 1 := fun c hv q h => by
    obtain ⟨v1, v2, v3⟩ := B.2.1 c hv
    have h1 := (H.2.1 c v1 (vis_eb B hf hv)).mp h
    rw [← v3] at h1
    exact h1 (hno _ q v2)
  intro t
  induction t with
  | zero =>
    intro ht c hv hlt m hm _
    have h3 := (anc_ok B hbe ha 0 ht).2.2
    have := goal c hv (by omega)
    omega
  | succ t ih =>
    intro ht c hv hlt m hm hm2
    obtain ⟨h1, h2, h3⟩ := anc_ok B hbe ha (t + 1) ht
    have h4 := goal c hv (by omega)
    obtain ⟨m', rfl⟩ : ∃ m', m = m' + 1 := ⟨m - 1, by omega⟩
    obtain ⟨v1, v2, v3⟩ := B.2.1 c hv
    obtain ⟨c', g, g1, g2, g3, g4⟩ := H.2.2.1 c m' v1 hm2 hm
    by_cases z : c' = f0
    · have h5 := ch_lo B hbe H hf ha hno m' c' (Or.inl z) g3 (by omega)
      rw [z, dpt_n B.1.2.1] at h5
      omega
    · obtain ⟨p', h5, h6⟩ := B.2.2.2.2.2.1 c c' g hv g1 z g2 g4 (Or.inl (by omega))
      have hk := anc_tk B hbe ha (t := t) (by omega)
      have h7 : ps c' < ps (anc s.1 (s.2.1 a) t) := by
        rcases Nat.lt_trichotomy (ps c') (ps (anc s.1 (s.2.1 a) t)) with q | q | q
        · exact q
        · have := ps_inj B (vis_s h5) (vis_s hk) q
          rw [this, hk] at h5
          cases h5
          omega
        · have := (B.2.2.2.2.1 _ _ _ _ hk h5 q).1
          omega
      have := ih (by omega) c' (vis_s h5) h7 m' g3 (by omega)
      omega
theorem ch_sp (B : bfs le lb br eb f0 be ps a K s) (hbe : be ≤ 16) (H : spH pl le lb br eb f0 el be sp) (hf : eb f0 ≠ none) (ha : a < s.2.2) (hno : ∀ i, i < a → i < s.2.2 → freeE pl le lb br eb f0 el (s.2.1 i) = none) (hyes : freeE pl le lb br eb f0 el (s.2.1 a) ≠ none) : ∀ t, t ≤ dpt s.1 16 (s.2.1 a) → sp (anc s.1 (s.2.1 a) t) = t + 1
  | 0, _ => (H.2.1 _ (B.2.1 _ (B.2.2.1 a ha).1).1 (vis_eb B hf (B.2.2.1 a ha).1)).mpr hyes
  | t + 1, ht => by
    have ih := ch_sp B hbe H hf ha hno hyes t (by omega)
    have hk := anc_tk B hbe ha (t := t) (by omega)
    obtain ⟨q1, q2, q3, e, q4, q5, -⟩ := B.2.2.2.1 _ _ hk
    have hq := qd_be B hbe
    have hd := dp_le B 16 (s.2.1 a)
    rw [(B.2.2.1 a ha).2] at hd
    have h1 := H.2.2.2 _ _ e t (B.2.1 _ q1).1 (B.2.1 _ (vis_s hk)).1 (by omega) (vis_eb B hf q1) q4 q5 ih
    have h2 := H.1 _ (B.2.1 _ q1).1
    obtain ⟨m, hm⟩ : ∃ m, sp (anc s.1 (s.2.1 a) (t + 1)) = m + 1 := ⟨sp (anc s.1 (s.2.1 a) (t + 1)) - 1, by omega⟩
    have h3 := ch_lo B hbe H hf ha hno m _ q1 hm (by omega)
    have h4 := (anc_ok B hbe ha (t + 1) ht).2.1
    omega
theorem ch_key (B : bfs le lb br eb f0 be ps a K s) (hbe : be ≤ 16) (H : spH pl le lb br eb f0 el be sp) (hf : eb f0 ≠ none) (ha : a < s.2.2) (hno : ∀ i, i < a → i < s.2.2 → freeE pl le lb br eb f0 el (s.2.1 i) = none) (hyes : freeE pl le lb br eb f0 el (s.2.1 a) ≠ none) {t c e : Nat} (ht : t + 1 ≤ dpt s.1 16 (s.2.1 a)) (hc : c < be) (he : eb c = some e) (hm : mayM le lb br eb (anc s.1 (s.2.1 a) (t + 1)) e = true) (hs : sp c = t + 1) (hk : keyE eb c < keyE eb (anc s.1 (s.2.1 a) t)) : False := by
  have hq := qd_be B hbe
  have hd := dp_le B 16 (s.2.1 a)
  rw [(B.2.2.1 a ha).2] at hd
  have hcf : c ≠ f0 := fun z => by
    have h1 := ch_sp B hbe H hf ha hno hyes _ (Nat.le_refl _)
    rw [(anc_end B hbe ha).2, ← z] at h1
    omega
  have htk := anc_tk B hbe ha (t := t) (by omega)
  obtain ⟨q1, q2, q3, -⟩ := B.2.2.2.1 _ _ htk
  have h3 := (anc_ok B hbe ha t (by omega)).2.2
  obtain ⟨p', h5, h6⟩ := B.2.2.2.2.2.1 _ c e q1 hc hcf he hm (Or.inl (by omega))
  have hlt : ps c < ps (anc s.1 (s.2.1 a) t) := by
    rcases Nat.lt_trichotomy (ps c) (ps (anc s.1 (s.2.1 a) t)) with q | q | q
    · exact q
    · have := ps_inj B (vis_s h5) (vis_s htk) q
      rw [this] at hk
      exact absurd hk (Nat.lt_irrefl _)
    · obtain ⟨w1, w2⟩ := B.2.2.2.2.1 _ _ _ _ htk h5 q
      have := w2 (ps_inj B q1 (B.2.2.2.1 _ _ h5).1 (by omega))
      omega
  have := ch_lt B hbe H hf ha hno t (by omega) c (vis_s h5) hlt t hs (by omega)
  omega
/-- the reference's row is the class's -/
theorem ch_run {b1 : Nat → Bool} {fr : Nat → Bool} {x : Nat} (B : bfs le lb br eb f0 be ps a K s) (hbe : be ≤ 16) (hob : ∀ k, ob el (eb k)) (H : spH pl le lb br eb f0 el be sp) (hf : eb f0 ≠ none) (ha : a < s.2.2) (hno : ∀ i, i < a → i < s.2.2 → freeE pl le lb br eb f0 el (s.2.1 i) = none) (hyes : freeE pl le lb br eb f0 el (s.2.1 a) = some x)
    (hmy : ∀ b e, b < be → mayM le lb b1 eb b e = mayM le lb br eb b e) (hfr : ∀ e, e < el → fr e = frB pl eb f0 e) : ∀ t, t ≤ dpt s.1 16 (s.2.1 a) → ∀ g : Nat → Option Nat, (∀ c, c < be → sp c ≤ t + 1 → g c = eb c) → chF le lb b1 sp fr el be (t + 1) g (some (anc s.1 (s.2.1 a) t)) = nwF eb (anc s.1 (s.2.1 a)) x t g := by
  have hyes' : freeE pl le lb br eb f0 el (s.2.1 a) ≠ none := by rw [hyes]; simp
  have hsp := ch_sp B hbe H hf ha hno hyes'
  have hbb : ∀ t, t ≤ dpt s.1 16 (s.2.1 a) → anc s.1 (s.2.1 a) t < be := fun t ht => (B.2.1 _ (anc_ok B hbe ha t ht).1).1
  intro t
  induction t with
  | zero =>
    intro ht g hg
    have h0 := hbb 0 ht
    have hff : ffn (tkB le lb b1 g sp fr be (anc s.1 (s.2.1 a) 0) 1) el = some x := by
      rw [← hyes]
      refine ffn_cong el (fun e he => ?_)
      simp only [tkB, if_true]
      rw [hfr e he, mayM_g (hg _ h0 (by rw [hsp 0 ht]; exact Nat.le_refl _)), hmy _ _ h0]
      rfl
    rw [ch_st (Nat.le_refl _) hff]
    rfl
  | succ t ih =>
    intro ht g hg
    have h0 := hbb (t + 1) ht
    have h1 := hbb t (by omega)
    have htk := anc_tk B hbe ha (t := t) (by omega)
    obtain ⟨q1, q2, q3, e, q4, q5, -⟩ := B.2.2.2.1 _ _ htk
    have hgb : g (anc s.1 (s.2.1 a) (t + 1)) = eb (anc s.1 (s.2.1 a) (t + 1)) := hg _ h0 (by rw [hsp _ ht]; exact Nat.le_refl _)
    have hgt : g (anc s.1 (s.2.1 a) t) = some e := (hg _ h1 (by rw [hsp t (by omega)]; omega)).trans q4
    have hmm : ∀ e', mayM le lb b1 g (anc s.1 (s.2.1 a) (t + 1)) e' = mayM le lb br eb (anc s.1 (s.2.1 a) (t + 1)) e' := fun e' => by rw [mayM_g hgb, hmy _ _ h0]
    have hnx : nxP g sp e (t + 1 + 1) (anc s.1 (s.2.1 a) t) = true := by
      simp only [nxP, hgt, hsp t (by omega)]
      simp
    have hff : ffn (tkB le lb b1 g sp fr be (anc s.1 (s.2.1 a) (t + 1)) (t + 1 + 1)) el = some e := by
      refine ffn_uni (hob _ _ q4) ?_ ?_
      · simp only [tkB, if_neg (show ¬ t + 1 + 1 = 1 by omega), hmm, q5, Bool.true_and]
        exact anyN_iff.mpr ⟨_, h1, hnx⟩
      · intro e' he'
        cases hc : tkB le lb b1 g sp fr be (anc s.1 (s.2.1 a) (t + 1)) (t + 1 + 1) e' with
        | false => rfl
        | true =>
          exfalso
          simp only [tkB, if_neg (show ¬ t + 1 + 1 = 1 by omega), hmm, Bool.and_eq_true] at hc
          obtain ⟨c1, c2⟩ := hc
          obtain ⟨c, hcb, c3⟩ := anyN_iff.mp c2
          simp only [nxP, Bool.and_eq_true, decide_eq_true_eq] at c3
          obtain ⟨c4, c5⟩ := c3
          have c6 : eb c = some e' := (hg c hcb (by omega)).symm.trans c4
          have := hob _ _ q4
          exact ch_key B hbe H hf ha hno hyes' ht hcb c6 c1 (by omega) (by rw [keyE_s c6, keyE_s q4]; omega)
    have hnc : nxC g sp be e (t + 1 + 1) = some (anc s.1 (s.2.1 a) t) := by
      rw [nxC, if_neg (by omega)]
      refine ffn_uni h1 hnx ?_
      intro c hc
      cases h9 : nxP g sp e (t + 1 + 1) c with
      | false => rfl
      | true =>
        exfalso
        simp only [nxP, Bool.and_eq_true, decide_eq_true_eq] at h9
        obtain ⟨c4, c5⟩ := h9
        have c6 : eb c = some e := (hg c (by omega) (by omega)).symm.trans c4
        exact ch_key B hbe H hf ha hno hyes' ht (by omega) c6 q5 (by omega) (by rw [keyE_s c6, keyE_s q4]; omega)
    rw [ch_st (by omega) hff, hnc, Nat.add_sub_cancel, ih (by omega) _ (fun c hc hs => ?_), nwF, q4]
    rw [va_up_ne _ _ (fun z => by rw [z, hsp _ ht] at hs; omega)]
    exact hg c hc (by omega)
theorem ch_eq {b1 : Nat → Bool} {fr : Nat → Bool} {x : Nat} {gi : Nat → Option Nat} (B : bfs le lb br eb f0 be ps a K s) (hbe : be ≤ 16) (hob : ∀ k, ob el (eb k)) (H : spH pl le lb br eb f0 el be sp) (hf : eb f0 ≠ none) (ha : a < s.2.2) (hno : ∀ i, i < a → i < s.2.2 → freeE pl le lb br eb f0 el (s.2.1 i) = none) (hyes : freeE pl le lb br eb f0 el (s.2.1 a) = some x)
    (hmy : ∀ b e, b < be → mayM le lb b1 eb b e = mayM le lb br eb b e) (hfr : ∀ e, e < el → fr e = frB pl eb f0 e) (hg : ∀ b, b < be → gi b = eb b) :
    sp f0 = (mvF s.1 16 eb (some (s.2.1 a)) (some x) 0).2 ∧ sp f0 ≠ 1000 ∧ (∀ b, b < be → chF le lb b1 sp fr el be (sp f0) gi (some f0) b = (mvF s.1 16 eb (some (s.2.1 a)) (some x) 0).1 b) ∧ (∀ b, be ≤ b → (mvF s.1 16 eb (some (s.2.1 a)) (some x) 0).1 b = eb b) ∧ (∀ k, ob el ((mvF s.1 16 eb (some (s.2.1 a)) (some x) 0).1 k)) := by
  have hyes' : freeE pl le lb br eb f0 el (s.2.1 a) ≠ none := by rw [hyes]; simp
  have hq := qd_be B hbe
  have hd := dp_le B 16 (s.2.1 a)
  rw [(B.2.2.1 a ha).2] at hd
  have hsp := ch_sp B hbe H hf ha hno hyes' _ (Nat.le_refl _)
  have hend := anc_end B hbe ha
  rw [hend.2] at hsp
  have hrun := ch_run B hbe hob H hf ha hno hyes hmy hfr _ (Nat.le_refl _) gi (fun c hc _ => hg c hc)
  rw [hend.2, ← hsp] at hrun
  have hinj := anc_inj B hbe ha
  obtain ⟨n1, n2⟩ := nw_at (eb := eb) (x := x) _ gi hinj
  obtain ⟨m1, m2, m3, m4⟩ := mv_at (eb := eb) (pa := anc s.1 (s.2.1 a)) (L := dpt s.1 16 (s.2.1 a)) (fun i hi => anc_tk B hbe ha hi) hend.1 hinj (dpt s.1 16 (s.2.1 a)) 0 16 0 eb (some x) (by omega) (by omega) (fun _ _ _ => rfl)
  have ha0 : anc s.1 (s.2.1 a) 0 = s.2.1 a := rfl
  rw [ha0] at m1 m2 m3 m4
  have hx : x < el := ffn_ob _ _ _ hyes
  have hbb : ∀ t, t ≤ dpt s.1 16 (s.2.1 a) → anc s.1 (s.2.1 a) t < be := fun t ht => (B.2.1 _ (anc_ok B hbe ha t ht).1).1
  have mv : ∀ i, i ≤ dpt s.1 16 (s.2.1 a) → (mvF s.1 16 eb (some (s.2.1 a)) (some x) 0).1 (anc s.1 (s.2.1 a) i) = vlF eb (anc s.1 (s.2.1 a)) x i := fun i hi => by
    cases i with
    | zero => exact m2
    | succ i => exact m3 i (Nat.zero_le _) (by omega)
  refine ⟨by rw [hsp, m1]; omega, by omega, ?_, ?_, ?_⟩
  · intro b hb
    rw [hrun]
    by_cases z : ∃ i, i ≤ dpt s.1 16 (s.2.1 a) ∧ b = anc s.1 (s.2.1 a) i
    · obtain ⟨i, hi, rfl⟩ := z
      rw [n1 i hi, mv i hi]
    · rw [n2 b (fun i hi e => z ⟨i, hi, e⟩), m4 b (fun i _ hi e => z ⟨i, hi, e⟩), hg b hb]
  · intro b hb
    exact m4 b (fun i _ hi e => by have := hbb i hi; omega)
  · intro k
    by_cases z : ∃ i, i ≤ dpt s.1 16 (s.2.1 a) ∧ k = anc s.1 (s.2.1 a) i
    · obtain ⟨i, hi, rfl⟩ := z
      rw [mv i hi]
      cases i with
      | zero => exact ob_s hx
      | succ i => exact hob _
    · rw [m4 k (fun i _ hi e => z ⟨i, hi, e⟩)]
      exact hob k
end CH
theorem chF_ob {le lb : Nat → Nat} {br : Nat → Bool} {sp : Nat → Nat} {fr : Nat → Bool} {el be : Nat} (hel : el ≤ 12) : ∀ (n : Nat) (g : Nat → Option Nat) (nw : Option Nat), (∀ k, ob 12 (g k)) → ∀ k, ob 12 (chF le lb br sp fr el be n g nw k)
  | 0, g, nw, h, k => h k
  | n + 1, g, none, h, k => h k
  | n + 1, g, some b, h, k => by
    show ob 12 ((match ffn (tkB le lb br g sp fr be b (n + 1)) el with
      | none => g
      | some to => chF le lb br sp fr el be n (va_up g b (some to)) (nxC g sp be to (n + 1))) k)
    cases ht : ffn (tkB le lb br g sp fr be b (n + 1)) el with
    | none => exact h k
    | some to => exact chF_ob hel n _ _ (ob_up h (ob_s (by have := ffn_ob _ _ _ ht; omega))) k
/-- the reference's steps, in the class's words -/
theorem sp_H {pl le lb : Nat → Nat} {br : Nat → Bool} {eb gi : Nat → Option Nat} {f0 lf el be : Nat} {s0 : Nat → Nat} (hbe : be ≤ 16) (hf0 : f0 < be) (hlf : eb f0 = some lf) (hg : ∀ b, b < be → gi b = eb b) (hz : ∀ b, be ≤ b → eb b = none) :
    (∀ b e, b < be → mayM le lb (va_up br (lf * 16 + f0) true) gi b e = mayM le lb br eb b e) ∧ (∀ e, isFr pl gi be lf e = frB pl eb f0 e) ∧ spH pl le lb br eb f0 el be (spN pl le lb (va_up br (lf * 16 + f0) true) gi el be lf s0 (be - 1)) := by
  have hmy : ∀ b e, b < be → mayM le lb (va_up br (lf * 16 + f0) true) gi b e = mayM le lb br eb b e := by
    intro b e hb
    rw [mayM_g (hg b hb)]
    by_cases z : e * 16 + b = lf * 16 + f0
    · have z1 : b = f0 := by omega
      have z2 : e = lf := by omega
      subst z1; subst z2
      simp [mayM, hlf]
    · simp only [mayM, canB, va_up_ne _ _ z]
  have hfr : ∀ e, isFr pl gi be lf e = frB pl eb f0 e := by
    intro e
    have h1 := cntO_end (e := e) hz (16 - be)
    rw [show be + (16 - be) = 16 by omega] at h1
    simp only [isFr, frB, cntO_cong be hg, h1, hlf, Option.some.injEq, eq_comm]
  refine ⟨hmy, hfr, ?_, ?_, ?_, ?_⟩
  · intro c hc
    rcases sp_ok (pl := pl) (le := le) (lb := lb) (br := va_up br (lf * 16 + f0) true) (gi := gi) (el := el) (lf := lf) (sp := s0) hc (be - 1) with h | h
    · exact Or.inl h
    · exact Or.inr ⟨h.1, by omega⟩
  · intro c hc he
    rw [sp_1 hc]
    have hp : ∀ e, tmB pl le lb (va_up br (lf * 16 + f0) true) gi be lf c e = (mayM le lb br eb c e && frB pl eb f0 e) := fun e => by rw [tmB, hmy c e hc, hfr e]
    constructor
    · rintro ⟨-, h⟩ h9
      obtain ⟨e, he', h2⟩ := anyN_iff.mp h
      rw [hp] at h2
      have := ffn_no el h9 e he'
      rw [h2] at this
      cases this
    · intro h
      refine ⟨by rw [hg c hc]; exact he, ?_⟩
      obtain ⟨e, he'⟩ := Option.ne_none_iff_exists'.mp h
      obtain ⟨e1, e2⟩ := ffn_some el he'
      exact anyN_iff.mpr ⟨e, e1, by rw [hp]; exact e2⟩
  · intro c n hc hn h
    obtain ⟨c', g, h1, h2, h3, h4⟩ := sp_2 hc hn h
    exact ⟨c', g, h1, by rw [← hg c' h1]; exact h2, h3, by rw [← hmy c g hc]; exact h4⟩
  · intro c c' g n hc hc' hn he hg' hm h
    exact sp_3 hc hc' hn (by omega) (by rw [hg c hc]; exact he) (by rw [hg c' hc']; exact hg') (by rw [hmy c g hc]; exact hm) h
/-- CHANGE is one -/
theorem chg_one {pl le lb : Nat → Nat} {br : Nat → Bool} {eb gi : Nat → Option Nat} {el be : Nat} {gv : Bool} {tk : Nat → Option Nat} {qu : Nat → Nat} {qd : Nat} {fi fe : Option Nat} {sp : Nat → Nat} {fr : Nat → Bool} {x : Int32} (hbe : be ≤ 16) (hg : ∀ b, b < be → gi b = eb b) (hz : ∀ b, be ≤ b → eb b = none) (hob : ∀ k, ob el (eb k)) (htz : ∀ k, 16 ≤ k → tk k = none) :
    (sChM pl le lb br gi el be gv sp fr x).1 = (sChange pl le lb br eb el be gv tk qu qd fi fe x).1 ∧ (sChM pl le lb br gi el be gv sp fr x).2.1 = (sChange pl le lb br eb el be gv tk qu qd fi fe x).2.1 ∧
    (∀ b, b < be → (sChM pl le lb br gi el be gv sp fr x).2.2.1 b = (sChange pl le lb br eb el be gv tk qu qd fi fe x).2.2.1 b) ∧ (∀ b, be ≤ b → (sChange pl le lb br eb el be gv tk qu qd fi fe x).2.2.1 b = none) ∧ (∀ k, ob el ((sChange pl le lb br eb el be gv tk qu qd fi fe x).2.2.1 k)) ∧
    (sChM pl le lb br gi el be gv sp fr x).2.2.2.1 = (sChange pl le lb br eb el be gv tk qu qd fi fe x).2.2.2.1 ∧ (∀ k, 16 ≤ k → (sChange pl le lb br eb el be gv tk qu qd fi fe x).2.2.2.2.1.1 k = none) := by
  have hpd : pdF be gv gi x = pdF be gv eb x := by
    unfold pdF
    by_cases c : inR x be = false
    · rw [if_pos c, if_pos c]
    · obtain ⟨j, hj, rfl⟩ := inR_of (by simpa using c) (by omega)
      rw [tN, nI_clamp (by omega), hg j hj]
  by_cases h : pdF be gv eb x = 0
  · obtain ⟨j, lf, hj, rfl, rfl, hlf⟩ := pdF_0 h hbe
    have hgj : gi j = some lf := (hg j hj).trans hlf
    have hcj : tN (nI j) = j := nI_clamp (by omega)
    rw [sChM_at hbe hj hgj rfl, sChange, if_pos h, hcj]
    obtain ⟨hmy, hfr, HS⟩ := sp_H (pl := pl) (le := le) (lb := lb) (br := br) (el := el) (s0 := sp) hbe hj hlf hg hz
    have hmy2 : ∀ b e, b < be → mayM le lb (va_up br (lf * 16 + j) true) eb b e = mayM le lb br eb b e := fun b e hb => by rw [← hmy b e hb]; exact (mayM_g (hg b hb)).symm
    obtain ⟨ps, a, s, B, hno, hcase⟩ := bfs_fl (pl := pl) (el := el) (le := le) (lb := lb) (br := br) hbe hob 16 (flI tk qu j) fe (fun _ => 0) (Nat.le_refl _) (bfs_0 hj htz) (fun i hi => absurd hi (Nat.not_lt_zero _))
    have htk : ∀ k, 16 ≤ k → s.1 k = none := fun k hk => by
      cases hc : s.1 k with
      | none => rfl
      | some p => have := (B.2.1 k (vis_s hc)).1; omega
    have hf : eb j ≠ none := by rw [hlf]; simp
    rcases hcase with ⟨y, ha, hyes, hR⟩ | ⟨ha, fe', hR, -⟩
    · obtain ⟨e1, e2, e3, e4, e5⟩ := ch_eq (fr := pf (isFr pl gi be lf) fr el) (gi := gi) B hbe hob HS hf ha hno hyes hmy2 (fun e he => by rw [pf_in he]; exact hfr e) hg
      have hS : sChange1 eb br j (some (s.2.1 a), s, some y) = (some (mvF s.1 16 eb (some (s.2.1 a)) (some y) 0).2, 0, (mvF s.1 16 eb (some (s.2.1 a)) (some y) 0).1, va_up br (lf * 16 + j) true, s, some j, some y) := by simp only [sChange1, hlf]
      rw [hR, sChN, if_neg e2, hS]
      exact ⟨congrArg some e1, rfl, e3, fun b hb => (e4 b hb).trans (hz b hb), e5, rfl, htk⟩
    · have hs : spN pl le lb (va_up br (lf * 16 + j) true) gi el be lf sp (be - 1) j = 1000 := by
        rcases HS.1 j hj with q | q
        · exact q
        · exfalso
          exact ch_none B HS hf ha hno (spN pl le lb (va_up br (lf * 16 + j) true) gi el be lf sp (be - 1) j - 1) j (Or.inl rfl) (by omega) (by omega)
      have hS : sChange1 eb br j (none, s, fe') = (none, 12, eb, br, s, some j, fe') := by simp only [sChange1]
      rw [hR, sChN, if_pos hs, hS]
      exact ⟨rfl, rfl, hg, hz, hob, rfl, htk⟩
  · rw [sChM, sChange, if_neg (by rw [hpd]; exact h), if_neg h, hpd]
    exact ⟨rfl, rfl, hg, hz, hob, rfl, htz⟩
end

theorem rng_of2 {x : Int32} (h0 : ¬ x < nI 2) (h1 : x ≤ nI 16) : ∃ j : Nat, 2 ≤ j ∧ j ≤ 16 ∧ x = nI j := by
  have h2 : ¬ x < 0 := fun h => h0 (by
    rw [Int32.lt_iff_toInt_lt] at h ⊢
    have e1 : (nI 2).toInt = 2 := by decide
    have e0 : (0 : Int32).toInt = 0 := by decide
    omega)
  obtain ⟨j, hj, rfl⟩ := rng_of h2 h1 (by decide)
  refine ⟨j, ?_, hj, rfl⟩
  rcases Nat.lt_or_ge j 2 with q | q
  · exact absurd (nI_lt q (by decide)) h0
  · exact q
theorem rngl_of {x : Int32} {n : Nat} (h0 : ¬ x < 0) (h1 : x < nI n) (hn : n < 2 ^ 31) : ∃ j : Nat, j < n ∧ x = nI j := by
  obtain ⟨j, hj, rfl⟩ := nI_of h0
  exact ⟨j, (nI_ltI hj hn).mp h1, rfl⟩
theorem hasP_nat {a b n : Nat} (ha : a < 2 ^ 31) (hb : b < 2 ^ 31) (hn : n ≤ 40) : hasP (nI a) (nI b) n = true ↔ a + b ≤ n := by
  simp only [hasP, Bool.and_eq_true, decide_eq_true_eq]
  have h1 : ¬ nI a < 0 := nI_pos ha
  have h2 := nI_ltI (a := n) (b := a) (by omega) ha
  constructor
  · rintro ⟨⟨-, q1⟩, q2⟩
    rw [h2] at q1
    rw [pk_sub (by omega), nI_ltI (by omega) hb] at q2
    omega
  · intro h
    refine ⟨⟨h1, by rw [h2]; omega⟩, ?_⟩
    rw [pk_sub (by omega), nI_ltI (by omega) hb]
    omega
theorem hasP_x {x z : Int32} {n : Nat} (h : hasP x z n = true) : ∃ j : Nat, j < 2 ^ 31 ∧ x = nI j := by
  simp only [hasP, Bool.and_eq_true, decide_eq_true_eq] at h
  exact nI_of h.1.1
theorem plF_0 {ms : Nat → Bool} {ln : Nat → Nat} {x k : Int32} (hln : ∀ k, ln k ≤ 40) (h : plF ms ln x k = 0) : ∃ j m : Nat, j < 4 ∧ x = nI j ∧ ms j = false ∧ m < ln j ∧ k = nI m := by
  unfold plF at h
  split at h
  · rename_i h1
    obtain ⟨j, hj, rfl, hm⟩ := tfF_0 h1
    split at h
    · rename_i h2
      obtain ⟨m, hm2, rfl⟩ := hasP_x h2
      rw [tN, nI_clamp (by omega), hasP_nat hm2 (by decide) (hln _)] at h2
      exact ⟨j, m, hj, rfl, hm, by omega, rfl⟩
    · exact absurd h (by decide)
  · exact absurd h (by assumption)
theorem plF_le (ms : Nat → Bool) (ln : Nat → Nat) (x k : Int32) : plF ms ln x k ≤ 4 := by
  unfold plF
  split
  · split <;> decide
  · exact Nat.le_trans (tfF_le ms x) (by decide)
def poG (ms : Nat → Bool) (so ln : Nat → Nat) (x i to_ j m : Int32) : Nat :=
  if inR x 4 = false then 1 else if inR to_ 4 = false then 1 else if ms (tN x) = true then 3 else if ms (tN to_) = true then 3 else if so (tN x) = so (tN to_) then
  (if 0 ≤ m then (if hasP i m (ln (tN x)) = true then (if hasP j m (ln (tN to_)) = true then 0 else 4) else 4) else 6) else 11
theorem poG_le (ms : Nat → Bool) (so ln : Nat → Nat) (x i to_ j m : Int32) : poG ms so ln x i to_ j m ≤ 11 := by
  unfold poG
  repeat' split
  all_goals decide
theorem poG_0 {ms : Nat → Bool} {so ln : Nat → Nat} {x i to_ j m : Int32} (hln : ∀ k, ln k ≤ 40) (h : poG ms so ln x i to_ j m = 0) :
    ∃ a b i2 j2 m2 : Nat, a < 4 ∧ b < 4 ∧ x = nI a ∧ to_ = nI b ∧ i = nI i2 ∧ j = nI j2 ∧ m = nI m2 ∧ ms a = false ∧ ms b = false ∧ so a = so b ∧ i2 + m2 ≤ ln a ∧ j2 + m2 ≤ ln b := by
  unfold poG at h
  split at h
  · exact absurd h (by decide)
  · rename_i h1
    split at h
    · exact absurd h (by decide)
    · rename_i h2
      split at h
      · exact absurd h (by decide)
      · rename_i h3
        split at h
        · exact absurd h (by decide)
        · rename_i h4
          split at h
          · rename_i h5
            split at h
            · rename_i h6
              split at h
              · rename_i h7
                split at h
                · rename_i h8
                  obtain ⟨a, ha, rfl⟩ := inR_of (by simpa using h1) (by decide)
                  obtain ⟨b, hb, rfl⟩ := inR_of (by simpa using h2) (by decide)
                  obtain ⟨i2, hi2, rfl⟩ := hasP_x h7
                  obtain ⟨j2, hj2, rfl⟩ := hasP_x h8
                  obtain ⟨m2, hm2, rfl⟩ := nI_of (Int32.not_lt.mpr h6)
                  rw [tN, nI_clamp (by omega)] at h3 h4 h7 h8
                  rw [tN, nI_clamp (by omega), tN, nI_clamp (by omega)] at h5
                  rw [hasP_nat hi2 hm2 (hln _)] at h7
                  rw [hasP_nat hj2 hm2 (hln _)] at h8
                  exact ⟨a, b, i2, j2, m2, ha, hb, rfl, rfl, rfl, rfl, rfl, by simpa using h3, by simpa using h4, h5, h7, h8⟩
                · exact absurd h (by decide)
              · exact absurd h (by decide)
            · exact absurd h (by decide)
          · exact absurd h (by decide)
theorem trF_le (ms : Nat → Bool) (ln : Nat → Nat) (u : Nat → Nat → Int64) (x n s : Int32) : trF ms ln u x n s ≤ 5 := by
  unfold trF
  split
  · repeat' split
    all_goals decide
  · exact Nat.le_trans (tfF_le ms x) (by decide)
theorem trF_0 {ms : Nat → Bool} {ln : Nat → Nat} {u : Nat → Nat → Int64} {x n s : Int32} (hln : ∀ k, ln k ≤ 40) (h : trF ms ln u x n s = 0) :
    ∃ j m t : Nat, j < 4 ∧ x = nI j ∧ ms j = false ∧ 2 ≤ m ∧ m ≤ 16 ∧ n = nI m ∧ m ≤ ln j ∧ 0 < t ∧ t < 2 ^ m - 1 ∧ s = nI t ∧ outc (u j) m = true := by
  unfold trF at h
  split at h
  · rename_i h1
    obtain ⟨j, hj, rfl, hm⟩ := tfF_0 h1
    split at h
    · exact absurd h (by decide)
    · rename_i h2
      obtain ⟨m, hm2, hm16, rfl⟩ := rng_of2 (fun q => h2 (Or.inl q)) (Int32.not_lt.mp (fun q => h2 (Or.inr q)))
      split at h
      · exact absurd h (by decide)
      · rename_i h3
        split at h
        · exact absurd h (by decide)
        · rename_i h4
          split at h
          · rename_i h5
            have hp := two_pow_le hm16
            obtain ⟨t, ht, rfl⟩ := nI_of (x := s) (fun q => h4 (Or.inl (Int32.le_of_lt q)))
            rw [tN, nI_clamp (by omega)] at h3 h5
            rw [tN, nI_clamp (n := m) (by omega)] at h4 h5
            have h3 : hasP (nI 0) (nI m) (ln j) = true := by simpa using h3
            rw [hasP_nat (by decide) (by omega) (hln _)] at h3
            refine ⟨j, m, t, hj, rfl, hm, hm2, hm16, rfl, by omega, ?_, ?_, rfl, h5⟩
            · rcases Nat.eq_zero_or_pos t with q | q
              · exact absurd (Or.inl (by rw [q]; decide)) h4
              · exact q
            · rcases Nat.lt_or_ge t (2 ^ m - 1) with q | q
              · exact q
              · exact absurd (Or.inr (nI_le q ht)) h4
          · exact absurd h (by decide)
  · exact absurd h (by assumption)
abbrev u4 : Type := Nat → Nat → Int64
def sTray (ms : Nat → Bool) (so ln : Nat → Nat) (u : u4) (x z m : Int32) : Bool × Nat × (Nat → Bool) × (Nat → Nat) × (Nat → Nat) × u4 :=
  if inR x 4 = false then (false, 1, ms, so, ln, u) else if inR z 4 = false then (false, 1, ms, so, ln, u) else if m ≤ nI 40 then
  (if 0 ≤ m then (true, 0, va_up ms (tN x) false, va_up so (tN x) (tN z), va_up ln (tN x) (tN m), va_up u (tN x) (fil 0 (u (tN x)) 40)) else (false, 6, ms, so, ln, u)) else (false, 5, ms, so, ln, u)
def sWrite (ms : Nat → Bool) (so ln : Nat → Nat) (u : u4) (x k : Int32) (v : Int64) : Bool × Nat × u4 :=
  if plF ms ln x k = 0 then (true, 0, va_up u (tN x) (va_up (u (tN x)) (tN k) (cutL (so (tN x)) v))) else (false, plF ms ln x k, u)
def sRead (ms : Nat → Bool) (ln : Nat → Nat) (u : u4) (x k : Int32) : Int64 × Nat :=
  if plF ms ln x k = 0 then (u (tN x) (tN k), 0) else (-1, plF ms ln x k)
def sPour (ms : Nat → Bool) (so ln : Nat → Nat) (u : u4) (x i to_ j m : Int32) : Bool × Nat × u4 :=
  if poG ms so ln x i to_ j m = 0 then (true, 0, va_up u (tN to_) (va_cpy (u (tN x)) (u (tN to_)) (tN i) (tN j) (tN m))) else (false, poG ms so ln x i to_ j m, u)
/-- GAIN and CHANCE of the first m outcomes of u, with the set t -/
def gnX (u : Nat → Int64) (m t : Nat) : Int64 := lN (wsm u t m) * lN (m - pcn t 16) - lN (wsm u (2 ^ m - 1) m - wsm u t m) * lN (pcn t 16)
def gnK (m t : Nat) : Nat := pcn t 16 * (m - pcn t 16)
def chN (u : Nat → Int64) (m t : Nat) : Nat := ctp (fun s => decide (pcn s 16 = pcn t 16) && decide (¬ lN (wsm u s m) < lN (wsm u t m))) (2 ^ m)
def chA (m t : Nat) : Nat := csF m (pcn t 16) (pcn t 16)
abbrev gT : Type := Bool × Nat × Int64 × Int64 × Nat × (Nat → Int64) × (Nat → Int64)
def sGain (ms : Nat → Bool) (ln : Nat → Nat) (u : u4) (fa fb : Int64) (tn : Nat) (f1 f2 : Nat → Int64) (x n s : Int32) : gT :=
  if trF ms ln u x n s = 0 then (true, 0, gnX (u (tN x)) (tN n) (tN s) / lN (gdl (gnX (u (tN x)) (tN n) (tN s)) (gnK (tN n) (tN s))), lN (gnK (tN n) (tN s)) / lN (gdl (gnX (u (tN x)) (tN n) (tN s)) (gnK (tN n) (tN s))), tN n, pf (lsm (u (tN x)) (tN n) 0) f1 256, pf (lsm (u (tN x)) (tN n) 8) f2 256)
  else (false, trF ms ln u x n s, fa, fb, tn, f1, f2)
def sChance (ms : Nat → Bool) (ln : Nat → Nat) (u : u4) (fa fb : Int64) (tn : Nat) (f1 f2 : Nat → Int64) (x n s : Int32) : gT :=
  if trF ms ln u x n s = 0 then (true, 0, lN (chN (u (tN x)) (tN n) (tN s)) / lN (gdl (lN (chN (u (tN x)) (tN n) (tN s))) (chA (tN n) (tN s))), lN (chA (tN n) (tN s)) / lN (gdl (lN (chN (u (tN x)) (tN n) (tN s))) (chA (tN n) (tN s))), tN n, pf (lsm (u (tN x)) (tN n) 0) f1 256, pf (lsm (u (tN x)) (tN n) 8) f2 256)
  else (false, trF ms ln u x n s, fa, fb, tn, f1, f2)
theorem gn_ok {u : Nat → Int64} {m t : Nat} (hm : m ≤ 16) (ho : outc u m = true) (h0 : 0 < t) (ht : t < 2 ^ m - 1) :
    bcF (nI t) = nI (pcn t 16) ∧ 0 < pcn t 16 ∧ pcn t 16 < m ∧ wsm u t m ≤ wsm u (2 ^ m - 1) m ∧ (gnX u m t).toInt.natAbs < 2 ^ 49 := by
  have hp := two_pow_le hm
  have h1 := pcn_in hm h0 ht
  have h2 := (wsm_full u t m m (Nat.le_refl _)).1
  have h3 := wsm_le u (2 ^ m - 1) m (fun i hi => (outc_at ho i hi).2)
  exact ⟨bcF_nI (by omega), h1.1, h1.2, h2, gain_abs (by omega) h2 (by omega) (by omega)⟩
theorem ch_ok {u : Nat → Int64} {m t : Nat} {f1 f2 : Nat → Int64} (hm : m ≤ 16) (ho : outc u m = true) (h0 : 0 < t) (ht : t < 2 ^ m - 1) :
    ngF (sm2 (pf (lsm u m 0) f1 256) (pf (lsm u m 8) f2 256)) (sm2 (pf (lsm u m 0) f1 256) (pf (lsm u m 8) f2 256) t) (orb (pcn t 16)) (csF m (pcn t 16) (pcn t 16)) = chN u m t := by
  have h1 := pcn_in hm h0 ht
  have e : sm2 (pf (lsm u m 0) f1 256) (pf (lsm u m 8) f2 256) = fun s => lN (wsm u s m) := by funext s; exact sm2_eq hm ho
  rw [e, ng_ct _ _ hm h1.1 (by omega)]
  rfl
theorem flF_ok {pl le lb : Nat → Nat} {br : Nat → Bool} {eb : Nat → Option Nat} {f0 el be : Nat} (hel : el ≤ 12) (hbe : be ≤ 16) : ∀ (n : Nat) (s : qT) (fe : Option Nat), qOk s → ob 12 fe → ob 16 (flF pl le lb br eb f0 el be n s fe).1 ∧ qOk (flF pl le lb br eb f0 el be n s fe).2.1 ∧ ob 12 (flF pl le lb br eb f0 el be n s fe).2.2
  | 0, s, fe, h, hf => ⟨ob_n, h, hf⟩
  | n + 1, s, fe, h, hf => by
    rw [flF]
    split
    · split
      · rename_i x hx
        exact ⟨ob_s (h.2.1 _), h, ob_s (by have := ffn_ob _ _ x hx; omega)⟩
      · exact flF_ok hel hbe n _ _ (qlE_ok h (h.2.1 _) hbe el) ob_n
    · exact ⟨ob_n, h, hf⟩
section JY
variable {κ : jK} {l : Launch} {y : MethodName} {cc : ByteArray} {nL : Nat} {own : String} {Ts : List Cond} {ret : Option FieldType} {rm : Room} {G : jG} {A : Nat → Prop} {cs ss : Nat} {Q : State → Prop} {pc : Nat} {lv : List (Nat × Value)} {st : List Value} {ws ws' : va_W}
theorem j_copyl (X : CX κ l y cc nL own Ts ret rm G A) {index a0 a : Nat} (q0 q1 : Nat) {n0 n1 sp dp n : Nat} {f g f2 : Nat → Int64} (ha0 : ws[q0]? = some (a0, .inl (G.2.2.1, n0, .inr (.inl f)))) (ha1 : ws[q1]? = some (a, .inl (G.2.2.1, n1, .inr (.inl g)))) (h4 : sp + n ≤ n0) (h5 : dp + n ≤ n1) (h6 : n0 < 2 ^ 31 ∧ n1 < 2 ^ 31)
    (hd : decode cc pc = .ok (.invokestatic index, 3)) (w1 : Cond.methodLink own index arraycopyName ∈ Ts) (w2 : Cond.native arraycopyName ∈ Ts) (w3 : Cond.static arraycopyName ∈ Ts) (w4 : Cond.initialized "java/lang/System" ∈ Ts) (hfr : 1 ≤ rm.frames) (hlo : (st.map fun v => v.category).sum + (nativeFrameWords "java/lang/System" "arraycopy" 5 + 11) ≤ rm.locals)
    (hf : va_cpy f g sp dp n = f2) (hw : ws.set q1 (a, .inl (G.2.2.1, n1, .inr (.inl f2))) = ws') (k : JJ κ nL G A cs ss Q (pc + 3) lv st ws') : JJ κ nL G A cs ss Q pc lv (.int (nI n) :: .int (nI dp) :: .ref a :: .int (nI sp) :: .ref a0 :: st) ws := by
  obtain ⟨⟨rfl, rfl⟩, hx, hb, hml, hown, hts, hK, hA, hlk, hrt, hnm⟩ := X
  subst hf; subst hw
  intro H locs ls hP hD hS hl
  refine va_copyl hx hb (hml.trans hl.1.symm) hown (hts _ w1) (hts _ w2) (hts _ w3) (hts _ w4) hK.1 hP hD hS q0 q1 1 1 ha0 ha1 rfl rfl rfl (nI_pos (by omega)) (nI_pos (by omega)) (nI_pos (by omega)) (by rw [nI_clamp (by omega), nI_clamp (by omega)]; exact h4) (by rw [nI_clamp (by omega), nI_clamp (by omega)]; exact h5) (fun _ _ => rfl) hfr hlo hd (fun H1 locs1 hP1 hD1 hS1 => ?_)
  rw [nI_clamp (by omega), nI_clamp (by omega), nI_clamp (by omega)] at hP1 hD1
  exact k H1 locs1 ls hP1 hD1 hS1 hl
end JY

theorem top_of {t : Nat} (h0 : 0 < t) (h : t < 65536) : ∃ m a, m < 16 ∧ a < 2 ^ m ∧ t = 2 ^ m + a := by
  have h1 : t.log2 < 16 := (Nat.log2_lt (by omega)).mpr h
  have h2 : 2 ^ t.log2 ≤ t := Nat.log2_self_le (by omega)
  have h3 : t < 2 ^ (t.log2 + 1) := Nat.lt_log2_self
  rw [Nat.pow_succ] at h3
  exact ⟨t.log2, t - 2 ^ t.log2, h1, by omega, by omega⟩
theorem nx_at {m a : Nat} (hm : m < 16) (ha : a < 2 ^ m) : nxL (2 ^ m + a) = true ∧ nxA (2 ^ m + a) a m = true := nxK_at m m 0 (nx_tab ⟨m, hm⟩) a (Nat.zero_le _) (by omega)
theorem nx_add {m a : Nat} (hm : m < 16) (h0 : 0 < a) (ha : a < 2 ^ m) (hn : nxN a < 2 ^ m) : nxN (2 ^ m + a) = 2 ^ m + nxN a := by
  have h := (nx_at hm ha).2
  simp only [nxA, Bool.or_eq_true] at h
  rcases h with h | h | h
  · have := Nat.eq_of_beq_eq_true h; omega
  · have : 2 ^ m ≤ nxN a := Nat.le_of_ble_eq_true h
    omega
  · exact Nat.eq_of_beq_eq_true h
theorem lo1_pow {t : Nat} (h0 : 0 < t) (h : t < 65536) : ∃ j, j < 16 ∧ lo1 t = 2 ^ j ∧ Nat.log2 (lo1 t) = j := by
  obtain ⟨m, a, hm, ha, rfl⟩ := top_of h0 h
  have h1 := (nx_at hm ha).1
  simp only [nxL, Bool.and_eq_true] at h1
  exact ⟨Nat.log2 (lo1 (2 ^ m + a)), Nat.blt_eq.mp h1.2, Nat.eq_of_beq_eq_true h1.1, rfl⟩
theorem tz_tab : ∀ j : Fin 16, tzF (nI (2 ^ j.val)) = nI j.val := by decide +kernel
theorem neg_nI {s : Nat} (h : s ≤ 4294967296) : -nI s = nI (4294967296 - s) := by
  have e : nI 4294967296 = 0 := by decide
  rw [← pk_sub h, e, Int32.zero_sub]
theorem nxF_nI {s : Nat} (h0 : 0 < s) (h : s < 65536) : nxF (nI s) = nI (nxN s) := by
  obtain ⟨j, hj, h1, h2⟩ := lo1_pow h0 h
  have hlo : nI s &&& -nI s = nI (lo1 s) := by rw [neg_nI (by omega), nI_and]; rfl
  have hjp : (2 : Nat) ^ j ≤ 2 ^ 15 := two_pow_le (by omega)
  unfold nxF
  rw [hlo, nI_add, nI_xor, ush_nI (by
    have e : (2 : Nat) ^ 32 = 4294967296 := by decide
    refine Nat.xor_lt_two_pow (by omega) (by omega)) (by decide), h1, tz_tab ⟨j, hj⟩]
  show nI (s + 2 ^ j) ||| ush (nI ((s ^^^ (s + 2 ^ j)) / 2 ^ 2)) j = _
  have hx : s ^^^ (s + 2 ^ j) < 2 ^ 32 := Nat.xor_lt_two_pow (by omega) (by omega)
  have hd := Nat.div_le_self (s ^^^ (s + 2 ^ j)) (2 ^ 2)
  rw [ush_nI (by omega) (by omega), nI_or]
  unfold nxN
  rw [h2, h1, shr_eq, shr_eq]
  rfl
/-- the sets of k among the first n, in order -/
def LL : Nat → Nat → List Nat
  | _, 0 => [0]
  | 0, _ + 1 => []
  | n + 1, k + 1 => LL n (k + 1) ++ (LL n k).map (fun s => 2 ^ n + s)
theorem LL_0 : ∀ n, LL n 0 = [0]
  | 0 => rfl
  | n + 1 => rfl
theorem LL_s (n k : Nat) : LL (n + 1) (k + 1) = LL n (k + 1) ++ (LL n k).map (fun s => 2 ^ n + s) := rfl
theorem LL_lt : ∀ n k, ∀ s ∈ LL n k, s < 2 ^ n
  | n, 0, s, h => by
    rw [LL_0] at h
    simp only [List.mem_singleton] at h
    subst h
    exact Nat.two_pow_pos n
  | 0, k + 1, s, h => by simp [LL] at h
  | n + 1, k + 1, s, h => by
    rw [LL_s] at h
    have e : 2 ^ (n + 1) = 2 ^ n + 2 ^ n := by rw [Nat.pow_succ]; omega
    rcases List.mem_append.mp h with h | h
    · have := LL_lt n (k + 1) s h
      omega
    · obtain ⟨t, ht, rfl⟩ := List.mem_map.mp h
      have := LL_lt n k t ht
      omega
theorem LL_pos : ∀ n k, ∀ s ∈ LL n (k + 1), 0 < s
  | 0, k, s, h => by simp [LL] at h
  | n + 1, k, s, h => by
    rw [LL_s] at h
    rcases List.mem_append.mp h with h | h
    · exact LL_pos n k s h
    · obtain ⟨t, ht, rfl⟩ := List.mem_map.mp h
      have := Nat.two_pow_pos n
      omega
theorem LL_big : ∀ n k, n < k → LL n k = []
  | _, 0, h => absurd h (Nat.not_lt_zero _)
  | 0, k + 1, _ => rfl
  | n + 1, k + 1, h => by rw [LL_s, LL_big n (k + 1) (by omega), LL_big n k (by omega)]; rfl
/-- each but the last is followed by the next of its size; first and last are known -/
def chn (l : List Nat) (a b : Nat) : Prop := l[0]? = some a ∧ l[l.length - 1]? = some b ∧ ∀ i x z, l[i]? = some x → l[i + 1]? = some z → nxN x = z
theorem chn_app {l l2 : List Nat} {a b c d : Nat} (h : chn l a b) (h2 : chn l2 c d) (hb : nxN b = c) : chn (l ++ l2) a d := by
  obtain ⟨p1, p2, p3⟩ := h
  obtain ⟨q1, q2, q3⟩ := h2
  have hl : 0 < l.length := (List.getElem?_eq_some_iff.mp p1).1
  have hl2 : 0 < l2.length := (List.getElem?_eq_some_iff.mp q1).1
  refine ⟨by rw [List.getElem?_append_left hl]; exact p1, ?_, ?_⟩
  · rw [List.length_append, List.getElem?_append_right (by omega), show l.length + l2.length - 1 - l.length = l2.length - 1 by omega]
    exact q2
  · intro i x z hx hz
    rcases Nat.lt_or_ge (i + 1) l.length with q | q
    · rw [List.getElem?_append_left (by omega)] at hx hz
      exact p3 i x z hx hz
    · rcases Nat.lt_or_ge i l.length with r | r
      · rw [List.getElem?_append_left r] at hx
        rw [List.getElem?_append_right q] at hz
        have e : i = l.length - 1 := by omega
        subst e
        rw [show l.length - 1 + 1 - l.length = 0 by omega, q1] at hz
        rw [p2] at hx
        cases hx
        cases hz
        exact hb
      · rw [List.getElem?_append_right r] at hx
        rw [List.getElem?_append_right q, show i + 1 - l.length = i - l.length + 1 by omega] at hz
        exact q3 _ x z hx hz
theorem chn_one (a : Nat) : chn [a] a a := ⟨rfl, rfl, fun i x z _ hz => by simp at hz⟩
theorem chn_map {n : Nat} {l : List Nat} {a b : Nat} (hn : n < 16) (h : chn l a b) (hp : ∀ s ∈ l, 0 < s) (hl : ∀ s ∈ l, s < 2 ^ n) : chn (l.map (fun s => 2 ^ n + s)) (2 ^ n + a) (2 ^ n + b) := by
  obtain ⟨p1, p2, p3⟩ := h
  refine ⟨by rw [List.getElem?_map, p1]; rfl, by rw [List.length_map, List.getElem?_map, p2]; rfl, ?_⟩
  intro i x z hx hz
  rw [List.getElem?_map] at hx hz
  cases h1 : l[i]? with
  | none => rw [h1] at hx; cases hx
  | some x0 =>
    cases h2 : l[i + 1]? with
    | none => rw [h2] at hz; cases hz
    | some z0 =>
      rw [h1] at hx
      rw [h2] at hz
      cases hx
      cases hz
      have e := p3 i x0 z0 h1 h2
      have hz0 := hl z0 (List.mem_of_getElem? h2)
      rw [nx_add hn (hp x0 (List.mem_of_getElem? h1)) (hl x0 (List.mem_of_getElem? h1)) (by rw [e]; exact hz0), e]
theorem LL_chn : ∀ n k, n ≤ 16 → k < n → chn (LL n (k + 1)) (2 ^ (k + 1) - 1) (2 ^ n - 2 ^ (n - (k + 1)))
  | 0, k, _, h => absurd h (Nat.not_lt_zero _)
  | n + 1, k, hn, hk => by
    rw [LL_s]
    have e2 : 2 ^ (n + 1) = 2 ^ n + 2 ^ n := by rw [Nat.pow_succ]; omega
    have hp := Nat.two_pow_pos n
    have hB : chn ((LL n k).map (fun s => 2 ^ n + s)) (2 ^ n + (2 ^ k - 1)) (2 ^ (n + 1) - 2 ^ (n + 1 - (k + 1))) := by
      cases k with
      | zero =>
        rw [LL_0]
        have : 2 ^ (n + 1) - 2 ^ (n + 1 - (0 + 1)) = 2 ^ n := by rw [show n + 1 - (0 + 1) = n by omega]; omega
        rw [this]
        exact chn_one _
      | succ k =>
        have h := chn_map (by omega) (LL_chn n k (by omega) (by omega)) (LL_pos n k) (LL_lt n (k + 1))
        have e : 2 ^ n + (2 ^ n - 2 ^ (n - (k + 1))) = 2 ^ (n + 1) - 2 ^ (n + 1 - (k + 1 + 1)) := by
          rw [show n + 1 - (k + 1 + 1) = n - (k + 1) by omega]
          have := two_pow_le (n := n - (k + 1)) (m := n) (by omega)
          omega
        rw [e] at h
        exact h
    rcases Nat.lt_or_ge k n with q | q
    · have hA := LL_chn n k (by omega) q
      refine chn_app hA hB ?_
      rcases nx_bd ⟨n, by omega⟩ ⟨k + 1, by omega⟩ with r | r | r
      · exact absurd r (by simp)
      · simp only at r; omega
      · simpa using r
    · have e : k = n := by omega
      subst e
      rw [LL_big k (k + 1) (by omega), List.nil_append]
      have e3 : 2 ^ (k + 1) - 1 = 2 ^ k + (2 ^ k - 1) := by omega
      rw [e3]
      exact hB
/-- Gosper's row -/
def orb (k : Nat) : Nat → Nat
  | 0 => 2 ^ k - 1
  | i + 1 => nxN (orb k i)
theorem orb_LL {n k : Nat} (hn : n ≤ 16) (hk : k < n) : ∀ i, i < (LL n (k + 1)).length → (LL n (k + 1))[i]? = some (orb (k + 1) i)
  | 0, _ => (LL_chn n k hn hk).1
  | i + 1, h => by
    have h1 := orb_LL hn hk i (by omega)
    have h2 : ∃ z, (LL n (k + 1))[i + 1]? = some z := ⟨_, List.getElem?_eq_getElem h⟩
    obtain ⟨z, hz⟩ := h2
    rw [hz, (LL_chn n k hn hk).2.2 i _ z h1 hz |>.symm]
    rfl
def lnL : Nat → Nat → Nat
  | _, 0 => 1
  | 0, _ + 1 => 0
  | n + 1, k + 1 => lnL n (k + 1) + lnL n k
theorem LL_len : ∀ n k, (LL n k).length = lnL n k
  | 0, 0 => rfl
  | n + 1, 0 => rfl
  | 0, k + 1 => rfl
  | n + 1, k + 1 => by rw [LL_s, List.length_append, List.length_map, LL_len n (k + 1), LL_len n k]; rfl
theorem cs_tab : ∀ n : Fin 17, ∀ k : Fin 17, n.val < k.val ∨ csF n.val k.val k.val = lnL n.val k.val := by decide +kernel
theorem cs_pos_tab : ∀ n : Fin 17, ∀ k : Fin 17, n.val < k.val ∨ 0 < lnL n.val k.val := by decide +kernel
theorem cs_LL {n k : Nat} (hn : n ≤ 16) (hk : k ≤ n) : csF n k k = (LL n k).length ∧ 0 < csF n k k := by
  rcases cs_tab ⟨n, by omega⟩ ⟨k, by omega⟩ with q | q
  · simp only at q; omega
  · rcases cs_pos_tab ⟨n, by omega⟩ ⟨k, by omega⟩ with r | r
    · simp only at r; omega
    · exact ⟨by rw [LL_len]; exact q, by simp only at q r; omega⟩
/-- what the class needs of the row of sets -/
theorem orb_ok {n k : Nat} (hn : n ≤ 16) (hk0 : 0 < k) (hk : k ≤ n) : ∀ i, i < csF n k k → orb k i < 65536 ∧ orb k i < 2 ^ n ∧ nxF (nI (orb k i)) = nI (orb k (i + 1)) := by
  intro i hi
  obtain ⟨k, rfl⟩ : ∃ q, k = q + 1 := ⟨k - 1, by omega⟩
  rw [(cs_LL hn hk).1] at hi
  have h := List.mem_of_getElem? (orb_LL hn (by omega) i hi)
  have h1 := LL_lt n (k + 1) _ h
  have h2 := LL_pos n k _ h
  have h3 := two_pow_le hn
  exact ⟨by omega, h1, nxF_nI h2 (by omega)⟩
/-- counting -/
def ctp (p : Nat → Bool) : Nat → Nat
  | 0 => 0
  | n + 1 => ctp p n + if p n then 1 else 0
theorem ctp_split (p : Nat → Bool) (m : Nat) : ∀ n, ctp p (m + n) = ctp p m + ctp (fun t => p (m + t)) n
  | 0 => rfl
  | n + 1 => by
    show ctp p (m + n) + _ = _
    rw [ctp_split p m n, Nat.add_assoc]
    rfl
theorem ctp_cong {p q : Nat → Bool} : ∀ n, (∀ t, t < n → p t = q t) → ctp p n = ctp q n
  | 0, _ => rfl
  | n + 1, h => by rw [ctp, ctp, ctp_cong n (fun t ht => h t (by omega)), h n (by omega)]
theorem pcn_add {n t : Nat} (ht : t < 2 ^ n) : ∀ m, pcn (2 ^ n + t) m = pcn t m + if n < m then 1 else 0
  | 0 => rfl
  | m + 1 => by
    rw [pcn, pcn, pcn_add ht m]
    rcases Nat.lt_trichotomy m n with q | q | q
    · have h1 : (2 ^ n + t).testBit m = t.testBit m := Nat.testBit_two_pow_add_gt q t
      have h2 : ¬ n < m := by omega
      have h3 : ¬ n < m + 1 := by omega
      simp [h1, h2, h3]
    · subst q
      have h1 : t.testBit m = false := Nat.testBit_lt_two_pow ht
      have h2 : (2 ^ m + t).testBit m = true := by rw [Nat.testBit_two_pow_add_eq, h1]; rfl
      simp [h1, h2]
    · have h1 : (2 ^ n + t).testBit m = false := Nat.testBit_lt_two_pow (by
        have := two_pow_le (n := n + 1) (m := m) (by omega)
        rw [Nat.pow_succ] at this
        omega)
      have h2 : t.testBit m = false := Nat.testBit_lt_two_pow (by
        have := two_pow_le (n := n) (m := m) (by omega)
        omega)
      have h3 : n < m + 1 := by omega
      simp [h1, h2, q, h3]
theorem pcn_0 : ∀ m, pcn 0 m = 0
  | 0 => rfl
  | m + 1 => by rw [pcn, pcn_0 m, Nat.zero_testBit]; rfl
theorem ctp_none {p : Nat → Bool} : ∀ n, (∀ t, t < n → p t = false) → ctp p n = 0
  | 0, _ => rfl
  | n + 1, h => by rw [ctp, ctp_none n (fun t ht => h t (by omega)), h n (by omega)]; rfl
theorem pcn_pos {t : Nat} : ∀ n, n ≤ 16 → 0 < t → t < 2 ^ n → 0 < pcn t 16
  | 0, _, h0, h => by simp only [Nat.pow_zero] at h; omega
  | n + 1, hn, h0, h => by
    rw [Nat.pow_succ] at h
    rcases Nat.lt_or_ge t (2 ^ n) with q | q
    · exact pcn_pos n (by omega) h0 q
    · obtain ⟨a, rfl⟩ : ∃ a, t = 2 ^ n + a := ⟨t - 2 ^ n, by omega⟩
      rw [pcn_add (by omega), if_pos (by omega)]
      omega
theorem ctp_LL (q : Nat → Bool) : ∀ n k, n ≤ 16 → ctp (fun t => decide (pcn t 16 = k) && q t) (2 ^ n) = (LL n k).countP q
  | 0, 0, _ => by
    rw [LL_0]
    simp [ctp, pcn_0, List.countP_cons]
  | 0, k + 1, _ => by simp [ctp, pcn_0, LL]
  | n + 1, 0, hn => by
    have e : 2 ^ (n + 1) = 2 ^ n + 2 ^ n := by rw [Nat.pow_succ]; omega
    have hz : ctp (fun t => decide (pcn (2 ^ n + t) 16 = 0) && q (2 ^ n + t)) (2 ^ n) = 0 := ctp_none _ (fun t ht => by
      have := pcn_add (n := n) ht 16
      rw [if_pos (by omega)] at this
      have h0 : ¬ pcn (2 ^ n + t) 16 = 0 := by omega
      simp [h0])
    rw [e, ctp_split, ctp_LL q n 0 (by omega), LL_0, LL_0, hz]
    rfl
  | n + 1, k + 1, hn => by
    have e : 2 ^ (n + 1) = 2 ^ n + 2 ^ n := by rw [Nat.pow_succ]; omega
    rw [e, ctp_split, ctp_LL q n (k + 1) (by omega), LL_s, List.countP_append, List.countP_map]
    congr 1
    rw [← ctp_LL (q ∘ fun s => 2 ^ n + s) n k (by omega)]
    refine ctp_cong _ (fun t ht => ?_)
    have h := pcn_add (n := n) ht 16
    rw [if_pos (by omega)] at h
    rw [h]
    simp
theorem ngF_take {S : Nat → Int64} {t : Int64} {o : Nat → Nat} {l : List Nat} : ∀ j, j ≤ l.length → (∀ i, i < l.length → l[i]? = some (o i)) → ngF S t o j = (l.take j).countP (fun s => decide (¬ S s < t))
  | 0, _, _ => by simp [ngF]
  | j + 1, hj, h => by
    have h1 := h j (by omega)
    rw [ngF, ngF_take j (by omega) h, List.take_add_one, h1, List.countP_append]
    simp only [Option.toList_some, List.countP_cons, List.countP_nil]
    by_cases c : S (o j) < t
    · simp [c]
    · simp [c]
/-- the class's count over its row of sets, and the count over all sets of that size -/
theorem ng_ct {n k : Nat} (S : Nat → Int64) (t : Int64) (hn : n ≤ 16) (hk0 : 0 < k) (hk : k ≤ n) : ngF S t (orb k) (csF n k k) = ctp (fun s => decide (pcn s 16 = k) && decide (¬ S s < t)) (2 ^ n) := by
  obtain ⟨k, rfl⟩ : ∃ q, k = q + 1 := ⟨k - 1, by omega⟩
  rw [ctp_LL (fun s => decide (¬ S s < t)) n (k + 1) hn, (cs_LL hn hk).1, ngF_take (l := LL n (k + 1)) _ (Nat.le_refl _) (orb_LL hn (by omega)), List.take_length]
theorem cs_ct {n k : Nat} (hn : n ≤ 16) (hk : k ≤ n) : csF n k k = ctp (fun s => decide (pcn s 16 = k)) (2 ^ n) := by
  have h := ctp_LL (fun _ => true) n k hn
  simp only [Bool.and_true] at h
  rw [h, (cs_LL hn hk).1]
  simp
theorem ngF_cong {S S2 : Nat → Int64} {t : Int64} {o : Nat → Nat} : ∀ j, (∀ i, i < j → S (o i) = S2 (o i)) → ngF S t o j = ngF S2 t o j
  | 0, _ => rfl
  | j + 1, h => by rw [ngF, ngF, ngF_cong j (fun i hi => h i (by omega)), h j (by omega)]

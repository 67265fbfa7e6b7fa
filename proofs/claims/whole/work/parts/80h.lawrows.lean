/-! Rows for the law's own body. -/
section JL
variable {κ : jK} {l : Launch} {y : MethodName} {cc : ByteArray} {nL : Nat} {own : String} {Ts : List Cond} {ret0 : Option FieldType} {rm : Room} {G : jG} {A : Nat → Prop} {cs ss : Nat} {Q : State → Prop} {pc : Nat} {lv : List (Nat × Value)} {st : List Value} {ws : va_W}
theorem j_sld (X : CX κ l y cc nL own Ts ret0 rm G A) {b L : Nat} {xs : Nat → Int32} (hX : va_X b L xs (js κ) (js κ).heap) (hbl : b < (js κ).heap.size) (hbA : ¬ A b) {n : Nat} (hn : n < L) (hL : L ≤ 3072) (hd : decode cc pc = .ok (.iaload, 1)) (k : JJ κ nL G A cs ss Q (pc + 1) lv (.int (xs n) :: st) ws) : JJ κ nL G A cs ss Q pc lv (.int (nI n) :: .ref b :: st) ws :=
  fun H locs ls hP hD hS hl => va_sld X.2.1 X.2.2.1 hX hbl hbA hS (vp_in_nI hn (by omega)) hd (by rw [nI_clamp (by omega)]; exact k H locs ls hP hD hS hl)
theorem j_slen (X : CX κ l y cc nL own Ts ret0 rm G A) {b L : Nat} {xs : Nat → Int32} (hX : va_X b L xs (js κ) (js κ).heap) (hbl : b < (js κ).heap.size) (hbA : ¬ A b) (hd : decode cc pc = .ok (.arraylength, 1)) (k : JJ κ nL G A cs ss Q (pc + 1) lv (.int (nI L) :: st) ws) : JJ κ nL G A cs ss Q pc lv (.ref b :: st) ws :=
  fun H locs ls hP hD hS hl => va_slen X.2.1 X.2.2.1 hX hbl hbA hS hd (k H locs ls hP hD hS hl)
/-- x != 0, as it is compiled -/
theorem j_bool (X : CX κ l y cc nL own Ts ret0 rm G A) {x : Int32} (h1 : decode cc pc = .ok (.ifCond .eq 7, 3)) (h2 : decode cc (pc + 3) = .ok (.iconst 1, 1)) (h3 : decode cc (pc + 4) = .ok (.goto 4, 3)) (h4 : decode cc (pc + 7) = .ok (.iconst 0, 1)) (k : JJ κ nL G A cs ss Q (pc + 8) lv (.int (b2i (decide (¬ x = 0))) :: st) ws) : JJ κ nL G A cs ss Q pc lv (.int x :: st) ws := by
  refine j_if_eq (tgt := pc + 7) X h1 (by omega) (fun c => ?_) (fun c => ?_)
  · refine j_iconst (v := b2i (decide (¬ x = 0))) X h4 (by rw [decide_eq_false (fun z => z c)]; rfl) k
  · refine j_iconst (v := b2i (decide (¬ x = 0))) X h2 (by rw [decide_eq_true c]; rfl) ?_
    exact j_goto (tgt := pc + 8) X h3 (by omega) k
end JL
theorem lw_and (x : Int32) : ∃ c : Nat, c < 32 ∧ x &&& nI 31 = nI c := by
  refine ⟨(x.toBitVec &&& (nI 31).toBitVec).toNat, ?_, ?_⟩
  · have h : (x.toBitVec &&& (nI 31).toBitVec).toNat ≤ (nI 31).toBitVec.toNat := by
      rw [BitVec.toNat_and]
      exact Nat.and_le_right
    have e : (nI 31).toBitVec.toNat = 31 := by decide
    omega
  · apply Int32.toBitVec_inj.mp
    rw [Int32.toBitVec_and]
    show x.toBitVec &&& (nI 31).toBitVec = BitVec.ofNat 32 _
    rw [BitVec.ofNat_toNat, BitVec.setWidth_eq]
theorem lw_cmp {i L : Nat} (hi : i ≤ L) (hL : L ≤ 3072) (h : ¬ nI L - nI 6 < nI i) : i + 6 ≤ L := by
  rcases Nat.lt_or_ge L 6 with q | q
  · exfalso
    apply h
    rw [Int32.lt_iff_toInt_lt, nI_toInt (n := i) (by omega)]
    have h2 : (nI L - nI 6).toInt < 0 := by
      rcases (by omega : L = 0 ∨ L = 1 ∨ L = 2 ∨ L = 3 ∨ L = 4 ∨ L = 5) with rfl | rfl | rfl | rfl | rfl | rfl <;> decide
    omega
  · rw [pk_sub q] at h
    rcases Nat.lt_or_ge (L - 6) i with q2 | q2
    · exact absurd (nI_lt q2 (by omega)) h
    · omega

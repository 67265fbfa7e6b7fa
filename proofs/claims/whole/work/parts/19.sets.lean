/-! SETS of one size, and their order. -/
/-- how many of the first n bits are set -/
def pcn (s : Nat) : Nat → Nat
  | 0 => 0
  | n + 1 => pcn s n + if s.testBit n then 1 else 0
/-- the same by halves, for the table -/
def pch : Nat → Nat → Nat
  | 0, _ => 0
  | f + 1, s => Nat.add (Nat.mod s 2) (pch f (Nat.div s 2))
theorem pcn_half (s : Nat) : ∀ n, pcn s (n + 1) = s % 2 + pcn (s / 2) n
  | 0 => by
    have h := Nat.mod_two_eq_zero_or_one s
    simp only [pcn, Nat.testBit_zero]
    rcases h with h | h <;> simp [h]
  | n + 1 => by
    have h := pcn_half s n
    have e : s.testBit (n + 1) = (s / 2).testBit n := Nat.testBit_succ s n
    rw [pcn, h, e]
    simp only [pcn]
    omega
theorem pch_eq : ∀ f s, pch f s = pcn s f
  | 0, _ => rfl
  | f + 1, s => by
    rw [pcn_half]
    show s % 2 + pch f (s / 2) = _
    rw [pch_eq f]
def bcN1 (s : Nat) : Nat := Nat.sub s (Nat.land (Nat.shiftRight s 1) 1431655765)
def bcN2 (x : Nat) : Nat := Nat.add (Nat.land x 858993459) (Nat.land (Nat.shiftRight x 2) 858993459)
def bcN3 (x : Nat) : Nat := Nat.land (Nat.add x (Nat.shiftRight x 4)) 252645135
def bcN4 (x : Nat) : Nat := Nat.add x (Nat.shiftRight x 8)
def bcN5 (x : Nat) : Nat := Nat.land (Nat.add x (Nat.shiftRight x 16)) 63
def bcN (s : Nat) : Nat := bcN5 (bcN4 (bcN3 (bcN2 (bcN1 s))))
def bcK : Nat → Nat → Bool
  | 0, lo => Nat.beq (bcN lo) (pch 16 lo)
  | n + 1, lo => bcK n lo && bcK n (Nat.add lo (Nat.pow 2 n))
theorem bc_tab : bcK 16 0 = true := by decide +kernel
theorem bcK_at : ∀ (n lo : Nat), bcK n lo = true → ∀ s, lo ≤ s → s < lo + 2 ^ n → bcN s = pch 16 s
  | 0, lo, h, s, h1, h2 => by
    have e : s = lo := by simp only [Nat.pow_zero] at h2; omega
    subst e
    exact Nat.eq_of_beq_eq_true h
  | n + 1, lo, h, s, h1, h2 => by
    simp only [bcK, Bool.and_eq_true] at h
    rw [Nat.pow_succ] at h2
    rcases Nat.lt_or_ge s (lo + 2 ^ n) with q | q
    · exact bcK_at n lo h.1 s h1 q
    · exact bcK_at n (lo + 2 ^ n) h.2 s q (by omega)
theorem nI_xor (a b : Nat) : nI a ^^^ nI b = nI (a ^^^ b) := by
  apply Int32.toBitVec_inj.mp
  simp only [nI, Int32.toBitVec_xor]
  show BitVec.ofNat 32 a ^^^ BitVec.ofNat 32 b = BitVec.ofNat 32 (a ^^^ b)
  exact BitVec.ofNat_xor.symm
theorem nI_or (a b : Nat) : nI a ||| nI b = nI (a ||| b) := by
  apply Int32.toBitVec_inj.mp
  simp only [nI, Int32.toBitVec_or]
  show BitVec.ofNat 32 a ||| BitVec.ofNat 32 b = BitVec.ofNat 32 (a ||| b)
  exact BitVec.ofNat_or.symm
theorem ush_tab : ∀ j : Fin 32, (((nI j.val).toUInt32 &&& Int32.toUInt32 31).toBitVec % 32).toNat = j.val := by decide +kernel
theorem ush_nI {a k : Nat} (ha : a < 2 ^ 32) (hk : k < 32) : ush (nI a) k = nI (a / 2 ^ k) := pk_ushrN ha (nI k) k (ush_tab ⟨k, hk⟩)
theorem land_le (a b : Nat) : Nat.land a b ≤ a := Nat.and_le_left
theorem shr_eq (a k : Nat) : Nat.shiftRight a k = a / 2 ^ k := Nat.shiftRight_eq_div_pow a k
theorem bc1_nI {s : Nat} (h : s < 65536) : bc1 (nI s) = nI (bcN1 s) ∧ bcN1 s ≤ s := by
  refine ⟨?_, Nat.sub_le _ _⟩
  unfold bc1 bcN1
  rw [ush_nI (by omega) (by decide), shr_eq]
  show nI s - (nI (s / 2 ^ 1) &&& nI 1431655765) = _
  rw [nI_and]
  exact pk_sub (Nat.le_trans Nat.and_le_left (Nat.div_le_self _ _))
theorem bc2_nI {x : Nat} (h : x < 65536) : bc2 (nI x) = nI (bcN2 x) ∧ bcN2 x < 131072 := by
  have h1 := land_le x 858993459
  have h2 := land_le (Nat.shiftRight x 2) 858993459
  rw [shr_eq] at h2
  have h3 := Nat.div_le_self x (2 ^ 2)
  constructor
  · unfold bc2 bcN2
    rw [ush_nI (by omega) (by decide), shr_eq]
    show (nI x &&& nI 858993459) + (nI (x / 2 ^ 2) &&& nI 858993459) = _
    rw [nI_and, nI_and, nI_add]
    rfl
  · unfold bcN2
    rw [shr_eq]
    show Nat.land x 858993459 + Nat.land (x / 2 ^ 2) 858993459 < _
    omega
theorem bc3_nI {x : Nat} (h : x < 131072) : bc3 (nI x) = nI (bcN3 x) ∧ bcN3 x < 262144 := by
  have h3 := Nat.div_le_self x (2 ^ 4)
  constructor
  · unfold bc3 bcN3
    rw [ush_nI (by omega) (by decide), shr_eq]
    show (nI x + nI (x / 2 ^ 4)) &&& nI 252645135 = _
    rw [nI_add, nI_and]
    rfl
  · unfold bcN3
    have := land_le (Nat.add x (Nat.shiftRight x 4)) 252645135
    have e : Nat.add x (Nat.shiftRight x 4) = x + x / 2 ^ 4 := by rw [shr_eq]; rfl
    omega
theorem bc4_nI {x : Nat} (h : x < 262144) : bc4 (nI x) = nI (bcN4 x) ∧ bcN4 x < 524288 := by
  have h3 := Nat.div_le_self x (2 ^ 8)
  constructor
  · unfold bc4 bcN4
    rw [ush_nI (by omega) (by decide), shr_eq, nI_add]
    rfl
  · unfold bcN4
    rw [shr_eq]
    show x + x / 2 ^ 8 < _
    omega
theorem bcF_nI {s : Nat} (h : s < 65536) : bcF (nI s) = nI (pcn s 16) := by
  have h1 := bc1_nI h
  have h2 := bc2_nI (x := bcN1 s) (by omega)
  have h3 := bc3_nI h2.2
  have h4 := bc4_nI h3.2
  have h5 := bcK_at 16 0 bc_tab s (Nat.zero_le _) (by omega)
  rw [← pch_eq, ← h5]
  unfold bcF
  rw [h1.1, h2.1, h3.1, h4.1]
  unfold bc5
  rw [ush_nI (by omega) (by decide)]
  rw [nI_add, nI_and]
  unfold bcN bcN5
  rw [shr_eq]
  rfl
/-- the next greater number with as many bits -/
def lo1 (s : Nat) : Nat := Nat.land s (Nat.sub 4294967296 s)
def nxN (s : Nat) : Nat := Nat.lor (Nat.add s (lo1 s)) (Nat.shiftRight (Nat.shiftRight (Nat.xor s (Nat.add s (lo1 s))) 2) (Nat.log2 (lo1 s)))
def nxL (t : Nat) : Bool := Nat.beq (lo1 t) (Nat.pow 2 (Nat.log2 (lo1 t))) && Nat.blt (Nat.log2 (lo1 t)) 16
def nxA (t a m : Nat) : Bool := Nat.beq a 0 || (Nat.ble (Nat.pow 2 m) (nxN a) || Nat.beq (nxN t) (Nat.add (Nat.pow 2 m) (nxN a)))
/-- all t of lo .. lo + 2^n - 1, whose highest bit is m, whose rest begins at a -/
def nxK (m : Nat) : Nat → Nat → Bool
  | 0, a => nxL (Nat.add (Nat.pow 2 m) a) && nxA (Nat.add (Nat.pow 2 m) a) a m
  | n + 1, a => nxK m n a && nxK m n (Nat.add a (Nat.pow 2 n))
theorem nx_tab : ∀ m : Fin 16, nxK m.val m.val 0 = true := by decide +kernel
theorem nx_bd : ∀ m : Fin 16, ∀ k : Fin 16, k.val < 1 ∨ m.val < k.val ∨ nxN (2 ^ m.val - 2 ^ (m.val - k.val)) = 2 ^ m.val + (2 ^ (k.val - 1) - 1) := by decide +kernel
theorem nxK_at (m : Nat) : ∀ (n a : Nat), nxK m n a = true → ∀ b, a ≤ b → b < a + 2 ^ n → nxL (2 ^ m + b) = true ∧ nxA (2 ^ m + b) b m = true
  | 0, a, h, b, h1, h2 => by
    have e : b = a := by simp only [Nat.pow_zero] at h2; omega
    subst e
    simp only [nxK, Bool.and_eq_true] at h
    exact h
  | n + 1, a, h, b, h1, h2 => by
    simp only [nxK, Bool.and_eq_true] at h
    rw [Nat.pow_succ] at h2
    rcases Nat.lt_or_ge b (a + 2 ^ n) with q | q
    · exact nxK_at m n a h.1 b h1 q
    · exact nxK_at m n (a + 2 ^ n) h.2 b q (by omega)

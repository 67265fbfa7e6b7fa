/-! Values as numbers, truths, and perhaps-numbers (none is -1). -/
def oI (x : Option Nat) : Int32 := match x with
  | none => -1
  | some j => nI j
def oF (f : Nat → Option Nat) : Nat → Int32 := fun k => oI (f k)
def nF (f : Nat → Nat) : Nat → Int32 := fun k => nI (f k)
def bF (f : Nat → Bool) : Nat → Int32 := fun k => b2i (f k)
theorem oF_up (f : Nat → Option Nat) (i : Nat) (x : Option Nat) : upd (oF f) i (oI x) = oF (va_up f i x) := by
  funext k; simp only [upd, oF, va_up]; split <;> rfl
theorem nF_up (f : Nat → Nat) (i x : Nat) : upd (nF f) i (nI x) = nF (va_up f i x) := by
  funext k; simp only [upd, nF, va_up]; split <;> rfl
theorem bF_up (f : Nat → Bool) (i : Nat) (x : Bool) : upd (bF f) i (b2i x) = bF (va_up f i x) := by
  funext k; simp only [upd, bF, va_up]; split <;> rfl
theorem lF_up (f : Nat → Int64) (i : Nat) (x : Int64) : vp_updL f i x = va_up f i x := by
  funext k; simp only [vp_updL, va_up]
theorem iF_up (f : Nat → Int32) (i : Nat) (x : Int32) : upd f i x = va_up f i x := by
  funext k; simp only [upd, va_up]
/-- below n, if a number -/
def ob (n : Nat) (x : Option Nat) : Prop := ∀ j, x = some j → j < n
theorem ob_n {n : Nat} : ob n none := fun _ h => by cases h
theorem ob_s {n j : Nat} (h : j < n) : ob n (some j) := fun _ e => by cases e; exact h
theorem ob.big {n m : Nat} {x : Option Nat} (h : ob n x) (hm : n ≤ m) : ob m x := fun j e => Nat.lt_of_lt_of_le (h j e) hm
theorem oI_m1 {x : Option Nat} (h : ob 2147483648 x) : oI x = -1 ↔ x = none := by
  cases x with
  | none => simp [oI]
  | some j =>
    have hj := h j rfl
    simp only [oI, reduceCtorEq, iff_false]
    intro e
    have := congrArg Int32.toInt e
    rw [nI_toInt (by omega)] at this
    have h2 : (-1 : Int32).toInt = -1 := by decide
    omega
theorem oI_lt0 {x : Option Nat} (h : ob 2147483648 x) : oI x < 0 ↔ x = none := by
  cases x with
  | none => simp only [oI, iff_true]; decide
  | some j =>
    have hj := h j rfl
    simp only [oI, reduceCtorEq, iff_false]
    exact nI_pos (by omega)
theorem oI_ge0 {x : Option Nat} (h : ob 2147483648 x) : 0 ≤ oI x ↔ x ≠ none := by
  cases x with
  | none => simp only [oI, ne_eq, not_true, iff_false]; decide
  | some j =>
    have hj := h j rfl
    simp only [oI, ne_eq, reduceCtorEq, not_false_eq_true, iff_true]
    exact nI_pos' (by omega)
theorem oI_inj {x z : Option Nat} (h : ob 2147483648 x) (h2 : ob 2147483648 z) : oI x = oI z ↔ x = z := by
  cases z with
  | none => exact oI_m1 h
  | some j =>
    have hj := h2 j rfl
    cases x with
    | none =>
      simp only [reduceCtorEq, iff_false]
      intro e
      have := (oI_m1 h2).mp e.symm
      cases this
    | some i =>
      have hi := h i rfl
      simp only [oI, Option.some.injEq]
      exact nI_eq (by omega) (by omega)
section JO
variable {κ : jK} {l : Launch} {y : MethodName} {cc : ByteArray} {nL : Nat} {own : String} {Ts : List Cond} {ret : Option FieldType} {rm : Room} {G : jG} {A : Nat → Prop} {cs ss : Nat} {Q : State → Prop} {pc : Nat} {lv : List (Nat × Value)} {st : List Value} {ws : va_W}
theorem j_icmpZ_eq (X : CX κ l y cc nL own Ts ret rm G A) {a : Option Nat} {off : Int} {tgt : Nat} (ha : ob 2147483648 a) (hd : decode cc pc = .ok (.if_icmp .eq off, 3)) (ht : (pc : Int) + off = (tgt : Int)) (kt : a = none → JJ κ nL G A cs ss Q tgt lv st ws) (kf : ¬ a = none → JJ κ nL G A cs ss Q (pc + 3) lv st ws) : JJ κ nL G A cs ss Q pc lv (.int (oI none) :: .int (oI a) :: st) ws :=
  j_icmp_eq X hd ht (fun c => kt ((oI_m1 ha).mp c)) (fun c => kf (fun h => c ((oI_m1 ha).mpr h)))
theorem j_icmpZ_ne (X : CX κ l y cc nL own Ts ret rm G A) {a : Option Nat} {off : Int} {tgt : Nat} (ha : ob 2147483648 a) (hd : decode cc pc = .ok (.if_icmp .ne off, 3)) (ht : (pc : Int) + off = (tgt : Int)) (kt : ¬ a = none → JJ κ nL G A cs ss Q tgt lv st ws) (kf : a = none → JJ κ nL G A cs ss Q (pc + 3) lv st ws) : JJ κ nL G A cs ss Q pc lv (.int (oI none) :: .int (oI a) :: st) ws :=
  j_icmp_ne X hd ht (fun c => kt (fun h => c ((oI_m1 ha).mpr h))) (fun c => kf ((oI_m1 ha).mp c))
theorem j_icmpO_eq (X : CX κ l y cc nL own Ts ret rm G A) {a b : Option Nat} {off : Int} {tgt : Nat} (ha : ob 2147483648 a) (hb : ob 2147483648 b) (hd : decode cc pc = .ok (.if_icmp .eq off, 3)) (ht : (pc : Int) + off = (tgt : Int)) (kt : a = b → JJ κ nL G A cs ss Q tgt lv st ws) (kf : ¬ a = b → JJ κ nL G A cs ss Q (pc + 3) lv st ws) : JJ κ nL G A cs ss Q pc lv (.int (oI b) :: .int (oI a) :: st) ws :=
  j_icmp_eq X hd ht (fun c => kt ((oI_inj ha hb).mp c)) (fun c => kf (fun h => c ((oI_inj ha hb).mpr h)))
theorem j_icmpO_ne (X : CX κ l y cc nL own Ts ret rm G A) {a b : Option Nat} {off : Int} {tgt : Nat} (ha : ob 2147483648 a) (hb : ob 2147483648 b) (hd : decode cc pc = .ok (.if_icmp .ne off, 3)) (ht : (pc : Int) + off = (tgt : Int)) (kt : ¬ a = b → JJ κ nL G A cs ss Q tgt lv st ws) (kf : a = b → JJ κ nL G A cs ss Q (pc + 3) lv st ws) : JJ κ nL G A cs ss Q pc lv (.int (oI b) :: .int (oI a) :: st) ws :=
  j_icmp_ne X hd ht (fun c => kt (fun h => c ((oI_inj ha hb).mpr h))) (fun c => kf ((oI_inj ha hb).mp c))
theorem j_ifO_lt (X : CX κ l y cc nL own Ts ret rm G A) {a : Option Nat} {off : Int} {tgt : Nat} (ha : ob 2147483648 a) (hd : decode cc pc = .ok (.ifCond .lt off, 3)) (ht : (pc : Int) + off = (tgt : Int)) (kt : a = none → JJ κ nL G A cs ss Q tgt lv st ws) (kf : ¬ a = none → JJ κ nL G A cs ss Q (pc + 3) lv st ws) : JJ κ nL G A cs ss Q pc lv (.int (oI a) :: st) ws :=
  j_if_lt X hd ht (fun c => kt ((oI_lt0 ha).mp c)) (fun c => kf (fun h => c ((oI_lt0 ha).mpr h)))
theorem j_ifO_ge (X : CX κ l y cc nL own Ts ret rm G A) {a : Option Nat} {off : Int} {tgt : Nat} (ha : ob 2147483648 a) (hd : decode cc pc = .ok (.ifCond .ge off, 3)) (ht : (pc : Int) + off = (tgt : Int)) (kt : ¬ a = none → JJ κ nL G A cs ss Q tgt lv st ws) (kf : a = none → JJ κ nL G A cs ss Q (pc + 3) lv st ws) : JJ κ nL G A cs ss Q pc lv (.int (oI a) :: st) ws :=
  j_if_ge X hd ht (fun c => kt ((oI_ge0 ha).mp c)) (fun c => kf (Decidable.not_not.mp (fun h => c ((oI_ge0 ha).mpr h))))
end JO
section JT
variable {κ : jK} {l : Launch} {y : MethodName} {cc : ByteArray} {nL : Nat} {own : String} {Ts : List Cond} {ret : Option FieldType} {rm : Room} {G : jG} {A : Nat → Prop} {cs ss : Nat} {Q : State → Prop} {pc : Nat} {lv : List (Nat × Value)} {st : List Value} {ws ws' : va_W}
theorem j_tswI (X : CX κ l y cc nL own Ts ret rm G A) {dflt lo hi : Int} {offs : Array Int} {len : Nat} {x : Int32} {off : Int} {tgt : Nat} (hd : decode cc pc = .ok (.tableswitch dflt lo hi offs, len)) (h1 : ¬ x.toInt < lo) (h2 : ¬ hi < x.toInt) (ho : offs[(x.toInt - lo).toNat]? = some off) (ht : (pc : Int) + off = (tgt : Int)) (k : JJ κ nL G A cs ss Q tgt lv st ws) : JJ κ nL G A cs ss Q pc lv (.int x :: st) ws :=
  fun H locs ls hP hD hS hl => lv_tableIn X.2.1 X.2.2.1 hd h1 h2 ho ht (k H locs ls hP hD hS hl)
theorem j_tswO (X : CX κ l y cc nL own Ts ret rm G A) {dflt lo hi : Int} {offs : Array Int} {len : Nat} {x : Int32} {tgt : Nat} (hd : decode cc pc = .ok (.tableswitch dflt lo hi offs, len)) (h : x.toInt < lo ∨ hi < x.toInt) (ht : (pc : Int) + dflt = (tgt : Int)) (k : JJ κ nL G A cs ss Q tgt lv st ws) : JJ κ nL G A cs ss Q pc lv (.int x :: st) ws :=
  fun H locs ls hP hD hS hl => lv_tableOut X.2.1 X.2.2.1 hd h ht (k H locs ls hP hD hS hl)
end JT
theorem j_ifd_eq {κ : jK} {l : Launch} {y : MethodName} {cc : ByteArray} {nL : Nat} {own : String} {Ts : List Cond} {ret : Option FieldType} {rm : Room} {G : jG} {A : Nat → Prop} {cs ss : Nat} {Q : State → Prop} {pc : Nat} {lv : List (Nat × Value)} {st : List Value} {ws : va_W} (X : CX κ l y cc nL own Ts ret rm G A) {P : Prop} [Decidable P] {off : Int} {tgt : Nat} (hd : decode cc pc = .ok (.ifCond .eq off, 3)) (ht : (pc : Int) + off = (tgt : Int)) (kt : ¬ P → JJ κ nL G A cs ss Q tgt lv st ws) (kf : P → JJ κ nL G A cs ss Q (pc + 3) lv st ws) : JJ κ nL G A cs ss Q pc lv (.int (b2i (decide P)) :: st) ws :=
  j_ifb_eq X hd ht (fun c => kt (of_decide_eq_false c)) (fun c => kf (of_decide_eq_true c))
theorem j_ifd_ne {κ : jK} {l : Launch} {y : MethodName} {cc : ByteArray} {nL : Nat} {own : String} {Ts : List Cond} {ret : Option FieldType} {rm : Room} {G : jG} {A : Nat → Prop} {cs ss : Nat} {Q : State → Prop} {pc : Nat} {lv : List (Nat × Value)} {st : List Value} {ws : va_W} (X : CX κ l y cc nL own Ts ret rm G A) {P : Prop} [Decidable P] {off : Int} {tgt : Nat} (hd : decode cc pc = .ok (.ifCond .ne off, 3)) (ht : (pc : Int) + off = (tgt : Int)) (kt : P → JJ κ nL G A cs ss Q tgt lv st ws) (kf : ¬ P → JJ κ nL G A cs ss Q (pc + 3) lv st ws) : JJ κ nL G A cs ss Q pc lv (.int (b2i (decide P)) :: st) ws :=
  j_ifb_ne X hd ht (fun c => kt (of_decide_eq_true c)) (fun c => kf (of_decide_eq_false c))
/-- the first i places hold v -/
def fil {α : Type} (v : α) (f : Nat → α) (i : Nat) : Nat → α := fun k => if k < i then v else f k
theorem fil_0 {α : Type} (v : α) (f : Nat → α) : fil v f 0 = f := by funext k; simp [fil]
theorem fil_s {α : Type} (v : α) (f : Nat → α) (i : Nat) : va_up (fil v f i) i v = fil v f (i + 1) := by
  funext k
  simp only [va_up, fil]
  by_cases h : k = i
  · subst h; simp
  · by_cases h2 : k < i
    · simp [h, h2, Nat.lt_succ_of_lt h2]
    · have : ¬ k < i + 1 := by omega
      simp [h, h2, this]

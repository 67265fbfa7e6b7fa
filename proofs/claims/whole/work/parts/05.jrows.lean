/-! The judgement that the walks are written in: JJ κ .. pc lv st ws: from the instruction pc, with the locals lv, the operand stack st and the cells ws, the method comes to its end with Q. -/
abbrev jK : Type := Program × Launch × Env × Room × State × MethodId × Array Value × List Frame × Method × Code
abbrev jp (κ : jK) : Program := κ.1
abbrev jl (κ : jK) : Launch := κ.2.1
abbrev je (κ : jK) : Env := κ.2.2.1
abbrev jR (κ : jK) : Room := κ.2.2.2.1
abbrev js (κ : jK) : State := κ.2.2.2.2.1
abbrev jm (κ : jK) : MethodId := κ.2.2.2.2.2.1
abbrev jar (κ : jK) : Array Value := κ.2.2.2.2.2.2.1
abbrev jb (κ : jK) : List Frame := κ.2.2.2.2.2.2.2.1
abbrev jme (κ : jK) : Method := κ.2.2.2.2.2.2.2.2.1
abbrev jc (κ : jK) : Code := κ.2.2.2.2.2.2.2.2.2
abbrev jG : Type := va_G × ClassId × ClassId × ClassId × ClassId
abbrev jtys (G : jG) : List (ClassId × FieldType) := [(G.2.1, .int), (G.2.2.1, .long), (G.2.2.2.1, .boolean), (G.2.2.2.2, .object RX7)]
def jNf : List (String × Nat × String × String × String × String) := [("MentorPairs", 118, "MentorPairs$Circle", "elders", "I", "MentorPairs"), ("MentorPairs", 127, "MentorPairs$Circle", "beginners", "I", "MentorPairs"), ("MentorPairs", 137, "MentorPairs$Circle", "placesOf", "[I", "MentorPairs"), ("MentorPairs", 163, "MentorPairs$Pairing", "elderBy", "[I", "MentorPairs"), ("MentorPairs", 166, "MentorPairs$Pairing", "given", "Z", "MentorPairs"), ("MentorPairs", 194, "MentorPairs$Meetings", "many", "I", "MentorPairs"), ("MentorPairs", 203, "MentorPairs$Meetings", "dueOn", "[I", "MentorPairs"), ("MentorPairs", 206, "MentorPairs$Meetings", "tellings", "I", "MentorPairs"), ("MentorPairs", 220, "MentorPairs$Goals", "many", "I", "MentorPairs"), ("MentorPairs", 226, "MentorPairs$Goals", "confirmedOn", "[I", "MentorPairs"), ("MentorPairs", 232, "MentorPairs$Runs", "many", "I", "MentorPairs"), ("MentorPairs", 240, "MentorPairs$Fraction", "above", "J", "MentorPairs"), ("MentorPairs", 244, "MentorPairs$Fraction", "below", "J", "MentorPairs"), ("MentorPairs", 263, "MentorPairs$Tray", "missing", "Z", "MentorPairs"), ("MentorPairs", 272, "MentorPairs$Tray", "sort", "I", "MentorPairs"), ("MentorPairs", 95, "MentorPairs$Tray", "numbers", "[J", "MentorPairs"), ("MentorPairs$Pairing", 32, "MentorPairs$Circle", "placesOf", "[I", "MentorPairs"), ("MentorPairs$Pairing", 37, "MentorPairs$Circle", "beginners", "I", "MentorPairs"), ("MentorPairs$Pairing", 61, "MentorPairs$Circle", "elders", "I", "MentorPairs"), ("MentorPairs$Row", 42, "MentorPairs$Pairing", "elderBy", "[I", "MentorPairs"), ("MentorPairs$Row", 53, "MentorPairs$Circle", "elders", "I", "MentorPairs"), ("MentorPairs$Row", 68, "MentorPairs$Circle", "placesOf", "[I", "MentorPairs"), ("MentorPairs$Row", 75, "MentorPairs$Circle", "beginners", "I", "MentorPairs"), ("MentorPairs$Trial", 30, "MentorPairs$Tray", "numbers", "[J", "MentorPairs")]
def jNm : List (String × Nat × MethodName × String) := [("MentorPairs", 121, ⟨"MentorPairs$Circle", "addElder", "(I)I"⟩, "MentorPairs"), ("MentorPairs", 130, ⟨"MentorPairs$Circle", "addBeginner", "()I"⟩, "MentorPairs"), ("MentorPairs", 134, ⟨"MentorPairs$Circle", "isElder", "(I)Z"⟩, "MentorPairs"), ("MentorPairs", 141, ⟨"MentorPairs$Circle", "areTwo", "(II)Z"⟩, "MentorPairs"), ("MentorPairs", 145, ⟨"MentorPairs$Circle", "setLiking", "(IIZI)V"⟩, "MentorPairs"), ("MentorPairs", 149, ⟨"MentorPairs$Circle", "isBarred", "(II)Z"⟩, "MentorPairs"), ("MentorPairs", 152, ⟨"MentorPairs$Circle", "setBarred", "(IIZ)V"⟩, "MentorPairs"), ("MentorPairs", 156, ⟨"MentorPairs$Pairing", "makeBest", "(LMentorPairs$Circle;)I"⟩, "MentorPairs"), ("MentorPairs", 17, ⟨"MentorPairs$Circle", "<init>", "()V"⟩, "MentorPairs"), ("MentorPairs", 170, ⟨"MentorPairs$Pairing", "countOf", "(I)I"⟩, "MentorPairs"), ("MentorPairs", 173, ⟨"MentorPairs$Pairing", "countBlocking", "(LMentorPairs$Circle;)I"⟩, "MentorPairs"), ("MentorPairs", 176, ⟨"MentorPairs$Pairing", "isBlockedBy", "(LMentorPairs$Circle;II)Z"⟩, "MentorPairs"), ("MentorPairs", 180, ⟨"MentorPairs$Row", "findLast", "(LMentorPairs$Circle;LMentorPairs$Pairing;I)I"⟩, "MentorPairs"), ("MentorPairs", 184, ⟨"MentorPairs$Row", "moveAll", "(LMentorPairs$Pairing;I)I"⟩, "MentorPairs"), ("MentorPairs", 188, ⟨"MentorPairs$Circle", "isBeginner", "(I)Z"⟩, "MentorPairs"), ("MentorPairs", 197, ⟨"MentorPairs$Meetings", "add", "(II)I"⟩, "MentorPairs"), ("MentorPairs", 200, ⟨"MentorPairs$Meetings", "isMeeting", "(I)Z"⟩, "MentorPairs"), ("MentorPairs", 209, ⟨"MentorPairs$Meetings", "addTelling", "(IZI)V"⟩, "MentorPairs"), ("MentorPairs", 213, ⟨"MentorPairs$Meetings", "count", "(III)I"⟩, "MentorPairs"), ("MentorPairs", 217, ⟨"MentorPairs$Goals", "isGoalOf", "(II)Z"⟩, "MentorPairs"), ("MentorPairs", 221, ⟨"MentorPairs$Goals", "add", "(III)I"⟩, "MentorPairs"), ("MentorPairs", 223, ⟨"MentorPairs$Goals", "isGoal", "(I)Z"⟩, "MentorPairs"), ("MentorPairs", 229, ⟨"MentorPairs$Goals", "asOf", "(II)I"⟩, "MentorPairs"), ("MentorPairs", 233, ⟨"MentorPairs$Runs", "add", "(IZ)V"⟩, "MentorPairs"), ("MentorPairs", 236, ⟨"MentorPairs$Runs", "shareBeyond", "(ILMentorPairs$Fraction;)V"⟩, "MentorPairs"), ("MentorPairs", 24, ⟨"MentorPairs$Pairing", "<init>", "()V"⟩, "MentorPairs"), ("MentorPairs", 250, ⟨"MentorPairs$Trial", "lay", "(LMentorPairs$Tray;I)V"⟩, "MentorPairs"), ("MentorPairs", 254, ⟨"MentorPairs$Trial", "gainOf", "(ILMentorPairs$Fraction;)V"⟩, "MentorPairs"), ("MentorPairs", 257, ⟨"MentorPairs$Trial", "chanceOf", "(ILMentorPairs$Fraction;)V"⟩, "MentorPairs"), ("MentorPairs", 260, ⟨"MentorPairs$Trial", "drawnSet", "(III)I"⟩, "MentorPairs"), ("MentorPairs", 269, ⟨"MentorPairs$Tray", "hasPlaces", "(II)Z"⟩, "MentorPairs"), ("MentorPairs", 275, ⟨"MentorPairs$Tray", "hasOutcomes", "(I)Z"⟩, "MentorPairs"), ("MentorPairs", 31, ⟨"MentorPairs$Row", "<init>", "()V"⟩, "MentorPairs"), ("MentorPairs", 38, ⟨"MentorPairs$Meetings", "<init>", "()V"⟩, "MentorPairs"), ("MentorPairs", 45, ⟨"MentorPairs$Goals", "<init>", "()V"⟩, "MentorPairs"), ("MentorPairs", 52, ⟨"MentorPairs$Runs", "<init>", "()V"⟩, "MentorPairs"), ("MentorPairs", 59, ⟨"MentorPairs$Trial", "<init>", "()V"⟩, "MentorPairs"), ("MentorPairs", 66, ⟨"MentorPairs$Fraction", "<init>", "()V"⟩, "MentorPairs"), ("MentorPairs", 75, ⟨"MentorPairs$Tray", "<init>", "()V"⟩, "MentorPairs"), ("MentorPairs", 83, ⟨"MentorPairs$Tray", "make", "(II)V"⟩, "MentorPairs"), ("MentorPairs", 91, ⟨"MentorPairs$Tray", "put", "(IJ)V"⟩, "MentorPairs"), ("MentorPairs$Pairing", 41, ⟨"MentorPairs$Circle", "elderPrefers", "(III)Z"⟩, "MentorPairs"), ("MentorPairs$Pairing", 64, ⟨"MentorPairs$Circle", "canPair", "(II)Z"⟩, "MentorPairs"), ("MentorPairs$Pairing", 68, ⟨"MentorPairs$Circle", "beginnerPrefers", "(III)Z"⟩, "MentorPairs"), ("MentorPairs$Row", 47, ⟨"MentorPairs$Circle", "canPair", "(II)Z"⟩, "MentorPairs"), ("MentorPairs$Row", 64, ⟨"MentorPairs$Pairing", "countOf", "(I)I"⟩, "MentorPairs"), ("MentorPairs$Runs", 30, ⟨"MentorPairs$Fraction", "become", "(JJ)V"⟩, "MentorPairs"), ("MentorPairs$Trial", 42, ⟨"MentorPairs$Fraction", "become", "(JJ)V"⟩, "MentorPairs")]
def jkf (q : String × Nat × String × String × String × String) : Cond := .fieldLinkNest q.1 q.2.1 q.2.2.1 q.2.2.2.1 q.2.2.2.2.1 q.2.2.2.2.2
def jkm (q : String × Nat × MethodName × String) : Cond := .methodLinkNest q.1 q.2.1 q.2.2.1 q.2.2.2
def jN (U : State) : Prop := (∀ q ∈ jNf, va_Nw (jkf q) U) ∧ ∀ q ∈ jNm, va_Nw (jkm q) U
theorem jN.warm {s U : State} (hW : s.WarmedH U.vm) (h : jN s) : jN U := ⟨fun q hq => va_Nw.warmF hW (h.1 q hq), fun q hq => va_Nw.warmM hW (h.2 q hq)⟩
theorem jN.same {s U : State} (hv : s.vm = U.vm) (h : jN s) : jN U := ⟨fun q hq => va_Nw.same rfl hv (h.1 q hq), fun q hq => va_Nw.same rfl hv (h.2 q hq)⟩
def jS (G : jG) (U : State) : Prop := va_K G.1 vwCl (jtys G) U ∧ jN U
theorem jS.warm {G : jG} {s U : State} (hW : s.WarmedH U.vm) (h : jS G s) : jS G U := ⟨va_K.moved hW.alike h.1, jN.warm hW h.2⟩
def jPre (G : jG) (as : List Value) (w : va_W) (sz : Nat) : Array Value → State → Prop := va_Pc as (fun U => U.heap.size = sz ∧ va_P G.1 vwCl w U.heap ∧ jS G U ∧ va_D (fun _ => True) w)
def jPost (G : jG) (w : va_W) (sz : Nat) (Qr : Option Value → va_W → Prop) : Array Value → State → Outcome → State → Prop := fun _ st oc t => (∃ (r : Option Value) (w' : va_W), oc = .returned r ∧ Qr r w' ∧ va_P G.1 vwCl w' t.heap ∧ va_D (va_A w sz) w') ∧ va_F (va_A w sz) st t
theorem jPre.blind {G : jG} {as : List Value} {w : va_W} {sz : Nat} : FrameBlind (jPre G as w sz) := by
  intro a U g mk q
  obtain ⟨q0, q1, qP, ⟨qK, qN⟩, qD⟩ := q
  exact ⟨q0, q1, qP, ⟨va_K.moved (u := U) (U := U.calling g mk a) (Vm.Alike.refl U.vm) qK, jN.same (U := U.calling g mk a) rfl qN⟩, qD⟩
/-- a method's contract: with the arguments as and the cells w it returns, and answer and new cells are as Qr says -/
def MF (l : Launch) (y : MethodName) (ws : List Cond) (rm : Room) (G : jG) (as : List Value) (w : va_W) (mc ms : Nat) (Qr : Option Value → va_W → Prop) : Prop :=
  ∀ sz : Nat, Met l y ws rm (jPre G as w sz) (jPost G w sz Qr) mc ms (va_A w sz)
def CX (κ : jK) (l : Launch) (y : MethodName) (cc : ByteArray) (nL : Nat) (own : String) (Ts : List Cond) (ret : Option FieldType) (rm : Room) (G : jG) (A : Nat → Prop) : Prop :=
  (jl κ = l ∧ jR κ = rm) ∧ (jp κ).tables.exec = Jvm.exec ∧ (jc κ).code = cc ∧ (jc κ).maxLocals = nL ∧ (js κ).vm.findClass own = some (jm κ).cls ∧ (∀ w ∈ Ts, w.before (jar κ) (js κ) = true) ∧ jS G (js κ) ∧ (∀ q, (js κ).heap.size ≤ q → A q) ∧ (jme κ).locks = false ∧ (jme κ).sig.returnType = ret ∧ (jme κ).name = y.name
def JJ (κ : jK) (nL : Nat) (G : jG) (A : Nat → Prop) (cs ss : Nat) (Q : State → Prop) (pc : Nat) (lv : List (Nat × Value)) (st : List Value) (ws : va_W) : Prop :=
  ∀ (H : Heap) (locs : List Loc) (ls : Array Slot), va_P G.1 vwCl ws H → va_D A ws → va_S A (js κ).heap H locs → lv_has ls nL lv → W (jp κ) (jl κ) (je κ) (jR κ) (js κ) (jm κ) (jar κ) (jb κ) (jme κ) (jc κ) H locs cs ss Q (F0 (jm κ) pc ls st)
def jQ (κ : jK) (G : jG) (w : va_W) (Qr : Option Value → va_W → Prop) (mc ms : Nat) : State → Prop := MQ (jb κ) (jPost G w (js κ).heap.size Qr) (jar κ) (js κ) mc ms (va_A w (js κ).heap.size)
/-- a contract out of a walk -/
theorem MF.ofJ {l : Launch} {y : MethodName} {ws ws' : List Cond} {rm : Room} {G : jG} {as : List Value} {w : va_W} {mc ms : Nat} {Qr : Option Value → va_W → Prop} {cc : ByteArray} {maxL : Nat} {ret : Option FieldType} {own : String} {lv : List (Nat × Value)}
    (hy : plainName y.cls = true) (hw : ws = Cond.code y cc maxL ret :: ws') (ho : y.cls = own) (hlen : (lg_sl as).length ≤ maxL) (hlv : lv_args 0 as = lv)
    (body : ∀ κ : jK, CX κ l y cc maxL own ws ret rm G (va_A w (js κ).heap.size) → JJ κ maxL G (va_A w (js κ).heap.size) 0 0 (jQ κ G w Qr mc ms) 0 lv [] w) : MF l y ws rm G as w mc ms Qr := by
  intro sz
  refine Met.ofW (cc := cc) (maxL := maxL) (ret := ret) hy hw ?_
  intro p e s m args below meth c s₁ B hml hv
  obtain ⟨rfl, hsz, hP, hK, hD⟩ := hv
  subst hsz
  subst hlv
  have hts := atoms_spec (ws := ws) B.pre
  have hown : s.vm.findClass own = some m.cls := by rw [← ho]; exact findClass_of_methodNamed B.named
  have hl := lv_entry as (n := maxL) hlen
  rw [lg_entry_eq]
  exact body (p, l, e, rm, s, m, as.toArray, below, meth, c) ⟨⟨rfl, rfl⟩, B.exec, B.bytes, hml, hown, hts, hK, fun q h => Or.inr h, B.notSynchronized, B.returns, (name_of_methodNamed B.named B.method).1⟩ s.heap [] _ hP (hD.self (sz := s.heap.size)) va_S.rf hl
section JR
variable {κ : jK} {l : Launch} {y : MethodName} {cc : ByteArray} {nL : Nat} {own : String} {Ts : List Cond} {ret : Option FieldType} {rm : Room} {G : jG} {A : Nat → Prop} {cs ss : Nat} {Q : State → Prop} {pc : Nat} {lv lv' : List (Nat × Value)} {st : List Value} {ws ws' : va_W}
theorem j_iconst (X : CX κ l y cc nL own Ts ret rm G A) {n : Int} {v : Int32} (hd : decode cc pc = .ok (.iconst n, 1)) (hv : Int32.ofInt n = v) (k : JJ κ nL G A cs ss Q (pc + 1) lv (.int v :: st) ws) : JJ κ nL G A cs ss Q pc lv st ws :=
  fun H locs ls hP hD hS hl => lv_iconst X.2.1 X.2.2.1 hd hv (k H locs ls hP hD hS hl)
theorem j_bipush (X : CX κ l y cc nL own Ts ret rm G A) {n : Int} {v : Int32} (hd : decode cc pc = .ok (.bipush n, 2)) (hv : (Int8.ofInt n).toInt32 = v) (k : JJ κ nL G A cs ss Q (pc + 2) lv (.int v :: st) ws) : JJ κ nL G A cs ss Q pc lv st ws :=
  fun H locs ls hP hD hS hl => lv_bipush X.2.1 X.2.2.1 hd hv (k H locs ls hP hD hS hl)
theorem j_sipush (X : CX κ l y cc nL own Ts ret rm G A) {n : Int} {v : Int32} (hd : decode cc pc = .ok (.sipush n, 3)) (hv : (Int16.ofInt n).toInt32 = v) (k : JJ κ nL G A cs ss Q (pc + 3) lv (.int v :: st) ws) : JJ κ nL G A cs ss Q pc lv st ws :=
  fun H locs ls hP hD hS hl => lv_sipush X.2.1 X.2.2.1 hd hv (k H locs ls hP hD hS hl)
theorem j_lconst (X : CX κ l y cc nL own Ts ret rm G A) {n : Fin 2} {v : Int64} (hd : decode cc pc = .ok (.lconst n, 1)) (hv : Int64.ofNat (n : Nat) = v) (k : JJ κ nL G A cs ss Q (pc + 1) lv (.long v :: st) ws) : JJ κ nL G A cs ss Q pc lv st ws :=
  fun H locs ls hP hD hS hl => lv_lconst X.2.1 X.2.2.1 hd hv (k H locs ls hP hD hS hl)
theorem j_iload_n (X : CX κ l y cc nL own Ts ret rm G A) {k0 : Fin 4} {i : Nat} {x : Int32} (hd : decode cc pc = .ok (.iload_n k0, 1)) (hi : (k0 : Nat) = i) (q : Nat) (hq : lv[q]? = some (i, .int x)) (k : JJ κ nL G A cs ss Q (pc + 1) lv (.int x :: st) ws) : JJ κ nL G A cs ss Q pc lv st ws :=
  fun H locs ls hP hD hS hl => lv_iload_n X.2.1 X.2.2.1 hd hi (lv_at hl q hq) (k H locs ls hP hD hS hl)
theorem j_iload (X : CX κ l y cc nL own Ts ret rm G A) {i : Nat} {x : Int32} (hd : decode cc pc = .ok (.iload i, 2)) (q : Nat) (hq : lv[q]? = some (i, .int x)) (k : JJ κ nL G A cs ss Q (pc + 2) lv (.int x :: st) ws) : JJ κ nL G A cs ss Q pc lv st ws :=
  fun H locs ls hP hD hS hl => lv_iload X.2.1 X.2.2.1 hd (lv_at hl q hq) (k H locs ls hP hD hS hl)
theorem j_lload_n (X : CX κ l y cc nL own Ts ret rm G A) {k0 : Fin 4} {i : Nat} {x : Int64} (hd : decode cc pc = .ok (.lload_n k0, 1)) (hi : (k0 : Nat) = i) (q : Nat) (hq : lv[q]? = some (i, .long x)) (k : JJ κ nL G A cs ss Q (pc + 1) lv (.long x :: st) ws) : JJ κ nL G A cs ss Q pc lv st ws :=
  fun H locs ls hP hD hS hl => lv_lload_n X.2.1 X.2.2.1 hd hi (lv_at hl q hq) (k H locs ls hP hD hS hl)
theorem j_lload (X : CX κ l y cc nL own Ts ret rm G A) {i : Nat} {x : Int64} (hd : decode cc pc = .ok (.lload i, 2)) (q : Nat) (hq : lv[q]? = some (i, .long x)) (k : JJ κ nL G A cs ss Q (pc + 2) lv (.long x :: st) ws) : JJ κ nL G A cs ss Q pc lv st ws :=
  fun H locs ls hP hD hS hl => lv_lload X.2.1 X.2.2.1 hd (lv_at hl q hq) (k H locs ls hP hD hS hl)
theorem j_aload_n (X : CX κ l y cc nL own Ts ret rm G A) {k0 : Fin 4} {i : Nat} {x : Nat} (hd : decode cc pc = .ok (.aload_n k0, 1)) (hi : (k0 : Nat) = i) (q : Nat) (hq : lv[q]? = some (i, .ref x)) (k : JJ κ nL G A cs ss Q (pc + 1) lv (.ref x :: st) ws) : JJ κ nL G A cs ss Q pc lv st ws :=
  fun H locs ls hP hD hS hl => lv_aload_n X.2.1 X.2.2.1 hd hi (lv_at hl q hq) (k H locs ls hP hD hS hl)
theorem j_aload (X : CX κ l y cc nL own Ts ret rm G A) {i : Nat} {x : Nat} (hd : decode cc pc = .ok (.aload i, 2)) (q : Nat) (hq : lv[q]? = some (i, .ref x)) (k : JJ κ nL G A cs ss Q (pc + 2) lv (.ref x :: st) ws) : JJ κ nL G A cs ss Q pc lv st ws :=
  fun H locs ls hP hD hS hl => lv_aload X.2.1 X.2.2.1 hd (lv_at hl q hq) (k H locs ls hP hD hS hl)
theorem j_istore_n (X : CX κ l y cc nL own Ts ret rm G A) {k0 : Fin 4} {i : Nat} {x : Int32} (hd : decode cc pc = .ok (.istore_n k0, 1)) (hi : (k0 : Nat) = i) (hn : i < nL) (he : (i, Value.int x) :: lv.filter (fun q => !(q.1 == i) && !(q.1 + 1 == i && q.2.category == 2)) = lv') (k : JJ κ nL G A cs ss Q (pc + 1) lv' st ws) : JJ κ nL G A cs ss Q pc lv (.int x :: st) ws :=
  fun H locs ls hP hD hS hl => lv_istore_n X.2.1 X.2.2.1 hd hi hl hn he (fun ls2 hl2 => k H locs ls2 hP hD hS hl2)
theorem j_istore (X : CX κ l y cc nL own Ts ret rm G A) {i : Nat} {x : Int32} (hd : decode cc pc = .ok (.istore i, 2)) (hn : i < nL) (he : (i, Value.int x) :: lv.filter (fun q => !(q.1 == i) && !(q.1 + 1 == i && q.2.category == 2)) = lv') (k : JJ κ nL G A cs ss Q (pc + 2) lv' st ws) : JJ κ nL G A cs ss Q pc lv (.int x :: st) ws :=
  fun H locs ls hP hD hS hl => lv_istore X.2.1 X.2.2.1 hd hl hn he (fun ls2 hl2 => k H locs ls2 hP hD hS hl2)
theorem j_astore_n (X : CX κ l y cc nL own Ts ret rm G A) {k0 : Fin 4} {i : Nat} {x : Nat} (hd : decode cc pc = .ok (.astore_n k0, 1)) (hi : (k0 : Nat) = i) (hn : i < nL) (he : (i, Value.ref x) :: lv.filter (fun q => !(q.1 == i) && !(q.1 + 1 == i && q.2.category == 2)) = lv') (k : JJ κ nL G A cs ss Q (pc + 1) lv' st ws) : JJ κ nL G A cs ss Q pc lv (.ref x :: st) ws :=
  fun H locs ls hP hD hS hl => lv_astore_n X.2.1 X.2.2.1 hd hi hl hn he (fun ls2 hl2 => k H locs ls2 hP hD hS hl2)
theorem j_astore (X : CX κ l y cc nL own Ts ret rm G A) {i : Nat} {x : Nat} (hd : decode cc pc = .ok (.astore i, 2)) (hn : i < nL) (he : (i, Value.ref x) :: lv.filter (fun q => !(q.1 == i) && !(q.1 + 1 == i && q.2.category == 2)) = lv') (k : JJ κ nL G A cs ss Q (pc + 2) lv' st ws) : JJ κ nL G A cs ss Q pc lv (.ref x :: st) ws :=
  fun H locs ls hP hD hS hl => lv_astore X.2.1 X.2.2.1 hd hl hn he (fun ls2 hl2 => k H locs ls2 hP hD hS hl2)
theorem j_lstore_n (X : CX κ l y cc nL own Ts ret rm G A) {k0 : Fin 4} {i : Nat} {x : Int64} (hd : decode cc pc = .ok (.lstore_n k0, 1)) (hi : (k0 : Nat) = i) (hn : i + 1 < nL) (he : (i, Value.long x) :: lv.filter (fun q => !(q.1 == i) && (!(q.1 == i + 1) && !(q.1 + 1 == i && q.2.category == 2))) = lv') (k : JJ κ nL G A cs ss Q (pc + 1) lv' st ws) : JJ κ nL G A cs ss Q pc lv (.long x :: st) ws :=
  fun H locs ls hP hD hS hl => lv_lstore_n X.2.1 X.2.2.1 hd hi hl hn he (fun ls2 hl2 => k H locs ls2 hP hD hS hl2)
theorem j_lstore (X : CX κ l y cc nL own Ts ret rm G A) {i : Nat} {x : Int64} (hd : decode cc pc = .ok (.lstore i, 2)) (hn : i + 1 < nL) (he : (i, Value.long x) :: lv.filter (fun q => !(q.1 == i) && (!(q.1 == i + 1) && !(q.1 + 1 == i && q.2.category == 2))) = lv') (k : JJ κ nL G A cs ss Q (pc + 2) lv' st ws) : JJ κ nL G A cs ss Q pc lv (.long x :: st) ws :=
  fun H locs ls hP hD hS hl => lv_lstore X.2.1 X.2.2.1 hd hl hn he (fun ls2 hl2 => k H locs ls2 hP hD hS hl2)
theorem j_iinc (X : CX κ l y cc nL own Ts ret rm G A) {i : Nat} {n : Int} {x v : Int32} (hd : decode cc pc = .ok (.iinc i n, 3)) (q : Nat) (hq : lv[q]? = some (i, .int x)) (hv : x + Int32.ofInt n = v) (hn : i < nL) (he : (i, Value.int v) :: lv.filter (fun q => !(q.1 == i) && !(q.1 + 1 == i && q.2.category == 2)) = lv') (k : JJ κ nL G A cs ss Q (pc + 3) lv' st ws) : JJ κ nL G A cs ss Q pc lv st ws :=
  fun H locs ls hP hD hS hl => lv_iinc X.2.1 X.2.2.1 hd hl hq hv hn he (fun ls2 hl2 => k H locs ls2 hP hD hS hl2)
theorem j_iadd (X : CX κ l y cc nL own Ts ret rm G A) {x z : Int32} (hd : decode cc pc = .ok (.iadd, 1)) (k : JJ κ nL G A cs ss Q (pc + 1) lv (.int (x + z) :: st) ws) : JJ κ nL G A cs ss Q pc lv (.int z :: .int x :: st) ws :=
  fun H locs ls hP hD hS hl => lv_iadd X.2.1 X.2.2.1 hd (k H locs ls hP hD hS hl)
theorem j_isub (X : CX κ l y cc nL own Ts ret rm G A) {x z : Int32} (hd : decode cc pc = .ok (.isub, 1)) (k : JJ κ nL G A cs ss Q (pc + 1) lv (.int (x - z) :: st) ws) : JJ κ nL G A cs ss Q pc lv (.int z :: .int x :: st) ws :=
  fun H locs ls hP hD hS hl => lv_isub X.2.1 X.2.2.1 hd (k H locs ls hP hD hS hl)
theorem j_imul (X : CX κ l y cc nL own Ts ret rm G A) {x z : Int32} (hd : decode cc pc = .ok (.imul, 1)) (k : JJ κ nL G A cs ss Q (pc + 1) lv (.int (x * z) :: st) ws) : JJ κ nL G A cs ss Q pc lv (.int z :: .int x :: st) ws :=
  fun H locs ls hP hD hS hl => lv_imul X.2.1 X.2.2.1 hd (k H locs ls hP hD hS hl)
theorem j_iand (X : CX κ l y cc nL own Ts ret rm G A) {x z : Int32} (hd : decode cc pc = .ok (.iand, 1)) (k : JJ κ nL G A cs ss Q (pc + 1) lv (.int (x &&& z) :: st) ws) : JJ κ nL G A cs ss Q pc lv (.int z :: .int x :: st) ws :=
  fun H locs ls hP hD hS hl => lv_iand X.2.1 X.2.2.1 hd (k H locs ls hP hD hS hl)
theorem j_ior (X : CX κ l y cc nL own Ts ret rm G A) {x z : Int32} (hd : decode cc pc = .ok (.ior, 1)) (k : JJ κ nL G A cs ss Q (pc + 1) lv (.int (x ||| z) :: st) ws) : JJ κ nL G A cs ss Q pc lv (.int z :: .int x :: st) ws :=
  fun H locs ls hP hD hS hl => lv_ior X.2.1 X.2.2.1 hd (k H locs ls hP hD hS hl)
theorem j_ixor (X : CX κ l y cc nL own Ts ret rm G A) {x z : Int32} (hd : decode cc pc = .ok (.ixor, 1)) (k : JJ κ nL G A cs ss Q (pc + 1) lv (.int (x ^^^ z) :: st) ws) : JJ κ nL G A cs ss Q pc lv (.int z :: .int x :: st) ws :=
  fun H locs ls hP hD hS hl => lv_ixor X.2.1 X.2.2.1 hd (k H locs ls hP hD hS hl)
theorem j_ladd (X : CX κ l y cc nL own Ts ret rm G A) {x z : Int64} (hd : decode cc pc = .ok (.ladd, 1)) (k : JJ κ nL G A cs ss Q (pc + 1) lv (.long (x + z) :: st) ws) : JJ κ nL G A cs ss Q pc lv (.long z :: .long x :: st) ws :=
  fun H locs ls hP hD hS hl => lv_ladd X.2.1 X.2.2.1 hd (k H locs ls hP hD hS hl)
theorem j_lsub (X : CX κ l y cc nL own Ts ret rm G A) {x z : Int64} (hd : decode cc pc = .ok (.lsub, 1)) (k : JJ κ nL G A cs ss Q (pc + 1) lv (.long (x - z) :: st) ws) : JJ κ nL G A cs ss Q pc lv (.long z :: .long x :: st) ws :=
  fun H locs ls hP hD hS hl => lv_lsub X.2.1 X.2.2.1 hd (k H locs ls hP hD hS hl)
theorem j_lmul (X : CX κ l y cc nL own Ts ret rm G A) {x z : Int64} (hd : decode cc pc = .ok (.lmul, 1)) (k : JJ κ nL G A cs ss Q (pc + 1) lv (.long (x * z) :: st) ws) : JJ κ nL G A cs ss Q pc lv (.long z :: .long x :: st) ws :=
  fun H locs ls hP hD hS hl => lv_lmul X.2.1 X.2.2.1 hd (k H locs ls hP hD hS hl)
theorem j_land (X : CX κ l y cc nL own Ts ret rm G A) {x z : Int64} (hd : decode cc pc = .ok (.land, 1)) (k : JJ κ nL G A cs ss Q (pc + 1) lv (.long (x &&& z) :: st) ws) : JJ κ nL G A cs ss Q pc lv (.long z :: .long x :: st) ws :=
  fun H locs ls hP hD hS hl => lv_land X.2.1 X.2.2.1 hd (k H locs ls hP hD hS hl)
theorem j_lor (X : CX κ l y cc nL own Ts ret rm G A) {x z : Int64} (hd : decode cc pc = .ok (.lor, 1)) (k : JJ κ nL G A cs ss Q (pc + 1) lv (.long (x ||| z) :: st) ws) : JJ κ nL G A cs ss Q pc lv (.long z :: .long x :: st) ws :=
  fun H locs ls hP hD hS hl => lv_lor X.2.1 X.2.2.1 hd (k H locs ls hP hD hS hl)
theorem j_lxor (X : CX κ l y cc nL own Ts ret rm G A) {x z : Int64} (hd : decode cc pc = .ok (.lxor, 1)) (k : JJ κ nL G A cs ss Q (pc + 1) lv (.long (x ^^^ z) :: st) ws) : JJ κ nL G A cs ss Q pc lv (.long z :: .long x :: st) ws :=
  fun H locs ls hP hD hS hl => lv_lxor X.2.1 X.2.2.1 hd (k H locs ls hP hD hS hl)
-- IDIV
theorem j_idiv (X : CX κ l y cc nL own Ts ret rm G A) {x z : Int32} (hd : decode cc pc = .ok (.idiv, 1)) (hne : ¬ z = 0) (k : JJ κ nL G A cs ss Q (pc + 1) lv (.int (x / z) :: st) ws) : JJ κ nL G A cs ss Q pc lv (.int z :: .int x :: st) ws :=
  fun H locs ls hP hD hS hl => lv_idiv X.2.1 X.2.2.1 hd hne (k H locs ls hP hD hS hl)
theorem j_ldiv (X : CX κ l y cc nL own Ts ret rm G A) {x z : Int64} (hd : decode cc pc = .ok (.ldiv, 1)) (hne : ¬ z = 0) (k : JJ κ nL G A cs ss Q (pc + 1) lv (.long (x / z) :: st) ws) : JJ κ nL G A cs ss Q pc lv (.long z :: .long x :: st) ws :=
  fun H locs ls hP hD hS hl => lv_ldiv X.2.1 X.2.2.1 hd hne (k H locs ls hP hD hS hl)
theorem j_ineg (X : CX κ l y cc nL own Ts ret rm G A) {x : Int32} (hd : decode cc pc = .ok (.ineg, 1)) (k : JJ κ nL G A cs ss Q (pc + 1) lv (.int (-x) :: st) ws) : JJ κ nL G A cs ss Q pc lv (.int x :: st) ws :=
  fun H locs ls hP hD hS hl => lv_ineg X.2.1 X.2.2.1 hd (k H locs ls hP hD hS hl)
theorem j_lneg (X : CX κ l y cc nL own Ts ret rm G A) {x : Int64} (hd : decode cc pc = .ok (.lneg, 1)) (k : JJ κ nL G A cs ss Q (pc + 1) lv (.long (-x) :: st) ws) : JJ κ nL G A cs ss Q pc lv (.long x :: st) ws :=
  fun H locs ls hP hD hS hl => lv_lneg X.2.1 X.2.2.1 hd (k H locs ls hP hD hS hl)
theorem j_i2l (X : CX κ l y cc nL own Ts ret rm G A) {x : Int32} {v : Int64} (hd : decode cc pc = .ok (.i2l, 1)) (hv : x.toInt64 = v) (k : JJ κ nL G A cs ss Q (pc + 1) lv (.long v :: st) ws) : JJ κ nL G A cs ss Q pc lv (.int x :: st) ws :=
  fun H locs ls hP hD hS hl => lv_i2l X.2.1 X.2.2.1 hd hv (k H locs ls hP hD hS hl)
theorem j_l2i (X : CX κ l y cc nL own Ts ret rm G A) {x : Int64} {v : Int32} (hd : decode cc pc = .ok (.l2i, 1)) (hv : x.toInt32 = v) (k : JJ κ nL G A cs ss Q (pc + 1) lv (.int v :: st) ws) : JJ κ nL G A cs ss Q pc lv (.long x :: st) ws :=
  fun H locs ls hP hD hS hl => lv_l2i X.2.1 X.2.2.1 hd hv (k H locs ls hP hD hS hl)
theorem j_i2b (X : CX κ l y cc nL own Ts ret rm G A) {x : Int32} {v : Int32} (hd : decode cc pc = .ok (.i2b, 1)) (hv : x.toInt8.toInt32 = v) (k : JJ κ nL G A cs ss Q (pc + 1) lv (.int v :: st) ws) : JJ κ nL G A cs ss Q pc lv (.int x :: st) ws :=
  fun H locs ls hP hD hS hl => lv_i2b X.2.1 X.2.2.1 hd hv (k H locs ls hP hD hS hl)
theorem j_i2s (X : CX κ l y cc nL own Ts ret rm G A) {x : Int32} {v : Int32} (hd : decode cc pc = .ok (.i2s, 1)) (hv : x.toInt16.toInt32 = v) (k : JJ κ nL G A cs ss Q (pc + 1) lv (.int v :: st) ws) : JJ κ nL G A cs ss Q pc lv (.int x :: st) ws :=
  fun H locs ls hP hD hS hl => lv_i2s X.2.1 X.2.2.1 hd hv (k H locs ls hP hD hS hl)
theorem j_iushr (X : CX κ l y cc nL own Ts ret rm G A) {x z v : Int32} (hd : decode cc pc = .ok (.iushr, 1)) (hv : (x.toUInt32 >>> (z.toUInt32 &&& Int32.toUInt32 31)).toInt32 = v) (k : JJ κ nL G A cs ss Q (pc + 1) lv (.int v :: st) ws) : JJ κ nL G A cs ss Q pc lv (.int z :: .int x :: st) ws :=
  fun H locs ls hP hD hS hl => lv_iushr X.2.1 X.2.2.1 hd hv (k H locs ls hP hD hS hl)
theorem j_lshr (X : CX κ l y cc nL own Ts ret rm G A) {x v : Int64} {z : Int32} (hd : decode cc pc = .ok (.lshr, 1)) (hv : x >>> (z.toInt64 &&& 63) = v) (k : JJ κ nL G A cs ss Q (pc + 1) lv (.long v :: st) ws) : JJ κ nL G A cs ss Q pc lv (.int z :: .long x :: st) ws :=
  fun H locs ls hP hD hS hl => lv_lshr X.2.1 X.2.2.1 hd hv (k H locs ls hP hD hS hl)
theorem j_lshl (X : CX κ l y cc nL own Ts ret rm G A) {x v : Int64} {z : Int32} (hd : decode cc pc = .ok (.lshl, 1)) (hv : x <<< (z.toInt64 &&& 63) = v) (k : JJ κ nL G A cs ss Q (pc + 1) lv (.long v :: st) ws) : JJ κ nL G A cs ss Q pc lv (.int z :: .long x :: st) ws :=
  fun H locs ls hP hD hS hl => lv_lshl X.2.1 X.2.2.1 hd hv (k H locs ls hP hD hS hl)
theorem j_lcmp (X : CX κ l y cc nL own Ts ret rm G A) {x z : Int64} (hd : decode cc pc = .ok (.lcmp, 1)) (k : JJ κ nL G A cs ss Q (pc + 1) lv (.int (lg_cmp x z) :: st) ws) : JJ κ nL G A cs ss Q pc lv (.long z :: .long x :: st) ws :=
  fun H locs ls hP hD hS hl => W.lcmp X.2.1 X.2.2.1 hd (k H locs ls hP hD hS hl)
theorem j_dup (X : CX κ l y cc nL own Ts ret rm G A) {a : Value} (hd : decode cc pc = .ok (.dup, 1)) (ha : a.category = 1) (k : JJ κ nL G A cs ss Q (pc + 1) lv (a :: a :: st) ws) : JJ κ nL G A cs ss Q pc lv (a :: st) ws :=
  fun H locs ls hP hD hS hl => lv_dup X.2.1 X.2.2.1 hd ha (k H locs ls hP hD hS hl)
theorem j_pop (X : CX κ l y cc nL own Ts ret rm G A) {a : Value} (hd : decode cc pc = .ok (.pop, 1)) (ha : a.category = 1) (k : JJ κ nL G A cs ss Q (pc + 1) lv st ws) : JJ κ nL G A cs ss Q pc lv (a :: st) ws :=
  fun H locs ls hP hD hS hl => lv_pop X.2.1 X.2.2.1 hd ha (k H locs ls hP hD hS hl)
theorem j_dup2 (X : CX κ l y cc nL own Ts ret rm G A) {a b : Value} (hd : decode cc pc = .ok (.dup2, 1)) (ha : a.category = 1) (hb2 : b.category = 1) (k : JJ κ nL G A cs ss Q (pc + 1) lv (a :: b :: a :: b :: st) ws) : JJ κ nL G A cs ss Q pc lv (a :: b :: st) ws :=
  fun H locs ls hP hD hS hl => lv_dup2_11 X.2.1 X.2.2.1 hd ha hb2 (k H locs ls hP hD hS hl)
theorem j_if_eq (X : CX κ l y cc nL own Ts ret rm G A) {x : Int32} {off : Int} {tgt : Nat} (hd : decode cc pc = .ok (.ifCond .eq off, 3)) (ht : (pc : Int) + off = (tgt : Int)) (kt : x = 0 → JJ κ nL G A cs ss Q tgt lv st ws) (kf : ¬ (x = 0) → JJ κ nL G A cs ss Q (pc + 3) lv st ws) : JJ κ nL G A cs ss Q pc lv (.int x :: st) ws :=
  fun H locs ls hP hD hS hl => lv_if_eq X.2.1 X.2.2.1 hd ht (fun c => kt c H locs ls hP hD hS hl) (fun c => kf c H locs ls hP hD hS hl)
theorem j_icmp_eq (X : CX κ l y cc nL own Ts ret rm G A) {x z : Int32} {off : Int} {tgt : Nat} (hd : decode cc pc = .ok (.if_icmp .eq off, 3)) (ht : (pc : Int) + off = (tgt : Int)) (kt : x = z → JJ κ nL G A cs ss Q tgt lv st ws) (kf : ¬ (x = z) → JJ κ nL G A cs ss Q (pc + 3) lv st ws) : JJ κ nL G A cs ss Q pc lv (.int z :: .int x :: st) ws :=
  fun H locs ls hP hD hS hl => lv_icmp_eq X.2.1 X.2.2.1 hd ht (fun c => kt c H locs ls hP hD hS hl) (fun c => kf c H locs ls hP hD hS hl)
theorem j_if_ne (X : CX κ l y cc nL own Ts ret rm G A) {x : Int32} {off : Int} {tgt : Nat} (hd : decode cc pc = .ok (.ifCond .ne off, 3)) (ht : (pc : Int) + off = (tgt : Int)) (kt : ¬ x = 0 → JJ κ nL G A cs ss Q tgt lv st ws) (kf : x = 0 → JJ κ nL G A cs ss Q (pc + 3) lv st ws) : JJ κ nL G A cs ss Q pc lv (.int x :: st) ws :=
  fun H locs ls hP hD hS hl => lv_if_ne X.2.1 X.2.2.1 hd ht (fun c => kt c H locs ls hP hD hS hl) (fun c => kf c H locs ls hP hD hS hl)
theorem j_icmp_ne (X : CX κ l y cc nL own Ts ret rm G A) {x z : Int32} {off : Int} {tgt : Nat} (hd : decode cc pc = .ok (.if_icmp .ne off, 3)) (ht : (pc : Int) + off = (tgt : Int)) (kt : ¬ x = z → JJ κ nL G A cs ss Q tgt lv st ws) (kf : x = z → JJ κ nL G A cs ss Q (pc + 3) lv st ws) : JJ κ nL G A cs ss Q pc lv (.int z :: .int x :: st) ws :=
  fun H locs ls hP hD hS hl => lv_icmp_ne X.2.1 X.2.2.1 hd ht (fun c => kt c H locs ls hP hD hS hl) (fun c => kf c H locs ls hP hD hS hl)
theorem j_if_lt (X : CX κ l y cc nL own Ts ret rm G A) {x : Int32} {off : Int} {tgt : Nat} (hd : decode cc pc = .ok (.ifCond .lt off, 3)) (ht : (pc : Int) + off = (tgt : Int)) (kt : x < 0 → JJ κ nL G A cs ss Q tgt lv st ws) (kf : ¬ (x < 0) → JJ κ nL G A cs ss Q (pc + 3) lv st ws) : JJ κ nL G A cs ss Q pc lv (.int x :: st) ws :=
  fun H locs ls hP hD hS hl => lv_if_lt X.2.1 X.2.2.1 hd ht (fun c => kt c H locs ls hP hD hS hl) (fun c => kf c H locs ls hP hD hS hl)
theorem j_icmp_lt (X : CX κ l y cc nL own Ts ret rm G A) {x z : Int32} {off : Int} {tgt : Nat} (hd : decode cc pc = .ok (.if_icmp .lt off, 3)) (ht : (pc : Int) + off = (tgt : Int)) (kt : x < z → JJ κ nL G A cs ss Q tgt lv st ws) (kf : ¬ (x < z) → JJ κ nL G A cs ss Q (pc + 3) lv st ws) : JJ κ nL G A cs ss Q pc lv (.int z :: .int x :: st) ws :=
  fun H locs ls hP hD hS hl => lv_icmp_lt X.2.1 X.2.2.1 hd ht (fun c => kt c H locs ls hP hD hS hl) (fun c => kf c H locs ls hP hD hS hl)
theorem j_if_ge (X : CX κ l y cc nL own Ts ret rm G A) {x : Int32} {off : Int} {tgt : Nat} (hd : decode cc pc = .ok (.ifCond .ge off, 3)) (ht : (pc : Int) + off = (tgt : Int)) (kt : 0 ≤ x → JJ κ nL G A cs ss Q tgt lv st ws) (kf : ¬ (0 ≤ x) → JJ κ nL G A cs ss Q (pc + 3) lv st ws) : JJ κ nL G A cs ss Q pc lv (.int x :: st) ws :=
  fun H locs ls hP hD hS hl => lv_if_ge X.2.1 X.2.2.1 hd ht (fun c => kt c H locs ls hP hD hS hl) (fun c => kf c H locs ls hP hD hS hl)
theorem j_icmp_ge (X : CX κ l y cc nL own Ts ret rm G A) {x z : Int32} {off : Int} {tgt : Nat} (hd : decode cc pc = .ok (.if_icmp .ge off, 3)) (ht : (pc : Int) + off = (tgt : Int)) (kt : z ≤ x → JJ κ nL G A cs ss Q tgt lv st ws) (kf : ¬ (z ≤ x) → JJ κ nL G A cs ss Q (pc + 3) lv st ws) : JJ κ nL G A cs ss Q pc lv (.int z :: .int x :: st) ws :=
  fun H locs ls hP hD hS hl => lv_icmp_ge X.2.1 X.2.2.1 hd ht (fun c => kt c H locs ls hP hD hS hl) (fun c => kf c H locs ls hP hD hS hl)
theorem j_if_gt (X : CX κ l y cc nL own Ts ret rm G A) {x : Int32} {off : Int} {tgt : Nat} (hd : decode cc pc = .ok (.ifCond .gt off, 3)) (ht : (pc : Int) + off = (tgt : Int)) (kt : 0 < x → JJ κ nL G A cs ss Q tgt lv st ws) (kf : ¬ (0 < x) → JJ κ nL G A cs ss Q (pc + 3) lv st ws) : JJ κ nL G A cs ss Q pc lv (.int x :: st) ws :=
  fun H locs ls hP hD hS hl => lv_if_gt X.2.1 X.2.2.1 hd ht (fun c => kt c H locs ls hP hD hS hl) (fun c => kf c H locs ls hP hD hS hl)
theorem j_icmp_gt (X : CX κ l y cc nL own Ts ret rm G A) {x z : Int32} {off : Int} {tgt : Nat} (hd : decode cc pc = .ok (.if_icmp .gt off, 3)) (ht : (pc : Int) + off = (tgt : Int)) (kt : z < x → JJ κ nL G A cs ss Q tgt lv st ws) (kf : ¬ (z < x) → JJ κ nL G A cs ss Q (pc + 3) lv st ws) : JJ κ nL G A cs ss Q pc lv (.int z :: .int x :: st) ws :=
  fun H locs ls hP hD hS hl => lv_icmp_gt X.2.1 X.2.2.1 hd ht (fun c => kt c H locs ls hP hD hS hl) (fun c => kf c H locs ls hP hD hS hl)
theorem j_if_le (X : CX κ l y cc nL own Ts ret rm G A) {x : Int32} {off : Int} {tgt : Nat} (hd : decode cc pc = .ok (.ifCond .le off, 3)) (ht : (pc : Int) + off = (tgt : Int)) (kt : x ≤ 0 → JJ κ nL G A cs ss Q tgt lv st ws) (kf : ¬ (x ≤ 0) → JJ κ nL G A cs ss Q (pc + 3) lv st ws) : JJ κ nL G A cs ss Q pc lv (.int x :: st) ws :=
  fun H locs ls hP hD hS hl => lv_if_le X.2.1 X.2.2.1 hd ht (fun c => kt c H locs ls hP hD hS hl) (fun c => kf c H locs ls hP hD hS hl)
theorem j_icmp_le (X : CX κ l y cc nL own Ts ret rm G A) {x z : Int32} {off : Int} {tgt : Nat} (hd : decode cc pc = .ok (.if_icmp .le off, 3)) (ht : (pc : Int) + off = (tgt : Int)) (kt : x ≤ z → JJ κ nL G A cs ss Q tgt lv st ws) (kf : ¬ (x ≤ z) → JJ κ nL G A cs ss Q (pc + 3) lv st ws) : JJ κ nL G A cs ss Q pc lv (.int z :: .int x :: st) ws :=
  fun H locs ls hP hD hS hl => lv_icmp_le X.2.1 X.2.2.1 hd ht (fun c => kt c H locs ls hP hD hS hl) (fun c => kf c H locs ls hP hD hS hl)
theorem j_goto (X : CX κ l y cc nL own Ts ret rm G A) {off : Int} {tgt : Nat} (hd : decode cc pc = .ok (.goto off, 3)) (ht : (pc : Int) + off = (tgt : Int)) (k : JJ κ nL G A cs ss Q tgt lv st ws) : JJ κ nL G A cs ss Q pc lv st ws :=
  fun H locs ls hP hD hS hl => lv_goto X.2.1 X.2.2.1 hd ht (k H locs ls hP hD hS hl)
theorem j_ldc2 (X : CX κ l y cc nL own Ts ret rm G A) {index : Nat} {v : Int64} (hd : decode cc pc = .ok (.ldc2_w index, 3)) (hc : Cond.constantLong own index v ∈ Ts) (k : JJ κ nL G A cs ss Q (pc + 3) lv (.long v :: st) ws) : JJ κ nL G A cs ss Q pc lv st ws :=
  fun H locs ls hP hD hS hl => lv_ldc2 X.2.1 X.2.2.1 X.2.2.2.2.1 (X.2.2.2.2.2.1 _ hc) hd (k H locs ls hP hD hS hl)
theorem j_ldcw (X : CX κ l y cc nL own Ts ret rm G A) {index : Nat} {v : Int32} (hd : decode cc pc = .ok (.ldc_w index, 3)) (hc : Cond.constant own index v ∈ Ts) (k : JJ κ nL G A cs ss Q (pc + 3) lv (.int v :: st) ws) : JJ κ nL G A cs ss Q pc lv st ws :=
  fun H locs ls hP hD hS hl => lv_ldcw X.2.1 X.2.2.1 X.2.2.2.2.1 (X.2.2.2.2.2.1 _ hc) hd (k H locs ls hP hD hS hl)
theorem j_topi {x z : Int32} (h : x = z) (k : JJ κ nL G A cs ss Q pc lv (.int z :: st) ws) : JJ κ nL G A cs ss Q pc lv (.int x :: st) ws := h ▸ k
theorem j_topl {x z : Int64} (h : x = z) (k : JJ κ nL G A cs ss Q pc lv (.long z :: st) ws) : JJ κ nL G A cs ss Q pc lv (.long x :: st) ws := h ▸ k
theorem j_st {st2 : List Value} (h : st = st2) (k : JJ κ nL G A cs ss Q pc lv st2 ws) : JJ κ nL G A cs ss Q pc lv st ws := h ▸ k
theorem j_ws (h : ws = ws') (k : JJ κ nL G A cs ss Q pc lv st ws') : JJ κ nL G A cs ss Q pc lv st ws := h ▸ k
theorem j_lvq (h : lv = lv') (k : JJ κ nL G A cs ss Q pc lv' st ws) : JJ κ nL G A cs ss Q pc lv st ws := h ▸ k
theorem j_lv (ks : List Nat) (h : lv_pick lv ks = lv') (k : JJ κ nL G A cs ss Q pc lv' st ws) : JJ κ nL G A cs ss Q pc lv st ws := fun H locs ls hP hD hS hl => k H locs ls hP hD hS (lv_sub hl ks h)
theorem j_wid {a b : Nat} (h1 : cs ≤ a) (h2 : ss ≤ b) (k : JJ κ nL G A a b Q pc lv st ws) : JJ κ nL G A cs ss Q pc lv st ws := fun H locs ls hP hD hS hl => W.widen h1 h2 (k H locs ls hP hD hS hl)
theorem j_pc {pc2 : Nat} (h : pc = pc2) (k : JJ κ nL G A cs ss Q pc2 lv st ws) : JJ κ nL G A cs ss Q pc lv st ws := h ▸ k
theorem j_get (X : CX κ l y cc nL own Ts ret rm G A) {a : Nat} {C : String} {T : u_T} {N : Nat} (ci : Nat) {index : Nat} (hin : ∀ w ∈ u_ws C T N, w ∈ Ts) (q0 : Nat) {fs : List Value} (he : ws[q0]? = some (a, .inr (ci, fs))) (hc : vwCl[ci]? = some (C, T, N)) (k0 : Nat) (hk : k0 < N) (hlink : Cond.fieldLink own index (T k0).1 (T k0).2.1 (T k0).2.2.1 ∈ Ts) {v : Value} (hv : fs[k0]? = some v) (hd : decode cc pc = .ok (.getfield index, 3)) (k : JJ κ nL G A cs ss Q (pc + 3) lv (v :: st) ws) : JJ κ nL G A cs ss Q pc lv (.ref a :: st) ws :=
  fun H locs ls hP hD hS hl => va_get X.2.1 X.2.2.1 X.2.2.2.2.2.1 hin X.2.2.2.2.1 X.2.2.2.2.2.2.1.1 hP q0 he hc k0 hk (X.2.2.2.2.2.1 _ hlink) (fun _ h9 => h9) hv hd (k H locs ls hP hD hS hl)
theorem j_getN (X : CX κ l y cc nL own Ts ret rm G A) {a : Nat} {C : String} {T : u_T} {N : Nat} (ci : Nat) {index : Nat} (hin : ∀ w ∈ u_ws C T N, w ∈ Ts) (q0 : Nat) {fs : List Value} (he : ws[q0]? = some (a, .inr (ci, fs))) (hc : vwCl[ci]? = some (C, T, N)) (k0 : Nat) (hk : k0 < N) (hlink : (own, index, (T k0).1, (T k0).2.1, (T k0).2.2.1, "MentorPairs") ∈ jNf) {v : Value} (hv : fs[k0]? = some v) (hd : decode cc pc = .ok (.getfield index, 3)) (k : JJ κ nL G A cs ss Q (pc + 3) lv (v :: st) ws) : JJ κ nL G A cs ss Q pc lv (.ref a :: st) ws :=
  fun H locs ls hP hD hS hl => va_getN (host := "MentorPairs") X.2.1 X.2.2.1 X.2.2.2.2.2.1 hin X.2.2.2.2.1 X.2.2.2.2.2.2.1.1 hP q0 he hc k0 hk (va_Nw.use rfl (X.2.2.2.2.2.2.1.2.1 _ hlink)) (fun _ h9 => h9) hv hd (k H locs ls hP hD hS hl)
theorem j_put (X : CX κ l y cc nL own Ts ret rm G A) {a : Nat} {C : String} {T : u_T} {N : Nat} (ci : Nat) {index : Nat} (hin : ∀ w ∈ u_ws C T N, w ∈ Ts) (ty0 : Nat → FieldType) (hty : ∀ k, k < N → parseFieldDescriptor (T k).2.2.1 = some (ty0 k)) (hnm : ∀ a, a < N → ∀ b, b < N → a ≠ b → (T a).2.1 ≠ (T b).2.1) (q0 : Nat) {fs : List Value} (he : ws[q0]? = some (a, .inr (ci, fs))) (hc : vwCl[ci]? = some (C, T, N)) (k0 : Nat) (hk : k0 < N) (hlink : Cond.fieldLink own index (T k0).1 (T k0).2.1 (T k0).2.2.1 ∈ Ts) (hfin : (T k0).2.2.2 = false) {v : Value} (hn : narrow (ty0 k0) v = v) (hfit : fits (ty0 k0) v = true) (hl0 : k0 < fs.length) (hd : decode cc pc = .ok (.putfield index, 3)) (hw : ws.set q0 (a, .inr (ci, fs.set k0 v)) = ws') (k : JJ κ nL G A cs ss Q (pc + 3) lv st ws') : JJ κ nL G A cs ss Q pc lv (v :: .ref a :: st) ws :=
  fun H locs ls hP hD hS hl => va_put X.2.1 X.2.2.1 X.2.2.2.2.2.1 hin ty0 hty hnm X.2.2.2.2.1 X.2.2.2.2.2.2.1.1 hP hD hS q0 he hc k0 hk (X.2.2.2.2.2.1 _ hlink) (fun _ h9 => h9) hfin (hty k0 hk) hn hfit hl0 hd (fun H1 locs1 hP1 hD1 hS1 => k H1 locs1 ls (hw ▸ hP1) (hw ▸ hD1) hS1 hl)
theorem j_putN (X : CX κ l y cc nL own Ts ret rm G A) {a : Nat} {C : String} {T : u_T} {N : Nat} (ci : Nat) {index : Nat} (hin : ∀ w ∈ u_ws C T N, w ∈ Ts) (ty0 : Nat → FieldType) (hty : ∀ k, k < N → parseFieldDescriptor (T k).2.2.1 = some (ty0 k)) (hnm : ∀ a, a < N → ∀ b, b < N → a ≠ b → (T a).2.1 ≠ (T b).2.1) (q0 : Nat) {fs : List Value} (he : ws[q0]? = some (a, .inr (ci, fs))) (hc : vwCl[ci]? = some (C, T, N)) (k0 : Nat) (hk : k0 < N) (hlink : (own, index, (T k0).1, (T k0).2.1, (T k0).2.2.1, "MentorPairs") ∈ jNf) (hfin : (T k0).2.2.2 = false) {v : Value} (hn : narrow (ty0 k0) v = v) (hfit : fits (ty0 k0) v = true) (hl0 : k0 < fs.length) (hd : decode cc pc = .ok (.putfield index, 3)) (hw : ws.set q0 (a, .inr (ci, fs.set k0 v)) = ws') (k : JJ κ nL G A cs ss Q (pc + 3) lv st ws') : JJ κ nL G A cs ss Q pc lv (v :: .ref a :: st) ws :=
  fun H locs ls hP hD hS hl => va_putN (host := "MentorPairs") X.2.1 X.2.2.1 X.2.2.2.2.2.1 hin ty0 hty hnm X.2.2.2.2.1 X.2.2.2.2.2.2.1.1 hP hD hS q0 he hc k0 hk (va_Nw.use rfl (X.2.2.2.2.2.2.1.2.1 _ hlink)) (fun _ h9 => h9) hfin (hty k0 hk) hn hfit hl0 hd (fun H1 locs1 hP1 hD1 hS1 => k H1 locs1 ls (hw ▸ hP1) (hw ▸ hD1) hS1 hl)
theorem j_putF (X : CX κ l y cc nL own Ts ret rm G A) {a : Nat} {C : String} {T : u_T} {N : Nat} (ci : Nat) {index : Nat} (hin : ∀ w ∈ u_ws C T N, w ∈ Ts) (ty0 : Nat → FieldType) (hty : ∀ k, k < N → parseFieldDescriptor (T k).2.2.1 = some (ty0 k)) (hnm : ∀ a, a < N → ∀ b, b < N → a ≠ b → (T a).2.1 ≠ (T b).2.1) (q0 : Nat) {fs : List Value} (he : ws[q0]? = some (a, .inr (ci, fs))) (hc : vwCl[ci]? = some (C, T, N)) (k0 : Nat) (hk : k0 < N) (hlink : Cond.fieldLink own index (T k0).1 (T k0).2.1 (T k0).2.2.1 ∈ Ts) (hfin : (T k0).2.2.2 = true) (hnm2 : y.name = "<init>") (hdecl : (T k0).1 = own) {v : Value} (hn : narrow (ty0 k0) v = v) (hfit : fits (ty0 k0) v = true) (hl0 : k0 < fs.length) (hd : decode cc pc = .ok (.putfield index, 3)) (hw : ws.set q0 (a, .inr (ci, fs.set k0 v)) = ws') (k : JJ κ nL G A cs ss Q (pc + 3) lv st ws') : JJ κ nL G A cs ss Q pc lv (v :: .ref a :: st) ws :=
  fun H locs ls hP hD hS hl => va_putF X.2.1 X.2.2.1 X.2.2.2.2.2.1 hin ty0 hty hnm X.2.2.2.2.1 X.2.2.2.2.2.2.1.1 hP hD hS q0 he hc k0 hk (X.2.2.2.2.2.1 _ hlink) (fun _ h9 => h9) hfin (X.2.2.2.2.2.2.2.2.2.2.trans hnm2) hdecl (hty k0 hk) hn hfit hl0 hd (fun H1 locs1 hP1 hD1 hS1 => k H1 locs1 ls (hw ▸ hP1) (hw ▸ hD1) hS1 hl)
theorem j_iald (X : CX κ l y cc nL own Ts ret rm G A) {a : Nat} (q0 : Nat) {n : Nat} {f : Nat → Int32} (ha : ws[q0]? = some (a, .inl (G.2.1, n, .inl f))) {i : Int32} (hin : vp_in i n) {v : Int32} (hv : f i.toNatClampNeg = v) (hd : decode cc pc = .ok (.iaload, 1)) (k : JJ κ nL G A cs ss Q (pc + 1) lv (.int v :: st) ws) : JJ κ nL G A cs ss Q pc lv (.int i :: .ref a :: st) ws :=
  fun H locs ls hP hD hS hl => va_iald X.2.1 X.2.2.1 X.2.2.2.2.2.2.1.1 hP q0 0 ha rfl hin hd (by rw [hv]; exact (k H locs ls hP hD hS hl))
theorem j_zald (X : CX κ l y cc nL own Ts ret rm G A) {a : Nat} (q0 : Nat) {n : Nat} {f : Nat → Int32} (ha : ws[q0]? = some (a, .inl (G.2.2.2.1, n, .inl f))) {i : Int32} (hin : vp_in i n) {v : Int32} (hv : f i.toNatClampNeg = v) (hd : decode cc pc = .ok (.baload, 1)) (k : JJ κ nL G A cs ss Q (pc + 1) lv (.int v :: st) ws) : JJ κ nL G A cs ss Q pc lv (.int i :: .ref a :: st) ws :=
  fun H locs ls hP hD hS hl => va_zald X.2.1 X.2.2.1 X.2.2.2.2.2.2.1.1 hP q0 2 ha rfl hin hd (by rw [hv]; exact (k H locs ls hP hD hS hl))
theorem j_lald (X : CX κ l y cc nL own Ts ret rm G A) {a : Nat} (q0 : Nat) {n : Nat} {f : Nat → Int64} (ha : ws[q0]? = some (a, .inl (G.2.2.1, n, .inr (.inl f)))) {i : Int32} (hin : vp_in i n) {v : Int64} (hv : f i.toNatClampNeg = v) (hd : decode cc pc = .ok (.laload, 1)) (k : JJ κ nL G A cs ss Q (pc + 1) lv (.long v :: st) ws) : JJ κ nL G A cs ss Q pc lv (.int i :: .ref a :: st) ws :=
  fun H locs ls hP hD hS hl => va_lald X.2.1 X.2.2.1 X.2.2.2.2.2.2.1.1 hP q0 1 ha rfl hin hd (by rw [hv]; exact (k H locs ls hP hD hS hl))
theorem j_iast (X : CX κ l y cc nL own Ts ret rm G A) {a : Nat} (q0 : Nat) {n : Nat} {f f2 : Nat → Int32} (ha : ws[q0]? = some (a, .inl (G.2.1, n, .inl f))) {i : Int32} {x : Int32} (hin : vp_in i n) (hd : decode cc pc = .ok (.iastore, 1)) (hf : upd f i.toNatClampNeg x = f2) (hw : ws.set q0 (a, .inl (G.2.1, n, .inl f2)) = ws') (k : JJ κ nL G A cs ss Q (pc + 1) lv st ws') : JJ κ nL G A cs ss Q pc lv (.int x :: .int i :: .ref a :: st) ws := by
  subst hf; subst hw
  exact fun H locs ls hP hD hS hl => va_iast X.2.1 X.2.2.1 X.2.2.2.2.2.2.1.1 hP hD hS q0 0 ha rfl hin hd (fun H1 locs1 hP1 hD1 hS1 => k H1 locs1 ls hP1 hD1 hS1 hl)
theorem j_last (X : CX κ l y cc nL own Ts ret rm G A) {a : Nat} (q0 : Nat) {n : Nat} {f f2 : Nat → Int64} (ha : ws[q0]? = some (a, .inl (G.2.2.1, n, .inr (.inl f)))) {i : Int32} {x : Int64} (hin : vp_in i n) (hd : decode cc pc = .ok (.lastore, 1)) (hf : vp_updL f i.toNatClampNeg x = f2) (hw : ws.set q0 (a, .inl (G.2.2.1, n, .inr (.inl f2))) = ws') (k : JJ κ nL G A cs ss Q (pc + 1) lv st ws') : JJ κ nL G A cs ss Q pc lv (.long x :: .int i :: .ref a :: st) ws := by
  subst hf; subst hw
  exact fun H locs ls hP hD hS hl => va_last X.2.1 X.2.2.1 X.2.2.2.2.2.2.1.1 hP hD hS q0 1 ha rfl hin hd (fun H1 locs1 hP1 hD1 hS1 => k H1 locs1 ls hP1 hD1 hS1 hl)
theorem j_ishl (X : CX κ l y cc nL own Ts ret rm G A) {x z : Int32} (hd : decode cc pc = .ok (.ishl, 1)) (k : JJ κ nL G A cs ss Q (pc + 1) lv (.int (x <<< (z &&& 31)) :: st) ws) : JJ κ nL G A cs ss Q pc lv (.int z :: .int x :: st) ws :=
  fun H locs ls hP hD hS hl => lv_ishl X.2.1 X.2.2.1 hd (k H locs ls hP hD hS hl)
theorem j_ishr (X : CX κ l y cc nL own Ts ret rm G A) {x z : Int32} (hd : decode cc pc = .ok (.ishr, 1)) (k : JJ κ nL G A cs ss Q (pc + 1) lv (.int (x >>> (z &&& 31)) :: st) ws) : JJ κ nL G A cs ss Q pc lv (.int z :: .int x :: st) ws :=
  fun H locs ls hP hD hS hl => lv_ishr X.2.1 X.2.2.1 hd (k H locs ls hP hD hS hl)
theorem j_irem (X : CX κ l y cc nL own Ts ret rm G A) {x z : Int32} (hd : decode cc pc = .ok (.irem, 1)) (hne : ¬ z = 0) (k : JJ κ nL G A cs ss Q (pc + 1) lv (.int (x - x / z * z) :: st) ws) : JJ κ nL G A cs ss Q pc lv (.int z :: .int x :: st) ws :=
  fun H locs ls hP hD hS hl => lv_irem X.2.1 X.2.2.1 hd hne (k H locs ls hP hD hS hl)
theorem j_lrem (X : CX κ l y cc nL own Ts ret rm G A) {x z : Int64} (hd : decode cc pc = .ok (.lrem, 1)) (hne : ¬ z = 0) (k : JJ κ nL G A cs ss Q (pc + 1) lv (.long (x - x / z * z) :: st) ws) : JJ κ nL G A cs ss Q pc lv (.long z :: .long x :: st) ws :=
  fun H locs ls hP hD hS hl => lv_lrem X.2.1 X.2.2.1 hd hne (k H locs ls hP hD hS hl)
theorem j_zast (X : CX κ l y cc nL own Ts ret rm G A) {a : Nat} (q0 : Nat) {n : Nat} {f f2 : Nat → Int32} (ha : ws[q0]? = some (a, .inl (G.2.2.2.1, n, .inl f))) {i : Int32} {x : Int32} (hin : vp_in i n) (hd : decode cc pc = .ok (.bastore, 1)) (hz : vp_nar .boolean x = x) (hf : upd f i.toNatClampNeg x = f2) (hw : ws.set q0 (a, .inl (G.2.2.2.1, n, .inl f2)) = ws') (k : JJ κ nL G A cs ss Q (pc + 1) lv st ws') : JJ κ nL G A cs ss Q pc lv (.int x :: .int i :: .ref a :: st) ws := by
  subst hf; subst hw
  exact fun H locs ls hP hD hS hl => va_zast X.2.1 X.2.2.1 X.2.2.2.2.2.2.1.1 hP hD hS q0 2 ha rfl hin hd (by rw [hz]; exact fun H1 locs1 hP1 hD1 hS1 => k H1 locs1 ls hP1 hD1 hS1 hl)
theorem j_aldq (X : CX κ l y cc nL own Ts ret rm G A) {a : Nat} (q0 : Nat) {n : Nat} {f : Nat → Option Nat} (ha : ws[q0]? = some (a, .inl (G.2.2.2.2, n, .inr (.inr (.inr (.inr f)))))) {i : Int32} (hin : vp_in i n) {v : Nat} (hv : f i.toNatClampNeg = some v) (hd : decode cc pc = .ok (.aaload, 1)) (k : JJ κ nL G A cs ss Q (pc + 1) lv (.ref v :: st) ws) : JJ κ nL G A cs ss Q pc lv (.int i :: .ref a :: st) ws :=
  fun H locs ls hP hD hS hl => va_aldq X.2.1 X.2.2.1 X.2.2.2.2.2.2.1.1 hP q0 3 ha rfl hin hd (by rw [hv]; exact (k H locs ls hP hD hS hl))
theorem j_alenI (X : CX κ l y cc nL own Ts ret rm G A) {a : Nat} (q0 : Nat) {n : Nat} {f : Nat → Int32} (ha : ws[q0]? = some (a, .inl (G.2.1, n, .inl f))) (hd : decode cc pc = .ok (.arraylength, 1)) (k : JJ κ nL G A cs ss Q (pc + 1) lv (.int (nI n) :: st) ws) : JJ κ nL G A cs ss Q pc lv (.ref a :: st) ws :=
  fun H locs ls hP hD hS hl => va_alen X.2.1 X.2.2.1 X.2.2.2.2.2.2.1.1 hP q0 0 ha rfl rfl hd (k H locs ls hP hD hS hl)
theorem j_alenJ (X : CX κ l y cc nL own Ts ret rm G A) {a : Nat} (q0 : Nat) {n : Nat} {f : Nat → Int64} (ha : ws[q0]? = some (a, .inl (G.2.2.1, n, .inr (.inl f)))) (hd : decode cc pc = .ok (.arraylength, 1)) (k : JJ κ nL G A cs ss Q (pc + 1) lv (.int (nI n) :: st) ws) : JJ κ nL G A cs ss Q pc lv (.ref a :: st) ws :=
  fun H locs ls hP hD hS hl => va_alen X.2.1 X.2.2.1 X.2.2.2.2.2.2.1.1 hP q0 1 ha rfl rfl hd (k H locs ls hP hD hS hl)
end JR
section JE
variable {κ : jK} {l : Launch} {y : MethodName} {cc : ByteArray} {nL : Nat} {own : String} {Ts : List Cond} {ret : Option FieldType} {rm : Room} {G : jG} {mc ms : Nat} {pc : Nat} {lv : List (Nat × Value)} {ws w0 : va_W} {Qr : Option Value → va_W → Prop}
theorem j_iret (X : CX κ l y cc nL own Ts (some .int) rm G (va_A w0 (js κ).heap.size)) {v : Int32} (hd : decode cc pc = .ok (.ireturn, 1)) (hq : Qr (some (.int v)) ws) : JJ κ nL G (va_A w0 (js κ).heap.size) mc ms (jQ κ G w0 Qr mc ms) pc lv [.int v] ws :=
  fun H locs ls hP hD hS hl => W.iret X.2.1 X.2.2.1 X.2.2.2.2.2.2.2.2.2.1 (fun t ht hW => ⟨⟨_, ws, rfl, hq, by rw [ht]; exact hP, hD⟩, hS.F ht⟩) hS.2.2 hd X.2.2.2.2.2.2.2.2.1
theorem j_zret (X : CX κ l y cc nL own Ts (some .boolean) rm G (va_A w0 (js κ).heap.size)) {v : Int32} (hn : narrow .boolean (.int v) = .int v) (hd : decode cc pc = .ok (.ireturn, 1)) (hq : Qr (some (.int v)) ws) : JJ κ nL G (va_A w0 (js κ).heap.size) mc ms (jQ κ G w0 Qr mc ms) pc lv [.int v] ws :=
  fun H locs ls hP hD hS hl => W.zret X.2.1 X.2.2.1 X.2.2.2.2.2.2.2.2.2.1 hn (fun t ht hW => ⟨⟨_, ws, rfl, hq, by rw [ht]; exact hP, hD⟩, hS.F ht⟩) hS.2.2 hd X.2.2.2.2.2.2.2.2.1
theorem j_lret (X : CX κ l y cc nL own Ts (some .long) rm G (va_A w0 (js κ).heap.size)) {v : Int64} (hd : decode cc pc = .ok (.lreturn, 1)) (hq : Qr (some (.long v)) ws) : JJ κ nL G (va_A w0 (js κ).heap.size) mc ms (jQ κ G w0 Qr mc ms) pc lv [.long v] ws :=
  fun H locs ls hP hD hS hl => W.lret X.2.1 X.2.2.1 X.2.2.2.2.2.2.2.2.2.1 (fun t ht hW => ⟨⟨_, ws, rfl, hq, by rw [ht]; exact hP, hD⟩, hS.F ht⟩) hS.2.2 hd X.2.2.2.2.2.2.2.2.1
theorem j_vret (X : CX κ l y cc nL own Ts none rm G (va_A w0 (js κ).heap.size)) (hd : decode cc pc = .ok (.return_, 1)) (hq : Qr none ws) : JJ κ nL G (va_A w0 (js κ).heap.size) mc ms (jQ κ G w0 Qr mc ms) pc lv [] ws :=
  fun H locs ls hP hD hS hl => W.vret X.2.1 X.2.2.1 X.2.2.2.2.2.2.2.2.2.1 (fun t ht hW => ⟨⟨_, ws, rfl, hq, by rw [ht]; exact hP, hD⟩, hS.F ht⟩) hS.2.2 hd X.2.2.2.2.2.2.2.2.1
end JE
/-- the cells at the places isC, anew -/
def jrepA : List Nat → va_W → va_W → va_W
  | [], _, ws => ws
  | i :: is, qs, ws => match qs with
    | [] => ws
    | q :: qs => jrepA is qs (ws.set i q)
def jrep (ws : va_W) (is : List Nat) (qs : va_W) : va_W := jrepA is qs ws
theorem jset_same {α : Type} (l : List α) (i : Nat) (a : α) (h : l[i]? = some a) : l.set i a = l := by
  refine List.ext_getElem? (fun j => ?_)
  rw [List.getElem?_set]
  split
  · rename_i hij
    subst hij
    split
    · exact h.symm
    · rename_i hh
      exact (List.getElem?_eq_none (Nat.le_of_not_lt hh)).symm
  · rfl
theorem jrep_fst : ∀ (is : List Nat) (qs ws : va_W), (is.map (fun i => (ws.map Prod.fst)[i]?)) = qs.map (fun q => some q.1) → (jrepA is qs ws).map Prod.fst = ws.map Prod.fst
  | [], _, _, _ => rfl
  | i :: is, [], ws, h => by simp at h
  | i :: is, q :: qs, ws, h => by
    simp only [List.map_cons, List.cons.injEq] at h
    have e : (ws.set i q).map Prod.fst = ws.map Prod.fst := by
      rw [List.map_set]
      exact jset_same _ _ _ h.1
    have h2 := jrep_fst is qs (ws.set i q) (by rw [e]; exact h.2)
    rw [e] at h2
    exact h2
theorem jrep_at : ∀ (is : List Nat) (qs ws : va_W), is.length = qs.length → ∀ (k : Nat) (q : Nat × va_E), (jrepA is qs ws)[k]? = some q → (q ∈ qs) ∨ (k ∉ is ∧ ws[k]? = some q)
  | [], _, _, _, k, q, h => Or.inr ⟨List.not_mem_nil, h⟩
  | i :: is, [], _, h, _, _, _ => by simp at h
  | i :: is, q0 :: qs, ws, hlen, k, q, h => by
    rcases jrep_at is qs (ws.set i q0) (by simpa using hlen) k q h with h1 | ⟨h1, h2⟩
    · exact Or.inl (List.mem_cons_of_mem _ h1)
    · rw [List.getElem?_set] at h2
      split at h2
      · split at h2
        · cases h2
          exact Or.inl List.mem_cons_self
        · cases h2
      · rename_i hne
        refine Or.inr ⟨fun hm => ?_, h2⟩
        rcases List.mem_cons.mp hm with e | e
        · exact hne e.symm
        · exact h1 e
theorem va_D.fst {A : Nat → Prop} {ws ws' : va_W} (h : va_D A ws) (e : ws'.map Prod.fst = ws.map Prod.fst) : va_D A ws' := by
  have key : ∀ (k : Nat) (q : Nat × va_E), ws'[k]? = some q → ∃ q0, ws[k]? = some q0 ∧ q0.1 = q.1 := by
    intro k q hk
    have h1 : (ws'.map Prod.fst)[k]? = some q.1 := by rw [List.getElem?_map, hk]; rfl
    rw [e, List.getElem?_map] at h1
    cases h2 : ws[k]? with
    | none => rw [h2] at h1; cases h1
    | some q0 => rw [h2] at h1; exact ⟨q0, rfl, Option.some.inj h1⟩
  refine ⟨fun i j a b ha hb hab => ?_, fun k q hk => ?_⟩
  · obtain ⟨a0, h1, h2⟩ := key i a ha
    obtain ⟨b0, h3, h4⟩ := key j b hb
    exact h.1 i j a0 b0 h1 h3 (by rw [h2, h4, hab])
  · obtain ⟨q0, h1, h2⟩ := key k q hk
    rw [← h2]
    exact h.2 k q0 h1
theorem j_repl {A : Nat → Prop} {D : va_G} {ws w w1 : va_W} {H H1 : Heap} (hP : va_P D vwCl ws H) (hD : va_D A ws) (isC : List Nat) (hC : isC.map (fun i => ws[i]?) = w.map some) (hf : w1.map Prod.fst = w.map Prod.fst)
    (hk : ∀ q : Nat, q < H.size → ¬ va_A w H.size q → H1[q]? = H[q]?) (hP1 : va_P D vwCl w1 H1) : va_P D vwCl (jrep ws isC w1) H1 ∧ va_D A (jrep ws isC w1) := by
  have hfst : isC.map (fun i => (ws.map Prod.fst)[i]?) = w1.map (fun q => some q.1) := by
    have e1 : isC.map (fun i => (ws.map Prod.fst)[i]?) = (isC.map (fun i => ws[i]?)).map (fun o => o.map Prod.fst) := by
      rw [List.map_map]; exact List.map_congr_left (fun i _ => by simp [List.getElem?_map])
    have e2 : w1.map (fun q => some q.1) = (w1.map Prod.fst).map some := by rw [List.map_map]; rfl
    rw [e1, hC, e2, hf, List.map_map, List.map_map]; rfl
  have hlen : isC.length = w1.length := by
    have h1 := congrArg List.length hC
    have h2 := congrArg List.length hf
    simp only [List.length_map] at h1 h2
    omega
  have at' : ∀ (i : Nat), i ∈ isC → ∀ q, ws[i]? = some q → ∃ k : Nat, w[k]? = some q := by
    intro i hi q hq
    obtain ⟨k, hk⟩ := List.getElem?_of_mem hi
    have h1 : (isC.map (fun i => ws[i]?))[k]? = some (some q) := by rw [List.getElem?_map, hk, ← hq]; rfl
    rw [hC, List.getElem?_map] at h1
    cases h2 : w[k]? with
    | none => rw [h2] at h1; cases h1
    | some q0 => rw [h2] at h1; exact ⟨k, by rw [h2]; exact Option.some.inj h1⟩
  have back : ∀ (k : Nat) (q : Nat × va_E), w[k]? = some q → ∃ i : Nat, i ∈ isC ∧ ws[i]? = some q := by
    intro k q hq
    have h1 : (isC.map (fun i => ws[i]?))[k]? = some (some q) := by rw [hC, List.getElem?_map, hq]; rfl
    rw [List.getElem?_map] at h1
    cases hi : isC[k]? with
    | none => rw [hi] at h1; cases h1
    | some i => rw [hi] at h1; exact ⟨i, List.mem_of_getElem? hi, Option.some.inj h1⟩
  refine ⟨fun k q hq => ?_, hD.fst (jrep_fst isC w1 ws hfst)⟩
  rcases jrep_at isC w1 ws hlen k q hq with h | ⟨h1, h2⟩
  · obtain ⟨j, hj⟩ := List.getElem?_of_mem h
    exact hP1 j q hj
  · have hl := (hP k q h2).lt
    refine (hP k q h2).kept (hk q.1 hl (fun z => ?_))
    rcases z with ⟨j, e, h3⟩ | h3
    · obtain ⟨i, hi, h4⟩ := back j (q.1, e) h3
      have e5 := hD.1 k i q (q.1, e) h2 h4 rfl
      subst e5
      exact h1 hi
    · omega
theorem jsubP {D : va_G} {ws w : va_W} {H : Heap} (hP : va_P D vwCl ws H) (isC : List Nat) (hC : isC.map (fun i => ws[i]?) = w.map some) : va_P D vwCl w H := by
  intro k q hq
  have h1 : (isC.map (fun i => ws[i]?))[k]? = some (some q) := by rw [hC, List.getElem?_map, hq]; rfl
  rw [List.getElem?_map] at h1
  cases hi : isC[k]? with
  | none => rw [hi] at h1; cases h1
  | some i => rw [hi] at h1; exact hP i q (Option.some.inj h1)
theorem j_pick {κ : jK} {nL : Nat} {G : jG} {A : Nat → Prop} {cs ss : Nat} {Q : State → Prop} {pc : Nat} {lv : List (Nat × Value)} {st : List Value} {ws ws' : va_W} (is : List Nat) (hn : va_nd is = true) (hs : is.map (fun i => ws[i]?) = ws'.map some) (k : JJ κ nL G A cs ss Q pc lv st ws') : JJ κ nL G A cs ss Q pc lv st ws :=
  fun H locs ls hP hD hS hl => k H locs ls (jsubP hP is hs) (hD.sub is hn hs) hS hl
/-- a call's run, over every heap that holds the cells -/
def jRun (κ : jK) (nL : Nat) (G : jG) (A : Nat → Prop) (cs ss mc ms pc : Nat) (lv : List (Nat × Value)) (st0 rest : List Value) (ws w : va_W) (Qr : Option Value → va_W → Prop) : Prop :=
  ∀ (H : Heap) (locs : List Loc) (ls : Array Slot), va_P G.1 vwCl ws H → va_D A ws → lv_has ls nL lv → ∃ a0 : Array Value, va_Run (jp κ) (jl κ) (je κ) (jR κ) (js κ) (jm κ) (jar κ) (jb κ) (jme κ) (jc κ) H locs cs ss mc ms (F0 (jm κ) pc ls st0) rest (jPost G w H.size Qr a0) (va_A w H.size)
/-- a method whose answer and new cells are known -/
def MV (l : Launch) (y : MethodName) (ws : List Cond) (rm : Room) (G : jG) (as : List Value) (w : va_W) (r0 : Option Value) (w1 : va_W) : Prop := MF l y ws rm G as w 0 0 (fun r w' => r = r0 ∧ w' = w1)
section JC
variable {κ : jK} {l : Launch} {y : MethodName} {cc : ByteArray} {nL : Nat} {own : String} {Ts : List Cond} {ret : Option FieldType} {rm : Room} {G : jG} {A : Nat → Prop} {cs ss mc ms : Nat} {Q : State → Prop} {pc : Nat} {lv : List (Nat × Value)} {st0 rest : List Value} {ws ws' w w1 : va_W} {Qr : Option Value → va_W → Prop}
theorem j_cq (X : CX κ l y cc nL own Ts ret rm G A) (isC : List Nat) (hC : isC.map (fun i => ws[i]?) = w.map some) (hr : jRun κ nL G A cs ss mc ms pc lv st0 rest ws w Qr)
    (k : ∀ r w', Qr r w' → w'.map Prod.fst = w.map Prod.fst ∧ JJ κ nL G A (cs + mc) (ss + ms) Q (pc + 3) lv (r.toList ++ rest) (jrep ws isC w')) : JJ κ nL G A cs ss Q pc lv st0 ws := by
  intro H locs ls hP hD hS hl T hT X1
  obtain ⟨a0, hrun⟩ := hr H locs ls hP hD hl
  obtain ⟨v, st₀, t, T', L, h0, X', hL, e1, e2, ⟨⟨r, w', hv, hq, hP1, hD1⟩, hz, hk⟩, stp⟩ := hrun T hT X1
  cases hv
  rw [h0] at hz hk
  obtain ⟨hf, kk⟩ := k _ _ hq
  have hA : ∀ q, va_A w H.size q → A q := va_free hD hS X.2.2.2.2.2.2.2.1 isC hC
  obtain ⟨hP2, hD2⟩ := j_repl hP hD isC hC hf (H1 := T'.heap) (fun q h1 h2 => by rw [e1]; exact hk q h1 h2) (by rw [e1]; exact hP1)
  obtain ⟨t2, a1, b1⟩ := kk T'.heap (locs ++ L) ls hP2 hD2 ⟨Nat.le_trans hS.1 (by rw [e1]; exact hz), fun q h1 h2 => by rw [e1, hk q (Nat.lt_of_lt_of_le h1 hS.1) (fun z => h2 (hA q z))]; exact hS.2.1 q h1 h2, fun q hq => by
      rcases List.mem_append.mp hq with h | h
      · exact hS.2.2 q h
      · exact hA _ (hL q h)⟩ hl T' rfl X'
  exact ⟨t2, stp t2 a1, b1⟩
theorem j_ci (X : CX κ l y cc nL own Ts ret rm G A) {v : Int32} (isC : List Nat) (hC : isC.map (fun i => ws[i]?) = w.map some) (hr : jRun κ nL G A cs ss 0 0 pc lv st0 rest ws w (fun r w' => r = some (.int v) ∧ w' = w1)) (hf : w1.map Prod.fst = w.map Prod.fst) (hw : jrep ws isC w1 = ws') (k : JJ κ nL G A cs ss Q (pc + 3) lv (.int v :: rest) ws') : JJ κ nL G A cs ss Q pc lv st0 ws :=
  j_cq X isC hC hr (fun r w' h => by obtain ⟨rfl, rfl⟩ := h; exact ⟨hf, hw.symm ▸ k⟩)
theorem j_cl (X : CX κ l y cc nL own Ts ret rm G A) {v : Int64} (isC : List Nat) (hC : isC.map (fun i => ws[i]?) = w.map some) (hr : jRun κ nL G A cs ss 0 0 pc lv st0 rest ws w (fun r w' => r = some (.long v) ∧ w' = w1)) (hf : w1.map Prod.fst = w.map Prod.fst) (hw : jrep ws isC w1 = ws') (k : JJ κ nL G A cs ss Q (pc + 3) lv (.long v :: rest) ws') : JJ κ nL G A cs ss Q pc lv st0 ws :=
  j_cq X isC hC hr (fun r w' h => by obtain ⟨rfl, rfl⟩ := h; exact ⟨hf, hw.symm ▸ k⟩)
theorem j_cv (X : CX κ l y cc nL own Ts ret rm G A) (isC : List Nat) (hC : isC.map (fun i => ws[i]?) = w.map some) (hr : jRun κ nL G A cs ss 0 0 pc lv st0 rest ws w (fun r w' => r = none ∧ w' = w1)) (hf : w1.map Prod.fst = w.map Prod.fst) (hw : jrep ws isC w1 = ws') (k : JJ κ nL G A cs ss Q (pc + 3) lv rest ws') : JJ κ nL G A cs ss Q pc lv st0 ws :=
  j_cq X isC hC hr (fun r w' h => by obtain ⟨rfl, rfl⟩ := h; exact ⟨hf, hw.symm ▸ k⟩)
theorem j_rV (X : CX κ l y cc nL own Ts ret rm G A) {y2 : MethodName} {ws2 ws2' : List Cond} {rm2 : Room} {b : Nat} {As : List Value} {C : String} {index maxL N ci : Nat} {T : u_T} {bytes : ByteArray} {ret2 : Option FieldType} {fs : List Value} (n : Nat) (hM : MF l y2 ws2 rm2 G (.ref b :: As) w mc ms Qr) (hG : GoodIn Ts (wsV own index C y2 ws2)) (hw : ws2 = Cond.code y2 bytes maxL ret2 :: ws2') (hrc : rm2.cells = mc) (hrs : rm2.slots = ms)
    (hd : y2.cls = C ∧ y2.cls ≠ "java/lang/invoke/MethodHandle" ∧ y2.cls ≠ "java/lang/invoke/VarHandle" ∧ (parseMethodDescriptor y2.desc).map (fun d => d.parameters.length) = some n) (hR : rm2.frames + 1 ≤ rm.frames ∧ 8 + (maxL + 11) + rm2.locals ≤ rm.locals) (hn : As.length = n) (hcl : vwCl[ci]? = some (C, T, N)) (q0 : Nat) (he : w[q0]? = some (b, .inr (ci, fs)))
    (isC : List Nat) (hnd : va_nd isC = true) (hC : isC.map (fun i => ws[i]?) = w.map some) (hst : st0 = As.reverse ++ .ref b :: rest) (hroom : (rest.map fun v => v.category).sum ≤ 8) (hdg : decode cc pc = .ok (.invokevirtual index, 3)) (hf : cs + mc ≤ rm.cells ∧ ss + ms ≤ rm.slots) : jRun κ nL G A cs ss mc ms pc lv st0 rest ws w Qr := by
  obtain ⟨⟨rfl, rfl⟩, hx, hb, hml, hown, hts, hK, hA, hlk, hrt, hnm⟩ := X
  intro H locs ls hP hD hl
  have hPc := jsubP hP isC hC
  have hDc := hD.sub isC hnd hC
  exact ⟨_, va_runV ⟨hx, hb, hml, hown, hts⟩ (hM H.size) (cwV n hts hG hw hrc hrs hd hR) ⟨jPre.blind, va_recv hK.1 hPc hcl he, fun U hU hW => ⟨rfl, by rw [hU], by rw [hU]; exact hPc, jS.warm hW hK, hDc.weaken (fun _ _ _ _ => trivial)⟩⟩ rfl hn hl.1 hst (lv_room hroom) hdg hf⟩
theorem j_rVN (X : CX κ l y cc nL own Ts ret rm G A) {y2 : MethodName} {ws2 ws2' : List Cond} {rm2 : Room} {b : Nat} {As : List Value} {C : String} {index maxL N ci : Nat} {T : u_T} {bytes : ByteArray} {ret2 : Option FieldType} {fs : List Value} (n : Nat) (hM : MF l y2 ws2 rm2 G (.ref b :: As) w mc ms Qr) (hG : GoodIn Ts ws2) (hw : ws2 = Cond.code y2 bytes maxL ret2 :: ws2') (hrc : rm2.cells = mc) (hrs : rm2.slots = ms)
    (hlink : (own, index, y2, "MentorPairs") ∈ jNm) (hini : Cond.initialized y2.cls ∈ Ts) (hin : Cond.instanceMethod y2 ∈ Ts) (hsel : Cond.selects C y2 y2 ∈ Ts)
    (hd : y2.cls ≠ "java/lang/invoke/MethodHandle" ∧ y2.cls ≠ "java/lang/invoke/VarHandle" ∧ (parseMethodDescriptor y2.desc).map (fun d => d.parameters.length) = some n) (hR : rm2.frames + 1 ≤ rm.frames ∧ 8 + (maxL + 11) + rm2.locals ≤ rm.locals) (hn : As.length = n) (hcl : vwCl[ci]? = some (C, T, N)) (q0 : Nat) (he : w[q0]? = some (b, .inr (ci, fs)))
    (isC : List Nat) (hnd : va_nd isC = true) (hC : isC.map (fun i => ws[i]?) = w.map some) (hst : st0 = As.reverse ++ .ref b :: rest) (hroom : (rest.map fun v => v.category).sum ≤ 8) (hdg : decode cc pc = .ok (.invokevirtual index, 3)) (hf : cs + mc ≤ rm.cells ∧ ss + ms ≤ rm.slots) : jRun κ nL G A cs ss mc ms pc lv st0 rest ws w Qr := by
  obtain ⟨⟨rfl, rfl⟩, hx, hb, hml, hown, hts, hK, hA, hlk, hrt, hnm⟩ := X
  intro H locs ls hP hD hl
  have hPc := jsubP hP isC hC
  have hDc := hD.sub isC hnd hC
  exact ⟨_, va_runVN (host := "MentorPairs") ⟨hx, hb, hml, hown, hts⟩ (hM H.size) ⟨va_cnB n hts hG hw hrc hrs (hK.2.2 _ hlink) (hts _ hini) hd hR, hts _ hin, hts _ hsel⟩ ⟨jPre.blind, va_recv hK.1 hPc hcl he, fun U hU hW => ⟨rfl, by rw [hU], by rw [hU]; exact hPc, jS.warm hW hK, hDc.weaken (fun _ _ _ _ => trivial)⟩⟩ rfl hn hl.1 hst (lv_room hroom) hdg hf⟩
theorem j_rS (X : CX κ l y cc nL own Ts ret rm G A) {y2 : MethodName} {ws2 ws2' : List Cond} {rm2 : Room} {As : List Value} {index maxL : Nat} {bytes : ByteArray} {ret2 : Option FieldType} (n : Nat) (hM : MF l y2 ws2 rm2 G As w mc ms Qr) (hG : GoodIn Ts (va_wsS own index y2 ws2)) (hw : ws2 = Cond.code y2 bytes maxL ret2 :: ws2') (hrc : rm2.cells = mc) (hrs : rm2.slots = ms)
    (hd : y2.cls ≠ "java/lang/invoke/MethodHandle" ∧ y2.cls ≠ "java/lang/invoke/VarHandle" ∧ (parseMethodDescriptor y2.desc).map (fun d => d.parameters.length) = some n) (hR : rm2.frames + 1 ≤ rm.frames ∧ 8 + (maxL + 11) + rm2.locals ≤ rm.locals) (hn : As.length = n)
    (isC : List Nat) (hnd : va_nd isC = true) (hC : isC.map (fun i => ws[i]?) = w.map some) (hst : st0 = As.reverse ++ rest) (hroom : (rest.map fun v => v.category).sum ≤ 8) (hdg : decode cc pc = .ok (.invokestatic index, 3)) (hf : cs + mc ≤ rm.cells ∧ ss + ms ≤ rm.slots) : jRun κ nL G A cs ss mc ms pc lv st0 rest ws w Qr := by
  obtain ⟨⟨rfl, rfl⟩, hx, hb, hml, hown, hts, hK, hA, hlk, hrt, hnm⟩ := X
  intro H locs ls hP hD hl
  have hPc := jsubP hP isC hC
  have hDc := hD.sub isC hnd hC
  exact ⟨_, va_runS ⟨hx, hb, hml, hown, hts⟩ (hM H.size) (va_cwS n hts hG hw hrc hrs hd hR) ⟨jPre.blind, fun U hU hW => ⟨rfl, by rw [hU], by rw [hU]; exact hPc, jS.warm hW hK, hDc.weaken (fun _ _ _ _ => trivial)⟩⟩ rfl hn hl.1 hst (lv_room hroom) hdg hf⟩
theorem j_rSN (X : CX κ l y cc nL own Ts ret rm G A) {y2 : MethodName} {ws2 ws2' : List Cond} {rm2 : Room} {As : List Value} {index maxL : Nat} {bytes : ByteArray} {ret2 : Option FieldType} (n : Nat) (hM : MF l y2 ws2 rm2 G As w mc ms Qr) (hG : GoodIn Ts ws2) (hw : ws2 = Cond.code y2 bytes maxL ret2 :: ws2') (hrc : rm2.cells = mc) (hrs : rm2.slots = ms)
    (hlink : (own, index, y2, "MentorPairs") ∈ jNm) (hini : Cond.initialized y2.cls ∈ Ts) (hstt : Cond.static y2 ∈ Ts)
    (hd : y2.cls ≠ "java/lang/invoke/MethodHandle" ∧ y2.cls ≠ "java/lang/invoke/VarHandle" ∧ (parseMethodDescriptor y2.desc).map (fun d => d.parameters.length) = some n) (hR : rm2.frames + 1 ≤ rm.frames ∧ 8 + (maxL + 11) + rm2.locals ≤ rm.locals) (hn : As.length = n)
    (isC : List Nat) (hnd : va_nd isC = true) (hC : isC.map (fun i => ws[i]?) = w.map some) (hst : st0 = As.reverse ++ rest) (hroom : (rest.map fun v => v.category).sum ≤ 8) (hdg : decode cc pc = .ok (.invokestatic index, 3)) (hf : cs + mc ≤ rm.cells ∧ ss + ms ≤ rm.slots) : jRun κ nL G A cs ss mc ms pc lv st0 rest ws w Qr := by
  obtain ⟨⟨rfl, rfl⟩, hx, hb, hml, hown, hts, hK, hA, hlk, hrt, hnm⟩ := X
  intro H locs ls hP hD hl
  have hPc := jsubP hP isC hC
  have hDc := hD.sub isC hnd hC
  exact ⟨_, va_runSN (host := "MentorPairs") ⟨hx, hb, hml, hown, hts⟩ (hM H.size) ⟨va_cnB n hts hG hw hrc hrs (hK.2.2 _ hlink) (hts _ hini) hd hR, hts _ hstt, trivial⟩ ⟨jPre.blind, fun U hU hW => ⟨rfl, by rw [hU], by rw [hU]; exact hPc, jS.warm hW hK, hDc.weaken (fun _ _ _ _ => trivial)⟩⟩ rfl hn hl.1 hst (lv_room hroom) hdg hf⟩
end JC
def b2i (b : Bool) : Int32 := if b then 1 else 0
theorem b2i_t : b2i true = 1 := rfl
theorem b2i_f : b2i false = 0 := rfl
theorem b2i_0 {b : Bool} : b2i b = 0 ↔ b = false := by cases b <;> decide
theorem b2i_1 {b : Bool} : b2i b = 1 ↔ b = true := by cases b <;> decide
theorem b2i_nar (b : Bool) : narrow .boolean (.int (b2i b)) = .int (b2i b) := by cases b <;> rfl
theorem b2i_fit (b : Bool) : fits .boolean (.int (b2i b)) = true := by cases b <;> rfl
theorem b2i_vnar (b : Bool) : vp_nar .boolean (b2i b) = b2i b := by cases b <;> rfl
theorem b2i_inj {a b : Bool} : b2i a = b2i b ↔ a = b := by cases a <;> cases b <;> decide
abbrev kI (G : jG) (a n : Nat) (f : Nat → Int32) : Nat × va_E := (a, .inl (G.2.1, n, .inl f))
abbrev kJ (G : jG) (a n : Nat) (f : Nat → Int64) : Nat × va_E := (a, .inl (G.2.2.1, n, .inr (.inl f)))
abbrev kZ (G : jG) (a n : Nat) (f : Nat → Int32) : Nat × va_E := (a, .inl (G.2.2.2.1, n, .inl f))
abbrev kT (G : jG) (a n : Nat) (f : Nat → Option Nat) : Nat × va_E := (a, .inl (G.2.2.2.2, n, .inr (.inr (.inr (.inr f)))))
theorem jrep_selfA : ∀ (is : List Nat) (w ws : va_W), is.map (fun i => ws[i]?) = w.map some → jrepA is w ws = ws
  | [], _, _, _ => rfl
  | i :: is, [], ws, h => by simp at h
  | i :: is, q :: qs, ws, h => by
    simp only [List.map_cons, List.cons.injEq] at h
    have e : ws.set i q = ws := jset_same _ _ _ h.1
    have h2 := jrep_selfA is qs ws h.2
    show jrepA is qs (ws.set i q) = ws
    rw [e]
    exact h2
theorem jrep_self (is : List Nat) (w ws : va_W) (h : is.map (fun i => ws[i]?) = w.map some) : jrep ws is w = ws := jrep_selfA is w ws h
section JM
variable {κ : jK} {l : Launch} {y : MethodName} {cc : ByteArray} {nL : Nat} {own : String} {Ts : List Cond} {ret : Option FieldType} {rm : Room} {G : jG} {A : Nat → Prop} {cs ss : Nat} {Q : State → Prop} {pc : Nat} {lv : List (Nat × Value)} {st st0 rest : List Value} {ws w : va_W}
theorem j_ciP (X : CX κ l y cc nL own Ts ret rm G A) {v : Int32} (isC : List Nat) (hC : isC.map (fun i => ws[i]?) = w.map some) (hr : jRun κ nL G A cs ss 0 0 pc lv st0 rest ws w (fun r w' => r = some (.int v) ∧ w' = w)) (k : JJ κ nL G A cs ss Q (pc + 3) lv (.int v :: rest) ws) : JJ κ nL G A cs ss Q pc lv st0 ws :=
  j_ci X isC hC hr rfl (jrep_self isC w ws hC) k
theorem j_clP (X : CX κ l y cc nL own Ts ret rm G A) {v : Int64} (isC : List Nat) (hC : isC.map (fun i => ws[i]?) = w.map some) (hr : jRun κ nL G A cs ss 0 0 pc lv st0 rest ws w (fun r w' => r = some (.long v) ∧ w' = w)) (k : JJ κ nL G A cs ss Q (pc + 3) lv (.long v :: rest) ws) : JJ κ nL G A cs ss Q pc lv st0 ws :=
  j_cl X isC hC hr rfl (jrep_self isC w ws hC) k
theorem j_cvP (X : CX κ l y cc nL own Ts ret rm G A) (isC : List Nat) (hC : isC.map (fun i => ws[i]?) = w.map some) (hr : jRun κ nL G A cs ss 0 0 pc lv st0 rest ws w (fun r w' => r = none ∧ w' = w)) (k : JJ κ nL G A cs ss Q (pc + 3) lv rest ws) : JJ κ nL G A cs ss Q pc lv st0 ws :=
  j_cv X isC hC hr rfl (jrep_self isC w ws hC) k
theorem j_ifb_eq (X : CX κ l y cc nL own Ts ret rm G A) {B : Bool} {off : Int} {tgt : Nat} (hd : decode cc pc = .ok (.ifCond .eq off, 3)) (ht : (pc : Int) + off = (tgt : Int)) (kt : B = false → JJ κ nL G A cs ss Q tgt lv st ws) (kf : B = true → JJ κ nL G A cs ss Q (pc + 3) lv st ws) : JJ κ nL G A cs ss Q pc lv (.int (b2i B) :: st) ws :=
  j_if_eq X hd ht (fun c => kt (b2i_0.mp c)) (fun c => kf (by cases B <;> first | rfl | exact absurd rfl c))
theorem j_ifb_ne (X : CX κ l y cc nL own Ts ret rm G A) {B : Bool} {off : Int} {tgt : Nat} (hd : decode cc pc = .ok (.ifCond .ne off, 3)) (ht : (pc : Int) + off = (tgt : Int)) (kt : B = true → JJ κ nL G A cs ss Q tgt lv st ws) (kf : B = false → JJ κ nL G A cs ss Q (pc + 3) lv st ws) : JJ κ nL G A cs ss Q pc lv (.int (b2i B) :: st) ws :=
  j_if_ne X hd ht (fun c => kt (by cases B <;> first | rfl | exact absurd rfl c)) (fun c => kf (b2i_0.mp c))
theorem j_icmpN_eq (X : CX κ l y cc nL own Ts ret rm G A) {a b : Nat} {off : Int} {tgt : Nat} (ha : a < 2 ^ 31) (hb : b < 2 ^ 31) (hd : decode cc pc = .ok (.if_icmp .eq off, 3)) (ht : (pc : Int) + off = (tgt : Int)) (kt : a = b → JJ κ nL G A cs ss Q tgt lv st ws) (kf : ¬ (a = b) → JJ κ nL G A cs ss Q (pc + 3) lv st ws) : JJ κ nL G A cs ss Q pc lv (.int (nI b) :: .int (nI a) :: st) ws :=
  j_icmp_eq X hd ht (fun c => kt ((nI_eq ha hb).mp c)) (fun c => kf (fun z => c ((nI_eq ha hb).mpr z)))
theorem j_icmpN_ne (X : CX κ l y cc nL own Ts ret rm G A) {a b : Nat} {off : Int} {tgt : Nat} (ha : a < 2 ^ 31) (hb : b < 2 ^ 31) (hd : decode cc pc = .ok (.if_icmp .ne off, 3)) (ht : (pc : Int) + off = (tgt : Int)) (kt : ¬ a = b → JJ κ nL G A cs ss Q tgt lv st ws) (kf : a = b → JJ κ nL G A cs ss Q (pc + 3) lv st ws) : JJ κ nL G A cs ss Q pc lv (.int (nI b) :: .int (nI a) :: st) ws :=
  j_icmp_ne X hd ht (fun c => kt (fun e => c (by rw [e]))) (fun c => kf ((nI_eq ha hb).mp c))
theorem j_icmpN_lt (X : CX κ l y cc nL own Ts ret rm G A) {a b : Nat} {off : Int} {tgt : Nat} (ha : a < 2 ^ 31) (hb : b < 2 ^ 31) (hd : decode cc pc = .ok (.if_icmp .lt off, 3)) (ht : (pc : Int) + off = (tgt : Int)) (kt : a < b → JJ κ nL G A cs ss Q tgt lv st ws) (kf : ¬ (a < b) → JJ κ nL G A cs ss Q (pc + 3) lv st ws) : JJ κ nL G A cs ss Q pc lv (.int (nI b) :: .int (nI a) :: st) ws :=
  j_icmp_lt X hd ht (fun c => kt ((nI_ltI ha hb).mp c)) (fun c => kf (fun z => c ((nI_ltI ha hb).mpr z)))
theorem j_icmpN_ge (X : CX κ l y cc nL own Ts ret rm G A) {a b : Nat} {off : Int} {tgt : Nat} (ha : a < 2 ^ 31) (hb : b < 2 ^ 31) (hd : decode cc pc = .ok (.if_icmp .ge off, 3)) (ht : (pc : Int) + off = (tgt : Int)) (kt : b ≤ a → JJ κ nL G A cs ss Q tgt lv st ws) (kf : ¬ (b ≤ a) → JJ κ nL G A cs ss Q (pc + 3) lv st ws) : JJ κ nL G A cs ss Q pc lv (.int (nI b) :: .int (nI a) :: st) ws :=
  j_icmp_ge X hd ht (fun c => kt ((nI_leI hb ha).mp c)) (fun c => kf (fun z => c ((nI_leI hb ha).mpr z)))
theorem j_icmpN_gt (X : CX κ l y cc nL own Ts ret rm G A) {a b : Nat} {off : Int} {tgt : Nat} (ha : a < 2 ^ 31) (hb : b < 2 ^ 31) (hd : decode cc pc = .ok (.if_icmp .gt off, 3)) (ht : (pc : Int) + off = (tgt : Int)) (kt : b < a → JJ κ nL G A cs ss Q tgt lv st ws) (kf : ¬ (b < a) → JJ κ nL G A cs ss Q (pc + 3) lv st ws) : JJ κ nL G A cs ss Q pc lv (.int (nI b) :: .int (nI a) :: st) ws :=
  j_icmp_gt X hd ht (fun c => kt ((nI_ltI hb ha).mp c)) (fun c => kf (fun z => c ((nI_ltI hb ha).mpr z)))
theorem j_icmpN_le (X : CX κ l y cc nL own Ts ret rm G A) {a b : Nat} {off : Int} {tgt : Nat} (ha : a < 2 ^ 31) (hb : b < 2 ^ 31) (hd : decode cc pc = .ok (.if_icmp .le off, 3)) (ht : (pc : Int) + off = (tgt : Int)) (kt : a ≤ b → JJ κ nL G A cs ss Q tgt lv st ws) (kf : ¬ (a ≤ b) → JJ κ nL G A cs ss Q (pc + 3) lv st ws) : JJ κ nL G A cs ss Q pc lv (.int (nI b) :: .int (nI a) :: st) ws :=
  j_icmp_le X hd ht (fun c => kt ((nI_leI ha hb).mp c)) (fun c => kf (fun z => c ((nI_leI ha hb).mpr z)))
theorem j_ifN_eq (X : CX κ l y cc nL own Ts ret rm G A) {a : Nat} {off : Int} {tgt : Nat} (ha : a < 2 ^ 31) (hd : decode cc pc = .ok (.ifCond .eq off, 3)) (ht : (pc : Int) + off = (tgt : Int)) (kt : a = 0 → JJ κ nL G A cs ss Q tgt lv st ws) (kf : ¬ (a = 0) → JJ κ nL G A cs ss Q (pc + 3) lv st ws) : JJ κ nL G A cs ss Q pc lv (.int (nI a) :: st) ws :=
  j_if_eq X hd ht (fun c => kt ((nI_eq ha (by decide : 0 < 2 ^ 31)).mp c)) (fun c => kf (fun z => c ((nI_eq ha (by decide : 0 < 2 ^ 31)).mpr z)))
theorem j_ifN_ne (X : CX κ l y cc nL own Ts ret rm G A) {a : Nat} {off : Int} {tgt : Nat} (ha : a < 2 ^ 31) (hd : decode cc pc = .ok (.ifCond .ne off, 3)) (ht : (pc : Int) + off = (tgt : Int)) (kt : ¬ a = 0 → JJ κ nL G A cs ss Q tgt lv st ws) (kf : a = 0 → JJ κ nL G A cs ss Q (pc + 3) lv st ws) : JJ κ nL G A cs ss Q pc lv (.int (nI a) :: st) ws :=
  j_if_ne X hd ht (fun c => kt (fun e => c (by rw [e]; rfl))) (fun c => kf ((nI_eq ha (by decide : 0 < 2 ^ 31)).mp c))
theorem j_ifN_lt (X : CX κ l y cc nL own Ts ret rm G A) {a : Nat} {off : Int} {tgt : Nat} (ha : a < 2 ^ 31) (hd : decode cc pc = .ok (.ifCond .lt off, 3)) (ht : (pc : Int) + off = (tgt : Int)) (kt : a < 0 → JJ κ nL G A cs ss Q tgt lv st ws) (kf : ¬ (a < 0) → JJ κ nL G A cs ss Q (pc + 3) lv st ws) : JJ κ nL G A cs ss Q pc lv (.int (nI a) :: st) ws :=
  j_if_lt X hd ht (fun c => kt ((nI_ltI ha (by decide : 0 < 2 ^ 31)).mp c)) (fun c => kf (fun z => c ((nI_ltI ha (by decide : 0 < 2 ^ 31)).mpr z)))
theorem j_ifN_ge (X : CX κ l y cc nL own Ts ret rm G A) {a : Nat} {off : Int} {tgt : Nat} (ha : a < 2 ^ 31) (hd : decode cc pc = .ok (.ifCond .ge off, 3)) (ht : (pc : Int) + off = (tgt : Int)) (kt : 0 ≤ a → JJ κ nL G A cs ss Q tgt lv st ws) (kf : ¬ (0 ≤ a) → JJ κ nL G A cs ss Q (pc + 3) lv st ws) : JJ κ nL G A cs ss Q pc lv (.int (nI a) :: st) ws :=
  j_if_ge X hd ht (fun c => kt ((nI_leI (by decide : 0 < 2 ^ 31) ha).mp c)) (fun c => kf (fun z => c ((nI_leI (by decide : 0 < 2 ^ 31) ha).mpr z)))
theorem j_ifN_gt (X : CX κ l y cc nL own Ts ret rm G A) {a : Nat} {off : Int} {tgt : Nat} (ha : a < 2 ^ 31) (hd : decode cc pc = .ok (.ifCond .gt off, 3)) (ht : (pc : Int) + off = (tgt : Int)) (kt : 0 < a → JJ κ nL G A cs ss Q tgt lv st ws) (kf : ¬ (0 < a) → JJ κ nL G A cs ss Q (pc + 3) lv st ws) : JJ κ nL G A cs ss Q pc lv (.int (nI a) :: st) ws :=
  j_if_gt X hd ht (fun c => kt ((nI_ltI (by decide : 0 < 2 ^ 31) ha).mp c)) (fun c => kf (fun z => c ((nI_ltI (by decide : 0 < 2 ^ 31) ha).mpr z)))
theorem j_ifN_le (X : CX κ l y cc nL own Ts ret rm G A) {a : Nat} {off : Int} {tgt : Nat} (ha : a < 2 ^ 31) (hd : decode cc pc = .ok (.ifCond .le off, 3)) (ht : (pc : Int) + off = (tgt : Int)) (kt : a ≤ 0 → JJ κ nL G A cs ss Q tgt lv st ws) (kf : ¬ (a ≤ 0) → JJ κ nL G A cs ss Q (pc + 3) lv st ws) : JJ κ nL G A cs ss Q pc lv (.int (nI a) :: st) ws :=
  j_if_le X hd ht (fun c => kt ((nI_leI ha (by decide : 0 < 2 ^ 31)).mp c)) (fun c => kf (fun z => c ((nI_leI ha (by decide : 0 < 2 ^ 31)).mpr z)))
theorem jlc_eq (x z : Int64) : (lg_cmp x z = 0) ↔ (x = z) := by
  unfold lg_cmp
  simp only [gt_iff_lt, ne_eq, Int64.lt_iff_toInt_lt, Int64.le_iff_toInt_le, ← Int64.toInt_inj]
  repeat' split
  all_goals (constructor <;> intro hh <;> first | omega | decide | exact absurd hh (by decide))
theorem j_ifc_eq (X : CX κ l y cc nL own Ts ret rm G A) {x z : Int64} {off : Int} {tgt : Nat} (hd : decode cc pc = .ok (.ifCond .eq off, 3)) (ht : (pc : Int) + off = (tgt : Int)) (kt : x = z → JJ κ nL G A cs ss Q tgt lv st ws) (kf : ¬ (x = z) → JJ κ nL G A cs ss Q (pc + 3) lv st ws) : JJ κ nL G A cs ss Q pc lv (.int (lg_cmp x z) :: st) ws :=
  j_if_eq X hd ht (fun c => kt ((jlc_eq x z).mp c)) (fun c => kf (fun h => c ((jlc_eq x z).mpr h)))
theorem jlc_ne (x z : Int64) : (¬ lg_cmp x z = 0) ↔ (¬ x = z) := by
  unfold lg_cmp
  simp only [gt_iff_lt, ne_eq, Int64.lt_iff_toInt_lt, Int64.le_iff_toInt_le, ← Int64.toInt_inj]
  repeat' split
  all_goals (constructor <;> intro hh <;> first | omega | decide | exact absurd hh (by decide))
theorem j_ifc_ne (X : CX κ l y cc nL own Ts ret rm G A) {x z : Int64} {off : Int} {tgt : Nat} (hd : decode cc pc = .ok (.ifCond .ne off, 3)) (ht : (pc : Int) + off = (tgt : Int)) (kt : ¬ x = z → JJ κ nL G A cs ss Q tgt lv st ws) (kf : x = z → JJ κ nL G A cs ss Q (pc + 3) lv st ws) : JJ κ nL G A cs ss Q pc lv (.int (lg_cmp x z) :: st) ws :=
  j_if_ne X hd ht (fun c => kt ((jlc_ne x z).mp c)) (fun c => kf ((jlc_eq x z).mp c))
theorem jlc_lt (x z : Int64) : (lg_cmp x z < 0) ↔ (x < z) := by
  unfold lg_cmp
  simp only [gt_iff_lt, ne_eq, Int64.lt_iff_toInt_lt, Int64.le_iff_toInt_le, ← Int64.toInt_inj]
  repeat' split
  all_goals (constructor <;> intro hh <;> first | omega | decide | exact absurd hh (by decide))
theorem j_ifc_lt (X : CX κ l y cc nL own Ts ret rm G A) {x z : Int64} {off : Int} {tgt : Nat} (hd : decode cc pc = .ok (.ifCond .lt off, 3)) (ht : (pc : Int) + off = (tgt : Int)) (kt : x < z → JJ κ nL G A cs ss Q tgt lv st ws) (kf : ¬ (x < z) → JJ κ nL G A cs ss Q (pc + 3) lv st ws) : JJ κ nL G A cs ss Q pc lv (.int (lg_cmp x z) :: st) ws :=
  j_if_lt X hd ht (fun c => kt ((jlc_lt x z).mp c)) (fun c => kf (fun h => c ((jlc_lt x z).mpr h)))
theorem jlc_ge (x z : Int64) : (0 ≤ lg_cmp x z) ↔ (z ≤ x) := by
  unfold lg_cmp
  simp only [gt_iff_lt, ne_eq, Int64.lt_iff_toInt_lt, Int64.le_iff_toInt_le, ← Int64.toInt_inj]
  repeat' split
  all_goals (constructor <;> intro hh <;> first | omega | decide | exact absurd hh (by decide))
theorem j_ifc_ge (X : CX κ l y cc nL own Ts ret rm G A) {x z : Int64} {off : Int} {tgt : Nat} (hd : decode cc pc = .ok (.ifCond .ge off, 3)) (ht : (pc : Int) + off = (tgt : Int)) (kt : z ≤ x → JJ κ nL G A cs ss Q tgt lv st ws) (kf : ¬ (z ≤ x) → JJ κ nL G A cs ss Q (pc + 3) lv st ws) : JJ κ nL G A cs ss Q pc lv (.int (lg_cmp x z) :: st) ws :=
  j_if_ge X hd ht (fun c => kt ((jlc_ge x z).mp c)) (fun c => kf (fun h => c ((jlc_ge x z).mpr h)))
theorem jlc_gt (x z : Int64) : (0 < lg_cmp x z) ↔ (z < x) := by
  unfold lg_cmp
  simp only [gt_iff_lt, ne_eq, Int64.lt_iff_toInt_lt, Int64.le_iff_toInt_le, ← Int64.toInt_inj]
  repeat' split
  all_goals (constructor <;> intro hh <;> first | omega | decide | exact absurd hh (by decide))
theorem j_ifc_gt (X : CX κ l y cc nL own Ts ret rm G A) {x z : Int64} {off : Int} {tgt : Nat} (hd : decode cc pc = .ok (.ifCond .gt off, 3)) (ht : (pc : Int) + off = (tgt : Int)) (kt : z < x → JJ κ nL G A cs ss Q tgt lv st ws) (kf : ¬ (z < x) → JJ κ nL G A cs ss Q (pc + 3) lv st ws) : JJ κ nL G A cs ss Q pc lv (.int (lg_cmp x z) :: st) ws :=
  j_if_gt X hd ht (fun c => kt ((jlc_gt x z).mp c)) (fun c => kf (fun h => c ((jlc_gt x z).mpr h)))
theorem jlc_le (x z : Int64) : (lg_cmp x z ≤ 0) ↔ (x ≤ z) := by
  unfold lg_cmp
  simp only [gt_iff_lt, ne_eq, Int64.lt_iff_toInt_lt, Int64.le_iff_toInt_le, ← Int64.toInt_inj]
  repeat' split
  all_goals (constructor <;> intro hh <;> first | omega | decide | exact absurd hh (by decide))
theorem j_ifc_le (X : CX κ l y cc nL own Ts ret rm G A) {x z : Int64} {off : Int} {tgt : Nat} (hd : decode cc pc = .ok (.ifCond .le off, 3)) (ht : (pc : Int) + off = (tgt : Int)) (kt : x ≤ z → JJ κ nL G A cs ss Q tgt lv st ws) (kf : ¬ (x ≤ z) → JJ κ nL G A cs ss Q (pc + 3) lv st ws) : JJ κ nL G A cs ss Q pc lv (.int (lg_cmp x z) :: st) ws :=
  j_if_le X hd ht (fun c => kt ((jlc_le x z).mp c)) (fun c => kf (fun h => c ((jlc_le x z).mpr h)))
theorem j_labs (X : CX κ l y cc nL own Ts ret rm G A) {index : Nat} {x : Int64} (hd : decode cc pc = .ok (.invokestatic index, 3)) (h1 : Cond.methodLink own index Lib.MathLoose.abs_long.x ∈ Ts) (h2 : Cond.static Lib.MathLoose.abs_long.x ∈ Ts) (h3 : Cond.initialized "java/lang/Math" ∈ Ts) (h4 : Cond.code Lib.MathLoose.abs_long.x Lib.MathLoose.abs_long.code 2 (some .long) ∈ Ts) (hfr : 1 ≤ rm.frames) (hlo : (st.map fun v => v.category).sum + 13 ≤ rm.locals) (hcs : cs ≤ rm.cells ∧ ss ≤ rm.slots) (k : JJ κ nL G A cs ss Q (pc + 3) lv (.long (if 0 < x then x else -x) :: st) ws) : JJ κ nL G A cs ss Q pc lv (.long x :: st) ws := by
  obtain ⟨⟨rfl, rfl⟩, hx, hb, hml, hown, hts, hK, hA, hlk, hrt, hnm⟩ := X
  exact fun H locs ls hP hD hS hl => va_mabs_long hx hb (hml.trans hl.1.symm) hown (hts _ h1) (hts _ h2) (hts _ h3) (hts _ h4) hfr hlo hcs.1 hcs.2 hd (k H locs ls hP hD hS hl)
end JM

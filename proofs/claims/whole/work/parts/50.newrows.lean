/-! New cells: rows for the constructors. -/
theorem arrV_cg (cI : ClassId) (N : Nat) {f g : Nat → Value} (h : ∀ k, k < N → f k = g k) : arrV cI N f = arrV cI N g := by
  have e : (fun j : Fin N => f j.val) = (fun j : Fin N => g j.val) := funext (fun j => h j.1 j.2)
  unfold arrV
  rw [e]
theorem arr0I {N : Nat} {f : Nat → Int32} (hf : ∀ k, k < N → f k = 0) (cA : ClassId) : vp_cell cA (N, .inl f) = arrV cA N (fun _ => defaultValue .int) := by
  rw [vp_cell_i]
  refine arrV_cg cA N (fun j hj => ?_)
  rw [hf j hj]; rfl
theorem arr0Z {N : Nat} {f : Nat → Int32} (hf : ∀ k, k < N → f k = 0) (cA : ClassId) : vp_cell cA (N, .inl f) = arrV cA N (fun _ => defaultValue .boolean) := by
  rw [vp_cell_i]
  refine arrV_cg cA N (fun j hj => ?_)
  rw [hf j hj]; rfl
theorem arr0J {N : Nat} {f : Nat → Int64} (hf : ∀ k, k < N → f k = 0) (cA : ClassId) : vp_cell cA (N, .inr (.inl f)) = arrV cA N (fun _ => defaultValue .long) := by
  rw [vp_cell_l]
  refine arrV_cg cA N (fun j hj => ?_)
  rw [hf j hj]; rfl
section JW
variable {κ : jK} {l : Launch} {y : MethodName} {cc : ByteArray} {nL : Nat} {own : String} {Ts : List Cond} {ret : Option FieldType} {rm : Room} {G : jG} {A : Nat → Prop} {cs ss : Nat} {Q : State → Prop} {pc : Nat} {lv : List (Nat × Value)} {st : List Value} {ws : va_W}
theorem j_objI (X : CX κ l y cc nL own Ts ret rm G A) {idx a : Nat} (hk : Cond.methodLink own idx objectInit ∈ Ts) (hi : Cond.instanceMethod objectInit ∈ Ts) (hc : Cond.code objectInit ⟨#[0xb1]⟩ 1 none ∈ Ts) (hd : decode cc pc = .ok (.invokespecial idx, 3)) (hf : 1 ≤ rm.frames) (hr : (st.map fun v => v.category).sum ≤ 8) (hlo : 20 ≤ rm.locals) (k : JJ κ nL G A cs ss Q (pc + 3) lv st ws) : JJ κ nL G A cs ss Q pc lv (.ref a :: st) ws := by
  obtain ⟨⟨rfl, rfl⟩, hx, hb, hml, hown, hts, hK, hA, hlk, hrt, hnm⟩ := X
  intro H locs ls hP hD hS hl
  exact W.objInit hx hb hown (hts _ hk) (hts _ hi) (hts _ hc) rfl (by rw [hml]; exact hl.1) rfl hd hf (Nat.le_trans (Nat.add_le_add_right (lv_room hr) 12) hlo) (k H locs ls hP hD hS hl)
theorem j_new (X : CX κ l y cc nL own Ts ret rm G A) (ci : Nat) {C : String} {T : u_T} {N index : Nat} (hin : ∀ w ∈ u_ws C T N, w ∈ Ts) (ty0 : Nat → FieldType) (hty : ∀ k, k < N → parseFieldDescriptor (T k).2.2.1 = some (ty0 k)) (hk : Cond.classLink own index C ∈ Ts) (hi : Cond.instantiable C N ∈ Ts) (hini : Cond.initialized C ∈ Ts) (hc : vwCl[ci]? = some (C, T, N)) {fs : List Value} (hfs : ∀ j, j < N → defaultValue (ty0 j) = vp_V fs j) (hcs : cs + 1 ≤ rm.cells) (hss : ss + N ≤ rm.slots) (hd : decode cc pc = .ok (.new index, 3)) {wf : Nat → va_W} (hw : ∀ q, ws ++ [(q, .inr (ci, fs))] = wf q) {cs' ss' : Nat} (hc1 : cs + 1 = cs') (hs1 : ss + N = ss') (k : ∀ q, JJ κ nL G A cs' ss' Q (pc + 3) lv (.ref q :: st) (wf q)) : JJ κ nL G A cs ss Q pc lv st ws := by
  obtain ⟨⟨rfl, rfl⟩, hx, hb, hml, hown, hts, hK, hA, hlk, hrt, hnm⟩ := X
  subst hc1; subst hs1
  intro H locs ls hP hD hS hl
  exact va_new hx hb hts hin ty0 hty hown (hts _ hk) (hts _ hi) (hts _ hini) hK.1 hP hD hS hA hc hfs hcs hss hd (fun q H1 hP1 hD1 hS1 => k q H1 locs ls (hw q ▸ hP1) (hw q ▸ hD1) hS1 hl)
theorem j_newI (X : CX κ l y cc nL own Ts ret rm G A) {n : Int32} (N : Nat) (harr : Cond.arrayClass .int ∈ Ts) (hn : ¬ n < 0) (hN : n.toNatClampNeg = N) (hby : N * 4 ≤ 536870912) (hcs : cs + 1 ≤ rm.cells) (hss : ss + N ≤ rm.slots) (hd : decode cc pc = .ok (.newarray .int, 2)) {f : Nat → Int32} (hf : ∀ k, k < N → f k = 0) {wf : Nat → va_W} (hw : ∀ q, ws ++ [kI G q N f] = wf q) {cs' ss' : Nat} (hc1 : cs + 1 = cs') (hs1 : ss + N = ss') (k : ∀ q, JJ κ nL G A cs' ss' Q (pc + 2) lv (.ref q :: st) (wf q)) : JJ κ nL G A cs ss Q pc lv (.int n :: st) ws := by
  obtain ⟨⟨rfl, rfl⟩, hx, hb, hml, hown, hts, hK, hA, hlk, hrt, hnm⟩ := X
  subst hc1; subst hs1
  intro H locs ls hP hD hS hl
  refine va_newa (N' := N) (atype := .int) (ty := .int) (a0 := (N, .inl f)) hx hb (hts _ harr) rfl hK.1 hP hD hS hA (arr0I hf) hn hN hby hcs hss hd (fun q cA H1 hK1 hP1 hD1 hS1 => ?_)
  have h1 : (js κ).vm.findClass ("[" ++ FieldType.int.toString) = some cA := (hK1.2 4 (cA, .int) rfl).2
  have h2 : (js κ).vm.findClass ("[" ++ FieldType.int.toString) = some G.2.1 := (hK.1.2 0 (G.2.1, .int) rfl).2
  have e := Option.some.inj (h1.symm.trans h2)
  subst e
  exact k q H1 locs ls (hw q ▸ hP1) (hw q ▸ hD1) hS1 hl
theorem j_newZ (X : CX κ l y cc nL own Ts ret rm G A) {n : Int32} (N : Nat) (harr : Cond.arrayClass .boolean ∈ Ts) (hn : ¬ n < 0) (hN : n.toNatClampNeg = N) (hby : N * 1 ≤ 536870912) (hcs : cs + 1 ≤ rm.cells) (hss : ss + N ≤ rm.slots) (hd : decode cc pc = .ok (.newarray .boolean, 2)) {f : Nat → Int32} (hf : ∀ k, k < N → f k = 0) {wf : Nat → va_W} (hw : ∀ q, ws ++ [kZ G q N f] = wf q) {cs' ss' : Nat} (hc1 : cs + 1 = cs') (hs1 : ss + N = ss') (k : ∀ q, JJ κ nL G A cs' ss' Q (pc + 2) lv (.ref q :: st) (wf q)) : JJ κ nL G A cs ss Q pc lv (.int n :: st) ws := by
  obtain ⟨⟨rfl, rfl⟩, hx, hb, hml, hown, hts, hK, hA, hlk, hrt, hnm⟩ := X
  subst hc1; subst hs1
  intro H locs ls hP hD hS hl
  refine va_newa (N' := N) (atype := .boolean) (ty := .boolean) (a0 := (N, .inl f)) hx hb (hts _ harr) rfl hK.1 hP hD hS hA (arr0Z hf) hn hN hby hcs hss hd (fun q cA H1 hK1 hP1 hD1 hS1 => ?_)
  have h1 : (js κ).vm.findClass ("[" ++ FieldType.boolean.toString) = some cA := (hK1.2 4 (cA, .boolean) rfl).2
  have h2 : (js κ).vm.findClass ("[" ++ FieldType.boolean.toString) = some G.2.2.2.1 := (hK.1.2 2 (G.2.2.2.1, .boolean) rfl).2
  have e := Option.some.inj (h1.symm.trans h2)
  subst e
  exact k q H1 locs ls (hw q ▸ hP1) (hw q ▸ hD1) hS1 hl
theorem j_newJ (X : CX κ l y cc nL own Ts ret rm G A) {n : Int32} (N : Nat) (harr : Cond.arrayClass .long ∈ Ts) (hn : ¬ n < 0) (hN : n.toNatClampNeg = N) (hby : N * 8 ≤ 536870912) (hcs : cs + 1 ≤ rm.cells) (hss : ss + N ≤ rm.slots) (hd : decode cc pc = .ok (.newarray .long, 2)) {f : Nat → Int64} (hf : ∀ k, k < N → f k = 0) {wf : Nat → va_W} (hw : ∀ q, ws ++ [kJ G q N f] = wf q) {cs' ss' : Nat} (hc1 : cs + 1 = cs') (hs1 : ss + N = ss') (k : ∀ q, JJ κ nL G A cs' ss' Q (pc + 2) lv (.ref q :: st) (wf q)) : JJ κ nL G A cs ss Q pc lv (.int n :: st) ws := by
  obtain ⟨⟨rfl, rfl⟩, hx, hb, hml, hown, hts, hK, hA, hlk, hrt, hnm⟩ := X
  subst hc1; subst hs1
  intro H locs ls hP hD hS hl
  refine va_newa (N' := N) (atype := .long) (ty := .long) (a0 := (N, .inr (.inl f))) hx hb (hts _ harr) rfl hK.1 hP hD hS hA (arr0J hf) hn hN hby hcs hss hd (fun q cA H1 hK1 hP1 hD1 hS1 => ?_)
  have h1 : (js κ).vm.findClass ("[" ++ FieldType.long.toString) = some cA := (hK1.2 4 (cA, .long) rfl).2
  have h2 : (js κ).vm.findClass ("[" ++ FieldType.long.toString) = some G.2.2.1 := (hK.1.2 1 (G.2.2.1, .long) rfl).2
  have e := Option.some.inj (h1.symm.trans h2)
  subst e
  exact k q H1 locs ls (hw q ▸ hP1) (hw q ▸ hD1) hS1 hl
theorem j_newT (X : CX κ l y cc nL own Ts ret rm G A) (hAO : va_AO RX7 (js κ)) {n : Int32} (N : Nat) {index : Nat} (hk : Cond.classLink own index RX7 ∈ Ts) (hn : ¬ n < 0) (hN : n.toNatClampNeg = N) (hby : N * 4 ≤ 536870912) (hcs : cs + 1 ≤ rm.cells) (hss : ss + N ≤ rm.slots) (hd : decode cc pc = .ok (.anewarray index, 3)) {wf : Nat → va_W} (hw : ∀ q, ws ++ [kT G q N (fun _ => none)] = wf q) {cs' ss' : Nat} (hc1 : cs + 1 = cs') (hs1 : ss + N = ss') (k : ∀ q, JJ κ nL G A cs' ss' Q (pc + 3) lv (.ref q :: st) (wf q)) : JJ κ nL G A cs ss Q pc lv (.int n :: st) ws := by
  obtain ⟨⟨rfl, rfl⟩, hx, hb, hml, hown, hts, hK, hA, hlk, hrt, hnm⟩ := X
  subst hc1; subst hs1
  intro H locs ls hP hD hS hl
  refine va_newq (C := RX7) hx hb hown (hts _ hk) hAO hK.1 hP hD hS hA hn hN hby hcs hss hd (fun q cA H1 hK1 hP1 hD1 hS1 => ?_)
  obtain ⟨k1, c1, -, -, -, h1⟩ := (hK1.2 4 (cA, .object RX7) rfl).2
  obtain ⟨k2, c2, -, -, -, h2⟩ := (hK.1.2 3 (G.2.2.2.2, .object RX7) rfl).2
  have e := Option.some.inj (h1.symm.trans h2)
  subst e
  exact k q H1 locs ls (hw q ▸ hP1) (hw q ▸ hD1) hS1 hl
theorem j_astq (X : CX κ l y cc nL own Ts ret rm G A) {a v n : Nat} (q0 qk : Nat) {f f2 : Nat → Option Nat} {vs : List Value} {ws' : va_W} (ha : ws[q0]? = some (kT G a n f)) (hv : ws[qk]? = some (v, .inr (7, vs))) {i : Int32} (hin : vp_in i n) (hd : decode cc pc = .ok (.aastore, 1)) (hf : va_up f i.toNatClampNeg (some v) = f2) (hw : ws.set q0 (kT G a n f2) = ws') (k : JJ κ nL G A cs ss Q (pc + 1) lv st ws') : JJ κ nL G A cs ss Q pc lv (.ref v :: .int i :: .ref a :: st) ws := by
  subst hf; subst hw
  exact fun H locs ls hP hD hS hl => va_astq (r := (RX7, TX7, 4)) X.2.1 X.2.2.1 X.2.2.2.2.2.2.1.1 hP hD hS q0 3 qk 7 ha rfl hv rfl hin hd (fun H1 locs1 hP1 hD1 hS1 => k H1 locs1 ls hP1 hD1 hS1 hl)
end JW
section JX
variable {κ : jK} {l : Launch} {y : MethodName} {cc : ByteArray} {nL : Nat} {own : String} {Ts : List Cond} {ret : Option FieldType} {rm : Room} {G : jG} {A : Nat → Prop} {cs ss mc ms : Nat} {Q : State → Prop} {pc : Nat} {lv : List (Nat × Value)} {st0 rest : List Value} {ws w wr : va_W} {Qr : Option Value → va_W → Prop}
/-- a call that makes cells: the others come first, then what came back -/
theorem j_cn (X : CX κ l y cc nL own Ts ret rm G A) (isC isR : List Nat) (hC : isC.map (fun i => ws[i]?) = w.map some) (hR : isR.map (fun i => ws[i]?) = wr.map some) (hn : va_nd isR = true) (hdis : ∀ i ∈ isR, i ∉ isC) (hr : jRun κ nL G A cs ss mc ms pc lv st0 rest ws w Qr) {cs' ss' : Nat} (hc1 : cs + mc = cs') (hs1 : ss + ms = ss')
    (k : ∀ r w', Qr r w' → JJ κ nL G A cs' ss' Q (pc + 3) lv (r.toList ++ rest) (wr ++ w')) : JJ κ nL G A cs ss Q pc lv st0 ws := by
  subst hc1; subst hs1
  intro H locs ls hP hD hS hl T hT X1
  obtain ⟨a0, hrun⟩ := hr H locs ls hP hD hl
  obtain ⟨v, st₀, t, T', L, h0, X', hL, e1, e2, ⟨⟨r, w', hv, hq, hP1, hD1⟩, hz, hk⟩, stp⟩ := hrun T hT X1
  cases hv
  rw [h0] at hz hk
  have kk := k _ _ hq
  have hA : ∀ q, va_A w H.size q → A q := va_free hD hS X.2.2.2.2.2.2.2.1 isC hC
  obtain ⟨hP2, hD2⟩ := va_join (H1 := T'.heap) hP hD isC isR hC hR hn hdis (fun q h1 h2 => by rw [e1]; exact hk q h1 h2) hA (by rw [e1]; exact hP1) hD1
  obtain ⟨t2, a1, b1⟩ := kk T'.heap (locs ++ L) ls hP2 hD2 ⟨Nat.le_trans hS.1 (by rw [e1]; exact hz), fun q h1 h2 => by rw [e1, hk q (Nat.lt_of_lt_of_le h1 hS.1) (fun z => h2 (hA q z))]; exact hS.2.1 q h1 h2, fun q hq => by
      rcases List.mem_append.mp hq with h | h
      · exact hS.2.2 q h
      · exact hA _ (hL q h)⟩ hl T' rfl X'
  exact ⟨t2, stp t2 a1, b1⟩
theorem j_rIN (X : CX κ l y cc nL own Ts ret rm G A) {y2 : MethodName} {ws2 ws2' : List Cond} {rm2 : Room} {b : Nat} {As : List Value} {index maxL : Nat} {bytes : ByteArray} (n : Nat) (hM : MF l y2 ws2 rm2 G (.ref b :: As) w mc ms Qr) (hG : GoodIn Ts ws2) (hw : ws2 = Cond.code y2 bytes maxL none :: ws2') (hrc : rm2.cells = mc) (hrs : rm2.slots = ms)
    (hlink : (own, index, y2, "MentorPairs") ∈ jNm) (hini : Cond.initialized y2.cls ∈ Ts) (hin : Cond.instanceMethod y2 ∈ Ts) (hnm2 : y2.name = "<init>")
    (hd : y2.cls ≠ "java/lang/invoke/MethodHandle" ∧ y2.cls ≠ "java/lang/invoke/VarHandle" ∧ (parseMethodDescriptor y2.desc).map (fun d => d.parameters.length) = some n) (hR : rm2.frames + 1 ≤ rm.frames ∧ 8 + (maxL + 11) + rm2.locals ≤ rm.locals) (hn : As.length = n)
    (isC : List Nat) (hnd : va_nd isC = true) (hC : isC.map (fun i => ws[i]?) = w.map some) (hst : st0 = As.reverse ++ .ref b :: rest) (hroom : (rest.map fun v => v.category).sum ≤ 8) (hdg : decode cc pc = .ok (.invokespecial index, 3)) (hf : cs + mc ≤ rm.cells ∧ ss + ms ≤ rm.slots) : jRun κ nL G A cs ss mc ms pc lv st0 rest ws w Qr := by
  obtain ⟨⟨rfl, rfl⟩, hx, hb, hml, hown, hts, hK, hA, hlk, hrt, hnm⟩ := X
  intro H locs ls hP hD hl
  have hPc := jsubP hP isC hC
  have hDc := hD.sub isC hnd hC
  exact ⟨_, va_runIN (host := "MentorPairs") ⟨hx, hb, hml, hown, hts⟩ (hM H.size) ⟨va_cnB n hts hG hw hrc hrs (hK.2.2 _ hlink) (hts _ hini) hd hR, hnm2, hts _ hin⟩ ⟨jPre.blind, fun U hU hW => ⟨rfl, by rw [hU], by rw [hU]; exact hPc, jS.warm hW hK, hDc.weaken (fun _ _ _ _ => trivial)⟩⟩ rfl hn hl.1 hst (lv_room hroom) hdg hf⟩
theorem j_rI (X : CX κ l y cc nL own Ts ret rm G A) {y2 : MethodName} {ws2 ws2' : List Cond} {rm2 : Room} {b : Nat} {As : List Value} {index maxL : Nat} {bytes : ByteArray} (n : Nat) (hM : MF l y2 ws2 rm2 G (.ref b :: As) w mc ms Qr) (hG : GoodIn Ts ws2) (hw : ws2 = Cond.code y2 bytes maxL none :: ws2') (hrc : rm2.cells = mc) (hrs : rm2.slots = ms)
    (hlink : Cond.methodLink own index y2 ∈ Ts) (hini : Cond.initialized y2.cls ∈ Ts) (hin : Cond.instanceMethod y2 ∈ Ts) (hnm2 : y2.name = "<init>")
    (hd : y2.cls ≠ "java/lang/invoke/MethodHandle" ∧ y2.cls ≠ "java/lang/invoke/VarHandle" ∧ (parseMethodDescriptor y2.desc).map (fun d => d.parameters.length) = some n) (hR : rm2.frames + 1 ≤ rm.frames ∧ 8 + (maxL + 11) + rm2.locals ≤ rm.locals) (hn : As.length = n)
    (isC : List Nat) (hnd : va_nd isC = true) (hC : isC.map (fun i => ws[i]?) = w.map some) (hst : st0 = As.reverse ++ .ref b :: rest) (hroom : (rest.map fun v => v.category).sum ≤ 8) (hdg : decode cc pc = .ok (.invokespecial index, 3)) (hf : cs + mc ≤ rm.cells ∧ ss + ms ≤ rm.slots) : jRun κ nL G A cs ss mc ms pc lv st0 rest ws w Qr := by
  obtain ⟨⟨rfl, rfl⟩, hx, hb, hml, hown, hts, hK, hA, hlk, hrt, hnm⟩ := X
  intro H locs ls hP hD hl
  have hPc := jsubP hP isC hC
  have hDc := hD.sub isC hnd hC
  exact ⟨_, va_runI ⟨hx, hb, hml, hown, hts⟩ (hM H.size) (cwI n hts hG hw hrc hrs (hts _ hini) (hts _ hlink) (hts _ hin) hnm2 hd hR) ⟨jPre.blind, fun U hU hW => ⟨rfl, by rw [hU], by rw [hU]; exact hPc, jS.warm hW hK, hDc.weaken (fun _ _ _ _ => trivial)⟩⟩ rfl hn hl.1 hst (lv_room hroom) hdg hf⟩
end JX
/-! a contract that also asks that rows of trays can be made -/
def jPreA (G : jG) (as : List Value) (w : va_W) (sz : Nat) : Array Value → State → Prop := fun a U => jPre G as w sz a U ∧ va_AO RX7 U
theorem jPreA.blind {G : jG} {as : List Value} {w : va_W} {sz : Nat} : FrameBlind (jPreA G as w sz) := by
  intro a U g mk q
  obtain ⟨⟨q0, q1, qP, ⟨qK, qN⟩, qD⟩, qA⟩ := q
  exact ⟨⟨q0, q1, qP, ⟨va_K.moved (u := U) (U := U.calling g mk a) (Vm.Alike.refl U.vm) qK, jN.same (U := U.calling g mk a) rfl qN⟩, qD⟩, va_AO.moved (u := U) (U := U.calling g mk a) (Vm.Alike.refl U.vm) qA⟩
def MFA (l : Launch) (y : MethodName) (ws : List Cond) (rm : Room) (G : jG) (as : List Value) (w : va_W) (mc ms : Nat) (Qr : Option Value → va_W → Prop) : Prop :=
  ∀ sz : Nat, Met l y ws rm (jPreA G as w sz) (jPost G w sz Qr) mc ms (va_A w sz)
theorem MFA.ofJ {l : Launch} {y : MethodName} {ws ws' : List Cond} {rm : Room} {G : jG} {as : List Value} {w : va_W} {mc ms : Nat} {Qr : Option Value → va_W → Prop} {cc : ByteArray} {maxL : Nat} {ret : Option FieldType} {own : String} {lv : List (Nat × Value)}
    (hy : plainName y.cls = true) (hw : ws = Cond.code y cc maxL ret :: ws') (ho : y.cls = own) (hlen : (lg_sl as).length ≤ maxL) (hlv : lv_args 0 as = lv)
    (body : ∀ κ : jK, va_AO RX7 (js κ) → CX κ l y cc maxL own ws ret rm G (va_A w (js κ).heap.size) → JJ κ maxL G (va_A w (js κ).heap.size) 0 0 (jQ κ G w Qr mc ms) 0 lv [] w) : MFA l y ws rm G as w mc ms Qr := by
  intro sz
  refine Met.ofW (cc := cc) (maxL := maxL) (ret := ret) hy hw ?_
  intro p e s m args below meth c s₁ B hml hv
  obtain ⟨⟨rfl, hsz, hP, hK, hD⟩, hAO⟩ := hv
  subst hsz
  subst hlv
  have hts := atoms_spec (ws := ws) B.pre
  have hown : s.vm.findClass own = some m.cls := by rw [← ho]; exact findClass_of_methodNamed B.named
  have hl := lv_entry as (n := maxL) hlen
  rw [lg_entry_eq]
  exact body (p, l, e, rm, s, m, as.toArray, below, meth, c) hAO ⟨⟨rfl, rfl⟩, B.exec, B.bytes, hml, hown, hts, hK, fun q h => Or.inr h, B.notSynchronized, B.returns, (name_of_methodNamed B.named B.method).1⟩ s.heap [] _ hP (hD.self (sz := s.heap.size)) va_S.rf hl
theorem j_rIA {κ : jK} {l : Launch} {y : MethodName} {cc : ByteArray} {nL : Nat} {own : String} {Ts : List Cond} {ret : Option FieldType} {rm : Room} {G : jG} {A : Nat → Prop} {cs ss mc ms : Nat} {pc : Nat} {lv : List (Nat × Value)} {st0 rest : List Value} {ws w : va_W} {Qr : Option Value → va_W → Prop} (X : CX κ l y cc nL own Ts ret rm G A) (hAO : va_AO RX7 (js κ)) {y2 : MethodName} {ws2 ws2' : List Cond} {rm2 : Room} {b : Nat} {As : List Value} {index maxL : Nat} {bytes : ByteArray} (n : Nat) (hM : MFA l y2 ws2 rm2 G (.ref b :: As) w mc ms Qr) (hG : GoodIn Ts ws2) (hw : ws2 = Cond.code y2 bytes maxL none :: ws2') (hrc : rm2.cells = mc) (hrs : rm2.slots = ms)
    (hlink : Cond.methodLink own index y2 ∈ Ts) (hini : Cond.initialized y2.cls ∈ Ts) (hin : Cond.instanceMethod y2 ∈ Ts) (hnm2 : y2.name = "<init>")
    (hd : y2.cls ≠ "java/lang/invoke/MethodHandle" ∧ y2.cls ≠ "java/lang/invoke/VarHandle" ∧ (parseMethodDescriptor y2.desc).map (fun d => d.parameters.length) = some n) (hR : rm2.frames + 1 ≤ rm.frames ∧ 8 + (maxL + 11) + rm2.locals ≤ rm.locals) (hn : As.length = n)
    (isC : List Nat) (hnd : va_nd isC = true) (hC : isC.map (fun i => ws[i]?) = w.map some) (hst : st0 = As.reverse ++ .ref b :: rest) (hroom : (rest.map fun v => v.category).sum ≤ 8) (hdg : decode cc pc = .ok (.invokespecial index, 3)) (hf : cs + mc ≤ rm.cells ∧ ss + ms ≤ rm.slots) : jRun κ nL G A cs ss mc ms pc lv st0 rest ws w Qr := by
  obtain ⟨⟨rfl, rfl⟩, hx, hb, hml, hown, hts, hK, hA, hlk, hrt, hnm⟩ := X
  intro H locs ls hP hD hl
  have hPc := jsubP hP isC hC
  have hDc := hD.sub isC hnd hC
  exact ⟨_, va_runI ⟨hx, hb, hml, hown, hts⟩ (hM H.size) (cwI n hts hG hw hrc hrs (hts _ hini) (hts _ hlink) (hts _ hin) hnm2 hd hR) ⟨jPreA.blind, fun U hU hW => ⟨⟨rfl, by rw [hU], by rw [hU]; exact hPc, jS.warm hW hK, hDc.weaken (fun _ _ _ _ => trivial)⟩, va_AO.moved hW.alike hAO⟩⟩ rfl hn hl.1 hst (lv_room hroom) hdg hf⟩

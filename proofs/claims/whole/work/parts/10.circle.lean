set_option maxHeartbeats 4000000 in
set_option maxRecDepth 100000 in
theorem mX0_spot (l : Launch) (G : jG) (e : Nat) (b : Nat)  : MV l yX0_spot wsX0_spot ({ frames := 0, cells := 0, slots := 0, locals := 0 }) G [.int (nI e), .int (nI b)] [] (some (.int (nI (e * 16 + b)))) [] := by
  refine MF.ofJ (cc := cX0_spot) (maxL := 2) (ret := (some .int)) (own := RX0) (lv := [(0, .int (nI e)), (1, .int (nI b))]) (by decide) rfl rfl (Nat.le_of_ble_eq_true rfl) rfl ?_
  intro κ X
  refine j_iload_n (pc := 0) X dX0_spot_0 rfl 0 rfl ?_
  refine j_bipush (pc := 1) X (v := nI 16) dX0_spot_1 (by decide) ?_
  refine j_imul (pc := 3) X dX0_spot_3 ?_
  refine j_topi (z := nI (e * 16)) (pk_mul _ _) ?_
  refine j_iload_n (pc := 4) X dX0_spot_4 rfl 1 rfl ?_
  refine j_iadd (pc := 5) X dX0_spot_5 ?_
  refine j_topi (z := nI (e * 16 + b)) (nI_add _ _) ?_
  exact j_iret (pc := 6) X dX0_spot_6 ⟨rfl, rfl⟩

set_option maxHeartbeats 4000000 in
set_option maxRecDepth 100000 in
theorem mX0_isElder (l : Launch) (G : jG) (qc : Nat) (qc0 : Nat) (qc1 : Nat) (qc2 : Nat) (qc3 : Nat) (el : Nat) (be : Nat) (x : Int32)  : MV l yX0_isElder wsX0_isElder ({ frames := 0, cells := 0, slots := 0, locals := 0 }) G [.ref qc, .int x] [(qc, .inr (0, [.ref qc0, .ref qc1, .ref qc2, .ref qc3, .int (nI el), .int (nI be)]))] (some (.int (b2i (inR x el)))) [(qc, .inr (0, [.ref qc0, .ref qc1, .ref qc2, .ref qc3, .int (nI el), .int (nI be)]))] := by
  refine MF.ofJ (cc := cX0_isElder) (maxL := 2) (ret := (some .boolean)) (own := RX0) (lv := [(0, .ref qc), (1, .int x)]) (by decide) rfl rfl (Nat.le_of_ble_eq_true rfl) rfl ?_
  intro κ X
  have i_X0 : ∀ w ∈ wsX00, w ∈ wsX0_isElder := by decide +kernel
  refine j_iload_n (pc := 0) X dX0_isElder_0 rfl 1 rfl ?_
  refine j_if_lt (pc := 1) X (x := x) (tgt := 16) dX0_isElder_1 (by decide) (fun c_1 => ?_) (fun c_1 => ?_)
  · skip
    refine j_iconst (pc := 16) X (v := nI 0) dX0_isElder_16 (by decide) ?_
    exact j_zret (pc := 17) X (rfl) dX0_isElder_17 ⟨r0 (by simp [inR, c_1]), rfl⟩
  · skip
    refine j_iload_n (pc := 4) X dX0_isElder_4 rfl 1 rfl ?_
    refine j_aload_n (pc := 5) X dX0_isElder_5 rfl 0 rfl ?_
    refine j_get (pc := 6) X 0 i_X0 0 rfl rfl 4 (by decide) (by decide +kernel) rfl dX0_isElder_6 ?_
    refine j_icmp_ge (pc := 9) X (x := x) (z := nI el) (tgt := 16) dX0_isElder_9 (by decide) (fun c_9 => ?_) (fun c_9 => ?_)
    · skip
      refine j_iconst (pc := 16) X (v := nI 0) dX0_isElder_16 (by decide) ?_
      exact j_zret (pc := 17) X (rfl) dX0_isElder_17 ⟨r0 (by simp [inR, c_1, c_9]), rfl⟩
    · skip
      refine j_iconst (pc := 12) X (v := nI 1) dX0_isElder_12 (by decide) ?_
      refine j_goto (pc := 13) X (tgt := 17) dX0_isElder_13 (by decide) ?_
      exact j_zret (pc := 17) X (rfl) dX0_isElder_17 ⟨r1 (by simp [inR, c_1, c_9]), rfl⟩

set_option maxHeartbeats 4000000 in
set_option maxRecDepth 100000 in
theorem mX0_isBeginner (l : Launch) (G : jG) (qc : Nat) (qc0 : Nat) (qc1 : Nat) (qc2 : Nat) (qc3 : Nat) (el : Nat) (be : Nat) (x : Int32)  : MV l yX0_isBeginner wsX0_isBeginner ({ frames := 0, cells := 0, slots := 0, locals := 0 }) G [.ref qc, .int x] [(qc, .inr (0, [.ref qc0, .ref qc1, .ref qc2, .ref qc3, .int (nI el), .int (nI be)]))] (some (.int (b2i (inR x be)))) [(qc, .inr (0, [.ref qc0, .ref qc1, .ref qc2, .ref qc3, .int (nI el), .int (nI be)]))] := by
  refine MF.ofJ (cc := cX0_isBeginner) (maxL := 2) (ret := (some .boolean)) (own := RX0) (lv := [(0, .ref qc), (1, .int x)]) (by decide) rfl rfl (Nat.le_of_ble_eq_true rfl) rfl ?_
  intro κ X
  have i_X0 : ∀ w ∈ wsX00, w ∈ wsX0_isBeginner := by decide +kernel
  refine j_iload_n (pc := 0) X dX0_isBeginner_0 rfl 1 rfl ?_
  refine j_if_lt (pc := 1) X (x := x) (tgt := 16) dX0_isBeginner_1 (by decide) (fun c_1 => ?_) (fun c_1 => ?_)
  · skip
    refine j_iconst (pc := 16) X (v := nI 0) dX0_isBeginner_16 (by decide) ?_
    exact j_zret (pc := 17) X (rfl) dX0_isBeginner_17 ⟨r0 (by simp [inR, c_1]), rfl⟩
  · skip
    refine j_iload_n (pc := 4) X dX0_isBeginner_4 rfl 1 rfl ?_
    refine j_aload_n (pc := 5) X dX0_isBeginner_5 rfl 0 rfl ?_
    refine j_get (pc := 6) X 0 i_X0 0 rfl rfl 5 (by decide) (by decide +kernel) rfl dX0_isBeginner_6 ?_
    refine j_icmp_ge (pc := 9) X (x := x) (z := nI be) (tgt := 16) dX0_isBeginner_9 (by decide) (fun c_9 => ?_) (fun c_9 => ?_)
    · skip
      refine j_iconst (pc := 16) X (v := nI 0) dX0_isBeginner_16 (by decide) ?_
      exact j_zret (pc := 17) X (rfl) dX0_isBeginner_17 ⟨r0 (by simp [inR, c_1, c_9]), rfl⟩
    · skip
      refine j_iconst (pc := 12) X (v := nI 1) dX0_isBeginner_12 (by decide) ?_
      refine j_goto (pc := 13) X (tgt := 17) dX0_isBeginner_13 (by decide) ?_
      exact j_zret (pc := 17) X (rfl) dX0_isBeginner_17 ⟨r1 (by simp [inR, c_1, c_9]), rfl⟩

set_option maxHeartbeats 4000000 in
set_option maxRecDepth 100000 in
theorem mX0_areTwo (l : Launch) (G : jG) (qc : Nat) (qc0 : Nat) (qc1 : Nat) (qc2 : Nat) (qc3 : Nat) (el : Nat) (be : Nat) (x : Int32) (z : Int32)  : MV l yX0_areTwo wsX0_areTwo ({ frames := 1, cells := 0, slots := 0, locals := 21 }) G [.ref qc, .int x, .int z] [(qc, .inr (0, [.ref qc0, .ref qc1, .ref qc2, .ref qc3, .int (nI el), .int (nI be)]))] (some (.int (b2i (inR x el && inR z be)))) [(qc, .inr (0, [.ref qc0, .ref qc1, .ref qc2, .ref qc3, .int (nI el), .int (nI be)]))] := by
  refine MF.ofJ (cc := cX0_areTwo) (maxL := 3) (ret := (some .boolean)) (own := RX0) (lv := [(0, .ref qc), (1, .int x), (2, .int z)]) (by decide) rfl rfl (Nat.le_of_ble_eq_true rfl) rfl ?_
  intro κ X
  have i_X0 : ∀ w ∈ wsX00, w ∈ wsX0_areTwo := by decide +kernel
  refine j_aload_n (pc := 0) X dX0_areTwo_0 rfl 0 rfl ?_
  refine j_iload_n (pc := 1) X dX0_areTwo_1 rfl 1 rfl ?_
  refine j_ciP (pc := 2) X [0] rfl (j_rV X (b := qc) (As := [.int x]) (ci := 0) (rest := []) 1 (mX0_isElder l G qc qc0 qc1 qc2 qc3 el be x ) gX0_areTwo_X0_isElder rfl rfl rfl (by decide +kernel) ⟨Nat.le_of_ble_eq_true rfl, Nat.le_of_ble_eq_true rfl⟩ rfl rfl 0 rfl [0] rfl rfl rfl (Nat.le_of_ble_eq_true rfl) dX0_areTwo_2 ⟨Nat.le_of_ble_eq_true rfl, Nat.le_of_ble_eq_true rfl⟩) ?_
  refine j_ifb_eq (pc := 5) X (B := inR x el) (tgt := 20) dX0_areTwo_5 (by decide) (fun c_5 => ?_) (fun c_5 => ?_)
  · skip
    refine j_iconst (pc := 20) X (v := nI 0) dX0_areTwo_20 (by decide) ?_
    exact j_zret (pc := 21) X (rfl) dX0_areTwo_21 ⟨r0 (by simp [c_5]), rfl⟩
  · skip
    refine j_aload_n (pc := 8) X dX0_areTwo_8 rfl 0 rfl ?_
    refine j_iload_n (pc := 9) X dX0_areTwo_9 rfl 2 rfl ?_
    refine j_ciP (pc := 10) X [0] rfl (j_rV X (b := qc) (As := [.int z]) (ci := 0) (rest := []) 1 (mX0_isBeginner l G qc qc0 qc1 qc2 qc3 el be z ) gX0_areTwo_X0_isBeginner rfl rfl rfl (by decide +kernel) ⟨Nat.le_of_ble_eq_true rfl, Nat.le_of_ble_eq_true rfl⟩ rfl rfl 0 rfl [0] rfl rfl rfl (Nat.le_of_ble_eq_true rfl) dX0_areTwo_10 ⟨Nat.le_of_ble_eq_true rfl, Nat.le_of_ble_eq_true rfl⟩) ?_
    refine j_ifb_eq (pc := 13) X (B := inR z be) (tgt := 20) dX0_areTwo_13 (by decide) (fun c_13 => ?_) (fun c_13 => ?_)
    · skip
      refine j_iconst (pc := 20) X (v := nI 0) dX0_areTwo_20 (by decide) ?_
      exact j_zret (pc := 21) X (rfl) dX0_areTwo_21 ⟨r0 (by simp [c_5, c_13]), rfl⟩
    · skip
      refine j_iconst (pc := 16) X (v := nI 1) dX0_areTwo_16 (by decide) ?_
      refine j_goto (pc := 17) X (tgt := 21) dX0_areTwo_17 (by decide) ?_
      exact j_zret (pc := 21) X (rfl) dX0_areTwo_21 ⟨r1 (by simp [c_5, c_13]), rfl⟩

set_option maxHeartbeats 4000000 in
set_option maxRecDepth 100000 in
theorem mX0_addElder (l : Launch) (G : jG) (qc : Nat) (qc0 : Nat) (qc1 : Nat) (qc2 : Nat) (qc3 : Nat) (el : Nat) (be : Nat) (pl : Nat → Nat) (p : Nat) (hel : el < 12) : MV l yX0_addElder wsX0_addElder ({ frames := 0, cells := 0, slots := 0, locals := 0 }) G [.ref qc, .int (nI p)] [(qc, .inr (0, [.ref qc0, .ref qc1, .ref qc2, .ref qc3, .int (nI el), .int (nI be)])), kI G qc0 12 (nF pl)] (some (.int (nI el))) [(qc, .inr (0, [.ref qc0, .ref qc1, .ref qc2, .ref qc3, .int (nI (el + 1)), .int (nI be)])), kI G qc0 12 (nF (va_up pl el p))] := by
  refine MF.ofJ (cc := cX0_addElder) (maxL := 2) (ret := (some .int)) (own := RX0) (lv := [(0, .ref qc), (1, .int (nI p))]) (by decide) rfl rfl (Nat.le_of_ble_eq_true rfl) rfl ?_
  intro κ X
  have i_X0 : ∀ w ∈ wsX00, w ∈ wsX0_addElder := by decide +kernel
  refine j_aload_n (pc := 0) X dX0_addElder_0 rfl 0 rfl ?_
  refine j_get (pc := 1) X 0 i_X0 0 rfl rfl 0 (by decide) (by decide +kernel) rfl dX0_addElder_1 ?_
  refine j_aload_n (pc := 4) X dX0_addElder_4 rfl 0 rfl ?_
  refine j_get (pc := 5) X 0 i_X0 0 rfl rfl 4 (by decide) (by decide +kernel) rfl dX0_addElder_5 ?_
  refine j_iload_n (pc := 8) X dX0_addElder_8 rfl 1 rfl ?_
  refine j_iast (pc := 9) X (f2 := (nF (va_up pl el p))) (ws' := [(qc, .inr (0, [.ref qc0, .ref qc1, .ref qc2, .ref qc3, .int (nI el), .int (nI be)])), kI G qc0 12 (nF (va_up pl el p))]) 1 rfl (vp_in_nI (by omega) (by decide)) dX0_addElder_9 (by rw [nI_clamp (by omega)]; exact nF_up pl el p) rfl ?_
  refine j_aload_n (pc := 10) X dX0_addElder_10 rfl 0 rfl ?_
  refine j_dup (pc := 11) X dX0_addElder_11 rfl ?_
  refine j_get (pc := 12) X 0 i_X0 0 rfl rfl 4 (by decide) (by decide +kernel) rfl dX0_addElder_12 ?_
  refine j_iconst (pc := 15) X (v := nI 1) dX0_addElder_15 (by decide) ?_
  refine j_iadd (pc := 16) X dX0_addElder_16 ?_
  refine j_topi (z := nI (el + 1)) (nI_add _ _) ?_
  refine j_put (pc := 17) X (v := .int (nI (el + 1))) (ws' := [(qc, .inr (0, [.ref qc0, .ref qc1, .ref qc2, .ref qc3, .int (nI (el + 1)), .int (nI be)])), kI G qc0 12 (nF (va_up pl el p))]) 0 i_X0 tyX0 tyX0_ok nmX0 0 rfl rfl 4 (by decide) (by decide +kernel) (by decide) (rfl) (rfl) (Nat.le_of_ble_eq_true rfl) dX0_addElder_17 rfl ?_
  refine j_aload_n (pc := 20) X dX0_addElder_20 rfl 0 rfl ?_
  refine j_get (pc := 21) X 0 i_X0 0 rfl rfl 4 (by decide) (by decide +kernel) rfl dX0_addElder_21 ?_
  refine j_iconst (pc := 24) X (v := nI 1) dX0_addElder_24 (by decide) ?_
  refine j_isub (pc := 25) X dX0_addElder_25 ?_
  refine j_topi (z := nI (el + 1 - 1)) (pk_sub (by omega)) ?_
  exact j_iret (pc := 26) X dX0_addElder_26 ⟨by simp, rfl⟩

set_option maxHeartbeats 4000000 in
set_option maxRecDepth 100000 in
theorem mX0_addBeginner (l : Launch) (G : jG) (qc : Nat) (qc0 : Nat) (qc1 : Nat) (qc2 : Nat) (qc3 : Nat) (el : Nat) (be : Nat)  : MV l yX0_addBeginner wsX0_addBeginner ({ frames := 0, cells := 0, slots := 0, locals := 0 }) G [.ref qc] [(qc, .inr (0, [.ref qc0, .ref qc1, .ref qc2, .ref qc3, .int (nI el), .int (nI be)]))] (some (.int (nI be))) [(qc, .inr (0, [.ref qc0, .ref qc1, .ref qc2, .ref qc3, .int (nI el), .int (nI (be + 1))]))] := by
  refine MF.ofJ (cc := cX0_addBeginner) (maxL := 1) (ret := (some .int)) (own := RX0) (lv := [(0, .ref qc)]) (by decide) rfl rfl (Nat.le_of_ble_eq_true rfl) rfl ?_
  intro κ X
  have i_X0 : ∀ w ∈ wsX00, w ∈ wsX0_addBeginner := by decide +kernel
  refine j_aload_n (pc := 0) X dX0_addBeginner_0 rfl 0 rfl ?_
  refine j_dup (pc := 1) X dX0_addBeginner_1 rfl ?_
  refine j_get (pc := 2) X 0 i_X0 0 rfl rfl 5 (by decide) (by decide +kernel) rfl dX0_addBeginner_2 ?_
  refine j_iconst (pc := 5) X (v := nI 1) dX0_addBeginner_5 (by decide) ?_
  refine j_iadd (pc := 6) X dX0_addBeginner_6 ?_
  refine j_topi (z := nI (be + 1)) (nI_add _ _) ?_
  refine j_put (pc := 7) X (v := .int (nI (be + 1))) (ws' := [(qc, .inr (0, [.ref qc0, .ref qc1, .ref qc2, .ref qc3, .int (nI el), .int (nI (be + 1))]))]) 0 i_X0 tyX0 tyX0_ok nmX0 0 rfl rfl 5 (by decide) (by decide +kernel) (by decide) (rfl) (rfl) (Nat.le_of_ble_eq_true rfl) dX0_addBeginner_7 rfl ?_
  refine j_aload_n (pc := 10) X dX0_addBeginner_10 rfl 0 rfl ?_
  refine j_get (pc := 11) X 0 i_X0 0 rfl rfl 5 (by decide) (by decide +kernel) rfl dX0_addBeginner_11 ?_
  refine j_iconst (pc := 14) X (v := nI 1) dX0_addBeginner_14 (by decide) ?_
  refine j_isub (pc := 15) X dX0_addBeginner_15 ?_
  refine j_topi (z := nI (be + 1 - 1)) (pk_sub (by omega)) ?_
  exact j_iret (pc := 16) X dX0_addBeginner_16 ⟨by simp, rfl⟩

set_option maxHeartbeats 4000000 in
set_option maxRecDepth 100000 in
theorem mX0_setLiking (l : Launch) (G : jG) (qc : Nat) (qc0 : Nat) (qc1 : Nat) (qc2 : Nat) (qc3 : Nat) (el : Nat) (be : Nat) (le : Nat → Nat) (lb : Nat → Nat) (e : Nat) (b : Nat) (mu : Nat) (by_ : Bool) (he : e < 12) (hb : b < 16) : MV l yX0_setLiking wsX0_setLiking ({ frames := 1, cells := 0, slots := 0, locals := 21 }) G [.ref qc, .int (nI e), .int (nI b), .int (b2i by_), .int (nI mu)] [(qc, .inr (0, [.ref qc0, .ref qc1, .ref qc2, .ref qc3, .int (nI el), .int (nI be)])), kI G qc1 192 (nF le), kI G qc2 192 (nF lb)] (none) [(qc, .inr (0, [.ref qc0, .ref qc1, .ref qc2, .ref qc3, .int (nI el), .int (nI be)])), kI G qc1 192 (nF (if by_ then va_up le (e * 16 + b) mu else le)), kI G qc2 192 (nF (if by_ then lb else va_up lb (e * 16 + b) mu))] := by
  refine MF.ofJ (cc := cX0_setLiking) (maxL := 6) (ret := none) (own := RX0) (lv := [(0, .ref qc), (1, .int (nI e)), (2, .int (nI b)), (3, .int (b2i by_)), (4, .int (nI mu))]) (by decide) rfl rfl (Nat.le_of_ble_eq_true rfl) rfl ?_
  intro κ X
  have i_X0 : ∀ w ∈ wsX00, w ∈ wsX0_setLiking := by decide +kernel
  refine j_iload_n (pc := 0) X dX0_setLiking_0 rfl 3 rfl ?_
  refine j_ifb_eq (pc := 1) X (B := by_) (tgt := 11) dX0_setLiking_1 (by decide) (fun c_1 => ?_) (fun c_1 => ?_)
  · skip
    refine j_aload_n (pc := 11) X dX0_setLiking_11 rfl 0 rfl ?_
    refine j_get (pc := 12) X 0 i_X0 0 rfl rfl 2 (by decide) (by decide +kernel) rfl dX0_setLiking_12 ?_
    refine j_astore (pc := 15) X (lv' := [(5, .ref qc2), (0, .ref qc), (1, .int (nI e)), (2, .int (nI b)), (3, .int (b2i by_)), (4, .int (nI mu))]) dX0_setLiking_15 (by decide) rfl ?_
    refine j_aload (pc := 17) X dX0_setLiking_17 0 rfl ?_
    refine j_iload_n (pc := 19) X dX0_setLiking_19 rfl 2 rfl ?_
    refine j_iload_n (pc := 20) X dX0_setLiking_20 rfl 3 rfl ?_
    refine j_ciP (pc := 21) X [] rfl (j_rS X (As := [.int (nI e), .int (nI b)]) (rest := [.ref qc2]) 2 (mX0_spot l G e b ) gX0_setLiking_X0_spot rfl rfl rfl (by decide +kernel) ⟨Nat.le_of_ble_eq_true rfl, Nat.le_of_ble_eq_true rfl⟩ rfl [] rfl rfl rfl (Nat.le_of_ble_eq_true rfl) dX0_setLiking_21 ⟨Nat.le_of_ble_eq_true rfl, Nat.le_of_ble_eq_true rfl⟩) ?_
    refine j_iload (pc := 24) X dX0_setLiking_24 5 rfl ?_
    refine j_iast (pc := 26) X (f2 := (nF (va_up lb (e * 16 + b) mu))) (ws' := [(qc, .inr (0, [.ref qc0, .ref qc1, .ref qc2, .ref qc3, .int (nI el), .int (nI be)])), kI G qc1 192 (nF le), kI G qc2 192 (nF (va_up lb (e * 16 + b) mu))]) 2 rfl (vp_in_nI (by omega) (by decide)) dX0_setLiking_26 (by rw [nI_clamp (by omega)]; exact nF_up lb (e * 16 + b) mu) rfl ?_
    exact j_vret (pc := 27) X dX0_setLiking_27 ⟨rfl, by simp [c_1]⟩
  · skip
    refine j_aload_n (pc := 4) X dX0_setLiking_4 rfl 0 rfl ?_
    refine j_get (pc := 5) X 0 i_X0 0 rfl rfl 1 (by decide) (by decide +kernel) rfl dX0_setLiking_5 ?_
    refine j_goto (pc := 8) X (tgt := 15) dX0_setLiking_8 (by decide) ?_
    refine j_astore (pc := 15) X (lv' := [(5, .ref qc1), (0, .ref qc), (1, .int (nI e)), (2, .int (nI b)), (3, .int (b2i by_)), (4, .int (nI mu))]) dX0_setLiking_15 (by decide) rfl ?_
    refine j_aload (pc := 17) X dX0_setLiking_17 0 rfl ?_
    refine j_iload_n (pc := 19) X dX0_setLiking_19 rfl 2 rfl ?_
    refine j_iload_n (pc := 20) X dX0_setLiking_20 rfl 3 rfl ?_
    refine j_ciP (pc := 21) X [] rfl (j_rS X (As := [.int (nI e), .int (nI b)]) (rest := [.ref qc1]) 2 (mX0_spot l G e b ) gX0_setLiking_X0_spot rfl rfl rfl (by decide +kernel) ⟨Nat.le_of_ble_eq_true rfl, Nat.le_of_ble_eq_true rfl⟩ rfl [] rfl rfl rfl (Nat.le_of_ble_eq_true rfl) dX0_setLiking_21 ⟨Nat.le_of_ble_eq_true rfl, Nat.le_of_ble_eq_true rfl⟩) ?_
    refine j_iload (pc := 24) X dX0_setLiking_24 5 rfl ?_
    refine j_iast (pc := 26) X (f2 := (nF (va_up le (e * 16 + b) mu))) (ws' := [(qc, .inr (0, [.ref qc0, .ref qc1, .ref qc2, .ref qc3, .int (nI el), .int (nI be)])), kI G qc1 192 (nF (va_up le (e * 16 + b) mu)), kI G qc2 192 (nF lb)]) 1 rfl (vp_in_nI (by omega) (by decide)) dX0_setLiking_26 (by rw [nI_clamp (by omega)]; exact nF_up le (e * 16 + b) mu) rfl ?_
    exact j_vret (pc := 27) X dX0_setLiking_27 ⟨rfl, by simp [c_1]⟩

set_option maxHeartbeats 4000000 in
set_option maxRecDepth 100000 in
theorem mX0_isBarred (l : Launch) (G : jG) (qc : Nat) (qc0 : Nat) (qc1 : Nat) (qc2 : Nat) (qc3 : Nat) (el : Nat) (be : Nat) (br : Nat → Bool) (e : Nat) (b : Nat) (he : e < 12) (hb : b < 16) : MV l yX0_isBarred wsX0_isBarred ({ frames := 1, cells := 0, slots := 0, locals := 21 }) G [.ref qc, .int (nI e), .int (nI b)] [(qc, .inr (0, [.ref qc0, .ref qc1, .ref qc2, .ref qc3, .int (nI el), .int (nI be)])), kZ G qc3 192 (bF br)] (some (.int (b2i (br (e * 16 + b))))) [(qc, .inr (0, [.ref qc0, .ref qc1, .ref qc2, .ref qc3, .int (nI el), .int (nI be)])), kZ G qc3 192 (bF br)] := by
  refine MF.ofJ (cc := cX0_isBarred) (maxL := 3) (ret := (some .boolean)) (own := RX0) (lv := [(0, .ref qc), (1, .int (nI e)), (2, .int (nI b))]) (by decide) rfl rfl (Nat.le_of_ble_eq_true rfl) rfl ?_
  intro κ X
  have i_X0 : ∀ w ∈ wsX00, w ∈ wsX0_isBarred := by decide +kernel
  refine j_aload_n (pc := 0) X dX0_isBarred_0 rfl 0 rfl ?_
  refine j_get (pc := 1) X 0 i_X0 0 rfl rfl 3 (by decide) (by decide +kernel) rfl dX0_isBarred_1 ?_
  refine j_iload_n (pc := 4) X dX0_isBarred_4 rfl 1 rfl ?_
  refine j_iload_n (pc := 5) X dX0_isBarred_5 rfl 2 rfl ?_
  refine j_ciP (pc := 6) X [] rfl (j_rS X (As := [.int (nI e), .int (nI b)]) (rest := [.ref qc3]) 2 (mX0_spot l G e b ) gX0_isBarred_X0_spot rfl rfl rfl (by decide +kernel) ⟨Nat.le_of_ble_eq_true rfl, Nat.le_of_ble_eq_true rfl⟩ rfl [] rfl rfl rfl (Nat.le_of_ble_eq_true rfl) dX0_isBarred_6 ⟨Nat.le_of_ble_eq_true rfl, Nat.le_of_ble_eq_true rfl⟩) ?_
  refine j_zald (pc := 9) X 1 rfl (vp_in_nI (by omega) (by decide)) (v := b2i (br (e * 16 + b))) (congrArg (bF br) (nI_clamp (by omega))) dX0_isBarred_9 ?_
  exact j_zret (pc := 10) X (b2i_nar _) dX0_isBarred_10 ⟨rfl, rfl⟩

set_option maxHeartbeats 4000000 in
set_option maxRecDepth 100000 in
theorem mX0_setBarred (l : Launch) (G : jG) (qc : Nat) (qc0 : Nat) (qc1 : Nat) (qc2 : Nat) (qc3 : Nat) (el : Nat) (be : Nat) (br : Nat → Bool) (e : Nat) (b : Nat) (is_ : Bool) (he : e < 12) (hb : b < 16) : MV l yX0_setBarred wsX0_setBarred ({ frames := 1, cells := 0, slots := 0, locals := 21 }) G [.ref qc, .int (nI e), .int (nI b), .int (b2i is_)] [(qc, .inr (0, [.ref qc0, .ref qc1, .ref qc2, .ref qc3, .int (nI el), .int (nI be)])), kZ G qc3 192 (bF br)] (none) [(qc, .inr (0, [.ref qc0, .ref qc1, .ref qc2, .ref qc3, .int (nI el), .int (nI be)])), kZ G qc3 192 (bF (va_up br (e * 16 + b) is_))] := by
  refine MF.ofJ (cc := cX0_setBarred) (maxL := 4) (ret := none) (own := RX0) (lv := [(0, .ref qc), (1, .int (nI e)), (2, .int (nI b)), (3, .int (b2i is_))]) (by decide) rfl rfl (Nat.le_of_ble_eq_true rfl) rfl ?_
  intro κ X
  have i_X0 : ∀ w ∈ wsX00, w ∈ wsX0_setBarred := by decide +kernel
  refine j_aload_n (pc := 0) X dX0_setBarred_0 rfl 0 rfl ?_
  refine j_get (pc := 1) X 0 i_X0 0 rfl rfl 3 (by decide) (by decide +kernel) rfl dX0_setBarred_1 ?_
  refine j_iload_n (pc := 4) X dX0_setBarred_4 rfl 1 rfl ?_
  refine j_iload_n (pc := 5) X dX0_setBarred_5 rfl 2 rfl ?_
  refine j_ciP (pc := 6) X [] rfl (j_rS X (As := [.int (nI e), .int (nI b)]) (rest := [.ref qc3]) 2 (mX0_spot l G e b ) gX0_setBarred_X0_spot rfl rfl rfl (by decide +kernel) ⟨Nat.le_of_ble_eq_true rfl, Nat.le_of_ble_eq_true rfl⟩ rfl [] rfl rfl rfl (Nat.le_of_ble_eq_true rfl) dX0_setBarred_6 ⟨Nat.le_of_ble_eq_true rfl, Nat.le_of_ble_eq_true rfl⟩) ?_
  refine j_iload_n (pc := 9) X dX0_setBarred_9 rfl 3 rfl ?_
  refine j_zast (pc := 10) X (f2 := (bF (va_up br (e * 16 + b) is_))) (ws' := [(qc, .inr (0, [.ref qc0, .ref qc1, .ref qc2, .ref qc3, .int (nI el), .int (nI be)])), kZ G qc3 192 (bF (va_up br (e * 16 + b) is_))]) 1 rfl (vp_in_nI (by omega) (by decide)) dX0_setBarred_10 (b2i_vnar _) (by rw [nI_clamp (by omega)]; exact bF_up br (e * 16 + b) is_) rfl ?_
  exact j_vret (pc := 11) X dX0_setBarred_11 ⟨rfl, rfl⟩

set_option maxHeartbeats 4000000 in
set_option maxRecDepth 100000 in
theorem mX0_canPair (l : Launch) (G : jG) (qc : Nat) (qc0 : Nat) (qc1 : Nat) (qc2 : Nat) (qc3 : Nat) (el : Nat) (be : Nat) (le : Nat → Nat) (lb : Nat → Nat) (br : Nat → Bool) (e : Nat) (b : Nat) (he : e < 12) (hb : b < 16) (hle : ∀ k, le k ≤ 100) (hlb : ∀ k, lb k ≤ 100) : MV l yX0_canPair wsX0_canPair ({ frames := 1, cells := 0, slots := 0, locals := 21 }) G [.ref qc, .int (nI e), .int (nI b)] [(qc, .inr (0, [.ref qc0, .ref qc1, .ref qc2, .ref qc3, .int (nI el), .int (nI be)])), kI G qc1 192 (nF le), kI G qc2 192 (nF lb), kZ G qc3 192 (bF br)] (some (.int (b2i (canB le lb br e b)))) [(qc, .inr (0, [.ref qc0, .ref qc1, .ref qc2, .ref qc3, .int (nI el), .int (nI be)])), kI G qc1 192 (nF le), kI G qc2 192 (nF lb), kZ G qc3 192 (bF br)] := by
  refine MF.ofJ (cc := cX0_canPair) (maxL := 4) (ret := (some .boolean)) (own := RX0) (lv := [(0, .ref qc), (1, .int (nI e)), (2, .int (nI b))]) (by decide) rfl rfl (Nat.le_of_ble_eq_true rfl) rfl ?_
  intro κ X
  have i_X0 : ∀ w ∈ wsX00, w ∈ wsX0_canPair := by decide +kernel
  refine j_iload_n (pc := 0) X dX0_canPair_0 rfl 1 rfl ?_
  refine j_iload_n (pc := 1) X dX0_canPair_1 rfl 2 rfl ?_
  refine j_ciP (pc := 2) X [] rfl (j_rS X (As := [.int (nI e), .int (nI b)]) (rest := []) 2 (mX0_spot l G e b ) gX0_canPair_X0_spot rfl rfl rfl (by decide +kernel) ⟨Nat.le_of_ble_eq_true rfl, Nat.le_of_ble_eq_true rfl⟩ rfl [] rfl rfl rfl (Nat.le_of_ble_eq_true rfl) dX0_canPair_2 ⟨Nat.le_of_ble_eq_true rfl, Nat.le_of_ble_eq_true rfl⟩) ?_
  refine j_istore_n (pc := 5) X (lv' := [(3, .int (nI (e * 16 + b))), (0, .ref qc), (1, .int (nI e)), (2, .int (nI b))]) dX0_canPair_5 rfl (by decide) rfl ?_
  refine j_aload_n (pc := 6) X dX0_canPair_6 rfl 1 rfl ?_
  refine j_get (pc := 7) X 0 i_X0 0 rfl rfl 1 (by decide) (by decide +kernel) rfl dX0_canPair_7 ?_
  refine j_iload_n (pc := 10) X dX0_canPair_10 rfl 0 rfl ?_
  refine j_iald (pc := 11) X 1 rfl (vp_in_nI (by omega) (by decide)) (v := nI (le (e * 16 + b))) (congrArg (nF le) (nI_clamp (by omega))) dX0_canPair_11 ?_
  refine j_ifN_eq (pc := 12) X (a := (le (e * 16 + b))) (by first | omega | (have := hle (e * 16 + b); omega) | (have := hlb (e * 16 + b); omega)) (tgt := 37) dX0_canPair_12 (by decide) (fun c_12 => ?_) (fun c_12 => ?_)
  · skip
    refine j_iconst (pc := 37) X (v := nI 0) dX0_canPair_37 (by decide) ?_
    exact j_zret (pc := 38) X (rfl) dX0_canPair_38 ⟨r0 (by simp [canB, c_12]), rfl⟩
  · skip
    refine j_aload_n (pc := 15) X dX0_canPair_15 rfl 1 rfl ?_
    refine j_get (pc := 16) X 0 i_X0 0 rfl rfl 2 (by decide) (by decide +kernel) rfl dX0_canPair_16 ?_
    refine j_iload_n (pc := 19) X dX0_canPair_19 rfl 0 rfl ?_
    refine j_iald (pc := 20) X 2 rfl (vp_in_nI (by omega) (by decide)) (v := nI (lb (e * 16 + b))) (congrArg (nF lb) (nI_clamp (by omega))) dX0_canPair_20 ?_
    refine j_ifN_eq (pc := 21) X (a := (lb (e * 16 + b))) (by first | omega | (have := hle (e * 16 + b); omega) | (have := hlb (e * 16 + b); omega)) (tgt := 37) dX0_canPair_21 (by decide) (fun c_21 => ?_) (fun c_21 => ?_)
    · skip
      refine j_iconst (pc := 37) X (v := nI 0) dX0_canPair_37 (by decide) ?_
      exact j_zret (pc := 38) X (rfl) dX0_canPair_38 ⟨r0 (by simp [canB, c_12, c_21]), rfl⟩
    · skip
      refine j_aload_n (pc := 24) X dX0_canPair_24 rfl 1 rfl ?_
      refine j_get (pc := 25) X 0 i_X0 0 rfl rfl 3 (by decide) (by decide +kernel) rfl dX0_canPair_25 ?_
      refine j_iload_n (pc := 28) X dX0_canPair_28 rfl 0 rfl ?_
      refine j_zald (pc := 29) X 3 rfl (vp_in_nI (by omega) (by decide)) (v := b2i (br (e * 16 + b))) (congrArg (bF br) (nI_clamp (by omega))) dX0_canPair_29 ?_
      refine j_ifb_ne (pc := 30) X (B := br (e * 16 + b)) (tgt := 37) dX0_canPair_30 (by decide) (fun c_30 => ?_) (fun c_30 => ?_)
      · skip
        refine j_iconst (pc := 37) X (v := nI 0) dX0_canPair_37 (by decide) ?_
        exact j_zret (pc := 38) X (rfl) dX0_canPair_38 ⟨r0 (by simp [canB, c_12, c_21, c_30]), rfl⟩
      · skip
        refine j_iconst (pc := 33) X (v := nI 1) dX0_canPair_33 (by decide) ?_
        refine j_goto (pc := 34) X (tgt := 38) dX0_canPair_34 (by decide) ?_
        exact j_zret (pc := 38) X (rfl) dX0_canPair_38 ⟨r1 (by simp [canB, c_12, c_21, c_30]), rfl⟩

set_option maxHeartbeats 4000000 in
set_option maxRecDepth 100000 in
theorem mX0_beginnerPrefers (l : Launch) (G : jG) (qc : Nat) (qc0 : Nat) (qc1 : Nat) (qc2 : Nat) (qc3 : Nat) (el : Nat) (be : Nat) (lb : Nat → Nat) (b : Nat) (e : Nat) (o : Option Nat) (hb : b < 16) (he : e < 12) (ho : ob 12 o) (hlb : ∀ k, lb k ≤ 100) : MV l yX0_beginnerPrefers wsX0_beginnerPrefers ({ frames := 1, cells := 0, slots := 0, locals := 21 }) G [.ref qc, .int (nI b), .int (nI e), .int (oI o)] [(qc, .inr (0, [.ref qc0, .ref qc1, .ref qc2, .ref qc3, .int (nI el), .int (nI be)])), kI G qc2 192 (nF lb)] (some (.int (b2i (prBO lb b e o)))) [(qc, .inr (0, [.ref qc0, .ref qc1, .ref qc2, .ref qc3, .int (nI el), .int (nI be)])), kI G qc2 192 (nF lb)] := by
  refine MF.ofJ (cc := cX0_beginnerPrefers) (maxL := 6) (ret := (some .boolean)) (own := RX0) (lv := [(0, .ref qc), (1, .int (nI b)), (2, .int (nI e)), (3, .int (oI o))]) (by decide) rfl rfl (Nat.le_of_ble_eq_true rfl) rfl ?_
  intro κ X
  have i_X0 : ∀ w ∈ wsX00, w ∈ wsX0_beginnerPrefers := by decide +kernel
  refine j_iload_n (pc := 0) X dX0_beginnerPrefers_0 rfl 3 rfl ?_
  refine j_iconst (pc := 1) X (v := oI none) dX0_beginnerPrefers_1 (by decide) ?_
  refine j_icmpZ_ne (pc := 2) X (a := o) (by exact ho.big (by decide)) (tgt := 7) dX0_beginnerPrefers_2 (by decide) (fun c_2 => ?_) (fun c_2 => ?_)
  · skip
    obtain ⟨o, rfl⟩ := Option.ne_none_iff_exists'.mp c_2; have ho := ho o rfl
    refine j_aload_n (pc := 7) X dX0_beginnerPrefers_7 rfl 0 rfl ?_
    refine j_get (pc := 8) X 0 i_X0 0 rfl rfl 2 (by decide) (by decide +kernel) rfl dX0_beginnerPrefers_8 ?_
    refine j_iload_n (pc := 11) X dX0_beginnerPrefers_11 rfl 2 rfl ?_
    refine j_iload_n (pc := 12) X dX0_beginnerPrefers_12 rfl 1 rfl ?_
    refine j_ciP (pc := 13) X [] rfl (j_rS X (As := [.int (nI e), .int (nI b)]) (rest := [.ref qc2]) 2 (mX0_spot l G e b ) gX0_beginnerPrefers_X0_spot rfl rfl rfl (by decide +kernel) ⟨Nat.le_of_ble_eq_true rfl, Nat.le_of_ble_eq_true rfl⟩ rfl [] rfl rfl rfl (Nat.le_of_ble_eq_true rfl) dX0_beginnerPrefers_13 ⟨Nat.le_of_ble_eq_true rfl, Nat.le_of_ble_eq_true rfl⟩) ?_
    refine j_iald (pc := 16) X 1 rfl (vp_in_nI (by omega) (by decide)) (v := nI (lb (e * 16 + b))) (congrArg (nF lb) (nI_clamp (by omega))) dX0_beginnerPrefers_16 ?_
    refine j_istore (pc := 17) X (lv' := [(4, .int (nI (lb (e * 16 + b)))), (0, .ref qc), (1, .int (nI b)), (2, .int (nI e)), (3, .int (nI o))]) dX0_beginnerPrefers_17 (by decide) rfl ?_
    refine j_aload_n (pc := 19) X dX0_beginnerPrefers_19 rfl 1 rfl ?_
    refine j_get (pc := 20) X 0 i_X0 0 rfl rfl 2 (by decide) (by decide +kernel) rfl dX0_beginnerPrefers_20 ?_
    refine j_iload_n (pc := 23) X dX0_beginnerPrefers_23 rfl 4 rfl ?_
    refine j_iload_n (pc := 24) X dX0_beginnerPrefers_24 rfl 2 rfl ?_
    refine j_ciP (pc := 25) X [] rfl (j_rS X (As := [.int (nI o), .int (nI b)]) (rest := [.ref qc2]) 2 (mX0_spot l G o b ) gX0_beginnerPrefers_X0_spot rfl rfl rfl (by decide +kernel) ⟨Nat.le_of_ble_eq_true rfl, Nat.le_of_ble_eq_true rfl⟩ rfl [] rfl rfl rfl (Nat.le_of_ble_eq_true rfl) dX0_beginnerPrefers_25 ⟨Nat.le_of_ble_eq_true rfl, Nat.le_of_ble_eq_true rfl⟩) ?_
    refine j_iald (pc := 28) X 1 rfl (vp_in_nI (by omega) (by decide)) (v := nI (lb (o * 16 + b))) (congrArg (nF lb) (nI_clamp (by omega))) dX0_beginnerPrefers_28 ?_
    refine j_istore (pc := 29) X (lv' := [(5, .int (nI (lb (o * 16 + b)))), (4, .int (nI (lb (e * 16 + b)))), (0, .ref qc), (1, .int (nI b)), (2, .int (nI e)), (3, .int (nI o))]) dX0_beginnerPrefers_29 (by decide) rfl ?_
    refine j_iload (pc := 31) X dX0_beginnerPrefers_31 1 rfl ?_
    refine j_iload (pc := 33) X dX0_beginnerPrefers_33 0 rfl ?_
    refine j_icmpN_gt (pc := 35) X (a := (lb (e * 16 + b))) (b := (lb (o * 16 + b))) (by first | omega | exact Nat.lt_of_le_of_lt (hlb _) (by decide)) (by first | omega | exact Nat.lt_of_le_of_lt (hlb _) (by decide)) (tgt := 50) dX0_beginnerPrefers_35 (by decide) (fun c_35 => ?_) (fun c_35 => ?_)
    · skip
      refine j_iconst (pc := 50) X (v := nI 1) dX0_beginnerPrefers_50 (by decide) ?_
      refine j_goto (pc := 51) X (tgt := 55) dX0_beginnerPrefers_51 (by decide) ?_
      exact j_zret (pc := 55) X (rfl) dX0_beginnerPrefers_55 ⟨r1 (by first | (simp [prBO, prB, c_2, c_35]; done) | (simp [prBO, prB, c_2, c_35]; omega)), rfl⟩
    · skip
      refine j_iload (pc := 38) X dX0_beginnerPrefers_38 1 rfl ?_
      refine j_iload (pc := 40) X dX0_beginnerPrefers_40 0 rfl ?_
      refine j_icmpN_ne (pc := 42) X (a := (lb (e * 16 + b))) (b := (lb (o * 16 + b))) (by first | omega | exact Nat.lt_of_le_of_lt (hlb _) (by decide)) (by first | omega | exact Nat.lt_of_le_of_lt (hlb _) (by decide)) (tgt := 54) dX0_beginnerPrefers_42 (by decide) (fun c_42 => ?_) (fun c_42 => ?_)
      · skip
        refine j_iconst (pc := 54) X (v := nI 0) dX0_beginnerPrefers_54 (by decide) ?_
        exact j_zret (pc := 55) X (rfl) dX0_beginnerPrefers_55 ⟨r0 (by first | (simp [prBO, prB, c_2, c_35, c_42]; done) | (simp [prBO, prB, c_2, c_35, c_42]; omega)), rfl⟩
      · skip
        refine j_iload_n (pc := 45) X dX0_beginnerPrefers_45 rfl 4 rfl ?_
        refine j_iload_n (pc := 46) X dX0_beginnerPrefers_46 rfl 5 rfl ?_
        refine j_icmpN_ge (pc := 47) X (a := e) (b := o) (by first | omega | exact Nat.lt_of_le_of_lt (hlb _) (by decide)) (by first | omega | exact Nat.lt_of_le_of_lt (hlb _) (by decide)) (tgt := 54) dX0_beginnerPrefers_47 (by decide) (fun c_47 => ?_) (fun c_47 => ?_)
        · skip
          refine j_iconst (pc := 54) X (v := nI 0) dX0_beginnerPrefers_54 (by decide) ?_
          exact j_zret (pc := 55) X (rfl) dX0_beginnerPrefers_55 ⟨r0 (by first | (simp [prBO, prB, c_2, c_35, c_42, c_47]; done) | (simp [prBO, prB, c_2, c_35, c_42, c_47]; omega)), rfl⟩
        · skip
          refine j_iconst (pc := 50) X (v := nI 1) dX0_beginnerPrefers_50 (by decide) ?_
          refine j_goto (pc := 51) X (tgt := 55) dX0_beginnerPrefers_51 (by decide) ?_
          exact j_zret (pc := 55) X (rfl) dX0_beginnerPrefers_55 ⟨r1 (by first | (simp [prBO, prB, c_2, c_35, c_42, c_47]; done) | (simp [prBO, prB, c_2, c_35, c_42, c_47]; omega)), rfl⟩
  · skip
    refine j_iconst (pc := 5) X (v := nI 1) dX0_beginnerPrefers_5 (by decide) ?_
    exact j_zret (pc := 6) X (rfl) dX0_beginnerPrefers_6 ⟨r1 (by first | (simp [prBO, prB, c_2]; done) | (simp [prBO, prB, c_2]; omega)), rfl⟩

set_option maxHeartbeats 4000000 in
set_option maxRecDepth 100000 in
theorem mX0_elderPrefers (l : Launch) (G : jG) (qc : Nat) (qc0 : Nat) (qc1 : Nat) (qc2 : Nat) (qc3 : Nat) (el : Nat) (be : Nat) (le : Nat → Nat) (e : Nat) (b : Nat) (o : Nat) (he : e < 12) (hb : b < 16) (ho : o < 16) (hle : ∀ k, le k ≤ 100) : MV l yX0_elderPrefers wsX0_elderPrefers ({ frames := 1, cells := 0, slots := 0, locals := 21 }) G [.ref qc, .int (nI e), .int (nI b), .int (nI o)] [(qc, .inr (0, [.ref qc0, .ref qc1, .ref qc2, .ref qc3, .int (nI el), .int (nI be)])), kI G qc1 192 (nF le)] (some (.int (b2i (prE le e b o)))) [(qc, .inr (0, [.ref qc0, .ref qc1, .ref qc2, .ref qc3, .int (nI el), .int (nI be)])), kI G qc1 192 (nF le)] := by
  refine MF.ofJ (cc := cX0_elderPrefers) (maxL := 6) (ret := (some .boolean)) (own := RX0) (lv := [(0, .ref qc), (1, .int (nI e)), (2, .int (nI b)), (3, .int (nI o))]) (by decide) rfl rfl (Nat.le_of_ble_eq_true rfl) rfl ?_
  intro κ X
  have i_X0 : ∀ w ∈ wsX00, w ∈ wsX0_elderPrefers := by decide +kernel
  refine j_aload_n (pc := 0) X dX0_elderPrefers_0 rfl 0 rfl ?_
  refine j_get (pc := 1) X 0 i_X0 0 rfl rfl 1 (by decide) (by decide +kernel) rfl dX0_elderPrefers_1 ?_
  refine j_iload_n (pc := 4) X dX0_elderPrefers_4 rfl 1 rfl ?_
  refine j_iload_n (pc := 5) X dX0_elderPrefers_5 rfl 2 rfl ?_
  refine j_ciP (pc := 6) X [] rfl (j_rS X (As := [.int (nI e), .int (nI b)]) (rest := [.ref qc1]) 2 (mX0_spot l G e b ) gX0_elderPrefers_X0_spot rfl rfl rfl (by decide +kernel) ⟨Nat.le_of_ble_eq_true rfl, Nat.le_of_ble_eq_true rfl⟩ rfl [] rfl rfl rfl (Nat.le_of_ble_eq_true rfl) dX0_elderPrefers_6 ⟨Nat.le_of_ble_eq_true rfl, Nat.le_of_ble_eq_true rfl⟩) ?_
  refine j_iald (pc := 9) X 1 rfl (vp_in_nI (by omega) (by decide)) (v := nI (le (e * 16 + b))) (congrArg (nF le) (nI_clamp (by omega))) dX0_elderPrefers_9 ?_
  refine j_istore (pc := 10) X (lv' := [(4, .int (nI (le (e * 16 + b)))), (0, .ref qc), (1, .int (nI e)), (2, .int (nI b)), (3, .int (nI o))]) dX0_elderPrefers_10 (by decide) rfl ?_
  refine j_aload_n (pc := 12) X dX0_elderPrefers_12 rfl 1 rfl ?_
  refine j_get (pc := 13) X 0 i_X0 0 rfl rfl 1 (by decide) (by decide +kernel) rfl dX0_elderPrefers_13 ?_
  refine j_iload_n (pc := 16) X dX0_elderPrefers_16 rfl 2 rfl ?_
  refine j_iload_n (pc := 17) X dX0_elderPrefers_17 rfl 4 rfl ?_
  refine j_ciP (pc := 18) X [] rfl (j_rS X (As := [.int (nI e), .int (nI o)]) (rest := [.ref qc1]) 2 (mX0_spot l G e o ) gX0_elderPrefers_X0_spot rfl rfl rfl (by decide +kernel) ⟨Nat.le_of_ble_eq_true rfl, Nat.le_of_ble_eq_true rfl⟩ rfl [] rfl rfl rfl (Nat.le_of_ble_eq_true rfl) dX0_elderPrefers_18 ⟨Nat.le_of_ble_eq_true rfl, Nat.le_of_ble_eq_true rfl⟩) ?_
  refine j_iald (pc := 21) X 1 rfl (vp_in_nI (by omega) (by decide)) (v := nI (le (e * 16 + o))) (congrArg (nF le) (nI_clamp (by omega))) dX0_elderPrefers_21 ?_
  refine j_istore (pc := 22) X (lv' := [(5, .int (nI (le (e * 16 + o)))), (4, .int (nI (le (e * 16 + b)))), (0, .ref qc), (1, .int (nI e)), (2, .int (nI b)), (3, .int (nI o))]) dX0_elderPrefers_22 (by decide) rfl ?_
  refine j_iload (pc := 24) X dX0_elderPrefers_24 1 rfl ?_
  refine j_iload (pc := 26) X dX0_elderPrefers_26 0 rfl ?_
  refine j_icmpN_gt (pc := 28) X (a := (le (e * 16 + b))) (b := (le (e * 16 + o))) (by first | omega | exact Nat.lt_of_le_of_lt (hle _) (by decide)) (by first | omega | exact Nat.lt_of_le_of_lt (hle _) (by decide)) (tgt := 43) dX0_elderPrefers_28 (by decide) (fun c_28 => ?_) (fun c_28 => ?_)
  · skip
    refine j_iconst (pc := 43) X (v := nI 1) dX0_elderPrefers_43 (by decide) ?_
    refine j_goto (pc := 44) X (tgt := 48) dX0_elderPrefers_44 (by decide) ?_
    exact j_zret (pc := 48) X (rfl) dX0_elderPrefers_48 ⟨r1 (by first | (simp [prE, c_28]; done) | (simp [prE, c_28]; omega)), rfl⟩
  · skip
    refine j_iload (pc := 31) X dX0_elderPrefers_31 1 rfl ?_
    refine j_iload (pc := 33) X dX0_elderPrefers_33 0 rfl ?_
    refine j_icmpN_ne (pc := 35) X (a := (le (e * 16 + b))) (b := (le (e * 16 + o))) (by first | omega | exact Nat.lt_of_le_of_lt (hle _) (by decide)) (by first | omega | exact Nat.lt_of_le_of_lt (hle _) (by decide)) (tgt := 47) dX0_elderPrefers_35 (by decide) (fun c_35 => ?_) (fun c_35 => ?_)
    · skip
      refine j_iconst (pc := 47) X (v := nI 0) dX0_elderPrefers_47 (by decide) ?_
      exact j_zret (pc := 48) X (rfl) dX0_elderPrefers_48 ⟨r0 (by first | (simp [prE, c_28, c_35]; done) | (simp [prE, c_28, c_35]; omega)), rfl⟩
    · skip
      refine j_iload_n (pc := 38) X dX0_elderPrefers_38 rfl 4 rfl ?_
      refine j_iload_n (pc := 39) X dX0_elderPrefers_39 rfl 5 rfl ?_
      refine j_icmpN_ge (pc := 40) X (a := b) (b := o) (by first | omega | exact Nat.lt_of_le_of_lt (hle _) (by decide)) (by first | omega | exact Nat.lt_of_le_of_lt (hle _) (by decide)) (tgt := 47) dX0_elderPrefers_40 (by decide) (fun c_40 => ?_) (fun c_40 => ?_)
      · skip
        refine j_iconst (pc := 47) X (v := nI 0) dX0_elderPrefers_47 (by decide) ?_
        exact j_zret (pc := 48) X (rfl) dX0_elderPrefers_48 ⟨r0 (by first | (simp [prE, c_28, c_35, c_40]; done) | (simp [prE, c_28, c_35, c_40]; omega)), rfl⟩
      · skip
        refine j_iconst (pc := 43) X (v := nI 1) dX0_elderPrefers_43 (by decide) ?_
        refine j_goto (pc := 44) X (tgt := 48) dX0_elderPrefers_44 (by decide) ?_
        exact j_zret (pc := 48) X (rfl) dX0_elderPrefers_48 ⟨r1 (by first | (simp [prE, c_28, c_35, c_40]; done) | (simp [prE, c_28, c_35, c_40]; omega)), rfl⟩

set_option maxHeartbeats 4000000 in
set_option maxRecDepth 100000 in
theorem mX10_isFree (l : Launch) (G : jG) (z : Nat) (z4 : Nat) (z5 : Nat) (z6 : Nat) (z9 : Nat) (z10 : Nat) (z11 : Nat) (z12 : Nat) (z14 : Nat) (z15 : Nat) (z16 : Nat) (z19 : Nat) (z20 : Nat) (z21 : Nat) (z22 : Nat) (z23 : Nat) (z25 : Nat) (z26 : Nat) (z27 : Nat) (z28 : Nat) (z30 : Nat) (z31 : Nat) (z32 : Nat) (st : Nat) (th : Nat) (za : Int64) (zb : Int64) (el : Nat) (be : Nat) (gz : Bool) (mm : Nat) (tt : Nat) (gm : Nat) (rn : Nat) (gi : Nat → Option Nat) (pl : Nat → Nat) (e : Nat) (lf : Nat) (hgi : ∀ k, ob 12 (gi k)) (hbe : be ≤ 16) (hpl : ∀ k, pl k ≤ 4) (he : e < 12) (hlf : lf < 12) (hcn : 1 ≤ cntO gi lf be) : MV l yX10_isFree wsX10_isFree ({ frames := 1, cells := 0, slots := 0, locals := 23 }) G [.ref z, .int (nI e), .int (nI lf)] [(z, .inr (10, [.int (nI st), .int (nI th), .long za, .long zb, .ref z4, .ref z5, .ref z6, .int (nI el), .int (nI be), .ref z9, .ref z10, .ref z11, .ref z12, .int (b2i gz), .ref z14, .ref z15, .ref z16, .int (nI mm), .int (nI tt), .ref z19, .ref z20, .ref z21, .ref z22, .ref z23, .int (nI gm), .ref z25, .ref z26, .ref z27, .ref z28, .int (nI rn), .ref z30, .ref z31, .ref z32])), kI G z14 16 (oF gi), kI G z9 12 (nF pl)] (some (.int (b2i (isFr pl gi be lf e)))) [(z, .inr (10, [.int (nI st), .int (nI th), .long za, .long zb, .ref z4, .ref z5, .ref z6, .int (nI el), .int (nI be), .ref z9, .ref z10, .ref z11, .ref z12, .int (b2i gz), .ref z14, .ref z15, .ref z16, .int (nI mm), .int (nI tt), .ref z19, .ref z20, .ref z21, .ref z22, .ref z23, .int (nI gm), .ref z25, .ref z26, .ref z27, .ref z28, .int (nI rn), .ref z30, .ref z31, .ref z32])), kI G z14 16 (oF gi), kI G z9 12 (nF pl)] := by
  refine MF.ofJ (cc := cX10_isFree) (maxL := 3) (ret := (some .boolean)) (own := RX10) (lv := [(0, .ref z), (1, .int (nI e)), (2, .int (nI lf))]) (by decide) rfl rfl (Nat.le_of_ble_eq_true rfl) rfl ?_
  intro κ X
  have i_X10 : ∀ w ∈ wsX100, w ∈ wsX10_isFree := by decide +kernel
  refine j_aload_n (pc := 0) X dX10_isFree_0 rfl 0 rfl ?_
  refine j_iload_n (pc := 1) X dX10_isFree_1 rfl 1 rfl ?_
  refine j_ciP (pc := 2) X [0, 1] rfl (j_rV X (b := z) (As := [.int (nI e)]) (ci := 10) (rest := []) 1 (mX10_hasOf l G z z4 z5 z6 z9 z10 z11 z12 z14 z15 z16 z19 z20 z21 z22 z23 z25 z26 z27 z28 z30 z31 z32 st th za zb el be gz mm tt gm rn gi e (by first | assumption | omega | exact ob_s (by omega) | exact ob_n) (by first | assumption | omega | exact ob_s (by omega) | exact ob_n) (by first | assumption | omega | exact ob_s (by omega) | exact ob_n)) gX10_isFree_X10_hasOf rfl rfl rfl (by decide +kernel) ⟨Nat.le_of_ble_eq_true rfl, Nat.le_of_ble_eq_true rfl⟩ rfl rfl 0 rfl [0, 1] rfl rfl rfl (Nat.le_of_ble_eq_true rfl) dX10_isFree_2 ⟨Nat.le_of_ble_eq_true rfl, Nat.le_of_ble_eq_true rfl⟩) ?_
  refine j_iload_n (pc := 5) X dX10_isFree_5 rfl 1 rfl ?_
  refine j_iload_n (pc := 6) X dX10_isFree_6 rfl 2 rfl ?_
  refine j_icmpN_ne (pc := 7) X (a := e) (b := lf) (by first | omega | (have h9 := cntO_le gi e be; omega) | exact Nat.lt_of_le_of_lt (hpl _) (by decide)) (by first | omega | (have h9 := cntO_le gi e be; omega) | exact Nat.lt_of_le_of_lt (hpl _) (by decide)) (tgt := 14) dX10_isFree_7 (by decide) (fun c_7 => ?_) (fun c_7 => ?_)
  · skip
    refine j_iconst (pc := 14) X (v := nI 0) dX10_isFree_14 (by decide) ?_
    refine j_isub (pc := 15) X dX10_isFree_15 ?_
    refine j_topi (z := nI (cntO gi e be - 0)) (pk_sub (by omega)) ?_
    refine j_aload_n (pc := 16) X dX10_isFree_16 rfl 0 rfl ?_
    refine j_get (pc := 17) X 10 i_X10 0 rfl rfl 9 (by decide) (by decide +kernel) rfl dX10_isFree_17 ?_
    refine j_iload_n (pc := 20) X dX10_isFree_20 rfl 1 rfl ?_
    refine j_iald (pc := 21) X 2 rfl (vp_in_nI (by omega) (by decide)) (v := nI (pl e)) (congrArg (nF pl) (nI_clamp (by omega))) dX10_isFree_21 ?_
    refine j_icmpN_ge (pc := 22) X (a := (cntO gi e be - 0)) (b := (pl e)) (by first | omega | (have h9 := cntO_le gi e be; omega) | exact Nat.lt_of_le_of_lt (hpl _) (by decide)) (by first | omega | (have h9 := cntO_le gi e be; omega) | exact Nat.lt_of_le_of_lt (hpl _) (by decide)) (tgt := 29) dX10_isFree_22 (by decide) (fun c_22 => ?_) (fun c_22 => ?_)
    · skip
      refine j_iconst (pc := 29) X (v := nI 0) dX10_isFree_29 (by decide) ?_
      exact j_zret (pc := 30) X (rfl) dX10_isFree_30 ⟨r0 (by unfold isFr; simp only [decide_eq_true_eq, decide_eq_false_iff_not]; split <;> omega), rfl⟩
    · skip
      refine j_iconst (pc := 25) X (v := nI 1) dX10_isFree_25 (by decide) ?_
      refine j_goto (pc := 26) X (tgt := 30) dX10_isFree_26 (by decide) ?_
      exact j_zret (pc := 30) X (rfl) dX10_isFree_30 ⟨r1 (by unfold isFr; simp only [decide_eq_true_eq, decide_eq_false_iff_not]; split <;> omega), rfl⟩
  · skip
    have hcm : 1 ≤ cntO gi e be := (by rw [c_7]; exact hcn)
    refine j_iconst (pc := 10) X (v := nI 1) dX10_isFree_10 (by decide) ?_
    refine j_goto (pc := 11) X (tgt := 15) dX10_isFree_11 (by decide) ?_
    refine j_isub (pc := 15) X dX10_isFree_15 ?_
    refine j_topi (z := nI (cntO gi e be - 1)) (pk_sub (by omega)) ?_
    refine j_aload_n (pc := 16) X dX10_isFree_16 rfl 0 rfl ?_
    refine j_get (pc := 17) X 10 i_X10 0 rfl rfl 9 (by decide) (by decide +kernel) rfl dX10_isFree_17 ?_
    refine j_iload_n (pc := 20) X dX10_isFree_20 rfl 1 rfl ?_
    refine j_iald (pc := 21) X 2 rfl (vp_in_nI (by omega) (by decide)) (v := nI (pl e)) (congrArg (nF pl) (nI_clamp (by omega))) dX10_isFree_21 ?_
    refine j_icmpN_ge (pc := 22) X (a := (cntO gi e be - 1)) (b := (pl e)) (by first | omega | (have h9 := cntO_le gi e be; omega) | exact Nat.lt_of_le_of_lt (hpl _) (by decide)) (by first | omega | (have h9 := cntO_le gi e be; omega) | exact Nat.lt_of_le_of_lt (hpl _) (by decide)) (tgt := 29) dX10_isFree_22 (by decide) (fun c_22 => ?_) (fun c_22 => ?_)
    · skip
      refine j_iconst (pc := 29) X (v := nI 0) dX10_isFree_29 (by decide) ?_
      exact j_zret (pc := 30) X (rfl) dX10_isFree_30 ⟨r0 (by unfold isFr; simp only [decide_eq_true_eq, decide_eq_false_iff_not]; split <;> omega), rfl⟩
    · skip
      refine j_iconst (pc := 25) X (v := nI 1) dX10_isFree_25 (by decide) ?_
      refine j_goto (pc := 26) X (tgt := 30) dX10_isFree_26 (by decide) ?_
      exact j_zret (pc := 30) X (rfl) dX10_isFree_30 ⟨r1 (by unfold isFr; simp only [decide_eq_true_eq, decide_eq_false_iff_not]; split <;> omega), rfl⟩

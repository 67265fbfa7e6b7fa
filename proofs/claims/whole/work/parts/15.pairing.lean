set_option maxHeartbeats 4000000 in
set_option maxRecDepth 100000 in
theorem mX4_countOf_L4 (l : Launch) (G : jG) (qp : Nat) (qp0 : Nat) (qp1 : Nat) (gv : Bool) (eb : Nat → Option Nat) (e : Nat) (heb : ∀ k, ob 12 (eb k)) (he : e < 12) (κ : jK) (X : CX κ l yX4_countOf cX4_countOf 4 RX4 wsX4_countOf (some .int) ({ frames := 0, cells := 0, slots := 0, locals := 0 }) G (va_A [(qp, .inr (4, [.ref qp0, .ref qp1, .int (b2i gv)])), kI G qp0 16 (oF eb)] (js κ).heap.size))    : ∀ (fu : Nat) (b : Nat) (hb : b ≤ 16) (_ : 16 - b < fu), JJ κ 4 G (va_A [(qp, .inr (4, [.ref qp0, .ref qp1, .int (b2i gv)])), kI G qp0 16 (oF eb)] (js κ).heap.size) 0 0 (jQ κ G [(qp, .inr (4, [.ref qp0, .ref qp1, .int (b2i gv)])), kI G qp0 16 (oF eb)] (fun r w' => r = some (.int (nI (cntO eb e 16))) ∧ w' = [(qp, .inr (4, [.ref qp0, .ref qp1, .int (b2i gv)])), kI G qp0 16 (oF eb)]) 0 0) 4 [(0, .ref qp), (1, .int (nI e)), (2, .int (nI (cntO eb e b))), (3, .int (nI b))] [] [(qp, .inr (4, [.ref qp0, .ref qp1, .int (b2i gv)])), kI G qp0 16 (oF eb)] := by
  have i_X4 : ∀ w ∈ wsX40, w ∈ wsX4_countOf := by decide +kernel
  intro fu
  induction fu with
  | zero => intro b hb hms; exact absurd hms (Nat.not_lt_zero _)
  | succ fu ih =>
    intro b hb hms
    refine j_iload_n (pc := 4) X dX4_countOf_4 rfl 3 rfl ?_
    refine j_bipush (pc := 5) X (v := nI 16) dX4_countOf_5 (by decide) ?_
    refine j_icmpN_ge (pc := 7) X (a := b) (b := 16) (by omega) (by omega) (tgt := 29) dX4_countOf_7 (by decide) (fun c_7 => ?_) (fun c_7 => ?_)
    · skip
      refine j_iload_n (pc := 29) X dX4_countOf_29 rfl 2 rfl ?_
      exact j_iret (pc := 30) X dX4_countOf_30 ⟨by rw [show b = 16 by omega], rfl⟩
    · skip
      refine j_aload_n (pc := 10) X dX4_countOf_10 rfl 0 rfl ?_
      refine j_get (pc := 11) X 4 i_X4 0 rfl rfl 0 (by decide) (by decide +kernel) rfl dX4_countOf_11 ?_
      refine j_iload_n (pc := 14) X dX4_countOf_14 rfl 3 rfl ?_
      refine j_iald (pc := 15) X 1 rfl (vp_in_nI (by omega) (by decide)) (v := oI (eb b)) (congrArg (oF eb) (nI_clamp (by omega))) dX4_countOf_15 ?_
      refine j_iload_n (pc := 16) X dX4_countOf_16 rfl 1 rfl ?_
      refine j_icmpO_ne (pc := 17) X (a := (eb b)) (b := (some e)) (by first | exact ob_n | exact ob_s (by omega) | exact (heb _).big (by decide)) (by first | exact ob_n | exact ob_s (by omega) | exact (heb _).big (by decide)) (tgt := 23) dX4_countOf_17 (by decide) (fun c_17 => ?_) (fun c_17 => ?_)
      · skip
        refine j_iinc (pc := 23) X (v := nI (b + 1)) (lv' := [(3, .int (nI (b + 1))), (0, .ref qp), (1, .int (nI e)), (2, .int (nI (cntO eb e b)))]) dX4_countOf_23 3 rfl (nI_1 _) (by decide) rfl ?_
        refine j_goto (pc := 26) X (tgt := 4) dX4_countOf_26 (by decide) ?_
        refine j_lv [1, 2, 3, 0] (lv' := [(0, .ref qp), (1, .int (nI e)), (2, .int (nI (cntO eb e b))), (3, .int (nI (b + 1)))]) rfl ?_
        refine j_lvq (lv' := [(0, .ref qp), (1, .int (nI e)), (2, .int (nI (cntO eb e (b + 1)))), (3, .int (nI (b + 1)))]) ?_ ?_
        · rw [show (cntO eb e b) = cntO eb e (b + 1) from by (simp [cntO, c_7, c_17])]
        exact ih (b + 1) (by omega) (by omega)
      · skip
        refine j_iinc (pc := 20) X (v := nI (cntO eb e b + 1)) (lv' := [(2, .int (nI (cntO eb e b + 1))), (0, .ref qp), (1, .int (nI e)), (3, .int (nI b))]) dX4_countOf_20 2 rfl (nI_1 _) (by decide) rfl ?_
        refine j_iinc (pc := 23) X (v := nI (b + 1)) (lv' := [(3, .int (nI (b + 1))), (2, .int (nI (cntO eb e b + 1))), (0, .ref qp), (1, .int (nI e))]) dX4_countOf_23 3 rfl (nI_1 _) (by decide) rfl ?_
        refine j_goto (pc := 26) X (tgt := 4) dX4_countOf_26 (by decide) ?_
        refine j_lv [2, 3, 1, 0] (lv' := [(0, .ref qp), (1, .int (nI e)), (2, .int (nI (cntO eb e b + 1))), (3, .int (nI (b + 1)))]) rfl ?_
        refine j_lvq (lv' := [(0, .ref qp), (1, .int (nI e)), (2, .int (nI (cntO eb e (b + 1)))), (3, .int (nI (b + 1)))]) ?_ ?_
        · rw [show (cntO eb e b + 1) = cntO eb e (b + 1) from by (simp [cntO, c_7, c_17])]
        exact ih (b + 1) (by omega) (by omega)
set_option maxHeartbeats 4000000 in
set_option maxRecDepth 100000 in
theorem mX4_countOf (l : Launch) (G : jG) (qp : Nat) (qp0 : Nat) (qp1 : Nat) (gv : Bool) (eb : Nat → Option Nat) (e : Nat) (heb : ∀ k, ob 12 (eb k)) (he : e < 12) : MV l yX4_countOf wsX4_countOf ({ frames := 0, cells := 0, slots := 0, locals := 0 }) G [.ref qp, .int (nI e)] [(qp, .inr (4, [.ref qp0, .ref qp1, .int (b2i gv)])), kI G qp0 16 (oF eb)] (some (.int (nI (cntO eb e 16)))) [(qp, .inr (4, [.ref qp0, .ref qp1, .int (b2i gv)])), kI G qp0 16 (oF eb)] := by
  refine MF.ofJ (cc := cX4_countOf) (maxL := 4) (ret := (some .int)) (own := RX4) (lv := [(0, .ref qp), (1, .int (nI e))]) (by decide) rfl rfl (Nat.le_of_ble_eq_true rfl) rfl ?_
  intro κ X
  have i_X4 : ∀ w ∈ wsX40, w ∈ wsX4_countOf := by decide +kernel
  refine j_iconst (pc := 0) X (v := nI 0) dX4_countOf_0 (by decide) ?_
  refine j_istore_n (pc := 1) X (lv' := [(2, .int (nI 0)), (0, .ref qp), (1, .int (nI e))]) dX4_countOf_1 rfl (by decide) rfl ?_
  refine j_iconst (pc := 2) X (v := nI 0) dX4_countOf_2 (by decide) ?_
  refine j_istore_n (pc := 3) X (lv' := [(3, .int (nI 0)), (2, .int (nI 0)), (0, .ref qp), (1, .int (nI e))]) dX4_countOf_3 rfl (by decide) rfl ?_
  refine j_lv [2, 3, 1, 0] (lv' := [(0, .ref qp), (1, .int (nI e)), (2, .int (nI 0)), (3, .int (nI 0))]) rfl ?_
  refine j_lvq (lv' := [(0, .ref qp), (1, .int (nI e)), (2, .int (nI (cntO eb e 0))), (3, .int (nI 0))]) ?_ ?_
  · first | rfl | (rw [show (0) = cntO eb e 0 from by (simp [cntO, ne_eq])])
  exact mX4_countOf_L4 l G qp qp0 qp1 gv eb e heb he κ X    (16 - 0 + 1) 0 (by omega) (Nat.lt_succ_self _)

set_option maxHeartbeats 4000000 in
set_option maxRecDepth 100000 in
theorem mX4_countPairs_L4 (l : Launch) (G : jG) (qp : Nat) (qp0 : Nat) (qp1 : Nat) (gv : Bool) (eb : Nat → Option Nat) (heb : ∀ k, ob 12 (eb k)) (κ : jK) (X : CX κ l yX4_countPairs cX4_countPairs 3 RX4 wsX4_countPairs (some .int) ({ frames := 0, cells := 0, slots := 0, locals := 0 }) G (va_A [(qp, .inr (4, [.ref qp0, .ref qp1, .int (b2i gv)])), kI G qp0 16 (oF eb)] (js κ).heap.size))    : ∀ (fu : Nat) (b : Nat) (hb : b ≤ 16) (_ : 16 - b < fu), JJ κ 3 G (va_A [(qp, .inr (4, [.ref qp0, .ref qp1, .int (b2i gv)])), kI G qp0 16 (oF eb)] (js κ).heap.size) 0 0 (jQ κ G [(qp, .inr (4, [.ref qp0, .ref qp1, .int (b2i gv)])), kI G qp0 16 (oF eb)] (fun r w' => r = some (.int (nI (cntS eb 16))) ∧ w' = [(qp, .inr (4, [.ref qp0, .ref qp1, .int (b2i gv)])), kI G qp0 16 (oF eb)]) 0 0) 4 [(0, .ref qp), (1, .int (nI (cntS eb b))), (2, .int (nI b))] [] [(qp, .inr (4, [.ref qp0, .ref qp1, .int (b2i gv)])), kI G qp0 16 (oF eb)] := by
  have i_X4 : ∀ w ∈ wsX40, w ∈ wsX4_countPairs := by decide +kernel
  intro fu
  induction fu with
  | zero => intro b hb hms; exact absurd hms (Nat.not_lt_zero _)
  | succ fu ih =>
    intro b hb hms
    refine j_iload_n (pc := 4) X dX4_countPairs_4 rfl 2 rfl ?_
    refine j_bipush (pc := 5) X (v := nI 16) dX4_countPairs_5 (by decide) ?_
    refine j_icmpN_ge (pc := 7) X (a := b) (b := 16) (by omega) (by omega) (tgt := 29) dX4_countPairs_7 (by decide) (fun c_7 => ?_) (fun c_7 => ?_)
    · skip
      refine j_iload_n (pc := 29) X dX4_countPairs_29 rfl 1 rfl ?_
      exact j_iret (pc := 30) X dX4_countPairs_30 ⟨by rw [show b = 16 by omega], rfl⟩
    · skip
      refine j_aload_n (pc := 10) X dX4_countPairs_10 rfl 0 rfl ?_
      refine j_get (pc := 11) X 4 i_X4 0 rfl rfl 0 (by decide) (by decide +kernel) rfl dX4_countPairs_11 ?_
      refine j_iload_n (pc := 14) X dX4_countPairs_14 rfl 2 rfl ?_
      refine j_iald (pc := 15) X 1 rfl (vp_in_nI (by omega) (by decide)) (v := oI (eb b)) (congrArg (oF eb) (nI_clamp (by omega))) dX4_countPairs_15 ?_
      refine j_iconst (pc := 16) X (v := oI none) dX4_countPairs_16 (by decide) ?_
      refine j_icmpZ_eq (pc := 17) X (a := (eb b)) (by first | exact ob_n | exact ob_s (by omega) | exact (heb _).big (by decide)) (tgt := 23) dX4_countPairs_17 (by decide) (fun c_17 => ?_) (fun c_17 => ?_)
      · skip
        refine j_iinc (pc := 23) X (v := nI (b + 1)) (lv' := [(2, .int (nI (b + 1))), (0, .ref qp), (1, .int (nI (cntS eb b)))]) dX4_countPairs_23 2 rfl (nI_1 _) (by decide) rfl ?_
        refine j_goto (pc := 26) X (tgt := 4) dX4_countPairs_26 (by decide) ?_
        refine j_lv [1, 2, 0] (lv' := [(0, .ref qp), (1, .int (nI (cntS eb b))), (2, .int (nI (b + 1)))]) rfl ?_
        refine j_lvq (lv' := [(0, .ref qp), (1, .int (nI (cntS eb (b + 1)))), (2, .int (nI (b + 1)))]) ?_ ?_
        · rw [show (cntS eb b) = cntS eb (b + 1) from by (simp [cntS, c_7, c_17])]
        exact ih (b + 1) (by omega) (by omega)
      · skip
        refine j_iinc (pc := 20) X (v := nI (cntS eb b + 1)) (lv' := [(1, .int (nI (cntS eb b + 1))), (0, .ref qp), (2, .int (nI b))]) dX4_countPairs_20 1 rfl (nI_1 _) (by decide) rfl ?_
        refine j_iinc (pc := 23) X (v := nI (b + 1)) (lv' := [(2, .int (nI (b + 1))), (1, .int (nI (cntS eb b + 1))), (0, .ref qp)]) dX4_countPairs_23 2 rfl (nI_1 _) (by decide) rfl ?_
        refine j_goto (pc := 26) X (tgt := 4) dX4_countPairs_26 (by decide) ?_
        refine j_lv [2, 1, 0] (lv' := [(0, .ref qp), (1, .int (nI (cntS eb b + 1))), (2, .int (nI (b + 1)))]) rfl ?_
        refine j_lvq (lv' := [(0, .ref qp), (1, .int (nI (cntS eb (b + 1)))), (2, .int (nI (b + 1)))]) ?_ ?_
        · rw [show (cntS eb b + 1) = cntS eb (b + 1) from by (simp [cntS, c_7, c_17])]
        exact ih (b + 1) (by omega) (by omega)
set_option maxHeartbeats 4000000 in
set_option maxRecDepth 100000 in
theorem mX4_countPairs (l : Launch) (G : jG) (qp : Nat) (qp0 : Nat) (qp1 : Nat) (gv : Bool) (eb : Nat → Option Nat) (heb : ∀ k, ob 12 (eb k)) : MV l yX4_countPairs wsX4_countPairs ({ frames := 0, cells := 0, slots := 0, locals := 0 }) G [.ref qp] [(qp, .inr (4, [.ref qp0, .ref qp1, .int (b2i gv)])), kI G qp0 16 (oF eb)] (some (.int (nI (cntS eb 16)))) [(qp, .inr (4, [.ref qp0, .ref qp1, .int (b2i gv)])), kI G qp0 16 (oF eb)] := by
  refine MF.ofJ (cc := cX4_countPairs) (maxL := 3) (ret := (some .int)) (own := RX4) (lv := [(0, .ref qp)]) (by decide) rfl rfl (Nat.le_of_ble_eq_true rfl) rfl ?_
  intro κ X
  have i_X4 : ∀ w ∈ wsX40, w ∈ wsX4_countPairs := by decide +kernel
  refine j_iconst (pc := 0) X (v := nI 0) dX4_countPairs_0 (by decide) ?_
  refine j_istore_n (pc := 1) X (lv' := [(1, .int (nI 0)), (0, .ref qp)]) dX4_countPairs_1 rfl (by decide) rfl ?_
  refine j_iconst (pc := 2) X (v := nI 0) dX4_countPairs_2 (by decide) ?_
  refine j_istore_n (pc := 3) X (lv' := [(2, .int (nI 0)), (1, .int (nI 0)), (0, .ref qp)]) dX4_countPairs_3 rfl (by decide) rfl ?_
  refine j_lv [2, 1, 0] (lv' := [(0, .ref qp), (1, .int (nI 0)), (2, .int (nI 0))]) rfl ?_
  refine j_lvq (lv' := [(0, .ref qp), (1, .int (nI (cntS eb 0))), (2, .int (nI 0))]) ?_ ?_
  · first | rfl | (rw [show (0) = cntS eb 0 from by (simp [cntS, ne_eq])])
  exact mX4_countPairs_L4 l G qp qp0 qp1 gv eb heb κ X    (16 - 0 + 1) 0 (by omega) (Nat.lt_succ_self _)

set_option maxHeartbeats 4000000 in
set_option maxRecDepth 100000 in
theorem mX4_hasPlaceLeft (l : Launch) (G : jG) (qp : Nat) (qp0 : Nat) (qp1 : Nat) (gv : Bool) (eb : Nat → Option Nat) (qc : Nat) (qc0 : Nat) (qc1 : Nat) (qc2 : Nat) (qc3 : Nat) (el : Nat) (be : Nat) (pl : Nat → Nat) (e : Nat) (heb : ∀ k, ob 12 (eb k)) (hpl : ∀ k, pl k ≤ 4) (he : e < 12) : MV l yX4_hasPlaceLeft wsX4_hasPlaceLeft ({ frames := 1, cells := 0, slots := 0, locals := 23 }) G [.ref qp, .ref qc, .int (nI e)] [(qp, .inr (4, [.ref qp0, .ref qp1, .int (b2i gv)])), kI G qp0 16 (oF eb), (qc, .inr (0, [.ref qc0, .ref qc1, .ref qc2, .ref qc3, .int (nI el), .int (nI be)])), kI G qc0 12 (nF pl)] (some (.int (b2i (decide (cntO eb e 16 < pl e))))) [(qp, .inr (4, [.ref qp0, .ref qp1, .int (b2i gv)])), kI G qp0 16 (oF eb), (qc, .inr (0, [.ref qc0, .ref qc1, .ref qc2, .ref qc3, .int (nI el), .int (nI be)])), kI G qc0 12 (nF pl)] := by
  refine MF.ofJ (cc := cX4_hasPlaceLeft) (maxL := 3) (ret := (some .boolean)) (own := RX4) (lv := [(0, .ref qp), (1, .ref qc), (2, .int (nI e))]) (by decide) rfl rfl (Nat.le_of_ble_eq_true rfl) rfl ?_
  intro κ X
  have i_X0 : ∀ w ∈ wsX00, w ∈ wsX4_hasPlaceLeft := by decide +kernel
  have i_X4 : ∀ w ∈ wsX40, w ∈ wsX4_hasPlaceLeft := by decide +kernel
  refine j_aload_n (pc := 0) X dX4_hasPlaceLeft_0 rfl 0 rfl ?_
  refine j_iload_n (pc := 1) X dX4_hasPlaceLeft_1 rfl 2 rfl ?_
  refine j_ciP (pc := 2) X [0, 1] rfl (j_rV X (b := qp) (As := [.int (nI e)]) (ci := 4) (rest := []) 1 (mX4_countOf l G qp qp0 qp1 gv eb e (by first | assumption | omega | exact ob_s (by omega) | exact ob_n) (by first | assumption | omega | exact ob_s (by omega) | exact ob_n)) gX4_hasPlaceLeft_X4_countOf rfl rfl rfl (by decide +kernel) ⟨Nat.le_of_ble_eq_true rfl, Nat.le_of_ble_eq_true rfl⟩ rfl rfl 0 rfl [0, 1] rfl rfl rfl (Nat.le_of_ble_eq_true rfl) dX4_hasPlaceLeft_2 ⟨Nat.le_of_ble_eq_true rfl, Nat.le_of_ble_eq_true rfl⟩) ?_
  refine j_aload_n (pc := 5) X dX4_hasPlaceLeft_5 rfl 1 rfl ?_
  refine j_getN (pc := 6) X 0 i_X0 2 rfl rfl 0 (by decide) (by decide +kernel) rfl dX4_hasPlaceLeft_6 ?_
  refine j_iload_n (pc := 9) X dX4_hasPlaceLeft_9 rfl 2 rfl ?_
  refine j_iald (pc := 10) X 3 rfl (vp_in_nI (by omega) (by decide)) (v := nI (pl e)) (congrArg (nF pl) (nI_clamp (by omega))) dX4_hasPlaceLeft_10 ?_
  refine j_icmpN_ge (pc := 11) X (a := (cntO eb e 16)) (b := (pl e)) (by first | omega | (have h1 := cntO_le eb e 16; omega) | exact Nat.lt_of_le_of_lt (hpl _) (by decide)) (by first | omega | (have h1 := cntO_le eb e 16; omega) | exact Nat.lt_of_le_of_lt (hpl _) (by decide)) (tgt := 18) dX4_hasPlaceLeft_11 (by decide) (fun c_11 => ?_) (fun c_11 => ?_)
  · skip
    refine j_iconst (pc := 18) X (v := nI 0) dX4_hasPlaceLeft_18 (by decide) ?_
    exact j_zret (pc := 19) X (rfl) dX4_hasPlaceLeft_19 ⟨r0 (by first | (simp [c_11]; done) | (simp [c_11]; omega)), rfl⟩
  · skip
    refine j_iconst (pc := 14) X (v := nI 1) dX4_hasPlaceLeft_14 (by decide) ?_
    refine j_goto (pc := 15) X (tgt := 19) dX4_hasPlaceLeft_15 (by decide) ?_
    exact j_zret (pc := 19) X (rfl) dX4_hasPlaceLeft_19 ⟨r1 (by first | (simp [c_11]; done) | (simp [c_11]; omega)), rfl⟩

set_option maxHeartbeats 4000000 in
set_option maxRecDepth 100000 in
theorem mX4_leastOf_L5 (l : Launch) (G : jG) (qp : Nat) (qp0 : Nat) (qp1 : Nat) (gv : Bool) (eb : Nat → Option Nat) (qc : Nat) (qc0 : Nat) (qc1 : Nat) (qc2 : Nat) (qc3 : Nat) (el : Nat) (be : Nat) (le : Nat → Nat) (e : Nat) (heb : ∀ k, ob 12 (eb k)) (hbe : be ≤ 16) (hle : ∀ k, le k ≤ 100) (he : e < 12) (κ : jK) (X : CX κ l yX4_leastOf cX4_leastOf 5 RX4 wsX4_leastOf (some .int) ({ frames := 2, cells := 0, slots := 0, locals := 46 }) G (va_A [(qp, .inr (4, [.ref qp0, .ref qp1, .int (b2i gv)])), kI G qp0 16 (oF eb), (qc, .inr (0, [.ref qc0, .ref qc1, .ref qc2, .ref qc3, .int (nI el), .int (nI be)])), kI G qc1 192 (nF le)] (js κ).heap.size))    : ∀ (fu : Nat) (b : Nat) (w : Option Nat) (hb : b ≤ be) (hw : w = lst le eb e b) (hwo : ob 16 w) (_ : be - b < fu), JJ κ 5 G (va_A [(qp, .inr (4, [.ref qp0, .ref qp1, .int (b2i gv)])), kI G qp0 16 (oF eb), (qc, .inr (0, [.ref qc0, .ref qc1, .ref qc2, .ref qc3, .int (nI el), .int (nI be)])), kI G qc1 192 (nF le)] (js κ).heap.size) 0 0 (jQ κ G [(qp, .inr (4, [.ref qp0, .ref qp1, .int (b2i gv)])), kI G qp0 16 (oF eb), (qc, .inr (0, [.ref qc0, .ref qc1, .ref qc2, .ref qc3, .int (nI el), .int (nI be)])), kI G qc1 192 (nF le)] (fun r w' => r = some (.int (oI (lst le eb e be))) ∧ w' = [(qp, .inr (4, [.ref qp0, .ref qp1, .int (b2i gv)])), kI G qp0 16 (oF eb), (qc, .inr (0, [.ref qc0, .ref qc1, .ref qc2, .ref qc3, .int (nI el), .int (nI be)])), kI G qc1 192 (nF le)]) 0 0) 5 [(0, .ref qp), (1, .ref qc), (2, .int (nI e)), (3, .int (oI w)), (4, .int (nI b))] [] [(qp, .inr (4, [.ref qp0, .ref qp1, .int (b2i gv)])), kI G qp0 16 (oF eb), (qc, .inr (0, [.ref qc0, .ref qc1, .ref qc2, .ref qc3, .int (nI el), .int (nI be)])), kI G qc1 192 (nF le)] := by
  have i_X0 : ∀ w ∈ wsX00, w ∈ wsX4_leastOf := by decide +kernel
  have i_X4 : ∀ w ∈ wsX40, w ∈ wsX4_leastOf := by decide +kernel
  intro fu
  induction fu with
  | zero => intro b w hb hw hwo hms; exact absurd hms (Nat.not_lt_zero _)
  | succ fu ih =>
    intro b w hb hw hwo hms
    refine j_iload (pc := 5) X dX4_leastOf_5 4 rfl ?_
    refine j_aload_n (pc := 7) X dX4_leastOf_7 rfl 1 rfl ?_
    refine j_getN (pc := 8) X 0 i_X0 2 rfl rfl 5 (by decide) (by decide +kernel) rfl dX4_leastOf_8 ?_
    refine j_icmpN_ge (pc := 11) X (a := b) (b := be) (by omega) (by omega) (tgt := 50) dX4_leastOf_11 (by decide) (fun c_11 => ?_) (fun c_11 => ?_)
    · skip
      refine j_iload_n (pc := 50) X dX4_leastOf_50 rfl 3 rfl ?_
      exact j_iret (pc := 51) X dX4_leastOf_51 ⟨by rw [show be = b by omega, hw], rfl⟩
    · skip
      refine j_aload_n (pc := 14) X dX4_leastOf_14 rfl 0 rfl ?_
      refine j_get (pc := 15) X 4 i_X4 0 rfl rfl 0 (by decide) (by decide +kernel) rfl dX4_leastOf_15 ?_
      refine j_iload (pc := 18) X dX4_leastOf_18 4 rfl ?_
      refine j_iald (pc := 20) X 1 rfl (vp_in_nI (by omega) (by decide)) (v := oI (eb b)) (congrArg (oF eb) (nI_clamp (by omega))) dX4_leastOf_20 ?_
      refine j_iload_n (pc := 21) X dX4_leastOf_21 rfl 2 rfl ?_
      refine j_icmpO_ne (pc := 22) X (a := (eb b)) (b := (some e)) (by first | exact ob_n | exact ob_s (by omega) | exact (heb _).big (by decide) | exact hwo.big (by decide)) (by first | exact ob_n | exact ob_s (by omega) | exact (heb _).big (by decide) | exact hwo.big (by decide)) (tgt := 44) dX4_leastOf_22 (by decide) (fun c_22 => ?_) (fun c_22 => ?_)
      · skip
        refine j_iinc (pc := 44) X (v := nI (b + 1)) (lv' := [(4, .int (nI (b + 1))), (0, .ref qp), (1, .ref qc), (2, .int (nI e)), (3, .int (oI w))]) dX4_leastOf_44 4 rfl (nI_1 _) (by decide) rfl ?_
        refine j_goto (pc := 47) X (tgt := 5) dX4_leastOf_47 (by decide) ?_
        refine j_lv [1, 2, 3, 4, 0] (lv' := [(0, .ref qp), (1, .ref qc), (2, .int (nI e)), (3, .int (oI w)), (4, .int (nI (b + 1)))]) rfl ?_
        exact ih (b + 1) w (by omega) (by simp [lst, prEO, ← hw, c_11, c_22]) (by first | exact hwo | exact ob_s (by omega) | exact ob_n) (by omega)
      · skip
        refine j_iload_n (pc := 25) X dX4_leastOf_25 rfl 3 rfl ?_
        refine j_iconst (pc := 26) X (v := oI none) dX4_leastOf_26 (by decide) ?_
        refine j_icmpZ_eq (pc := 27) X (a := w) (by first | exact ob_n | exact ob_s (by omega) | exact (heb _).big (by decide) | exact hwo.big (by decide)) (tgt := 41) dX4_leastOf_27 (by decide) (fun c_27 => ?_) (fun c_27 => ?_)
        · skip
          refine j_iload (pc := 41) X dX4_leastOf_41 4 rfl ?_
          refine j_istore_n (pc := 43) X (lv' := [(3, .int (nI b)), (0, .ref qp), (1, .ref qc), (2, .int (nI e)), (4, .int (nI b))]) dX4_leastOf_43 rfl (by decide) rfl ?_
          refine j_iinc (pc := 44) X (v := nI (b + 1)) (lv' := [(4, .int (nI (b + 1))), (3, .int (nI b)), (0, .ref qp), (1, .ref qc), (2, .int (nI e))]) dX4_leastOf_44 4 rfl (nI_1 _) (by decide) rfl ?_
          refine j_goto (pc := 47) X (tgt := 5) dX4_leastOf_47 (by decide) ?_
          refine j_lv [2, 3, 4, 1, 0] (lv' := [(0, .ref qp), (1, .ref qc), (2, .int (nI e)), (3, .int (nI b)), (4, .int (nI (b + 1)))]) rfl ?_
          refine j_lvq (lv' := [(0, .ref qp), (1, .ref qc), (2, .int (nI e)), (3, .int (oI (some b))), (4, .int (nI (b + 1)))]) rfl ?_
          exact ih (b + 1) (some b) (by omega) (by simp [lst, prEO, ← hw, c_11, c_22, c_27]) (by first | exact hwo | exact ob_s (by omega) | exact ob_n) (by omega)
        · skip
          obtain ⟨w, rfl⟩ := Option.ne_none_iff_exists'.mp c_27; have hw16 := hwo w rfl
          refine j_aload_n (pc := 30) X dX4_leastOf_30 rfl 1 rfl ?_
          refine j_iload_n (pc := 31) X dX4_leastOf_31 rfl 2 rfl ?_
          refine j_iload_n (pc := 32) X dX4_leastOf_32 rfl 3 rfl ?_
          refine j_iload (pc := 33) X dX4_leastOf_33 4 rfl ?_
          refine j_ciP (pc := 35) X [2, 3] rfl (j_rVN X (b := qc) (As := [.int (nI e), .int (nI w), .int (nI b)]) (ci := 0) (rest := []) 3 (mX0_elderPrefers l G qc qc0 qc1 qc2 qc3 el be le e w b (by first | assumption | omega | exact ob_s (by omega) | exact ob_n) (by first | assumption | omega | exact ob_s (by omega) | exact ob_n) (by first | assumption | omega | exact ob_s (by omega) | exact ob_n) (by first | assumption | omega | exact ob_s (by omega) | exact ob_n)) gX4_leastOf_X0_elderPrefers_n41 rfl rfl rfl (by decide +kernel) (by decide +kernel) (by decide +kernel) (by decide +kernel) (by decide +kernel) ⟨Nat.le_of_ble_eq_true rfl, Nat.le_of_ble_eq_true rfl⟩ rfl rfl 0 rfl [2, 3] rfl rfl rfl (Nat.le_of_ble_eq_true rfl) dX4_leastOf_35 ⟨Nat.le_of_ble_eq_true rfl, Nat.le_of_ble_eq_true rfl⟩) ?_
          refine j_ifb_eq (pc := 38) X (B := prE le e w b) (tgt := 44) dX4_leastOf_38 (by decide) (fun c_38 => ?_) (fun c_38 => ?_)
          · skip
            refine j_iinc (pc := 44) X (v := nI (b + 1)) (lv' := [(4, .int (nI (b + 1))), (0, .ref qp), (1, .ref qc), (2, .int (nI e)), (3, .int (nI w))]) dX4_leastOf_44 4 rfl (nI_1 _) (by decide) rfl ?_
            refine j_goto (pc := 47) X (tgt := 5) dX4_leastOf_47 (by decide) ?_
            refine j_lv [1, 2, 3, 4, 0] (lv' := [(0, .ref qp), (1, .ref qc), (2, .int (nI e)), (3, .int (nI w)), (4, .int (nI (b + 1)))]) rfl ?_
            refine j_lvq (lv' := [(0, .ref qp), (1, .ref qc), (2, .int (nI e)), (3, .int (oI (some w))), (4, .int (nI (b + 1)))]) rfl ?_
            exact ih (b + 1) (some w) (by omega) (by simp [lst, prEO, ← hw, c_11, c_22, c_27, c_38]) (by first | exact hwo | exact ob_s (by omega) | exact ob_n) (by omega)
          · skip
            refine j_iload (pc := 41) X dX4_leastOf_41 4 rfl ?_
            refine j_istore_n (pc := 43) X (lv' := [(3, .int (nI b)), (0, .ref qp), (1, .ref qc), (2, .int (nI e)), (4, .int (nI b))]) dX4_leastOf_43 rfl (by decide) rfl ?_
            refine j_iinc (pc := 44) X (v := nI (b + 1)) (lv' := [(4, .int (nI (b + 1))), (3, .int (nI b)), (0, .ref qp), (1, .ref qc), (2, .int (nI e))]) dX4_leastOf_44 4 rfl (nI_1 _) (by decide) rfl ?_
            refine j_goto (pc := 47) X (tgt := 5) dX4_leastOf_47 (by decide) ?_
            refine j_lv [2, 3, 4, 1, 0] (lv' := [(0, .ref qp), (1, .ref qc), (2, .int (nI e)), (3, .int (nI b)), (4, .int (nI (b + 1)))]) rfl ?_
            refine j_lvq (lv' := [(0, .ref qp), (1, .ref qc), (2, .int (nI e)), (3, .int (oI (some b))), (4, .int (nI (b + 1)))]) rfl ?_
            exact ih (b + 1) (some b) (by omega) (by simp [lst, prEO, ← hw, c_11, c_22, c_27, c_38]) (by first | exact hwo | exact ob_s (by omega) | exact ob_n) (by omega)
set_option maxHeartbeats 4000000 in
set_option maxRecDepth 100000 in
theorem mX4_leastOf (l : Launch) (G : jG) (qp : Nat) (qp0 : Nat) (qp1 : Nat) (gv : Bool) (eb : Nat → Option Nat) (qc : Nat) (qc0 : Nat) (qc1 : Nat) (qc2 : Nat) (qc3 : Nat) (el : Nat) (be : Nat) (le : Nat → Nat) (e : Nat) (heb : ∀ k, ob 12 (eb k)) (hbe : be ≤ 16) (hle : ∀ k, le k ≤ 100) (he : e < 12) : MV l yX4_leastOf wsX4_leastOf ({ frames := 2, cells := 0, slots := 0, locals := 46 }) G [.ref qp, .ref qc, .int (nI e)] [(qp, .inr (4, [.ref qp0, .ref qp1, .int (b2i gv)])), kI G qp0 16 (oF eb), (qc, .inr (0, [.ref qc0, .ref qc1, .ref qc2, .ref qc3, .int (nI el), .int (nI be)])), kI G qc1 192 (nF le)] (some (.int (oI (lst le eb e be)))) [(qp, .inr (4, [.ref qp0, .ref qp1, .int (b2i gv)])), kI G qp0 16 (oF eb), (qc, .inr (0, [.ref qc0, .ref qc1, .ref qc2, .ref qc3, .int (nI el), .int (nI be)])), kI G qc1 192 (nF le)] := by
  refine MF.ofJ (cc := cX4_leastOf) (maxL := 5) (ret := (some .int)) (own := RX4) (lv := [(0, .ref qp), (1, .ref qc), (2, .int (nI e))]) (by decide) rfl rfl (Nat.le_of_ble_eq_true rfl) rfl ?_
  intro κ X
  have i_X0 : ∀ w ∈ wsX00, w ∈ wsX4_leastOf := by decide +kernel
  have i_X4 : ∀ w ∈ wsX40, w ∈ wsX4_leastOf := by decide +kernel
  refine j_iconst (pc := 0) X (v := oI none) dX4_leastOf_0 (by decide) ?_
  refine j_istore_n (pc := 1) X (lv' := [(3, .int (oI none)), (0, .ref qp), (1, .ref qc), (2, .int (nI e))]) dX4_leastOf_1 rfl (by decide) rfl ?_
  refine j_iconst (pc := 2) X (v := nI 0) dX4_leastOf_2 (by decide) ?_
  refine j_istore (pc := 3) X (lv' := [(4, .int (nI 0)), (3, .int (oI none)), (0, .ref qp), (1, .ref qc), (2, .int (nI e))]) dX4_leastOf_3 (by decide) rfl ?_
  refine j_lv [2, 3, 4, 1, 0] (lv' := [(0, .ref qp), (1, .ref qc), (2, .int (nI e)), (3, .int (oI none)), (4, .int (nI 0))]) rfl ?_
  exact mX4_leastOf_L5 l G qp qp0 qp1 gv eb qc qc0 qc1 qc2 qc3 el be le e heb hbe hle he κ X    (be - 0 + 1) 0 none (by omega) (by rfl) (ob_n) (Nat.lt_succ_self _)

set_option maxHeartbeats 4000000 in
set_option maxRecDepth 100000 in
theorem mX4_nextChoice_L13 (l : Launch) (G : jG) (qp : Nat) (qp0 : Nat) (qp1 : Nat) (gv : Bool) (la : Nat → Option Nat) (qc : Nat) (qc0 : Nat) (qc1 : Nat) (qc2 : Nat) (qc3 : Nat) (el : Nat) (be : Nat) (le : Nat → Nat) (lb : Nat → Nat) (br : Nat → Bool) (b : Nat) (hel : el ≤ 12) (hbe : be ≤ 16) (hle : ∀ k, le k ≤ 100) (hlb : ∀ k, lb k ≤ 100) (hla : ∀ k, ob 12 (la k)) (hb : b < 16) (κ : jK) (X : CX κ l yX4_nextChoice cX4_nextChoice 7 RX4 wsX4_nextChoice (some .int) ({ frames := 2, cells := 0, slots := 0, locals := 46 }) G (va_A [(qp, .inr (4, [.ref qp0, .ref qp1, .int (b2i gv)])), kI G qp1 16 (oF la), (qc, .inr (0, [.ref qc0, .ref qc1, .ref qc2, .ref qc3, .int (nI el), .int (nI be)])), kI G qc1 192 (nF le), kI G qc2 192 (nF lb), kZ G qc3 192 (bF br)] (js κ).heap.size))    : ∀ (fu : Nat) (e : Nat) (w : Option Nat) (he : e ≤ el) (hw : w = nxt le lb br b (la b) e) (hwo : ob 12 w) (_ : el - e < fu), JJ κ 7 G (va_A [(qp, .inr (4, [.ref qp0, .ref qp1, .int (b2i gv)])), kI G qp1 16 (oF la), (qc, .inr (0, [.ref qc0, .ref qc1, .ref qc2, .ref qc3, .int (nI el), .int (nI be)])), kI G qc1 192 (nF le), kI G qc2 192 (nF lb), kZ G qc3 192 (bF br)] (js κ).heap.size) 0 0 (jQ κ G [(qp, .inr (4, [.ref qp0, .ref qp1, .int (b2i gv)])), kI G qp1 16 (oF la), (qc, .inr (0, [.ref qc0, .ref qc1, .ref qc2, .ref qc3, .int (nI el), .int (nI be)])), kI G qc1 192 (nF le), kI G qc2 192 (nF lb), kZ G qc3 192 (bF br)] (fun r w' => r = some (.int (oI (nxt le lb br b (la b) el))) ∧ w' = [(qp, .inr (4, [.ref qp0, .ref qp1, .int (b2i gv)])), kI G qp1 16 (oF la), (qc, .inr (0, [.ref qc0, .ref qc1, .ref qc2, .ref qc3, .int (nI el), .int (nI be)])), kI G qc1 192 (nF le), kI G qc2 192 (nF lb), kZ G qc3 192 (bF br)]) 0 0) 13 [(0, .ref qp), (1, .ref qc), (2, .int (nI b)), (3, .int (oI (la b))), (4, .int (oI w)), (5, .int (nI e))] [] [(qp, .inr (4, [.ref qp0, .ref qp1, .int (b2i gv)])), kI G qp1 16 (oF la), (qc, .inr (0, [.ref qc0, .ref qc1, .ref qc2, .ref qc3, .int (nI el), .int (nI be)])), kI G qc1 192 (nF le), kI G qc2 192 (nF lb), kZ G qc3 192 (bF br)] := by
  have i_X0 : ∀ w ∈ wsX00, w ∈ wsX4_nextChoice := by decide +kernel
  have i_X4 : ∀ w ∈ wsX40, w ∈ wsX4_nextChoice := by decide +kernel
  intro fu
  induction fu with
  | zero => intro e w he hw hwo hms; exact absurd hms (Nat.not_lt_zero _)
  | succ fu ih =>
    intro e w he hw hwo hms
    refine j_iload (pc := 13) X dX4_nextChoice_13 5 rfl ?_
    refine j_aload_n (pc := 15) X dX4_nextChoice_15 rfl 1 rfl ?_
    refine j_getN (pc := 16) X 0 i_X0 2 rfl rfl 4 (by decide) (by decide +kernel) rfl dX4_nextChoice_16 ?_
    refine j_icmpN_ge (pc := 19) X (a := e) (b := el) (by omega) (by omega) (tgt := 82) dX4_nextChoice_19 (by decide) (fun c_19 => ?_) (fun c_19 => ?_)
    · skip
      refine j_iload (pc := 82) X dX4_nextChoice_82 4 rfl ?_
      exact j_iret (pc := 84) X dX4_nextChoice_84 ⟨by rw [show el = e by omega, hw], rfl⟩
    · skip
      refine j_aload_n (pc := 22) X dX4_nextChoice_22 rfl 1 rfl ?_
      refine j_iload (pc := 23) X dX4_nextChoice_23 5 rfl ?_
      refine j_iload_n (pc := 25) X dX4_nextChoice_25 rfl 2 rfl ?_
      refine j_ciP (pc := 26) X [2, 3, 4, 5] rfl (j_rVN X (b := qc) (As := [.int (nI e), .int (nI b)]) (ci := 0) (rest := []) 2 (mX0_canPair l G qc qc0 qc1 qc2 qc3 el be le lb br e b (by first | assumption | omega | exact ob_s (by omega) | exact ob_n) (by first | assumption | omega | exact ob_s (by omega) | exact ob_n) (by first | assumption | omega | exact ob_s (by omega) | exact ob_n) (by first | assumption | omega | exact ob_s (by omega) | exact ob_n)) gX4_nextChoice_X0_canPair_n64 rfl rfl rfl (by decide +kernel) (by decide +kernel) (by decide +kernel) (by decide +kernel) (by decide +kernel) ⟨Nat.le_of_ble_eq_true rfl, Nat.le_of_ble_eq_true rfl⟩ rfl rfl 0 rfl [2, 3, 4, 5] rfl rfl rfl (Nat.le_of_ble_eq_true rfl) dX4_nextChoice_26 ⟨Nat.le_of_ble_eq_true rfl, Nat.le_of_ble_eq_true rfl⟩) ?_
      refine j_ifb_eq (pc := 29) X (B := canB le lb br e b) (tgt := 52) dX4_nextChoice_29 (by decide) (fun c_29 => ?_) (fun c_29 => ?_)
      · skip
        refine j_iconst (pc := 52) X (v := nI 0) dX4_nextChoice_52 (by decide) ?_
        refine j_istore (pc := 53) X (lv' := [(6, .int (nI 0)), (0, .ref qp), (1, .ref qc), (2, .int (nI b)), (3, .int (oI (la b))), (4, .int (oI w)), (5, .int (nI e))]) dX4_nextChoice_53 (by decide) rfl ?_
        refine j_iload (pc := 55) X dX4_nextChoice_55 0 rfl ?_
        refine j_ifN_eq (pc := 57) X (a := 0) (by omega) (tgt := 76) dX4_nextChoice_57 (by decide) (fun c_57 => ?_) (fun c_57 => ?_)
        · skip
          refine j_iinc (pc := 76) X (v := nI (e + 1)) (lv' := [(5, .int (nI (e + 1))), (6, .int (nI 0)), (0, .ref qp), (1, .ref qc), (2, .int (nI b)), (3, .int (oI (la b))), (4, .int (oI w))]) dX4_nextChoice_76 6 rfl (nI_1 _) (by decide) rfl ?_
          refine j_goto (pc := 79) X (tgt := 13) dX4_nextChoice_79 (by decide) ?_
          refine j_lv [2, 3, 4, 5, 6, 0] (lv' := [(0, .ref qp), (1, .ref qc), (2, .int (nI b)), (3, .int (oI (la b))), (4, .int (oI w)), (5, .int (nI (e + 1)))]) rfl ?_
          exact ih (e + 1) w (by omega) (by first | (simp only [nxt]; rw [← hw]; simp [laO, c_19, c_29, c_57]; done) | (simp only [nxt]; rw [← hw]; simp [laO, hj, c_19, c_29, c_57]; done)) (by first | exact hwo | exact ob_s (by omega)) (by omega)
        · skip
          exact absurd c_57 (by decide)
      · skip
        refine j_iload_n (pc := 32) X dX4_nextChoice_32 rfl 3 rfl ?_
        refine j_iconst (pc := 33) X (v := oI none) dX4_nextChoice_33 (by decide) ?_
        refine j_icmpZ_eq (pc := 34) X (a := (la b)) (by first | exact ob_n | exact (hla _).big (by decide) | exact hwo.big (by decide)) (tgt := 48) dX4_nextChoice_34 (by decide) (fun c_34 => ?_) (fun c_34 => ?_)
        · skip
          refine j_iconst (pc := 48) X (v := nI 1) dX4_nextChoice_48 (by decide) ?_
          refine j_goto (pc := 49) X (tgt := 53) dX4_nextChoice_49 (by decide) ?_
          refine j_istore (pc := 53) X (lv' := [(6, .int (nI 1)), (0, .ref qp), (1, .ref qc), (2, .int (nI b)), (3, .int (oI (la b))), (4, .int (oI w)), (5, .int (nI e))]) dX4_nextChoice_53 (by decide) rfl ?_
          refine j_iload (pc := 55) X dX4_nextChoice_55 0 rfl ?_
          refine j_ifN_eq (pc := 57) X (a := 1) (by omega) (tgt := 76) dX4_nextChoice_57 (by decide) (fun c_57 => ?_) (fun c_57 => ?_)
          · skip
            exact absurd c_57 (by decide)
          · skip
            refine j_aload_n (pc := 60) X dX4_nextChoice_60 rfl 2 rfl ?_
            refine j_iload_n (pc := 61) X dX4_nextChoice_61 rfl 3 rfl ?_
            refine j_iload (pc := 62) X dX4_nextChoice_62 6 rfl ?_
            refine j_iload (pc := 64) X dX4_nextChoice_64 5 rfl ?_
            refine j_ciP (pc := 66) X [2, 4] rfl (j_rVN X (b := qc) (As := [.int (nI b), .int (nI e), .int (oI w)]) (ci := 0) (rest := []) 3 (mX0_beginnerPrefers l G qc qc0 qc1 qc2 qc3 el be lb b e w (by first | assumption | omega | exact ob_s (by omega) | exact ob_n) (by first | assumption | omega | exact ob_s (by omega) | exact ob_n) (by first | assumption | omega | exact ob_s (by omega) | exact ob_n) (by first | assumption | omega | exact ob_s (by omega) | exact ob_n)) gX4_nextChoice_X0_beginnerPrefers_n68 rfl rfl rfl (by decide +kernel) (by decide +kernel) (by decide +kernel) (by decide +kernel) (by decide +kernel) ⟨Nat.le_of_ble_eq_true rfl, Nat.le_of_ble_eq_true rfl⟩ rfl rfl 0 rfl [2, 4] rfl rfl rfl (Nat.le_of_ble_eq_true rfl) dX4_nextChoice_66 ⟨Nat.le_of_ble_eq_true rfl, Nat.le_of_ble_eq_true rfl⟩) ?_
            refine j_ifb_eq (pc := 69) X (B := prBO lb b e w) (tgt := 76) dX4_nextChoice_69 (by decide) (fun c_69 => ?_) (fun c_69 => ?_)
            · skip
              refine j_iinc (pc := 76) X (v := nI (e + 1)) (lv' := [(5, .int (nI (e + 1))), (6, .int (nI 1)), (0, .ref qp), (1, .ref qc), (2, .int (nI b)), (3, .int (oI (la b))), (4, .int (oI w))]) dX4_nextChoice_76 6 rfl (nI_1 _) (by decide) rfl ?_
              refine j_goto (pc := 79) X (tgt := 13) dX4_nextChoice_79 (by decide) ?_
              refine j_lv [2, 3, 4, 5, 6, 0] (lv' := [(0, .ref qp), (1, .ref qc), (2, .int (nI b)), (3, .int (oI (la b))), (4, .int (oI w)), (5, .int (nI (e + 1)))]) rfl ?_
              exact ih (e + 1) w (by omega) (by first | (simp only [nxt]; rw [← hw]; simp [laO, c_19, c_29, c_34, c_57, c_69]; done) | (simp only [nxt]; rw [← hw]; simp [laO, hj, c_19, c_29, c_34, c_57, c_69]; done)) (by first | exact hwo | exact ob_s (by omega)) (by omega)
            · skip
              refine j_iload (pc := 72) X dX4_nextChoice_72 6 rfl ?_
              refine j_istore (pc := 74) X (lv' := [(4, .int (nI e)), (6, .int (nI 1)), (0, .ref qp), (1, .ref qc), (2, .int (nI b)), (3, .int (oI (la b))), (5, .int (nI e))]) dX4_nextChoice_74 (by decide) rfl ?_
              refine j_iinc (pc := 76) X (v := nI (e + 1)) (lv' := [(5, .int (nI (e + 1))), (4, .int (nI e)), (6, .int (nI 1)), (0, .ref qp), (1, .ref qc), (2, .int (nI b)), (3, .int (oI (la b)))]) dX4_nextChoice_76 6 rfl (nI_1 _) (by decide) rfl ?_
              refine j_goto (pc := 79) X (tgt := 13) dX4_nextChoice_79 (by decide) ?_
              refine j_lv [3, 4, 5, 6, 1, 0] (lv' := [(0, .ref qp), (1, .ref qc), (2, .int (nI b)), (3, .int (oI (la b))), (4, .int (nI e)), (5, .int (nI (e + 1)))]) rfl ?_
              refine j_lvq (lv' := [(0, .ref qp), (1, .ref qc), (2, .int (nI b)), (3, .int (oI (la b))), (4, .int (oI (some e))), (5, .int (nI (e + 1)))]) rfl ?_
              exact ih (e + 1) (some e) (by omega) (by first | (simp only [nxt]; rw [← hw]; simp [laO, c_19, c_29, c_34, c_57, c_69]; done) | (simp only [nxt]; rw [← hw]; simp [laO, hj, c_19, c_29, c_34, c_57, c_69]; done)) (by first | exact hwo | exact ob_s (by omega)) (by omega)
        · skip
          obtain ⟨j, hj⟩ := Option.ne_none_iff_exists'.mp c_34; have hj12 := hla _ _ hj
          refine j_lvq (lv' := [(0, .ref qp), (1, .ref qc), (2, .int (nI b)), (3, .int (nI j)), (4, .int (oI w)), (5, .int (nI e))]) (by rw [hj] <;> rfl) ?_
          refine j_aload_n (pc := 37) X dX4_nextChoice_37 rfl 1 rfl ?_
          refine j_iload_n (pc := 38) X dX4_nextChoice_38 rfl 2 rfl ?_
          refine j_iload_n (pc := 39) X dX4_nextChoice_39 rfl 3 rfl ?_
          refine j_iload (pc := 40) X dX4_nextChoice_40 5 rfl ?_
          refine j_ciP (pc := 42) X [2, 4] rfl (j_rVN X (b := qc) (As := [.int (nI b), .int (nI j), .int (nI e)]) (ci := 0) (rest := []) 3 (mX0_beginnerPrefers l G qc qc0 qc1 qc2 qc3 el be lb b j (some e) (by first | assumption | omega | exact ob_s (by omega) | exact ob_n) (by first | assumption | omega | exact ob_s (by omega) | exact ob_n) (by first | assumption | omega | exact ob_s (by omega) | exact ob_n) (by first | assumption | omega | exact ob_s (by omega) | exact ob_n)) gX4_nextChoice_X0_beginnerPrefers_n68 rfl rfl rfl (by decide +kernel) (by decide +kernel) (by decide +kernel) (by decide +kernel) (by decide +kernel) ⟨Nat.le_of_ble_eq_true rfl, Nat.le_of_ble_eq_true rfl⟩ rfl rfl 0 rfl [2, 4] rfl rfl rfl (Nat.le_of_ble_eq_true rfl) dX4_nextChoice_42 ⟨Nat.le_of_ble_eq_true rfl, Nat.le_of_ble_eq_true rfl⟩) ?_
          refine j_ifb_eq (pc := 45) X (B := prBO lb b j (some e)) (tgt := 52) dX4_nextChoice_45 (by decide) (fun c_45 => ?_) (fun c_45 => ?_)
          · skip
            refine j_iconst (pc := 52) X (v := nI 0) dX4_nextChoice_52 (by decide) ?_
            refine j_istore (pc := 53) X (lv' := [(6, .int (nI 0)), (0, .ref qp), (1, .ref qc), (2, .int (nI b)), (3, .int (nI j)), (4, .int (oI w)), (5, .int (nI e))]) dX4_nextChoice_53 (by decide) rfl ?_
            refine j_iload (pc := 55) X dX4_nextChoice_55 0 rfl ?_
            refine j_ifN_eq (pc := 57) X (a := 0) (by omega) (tgt := 76) dX4_nextChoice_57 (by decide) (fun c_57 => ?_) (fun c_57 => ?_)
            · skip
              refine j_iinc (pc := 76) X (v := nI (e + 1)) (lv' := [(5, .int (nI (e + 1))), (6, .int (nI 0)), (0, .ref qp), (1, .ref qc), (2, .int (nI b)), (3, .int (nI j)), (4, .int (oI w))]) dX4_nextChoice_76 6 rfl (nI_1 _) (by decide) rfl ?_
              refine j_goto (pc := 79) X (tgt := 13) dX4_nextChoice_79 (by decide) ?_
              refine j_lv [2, 3, 4, 5, 6, 0] (lv' := [(0, .ref qp), (1, .ref qc), (2, .int (nI b)), (3, .int (nI j)), (4, .int (oI w)), (5, .int (nI (e + 1)))]) rfl ?_
              refine j_lvq (lv' := [(0, .ref qp), (1, .ref qc), (2, .int (nI b)), (3, .int (oI (la b))), (4, .int (oI w)), (5, .int (nI (e + 1)))]) ?_ ?_
              · (first | rfl | (rw [hj]; rfl))
              exact ih (e + 1) w (by omega) (by first | (simp only [nxt]; rw [← hw]; simp [laO, c_19, c_29, c_34, c_45, c_57]; done) | (simp only [nxt]; rw [← hw]; simp [laO, hj, c_19, c_29, c_34, c_45, c_57]; done)) (by first | exact hwo | exact ob_s (by omega)) (by omega)
            · skip
              exact absurd c_57 (by decide)
          · skip
            refine j_iconst (pc := 48) X (v := nI 1) dX4_nextChoice_48 (by decide) ?_
            refine j_goto (pc := 49) X (tgt := 53) dX4_nextChoice_49 (by decide) ?_
            refine j_istore (pc := 53) X (lv' := [(6, .int (nI 1)), (0, .ref qp), (1, .ref qc), (2, .int (nI b)), (3, .int (nI j)), (4, .int (oI w)), (5, .int (nI e))]) dX4_nextChoice_53 (by decide) rfl ?_
            refine j_iload (pc := 55) X dX4_nextChoice_55 0 rfl ?_
            refine j_ifN_eq (pc := 57) X (a := 1) (by omega) (tgt := 76) dX4_nextChoice_57 (by decide) (fun c_57 => ?_) (fun c_57 => ?_)
            · skip
              exact absurd c_57 (by decide)
            · skip
              refine j_aload_n (pc := 60) X dX4_nextChoice_60 rfl 2 rfl ?_
              refine j_iload_n (pc := 61) X dX4_nextChoice_61 rfl 3 rfl ?_
              refine j_iload (pc := 62) X dX4_nextChoice_62 6 rfl ?_
              refine j_iload (pc := 64) X dX4_nextChoice_64 5 rfl ?_
              refine j_ciP (pc := 66) X [2, 4] rfl (j_rVN X (b := qc) (As := [.int (nI b), .int (nI e), .int (oI w)]) (ci := 0) (rest := []) 3 (mX0_beginnerPrefers l G qc qc0 qc1 qc2 qc3 el be lb b e w (by first | assumption | omega | exact ob_s (by omega) | exact ob_n) (by first | assumption | omega | exact ob_s (by omega) | exact ob_n) (by first | assumption | omega | exact ob_s (by omega) | exact ob_n) (by first | assumption | omega | exact ob_s (by omega) | exact ob_n)) gX4_nextChoice_X0_beginnerPrefers_n68 rfl rfl rfl (by decide +kernel) (by decide +kernel) (by decide +kernel) (by decide +kernel) (by decide +kernel) ⟨Nat.le_of_ble_eq_true rfl, Nat.le_of_ble_eq_true rfl⟩ rfl rfl 0 rfl [2, 4] rfl rfl rfl (Nat.le_of_ble_eq_true rfl) dX4_nextChoice_66 ⟨Nat.le_of_ble_eq_true rfl, Nat.le_of_ble_eq_true rfl⟩) ?_
              refine j_ifb_eq (pc := 69) X (B := prBO lb b e w) (tgt := 76) dX4_nextChoice_69 (by decide) (fun c_69 => ?_) (fun c_69 => ?_)
              · skip
                refine j_iinc (pc := 76) X (v := nI (e + 1)) (lv' := [(5, .int (nI (e + 1))), (6, .int (nI 1)), (0, .ref qp), (1, .ref qc), (2, .int (nI b)), (3, .int (nI j)), (4, .int (oI w))]) dX4_nextChoice_76 6 rfl (nI_1 _) (by decide) rfl ?_
                refine j_goto (pc := 79) X (tgt := 13) dX4_nextChoice_79 (by decide) ?_
                refine j_lv [2, 3, 4, 5, 6, 0] (lv' := [(0, .ref qp), (1, .ref qc), (2, .int (nI b)), (3, .int (nI j)), (4, .int (oI w)), (5, .int (nI (e + 1)))]) rfl ?_
                refine j_lvq (lv' := [(0, .ref qp), (1, .ref qc), (2, .int (nI b)), (3, .int (oI (la b))), (4, .int (oI w)), (5, .int (nI (e + 1)))]) ?_ ?_
                · (first | rfl | (rw [hj]; rfl))
                exact ih (e + 1) w (by omega) (by first | (simp only [nxt]; rw [← hw]; simp [laO, c_19, c_29, c_34, c_45, c_57, c_69]; done) | (simp only [nxt]; rw [← hw]; simp [laO, hj, c_19, c_29, c_34, c_45, c_57, c_69]; done)) (by first | exact hwo | exact ob_s (by omega)) (by omega)
              · skip
                refine j_iload (pc := 72) X dX4_nextChoice_72 6 rfl ?_
                refine j_istore (pc := 74) X (lv' := [(4, .int (nI e)), (6, .int (nI 1)), (0, .ref qp), (1, .ref qc), (2, .int (nI b)), (3, .int (nI j)), (5, .int (nI e))]) dX4_nextChoice_74 (by decide) rfl ?_
                refine j_iinc (pc := 76) X (v := nI (e + 1)) (lv' := [(5, .int (nI (e + 1))), (4, .int (nI e)), (6, .int (nI 1)), (0, .ref qp), (1, .ref qc), (2, .int (nI b)), (3, .int (nI j))]) dX4_nextChoice_76 6 rfl (nI_1 _) (by decide) rfl ?_
                refine j_goto (pc := 79) X (tgt := 13) dX4_nextChoice_79 (by decide) ?_
                refine j_lv [3, 4, 5, 6, 1, 0] (lv' := [(0, .ref qp), (1, .ref qc), (2, .int (nI b)), (3, .int (nI j)), (4, .int (nI e)), (5, .int (nI (e + 1)))]) rfl ?_
                refine j_lvq (lv' := [(0, .ref qp), (1, .ref qc), (2, .int (nI b)), (3, .int (nI j)), (4, .int (oI (some e))), (5, .int (nI (e + 1)))]) rfl ?_
                refine j_lvq (lv' := [(0, .ref qp), (1, .ref qc), (2, .int (nI b)), (3, .int (oI (la b))), (4, .int (oI (some e))), (5, .int (nI (e + 1)))]) ?_ ?_
                · (first | rfl | (rw [hj]; rfl))
                exact ih (e + 1) (some e) (by omega) (by first | (simp only [nxt]; rw [← hw]; simp [laO, c_19, c_29, c_34, c_45, c_57, c_69]; done) | (simp only [nxt]; rw [← hw]; simp [laO, hj, c_19, c_29, c_34, c_45, c_57, c_69]; done)) (by first | exact hwo | exact ob_s (by omega)) (by omega)
set_option maxHeartbeats 4000000 in
set_option maxRecDepth 100000 in
theorem mX4_nextChoice (l : Launch) (G : jG) (qp : Nat) (qp0 : Nat) (qp1 : Nat) (gv : Bool) (la : Nat → Option Nat) (qc : Nat) (qc0 : Nat) (qc1 : Nat) (qc2 : Nat) (qc3 : Nat) (el : Nat) (be : Nat) (le : Nat → Nat) (lb : Nat → Nat) (br : Nat → Bool) (b : Nat) (hel : el ≤ 12) (hbe : be ≤ 16) (hle : ∀ k, le k ≤ 100) (hlb : ∀ k, lb k ≤ 100) (hla : ∀ k, ob 12 (la k)) (hb : b < 16) : MV l yX4_nextChoice wsX4_nextChoice ({ frames := 2, cells := 0, slots := 0, locals := 46 }) G [.ref qp, .ref qc, .int (nI b)] [(qp, .inr (4, [.ref qp0, .ref qp1, .int (b2i gv)])), kI G qp1 16 (oF la), (qc, .inr (0, [.ref qc0, .ref qc1, .ref qc2, .ref qc3, .int (nI el), .int (nI be)])), kI G qc1 192 (nF le), kI G qc2 192 (nF lb), kZ G qc3 192 (bF br)] (some (.int (oI (nxt le lb br b (la b) el)))) [(qp, .inr (4, [.ref qp0, .ref qp1, .int (b2i gv)])), kI G qp1 16 (oF la), (qc, .inr (0, [.ref qc0, .ref qc1, .ref qc2, .ref qc3, .int (nI el), .int (nI be)])), kI G qc1 192 (nF le), kI G qc2 192 (nF lb), kZ G qc3 192 (bF br)] := by
  refine MF.ofJ (cc := cX4_nextChoice) (maxL := 7) (ret := (some .int)) (own := RX4) (lv := [(0, .ref qp), (1, .ref qc), (2, .int (nI b))]) (by decide) rfl rfl (Nat.le_of_ble_eq_true rfl) rfl ?_
  intro κ X
  have i_X0 : ∀ w ∈ wsX00, w ∈ wsX4_nextChoice := by decide +kernel
  have i_X4 : ∀ w ∈ wsX40, w ∈ wsX4_nextChoice := by decide +kernel
  refine j_aload_n (pc := 0) X dX4_nextChoice_0 rfl 0 rfl ?_
  refine j_get (pc := 1) X 4 i_X4 0 rfl rfl 1 (by decide) (by decide +kernel) rfl dX4_nextChoice_1 ?_
  refine j_iload_n (pc := 4) X dX4_nextChoice_4 rfl 2 rfl ?_
  refine j_iald (pc := 5) X 1 rfl (vp_in_nI (by omega) (by decide)) (v := oI (la b)) (congrArg (oF la) (nI_clamp (by omega))) dX4_nextChoice_5 ?_
  refine j_istore_n (pc := 6) X (lv' := [(3, .int (oI (la b))), (0, .ref qp), (1, .ref qc), (2, .int (nI b))]) dX4_nextChoice_6 rfl (by decide) rfl ?_
  refine j_iconst (pc := 7) X (v := oI none) dX4_nextChoice_7 (by decide) ?_
  refine j_istore (pc := 8) X (lv' := [(4, .int (oI none)), (3, .int (oI (la b))), (0, .ref qp), (1, .ref qc), (2, .int (nI b))]) dX4_nextChoice_8 (by decide) rfl ?_
  refine j_iconst (pc := 10) X (v := nI 0) dX4_nextChoice_10 (by decide) ?_
  refine j_istore (pc := 11) X (lv' := [(5, .int (nI 0)), (4, .int (oI none)), (3, .int (oI (la b))), (0, .ref qp), (1, .ref qc), (2, .int (nI b))]) dX4_nextChoice_11 (by decide) rfl ?_
  refine j_lv [3, 4, 5, 2, 1, 0] (lv' := [(0, .ref qp), (1, .ref qc), (2, .int (nI b)), (3, .int (oI (la b))), (4, .int (oI none)), (5, .int (nI 0))]) rfl ?_
  exact mX4_nextChoice_L13 l G qp qp0 qp1 gv la qc qc0 qc1 qc2 qc3 el be le lb br b hel hbe hle hlb hla hb κ X    (el - 0 + 1) 0 none (by omega) (by rfl) (ob_n) (Nat.lt_succ_self _)

set_option maxHeartbeats 4000000 in
set_option maxRecDepth 100000 in
theorem mX4_askFor (l : Launch) (G : jG) (qp : Nat) (qp0 : Nat) (qp1 : Nat) (gv : Bool) (eb : Nat → Option Nat) (qc : Nat) (qc0 : Nat) (qc1 : Nat) (qc2 : Nat) (qc3 : Nat) (el : Nat) (be : Nat) (pl : Nat → Nat) (le : Nat → Nat) (e : Nat) (a : Nat) (heb : ∀ k, ob 12 (eb k)) (hbe : be ≤ 16) (hle : ∀ k, le k ≤ 100) (hpl : ∀ k, pl k ≤ 4) (he : e < 12) (ha : a < 16) : MV l yX4_askFor wsX4_askFor ({ frames := 3, cells := 0, slots := 0, locals := 70 }) G [.ref qp, .ref qc, .int (nI e), .int (nI a)] [(qp, .inr (4, [.ref qp0, .ref qp1, .int (b2i gv)])), kI G qp0 16 (oF eb), (qc, .inr (0, [.ref qc0, .ref qc1, .ref qc2, .ref qc3, .int (nI el), .int (nI be)])), kI G qc0 12 (nF pl), kI G qc1 192 (nF le)] (some (.int (oI ((askF pl le eb be e a).2)))) [(qp, .inr (4, [.ref qp0, .ref qp1, .int (b2i gv)])), kI G qp0 16 (oF ((askF pl le eb be e a).1)), (qc, .inr (0, [.ref qc0, .ref qc1, .ref qc2, .ref qc3, .int (nI el), .int (nI be)])), kI G qc0 12 (nF pl), kI G qc1 192 (nF le)] := by
  refine MF.ofJ (cc := cX4_askFor) (maxL := 5) (ret := (some .int)) (own := RX4) (lv := [(0, .ref qp), (1, .ref qc), (2, .int (nI e)), (3, .int (nI a))]) (by decide) rfl rfl (Nat.le_of_ble_eq_true rfl) rfl ?_
  intro κ X
  have i_X0 : ∀ w ∈ wsX00, w ∈ wsX4_askFor := by decide +kernel
  have i_X4 : ∀ w ∈ wsX40, w ∈ wsX4_askFor := by decide +kernel
  refine j_iconst (pc := 0) X (v := oI none) dX4_askFor_0 (by decide) ?_
  refine j_istore (pc := 1) X (lv' := [(4, .int (oI none)), (0, .ref qp), (1, .ref qc), (2, .int (nI e)), (3, .int (nI a))]) dX4_askFor_1 (by decide) rfl ?_
  refine j_aload_n (pc := 3) X dX4_askFor_3 rfl 1 rfl ?_
  refine j_aload_n (pc := 4) X dX4_askFor_4 rfl 2 rfl ?_
  refine j_iload_n (pc := 5) X dX4_askFor_5 rfl 3 rfl ?_
  refine j_ciP (pc := 6) X [0, 1, 2, 3] rfl (j_rV X (b := qp) (As := [.ref qc, .int (nI e)]) (ci := 4) (rest := []) 2 (mX4_hasPlaceLeft l G qp qp0 qp1 gv eb qc qc0 qc1 qc2 qc3 el be pl e (by first | assumption | omega | exact ob_s (by omega) | exact ob_n) (by first | assumption | omega | exact ob_s (by omega) | exact ob_n) (by first | assumption | omega | exact ob_s (by omega) | exact ob_n)) gX4_askFor_X4_hasPlaceLeft rfl rfl rfl (by decide +kernel) ⟨Nat.le_of_ble_eq_true rfl, Nat.le_of_ble_eq_true rfl⟩ rfl rfl 0 rfl [0, 1, 2, 3] rfl rfl rfl (Nat.le_of_ble_eq_true rfl) dX4_askFor_6 ⟨Nat.le_of_ble_eq_true rfl, Nat.le_of_ble_eq_true rfl⟩) ?_
  refine j_ifd_ne (pc := 9) X (P := cntO eb e 16 < pl e) (tgt := 47) dX4_askFor_9 (by decide) (fun c_9 => ?_) (fun c_9 => ?_)
  · skip
    refine j_aload_n (pc := 47) X dX4_askFor_47 rfl 1 rfl ?_
    refine j_get (pc := 48) X 4 i_X4 0 rfl rfl 0 (by decide) (by decide +kernel) rfl dX4_askFor_48 ?_
    refine j_iload_n (pc := 51) X dX4_askFor_51 rfl 4 rfl ?_
    refine j_iload_n (pc := 52) X dX4_askFor_52 rfl 3 rfl ?_
    refine j_iast (pc := 53) X (f2 := (oF (va_up eb a (some e)))) (ws' := [(qp, .inr (4, [.ref qp0, .ref qp1, .int (b2i gv)])), kI G qp0 16 (oF (va_up eb a (some e))), (qc, .inr (0, [.ref qc0, .ref qc1, .ref qc2, .ref qc3, .int (nI el), .int (nI be)])), kI G qc0 12 (nF pl), kI G qc1 192 (nF le)]) 1 rfl (vp_in_nI (by omega) (by decide)) dX4_askFor_53 (by rw [nI_clamp (by omega)]; exact oF_up eb a (some e)) rfl ?_
    refine j_iload (pc := 54) X dX4_askFor_54 0 rfl ?_
    have hs : askF pl le eb be e a = (va_up eb a (some e), none) := by first | (simp [askF, c_9]; done) | (simp [askF, hw, c_9]; done)
    refine j_iret (pc := 56) X dX4_askFor_56 ?_
    rw [hs]; exact ⟨rfl, rfl⟩
  · skip
    refine j_aload_n (pc := 12) X dX4_askFor_12 rfl 1 rfl ?_
    refine j_aload_n (pc := 13) X dX4_askFor_13 rfl 2 rfl ?_
    refine j_iload_n (pc := 14) X dX4_askFor_14 rfl 3 rfl ?_
    refine j_ciP (pc := 15) X [0, 1, 2, 4] rfl (j_rV X (b := qp) (As := [.ref qc, .int (nI e)]) (ci := 4) (rest := []) 2 (mX4_leastOf l G qp qp0 qp1 gv eb qc qc0 qc1 qc2 qc3 el be le e (by first | assumption | omega | exact ob_s (by omega) | exact ob_n) (by first | assumption | omega | exact ob_s (by omega) | exact ob_n) (by first | assumption | omega | exact ob_s (by omega) | exact ob_n) (by first | assumption | omega | exact ob_s (by omega) | exact ob_n)) gX4_askFor_X4_leastOf rfl rfl rfl (by decide +kernel) ⟨Nat.le_of_ble_eq_true rfl, Nat.le_of_ble_eq_true rfl⟩ rfl rfl 0 rfl [0, 1, 2, 4] rfl rfl rfl (Nat.le_of_ble_eq_true rfl) dX4_askFor_15 ⟨Nat.le_of_ble_eq_true rfl, Nat.le_of_ble_eq_true rfl⟩) ?_
    refine j_istore (pc := 18) X (lv' := [(4, .int (oI (lst le eb e be))), (0, .ref qp), (1, .ref qc), (2, .int (nI e)), (3, .int (nI a))]) dX4_askFor_18 (by decide) rfl ?_
    refine j_iload (pc := 20) X dX4_askFor_20 0 rfl ?_
    refine j_iconst (pc := 22) X (v := oI none) dX4_askFor_22 (by decide) ?_
    refine j_icmpZ_eq (pc := 23) X (a := (lst le eb e be)) (by first | exact ob_n | exact (lst_ob _ _ _ _).big (by omega)) (tgt := 37) dX4_askFor_23 (by decide) (fun c_23 => ?_) (fun c_23 => ?_)
    · skip
      refine j_iload_n (pc := 37) X dX4_askFor_37 rfl 4 rfl ?_
      have hs : askF pl le eb be e a = (eb, some a) := by first | (simp [askF, c_9, c_23]; done) | (simp [askF, hw, c_9, c_23]; done)
      refine j_iret (pc := 38) X dX4_askFor_38 ?_
      rw [hs]; exact ⟨rfl, rfl⟩
    · skip
      obtain ⟨w, hw⟩ := Option.ne_none_iff_exists'.mp c_23; have hw16 := lst_ob le eb e be w hw
      refine j_lvq (lv' := [(4, .int (nI w)), (0, .ref qp), (1, .ref qc), (2, .int (nI e)), (3, .int (nI a))]) (by rw [hw] <;> rfl) ?_
      refine j_aload_n (pc := 26) X dX4_askFor_26 rfl 2 rfl ?_
      refine j_iload_n (pc := 27) X dX4_askFor_27 rfl 3 rfl ?_
      refine j_iload_n (pc := 28) X dX4_askFor_28 rfl 4 rfl ?_
      refine j_iload (pc := 29) X dX4_askFor_29 0 rfl ?_
      refine j_ciP (pc := 31) X [2, 4] rfl (j_rVN X (b := qc) (As := [.int (nI e), .int (nI a), .int (nI w)]) (ci := 0) (rest := []) 3 (mX0_elderPrefers l G qc qc0 qc1 qc2 qc3 el be le e a w (by first | assumption | omega | exact ob_s (by omega) | exact ob_n) (by first | assumption | omega | exact ob_s (by omega) | exact ob_n) (by first | assumption | omega | exact ob_s (by omega) | exact ob_n) (by first | assumption | omega | exact ob_s (by omega) | exact ob_n)) gX4_askFor_X0_elderPrefers_n41 rfl rfl rfl (by decide +kernel) (by decide +kernel) (by decide +kernel) (by decide +kernel) (by decide +kernel) ⟨Nat.le_of_ble_eq_true rfl, Nat.le_of_ble_eq_true rfl⟩ rfl rfl 0 rfl [2, 4] rfl rfl rfl (Nat.le_of_ble_eq_true rfl) dX4_askFor_31 ⟨Nat.le_of_ble_eq_true rfl, Nat.le_of_ble_eq_true rfl⟩) ?_
      refine j_ifb_ne (pc := 34) X (B := prE le e a w) (tgt := 39) dX4_askFor_34 (by decide) (fun c_34 => ?_) (fun c_34 => ?_)
      · skip
        refine j_aload_n (pc := 39) X dX4_askFor_39 rfl 1 rfl ?_
        refine j_get (pc := 40) X 4 i_X4 0 rfl rfl 0 (by decide) (by decide +kernel) rfl dX4_askFor_40 ?_
        refine j_iload (pc := 43) X dX4_askFor_43 0 rfl ?_
        refine j_iconst (pc := 45) X (v := oI none) dX4_askFor_45 (by decide) ?_
        refine j_iast (pc := 46) X (f2 := (oF (va_up eb w none))) (ws' := [(qp, .inr (4, [.ref qp0, .ref qp1, .int (b2i gv)])), kI G qp0 16 (oF (va_up eb w none)), (qc, .inr (0, [.ref qc0, .ref qc1, .ref qc2, .ref qc3, .int (nI el), .int (nI be)])), kI G qc0 12 (nF pl), kI G qc1 192 (nF le)]) 1 rfl (vp_in_nI (by omega) (by decide)) dX4_askFor_46 (by rw [nI_clamp (by omega)]; exact oF_up eb w none) rfl ?_
        refine j_aload_n (pc := 47) X dX4_askFor_47 rfl 1 rfl ?_
        refine j_get (pc := 48) X 4 i_X4 0 rfl rfl 0 (by decide) (by decide +kernel) rfl dX4_askFor_48 ?_
        refine j_iload_n (pc := 51) X dX4_askFor_51 rfl 4 rfl ?_
        refine j_iload_n (pc := 52) X dX4_askFor_52 rfl 3 rfl ?_
        refine j_iast (pc := 53) X (f2 := (oF (va_up (va_up eb w none) a (some e)))) (ws' := [(qp, .inr (4, [.ref qp0, .ref qp1, .int (b2i gv)])), kI G qp0 16 (oF (va_up (va_up eb w none) a (some e))), (qc, .inr (0, [.ref qc0, .ref qc1, .ref qc2, .ref qc3, .int (nI el), .int (nI be)])), kI G qc0 12 (nF pl), kI G qc1 192 (nF le)]) 1 rfl (vp_in_nI (by omega) (by decide)) dX4_askFor_53 (by rw [nI_clamp (by omega)]; exact oF_up (va_up eb w none) a (some e)) rfl ?_
        refine j_iload (pc := 54) X dX4_askFor_54 0 rfl ?_
        have hs : askF pl le eb be e a = (va_up (va_up eb w none) a (some e), some w) := by first | (simp [askF, c_9, c_23, c_34]; done) | (simp [askF, hw, c_9, c_23, c_34]; done)
        refine j_iret (pc := 56) X dX4_askFor_56 ?_
        rw [hs]; exact ⟨rfl, rfl⟩
      · skip
        refine j_iload_n (pc := 37) X dX4_askFor_37 rfl 4 rfl ?_
        have hs : askF pl le eb be e a = (eb, some a) := by first | (simp [askF, c_9, c_23, c_34]; done) | (simp [askF, hw, c_9, c_23, c_34]; done)
        refine j_iret (pc := 38) X dX4_askFor_38 ?_
        rw [hs]; exact ⟨rfl, rfl⟩

set_option maxHeartbeats 4000000 in
set_option maxRecDepth 100000 in
theorem mX4_seat_L5 (l : Launch) (G : jG) (qp : Nat) (qp0 : Nat) (qp1 : Nat) (gv : Bool) (eb : Nat → Option Nat) (la : Nat → Option Nat) (qc : Nat) (qc0 : Nat) (qc1 : Nat) (qc2 : Nat) (qc3 : Nat) (el : Nat) (be : Nat) (pl : Nat → Nat) (le : Nat → Nat) (lb : Nat → Nat) (br : Nat → Bool) (b : Nat) (hel : el ≤ 12) (hbe : be ≤ 16) (hle : ∀ k, le k ≤ 100) (hlb : ∀ k, lb k ≤ 100) (hpl : ∀ k, pl k ≤ 4) (heb : ∀ k, ob 12 (eb k)) (hla : ∀ k, ob 12 (la k)) (hb : b < 16) (κ : jK) (X : CX κ l yX4_seat cX4_seat 6 RX4 wsX4_seat none ({ frames := 4, cells := 0, slots := 0, locals := 94 }) G (va_A [(qp, .inr (4, [.ref qp0, .ref qp1, .int (b2i gv)])), kI G qp0 16 (oF eb), kI G qp1 16 (oF la), (qc, .inr (0, [.ref qc0, .ref qc1, .ref qc2, .ref qc3, .int (nI el), .int (nI be)])), kI G qc0 12 (nF pl), kI G qc1 192 (nF le), kI G qc2 192 (nF lb), kZ G qc3 192 (bF br)] (js κ).heap.size))    : ∀ (fu : Nat) (st : Nat) (e2 : Nat → Option Nat) (l2 : Nat → Option Nat) (sk : Option Nat) (hs : st ≤ 192) (he2 : ∀ k, ob 12 (e2 k)) (hl2 : ∀ k, ob 12 (l2 k)) (hsk : ob 16 sk) (hq : seatF pl le lb br el be (192 - st) e2 l2 sk = seatF pl le lb br el be 192 eb la (some b)) (_ : 192 - st < fu), JJ κ 6 G (va_A [(qp, .inr (4, [.ref qp0, .ref qp1, .int (b2i gv)])), kI G qp0 16 (oF eb), kI G qp1 16 (oF la), (qc, .inr (0, [.ref qc0, .ref qc1, .ref qc2, .ref qc3, .int (nI el), .int (nI be)])), kI G qc0 12 (nF pl), kI G qc1 192 (nF le), kI G qc2 192 (nF lb), kZ G qc3 192 (bF br)] (js κ).heap.size) 0 0 (jQ κ G [(qp, .inr (4, [.ref qp0, .ref qp1, .int (b2i gv)])), kI G qp0 16 (oF eb), kI G qp1 16 (oF la), (qc, .inr (0, [.ref qc0, .ref qc1, .ref qc2, .ref qc3, .int (nI el), .int (nI be)])), kI G qc0 12 (nF pl), kI G qc1 192 (nF le), kI G qc2 192 (nF lb), kZ G qc3 192 (bF br)] (fun r w' => r = none ∧ w' = [(qp, .inr (4, [.ref qp0, .ref qp1, .int (b2i gv)])), kI G qp0 16 (oF ((seatF pl le lb br el be 192 eb la (some b)).1)), kI G qp1 16 (oF ((seatF pl le lb br el be 192 eb la (some b)).2)), (qc, .inr (0, [.ref qc0, .ref qc1, .ref qc2, .ref qc3, .int (nI el), .int (nI be)])), kI G qc0 12 (nF pl), kI G qc1 192 (nF le), kI G qc2 192 (nF lb), kZ G qc3 192 (bF br)]) 0 0) 5 [(0, .ref qp), (1, .ref qc), (3, .int (oI sk)), (4, .int (nI st))] [] [(qp, .inr (4, [.ref qp0, .ref qp1, .int (b2i gv)])), kI G qp0 16 (oF e2), kI G qp1 16 (oF l2), (qc, .inr (0, [.ref qc0, .ref qc1, .ref qc2, .ref qc3, .int (nI el), .int (nI be)])), kI G qc0 12 (nF pl), kI G qc1 192 (nF le), kI G qc2 192 (nF lb), kZ G qc3 192 (bF br)] := by
  have i_X0 : ∀ w ∈ wsX00, w ∈ wsX4_seat := by decide +kernel
  have i_X4 : ∀ w ∈ wsX40, w ∈ wsX4_seat := by decide +kernel
  intro fu
  induction fu with
  | zero => intro st e2 l2 sk hs he2 hl2 hsk hq hms; exact absurd hms (Nat.not_lt_zero _)
  | succ fu ih =>
    intro st e2 l2 sk hs he2 hl2 hsk hq hms
    refine j_iload (pc := 5) X dX4_seat_5 3 rfl ?_
    refine j_sipush (pc := 7) X (v := nI 192) dX4_seat_7 (by decide) ?_
    refine j_icmpN_ge (pc := 10) X (a := st) (b := 192) (by omega) (by omega) (tgt := 56) dX4_seat_10 (by decide) (fun c_10 => ?_) (fun c_10 => ?_)
    · skip
      exact j_vret (pc := 56) X dX4_seat_56 ⟨rfl, by rw [← hq, show 192 - st = 0 by omega]; rfl⟩
    · skip
      refine j_iload_n (pc := 13) X dX4_seat_13 rfl 2 rfl ?_
      refine j_iconst (pc := 14) X (v := oI none) dX4_seat_14 (by decide) ?_
      refine j_icmpZ_eq (pc := 15) X (a := sk) (by first | exact hsk.big (by decide) | exact (nxt_ob _ _ _ _ _ _).big (by omega)) (tgt := 56) dX4_seat_15 (by decide) (fun c_15 => ?_) (fun c_15 => ?_)
      · skip
        exact j_vret (pc := 56) X dX4_seat_56 ⟨rfl, by rw [← hq, c_15]; cases 192 - st <;> rfl⟩
      · skip
        obtain ⟨s, rfl⟩ := Option.ne_none_iff_exists'.mp c_15; have hs16 := hsk s rfl
        refine j_aload_n (pc := 18) X dX4_seat_18 rfl 0 rfl ?_
        refine j_aload_n (pc := 19) X dX4_seat_19 rfl 1 rfl ?_
        refine j_iload_n (pc := 20) X dX4_seat_20 rfl 2 rfl ?_
        refine j_ciP (pc := 21) X [0, 2, 3, 5, 6, 7] rfl (j_rV X (b := qp) (As := [.ref qc, .int (nI s)]) (ci := 4) (rest := []) 2 (mX4_nextChoice l G qp qp0 qp1 gv l2 qc qc0 qc1 qc2 qc3 el be le lb br s (by first | assumption | omega | exact ob_s (by omega) | exact ob_n) (by first | assumption | omega | exact ob_s (by omega) | exact ob_n) (by first | assumption | omega | exact ob_s (by omega) | exact ob_n) (by first | assumption | omega | exact ob_s (by omega) | exact ob_n) (by first | assumption | omega | exact ob_s (by omega) | exact ob_n) (by first | assumption | omega | exact ob_s (by omega) | exact ob_n)) gX4_seat_X4_nextChoice rfl rfl rfl (by decide +kernel) ⟨Nat.le_of_ble_eq_true rfl, Nat.le_of_ble_eq_true rfl⟩ rfl rfl 0 rfl [0, 2, 3, 5, 6, 7] rfl rfl rfl (Nat.le_of_ble_eq_true rfl) dX4_seat_21 ⟨Nat.le_of_ble_eq_true rfl, Nat.le_of_ble_eq_true rfl⟩) ?_
        refine j_istore (pc := 24) X (lv' := [(5, .int (oI (nxt le lb br s (l2 s) el))), (0, .ref qp), (1, .ref qc), (3, .int (nI s)), (4, .int (nI st))]) dX4_seat_24 (by decide) rfl ?_
        refine j_iload (pc := 26) X dX4_seat_26 0 rfl ?_
        refine j_iconst (pc := 28) X (v := oI none) dX4_seat_28 (by decide) ?_
        refine j_icmpZ_ne (pc := 29) X (a := (nxt le lb br s (l2 s) el)) (by first | exact hsk.big (by decide) | exact (nxt_ob _ _ _ _ _ _).big (by omega)) (tgt := 33) dX4_seat_29 (by decide) (fun c_29 => ?_) (fun c_29 => ?_)
        · skip
          obtain ⟨ee, hel2⟩ := Option.ne_none_iff_exists'.mp c_29; have hel12 : ee < 12 := (by have := nxt_ob le lb br s (l2 s) el ee hel2; omega)
          refine j_lvq (lv' := [(5, .int (nI ee)), (0, .ref qp), (1, .ref qc), (3, .int (nI s)), (4, .int (nI st))]) (by rw [hel2] <;> rfl) ?_
          refine j_aload_n (pc := 33) X dX4_seat_33 rfl 1 rfl ?_
          refine j_get (pc := 34) X 4 i_X4 0 rfl rfl 1 (by decide) (by decide +kernel) rfl dX4_seat_34 ?_
          refine j_iload_n (pc := 37) X dX4_seat_37 rfl 3 rfl ?_
          refine j_iload (pc := 38) X dX4_seat_38 0 rfl ?_
          refine j_iast (pc := 40) X (f2 := (oF (va_up l2 s (some ee)))) (ws' := [(qp, .inr (4, [.ref qp0, .ref qp1, .int (b2i gv)])), kI G qp0 16 (oF e2), kI G qp1 16 (oF (va_up l2 s (some ee))), (qc, .inr (0, [.ref qc0, .ref qc1, .ref qc2, .ref qc3, .int (nI el), .int (nI be)])), kI G qc0 12 (nF pl), kI G qc1 192 (nF le), kI G qc2 192 (nF lb), kZ G qc3 192 (bF br)]) 2 rfl (vp_in_nI (by omega) (by decide)) dX4_seat_40 (by rw [nI_clamp (by omega)]; exact oF_up l2 s (some ee)) rfl ?_
          refine j_aload_n (pc := 41) X dX4_seat_41 rfl 1 rfl ?_
          refine j_aload_n (pc := 42) X dX4_seat_42 rfl 2 rfl ?_
          refine j_iload (pc := 43) X dX4_seat_43 0 rfl ?_
          refine j_iload_n (pc := 45) X dX4_seat_45 rfl 3 rfl ?_
          refine j_ci (pc := 46) X (ws' := [(qp, .inr (4, [.ref qp0, .ref qp1, .int (b2i gv)])), kI G qp0 16 (oF ((askF pl le e2 be ee s).1)), kI G qp1 16 (oF (va_up l2 s (some ee))), (qc, .inr (0, [.ref qc0, .ref qc1, .ref qc2, .ref qc3, .int (nI el), .int (nI be)])), kI G qc0 12 (nF pl), kI G qc1 192 (nF le), kI G qc2 192 (nF lb), kZ G qc3 192 (bF br)]) [0, 1, 3, 4, 5] rfl (j_rV X (b := qp) (As := [.ref qc, .int (nI ee), .int (nI s)]) (ci := 4) (rest := []) 3 (mX4_askFor l G qp qp0 qp1 gv e2 qc qc0 qc1 qc2 qc3 el be pl le ee s (by first | assumption | omega | exact ob_s (by omega) | exact ob_n) (by first | assumption | omega | exact ob_s (by omega) | exact ob_n) (by first | assumption | omega | exact ob_s (by omega) | exact ob_n) (by first | assumption | omega | exact ob_s (by omega) | exact ob_n) (by first | assumption | omega | exact ob_s (by omega) | exact ob_n) (by first | assumption | omega | exact ob_s (by omega) | exact ob_n)) gX4_seat_X4_askFor rfl rfl rfl (by decide +kernel) ⟨Nat.le_of_ble_eq_true rfl, Nat.le_of_ble_eq_true rfl⟩ rfl rfl 0 rfl [0, 1, 3, 4, 5] rfl rfl rfl (Nat.le_of_ble_eq_true rfl) dX4_seat_46 ⟨Nat.le_of_ble_eq_true rfl, Nat.le_of_ble_eq_true rfl⟩) rfl rfl ?_
          refine j_istore_n (pc := 49) X (lv' := [(3, .int (oI ((askF pl le e2 be ee s).2))), (5, .int (nI ee)), (0, .ref qp), (1, .ref qc), (4, .int (nI st))]) dX4_seat_49 rfl (by decide) rfl ?_
          refine j_iinc (pc := 50) X (v := nI (st + 1)) (lv' := [(4, .int (nI (st + 1))), (3, .int (oI ((askF pl le e2 be ee s).2))), (5, .int (nI ee)), (0, .ref qp), (1, .ref qc)]) dX4_seat_50 4 rfl (nI_1 _) (by decide) rfl ?_
          refine j_goto (pc := 53) X (tgt := 5) dX4_seat_53 (by decide) ?_
          refine j_lv [3, 4, 1, 0] (lv' := [(0, .ref qp), (1, .ref qc), (3, .int (oI ((askF pl le e2 be ee s).2))), (4, .int (nI (st + 1)))]) rfl ?_
          exact ih (st + 1) ((askF pl le e2 be ee s).1) (va_up l2 s (some ee)) ((askF pl le e2 be ee s).2) (by omega) ((askF_ob he2 hel12 hs16 hbe).1) (ob_up hl2 (ob_s hel12)) ((askF_ob he2 hel12 hs16 hbe).2) (by rw [← hq, show 192 - st = (192 - (st + 1)) + 1 by omega]; simp [seatF, hel2]) (by omega)
        · skip
          exact j_vret (pc := 32) X dX4_seat_32 ⟨rfl, by rw [← hq, show 192 - st = (191 - st) + 1 by omega]; simp [seatF, c_29]⟩
set_option maxHeartbeats 4000000 in
set_option maxRecDepth 100000 in
theorem mX4_seat (l : Launch) (G : jG) (qp : Nat) (qp0 : Nat) (qp1 : Nat) (gv : Bool) (eb : Nat → Option Nat) (la : Nat → Option Nat) (qc : Nat) (qc0 : Nat) (qc1 : Nat) (qc2 : Nat) (qc3 : Nat) (el : Nat) (be : Nat) (pl : Nat → Nat) (le : Nat → Nat) (lb : Nat → Nat) (br : Nat → Bool) (b : Nat) (hel : el ≤ 12) (hbe : be ≤ 16) (hle : ∀ k, le k ≤ 100) (hlb : ∀ k, lb k ≤ 100) (hpl : ∀ k, pl k ≤ 4) (heb : ∀ k, ob 12 (eb k)) (hla : ∀ k, ob 12 (la k)) (hb : b < 16) : MV l yX4_seat wsX4_seat ({ frames := 4, cells := 0, slots := 0, locals := 94 }) G [.ref qp, .ref qc, .int (nI b)] [(qp, .inr (4, [.ref qp0, .ref qp1, .int (b2i gv)])), kI G qp0 16 (oF eb), kI G qp1 16 (oF la), (qc, .inr (0, [.ref qc0, .ref qc1, .ref qc2, .ref qc3, .int (nI el), .int (nI be)])), kI G qc0 12 (nF pl), kI G qc1 192 (nF le), kI G qc2 192 (nF lb), kZ G qc3 192 (bF br)] (none) [(qp, .inr (4, [.ref qp0, .ref qp1, .int (b2i gv)])), kI G qp0 16 (oF ((seatF pl le lb br el be 192 eb la (some b)).1)), kI G qp1 16 (oF ((seatF pl le lb br el be 192 eb la (some b)).2)), (qc, .inr (0, [.ref qc0, .ref qc1, .ref qc2, .ref qc3, .int (nI el), .int (nI be)])), kI G qc0 12 (nF pl), kI G qc1 192 (nF le), kI G qc2 192 (nF lb), kZ G qc3 192 (bF br)] := by
  refine MF.ofJ (cc := cX4_seat) (maxL := 6) (ret := none) (own := RX4) (lv := [(0, .ref qp), (1, .ref qc), (2, .int (nI b))]) (by decide) rfl rfl (Nat.le_of_ble_eq_true rfl) rfl ?_
  intro κ X
  have i_X0 : ∀ w ∈ wsX00, w ∈ wsX4_seat := by decide +kernel
  have i_X4 : ∀ w ∈ wsX40, w ∈ wsX4_seat := by decide +kernel
  refine j_iload_n (pc := 0) X dX4_seat_0 rfl 2 rfl ?_
  refine j_istore_n (pc := 1) X (lv' := [(3, .int (nI b)), (0, .ref qp), (1, .ref qc), (2, .int (nI b))]) dX4_seat_1 rfl (by decide) rfl ?_
  refine j_iconst (pc := 2) X (v := nI 0) dX4_seat_2 (by decide) ?_
  refine j_istore (pc := 3) X (lv' := [(4, .int (nI 0)), (3, .int (nI b)), (0, .ref qp), (1, .ref qc), (2, .int (nI b))]) dX4_seat_3 (by decide) rfl ?_
  refine j_lv [2, 3, 1, 0] (lv' := [(0, .ref qp), (1, .ref qc), (3, .int (nI b)), (4, .int (nI 0))]) rfl ?_
  refine j_lvq (lv' := [(0, .ref qp), (1, .ref qc), (3, .int (oI (some b))), (4, .int (nI 0))]) rfl ?_
  exact mX4_seat_L5 l G qp qp0 qp1 gv eb la qc qc0 qc1 qc2 qc3 el be pl le lb br b hel hbe hle hlb hpl heb hla hb κ X    (192 - 0 + 1) 0 eb la (some b) (by omega) (heb) (hla) (ob_s hb) (by rfl) (Nat.lt_succ_self _)

set_option maxHeartbeats 4000000 in
set_option maxRecDepth 100000 in
theorem mX4_makeBest_L23 (l : Launch) (G : jG) (qp : Nat) (qp0 : Nat) (qp1 : Nat) (gv : Bool) (eb : Nat → Option Nat) (la : Nat → Option Nat) (qc : Nat) (qc0 : Nat) (qc1 : Nat) (qc2 : Nat) (qc3 : Nat) (el : Nat) (be : Nat) (pl : Nat → Nat) (le : Nat → Nat) (lb : Nat → Nat) (br : Nat → Bool) (hel : el ≤ 12) (hbe : be ≤ 16) (hle : ∀ k, le k ≤ 100) (hlb : ∀ k, lb k ≤ 100) (hpl : ∀ k, pl k ≤ 4) (heb : ∀ k, ob 12 (eb k)) (hla : ∀ k, ob 12 (la k)) (hz : ∀ k, 16 ≤ k → eb k = none) (hlz : ∀ k, 16 ≤ k → la k = none) (κ : jK) (X : CX κ l yX4_makeBest cX4_makeBest 3 RX4 wsX4_makeBest (some .int) ({ frames := 5, cells := 0, slots := 0, locals := 119 }) G (va_A [(qp, .inr (4, [.ref qp0, .ref qp1, .int (b2i gv)])), kI G qp0 16 (oF eb), kI G qp1 16 (oF la), (qc, .inr (0, [.ref qc0, .ref qc1, .ref qc2, .ref qc3, .int (nI el), .int (nI be)])), kI G qc0 12 (nF pl), kI G qc1 192 (nF le), kI G qc2 192 (nF lb), kZ G qc3 192 (bF br)] (js κ).heap.size))    : ∀ (fu : Nat) (b : Nat) (hb : b ≤ be) (_ : be - b < fu), JJ κ 3 G (va_A [(qp, .inr (4, [.ref qp0, .ref qp1, .int (b2i gv)])), kI G qp0 16 (oF eb), kI G qp1 16 (oF la), (qc, .inr (0, [.ref qc0, .ref qc1, .ref qc2, .ref qc3, .int (nI el), .int (nI be)])), kI G qc0 12 (nF pl), kI G qc1 192 (nF le), kI G qc2 192 (nF lb), kZ G qc3 192 (bF br)] (js κ).heap.size) 0 0 (jQ κ G [(qp, .inr (4, [.ref qp0, .ref qp1, .int (b2i gv)])), kI G qp0 16 (oF eb), kI G qp1 16 (oF la), (qc, .inr (0, [.ref qc0, .ref qc1, .ref qc2, .ref qc3, .int (nI el), .int (nI be)])), kI G qc0 12 (nF pl), kI G qc1 192 (nF le), kI G qc2 192 (nF lb), kZ G qc3 192 (bF br)] (fun r w' => r = some (.int (nI (cntS (bestF pl le lb br el be be).1 16))) ∧ w' = [(qp, .inr (4, [.ref qp0, .ref qp1, .int (b2i true)])), kI G qp0 16 (oF ((bestF pl le lb br el be be).1)), kI G qp1 16 (oF ((bestF pl le lb br el be be).2)), (qc, .inr (0, [.ref qc0, .ref qc1, .ref qc2, .ref qc3, .int (nI el), .int (nI be)])), kI G qc0 12 (nF pl), kI G qc1 192 (nF le), kI G qc2 192 (nF lb), kZ G qc3 192 (bF br)]) 0 0) 23 [(0, .ref qp), (1, .ref qc), (2, .int (nI b))] [] [(qp, .inr (4, [.ref qp0, .ref qp1, .int (b2i true)])), kI G qp0 16 (oF ((bestF pl le lb br el be b).1)), kI G qp1 16 (oF ((bestF pl le lb br el be b).2)), (qc, .inr (0, [.ref qc0, .ref qc1, .ref qc2, .ref qc3, .int (nI el), .int (nI be)])), kI G qc0 12 (nF pl), kI G qc1 192 (nF le), kI G qc2 192 (nF lb), kZ G qc3 192 (bF br)] := by
  have i_X0 : ∀ w ∈ wsX00, w ∈ wsX4_makeBest := by decide +kernel
  have i_X4 : ∀ w ∈ wsX40, w ∈ wsX4_makeBest := by decide +kernel
  intro fu
  induction fu with
  | zero => intro b hb hms; exact absurd hms (Nat.not_lt_zero _)
  | succ fu ih =>
    intro b hb hms
    refine j_iload_n (pc := 23) X dX4_makeBest_23 rfl 2 rfl ?_
    refine j_aload_n (pc := 24) X dX4_makeBest_24 rfl 1 rfl ?_
    refine j_getN (pc := 25) X 0 i_X0 3 rfl rfl 5 (by decide) (by decide +kernel) rfl dX4_makeBest_25 ?_
    refine j_icmpN_ge (pc := 28) X (a := b) (b := be) (by omega) (by omega) (tgt := 43) dX4_makeBest_28 (by decide) (fun c_28 => ?_) (fun c_28 => ?_)
    · skip
      obtain rfl : be = b := by omega
      refine j_aload_n (pc := 43) X dX4_makeBest_43 rfl 0 rfl ?_
      refine j_ciP (pc := 44) X [0, 1] rfl (j_rV X (b := qp) (As := []) (ci := 4) (rest := []) 0 (mX4_countPairs l G qp qp0 qp1 true ((bestF pl le lb br el be be).1) (by exact (bestF_ob hel hbe be (Nat.le_refl _)).1.1)) gX4_makeBest_X4_countPairs rfl rfl rfl (by decide +kernel) ⟨Nat.le_of_ble_eq_true rfl, Nat.le_of_ble_eq_true rfl⟩ rfl rfl 0 rfl [0, 1] rfl rfl rfl (Nat.le_of_ble_eq_true rfl) dX4_makeBest_44 ⟨Nat.le_of_ble_eq_true rfl, Nat.le_of_ble_eq_true rfl⟩) ?_
      exact j_iret (pc := 47) X dX4_makeBest_47 ⟨by simp, rfl⟩
    · skip
      refine j_aload_n (pc := 31) X dX4_makeBest_31 rfl 0 rfl ?_
      refine j_aload_n (pc := 32) X dX4_makeBest_32 rfl 1 rfl ?_
      refine j_iload_n (pc := 33) X dX4_makeBest_33 rfl 2 rfl ?_
      refine j_cv (pc := 34) X (ws' := [(qp, .inr (4, [.ref qp0, .ref qp1, .int (b2i true)])), kI G qp0 16 (oF ((seatF pl le lb br el be 192 ((bestF pl le lb br el be b).1) ((bestF pl le lb br el be b).2) (some b)).1)), kI G qp1 16 (oF ((seatF pl le lb br el be 192 ((bestF pl le lb br el be b).1) ((bestF pl le lb br el be b).2) (some b)).2)), (qc, .inr (0, [.ref qc0, .ref qc1, .ref qc2, .ref qc3, .int (nI el), .int (nI be)])), kI G qc0 12 (nF pl), kI G qc1 192 (nF le), kI G qc2 192 (nF lb), kZ G qc3 192 (bF br)]) [0, 1, 2, 3, 4, 5, 6, 7] rfl (j_rV X (b := qp) (As := [.ref qc, .int (nI b)]) (ci := 4) (rest := []) 2 (mX4_seat l G qp qp0 qp1 true ((bestF pl le lb br el be b).1) ((bestF pl le lb br el be b).2) qc qc0 qc1 qc2 qc3 el be pl le lb br b (by first | assumption | omega | exact ob_s (by omega) | exact ob_n) (by first | assumption | omega | exact ob_s (by omega) | exact ob_n) (by first | assumption | omega | exact ob_s (by omega) | exact ob_n) (by first | assumption | omega | exact ob_s (by omega) | exact ob_n) (by first | assumption | omega | exact ob_s (by omega) | exact ob_n) (by exact (bestF_ob hel hbe b hb).1.1) (by exact (bestF_ob hel hbe b hb).1.2) (by first | assumption | omega | exact ob_s (by omega) | exact ob_n)) gX4_makeBest_X4_seat rfl rfl rfl (by decide +kernel) ⟨Nat.le_of_ble_eq_true rfl, Nat.le_of_ble_eq_true rfl⟩ rfl rfl 0 rfl [0, 1, 2, 3, 4, 5, 6, 7] rfl rfl rfl (Nat.le_of_ble_eq_true rfl) dX4_makeBest_34 ⟨Nat.le_of_ble_eq_true rfl, Nat.le_of_ble_eq_true rfl⟩) rfl rfl ?_
      refine j_iinc (pc := 37) X (v := nI (b + 1)) (lv' := [(2, .int (nI (b + 1))), (0, .ref qp), (1, .ref qc)]) dX4_makeBest_37 2 rfl (nI_1 _) (by decide) rfl ?_
      refine j_goto (pc := 40) X (tgt := 23) dX4_makeBest_40 (by decide) ?_
      refine j_lv [1, 2, 0] (lv' := [(0, .ref qp), (1, .ref qc), (2, .int (nI (b + 1)))]) rfl ?_
      refine j_ws (ws' := [(qp, .inr (4, [.ref qp0, .ref qp1, .int (b2i true)])), kI G qp0 16 (oF ((bestF pl le lb br el be (b + 1)).1)), kI G qp1 16 (oF ((bestF pl le lb br el be (b + 1)).2)), (qc, .inr (0, [.ref qc0, .ref qc1, .ref qc2, .ref qc3, .int (nI el), .int (nI be)])), kI G qc0 12 (nF pl), kI G qc1 192 (nF le), kI G qc2 192 (nF lb), kZ G qc3 192 (bF br)]) ?_ ?_
      · (rfl)
      exact ih (b + 1) (by omega) (by omega)
set_option maxHeartbeats 4000000 in
set_option maxRecDepth 100000 in
theorem mX4_makeBest (l : Launch) (G : jG) (qp : Nat) (qp0 : Nat) (qp1 : Nat) (gv : Bool) (eb : Nat → Option Nat) (la : Nat → Option Nat) (qc : Nat) (qc0 : Nat) (qc1 : Nat) (qc2 : Nat) (qc3 : Nat) (el : Nat) (be : Nat) (pl : Nat → Nat) (le : Nat → Nat) (lb : Nat → Nat) (br : Nat → Bool) (hel : el ≤ 12) (hbe : be ≤ 16) (hle : ∀ k, le k ≤ 100) (hlb : ∀ k, lb k ≤ 100) (hpl : ∀ k, pl k ≤ 4) (heb : ∀ k, ob 12 (eb k)) (hla : ∀ k, ob 12 (la k)) (hz : ∀ k, 16 ≤ k → eb k = none) (hlz : ∀ k, 16 ≤ k → la k = none) : MV l yX4_makeBest wsX4_makeBest ({ frames := 5, cells := 0, slots := 0, locals := 119 }) G [.ref qp, .ref qc] [(qp, .inr (4, [.ref qp0, .ref qp1, .int (b2i gv)])), kI G qp0 16 (oF eb), kI G qp1 16 (oF la), (qc, .inr (0, [.ref qc0, .ref qc1, .ref qc2, .ref qc3, .int (nI el), .int (nI be)])), kI G qc0 12 (nF pl), kI G qc1 192 (nF le), kI G qc2 192 (nF lb), kZ G qc3 192 (bF br)] (some (.int (nI (cntS (bestF pl le lb br el be be).1 16)))) [(qp, .inr (4, [.ref qp0, .ref qp1, .int (b2i true)])), kI G qp0 16 (oF ((bestF pl le lb br el be be).1)), kI G qp1 16 (oF ((bestF pl le lb br el be be).2)), (qc, .inr (0, [.ref qc0, .ref qc1, .ref qc2, .ref qc3, .int (nI el), .int (nI be)])), kI G qc0 12 (nF pl), kI G qc1 192 (nF le), kI G qc2 192 (nF lb), kZ G qc3 192 (bF br)] := by
  refine MF.ofJ (cc := cX4_makeBest) (maxL := 3) (ret := (some .int)) (own := RX4) (lv := [(0, .ref qp), (1, .ref qc)]) (by decide) rfl rfl (Nat.le_of_ble_eq_true rfl) rfl ?_
  intro κ X
  have i_X0 : ∀ w ∈ wsX00, w ∈ wsX4_makeBest := by decide +kernel
  have i_X4 : ∀ w ∈ wsX40, w ∈ wsX4_makeBest := by decide +kernel
  refine j_aload_n (pc := 0) X dX4_makeBest_0 rfl 0 rfl ?_
  refine j_iconst (pc := 1) X (v := nI 1) dX4_makeBest_1 (by decide) ?_
  refine j_put (pc := 2) X (v := .int (nI 1)) (ws' := [(qp, .inr (4, [.ref qp0, .ref qp1, .int (b2i true)])), kI G qp0 16 (oF eb), kI G qp1 16 (oF la), (qc, .inr (0, [.ref qc0, .ref qc1, .ref qc2, .ref qc3, .int (nI el), .int (nI be)])), kI G qc0 12 (nF pl), kI G qc1 192 (nF le), kI G qc2 192 (nF lb), kZ G qc3 192 (bF br)]) 4 i_X4 tyX4 tyX4_ok nmX4 0 rfl rfl 2 (by decide) (by decide +kernel) (by decide) (rfl) (rfl) (Nat.le_of_ble_eq_true rfl) dX4_makeBest_2 rfl ?_
  refine j_aload_n (pc := 5) X dX4_makeBest_5 rfl 0 rfl ?_
  refine j_get (pc := 6) X 4 i_X4 0 rfl rfl 0 (by decide) (by decide +kernel) rfl dX4_makeBest_6 ?_
  refine j_iconst (pc := 9) X (v := oI none) dX4_makeBest_9 (by decide) ?_
  refine j_cv (pc := 10) X (ws' := [(qp, .inr (4, [.ref qp0, .ref qp1, .int (b2i true)])), kI G qp0 16 (oF (fil none eb 16)), kI G qp1 16 (oF la), (qc, .inr (0, [.ref qc0, .ref qc1, .ref qc2, .ref qc3, .int (nI el), .int (nI be)])), kI G qc0 12 (nF pl), kI G qc1 192 (nF le), kI G qc2 192 (nF lb), kZ G qc3 192 (bF br)]) [1] rfl (j_rS X (As := [.ref qp0, .int (oI none)]) (rest := []) 2 (mJ7_fill_53178 l G qp0 16 eb none (by first | assumption | omega | exact ob_s (by omega) | exact ob_n)) gX4_makeBest_J7_fill_53178 rfl rfl rfl (by decide +kernel) ⟨Nat.le_of_ble_eq_true rfl, Nat.le_of_ble_eq_true rfl⟩ rfl [1] rfl rfl rfl (Nat.le_of_ble_eq_true rfl) dX4_makeBest_10 ⟨Nat.le_of_ble_eq_true rfl, Nat.le_of_ble_eq_true rfl⟩) rfl rfl ?_
  refine j_aload_n (pc := 13) X dX4_makeBest_13 rfl 0 rfl ?_
  refine j_get (pc := 14) X 4 i_X4 0 rfl rfl 1 (by decide) (by decide +kernel) rfl dX4_makeBest_14 ?_
  refine j_iconst (pc := 17) X (v := oI none) dX4_makeBest_17 (by decide) ?_
  refine j_cv (pc := 18) X (ws' := [(qp, .inr (4, [.ref qp0, .ref qp1, .int (b2i true)])), kI G qp0 16 (oF (fil none eb 16)), kI G qp1 16 (oF (fil none la 16)), (qc, .inr (0, [.ref qc0, .ref qc1, .ref qc2, .ref qc3, .int (nI el), .int (nI be)])), kI G qc0 12 (nF pl), kI G qc1 192 (nF le), kI G qc2 192 (nF lb), kZ G qc3 192 (bF br)]) [2] rfl (j_rS X (As := [.ref qp1, .int (oI none)]) (rest := []) 2 (mJ7_fill_53178 l G qp1 16 la none (by first | assumption | omega | exact ob_s (by omega) | exact ob_n)) gX4_makeBest_J7_fill_53178 rfl rfl rfl (by decide +kernel) ⟨Nat.le_of_ble_eq_true rfl, Nat.le_of_ble_eq_true rfl⟩ rfl [2] rfl rfl rfl (Nat.le_of_ble_eq_true rfl) dX4_makeBest_18 ⟨Nat.le_of_ble_eq_true rfl, Nat.le_of_ble_eq_true rfl⟩) rfl rfl ?_
  refine j_iconst (pc := 21) X (v := nI 0) dX4_makeBest_21 (by decide) ?_
  refine j_istore_n (pc := 22) X (lv' := [(2, .int (nI 0)), (0, .ref qp), (1, .ref qc)]) dX4_makeBest_22 rfl (by decide) rfl ?_
  refine j_lv [1, 2, 0] (lv' := [(0, .ref qp), (1, .ref qc), (2, .int (nI 0))]) rfl ?_
  refine j_ws (ws' := [(qp, .inr (4, [.ref qp0, .ref qp1, .int (b2i true)])), kI G qp0 16 (oF ((bestF pl le lb br el be 0).1)), kI G qp1 16 (oF ((bestF pl le lb br el be 0).2)), (qc, .inr (0, [.ref qc0, .ref qc1, .ref qc2, .ref qc3, .int (nI el), .int (nI be)])), kI G qc0 12 (nF pl), kI G qc1 192 (nF le), kI G qc2 192 (nF lb), kZ G qc3 192 (bF br)]) ?_ ?_
  · (rw [fil_none hz, fil_none hlz]; rfl)
  exact mX4_makeBest_L23 l G qp qp0 qp1 gv eb la qc qc0 qc1 qc2 qc3 el be pl le lb br hel hbe hle hlb hpl heb hla hz hlz κ X    (be - 0 + 1) 0 (by omega) (Nat.lt_succ_self _)

set_option maxHeartbeats 4000000 in
set_option maxRecDepth 100000 in
theorem mX4_isBlockedBy (l : Launch) (G : jG) (qp : Nat) (qp0 : Nat) (qp1 : Nat) (gv : Bool) (eb : Nat → Option Nat) (qc : Nat) (qc0 : Nat) (qc1 : Nat) (qc2 : Nat) (qc3 : Nat) (el : Nat) (be : Nat) (pl : Nat → Nat) (le : Nat → Nat) (lb : Nat → Nat) (br : Nat → Bool) (e : Nat) (b : Nat) (hel : el ≤ 12) (hbe : be ≤ 16) (hle : ∀ k, le k ≤ 100) (hlb : ∀ k, lb k ≤ 100) (hpl : ∀ k, pl k ≤ 4) (heb : ∀ k, ob 12 (eb k)) (he : e < 12) (hb : b < 16) : MV l yX4_isBlockedBy wsX4_isBlockedBy ({ frames := 3, cells := 0, slots := 0, locals := 70 }) G [.ref qp, .ref qc, .int (nI e), .int (nI b)] [(qp, .inr (4, [.ref qp0, .ref qp1, .int (b2i gv)])), kI G qp0 16 (oF eb), (qc, .inr (0, [.ref qc0, .ref qc1, .ref qc2, .ref qc3, .int (nI el), .int (nI be)])), kI G qc0 12 (nF pl), kI G qc1 192 (nF le), kI G qc2 192 (nF lb), kZ G qc3 192 (bF br)] (some (.int (b2i (blk pl le lb br eb be e b)))) [(qp, .inr (4, [.ref qp0, .ref qp1, .int (b2i gv)])), kI G qp0 16 (oF eb), (qc, .inr (0, [.ref qc0, .ref qc1, .ref qc2, .ref qc3, .int (nI el), .int (nI be)])), kI G qc0 12 (nF pl), kI G qc1 192 (nF le), kI G qc2 192 (nF lb), kZ G qc3 192 (bF br)] := by
  refine MF.ofJ (cc := cX4_isBlockedBy) (maxL := 6) (ret := (some .boolean)) (own := RX4) (lv := [(0, .ref qp), (1, .ref qc), (2, .int (nI e)), (3, .int (nI b))]) (by decide) rfl rfl (Nat.le_of_ble_eq_true rfl) rfl ?_
  intro κ X
  have i_X0 : ∀ w ∈ wsX00, w ∈ wsX4_isBlockedBy := by decide +kernel
  have i_X4 : ∀ w ∈ wsX40, w ∈ wsX4_isBlockedBy := by decide +kernel
  refine j_aload_n (pc := 0) X dX4_isBlockedBy_0 rfl 0 rfl ?_
  refine j_get (pc := 1) X 4 i_X4 0 rfl rfl 0 (by decide) (by decide +kernel) rfl dX4_isBlockedBy_1 ?_
  refine j_iload_n (pc := 4) X dX4_isBlockedBy_4 rfl 3 rfl ?_
  refine j_iald (pc := 5) X 1 rfl (vp_in_nI (by omega) (by decide)) (v := oI (eb b)) (congrArg (oF eb) (nI_clamp (by omega))) dX4_isBlockedBy_5 ?_
  refine j_istore (pc := 6) X (lv' := [(4, .int (oI (eb b))), (0, .ref qp), (1, .ref qc), (2, .int (nI e)), (3, .int (nI b))]) dX4_isBlockedBy_6 (by decide) rfl ?_
  refine j_iload (pc := 8) X dX4_isBlockedBy_8 0 rfl ?_
  refine j_iload_n (pc := 10) X dX4_isBlockedBy_10 rfl 3 rfl ?_
  refine j_icmpO_eq (pc := 11) X (a := (eb b)) (b := (some e)) (by first | exact ob_n | exact ob_s (by omega) | exact (heb _).big (by decide) | exact (lst_ob _ _ _ _).big (by omega)) (by first | exact ob_n | exact ob_s (by omega) | exact (heb _).big (by decide) | exact (lst_ob _ _ _ _).big (by omega)) (tgt := 34) dX4_isBlockedBy_11 (by decide) (fun c_11 => ?_) (fun c_11 => ?_)
  · skip
    refine j_iconst (pc := 34) X (v := nI 0) dX4_isBlockedBy_34 (by decide) ?_
    exact j_zret (pc := 35) X (rfl) dX4_isBlockedBy_35 ⟨r0 (by first | (simp [blk, c_11]; done) | (simp [blk, hw, c_11]; done)), rfl⟩
  · skip
    refine j_aload_n (pc := 14) X dX4_isBlockedBy_14 rfl 2 rfl ?_
    refine j_iload_n (pc := 15) X dX4_isBlockedBy_15 rfl 3 rfl ?_
    refine j_iload_n (pc := 16) X dX4_isBlockedBy_16 rfl 4 rfl ?_
    refine j_ciP (pc := 17) X [2, 4, 5, 6] rfl (j_rVN X (b := qc) (As := [.int (nI e), .int (nI b)]) (ci := 0) (rest := []) 2 (mX0_canPair l G qc qc0 qc1 qc2 qc3 el be le lb br e b (by first | assumption | omega | exact ob_s (by omega) | exact ob_n) (by first | assumption | omega | exact ob_s (by omega) | exact ob_n) (by first | assumption | omega | exact ob_s (by omega) | exact ob_n) (by first | assumption | omega | exact ob_s (by omega) | exact ob_n)) gX4_isBlockedBy_X0_canPair_n64 rfl rfl rfl (by decide +kernel) (by decide +kernel) (by decide +kernel) (by decide +kernel) (by decide +kernel) ⟨Nat.le_of_ble_eq_true rfl, Nat.le_of_ble_eq_true rfl⟩ rfl rfl 0 rfl [2, 4, 5, 6] rfl rfl rfl (Nat.le_of_ble_eq_true rfl) dX4_isBlockedBy_17 ⟨Nat.le_of_ble_eq_true rfl, Nat.le_of_ble_eq_true rfl⟩) ?_
    refine j_ifb_eq (pc := 20) X (B := canB le lb br e b) (tgt := 34) dX4_isBlockedBy_20 (by decide) (fun c_20 => ?_) (fun c_20 => ?_)
    · skip
      refine j_iconst (pc := 34) X (v := nI 0) dX4_isBlockedBy_34 (by decide) ?_
      exact j_zret (pc := 35) X (rfl) dX4_isBlockedBy_35 ⟨r0 (by first | (simp [blk, c_11, c_20]; done) | (simp [blk, hw, c_11, c_20]; done)), rfl⟩
    · skip
      refine j_aload_n (pc := 23) X dX4_isBlockedBy_23 rfl 2 rfl ?_
      refine j_iload_n (pc := 24) X dX4_isBlockedBy_24 rfl 4 rfl ?_
      refine j_iload_n (pc := 25) X dX4_isBlockedBy_25 rfl 3 rfl ?_
      refine j_iload (pc := 26) X dX4_isBlockedBy_26 0 rfl ?_
      refine j_ciP (pc := 28) X [2, 5] rfl (j_rVN X (b := qc) (As := [.int (nI b), .int (nI e), .int (oI (eb b))]) (ci := 0) (rest := []) 3 (mX0_beginnerPrefers l G qc qc0 qc1 qc2 qc3 el be lb b e (eb b) (by first | assumption | omega | exact ob_s (by omega) | exact ob_n) (by first | assumption | omega | exact ob_s (by omega) | exact ob_n) (by exact heb _) (by first | assumption | omega | exact ob_s (by omega) | exact ob_n)) gX4_isBlockedBy_X0_beginnerPrefers_n68 rfl rfl rfl (by decide +kernel) (by decide +kernel) (by decide +kernel) (by decide +kernel) (by decide +kernel) ⟨Nat.le_of_ble_eq_true rfl, Nat.le_of_ble_eq_true rfl⟩ rfl rfl 0 rfl [2, 5] rfl rfl rfl (Nat.le_of_ble_eq_true rfl) dX4_isBlockedBy_28 ⟨Nat.le_of_ble_eq_true rfl, Nat.le_of_ble_eq_true rfl⟩) ?_
      refine j_ifb_ne (pc := 31) X (B := prBO lb b e (eb b)) (tgt := 36) dX4_isBlockedBy_31 (by decide) (fun c_31 => ?_) (fun c_31 => ?_)
      · skip
        refine j_aload_n (pc := 36) X dX4_isBlockedBy_36 rfl 1 rfl ?_
        refine j_aload_n (pc := 37) X dX4_isBlockedBy_37 rfl 2 rfl ?_
        refine j_iload_n (pc := 38) X dX4_isBlockedBy_38 rfl 3 rfl ?_
        refine j_ciP (pc := 39) X [0, 1, 2, 3] rfl (j_rV X (b := qp) (As := [.ref qc, .int (nI e)]) (ci := 4) (rest := []) 2 (mX4_hasPlaceLeft l G qp qp0 qp1 gv eb qc qc0 qc1 qc2 qc3 el be pl e (by first | assumption | omega | exact ob_s (by omega) | exact ob_n) (by first | assumption | omega | exact ob_s (by omega) | exact ob_n) (by first | assumption | omega | exact ob_s (by omega) | exact ob_n)) gX4_isBlockedBy_X4_hasPlaceLeft rfl rfl rfl (by decide +kernel) ⟨Nat.le_of_ble_eq_true rfl, Nat.le_of_ble_eq_true rfl⟩ rfl rfl 0 rfl [0, 1, 2, 3] rfl rfl rfl (Nat.le_of_ble_eq_true rfl) dX4_isBlockedBy_39 ⟨Nat.le_of_ble_eq_true rfl, Nat.le_of_ble_eq_true rfl⟩) ?_
        refine j_ifd_eq (pc := 42) X (P := cntO eb e 16 < pl e) (tgt := 47) dX4_isBlockedBy_42 (by decide) (fun c_42 => ?_) (fun c_42 => ?_)
        · skip
          refine j_aload_n (pc := 47) X dX4_isBlockedBy_47 rfl 1 rfl ?_
          refine j_aload_n (pc := 48) X dX4_isBlockedBy_48 rfl 2 rfl ?_
          refine j_iload_n (pc := 49) X dX4_isBlockedBy_49 rfl 3 rfl ?_
          refine j_ciP (pc := 50) X [0, 1, 2, 4] rfl (j_rV X (b := qp) (As := [.ref qc, .int (nI e)]) (ci := 4) (rest := []) 2 (mX4_leastOf l G qp qp0 qp1 gv eb qc qc0 qc1 qc2 qc3 el be le e (by first | assumption | omega | exact ob_s (by omega) | exact ob_n) (by first | assumption | omega | exact ob_s (by omega) | exact ob_n) (by first | assumption | omega | exact ob_s (by omega) | exact ob_n) (by first | assumption | omega | exact ob_s (by omega) | exact ob_n)) gX4_isBlockedBy_X4_leastOf rfl rfl rfl (by decide +kernel) ⟨Nat.le_of_ble_eq_true rfl, Nat.le_of_ble_eq_true rfl⟩ rfl rfl 0 rfl [0, 1, 2, 4] rfl rfl rfl (Nat.le_of_ble_eq_true rfl) dX4_isBlockedBy_50 ⟨Nat.le_of_ble_eq_true rfl, Nat.le_of_ble_eq_true rfl⟩) ?_
          refine j_istore (pc := 53) X (lv' := [(5, .int (oI (lst le eb e be))), (4, .int (oI (eb b))), (0, .ref qp), (1, .ref qc), (2, .int (nI e)), (3, .int (nI b))]) dX4_isBlockedBy_53 (by decide) rfl ?_
          refine j_iload (pc := 55) X dX4_isBlockedBy_55 0 rfl ?_
          refine j_iconst (pc := 57) X (v := oI none) dX4_isBlockedBy_57 (by decide) ?_
          refine j_icmpZ_eq (pc := 58) X (a := (lst le eb e be)) (by first | exact ob_n | exact ob_s (by omega) | exact (heb _).big (by decide) | exact (lst_ob _ _ _ _).big (by omega)) (tgt := 76) dX4_isBlockedBy_58 (by decide) (fun c_58 => ?_) (fun c_58 => ?_)
          · skip
            refine j_iconst (pc := 76) X (v := nI 0) dX4_isBlockedBy_76 (by decide) ?_
            exact j_zret (pc := 77) X (rfl) dX4_isBlockedBy_77 ⟨r0 (by first | (simp [blk, c_11, c_20, c_31, c_42, c_58]; done) | (simp [blk, hw, c_11, c_20, c_31, c_42, c_58]; done)), rfl⟩
          · skip
            obtain ⟨w, hw⟩ := Option.ne_none_iff_exists'.mp c_58; have hw16 := lst_ob le eb e be w hw
            refine j_lvq (lv' := [(5, .int (nI w)), (4, .int (oI (eb b))), (0, .ref qp), (1, .ref qc), (2, .int (nI e)), (3, .int (nI b))]) (by rw [hw] <;> rfl) ?_
            refine j_aload_n (pc := 61) X dX4_isBlockedBy_61 rfl 3 rfl ?_
            refine j_iload_n (pc := 62) X dX4_isBlockedBy_62 rfl 4 rfl ?_
            refine j_iload_n (pc := 63) X dX4_isBlockedBy_63 rfl 5 rfl ?_
            refine j_iload (pc := 64) X dX4_isBlockedBy_64 0 rfl ?_
            refine j_ciP (pc := 66) X [2, 4] rfl (j_rVN X (b := qc) (As := [.int (nI e), .int (nI b), .int (nI w)]) (ci := 0) (rest := []) 3 (mX0_elderPrefers l G qc qc0 qc1 qc2 qc3 el be le e b w (by first | assumption | omega | exact ob_s (by omega) | exact ob_n) (by first | assumption | omega | exact ob_s (by omega) | exact ob_n) (by first | assumption | omega | exact ob_s (by omega) | exact ob_n) (by first | assumption | omega | exact ob_s (by omega) | exact ob_n)) gX4_isBlockedBy_X0_elderPrefers_n41 rfl rfl rfl (by decide +kernel) (by decide +kernel) (by decide +kernel) (by decide +kernel) (by decide +kernel) ⟨Nat.le_of_ble_eq_true rfl, Nat.le_of_ble_eq_true rfl⟩ rfl rfl 0 rfl [2, 4] rfl rfl rfl (Nat.le_of_ble_eq_true rfl) dX4_isBlockedBy_66 ⟨Nat.le_of_ble_eq_true rfl, Nat.le_of_ble_eq_true rfl⟩) ?_
            refine j_ifb_eq (pc := 69) X (B := prE le e b w) (tgt := 76) dX4_isBlockedBy_69 (by decide) (fun c_69 => ?_) (fun c_69 => ?_)
            · skip
              refine j_iconst (pc := 76) X (v := nI 0) dX4_isBlockedBy_76 (by decide) ?_
              exact j_zret (pc := 77) X (rfl) dX4_isBlockedBy_77 ⟨r0 (by first | (simp [blk, c_11, c_20, c_31, c_42, c_58, c_69]; done) | (simp [blk, hw, c_11, c_20, c_31, c_42, c_58, c_69]; done)), rfl⟩
            · skip
              refine j_iconst (pc := 72) X (v := nI 1) dX4_isBlockedBy_72 (by decide) ?_
              refine j_goto (pc := 73) X (tgt := 77) dX4_isBlockedBy_73 (by decide) ?_
              exact j_zret (pc := 77) X (rfl) dX4_isBlockedBy_77 ⟨r1 (by first | (simp [blk, c_11, c_20, c_31, c_42, c_58, c_69]; done) | (simp [blk, hw, c_11, c_20, c_31, c_42, c_58, c_69]; done)), rfl⟩
        · skip
          refine j_iconst (pc := 45) X (v := nI 1) dX4_isBlockedBy_45 (by decide) ?_
          exact j_zret (pc := 46) X (rfl) dX4_isBlockedBy_46 ⟨r1 (by first | (simp [blk, c_11, c_20, c_31, c_42]; done) | (simp [blk, hw, c_11, c_20, c_31, c_42]; done)), rfl⟩
      · skip
        refine j_iconst (pc := 34) X (v := nI 0) dX4_isBlockedBy_34 (by decide) ?_
        exact j_zret (pc := 35) X (rfl) dX4_isBlockedBy_35 ⟨r0 (by first | (simp [blk, c_11, c_20, c_31]; done) | (simp [blk, hw, c_11, c_20, c_31]; done)), rfl⟩

set_option maxHeartbeats 4000000 in
set_option maxRecDepth 100000 in
theorem mX4_countBlocking_L15 (l : Launch) (G : jG) (qp : Nat) (qp0 : Nat) (qp1 : Nat) (gv : Bool) (eb : Nat → Option Nat) (qc : Nat) (qc0 : Nat) (qc1 : Nat) (qc2 : Nat) (qc3 : Nat) (el : Nat) (be : Nat) (pl : Nat → Nat) (le : Nat → Nat) (lb : Nat → Nat) (br : Nat → Bool) (hel : el ≤ 12) (hbe : be ≤ 16) (hle : ∀ k, le k ≤ 100) (hlb : ∀ k, lb k ≤ 100) (hpl : ∀ k, pl k ≤ 4) (heb : ∀ k, ob 12 (eb k)) (κ : jK) (X : CX κ l yX4_countBlocking cX4_countBlocking 5 RX4 wsX4_countBlocking (some .int) ({ frames := 4, cells := 0, slots := 0, locals := 95 }) G (va_A [(qp, .inr (4, [.ref qp0, .ref qp1, .int (b2i gv)])), kI G qp0 16 (oF eb), (qc, .inr (0, [.ref qc0, .ref qc1, .ref qc2, .ref qc3, .int (nI el), .int (nI be)])), kI G qc0 12 (nF pl), kI G qc1 192 (nF le), kI G qc2 192 (nF lb), kZ G qc3 192 (bF br)] (js κ).heap.size)) (no4 : Nat) (hK4 : ∀ (e : Nat) (he : e ≤ el) (_ : el - e < no4), JJ κ 5 G (va_A [(qp, .inr (4, [.ref qp0, .ref qp1, .int (b2i gv)])), kI G qp0 16 (oF eb), (qc, .inr (0, [.ref qc0, .ref qc1, .ref qc2, .ref qc3, .int (nI el), .int (nI be)])), kI G qc0 12 (nF pl), kI G qc1 192 (nF le), kI G qc2 192 (nF lb), kZ G qc3 192 (bF br)] (js κ).heap.size) 0 0 (jQ κ G [(qp, .inr (4, [.ref qp0, .ref qp1, .int (b2i gv)])), kI G qp0 16 (oF eb), (qc, .inr (0, [.ref qc0, .ref qc1, .ref qc2, .ref qc3, .int (nI el), .int (nI be)])), kI G qc0 12 (nF pl), kI G qc1 192 (nF le), kI G qc2 192 (nF lb), kZ G qc3 192 (bF br)] (fun r w' => r = some (.int (nI (cbO pl le lb br eb be el))) ∧ w' = [(qp, .inr (4, [.ref qp0, .ref qp1, .int (b2i gv)])), kI G qp0 16 (oF eb), (qc, .inr (0, [.ref qc0, .ref qc1, .ref qc2, .ref qc3, .int (nI el), .int (nI be)])), kI G qc0 12 (nF pl), kI G qc1 192 (nF le), kI G qc2 192 (nF lb), kZ G qc3 192 (bF br)]) 0 0) 4 [(0, .ref qp), (1, .ref qc), (2, .int (nI (cbO pl le lb br eb be e))), (3, .int (nI e))] [] [(qp, .inr (4, [.ref qp0, .ref qp1, .int (b2i gv)])), kI G qp0 16 (oF eb), (qc, .inr (0, [.ref qc0, .ref qc1, .ref qc2, .ref qc3, .int (nI el), .int (nI be)])), kI G qc0 12 (nF pl), kI G qc1 192 (nF le), kI G qc2 192 (nF lb), kZ G qc3 192 (bF br)])  (e : Nat) (he : e ≤ el) (hm4 : el - e < no4 + 1) : ∀ (fu : Nat) (b : Nat) (hb : b ≤ be) (hee : e < el) (_ : be - b < fu), JJ κ 5 G (va_A [(qp, .inr (4, [.ref qp0, .ref qp1, .int (b2i gv)])), kI G qp0 16 (oF eb), (qc, .inr (0, [.ref qc0, .ref qc1, .ref qc2, .ref qc3, .int (nI el), .int (nI be)])), kI G qc0 12 (nF pl), kI G qc1 192 (nF le), kI G qc2 192 (nF lb), kZ G qc3 192 (bF br)] (js κ).heap.size) 0 0 (jQ κ G [(qp, .inr (4, [.ref qp0, .ref qp1, .int (b2i gv)])), kI G qp0 16 (oF eb), (qc, .inr (0, [.ref qc0, .ref qc1, .ref qc2, .ref qc3, .int (nI el), .int (nI be)])), kI G qc0 12 (nF pl), kI G qc1 192 (nF le), kI G qc2 192 (nF lb), kZ G qc3 192 (bF br)] (fun r w' => r = some (.int (nI (cbO pl le lb br eb be el))) ∧ w' = [(qp, .inr (4, [.ref qp0, .ref qp1, .int (b2i gv)])), kI G qp0 16 (oF eb), (qc, .inr (0, [.ref qc0, .ref qc1, .ref qc2, .ref qc3, .int (nI el), .int (nI be)])), kI G qc0 12 (nF pl), kI G qc1 192 (nF le), kI G qc2 192 (nF lb), kZ G qc3 192 (bF br)]) 0 0) 15 [(0, .ref qp), (1, .ref qc), (2, .int (nI (cbO pl le lb br eb be e + cbI pl le lb br eb be e b))), (3, .int (nI e)), (4, .int (nI b))] [] [(qp, .inr (4, [.ref qp0, .ref qp1, .int (b2i gv)])), kI G qp0 16 (oF eb), (qc, .inr (0, [.ref qc0, .ref qc1, .ref qc2, .ref qc3, .int (nI el), .int (nI be)])), kI G qc0 12 (nF pl), kI G qc1 192 (nF le), kI G qc2 192 (nF lb), kZ G qc3 192 (bF br)] := by
  have i_X0 : ∀ w ∈ wsX00, w ∈ wsX4_countBlocking := by decide +kernel
  have i_X4 : ∀ w ∈ wsX40, w ∈ wsX4_countBlocking := by decide +kernel
  intro fu
  induction fu with
  | zero => intro b hb hee hms; exact absurd hms (Nat.not_lt_zero _)
  | succ fu ih =>
    intro b hb hee hms
    refine j_iload (pc := 15) X dX4_countBlocking_15 4 rfl ?_
    refine j_aload_n (pc := 17) X dX4_countBlocking_17 rfl 1 rfl ?_
    refine j_getN (pc := 18) X 0 i_X0 2 rfl rfl 5 (by decide) (by decide +kernel) rfl dX4_countBlocking_18 ?_
    refine j_icmpN_ge (pc := 21) X (a := b) (b := be) (by omega) (by omega) (tgt := 44) dX4_countBlocking_21 (by decide) (fun c_21 => ?_) (fun c_21 => ?_)
    · skip
      refine j_iinc (pc := 44) X (v := nI (e + 1)) (lv' := [(3, .int (nI (e + 1))), (0, .ref qp), (1, .ref qc), (2, .int (nI (cbO pl le lb br eb be e + cbI pl le lb br eb be e b))), (4, .int (nI b))]) dX4_countBlocking_44 3 rfl (nI_1 _) (by decide) rfl ?_
      refine j_goto (pc := 47) X (tgt := 4) dX4_countBlocking_47 (by decide) ?_
      refine j_lv [1, 2, 3, 0] (lv' := [(0, .ref qp), (1, .ref qc), (2, .int (nI (cbO pl le lb br eb be e + cbI pl le lb br eb be e b))), (3, .int (nI (e + 1)))]) rfl ?_
      refine j_lvq (lv' := [(0, .ref qp), (1, .ref qc), (2, .int (nI (cbO pl le lb br eb be (e + 1)))), (3, .int (nI (e + 1)))]) ?_ ?_
      · first | rfl | (rw [show (cbO pl le lb br eb be e + cbI pl le lb br eb be e b) = cbO pl le lb br eb be (e + 1) from by (rw [show b = be by omega]; rfl)])
      exact hK4 (e + 1) (by omega) (by omega)
    · skip
      refine j_aload_n (pc := 24) X dX4_countBlocking_24 rfl 0 rfl ?_
      refine j_aload_n (pc := 25) X dX4_countBlocking_25 rfl 1 rfl ?_
      refine j_iload_n (pc := 26) X dX4_countBlocking_26 rfl 3 rfl ?_
      refine j_iload (pc := 27) X dX4_countBlocking_27 4 rfl ?_
      refine j_ciP (pc := 29) X [0, 1, 2, 3, 4, 5, 6] rfl (j_rV X (b := qp) (As := [.ref qc, .int (nI e), .int (nI b)]) (ci := 4) (rest := []) 3 (mX4_isBlockedBy l G qp qp0 qp1 gv eb qc qc0 qc1 qc2 qc3 el be pl le lb br e b (by first | assumption | omega | exact ob_s (by omega) | exact ob_n) (by first | assumption | omega | exact ob_s (by omega) | exact ob_n) (by first | assumption | omega | exact ob_s (by omega) | exact ob_n) (by first | assumption | omega | exact ob_s (by omega) | exact ob_n) (by first | assumption | omega | exact ob_s (by omega) | exact ob_n) (by first | assumption | omega | exact ob_s (by omega) | exact ob_n) (by first | assumption | omega | exact ob_s (by omega) | exact ob_n) (by first | assumption | omega | exact ob_s (by omega) | exact ob_n)) gX4_countBlocking_X4_isBlockedBy rfl rfl rfl (by decide +kernel) ⟨Nat.le_of_ble_eq_true rfl, Nat.le_of_ble_eq_true rfl⟩ rfl rfl 0 rfl [0, 1, 2, 3, 4, 5, 6] rfl rfl rfl (Nat.le_of_ble_eq_true rfl) dX4_countBlocking_29 ⟨Nat.le_of_ble_eq_true rfl, Nat.le_of_ble_eq_true rfl⟩) ?_
      refine j_ifb_eq (pc := 32) X (B := blk pl le lb br eb be e b) (tgt := 38) dX4_countBlocking_32 (by decide) (fun c_32 => ?_) (fun c_32 => ?_)
      · skip
        refine j_iinc (pc := 38) X (v := nI (b + 1)) (lv' := [(4, .int (nI (b + 1))), (0, .ref qp), (1, .ref qc), (2, .int (nI (cbO pl le lb br eb be e + cbI pl le lb br eb be e b))), (3, .int (nI e))]) dX4_countBlocking_38 4 rfl (nI_1 _) (by decide) rfl ?_
        refine j_goto (pc := 41) X (tgt := 15) dX4_countBlocking_41 (by decide) ?_
        refine j_lv [1, 2, 3, 4, 0] (lv' := [(0, .ref qp), (1, .ref qc), (2, .int (nI (cbO pl le lb br eb be e + cbI pl le lb br eb be e b))), (3, .int (nI e)), (4, .int (nI (b + 1)))]) rfl ?_
        refine j_lvq (lv' := [(0, .ref qp), (1, .ref qc), (2, .int (nI (cbO pl le lb br eb be e + cbI pl le lb br eb be e (b + 1)))), (3, .int (nI e)), (4, .int (nI (b + 1)))]) ?_ ?_
        · rw [show (cbO pl le lb br eb be e + cbI pl le lb br eb be e b) = cbO pl le lb br eb be e + cbI pl le lb br eb be e (b + 1) from by (simp only [cbI]; simp [c_21, c_32]; try omega)]
        exact ih (b + 1) (by omega) (by omega) (by omega)
      · skip
        refine j_iinc (pc := 35) X (v := nI (cbO pl le lb br eb be e + cbI pl le lb br eb be e b + 1)) (lv' := [(2, .int (nI (cbO pl le lb br eb be e + cbI pl le lb br eb be e b + 1))), (0, .ref qp), (1, .ref qc), (3, .int (nI e)), (4, .int (nI b))]) dX4_countBlocking_35 2 rfl (nI_1 _) (by decide) rfl ?_
        refine j_iinc (pc := 38) X (v := nI (b + 1)) (lv' := [(4, .int (nI (b + 1))), (2, .int (nI (cbO pl le lb br eb be e + cbI pl le lb br eb be e b + 1))), (0, .ref qp), (1, .ref qc), (3, .int (nI e))]) dX4_countBlocking_38 4 rfl (nI_1 _) (by decide) rfl ?_
        refine j_goto (pc := 41) X (tgt := 15) dX4_countBlocking_41 (by decide) ?_
        refine j_lv [2, 3, 1, 4, 0] (lv' := [(0, .ref qp), (1, .ref qc), (2, .int (nI (cbO pl le lb br eb be e + cbI pl le lb br eb be e b + 1))), (3, .int (nI e)), (4, .int (nI (b + 1)))]) rfl ?_
        refine j_lvq (lv' := [(0, .ref qp), (1, .ref qc), (2, .int (nI (cbO pl le lb br eb be e + cbI pl le lb br eb be e (b + 1)))), (3, .int (nI e)), (4, .int (nI (b + 1)))]) ?_ ?_
        · rw [show (cbO pl le lb br eb be e + cbI pl le lb br eb be e b + 1) = cbO pl le lb br eb be e + cbI pl le lb br eb be e (b + 1) from by (simp only [cbI]; simp [c_21, c_32]; try omega)]
        exact ih (b + 1) (by omega) (by omega) (by omega)
set_option maxHeartbeats 4000000 in
set_option maxRecDepth 100000 in
theorem mX4_countBlocking_L4 (l : Launch) (G : jG) (qp : Nat) (qp0 : Nat) (qp1 : Nat) (gv : Bool) (eb : Nat → Option Nat) (qc : Nat) (qc0 : Nat) (qc1 : Nat) (qc2 : Nat) (qc3 : Nat) (el : Nat) (be : Nat) (pl : Nat → Nat) (le : Nat → Nat) (lb : Nat → Nat) (br : Nat → Bool) (hel : el ≤ 12) (hbe : be ≤ 16) (hle : ∀ k, le k ≤ 100) (hlb : ∀ k, lb k ≤ 100) (hpl : ∀ k, pl k ≤ 4) (heb : ∀ k, ob 12 (eb k)) (κ : jK) (X : CX κ l yX4_countBlocking cX4_countBlocking 5 RX4 wsX4_countBlocking (some .int) ({ frames := 4, cells := 0, slots := 0, locals := 95 }) G (va_A [(qp, .inr (4, [.ref qp0, .ref qp1, .int (b2i gv)])), kI G qp0 16 (oF eb), (qc, .inr (0, [.ref qc0, .ref qc1, .ref qc2, .ref qc3, .int (nI el), .int (nI be)])), kI G qc0 12 (nF pl), kI G qc1 192 (nF le), kI G qc2 192 (nF lb), kZ G qc3 192 (bF br)] (js κ).heap.size))    : ∀ (fu : Nat) (e : Nat) (he : e ≤ el) (_ : el - e < fu), JJ κ 5 G (va_A [(qp, .inr (4, [.ref qp0, .ref qp1, .int (b2i gv)])), kI G qp0 16 (oF eb), (qc, .inr (0, [.ref qc0, .ref qc1, .ref qc2, .ref qc3, .int (nI el), .int (nI be)])), kI G qc0 12 (nF pl), kI G qc1 192 (nF le), kI G qc2 192 (nF lb), kZ G qc3 192 (bF br)] (js κ).heap.size) 0 0 (jQ κ G [(qp, .inr (4, [.ref qp0, .ref qp1, .int (b2i gv)])), kI G qp0 16 (oF eb), (qc, .inr (0, [.ref qc0, .ref qc1, .ref qc2, .ref qc3, .int (nI el), .int (nI be)])), kI G qc0 12 (nF pl), kI G qc1 192 (nF le), kI G qc2 192 (nF lb), kZ G qc3 192 (bF br)] (fun r w' => r = some (.int (nI (cbO pl le lb br eb be el))) ∧ w' = [(qp, .inr (4, [.ref qp0, .ref qp1, .int (b2i gv)])), kI G qp0 16 (oF eb), (qc, .inr (0, [.ref qc0, .ref qc1, .ref qc2, .ref qc3, .int (nI el), .int (nI be)])), kI G qc0 12 (nF pl), kI G qc1 192 (nF le), kI G qc2 192 (nF lb), kZ G qc3 192 (bF br)]) 0 0) 4 [(0, .ref qp), (1, .ref qc), (2, .int (nI (cbO pl le lb br eb be e))), (3, .int (nI e))] [] [(qp, .inr (4, [.ref qp0, .ref qp1, .int (b2i gv)])), kI G qp0 16 (oF eb), (qc, .inr (0, [.ref qc0, .ref qc1, .ref qc2, .ref qc3, .int (nI el), .int (nI be)])), kI G qc0 12 (nF pl), kI G qc1 192 (nF le), kI G qc2 192 (nF lb), kZ G qc3 192 (bF br)] := by
  have i_X0 : ∀ w ∈ wsX00, w ∈ wsX4_countBlocking := by decide +kernel
  have i_X4 : ∀ w ∈ wsX40, w ∈ wsX4_countBlocking := by decide +kernel
  intro fu
  induction fu with
  | zero => intro e he hms; exact absurd hms (Nat.not_lt_zero _)
  | succ fu ih =>
    intro e he hms
    refine j_iload_n (pc := 4) X dX4_countBlocking_4 rfl 3 rfl ?_
    refine j_aload_n (pc := 5) X dX4_countBlocking_5 rfl 1 rfl ?_
    refine j_getN (pc := 6) X 0 i_X0 2 rfl rfl 4 (by decide) (by decide +kernel) rfl dX4_countBlocking_6 ?_
    refine j_icmpN_ge (pc := 9) X (a := e) (b := el) (by omega) (by omega) (tgt := 50) dX4_countBlocking_9 (by decide) (fun c_9 => ?_) (fun c_9 => ?_)
    · skip
      refine j_iload_n (pc := 50) X dX4_countBlocking_50 rfl 2 rfl ?_
      exact j_iret (pc := 51) X dX4_countBlocking_51 ⟨by rw [show e = el by omega], rfl⟩
    · skip
      refine j_iconst (pc := 12) X (v := nI 0) dX4_countBlocking_12 (by decide) ?_
      refine j_istore (pc := 13) X (lv' := [(4, .int (nI 0)), (0, .ref qp), (1, .ref qc), (2, .int (nI (cbO pl le lb br eb be e))), (3, .int (nI e))]) dX4_countBlocking_13 (by decide) rfl ?_
      refine j_lv [1, 2, 3, 4, 0] (lv' := [(0, .ref qp), (1, .ref qc), (2, .int (nI (cbO pl le lb br eb be e))), (3, .int (nI e)), (4, .int (nI 0))]) rfl ?_
      refine j_lvq (lv' := [(0, .ref qp), (1, .ref qc), (2, .int (nI (cbO pl le lb br eb be e + cbI pl le lb br eb be e 0))), (3, .int (nI e)), (4, .int (nI 0))]) ?_ ?_
      · first | rfl | (rw [show (cbO pl le lb br eb be e) = cbO pl le lb br eb be e + cbI pl le lb br eb be e 0 from by (simp only [cbI]; simp [c_9]; try omega)])
      exact mX4_countBlocking_L15 l G qp qp0 qp1 gv eb qc qc0 qc1 qc2 qc3 el be pl le lb br hel hbe hle hlb hpl heb κ X fu ih e he hms (be - 0 + 1) 0 (by omega) (by omega) (Nat.lt_succ_self _)
set_option maxHeartbeats 4000000 in
set_option maxRecDepth 100000 in
theorem mX4_countBlocking (l : Launch) (G : jG) (qp : Nat) (qp0 : Nat) (qp1 : Nat) (gv : Bool) (eb : Nat → Option Nat) (qc : Nat) (qc0 : Nat) (qc1 : Nat) (qc2 : Nat) (qc3 : Nat) (el : Nat) (be : Nat) (pl : Nat → Nat) (le : Nat → Nat) (lb : Nat → Nat) (br : Nat → Bool) (hel : el ≤ 12) (hbe : be ≤ 16) (hle : ∀ k, le k ≤ 100) (hlb : ∀ k, lb k ≤ 100) (hpl : ∀ k, pl k ≤ 4) (heb : ∀ k, ob 12 (eb k)) : MV l yX4_countBlocking wsX4_countBlocking ({ frames := 4, cells := 0, slots := 0, locals := 95 }) G [.ref qp, .ref qc] [(qp, .inr (4, [.ref qp0, .ref qp1, .int (b2i gv)])), kI G qp0 16 (oF eb), (qc, .inr (0, [.ref qc0, .ref qc1, .ref qc2, .ref qc3, .int (nI el), .int (nI be)])), kI G qc0 12 (nF pl), kI G qc1 192 (nF le), kI G qc2 192 (nF lb), kZ G qc3 192 (bF br)] (some (.int (nI (cbO pl le lb br eb be el)))) [(qp, .inr (4, [.ref qp0, .ref qp1, .int (b2i gv)])), kI G qp0 16 (oF eb), (qc, .inr (0, [.ref qc0, .ref qc1, .ref qc2, .ref qc3, .int (nI el), .int (nI be)])), kI G qc0 12 (nF pl), kI G qc1 192 (nF le), kI G qc2 192 (nF lb), kZ G qc3 192 (bF br)] := by
  refine MF.ofJ (cc := cX4_countBlocking) (maxL := 5) (ret := (some .int)) (own := RX4) (lv := [(0, .ref qp), (1, .ref qc)]) (by decide) rfl rfl (Nat.le_of_ble_eq_true rfl) rfl ?_
  intro κ X
  have i_X0 : ∀ w ∈ wsX00, w ∈ wsX4_countBlocking := by decide +kernel
  have i_X4 : ∀ w ∈ wsX40, w ∈ wsX4_countBlocking := by decide +kernel
  refine j_iconst (pc := 0) X (v := nI 0) dX4_countBlocking_0 (by decide) ?_
  refine j_istore_n (pc := 1) X (lv' := [(2, .int (nI 0)), (0, .ref qp), (1, .ref qc)]) dX4_countBlocking_1 rfl (by decide) rfl ?_
  refine j_iconst (pc := 2) X (v := nI 0) dX4_countBlocking_2 (by decide) ?_
  refine j_istore_n (pc := 3) X (lv' := [(3, .int (nI 0)), (2, .int (nI 0)), (0, .ref qp), (1, .ref qc)]) dX4_countBlocking_3 rfl (by decide) rfl ?_
  refine j_lv [2, 3, 1, 0] (lv' := [(0, .ref qp), (1, .ref qc), (2, .int (nI 0)), (3, .int (nI 0))]) rfl ?_
  refine j_lvq (lv' := [(0, .ref qp), (1, .ref qc), (2, .int (nI (cbO pl le lb br eb be 0))), (3, .int (nI 0))]) ?_ ?_
  · first | rfl | (rw [show (0) = cbO pl le lb br eb be 0 from by (rw [show b = be by omega]; rfl)])
  exact mX4_countBlocking_L4 l G qp qp0 qp1 gv eb qc qc0 qc1 qc2 qc3 el be pl le lb br hel hbe hle hlb hpl heb κ X    (el - 0 + 1) 0 (by omega) (Nat.lt_succ_self _)

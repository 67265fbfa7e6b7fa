set_option maxHeartbeats 4000000 in
set_option maxRecDepth 100000 in
theorem mX5_mayMove (l : Launch) (G : jG) (qp : Nat) (qp0 : Nat) (qp1 : Nat) (gv : Bool) (eb : Nat → Option Nat) (qc : Nat) (qc0 : Nat) (qc1 : Nat) (qc2 : Nat) (qc3 : Nat) (el : Nat) (be : Nat) (le : Nat → Nat) (lb : Nat → Nat) (br : Nat → Bool) (m : Nat) (e : Nat) (hle : ∀ k, le k ≤ 100) (hlb : ∀ k, lb k ≤ 100) (heb : ∀ k, ob 12 (eb k)) (hm : m < 16) (he : e < 12) : MV l yX5_mayMove wsX5_mayMove ({ frames := 2, cells := 0, slots := 0, locals := 44 }) G [.ref qc, .ref qp, .int (nI m), .int (nI e)] [(qp, .inr (4, [.ref qp0, .ref qp1, .int (b2i gv)])), kI G qp0 16 (oF eb), (qc, .inr (0, [.ref qc0, .ref qc1, .ref qc2, .ref qc3, .int (nI el), .int (nI be)])), kI G qc1 192 (nF le), kI G qc2 192 (nF lb), kZ G qc3 192 (bF br)] (some (.int (b2i (mayM le lb br eb m e)))) [(qp, .inr (4, [.ref qp0, .ref qp1, .int (b2i gv)])), kI G qp0 16 (oF eb), (qc, .inr (0, [.ref qc0, .ref qc1, .ref qc2, .ref qc3, .int (nI el), .int (nI be)])), kI G qc1 192 (nF le), kI G qc2 192 (nF lb), kZ G qc3 192 (bF br)] := by
  refine MF.ofJ (cc := cX5_mayMove) (maxL := 4) (ret := (some .boolean)) (own := RX5) (lv := [(0, .ref qc), (1, .ref qp), (2, .int (nI m)), (3, .int (nI e))]) (by decide) rfl rfl (Nat.le_of_ble_eq_true rfl) rfl ?_
  intro κ X
  have i_X0 : ∀ w ∈ wsX00, w ∈ wsX5_mayMove := by decide +kernel
  have i_X4 : ∀ w ∈ wsX40, w ∈ wsX5_mayMove := by decide +kernel
  refine j_iload_n (pc := 0) X dX5_mayMove_0 rfl 3 rfl ?_
  refine j_aload_n (pc := 1) X dX5_mayMove_1 rfl 1 rfl ?_
  refine j_getN (pc := 2) X 4 i_X4 0 rfl rfl 0 (by decide) (by decide +kernel) rfl dX5_mayMove_2 ?_
  refine j_iload_n (pc := 5) X dX5_mayMove_5 rfl 2 rfl ?_
  refine j_iald (pc := 6) X 1 rfl (vp_in_nI (by omega) (by decide)) (v := oI (eb m)) (congrArg (oF eb) (nI_clamp (by omega))) dX5_mayMove_6 ?_
  refine j_icmpO_eq (pc := 7) X (a := (some e)) (b := (eb m)) (by first | exact ob_n | exact ob_s (by omega) | exact (heb _).big (by decide)) (by first | exact ob_n | exact ob_s (by omega) | exact (heb _).big (by decide)) (tgt := 23) dX5_mayMove_7 (by decide) (fun c_7 => ?_) (fun c_7 => ?_)
  · skip
    refine j_iconst (pc := 23) X (v := nI 0) dX5_mayMove_23 (by decide) ?_
    exact j_zret (pc := 24) X (rfl) dX5_mayMove_24 ⟨r0 (by simp [mayM, c_7]), rfl⟩
  · skip
    refine j_aload_n (pc := 10) X dX5_mayMove_10 rfl 0 rfl ?_
    refine j_iload_n (pc := 11) X dX5_mayMove_11 rfl 3 rfl ?_
    refine j_iload_n (pc := 12) X dX5_mayMove_12 rfl 2 rfl ?_
    refine j_ciP (pc := 13) X [2, 3, 4, 5] rfl (j_rVN X (b := qc) (As := [.int (nI e), .int (nI m)]) (ci := 0) (rest := []) 2 (mX0_canPair l G qc qc0 qc1 qc2 qc3 el be le lb br e m (by first | assumption | omega | exact ob_s (by omega) | exact ob_n) (by first | assumption | omega | exact ob_s (by omega) | exact ob_n) (by first | assumption | omega | exact ob_s (by omega) | exact ob_n) (by first | assumption | omega | exact ob_s (by omega) | exact ob_n)) gX5_mayMove_X0_canPair_n47 rfl rfl rfl (by decide +kernel) (by decide +kernel) (by decide +kernel) (by decide +kernel) (by decide +kernel) ⟨Nat.le_of_ble_eq_true rfl, Nat.le_of_ble_eq_true rfl⟩ rfl rfl 0 rfl [2, 3, 4, 5] rfl rfl rfl (Nat.le_of_ble_eq_true rfl) dX5_mayMove_13 ⟨Nat.le_of_ble_eq_true rfl, Nat.le_of_ble_eq_true rfl⟩) ?_
    refine j_ifb_eq (pc := 16) X (B := canB le lb br e m) (tgt := 23) dX5_mayMove_16 (by decide) (fun c_16 => ?_) (fun c_16 => ?_)
    · skip
      refine j_iconst (pc := 23) X (v := nI 0) dX5_mayMove_23 (by decide) ?_
      exact j_zret (pc := 24) X (rfl) dX5_mayMove_24 ⟨r0 (by simp [mayM, c_7, c_16]), rfl⟩
    · skip
      refine j_iconst (pc := 19) X (v := nI 1) dX5_mayMove_19 (by decide) ?_
      refine j_goto (pc := 20) X (tgt := 24) dX5_mayMove_20 (by decide) ?_
      exact j_zret (pc := 24) X (rfl) dX5_mayMove_24 ⟨r1 (by simp [mayM, c_7, c_16]), rfl⟩

set_option maxHeartbeats 4000000 in
set_option maxRecDepth 100000 in
theorem mX5_isFree (l : Launch) (G : jG) (qr : Nat) (qr0 : Nat) (qr1 : Nat) (qd : Nat) (f0 : Nat) (fe : Option Nat) (qp : Nat) (qp0 : Nat) (qp1 : Nat) (gv : Bool) (eb : Nat → Option Nat) (qc : Nat) (qc0 : Nat) (qc1 : Nat) (qc2 : Nat) (qc3 : Nat) (el : Nat) (be : Nat) (pl : Nat → Nat) (e : Nat) (heb : ∀ k, ob 12 (eb k)) (hpl : ∀ k, pl k ≤ 4) (hf : f0 < 16) (he : e < 12) : MV l yX5_isFree wsX5_isFree ({ frames := 1, cells := 0, slots := 0, locals := 23 }) G [.ref qr, .ref qc, .ref qp, .int (nI e)] [(qr, .inr (5, [.ref qr0, .ref qr1, .int (nI qd), .int (oI (some f0)), .int (oI fe)])), (qp, .inr (4, [.ref qp0, .ref qp1, .int (b2i gv)])), kI G qp0 16 (oF eb), (qc, .inr (0, [.ref qc0, .ref qc1, .ref qc2, .ref qc3, .int (nI el), .int (nI be)])), kI G qc0 12 (nF pl)] (some (.int (b2i (frB pl eb f0 e)))) [(qr, .inr (5, [.ref qr0, .ref qr1, .int (nI qd), .int (oI (some f0)), .int (oI fe)])), (qp, .inr (4, [.ref qp0, .ref qp1, .int (b2i gv)])), kI G qp0 16 (oF eb), (qc, .inr (0, [.ref qc0, .ref qc1, .ref qc2, .ref qc3, .int (nI el), .int (nI be)])), kI G qc0 12 (nF pl)] := by
  refine MF.ofJ (cc := cX5_isFree) (maxL := 5) (ret := (some .boolean)) (own := RX5) (lv := [(0, .ref qr), (1, .ref qc), (2, .ref qp), (3, .int (nI e))]) (by decide) rfl rfl (Nat.le_of_ble_eq_true rfl) rfl ?_
  intro κ X
  have i_X0 : ∀ w ∈ wsX00, w ∈ wsX5_isFree := by decide +kernel
  have i_X4 : ∀ w ∈ wsX40, w ∈ wsX5_isFree := by decide +kernel
  have i_X5 : ∀ w ∈ wsX50, w ∈ wsX5_isFree := by decide +kernel
  refine j_aload_n (pc := 0) X dX5_isFree_0 rfl 2 rfl ?_
  refine j_getN (pc := 1) X 4 i_X4 1 rfl rfl 0 (by decide) (by decide +kernel) rfl dX5_isFree_1 ?_
  refine j_aload_n (pc := 4) X dX5_isFree_4 rfl 0 rfl ?_
  refine j_get (pc := 5) X 5 i_X5 0 rfl rfl 3 (by decide) (by decide +kernel) rfl dX5_isFree_5 ?_
  refine j_iald (pc := 8) X 2 rfl (vp_in_nI (by omega) (by decide)) (v := oI (eb f0)) (congrArg (oF eb) (nI_clamp (by omega))) dX5_isFree_8 ?_
  refine j_iload_n (pc := 9) X dX5_isFree_9 rfl 3 rfl ?_
  refine j_icmpO_ne (pc := 10) X (a := (eb f0)) (b := (some e)) (by first | exact ob_n | exact ob_s (by omega) | exact (heb _).big (by decide)) (by first | exact ob_n | exact ob_s (by omega) | exact (heb _).big (by decide)) (tgt := 17) dX5_isFree_10 (by decide) (fun c_10 => ?_) (fun c_10 => ?_)
  · skip
    refine j_iconst (pc := 17) X (v := nI 0) dX5_isFree_17 (by decide) ?_
    refine j_istore (pc := 18) X (lv' := [(4, .int (nI 0)), (0, .ref qr), (1, .ref qc), (2, .ref qp), (3, .int (nI e))]) dX5_isFree_18 (by decide) rfl ?_
    refine j_aload_n (pc := 20) X dX5_isFree_20 rfl 3 rfl ?_
    refine j_iload_n (pc := 21) X dX5_isFree_21 rfl 4 rfl ?_
    refine j_ciP (pc := 22) X [1, 2] rfl (j_rVN X (b := qp) (As := [.int (nI e)]) (ci := 4) (rest := []) 1 (mX4_countOf l G qp qp0 qp1 gv eb e (by first | assumption | omega | exact ob_s (by omega) | exact ob_n) (by first | assumption | omega | exact ob_s (by omega) | exact ob_n)) gX5_isFree_X4_countOf_n64 rfl rfl rfl (by decide +kernel) (by decide +kernel) (by decide +kernel) (by decide +kernel) (by decide +kernel) ⟨Nat.le_of_ble_eq_true rfl, Nat.le_of_ble_eq_true rfl⟩ rfl rfl 0 rfl [1, 2] rfl rfl rfl (Nat.le_of_ble_eq_true rfl) dX5_isFree_22 ⟨Nat.le_of_ble_eq_true rfl, Nat.le_of_ble_eq_true rfl⟩) ?_
    refine j_iload (pc := 25) X dX5_isFree_25 0 rfl ?_
    refine j_isub (pc := 27) X dX5_isFree_27 ?_
    refine j_topi (z := nI (cntO eb e 16 - 0)) (pk_sub (by first | omega | (have h1 := cntO_pos c_10 16 hf; omega))) ?_
    refine j_aload_n (pc := 28) X dX5_isFree_28 rfl 2 rfl ?_
    refine j_getN (pc := 29) X 0 i_X0 3 rfl rfl 0 (by decide) (by decide +kernel) rfl dX5_isFree_29 ?_
    refine j_iload_n (pc := 32) X dX5_isFree_32 rfl 4 rfl ?_
    refine j_iald (pc := 33) X 4 rfl (vp_in_nI (by omega) (by decide)) (v := nI (pl e)) (congrArg (nF pl) (nI_clamp (by omega))) dX5_isFree_33 ?_
    refine j_icmpN_ge (pc := 34) X (a := (cntO eb e 16 - 0)) (b := (pl e)) (by first | omega | (have h1 := cntO_le eb e 16; omega) | exact Nat.lt_of_le_of_lt (hpl _) (by decide)) (by first | omega | (have h1 := cntO_le eb e 16; omega) | exact Nat.lt_of_le_of_lt (hpl _) (by decide)) (tgt := 41) dX5_isFree_34 (by decide) (fun c_34 => ?_) (fun c_34 => ?_)
    · skip
      refine j_iconst (pc := 41) X (v := nI 0) dX5_isFree_41 (by decide) ?_
      exact j_zret (pc := 42) X (rfl) dX5_isFree_42 ⟨r0 (by first | (simp [frB, c_10, c_34]; done) | (simp [frB, c_10, c_34]; omega)), rfl⟩
    · skip
      refine j_iconst (pc := 37) X (v := nI 1) dX5_isFree_37 (by decide) ?_
      refine j_goto (pc := 38) X (tgt := 42) dX5_isFree_38 (by decide) ?_
      exact j_zret (pc := 42) X (rfl) dX5_isFree_42 ⟨r1 (by first | (simp [frB, c_10, c_34]; done) | (simp [frB, c_10, c_34]; omega)), rfl⟩
  · skip
    refine j_iconst (pc := 13) X (v := nI 1) dX5_isFree_13 (by decide) ?_
    refine j_goto (pc := 14) X (tgt := 18) dX5_isFree_14 (by decide) ?_
    refine j_istore (pc := 18) X (lv' := [(4, .int (nI 1)), (0, .ref qr), (1, .ref qc), (2, .ref qp), (3, .int (nI e))]) dX5_isFree_18 (by decide) rfl ?_
    refine j_aload_n (pc := 20) X dX5_isFree_20 rfl 3 rfl ?_
    refine j_iload_n (pc := 21) X dX5_isFree_21 rfl 4 rfl ?_
    refine j_ciP (pc := 22) X [1, 2] rfl (j_rVN X (b := qp) (As := [.int (nI e)]) (ci := 4) (rest := []) 1 (mX4_countOf l G qp qp0 qp1 gv eb e (by first | assumption | omega | exact ob_s (by omega) | exact ob_n) (by first | assumption | omega | exact ob_s (by omega) | exact ob_n)) gX5_isFree_X4_countOf_n64 rfl rfl rfl (by decide +kernel) (by decide +kernel) (by decide +kernel) (by decide +kernel) (by decide +kernel) ⟨Nat.le_of_ble_eq_true rfl, Nat.le_of_ble_eq_true rfl⟩ rfl rfl 0 rfl [1, 2] rfl rfl rfl (Nat.le_of_ble_eq_true rfl) dX5_isFree_22 ⟨Nat.le_of_ble_eq_true rfl, Nat.le_of_ble_eq_true rfl⟩) ?_
    refine j_iload (pc := 25) X dX5_isFree_25 0 rfl ?_
    refine j_isub (pc := 27) X dX5_isFree_27 ?_
    refine j_topi (z := nI (cntO eb e 16 - 1)) (pk_sub (by first | omega | (have h1 := cntO_pos c_10 16 hf; omega))) ?_
    refine j_aload_n (pc := 28) X dX5_isFree_28 rfl 2 rfl ?_
    refine j_getN (pc := 29) X 0 i_X0 3 rfl rfl 0 (by decide) (by decide +kernel) rfl dX5_isFree_29 ?_
    refine j_iload_n (pc := 32) X dX5_isFree_32 rfl 4 rfl ?_
    refine j_iald (pc := 33) X 4 rfl (vp_in_nI (by omega) (by decide)) (v := nI (pl e)) (congrArg (nF pl) (nI_clamp (by omega))) dX5_isFree_33 ?_
    refine j_icmpN_ge (pc := 34) X (a := (cntO eb e 16 - 1)) (b := (pl e)) (by first | omega | (have h1 := cntO_le eb e 16; omega) | exact Nat.lt_of_le_of_lt (hpl _) (by decide)) (by first | omega | (have h1 := cntO_le eb e 16; omega) | exact Nat.lt_of_le_of_lt (hpl _) (by decide)) (tgt := 41) dX5_isFree_34 (by decide) (fun c_34 => ?_) (fun c_34 => ?_)
    · skip
      refine j_iconst (pc := 41) X (v := nI 0) dX5_isFree_41 (by decide) ?_
      exact j_zret (pc := 42) X (rfl) dX5_isFree_42 ⟨r0 (by first | (simp [frB, c_10, c_34]; done) | (simp [frB, c_10, c_34]; omega)), rfl⟩
    · skip
      refine j_iconst (pc := 37) X (v := nI 1) dX5_isFree_37 (by decide) ?_
      refine j_goto (pc := 38) X (tgt := 42) dX5_isFree_38 (by decide) ?_
      exact j_zret (pc := 42) X (rfl) dX5_isFree_42 ⟨r1 (by first | (simp [frB, c_10, c_34]; done) | (simp [frB, c_10, c_34]; omega)), rfl⟩

set_option maxHeartbeats 4000000 in
set_option maxRecDepth 100000 in
theorem mX5_freeElderFor_L3 (l : Launch) (G : jG) (qr : Nat) (qr0 : Nat) (qr1 : Nat) (qd : Nat) (f0 : Nat) (fe : Option Nat) (qp : Nat) (qp0 : Nat) (qp1 : Nat) (gv : Bool) (eb : Nat → Option Nat) (qc : Nat) (qc0 : Nat) (qc1 : Nat) (qc2 : Nat) (qc3 : Nat) (el : Nat) (be : Nat) (pl : Nat → Nat) (le : Nat → Nat) (lb : Nat → Nat) (br : Nat → Bool) (m : Nat) (hel : el ≤ 12) (hle : ∀ k, le k ≤ 100) (hlb : ∀ k, lb k ≤ 100) (hpl : ∀ k, pl k ≤ 4) (heb : ∀ k, ob 12 (eb k)) (hf : f0 < 16) (hm : m < 16) (κ : jK) (X : CX κ l yX5_freeElderFor cX5_freeElderFor 5 RX5 wsX5_freeElderFor (some .int) ({ frames := 3, cells := 0, slots := 0, locals := 67 }) G (va_A [(qr, .inr (5, [.ref qr0, .ref qr1, .int (nI qd), .int (oI (some f0)), .int (oI fe)])), (qp, .inr (4, [.ref qp0, .ref qp1, .int (b2i gv)])), kI G qp0 16 (oF eb), (qc, .inr (0, [.ref qc0, .ref qc1, .ref qc2, .ref qc3, .int (nI el), .int (nI be)])), kI G qc0 12 (nF pl), kI G qc1 192 (nF le), kI G qc2 192 (nF lb), kZ G qc3 192 (bF br)] (js κ).heap.size))    : ∀ (fu : Nat) (e : Nat) (he : e ≤ el) (hff : ffn (fun e => mayM le lb br eb m e && frB pl eb f0 e) e = none) (_ : el - e < fu), JJ κ 5 G (va_A [(qr, .inr (5, [.ref qr0, .ref qr1, .int (nI qd), .int (oI (some f0)), .int (oI fe)])), (qp, .inr (4, [.ref qp0, .ref qp1, .int (b2i gv)])), kI G qp0 16 (oF eb), (qc, .inr (0, [.ref qc0, .ref qc1, .ref qc2, .ref qc3, .int (nI el), .int (nI be)])), kI G qc0 12 (nF pl), kI G qc1 192 (nF le), kI G qc2 192 (nF lb), kZ G qc3 192 (bF br)] (js κ).heap.size) 0 0 (jQ κ G [(qr, .inr (5, [.ref qr0, .ref qr1, .int (nI qd), .int (oI (some f0)), .int (oI fe)])), (qp, .inr (4, [.ref qp0, .ref qp1, .int (b2i gv)])), kI G qp0 16 (oF eb), (qc, .inr (0, [.ref qc0, .ref qc1, .ref qc2, .ref qc3, .int (nI el), .int (nI be)])), kI G qc0 12 (nF pl), kI G qc1 192 (nF le), kI G qc2 192 (nF lb), kZ G qc3 192 (bF br)] (fun r w' => r = some (.int (oI (freeE pl le lb br eb f0 el m))) ∧ w' = [(qr, .inr (5, [.ref qr0, .ref qr1, .int (nI qd), .int (oI (some f0)), .int (oI fe)])), (qp, .inr (4, [.ref qp0, .ref qp1, .int (b2i gv)])), kI G qp0 16 (oF eb), (qc, .inr (0, [.ref qc0, .ref qc1, .ref qc2, .ref qc3, .int (nI el), .int (nI be)])), kI G qc0 12 (nF pl), kI G qc1 192 (nF le), kI G qc2 192 (nF lb), kZ G qc3 192 (bF br)]) 0 0) 3 [(0, .ref qr), (1, .ref qc), (2, .ref qp), (3, .int (nI m)), (4, .int (nI e))] [] [(qr, .inr (5, [.ref qr0, .ref qr1, .int (nI qd), .int (oI (some f0)), .int (oI fe)])), (qp, .inr (4, [.ref qp0, .ref qp1, .int (b2i gv)])), kI G qp0 16 (oF eb), (qc, .inr (0, [.ref qc0, .ref qc1, .ref qc2, .ref qc3, .int (nI el), .int (nI be)])), kI G qc0 12 (nF pl), kI G qc1 192 (nF le), kI G qc2 192 (nF lb), kZ G qc3 192 (bF br)] := by
  have i_X0 : ∀ w ∈ wsX00, w ∈ wsX5_freeElderFor := by decide +kernel
  have i_X4 : ∀ w ∈ wsX40, w ∈ wsX5_freeElderFor := by decide +kernel
  have i_X5 : ∀ w ∈ wsX50, w ∈ wsX5_freeElderFor := by decide +kernel
  intro fu
  induction fu with
  | zero => intro e he hff hms; exact absurd hms (Nat.not_lt_zero _)
  | succ fu ih =>
    intro e he hff hms
    refine j_iload (pc := 3) X dX5_freeElderFor_3 4 rfl ?_
    refine j_aload_n (pc := 5) X dX5_freeElderFor_5 rfl 1 rfl ?_
    refine j_getN (pc := 6) X 0 i_X0 3 rfl rfl 4 (by decide) (by decide +kernel) rfl dX5_freeElderFor_6 ?_
    refine j_icmpN_ge (pc := 9) X (a := e) (b := el) (by omega) (by omega) (tgt := 43) dX5_freeElderFor_9 (by decide) (fun c_9 => ?_) (fun c_9 => ?_)
    · skip
      refine j_iconst (pc := 43) X (v := oI none) dX5_freeElderFor_43 (by decide) ?_
      exact j_iret (pc := 44) X dX5_freeElderFor_44 ⟨by rw [freeE, show el = e by omega, hff], rfl⟩
    · skip
      refine j_aload_n (pc := 12) X dX5_freeElderFor_12 rfl 1 rfl ?_
      refine j_aload_n (pc := 13) X dX5_freeElderFor_13 rfl 2 rfl ?_
      refine j_iload_n (pc := 14) X dX5_freeElderFor_14 rfl 3 rfl ?_
      refine j_iload (pc := 15) X dX5_freeElderFor_15 4 rfl ?_
      refine j_ciP (pc := 17) X [1, 2, 3, 5, 6, 7] rfl (j_rS X (As := [.ref qc, .ref qp, .int (nI m), .int (nI e)]) (rest := []) 4 (mX5_mayMove l G qp qp0 qp1 gv eb qc qc0 qc1 qc2 qc3 el be le lb br m e (by first | assumption | omega | exact ob_s (by omega) | exact ob_n) (by first | assumption | omega | exact ob_s (by omega) | exact ob_n) (by first | assumption | omega | exact ob_s (by omega) | exact ob_n) (by first | assumption | omega | exact ob_s (by omega) | exact ob_n) (by first | assumption | omega | exact ob_s (by omega) | exact ob_n)) gX5_freeElderFor_X5_mayMove rfl rfl rfl (by decide +kernel) ⟨Nat.le_of_ble_eq_true rfl, Nat.le_of_ble_eq_true rfl⟩ rfl [1, 2, 3, 5, 6, 7] rfl rfl rfl (Nat.le_of_ble_eq_true rfl) dX5_freeElderFor_17 ⟨Nat.le_of_ble_eq_true rfl, Nat.le_of_ble_eq_true rfl⟩) ?_
      refine j_ifb_eq (pc := 20) X (B := mayM le lb br eb m e) (tgt := 37) dX5_freeElderFor_20 (by decide) (fun c_20 => ?_) (fun c_20 => ?_)
      · skip
        refine j_iinc (pc := 37) X (v := nI (e + 1)) (lv' := [(4, .int (nI (e + 1))), (0, .ref qr), (1, .ref qc), (2, .ref qp), (3, .int (nI m))]) dX5_freeElderFor_37 4 rfl (nI_1 _) (by decide) rfl ?_
        refine j_goto (pc := 40) X (tgt := 3) dX5_freeElderFor_40 (by decide) ?_
        refine j_lv [1, 2, 3, 4, 0] (lv' := [(0, .ref qr), (1, .ref qc), (2, .ref qp), (3, .int (nI m)), (4, .int (nI (e + 1)))]) rfl ?_
        exact ih (e + 1) (by omega) (by simp [ffn, hff, c_9, c_20]) (by omega)
      · skip
        refine j_aload_n (pc := 23) X dX5_freeElderFor_23 rfl 0 rfl ?_
        refine j_aload_n (pc := 24) X dX5_freeElderFor_24 rfl 1 rfl ?_
        refine j_aload_n (pc := 25) X dX5_freeElderFor_25 rfl 2 rfl ?_
        refine j_iload (pc := 26) X dX5_freeElderFor_26 4 rfl ?_
        refine j_ciP (pc := 28) X [0, 1, 2, 3, 4] rfl (j_rV X (b := qr) (As := [.ref qc, .ref qp, .int (nI e)]) (ci := 5) (rest := []) 3 (mX5_isFree l G qr qr0 qr1 qd f0 fe qp qp0 qp1 gv eb qc qc0 qc1 qc2 qc3 el be pl e (by first | assumption | omega | exact ob_s (by omega) | exact ob_n) (by first | assumption | omega | exact ob_s (by omega) | exact ob_n) (by first | assumption | omega | exact ob_s (by omega) | exact ob_n) (by first | assumption | omega | exact ob_s (by omega) | exact ob_n)) gX5_freeElderFor_X5_isFree rfl rfl rfl (by decide +kernel) ⟨Nat.le_of_ble_eq_true rfl, Nat.le_of_ble_eq_true rfl⟩ rfl rfl 0 rfl [0, 1, 2, 3, 4] rfl rfl rfl (Nat.le_of_ble_eq_true rfl) dX5_freeElderFor_28 ⟨Nat.le_of_ble_eq_true rfl, Nat.le_of_ble_eq_true rfl⟩) ?_
        refine j_ifb_eq (pc := 31) X (B := frB pl eb f0 e) (tgt := 37) dX5_freeElderFor_31 (by decide) (fun c_31 => ?_) (fun c_31 => ?_)
        · skip
          refine j_iinc (pc := 37) X (v := nI (e + 1)) (lv' := [(4, .int (nI (e + 1))), (0, .ref qr), (1, .ref qc), (2, .ref qp), (3, .int (nI m))]) dX5_freeElderFor_37 4 rfl (nI_1 _) (by decide) rfl ?_
          refine j_goto (pc := 40) X (tgt := 3) dX5_freeElderFor_40 (by decide) ?_
          refine j_lv [1, 2, 3, 4, 0] (lv' := [(0, .ref qr), (1, .ref qc), (2, .ref qp), (3, .int (nI m)), (4, .int (nI (e + 1)))]) rfl ?_
          exact ih (e + 1) (by omega) (by simp [ffn, hff, c_9, c_20, c_31]) (by omega)
        · skip
          refine j_iload (pc := 34) X dX5_freeElderFor_34 4 rfl ?_
          exact j_iret (pc := 36) X dX5_freeElderFor_36 ⟨by (show some (Value.int (oI (some e))) = _; rw [freeE, ffn_at hff (by simp [c_9, c_20, c_31]) el (by omega)]), rfl⟩
set_option maxHeartbeats 4000000 in
set_option maxRecDepth 100000 in
theorem mX5_freeElderFor (l : Launch) (G : jG) (qr : Nat) (qr0 : Nat) (qr1 : Nat) (qd : Nat) (f0 : Nat) (fe : Option Nat) (qp : Nat) (qp0 : Nat) (qp1 : Nat) (gv : Bool) (eb : Nat → Option Nat) (qc : Nat) (qc0 : Nat) (qc1 : Nat) (qc2 : Nat) (qc3 : Nat) (el : Nat) (be : Nat) (pl : Nat → Nat) (le : Nat → Nat) (lb : Nat → Nat) (br : Nat → Bool) (m : Nat) (hel : el ≤ 12) (hle : ∀ k, le k ≤ 100) (hlb : ∀ k, lb k ≤ 100) (hpl : ∀ k, pl k ≤ 4) (heb : ∀ k, ob 12 (eb k)) (hf : f0 < 16) (hm : m < 16) : MV l yX5_freeElderFor wsX5_freeElderFor ({ frames := 3, cells := 0, slots := 0, locals := 67 }) G [.ref qr, .ref qc, .ref qp, .int (nI m)] [(qr, .inr (5, [.ref qr0, .ref qr1, .int (nI qd), .int (oI (some f0)), .int (oI fe)])), (qp, .inr (4, [.ref qp0, .ref qp1, .int (b2i gv)])), kI G qp0 16 (oF eb), (qc, .inr (0, [.ref qc0, .ref qc1, .ref qc2, .ref qc3, .int (nI el), .int (nI be)])), kI G qc0 12 (nF pl), kI G qc1 192 (nF le), kI G qc2 192 (nF lb), kZ G qc3 192 (bF br)] (some (.int (oI (freeE pl le lb br eb f0 el m)))) [(qr, .inr (5, [.ref qr0, .ref qr1, .int (nI qd), .int (oI (some f0)), .int (oI fe)])), (qp, .inr (4, [.ref qp0, .ref qp1, .int (b2i gv)])), kI G qp0 16 (oF eb), (qc, .inr (0, [.ref qc0, .ref qc1, .ref qc2, .ref qc3, .int (nI el), .int (nI be)])), kI G qc0 12 (nF pl), kI G qc1 192 (nF le), kI G qc2 192 (nF lb), kZ G qc3 192 (bF br)] := by
  refine MF.ofJ (cc := cX5_freeElderFor) (maxL := 5) (ret := (some .int)) (own := RX5) (lv := [(0, .ref qr), (1, .ref qc), (2, .ref qp), (3, .int (nI m))]) (by decide) rfl rfl (Nat.le_of_ble_eq_true rfl) rfl ?_
  intro κ X
  have i_X0 : ∀ w ∈ wsX00, w ∈ wsX5_freeElderFor := by decide +kernel
  have i_X4 : ∀ w ∈ wsX40, w ∈ wsX5_freeElderFor := by decide +kernel
  have i_X5 : ∀ w ∈ wsX50, w ∈ wsX5_freeElderFor := by decide +kernel
  refine j_iconst (pc := 0) X (v := nI 0) dX5_freeElderFor_0 (by decide) ?_
  refine j_istore (pc := 1) X (lv' := [(4, .int (nI 0)), (0, .ref qr), (1, .ref qc), (2, .ref qp), (3, .int (nI m))]) dX5_freeElderFor_1 (by decide) rfl ?_
  refine j_lv [1, 2, 3, 4, 0] (lv' := [(0, .ref qr), (1, .ref qc), (2, .ref qp), (3, .int (nI m)), (4, .int (nI 0))]) rfl ?_
  exact mX5_freeElderFor_L3 l G qr qr0 qr1 qd f0 fe qp qp0 qp1 gv eb qc qc0 qc1 qc2 qc3 el be pl le lb br m hel hle hlb hpl heb hf hm κ X    (el - 0 + 1) 0 (by omega) (by rfl) (Nat.lt_succ_self _)

set_option maxHeartbeats 4000000 in
set_option maxRecDepth 100000 in
theorem mX5_queueLeaversOf_L3 (l : Launch) (G : jG) (qr : Nat) (qr0 : Nat) (qr1 : Nat) (qd : Nat) (f0 : Nat) (fe : Option Nat) (qu : Nat → Nat) (tk : Nat → Option Nat) (qp : Nat) (qp0 : Nat) (qp1 : Nat) (gv : Bool) (eb : Nat → Option Nat) (qc : Nat) (qc0 : Nat) (qc1 : Nat) (qc2 : Nat) (qc3 : Nat) (el : Nat) (be : Nat) (m : Nat) (e : Nat) (hbe : be ≤ 16) (heb : ∀ k, ob 12 (eb k)) (hf : f0 < 16) (hm : m < 16) (he : e < 12) (hq : qOk (tk, qu, qd)) (κ : jK) (X : CX κ l yX5_queueLeaversOf cX5_queueLeaversOf 7 RX5 wsX5_queueLeaversOf none ({ frames := 0, cells := 0, slots := 0, locals := 0 }) G (va_A [(qr, .inr (5, [.ref qr0, .ref qr1, .int (nI qd), .int (oI (some f0)), .int (oI fe)])), kI G qr0 16 (nF qu), kI G qr1 16 (oF tk), (qp, .inr (4, [.ref qp0, .ref qp1, .int (b2i gv)])), kI G qp0 16 (oF eb), (qc, .inr (0, [.ref qc0, .ref qc1, .ref qc2, .ref qc3, .int (nI el), .int (nI be)]))] (js κ).heap.size))    : ∀ (fu : Nat) (b : Nat) (tk2 : Nat → Option Nat) (qu2 : Nat → Nat) (qd2 : Nat) (hb : b ≤ be) (hs : (tk2, qu2, qd2) = qlB eb f0 m e (tk, qu, qd) b) (_ : be - b < fu), JJ κ 7 G (va_A [(qr, .inr (5, [.ref qr0, .ref qr1, .int (nI qd), .int (oI (some f0)), .int (oI fe)])), kI G qr0 16 (nF qu), kI G qr1 16 (oF tk), (qp, .inr (4, [.ref qp0, .ref qp1, .int (b2i gv)])), kI G qp0 16 (oF eb), (qc, .inr (0, [.ref qc0, .ref qc1, .ref qc2, .ref qc3, .int (nI el), .int (nI be)]))] (js κ).heap.size) 0 0 (jQ κ G [(qr, .inr (5, [.ref qr0, .ref qr1, .int (nI qd), .int (oI (some f0)), .int (oI fe)])), kI G qr0 16 (nF qu), kI G qr1 16 (oF tk), (qp, .inr (4, [.ref qp0, .ref qp1, .int (b2i gv)])), kI G qp0 16 (oF eb), (qc, .inr (0, [.ref qc0, .ref qc1, .ref qc2, .ref qc3, .int (nI el), .int (nI be)]))] (fun r w' => r = none ∧ w' = [(qr, .inr (5, [.ref qr0, .ref qr1, .int (nI ((qlB eb f0 m e (tk, qu, qd) be).2.2)), .int (oI (some f0)), .int (oI fe)])), kI G qr0 16 (nF ((qlB eb f0 m e (tk, qu, qd) be).2.1)), kI G qr1 16 (oF ((qlB eb f0 m e (tk, qu, qd) be).1)), (qp, .inr (4, [.ref qp0, .ref qp1, .int (b2i gv)])), kI G qp0 16 (oF eb), (qc, .inr (0, [.ref qc0, .ref qc1, .ref qc2, .ref qc3, .int (nI el), .int (nI be)]))]) 0 0) 3 [(0, .ref qr), (1, .ref qc), (2, .ref qp), (3, .int (nI m)), (4, .int (nI e)), (5, .int (nI b))] [] [(qr, .inr (5, [.ref qr0, .ref qr1, .int (nI qd2), .int (oI (some f0)), .int (oI fe)])), kI G qr0 16 (nF qu2), kI G qr1 16 (oF tk2), (qp, .inr (4, [.ref qp0, .ref qp1, .int (b2i gv)])), kI G qp0 16 (oF eb), (qc, .inr (0, [.ref qc0, .ref qc1, .ref qc2, .ref qc3, .int (nI el), .int (nI be)]))] := by
  have i_X0 : ∀ w ∈ wsX00, w ∈ wsX5_queueLeaversOf := by decide +kernel
  have i_X4 : ∀ w ∈ wsX40, w ∈ wsX5_queueLeaversOf := by decide +kernel
  have i_X5 : ∀ w ∈ wsX50, w ∈ wsX5_queueLeaversOf := by decide +kernel
  intro fu
  induction fu with
  | zero => intro b tk2 qu2 qd2 hb hs hms; exact absurd hms (Nat.not_lt_zero _)
  | succ fu ih =>
    intro b tk2 qu2 qd2 hb hs hms
    have hok : qOk (tk2, qu2, qd2) := by (rw [hs]; exact qlB_ok hq hm b (by omega))
    refine j_iload (pc := 3) X dX5_queueLeaversOf_3 5 rfl ?_
    refine j_aload_n (pc := 5) X dX5_queueLeaversOf_5 rfl 1 rfl ?_
    refine j_getN (pc := 6) X 0 i_X0 5 rfl rfl 5 (by decide) (by decide +kernel) rfl dX5_queueLeaversOf_6 ?_
    refine j_icmpN_ge (pc := 9) X (a := b) (b := be) (by first | omega | (have h1 := hok.2.2; simp only at h1; omega)) (by first | omega | (have h1 := hok.2.2; simp only at h1; omega)) (tgt := 100) dX5_queueLeaversOf_9 (by decide) (fun c_9 => ?_) (fun c_9 => ?_)
    · skip
      obtain rfl : be = b := by omega
      exact j_vret (pc := 100) X dX5_queueLeaversOf_100 ⟨rfl, by rw [← hs]⟩
    · skip
      refine j_iload (pc := 12) X dX5_queueLeaversOf_12 5 rfl ?_
      refine j_aload_n (pc := 14) X dX5_queueLeaversOf_14 rfl 0 rfl ?_
      refine j_get (pc := 15) X 5 i_X5 0 rfl rfl 3 (by decide) (by decide +kernel) rfl dX5_queueLeaversOf_15 ?_
      refine j_icmpN_eq (pc := 18) X (a := b) (b := f0) (by first | omega | (have h1 := hok.2.2; simp only at h1; omega)) (by first | omega | (have h1 := hok.2.2; simp only at h1; omega)) (tgt := 36) dX5_queueLeaversOf_18 (by decide) (fun c_18 => ?_) (fun c_18 => ?_)
      · skip
        refine j_iconst (pc := 36) X (v := nI 0) dX5_queueLeaversOf_36 (by decide) ?_
        refine j_istore (pc := 37) X (lv' := [(6, .int (nI 0)), (0, .ref qr), (1, .ref qc), (2, .ref qp), (3, .int (nI m)), (4, .int (nI e)), (5, .int (nI b))]) dX5_queueLeaversOf_37 (by decide) rfl ?_
        refine j_iload (pc := 39) X dX5_queueLeaversOf_39 0 rfl ?_
        refine j_ifN_eq (pc := 41) X (a := 0) (by first | omega | (have h1 := hok.2.2; simp only at h1; omega)) (tgt := 94) dX5_queueLeaversOf_41 (by decide) (fun c_41 => ?_) (fun c_41 => ?_)
        · skip
          refine j_iinc (pc := 94) X (v := nI (b + 1)) (lv' := [(5, .int (nI (b + 1))), (6, .int (nI 0)), (0, .ref qr), (1, .ref qc), (2, .ref qp), (3, .int (nI m)), (4, .int (nI e))]) dX5_queueLeaversOf_94 6 rfl (nI_1 _) (by decide) rfl ?_
          refine j_goto (pc := 97) X (tgt := 3) dX5_queueLeaversOf_97 (by decide) ?_
          refine j_lv [2, 3, 4, 5, 6, 0] (lv' := [(0, .ref qr), (1, .ref qc), (2, .ref qp), (3, .int (nI m)), (4, .int (nI e)), (5, .int (nI (b + 1)))]) rfl ?_
          exact ih (b + 1) tk2 qu2 qd2 (by omega) (by simp only [qlB]; rw [← hs]; simp [qlS, c_9, c_18, c_41]) (by omega)
        · skip
          exact absurd c_41 (by decide)
      · skip
        refine j_aload_n (pc := 21) X dX5_queueLeaversOf_21 rfl 0 rfl ?_
        refine j_get (pc := 22) X 5 i_X5 0 rfl rfl 1 (by decide) (by decide +kernel) rfl dX5_queueLeaversOf_22 ?_
        refine j_iload (pc := 25) X dX5_queueLeaversOf_25 5 rfl ?_
        refine j_iald (pc := 27) X 2 rfl (vp_in_nI (by omega) (by decide)) (v := oI (tk2 b)) (congrArg (oF tk2) (nI_clamp (by omega))) dX5_queueLeaversOf_27 ?_
        refine j_iconst (pc := 28) X (v := oI none) dX5_queueLeaversOf_28 (by decide) ?_
        refine j_icmpZ_ne (pc := 29) X (a := (tk2 b)) (by first | exact ob_n | exact ob_s (by omega) | exact (heb _).big (by decide) | exact (hok.1 _).big (by decide)) (tgt := 36) dX5_queueLeaversOf_29 (by decide) (fun c_29 => ?_) (fun c_29 => ?_)
        · skip
          refine j_iconst (pc := 36) X (v := nI 0) dX5_queueLeaversOf_36 (by decide) ?_
          refine j_istore (pc := 37) X (lv' := [(6, .int (nI 0)), (0, .ref qr), (1, .ref qc), (2, .ref qp), (3, .int (nI m)), (4, .int (nI e)), (5, .int (nI b))]) dX5_queueLeaversOf_37 (by decide) rfl ?_
          refine j_iload (pc := 39) X dX5_queueLeaversOf_39 0 rfl ?_
          refine j_ifN_eq (pc := 41) X (a := 0) (by first | omega | (have h1 := hok.2.2; simp only at h1; omega)) (tgt := 94) dX5_queueLeaversOf_41 (by decide) (fun c_41 => ?_) (fun c_41 => ?_)
          · skip
            refine j_iinc (pc := 94) X (v := nI (b + 1)) (lv' := [(5, .int (nI (b + 1))), (6, .int (nI 0)), (0, .ref qr), (1, .ref qc), (2, .ref qp), (3, .int (nI m)), (4, .int (nI e))]) dX5_queueLeaversOf_94 6 rfl (nI_1 _) (by decide) rfl ?_
            refine j_goto (pc := 97) X (tgt := 3) dX5_queueLeaversOf_97 (by decide) ?_
            refine j_lv [2, 3, 4, 5, 6, 0] (lv' := [(0, .ref qr), (1, .ref qc), (2, .ref qp), (3, .int (nI m)), (4, .int (nI e)), (5, .int (nI (b + 1)))]) rfl ?_
            exact ih (b + 1) tk2 qu2 qd2 (by omega) (by simp only [qlB]; rw [← hs]; simp [qlS, c_9, c_18, c_29, c_41]) (by omega)
          · skip
            exact absurd c_41 (by decide)
        · skip
          refine j_iconst (pc := 32) X (v := nI 1) dX5_queueLeaversOf_32 (by decide) ?_
          refine j_goto (pc := 33) X (tgt := 37) dX5_queueLeaversOf_33 (by decide) ?_
          refine j_istore (pc := 37) X (lv' := [(6, .int (nI 1)), (0, .ref qr), (1, .ref qc), (2, .ref qp), (3, .int (nI m)), (4, .int (nI e)), (5, .int (nI b))]) dX5_queueLeaversOf_37 (by decide) rfl ?_
          refine j_iload (pc := 39) X dX5_queueLeaversOf_39 0 rfl ?_
          refine j_ifN_eq (pc := 41) X (a := 1) (by first | omega | (have h1 := hok.2.2; simp only at h1; omega)) (tgt := 94) dX5_queueLeaversOf_41 (by decide) (fun c_41 => ?_) (fun c_41 => ?_)
          · skip
            exact absurd c_41 (by decide)
          · skip
            refine j_aload_n (pc := 44) X dX5_queueLeaversOf_44 rfl 3 rfl ?_
            refine j_getN (pc := 45) X 4 i_X4 3 rfl rfl 0 (by decide) (by decide +kernel) rfl dX5_queueLeaversOf_45 ?_
            refine j_iload (pc := 48) X dX5_queueLeaversOf_48 6 rfl ?_
            refine j_iald (pc := 50) X 4 rfl (vp_in_nI (by omega) (by decide)) (v := oI (eb b)) (congrArg (oF eb) (nI_clamp (by omega))) dX5_queueLeaversOf_50 ?_
            refine j_iload (pc := 51) X dX5_queueLeaversOf_51 5 rfl ?_
            refine j_icmpO_ne (pc := 53) X (a := (eb b)) (b := (some e)) (by first | exact ob_n | exact ob_s (by omega) | exact (heb _).big (by decide) | exact (hok.1 _).big (by decide)) (by first | exact ob_n | exact ob_s (by omega) | exact (heb _).big (by decide) | exact (hok.1 _).big (by decide)) (tgt := 94) dX5_queueLeaversOf_53 (by decide) (fun c_53 => ?_) (fun c_53 => ?_)
            · skip
              refine j_iinc (pc := 94) X (v := nI (b + 1)) (lv' := [(5, .int (nI (b + 1))), (6, .int (nI 1)), (0, .ref qr), (1, .ref qc), (2, .ref qp), (3, .int (nI m)), (4, .int (nI e))]) dX5_queueLeaversOf_94 6 rfl (nI_1 _) (by decide) rfl ?_
              refine j_goto (pc := 97) X (tgt := 3) dX5_queueLeaversOf_97 (by decide) ?_
              refine j_lv [2, 3, 4, 5, 6, 0] (lv' := [(0, .ref qr), (1, .ref qc), (2, .ref qp), (3, .int (nI m)), (4, .int (nI e)), (5, .int (nI (b + 1)))]) rfl ?_
              exact ih (b + 1) tk2 qu2 qd2 (by omega) (by simp only [qlB]; rw [← hs]; simp [qlS, c_9, c_18, c_29, c_41, c_53]) (by omega)
            · skip
              refine j_aload_n (pc := 56) X dX5_queueLeaversOf_56 rfl 1 rfl ?_
              refine j_get (pc := 57) X 5 i_X5 0 rfl rfl 2 (by decide) (by decide +kernel) rfl dX5_queueLeaversOf_57 ?_
              refine j_bipush (pc := 60) X (v := nI 16) dX5_queueLeaversOf_60 (by decide) ?_
              refine j_icmpN_ge (pc := 62) X (a := qd2) (b := 16) (by first | omega | (have h1 := hok.2.2; simp only at h1; omega)) (by first | omega | (have h1 := hok.2.2; simp only at h1; omega)) (tgt := 94) dX5_queueLeaversOf_62 (by decide) (fun c_62 => ?_) (fun c_62 => ?_)
              · skip
                refine j_iinc (pc := 94) X (v := nI (b + 1)) (lv' := [(5, .int (nI (b + 1))), (6, .int (nI 1)), (0, .ref qr), (1, .ref qc), (2, .ref qp), (3, .int (nI m)), (4, .int (nI e))]) dX5_queueLeaversOf_94 6 rfl (nI_1 _) (by decide) rfl ?_
                refine j_goto (pc := 97) X (tgt := 3) dX5_queueLeaversOf_97 (by decide) ?_
                refine j_lv [2, 3, 4, 5, 6, 0] (lv' := [(0, .ref qr), (1, .ref qc), (2, .ref qp), (3, .int (nI m)), (4, .int (nI e)), (5, .int (nI (b + 1)))]) rfl ?_
                exact ih (b + 1) tk2 qu2 qd2 (by omega) (by simp only [qlB]; rw [← hs]; simp [qlS, c_9, c_18, c_29, c_41, c_53, c_62]) (by omega)
              · skip
                refine j_aload_n (pc := 65) X dX5_queueLeaversOf_65 rfl 1 rfl ?_
                refine j_get (pc := 66) X 5 i_X5 0 rfl rfl 1 (by decide) (by decide +kernel) rfl dX5_queueLeaversOf_66 ?_
                refine j_iload (pc := 69) X dX5_queueLeaversOf_69 6 rfl ?_
                refine j_iload_n (pc := 71) X dX5_queueLeaversOf_71 rfl 4 rfl ?_
                refine j_iast (pc := 72) X (f2 := (oF (va_up tk2 b (some m)))) (ws' := [(qr, .inr (5, [.ref qr0, .ref qr1, .int (nI qd2), .int (oI (some f0)), .int (oI fe)])), kI G qr0 16 (nF qu2), kI G qr1 16 (oF (va_up tk2 b (some m))), (qp, .inr (4, [.ref qp0, .ref qp1, .int (b2i gv)])), kI G qp0 16 (oF eb), (qc, .inr (0, [.ref qc0, .ref qc1, .ref qc2, .ref qc3, .int (nI el), .int (nI be)]))]) 2 rfl (vp_in_nI (by omega) (by decide)) dX5_queueLeaversOf_72 (by rw [nI_clamp (by omega)]; exact oF_up tk2 b (some m)) rfl ?_
                refine j_aload_n (pc := 73) X dX5_queueLeaversOf_73 rfl 1 rfl ?_
                refine j_get (pc := 74) X 5 i_X5 0 rfl rfl 0 (by decide) (by decide +kernel) rfl dX5_queueLeaversOf_74 ?_
                refine j_aload_n (pc := 77) X dX5_queueLeaversOf_77 rfl 1 rfl ?_
                refine j_get (pc := 78) X 5 i_X5 0 rfl rfl 2 (by decide) (by decide +kernel) rfl dX5_queueLeaversOf_78 ?_
                refine j_iload (pc := 81) X dX5_queueLeaversOf_81 6 rfl ?_
                refine j_iast (pc := 83) X (f2 := (nF (va_up qu2 qd2 b))) (ws' := [(qr, .inr (5, [.ref qr0, .ref qr1, .int (nI qd2), .int (oI (some f0)), .int (oI fe)])), kI G qr0 16 (nF (va_up qu2 qd2 b)), kI G qr1 16 (oF (va_up tk2 b (some m))), (qp, .inr (4, [.ref qp0, .ref qp1, .int (b2i gv)])), kI G qp0 16 (oF eb), (qc, .inr (0, [.ref qc0, .ref qc1, .ref qc2, .ref qc3, .int (nI el), .int (nI be)]))]) 1 rfl (vp_in_nI (by omega) (by decide)) dX5_queueLeaversOf_83 (by rw [nI_clamp (by omega)]; exact nF_up qu2 qd2 b) rfl ?_
                refine j_aload_n (pc := 84) X dX5_queueLeaversOf_84 rfl 1 rfl ?_
                refine j_dup (pc := 85) X dX5_queueLeaversOf_85 rfl ?_
                refine j_get (pc := 86) X 5 i_X5 0 rfl rfl 2 (by decide) (by decide +kernel) rfl dX5_queueLeaversOf_86 ?_
                refine j_iconst (pc := 89) X (v := nI 1) dX5_queueLeaversOf_89 (by decide) ?_
                refine j_iadd (pc := 90) X dX5_queueLeaversOf_90 ?_
                refine j_topi (z := nI (qd2 + 1)) (nI_add _ _) ?_
                refine j_put (pc := 91) X (v := .int (nI (qd2 + 1))) (ws' := [(qr, .inr (5, [.ref qr0, .ref qr1, .int (nI (qd2 + 1)), .int (oI (some f0)), .int (oI fe)])), kI G qr0 16 (nF (va_up qu2 qd2 b)), kI G qr1 16 (oF (va_up tk2 b (some m))), (qp, .inr (4, [.ref qp0, .ref qp1, .int (b2i gv)])), kI G qp0 16 (oF eb), (qc, .inr (0, [.ref qc0, .ref qc1, .ref qc2, .ref qc3, .int (nI el), .int (nI be)]))]) 5 i_X5 tyX5 tyX5_ok nmX5 0 rfl rfl 2 (by decide) (by decide +kernel) (by decide) (rfl) (rfl) (Nat.le_of_ble_eq_true rfl) dX5_queueLeaversOf_91 rfl ?_
                refine j_iinc (pc := 94) X (v := nI (b + 1)) (lv' := [(5, .int (nI (b + 1))), (6, .int (nI 1)), (0, .ref qr), (1, .ref qc), (2, .ref qp), (3, .int (nI m)), (4, .int (nI e))]) dX5_queueLeaversOf_94 6 rfl (nI_1 _) (by decide) rfl ?_
                refine j_goto (pc := 97) X (tgt := 3) dX5_queueLeaversOf_97 (by decide) ?_
                refine j_lv [2, 3, 4, 5, 6, 0] (lv' := [(0, .ref qr), (1, .ref qc), (2, .ref qp), (3, .int (nI m)), (4, .int (nI e)), (5, .int (nI (b + 1)))]) rfl ?_
                exact ih (b + 1) (va_up tk2 b (some m)) (va_up qu2 qd2 b) (qd2 + 1) (by omega) (by simp only [qlB]; rw [← hs]; simp [qlS, c_9, c_18, c_29, c_41, c_53, c_62]) (by omega)
set_option maxHeartbeats 4000000 in
set_option maxRecDepth 100000 in
theorem mX5_queueLeaversOf (l : Launch) (G : jG) (qr : Nat) (qr0 : Nat) (qr1 : Nat) (qd : Nat) (f0 : Nat) (fe : Option Nat) (qu : Nat → Nat) (tk : Nat → Option Nat) (qp : Nat) (qp0 : Nat) (qp1 : Nat) (gv : Bool) (eb : Nat → Option Nat) (qc : Nat) (qc0 : Nat) (qc1 : Nat) (qc2 : Nat) (qc3 : Nat) (el : Nat) (be : Nat) (m : Nat) (e : Nat) (hbe : be ≤ 16) (heb : ∀ k, ob 12 (eb k)) (hf : f0 < 16) (hm : m < 16) (he : e < 12) (hq : qOk (tk, qu, qd)) : MV l yX5_queueLeaversOf wsX5_queueLeaversOf ({ frames := 0, cells := 0, slots := 0, locals := 0 }) G [.ref qr, .ref qc, .ref qp, .int (nI m), .int (nI e)] [(qr, .inr (5, [.ref qr0, .ref qr1, .int (nI qd), .int (oI (some f0)), .int (oI fe)])), kI G qr0 16 (nF qu), kI G qr1 16 (oF tk), (qp, .inr (4, [.ref qp0, .ref qp1, .int (b2i gv)])), kI G qp0 16 (oF eb), (qc, .inr (0, [.ref qc0, .ref qc1, .ref qc2, .ref qc3, .int (nI el), .int (nI be)]))] (none) [(qr, .inr (5, [.ref qr0, .ref qr1, .int (nI ((qlB eb f0 m e (tk, qu, qd) be).2.2)), .int (oI (some f0)), .int (oI fe)])), kI G qr0 16 (nF ((qlB eb f0 m e (tk, qu, qd) be).2.1)), kI G qr1 16 (oF ((qlB eb f0 m e (tk, qu, qd) be).1)), (qp, .inr (4, [.ref qp0, .ref qp1, .int (b2i gv)])), kI G qp0 16 (oF eb), (qc, .inr (0, [.ref qc0, .ref qc1, .ref qc2, .ref qc3, .int (nI el), .int (nI be)]))] := by
  refine MF.ofJ (cc := cX5_queueLeaversOf) (maxL := 7) (ret := none) (own := RX5) (lv := [(0, .ref qr), (1, .ref qc), (2, .ref qp), (3, .int (nI m)), (4, .int (nI e))]) (by decide) rfl rfl (Nat.le_of_ble_eq_true rfl) rfl ?_
  intro κ X
  have i_X0 : ∀ w ∈ wsX00, w ∈ wsX5_queueLeaversOf := by decide +kernel
  have i_X4 : ∀ w ∈ wsX40, w ∈ wsX5_queueLeaversOf := by decide +kernel
  have i_X5 : ∀ w ∈ wsX50, w ∈ wsX5_queueLeaversOf := by decide +kernel
  refine j_iconst (pc := 0) X (v := nI 0) dX5_queueLeaversOf_0 (by decide) ?_
  refine j_istore (pc := 1) X (lv' := [(5, .int (nI 0)), (0, .ref qr), (1, .ref qc), (2, .ref qp), (3, .int (nI m)), (4, .int (nI e))]) dX5_queueLeaversOf_1 (by decide) rfl ?_
  refine j_lv [1, 2, 3, 4, 5, 0] (lv' := [(0, .ref qr), (1, .ref qc), (2, .ref qp), (3, .int (nI m)), (4, .int (nI e)), (5, .int (nI 0))]) rfl ?_
  exact mX5_queueLeaversOf_L3 l G qr qr0 qr1 qd f0 fe qu tk qp qp0 qp1 gv eb qc qc0 qc1 qc2 qc3 el be m e hbe heb hf hm he hq κ X    (be - 0 + 1) 0 tk qu qd (by omega) (by rfl) (Nat.lt_succ_self _)

set_option maxHeartbeats 4000000 in
set_option maxRecDepth 100000 in
theorem mX5_queueLeavers_L3 (l : Launch) (G : jG) (qr : Nat) (qr0 : Nat) (qr1 : Nat) (qd : Nat) (f0 : Nat) (fe : Option Nat) (qu : Nat → Nat) (tk : Nat → Option Nat) (qp : Nat) (qp0 : Nat) (qp1 : Nat) (gv : Bool) (eb : Nat → Option Nat) (qc : Nat) (qc0 : Nat) (qc1 : Nat) (qc2 : Nat) (qc3 : Nat) (el : Nat) (be : Nat) (le : Nat → Nat) (lb : Nat → Nat) (br : Nat → Bool) (m : Nat) (hel : el ≤ 12) (hbe : be ≤ 16) (hle : ∀ k, le k ≤ 100) (hlb : ∀ k, lb k ≤ 100) (heb : ∀ k, ob 12 (eb k)) (hf : f0 < 16) (hm : m < 16) (hq : qOk (tk, qu, qd)) (κ : jK) (X : CX κ l yX5_queueLeavers cX5_queueLeavers 5 RX5 wsX5_queueLeavers none ({ frames := 3, cells := 0, slots := 0, locals := 67 }) G (va_A [(qr, .inr (5, [.ref qr0, .ref qr1, .int (nI qd), .int (oI (some f0)), .int (oI fe)])), kI G qr0 16 (nF qu), kI G qr1 16 (oF tk), (qp, .inr (4, [.ref qp0, .ref qp1, .int (b2i gv)])), kI G qp0 16 (oF eb), (qc, .inr (0, [.ref qc0, .ref qc1, .ref qc2, .ref qc3, .int (nI el), .int (nI be)])), kI G qc1 192 (nF le), kI G qc2 192 (nF lb), kZ G qc3 192 (bF br)] (js κ).heap.size))    : ∀ (fu : Nat) (e : Nat) (tk2 : Nat → Option Nat) (qu2 : Nat → Nat) (qd2 : Nat) (he : e ≤ el) (hs : (tk2, qu2, qd2) = qlE le lb br eb f0 be m (tk, qu, qd) e) (_ : el - e < fu), JJ κ 5 G (va_A [(qr, .inr (5, [.ref qr0, .ref qr1, .int (nI qd), .int (oI (some f0)), .int (oI fe)])), kI G qr0 16 (nF qu), kI G qr1 16 (oF tk), (qp, .inr (4, [.ref qp0, .ref qp1, .int (b2i gv)])), kI G qp0 16 (oF eb), (qc, .inr (0, [.ref qc0, .ref qc1, .ref qc2, .ref qc3, .int (nI el), .int (nI be)])), kI G qc1 192 (nF le), kI G qc2 192 (nF lb), kZ G qc3 192 (bF br)] (js κ).heap.size) 0 0 (jQ κ G [(qr, .inr (5, [.ref qr0, .ref qr1, .int (nI qd), .int (oI (some f0)), .int (oI fe)])), kI G qr0 16 (nF qu), kI G qr1 16 (oF tk), (qp, .inr (4, [.ref qp0, .ref qp1, .int (b2i gv)])), kI G qp0 16 (oF eb), (qc, .inr (0, [.ref qc0, .ref qc1, .ref qc2, .ref qc3, .int (nI el), .int (nI be)])), kI G qc1 192 (nF le), kI G qc2 192 (nF lb), kZ G qc3 192 (bF br)] (fun r w' => r = none ∧ w' = [(qr, .inr (5, [.ref qr0, .ref qr1, .int (nI ((qlE le lb br eb f0 be m (tk, qu, qd) el).2.2)), .int (oI (some f0)), .int (oI fe)])), kI G qr0 16 (nF ((qlE le lb br eb f0 be m (tk, qu, qd) el).2.1)), kI G qr1 16 (oF ((qlE le lb br eb f0 be m (tk, qu, qd) el).1)), (qp, .inr (4, [.ref qp0, .ref qp1, .int (b2i gv)])), kI G qp0 16 (oF eb), (qc, .inr (0, [.ref qc0, .ref qc1, .ref qc2, .ref qc3, .int (nI el), .int (nI be)])), kI G qc1 192 (nF le), kI G qc2 192 (nF lb), kZ G qc3 192 (bF br)]) 0 0) 3 [(0, .ref qr), (1, .ref qc), (2, .ref qp), (3, .int (nI m)), (4, .int (nI e))] [] [(qr, .inr (5, [.ref qr0, .ref qr1, .int (nI qd2), .int (oI (some f0)), .int (oI fe)])), kI G qr0 16 (nF qu2), kI G qr1 16 (oF tk2), (qp, .inr (4, [.ref qp0, .ref qp1, .int (b2i gv)])), kI G qp0 16 (oF eb), (qc, .inr (0, [.ref qc0, .ref qc1, .ref qc2, .ref qc3, .int (nI el), .int (nI be)])), kI G qc1 192 (nF le), kI G qc2 192 (nF lb), kZ G qc3 192 (bF br)] := by
  have i_X0 : ∀ w ∈ wsX00, w ∈ wsX5_queueLeavers := by decide +kernel
  have i_X4 : ∀ w ∈ wsX40, w ∈ wsX5_queueLeavers := by decide +kernel
  have i_X5 : ∀ w ∈ wsX50, w ∈ wsX5_queueLeavers := by decide +kernel
  intro fu
  induction fu with
  | zero => intro e tk2 qu2 qd2 he hs hms; exact absurd hms (Nat.not_lt_zero _)
  | succ fu ih =>
    intro e tk2 qu2 qd2 he hs hms
    have hok : qOk (tk2, qu2, qd2) := by (rw [hs]; exact qlE_ok hq hm hbe e)
    refine j_iload (pc := 3) X dX5_queueLeavers_3 4 rfl ?_
    refine j_aload_n (pc := 5) X dX5_queueLeavers_5 rfl 1 rfl ?_
    refine j_getN (pc := 6) X 0 i_X0 5 rfl rfl 4 (by decide) (by decide +kernel) rfl dX5_queueLeavers_6 ?_
    refine j_icmpN_ge (pc := 9) X (a := e) (b := el) (by omega) (by omega) (tgt := 38) dX5_queueLeavers_9 (by decide) (fun c_9 => ?_) (fun c_9 => ?_)
    · skip
      obtain rfl : el = e := by omega
      exact j_vret (pc := 38) X dX5_queueLeavers_38 ⟨rfl, by rw [← hs]⟩
    · skip
      refine j_aload_n (pc := 12) X dX5_queueLeavers_12 rfl 1 rfl ?_
      refine j_aload_n (pc := 13) X dX5_queueLeavers_13 rfl 2 rfl ?_
      refine j_iload_n (pc := 14) X dX5_queueLeavers_14 rfl 3 rfl ?_
      refine j_iload (pc := 15) X dX5_queueLeavers_15 4 rfl ?_
      refine j_ciP (pc := 17) X [3, 4, 5, 6, 7, 8] rfl (j_rS X (As := [.ref qc, .ref qp, .int (nI m), .int (nI e)]) (rest := []) 4 (mX5_mayMove l G qp qp0 qp1 gv eb qc qc0 qc1 qc2 qc3 el be le lb br m e (by first | assumption | omega | exact ob_s (by omega) | exact ob_n) (by first | assumption | omega | exact ob_s (by omega) | exact ob_n) (by first | assumption | omega | exact ob_s (by omega) | exact ob_n) (by first | assumption | omega | exact ob_s (by omega) | exact ob_n) (by first | assumption | omega | exact ob_s (by omega) | exact ob_n)) gX5_queueLeavers_X5_mayMove rfl rfl rfl (by decide +kernel) ⟨Nat.le_of_ble_eq_true rfl, Nat.le_of_ble_eq_true rfl⟩ rfl [3, 4, 5, 6, 7, 8] rfl rfl rfl (Nat.le_of_ble_eq_true rfl) dX5_queueLeavers_17 ⟨Nat.le_of_ble_eq_true rfl, Nat.le_of_ble_eq_true rfl⟩) ?_
      refine j_ifb_eq (pc := 20) X (B := mayM le lb br eb m e) (tgt := 32) dX5_queueLeavers_20 (by decide) (fun c_20 => ?_) (fun c_20 => ?_)
      · skip
        refine j_iinc (pc := 32) X (v := nI (e + 1)) (lv' := [(4, .int (nI (e + 1))), (0, .ref qr), (1, .ref qc), (2, .ref qp), (3, .int (nI m))]) dX5_queueLeavers_32 4 rfl (nI_1 _) (by decide) rfl ?_
        refine j_goto (pc := 35) X (tgt := 3) dX5_queueLeavers_35 (by decide) ?_
        refine j_lv [1, 2, 3, 4, 0] (lv' := [(0, .ref qr), (1, .ref qc), (2, .ref qp), (3, .int (nI m)), (4, .int (nI (e + 1)))]) rfl ?_
        exact ih (e + 1) tk2 qu2 qd2 (by omega) (by simp only [qlE]; rw [← hs]; simp [c_9, c_20]) (by omega)
      · skip
        refine j_aload_n (pc := 23) X dX5_queueLeavers_23 rfl 0 rfl ?_
        refine j_aload_n (pc := 24) X dX5_queueLeavers_24 rfl 1 rfl ?_
        refine j_aload_n (pc := 25) X dX5_queueLeavers_25 rfl 2 rfl ?_
        refine j_iload_n (pc := 26) X dX5_queueLeavers_26 rfl 3 rfl ?_
        refine j_iload (pc := 27) X dX5_queueLeavers_27 4 rfl ?_
        refine j_cv (pc := 29) X (ws' := [(qr, .inr (5, [.ref qr0, .ref qr1, .int (nI ((qlB eb f0 m e (tk2, qu2, qd2) be).2.2)), .int (oI (some f0)), .int (oI fe)])), kI G qr0 16 (nF ((qlB eb f0 m e (tk2, qu2, qd2) be).2.1)), kI G qr1 16 (oF ((qlB eb f0 m e (tk2, qu2, qd2) be).1)), (qp, .inr (4, [.ref qp0, .ref qp1, .int (b2i gv)])), kI G qp0 16 (oF eb), (qc, .inr (0, [.ref qc0, .ref qc1, .ref qc2, .ref qc3, .int (nI el), .int (nI be)])), kI G qc1 192 (nF le), kI G qc2 192 (nF lb), kZ G qc3 192 (bF br)]) [0, 1, 2, 3, 4, 5] rfl (j_rV X (b := qr) (As := [.ref qc, .ref qp, .int (nI m), .int (nI e)]) (ci := 5) (rest := []) 4 (mX5_queueLeaversOf l G qr qr0 qr1 qd2 f0 fe qu2 tk2 qp qp0 qp1 gv eb qc qc0 qc1 qc2 qc3 el be m e (by first | assumption | omega | exact ob_s (by omega) | exact ob_n) (by first | assumption | omega | exact ob_s (by omega) | exact ob_n) (by first | assumption | omega | exact ob_s (by omega) | exact ob_n) (by first | assumption | omega | exact ob_s (by omega) | exact ob_n) (by first | assumption | omega | exact ob_s (by omega) | exact ob_n) (by exact hok)) gX5_queueLeavers_X5_queueLeaversOf rfl rfl rfl (by decide +kernel) ⟨Nat.le_of_ble_eq_true rfl, Nat.le_of_ble_eq_true rfl⟩ rfl rfl 0 rfl [0, 1, 2, 3, 4, 5] rfl rfl rfl (Nat.le_of_ble_eq_true rfl) dX5_queueLeavers_29 ⟨Nat.le_of_ble_eq_true rfl, Nat.le_of_ble_eq_true rfl⟩) rfl rfl ?_
        refine j_iinc (pc := 32) X (v := nI (e + 1)) (lv' := [(4, .int (nI (e + 1))), (0, .ref qr), (1, .ref qc), (2, .ref qp), (3, .int (nI m))]) dX5_queueLeavers_32 4 rfl (nI_1 _) (by decide) rfl ?_
        refine j_goto (pc := 35) X (tgt := 3) dX5_queueLeavers_35 (by decide) ?_
        refine j_lv [1, 2, 3, 4, 0] (lv' := [(0, .ref qr), (1, .ref qc), (2, .ref qp), (3, .int (nI m)), (4, .int (nI (e + 1)))]) rfl ?_
        exact ih (e + 1) ((qlB eb f0 m e (tk2, qu2, qd2) be).1) ((qlB eb f0 m e (tk2, qu2, qd2) be).2.1) ((qlB eb f0 m e (tk2, qu2, qd2) be).2.2) (by omega) (by simp only [qlE]; rw [← hs]; simp [c_9, c_20]) (by omega)
set_option maxHeartbeats 4000000 in
set_option maxRecDepth 100000 in
theorem mX5_queueLeavers (l : Launch) (G : jG) (qr : Nat) (qr0 : Nat) (qr1 : Nat) (qd : Nat) (f0 : Nat) (fe : Option Nat) (qu : Nat → Nat) (tk : Nat → Option Nat) (qp : Nat) (qp0 : Nat) (qp1 : Nat) (gv : Bool) (eb : Nat → Option Nat) (qc : Nat) (qc0 : Nat) (qc1 : Nat) (qc2 : Nat) (qc3 : Nat) (el : Nat) (be : Nat) (le : Nat → Nat) (lb : Nat → Nat) (br : Nat → Bool) (m : Nat) (hel : el ≤ 12) (hbe : be ≤ 16) (hle : ∀ k, le k ≤ 100) (hlb : ∀ k, lb k ≤ 100) (heb : ∀ k, ob 12 (eb k)) (hf : f0 < 16) (hm : m < 16) (hq : qOk (tk, qu, qd)) : MV l yX5_queueLeavers wsX5_queueLeavers ({ frames := 3, cells := 0, slots := 0, locals := 67 }) G [.ref qr, .ref qc, .ref qp, .int (nI m)] [(qr, .inr (5, [.ref qr0, .ref qr1, .int (nI qd), .int (oI (some f0)), .int (oI fe)])), kI G qr0 16 (nF qu), kI G qr1 16 (oF tk), (qp, .inr (4, [.ref qp0, .ref qp1, .int (b2i gv)])), kI G qp0 16 (oF eb), (qc, .inr (0, [.ref qc0, .ref qc1, .ref qc2, .ref qc3, .int (nI el), .int (nI be)])), kI G qc1 192 (nF le), kI G qc2 192 (nF lb), kZ G qc3 192 (bF br)] (none) [(qr, .inr (5, [.ref qr0, .ref qr1, .int (nI ((qlE le lb br eb f0 be m (tk, qu, qd) el).2.2)), .int (oI (some f0)), .int (oI fe)])), kI G qr0 16 (nF ((qlE le lb br eb f0 be m (tk, qu, qd) el).2.1)), kI G qr1 16 (oF ((qlE le lb br eb f0 be m (tk, qu, qd) el).1)), (qp, .inr (4, [.ref qp0, .ref qp1, .int (b2i gv)])), kI G qp0 16 (oF eb), (qc, .inr (0, [.ref qc0, .ref qc1, .ref qc2, .ref qc3, .int (nI el), .int (nI be)])), kI G qc1 192 (nF le), kI G qc2 192 (nF lb), kZ G qc3 192 (bF br)] := by
  refine MF.ofJ (cc := cX5_queueLeavers) (maxL := 5) (ret := none) (own := RX5) (lv := [(0, .ref qr), (1, .ref qc), (2, .ref qp), (3, .int (nI m))]) (by decide) rfl rfl (Nat.le_of_ble_eq_true rfl) rfl ?_
  intro κ X
  have i_X0 : ∀ w ∈ wsX00, w ∈ wsX5_queueLeavers := by decide +kernel
  have i_X4 : ∀ w ∈ wsX40, w ∈ wsX5_queueLeavers := by decide +kernel
  have i_X5 : ∀ w ∈ wsX50, w ∈ wsX5_queueLeavers := by decide +kernel
  refine j_iconst (pc := 0) X (v := nI 0) dX5_queueLeavers_0 (by decide) ?_
  refine j_istore (pc := 1) X (lv' := [(4, .int (nI 0)), (0, .ref qr), (1, .ref qc), (2, .ref qp), (3, .int (nI m))]) dX5_queueLeavers_1 (by decide) rfl ?_
  refine j_lv [1, 2, 3, 4, 0] (lv' := [(0, .ref qr), (1, .ref qc), (2, .ref qp), (3, .int (nI m)), (4, .int (nI 0))]) rfl ?_
  exact mX5_queueLeavers_L3 l G qr qr0 qr1 qd f0 fe qu tk qp qp0 qp1 gv eb qc qc0 qc1 qc2 qc3 el be le lb br m hel hbe hle hlb heb hf hm hq κ X    (el - 0 + 1) 0 tk qu qd (by omega) (by rfl) (Nat.lt_succ_self _)

set_option maxHeartbeats 4000000 in
set_option maxRecDepth 100000 in
theorem mX5_findLast_L28 (l : Launch) (G : jG) (qr : Nat) (qr0 : Nat) (qr1 : Nat) (qd : Nat) (fi : Option Nat) (fe : Option Nat) (qu : Nat → Nat) (tk : Nat → Option Nat) (qp : Nat) (qp0 : Nat) (qp1 : Nat) (gv : Bool) (eb : Nat → Option Nat) (qc : Nat) (qc0 : Nat) (qc1 : Nat) (qc2 : Nat) (qc3 : Nat) (el : Nat) (be : Nat) (pl : Nat → Nat) (le : Nat → Nat) (lb : Nat → Nat) (br : Nat → Bool) (b0 : Nat) (hel : el ≤ 12) (hbe : be ≤ 16) (hle : ∀ k, le k ≤ 100) (hlb : ∀ k, lb k ≤ 100) (hpl : ∀ k, pl k ≤ 4) (heb : ∀ k, ob 12 (eb k)) (hb0 : b0 < 16) (hqu : ∀ k, qu k < 16) (htk : ∀ k, ob 16 (tk k)) (κ : jK) (X : CX κ l yX5_findLast cX5_findLast 6 RX5 wsX5_findLast (some .int) ({ frames := 4, cells := 0, slots := 0, locals := 91 }) G (va_A [(qr, .inr (5, [.ref qr0, .ref qr1, .int (nI qd), .int (oI fi), .int (oI fe)])), kI G qr0 16 (nF qu), kI G qr1 16 (oF tk), (qp, .inr (4, [.ref qp0, .ref qp1, .int (b2i gv)])), kI G qp0 16 (oF eb), (qc, .inr (0, [.ref qc0, .ref qc1, .ref qc2, .ref qc3, .int (nI el), .int (nI be)])), kI G qc0 12 (nF pl), kI G qc1 192 (nF le), kI G qc2 192 (nF lb), kZ G qc3 192 (bF br)] (js κ).heap.size))    : ∀ (fu : Nat) (at_ : Nat) (tk2 : Nat → Option Nat) (qu2 : Nat → Nat) (qd2 : Nat) (fe2 : Option Nat) (hat : at_ ≤ 16) (hok : qOk (tk2, qu2, qd2)) (hs : flF pl le lb br eb b0 el be (16 - at_) (tk2, qu2, qd2) fe2 = flF pl le lb br eb b0 el be 16 (flI tk qu b0) fe) (_ : 16 - at_ < fu), JJ κ 6 G (va_A [(qr, .inr (5, [.ref qr0, .ref qr1, .int (nI qd), .int (oI fi), .int (oI fe)])), kI G qr0 16 (nF qu), kI G qr1 16 (oF tk), (qp, .inr (4, [.ref qp0, .ref qp1, .int (b2i gv)])), kI G qp0 16 (oF eb), (qc, .inr (0, [.ref qc0, .ref qc1, .ref qc2, .ref qc3, .int (nI el), .int (nI be)])), kI G qc0 12 (nF pl), kI G qc1 192 (nF le), kI G qc2 192 (nF lb), kZ G qc3 192 (bF br)] (js κ).heap.size) 0 0 (jQ κ G [(qr, .inr (5, [.ref qr0, .ref qr1, .int (nI qd), .int (oI fi), .int (oI fe)])), kI G qr0 16 (nF qu), kI G qr1 16 (oF tk), (qp, .inr (4, [.ref qp0, .ref qp1, .int (b2i gv)])), kI G qp0 16 (oF eb), (qc, .inr (0, [.ref qc0, .ref qc1, .ref qc2, .ref qc3, .int (nI el), .int (nI be)])), kI G qc0 12 (nF pl), kI G qc1 192 (nF le), kI G qc2 192 (nF lb), kZ G qc3 192 (bF br)] (fun r w' => r = some (.int (oI ((flF pl le lb br eb b0 el be 16 (flI tk qu b0) fe).1))) ∧ w' = [(qr, .inr (5, [.ref qr0, .ref qr1, .int (nI ((flF pl le lb br eb b0 el be 16 (flI tk qu b0) fe).2.1.2.2)), .int (oI (some b0)), .int (oI ((flF pl le lb br eb b0 el be 16 (flI tk qu b0) fe).2.2))])), kI G qr0 16 (nF ((flF pl le lb br eb b0 el be 16 (flI tk qu b0) fe).2.1.2.1)), kI G qr1 16 (oF ((flF pl le lb br eb b0 el be 16 (flI tk qu b0) fe).2.1.1)), (qp, .inr (4, [.ref qp0, .ref qp1, .int (b2i gv)])), kI G qp0 16 (oF eb), (qc, .inr (0, [.ref qc0, .ref qc1, .ref qc2, .ref qc3, .int (nI el), .int (nI be)])), kI G qc0 12 (nF pl), kI G qc1 192 (nF le), kI G qc2 192 (nF lb), kZ G qc3 192 (bF br)]) 0 0) 28 [(0, .ref qr), (1, .ref qc), (2, .ref qp), (4, .int (nI at_))] [] [(qr, .inr (5, [.ref qr0, .ref qr1, .int (nI qd2), .int (oI (some b0)), .int (oI fe2)])), kI G qr0 16 (nF qu2), kI G qr1 16 (oF tk2), (qp, .inr (4, [.ref qp0, .ref qp1, .int (b2i gv)])), kI G qp0 16 (oF eb), (qc, .inr (0, [.ref qc0, .ref qc1, .ref qc2, .ref qc3, .int (nI el), .int (nI be)])), kI G qc0 12 (nF pl), kI G qc1 192 (nF le), kI G qc2 192 (nF lb), kZ G qc3 192 (bF br)] := by
  have i_X0 : ∀ w ∈ wsX00, w ∈ wsX5_findLast := by decide +kernel
  have i_X4 : ∀ w ∈ wsX40, w ∈ wsX5_findLast := by decide +kernel
  have i_X5 : ∀ w ∈ wsX50, w ∈ wsX5_findLast := by decide +kernel
  intro fu
  induction fu with
  | zero => intro at_ tk2 qu2 qd2 fe2 hat hok hs hms; exact absurd hms (Nat.not_lt_zero _)
  | succ fu ih =>
    intro at_ tk2 qu2 qd2 fe2 hat hok hs hms
    refine j_iload (pc := 28) X dX5_findLast_28 3 rfl ?_
    refine j_bipush (pc := 30) X (v := nI 16) dX5_findLast_30 (by decide) ?_
    refine j_icmpN_ge (pc := 32) X (a := at_) (b := 16) (by first | omega | (have h1 := hok.2.2; simp only at h1; omega)) (by first | omega | (have h1 := hok.2.2; simp only at h1; omega)) (tgt := 90) dX5_findLast_32 (by decide) (fun c_32 => ?_) (fun c_32 => ?_)
    · skip
      refine j_iconst (pc := 90) X (v := oI none) dX5_findLast_90 (by decide) ?_
      have hs : flF pl le lb br eb b0 el be 16 (flI tk qu b0) fe = (none, (tk2, qu2, qd2), fe2) := by rw [← hs, show 16 - at_ = 0 by omega]; rfl
      refine j_iret (pc := 91) X dX5_findLast_91 ?_
      rw [hs]; exact ⟨rfl, rfl⟩
    · skip
      refine j_iload (pc := 35) X dX5_findLast_35 3 rfl ?_
      refine j_aload_n (pc := 37) X dX5_findLast_37 rfl 0 rfl ?_
      refine j_get (pc := 38) X 5 i_X5 0 rfl rfl 2 (by decide) (by decide +kernel) rfl dX5_findLast_38 ?_
      refine j_icmpN_ge (pc := 41) X (a := at_) (b := qd2) (by first | omega | (have h1 := hok.2.2; simp only at h1; omega)) (by first | omega | (have h1 := hok.2.2; simp only at h1; omega)) (tgt := 90) dX5_findLast_41 (by decide) (fun c_41 => ?_) (fun c_41 => ?_)
      · skip
        refine j_iconst (pc := 90) X (v := oI none) dX5_findLast_90 (by decide) ?_
        have hs : flF pl le lb br eb b0 el be 16 (flI tk qu b0) fe = (none, (tk2, qu2, qd2), fe2) := by rw [← hs]; cases h9 : 16 - at_ with | zero => rfl | succ n => rw [flF, if_neg (by simp only; omega)]
        refine j_iret (pc := 91) X dX5_findLast_91 ?_
        rw [hs]; exact ⟨rfl, rfl⟩
      · skip
        refine j_aload_n (pc := 44) X dX5_findLast_44 rfl 0 rfl ?_
        refine j_get (pc := 45) X 5 i_X5 0 rfl rfl 0 (by decide) (by decide +kernel) rfl dX5_findLast_45 ?_
        refine j_iload (pc := 48) X dX5_findLast_48 3 rfl ?_
        refine j_iald (pc := 50) X 1 rfl (vp_in_nI (by omega) (by decide)) (v := nI (qu2 at_)) (congrArg (nF qu2) (nI_clamp (by omega))) dX5_findLast_50 ?_
        refine j_istore (pc := 51) X (lv' := [(5, .int (nI (qu2 at_))), (0, .ref qr), (1, .ref qc), (2, .ref qp), (4, .int (nI at_))]) dX5_findLast_51 (by decide) rfl ?_
        refine j_aload_n (pc := 53) X dX5_findLast_53 rfl 1 rfl ?_
        refine j_aload_n (pc := 54) X dX5_findLast_54 rfl 1 rfl ?_
        refine j_aload_n (pc := 55) X dX5_findLast_55 rfl 2 rfl ?_
        refine j_aload_n (pc := 56) X dX5_findLast_56 rfl 3 rfl ?_
        refine j_iload (pc := 57) X dX5_findLast_57 0 rfl ?_
        refine j_ciP (pc := 59) X [0, 3, 4, 5, 6, 7, 8, 9] rfl (j_rV X (b := qr) (As := [.ref qc, .ref qp, .int (nI (qu2 at_))]) (ci := 5) (rest := [.ref qr]) 3 (mX5_freeElderFor l G qr qr0 qr1 qd2 b0 fe2 qp qp0 qp1 gv eb qc qc0 qc1 qc2 qc3 el be pl le lb br (qu2 at_) (by first | assumption | omega | exact ob_s (by omega) | exact ob_n) (by first | assumption | omega | exact ob_s (by omega) | exact ob_n) (by first | assumption | omega | exact ob_s (by omega) | exact ob_n) (by first | assumption | omega | exact ob_s (by omega) | exact ob_n) (by first | assumption | omega | exact ob_s (by omega) | exact ob_n) (by first | assumption | omega | exact ob_s (by omega) | exact ob_n) (by exact hok.2.1 at_)) gX5_findLast_X5_freeElderFor rfl rfl rfl (by decide +kernel) ⟨Nat.le_of_ble_eq_true rfl, Nat.le_of_ble_eq_true rfl⟩ rfl rfl 0 rfl [0, 3, 4, 5, 6, 7, 8, 9] rfl rfl rfl (Nat.le_of_ble_eq_true rfl) dX5_findLast_59 ⟨Nat.le_of_ble_eq_true rfl, Nat.le_of_ble_eq_true rfl⟩) ?_
        refine j_put (pc := 62) X (v := .int (oI (freeE pl le lb br eb b0 el (qu2 at_)))) (ws' := [(qr, .inr (5, [.ref qr0, .ref qr1, .int (nI qd2), .int (oI (some b0)), .int (oI (freeE pl le lb br eb b0 el (qu2 at_)))])), kI G qr0 16 (nF qu2), kI G qr1 16 (oF tk2), (qp, .inr (4, [.ref qp0, .ref qp1, .int (b2i gv)])), kI G qp0 16 (oF eb), (qc, .inr (0, [.ref qc0, .ref qc1, .ref qc2, .ref qc3, .int (nI el), .int (nI be)])), kI G qc0 12 (nF pl), kI G qc1 192 (nF le), kI G qc2 192 (nF lb), kZ G qc3 192 (bF br)]) 5 i_X5 tyX5 tyX5_ok nmX5 0 rfl rfl 4 (by decide) (by decide +kernel) (by decide) (rfl) (rfl) (Nat.le_of_ble_eq_true rfl) dX5_findLast_62 rfl ?_
        refine j_aload_n (pc := 65) X dX5_findLast_65 rfl 1 rfl ?_
        refine j_get (pc := 66) X 5 i_X5 0 rfl rfl 4 (by decide) (by decide +kernel) rfl dX5_findLast_66 ?_
        refine j_iconst (pc := 69) X (v := oI none) dX5_findLast_69 (by decide) ?_
        refine j_icmpZ_eq (pc := 70) X (a := (freeE pl le lb br eb b0 el (qu2 at_))) (by first | exact ob_n | exact (ffn_ob _ _).big (by omega)) (tgt := 76) dX5_findLast_70 (by decide) (fun c_70 => ?_) (fun c_70 => ?_)
        · skip
          refine j_aload_n (pc := 76) X dX5_findLast_76 rfl 1 rfl ?_
          refine j_aload_n (pc := 77) X dX5_findLast_77 rfl 2 rfl ?_
          refine j_aload_n (pc := 78) X dX5_findLast_78 rfl 3 rfl ?_
          refine j_iload (pc := 79) X dX5_findLast_79 0 rfl ?_
          refine j_cv (pc := 81) X (ws' := [(qr, .inr (5, [.ref qr0, .ref qr1, .int (nI ((qlE le lb br eb b0 be (qu2 at_) (tk2, qu2, qd2) el).2.2)), .int (oI (some b0)), .int (oI (freeE pl le lb br eb b0 el (qu2 at_)))])), kI G qr0 16 (nF ((qlE le lb br eb b0 be (qu2 at_) (tk2, qu2, qd2) el).2.1)), kI G qr1 16 (oF ((qlE le lb br eb b0 be (qu2 at_) (tk2, qu2, qd2) el).1)), (qp, .inr (4, [.ref qp0, .ref qp1, .int (b2i gv)])), kI G qp0 16 (oF eb), (qc, .inr (0, [.ref qc0, .ref qc1, .ref qc2, .ref qc3, .int (nI el), .int (nI be)])), kI G qc0 12 (nF pl), kI G qc1 192 (nF le), kI G qc2 192 (nF lb), kZ G qc3 192 (bF br)]) [0, 1, 2, 3, 4, 5, 7, 8, 9] rfl (j_rV X (b := qr) (As := [.ref qc, .ref qp, .int (nI (qu2 at_))]) (ci := 5) (rest := []) 3 (mX5_queueLeavers l G qr qr0 qr1 qd2 b0 (freeE pl le lb br eb b0 el (qu2 at_)) qu2 tk2 qp qp0 qp1 gv eb qc qc0 qc1 qc2 qc3 el be le lb br (qu2 at_) (by first | assumption | omega | exact ob_s (by omega) | exact ob_n) (by first | assumption | omega | exact ob_s (by omega) | exact ob_n) (by first | assumption | omega | exact ob_s (by omega) | exact ob_n) (by first | assumption | omega | exact ob_s (by omega) | exact ob_n) (by first | assumption | omega | exact ob_s (by omega) | exact ob_n) (by first | assumption | omega | exact ob_s (by omega) | exact ob_n) (by exact hok.2.1 at_) (by exact hok)) gX5_findLast_X5_queueLeavers rfl rfl rfl (by decide +kernel) ⟨Nat.le_of_ble_eq_true rfl, Nat.le_of_ble_eq_true rfl⟩ rfl rfl 0 rfl [0, 1, 2, 3, 4, 5, 7, 8, 9] rfl rfl rfl (Nat.le_of_ble_eq_true rfl) dX5_findLast_81 ⟨Nat.le_of_ble_eq_true rfl, Nat.le_of_ble_eq_true rfl⟩) rfl rfl ?_
          refine j_iinc (pc := 84) X (v := nI (at_ + 1)) (lv' := [(4, .int (nI (at_ + 1))), (5, .int (nI (qu2 at_))), (0, .ref qr), (1, .ref qc), (2, .ref qp)]) dX5_findLast_84 4 rfl (nI_1 _) (by decide) rfl ?_
          refine j_goto (pc := 87) X (tgt := 28) dX5_findLast_87 (by decide) ?_
          refine j_lv [2, 3, 4, 0] (lv' := [(0, .ref qr), (1, .ref qc), (2, .ref qp), (4, .int (nI (at_ + 1)))]) rfl ?_
          exact ih (at_ + 1) ((qlE le lb br eb b0 be (qu2 at_) (tk2, qu2, qd2) el).1) ((qlE le lb br eb b0 be (qu2 at_) (tk2, qu2, qd2) el).2.1) ((qlE le lb br eb b0 be (qu2 at_) (tk2, qu2, qd2) el).2.2) (freeE pl le lb br eb b0 el (qu2 at_)) (by omega) (qlE_ok hok (hok.2.1 at_) hbe el) (by rw [← hs, show 16 - at_ = (16 - (at_ + 1)) + 1 by omega]; rw [flF]; simp only [show 15 - (16 - (at_ + 1)) = at_ by omega]; rw [if_pos (by omega)]; simp [c_70]) (by omega)
        · skip
          refine j_iload (pc := 73) X dX5_findLast_73 0 rfl ?_
          have hs : flF pl le lb br eb b0 el be 16 (flI tk qu b0) fe = (some (qu2 at_), (tk2, qu2, qd2), freeE pl le lb br eb b0 el (qu2 at_)) := by rw [← hs, show 16 - at_ = (15 - at_) + 1 by omega]; rw [flF]; simp only [show 15 - (15 - at_) = at_ by omega]; rw [if_pos (by omega)]; obtain ⟨x, hx⟩ := Option.ne_none_iff_exists'.mp c_70; simp [hx]
          refine j_iret (pc := 75) X dX5_findLast_75 ?_
          rw [hs]; exact ⟨rfl, rfl⟩
set_option maxHeartbeats 4000000 in
set_option maxRecDepth 100000 in
theorem mX5_findLast (l : Launch) (G : jG) (qr : Nat) (qr0 : Nat) (qr1 : Nat) (qd : Nat) (fi : Option Nat) (fe : Option Nat) (qu : Nat → Nat) (tk : Nat → Option Nat) (qp : Nat) (qp0 : Nat) (qp1 : Nat) (gv : Bool) (eb : Nat → Option Nat) (qc : Nat) (qc0 : Nat) (qc1 : Nat) (qc2 : Nat) (qc3 : Nat) (el : Nat) (be : Nat) (pl : Nat → Nat) (le : Nat → Nat) (lb : Nat → Nat) (br : Nat → Bool) (b0 : Nat) (hel : el ≤ 12) (hbe : be ≤ 16) (hle : ∀ k, le k ≤ 100) (hlb : ∀ k, lb k ≤ 100) (hpl : ∀ k, pl k ≤ 4) (heb : ∀ k, ob 12 (eb k)) (hb0 : b0 < 16) (hqu : ∀ k, qu k < 16) (htk : ∀ k, ob 16 (tk k)) : MV l yX5_findLast wsX5_findLast ({ frames := 4, cells := 0, slots := 0, locals := 91 }) G [.ref qr, .ref qc, .ref qp, .int (nI b0)] [(qr, .inr (5, [.ref qr0, .ref qr1, .int (nI qd), .int (oI fi), .int (oI fe)])), kI G qr0 16 (nF qu), kI G qr1 16 (oF tk), (qp, .inr (4, [.ref qp0, .ref qp1, .int (b2i gv)])), kI G qp0 16 (oF eb), (qc, .inr (0, [.ref qc0, .ref qc1, .ref qc2, .ref qc3, .int (nI el), .int (nI be)])), kI G qc0 12 (nF pl), kI G qc1 192 (nF le), kI G qc2 192 (nF lb), kZ G qc3 192 (bF br)] (some (.int (oI ((flF pl le lb br eb b0 el be 16 (flI tk qu b0) fe).1)))) [(qr, .inr (5, [.ref qr0, .ref qr1, .int (nI ((flF pl le lb br eb b0 el be 16 (flI tk qu b0) fe).2.1.2.2)), .int (oI (some b0)), .int (oI ((flF pl le lb br eb b0 el be 16 (flI tk qu b0) fe).2.2))])), kI G qr0 16 (nF ((flF pl le lb br eb b0 el be 16 (flI tk qu b0) fe).2.1.2.1)), kI G qr1 16 (oF ((flF pl le lb br eb b0 el be 16 (flI tk qu b0) fe).2.1.1)), (qp, .inr (4, [.ref qp0, .ref qp1, .int (b2i gv)])), kI G qp0 16 (oF eb), (qc, .inr (0, [.ref qc0, .ref qc1, .ref qc2, .ref qc3, .int (nI el), .int (nI be)])), kI G qc0 12 (nF pl), kI G qc1 192 (nF le), kI G qc2 192 (nF lb), kZ G qc3 192 (bF br)] := by
  refine MF.ofJ (cc := cX5_findLast) (maxL := 6) (ret := (some .int)) (own := RX5) (lv := [(0, .ref qr), (1, .ref qc), (2, .ref qp), (3, .int (nI b0))]) (by decide) rfl rfl (Nat.le_of_ble_eq_true rfl) rfl ?_
  intro κ X
  have i_X0 : ∀ w ∈ wsX00, w ∈ wsX5_findLast := by decide +kernel
  have i_X4 : ∀ w ∈ wsX40, w ∈ wsX5_findLast := by decide +kernel
  have i_X5 : ∀ w ∈ wsX50, w ∈ wsX5_findLast := by decide +kernel
  refine j_aload_n (pc := 0) X dX5_findLast_0 rfl 0 rfl ?_
  refine j_get (pc := 1) X 5 i_X5 0 rfl rfl 1 (by decide) (by decide +kernel) rfl dX5_findLast_1 ?_
  refine j_iconst (pc := 4) X (v := oI none) dX5_findLast_4 (by decide) ?_
  refine j_cv (pc := 5) X (ws' := [(qr, .inr (5, [.ref qr0, .ref qr1, .int (nI qd), .int (oI fi), .int (oI fe)])), kI G qr0 16 (nF qu), kI G qr1 16 (oF (fil none tk 16)), (qp, .inr (4, [.ref qp0, .ref qp1, .int (b2i gv)])), kI G qp0 16 (oF eb), (qc, .inr (0, [.ref qc0, .ref qc1, .ref qc2, .ref qc3, .int (nI el), .int (nI be)])), kI G qc0 12 (nF pl), kI G qc1 192 (nF le), kI G qc2 192 (nF lb), kZ G qc3 192 (bF br)]) [2] rfl (j_rS X (As := [.ref qr1, .int (oI none)]) (rest := []) 2 (mJ7_fill_53178 l G qr1 16 tk none (by first | assumption | omega | exact ob_s (by omega) | exact ob_n)) gX5_findLast_J7_fill_53178 rfl rfl rfl (by decide +kernel) ⟨Nat.le_of_ble_eq_true rfl, Nat.le_of_ble_eq_true rfl⟩ rfl [2] rfl rfl rfl (Nat.le_of_ble_eq_true rfl) dX5_findLast_5 ⟨Nat.le_of_ble_eq_true rfl, Nat.le_of_ble_eq_true rfl⟩) rfl rfl ?_
  refine j_aload_n (pc := 8) X dX5_findLast_8 rfl 0 rfl ?_
  refine j_iload_n (pc := 9) X dX5_findLast_9 rfl 3 rfl ?_
  refine j_put (pc := 10) X (v := .int (nI b0)) (ws' := [(qr, .inr (5, [.ref qr0, .ref qr1, .int (nI qd), .int (oI (some b0)), .int (oI fe)])), kI G qr0 16 (nF qu), kI G qr1 16 (oF (fil none tk 16)), (qp, .inr (4, [.ref qp0, .ref qp1, .int (b2i gv)])), kI G qp0 16 (oF eb), (qc, .inr (0, [.ref qc0, .ref qc1, .ref qc2, .ref qc3, .int (nI el), .int (nI be)])), kI G qc0 12 (nF pl), kI G qc1 192 (nF le), kI G qc2 192 (nF lb), kZ G qc3 192 (bF br)]) 5 i_X5 tyX5 tyX5_ok nmX5 0 rfl rfl 3 (by decide) (by decide +kernel) (by decide) (rfl) (rfl) (Nat.le_of_ble_eq_true rfl) dX5_findLast_10 rfl ?_
  refine j_aload_n (pc := 13) X dX5_findLast_13 rfl 0 rfl ?_
  refine j_get (pc := 14) X 5 i_X5 0 rfl rfl 0 (by decide) (by decide +kernel) rfl dX5_findLast_14 ?_
  refine j_iconst (pc := 17) X (v := nI 0) dX5_findLast_17 (by decide) ?_
  refine j_iload_n (pc := 18) X dX5_findLast_18 rfl 3 rfl ?_
  refine j_iast (pc := 19) X (f2 := (nF (va_up qu 0 b0))) (ws' := [(qr, .inr (5, [.ref qr0, .ref qr1, .int (nI qd), .int (oI (some b0)), .int (oI fe)])), kI G qr0 16 (nF (va_up qu 0 b0)), kI G qr1 16 (oF (fil none tk 16)), (qp, .inr (4, [.ref qp0, .ref qp1, .int (b2i gv)])), kI G qp0 16 (oF eb), (qc, .inr (0, [.ref qc0, .ref qc1, .ref qc2, .ref qc3, .int (nI el), .int (nI be)])), kI G qc0 12 (nF pl), kI G qc1 192 (nF le), kI G qc2 192 (nF lb), kZ G qc3 192 (bF br)]) 1 rfl (vp_in_nI (by omega) (by decide)) dX5_findLast_19 (by rw [nI_clamp (by omega)]; exact nF_up qu 0 b0) rfl ?_
  refine j_aload_n (pc := 20) X dX5_findLast_20 rfl 0 rfl ?_
  refine j_iconst (pc := 21) X (v := nI 1) dX5_findLast_21 (by decide) ?_
  refine j_put (pc := 22) X (v := .int (nI 1)) (ws' := [(qr, .inr (5, [.ref qr0, .ref qr1, .int (nI 1), .int (oI (some b0)), .int (oI fe)])), kI G qr0 16 (nF (va_up qu 0 b0)), kI G qr1 16 (oF (fil none tk 16)), (qp, .inr (4, [.ref qp0, .ref qp1, .int (b2i gv)])), kI G qp0 16 (oF eb), (qc, .inr (0, [.ref qc0, .ref qc1, .ref qc2, .ref qc3, .int (nI el), .int (nI be)])), kI G qc0 12 (nF pl), kI G qc1 192 (nF le), kI G qc2 192 (nF lb), kZ G qc3 192 (bF br)]) 5 i_X5 tyX5 tyX5_ok nmX5 0 rfl rfl 2 (by decide) (by decide +kernel) (by decide) (rfl) (rfl) (Nat.le_of_ble_eq_true rfl) dX5_findLast_22 rfl ?_
  refine j_iconst (pc := 25) X (v := nI 0) dX5_findLast_25 (by decide) ?_
  refine j_istore (pc := 26) X (lv' := [(4, .int (nI 0)), (0, .ref qr), (1, .ref qc), (2, .ref qp), (3, .int (nI b0))]) dX5_findLast_26 (by decide) rfl ?_
  refine j_lv [1, 2, 3, 0] (lv' := [(0, .ref qr), (1, .ref qc), (2, .ref qp), (4, .int (nI 0))]) rfl ?_
  exact mX5_findLast_L28 l G qr qr0 qr1 qd fi fe qu tk qp qp0 qp1 gv eb qc qc0 qc1 qc2 qc3 el be pl le lb br b0 hel hbe hle hlb hpl heb hb0 hqu htk κ X    (16 - 0 + 1) 0 (fil none tk 16) (va_up qu 0 b0) 1 fe (by omega) (⟨ob_fil htk, nup_lt hqu hb0, Nat.le_of_ble_eq_true rfl⟩) (by rfl) (Nat.lt_succ_self _)

set_option maxHeartbeats 4000000 in
set_option maxRecDepth 100000 in
theorem mX5_moveAll_L11 (l : Launch) (G : jG) (qr : Nat) (qr0 : Nat) (qr1 : Nat) (qd : Nat) (fi : Option Nat) (fe : Option Nat) (tk : Nat → Option Nat) (qp : Nat) (qp0 : Nat) (qp1 : Nat) (gv : Bool) (eb : Nat → Option Nat) (la : Nat) (heb : ∀ k, ob 12 (eb k)) (hla : la < 16) (htk : ∀ k, ob 16 (tk k)) (hfe : ob 12 fe) (κ : jK) (X : CX κ l yX5_moveAll cX5_moveAll 7 RX5 wsX5_moveAll (some .int) ({ frames := 0, cells := 0, slots := 0, locals := 0 }) G (va_A [(qr, .inr (5, [.ref qr0, .ref qr1, .int (nI qd), .int (oI fi), .int (oI fe)])), kI G qr1 16 (oF tk), (qp, .inr (4, [.ref qp0, .ref qp1, .int (b2i gv)])), kI G qp0 16 (oF eb)] (js κ).heap.size))    : ∀ (fu : Nat) (k : Nat) (mv : Option Nat) (to : Option Nat) (e2 : Nat → Option Nat) (hk : k ≤ 16) (hmv : ob 16 mv) (hto : ob 12 to) (he2 : ∀ k, ob 12 (e2 k)) (hs : mvF tk (16 - k) e2 mv to k = mvF tk 16 eb (some la) fe 0) (_ : 16 - k < fu), JJ κ 7 G (va_A [(qr, .inr (5, [.ref qr0, .ref qr1, .int (nI qd), .int (oI fi), .int (oI fe)])), kI G qr1 16 (oF tk), (qp, .inr (4, [.ref qp0, .ref qp1, .int (b2i gv)])), kI G qp0 16 (oF eb)] (js κ).heap.size) 0 0 (jQ κ G [(qr, .inr (5, [.ref qr0, .ref qr1, .int (nI qd), .int (oI fi), .int (oI fe)])), kI G qr1 16 (oF tk), (qp, .inr (4, [.ref qp0, .ref qp1, .int (b2i gv)])), kI G qp0 16 (oF eb)] (fun r w' => r = some (.int (nI ((mvF tk 16 eb (some la) fe 0).2))) ∧ w' = [(qr, .inr (5, [.ref qr0, .ref qr1, .int (nI qd), .int (oI fi), .int (oI fe)])), kI G qr1 16 (oF tk), (qp, .inr (4, [.ref qp0, .ref qp1, .int (b2i gv)])), kI G qp0 16 (oF ((mvF tk 16 eb (some la) fe 0).1))]) 0 0) 11 [(0, .ref qr), (1, .ref qp), (3, .int (oI mv)), (4, .int (oI to)), (5, .int (nI k))] [] [(qr, .inr (5, [.ref qr0, .ref qr1, .int (nI qd), .int (oI fi), .int (oI fe)])), kI G qr1 16 (oF tk), (qp, .inr (4, [.ref qp0, .ref qp1, .int (b2i gv)])), kI G qp0 16 (oF e2)] := by
  have i_X4 : ∀ w ∈ wsX40, w ∈ wsX5_moveAll := by decide +kernel
  have i_X5 : ∀ w ∈ wsX50, w ∈ wsX5_moveAll := by decide +kernel
  intro fu
  induction fu with
  | zero => intro k mv to e2 hk hmv hto he2 hs hms; exact absurd hms (Nat.not_lt_zero _)
  | succ fu ih =>
    intro k mv to e2 hk hmv hto he2 hs hms
    refine j_iload (pc := 11) X dX5_moveAll_11 4 rfl ?_
    refine j_bipush (pc := 13) X (v := nI 16) dX5_moveAll_13 (by decide) ?_
    refine j_icmpN_ge (pc := 15) X (a := k) (b := 16) (by omega) (by omega) (tgt := 56) dX5_moveAll_15 (by decide) (fun c_15 => ?_) (fun c_15 => ?_)
    · skip
      refine j_iload (pc := 56) X dX5_moveAll_56 4 rfl ?_
      have hs : mvF tk 16 eb (some la) fe 0 = (e2, k) := by rw [← hs, show 16 - k = 0 by omega]; rfl
      refine j_iret (pc := 58) X dX5_moveAll_58 ?_
      rw [hs]; exact ⟨rfl, rfl⟩
    · skip
      refine j_iload_n (pc := 18) X dX5_moveAll_18 rfl 2 rfl ?_
      refine j_iconst (pc := 19) X (v := oI none) dX5_moveAll_19 (by decide) ?_
      refine j_icmpZ_eq (pc := 20) X (a := mv) (by exact hmv.big (by decide)) (tgt := 56) dX5_moveAll_20 (by decide) (fun c_20 => ?_) (fun c_20 => ?_)
      · skip
        refine j_iload (pc := 56) X dX5_moveAll_56 4 rfl ?_
        have hs : mvF tk 16 eb (some la) fe 0 = (e2, k) := by rw [← hs, c_20]; cases 16 - k <;> rfl
        refine j_iret (pc := 58) X dX5_moveAll_58 ?_
        rw [hs]; exact ⟨rfl, rfl⟩
      · skip
        obtain ⟨m, rfl⟩ := Option.ne_none_iff_exists'.mp c_20; have hm16 := hmv m rfl
        refine j_aload_n (pc := 23) X dX5_moveAll_23 rfl 1 rfl ?_
        refine j_getN (pc := 24) X 4 i_X4 2 rfl rfl 0 (by decide) (by decide +kernel) rfl dX5_moveAll_24 ?_
        refine j_iload_n (pc := 27) X dX5_moveAll_27 rfl 2 rfl ?_
        refine j_iald (pc := 28) X 3 rfl (vp_in_nI (by omega) (by decide)) (v := oI (e2 m)) (congrArg (oF e2) (nI_clamp (by omega))) dX5_moveAll_28 ?_
        refine j_istore (pc := 29) X (lv' := [(6, .int (oI (e2 m))), (0, .ref qr), (1, .ref qp), (3, .int (nI m)), (4, .int (oI to)), (5, .int (nI k))]) dX5_moveAll_29 (by decide) rfl ?_
        refine j_aload_n (pc := 31) X dX5_moveAll_31 rfl 2 rfl ?_
        refine j_getN (pc := 32) X 4 i_X4 2 rfl rfl 0 (by decide) (by decide +kernel) rfl dX5_moveAll_32 ?_
        refine j_iload_n (pc := 35) X dX5_moveAll_35 rfl 3 rfl ?_
        refine j_iload (pc := 36) X dX5_moveAll_36 4 rfl ?_
        refine j_iast (pc := 38) X (f2 := (oF (va_up e2 m to))) (ws' := [(qr, .inr (5, [.ref qr0, .ref qr1, .int (nI qd), .int (oI fi), .int (oI fe)])), kI G qr1 16 (oF tk), (qp, .inr (4, [.ref qp0, .ref qp1, .int (b2i gv)])), kI G qp0 16 (oF (va_up e2 m to))]) 3 rfl (vp_in_nI (by omega) (by decide)) dX5_moveAll_38 (by rw [nI_clamp (by omega)]; exact oF_up e2 m to) rfl ?_
        refine j_iload (pc := 39) X dX5_moveAll_39 0 rfl ?_
        refine j_istore (pc := 41) X (lv' := [(4, .int (oI (e2 m))), (6, .int (oI (e2 m))), (0, .ref qr), (1, .ref qp), (3, .int (nI m)), (5, .int (nI k))]) dX5_moveAll_41 (by decide) rfl ?_
        refine j_aload_n (pc := 43) X dX5_moveAll_43 rfl 2 rfl ?_
        refine j_get (pc := 44) X 5 i_X5 0 rfl rfl 1 (by decide) (by decide +kernel) rfl dX5_moveAll_44 ?_
        refine j_iload_n (pc := 47) X dX5_moveAll_47 rfl 4 rfl ?_
        refine j_iald (pc := 48) X 1 rfl (vp_in_nI (by omega) (by decide)) (v := oI (tk m)) (congrArg (oF tk) (nI_clamp (by omega))) dX5_moveAll_48 ?_
        refine j_istore_n (pc := 49) X (lv' := [(3, .int (oI (tk m))), (4, .int (oI (e2 m))), (6, .int (oI (e2 m))), (0, .ref qr), (1, .ref qp), (5, .int (nI k))]) dX5_moveAll_49 rfl (by decide) rfl ?_
        refine j_iinc (pc := 50) X (v := nI (k + 1)) (lv' := [(5, .int (nI (k + 1))), (3, .int (oI (tk m))), (4, .int (oI (e2 m))), (6, .int (oI (e2 m))), (0, .ref qr), (1, .ref qp)]) dX5_moveAll_50 5 rfl (nI_1 _) (by decide) rfl ?_
        refine j_goto (pc := 53) X (tgt := 11) dX5_moveAll_53 (by decide) ?_
        refine j_lv [4, 5, 1, 2, 0] (lv' := [(0, .ref qr), (1, .ref qp), (3, .int (oI (tk m))), (4, .int (oI (e2 m))), (5, .int (nI (k + 1)))]) rfl ?_
        exact ih (k + 1) (tk m) (e2 m) (va_up e2 m to) (by omega) (htk _) (he2 _) (ob_up he2 hto) (by rw [← hs, show 16 - k = (16 - (k + 1)) + 1 by omega]; rfl) (by omega)
set_option maxHeartbeats 4000000 in
set_option maxRecDepth 100000 in
theorem mX5_moveAll (l : Launch) (G : jG) (qr : Nat) (qr0 : Nat) (qr1 : Nat) (qd : Nat) (fi : Option Nat) (fe : Option Nat) (tk : Nat → Option Nat) (qp : Nat) (qp0 : Nat) (qp1 : Nat) (gv : Bool) (eb : Nat → Option Nat) (la : Nat) (heb : ∀ k, ob 12 (eb k)) (hla : la < 16) (htk : ∀ k, ob 16 (tk k)) (hfe : ob 12 fe) : MV l yX5_moveAll wsX5_moveAll ({ frames := 0, cells := 0, slots := 0, locals := 0 }) G [.ref qr, .ref qp, .int (nI la)] [(qr, .inr (5, [.ref qr0, .ref qr1, .int (nI qd), .int (oI fi), .int (oI fe)])), kI G qr1 16 (oF tk), (qp, .inr (4, [.ref qp0, .ref qp1, .int (b2i gv)])), kI G qp0 16 (oF eb)] (some (.int (nI ((mvF tk 16 eb (some la) fe 0).2)))) [(qr, .inr (5, [.ref qr0, .ref qr1, .int (nI qd), .int (oI fi), .int (oI fe)])), kI G qr1 16 (oF tk), (qp, .inr (4, [.ref qp0, .ref qp1, .int (b2i gv)])), kI G qp0 16 (oF ((mvF tk 16 eb (some la) fe 0).1))] := by
  refine MF.ofJ (cc := cX5_moveAll) (maxL := 7) (ret := (some .int)) (own := RX5) (lv := [(0, .ref qr), (1, .ref qp), (2, .int (nI la))]) (by decide) rfl rfl (Nat.le_of_ble_eq_true rfl) rfl ?_
  intro κ X
  have i_X4 : ∀ w ∈ wsX40, w ∈ wsX5_moveAll := by decide +kernel
  have i_X5 : ∀ w ∈ wsX50, w ∈ wsX5_moveAll := by decide +kernel
  refine j_iload_n (pc := 0) X dX5_moveAll_0 rfl 2 rfl ?_
  refine j_istore_n (pc := 1) X (lv' := [(3, .int (nI la)), (0, .ref qr), (1, .ref qp), (2, .int (nI la))]) dX5_moveAll_1 rfl (by decide) rfl ?_
  refine j_aload_n (pc := 2) X dX5_moveAll_2 rfl 1 rfl ?_
  refine j_get (pc := 3) X 5 i_X5 0 rfl rfl 4 (by decide) (by decide +kernel) rfl dX5_moveAll_3 ?_
  refine j_istore (pc := 6) X (lv' := [(4, .int (oI fe)), (3, .int (nI la)), (0, .ref qr), (1, .ref qp), (2, .int (nI la))]) dX5_moveAll_6 (by decide) rfl ?_
  refine j_iconst (pc := 8) X (v := nI 0) dX5_moveAll_8 (by decide) ?_
  refine j_istore (pc := 9) X (lv' := [(5, .int (nI 0)), (4, .int (oI fe)), (3, .int (nI la)), (0, .ref qr), (1, .ref qp), (2, .int (nI la))]) dX5_moveAll_9 (by decide) rfl ?_
  refine j_lv [3, 4, 2, 1, 0] (lv' := [(0, .ref qr), (1, .ref qp), (3, .int (nI la)), (4, .int (oI fe)), (5, .int (nI 0))]) rfl ?_
  refine j_lvq (lv' := [(0, .ref qr), (1, .ref qp), (3, .int (oI (some la))), (4, .int (oI fe)), (5, .int (nI 0))]) rfl ?_
  exact mX5_moveAll_L11 l G qr qr0 qr1 qd fi fe tk qp qp0 qp1 gv eb la heb hla htk hfe κ X    (16 - 0 + 1) 0 (some la) fe eb (by omega) (ob_s hla) (hfe) (heb) (by rfl) (Nat.lt_succ_self _)

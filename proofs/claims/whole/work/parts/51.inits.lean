set_option maxHeartbeats 4000000 in
set_option maxRecDepth 100000 in
theorem mX0_init (l : Launch) (G : jG) (qc : Nat) : MF l yX0_init wsX0_init ({ frames := 1, cells := 4, slots := 588, locals := 20 }) G [.ref qc] [(qc, .inr (0, [.null, .null, .null, .null, .int (nI 0), .int (nI 0)]))] 4 588 (fun r w' => r = none ∧ ∃ (qc0 : Nat) (qc1 : Nat) (qc2 : Nat) (qc3 : Nat), w' = [(qc, .inr (0, [.ref qc0, .ref qc1, .ref qc2, .ref qc3, .int (nI 0), .int (nI 0)])), kI G qc0 12 (nF (fun _ => 0)), kI G qc1 192 (nF (fun _ => 0)), kI G qc2 192 (nF (fun _ => 0)), kZ G qc3 192 (bF (fun _ => false))]) := by
  refine MF.ofJ (cc := cX0_init) (maxL := 1) (ret := none) (own := RX0) (lv := [(0, .ref qc)]) (by decide) rfl rfl (Nat.le_of_ble_eq_true rfl) rfl ?_
  intro κ X
  have i_X0 : ∀ w ∈ wsX00, w ∈ wsX0_init := by decide +kernel
  refine j_aload_n (pc := 0) X dX0_init_0 rfl 0 rfl ?_
  refine j_objI (pc := 1) X (by decide +kernel) (by decide +kernel) (by decide +kernel) dX0_init_1 (Nat.le_of_ble_eq_true rfl) (Nat.le_of_ble_eq_true rfl) (Nat.le_of_ble_eq_true rfl) ?_
  refine j_aload_n (pc := 4) X dX0_init_4 rfl 0 rfl ?_
  refine j_bipush (pc := 5) X (v := nI 12) dX0_init_5 (by decide) ?_
  refine j_newI (pc := 7) X 12 (by decide +kernel) (by decide) (by decide) (Nat.le_of_ble_eq_true rfl) (Nat.le_of_ble_eq_true rfl) (Nat.le_of_ble_eq_true rfl) dX0_init_7 (f := (nF (fun _ => 0))) (fun _ _ => rfl) (wf := fun v1 => [(qc, .inr (0, [.null, .null, .null, .null, .int (nI 0), .int (nI 0)])), kI G v1 12 (nF (fun _ => 0))]) (fun _ => rfl) (cs' := 1) (ss' := 12) rfl rfl (fun v1 => ?_)
  refine j_putF (pc := 9) X (v := .ref v1) (ws' := [(qc, .inr (0, [.ref v1, .null, .null, .null, .int (nI 0), .int (nI 0)])), kI G v1 12 (nF (fun _ => 0))]) 0 i_X0 tyX0 tyX0_ok nmX0 0 rfl rfl 0 (by decide) (by decide +kernel) (by decide) rfl rfl rfl rfl (Nat.le_of_ble_eq_true rfl) dX0_init_9 rfl ?_
  refine j_aload_n (pc := 12) X dX0_init_12 rfl 0 rfl ?_
  refine j_sipush (pc := 13) X (v := nI 192) dX0_init_13 (by decide) ?_
  refine j_newI (pc := 16) X 192 (by decide +kernel) (by decide) (by decide) (Nat.le_of_ble_eq_true rfl) (Nat.le_of_ble_eq_true rfl) (Nat.le_of_ble_eq_true rfl) dX0_init_16 (f := (nF (fun _ => 0))) (fun _ _ => rfl) (wf := fun v2 => [(qc, .inr (0, [.ref v1, .null, .null, .null, .int (nI 0), .int (nI 0)])), kI G v1 12 (nF (fun _ => 0)), kI G v2 192 (nF (fun _ => 0))]) (fun _ => rfl) (cs' := 2) (ss' := 204) rfl rfl (fun v2 => ?_)
  refine j_putF (pc := 18) X (v := .ref v2) (ws' := [(qc, .inr (0, [.ref v1, .ref v2, .null, .null, .int (nI 0), .int (nI 0)])), kI G v1 12 (nF (fun _ => 0)), kI G v2 192 (nF (fun _ => 0))]) 0 i_X0 tyX0 tyX0_ok nmX0 0 rfl rfl 1 (by decide) (by decide +kernel) (by decide) rfl rfl rfl rfl (Nat.le_of_ble_eq_true rfl) dX0_init_18 rfl ?_
  refine j_aload_n (pc := 21) X dX0_init_21 rfl 0 rfl ?_
  refine j_sipush (pc := 22) X (v := nI 192) dX0_init_22 (by decide) ?_
  refine j_newI (pc := 25) X 192 (by decide +kernel) (by decide) (by decide) (Nat.le_of_ble_eq_true rfl) (Nat.le_of_ble_eq_true rfl) (Nat.le_of_ble_eq_true rfl) dX0_init_25 (f := (nF (fun _ => 0))) (fun _ _ => rfl) (wf := fun v3 => [(qc, .inr (0, [.ref v1, .ref v2, .null, .null, .int (nI 0), .int (nI 0)])), kI G v1 12 (nF (fun _ => 0)), kI G v2 192 (nF (fun _ => 0)), kI G v3 192 (nF (fun _ => 0))]) (fun _ => rfl) (cs' := 3) (ss' := 396) rfl rfl (fun v3 => ?_)
  refine j_putF (pc := 27) X (v := .ref v3) (ws' := [(qc, .inr (0, [.ref v1, .ref v2, .ref v3, .null, .int (nI 0), .int (nI 0)])), kI G v1 12 (nF (fun _ => 0)), kI G v2 192 (nF (fun _ => 0)), kI G v3 192 (nF (fun _ => 0))]) 0 i_X0 tyX0 tyX0_ok nmX0 0 rfl rfl 2 (by decide) (by decide +kernel) (by decide) rfl rfl rfl rfl (Nat.le_of_ble_eq_true rfl) dX0_init_27 rfl ?_
  refine j_aload_n (pc := 30) X dX0_init_30 rfl 0 rfl ?_
  refine j_sipush (pc := 31) X (v := nI 192) dX0_init_31 (by decide) ?_
  refine j_newZ (pc := 34) X 192 (by decide +kernel) (by decide) (by decide) (Nat.le_of_ble_eq_true rfl) (Nat.le_of_ble_eq_true rfl) (Nat.le_of_ble_eq_true rfl) dX0_init_34 (f := (bF (fun _ => false))) (fun _ _ => rfl) (wf := fun v4 => [(qc, .inr (0, [.ref v1, .ref v2, .ref v3, .null, .int (nI 0), .int (nI 0)])), kI G v1 12 (nF (fun _ => 0)), kI G v2 192 (nF (fun _ => 0)), kI G v3 192 (nF (fun _ => 0)), kZ G v4 192 (bF (fun _ => false))]) (fun _ => rfl) (cs' := 4) (ss' := 588) rfl rfl (fun v4 => ?_)
  refine j_putF (pc := 36) X (v := .ref v4) (ws' := [(qc, .inr (0, [.ref v1, .ref v2, .ref v3, .ref v4, .int (nI 0), .int (nI 0)])), kI G v1 12 (nF (fun _ => 0)), kI G v2 192 (nF (fun _ => 0)), kI G v3 192 (nF (fun _ => 0)), kZ G v4 192 (bF (fun _ => false))]) 0 i_X0 tyX0 tyX0_ok nmX0 0 rfl rfl 3 (by decide) (by decide +kernel) (by decide) rfl rfl rfl rfl (Nat.le_of_ble_eq_true rfl) dX0_init_36 rfl ?_
  refine j_aload_n (pc := 39) X dX0_init_39 rfl 0 rfl ?_
  refine j_iconst (pc := 40) X (v := nI 0) dX0_init_40 (by decide) ?_
  refine j_put (pc := 41) X (v := .int (nI 0)) (ws' := [(qc, .inr (0, [.ref v1, .ref v2, .ref v3, .ref v4, .int (nI 0), .int (nI 0)])), kI G v1 12 (nF (fun _ => 0)), kI G v2 192 (nF (fun _ => 0)), kI G v3 192 (nF (fun _ => 0)), kZ G v4 192 (bF (fun _ => false))]) 0 i_X0 tyX0 tyX0_ok nmX0 0 rfl rfl 4 (by decide) (by decide +kernel) (by decide) (rfl) (rfl) (Nat.le_of_ble_eq_true rfl) dX0_init_41 rfl ?_
  refine j_aload_n (pc := 44) X dX0_init_44 rfl 0 rfl ?_
  refine j_iconst (pc := 45) X (v := nI 0) dX0_init_45 (by decide) ?_
  refine j_put (pc := 46) X (v := .int (nI 0)) (ws' := [(qc, .inr (0, [.ref v1, .ref v2, .ref v3, .ref v4, .int (nI 0), .int (nI 0)])), kI G v1 12 (nF (fun _ => 0)), kI G v2 192 (nF (fun _ => 0)), kI G v3 192 (nF (fun _ => 0)), kZ G v4 192 (bF (fun _ => false))]) 0 i_X0 tyX0 tyX0_ok nmX0 0 rfl rfl 5 (by decide) (by decide +kernel) (by decide) (rfl) (rfl) (Nat.le_of_ble_eq_true rfl) dX0_init_46 rfl ?_
  exact j_vret (pc := 49) X dX0_init_49 ⟨rfl, v1, v2, v3, v4, rfl⟩

set_option maxHeartbeats 4000000 in
set_option maxRecDepth 100000 in
theorem mX1_init (l : Launch) (G : jG) (qf : Nat) : MF l yX1_init wsX1_init ({ frames := 1, cells := 0, slots := 0, locals := 20 }) G [.ref qf] [(qf, .inr (1, [.long 0, .long 0]))] 0 0 (fun r w' => r = none ∧ w' = [(qf, .inr (1, [.long 0, .long 1]))]) := by
  refine MF.ofJ (cc := cX1_init) (maxL := 1) (ret := none) (own := RX1) (lv := [(0, .ref qf)]) (by decide) rfl rfl (Nat.le_of_ble_eq_true rfl) rfl ?_
  intro κ X
  have i_X1 : ∀ w ∈ wsX10, w ∈ wsX1_init := by decide +kernel
  refine j_aload_n (pc := 0) X dX1_init_0 rfl 0 rfl ?_
  refine j_objI (pc := 1) X (by decide +kernel) (by decide +kernel) (by decide +kernel) dX1_init_1 (Nat.le_of_ble_eq_true rfl) (Nat.le_of_ble_eq_true rfl) (Nat.le_of_ble_eq_true rfl) ?_
  refine j_aload_n (pc := 4) X dX1_init_4 rfl 0 rfl ?_
  refine j_lconst (pc := 5) X (v := 0) dX1_init_5 (by decide) ?_
  refine j_put (pc := 6) X (v := .long 0) (ws' := [(qf, .inr (1, [.long 0, .long 0]))]) 1 i_X1 tyX1 tyX1_ok nmX1 0 rfl rfl 0 (by decide) (by decide +kernel) (by decide) (rfl) (rfl) (Nat.le_of_ble_eq_true rfl) dX1_init_6 rfl ?_
  refine j_aload_n (pc := 9) X dX1_init_9 rfl 0 rfl ?_
  refine j_lconst (pc := 10) X (v := 1) dX1_init_10 (by decide) ?_
  refine j_put (pc := 11) X (v := .long 1) (ws' := [(qf, .inr (1, [.long 0, .long 1]))]) 1 i_X1 tyX1 tyX1_ok nmX1 0 rfl rfl 1 (by decide) (by decide +kernel) (by decide) (rfl) (rfl) (Nat.le_of_ble_eq_true rfl) dX1_init_11 rfl ?_
  exact j_vret (pc := 14) X dX1_init_14 ⟨rfl, rfl⟩

set_option maxHeartbeats 4000000 in
set_option maxRecDepth 100000 in
theorem mX2_init (l : Launch) (G : jG) (qg : Nat) : MF l yX2_init wsX2_init ({ frames := 1, cells := 4, slots := 160, locals := 20 }) G [.ref qg] [(qg, .inr (2, [.null, .null, .null, .null, .int (nI 0)]))] 4 160 (fun r w' => r = none ∧ ∃ (qg0 : Nat) (qg1 : Nat) (qg2 : Nat) (qg3 : Nat), w' = [(qg, .inr (2, [.ref qg0, .ref qg1, .ref qg2, .ref qg3, .int (nI 0)])), kI G qg0 40 (nF (fun _ => 0)), kI G qg1 40 (nF (fun _ => 0)), kI G qg2 40 (oF (fun _ => some 0)), kI G qg3 40 (oF (fun _ => some 0))]) := by
  refine MF.ofJ (cc := cX2_init) (maxL := 1) (ret := none) (own := RX2) (lv := [(0, .ref qg)]) (by decide) rfl rfl (Nat.le_of_ble_eq_true rfl) rfl ?_
  intro κ X
  have i_X2 : ∀ w ∈ wsX20, w ∈ wsX2_init := by decide +kernel
  refine j_aload_n (pc := 0) X dX2_init_0 rfl 0 rfl ?_
  refine j_objI (pc := 1) X (by decide +kernel) (by decide +kernel) (by decide +kernel) dX2_init_1 (Nat.le_of_ble_eq_true rfl) (Nat.le_of_ble_eq_true rfl) (Nat.le_of_ble_eq_true rfl) ?_
  refine j_aload_n (pc := 4) X dX2_init_4 rfl 0 rfl ?_
  refine j_bipush (pc := 5) X (v := nI 40) dX2_init_5 (by decide) ?_
  refine j_newI (pc := 7) X 40 (by decide +kernel) (by decide) (by decide) (Nat.le_of_ble_eq_true rfl) (Nat.le_of_ble_eq_true rfl) (Nat.le_of_ble_eq_true rfl) dX2_init_7 (f := (nF (fun _ => 0))) (fun _ _ => rfl) (wf := fun v1 => [(qg, .inr (2, [.null, .null, .null, .null, .int (nI 0)])), kI G v1 40 (nF (fun _ => 0))]) (fun _ => rfl) (cs' := 1) (ss' := 40) rfl rfl (fun v1 => ?_)
  refine j_putF (pc := 9) X (v := .ref v1) (ws' := [(qg, .inr (2, [.ref v1, .null, .null, .null, .int (nI 0)])), kI G v1 40 (nF (fun _ => 0))]) 2 i_X2 tyX2 tyX2_ok nmX2 0 rfl rfl 0 (by decide) (by decide +kernel) (by decide) rfl rfl rfl rfl (Nat.le_of_ble_eq_true rfl) dX2_init_9 rfl ?_
  refine j_aload_n (pc := 12) X dX2_init_12 rfl 0 rfl ?_
  refine j_bipush (pc := 13) X (v := nI 40) dX2_init_13 (by decide) ?_
  refine j_newI (pc := 15) X 40 (by decide +kernel) (by decide) (by decide) (Nat.le_of_ble_eq_true rfl) (Nat.le_of_ble_eq_true rfl) (Nat.le_of_ble_eq_true rfl) dX2_init_15 (f := (nF (fun _ => 0))) (fun _ _ => rfl) (wf := fun v2 => [(qg, .inr (2, [.ref v1, .null, .null, .null, .int (nI 0)])), kI G v1 40 (nF (fun _ => 0)), kI G v2 40 (nF (fun _ => 0))]) (fun _ => rfl) (cs' := 2) (ss' := 80) rfl rfl (fun v2 => ?_)
  refine j_putF (pc := 17) X (v := .ref v2) (ws' := [(qg, .inr (2, [.ref v1, .ref v2, .null, .null, .int (nI 0)])), kI G v1 40 (nF (fun _ => 0)), kI G v2 40 (nF (fun _ => 0))]) 2 i_X2 tyX2 tyX2_ok nmX2 0 rfl rfl 1 (by decide) (by decide +kernel) (by decide) rfl rfl rfl rfl (Nat.le_of_ble_eq_true rfl) dX2_init_17 rfl ?_
  refine j_aload_n (pc := 20) X dX2_init_20 rfl 0 rfl ?_
  refine j_bipush (pc := 21) X (v := nI 40) dX2_init_21 (by decide) ?_
  refine j_newI (pc := 23) X 40 (by decide +kernel) (by decide) (by decide) (Nat.le_of_ble_eq_true rfl) (Nat.le_of_ble_eq_true rfl) (Nat.le_of_ble_eq_true rfl) dX2_init_23 (f := (oF (fun _ => some 0))) (fun _ _ => rfl) (wf := fun v3 => [(qg, .inr (2, [.ref v1, .ref v2, .null, .null, .int (nI 0)])), kI G v1 40 (nF (fun _ => 0)), kI G v2 40 (nF (fun _ => 0)), kI G v3 40 (oF (fun _ => some 0))]) (fun _ => rfl) (cs' := 3) (ss' := 120) rfl rfl (fun v3 => ?_)
  refine j_putF (pc := 25) X (v := .ref v3) (ws' := [(qg, .inr (2, [.ref v1, .ref v2, .ref v3, .null, .int (nI 0)])), kI G v1 40 (nF (fun _ => 0)), kI G v2 40 (nF (fun _ => 0)), kI G v3 40 (oF (fun _ => some 0))]) 2 i_X2 tyX2 tyX2_ok nmX2 0 rfl rfl 2 (by decide) (by decide +kernel) (by decide) rfl rfl rfl rfl (Nat.le_of_ble_eq_true rfl) dX2_init_25 rfl ?_
  refine j_aload_n (pc := 28) X dX2_init_28 rfl 0 rfl ?_
  refine j_bipush (pc := 29) X (v := nI 40) dX2_init_29 (by decide) ?_
  refine j_newI (pc := 31) X 40 (by decide +kernel) (by decide) (by decide) (Nat.le_of_ble_eq_true rfl) (Nat.le_of_ble_eq_true rfl) (Nat.le_of_ble_eq_true rfl) dX2_init_31 (f := (oF (fun _ => some 0))) (fun _ _ => rfl) (wf := fun v4 => [(qg, .inr (2, [.ref v1, .ref v2, .ref v3, .null, .int (nI 0)])), kI G v1 40 (nF (fun _ => 0)), kI G v2 40 (nF (fun _ => 0)), kI G v3 40 (oF (fun _ => some 0)), kI G v4 40 (oF (fun _ => some 0))]) (fun _ => rfl) (cs' := 4) (ss' := 160) rfl rfl (fun v4 => ?_)
  refine j_putF (pc := 33) X (v := .ref v4) (ws' := [(qg, .inr (2, [.ref v1, .ref v2, .ref v3, .ref v4, .int (nI 0)])), kI G v1 40 (nF (fun _ => 0)), kI G v2 40 (nF (fun _ => 0)), kI G v3 40 (oF (fun _ => some 0)), kI G v4 40 (oF (fun _ => some 0))]) 2 i_X2 tyX2 tyX2_ok nmX2 0 rfl rfl 3 (by decide) (by decide +kernel) (by decide) rfl rfl rfl rfl (Nat.le_of_ble_eq_true rfl) dX2_init_33 rfl ?_
  refine j_aload_n (pc := 36) X dX2_init_36 rfl 0 rfl ?_
  refine j_iconst (pc := 37) X (v := nI 0) dX2_init_37 (by decide) ?_
  refine j_put (pc := 38) X (v := .int (nI 0)) (ws' := [(qg, .inr (2, [.ref v1, .ref v2, .ref v3, .ref v4, .int (nI 0)])), kI G v1 40 (nF (fun _ => 0)), kI G v2 40 (nF (fun _ => 0)), kI G v3 40 (oF (fun _ => some 0)), kI G v4 40 (oF (fun _ => some 0))]) 2 i_X2 tyX2 tyX2_ok nmX2 0 rfl rfl 4 (by decide) (by decide +kernel) (by decide) (rfl) (rfl) (Nat.le_of_ble_eq_true rfl) dX2_init_38 rfl ?_
  exact j_vret (pc := 41) X dX2_init_41 ⟨rfl, v1, v2, v3, v4, rfl⟩

set_option maxHeartbeats 4000000 in
set_option maxRecDepth 100000 in
theorem mX3_init (l : Launch) (G : jG) (qm : Nat) : MF l yX3_init wsX3_init ({ frames := 1, cells := 5, slots := 800, locals := 20 }) G [.ref qm] [(qm, .inr (3, [.null, .null, .null, .null, .null, .int (nI 0), .int (nI 0)]))] 5 800 (fun r w' => r = none ∧ ∃ (qm0 : Nat) (qm1 : Nat) (qm2 : Nat) (qm3 : Nat) (qm4 : Nat), w' = [(qm, .inr (3, [.ref qm0, .ref qm1, .ref qm2, .ref qm3, .ref qm4, .int (nI 0), .int (nI 0)])), kI G qm0 100 (nF (fun _ => 0)), kI G qm1 100 (nF (fun _ => 0)), kI G qm2 200 (nF (fun _ => 0)), kI G qm3 200 (nF (fun _ => 0)), kZ G qm4 200 (bF (fun _ => false))]) := by
  refine MF.ofJ (cc := cX3_init) (maxL := 1) (ret := none) (own := RX3) (lv := [(0, .ref qm)]) (by decide) rfl rfl (Nat.le_of_ble_eq_true rfl) rfl ?_
  intro κ X
  have i_X3 : ∀ w ∈ wsX30, w ∈ wsX3_init := by decide +kernel
  refine j_aload_n (pc := 0) X dX3_init_0 rfl 0 rfl ?_
  refine j_objI (pc := 1) X (by decide +kernel) (by decide +kernel) (by decide +kernel) dX3_init_1 (Nat.le_of_ble_eq_true rfl) (Nat.le_of_ble_eq_true rfl) (Nat.le_of_ble_eq_true rfl) ?_
  refine j_aload_n (pc := 4) X dX3_init_4 rfl 0 rfl ?_
  refine j_bipush (pc := 5) X (v := nI 100) dX3_init_5 (by decide) ?_
  refine j_newI (pc := 7) X 100 (by decide +kernel) (by decide) (by decide) (Nat.le_of_ble_eq_true rfl) (Nat.le_of_ble_eq_true rfl) (Nat.le_of_ble_eq_true rfl) dX3_init_7 (f := (nF (fun _ => 0))) (fun _ _ => rfl) (wf := fun v1 => [(qm, .inr (3, [.null, .null, .null, .null, .null, .int (nI 0), .int (nI 0)])), kI G v1 100 (nF (fun _ => 0))]) (fun _ => rfl) (cs' := 1) (ss' := 100) rfl rfl (fun v1 => ?_)
  refine j_putF (pc := 9) X (v := .ref v1) (ws' := [(qm, .inr (3, [.ref v1, .null, .null, .null, .null, .int (nI 0), .int (nI 0)])), kI G v1 100 (nF (fun _ => 0))]) 3 i_X3 tyX3 tyX3_ok nmX3 0 rfl rfl 0 (by decide) (by decide +kernel) (by decide) rfl rfl rfl rfl (Nat.le_of_ble_eq_true rfl) dX3_init_9 rfl ?_
  refine j_aload_n (pc := 12) X dX3_init_12 rfl 0 rfl ?_
  refine j_bipush (pc := 13) X (v := nI 100) dX3_init_13 (by decide) ?_
  refine j_newI (pc := 15) X 100 (by decide +kernel) (by decide) (by decide) (Nat.le_of_ble_eq_true rfl) (Nat.le_of_ble_eq_true rfl) (Nat.le_of_ble_eq_true rfl) dX3_init_15 (f := (nF (fun _ => 0))) (fun _ _ => rfl) (wf := fun v2 => [(qm, .inr (3, [.ref v1, .null, .null, .null, .null, .int (nI 0), .int (nI 0)])), kI G v1 100 (nF (fun _ => 0)), kI G v2 100 (nF (fun _ => 0))]) (fun _ => rfl) (cs' := 2) (ss' := 200) rfl rfl (fun v2 => ?_)
  refine j_putF (pc := 17) X (v := .ref v2) (ws' := [(qm, .inr (3, [.ref v1, .ref v2, .null, .null, .null, .int (nI 0), .int (nI 0)])), kI G v1 100 (nF (fun _ => 0)), kI G v2 100 (nF (fun _ => 0))]) 3 i_X3 tyX3 tyX3_ok nmX3 0 rfl rfl 1 (by decide) (by decide +kernel) (by decide) rfl rfl rfl rfl (Nat.le_of_ble_eq_true rfl) dX3_init_17 rfl ?_
  refine j_aload_n (pc := 20) X dX3_init_20 rfl 0 rfl ?_
  refine j_sipush (pc := 21) X (v := nI 200) dX3_init_21 (by decide) ?_
  refine j_newI (pc := 24) X 200 (by decide +kernel) (by decide) (by decide) (Nat.le_of_ble_eq_true rfl) (Nat.le_of_ble_eq_true rfl) (Nat.le_of_ble_eq_true rfl) dX3_init_24 (f := (nF (fun _ => 0))) (fun _ _ => rfl) (wf := fun v3 => [(qm, .inr (3, [.ref v1, .ref v2, .null, .null, .null, .int (nI 0), .int (nI 0)])), kI G v1 100 (nF (fun _ => 0)), kI G v2 100 (nF (fun _ => 0)), kI G v3 200 (nF (fun _ => 0))]) (fun _ => rfl) (cs' := 3) (ss' := 400) rfl rfl (fun v3 => ?_)
  refine j_putF (pc := 26) X (v := .ref v3) (ws' := [(qm, .inr (3, [.ref v1, .ref v2, .ref v3, .null, .null, .int (nI 0), .int (nI 0)])), kI G v1 100 (nF (fun _ => 0)), kI G v2 100 (nF (fun _ => 0)), kI G v3 200 (nF (fun _ => 0))]) 3 i_X3 tyX3 tyX3_ok nmX3 0 rfl rfl 2 (by decide) (by decide +kernel) (by decide) rfl rfl rfl rfl (Nat.le_of_ble_eq_true rfl) dX3_init_26 rfl ?_
  refine j_aload_n (pc := 29) X dX3_init_29 rfl 0 rfl ?_
  refine j_sipush (pc := 30) X (v := nI 200) dX3_init_30 (by decide) ?_
  refine j_newI (pc := 33) X 200 (by decide +kernel) (by decide) (by decide) (Nat.le_of_ble_eq_true rfl) (Nat.le_of_ble_eq_true rfl) (Nat.le_of_ble_eq_true rfl) dX3_init_33 (f := (nF (fun _ => 0))) (fun _ _ => rfl) (wf := fun v4 => [(qm, .inr (3, [.ref v1, .ref v2, .ref v3, .null, .null, .int (nI 0), .int (nI 0)])), kI G v1 100 (nF (fun _ => 0)), kI G v2 100 (nF (fun _ => 0)), kI G v3 200 (nF (fun _ => 0)), kI G v4 200 (nF (fun _ => 0))]) (fun _ => rfl) (cs' := 4) (ss' := 600) rfl rfl (fun v4 => ?_)
  refine j_putF (pc := 35) X (v := .ref v4) (ws' := [(qm, .inr (3, [.ref v1, .ref v2, .ref v3, .ref v4, .null, .int (nI 0), .int (nI 0)])), kI G v1 100 (nF (fun _ => 0)), kI G v2 100 (nF (fun _ => 0)), kI G v3 200 (nF (fun _ => 0)), kI G v4 200 (nF (fun _ => 0))]) 3 i_X3 tyX3 tyX3_ok nmX3 0 rfl rfl 3 (by decide) (by decide +kernel) (by decide) rfl rfl rfl rfl (Nat.le_of_ble_eq_true rfl) dX3_init_35 rfl ?_
  refine j_aload_n (pc := 38) X dX3_init_38 rfl 0 rfl ?_
  refine j_sipush (pc := 39) X (v := nI 200) dX3_init_39 (by decide) ?_
  refine j_newZ (pc := 42) X 200 (by decide +kernel) (by decide) (by decide) (Nat.le_of_ble_eq_true rfl) (Nat.le_of_ble_eq_true rfl) (Nat.le_of_ble_eq_true rfl) dX3_init_42 (f := (bF (fun _ => false))) (fun _ _ => rfl) (wf := fun v5 => [(qm, .inr (3, [.ref v1, .ref v2, .ref v3, .ref v4, .null, .int (nI 0), .int (nI 0)])), kI G v1 100 (nF (fun _ => 0)), kI G v2 100 (nF (fun _ => 0)), kI G v3 200 (nF (fun _ => 0)), kI G v4 200 (nF (fun _ => 0)), kZ G v5 200 (bF (fun _ => false))]) (fun _ => rfl) (cs' := 5) (ss' := 800) rfl rfl (fun v5 => ?_)
  refine j_putF (pc := 44) X (v := .ref v5) (ws' := [(qm, .inr (3, [.ref v1, .ref v2, .ref v3, .ref v4, .ref v5, .int (nI 0), .int (nI 0)])), kI G v1 100 (nF (fun _ => 0)), kI G v2 100 (nF (fun _ => 0)), kI G v3 200 (nF (fun _ => 0)), kI G v4 200 (nF (fun _ => 0)), kZ G v5 200 (bF (fun _ => false))]) 3 i_X3 tyX3 tyX3_ok nmX3 0 rfl rfl 4 (by decide) (by decide +kernel) (by decide) rfl rfl rfl rfl (Nat.le_of_ble_eq_true rfl) dX3_init_44 rfl ?_
  refine j_aload_n (pc := 47) X dX3_init_47 rfl 0 rfl ?_
  refine j_iconst (pc := 48) X (v := nI 0) dX3_init_48 (by decide) ?_
  refine j_put (pc := 49) X (v := .int (nI 0)) (ws' := [(qm, .inr (3, [.ref v1, .ref v2, .ref v3, .ref v4, .ref v5, .int (nI 0), .int (nI 0)])), kI G v1 100 (nF (fun _ => 0)), kI G v2 100 (nF (fun _ => 0)), kI G v3 200 (nF (fun _ => 0)), kI G v4 200 (nF (fun _ => 0)), kZ G v5 200 (bF (fun _ => false))]) 3 i_X3 tyX3 tyX3_ok nmX3 0 rfl rfl 5 (by decide) (by decide +kernel) (by decide) (rfl) (rfl) (Nat.le_of_ble_eq_true rfl) dX3_init_49 rfl ?_
  refine j_aload_n (pc := 52) X dX3_init_52 rfl 0 rfl ?_
  refine j_iconst (pc := 53) X (v := nI 0) dX3_init_53 (by decide) ?_
  refine j_put (pc := 54) X (v := .int (nI 0)) (ws' := [(qm, .inr (3, [.ref v1, .ref v2, .ref v3, .ref v4, .ref v5, .int (nI 0), .int (nI 0)])), kI G v1 100 (nF (fun _ => 0)), kI G v2 100 (nF (fun _ => 0)), kI G v3 200 (nF (fun _ => 0)), kI G v4 200 (nF (fun _ => 0)), kZ G v5 200 (bF (fun _ => false))]) 3 i_X3 tyX3 tyX3_ok nmX3 0 rfl rfl 6 (by decide) (by decide +kernel) (by decide) (rfl) (rfl) (Nat.le_of_ble_eq_true rfl) dX3_init_54 rfl ?_
  exact j_vret (pc := 57) X dX3_init_57 ⟨rfl, v1, v2, v3, v4, v5, rfl⟩

set_option maxHeartbeats 4000000 in
set_option maxRecDepth 100000 in
theorem mX4_init (l : Launch) (G : jG) (qp : Nat) : MF l yX4_init wsX4_init ({ frames := 1, cells := 2, slots := 32, locals := 23 }) G [.ref qp] [(qp, .inr (4, [.null, .null, .int (b2i false)]))] 2 32 (fun r w' => r = none ∧ ∃ (qp0 : Nat) (qp1 : Nat), w' = [(qp, .inr (4, [.ref qp0, .ref qp1, .int (b2i false)])), kI G qp0 16 (oF (fil none (oz 16) 16)), kI G qp1 16 (oF (oz 16))]) := by
  refine MF.ofJ (cc := cX4_init) (maxL := 1) (ret := none) (own := RX4) (lv := [(0, .ref qp)]) (by decide) rfl rfl (Nat.le_of_ble_eq_true rfl) rfl ?_
  intro κ X
  have i_X4 : ∀ w ∈ wsX40, w ∈ wsX4_init := by decide +kernel
  refine j_aload_n (pc := 0) X dX4_init_0 rfl 0 rfl ?_
  refine j_objI (pc := 1) X (by decide +kernel) (by decide +kernel) (by decide +kernel) dX4_init_1 (Nat.le_of_ble_eq_true rfl) (Nat.le_of_ble_eq_true rfl) (Nat.le_of_ble_eq_true rfl) ?_
  refine j_aload_n (pc := 4) X dX4_init_4 rfl 0 rfl ?_
  refine j_bipush (pc := 5) X (v := nI 16) dX4_init_5 (by decide) ?_
  refine j_newI (pc := 7) X 16 (by decide +kernel) (by decide) (by decide) (Nat.le_of_ble_eq_true rfl) (Nat.le_of_ble_eq_true rfl) (Nat.le_of_ble_eq_true rfl) dX4_init_7 (f := (oF (oz 16))) (fun _ h_ => oz_0 h_) (wf := fun v1 => [(qp, .inr (4, [.null, .null, .int (b2i false)])), kI G v1 16 (oF (oz 16))]) (fun _ => rfl) (cs' := 1) (ss' := 16) rfl rfl (fun v1 => ?_)
  refine j_putF (pc := 9) X (v := .ref v1) (ws' := [(qp, .inr (4, [.ref v1, .null, .int (b2i false)])), kI G v1 16 (oF (oz 16))]) 4 i_X4 tyX4 tyX4_ok nmX4 0 rfl rfl 0 (by decide) (by decide +kernel) (by decide) rfl rfl rfl rfl (Nat.le_of_ble_eq_true rfl) dX4_init_9 rfl ?_
  refine j_aload_n (pc := 12) X dX4_init_12 rfl 0 rfl ?_
  refine j_bipush (pc := 13) X (v := nI 16) dX4_init_13 (by decide) ?_
  refine j_newI (pc := 15) X 16 (by decide +kernel) (by decide) (by decide) (Nat.le_of_ble_eq_true rfl) (Nat.le_of_ble_eq_true rfl) (Nat.le_of_ble_eq_true rfl) dX4_init_15 (f := (oF (oz 16))) (fun _ h_ => oz_0 h_) (wf := fun v2 => [(qp, .inr (4, [.ref v1, .null, .int (b2i false)])), kI G v1 16 (oF (oz 16)), kI G v2 16 (oF (oz 16))]) (fun _ => rfl) (cs' := 2) (ss' := 32) rfl rfl (fun v2 => ?_)
  refine j_putF (pc := 17) X (v := .ref v2) (ws' := [(qp, .inr (4, [.ref v1, .ref v2, .int (b2i false)])), kI G v1 16 (oF (oz 16)), kI G v2 16 (oF (oz 16))]) 4 i_X4 tyX4 tyX4_ok nmX4 0 rfl rfl 1 (by decide) (by decide +kernel) (by decide) rfl rfl rfl rfl (Nat.le_of_ble_eq_true rfl) dX4_init_17 rfl ?_
  refine j_aload_n (pc := 20) X dX4_init_20 rfl 0 rfl ?_
  refine j_iconst (pc := 21) X (v := nI 0) dX4_init_21 (by decide) ?_
  refine j_put (pc := 22) X (v := .int (nI 0)) (ws' := [(qp, .inr (4, [.ref v1, .ref v2, .int (b2i false)])), kI G v1 16 (oF (oz 16)), kI G v2 16 (oF (oz 16))]) 4 i_X4 tyX4 tyX4_ok nmX4 0 rfl rfl 2 (by decide) (by decide +kernel) (by decide) (rfl) (rfl) (Nat.le_of_ble_eq_true rfl) dX4_init_22 rfl ?_
  refine j_aload_n (pc := 25) X dX4_init_25 rfl 0 rfl ?_
  refine j_get (pc := 26) X 4 i_X4 0 rfl rfl 0 (by decide) (by decide +kernel) rfl dX4_init_26 ?_
  refine j_iconst (pc := 29) X (v := oI none) dX4_init_29 (by decide) ?_
  refine j_cv (pc := 30) X (ws' := [(qp, .inr (4, [.ref v1, .ref v2, .int (b2i false)])), kI G v1 16 (oF (fil none (oz 16) 16)), kI G v2 16 (oF (oz 16))]) [1] rfl (j_rS X (As := [.ref v1, .int (oI none)]) (rest := []) 2 (mJ7_fill_53178 l G v1 16 (oz 16) none (by first | assumption | omega | exact ob_s (by omega) | exact ob_n)) gX4_init_J7_fill_53178 rfl rfl rfl (by decide +kernel) ⟨Nat.le_of_ble_eq_true rfl, Nat.le_of_ble_eq_true rfl⟩ rfl [1] rfl rfl rfl (Nat.le_of_ble_eq_true rfl) dX4_init_30 ⟨Nat.le_of_ble_eq_true rfl, Nat.le_of_ble_eq_true rfl⟩) rfl rfl ?_
  exact j_vret (pc := 33) X dX4_init_33 ⟨rfl, v1, v2, rfl⟩

set_option maxHeartbeats 4000000 in
set_option maxRecDepth 100000 in
theorem mX5_init (l : Launch) (G : jG) (qr : Nat) : MF l yX5_init wsX5_init ({ frames := 1, cells := 2, slots := 32, locals := 20 }) G [.ref qr] [(qr, .inr (5, [.null, .null, .int (nI 0), .int (nI 0), .int (nI 0)]))] 2 32 (fun r w' => r = none ∧ ∃ (qr0 : Nat) (qr1 : Nat), w' = [(qr, .inr (5, [.ref qr0, .ref qr1, .int (nI 0), .int (oI none), .int (oI none)])), kI G qr0 16 (nF (fun _ => 0)), kI G qr1 16 (oF (oz 16))]) := by
  refine MF.ofJ (cc := cX5_init) (maxL := 1) (ret := none) (own := RX5) (lv := [(0, .ref qr)]) (by decide) rfl rfl (Nat.le_of_ble_eq_true rfl) rfl ?_
  intro κ X
  have i_X5 : ∀ w ∈ wsX50, w ∈ wsX5_init := by decide +kernel
  refine j_aload_n (pc := 0) X dX5_init_0 rfl 0 rfl ?_
  refine j_objI (pc := 1) X (by decide +kernel) (by decide +kernel) (by decide +kernel) dX5_init_1 (Nat.le_of_ble_eq_true rfl) (Nat.le_of_ble_eq_true rfl) (Nat.le_of_ble_eq_true rfl) ?_
  refine j_aload_n (pc := 4) X dX5_init_4 rfl 0 rfl ?_
  refine j_bipush (pc := 5) X (v := nI 16) dX5_init_5 (by decide) ?_
  refine j_newI (pc := 7) X 16 (by decide +kernel) (by decide) (by decide) (Nat.le_of_ble_eq_true rfl) (Nat.le_of_ble_eq_true rfl) (Nat.le_of_ble_eq_true rfl) dX5_init_7 (f := (nF (fun _ => 0))) (fun _ _ => rfl) (wf := fun v1 => [(qr, .inr (5, [.null, .null, .int (nI 0), .int (nI 0), .int (nI 0)])), kI G v1 16 (nF (fun _ => 0))]) (fun _ => rfl) (cs' := 1) (ss' := 16) rfl rfl (fun v1 => ?_)
  refine j_putF (pc := 9) X (v := .ref v1) (ws' := [(qr, .inr (5, [.ref v1, .null, .int (nI 0), .int (nI 0), .int (nI 0)])), kI G v1 16 (nF (fun _ => 0))]) 5 i_X5 tyX5 tyX5_ok nmX5 0 rfl rfl 0 (by decide) (by decide +kernel) (by decide) rfl rfl rfl rfl (Nat.le_of_ble_eq_true rfl) dX5_init_9 rfl ?_
  refine j_aload_n (pc := 12) X dX5_init_12 rfl 0 rfl ?_
  refine j_bipush (pc := 13) X (v := nI 16) dX5_init_13 (by decide) ?_
  refine j_newI (pc := 15) X 16 (by decide +kernel) (by decide) (by decide) (Nat.le_of_ble_eq_true rfl) (Nat.le_of_ble_eq_true rfl) (Nat.le_of_ble_eq_true rfl) dX5_init_15 (f := (oF (oz 16))) (fun _ h_ => oz_0 h_) (wf := fun v2 => [(qr, .inr (5, [.ref v1, .null, .int (nI 0), .int (nI 0), .int (nI 0)])), kI G v1 16 (nF (fun _ => 0)), kI G v2 16 (oF (oz 16))]) (fun _ => rfl) (cs' := 2) (ss' := 32) rfl rfl (fun v2 => ?_)
  refine j_putF (pc := 17) X (v := .ref v2) (ws' := [(qr, .inr (5, [.ref v1, .ref v2, .int (nI 0), .int (nI 0), .int (nI 0)])), kI G v1 16 (nF (fun _ => 0)), kI G v2 16 (oF (oz 16))]) 5 i_X5 tyX5 tyX5_ok nmX5 0 rfl rfl 1 (by decide) (by decide +kernel) (by decide) rfl rfl rfl rfl (Nat.le_of_ble_eq_true rfl) dX5_init_17 rfl ?_
  refine j_aload_n (pc := 20) X dX5_init_20 rfl 0 rfl ?_
  refine j_iconst (pc := 21) X (v := nI 0) dX5_init_21 (by decide) ?_
  refine j_put (pc := 22) X (v := .int (nI 0)) (ws' := [(qr, .inr (5, [.ref v1, .ref v2, .int (nI 0), .int (nI 0), .int (nI 0)])), kI G v1 16 (nF (fun _ => 0)), kI G v2 16 (oF (oz 16))]) 5 i_X5 tyX5 tyX5_ok nmX5 0 rfl rfl 2 (by decide) (by decide +kernel) (by decide) (rfl) (rfl) (Nat.le_of_ble_eq_true rfl) dX5_init_22 rfl ?_
  refine j_aload_n (pc := 25) X dX5_init_25 rfl 0 rfl ?_
  refine j_iconst (pc := 26) X (v := oI none) dX5_init_26 (by decide) ?_
  refine j_put (pc := 27) X (v := .int (oI none)) (ws' := [(qr, .inr (5, [.ref v1, .ref v2, .int (nI 0), .int (oI none), .int (nI 0)])), kI G v1 16 (nF (fun _ => 0)), kI G v2 16 (oF (oz 16))]) 5 i_X5 tyX5 tyX5_ok nmX5 0 rfl rfl 3 (by decide) (by decide +kernel) (by decide) (rfl) (rfl) (Nat.le_of_ble_eq_true rfl) dX5_init_27 rfl ?_
  refine j_aload_n (pc := 30) X dX5_init_30 rfl 0 rfl ?_
  refine j_iconst (pc := 31) X (v := oI none) dX5_init_31 (by decide) ?_
  refine j_put (pc := 32) X (v := .int (oI none)) (ws' := [(qr, .inr (5, [.ref v1, .ref v2, .int (nI 0), .int (oI none), .int (oI none)])), kI G v1 16 (nF (fun _ => 0)), kI G v2 16 (oF (oz 16))]) 5 i_X5 tyX5 tyX5_ok nmX5 0 rfl rfl 4 (by decide) (by decide +kernel) (by decide) (rfl) (rfl) (Nat.le_of_ble_eq_true rfl) dX5_init_32 rfl ?_
  exact j_vret (pc := 35) X dX5_init_35 ⟨rfl, v1, v2, rfl⟩

set_option maxHeartbeats 4000000 in
set_option maxRecDepth 100000 in
theorem mX6_init (l : Launch) (G : jG) (qu : Nat) : MF l yX6_init wsX6_init ({ frames := 1, cells := 2, slots := 32, locals := 20 }) G [.ref qu] [(qu, .inr (6, [.null, .null, .int (nI 0)]))] 2 32 (fun r w' => r = none ∧ ∃ (qu0 : Nat) (qu1 : Nat), w' = [(qu, .inr (6, [.ref qu0, .ref qu1, .int (nI 0)])), kI G qu0 16 (nF (fun _ => 0)), kZ G qu1 16 (bF (fun _ => false))]) := by
  refine MF.ofJ (cc := cX6_init) (maxL := 1) (ret := none) (own := RX6) (lv := [(0, .ref qu)]) (by decide) rfl rfl (Nat.le_of_ble_eq_true rfl) rfl ?_
  intro κ X
  have i_X6 : ∀ w ∈ wsX60, w ∈ wsX6_init := by decide +kernel
  refine j_aload_n (pc := 0) X dX6_init_0 rfl 0 rfl ?_
  refine j_objI (pc := 1) X (by decide +kernel) (by decide +kernel) (by decide +kernel) dX6_init_1 (Nat.le_of_ble_eq_true rfl) (Nat.le_of_ble_eq_true rfl) (Nat.le_of_ble_eq_true rfl) ?_
  refine j_aload_n (pc := 4) X dX6_init_4 rfl 0 rfl ?_
  refine j_bipush (pc := 5) X (v := nI 16) dX6_init_5 (by decide) ?_
  refine j_newI (pc := 7) X 16 (by decide +kernel) (by decide) (by decide) (Nat.le_of_ble_eq_true rfl) (Nat.le_of_ble_eq_true rfl) (Nat.le_of_ble_eq_true rfl) dX6_init_7 (f := (nF (fun _ => 0))) (fun _ _ => rfl) (wf := fun v1 => [(qu, .inr (6, [.null, .null, .int (nI 0)])), kI G v1 16 (nF (fun _ => 0))]) (fun _ => rfl) (cs' := 1) (ss' := 16) rfl rfl (fun v1 => ?_)
  refine j_putF (pc := 9) X (v := .ref v1) (ws' := [(qu, .inr (6, [.ref v1, .null, .int (nI 0)])), kI G v1 16 (nF (fun _ => 0))]) 6 i_X6 tyX6 tyX6_ok nmX6 0 rfl rfl 0 (by decide) (by decide +kernel) (by decide) rfl rfl rfl rfl (Nat.le_of_ble_eq_true rfl) dX6_init_9 rfl ?_
  refine j_aload_n (pc := 12) X dX6_init_12 rfl 0 rfl ?_
  refine j_bipush (pc := 13) X (v := nI 16) dX6_init_13 (by decide) ?_
  refine j_newZ (pc := 15) X 16 (by decide +kernel) (by decide) (by decide) (Nat.le_of_ble_eq_true rfl) (Nat.le_of_ble_eq_true rfl) (Nat.le_of_ble_eq_true rfl) dX6_init_15 (f := (bF (fun _ => false))) (fun _ _ => rfl) (wf := fun v2 => [(qu, .inr (6, [.ref v1, .null, .int (nI 0)])), kI G v1 16 (nF (fun _ => 0)), kZ G v2 16 (bF (fun _ => false))]) (fun _ => rfl) (cs' := 2) (ss' := 32) rfl rfl (fun v2 => ?_)
  refine j_putF (pc := 17) X (v := .ref v2) (ws' := [(qu, .inr (6, [.ref v1, .ref v2, .int (nI 0)])), kI G v1 16 (nF (fun _ => 0)), kZ G v2 16 (bF (fun _ => false))]) 6 i_X6 tyX6 tyX6_ok nmX6 0 rfl rfl 1 (by decide) (by decide +kernel) (by decide) rfl rfl rfl rfl (Nat.le_of_ble_eq_true rfl) dX6_init_17 rfl ?_
  refine j_aload_n (pc := 20) X dX6_init_20 rfl 0 rfl ?_
  refine j_iconst (pc := 21) X (v := nI 0) dX6_init_21 (by decide) ?_
  refine j_put (pc := 22) X (v := .int (nI 0)) (ws' := [(qu, .inr (6, [.ref v1, .ref v2, .int (nI 0)])), kI G v1 16 (nF (fun _ => 0)), kZ G v2 16 (bF (fun _ => false))]) 6 i_X6 tyX6 tyX6_ok nmX6 0 rfl rfl 2 (by decide) (by decide +kernel) (by decide) (rfl) (rfl) (Nat.le_of_ble_eq_true rfl) dX6_init_22 rfl ?_
  exact j_vret (pc := 25) X dX6_init_25 ⟨rfl, v1, v2, rfl⟩

set_option maxHeartbeats 4000000 in
set_option maxRecDepth 100000 in
theorem mX7_init (l : Launch) (G : jG) (qt : Nat) : MF l yX7_init wsX7_init ({ frames := 1, cells := 1, slots := 40, locals := 20 }) G [.ref qt] [(qt, .inr (7, [.null, .int (b2i false), .int (nI 0), .int (nI 0)]))] 1 40 (fun r w' => r = none ∧ ∃ (qt0 : Nat), w' = [(qt, .inr (7, [.ref qt0, .int (b2i true), .int (nI 0), .int (nI 0)])), kJ G qt0 40 (fun _ => 0)]) := by
  refine MF.ofJ (cc := cX7_init) (maxL := 1) (ret := none) (own := RX7) (lv := [(0, .ref qt)]) (by decide) rfl rfl (Nat.le_of_ble_eq_true rfl) rfl ?_
  intro κ X
  have i_X7 : ∀ w ∈ wsX70, w ∈ wsX7_init := by decide +kernel
  refine j_aload_n (pc := 0) X dX7_init_0 rfl 0 rfl ?_
  refine j_objI (pc := 1) X (by decide +kernel) (by decide +kernel) (by decide +kernel) dX7_init_1 (Nat.le_of_ble_eq_true rfl) (Nat.le_of_ble_eq_true rfl) (Nat.le_of_ble_eq_true rfl) ?_
  refine j_aload_n (pc := 4) X dX7_init_4 rfl 0 rfl ?_
  refine j_bipush (pc := 5) X (v := nI 40) dX7_init_5 (by decide) ?_
  refine j_newJ (pc := 7) X 40 (by decide +kernel) (by decide) (by decide) (Nat.le_of_ble_eq_true rfl) (Nat.le_of_ble_eq_true rfl) (Nat.le_of_ble_eq_true rfl) dX7_init_7 (f := (fun _ => 0)) (fun _ _ => rfl) (wf := fun v1 => [(qt, .inr (7, [.null, .int (b2i false), .int (nI 0), .int (nI 0)])), kJ G v1 40 (fun _ => 0)]) (fun _ => rfl) (cs' := 1) (ss' := 40) rfl rfl (fun v1 => ?_)
  refine j_putF (pc := 9) X (v := .ref v1) (ws' := [(qt, .inr (7, [.ref v1, .int (b2i false), .int (nI 0), .int (nI 0)])), kJ G v1 40 (fun _ => 0)]) 7 i_X7 tyX7 tyX7_ok nmX7 0 rfl rfl 0 (by decide) (by decide +kernel) (by decide) rfl rfl rfl rfl (Nat.le_of_ble_eq_true rfl) dX7_init_9 rfl ?_
  refine j_aload_n (pc := 12) X dX7_init_12 rfl 0 rfl ?_
  refine j_iconst (pc := 13) X (v := nI 1) dX7_init_13 (by decide) ?_
  refine j_put (pc := 14) X (v := .int (nI 1)) (ws' := [(qt, .inr (7, [.ref v1, .int (b2i true), .int (nI 0), .int (nI 0)])), kJ G v1 40 (fun _ => 0)]) 7 i_X7 tyX7 tyX7_ok nmX7 0 rfl rfl 1 (by decide) (by decide +kernel) (by decide) (rfl) (rfl) (Nat.le_of_ble_eq_true rfl) dX7_init_14 rfl ?_
  refine j_aload_n (pc := 17) X dX7_init_17 rfl 0 rfl ?_
  refine j_iconst (pc := 18) X (v := nI 0) dX7_init_18 (by decide) ?_
  refine j_put (pc := 19) X (v := .int (nI 0)) (ws' := [(qt, .inr (7, [.ref v1, .int (b2i true), .int (nI 0), .int (nI 0)])), kJ G v1 40 (fun _ => 0)]) 7 i_X7 tyX7 tyX7_ok nmX7 0 rfl rfl 2 (by decide) (by decide +kernel) (by decide) (rfl) (rfl) (Nat.le_of_ble_eq_true rfl) dX7_init_19 rfl ?_
  refine j_aload_n (pc := 22) X dX7_init_22 rfl 0 rfl ?_
  refine j_iconst (pc := 23) X (v := nI 0) dX7_init_23 (by decide) ?_
  refine j_put (pc := 24) X (v := .int (nI 0)) (ws' := [(qt, .inr (7, [.ref v1, .int (b2i true), .int (nI 0), .int (nI 0)])), kJ G v1 40 (fun _ => 0)]) 7 i_X7 tyX7 tyX7_ok nmX7 0 rfl rfl 3 (by decide) (by decide +kernel) (by decide) (rfl) (rfl) (Nat.le_of_ble_eq_true rfl) dX7_init_24 rfl ?_
  exact j_vret (pc := 27) X dX7_init_27 ⟨rfl, v1, rfl⟩

set_option maxHeartbeats 4000000 in
set_option maxRecDepth 100000 in
theorem mX8_init (l : Launch) (G : jG) (ql : Nat) : MF l yX8_init wsX8_init ({ frames := 1, cells := 2, slots := 512, locals := 20 }) G [.ref ql] [(ql, .inr (8, [.null, .null, .int (nI 0)]))] 2 512 (fun r w' => r = none ∧ ∃ (ql0 : Nat) (ql1 : Nat), w' = [(ql, .inr (8, [.ref ql0, .ref ql1, .int (nI 0)])), kJ G ql0 256 (fun _ => 0), kJ G ql1 256 (fun _ => 0)]) := by
  refine MF.ofJ (cc := cX8_init) (maxL := 1) (ret := none) (own := RX8) (lv := [(0, .ref ql)]) (by decide) rfl rfl (Nat.le_of_ble_eq_true rfl) rfl ?_
  intro κ X
  have i_X8 : ∀ w ∈ wsX80, w ∈ wsX8_init := by decide +kernel
  refine j_aload_n (pc := 0) X dX8_init_0 rfl 0 rfl ?_
  refine j_objI (pc := 1) X (by decide +kernel) (by decide +kernel) (by decide +kernel) dX8_init_1 (Nat.le_of_ble_eq_true rfl) (Nat.le_of_ble_eq_true rfl) (Nat.le_of_ble_eq_true rfl) ?_
  refine j_aload_n (pc := 4) X dX8_init_4 rfl 0 rfl ?_
  refine j_sipush (pc := 5) X (v := nI 256) dX8_init_5 (by decide) ?_
  refine j_newJ (pc := 8) X 256 (by decide +kernel) (by decide) (by decide) (Nat.le_of_ble_eq_true rfl) (Nat.le_of_ble_eq_true rfl) (Nat.le_of_ble_eq_true rfl) dX8_init_8 (f := (fun _ => 0)) (fun _ _ => rfl) (wf := fun v1 => [(ql, .inr (8, [.null, .null, .int (nI 0)])), kJ G v1 256 (fun _ => 0)]) (fun _ => rfl) (cs' := 1) (ss' := 256) rfl rfl (fun v1 => ?_)
  refine j_putF (pc := 10) X (v := .ref v1) (ws' := [(ql, .inr (8, [.ref v1, .null, .int (nI 0)])), kJ G v1 256 (fun _ => 0)]) 8 i_X8 tyX8 tyX8_ok nmX8 0 rfl rfl 0 (by decide) (by decide +kernel) (by decide) rfl rfl rfl rfl (Nat.le_of_ble_eq_true rfl) dX8_init_10 rfl ?_
  refine j_aload_n (pc := 13) X dX8_init_13 rfl 0 rfl ?_
  refine j_sipush (pc := 14) X (v := nI 256) dX8_init_14 (by decide) ?_
  refine j_newJ (pc := 17) X 256 (by decide +kernel) (by decide) (by decide) (Nat.le_of_ble_eq_true rfl) (Nat.le_of_ble_eq_true rfl) (Nat.le_of_ble_eq_true rfl) dX8_init_17 (f := (fun _ => 0)) (fun _ _ => rfl) (wf := fun v2 => [(ql, .inr (8, [.ref v1, .null, .int (nI 0)])), kJ G v1 256 (fun _ => 0), kJ G v2 256 (fun _ => 0)]) (fun _ => rfl) (cs' := 2) (ss' := 512) rfl rfl (fun v2 => ?_)
  refine j_putF (pc := 19) X (v := .ref v2) (ws' := [(ql, .inr (8, [.ref v1, .ref v2, .int (nI 0)])), kJ G v1 256 (fun _ => 0), kJ G v2 256 (fun _ => 0)]) 8 i_X8 tyX8 tyX8_ok nmX8 0 rfl rfl 1 (by decide) (by decide +kernel) (by decide) rfl rfl rfl rfl (Nat.le_of_ble_eq_true rfl) dX8_init_19 rfl ?_
  refine j_aload_n (pc := 22) X dX8_init_22 rfl 0 rfl ?_
  refine j_iconst (pc := 23) X (v := nI 0) dX8_init_23 (by decide) ?_
  refine j_put (pc := 24) X (v := .int (nI 0)) (ws' := [(ql, .inr (8, [.ref v1, .ref v2, .int (nI 0)])), kJ G v1 256 (fun _ => 0), kJ G v2 256 (fun _ => 0)]) 8 i_X8 tyX8 tyX8_ok nmX8 0 rfl rfl 2 (by decide) (by decide +kernel) (by decide) (rfl) (rfl) (Nat.le_of_ble_eq_true rfl) dX8_init_24 rfl ?_
  exact j_vret (pc := 27) X dX8_init_27 ⟨rfl, v1, v2, rfl⟩

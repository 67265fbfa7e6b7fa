set_option maxHeartbeats 4000000 in
set_option maxRecDepth 100000 in
theorem mX9_trayFault (l : Launch) (G : jG) (qx : Nat) (qy : Nat) (qc : Nat) (qp : Nat) (qr : Nat) (qm : Nat) (qg : Nat) (qu : Nat) (ql : Nat) (qf : Nat) (lt : Nat) (tA : Nat → Nat) (nA : Nat → Nat) (ms : Nat → Bool) (so : Nat → Nat) (ln : Nat → Nat) (x : Int32)  : MV l yX9_trayFault wsX9_trayFault ({ frames := 1, cells := 0, slots := 0, locals := 20 }) G [.ref qx, .int x] [(qx, .inr (9, [.ref qy, .ref qc, .ref qp, .ref qr, .ref qm, .ref qg, .ref qu, .ref ql, .ref qf, .int (nI lt)])), kT G qy 4 (tyF tA), (tA 0, .inr (7, [.ref (nA 0), .int (b2i (ms 0)), .int (nI (so 0)), .int (nI (ln 0))])), (tA 1, .inr (7, [.ref (nA 1), .int (b2i (ms 1)), .int (nI (so 1)), .int (nI (ln 1))])), (tA 2, .inr (7, [.ref (nA 2), .int (b2i (ms 2)), .int (nI (so 2)), .int (nI (ln 2))])), (tA 3, .inr (7, [.ref (nA 3), .int (b2i (ms 3)), .int (nI (so 3)), .int (nI (ln 3))]))] (some (.int (nI (tfF ms x)))) [(qx, .inr (9, [.ref qy, .ref qc, .ref qp, .ref qr, .ref qm, .ref qg, .ref qu, .ref ql, .ref qf, .int (nI lt)])), kT G qy 4 (tyF tA), (tA 0, .inr (7, [.ref (nA 0), .int (b2i (ms 0)), .int (nI (so 0)), .int (nI (ln 0))])), (tA 1, .inr (7, [.ref (nA 1), .int (b2i (ms 1)), .int (nI (so 1)), .int (nI (ln 1))])), (tA 2, .inr (7, [.ref (nA 2), .int (b2i (ms 2)), .int (nI (so 2)), .int (nI (ln 2))])), (tA 3, .inr (7, [.ref (nA 3), .int (b2i (ms 3)), .int (nI (so 3)), .int (nI (ln 3))]))] := by
  refine MF.ofJ (cc := cX9_trayFault) (maxL := 2) (ret := (some .int)) (own := RX9) (lv := [(0, .ref qx), (1, .int x)]) (by decide) rfl rfl (Nat.le_of_ble_eq_true rfl) rfl ?_
  intro κ X
  have i_X7 : ∀ w ∈ wsX70, w ∈ wsX9_trayFault := by decide +kernel
  have i_X9 : ∀ w ∈ wsX90, w ∈ wsX9_trayFault := by decide +kernel
  refine j_iload_n (pc := 0) X dX9_trayFault_0 rfl 1 rfl ?_
  refine j_ciP (pc := 1) X [] rfl (j_rS X (As := [.int x]) (rest := []) 1 (mX9_isTray l G x ) gX9_trayFault_X9_isTray rfl rfl rfl (by decide +kernel) ⟨Nat.le_of_ble_eq_true rfl, Nat.le_of_ble_eq_true rfl⟩ rfl [] rfl rfl rfl (Nat.le_of_ble_eq_true rfl) dX9_trayFault_1 ⟨Nat.le_of_ble_eq_true rfl, Nat.le_of_ble_eq_true rfl⟩) ?_
  refine j_ifb_ne (pc := 4) X (B := inR x 4) (tgt := 9) dX9_trayFault_4 (by decide) (fun c_4 => ?_) (fun c_4 => ?_)
  · skip
    obtain ⟨j, hj, rfl⟩ := inR_of c_4 (by decide); rcases (by omega : j = 0 ∨ j = 1 ∨ j = 2 ∨ j = 3) with rfl | rfl | rfl | rfl
    · skip
      refine j_aload_n (pc := 9) X dX9_trayFault_9 rfl 0 rfl ?_
      refine j_get (pc := 10) X 9 i_X9 0 rfl rfl 0 (by decide) (by decide +kernel) rfl dX9_trayFault_10 ?_
      refine j_iload_n (pc := 13) X dX9_trayFault_13 rfl 1 rfl ?_
      refine j_aldq (pc := 14) X 1 rfl (vp_in_nI (by omega) (by omega)) (v := tA 0) ((congrArg (tyF tA) (nI_clamp (by decide))).trans rfl) dX9_trayFault_14 ?_
      refine j_getN (pc := 15) X 7 i_X7 2 rfl rfl 1 (by decide) (by decide +kernel) rfl dX9_trayFault_15 ?_
      refine j_ifb_eq (pc := 18) X (B := ms 0) (tgt := 25) dX9_trayFault_18 (by decide) (fun c_18 => ?_) (fun c_18 => ?_)
      · skip
        refine j_iconst (pc := 25) X (v := nI 0) dX9_trayFault_25 (by decide) ?_
        exact j_iret (pc := 26) X dX9_trayFault_26 ⟨by simp [tfF, tN, cl0, cl1, cl2, cl3, c_4, c_18], rfl⟩
      · skip
        refine j_iconst (pc := 21) X (v := nI 3) dX9_trayFault_21 (by decide) ?_
        refine j_goto (pc := 22) X (tgt := 26) dX9_trayFault_22 (by decide) ?_
        exact j_iret (pc := 26) X dX9_trayFault_26 ⟨by simp [tfF, tN, cl0, cl1, cl2, cl3, c_4, c_18], rfl⟩
    · skip
      refine j_aload_n (pc := 9) X dX9_trayFault_9 rfl 0 rfl ?_
      refine j_get (pc := 10) X 9 i_X9 0 rfl rfl 0 (by decide) (by decide +kernel) rfl dX9_trayFault_10 ?_
      refine j_iload_n (pc := 13) X dX9_trayFault_13 rfl 1 rfl ?_
      refine j_aldq (pc := 14) X 1 rfl (vp_in_nI (by omega) (by omega)) (v := tA 1) ((congrArg (tyF tA) (nI_clamp (by decide))).trans rfl) dX9_trayFault_14 ?_
      refine j_getN (pc := 15) X 7 i_X7 3 rfl rfl 1 (by decide) (by decide +kernel) rfl dX9_trayFault_15 ?_
      refine j_ifb_eq (pc := 18) X (B := ms 1) (tgt := 25) dX9_trayFault_18 (by decide) (fun c_18 => ?_) (fun c_18 => ?_)
      · skip
        refine j_iconst (pc := 25) X (v := nI 0) dX9_trayFault_25 (by decide) ?_
        exact j_iret (pc := 26) X dX9_trayFault_26 ⟨by simp [tfF, tN, cl0, cl1, cl2, cl3, c_4, c_18], rfl⟩
      · skip
        refine j_iconst (pc := 21) X (v := nI 3) dX9_trayFault_21 (by decide) ?_
        refine j_goto (pc := 22) X (tgt := 26) dX9_trayFault_22 (by decide) ?_
        exact j_iret (pc := 26) X dX9_trayFault_26 ⟨by simp [tfF, tN, cl0, cl1, cl2, cl3, c_4, c_18], rfl⟩
    · skip
      refine j_aload_n (pc := 9) X dX9_trayFault_9 rfl 0 rfl ?_
      refine j_get (pc := 10) X 9 i_X9 0 rfl rfl 0 (by decide) (by decide +kernel) rfl dX9_trayFault_10 ?_
      refine j_iload_n (pc := 13) X dX9_trayFault_13 rfl 1 rfl ?_
      refine j_aldq (pc := 14) X 1 rfl (vp_in_nI (by omega) (by omega)) (v := tA 2) ((congrArg (tyF tA) (nI_clamp (by decide))).trans rfl) dX9_trayFault_14 ?_
      refine j_getN (pc := 15) X 7 i_X7 4 rfl rfl 1 (by decide) (by decide +kernel) rfl dX9_trayFault_15 ?_
      refine j_ifb_eq (pc := 18) X (B := ms 2) (tgt := 25) dX9_trayFault_18 (by decide) (fun c_18 => ?_) (fun c_18 => ?_)
      · skip
        refine j_iconst (pc := 25) X (v := nI 0) dX9_trayFault_25 (by decide) ?_
        exact j_iret (pc := 26) X dX9_trayFault_26 ⟨by simp [tfF, tN, cl0, cl1, cl2, cl3, c_4, c_18], rfl⟩
      · skip
        refine j_iconst (pc := 21) X (v := nI 3) dX9_trayFault_21 (by decide) ?_
        refine j_goto (pc := 22) X (tgt := 26) dX9_trayFault_22 (by decide) ?_
        exact j_iret (pc := 26) X dX9_trayFault_26 ⟨by simp [tfF, tN, cl0, cl1, cl2, cl3, c_4, c_18], rfl⟩
    · skip
      refine j_aload_n (pc := 9) X dX9_trayFault_9 rfl 0 rfl ?_
      refine j_get (pc := 10) X 9 i_X9 0 rfl rfl 0 (by decide) (by decide +kernel) rfl dX9_trayFault_10 ?_
      refine j_iload_n (pc := 13) X dX9_trayFault_13 rfl 1 rfl ?_
      refine j_aldq (pc := 14) X 1 rfl (vp_in_nI (by omega) (by omega)) (v := tA 3) ((congrArg (tyF tA) (nI_clamp (by decide))).trans rfl) dX9_trayFault_14 ?_
      refine j_getN (pc := 15) X 7 i_X7 5 rfl rfl 1 (by decide) (by decide +kernel) rfl dX9_trayFault_15 ?_
      refine j_ifb_eq (pc := 18) X (B := ms 3) (tgt := 25) dX9_trayFault_18 (by decide) (fun c_18 => ?_) (fun c_18 => ?_)
      · skip
        refine j_iconst (pc := 25) X (v := nI 0) dX9_trayFault_25 (by decide) ?_
        exact j_iret (pc := 26) X dX9_trayFault_26 ⟨by simp [tfF, tN, cl0, cl1, cl2, cl3, c_4, c_18], rfl⟩
      · skip
        refine j_iconst (pc := 21) X (v := nI 3) dX9_trayFault_21 (by decide) ?_
        refine j_goto (pc := 22) X (tgt := 26) dX9_trayFault_22 (by decide) ?_
        exact j_iret (pc := 26) X dX9_trayFault_26 ⟨by simp [tfF, tN, cl0, cl1, cl2, cl3, c_4, c_18], rfl⟩
  · skip
    refine j_iconst (pc := 7) X (v := nI 1) dX9_trayFault_7 (by decide) ?_
    exact j_iret (pc := 8) X dX9_trayFault_8 ⟨by simp [tfF, tN, cl0, cl1, cl2, cl3, c_4], rfl⟩

set_option maxHeartbeats 4000000 in
set_option maxRecDepth 100000 in
theorem mX9_placeFault (l : Launch) (G : jG) (qx : Nat) (qy : Nat) (qc : Nat) (qp : Nat) (qr : Nat) (qm : Nat) (qg : Nat) (qu : Nat) (ql : Nat) (qf : Nat) (lt : Nat) (tA : Nat → Nat) (nA : Nat → Nat) (ms : Nat → Bool) (so : Nat → Nat) (ln : Nat → Nat) (x : Int32) (k : Int32)  : MV l yX9_placeFault wsX9_placeFault ({ frames := 2, cells := 0, slots := 0, locals := 41 }) G [.ref qx, .int x, .int k] [(qx, .inr (9, [.ref qy, .ref qc, .ref qp, .ref qr, .ref qm, .ref qg, .ref qu, .ref ql, .ref qf, .int (nI lt)])), kT G qy 4 (tyF tA), (tA 0, .inr (7, [.ref (nA 0), .int (b2i (ms 0)), .int (nI (so 0)), .int (nI (ln 0))])), (tA 1, .inr (7, [.ref (nA 1), .int (b2i (ms 1)), .int (nI (so 1)), .int (nI (ln 1))])), (tA 2, .inr (7, [.ref (nA 2), .int (b2i (ms 2)), .int (nI (so 2)), .int (nI (ln 2))])), (tA 3, .inr (7, [.ref (nA 3), .int (b2i (ms 3)), .int (nI (so 3)), .int (nI (ln 3))]))] (some (.int (nI (plF ms ln x k)))) [(qx, .inr (9, [.ref qy, .ref qc, .ref qp, .ref qr, .ref qm, .ref qg, .ref qu, .ref ql, .ref qf, .int (nI lt)])), kT G qy 4 (tyF tA), (tA 0, .inr (7, [.ref (nA 0), .int (b2i (ms 0)), .int (nI (so 0)), .int (nI (ln 0))])), (tA 1, .inr (7, [.ref (nA 1), .int (b2i (ms 1)), .int (nI (so 1)), .int (nI (ln 1))])), (tA 2, .inr (7, [.ref (nA 2), .int (b2i (ms 2)), .int (nI (so 2)), .int (nI (ln 2))])), (tA 3, .inr (7, [.ref (nA 3), .int (b2i (ms 3)), .int (nI (so 3)), .int (nI (ln 3))]))] := by
  refine MF.ofJ (cc := cX9_placeFault) (maxL := 4) (ret := (some .int)) (own := RX9) (lv := [(0, .ref qx), (1, .int x), (2, .int k)]) (by decide) rfl rfl (Nat.le_of_ble_eq_true rfl) rfl ?_
  intro κ X
  have i_X7 : ∀ w ∈ wsX70, w ∈ wsX9_placeFault := by decide +kernel
  have i_X9 : ∀ w ∈ wsX90, w ∈ wsX9_placeFault := by decide +kernel
  refine j_aload_n (pc := 0) X dX9_placeFault_0 rfl 0 rfl ?_
  refine j_iload_n (pc := 1) X dX9_placeFault_1 rfl 1 rfl ?_
  refine j_ciP (pc := 2) X [0, 1, 2, 3, 4, 5] rfl (j_rV X (b := qx) (As := [.int x]) (ci := 9) (rest := []) 1 (mX9_trayFault l G qx qy qc qp qr qm qg qu ql qf lt tA nA ms so ln x ) gX9_placeFault_X9_trayFault rfl rfl rfl (by decide +kernel) ⟨Nat.le_of_ble_eq_true rfl, Nat.le_of_ble_eq_true rfl⟩ rfl rfl 0 rfl [0, 1, 2, 3, 4, 5] rfl rfl rfl (Nat.le_of_ble_eq_true rfl) dX9_placeFault_2 ⟨Nat.le_of_ble_eq_true rfl, Nat.le_of_ble_eq_true rfl⟩) ?_
  refine j_istore_n (pc := 5) X (lv' := [(3, .int (nI (tfF ms x))), (0, .ref qx), (1, .int x), (2, .int k)]) dX9_placeFault_5 rfl (by decide) rfl ?_
  refine j_iload_n (pc := 6) X dX9_placeFault_6 rfl 0 rfl ?_
  refine j_ifN_eq (pc := 7) X (a := (tfF ms x)) (by first | omega | (have h9 := tfF_le ms x; omega)) (tgt := 12) dX9_placeFault_7 (by decide) (fun c_7 => ?_) (fun c_7 => ?_)
  · skip
    obtain ⟨j, hj, rfl, hms⟩ := tfF_0 c_7; rcases (by omega : j = 0 ∨ j = 1 ∨ j = 2 ∨ j = 3) with rfl | rfl | rfl | rfl
    · skip
      refine j_aload_n (pc := 12) X dX9_placeFault_12 rfl 1 rfl ?_
      refine j_get (pc := 13) X 9 i_X9 0 rfl rfl 0 (by decide) (by decide +kernel) rfl dX9_placeFault_13 ?_
      refine j_iload_n (pc := 16) X dX9_placeFault_16 rfl 2 rfl ?_
      refine j_aldq (pc := 17) X 1 rfl (vp_in_nI (by omega) (by omega)) (v := tA 0) ((congrArg (tyF tA) (nI_clamp (by decide))).trans rfl) dX9_placeFault_17 ?_
      refine j_iload_n (pc := 18) X dX9_placeFault_18 rfl 3 rfl ?_
      refine j_iconst (pc := 19) X (v := nI 1) dX9_placeFault_19 (by decide) ?_
      refine j_ciP (pc := 20) X [2] rfl (j_rVN X (b := tA 0) (As := [.int k, .int (nI 1)]) (ci := 7) (rest := []) 2 (mX7_hasPlaces l G (tA 0) (nA 0) (ms 0) (so 0) (ln 0) k (nI 1) ) gX9_placeFault_X7_hasPlaces_n269 rfl rfl rfl (by decide +kernel) (by decide +kernel) (by decide +kernel) (by decide +kernel) (by decide +kernel) ⟨Nat.le_of_ble_eq_true rfl, Nat.le_of_ble_eq_true rfl⟩ rfl rfl 0 rfl [2] rfl rfl rfl (Nat.le_of_ble_eq_true rfl) dX9_placeFault_20 ⟨Nat.le_of_ble_eq_true rfl, Nat.le_of_ble_eq_true rfl⟩) ?_
      refine j_ifb_eq (pc := 23) X (B := hasP k (nI 1) (ln 0)) (tgt := 30) dX9_placeFault_23 (by decide) (fun c_23 => ?_) (fun c_23 => ?_)
      · skip
        refine j_iconst (pc := 30) X (v := nI 4) dX9_placeFault_30 (by decide) ?_
        exact j_iret (pc := 31) X dX9_placeFault_31 ⟨by simp [plF, tN, cl0, cl1, cl2, cl3, c_7, c_23], by simp [plF, tN, cl0, cl1, cl2, cl3, c_7, c_23]⟩
      · skip
        refine j_iconst (pc := 26) X (v := nI 0) dX9_placeFault_26 (by decide) ?_
        refine j_goto (pc := 27) X (tgt := 31) dX9_placeFault_27 (by decide) ?_
        exact j_iret (pc := 31) X dX9_placeFault_31 ⟨by simp [plF, tN, cl0, cl1, cl2, cl3, c_7, c_23], by simp [plF, tN, cl0, cl1, cl2, cl3, c_7, c_23]⟩
    · skip
      refine j_aload_n (pc := 12) X dX9_placeFault_12 rfl 1 rfl ?_
      refine j_get (pc := 13) X 9 i_X9 0 rfl rfl 0 (by decide) (by decide +kernel) rfl dX9_placeFault_13 ?_
      refine j_iload_n (pc := 16) X dX9_placeFault_16 rfl 2 rfl ?_
      refine j_aldq (pc := 17) X 1 rfl (vp_in_nI (by omega) (by omega)) (v := tA 1) ((congrArg (tyF tA) (nI_clamp (by decide))).trans rfl) dX9_placeFault_17 ?_
      refine j_iload_n (pc := 18) X dX9_placeFault_18 rfl 3 rfl ?_
      refine j_iconst (pc := 19) X (v := nI 1) dX9_placeFault_19 (by decide) ?_
      refine j_ciP (pc := 20) X [3] rfl (j_rVN X (b := tA 1) (As := [.int k, .int (nI 1)]) (ci := 7) (rest := []) 2 (mX7_hasPlaces l G (tA 1) (nA 1) (ms 1) (so 1) (ln 1) k (nI 1) ) gX9_placeFault_X7_hasPlaces_n269 rfl rfl rfl (by decide +kernel) (by decide +kernel) (by decide +kernel) (by decide +kernel) (by decide +kernel) ⟨Nat.le_of_ble_eq_true rfl, Nat.le_of_ble_eq_true rfl⟩ rfl rfl 0 rfl [3] rfl rfl rfl (Nat.le_of_ble_eq_true rfl) dX9_placeFault_20 ⟨Nat.le_of_ble_eq_true rfl, Nat.le_of_ble_eq_true rfl⟩) ?_
      refine j_ifb_eq (pc := 23) X (B := hasP k (nI 1) (ln 1)) (tgt := 30) dX9_placeFault_23 (by decide) (fun c_23 => ?_) (fun c_23 => ?_)
      · skip
        refine j_iconst (pc := 30) X (v := nI 4) dX9_placeFault_30 (by decide) ?_
        exact j_iret (pc := 31) X dX9_placeFault_31 ⟨by simp [plF, tN, cl0, cl1, cl2, cl3, c_7, c_23], by simp [plF, tN, cl0, cl1, cl2, cl3, c_7, c_23]⟩
      · skip
        refine j_iconst (pc := 26) X (v := nI 0) dX9_placeFault_26 (by decide) ?_
        refine j_goto (pc := 27) X (tgt := 31) dX9_placeFault_27 (by decide) ?_
        exact j_iret (pc := 31) X dX9_placeFault_31 ⟨by simp [plF, tN, cl0, cl1, cl2, cl3, c_7, c_23], by simp [plF, tN, cl0, cl1, cl2, cl3, c_7, c_23]⟩
    · skip
      refine j_aload_n (pc := 12) X dX9_placeFault_12 rfl 1 rfl ?_
      refine j_get (pc := 13) X 9 i_X9 0 rfl rfl 0 (by decide) (by decide +kernel) rfl dX9_placeFault_13 ?_
      refine j_iload_n (pc := 16) X dX9_placeFault_16 rfl 2 rfl ?_
      refine j_aldq (pc := 17) X 1 rfl (vp_in_nI (by omega) (by omega)) (v := tA 2) ((congrArg (tyF tA) (nI_clamp (by decide))).trans rfl) dX9_placeFault_17 ?_
      refine j_iload_n (pc := 18) X dX9_placeFault_18 rfl 3 rfl ?_
      refine j_iconst (pc := 19) X (v := nI 1) dX9_placeFault_19 (by decide) ?_
      refine j_ciP (pc := 20) X [4] rfl (j_rVN X (b := tA 2) (As := [.int k, .int (nI 1)]) (ci := 7) (rest := []) 2 (mX7_hasPlaces l G (tA 2) (nA 2) (ms 2) (so 2) (ln 2) k (nI 1) ) gX9_placeFault_X7_hasPlaces_n269 rfl rfl rfl (by decide +kernel) (by decide +kernel) (by decide +kernel) (by decide +kernel) (by decide +kernel) ⟨Nat.le_of_ble_eq_true rfl, Nat.le_of_ble_eq_true rfl⟩ rfl rfl 0 rfl [4] rfl rfl rfl (Nat.le_of_ble_eq_true rfl) dX9_placeFault_20 ⟨Nat.le_of_ble_eq_true rfl, Nat.le_of_ble_eq_true rfl⟩) ?_
      refine j_ifb_eq (pc := 23) X (B := hasP k (nI 1) (ln 2)) (tgt := 30) dX9_placeFault_23 (by decide) (fun c_23 => ?_) (fun c_23 => ?_)
      · skip
        refine j_iconst (pc := 30) X (v := nI 4) dX9_placeFault_30 (by decide) ?_
        exact j_iret (pc := 31) X dX9_placeFault_31 ⟨by simp [plF, tN, cl0, cl1, cl2, cl3, c_7, c_23], by simp [plF, tN, cl0, cl1, cl2, cl3, c_7, c_23]⟩
      · skip
        refine j_iconst (pc := 26) X (v := nI 0) dX9_placeFault_26 (by decide) ?_
        refine j_goto (pc := 27) X (tgt := 31) dX9_placeFault_27 (by decide) ?_
        exact j_iret (pc := 31) X dX9_placeFault_31 ⟨by simp [plF, tN, cl0, cl1, cl2, cl3, c_7, c_23], by simp [plF, tN, cl0, cl1, cl2, cl3, c_7, c_23]⟩
    · skip
      refine j_aload_n (pc := 12) X dX9_placeFault_12 rfl 1 rfl ?_
      refine j_get (pc := 13) X 9 i_X9 0 rfl rfl 0 (by decide) (by decide +kernel) rfl dX9_placeFault_13 ?_
      refine j_iload_n (pc := 16) X dX9_placeFault_16 rfl 2 rfl ?_
      refine j_aldq (pc := 17) X 1 rfl (vp_in_nI (by omega) (by omega)) (v := tA 3) ((congrArg (tyF tA) (nI_clamp (by decide))).trans rfl) dX9_placeFault_17 ?_
      refine j_iload_n (pc := 18) X dX9_placeFault_18 rfl 3 rfl ?_
      refine j_iconst (pc := 19) X (v := nI 1) dX9_placeFault_19 (by decide) ?_
      refine j_ciP (pc := 20) X [5] rfl (j_rVN X (b := tA 3) (As := [.int k, .int (nI 1)]) (ci := 7) (rest := []) 2 (mX7_hasPlaces l G (tA 3) (nA 3) (ms 3) (so 3) (ln 3) k (nI 1) ) gX9_placeFault_X7_hasPlaces_n269 rfl rfl rfl (by decide +kernel) (by decide +kernel) (by decide +kernel) (by decide +kernel) (by decide +kernel) ⟨Nat.le_of_ble_eq_true rfl, Nat.le_of_ble_eq_true rfl⟩ rfl rfl 0 rfl [5] rfl rfl rfl (Nat.le_of_ble_eq_true rfl) dX9_placeFault_20 ⟨Nat.le_of_ble_eq_true rfl, Nat.le_of_ble_eq_true rfl⟩) ?_
      refine j_ifb_eq (pc := 23) X (B := hasP k (nI 1) (ln 3)) (tgt := 30) dX9_placeFault_23 (by decide) (fun c_23 => ?_) (fun c_23 => ?_)
      · skip
        refine j_iconst (pc := 30) X (v := nI 4) dX9_placeFault_30 (by decide) ?_
        exact j_iret (pc := 31) X dX9_placeFault_31 ⟨by simp [plF, tN, cl0, cl1, cl2, cl3, c_7, c_23], by simp [plF, tN, cl0, cl1, cl2, cl3, c_7, c_23]⟩
      · skip
        refine j_iconst (pc := 26) X (v := nI 0) dX9_placeFault_26 (by decide) ?_
        refine j_goto (pc := 27) X (tgt := 31) dX9_placeFault_27 (by decide) ?_
        exact j_iret (pc := 31) X dX9_placeFault_31 ⟨by simp [plF, tN, cl0, cl1, cl2, cl3, c_7, c_23], by simp [plF, tN, cl0, cl1, cl2, cl3, c_7, c_23]⟩
  · skip
    refine j_iload_n (pc := 10) X dX9_placeFault_10 rfl 0 rfl ?_
    exact j_iret (pc := 11) X dX9_placeFault_11 ⟨by simp [plF, tN, cl0, cl1, cl2, cl3, c_7], rfl⟩

set_option maxHeartbeats 4000000 in
set_option maxRecDepth 100000 in
theorem mX9_pourFault (l : Launch) (G : jG) (qx : Nat) (qy : Nat) (qc : Nat) (qp : Nat) (qr : Nat) (qm : Nat) (qg : Nat) (qu : Nat) (ql : Nat) (qf : Nat) (lt : Nat) (tA : Nat → Nat) (nA : Nat → Nat) (ms : Nat → Bool) (so : Nat → Nat) (ln : Nat → Nat) (x : Int32) (i : Int32) (to_ : Int32) (j : Int32) (m : Int32) (hso : ∀ k, so k < 4) : MV l yX9_pourFault wsX9_pourFault ({ frames := 1, cells := 0, slots := 0, locals := 22 }) G [.ref qx, .int x, .int i, .int to_, .int j, .int m] [(qx, .inr (9, [.ref qy, .ref qc, .ref qp, .ref qr, .ref qm, .ref qg, .ref qu, .ref ql, .ref qf, .int (nI lt)])), kT G qy 4 (tyF tA), (tA 0, .inr (7, [.ref (nA 0), .int (b2i (ms 0)), .int (nI (so 0)), .int (nI (ln 0))])), (tA 1, .inr (7, [.ref (nA 1), .int (b2i (ms 1)), .int (nI (so 1)), .int (nI (ln 1))])), (tA 2, .inr (7, [.ref (nA 2), .int (b2i (ms 2)), .int (nI (so 2)), .int (nI (ln 2))])), (tA 3, .inr (7, [.ref (nA 3), .int (b2i (ms 3)), .int (nI (so 3)), .int (nI (ln 3))]))] (some (.int (nI (poG ms so ln x i to_ j m)))) [(qx, .inr (9, [.ref qy, .ref qc, .ref qp, .ref qr, .ref qm, .ref qg, .ref qu, .ref ql, .ref qf, .int (nI lt)])), kT G qy 4 (tyF tA), (tA 0, .inr (7, [.ref (nA 0), .int (b2i (ms 0)), .int (nI (so 0)), .int (nI (ln 0))])), (tA 1, .inr (7, [.ref (nA 1), .int (b2i (ms 1)), .int (nI (so 1)), .int (nI (ln 1))])), (tA 2, .inr (7, [.ref (nA 2), .int (b2i (ms 2)), .int (nI (so 2)), .int (nI (ln 2))])), (tA 3, .inr (7, [.ref (nA 3), .int (b2i (ms 3)), .int (nI (so 3)), .int (nI (ln 3))]))] := by
  refine MF.ofJ (cc := cX9_pourFault) (maxL := 7) (ret := (some .int)) (own := RX9) (lv := [(0, .ref qx), (1, .int x), (2, .int i), (3, .int to_), (4, .int j), (5, .int m)]) (by decide) rfl rfl (Nat.le_of_ble_eq_true rfl) rfl ?_
  intro κ X
  have i_X7 : ∀ w ∈ wsX70, w ∈ wsX9_pourFault := by decide +kernel
  have i_X9 : ∀ w ∈ wsX90, w ∈ wsX9_pourFault := by decide +kernel
  refine j_iload_n (pc := 0) X dX9_pourFault_0 rfl 1 rfl ?_
  refine j_ciP (pc := 1) X [] rfl (j_rS X (As := [.int x]) (rest := []) 1 (mX9_isTray l G x ) gX9_pourFault_X9_isTray rfl rfl rfl (by decide +kernel) ⟨Nat.le_of_ble_eq_true rfl, Nat.le_of_ble_eq_true rfl⟩ rfl [] rfl rfl rfl (Nat.le_of_ble_eq_true rfl) dX9_pourFault_1 ⟨Nat.le_of_ble_eq_true rfl, Nat.le_of_ble_eq_true rfl⟩) ?_
  refine j_ifb_eq (pc := 4) X (B := inR x 4) (tgt := 14) dX9_pourFault_4 (by decide) (fun c_4 => ?_) (fun c_4 => ?_)
  · skip
    refine j_iconst (pc := 14) X (v := nI 1) dX9_pourFault_14 (by decide) ?_
    exact j_iret (pc := 15) X dX9_pourFault_15 ⟨by first | (simp [poG, tN, cl0, cl1, cl2, cl3, c_4]; done) | exact absurd rfl c_60 | (rw [c_25] at c_37; exact absurd c_37 (by decide)), rfl⟩
  · skip
    obtain ⟨a, ha, rfl⟩ := inR_of c_4 (by decide); rcases (by omega : a = 0 ∨ a = 1 ∨ a = 2 ∨ a = 3) with rfl | rfl | rfl | rfl
    · skip
      refine j_iload_n (pc := 7) X dX9_pourFault_7 rfl 3 rfl ?_
      refine j_ciP (pc := 8) X [] rfl (j_rS X (As := [.int to_]) (rest := []) 1 (mX9_isTray l G to_ ) gX9_pourFault_X9_isTray rfl rfl rfl (by decide +kernel) ⟨Nat.le_of_ble_eq_true rfl, Nat.le_of_ble_eq_true rfl⟩ rfl [] rfl rfl rfl (Nat.le_of_ble_eq_true rfl) dX9_pourFault_8 ⟨Nat.le_of_ble_eq_true rfl, Nat.le_of_ble_eq_true rfl⟩) ?_
      refine j_ifb_ne (pc := 11) X (B := inR to_ 4) (tgt := 16) dX9_pourFault_11 (by decide) (fun c_11 => ?_) (fun c_11 => ?_)
      · skip
        obtain ⟨b, hb, rfl⟩ := inR_of c_11 (by decide); rcases (by omega : b = 0 ∨ b = 1 ∨ b = 2 ∨ b = 3) with rfl | rfl | rfl | rfl
        · skip
          refine j_aload_n (pc := 16) X dX9_pourFault_16 rfl 0 rfl ?_
          refine j_get (pc := 17) X 9 i_X9 0 rfl rfl 0 (by decide) (by decide +kernel) rfl dX9_pourFault_17 ?_
          refine j_iload_n (pc := 20) X dX9_pourFault_20 rfl 1 rfl ?_
          refine j_aldq (pc := 21) X 1 rfl (vp_in_nI (by omega) (by omega)) (v := tA 0) ((congrArg (tyF tA) (nI_clamp (by decide))).trans rfl) dX9_pourFault_21 ?_
          refine j_getN (pc := 22) X 7 i_X7 2 rfl rfl 1 (by decide) (by decide +kernel) rfl dX9_pourFault_22 ?_
          refine j_ifb_ne (pc := 25) X (B := ms 0) (tgt := 40) dX9_pourFault_25 (by decide) (fun c_25 => ?_) (fun c_25 => ?_)
          · skip
            refine j_iconst (pc := 40) X (v := nI 3) dX9_pourFault_40 (by decide) ?_
            exact j_iret (pc := 41) X dX9_pourFault_41 ⟨by first | (simp [poG, tN, cl0, cl1, cl2, cl3, c_4, c_11, c_25]; done) | exact absurd rfl c_60 | (rw [c_25] at c_37; exact absurd c_37 (by decide)), rfl⟩
          · skip
            refine j_aload_n (pc := 28) X dX9_pourFault_28 rfl 0 rfl ?_
            refine j_get (pc := 29) X 9 i_X9 0 rfl rfl 0 (by decide) (by decide +kernel) rfl dX9_pourFault_29 ?_
            refine j_iload_n (pc := 32) X dX9_pourFault_32 rfl 3 rfl ?_
            refine j_aldq (pc := 33) X 1 rfl (vp_in_nI (by omega) (by omega)) (v := tA 0) ((congrArg (tyF tA) (nI_clamp (by decide))).trans rfl) dX9_pourFault_33 ?_
            refine j_getN (pc := 34) X 7 i_X7 2 rfl rfl 1 (by decide) (by decide +kernel) rfl dX9_pourFault_34 ?_
            refine j_ifb_eq (pc := 37) X (B := ms 0) (tgt := 42) dX9_pourFault_37 (by decide) (fun c_37 => ?_) (fun c_37 => ?_)
            · skip
              refine j_aload_n (pc := 42) X dX9_pourFault_42 rfl 0 rfl ?_
              refine j_get (pc := 43) X 9 i_X9 0 rfl rfl 0 (by decide) (by decide +kernel) rfl dX9_pourFault_43 ?_
              refine j_iload_n (pc := 46) X dX9_pourFault_46 rfl 1 rfl ?_
              refine j_aldq (pc := 47) X 1 rfl (vp_in_nI (by omega) (by omega)) (v := tA 0) ((congrArg (tyF tA) (nI_clamp (by decide))).trans rfl) dX9_pourFault_47 ?_
              refine j_getN (pc := 48) X 7 i_X7 2 rfl rfl 2 (by decide) (by decide +kernel) rfl dX9_pourFault_48 ?_
              refine j_aload_n (pc := 51) X dX9_pourFault_51 rfl 0 rfl ?_
              refine j_get (pc := 52) X 9 i_X9 0 rfl rfl 0 (by decide) (by decide +kernel) rfl dX9_pourFault_52 ?_
              refine j_iload_n (pc := 55) X dX9_pourFault_55 rfl 3 rfl ?_
              refine j_aldq (pc := 56) X 1 rfl (vp_in_nI (by omega) (by omega)) (v := tA 0) ((congrArg (tyF tA) (nI_clamp (by decide))).trans rfl) dX9_pourFault_56 ?_
              refine j_getN (pc := 57) X 7 i_X7 2 rfl rfl 2 (by decide) (by decide +kernel) rfl dX9_pourFault_57 ?_
              refine j_icmpN_eq (pc := 60) X (a := (so 0)) (b := (so 0)) (by first | omega | exact Nat.lt_of_lt_of_le (hso _) (by decide)) (by first | omega | exact Nat.lt_of_lt_of_le (hso _) (by decide)) (tgt := 66) dX9_pourFault_60 (by decide) (fun c_60 => ?_) (fun c_60 => ?_)
              · skip
                refine j_iload (pc := 66) X dX9_pourFault_66 5 rfl ?_
                refine j_if_ge (pc := 68) X (x := m) (tgt := 74) dX9_pourFault_68 (by decide) (fun c_68 => ?_) (fun c_68 => ?_)
                · skip
                  refine j_aload_n (pc := 74) X dX9_pourFault_74 rfl 0 rfl ?_
                  refine j_get (pc := 75) X 9 i_X9 0 rfl rfl 0 (by decide) (by decide +kernel) rfl dX9_pourFault_75 ?_
                  refine j_iload_n (pc := 78) X dX9_pourFault_78 rfl 1 rfl ?_
                  refine j_aldq (pc := 79) X 1 rfl (vp_in_nI (by omega) (by omega)) (v := tA 0) ((congrArg (tyF tA) (nI_clamp (by decide))).trans rfl) dX9_pourFault_79 ?_
                  refine j_iload_n (pc := 80) X dX9_pourFault_80 rfl 2 rfl ?_
                  refine j_iload (pc := 81) X dX9_pourFault_81 5 rfl ?_
                  refine j_ciP (pc := 83) X [2] rfl (j_rVN X (b := tA 0) (As := [.int i, .int m]) (ci := 7) (rest := []) 2 (mX7_hasPlaces l G (tA 0) (nA 0) (ms 0) (so 0) (ln 0) i m ) gX9_pourFault_X7_hasPlaces_n269 rfl rfl rfl (by decide +kernel) (by decide +kernel) (by decide +kernel) (by decide +kernel) (by decide +kernel) ⟨Nat.le_of_ble_eq_true rfl, Nat.le_of_ble_eq_true rfl⟩ rfl rfl 0 rfl [2] rfl rfl rfl (Nat.le_of_ble_eq_true rfl) dX9_pourFault_83 ⟨Nat.le_of_ble_eq_true rfl, Nat.le_of_ble_eq_true rfl⟩) ?_
                  refine j_ifb_eq (pc := 86) X (B := hasP i m (ln 0)) (tgt := 109) dX9_pourFault_86 (by decide) (fun c_86 => ?_) (fun c_86 => ?_)
                  · skip
                    refine j_iconst (pc := 109) X (v := nI 0) dX9_pourFault_109 (by decide) ?_
                    refine j_istore (pc := 110) X (lv' := [(6, .int (nI 0)), (0, .ref qx), (1, .int (nI 0)), (2, .int i), (3, .int (nI 0)), (4, .int j), (5, .int m)]) dX9_pourFault_110 (by decide) rfl ?_
                    refine j_iload (pc := 112) X dX9_pourFault_112 0 rfl ?_
                    refine j_ifN_eq (pc := 114) X (a := 0) (by first | omega | exact Nat.lt_of_lt_of_le (hso _) (by decide)) (tgt := 121) dX9_pourFault_114 (by decide) (fun c_114 => ?_) (fun c_114 => ?_)
                    · skip
                      refine j_iconst (pc := 121) X (v := nI 4) dX9_pourFault_121 (by decide) ?_
                      exact j_iret (pc := 122) X dX9_pourFault_122 ⟨by first | (simp [poG, tN, cl0, cl1, cl2, cl3, c_4, c_11, c_25, c_37, c_60, c_68, c_86, c_114]; done) | exact absurd rfl c_60 | (rw [c_25] at c_37; exact absurd c_37 (by decide)), by first | (simp [poG, tN, cl0, cl1, cl2, cl3, c_4, c_11, c_25, c_37, c_60, c_68, c_86, c_114]; done) | exact absurd rfl c_60 | (rw [c_25] at c_37; exact absurd c_37 (by decide))⟩
                    · skip
                      exact absurd c_114 (by decide)
                  · skip
                    refine j_aload_n (pc := 89) X dX9_pourFault_89 rfl 0 rfl ?_
                    refine j_get (pc := 90) X 9 i_X9 0 rfl rfl 0 (by decide) (by decide +kernel) rfl dX9_pourFault_90 ?_
                    refine j_iload_n (pc := 93) X dX9_pourFault_93 rfl 3 rfl ?_
                    refine j_aldq (pc := 94) X 1 rfl (vp_in_nI (by omega) (by omega)) (v := tA 0) ((congrArg (tyF tA) (nI_clamp (by decide))).trans rfl) dX9_pourFault_94 ?_
                    refine j_iload (pc := 95) X dX9_pourFault_95 4 rfl ?_
                    refine j_iload (pc := 97) X dX9_pourFault_97 5 rfl ?_
                    refine j_ciP (pc := 99) X [2] rfl (j_rVN X (b := tA 0) (As := [.int j, .int m]) (ci := 7) (rest := []) 2 (mX7_hasPlaces l G (tA 0) (nA 0) (ms 0) (so 0) (ln 0) j m ) gX9_pourFault_X7_hasPlaces_n269 rfl rfl rfl (by decide +kernel) (by decide +kernel) (by decide +kernel) (by decide +kernel) (by decide +kernel) ⟨Nat.le_of_ble_eq_true rfl, Nat.le_of_ble_eq_true rfl⟩ rfl rfl 0 rfl [2] rfl rfl rfl (Nat.le_of_ble_eq_true rfl) dX9_pourFault_99 ⟨Nat.le_of_ble_eq_true rfl, Nat.le_of_ble_eq_true rfl⟩) ?_
                    refine j_ifb_eq (pc := 102) X (B := hasP j m (ln 0)) (tgt := 109) dX9_pourFault_102 (by decide) (fun c_102 => ?_) (fun c_102 => ?_)
                    · skip
                      refine j_iconst (pc := 109) X (v := nI 0) dX9_pourFault_109 (by decide) ?_
                      refine j_istore (pc := 110) X (lv' := [(6, .int (nI 0)), (0, .ref qx), (1, .int (nI 0)), (2, .int i), (3, .int (nI 0)), (4, .int j), (5, .int m)]) dX9_pourFault_110 (by decide) rfl ?_
                      refine j_iload (pc := 112) X dX9_pourFault_112 0 rfl ?_
                      refine j_ifN_eq (pc := 114) X (a := 0) (by first | omega | exact Nat.lt_of_lt_of_le (hso _) (by decide)) (tgt := 121) dX9_pourFault_114 (by decide) (fun c_114 => ?_) (fun c_114 => ?_)
                      · skip
                        refine j_iconst (pc := 121) X (v := nI 4) dX9_pourFault_121 (by decide) ?_
                        exact j_iret (pc := 122) X dX9_pourFault_122 ⟨by first | (simp [poG, tN, cl0, cl1, cl2, cl3, c_4, c_11, c_25, c_37, c_60, c_68, c_86, c_102, c_114]; done) | exact absurd rfl c_60 | (rw [c_25] at c_37; exact absurd c_37 (by decide)), by first | (simp [poG, tN, cl0, cl1, cl2, cl3, c_4, c_11, c_25, c_37, c_60, c_68, c_86, c_102, c_114]; done) | exact absurd rfl c_60 | (rw [c_25] at c_37; exact absurd c_37 (by decide))⟩
                      · skip
                        exact absurd c_114 (by decide)
                    · skip
                      refine j_iconst (pc := 105) X (v := nI 1) dX9_pourFault_105 (by decide) ?_
                      refine j_goto (pc := 106) X (tgt := 110) dX9_pourFault_106 (by decide) ?_
                      refine j_istore (pc := 110) X (lv' := [(6, .int (nI 1)), (0, .ref qx), (1, .int (nI 0)), (2, .int i), (3, .int (nI 0)), (4, .int j), (5, .int m)]) dX9_pourFault_110 (by decide) rfl ?_
                      refine j_iload (pc := 112) X dX9_pourFault_112 0 rfl ?_
                      refine j_ifN_eq (pc := 114) X (a := 1) (by first | omega | exact Nat.lt_of_lt_of_le (hso _) (by decide)) (tgt := 121) dX9_pourFault_114 (by decide) (fun c_114 => ?_) (fun c_114 => ?_)
                      · skip
                        exact absurd c_114 (by decide)
                      · skip
                        refine j_iconst (pc := 117) X (v := nI 0) dX9_pourFault_117 (by decide) ?_
                        refine j_goto (pc := 118) X (tgt := 122) dX9_pourFault_118 (by decide) ?_
                        exact j_iret (pc := 122) X dX9_pourFault_122 ⟨by first | (simp [poG, tN, cl0, cl1, cl2, cl3, c_4, c_11, c_25, c_37, c_60, c_68, c_86, c_102, c_114]; done) | exact absurd rfl c_60 | (rw [c_25] at c_37; exact absurd c_37 (by decide)), by first | (simp [poG, tN, cl0, cl1, cl2, cl3, c_4, c_11, c_25, c_37, c_60, c_68, c_86, c_102, c_114]; done) | exact absurd rfl c_60 | (rw [c_25] at c_37; exact absurd c_37 (by decide))⟩
                · skip
                  refine j_bipush (pc := 71) X (v := nI 6) dX9_pourFault_71 (by decide) ?_
                  exact j_iret (pc := 73) X dX9_pourFault_73 ⟨by first | (simp [poG, tN, cl0, cl1, cl2, cl3, c_4, c_11, c_25, c_37, c_60, c_68]; done) | exact absurd rfl c_60 | (rw [c_25] at c_37; exact absurd c_37 (by decide)), rfl⟩
              · skip
                refine j_bipush (pc := 63) X (v := nI 11) dX9_pourFault_63 (by decide) ?_
                exact j_iret (pc := 65) X dX9_pourFault_65 ⟨by first | (simp [poG, tN, cl0, cl1, cl2, cl3, c_4, c_11, c_25, c_37, c_60]; done) | exact absurd rfl c_60 | (rw [c_25] at c_37; exact absurd c_37 (by decide)), rfl⟩
            · skip
              refine j_iconst (pc := 40) X (v := nI 3) dX9_pourFault_40 (by decide) ?_
              exact j_iret (pc := 41) X dX9_pourFault_41 ⟨by first | (simp [poG, tN, cl0, cl1, cl2, cl3, c_4, c_11, c_25, c_37]; done) | exact absurd rfl c_60 | (rw [c_25] at c_37; exact absurd c_37 (by decide)), rfl⟩
        · skip
          refine j_aload_n (pc := 16) X dX9_pourFault_16 rfl 0 rfl ?_
          refine j_get (pc := 17) X 9 i_X9 0 rfl rfl 0 (by decide) (by decide +kernel) rfl dX9_pourFault_17 ?_
          refine j_iload_n (pc := 20) X dX9_pourFault_20 rfl 1 rfl ?_
          refine j_aldq (pc := 21) X 1 rfl (vp_in_nI (by omega) (by omega)) (v := tA 0) ((congrArg (tyF tA) (nI_clamp (by decide))).trans rfl) dX9_pourFault_21 ?_
          refine j_getN (pc := 22) X 7 i_X7 2 rfl rfl 1 (by decide) (by decide +kernel) rfl dX9_pourFault_22 ?_
          refine j_ifb_ne (pc := 25) X (B := ms 0) (tgt := 40) dX9_pourFault_25 (by decide) (fun c_25 => ?_) (fun c_25 => ?_)
          · skip
            refine j_iconst (pc := 40) X (v := nI 3) dX9_pourFault_40 (by decide) ?_
            exact j_iret (pc := 41) X dX9_pourFault_41 ⟨by first | (simp [poG, tN, cl0, cl1, cl2, cl3, c_4, c_11, c_25]; done) | exact absurd rfl c_60 | (rw [c_25] at c_37; exact absurd c_37 (by decide)), rfl⟩
          · skip
            refine j_aload_n (pc := 28) X dX9_pourFault_28 rfl 0 rfl ?_
            refine j_get (pc := 29) X 9 i_X9 0 rfl rfl 0 (by decide) (by decide +kernel) rfl dX9_pourFault_29 ?_
            refine j_iload_n (pc := 32) X dX9_pourFault_32 rfl 3 rfl ?_
            refine j_aldq (pc := 33) X 1 rfl (vp_in_nI (by omega) (by omega)) (v := tA 1) ((congrArg (tyF tA) (nI_clamp (by decide))).trans rfl) dX9_pourFault_33 ?_
            refine j_getN (pc := 34) X 7 i_X7 3 rfl rfl 1 (by decide) (by decide +kernel) rfl dX9_pourFault_34 ?_
            refine j_ifb_eq (pc := 37) X (B := ms 1) (tgt := 42) dX9_pourFault_37 (by decide) (fun c_37 => ?_) (fun c_37 => ?_)
            · skip
              refine j_aload_n (pc := 42) X dX9_pourFault_42 rfl 0 rfl ?_
              refine j_get (pc := 43) X 9 i_X9 0 rfl rfl 0 (by decide) (by decide +kernel) rfl dX9_pourFault_43 ?_
              refine j_iload_n (pc := 46) X dX9_pourFault_46 rfl 1 rfl ?_
              refine j_aldq (pc := 47) X 1 rfl (vp_in_nI (by omega) (by omega)) (v := tA 0) ((congrArg (tyF tA) (nI_clamp (by decide))).trans rfl) dX9_pourFault_47 ?_
              refine j_getN (pc := 48) X 7 i_X7 2 rfl rfl 2 (by decide) (by decide +kernel) rfl dX9_pourFault_48 ?_
              refine j_aload_n (pc := 51) X dX9_pourFault_51 rfl 0 rfl ?_
              refine j_get (pc := 52) X 9 i_X9 0 rfl rfl 0 (by decide) (by decide +kernel) rfl dX9_pourFault_52 ?_
              refine j_iload_n (pc := 55) X dX9_pourFault_55 rfl 3 rfl ?_
              refine j_aldq (pc := 56) X 1 rfl (vp_in_nI (by omega) (by omega)) (v := tA 1) ((congrArg (tyF tA) (nI_clamp (by decide))).trans rfl) dX9_pourFault_56 ?_
              refine j_getN (pc := 57) X 7 i_X7 3 rfl rfl 2 (by decide) (by decide +kernel) rfl dX9_pourFault_57 ?_
              refine j_icmpN_eq (pc := 60) X (a := (so 0)) (b := (so 1)) (by first | omega | exact Nat.lt_of_lt_of_le (hso _) (by decide)) (by first | omega | exact Nat.lt_of_lt_of_le (hso _) (by decide)) (tgt := 66) dX9_pourFault_60 (by decide) (fun c_60 => ?_) (fun c_60 => ?_)
              · skip
                refine j_iload (pc := 66) X dX9_pourFault_66 5 rfl ?_
                refine j_if_ge (pc := 68) X (x := m) (tgt := 74) dX9_pourFault_68 (by decide) (fun c_68 => ?_) (fun c_68 => ?_)
                · skip
                  refine j_aload_n (pc := 74) X dX9_pourFault_74 rfl 0 rfl ?_
                  refine j_get (pc := 75) X 9 i_X9 0 rfl rfl 0 (by decide) (by decide +kernel) rfl dX9_pourFault_75 ?_
                  refine j_iload_n (pc := 78) X dX9_pourFault_78 rfl 1 rfl ?_
                  refine j_aldq (pc := 79) X 1 rfl (vp_in_nI (by omega) (by omega)) (v := tA 0) ((congrArg (tyF tA) (nI_clamp (by decide))).trans rfl) dX9_pourFault_79 ?_
                  refine j_iload_n (pc := 80) X dX9_pourFault_80 rfl 2 rfl ?_
                  refine j_iload (pc := 81) X dX9_pourFault_81 5 rfl ?_
                  refine j_ciP (pc := 83) X [2] rfl (j_rVN X (b := tA 0) (As := [.int i, .int m]) (ci := 7) (rest := []) 2 (mX7_hasPlaces l G (tA 0) (nA 0) (ms 0) (so 0) (ln 0) i m ) gX9_pourFault_X7_hasPlaces_n269 rfl rfl rfl (by decide +kernel) (by decide +kernel) (by decide +kernel) (by decide +kernel) (by decide +kernel) ⟨Nat.le_of_ble_eq_true rfl, Nat.le_of_ble_eq_true rfl⟩ rfl rfl 0 rfl [2] rfl rfl rfl (Nat.le_of_ble_eq_true rfl) dX9_pourFault_83 ⟨Nat.le_of_ble_eq_true rfl, Nat.le_of_ble_eq_true rfl⟩) ?_
                  refine j_ifb_eq (pc := 86) X (B := hasP i m (ln 0)) (tgt := 109) dX9_pourFault_86 (by decide) (fun c_86 => ?_) (fun c_86 => ?_)
                  · skip
                    refine j_iconst (pc := 109) X (v := nI 0) dX9_pourFault_109 (by decide) ?_
                    refine j_istore (pc := 110) X (lv' := [(6, .int (nI 0)), (0, .ref qx), (1, .int (nI 0)), (2, .int i), (3, .int (nI 1)), (4, .int j), (5, .int m)]) dX9_pourFault_110 (by decide) rfl ?_
                    refine j_iload (pc := 112) X dX9_pourFault_112 0 rfl ?_
                    refine j_ifN_eq (pc := 114) X (a := 0) (by first | omega | exact Nat.lt_of_lt_of_le (hso _) (by decide)) (tgt := 121) dX9_pourFault_114 (by decide) (fun c_114 => ?_) (fun c_114 => ?_)
                    · skip
                      refine j_iconst (pc := 121) X (v := nI 4) dX9_pourFault_121 (by decide) ?_
                      exact j_iret (pc := 122) X dX9_pourFault_122 ⟨by first | (simp [poG, tN, cl0, cl1, cl2, cl3, c_4, c_11, c_25, c_37, c_60, c_68, c_86, c_114]; done) | exact absurd rfl c_60 | (rw [c_25] at c_37; exact absurd c_37 (by decide)), by first | (simp [poG, tN, cl0, cl1, cl2, cl3, c_4, c_11, c_25, c_37, c_60, c_68, c_86, c_114]; done) | exact absurd rfl c_60 | (rw [c_25] at c_37; exact absurd c_37 (by decide))⟩
                    · skip
                      exact absurd c_114 (by decide)
                  · skip
                    refine j_aload_n (pc := 89) X dX9_pourFault_89 rfl 0 rfl ?_
                    refine j_get (pc := 90) X 9 i_X9 0 rfl rfl 0 (by decide) (by decide +kernel) rfl dX9_pourFault_90 ?_
                    refine j_iload_n (pc := 93) X dX9_pourFault_93 rfl 3 rfl ?_
                    refine j_aldq (pc := 94) X 1 rfl (vp_in_nI (by omega) (by omega)) (v := tA 1) ((congrArg (tyF tA) (nI_clamp (by decide))).trans rfl) dX9_pourFault_94 ?_
                    refine j_iload (pc := 95) X dX9_pourFault_95 4 rfl ?_
                    refine j_iload (pc := 97) X dX9_pourFault_97 5 rfl ?_
                    refine j_ciP (pc := 99) X [3] rfl (j_rVN X (b := tA 1) (As := [.int j, .int m]) (ci := 7) (rest := []) 2 (mX7_hasPlaces l G (tA 1) (nA 1) (ms 1) (so 1) (ln 1) j m ) gX9_pourFault_X7_hasPlaces_n269 rfl rfl rfl (by decide +kernel) (by decide +kernel) (by decide +kernel) (by decide +kernel) (by decide +kernel) ⟨Nat.le_of_ble_eq_true rfl, Nat.le_of_ble_eq_true rfl⟩ rfl rfl 0 rfl [3] rfl rfl rfl (Nat.le_of_ble_eq_true rfl) dX9_pourFault_99 ⟨Nat.le_of_ble_eq_true rfl, Nat.le_of_ble_eq_true rfl⟩) ?_
                    refine j_ifb_eq (pc := 102) X (B := hasP j m (ln 1)) (tgt := 109) dX9_pourFault_102 (by decide) (fun c_102 => ?_) (fun c_102 => ?_)
                    · skip
                      refine j_iconst (pc := 109) X (v := nI 0) dX9_pourFault_109 (by decide) ?_
                      refine j_istore (pc := 110) X (lv' := [(6, .int (nI 0)), (0, .ref qx), (1, .int (nI 0)), (2, .int i), (3, .int (nI 1)), (4, .int j), (5, .int m)]) dX9_pourFault_110 (by decide) rfl ?_
                      refine j_iload (pc := 112) X dX9_pourFault_112 0 rfl ?_
                      refine j_ifN_eq (pc := 114) X (a := 0) (by first | omega | exact Nat.lt_of_lt_of_le (hso _) (by decide)) (tgt := 121) dX9_pourFault_114 (by decide) (fun c_114 => ?_) (fun c_114 => ?_)
                      · skip
                        refine j_iconst (pc := 121) X (v := nI 4) dX9_pourFault_121 (by decide) ?_
                        exact j_iret (pc := 122) X dX9_pourFault_122 ⟨by first | (simp [poG, tN, cl0, cl1, cl2, cl3, c_4, c_11, c_25, c_37, c_60, c_68, c_86, c_102, c_114]; done) | exact absurd rfl c_60 | (rw [c_25] at c_37; exact absurd c_37 (by decide)), by first | (simp [poG, tN, cl0, cl1, cl2, cl3, c_4, c_11, c_25, c_37, c_60, c_68, c_86, c_102, c_114]; done) | exact absurd rfl c_60 | (rw [c_25] at c_37; exact absurd c_37 (by decide))⟩
                      · skip
                        exact absurd c_114 (by decide)
                    · skip
                      refine j_iconst (pc := 105) X (v := nI 1) dX9_pourFault_105 (by decide) ?_
                      refine j_goto (pc := 106) X (tgt := 110) dX9_pourFault_106 (by decide) ?_
                      refine j_istore (pc := 110) X (lv' := [(6, .int (nI 1)), (0, .ref qx), (1, .int (nI 0)), (2, .int i), (3, .int (nI 1)), (4, .int j), (5, .int m)]) dX9_pourFault_110 (by decide) rfl ?_
                      refine j_iload (pc := 112) X dX9_pourFault_112 0 rfl ?_
                      refine j_ifN_eq (pc := 114) X (a := 1) (by first | omega | exact Nat.lt_of_lt_of_le (hso _) (by decide)) (tgt := 121) dX9_pourFault_114 (by decide) (fun c_114 => ?_) (fun c_114 => ?_)
                      · skip
                        exact absurd c_114 (by decide)
                      · skip
                        refine j_iconst (pc := 117) X (v := nI 0) dX9_pourFault_117 (by decide) ?_
                        refine j_goto (pc := 118) X (tgt := 122) dX9_pourFault_118 (by decide) ?_
                        exact j_iret (pc := 122) X dX9_pourFault_122 ⟨by first | (simp [poG, tN, cl0, cl1, cl2, cl3, c_4, c_11, c_25, c_37, c_60, c_68, c_86, c_102, c_114]; done) | exact absurd rfl c_60 | (rw [c_25] at c_37; exact absurd c_37 (by decide)), by first | (simp [poG, tN, cl0, cl1, cl2, cl3, c_4, c_11, c_25, c_37, c_60, c_68, c_86, c_102, c_114]; done) | exact absurd rfl c_60 | (rw [c_25] at c_37; exact absurd c_37 (by decide))⟩
                · skip
                  refine j_bipush (pc := 71) X (v := nI 6) dX9_pourFault_71 (by decide) ?_
                  exact j_iret (pc := 73) X dX9_pourFault_73 ⟨by first | (simp [poG, tN, cl0, cl1, cl2, cl3, c_4, c_11, c_25, c_37, c_60, c_68]; done) | exact absurd rfl c_60 | (rw [c_25] at c_37; exact absurd c_37 (by decide)), rfl⟩
              · skip
                refine j_bipush (pc := 63) X (v := nI 11) dX9_pourFault_63 (by decide) ?_
                exact j_iret (pc := 65) X dX9_pourFault_65 ⟨by first | (simp [poG, tN, cl0, cl1, cl2, cl3, c_4, c_11, c_25, c_37, c_60]; done) | exact absurd rfl c_60 | (rw [c_25] at c_37; exact absurd c_37 (by decide)), rfl⟩
            · skip
              refine j_iconst (pc := 40) X (v := nI 3) dX9_pourFault_40 (by decide) ?_
              exact j_iret (pc := 41) X dX9_pourFault_41 ⟨by first | (simp [poG, tN, cl0, cl1, cl2, cl3, c_4, c_11, c_25, c_37]; done) | exact absurd rfl c_60 | (rw [c_25] at c_37; exact absurd c_37 (by decide)), rfl⟩
        · skip
          refine j_aload_n (pc := 16) X dX9_pourFault_16 rfl 0 rfl ?_
          refine j_get (pc := 17) X 9 i_X9 0 rfl rfl 0 (by decide) (by decide +kernel) rfl dX9_pourFault_17 ?_
          refine j_iload_n (pc := 20) X dX9_pourFault_20 rfl 1 rfl ?_
          refine j_aldq (pc := 21) X 1 rfl (vp_in_nI (by omega) (by omega)) (v := tA 0) ((congrArg (tyF tA) (nI_clamp (by decide))).trans rfl) dX9_pourFault_21 ?_
          refine j_getN (pc := 22) X 7 i_X7 2 rfl rfl 1 (by decide) (by decide +kernel) rfl dX9_pourFault_22 ?_
          refine j_ifb_ne (pc := 25) X (B := ms 0) (tgt := 40) dX9_pourFault_25 (by decide) (fun c_25 => ?_) (fun c_25 => ?_)
          · skip
            refine j_iconst (pc := 40) X (v := nI 3) dX9_pourFault_40 (by decide) ?_
            exact j_iret (pc := 41) X dX9_pourFault_41 ⟨by first | (simp [poG, tN, cl0, cl1, cl2, cl3, c_4, c_11, c_25]; done) | exact absurd rfl c_60 | (rw [c_25] at c_37; exact absurd c_37 (by decide)), rfl⟩
          · skip
            refine j_aload_n (pc := 28) X dX9_pourFault_28 rfl 0 rfl ?_
            refine j_get (pc := 29) X 9 i_X9 0 rfl rfl 0 (by decide) (by decide +kernel) rfl dX9_pourFault_29 ?_
            refine j_iload_n (pc := 32) X dX9_pourFault_32 rfl 3 rfl ?_
            refine j_aldq (pc := 33) X 1 rfl (vp_in_nI (by omega) (by omega)) (v := tA 2) ((congrArg (tyF tA) (nI_clamp (by decide))).trans rfl) dX9_pourFault_33 ?_
            refine j_getN (pc := 34) X 7 i_X7 4 rfl rfl 1 (by decide) (by decide +kernel) rfl dX9_pourFault_34 ?_
            refine j_ifb_eq (pc := 37) X (B := ms 2) (tgt := 42) dX9_pourFault_37 (by decide) (fun c_37 => ?_) (fun c_37 => ?_)
            · skip
              refine j_aload_n (pc := 42) X dX9_pourFault_42 rfl 0 rfl ?_
              refine j_get (pc := 43) X 9 i_X9 0 rfl rfl 0 (by decide) (by decide +kernel) rfl dX9_pourFault_43 ?_
              refine j_iload_n (pc := 46) X dX9_pourFault_46 rfl 1 rfl ?_
              refine j_aldq (pc := 47) X 1 rfl (vp_in_nI (by omega) (by omega)) (v := tA 0) ((congrArg (tyF tA) (nI_clamp (by decide))).trans rfl) dX9_pourFault_47 ?_
              refine j_getN (pc := 48) X 7 i_X7 2 rfl rfl 2 (by decide) (by decide +kernel) rfl dX9_pourFault_48 ?_
              refine j_aload_n (pc := 51) X dX9_pourFault_51 rfl 0 rfl ?_
              refine j_get (pc := 52) X 9 i_X9 0 rfl rfl 0 (by decide) (by decide +kernel) rfl dX9_pourFault_52 ?_
              refine j_iload_n (pc := 55) X dX9_pourFault_55 rfl 3 rfl ?_
              refine j_aldq (pc := 56) X 1 rfl (vp_in_nI (by omega) (by omega)) (v := tA 2) ((congrArg (tyF tA) (nI_clamp (by decide))).trans rfl) dX9_pourFault_56 ?_
              refine j_getN (pc := 57) X 7 i_X7 4 rfl rfl 2 (by decide) (by decide +kernel) rfl dX9_pourFault_57 ?_
              refine j_icmpN_eq (pc := 60) X (a := (so 0)) (b := (so 2)) (by first | omega | exact Nat.lt_of_lt_of_le (hso _) (by decide)) (by first | omega | exact Nat.lt_of_lt_of_le (hso _) (by decide)) (tgt := 66) dX9_pourFault_60 (by decide) (fun c_60 => ?_) (fun c_60 => ?_)
              · skip
                refine j_iload (pc := 66) X dX9_pourFault_66 5 rfl ?_
                refine j_if_ge (pc := 68) X (x := m) (tgt := 74) dX9_pourFault_68 (by decide) (fun c_68 => ?_) (fun c_68 => ?_)
                · skip
                  refine j_aload_n (pc := 74) X dX9_pourFault_74 rfl 0 rfl ?_
                  refine j_get (pc := 75) X 9 i_X9 0 rfl rfl 0 (by decide) (by decide +kernel) rfl dX9_pourFault_75 ?_
                  refine j_iload_n (pc := 78) X dX9_pourFault_78 rfl 1 rfl ?_
                  refine j_aldq (pc := 79) X 1 rfl (vp_in_nI (by omega) (by omega)) (v := tA 0) ((congrArg (tyF tA) (nI_clamp (by decide))).trans rfl) dX9_pourFault_79 ?_
                  refine j_iload_n (pc := 80) X dX9_pourFault_80 rfl 2 rfl ?_
                  refine j_iload (pc := 81) X dX9_pourFault_81 5 rfl ?_
                  refine j_ciP (pc := 83) X [2] rfl (j_rVN X (b := tA 0) (As := [.int i, .int m]) (ci := 7) (rest := []) 2 (mX7_hasPlaces l G (tA 0) (nA 0) (ms 0) (so 0) (ln 0) i m ) gX9_pourFault_X7_hasPlaces_n269 rfl rfl rfl (by decide +kernel) (by decide +kernel) (by decide +kernel) (by decide +kernel) (by decide +kernel) ⟨Nat.le_of_ble_eq_true rfl, Nat.le_of_ble_eq_true rfl⟩ rfl rfl 0 rfl [2] rfl rfl rfl (Nat.le_of_ble_eq_true rfl) dX9_pourFault_83 ⟨Nat.le_of_ble_eq_true rfl, Nat.le_of_ble_eq_true rfl⟩) ?_
                  refine j_ifb_eq (pc := 86) X (B := hasP i m (ln 0)) (tgt := 109) dX9_pourFault_86 (by decide) (fun c_86 => ?_) (fun c_86 => ?_)
                  · skip
                    refine j_iconst (pc := 109) X (v := nI 0) dX9_pourFault_109 (by decide) ?_
                    refine j_istore (pc := 110) X (lv' := [(6, .int (nI 0)), (0, .ref qx), (1, .int (nI 0)), (2, .int i), (3, .int (nI 2)), (4, .int j), (5, .int m)]) dX9_pourFault_110 (by decide) rfl ?_
                    refine j_iload (pc := 112) X dX9_pourFault_112 0 rfl ?_
                    refine j_ifN_eq (pc := 114) X (a := 0) (by first | omega | exact Nat.lt_of_lt_of_le (hso _) (by decide)) (tgt := 121) dX9_pourFault_114 (by decide) (fun c_114 => ?_) (fun c_114 => ?_)
                    · skip
                      refine j_iconst (pc := 121) X (v := nI 4) dX9_pourFault_121 (by decide) ?_
                      exact j_iret (pc := 122) X dX9_pourFault_122 ⟨by first | (simp [poG, tN, cl0, cl1, cl2, cl3, c_4, c_11, c_25, c_37, c_60, c_68, c_86, c_114]; done) | exact absurd rfl c_60 | (rw [c_25] at c_37; exact absurd c_37 (by decide)), by first | (simp [poG, tN, cl0, cl1, cl2, cl3, c_4, c_11, c_25, c_37, c_60, c_68, c_86, c_114]; done) | exact absurd rfl c_60 | (rw [c_25] at c_37; exact absurd c_37 (by decide))⟩
                    · skip
                      exact absurd c_114 (by decide)
                  · skip
                    refine j_aload_n (pc := 89) X dX9_pourFault_89 rfl 0 rfl ?_
                    refine j_get (pc := 90) X 9 i_X9 0 rfl rfl 0 (by decide) (by decide +kernel) rfl dX9_pourFault_90 ?_
                    refine j_iload_n (pc := 93) X dX9_pourFault_93 rfl 3 rfl ?_
                    refine j_aldq (pc := 94) X 1 rfl (vp_in_nI (by omega) (by omega)) (v := tA 2) ((congrArg (tyF tA) (nI_clamp (by decide))).trans rfl) dX9_pourFault_94 ?_
                    refine j_iload (pc := 95) X dX9_pourFault_95 4 rfl ?_
                    refine j_iload (pc := 97) X dX9_pourFault_97 5 rfl ?_
                    refine j_ciP (pc := 99) X [4] rfl (j_rVN X (b := tA 2) (As := [.int j, .int m]) (ci := 7) (rest := []) 2 (mX7_hasPlaces l G (tA 2) (nA 2) (ms 2) (so 2) (ln 2) j m ) gX9_pourFault_X7_hasPlaces_n269 rfl rfl rfl (by decide +kernel) (by decide +kernel) (by decide +kernel) (by decide +kernel) (by decide +kernel) ⟨Nat.le_of_ble_eq_true rfl, Nat.le_of_ble_eq_true rfl⟩ rfl rfl 0 rfl [4] rfl rfl rfl (Nat.le_of_ble_eq_true rfl) dX9_pourFault_99 ⟨Nat.le_of_ble_eq_true rfl, Nat.le_of_ble_eq_true rfl⟩) ?_
                    refine j_ifb_eq (pc := 102) X (B := hasP j m (ln 2)) (tgt := 109) dX9_pourFault_102 (by decide) (fun c_102 => ?_) (fun c_102 => ?_)
                    · skip
                      refine j_iconst (pc := 109) X (v := nI 0) dX9_pourFault_109 (by decide) ?_
                      refine j_istore (pc := 110) X (lv' := [(6, .int (nI 0)), (0, .ref qx), (1, .int (nI 0)), (2, .int i), (3, .int (nI 2)), (4, .int j), (5, .int m)]) dX9_pourFault_110 (by decide) rfl ?_
                      refine j_iload (pc := 112) X dX9_pourFault_112 0 rfl ?_
                      refine j_ifN_eq (pc := 114) X (a := 0) (by first | omega | exact Nat.lt_of_lt_of_le (hso _) (by decide)) (tgt := 121) dX9_pourFault_114 (by decide) (fun c_114 => ?_) (fun c_114 => ?_)
                      · skip
                        refine j_iconst (pc := 121) X (v := nI 4) dX9_pourFault_121 (by decide) ?_
                        exact j_iret (pc := 122) X dX9_pourFault_122 ⟨by first | (simp [poG, tN, cl0, cl1, cl2, cl3, c_4, c_11, c_25, c_37, c_60, c_68, c_86, c_102, c_114]; done) | exact absurd rfl c_60 | (rw [c_25] at c_37; exact absurd c_37 (by decide)), by first | (simp [poG, tN, cl0, cl1, cl2, cl3, c_4, c_11, c_25, c_37, c_60, c_68, c_86, c_102, c_114]; done) | exact absurd rfl c_60 | (rw [c_25] at c_37; exact absurd c_37 (by decide))⟩
                      · skip
                        exact absurd c_114 (by decide)
                    · skip
                      refine j_iconst (pc := 105) X (v := nI 1) dX9_pourFault_105 (by decide) ?_
                      refine j_goto (pc := 106) X (tgt := 110) dX9_pourFault_106 (by decide) ?_
                      refine j_istore (pc := 110) X (lv' := [(6, .int (nI 1)), (0, .ref qx), (1, .int (nI 0)), (2, .int i), (3, .int (nI 2)), (4, .int j), (5, .int m)]) dX9_pourFault_110 (by decide) rfl ?_
                      refine j_iload (pc := 112) X dX9_pourFault_112 0 rfl ?_
                      refine j_ifN_eq (pc := 114) X (a := 1) (by first | omega | exact Nat.lt_of_lt_of_le (hso _) (by decide)) (tgt := 121) dX9_pourFault_114 (by decide) (fun c_114 => ?_) (fun c_114 => ?_)
                      · skip
                        exact absurd c_114 (by decide)
                      · skip
                        refine j_iconst (pc := 117) X (v := nI 0) dX9_pourFault_117 (by decide) ?_
                        refine j_goto (pc := 118) X (tgt := 122) dX9_pourFault_118 (by decide) ?_
                        exact j_iret (pc := 122) X dX9_pourFault_122 ⟨by first | (simp [poG, tN, cl0, cl1, cl2, cl3, c_4, c_11, c_25, c_37, c_60, c_68, c_86, c_102, c_114]; done) | exact absurd rfl c_60 | (rw [c_25] at c_37; exact absurd c_37 (by decide)), by first | (simp [poG, tN, cl0, cl1, cl2, cl3, c_4, c_11, c_25, c_37, c_60, c_68, c_86, c_102, c_114]; done) | exact absurd rfl c_60 | (rw [c_25] at c_37; exact absurd c_37 (by decide))⟩
                · skip
                  refine j_bipush (pc := 71) X (v := nI 6) dX9_pourFault_71 (by decide) ?_
                  exact j_iret (pc := 73) X dX9_pourFault_73 ⟨by first | (simp [poG, tN, cl0, cl1, cl2, cl3, c_4, c_11, c_25, c_37, c_60, c_68]; done) | exact absurd rfl c_60 | (rw [c_25] at c_37; exact absurd c_37 (by decide)), rfl⟩
              · skip
                refine j_bipush (pc := 63) X (v := nI 11) dX9_pourFault_63 (by decide) ?_
                exact j_iret (pc := 65) X dX9_pourFault_65 ⟨by first | (simp [poG, tN, cl0, cl1, cl2, cl3, c_4, c_11, c_25, c_37, c_60]; done) | exact absurd rfl c_60 | (rw [c_25] at c_37; exact absurd c_37 (by decide)), rfl⟩
            · skip
              refine j_iconst (pc := 40) X (v := nI 3) dX9_pourFault_40 (by decide) ?_
              exact j_iret (pc := 41) X dX9_pourFault_41 ⟨by first | (simp [poG, tN, cl0, cl1, cl2, cl3, c_4, c_11, c_25, c_37]; done) | exact absurd rfl c_60 | (rw [c_25] at c_37; exact absurd c_37 (by decide)), rfl⟩
        · skip
          refine j_aload_n (pc := 16) X dX9_pourFault_16 rfl 0 rfl ?_
          refine j_get (pc := 17) X 9 i_X9 0 rfl rfl 0 (by decide) (by decide +kernel) rfl dX9_pourFault_17 ?_
          refine j_iload_n (pc := 20) X dX9_pourFault_20 rfl 1 rfl ?_
          refine j_aldq (pc := 21) X 1 rfl (vp_in_nI (by omega) (by omega)) (v := tA 0) ((congrArg (tyF tA) (nI_clamp (by decide))).trans rfl) dX9_pourFault_21 ?_
          refine j_getN (pc := 22) X 7 i_X7 2 rfl rfl 1 (by decide) (by decide +kernel) rfl dX9_pourFault_22 ?_
          refine j_ifb_ne (pc := 25) X (B := ms 0) (tgt := 40) dX9_pourFault_25 (by decide) (fun c_25 => ?_) (fun c_25 => ?_)
          · skip
            refine j_iconst (pc := 40) X (v := nI 3) dX9_pourFault_40 (by decide) ?_
            exact j_iret (pc := 41) X dX9_pourFault_41 ⟨by first | (simp [poG, tN, cl0, cl1, cl2, cl3, c_4, c_11, c_25]; done) | exact absurd rfl c_60 | (rw [c_25] at c_37; exact absurd c_37 (by decide)), rfl⟩
          · skip
            refine j_aload_n (pc := 28) X dX9_pourFault_28 rfl 0 rfl ?_
            refine j_get (pc := 29) X 9 i_X9 0 rfl rfl 0 (by decide) (by decide +kernel) rfl dX9_pourFault_29 ?_
            refine j_iload_n (pc := 32) X dX9_pourFault_32 rfl 3 rfl ?_
            refine j_aldq (pc := 33) X 1 rfl (vp_in_nI (by omega) (by omega)) (v := tA 3) ((congrArg (tyF tA) (nI_clamp (by decide))).trans rfl) dX9_pourFault_33 ?_
            refine j_getN (pc := 34) X 7 i_X7 5 rfl rfl 1 (by decide) (by decide +kernel) rfl dX9_pourFault_34 ?_
            refine j_ifb_eq (pc := 37) X (B := ms 3) (tgt := 42) dX9_pourFault_37 (by decide) (fun c_37 => ?_) (fun c_37 => ?_)
            · skip
              refine j_aload_n (pc := 42) X dX9_pourFault_42 rfl 0 rfl ?_
              refine j_get (pc := 43) X 9 i_X9 0 rfl rfl 0 (by decide) (by decide +kernel) rfl dX9_pourFault_43 ?_
              refine j_iload_n (pc := 46) X dX9_pourFault_46 rfl 1 rfl ?_
              refine j_aldq (pc := 47) X 1 rfl (vp_in_nI (by omega) (by omega)) (v := tA 0) ((congrArg (tyF tA) (nI_clamp (by decide))).trans rfl) dX9_pourFault_47 ?_
              refine j_getN (pc := 48) X 7 i_X7 2 rfl rfl 2 (by decide) (by decide +kernel) rfl dX9_pourFault_48 ?_
              refine j_aload_n (pc := 51) X dX9_pourFault_51 rfl 0 rfl ?_
              refine j_get (pc := 52) X 9 i_X9 0 rfl rfl 0 (by decide) (by decide +kernel) rfl dX9_pourFault_52 ?_
              refine j_iload_n (pc := 55) X dX9_pourFault_55 rfl 3 rfl ?_
              refine j_aldq (pc := 56) X 1 rfl (vp_in_nI (by omega) (by omega)) (v := tA 3) ((congrArg (tyF tA) (nI_clamp (by decide))).trans rfl) dX9_pourFault_56 ?_
              refine j_getN (pc := 57) X 7 i_X7 5 rfl rfl 2 (by decide) (by decide +kernel) rfl dX9_pourFault_57 ?_
              refine j_icmpN_eq (pc := 60) X (a := (so 0)) (b := (so 3)) (by first | omega | exact Nat.lt_of_lt_of_le (hso _) (by decide)) (by first | omega | exact Nat.lt_of_lt_of_le (hso _) (by decide)) (tgt := 66) dX9_pourFault_60 (by decide) (fun c_60 => ?_) (fun c_60 => ?_)
              · skip
                refine j_iload (pc := 66) X dX9_pourFault_66 5 rfl ?_
                refine j_if_ge (pc := 68) X (x := m) (tgt := 74) dX9_pourFault_68 (by decide) (fun c_68 => ?_) (fun c_68 => ?_)
                · skip
                  refine j_aload_n (pc := 74) X dX9_pourFault_74 rfl 0 rfl ?_
                  refine j_get (pc := 75) X 9 i_X9 0 rfl rfl 0 (by decide) (by decide +kernel) rfl dX9_pourFault_75 ?_
                  refine j_iload_n (pc := 78) X dX9_pourFault_78 rfl 1 rfl ?_
                  refine j_aldq (pc := 79) X 1 rfl (vp_in_nI (by omega) (by omega)) (v := tA 0) ((congrArg (tyF tA) (nI_clamp (by decide))).trans rfl) dX9_pourFault_79 ?_
                  refine j_iload_n (pc := 80) X dX9_pourFault_80 rfl 2 rfl ?_
                  refine j_iload (pc := 81) X dX9_pourFault_81 5 rfl ?_
                  refine j_ciP (pc := 83) X [2] rfl (j_rVN X (b := tA 0) (As := [.int i, .int m]) (ci := 7) (rest := []) 2 (mX7_hasPlaces l G (tA 0) (nA 0) (ms 0) (so 0) (ln 0) i m ) gX9_pourFault_X7_hasPlaces_n269 rfl rfl rfl (by decide +kernel) (by decide +kernel) (by decide +kernel) (by decide +kernel) (by decide +kernel) ⟨Nat.le_of_ble_eq_true rfl, Nat.le_of_ble_eq_true rfl⟩ rfl rfl 0 rfl [2] rfl rfl rfl (Nat.le_of_ble_eq_true rfl) dX9_pourFault_83 ⟨Nat.le_of_ble_eq_true rfl, Nat.le_of_ble_eq_true rfl⟩) ?_
                  refine j_ifb_eq (pc := 86) X (B := hasP i m (ln 0)) (tgt := 109) dX9_pourFault_86 (by decide) (fun c_86 => ?_) (fun c_86 => ?_)
                  · skip
                    refine j_iconst (pc := 109) X (v := nI 0) dX9_pourFault_109 (by decide) ?_
                    refine j_istore (pc := 110) X (lv' := [(6, .int (nI 0)), (0, .ref qx), (1, .int (nI 0)), (2, .int i), (3, .int (nI 3)), (4, .int j), (5, .int m)]) dX9_pourFault_110 (by decide) rfl ?_
                    refine j_iload (pc := 112) X dX9_pourFault_112 0 rfl ?_
                    refine j_ifN_eq (pc := 114) X (a := 0) (by first | omega | exact Nat.lt_of_lt_of_le (hso _) (by decide)) (tgt := 121) dX9_pourFault_114 (by decide) (fun c_114 => ?_) (fun c_114 => ?_)
                    · skip
                      refine j_iconst (pc := 121) X (v := nI 4) dX9_pourFault_121 (by decide) ?_
                      exact j_iret (pc := 122) X dX9_pourFault_122 ⟨by first | (simp [poG, tN, cl0, cl1, cl2, cl3, c_4, c_11, c_25, c_37, c_60, c_68, c_86, c_114]; done) | exact absurd rfl c_60 | (rw [c_25] at c_37; exact absurd c_37 (by decide)), by first | (simp [poG, tN, cl0, cl1, cl2, cl3, c_4, c_11, c_25, c_37, c_60, c_68, c_86, c_114]; done) | exact absurd rfl c_60 | (rw [c_25] at c_37; exact absurd c_37 (by decide))⟩
                    · skip
                      exact absurd c_114 (by decide)
                  · skip
                    refine j_aload_n (pc := 89) X dX9_pourFault_89 rfl 0 rfl ?_
                    refine j_get (pc := 90) X 9 i_X9 0 rfl rfl 0 (by decide) (by decide +kernel) rfl dX9_pourFault_90 ?_
                    refine j_iload_n (pc := 93) X dX9_pourFault_93 rfl 3 rfl ?_
                    refine j_aldq (pc := 94) X 1 rfl (vp_in_nI (by omega) (by omega)) (v := tA 3) ((congrArg (tyF tA) (nI_clamp (by decide))).trans rfl) dX9_pourFault_94 ?_
                    refine j_iload (pc := 95) X dX9_pourFault_95 4 rfl ?_
                    refine j_iload (pc := 97) X dX9_pourFault_97 5 rfl ?_
                    refine j_ciP (pc := 99) X [5] rfl (j_rVN X (b := tA 3) (As := [.int j, .int m]) (ci := 7) (rest := []) 2 (mX7_hasPlaces l G (tA 3) (nA 3) (ms 3) (so 3) (ln 3) j m ) gX9_pourFault_X7_hasPlaces_n269 rfl rfl rfl (by decide +kernel) (by decide +kernel) (by decide +kernel) (by decide +kernel) (by decide +kernel) ⟨Nat.le_of_ble_eq_true rfl, Nat.le_of_ble_eq_true rfl⟩ rfl rfl 0 rfl [5] rfl rfl rfl (Nat.le_of_ble_eq_true rfl) dX9_pourFault_99 ⟨Nat.le_of_ble_eq_true rfl, Nat.le_of_ble_eq_true rfl⟩) ?_
                    refine j_ifb_eq (pc := 102) X (B := hasP j m (ln 3)) (tgt := 109) dX9_pourFault_102 (by decide) (fun c_102 => ?_) (fun c_102 => ?_)
                    · skip
                      refine j_iconst (pc := 109) X (v := nI 0) dX9_pourFault_109 (by decide) ?_
                      refine j_istore (pc := 110) X (lv' := [(6, .int (nI 0)), (0, .ref qx), (1, .int (nI 0)), (2, .int i), (3, .int (nI 3)), (4, .int j), (5, .int m)]) dX9_pourFault_110 (by decide) rfl ?_
                      refine j_iload (pc := 112) X dX9_pourFault_112 0 rfl ?_
                      refine j_ifN_eq (pc := 114) X (a := 0) (by first | omega | exact Nat.lt_of_lt_of_le (hso _) (by decide)) (tgt := 121) dX9_pourFault_114 (by decide) (fun c_114 => ?_) (fun c_114 => ?_)
                      · skip
                        refine j_iconst (pc := 121) X (v := nI 4) dX9_pourFault_121 (by decide) ?_
                        exact j_iret (pc := 122) X dX9_pourFault_122 ⟨by first | (simp [poG, tN, cl0, cl1, cl2, cl3, c_4, c_11, c_25, c_37, c_60, c_68, c_86, c_102, c_114]; done) | exact absurd rfl c_60 | (rw [c_25] at c_37; exact absurd c_37 (by decide)), by first | (simp [poG, tN, cl0, cl1, cl2, cl3, c_4, c_11, c_25, c_37, c_60, c_68, c_86, c_102, c_114]; done) | exact absurd rfl c_60 | (rw [c_25] at c_37; exact absurd c_37 (by decide))⟩
                      · skip
                        exact absurd c_114 (by decide)
                    · skip
                      refine j_iconst (pc := 105) X (v := nI 1) dX9_pourFault_105 (by decide) ?_
                      refine j_goto (pc := 106) X (tgt := 110) dX9_pourFault_106 (by decide) ?_
                      refine j_istore (pc := 110) X (lv' := [(6, .int (nI 1)), (0, .ref qx), (1, .int (nI 0)), (2, .int i), (3, .int (nI 3)), (4, .int j), (5, .int m)]) dX9_pourFault_110 (by decide) rfl ?_
                      refine j_iload (pc := 112) X dX9_pourFault_112 0 rfl ?_
                      refine j_ifN_eq (pc := 114) X (a := 1) (by first | omega | exact Nat.lt_of_lt_of_le (hso _) (by decide)) (tgt := 121) dX9_pourFault_114 (by decide) (fun c_114 => ?_) (fun c_114 => ?_)
                      · skip
                        exact absurd c_114 (by decide)
                      · skip
                        refine j_iconst (pc := 117) X (v := nI 0) dX9_pourFault_117 (by decide) ?_
                        refine j_goto (pc := 118) X (tgt := 122) dX9_pourFault_118 (by decide) ?_
                        exact j_iret (pc := 122) X dX9_pourFault_122 ⟨by first | (simp [poG, tN, cl0, cl1, cl2, cl3, c_4, c_11, c_25, c_37, c_60, c_68, c_86, c_102, c_114]; done) | exact absurd rfl c_60 | (rw [c_25] at c_37; exact absurd c_37 (by decide)), by first | (simp [poG, tN, cl0, cl1, cl2, cl3, c_4, c_11, c_25, c_37, c_60, c_68, c_86, c_102, c_114]; done) | exact absurd rfl c_60 | (rw [c_25] at c_37; exact absurd c_37 (by decide))⟩
                · skip
                  refine j_bipush (pc := 71) X (v := nI 6) dX9_pourFault_71 (by decide) ?_
                  exact j_iret (pc := 73) X dX9_pourFault_73 ⟨by first | (simp [poG, tN, cl0, cl1, cl2, cl3, c_4, c_11, c_25, c_37, c_60, c_68]; done) | exact absurd rfl c_60 | (rw [c_25] at c_37; exact absurd c_37 (by decide)), rfl⟩
              · skip
                refine j_bipush (pc := 63) X (v := nI 11) dX9_pourFault_63 (by decide) ?_
                exact j_iret (pc := 65) X dX9_pourFault_65 ⟨by first | (simp [poG, tN, cl0, cl1, cl2, cl3, c_4, c_11, c_25, c_37, c_60]; done) | exact absurd rfl c_60 | (rw [c_25] at c_37; exact absurd c_37 (by decide)), rfl⟩
            · skip
              refine j_iconst (pc := 40) X (v := nI 3) dX9_pourFault_40 (by decide) ?_
              exact j_iret (pc := 41) X dX9_pourFault_41 ⟨by first | (simp [poG, tN, cl0, cl1, cl2, cl3, c_4, c_11, c_25, c_37]; done) | exact absurd rfl c_60 | (rw [c_25] at c_37; exact absurd c_37 (by decide)), rfl⟩
      · skip
        refine j_iconst (pc := 14) X (v := nI 1) dX9_pourFault_14 (by decide) ?_
        exact j_iret (pc := 15) X dX9_pourFault_15 ⟨by first | (simp [poG, tN, cl0, cl1, cl2, cl3, c_4, c_11]; done) | exact absurd rfl c_60 | (rw [c_25] at c_37; exact absurd c_37 (by decide)), rfl⟩
    · skip
      refine j_iload_n (pc := 7) X dX9_pourFault_7 rfl 3 rfl ?_
      refine j_ciP (pc := 8) X [] rfl (j_rS X (As := [.int to_]) (rest := []) 1 (mX9_isTray l G to_ ) gX9_pourFault_X9_isTray rfl rfl rfl (by decide +kernel) ⟨Nat.le_of_ble_eq_true rfl, Nat.le_of_ble_eq_true rfl⟩ rfl [] rfl rfl rfl (Nat.le_of_ble_eq_true rfl) dX9_pourFault_8 ⟨Nat.le_of_ble_eq_true rfl, Nat.le_of_ble_eq_true rfl⟩) ?_
      refine j_ifb_ne (pc := 11) X (B := inR to_ 4) (tgt := 16) dX9_pourFault_11 (by decide) (fun c_11 => ?_) (fun c_11 => ?_)
      · skip
        obtain ⟨b, hb, rfl⟩ := inR_of c_11 (by decide); rcases (by omega : b = 0 ∨ b = 1 ∨ b = 2 ∨ b = 3) with rfl | rfl | rfl | rfl
        · skip
          refine j_aload_n (pc := 16) X dX9_pourFault_16 rfl 0 rfl ?_
          refine j_get (pc := 17) X 9 i_X9 0 rfl rfl 0 (by decide) (by decide +kernel) rfl dX9_pourFault_17 ?_
          refine j_iload_n (pc := 20) X dX9_pourFault_20 rfl 1 rfl ?_
          refine j_aldq (pc := 21) X 1 rfl (vp_in_nI (by omega) (by omega)) (v := tA 1) ((congrArg (tyF tA) (nI_clamp (by decide))).trans rfl) dX9_pourFault_21 ?_
          refine j_getN (pc := 22) X 7 i_X7 3 rfl rfl 1 (by decide) (by decide +kernel) rfl dX9_pourFault_22 ?_
          refine j_ifb_ne (pc := 25) X (B := ms 1) (tgt := 40) dX9_pourFault_25 (by decide) (fun c_25 => ?_) (fun c_25 => ?_)
          · skip
            refine j_iconst (pc := 40) X (v := nI 3) dX9_pourFault_40 (by decide) ?_
            exact j_iret (pc := 41) X dX9_pourFault_41 ⟨by first | (simp [poG, tN, cl0, cl1, cl2, cl3, c_4, c_11, c_25]; done) | exact absurd rfl c_60 | (rw [c_25] at c_37; exact absurd c_37 (by decide)), rfl⟩
          · skip
            refine j_aload_n (pc := 28) X dX9_pourFault_28 rfl 0 rfl ?_
            refine j_get (pc := 29) X 9 i_X9 0 rfl rfl 0 (by decide) (by decide +kernel) rfl dX9_pourFault_29 ?_
            refine j_iload_n (pc := 32) X dX9_pourFault_32 rfl 3 rfl ?_
            refine j_aldq (pc := 33) X 1 rfl (vp_in_nI (by omega) (by omega)) (v := tA 0) ((congrArg (tyF tA) (nI_clamp (by decide))).trans rfl) dX9_pourFault_33 ?_
            refine j_getN (pc := 34) X 7 i_X7 2 rfl rfl 1 (by decide) (by decide +kernel) rfl dX9_pourFault_34 ?_
            refine j_ifb_eq (pc := 37) X (B := ms 0) (tgt := 42) dX9_pourFault_37 (by decide) (fun c_37 => ?_) (fun c_37 => ?_)
            · skip
              refine j_aload_n (pc := 42) X dX9_pourFault_42 rfl 0 rfl ?_
              refine j_get (pc := 43) X 9 i_X9 0 rfl rfl 0 (by decide) (by decide +kernel) rfl dX9_pourFault_43 ?_
              refine j_iload_n (pc := 46) X dX9_pourFault_46 rfl 1 rfl ?_
              refine j_aldq (pc := 47) X 1 rfl (vp_in_nI (by omega) (by omega)) (v := tA 1) ((congrArg (tyF tA) (nI_clamp (by decide))).trans rfl) dX9_pourFault_47 ?_
              refine j_getN (pc := 48) X 7 i_X7 3 rfl rfl 2 (by decide) (by decide +kernel) rfl dX9_pourFault_48 ?_
              refine j_aload_n (pc := 51) X dX9_pourFault_51 rfl 0 rfl ?_
              refine j_get (pc := 52) X 9 i_X9 0 rfl rfl 0 (by decide) (by decide +kernel) rfl dX9_pourFault_52 ?_
              refine j_iload_n (pc := 55) X dX9_pourFault_55 rfl 3 rfl ?_
              refine j_aldq (pc := 56) X 1 rfl (vp_in_nI (by omega) (by omega)) (v := tA 0) ((congrArg (tyF tA) (nI_clamp (by decide))).trans rfl) dX9_pourFault_56 ?_
              refine j_getN (pc := 57) X 7 i_X7 2 rfl rfl 2 (by decide) (by decide +kernel) rfl dX9_pourFault_57 ?_
              refine j_icmpN_eq (pc := 60) X (a := (so 1)) (b := (so 0)) (by first | omega | exact Nat.lt_of_lt_of_le (hso _) (by decide)) (by first | omega | exact Nat.lt_of_lt_of_le (hso _) (by decide)) (tgt := 66) dX9_pourFault_60 (by decide) (fun c_60 => ?_) (fun c_60 => ?_)
              · skip
                refine j_iload (pc := 66) X dX9_pourFault_66 5 rfl ?_
                refine j_if_ge (pc := 68) X (x := m) (tgt := 74) dX9_pourFault_68 (by decide) (fun c_68 => ?_) (fun c_68 => ?_)
                · skip
                  refine j_aload_n (pc := 74) X dX9_pourFault_74 rfl 0 rfl ?_
                  refine j_get (pc := 75) X 9 i_X9 0 rfl rfl 0 (by decide) (by decide +kernel) rfl dX9_pourFault_75 ?_
                  refine j_iload_n (pc := 78) X dX9_pourFault_78 rfl 1 rfl ?_
                  refine j_aldq (pc := 79) X 1 rfl (vp_in_nI (by omega) (by omega)) (v := tA 1) ((congrArg (tyF tA) (nI_clamp (by decide))).trans rfl) dX9_pourFault_79 ?_
                  refine j_iload_n (pc := 80) X dX9_pourFault_80 rfl 2 rfl ?_
                  refine j_iload (pc := 81) X dX9_pourFault_81 5 rfl ?_
                  refine j_ciP (pc := 83) X [3] rfl (j_rVN X (b := tA 1) (As := [.int i, .int m]) (ci := 7) (rest := []) 2 (mX7_hasPlaces l G (tA 1) (nA 1) (ms 1) (so 1) (ln 1) i m ) gX9_pourFault_X7_hasPlaces_n269 rfl rfl rfl (by decide +kernel) (by decide +kernel) (by decide +kernel) (by decide +kernel) (by decide +kernel) ⟨Nat.le_of_ble_eq_true rfl, Nat.le_of_ble_eq_true rfl⟩ rfl rfl 0 rfl [3] rfl rfl rfl (Nat.le_of_ble_eq_true rfl) dX9_pourFault_83 ⟨Nat.le_of_ble_eq_true rfl, Nat.le_of_ble_eq_true rfl⟩) ?_
                  refine j_ifb_eq (pc := 86) X (B := hasP i m (ln 1)) (tgt := 109) dX9_pourFault_86 (by decide) (fun c_86 => ?_) (fun c_86 => ?_)
                  · skip
                    refine j_iconst (pc := 109) X (v := nI 0) dX9_pourFault_109 (by decide) ?_
                    refine j_istore (pc := 110) X (lv' := [(6, .int (nI 0)), (0, .ref qx), (1, .int (nI 1)), (2, .int i), (3, .int (nI 0)), (4, .int j), (5, .int m)]) dX9_pourFault_110 (by decide) rfl ?_
                    refine j_iload (pc := 112) X dX9_pourFault_112 0 rfl ?_
                    refine j_ifN_eq (pc := 114) X (a := 0) (by first | omega | exact Nat.lt_of_lt_of_le (hso _) (by decide)) (tgt := 121) dX9_pourFault_114 (by decide) (fun c_114 => ?_) (fun c_114 => ?_)
                    · skip
                      refine j_iconst (pc := 121) X (v := nI 4) dX9_pourFault_121 (by decide) ?_
                      exact j_iret (pc := 122) X dX9_pourFault_122 ⟨by first | (simp [poG, tN, cl0, cl1, cl2, cl3, c_4, c_11, c_25, c_37, c_60, c_68, c_86, c_114]; done) | exact absurd rfl c_60 | (rw [c_25] at c_37; exact absurd c_37 (by decide)), by first | (simp [poG, tN, cl0, cl1, cl2, cl3, c_4, c_11, c_25, c_37, c_60, c_68, c_86, c_114]; done) | exact absurd rfl c_60 | (rw [c_25] at c_37; exact absurd c_37 (by decide))⟩
                    · skip
                      exact absurd c_114 (by decide)
                  · skip
                    refine j_aload_n (pc := 89) X dX9_pourFault_89 rfl 0 rfl ?_
                    refine j_get (pc := 90) X 9 i_X9 0 rfl rfl 0 (by decide) (by decide +kernel) rfl dX9_pourFault_90 ?_
                    refine j_iload_n (pc := 93) X dX9_pourFault_93 rfl 3 rfl ?_
                    refine j_aldq (pc := 94) X 1 rfl (vp_in_nI (by omega) (by omega)) (v := tA 0) ((congrArg (tyF tA) (nI_clamp (by decide))).trans rfl) dX9_pourFault_94 ?_
                    refine j_iload (pc := 95) X dX9_pourFault_95 4 rfl ?_
                    refine j_iload (pc := 97) X dX9_pourFault_97 5 rfl ?_
                    refine j_ciP (pc := 99) X [2] rfl (j_rVN X (b := tA 0) (As := [.int j, .int m]) (ci := 7) (rest := []) 2 (mX7_hasPlaces l G (tA 0) (nA 0) (ms 0) (so 0) (ln 0) j m ) gX9_pourFault_X7_hasPlaces_n269 rfl rfl rfl (by decide +kernel) (by decide +kernel) (by decide +kernel) (by decide +kernel) (by decide +kernel) ⟨Nat.le_of_ble_eq_true rfl, Nat.le_of_ble_eq_true rfl⟩ rfl rfl 0 rfl [2] rfl rfl rfl (Nat.le_of_ble_eq_true rfl) dX9_pourFault_99 ⟨Nat.le_of_ble_eq_true rfl, Nat.le_of_ble_eq_true rfl⟩) ?_
                    refine j_ifb_eq (pc := 102) X (B := hasP j m (ln 0)) (tgt := 109) dX9_pourFault_102 (by decide) (fun c_102 => ?_) (fun c_102 => ?_)
                    · skip
                      refine j_iconst (pc := 109) X (v := nI 0) dX9_pourFault_109 (by decide) ?_
                      refine j_istore (pc := 110) X (lv' := [(6, .int (nI 0)), (0, .ref qx), (1, .int (nI 1)), (2, .int i), (3, .int (nI 0)), (4, .int j), (5, .int m)]) dX9_pourFault_110 (by decide) rfl ?_
                      refine j_iload (pc := 112) X dX9_pourFault_112 0 rfl ?_
                      refine j_ifN_eq (pc := 114) X (a := 0) (by first | omega | exact Nat.lt_of_lt_of_le (hso _) (by decide)) (tgt := 121) dX9_pourFault_114 (by decide) (fun c_114 => ?_) (fun c_114 => ?_)
                      · skip
                        refine j_iconst (pc := 121) X (v := nI 4) dX9_pourFault_121 (by decide) ?_
                        exact j_iret (pc := 122) X dX9_pourFault_122 ⟨by first | (simp [poG, tN, cl0, cl1, cl2, cl3, c_4, c_11, c_25, c_37, c_60, c_68, c_86, c_102, c_114]; done) | exact absurd rfl c_60 | (rw [c_25] at c_37; exact absurd c_37 (by decide)), by first | (simp [poG, tN, cl0, cl1, cl2, cl3, c_4, c_11, c_25, c_37, c_60, c_68, c_86, c_102, c_114]; done) | exact absurd rfl c_60 | (rw [c_25] at c_37; exact absurd c_37 (by decide))⟩
                      · skip
                        exact absurd c_114 (by decide)
                    · skip
                      refine j_iconst (pc := 105) X (v := nI 1) dX9_pourFault_105 (by decide) ?_
                      refine j_goto (pc := 106) X (tgt := 110) dX9_pourFault_106 (by decide) ?_
                      refine j_istore (pc := 110) X (lv' := [(6, .int (nI 1)), (0, .ref qx), (1, .int (nI 1)), (2, .int i), (3, .int (nI 0)), (4, .int j), (5, .int m)]) dX9_pourFault_110 (by decide) rfl ?_
                      refine j_iload (pc := 112) X dX9_pourFault_112 0 rfl ?_
                      refine j_ifN_eq (pc := 114) X (a := 1) (by first | omega | exact Nat.lt_of_lt_of_le (hso _) (by decide)) (tgt := 121) dX9_pourFault_114 (by decide) (fun c_114 => ?_) (fun c_114 => ?_)
                      · skip
                        exact absurd c_114 (by decide)
                      · skip
                        refine j_iconst (pc := 117) X (v := nI 0) dX9_pourFault_117 (by decide) ?_
                        refine j_goto (pc := 118) X (tgt := 122) dX9_pourFault_118 (by decide) ?_
                        exact j_iret (pc := 122) X dX9_pourFault_122 ⟨by first | (simp [poG, tN, cl0, cl1, cl2, cl3, c_4, c_11, c_25, c_37, c_60, c_68, c_86, c_102, c_114]; done) | exact absurd rfl c_60 | (rw [c_25] at c_37; exact absurd c_37 (by decide)), by first | (simp [poG, tN, cl0, cl1, cl2, cl3, c_4, c_11, c_25, c_37, c_60, c_68, c_86, c_102, c_114]; done) | exact absurd rfl c_60 | (rw [c_25] at c_37; exact absurd c_37 (by decide))⟩
                · skip
                  refine j_bipush (pc := 71) X (v := nI 6) dX9_pourFault_71 (by decide) ?_
                  exact j_iret (pc := 73) X dX9_pourFault_73 ⟨by first | (simp [poG, tN, cl0, cl1, cl2, cl3, c_4, c_11, c_25, c_37, c_60, c_68]; done) | exact absurd rfl c_60 | (rw [c_25] at c_37; exact absurd c_37 (by decide)), rfl⟩
              · skip
                refine j_bipush (pc := 63) X (v := nI 11) dX9_pourFault_63 (by decide) ?_
                exact j_iret (pc := 65) X dX9_pourFault_65 ⟨by first | (simp [poG, tN, cl0, cl1, cl2, cl3, c_4, c_11, c_25, c_37, c_60]; done) | exact absurd rfl c_60 | (rw [c_25] at c_37; exact absurd c_37 (by decide)), rfl⟩
            · skip
              refine j_iconst (pc := 40) X (v := nI 3) dX9_pourFault_40 (by decide) ?_
              exact j_iret (pc := 41) X dX9_pourFault_41 ⟨by first | (simp [poG, tN, cl0, cl1, cl2, cl3, c_4, c_11, c_25, c_37]; done) | exact absurd rfl c_60 | (rw [c_25] at c_37; exact absurd c_37 (by decide)), rfl⟩
        · skip
          refine j_aload_n (pc := 16) X dX9_pourFault_16 rfl 0 rfl ?_
          refine j_get (pc := 17) X 9 i_X9 0 rfl rfl 0 (by decide) (by decide +kernel) rfl dX9_pourFault_17 ?_
          refine j_iload_n (pc := 20) X dX9_pourFault_20 rfl 1 rfl ?_
          refine j_aldq (pc := 21) X 1 rfl (vp_in_nI (by omega) (by omega)) (v := tA 1) ((congrArg (tyF tA) (nI_clamp (by decide))).trans rfl) dX9_pourFault_21 ?_
          refine j_getN (pc := 22) X 7 i_X7 3 rfl rfl 1 (by decide) (by decide +kernel) rfl dX9_pourFault_22 ?_
          refine j_ifb_ne (pc := 25) X (B := ms 1) (tgt := 40) dX9_pourFault_25 (by decide) (fun c_25 => ?_) (fun c_25 => ?_)
          · skip
            refine j_iconst (pc := 40) X (v := nI 3) dX9_pourFault_40 (by decide) ?_
            exact j_iret (pc := 41) X dX9_pourFault_41 ⟨by first | (simp [poG, tN, cl0, cl1, cl2, cl3, c_4, c_11, c_25]; done) | exact absurd rfl c_60 | (rw [c_25] at c_37; exact absurd c_37 (by decide)), rfl⟩
          · skip
            refine j_aload_n (pc := 28) X dX9_pourFault_28 rfl 0 rfl ?_
            refine j_get (pc := 29) X 9 i_X9 0 rfl rfl 0 (by decide) (by decide +kernel) rfl dX9_pourFault_29 ?_
            refine j_iload_n (pc := 32) X dX9_pourFault_32 rfl 3 rfl ?_
            refine j_aldq (pc := 33) X 1 rfl (vp_in_nI (by omega) (by omega)) (v := tA 1) ((congrArg (tyF tA) (nI_clamp (by decide))).trans rfl) dX9_pourFault_33 ?_
            refine j_getN (pc := 34) X 7 i_X7 3 rfl rfl 1 (by decide) (by decide +kernel) rfl dX9_pourFault_34 ?_
            refine j_ifb_eq (pc := 37) X (B := ms 1) (tgt := 42) dX9_pourFault_37 (by decide) (fun c_37 => ?_) (fun c_37 => ?_)
            · skip
              refine j_aload_n (pc := 42) X dX9_pourFault_42 rfl 0 rfl ?_
              refine j_get (pc := 43) X 9 i_X9 0 rfl rfl 0 (by decide) (by decide +kernel) rfl dX9_pourFault_43 ?_
              refine j_iload_n (pc := 46) X dX9_pourFault_46 rfl 1 rfl ?_
              refine j_aldq (pc := 47) X 1 rfl (vp_in_nI (by omega) (by omega)) (v := tA 1) ((congrArg (tyF tA) (nI_clamp (by decide))).trans rfl) dX9_pourFault_47 ?_
              refine j_getN (pc := 48) X 7 i_X7 3 rfl rfl 2 (by decide) (by decide +kernel) rfl dX9_pourFault_48 ?_
              refine j_aload_n (pc := 51) X dX9_pourFault_51 rfl 0 rfl ?_
              refine j_get (pc := 52) X 9 i_X9 0 rfl rfl 0 (by decide) (by decide +kernel) rfl dX9_pourFault_52 ?_
              refine j_iload_n (pc := 55) X dX9_pourFault_55 rfl 3 rfl ?_
              refine j_aldq (pc := 56) X 1 rfl (vp_in_nI (by omega) (by omega)) (v := tA 1) ((congrArg (tyF tA) (nI_clamp (by decide))).trans rfl) dX9_pourFault_56 ?_
              refine j_getN (pc := 57) X 7 i_X7 3 rfl rfl 2 (by decide) (by decide +kernel) rfl dX9_pourFault_57 ?_
              refine j_icmpN_eq (pc := 60) X (a := (so 1)) (b := (so 1)) (by first | omega | exact Nat.lt_of_lt_of_le (hso _) (by decide)) (by first | omega | exact Nat.lt_of_lt_of_le (hso _) (by decide)) (tgt := 66) dX9_pourFault_60 (by decide) (fun c_60 => ?_) (fun c_60 => ?_)
              · skip
                refine j_iload (pc := 66) X dX9_pourFault_66 5 rfl ?_
                refine j_if_ge (pc := 68) X (x := m) (tgt := 74) dX9_pourFault_68 (by decide) (fun c_68 => ?_) (fun c_68 => ?_)
                · skip
                  refine j_aload_n (pc := 74) X dX9_pourFault_74 rfl 0 rfl ?_
                  refine j_get (pc := 75) X 9 i_X9 0 rfl rfl 0 (by decide) (by decide +kernel) rfl dX9_pourFault_75 ?_
                  refine j_iload_n (pc := 78) X dX9_pourFault_78 rfl 1 rfl ?_
                  refine j_aldq (pc := 79) X 1 rfl (vp_in_nI (by omega) (by omega)) (v := tA 1) ((congrArg (tyF tA) (nI_clamp (by decide))).trans rfl) dX9_pourFault_79 ?_
                  refine j_iload_n (pc := 80) X dX9_pourFault_80 rfl 2 rfl ?_
                  refine j_iload (pc := 81) X dX9_pourFault_81 5 rfl ?_
                  refine j_ciP (pc := 83) X [3] rfl (j_rVN X (b := tA 1) (As := [.int i, .int m]) (ci := 7) (rest := []) 2 (mX7_hasPlaces l G (tA 1) (nA 1) (ms 1) (so 1) (ln 1) i m ) gX9_pourFault_X7_hasPlaces_n269 rfl rfl rfl (by decide +kernel) (by decide +kernel) (by decide +kernel) (by decide +kernel) (by decide +kernel) ⟨Nat.le_of_ble_eq_true rfl, Nat.le_of_ble_eq_true rfl⟩ rfl rfl 0 rfl [3] rfl rfl rfl (Nat.le_of_ble_eq_true rfl) dX9_pourFault_83 ⟨Nat.le_of_ble_eq_true rfl, Nat.le_of_ble_eq_true rfl⟩) ?_
                  refine j_ifb_eq (pc := 86) X (B := hasP i m (ln 1)) (tgt := 109) dX9_pourFault_86 (by decide) (fun c_86 => ?_) (fun c_86 => ?_)
                  · skip
                    refine j_iconst (pc := 109) X (v := nI 0) dX9_pourFault_109 (by decide) ?_
                    refine j_istore (pc := 110) X (lv' := [(6, .int (nI 0)), (0, .ref qx), (1, .int (nI 1)), (2, .int i), (3, .int (nI 1)), (4, .int j), (5, .int m)]) dX9_pourFault_110 (by decide) rfl ?_
                    refine j_iload (pc := 112) X dX9_pourFault_112 0 rfl ?_
                    refine j_ifN_eq (pc := 114) X (a := 0) (by first | omega | exact Nat.lt_of_lt_of_le (hso _) (by decide)) (tgt := 121) dX9_pourFault_114 (by decide) (fun c_114 => ?_) (fun c_114 => ?_)
                    · skip
                      refine j_iconst (pc := 121) X (v := nI 4) dX9_pourFault_121 (by decide) ?_
                      exact j_iret (pc := 122) X dX9_pourFault_122 ⟨by first | (simp [poG, tN, cl0, cl1, cl2, cl3, c_4, c_11, c_25, c_37, c_60, c_68, c_86, c_114]; done) | exact absurd rfl c_60 | (rw [c_25] at c_37; exact absurd c_37 (by decide)), by first | (simp [poG, tN, cl0, cl1, cl2, cl3, c_4, c_11, c_25, c_37, c_60, c_68, c_86, c_114]; done) | exact absurd rfl c_60 | (rw [c_25] at c_37; exact absurd c_37 (by decide))⟩
                    · skip
                      exact absurd c_114 (by decide)
                  · skip
                    refine j_aload_n (pc := 89) X dX9_pourFault_89 rfl 0 rfl ?_
                    refine j_get (pc := 90) X 9 i_X9 0 rfl rfl 0 (by decide) (by decide +kernel) rfl dX9_pourFault_90 ?_
                    refine j_iload_n (pc := 93) X dX9_pourFault_93 rfl 3 rfl ?_
                    refine j_aldq (pc := 94) X 1 rfl (vp_in_nI (by omega) (by omega)) (v := tA 1) ((congrArg (tyF tA) (nI_clamp (by decide))).trans rfl) dX9_pourFault_94 ?_
                    refine j_iload (pc := 95) X dX9_pourFault_95 4 rfl ?_
                    refine j_iload (pc := 97) X dX9_pourFault_97 5 rfl ?_
                    refine j_ciP (pc := 99) X [3] rfl (j_rVN X (b := tA 1) (As := [.int j, .int m]) (ci := 7) (rest := []) 2 (mX7_hasPlaces l G (tA 1) (nA 1) (ms 1) (so 1) (ln 1) j m ) gX9_pourFault_X7_hasPlaces_n269 rfl rfl rfl (by decide +kernel) (by decide +kernel) (by decide +kernel) (by decide +kernel) (by decide +kernel) ⟨Nat.le_of_ble_eq_true rfl, Nat.le_of_ble_eq_true rfl⟩ rfl rfl 0 rfl [3] rfl rfl rfl (Nat.le_of_ble_eq_true rfl) dX9_pourFault_99 ⟨Nat.le_of_ble_eq_true rfl, Nat.le_of_ble_eq_true rfl⟩) ?_
                    refine j_ifb_eq (pc := 102) X (B := hasP j m (ln 1)) (tgt := 109) dX9_pourFault_102 (by decide) (fun c_102 => ?_) (fun c_102 => ?_)
                    · skip
                      refine j_iconst (pc := 109) X (v := nI 0) dX9_pourFault_109 (by decide) ?_
                      refine j_istore (pc := 110) X (lv' := [(6, .int (nI 0)), (0, .ref qx), (1, .int (nI 1)), (2, .int i), (3, .int (nI 1)), (4, .int j), (5, .int m)]) dX9_pourFault_110 (by decide) rfl ?_
                      refine j_iload (pc := 112) X dX9_pourFault_112 0 rfl ?_
                      refine j_ifN_eq (pc := 114) X (a := 0) (by first | omega | exact Nat.lt_of_lt_of_le (hso _) (by decide)) (tgt := 121) dX9_pourFault_114 (by decide) (fun c_114 => ?_) (fun c_114 => ?_)
                      · skip
                        refine j_iconst (pc := 121) X (v := nI 4) dX9_pourFault_121 (by decide) ?_
                        exact j_iret (pc := 122) X dX9_pourFault_122 ⟨by first | (simp [poG, tN, cl0, cl1, cl2, cl3, c_4, c_11, c_25, c_37, c_60, c_68, c_86, c_102, c_114]; done) | exact absurd rfl c_60 | (rw [c_25] at c_37; exact absurd c_37 (by decide)), by first | (simp [poG, tN, cl0, cl1, cl2, cl3, c_4, c_11, c_25, c_37, c_60, c_68, c_86, c_102, c_114]; done) | exact absurd rfl c_60 | (rw [c_25] at c_37; exact absurd c_37 (by decide))⟩
                      · skip
                        exact absurd c_114 (by decide)
                    · skip
                      refine j_iconst (pc := 105) X (v := nI 1) dX9_pourFault_105 (by decide) ?_
                      refine j_goto (pc := 106) X (tgt := 110) dX9_pourFault_106 (by decide) ?_
                      refine j_istore (pc := 110) X (lv' := [(6, .int (nI 1)), (0, .ref qx), (1, .int (nI 1)), (2, .int i), (3, .int (nI 1)), (4, .int j), (5, .int m)]) dX9_pourFault_110 (by decide) rfl ?_
                      refine j_iload (pc := 112) X dX9_pourFault_112 0 rfl ?_
                      refine j_ifN_eq (pc := 114) X (a := 1) (by first | omega | exact Nat.lt_of_lt_of_le (hso _) (by decide)) (tgt := 121) dX9_pourFault_114 (by decide) (fun c_114 => ?_) (fun c_114 => ?_)
                      · skip
                        exact absurd c_114 (by decide)
                      · skip
                        refine j_iconst (pc := 117) X (v := nI 0) dX9_pourFault_117 (by decide) ?_
                        refine j_goto (pc := 118) X (tgt := 122) dX9_pourFault_118 (by decide) ?_
                        exact j_iret (pc := 122) X dX9_pourFault_122 ⟨by first | (simp [poG, tN, cl0, cl1, cl2, cl3, c_4, c_11, c_25, c_37, c_60, c_68, c_86, c_102, c_114]; done) | exact absurd rfl c_60 | (rw [c_25] at c_37; exact absurd c_37 (by decide)), by first | (simp [poG, tN, cl0, cl1, cl2, cl3, c_4, c_11, c_25, c_37, c_60, c_68, c_86, c_102, c_114]; done) | exact absurd rfl c_60 | (rw [c_25] at c_37; exact absurd c_37 (by decide))⟩
                · skip
                  refine j_bipush (pc := 71) X (v := nI 6) dX9_pourFault_71 (by decide) ?_
                  exact j_iret (pc := 73) X dX9_pourFault_73 ⟨by first | (simp [poG, tN, cl0, cl1, cl2, cl3, c_4, c_11, c_25, c_37, c_60, c_68]; done) | exact absurd rfl c_60 | (rw [c_25] at c_37; exact absurd c_37 (by decide)), rfl⟩
              · skip
                refine j_bipush (pc := 63) X (v := nI 11) dX9_pourFault_63 (by decide) ?_
                exact j_iret (pc := 65) X dX9_pourFault_65 ⟨by first | (simp [poG, tN, cl0, cl1, cl2, cl3, c_4, c_11, c_25, c_37, c_60]; done) | exact absurd rfl c_60 | (rw [c_25] at c_37; exact absurd c_37 (by decide)), rfl⟩
            · skip
              refine j_iconst (pc := 40) X (v := nI 3) dX9_pourFault_40 (by decide) ?_
              exact j_iret (pc := 41) X dX9_pourFault_41 ⟨by first | (simp [poG, tN, cl0, cl1, cl2, cl3, c_4, c_11, c_25, c_37]; done) | exact absurd rfl c_60 | (rw [c_25] at c_37; exact absurd c_37 (by decide)), rfl⟩
        · skip
          refine j_aload_n (pc := 16) X dX9_pourFault_16 rfl 0 rfl ?_
          refine j_get (pc := 17) X 9 i_X9 0 rfl rfl 0 (by decide) (by decide +kernel) rfl dX9_pourFault_17 ?_
          refine j_iload_n (pc := 20) X dX9_pourFault_20 rfl 1 rfl ?_
          refine j_aldq (pc := 21) X 1 rfl (vp_in_nI (by omega) (by omega)) (v := tA 1) ((congrArg (tyF tA) (nI_clamp (by decide))).trans rfl) dX9_pourFault_21 ?_
          refine j_getN (pc := 22) X 7 i_X7 3 rfl rfl 1 (by decide) (by decide +kernel) rfl dX9_pourFault_22 ?_
          refine j_ifb_ne (pc := 25) X (B := ms 1) (tgt := 40) dX9_pourFault_25 (by decide) (fun c_25 => ?_) (fun c_25 => ?_)
          · skip
            refine j_iconst (pc := 40) X (v := nI 3) dX9_pourFault_40 (by decide) ?_
            exact j_iret (pc := 41) X dX9_pourFault_41 ⟨by first | (simp [poG, tN, cl0, cl1, cl2, cl3, c_4, c_11, c_25]; done) | exact absurd rfl c_60 | (rw [c_25] at c_37; exact absurd c_37 (by decide)), rfl⟩
          · skip
            refine j_aload_n (pc := 28) X dX9_pourFault_28 rfl 0 rfl ?_
            refine j_get (pc := 29) X 9 i_X9 0 rfl rfl 0 (by decide) (by decide +kernel) rfl dX9_pourFault_29 ?_
            refine j_iload_n (pc := 32) X dX9_pourFault_32 rfl 3 rfl ?_
            refine j_aldq (pc := 33) X 1 rfl (vp_in_nI (by omega) (by omega)) (v := tA 2) ((congrArg (tyF tA) (nI_clamp (by decide))).trans rfl) dX9_pourFault_33 ?_
            refine j_getN (pc := 34) X 7 i_X7 4 rfl rfl 1 (by decide) (by decide +kernel) rfl dX9_pourFault_34 ?_
            refine j_ifb_eq (pc := 37) X (B := ms 2) (tgt := 42) dX9_pourFault_37 (by decide) (fun c_37 => ?_) (fun c_37 => ?_)
            · skip
              refine j_aload_n (pc := 42) X dX9_pourFault_42 rfl 0 rfl ?_
              refine j_get (pc := 43) X 9 i_X9 0 rfl rfl 0 (by decide) (by decide +kernel) rfl dX9_pourFault_43 ?_
              refine j_iload_n (pc := 46) X dX9_pourFault_46 rfl 1 rfl ?_
              refine j_aldq (pc := 47) X 1 rfl (vp_in_nI (by omega) (by omega)) (v := tA 1) ((congrArg (tyF tA) (nI_clamp (by decide))).trans rfl) dX9_pourFault_47 ?_
              refine j_getN (pc := 48) X 7 i_X7 3 rfl rfl 2 (by decide) (by decide +kernel) rfl dX9_pourFault_48 ?_
              refine j_aload_n (pc := 51) X dX9_pourFault_51 rfl 0 rfl ?_
              refine j_get (pc := 52) X 9 i_X9 0 rfl rfl 0 (by decide) (by decide +kernel) rfl dX9_pourFault_52 ?_
              refine j_iload_n (pc := 55) X dX9_pourFault_55 rfl 3 rfl ?_
              refine j_aldq (pc := 56) X 1 rfl (vp_in_nI (by omega) (by omega)) (v := tA 2) ((congrArg (tyF tA) (nI_clamp (by decide))).trans rfl) dX9_pourFault_56 ?_
              refine j_getN (pc := 57) X 7 i_X7 4 rfl rfl 2 (by decide) (by decide +kernel) rfl dX9_pourFault_57 ?_
              refine j_icmpN_eq (pc := 60) X (a := (so 1)) (b := (so 2)) (by first | omega | exact Nat.lt_of_lt_of_le (hso _) (by decide)) (by first | omega | exact Nat.lt_of_lt_of_le (hso _) (by decide)) (tgt := 66) dX9_pourFault_60 (by decide) (fun c_60 => ?_) (fun c_60 => ?_)
              · skip
                refine j_iload (pc := 66) X dX9_pourFault_66 5 rfl ?_
                refine j_if_ge (pc := 68) X (x := m) (tgt := 74) dX9_pourFault_68 (by decide) (fun c_68 => ?_) (fun c_68 => ?_)
                · skip
                  refine j_aload_n (pc := 74) X dX9_pourFault_74 rfl 0 rfl ?_
                  refine j_get (pc := 75) X 9 i_X9 0 rfl rfl 0 (by decide) (by decide +kernel) rfl dX9_pourFault_75 ?_
                  refine j_iload_n (pc := 78) X dX9_pourFault_78 rfl 1 rfl ?_
                  refine j_aldq (pc := 79) X 1 rfl (vp_in_nI (by omega) (by omega)) (v := tA 1) ((congrArg (tyF tA) (nI_clamp (by decide))).trans rfl) dX9_pourFault_79 ?_
                  refine j_iload_n (pc := 80) X dX9_pourFault_80 rfl 2 rfl ?_
                  refine j_iload (pc := 81) X dX9_pourFault_81 5 rfl ?_
                  refine j_ciP (pc := 83) X [3] rfl (j_rVN X (b := tA 1) (As := [.int i, .int m]) (ci := 7) (rest := []) 2 (mX7_hasPlaces l G (tA 1) (nA 1) (ms 1) (so 1) (ln 1) i m ) gX9_pourFault_X7_hasPlaces_n269 rfl rfl rfl (by decide +kernel) (by decide +kernel) (by decide +kernel) (by decide +kernel) (by decide +kernel) ⟨Nat.le_of_ble_eq_true rfl, Nat.le_of_ble_eq_true rfl⟩ rfl rfl 0 rfl [3] rfl rfl rfl (Nat.le_of_ble_eq_true rfl) dX9_pourFault_83 ⟨Nat.le_of_ble_eq_true rfl, Nat.le_of_ble_eq_true rfl⟩) ?_
                  refine j_ifb_eq (pc := 86) X (B := hasP i m (ln 1)) (tgt := 109) dX9_pourFault_86 (by decide) (fun c_86 => ?_) (fun c_86 => ?_)
                  · skip
                    refine j_iconst (pc := 109) X (v := nI 0) dX9_pourFault_109 (by decide) ?_
                    refine j_istore (pc := 110) X (lv' := [(6, .int (nI 0)), (0, .ref qx), (1, .int (nI 1)), (2, .int i), (3, .int (nI 2)), (4, .int j), (5, .int m)]) dX9_pourFault_110 (by decide) rfl ?_
                    refine j_iload (pc := 112) X dX9_pourFault_112 0 rfl ?_
                    refine j_ifN_eq (pc := 114) X (a := 0) (by first | omega | exact Nat.lt_of_lt_of_le (hso _) (by decide)) (tgt := 121) dX9_pourFault_114 (by decide) (fun c_114 => ?_) (fun c_114 => ?_)
                    · skip
                      refine j_iconst (pc := 121) X (v := nI 4) dX9_pourFault_121 (by decide) ?_
                      exact j_iret (pc := 122) X dX9_pourFault_122 ⟨by first | (simp [poG, tN, cl0, cl1, cl2, cl3, c_4, c_11, c_25, c_37, c_60, c_68, c_86, c_114]; done) | exact absurd rfl c_60 | (rw [c_25] at c_37; exact absurd c_37 (by decide)), by first | (simp [poG, tN, cl0, cl1, cl2, cl3, c_4, c_11, c_25, c_37, c_60, c_68, c_86, c_114]; done) | exact absurd rfl c_60 | (rw [c_25] at c_37; exact absurd c_37 (by decide))⟩
                    · skip
                      exact absurd c_114 (by decide)
                  · skip
                    refine j_aload_n (pc := 89) X dX9_pourFault_89 rfl 0 rfl ?_
                    refine j_get (pc := 90) X 9 i_X9 0 rfl rfl 0 (by decide) (by decide +kernel) rfl dX9_pourFault_90 ?_
                    refine j_iload_n (pc := 93) X dX9_pourFault_93 rfl 3 rfl ?_
                    refine j_aldq (pc := 94) X 1 rfl (vp_in_nI (by omega) (by omega)) (v := tA 2) ((congrArg (tyF tA) (nI_clamp (by decide))).trans rfl) dX9_pourFault_94 ?_
                    refine j_iload (pc := 95) X dX9_pourFault_95 4 rfl ?_
                    refine j_iload (pc := 97) X dX9_pourFault_97 5 rfl ?_
                    refine j_ciP (pc := 99) X [4] rfl (j_rVN X (b := tA 2) (As := [.int j, .int m]) (ci := 7) (rest := []) 2 (mX7_hasPlaces l G (tA 2) (nA 2) (ms 2) (so 2) (ln 2) j m ) gX9_pourFault_X7_hasPlaces_n269 rfl rfl rfl (by decide +kernel) (by decide +kernel) (by decide +kernel) (by decide +kernel) (by decide +kernel) ⟨Nat.le_of_ble_eq_true rfl, Nat.le_of_ble_eq_true rfl⟩ rfl rfl 0 rfl [4] rfl rfl rfl (Nat.le_of_ble_eq_true rfl) dX9_pourFault_99 ⟨Nat.le_of_ble_eq_true rfl, Nat.le_of_ble_eq_true rfl⟩) ?_
                    refine j_ifb_eq (pc := 102) X (B := hasP j m (ln 2)) (tgt := 109) dX9_pourFault_102 (by decide) (fun c_102 => ?_) (fun c_102 => ?_)
                    · skip
                      refine j_iconst (pc := 109) X (v := nI 0) dX9_pourFault_109 (by decide) ?_
                      refine j_istore (pc := 110) X (lv' := [(6, .int (nI 0)), (0, .ref qx), (1, .int (nI 1)), (2, .int i), (3, .int (nI 2)), (4, .int j), (5, .int m)]) dX9_pourFault_110 (by decide) rfl ?_
                      refine j_iload (pc := 112) X dX9_pourFault_112 0 rfl ?_
                      refine j_ifN_eq (pc := 114) X (a := 0) (by first | omega | exact Nat.lt_of_lt_of_le (hso _) (by decide)) (tgt := 121) dX9_pourFault_114 (by decide) (fun c_114 => ?_) (fun c_114 => ?_)
                      · skip
                        refine j_iconst (pc := 121) X (v := nI 4) dX9_pourFault_121 (by decide) ?_
                        exact j_iret (pc := 122) X dX9_pourFault_122 ⟨by first | (simp [poG, tN, cl0, cl1, cl2, cl3, c_4, c_11, c_25, c_37, c_60, c_68, c_86, c_102, c_114]; done) | exact absurd rfl c_60 | (rw [c_25] at c_37; exact absurd c_37 (by decide)), by first | (simp [poG, tN, cl0, cl1, cl2, cl3, c_4, c_11, c_25, c_37, c_60, c_68, c_86, c_102, c_114]; done) | exact absurd rfl c_60 | (rw [c_25] at c_37; exact absurd c_37 (by decide))⟩
                      · skip
                        exact absurd c_114 (by decide)
                    · skip
                      refine j_iconst (pc := 105) X (v := nI 1) dX9_pourFault_105 (by decide) ?_
                      refine j_goto (pc := 106) X (tgt := 110) dX9_pourFault_106 (by decide) ?_
                      refine j_istore (pc := 110) X (lv' := [(6, .int (nI 1)), (0, .ref qx), (1, .int (nI 1)), (2, .int i), (3, .int (nI 2)), (4, .int j), (5, .int m)]) dX9_pourFault_110 (by decide) rfl ?_
                      refine j_iload (pc := 112) X dX9_pourFault_112 0 rfl ?_
                      refine j_ifN_eq (pc := 114) X (a := 1) (by first | omega | exact Nat.lt_of_lt_of_le (hso _) (by decide)) (tgt := 121) dX9_pourFault_114 (by decide) (fun c_114 => ?_) (fun c_114 => ?_)
                      · skip
                        exact absurd c_114 (by decide)
                      · skip
                        refine j_iconst (pc := 117) X (v := nI 0) dX9_pourFault_117 (by decide) ?_
                        refine j_goto (pc := 118) X (tgt := 122) dX9_pourFault_118 (by decide) ?_
                        exact j_iret (pc := 122) X dX9_pourFault_122 ⟨by first | (simp [poG, tN, cl0, cl1, cl2, cl3, c_4, c_11, c_25, c_37, c_60, c_68, c_86, c_102, c_114]; done) | exact absurd rfl c_60 | (rw [c_25] at c_37; exact absurd c_37 (by decide)), by first | (simp [poG, tN, cl0, cl1, cl2, cl3, c_4, c_11, c_25, c_37, c_60, c_68, c_86, c_102, c_114]; done) | exact absurd rfl c_60 | (rw [c_25] at c_37; exact absurd c_37 (by decide))⟩
                · skip
                  refine j_bipush (pc := 71) X (v := nI 6) dX9_pourFault_71 (by decide) ?_
                  exact j_iret (pc := 73) X dX9_pourFault_73 ⟨by first | (simp [poG, tN, cl0, cl1, cl2, cl3, c_4, c_11, c_25, c_37, c_60, c_68]; done) | exact absurd rfl c_60 | (rw [c_25] at c_37; exact absurd c_37 (by decide)), rfl⟩
              · skip
                refine j_bipush (pc := 63) X (v := nI 11) dX9_pourFault_63 (by decide) ?_
                exact j_iret (pc := 65) X dX9_pourFault_65 ⟨by first | (simp [poG, tN, cl0, cl1, cl2, cl3, c_4, c_11, c_25, c_37, c_60]; done) | exact absurd rfl c_60 | (rw [c_25] at c_37; exact absurd c_37 (by decide)), rfl⟩
            · skip
              refine j_iconst (pc := 40) X (v := nI 3) dX9_pourFault_40 (by decide) ?_
              exact j_iret (pc := 41) X dX9_pourFault_41 ⟨by first | (simp [poG, tN, cl0, cl1, cl2, cl3, c_4, c_11, c_25, c_37]; done) | exact absurd rfl c_60 | (rw [c_25] at c_37; exact absurd c_37 (by decide)), rfl⟩
        · skip
          refine j_aload_n (pc := 16) X dX9_pourFault_16 rfl 0 rfl ?_
          refine j_get (pc := 17) X 9 i_X9 0 rfl rfl 0 (by decide) (by decide +kernel) rfl dX9_pourFault_17 ?_
          refine j_iload_n (pc := 20) X dX9_pourFault_20 rfl 1 rfl ?_
          refine j_aldq (pc := 21) X 1 rfl (vp_in_nI (by omega) (by omega)) (v := tA 1) ((congrArg (tyF tA) (nI_clamp (by decide))).trans rfl) dX9_pourFault_21 ?_
          refine j_getN (pc := 22) X 7 i_X7 3 rfl rfl 1 (by decide) (by decide +kernel) rfl dX9_pourFault_22 ?_
          refine j_ifb_ne (pc := 25) X (B := ms 1) (tgt := 40) dX9_pourFault_25 (by decide) (fun c_25 => ?_) (fun c_25 => ?_)
          · skip
            refine j_iconst (pc := 40) X (v := nI 3) dX9_pourFault_40 (by decide) ?_
            exact j_iret (pc := 41) X dX9_pourFault_41 ⟨by first | (simp [poG, tN, cl0, cl1, cl2, cl3, c_4, c_11, c_25]; done) | exact absurd rfl c_60 | (rw [c_25] at c_37; exact absurd c_37 (by decide)), rfl⟩
          · skip
            refine j_aload_n (pc := 28) X dX9_pourFault_28 rfl 0 rfl ?_
            refine j_get (pc := 29) X 9 i_X9 0 rfl rfl 0 (by decide) (by decide +kernel) rfl dX9_pourFault_29 ?_
            refine j_iload_n (pc := 32) X dX9_pourFault_32 rfl 3 rfl ?_
            refine j_aldq (pc := 33) X 1 rfl (vp_in_nI (by omega) (by omega)) (v := tA 3) ((congrArg (tyF tA) (nI_clamp (by decide))).trans rfl) dX9_pourFault_33 ?_
            refine j_getN (pc := 34) X 7 i_X7 5 rfl rfl 1 (by decide) (by decide +kernel) rfl dX9_pourFault_34 ?_
            refine j_ifb_eq (pc := 37) X (B := ms 3) (tgt := 42) dX9_pourFault_37 (by decide) (fun c_37 => ?_) (fun c_37 => ?_)
            · skip
              refine j_aload_n (pc := 42) X dX9_pourFault_42 rfl 0 rfl ?_
              refine j_get (pc := 43) X 9 i_X9 0 rfl rfl 0 (by decide) (by decide +kernel) rfl dX9_pourFault_43 ?_
              refine j_iload_n (pc := 46) X dX9_pourFault_46 rfl 1 rfl ?_
              refine j_aldq (pc := 47) X 1 rfl (vp_in_nI (by omega) (by omega)) (v := tA 1) ((congrArg (tyF tA) (nI_clamp (by decide))).trans rfl) dX9_pourFault_47 ?_
              refine j_getN (pc := 48) X 7 i_X7 3 rfl rfl 2 (by decide) (by decide +kernel) rfl dX9_pourFault_48 ?_
              refine j_aload_n (pc := 51) X dX9_pourFault_51 rfl 0 rfl ?_
              refine j_get (pc := 52) X 9 i_X9 0 rfl rfl 0 (by decide) (by decide +kernel) rfl dX9_pourFault_52 ?_
              refine j_iload_n (pc := 55) X dX9_pourFault_55 rfl 3 rfl ?_
              refine j_aldq (pc := 56) X 1 rfl (vp_in_nI (by omega) (by omega)) (v := tA 3) ((congrArg (tyF tA) (nI_clamp (by decide))).trans rfl) dX9_pourFault_56 ?_
              refine j_getN (pc := 57) X 7 i_X7 5 rfl rfl 2 (by decide) (by decide +kernel) rfl dX9_pourFault_57 ?_
              refine j_icmpN_eq (pc := 60) X (a := (so 1)) (b := (so 3)) (by first | omega | exact Nat.lt_of_lt_of_le (hso _) (by decide)) (by first | omega | exact Nat.lt_of_lt_of_le (hso _) (by decide)) (tgt := 66) dX9_pourFault_60 (by decide) (fun c_60 => ?_) (fun c_60 => ?_)
              · skip
                refine j_iload (pc := 66) X dX9_pourFault_66 5 rfl ?_
                refine j_if_ge (pc := 68) X (x := m) (tgt := 74) dX9_pourFault_68 (by decide) (fun c_68 => ?_) (fun c_68 => ?_)
                · skip
                  refine j_aload_n (pc := 74) X dX9_pourFault_74 rfl 0 rfl ?_
                  refine j_get (pc := 75) X 9 i_X9 0 rfl rfl 0 (by decide) (by decide +kernel) rfl dX9_pourFault_75 ?_
                  refine j_iload_n (pc := 78) X dX9_pourFault_78 rfl 1 rfl ?_
                  refine j_aldq (pc := 79) X 1 rfl (vp_in_nI (by omega) (by omega)) (v := tA 1) ((congrArg (tyF tA) (nI_clamp (by decide))).trans rfl) dX9_pourFault_79 ?_
                  refine j_iload_n (pc := 80) X dX9_pourFault_80 rfl 2 rfl ?_
                  refine j_iload (pc := 81) X dX9_pourFault_81 5 rfl ?_
                  refine j_ciP (pc := 83) X [3] rfl (j_rVN X (b := tA 1) (As := [.int i, .int m]) (ci := 7) (rest := []) 2 (mX7_hasPlaces l G (tA 1) (nA 1) (ms 1) (so 1) (ln 1) i m ) gX9_pourFault_X7_hasPlaces_n269 rfl rfl rfl (by decide +kernel) (by decide +kernel) (by decide +kernel) (by decide +kernel) (by decide +kernel) ⟨Nat.le_of_ble_eq_true rfl, Nat.le_of_ble_eq_true rfl⟩ rfl rfl 0 rfl [3] rfl rfl rfl (Nat.le_of_ble_eq_true rfl) dX9_pourFault_83 ⟨Nat.le_of_ble_eq_true rfl, Nat.le_of_ble_eq_true rfl⟩) ?_
                  refine j_ifb_eq (pc := 86) X (B := hasP i m (ln 1)) (tgt := 109) dX9_pourFault_86 (by decide) (fun c_86 => ?_) (fun c_86 => ?_)
                  · skip
                    refine j_iconst (pc := 109) X (v := nI 0) dX9_pourFault_109 (by decide) ?_
                    refine j_istore (pc := 110) X (lv' := [(6, .int (nI 0)), (0, .ref qx), (1, .int (nI 1)), (2, .int i), (3, .int (nI 3)), (4, .int j), (5, .int m)]) dX9_pourFault_110 (by decide) rfl ?_
                    refine j_iload (pc := 112) X dX9_pourFault_112 0 rfl ?_
                    refine j_ifN_eq (pc := 114) X (a := 0) (by first | omega | exact Nat.lt_of_lt_of_le (hso _) (by decide)) (tgt := 121) dX9_pourFault_114 (by decide) (fun c_114 => ?_) (fun c_114 => ?_)
                    · skip
                      refine j_iconst (pc := 121) X (v := nI 4) dX9_pourFault_121 (by decide) ?_
                      exact j_iret (pc := 122) X dX9_pourFault_122 ⟨by first | (simp [poG, tN, cl0, cl1, cl2, cl3, c_4, c_11, c_25, c_37, c_60, c_68, c_86, c_114]; done) | exact absurd rfl c_60 | (rw [c_25] at c_37; exact absurd c_37 (by decide)), by first | (simp [poG, tN, cl0, cl1, cl2, cl3, c_4, c_11, c_25, c_37, c_60, c_68, c_86, c_114]; done) | exact absurd rfl c_60 | (rw [c_25] at c_37; exact absurd c_37 (by decide))⟩
                    · skip
                      exact absurd c_114 (by decide)
                  · skip
                    refine j_aload_n (pc := 89) X dX9_pourFault_89 rfl 0 rfl ?_
                    refine j_get (pc := 90) X 9 i_X9 0 rfl rfl 0 (by decide) (by decide +kernel) rfl dX9_pourFault_90 ?_
                    refine j_iload_n (pc := 93) X dX9_pourFault_93 rfl 3 rfl ?_
                    refine j_aldq (pc := 94) X 1 rfl (vp_in_nI (by omega) (by omega)) (v := tA 3) ((congrArg (tyF tA) (nI_clamp (by decide))).trans rfl) dX9_pourFault_94 ?_
                    refine j_iload (pc := 95) X dX9_pourFault_95 4 rfl ?_
                    refine j_iload (pc := 97) X dX9_pourFault_97 5 rfl ?_
                    refine j_ciP (pc := 99) X [5] rfl (j_rVN X (b := tA 3) (As := [.int j, .int m]) (ci := 7) (rest := []) 2 (mX7_hasPlaces l G (tA 3) (nA 3) (ms 3) (so 3) (ln 3) j m ) gX9_pourFault_X7_hasPlaces_n269 rfl rfl rfl (by decide +kernel) (by decide +kernel) (by decide +kernel) (by decide +kernel) (by decide +kernel) ⟨Nat.le_of_ble_eq_true rfl, Nat.le_of_ble_eq_true rfl⟩ rfl rfl 0 rfl [5] rfl rfl rfl (Nat.le_of_ble_eq_true rfl) dX9_pourFault_99 ⟨Nat.le_of_ble_eq_true rfl, Nat.le_of_ble_eq_true rfl⟩) ?_
                    refine j_ifb_eq (pc := 102) X (B := hasP j m (ln 3)) (tgt := 109) dX9_pourFault_102 (by decide) (fun c_102 => ?_) (fun c_102 => ?_)
                    · skip
                      refine j_iconst (pc := 109) X (v := nI 0) dX9_pourFault_109 (by decide) ?_
                      refine j_istore (pc := 110) X (lv' := [(6, .int (nI 0)), (0, .ref qx), (1, .int (nI 1)), (2, .int i), (3, .int (nI 3)), (4, .int j), (5, .int m)]) dX9_pourFault_110 (by decide) rfl ?_
                      refine j_iload (pc := 112) X dX9_pourFault_112 0 rfl ?_
                      refine j_ifN_eq (pc := 114) X (a := 0) (by first | omega | exact Nat.lt_of_lt_of_le (hso _) (by decide)) (tgt := 121) dX9_pourFault_114 (by decide) (fun c_114 => ?_) (fun c_114 => ?_)
                      · skip
                        refine j_iconst (pc := 121) X (v := nI 4) dX9_pourFault_121 (by decide) ?_
                        exact j_iret (pc := 122) X dX9_pourFault_122 ⟨by first | (simp [poG, tN, cl0, cl1, cl2, cl3, c_4, c_11, c_25, c_37, c_60, c_68, c_86, c_102, c_114]; done) | exact absurd rfl c_60 | (rw [c_25] at c_37; exact absurd c_37 (by decide)), by first | (simp [poG, tN, cl0, cl1, cl2, cl3, c_4, c_11, c_25, c_37, c_60, c_68, c_86, c_102, c_114]; done) | exact absurd rfl c_60 | (rw [c_25] at c_37; exact absurd c_37 (by decide))⟩
                      · skip
                        exact absurd c_114 (by decide)
                    · skip
                      refine j_iconst (pc := 105) X (v := nI 1) dX9_pourFault_105 (by decide) ?_
                      refine j_goto (pc := 106) X (tgt := 110) dX9_pourFault_106 (by decide) ?_
                      refine j_istore (pc := 110) X (lv' := [(6, .int (nI 1)), (0, .ref qx), (1, .int (nI 1)), (2, .int i), (3, .int (nI 3)), (4, .int j), (5, .int m)]) dX9_pourFault_110 (by decide) rfl ?_
                      refine j_iload (pc := 112) X dX9_pourFault_112 0 rfl ?_
                      refine j_ifN_eq (pc := 114) X (a := 1) (by first | omega | exact Nat.lt_of_lt_of_le (hso _) (by decide)) (tgt := 121) dX9_pourFault_114 (by decide) (fun c_114 => ?_) (fun c_114 => ?_)
                      · skip
                        exact absurd c_114 (by decide)
                      · skip
                        refine j_iconst (pc := 117) X (v := nI 0) dX9_pourFault_117 (by decide) ?_
                        refine j_goto (pc := 118) X (tgt := 122) dX9_pourFault_118 (by decide) ?_
                        exact j_iret (pc := 122) X dX9_pourFault_122 ⟨by first | (simp [poG, tN, cl0, cl1, cl2, cl3, c_4, c_11, c_25, c_37, c_60, c_68, c_86, c_102, c_114]; done) | exact absurd rfl c_60 | (rw [c_25] at c_37; exact absurd c_37 (by decide)), by first | (simp [poG, tN, cl0, cl1, cl2, cl3, c_4, c_11, c_25, c_37, c_60, c_68, c_86, c_102, c_114]; done) | exact absurd rfl c_60 | (rw [c_25] at c_37; exact absurd c_37 (by decide))⟩
                · skip
                  refine j_bipush (pc := 71) X (v := nI 6) dX9_pourFault_71 (by decide) ?_
                  exact j_iret (pc := 73) X dX9_pourFault_73 ⟨by first | (simp [poG, tN, cl0, cl1, cl2, cl3, c_4, c_11, c_25, c_37, c_60, c_68]; done) | exact absurd rfl c_60 | (rw [c_25] at c_37; exact absurd c_37 (by decide)), rfl⟩
              · skip
                refine j_bipush (pc := 63) X (v := nI 11) dX9_pourFault_63 (by decide) ?_
                exact j_iret (pc := 65) X dX9_pourFault_65 ⟨by first | (simp [poG, tN, cl0, cl1, cl2, cl3, c_4, c_11, c_25, c_37, c_60]; done) | exact absurd rfl c_60 | (rw [c_25] at c_37; exact absurd c_37 (by decide)), rfl⟩
            · skip
              refine j_iconst (pc := 40) X (v := nI 3) dX9_pourFault_40 (by decide) ?_
              exact j_iret (pc := 41) X dX9_pourFault_41 ⟨by first | (simp [poG, tN, cl0, cl1, cl2, cl3, c_4, c_11, c_25, c_37]; done) | exact absurd rfl c_60 | (rw [c_25] at c_37; exact absurd c_37 (by decide)), rfl⟩
      · skip
        refine j_iconst (pc := 14) X (v := nI 1) dX9_pourFault_14 (by decide) ?_
        exact j_iret (pc := 15) X dX9_pourFault_15 ⟨by first | (simp [poG, tN, cl0, cl1, cl2, cl3, c_4, c_11]; done) | exact absurd rfl c_60 | (rw [c_25] at c_37; exact absurd c_37 (by decide)), rfl⟩
    · skip
      refine j_iload_n (pc := 7) X dX9_pourFault_7 rfl 3 rfl ?_
      refine j_ciP (pc := 8) X [] rfl (j_rS X (As := [.int to_]) (rest := []) 1 (mX9_isTray l G to_ ) gX9_pourFault_X9_isTray rfl rfl rfl (by decide +kernel) ⟨Nat.le_of_ble_eq_true rfl, Nat.le_of_ble_eq_true rfl⟩ rfl [] rfl rfl rfl (Nat.le_of_ble_eq_true rfl) dX9_pourFault_8 ⟨Nat.le_of_ble_eq_true rfl, Nat.le_of_ble_eq_true rfl⟩) ?_
      refine j_ifb_ne (pc := 11) X (B := inR to_ 4) (tgt := 16) dX9_pourFault_11 (by decide) (fun c_11 => ?_) (fun c_11 => ?_)
      · skip
        obtain ⟨b, hb, rfl⟩ := inR_of c_11 (by decide); rcases (by omega : b = 0 ∨ b = 1 ∨ b = 2 ∨ b = 3) with rfl | rfl | rfl | rfl
        · skip
          refine j_aload_n (pc := 16) X dX9_pourFault_16 rfl 0 rfl ?_
          refine j_get (pc := 17) X 9 i_X9 0 rfl rfl 0 (by decide) (by decide +kernel) rfl dX9_pourFault_17 ?_
          refine j_iload_n (pc := 20) X dX9_pourFault_20 rfl 1 rfl ?_
          refine j_aldq (pc := 21) X 1 rfl (vp_in_nI (by omega) (by omega)) (v := tA 2) ((congrArg (tyF tA) (nI_clamp (by decide))).trans rfl) dX9_pourFault_21 ?_
          refine j_getN (pc := 22) X 7 i_X7 4 rfl rfl 1 (by decide) (by decide +kernel) rfl dX9_pourFault_22 ?_
          refine j_ifb_ne (pc := 25) X (B := ms 2) (tgt := 40) dX9_pourFault_25 (by decide) (fun c_25 => ?_) (fun c_25 => ?_)
          · skip
            refine j_iconst (pc := 40) X (v := nI 3) dX9_pourFault_40 (by decide) ?_
            exact j_iret (pc := 41) X dX9_pourFault_41 ⟨by first | (simp [poG, tN, cl0, cl1, cl2, cl3, c_4, c_11, c_25]; done) | exact absurd rfl c_60 | (rw [c_25] at c_37; exact absurd c_37 (by decide)), rfl⟩
          · skip
            refine j_aload_n (pc := 28) X dX9_pourFault_28 rfl 0 rfl ?_
            refine j_get (pc := 29) X 9 i_X9 0 rfl rfl 0 (by decide) (by decide +kernel) rfl dX9_pourFault_29 ?_
            refine j_iload_n (pc := 32) X dX9_pourFault_32 rfl 3 rfl ?_
            refine j_aldq (pc := 33) X 1 rfl (vp_in_nI (by omega) (by omega)) (v := tA 0) ((congrArg (tyF tA) (nI_clamp (by decide))).trans rfl) dX9_pourFault_33 ?_
            refine j_getN (pc := 34) X 7 i_X7 2 rfl rfl 1 (by decide) (by decide +kernel) rfl dX9_pourFault_34 ?_
            refine j_ifb_eq (pc := 37) X (B := ms 0) (tgt := 42) dX9_pourFault_37 (by decide) (fun c_37 => ?_) (fun c_37 => ?_)
            · skip
              refine j_aload_n (pc := 42) X dX9_pourFault_42 rfl 0 rfl ?_
              refine j_get (pc := 43) X 9 i_X9 0 rfl rfl 0 (by decide) (by decide +kernel) rfl dX9_pourFault_43 ?_
              refine j_iload_n (pc := 46) X dX9_pourFault_46 rfl 1 rfl ?_
              refine j_aldq (pc := 47) X 1 rfl (vp_in_nI (by omega) (by omega)) (v := tA 2) ((congrArg (tyF tA) (nI_clamp (by decide))).trans rfl) dX9_pourFault_47 ?_
              refine j_getN (pc := 48) X 7 i_X7 4 rfl rfl 2 (by decide) (by decide +kernel) rfl dX9_pourFault_48 ?_
              refine j_aload_n (pc := 51) X dX9_pourFault_51 rfl 0 rfl ?_
              refine j_get (pc := 52) X 9 i_X9 0 rfl rfl 0 (by decide) (by decide +kernel) rfl dX9_pourFault_52 ?_
              refine j_iload_n (pc := 55) X dX9_pourFault_55 rfl 3 rfl ?_
              refine j_aldq (pc := 56) X 1 rfl (vp_in_nI (by omega) (by omega)) (v := tA 0) ((congrArg (tyF tA) (nI_clamp (by decide))).trans rfl) dX9_pourFault_56 ?_
              refine j_getN (pc := 57) X 7 i_X7 2 rfl rfl 2 (by decide) (by decide +kernel) rfl dX9_pourFault_57 ?_
              refine j_icmpN_eq (pc := 60) X (a := (so 2)) (b := (so 0)) (by first | omega | exact Nat.lt_of_lt_of_le (hso _) (by decide)) (by first | omega | exact Nat.lt_of_lt_of_le (hso _) (by decide)) (tgt := 66) dX9_pourFault_60 (by decide) (fun c_60 => ?_) (fun c_60 => ?_)
              · skip
                refine j_iload (pc := 66) X dX9_pourFault_66 5 rfl ?_
                refine j_if_ge (pc := 68) X (x := m) (tgt := 74) dX9_pourFault_68 (by decide) (fun c_68 => ?_) (fun c_68 => ?_)
                · skip
                  refine j_aload_n (pc := 74) X dX9_pourFault_74 rfl 0 rfl ?_
                  refine j_get (pc := 75) X 9 i_X9 0 rfl rfl 0 (by decide) (by decide +kernel) rfl dX9_pourFault_75 ?_
                  refine j_iload_n (pc := 78) X dX9_pourFault_78 rfl 1 rfl ?_
                  refine j_aldq (pc := 79) X 1 rfl (vp_in_nI (by omega) (by omega)) (v := tA 2) ((congrArg (tyF tA) (nI_clamp (by decide))).trans rfl) dX9_pourFault_79 ?_
                  refine j_iload_n (pc := 80) X dX9_pourFault_80 rfl 2 rfl ?_
                  refine j_iload (pc := 81) X dX9_pourFault_81 5 rfl ?_
                  refine j_ciP (pc := 83) X [4] rfl (j_rVN X (b := tA 2) (As := [.int i, .int m]) (ci := 7) (rest := []) 2 (mX7_hasPlaces l G (tA 2) (nA 2) (ms 2) (so 2) (ln 2) i m ) gX9_pourFault_X7_hasPlaces_n269 rfl rfl rfl (by decide +kernel) (by decide +kernel) (by decide +kernel) (by decide +kernel) (by decide +kernel) ⟨Nat.le_of_ble_eq_true rfl, Nat.le_of_ble_eq_true rfl⟩ rfl rfl 0 rfl [4] rfl rfl rfl (Nat.le_of_ble_eq_true rfl) dX9_pourFault_83 ⟨Nat.le_of_ble_eq_true rfl, Nat.le_of_ble_eq_true rfl⟩) ?_
                  refine j_ifb_eq (pc := 86) X (B := hasP i m (ln 2)) (tgt := 109) dX9_pourFault_86 (by decide) (fun c_86 => ?_) (fun c_86 => ?_)
                  · skip
                    refine j_iconst (pc := 109) X (v := nI 0) dX9_pourFault_109 (by decide) ?_
                    refine j_istore (pc := 110) X (lv' := [(6, .int (nI 0)), (0, .ref qx), (1, .int (nI 2)), (2, .int i), (3, .int (nI 0)), (4, .int j), (5, .int m)]) dX9_pourFault_110 (by decide) rfl ?_
                    refine j_iload (pc := 112) X dX9_pourFault_112 0 rfl ?_
                    refine j_ifN_eq (pc := 114) X (a := 0) (by first | omega | exact Nat.lt_of_lt_of_le (hso _) (by decide)) (tgt := 121) dX9_pourFault_114 (by decide) (fun c_114 => ?_) (fun c_114 => ?_)
                    · skip
                      refine j_iconst (pc := 121) X (v := nI 4) dX9_pourFault_121 (by decide) ?_
                      exact j_iret (pc := 122) X dX9_pourFault_122 ⟨by first | (simp [poG, tN, cl0, cl1, cl2, cl3, c_4, c_11, c_25, c_37, c_60, c_68, c_86, c_114]; done) | exact absurd rfl c_60 | (rw [c_25] at c_37; exact absurd c_37 (by decide)), by first | (simp [poG, tN, cl0, cl1, cl2, cl3, c_4, c_11, c_25, c_37, c_60, c_68, c_86, c_114]; done) | exact absurd rfl c_60 | (rw [c_25] at c_37; exact absurd c_37 (by decide))⟩
                    · skip
                      exact absurd c_114 (by decide)
                  · skip
                    refine j_aload_n (pc := 89) X dX9_pourFault_89 rfl 0 rfl ?_
                    refine j_get (pc := 90) X 9 i_X9 0 rfl rfl 0 (by decide) (by decide +kernel) rfl dX9_pourFault_90 ?_
                    refine j_iload_n (pc := 93) X dX9_pourFault_93 rfl 3 rfl ?_
                    refine j_aldq (pc := 94) X 1 rfl (vp_in_nI (by omega) (by omega)) (v := tA 0) ((congrArg (tyF tA) (nI_clamp (by decide))).trans rfl) dX9_pourFault_94 ?_
                    refine j_iload (pc := 95) X dX9_pourFault_95 4 rfl ?_
                    refine j_iload (pc := 97) X dX9_pourFault_97 5 rfl ?_
                    refine j_ciP (pc := 99) X [2] rfl (j_rVN X (b := tA 0) (As := [.int j, .int m]) (ci := 7) (rest := []) 2 (mX7_hasPlaces l G (tA 0) (nA 0) (ms 0) (so 0) (ln 0) j m ) gX9_pourFault_X7_hasPlaces_n269 rfl rfl rfl (by decide +kernel) (by decide +kernel) (by decide +kernel) (by decide +kernel) (by decide +kernel) ⟨Nat.le_of_ble_eq_true rfl, Nat.le_of_ble_eq_true rfl⟩ rfl rfl 0 rfl [2] rfl rfl rfl (Nat.le_of_ble_eq_true rfl) dX9_pourFault_99 ⟨Nat.le_of_ble_eq_true rfl, Nat.le_of_ble_eq_true rfl⟩) ?_
                    refine j_ifb_eq (pc := 102) X (B := hasP j m (ln 0)) (tgt := 109) dX9_pourFault_102 (by decide) (fun c_102 => ?_) (fun c_102 => ?_)
                    · skip
                      refine j_iconst (pc := 109) X (v := nI 0) dX9_pourFault_109 (by decide) ?_
                      refine j_istore (pc := 110) X (lv' := [(6, .int (nI 0)), (0, .ref qx), (1, .int (nI 2)), (2, .int i), (3, .int (nI 0)), (4, .int j), (5, .int m)]) dX9_pourFault_110 (by decide) rfl ?_
                      refine j_iload (pc := 112) X dX9_pourFault_112 0 rfl ?_
                      refine j_ifN_eq (pc := 114) X (a := 0) (by first | omega | exact Nat.lt_of_lt_of_le (hso _) (by decide)) (tgt := 121) dX9_pourFault_114 (by decide) (fun c_114 => ?_) (fun c_114 => ?_)
                      · skip
                        refine j_iconst (pc := 121) X (v := nI 4) dX9_pourFault_121 (by decide) ?_
                        exact j_iret (pc := 122) X dX9_pourFault_122 ⟨by first | (simp [poG, tN, cl0, cl1, cl2, cl3, c_4, c_11, c_25, c_37, c_60, c_68, c_86, c_102, c_114]; done) | exact absurd rfl c_60 | (rw [c_25] at c_37; exact absurd c_37 (by decide)), by first | (simp [poG, tN, cl0, cl1, cl2, cl3, c_4, c_11, c_25, c_37, c_60, c_68, c_86, c_102, c_114]; done) | exact absurd rfl c_60 | (rw [c_25] at c_37; exact absurd c_37 (by decide))⟩
                      · skip
                        exact absurd c_114 (by decide)
                    · skip
                      refine j_iconst (pc := 105) X (v := nI 1) dX9_pourFault_105 (by decide) ?_
                      refine j_goto (pc := 106) X (tgt := 110) dX9_pourFault_106 (by decide) ?_
                      refine j_istore (pc := 110) X (lv' := [(6, .int (nI 1)), (0, .ref qx), (1, .int (nI 2)), (2, .int i), (3, .int (nI 0)), (4, .int j), (5, .int m)]) dX9_pourFault_110 (by decide) rfl ?_
                      refine j_iload (pc := 112) X dX9_pourFault_112 0 rfl ?_
                      refine j_ifN_eq (pc := 114) X (a := 1) (by first | omega | exact Nat.lt_of_lt_of_le (hso _) (by decide)) (tgt := 121) dX9_pourFault_114 (by decide) (fun c_114 => ?_) (fun c_114 => ?_)
                      · skip
                        exact absurd c_114 (by decide)
                      · skip
                        refine j_iconst (pc := 117) X (v := nI 0) dX9_pourFault_117 (by decide) ?_
                        refine j_goto (pc := 118) X (tgt := 122) dX9_pourFault_118 (by decide) ?_
                        exact j_iret (pc := 122) X dX9_pourFault_122 ⟨by first | (simp [poG, tN, cl0, cl1, cl2, cl3, c_4, c_11, c_25, c_37, c_60, c_68, c_86, c_102, c_114]; done) | exact absurd rfl c_60 | (rw [c_25] at c_37; exact absurd c_37 (by decide)), by first | (simp [poG, tN, cl0, cl1, cl2, cl3, c_4, c_11, c_25, c_37, c_60, c_68, c_86, c_102, c_114]; done) | exact absurd rfl c_60 | (rw [c_25] at c_37; exact absurd c_37 (by decide))⟩
                · skip
                  refine j_bipush (pc := 71) X (v := nI 6) dX9_pourFault_71 (by decide) ?_
                  exact j_iret (pc := 73) X dX9_pourFault_73 ⟨by first | (simp [poG, tN, cl0, cl1, cl2, cl3, c_4, c_11, c_25, c_37, c_60, c_68]; done) | exact absurd rfl c_60 | (rw [c_25] at c_37; exact absurd c_37 (by decide)), rfl⟩
              · skip
                refine j_bipush (pc := 63) X (v := nI 11) dX9_pourFault_63 (by decide) ?_
                exact j_iret (pc := 65) X dX9_pourFault_65 ⟨by first | (simp [poG, tN, cl0, cl1, cl2, cl3, c_4, c_11, c_25, c_37, c_60]; done) | exact absurd rfl c_60 | (rw [c_25] at c_37; exact absurd c_37 (by decide)), rfl⟩
            · skip
              refine j_iconst (pc := 40) X (v := nI 3) dX9_pourFault_40 (by decide) ?_
              exact j_iret (pc := 41) X dX9_pourFault_41 ⟨by first | (simp [poG, tN, cl0, cl1, cl2, cl3, c_4, c_11, c_25, c_37]; done) | exact absurd rfl c_60 | (rw [c_25] at c_37; exact absurd c_37 (by decide)), rfl⟩
        · skip
          refine j_aload_n (pc := 16) X dX9_pourFault_16 rfl 0 rfl ?_
          refine j_get (pc := 17) X 9 i_X9 0 rfl rfl 0 (by decide) (by decide +kernel) rfl dX9_pourFault_17 ?_
          refine j_iload_n (pc := 20) X dX9_pourFault_20 rfl 1 rfl ?_
          refine j_aldq (pc := 21) X 1 rfl (vp_in_nI (by omega) (by omega)) (v := tA 2) ((congrArg (tyF tA) (nI_clamp (by decide))).trans rfl) dX9_pourFault_21 ?_
          refine j_getN (pc := 22) X 7 i_X7 4 rfl rfl 1 (by decide) (by decide +kernel) rfl dX9_pourFault_22 ?_
          refine j_ifb_ne (pc := 25) X (B := ms 2) (tgt := 40) dX9_pourFault_25 (by decide) (fun c_25 => ?_) (fun c_25 => ?_)
          · skip
            refine j_iconst (pc := 40) X (v := nI 3) dX9_pourFault_40 (by decide) ?_
            exact j_iret (pc := 41) X dX9_pourFault_41 ⟨by first | (simp [poG, tN, cl0, cl1, cl2, cl3, c_4, c_11, c_25]; done) | exact absurd rfl c_60 | (rw [c_25] at c_37; exact absurd c_37 (by decide)), rfl⟩
          · skip
            refine j_aload_n (pc := 28) X dX9_pourFault_28 rfl 0 rfl ?_
            refine j_get (pc := 29) X 9 i_X9 0 rfl rfl 0 (by decide) (by decide +kernel) rfl dX9_pourFault_29 ?_
            refine j_iload_n (pc := 32) X dX9_pourFault_32 rfl 3 rfl ?_
            refine j_aldq (pc := 33) X 1 rfl (vp_in_nI (by omega) (by omega)) (v := tA 1) ((congrArg (tyF tA) (nI_clamp (by decide))).trans rfl) dX9_pourFault_33 ?_
            refine j_getN (pc := 34) X 7 i_X7 3 rfl rfl 1 (by decide) (by decide +kernel) rfl dX9_pourFault_34 ?_
            refine j_ifb_eq (pc := 37) X (B := ms 1) (tgt := 42) dX9_pourFault_37 (by decide) (fun c_37 => ?_) (fun c_37 => ?_)
            · skip
              refine j_aload_n (pc := 42) X dX9_pourFault_42 rfl 0 rfl ?_
              refine j_get (pc := 43) X 9 i_X9 0 rfl rfl 0 (by decide) (by decide +kernel) rfl dX9_pourFault_43 ?_
              refine j_iload_n (pc := 46) X dX9_pourFault_46 rfl 1 rfl ?_
              refine j_aldq (pc := 47) X 1 rfl (vp_in_nI (by omega) (by omega)) (v := tA 2) ((congrArg (tyF tA) (nI_clamp (by decide))).trans rfl) dX9_pourFault_47 ?_
              refine j_getN (pc := 48) X 7 i_X7 4 rfl rfl 2 (by decide) (by decide +kernel) rfl dX9_pourFault_48 ?_
              refine j_aload_n (pc := 51) X dX9_pourFault_51 rfl 0 rfl ?_
              refine j_get (pc := 52) X 9 i_X9 0 rfl rfl 0 (by decide) (by decide +kernel) rfl dX9_pourFault_52 ?_
              refine j_iload_n (pc := 55) X dX9_pourFault_55 rfl 3 rfl ?_
              refine j_aldq (pc := 56) X 1 rfl (vp_in_nI (by omega) (by omega)) (v := tA 1) ((congrArg (tyF tA) (nI_clamp (by decide))).trans rfl) dX9_pourFault_56 ?_
              refine j_getN (pc := 57) X 7 i_X7 3 rfl rfl 2 (by decide) (by decide +kernel) rfl dX9_pourFault_57 ?_
              refine j_icmpN_eq (pc := 60) X (a := (so 2)) (b := (so 1)) (by first | omega | exact Nat.lt_of_lt_of_le (hso _) (by decide)) (by first | omega | exact Nat.lt_of_lt_of_le (hso _) (by decide)) (tgt := 66) dX9_pourFault_60 (by decide) (fun c_60 => ?_) (fun c_60 => ?_)
              · skip
                refine j_iload (pc := 66) X dX9_pourFault_66 5 rfl ?_
                refine j_if_ge (pc := 68) X (x := m) (tgt := 74) dX9_pourFault_68 (by decide) (fun c_68 => ?_) (fun c_68 => ?_)
                · skip
                  refine j_aload_n (pc := 74) X dX9_pourFault_74 rfl 0 rfl ?_
                  refine j_get (pc := 75) X 9 i_X9 0 rfl rfl 0 (by decide) (by decide +kernel) rfl dX9_pourFault_75 ?_
                  refine j_iload_n (pc := 78) X dX9_pourFault_78 rfl 1 rfl ?_
                  refine j_aldq (pc := 79) X 1 rfl (vp_in_nI (by omega) (by omega)) (v := tA 2) ((congrArg (tyF tA) (nI_clamp (by decide))).trans rfl) dX9_pourFault_79 ?_
                  refine j_iload_n (pc := 80) X dX9_pourFault_80 rfl 2 rfl ?_
                  refine j_iload (pc := 81) X dX9_pourFault_81 5 rfl ?_
                  refine j_ciP (pc := 83) X [4] rfl (j_rVN X (b := tA 2) (As := [.int i, .int m]) (ci := 7) (rest := []) 2 (mX7_hasPlaces l G (tA 2) (nA 2) (ms 2) (so 2) (ln 2) i m ) gX9_pourFault_X7_hasPlaces_n269 rfl rfl rfl (by decide +kernel) (by decide +kernel) (by decide +kernel) (by decide +kernel) (by decide +kernel) ⟨Nat.le_of_ble_eq_true rfl, Nat.le_of_ble_eq_true rfl⟩ rfl rfl 0 rfl [4] rfl rfl rfl (Nat.le_of_ble_eq_true rfl) dX9_pourFault_83 ⟨Nat.le_of_ble_eq_true rfl, Nat.le_of_ble_eq_true rfl⟩) ?_
                  refine j_ifb_eq (pc := 86) X (B := hasP i m (ln 2)) (tgt := 109) dX9_pourFault_86 (by decide) (fun c_86 => ?_) (fun c_86 => ?_)
                  · skip
                    refine j_iconst (pc := 109) X (v := nI 0) dX9_pourFault_109 (by decide) ?_
                    refine j_istore (pc := 110) X (lv' := [(6, .int (nI 0)), (0, .ref qx), (1, .int (nI 2)), (2, .int i), (3, .int (nI 1)), (4, .int j), (5, .int m)]) dX9_pourFault_110 (by decide) rfl ?_
                    refine j_iload (pc := 112) X dX9_pourFault_112 0 rfl ?_
                    refine j_ifN_eq (pc := 114) X (a := 0) (by first | omega | exact Nat.lt_of_lt_of_le (hso _) (by decide)) (tgt := 121) dX9_pourFault_114 (by decide) (fun c_114 => ?_) (fun c_114 => ?_)
                    · skip
                      refine j_iconst (pc := 121) X (v := nI 4) dX9_pourFault_121 (by decide) ?_
                      exact j_iret (pc := 122) X dX9_pourFault_122 ⟨by first | (simp [poG, tN, cl0, cl1, cl2, cl3, c_4, c_11, c_25, c_37, c_60, c_68, c_86, c_114]; done) | exact absurd rfl c_60 | (rw [c_25] at c_37; exact absurd c_37 (by decide)), by first | (simp [poG, tN, cl0, cl1, cl2, cl3, c_4, c_11, c_25, c_37, c_60, c_68, c_86, c_114]; done) | exact absurd rfl c_60 | (rw [c_25] at c_37; exact absurd c_37 (by decide))⟩
                    · skip
                      exact absurd c_114 (by decide)
                  · skip
                    refine j_aload_n (pc := 89) X dX9_pourFault_89 rfl 0 rfl ?_
                    refine j_get (pc := 90) X 9 i_X9 0 rfl rfl 0 (by decide) (by decide +kernel) rfl dX9_pourFault_90 ?_
                    refine j_iload_n (pc := 93) X dX9_pourFault_93 rfl 3 rfl ?_
                    refine j_aldq (pc := 94) X 1 rfl (vp_in_nI (by omega) (by omega)) (v := tA 1) ((congrArg (tyF tA) (nI_clamp (by decide))).trans rfl) dX9_pourFault_94 ?_
                    refine j_iload (pc := 95) X dX9_pourFault_95 4 rfl ?_
                    refine j_iload (pc := 97) X dX9_pourFault_97 5 rfl ?_
                    refine j_ciP (pc := 99) X [3] rfl (j_rVN X (b := tA 1) (As := [.int j, .int m]) (ci := 7) (rest := []) 2 (mX7_hasPlaces l G (tA 1) (nA 1) (ms 1) (so 1) (ln 1) j m ) gX9_pourFault_X7_hasPlaces_n269 rfl rfl rfl (by decide +kernel) (by decide +kernel) (by decide +kernel) (by decide +kernel) (by decide +kernel) ⟨Nat.le_of_ble_eq_true rfl, Nat.le_of_ble_eq_true rfl⟩ rfl rfl 0 rfl [3] rfl rfl rfl (Nat.le_of_ble_eq_true rfl) dX9_pourFault_99 ⟨Nat.le_of_ble_eq_true rfl, Nat.le_of_ble_eq_true rfl⟩) ?_
                    refine j_ifb_eq (pc := 102) X (B := hasP j m (ln 1)) (tgt := 109) dX9_pourFault_102 (by decide) (fun c_102 => ?_) (fun c_102 => ?_)
                    · skip
                      refine j_iconst (pc := 109) X (v := nI 0) dX9_pourFault_109 (by decide) ?_
                      refine j_istore (pc := 110) X (lv' := [(6, .int (nI 0)), (0, .ref qx), (1, .int (nI 2)), (2, .int i), (3, .int (nI 1)), (4, .int j), (5, .int m)]) dX9_pourFault_110 (by decide) rfl ?_
                      refine j_iload (pc := 112) X dX9_pourFault_112 0 rfl ?_
                      refine j_ifN_eq (pc := 114) X (a := 0) (by first | omega | exact Nat.lt_of_lt_of_le (hso _) (by decide)) (tgt := 121) dX9_pourFault_114 (by decide) (fun c_114 => ?_) (fun c_114 => ?_)
                      · skip
                        refine j_iconst (pc := 121) X (v := nI 4) dX9_pourFault_121 (by decide) ?_
                        exact j_iret (pc := 122) X dX9_pourFault_122 ⟨by first | (simp [poG, tN, cl0, cl1, cl2, cl3, c_4, c_11, c_25, c_37, c_60, c_68, c_86, c_102, c_114]; done) | exact absurd rfl c_60 | (rw [c_25] at c_37; exact absurd c_37 (by decide)), by first | (simp [poG, tN, cl0, cl1, cl2, cl3, c_4, c_11, c_25, c_37, c_60, c_68, c_86, c_102, c_114]; done) | exact absurd rfl c_60 | (rw [c_25] at c_37; exact absurd c_37 (by decide))⟩
                      · skip
                        exact absurd c_114 (by decide)
                    · skip
                      refine j_iconst (pc := 105) X (v := nI 1) dX9_pourFault_105 (by decide) ?_
                      refine j_goto (pc := 106) X (tgt := 110) dX9_pourFault_106 (by decide) ?_
                      refine j_istore (pc := 110) X (lv' := [(6, .int (nI 1)), (0, .ref qx), (1, .int (nI 2)), (2, .int i), (3, .int (nI 1)), (4, .int j), (5, .int m)]) dX9_pourFault_110 (by decide) rfl ?_
                      refine j_iload (pc := 112) X dX9_pourFault_112 0 rfl ?_
                      refine j_ifN_eq (pc := 114) X (a := 1) (by first | omega | exact Nat.lt_of_lt_of_le (hso _) (by decide)) (tgt := 121) dX9_pourFault_114 (by decide) (fun c_114 => ?_) (fun c_114 => ?_)
                      · skip
                        exact absurd c_114 (by decide)
                      · skip
                        refine j_iconst (pc := 117) X (v := nI 0) dX9_pourFault_117 (by decide) ?_
                        refine j_goto (pc := 118) X (tgt := 122) dX9_pourFault_118 (by decide) ?_
                        exact j_iret (pc := 122) X dX9_pourFault_122 ⟨by first | (simp [poG, tN, cl0, cl1, cl2, cl3, c_4, c_11, c_25, c_37, c_60, c_68, c_86, c_102, c_114]; done) | exact absurd rfl c_60 | (rw [c_25] at c_37; exact absurd c_37 (by decide)), by first | (simp [poG, tN, cl0, cl1, cl2, cl3, c_4, c_11, c_25, c_37, c_60, c_68, c_86, c_102, c_114]; done) | exact absurd rfl c_60 | (rw [c_25] at c_37; exact absurd c_37 (by decide))⟩
                · skip
                  refine j_bipush (pc := 71) X (v := nI 6) dX9_pourFault_71 (by decide) ?_
                  exact j_iret (pc := 73) X dX9_pourFault_73 ⟨by first | (simp [poG, tN, cl0, cl1, cl2, cl3, c_4, c_11, c_25, c_37, c_60, c_68]; done) | exact absurd rfl c_60 | (rw [c_25] at c_37; exact absurd c_37 (by decide)), rfl⟩
              · skip
                refine j_bipush (pc := 63) X (v := nI 11) dX9_pourFault_63 (by decide) ?_
                exact j_iret (pc := 65) X dX9_pourFault_65 ⟨by first | (simp [poG, tN, cl0, cl1, cl2, cl3, c_4, c_11, c_25, c_37, c_60]; done) | exact absurd rfl c_60 | (rw [c_25] at c_37; exact absurd c_37 (by decide)), rfl⟩
            · skip
              refine j_iconst (pc := 40) X (v := nI 3) dX9_pourFault_40 (by decide) ?_
              exact j_iret (pc := 41) X dX9_pourFault_41 ⟨by first | (simp [poG, tN, cl0, cl1, cl2, cl3, c_4, c_11, c_25, c_37]; done) | exact absurd rfl c_60 | (rw [c_25] at c_37; exact absurd c_37 (by decide)), rfl⟩
        · skip
          refine j_aload_n (pc := 16) X dX9_pourFault_16 rfl 0 rfl ?_
          refine j_get (pc := 17) X 9 i_X9 0 rfl rfl 0 (by decide) (by decide +kernel) rfl dX9_pourFault_17 ?_
          refine j_iload_n (pc := 20) X dX9_pourFault_20 rfl 1 rfl ?_
          refine j_aldq (pc := 21) X 1 rfl (vp_in_nI (by omega) (by omega)) (v := tA 2) ((congrArg (tyF tA) (nI_clamp (by decide))).trans rfl) dX9_pourFault_21 ?_
          refine j_getN (pc := 22) X 7 i_X7 4 rfl rfl 1 (by decide) (by decide +kernel) rfl dX9_pourFault_22 ?_
          refine j_ifb_ne (pc := 25) X (B := ms 2) (tgt := 40) dX9_pourFault_25 (by decide) (fun c_25 => ?_) (fun c_25 => ?_)
          · skip
            refine j_iconst (pc := 40) X (v := nI 3) dX9_pourFault_40 (by decide) ?_
            exact j_iret (pc := 41) X dX9_pourFault_41 ⟨by first | (simp [poG, tN, cl0, cl1, cl2, cl3, c_4, c_11, c_25]; done) | exact absurd rfl c_60 | (rw [c_25] at c_37; exact absurd c_37 (by decide)), rfl⟩
          · skip
            refine j_aload_n (pc := 28) X dX9_pourFault_28 rfl 0 rfl ?_
            refine j_get (pc := 29) X 9 i_X9 0 rfl rfl 0 (by decide) (by decide +kernel) rfl dX9_pourFault_29 ?_
            refine j_iload_n (pc := 32) X dX9_pourFault_32 rfl 3 rfl ?_
            refine j_aldq (pc := 33) X 1 rfl (vp_in_nI (by omega) (by omega)) (v := tA 2) ((congrArg (tyF tA) (nI_clamp (by decide))).trans rfl) dX9_pourFault_33 ?_
            refine j_getN (pc := 34) X 7 i_X7 4 rfl rfl 1 (by decide) (by decide +kernel) rfl dX9_pourFault_34 ?_
            refine j_ifb_eq (pc := 37) X (B := ms 2) (tgt := 42) dX9_pourFault_37 (by decide) (fun c_37 => ?_) (fun c_37 => ?_)
            · skip
              refine j_aload_n (pc := 42) X dX9_pourFault_42 rfl 0 rfl ?_
              refine j_get (pc := 43) X 9 i_X9 0 rfl rfl 0 (by decide) (by decide +kernel) rfl dX9_pourFault_43 ?_
              refine j_iload_n (pc := 46) X dX9_pourFault_46 rfl 1 rfl ?_
              refine j_aldq (pc := 47) X 1 rfl (vp_in_nI (by omega) (by omega)) (v := tA 2) ((congrArg (tyF tA) (nI_clamp (by decide))).trans rfl) dX9_pourFault_47 ?_
              refine j_getN (pc := 48) X 7 i_X7 4 rfl rfl 2 (by decide) (by decide +kernel) rfl dX9_pourFault_48 ?_
              refine j_aload_n (pc := 51) X dX9_pourFault_51 rfl 0 rfl ?_
              refine j_get (pc := 52) X 9 i_X9 0 rfl rfl 0 (by decide) (by decide +kernel) rfl dX9_pourFault_52 ?_
              refine j_iload_n (pc := 55) X dX9_pourFault_55 rfl 3 rfl ?_
              refine j_aldq (pc := 56) X 1 rfl (vp_in_nI (by omega) (by omega)) (v := tA 2) ((congrArg (tyF tA) (nI_clamp (by decide))).trans rfl) dX9_pourFault_56 ?_
              refine j_getN (pc := 57) X 7 i_X7 4 rfl rfl 2 (by decide) (by decide +kernel) rfl dX9_pourFault_57 ?_
              refine j_icmpN_eq (pc := 60) X (a := (so 2)) (b := (so 2)) (by first | omega | exact Nat.lt_of_lt_of_le (hso _) (by decide)) (by first | omega | exact Nat.lt_of_lt_of_le (hso _) (by decide)) (tgt := 66) dX9_pourFault_60 (by decide) (fun c_60 => ?_) (fun c_60 => ?_)
              · skip
                refine j_iload (pc := 66) X dX9_pourFault_66 5 rfl ?_
                refine j_if_ge (pc := 68) X (x := m) (tgt := 74) dX9_pourFault_68 (by decide) (fun c_68 => ?_) (fun c_68 => ?_)
                · skip
                  refine j_aload_n (pc := 74) X dX9_pourFault_74 rfl 0 rfl ?_
                  refine j_get (pc := 75) X 9 i_X9 0 rfl rfl 0 (by decide) (by decide +kernel) rfl dX9_pourFault_75 ?_
                  refine j_iload_n (pc := 78) X dX9_pourFault_78 rfl 1 rfl ?_
                  refine j_aldq (pc := 79) X 1 rfl (vp_in_nI (by omega) (by omega)) (v := tA 2) ((congrArg (tyF tA) (nI_clamp (by decide))).trans rfl) dX9_pourFault_79 ?_
                  refine j_iload_n (pc := 80) X dX9_pourFault_80 rfl 2 rfl ?_
                  refine j_iload (pc := 81) X dX9_pourFault_81 5 rfl ?_
                  refine j_ciP (pc := 83) X [4] rfl (j_rVN X (b := tA 2) (As := [.int i, .int m]) (ci := 7) (rest := []) 2 (mX7_hasPlaces l G (tA 2) (nA 2) (ms 2) (so 2) (ln 2) i m ) gX9_pourFault_X7_hasPlaces_n269 rfl rfl rfl (by decide +kernel) (by decide +kernel) (by decide +kernel) (by decide +kernel) (by decide +kernel) ⟨Nat.le_of_ble_eq_true rfl, Nat.le_of_ble_eq_true rfl⟩ rfl rfl 0 rfl [4] rfl rfl rfl (Nat.le_of_ble_eq_true rfl) dX9_pourFault_83 ⟨Nat.le_of_ble_eq_true rfl, Nat.le_of_ble_eq_true rfl⟩) ?_
                  refine j_ifb_eq (pc := 86) X (B := hasP i m (ln 2)) (tgt := 109) dX9_pourFault_86 (by decide) (fun c_86 => ?_) (fun c_86 => ?_)
                  · skip
                    refine j_iconst (pc := 109) X (v := nI 0) dX9_pourFault_109 (by decide) ?_
                    refine j_istore (pc := 110) X (lv' := [(6, .int (nI 0)), (0, .ref qx), (1, .int (nI 2)), (2, .int i), (3, .int (nI 2)), (4, .int j), (5, .int m)]) dX9_pourFault_110 (by decide) rfl ?_
                    refine j_iload (pc := 112) X dX9_pourFault_112 0 rfl ?_
                    refine j_ifN_eq (pc := 114) X (a := 0) (by first | omega | exact Nat.lt_of_lt_of_le (hso _) (by decide)) (tgt := 121) dX9_pourFault_114 (by decide) (fun c_114 => ?_) (fun c_114 => ?_)
                    · skip
                      refine j_iconst (pc := 121) X (v := nI 4) dX9_pourFault_121 (by decide) ?_
                      exact j_iret (pc := 122) X dX9_pourFault_122 ⟨by first | (simp [poG, tN, cl0, cl1, cl2, cl3, c_4, c_11, c_25, c_37, c_60, c_68, c_86, c_114]; done) | exact absurd rfl c_60 | (rw [c_25] at c_37; exact absurd c_37 (by decide)), by first | (simp [poG, tN, cl0, cl1, cl2, cl3, c_4, c_11, c_25, c_37, c_60, c_68, c_86, c_114]; done) | exact absurd rfl c_60 | (rw [c_25] at c_37; exact absurd c_37 (by decide))⟩
                    · skip
                      exact absurd c_114 (by decide)
                  · skip
                    refine j_aload_n (pc := 89) X dX9_pourFault_89 rfl 0 rfl ?_
                    refine j_get (pc := 90) X 9 i_X9 0 rfl rfl 0 (by decide) (by decide +kernel) rfl dX9_pourFault_90 ?_
                    refine j_iload_n (pc := 93) X dX9_pourFault_93 rfl 3 rfl ?_
                    refine j_aldq (pc := 94) X 1 rfl (vp_in_nI (by omega) (by omega)) (v := tA 2) ((congrArg (tyF tA) (nI_clamp (by decide))).trans rfl) dX9_pourFault_94 ?_
                    refine j_iload (pc := 95) X dX9_pourFault_95 4 rfl ?_
                    refine j_iload (pc := 97) X dX9_pourFault_97 5 rfl ?_
                    refine j_ciP (pc := 99) X [4] rfl (j_rVN X (b := tA 2) (As := [.int j, .int m]) (ci := 7) (rest := []) 2 (mX7_hasPlaces l G (tA 2) (nA 2) (ms 2) (so 2) (ln 2) j m ) gX9_pourFault_X7_hasPlaces_n269 rfl rfl rfl (by decide +kernel) (by decide +kernel) (by decide +kernel) (by decide +kernel) (by decide +kernel) ⟨Nat.le_of_ble_eq_true rfl, Nat.le_of_ble_eq_true rfl⟩ rfl rfl 0 rfl [4] rfl rfl rfl (Nat.le_of_ble_eq_true rfl) dX9_pourFault_99 ⟨Nat.le_of_ble_eq_true rfl, Nat.le_of_ble_eq_true rfl⟩) ?_
                    refine j_ifb_eq (pc := 102) X (B := hasP j m (ln 2)) (tgt := 109) dX9_pourFault_102 (by decide) (fun c_102 => ?_) (fun c_102 => ?_)
                    · skip
                      refine j_iconst (pc := 109) X (v := nI 0) dX9_pourFault_109 (by decide) ?_
                      refine j_istore (pc := 110) X (lv' := [(6, .int (nI 0)), (0, .ref qx), (1, .int (nI 2)), (2, .int i), (3, .int (nI 2)), (4, .int j), (5, .int m)]) dX9_pourFault_110 (by decide) rfl ?_
                      refine j_iload (pc := 112) X dX9_pourFault_112 0 rfl ?_
                      refine j_ifN_eq (pc := 114) X (a := 0) (by first | omega | exact Nat.lt_of_lt_of_le (hso _) (by decide)) (tgt := 121) dX9_pourFault_114 (by decide) (fun c_114 => ?_) (fun c_114 => ?_)
                      · skip
                        refine j_iconst (pc := 121) X (v := nI 4) dX9_pourFault_121 (by decide) ?_
                        exact j_iret (pc := 122) X dX9_pourFault_122 ⟨by first | (simp [poG, tN, cl0, cl1, cl2, cl3, c_4, c_11, c_25, c_37, c_60, c_68, c_86, c_102, c_114]; done) | exact absurd rfl c_60 | (rw [c_25] at c_37; exact absurd c_37 (by decide)), by first | (simp [poG, tN, cl0, cl1, cl2, cl3, c_4, c_11, c_25, c_37, c_60, c_68, c_86, c_102, c_114]; done) | exact absurd rfl c_60 | (rw [c_25] at c_37; exact absurd c_37 (by decide))⟩
                      · skip
                        exact absurd c_114 (by decide)
                    · skip
                      refine j_iconst (pc := 105) X (v := nI 1) dX9_pourFault_105 (by decide) ?_
                      refine j_goto (pc := 106) X (tgt := 110) dX9_pourFault_106 (by decide) ?_
                      refine j_istore (pc := 110) X (lv' := [(6, .int (nI 1)), (0, .ref qx), (1, .int (nI 2)), (2, .int i), (3, .int (nI 2)), (4, .int j), (5, .int m)]) dX9_pourFault_110 (by decide) rfl ?_
                      refine j_iload (pc := 112) X dX9_pourFault_112 0 rfl ?_
                      refine j_ifN_eq (pc := 114) X (a := 1) (by first | omega | exact Nat.lt_of_lt_of_le (hso _) (by decide)) (tgt := 121) dX9_pourFault_114 (by decide) (fun c_114 => ?_) (fun c_114 => ?_)
                      · skip
                        exact absurd c_114 (by decide)
                      · skip
                        refine j_iconst (pc := 117) X (v := nI 0) dX9_pourFault_117 (by decide) ?_
                        refine j_goto (pc := 118) X (tgt := 122) dX9_pourFault_118 (by decide) ?_
                        exact j_iret (pc := 122) X dX9_pourFault_122 ⟨by first | (simp [poG, tN, cl0, cl1, cl2, cl3, c_4, c_11, c_25, c_37, c_60, c_68, c_86, c_102, c_114]; done) | exact absurd rfl c_60 | (rw [c_25] at c_37; exact absurd c_37 (by decide)), by first | (simp [poG, tN, cl0, cl1, cl2, cl3, c_4, c_11, c_25, c_37, c_60, c_68, c_86, c_102, c_114]; done) | exact absurd rfl c_60 | (rw [c_25] at c_37; exact absurd c_37 (by decide))⟩
                · skip
                  refine j_bipush (pc := 71) X (v := nI 6) dX9_pourFault_71 (by decide) ?_
                  exact j_iret (pc := 73) X dX9_pourFault_73 ⟨by first | (simp [poG, tN, cl0, cl1, cl2, cl3, c_4, c_11, c_25, c_37, c_60, c_68]; done) | exact absurd rfl c_60 | (rw [c_25] at c_37; exact absurd c_37 (by decide)), rfl⟩
              · skip
                refine j_bipush (pc := 63) X (v := nI 11) dX9_pourFault_63 (by decide) ?_
                exact j_iret (pc := 65) X dX9_pourFault_65 ⟨by first | (simp [poG, tN, cl0, cl1, cl2, cl3, c_4, c_11, c_25, c_37, c_60]; done) | exact absurd rfl c_60 | (rw [c_25] at c_37; exact absurd c_37 (by decide)), rfl⟩
            · skip
              refine j_iconst (pc := 40) X (v := nI 3) dX9_pourFault_40 (by decide) ?_
              exact j_iret (pc := 41) X dX9_pourFault_41 ⟨by first | (simp [poG, tN, cl0, cl1, cl2, cl3, c_4, c_11, c_25, c_37]; done) | exact absurd rfl c_60 | (rw [c_25] at c_37; exact absurd c_37 (by decide)), rfl⟩
        · skip
          refine j_aload_n (pc := 16) X dX9_pourFault_16 rfl 0 rfl ?_
          refine j_get (pc := 17) X 9 i_X9 0 rfl rfl 0 (by decide) (by decide +kernel) rfl dX9_pourFault_17 ?_
          refine j_iload_n (pc := 20) X dX9_pourFault_20 rfl 1 rfl ?_
          refine j_aldq (pc := 21) X 1 rfl (vp_in_nI (by omega) (by omega)) (v := tA 2) ((congrArg (tyF tA) (nI_clamp (by decide))).trans rfl) dX9_pourFault_21 ?_
          refine j_getN (pc := 22) X 7 i_X7 4 rfl rfl 1 (by decide) (by decide +kernel) rfl dX9_pourFault_22 ?_
          refine j_ifb_ne (pc := 25) X (B := ms 2) (tgt := 40) dX9_pourFault_25 (by decide) (fun c_25 => ?_) (fun c_25 => ?_)
          · skip
            refine j_iconst (pc := 40) X (v := nI 3) dX9_pourFault_40 (by decide) ?_
            exact j_iret (pc := 41) X dX9_pourFault_41 ⟨by first | (simp [poG, tN, cl0, cl1, cl2, cl3, c_4, c_11, c_25]; done) | exact absurd rfl c_60 | (rw [c_25] at c_37; exact absurd c_37 (by decide)), rfl⟩
          · skip
            refine j_aload_n (pc := 28) X dX9_pourFault_28 rfl 0 rfl ?_
            refine j_get (pc := 29) X 9 i_X9 0 rfl rfl 0 (by decide) (by decide +kernel) rfl dX9_pourFault_29 ?_
            refine j_iload_n (pc := 32) X dX9_pourFault_32 rfl 3 rfl ?_
            refine j_aldq (pc := 33) X 1 rfl (vp_in_nI (by omega) (by omega)) (v := tA 3) ((congrArg (tyF tA) (nI_clamp (by decide))).trans rfl) dX9_pourFault_33 ?_
            refine j_getN (pc := 34) X 7 i_X7 5 rfl rfl 1 (by decide) (by decide +kernel) rfl dX9_pourFault_34 ?_
            refine j_ifb_eq (pc := 37) X (B := ms 3) (tgt := 42) dX9_pourFault_37 (by decide) (fun c_37 => ?_) (fun c_37 => ?_)
            · skip
              refine j_aload_n (pc := 42) X dX9_pourFault_42 rfl 0 rfl ?_
              refine j_get (pc := 43) X 9 i_X9 0 rfl rfl 0 (by decide) (by decide +kernel) rfl dX9_pourFault_43 ?_
              refine j_iload_n (pc := 46) X dX9_pourFault_46 rfl 1 rfl ?_
              refine j_aldq (pc := 47) X 1 rfl (vp_in_nI (by omega) (by omega)) (v := tA 2) ((congrArg (tyF tA) (nI_clamp (by decide))).trans rfl) dX9_pourFault_47 ?_
              refine j_getN (pc := 48) X 7 i_X7 4 rfl rfl 2 (by decide) (by decide +kernel) rfl dX9_pourFault_48 ?_
              refine j_aload_n (pc := 51) X dX9_pourFault_51 rfl 0 rfl ?_
              refine j_get (pc := 52) X 9 i_X9 0 rfl rfl 0 (by decide) (by decide +kernel) rfl dX9_pourFault_52 ?_
              refine j_iload_n (pc := 55) X dX9_pourFault_55 rfl 3 rfl ?_
              refine j_aldq (pc := 56) X 1 rfl (vp_in_nI (by omega) (by omega)) (v := tA 3) ((congrArg (tyF tA) (nI_clamp (by decide))).trans rfl) dX9_pourFault_56 ?_
              refine j_getN (pc := 57) X 7 i_X7 5 rfl rfl 2 (by decide) (by decide +kernel) rfl dX9_pourFault_57 ?_
              refine j_icmpN_eq (pc := 60) X (a := (so 2)) (b := (so 3)) (by first | omega | exact Nat.lt_of_lt_of_le (hso _) (by decide)) (by first | omega | exact Nat.lt_of_lt_of_le (hso _) (by decide)) (tgt := 66) dX9_pourFault_60 (by decide) (fun c_60 => ?_) (fun c_60 => ?_)
              · skip
                refine j_iload (pc := 66) X dX9_pourFault_66 5 rfl ?_
                refine j_if_ge (pc := 68) X (x := m) (tgt := 74) dX9_pourFault_68 (by decide) (fun c_68 => ?_) (fun c_68 => ?_)
                · skip
                  refine j_aload_n (pc := 74) X dX9_pourFault_74 rfl 0 rfl ?_
                  refine j_get (pc := 75) X 9 i_X9 0 rfl rfl 0 (by decide) (by decide +kernel) rfl dX9_pourFault_75 ?_
                  refine j_iload_n (pc := 78) X dX9_pourFault_78 rfl 1 rfl ?_
                  refine j_aldq (pc := 79) X 1 rfl (vp_in_nI (by omega) (by omega)) (v := tA 2) ((congrArg (tyF tA) (nI_clamp (by decide))).trans rfl) dX9_pourFault_79 ?_
                  refine j_iload_n (pc := 80) X dX9_pourFault_80 rfl 2 rfl ?_
                  refine j_iload (pc := 81) X dX9_pourFault_81 5 rfl ?_
                  refine j_ciP (pc := 83) X [4] rfl (j_rVN X (b := tA 2) (As := [.int i, .int m]) (ci := 7) (rest := []) 2 (mX7_hasPlaces l G (tA 2) (nA 2) (ms 2) (so 2) (ln 2) i m ) gX9_pourFault_X7_hasPlaces_n269 rfl rfl rfl (by decide +kernel) (by decide +kernel) (by decide +kernel) (by decide +kernel) (by decide +kernel) ⟨Nat.le_of_ble_eq_true rfl, Nat.le_of_ble_eq_true rfl⟩ rfl rfl 0 rfl [4] rfl rfl rfl (Nat.le_of_ble_eq_true rfl) dX9_pourFault_83 ⟨Nat.le_of_ble_eq_true rfl, Nat.le_of_ble_eq_true rfl⟩) ?_
                  refine j_ifb_eq (pc := 86) X (B := hasP i m (ln 2)) (tgt := 109) dX9_pourFault_86 (by decide) (fun c_86 => ?_) (fun c_86 => ?_)
                  · skip
                    refine j_iconst (pc := 109) X (v := nI 0) dX9_pourFault_109 (by decide) ?_
                    refine j_istore (pc := 110) X (lv' := [(6, .int (nI 0)), (0, .ref qx), (1, .int (nI 2)), (2, .int i), (3, .int (nI 3)), (4, .int j), (5, .int m)]) dX9_pourFault_110 (by decide) rfl ?_
                    refine j_iload (pc := 112) X dX9_pourFault_112 0 rfl ?_
                    refine j_ifN_eq (pc := 114) X (a := 0) (by first | omega | exact Nat.lt_of_lt_of_le (hso _) (by decide)) (tgt := 121) dX9_pourFault_114 (by decide) (fun c_114 => ?_) (fun c_114 => ?_)
                    · skip
                      refine j_iconst (pc := 121) X (v := nI 4) dX9_pourFault_121 (by decide) ?_
                      exact j_iret (pc := 122) X dX9_pourFault_122 ⟨by first | (simp [poG, tN, cl0, cl1, cl2, cl3, c_4, c_11, c_25, c_37, c_60, c_68, c_86, c_114]; done) | exact absurd rfl c_60 | (rw [c_25] at c_37; exact absurd c_37 (by decide)), by first | (simp [poG, tN, cl0, cl1, cl2, cl3, c_4, c_11, c_25, c_37, c_60, c_68, c_86, c_114]; done) | exact absurd rfl c_60 | (rw [c_25] at c_37; exact absurd c_37 (by decide))⟩
                    · skip
                      exact absurd c_114 (by decide)
                  · skip
                    refine j_aload_n (pc := 89) X dX9_pourFault_89 rfl 0 rfl ?_
                    refine j_get (pc := 90) X 9 i_X9 0 rfl rfl 0 (by decide) (by decide +kernel) rfl dX9_pourFault_90 ?_
                    refine j_iload_n (pc := 93) X dX9_pourFault_93 rfl 3 rfl ?_
                    refine j_aldq (pc := 94) X 1 rfl (vp_in_nI (by omega) (by omega)) (v := tA 3) ((congrArg (tyF tA) (nI_clamp (by decide))).trans rfl) dX9_pourFault_94 ?_
                    refine j_iload (pc := 95) X dX9_pourFault_95 4 rfl ?_
                    refine j_iload (pc := 97) X dX9_pourFault_97 5 rfl ?_
                    refine j_ciP (pc := 99) X [5] rfl (j_rVN X (b := tA 3) (As := [.int j, .int m]) (ci := 7) (rest := []) 2 (mX7_hasPlaces l G (tA 3) (nA 3) (ms 3) (so 3) (ln 3) j m ) gX9_pourFault_X7_hasPlaces_n269 rfl rfl rfl (by decide +kernel) (by decide +kernel) (by decide +kernel) (by decide +kernel) (by decide +kernel) ⟨Nat.le_of_ble_eq_true rfl, Nat.le_of_ble_eq_true rfl⟩ rfl rfl 0 rfl [5] rfl rfl rfl (Nat.le_of_ble_eq_true rfl) dX9_pourFault_99 ⟨Nat.le_of_ble_eq_true rfl, Nat.le_of_ble_eq_true rfl⟩) ?_
                    refine j_ifb_eq (pc := 102) X (B := hasP j m (ln 3)) (tgt := 109) dX9_pourFault_102 (by decide) (fun c_102 => ?_) (fun c_102 => ?_)
                    · skip
                      refine j_iconst (pc := 109) X (v := nI 0) dX9_pourFault_109 (by decide) ?_
                      refine j_istore (pc := 110) X (lv' := [(6, .int (nI 0)), (0, .ref qx), (1, .int (nI 2)), (2, .int i), (3, .int (nI 3)), (4, .int j), (5, .int m)]) dX9_pourFault_110 (by decide) rfl ?_
                      refine j_iload (pc := 112) X dX9_pourFault_112 0 rfl ?_
                      refine j_ifN_eq (pc := 114) X (a := 0) (by first | omega | exact Nat.lt_of_lt_of_le (hso _) (by decide)) (tgt := 121) dX9_pourFault_114 (by decide) (fun c_114 => ?_) (fun c_114 => ?_)
                      · skip
                        refine j_iconst (pc := 121) X (v := nI 4) dX9_pourFault_121 (by decide) ?_
                        exact j_iret (pc := 122) X dX9_pourFault_122 ⟨by first | (simp [poG, tN, cl0, cl1, cl2, cl3, c_4, c_11, c_25, c_37, c_60, c_68, c_86, c_102, c_114]; done) | exact absurd rfl c_60 | (rw [c_25] at c_37; exact absurd c_37 (by decide)), by first | (simp [poG, tN, cl0, cl1, cl2, cl3, c_4, c_11, c_25, c_37, c_60, c_68, c_86, c_102, c_114]; done) | exact absurd rfl c_60 | (rw [c_25] at c_37; exact absurd c_37 (by decide))⟩
                      · skip
                        exact absurd c_114 (by decide)
                    · skip
                      refine j_iconst (pc := 105) X (v := nI 1) dX9_pourFault_105 (by decide) ?_
                      refine j_goto (pc := 106) X (tgt := 110) dX9_pourFault_106 (by decide) ?_
                      refine j_istore (pc := 110) X (lv' := [(6, .int (nI 1)), (0, .ref qx), (1, .int (nI 2)), (2, .int i), (3, .int (nI 3)), (4, .int j), (5, .int m)]) dX9_pourFault_110 (by decide) rfl ?_
                      refine j_iload (pc := 112) X dX9_pourFault_112 0 rfl ?_
                      refine j_ifN_eq (pc := 114) X (a := 1) (by first | omega | exact Nat.lt_of_lt_of_le (hso _) (by decide)) (tgt := 121) dX9_pourFault_114 (by decide) (fun c_114 => ?_) (fun c_114 => ?_)
                      · skip
                        exact absurd c_114 (by decide)
                      · skip
                        refine j_iconst (pc := 117) X (v := nI 0) dX9_pourFault_117 (by decide) ?_
                        refine j_goto (pc := 118) X (tgt := 122) dX9_pourFault_118 (by decide) ?_
                        exact j_iret (pc := 122) X dX9_pourFault_122 ⟨by first | (simp [poG, tN, cl0, cl1, cl2, cl3, c_4, c_11, c_25, c_37, c_60, c_68, c_86, c_102, c_114]; done) | exact absurd rfl c_60 | (rw [c_25] at c_37; exact absurd c_37 (by decide)), by first | (simp [poG, tN, cl0, cl1, cl2, cl3, c_4, c_11, c_25, c_37, c_60, c_68, c_86, c_102, c_114]; done) | exact absurd rfl c_60 | (rw [c_25] at c_37; exact absurd c_37 (by decide))⟩
                · skip
                  refine j_bipush (pc := 71) X (v := nI 6) dX9_pourFault_71 (by decide) ?_
                  exact j_iret (pc := 73) X dX9_pourFault_73 ⟨by first | (simp [poG, tN, cl0, cl1, cl2, cl3, c_4, c_11, c_25, c_37, c_60, c_68]; done) | exact absurd rfl c_60 | (rw [c_25] at c_37; exact absurd c_37 (by decide)), rfl⟩
              · skip
                refine j_bipush (pc := 63) X (v := nI 11) dX9_pourFault_63 (by decide) ?_
                exact j_iret (pc := 65) X dX9_pourFault_65 ⟨by first | (simp [poG, tN, cl0, cl1, cl2, cl3, c_4, c_11, c_25, c_37, c_60]; done) | exact absurd rfl c_60 | (rw [c_25] at c_37; exact absurd c_37 (by decide)), rfl⟩
            · skip
              refine j_iconst (pc := 40) X (v := nI 3) dX9_pourFault_40 (by decide) ?_
              exact j_iret (pc := 41) X dX9_pourFault_41 ⟨by first | (simp [poG, tN, cl0, cl1, cl2, cl3, c_4, c_11, c_25, c_37]; done) | exact absurd rfl c_60 | (rw [c_25] at c_37; exact absurd c_37 (by decide)), rfl⟩
      · skip
        refine j_iconst (pc := 14) X (v := nI 1) dX9_pourFault_14 (by decide) ?_
        exact j_iret (pc := 15) X dX9_pourFault_15 ⟨by first | (simp [poG, tN, cl0, cl1, cl2, cl3, c_4, c_11]; done) | exact absurd rfl c_60 | (rw [c_25] at c_37; exact absurd c_37 (by decide)), rfl⟩
    · skip
      refine j_iload_n (pc := 7) X dX9_pourFault_7 rfl 3 rfl ?_
      refine j_ciP (pc := 8) X [] rfl (j_rS X (As := [.int to_]) (rest := []) 1 (mX9_isTray l G to_ ) gX9_pourFault_X9_isTray rfl rfl rfl (by decide +kernel) ⟨Nat.le_of_ble_eq_true rfl, Nat.le_of_ble_eq_true rfl⟩ rfl [] rfl rfl rfl (Nat.le_of_ble_eq_true rfl) dX9_pourFault_8 ⟨Nat.le_of_ble_eq_true rfl, Nat.le_of_ble_eq_true rfl⟩) ?_
      refine j_ifb_ne (pc := 11) X (B := inR to_ 4) (tgt := 16) dX9_pourFault_11 (by decide) (fun c_11 => ?_) (fun c_11 => ?_)
      · skip
        obtain ⟨b, hb, rfl⟩ := inR_of c_11 (by decide); rcases (by omega : b = 0 ∨ b = 1 ∨ b = 2 ∨ b = 3) with rfl | rfl | rfl | rfl
        · skip
          refine j_aload_n (pc := 16) X dX9_pourFault_16 rfl 0 rfl ?_
          refine j_get (pc := 17) X 9 i_X9 0 rfl rfl 0 (by decide) (by decide +kernel) rfl dX9_pourFault_17 ?_
          refine j_iload_n (pc := 20) X dX9_pourFault_20 rfl 1 rfl ?_
          refine j_aldq (pc := 21) X 1 rfl (vp_in_nI (by omega) (by omega)) (v := tA 3) ((congrArg (tyF tA) (nI_clamp (by decide))).trans rfl) dX9_pourFault_21 ?_
          refine j_getN (pc := 22) X 7 i_X7 5 rfl rfl 1 (by decide) (by decide +kernel) rfl dX9_pourFault_22 ?_
          refine j_ifb_ne (pc := 25) X (B := ms 3) (tgt := 40) dX9_pourFault_25 (by decide) (fun c_25 => ?_) (fun c_25 => ?_)
          · skip
            refine j_iconst (pc := 40) X (v := nI 3) dX9_pourFault_40 (by decide) ?_
            exact j_iret (pc := 41) X dX9_pourFault_41 ⟨by first | (simp [poG, tN, cl0, cl1, cl2, cl3, c_4, c_11, c_25]; done) | exact absurd rfl c_60 | (rw [c_25] at c_37; exact absurd c_37 (by decide)), rfl⟩
          · skip
            refine j_aload_n (pc := 28) X dX9_pourFault_28 rfl 0 rfl ?_
            refine j_get (pc := 29) X 9 i_X9 0 rfl rfl 0 (by decide) (by decide +kernel) rfl dX9_pourFault_29 ?_
            refine j_iload_n (pc := 32) X dX9_pourFault_32 rfl 3 rfl ?_
            refine j_aldq (pc := 33) X 1 rfl (vp_in_nI (by omega) (by omega)) (v := tA 0) ((congrArg (tyF tA) (nI_clamp (by decide))).trans rfl) dX9_pourFault_33 ?_
            refine j_getN (pc := 34) X 7 i_X7 2 rfl rfl 1 (by decide) (by decide +kernel) rfl dX9_pourFault_34 ?_
            refine j_ifb_eq (pc := 37) X (B := ms 0) (tgt := 42) dX9_pourFault_37 (by decide) (fun c_37 => ?_) (fun c_37 => ?_)
            · skip
              refine j_aload_n (pc := 42) X dX9_pourFault_42 rfl 0 rfl ?_
              refine j_get (pc := 43) X 9 i_X9 0 rfl rfl 0 (by decide) (by decide +kernel) rfl dX9_pourFault_43 ?_
              refine j_iload_n (pc := 46) X dX9_pourFault_46 rfl 1 rfl ?_
              refine j_aldq (pc := 47) X 1 rfl (vp_in_nI (by omega) (by omega)) (v := tA 3) ((congrArg (tyF tA) (nI_clamp (by decide))).trans rfl) dX9_pourFault_47 ?_
              refine j_getN (pc := 48) X 7 i_X7 5 rfl rfl 2 (by decide) (by decide +kernel) rfl dX9_pourFault_48 ?_
              refine j_aload_n (pc := 51) X dX9_pourFault_51 rfl 0 rfl ?_
              refine j_get (pc := 52) X 9 i_X9 0 rfl rfl 0 (by decide) (by decide +kernel) rfl dX9_pourFault_52 ?_
              refine j_iload_n (pc := 55) X dX9_pourFault_55 rfl 3 rfl ?_
              refine j_aldq (pc := 56) X 1 rfl (vp_in_nI (by omega) (by omega)) (v := tA 0) ((congrArg (tyF tA) (nI_clamp (by decide))).trans rfl) dX9_pourFault_56 ?_
              refine j_getN (pc := 57) X 7 i_X7 2 rfl rfl 2 (by decide) (by decide +kernel) rfl dX9_pourFault_57 ?_
              refine j_icmpN_eq (pc := 60) X (a := (so 3)) (b := (so 0)) (by first | omega | exact Nat.lt_of_lt_of_le (hso _) (by decide)) (by first | omega | exact Nat.lt_of_lt_of_le (hso _) (by decide)) (tgt := 66) dX9_pourFault_60 (by decide) (fun c_60 => ?_) (fun c_60 => ?_)
              · skip
                refine j_iload (pc := 66) X dX9_pourFault_66 5 rfl ?_
                refine j_if_ge (pc := 68) X (x := m) (tgt := 74) dX9_pourFault_68 (by decide) (fun c_68 => ?_) (fun c_68 => ?_)
                · skip
                  refine j_aload_n (pc := 74) X dX9_pourFault_74 rfl 0 rfl ?_
                  refine j_get (pc := 75) X 9 i_X9 0 rfl rfl 0 (by decide) (by decide +kernel) rfl dX9_pourFault_75 ?_
                  refine j_iload_n (pc := 78) X dX9_pourFault_78 rfl 1 rfl ?_
                  refine j_aldq (pc := 79) X 1 rfl (vp_in_nI (by omega) (by omega)) (v := tA 3) ((congrArg (tyF tA) (nI_clamp (by decide))).trans rfl) dX9_pourFault_79 ?_
                  refine j_iload_n (pc := 80) X dX9_pourFault_80 rfl 2 rfl ?_
                  refine j_iload (pc := 81) X dX9_pourFault_81 5 rfl ?_
                  refine j_ciP (pc := 83) X [5] rfl (j_rVN X (b := tA 3) (As := [.int i, .int m]) (ci := 7) (rest := []) 2 (mX7_hasPlaces l G (tA 3) (nA 3) (ms 3) (so 3) (ln 3) i m ) gX9_pourFault_X7_hasPlaces_n269 rfl rfl rfl (by decide +kernel) (by decide +kernel) (by decide +kernel) (by decide +kernel) (by decide +kernel) ⟨Nat.le_of_ble_eq_true rfl, Nat.le_of_ble_eq_true rfl⟩ rfl rfl 0 rfl [5] rfl rfl rfl (Nat.le_of_ble_eq_true rfl) dX9_pourFault_83 ⟨Nat.le_of_ble_eq_true rfl, Nat.le_of_ble_eq_true rfl⟩) ?_
                  refine j_ifb_eq (pc := 86) X (B := hasP i m (ln 3)) (tgt := 109) dX9_pourFault_86 (by decide) (fun c_86 => ?_) (fun c_86 => ?_)
                  · skip
                    refine j_iconst (pc := 109) X (v := nI 0) dX9_pourFault_109 (by decide) ?_
                    refine j_istore (pc := 110) X (lv' := [(6, .int (nI 0)), (0, .ref qx), (1, .int (nI 3)), (2, .int i), (3, .int (nI 0)), (4, .int j), (5, .int m)]) dX9_pourFault_110 (by decide) rfl ?_
                    refine j_iload (pc := 112) X dX9_pourFault_112 0 rfl ?_
                    refine j_ifN_eq (pc := 114) X (a := 0) (by first | omega | exact Nat.lt_of_lt_of_le (hso _) (by decide)) (tgt := 121) dX9_pourFault_114 (by decide) (fun c_114 => ?_) (fun c_114 => ?_)
                    · skip
                      refine j_iconst (pc := 121) X (v := nI 4) dX9_pourFault_121 (by decide) ?_
                      exact j_iret (pc := 122) X dX9_pourFault_122 ⟨by first | (simp [poG, tN, cl0, cl1, cl2, cl3, c_4, c_11, c_25, c_37, c_60, c_68, c_86, c_114]; done) | exact absurd rfl c_60 | (rw [c_25] at c_37; exact absurd c_37 (by decide)), by first | (simp [poG, tN, cl0, cl1, cl2, cl3, c_4, c_11, c_25, c_37, c_60, c_68, c_86, c_114]; done) | exact absurd rfl c_60 | (rw [c_25] at c_37; exact absurd c_37 (by decide))⟩
                    · skip
                      exact absurd c_114 (by decide)
                  · skip
                    refine j_aload_n (pc := 89) X dX9_pourFault_89 rfl 0 rfl ?_
                    refine j_get (pc := 90) X 9 i_X9 0 rfl rfl 0 (by decide) (by decide +kernel) rfl dX9_pourFault_90 ?_
                    refine j_iload_n (pc := 93) X dX9_pourFault_93 rfl 3 rfl ?_
                    refine j_aldq (pc := 94) X 1 rfl (vp_in_nI (by omega) (by omega)) (v := tA 0) ((congrArg (tyF tA) (nI_clamp (by decide))).trans rfl) dX9_pourFault_94 ?_
                    refine j_iload (pc := 95) X dX9_pourFault_95 4 rfl ?_
                    refine j_iload (pc := 97) X dX9_pourFault_97 5 rfl ?_
                    refine j_ciP (pc := 99) X [2] rfl (j_rVN X (b := tA 0) (As := [.int j, .int m]) (ci := 7) (rest := []) 2 (mX7_hasPlaces l G (tA 0) (nA 0) (ms 0) (so 0) (ln 0) j m ) gX9_pourFault_X7_hasPlaces_n269 rfl rfl rfl (by decide +kernel) (by decide +kernel) (by decide +kernel) (by decide +kernel) (by decide +kernel) ⟨Nat.le_of_ble_eq_true rfl, Nat.le_of_ble_eq_true rfl⟩ rfl rfl 0 rfl [2] rfl rfl rfl (Nat.le_of_ble_eq_true rfl) dX9_pourFault_99 ⟨Nat.le_of_ble_eq_true rfl, Nat.le_of_ble_eq_true rfl⟩) ?_
                    refine j_ifb_eq (pc := 102) X (B := hasP j m (ln 0)) (tgt := 109) dX9_pourFault_102 (by decide) (fun c_102 => ?_) (fun c_102 => ?_)
                    · skip
                      refine j_iconst (pc := 109) X (v := nI 0) dX9_pourFault_109 (by decide) ?_
                      refine j_istore (pc := 110) X (lv' := [(6, .int (nI 0)), (0, .ref qx), (1, .int (nI 3)), (2, .int i), (3, .int (nI 0)), (4, .int j), (5, .int m)]) dX9_pourFault_110 (by decide) rfl ?_
                      refine j_iload (pc := 112) X dX9_pourFault_112 0 rfl ?_
                      refine j_ifN_eq (pc := 114) X (a := 0) (by first | omega | exact Nat.lt_of_lt_of_le (hso _) (by decide)) (tgt := 121) dX9_pourFault_114 (by decide) (fun c_114 => ?_) (fun c_114 => ?_)
                      · skip
                        refine j_iconst (pc := 121) X (v := nI 4) dX9_pourFault_121 (by decide) ?_
                        exact j_iret (pc := 122) X dX9_pourFault_122 ⟨by first | (simp [poG, tN, cl0, cl1, cl2, cl3, c_4, c_11, c_25, c_37, c_60, c_68, c_86, c_102, c_114]; done) | exact absurd rfl c_60 | (rw [c_25] at c_37; exact absurd c_37 (by decide)), by first | (simp [poG, tN, cl0, cl1, cl2, cl3, c_4, c_11, c_25, c_37, c_60, c_68, c_86, c_102, c_114]; done) | exact absurd rfl c_60 | (rw [c_25] at c_37; exact absurd c_37 (by decide))⟩
                      · skip
                        exact absurd c_114 (by decide)
                    · skip
                      refine j_iconst (pc := 105) X (v := nI 1) dX9_pourFault_105 (by decide) ?_
                      refine j_goto (pc := 106) X (tgt := 110) dX9_pourFault_106 (by decide) ?_
                      refine j_istore (pc := 110) X (lv' := [(6, .int (nI 1)), (0, .ref qx), (1, .int (nI 3)), (2, .int i), (3, .int (nI 0)), (4, .int j), (5, .int m)]) dX9_pourFault_110 (by decide) rfl ?_
                      refine j_iload (pc := 112) X dX9_pourFault_112 0 rfl ?_
                      refine j_ifN_eq (pc := 114) X (a := 1) (by first | omega | exact Nat.lt_of_lt_of_le (hso _) (by decide)) (tgt := 121) dX9_pourFault_114 (by decide) (fun c_114 => ?_) (fun c_114 => ?_)
                      · skip
                        exact absurd c_114 (by decide)
                      · skip
                        refine j_iconst (pc := 117) X (v := nI 0) dX9_pourFault_117 (by decide) ?_
                        refine j_goto (pc := 118) X (tgt := 122) dX9_pourFault_118 (by decide) ?_
                        exact j_iret (pc := 122) X dX9_pourFault_122 ⟨by first | (simp [poG, tN, cl0, cl1, cl2, cl3, c_4, c_11, c_25, c_37, c_60, c_68, c_86, c_102, c_114]; done) | exact absurd rfl c_60 | (rw [c_25] at c_37; exact absurd c_37 (by decide)), by first | (simp [poG, tN, cl0, cl1, cl2, cl3, c_4, c_11, c_25, c_37, c_60, c_68, c_86, c_102, c_114]; done) | exact absurd rfl c_60 | (rw [c_25] at c_37; exact absurd c_37 (by decide))⟩
                · skip
                  refine j_bipush (pc := 71) X (v := nI 6) dX9_pourFault_71 (by decide) ?_
                  exact j_iret (pc := 73) X dX9_pourFault_73 ⟨by first | (simp [poG, tN, cl0, cl1, cl2, cl3, c_4, c_11, c_25, c_37, c_60, c_68]; done) | exact absurd rfl c_60 | (rw [c_25] at c_37; exact absurd c_37 (by decide)), rfl⟩
              · skip
                refine j_bipush (pc := 63) X (v := nI 11) dX9_pourFault_63 (by decide) ?_
                exact j_iret (pc := 65) X dX9_pourFault_65 ⟨by first | (simp [poG, tN, cl0, cl1, cl2, cl3, c_4, c_11, c_25, c_37, c_60]; done) | exact absurd rfl c_60 | (rw [c_25] at c_37; exact absurd c_37 (by decide)), rfl⟩
            · skip
              refine j_iconst (pc := 40) X (v := nI 3) dX9_pourFault_40 (by decide) ?_
              exact j_iret (pc := 41) X dX9_pourFault_41 ⟨by first | (simp [poG, tN, cl0, cl1, cl2, cl3, c_4, c_11, c_25, c_37]; done) | exact absurd rfl c_60 | (rw [c_25] at c_37; exact absurd c_37 (by decide)), rfl⟩
        · skip
          refine j_aload_n (pc := 16) X dX9_pourFault_16 rfl 0 rfl ?_
          refine j_get (pc := 17) X 9 i_X9 0 rfl rfl 0 (by decide) (by decide +kernel) rfl dX9_pourFault_17 ?_
          refine j_iload_n (pc := 20) X dX9_pourFault_20 rfl 1 rfl ?_
          refine j_aldq (pc := 21) X 1 rfl (vp_in_nI (by omega) (by omega)) (v := tA 3) ((congrArg (tyF tA) (nI_clamp (by decide))).trans rfl) dX9_pourFault_21 ?_
          refine j_getN (pc := 22) X 7 i_X7 5 rfl rfl 1 (by decide) (by decide +kernel) rfl dX9_pourFault_22 ?_
          refine j_ifb_ne (pc := 25) X (B := ms 3) (tgt := 40) dX9_pourFault_25 (by decide) (fun c_25 => ?_) (fun c_25 => ?_)
          · skip
            refine j_iconst (pc := 40) X (v := nI 3) dX9_pourFault_40 (by decide) ?_
            exact j_iret (pc := 41) X dX9_pourFault_41 ⟨by first | (simp [poG, tN, cl0, cl1, cl2, cl3, c_4, c_11, c_25]; done) | exact absurd rfl c_60 | (rw [c_25] at c_37; exact absurd c_37 (by decide)), rfl⟩
          · skip
            refine j_aload_n (pc := 28) X dX9_pourFault_28 rfl 0 rfl ?_
            refine j_get (pc := 29) X 9 i_X9 0 rfl rfl 0 (by decide) (by decide +kernel) rfl dX9_pourFault_29 ?_
            refine j_iload_n (pc := 32) X dX9_pourFault_32 rfl 3 rfl ?_
            refine j_aldq (pc := 33) X 1 rfl (vp_in_nI (by omega) (by omega)) (v := tA 1) ((congrArg (tyF tA) (nI_clamp (by decide))).trans rfl) dX9_pourFault_33 ?_
            refine j_getN (pc := 34) X 7 i_X7 3 rfl rfl 1 (by decide) (by decide +kernel) rfl dX9_pourFault_34 ?_
            refine j_ifb_eq (pc := 37) X (B := ms 1) (tgt := 42) dX9_pourFault_37 (by decide) (fun c_37 => ?_) (fun c_37 => ?_)
            · skip
              refine j_aload_n (pc := 42) X dX9_pourFault_42 rfl 0 rfl ?_
              refine j_get (pc := 43) X 9 i_X9 0 rfl rfl 0 (by decide) (by decide +kernel) rfl dX9_pourFault_43 ?_
              refine j_iload_n (pc := 46) X dX9_pourFault_46 rfl 1 rfl ?_
              refine j_aldq (pc := 47) X 1 rfl (vp_in_nI (by omega) (by omega)) (v := tA 3) ((congrArg (tyF tA) (nI_clamp (by decide))).trans rfl) dX9_pourFault_47 ?_
              refine j_getN (pc := 48) X 7 i_X7 5 rfl rfl 2 (by decide) (by decide +kernel) rfl dX9_pourFault_48 ?_
              refine j_aload_n (pc := 51) X dX9_pourFault_51 rfl 0 rfl ?_
              refine j_get (pc := 52) X 9 i_X9 0 rfl rfl 0 (by decide) (by decide +kernel) rfl dX9_pourFault_52 ?_
              refine j_iload_n (pc := 55) X dX9_pourFault_55 rfl 3 rfl ?_
              refine j_aldq (pc := 56) X 1 rfl (vp_in_nI (by omega) (by omega)) (v := tA 1) ((congrArg (tyF tA) (nI_clamp (by decide))).trans rfl) dX9_pourFault_56 ?_
              refine j_getN (pc := 57) X 7 i_X7 3 rfl rfl 2 (by decide) (by decide +kernel) rfl dX9_pourFault_57 ?_
              refine j_icmpN_eq (pc := 60) X (a := (so 3)) (b := (so 1)) (by first | omega | exact Nat.lt_of_lt_of_le (hso _) (by decide)) (by first | omega | exact Nat.lt_of_lt_of_le (hso _) (by decide)) (tgt := 66) dX9_pourFault_60 (by decide) (fun c_60 => ?_) (fun c_60 => ?_)
              · skip
                refine j_iload (pc := 66) X dX9_pourFault_66 5 rfl ?_
                refine j_if_ge (pc := 68) X (x := m) (tgt := 74) dX9_pourFault_68 (by decide) (fun c_68 => ?_) (fun c_68 => ?_)
                · skip
                  refine j_aload_n (pc := 74) X dX9_pourFault_74 rfl 0 rfl ?_
                  refine j_get (pc := 75) X 9 i_X9 0 rfl rfl 0 (by decide) (by decide +kernel) rfl dX9_pourFault_75 ?_
                  refine j_iload_n (pc := 78) X dX9_pourFault_78 rfl 1 rfl ?_
                  refine j_aldq (pc := 79) X 1 rfl (vp_in_nI (by omega) (by omega)) (v := tA 3) ((congrArg (tyF tA) (nI_clamp (by decide))).trans rfl) dX9_pourFault_79 ?_
                  refine j_iload_n (pc := 80) X dX9_pourFault_80 rfl 2 rfl ?_
                  refine j_iload (pc := 81) X dX9_pourFault_81 5 rfl ?_
                  refine j_ciP (pc := 83) X [5] rfl (j_rVN X (b := tA 3) (As := [.int i, .int m]) (ci := 7) (rest := []) 2 (mX7_hasPlaces l G (tA 3) (nA 3) (ms 3) (so 3) (ln 3) i m ) gX9_pourFault_X7_hasPlaces_n269 rfl rfl rfl (by decide +kernel) (by decide +kernel) (by decide +kernel) (by decide +kernel) (by decide +kernel) ⟨Nat.le_of_ble_eq_true rfl, Nat.le_of_ble_eq_true rfl⟩ rfl rfl 0 rfl [5] rfl rfl rfl (Nat.le_of_ble_eq_true rfl) dX9_pourFault_83 ⟨Nat.le_of_ble_eq_true rfl, Nat.le_of_ble_eq_true rfl⟩) ?_
                  refine j_ifb_eq (pc := 86) X (B := hasP i m (ln 3)) (tgt := 109) dX9_pourFault_86 (by decide) (fun c_86 => ?_) (fun c_86 => ?_)
                  · skip
                    refine j_iconst (pc := 109) X (v := nI 0) dX9_pourFault_109 (by decide) ?_
                    refine j_istore (pc := 110) X (lv' := [(6, .int (nI 0)), (0, .ref qx), (1, .int (nI 3)), (2, .int i), (3, .int (nI 1)), (4, .int j), (5, .int m)]) dX9_pourFault_110 (by decide) rfl ?_
                    refine j_iload (pc := 112) X dX9_pourFault_112 0 rfl ?_
                    refine j_ifN_eq (pc := 114) X (a := 0) (by first | omega | exact Nat.lt_of_lt_of_le (hso _) (by decide)) (tgt := 121) dX9_pourFault_114 (by decide) (fun c_114 => ?_) (fun c_114 => ?_)
                    · skip
                      refine j_iconst (pc := 121) X (v := nI 4) dX9_pourFault_121 (by decide) ?_
                      exact j_iret (pc := 122) X dX9_pourFault_122 ⟨by first | (simp [poG, tN, cl0, cl1, cl2, cl3, c_4, c_11, c_25, c_37, c_60, c_68, c_86, c_114]; done) | exact absurd rfl c_60 | (rw [c_25] at c_37; exact absurd c_37 (by decide)), by first | (simp [poG, tN, cl0, cl1, cl2, cl3, c_4, c_11, c_25, c_37, c_60, c_68, c_86, c_114]; done) | exact absurd rfl c_60 | (rw [c_25] at c_37; exact absurd c_37 (by decide))⟩
                    · skip
                      exact absurd c_114 (by decide)
                  · skip
                    refine j_aload_n (pc := 89) X dX9_pourFault_89 rfl 0 rfl ?_
                    refine j_get (pc := 90) X 9 i_X9 0 rfl rfl 0 (by decide) (by decide +kernel) rfl dX9_pourFault_90 ?_
                    refine j_iload_n (pc := 93) X dX9_pourFault_93 rfl 3 rfl ?_
                    refine j_aldq (pc := 94) X 1 rfl (vp_in_nI (by omega) (by omega)) (v := tA 1) ((congrArg (tyF tA) (nI_clamp (by decide))).trans rfl) dX9_pourFault_94 ?_
                    refine j_iload (pc := 95) X dX9_pourFault_95 4 rfl ?_
                    refine j_iload (pc := 97) X dX9_pourFault_97 5 rfl ?_
                    refine j_ciP (pc := 99) X [3] rfl (j_rVN X (b := tA 1) (As := [.int j, .int m]) (ci := 7) (rest := []) 2 (mX7_hasPlaces l G (tA 1) (nA 1) (ms 1) (so 1) (ln 1) j m ) gX9_pourFault_X7_hasPlaces_n269 rfl rfl rfl (by decide +kernel) (by decide +kernel) (by decide +kernel) (by decide +kernel) (by decide +kernel) ⟨Nat.le_of_ble_eq_true rfl, Nat.le_of_ble_eq_true rfl⟩ rfl rfl 0 rfl [3] rfl rfl rfl (Nat.le_of_ble_eq_true rfl) dX9_pourFault_99 ⟨Nat.le_of_ble_eq_true rfl, Nat.le_of_ble_eq_true rfl⟩) ?_
                    refine j_ifb_eq (pc := 102) X (B := hasP j m (ln 1)) (tgt := 109) dX9_pourFault_102 (by decide) (fun c_102 => ?_) (fun c_102 => ?_)
                    · skip
                      refine j_iconst (pc := 109) X (v := nI 0) dX9_pourFault_109 (by decide) ?_
                      refine j_istore (pc := 110) X (lv' := [(6, .int (nI 0)), (0, .ref qx), (1, .int (nI 3)), (2, .int i), (3, .int (nI 1)), (4, .int j), (5, .int m)]) dX9_pourFault_110 (by decide) rfl ?_
                      refine j_iload (pc := 112) X dX9_pourFault_112 0 rfl ?_
                      refine j_ifN_eq (pc := 114) X (a := 0) (by first | omega | exact Nat.lt_of_lt_of_le (hso _) (by decide)) (tgt := 121) dX9_pourFault_114 (by decide) (fun c_114 => ?_) (fun c_114 => ?_)
                      · skip
                        refine j_iconst (pc := 121) X (v := nI 4) dX9_pourFault_121 (by decide) ?_
                        exact j_iret (pc := 122) X dX9_pourFault_122 ⟨by first | (simp [poG, tN, cl0, cl1, cl2, cl3, c_4, c_11, c_25, c_37, c_60, c_68, c_86, c_102, c_114]; done) | exact absurd rfl c_60 | (rw [c_25] at c_37; exact absurd c_37 (by decide)), by first | (simp [poG, tN, cl0, cl1, cl2, cl3, c_4, c_11, c_25, c_37, c_60, c_68, c_86, c_102, c_114]; done) | exact absurd rfl c_60 | (rw [c_25] at c_37; exact absurd c_37 (by decide))⟩
                      · skip
                        exact absurd c_114 (by decide)
                    · skip
                      refine j_iconst (pc := 105) X (v := nI 1) dX9_pourFault_105 (by decide) ?_
                      refine j_goto (pc := 106) X (tgt := 110) dX9_pourFault_106 (by decide) ?_
                      refine j_istore (pc := 110) X (lv' := [(6, .int (nI 1)), (0, .ref qx), (1, .int (nI 3)), (2, .int i), (3, .int (nI 1)), (4, .int j), (5, .int m)]) dX9_pourFault_110 (by decide) rfl ?_
                      refine j_iload (pc := 112) X dX9_pourFault_112 0 rfl ?_
                      refine j_ifN_eq (pc := 114) X (a := 1) (by first | omega | exact Nat.lt_of_lt_of_le (hso _) (by decide)) (tgt := 121) dX9_pourFault_114 (by decide) (fun c_114 => ?_) (fun c_114 => ?_)
                      · skip
                        exact absurd c_114 (by decide)
                      · skip
                        refine j_iconst (pc := 117) X (v := nI 0) dX9_pourFault_117 (by decide) ?_
                        refine j_goto (pc := 118) X (tgt := 122) dX9_pourFault_118 (by decide) ?_
                        exact j_iret (pc := 122) X dX9_pourFault_122 ⟨by first | (simp [poG, tN, cl0, cl1, cl2, cl3, c_4, c_11, c_25, c_37, c_60, c_68, c_86, c_102, c_114]; done) | exact absurd rfl c_60 | (rw [c_25] at c_37; exact absurd c_37 (by decide)), by first | (simp [poG, tN, cl0, cl1, cl2, cl3, c_4, c_11, c_25, c_37, c_60, c_68, c_86, c_102, c_114]; done) | exact absurd rfl c_60 | (rw [c_25] at c_37; exact absurd c_37 (by decide))⟩
                · skip
                  refine j_bipush (pc := 71) X (v := nI 6) dX9_pourFault_71 (by decide) ?_
                  exact j_iret (pc := 73) X dX9_pourFault_73 ⟨by first | (simp [poG, tN, cl0, cl1, cl2, cl3, c_4, c_11, c_25, c_37, c_60, c_68]; done) | exact absurd rfl c_60 | (rw [c_25] at c_37; exact absurd c_37 (by decide)), rfl⟩
              · skip
                refine j_bipush (pc := 63) X (v := nI 11) dX9_pourFault_63 (by decide) ?_
                exact j_iret (pc := 65) X dX9_pourFault_65 ⟨by first | (simp [poG, tN, cl0, cl1, cl2, cl3, c_4, c_11, c_25, c_37, c_60]; done) | exact absurd rfl c_60 | (rw [c_25] at c_37; exact absurd c_37 (by decide)), rfl⟩
            · skip
              refine j_iconst (pc := 40) X (v := nI 3) dX9_pourFault_40 (by decide) ?_
              exact j_iret (pc := 41) X dX9_pourFault_41 ⟨by first | (simp [poG, tN, cl0, cl1, cl2, cl3, c_4, c_11, c_25, c_37]; done) | exact absurd rfl c_60 | (rw [c_25] at c_37; exact absurd c_37 (by decide)), rfl⟩
        · skip
          refine j_aload_n (pc := 16) X dX9_pourFault_16 rfl 0 rfl ?_
          refine j_get (pc := 17) X 9 i_X9 0 rfl rfl 0 (by decide) (by decide +kernel) rfl dX9_pourFault_17 ?_
          refine j_iload_n (pc := 20) X dX9_pourFault_20 rfl 1 rfl ?_
          refine j_aldq (pc := 21) X 1 rfl (vp_in_nI (by omega) (by omega)) (v := tA 3) ((congrArg (tyF tA) (nI_clamp (by decide))).trans rfl) dX9_pourFault_21 ?_
          refine j_getN (pc := 22) X 7 i_X7 5 rfl rfl 1 (by decide) (by decide +kernel) rfl dX9_pourFault_22 ?_
          refine j_ifb_ne (pc := 25) X (B := ms 3) (tgt := 40) dX9_pourFault_25 (by decide) (fun c_25 => ?_) (fun c_25 => ?_)
          · skip
            refine j_iconst (pc := 40) X (v := nI 3) dX9_pourFault_40 (by decide) ?_
            exact j_iret (pc := 41) X dX9_pourFault_41 ⟨by first | (simp [poG, tN, cl0, cl1, cl2, cl3, c_4, c_11, c_25]; done) | exact absurd rfl c_60 | (rw [c_25] at c_37; exact absurd c_37 (by decide)), rfl⟩
          · skip
            refine j_aload_n (pc := 28) X dX9_pourFault_28 rfl 0 rfl ?_
            refine j_get (pc := 29) X 9 i_X9 0 rfl rfl 0 (by decide) (by decide +kernel) rfl dX9_pourFault_29 ?_
            refine j_iload_n (pc := 32) X dX9_pourFault_32 rfl 3 rfl ?_
            refine j_aldq (pc := 33) X 1 rfl (vp_in_nI (by omega) (by omega)) (v := tA 2) ((congrArg (tyF tA) (nI_clamp (by decide))).trans rfl) dX9_pourFault_33 ?_
            refine j_getN (pc := 34) X 7 i_X7 4 rfl rfl 1 (by decide) (by decide +kernel) rfl dX9_pourFault_34 ?_
            refine j_ifb_eq (pc := 37) X (B := ms 2) (tgt := 42) dX9_pourFault_37 (by decide) (fun c_37 => ?_) (fun c_37 => ?_)
            · skip
              refine j_aload_n (pc := 42) X dX9_pourFault_42 rfl 0 rfl ?_
              refine j_get (pc := 43) X 9 i_X9 0 rfl rfl 0 (by decide) (by decide +kernel) rfl dX9_pourFault_43 ?_
              refine j_iload_n (pc := 46) X dX9_pourFault_46 rfl 1 rfl ?_
              refine j_aldq (pc := 47) X 1 rfl (vp_in_nI (by omega) (by omega)) (v := tA 3) ((congrArg (tyF tA) (nI_clamp (by decide))).trans rfl) dX9_pourFault_47 ?_
              refine j_getN (pc := 48) X 7 i_X7 5 rfl rfl 2 (by decide) (by decide +kernel) rfl dX9_pourFault_48 ?_
              refine j_aload_n (pc := 51) X dX9_pourFault_51 rfl 0 rfl ?_
              refine j_get (pc := 52) X 9 i_X9 0 rfl rfl 0 (by decide) (by decide +kernel) rfl dX9_pourFault_52 ?_
              refine j_iload_n (pc := 55) X dX9_pourFault_55 rfl 3 rfl ?_
              refine j_aldq (pc := 56) X 1 rfl (vp_in_nI (by omega) (by omega)) (v := tA 2) ((congrArg (tyF tA) (nI_clamp (by decide))).trans rfl) dX9_pourFault_56 ?_
              refine j_getN (pc := 57) X 7 i_X7 4 rfl rfl 2 (by decide) (by decide +kernel) rfl dX9_pourFault_57 ?_
              refine j_icmpN_eq (pc := 60) X (a := (so 3)) (b := (so 2)) (by first | omega | exact Nat.lt_of_lt_of_le (hso _) (by decide)) (by first | omega | exact Nat.lt_of_lt_of_le (hso _) (by decide)) (tgt := 66) dX9_pourFault_60 (by decide) (fun c_60 => ?_) (fun c_60 => ?_)
              · skip
                refine j_iload (pc := 66) X dX9_pourFault_66 5 rfl ?_
                refine j_if_ge (pc := 68) X (x := m) (tgt := 74) dX9_pourFault_68 (by decide) (fun c_68 => ?_) (fun c_68 => ?_)
                · skip
                  refine j_aload_n (pc := 74) X dX9_pourFault_74 rfl 0 rfl ?_
                  refine j_get (pc := 75) X 9 i_X9 0 rfl rfl 0 (by decide) (by decide +kernel) rfl dX9_pourFault_75 ?_
                  refine j_iload_n (pc := 78) X dX9_pourFault_78 rfl 1 rfl ?_
                  refine j_aldq (pc := 79) X 1 rfl (vp_in_nI (by omega) (by omega)) (v := tA 3) ((congrArg (tyF tA) (nI_clamp (by decide))).trans rfl) dX9_pourFault_79 ?_
                  refine j_iload_n (pc := 80) X dX9_pourFault_80 rfl 2 rfl ?_
                  refine j_iload (pc := 81) X dX9_pourFault_81 5 rfl ?_
                  refine j_ciP (pc := 83) X [5] rfl (j_rVN X (b := tA 3) (As := [.int i, .int m]) (ci := 7) (rest := []) 2 (mX7_hasPlaces l G (tA 3) (nA 3) (ms 3) (so 3) (ln 3) i m ) gX9_pourFault_X7_hasPlaces_n269 rfl rfl rfl (by decide +kernel) (by decide +kernel) (by decide +kernel) (by decide +kernel) (by decide +kernel) ⟨Nat.le_of_ble_eq_true rfl, Nat.le_of_ble_eq_true rfl⟩ rfl rfl 0 rfl [5] rfl rfl rfl (Nat.le_of_ble_eq_true rfl) dX9_pourFault_83 ⟨Nat.le_of_ble_eq_true rfl, Nat.le_of_ble_eq_true rfl⟩) ?_
                  refine j_ifb_eq (pc := 86) X (B := hasP i m (ln 3)) (tgt := 109) dX9_pourFault_86 (by decide) (fun c_86 => ?_) (fun c_86 => ?_)
                  · skip
                    refine j_iconst (pc := 109) X (v := nI 0) dX9_pourFault_109 (by decide) ?_
                    refine j_istore (pc := 110) X (lv' := [(6, .int (nI 0)), (0, .ref qx), (1, .int (nI 3)), (2, .int i), (3, .int (nI 2)), (4, .int j), (5, .int m)]) dX9_pourFault_110 (by decide) rfl ?_
                    refine j_iload (pc := 112) X dX9_pourFault_112 0 rfl ?_
                    refine j_ifN_eq (pc := 114) X (a := 0) (by first | omega | exact Nat.lt_of_lt_of_le (hso _) (by decide)) (tgt := 121) dX9_pourFault_114 (by decide) (fun c_114 => ?_) (fun c_114 => ?_)
                    · skip
                      refine j_iconst (pc := 121) X (v := nI 4) dX9_pourFault_121 (by decide) ?_
                      exact j_iret (pc := 122) X dX9_pourFault_122 ⟨by first | (simp [poG, tN, cl0, cl1, cl2, cl3, c_4, c_11, c_25, c_37, c_60, c_68, c_86, c_114]; done) | exact absurd rfl c_60 | (rw [c_25] at c_37; exact absurd c_37 (by decide)), by first | (simp [poG, tN, cl0, cl1, cl2, cl3, c_4, c_11, c_25, c_37, c_60, c_68, c_86, c_114]; done) | exact absurd rfl c_60 | (rw [c_25] at c_37; exact absurd c_37 (by decide))⟩
                    · skip
                      exact absurd c_114 (by decide)
                  · skip
                    refine j_aload_n (pc := 89) X dX9_pourFault_89 rfl 0 rfl ?_
                    refine j_get (pc := 90) X 9 i_X9 0 rfl rfl 0 (by decide) (by decide +kernel) rfl dX9_pourFault_90 ?_
                    refine j_iload_n (pc := 93) X dX9_pourFault_93 rfl 3 rfl ?_
                    refine j_aldq (pc := 94) X 1 rfl (vp_in_nI (by omega) (by omega)) (v := tA 2) ((congrArg (tyF tA) (nI_clamp (by decide))).trans rfl) dX9_pourFault_94 ?_
                    refine j_iload (pc := 95) X dX9_pourFault_95 4 rfl ?_
                    refine j_iload (pc := 97) X dX9_pourFault_97 5 rfl ?_
                    refine j_ciP (pc := 99) X [4] rfl (j_rVN X (b := tA 2) (As := [.int j, .int m]) (ci := 7) (rest := []) 2 (mX7_hasPlaces l G (tA 2) (nA 2) (ms 2) (so 2) (ln 2) j m ) gX9_pourFault_X7_hasPlaces_n269 rfl rfl rfl (by decide +kernel) (by decide +kernel) (by decide +kernel) (by decide +kernel) (by decide +kernel) ⟨Nat.le_of_ble_eq_true rfl, Nat.le_of_ble_eq_true rfl⟩ rfl rfl 0 rfl [4] rfl rfl rfl (Nat.le_of_ble_eq_true rfl) dX9_pourFault_99 ⟨Nat.le_of_ble_eq_true rfl, Nat.le_of_ble_eq_true rfl⟩) ?_
                    refine j_ifb_eq (pc := 102) X (B := hasP j m (ln 2)) (tgt := 109) dX9_pourFault_102 (by decide) (fun c_102 => ?_) (fun c_102 => ?_)
                    · skip
                      refine j_iconst (pc := 109) X (v := nI 0) dX9_pourFault_109 (by decide) ?_
                      refine j_istore (pc := 110) X (lv' := [(6, .int (nI 0)), (0, .ref qx), (1, .int (nI 3)), (2, .int i), (3, .int (nI 2)), (4, .int j), (5, .int m)]) dX9_pourFault_110 (by decide) rfl ?_
                      refine j_iload (pc := 112) X dX9_pourFault_112 0 rfl ?_
                      refine j_ifN_eq (pc := 114) X (a := 0) (by first | omega | exact Nat.lt_of_lt_of_le (hso _) (by decide)) (tgt := 121) dX9_pourFault_114 (by decide) (fun c_114 => ?_) (fun c_114 => ?_)
                      · skip
                        refine j_iconst (pc := 121) X (v := nI 4) dX9_pourFault_121 (by decide) ?_
                        exact j_iret (pc := 122) X dX9_pourFault_122 ⟨by first | (simp [poG, tN, cl0, cl1, cl2, cl3, c_4, c_11, c_25, c_37, c_60, c_68, c_86, c_102, c_114]; done) | exact absurd rfl c_60 | (rw [c_25] at c_37; exact absurd c_37 (by decide)), by first | (simp [poG, tN, cl0, cl1, cl2, cl3, c_4, c_11, c_25, c_37, c_60, c_68, c_86, c_102, c_114]; done) | exact absurd rfl c_60 | (rw [c_25] at c_37; exact absurd c_37 (by decide))⟩
                      · skip
                        exact absurd c_114 (by decide)
                    · skip
                      refine j_iconst (pc := 105) X (v := nI 1) dX9_pourFault_105 (by decide) ?_
                      refine j_goto (pc := 106) X (tgt := 110) dX9_pourFault_106 (by decide) ?_
                      refine j_istore (pc := 110) X (lv' := [(6, .int (nI 1)), (0, .ref qx), (1, .int (nI 3)), (2, .int i), (3, .int (nI 2)), (4, .int j), (5, .int m)]) dX9_pourFault_110 (by decide) rfl ?_
                      refine j_iload (pc := 112) X dX9_pourFault_112 0 rfl ?_
                      refine j_ifN_eq (pc := 114) X (a := 1) (by first | omega | exact Nat.lt_of_lt_of_le (hso _) (by decide)) (tgt := 121) dX9_pourFault_114 (by decide) (fun c_114 => ?_) (fun c_114 => ?_)
                      · skip
                        exact absurd c_114 (by decide)
                      · skip
                        refine j_iconst (pc := 117) X (v := nI 0) dX9_pourFault_117 (by decide) ?_
                        refine j_goto (pc := 118) X (tgt := 122) dX9_pourFault_118 (by decide) ?_
                        exact j_iret (pc := 122) X dX9_pourFault_122 ⟨by first | (simp [poG, tN, cl0, cl1, cl2, cl3, c_4, c_11, c_25, c_37, c_60, c_68, c_86, c_102, c_114]; done) | exact absurd rfl c_60 | (rw [c_25] at c_37; exact absurd c_37 (by decide)), by first | (simp [poG, tN, cl0, cl1, cl2, cl3, c_4, c_11, c_25, c_37, c_60, c_68, c_86, c_102, c_114]; done) | exact absurd rfl c_60 | (rw [c_25] at c_37; exact absurd c_37 (by decide))⟩
                · skip
                  refine j_bipush (pc := 71) X (v := nI 6) dX9_pourFault_71 (by decide) ?_
                  exact j_iret (pc := 73) X dX9_pourFault_73 ⟨by first | (simp [poG, tN, cl0, cl1, cl2, cl3, c_4, c_11, c_25, c_37, c_60, c_68]; done) | exact absurd rfl c_60 | (rw [c_25] at c_37; exact absurd c_37 (by decide)), rfl⟩
              · skip
                refine j_bipush (pc := 63) X (v := nI 11) dX9_pourFault_63 (by decide) ?_
                exact j_iret (pc := 65) X dX9_pourFault_65 ⟨by first | (simp [poG, tN, cl0, cl1, cl2, cl3, c_4, c_11, c_25, c_37, c_60]; done) | exact absurd rfl c_60 | (rw [c_25] at c_37; exact absurd c_37 (by decide)), rfl⟩
            · skip
              refine j_iconst (pc := 40) X (v := nI 3) dX9_pourFault_40 (by decide) ?_
              exact j_iret (pc := 41) X dX9_pourFault_41 ⟨by first | (simp [poG, tN, cl0, cl1, cl2, cl3, c_4, c_11, c_25, c_37]; done) | exact absurd rfl c_60 | (rw [c_25] at c_37; exact absurd c_37 (by decide)), rfl⟩
        · skip
          refine j_aload_n (pc := 16) X dX9_pourFault_16 rfl 0 rfl ?_
          refine j_get (pc := 17) X 9 i_X9 0 rfl rfl 0 (by decide) (by decide +kernel) rfl dX9_pourFault_17 ?_
          refine j_iload_n (pc := 20) X dX9_pourFault_20 rfl 1 rfl ?_
          refine j_aldq (pc := 21) X 1 rfl (vp_in_nI (by omega) (by omega)) (v := tA 3) ((congrArg (tyF tA) (nI_clamp (by decide))).trans rfl) dX9_pourFault_21 ?_
          refine j_getN (pc := 22) X 7 i_X7 5 rfl rfl 1 (by decide) (by decide +kernel) rfl dX9_pourFault_22 ?_
          refine j_ifb_ne (pc := 25) X (B := ms 3) (tgt := 40) dX9_pourFault_25 (by decide) (fun c_25 => ?_) (fun c_25 => ?_)
          · skip
            refine j_iconst (pc := 40) X (v := nI 3) dX9_pourFault_40 (by decide) ?_
            exact j_iret (pc := 41) X dX9_pourFault_41 ⟨by first | (simp [poG, tN, cl0, cl1, cl2, cl3, c_4, c_11, c_25]; done) | exact absurd rfl c_60 | (rw [c_25] at c_37; exact absurd c_37 (by decide)), rfl⟩
          · skip
            refine j_aload_n (pc := 28) X dX9_pourFault_28 rfl 0 rfl ?_
            refine j_get (pc := 29) X 9 i_X9 0 rfl rfl 0 (by decide) (by decide +kernel) rfl dX9_pourFault_29 ?_
            refine j_iload_n (pc := 32) X dX9_pourFault_32 rfl 3 rfl ?_
            refine j_aldq (pc := 33) X 1 rfl (vp_in_nI (by omega) (by omega)) (v := tA 3) ((congrArg (tyF tA) (nI_clamp (by decide))).trans rfl) dX9_pourFault_33 ?_
            refine j_getN (pc := 34) X 7 i_X7 5 rfl rfl 1 (by decide) (by decide +kernel) rfl dX9_pourFault_34 ?_
            refine j_ifb_eq (pc := 37) X (B := ms 3) (tgt := 42) dX9_pourFault_37 (by decide) (fun c_37 => ?_) (fun c_37 => ?_)
            · skip
              refine j_aload_n (pc := 42) X dX9_pourFault_42 rfl 0 rfl ?_
              refine j_get (pc := 43) X 9 i_X9 0 rfl rfl 0 (by decide) (by decide +kernel) rfl dX9_pourFault_43 ?_
              refine j_iload_n (pc := 46) X dX9_pourFault_46 rfl 1 rfl ?_
              refine j_aldq (pc := 47) X 1 rfl (vp_in_nI (by omega) (by omega)) (v := tA 3) ((congrArg (tyF tA) (nI_clamp (by decide))).trans rfl) dX9_pourFault_47 ?_
              refine j_getN (pc := 48) X 7 i_X7 5 rfl rfl 2 (by decide) (by decide +kernel) rfl dX9_pourFault_48 ?_
              refine j_aload_n (pc := 51) X dX9_pourFault_51 rfl 0 rfl ?_
              refine j_get (pc := 52) X 9 i_X9 0 rfl rfl 0 (by decide) (by decide +kernel) rfl dX9_pourFault_52 ?_
              refine j_iload_n (pc := 55) X dX9_pourFault_55 rfl 3 rfl ?_
              refine j_aldq (pc := 56) X 1 rfl (vp_in_nI (by omega) (by omega)) (v := tA 3) ((congrArg (tyF tA) (nI_clamp (by decide))).trans rfl) dX9_pourFault_56 ?_
              refine j_getN (pc := 57) X 7 i_X7 5 rfl rfl 2 (by decide) (by decide +kernel) rfl dX9_pourFault_57 ?_
              refine j_icmpN_eq (pc := 60) X (a := (so 3)) (b := (so 3)) (by first | omega | exact Nat.lt_of_lt_of_le (hso _) (by decide)) (by first | omega | exact Nat.lt_of_lt_of_le (hso _) (by decide)) (tgt := 66) dX9_pourFault_60 (by decide) (fun c_60 => ?_) (fun c_60 => ?_)
              · skip
                refine j_iload (pc := 66) X dX9_pourFault_66 5 rfl ?_
                refine j_if_ge (pc := 68) X (x := m) (tgt := 74) dX9_pourFault_68 (by decide) (fun c_68 => ?_) (fun c_68 => ?_)
                · skip
                  refine j_aload_n (pc := 74) X dX9_pourFault_74 rfl 0 rfl ?_
                  refine j_get (pc := 75) X 9 i_X9 0 rfl rfl 0 (by decide) (by decide +kernel) rfl dX9_pourFault_75 ?_
                  refine j_iload_n (pc := 78) X dX9_pourFault_78 rfl 1 rfl ?_
                  refine j_aldq (pc := 79) X 1 rfl (vp_in_nI (by omega) (by omega)) (v := tA 3) ((congrArg (tyF tA) (nI_clamp (by decide))).trans rfl) dX9_pourFault_79 ?_
                  refine j_iload_n (pc := 80) X dX9_pourFault_80 rfl 2 rfl ?_
                  refine j_iload (pc := 81) X dX9_pourFault_81 5 rfl ?_
                  refine j_ciP (pc := 83) X [5] rfl (j_rVN X (b := tA 3) (As := [.int i, .int m]) (ci := 7) (rest := []) 2 (mX7_hasPlaces l G (tA 3) (nA 3) (ms 3) (so 3) (ln 3) i m ) gX9_pourFault_X7_hasPlaces_n269 rfl rfl rfl (by decide +kernel) (by decide +kernel) (by decide +kernel) (by decide +kernel) (by decide +kernel) ⟨Nat.le_of_ble_eq_true rfl, Nat.le_of_ble_eq_true rfl⟩ rfl rfl 0 rfl [5] rfl rfl rfl (Nat.le_of_ble_eq_true rfl) dX9_pourFault_83 ⟨Nat.le_of_ble_eq_true rfl, Nat.le_of_ble_eq_true rfl⟩) ?_
                  refine j_ifb_eq (pc := 86) X (B := hasP i m (ln 3)) (tgt := 109) dX9_pourFault_86 (by decide) (fun c_86 => ?_) (fun c_86 => ?_)
                  · skip
                    refine j_iconst (pc := 109) X (v := nI 0) dX9_pourFault_109 (by decide) ?_
                    refine j_istore (pc := 110) X (lv' := [(6, .int (nI 0)), (0, .ref qx), (1, .int (nI 3)), (2, .int i), (3, .int (nI 3)), (4, .int j), (5, .int m)]) dX9_pourFault_110 (by decide) rfl ?_
                    refine j_iload (pc := 112) X dX9_pourFault_112 0 rfl ?_
                    refine j_ifN_eq (pc := 114) X (a := 0) (by first | omega | exact Nat.lt_of_lt_of_le (hso _) (by decide)) (tgt := 121) dX9_pourFault_114 (by decide) (fun c_114 => ?_) (fun c_114 => ?_)
                    · skip
                      refine j_iconst (pc := 121) X (v := nI 4) dX9_pourFault_121 (by decide) ?_
                      exact j_iret (pc := 122) X dX9_pourFault_122 ⟨by first | (simp [poG, tN, cl0, cl1, cl2, cl3, c_4, c_11, c_25, c_37, c_60, c_68, c_86, c_114]; done) | exact absurd rfl c_60 | (rw [c_25] at c_37; exact absurd c_37 (by decide)), by first | (simp [poG, tN, cl0, cl1, cl2, cl3, c_4, c_11, c_25, c_37, c_60, c_68, c_86, c_114]; done) | exact absurd rfl c_60 | (rw [c_25] at c_37; exact absurd c_37 (by decide))⟩
                    · skip
                      exact absurd c_114 (by decide)
                  · skip
                    refine j_aload_n (pc := 89) X dX9_pourFault_89 rfl 0 rfl ?_
                    refine j_get (pc := 90) X 9 i_X9 0 rfl rfl 0 (by decide) (by decide +kernel) rfl dX9_pourFault_90 ?_
                    refine j_iload_n (pc := 93) X dX9_pourFault_93 rfl 3 rfl ?_
                    refine j_aldq (pc := 94) X 1 rfl (vp_in_nI (by omega) (by omega)) (v := tA 3) ((congrArg (tyF tA) (nI_clamp (by decide))).trans rfl) dX9_pourFault_94 ?_
                    refine j_iload (pc := 95) X dX9_pourFault_95 4 rfl ?_
                    refine j_iload (pc := 97) X dX9_pourFault_97 5 rfl ?_
                    refine j_ciP (pc := 99) X [5] rfl (j_rVN X (b := tA 3) (As := [.int j, .int m]) (ci := 7) (rest := []) 2 (mX7_hasPlaces l G (tA 3) (nA 3) (ms 3) (so 3) (ln 3) j m ) gX9_pourFault_X7_hasPlaces_n269 rfl rfl rfl (by decide +kernel) (by decide +kernel) (by decide +kernel) (by decide +kernel) (by decide +kernel) ⟨Nat.le_of_ble_eq_true rfl, Nat.le_of_ble_eq_true rfl⟩ rfl rfl 0 rfl [5] rfl rfl rfl (Nat.le_of_ble_eq_true rfl) dX9_pourFault_99 ⟨Nat.le_of_ble_eq_true rfl, Nat.le_of_ble_eq_true rfl⟩) ?_
                    refine j_ifb_eq (pc := 102) X (B := hasP j m (ln 3)) (tgt := 109) dX9_pourFault_102 (by decide) (fun c_102 => ?_) (fun c_102 => ?_)
                    · skip
                      refine j_iconst (pc := 109) X (v := nI 0) dX9_pourFault_109 (by decide) ?_
                      refine j_istore (pc := 110) X (lv' := [(6, .int (nI 0)), (0, .ref qx), (1, .int (nI 3)), (2, .int i), (3, .int (nI 3)), (4, .int j), (5, .int m)]) dX9_pourFault_110 (by decide) rfl ?_
                      refine j_iload (pc := 112) X dX9_pourFault_112 0 rfl ?_
                      refine j_ifN_eq (pc := 114) X (a := 0) (by first | omega | exact Nat.lt_of_lt_of_le (hso _) (by decide)) (tgt := 121) dX9_pourFault_114 (by decide) (fun c_114 => ?_) (fun c_114 => ?_)
                      · skip
                        refine j_iconst (pc := 121) X (v := nI 4) dX9_pourFault_121 (by decide) ?_
                        exact j_iret (pc := 122) X dX9_pourFault_122 ⟨by first | (simp [poG, tN, cl0, cl1, cl2, cl3, c_4, c_11, c_25, c_37, c_60, c_68, c_86, c_102, c_114]; done) | exact absurd rfl c_60 | (rw [c_25] at c_37; exact absurd c_37 (by decide)), by first | (simp [poG, tN, cl0, cl1, cl2, cl3, c_4, c_11, c_25, c_37, c_60, c_68, c_86, c_102, c_114]; done) | exact absurd rfl c_60 | (rw [c_25] at c_37; exact absurd c_37 (by decide))⟩
                      · skip
                        exact absurd c_114 (by decide)
                    · skip
                      refine j_iconst (pc := 105) X (v := nI 1) dX9_pourFault_105 (by decide) ?_
                      refine j_goto (pc := 106) X (tgt := 110) dX9_pourFault_106 (by decide) ?_
                      refine j_istore (pc := 110) X (lv' := [(6, .int (nI 1)), (0, .ref qx), (1, .int (nI 3)), (2, .int i), (3, .int (nI 3)), (4, .int j), (5, .int m)]) dX9_pourFault_110 (by decide) rfl ?_
                      refine j_iload (pc := 112) X dX9_pourFault_112 0 rfl ?_
                      refine j_ifN_eq (pc := 114) X (a := 1) (by first | omega | exact Nat.lt_of_lt_of_le (hso _) (by decide)) (tgt := 121) dX9_pourFault_114 (by decide) (fun c_114 => ?_) (fun c_114 => ?_)
                      · skip
                        exact absurd c_114 (by decide)
                      · skip
                        refine j_iconst (pc := 117) X (v := nI 0) dX9_pourFault_117 (by decide) ?_
                        refine j_goto (pc := 118) X (tgt := 122) dX9_pourFault_118 (by decide) ?_
                        exact j_iret (pc := 122) X dX9_pourFault_122 ⟨by first | (simp [poG, tN, cl0, cl1, cl2, cl3, c_4, c_11, c_25, c_37, c_60, c_68, c_86, c_102, c_114]; done) | exact absurd rfl c_60 | (rw [c_25] at c_37; exact absurd c_37 (by decide)), by first | (simp [poG, tN, cl0, cl1, cl2, cl3, c_4, c_11, c_25, c_37, c_60, c_68, c_86, c_102, c_114]; done) | exact absurd rfl c_60 | (rw [c_25] at c_37; exact absurd c_37 (by decide))⟩
                · skip
                  refine j_bipush (pc := 71) X (v := nI 6) dX9_pourFault_71 (by decide) ?_
                  exact j_iret (pc := 73) X dX9_pourFault_73 ⟨by first | (simp [poG, tN, cl0, cl1, cl2, cl3, c_4, c_11, c_25, c_37, c_60, c_68]; done) | exact absurd rfl c_60 | (rw [c_25] at c_37; exact absurd c_37 (by decide)), rfl⟩
              · skip
                refine j_bipush (pc := 63) X (v := nI 11) dX9_pourFault_63 (by decide) ?_
                exact j_iret (pc := 65) X dX9_pourFault_65 ⟨by first | (simp [poG, tN, cl0, cl1, cl2, cl3, c_4, c_11, c_25, c_37, c_60]; done) | exact absurd rfl c_60 | (rw [c_25] at c_37; exact absurd c_37 (by decide)), rfl⟩
            · skip
              refine j_iconst (pc := 40) X (v := nI 3) dX9_pourFault_40 (by decide) ?_
              exact j_iret (pc := 41) X dX9_pourFault_41 ⟨by first | (simp [poG, tN, cl0, cl1, cl2, cl3, c_4, c_11, c_25, c_37]; done) | exact absurd rfl c_60 | (rw [c_25] at c_37; exact absurd c_37 (by decide)), rfl⟩
      · skip
        refine j_iconst (pc := 14) X (v := nI 1) dX9_pourFault_14 (by decide) ?_
        exact j_iret (pc := 15) X dX9_pourFault_15 ⟨by first | (simp [poG, tN, cl0, cl1, cl2, cl3, c_4, c_11]; done) | exact absurd rfl c_60 | (rw [c_25] at c_37; exact absurd c_37 (by decide)), rfl⟩

set_option maxHeartbeats 4000000 in
set_option maxRecDepth 100000 in
theorem mX9_trialFault (l : Launch) (G : jG) (qx : Nat) (qy : Nat) (qc : Nat) (qp : Nat) (qr : Nat) (qm : Nat) (qg : Nat) (qu : Nat) (ql : Nat) (qf : Nat) (lt : Nat) (tA : Nat → Nat) (nA : Nat → Nat) (ms : Nat → Bool) (so : Nat → Nat) (ln : Nat → Nat) (u : Nat → Nat → Int64) (x : Int32) (n : Int32) (s : Int32) (hln : ∀ k, ln k ≤ 40) : MV l yX9_trialFault wsX9_trialFault ({ frames := 2, cells := 0, slots := 0, locals := 41 }) G [.ref qx, .int x, .int n, .int s] [(qx, .inr (9, [.ref qy, .ref qc, .ref qp, .ref qr, .ref qm, .ref qg, .ref qu, .ref ql, .ref qf, .int (nI lt)])), kT G qy 4 (tyF tA), (tA 0, .inr (7, [.ref (nA 0), .int (b2i (ms 0)), .int (nI (so 0)), .int (nI (ln 0))])), (tA 1, .inr (7, [.ref (nA 1), .int (b2i (ms 1)), .int (nI (so 1)), .int (nI (ln 1))])), (tA 2, .inr (7, [.ref (nA 2), .int (b2i (ms 2)), .int (nI (so 2)), .int (nI (ln 2))])), (tA 3, .inr (7, [.ref (nA 3), .int (b2i (ms 3)), .int (nI (so 3)), .int (nI (ln 3))])), kJ G (nA 0) 40 (u 0), kJ G (nA 1) 40 (u 1), kJ G (nA 2) 40 (u 2), kJ G (nA 3) 40 (u 3)] (some (.int (nI (trF ms ln u x n s)))) [(qx, .inr (9, [.ref qy, .ref qc, .ref qp, .ref qr, .ref qm, .ref qg, .ref qu, .ref ql, .ref qf, .int (nI lt)])), kT G qy 4 (tyF tA), (tA 0, .inr (7, [.ref (nA 0), .int (b2i (ms 0)), .int (nI (so 0)), .int (nI (ln 0))])), (tA 1, .inr (7, [.ref (nA 1), .int (b2i (ms 1)), .int (nI (so 1)), .int (nI (ln 1))])), (tA 2, .inr (7, [.ref (nA 2), .int (b2i (ms 2)), .int (nI (so 2)), .int (nI (ln 2))])), (tA 3, .inr (7, [.ref (nA 3), .int (b2i (ms 3)), .int (nI (so 3)), .int (nI (ln 3))])), kJ G (nA 0) 40 (u 0), kJ G (nA 1) 40 (u 1), kJ G (nA 2) 40 (u 2), kJ G (nA 3) 40 (u 3)] := by
  refine MF.ofJ (cc := cX9_trialFault) (maxL := 7) (ret := (some .int)) (own := RX9) (lv := [(0, .ref qx), (1, .int x), (2, .int n), (3, .int s)]) (by decide) rfl rfl (Nat.le_of_ble_eq_true rfl) rfl ?_
  intro κ X
  have i_X7 : ∀ w ∈ wsX70, w ∈ wsX9_trialFault := by decide +kernel
  have i_X9 : ∀ w ∈ wsX90, w ∈ wsX9_trialFault := by decide +kernel
  refine j_aload_n (pc := 0) X dX9_trialFault_0 rfl 0 rfl ?_
  refine j_iload_n (pc := 1) X dX9_trialFault_1 rfl 1 rfl ?_
  refine j_ciP (pc := 2) X [0, 1, 2, 3, 4, 5] rfl (j_rV X (b := qx) (As := [.int x]) (ci := 9) (rest := []) 1 (mX9_trayFault l G qx qy qc qp qr qm qg qu ql qf lt tA nA ms so ln x ) gX9_trialFault_X9_trayFault rfl rfl rfl (by decide +kernel) ⟨Nat.le_of_ble_eq_true rfl, Nat.le_of_ble_eq_true rfl⟩ rfl rfl 0 rfl [0, 1, 2, 3, 4, 5] rfl rfl rfl (Nat.le_of_ble_eq_true rfl) dX9_trialFault_2 ⟨Nat.le_of_ble_eq_true rfl, Nat.le_of_ble_eq_true rfl⟩) ?_
  refine j_istore (pc := 5) X (lv' := [(4, .int (nI (tfF ms x))), (0, .ref qx), (1, .int x), (2, .int n), (3, .int s)]) dX9_trialFault_5 (by decide) rfl ?_
  refine j_iload (pc := 7) X dX9_trialFault_7 0 rfl ?_
  refine j_ifN_eq (pc := 9) X (a := (tfF ms x)) (by first | omega | (have h9 := tfF_le ms x; omega)) (tgt := 15) dX9_trialFault_9 (by decide) (fun c_9 => ?_) (fun c_9 => ?_)
  · skip
    obtain ⟨j, hj, rfl, hms⟩ := tfF_0 c_9; rcases (by omega : j = 0 ∨ j = 1 ∨ j = 2 ∨ j = 3) with rfl | rfl | rfl | rfl
    · skip
      refine j_iload_n (pc := 15) X dX9_trialFault_15 rfl 3 rfl ?_
      refine j_iconst (pc := 16) X (v := nI 2) dX9_trialFault_16 (by decide) ?_
      refine j_icmp_lt (pc := 17) X (x := n) (z := nI 2) (tgt := 26) dX9_trialFault_17 (by decide) (fun c_17 => ?_) (fun c_17 => ?_)
      · skip
        refine j_iconst (pc := 26) X (v := nI 5) dX9_trialFault_26 (by decide) ?_
        exact j_iret (pc := 27) X dX9_trialFault_27 ⟨by first | (simp [trF, tN, cl0, cl1, cl2, cl3, c_9, c_17]; done) | (simp [trF, tN, cl0, cl1, cl2, cl3, hq_k, Int32.not_lt.mpr c_23, c_9, c_17]; done) | (simp [trF, tN, cl0, cl1, cl2, cl3, Int32.not_le.mp c_23, c_9, c_17]; done) | (simp [trF, tN, cl0, cl1, cl2, cl3, c_9, c_17]; done), rfl⟩
      · skip
        refine j_iload_n (pc := 20) X dX9_trialFault_20 rfl 3 rfl ?_
        refine j_bipush (pc := 21) X (v := nI 16) dX9_trialFault_21 (by decide) ?_
        refine j_icmp_le (pc := 23) X (x := n) (z := nI 16) (tgt := 28) dX9_trialFault_23 (by decide) (fun c_23 => ?_) (fun c_23 => ?_)
        · skip
          obtain ⟨m, hm2, hm16, rfl⟩ := rng_of2 c_17 c_23; have hq_k := nI_clamp (n := m) (by omega)
          refine j_aload_n (pc := 28) X dX9_trialFault_28 rfl 1 rfl ?_
          refine j_get (pc := 29) X 9 i_X9 0 rfl rfl 0 (by decide) (by decide +kernel) rfl dX9_trialFault_29 ?_
          refine j_iload_n (pc := 32) X dX9_trialFault_32 rfl 2 rfl ?_
          refine j_aldq (pc := 33) X 1 rfl (vp_in_nI (by omega) (by omega)) (v := tA 0) ((congrArg (tyF tA) (nI_clamp (by decide))).trans rfl) dX9_trialFault_33 ?_
          refine j_iconst (pc := 34) X (v := nI 0) dX9_trialFault_34 (by decide) ?_
          refine j_iload_n (pc := 35) X dX9_trialFault_35 rfl 3 rfl ?_
          refine j_ciP (pc := 36) X [2] rfl (j_rVN X (b := tA 0) (As := [.int (nI 0), .int (nI m)]) (ci := 7) (rest := []) 2 (mX7_hasPlaces l G (tA 0) (nA 0) (ms 0) (so 0) (ln 0) (nI 0) (nI m) ) gX9_trialFault_X7_hasPlaces_n269 rfl rfl rfl (by decide +kernel) (by decide +kernel) (by decide +kernel) (by decide +kernel) (by decide +kernel) ⟨Nat.le_of_ble_eq_true rfl, Nat.le_of_ble_eq_true rfl⟩ rfl rfl 0 rfl [2] rfl rfl rfl (Nat.le_of_ble_eq_true rfl) dX9_trialFault_36 ⟨Nat.le_of_ble_eq_true rfl, Nat.le_of_ble_eq_true rfl⟩) ?_
          refine j_ifb_ne (pc := 39) X (B := hasP (nI 0) (nI m) (ln 0)) (tgt := 44) dX9_trialFault_39 (by decide) (fun c_39 => ?_) (fun c_39 => ?_)
          · skip
            refine j_iconst (pc := 44) X (v := nI 1) dX9_trialFault_44 (by decide) ?_
            refine j_iload_n (pc := 45) X dX9_trialFault_45 rfl 3 rfl ?_
            refine j_ishl (pc := 46) X dX9_trialFault_46 ?_
            refine j_topi (z := nI (2 ^ m)) (shl1 (by omega)) ?_
            refine j_iconst (pc := 47) X (v := nI 1) dX9_trialFault_47 (by decide) ?_
            refine j_isub (pc := 48) X dX9_trialFault_48 ?_
            refine j_topi (z := nI (2 ^ m - 1)) (pk_sub (by exact Nat.one_le_two_pow)) ?_
            refine j_istore (pc := 49) X (lv' := [(5, .int (nI (2 ^ m - 1))), (4, .int (nI (tfF ms (nI 0)))), (0, .ref qx), (1, .int (nI 0)), (2, .int (nI m)), (3, .int s)]) dX9_trialFault_49 (by decide) rfl ?_
            refine j_iload_n (pc := 51) X dX9_trialFault_51 rfl 5 rfl ?_
            refine j_if_le (pc := 52) X (x := s) (tgt := 65) dX9_trialFault_52 (by decide) (fun c_52 => ?_) (fun c_52 => ?_)
            · skip
              refine j_iconst (pc := 65) X (v := nI 0) dX9_trialFault_65 (by decide) ?_
              refine j_istore (pc := 66) X (lv' := [(6, .int (nI 0)), (5, .int (nI (2 ^ m - 1))), (4, .int (nI (tfF ms (nI 0)))), (0, .ref qx), (1, .int (nI 0)), (2, .int (nI m)), (3, .int s)]) dX9_trialFault_66 (by decide) rfl ?_
              refine j_iload (pc := 68) X dX9_trialFault_68 0 rfl ?_
              refine j_ifN_eq (pc := 70) X (a := 0) (by first | omega | (have h9 := tfF_le ms x; omega)) (tgt := 90) dX9_trialFault_70 (by decide) (fun c_70 => ?_) (fun c_70 => ?_)
              · skip
                refine j_iconst (pc := 90) X (v := nI 5) dX9_trialFault_90 (by decide) ?_
                exact j_iret (pc := 91) X dX9_trialFault_91 ⟨by first | (simp [trF, tN, cl0, cl1, cl2, cl3, c_9, c_17, c_23, c_39, c_52, c_70]; done) | (simp [trF, tN, cl0, cl1, cl2, cl3, hq_k, Int32.not_lt.mpr c_23, c_9, c_17, c_23, c_39, c_52, c_70]; done) | (simp [trF, tN, cl0, cl1, cl2, cl3, Int32.not_le.mp c_23, c_9, c_17, c_23, c_39, c_52, c_70]; done) | (simp [trF, tN, cl0, cl1, cl2, cl3, c_9, c_17, c_23, c_39, c_52, c_70]; done), by first | (simp [trF, tN, cl0, cl1, cl2, cl3, c_9, c_17, c_23, c_39, c_52, c_70]; done) | (simp [trF, tN, cl0, cl1, cl2, cl3, hq_k, Int32.not_lt.mpr c_23, c_9, c_17, c_23, c_39, c_52, c_70]; done) | (simp [trF, tN, cl0, cl1, cl2, cl3, Int32.not_le.mp c_23, c_9, c_17, c_23, c_39, c_52, c_70]; done) | (simp [trF, tN, cl0, cl1, cl2, cl3, c_9, c_17, c_23, c_39, c_52, c_70]; done)⟩
              · skip
                exact absurd c_70 (by decide)
            · skip
              refine j_iload_n (pc := 55) X dX9_trialFault_55 rfl 5 rfl ?_
              refine j_iload (pc := 56) X dX9_trialFault_56 0 rfl ?_
              refine j_icmp_ge (pc := 58) X (x := s) (z := nI (2 ^ m - 1)) (tgt := 65) dX9_trialFault_58 (by decide) (fun c_58 => ?_) (fun c_58 => ?_)
              · skip
                refine j_iconst (pc := 65) X (v := nI 0) dX9_trialFault_65 (by decide) ?_
                refine j_istore (pc := 66) X (lv' := [(6, .int (nI 0)), (5, .int (nI (2 ^ m - 1))), (4, .int (nI (tfF ms (nI 0)))), (0, .ref qx), (1, .int (nI 0)), (2, .int (nI m)), (3, .int s)]) dX9_trialFault_66 (by decide) rfl ?_
                refine j_iload (pc := 68) X dX9_trialFault_68 0 rfl ?_
                refine j_ifN_eq (pc := 70) X (a := 0) (by first | omega | (have h9 := tfF_le ms x; omega)) (tgt := 90) dX9_trialFault_70 (by decide) (fun c_70 => ?_) (fun c_70 => ?_)
                · skip
                  refine j_iconst (pc := 90) X (v := nI 5) dX9_trialFault_90 (by decide) ?_
                  exact j_iret (pc := 91) X dX9_trialFault_91 ⟨by first | (simp [trF, tN, cl0, cl1, cl2, cl3, c_9, c_17, c_23, c_39, c_52, c_58, c_70]; done) | (simp [trF, tN, cl0, cl1, cl2, cl3, hq_k, Int32.not_lt.mpr c_23, c_9, c_17, c_23, c_39, c_52, c_58, c_70]; done) | (simp [trF, tN, cl0, cl1, cl2, cl3, Int32.not_le.mp c_23, c_9, c_17, c_23, c_39, c_52, c_58, c_70]; done) | (simp [trF, tN, cl0, cl1, cl2, cl3, c_9, c_17, c_23, c_39, c_52, c_58, c_70]; done), by first | (simp [trF, tN, cl0, cl1, cl2, cl3, c_9, c_17, c_23, c_39, c_52, c_58, c_70]; done) | (simp [trF, tN, cl0, cl1, cl2, cl3, hq_k, Int32.not_lt.mpr c_23, c_9, c_17, c_23, c_39, c_52, c_58, c_70]; done) | (simp [trF, tN, cl0, cl1, cl2, cl3, Int32.not_le.mp c_23, c_9, c_17, c_23, c_39, c_52, c_58, c_70]; done) | (simp [trF, tN, cl0, cl1, cl2, cl3, c_9, c_17, c_23, c_39, c_52, c_58, c_70]; done)⟩
                · skip
                  exact absurd c_70 (by decide)
              · skip
                refine j_iconst (pc := 61) X (v := nI 1) dX9_trialFault_61 (by decide) ?_
                refine j_goto (pc := 62) X (tgt := 66) dX9_trialFault_62 (by decide) ?_
                refine j_istore (pc := 66) X (lv' := [(6, .int (nI 1)), (5, .int (nI (2 ^ m - 1))), (4, .int (nI (tfF ms (nI 0)))), (0, .ref qx), (1, .int (nI 0)), (2, .int (nI m)), (3, .int s)]) dX9_trialFault_66 (by decide) rfl ?_
                refine j_iload (pc := 68) X dX9_trialFault_68 0 rfl ?_
                refine j_ifN_eq (pc := 70) X (a := 1) (by first | omega | (have h9 := tfF_le ms x; omega)) (tgt := 90) dX9_trialFault_70 (by decide) (fun c_70 => ?_) (fun c_70 => ?_)
                · skip
                  exact absurd c_70 (by decide)
                · skip
                  refine j_aload_n (pc := 73) X dX9_trialFault_73 rfl 3 rfl ?_
                  refine j_get (pc := 74) X 9 i_X9 0 rfl rfl 0 (by decide) (by decide +kernel) rfl dX9_trialFault_74 ?_
                  refine j_iload_n (pc := 77) X dX9_trialFault_77 rfl 4 rfl ?_
                  refine j_aldq (pc := 78) X 1 rfl (vp_in_nI (by omega) (by omega)) (v := tA 0) ((congrArg (tyF tA) (nI_clamp (by decide))).trans rfl) dX9_trialFault_78 ?_
                  refine j_iload_n (pc := 79) X dX9_trialFault_79 rfl 5 rfl ?_
                  refine j_ciP (pc := 80) X [2, 6] rfl (j_rVN X (b := tA 0) (As := [.int (nI m)]) (ci := 7) (rest := []) 1 (mX7_hasOutcomes l G (tA 0) (nA 0) (ms 0) (so 0) (ln 0) (u 0) m (by omega)) gX9_trialFault_X7_hasOutcomes_n275 rfl rfl rfl (by decide +kernel) (by decide +kernel) (by decide +kernel) (by decide +kernel) (by decide +kernel) ⟨Nat.le_of_ble_eq_true rfl, Nat.le_of_ble_eq_true rfl⟩ rfl rfl 0 rfl [2, 6] rfl rfl rfl (Nat.le_of_ble_eq_true rfl) dX9_trialFault_80 ⟨Nat.le_of_ble_eq_true rfl, Nat.le_of_ble_eq_true rfl⟩) ?_
                  refine j_ifb_eq (pc := 83) X (B := outc (u 0) m) (tgt := 90) dX9_trialFault_83 (by decide) (fun c_83 => ?_) (fun c_83 => ?_)
                  · skip
                    refine j_iconst (pc := 90) X (v := nI 5) dX9_trialFault_90 (by decide) ?_
                    exact j_iret (pc := 91) X dX9_trialFault_91 ⟨by first | (simp [trF, tN, cl0, cl1, cl2, cl3, c_9, c_17, c_23, c_39, c_52, c_58, c_70, c_83]; done) | (simp [trF, tN, cl0, cl1, cl2, cl3, hq_k, Int32.not_lt.mpr c_23, c_9, c_17, c_23, c_39, c_52, c_58, c_70, c_83]; done) | (simp [trF, tN, cl0, cl1, cl2, cl3, Int32.not_le.mp c_23, c_9, c_17, c_23, c_39, c_52, c_58, c_70, c_83]; done) | (simp [trF, tN, cl0, cl1, cl2, cl3, c_9, c_17, c_23, c_39, c_52, c_58, c_70, c_83]; done), by first | (simp [trF, tN, cl0, cl1, cl2, cl3, c_9, c_17, c_23, c_39, c_52, c_58, c_70, c_83]; done) | (simp [trF, tN, cl0, cl1, cl2, cl3, hq_k, Int32.not_lt.mpr c_23, c_9, c_17, c_23, c_39, c_52, c_58, c_70, c_83]; done) | (simp [trF, tN, cl0, cl1, cl2, cl3, Int32.not_le.mp c_23, c_9, c_17, c_23, c_39, c_52, c_58, c_70, c_83]; done) | (simp [trF, tN, cl0, cl1, cl2, cl3, c_9, c_17, c_23, c_39, c_52, c_58, c_70, c_83]; done)⟩
                  · skip
                    refine j_iconst (pc := 86) X (v := nI 0) dX9_trialFault_86 (by decide) ?_
                    refine j_goto (pc := 87) X (tgt := 91) dX9_trialFault_87 (by decide) ?_
                    exact j_iret (pc := 91) X dX9_trialFault_91 ⟨by first | (simp [trF, tN, cl0, cl1, cl2, cl3, c_9, c_17, c_23, c_39, c_52, c_58, c_70, c_83]; done) | (simp [trF, tN, cl0, cl1, cl2, cl3, hq_k, Int32.not_lt.mpr c_23, c_9, c_17, c_23, c_39, c_52, c_58, c_70, c_83]; done) | (simp [trF, tN, cl0, cl1, cl2, cl3, Int32.not_le.mp c_23, c_9, c_17, c_23, c_39, c_52, c_58, c_70, c_83]; done) | (simp [trF, tN, cl0, cl1, cl2, cl3, c_9, c_17, c_23, c_39, c_52, c_58, c_70, c_83]; done), by first | (simp [trF, tN, cl0, cl1, cl2, cl3, c_9, c_17, c_23, c_39, c_52, c_58, c_70, c_83]; done) | (simp [trF, tN, cl0, cl1, cl2, cl3, hq_k, Int32.not_lt.mpr c_23, c_9, c_17, c_23, c_39, c_52, c_58, c_70, c_83]; done) | (simp [trF, tN, cl0, cl1, cl2, cl3, Int32.not_le.mp c_23, c_9, c_17, c_23, c_39, c_52, c_58, c_70, c_83]; done) | (simp [trF, tN, cl0, cl1, cl2, cl3, c_9, c_17, c_23, c_39, c_52, c_58, c_70, c_83]; done)⟩
          · skip
            refine j_iconst (pc := 42) X (v := nI 4) dX9_trialFault_42 (by decide) ?_
            exact j_iret (pc := 43) X dX9_trialFault_43 ⟨by first | (simp [trF, tN, cl0, cl1, cl2, cl3, c_9, c_17, c_23, c_39]; done) | (simp [trF, tN, cl0, cl1, cl2, cl3, hq_k, Int32.not_lt.mpr c_23, c_9, c_17, c_23, c_39]; done) | (simp [trF, tN, cl0, cl1, cl2, cl3, Int32.not_le.mp c_23, c_9, c_17, c_23, c_39]; done) | (simp [trF, tN, cl0, cl1, cl2, cl3, c_9, c_17, c_23, c_39]; done), by first | (simp [trF, tN, cl0, cl1, cl2, cl3, c_9, c_17, c_23, c_39]; done) | (simp [trF, tN, cl0, cl1, cl2, cl3, hq_k, Int32.not_lt.mpr c_23, c_9, c_17, c_23, c_39]; done) | (simp [trF, tN, cl0, cl1, cl2, cl3, Int32.not_le.mp c_23, c_9, c_17, c_23, c_39]; done) | (simp [trF, tN, cl0, cl1, cl2, cl3, c_9, c_17, c_23, c_39]; done)⟩
        · skip
          refine j_iconst (pc := 26) X (v := nI 5) dX9_trialFault_26 (by decide) ?_
          exact j_iret (pc := 27) X dX9_trialFault_27 ⟨by first | (simp [trF, tN, cl0, cl1, cl2, cl3, c_9, c_17, c_23]; done) | (simp [trF, tN, cl0, cl1, cl2, cl3, hq_k, Int32.not_lt.mpr c_23, c_9, c_17, c_23]; done) | (simp [trF, tN, cl0, cl1, cl2, cl3, Int32.not_le.mp c_23, c_9, c_17, c_23]; done) | (simp [trF, tN, cl0, cl1, cl2, cl3, c_9, c_17, c_23]; done), rfl⟩
    · skip
      refine j_iload_n (pc := 15) X dX9_trialFault_15 rfl 3 rfl ?_
      refine j_iconst (pc := 16) X (v := nI 2) dX9_trialFault_16 (by decide) ?_
      refine j_icmp_lt (pc := 17) X (x := n) (z := nI 2) (tgt := 26) dX9_trialFault_17 (by decide) (fun c_17 => ?_) (fun c_17 => ?_)
      · skip
        refine j_iconst (pc := 26) X (v := nI 5) dX9_trialFault_26 (by decide) ?_
        exact j_iret (pc := 27) X dX9_trialFault_27 ⟨by first | (simp [trF, tN, cl0, cl1, cl2, cl3, c_9, c_17]; done) | (simp [trF, tN, cl0, cl1, cl2, cl3, hq_k, Int32.not_lt.mpr c_23, c_9, c_17]; done) | (simp [trF, tN, cl0, cl1, cl2, cl3, Int32.not_le.mp c_23, c_9, c_17]; done) | (simp [trF, tN, cl0, cl1, cl2, cl3, c_9, c_17]; done), rfl⟩
      · skip
        refine j_iload_n (pc := 20) X dX9_trialFault_20 rfl 3 rfl ?_
        refine j_bipush (pc := 21) X (v := nI 16) dX9_trialFault_21 (by decide) ?_
        refine j_icmp_le (pc := 23) X (x := n) (z := nI 16) (tgt := 28) dX9_trialFault_23 (by decide) (fun c_23 => ?_) (fun c_23 => ?_)
        · skip
          obtain ⟨m, hm2, hm16, rfl⟩ := rng_of2 c_17 c_23; have hq_k := nI_clamp (n := m) (by omega)
          refine j_aload_n (pc := 28) X dX9_trialFault_28 rfl 1 rfl ?_
          refine j_get (pc := 29) X 9 i_X9 0 rfl rfl 0 (by decide) (by decide +kernel) rfl dX9_trialFault_29 ?_
          refine j_iload_n (pc := 32) X dX9_trialFault_32 rfl 2 rfl ?_
          refine j_aldq (pc := 33) X 1 rfl (vp_in_nI (by omega) (by omega)) (v := tA 1) ((congrArg (tyF tA) (nI_clamp (by decide))).trans rfl) dX9_trialFault_33 ?_
          refine j_iconst (pc := 34) X (v := nI 0) dX9_trialFault_34 (by decide) ?_
          refine j_iload_n (pc := 35) X dX9_trialFault_35 rfl 3 rfl ?_
          refine j_ciP (pc := 36) X [3] rfl (j_rVN X (b := tA 1) (As := [.int (nI 0), .int (nI m)]) (ci := 7) (rest := []) 2 (mX7_hasPlaces l G (tA 1) (nA 1) (ms 1) (so 1) (ln 1) (nI 0) (nI m) ) gX9_trialFault_X7_hasPlaces_n269 rfl rfl rfl (by decide +kernel) (by decide +kernel) (by decide +kernel) (by decide +kernel) (by decide +kernel) ⟨Nat.le_of_ble_eq_true rfl, Nat.le_of_ble_eq_true rfl⟩ rfl rfl 0 rfl [3] rfl rfl rfl (Nat.le_of_ble_eq_true rfl) dX9_trialFault_36 ⟨Nat.le_of_ble_eq_true rfl, Nat.le_of_ble_eq_true rfl⟩) ?_
          refine j_ifb_ne (pc := 39) X (B := hasP (nI 0) (nI m) (ln 1)) (tgt := 44) dX9_trialFault_39 (by decide) (fun c_39 => ?_) (fun c_39 => ?_)
          · skip
            refine j_iconst (pc := 44) X (v := nI 1) dX9_trialFault_44 (by decide) ?_
            refine j_iload_n (pc := 45) X dX9_trialFault_45 rfl 3 rfl ?_
            refine j_ishl (pc := 46) X dX9_trialFault_46 ?_
            refine j_topi (z := nI (2 ^ m)) (shl1 (by omega)) ?_
            refine j_iconst (pc := 47) X (v := nI 1) dX9_trialFault_47 (by decide) ?_
            refine j_isub (pc := 48) X dX9_trialFault_48 ?_
            refine j_topi (z := nI (2 ^ m - 1)) (pk_sub (by exact Nat.one_le_two_pow)) ?_
            refine j_istore (pc := 49) X (lv' := [(5, .int (nI (2 ^ m - 1))), (4, .int (nI (tfF ms (nI 1)))), (0, .ref qx), (1, .int (nI 1)), (2, .int (nI m)), (3, .int s)]) dX9_trialFault_49 (by decide) rfl ?_
            refine j_iload_n (pc := 51) X dX9_trialFault_51 rfl 5 rfl ?_
            refine j_if_le (pc := 52) X (x := s) (tgt := 65) dX9_trialFault_52 (by decide) (fun c_52 => ?_) (fun c_52 => ?_)
            · skip
              refine j_iconst (pc := 65) X (v := nI 0) dX9_trialFault_65 (by decide) ?_
              refine j_istore (pc := 66) X (lv' := [(6, .int (nI 0)), (5, .int (nI (2 ^ m - 1))), (4, .int (nI (tfF ms (nI 1)))), (0, .ref qx), (1, .int (nI 1)), (2, .int (nI m)), (3, .int s)]) dX9_trialFault_66 (by decide) rfl ?_
              refine j_iload (pc := 68) X dX9_trialFault_68 0 rfl ?_
              refine j_ifN_eq (pc := 70) X (a := 0) (by first | omega | (have h9 := tfF_le ms x; omega)) (tgt := 90) dX9_trialFault_70 (by decide) (fun c_70 => ?_) (fun c_70 => ?_)
              · skip
                refine j_iconst (pc := 90) X (v := nI 5) dX9_trialFault_90 (by decide) ?_
                exact j_iret (pc := 91) X dX9_trialFault_91 ⟨by first | (simp [trF, tN, cl0, cl1, cl2, cl3, c_9, c_17, c_23, c_39, c_52, c_70]; done) | (simp [trF, tN, cl0, cl1, cl2, cl3, hq_k, Int32.not_lt.mpr c_23, c_9, c_17, c_23, c_39, c_52, c_70]; done) | (simp [trF, tN, cl0, cl1, cl2, cl3, Int32.not_le.mp c_23, c_9, c_17, c_23, c_39, c_52, c_70]; done) | (simp [trF, tN, cl0, cl1, cl2, cl3, c_9, c_17, c_23, c_39, c_52, c_70]; done), by first | (simp [trF, tN, cl0, cl1, cl2, cl3, c_9, c_17, c_23, c_39, c_52, c_70]; done) | (simp [trF, tN, cl0, cl1, cl2, cl3, hq_k, Int32.not_lt.mpr c_23, c_9, c_17, c_23, c_39, c_52, c_70]; done) | (simp [trF, tN, cl0, cl1, cl2, cl3, Int32.not_le.mp c_23, c_9, c_17, c_23, c_39, c_52, c_70]; done) | (simp [trF, tN, cl0, cl1, cl2, cl3, c_9, c_17, c_23, c_39, c_52, c_70]; done)⟩
              · skip
                exact absurd c_70 (by decide)
            · skip
              refine j_iload_n (pc := 55) X dX9_trialFault_55 rfl 5 rfl ?_
              refine j_iload (pc := 56) X dX9_trialFault_56 0 rfl ?_
              refine j_icmp_ge (pc := 58) X (x := s) (z := nI (2 ^ m - 1)) (tgt := 65) dX9_trialFault_58 (by decide) (fun c_58 => ?_) (fun c_58 => ?_)
              · skip
                refine j_iconst (pc := 65) X (v := nI 0) dX9_trialFault_65 (by decide) ?_
                refine j_istore (pc := 66) X (lv' := [(6, .int (nI 0)), (5, .int (nI (2 ^ m - 1))), (4, .int (nI (tfF ms (nI 1)))), (0, .ref qx), (1, .int (nI 1)), (2, .int (nI m)), (3, .int s)]) dX9_trialFault_66 (by decide) rfl ?_
                refine j_iload (pc := 68) X dX9_trialFault_68 0 rfl ?_
                refine j_ifN_eq (pc := 70) X (a := 0) (by first | omega | (have h9 := tfF_le ms x; omega)) (tgt := 90) dX9_trialFault_70 (by decide) (fun c_70 => ?_) (fun c_70 => ?_)
                · skip
                  refine j_iconst (pc := 90) X (v := nI 5) dX9_trialFault_90 (by decide) ?_
                  exact j_iret (pc := 91) X dX9_trialFault_91 ⟨by first | (simp [trF, tN, cl0, cl1, cl2, cl3, c_9, c_17, c_23, c_39, c_52, c_58, c_70]; done) | (simp [trF, tN, cl0, cl1, cl2, cl3, hq_k, Int32.not_lt.mpr c_23, c_9, c_17, c_23, c_39, c_52, c_58, c_70]; done) | (simp [trF, tN, cl0, cl1, cl2, cl3, Int32.not_le.mp c_23, c_9, c_17, c_23, c_39, c_52, c_58, c_70]; done) | (simp [trF, tN, cl0, cl1, cl2, cl3, c_9, c_17, c_23, c_39, c_52, c_58, c_70]; done), by first | (simp [trF, tN, cl0, cl1, cl2, cl3, c_9, c_17, c_23, c_39, c_52, c_58, c_70]; done) | (simp [trF, tN, cl0, cl1, cl2, cl3, hq_k, Int32.not_lt.mpr c_23, c_9, c_17, c_23, c_39, c_52, c_58, c_70]; done) | (simp [trF, tN, cl0, cl1, cl2, cl3, Int32.not_le.mp c_23, c_9, c_17, c_23, c_39, c_52, c_58, c_70]; done) | (simp [trF, tN, cl0, cl1, cl2, cl3, c_9, c_17, c_23, c_39, c_52, c_58, c_70]; done)⟩
                · skip
                  exact absurd c_70 (by decide)
              · skip
                refine j_iconst (pc := 61) X (v := nI 1) dX9_trialFault_61 (by decide) ?_
                refine j_goto (pc := 62) X (tgt := 66) dX9_trialFault_62 (by decide) ?_
                refine j_istore (pc := 66) X (lv' := [(6, .int (nI 1)), (5, .int (nI (2 ^ m - 1))), (4, .int (nI (tfF ms (nI 1)))), (0, .ref qx), (1, .int (nI 1)), (2, .int (nI m)), (3, .int s)]) dX9_trialFault_66 (by decide) rfl ?_
                refine j_iload (pc := 68) X dX9_trialFault_68 0 rfl ?_
                refine j_ifN_eq (pc := 70) X (a := 1) (by first | omega | (have h9 := tfF_le ms x; omega)) (tgt := 90) dX9_trialFault_70 (by decide) (fun c_70 => ?_) (fun c_70 => ?_)
                · skip
                  exact absurd c_70 (by decide)
                · skip
                  refine j_aload_n (pc := 73) X dX9_trialFault_73 rfl 3 rfl ?_
                  refine j_get (pc := 74) X 9 i_X9 0 rfl rfl 0 (by decide) (by decide +kernel) rfl dX9_trialFault_74 ?_
                  refine j_iload_n (pc := 77) X dX9_trialFault_77 rfl 4 rfl ?_
                  refine j_aldq (pc := 78) X 1 rfl (vp_in_nI (by omega) (by omega)) (v := tA 1) ((congrArg (tyF tA) (nI_clamp (by decide))).trans rfl) dX9_trialFault_78 ?_
                  refine j_iload_n (pc := 79) X dX9_trialFault_79 rfl 5 rfl ?_
                  refine j_ciP (pc := 80) X [3, 7] rfl (j_rVN X (b := tA 1) (As := [.int (nI m)]) (ci := 7) (rest := []) 1 (mX7_hasOutcomes l G (tA 1) (nA 1) (ms 1) (so 1) (ln 1) (u 1) m (by omega)) gX9_trialFault_X7_hasOutcomes_n275 rfl rfl rfl (by decide +kernel) (by decide +kernel) (by decide +kernel) (by decide +kernel) (by decide +kernel) ⟨Nat.le_of_ble_eq_true rfl, Nat.le_of_ble_eq_true rfl⟩ rfl rfl 0 rfl [3, 7] rfl rfl rfl (Nat.le_of_ble_eq_true rfl) dX9_trialFault_80 ⟨Nat.le_of_ble_eq_true rfl, Nat.le_of_ble_eq_true rfl⟩) ?_
                  refine j_ifb_eq (pc := 83) X (B := outc (u 1) m) (tgt := 90) dX9_trialFault_83 (by decide) (fun c_83 => ?_) (fun c_83 => ?_)
                  · skip
                    refine j_iconst (pc := 90) X (v := nI 5) dX9_trialFault_90 (by decide) ?_
                    exact j_iret (pc := 91) X dX9_trialFault_91 ⟨by first | (simp [trF, tN, cl0, cl1, cl2, cl3, c_9, c_17, c_23, c_39, c_52, c_58, c_70, c_83]; done) | (simp [trF, tN, cl0, cl1, cl2, cl3, hq_k, Int32.not_lt.mpr c_23, c_9, c_17, c_23, c_39, c_52, c_58, c_70, c_83]; done) | (simp [trF, tN, cl0, cl1, cl2, cl3, Int32.not_le.mp c_23, c_9, c_17, c_23, c_39, c_52, c_58, c_70, c_83]; done) | (simp [trF, tN, cl0, cl1, cl2, cl3, c_9, c_17, c_23, c_39, c_52, c_58, c_70, c_83]; done), by first | (simp [trF, tN, cl0, cl1, cl2, cl3, c_9, c_17, c_23, c_39, c_52, c_58, c_70, c_83]; done) | (simp [trF, tN, cl0, cl1, cl2, cl3, hq_k, Int32.not_lt.mpr c_23, c_9, c_17, c_23, c_39, c_52, c_58, c_70, c_83]; done) | (simp [trF, tN, cl0, cl1, cl2, cl3, Int32.not_le.mp c_23, c_9, c_17, c_23, c_39, c_52, c_58, c_70, c_83]; done) | (simp [trF, tN, cl0, cl1, cl2, cl3, c_9, c_17, c_23, c_39, c_52, c_58, c_70, c_83]; done)⟩
                  · skip
                    refine j_iconst (pc := 86) X (v := nI 0) dX9_trialFault_86 (by decide) ?_
                    refine j_goto (pc := 87) X (tgt := 91) dX9_trialFault_87 (by decide) ?_
                    exact j_iret (pc := 91) X dX9_trialFault_91 ⟨by first | (simp [trF, tN, cl0, cl1, cl2, cl3, c_9, c_17, c_23, c_39, c_52, c_58, c_70, c_83]; done) | (simp [trF, tN, cl0, cl1, cl2, cl3, hq_k, Int32.not_lt.mpr c_23, c_9, c_17, c_23, c_39, c_52, c_58, c_70, c_83]; done) | (simp [trF, tN, cl0, cl1, cl2, cl3, Int32.not_le.mp c_23, c_9, c_17, c_23, c_39, c_52, c_58, c_70, c_83]; done) | (simp [trF, tN, cl0, cl1, cl2, cl3, c_9, c_17, c_23, c_39, c_52, c_58, c_70, c_83]; done), by first | (simp [trF, tN, cl0, cl1, cl2, cl3, c_9, c_17, c_23, c_39, c_52, c_58, c_70, c_83]; done) | (simp [trF, tN, cl0, cl1, cl2, cl3, hq_k, Int32.not_lt.mpr c_23, c_9, c_17, c_23, c_39, c_52, c_58, c_70, c_83]; done) | (simp [trF, tN, cl0, cl1, cl2, cl3, Int32.not_le.mp c_23, c_9, c_17, c_23, c_39, c_52, c_58, c_70, c_83]; done) | (simp [trF, tN, cl0, cl1, cl2, cl3, c_9, c_17, c_23, c_39, c_52, c_58, c_70, c_83]; done)⟩
          · skip
            refine j_iconst (pc := 42) X (v := nI 4) dX9_trialFault_42 (by decide) ?_
            exact j_iret (pc := 43) X dX9_trialFault_43 ⟨by first | (simp [trF, tN, cl0, cl1, cl2, cl3, c_9, c_17, c_23, c_39]; done) | (simp [trF, tN, cl0, cl1, cl2, cl3, hq_k, Int32.not_lt.mpr c_23, c_9, c_17, c_23, c_39]; done) | (simp [trF, tN, cl0, cl1, cl2, cl3, Int32.not_le.mp c_23, c_9, c_17, c_23, c_39]; done) | (simp [trF, tN, cl0, cl1, cl2, cl3, c_9, c_17, c_23, c_39]; done), by first | (simp [trF, tN, cl0, cl1, cl2, cl3, c_9, c_17, c_23, c_39]; done) | (simp [trF, tN, cl0, cl1, cl2, cl3, hq_k, Int32.not_lt.mpr c_23, c_9, c_17, c_23, c_39]; done) | (simp [trF, tN, cl0, cl1, cl2, cl3, Int32.not_le.mp c_23, c_9, c_17, c_23, c_39]; done) | (simp [trF, tN, cl0, cl1, cl2, cl3, c_9, c_17, c_23, c_39]; done)⟩
        · skip
          refine j_iconst (pc := 26) X (v := nI 5) dX9_trialFault_26 (by decide) ?_
          exact j_iret (pc := 27) X dX9_trialFault_27 ⟨by first | (simp [trF, tN, cl0, cl1, cl2, cl3, c_9, c_17, c_23]; done) | (simp [trF, tN, cl0, cl1, cl2, cl3, hq_k, Int32.not_lt.mpr c_23, c_9, c_17, c_23]; done) | (simp [trF, tN, cl0, cl1, cl2, cl3, Int32.not_le.mp c_23, c_9, c_17, c_23]; done) | (simp [trF, tN, cl0, cl1, cl2, cl3, c_9, c_17, c_23]; done), rfl⟩
    · skip
      refine j_iload_n (pc := 15) X dX9_trialFault_15 rfl 3 rfl ?_
      refine j_iconst (pc := 16) X (v := nI 2) dX9_trialFault_16 (by decide) ?_
      refine j_icmp_lt (pc := 17) X (x := n) (z := nI 2) (tgt := 26) dX9_trialFault_17 (by decide) (fun c_17 => ?_) (fun c_17 => ?_)
      · skip
        refine j_iconst (pc := 26) X (v := nI 5) dX9_trialFault_26 (by decide) ?_
        exact j_iret (pc := 27) X dX9_trialFault_27 ⟨by first | (simp [trF, tN, cl0, cl1, cl2, cl3, c_9, c_17]; done) | (simp [trF, tN, cl0, cl1, cl2, cl3, hq_k, Int32.not_lt.mpr c_23, c_9, c_17]; done) | (simp [trF, tN, cl0, cl1, cl2, cl3, Int32.not_le.mp c_23, c_9, c_17]; done) | (simp [trF, tN, cl0, cl1, cl2, cl3, c_9, c_17]; done), rfl⟩
      · skip
        refine j_iload_n (pc := 20) X dX9_trialFault_20 rfl 3 rfl ?_
        refine j_bipush (pc := 21) X (v := nI 16) dX9_trialFault_21 (by decide) ?_
        refine j_icmp_le (pc := 23) X (x := n) (z := nI 16) (tgt := 28) dX9_trialFault_23 (by decide) (fun c_23 => ?_) (fun c_23 => ?_)
        · skip
          obtain ⟨m, hm2, hm16, rfl⟩ := rng_of2 c_17 c_23; have hq_k := nI_clamp (n := m) (by omega)
          refine j_aload_n (pc := 28) X dX9_trialFault_28 rfl 1 rfl ?_
          refine j_get (pc := 29) X 9 i_X9 0 rfl rfl 0 (by decide) (by decide +kernel) rfl dX9_trialFault_29 ?_
          refine j_iload_n (pc := 32) X dX9_trialFault_32 rfl 2 rfl ?_
          refine j_aldq (pc := 33) X 1 rfl (vp_in_nI (by omega) (by omega)) (v := tA 2) ((congrArg (tyF tA) (nI_clamp (by decide))).trans rfl) dX9_trialFault_33 ?_
          refine j_iconst (pc := 34) X (v := nI 0) dX9_trialFault_34 (by decide) ?_
          refine j_iload_n (pc := 35) X dX9_trialFault_35 rfl 3 rfl ?_
          refine j_ciP (pc := 36) X [4] rfl (j_rVN X (b := tA 2) (As := [.int (nI 0), .int (nI m)]) (ci := 7) (rest := []) 2 (mX7_hasPlaces l G (tA 2) (nA 2) (ms 2) (so 2) (ln 2) (nI 0) (nI m) ) gX9_trialFault_X7_hasPlaces_n269 rfl rfl rfl (by decide +kernel) (by decide +kernel) (by decide +kernel) (by decide +kernel) (by decide +kernel) ⟨Nat.le_of_ble_eq_true rfl, Nat.le_of_ble_eq_true rfl⟩ rfl rfl 0 rfl [4] rfl rfl rfl (Nat.le_of_ble_eq_true rfl) dX9_trialFault_36 ⟨Nat.le_of_ble_eq_true rfl, Nat.le_of_ble_eq_true rfl⟩) ?_
          refine j_ifb_ne (pc := 39) X (B := hasP (nI 0) (nI m) (ln 2)) (tgt := 44) dX9_trialFault_39 (by decide) (fun c_39 => ?_) (fun c_39 => ?_)
          · skip
            refine j_iconst (pc := 44) X (v := nI 1) dX9_trialFault_44 (by decide) ?_
            refine j_iload_n (pc := 45) X dX9_trialFault_45 rfl 3 rfl ?_
            refine j_ishl (pc := 46) X dX9_trialFault_46 ?_
            refine j_topi (z := nI (2 ^ m)) (shl1 (by omega)) ?_
            refine j_iconst (pc := 47) X (v := nI 1) dX9_trialFault_47 (by decide) ?_
            refine j_isub (pc := 48) X dX9_trialFault_48 ?_
            refine j_topi (z := nI (2 ^ m - 1)) (pk_sub (by exact Nat.one_le_two_pow)) ?_
            refine j_istore (pc := 49) X (lv' := [(5, .int (nI (2 ^ m - 1))), (4, .int (nI (tfF ms (nI 2)))), (0, .ref qx), (1, .int (nI 2)), (2, .int (nI m)), (3, .int s)]) dX9_trialFault_49 (by decide) rfl ?_
            refine j_iload_n (pc := 51) X dX9_trialFault_51 rfl 5 rfl ?_
            refine j_if_le (pc := 52) X (x := s) (tgt := 65) dX9_trialFault_52 (by decide) (fun c_52 => ?_) (fun c_52 => ?_)
            · skip
              refine j_iconst (pc := 65) X (v := nI 0) dX9_trialFault_65 (by decide) ?_
              refine j_istore (pc := 66) X (lv' := [(6, .int (nI 0)), (5, .int (nI (2 ^ m - 1))), (4, .int (nI (tfF ms (nI 2)))), (0, .ref qx), (1, .int (nI 2)), (2, .int (nI m)), (3, .int s)]) dX9_trialFault_66 (by decide) rfl ?_
              refine j_iload (pc := 68) X dX9_trialFault_68 0 rfl ?_
              refine j_ifN_eq (pc := 70) X (a := 0) (by first | omega | (have h9 := tfF_le ms x; omega)) (tgt := 90) dX9_trialFault_70 (by decide) (fun c_70 => ?_) (fun c_70 => ?_)
              · skip
                refine j_iconst (pc := 90) X (v := nI 5) dX9_trialFault_90 (by decide) ?_
                exact j_iret (pc := 91) X dX9_trialFault_91 ⟨by first | (simp [trF, tN, cl0, cl1, cl2, cl3, c_9, c_17, c_23, c_39, c_52, c_70]; done) | (simp [trF, tN, cl0, cl1, cl2, cl3, hq_k, Int32.not_lt.mpr c_23, c_9, c_17, c_23, c_39, c_52, c_70]; done) | (simp [trF, tN, cl0, cl1, cl2, cl3, Int32.not_le.mp c_23, c_9, c_17, c_23, c_39, c_52, c_70]; done) | (simp [trF, tN, cl0, cl1, cl2, cl3, c_9, c_17, c_23, c_39, c_52, c_70]; done), by first | (simp [trF, tN, cl0, cl1, cl2, cl3, c_9, c_17, c_23, c_39, c_52, c_70]; done) | (simp [trF, tN, cl0, cl1, cl2, cl3, hq_k, Int32.not_lt.mpr c_23, c_9, c_17, c_23, c_39, c_52, c_70]; done) | (simp [trF, tN, cl0, cl1, cl2, cl3, Int32.not_le.mp c_23, c_9, c_17, c_23, c_39, c_52, c_70]; done) | (simp [trF, tN, cl0, cl1, cl2, cl3, c_9, c_17, c_23, c_39, c_52, c_70]; done)⟩
              · skip
                exact absurd c_70 (by decide)
            · skip
              refine j_iload_n (pc := 55) X dX9_trialFault_55 rfl 5 rfl ?_
              refine j_iload (pc := 56) X dX9_trialFault_56 0 rfl ?_
              refine j_icmp_ge (pc := 58) X (x := s) (z := nI (2 ^ m - 1)) (tgt := 65) dX9_trialFault_58 (by decide) (fun c_58 => ?_) (fun c_58 => ?_)
              · skip
                refine j_iconst (pc := 65) X (v := nI 0) dX9_trialFault_65 (by decide) ?_
                refine j_istore (pc := 66) X (lv' := [(6, .int (nI 0)), (5, .int (nI (2 ^ m - 1))), (4, .int (nI (tfF ms (nI 2)))), (0, .ref qx), (1, .int (nI 2)), (2, .int (nI m)), (3, .int s)]) dX9_trialFault_66 (by decide) rfl ?_
                refine j_iload (pc := 68) X dX9_trialFault_68 0 rfl ?_
                refine j_ifN_eq (pc := 70) X (a := 0) (by first | omega | (have h9 := tfF_le ms x; omega)) (tgt := 90) dX9_trialFault_70 (by decide) (fun c_70 => ?_) (fun c_70 => ?_)
                · skip
                  refine j_iconst (pc := 90) X (v := nI 5) dX9_trialFault_90 (by decide) ?_
                  exact j_iret (pc := 91) X dX9_trialFault_91 ⟨by first | (simp [trF, tN, cl0, cl1, cl2, cl3, c_9, c_17, c_23, c_39, c_52, c_58, c_70]; done) | (simp [trF, tN, cl0, cl1, cl2, cl3, hq_k, Int32.not_lt.mpr c_23, c_9, c_17, c_23, c_39, c_52, c_58, c_70]; done) | (simp [trF, tN, cl0, cl1, cl2, cl3, Int32.not_le.mp c_23, c_9, c_17, c_23, c_39, c_52, c_58, c_70]; done) | (simp [trF, tN, cl0, cl1, cl2, cl3, c_9, c_17, c_23, c_39, c_52, c_58, c_70]; done), by first | (simp [trF, tN, cl0, cl1, cl2, cl3, c_9, c_17, c_23, c_39, c_52, c_58, c_70]; done) | (simp [trF, tN, cl0, cl1, cl2, cl3, hq_k, Int32.not_lt.mpr c_23, c_9, c_17, c_23, c_39, c_52, c_58, c_70]; done) | (simp [trF, tN, cl0, cl1, cl2, cl3, Int32.not_le.mp c_23, c_9, c_17, c_23, c_39, c_52, c_58, c_70]; done) | (simp [trF, tN, cl0, cl1, cl2, cl3, c_9, c_17, c_23, c_39, c_52, c_58, c_70]; done)⟩
                · skip
                  exact absurd c_70 (by decide)
              · skip
                refine j_iconst (pc := 61) X (v := nI 1) dX9_trialFault_61 (by decide) ?_
                refine j_goto (pc := 62) X (tgt := 66) dX9_trialFault_62 (by decide) ?_
                refine j_istore (pc := 66) X (lv' := [(6, .int (nI 1)), (5, .int (nI (2 ^ m - 1))), (4, .int (nI (tfF ms (nI 2)))), (0, .ref qx), (1, .int (nI 2)), (2, .int (nI m)), (3, .int s)]) dX9_trialFault_66 (by decide) rfl ?_
                refine j_iload (pc := 68) X dX9_trialFault_68 0 rfl ?_
                refine j_ifN_eq (pc := 70) X (a := 1) (by first | omega | (have h9 := tfF_le ms x; omega)) (tgt := 90) dX9_trialFault_70 (by decide) (fun c_70 => ?_) (fun c_70 => ?_)
                · skip
                  exact absurd c_70 (by decide)
                · skip
                  refine j_aload_n (pc := 73) X dX9_trialFault_73 rfl 3 rfl ?_
                  refine j_get (pc := 74) X 9 i_X9 0 rfl rfl 0 (by decide) (by decide +kernel) rfl dX9_trialFault_74 ?_
                  refine j_iload_n (pc := 77) X dX9_trialFault_77 rfl 4 rfl ?_
                  refine j_aldq (pc := 78) X 1 rfl (vp_in_nI (by omega) (by omega)) (v := tA 2) ((congrArg (tyF tA) (nI_clamp (by decide))).trans rfl) dX9_trialFault_78 ?_
                  refine j_iload_n (pc := 79) X dX9_trialFault_79 rfl 5 rfl ?_
                  refine j_ciP (pc := 80) X [4, 8] rfl (j_rVN X (b := tA 2) (As := [.int (nI m)]) (ci := 7) (rest := []) 1 (mX7_hasOutcomes l G (tA 2) (nA 2) (ms 2) (so 2) (ln 2) (u 2) m (by omega)) gX9_trialFault_X7_hasOutcomes_n275 rfl rfl rfl (by decide +kernel) (by decide +kernel) (by decide +kernel) (by decide +kernel) (by decide +kernel) ⟨Nat.le_of_ble_eq_true rfl, Nat.le_of_ble_eq_true rfl⟩ rfl rfl 0 rfl [4, 8] rfl rfl rfl (Nat.le_of_ble_eq_true rfl) dX9_trialFault_80 ⟨Nat.le_of_ble_eq_true rfl, Nat.le_of_ble_eq_true rfl⟩) ?_
                  refine j_ifb_eq (pc := 83) X (B := outc (u 2) m) (tgt := 90) dX9_trialFault_83 (by decide) (fun c_83 => ?_) (fun c_83 => ?_)
                  · skip
                    refine j_iconst (pc := 90) X (v := nI 5) dX9_trialFault_90 (by decide) ?_
                    exact j_iret (pc := 91) X dX9_trialFault_91 ⟨by first | (simp [trF, tN, cl0, cl1, cl2, cl3, c_9, c_17, c_23, c_39, c_52, c_58, c_70, c_83]; done) | (simp [trF, tN, cl0, cl1, cl2, cl3, hq_k, Int32.not_lt.mpr c_23, c_9, c_17, c_23, c_39, c_52, c_58, c_70, c_83]; done) | (simp [trF, tN, cl0, cl1, cl2, cl3, Int32.not_le.mp c_23, c_9, c_17, c_23, c_39, c_52, c_58, c_70, c_83]; done) | (simp [trF, tN, cl0, cl1, cl2, cl3, c_9, c_17, c_23, c_39, c_52, c_58, c_70, c_83]; done), by first | (simp [trF, tN, cl0, cl1, cl2, cl3, c_9, c_17, c_23, c_39, c_52, c_58, c_70, c_83]; done) | (simp [trF, tN, cl0, cl1, cl2, cl3, hq_k, Int32.not_lt.mpr c_23, c_9, c_17, c_23, c_39, c_52, c_58, c_70, c_83]; done) | (simp [trF, tN, cl0, cl1, cl2, cl3, Int32.not_le.mp c_23, c_9, c_17, c_23, c_39, c_52, c_58, c_70, c_83]; done) | (simp [trF, tN, cl0, cl1, cl2, cl3, c_9, c_17, c_23, c_39, c_52, c_58, c_70, c_83]; done)⟩
                  · skip
                    refine j_iconst (pc := 86) X (v := nI 0) dX9_trialFault_86 (by decide) ?_
                    refine j_goto (pc := 87) X (tgt := 91) dX9_trialFault_87 (by decide) ?_
                    exact j_iret (pc := 91) X dX9_trialFault_91 ⟨by first | (simp [trF, tN, cl0, cl1, cl2, cl3, c_9, c_17, c_23, c_39, c_52, c_58, c_70, c_83]; done) | (simp [trF, tN, cl0, cl1, cl2, cl3, hq_k, Int32.not_lt.mpr c_23, c_9, c_17, c_23, c_39, c_52, c_58, c_70, c_83]; done) | (simp [trF, tN, cl0, cl1, cl2, cl3, Int32.not_le.mp c_23, c_9, c_17, c_23, c_39, c_52, c_58, c_70, c_83]; done) | (simp [trF, tN, cl0, cl1, cl2, cl3, c_9, c_17, c_23, c_39, c_52, c_58, c_70, c_83]; done), by first | (simp [trF, tN, cl0, cl1, cl2, cl3, c_9, c_17, c_23, c_39, c_52, c_58, c_70, c_83]; done) | (simp [trF, tN, cl0, cl1, cl2, cl3, hq_k, Int32.not_lt.mpr c_23, c_9, c_17, c_23, c_39, c_52, c_58, c_70, c_83]; done) | (simp [trF, tN, cl0, cl1, cl2, cl3, Int32.not_le.mp c_23, c_9, c_17, c_23, c_39, c_52, c_58, c_70, c_83]; done) | (simp [trF, tN, cl0, cl1, cl2, cl3, c_9, c_17, c_23, c_39, c_52, c_58, c_70, c_83]; done)⟩
          · skip
            refine j_iconst (pc := 42) X (v := nI 4) dX9_trialFault_42 (by decide) ?_
            exact j_iret (pc := 43) X dX9_trialFault_43 ⟨by first | (simp [trF, tN, cl0, cl1, cl2, cl3, c_9, c_17, c_23, c_39]; done) | (simp [trF, tN, cl0, cl1, cl2, cl3, hq_k, Int32.not_lt.mpr c_23, c_9, c_17, c_23, c_39]; done) | (simp [trF, tN, cl0, cl1, cl2, cl3, Int32.not_le.mp c_23, c_9, c_17, c_23, c_39]; done) | (simp [trF, tN, cl0, cl1, cl2, cl3, c_9, c_17, c_23, c_39]; done), by first | (simp [trF, tN, cl0, cl1, cl2, cl3, c_9, c_17, c_23, c_39]; done) | (simp [trF, tN, cl0, cl1, cl2, cl3, hq_k, Int32.not_lt.mpr c_23, c_9, c_17, c_23, c_39]; done) | (simp [trF, tN, cl0, cl1, cl2, cl3, Int32.not_le.mp c_23, c_9, c_17, c_23, c_39]; done) | (simp [trF, tN, cl0, cl1, cl2, cl3, c_9, c_17, c_23, c_39]; done)⟩
        · skip
          refine j_iconst (pc := 26) X (v := nI 5) dX9_trialFault_26 (by decide) ?_
          exact j_iret (pc := 27) X dX9_trialFault_27 ⟨by first | (simp [trF, tN, cl0, cl1, cl2, cl3, c_9, c_17, c_23]; done) | (simp [trF, tN, cl0, cl1, cl2, cl3, hq_k, Int32.not_lt.mpr c_23, c_9, c_17, c_23]; done) | (simp [trF, tN, cl0, cl1, cl2, cl3, Int32.not_le.mp c_23, c_9, c_17, c_23]; done) | (simp [trF, tN, cl0, cl1, cl2, cl3, c_9, c_17, c_23]; done), rfl⟩
    · skip
      refine j_iload_n (pc := 15) X dX9_trialFault_15 rfl 3 rfl ?_
      refine j_iconst (pc := 16) X (v := nI 2) dX9_trialFault_16 (by decide) ?_
      refine j_icmp_lt (pc := 17) X (x := n) (z := nI 2) (tgt := 26) dX9_trialFault_17 (by decide) (fun c_17 => ?_) (fun c_17 => ?_)
      · skip
        refine j_iconst (pc := 26) X (v := nI 5) dX9_trialFault_26 (by decide) ?_
        exact j_iret (pc := 27) X dX9_trialFault_27 ⟨by first | (simp [trF, tN, cl0, cl1, cl2, cl3, c_9, c_17]; done) | (simp [trF, tN, cl0, cl1, cl2, cl3, hq_k, Int32.not_lt.mpr c_23, c_9, c_17]; done) | (simp [trF, tN, cl0, cl1, cl2, cl3, Int32.not_le.mp c_23, c_9, c_17]; done) | (simp [trF, tN, cl0, cl1, cl2, cl3, c_9, c_17]; done), rfl⟩
      · skip
        refine j_iload_n (pc := 20) X dX9_trialFault_20 rfl 3 rfl ?_
        refine j_bipush (pc := 21) X (v := nI 16) dX9_trialFault_21 (by decide) ?_
        refine j_icmp_le (pc := 23) X (x := n) (z := nI 16) (tgt := 28) dX9_trialFault_23 (by decide) (fun c_23 => ?_) (fun c_23 => ?_)
        · skip
          obtain ⟨m, hm2, hm16, rfl⟩ := rng_of2 c_17 c_23; have hq_k := nI_clamp (n := m) (by omega)
          refine j_aload_n (pc := 28) X dX9_trialFault_28 rfl 1 rfl ?_
          refine j_get (pc := 29) X 9 i_X9 0 rfl rfl 0 (by decide) (by decide +kernel) rfl dX9_trialFault_29 ?_
          refine j_iload_n (pc := 32) X dX9_trialFault_32 rfl 2 rfl ?_
          refine j_aldq (pc := 33) X 1 rfl (vp_in_nI (by omega) (by omega)) (v := tA 3) ((congrArg (tyF tA) (nI_clamp (by decide))).trans rfl) dX9_trialFault_33 ?_
          refine j_iconst (pc := 34) X (v := nI 0) dX9_trialFault_34 (by decide) ?_
          refine j_iload_n (pc := 35) X dX9_trialFault_35 rfl 3 rfl ?_
          refine j_ciP (pc := 36) X [5] rfl (j_rVN X (b := tA 3) (As := [.int (nI 0), .int (nI m)]) (ci := 7) (rest := []) 2 (mX7_hasPlaces l G (tA 3) (nA 3) (ms 3) (so 3) (ln 3) (nI 0) (nI m) ) gX9_trialFault_X7_hasPlaces_n269 rfl rfl rfl (by decide +kernel) (by decide +kernel) (by decide +kernel) (by decide +kernel) (by decide +kernel) ⟨Nat.le_of_ble_eq_true rfl, Nat.le_of_ble_eq_true rfl⟩ rfl rfl 0 rfl [5] rfl rfl rfl (Nat.le_of_ble_eq_true rfl) dX9_trialFault_36 ⟨Nat.le_of_ble_eq_true rfl, Nat.le_of_ble_eq_true rfl⟩) ?_
          refine j_ifb_ne (pc := 39) X (B := hasP (nI 0) (nI m) (ln 3)) (tgt := 44) dX9_trialFault_39 (by decide) (fun c_39 => ?_) (fun c_39 => ?_)
          · skip
            refine j_iconst (pc := 44) X (v := nI 1) dX9_trialFault_44 (by decide) ?_
            refine j_iload_n (pc := 45) X dX9_trialFault_45 rfl 3 rfl ?_
            refine j_ishl (pc := 46) X dX9_trialFault_46 ?_
            refine j_topi (z := nI (2 ^ m)) (shl1 (by omega)) ?_
            refine j_iconst (pc := 47) X (v := nI 1) dX9_trialFault_47 (by decide) ?_
            refine j_isub (pc := 48) X dX9_trialFault_48 ?_
            refine j_topi (z := nI (2 ^ m - 1)) (pk_sub (by exact Nat.one_le_two_pow)) ?_
            refine j_istore (pc := 49) X (lv' := [(5, .int (nI (2 ^ m - 1))), (4, .int (nI (tfF ms (nI 3)))), (0, .ref qx), (1, .int (nI 3)), (2, .int (nI m)), (3, .int s)]) dX9_trialFault_49 (by decide) rfl ?_
            refine j_iload_n (pc := 51) X dX9_trialFault_51 rfl 5 rfl ?_
            refine j_if_le (pc := 52) X (x := s) (tgt := 65) dX9_trialFault_52 (by decide) (fun c_52 => ?_) (fun c_52 => ?_)
            · skip
              refine j_iconst (pc := 65) X (v := nI 0) dX9_trialFault_65 (by decide) ?_
              refine j_istore (pc := 66) X (lv' := [(6, .int (nI 0)), (5, .int (nI (2 ^ m - 1))), (4, .int (nI (tfF ms (nI 3)))), (0, .ref qx), (1, .int (nI 3)), (2, .int (nI m)), (3, .int s)]) dX9_trialFault_66 (by decide) rfl ?_
              refine j_iload (pc := 68) X dX9_trialFault_68 0 rfl ?_
              refine j_ifN_eq (pc := 70) X (a := 0) (by first | omega | (have h9 := tfF_le ms x; omega)) (tgt := 90) dX9_trialFault_70 (by decide) (fun c_70 => ?_) (fun c_70 => ?_)
              · skip
                refine j_iconst (pc := 90) X (v := nI 5) dX9_trialFault_90 (by decide) ?_
                exact j_iret (pc := 91) X dX9_trialFault_91 ⟨by first | (simp [trF, tN, cl0, cl1, cl2, cl3, c_9, c_17, c_23, c_39, c_52, c_70]; done) | (simp [trF, tN, cl0, cl1, cl2, cl3, hq_k, Int32.not_lt.mpr c_23, c_9, c_17, c_23, c_39, c_52, c_70]; done) | (simp [trF, tN, cl0, cl1, cl2, cl3, Int32.not_le.mp c_23, c_9, c_17, c_23, c_39, c_52, c_70]; done) | (simp [trF, tN, cl0, cl1, cl2, cl3, c_9, c_17, c_23, c_39, c_52, c_70]; done), by first | (simp [trF, tN, cl0, cl1, cl2, cl3, c_9, c_17, c_23, c_39, c_52, c_70]; done) | (simp [trF, tN, cl0, cl1, cl2, cl3, hq_k, Int32.not_lt.mpr c_23, c_9, c_17, c_23, c_39, c_52, c_70]; done) | (simp [trF, tN, cl0, cl1, cl2, cl3, Int32.not_le.mp c_23, c_9, c_17, c_23, c_39, c_52, c_70]; done) | (simp [trF, tN, cl0, cl1, cl2, cl3, c_9, c_17, c_23, c_39, c_52, c_70]; done)⟩
              · skip
                exact absurd c_70 (by decide)
            · skip
              refine j_iload_n (pc := 55) X dX9_trialFault_55 rfl 5 rfl ?_
              refine j_iload (pc := 56) X dX9_trialFault_56 0 rfl ?_
              refine j_icmp_ge (pc := 58) X (x := s) (z := nI (2 ^ m - 1)) (tgt := 65) dX9_trialFault_58 (by decide) (fun c_58 => ?_) (fun c_58 => ?_)
              · skip
                refine j_iconst (pc := 65) X (v := nI 0) dX9_trialFault_65 (by decide) ?_
                refine j_istore (pc := 66) X (lv' := [(6, .int (nI 0)), (5, .int (nI (2 ^ m - 1))), (4, .int (nI (tfF ms (nI 3)))), (0, .ref qx), (1, .int (nI 3)), (2, .int (nI m)), (3, .int s)]) dX9_trialFault_66 (by decide) rfl ?_
                refine j_iload (pc := 68) X dX9_trialFault_68 0 rfl ?_
                refine j_ifN_eq (pc := 70) X (a := 0) (by first | omega | (have h9 := tfF_le ms x; omega)) (tgt := 90) dX9_trialFault_70 (by decide) (fun c_70 => ?_) (fun c_70 => ?_)
                · skip
                  refine j_iconst (pc := 90) X (v := nI 5) dX9_trialFault_90 (by decide) ?_
                  exact j_iret (pc := 91) X dX9_trialFault_91 ⟨by first | (simp [trF, tN, cl0, cl1, cl2, cl3, c_9, c_17, c_23, c_39, c_52, c_58, c_70]; done) | (simp [trF, tN, cl0, cl1, cl2, cl3, hq_k, Int32.not_lt.mpr c_23, c_9, c_17, c_23, c_39, c_52, c_58, c_70]; done) | (simp [trF, tN, cl0, cl1, cl2, cl3, Int32.not_le.mp c_23, c_9, c_17, c_23, c_39, c_52, c_58, c_70]; done) | (simp [trF, tN, cl0, cl1, cl2, cl3, c_9, c_17, c_23, c_39, c_52, c_58, c_70]; done), by first | (simp [trF, tN, cl0, cl1, cl2, cl3, c_9, c_17, c_23, c_39, c_52, c_58, c_70]; done) | (simp [trF, tN, cl0, cl1, cl2, cl3, hq_k, Int32.not_lt.mpr c_23, c_9, c_17, c_23, c_39, c_52, c_58, c_70]; done) | (simp [trF, tN, cl0, cl1, cl2, cl3, Int32.not_le.mp c_23, c_9, c_17, c_23, c_39, c_52, c_58, c_70]; done) | (simp [trF, tN, cl0, cl1, cl2, cl3, c_9, c_17, c_23, c_39, c_52, c_58, c_70]; done)⟩
                · skip
                  exact absurd c_70 (by decide)
              · skip
                refine j_iconst (pc := 61) X (v := nI 1) dX9_trialFault_61 (by decide) ?_
                refine j_goto (pc := 62) X (tgt := 66) dX9_trialFault_62 (by decide) ?_
                refine j_istore (pc := 66) X (lv' := [(6, .int (nI 1)), (5, .int (nI (2 ^ m - 1))), (4, .int (nI (tfF ms (nI 3)))), (0, .ref qx), (1, .int (nI 3)), (2, .int (nI m)), (3, .int s)]) dX9_trialFault_66 (by decide) rfl ?_
                refine j_iload (pc := 68) X dX9_trialFault_68 0 rfl ?_
                refine j_ifN_eq (pc := 70) X (a := 1) (by first | omega | (have h9 := tfF_le ms x; omega)) (tgt := 90) dX9_trialFault_70 (by decide) (fun c_70 => ?_) (fun c_70 => ?_)
                · skip
                  exact absurd c_70 (by decide)
                · skip
                  refine j_aload_n (pc := 73) X dX9_trialFault_73 rfl 3 rfl ?_
                  refine j_get (pc := 74) X 9 i_X9 0 rfl rfl 0 (by decide) (by decide +kernel) rfl dX9_trialFault_74 ?_
                  refine j_iload_n (pc := 77) X dX9_trialFault_77 rfl 4 rfl ?_
                  refine j_aldq (pc := 78) X 1 rfl (vp_in_nI (by omega) (by omega)) (v := tA 3) ((congrArg (tyF tA) (nI_clamp (by decide))).trans rfl) dX9_trialFault_78 ?_
                  refine j_iload_n (pc := 79) X dX9_trialFault_79 rfl 5 rfl ?_
                  refine j_ciP (pc := 80) X [5, 9] rfl (j_rVN X (b := tA 3) (As := [.int (nI m)]) (ci := 7) (rest := []) 1 (mX7_hasOutcomes l G (tA 3) (nA 3) (ms 3) (so 3) (ln 3) (u 3) m (by omega)) gX9_trialFault_X7_hasOutcomes_n275 rfl rfl rfl (by decide +kernel) (by decide +kernel) (by decide +kernel) (by decide +kernel) (by decide +kernel) ⟨Nat.le_of_ble_eq_true rfl, Nat.le_of_ble_eq_true rfl⟩ rfl rfl 0 rfl [5, 9] rfl rfl rfl (Nat.le_of_ble_eq_true rfl) dX9_trialFault_80 ⟨Nat.le_of_ble_eq_true rfl, Nat.le_of_ble_eq_true rfl⟩) ?_
                  refine j_ifb_eq (pc := 83) X (B := outc (u 3) m) (tgt := 90) dX9_trialFault_83 (by decide) (fun c_83 => ?_) (fun c_83 => ?_)
                  · skip
                    refine j_iconst (pc := 90) X (v := nI 5) dX9_trialFault_90 (by decide) ?_
                    exact j_iret (pc := 91) X dX9_trialFault_91 ⟨by first | (simp [trF, tN, cl0, cl1, cl2, cl3, c_9, c_17, c_23, c_39, c_52, c_58, c_70, c_83]; done) | (simp [trF, tN, cl0, cl1, cl2, cl3, hq_k, Int32.not_lt.mpr c_23, c_9, c_17, c_23, c_39, c_52, c_58, c_70, c_83]; done) | (simp [trF, tN, cl0, cl1, cl2, cl3, Int32.not_le.mp c_23, c_9, c_17, c_23, c_39, c_52, c_58, c_70, c_83]; done) | (simp [trF, tN, cl0, cl1, cl2, cl3, c_9, c_17, c_23, c_39, c_52, c_58, c_70, c_83]; done), by first | (simp [trF, tN, cl0, cl1, cl2, cl3, c_9, c_17, c_23, c_39, c_52, c_58, c_70, c_83]; done) | (simp [trF, tN, cl0, cl1, cl2, cl3, hq_k, Int32.not_lt.mpr c_23, c_9, c_17, c_23, c_39, c_52, c_58, c_70, c_83]; done) | (simp [trF, tN, cl0, cl1, cl2, cl3, Int32.not_le.mp c_23, c_9, c_17, c_23, c_39, c_52, c_58, c_70, c_83]; done) | (simp [trF, tN, cl0, cl1, cl2, cl3, c_9, c_17, c_23, c_39, c_52, c_58, c_70, c_83]; done)⟩
                  · skip
                    refine j_iconst (pc := 86) X (v := nI 0) dX9_trialFault_86 (by decide) ?_
                    refine j_goto (pc := 87) X (tgt := 91) dX9_trialFault_87 (by decide) ?_
                    exact j_iret (pc := 91) X dX9_trialFault_91 ⟨by first | (simp [trF, tN, cl0, cl1, cl2, cl3, c_9, c_17, c_23, c_39, c_52, c_58, c_70, c_83]; done) | (simp [trF, tN, cl0, cl1, cl2, cl3, hq_k, Int32.not_lt.mpr c_23, c_9, c_17, c_23, c_39, c_52, c_58, c_70, c_83]; done) | (simp [trF, tN, cl0, cl1, cl2, cl3, Int32.not_le.mp c_23, c_9, c_17, c_23, c_39, c_52, c_58, c_70, c_83]; done) | (simp [trF, tN, cl0, cl1, cl2, cl3, c_9, c_17, c_23, c_39, c_52, c_58, c_70, c_83]; done), by first | (simp [trF, tN, cl0, cl1, cl2, cl3, c_9, c_17, c_23, c_39, c_52, c_58, c_70, c_83]; done) | (simp [trF, tN, cl0, cl1, cl2, cl3, hq_k, Int32.not_lt.mpr c_23, c_9, c_17, c_23, c_39, c_52, c_58, c_70, c_83]; done) | (simp [trF, tN, cl0, cl1, cl2, cl3, Int32.not_le.mp c_23, c_9, c_17, c_23, c_39, c_52, c_58, c_70, c_83]; done) | (simp [trF, tN, cl0, cl1, cl2, cl3, c_9, c_17, c_23, c_39, c_52, c_58, c_70, c_83]; done)⟩
          · skip
            refine j_iconst (pc := 42) X (v := nI 4) dX9_trialFault_42 (by decide) ?_
            exact j_iret (pc := 43) X dX9_trialFault_43 ⟨by first | (simp [trF, tN, cl0, cl1, cl2, cl3, c_9, c_17, c_23, c_39]; done) | (simp [trF, tN, cl0, cl1, cl2, cl3, hq_k, Int32.not_lt.mpr c_23, c_9, c_17, c_23, c_39]; done) | (simp [trF, tN, cl0, cl1, cl2, cl3, Int32.not_le.mp c_23, c_9, c_17, c_23, c_39]; done) | (simp [trF, tN, cl0, cl1, cl2, cl3, c_9, c_17, c_23, c_39]; done), by first | (simp [trF, tN, cl0, cl1, cl2, cl3, c_9, c_17, c_23, c_39]; done) | (simp [trF, tN, cl0, cl1, cl2, cl3, hq_k, Int32.not_lt.mpr c_23, c_9, c_17, c_23, c_39]; done) | (simp [trF, tN, cl0, cl1, cl2, cl3, Int32.not_le.mp c_23, c_9, c_17, c_23, c_39]; done) | (simp [trF, tN, cl0, cl1, cl2, cl3, c_9, c_17, c_23, c_39]; done)⟩
        · skip
          refine j_iconst (pc := 26) X (v := nI 5) dX9_trialFault_26 (by decide) ?_
          exact j_iret (pc := 27) X dX9_trialFault_27 ⟨by first | (simp [trF, tN, cl0, cl1, cl2, cl3, c_9, c_17, c_23]; done) | (simp [trF, tN, cl0, cl1, cl2, cl3, hq_k, Int32.not_lt.mpr c_23, c_9, c_17, c_23]; done) | (simp [trF, tN, cl0, cl1, cl2, cl3, Int32.not_le.mp c_23, c_9, c_17, c_23]; done) | (simp [trF, tN, cl0, cl1, cl2, cl3, c_9, c_17, c_23]; done), rfl⟩
  · skip
    refine j_iload (pc := 12) X dX9_trialFault_12 0 rfl ?_
    exact j_iret (pc := 14) X dX9_trialFault_14 ⟨by first | (simp [trF, tN, cl0, cl1, cl2, cl3, c_9]; done) | (simp [trF, tN, cl0, cl1, cl2, cl3, hq_k, Int32.not_lt.mpr c_23, c_9]; done) | (simp [trF, tN, cl0, cl1, cl2, cl3, Int32.not_le.mp c_23, c_9]; done) | (simp [trF, tN, cl0, cl1, cl2, cl3, c_9]; done), rfl⟩

set_option maxHeartbeats 4000000 in
set_option maxRecDepth 100000 in
theorem mX9_tray (l : Launch) (G : jG) (qx : Nat) (qy : Nat) (qc : Nat) (qp : Nat) (qr : Nat) (qm : Nat) (qg : Nat) (qu : Nat) (ql : Nat) (qf : Nat) (lt : Nat) (tA : Nat → Nat) (nA : Nat → Nat) (ms : Nat → Bool) (so : Nat → Nat) (ln : Nat → Nat) (u : Nat → Nat → Int64) (x : Int32) (z : Int32) (m : Int32)  : MV l yX9_tray wsX9_tray ({ frames := 2, cells := 0, slots := 0, locals := 46 }) G [.ref qx, .int x, .int z, .int m] [(qx, .inr (9, [.ref qy, .ref qc, .ref qp, .ref qr, .ref qm, .ref qg, .ref qu, .ref ql, .ref qf, .int (nI lt)])), kT G qy 4 (tyF tA), (tA 0, .inr (7, [.ref (nA 0), .int (b2i (ms 0)), .int (nI (so 0)), .int (nI (ln 0))])), (tA 1, .inr (7, [.ref (nA 1), .int (b2i (ms 1)), .int (nI (so 1)), .int (nI (ln 1))])), (tA 2, .inr (7, [.ref (nA 2), .int (b2i (ms 2)), .int (nI (so 2)), .int (nI (ln 2))])), (tA 3, .inr (7, [.ref (nA 3), .int (b2i (ms 3)), .int (nI (so 3)), .int (nI (ln 3))])), kJ G (nA 0) 40 (u 0), kJ G (nA 1) 40 (u 1), kJ G (nA 2) 40 (u 2), kJ G (nA 3) 40 (u 3)] (some (.int (b2i ((sTray ms so ln u x z m).1)))) [(qx, .inr (9, [.ref qy, .ref qc, .ref qp, .ref qr, .ref qm, .ref qg, .ref qu, .ref ql, .ref qf, .int (nI ((sTray ms so ln u x z m).2.1))])), kT G qy 4 (tyF tA), (tA 0, .inr (7, [.ref (nA 0), .int (b2i (((sTray ms so ln u x z m).2.2.1) 0)), .int (nI (((sTray ms so ln u x z m).2.2.2.1) 0)), .int (nI (((sTray ms so ln u x z m).2.2.2.2.1) 0))])), (tA 1, .inr (7, [.ref (nA 1), .int (b2i (((sTray ms so ln u x z m).2.2.1) 1)), .int (nI (((sTray ms so ln u x z m).2.2.2.1) 1)), .int (nI (((sTray ms so ln u x z m).2.2.2.2.1) 1))])), (tA 2, .inr (7, [.ref (nA 2), .int (b2i (((sTray ms so ln u x z m).2.2.1) 2)), .int (nI (((sTray ms so ln u x z m).2.2.2.1) 2)), .int (nI (((sTray ms so ln u x z m).2.2.2.2.1) 2))])), (tA 3, .inr (7, [.ref (nA 3), .int (b2i (((sTray ms so ln u x z m).2.2.1) 3)), .int (nI (((sTray ms so ln u x z m).2.2.2.1) 3)), .int (nI (((sTray ms so ln u x z m).2.2.2.2.1) 3))])), kJ G (nA 0) 40 (((sTray ms so ln u x z m).2.2.2.2.2) 0), kJ G (nA 1) 40 (((sTray ms so ln u x z m).2.2.2.2.2) 1), kJ G (nA 2) 40 (((sTray ms so ln u x z m).2.2.2.2.2) 2), kJ G (nA 3) 40 (((sTray ms so ln u x z m).2.2.2.2.2) 3)] := by
  refine MF.ofJ (cc := cX9_tray) (maxL := 4) (ret := (some .boolean)) (own := RX9) (lv := [(0, .ref qx), (1, .int x), (2, .int z), (3, .int m)]) (by decide) rfl rfl (Nat.le_of_ble_eq_true rfl) rfl ?_
  intro κ X
  have i_X7 : ∀ w ∈ wsX70, w ∈ wsX9_tray := by decide +kernel
  have i_X9 : ∀ w ∈ wsX90, w ∈ wsX9_tray := by decide +kernel
  refine j_iload_n (pc := 0) X dX9_tray_0 rfl 1 rfl ?_
  refine j_ciP (pc := 1) X [] rfl (j_rS X (As := [.int x]) (rest := []) 1 (mX9_isTray l G x ) gX9_tray_X9_isTray rfl rfl rfl (by decide +kernel) ⟨Nat.le_of_ble_eq_true rfl, Nat.le_of_ble_eq_true rfl⟩ rfl [] rfl rfl rfl (Nat.le_of_ble_eq_true rfl) dX9_tray_1 ⟨Nat.le_of_ble_eq_true rfl, Nat.le_of_ble_eq_true rfl⟩) ?_
  refine j_ifb_eq (pc := 4) X (B := inR x 4) (tgt := 16) dX9_tray_4 (by decide) (fun c_4 => ?_) (fun c_4 => ?_)
  · skip
    refine j_aload_n (pc := 16) X dX9_tray_16 rfl 0 rfl ?_
    refine j_iconst (pc := 17) X (v := nI 1) dX9_tray_17 (by decide) ?_
    refine j_ci (pc := 18) X (ws' := [(qx, .inr (9, [.ref qy, .ref qc, .ref qp, .ref qr, .ref qm, .ref qg, .ref qu, .ref ql, .ref qf, .int (nI 1)])), kT G qy 4 (tyF tA), (tA 0, .inr (7, [.ref (nA 0), .int (b2i (ms 0)), .int (nI (so 0)), .int (nI (ln 0))])), (tA 1, .inr (7, [.ref (nA 1), .int (b2i (ms 1)), .int (nI (so 1)), .int (nI (ln 1))])), (tA 2, .inr (7, [.ref (nA 2), .int (b2i (ms 2)), .int (nI (so 2)), .int (nI (ln 2))])), (tA 3, .inr (7, [.ref (nA 3), .int (b2i (ms 3)), .int (nI (so 3)), .int (nI (ln 3))])), kJ G (nA 0) 40 (u 0), kJ G (nA 1) 40 (u 1), kJ G (nA 2) 40 (u 2), kJ G (nA 3) 40 (u 3)]) [0] rfl (j_rV X (b := qx) (As := [.int (nI 1)]) (ci := 9) (rest := []) 1 (mX9_finish l G qx qy qc qp qr qm qg qu ql qf lt 1 (by first | assumption | omega | exact ob_s (by omega) | exact ob_n)) gX9_tray_X9_finish rfl rfl rfl (by decide +kernel) ⟨Nat.le_of_ble_eq_true rfl, Nat.le_of_ble_eq_true rfl⟩ rfl rfl 0 rfl [0] rfl rfl rfl (Nat.le_of_ble_eq_true rfl) dX9_tray_18 ⟨Nat.le_of_ble_eq_true rfl, Nat.le_of_ble_eq_true rfl⟩) rfl rfl ?_
    have hs : sTray ms so ln u x z m = (decide (1 = 0), 1, ms, so, ln, u) := by first | (simp [sTray, c_4]; done) | (simp [sTray, tN, cl0, cl1, cl2, cl3, hq_z, c_4]; done) | (simp [sTray, tN, cl0, cl1, cl2, cl3, hq_k, hq_z, c_4]; done) | (simp [sTray, tN, cl0, cl1, cl2, cl3, hq_k, hq_m, hq_z, c_4]; done) | (simp [sTray, c_4]; done)
    refine j_zret (pc := 21) X (b2i_nar _) dX9_tray_21 ?_
    rw [hs]; exact ⟨rfl, rfl⟩
  · skip
    obtain ⟨j, hj, rfl⟩ := inR_of c_4 (by decide); rcases (by omega : j = 0 ∨ j = 1 ∨ j = 2 ∨ j = 3) with rfl | rfl | rfl | rfl
    · skip
      refine j_iload_n (pc := 7) X dX9_tray_7 rfl 2 rfl ?_
      refine j_if_lt (pc := 8) X (x := z) (tgt := 16) dX9_tray_8 (by decide) (fun c_8 => ?_) (fun c_8 => ?_)
      · skip
        have hq_z : inR z 4 = false := by simp [inR, c_8]
        refine j_aload_n (pc := 16) X dX9_tray_16 rfl 0 rfl ?_
        refine j_iconst (pc := 17) X (v := nI 1) dX9_tray_17 (by decide) ?_
        refine j_ci (pc := 18) X (ws' := [(qx, .inr (9, [.ref qy, .ref qc, .ref qp, .ref qr, .ref qm, .ref qg, .ref qu, .ref ql, .ref qf, .int (nI 1)])), kT G qy 4 (tyF tA), (tA 0, .inr (7, [.ref (nA 0), .int (b2i (ms 0)), .int (nI (so 0)), .int (nI (ln 0))])), (tA 1, .inr (7, [.ref (nA 1), .int (b2i (ms 1)), .int (nI (so 1)), .int (nI (ln 1))])), (tA 2, .inr (7, [.ref (nA 2), .int (b2i (ms 2)), .int (nI (so 2)), .int (nI (ln 2))])), (tA 3, .inr (7, [.ref (nA 3), .int (b2i (ms 3)), .int (nI (so 3)), .int (nI (ln 3))])), kJ G (nA 0) 40 (u 0), kJ G (nA 1) 40 (u 1), kJ G (nA 2) 40 (u 2), kJ G (nA 3) 40 (u 3)]) [0] rfl (j_rV X (b := qx) (As := [.int (nI 1)]) (ci := 9) (rest := []) 1 (mX9_finish l G qx qy qc qp qr qm qg qu ql qf lt 1 (by first | assumption | omega | exact ob_s (by omega) | exact ob_n)) gX9_tray_X9_finish rfl rfl rfl (by decide +kernel) ⟨Nat.le_of_ble_eq_true rfl, Nat.le_of_ble_eq_true rfl⟩ rfl rfl 0 rfl [0] rfl rfl rfl (Nat.le_of_ble_eq_true rfl) dX9_tray_18 ⟨Nat.le_of_ble_eq_true rfl, Nat.le_of_ble_eq_true rfl⟩) rfl rfl ?_
        have hs : sTray ms so ln u (nI 0) z m = (decide (1 = 0), 1, ms, so, ln, u) := by first | (simp [sTray, c_4, c_8]; done) | (simp [sTray, tN, cl0, cl1, cl2, cl3, hq_z, c_4, c_8]; done) | (simp [sTray, tN, cl0, cl1, cl2, cl3, hq_k, hq_z, c_4, c_8]; done) | (simp [sTray, tN, cl0, cl1, cl2, cl3, hq_k, hq_m, hq_z, c_4, c_8]; done) | (simp [sTray, c_4, c_8]; done)
        refine j_zret (pc := 21) X (b2i_nar _) dX9_tray_21 ?_
        rw [hs]; exact ⟨rfl, rfl⟩
      · skip
        refine j_iload_n (pc := 11) X dX9_tray_11 rfl 2 rfl ?_
        refine j_iconst (pc := 12) X (v := nI 4) dX9_tray_12 (by decide) ?_
        refine j_icmp_lt (pc := 13) X (x := z) (z := nI 4) (tgt := 22) dX9_tray_13 (by decide) (fun c_13 => ?_) (fun c_13 => ?_)
        · skip
          obtain ⟨k, hk, rfl⟩ := rngl_of c_8 c_13 (by decide); have hq_k := nI_clamp (n := k) (by omega); have hq_z : inR (nI k) 4 = true := (by simp [inR, c_8, c_13])
          refine j_iload_n (pc := 22) X dX9_tray_22 rfl 3 rfl ?_
          refine j_bipush (pc := 23) X (v := nI 40) dX9_tray_23 (by decide) ?_
          refine j_icmp_le (pc := 25) X (x := m) (z := nI 40) (tgt := 34) dX9_tray_25 (by decide) (fun c_25 => ?_) (fun c_25 => ?_)
          · skip
            refine j_iload_n (pc := 34) X dX9_tray_34 rfl 3 rfl ?_
            refine j_if_ge (pc := 35) X (x := m) (tgt := 45) dX9_tray_35 (by decide) (fun c_35 => ?_) (fun c_35 => ?_)
            · skip
              obtain ⟨m2, hm2, rfl⟩ := rng_of (Int32.not_lt.mpr c_35) c_25 (by decide); have hq_m := nI_clamp (n := m2) (by omega)
              refine j_aload_n (pc := 45) X dX9_tray_45 rfl 0 rfl ?_
              refine j_get (pc := 46) X 9 i_X9 0 rfl rfl 0 (by decide) (by decide +kernel) rfl dX9_tray_46 ?_
              refine j_iload_n (pc := 49) X dX9_tray_49 rfl 1 rfl ?_
              refine j_aldq (pc := 50) X 1 rfl (vp_in_nI (by omega) (by omega)) (v := tA 0) ((congrArg (tyF tA) (nI_clamp (by decide))).trans rfl) dX9_tray_50 ?_
              refine j_iload_n (pc := 51) X dX9_tray_51 rfl 2 rfl ?_
              refine j_iload_n (pc := 52) X dX9_tray_52 rfl 3 rfl ?_
              refine j_cv (pc := 53) X (ws' := [(qx, .inr (9, [.ref qy, .ref qc, .ref qp, .ref qr, .ref qm, .ref qg, .ref qu, .ref ql, .ref qf, .int (nI lt)])), kT G qy 4 (tyF tA), ((tA 0), .inr (7, [.ref (nA 0), .int (b2i false), .int (nI k), .int (nI m2)])), (tA 1, .inr (7, [.ref (nA 1), .int (b2i (ms 1)), .int (nI (so 1)), .int (nI (ln 1))])), (tA 2, .inr (7, [.ref (nA 2), .int (b2i (ms 2)), .int (nI (so 2)), .int (nI (ln 2))])), (tA 3, .inr (7, [.ref (nA 3), .int (b2i (ms 3)), .int (nI (so 3)), .int (nI (ln 3))])), kJ G (nA 0) 40 (fil 0 (u 0) 40), kJ G (nA 1) 40 (u 1), kJ G (nA 2) 40 (u 2), kJ G (nA 3) 40 (u 3)]) [2, 6] rfl (j_rVN X (b := tA 0) (As := [.int (nI k), .int (nI m2)]) (ci := 7) (rest := []) 2 (mX7_make l G (tA 0) (nA 0) (ms 0) (so 0) (ln 0) (u 0) k m2 ) gX9_tray_X7_make_n83 rfl rfl rfl (by decide +kernel) (by decide +kernel) (by decide +kernel) (by decide +kernel) (by decide +kernel) ⟨Nat.le_of_ble_eq_true rfl, Nat.le_of_ble_eq_true rfl⟩ rfl rfl 0 rfl [2, 6] rfl rfl rfl (Nat.le_of_ble_eq_true rfl) dX9_tray_53 ⟨Nat.le_of_ble_eq_true rfl, Nat.le_of_ble_eq_true rfl⟩) rfl rfl ?_
              refine j_aload_n (pc := 56) X dX9_tray_56 rfl 0 rfl ?_
              refine j_iconst (pc := 57) X (v := nI 0) dX9_tray_57 (by decide) ?_
              refine j_ci (pc := 58) X (ws' := [(qx, .inr (9, [.ref qy, .ref qc, .ref qp, .ref qr, .ref qm, .ref qg, .ref qu, .ref ql, .ref qf, .int (nI 0)])), kT G qy 4 (tyF tA), ((tA 0), .inr (7, [.ref (nA 0), .int (b2i false), .int (nI k), .int (nI m2)])), (tA 1, .inr (7, [.ref (nA 1), .int (b2i (ms 1)), .int (nI (so 1)), .int (nI (ln 1))])), (tA 2, .inr (7, [.ref (nA 2), .int (b2i (ms 2)), .int (nI (so 2)), .int (nI (ln 2))])), (tA 3, .inr (7, [.ref (nA 3), .int (b2i (ms 3)), .int (nI (so 3)), .int (nI (ln 3))])), kJ G (nA 0) 40 (fil 0 (u 0) 40), kJ G (nA 1) 40 (u 1), kJ G (nA 2) 40 (u 2), kJ G (nA 3) 40 (u 3)]) [0] rfl (j_rV X (b := qx) (As := [.int (nI 0)]) (ci := 9) (rest := []) 1 (mX9_finish l G qx qy qc qp qr qm qg qu ql qf lt 0 (by first | assumption | omega | exact ob_s (by omega) | exact ob_n)) gX9_tray_X9_finish rfl rfl rfl (by decide +kernel) ⟨Nat.le_of_ble_eq_true rfl, Nat.le_of_ble_eq_true rfl⟩ rfl rfl 0 rfl [0] rfl rfl rfl (Nat.le_of_ble_eq_true rfl) dX9_tray_58 ⟨Nat.le_of_ble_eq_true rfl, Nat.le_of_ble_eq_true rfl⟩) rfl rfl ?_
              have hs : sTray ms so ln u (nI 0) (nI k) (nI m2) = (decide (0 = 0), 0, va_up ms 0 false, va_up so 0 k, va_up ln 0 m2, va_up u 0 (fil 0 (u 0) 40)) := by first | (simp [sTray, c_4, c_8, c_13, c_25, c_35]; done) | (simp [sTray, tN, cl0, cl1, cl2, cl3, hq_z, c_4, c_8, c_13, c_25, c_35]; done) | (simp [sTray, tN, cl0, cl1, cl2, cl3, hq_k, hq_z, c_4, c_8, c_13, c_25, c_35]; done) | (simp [sTray, tN, cl0, cl1, cl2, cl3, hq_k, hq_m, hq_z, c_4, c_8, c_13, c_25, c_35]; done) | (simp [sTray, c_4, c_8, c_13, c_25, c_35]; done)
              refine j_zret (pc := 61) X (b2i_nar _) dX9_tray_61 ?_
              rw [hs]; exact ⟨rfl, rfl⟩
            · skip
              refine j_aload_n (pc := 38) X dX9_tray_38 rfl 0 rfl ?_
              refine j_bipush (pc := 39) X (v := nI 6) dX9_tray_39 (by decide) ?_
              refine j_ci (pc := 41) X (ws' := [(qx, .inr (9, [.ref qy, .ref qc, .ref qp, .ref qr, .ref qm, .ref qg, .ref qu, .ref ql, .ref qf, .int (nI 6)])), kT G qy 4 (tyF tA), (tA 0, .inr (7, [.ref (nA 0), .int (b2i (ms 0)), .int (nI (so 0)), .int (nI (ln 0))])), (tA 1, .inr (7, [.ref (nA 1), .int (b2i (ms 1)), .int (nI (so 1)), .int (nI (ln 1))])), (tA 2, .inr (7, [.ref (nA 2), .int (b2i (ms 2)), .int (nI (so 2)), .int (nI (ln 2))])), (tA 3, .inr (7, [.ref (nA 3), .int (b2i (ms 3)), .int (nI (so 3)), .int (nI (ln 3))])), kJ G (nA 0) 40 (u 0), kJ G (nA 1) 40 (u 1), kJ G (nA 2) 40 (u 2), kJ G (nA 3) 40 (u 3)]) [0] rfl (j_rV X (b := qx) (As := [.int (nI 6)]) (ci := 9) (rest := []) 1 (mX9_finish l G qx qy qc qp qr qm qg qu ql qf lt 6 (by first | assumption | omega | exact ob_s (by omega) | exact ob_n)) gX9_tray_X9_finish rfl rfl rfl (by decide +kernel) ⟨Nat.le_of_ble_eq_true rfl, Nat.le_of_ble_eq_true rfl⟩ rfl rfl 0 rfl [0] rfl rfl rfl (Nat.le_of_ble_eq_true rfl) dX9_tray_41 ⟨Nat.le_of_ble_eq_true rfl, Nat.le_of_ble_eq_true rfl⟩) rfl rfl ?_
              have hs : sTray ms so ln u (nI 0) (nI k) m = (decide (6 = 0), 6, ms, so, ln, u) := by first | (simp [sTray, c_4, c_8, c_13, c_25, c_35]; done) | (simp [sTray, tN, cl0, cl1, cl2, cl3, hq_z, c_4, c_8, c_13, c_25, c_35]; done) | (simp [sTray, tN, cl0, cl1, cl2, cl3, hq_k, hq_z, c_4, c_8, c_13, c_25, c_35]; done) | (simp [sTray, tN, cl0, cl1, cl2, cl3, hq_k, hq_m, hq_z, c_4, c_8, c_13, c_25, c_35]; done) | (simp [sTray, c_4, c_8, c_13, c_25, c_35]; done)
              refine j_zret (pc := 44) X (b2i_nar _) dX9_tray_44 ?_
              rw [hs]; exact ⟨rfl, rfl⟩
          · skip
            refine j_aload_n (pc := 28) X dX9_tray_28 rfl 0 rfl ?_
            refine j_iconst (pc := 29) X (v := nI 5) dX9_tray_29 (by decide) ?_
            refine j_ci (pc := 30) X (ws' := [(qx, .inr (9, [.ref qy, .ref qc, .ref qp, .ref qr, .ref qm, .ref qg, .ref qu, .ref ql, .ref qf, .int (nI 5)])), kT G qy 4 (tyF tA), (tA 0, .inr (7, [.ref (nA 0), .int (b2i (ms 0)), .int (nI (so 0)), .int (nI (ln 0))])), (tA 1, .inr (7, [.ref (nA 1), .int (b2i (ms 1)), .int (nI (so 1)), .int (nI (ln 1))])), (tA 2, .inr (7, [.ref (nA 2), .int (b2i (ms 2)), .int (nI (so 2)), .int (nI (ln 2))])), (tA 3, .inr (7, [.ref (nA 3), .int (b2i (ms 3)), .int (nI (so 3)), .int (nI (ln 3))])), kJ G (nA 0) 40 (u 0), kJ G (nA 1) 40 (u 1), kJ G (nA 2) 40 (u 2), kJ G (nA 3) 40 (u 3)]) [0] rfl (j_rV X (b := qx) (As := [.int (nI 5)]) (ci := 9) (rest := []) 1 (mX9_finish l G qx qy qc qp qr qm qg qu ql qf lt 5 (by first | assumption | omega | exact ob_s (by omega) | exact ob_n)) gX9_tray_X9_finish rfl rfl rfl (by decide +kernel) ⟨Nat.le_of_ble_eq_true rfl, Nat.le_of_ble_eq_true rfl⟩ rfl rfl 0 rfl [0] rfl rfl rfl (Nat.le_of_ble_eq_true rfl) dX9_tray_30 ⟨Nat.le_of_ble_eq_true rfl, Nat.le_of_ble_eq_true rfl⟩) rfl rfl ?_
            have hs : sTray ms so ln u (nI 0) (nI k) m = (decide (5 = 0), 5, ms, so, ln, u) := by first | (simp [sTray, c_4, c_8, c_13, c_25]; done) | (simp [sTray, tN, cl0, cl1, cl2, cl3, hq_z, c_4, c_8, c_13, c_25]; done) | (simp [sTray, tN, cl0, cl1, cl2, cl3, hq_k, hq_z, c_4, c_8, c_13, c_25]; done) | (simp [sTray, tN, cl0, cl1, cl2, cl3, hq_k, hq_m, hq_z, c_4, c_8, c_13, c_25]; done) | (simp [sTray, c_4, c_8, c_13, c_25]; done)
            refine j_zret (pc := 33) X (b2i_nar _) dX9_tray_33 ?_
            rw [hs]; exact ⟨rfl, rfl⟩
        · skip
          have hq_z : inR z 4 = false := by simp [inR, c_8, c_13]
          refine j_aload_n (pc := 16) X dX9_tray_16 rfl 0 rfl ?_
          refine j_iconst (pc := 17) X (v := nI 1) dX9_tray_17 (by decide) ?_
          refine j_ci (pc := 18) X (ws' := [(qx, .inr (9, [.ref qy, .ref qc, .ref qp, .ref qr, .ref qm, .ref qg, .ref qu, .ref ql, .ref qf, .int (nI 1)])), kT G qy 4 (tyF tA), (tA 0, .inr (7, [.ref (nA 0), .int (b2i (ms 0)), .int (nI (so 0)), .int (nI (ln 0))])), (tA 1, .inr (7, [.ref (nA 1), .int (b2i (ms 1)), .int (nI (so 1)), .int (nI (ln 1))])), (tA 2, .inr (7, [.ref (nA 2), .int (b2i (ms 2)), .int (nI (so 2)), .int (nI (ln 2))])), (tA 3, .inr (7, [.ref (nA 3), .int (b2i (ms 3)), .int (nI (so 3)), .int (nI (ln 3))])), kJ G (nA 0) 40 (u 0), kJ G (nA 1) 40 (u 1), kJ G (nA 2) 40 (u 2), kJ G (nA 3) 40 (u 3)]) [0] rfl (j_rV X (b := qx) (As := [.int (nI 1)]) (ci := 9) (rest := []) 1 (mX9_finish l G qx qy qc qp qr qm qg qu ql qf lt 1 (by first | assumption | omega | exact ob_s (by omega) | exact ob_n)) gX9_tray_X9_finish rfl rfl rfl (by decide +kernel) ⟨Nat.le_of_ble_eq_true rfl, Nat.le_of_ble_eq_true rfl⟩ rfl rfl 0 rfl [0] rfl rfl rfl (Nat.le_of_ble_eq_true rfl) dX9_tray_18 ⟨Nat.le_of_ble_eq_true rfl, Nat.le_of_ble_eq_true rfl⟩) rfl rfl ?_
          have hs : sTray ms so ln u (nI 0) z m = (decide (1 = 0), 1, ms, so, ln, u) := by first | (simp [sTray, c_4, c_8, c_13]; done) | (simp [sTray, tN, cl0, cl1, cl2, cl3, hq_z, c_4, c_8, c_13]; done) | (simp [sTray, tN, cl0, cl1, cl2, cl3, hq_k, hq_z, c_4, c_8, c_13]; done) | (simp [sTray, tN, cl0, cl1, cl2, cl3, hq_k, hq_m, hq_z, c_4, c_8, c_13]; done) | (simp [sTray, c_4, c_8, c_13]; done)
          refine j_zret (pc := 21) X (b2i_nar _) dX9_tray_21 ?_
          rw [hs]; exact ⟨rfl, rfl⟩
    · skip
      refine j_iload_n (pc := 7) X dX9_tray_7 rfl 2 rfl ?_
      refine j_if_lt (pc := 8) X (x := z) (tgt := 16) dX9_tray_8 (by decide) (fun c_8 => ?_) (fun c_8 => ?_)
      · skip
        have hq_z : inR z 4 = false := by simp [inR, c_8]
        refine j_aload_n (pc := 16) X dX9_tray_16 rfl 0 rfl ?_
        refine j_iconst (pc := 17) X (v := nI 1) dX9_tray_17 (by decide) ?_
        refine j_ci (pc := 18) X (ws' := [(qx, .inr (9, [.ref qy, .ref qc, .ref qp, .ref qr, .ref qm, .ref qg, .ref qu, .ref ql, .ref qf, .int (nI 1)])), kT G qy 4 (tyF tA), (tA 0, .inr (7, [.ref (nA 0), .int (b2i (ms 0)), .int (nI (so 0)), .int (nI (ln 0))])), (tA 1, .inr (7, [.ref (nA 1), .int (b2i (ms 1)), .int (nI (so 1)), .int (nI (ln 1))])), (tA 2, .inr (7, [.ref (nA 2), .int (b2i (ms 2)), .int (nI (so 2)), .int (nI (ln 2))])), (tA 3, .inr (7, [.ref (nA 3), .int (b2i (ms 3)), .int (nI (so 3)), .int (nI (ln 3))])), kJ G (nA 0) 40 (u 0), kJ G (nA 1) 40 (u 1), kJ G (nA 2) 40 (u 2), kJ G (nA 3) 40 (u 3)]) [0] rfl (j_rV X (b := qx) (As := [.int (nI 1)]) (ci := 9) (rest := []) 1 (mX9_finish l G qx qy qc qp qr qm qg qu ql qf lt 1 (by first | assumption | omega | exact ob_s (by omega) | exact ob_n)) gX9_tray_X9_finish rfl rfl rfl (by decide +kernel) ⟨Nat.le_of_ble_eq_true rfl, Nat.le_of_ble_eq_true rfl⟩ rfl rfl 0 rfl [0] rfl rfl rfl (Nat.le_of_ble_eq_true rfl) dX9_tray_18 ⟨Nat.le_of_ble_eq_true rfl, Nat.le_of_ble_eq_true rfl⟩) rfl rfl ?_
        have hs : sTray ms so ln u (nI 1) z m = (decide (1 = 0), 1, ms, so, ln, u) := by first | (simp [sTray, c_4, c_8]; done) | (simp [sTray, tN, cl0, cl1, cl2, cl3, hq_z, c_4, c_8]; done) | (simp [sTray, tN, cl0, cl1, cl2, cl3, hq_k, hq_z, c_4, c_8]; done) | (simp [sTray, tN, cl0, cl1, cl2, cl3, hq_k, hq_m, hq_z, c_4, c_8]; done) | (simp [sTray, c_4, c_8]; done)
        refine j_zret (pc := 21) X (b2i_nar _) dX9_tray_21 ?_
        rw [hs]; exact ⟨rfl, rfl⟩
      · skip
        refine j_iload_n (pc := 11) X dX9_tray_11 rfl 2 rfl ?_
        refine j_iconst (pc := 12) X (v := nI 4) dX9_tray_12 (by decide) ?_
        refine j_icmp_lt (pc := 13) X (x := z) (z := nI 4) (tgt := 22) dX9_tray_13 (by decide) (fun c_13 => ?_) (fun c_13 => ?_)
        · skip
          obtain ⟨k, hk, rfl⟩ := rngl_of c_8 c_13 (by decide); have hq_k := nI_clamp (n := k) (by omega); have hq_z : inR (nI k) 4 = true := (by simp [inR, c_8, c_13])
          refine j_iload_n (pc := 22) X dX9_tray_22 rfl 3 rfl ?_
          refine j_bipush (pc := 23) X (v := nI 40) dX9_tray_23 (by decide) ?_
          refine j_icmp_le (pc := 25) X (x := m) (z := nI 40) (tgt := 34) dX9_tray_25 (by decide) (fun c_25 => ?_) (fun c_25 => ?_)
          · skip
            refine j_iload_n (pc := 34) X dX9_tray_34 rfl 3 rfl ?_
            refine j_if_ge (pc := 35) X (x := m) (tgt := 45) dX9_tray_35 (by decide) (fun c_35 => ?_) (fun c_35 => ?_)
            · skip
              obtain ⟨m2, hm2, rfl⟩ := rng_of (Int32.not_lt.mpr c_35) c_25 (by decide); have hq_m := nI_clamp (n := m2) (by omega)
              refine j_aload_n (pc := 45) X dX9_tray_45 rfl 0 rfl ?_
              refine j_get (pc := 46) X 9 i_X9 0 rfl rfl 0 (by decide) (by decide +kernel) rfl dX9_tray_46 ?_
              refine j_iload_n (pc := 49) X dX9_tray_49 rfl 1 rfl ?_
              refine j_aldq (pc := 50) X 1 rfl (vp_in_nI (by omega) (by omega)) (v := tA 1) ((congrArg (tyF tA) (nI_clamp (by decide))).trans rfl) dX9_tray_50 ?_
              refine j_iload_n (pc := 51) X dX9_tray_51 rfl 2 rfl ?_
              refine j_iload_n (pc := 52) X dX9_tray_52 rfl 3 rfl ?_
              refine j_cv (pc := 53) X (ws' := [(qx, .inr (9, [.ref qy, .ref qc, .ref qp, .ref qr, .ref qm, .ref qg, .ref qu, .ref ql, .ref qf, .int (nI lt)])), kT G qy 4 (tyF tA), (tA 0, .inr (7, [.ref (nA 0), .int (b2i (ms 0)), .int (nI (so 0)), .int (nI (ln 0))])), ((tA 1), .inr (7, [.ref (nA 1), .int (b2i false), .int (nI k), .int (nI m2)])), (tA 2, .inr (7, [.ref (nA 2), .int (b2i (ms 2)), .int (nI (so 2)), .int (nI (ln 2))])), (tA 3, .inr (7, [.ref (nA 3), .int (b2i (ms 3)), .int (nI (so 3)), .int (nI (ln 3))])), kJ G (nA 0) 40 (u 0), kJ G (nA 1) 40 (fil 0 (u 1) 40), kJ G (nA 2) 40 (u 2), kJ G (nA 3) 40 (u 3)]) [3, 7] rfl (j_rVN X (b := tA 1) (As := [.int (nI k), .int (nI m2)]) (ci := 7) (rest := []) 2 (mX7_make l G (tA 1) (nA 1) (ms 1) (so 1) (ln 1) (u 1) k m2 ) gX9_tray_X7_make_n83 rfl rfl rfl (by decide +kernel) (by decide +kernel) (by decide +kernel) (by decide +kernel) (by decide +kernel) ⟨Nat.le_of_ble_eq_true rfl, Nat.le_of_ble_eq_true rfl⟩ rfl rfl 0 rfl [3, 7] rfl rfl rfl (Nat.le_of_ble_eq_true rfl) dX9_tray_53 ⟨Nat.le_of_ble_eq_true rfl, Nat.le_of_ble_eq_true rfl⟩) rfl rfl ?_
              refine j_aload_n (pc := 56) X dX9_tray_56 rfl 0 rfl ?_
              refine j_iconst (pc := 57) X (v := nI 0) dX9_tray_57 (by decide) ?_
              refine j_ci (pc := 58) X (ws' := [(qx, .inr (9, [.ref qy, .ref qc, .ref qp, .ref qr, .ref qm, .ref qg, .ref qu, .ref ql, .ref qf, .int (nI 0)])), kT G qy 4 (tyF tA), (tA 0, .inr (7, [.ref (nA 0), .int (b2i (ms 0)), .int (nI (so 0)), .int (nI (ln 0))])), ((tA 1), .inr (7, [.ref (nA 1), .int (b2i false), .int (nI k), .int (nI m2)])), (tA 2, .inr (7, [.ref (nA 2), .int (b2i (ms 2)), .int (nI (so 2)), .int (nI (ln 2))])), (tA 3, .inr (7, [.ref (nA 3), .int (b2i (ms 3)), .int (nI (so 3)), .int (nI (ln 3))])), kJ G (nA 0) 40 (u 0), kJ G (nA 1) 40 (fil 0 (u 1) 40), kJ G (nA 2) 40 (u 2), kJ G (nA 3) 40 (u 3)]) [0] rfl (j_rV X (b := qx) (As := [.int (nI 0)]) (ci := 9) (rest := []) 1 (mX9_finish l G qx qy qc qp qr qm qg qu ql qf lt 0 (by first | assumption | omega | exact ob_s (by omega) | exact ob_n)) gX9_tray_X9_finish rfl rfl rfl (by decide +kernel) ⟨Nat.le_of_ble_eq_true rfl, Nat.le_of_ble_eq_true rfl⟩ rfl rfl 0 rfl [0] rfl rfl rfl (Nat.le_of_ble_eq_true rfl) dX9_tray_58 ⟨Nat.le_of_ble_eq_true rfl, Nat.le_of_ble_eq_true rfl⟩) rfl rfl ?_
              have hs : sTray ms so ln u (nI 1) (nI k) (nI m2) = (decide (0 = 0), 0, va_up ms 1 false, va_up so 1 k, va_up ln 1 m2, va_up u 1 (fil 0 (u 1) 40)) := by first | (simp [sTray, c_4, c_8, c_13, c_25, c_35]; done) | (simp [sTray, tN, cl0, cl1, cl2, cl3, hq_z, c_4, c_8, c_13, c_25, c_35]; done) | (simp [sTray, tN, cl0, cl1, cl2, cl3, hq_k, hq_z, c_4, c_8, c_13, c_25, c_35]; done) | (simp [sTray, tN, cl0, cl1, cl2, cl3, hq_k, hq_m, hq_z, c_4, c_8, c_13, c_25, c_35]; done) | (simp [sTray, c_4, c_8, c_13, c_25, c_35]; done)
              refine j_zret (pc := 61) X (b2i_nar _) dX9_tray_61 ?_
              rw [hs]; exact ⟨rfl, rfl⟩
            · skip
              refine j_aload_n (pc := 38) X dX9_tray_38 rfl 0 rfl ?_
              refine j_bipush (pc := 39) X (v := nI 6) dX9_tray_39 (by decide) ?_
              refine j_ci (pc := 41) X (ws' := [(qx, .inr (9, [.ref qy, .ref qc, .ref qp, .ref qr, .ref qm, .ref qg, .ref qu, .ref ql, .ref qf, .int (nI 6)])), kT G qy 4 (tyF tA), (tA 0, .inr (7, [.ref (nA 0), .int (b2i (ms 0)), .int (nI (so 0)), .int (nI (ln 0))])), (tA 1, .inr (7, [.ref (nA 1), .int (b2i (ms 1)), .int (nI (so 1)), .int (nI (ln 1))])), (tA 2, .inr (7, [.ref (nA 2), .int (b2i (ms 2)), .int (nI (so 2)), .int (nI (ln 2))])), (tA 3, .inr (7, [.ref (nA 3), .int (b2i (ms 3)), .int (nI (so 3)), .int (nI (ln 3))])), kJ G (nA 0) 40 (u 0), kJ G (nA 1) 40 (u 1), kJ G (nA 2) 40 (u 2), kJ G (nA 3) 40 (u 3)]) [0] rfl (j_rV X (b := qx) (As := [.int (nI 6)]) (ci := 9) (rest := []) 1 (mX9_finish l G qx qy qc qp qr qm qg qu ql qf lt 6 (by first | assumption | omega | exact ob_s (by omega) | exact ob_n)) gX9_tray_X9_finish rfl rfl rfl (by decide +kernel) ⟨Nat.le_of_ble_eq_true rfl, Nat.le_of_ble_eq_true rfl⟩ rfl rfl 0 rfl [0] rfl rfl rfl (Nat.le_of_ble_eq_true rfl) dX9_tray_41 ⟨Nat.le_of_ble_eq_true rfl, Nat.le_of_ble_eq_true rfl⟩) rfl rfl ?_
              have hs : sTray ms so ln u (nI 1) (nI k) m = (decide (6 = 0), 6, ms, so, ln, u) := by first | (simp [sTray, c_4, c_8, c_13, c_25, c_35]; done) | (simp [sTray, tN, cl0, cl1, cl2, cl3, hq_z, c_4, c_8, c_13, c_25, c_35]; done) | (simp [sTray, tN, cl0, cl1, cl2, cl3, hq_k, hq_z, c_4, c_8, c_13, c_25, c_35]; done) | (simp [sTray, tN, cl0, cl1, cl2, cl3, hq_k, hq_m, hq_z, c_4, c_8, c_13, c_25, c_35]; done) | (simp [sTray, c_4, c_8, c_13, c_25, c_35]; done)
              refine j_zret (pc := 44) X (b2i_nar _) dX9_tray_44 ?_
              rw [hs]; exact ⟨rfl, rfl⟩
          · skip
            refine j_aload_n (pc := 28) X dX9_tray_28 rfl 0 rfl ?_
            refine j_iconst (pc := 29) X (v := nI 5) dX9_tray_29 (by decide) ?_
            refine j_ci (pc := 30) X (ws' := [(qx, .inr (9, [.ref qy, .ref qc, .ref qp, .ref qr, .ref qm, .ref qg, .ref qu, .ref ql, .ref qf, .int (nI 5)])), kT G qy 4 (tyF tA), (tA 0, .inr (7, [.ref (nA 0), .int (b2i (ms 0)), .int (nI (so 0)), .int (nI (ln 0))])), (tA 1, .inr (7, [.ref (nA 1), .int (b2i (ms 1)), .int (nI (so 1)), .int (nI (ln 1))])), (tA 2, .inr (7, [.ref (nA 2), .int (b2i (ms 2)), .int (nI (so 2)), .int (nI (ln 2))])), (tA 3, .inr (7, [.ref (nA 3), .int (b2i (ms 3)), .int (nI (so 3)), .int (nI (ln 3))])), kJ G (nA 0) 40 (u 0), kJ G (nA 1) 40 (u 1), kJ G (nA 2) 40 (u 2), kJ G (nA 3) 40 (u 3)]) [0] rfl (j_rV X (b := qx) (As := [.int (nI 5)]) (ci := 9) (rest := []) 1 (mX9_finish l G qx qy qc qp qr qm qg qu ql qf lt 5 (by first | assumption | omega | exact ob_s (by omega) | exact ob_n)) gX9_tray_X9_finish rfl rfl rfl (by decide +kernel) ⟨Nat.le_of_ble_eq_true rfl, Nat.le_of_ble_eq_true rfl⟩ rfl rfl 0 rfl [0] rfl rfl rfl (Nat.le_of_ble_eq_true rfl) dX9_tray_30 ⟨Nat.le_of_ble_eq_true rfl, Nat.le_of_ble_eq_true rfl⟩) rfl rfl ?_
            have hs : sTray ms so ln u (nI 1) (nI k) m = (decide (5 = 0), 5, ms, so, ln, u) := by first | (simp [sTray, c_4, c_8, c_13, c_25]; done) | (simp [sTray, tN, cl0, cl1, cl2, cl3, hq_z, c_4, c_8, c_13, c_25]; done) | (simp [sTray, tN, cl0, cl1, cl2, cl3, hq_k, hq_z, c_4, c_8, c_13, c_25]; done) | (simp [sTray, tN, cl0, cl1, cl2, cl3, hq_k, hq_m, hq_z, c_4, c_8, c_13, c_25]; done) | (simp [sTray, c_4, c_8, c_13, c_25]; done)
            refine j_zret (pc := 33) X (b2i_nar _) dX9_tray_33 ?_
            rw [hs]; exact ⟨rfl, rfl⟩
        · skip
          have hq_z : inR z 4 = false := by simp [inR, c_8, c_13]
          refine j_aload_n (pc := 16) X dX9_tray_16 rfl 0 rfl ?_
          refine j_iconst (pc := 17) X (v := nI 1) dX9_tray_17 (by decide) ?_
          refine j_ci (pc := 18) X (ws' := [(qx, .inr (9, [.ref qy, .ref qc, .ref qp, .ref qr, .ref qm, .ref qg, .ref qu, .ref ql, .ref qf, .int (nI 1)])), kT G qy 4 (tyF tA), (tA 0, .inr (7, [.ref (nA 0), .int (b2i (ms 0)), .int (nI (so 0)), .int (nI (ln 0))])), (tA 1, .inr (7, [.ref (nA 1), .int (b2i (ms 1)), .int (nI (so 1)), .int (nI (ln 1))])), (tA 2, .inr (7, [.ref (nA 2), .int (b2i (ms 2)), .int (nI (so 2)), .int (nI (ln 2))])), (tA 3, .inr (7, [.ref (nA 3), .int (b2i (ms 3)), .int (nI (so 3)), .int (nI (ln 3))])), kJ G (nA 0) 40 (u 0), kJ G (nA 1) 40 (u 1), kJ G (nA 2) 40 (u 2), kJ G (nA 3) 40 (u 3)]) [0] rfl (j_rV X (b := qx) (As := [.int (nI 1)]) (ci := 9) (rest := []) 1 (mX9_finish l G qx qy qc qp qr qm qg qu ql qf lt 1 (by first | assumption | omega | exact ob_s (by omega) | exact ob_n)) gX9_tray_X9_finish rfl rfl rfl (by decide +kernel) ⟨Nat.le_of_ble_eq_true rfl, Nat.le_of_ble_eq_true rfl⟩ rfl rfl 0 rfl [0] rfl rfl rfl (Nat.le_of_ble_eq_true rfl) dX9_tray_18 ⟨Nat.le_of_ble_eq_true rfl, Nat.le_of_ble_eq_true rfl⟩) rfl rfl ?_
          have hs : sTray ms so ln u (nI 1) z m = (decide (1 = 0), 1, ms, so, ln, u) := by first | (simp [sTray, c_4, c_8, c_13]; done) | (simp [sTray, tN, cl0, cl1, cl2, cl3, hq_z, c_4, c_8, c_13]; done) | (simp [sTray, tN, cl0, cl1, cl2, cl3, hq_k, hq_z, c_4, c_8, c_13]; done) | (simp [sTray, tN, cl0, cl1, cl2, cl3, hq_k, hq_m, hq_z, c_4, c_8, c_13]; done) | (simp [sTray, c_4, c_8, c_13]; done)
          refine j_zret (pc := 21) X (b2i_nar _) dX9_tray_21 ?_
          rw [hs]; exact ⟨rfl, rfl⟩
    · skip
      refine j_iload_n (pc := 7) X dX9_tray_7 rfl 2 rfl ?_
      refine j_if_lt (pc := 8) X (x := z) (tgt := 16) dX9_tray_8 (by decide) (fun c_8 => ?_) (fun c_8 => ?_)
      · skip
        have hq_z : inR z 4 = false := by simp [inR, c_8]
        refine j_aload_n (pc := 16) X dX9_tray_16 rfl 0 rfl ?_
        refine j_iconst (pc := 17) X (v := nI 1) dX9_tray_17 (by decide) ?_
        refine j_ci (pc := 18) X (ws' := [(qx, .inr (9, [.ref qy, .ref qc, .ref qp, .ref qr, .ref qm, .ref qg, .ref qu, .ref ql, .ref qf, .int (nI 1)])), kT G qy 4 (tyF tA), (tA 0, .inr (7, [.ref (nA 0), .int (b2i (ms 0)), .int (nI (so 0)), .int (nI (ln 0))])), (tA 1, .inr (7, [.ref (nA 1), .int (b2i (ms 1)), .int (nI (so 1)), .int (nI (ln 1))])), (tA 2, .inr (7, [.ref (nA 2), .int (b2i (ms 2)), .int (nI (so 2)), .int (nI (ln 2))])), (tA 3, .inr (7, [.ref (nA 3), .int (b2i (ms 3)), .int (nI (so 3)), .int (nI (ln 3))])), kJ G (nA 0) 40 (u 0), kJ G (nA 1) 40 (u 1), kJ G (nA 2) 40 (u 2), kJ G (nA 3) 40 (u 3)]) [0] rfl (j_rV X (b := qx) (As := [.int (nI 1)]) (ci := 9) (rest := []) 1 (mX9_finish l G qx qy qc qp qr qm qg qu ql qf lt 1 (by first | assumption | omega | exact ob_s (by omega) | exact ob_n)) gX9_tray_X9_finish rfl rfl rfl (by decide +kernel) ⟨Nat.le_of_ble_eq_true rfl, Nat.le_of_ble_eq_true rfl⟩ rfl rfl 0 rfl [0] rfl rfl rfl (Nat.le_of_ble_eq_true rfl) dX9_tray_18 ⟨Nat.le_of_ble_eq_true rfl, Nat.le_of_ble_eq_true rfl⟩) rfl rfl ?_
        have hs : sTray ms so ln u (nI 2) z m = (decide (1 = 0), 1, ms, so, ln, u) := by first | (simp [sTray, c_4, c_8]; done) | (simp [sTray, tN, cl0, cl1, cl2, cl3, hq_z, c_4, c_8]; done) | (simp [sTray, tN, cl0, cl1, cl2, cl3, hq_k, hq_z, c_4, c_8]; done) | (simp [sTray, tN, cl0, cl1, cl2, cl3, hq_k, hq_m, hq_z, c_4, c_8]; done) | (simp [sTray, c_4, c_8]; done)
        refine j_zret (pc := 21) X (b2i_nar _) dX9_tray_21 ?_
        rw [hs]; exact ⟨rfl, rfl⟩
      · skip
        refine j_iload_n (pc := 11) X dX9_tray_11 rfl 2 rfl ?_
        refine j_iconst (pc := 12) X (v := nI 4) dX9_tray_12 (by decide) ?_
        refine j_icmp_lt (pc := 13) X (x := z) (z := nI 4) (tgt := 22) dX9_tray_13 (by decide) (fun c_13 => ?_) (fun c_13 => ?_)
        · skip
          obtain ⟨k, hk, rfl⟩ := rngl_of c_8 c_13 (by decide); have hq_k := nI_clamp (n := k) (by omega); have hq_z : inR (nI k) 4 = true := (by simp [inR, c_8, c_13])
          refine j_iload_n (pc := 22) X dX9_tray_22 rfl 3 rfl ?_
          refine j_bipush (pc := 23) X (v := nI 40) dX9_tray_23 (by decide) ?_
          refine j_icmp_le (pc := 25) X (x := m) (z := nI 40) (tgt := 34) dX9_tray_25 (by decide) (fun c_25 => ?_) (fun c_25 => ?_)
          · skip
            refine j_iload_n (pc := 34) X dX9_tray_34 rfl 3 rfl ?_
            refine j_if_ge (pc := 35) X (x := m) (tgt := 45) dX9_tray_35 (by decide) (fun c_35 => ?_) (fun c_35 => ?_)
            · skip
              obtain ⟨m2, hm2, rfl⟩ := rng_of (Int32.not_lt.mpr c_35) c_25 (by decide); have hq_m := nI_clamp (n := m2) (by omega)
              refine j_aload_n (pc := 45) X dX9_tray_45 rfl 0 rfl ?_
              refine j_get (pc := 46) X 9 i_X9 0 rfl rfl 0 (by decide) (by decide +kernel) rfl dX9_tray_46 ?_
              refine j_iload_n (pc := 49) X dX9_tray_49 rfl 1 rfl ?_
              refine j_aldq (pc := 50) X 1 rfl (vp_in_nI (by omega) (by omega)) (v := tA 2) ((congrArg (tyF tA) (nI_clamp (by decide))).trans rfl) dX9_tray_50 ?_
              refine j_iload_n (pc := 51) X dX9_tray_51 rfl 2 rfl ?_
              refine j_iload_n (pc := 52) X dX9_tray_52 rfl 3 rfl ?_
              refine j_cv (pc := 53) X (ws' := [(qx, .inr (9, [.ref qy, .ref qc, .ref qp, .ref qr, .ref qm, .ref qg, .ref qu, .ref ql, .ref qf, .int (nI lt)])), kT G qy 4 (tyF tA), (tA 0, .inr (7, [.ref (nA 0), .int (b2i (ms 0)), .int (nI (so 0)), .int (nI (ln 0))])), (tA 1, .inr (7, [.ref (nA 1), .int (b2i (ms 1)), .int (nI (so 1)), .int (nI (ln 1))])), ((tA 2), .inr (7, [.ref (nA 2), .int (b2i false), .int (nI k), .int (nI m2)])), (tA 3, .inr (7, [.ref (nA 3), .int (b2i (ms 3)), .int (nI (so 3)), .int (nI (ln 3))])), kJ G (nA 0) 40 (u 0), kJ G (nA 1) 40 (u 1), kJ G (nA 2) 40 (fil 0 (u 2) 40), kJ G (nA 3) 40 (u 3)]) [4, 8] rfl (j_rVN X (b := tA 2) (As := [.int (nI k), .int (nI m2)]) (ci := 7) (rest := []) 2 (mX7_make l G (tA 2) (nA 2) (ms 2) (so 2) (ln 2) (u 2) k m2 ) gX9_tray_X7_make_n83 rfl rfl rfl (by decide +kernel) (by decide +kernel) (by decide +kernel) (by decide +kernel) (by decide +kernel) ⟨Nat.le_of_ble_eq_true rfl, Nat.le_of_ble_eq_true rfl⟩ rfl rfl 0 rfl [4, 8] rfl rfl rfl (Nat.le_of_ble_eq_true rfl) dX9_tray_53 ⟨Nat.le_of_ble_eq_true rfl, Nat.le_of_ble_eq_true rfl⟩) rfl rfl ?_
              refine j_aload_n (pc := 56) X dX9_tray_56 rfl 0 rfl ?_
              refine j_iconst (pc := 57) X (v := nI 0) dX9_tray_57 (by decide) ?_
              refine j_ci (pc := 58) X (ws' := [(qx, .inr (9, [.ref qy, .ref qc, .ref qp, .ref qr, .ref qm, .ref qg, .ref qu, .ref ql, .ref qf, .int (nI 0)])), kT G qy 4 (tyF tA), (tA 0, .inr (7, [.ref (nA 0), .int (b2i (ms 0)), .int (nI (so 0)), .int (nI (ln 0))])), (tA 1, .inr (7, [.ref (nA 1), .int (b2i (ms 1)), .int (nI (so 1)), .int (nI (ln 1))])), ((tA 2), .inr (7, [.ref (nA 2), .int (b2i false), .int (nI k), .int (nI m2)])), (tA 3, .inr (7, [.ref (nA 3), .int (b2i (ms 3)), .int (nI (so 3)), .int (nI (ln 3))])), kJ G (nA 0) 40 (u 0), kJ G (nA 1) 40 (u 1), kJ G (nA 2) 40 (fil 0 (u 2) 40), kJ G (nA 3) 40 (u 3)]) [0] rfl (j_rV X (b := qx) (As := [.int (nI 0)]) (ci := 9) (rest := []) 1 (mX9_finish l G qx qy qc qp qr qm qg qu ql qf lt 0 (by first | assumption | omega | exact ob_s (by omega) | exact ob_n)) gX9_tray_X9_finish rfl rfl rfl (by decide +kernel) ⟨Nat.le_of_ble_eq_true rfl, Nat.le_of_ble_eq_true rfl⟩ rfl rfl 0 rfl [0] rfl rfl rfl (Nat.le_of_ble_eq_true rfl) dX9_tray_58 ⟨Nat.le_of_ble_eq_true rfl, Nat.le_of_ble_eq_true rfl⟩) rfl rfl ?_
              have hs : sTray ms so ln u (nI 2) (nI k) (nI m2) = (decide (0 = 0), 0, va_up ms 2 false, va_up so 2 k, va_up ln 2 m2, va_up u 2 (fil 0 (u 2) 40)) := by first | (simp [sTray, c_4, c_8, c_13, c_25, c_35]; done) | (simp [sTray, tN, cl0, cl1, cl2, cl3, hq_z, c_4, c_8, c_13, c_25, c_35]; done) | (simp [sTray, tN, cl0, cl1, cl2, cl3, hq_k, hq_z, c_4, c_8, c_13, c_25, c_35]; done) | (simp [sTray, tN, cl0, cl1, cl2, cl3, hq_k, hq_m, hq_z, c_4, c_8, c_13, c_25, c_35]; done) | (simp [sTray, c_4, c_8, c_13, c_25, c_35]; done)
              refine j_zret (pc := 61) X (b2i_nar _) dX9_tray_61 ?_
              rw [hs]; exact ⟨rfl, rfl⟩
            · skip
              refine j_aload_n (pc := 38) X dX9_tray_38 rfl 0 rfl ?_
              refine j_bipush (pc := 39) X (v := nI 6) dX9_tray_39 (by decide) ?_
              refine j_ci (pc := 41) X (ws' := [(qx, .inr (9, [.ref qy, .ref qc, .ref qp, .ref qr, .ref qm, .ref qg, .ref qu, .ref ql, .ref qf, .int (nI 6)])), kT G qy 4 (tyF tA), (tA 0, .inr (7, [.ref (nA 0), .int (b2i (ms 0)), .int (nI (so 0)), .int (nI (ln 0))])), (tA 1, .inr (7, [.ref (nA 1), .int (b2i (ms 1)), .int (nI (so 1)), .int (nI (ln 1))])), (tA 2, .inr (7, [.ref (nA 2), .int (b2i (ms 2)), .int (nI (so 2)), .int (nI (ln 2))])), (tA 3, .inr (7, [.ref (nA 3), .int (b2i (ms 3)), .int (nI (so 3)), .int (nI (ln 3))])), kJ G (nA 0) 40 (u 0), kJ G (nA 1) 40 (u 1), kJ G (nA 2) 40 (u 2), kJ G (nA 3) 40 (u 3)]) [0] rfl (j_rV X (b := qx) (As := [.int (nI 6)]) (ci := 9) (rest := []) 1 (mX9_finish l G qx qy qc qp qr qm qg qu ql qf lt 6 (by first | assumption | omega | exact ob_s (by omega) | exact ob_n)) gX9_tray_X9_finish rfl rfl rfl (by decide +kernel) ⟨Nat.le_of_ble_eq_true rfl, Nat.le_of_ble_eq_true rfl⟩ rfl rfl 0 rfl [0] rfl rfl rfl (Nat.le_of_ble_eq_true rfl) dX9_tray_41 ⟨Nat.le_of_ble_eq_true rfl, Nat.le_of_ble_eq_true rfl⟩) rfl rfl ?_
              have hs : sTray ms so ln u (nI 2) (nI k) m = (decide (6 = 0), 6, ms, so, ln, u) := by first | (simp [sTray, c_4, c_8, c_13, c_25, c_35]; done) | (simp [sTray, tN, cl0, cl1, cl2, cl3, hq_z, c_4, c_8, c_13, c_25, c_35]; done) | (simp [sTray, tN, cl0, cl1, cl2, cl3, hq_k, hq_z, c_4, c_8, c_13, c_25, c_35]; done) | (simp [sTray, tN, cl0, cl1, cl2, cl3, hq_k, hq_m, hq_z, c_4, c_8, c_13, c_25, c_35]; done) | (simp [sTray, c_4, c_8, c_13, c_25, c_35]; done)
              refine j_zret (pc := 44) X (b2i_nar _) dX9_tray_44 ?_
              rw [hs]; exact ⟨rfl, rfl⟩
          · skip
            refine j_aload_n (pc := 28) X dX9_tray_28 rfl 0 rfl ?_
            refine j_iconst (pc := 29) X (v := nI 5) dX9_tray_29 (by decide) ?_
            refine j_ci (pc := 30) X (ws' := [(qx, .inr (9, [.ref qy, .ref qc, .ref qp, .ref qr, .ref qm, .ref qg, .ref qu, .ref ql, .ref qf, .int (nI 5)])), kT G qy 4 (tyF tA), (tA 0, .inr (7, [.ref (nA 0), .int (b2i (ms 0)), .int (nI (so 0)), .int (nI (ln 0))])), (tA 1, .inr (7, [.ref (nA 1), .int (b2i (ms 1)), .int (nI (so 1)), .int (nI (ln 1))])), (tA 2, .inr (7, [.ref (nA 2), .int (b2i (ms 2)), .int (nI (so 2)), .int (nI (ln 2))])), (tA 3, .inr (7, [.ref (nA 3), .int (b2i (ms 3)), .int (nI (so 3)), .int (nI (ln 3))])), kJ G (nA 0) 40 (u 0), kJ G (nA 1) 40 (u 1), kJ G (nA 2) 40 (u 2), kJ G (nA 3) 40 (u 3)]) [0] rfl (j_rV X (b := qx) (As := [.int (nI 5)]) (ci := 9) (rest := []) 1 (mX9_finish l G qx qy qc qp qr qm qg qu ql qf lt 5 (by first | assumption | omega | exact ob_s (by omega) | exact ob_n)) gX9_tray_X9_finish rfl rfl rfl (by decide +kernel) ⟨Nat.le_of_ble_eq_true rfl, Nat.le_of_ble_eq_true rfl⟩ rfl rfl 0 rfl [0] rfl rfl rfl (Nat.le_of_ble_eq_true rfl) dX9_tray_30 ⟨Nat.le_of_ble_eq_true rfl, Nat.le_of_ble_eq_true rfl⟩) rfl rfl ?_
            have hs : sTray ms so ln u (nI 2) (nI k) m = (decide (5 = 0), 5, ms, so, ln, u) := by first | (simp [sTray, c_4, c_8, c_13, c_25]; done) | (simp [sTray, tN, cl0, cl1, cl2, cl3, hq_z, c_4, c_8, c_13, c_25]; done) | (simp [sTray, tN, cl0, cl1, cl2, cl3, hq_k, hq_z, c_4, c_8, c_13, c_25]; done) | (simp [sTray, tN, cl0, cl1, cl2, cl3, hq_k, hq_m, hq_z, c_4, c_8, c_13, c_25]; done) | (simp [sTray, c_4, c_8, c_13, c_25]; done)
            refine j_zret (pc := 33) X (b2i_nar _) dX9_tray_33 ?_
            rw [hs]; exact ⟨rfl, rfl⟩
        · skip
          have hq_z : inR z 4 = false := by simp [inR, c_8, c_13]
          refine j_aload_n (pc := 16) X dX9_tray_16 rfl 0 rfl ?_
          refine j_iconst (pc := 17) X (v := nI 1) dX9_tray_17 (by decide) ?_
          refine j_ci (pc := 18) X (ws' := [(qx, .inr (9, [.ref qy, .ref qc, .ref qp, .ref qr, .ref qm, .ref qg, .ref qu, .ref ql, .ref qf, .int (nI 1)])), kT G qy 4 (tyF tA), (tA 0, .inr (7, [.ref (nA 0), .int (b2i (ms 0)), .int (nI (so 0)), .int (nI (ln 0))])), (tA 1, .inr (7, [.ref (nA 1), .int (b2i (ms 1)), .int (nI (so 1)), .int (nI (ln 1))])), (tA 2, .inr (7, [.ref (nA 2), .int (b2i (ms 2)), .int (nI (so 2)), .int (nI (ln 2))])), (tA 3, .inr (7, [.ref (nA 3), .int (b2i (ms 3)), .int (nI (so 3)), .int (nI (ln 3))])), kJ G (nA 0) 40 (u 0), kJ G (nA 1) 40 (u 1), kJ G (nA 2) 40 (u 2), kJ G (nA 3) 40 (u 3)]) [0] rfl (j_rV X (b := qx) (As := [.int (nI 1)]) (ci := 9) (rest := []) 1 (mX9_finish l G qx qy qc qp qr qm qg qu ql qf lt 1 (by first | assumption | omega | exact ob_s (by omega) | exact ob_n)) gX9_tray_X9_finish rfl rfl rfl (by decide +kernel) ⟨Nat.le_of_ble_eq_true rfl, Nat.le_of_ble_eq_true rfl⟩ rfl rfl 0 rfl [0] rfl rfl rfl (Nat.le_of_ble_eq_true rfl) dX9_tray_18 ⟨Nat.le_of_ble_eq_true rfl, Nat.le_of_ble_eq_true rfl⟩) rfl rfl ?_
          have hs : sTray ms so ln u (nI 2) z m = (decide (1 = 0), 1, ms, so, ln, u) := by first | (simp [sTray, c_4, c_8, c_13]; done) | (simp [sTray, tN, cl0, cl1, cl2, cl3, hq_z, c_4, c_8, c_13]; done) | (simp [sTray, tN, cl0, cl1, cl2, cl3, hq_k, hq_z, c_4, c_8, c_13]; done) | (simp [sTray, tN, cl0, cl1, cl2, cl3, hq_k, hq_m, hq_z, c_4, c_8, c_13]; done) | (simp [sTray, c_4, c_8, c_13]; done)
          refine j_zret (pc := 21) X (b2i_nar _) dX9_tray_21 ?_
          rw [hs]; exact ⟨rfl, rfl⟩
    · skip
      refine j_iload_n (pc := 7) X dX9_tray_7 rfl 2 rfl ?_
      refine j_if_lt (pc := 8) X (x := z) (tgt := 16) dX9_tray_8 (by decide) (fun c_8 => ?_) (fun c_8 => ?_)
      · skip
        have hq_z : inR z 4 = false := by simp [inR, c_8]
        refine j_aload_n (pc := 16) X dX9_tray_16 rfl 0 rfl ?_
        refine j_iconst (pc := 17) X (v := nI 1) dX9_tray_17 (by decide) ?_
        refine j_ci (pc := 18) X (ws' := [(qx, .inr (9, [.ref qy, .ref qc, .ref qp, .ref qr, .ref qm, .ref qg, .ref qu, .ref ql, .ref qf, .int (nI 1)])), kT G qy 4 (tyF tA), (tA 0, .inr (7, [.ref (nA 0), .int (b2i (ms 0)), .int (nI (so 0)), .int (nI (ln 0))])), (tA 1, .inr (7, [.ref (nA 1), .int (b2i (ms 1)), .int (nI (so 1)), .int (nI (ln 1))])), (tA 2, .inr (7, [.ref (nA 2), .int (b2i (ms 2)), .int (nI (so 2)), .int (nI (ln 2))])), (tA 3, .inr (7, [.ref (nA 3), .int (b2i (ms 3)), .int (nI (so 3)), .int (nI (ln 3))])), kJ G (nA 0) 40 (u 0), kJ G (nA 1) 40 (u 1), kJ G (nA 2) 40 (u 2), kJ G (nA 3) 40 (u 3)]) [0] rfl (j_rV X (b := qx) (As := [.int (nI 1)]) (ci := 9) (rest := []) 1 (mX9_finish l G qx qy qc qp qr qm qg qu ql qf lt 1 (by first | assumption | omega | exact ob_s (by omega) | exact ob_n)) gX9_tray_X9_finish rfl rfl rfl (by decide +kernel) ⟨Nat.le_of_ble_eq_true rfl, Nat.le_of_ble_eq_true rfl⟩ rfl rfl 0 rfl [0] rfl rfl rfl (Nat.le_of_ble_eq_true rfl) dX9_tray_18 ⟨Nat.le_of_ble_eq_true rfl, Nat.le_of_ble_eq_true rfl⟩) rfl rfl ?_
        have hs : sTray ms so ln u (nI 3) z m = (decide (1 = 0), 1, ms, so, ln, u) := by first | (simp [sTray, c_4, c_8]; done) | (simp [sTray, tN, cl0, cl1, cl2, cl3, hq_z, c_4, c_8]; done) | (simp [sTray, tN, cl0, cl1, cl2, cl3, hq_k, hq_z, c_4, c_8]; done) | (simp [sTray, tN, cl0, cl1, cl2, cl3, hq_k, hq_m, hq_z, c_4, c_8]; done) | (simp [sTray, c_4, c_8]; done)
        refine j_zret (pc := 21) X (b2i_nar _) dX9_tray_21 ?_
        rw [hs]; exact ⟨rfl, rfl⟩
      · skip
        refine j_iload_n (pc := 11) X dX9_tray_11 rfl 2 rfl ?_
        refine j_iconst (pc := 12) X (v := nI 4) dX9_tray_12 (by decide) ?_
        refine j_icmp_lt (pc := 13) X (x := z) (z := nI 4) (tgt := 22) dX9_tray_13 (by decide) (fun c_13 => ?_) (fun c_13 => ?_)
        · skip
          obtain ⟨k, hk, rfl⟩ := rngl_of c_8 c_13 (by decide); have hq_k := nI_clamp (n := k) (by omega); have hq_z : inR (nI k) 4 = true := (by simp [inR, c_8, c_13])
          refine j_iload_n (pc := 22) X dX9_tray_22 rfl 3 rfl ?_
          refine j_bipush (pc := 23) X (v := nI 40) dX9_tray_23 (by decide) ?_
          refine j_icmp_le (pc := 25) X (x := m) (z := nI 40) (tgt := 34) dX9_tray_25 (by decide) (fun c_25 => ?_) (fun c_25 => ?_)
          · skip
            refine j_iload_n (pc := 34) X dX9_tray_34 rfl 3 rfl ?_
            refine j_if_ge (pc := 35) X (x := m) (tgt := 45) dX9_tray_35 (by decide) (fun c_35 => ?_) (fun c_35 => ?_)
            · skip
              obtain ⟨m2, hm2, rfl⟩ := rng_of (Int32.not_lt.mpr c_35) c_25 (by decide); have hq_m := nI_clamp (n := m2) (by omega)
              refine j_aload_n (pc := 45) X dX9_tray_45 rfl 0 rfl ?_
              refine j_get (pc := 46) X 9 i_X9 0 rfl rfl 0 (by decide) (by decide +kernel) rfl dX9_tray_46 ?_
              refine j_iload_n (pc := 49) X dX9_tray_49 rfl 1 rfl ?_
              refine j_aldq (pc := 50) X 1 rfl (vp_in_nI (by omega) (by omega)) (v := tA 3) ((congrArg (tyF tA) (nI_clamp (by decide))).trans rfl) dX9_tray_50 ?_
              refine j_iload_n (pc := 51) X dX9_tray_51 rfl 2 rfl ?_
              refine j_iload_n (pc := 52) X dX9_tray_52 rfl 3 rfl ?_
              refine j_cv (pc := 53) X (ws' := [(qx, .inr (9, [.ref qy, .ref qc, .ref qp, .ref qr, .ref qm, .ref qg, .ref qu, .ref ql, .ref qf, .int (nI lt)])), kT G qy 4 (tyF tA), (tA 0, .inr (7, [.ref (nA 0), .int (b2i (ms 0)), .int (nI (so 0)), .int (nI (ln 0))])), (tA 1, .inr (7, [.ref (nA 1), .int (b2i (ms 1)), .int (nI (so 1)), .int (nI (ln 1))])), (tA 2, .inr (7, [.ref (nA 2), .int (b2i (ms 2)), .int (nI (so 2)), .int (nI (ln 2))])), ((tA 3), .inr (7, [.ref (nA 3), .int (b2i false), .int (nI k), .int (nI m2)])), kJ G (nA 0) 40 (u 0), kJ G (nA 1) 40 (u 1), kJ G (nA 2) 40 (u 2), kJ G (nA 3) 40 (fil 0 (u 3) 40)]) [5, 9] rfl (j_rVN X (b := tA 3) (As := [.int (nI k), .int (nI m2)]) (ci := 7) (rest := []) 2 (mX7_make l G (tA 3) (nA 3) (ms 3) (so 3) (ln 3) (u 3) k m2 ) gX9_tray_X7_make_n83 rfl rfl rfl (by decide +kernel) (by decide +kernel) (by decide +kernel) (by decide +kernel) (by decide +kernel) ⟨Nat.le_of_ble_eq_true rfl, Nat.le_of_ble_eq_true rfl⟩ rfl rfl 0 rfl [5, 9] rfl rfl rfl (Nat.le_of_ble_eq_true rfl) dX9_tray_53 ⟨Nat.le_of_ble_eq_true rfl, Nat.le_of_ble_eq_true rfl⟩) rfl rfl ?_
              refine j_aload_n (pc := 56) X dX9_tray_56 rfl 0 rfl ?_
              refine j_iconst (pc := 57) X (v := nI 0) dX9_tray_57 (by decide) ?_
              refine j_ci (pc := 58) X (ws' := [(qx, .inr (9, [.ref qy, .ref qc, .ref qp, .ref qr, .ref qm, .ref qg, .ref qu, .ref ql, .ref qf, .int (nI 0)])), kT G qy 4 (tyF tA), (tA 0, .inr (7, [.ref (nA 0), .int (b2i (ms 0)), .int (nI (so 0)), .int (nI (ln 0))])), (tA 1, .inr (7, [.ref (nA 1), .int (b2i (ms 1)), .int (nI (so 1)), .int (nI (ln 1))])), (tA 2, .inr (7, [.ref (nA 2), .int (b2i (ms 2)), .int (nI (so 2)), .int (nI (ln 2))])), ((tA 3), .inr (7, [.ref (nA 3), .int (b2i false), .int (nI k), .int (nI m2)])), kJ G (nA 0) 40 (u 0), kJ G (nA 1) 40 (u 1), kJ G (nA 2) 40 (u 2), kJ G (nA 3) 40 (fil 0 (u 3) 40)]) [0] rfl (j_rV X (b := qx) (As := [.int (nI 0)]) (ci := 9) (rest := []) 1 (mX9_finish l G qx qy qc qp qr qm qg qu ql qf lt 0 (by first | assumption | omega | exact ob_s (by omega) | exact ob_n)) gX9_tray_X9_finish rfl rfl rfl (by decide +kernel) ⟨Nat.le_of_ble_eq_true rfl, Nat.le_of_ble_eq_true rfl⟩ rfl rfl 0 rfl [0] rfl rfl rfl (Nat.le_of_ble_eq_true rfl) dX9_tray_58 ⟨Nat.le_of_ble_eq_true rfl, Nat.le_of_ble_eq_true rfl⟩) rfl rfl ?_
              have hs : sTray ms so ln u (nI 3) (nI k) (nI m2) = (decide (0 = 0), 0, va_up ms 3 false, va_up so 3 k, va_up ln 3 m2, va_up u 3 (fil 0 (u 3) 40)) := by first | (simp [sTray, c_4, c_8, c_13, c_25, c_35]; done) | (simp [sTray, tN, cl0, cl1, cl2, cl3, hq_z, c_4, c_8, c_13, c_25, c_35]; done) | (simp [sTray, tN, cl0, cl1, cl2, cl3, hq_k, hq_z, c_4, c_8, c_13, c_25, c_35]; done) | (simp [sTray, tN, cl0, cl1, cl2, cl3, hq_k, hq_m, hq_z, c_4, c_8, c_13, c_25, c_35]; done) | (simp [sTray, c_4, c_8, c_13, c_25, c_35]; done)
              refine j_zret (pc := 61) X (b2i_nar _) dX9_tray_61 ?_
              rw [hs]; exact ⟨rfl, rfl⟩
            · skip
              refine j_aload_n (pc := 38) X dX9_tray_38 rfl 0 rfl ?_
              refine j_bipush (pc := 39) X (v := nI 6) dX9_tray_39 (by decide) ?_
              refine j_ci (pc := 41) X (ws' := [(qx, .inr (9, [.ref qy, .ref qc, .ref qp, .ref qr, .ref qm, .ref qg, .ref qu, .ref ql, .ref qf, .int (nI 6)])), kT G qy 4 (tyF tA), (tA 0, .inr (7, [.ref (nA 0), .int (b2i (ms 0)), .int (nI (so 0)), .int (nI (ln 0))])), (tA 1, .inr (7, [.ref (nA 1), .int (b2i (ms 1)), .int (nI (so 1)), .int (nI (ln 1))])), (tA 2, .inr (7, [.ref (nA 2), .int (b2i (ms 2)), .int (nI (so 2)), .int (nI (ln 2))])), (tA 3, .inr (7, [.ref (nA 3), .int (b2i (ms 3)), .int (nI (so 3)), .int (nI (ln 3))])), kJ G (nA 0) 40 (u 0), kJ G (nA 1) 40 (u 1), kJ G (nA 2) 40 (u 2), kJ G (nA 3) 40 (u 3)]) [0] rfl (j_rV X (b := qx) (As := [.int (nI 6)]) (ci := 9) (rest := []) 1 (mX9_finish l G qx qy qc qp qr qm qg qu ql qf lt 6 (by first | assumption | omega | exact ob_s (by omega) | exact ob_n)) gX9_tray_X9_finish rfl rfl rfl (by decide +kernel) ⟨Nat.le_of_ble_eq_true rfl, Nat.le_of_ble_eq_true rfl⟩ rfl rfl 0 rfl [0] rfl rfl rfl (Nat.le_of_ble_eq_true rfl) dX9_tray_41 ⟨Nat.le_of_ble_eq_true rfl, Nat.le_of_ble_eq_true rfl⟩) rfl rfl ?_
              have hs : sTray ms so ln u (nI 3) (nI k) m = (decide (6 = 0), 6, ms, so, ln, u) := by first | (simp [sTray, c_4, c_8, c_13, c_25, c_35]; done) | (simp [sTray, tN, cl0, cl1, cl2, cl3, hq_z, c_4, c_8, c_13, c_25, c_35]; done) | (simp [sTray, tN, cl0, cl1, cl2, cl3, hq_k, hq_z, c_4, c_8, c_13, c_25, c_35]; done) | (simp [sTray, tN, cl0, cl1, cl2, cl3, hq_k, hq_m, hq_z, c_4, c_8, c_13, c_25, c_35]; done) | (simp [sTray, c_4, c_8, c_13, c_25, c_35]; done)
              refine j_zret (pc := 44) X (b2i_nar _) dX9_tray_44 ?_
              rw [hs]; exact ⟨rfl, rfl⟩
          · skip
            refine j_aload_n (pc := 28) X dX9_tray_28 rfl 0 rfl ?_
            refine j_iconst (pc := 29) X (v := nI 5) dX9_tray_29 (by decide) ?_
            refine j_ci (pc := 30) X (ws' := [(qx, .inr (9, [.ref qy, .ref qc, .ref qp, .ref qr, .ref qm, .ref qg, .ref qu, .ref ql, .ref qf, .int (nI 5)])), kT G qy 4 (tyF tA), (tA 0, .inr (7, [.ref (nA 0), .int (b2i (ms 0)), .int (nI (so 0)), .int (nI (ln 0))])), (tA 1, .inr (7, [.ref (nA 1), .int (b2i (ms 1)), .int (nI (so 1)), .int (nI (ln 1))])), (tA 2, .inr (7, [.ref (nA 2), .int (b2i (ms 2)), .int (nI (so 2)), .int (nI (ln 2))])), (tA 3, .inr (7, [.ref (nA 3), .int (b2i (ms 3)), .int (nI (so 3)), .int (nI (ln 3))])), kJ G (nA 0) 40 (u 0), kJ G (nA 1) 40 (u 1), kJ G (nA 2) 40 (u 2), kJ G (nA 3) 40 (u 3)]) [0] rfl (j_rV X (b := qx) (As := [.int (nI 5)]) (ci := 9) (rest := []) 1 (mX9_finish l G qx qy qc qp qr qm qg qu ql qf lt 5 (by first | assumption | omega | exact ob_s (by omega) | exact ob_n)) gX9_tray_X9_finish rfl rfl rfl (by decide +kernel) ⟨Nat.le_of_ble_eq_true rfl, Nat.le_of_ble_eq_true rfl⟩ rfl rfl 0 rfl [0] rfl rfl rfl (Nat.le_of_ble_eq_true rfl) dX9_tray_30 ⟨Nat.le_of_ble_eq_true rfl, Nat.le_of_ble_eq_true rfl⟩) rfl rfl ?_
            have hs : sTray ms so ln u (nI 3) (nI k) m = (decide (5 = 0), 5, ms, so, ln, u) := by first | (simp [sTray, c_4, c_8, c_13, c_25]; done) | (simp [sTray, tN, cl0, cl1, cl2, cl3, hq_z, c_4, c_8, c_13, c_25]; done) | (simp [sTray, tN, cl0, cl1, cl2, cl3, hq_k, hq_z, c_4, c_8, c_13, c_25]; done) | (simp [sTray, tN, cl0, cl1, cl2, cl3, hq_k, hq_m, hq_z, c_4, c_8, c_13, c_25]; done) | (simp [sTray, c_4, c_8, c_13, c_25]; done)
            refine j_zret (pc := 33) X (b2i_nar _) dX9_tray_33 ?_
            rw [hs]; exact ⟨rfl, rfl⟩
        · skip
          have hq_z : inR z 4 = false := by simp [inR, c_8, c_13]
          refine j_aload_n (pc := 16) X dX9_tray_16 rfl 0 rfl ?_
          refine j_iconst (pc := 17) X (v := nI 1) dX9_tray_17 (by decide) ?_
          refine j_ci (pc := 18) X (ws' := [(qx, .inr (9, [.ref qy, .ref qc, .ref qp, .ref qr, .ref qm, .ref qg, .ref qu, .ref ql, .ref qf, .int (nI 1)])), kT G qy 4 (tyF tA), (tA 0, .inr (7, [.ref (nA 0), .int (b2i (ms 0)), .int (nI (so 0)), .int (nI (ln 0))])), (tA 1, .inr (7, [.ref (nA 1), .int (b2i (ms 1)), .int (nI (so 1)), .int (nI (ln 1))])), (tA 2, .inr (7, [.ref (nA 2), .int (b2i (ms 2)), .int (nI (so 2)), .int (nI (ln 2))])), (tA 3, .inr (7, [.ref (nA 3), .int (b2i (ms 3)), .int (nI (so 3)), .int (nI (ln 3))])), kJ G (nA 0) 40 (u 0), kJ G (nA 1) 40 (u 1), kJ G (nA 2) 40 (u 2), kJ G (nA 3) 40 (u 3)]) [0] rfl (j_rV X (b := qx) (As := [.int (nI 1)]) (ci := 9) (rest := []) 1 (mX9_finish l G qx qy qc qp qr qm qg qu ql qf lt 1 (by first | assumption | omega | exact ob_s (by omega) | exact ob_n)) gX9_tray_X9_finish rfl rfl rfl (by decide +kernel) ⟨Nat.le_of_ble_eq_true rfl, Nat.le_of_ble_eq_true rfl⟩ rfl rfl 0 rfl [0] rfl rfl rfl (Nat.le_of_ble_eq_true rfl) dX9_tray_18 ⟨Nat.le_of_ble_eq_true rfl, Nat.le_of_ble_eq_true rfl⟩) rfl rfl ?_
          have hs : sTray ms so ln u (nI 3) z m = (decide (1 = 0), 1, ms, so, ln, u) := by first | (simp [sTray, c_4, c_8, c_13]; done) | (simp [sTray, tN, cl0, cl1, cl2, cl3, hq_z, c_4, c_8, c_13]; done) | (simp [sTray, tN, cl0, cl1, cl2, cl3, hq_k, hq_z, c_4, c_8, c_13]; done) | (simp [sTray, tN, cl0, cl1, cl2, cl3, hq_k, hq_m, hq_z, c_4, c_8, c_13]; done) | (simp [sTray, c_4, c_8, c_13]; done)
          refine j_zret (pc := 21) X (b2i_nar _) dX9_tray_21 ?_
          rw [hs]; exact ⟨rfl, rfl⟩

set_option maxHeartbeats 4000000 in
set_option maxRecDepth 100000 in
theorem mX9_write (l : Launch) (G : jG) (qx : Nat) (qy : Nat) (qc : Nat) (qp : Nat) (qr : Nat) (qm : Nat) (qg : Nat) (qu : Nat) (ql : Nat) (qf : Nat) (lt : Nat) (tA : Nat → Nat) (nA : Nat → Nat) (ms : Nat → Bool) (so : Nat → Nat) (ln : Nat → Nat) (u : Nat → Nat → Int64) (x : Int32) (k : Int32) (v : Int64) (hln : ∀ k, ln k ≤ 40) (hso : ∀ k, so k < 4) : MV l yX9_write wsX9_write ({ frames := 3, cells := 0, slots := 0, locals := 64 }) G [.ref qx, .int x, .int k, .long v] [(qx, .inr (9, [.ref qy, .ref qc, .ref qp, .ref qr, .ref qm, .ref qg, .ref qu, .ref ql, .ref qf, .int (nI lt)])), kT G qy 4 (tyF tA), (tA 0, .inr (7, [.ref (nA 0), .int (b2i (ms 0)), .int (nI (so 0)), .int (nI (ln 0))])), (tA 1, .inr (7, [.ref (nA 1), .int (b2i (ms 1)), .int (nI (so 1)), .int (nI (ln 1))])), (tA 2, .inr (7, [.ref (nA 2), .int (b2i (ms 2)), .int (nI (so 2)), .int (nI (ln 2))])), (tA 3, .inr (7, [.ref (nA 3), .int (b2i (ms 3)), .int (nI (so 3)), .int (nI (ln 3))])), kJ G (nA 0) 40 (u 0), kJ G (nA 1) 40 (u 1), kJ G (nA 2) 40 (u 2), kJ G (nA 3) 40 (u 3)] (some (.int (b2i ((sWrite ms so ln u x k v).1)))) [(qx, .inr (9, [.ref qy, .ref qc, .ref qp, .ref qr, .ref qm, .ref qg, .ref qu, .ref ql, .ref qf, .int (nI ((sWrite ms so ln u x k v).2.1))])), kT G qy 4 (tyF tA), (tA 0, .inr (7, [.ref (nA 0), .int (b2i (ms 0)), .int (nI (so 0)), .int (nI (ln 0))])), (tA 1, .inr (7, [.ref (nA 1), .int (b2i (ms 1)), .int (nI (so 1)), .int (nI (ln 1))])), (tA 2, .inr (7, [.ref (nA 2), .int (b2i (ms 2)), .int (nI (so 2)), .int (nI (ln 2))])), (tA 3, .inr (7, [.ref (nA 3), .int (b2i (ms 3)), .int (nI (so 3)), .int (nI (ln 3))])), kJ G (nA 0) 40 (((sWrite ms so ln u x k v).2.2) 0), kJ G (nA 1) 40 (((sWrite ms so ln u x k v).2.2) 1), kJ G (nA 2) 40 (((sWrite ms so ln u x k v).2.2) 2), kJ G (nA 3) 40 (((sWrite ms so ln u x k v).2.2) 3)] := by
  refine MF.ofJ (cc := cX9_write) (maxL := 6) (ret := (some .boolean)) (own := RX9) (lv := [(0, .ref qx), (1, .int x), (2, .int k), (3, .long v)]) (by decide) rfl rfl (Nat.le_of_ble_eq_true rfl) rfl ?_
  intro κ X
  have i_X7 : ∀ w ∈ wsX70, w ∈ wsX9_write := by decide +kernel
  have i_X9 : ∀ w ∈ wsX90, w ∈ wsX9_write := by decide +kernel
  refine j_aload_n (pc := 0) X dX9_write_0 rfl 0 rfl ?_
  refine j_iload_n (pc := 1) X dX9_write_1 rfl 1 rfl ?_
  refine j_iload_n (pc := 2) X dX9_write_2 rfl 2 rfl ?_
  refine j_ciP (pc := 3) X [0, 1, 2, 3, 4, 5] rfl (j_rV X (b := qx) (As := [.int x, .int k]) (ci := 9) (rest := []) 2 (mX9_placeFault l G qx qy qc qp qr qm qg qu ql qf lt tA nA ms so ln x k ) gX9_write_X9_placeFault rfl rfl rfl (by decide +kernel) ⟨Nat.le_of_ble_eq_true rfl, Nat.le_of_ble_eq_true rfl⟩ rfl rfl 0 rfl [0, 1, 2, 3, 4, 5] rfl rfl rfl (Nat.le_of_ble_eq_true rfl) dX9_write_3 ⟨Nat.le_of_ble_eq_true rfl, Nat.le_of_ble_eq_true rfl⟩) ?_
  refine j_istore (pc := 6) X (lv' := [(5, .int (nI (plF ms ln x k))), (0, .ref qx), (1, .int x), (2, .int k), (3, .long v)]) dX9_write_6 (by decide) rfl ?_
  refine j_iload (pc := 8) X dX9_write_8 0 rfl ?_
  refine j_ifN_ne (pc := 10) X (a := (plF ms ln x k)) (by first | omega | (have h9 := plF_le ms ln x k; omega) | exact Nat.lt_of_le_of_lt (plF_le _ _ _ _) (by decide)) (tgt := 24) dX9_write_10 (by decide) (fun c_10 => ?_) (fun c_10 => ?_)
  · skip
    refine j_aload_n (pc := 24) X dX9_write_24 rfl 1 rfl ?_
    refine j_iload (pc := 25) X dX9_write_25 0 rfl ?_
    refine j_ci (pc := 27) X (ws' := [(qx, .inr (9, [.ref qy, .ref qc, .ref qp, .ref qr, .ref qm, .ref qg, .ref qu, .ref ql, .ref qf, .int (nI (plF ms ln x k))])), kT G qy 4 (tyF tA), (tA 0, .inr (7, [.ref (nA 0), .int (b2i (ms 0)), .int (nI (so 0)), .int (nI (ln 0))])), (tA 1, .inr (7, [.ref (nA 1), .int (b2i (ms 1)), .int (nI (so 1)), .int (nI (ln 1))])), (tA 2, .inr (7, [.ref (nA 2), .int (b2i (ms 2)), .int (nI (so 2)), .int (nI (ln 2))])), (tA 3, .inr (7, [.ref (nA 3), .int (b2i (ms 3)), .int (nI (so 3)), .int (nI (ln 3))])), kJ G (nA 0) 40 (u 0), kJ G (nA 1) 40 (u 1), kJ G (nA 2) 40 (u 2), kJ G (nA 3) 40 (u 3)]) [0] rfl (j_rV X (b := qx) (As := [.int (nI (plF ms ln x k))]) (ci := 9) (rest := []) 1 (mX9_finish l G qx qy qc qp qr qm qg qu ql qf lt (plF ms ln x k) (by first | omega | (have h9 := plF_le ms ln x k; omega) | exact Nat.lt_of_le_of_lt (plF_le _ _ _ _) (by decide))) gX9_write_X9_finish rfl rfl rfl (by decide +kernel) ⟨Nat.le_of_ble_eq_true rfl, Nat.le_of_ble_eq_true rfl⟩ rfl rfl 0 rfl [0] rfl rfl rfl (Nat.le_of_ble_eq_true rfl) dX9_write_27 ⟨Nat.le_of_ble_eq_true rfl, Nat.le_of_ble_eq_true rfl⟩) rfl rfl ?_
    have hs : sWrite ms so ln u x k v = (decide ((plF ms ln x k) = 0), (plF ms ln x k), u) := by first | (simp [sWrite, c_10]; done) | (simp [sWrite, tN, cl0, cl1, cl2, cl3, c_10]; done) | (simp [sWrite, tN, cl0, cl1, cl2, cl3, hq_k, c_10]; done) | (simp [sWrite, tN, cl0, cl1, cl2, cl3, hq_k, hq_m, c_10]; done) | (simp [sWrite, tN, cl0, cl1, cl2, cl3, hq_k, hq_m, hq_i, c_10]; done)
    refine j_zret (pc := 30) X (b2i_nar _) dX9_write_30 ?_
    rw [hs]; exact ⟨rfl, rfl⟩
  · skip
    obtain ⟨j, k2, hj, rfl, hms, hk2, rfl⟩ := plF_0 hln c_10; have hq_k := nI_clamp (n := k2) (by have h9 := hln j; omega); have h40 : k2 < 40 := (by have h9 := hln j; omega); rcases (by omega : j = 0 ∨ j = 1 ∨ j = 2 ∨ j = 3) with rfl | rfl | rfl | rfl
    · skip
      refine j_aload_n (pc := 13) X dX9_write_13 rfl 1 rfl ?_
      refine j_get (pc := 14) X 9 i_X9 0 rfl rfl 0 (by decide) (by decide +kernel) rfl dX9_write_14 ?_
      refine j_iload_n (pc := 17) X dX9_write_17 rfl 2 rfl ?_
      refine j_aldq (pc := 18) X 1 rfl (vp_in_nI (by omega) (by omega)) (v := tA 0) ((congrArg (tyF tA) (nI_clamp (by decide))).trans rfl) dX9_write_18 ?_
      refine j_iload_n (pc := 19) X dX9_write_19 rfl 3 rfl ?_
      refine j_lload_n (pc := 20) X dX9_write_20 rfl 4 rfl ?_
      refine j_cv (pc := 21) X (ws' := [(qx, .inr (9, [.ref qy, .ref qc, .ref qp, .ref qr, .ref qm, .ref qg, .ref qu, .ref ql, .ref qf, .int (nI lt)])), kT G qy 4 (tyF tA), ((tA 0), .inr (7, [.ref (nA 0), .int (b2i (ms 0)), .int (nI (so 0)), .int (nI (ln 0))])), (tA 1, .inr (7, [.ref (nA 1), .int (b2i (ms 1)), .int (nI (so 1)), .int (nI (ln 1))])), (tA 2, .inr (7, [.ref (nA 2), .int (b2i (ms 2)), .int (nI (so 2)), .int (nI (ln 2))])), (tA 3, .inr (7, [.ref (nA 3), .int (b2i (ms 3)), .int (nI (so 3)), .int (nI (ln 3))])), kJ G (nA 0) 40 (va_up (u 0) k2 (cutL (so 0) v)), kJ G (nA 1) 40 (u 1), kJ G (nA 2) 40 (u 2), kJ G (nA 3) 40 (u 3)]) [2, 6] rfl (j_rVN X (b := tA 0) (As := [.int (nI k2), .long v]) (ci := 7) (rest := []) 2 (mX7_put l G (tA 0) (nA 0) (ms 0) (so 0) (ln 0) (u 0) k2 v (by exact hso _) (by first | assumption | omega | exact ob_s (by omega) | exact ob_n)) gX9_write_X7_put_n91 rfl rfl rfl (by decide +kernel) (by decide +kernel) (by decide +kernel) (by decide +kernel) (by decide +kernel) ⟨Nat.le_of_ble_eq_true rfl, Nat.le_of_ble_eq_true rfl⟩ rfl rfl 0 rfl [2, 6] rfl rfl rfl (Nat.le_of_ble_eq_true rfl) dX9_write_21 ⟨Nat.le_of_ble_eq_true rfl, Nat.le_of_ble_eq_true rfl⟩) rfl rfl ?_
      refine j_aload_n (pc := 24) X dX9_write_24 rfl 1 rfl ?_
      refine j_iload (pc := 25) X dX9_write_25 0 rfl ?_
      refine j_ci (pc := 27) X (ws' := [(qx, .inr (9, [.ref qy, .ref qc, .ref qp, .ref qr, .ref qm, .ref qg, .ref qu, .ref ql, .ref qf, .int (nI (plF ms ln (nI 0) (nI k2)))])), kT G qy 4 (tyF tA), ((tA 0), .inr (7, [.ref (nA 0), .int (b2i (ms 0)), .int (nI (so 0)), .int (nI (ln 0))])), (tA 1, .inr (7, [.ref (nA 1), .int (b2i (ms 1)), .int (nI (so 1)), .int (nI (ln 1))])), (tA 2, .inr (7, [.ref (nA 2), .int (b2i (ms 2)), .int (nI (so 2)), .int (nI (ln 2))])), (tA 3, .inr (7, [.ref (nA 3), .int (b2i (ms 3)), .int (nI (so 3)), .int (nI (ln 3))])), kJ G (nA 0) 40 (va_up (u 0) k2 (cutL (so 0) v)), kJ G (nA 1) 40 (u 1), kJ G (nA 2) 40 (u 2), kJ G (nA 3) 40 (u 3)]) [0] rfl (j_rV X (b := qx) (As := [.int (nI (plF ms ln (nI 0) (nI k2)))]) (ci := 9) (rest := []) 1 (mX9_finish l G qx qy qc qp qr qm qg qu ql qf lt (plF ms ln (nI 0) (nI k2)) (by first | omega | (have h9 := plF_le ms ln x k; omega) | exact Nat.lt_of_le_of_lt (plF_le _ _ _ _) (by decide))) gX9_write_X9_finish rfl rfl rfl (by decide +kernel) ⟨Nat.le_of_ble_eq_true rfl, Nat.le_of_ble_eq_true rfl⟩ rfl rfl 0 rfl [0] rfl rfl rfl (Nat.le_of_ble_eq_true rfl) dX9_write_27 ⟨Nat.le_of_ble_eq_true rfl, Nat.le_of_ble_eq_true rfl⟩) rfl rfl ?_
      have hs : sWrite ms so ln u (nI 0) (nI k2) v = (decide ((plF ms ln (nI 0) (nI k2)) = 0), (plF ms ln (nI 0) (nI k2)), va_up u 0 (va_up (u 0) k2 (cutL (so 0) v))) := by first | (simp [sWrite, c_10]; done) | (simp [sWrite, tN, cl0, cl1, cl2, cl3, c_10]; done) | (simp [sWrite, tN, cl0, cl1, cl2, cl3, hq_k, c_10]; done) | (simp [sWrite, tN, cl0, cl1, cl2, cl3, hq_k, hq_m, c_10]; done) | (simp [sWrite, tN, cl0, cl1, cl2, cl3, hq_k, hq_m, hq_i, c_10]; done)
      refine j_zret (pc := 30) X (b2i_nar _) dX9_write_30 ?_
      rw [hs]; exact ⟨rfl, rfl⟩
    · skip
      refine j_aload_n (pc := 13) X dX9_write_13 rfl 1 rfl ?_
      refine j_get (pc := 14) X 9 i_X9 0 rfl rfl 0 (by decide) (by decide +kernel) rfl dX9_write_14 ?_
      refine j_iload_n (pc := 17) X dX9_write_17 rfl 2 rfl ?_
      refine j_aldq (pc := 18) X 1 rfl (vp_in_nI (by omega) (by omega)) (v := tA 1) ((congrArg (tyF tA) (nI_clamp (by decide))).trans rfl) dX9_write_18 ?_
      refine j_iload_n (pc := 19) X dX9_write_19 rfl 3 rfl ?_
      refine j_lload_n (pc := 20) X dX9_write_20 rfl 4 rfl ?_
      refine j_cv (pc := 21) X (ws' := [(qx, .inr (9, [.ref qy, .ref qc, .ref qp, .ref qr, .ref qm, .ref qg, .ref qu, .ref ql, .ref qf, .int (nI lt)])), kT G qy 4 (tyF tA), (tA 0, .inr (7, [.ref (nA 0), .int (b2i (ms 0)), .int (nI (so 0)), .int (nI (ln 0))])), ((tA 1), .inr (7, [.ref (nA 1), .int (b2i (ms 1)), .int (nI (so 1)), .int (nI (ln 1))])), (tA 2, .inr (7, [.ref (nA 2), .int (b2i (ms 2)), .int (nI (so 2)), .int (nI (ln 2))])), (tA 3, .inr (7, [.ref (nA 3), .int (b2i (ms 3)), .int (nI (so 3)), .int (nI (ln 3))])), kJ G (nA 0) 40 (u 0), kJ G (nA 1) 40 (va_up (u 1) k2 (cutL (so 1) v)), kJ G (nA 2) 40 (u 2), kJ G (nA 3) 40 (u 3)]) [3, 7] rfl (j_rVN X (b := tA 1) (As := [.int (nI k2), .long v]) (ci := 7) (rest := []) 2 (mX7_put l G (tA 1) (nA 1) (ms 1) (so 1) (ln 1) (u 1) k2 v (by exact hso _) (by first | assumption | omega | exact ob_s (by omega) | exact ob_n)) gX9_write_X7_put_n91 rfl rfl rfl (by decide +kernel) (by decide +kernel) (by decide +kernel) (by decide +kernel) (by decide +kernel) ⟨Nat.le_of_ble_eq_true rfl, Nat.le_of_ble_eq_true rfl⟩ rfl rfl 0 rfl [3, 7] rfl rfl rfl (Nat.le_of_ble_eq_true rfl) dX9_write_21 ⟨Nat.le_of_ble_eq_true rfl, Nat.le_of_ble_eq_true rfl⟩) rfl rfl ?_
      refine j_aload_n (pc := 24) X dX9_write_24 rfl 1 rfl ?_
      refine j_iload (pc := 25) X dX9_write_25 0 rfl ?_
      refine j_ci (pc := 27) X (ws' := [(qx, .inr (9, [.ref qy, .ref qc, .ref qp, .ref qr, .ref qm, .ref qg, .ref qu, .ref ql, .ref qf, .int (nI (plF ms ln (nI 1) (nI k2)))])), kT G qy 4 (tyF tA), (tA 0, .inr (7, [.ref (nA 0), .int (b2i (ms 0)), .int (nI (so 0)), .int (nI (ln 0))])), ((tA 1), .inr (7, [.ref (nA 1), .int (b2i (ms 1)), .int (nI (so 1)), .int (nI (ln 1))])), (tA 2, .inr (7, [.ref (nA 2), .int (b2i (ms 2)), .int (nI (so 2)), .int (nI (ln 2))])), (tA 3, .inr (7, [.ref (nA 3), .int (b2i (ms 3)), .int (nI (so 3)), .int (nI (ln 3))])), kJ G (nA 0) 40 (u 0), kJ G (nA 1) 40 (va_up (u 1) k2 (cutL (so 1) v)), kJ G (nA 2) 40 (u 2), kJ G (nA 3) 40 (u 3)]) [0] rfl (j_rV X (b := qx) (As := [.int (nI (plF ms ln (nI 1) (nI k2)))]) (ci := 9) (rest := []) 1 (mX9_finish l G qx qy qc qp qr qm qg qu ql qf lt (plF ms ln (nI 1) (nI k2)) (by first | omega | (have h9 := plF_le ms ln x k; omega) | exact Nat.lt_of_le_of_lt (plF_le _ _ _ _) (by decide))) gX9_write_X9_finish rfl rfl rfl (by decide +kernel) ⟨Nat.le_of_ble_eq_true rfl, Nat.le_of_ble_eq_true rfl⟩ rfl rfl 0 rfl [0] rfl rfl rfl (Nat.le_of_ble_eq_true rfl) dX9_write_27 ⟨Nat.le_of_ble_eq_true rfl, Nat.le_of_ble_eq_true rfl⟩) rfl rfl ?_
      have hs : sWrite ms so ln u (nI 1) (nI k2) v = (decide ((plF ms ln (nI 1) (nI k2)) = 0), (plF ms ln (nI 1) (nI k2)), va_up u 1 (va_up (u 1) k2 (cutL (so 1) v))) := by first | (simp [sWrite, c_10]; done) | (simp [sWrite, tN, cl0, cl1, cl2, cl3, c_10]; done) | (simp [sWrite, tN, cl0, cl1, cl2, cl3, hq_k, c_10]; done) | (simp [sWrite, tN, cl0, cl1, cl2, cl3, hq_k, hq_m, c_10]; done) | (simp [sWrite, tN, cl0, cl1, cl2, cl3, hq_k, hq_m, hq_i, c_10]; done)
      refine j_zret (pc := 30) X (b2i_nar _) dX9_write_30 ?_
      rw [hs]; exact ⟨rfl, rfl⟩
    · skip
      refine j_aload_n (pc := 13) X dX9_write_13 rfl 1 rfl ?_
      refine j_get (pc := 14) X 9 i_X9 0 rfl rfl 0 (by decide) (by decide +kernel) rfl dX9_write_14 ?_
      refine j_iload_n (pc := 17) X dX9_write_17 rfl 2 rfl ?_
      refine j_aldq (pc := 18) X 1 rfl (vp_in_nI (by omega) (by omega)) (v := tA 2) ((congrArg (tyF tA) (nI_clamp (by decide))).trans rfl) dX9_write_18 ?_
      refine j_iload_n (pc := 19) X dX9_write_19 rfl 3 rfl ?_
      refine j_lload_n (pc := 20) X dX9_write_20 rfl 4 rfl ?_
      refine j_cv (pc := 21) X (ws' := [(qx, .inr (9, [.ref qy, .ref qc, .ref qp, .ref qr, .ref qm, .ref qg, .ref qu, .ref ql, .ref qf, .int (nI lt)])), kT G qy 4 (tyF tA), (tA 0, .inr (7, [.ref (nA 0), .int (b2i (ms 0)), .int (nI (so 0)), .int (nI (ln 0))])), (tA 1, .inr (7, [.ref (nA 1), .int (b2i (ms 1)), .int (nI (so 1)), .int (nI (ln 1))])), ((tA 2), .inr (7, [.ref (nA 2), .int (b2i (ms 2)), .int (nI (so 2)), .int (nI (ln 2))])), (tA 3, .inr (7, [.ref (nA 3), .int (b2i (ms 3)), .int (nI (so 3)), .int (nI (ln 3))])), kJ G (nA 0) 40 (u 0), kJ G (nA 1) 40 (u 1), kJ G (nA 2) 40 (va_up (u 2) k2 (cutL (so 2) v)), kJ G (nA 3) 40 (u 3)]) [4, 8] rfl (j_rVN X (b := tA 2) (As := [.int (nI k2), .long v]) (ci := 7) (rest := []) 2 (mX7_put l G (tA 2) (nA 2) (ms 2) (so 2) (ln 2) (u 2) k2 v (by exact hso _) (by first | assumption | omega | exact ob_s (by omega) | exact ob_n)) gX9_write_X7_put_n91 rfl rfl rfl (by decide +kernel) (by decide +kernel) (by decide +kernel) (by decide +kernel) (by decide +kernel) ⟨Nat.le_of_ble_eq_true rfl, Nat.le_of_ble_eq_true rfl⟩ rfl rfl 0 rfl [4, 8] rfl rfl rfl (Nat.le_of_ble_eq_true rfl) dX9_write_21 ⟨Nat.le_of_ble_eq_true rfl, Nat.le_of_ble_eq_true rfl⟩) rfl rfl ?_
      refine j_aload_n (pc := 24) X dX9_write_24 rfl 1 rfl ?_
      refine j_iload (pc := 25) X dX9_write_25 0 rfl ?_
      refine j_ci (pc := 27) X (ws' := [(qx, .inr (9, [.ref qy, .ref qc, .ref qp, .ref qr, .ref qm, .ref qg, .ref qu, .ref ql, .ref qf, .int (nI (plF ms ln (nI 2) (nI k2)))])), kT G qy 4 (tyF tA), (tA 0, .inr (7, [.ref (nA 0), .int (b2i (ms 0)), .int (nI (so 0)), .int (nI (ln 0))])), (tA 1, .inr (7, [.ref (nA 1), .int (b2i (ms 1)), .int (nI (so 1)), .int (nI (ln 1))])), ((tA 2), .inr (7, [.ref (nA 2), .int (b2i (ms 2)), .int (nI (so 2)), .int (nI (ln 2))])), (tA 3, .inr (7, [.ref (nA 3), .int (b2i (ms 3)), .int (nI (so 3)), .int (nI (ln 3))])), kJ G (nA 0) 40 (u 0), kJ G (nA 1) 40 (u 1), kJ G (nA 2) 40 (va_up (u 2) k2 (cutL (so 2) v)), kJ G (nA 3) 40 (u 3)]) [0] rfl (j_rV X (b := qx) (As := [.int (nI (plF ms ln (nI 2) (nI k2)))]) (ci := 9) (rest := []) 1 (mX9_finish l G qx qy qc qp qr qm qg qu ql qf lt (plF ms ln (nI 2) (nI k2)) (by first | omega | (have h9 := plF_le ms ln x k; omega) | exact Nat.lt_of_le_of_lt (plF_le _ _ _ _) (by decide))) gX9_write_X9_finish rfl rfl rfl (by decide +kernel) ⟨Nat.le_of_ble_eq_true rfl, Nat.le_of_ble_eq_true rfl⟩ rfl rfl 0 rfl [0] rfl rfl rfl (Nat.le_of_ble_eq_true rfl) dX9_write_27 ⟨Nat.le_of_ble_eq_true rfl, Nat.le_of_ble_eq_true rfl⟩) rfl rfl ?_
      have hs : sWrite ms so ln u (nI 2) (nI k2) v = (decide ((plF ms ln (nI 2) (nI k2)) = 0), (plF ms ln (nI 2) (nI k2)), va_up u 2 (va_up (u 2) k2 (cutL (so 2) v))) := by first | (simp [sWrite, c_10]; done) | (simp [sWrite, tN, cl0, cl1, cl2, cl3, c_10]; done) | (simp [sWrite, tN, cl0, cl1, cl2, cl3, hq_k, c_10]; done) | (simp [sWrite, tN, cl0, cl1, cl2, cl3, hq_k, hq_m, c_10]; done) | (simp [sWrite, tN, cl0, cl1, cl2, cl3, hq_k, hq_m, hq_i, c_10]; done)
      refine j_zret (pc := 30) X (b2i_nar _) dX9_write_30 ?_
      rw [hs]; exact ⟨rfl, rfl⟩
    · skip
      refine j_aload_n (pc := 13) X dX9_write_13 rfl 1 rfl ?_
      refine j_get (pc := 14) X 9 i_X9 0 rfl rfl 0 (by decide) (by decide +kernel) rfl dX9_write_14 ?_
      refine j_iload_n (pc := 17) X dX9_write_17 rfl 2 rfl ?_
      refine j_aldq (pc := 18) X 1 rfl (vp_in_nI (by omega) (by omega)) (v := tA 3) ((congrArg (tyF tA) (nI_clamp (by decide))).trans rfl) dX9_write_18 ?_
      refine j_iload_n (pc := 19) X dX9_write_19 rfl 3 rfl ?_
      refine j_lload_n (pc := 20) X dX9_write_20 rfl 4 rfl ?_
      refine j_cv (pc := 21) X (ws' := [(qx, .inr (9, [.ref qy, .ref qc, .ref qp, .ref qr, .ref qm, .ref qg, .ref qu, .ref ql, .ref qf, .int (nI lt)])), kT G qy 4 (tyF tA), (tA 0, .inr (7, [.ref (nA 0), .int (b2i (ms 0)), .int (nI (so 0)), .int (nI (ln 0))])), (tA 1, .inr (7, [.ref (nA 1), .int (b2i (ms 1)), .int (nI (so 1)), .int (nI (ln 1))])), (tA 2, .inr (7, [.ref (nA 2), .int (b2i (ms 2)), .int (nI (so 2)), .int (nI (ln 2))])), ((tA 3), .inr (7, [.ref (nA 3), .int (b2i (ms 3)), .int (nI (so 3)), .int (nI (ln 3))])), kJ G (nA 0) 40 (u 0), kJ G (nA 1) 40 (u 1), kJ G (nA 2) 40 (u 2), kJ G (nA 3) 40 (va_up (u 3) k2 (cutL (so 3) v))]) [5, 9] rfl (j_rVN X (b := tA 3) (As := [.int (nI k2), .long v]) (ci := 7) (rest := []) 2 (mX7_put l G (tA 3) (nA 3) (ms 3) (so 3) (ln 3) (u 3) k2 v (by exact hso _) (by first | assumption | omega | exact ob_s (by omega) | exact ob_n)) gX9_write_X7_put_n91 rfl rfl rfl (by decide +kernel) (by decide +kernel) (by decide +kernel) (by decide +kernel) (by decide +kernel) ⟨Nat.le_of_ble_eq_true rfl, Nat.le_of_ble_eq_true rfl⟩ rfl rfl 0 rfl [5, 9] rfl rfl rfl (Nat.le_of_ble_eq_true rfl) dX9_write_21 ⟨Nat.le_of_ble_eq_true rfl, Nat.le_of_ble_eq_true rfl⟩) rfl rfl ?_
      refine j_aload_n (pc := 24) X dX9_write_24 rfl 1 rfl ?_
      refine j_iload (pc := 25) X dX9_write_25 0 rfl ?_
      refine j_ci (pc := 27) X (ws' := [(qx, .inr (9, [.ref qy, .ref qc, .ref qp, .ref qr, .ref qm, .ref qg, .ref qu, .ref ql, .ref qf, .int (nI (plF ms ln (nI 3) (nI k2)))])), kT G qy 4 (tyF tA), (tA 0, .inr (7, [.ref (nA 0), .int (b2i (ms 0)), .int (nI (so 0)), .int (nI (ln 0))])), (tA 1, .inr (7, [.ref (nA 1), .int (b2i (ms 1)), .int (nI (so 1)), .int (nI (ln 1))])), (tA 2, .inr (7, [.ref (nA 2), .int (b2i (ms 2)), .int (nI (so 2)), .int (nI (ln 2))])), ((tA 3), .inr (7, [.ref (nA 3), .int (b2i (ms 3)), .int (nI (so 3)), .int (nI (ln 3))])), kJ G (nA 0) 40 (u 0), kJ G (nA 1) 40 (u 1), kJ G (nA 2) 40 (u 2), kJ G (nA 3) 40 (va_up (u 3) k2 (cutL (so 3) v))]) [0] rfl (j_rV X (b := qx) (As := [.int (nI (plF ms ln (nI 3) (nI k2)))]) (ci := 9) (rest := []) 1 (mX9_finish l G qx qy qc qp qr qm qg qu ql qf lt (plF ms ln (nI 3) (nI k2)) (by first | omega | (have h9 := plF_le ms ln x k; omega) | exact Nat.lt_of_le_of_lt (plF_le _ _ _ _) (by decide))) gX9_write_X9_finish rfl rfl rfl (by decide +kernel) ⟨Nat.le_of_ble_eq_true rfl, Nat.le_of_ble_eq_true rfl⟩ rfl rfl 0 rfl [0] rfl rfl rfl (Nat.le_of_ble_eq_true rfl) dX9_write_27 ⟨Nat.le_of_ble_eq_true rfl, Nat.le_of_ble_eq_true rfl⟩) rfl rfl ?_
      have hs : sWrite ms so ln u (nI 3) (nI k2) v = (decide ((plF ms ln (nI 3) (nI k2)) = 0), (plF ms ln (nI 3) (nI k2)), va_up u 3 (va_up (u 3) k2 (cutL (so 3) v))) := by first | (simp [sWrite, c_10]; done) | (simp [sWrite, tN, cl0, cl1, cl2, cl3, c_10]; done) | (simp [sWrite, tN, cl0, cl1, cl2, cl3, hq_k, c_10]; done) | (simp [sWrite, tN, cl0, cl1, cl2, cl3, hq_k, hq_m, c_10]; done) | (simp [sWrite, tN, cl0, cl1, cl2, cl3, hq_k, hq_m, hq_i, c_10]; done)
      refine j_zret (pc := 30) X (b2i_nar _) dX9_write_30 ?_
      rw [hs]; exact ⟨rfl, rfl⟩

set_option maxHeartbeats 4000000 in
set_option maxRecDepth 100000 in
theorem mX9_read (l : Launch) (G : jG) (qx : Nat) (qy : Nat) (qc : Nat) (qp : Nat) (qr : Nat) (qm : Nat) (qg : Nat) (qu : Nat) (ql : Nat) (qf : Nat) (lt : Nat) (tA : Nat → Nat) (nA : Nat → Nat) (ms : Nat → Bool) (so : Nat → Nat) (ln : Nat → Nat) (u : Nat → Nat → Int64) (x : Int32) (k : Int32) (hln : ∀ k, ln k ≤ 40) : MV l yX9_read wsX9_read ({ frames := 3, cells := 0, slots := 0, locals := 64 }) G [.ref qx, .int x, .int k] [(qx, .inr (9, [.ref qy, .ref qc, .ref qp, .ref qr, .ref qm, .ref qg, .ref qu, .ref ql, .ref qf, .int (nI lt)])), kT G qy 4 (tyF tA), (tA 0, .inr (7, [.ref (nA 0), .int (b2i (ms 0)), .int (nI (so 0)), .int (nI (ln 0))])), (tA 1, .inr (7, [.ref (nA 1), .int (b2i (ms 1)), .int (nI (so 1)), .int (nI (ln 1))])), (tA 2, .inr (7, [.ref (nA 2), .int (b2i (ms 2)), .int (nI (so 2)), .int (nI (ln 2))])), (tA 3, .inr (7, [.ref (nA 3), .int (b2i (ms 3)), .int (nI (so 3)), .int (nI (ln 3))])), kJ G (nA 0) 40 (u 0), kJ G (nA 1) 40 (u 1), kJ G (nA 2) 40 (u 2), kJ G (nA 3) 40 (u 3)] (some (.long ((sRead ms ln u x k).1))) [(qx, .inr (9, [.ref qy, .ref qc, .ref qp, .ref qr, .ref qm, .ref qg, .ref qu, .ref ql, .ref qf, .int (nI ((sRead ms ln u x k).2))])), kT G qy 4 (tyF tA), (tA 0, .inr (7, [.ref (nA 0), .int (b2i (ms 0)), .int (nI (so 0)), .int (nI (ln 0))])), (tA 1, .inr (7, [.ref (nA 1), .int (b2i (ms 1)), .int (nI (so 1)), .int (nI (ln 1))])), (tA 2, .inr (7, [.ref (nA 2), .int (b2i (ms 2)), .int (nI (so 2)), .int (nI (ln 2))])), (tA 3, .inr (7, [.ref (nA 3), .int (b2i (ms 3)), .int (nI (so 3)), .int (nI (ln 3))])), kJ G (nA 0) 40 (u 0), kJ G (nA 1) 40 (u 1), kJ G (nA 2) 40 (u 2), kJ G (nA 3) 40 (u 3)] := by
  refine MF.ofJ (cc := cX9_read) (maxL := 4) (ret := (some .long)) (own := RX9) (lv := [(0, .ref qx), (1, .int x), (2, .int k)]) (by decide) rfl rfl (Nat.le_of_ble_eq_true rfl) rfl ?_
  intro κ X
  have i_X7 : ∀ w ∈ wsX70, w ∈ wsX9_read := by decide +kernel
  have i_X9 : ∀ w ∈ wsX90, w ∈ wsX9_read := by decide +kernel
  refine j_aload_n (pc := 0) X dX9_read_0 rfl 0 rfl ?_
  refine j_iload_n (pc := 1) X dX9_read_1 rfl 1 rfl ?_
  refine j_iload_n (pc := 2) X dX9_read_2 rfl 2 rfl ?_
  refine j_ciP (pc := 3) X [0, 1, 2, 3, 4, 5] rfl (j_rV X (b := qx) (As := [.int x, .int k]) (ci := 9) (rest := []) 2 (mX9_placeFault l G qx qy qc qp qr qm qg qu ql qf lt tA nA ms so ln x k ) gX9_read_X9_placeFault rfl rfl rfl (by decide +kernel) ⟨Nat.le_of_ble_eq_true rfl, Nat.le_of_ble_eq_true rfl⟩ rfl rfl 0 rfl [0, 1, 2, 3, 4, 5] rfl rfl rfl (Nat.le_of_ble_eq_true rfl) dX9_read_3 ⟨Nat.le_of_ble_eq_true rfl, Nat.le_of_ble_eq_true rfl⟩) ?_
  refine j_istore_n (pc := 6) X (lv' := [(3, .int (nI (plF ms ln x k))), (0, .ref qx), (1, .int x), (2, .int k)]) dX9_read_6 rfl (by decide) rfl ?_
  refine j_aload_n (pc := 7) X dX9_read_7 rfl 1 rfl ?_
  refine j_iload_n (pc := 8) X dX9_read_8 rfl 0 rfl ?_
  refine j_ci (pc := 9) X (ws' := [(qx, .inr (9, [.ref qy, .ref qc, .ref qp, .ref qr, .ref qm, .ref qg, .ref qu, .ref ql, .ref qf, .int (nI (plF ms ln x k))])), kT G qy 4 (tyF tA), (tA 0, .inr (7, [.ref (nA 0), .int (b2i (ms 0)), .int (nI (so 0)), .int (nI (ln 0))])), (tA 1, .inr (7, [.ref (nA 1), .int (b2i (ms 1)), .int (nI (so 1)), .int (nI (ln 1))])), (tA 2, .inr (7, [.ref (nA 2), .int (b2i (ms 2)), .int (nI (so 2)), .int (nI (ln 2))])), (tA 3, .inr (7, [.ref (nA 3), .int (b2i (ms 3)), .int (nI (so 3)), .int (nI (ln 3))])), kJ G (nA 0) 40 (u 0), kJ G (nA 1) 40 (u 1), kJ G (nA 2) 40 (u 2), kJ G (nA 3) 40 (u 3)]) [0] rfl (j_rV X (b := qx) (As := [.int (nI (plF ms ln x k))]) (ci := 9) (rest := []) 1 (mX9_finish l G qx qy qc qp qr qm qg qu ql qf lt (plF ms ln x k) (by first | omega | (have h9 := plF_le ms ln x k; omega) | exact Nat.lt_of_le_of_lt (plF_le _ _ _ _) (by decide))) gX9_read_X9_finish rfl rfl rfl (by decide +kernel) ⟨Nat.le_of_ble_eq_true rfl, Nat.le_of_ble_eq_true rfl⟩ rfl rfl 0 rfl [0] rfl rfl rfl (Nat.le_of_ble_eq_true rfl) dX9_read_9 ⟨Nat.le_of_ble_eq_true rfl, Nat.le_of_ble_eq_true rfl⟩) rfl rfl ?_
  refine j_pop (pc := 12) X dX9_read_12 rfl ?_
  refine j_iload_n (pc := 13) X dX9_read_13 rfl 0 rfl ?_
  refine j_ifN_ne (pc := 14) X (a := (plF ms ln x k)) (by first | omega | (have h9 := plF_le ms ln x k; omega) | exact Nat.lt_of_le_of_lt (plF_le _ _ _ _) (by decide)) (tgt := 31) dX9_read_14 (by decide) (fun c_14 => ?_) (fun c_14 => ?_)
  · skip
    refine j_ldc2 (pc := 31) X (v := (-1)) dX9_read_31 (by decide +kernel) ?_
    have hs : sRead ms ln u x k = ((-1), (plF ms ln x k)) := by first | (simp [sRead, c_14]; done) | (simp [sRead, tN, cl0, cl1, cl2, cl3, c_14]; done) | (simp [sRead, tN, cl0, cl1, cl2, cl3, hq_k, c_14]; done) | (simp [sRead, tN, cl0, cl1, cl2, cl3, hq_k, hq_m, c_14]; done) | (simp [sRead, tN, cl0, cl1, cl2, cl3, hq_k, hq_m, hq_i, c_14]; done)
    refine j_lret (pc := 34) X dX9_read_34 ?_
    rw [hs]; exact ⟨rfl, rfl⟩
  · skip
    obtain ⟨j, k2, hj, rfl, hms, hk2, rfl⟩ := plF_0 hln c_14; have hq_k := nI_clamp (n := k2) (by have h9 := hln j; omega); have h40 : k2 < 40 := (by have h9 := hln j; omega); rcases (by omega : j = 0 ∨ j = 1 ∨ j = 2 ∨ j = 3) with rfl | rfl | rfl | rfl
    · skip
      refine j_aload_n (pc := 17) X dX9_read_17 rfl 1 rfl ?_
      refine j_get (pc := 18) X 9 i_X9 0 rfl rfl 0 (by decide) (by decide +kernel) rfl dX9_read_18 ?_
      refine j_iload_n (pc := 21) X dX9_read_21 rfl 2 rfl ?_
      refine j_aldq (pc := 22) X 1 rfl (vp_in_nI (by omega) (by omega)) (v := tA 0) ((congrArg (tyF tA) (nI_clamp (by decide))).trans rfl) dX9_read_22 ?_
      refine j_getN (pc := 23) X 7 i_X7 2 rfl rfl 0 (by decide) (by decide +kernel) rfl dX9_read_23 ?_
      refine j_iload_n (pc := 26) X dX9_read_26 rfl 3 rfl ?_
      refine j_lald (pc := 27) X 6 rfl (vp_in_nI (by omega) (by decide)) (v := (u 0) k2) (congrArg (u 0) (nI_clamp (by omega))) dX9_read_27 ?_
      refine j_goto (pc := 28) X (tgt := 34) dX9_read_28 (by decide) ?_
      have hs : sRead ms ln u (nI 0) (nI k2) = ((u 0) k2, (plF ms ln (nI 0) (nI k2))) := by first | (simp [sRead, c_14]; done) | (simp [sRead, tN, cl0, cl1, cl2, cl3, c_14]; done) | (simp [sRead, tN, cl0, cl1, cl2, cl3, hq_k, c_14]; done) | (simp [sRead, tN, cl0, cl1, cl2, cl3, hq_k, hq_m, c_14]; done) | (simp [sRead, tN, cl0, cl1, cl2, cl3, hq_k, hq_m, hq_i, c_14]; done)
      refine j_lret (pc := 34) X dX9_read_34 ?_
      rw [hs]; exact ⟨rfl, rfl⟩
    · skip
      refine j_aload_n (pc := 17) X dX9_read_17 rfl 1 rfl ?_
      refine j_get (pc := 18) X 9 i_X9 0 rfl rfl 0 (by decide) (by decide +kernel) rfl dX9_read_18 ?_
      refine j_iload_n (pc := 21) X dX9_read_21 rfl 2 rfl ?_
      refine j_aldq (pc := 22) X 1 rfl (vp_in_nI (by omega) (by omega)) (v := tA 1) ((congrArg (tyF tA) (nI_clamp (by decide))).trans rfl) dX9_read_22 ?_
      refine j_getN (pc := 23) X 7 i_X7 3 rfl rfl 0 (by decide) (by decide +kernel) rfl dX9_read_23 ?_
      refine j_iload_n (pc := 26) X dX9_read_26 rfl 3 rfl ?_
      refine j_lald (pc := 27) X 7 rfl (vp_in_nI (by omega) (by decide)) (v := (u 1) k2) (congrArg (u 1) (nI_clamp (by omega))) dX9_read_27 ?_
      refine j_goto (pc := 28) X (tgt := 34) dX9_read_28 (by decide) ?_
      have hs : sRead ms ln u (nI 1) (nI k2) = ((u 1) k2, (plF ms ln (nI 1) (nI k2))) := by first | (simp [sRead, c_14]; done) | (simp [sRead, tN, cl0, cl1, cl2, cl3, c_14]; done) | (simp [sRead, tN, cl0, cl1, cl2, cl3, hq_k, c_14]; done) | (simp [sRead, tN, cl0, cl1, cl2, cl3, hq_k, hq_m, c_14]; done) | (simp [sRead, tN, cl0, cl1, cl2, cl3, hq_k, hq_m, hq_i, c_14]; done)
      refine j_lret (pc := 34) X dX9_read_34 ?_
      rw [hs]; exact ⟨rfl, rfl⟩
    · skip
      refine j_aload_n (pc := 17) X dX9_read_17 rfl 1 rfl ?_
      refine j_get (pc := 18) X 9 i_X9 0 rfl rfl 0 (by decide) (by decide +kernel) rfl dX9_read_18 ?_
      refine j_iload_n (pc := 21) X dX9_read_21 rfl 2 rfl ?_
      refine j_aldq (pc := 22) X 1 rfl (vp_in_nI (by omega) (by omega)) (v := tA 2) ((congrArg (tyF tA) (nI_clamp (by decide))).trans rfl) dX9_read_22 ?_
      refine j_getN (pc := 23) X 7 i_X7 4 rfl rfl 0 (by decide) (by decide +kernel) rfl dX9_read_23 ?_
      refine j_iload_n (pc := 26) X dX9_read_26 rfl 3 rfl ?_
      refine j_lald (pc := 27) X 8 rfl (vp_in_nI (by omega) (by decide)) (v := (u 2) k2) (congrArg (u 2) (nI_clamp (by omega))) dX9_read_27 ?_
      refine j_goto (pc := 28) X (tgt := 34) dX9_read_28 (by decide) ?_
      have hs : sRead ms ln u (nI 2) (nI k2) = ((u 2) k2, (plF ms ln (nI 2) (nI k2))) := by first | (simp [sRead, c_14]; done) | (simp [sRead, tN, cl0, cl1, cl2, cl3, c_14]; done) | (simp [sRead, tN, cl0, cl1, cl2, cl3, hq_k, c_14]; done) | (simp [sRead, tN, cl0, cl1, cl2, cl3, hq_k, hq_m, c_14]; done) | (simp [sRead, tN, cl0, cl1, cl2, cl3, hq_k, hq_m, hq_i, c_14]; done)
      refine j_lret (pc := 34) X dX9_read_34 ?_
      rw [hs]; exact ⟨rfl, rfl⟩
    · skip
      refine j_aload_n (pc := 17) X dX9_read_17 rfl 1 rfl ?_
      refine j_get (pc := 18) X 9 i_X9 0 rfl rfl 0 (by decide) (by decide +kernel) rfl dX9_read_18 ?_
      refine j_iload_n (pc := 21) X dX9_read_21 rfl 2 rfl ?_
      refine j_aldq (pc := 22) X 1 rfl (vp_in_nI (by omega) (by omega)) (v := tA 3) ((congrArg (tyF tA) (nI_clamp (by decide))).trans rfl) dX9_read_22 ?_
      refine j_getN (pc := 23) X 7 i_X7 5 rfl rfl 0 (by decide) (by decide +kernel) rfl dX9_read_23 ?_
      refine j_iload_n (pc := 26) X dX9_read_26 rfl 3 rfl ?_
      refine j_lald (pc := 27) X 9 rfl (vp_in_nI (by omega) (by decide)) (v := (u 3) k2) (congrArg (u 3) (nI_clamp (by omega))) dX9_read_27 ?_
      refine j_goto (pc := 28) X (tgt := 34) dX9_read_28 (by decide) ?_
      have hs : sRead ms ln u (nI 3) (nI k2) = ((u 3) k2, (plF ms ln (nI 3) (nI k2))) := by first | (simp [sRead, c_14]; done) | (simp [sRead, tN, cl0, cl1, cl2, cl3, c_14]; done) | (simp [sRead, tN, cl0, cl1, cl2, cl3, hq_k, c_14]; done) | (simp [sRead, tN, cl0, cl1, cl2, cl3, hq_k, hq_m, c_14]; done) | (simp [sRead, tN, cl0, cl1, cl2, cl3, hq_k, hq_m, hq_i, c_14]; done)
      refine j_lret (pc := 34) X dX9_read_34 ?_
      rw [hs]; exact ⟨rfl, rfl⟩

set_option maxHeartbeats 4000000 in
set_option maxRecDepth 100000 in
theorem mX9_pour (l : Launch) (G : jG) (qx : Nat) (qy : Nat) (qc : Nat) (qp : Nat) (qr : Nat) (qm : Nat) (qg : Nat) (qu : Nat) (ql : Nat) (qf : Nat) (lt : Nat) (tA : Nat → Nat) (nA : Nat → Nat) (ms : Nat → Bool) (so : Nat → Nat) (ln : Nat → Nat) (u : Nat → Nat → Int64) (x : Int32) (i : Int32) (to_ : Int32) (j : Int32) (m : Int32) (hln : ∀ k, ln k ≤ 40) (hso : ∀ k, so k < 4) : MV l yX9_pour wsX9_pour ({ frames := 2, cells := 0, slots := 0, locals := 48 }) G [.ref qx, .int x, .int i, .int to_, .int j, .int m] [(qx, .inr (9, [.ref qy, .ref qc, .ref qp, .ref qr, .ref qm, .ref qg, .ref qu, .ref ql, .ref qf, .int (nI lt)])), kT G qy 4 (tyF tA), (tA 0, .inr (7, [.ref (nA 0), .int (b2i (ms 0)), .int (nI (so 0)), .int (nI (ln 0))])), (tA 1, .inr (7, [.ref (nA 1), .int (b2i (ms 1)), .int (nI (so 1)), .int (nI (ln 1))])), (tA 2, .inr (7, [.ref (nA 2), .int (b2i (ms 2)), .int (nI (so 2)), .int (nI (ln 2))])), (tA 3, .inr (7, [.ref (nA 3), .int (b2i (ms 3)), .int (nI (so 3)), .int (nI (ln 3))])), kJ G (nA 0) 40 (u 0), kJ G (nA 1) 40 (u 1), kJ G (nA 2) 40 (u 2), kJ G (nA 3) 40 (u 3)] (some (.int (b2i ((sPour ms so ln u x i to_ j m).1)))) [(qx, .inr (9, [.ref qy, .ref qc, .ref qp, .ref qr, .ref qm, .ref qg, .ref qu, .ref ql, .ref qf, .int (nI ((sPour ms so ln u x i to_ j m).2.1))])), kT G qy 4 (tyF tA), (tA 0, .inr (7, [.ref (nA 0), .int (b2i (ms 0)), .int (nI (so 0)), .int (nI (ln 0))])), (tA 1, .inr (7, [.ref (nA 1), .int (b2i (ms 1)), .int (nI (so 1)), .int (nI (ln 1))])), (tA 2, .inr (7, [.ref (nA 2), .int (b2i (ms 2)), .int (nI (so 2)), .int (nI (ln 2))])), (tA 3, .inr (7, [.ref (nA 3), .int (b2i (ms 3)), .int (nI (so 3)), .int (nI (ln 3))])), kJ G (nA 0) 40 (((sPour ms so ln u x i to_ j m).2.2) 0), kJ G (nA 1) 40 (((sPour ms so ln u x i to_ j m).2.2) 1), kJ G (nA 2) 40 (((sPour ms so ln u x i to_ j m).2.2) 2), kJ G (nA 3) 40 (((sPour ms so ln u x i to_ j m).2.2) 3)] := by
  refine MF.ofJ (cc := cX9_pour) (maxL := 7) (ret := (some .boolean)) (own := RX9) (lv := [(0, .ref qx), (1, .int x), (2, .int i), (3, .int to_), (4, .int j), (5, .int m)]) (by decide) rfl rfl (Nat.le_of_ble_eq_true rfl) rfl ?_
  intro κ X
  have i_X7 : ∀ w ∈ wsX70, w ∈ wsX9_pour := by decide +kernel
  have i_X9 : ∀ w ∈ wsX90, w ∈ wsX9_pour := by decide +kernel
  refine j_aload_n (pc := 0) X dX9_pour_0 rfl 0 rfl ?_
  refine j_iload_n (pc := 1) X dX9_pour_1 rfl 1 rfl ?_
  refine j_iload_n (pc := 2) X dX9_pour_2 rfl 2 rfl ?_
  refine j_iload_n (pc := 3) X dX9_pour_3 rfl 3 rfl ?_
  refine j_iload (pc := 4) X dX9_pour_4 4 rfl ?_
  refine j_iload (pc := 6) X dX9_pour_6 5 rfl ?_
  refine j_ciP (pc := 8) X [0, 1, 2, 3, 4, 5] rfl (j_rV X (b := qx) (As := [.int x, .int i, .int to_, .int j, .int m]) (ci := 9) (rest := []) 5 (mX9_pourFault l G qx qy qc qp qr qm qg qu ql qf lt tA nA ms so ln x i to_ j m (by first | assumption | omega | exact ob_s (by omega) | exact ob_n)) gX9_pour_X9_pourFault rfl rfl rfl (by decide +kernel) ⟨Nat.le_of_ble_eq_true rfl, Nat.le_of_ble_eq_true rfl⟩ rfl rfl 0 rfl [0, 1, 2, 3, 4, 5] rfl rfl rfl (Nat.le_of_ble_eq_true rfl) dX9_pour_8 ⟨Nat.le_of_ble_eq_true rfl, Nat.le_of_ble_eq_true rfl⟩) ?_
  refine j_istore (pc := 11) X (lv' := [(6, .int (nI (poG ms so ln x i to_ j m))), (0, .ref qx), (1, .int x), (2, .int i), (3, .int to_), (4, .int j), (5, .int m)]) dX9_pour_11 (by decide) rfl ?_
  refine j_iload (pc := 13) X dX9_pour_13 0 rfl ?_
  refine j_ifN_ne (pc := 15) X (a := (poG ms so ln x i to_ j m)) (by first | omega | exact Nat.lt_of_le_of_lt (poG_le _ _ _ _ _ _ _ _) (by decide)) (tgt := 44) dX9_pour_15 (by decide) (fun c_15 => ?_) (fun c_15 => ?_)
  · skip
    refine j_aload_n (pc := 44) X dX9_pour_44 rfl 1 rfl ?_
    refine j_iload (pc := 45) X dX9_pour_45 0 rfl ?_
    refine j_ci (pc := 47) X (ws' := [(qx, .inr (9, [.ref qy, .ref qc, .ref qp, .ref qr, .ref qm, .ref qg, .ref qu, .ref ql, .ref qf, .int (nI (poG ms so ln x i to_ j m))])), kT G qy 4 (tyF tA), (tA 0, .inr (7, [.ref (nA 0), .int (b2i (ms 0)), .int (nI (so 0)), .int (nI (ln 0))])), (tA 1, .inr (7, [.ref (nA 1), .int (b2i (ms 1)), .int (nI (so 1)), .int (nI (ln 1))])), (tA 2, .inr (7, [.ref (nA 2), .int (b2i (ms 2)), .int (nI (so 2)), .int (nI (ln 2))])), (tA 3, .inr (7, [.ref (nA 3), .int (b2i (ms 3)), .int (nI (so 3)), .int (nI (ln 3))])), kJ G (nA 0) 40 (u 0), kJ G (nA 1) 40 (u 1), kJ G (nA 2) 40 (u 2), kJ G (nA 3) 40 (u 3)]) [0] rfl (j_rV X (b := qx) (As := [.int (nI (poG ms so ln x i to_ j m))]) (ci := 9) (rest := []) 1 (mX9_finish l G qx qy qc qp qr qm qg qu ql qf lt (poG ms so ln x i to_ j m) (by first | omega | exact Nat.lt_of_le_of_lt (poG_le _ _ _ _ _ _ _ _) (by decide))) gX9_pour_X9_finish rfl rfl rfl (by decide +kernel) ⟨Nat.le_of_ble_eq_true rfl, Nat.le_of_ble_eq_true rfl⟩ rfl rfl 0 rfl [0] rfl rfl rfl (Nat.le_of_ble_eq_true rfl) dX9_pour_47 ⟨Nat.le_of_ble_eq_true rfl, Nat.le_of_ble_eq_true rfl⟩) rfl rfl ?_
    have hs : sPour ms so ln u x i to_ j m = (decide ((poG ms so ln x i to_ j m) = 0), (poG ms so ln x i to_ j m), u) := by first | (simp [sPour, c_15]; done) | (simp [sPour, tN, cl0, cl1, cl2, cl3, c_15]; done) | (simp [sPour, tN, cl0, cl1, cl2, cl3, hq_k, c_15]; done) | (simp [sPour, tN, cl0, cl1, cl2, cl3, hq_k, hq_m, c_15]; done) | (simp [sPour, tN, cl0, cl1, cl2, cl3, hq_k, hq_m, hq_i, c_15]; done)
    refine j_zret (pc := 50) X (b2i_nar _) dX9_pour_50 ?_
    rw [hs]; exact ⟨rfl, rfl⟩
  · skip
    obtain ⟨a, b, i2, j2, m2, ha, hb, rfl, rfl, rfl, rfl, rfl, hma, hmb, hsab, hi2, hj2⟩ := poG_0 hln c_15; have hl1 := hln a; have hl2 := hln b; have hq_i := nI_clamp (n := i2) (by omega); have hq_k := nI_clamp (n := j2) (by omega); have hq_m := nI_clamp (n := m2) (by omega); rcases (by omega : a = 0 ∨ a = 1 ∨ a = 2 ∨ a = 3) with rfl | rfl | rfl | rfl <;> rcases (by omega : b = 0 ∨ b = 1 ∨ b = 2 ∨ b = 3) with rfl | rfl | rfl | rfl
    · skip
      refine j_aload_n (pc := 18) X dX9_pour_18 rfl 1 rfl ?_
      refine j_get (pc := 19) X 9 i_X9 0 rfl rfl 0 (by decide) (by decide +kernel) rfl dX9_pour_19 ?_
      refine j_iload_n (pc := 22) X dX9_pour_22 rfl 2 rfl ?_
      refine j_aldq (pc := 23) X 1 rfl (vp_in_nI (by omega) (by omega)) (v := tA 0) ((congrArg (tyF tA) (nI_clamp (by decide))).trans rfl) dX9_pour_23 ?_
      refine j_getN (pc := 24) X 7 i_X7 2 rfl rfl 0 (by decide) (by decide +kernel) rfl dX9_pour_24 ?_
      refine j_iload_n (pc := 27) X dX9_pour_27 rfl 3 rfl ?_
      refine j_aload_n (pc := 28) X dX9_pour_28 rfl 1 rfl ?_
      refine j_get (pc := 29) X 9 i_X9 0 rfl rfl 0 (by decide) (by decide +kernel) rfl dX9_pour_29 ?_
      refine j_iload_n (pc := 32) X dX9_pour_32 rfl 4 rfl ?_
      refine j_aldq (pc := 33) X 1 rfl (vp_in_nI (by omega) (by omega)) (v := tA 0) ((congrArg (tyF tA) (nI_clamp (by decide))).trans rfl) dX9_pour_33 ?_
      refine j_getN (pc := 34) X 7 i_X7 2 rfl rfl 0 (by decide) (by decide +kernel) rfl dX9_pour_34 ?_
      refine j_iload (pc := 37) X dX9_pour_37 5 rfl ?_
      refine j_iload (pc := 39) X dX9_pour_39 6 rfl ?_
      refine j_copyl (pc := 41) X (f2 := va_cpy (u 0) (u 0) i2 j2 m2) (ws' := [(qx, .inr (9, [.ref qy, .ref qc, .ref qp, .ref qr, .ref qm, .ref qg, .ref qu, .ref ql, .ref qf, .int (nI lt)])), kT G qy 4 (tyF tA), (tA 0, .inr (7, [.ref (nA 0), .int (b2i (ms 0)), .int (nI (so 0)), .int (nI (ln 0))])), (tA 1, .inr (7, [.ref (nA 1), .int (b2i (ms 1)), .int (nI (so 1)), .int (nI (ln 1))])), (tA 2, .inr (7, [.ref (nA 2), .int (b2i (ms 2)), .int (nI (so 2)), .int (nI (ln 2))])), (tA 3, .inr (7, [.ref (nA 3), .int (b2i (ms 3)), .int (nI (so 3)), .int (nI (ln 3))])), kJ G (nA 0) 40 (va_cpy (u 0) (u 0) i2 j2 m2), kJ G (nA 1) 40 (u 1), kJ G (nA 2) 40 (u 2), kJ G (nA 3) 40 (u 3)]) 6 6 rfl rfl (by omega) (by omega) (by decide) dX9_pour_41 (by decide +kernel) (by decide +kernel) (by decide +kernel) (by decide +kernel) (by decide) (by decide) rfl rfl ?_
      refine j_aload_n (pc := 44) X dX9_pour_44 rfl 1 rfl ?_
      refine j_iload (pc := 45) X dX9_pour_45 0 rfl ?_
      refine j_ci (pc := 47) X (ws' := [(qx, .inr (9, [.ref qy, .ref qc, .ref qp, .ref qr, .ref qm, .ref qg, .ref qu, .ref ql, .ref qf, .int (nI (poG ms so ln (nI 0) (nI i2) (nI 0) (nI j2) (nI m2)))])), kT G qy 4 (tyF tA), (tA 0, .inr (7, [.ref (nA 0), .int (b2i (ms 0)), .int (nI (so 0)), .int (nI (ln 0))])), (tA 1, .inr (7, [.ref (nA 1), .int (b2i (ms 1)), .int (nI (so 1)), .int (nI (ln 1))])), (tA 2, .inr (7, [.ref (nA 2), .int (b2i (ms 2)), .int (nI (so 2)), .int (nI (ln 2))])), (tA 3, .inr (7, [.ref (nA 3), .int (b2i (ms 3)), .int (nI (so 3)), .int (nI (ln 3))])), kJ G (nA 0) 40 (va_cpy (u 0) (u 0) i2 j2 m2), kJ G (nA 1) 40 (u 1), kJ G (nA 2) 40 (u 2), kJ G (nA 3) 40 (u 3)]) [0] rfl (j_rV X (b := qx) (As := [.int (nI (poG ms so ln (nI 0) (nI i2) (nI 0) (nI j2) (nI m2)))]) (ci := 9) (rest := []) 1 (mX9_finish l G qx qy qc qp qr qm qg qu ql qf lt (poG ms so ln (nI 0) (nI i2) (nI 0) (nI j2) (nI m2)) (by first | omega | exact Nat.lt_of_le_of_lt (poG_le _ _ _ _ _ _ _ _) (by decide))) gX9_pour_X9_finish rfl rfl rfl (by decide +kernel) ⟨Nat.le_of_ble_eq_true rfl, Nat.le_of_ble_eq_true rfl⟩ rfl rfl 0 rfl [0] rfl rfl rfl (Nat.le_of_ble_eq_true rfl) dX9_pour_47 ⟨Nat.le_of_ble_eq_true rfl, Nat.le_of_ble_eq_true rfl⟩) rfl rfl ?_
      have hs : sPour ms so ln u (nI 0) (nI i2) (nI 0) (nI j2) (nI m2) = (decide ((poG ms so ln (nI 0) (nI i2) (nI 0) (nI j2) (nI m2)) = 0), (poG ms so ln (nI 0) (nI i2) (nI 0) (nI j2) (nI m2)), va_up u 0 (va_cpy (u 0) (u 0) i2 j2 m2)) := by first | (simp [sPour, c_15]; done) | (simp [sPour, tN, cl0, cl1, cl2, cl3, c_15]; done) | (simp [sPour, tN, cl0, cl1, cl2, cl3, hq_k, c_15]; done) | (simp [sPour, tN, cl0, cl1, cl2, cl3, hq_k, hq_m, c_15]; done) | (simp [sPour, tN, cl0, cl1, cl2, cl3, hq_k, hq_m, hq_i, c_15]; done)
      refine j_zret (pc := 50) X (b2i_nar _) dX9_pour_50 ?_
      rw [hs]; exact ⟨rfl, rfl⟩
    · skip
      refine j_aload_n (pc := 18) X dX9_pour_18 rfl 1 rfl ?_
      refine j_get (pc := 19) X 9 i_X9 0 rfl rfl 0 (by decide) (by decide +kernel) rfl dX9_pour_19 ?_
      refine j_iload_n (pc := 22) X dX9_pour_22 rfl 2 rfl ?_
      refine j_aldq (pc := 23) X 1 rfl (vp_in_nI (by omega) (by omega)) (v := tA 0) ((congrArg (tyF tA) (nI_clamp (by decide))).trans rfl) dX9_pour_23 ?_
      refine j_getN (pc := 24) X 7 i_X7 2 rfl rfl 0 (by decide) (by decide +kernel) rfl dX9_pour_24 ?_
      refine j_iload_n (pc := 27) X dX9_pour_27 rfl 3 rfl ?_
      refine j_aload_n (pc := 28) X dX9_pour_28 rfl 1 rfl ?_
      refine j_get (pc := 29) X 9 i_X9 0 rfl rfl 0 (by decide) (by decide +kernel) rfl dX9_pour_29 ?_
      refine j_iload_n (pc := 32) X dX9_pour_32 rfl 4 rfl ?_
      refine j_aldq (pc := 33) X 1 rfl (vp_in_nI (by omega) (by omega)) (v := tA 1) ((congrArg (tyF tA) (nI_clamp (by decide))).trans rfl) dX9_pour_33 ?_
      refine j_getN (pc := 34) X 7 i_X7 3 rfl rfl 0 (by decide) (by decide +kernel) rfl dX9_pour_34 ?_
      refine j_iload (pc := 37) X dX9_pour_37 5 rfl ?_
      refine j_iload (pc := 39) X dX9_pour_39 6 rfl ?_
      refine j_copyl (pc := 41) X (f2 := va_cpy (u 0) (u 1) i2 j2 m2) (ws' := [(qx, .inr (9, [.ref qy, .ref qc, .ref qp, .ref qr, .ref qm, .ref qg, .ref qu, .ref ql, .ref qf, .int (nI lt)])), kT G qy 4 (tyF tA), (tA 0, .inr (7, [.ref (nA 0), .int (b2i (ms 0)), .int (nI (so 0)), .int (nI (ln 0))])), (tA 1, .inr (7, [.ref (nA 1), .int (b2i (ms 1)), .int (nI (so 1)), .int (nI (ln 1))])), (tA 2, .inr (7, [.ref (nA 2), .int (b2i (ms 2)), .int (nI (so 2)), .int (nI (ln 2))])), (tA 3, .inr (7, [.ref (nA 3), .int (b2i (ms 3)), .int (nI (so 3)), .int (nI (ln 3))])), kJ G (nA 0) 40 (u 0), kJ G (nA 1) 40 (va_cpy (u 0) (u 1) i2 j2 m2), kJ G (nA 2) 40 (u 2), kJ G (nA 3) 40 (u 3)]) 6 7 rfl rfl (by omega) (by omega) (by decide) dX9_pour_41 (by decide +kernel) (by decide +kernel) (by decide +kernel) (by decide +kernel) (by decide) (by decide) rfl rfl ?_
      refine j_aload_n (pc := 44) X dX9_pour_44 rfl 1 rfl ?_
      refine j_iload (pc := 45) X dX9_pour_45 0 rfl ?_
      refine j_ci (pc := 47) X (ws' := [(qx, .inr (9, [.ref qy, .ref qc, .ref qp, .ref qr, .ref qm, .ref qg, .ref qu, .ref ql, .ref qf, .int (nI (poG ms so ln (nI 0) (nI i2) (nI 1) (nI j2) (nI m2)))])), kT G qy 4 (tyF tA), (tA 0, .inr (7, [.ref (nA 0), .int (b2i (ms 0)), .int (nI (so 0)), .int (nI (ln 0))])), (tA 1, .inr (7, [.ref (nA 1), .int (b2i (ms 1)), .int (nI (so 1)), .int (nI (ln 1))])), (tA 2, .inr (7, [.ref (nA 2), .int (b2i (ms 2)), .int (nI (so 2)), .int (nI (ln 2))])), (tA 3, .inr (7, [.ref (nA 3), .int (b2i (ms 3)), .int (nI (so 3)), .int (nI (ln 3))])), kJ G (nA 0) 40 (u 0), kJ G (nA 1) 40 (va_cpy (u 0) (u 1) i2 j2 m2), kJ G (nA 2) 40 (u 2), kJ G (nA 3) 40 (u 3)]) [0] rfl (j_rV X (b := qx) (As := [.int (nI (poG ms so ln (nI 0) (nI i2) (nI 1) (nI j2) (nI m2)))]) (ci := 9) (rest := []) 1 (mX9_finish l G qx qy qc qp qr qm qg qu ql qf lt (poG ms so ln (nI 0) (nI i2) (nI 1) (nI j2) (nI m2)) (by first | omega | exact Nat.lt_of_le_of_lt (poG_le _ _ _ _ _ _ _ _) (by decide))) gX9_pour_X9_finish rfl rfl rfl (by decide +kernel) ⟨Nat.le_of_ble_eq_true rfl, Nat.le_of_ble_eq_true rfl⟩ rfl rfl 0 rfl [0] rfl rfl rfl (Nat.le_of_ble_eq_true rfl) dX9_pour_47 ⟨Nat.le_of_ble_eq_true rfl, Nat.le_of_ble_eq_true rfl⟩) rfl rfl ?_
      have hs : sPour ms so ln u (nI 0) (nI i2) (nI 1) (nI j2) (nI m2) = (decide ((poG ms so ln (nI 0) (nI i2) (nI 1) (nI j2) (nI m2)) = 0), (poG ms so ln (nI 0) (nI i2) (nI 1) (nI j2) (nI m2)), va_up u 1 (va_cpy (u 0) (u 1) i2 j2 m2)) := by first | (simp [sPour, c_15]; done) | (simp [sPour, tN, cl0, cl1, cl2, cl3, c_15]; done) | (simp [sPour, tN, cl0, cl1, cl2, cl3, hq_k, c_15]; done) | (simp [sPour, tN, cl0, cl1, cl2, cl3, hq_k, hq_m, c_15]; done) | (simp [sPour, tN, cl0, cl1, cl2, cl3, hq_k, hq_m, hq_i, c_15]; done)
      refine j_zret (pc := 50) X (b2i_nar _) dX9_pour_50 ?_
      rw [hs]; exact ⟨rfl, rfl⟩
    · skip
      refine j_aload_n (pc := 18) X dX9_pour_18 rfl 1 rfl ?_
      refine j_get (pc := 19) X 9 i_X9 0 rfl rfl 0 (by decide) (by decide +kernel) rfl dX9_pour_19 ?_
      refine j_iload_n (pc := 22) X dX9_pour_22 rfl 2 rfl ?_
      refine j_aldq (pc := 23) X 1 rfl (vp_in_nI (by omega) (by omega)) (v := tA 0) ((congrArg (tyF tA) (nI_clamp (by decide))).trans rfl) dX9_pour_23 ?_
      refine j_getN (pc := 24) X 7 i_X7 2 rfl rfl 0 (by decide) (by decide +kernel) rfl dX9_pour_24 ?_
      refine j_iload_n (pc := 27) X dX9_pour_27 rfl 3 rfl ?_
      refine j_aload_n (pc := 28) X dX9_pour_28 rfl 1 rfl ?_
      refine j_get (pc := 29) X 9 i_X9 0 rfl rfl 0 (by decide) (by decide +kernel) rfl dX9_pour_29 ?_
      refine j_iload_n (pc := 32) X dX9_pour_32 rfl 4 rfl ?_
      refine j_aldq (pc := 33) X 1 rfl (vp_in_nI (by omega) (by omega)) (v := tA 2) ((congrArg (tyF tA) (nI_clamp (by decide))).trans rfl) dX9_pour_33 ?_
      refine j_getN (pc := 34) X 7 i_X7 4 rfl rfl 0 (by decide) (by decide +kernel) rfl dX9_pour_34 ?_
      refine j_iload (pc := 37) X dX9_pour_37 5 rfl ?_
      refine j_iload (pc := 39) X dX9_pour_39 6 rfl ?_
      refine j_copyl (pc := 41) X (f2 := va_cpy (u 0) (u 2) i2 j2 m2) (ws' := [(qx, .inr (9, [.ref qy, .ref qc, .ref qp, .ref qr, .ref qm, .ref qg, .ref qu, .ref ql, .ref qf, .int (nI lt)])), kT G qy 4 (tyF tA), (tA 0, .inr (7, [.ref (nA 0), .int (b2i (ms 0)), .int (nI (so 0)), .int (nI (ln 0))])), (tA 1, .inr (7, [.ref (nA 1), .int (b2i (ms 1)), .int (nI (so 1)), .int (nI (ln 1))])), (tA 2, .inr (7, [.ref (nA 2), .int (b2i (ms 2)), .int (nI (so 2)), .int (nI (ln 2))])), (tA 3, .inr (7, [.ref (nA 3), .int (b2i (ms 3)), .int (nI (so 3)), .int (nI (ln 3))])), kJ G (nA 0) 40 (u 0), kJ G (nA 1) 40 (u 1), kJ G (nA 2) 40 (va_cpy (u 0) (u 2) i2 j2 m2), kJ G (nA 3) 40 (u 3)]) 6 8 rfl rfl (by omega) (by omega) (by decide) dX9_pour_41 (by decide +kernel) (by decide +kernel) (by decide +kernel) (by decide +kernel) (by decide) (by decide) rfl rfl ?_
      refine j_aload_n (pc := 44) X dX9_pour_44 rfl 1 rfl ?_
      refine j_iload (pc := 45) X dX9_pour_45 0 rfl ?_
      refine j_ci (pc := 47) X (ws' := [(qx, .inr (9, [.ref qy, .ref qc, .ref qp, .ref qr, .ref qm, .ref qg, .ref qu, .ref ql, .ref qf, .int (nI (poG ms so ln (nI 0) (nI i2) (nI 2) (nI j2) (nI m2)))])), kT G qy 4 (tyF tA), (tA 0, .inr (7, [.ref (nA 0), .int (b2i (ms 0)), .int (nI (so 0)), .int (nI (ln 0))])), (tA 1, .inr (7, [.ref (nA 1), .int (b2i (ms 1)), .int (nI (so 1)), .int (nI (ln 1))])), (tA 2, .inr (7, [.ref (nA 2), .int (b2i (ms 2)), .int (nI (so 2)), .int (nI (ln 2))])), (tA 3, .inr (7, [.ref (nA 3), .int (b2i (ms 3)), .int (nI (so 3)), .int (nI (ln 3))])), kJ G (nA 0) 40 (u 0), kJ G (nA 1) 40 (u 1), kJ G (nA 2) 40 (va_cpy (u 0) (u 2) i2 j2 m2), kJ G (nA 3) 40 (u 3)]) [0] rfl (j_rV X (b := qx) (As := [.int (nI (poG ms so ln (nI 0) (nI i2) (nI 2) (nI j2) (nI m2)))]) (ci := 9) (rest := []) 1 (mX9_finish l G qx qy qc qp qr qm qg qu ql qf lt (poG ms so ln (nI 0) (nI i2) (nI 2) (nI j2) (nI m2)) (by first | omega | exact Nat.lt_of_le_of_lt (poG_le _ _ _ _ _ _ _ _) (by decide))) gX9_pour_X9_finish rfl rfl rfl (by decide +kernel) ⟨Nat.le_of_ble_eq_true rfl, Nat.le_of_ble_eq_true rfl⟩ rfl rfl 0 rfl [0] rfl rfl rfl (Nat.le_of_ble_eq_true rfl) dX9_pour_47 ⟨Nat.le_of_ble_eq_true rfl, Nat.le_of_ble_eq_true rfl⟩) rfl rfl ?_
      have hs : sPour ms so ln u (nI 0) (nI i2) (nI 2) (nI j2) (nI m2) = (decide ((poG ms so ln (nI 0) (nI i2) (nI 2) (nI j2) (nI m2)) = 0), (poG ms so ln (nI 0) (nI i2) (nI 2) (nI j2) (nI m2)), va_up u 2 (va_cpy (u 0) (u 2) i2 j2 m2)) := by first | (simp [sPour, c_15]; done) | (simp [sPour, tN, cl0, cl1, cl2, cl3, c_15]; done) | (simp [sPour, tN, cl0, cl1, cl2, cl3, hq_k, c_15]; done) | (simp [sPour, tN, cl0, cl1, cl2, cl3, hq_k, hq_m, c_15]; done) | (simp [sPour, tN, cl0, cl1, cl2, cl3, hq_k, hq_m, hq_i, c_15]; done)
      refine j_zret (pc := 50) X (b2i_nar _) dX9_pour_50 ?_
      rw [hs]; exact ⟨rfl, rfl⟩
    · skip
      refine j_aload_n (pc := 18) X dX9_pour_18 rfl 1 rfl ?_
      refine j_get (pc := 19) X 9 i_X9 0 rfl rfl 0 (by decide) (by decide +kernel) rfl dX9_pour_19 ?_
      refine j_iload_n (pc := 22) X dX9_pour_22 rfl 2 rfl ?_
      refine j_aldq (pc := 23) X 1 rfl (vp_in_nI (by omega) (by omega)) (v := tA 0) ((congrArg (tyF tA) (nI_clamp (by decide))).trans rfl) dX9_pour_23 ?_
      refine j_getN (pc := 24) X 7 i_X7 2 rfl rfl 0 (by decide) (by decide +kernel) rfl dX9_pour_24 ?_
      refine j_iload_n (pc := 27) X dX9_pour_27 rfl 3 rfl ?_
      refine j_aload_n (pc := 28) X dX9_pour_28 rfl 1 rfl ?_
      refine j_get (pc := 29) X 9 i_X9 0 rfl rfl 0 (by decide) (by decide +kernel) rfl dX9_pour_29 ?_
      refine j_iload_n (pc := 32) X dX9_pour_32 rfl 4 rfl ?_
      refine j_aldq (pc := 33) X 1 rfl (vp_in_nI (by omega) (by omega)) (v := tA 3) ((congrArg (tyF tA) (nI_clamp (by decide))).trans rfl) dX9_pour_33 ?_
      refine j_getN (pc := 34) X 7 i_X7 5 rfl rfl 0 (by decide) (by decide +kernel) rfl dX9_pour_34 ?_
      refine j_iload (pc := 37) X dX9_pour_37 5 rfl ?_
      refine j_iload (pc := 39) X dX9_pour_39 6 rfl ?_
      refine j_copyl (pc := 41) X (f2 := va_cpy (u 0) (u 3) i2 j2 m2) (ws' := [(qx, .inr (9, [.ref qy, .ref qc, .ref qp, .ref qr, .ref qm, .ref qg, .ref qu, .ref ql, .ref qf, .int (nI lt)])), kT G qy 4 (tyF tA), (tA 0, .inr (7, [.ref (nA 0), .int (b2i (ms 0)), .int (nI (so 0)), .int (nI (ln 0))])), (tA 1, .inr (7, [.ref (nA 1), .int (b2i (ms 1)), .int (nI (so 1)), .int (nI (ln 1))])), (tA 2, .inr (7, [.ref (nA 2), .int (b2i (ms 2)), .int (nI (so 2)), .int (nI (ln 2))])), (tA 3, .inr (7, [.ref (nA 3), .int (b2i (ms 3)), .int (nI (so 3)), .int (nI (ln 3))])), kJ G (nA 0) 40 (u 0), kJ G (nA 1) 40 (u 1), kJ G (nA 2) 40 (u 2), kJ G (nA 3) 40 (va_cpy (u 0) (u 3) i2 j2 m2)]) 6 9 rfl rfl (by omega) (by omega) (by decide) dX9_pour_41 (by decide +kernel) (by decide +kernel) (by decide +kernel) (by decide +kernel) (by decide) (by decide) rfl rfl ?_
      refine j_aload_n (pc := 44) X dX9_pour_44 rfl 1 rfl ?_
      refine j_iload (pc := 45) X dX9_pour_45 0 rfl ?_
      refine j_ci (pc := 47) X (ws' := [(qx, .inr (9, [.ref qy, .ref qc, .ref qp, .ref qr, .ref qm, .ref qg, .ref qu, .ref ql, .ref qf, .int (nI (poG ms so ln (nI 0) (nI i2) (nI 3) (nI j2) (nI m2)))])), kT G qy 4 (tyF tA), (tA 0, .inr (7, [.ref (nA 0), .int (b2i (ms 0)), .int (nI (so 0)), .int (nI (ln 0))])), (tA 1, .inr (7, [.ref (nA 1), .int (b2i (ms 1)), .int (nI (so 1)), .int (nI (ln 1))])), (tA 2, .inr (7, [.ref (nA 2), .int (b2i (ms 2)), .int (nI (so 2)), .int (nI (ln 2))])), (tA 3, .inr (7, [.ref (nA 3), .int (b2i (ms 3)), .int (nI (so 3)), .int (nI (ln 3))])), kJ G (nA 0) 40 (u 0), kJ G (nA 1) 40 (u 1), kJ G (nA 2) 40 (u 2), kJ G (nA 3) 40 (va_cpy (u 0) (u 3) i2 j2 m2)]) [0] rfl (j_rV X (b := qx) (As := [.int (nI (poG ms so ln (nI 0) (nI i2) (nI 3) (nI j2) (nI m2)))]) (ci := 9) (rest := []) 1 (mX9_finish l G qx qy qc qp qr qm qg qu ql qf lt (poG ms so ln (nI 0) (nI i2) (nI 3) (nI j2) (nI m2)) (by first | omega | exact Nat.lt_of_le_of_lt (poG_le _ _ _ _ _ _ _ _) (by decide))) gX9_pour_X9_finish rfl rfl rfl (by decide +kernel) ⟨Nat.le_of_ble_eq_true rfl, Nat.le_of_ble_eq_true rfl⟩ rfl rfl 0 rfl [0] rfl rfl rfl (Nat.le_of_ble_eq_true rfl) dX9_pour_47 ⟨Nat.le_of_ble_eq_true rfl, Nat.le_of_ble_eq_true rfl⟩) rfl rfl ?_
      have hs : sPour ms so ln u (nI 0) (nI i2) (nI 3) (nI j2) (nI m2) = (decide ((poG ms so ln (nI 0) (nI i2) (nI 3) (nI j2) (nI m2)) = 0), (poG ms so ln (nI 0) (nI i2) (nI 3) (nI j2) (nI m2)), va_up u 3 (va_cpy (u 0) (u 3) i2 j2 m2)) := by first | (simp [sPour, c_15]; done) | (simp [sPour, tN, cl0, cl1, cl2, cl3, c_15]; done) | (simp [sPour, tN, cl0, cl1, cl2, cl3, hq_k, c_15]; done) | (simp [sPour, tN, cl0, cl1, cl2, cl3, hq_k, hq_m, c_15]; done) | (simp [sPour, tN, cl0, cl1, cl2, cl3, hq_k, hq_m, hq_i, c_15]; done)
      refine j_zret (pc := 50) X (b2i_nar _) dX9_pour_50 ?_
      rw [hs]; exact ⟨rfl, rfl⟩
    · skip
      refine j_aload_n (pc := 18) X dX9_pour_18 rfl 1 rfl ?_
      refine j_get (pc := 19) X 9 i_X9 0 rfl rfl 0 (by decide) (by decide +kernel) rfl dX9_pour_19 ?_
      refine j_iload_n (pc := 22) X dX9_pour_22 rfl 2 rfl ?_
      refine j_aldq (pc := 23) X 1 rfl (vp_in_nI (by omega) (by omega)) (v := tA 1) ((congrArg (tyF tA) (nI_clamp (by decide))).trans rfl) dX9_pour_23 ?_
      refine j_getN (pc := 24) X 7 i_X7 3 rfl rfl 0 (by decide) (by decide +kernel) rfl dX9_pour_24 ?_
      refine j_iload_n (pc := 27) X dX9_pour_27 rfl 3 rfl ?_
      refine j_aload_n (pc := 28) X dX9_pour_28 rfl 1 rfl ?_
      refine j_get (pc := 29) X 9 i_X9 0 rfl rfl 0 (by decide) (by decide +kernel) rfl dX9_pour_29 ?_
      refine j_iload_n (pc := 32) X dX9_pour_32 rfl 4 rfl ?_
      refine j_aldq (pc := 33) X 1 rfl (vp_in_nI (by omega) (by omega)) (v := tA 0) ((congrArg (tyF tA) (nI_clamp (by decide))).trans rfl) dX9_pour_33 ?_
      refine j_getN (pc := 34) X 7 i_X7 2 rfl rfl 0 (by decide) (by decide +kernel) rfl dX9_pour_34 ?_
      refine j_iload (pc := 37) X dX9_pour_37 5 rfl ?_
      refine j_iload (pc := 39) X dX9_pour_39 6 rfl ?_
      refine j_copyl (pc := 41) X (f2 := va_cpy (u 1) (u 0) i2 j2 m2) (ws' := [(qx, .inr (9, [.ref qy, .ref qc, .ref qp, .ref qr, .ref qm, .ref qg, .ref qu, .ref ql, .ref qf, .int (nI lt)])), kT G qy 4 (tyF tA), (tA 0, .inr (7, [.ref (nA 0), .int (b2i (ms 0)), .int (nI (so 0)), .int (nI (ln 0))])), (tA 1, .inr (7, [.ref (nA 1), .int (b2i (ms 1)), .int (nI (so 1)), .int (nI (ln 1))])), (tA 2, .inr (7, [.ref (nA 2), .int (b2i (ms 2)), .int (nI (so 2)), .int (nI (ln 2))])), (tA 3, .inr (7, [.ref (nA 3), .int (b2i (ms 3)), .int (nI (so 3)), .int (nI (ln 3))])), kJ G (nA 0) 40 (va_cpy (u 1) (u 0) i2 j2 m2), kJ G (nA 1) 40 (u 1), kJ G (nA 2) 40 (u 2), kJ G (nA 3) 40 (u 3)]) 7 6 rfl rfl (by omega) (by omega) (by decide) dX9_pour_41 (by decide +kernel) (by decide +kernel) (by decide +kernel) (by decide +kernel) (by decide) (by decide) rfl rfl ?_
      refine j_aload_n (pc := 44) X dX9_pour_44 rfl 1 rfl ?_
      refine j_iload (pc := 45) X dX9_pour_45 0 rfl ?_
      refine j_ci (pc := 47) X (ws' := [(qx, .inr (9, [.ref qy, .ref qc, .ref qp, .ref qr, .ref qm, .ref qg, .ref qu, .ref ql, .ref qf, .int (nI (poG ms so ln (nI 1) (nI i2) (nI 0) (nI j2) (nI m2)))])), kT G qy 4 (tyF tA), (tA 0, .inr (7, [.ref (nA 0), .int (b2i (ms 0)), .int (nI (so 0)), .int (nI (ln 0))])), (tA 1, .inr (7, [.ref (nA 1), .int (b2i (ms 1)), .int (nI (so 1)), .int (nI (ln 1))])), (tA 2, .inr (7, [.ref (nA 2), .int (b2i (ms 2)), .int (nI (so 2)), .int (nI (ln 2))])), (tA 3, .inr (7, [.ref (nA 3), .int (b2i (ms 3)), .int (nI (so 3)), .int (nI (ln 3))])), kJ G (nA 0) 40 (va_cpy (u 1) (u 0) i2 j2 m2), kJ G (nA 1) 40 (u 1), kJ G (nA 2) 40 (u 2), kJ G (nA 3) 40 (u 3)]) [0] rfl (j_rV X (b := qx) (As := [.int (nI (poG ms so ln (nI 1) (nI i2) (nI 0) (nI j2) (nI m2)))]) (ci := 9) (rest := []) 1 (mX9_finish l G qx qy qc qp qr qm qg qu ql qf lt (poG ms so ln (nI 1) (nI i2) (nI 0) (nI j2) (nI m2)) (by first | omega | exact Nat.lt_of_le_of_lt (poG_le _ _ _ _ _ _ _ _) (by decide))) gX9_pour_X9_finish rfl rfl rfl (by decide +kernel) ⟨Nat.le_of_ble_eq_true rfl, Nat.le_of_ble_eq_true rfl⟩ rfl rfl 0 rfl [0] rfl rfl rfl (Nat.le_of_ble_eq_true rfl) dX9_pour_47 ⟨Nat.le_of_ble_eq_true rfl, Nat.le_of_ble_eq_true rfl⟩) rfl rfl ?_
      have hs : sPour ms so ln u (nI 1) (nI i2) (nI 0) (nI j2) (nI m2) = (decide ((poG ms so ln (nI 1) (nI i2) (nI 0) (nI j2) (nI m2)) = 0), (poG ms so ln (nI 1) (nI i2) (nI 0) (nI j2) (nI m2)), va_up u 0 (va_cpy (u 1) (u 0) i2 j2 m2)) := by first | (simp [sPour, c_15]; done) | (simp [sPour, tN, cl0, cl1, cl2, cl3, c_15]; done) | (simp [sPour, tN, cl0, cl1, cl2, cl3, hq_k, c_15]; done) | (simp [sPour, tN, cl0, cl1, cl2, cl3, hq_k, hq_m, c_15]; done) | (simp [sPour, tN, cl0, cl1, cl2, cl3, hq_k, hq_m, hq_i, c_15]; done)
      refine j_zret (pc := 50) X (b2i_nar _) dX9_pour_50 ?_
      rw [hs]; exact ⟨rfl, rfl⟩
    · skip
      refine j_aload_n (pc := 18) X dX9_pour_18 rfl 1 rfl ?_
      refine j_get (pc := 19) X 9 i_X9 0 rfl rfl 0 (by decide) (by decide +kernel) rfl dX9_pour_19 ?_
      refine j_iload_n (pc := 22) X dX9_pour_22 rfl 2 rfl ?_
      refine j_aldq (pc := 23) X 1 rfl (vp_in_nI (by omega) (by omega)) (v := tA 1) ((congrArg (tyF tA) (nI_clamp (by decide))).trans rfl) dX9_pour_23 ?_
      refine j_getN (pc := 24) X 7 i_X7 3 rfl rfl 0 (by decide) (by decide +kernel) rfl dX9_pour_24 ?_
      refine j_iload_n (pc := 27) X dX9_pour_27 rfl 3 rfl ?_
      refine j_aload_n (pc := 28) X dX9_pour_28 rfl 1 rfl ?_
      refine j_get (pc := 29) X 9 i_X9 0 rfl rfl 0 (by decide) (by decide +kernel) rfl dX9_pour_29 ?_
      refine j_iload_n (pc := 32) X dX9_pour_32 rfl 4 rfl ?_
      refine j_aldq (pc := 33) X 1 rfl (vp_in_nI (by omega) (by omega)) (v := tA 1) ((congrArg (tyF tA) (nI_clamp (by decide))).trans rfl) dX9_pour_33 ?_
      refine j_getN (pc := 34) X 7 i_X7 3 rfl rfl 0 (by decide) (by decide +kernel) rfl dX9_pour_34 ?_
      refine j_iload (pc := 37) X dX9_pour_37 5 rfl ?_
      refine j_iload (pc := 39) X dX9_pour_39 6 rfl ?_
      refine j_copyl (pc := 41) X (f2 := va_cpy (u 1) (u 1) i2 j2 m2) (ws' := [(qx, .inr (9, [.ref qy, .ref qc, .ref qp, .ref qr, .ref qm, .ref qg, .ref qu, .ref ql, .ref qf, .int (nI lt)])), kT G qy 4 (tyF tA), (tA 0, .inr (7, [.ref (nA 0), .int (b2i (ms 0)), .int (nI (so 0)), .int (nI (ln 0))])), (tA 1, .inr (7, [.ref (nA 1), .int (b2i (ms 1)), .int (nI (so 1)), .int (nI (ln 1))])), (tA 2, .inr (7, [.ref (nA 2), .int (b2i (ms 2)), .int (nI (so 2)), .int (nI (ln 2))])), (tA 3, .inr (7, [.ref (nA 3), .int (b2i (ms 3)), .int (nI (so 3)), .int (nI (ln 3))])), kJ G (nA 0) 40 (u 0), kJ G (nA 1) 40 (va_cpy (u 1) (u 1) i2 j2 m2), kJ G (nA 2) 40 (u 2), kJ G (nA 3) 40 (u 3)]) 7 7 rfl rfl (by omega) (by omega) (by decide) dX9_pour_41 (by decide +kernel) (by decide +kernel) (by decide +kernel) (by decide +kernel) (by decide) (by decide) rfl rfl ?_
      refine j_aload_n (pc := 44) X dX9_pour_44 rfl 1 rfl ?_
      refine j_iload (pc := 45) X dX9_pour_45 0 rfl ?_
      refine j_ci (pc := 47) X (ws' := [(qx, .inr (9, [.ref qy, .ref qc, .ref qp, .ref qr, .ref qm, .ref qg, .ref qu, .ref ql, .ref qf, .int (nI (poG ms so ln (nI 1) (nI i2) (nI 1) (nI j2) (nI m2)))])), kT G qy 4 (tyF tA), (tA 0, .inr (7, [.ref (nA 0), .int (b2i (ms 0)), .int (nI (so 0)), .int (nI (ln 0))])), (tA 1, .inr (7, [.ref (nA 1), .int (b2i (ms 1)), .int (nI (so 1)), .int (nI (ln 1))])), (tA 2, .inr (7, [.ref (nA 2), .int (b2i (ms 2)), .int (nI (so 2)), .int (nI (ln 2))])), (tA 3, .inr (7, [.ref (nA 3), .int (b2i (ms 3)), .int (nI (so 3)), .int (nI (ln 3))])), kJ G (nA 0) 40 (u 0), kJ G (nA 1) 40 (va_cpy (u 1) (u 1) i2 j2 m2), kJ G (nA 2) 40 (u 2), kJ G (nA 3) 40 (u 3)]) [0] rfl (j_rV X (b := qx) (As := [.int (nI (poG ms so ln (nI 1) (nI i2) (nI 1) (nI j2) (nI m2)))]) (ci := 9) (rest := []) 1 (mX9_finish l G qx qy qc qp qr qm qg qu ql qf lt (poG ms so ln (nI 1) (nI i2) (nI 1) (nI j2) (nI m2)) (by first | omega | exact Nat.lt_of_le_of_lt (poG_le _ _ _ _ _ _ _ _) (by decide))) gX9_pour_X9_finish rfl rfl rfl (by decide +kernel) ⟨Nat.le_of_ble_eq_true rfl, Nat.le_of_ble_eq_true rfl⟩ rfl rfl 0 rfl [0] rfl rfl rfl (Nat.le_of_ble_eq_true rfl) dX9_pour_47 ⟨Nat.le_of_ble_eq_true rfl, Nat.le_of_ble_eq_true rfl⟩) rfl rfl ?_
      have hs : sPour ms so ln u (nI 1) (nI i2) (nI 1) (nI j2) (nI m2) = (decide ((poG ms so ln (nI 1) (nI i2) (nI 1) (nI j2) (nI m2)) = 0), (poG ms so ln (nI 1) (nI i2) (nI 1) (nI j2) (nI m2)), va_up u 1 (va_cpy (u 1) (u 1) i2 j2 m2)) := by first | (simp [sPour, c_15]; done) | (simp [sPour, tN, cl0, cl1, cl2, cl3, c_15]; done) | (simp [sPour, tN, cl0, cl1, cl2, cl3, hq_k, c_15]; done) | (simp [sPour, tN, cl0, cl1, cl2, cl3, hq_k, hq_m, c_15]; done) | (simp [sPour, tN, cl0, cl1, cl2, cl3, hq_k, hq_m, hq_i, c_15]; done)
      refine j_zret (pc := 50) X (b2i_nar _) dX9_pour_50 ?_
      rw [hs]; exact ⟨rfl, rfl⟩
    · skip
      refine j_aload_n (pc := 18) X dX9_pour_18 rfl 1 rfl ?_
      refine j_get (pc := 19) X 9 i_X9 0 rfl rfl 0 (by decide) (by decide +kernel) rfl dX9_pour_19 ?_
      refine j_iload_n (pc := 22) X dX9_pour_22 rfl 2 rfl ?_
      refine j_aldq (pc := 23) X 1 rfl (vp_in_nI (by omega) (by omega)) (v := tA 1) ((congrArg (tyF tA) (nI_clamp (by decide))).trans rfl) dX9_pour_23 ?_
      refine j_getN (pc := 24) X 7 i_X7 3 rfl rfl 0 (by decide) (by decide +kernel) rfl dX9_pour_24 ?_
      refine j_iload_n (pc := 27) X dX9_pour_27 rfl 3 rfl ?_
      refine j_aload_n (pc := 28) X dX9_pour_28 rfl 1 rfl ?_
      refine j_get (pc := 29) X 9 i_X9 0 rfl rfl 0 (by decide) (by decide +kernel) rfl dX9_pour_29 ?_
      refine j_iload_n (pc := 32) X dX9_pour_32 rfl 4 rfl ?_
      refine j_aldq (pc := 33) X 1 rfl (vp_in_nI (by omega) (by omega)) (v := tA 2) ((congrArg (tyF tA) (nI_clamp (by decide))).trans rfl) dX9_pour_33 ?_
      refine j_getN (pc := 34) X 7 i_X7 4 rfl rfl 0 (by decide) (by decide +kernel) rfl dX9_pour_34 ?_
      refine j_iload (pc := 37) X dX9_pour_37 5 rfl ?_
      refine j_iload (pc := 39) X dX9_pour_39 6 rfl ?_
      refine j_copyl (pc := 41) X (f2 := va_cpy (u 1) (u 2) i2 j2 m2) (ws' := [(qx, .inr (9, [.ref qy, .ref qc, .ref qp, .ref qr, .ref qm, .ref qg, .ref qu, .ref ql, .ref qf, .int (nI lt)])), kT G qy 4 (tyF tA), (tA 0, .inr (7, [.ref (nA 0), .int (b2i (ms 0)), .int (nI (so 0)), .int (nI (ln 0))])), (tA 1, .inr (7, [.ref (nA 1), .int (b2i (ms 1)), .int (nI (so 1)), .int (nI (ln 1))])), (tA 2, .inr (7, [.ref (nA 2), .int (b2i (ms 2)), .int (nI (so 2)), .int (nI (ln 2))])), (tA 3, .inr (7, [.ref (nA 3), .int (b2i (ms 3)), .int (nI (so 3)), .int (nI (ln 3))])), kJ G (nA 0) 40 (u 0), kJ G (nA 1) 40 (u 1), kJ G (nA 2) 40 (va_cpy (u 1) (u 2) i2 j2 m2), kJ G (nA 3) 40 (u 3)]) 7 8 rfl rfl (by omega) (by omega) (by decide) dX9_pour_41 (by decide +kernel) (by decide +kernel) (by decide +kernel) (by decide +kernel) (by decide) (by decide) rfl rfl ?_
      refine j_aload_n (pc := 44) X dX9_pour_44 rfl 1 rfl ?_
      refine j_iload (pc := 45) X dX9_pour_45 0 rfl ?_
      refine j_ci (pc := 47) X (ws' := [(qx, .inr (9, [.ref qy, .ref qc, .ref qp, .ref qr, .ref qm, .ref qg, .ref qu, .ref ql, .ref qf, .int (nI (poG ms so ln (nI 1) (nI i2) (nI 2) (nI j2) (nI m2)))])), kT G qy 4 (tyF tA), (tA 0, .inr (7, [.ref (nA 0), .int (b2i (ms 0)), .int (nI (so 0)), .int (nI (ln 0))])), (tA 1, .inr (7, [.ref (nA 1), .int (b2i (ms 1)), .int (nI (so 1)), .int (nI (ln 1))])), (tA 2, .inr (7, [.ref (nA 2), .int (b2i (ms 2)), .int (nI (so 2)), .int (nI (ln 2))])), (tA 3, .inr (7, [.ref (nA 3), .int (b2i (ms 3)), .int (nI (so 3)), .int (nI (ln 3))])), kJ G (nA 0) 40 (u 0), kJ G (nA 1) 40 (u 1), kJ G (nA 2) 40 (va_cpy (u 1) (u 2) i2 j2 m2), kJ G (nA 3) 40 (u 3)]) [0] rfl (j_rV X (b := qx) (As := [.int (nI (poG ms so ln (nI 1) (nI i2) (nI 2) (nI j2) (nI m2)))]) (ci := 9) (rest := []) 1 (mX9_finish l G qx qy qc qp qr qm qg qu ql qf lt (poG ms so ln (nI 1) (nI i2) (nI 2) (nI j2) (nI m2)) (by first | omega | exact Nat.lt_of_le_of_lt (poG_le _ _ _ _ _ _ _ _) (by decide))) gX9_pour_X9_finish rfl rfl rfl (by decide +kernel) ⟨Nat.le_of_ble_eq_true rfl, Nat.le_of_ble_eq_true rfl⟩ rfl rfl 0 rfl [0] rfl rfl rfl (Nat.le_of_ble_eq_true rfl) dX9_pour_47 ⟨Nat.le_of_ble_eq_true rfl, Nat.le_of_ble_eq_true rfl⟩) rfl rfl ?_
      have hs : sPour ms so ln u (nI 1) (nI i2) (nI 2) (nI j2) (nI m2) = (decide ((poG ms so ln (nI 1) (nI i2) (nI 2) (nI j2) (nI m2)) = 0), (poG ms so ln (nI 1) (nI i2) (nI 2) (nI j2) (nI m2)), va_up u 2 (va_cpy (u 1) (u 2) i2 j2 m2)) := by first | (simp [sPour, c_15]; done) | (simp [sPour, tN, cl0, cl1, cl2, cl3, c_15]; done) | (simp [sPour, tN, cl0, cl1, cl2, cl3, hq_k, c_15]; done) | (simp [sPour, tN, cl0, cl1, cl2, cl3, hq_k, hq_m, c_15]; done) | (simp [sPour, tN, cl0, cl1, cl2, cl3, hq_k, hq_m, hq_i, c_15]; done)
      refine j_zret (pc := 50) X (b2i_nar _) dX9_pour_50 ?_
      rw [hs]; exact ⟨rfl, rfl⟩
    · skip
      refine j_aload_n (pc := 18) X dX9_pour_18 rfl 1 rfl ?_
      refine j_get (pc := 19) X 9 i_X9 0 rfl rfl 0 (by decide) (by decide +kernel) rfl dX9_pour_19 ?_
      refine j_iload_n (pc := 22) X dX9_pour_22 rfl 2 rfl ?_
      refine j_aldq (pc := 23) X 1 rfl (vp_in_nI (by omega) (by omega)) (v := tA 1) ((congrArg (tyF tA) (nI_clamp (by decide))).trans rfl) dX9_pour_23 ?_
      refine j_getN (pc := 24) X 7 i_X7 3 rfl rfl 0 (by decide) (by decide +kernel) rfl dX9_pour_24 ?_
      refine j_iload_n (pc := 27) X dX9_pour_27 rfl 3 rfl ?_
      refine j_aload_n (pc := 28) X dX9_pour_28 rfl 1 rfl ?_
      refine j_get (pc := 29) X 9 i_X9 0 rfl rfl 0 (by decide) (by decide +kernel) rfl dX9_pour_29 ?_
      refine j_iload_n (pc := 32) X dX9_pour_32 rfl 4 rfl ?_
      refine j_aldq (pc := 33) X 1 rfl (vp_in_nI (by omega) (by omega)) (v := tA 3) ((congrArg (tyF tA) (nI_clamp (by decide))).trans rfl) dX9_pour_33 ?_
      refine j_getN (pc := 34) X 7 i_X7 5 rfl rfl 0 (by decide) (by decide +kernel) rfl dX9_pour_34 ?_
      refine j_iload (pc := 37) X dX9_pour_37 5 rfl ?_
      refine j_iload (pc := 39) X dX9_pour_39 6 rfl ?_
      refine j_copyl (pc := 41) X (f2 := va_cpy (u 1) (u 3) i2 j2 m2) (ws' := [(qx, .inr (9, [.ref qy, .ref qc, .ref qp, .ref qr, .ref qm, .ref qg, .ref qu, .ref ql, .ref qf, .int (nI lt)])), kT G qy 4 (tyF tA), (tA 0, .inr (7, [.ref (nA 0), .int (b2i (ms 0)), .int (nI (so 0)), .int (nI (ln 0))])), (tA 1, .inr (7, [.ref (nA 1), .int (b2i (ms 1)), .int (nI (so 1)), .int (nI (ln 1))])), (tA 2, .inr (7, [.ref (nA 2), .int (b2i (ms 2)), .int (nI (so 2)), .int (nI (ln 2))])), (tA 3, .inr (7, [.ref (nA 3), .int (b2i (ms 3)), .int (nI (so 3)), .int (nI (ln 3))])), kJ G (nA 0) 40 (u 0), kJ G (nA 1) 40 (u 1), kJ G (nA 2) 40 (u 2), kJ G (nA 3) 40 (va_cpy (u 1) (u 3) i2 j2 m2)]) 7 9 rfl rfl (by omega) (by omega) (by decide) dX9_pour_41 (by decide +kernel) (by decide +kernel) (by decide +kernel) (by decide +kernel) (by decide) (by decide) rfl rfl ?_
      refine j_aload_n (pc := 44) X dX9_pour_44 rfl 1 rfl ?_
      refine j_iload (pc := 45) X dX9_pour_45 0 rfl ?_
      refine j_ci (pc := 47) X (ws' := [(qx, .inr (9, [.ref qy, .ref qc, .ref qp, .ref qr, .ref qm, .ref qg, .ref qu, .ref ql, .ref qf, .int (nI (poG ms so ln (nI 1) (nI i2) (nI 3) (nI j2) (nI m2)))])), kT G qy 4 (tyF tA), (tA 0, .inr (7, [.ref (nA 0), .int (b2i (ms 0)), .int (nI (so 0)), .int (nI (ln 0))])), (tA 1, .inr (7, [.ref (nA 1), .int (b2i (ms 1)), .int (nI (so 1)), .int (nI (ln 1))])), (tA 2, .inr (7, [.ref (nA 2), .int (b2i (ms 2)), .int (nI (so 2)), .int (nI (ln 2))])), (tA 3, .inr (7, [.ref (nA 3), .int (b2i (ms 3)), .int (nI (so 3)), .int (nI (ln 3))])), kJ G (nA 0) 40 (u 0), kJ G (nA 1) 40 (u 1), kJ G (nA 2) 40 (u 2), kJ G (nA 3) 40 (va_cpy (u 1) (u 3) i2 j2 m2)]) [0] rfl (j_rV X (b := qx) (As := [.int (nI (poG ms so ln (nI 1) (nI i2) (nI 3) (nI j2) (nI m2)))]) (ci := 9) (rest := []) 1 (mX9_finish l G qx qy qc qp qr qm qg qu ql qf lt (poG ms so ln (nI 1) (nI i2) (nI 3) (nI j2) (nI m2)) (by first | omega | exact Nat.lt_of_le_of_lt (poG_le _ _ _ _ _ _ _ _) (by decide))) gX9_pour_X9_finish rfl rfl rfl (by decide +kernel) ⟨Nat.le_of_ble_eq_true rfl, Nat.le_of_ble_eq_true rfl⟩ rfl rfl 0 rfl [0] rfl rfl rfl (Nat.le_of_ble_eq_true rfl) dX9_pour_47 ⟨Nat.le_of_ble_eq_true rfl, Nat.le_of_ble_eq_true rfl⟩) rfl rfl ?_
      have hs : sPour ms so ln u (nI 1) (nI i2) (nI 3) (nI j2) (nI m2) = (decide ((poG ms so ln (nI 1) (nI i2) (nI 3) (nI j2) (nI m2)) = 0), (poG ms so ln (nI 1) (nI i2) (nI 3) (nI j2) (nI m2)), va_up u 3 (va_cpy (u 1) (u 3) i2 j2 m2)) := by first | (simp [sPour, c_15]; done) | (simp [sPour, tN, cl0, cl1, cl2, cl3, c_15]; done) | (simp [sPour, tN, cl0, cl1, cl2, cl3, hq_k, c_15]; done) | (simp [sPour, tN, cl0, cl1, cl2, cl3, hq_k, hq_m, c_15]; done) | (simp [sPour, tN, cl0, cl1, cl2, cl3, hq_k, hq_m, hq_i, c_15]; done)
      refine j_zret (pc := 50) X (b2i_nar _) dX9_pour_50 ?_
      rw [hs]; exact ⟨rfl, rfl⟩
    · skip
      refine j_aload_n (pc := 18) X dX9_pour_18 rfl 1 rfl ?_
      refine j_get (pc := 19) X 9 i_X9 0 rfl rfl 0 (by decide) (by decide +kernel) rfl dX9_pour_19 ?_
      refine j_iload_n (pc := 22) X dX9_pour_22 rfl 2 rfl ?_
      refine j_aldq (pc := 23) X 1 rfl (vp_in_nI (by omega) (by omega)) (v := tA 2) ((congrArg (tyF tA) (nI_clamp (by decide))).trans rfl) dX9_pour_23 ?_
      refine j_getN (pc := 24) X 7 i_X7 4 rfl rfl 0 (by decide) (by decide +kernel) rfl dX9_pour_24 ?_
      refine j_iload_n (pc := 27) X dX9_pour_27 rfl 3 rfl ?_
      refine j_aload_n (pc := 28) X dX9_pour_28 rfl 1 rfl ?_
      refine j_get (pc := 29) X 9 i_X9 0 rfl rfl 0 (by decide) (by decide +kernel) rfl dX9_pour_29 ?_
      refine j_iload_n (pc := 32) X dX9_pour_32 rfl 4 rfl ?_
      refine j_aldq (pc := 33) X 1 rfl (vp_in_nI (by omega) (by omega)) (v := tA 0) ((congrArg (tyF tA) (nI_clamp (by decide))).trans rfl) dX9_pour_33 ?_
      refine j_getN (pc := 34) X 7 i_X7 2 rfl rfl 0 (by decide) (by decide +kernel) rfl dX9_pour_34 ?_
      refine j_iload (pc := 37) X dX9_pour_37 5 rfl ?_
      refine j_iload (pc := 39) X dX9_pour_39 6 rfl ?_
      refine j_copyl (pc := 41) X (f2 := va_cpy (u 2) (u 0) i2 j2 m2) (ws' := [(qx, .inr (9, [.ref qy, .ref qc, .ref qp, .ref qr, .ref qm, .ref qg, .ref qu, .ref ql, .ref qf, .int (nI lt)])), kT G qy 4 (tyF tA), (tA 0, .inr (7, [.ref (nA 0), .int (b2i (ms 0)), .int (nI (so 0)), .int (nI (ln 0))])), (tA 1, .inr (7, [.ref (nA 1), .int (b2i (ms 1)), .int (nI (so 1)), .int (nI (ln 1))])), (tA 2, .inr (7, [.ref (nA 2), .int (b2i (ms 2)), .int (nI (so 2)), .int (nI (ln 2))])), (tA 3, .inr (7, [.ref (nA 3), .int (b2i (ms 3)), .int (nI (so 3)), .int (nI (ln 3))])), kJ G (nA 0) 40 (va_cpy (u 2) (u 0) i2 j2 m2), kJ G (nA 1) 40 (u 1), kJ G (nA 2) 40 (u 2), kJ G (nA 3) 40 (u 3)]) 8 6 rfl rfl (by omega) (by omega) (by decide) dX9_pour_41 (by decide +kernel) (by decide +kernel) (by decide +kernel) (by decide +kernel) (by decide) (by decide) rfl rfl ?_
      refine j_aload_n (pc := 44) X dX9_pour_44 rfl 1 rfl ?_
      refine j_iload (pc := 45) X dX9_pour_45 0 rfl ?_
      refine j_ci (pc := 47) X (ws' := [(qx, .inr (9, [.ref qy, .ref qc, .ref qp, .ref qr, .ref qm, .ref qg, .ref qu, .ref ql, .ref qf, .int (nI (poG ms so ln (nI 2) (nI i2) (nI 0) (nI j2) (nI m2)))])), kT G qy 4 (tyF tA), (tA 0, .inr (7, [.ref (nA 0), .int (b2i (ms 0)), .int (nI (so 0)), .int (nI (ln 0))])), (tA 1, .inr (7, [.ref (nA 1), .int (b2i (ms 1)), .int (nI (so 1)), .int (nI (ln 1))])), (tA 2, .inr (7, [.ref (nA 2), .int (b2i (ms 2)), .int (nI (so 2)), .int (nI (ln 2))])), (tA 3, .inr (7, [.ref (nA 3), .int (b2i (ms 3)), .int (nI (so 3)), .int (nI (ln 3))])), kJ G (nA 0) 40 (va_cpy (u 2) (u 0) i2 j2 m2), kJ G (nA 1) 40 (u 1), kJ G (nA 2) 40 (u 2), kJ G (nA 3) 40 (u 3)]) [0] rfl (j_rV X (b := qx) (As := [.int (nI (poG ms so ln (nI 2) (nI i2) (nI 0) (nI j2) (nI m2)))]) (ci := 9) (rest := []) 1 (mX9_finish l G qx qy qc qp qr qm qg qu ql qf lt (poG ms so ln (nI 2) (nI i2) (nI 0) (nI j2) (nI m2)) (by first | omega | exact Nat.lt_of_le_of_lt (poG_le _ _ _ _ _ _ _ _) (by decide))) gX9_pour_X9_finish rfl rfl rfl (by decide +kernel) ⟨Nat.le_of_ble_eq_true rfl, Nat.le_of_ble_eq_true rfl⟩ rfl rfl 0 rfl [0] rfl rfl rfl (Nat.le_of_ble_eq_true rfl) dX9_pour_47 ⟨Nat.le_of_ble_eq_true rfl, Nat.le_of_ble_eq_true rfl⟩) rfl rfl ?_
      have hs : sPour ms so ln u (nI 2) (nI i2) (nI 0) (nI j2) (nI m2) = (decide ((poG ms so ln (nI 2) (nI i2) (nI 0) (nI j2) (nI m2)) = 0), (poG ms so ln (nI 2) (nI i2) (nI 0) (nI j2) (nI m2)), va_up u 0 (va_cpy (u 2) (u 0) i2 j2 m2)) := by first | (simp [sPour, c_15]; done) | (simp [sPour, tN, cl0, cl1, cl2, cl3, c_15]; done) | (simp [sPour, tN, cl0, cl1, cl2, cl3, hq_k, c_15]; done) | (simp [sPour, tN, cl0, cl1, cl2, cl3, hq_k, hq_m, c_15]; done) | (simp [sPour, tN, cl0, cl1, cl2, cl3, hq_k, hq_m, hq_i, c_15]; done)
      refine j_zret (pc := 50) X (b2i_nar _) dX9_pour_50 ?_
      rw [hs]; exact ⟨rfl, rfl⟩
    · skip
      refine j_aload_n (pc := 18) X dX9_pour_18 rfl 1 rfl ?_
      refine j_get (pc := 19) X 9 i_X9 0 rfl rfl 0 (by decide) (by decide +kernel) rfl dX9_pour_19 ?_
      refine j_iload_n (pc := 22) X dX9_pour_22 rfl 2 rfl ?_
      refine j_aldq (pc := 23) X 1 rfl (vp_in_nI (by omega) (by omega)) (v := tA 2) ((congrArg (tyF tA) (nI_clamp (by decide))).trans rfl) dX9_pour_23 ?_
      refine j_getN (pc := 24) X 7 i_X7 4 rfl rfl 0 (by decide) (by decide +kernel) rfl dX9_pour_24 ?_
      refine j_iload_n (pc := 27) X dX9_pour_27 rfl 3 rfl ?_
      refine j_aload_n (pc := 28) X dX9_pour_28 rfl 1 rfl ?_
      refine j_get (pc := 29) X 9 i_X9 0 rfl rfl 0 (by decide) (by decide +kernel) rfl dX9_pour_29 ?_
      refine j_iload_n (pc := 32) X dX9_pour_32 rfl 4 rfl ?_
      refine j_aldq (pc := 33) X 1 rfl (vp_in_nI (by omega) (by omega)) (v := tA 1) ((congrArg (tyF tA) (nI_clamp (by decide))).trans rfl) dX9_pour_33 ?_
      refine j_getN (pc := 34) X 7 i_X7 3 rfl rfl 0 (by decide) (by decide +kernel) rfl dX9_pour_34 ?_
      refine j_iload (pc := 37) X dX9_pour_37 5 rfl ?_
      refine j_iload (pc := 39) X dX9_pour_39 6 rfl ?_
      refine j_copyl (pc := 41) X (f2 := va_cpy (u 2) (u 1) i2 j2 m2) (ws' := [(qx, .inr (9, [.ref qy, .ref qc, .ref qp, .ref qr, .ref qm, .ref qg, .ref qu, .ref ql, .ref qf, .int (nI lt)])), kT G qy 4 (tyF tA), (tA 0, .inr (7, [.ref (nA 0), .int (b2i (ms 0)), .int (nI (so 0)), .int (nI (ln 0))])), (tA 1, .inr (7, [.ref (nA 1), .int (b2i (ms 1)), .int (nI (so 1)), .int (nI (ln 1))])), (tA 2, .inr (7, [.ref (nA 2), .int (b2i (ms 2)), .int (nI (so 2)), .int (nI (ln 2))])), (tA 3, .inr (7, [.ref (nA 3), .int (b2i (ms 3)), .int (nI (so 3)), .int (nI (ln 3))])), kJ G (nA 0) 40 (u 0), kJ G (nA 1) 40 (va_cpy (u 2) (u 1) i2 j2 m2), kJ G (nA 2) 40 (u 2), kJ G (nA 3) 40 (u 3)]) 8 7 rfl rfl (by omega) (by omega) (by decide) dX9_pour_41 (by decide +kernel) (by decide +kernel) (by decide +kernel) (by decide +kernel) (by decide) (by decide) rfl rfl ?_
      refine j_aload_n (pc := 44) X dX9_pour_44 rfl 1 rfl ?_
      refine j_iload (pc := 45) X dX9_pour_45 0 rfl ?_
      refine j_ci (pc := 47) X (ws' := [(qx, .inr (9, [.ref qy, .ref qc, .ref qp, .ref qr, .ref qm, .ref qg, .ref qu, .ref ql, .ref qf, .int (nI (poG ms so ln (nI 2) (nI i2) (nI 1) (nI j2) (nI m2)))])), kT G qy 4 (tyF tA), (tA 0, .inr (7, [.ref (nA 0), .int (b2i (ms 0)), .int (nI (so 0)), .int (nI (ln 0))])), (tA 1, .inr (7, [.ref (nA 1), .int (b2i (ms 1)), .int (nI (so 1)), .int (nI (ln 1))])), (tA 2, .inr (7, [.ref (nA 2), .int (b2i (ms 2)), .int (nI (so 2)), .int (nI (ln 2))])), (tA 3, .inr (7, [.ref (nA 3), .int (b2i (ms 3)), .int (nI (so 3)), .int (nI (ln 3))])), kJ G (nA 0) 40 (u 0), kJ G (nA 1) 40 (va_cpy (u 2) (u 1) i2 j2 m2), kJ G (nA 2) 40 (u 2), kJ G (nA 3) 40 (u 3)]) [0] rfl (j_rV X (b := qx) (As := [.int (nI (poG ms so ln (nI 2) (nI i2) (nI 1) (nI j2) (nI m2)))]) (ci := 9) (rest := []) 1 (mX9_finish l G qx qy qc qp qr qm qg qu ql qf lt (poG ms so ln (nI 2) (nI i2) (nI 1) (nI j2) (nI m2)) (by first | omega | exact Nat.lt_of_le_of_lt (poG_le _ _ _ _ _ _ _ _) (by decide))) gX9_pour_X9_finish rfl rfl rfl (by decide +kernel) ⟨Nat.le_of_ble_eq_true rfl, Nat.le_of_ble_eq_true rfl⟩ rfl rfl 0 rfl [0] rfl rfl rfl (Nat.le_of_ble_eq_true rfl) dX9_pour_47 ⟨Nat.le_of_ble_eq_true rfl, Nat.le_of_ble_eq_true rfl⟩) rfl rfl ?_
      have hs : sPour ms so ln u (nI 2) (nI i2) (nI 1) (nI j2) (nI m2) = (decide ((poG ms so ln (nI 2) (nI i2) (nI 1) (nI j2) (nI m2)) = 0), (poG ms so ln (nI 2) (nI i2) (nI 1) (nI j2) (nI m2)), va_up u 1 (va_cpy (u 2) (u 1) i2 j2 m2)) := by first | (simp [sPour, c_15]; done) | (simp [sPour, tN, cl0, cl1, cl2, cl3, c_15]; done) | (simp [sPour, tN, cl0, cl1, cl2, cl3, hq_k, c_15]; done) | (simp [sPour, tN, cl0, cl1, cl2, cl3, hq_k, hq_m, c_15]; done) | (simp [sPour, tN, cl0, cl1, cl2, cl3, hq_k, hq_m, hq_i, c_15]; done)
      refine j_zret (pc := 50) X (b2i_nar _) dX9_pour_50 ?_
      rw [hs]; exact ⟨rfl, rfl⟩
    · skip
      refine j_aload_n (pc := 18) X dX9_pour_18 rfl 1 rfl ?_
      refine j_get (pc := 19) X 9 i_X9 0 rfl rfl 0 (by decide) (by decide +kernel) rfl dX9_pour_19 ?_
      refine j_iload_n (pc := 22) X dX9_pour_22 rfl 2 rfl ?_
      refine j_aldq (pc := 23) X 1 rfl (vp_in_nI (by omega) (by omega)) (v := tA 2) ((congrArg (tyF tA) (nI_clamp (by decide))).trans rfl) dX9_pour_23 ?_
      refine j_getN (pc := 24) X 7 i_X7 4 rfl rfl 0 (by decide) (by decide +kernel) rfl dX9_pour_24 ?_
      refine j_iload_n (pc := 27) X dX9_pour_27 rfl 3 rfl ?_
      refine j_aload_n (pc := 28) X dX9_pour_28 rfl 1 rfl ?_
      refine j_get (pc := 29) X 9 i_X9 0 rfl rfl 0 (by decide) (by decide +kernel) rfl dX9_pour_29 ?_
      refine j_iload_n (pc := 32) X dX9_pour_32 rfl 4 rfl ?_
      refine j_aldq (pc := 33) X 1 rfl (vp_in_nI (by omega) (by omega)) (v := tA 2) ((congrArg (tyF tA) (nI_clamp (by decide))).trans rfl) dX9_pour_33 ?_
      refine j_getN (pc := 34) X 7 i_X7 4 rfl rfl 0 (by decide) (by decide +kernel) rfl dX9_pour_34 ?_
      refine j_iload (pc := 37) X dX9_pour_37 5 rfl ?_
      refine j_iload (pc := 39) X dX9_pour_39 6 rfl ?_
      refine j_copyl (pc := 41) X (f2 := va_cpy (u 2) (u 2) i2 j2 m2) (ws' := [(qx, .inr (9, [.ref qy, .ref qc, .ref qp, .ref qr, .ref qm, .ref qg, .ref qu, .ref ql, .ref qf, .int (nI lt)])), kT G qy 4 (tyF tA), (tA 0, .inr (7, [.ref (nA 0), .int (b2i (ms 0)), .int (nI (so 0)), .int (nI (ln 0))])), (tA 1, .inr (7, [.ref (nA 1), .int (b2i (ms 1)), .int (nI (so 1)), .int (nI (ln 1))])), (tA 2, .inr (7, [.ref (nA 2), .int (b2i (ms 2)), .int (nI (so 2)), .int (nI (ln 2))])), (tA 3, .inr (7, [.ref (nA 3), .int (b2i (ms 3)), .int (nI (so 3)), .int (nI (ln 3))])), kJ G (nA 0) 40 (u 0), kJ G (nA 1) 40 (u 1), kJ G (nA 2) 40 (va_cpy (u 2) (u 2) i2 j2 m2), kJ G (nA 3) 40 (u 3)]) 8 8 rfl rfl (by omega) (by omega) (by decide) dX9_pour_41 (by decide +kernel) (by decide +kernel) (by decide +kernel) (by decide +kernel) (by decide) (by decide) rfl rfl ?_
      refine j_aload_n (pc := 44) X dX9_pour_44 rfl 1 rfl ?_
      refine j_iload (pc := 45) X dX9_pour_45 0 rfl ?_
      refine j_ci (pc := 47) X (ws' := [(qx, .inr (9, [.ref qy, .ref qc, .ref qp, .ref qr, .ref qm, .ref qg, .ref qu, .ref ql, .ref qf, .int (nI (poG ms so ln (nI 2) (nI i2) (nI 2) (nI j2) (nI m2)))])), kT G qy 4 (tyF tA), (tA 0, .inr (7, [.ref (nA 0), .int (b2i (ms 0)), .int (nI (so 0)), .int (nI (ln 0))])), (tA 1, .inr (7, [.ref (nA 1), .int (b2i (ms 1)), .int (nI (so 1)), .int (nI (ln 1))])), (tA 2, .inr (7, [.ref (nA 2), .int (b2i (ms 2)), .int (nI (so 2)), .int (nI (ln 2))])), (tA 3, .inr (7, [.ref (nA 3), .int (b2i (ms 3)), .int (nI (so 3)), .int (nI (ln 3))])), kJ G (nA 0) 40 (u 0), kJ G (nA 1) 40 (u 1), kJ G (nA 2) 40 (va_cpy (u 2) (u 2) i2 j2 m2), kJ G (nA 3) 40 (u 3)]) [0] rfl (j_rV X (b := qx) (As := [.int (nI (poG ms so ln (nI 2) (nI i2) (nI 2) (nI j2) (nI m2)))]) (ci := 9) (rest := []) 1 (mX9_finish l G qx qy qc qp qr qm qg qu ql qf lt (poG ms so ln (nI 2) (nI i2) (nI 2) (nI j2) (nI m2)) (by first | omega | exact Nat.lt_of_le_of_lt (poG_le _ _ _ _ _ _ _ _) (by decide))) gX9_pour_X9_finish rfl rfl rfl (by decide +kernel) ⟨Nat.le_of_ble_eq_true rfl, Nat.le_of_ble_eq_true rfl⟩ rfl rfl 0 rfl [0] rfl rfl rfl (Nat.le_of_ble_eq_true rfl) dX9_pour_47 ⟨Nat.le_of_ble_eq_true rfl, Nat.le_of_ble_eq_true rfl⟩) rfl rfl ?_
      have hs : sPour ms so ln u (nI 2) (nI i2) (nI 2) (nI j2) (nI m2) = (decide ((poG ms so ln (nI 2) (nI i2) (nI 2) (nI j2) (nI m2)) = 0), (poG ms so ln (nI 2) (nI i2) (nI 2) (nI j2) (nI m2)), va_up u 2 (va_cpy (u 2) (u 2) i2 j2 m2)) := by first | (simp [sPour, c_15]; done) | (simp [sPour, tN, cl0, cl1, cl2, cl3, c_15]; done) | (simp [sPour, tN, cl0, cl1, cl2, cl3, hq_k, c_15]; done) | (simp [sPour, tN, cl0, cl1, cl2, cl3, hq_k, hq_m, c_15]; done) | (simp [sPour, tN, cl0, cl1, cl2, cl3, hq_k, hq_m, hq_i, c_15]; done)
      refine j_zret (pc := 50) X (b2i_nar _) dX9_pour_50 ?_
      rw [hs]; exact ⟨rfl, rfl⟩
    · skip
      refine j_aload_n (pc := 18) X dX9_pour_18 rfl 1 rfl ?_
      refine j_get (pc := 19) X 9 i_X9 0 rfl rfl 0 (by decide) (by decide +kernel) rfl dX9_pour_19 ?_
      refine j_iload_n (pc := 22) X dX9_pour_22 rfl 2 rfl ?_
      refine j_aldq (pc := 23) X 1 rfl (vp_in_nI (by omega) (by omega)) (v := tA 2) ((congrArg (tyF tA) (nI_clamp (by decide))).trans rfl) dX9_pour_23 ?_
      refine j_getN (pc := 24) X 7 i_X7 4 rfl rfl 0 (by decide) (by decide +kernel) rfl dX9_pour_24 ?_
      refine j_iload_n (pc := 27) X dX9_pour_27 rfl 3 rfl ?_
      refine j_aload_n (pc := 28) X dX9_pour_28 rfl 1 rfl ?_
      refine j_get (pc := 29) X 9 i_X9 0 rfl rfl 0 (by decide) (by decide +kernel) rfl dX9_pour_29 ?_
      refine j_iload_n (pc := 32) X dX9_pour_32 rfl 4 rfl ?_
      refine j_aldq (pc := 33) X 1 rfl (vp_in_nI (by omega) (by omega)) (v := tA 3) ((congrArg (tyF tA) (nI_clamp (by decide))).trans rfl) dX9_pour_33 ?_
      refine j_getN (pc := 34) X 7 i_X7 5 rfl rfl 0 (by decide) (by decide +kernel) rfl dX9_pour_34 ?_
      refine j_iload (pc := 37) X dX9_pour_37 5 rfl ?_
      refine j_iload (pc := 39) X dX9_pour_39 6 rfl ?_
      refine j_copyl (pc := 41) X (f2 := va_cpy (u 2) (u 3) i2 j2 m2) (ws' := [(qx, .inr (9, [.ref qy, .ref qc, .ref qp, .ref qr, .ref qm, .ref qg, .ref qu, .ref ql, .ref qf, .int (nI lt)])), kT G qy 4 (tyF tA), (tA 0, .inr (7, [.ref (nA 0), .int (b2i (ms 0)), .int (nI (so 0)), .int (nI (ln 0))])), (tA 1, .inr (7, [.ref (nA 1), .int (b2i (ms 1)), .int (nI (so 1)), .int (nI (ln 1))])), (tA 2, .inr (7, [.ref (nA 2), .int (b2i (ms 2)), .int (nI (so 2)), .int (nI (ln 2))])), (tA 3, .inr (7, [.ref (nA 3), .int (b2i (ms 3)), .int (nI (so 3)), .int (nI (ln 3))])), kJ G (nA 0) 40 (u 0), kJ G (nA 1) 40 (u 1), kJ G (nA 2) 40 (u 2), kJ G (nA 3) 40 (va_cpy (u 2) (u 3) i2 j2 m2)]) 8 9 rfl rfl (by omega) (by omega) (by decide) dX9_pour_41 (by decide +kernel) (by decide +kernel) (by decide +kernel) (by decide +kernel) (by decide) (by decide) rfl rfl ?_
      refine j_aload_n (pc := 44) X dX9_pour_44 rfl 1 rfl ?_
      refine j_iload (pc := 45) X dX9_pour_45 0 rfl ?_
      refine j_ci (pc := 47) X (ws' := [(qx, .inr (9, [.ref qy, .ref qc, .ref qp, .ref qr, .ref qm, .ref qg, .ref qu, .ref ql, .ref qf, .int (nI (poG ms so ln (nI 2) (nI i2) (nI 3) (nI j2) (nI m2)))])), kT G qy 4 (tyF tA), (tA 0, .inr (7, [.ref (nA 0), .int (b2i (ms 0)), .int (nI (so 0)), .int (nI (ln 0))])), (tA 1, .inr (7, [.ref (nA 1), .int (b2i (ms 1)), .int (nI (so 1)), .int (nI (ln 1))])), (tA 2, .inr (7, [.ref (nA 2), .int (b2i (ms 2)), .int (nI (so 2)), .int (nI (ln 2))])), (tA 3, .inr (7, [.ref (nA 3), .int (b2i (ms 3)), .int (nI (so 3)), .int (nI (ln 3))])), kJ G (nA 0) 40 (u 0), kJ G (nA 1) 40 (u 1), kJ G (nA 2) 40 (u 2), kJ G (nA 3) 40 (va_cpy (u 2) (u 3) i2 j2 m2)]) [0] rfl (j_rV X (b := qx) (As := [.int (nI (poG ms so ln (nI 2) (nI i2) (nI 3) (nI j2) (nI m2)))]) (ci := 9) (rest := []) 1 (mX9_finish l G qx qy qc qp qr qm qg qu ql qf lt (poG ms so ln (nI 2) (nI i2) (nI 3) (nI j2) (nI m2)) (by first | omega | exact Nat.lt_of_le_of_lt (poG_le _ _ _ _ _ _ _ _) (by decide))) gX9_pour_X9_finish rfl rfl rfl (by decide +kernel) ⟨Nat.le_of_ble_eq_true rfl, Nat.le_of_ble_eq_true rfl⟩ rfl rfl 0 rfl [0] rfl rfl rfl (Nat.le_of_ble_eq_true rfl) dX9_pour_47 ⟨Nat.le_of_ble_eq_true rfl, Nat.le_of_ble_eq_true rfl⟩) rfl rfl ?_
      have hs : sPour ms so ln u (nI 2) (nI i2) (nI 3) (nI j2) (nI m2) = (decide ((poG ms so ln (nI 2) (nI i2) (nI 3) (nI j2) (nI m2)) = 0), (poG ms so ln (nI 2) (nI i2) (nI 3) (nI j2) (nI m2)), va_up u 3 (va_cpy (u 2) (u 3) i2 j2 m2)) := by first | (simp [sPour, c_15]; done) | (simp [sPour, tN, cl0, cl1, cl2, cl3, c_15]; done) | (simp [sPour, tN, cl0, cl1, cl2, cl3, hq_k, c_15]; done) | (simp [sPour, tN, cl0, cl1, cl2, cl3, hq_k, hq_m, c_15]; done) | (simp [sPour, tN, cl0, cl1, cl2, cl3, hq_k, hq_m, hq_i, c_15]; done)
      refine j_zret (pc := 50) X (b2i_nar _) dX9_pour_50 ?_
      rw [hs]; exact ⟨rfl, rfl⟩
    · skip
      refine j_aload_n (pc := 18) X dX9_pour_18 rfl 1 rfl ?_
      refine j_get (pc := 19) X 9 i_X9 0 rfl rfl 0 (by decide) (by decide +kernel) rfl dX9_pour_19 ?_
      refine j_iload_n (pc := 22) X dX9_pour_22 rfl 2 rfl ?_
      refine j_aldq (pc := 23) X 1 rfl (vp_in_nI (by omega) (by omega)) (v := tA 3) ((congrArg (tyF tA) (nI_clamp (by decide))).trans rfl) dX9_pour_23 ?_
      refine j_getN (pc := 24) X 7 i_X7 5 rfl rfl 0 (by decide) (by decide +kernel) rfl dX9_pour_24 ?_
      refine j_iload_n (pc := 27) X dX9_pour_27 rfl 3 rfl ?_
      refine j_aload_n (pc := 28) X dX9_pour_28 rfl 1 rfl ?_
      refine j_get (pc := 29) X 9 i_X9 0 rfl rfl 0 (by decide) (by decide +kernel) rfl dX9_pour_29 ?_
      refine j_iload_n (pc := 32) X dX9_pour_32 rfl 4 rfl ?_
      refine j_aldq (pc := 33) X 1 rfl (vp_in_nI (by omega) (by omega)) (v := tA 0) ((congrArg (tyF tA) (nI_clamp (by decide))).trans rfl) dX9_pour_33 ?_
      refine j_getN (pc := 34) X 7 i_X7 2 rfl rfl 0 (by decide) (by decide +kernel) rfl dX9_pour_34 ?_
      refine j_iload (pc := 37) X dX9_pour_37 5 rfl ?_
      refine j_iload (pc := 39) X dX9_pour_39 6 rfl ?_
      refine j_copyl (pc := 41) X (f2 := va_cpy (u 3) (u 0) i2 j2 m2) (ws' := [(qx, .inr (9, [.ref qy, .ref qc, .ref qp, .ref qr, .ref qm, .ref qg, .ref qu, .ref ql, .ref qf, .int (nI lt)])), kT G qy 4 (tyF tA), (tA 0, .inr (7, [.ref (nA 0), .int (b2i (ms 0)), .int (nI (so 0)), .int (nI (ln 0))])), (tA 1, .inr (7, [.ref (nA 1), .int (b2i (ms 1)), .int (nI (so 1)), .int (nI (ln 1))])), (tA 2, .inr (7, [.ref (nA 2), .int (b2i (ms 2)), .int (nI (so 2)), .int (nI (ln 2))])), (tA 3, .inr (7, [.ref (nA 3), .int (b2i (ms 3)), .int (nI (so 3)), .int (nI (ln 3))])), kJ G (nA 0) 40 (va_cpy (u 3) (u 0) i2 j2 m2), kJ G (nA 1) 40 (u 1), kJ G (nA 2) 40 (u 2), kJ G (nA 3) 40 (u 3)]) 9 6 rfl rfl (by omega) (by omega) (by decide) dX9_pour_41 (by decide +kernel) (by decide +kernel) (by decide +kernel) (by decide +kernel) (by decide) (by decide) rfl rfl ?_
      refine j_aload_n (pc := 44) X dX9_pour_44 rfl 1 rfl ?_
      refine j_iload (pc := 45) X dX9_pour_45 0 rfl ?_
      refine j_ci (pc := 47) X (ws' := [(qx, .inr (9, [.ref qy, .ref qc, .ref qp, .ref qr, .ref qm, .ref qg, .ref qu, .ref ql, .ref qf, .int (nI (poG ms so ln (nI 3) (nI i2) (nI 0) (nI j2) (nI m2)))])), kT G qy 4 (tyF tA), (tA 0, .inr (7, [.ref (nA 0), .int (b2i (ms 0)), .int (nI (so 0)), .int (nI (ln 0))])), (tA 1, .inr (7, [.ref (nA 1), .int (b2i (ms 1)), .int (nI (so 1)), .int (nI (ln 1))])), (tA 2, .inr (7, [.ref (nA 2), .int (b2i (ms 2)), .int (nI (so 2)), .int (nI (ln 2))])), (tA 3, .inr (7, [.ref (nA 3), .int (b2i (ms 3)), .int (nI (so 3)), .int (nI (ln 3))])), kJ G (nA 0) 40 (va_cpy (u 3) (u 0) i2 j2 m2), kJ G (nA 1) 40 (u 1), kJ G (nA 2) 40 (u 2), kJ G (nA 3) 40 (u 3)]) [0] rfl (j_rV X (b := qx) (As := [.int (nI (poG ms so ln (nI 3) (nI i2) (nI 0) (nI j2) (nI m2)))]) (ci := 9) (rest := []) 1 (mX9_finish l G qx qy qc qp qr qm qg qu ql qf lt (poG ms so ln (nI 3) (nI i2) (nI 0) (nI j2) (nI m2)) (by first | omega | exact Nat.lt_of_le_of_lt (poG_le _ _ _ _ _ _ _ _) (by decide))) gX9_pour_X9_finish rfl rfl rfl (by decide +kernel) ⟨Nat.le_of_ble_eq_true rfl, Nat.le_of_ble_eq_true rfl⟩ rfl rfl 0 rfl [0] rfl rfl rfl (Nat.le_of_ble_eq_true rfl) dX9_pour_47 ⟨Nat.le_of_ble_eq_true rfl, Nat.le_of_ble_eq_true rfl⟩) rfl rfl ?_
      have hs : sPour ms so ln u (nI 3) (nI i2) (nI 0) (nI j2) (nI m2) = (decide ((poG ms so ln (nI 3) (nI i2) (nI 0) (nI j2) (nI m2)) = 0), (poG ms so ln (nI 3) (nI i2) (nI 0) (nI j2) (nI m2)), va_up u 0 (va_cpy (u 3) (u 0) i2 j2 m2)) := by first | (simp [sPour, c_15]; done) | (simp [sPour, tN, cl0, cl1, cl2, cl3, c_15]; done) | (simp [sPour, tN, cl0, cl1, cl2, cl3, hq_k, c_15]; done) | (simp [sPour, tN, cl0, cl1, cl2, cl3, hq_k, hq_m, c_15]; done) | (simp [sPour, tN, cl0, cl1, cl2, cl3, hq_k, hq_m, hq_i, c_15]; done)
      refine j_zret (pc := 50) X (b2i_nar _) dX9_pour_50 ?_
      rw [hs]; exact ⟨rfl, rfl⟩
    · skip
      refine j_aload_n (pc := 18) X dX9_pour_18 rfl 1 rfl ?_
      refine j_get (pc := 19) X 9 i_X9 0 rfl rfl 0 (by decide) (by decide +kernel) rfl dX9_pour_19 ?_
      refine j_iload_n (pc := 22) X dX9_pour_22 rfl 2 rfl ?_
      refine j_aldq (pc := 23) X 1 rfl (vp_in_nI (by omega) (by omega)) (v := tA 3) ((congrArg (tyF tA) (nI_clamp (by decide))).trans rfl) dX9_pour_23 ?_
      refine j_getN (pc := 24) X 7 i_X7 5 rfl rfl 0 (by decide) (by decide +kernel) rfl dX9_pour_24 ?_
      refine j_iload_n (pc := 27) X dX9_pour_27 rfl 3 rfl ?_
      refine j_aload_n (pc := 28) X dX9_pour_28 rfl 1 rfl ?_
      refine j_get (pc := 29) X 9 i_X9 0 rfl rfl 0 (by decide) (by decide +kernel) rfl dX9_pour_29 ?_
      refine j_iload_n (pc := 32) X dX9_pour_32 rfl 4 rfl ?_
      refine j_aldq (pc := 33) X 1 rfl (vp_in_nI (by omega) (by omega)) (v := tA 1) ((congrArg (tyF tA) (nI_clamp (by decide))).trans rfl) dX9_pour_33 ?_
      refine j_getN (pc := 34) X 7 i_X7 3 rfl rfl 0 (by decide) (by decide +kernel) rfl dX9_pour_34 ?_
      refine j_iload (pc := 37) X dX9_pour_37 5 rfl ?_
      refine j_iload (pc := 39) X dX9_pour_39 6 rfl ?_
      refine j_copyl (pc := 41) X (f2 := va_cpy (u 3) (u 1) i2 j2 m2) (ws' := [(qx, .inr (9, [.ref qy, .ref qc, .ref qp, .ref qr, .ref qm, .ref qg, .ref qu, .ref ql, .ref qf, .int (nI lt)])), kT G qy 4 (tyF tA), (tA 0, .inr (7, [.ref (nA 0), .int (b2i (ms 0)), .int (nI (so 0)), .int (nI (ln 0))])), (tA 1, .inr (7, [.ref (nA 1), .int (b2i (ms 1)), .int (nI (so 1)), .int (nI (ln 1))])), (tA 2, .inr (7, [.ref (nA 2), .int (b2i (ms 2)), .int (nI (so 2)), .int (nI (ln 2))])), (tA 3, .inr (7, [.ref (nA 3), .int (b2i (ms 3)), .int (nI (so 3)), .int (nI (ln 3))])), kJ G (nA 0) 40 (u 0), kJ G (nA 1) 40 (va_cpy (u 3) (u 1) i2 j2 m2), kJ G (nA 2) 40 (u 2), kJ G (nA 3) 40 (u 3)]) 9 7 rfl rfl (by omega) (by omega) (by decide) dX9_pour_41 (by decide +kernel) (by decide +kernel) (by decide +kernel) (by decide +kernel) (by decide) (by decide) rfl rfl ?_
      refine j_aload_n (pc := 44) X dX9_pour_44 rfl 1 rfl ?_
      refine j_iload (pc := 45) X dX9_pour_45 0 rfl ?_
      refine j_ci (pc := 47) X (ws' := [(qx, .inr (9, [.ref qy, .ref qc, .ref qp, .ref qr, .ref qm, .ref qg, .ref qu, .ref ql, .ref qf, .int (nI (poG ms so ln (nI 3) (nI i2) (nI 1) (nI j2) (nI m2)))])), kT G qy 4 (tyF tA), (tA 0, .inr (7, [.ref (nA 0), .int (b2i (ms 0)), .int (nI (so 0)), .int (nI (ln 0))])), (tA 1, .inr (7, [.ref (nA 1), .int (b2i (ms 1)), .int (nI (so 1)), .int (nI (ln 1))])), (tA 2, .inr (7, [.ref (nA 2), .int (b2i (ms 2)), .int (nI (so 2)), .int (nI (ln 2))])), (tA 3, .inr (7, [.ref (nA 3), .int (b2i (ms 3)), .int (nI (so 3)), .int (nI (ln 3))])), kJ G (nA 0) 40 (u 0), kJ G (nA 1) 40 (va_cpy (u 3) (u 1) i2 j2 m2), kJ G (nA 2) 40 (u 2), kJ G (nA 3) 40 (u 3)]) [0] rfl (j_rV X (b := qx) (As := [.int (nI (poG ms so ln (nI 3) (nI i2) (nI 1) (nI j2) (nI m2)))]) (ci := 9) (rest := []) 1 (mX9_finish l G qx qy qc qp qr qm qg qu ql qf lt (poG ms so ln (nI 3) (nI i2) (nI 1) (nI j2) (nI m2)) (by first | omega | exact Nat.lt_of_le_of_lt (poG_le _ _ _ _ _ _ _ _) (by decide))) gX9_pour_X9_finish rfl rfl rfl (by decide +kernel) ⟨Nat.le_of_ble_eq_true rfl, Nat.le_of_ble_eq_true rfl⟩ rfl rfl 0 rfl [0] rfl rfl rfl (Nat.le_of_ble_eq_true rfl) dX9_pour_47 ⟨Nat.le_of_ble_eq_true rfl, Nat.le_of_ble_eq_true rfl⟩) rfl rfl ?_
      have hs : sPour ms so ln u (nI 3) (nI i2) (nI 1) (nI j2) (nI m2) = (decide ((poG ms so ln (nI 3) (nI i2) (nI 1) (nI j2) (nI m2)) = 0), (poG ms so ln (nI 3) (nI i2) (nI 1) (nI j2) (nI m2)), va_up u 1 (va_cpy (u 3) (u 1) i2 j2 m2)) := by first | (simp [sPour, c_15]; done) | (simp [sPour, tN, cl0, cl1, cl2, cl3, c_15]; done) | (simp [sPour, tN, cl0, cl1, cl2, cl3, hq_k, c_15]; done) | (simp [sPour, tN, cl0, cl1, cl2, cl3, hq_k, hq_m, c_15]; done) | (simp [sPour, tN, cl0, cl1, cl2, cl3, hq_k, hq_m, hq_i, c_15]; done)
      refine j_zret (pc := 50) X (b2i_nar _) dX9_pour_50 ?_
      rw [hs]; exact ⟨rfl, rfl⟩
    · skip
      refine j_aload_n (pc := 18) X dX9_pour_18 rfl 1 rfl ?_
      refine j_get (pc := 19) X 9 i_X9 0 rfl rfl 0 (by decide) (by decide +kernel) rfl dX9_pour_19 ?_
      refine j_iload_n (pc := 22) X dX9_pour_22 rfl 2 rfl ?_
      refine j_aldq (pc := 23) X 1 rfl (vp_in_nI (by omega) (by omega)) (v := tA 3) ((congrArg (tyF tA) (nI_clamp (by decide))).trans rfl) dX9_pour_23 ?_
      refine j_getN (pc := 24) X 7 i_X7 5 rfl rfl 0 (by decide) (by decide +kernel) rfl dX9_pour_24 ?_
      refine j_iload_n (pc := 27) X dX9_pour_27 rfl 3 rfl ?_
      refine j_aload_n (pc := 28) X dX9_pour_28 rfl 1 rfl ?_
      refine j_get (pc := 29) X 9 i_X9 0 rfl rfl 0 (by decide) (by decide +kernel) rfl dX9_pour_29 ?_
      refine j_iload_n (pc := 32) X dX9_pour_32 rfl 4 rfl ?_
      refine j_aldq (pc := 33) X 1 rfl (vp_in_nI (by omega) (by omega)) (v := tA 2) ((congrArg (tyF tA) (nI_clamp (by decide))).trans rfl) dX9_pour_33 ?_
      refine j_getN (pc := 34) X 7 i_X7 4 rfl rfl 0 (by decide) (by decide +kernel) rfl dX9_pour_34 ?_
      refine j_iload (pc := 37) X dX9_pour_37 5 rfl ?_
      refine j_iload (pc := 39) X dX9_pour_39 6 rfl ?_
      refine j_copyl (pc := 41) X (f2 := va_cpy (u 3) (u 2) i2 j2 m2) (ws' := [(qx, .inr (9, [.ref qy, .ref qc, .ref qp, .ref qr, .ref qm, .ref qg, .ref qu, .ref ql, .ref qf, .int (nI lt)])), kT G qy 4 (tyF tA), (tA 0, .inr (7, [.ref (nA 0), .int (b2i (ms 0)), .int (nI (so 0)), .int (nI (ln 0))])), (tA 1, .inr (7, [.ref (nA 1), .int (b2i (ms 1)), .int (nI (so 1)), .int (nI (ln 1))])), (tA 2, .inr (7, [.ref (nA 2), .int (b2i (ms 2)), .int (nI (so 2)), .int (nI (ln 2))])), (tA 3, .inr (7, [.ref (nA 3), .int (b2i (ms 3)), .int (nI (so 3)), .int (nI (ln 3))])), kJ G (nA 0) 40 (u 0), kJ G (nA 1) 40 (u 1), kJ G (nA 2) 40 (va_cpy (u 3) (u 2) i2 j2 m2), kJ G (nA 3) 40 (u 3)]) 9 8 rfl rfl (by omega) (by omega) (by decide) dX9_pour_41 (by decide +kernel) (by decide +kernel) (by decide +kernel) (by decide +kernel) (by decide) (by decide) rfl rfl ?_
      refine j_aload_n (pc := 44) X dX9_pour_44 rfl 1 rfl ?_
      refine j_iload (pc := 45) X dX9_pour_45 0 rfl ?_
      refine j_ci (pc := 47) X (ws' := [(qx, .inr (9, [.ref qy, .ref qc, .ref qp, .ref qr, .ref qm, .ref qg, .ref qu, .ref ql, .ref qf, .int (nI (poG ms so ln (nI 3) (nI i2) (nI 2) (nI j2) (nI m2)))])), kT G qy 4 (tyF tA), (tA 0, .inr (7, [.ref (nA 0), .int (b2i (ms 0)), .int (nI (so 0)), .int (nI (ln 0))])), (tA 1, .inr (7, [.ref (nA 1), .int (b2i (ms 1)), .int (nI (so 1)), .int (nI (ln 1))])), (tA 2, .inr (7, [.ref (nA 2), .int (b2i (ms 2)), .int (nI (so 2)), .int (nI (ln 2))])), (tA 3, .inr (7, [.ref (nA 3), .int (b2i (ms 3)), .int (nI (so 3)), .int (nI (ln 3))])), kJ G (nA 0) 40 (u 0), kJ G (nA 1) 40 (u 1), kJ G (nA 2) 40 (va_cpy (u 3) (u 2) i2 j2 m2), kJ G (nA 3) 40 (u 3)]) [0] rfl (j_rV X (b := qx) (As := [.int (nI (poG ms so ln (nI 3) (nI i2) (nI 2) (nI j2) (nI m2)))]) (ci := 9) (rest := []) 1 (mX9_finish l G qx qy qc qp qr qm qg qu ql qf lt (poG ms so ln (nI 3) (nI i2) (nI 2) (nI j2) (nI m2)) (by first | omega | exact Nat.lt_of_le_of_lt (poG_le _ _ _ _ _ _ _ _) (by decide))) gX9_pour_X9_finish rfl rfl rfl (by decide +kernel) ⟨Nat.le_of_ble_eq_true rfl, Nat.le_of_ble_eq_true rfl⟩ rfl rfl 0 rfl [0] rfl rfl rfl (Nat.le_of_ble_eq_true rfl) dX9_pour_47 ⟨Nat.le_of_ble_eq_true rfl, Nat.le_of_ble_eq_true rfl⟩) rfl rfl ?_
      have hs : sPour ms so ln u (nI 3) (nI i2) (nI 2) (nI j2) (nI m2) = (decide ((poG ms so ln (nI 3) (nI i2) (nI 2) (nI j2) (nI m2)) = 0), (poG ms so ln (nI 3) (nI i2) (nI 2) (nI j2) (nI m2)), va_up u 2 (va_cpy (u 3) (u 2) i2 j2 m2)) := by first | (simp [sPour, c_15]; done) | (simp [sPour, tN, cl0, cl1, cl2, cl3, c_15]; done) | (simp [sPour, tN, cl0, cl1, cl2, cl3, hq_k, c_15]; done) | (simp [sPour, tN, cl0, cl1, cl2, cl3, hq_k, hq_m, c_15]; done) | (simp [sPour, tN, cl0, cl1, cl2, cl3, hq_k, hq_m, hq_i, c_15]; done)
      refine j_zret (pc := 50) X (b2i_nar _) dX9_pour_50 ?_
      rw [hs]; exact ⟨rfl, rfl⟩
    · skip
      refine j_aload_n (pc := 18) X dX9_pour_18 rfl 1 rfl ?_
      refine j_get (pc := 19) X 9 i_X9 0 rfl rfl 0 (by decide) (by decide +kernel) rfl dX9_pour_19 ?_
      refine j_iload_n (pc := 22) X dX9_pour_22 rfl 2 rfl ?_
      refine j_aldq (pc := 23) X 1 rfl (vp_in_nI (by omega) (by omega)) (v := tA 3) ((congrArg (tyF tA) (nI_clamp (by decide))).trans rfl) dX9_pour_23 ?_
      refine j_getN (pc := 24) X 7 i_X7 5 rfl rfl 0 (by decide) (by decide +kernel) rfl dX9_pour_24 ?_
      refine j_iload_n (pc := 27) X dX9_pour_27 rfl 3 rfl ?_
      refine j_aload_n (pc := 28) X dX9_pour_28 rfl 1 rfl ?_
      refine j_get (pc := 29) X 9 i_X9 0 rfl rfl 0 (by decide) (by decide +kernel) rfl dX9_pour_29 ?_
      refine j_iload_n (pc := 32) X dX9_pour_32 rfl 4 rfl ?_
      refine j_aldq (pc := 33) X 1 rfl (vp_in_nI (by omega) (by omega)) (v := tA 3) ((congrArg (tyF tA) (nI_clamp (by decide))).trans rfl) dX9_pour_33 ?_
      refine j_getN (pc := 34) X 7 i_X7 5 rfl rfl 0 (by decide) (by decide +kernel) rfl dX9_pour_34 ?_
      refine j_iload (pc := 37) X dX9_pour_37 5 rfl ?_
      refine j_iload (pc := 39) X dX9_pour_39 6 rfl ?_
      refine j_copyl (pc := 41) X (f2 := va_cpy (u 3) (u 3) i2 j2 m2) (ws' := [(qx, .inr (9, [.ref qy, .ref qc, .ref qp, .ref qr, .ref qm, .ref qg, .ref qu, .ref ql, .ref qf, .int (nI lt)])), kT G qy 4 (tyF tA), (tA 0, .inr (7, [.ref (nA 0), .int (b2i (ms 0)), .int (nI (so 0)), .int (nI (ln 0))])), (tA 1, .inr (7, [.ref (nA 1), .int (b2i (ms 1)), .int (nI (so 1)), .int (nI (ln 1))])), (tA 2, .inr (7, [.ref (nA 2), .int (b2i (ms 2)), .int (nI (so 2)), .int (nI (ln 2))])), (tA 3, .inr (7, [.ref (nA 3), .int (b2i (ms 3)), .int (nI (so 3)), .int (nI (ln 3))])), kJ G (nA 0) 40 (u 0), kJ G (nA 1) 40 (u 1), kJ G (nA 2) 40 (u 2), kJ G (nA 3) 40 (va_cpy (u 3) (u 3) i2 j2 m2)]) 9 9 rfl rfl (by omega) (by omega) (by decide) dX9_pour_41 (by decide +kernel) (by decide +kernel) (by decide +kernel) (by decide +kernel) (by decide) (by decide) rfl rfl ?_
      refine j_aload_n (pc := 44) X dX9_pour_44 rfl 1 rfl ?_
      refine j_iload (pc := 45) X dX9_pour_45 0 rfl ?_
      refine j_ci (pc := 47) X (ws' := [(qx, .inr (9, [.ref qy, .ref qc, .ref qp, .ref qr, .ref qm, .ref qg, .ref qu, .ref ql, .ref qf, .int (nI (poG ms so ln (nI 3) (nI i2) (nI 3) (nI j2) (nI m2)))])), kT G qy 4 (tyF tA), (tA 0, .inr (7, [.ref (nA 0), .int (b2i (ms 0)), .int (nI (so 0)), .int (nI (ln 0))])), (tA 1, .inr (7, [.ref (nA 1), .int (b2i (ms 1)), .int (nI (so 1)), .int (nI (ln 1))])), (tA 2, .inr (7, [.ref (nA 2), .int (b2i (ms 2)), .int (nI (so 2)), .int (nI (ln 2))])), (tA 3, .inr (7, [.ref (nA 3), .int (b2i (ms 3)), .int (nI (so 3)), .int (nI (ln 3))])), kJ G (nA 0) 40 (u 0), kJ G (nA 1) 40 (u 1), kJ G (nA 2) 40 (u 2), kJ G (nA 3) 40 (va_cpy (u 3) (u 3) i2 j2 m2)]) [0] rfl (j_rV X (b := qx) (As := [.int (nI (poG ms so ln (nI 3) (nI i2) (nI 3) (nI j2) (nI m2)))]) (ci := 9) (rest := []) 1 (mX9_finish l G qx qy qc qp qr qm qg qu ql qf lt (poG ms so ln (nI 3) (nI i2) (nI 3) (nI j2) (nI m2)) (by first | omega | exact Nat.lt_of_le_of_lt (poG_le _ _ _ _ _ _ _ _) (by decide))) gX9_pour_X9_finish rfl rfl rfl (by decide +kernel) ⟨Nat.le_of_ble_eq_true rfl, Nat.le_of_ble_eq_true rfl⟩ rfl rfl 0 rfl [0] rfl rfl rfl (Nat.le_of_ble_eq_true rfl) dX9_pour_47 ⟨Nat.le_of_ble_eq_true rfl, Nat.le_of_ble_eq_true rfl⟩) rfl rfl ?_
      have hs : sPour ms so ln u (nI 3) (nI i2) (nI 3) (nI j2) (nI m2) = (decide ((poG ms so ln (nI 3) (nI i2) (nI 3) (nI j2) (nI m2)) = 0), (poG ms so ln (nI 3) (nI i2) (nI 3) (nI j2) (nI m2)), va_up u 3 (va_cpy (u 3) (u 3) i2 j2 m2)) := by first | (simp [sPour, c_15]; done) | (simp [sPour, tN, cl0, cl1, cl2, cl3, c_15]; done) | (simp [sPour, tN, cl0, cl1, cl2, cl3, hq_k, c_15]; done) | (simp [sPour, tN, cl0, cl1, cl2, cl3, hq_k, hq_m, c_15]; done) | (simp [sPour, tN, cl0, cl1, cl2, cl3, hq_k, hq_m, hq_i, c_15]; done)
      refine j_zret (pc := 50) X (b2i_nar _) dX9_pour_50 ?_
      rw [hs]; exact ⟨rfl, rfl⟩

set_option maxHeartbeats 4000000 in
set_option maxRecDepth 100000 in
theorem mX9_change (l : Launch) (G : jG) (qx : Nat) (qy : Nat) (qc : Nat) (qp : Nat) (qr : Nat) (qm : Nat) (qg : Nat) (qu : Nat) (ql : Nat) (qf : Nat) (lt : Nat) (qr0 : Nat) (qr1 : Nat) (qd : Nat) (fi : Option Nat) (fe : Option Nat) (qv : Nat → Nat) (tr : Nat → Option Nat) (qp0 : Nat) (qp1 : Nat) (gv : Bool) (eb : Nat → Option Nat) (qc0 : Nat) (qc1 : Nat) (qc2 : Nat) (qc3 : Nat) (el : Nat) (be : Nat) (pl : Nat → Nat) (le : Nat → Nat) (lb : Nat → Nat) (br : Nat → Bool) (x : Int32) (hel : el ≤ 12) (hbe : be ≤ 16) (hle : ∀ k, le k ≤ 100) (hlb : ∀ k, lb k ≤ 100) (hpl : ∀ k, pl k ≤ 4) (heb : ∀ k, ob 12 (eb k)) (hqv : ∀ k, qv k < 16) (htr : ∀ k, ob 16 (tr k)) (hfe : ob 12 fe) : MV l yX9_change wsX9_change ({ frames := 5, cells := 0, slots := 0, locals := 116 }) G [.ref qx, .int x] [(qx, .inr (9, [.ref qy, .ref qc, .ref qp, .ref qr, .ref qm, .ref qg, .ref qu, .ref ql, .ref qf, .int (nI lt)])), (qr, .inr (5, [.ref qr0, .ref qr1, .int (nI qd), .int (oI fi), .int (oI fe)])), kI G qr0 16 (nF qv), kI G qr1 16 (oF tr), (qp, .inr (4, [.ref qp0, .ref qp1, .int (b2i gv)])), kI G qp0 16 (oF eb), (qc, .inr (0, [.ref qc0, .ref qc1, .ref qc2, .ref qc3, .int (nI el), .int (nI be)])), kI G qc0 12 (nF pl), kI G qc1 192 (nF le), kI G qc2 192 (nF lb), kZ G qc3 192 (bF br)] (some (.int (oI ((sChange pl le lb br eb el be gv tr qv qd fi fe x).1)))) [(qx, .inr (9, [.ref qy, .ref qc, .ref qp, .ref qr, .ref qm, .ref qg, .ref qu, .ref ql, .ref qf, .int (nI ((sChange pl le lb br eb el be gv tr qv qd fi fe x).2.1))])), (qr, .inr (5, [.ref qr0, .ref qr1, .int (nI ((sChange pl le lb br eb el be gv tr qv qd fi fe x).2.2.2.2.1.2.2)), .int (oI ((sChange pl le lb br eb el be gv tr qv qd fi fe x).2.2.2.2.2.1)), .int (oI ((sChange pl le lb br eb el be gv tr qv qd fi fe x).2.2.2.2.2.2))])), kI G qr0 16 (nF ((sChange pl le lb br eb el be gv tr qv qd fi fe x).2.2.2.2.1.2.1)), kI G qr1 16 (oF ((sChange pl le lb br eb el be gv tr qv qd fi fe x).2.2.2.2.1.1)), (qp, .inr (4, [.ref qp0, .ref qp1, .int (b2i gv)])), kI G qp0 16 (oF ((sChange pl le lb br eb el be gv tr qv qd fi fe x).2.2.1)), (qc, .inr (0, [.ref qc0, .ref qc1, .ref qc2, .ref qc3, .int (nI el), .int (nI be)])), kI G qc0 12 (nF pl), kI G qc1 192 (nF le), kI G qc2 192 (nF lb), kZ G qc3 192 (bF ((sChange pl le lb br eb el be gv tr qv qd fi fe x).2.2.2.1))] := by
  refine MF.ofJ (cc := cX9_change) (maxL := 5) (ret := (some .int)) (own := RX9) (lv := [(0, .ref qx), (1, .int x)]) (by decide) rfl rfl (Nat.le_of_ble_eq_true rfl) rfl ?_
  intro κ X
  have i_X0 : ∀ w ∈ wsX00, w ∈ wsX9_change := by decide +kernel
  have i_X4 : ∀ w ∈ wsX40, w ∈ wsX9_change := by decide +kernel
  have i_X5 : ∀ w ∈ wsX50, w ∈ wsX9_change := by decide +kernel
  have i_X9 : ∀ w ∈ wsX90, w ∈ wsX9_change := by decide +kernel
  refine j_aload_n (pc := 0) X dX9_change_0 rfl 0 rfl ?_
  refine j_iload_n (pc := 1) X dX9_change_1 rfl 1 rfl ?_
  refine j_ciP (pc := 2) X [0, 6, 4, 5] rfl (j_rV X (b := qx) (As := [.int x]) (ci := 9) (rest := []) 1 (mX9_pairedFault l G qx qy qc qp qr qm qg qu ql qf lt qc0 qc1 qc2 qc3 el be qp0 qp1 gv eb x (by first | assumption | omega | exact ob_s (by omega) | exact ob_n) (by first | assumption | omega | exact ob_s (by omega) | exact ob_n)) gX9_change_X9_pairedFault rfl rfl rfl (by decide +kernel) ⟨Nat.le_of_ble_eq_true rfl, Nat.le_of_ble_eq_true rfl⟩ rfl rfl 0 rfl [0, 6, 4, 5] rfl rfl rfl (Nat.le_of_ble_eq_true rfl) dX9_change_2 ⟨Nat.le_of_ble_eq_true rfl, Nat.le_of_ble_eq_true rfl⟩) ?_
  refine j_istore_n (pc := 5) X (lv' := [(2, .int (nI (pdF be gv eb x))), (0, .ref qx), (1, .int x)]) dX9_change_5 rfl (by decide) rfl ?_
  refine j_iload_n (pc := 6) X dX9_change_6 rfl 0 rfl ?_
  refine j_ifN_eq (pc := 7) X (a := (pdF be gv eb x)) (by first | omega | (have h9 := pdF_le be gv eb x; omega)) (tgt := 16) dX9_change_7 (by decide) (fun c_7 => ?_) (fun c_7 => ?_)
  · skip
    obtain ⟨j, e, hj, rfl, hgv, hje⟩ := pdF_0 c_7 hbe; have hcj_v := nI_clamp (n := j) (by omega); have he12 := heb _ _ hje
    refine j_aload_n (pc := 16) X dX9_change_16 rfl 1 rfl ?_
    refine j_get (pc := 17) X 9 i_X9 0 rfl rfl 2 (by decide) (by decide +kernel) rfl dX9_change_17 ?_
    refine j_getN (pc := 20) X 4 i_X4 4 rfl rfl 0 (by decide) (by decide +kernel) rfl dX9_change_20 ?_
    refine j_iload_n (pc := 23) X dX9_change_23 rfl 2 rfl ?_
    refine j_iald (pc := 24) X 5 rfl (vp_in_nI (by omega) (by decide)) (v := nI e) ((congrArg (oF eb) (nI_clamp (by omega))).trans ((by show oI (eb j) = nI e; rw [hje]; rfl))) dX9_change_24 ?_
    refine j_istore_n (pc := 25) X (lv' := [(3, .int (nI e)), (2, .int (nI (pdF be gv eb (nI j)))), (0, .ref qx), (1, .int (nI j))]) dX9_change_25 rfl (by decide) rfl ?_
    refine j_aload_n (pc := 26) X dX9_change_26 rfl 2 rfl ?_
    refine j_get (pc := 27) X 9 i_X9 0 rfl rfl 3 (by decide) (by decide +kernel) rfl dX9_change_27 ?_
    refine j_aload_n (pc := 30) X dX9_change_30 rfl 2 rfl ?_
    refine j_get (pc := 31) X 9 i_X9 0 rfl rfl 1 (by decide) (by decide +kernel) rfl dX9_change_31 ?_
    refine j_aload_n (pc := 34) X dX9_change_34 rfl 2 rfl ?_
    refine j_get (pc := 35) X 9 i_X9 0 rfl rfl 2 (by decide) (by decide +kernel) rfl dX9_change_35 ?_
    refine j_iload_n (pc := 38) X dX9_change_38 rfl 3 rfl ?_
    refine j_ci (pc := 39) X (ws' := [(qx, .inr (9, [.ref qy, .ref qc, .ref qp, .ref qr, .ref qm, .ref qg, .ref qu, .ref ql, .ref qf, .int (nI lt)])), (qr, .inr (5, [.ref qr0, .ref qr1, .int (nI ((flF pl le lb br eb j el be 16 (flI tr qv j) fe).2.1.2.2)), .int (oI (some j)), .int (oI ((flF pl le lb br eb j el be 16 (flI tr qv j) fe).2.2))])), kI G qr0 16 (nF ((flF pl le lb br eb j el be 16 (flI tr qv j) fe).2.1.2.1)), kI G qr1 16 (oF ((flF pl le lb br eb j el be 16 (flI tr qv j) fe).2.1.1)), (qp, .inr (4, [.ref qp0, .ref qp1, .int (b2i gv)])), kI G qp0 16 (oF eb), (qc, .inr (0, [.ref qc0, .ref qc1, .ref qc2, .ref qc3, .int (nI el), .int (nI be)])), kI G qc0 12 (nF pl), kI G qc1 192 (nF le), kI G qc2 192 (nF lb), kZ G qc3 192 (bF br)]) [1, 2, 3, 4, 5, 6, 7, 8, 9, 10] rfl (j_rVN X (b := qr) (As := [.ref qc, .ref qp, .int (nI j)]) (ci := 5) (rest := []) 3 (mX5_findLast l G qr qr0 qr1 qd fi fe qv tr qp qp0 qp1 gv eb qc qc0 qc1 qc2 qc3 el be pl le lb br j (by first | assumption | omega | exact ob_s (by omega) | exact ob_n) (by first | assumption | omega | exact ob_s (by omega) | exact ob_n) (by first | assumption | omega | exact ob_s (by omega) | exact ob_n) (by first | assumption | omega | exact ob_s (by omega) | exact ob_n) (by first | assumption | omega | exact ob_s (by omega) | exact ob_n) (by first | assumption | omega | exact ob_s (by omega) | exact ob_n) (by first | assumption | omega | exact ob_s (by omega) | exact ob_n) (by first | assumption | omega | exact ob_s (by omega) | exact ob_n) (by first | assumption | omega | exact ob_s (by omega) | exact ob_n)) gX9_change_X5_findLast_n180 rfl rfl rfl (by decide +kernel) (by decide +kernel) (by decide +kernel) (by decide +kernel) (by decide +kernel) ⟨Nat.le_of_ble_eq_true rfl, Nat.le_of_ble_eq_true rfl⟩ rfl rfl 0 rfl [1, 2, 3, 4, 5, 6, 7, 8, 9, 10] rfl rfl rfl (Nat.le_of_ble_eq_true rfl) dX9_change_39 ⟨Nat.le_of_ble_eq_true rfl, Nat.le_of_ble_eq_true rfl⟩) rfl rfl ?_
    refine j_istore (pc := 42) X (lv' := [(4, .int (oI ((flF pl le lb br eb j el be 16 (flI tr qv j) fe).1))), (3, .int (nI e)), (2, .int (nI (pdF be gv eb (nI j)))), (0, .ref qx), (1, .int (nI j))]) dX9_change_42 (by decide) rfl ?_
    refine j_iload (pc := 44) X dX9_change_44 0 rfl ?_
    refine j_iconst (pc := 46) X (v := oI none) dX9_change_46 (by decide) ?_
    refine j_icmpZ_ne (pc := 47) X (a := ((flF pl le lb br eb j el be 16 (flI tr qv j) fe).1)) (by exact (flF_ok (pl := pl) (le := le) (lb := lb) (br := br) (eb := eb) (f0 := j) hel hbe 16 (flI tr qv j) fe ⟨ob_fil htr, nup_lt hqv (by omega), Nat.le_of_ble_eq_true rfl⟩ hfe).1.big (by decide)) (tgt := 57) dX9_change_47 (by decide) (fun c_47 => ?_) (fun c_47 => ?_)
    · skip
      obtain ⟨la, hla⟩ := Option.ne_none_iff_exists'.mp c_47; have hla16 := (flF_ok (pl := pl) (le := le) (lb := lb) (br := br) (eb := eb) (f0 := j) hel hbe 16 (flI tr qv j) fe ⟨ob_fil htr, nup_lt hqv (by omega), Nat.le_of_ble_eq_true rfl⟩ hfe).1 _ hla
      refine j_lvq (lv' := [(4, .int (nI la)), (3, .int (nI e)), (2, .int (nI (pdF be gv eb (nI j)))), (0, .ref qx), (1, .int (nI j))]) (by rw [hla] <;> rfl) ?_
      refine j_aload_n (pc := 57) X dX9_change_57 rfl 3 rfl ?_
      refine j_get (pc := 58) X 9 i_X9 0 rfl rfl 1 (by decide) (by decide +kernel) rfl dX9_change_58 ?_
      refine j_iload_n (pc := 61) X dX9_change_61 rfl 1 rfl ?_
      refine j_iload_n (pc := 62) X dX9_change_62 rfl 4 rfl ?_
      refine j_iconst (pc := 63) X (v := nI 1) dX9_change_63 (by decide) ?_
      refine j_cv (pc := 64) X (ws' := [(qx, .inr (9, [.ref qy, .ref qc, .ref qp, .ref qr, .ref qm, .ref qg, .ref qu, .ref ql, .ref qf, .int (nI lt)])), (qr, .inr (5, [.ref qr0, .ref qr1, .int (nI ((flF pl le lb br eb j el be 16 (flI tr qv j) fe).2.1.2.2)), .int (oI (some j)), .int (oI ((flF pl le lb br eb j el be 16 (flI tr qv j) fe).2.2))])), kI G qr0 16 (nF ((flF pl le lb br eb j el be 16 (flI tr qv j) fe).2.1.2.1)), kI G qr1 16 (oF ((flF pl le lb br eb j el be 16 (flI tr qv j) fe).2.1.1)), (qp, .inr (4, [.ref qp0, .ref qp1, .int (b2i gv)])), kI G qp0 16 (oF eb), (qc, .inr (0, [.ref qc0, .ref qc1, .ref qc2, .ref qc3, .int (nI el), .int (nI be)])), kI G qc0 12 (nF pl), kI G qc1 192 (nF le), kI G qc2 192 (nF lb), kZ G qc3 192 (bF (va_up br (e * 16 + j) true))]) [6, 10] rfl (j_rVN X (b := qc) (As := [.int (nI e), .int (nI j), .int (nI 1)]) (ci := 0) (rest := []) 3 (mX0_setBarred l G qc qc0 qc1 qc2 qc3 el be br e j true (by first | assumption | omega | exact ob_s (by omega) | exact ob_n) (by first | assumption | omega | exact ob_s (by omega) | exact ob_n)) gX9_change_X0_setBarred_n152 rfl rfl rfl (by decide +kernel) (by decide +kernel) (by decide +kernel) (by decide +kernel) (by decide +kernel) ⟨Nat.le_of_ble_eq_true rfl, Nat.le_of_ble_eq_true rfl⟩ rfl rfl 0 rfl [6, 10] rfl rfl rfl (Nat.le_of_ble_eq_true rfl) dX9_change_64 ⟨Nat.le_of_ble_eq_true rfl, Nat.le_of_ble_eq_true rfl⟩) rfl rfl ?_
      refine j_aload_n (pc := 67) X dX9_change_67 rfl 3 rfl ?_
      refine j_aload_n (pc := 68) X dX9_change_68 rfl 3 rfl ?_
      refine j_get (pc := 69) X 9 i_X9 0 rfl rfl 3 (by decide) (by decide +kernel) rfl dX9_change_69 ?_
      refine j_aload_n (pc := 72) X dX9_change_72 rfl 3 rfl ?_
      refine j_get (pc := 73) X 9 i_X9 0 rfl rfl 2 (by decide) (by decide +kernel) rfl dX9_change_73 ?_
      refine j_iload (pc := 76) X dX9_change_76 0 rfl ?_
      refine j_ci (pc := 78) X (ws' := [(qx, .inr (9, [.ref qy, .ref qc, .ref qp, .ref qr, .ref qm, .ref qg, .ref qu, .ref ql, .ref qf, .int (nI lt)])), (qr, .inr (5, [.ref qr0, .ref qr1, .int (nI ((flF pl le lb br eb j el be 16 (flI tr qv j) fe).2.1.2.2)), .int (oI (some j)), .int (oI ((flF pl le lb br eb j el be 16 (flI tr qv j) fe).2.2))])), kI G qr0 16 (nF ((flF pl le lb br eb j el be 16 (flI tr qv j) fe).2.1.2.1)), kI G qr1 16 (oF ((flF pl le lb br eb j el be 16 (flI tr qv j) fe).2.1.1)), (qp, .inr (4, [.ref qp0, .ref qp1, .int (b2i gv)])), kI G qp0 16 (oF ((mvF ((flF pl le lb br eb j el be 16 (flI tr qv j) fe).2.1.1) 16 eb (some la) ((flF pl le lb br eb j el be 16 (flI tr qv j) fe).2.2) 0).1)), (qc, .inr (0, [.ref qc0, .ref qc1, .ref qc2, .ref qc3, .int (nI el), .int (nI be)])), kI G qc0 12 (nF pl), kI G qc1 192 (nF le), kI G qc2 192 (nF lb), kZ G qc3 192 (bF (va_up br (e * 16 + j) true))]) [1, 3, 4, 5] rfl (j_rVN X (b := qr) (As := [.ref qp, .int (nI la)]) (ci := 5) (rest := [.ref qx]) 2 (mX5_moveAll l G qr qr0 qr1 ((flF pl le lb br eb j el be 16 (flI tr qv j) fe).2.1.2.2) (some j) ((flF pl le lb br eb j el be 16 (flI tr qv j) fe).2.2) ((flF pl le lb br eb j el be 16 (flI tr qv j) fe).2.1.1) qp qp0 qp1 gv eb la (by first | assumption | omega | exact ob_s (by omega) | exact ob_n) (by first | assumption | omega | exact ob_s (by omega) | exact ob_n) (by exact (flF_ok (pl := pl) (le := le) (lb := lb) (br := br) (eb := eb) (f0 := j) hel hbe 16 (flI tr qv j) fe ⟨ob_fil htr, nup_lt hqv (by omega), Nat.le_of_ble_eq_true rfl⟩ hfe).2.1.1) (by exact (flF_ok (pl := pl) (le := le) (lb := lb) (br := br) (eb := eb) (f0 := j) hel hbe 16 (flI tr qv j) fe ⟨ob_fil htr, nup_lt hqv (by omega), Nat.le_of_ble_eq_true rfl⟩ hfe).2.2)) gX9_change_X5_moveAll_n184 rfl rfl rfl (by decide +kernel) (by decide +kernel) (by decide +kernel) (by decide +kernel) (by decide +kernel) ⟨Nat.le_of_ble_eq_true rfl, Nat.le_of_ble_eq_true rfl⟩ rfl rfl 0 rfl [1, 3, 4, 5] rfl rfl rfl (Nat.le_of_ble_eq_true rfl) dX9_change_78 ⟨Nat.le_of_ble_eq_true rfl, Nat.le_of_ble_eq_true rfl⟩) rfl rfl ?_
      refine j_ci (pc := 81) X (ws' := [(qx, .inr (9, [.ref qy, .ref qc, .ref qp, .ref qr, .ref qm, .ref qg, .ref qu, .ref ql, .ref qf, .int (nI 0)])), (qr, .inr (5, [.ref qr0, .ref qr1, .int (nI ((flF pl le lb br eb j el be 16 (flI tr qv j) fe).2.1.2.2)), .int (oI (some j)), .int (oI ((flF pl le lb br eb j el be 16 (flI tr qv j) fe).2.2))])), kI G qr0 16 (nF ((flF pl le lb br eb j el be 16 (flI tr qv j) fe).2.1.2.1)), kI G qr1 16 (oF ((flF pl le lb br eb j el be 16 (flI tr qv j) fe).2.1.1)), (qp, .inr (4, [.ref qp0, .ref qp1, .int (b2i gv)])), kI G qp0 16 (oF ((mvF ((flF pl le lb br eb j el be 16 (flI tr qv j) fe).2.1.1) 16 eb (some la) ((flF pl le lb br eb j el be 16 (flI tr qv j) fe).2.2) 0).1)), (qc, .inr (0, [.ref qc0, .ref qc1, .ref qc2, .ref qc3, .int (nI el), .int (nI be)])), kI G qc0 12 (nF pl), kI G qc1 192 (nF le), kI G qc2 192 (nF lb), kZ G qc3 192 (bF (va_up br (e * 16 + j) true))]) [0] rfl (j_rV X (b := qx) (As := [.int (nI ((mvF ((flF pl le lb br eb j el be 16 (flI tr qv j) fe).2.1.1) 16 eb (some la) ((flF pl le lb br eb j el be 16 (flI tr qv j) fe).2.2) 0).2))]) (ci := 9) (rest := []) 1 (mX9_answered l G qx qy qc qp qr qm qg qu ql qf lt (nI ((mvF ((flF pl le lb br eb j el be 16 (flI tr qv j) fe).2.1.1) 16 eb (some la) ((flF pl le lb br eb j el be 16 (flI tr qv j) fe).2.2) 0).2)) ) gX9_change_X9_answered rfl rfl rfl (by decide +kernel) ⟨Nat.le_of_ble_eq_true rfl, Nat.le_of_ble_eq_true rfl⟩ rfl rfl 0 rfl [0] rfl rfl rfl (Nat.le_of_ble_eq_true rfl) dX9_change_81 ⟨Nat.le_of_ble_eq_true rfl, Nat.le_of_ble_eq_true rfl⟩) rfl rfl ?_
      have hs : sChange pl le lb br eb el be gv tr qv qd fi fe (nI j) = (some ((mvF ((flF pl le lb br eb j el be 16 (flI tr qv j) fe).2.1.1) 16 eb (some la) ((flF pl le lb br eb j el be 16 (flI tr qv j) fe).2.2) 0).2), 0, (mvF ((flF pl le lb br eb j el be 16 (flI tr qv j) fe).2.1.1) 16 eb (some la) ((flF pl le lb br eb j el be 16 (flI tr qv j) fe).2.2) 0).1, va_up br (e * 16 + j) true, (((flF pl le lb br eb j el be 16 (flI tr qv j) fe).2.1.1), (flF pl le lb br eb j el be 16 (flI tr qv j) fe).2.1.2.1, ((flF pl le lb br eb j el be 16 (flI tr qv j) fe).2.1.2.2)), (some j), ((flF pl le lb br eb j el be 16 (flI tr qv j) fe).2.2)) := by first | (simp [sChange, c_7, c_47]; done) | (simp [sChange, sChange1, tN, hcj_v, hje, c_7, c_47]; done) | (simp [sChange, sChange1, tN, hcj_v, hje, hla, c_7, c_47]; done)
      refine j_iret (pc := 84) X dX9_change_84 ?_
      rw [hs]; exact ⟨rfl, rfl⟩
    · skip
      refine j_aload_n (pc := 50) X dX9_change_50 rfl 3 rfl ?_
      refine j_bipush (pc := 51) X (v := nI 12) dX9_change_51 (by decide) ?_
      refine j_ci (pc := 53) X (ws' := [(qx, .inr (9, [.ref qy, .ref qc, .ref qp, .ref qr, .ref qm, .ref qg, .ref qu, .ref ql, .ref qf, .int (nI 12)])), (qr, .inr (5, [.ref qr0, .ref qr1, .int (nI ((flF pl le lb br eb j el be 16 (flI tr qv j) fe).2.1.2.2)), .int (oI (some j)), .int (oI ((flF pl le lb br eb j el be 16 (flI tr qv j) fe).2.2))])), kI G qr0 16 (nF ((flF pl le lb br eb j el be 16 (flI tr qv j) fe).2.1.2.1)), kI G qr1 16 (oF ((flF pl le lb br eb j el be 16 (flI tr qv j) fe).2.1.1)), (qp, .inr (4, [.ref qp0, .ref qp1, .int (b2i gv)])), kI G qp0 16 (oF eb), (qc, .inr (0, [.ref qc0, .ref qc1, .ref qc2, .ref qc3, .int (nI el), .int (nI be)])), kI G qc0 12 (nF pl), kI G qc1 192 (nF le), kI G qc2 192 (nF lb), kZ G qc3 192 (bF br)]) [0] rfl (j_rV X (b := qx) (As := [.int (nI 12)]) (ci := 9) (rest := []) 1 (mX9_refused l G qx qy qc qp qr qm qg qu ql qf lt 12 ) gX9_change_X9_refused rfl rfl rfl (by decide +kernel) ⟨Nat.le_of_ble_eq_true rfl, Nat.le_of_ble_eq_true rfl⟩ rfl rfl 0 rfl [0] rfl rfl rfl (Nat.le_of_ble_eq_true rfl) dX9_change_53 ⟨Nat.le_of_ble_eq_true rfl, Nat.le_of_ble_eq_true rfl⟩) rfl rfl ?_
      have hs : sChange pl le lb br eb el be gv tr qv qd fi fe (nI j) = (none, 12, eb, br, ((flF pl le lb br eb j el be 16 (flI tr qv j) fe).2.1.1, (flF pl le lb br eb j el be 16 (flI tr qv j) fe).2.1.2.1, (flF pl le lb br eb j el be 16 (flI tr qv j) fe).2.1.2.2), some j, (flF pl le lb br eb j el be 16 (flI tr qv j) fe).2.2) := by first | (simp [sChange, c_7, c_47]; done) | (simp [sChange, sChange1, tN, hcj_v, hje, c_7, c_47]; done) | (simp [sChange, sChange1, tN, hcj_v, hje, hla, c_7, c_47]; done)
      refine j_iret (pc := 56) X dX9_change_56 ?_
      rw [hs]; exact ⟨rfl, rfl⟩
  · skip
    refine j_aload_n (pc := 10) X dX9_change_10 rfl 1 rfl ?_
    refine j_iload_n (pc := 11) X dX9_change_11 rfl 0 rfl ?_
    refine j_ci (pc := 12) X (ws' := [(qx, .inr (9, [.ref qy, .ref qc, .ref qp, .ref qr, .ref qm, .ref qg, .ref qu, .ref ql, .ref qf, .int (nI (pdF be gv eb x))])), (qr, .inr (5, [.ref qr0, .ref qr1, .int (nI qd), .int (oI fi), .int (oI fe)])), kI G qr0 16 (nF qv), kI G qr1 16 (oF tr), (qp, .inr (4, [.ref qp0, .ref qp1, .int (b2i gv)])), kI G qp0 16 (oF eb), (qc, .inr (0, [.ref qc0, .ref qc1, .ref qc2, .ref qc3, .int (nI el), .int (nI be)])), kI G qc0 12 (nF pl), kI G qc1 192 (nF le), kI G qc2 192 (nF lb), kZ G qc3 192 (bF br)]) [0] rfl (j_rV X (b := qx) (As := [.int (nI (pdF be gv eb x))]) (ci := 9) (rest := []) 1 (mX9_refused l G qx qy qc qp qr qm qg qu ql qf lt (pdF be gv eb x) ) gX9_change_X9_refused rfl rfl rfl (by decide +kernel) ⟨Nat.le_of_ble_eq_true rfl, Nat.le_of_ble_eq_true rfl⟩ rfl rfl 0 rfl [0] rfl rfl rfl (Nat.le_of_ble_eq_true rfl) dX9_change_12 ⟨Nat.le_of_ble_eq_true rfl, Nat.le_of_ble_eq_true rfl⟩) rfl rfl ?_
    have hs : sChange pl le lb br eb el be gv tr qv qd fi fe x = (none, (pdF be gv eb x), eb, br, (tr, qv, qd), fi, fe) := by first | (simp [sChange, c_7]; done) | (simp [sChange, sChange1, tN, hcj_v, hje, c_7]; done) | (simp [sChange, sChange1, tN, hcj_v, hje, hla, c_7]; done)
    refine j_iret (pc := 15) X dX9_change_15 ?_
    rw [hs]; exact ⟨rfl, rfl⟩

set_option maxHeartbeats 4000000 in
set_option maxRecDepth 100000 in
theorem mX9_gain (l : Launch) (G : jG) (qx : Nat) (qy : Nat) (qc : Nat) (qp : Nat) (qr : Nat) (qm : Nat) (qg : Nat) (qu : Nat) (ql : Nat) (qf : Nat) (lt : Nat) (tA : Nat → Nat) (nA : Nat → Nat) (ms : Nat → Bool) (so : Nat → Nat) (ln : Nat → Nat) (u : Nat → Nat → Int64) (ql0 : Nat) (ql1 : Nat) (tn : Nat) (f1 : Nat → Int64) (f2 : Nat → Int64) (fa : Int64) (fb : Int64) (x : Int32) (n : Int32) (s : Int32) (hln : ∀ k, ln k ≤ 40) (hf1 : f1 0 = 0) (hf2 : f2 0 = 0) : MV l yX9_gain wsX9_gain ({ frames := 3, cells := 0, slots := 0, locals := 86 }) G [.ref qx, .int x, .int n, .int s] [(qx, .inr (9, [.ref qy, .ref qc, .ref qp, .ref qr, .ref qm, .ref qg, .ref qu, .ref ql, .ref qf, .int (nI lt)])), kT G qy 4 (tyF tA), (tA 0, .inr (7, [.ref (nA 0), .int (b2i (ms 0)), .int (nI (so 0)), .int (nI (ln 0))])), (tA 1, .inr (7, [.ref (nA 1), .int (b2i (ms 1)), .int (nI (so 1)), .int (nI (ln 1))])), (tA 2, .inr (7, [.ref (nA 2), .int (b2i (ms 2)), .int (nI (so 2)), .int (nI (ln 2))])), (tA 3, .inr (7, [.ref (nA 3), .int (b2i (ms 3)), .int (nI (so 3)), .int (nI (ln 3))])), kJ G (nA 0) 40 (u 0), kJ G (nA 1) 40 (u 1), kJ G (nA 2) 40 (u 2), kJ G (nA 3) 40 (u 3), (ql, .inr (8, [.ref ql0, .ref ql1, .int (nI tn)])), kJ G ql0 256 f1, kJ G ql1 256 f2, (qf, .inr (1, [.long fa, .long fb]))] (some (.int (b2i ((sGain ms ln u fa fb tn f1 f2 x n s).1)))) [(qx, .inr (9, [.ref qy, .ref qc, .ref qp, .ref qr, .ref qm, .ref qg, .ref qu, .ref ql, .ref qf, .int (nI ((sGain ms ln u fa fb tn f1 f2 x n s).2.1))])), kT G qy 4 (tyF tA), (tA 0, .inr (7, [.ref (nA 0), .int (b2i (ms 0)), .int (nI (so 0)), .int (nI (ln 0))])), (tA 1, .inr (7, [.ref (nA 1), .int (b2i (ms 1)), .int (nI (so 1)), .int (nI (ln 1))])), (tA 2, .inr (7, [.ref (nA 2), .int (b2i (ms 2)), .int (nI (so 2)), .int (nI (ln 2))])), (tA 3, .inr (7, [.ref (nA 3), .int (b2i (ms 3)), .int (nI (so 3)), .int (nI (ln 3))])), kJ G (nA 0) 40 (u 0), kJ G (nA 1) 40 (u 1), kJ G (nA 2) 40 (u 2), kJ G (nA 3) 40 (u 3), (ql, .inr (8, [.ref ql0, .ref ql1, .int (nI ((sGain ms ln u fa fb tn f1 f2 x n s).2.2.2.2.1))])), kJ G ql0 256 ((sGain ms ln u fa fb tn f1 f2 x n s).2.2.2.2.2.1), kJ G ql1 256 ((sGain ms ln u fa fb tn f1 f2 x n s).2.2.2.2.2.2), (qf, .inr (1, [.long ((sGain ms ln u fa fb tn f1 f2 x n s).2.2.1), .long ((sGain ms ln u fa fb tn f1 f2 x n s).2.2.2.1)]))] := by
  refine MF.ofJ (cc := cX9_gain) (maxL := 5) (ret := (some .boolean)) (own := RX9) (lv := [(0, .ref qx), (1, .int x), (2, .int n), (3, .int s)]) (by decide) rfl rfl (Nat.le_of_ble_eq_true rfl) rfl ?_
  intro κ X
  have i_X1 : ∀ w ∈ wsX10, w ∈ wsX9_gain := by decide +kernel
  have i_X7 : ∀ w ∈ wsX70, w ∈ wsX9_gain := by decide +kernel
  have i_X8 : ∀ w ∈ wsX80, w ∈ wsX9_gain := by decide +kernel
  have i_X9 : ∀ w ∈ wsX90, w ∈ wsX9_gain := by decide +kernel
  refine j_aload_n (pc := 0) X dX9_gain_0 rfl 0 rfl ?_
  refine j_iload_n (pc := 1) X dX9_gain_1 rfl 1 rfl ?_
  refine j_iload_n (pc := 2) X dX9_gain_2 rfl 2 rfl ?_
  refine j_iload_n (pc := 3) X dX9_gain_3 rfl 3 rfl ?_
  refine j_ciP (pc := 4) X [0, 1, 2, 3, 4, 5, 6, 7, 8, 9] rfl (j_rV X (b := qx) (As := [.int x, .int n, .int s]) (ci := 9) (rest := []) 3 (mX9_trialFault l G qx qy qc qp qr qm qg qu ql qf lt tA nA ms so ln u x n s (by first | assumption | omega | exact ob_s (by omega) | exact ob_n)) gX9_gain_X9_trialFault rfl rfl rfl (by decide +kernel) ⟨Nat.le_of_ble_eq_true rfl, Nat.le_of_ble_eq_true rfl⟩ rfl rfl 0 rfl [0, 1, 2, 3, 4, 5, 6, 7, 8, 9] rfl rfl rfl (Nat.le_of_ble_eq_true rfl) dX9_gain_4 ⟨Nat.le_of_ble_eq_true rfl, Nat.le_of_ble_eq_true rfl⟩) ?_
  refine j_istore (pc := 7) X (lv' := [(4, .int (nI (trF ms ln u x n s))), (0, .ref qx), (1, .int x), (2, .int n), (3, .int s)]) dX9_gain_7 (by decide) rfl ?_
  refine j_iload (pc := 9) X dX9_gain_9 0 rfl ?_
  refine j_ifN_ne (pc := 11) X (a := (trF ms ln u x n s)) (by first | omega | exact Nat.lt_of_le_of_lt (trF_le _ _ _ _ _ _) (by decide)) (tgt := 40) dX9_gain_11 (by decide) (fun c_11 => ?_) (fun c_11 => ?_)
  · skip
    refine j_aload_n (pc := 40) X dX9_gain_40 rfl 1 rfl ?_
    refine j_iload (pc := 41) X dX9_gain_41 0 rfl ?_
    refine j_ci (pc := 43) X (ws' := [(qx, .inr (9, [.ref qy, .ref qc, .ref qp, .ref qr, .ref qm, .ref qg, .ref qu, .ref ql, .ref qf, .int (nI (trF ms ln u x n s))])), kT G qy 4 (tyF tA), (tA 0, .inr (7, [.ref (nA 0), .int (b2i (ms 0)), .int (nI (so 0)), .int (nI (ln 0))])), (tA 1, .inr (7, [.ref (nA 1), .int (b2i (ms 1)), .int (nI (so 1)), .int (nI (ln 1))])), (tA 2, .inr (7, [.ref (nA 2), .int (b2i (ms 2)), .int (nI (so 2)), .int (nI (ln 2))])), (tA 3, .inr (7, [.ref (nA 3), .int (b2i (ms 3)), .int (nI (so 3)), .int (nI (ln 3))])), kJ G (nA 0) 40 (u 0), kJ G (nA 1) 40 (u 1), kJ G (nA 2) 40 (u 2), kJ G (nA 3) 40 (u 3), (ql, .inr (8, [.ref ql0, .ref ql1, .int (nI tn)])), kJ G ql0 256 f1, kJ G ql1 256 f2, (qf, .inr (1, [.long fa, .long fb]))]) [0] rfl (j_rV X (b := qx) (As := [.int (nI (trF ms ln u x n s))]) (ci := 9) (rest := []) 1 (mX9_finish l G qx qy qc qp qr qm qg qu ql qf lt (trF ms ln u x n s) (by first | omega | exact Nat.lt_of_le_of_lt (trF_le _ _ _ _ _ _) (by decide))) gX9_gain_X9_finish rfl rfl rfl (by decide +kernel) ⟨Nat.le_of_ble_eq_true rfl, Nat.le_of_ble_eq_true rfl⟩ rfl rfl 0 rfl [0] rfl rfl rfl (Nat.le_of_ble_eq_true rfl) dX9_gain_43 ⟨Nat.le_of_ble_eq_true rfl, Nat.le_of_ble_eq_true rfl⟩) rfl rfl ?_
    have hs : sGain ms ln u fa fb tn f1 f2 x n s = (decide ((trF ms ln u x n s) = 0), (trF ms ln u x n s), fa, fb, tn, f1, f2) := by first | (simp [sGain, c_11]; done) | (simp [sGain, tN, cl0, cl1, cl2, cl3, hq_k, hq_m, c_11, gnX, gnK]; done)
    refine j_zret (pc := 46) X (b2i_nar _) dX9_gain_46 ?_
    rw [hs]; exact ⟨rfl, rfl⟩
  · skip
    obtain ⟨j, m, t, hj, rfl, hms, hm2, hm16, rfl, hmln, ht0, ht, rfl, hou⟩ := trF_0 hln c_11; have hp16 := two_pow_le hm16; have hq_k := nI_clamp (n := m) (by omega); have hq_m := nI_clamp (n := t) (by omega); have hgn := gn_ok hm16 hou ht0 ht; rcases (by omega : j = 0 ∨ j = 1 ∨ j = 2 ∨ j = 3) with rfl | rfl | rfl | rfl
    · skip
      refine j_aload_n (pc := 14) X dX9_gain_14 rfl 1 rfl ?_
      refine j_get (pc := 15) X 9 i_X9 0 rfl rfl 7 (by decide) (by decide +kernel) rfl dX9_gain_15 ?_
      refine j_aload_n (pc := 18) X dX9_gain_18 rfl 1 rfl ?_
      refine j_get (pc := 19) X 9 i_X9 0 rfl rfl 0 (by decide) (by decide +kernel) rfl dX9_gain_19 ?_
      refine j_iload_n (pc := 22) X dX9_gain_22 rfl 2 rfl ?_
      refine j_aldq (pc := 23) X 1 rfl (vp_in_nI (by omega) (by omega)) (v := tA 0) ((congrArg (tyF tA) (nI_clamp (by decide))).trans rfl) dX9_gain_23 ?_
      refine j_iload_n (pc := 24) X dX9_gain_24 rfl 3 rfl ?_
      refine j_cv (pc := 25) X (ws' := [(qx, .inr (9, [.ref qy, .ref qc, .ref qp, .ref qr, .ref qm, .ref qg, .ref qu, .ref ql, .ref qf, .int (nI lt)])), kT G qy 4 (tyF tA), ((tA 0), .inr (7, [.ref (nA 0), .int (b2i (ms 0)), .int (nI (so 0)), .int (nI (ln 0))])), (tA 1, .inr (7, [.ref (nA 1), .int (b2i (ms 1)), .int (nI (so 1)), .int (nI (ln 1))])), (tA 2, .inr (7, [.ref (nA 2), .int (b2i (ms 2)), .int (nI (so 2)), .int (nI (ln 2))])), (tA 3, .inr (7, [.ref (nA 3), .int (b2i (ms 3)), .int (nI (so 3)), .int (nI (ln 3))])), kJ G (nA 0) 40 (u 0), kJ G (nA 1) 40 (u 1), kJ G (nA 2) 40 (u 2), kJ G (nA 3) 40 (u 3), (ql, .inr (8, [.ref ql0, .ref ql1, .int (nI m)])), kJ G ql0 256 (pf (lsm (u 0) m 0) f1 256), kJ G ql1 256 (pf (lsm (u 0) m 8) f2 256), (qf, .inr (1, [.long fa, .long fb]))]) [10, 11, 12, 2, 6] rfl (j_rVN X (b := ql) (As := [.ref (tA 0), .int (nI m)]) (ci := 8) (rest := []) 2 (mX8_lay l G ql ql0 ql1 tn f1 f2 (tA 0) (nA 0) (ms 0) (so 0) (ln 0) (u 0) m (by first | assumption | omega | exact ob_s (by omega) | exact ob_n) (by first | assumption | omega | exact ob_s (by omega) | exact ob_n) (by first | assumption | omega | exact ob_s (by omega) | exact ob_n)) gX9_gain_X8_lay_n250 rfl rfl rfl (by decide +kernel) (by decide +kernel) (by decide +kernel) (by decide +kernel) (by decide +kernel) ⟨Nat.le_of_ble_eq_true rfl, Nat.le_of_ble_eq_true rfl⟩ rfl rfl 0 rfl [10, 11, 12, 2, 6] rfl rfl rfl (Nat.le_of_ble_eq_true rfl) dX9_gain_25 ⟨Nat.le_of_ble_eq_true rfl, Nat.le_of_ble_eq_true rfl⟩) rfl rfl ?_
      refine j_aload_n (pc := 28) X dX9_gain_28 rfl 1 rfl ?_
      refine j_get (pc := 29) X 9 i_X9 0 rfl rfl 7 (by decide) (by decide +kernel) rfl dX9_gain_29 ?_
      refine j_iload_n (pc := 32) X dX9_gain_32 rfl 4 rfl ?_
      refine j_aload_n (pc := 33) X dX9_gain_33 rfl 1 rfl ?_
      refine j_get (pc := 34) X 9 i_X9 0 rfl rfl 8 (by decide) (by decide +kernel) rfl dX9_gain_34 ?_
      refine j_cv (pc := 37) X (ws' := [(qx, .inr (9, [.ref qy, .ref qc, .ref qp, .ref qr, .ref qm, .ref qg, .ref qu, .ref ql, .ref qf, .int (nI lt)])), kT G qy 4 (tyF tA), ((tA 0), .inr (7, [.ref (nA 0), .int (b2i (ms 0)), .int (nI (so 0)), .int (nI (ln 0))])), (tA 1, .inr (7, [.ref (nA 1), .int (b2i (ms 1)), .int (nI (so 1)), .int (nI (ln 1))])), (tA 2, .inr (7, [.ref (nA 2), .int (b2i (ms 2)), .int (nI (so 2)), .int (nI (ln 2))])), (tA 3, .inr (7, [.ref (nA 3), .int (b2i (ms 3)), .int (nI (so 3)), .int (nI (ln 3))])), kJ G (nA 0) 40 (u 0), kJ G (nA 1) 40 (u 1), kJ G (nA 2) 40 (u 2), kJ G (nA 3) 40 (u 3), (ql, .inr (8, [.ref ql0, .ref ql1, .int (nI m)])), kJ G ql0 256 (pf (lsm (u 0) m 0) f1 256), kJ G ql1 256 (pf (lsm (u 0) m 8) f2 256), (qf, .inr (1, [.long ((lN (wsm (u 0) t m) * lN (m - (pcn t 16)) - lN ((wsm (u 0) (2 ^ m - 1) m) - (wsm (u 0) t m)) * lN (pcn t 16)) / lN (gdl (lN (wsm (u 0) t m) * lN (m - (pcn t 16)) - lN ((wsm (u 0) (2 ^ m - 1) m) - (wsm (u 0) t m)) * lN (pcn t 16)) ((pcn t 16) * (m - (pcn t 16))))), .long (lN ((pcn t 16) * (m - (pcn t 16))) / lN (gdl (lN (wsm (u 0) t m) * lN (m - (pcn t 16)) - lN ((wsm (u 0) (2 ^ m - 1) m) - (wsm (u 0) t m)) * lN (pcn t 16)) ((pcn t 16) * (m - (pcn t 16)))))]))]) [10, 11, 12, 13] rfl (j_rVN X (b := ql) (As := [.int (nI t), .ref qf]) (ci := 8) (rest := []) 2 (mX8_gainOf l G ql ql0 ql1 m (pf (lsm (u 0) m 0) f1 256) (pf (lsm (u 0) m 8) f2 256) qf fa fb t (pcn t 16) (wsm (u 0) t m) (wsm (u 0) (2 ^ m - 1) m) (by first | assumption | omega | exact ob_s (by omega) | exact ob_n) (by first | assumption | omega | exact ob_s (by omega) | exact ob_n) (by exact hgn.1) (by exact hgn.2.1) (by exact hgn.2.2.1) (by exact sm2_eq hm16 hou) (by exact sm2_eq hm16 hou) (by exact hgn.2.2.2.1) (by exact hgn.2.2.2.2)) gX9_gain_X8_gainOf_n254 rfl rfl rfl (by decide +kernel) (by decide +kernel) (by decide +kernel) (by decide +kernel) (by decide +kernel) ⟨Nat.le_of_ble_eq_true rfl, Nat.le_of_ble_eq_true rfl⟩ rfl rfl 0 rfl [10, 11, 12, 13] rfl rfl rfl (Nat.le_of_ble_eq_true rfl) dX9_gain_37 ⟨Nat.le_of_ble_eq_true rfl, Nat.le_of_ble_eq_true rfl⟩) rfl rfl ?_
      refine j_aload_n (pc := 40) X dX9_gain_40 rfl 1 rfl ?_
      refine j_iload (pc := 41) X dX9_gain_41 0 rfl ?_
      refine j_ci (pc := 43) X (ws' := [(qx, .inr (9, [.ref qy, .ref qc, .ref qp, .ref qr, .ref qm, .ref qg, .ref qu, .ref ql, .ref qf, .int (nI (trF ms ln u (nI 0) (nI m) (nI t)))])), kT G qy 4 (tyF tA), ((tA 0), .inr (7, [.ref (nA 0), .int (b2i (ms 0)), .int (nI (so 0)), .int (nI (ln 0))])), (tA 1, .inr (7, [.ref (nA 1), .int (b2i (ms 1)), .int (nI (so 1)), .int (nI (ln 1))])), (tA 2, .inr (7, [.ref (nA 2), .int (b2i (ms 2)), .int (nI (so 2)), .int (nI (ln 2))])), (tA 3, .inr (7, [.ref (nA 3), .int (b2i (ms 3)), .int (nI (so 3)), .int (nI (ln 3))])), kJ G (nA 0) 40 (u 0), kJ G (nA 1) 40 (u 1), kJ G (nA 2) 40 (u 2), kJ G (nA 3) 40 (u 3), (ql, .inr (8, [.ref ql0, .ref ql1, .int (nI m)])), kJ G ql0 256 (pf (lsm (u 0) m 0) f1 256), kJ G ql1 256 (pf (lsm (u 0) m 8) f2 256), (qf, .inr (1, [.long ((lN (wsm (u 0) t m) * lN (m - (pcn t 16)) - lN ((wsm (u 0) (2 ^ m - 1) m) - (wsm (u 0) t m)) * lN (pcn t 16)) / lN (gdl (lN (wsm (u 0) t m) * lN (m - (pcn t 16)) - lN ((wsm (u 0) (2 ^ m - 1) m) - (wsm (u 0) t m)) * lN (pcn t 16)) ((pcn t 16) * (m - (pcn t 16))))), .long (lN ((pcn t 16) * (m - (pcn t 16))) / lN (gdl (lN (wsm (u 0) t m) * lN (m - (pcn t 16)) - lN ((wsm (u 0) (2 ^ m - 1) m) - (wsm (u 0) t m)) * lN (pcn t 16)) ((pcn t 16) * (m - (pcn t 16)))))]))]) [0] rfl (j_rV X (b := qx) (As := [.int (nI (trF ms ln u (nI 0) (nI m) (nI t)))]) (ci := 9) (rest := []) 1 (mX9_finish l G qx qy qc qp qr qm qg qu ql qf lt (trF ms ln u (nI 0) (nI m) (nI t)) (by first | omega | exact Nat.lt_of_le_of_lt (trF_le _ _ _ _ _ _) (by decide))) gX9_gain_X9_finish rfl rfl rfl (by decide +kernel) ⟨Nat.le_of_ble_eq_true rfl, Nat.le_of_ble_eq_true rfl⟩ rfl rfl 0 rfl [0] rfl rfl rfl (Nat.le_of_ble_eq_true rfl) dX9_gain_43 ⟨Nat.le_of_ble_eq_true rfl, Nat.le_of_ble_eq_true rfl⟩) rfl rfl ?_
      have hs : sGain ms ln u fa fb tn f1 f2 (nI 0) (nI m) (nI t) = (decide ((trF ms ln u (nI 0) (nI m) (nI t)) = 0), (trF ms ln u (nI 0) (nI m) (nI t)), (lN (wsm (u 0) t m) * lN (m - (pcn t 16)) - lN ((wsm (u 0) (2 ^ m - 1) m) - (wsm (u 0) t m)) * lN (pcn t 16)) / lN (gdl (lN (wsm (u 0) t m) * lN (m - (pcn t 16)) - lN ((wsm (u 0) (2 ^ m - 1) m) - (wsm (u 0) t m)) * lN (pcn t 16)) ((pcn t 16) * (m - (pcn t 16)))), lN ((pcn t 16) * (m - (pcn t 16))) / lN (gdl (lN (wsm (u 0) t m) * lN (m - (pcn t 16)) - lN ((wsm (u 0) (2 ^ m - 1) m) - (wsm (u 0) t m)) * lN (pcn t 16)) ((pcn t 16) * (m - (pcn t 16)))), m, (pf (lsm (u 0) m 0) f1 256), (pf (lsm (u 0) m 8) f2 256)) := by first | (simp [sGain, c_11]; done) | (simp [sGain, tN, cl0, cl1, cl2, cl3, hq_k, hq_m, c_11, gnX, gnK]; done)
      refine j_zret (pc := 46) X (b2i_nar _) dX9_gain_46 ?_
      rw [hs]; exact ⟨rfl, rfl⟩
    · skip
      refine j_aload_n (pc := 14) X dX9_gain_14 rfl 1 rfl ?_
      refine j_get (pc := 15) X 9 i_X9 0 rfl rfl 7 (by decide) (by decide +kernel) rfl dX9_gain_15 ?_
      refine j_aload_n (pc := 18) X dX9_gain_18 rfl 1 rfl ?_
      refine j_get (pc := 19) X 9 i_X9 0 rfl rfl 0 (by decide) (by decide +kernel) rfl dX9_gain_19 ?_
      refine j_iload_n (pc := 22) X dX9_gain_22 rfl 2 rfl ?_
      refine j_aldq (pc := 23) X 1 rfl (vp_in_nI (by omega) (by omega)) (v := tA 1) ((congrArg (tyF tA) (nI_clamp (by decide))).trans rfl) dX9_gain_23 ?_
      refine j_iload_n (pc := 24) X dX9_gain_24 rfl 3 rfl ?_
      refine j_cv (pc := 25) X (ws' := [(qx, .inr (9, [.ref qy, .ref qc, .ref qp, .ref qr, .ref qm, .ref qg, .ref qu, .ref ql, .ref qf, .int (nI lt)])), kT G qy 4 (tyF tA), (tA 0, .inr (7, [.ref (nA 0), .int (b2i (ms 0)), .int (nI (so 0)), .int (nI (ln 0))])), ((tA 1), .inr (7, [.ref (nA 1), .int (b2i (ms 1)), .int (nI (so 1)), .int (nI (ln 1))])), (tA 2, .inr (7, [.ref (nA 2), .int (b2i (ms 2)), .int (nI (so 2)), .int (nI (ln 2))])), (tA 3, .inr (7, [.ref (nA 3), .int (b2i (ms 3)), .int (nI (so 3)), .int (nI (ln 3))])), kJ G (nA 0) 40 (u 0), kJ G (nA 1) 40 (u 1), kJ G (nA 2) 40 (u 2), kJ G (nA 3) 40 (u 3), (ql, .inr (8, [.ref ql0, .ref ql1, .int (nI m)])), kJ G ql0 256 (pf (lsm (u 1) m 0) f1 256), kJ G ql1 256 (pf (lsm (u 1) m 8) f2 256), (qf, .inr (1, [.long fa, .long fb]))]) [10, 11, 12, 3, 7] rfl (j_rVN X (b := ql) (As := [.ref (tA 1), .int (nI m)]) (ci := 8) (rest := []) 2 (mX8_lay l G ql ql0 ql1 tn f1 f2 (tA 1) (nA 1) (ms 1) (so 1) (ln 1) (u 1) m (by first | assumption | omega | exact ob_s (by omega) | exact ob_n) (by first | assumption | omega | exact ob_s (by omega) | exact ob_n) (by first | assumption | omega | exact ob_s (by omega) | exact ob_n)) gX9_gain_X8_lay_n250 rfl rfl rfl (by decide +kernel) (by decide +kernel) (by decide +kernel) (by decide +kernel) (by decide +kernel) ⟨Nat.le_of_ble_eq_true rfl, Nat.le_of_ble_eq_true rfl⟩ rfl rfl 0 rfl [10, 11, 12, 3, 7] rfl rfl rfl (Nat.le_of_ble_eq_true rfl) dX9_gain_25 ⟨Nat.le_of_ble_eq_true rfl, Nat.le_of_ble_eq_true rfl⟩) rfl rfl ?_
      refine j_aload_n (pc := 28) X dX9_gain_28 rfl 1 rfl ?_
      refine j_get (pc := 29) X 9 i_X9 0 rfl rfl 7 (by decide) (by decide +kernel) rfl dX9_gain_29 ?_
      refine j_iload_n (pc := 32) X dX9_gain_32 rfl 4 rfl ?_
      refine j_aload_n (pc := 33) X dX9_gain_33 rfl 1 rfl ?_
      refine j_get (pc := 34) X 9 i_X9 0 rfl rfl 8 (by decide) (by decide +kernel) rfl dX9_gain_34 ?_
      refine j_cv (pc := 37) X (ws' := [(qx, .inr (9, [.ref qy, .ref qc, .ref qp, .ref qr, .ref qm, .ref qg, .ref qu, .ref ql, .ref qf, .int (nI lt)])), kT G qy 4 (tyF tA), (tA 0, .inr (7, [.ref (nA 0), .int (b2i (ms 0)), .int (nI (so 0)), .int (nI (ln 0))])), ((tA 1), .inr (7, [.ref (nA 1), .int (b2i (ms 1)), .int (nI (so 1)), .int (nI (ln 1))])), (tA 2, .inr (7, [.ref (nA 2), .int (b2i (ms 2)), .int (nI (so 2)), .int (nI (ln 2))])), (tA 3, .inr (7, [.ref (nA 3), .int (b2i (ms 3)), .int (nI (so 3)), .int (nI (ln 3))])), kJ G (nA 0) 40 (u 0), kJ G (nA 1) 40 (u 1), kJ G (nA 2) 40 (u 2), kJ G (nA 3) 40 (u 3), (ql, .inr (8, [.ref ql0, .ref ql1, .int (nI m)])), kJ G ql0 256 (pf (lsm (u 1) m 0) f1 256), kJ G ql1 256 (pf (lsm (u 1) m 8) f2 256), (qf, .inr (1, [.long ((lN (wsm (u 1) t m) * lN (m - (pcn t 16)) - lN ((wsm (u 1) (2 ^ m - 1) m) - (wsm (u 1) t m)) * lN (pcn t 16)) / lN (gdl (lN (wsm (u 1) t m) * lN (m - (pcn t 16)) - lN ((wsm (u 1) (2 ^ m - 1) m) - (wsm (u 1) t m)) * lN (pcn t 16)) ((pcn t 16) * (m - (pcn t 16))))), .long (lN ((pcn t 16) * (m - (pcn t 16))) / lN (gdl (lN (wsm (u 1) t m) * lN (m - (pcn t 16)) - lN ((wsm (u 1) (2 ^ m - 1) m) - (wsm (u 1) t m)) * lN (pcn t 16)) ((pcn t 16) * (m - (pcn t 16)))))]))]) [10, 11, 12, 13] rfl (j_rVN X (b := ql) (As := [.int (nI t), .ref qf]) (ci := 8) (rest := []) 2 (mX8_gainOf l G ql ql0 ql1 m (pf (lsm (u 1) m 0) f1 256) (pf (lsm (u 1) m 8) f2 256) qf fa fb t (pcn t 16) (wsm (u 1) t m) (wsm (u 1) (2 ^ m - 1) m) (by first | assumption | omega | exact ob_s (by omega) | exact ob_n) (by first | assumption | omega | exact ob_s (by omega) | exact ob_n) (by exact hgn.1) (by exact hgn.2.1) (by exact hgn.2.2.1) (by exact sm2_eq hm16 hou) (by exact sm2_eq hm16 hou) (by exact hgn.2.2.2.1) (by exact hgn.2.2.2.2)) gX9_gain_X8_gainOf_n254 rfl rfl rfl (by decide +kernel) (by decide +kernel) (by decide +kernel) (by decide +kernel) (by decide +kernel) ⟨Nat.le_of_ble_eq_true rfl, Nat.le_of_ble_eq_true rfl⟩ rfl rfl 0 rfl [10, 11, 12, 13] rfl rfl rfl (Nat.le_of_ble_eq_true rfl) dX9_gain_37 ⟨Nat.le_of_ble_eq_true rfl, Nat.le_of_ble_eq_true rfl⟩) rfl rfl ?_
      refine j_aload_n (pc := 40) X dX9_gain_40 rfl 1 rfl ?_
      refine j_iload (pc := 41) X dX9_gain_41 0 rfl ?_
      refine j_ci (pc := 43) X (ws' := [(qx, .inr (9, [.ref qy, .ref qc, .ref qp, .ref qr, .ref qm, .ref qg, .ref qu, .ref ql, .ref qf, .int (nI (trF ms ln u (nI 1) (nI m) (nI t)))])), kT G qy 4 (tyF tA), (tA 0, .inr (7, [.ref (nA 0), .int (b2i (ms 0)), .int (nI (so 0)), .int (nI (ln 0))])), ((tA 1), .inr (7, [.ref (nA 1), .int (b2i (ms 1)), .int (nI (so 1)), .int (nI (ln 1))])), (tA 2, .inr (7, [.ref (nA 2), .int (b2i (ms 2)), .int (nI (so 2)), .int (nI (ln 2))])), (tA 3, .inr (7, [.ref (nA 3), .int (b2i (ms 3)), .int (nI (so 3)), .int (nI (ln 3))])), kJ G (nA 0) 40 (u 0), kJ G (nA 1) 40 (u 1), kJ G (nA 2) 40 (u 2), kJ G (nA 3) 40 (u 3), (ql, .inr (8, [.ref ql0, .ref ql1, .int (nI m)])), kJ G ql0 256 (pf (lsm (u 1) m 0) f1 256), kJ G ql1 256 (pf (lsm (u 1) m 8) f2 256), (qf, .inr (1, [.long ((lN (wsm (u 1) t m) * lN (m - (pcn t 16)) - lN ((wsm (u 1) (2 ^ m - 1) m) - (wsm (u 1) t m)) * lN (pcn t 16)) / lN (gdl (lN (wsm (u 1) t m) * lN (m - (pcn t 16)) - lN ((wsm (u 1) (2 ^ m - 1) m) - (wsm (u 1) t m)) * lN (pcn t 16)) ((pcn t 16) * (m - (pcn t 16))))), .long (lN ((pcn t 16) * (m - (pcn t 16))) / lN (gdl (lN (wsm (u 1) t m) * lN (m - (pcn t 16)) - lN ((wsm (u 1) (2 ^ m - 1) m) - (wsm (u 1) t m)) * lN (pcn t 16)) ((pcn t 16) * (m - (pcn t 16)))))]))]) [0] rfl (j_rV X (b := qx) (As := [.int (nI (trF ms ln u (nI 1) (nI m) (nI t)))]) (ci := 9) (rest := []) 1 (mX9_finish l G qx qy qc qp qr qm qg qu ql qf lt (trF ms ln u (nI 1) (nI m) (nI t)) (by first | omega | exact Nat.lt_of_le_of_lt (trF_le _ _ _ _ _ _) (by decide))) gX9_gain_X9_finish rfl rfl rfl (by decide +kernel) ⟨Nat.le_of_ble_eq_true rfl, Nat.le_of_ble_eq_true rfl⟩ rfl rfl 0 rfl [0] rfl rfl rfl (Nat.le_of_ble_eq_true rfl) dX9_gain_43 ⟨Nat.le_of_ble_eq_true rfl, Nat.le_of_ble_eq_true rfl⟩) rfl rfl ?_
      have hs : sGain ms ln u fa fb tn f1 f2 (nI 1) (nI m) (nI t) = (decide ((trF ms ln u (nI 1) (nI m) (nI t)) = 0), (trF ms ln u (nI 1) (nI m) (nI t)), (lN (wsm (u 1) t m) * lN (m - (pcn t 16)) - lN ((wsm (u 1) (2 ^ m - 1) m) - (wsm (u 1) t m)) * lN (pcn t 16)) / lN (gdl (lN (wsm (u 1) t m) * lN (m - (pcn t 16)) - lN ((wsm (u 1) (2 ^ m - 1) m) - (wsm (u 1) t m)) * lN (pcn t 16)) ((pcn t 16) * (m - (pcn t 16)))), lN ((pcn t 16) * (m - (pcn t 16))) / lN (gdl (lN (wsm (u 1) t m) * lN (m - (pcn t 16)) - lN ((wsm (u 1) (2 ^ m - 1) m) - (wsm (u 1) t m)) * lN (pcn t 16)) ((pcn t 16) * (m - (pcn t 16)))), m, (pf (lsm (u 1) m 0) f1 256), (pf (lsm (u 1) m 8) f2 256)) := by first | (simp [sGain, c_11]; done) | (simp [sGain, tN, cl0, cl1, cl2, cl3, hq_k, hq_m, c_11, gnX, gnK]; done)
      refine j_zret (pc := 46) X (b2i_nar _) dX9_gain_46 ?_
      rw [hs]; exact ⟨rfl, rfl⟩
    · skip
      refine j_aload_n (pc := 14) X dX9_gain_14 rfl 1 rfl ?_
      refine j_get (pc := 15) X 9 i_X9 0 rfl rfl 7 (by decide) (by decide +kernel) rfl dX9_gain_15 ?_
      refine j_aload_n (pc := 18) X dX9_gain_18 rfl 1 rfl ?_
      refine j_get (pc := 19) X 9 i_X9 0 rfl rfl 0 (by decide) (by decide +kernel) rfl dX9_gain_19 ?_
      refine j_iload_n (pc := 22) X dX9_gain_22 rfl 2 rfl ?_
      refine j_aldq (pc := 23) X 1 rfl (vp_in_nI (by omega) (by omega)) (v := tA 2) ((congrArg (tyF tA) (nI_clamp (by decide))).trans rfl) dX9_gain_23 ?_
      refine j_iload_n (pc := 24) X dX9_gain_24 rfl 3 rfl ?_
      refine j_cv (pc := 25) X (ws' := [(qx, .inr (9, [.ref qy, .ref qc, .ref qp, .ref qr, .ref qm, .ref qg, .ref qu, .ref ql, .ref qf, .int (nI lt)])), kT G qy 4 (tyF tA), (tA 0, .inr (7, [.ref (nA 0), .int (b2i (ms 0)), .int (nI (so 0)), .int (nI (ln 0))])), (tA 1, .inr (7, [.ref (nA 1), .int (b2i (ms 1)), .int (nI (so 1)), .int (nI (ln 1))])), ((tA 2), .inr (7, [.ref (nA 2), .int (b2i (ms 2)), .int (nI (so 2)), .int (nI (ln 2))])), (tA 3, .inr (7, [.ref (nA 3), .int (b2i (ms 3)), .int (nI (so 3)), .int (nI (ln 3))])), kJ G (nA 0) 40 (u 0), kJ G (nA 1) 40 (u 1), kJ G (nA 2) 40 (u 2), kJ G (nA 3) 40 (u 3), (ql, .inr (8, [.ref ql0, .ref ql1, .int (nI m)])), kJ G ql0 256 (pf (lsm (u 2) m 0) f1 256), kJ G ql1 256 (pf (lsm (u 2) m 8) f2 256), (qf, .inr (1, [.long fa, .long fb]))]) [10, 11, 12, 4, 8] rfl (j_rVN X (b := ql) (As := [.ref (tA 2), .int (nI m)]) (ci := 8) (rest := []) 2 (mX8_lay l G ql ql0 ql1 tn f1 f2 (tA 2) (nA 2) (ms 2) (so 2) (ln 2) (u 2) m (by first | assumption | omega | exact ob_s (by omega) | exact ob_n) (by first | assumption | omega | exact ob_s (by omega) | exact ob_n) (by first | assumption | omega | exact ob_s (by omega) | exact ob_n)) gX9_gain_X8_lay_n250 rfl rfl rfl (by decide +kernel) (by decide +kernel) (by decide +kernel) (by decide +kernel) (by decide +kernel) ⟨Nat.le_of_ble_eq_true rfl, Nat.le_of_ble_eq_true rfl⟩ rfl rfl 0 rfl [10, 11, 12, 4, 8] rfl rfl rfl (Nat.le_of_ble_eq_true rfl) dX9_gain_25 ⟨Nat.le_of_ble_eq_true rfl, Nat.le_of_ble_eq_true rfl⟩) rfl rfl ?_
      refine j_aload_n (pc := 28) X dX9_gain_28 rfl 1 rfl ?_
      refine j_get (pc := 29) X 9 i_X9 0 rfl rfl 7 (by decide) (by decide +kernel) rfl dX9_gain_29 ?_
      refine j_iload_n (pc := 32) X dX9_gain_32 rfl 4 rfl ?_
      refine j_aload_n (pc := 33) X dX9_gain_33 rfl 1 rfl ?_
      refine j_get (pc := 34) X 9 i_X9 0 rfl rfl 8 (by decide) (by decide +kernel) rfl dX9_gain_34 ?_
      refine j_cv (pc := 37) X (ws' := [(qx, .inr (9, [.ref qy, .ref qc, .ref qp, .ref qr, .ref qm, .ref qg, .ref qu, .ref ql, .ref qf, .int (nI lt)])), kT G qy 4 (tyF tA), (tA 0, .inr (7, [.ref (nA 0), .int (b2i (ms 0)), .int (nI (so 0)), .int (nI (ln 0))])), (tA 1, .inr (7, [.ref (nA 1), .int (b2i (ms 1)), .int (nI (so 1)), .int (nI (ln 1))])), ((tA 2), .inr (7, [.ref (nA 2), .int (b2i (ms 2)), .int (nI (so 2)), .int (nI (ln 2))])), (tA 3, .inr (7, [.ref (nA 3), .int (b2i (ms 3)), .int (nI (so 3)), .int (nI (ln 3))])), kJ G (nA 0) 40 (u 0), kJ G (nA 1) 40 (u 1), kJ G (nA 2) 40 (u 2), kJ G (nA 3) 40 (u 3), (ql, .inr (8, [.ref ql0, .ref ql1, .int (nI m)])), kJ G ql0 256 (pf (lsm (u 2) m 0) f1 256), kJ G ql1 256 (pf (lsm (u 2) m 8) f2 256), (qf, .inr (1, [.long ((lN (wsm (u 2) t m) * lN (m - (pcn t 16)) - lN ((wsm (u 2) (2 ^ m - 1) m) - (wsm (u 2) t m)) * lN (pcn t 16)) / lN (gdl (lN (wsm (u 2) t m) * lN (m - (pcn t 16)) - lN ((wsm (u 2) (2 ^ m - 1) m) - (wsm (u 2) t m)) * lN (pcn t 16)) ((pcn t 16) * (m - (pcn t 16))))), .long (lN ((pcn t 16) * (m - (pcn t 16))) / lN (gdl (lN (wsm (u 2) t m) * lN (m - (pcn t 16)) - lN ((wsm (u 2) (2 ^ m - 1) m) - (wsm (u 2) t m)) * lN (pcn t 16)) ((pcn t 16) * (m - (pcn t 16)))))]))]) [10, 11, 12, 13] rfl (j_rVN X (b := ql) (As := [.int (nI t), .ref qf]) (ci := 8) (rest := []) 2 (mX8_gainOf l G ql ql0 ql1 m (pf (lsm (u 2) m 0) f1 256) (pf (lsm (u 2) m 8) f2 256) qf fa fb t (pcn t 16) (wsm (u 2) t m) (wsm (u 2) (2 ^ m - 1) m) (by first | assumption | omega | exact ob_s (by omega) | exact ob_n) (by first | assumption | omega | exact ob_s (by omega) | exact ob_n) (by exact hgn.1) (by exact hgn.2.1) (by exact hgn.2.2.1) (by exact sm2_eq hm16 hou) (by exact sm2_eq hm16 hou) (by exact hgn.2.2.2.1) (by exact hgn.2.2.2.2)) gX9_gain_X8_gainOf_n254 rfl rfl rfl (by decide +kernel) (by decide +kernel) (by decide +kernel) (by decide +kernel) (by decide +kernel) ⟨Nat.le_of_ble_eq_true rfl, Nat.le_of_ble_eq_true rfl⟩ rfl rfl 0 rfl [10, 11, 12, 13] rfl rfl rfl (Nat.le_of_ble_eq_true rfl) dX9_gain_37 ⟨Nat.le_of_ble_eq_true rfl, Nat.le_of_ble_eq_true rfl⟩) rfl rfl ?_
      refine j_aload_n (pc := 40) X dX9_gain_40 rfl 1 rfl ?_
      refine j_iload (pc := 41) X dX9_gain_41 0 rfl ?_
      refine j_ci (pc := 43) X (ws' := [(qx, .inr (9, [.ref qy, .ref qc, .ref qp, .ref qr, .ref qm, .ref qg, .ref qu, .ref ql, .ref qf, .int (nI (trF ms ln u (nI 2) (nI m) (nI t)))])), kT G qy 4 (tyF tA), (tA 0, .inr (7, [.ref (nA 0), .int (b2i (ms 0)), .int (nI (so 0)), .int (nI (ln 0))])), (tA 1, .inr (7, [.ref (nA 1), .int (b2i (ms 1)), .int (nI (so 1)), .int (nI (ln 1))])), ((tA 2), .inr (7, [.ref (nA 2), .int (b2i (ms 2)), .int (nI (so 2)), .int (nI (ln 2))])), (tA 3, .inr (7, [.ref (nA 3), .int (b2i (ms 3)), .int (nI (so 3)), .int (nI (ln 3))])), kJ G (nA 0) 40 (u 0), kJ G (nA 1) 40 (u 1), kJ G (nA 2) 40 (u 2), kJ G (nA 3) 40 (u 3), (ql, .inr (8, [.ref ql0, .ref ql1, .int (nI m)])), kJ G ql0 256 (pf (lsm (u 2) m 0) f1 256), kJ G ql1 256 (pf (lsm (u 2) m 8) f2 256), (qf, .inr (1, [.long ((lN (wsm (u 2) t m) * lN (m - (pcn t 16)) - lN ((wsm (u 2) (2 ^ m - 1) m) - (wsm (u 2) t m)) * lN (pcn t 16)) / lN (gdl (lN (wsm (u 2) t m) * lN (m - (pcn t 16)) - lN ((wsm (u 2) (2 ^ m - 1) m) - (wsm (u 2) t m)) * lN (pcn t 16)) ((pcn t 16) * (m - (pcn t 16))))), .long (lN ((pcn t 16) * (m - (pcn t 16))) / lN (gdl (lN (wsm (u 2) t m) * lN (m - (pcn t 16)) - lN ((wsm (u 2) (2 ^ m - 1) m) - (wsm (u 2) t m)) * lN (pcn t 16)) ((pcn t 16) * (m - (pcn t 16)))))]))]) [0] rfl (j_rV X (b := qx) (As := [.int (nI (trF ms ln u (nI 2) (nI m) (nI t)))]) (ci := 9) (rest := []) 1 (mX9_finish l G qx qy qc qp qr qm qg qu ql qf lt (trF ms ln u (nI 2) (nI m) (nI t)) (by first | omega | exact Nat.lt_of_le_of_lt (trF_le _ _ _ _ _ _) (by decide))) gX9_gain_X9_finish rfl rfl rfl (by decide +kernel) ⟨Nat.le_of_ble_eq_true rfl, Nat.le_of_ble_eq_true rfl⟩ rfl rfl 0 rfl [0] rfl rfl rfl (Nat.le_of_ble_eq_true rfl) dX9_gain_43 ⟨Nat.le_of_ble_eq_true rfl, Nat.le_of_ble_eq_true rfl⟩) rfl rfl ?_
      have hs : sGain ms ln u fa fb tn f1 f2 (nI 2) (nI m) (nI t) = (decide ((trF ms ln u (nI 2) (nI m) (nI t)) = 0), (trF ms ln u (nI 2) (nI m) (nI t)), (lN (wsm (u 2) t m) * lN (m - (pcn t 16)) - lN ((wsm (u 2) (2 ^ m - 1) m) - (wsm (u 2) t m)) * lN (pcn t 16)) / lN (gdl (lN (wsm (u 2) t m) * lN (m - (pcn t 16)) - lN ((wsm (u 2) (2 ^ m - 1) m) - (wsm (u 2) t m)) * lN (pcn t 16)) ((pcn t 16) * (m - (pcn t 16)))), lN ((pcn t 16) * (m - (pcn t 16))) / lN (gdl (lN (wsm (u 2) t m) * lN (m - (pcn t 16)) - lN ((wsm (u 2) (2 ^ m - 1) m) - (wsm (u 2) t m)) * lN (pcn t 16)) ((pcn t 16) * (m - (pcn t 16)))), m, (pf (lsm (u 2) m 0) f1 256), (pf (lsm (u 2) m 8) f2 256)) := by first | (simp [sGain, c_11]; done) | (simp [sGain, tN, cl0, cl1, cl2, cl3, hq_k, hq_m, c_11, gnX, gnK]; done)
      refine j_zret (pc := 46) X (b2i_nar _) dX9_gain_46 ?_
      rw [hs]; exact ⟨rfl, rfl⟩
    · skip
      refine j_aload_n (pc := 14) X dX9_gain_14 rfl 1 rfl ?_
      refine j_get (pc := 15) X 9 i_X9 0 rfl rfl 7 (by decide) (by decide +kernel) rfl dX9_gain_15 ?_
      refine j_aload_n (pc := 18) X dX9_gain_18 rfl 1 rfl ?_
      refine j_get (pc := 19) X 9 i_X9 0 rfl rfl 0 (by decide) (by decide +kernel) rfl dX9_gain_19 ?_
      refine j_iload_n (pc := 22) X dX9_gain_22 rfl 2 rfl ?_
      refine j_aldq (pc := 23) X 1 rfl (vp_in_nI (by omega) (by omega)) (v := tA 3) ((congrArg (tyF tA) (nI_clamp (by decide))).trans rfl) dX9_gain_23 ?_
      refine j_iload_n (pc := 24) X dX9_gain_24 rfl 3 rfl ?_
      refine j_cv (pc := 25) X (ws' := [(qx, .inr (9, [.ref qy, .ref qc, .ref qp, .ref qr, .ref qm, .ref qg, .ref qu, .ref ql, .ref qf, .int (nI lt)])), kT G qy 4 (tyF tA), (tA 0, .inr (7, [.ref (nA 0), .int (b2i (ms 0)), .int (nI (so 0)), .int (nI (ln 0))])), (tA 1, .inr (7, [.ref (nA 1), .int (b2i (ms 1)), .int (nI (so 1)), .int (nI (ln 1))])), (tA 2, .inr (7, [.ref (nA 2), .int (b2i (ms 2)), .int (nI (so 2)), .int (nI (ln 2))])), ((tA 3), .inr (7, [.ref (nA 3), .int (b2i (ms 3)), .int (nI (so 3)), .int (nI (ln 3))])), kJ G (nA 0) 40 (u 0), kJ G (nA 1) 40 (u 1), kJ G (nA 2) 40 (u 2), kJ G (nA 3) 40 (u 3), (ql, .inr (8, [.ref ql0, .ref ql1, .int (nI m)])), kJ G ql0 256 (pf (lsm (u 3) m 0) f1 256), kJ G ql1 256 (pf (lsm (u 3) m 8) f2 256), (qf, .inr (1, [.long fa, .long fb]))]) [10, 11, 12, 5, 9] rfl (j_rVN X (b := ql) (As := [.ref (tA 3), .int (nI m)]) (ci := 8) (rest := []) 2 (mX8_lay l G ql ql0 ql1 tn f1 f2 (tA 3) (nA 3) (ms 3) (so 3) (ln 3) (u 3) m (by first | assumption | omega | exact ob_s (by omega) | exact ob_n) (by first | assumption | omega | exact ob_s (by omega) | exact ob_n) (by first | assumption | omega | exact ob_s (by omega) | exact ob_n)) gX9_gain_X8_lay_n250 rfl rfl rfl (by decide +kernel) (by decide +kernel) (by decide +kernel) (by decide +kernel) (by decide +kernel) ⟨Nat.le_of_ble_eq_true rfl, Nat.le_of_ble_eq_true rfl⟩ rfl rfl 0 rfl [10, 11, 12, 5, 9] rfl rfl rfl (Nat.le_of_ble_eq_true rfl) dX9_gain_25 ⟨Nat.le_of_ble_eq_true rfl, Nat.le_of_ble_eq_true rfl⟩) rfl rfl ?_
      refine j_aload_n (pc := 28) X dX9_gain_28 rfl 1 rfl ?_
      refine j_get (pc := 29) X 9 i_X9 0 rfl rfl 7 (by decide) (by decide +kernel) rfl dX9_gain_29 ?_
      refine j_iload_n (pc := 32) X dX9_gain_32 rfl 4 rfl ?_
      refine j_aload_n (pc := 33) X dX9_gain_33 rfl 1 rfl ?_
      refine j_get (pc := 34) X 9 i_X9 0 rfl rfl 8 (by decide) (by decide +kernel) rfl dX9_gain_34 ?_
      refine j_cv (pc := 37) X (ws' := [(qx, .inr (9, [.ref qy, .ref qc, .ref qp, .ref qr, .ref qm, .ref qg, .ref qu, .ref ql, .ref qf, .int (nI lt)])), kT G qy 4 (tyF tA), (tA 0, .inr (7, [.ref (nA 0), .int (b2i (ms 0)), .int (nI (so 0)), .int (nI (ln 0))])), (tA 1, .inr (7, [.ref (nA 1), .int (b2i (ms 1)), .int (nI (so 1)), .int (nI (ln 1))])), (tA 2, .inr (7, [.ref (nA 2), .int (b2i (ms 2)), .int (nI (so 2)), .int (nI (ln 2))])), ((tA 3), .inr (7, [.ref (nA 3), .int (b2i (ms 3)), .int (nI (so 3)), .int (nI (ln 3))])), kJ G (nA 0) 40 (u 0), kJ G (nA 1) 40 (u 1), kJ G (nA 2) 40 (u 2), kJ G (nA 3) 40 (u 3), (ql, .inr (8, [.ref ql0, .ref ql1, .int (nI m)])), kJ G ql0 256 (pf (lsm (u 3) m 0) f1 256), kJ G ql1 256 (pf (lsm (u 3) m 8) f2 256), (qf, .inr (1, [.long ((lN (wsm (u 3) t m) * lN (m - (pcn t 16)) - lN ((wsm (u 3) (2 ^ m - 1) m) - (wsm (u 3) t m)) * lN (pcn t 16)) / lN (gdl (lN (wsm (u 3) t m) * lN (m - (pcn t 16)) - lN ((wsm (u 3) (2 ^ m - 1) m) - (wsm (u 3) t m)) * lN (pcn t 16)) ((pcn t 16) * (m - (pcn t 16))))), .long (lN ((pcn t 16) * (m - (pcn t 16))) / lN (gdl (lN (wsm (u 3) t m) * lN (m - (pcn t 16)) - lN ((wsm (u 3) (2 ^ m - 1) m) - (wsm (u 3) t m)) * lN (pcn t 16)) ((pcn t 16) * (m - (pcn t 16)))))]))]) [10, 11, 12, 13] rfl (j_rVN X (b := ql) (As := [.int (nI t), .ref qf]) (ci := 8) (rest := []) 2 (mX8_gainOf l G ql ql0 ql1 m (pf (lsm (u 3) m 0) f1 256) (pf (lsm (u 3) m 8) f2 256) qf fa fb t (pcn t 16) (wsm (u 3) t m) (wsm (u 3) (2 ^ m - 1) m) (by first | assumption | omega | exact ob_s (by omega) | exact ob_n) (by first | assumption | omega | exact ob_s (by omega) | exact ob_n) (by exact hgn.1) (by exact hgn.2.1) (by exact hgn.2.2.1) (by exact sm2_eq hm16 hou) (by exact sm2_eq hm16 hou) (by exact hgn.2.2.2.1) (by exact hgn.2.2.2.2)) gX9_gain_X8_gainOf_n254 rfl rfl rfl (by decide +kernel) (by decide +kernel) (by decide +kernel) (by decide +kernel) (by decide +kernel) ⟨Nat.le_of_ble_eq_true rfl, Nat.le_of_ble_eq_true rfl⟩ rfl rfl 0 rfl [10, 11, 12, 13] rfl rfl rfl (Nat.le_of_ble_eq_true rfl) dX9_gain_37 ⟨Nat.le_of_ble_eq_true rfl, Nat.le_of_ble_eq_true rfl⟩) rfl rfl ?_
      refine j_aload_n (pc := 40) X dX9_gain_40 rfl 1 rfl ?_
      refine j_iload (pc := 41) X dX9_gain_41 0 rfl ?_
      refine j_ci (pc := 43) X (ws' := [(qx, .inr (9, [.ref qy, .ref qc, .ref qp, .ref qr, .ref qm, .ref qg, .ref qu, .ref ql, .ref qf, .int (nI (trF ms ln u (nI 3) (nI m) (nI t)))])), kT G qy 4 (tyF tA), (tA 0, .inr (7, [.ref (nA 0), .int (b2i (ms 0)), .int (nI (so 0)), .int (nI (ln 0))])), (tA 1, .inr (7, [.ref (nA 1), .int (b2i (ms 1)), .int (nI (so 1)), .int (nI (ln 1))])), (tA 2, .inr (7, [.ref (nA 2), .int (b2i (ms 2)), .int (nI (so 2)), .int (nI (ln 2))])), ((tA 3), .inr (7, [.ref (nA 3), .int (b2i (ms 3)), .int (nI (so 3)), .int (nI (ln 3))])), kJ G (nA 0) 40 (u 0), kJ G (nA 1) 40 (u 1), kJ G (nA 2) 40 (u 2), kJ G (nA 3) 40 (u 3), (ql, .inr (8, [.ref ql0, .ref ql1, .int (nI m)])), kJ G ql0 256 (pf (lsm (u 3) m 0) f1 256), kJ G ql1 256 (pf (lsm (u 3) m 8) f2 256), (qf, .inr (1, [.long ((lN (wsm (u 3) t m) * lN (m - (pcn t 16)) - lN ((wsm (u 3) (2 ^ m - 1) m) - (wsm (u 3) t m)) * lN (pcn t 16)) / lN (gdl (lN (wsm (u 3) t m) * lN (m - (pcn t 16)) - lN ((wsm (u 3) (2 ^ m - 1) m) - (wsm (u 3) t m)) * lN (pcn t 16)) ((pcn t 16) * (m - (pcn t 16))))), .long (lN ((pcn t 16) * (m - (pcn t 16))) / lN (gdl (lN (wsm (u 3) t m) * lN (m - (pcn t 16)) - lN ((wsm (u 3) (2 ^ m - 1) m) - (wsm (u 3) t m)) * lN (pcn t 16)) ((pcn t 16) * (m - (pcn t 16)))))]))]) [0] rfl (j_rV X (b := qx) (As := [.int (nI (trF ms ln u (nI 3) (nI m) (nI t)))]) (ci := 9) (rest := []) 1 (mX9_finish l G qx qy qc qp qr qm qg qu ql qf lt (trF ms ln u (nI 3) (nI m) (nI t)) (by first | omega | exact Nat.lt_of_le_of_lt (trF_le _ _ _ _ _ _) (by decide))) gX9_gain_X9_finish rfl rfl rfl (by decide +kernel) ⟨Nat.le_of_ble_eq_true rfl, Nat.le_of_ble_eq_true rfl⟩ rfl rfl 0 rfl [0] rfl rfl rfl (Nat.le_of_ble_eq_true rfl) dX9_gain_43 ⟨Nat.le_of_ble_eq_true rfl, Nat.le_of_ble_eq_true rfl⟩) rfl rfl ?_
      have hs : sGain ms ln u fa fb tn f1 f2 (nI 3) (nI m) (nI t) = (decide ((trF ms ln u (nI 3) (nI m) (nI t)) = 0), (trF ms ln u (nI 3) (nI m) (nI t)), (lN (wsm (u 3) t m) * lN (m - (pcn t 16)) - lN ((wsm (u 3) (2 ^ m - 1) m) - (wsm (u 3) t m)) * lN (pcn t 16)) / lN (gdl (lN (wsm (u 3) t m) * lN (m - (pcn t 16)) - lN ((wsm (u 3) (2 ^ m - 1) m) - (wsm (u 3) t m)) * lN (pcn t 16)) ((pcn t 16) * (m - (pcn t 16)))), lN ((pcn t 16) * (m - (pcn t 16))) / lN (gdl (lN (wsm (u 3) t m) * lN (m - (pcn t 16)) - lN ((wsm (u 3) (2 ^ m - 1) m) - (wsm (u 3) t m)) * lN (pcn t 16)) ((pcn t 16) * (m - (pcn t 16)))), m, (pf (lsm (u 3) m 0) f1 256), (pf (lsm (u 3) m 8) f2 256)) := by first | (simp [sGain, c_11]; done) | (simp [sGain, tN, cl0, cl1, cl2, cl3, hq_k, hq_m, c_11, gnX, gnK]; done)
      refine j_zret (pc := 46) X (b2i_nar _) dX9_gain_46 ?_
      rw [hs]; exact ⟨rfl, rfl⟩

set_option maxHeartbeats 4000000 in
set_option maxRecDepth 100000 in
theorem mX9_chance (l : Launch) (G : jG) (qx : Nat) (qy : Nat) (qc : Nat) (qp : Nat) (qr : Nat) (qm : Nat) (qg : Nat) (qu : Nat) (ql : Nat) (qf : Nat) (lt : Nat) (tA : Nat → Nat) (nA : Nat → Nat) (ms : Nat → Bool) (so : Nat → Nat) (ln : Nat → Nat) (u : Nat → Nat → Int64) (ql0 : Nat) (ql1 : Nat) (tn : Nat) (f1 : Nat → Int64) (f2 : Nat → Int64) (fa : Int64) (fb : Int64) (x : Int32) (n : Int32) (s : Int32) (hln : ∀ k, ln k ≤ 40) (hf1 : f1 0 = 0) (hf2 : f2 0 = 0) : MV l yX9_chance wsX9_chance ({ frames := 3, cells := 0, slots := 0, locals := 85 }) G [.ref qx, .int x, .int n, .int s] [(qx, .inr (9, [.ref qy, .ref qc, .ref qp, .ref qr, .ref qm, .ref qg, .ref qu, .ref ql, .ref qf, .int (nI lt)])), kT G qy 4 (tyF tA), (tA 0, .inr (7, [.ref (nA 0), .int (b2i (ms 0)), .int (nI (so 0)), .int (nI (ln 0))])), (tA 1, .inr (7, [.ref (nA 1), .int (b2i (ms 1)), .int (nI (so 1)), .int (nI (ln 1))])), (tA 2, .inr (7, [.ref (nA 2), .int (b2i (ms 2)), .int (nI (so 2)), .int (nI (ln 2))])), (tA 3, .inr (7, [.ref (nA 3), .int (b2i (ms 3)), .int (nI (so 3)), .int (nI (ln 3))])), kJ G (nA 0) 40 (u 0), kJ G (nA 1) 40 (u 1), kJ G (nA 2) 40 (u 2), kJ G (nA 3) 40 (u 3), (ql, .inr (8, [.ref ql0, .ref ql1, .int (nI tn)])), kJ G ql0 256 f1, kJ G ql1 256 f2, (qf, .inr (1, [.long fa, .long fb]))] (some (.int (b2i ((sChance ms ln u fa fb tn f1 f2 x n s).1)))) [(qx, .inr (9, [.ref qy, .ref qc, .ref qp, .ref qr, .ref qm, .ref qg, .ref qu, .ref ql, .ref qf, .int (nI ((sChance ms ln u fa fb tn f1 f2 x n s).2.1))])), kT G qy 4 (tyF tA), (tA 0, .inr (7, [.ref (nA 0), .int (b2i (ms 0)), .int (nI (so 0)), .int (nI (ln 0))])), (tA 1, .inr (7, [.ref (nA 1), .int (b2i (ms 1)), .int (nI (so 1)), .int (nI (ln 1))])), (tA 2, .inr (7, [.ref (nA 2), .int (b2i (ms 2)), .int (nI (so 2)), .int (nI (ln 2))])), (tA 3, .inr (7, [.ref (nA 3), .int (b2i (ms 3)), .int (nI (so 3)), .int (nI (ln 3))])), kJ G (nA 0) 40 (u 0), kJ G (nA 1) 40 (u 1), kJ G (nA 2) 40 (u 2), kJ G (nA 3) 40 (u 3), (ql, .inr (8, [.ref ql0, .ref ql1, .int (nI ((sChance ms ln u fa fb tn f1 f2 x n s).2.2.2.2.1))])), kJ G ql0 256 ((sChance ms ln u fa fb tn f1 f2 x n s).2.2.2.2.2.1), kJ G ql1 256 ((sChance ms ln u fa fb tn f1 f2 x n s).2.2.2.2.2.2), (qf, .inr (1, [.long ((sChance ms ln u fa fb tn f1 f2 x n s).2.2.1), .long ((sChance ms ln u fa fb tn f1 f2 x n s).2.2.2.1)]))] := by
  refine MF.ofJ (cc := cX9_chance) (maxL := 5) (ret := (some .boolean)) (own := RX9) (lv := [(0, .ref qx), (1, .int x), (2, .int n), (3, .int s)]) (by decide) rfl rfl (Nat.le_of_ble_eq_true rfl) rfl ?_
  intro κ X
  have i_X1 : ∀ w ∈ wsX10, w ∈ wsX9_chance := by decide +kernel
  have i_X7 : ∀ w ∈ wsX70, w ∈ wsX9_chance := by decide +kernel
  have i_X8 : ∀ w ∈ wsX80, w ∈ wsX9_chance := by decide +kernel
  have i_X9 : ∀ w ∈ wsX90, w ∈ wsX9_chance := by decide +kernel
  refine j_aload_n (pc := 0) X dX9_chance_0 rfl 0 rfl ?_
  refine j_iload_n (pc := 1) X dX9_chance_1 rfl 1 rfl ?_
  refine j_iload_n (pc := 2) X dX9_chance_2 rfl 2 rfl ?_
  refine j_iload_n (pc := 3) X dX9_chance_3 rfl 3 rfl ?_
  refine j_ciP (pc := 4) X [0, 1, 2, 3, 4, 5, 6, 7, 8, 9] rfl (j_rV X (b := qx) (As := [.int x, .int n, .int s]) (ci := 9) (rest := []) 3 (mX9_trialFault l G qx qy qc qp qr qm qg qu ql qf lt tA nA ms so ln u x n s (by first | assumption | omega | exact ob_s (by omega) | exact ob_n)) gX9_chance_X9_trialFault rfl rfl rfl (by decide +kernel) ⟨Nat.le_of_ble_eq_true rfl, Nat.le_of_ble_eq_true rfl⟩ rfl rfl 0 rfl [0, 1, 2, 3, 4, 5, 6, 7, 8, 9] rfl rfl rfl (Nat.le_of_ble_eq_true rfl) dX9_chance_4 ⟨Nat.le_of_ble_eq_true rfl, Nat.le_of_ble_eq_true rfl⟩) ?_
  refine j_istore (pc := 7) X (lv' := [(4, .int (nI (trF ms ln u x n s))), (0, .ref qx), (1, .int x), (2, .int n), (3, .int s)]) dX9_chance_7 (by decide) rfl ?_
  refine j_iload (pc := 9) X dX9_chance_9 0 rfl ?_
  refine j_ifN_ne (pc := 11) X (a := (trF ms ln u x n s)) (by first | omega | exact Nat.lt_of_le_of_lt (trF_le _ _ _ _ _ _) (by decide)) (tgt := 40) dX9_chance_11 (by decide) (fun c_11 => ?_) (fun c_11 => ?_)
  · skip
    refine j_aload_n (pc := 40) X dX9_chance_40 rfl 1 rfl ?_
    refine j_iload (pc := 41) X dX9_chance_41 0 rfl ?_
    refine j_ci (pc := 43) X (ws' := [(qx, .inr (9, [.ref qy, .ref qc, .ref qp, .ref qr, .ref qm, .ref qg, .ref qu, .ref ql, .ref qf, .int (nI (trF ms ln u x n s))])), kT G qy 4 (tyF tA), (tA 0, .inr (7, [.ref (nA 0), .int (b2i (ms 0)), .int (nI (so 0)), .int (nI (ln 0))])), (tA 1, .inr (7, [.ref (nA 1), .int (b2i (ms 1)), .int (nI (so 1)), .int (nI (ln 1))])), (tA 2, .inr (7, [.ref (nA 2), .int (b2i (ms 2)), .int (nI (so 2)), .int (nI (ln 2))])), (tA 3, .inr (7, [.ref (nA 3), .int (b2i (ms 3)), .int (nI (so 3)), .int (nI (ln 3))])), kJ G (nA 0) 40 (u 0), kJ G (nA 1) 40 (u 1), kJ G (nA 2) 40 (u 2), kJ G (nA 3) 40 (u 3), (ql, .inr (8, [.ref ql0, .ref ql1, .int (nI tn)])), kJ G ql0 256 f1, kJ G ql1 256 f2, (qf, .inr (1, [.long fa, .long fb]))]) [0] rfl (j_rV X (b := qx) (As := [.int (nI (trF ms ln u x n s))]) (ci := 9) (rest := []) 1 (mX9_finish l G qx qy qc qp qr qm qg qu ql qf lt (trF ms ln u x n s) (by first | omega | exact Nat.lt_of_le_of_lt (trF_le _ _ _ _ _ _) (by decide))) gX9_chance_X9_finish rfl rfl rfl (by decide +kernel) ⟨Nat.le_of_ble_eq_true rfl, Nat.le_of_ble_eq_true rfl⟩ rfl rfl 0 rfl [0] rfl rfl rfl (Nat.le_of_ble_eq_true rfl) dX9_chance_43 ⟨Nat.le_of_ble_eq_true rfl, Nat.le_of_ble_eq_true rfl⟩) rfl rfl ?_
    have hs : sChance ms ln u fa fb tn f1 f2 x n s = (decide ((trF ms ln u x n s) = 0), (trF ms ln u x n s), fa, fb, tn, f1, f2) := by first | (simp [sChance, c_11]; done) | (simp only [ch_ok hm16 hou ht0 ht]; simp [sChance, tN, cl0, cl1, cl2, cl3, hq_k, hq_m, c_11, chA]; done)
    refine j_zret (pc := 46) X (b2i_nar _) dX9_chance_46 ?_
    rw [hs]; exact ⟨rfl, rfl⟩
  · skip
    obtain ⟨j, m, t, hj, rfl, hms, hm2, hm16, rfl, hmln, ht0, ht, rfl, hou⟩ := trF_0 hln c_11; have hp16 := two_pow_le hm16; have hq_k := nI_clamp (n := m) (by omega); have hq_m := nI_clamp (n := t) (by omega); have hgn := gn_ok hm16 hou ht0 ht; rcases (by omega : j = 0 ∨ j = 1 ∨ j = 2 ∨ j = 3) with rfl | rfl | rfl | rfl
    · skip
      refine j_aload_n (pc := 14) X dX9_chance_14 rfl 1 rfl ?_
      refine j_get (pc := 15) X 9 i_X9 0 rfl rfl 7 (by decide) (by decide +kernel) rfl dX9_chance_15 ?_
      refine j_aload_n (pc := 18) X dX9_chance_18 rfl 1 rfl ?_
      refine j_get (pc := 19) X 9 i_X9 0 rfl rfl 0 (by decide) (by decide +kernel) rfl dX9_chance_19 ?_
      refine j_iload_n (pc := 22) X dX9_chance_22 rfl 2 rfl ?_
      refine j_aldq (pc := 23) X 1 rfl (vp_in_nI (by omega) (by omega)) (v := tA 0) ((congrArg (tyF tA) (nI_clamp (by decide))).trans rfl) dX9_chance_23 ?_
      refine j_iload_n (pc := 24) X dX9_chance_24 rfl 3 rfl ?_
      refine j_cv (pc := 25) X (ws' := [(qx, .inr (9, [.ref qy, .ref qc, .ref qp, .ref qr, .ref qm, .ref qg, .ref qu, .ref ql, .ref qf, .int (nI lt)])), kT G qy 4 (tyF tA), ((tA 0), .inr (7, [.ref (nA 0), .int (b2i (ms 0)), .int (nI (so 0)), .int (nI (ln 0))])), (tA 1, .inr (7, [.ref (nA 1), .int (b2i (ms 1)), .int (nI (so 1)), .int (nI (ln 1))])), (tA 2, .inr (7, [.ref (nA 2), .int (b2i (ms 2)), .int (nI (so 2)), .int (nI (ln 2))])), (tA 3, .inr (7, [.ref (nA 3), .int (b2i (ms 3)), .int (nI (so 3)), .int (nI (ln 3))])), kJ G (nA 0) 40 (u 0), kJ G (nA 1) 40 (u 1), kJ G (nA 2) 40 (u 2), kJ G (nA 3) 40 (u 3), (ql, .inr (8, [.ref ql0, .ref ql1, .int (nI m)])), kJ G ql0 256 (pf (lsm (u 0) m 0) f1 256), kJ G ql1 256 (pf (lsm (u 0) m 8) f2 256), (qf, .inr (1, [.long fa, .long fb]))]) [10, 11, 12, 2, 6] rfl (j_rVN X (b := ql) (As := [.ref (tA 0), .int (nI m)]) (ci := 8) (rest := []) 2 (mX8_lay l G ql ql0 ql1 tn f1 f2 (tA 0) (nA 0) (ms 0) (so 0) (ln 0) (u 0) m (by first | assumption | omega | exact ob_s (by omega) | exact ob_n) (by first | assumption | omega | exact ob_s (by omega) | exact ob_n) (by first | assumption | omega | exact ob_s (by omega) | exact ob_n)) gX9_chance_X8_lay_n250 rfl rfl rfl (by decide +kernel) (by decide +kernel) (by decide +kernel) (by decide +kernel) (by decide +kernel) ⟨Nat.le_of_ble_eq_true rfl, Nat.le_of_ble_eq_true rfl⟩ rfl rfl 0 rfl [10, 11, 12, 2, 6] rfl rfl rfl (Nat.le_of_ble_eq_true rfl) dX9_chance_25 ⟨Nat.le_of_ble_eq_true rfl, Nat.le_of_ble_eq_true rfl⟩) rfl rfl ?_
      refine j_aload_n (pc := 28) X dX9_chance_28 rfl 1 rfl ?_
      refine j_get (pc := 29) X 9 i_X9 0 rfl rfl 7 (by decide) (by decide +kernel) rfl dX9_chance_29 ?_
      refine j_iload_n (pc := 32) X dX9_chance_32 rfl 4 rfl ?_
      refine j_aload_n (pc := 33) X dX9_chance_33 rfl 1 rfl ?_
      refine j_get (pc := 34) X 9 i_X9 0 rfl rfl 8 (by decide) (by decide +kernel) rfl dX9_chance_34 ?_
      refine j_cv (pc := 37) X (ws' := [(qx, .inr (9, [.ref qy, .ref qc, .ref qp, .ref qr, .ref qm, .ref qg, .ref qu, .ref ql, .ref qf, .int (nI lt)])), kT G qy 4 (tyF tA), ((tA 0), .inr (7, [.ref (nA 0), .int (b2i (ms 0)), .int (nI (so 0)), .int (nI (ln 0))])), (tA 1, .inr (7, [.ref (nA 1), .int (b2i (ms 1)), .int (nI (so 1)), .int (nI (ln 1))])), (tA 2, .inr (7, [.ref (nA 2), .int (b2i (ms 2)), .int (nI (so 2)), .int (nI (ln 2))])), (tA 3, .inr (7, [.ref (nA 3), .int (b2i (ms 3)), .int (nI (so 3)), .int (nI (ln 3))])), kJ G (nA 0) 40 (u 0), kJ G (nA 1) 40 (u 1), kJ G (nA 2) 40 (u 2), kJ G (nA 3) 40 (u 3), (ql, .inr (8, [.ref ql0, .ref ql1, .int (nI m)])), kJ G ql0 256 (pf (lsm (u 0) m 0) f1 256), kJ G ql1 256 (pf (lsm (u 0) m 8) f2 256), (qf, .inr (1, [.long (lN (ngF (sm2 (pf (lsm (u 0) m 0) f1 256) (pf (lsm (u 0) m 8) f2 256)) (sm2 (pf (lsm (u 0) m 0) f1 256) (pf (lsm (u 0) m 8) f2 256) t) (orb (pcn t 16)) (csF m (pcn t 16) (pcn t 16))) / lN (gdl (lN (ngF (sm2 (pf (lsm (u 0) m 0) f1 256) (pf (lsm (u 0) m 8) f2 256)) (sm2 (pf (lsm (u 0) m 0) f1 256) (pf (lsm (u 0) m 8) f2 256) t) (orb (pcn t 16)) (csF m (pcn t 16) (pcn t 16)))) (csF m (pcn t 16) (pcn t 16)))), .long (lN (csF m (pcn t 16) (pcn t 16)) / lN (gdl (lN (ngF (sm2 (pf (lsm (u 0) m 0) f1 256) (pf (lsm (u 0) m 8) f2 256)) (sm2 (pf (lsm (u 0) m 0) f1 256) (pf (lsm (u 0) m 8) f2 256) t) (orb (pcn t 16)) (csF m (pcn t 16) (pcn t 16)))) (csF m (pcn t 16) (pcn t 16))))]))]) [10, 11, 12, 13] rfl (j_rVN X (b := ql) (As := [.int (nI t), .ref qf]) (ci := 8) (rest := []) 2 (mX8_chanceOf l G ql ql0 ql1 m (pf (lsm (u 0) m 0) f1 256) (pf (lsm (u 0) m 8) f2 256) qf fa fb t (pcn t 16) (orb (pcn t 16)) (by first | assumption | omega | exact ob_s (by omega) | exact ob_n) (by first | assumption | omega | exact ob_s (by omega) | exact ob_n) (by exact hgn.1) (by exact hgn.2.1) (by exact hgn.2.2.1) (by exact (cs_LL hm16 (by have h9 := hgn.2.2.1; omega)).2) (by rfl) (by exact fun i hi => ⟨(orb_ok hm16 hgn.2.1 (by have h9 := hgn.2.2.1; omega) i hi).1, (orb_ok hm16 hgn.2.1 (by have h9 := hgn.2.2.1; omega) i hi).2.2⟩)) gX9_chance_X8_chanceOf_n257 rfl rfl rfl (by decide +kernel) (by decide +kernel) (by decide +kernel) (by decide +kernel) (by decide +kernel) ⟨Nat.le_of_ble_eq_true rfl, Nat.le_of_ble_eq_true rfl⟩ rfl rfl 0 rfl [10, 11, 12, 13] rfl rfl rfl (Nat.le_of_ble_eq_true rfl) dX9_chance_37 ⟨Nat.le_of_ble_eq_true rfl, Nat.le_of_ble_eq_true rfl⟩) rfl rfl ?_
      refine j_aload_n (pc := 40) X dX9_chance_40 rfl 1 rfl ?_
      refine j_iload (pc := 41) X dX9_chance_41 0 rfl ?_
      refine j_ci (pc := 43) X (ws' := [(qx, .inr (9, [.ref qy, .ref qc, .ref qp, .ref qr, .ref qm, .ref qg, .ref qu, .ref ql, .ref qf, .int (nI (trF ms ln u (nI 0) (nI m) (nI t)))])), kT G qy 4 (tyF tA), ((tA 0), .inr (7, [.ref (nA 0), .int (b2i (ms 0)), .int (nI (so 0)), .int (nI (ln 0))])), (tA 1, .inr (7, [.ref (nA 1), .int (b2i (ms 1)), .int (nI (so 1)), .int (nI (ln 1))])), (tA 2, .inr (7, [.ref (nA 2), .int (b2i (ms 2)), .int (nI (so 2)), .int (nI (ln 2))])), (tA 3, .inr (7, [.ref (nA 3), .int (b2i (ms 3)), .int (nI (so 3)), .int (nI (ln 3))])), kJ G (nA 0) 40 (u 0), kJ G (nA 1) 40 (u 1), kJ G (nA 2) 40 (u 2), kJ G (nA 3) 40 (u 3), (ql, .inr (8, [.ref ql0, .ref ql1, .int (nI m)])), kJ G ql0 256 (pf (lsm (u 0) m 0) f1 256), kJ G ql1 256 (pf (lsm (u 0) m 8) f2 256), (qf, .inr (1, [.long (lN (ngF (sm2 (pf (lsm (u 0) m 0) f1 256) (pf (lsm (u 0) m 8) f2 256)) (sm2 (pf (lsm (u 0) m 0) f1 256) (pf (lsm (u 0) m 8) f2 256) t) (orb (pcn t 16)) (csF m (pcn t 16) (pcn t 16))) / lN (gdl (lN (ngF (sm2 (pf (lsm (u 0) m 0) f1 256) (pf (lsm (u 0) m 8) f2 256)) (sm2 (pf (lsm (u 0) m 0) f1 256) (pf (lsm (u 0) m 8) f2 256) t) (orb (pcn t 16)) (csF m (pcn t 16) (pcn t 16)))) (csF m (pcn t 16) (pcn t 16)))), .long (lN (csF m (pcn t 16) (pcn t 16)) / lN (gdl (lN (ngF (sm2 (pf (lsm (u 0) m 0) f1 256) (pf (lsm (u 0) m 8) f2 256)) (sm2 (pf (lsm (u 0) m 0) f1 256) (pf (lsm (u 0) m 8) f2 256) t) (orb (pcn t 16)) (csF m (pcn t 16) (pcn t 16)))) (csF m (pcn t 16) (pcn t 16))))]))]) [0] rfl (j_rV X (b := qx) (As := [.int (nI (trF ms ln u (nI 0) (nI m) (nI t)))]) (ci := 9) (rest := []) 1 (mX9_finish l G qx qy qc qp qr qm qg qu ql qf lt (trF ms ln u (nI 0) (nI m) (nI t)) (by first | omega | exact Nat.lt_of_le_of_lt (trF_le _ _ _ _ _ _) (by decide))) gX9_chance_X9_finish rfl rfl rfl (by decide +kernel) ⟨Nat.le_of_ble_eq_true rfl, Nat.le_of_ble_eq_true rfl⟩ rfl rfl 0 rfl [0] rfl rfl rfl (Nat.le_of_ble_eq_true rfl) dX9_chance_43 ⟨Nat.le_of_ble_eq_true rfl, Nat.le_of_ble_eq_true rfl⟩) rfl rfl ?_
      have hs : sChance ms ln u fa fb tn f1 f2 (nI 0) (nI m) (nI t) = (decide ((trF ms ln u (nI 0) (nI m) (nI t)) = 0), (trF ms ln u (nI 0) (nI m) (nI t)), lN (ngF (sm2 (pf (lsm (u 0) m 0) f1 256) (pf (lsm (u 0) m 8) f2 256)) (sm2 (pf (lsm (u 0) m 0) f1 256) (pf (lsm (u 0) m 8) f2 256) t) (orb (pcn t 16)) (csF m (pcn t 16) (pcn t 16))) / lN (gdl (lN (ngF (sm2 (pf (lsm (u 0) m 0) f1 256) (pf (lsm (u 0) m 8) f2 256)) (sm2 (pf (lsm (u 0) m 0) f1 256) (pf (lsm (u 0) m 8) f2 256) t) (orb (pcn t 16)) (csF m (pcn t 16) (pcn t 16)))) (csF m (pcn t 16) (pcn t 16))), lN (csF m (pcn t 16) (pcn t 16)) / lN (gdl (lN (ngF (sm2 (pf (lsm (u 0) m 0) f1 256) (pf (lsm (u 0) m 8) f2 256)) (sm2 (pf (lsm (u 0) m 0) f1 256) (pf (lsm (u 0) m 8) f2 256) t) (orb (pcn t 16)) (csF m (pcn t 16) (pcn t 16)))) (csF m (pcn t 16) (pcn t 16))), m, (pf (lsm (u 0) m 0) f1 256), (pf (lsm (u 0) m 8) f2 256)) := by first | (simp [sChance, c_11]; done) | (simp only [ch_ok hm16 hou ht0 ht]; simp [sChance, tN, cl0, cl1, cl2, cl3, hq_k, hq_m, c_11, chA]; done)
      refine j_zret (pc := 46) X (b2i_nar _) dX9_chance_46 ?_
      rw [hs]; exact ⟨rfl, rfl⟩
    · skip
      refine j_aload_n (pc := 14) X dX9_chance_14 rfl 1 rfl ?_
      refine j_get (pc := 15) X 9 i_X9 0 rfl rfl 7 (by decide) (by decide +kernel) rfl dX9_chance_15 ?_
      refine j_aload_n (pc := 18) X dX9_chance_18 rfl 1 rfl ?_
      refine j_get (pc := 19) X 9 i_X9 0 rfl rfl 0 (by decide) (by decide +kernel) rfl dX9_chance_19 ?_
      refine j_iload_n (pc := 22) X dX9_chance_22 rfl 2 rfl ?_
      refine j_aldq (pc := 23) X 1 rfl (vp_in_nI (by omega) (by omega)) (v := tA 1) ((congrArg (tyF tA) (nI_clamp (by decide))).trans rfl) dX9_chance_23 ?_
      refine j_iload_n (pc := 24) X dX9_chance_24 rfl 3 rfl ?_
      refine j_cv (pc := 25) X (ws' := [(qx, .inr (9, [.ref qy, .ref qc, .ref qp, .ref qr, .ref qm, .ref qg, .ref qu, .ref ql, .ref qf, .int (nI lt)])), kT G qy 4 (tyF tA), (tA 0, .inr (7, [.ref (nA 0), .int (b2i (ms 0)), .int (nI (so 0)), .int (nI (ln 0))])), ((tA 1), .inr (7, [.ref (nA 1), .int (b2i (ms 1)), .int (nI (so 1)), .int (nI (ln 1))])), (tA 2, .inr (7, [.ref (nA 2), .int (b2i (ms 2)), .int (nI (so 2)), .int (nI (ln 2))])), (tA 3, .inr (7, [.ref (nA 3), .int (b2i (ms 3)), .int (nI (so 3)), .int (nI (ln 3))])), kJ G (nA 0) 40 (u 0), kJ G (nA 1) 40 (u 1), kJ G (nA 2) 40 (u 2), kJ G (nA 3) 40 (u 3), (ql, .inr (8, [.ref ql0, .ref ql1, .int (nI m)])), kJ G ql0 256 (pf (lsm (u 1) m 0) f1 256), kJ G ql1 256 (pf (lsm (u 1) m 8) f2 256), (qf, .inr (1, [.long fa, .long fb]))]) [10, 11, 12, 3, 7] rfl (j_rVN X (b := ql) (As := [.ref (tA 1), .int (nI m)]) (ci := 8) (rest := []) 2 (mX8_lay l G ql ql0 ql1 tn f1 f2 (tA 1) (nA 1) (ms 1) (so 1) (ln 1) (u 1) m (by first | assumption | omega | exact ob_s (by omega) | exact ob_n) (by first | assumption | omega | exact ob_s (by omega) | exact ob_n) (by first | assumption | omega | exact ob_s (by omega) | exact ob_n)) gX9_chance_X8_lay_n250 rfl rfl rfl (by decide +kernel) (by decide +kernel) (by decide +kernel) (by decide +kernel) (by decide +kernel) ⟨Nat.le_of_ble_eq_true rfl, Nat.le_of_ble_eq_true rfl⟩ rfl rfl 0 rfl [10, 11, 12, 3, 7] rfl rfl rfl (Nat.le_of_ble_eq_true rfl) dX9_chance_25 ⟨Nat.le_of_ble_eq_true rfl, Nat.le_of_ble_eq_true rfl⟩) rfl rfl ?_
      refine j_aload_n (pc := 28) X dX9_chance_28 rfl 1 rfl ?_
      refine j_get (pc := 29) X 9 i_X9 0 rfl rfl 7 (by decide) (by decide +kernel) rfl dX9_chance_29 ?_
      refine j_iload_n (pc := 32) X dX9_chance_32 rfl 4 rfl ?_
      refine j_aload_n (pc := 33) X dX9_chance_33 rfl 1 rfl ?_
      refine j_get (pc := 34) X 9 i_X9 0 rfl rfl 8 (by decide) (by decide +kernel) rfl dX9_chance_34 ?_
      refine j_cv (pc := 37) X (ws' := [(qx, .inr (9, [.ref qy, .ref qc, .ref qp, .ref qr, .ref qm, .ref qg, .ref qu, .ref ql, .ref qf, .int (nI lt)])), kT G qy 4 (tyF tA), (tA 0, .inr (7, [.ref (nA 0), .int (b2i (ms 0)), .int (nI (so 0)), .int (nI (ln 0))])), ((tA 1), .inr (7, [.ref (nA 1), .int (b2i (ms 1)), .int (nI (so 1)), .int (nI (ln 1))])), (tA 2, .inr (7, [.ref (nA 2), .int (b2i (ms 2)), .int (nI (so 2)), .int (nI (ln 2))])), (tA 3, .inr (7, [.ref (nA 3), .int (b2i (ms 3)), .int (nI (so 3)), .int (nI (ln 3))])), kJ G (nA 0) 40 (u 0), kJ G (nA 1) 40 (u 1), kJ G (nA 2) 40 (u 2), kJ G (nA 3) 40 (u 3), (ql, .inr (8, [.ref ql0, .ref ql1, .int (nI m)])), kJ G ql0 256 (pf (lsm (u 1) m 0) f1 256), kJ G ql1 256 (pf (lsm (u 1) m 8) f2 256), (qf, .inr (1, [.long (lN (ngF (sm2 (pf (lsm (u 1) m 0) f1 256) (pf (lsm (u 1) m 8) f2 256)) (sm2 (pf (lsm (u 1) m 0) f1 256) (pf (lsm (u 1) m 8) f2 256) t) (orb (pcn t 16)) (csF m (pcn t 16) (pcn t 16))) / lN (gdl (lN (ngF (sm2 (pf (lsm (u 1) m 0) f1 256) (pf (lsm (u 1) m 8) f2 256)) (sm2 (pf (lsm (u 1) m 0) f1 256) (pf (lsm (u 1) m 8) f2 256) t) (orb (pcn t 16)) (csF m (pcn t 16) (pcn t 16)))) (csF m (pcn t 16) (pcn t 16)))), .long (lN (csF m (pcn t 16) (pcn t 16)) / lN (gdl (lN (ngF (sm2 (pf (lsm (u 1) m 0) f1 256) (pf (lsm (u 1) m 8) f2 256)) (sm2 (pf (lsm (u 1) m 0) f1 256) (pf (lsm (u 1) m 8) f2 256) t) (orb (pcn t 16)) (csF m (pcn t 16) (pcn t 16)))) (csF m (pcn t 16) (pcn t 16))))]))]) [10, 11, 12, 13] rfl (j_rVN X (b := ql) (As := [.int (nI t), .ref qf]) (ci := 8) (rest := []) 2 (mX8_chanceOf l G ql ql0 ql1 m (pf (lsm (u 1) m 0) f1 256) (pf (lsm (u 1) m 8) f2 256) qf fa fb t (pcn t 16) (orb (pcn t 16)) (by first | assumption | omega | exact ob_s (by omega) | exact ob_n) (by first | assumption | omega | exact ob_s (by omega) | exact ob_n) (by exact hgn.1) (by exact hgn.2.1) (by exact hgn.2.2.1) (by exact (cs_LL hm16 (by have h9 := hgn.2.2.1; omega)).2) (by rfl) (by exact fun i hi => ⟨(orb_ok hm16 hgn.2.1 (by have h9 := hgn.2.2.1; omega) i hi).1, (orb_ok hm16 hgn.2.1 (by have h9 := hgn.2.2.1; omega) i hi).2.2⟩)) gX9_chance_X8_chanceOf_n257 rfl rfl rfl (by decide +kernel) (by decide +kernel) (by decide +kernel) (by decide +kernel) (by decide +kernel) ⟨Nat.le_of_ble_eq_true rfl, Nat.le_of_ble_eq_true rfl⟩ rfl rfl 0 rfl [10, 11, 12, 13] rfl rfl rfl (Nat.le_of_ble_eq_true rfl) dX9_chance_37 ⟨Nat.le_of_ble_eq_true rfl, Nat.le_of_ble_eq_true rfl⟩) rfl rfl ?_
      refine j_aload_n (pc := 40) X dX9_chance_40 rfl 1 rfl ?_
      refine j_iload (pc := 41) X dX9_chance_41 0 rfl ?_
      refine j_ci (pc := 43) X (ws' := [(qx, .inr (9, [.ref qy, .ref qc, .ref qp, .ref qr, .ref qm, .ref qg, .ref qu, .ref ql, .ref qf, .int (nI (trF ms ln u (nI 1) (nI m) (nI t)))])), kT G qy 4 (tyF tA), (tA 0, .inr (7, [.ref (nA 0), .int (b2i (ms 0)), .int (nI (so 0)), .int (nI (ln 0))])), ((tA 1), .inr (7, [.ref (nA 1), .int (b2i (ms 1)), .int (nI (so 1)), .int (nI (ln 1))])), (tA 2, .inr (7, [.ref (nA 2), .int (b2i (ms 2)), .int (nI (so 2)), .int (nI (ln 2))])), (tA 3, .inr (7, [.ref (nA 3), .int (b2i (ms 3)), .int (nI (so 3)), .int (nI (ln 3))])), kJ G (nA 0) 40 (u 0), kJ G (nA 1) 40 (u 1), kJ G (nA 2) 40 (u 2), kJ G (nA 3) 40 (u 3), (ql, .inr (8, [.ref ql0, .ref ql1, .int (nI m)])), kJ G ql0 256 (pf (lsm (u 1) m 0) f1 256), kJ G ql1 256 (pf (lsm (u 1) m 8) f2 256), (qf, .inr (1, [.long (lN (ngF (sm2 (pf (lsm (u 1) m 0) f1 256) (pf (lsm (u 1) m 8) f2 256)) (sm2 (pf (lsm (u 1) m 0) f1 256) (pf (lsm (u 1) m 8) f2 256) t) (orb (pcn t 16)) (csF m (pcn t 16) (pcn t 16))) / lN (gdl (lN (ngF (sm2 (pf (lsm (u 1) m 0) f1 256) (pf (lsm (u 1) m 8) f2 256)) (sm2 (pf (lsm (u 1) m 0) f1 256) (pf (lsm (u 1) m 8) f2 256) t) (orb (pcn t 16)) (csF m (pcn t 16) (pcn t 16)))) (csF m (pcn t 16) (pcn t 16)))), .long (lN (csF m (pcn t 16) (pcn t 16)) / lN (gdl (lN (ngF (sm2 (pf (lsm (u 1) m 0) f1 256) (pf (lsm (u 1) m 8) f2 256)) (sm2 (pf (lsm (u 1) m 0) f1 256) (pf (lsm (u 1) m 8) f2 256) t) (orb (pcn t 16)) (csF m (pcn t 16) (pcn t 16)))) (csF m (pcn t 16) (pcn t 16))))]))]) [0] rfl (j_rV X (b := qx) (As := [.int (nI (trF ms ln u (nI 1) (nI m) (nI t)))]) (ci := 9) (rest := []) 1 (mX9_finish l G qx qy qc qp qr qm qg qu ql qf lt (trF ms ln u (nI 1) (nI m) (nI t)) (by first | omega | exact Nat.lt_of_le_of_lt (trF_le _ _ _ _ _ _) (by decide))) gX9_chance_X9_finish rfl rfl rfl (by decide +kernel) ⟨Nat.le_of_ble_eq_true rfl, Nat.le_of_ble_eq_true rfl⟩ rfl rfl 0 rfl [0] rfl rfl rfl (Nat.le_of_ble_eq_true rfl) dX9_chance_43 ⟨Nat.le_of_ble_eq_true rfl, Nat.le_of_ble_eq_true rfl⟩) rfl rfl ?_
      have hs : sChance ms ln u fa fb tn f1 f2 (nI 1) (nI m) (nI t) = (decide ((trF ms ln u (nI 1) (nI m) (nI t)) = 0), (trF ms ln u (nI 1) (nI m) (nI t)), lN (ngF (sm2 (pf (lsm (u 1) m 0) f1 256) (pf (lsm (u 1) m 8) f2 256)) (sm2 (pf (lsm (u 1) m 0) f1 256) (pf (lsm (u 1) m 8) f2 256) t) (orb (pcn t 16)) (csF m (pcn t 16) (pcn t 16))) / lN (gdl (lN (ngF (sm2 (pf (lsm (u 1) m 0) f1 256) (pf (lsm (u 1) m 8) f2 256)) (sm2 (pf (lsm (u 1) m 0) f1 256) (pf (lsm (u 1) m 8) f2 256) t) (orb (pcn t 16)) (csF m (pcn t 16) (pcn t 16)))) (csF m (pcn t 16) (pcn t 16))), lN (csF m (pcn t 16) (pcn t 16)) / lN (gdl (lN (ngF (sm2 (pf (lsm (u 1) m 0) f1 256) (pf (lsm (u 1) m 8) f2 256)) (sm2 (pf (lsm (u 1) m 0) f1 256) (pf (lsm (u 1) m 8) f2 256) t) (orb (pcn t 16)) (csF m (pcn t 16) (pcn t 16)))) (csF m (pcn t 16) (pcn t 16))), m, (pf (lsm (u 1) m 0) f1 256), (pf (lsm (u 1) m 8) f2 256)) := by first | (simp [sChance, c_11]; done) | (simp only [ch_ok hm16 hou ht0 ht]; simp [sChance, tN, cl0, cl1, cl2, cl3, hq_k, hq_m, c_11, chA]; done)
      refine j_zret (pc := 46) X (b2i_nar _) dX9_chance_46 ?_
      rw [hs]; exact ⟨rfl, rfl⟩
    · skip
      refine j_aload_n (pc := 14) X dX9_chance_14 rfl 1 rfl ?_
      refine j_get (pc := 15) X 9 i_X9 0 rfl rfl 7 (by decide) (by decide +kernel) rfl dX9_chance_15 ?_
      refine j_aload_n (pc := 18) X dX9_chance_18 rfl 1 rfl ?_
      refine j_get (pc := 19) X 9 i_X9 0 rfl rfl 0 (by decide) (by decide +kernel) rfl dX9_chance_19 ?_
      refine j_iload_n (pc := 22) X dX9_chance_22 rfl 2 rfl ?_
      refine j_aldq (pc := 23) X 1 rfl (vp_in_nI (by omega) (by omega)) (v := tA 2) ((congrArg (tyF tA) (nI_clamp (by decide))).trans rfl) dX9_chance_23 ?_
      refine j_iload_n (pc := 24) X dX9_chance_24 rfl 3 rfl ?_
      refine j_cv (pc := 25) X (ws' := [(qx, .inr (9, [.ref qy, .ref qc, .ref qp, .ref qr, .ref qm, .ref qg, .ref qu, .ref ql, .ref qf, .int (nI lt)])), kT G qy 4 (tyF tA), (tA 0, .inr (7, [.ref (nA 0), .int (b2i (ms 0)), .int (nI (so 0)), .int (nI (ln 0))])), (tA 1, .inr (7, [.ref (nA 1), .int (b2i (ms 1)), .int (nI (so 1)), .int (nI (ln 1))])), ((tA 2), .inr (7, [.ref (nA 2), .int (b2i (ms 2)), .int (nI (so 2)), .int (nI (ln 2))])), (tA 3, .inr (7, [.ref (nA 3), .int (b2i (ms 3)), .int (nI (so 3)), .int (nI (ln 3))])), kJ G (nA 0) 40 (u 0), kJ G (nA 1) 40 (u 1), kJ G (nA 2) 40 (u 2), kJ G (nA 3) 40 (u 3), (ql, .inr (8, [.ref ql0, .ref ql1, .int (nI m)])), kJ G ql0 256 (pf (lsm (u 2) m 0) f1 256), kJ G ql1 256 (pf (lsm (u 2) m 8) f2 256), (qf, .inr (1, [.long fa, .long fb]))]) [10, 11, 12, 4, 8] rfl (j_rVN X (b := ql) (As := [.ref (tA 2), .int (nI m)]) (ci := 8) (rest := []) 2 (mX8_lay l G ql ql0 ql1 tn f1 f2 (tA 2) (nA 2) (ms 2) (so 2) (ln 2) (u 2) m (by first | assumption | omega | exact ob_s (by omega) | exact ob_n) (by first | assumption | omega | exact ob_s (by omega) | exact ob_n) (by first | assumption | omega | exact ob_s (by omega) | exact ob_n)) gX9_chance_X8_lay_n250 rfl rfl rfl (by decide +kernel) (by decide +kernel) (by decide +kernel) (by decide +kernel) (by decide +kernel) ⟨Nat.le_of_ble_eq_true rfl, Nat.le_of_ble_eq_true rfl⟩ rfl rfl 0 rfl [10, 11, 12, 4, 8] rfl rfl rfl (Nat.le_of_ble_eq_true rfl) dX9_chance_25 ⟨Nat.le_of_ble_eq_true rfl, Nat.le_of_ble_eq_true rfl⟩) rfl rfl ?_
      refine j_aload_n (pc := 28) X dX9_chance_28 rfl 1 rfl ?_
      refine j_get (pc := 29) X 9 i_X9 0 rfl rfl 7 (by decide) (by decide +kernel) rfl dX9_chance_29 ?_
      refine j_iload_n (pc := 32) X dX9_chance_32 rfl 4 rfl ?_
      refine j_aload_n (pc := 33) X dX9_chance_33 rfl 1 rfl ?_
      refine j_get (pc := 34) X 9 i_X9 0 rfl rfl 8 (by decide) (by decide +kernel) rfl dX9_chance_34 ?_
      refine j_cv (pc := 37) X (ws' := [(qx, .inr (9, [.ref qy, .ref qc, .ref qp, .ref qr, .ref qm, .ref qg, .ref qu, .ref ql, .ref qf, .int (nI lt)])), kT G qy 4 (tyF tA), (tA 0, .inr (7, [.ref (nA 0), .int (b2i (ms 0)), .int (nI (so 0)), .int (nI (ln 0))])), (tA 1, .inr (7, [.ref (nA 1), .int (b2i (ms 1)), .int (nI (so 1)), .int (nI (ln 1))])), ((tA 2), .inr (7, [.ref (nA 2), .int (b2i (ms 2)), .int (nI (so 2)), .int (nI (ln 2))])), (tA 3, .inr (7, [.ref (nA 3), .int (b2i (ms 3)), .int (nI (so 3)), .int (nI (ln 3))])), kJ G (nA 0) 40 (u 0), kJ G (nA 1) 40 (u 1), kJ G (nA 2) 40 (u 2), kJ G (nA 3) 40 (u 3), (ql, .inr (8, [.ref ql0, .ref ql1, .int (nI m)])), kJ G ql0 256 (pf (lsm (u 2) m 0) f1 256), kJ G ql1 256 (pf (lsm (u 2) m 8) f2 256), (qf, .inr (1, [.long (lN (ngF (sm2 (pf (lsm (u 2) m 0) f1 256) (pf (lsm (u 2) m 8) f2 256)) (sm2 (pf (lsm (u 2) m 0) f1 256) (pf (lsm (u 2) m 8) f2 256) t) (orb (pcn t 16)) (csF m (pcn t 16) (pcn t 16))) / lN (gdl (lN (ngF (sm2 (pf (lsm (u 2) m 0) f1 256) (pf (lsm (u 2) m 8) f2 256)) (sm2 (pf (lsm (u 2) m 0) f1 256) (pf (lsm (u 2) m 8) f2 256) t) (orb (pcn t 16)) (csF m (pcn t 16) (pcn t 16)))) (csF m (pcn t 16) (pcn t 16)))), .long (lN (csF m (pcn t 16) (pcn t 16)) / lN (gdl (lN (ngF (sm2 (pf (lsm (u 2) m 0) f1 256) (pf (lsm (u 2) m 8) f2 256)) (sm2 (pf (lsm (u 2) m 0) f1 256) (pf (lsm (u 2) m 8) f2 256) t) (orb (pcn t 16)) (csF m (pcn t 16) (pcn t 16)))) (csF m (pcn t 16) (pcn t 16))))]))]) [10, 11, 12, 13] rfl (j_rVN X (b := ql) (As := [.int (nI t), .ref qf]) (ci := 8) (rest := []) 2 (mX8_chanceOf l G ql ql0 ql1 m (pf (lsm (u 2) m 0) f1 256) (pf (lsm (u 2) m 8) f2 256) qf fa fb t (pcn t 16) (orb (pcn t 16)) (by first | assumption | omega | exact ob_s (by omega) | exact ob_n) (by first | assumption | omega | exact ob_s (by omega) | exact ob_n) (by exact hgn.1) (by exact hgn.2.1) (by exact hgn.2.2.1) (by exact (cs_LL hm16 (by have h9 := hgn.2.2.1; omega)).2) (by rfl) (by exact fun i hi => ⟨(orb_ok hm16 hgn.2.1 (by have h9 := hgn.2.2.1; omega) i hi).1, (orb_ok hm16 hgn.2.1 (by have h9 := hgn.2.2.1; omega) i hi).2.2⟩)) gX9_chance_X8_chanceOf_n257 rfl rfl rfl (by decide +kernel) (by decide +kernel) (by decide +kernel) (by decide +kernel) (by decide +kernel) ⟨Nat.le_of_ble_eq_true rfl, Nat.le_of_ble_eq_true rfl⟩ rfl rfl 0 rfl [10, 11, 12, 13] rfl rfl rfl (Nat.le_of_ble_eq_true rfl) dX9_chance_37 ⟨Nat.le_of_ble_eq_true rfl, Nat.le_of_ble_eq_true rfl⟩) rfl rfl ?_
      refine j_aload_n (pc := 40) X dX9_chance_40 rfl 1 rfl ?_
      refine j_iload (pc := 41) X dX9_chance_41 0 rfl ?_
      refine j_ci (pc := 43) X (ws' := [(qx, .inr (9, [.ref qy, .ref qc, .ref qp, .ref qr, .ref qm, .ref qg, .ref qu, .ref ql, .ref qf, .int (nI (trF ms ln u (nI 2) (nI m) (nI t)))])), kT G qy 4 (tyF tA), (tA 0, .inr (7, [.ref (nA 0), .int (b2i (ms 0)), .int (nI (so 0)), .int (nI (ln 0))])), (tA 1, .inr (7, [.ref (nA 1), .int (b2i (ms 1)), .int (nI (so 1)), .int (nI (ln 1))])), ((tA 2), .inr (7, [.ref (nA 2), .int (b2i (ms 2)), .int (nI (so 2)), .int (nI (ln 2))])), (tA 3, .inr (7, [.ref (nA 3), .int (b2i (ms 3)), .int (nI (so 3)), .int (nI (ln 3))])), kJ G (nA 0) 40 (u 0), kJ G (nA 1) 40 (u 1), kJ G (nA 2) 40 (u 2), kJ G (nA 3) 40 (u 3), (ql, .inr (8, [.ref ql0, .ref ql1, .int (nI m)])), kJ G ql0 256 (pf (lsm (u 2) m 0) f1 256), kJ G ql1 256 (pf (lsm (u 2) m 8) f2 256), (qf, .inr (1, [.long (lN (ngF (sm2 (pf (lsm (u 2) m 0) f1 256) (pf (lsm (u 2) m 8) f2 256)) (sm2 (pf (lsm (u 2) m 0) f1 256) (pf (lsm (u 2) m 8) f2 256) t) (orb (pcn t 16)) (csF m (pcn t 16) (pcn t 16))) / lN (gdl (lN (ngF (sm2 (pf (lsm (u 2) m 0) f1 256) (pf (lsm (u 2) m 8) f2 256)) (sm2 (pf (lsm (u 2) m 0) f1 256) (pf (lsm (u 2) m 8) f2 256) t) (orb (pcn t 16)) (csF m (pcn t 16) (pcn t 16)))) (csF m (pcn t 16) (pcn t 16)))), .long (lN (csF m (pcn t 16) (pcn t 16)) / lN (gdl (lN (ngF (sm2 (pf (lsm (u 2) m 0) f1 256) (pf (lsm (u 2) m 8) f2 256)) (sm2 (pf (lsm (u 2) m 0) f1 256) (pf (lsm (u 2) m 8) f2 256) t) (orb (pcn t 16)) (csF m (pcn t 16) (pcn t 16)))) (csF m (pcn t 16) (pcn t 16))))]))]) [0] rfl (j_rV X (b := qx) (As := [.int (nI (trF ms ln u (nI 2) (nI m) (nI t)))]) (ci := 9) (rest := []) 1 (mX9_finish l G qx qy qc qp qr qm qg qu ql qf lt (trF ms ln u (nI 2) (nI m) (nI t)) (by first | omega | exact Nat.lt_of_le_of_lt (trF_le _ _ _ _ _ _) (by decide))) gX9_chance_X9_finish rfl rfl rfl (by decide +kernel) ⟨Nat.le_of_ble_eq_true rfl, Nat.le_of_ble_eq_true rfl⟩ rfl rfl 0 rfl [0] rfl rfl rfl (Nat.le_of_ble_eq_true rfl) dX9_chance_43 ⟨Nat.le_of_ble_eq_true rfl, Nat.le_of_ble_eq_true rfl⟩) rfl rfl ?_
      have hs : sChance ms ln u fa fb tn f1 f2 (nI 2) (nI m) (nI t) = (decide ((trF ms ln u (nI 2) (nI m) (nI t)) = 0), (trF ms ln u (nI 2) (nI m) (nI t)), lN (ngF (sm2 (pf (lsm (u 2) m 0) f1 256) (pf (lsm (u 2) m 8) f2 256)) (sm2 (pf (lsm (u 2) m 0) f1 256) (pf (lsm (u 2) m 8) f2 256) t) (orb (pcn t 16)) (csF m (pcn t 16) (pcn t 16))) / lN (gdl (lN (ngF (sm2 (pf (lsm (u 2) m 0) f1 256) (pf (lsm (u 2) m 8) f2 256)) (sm2 (pf (lsm (u 2) m 0) f1 256) (pf (lsm (u 2) m 8) f2 256) t) (orb (pcn t 16)) (csF m (pcn t 16) (pcn t 16)))) (csF m (pcn t 16) (pcn t 16))), lN (csF m (pcn t 16) (pcn t 16)) / lN (gdl (lN (ngF (sm2 (pf (lsm (u 2) m 0) f1 256) (pf (lsm (u 2) m 8) f2 256)) (sm2 (pf (lsm (u 2) m 0) f1 256) (pf (lsm (u 2) m 8) f2 256) t) (orb (pcn t 16)) (csF m (pcn t 16) (pcn t 16)))) (csF m (pcn t 16) (pcn t 16))), m, (pf (lsm (u 2) m 0) f1 256), (pf (lsm (u 2) m 8) f2 256)) := by first | (simp [sChance, c_11]; done) | (simp only [ch_ok hm16 hou ht0 ht]; simp [sChance, tN, cl0, cl1, cl2, cl3, hq_k, hq_m, c_11, chA]; done)
      refine j_zret (pc := 46) X (b2i_nar _) dX9_chance_46 ?_
      rw [hs]; exact ⟨rfl, rfl⟩
    · skip
      refine j_aload_n (pc := 14) X dX9_chance_14 rfl 1 rfl ?_
      refine j_get (pc := 15) X 9 i_X9 0 rfl rfl 7 (by decide) (by decide +kernel) rfl dX9_chance_15 ?_
      refine j_aload_n (pc := 18) X dX9_chance_18 rfl 1 rfl ?_
      refine j_get (pc := 19) X 9 i_X9 0 rfl rfl 0 (by decide) (by decide +kernel) rfl dX9_chance_19 ?_
      refine j_iload_n (pc := 22) X dX9_chance_22 rfl 2 rfl ?_
      refine j_aldq (pc := 23) X 1 rfl (vp_in_nI (by omega) (by omega)) (v := tA 3) ((congrArg (tyF tA) (nI_clamp (by decide))).trans rfl) dX9_chance_23 ?_
      refine j_iload_n (pc := 24) X dX9_chance_24 rfl 3 rfl ?_
      refine j_cv (pc := 25) X (ws' := [(qx, .inr (9, [.ref qy, .ref qc, .ref qp, .ref qr, .ref qm, .ref qg, .ref qu, .ref ql, .ref qf, .int (nI lt)])), kT G qy 4 (tyF tA), (tA 0, .inr (7, [.ref (nA 0), .int (b2i (ms 0)), .int (nI (so 0)), .int (nI (ln 0))])), (tA 1, .inr (7, [.ref (nA 1), .int (b2i (ms 1)), .int (nI (so 1)), .int (nI (ln 1))])), (tA 2, .inr (7, [.ref (nA 2), .int (b2i (ms 2)), .int (nI (so 2)), .int (nI (ln 2))])), ((tA 3), .inr (7, [.ref (nA 3), .int (b2i (ms 3)), .int (nI (so 3)), .int (nI (ln 3))])), kJ G (nA 0) 40 (u 0), kJ G (nA 1) 40 (u 1), kJ G (nA 2) 40 (u 2), kJ G (nA 3) 40 (u 3), (ql, .inr (8, [.ref ql0, .ref ql1, .int (nI m)])), kJ G ql0 256 (pf (lsm (u 3) m 0) f1 256), kJ G ql1 256 (pf (lsm (u 3) m 8) f2 256), (qf, .inr (1, [.long fa, .long fb]))]) [10, 11, 12, 5, 9] rfl (j_rVN X (b := ql) (As := [.ref (tA 3), .int (nI m)]) (ci := 8) (rest := []) 2 (mX8_lay l G ql ql0 ql1 tn f1 f2 (tA 3) (nA 3) (ms 3) (so 3) (ln 3) (u 3) m (by first | assumption | omega | exact ob_s (by omega) | exact ob_n) (by first | assumption | omega | exact ob_s (by omega) | exact ob_n) (by first | assumption | omega | exact ob_s (by omega) | exact ob_n)) gX9_chance_X8_lay_n250 rfl rfl rfl (by decide +kernel) (by decide +kernel) (by decide +kernel) (by decide +kernel) (by decide +kernel) ⟨Nat.le_of_ble_eq_true rfl, Nat.le_of_ble_eq_true rfl⟩ rfl rfl 0 rfl [10, 11, 12, 5, 9] rfl rfl rfl (Nat.le_of_ble_eq_true rfl) dX9_chance_25 ⟨Nat.le_of_ble_eq_true rfl, Nat.le_of_ble_eq_true rfl⟩) rfl rfl ?_
      refine j_aload_n (pc := 28) X dX9_chance_28 rfl 1 rfl ?_
      refine j_get (pc := 29) X 9 i_X9 0 rfl rfl 7 (by decide) (by decide +kernel) rfl dX9_chance_29 ?_
      refine j_iload_n (pc := 32) X dX9_chance_32 rfl 4 rfl ?_
      refine j_aload_n (pc := 33) X dX9_chance_33 rfl 1 rfl ?_
      refine j_get (pc := 34) X 9 i_X9 0 rfl rfl 8 (by decide) (by decide +kernel) rfl dX9_chance_34 ?_
      refine j_cv (pc := 37) X (ws' := [(qx, .inr (9, [.ref qy, .ref qc, .ref qp, .ref qr, .ref qm, .ref qg, .ref qu, .ref ql, .ref qf, .int (nI lt)])), kT G qy 4 (tyF tA), (tA 0, .inr (7, [.ref (nA 0), .int (b2i (ms 0)), .int (nI (so 0)), .int (nI (ln 0))])), (tA 1, .inr (7, [.ref (nA 1), .int (b2i (ms 1)), .int (nI (so 1)), .int (nI (ln 1))])), (tA 2, .inr (7, [.ref (nA 2), .int (b2i (ms 2)), .int (nI (so 2)), .int (nI (ln 2))])), ((tA 3), .inr (7, [.ref (nA 3), .int (b2i (ms 3)), .int (nI (so 3)), .int (nI (ln 3))])), kJ G (nA 0) 40 (u 0), kJ G (nA 1) 40 (u 1), kJ G (nA 2) 40 (u 2), kJ G (nA 3) 40 (u 3), (ql, .inr (8, [.ref ql0, .ref ql1, .int (nI m)])), kJ G ql0 256 (pf (lsm (u 3) m 0) f1 256), kJ G ql1 256 (pf (lsm (u 3) m 8) f2 256), (qf, .inr (1, [.long (lN (ngF (sm2 (pf (lsm (u 3) m 0) f1 256) (pf (lsm (u 3) m 8) f2 256)) (sm2 (pf (lsm (u 3) m 0) f1 256) (pf (lsm (u 3) m 8) f2 256) t) (orb (pcn t 16)) (csF m (pcn t 16) (pcn t 16))) / lN (gdl (lN (ngF (sm2 (pf (lsm (u 3) m 0) f1 256) (pf (lsm (u 3) m 8) f2 256)) (sm2 (pf (lsm (u 3) m 0) f1 256) (pf (lsm (u 3) m 8) f2 256) t) (orb (pcn t 16)) (csF m (pcn t 16) (pcn t 16)))) (csF m (pcn t 16) (pcn t 16)))), .long (lN (csF m (pcn t 16) (pcn t 16)) / lN (gdl (lN (ngF (sm2 (pf (lsm (u 3) m 0) f1 256) (pf (lsm (u 3) m 8) f2 256)) (sm2 (pf (lsm (u 3) m 0) f1 256) (pf (lsm (u 3) m 8) f2 256) t) (orb (pcn t 16)) (csF m (pcn t 16) (pcn t 16)))) (csF m (pcn t 16) (pcn t 16))))]))]) [10, 11, 12, 13] rfl (j_rVN X (b := ql) (As := [.int (nI t), .ref qf]) (ci := 8) (rest := []) 2 (mX8_chanceOf l G ql ql0 ql1 m (pf (lsm (u 3) m 0) f1 256) (pf (lsm (u 3) m 8) f2 256) qf fa fb t (pcn t 16) (orb (pcn t 16)) (by first | assumption | omega | exact ob_s (by omega) | exact ob_n) (by first | assumption | omega | exact ob_s (by omega) | exact ob_n) (by exact hgn.1) (by exact hgn.2.1) (by exact hgn.2.2.1) (by exact (cs_LL hm16 (by have h9 := hgn.2.2.1; omega)).2) (by rfl) (by exact fun i hi => ⟨(orb_ok hm16 hgn.2.1 (by have h9 := hgn.2.2.1; omega) i hi).1, (orb_ok hm16 hgn.2.1 (by have h9 := hgn.2.2.1; omega) i hi).2.2⟩)) gX9_chance_X8_chanceOf_n257 rfl rfl rfl (by decide +kernel) (by decide +kernel) (by decide +kernel) (by decide +kernel) (by decide +kernel) ⟨Nat.le_of_ble_eq_true rfl, Nat.le_of_ble_eq_true rfl⟩ rfl rfl 0 rfl [10, 11, 12, 13] rfl rfl rfl (Nat.le_of_ble_eq_true rfl) dX9_chance_37 ⟨Nat.le_of_ble_eq_true rfl, Nat.le_of_ble_eq_true rfl⟩) rfl rfl ?_
      refine j_aload_n (pc := 40) X dX9_chance_40 rfl 1 rfl ?_
      refine j_iload (pc := 41) X dX9_chance_41 0 rfl ?_
      refine j_ci (pc := 43) X (ws' := [(qx, .inr (9, [.ref qy, .ref qc, .ref qp, .ref qr, .ref qm, .ref qg, .ref qu, .ref ql, .ref qf, .int (nI (trF ms ln u (nI 3) (nI m) (nI t)))])), kT G qy 4 (tyF tA), (tA 0, .inr (7, [.ref (nA 0), .int (b2i (ms 0)), .int (nI (so 0)), .int (nI (ln 0))])), (tA 1, .inr (7, [.ref (nA 1), .int (b2i (ms 1)), .int (nI (so 1)), .int (nI (ln 1))])), (tA 2, .inr (7, [.ref (nA 2), .int (b2i (ms 2)), .int (nI (so 2)), .int (nI (ln 2))])), ((tA 3), .inr (7, [.ref (nA 3), .int (b2i (ms 3)), .int (nI (so 3)), .int (nI (ln 3))])), kJ G (nA 0) 40 (u 0), kJ G (nA 1) 40 (u 1), kJ G (nA 2) 40 (u 2), kJ G (nA 3) 40 (u 3), (ql, .inr (8, [.ref ql0, .ref ql1, .int (nI m)])), kJ G ql0 256 (pf (lsm (u 3) m 0) f1 256), kJ G ql1 256 (pf (lsm (u 3) m 8) f2 256), (qf, .inr (1, [.long (lN (ngF (sm2 (pf (lsm (u 3) m 0) f1 256) (pf (lsm (u 3) m 8) f2 256)) (sm2 (pf (lsm (u 3) m 0) f1 256) (pf (lsm (u 3) m 8) f2 256) t) (orb (pcn t 16)) (csF m (pcn t 16) (pcn t 16))) / lN (gdl (lN (ngF (sm2 (pf (lsm (u 3) m 0) f1 256) (pf (lsm (u 3) m 8) f2 256)) (sm2 (pf (lsm (u 3) m 0) f1 256) (pf (lsm (u 3) m 8) f2 256) t) (orb (pcn t 16)) (csF m (pcn t 16) (pcn t 16)))) (csF m (pcn t 16) (pcn t 16)))), .long (lN (csF m (pcn t 16) (pcn t 16)) / lN (gdl (lN (ngF (sm2 (pf (lsm (u 3) m 0) f1 256) (pf (lsm (u 3) m 8) f2 256)) (sm2 (pf (lsm (u 3) m 0) f1 256) (pf (lsm (u 3) m 8) f2 256) t) (orb (pcn t 16)) (csF m (pcn t 16) (pcn t 16)))) (csF m (pcn t 16) (pcn t 16))))]))]) [0] rfl (j_rV X (b := qx) (As := [.int (nI (trF ms ln u (nI 3) (nI m) (nI t)))]) (ci := 9) (rest := []) 1 (mX9_finish l G qx qy qc qp qr qm qg qu ql qf lt (trF ms ln u (nI 3) (nI m) (nI t)) (by first | omega | exact Nat.lt_of_le_of_lt (trF_le _ _ _ _ _ _) (by decide))) gX9_chance_X9_finish rfl rfl rfl (by decide +kernel) ⟨Nat.le_of_ble_eq_true rfl, Nat.le_of_ble_eq_true rfl⟩ rfl rfl 0 rfl [0] rfl rfl rfl (Nat.le_of_ble_eq_true rfl) dX9_chance_43 ⟨Nat.le_of_ble_eq_true rfl, Nat.le_of_ble_eq_true rfl⟩) rfl rfl ?_
      have hs : sChance ms ln u fa fb tn f1 f2 (nI 3) (nI m) (nI t) = (decide ((trF ms ln u (nI 3) (nI m) (nI t)) = 0), (trF ms ln u (nI 3) (nI m) (nI t)), lN (ngF (sm2 (pf (lsm (u 3) m 0) f1 256) (pf (lsm (u 3) m 8) f2 256)) (sm2 (pf (lsm (u 3) m 0) f1 256) (pf (lsm (u 3) m 8) f2 256) t) (orb (pcn t 16)) (csF m (pcn t 16) (pcn t 16))) / lN (gdl (lN (ngF (sm2 (pf (lsm (u 3) m 0) f1 256) (pf (lsm (u 3) m 8) f2 256)) (sm2 (pf (lsm (u 3) m 0) f1 256) (pf (lsm (u 3) m 8) f2 256) t) (orb (pcn t 16)) (csF m (pcn t 16) (pcn t 16)))) (csF m (pcn t 16) (pcn t 16))), lN (csF m (pcn t 16) (pcn t 16)) / lN (gdl (lN (ngF (sm2 (pf (lsm (u 3) m 0) f1 256) (pf (lsm (u 3) m 8) f2 256)) (sm2 (pf (lsm (u 3) m 0) f1 256) (pf (lsm (u 3) m 8) f2 256) t) (orb (pcn t 16)) (csF m (pcn t 16) (pcn t 16)))) (csF m (pcn t 16) (pcn t 16))), m, (pf (lsm (u 3) m 0) f1 256), (pf (lsm (u 3) m 8) f2 256)) := by first | (simp [sChance, c_11]; done) | (simp only [ch_ok hm16 hou ht0 ht]; simp [sChance, tN, cl0, cl1, cl2, cl3, hq_k, hq_m, c_11, chA]; done)
      refine j_zret (pc := 46) X (b2i_nar _) dX9_chance_46 ?_
      rw [hs]; exact ⟨rfl, rfl⟩

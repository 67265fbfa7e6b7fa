set_option maxHeartbeats 4000000 in
set_option maxRecDepth 100000 in
theorem mX9_finish (l : Launch) (G : jG) (qx : Nat) (qy : Nat) (qc : Nat) (qp : Nat) (qr : Nat) (qm : Nat) (qg : Nat) (qu : Nat) (ql : Nat) (qf : Nat) (lt : Nat) (st : Nat) (hst : st < 100) : MV l yX9_finish wsX9_finish ({ frames := 0, cells := 0, slots := 0, locals := 0 }) G [.ref qx, .int (nI st)] [(qx, .inr (9, [.ref qy, .ref qc, .ref qp, .ref qr, .ref qm, .ref qg, .ref qu, .ref ql, .ref qf, .int (nI lt)]))] (some (.int (b2i (decide (st = 0))))) [(qx, .inr (9, [.ref qy, .ref qc, .ref qp, .ref qr, .ref qm, .ref qg, .ref qu, .ref ql, .ref qf, .int (nI st)]))] := by
  refine MF.ofJ (cc := cX9_finish) (maxL := 2) (ret := (some .boolean)) (own := RX9) (lv := [(0, .ref qx), (1, .int (nI st))]) (by decide) rfl rfl (Nat.le_of_ble_eq_true rfl) rfl ?_
  intro κ X
  have i_X9 : ∀ w ∈ wsX90, w ∈ wsX9_finish := by decide +kernel
  refine j_aload_n (pc := 0) X dX9_finish_0 rfl 0 rfl ?_
  refine j_iload_n (pc := 1) X dX9_finish_1 rfl 1 rfl ?_
  refine j_put (pc := 2) X (v := .int (nI st)) (ws' := [(qx, .inr (9, [.ref qy, .ref qc, .ref qp, .ref qr, .ref qm, .ref qg, .ref qu, .ref ql, .ref qf, .int (nI st)]))]) 9 i_X9 tyX9 tyX9_ok nmX9 0 rfl rfl 9 (by decide) (by decide +kernel) (by decide) (rfl) (rfl) (Nat.le_of_ble_eq_true rfl) dX9_finish_2 rfl ?_
  refine j_iload_n (pc := 5) X dX9_finish_5 rfl 1 rfl ?_
  refine j_ifN_ne (pc := 6) X (a := st) (by omega) (tgt := 13) dX9_finish_6 (by decide) (fun c_6 => ?_) (fun c_6 => ?_)
  · skip
    refine j_iconst (pc := 13) X (v := nI 0) dX9_finish_13 (by decide) ?_
    exact j_zret (pc := 14) X (rfl) dX9_finish_14 ⟨r0 (by simp [c_6]), rfl⟩
  · skip
    refine j_iconst (pc := 9) X (v := nI 1) dX9_finish_9 (by decide) ?_
    refine j_goto (pc := 10) X (tgt := 14) dX9_finish_10 (by decide) ?_
    exact j_zret (pc := 14) X (rfl) dX9_finish_14 ⟨r1 (by simp [c_6]), rfl⟩

set_option maxHeartbeats 4000000 in
set_option maxRecDepth 100000 in
theorem mX9_refused (l : Launch) (G : jG) (qx : Nat) (qy : Nat) (qc : Nat) (qp : Nat) (qr : Nat) (qm : Nat) (qg : Nat) (qu : Nat) (ql : Nat) (qf : Nat) (lt : Nat) (st : Nat)  : MV l yX9_refused wsX9_refused ({ frames := 0, cells := 0, slots := 0, locals := 0 }) G [.ref qx, .int (nI st)] [(qx, .inr (9, [.ref qy, .ref qc, .ref qp, .ref qr, .ref qm, .ref qg, .ref qu, .ref ql, .ref qf, .int (nI lt)]))] (some (.int (oI none))) [(qx, .inr (9, [.ref qy, .ref qc, .ref qp, .ref qr, .ref qm, .ref qg, .ref qu, .ref ql, .ref qf, .int (nI st)]))] := by
  refine MF.ofJ (cc := cX9_refused) (maxL := 2) (ret := (some .int)) (own := RX9) (lv := [(0, .ref qx), (1, .int (nI st))]) (by decide) rfl rfl (Nat.le_of_ble_eq_true rfl) rfl ?_
  intro κ X
  have i_X9 : ∀ w ∈ wsX90, w ∈ wsX9_refused := by decide +kernel
  refine j_aload_n (pc := 0) X dX9_refused_0 rfl 0 rfl ?_
  refine j_iload_n (pc := 1) X dX9_refused_1 rfl 1 rfl ?_
  refine j_put (pc := 2) X (v := .int (nI st)) (ws' := [(qx, .inr (9, [.ref qy, .ref qc, .ref qp, .ref qr, .ref qm, .ref qg, .ref qu, .ref ql, .ref qf, .int (nI st)]))]) 9 i_X9 tyX9 tyX9_ok nmX9 0 rfl rfl 9 (by decide) (by decide +kernel) (by decide) (rfl) (rfl) (Nat.le_of_ble_eq_true rfl) dX9_refused_2 rfl ?_
  refine j_iconst (pc := 5) X (v := oI none) dX9_refused_5 (by decide) ?_
  exact j_iret (pc := 6) X dX9_refused_6 ⟨rfl, rfl⟩

set_option maxHeartbeats 4000000 in
set_option maxRecDepth 100000 in
theorem mX9_answered (l : Launch) (G : jG) (qx : Nat) (qy : Nat) (qc : Nat) (qp : Nat) (qr : Nat) (qm : Nat) (qg : Nat) (qu : Nat) (ql : Nat) (qf : Nat) (lt : Nat) (x : Int32)  : MV l yX9_answered wsX9_answered ({ frames := 0, cells := 0, slots := 0, locals := 0 }) G [.ref qx, .int x] [(qx, .inr (9, [.ref qy, .ref qc, .ref qp, .ref qr, .ref qm, .ref qg, .ref qu, .ref ql, .ref qf, .int (nI lt)]))] (some (.int x)) [(qx, .inr (9, [.ref qy, .ref qc, .ref qp, .ref qr, .ref qm, .ref qg, .ref qu, .ref ql, .ref qf, .int (nI 0)]))] := by
  refine MF.ofJ (cc := cX9_answered) (maxL := 2) (ret := (some .int)) (own := RX9) (lv := [(0, .ref qx), (1, .int x)]) (by decide) rfl rfl (Nat.le_of_ble_eq_true rfl) rfl ?_
  intro κ X
  have i_X9 : ∀ w ∈ wsX90, w ∈ wsX9_answered := by decide +kernel
  refine j_aload_n (pc := 0) X dX9_answered_0 rfl 0 rfl ?_
  refine j_iconst (pc := 1) X (v := nI 0) dX9_answered_1 (by decide) ?_
  refine j_put (pc := 2) X (v := .int (nI 0)) (ws' := [(qx, .inr (9, [.ref qy, .ref qc, .ref qp, .ref qr, .ref qm, .ref qg, .ref qu, .ref ql, .ref qf, .int (nI 0)]))]) 9 i_X9 tyX9 tyX9_ok nmX9 0 rfl rfl 9 (by decide) (by decide +kernel) (by decide) (rfl) (rfl) (Nat.le_of_ble_eq_true rfl) dX9_answered_2 rfl ?_
  refine j_iload_n (pc := 5) X dX9_answered_5 rfl 1 rfl ?_
  exact j_iret (pc := 6) X dX9_answered_6 ⟨rfl, rfl⟩

set_option maxHeartbeats 4000000 in
set_option maxRecDepth 100000 in
theorem mX9_isTray (l : Launch) (G : jG) (x : Int32)  : MV l yX9_isTray wsX9_isTray ({ frames := 0, cells := 0, slots := 0, locals := 0 }) G [.int x] [] (some (.int (b2i (inR x 4)))) [] := by
  refine MF.ofJ (cc := cX9_isTray) (maxL := 1) (ret := (some .boolean)) (own := RX9) (lv := [(0, .int x)]) (by decide) rfl rfl (Nat.le_of_ble_eq_true rfl) rfl ?_
  intro κ X
  refine j_iload_n (pc := 0) X dX9_isTray_0 rfl 0 rfl ?_
  refine j_if_lt (pc := 1) X (x := x) (tgt := 13) dX9_isTray_1 (by decide) (fun c_1 => ?_) (fun c_1 => ?_)
  · skip
    refine j_iconst (pc := 13) X (v := nI 0) dX9_isTray_13 (by decide) ?_
    exact j_zret (pc := 14) X (rfl) dX9_isTray_14 ⟨r0 (by simp [inR, c_1]), rfl⟩
  · skip
    refine j_iload_n (pc := 4) X dX9_isTray_4 rfl 0 rfl ?_
    refine j_iconst (pc := 5) X (v := nI 4) dX9_isTray_5 (by decide) ?_
    refine j_icmp_ge (pc := 6) X (x := x) (z := nI 4) (tgt := 13) dX9_isTray_6 (by decide) (fun c_6 => ?_) (fun c_6 => ?_)
    · skip
      refine j_iconst (pc := 13) X (v := nI 0) dX9_isTray_13 (by decide) ?_
      exact j_zret (pc := 14) X (rfl) dX9_isTray_14 ⟨r0 (by simp [inR, c_1, c_6]), rfl⟩
    · skip
      refine j_iconst (pc := 9) X (v := nI 1) dX9_isTray_9 (by decide) ?_
      refine j_goto (pc := 10) X (tgt := 14) dX9_isTray_10 (by decide) ?_
      exact j_zret (pc := 14) X (rfl) dX9_isTray_14 ⟨r1 (by simp [inR, c_1, c_6]), rfl⟩

set_option maxHeartbeats 4000000 in
set_option maxRecDepth 100000 in
theorem mX9_isPlaces (l : Launch) (G : jG) (x : Int32)  : MV l yX9_isPlaces wsX9_isPlaces ({ frames := 0, cells := 0, slots := 0, locals := 0 }) G [.int x] [] (some (.int (b2i (inC x 4)))) [] := by
  refine MF.ofJ (cc := cX9_isPlaces) (maxL := 1) (ret := (some .boolean)) (own := RX9) (lv := [(0, .int x)]) (by decide) rfl rfl (Nat.le_of_ble_eq_true rfl) rfl ?_
  intro κ X
  refine j_iload_n (pc := 0) X dX9_isPlaces_0 rfl 0 rfl ?_
  refine j_if_lt (pc := 1) X (x := x) (tgt := 13) dX9_isPlaces_1 (by decide) (fun c_1 => ?_) (fun c_1 => ?_)
  · skip
    refine j_iconst (pc := 13) X (v := nI 0) dX9_isPlaces_13 (by decide) ?_
    exact j_zret (pc := 14) X (rfl) dX9_isPlaces_14 ⟨r0 (by simp [inC, c_1]), rfl⟩
  · skip
    refine j_iload_n (pc := 4) X dX9_isPlaces_4 rfl 0 rfl ?_
    refine j_iconst (pc := 5) X (v := nI 4) dX9_isPlaces_5 (by decide) ?_
    refine j_icmp_gt (pc := 6) X (x := x) (z := nI 4) (tgt := 13) dX9_isPlaces_6 (by decide) (fun c_6 => ?_) (fun c_6 => ?_)
    · skip
      refine j_iconst (pc := 13) X (v := nI 0) dX9_isPlaces_13 (by decide) ?_
      exact j_zret (pc := 14) X (rfl) dX9_isPlaces_14 ⟨r0 (by simp [inC, c_1, c_6]), rfl⟩
    · skip
      refine j_iconst (pc := 9) X (v := nI 1) dX9_isPlaces_9 (by decide) ?_
      refine j_goto (pc := 10) X (tgt := 14) dX9_isPlaces_10 (by decide) ?_
      exact j_zret (pc := 14) X (rfl) dX9_isPlaces_14 ⟨r1 (by simp [inC, c_1, c_6]), rfl⟩

set_option maxHeartbeats 4000000 in
set_option maxRecDepth 100000 in
theorem mX9_isDay (l : Launch) (G : jG) (x : Int32)  : MV l yX9_isDay wsX9_isDay ({ frames := 0, cells := 0, slots := 0, locals := 0 }) G [.int x] [] (some (.int (b2i (inC x 9999)))) [] := by
  refine MF.ofJ (cc := cX9_isDay) (maxL := 1) (ret := (some .boolean)) (own := RX9) (lv := [(0, .int x)]) (by decide) rfl rfl (Nat.le_of_ble_eq_true rfl) rfl ?_
  intro κ X
  refine j_iload_n (pc := 0) X dX9_isDay_0 rfl 0 rfl ?_
  refine j_if_lt (pc := 1) X (x := x) (tgt := 15) dX9_isDay_1 (by decide) (fun c_1 => ?_) (fun c_1 => ?_)
  · skip
    refine j_iconst (pc := 15) X (v := nI 0) dX9_isDay_15 (by decide) ?_
    exact j_zret (pc := 16) X (rfl) dX9_isDay_16 ⟨r0 (by simp [inC, c_1]), rfl⟩
  · skip
    refine j_iload_n (pc := 4) X dX9_isDay_4 rfl 0 rfl ?_
    refine j_sipush (pc := 5) X (v := nI 9999) dX9_isDay_5 (by decide) ?_
    refine j_icmp_gt (pc := 8) X (x := x) (z := nI 9999) (tgt := 15) dX9_isDay_8 (by decide) (fun c_8 => ?_) (fun c_8 => ?_)
    · skip
      refine j_iconst (pc := 15) X (v := nI 0) dX9_isDay_15 (by decide) ?_
      exact j_zret (pc := 16) X (rfl) dX9_isDay_16 ⟨r0 (by simp [inC, c_1, c_8]), rfl⟩
    · skip
      refine j_iconst (pc := 11) X (v := nI 1) dX9_isDay_11 (by decide) ?_
      refine j_goto (pc := 12) X (tgt := 16) dX9_isDay_12 (by decide) ?_
      exact j_zret (pc := 16) X (rfl) dX9_isDay_16 ⟨r1 (by simp [inC, c_1, c_8]), rfl⟩

set_option maxHeartbeats 4000000 in
set_option maxRecDepth 100000 in
theorem mX9_status (l : Launch) (G : jG) (qx : Nat) (qy : Nat) (qc : Nat) (qp : Nat) (qr : Nat) (qm : Nat) (qg : Nat) (qu : Nat) (ql : Nat) (qf : Nat) (lt : Nat)  : MV l yX9_status wsX9_status ({ frames := 0, cells := 0, slots := 0, locals := 0 }) G [.ref qx] [(qx, .inr (9, [.ref qy, .ref qc, .ref qp, .ref qr, .ref qm, .ref qg, .ref qu, .ref ql, .ref qf, .int (nI lt)]))] (some (.int (nI lt))) [(qx, .inr (9, [.ref qy, .ref qc, .ref qp, .ref qr, .ref qm, .ref qg, .ref qu, .ref ql, .ref qf, .int (nI lt)]))] := by
  refine MF.ofJ (cc := cX9_status) (maxL := 1) (ret := (some .int)) (own := RX9) (lv := [(0, .ref qx)]) (by decide) rfl rfl (Nat.le_of_ble_eq_true rfl) rfl ?_
  intro κ X
  have i_X9 : ∀ w ∈ wsX90, w ∈ wsX9_status := by decide +kernel
  refine j_aload_n (pc := 0) X dX9_status_0 rfl 0 rfl ?_
  refine j_get (pc := 1) X 9 i_X9 0 rfl rfl 9 (by decide) (by decide +kernel) rfl dX9_status_1 ?_
  exact j_iret (pc := 4) X dX9_status_4 ⟨rfl, rfl⟩

set_option maxHeartbeats 4000000 in
set_option maxRecDepth 100000 in
theorem mX9_upper (l : Launch) (G : jG) (qx : Nat) (qy : Nat) (qc : Nat) (qp : Nat) (qr : Nat) (qm : Nat) (qg : Nat) (qu : Nat) (ql : Nat) (qf : Nat) (lt : Nat) (fa : Int64) (fb : Int64)  : MV l yX9_upper wsX9_upper ({ frames := 0, cells := 0, slots := 0, locals := 0 }) G [.ref qx] [(qx, .inr (9, [.ref qy, .ref qc, .ref qp, .ref qr, .ref qm, .ref qg, .ref qu, .ref ql, .ref qf, .int (nI lt)])), (qf, .inr (1, [.long fa, .long fb]))] (some (.long fa)) [(qx, .inr (9, [.ref qy, .ref qc, .ref qp, .ref qr, .ref qm, .ref qg, .ref qu, .ref ql, .ref qf, .int (nI lt)])), (qf, .inr (1, [.long fa, .long fb]))] := by
  refine MF.ofJ (cc := cX9_upper) (maxL := 1) (ret := (some .long)) (own := RX9) (lv := [(0, .ref qx)]) (by decide) rfl rfl (Nat.le_of_ble_eq_true rfl) rfl ?_
  intro κ X
  have i_X1 : ∀ w ∈ wsX10, w ∈ wsX9_upper := by decide +kernel
  have i_X9 : ∀ w ∈ wsX90, w ∈ wsX9_upper := by decide +kernel
  refine j_aload_n (pc := 0) X dX9_upper_0 rfl 0 rfl ?_
  refine j_get (pc := 1) X 9 i_X9 0 rfl rfl 8 (by decide) (by decide +kernel) rfl dX9_upper_1 ?_
  refine j_getN (pc := 4) X 1 i_X1 1 rfl rfl 0 (by decide) (by decide +kernel) rfl dX9_upper_4 ?_
  exact j_lret (pc := 7) X dX9_upper_7 ⟨rfl, rfl⟩

set_option maxHeartbeats 4000000 in
set_option maxRecDepth 100000 in
theorem mX9_lower (l : Launch) (G : jG) (qx : Nat) (qy : Nat) (qc : Nat) (qp : Nat) (qr : Nat) (qm : Nat) (qg : Nat) (qu : Nat) (ql : Nat) (qf : Nat) (lt : Nat) (fa : Int64) (fb : Int64)  : MV l yX9_lower wsX9_lower ({ frames := 0, cells := 0, slots := 0, locals := 0 }) G [.ref qx] [(qx, .inr (9, [.ref qy, .ref qc, .ref qp, .ref qr, .ref qm, .ref qg, .ref qu, .ref ql, .ref qf, .int (nI lt)])), (qf, .inr (1, [.long fa, .long fb]))] (some (.long fb)) [(qx, .inr (9, [.ref qy, .ref qc, .ref qp, .ref qr, .ref qm, .ref qg, .ref qu, .ref ql, .ref qf, .int (nI lt)])), (qf, .inr (1, [.long fa, .long fb]))] := by
  refine MF.ofJ (cc := cX9_lower) (maxL := 1) (ret := (some .long)) (own := RX9) (lv := [(0, .ref qx)]) (by decide) rfl rfl (Nat.le_of_ble_eq_true rfl) rfl ?_
  intro κ X
  have i_X1 : ∀ w ∈ wsX10, w ∈ wsX9_lower := by decide +kernel
  have i_X9 : ∀ w ∈ wsX90, w ∈ wsX9_lower := by decide +kernel
  refine j_aload_n (pc := 0) X dX9_lower_0 rfl 0 rfl ?_
  refine j_get (pc := 1) X 9 i_X9 0 rfl rfl 8 (by decide) (by decide +kernel) rfl dX9_lower_1 ?_
  refine j_getN (pc := 4) X 1 i_X1 1 rfl rfl 1 (by decide) (by decide +kernel) rfl dX9_lower_4 ?_
  exact j_lret (pc := 7) X dX9_lower_7 ⟨rfl, rfl⟩

set_option maxHeartbeats 4000000 in
set_option maxRecDepth 100000 in
theorem mX9_elder (l : Launch) (G : jG) (qx : Nat) (qy : Nat) (qc : Nat) (qp : Nat) (qr : Nat) (qm : Nat) (qg : Nat) (qu : Nat) (ql : Nat) (qf : Nat) (lt : Nat) (qc0 : Nat) (qc1 : Nat) (qc2 : Nat) (qc3 : Nat) (el : Nat) (be : Nat) (pl : Nat → Nat) (x : Int32) (hel : el ≤ 12) : MV l yX9_elder wsX9_elder ({ frames := 1, cells := 0, slots := 0, locals := 21 }) G [.ref qx, .int x] [(qx, .inr (9, [.ref qy, .ref qc, .ref qp, .ref qr, .ref qm, .ref qg, .ref qu, .ref ql, .ref qf, .int (nI lt)])), (qc, .inr (0, [.ref qc0, .ref qc1, .ref qc2, .ref qc3, .int (nI el), .int (nI be)])), kI G qc0 12 (nF pl)] (some (.int (oI ((sElder el pl x).1)))) [(qx, .inr (9, [.ref qy, .ref qc, .ref qp, .ref qr, .ref qm, .ref qg, .ref qu, .ref ql, .ref qf, .int (nI ((sElder el pl x).2.1))])), (qc, .inr (0, [.ref qc0, .ref qc1, .ref qc2, .ref qc3, .int (nI ((sElder el pl x).2.2.1)), .int (nI be)])), kI G qc0 12 (nF ((sElder el pl x).2.2.2))] := by
  refine MF.ofJ (cc := cX9_elder) (maxL := 2) (ret := (some .int)) (own := RX9) (lv := [(0, .ref qx), (1, .int x)]) (by decide) rfl rfl (Nat.le_of_ble_eq_true rfl) rfl ?_
  intro κ X
  have i_X0 : ∀ w ∈ wsX00, w ∈ wsX9_elder := by decide +kernel
  have i_X9 : ∀ w ∈ wsX90, w ∈ wsX9_elder := by decide +kernel
  refine j_iload_n (pc := 0) X dX9_elder_0 rfl 1 rfl ?_
  refine j_ciP (pc := 1) X [] rfl (j_rS X (As := [.int x]) (rest := []) 1 (mX9_isPlaces l G x ) gX9_elder_X9_isPlaces rfl rfl rfl (by decide +kernel) ⟨Nat.le_of_ble_eq_true rfl, Nat.le_of_ble_eq_true rfl⟩ rfl [] rfl rfl rfl (Nat.le_of_ble_eq_true rfl) dX9_elder_1 ⟨Nat.le_of_ble_eq_true rfl, Nat.le_of_ble_eq_true rfl⟩) ?_
  refine j_ifb_ne (pc := 4) X (B := inC x 4) (tgt := 13) dX9_elder_4 (by decide) (fun c_4 => ?_) (fun c_4 => ?_)
  · skip
    obtain ⟨j, hj, rfl⟩ := inC_of c_4 (by decide); have hcj_v := nI_clamp (n := j) (by omega)
    refine j_aload_n (pc := 13) X dX9_elder_13 rfl 0 rfl ?_
    refine j_get (pc := 14) X 9 i_X9 0 rfl rfl 1 (by decide) (by decide +kernel) rfl dX9_elder_14 ?_
    refine j_getN (pc := 17) X 0 i_X0 1 rfl rfl 4 (by decide) (by decide +kernel) rfl dX9_elder_17 ?_
    refine j_bipush (pc := 20) X (v := nI 12) dX9_elder_20 (by decide) ?_
    refine j_icmpN_lt (pc := 22) X (a := el) (b := 12) (by omega) (by omega) (tgt := 32) dX9_elder_22 (by decide) (fun c_22 => ?_) (fun c_22 => ?_)
    · skip
      refine j_aload_n (pc := 32) X dX9_elder_32 rfl 0 rfl ?_
      refine j_aload_n (pc := 33) X dX9_elder_33 rfl 0 rfl ?_
      refine j_get (pc := 34) X 9 i_X9 0 rfl rfl 1 (by decide) (by decide +kernel) rfl dX9_elder_34 ?_
      refine j_iload_n (pc := 37) X dX9_elder_37 rfl 1 rfl ?_
      refine j_ci (pc := 38) X (ws' := [(qx, .inr (9, [.ref qy, .ref qc, .ref qp, .ref qr, .ref qm, .ref qg, .ref qu, .ref ql, .ref qf, .int (nI lt)])), (qc, .inr (0, [.ref qc0, .ref qc1, .ref qc2, .ref qc3, .int (nI (el + 1)), .int (nI be)])), kI G qc0 12 (nF (va_up pl el j))]) [1, 2] rfl (j_rVN X (b := qc) (As := [.int (nI j)]) (ci := 0) (rest := [.ref qx]) 1 (mX0_addElder l G qc qc0 qc1 qc2 qc3 el be pl j (by first | assumption | omega | exact ob_s (by omega) | exact ob_n)) gX9_elder_X0_addElder_n121 rfl rfl rfl (by decide +kernel) (by decide +kernel) (by decide +kernel) (by decide +kernel) (by decide +kernel) ⟨Nat.le_of_ble_eq_true rfl, Nat.le_of_ble_eq_true rfl⟩ rfl rfl 0 rfl [1, 2] rfl rfl rfl (Nat.le_of_ble_eq_true rfl) dX9_elder_38 ⟨Nat.le_of_ble_eq_true rfl, Nat.le_of_ble_eq_true rfl⟩) rfl rfl ?_
      refine j_ci (pc := 41) X (ws' := [(qx, .inr (9, [.ref qy, .ref qc, .ref qp, .ref qr, .ref qm, .ref qg, .ref qu, .ref ql, .ref qf, .int (nI 0)])), (qc, .inr (0, [.ref qc0, .ref qc1, .ref qc2, .ref qc3, .int (nI (el + 1)), .int (nI be)])), kI G qc0 12 (nF (va_up pl el j))]) [0] rfl (j_rV X (b := qx) (As := [.int (nI el)]) (ci := 9) (rest := []) 1 (mX9_answered l G qx qy qc qp qr qm qg qu ql qf lt (nI el) ) gX9_elder_X9_answered rfl rfl rfl (by decide +kernel) ⟨Nat.le_of_ble_eq_true rfl, Nat.le_of_ble_eq_true rfl⟩ rfl rfl 0 rfl [0] rfl rfl rfl (Nat.le_of_ble_eq_true rfl) dX9_elder_41 ⟨Nat.le_of_ble_eq_true rfl, Nat.le_of_ble_eq_true rfl⟩) rfl rfl ?_
      have hs : sElder el pl (nI j) = (some el, 0, el + 1, va_up pl el j) := by first | (simp [sElder, c_4, c_22]; done) | (simp [sElder, tN, c_4, c_22]; done) | (simp [sElder, tN, hcj_v, c_4, c_22]; done) | (simp [sElder, tN, hcj_v, hck_v, c_4, c_22]; done) | (simp [sElder, tN, hcj_v, hck_v, hcm_v, c_4, c_22]; done)
      refine j_iret (pc := 44) X dX9_elder_44 ?_
      rw [hs]; exact ⟨rfl, rfl⟩
    · skip
      refine j_aload_n (pc := 25) X dX9_elder_25 rfl 0 rfl ?_
      refine j_bipush (pc := 26) X (v := nI 7) dX9_elder_26 (by decide) ?_
      refine j_ci (pc := 28) X (ws' := [(qx, .inr (9, [.ref qy, .ref qc, .ref qp, .ref qr, .ref qm, .ref qg, .ref qu, .ref ql, .ref qf, .int (nI 7)])), (qc, .inr (0, [.ref qc0, .ref qc1, .ref qc2, .ref qc3, .int (nI el), .int (nI be)])), kI G qc0 12 (nF pl)]) [0] rfl (j_rV X (b := qx) (As := [.int (nI 7)]) (ci := 9) (rest := []) 1 (mX9_refused l G qx qy qc qp qr qm qg qu ql qf lt 7 ) gX9_elder_X9_refused rfl rfl rfl (by decide +kernel) ⟨Nat.le_of_ble_eq_true rfl, Nat.le_of_ble_eq_true rfl⟩ rfl rfl 0 rfl [0] rfl rfl rfl (Nat.le_of_ble_eq_true rfl) dX9_elder_28 ⟨Nat.le_of_ble_eq_true rfl, Nat.le_of_ble_eq_true rfl⟩) rfl rfl ?_
      have hs : sElder el pl (nI j) = (none, 7, el, pl) := by first | (simp [sElder, c_4, c_22]; done) | (simp [sElder, tN, c_4, c_22]; done) | (simp [sElder, tN, hcj_v, c_4, c_22]; done) | (simp [sElder, tN, hcj_v, hck_v, c_4, c_22]; done) | (simp [sElder, tN, hcj_v, hck_v, hcm_v, c_4, c_22]; done)
      refine j_iret (pc := 31) X dX9_elder_31 ?_
      rw [hs]; exact ⟨rfl, rfl⟩
  · skip
    refine j_aload_n (pc := 7) X dX9_elder_7 rfl 0 rfl ?_
    refine j_iconst (pc := 8) X (v := nI 5) dX9_elder_8 (by decide) ?_
    refine j_ci (pc := 9) X (ws' := [(qx, .inr (9, [.ref qy, .ref qc, .ref qp, .ref qr, .ref qm, .ref qg, .ref qu, .ref ql, .ref qf, .int (nI 5)])), (qc, .inr (0, [.ref qc0, .ref qc1, .ref qc2, .ref qc3, .int (nI el), .int (nI be)])), kI G qc0 12 (nF pl)]) [0] rfl (j_rV X (b := qx) (As := [.int (nI 5)]) (ci := 9) (rest := []) 1 (mX9_refused l G qx qy qc qp qr qm qg qu ql qf lt 5 ) gX9_elder_X9_refused rfl rfl rfl (by decide +kernel) ⟨Nat.le_of_ble_eq_true rfl, Nat.le_of_ble_eq_true rfl⟩ rfl rfl 0 rfl [0] rfl rfl rfl (Nat.le_of_ble_eq_true rfl) dX9_elder_9 ⟨Nat.le_of_ble_eq_true rfl, Nat.le_of_ble_eq_true rfl⟩) rfl rfl ?_
    have hs : sElder el pl x = (none, 5, el, pl) := by first | (simp [sElder, c_4]; done) | (simp [sElder, tN, c_4]; done) | (simp [sElder, tN, hcj_v, c_4]; done) | (simp [sElder, tN, hcj_v, hck_v, c_4]; done) | (simp [sElder, tN, hcj_v, hck_v, hcm_v, c_4]; done)
    refine j_iret (pc := 12) X dX9_elder_12 ?_
    rw [hs]; exact ⟨rfl, rfl⟩

set_option maxHeartbeats 4000000 in
set_option maxRecDepth 100000 in
theorem mX9_beginner (l : Launch) (G : jG) (qx : Nat) (qy : Nat) (qc : Nat) (qp : Nat) (qr : Nat) (qm : Nat) (qg : Nat) (qu : Nat) (ql : Nat) (qf : Nat) (lt : Nat) (qc0 : Nat) (qc1 : Nat) (qc2 : Nat) (qc3 : Nat) (el : Nat) (be : Nat) (hbe : be ≤ 16) : MV l yX9_beginner wsX9_beginner ({ frames := 1, cells := 0, slots := 0, locals := 21 }) G [.ref qx] [(qx, .inr (9, [.ref qy, .ref qc, .ref qp, .ref qr, .ref qm, .ref qg, .ref qu, .ref ql, .ref qf, .int (nI lt)])), (qc, .inr (0, [.ref qc0, .ref qc1, .ref qc2, .ref qc3, .int (nI el), .int (nI be)]))] (some (.int (oI ((sBeg be).1)))) [(qx, .inr (9, [.ref qy, .ref qc, .ref qp, .ref qr, .ref qm, .ref qg, .ref qu, .ref ql, .ref qf, .int (nI ((sBeg be).2.1))])), (qc, .inr (0, [.ref qc0, .ref qc1, .ref qc2, .ref qc3, .int (nI el), .int (nI ((sBeg be).2.2))]))] := by
  refine MF.ofJ (cc := cX9_beginner) (maxL := 1) (ret := (some .int)) (own := RX9) (lv := [(0, .ref qx)]) (by decide) rfl rfl (Nat.le_of_ble_eq_true rfl) rfl ?_
  intro κ X
  have i_X0 : ∀ w ∈ wsX00, w ∈ wsX9_beginner := by decide +kernel
  have i_X9 : ∀ w ∈ wsX90, w ∈ wsX9_beginner := by decide +kernel
  refine j_aload_n (pc := 0) X dX9_beginner_0 rfl 0 rfl ?_
  refine j_get (pc := 1) X 9 i_X9 0 rfl rfl 1 (by decide) (by decide +kernel) rfl dX9_beginner_1 ?_
  refine j_getN (pc := 4) X 0 i_X0 1 rfl rfl 5 (by decide) (by decide +kernel) rfl dX9_beginner_4 ?_
  refine j_bipush (pc := 7) X (v := nI 16) dX9_beginner_7 (by decide) ?_
  refine j_icmpN_lt (pc := 9) X (a := be) (b := 16) (by omega) (by omega) (tgt := 19) dX9_beginner_9 (by decide) (fun c_9 => ?_) (fun c_9 => ?_)
  · skip
    refine j_aload_n (pc := 19) X dX9_beginner_19 rfl 0 rfl ?_
    refine j_aload_n (pc := 20) X dX9_beginner_20 rfl 0 rfl ?_
    refine j_get (pc := 21) X 9 i_X9 0 rfl rfl 1 (by decide) (by decide +kernel) rfl dX9_beginner_21 ?_
    refine j_ci (pc := 24) X (ws' := [(qx, .inr (9, [.ref qy, .ref qc, .ref qp, .ref qr, .ref qm, .ref qg, .ref qu, .ref ql, .ref qf, .int (nI lt)])), (qc, .inr (0, [.ref qc0, .ref qc1, .ref qc2, .ref qc3, .int (nI el), .int (nI (be + 1))]))]) [1] rfl (j_rVN X (b := qc) (As := []) (ci := 0) (rest := [.ref qx]) 0 (mX0_addBeginner l G qc qc0 qc1 qc2 qc3 el be ) gX9_beginner_X0_addBeginner_n130 rfl rfl rfl (by decide +kernel) (by decide +kernel) (by decide +kernel) (by decide +kernel) (by decide +kernel) ⟨Nat.le_of_ble_eq_true rfl, Nat.le_of_ble_eq_true rfl⟩ rfl rfl 0 rfl [1] rfl rfl rfl (Nat.le_of_ble_eq_true rfl) dX9_beginner_24 ⟨Nat.le_of_ble_eq_true rfl, Nat.le_of_ble_eq_true rfl⟩) rfl rfl ?_
    refine j_ci (pc := 27) X (ws' := [(qx, .inr (9, [.ref qy, .ref qc, .ref qp, .ref qr, .ref qm, .ref qg, .ref qu, .ref ql, .ref qf, .int (nI 0)])), (qc, .inr (0, [.ref qc0, .ref qc1, .ref qc2, .ref qc3, .int (nI el), .int (nI (be + 1))]))]) [0] rfl (j_rV X (b := qx) (As := [.int (nI be)]) (ci := 9) (rest := []) 1 (mX9_answered l G qx qy qc qp qr qm qg qu ql qf lt (nI be) ) gX9_beginner_X9_answered rfl rfl rfl (by decide +kernel) ⟨Nat.le_of_ble_eq_true rfl, Nat.le_of_ble_eq_true rfl⟩ rfl rfl 0 rfl [0] rfl rfl rfl (Nat.le_of_ble_eq_true rfl) dX9_beginner_27 ⟨Nat.le_of_ble_eq_true rfl, Nat.le_of_ble_eq_true rfl⟩) rfl rfl ?_
    have hs : sBeg be = (some be, 0, be + 1) := by first | (simp [sBeg, c_9]; done) | (simp [sBeg, tN, c_9]; done) | (simp [sBeg, tN, hcj_v, c_9]; done) | (simp [sBeg, tN, hcj_v, hck_v, c_9]; done) | (simp [sBeg, tN, hcj_v, hck_v, hcm_v, c_9]; done)
    refine j_iret (pc := 30) X dX9_beginner_30 ?_
    rw [hs]; exact ⟨rfl, rfl⟩
  · skip
    refine j_aload_n (pc := 12) X dX9_beginner_12 rfl 0 rfl ?_
    refine j_bipush (pc := 13) X (v := nI 7) dX9_beginner_13 (by decide) ?_
    refine j_ci (pc := 15) X (ws' := [(qx, .inr (9, [.ref qy, .ref qc, .ref qp, .ref qr, .ref qm, .ref qg, .ref qu, .ref ql, .ref qf, .int (nI 7)])), (qc, .inr (0, [.ref qc0, .ref qc1, .ref qc2, .ref qc3, .int (nI el), .int (nI be)]))]) [0] rfl (j_rV X (b := qx) (As := [.int (nI 7)]) (ci := 9) (rest := []) 1 (mX9_refused l G qx qy qc qp qr qm qg qu ql qf lt 7 ) gX9_beginner_X9_refused rfl rfl rfl (by decide +kernel) ⟨Nat.le_of_ble_eq_true rfl, Nat.le_of_ble_eq_true rfl⟩ rfl rfl 0 rfl [0] rfl rfl rfl (Nat.le_of_ble_eq_true rfl) dX9_beginner_15 ⟨Nat.le_of_ble_eq_true rfl, Nat.le_of_ble_eq_true rfl⟩) rfl rfl ?_
    have hs : sBeg be = (none, 7, be) := by first | (simp [sBeg, c_9]; done) | (simp [sBeg, tN, c_9]; done) | (simp [sBeg, tN, hcj_v, c_9]; done) | (simp [sBeg, tN, hcj_v, hck_v, c_9]; done) | (simp [sBeg, tN, hcj_v, hck_v, hcm_v, c_9]; done)
    refine j_iret (pc := 18) X dX9_beginner_18 ?_
    rw [hs]; exact ⟨rfl, rfl⟩

set_option maxHeartbeats 4000000 in
set_option maxRecDepth 100000 in
theorem mX9_places (l : Launch) (G : jG) (qx : Nat) (qy : Nat) (qc : Nat) (qp : Nat) (qr : Nat) (qm : Nat) (qg : Nat) (qu : Nat) (ql : Nat) (qf : Nat) (lt : Nat) (qc0 : Nat) (qc1 : Nat) (qc2 : Nat) (qc3 : Nat) (el : Nat) (be : Nat) (pl : Nat → Nat) (x : Int32) (z : Int32) (hel : el ≤ 12) : MV l yX9_places wsX9_places ({ frames := 1, cells := 0, slots := 0, locals := 21 }) G [.ref qx, .int x, .int z] [(qx, .inr (9, [.ref qy, .ref qc, .ref qp, .ref qr, .ref qm, .ref qg, .ref qu, .ref ql, .ref qf, .int (nI lt)])), (qc, .inr (0, [.ref qc0, .ref qc1, .ref qc2, .ref qc3, .int (nI el), .int (nI be)])), kI G qc0 12 (nF pl)] (some (.int (b2i ((sPlaces el pl x z).1)))) [(qx, .inr (9, [.ref qy, .ref qc, .ref qp, .ref qr, .ref qm, .ref qg, .ref qu, .ref ql, .ref qf, .int (nI ((sPlaces el pl x z).2.1))])), (qc, .inr (0, [.ref qc0, .ref qc1, .ref qc2, .ref qc3, .int (nI el), .int (nI be)])), kI G qc0 12 (nF ((sPlaces el pl x z).2.2))] := by
  refine MF.ofJ (cc := cX9_places) (maxL := 3) (ret := (some .boolean)) (own := RX9) (lv := [(0, .ref qx), (1, .int x), (2, .int z)]) (by decide) rfl rfl (Nat.le_of_ble_eq_true rfl) rfl ?_
  intro κ X
  have i_X0 : ∀ w ∈ wsX00, w ∈ wsX9_places := by decide +kernel
  have i_X9 : ∀ w ∈ wsX90, w ∈ wsX9_places := by decide +kernel
  refine j_aload_n (pc := 0) X dX9_places_0 rfl 0 rfl ?_
  refine j_get (pc := 1) X 9 i_X9 0 rfl rfl 1 (by decide) (by decide +kernel) rfl dX9_places_1 ?_
  refine j_iload_n (pc := 4) X dX9_places_4 rfl 1 rfl ?_
  refine j_ciP (pc := 5) X [1] rfl (j_rVN X (b := qc) (As := [.int x]) (ci := 0) (rest := []) 1 (mX0_isElder l G qc qc0 qc1 qc2 qc3 el be x ) gX9_places_X0_isElder_n134 rfl rfl rfl (by decide +kernel) (by decide +kernel) (by decide +kernel) (by decide +kernel) (by decide +kernel) ⟨Nat.le_of_ble_eq_true rfl, Nat.le_of_ble_eq_true rfl⟩ rfl rfl 0 rfl [1] rfl rfl rfl (Nat.le_of_ble_eq_true rfl) dX9_places_5 ⟨Nat.le_of_ble_eq_true rfl, Nat.le_of_ble_eq_true rfl⟩) ?_
  refine j_ifb_ne (pc := 8) X (B := inR x el) (tgt := 17) dX9_places_8 (by decide) (fun c_8 => ?_) (fun c_8 => ?_)
  · skip
    obtain ⟨j, hj, rfl⟩ := inR_of c_8 (by omega); have hcj_v := nI_clamp (n := j) (by omega)
    refine j_iload_n (pc := 17) X dX9_places_17 rfl 2 rfl ?_
    refine j_ciP (pc := 18) X [] rfl (j_rS X (As := [.int z]) (rest := []) 1 (mX9_isPlaces l G z ) gX9_places_X9_isPlaces rfl rfl rfl (by decide +kernel) ⟨Nat.le_of_ble_eq_true rfl, Nat.le_of_ble_eq_true rfl⟩ rfl [] rfl rfl rfl (Nat.le_of_ble_eq_true rfl) dX9_places_18 ⟨Nat.le_of_ble_eq_true rfl, Nat.le_of_ble_eq_true rfl⟩) ?_
    refine j_ifb_ne (pc := 21) X (B := inC z 4) (tgt := 30) dX9_places_21 (by decide) (fun c_21 => ?_) (fun c_21 => ?_)
    · skip
      obtain ⟨k, hk, rfl⟩ := inC_of c_21 (by decide); have hck_v := nI_clamp (n := k) (by omega)
      refine j_aload_n (pc := 30) X dX9_places_30 rfl 0 rfl ?_
      refine j_get (pc := 31) X 9 i_X9 0 rfl rfl 1 (by decide) (by decide +kernel) rfl dX9_places_31 ?_
      refine j_getN (pc := 34) X 0 i_X0 1 rfl rfl 0 (by decide) (by decide +kernel) rfl dX9_places_34 ?_
      refine j_iload_n (pc := 37) X dX9_places_37 rfl 1 rfl ?_
      refine j_iload_n (pc := 38) X dX9_places_38 rfl 2 rfl ?_
      refine j_iast (pc := 39) X (f2 := (nF (va_up pl j k))) (ws' := [(qx, .inr (9, [.ref qy, .ref qc, .ref qp, .ref qr, .ref qm, .ref qg, .ref qu, .ref ql, .ref qf, .int (nI lt)])), (qc, .inr (0, [.ref qc0, .ref qc1, .ref qc2, .ref qc3, .int (nI el), .int (nI be)])), kI G qc0 12 (nF (va_up pl j k))]) 2 rfl (vp_in_nI (by omega) (by decide)) dX9_places_39 (by rw [nI_clamp (by omega)]; exact nF_up pl j k) rfl ?_
      refine j_aload_n (pc := 40) X dX9_places_40 rfl 0 rfl ?_
      refine j_iconst (pc := 41) X (v := nI 0) dX9_places_41 (by decide) ?_
      refine j_ci (pc := 42) X (ws' := [(qx, .inr (9, [.ref qy, .ref qc, .ref qp, .ref qr, .ref qm, .ref qg, .ref qu, .ref ql, .ref qf, .int (nI 0)])), (qc, .inr (0, [.ref qc0, .ref qc1, .ref qc2, .ref qc3, .int (nI el), .int (nI be)])), kI G qc0 12 (nF (va_up pl j k))]) [0] rfl (j_rV X (b := qx) (As := [.int (nI 0)]) (ci := 9) (rest := []) 1 (mX9_finish l G qx qy qc qp qr qm qg qu ql qf lt 0 (by first | assumption | omega | exact ob_s (by omega) | exact ob_n)) gX9_places_X9_finish rfl rfl rfl (by decide +kernel) ⟨Nat.le_of_ble_eq_true rfl, Nat.le_of_ble_eq_true rfl⟩ rfl rfl 0 rfl [0] rfl rfl rfl (Nat.le_of_ble_eq_true rfl) dX9_places_42 ⟨Nat.le_of_ble_eq_true rfl, Nat.le_of_ble_eq_true rfl⟩) rfl rfl ?_
      have hs : sPlaces el pl (nI j) (nI k) = (decide (0 = 0), 0, va_up pl j k) := by first | (simp [sPlaces, c_8, c_21]; done) | (simp [sPlaces, tN, c_8, c_21]; done) | (simp [sPlaces, tN, hcj_v, c_8, c_21]; done) | (simp [sPlaces, tN, hcj_v, hck_v, c_8, c_21]; done) | (simp [sPlaces, tN, hcj_v, hck_v, hcm_v, c_8, c_21]; done)
      refine j_zret (pc := 45) X (b2i_nar _) dX9_places_45 ?_
      rw [hs]; exact ⟨rfl, rfl⟩
    · skip
      refine j_aload_n (pc := 24) X dX9_places_24 rfl 0 rfl ?_
      refine j_iconst (pc := 25) X (v := nI 5) dX9_places_25 (by decide) ?_
      refine j_ci (pc := 26) X (ws' := [(qx, .inr (9, [.ref qy, .ref qc, .ref qp, .ref qr, .ref qm, .ref qg, .ref qu, .ref ql, .ref qf, .int (nI 5)])), (qc, .inr (0, [.ref qc0, .ref qc1, .ref qc2, .ref qc3, .int (nI el), .int (nI be)])), kI G qc0 12 (nF pl)]) [0] rfl (j_rV X (b := qx) (As := [.int (nI 5)]) (ci := 9) (rest := []) 1 (mX9_finish l G qx qy qc qp qr qm qg qu ql qf lt 5 (by first | assumption | omega | exact ob_s (by omega) | exact ob_n)) gX9_places_X9_finish rfl rfl rfl (by decide +kernel) ⟨Nat.le_of_ble_eq_true rfl, Nat.le_of_ble_eq_true rfl⟩ rfl rfl 0 rfl [0] rfl rfl rfl (Nat.le_of_ble_eq_true rfl) dX9_places_26 ⟨Nat.le_of_ble_eq_true rfl, Nat.le_of_ble_eq_true rfl⟩) rfl rfl ?_
      have hs : sPlaces el pl (nI j) z = (decide (5 = 0), 5, pl) := by first | (simp [sPlaces, c_8, c_21]; done) | (simp [sPlaces, tN, c_8, c_21]; done) | (simp [sPlaces, tN, hcj_v, c_8, c_21]; done) | (simp [sPlaces, tN, hcj_v, hck_v, c_8, c_21]; done) | (simp [sPlaces, tN, hcj_v, hck_v, hcm_v, c_8, c_21]; done)
      refine j_zret (pc := 29) X (b2i_nar _) dX9_places_29 ?_
      rw [hs]; exact ⟨rfl, rfl⟩
  · skip
    refine j_aload_n (pc := 11) X dX9_places_11 rfl 0 rfl ?_
    refine j_iconst (pc := 12) X (v := nI 2) dX9_places_12 (by decide) ?_
    refine j_ci (pc := 13) X (ws' := [(qx, .inr (9, [.ref qy, .ref qc, .ref qp, .ref qr, .ref qm, .ref qg, .ref qu, .ref ql, .ref qf, .int (nI 2)])), (qc, .inr (0, [.ref qc0, .ref qc1, .ref qc2, .ref qc3, .int (nI el), .int (nI be)])), kI G qc0 12 (nF pl)]) [0] rfl (j_rV X (b := qx) (As := [.int (nI 2)]) (ci := 9) (rest := []) 1 (mX9_finish l G qx qy qc qp qr qm qg qu ql qf lt 2 (by first | assumption | omega | exact ob_s (by omega) | exact ob_n)) gX9_places_X9_finish rfl rfl rfl (by decide +kernel) ⟨Nat.le_of_ble_eq_true rfl, Nat.le_of_ble_eq_true rfl⟩ rfl rfl 0 rfl [0] rfl rfl rfl (Nat.le_of_ble_eq_true rfl) dX9_places_13 ⟨Nat.le_of_ble_eq_true rfl, Nat.le_of_ble_eq_true rfl⟩) rfl rfl ?_
    have hs : sPlaces el pl x z = (decide (2 = 0), 2, pl) := by first | (simp [sPlaces, c_8]; done) | (simp [sPlaces, tN, c_8]; done) | (simp [sPlaces, tN, hcj_v, c_8]; done) | (simp [sPlaces, tN, hcj_v, hck_v, c_8]; done) | (simp [sPlaces, tN, hcj_v, hck_v, hcm_v, c_8]; done)
    refine j_zret (pc := 16) X (b2i_nar _) dX9_places_16 ?_
    rw [hs]; exact ⟨rfl, rfl⟩

set_option maxHeartbeats 4000000 in
set_option maxRecDepth 100000 in
theorem mX9_like (l : Launch) (G : jG) (qx : Nat) (qy : Nat) (qc : Nat) (qp : Nat) (qr : Nat) (qm : Nat) (qg : Nat) (qu : Nat) (ql : Nat) (qf : Nat) (lt : Nat) (qc0 : Nat) (qc1 : Nat) (qc2 : Nat) (qc3 : Nat) (el : Nat) (be : Nat) (le : Nat → Nat) (lb : Nat → Nat) (x : Int32) (z : Int32) (mu : Int32) (by_ : Bool) (hel : el ≤ 12) (hbe : be ≤ 16) : MV l yX9_like wsX9_like ({ frames := 2, cells := 0, slots := 0, locals := 46 }) G [.ref qx, .int x, .int z, .int (b2i by_), .int mu] [(qx, .inr (9, [.ref qy, .ref qc, .ref qp, .ref qr, .ref qm, .ref qg, .ref qu, .ref ql, .ref qf, .int (nI lt)])), (qc, .inr (0, [.ref qc0, .ref qc1, .ref qc2, .ref qc3, .int (nI el), .int (nI be)])), kI G qc1 192 (nF le), kI G qc2 192 (nF lb)] (some (.int (b2i ((sLike el be le lb x z by_ mu).1)))) [(qx, .inr (9, [.ref qy, .ref qc, .ref qp, .ref qr, .ref qm, .ref qg, .ref qu, .ref ql, .ref qf, .int (nI ((sLike el be le lb x z by_ mu).2.1))])), (qc, .inr (0, [.ref qc0, .ref qc1, .ref qc2, .ref qc3, .int (nI el), .int (nI be)])), kI G qc1 192 (nF ((sLike el be le lb x z by_ mu).2.2.1)), kI G qc2 192 (nF ((sLike el be le lb x z by_ mu).2.2.2))] := by
  refine MF.ofJ (cc := cX9_like) (maxL := 5) (ret := (some .boolean)) (own := RX9) (lv := [(0, .ref qx), (1, .int x), (2, .int z), (3, .int (b2i by_)), (4, .int mu)]) (by decide) rfl rfl (Nat.le_of_ble_eq_true rfl) rfl ?_
  intro κ X
  have i_X0 : ∀ w ∈ wsX00, w ∈ wsX9_like := by decide +kernel
  have i_X9 : ∀ w ∈ wsX90, w ∈ wsX9_like := by decide +kernel
  refine j_aload_n (pc := 0) X dX9_like_0 rfl 0 rfl ?_
  refine j_get (pc := 1) X 9 i_X9 0 rfl rfl 1 (by decide) (by decide +kernel) rfl dX9_like_1 ?_
  refine j_iload_n (pc := 4) X dX9_like_4 rfl 1 rfl ?_
  refine j_iload_n (pc := 5) X dX9_like_5 rfl 2 rfl ?_
  refine j_ciP (pc := 6) X [1] rfl (j_rVN X (b := qc) (As := [.int x, .int z]) (ci := 0) (rest := []) 2 (mX0_areTwo l G qc qc0 qc1 qc2 qc3 el be x z ) gX9_like_X0_areTwo_n141 rfl rfl rfl (by decide +kernel) (by decide +kernel) (by decide +kernel) (by decide +kernel) (by decide +kernel) ⟨Nat.le_of_ble_eq_true rfl, Nat.le_of_ble_eq_true rfl⟩ rfl rfl 0 rfl [1] rfl rfl rfl (Nat.le_of_ble_eq_true rfl) dX9_like_6 ⟨Nat.le_of_ble_eq_true rfl, Nat.le_of_ble_eq_true rfl⟩) ?_
  refine j_ifb_ne (pc := 9) X (B := inR x el && inR z be) (tgt := 18) dX9_like_9 (by decide) (fun c_9 => ?_) (fun c_9 => ?_)
  · skip
    obtain ⟨hx1, hx2⟩ := Bool.and_eq_true_iff.mp c_9; obtain ⟨j, hj, rfl⟩ := inR_of hx1 (by omega); obtain ⟨k, hk, rfl⟩ := inR_of hx2 (by omega); have hcj_v := nI_clamp (n := j) (by omega); have hck_v := nI_clamp (n := k) (by omega)
    refine j_iload (pc := 18) X dX9_like_18 4 rfl ?_
    refine j_if_lt (pc := 20) X (x := mu) (tgt := 30) dX9_like_20 (by decide) (fun c_20 => ?_) (fun c_20 => ?_)
    · skip
      refine j_aload_n (pc := 30) X dX9_like_30 rfl 0 rfl ?_
      refine j_iconst (pc := 31) X (v := nI 5) dX9_like_31 (by decide) ?_
      refine j_ci (pc := 32) X (ws' := [(qx, .inr (9, [.ref qy, .ref qc, .ref qp, .ref qr, .ref qm, .ref qg, .ref qu, .ref ql, .ref qf, .int (nI 5)])), (qc, .inr (0, [.ref qc0, .ref qc1, .ref qc2, .ref qc3, .int (nI el), .int (nI be)])), kI G qc1 192 (nF le), kI G qc2 192 (nF lb)]) [0] rfl (j_rV X (b := qx) (As := [.int (nI 5)]) (ci := 9) (rest := []) 1 (mX9_finish l G qx qy qc qp qr qm qg qu ql qf lt 5 (by first | assumption | omega | exact ob_s (by omega) | exact ob_n)) gX9_like_X9_finish rfl rfl rfl (by decide +kernel) ⟨Nat.le_of_ble_eq_true rfl, Nat.le_of_ble_eq_true rfl⟩ rfl rfl 0 rfl [0] rfl rfl rfl (Nat.le_of_ble_eq_true rfl) dX9_like_32 ⟨Nat.le_of_ble_eq_true rfl, Nat.le_of_ble_eq_true rfl⟩) rfl rfl ?_
      have hs : sLike el be le lb (nI j) (nI k) by_ mu = (decide (5 = 0), 5, le, lb) := by first | (simp [sLike, inC, c_9, c_20]; done) | (simp [sLike, inC, tN, c_9, c_20]; done) | (simp [sLike, inC, tN, hcj_v, c_9, c_20]; done) | (simp [sLike, inC, tN, hcj_v, hck_v, c_9, c_20]; done) | (simp [sLike, inC, tN, hcj_v, hck_v, hcm_v, c_9, c_20]; done)
      refine j_zret (pc := 35) X (b2i_nar _) dX9_like_35 ?_
      rw [hs]; exact ⟨rfl, rfl⟩
    · skip
      refine j_iload (pc := 23) X dX9_like_23 4 rfl ?_
      refine j_bipush (pc := 25) X (v := nI 100) dX9_like_25 (by decide) ?_
      refine j_icmp_le (pc := 27) X (x := mu) (z := nI 100) (tgt := 36) dX9_like_27 (by decide) (fun c_27 => ?_) (fun c_27 => ?_)
      · skip
        obtain ⟨m, hm, rfl⟩ := rng_of c_20 c_27 (by decide); have hcm_v := nI_clamp (n := m) (by omega)
        refine j_aload_n (pc := 36) X dX9_like_36 rfl 0 rfl ?_
        refine j_get (pc := 37) X 9 i_X9 0 rfl rfl 1 (by decide) (by decide +kernel) rfl dX9_like_37 ?_
        refine j_iload_n (pc := 40) X dX9_like_40 rfl 1 rfl ?_
        refine j_iload_n (pc := 41) X dX9_like_41 rfl 2 rfl ?_
        refine j_iload_n (pc := 42) X dX9_like_42 rfl 3 rfl ?_
        refine j_iload (pc := 43) X dX9_like_43 4 rfl ?_
        refine j_cv (pc := 45) X (ws' := [(qx, .inr (9, [.ref qy, .ref qc, .ref qp, .ref qr, .ref qm, .ref qg, .ref qu, .ref ql, .ref qf, .int (nI lt)])), (qc, .inr (0, [.ref qc0, .ref qc1, .ref qc2, .ref qc3, .int (nI el), .int (nI be)])), kI G qc1 192 (nF (if by_ then va_up le (j * 16 + k) m else le)), kI G qc2 192 (nF (if by_ then lb else va_up lb (j * 16 + k) m))]) [1, 2, 3] rfl (j_rVN X (b := qc) (As := [.int (nI j), .int (nI k), .int (b2i by_), .int (nI m)]) (ci := 0) (rest := []) 4 (mX0_setLiking l G qc qc0 qc1 qc2 qc3 el be le lb j k m by_ (by first | assumption | omega | exact ob_s (by omega) | exact ob_n) (by first | assumption | omega | exact ob_s (by omega) | exact ob_n)) gX9_like_X0_setLiking_n145 rfl rfl rfl (by decide +kernel) (by decide +kernel) (by decide +kernel) (by decide +kernel) (by decide +kernel) ⟨Nat.le_of_ble_eq_true rfl, Nat.le_of_ble_eq_true rfl⟩ rfl rfl 0 rfl [1, 2, 3] rfl rfl rfl (Nat.le_of_ble_eq_true rfl) dX9_like_45 ⟨Nat.le_of_ble_eq_true rfl, Nat.le_of_ble_eq_true rfl⟩) rfl rfl ?_
        refine j_aload_n (pc := 48) X dX9_like_48 rfl 0 rfl ?_
        refine j_iconst (pc := 49) X (v := nI 0) dX9_like_49 (by decide) ?_
        refine j_ci (pc := 50) X (ws' := [(qx, .inr (9, [.ref qy, .ref qc, .ref qp, .ref qr, .ref qm, .ref qg, .ref qu, .ref ql, .ref qf, .int (nI 0)])), (qc, .inr (0, [.ref qc0, .ref qc1, .ref qc2, .ref qc3, .int (nI el), .int (nI be)])), kI G qc1 192 (nF (if by_ then va_up le (j * 16 + k) m else le)), kI G qc2 192 (nF (if by_ then lb else va_up lb (j * 16 + k) m))]) [0] rfl (j_rV X (b := qx) (As := [.int (nI 0)]) (ci := 9) (rest := []) 1 (mX9_finish l G qx qy qc qp qr qm qg qu ql qf lt 0 (by first | assumption | omega | exact ob_s (by omega) | exact ob_n)) gX9_like_X9_finish rfl rfl rfl (by decide +kernel) ⟨Nat.le_of_ble_eq_true rfl, Nat.le_of_ble_eq_true rfl⟩ rfl rfl 0 rfl [0] rfl rfl rfl (Nat.le_of_ble_eq_true rfl) dX9_like_50 ⟨Nat.le_of_ble_eq_true rfl, Nat.le_of_ble_eq_true rfl⟩) rfl rfl ?_
        have hs : sLike el be le lb (nI j) (nI k) by_ (nI m) = (decide (0 = 0), 0, if by_ then va_up le (j * 16 + k) m else le, if by_ then lb else va_up lb (j * 16 + k) m) := by first | (simp [sLike, inC, c_9, c_20, c_27]; done) | (simp [sLike, inC, tN, c_9, c_20, c_27]; done) | (simp [sLike, inC, tN, hcj_v, c_9, c_20, c_27]; done) | (simp [sLike, inC, tN, hcj_v, hck_v, c_9, c_20, c_27]; done) | (simp [sLike, inC, tN, hcj_v, hck_v, hcm_v, c_9, c_20, c_27]; done)
        refine j_zret (pc := 53) X (b2i_nar _) dX9_like_53 ?_
        rw [hs]; exact ⟨rfl, rfl⟩
      · skip
        refine j_aload_n (pc := 30) X dX9_like_30 rfl 0 rfl ?_
        refine j_iconst (pc := 31) X (v := nI 5) dX9_like_31 (by decide) ?_
        refine j_ci (pc := 32) X (ws' := [(qx, .inr (9, [.ref qy, .ref qc, .ref qp, .ref qr, .ref qm, .ref qg, .ref qu, .ref ql, .ref qf, .int (nI 5)])), (qc, .inr (0, [.ref qc0, .ref qc1, .ref qc2, .ref qc3, .int (nI el), .int (nI be)])), kI G qc1 192 (nF le), kI G qc2 192 (nF lb)]) [0] rfl (j_rV X (b := qx) (As := [.int (nI 5)]) (ci := 9) (rest := []) 1 (mX9_finish l G qx qy qc qp qr qm qg qu ql qf lt 5 (by first | assumption | omega | exact ob_s (by omega) | exact ob_n)) gX9_like_X9_finish rfl rfl rfl (by decide +kernel) ⟨Nat.le_of_ble_eq_true rfl, Nat.le_of_ble_eq_true rfl⟩ rfl rfl 0 rfl [0] rfl rfl rfl (Nat.le_of_ble_eq_true rfl) dX9_like_32 ⟨Nat.le_of_ble_eq_true rfl, Nat.le_of_ble_eq_true rfl⟩) rfl rfl ?_
        have hs : sLike el be le lb (nI j) (nI k) by_ mu = (decide (5 = 0), 5, le, lb) := by first | (simp [sLike, inC, c_9, c_20, c_27]; done) | (simp [sLike, inC, tN, c_9, c_20, c_27]; done) | (simp [sLike, inC, tN, hcj_v, c_9, c_20, c_27]; done) | (simp [sLike, inC, tN, hcj_v, hck_v, c_9, c_20, c_27]; done) | (simp [sLike, inC, tN, hcj_v, hck_v, hcm_v, c_9, c_20, c_27]; done)
        refine j_zret (pc := 35) X (b2i_nar _) dX9_like_35 ?_
        rw [hs]; exact ⟨rfl, rfl⟩
  · skip
    refine j_aload_n (pc := 12) X dX9_like_12 rfl 0 rfl ?_
    refine j_iconst (pc := 13) X (v := nI 2) dX9_like_13 (by decide) ?_
    refine j_ci (pc := 14) X (ws' := [(qx, .inr (9, [.ref qy, .ref qc, .ref qp, .ref qr, .ref qm, .ref qg, .ref qu, .ref ql, .ref qf, .int (nI 2)])), (qc, .inr (0, [.ref qc0, .ref qc1, .ref qc2, .ref qc3, .int (nI el), .int (nI be)])), kI G qc1 192 (nF le), kI G qc2 192 (nF lb)]) [0] rfl (j_rV X (b := qx) (As := [.int (nI 2)]) (ci := 9) (rest := []) 1 (mX9_finish l G qx qy qc qp qr qm qg qu ql qf lt 2 (by first | assumption | omega | exact ob_s (by omega) | exact ob_n)) gX9_like_X9_finish rfl rfl rfl (by decide +kernel) ⟨Nat.le_of_ble_eq_true rfl, Nat.le_of_ble_eq_true rfl⟩ rfl rfl 0 rfl [0] rfl rfl rfl (Nat.le_of_ble_eq_true rfl) dX9_like_14 ⟨Nat.le_of_ble_eq_true rfl, Nat.le_of_ble_eq_true rfl⟩) rfl rfl ?_
    have hs : sLike el be le lb x z by_ mu = (decide (2 = 0), 2, le, lb) := by first | (simp [sLike, inC, c_9]; done) | (simp [sLike, inC, tN, c_9]; done) | (simp [sLike, inC, tN, hcj_v, c_9]; done) | (simp [sLike, inC, tN, hcj_v, hck_v, c_9]; done) | (simp [sLike, inC, tN, hcj_v, hck_v, hcm_v, c_9]; done)
    refine j_zret (pc := 17) X (b2i_nar _) dX9_like_17 ?_
    rw [hs]; exact ⟨rfl, rfl⟩

set_option maxHeartbeats 4000000 in
set_option maxRecDepth 100000 in
theorem mX9_bar (l : Launch) (G : jG) (qx : Nat) (qy : Nat) (qc : Nat) (qp : Nat) (qr : Nat) (qm : Nat) (qg : Nat) (qu : Nat) (ql : Nat) (qf : Nat) (lt : Nat) (qc0 : Nat) (qc1 : Nat) (qc2 : Nat) (qc3 : Nat) (el : Nat) (be : Nat) (br : Nat → Bool) (x : Int32) (z : Int32) (is_ : Bool) (hel : el ≤ 12) (hbe : be ≤ 16) : MV l yX9_bar wsX9_bar ({ frames := 2, cells := 0, slots := 0, locals := 44 }) G [.ref qx, .int x, .int z, .int (b2i is_)] [(qx, .inr (9, [.ref qy, .ref qc, .ref qp, .ref qr, .ref qm, .ref qg, .ref qu, .ref ql, .ref qf, .int (nI lt)])), (qc, .inr (0, [.ref qc0, .ref qc1, .ref qc2, .ref qc3, .int (nI el), .int (nI be)])), kZ G qc3 192 (bF br)] (some (.int (b2i ((sBar el be br x z is_).1)))) [(qx, .inr (9, [.ref qy, .ref qc, .ref qp, .ref qr, .ref qm, .ref qg, .ref qu, .ref ql, .ref qf, .int (nI ((sBar el be br x z is_).2.1))])), (qc, .inr (0, [.ref qc0, .ref qc1, .ref qc2, .ref qc3, .int (nI el), .int (nI be)])), kZ G qc3 192 (bF ((sBar el be br x z is_).2.2))] := by
  refine MF.ofJ (cc := cX9_bar) (maxL := 4) (ret := (some .boolean)) (own := RX9) (lv := [(0, .ref qx), (1, .int x), (2, .int z), (3, .int (b2i is_))]) (by decide) rfl rfl (Nat.le_of_ble_eq_true rfl) rfl ?_
  intro κ X
  have i_X0 : ∀ w ∈ wsX00, w ∈ wsX9_bar := by decide +kernel
  have i_X9 : ∀ w ∈ wsX90, w ∈ wsX9_bar := by decide +kernel
  refine j_aload_n (pc := 0) X dX9_bar_0 rfl 0 rfl ?_
  refine j_get (pc := 1) X 9 i_X9 0 rfl rfl 1 (by decide) (by decide +kernel) rfl dX9_bar_1 ?_
  refine j_iload_n (pc := 4) X dX9_bar_4 rfl 1 rfl ?_
  refine j_iload_n (pc := 5) X dX9_bar_5 rfl 2 rfl ?_
  refine j_ciP (pc := 6) X [1] rfl (j_rVN X (b := qc) (As := [.int x, .int z]) (ci := 0) (rest := []) 2 (mX0_areTwo l G qc qc0 qc1 qc2 qc3 el be x z ) gX9_bar_X0_areTwo_n141 rfl rfl rfl (by decide +kernel) (by decide +kernel) (by decide +kernel) (by decide +kernel) (by decide +kernel) ⟨Nat.le_of_ble_eq_true rfl, Nat.le_of_ble_eq_true rfl⟩ rfl rfl 0 rfl [1] rfl rfl rfl (Nat.le_of_ble_eq_true rfl) dX9_bar_6 ⟨Nat.le_of_ble_eq_true rfl, Nat.le_of_ble_eq_true rfl⟩) ?_
  refine j_ifb_ne (pc := 9) X (B := inR x el && inR z be) (tgt := 18) dX9_bar_9 (by decide) (fun c_9 => ?_) (fun c_9 => ?_)
  · skip
    obtain ⟨hx1, hx2⟩ := Bool.and_eq_true_iff.mp c_9; obtain ⟨j, hj, rfl⟩ := inR_of hx1 (by omega); obtain ⟨k, hk, rfl⟩ := inR_of hx2 (by omega); have hcj_v := nI_clamp (n := j) (by omega); have hck_v := nI_clamp (n := k) (by omega)
    refine j_aload_n (pc := 18) X dX9_bar_18 rfl 0 rfl ?_
    refine j_get (pc := 19) X 9 i_X9 0 rfl rfl 1 (by decide) (by decide +kernel) rfl dX9_bar_19 ?_
    refine j_iload_n (pc := 22) X dX9_bar_22 rfl 1 rfl ?_
    refine j_iload_n (pc := 23) X dX9_bar_23 rfl 2 rfl ?_
    refine j_ciP (pc := 24) X [1, 2] rfl (j_rVN X (b := qc) (As := [.int (nI j), .int (nI k)]) (ci := 0) (rest := []) 2 (mX0_isBarred l G qc qc0 qc1 qc2 qc3 el be br j k (by first | assumption | omega | exact ob_s (by omega) | exact ob_n) (by first | assumption | omega | exact ob_s (by omega) | exact ob_n)) gX9_bar_X0_isBarred_n149 rfl rfl rfl (by decide +kernel) (by decide +kernel) (by decide +kernel) (by decide +kernel) (by decide +kernel) ⟨Nat.le_of_ble_eq_true rfl, Nat.le_of_ble_eq_true rfl⟩ rfl rfl 0 rfl [1, 2] rfl rfl rfl (Nat.le_of_ble_eq_true rfl) dX9_bar_24 ⟨Nat.le_of_ble_eq_true rfl, Nat.le_of_ble_eq_true rfl⟩) ?_
    refine j_iload_n (pc := 27) X dX9_bar_27 rfl 3 rfl ?_
    refine j_icmpB_ne (pc := 28) X (a := (br (j * 16 + k))) (b := is_) (tgt := 38) dX9_bar_28 (by decide) (fun c_28 => ?_) (fun c_28 => ?_)
    · skip
      refine j_aload_n (pc := 38) X dX9_bar_38 rfl 0 rfl ?_
      refine j_get (pc := 39) X 9 i_X9 0 rfl rfl 1 (by decide) (by decide +kernel) rfl dX9_bar_39 ?_
      refine j_iload_n (pc := 42) X dX9_bar_42 rfl 1 rfl ?_
      refine j_iload_n (pc := 43) X dX9_bar_43 rfl 2 rfl ?_
      refine j_iload_n (pc := 44) X dX9_bar_44 rfl 3 rfl ?_
      refine j_cv (pc := 45) X (ws' := [(qx, .inr (9, [.ref qy, .ref qc, .ref qp, .ref qr, .ref qm, .ref qg, .ref qu, .ref ql, .ref qf, .int (nI lt)])), (qc, .inr (0, [.ref qc0, .ref qc1, .ref qc2, .ref qc3, .int (nI el), .int (nI be)])), kZ G qc3 192 (bF (va_up br (j * 16 + k) is_))]) [1, 2] rfl (j_rVN X (b := qc) (As := [.int (nI j), .int (nI k), .int (b2i is_)]) (ci := 0) (rest := []) 3 (mX0_setBarred l G qc qc0 qc1 qc2 qc3 el be br j k is_ (by first | assumption | omega | exact ob_s (by omega) | exact ob_n) (by first | assumption | omega | exact ob_s (by omega) | exact ob_n)) gX9_bar_X0_setBarred_n152 rfl rfl rfl (by decide +kernel) (by decide +kernel) (by decide +kernel) (by decide +kernel) (by decide +kernel) ⟨Nat.le_of_ble_eq_true rfl, Nat.le_of_ble_eq_true rfl⟩ rfl rfl 0 rfl [1, 2] rfl rfl rfl (Nat.le_of_ble_eq_true rfl) dX9_bar_45 ⟨Nat.le_of_ble_eq_true rfl, Nat.le_of_ble_eq_true rfl⟩) rfl rfl ?_
      refine j_aload_n (pc := 48) X dX9_bar_48 rfl 0 rfl ?_
      refine j_iconst (pc := 49) X (v := nI 0) dX9_bar_49 (by decide) ?_
      refine j_ci (pc := 50) X (ws' := [(qx, .inr (9, [.ref qy, .ref qc, .ref qp, .ref qr, .ref qm, .ref qg, .ref qu, .ref ql, .ref qf, .int (nI 0)])), (qc, .inr (0, [.ref qc0, .ref qc1, .ref qc2, .ref qc3, .int (nI el), .int (nI be)])), kZ G qc3 192 (bF (va_up br (j * 16 + k) is_))]) [0] rfl (j_rV X (b := qx) (As := [.int (nI 0)]) (ci := 9) (rest := []) 1 (mX9_finish l G qx qy qc qp qr qm qg qu ql qf lt 0 (by first | assumption | omega | exact ob_s (by omega) | exact ob_n)) gX9_bar_X9_finish rfl rfl rfl (by decide +kernel) ⟨Nat.le_of_ble_eq_true rfl, Nat.le_of_ble_eq_true rfl⟩ rfl rfl 0 rfl [0] rfl rfl rfl (Nat.le_of_ble_eq_true rfl) dX9_bar_50 ⟨Nat.le_of_ble_eq_true rfl, Nat.le_of_ble_eq_true rfl⟩) rfl rfl ?_
      have hs : sBar el be br (nI j) (nI k) is_ = (decide (0 = 0), 0, va_up br (j * 16 + k) is_) := by first | (simp [sBar, c_9, c_28]; done) | (simp [sBar, tN, c_9, c_28]; done) | (simp [sBar, tN, hcj_v, c_9, c_28]; done) | (simp [sBar, tN, hcj_v, hck_v, c_9, c_28]; done) | (simp [sBar, tN, hcj_v, hck_v, hcm_v, c_9, c_28]; done)
      refine j_zret (pc := 53) X (b2i_nar _) dX9_bar_53 ?_
      rw [hs]; exact ⟨rfl, rfl⟩
    · skip
      refine j_aload_n (pc := 31) X dX9_bar_31 rfl 0 rfl ?_
      refine j_bipush (pc := 32) X (v := nI 8) dX9_bar_32 (by decide) ?_
      refine j_ci (pc := 34) X (ws' := [(qx, .inr (9, [.ref qy, .ref qc, .ref qp, .ref qr, .ref qm, .ref qg, .ref qu, .ref ql, .ref qf, .int (nI 8)])), (qc, .inr (0, [.ref qc0, .ref qc1, .ref qc2, .ref qc3, .int (nI el), .int (nI be)])), kZ G qc3 192 (bF br)]) [0] rfl (j_rV X (b := qx) (As := [.int (nI 8)]) (ci := 9) (rest := []) 1 (mX9_finish l G qx qy qc qp qr qm qg qu ql qf lt 8 (by first | assumption | omega | exact ob_s (by omega) | exact ob_n)) gX9_bar_X9_finish rfl rfl rfl (by decide +kernel) ⟨Nat.le_of_ble_eq_true rfl, Nat.le_of_ble_eq_true rfl⟩ rfl rfl 0 rfl [0] rfl rfl rfl (Nat.le_of_ble_eq_true rfl) dX9_bar_34 ⟨Nat.le_of_ble_eq_true rfl, Nat.le_of_ble_eq_true rfl⟩) rfl rfl ?_
      have hs : sBar el be br (nI j) (nI k) is_ = (decide (8 = 0), 8, br) := by first | (simp [sBar, c_9, c_28]; done) | (simp [sBar, tN, c_9, c_28]; done) | (simp [sBar, tN, hcj_v, c_9, c_28]; done) | (simp [sBar, tN, hcj_v, hck_v, c_9, c_28]; done) | (simp [sBar, tN, hcj_v, hck_v, hcm_v, c_9, c_28]; done)
      refine j_zret (pc := 37) X (b2i_nar _) dX9_bar_37 ?_
      rw [hs]; exact ⟨rfl, rfl⟩
  · skip
    refine j_aload_n (pc := 12) X dX9_bar_12 rfl 0 rfl ?_
    refine j_iconst (pc := 13) X (v := nI 2) dX9_bar_13 (by decide) ?_
    refine j_ci (pc := 14) X (ws' := [(qx, .inr (9, [.ref qy, .ref qc, .ref qp, .ref qr, .ref qm, .ref qg, .ref qu, .ref ql, .ref qf, .int (nI 2)])), (qc, .inr (0, [.ref qc0, .ref qc1, .ref qc2, .ref qc3, .int (nI el), .int (nI be)])), kZ G qc3 192 (bF br)]) [0] rfl (j_rV X (b := qx) (As := [.int (nI 2)]) (ci := 9) (rest := []) 1 (mX9_finish l G qx qy qc qp qr qm qg qu ql qf lt 2 (by first | assumption | omega | exact ob_s (by omega) | exact ob_n)) gX9_bar_X9_finish rfl rfl rfl (by decide +kernel) ⟨Nat.le_of_ble_eq_true rfl, Nat.le_of_ble_eq_true rfl⟩ rfl rfl 0 rfl [0] rfl rfl rfl (Nat.le_of_ble_eq_true rfl) dX9_bar_14 ⟨Nat.le_of_ble_eq_true rfl, Nat.le_of_ble_eq_true rfl⟩) rfl rfl ?_
    have hs : sBar el be br x z is_ = (decide (2 = 0), 2, br) := by first | (simp [sBar, c_9]; done) | (simp [sBar, tN, c_9]; done) | (simp [sBar, tN, hcj_v, c_9]; done) | (simp [sBar, tN, hcj_v, hck_v, c_9]; done) | (simp [sBar, tN, hcj_v, hck_v, hcm_v, c_9]; done)
    refine j_zret (pc := 17) X (b2i_nar _) dX9_bar_17 ?_
    rw [hs]; exact ⟨rfl, rfl⟩

set_option maxHeartbeats 4000000 in
set_option maxRecDepth 100000 in
theorem mX9_pair (l : Launch) (G : jG) (qx : Nat) (qy : Nat) (qc : Nat) (qp : Nat) (qr : Nat) (qm : Nat) (qg : Nat) (qu : Nat) (ql : Nat) (qf : Nat) (lt : Nat) (qp0 : Nat) (qp1 : Nat) (gv : Bool) (eb : Nat → Option Nat) (la : Nat → Option Nat) (qc0 : Nat) (qc1 : Nat) (qc2 : Nat) (qc3 : Nat) (el : Nat) (be : Nat) (pl : Nat → Nat) (le : Nat → Nat) (lb : Nat → Nat) (br : Nat → Bool) (hel : el ≤ 12) (hbe : be ≤ 16) (hle : ∀ k, le k ≤ 100) (hlb : ∀ k, lb k ≤ 100) (hpl : ∀ k, pl k ≤ 4) (heb : ∀ k, ob 12 (eb k)) (hla : ∀ k, ob 12 (la k)) (hz : ∀ k, 16 ≤ k → eb k = none) (hlz : ∀ k, 16 ≤ k → la k = none) : MV l yX9_pair wsX9_pair ({ frames := 6, cells := 0, slots := 0, locals := 141 }) G [.ref qx] [(qx, .inr (9, [.ref qy, .ref qc, .ref qp, .ref qr, .ref qm, .ref qg, .ref qu, .ref ql, .ref qf, .int (nI lt)])), (qp, .inr (4, [.ref qp0, .ref qp1, .int (b2i gv)])), kI G qp0 16 (oF eb), kI G qp1 16 (oF la), (qc, .inr (0, [.ref qc0, .ref qc1, .ref qc2, .ref qc3, .int (nI el), .int (nI be)])), kI G qc0 12 (nF pl), kI G qc1 192 (nF le), kI G qc2 192 (nF lb), kZ G qc3 192 (bF br)] (some (.int (nI (cntS (bestF pl le lb br el be be).1 16)))) [(qx, .inr (9, [.ref qy, .ref qc, .ref qp, .ref qr, .ref qm, .ref qg, .ref qu, .ref ql, .ref qf, .int (nI 0)])), (qp, .inr (4, [.ref qp0, .ref qp1, .int (b2i true)])), kI G qp0 16 (oF ((bestF pl le lb br el be be).1)), kI G qp1 16 (oF ((bestF pl le lb br el be be).2)), (qc, .inr (0, [.ref qc0, .ref qc1, .ref qc2, .ref qc3, .int (nI el), .int (nI be)])), kI G qc0 12 (nF pl), kI G qc1 192 (nF le), kI G qc2 192 (nF lb), kZ G qc3 192 (bF br)] := by
  refine MF.ofJ (cc := cX9_pair) (maxL := 1) (ret := (some .int)) (own := RX9) (lv := [(0, .ref qx)]) (by decide) rfl rfl (Nat.le_of_ble_eq_true rfl) rfl ?_
  intro κ X
  have i_X0 : ∀ w ∈ wsX00, w ∈ wsX9_pair := by decide +kernel
  have i_X4 : ∀ w ∈ wsX40, w ∈ wsX9_pair := by decide +kernel
  have i_X9 : ∀ w ∈ wsX90, w ∈ wsX9_pair := by decide +kernel
  refine j_aload_n (pc := 0) X dX9_pair_0 rfl 0 rfl ?_
  refine j_aload_n (pc := 1) X dX9_pair_1 rfl 0 rfl ?_
  refine j_get (pc := 2) X 9 i_X9 0 rfl rfl 2 (by decide) (by decide +kernel) rfl dX9_pair_2 ?_
  refine j_aload_n (pc := 5) X dX9_pair_5 rfl 0 rfl ?_
  refine j_get (pc := 6) X 9 i_X9 0 rfl rfl 1 (by decide) (by decide +kernel) rfl dX9_pair_6 ?_
  refine j_ci (pc := 9) X (ws' := [(qx, .inr (9, [.ref qy, .ref qc, .ref qp, .ref qr, .ref qm, .ref qg, .ref qu, .ref ql, .ref qf, .int (nI lt)])), (qp, .inr (4, [.ref qp0, .ref qp1, .int (b2i true)])), kI G qp0 16 (oF ((bestF pl le lb br el be be).1)), kI G qp1 16 (oF ((bestF pl le lb br el be be).2)), (qc, .inr (0, [.ref qc0, .ref qc1, .ref qc2, .ref qc3, .int (nI el), .int (nI be)])), kI G qc0 12 (nF pl), kI G qc1 192 (nF le), kI G qc2 192 (nF lb), kZ G qc3 192 (bF br)]) [1, 2, 3, 4, 5, 6, 7, 8] rfl (j_rVN X (b := qp) (As := [.ref qc]) (ci := 4) (rest := [.ref qx]) 1 (mX4_makeBest l G qp qp0 qp1 gv eb la qc qc0 qc1 qc2 qc3 el be pl le lb br (by first | assumption | omega | exact ob_s (by omega) | exact ob_n) (by first | assumption | omega | exact ob_s (by omega) | exact ob_n) (by first | assumption | omega | exact ob_s (by omega) | exact ob_n) (by first | assumption | omega | exact ob_s (by omega) | exact ob_n) (by first | assumption | omega | exact ob_s (by omega) | exact ob_n) (by first | assumption | omega | exact ob_s (by omega) | exact ob_n) (by first | assumption | omega | exact ob_s (by omega) | exact ob_n) (by first | assumption | omega | exact ob_s (by omega) | exact ob_n) (by first | assumption | omega | exact ob_s (by omega) | exact ob_n)) gX9_pair_X4_makeBest_n156 rfl rfl rfl (by decide +kernel) (by decide +kernel) (by decide +kernel) (by decide +kernel) (by decide +kernel) ⟨Nat.le_of_ble_eq_true rfl, Nat.le_of_ble_eq_true rfl⟩ rfl rfl 0 rfl [1, 2, 3, 4, 5, 6, 7, 8] rfl rfl rfl (Nat.le_of_ble_eq_true rfl) dX9_pair_9 ⟨Nat.le_of_ble_eq_true rfl, Nat.le_of_ble_eq_true rfl⟩) rfl rfl ?_
  refine j_ci (pc := 12) X (ws' := [(qx, .inr (9, [.ref qy, .ref qc, .ref qp, .ref qr, .ref qm, .ref qg, .ref qu, .ref ql, .ref qf, .int (nI 0)])), (qp, .inr (4, [.ref qp0, .ref qp1, .int (b2i true)])), kI G qp0 16 (oF ((bestF pl le lb br el be be).1)), kI G qp1 16 (oF ((bestF pl le lb br el be be).2)), (qc, .inr (0, [.ref qc0, .ref qc1, .ref qc2, .ref qc3, .int (nI el), .int (nI be)])), kI G qc0 12 (nF pl), kI G qc1 192 (nF le), kI G qc2 192 (nF lb), kZ G qc3 192 (bF br)]) [0] rfl (j_rV X (b := qx) (As := [.int (nI (cntS (bestF pl le lb br el be be).1 16))]) (ci := 9) (rest := []) 1 (mX9_answered l G qx qy qc qp qr qm qg qu ql qf lt (nI (cntS (bestF pl le lb br el be be).1 16)) ) gX9_pair_X9_answered rfl rfl rfl (by decide +kernel) ⟨Nat.le_of_ble_eq_true rfl, Nat.le_of_ble_eq_true rfl⟩ rfl rfl 0 rfl [0] rfl rfl rfl (Nat.le_of_ble_eq_true rfl) dX9_pair_12 ⟨Nat.le_of_ble_eq_true rfl, Nat.le_of_ble_eq_true rfl⟩) rfl rfl ?_
  exact j_iret (pc := 15) X dX9_pair_15 ⟨rfl, rfl⟩

set_option maxHeartbeats 4000000 in
set_option maxRecDepth 100000 in
theorem mX9_pairedFault (l : Launch) (G : jG) (qx : Nat) (qy : Nat) (qc : Nat) (qp : Nat) (qr : Nat) (qm : Nat) (qg : Nat) (qu : Nat) (ql : Nat) (qf : Nat) (lt : Nat) (qc0 : Nat) (qc1 : Nat) (qc2 : Nat) (qc3 : Nat) (el : Nat) (be : Nat) (qp0 : Nat) (qp1 : Nat) (gv : Bool) (eb : Nat → Option Nat) (x : Int32) (hbe : be ≤ 16) (heb : ∀ k, ob 12 (eb k)) : MV l yX9_pairedFault wsX9_pairedFault ({ frames := 1, cells := 0, slots := 0, locals := 21 }) G [.ref qx, .int x] [(qx, .inr (9, [.ref qy, .ref qc, .ref qp, .ref qr, .ref qm, .ref qg, .ref qu, .ref ql, .ref qf, .int (nI lt)])), (qc, .inr (0, [.ref qc0, .ref qc1, .ref qc2, .ref qc3, .int (nI el), .int (nI be)])), (qp, .inr (4, [.ref qp0, .ref qp1, .int (b2i gv)])), kI G qp0 16 (oF eb)] (some (.int (nI (pdF be gv eb x)))) [(qx, .inr (9, [.ref qy, .ref qc, .ref qp, .ref qr, .ref qm, .ref qg, .ref qu, .ref ql, .ref qf, .int (nI lt)])), (qc, .inr (0, [.ref qc0, .ref qc1, .ref qc2, .ref qc3, .int (nI el), .int (nI be)])), (qp, .inr (4, [.ref qp0, .ref qp1, .int (b2i gv)])), kI G qp0 16 (oF eb)] := by
  refine MF.ofJ (cc := cX9_pairedFault) (maxL := 2) (ret := (some .int)) (own := RX9) (lv := [(0, .ref qx), (1, .int x)]) (by decide) rfl rfl (Nat.le_of_ble_eq_true rfl) rfl ?_
  intro κ X
  have i_X0 : ∀ w ∈ wsX00, w ∈ wsX9_pairedFault := by decide +kernel
  have i_X4 : ∀ w ∈ wsX40, w ∈ wsX9_pairedFault := by decide +kernel
  have i_X9 : ∀ w ∈ wsX90, w ∈ wsX9_pairedFault := by decide +kernel
  refine j_aload_n (pc := 0) X dX9_pairedFault_0 rfl 0 rfl ?_
  refine j_get (pc := 1) X 9 i_X9 0 rfl rfl 1 (by decide) (by decide +kernel) rfl dX9_pairedFault_1 ?_
  refine j_iload_n (pc := 4) X dX9_pairedFault_4 rfl 1 rfl ?_
  refine j_ciP (pc := 5) X [1] rfl (j_rVN X (b := qc) (As := [.int x]) (ci := 0) (rest := []) 1 (mX0_isBeginner l G qc qc0 qc1 qc2 qc3 el be x ) gX9_pairedFault_X0_isBeginner_n188 rfl rfl rfl (by decide +kernel) (by decide +kernel) (by decide +kernel) (by decide +kernel) (by decide +kernel) ⟨Nat.le_of_ble_eq_true rfl, Nat.le_of_ble_eq_true rfl⟩ rfl rfl 0 rfl [1] rfl rfl rfl (Nat.le_of_ble_eq_true rfl) dX9_pairedFault_5 ⟨Nat.le_of_ble_eq_true rfl, Nat.le_of_ble_eq_true rfl⟩) ?_
  refine j_ifb_ne (pc := 8) X (B := inR x be) (tgt := 13) dX9_pairedFault_8 (by decide) (fun c_8 => ?_) (fun c_8 => ?_)
  · skip
    obtain ⟨j, hj, rfl⟩ := inR_of c_8 (by omega); have hcj_v := nI_clamp (n := j) (by omega)
    refine j_aload_n (pc := 13) X dX9_pairedFault_13 rfl 0 rfl ?_
    refine j_get (pc := 14) X 9 i_X9 0 rfl rfl 2 (by decide) (by decide +kernel) rfl dX9_pairedFault_14 ?_
    refine j_getN (pc := 17) X 4 i_X4 2 rfl rfl 2 (by decide) (by decide +kernel) rfl dX9_pairedFault_17 ?_
    refine j_ifb_ne (pc := 20) X (B := gv) (tgt := 26) dX9_pairedFault_20 (by decide) (fun c_20 => ?_) (fun c_20 => ?_)
    · skip
      refine j_aload_n (pc := 26) X dX9_pairedFault_26 rfl 0 rfl ?_
      refine j_get (pc := 27) X 9 i_X9 0 rfl rfl 2 (by decide) (by decide +kernel) rfl dX9_pairedFault_27 ?_
      refine j_getN (pc := 30) X 4 i_X4 2 rfl rfl 0 (by decide) (by decide +kernel) rfl dX9_pairedFault_30 ?_
      refine j_iload_n (pc := 33) X dX9_pairedFault_33 rfl 1 rfl ?_
      refine j_iald (pc := 34) X 3 rfl (vp_in_nI (by omega) (by decide)) (v := oI (eb j)) (congrArg (oF eb) (nI_clamp (by omega))) dX9_pairedFault_34 ?_
      refine j_iconst (pc := 35) X (v := oI none) dX9_pairedFault_35 (by decide) ?_
      refine j_icmpZ_ne (pc := 36) X (a := (eb j)) (by first | exact ob_n | exact ob_s (by omega) | exact (heb _).big (by decide)) (tgt := 44) dX9_pairedFault_36 (by decide) (fun c_36 => ?_) (fun c_36 => ?_)
      · skip
        refine j_iconst (pc := 44) X (v := nI 0) dX9_pairedFault_44 (by decide) ?_
        exact j_iret (pc := 45) X dX9_pairedFault_45 ⟨by first | (simp [pdF, c_8, c_20, c_36]; done) | (simp [pdF, tN, hcj_v, c_8, c_20, c_36]; done), rfl⟩
      · skip
        refine j_bipush (pc := 39) X (v := nI 9) dX9_pairedFault_39 (by decide) ?_
        refine j_goto (pc := 41) X (tgt := 45) dX9_pairedFault_41 (by decide) ?_
        exact j_iret (pc := 45) X dX9_pairedFault_45 ⟨by first | (simp [pdF, c_8, c_20, c_36]; done) | (simp [pdF, tN, hcj_v, c_8, c_20, c_36]; done), rfl⟩
    · skip
      refine j_bipush (pc := 23) X (v := nI 10) dX9_pairedFault_23 (by decide) ?_
      exact j_iret (pc := 25) X dX9_pairedFault_25 ⟨by first | (simp [pdF, c_8, c_20]; done) | (simp [pdF, tN, hcj_v, c_8, c_20]; done), rfl⟩
  · skip
    refine j_iconst (pc := 11) X (v := nI 2) dX9_pairedFault_11 (by decide) ?_
    exact j_iret (pc := 12) X dX9_pairedFault_12 ⟨by first | (simp [pdF, c_8]; done) | (simp [pdF, tN, hcj_v, c_8]; done), rfl⟩

set_option maxHeartbeats 4000000 in
set_option maxRecDepth 100000 in
theorem mX9_elderOf (l : Launch) (G : jG) (qx : Nat) (qy : Nat) (qc : Nat) (qp : Nat) (qr : Nat) (qm : Nat) (qg : Nat) (qu : Nat) (ql : Nat) (qf : Nat) (lt : Nat) (qc0 : Nat) (qc1 : Nat) (qc2 : Nat) (qc3 : Nat) (el : Nat) (be : Nat) (qp0 : Nat) (qp1 : Nat) (gv : Bool) (eb : Nat → Option Nat) (x : Int32) (hbe : be ≤ 16) (heb : ∀ k, ob 12 (eb k)) : MV l yX9_elderOf wsX9_elderOf ({ frames := 2, cells := 0, slots := 0, locals := 42 }) G [.ref qx, .int x] [(qx, .inr (9, [.ref qy, .ref qc, .ref qp, .ref qr, .ref qm, .ref qg, .ref qu, .ref ql, .ref qf, .int (nI lt)])), (qc, .inr (0, [.ref qc0, .ref qc1, .ref qc2, .ref qc3, .int (nI el), .int (nI be)])), (qp, .inr (4, [.ref qp0, .ref qp1, .int (b2i gv)])), kI G qp0 16 (oF eb)] (some (.int (oI ((sElderOf be gv eb x).1)))) [(qx, .inr (9, [.ref qy, .ref qc, .ref qp, .ref qr, .ref qm, .ref qg, .ref qu, .ref ql, .ref qf, .int (nI ((sElderOf be gv eb x).2))])), (qc, .inr (0, [.ref qc0, .ref qc1, .ref qc2, .ref qc3, .int (nI el), .int (nI be)])), (qp, .inr (4, [.ref qp0, .ref qp1, .int (b2i gv)])), kI G qp0 16 (oF eb)] := by
  refine MF.ofJ (cc := cX9_elderOf) (maxL := 3) (ret := (some .int)) (own := RX9) (lv := [(0, .ref qx), (1, .int x)]) (by decide) rfl rfl (Nat.le_of_ble_eq_true rfl) rfl ?_
  intro κ X
  have i_X0 : ∀ w ∈ wsX00, w ∈ wsX9_elderOf := by decide +kernel
  have i_X4 : ∀ w ∈ wsX40, w ∈ wsX9_elderOf := by decide +kernel
  have i_X9 : ∀ w ∈ wsX90, w ∈ wsX9_elderOf := by decide +kernel
  refine j_aload_n (pc := 0) X dX9_elderOf_0 rfl 0 rfl ?_
  refine j_iload_n (pc := 1) X dX9_elderOf_1 rfl 1 rfl ?_
  refine j_ciP (pc := 2) X [0, 1, 2, 3] rfl (j_rV X (b := qx) (As := [.int x]) (ci := 9) (rest := []) 1 (mX9_pairedFault l G qx qy qc qp qr qm qg qu ql qf lt qc0 qc1 qc2 qc3 el be qp0 qp1 gv eb x (by first | assumption | omega | exact ob_s (by omega) | exact ob_n) (by first | assumption | omega | exact ob_s (by omega) | exact ob_n)) gX9_elderOf_X9_pairedFault rfl rfl rfl (by decide +kernel) ⟨Nat.le_of_ble_eq_true rfl, Nat.le_of_ble_eq_true rfl⟩ rfl rfl 0 rfl [0, 1, 2, 3] rfl rfl rfl (Nat.le_of_ble_eq_true rfl) dX9_elderOf_2 ⟨Nat.le_of_ble_eq_true rfl, Nat.le_of_ble_eq_true rfl⟩) ?_
  refine j_istore_n (pc := 5) X (lv' := [(2, .int (nI (pdF be gv eb x))), (0, .ref qx), (1, .int x)]) dX9_elderOf_5 rfl (by decide) rfl ?_
  refine j_iload_n (pc := 6) X dX9_elderOf_6 rfl 0 rfl ?_
  refine j_ifN_ne (pc := 7) X (a := (pdF be gv eb x)) (by first | omega | (have h9 := pdF_le be gv eb x; omega)) (tgt := 26) dX9_elderOf_7 (by decide) (fun c_7 => ?_) (fun c_7 => ?_)
  · skip
    refine j_aload_n (pc := 26) X dX9_elderOf_26 rfl 1 rfl ?_
    refine j_iload_n (pc := 27) X dX9_elderOf_27 rfl 0 rfl ?_
    refine j_ci (pc := 28) X (ws' := [(qx, .inr (9, [.ref qy, .ref qc, .ref qp, .ref qr, .ref qm, .ref qg, .ref qu, .ref ql, .ref qf, .int (nI (pdF be gv eb x))])), (qc, .inr (0, [.ref qc0, .ref qc1, .ref qc2, .ref qc3, .int (nI el), .int (nI be)])), (qp, .inr (4, [.ref qp0, .ref qp1, .int (b2i gv)])), kI G qp0 16 (oF eb)]) [0] rfl (j_rV X (b := qx) (As := [.int (nI (pdF be gv eb x))]) (ci := 9) (rest := []) 1 (mX9_refused l G qx qy qc qp qr qm qg qu ql qf lt (pdF be gv eb x) ) gX9_elderOf_X9_refused rfl rfl rfl (by decide +kernel) ⟨Nat.le_of_ble_eq_true rfl, Nat.le_of_ble_eq_true rfl⟩ rfl rfl 0 rfl [0] rfl rfl rfl (Nat.le_of_ble_eq_true rfl) dX9_elderOf_28 ⟨Nat.le_of_ble_eq_true rfl, Nat.le_of_ble_eq_true rfl⟩) rfl rfl ?_
    have hs : sElderOf be gv eb x = (none, (pdF be gv eb x)) := by first | (simp [sElderOf, c_7]; done) | (simp [sElderOf, tN, c_7]; done) | (simp [sElderOf, tN, hcj_v, c_7]; done) | (simp [sElderOf, tN, hcj_v, hck_v, c_7]; done) | (simp [sElderOf, tN, hcj_v, hck_v, hcm_v, c_7]; done)
    refine j_iret (pc := 31) X dX9_elderOf_31 ?_
    rw [hs]; exact ⟨rfl, rfl⟩
  · skip
    obtain ⟨j, e, hj, rfl, hgv, hje⟩ := pdF_0 c_7 hbe; have hcj_v := nI_clamp (n := j) (by omega)
    refine j_aload_n (pc := 10) X dX9_elderOf_10 rfl 1 rfl ?_
    refine j_aload_n (pc := 11) X dX9_elderOf_11 rfl 1 rfl ?_
    refine j_get (pc := 12) X 9 i_X9 0 rfl rfl 2 (by decide) (by decide +kernel) rfl dX9_elderOf_12 ?_
    refine j_getN (pc := 15) X 4 i_X4 2 rfl rfl 0 (by decide) (by decide +kernel) rfl dX9_elderOf_15 ?_
    refine j_iload_n (pc := 18) X dX9_elderOf_18 rfl 2 rfl ?_
    refine j_iald (pc := 19) X 3 rfl (vp_in_nI (by omega) (by decide)) (v := oI (eb j)) (congrArg (oF eb) (nI_clamp (by omega))) dX9_elderOf_19 ?_
    refine j_ci (pc := 20) X (ws' := [(qx, .inr (9, [.ref qy, .ref qc, .ref qp, .ref qr, .ref qm, .ref qg, .ref qu, .ref ql, .ref qf, .int (nI 0)])), (qc, .inr (0, [.ref qc0, .ref qc1, .ref qc2, .ref qc3, .int (nI el), .int (nI be)])), (qp, .inr (4, [.ref qp0, .ref qp1, .int (b2i gv)])), kI G qp0 16 (oF eb)]) [0] rfl (j_rV X (b := qx) (As := [.int (oI (eb j))]) (ci := 9) (rest := []) 1 (mX9_answered l G qx qy qc qp qr qm qg qu ql qf lt (oI (eb j)) ) gX9_elderOf_X9_answered rfl rfl rfl (by decide +kernel) ⟨Nat.le_of_ble_eq_true rfl, Nat.le_of_ble_eq_true rfl⟩ rfl rfl 0 rfl [0] rfl rfl rfl (Nat.le_of_ble_eq_true rfl) dX9_elderOf_20 ⟨Nat.le_of_ble_eq_true rfl, Nat.le_of_ble_eq_true rfl⟩) rfl rfl ?_
    refine j_goto (pc := 23) X (tgt := 31) dX9_elderOf_23 (by decide) ?_
    have hs : sElderOf be gv eb (nI j) = (eb j, 0) := by first | (simp [sElderOf, c_7]; done) | (simp [sElderOf, tN, c_7]; done) | (simp [sElderOf, tN, hcj_v, c_7]; done) | (simp [sElderOf, tN, hcj_v, hck_v, c_7]; done) | (simp [sElderOf, tN, hcj_v, hck_v, hcm_v, c_7]; done)
    refine j_iret (pc := 31) X dX9_elderOf_31 ?_
    rw [hs]; exact ⟨rfl, rfl⟩

set_option maxHeartbeats 4000000 in
set_option maxRecDepth 100000 in
theorem mX9_has (l : Launch) (G : jG) (qx : Nat) (qy : Nat) (qc : Nat) (qp : Nat) (qr : Nat) (qm : Nat) (qg : Nat) (qu : Nat) (ql : Nat) (qf : Nat) (lt : Nat) (qc0 : Nat) (qc1 : Nat) (qc2 : Nat) (qc3 : Nat) (el : Nat) (be : Nat) (qp0 : Nat) (qp1 : Nat) (gv : Bool) (eb : Nat → Option Nat) (x : Int32) (hel : el ≤ 12) (heb : ∀ k, ob 12 (eb k)) : MV l yX9_has wsX9_has ({ frames := 1, cells := 0, slots := 0, locals := 23 }) G [.ref qx, .int x] [(qx, .inr (9, [.ref qy, .ref qc, .ref qp, .ref qr, .ref qm, .ref qg, .ref qu, .ref ql, .ref qf, .int (nI lt)])), (qc, .inr (0, [.ref qc0, .ref qc1, .ref qc2, .ref qc3, .int (nI el), .int (nI be)])), (qp, .inr (4, [.ref qp0, .ref qp1, .int (b2i gv)])), kI G qp0 16 (oF eb)] (some (.int (oI ((sHas el gv eb x).1)))) [(qx, .inr (9, [.ref qy, .ref qc, .ref qp, .ref qr, .ref qm, .ref qg, .ref qu, .ref ql, .ref qf, .int (nI ((sHas el gv eb x).2))])), (qc, .inr (0, [.ref qc0, .ref qc1, .ref qc2, .ref qc3, .int (nI el), .int (nI be)])), (qp, .inr (4, [.ref qp0, .ref qp1, .int (b2i gv)])), kI G qp0 16 (oF eb)] := by
  refine MF.ofJ (cc := cX9_has) (maxL := 2) (ret := (some .int)) (own := RX9) (lv := [(0, .ref qx), (1, .int x)]) (by decide) rfl rfl (Nat.le_of_ble_eq_true rfl) rfl ?_
  intro κ X
  have i_X0 : ∀ w ∈ wsX00, w ∈ wsX9_has := by decide +kernel
  have i_X4 : ∀ w ∈ wsX40, w ∈ wsX9_has := by decide +kernel
  have i_X9 : ∀ w ∈ wsX90, w ∈ wsX9_has := by decide +kernel
  refine j_aload_n (pc := 0) X dX9_has_0 rfl 0 rfl ?_
  refine j_get (pc := 1) X 9 i_X9 0 rfl rfl 1 (by decide) (by decide +kernel) rfl dX9_has_1 ?_
  refine j_iload_n (pc := 4) X dX9_has_4 rfl 1 rfl ?_
  refine j_ciP (pc := 5) X [1] rfl (j_rVN X (b := qc) (As := [.int x]) (ci := 0) (rest := []) 1 (mX0_isElder l G qc qc0 qc1 qc2 qc3 el be x ) gX9_has_X0_isElder_n134 rfl rfl rfl (by decide +kernel) (by decide +kernel) (by decide +kernel) (by decide +kernel) (by decide +kernel) ⟨Nat.le_of_ble_eq_true rfl, Nat.le_of_ble_eq_true rfl⟩ rfl rfl 0 rfl [1] rfl rfl rfl (Nat.le_of_ble_eq_true rfl) dX9_has_5 ⟨Nat.le_of_ble_eq_true rfl, Nat.le_of_ble_eq_true rfl⟩) ?_
  refine j_ifb_ne (pc := 8) X (B := inR x el) (tgt := 17) dX9_has_8 (by decide) (fun c_8 => ?_) (fun c_8 => ?_)
  · skip
    obtain ⟨j, hj, rfl⟩ := inR_of c_8 (by omega); have hcj_v := nI_clamp (n := j) (by omega)
    refine j_aload_n (pc := 17) X dX9_has_17 rfl 0 rfl ?_
    refine j_get (pc := 18) X 9 i_X9 0 rfl rfl 2 (by decide) (by decide +kernel) rfl dX9_has_18 ?_
    refine j_getN (pc := 21) X 4 i_X4 2 rfl rfl 2 (by decide) (by decide +kernel) rfl dX9_has_21 ?_
    refine j_ifb_ne (pc := 24) X (B := gv) (tgt := 34) dX9_has_24 (by decide) (fun c_24 => ?_) (fun c_24 => ?_)
    · skip
      refine j_aload_n (pc := 34) X dX9_has_34 rfl 0 rfl ?_
      refine j_aload_n (pc := 35) X dX9_has_35 rfl 0 rfl ?_
      refine j_get (pc := 36) X 9 i_X9 0 rfl rfl 2 (by decide) (by decide +kernel) rfl dX9_has_36 ?_
      refine j_iload_n (pc := 39) X dX9_has_39 rfl 1 rfl ?_
      refine j_ciP (pc := 40) X [2, 3] rfl (j_rVN X (b := qp) (As := [.int (nI j)]) (ci := 4) (rest := [.ref qx]) 1 (mX4_countOf l G qp qp0 qp1 gv eb j (by first | assumption | omega | exact ob_s (by omega) | exact ob_n) (by first | assumption | omega | exact ob_s (by omega) | exact ob_n)) gX9_has_X4_countOf_n170 rfl rfl rfl (by decide +kernel) (by decide +kernel) (by decide +kernel) (by decide +kernel) (by decide +kernel) ⟨Nat.le_of_ble_eq_true rfl, Nat.le_of_ble_eq_true rfl⟩ rfl rfl 0 rfl [2, 3] rfl rfl rfl (Nat.le_of_ble_eq_true rfl) dX9_has_40 ⟨Nat.le_of_ble_eq_true rfl, Nat.le_of_ble_eq_true rfl⟩) ?_
      refine j_ci (pc := 43) X (ws' := [(qx, .inr (9, [.ref qy, .ref qc, .ref qp, .ref qr, .ref qm, .ref qg, .ref qu, .ref ql, .ref qf, .int (nI 0)])), (qc, .inr (0, [.ref qc0, .ref qc1, .ref qc2, .ref qc3, .int (nI el), .int (nI be)])), (qp, .inr (4, [.ref qp0, .ref qp1, .int (b2i gv)])), kI G qp0 16 (oF eb)]) [0] rfl (j_rV X (b := qx) (As := [.int (nI (cntO eb j 16))]) (ci := 9) (rest := []) 1 (mX9_answered l G qx qy qc qp qr qm qg qu ql qf lt (nI (cntO eb j 16)) ) gX9_has_X9_answered rfl rfl rfl (by decide +kernel) ⟨Nat.le_of_ble_eq_true rfl, Nat.le_of_ble_eq_true rfl⟩ rfl rfl 0 rfl [0] rfl rfl rfl (Nat.le_of_ble_eq_true rfl) dX9_has_43 ⟨Nat.le_of_ble_eq_true rfl, Nat.le_of_ble_eq_true rfl⟩) rfl rfl ?_
      have hs : sHas el gv eb (nI j) = (some (cntO eb j 16), 0) := by first | (simp [sHas, c_8, c_24]; done) | (simp [sHas, tN, c_8, c_24]; done) | (simp [sHas, tN, hcj_v, c_8, c_24]; done) | (simp [sHas, tN, hcj_v, hck_v, c_8, c_24]; done) | (simp [sHas, tN, hcj_v, hck_v, hcm_v, c_8, c_24]; done)
      refine j_iret (pc := 46) X dX9_has_46 ?_
      rw [hs]; exact ⟨rfl, rfl⟩
    · skip
      refine j_aload_n (pc := 27) X dX9_has_27 rfl 0 rfl ?_
      refine j_bipush (pc := 28) X (v := nI 10) dX9_has_28 (by decide) ?_
      refine j_ci (pc := 30) X (ws' := [(qx, .inr (9, [.ref qy, .ref qc, .ref qp, .ref qr, .ref qm, .ref qg, .ref qu, .ref ql, .ref qf, .int (nI 10)])), (qc, .inr (0, [.ref qc0, .ref qc1, .ref qc2, .ref qc3, .int (nI el), .int (nI be)])), (qp, .inr (4, [.ref qp0, .ref qp1, .int (b2i gv)])), kI G qp0 16 (oF eb)]) [0] rfl (j_rV X (b := qx) (As := [.int (nI 10)]) (ci := 9) (rest := []) 1 (mX9_refused l G qx qy qc qp qr qm qg qu ql qf lt 10 ) gX9_has_X9_refused rfl rfl rfl (by decide +kernel) ⟨Nat.le_of_ble_eq_true rfl, Nat.le_of_ble_eq_true rfl⟩ rfl rfl 0 rfl [0] rfl rfl rfl (Nat.le_of_ble_eq_true rfl) dX9_has_30 ⟨Nat.le_of_ble_eq_true rfl, Nat.le_of_ble_eq_true rfl⟩) rfl rfl ?_
      have hs : sHas el gv eb (nI j) = (none, 10) := by first | (simp [sHas, c_8, c_24]; done) | (simp [sHas, tN, c_8, c_24]; done) | (simp [sHas, tN, hcj_v, c_8, c_24]; done) | (simp [sHas, tN, hcj_v, hck_v, c_8, c_24]; done) | (simp [sHas, tN, hcj_v, hck_v, hcm_v, c_8, c_24]; done)
      refine j_iret (pc := 33) X dX9_has_33 ?_
      rw [hs]; exact ⟨rfl, rfl⟩
  · skip
    refine j_aload_n (pc := 11) X dX9_has_11 rfl 0 rfl ?_
    refine j_iconst (pc := 12) X (v := nI 2) dX9_has_12 (by decide) ?_
    refine j_ci (pc := 13) X (ws' := [(qx, .inr (9, [.ref qy, .ref qc, .ref qp, .ref qr, .ref qm, .ref qg, .ref qu, .ref ql, .ref qf, .int (nI 2)])), (qc, .inr (0, [.ref qc0, .ref qc1, .ref qc2, .ref qc3, .int (nI el), .int (nI be)])), (qp, .inr (4, [.ref qp0, .ref qp1, .int (b2i gv)])), kI G qp0 16 (oF eb)]) [0] rfl (j_rV X (b := qx) (As := [.int (nI 2)]) (ci := 9) (rest := []) 1 (mX9_refused l G qx qy qc qp qr qm qg qu ql qf lt 2 ) gX9_has_X9_refused rfl rfl rfl (by decide +kernel) ⟨Nat.le_of_ble_eq_true rfl, Nat.le_of_ble_eq_true rfl⟩ rfl rfl 0 rfl [0] rfl rfl rfl (Nat.le_of_ble_eq_true rfl) dX9_has_13 ⟨Nat.le_of_ble_eq_true rfl, Nat.le_of_ble_eq_true rfl⟩) rfl rfl ?_
    have hs : sHas el gv eb x = (none, 2) := by first | (simp [sHas, c_8]; done) | (simp [sHas, tN, c_8]; done) | (simp [sHas, tN, hcj_v, c_8]; done) | (simp [sHas, tN, hcj_v, hck_v, c_8]; done) | (simp [sHas, tN, hcj_v, hck_v, hcm_v, c_8]; done)
    refine j_iret (pc := 16) X dX9_has_16 ?_
    rw [hs]; exact ⟨rfl, rfl⟩

set_option maxHeartbeats 4000000 in
set_option maxRecDepth 100000 in
theorem mX9_blocks (l : Launch) (G : jG) (qx : Nat) (qy : Nat) (qc : Nat) (qp : Nat) (qr : Nat) (qm : Nat) (qg : Nat) (qu : Nat) (ql : Nat) (qf : Nat) (lt : Nat) (qp0 : Nat) (qp1 : Nat) (gv : Bool) (eb : Nat → Option Nat) (qc0 : Nat) (qc1 : Nat) (qc2 : Nat) (qc3 : Nat) (el : Nat) (be : Nat) (pl : Nat → Nat) (le : Nat → Nat) (lb : Nat → Nat) (br : Nat → Bool) (hel : el ≤ 12) (hbe : be ≤ 16) (hle : ∀ k, le k ≤ 100) (hlb : ∀ k, lb k ≤ 100) (hpl : ∀ k, pl k ≤ 4) (heb : ∀ k, ob 12 (eb k)) : MV l yX9_blocks wsX9_blocks ({ frames := 5, cells := 0, slots := 0, locals := 119 }) G [.ref qx] [(qx, .inr (9, [.ref qy, .ref qc, .ref qp, .ref qr, .ref qm, .ref qg, .ref qu, .ref ql, .ref qf, .int (nI lt)])), (qp, .inr (4, [.ref qp0, .ref qp1, .int (b2i gv)])), kI G qp0 16 (oF eb), (qc, .inr (0, [.ref qc0, .ref qc1, .ref qc2, .ref qc3, .int (nI el), .int (nI be)])), kI G qc0 12 (nF pl), kI G qc1 192 (nF le), kI G qc2 192 (nF lb), kZ G qc3 192 (bF br)] (some (.int (oI ((sBlocks gv (cbO pl le lb br eb be el)).1)))) [(qx, .inr (9, [.ref qy, .ref qc, .ref qp, .ref qr, .ref qm, .ref qg, .ref qu, .ref ql, .ref qf, .int (nI ((sBlocks gv (cbO pl le lb br eb be el)).2))])), (qp, .inr (4, [.ref qp0, .ref qp1, .int (b2i gv)])), kI G qp0 16 (oF eb), (qc, .inr (0, [.ref qc0, .ref qc1, .ref qc2, .ref qc3, .int (nI el), .int (nI be)])), kI G qc0 12 (nF pl), kI G qc1 192 (nF le), kI G qc2 192 (nF lb), kZ G qc3 192 (bF br)] := by
  refine MF.ofJ (cc := cX9_blocks) (maxL := 1) (ret := (some .int)) (own := RX9) (lv := [(0, .ref qx)]) (by decide) rfl rfl (Nat.le_of_ble_eq_true rfl) rfl ?_
  intro κ X
  have i_X0 : ∀ w ∈ wsX00, w ∈ wsX9_blocks := by decide +kernel
  have i_X4 : ∀ w ∈ wsX40, w ∈ wsX9_blocks := by decide +kernel
  have i_X9 : ∀ w ∈ wsX90, w ∈ wsX9_blocks := by decide +kernel
  refine j_aload_n (pc := 0) X dX9_blocks_0 rfl 0 rfl ?_
  refine j_get (pc := 1) X 9 i_X9 0 rfl rfl 2 (by decide) (by decide +kernel) rfl dX9_blocks_1 ?_
  refine j_getN (pc := 4) X 4 i_X4 1 rfl rfl 2 (by decide) (by decide +kernel) rfl dX9_blocks_4 ?_
  refine j_ifb_ne (pc := 7) X (B := gv) (tgt := 17) dX9_blocks_7 (by decide) (fun c_7 => ?_) (fun c_7 => ?_)
  · skip
    refine j_aload_n (pc := 17) X dX9_blocks_17 rfl 0 rfl ?_
    refine j_aload_n (pc := 18) X dX9_blocks_18 rfl 0 rfl ?_
    refine j_get (pc := 19) X 9 i_X9 0 rfl rfl 2 (by decide) (by decide +kernel) rfl dX9_blocks_19 ?_
    refine j_aload_n (pc := 22) X dX9_blocks_22 rfl 0 rfl ?_
    refine j_get (pc := 23) X 9 i_X9 0 rfl rfl 1 (by decide) (by decide +kernel) rfl dX9_blocks_23 ?_
    refine j_ciP (pc := 26) X [1, 2, 3, 4, 5, 6, 7] rfl (j_rVN X (b := qp) (As := [.ref qc]) (ci := 4) (rest := [.ref qx]) 1 (mX4_countBlocking l G qp qp0 qp1 gv eb qc qc0 qc1 qc2 qc3 el be pl le lb br (by first | assumption | omega | exact ob_s (by omega) | exact ob_n) (by first | assumption | omega | exact ob_s (by omega) | exact ob_n) (by first | assumption | omega | exact ob_s (by omega) | exact ob_n) (by first | assumption | omega | exact ob_s (by omega) | exact ob_n) (by first | assumption | omega | exact ob_s (by omega) | exact ob_n) (by first | assumption | omega | exact ob_s (by omega) | exact ob_n)) gX9_blocks_X4_countBlocking_n173 rfl rfl rfl (by decide +kernel) (by decide +kernel) (by decide +kernel) (by decide +kernel) (by decide +kernel) ⟨Nat.le_of_ble_eq_true rfl, Nat.le_of_ble_eq_true rfl⟩ rfl rfl 0 rfl [1, 2, 3, 4, 5, 6, 7] rfl rfl rfl (Nat.le_of_ble_eq_true rfl) dX9_blocks_26 ⟨Nat.le_of_ble_eq_true rfl, Nat.le_of_ble_eq_true rfl⟩) ?_
    refine j_ci (pc := 29) X (ws' := [(qx, .inr (9, [.ref qy, .ref qc, .ref qp, .ref qr, .ref qm, .ref qg, .ref qu, .ref ql, .ref qf, .int (nI 0)])), (qp, .inr (4, [.ref qp0, .ref qp1, .int (b2i gv)])), kI G qp0 16 (oF eb), (qc, .inr (0, [.ref qc0, .ref qc1, .ref qc2, .ref qc3, .int (nI el), .int (nI be)])), kI G qc0 12 (nF pl), kI G qc1 192 (nF le), kI G qc2 192 (nF lb), kZ G qc3 192 (bF br)]) [0] rfl (j_rV X (b := qx) (As := [.int (nI (cbO pl le lb br eb be el))]) (ci := 9) (rest := []) 1 (mX9_answered l G qx qy qc qp qr qm qg qu ql qf lt (nI (cbO pl le lb br eb be el)) ) gX9_blocks_X9_answered rfl rfl rfl (by decide +kernel) ⟨Nat.le_of_ble_eq_true rfl, Nat.le_of_ble_eq_true rfl⟩ rfl rfl 0 rfl [0] rfl rfl rfl (Nat.le_of_ble_eq_true rfl) dX9_blocks_29 ⟨Nat.le_of_ble_eq_true rfl, Nat.le_of_ble_eq_true rfl⟩) rfl rfl ?_
    have hs : sBlocks gv (cbO pl le lb br eb be el) = (some (cbO pl le lb br eb be el), 0) := by first | (simp [sBlocks, c_7]; done) | (simp [sBlocks, tN, c_7]; done) | (simp [sBlocks, tN, hcj_v, c_7]; done) | (simp [sBlocks, tN, hcj_v, hck_v, c_7]; done) | (simp [sBlocks, tN, hcj_v, hck_v, hcm_v, c_7]; done)
    refine j_iret (pc := 32) X dX9_blocks_32 ?_
    rw [hs]; exact ⟨rfl, rfl⟩
  · skip
    refine j_aload_n (pc := 10) X dX9_blocks_10 rfl 0 rfl ?_
    refine j_bipush (pc := 11) X (v := nI 10) dX9_blocks_11 (by decide) ?_
    refine j_ci (pc := 13) X (ws' := [(qx, .inr (9, [.ref qy, .ref qc, .ref qp, .ref qr, .ref qm, .ref qg, .ref qu, .ref ql, .ref qf, .int (nI 10)])), (qp, .inr (4, [.ref qp0, .ref qp1, .int (b2i gv)])), kI G qp0 16 (oF eb), (qc, .inr (0, [.ref qc0, .ref qc1, .ref qc2, .ref qc3, .int (nI el), .int (nI be)])), kI G qc0 12 (nF pl), kI G qc1 192 (nF le), kI G qc2 192 (nF lb), kZ G qc3 192 (bF br)]) [0] rfl (j_rV X (b := qx) (As := [.int (nI 10)]) (ci := 9) (rest := []) 1 (mX9_refused l G qx qy qc qp qr qm qg qu ql qf lt 10 ) gX9_blocks_X9_refused rfl rfl rfl (by decide +kernel) ⟨Nat.le_of_ble_eq_true rfl, Nat.le_of_ble_eq_true rfl⟩ rfl rfl 0 rfl [0] rfl rfl rfl (Nat.le_of_ble_eq_true rfl) dX9_blocks_13 ⟨Nat.le_of_ble_eq_true rfl, Nat.le_of_ble_eq_true rfl⟩) rfl rfl ?_
    have hs : sBlocks gv (cbO pl le lb br eb be el) = (none, 10) := by first | (simp [sBlocks, c_7]; done) | (simp [sBlocks, tN, c_7]; done) | (simp [sBlocks, tN, hcj_v, c_7]; done) | (simp [sBlocks, tN, hcj_v, hck_v, c_7]; done) | (simp [sBlocks, tN, hcj_v, hck_v, hcm_v, c_7]; done)
    refine j_iret (pc := 16) X dX9_blocks_16 ?_
    rw [hs]; exact ⟨rfl, rfl⟩

set_option maxHeartbeats 4000000 in
set_option maxRecDepth 100000 in
theorem mX9_block (l : Launch) (G : jG) (qx : Nat) (qy : Nat) (qc : Nat) (qp : Nat) (qr : Nat) (qm : Nat) (qg : Nat) (qu : Nat) (ql : Nat) (qf : Nat) (lt : Nat) (qp0 : Nat) (qp1 : Nat) (gv : Bool) (eb : Nat → Option Nat) (qc0 : Nat) (qc1 : Nat) (qc2 : Nat) (qc3 : Nat) (el : Nat) (be : Nat) (pl : Nat → Nat) (le : Nat → Nat) (lb : Nat → Nat) (br : Nat → Bool) (x : Int32) (z : Int32) (hel : el ≤ 12) (hbe : be ≤ 16) (hle : ∀ k, le k ≤ 100) (hlb : ∀ k, lb k ≤ 100) (hpl : ∀ k, pl k ≤ 4) (heb : ∀ k, ob 12 (eb k)) : MV l yX9_block wsX9_block ({ frames := 4, cells := 0, slots := 0, locals := 95 }) G [.ref qx, .int x, .int z] [(qx, .inr (9, [.ref qy, .ref qc, .ref qp, .ref qr, .ref qm, .ref qg, .ref qu, .ref ql, .ref qf, .int (nI lt)])), (qp, .inr (4, [.ref qp0, .ref qp1, .int (b2i gv)])), kI G qp0 16 (oF eb), (qc, .inr (0, [.ref qc0, .ref qc1, .ref qc2, .ref qc3, .int (nI el), .int (nI be)])), kI G qc0 12 (nF pl), kI G qc1 192 (nF le), kI G qc2 192 (nF lb), kZ G qc3 192 (bF br)] (some (.int (oI ((sBlock el be gv (blk pl le lb br eb be) x z).1)))) [(qx, .inr (9, [.ref qy, .ref qc, .ref qp, .ref qr, .ref qm, .ref qg, .ref qu, .ref ql, .ref qf, .int (nI ((sBlock el be gv (blk pl le lb br eb be) x z).2))])), (qp, .inr (4, [.ref qp0, .ref qp1, .int (b2i gv)])), kI G qp0 16 (oF eb), (qc, .inr (0, [.ref qc0, .ref qc1, .ref qc2, .ref qc3, .int (nI el), .int (nI be)])), kI G qc0 12 (nF pl), kI G qc1 192 (nF le), kI G qc2 192 (nF lb), kZ G qc3 192 (bF br)] := by
  refine MF.ofJ (cc := cX9_block) (maxL := 3) (ret := (some .int)) (own := RX9) (lv := [(0, .ref qx), (1, .int x), (2, .int z)]) (by decide) rfl rfl (Nat.le_of_ble_eq_true rfl) rfl ?_
  intro κ X
  have i_X0 : ∀ w ∈ wsX00, w ∈ wsX9_block := by decide +kernel
  have i_X4 : ∀ w ∈ wsX40, w ∈ wsX9_block := by decide +kernel
  have i_X9 : ∀ w ∈ wsX90, w ∈ wsX9_block := by decide +kernel
  refine j_aload_n (pc := 0) X dX9_block_0 rfl 0 rfl ?_
  refine j_get (pc := 1) X 9 i_X9 0 rfl rfl 1 (by decide) (by decide +kernel) rfl dX9_block_1 ?_
  refine j_iload_n (pc := 4) X dX9_block_4 rfl 1 rfl ?_
  refine j_iload_n (pc := 5) X dX9_block_5 rfl 2 rfl ?_
  refine j_ciP (pc := 6) X [3] rfl (j_rVN X (b := qc) (As := [.int x, .int z]) (ci := 0) (rest := []) 2 (mX0_areTwo l G qc qc0 qc1 qc2 qc3 el be x z ) gX9_block_X0_areTwo_n141 rfl rfl rfl (by decide +kernel) (by decide +kernel) (by decide +kernel) (by decide +kernel) (by decide +kernel) ⟨Nat.le_of_ble_eq_true rfl, Nat.le_of_ble_eq_true rfl⟩ rfl rfl 0 rfl [3] rfl rfl rfl (Nat.le_of_ble_eq_true rfl) dX9_block_6 ⟨Nat.le_of_ble_eq_true rfl, Nat.le_of_ble_eq_true rfl⟩) ?_
  refine j_ifb_ne (pc := 9) X (B := inR x el && inR z be) (tgt := 18) dX9_block_9 (by decide) (fun c_9 => ?_) (fun c_9 => ?_)
  · skip
    obtain ⟨hx1, hx2⟩ := Bool.and_eq_true_iff.mp c_9; obtain ⟨j, hj, rfl⟩ := inR_of hx1 (by omega); obtain ⟨k, hk, rfl⟩ := inR_of hx2 (by omega); have hcj_v := nI_clamp (n := j) (by omega); have hck_v := nI_clamp (n := k) (by omega)
    refine j_aload_n (pc := 18) X dX9_block_18 rfl 0 rfl ?_
    refine j_get (pc := 19) X 9 i_X9 0 rfl rfl 2 (by decide) (by decide +kernel) rfl dX9_block_19 ?_
    refine j_getN (pc := 22) X 4 i_X4 1 rfl rfl 2 (by decide) (by decide +kernel) rfl dX9_block_22 ?_
    refine j_ifb_ne (pc := 25) X (B := gv) (tgt := 35) dX9_block_25 (by decide) (fun c_25 => ?_) (fun c_25 => ?_)
    · skip
      refine j_aload_n (pc := 35) X dX9_block_35 rfl 0 rfl ?_
      refine j_aload_n (pc := 36) X dX9_block_36 rfl 0 rfl ?_
      refine j_get (pc := 37) X 9 i_X9 0 rfl rfl 2 (by decide) (by decide +kernel) rfl dX9_block_37 ?_
      refine j_aload_n (pc := 40) X dX9_block_40 rfl 0 rfl ?_
      refine j_get (pc := 41) X 9 i_X9 0 rfl rfl 1 (by decide) (by decide +kernel) rfl dX9_block_41 ?_
      refine j_iload_n (pc := 44) X dX9_block_44 rfl 1 rfl ?_
      refine j_iload_n (pc := 45) X dX9_block_45 rfl 2 rfl ?_
      refine j_ciP (pc := 46) X [1, 2, 3, 4, 5, 6, 7] rfl (j_rVN X (b := qp) (As := [.ref qc, .int (nI j), .int (nI k)]) (ci := 4) (rest := [.ref qx]) 3 (mX4_isBlockedBy l G qp qp0 qp1 gv eb qc qc0 qc1 qc2 qc3 el be pl le lb br j k (by first | assumption | omega | exact ob_s (by omega) | exact ob_n) (by first | assumption | omega | exact ob_s (by omega) | exact ob_n) (by first | assumption | omega | exact ob_s (by omega) | exact ob_n) (by first | assumption | omega | exact ob_s (by omega) | exact ob_n) (by first | assumption | omega | exact ob_s (by omega) | exact ob_n) (by first | assumption | omega | exact ob_s (by omega) | exact ob_n) (by first | assumption | omega | exact ob_s (by omega) | exact ob_n) (by first | assumption | omega | exact ob_s (by omega) | exact ob_n)) gX9_block_X4_isBlockedBy_n176 rfl rfl rfl (by decide +kernel) (by decide +kernel) (by decide +kernel) (by decide +kernel) (by decide +kernel) ⟨Nat.le_of_ble_eq_true rfl, Nat.le_of_ble_eq_true rfl⟩ rfl rfl 0 rfl [1, 2, 3, 4, 5, 6, 7] rfl rfl rfl (Nat.le_of_ble_eq_true rfl) dX9_block_46 ⟨Nat.le_of_ble_eq_true rfl, Nat.le_of_ble_eq_true rfl⟩) ?_
      refine j_ifb_eq (pc := 49) X (B := blk pl le lb br eb be j k) (tgt := 56) dX9_block_49 (by decide) (fun c_49 => ?_) (fun c_49 => ?_)
      · skip
        refine j_iconst (pc := 56) X (v := nI 0) dX9_block_56 (by decide) ?_
        refine j_ci (pc := 57) X (ws' := [(qx, .inr (9, [.ref qy, .ref qc, .ref qp, .ref qr, .ref qm, .ref qg, .ref qu, .ref ql, .ref qf, .int (nI 0)])), (qp, .inr (4, [.ref qp0, .ref qp1, .int (b2i gv)])), kI G qp0 16 (oF eb), (qc, .inr (0, [.ref qc0, .ref qc1, .ref qc2, .ref qc3, .int (nI el), .int (nI be)])), kI G qc0 12 (nF pl), kI G qc1 192 (nF le), kI G qc2 192 (nF lb), kZ G qc3 192 (bF br)]) [0] rfl (j_rV X (b := qx) (As := [.int (nI 0)]) (ci := 9) (rest := []) 1 (mX9_answered l G qx qy qc qp qr qm qg qu ql qf lt (nI 0) ) gX9_block_X9_answered rfl rfl rfl (by decide +kernel) ⟨Nat.le_of_ble_eq_true rfl, Nat.le_of_ble_eq_true rfl⟩ rfl rfl 0 rfl [0] rfl rfl rfl (Nat.le_of_ble_eq_true rfl) dX9_block_57 ⟨Nat.le_of_ble_eq_true rfl, Nat.le_of_ble_eq_true rfl⟩) rfl rfl ?_
        have hs : sBlock el be gv (blk pl le lb br eb be) (nI j) (nI k) = (some 0, 0) := by first | (simp [sBlock, c_9, c_25, c_49]; done) | (simp [sBlock, tN, c_9, c_25, c_49]; done) | (simp [sBlock, tN, hcj_v, c_9, c_25, c_49]; done) | (simp [sBlock, tN, hcj_v, hck_v, c_9, c_25, c_49]; done) | (simp [sBlock, tN, hcj_v, hck_v, hcm_v, c_9, c_25, c_49]; done)
        refine j_iret (pc := 60) X dX9_block_60 ?_
        rw [hs]; exact ⟨rfl, rfl⟩
      · skip
        refine j_iconst (pc := 52) X (v := nI 1) dX9_block_52 (by decide) ?_
        refine j_goto (pc := 53) X (tgt := 57) dX9_block_53 (by decide) ?_
        refine j_ci (pc := 57) X (ws' := [(qx, .inr (9, [.ref qy, .ref qc, .ref qp, .ref qr, .ref qm, .ref qg, .ref qu, .ref ql, .ref qf, .int (nI 0)])), (qp, .inr (4, [.ref qp0, .ref qp1, .int (b2i gv)])), kI G qp0 16 (oF eb), (qc, .inr (0, [.ref qc0, .ref qc1, .ref qc2, .ref qc3, .int (nI el), .int (nI be)])), kI G qc0 12 (nF pl), kI G qc1 192 (nF le), kI G qc2 192 (nF lb), kZ G qc3 192 (bF br)]) [0] rfl (j_rV X (b := qx) (As := [.int (nI 1)]) (ci := 9) (rest := []) 1 (mX9_answered l G qx qy qc qp qr qm qg qu ql qf lt (nI 1) ) gX9_block_X9_answered rfl rfl rfl (by decide +kernel) ⟨Nat.le_of_ble_eq_true rfl, Nat.le_of_ble_eq_true rfl⟩ rfl rfl 0 rfl [0] rfl rfl rfl (Nat.le_of_ble_eq_true rfl) dX9_block_57 ⟨Nat.le_of_ble_eq_true rfl, Nat.le_of_ble_eq_true rfl⟩) rfl rfl ?_
        have hs : sBlock el be gv (blk pl le lb br eb be) (nI j) (nI k) = (some 1, 0) := by first | (simp [sBlock, c_9, c_25, c_49]; done) | (simp [sBlock, tN, c_9, c_25, c_49]; done) | (simp [sBlock, tN, hcj_v, c_9, c_25, c_49]; done) | (simp [sBlock, tN, hcj_v, hck_v, c_9, c_25, c_49]; done) | (simp [sBlock, tN, hcj_v, hck_v, hcm_v, c_9, c_25, c_49]; done)
        refine j_iret (pc := 60) X dX9_block_60 ?_
        rw [hs]; exact ⟨rfl, rfl⟩
    · skip
      refine j_aload_n (pc := 28) X dX9_block_28 rfl 0 rfl ?_
      refine j_bipush (pc := 29) X (v := nI 10) dX9_block_29 (by decide) ?_
      refine j_ci (pc := 31) X (ws' := [(qx, .inr (9, [.ref qy, .ref qc, .ref qp, .ref qr, .ref qm, .ref qg, .ref qu, .ref ql, .ref qf, .int (nI 10)])), (qp, .inr (4, [.ref qp0, .ref qp1, .int (b2i gv)])), kI G qp0 16 (oF eb), (qc, .inr (0, [.ref qc0, .ref qc1, .ref qc2, .ref qc3, .int (nI el), .int (nI be)])), kI G qc0 12 (nF pl), kI G qc1 192 (nF le), kI G qc2 192 (nF lb), kZ G qc3 192 (bF br)]) [0] rfl (j_rV X (b := qx) (As := [.int (nI 10)]) (ci := 9) (rest := []) 1 (mX9_refused l G qx qy qc qp qr qm qg qu ql qf lt 10 ) gX9_block_X9_refused rfl rfl rfl (by decide +kernel) ⟨Nat.le_of_ble_eq_true rfl, Nat.le_of_ble_eq_true rfl⟩ rfl rfl 0 rfl [0] rfl rfl rfl (Nat.le_of_ble_eq_true rfl) dX9_block_31 ⟨Nat.le_of_ble_eq_true rfl, Nat.le_of_ble_eq_true rfl⟩) rfl rfl ?_
      have hs : sBlock el be gv (blk pl le lb br eb be) (nI j) (nI k) = (none, 10) := by first | (simp [sBlock, c_9, c_25]; done) | (simp [sBlock, tN, c_9, c_25]; done) | (simp [sBlock, tN, hcj_v, c_9, c_25]; done) | (simp [sBlock, tN, hcj_v, hck_v, c_9, c_25]; done) | (simp [sBlock, tN, hcj_v, hck_v, hcm_v, c_9, c_25]; done)
      refine j_iret (pc := 34) X dX9_block_34 ?_
      rw [hs]; exact ⟨rfl, rfl⟩
  · skip
    refine j_aload_n (pc := 12) X dX9_block_12 rfl 0 rfl ?_
    refine j_iconst (pc := 13) X (v := nI 2) dX9_block_13 (by decide) ?_
    refine j_ci (pc := 14) X (ws' := [(qx, .inr (9, [.ref qy, .ref qc, .ref qp, .ref qr, .ref qm, .ref qg, .ref qu, .ref ql, .ref qf, .int (nI 2)])), (qp, .inr (4, [.ref qp0, .ref qp1, .int (b2i gv)])), kI G qp0 16 (oF eb), (qc, .inr (0, [.ref qc0, .ref qc1, .ref qc2, .ref qc3, .int (nI el), .int (nI be)])), kI G qc0 12 (nF pl), kI G qc1 192 (nF le), kI G qc2 192 (nF lb), kZ G qc3 192 (bF br)]) [0] rfl (j_rV X (b := qx) (As := [.int (nI 2)]) (ci := 9) (rest := []) 1 (mX9_refused l G qx qy qc qp qr qm qg qu ql qf lt 2 ) gX9_block_X9_refused rfl rfl rfl (by decide +kernel) ⟨Nat.le_of_ble_eq_true rfl, Nat.le_of_ble_eq_true rfl⟩ rfl rfl 0 rfl [0] rfl rfl rfl (Nat.le_of_ble_eq_true rfl) dX9_block_14 ⟨Nat.le_of_ble_eq_true rfl, Nat.le_of_ble_eq_true rfl⟩) rfl rfl ?_
    have hs : sBlock el be gv (blk pl le lb br eb be) x z = (none, 2) := by first | (simp [sBlock, c_9]; done) | (simp [sBlock, tN, c_9]; done) | (simp [sBlock, tN, hcj_v, c_9]; done) | (simp [sBlock, tN, hcj_v, hck_v, c_9]; done) | (simp [sBlock, tN, hcj_v, hck_v, hcm_v, c_9]; done)
    refine j_iret (pc := 17) X dX9_block_17 ?_
    rw [hs]; exact ⟨rfl, rfl⟩

set_option maxHeartbeats 4000000 in
set_option maxRecDepth 100000 in
theorem mX9_meeting (l : Launch) (G : jG) (qx : Nat) (qy : Nat) (qc : Nat) (qp : Nat) (qr : Nat) (qm : Nat) (qg : Nat) (qu : Nat) (ql : Nat) (qf : Nat) (lt : Nat) (qc0 : Nat) (qc1 : Nat) (qc2 : Nat) (qc3 : Nat) (el : Nat) (be : Nat) (qm0 : Nat) (qm1 : Nat) (qm2 : Nat) (qm3 : Nat) (qm4 : Nat) (mm : Nat) (tt : Nat) (mb : Nat → Nat) (md : Nat → Nat) (x : Int32) (d : Int32) (hbe : be ≤ 16) (hmm : mm ≤ 100) : MV l yX9_meeting wsX9_meeting ({ frames := 1, cells := 0, slots := 0, locals := 22 }) G [.ref qx, .int x, .int d] [(qx, .inr (9, [.ref qy, .ref qc, .ref qp, .ref qr, .ref qm, .ref qg, .ref qu, .ref ql, .ref qf, .int (nI lt)])), (qc, .inr (0, [.ref qc0, .ref qc1, .ref qc2, .ref qc3, .int (nI el), .int (nI be)])), (qm, .inr (3, [.ref qm0, .ref qm1, .ref qm2, .ref qm3, .ref qm4, .int (nI mm), .int (nI tt)])), kI G qm0 100 (nF mb), kI G qm1 100 (nF md)] (some (.int (oI ((sMeet be mm mb md x d).1)))) [(qx, .inr (9, [.ref qy, .ref qc, .ref qp, .ref qr, .ref qm, .ref qg, .ref qu, .ref ql, .ref qf, .int (nI ((sMeet be mm mb md x d).2.1))])), (qc, .inr (0, [.ref qc0, .ref qc1, .ref qc2, .ref qc3, .int (nI el), .int (nI be)])), (qm, .inr (3, [.ref qm0, .ref qm1, .ref qm2, .ref qm3, .ref qm4, .int (nI ((sMeet be mm mb md x d).2.2.1)), .int (nI tt)])), kI G qm0 100 (nF ((sMeet be mm mb md x d).2.2.2.1)), kI G qm1 100 (nF ((sMeet be mm mb md x d).2.2.2.2))] := by
  refine MF.ofJ (cc := cX9_meeting) (maxL := 3) (ret := (some .int)) (own := RX9) (lv := [(0, .ref qx), (1, .int x), (2, .int d)]) (by decide) rfl rfl (Nat.le_of_ble_eq_true rfl) rfl ?_
  intro κ X
  have i_X0 : ∀ w ∈ wsX00, w ∈ wsX9_meeting := by decide +kernel
  have i_X3 : ∀ w ∈ wsX30, w ∈ wsX9_meeting := by decide +kernel
  have i_X9 : ∀ w ∈ wsX90, w ∈ wsX9_meeting := by decide +kernel
  refine j_aload_n (pc := 0) X dX9_meeting_0 rfl 0 rfl ?_
  refine j_get (pc := 1) X 9 i_X9 0 rfl rfl 1 (by decide) (by decide +kernel) rfl dX9_meeting_1 ?_
  refine j_iload_n (pc := 4) X dX9_meeting_4 rfl 1 rfl ?_
  refine j_ciP (pc := 5) X [1] rfl (j_rVN X (b := qc) (As := [.int x]) (ci := 0) (rest := []) 1 (mX0_isBeginner l G qc qc0 qc1 qc2 qc3 el be x ) gX9_meeting_X0_isBeginner_n188 rfl rfl rfl (by decide +kernel) (by decide +kernel) (by decide +kernel) (by decide +kernel) (by decide +kernel) ⟨Nat.le_of_ble_eq_true rfl, Nat.le_of_ble_eq_true rfl⟩ rfl rfl 0 rfl [1] rfl rfl rfl (Nat.le_of_ble_eq_true rfl) dX9_meeting_5 ⟨Nat.le_of_ble_eq_true rfl, Nat.le_of_ble_eq_true rfl⟩) ?_
  refine j_ifb_ne (pc := 8) X (B := inR x be) (tgt := 17) dX9_meeting_8 (by decide) (fun c_8 => ?_) (fun c_8 => ?_)
  · skip
    obtain ⟨j, hj, rfl⟩ := inR_of c_8 (by omega); have hcj_v := nI_clamp (n := j) (by omega)
    refine j_iload_n (pc := 17) X dX9_meeting_17 rfl 2 rfl ?_
    refine j_ciP (pc := 18) X [] rfl (j_rS X (As := [.int d]) (rest := []) 1 (mX9_isDay l G d ) gX9_meeting_X9_isDay rfl rfl rfl (by decide +kernel) ⟨Nat.le_of_ble_eq_true rfl, Nat.le_of_ble_eq_true rfl⟩ rfl [] rfl rfl rfl (Nat.le_of_ble_eq_true rfl) dX9_meeting_18 ⟨Nat.le_of_ble_eq_true rfl, Nat.le_of_ble_eq_true rfl⟩) ?_
    refine j_ifb_ne (pc := 21) X (B := inC d 9999) (tgt := 30) dX9_meeting_21 (by decide) (fun c_21 => ?_) (fun c_21 => ?_)
    · skip
      obtain ⟨k, hk, rfl⟩ := inC_of c_21 (by decide); have hck_v := nI_clamp (n := k) (by omega)
      refine j_aload_n (pc := 30) X dX9_meeting_30 rfl 0 rfl ?_
      refine j_get (pc := 31) X 9 i_X9 0 rfl rfl 4 (by decide) (by decide +kernel) rfl dX9_meeting_31 ?_
      refine j_getN (pc := 34) X 3 i_X3 2 rfl rfl 5 (by decide) (by decide +kernel) rfl dX9_meeting_34 ?_
      refine j_bipush (pc := 37) X (v := nI 100) dX9_meeting_37 (by decide) ?_
      refine j_icmpN_lt (pc := 39) X (a := mm) (b := 100) (by omega) (by omega) (tgt := 49) dX9_meeting_39 (by decide) (fun c_39 => ?_) (fun c_39 => ?_)
      · skip
        refine j_aload_n (pc := 49) X dX9_meeting_49 rfl 0 rfl ?_
        refine j_aload_n (pc := 50) X dX9_meeting_50 rfl 0 rfl ?_
        refine j_get (pc := 51) X 9 i_X9 0 rfl rfl 4 (by decide) (by decide +kernel) rfl dX9_meeting_51 ?_
        refine j_iload_n (pc := 54) X dX9_meeting_54 rfl 1 rfl ?_
        refine j_iload_n (pc := 55) X dX9_meeting_55 rfl 2 rfl ?_
        refine j_ci (pc := 56) X (ws' := [(qx, .inr (9, [.ref qy, .ref qc, .ref qp, .ref qr, .ref qm, .ref qg, .ref qu, .ref ql, .ref qf, .int (nI lt)])), (qc, .inr (0, [.ref qc0, .ref qc1, .ref qc2, .ref qc3, .int (nI el), .int (nI be)])), (qm, .inr (3, [.ref qm0, .ref qm1, .ref qm2, .ref qm3, .ref qm4, .int (nI (mm + 1)), .int (nI tt)])), kI G qm0 100 (nF (va_up mb mm j)), kI G qm1 100 (nF (va_up md mm k))]) [2, 3, 4] rfl (j_rVN X (b := qm) (As := [.int (nI j), .int (nI k)]) (ci := 3) (rest := [.ref qx]) 2 (mX3_add l G qm qm0 qm1 qm2 qm3 qm4 mm tt mb md j k (by first | assumption | omega | exact ob_s (by omega) | exact ob_n)) gX9_meeting_X3_add_n197 rfl rfl rfl (by decide +kernel) (by decide +kernel) (by decide +kernel) (by decide +kernel) (by decide +kernel) ⟨Nat.le_of_ble_eq_true rfl, Nat.le_of_ble_eq_true rfl⟩ rfl rfl 0 rfl [2, 3, 4] rfl rfl rfl (Nat.le_of_ble_eq_true rfl) dX9_meeting_56 ⟨Nat.le_of_ble_eq_true rfl, Nat.le_of_ble_eq_true rfl⟩) rfl rfl ?_
        refine j_ci (pc := 59) X (ws' := [(qx, .inr (9, [.ref qy, .ref qc, .ref qp, .ref qr, .ref qm, .ref qg, .ref qu, .ref ql, .ref qf, .int (nI 0)])), (qc, .inr (0, [.ref qc0, .ref qc1, .ref qc2, .ref qc3, .int (nI el), .int (nI be)])), (qm, .inr (3, [.ref qm0, .ref qm1, .ref qm2, .ref qm3, .ref qm4, .int (nI (mm + 1)), .int (nI tt)])), kI G qm0 100 (nF (va_up mb mm j)), kI G qm1 100 (nF (va_up md mm k))]) [0] rfl (j_rV X (b := qx) (As := [.int (nI mm)]) (ci := 9) (rest := []) 1 (mX9_answered l G qx qy qc qp qr qm qg qu ql qf lt (nI mm) ) gX9_meeting_X9_answered rfl rfl rfl (by decide +kernel) ⟨Nat.le_of_ble_eq_true rfl, Nat.le_of_ble_eq_true rfl⟩ rfl rfl 0 rfl [0] rfl rfl rfl (Nat.le_of_ble_eq_true rfl) dX9_meeting_59 ⟨Nat.le_of_ble_eq_true rfl, Nat.le_of_ble_eq_true rfl⟩) rfl rfl ?_
        have hs : sMeet be mm mb md (nI j) (nI k) = (some mm, 0, mm + 1, va_up mb mm j, va_up md mm k) := by first | (simp [sMeet, c_8, c_21, c_39]; done) | (simp [sMeet, tN, c_8, c_21, c_39]; done) | (simp [sMeet, tN, hcj_v, c_8, c_21, c_39]; done) | (simp [sMeet, tN, hcj_v, hck_v, c_8, c_21, c_39]; done) | (simp [sMeet, tN, hcj_v, hck_v, hcm_v, c_8, c_21, c_39]; done)
        refine j_iret (pc := 62) X dX9_meeting_62 ?_
        rw [hs]; exact ⟨rfl, rfl⟩
      · skip
        refine j_aload_n (pc := 42) X dX9_meeting_42 rfl 0 rfl ?_
        refine j_bipush (pc := 43) X (v := nI 7) dX9_meeting_43 (by decide) ?_
        refine j_ci (pc := 45) X (ws' := [(qx, .inr (9, [.ref qy, .ref qc, .ref qp, .ref qr, .ref qm, .ref qg, .ref qu, .ref ql, .ref qf, .int (nI 7)])), (qc, .inr (0, [.ref qc0, .ref qc1, .ref qc2, .ref qc3, .int (nI el), .int (nI be)])), (qm, .inr (3, [.ref qm0, .ref qm1, .ref qm2, .ref qm3, .ref qm4, .int (nI mm), .int (nI tt)])), kI G qm0 100 (nF mb), kI G qm1 100 (nF md)]) [0] rfl (j_rV X (b := qx) (As := [.int (nI 7)]) (ci := 9) (rest := []) 1 (mX9_refused l G qx qy qc qp qr qm qg qu ql qf lt 7 ) gX9_meeting_X9_refused rfl rfl rfl (by decide +kernel) ⟨Nat.le_of_ble_eq_true rfl, Nat.le_of_ble_eq_true rfl⟩ rfl rfl 0 rfl [0] rfl rfl rfl (Nat.le_of_ble_eq_true rfl) dX9_meeting_45 ⟨Nat.le_of_ble_eq_true rfl, Nat.le_of_ble_eq_true rfl⟩) rfl rfl ?_
        have hs : sMeet be mm mb md (nI j) (nI k) = (none, 7, mm, mb, md) := by first | (simp [sMeet, c_8, c_21, c_39]; done) | (simp [sMeet, tN, c_8, c_21, c_39]; done) | (simp [sMeet, tN, hcj_v, c_8, c_21, c_39]; done) | (simp [sMeet, tN, hcj_v, hck_v, c_8, c_21, c_39]; done) | (simp [sMeet, tN, hcj_v, hck_v, hcm_v, c_8, c_21, c_39]; done)
        refine j_iret (pc := 48) X dX9_meeting_48 ?_
        rw [hs]; exact ⟨rfl, rfl⟩
    · skip
      refine j_aload_n (pc := 24) X dX9_meeting_24 rfl 0 rfl ?_
      refine j_iconst (pc := 25) X (v := nI 5) dX9_meeting_25 (by decide) ?_
      refine j_ci (pc := 26) X (ws' := [(qx, .inr (9, [.ref qy, .ref qc, .ref qp, .ref qr, .ref qm, .ref qg, .ref qu, .ref ql, .ref qf, .int (nI 5)])), (qc, .inr (0, [.ref qc0, .ref qc1, .ref qc2, .ref qc3, .int (nI el), .int (nI be)])), (qm, .inr (3, [.ref qm0, .ref qm1, .ref qm2, .ref qm3, .ref qm4, .int (nI mm), .int (nI tt)])), kI G qm0 100 (nF mb), kI G qm1 100 (nF md)]) [0] rfl (j_rV X (b := qx) (As := [.int (nI 5)]) (ci := 9) (rest := []) 1 (mX9_refused l G qx qy qc qp qr qm qg qu ql qf lt 5 ) gX9_meeting_X9_refused rfl rfl rfl (by decide +kernel) ⟨Nat.le_of_ble_eq_true rfl, Nat.le_of_ble_eq_true rfl⟩ rfl rfl 0 rfl [0] rfl rfl rfl (Nat.le_of_ble_eq_true rfl) dX9_meeting_26 ⟨Nat.le_of_ble_eq_true rfl, Nat.le_of_ble_eq_true rfl⟩) rfl rfl ?_
      have hs : sMeet be mm mb md (nI j) d = (none, 5, mm, mb, md) := by first | (simp [sMeet, c_8, c_21]; done) | (simp [sMeet, tN, c_8, c_21]; done) | (simp [sMeet, tN, hcj_v, c_8, c_21]; done) | (simp [sMeet, tN, hcj_v, hck_v, c_8, c_21]; done) | (simp [sMeet, tN, hcj_v, hck_v, hcm_v, c_8, c_21]; done)
      refine j_iret (pc := 29) X dX9_meeting_29 ?_
      rw [hs]; exact ⟨rfl, rfl⟩
  · skip
    refine j_aload_n (pc := 11) X dX9_meeting_11 rfl 0 rfl ?_
    refine j_iconst (pc := 12) X (v := nI 2) dX9_meeting_12 (by decide) ?_
    refine j_ci (pc := 13) X (ws' := [(qx, .inr (9, [.ref qy, .ref qc, .ref qp, .ref qr, .ref qm, .ref qg, .ref qu, .ref ql, .ref qf, .int (nI 2)])), (qc, .inr (0, [.ref qc0, .ref qc1, .ref qc2, .ref qc3, .int (nI el), .int (nI be)])), (qm, .inr (3, [.ref qm0, .ref qm1, .ref qm2, .ref qm3, .ref qm4, .int (nI mm), .int (nI tt)])), kI G qm0 100 (nF mb), kI G qm1 100 (nF md)]) [0] rfl (j_rV X (b := qx) (As := [.int (nI 2)]) (ci := 9) (rest := []) 1 (mX9_refused l G qx qy qc qp qr qm qg qu ql qf lt 2 ) gX9_meeting_X9_refused rfl rfl rfl (by decide +kernel) ⟨Nat.le_of_ble_eq_true rfl, Nat.le_of_ble_eq_true rfl⟩ rfl rfl 0 rfl [0] rfl rfl rfl (Nat.le_of_ble_eq_true rfl) dX9_meeting_13 ⟨Nat.le_of_ble_eq_true rfl, Nat.le_of_ble_eq_true rfl⟩) rfl rfl ?_
    have hs : sMeet be mm mb md x d = (none, 2, mm, mb, md) := by first | (simp [sMeet, c_8]; done) | (simp [sMeet, tN, c_8]; done) | (simp [sMeet, tN, hcj_v, c_8]; done) | (simp [sMeet, tN, hcj_v, hck_v, c_8]; done) | (simp [sMeet, tN, hcj_v, hck_v, hcm_v, c_8]; done)
    refine j_iret (pc := 16) X dX9_meeting_16 ?_
    rw [hs]; exact ⟨rfl, rfl⟩

set_option maxHeartbeats 4000000 in
set_option maxRecDepth 100000 in
theorem mX9_tell (l : Launch) (G : jG) (qx : Nat) (qy : Nat) (qc : Nat) (qp : Nat) (qr : Nat) (qm : Nat) (qg : Nat) (qu : Nat) (ql : Nat) (qf : Nat) (lt : Nat) (qm0 : Nat) (qm1 : Nat) (qm2 : Nat) (qm3 : Nat) (qm4 : Nat) (mm : Nat) (tt : Nat) (md : Nat → Nat) (tm : Nat → Nat) (td : Nat → Nat) (tk : Nat → Bool) (x : Int32) (d : Int32) (kp : Bool) (hmm : mm ≤ 100) (htt : tt ≤ 200) (hmd : ∀ k, md k < 10000) : MV l yX9_tell wsX9_tell ({ frames := 1, cells := 0, slots := 0, locals := 23 }) G [.ref qx, .int x, .int (b2i kp), .int d] [(qx, .inr (9, [.ref qy, .ref qc, .ref qp, .ref qr, .ref qm, .ref qg, .ref qu, .ref ql, .ref qf, .int (nI lt)])), (qm, .inr (3, [.ref qm0, .ref qm1, .ref qm2, .ref qm3, .ref qm4, .int (nI mm), .int (nI tt)])), kI G qm1 100 (nF md), kI G qm2 200 (nF tm), kI G qm3 200 (nF td), kZ G qm4 200 (bF tk)] (some (.int (b2i ((sTell mm tt md tm td tk x kp d).1)))) [(qx, .inr (9, [.ref qy, .ref qc, .ref qp, .ref qr, .ref qm, .ref qg, .ref qu, .ref ql, .ref qf, .int (nI ((sTell mm tt md tm td tk x kp d).2.1))])), (qm, .inr (3, [.ref qm0, .ref qm1, .ref qm2, .ref qm3, .ref qm4, .int (nI mm), .int (nI ((sTell mm tt md tm td tk x kp d).2.2.1))])), kI G qm1 100 (nF md), kI G qm2 200 (nF ((sTell mm tt md tm td tk x kp d).2.2.2.1)), kI G qm3 200 (nF ((sTell mm tt md tm td tk x kp d).2.2.2.2.1)), kZ G qm4 200 (bF ((sTell mm tt md tm td tk x kp d).2.2.2.2.2))] := by
  refine MF.ofJ (cc := cX9_tell) (maxL := 4) (ret := (some .boolean)) (own := RX9) (lv := [(0, .ref qx), (1, .int x), (2, .int (b2i kp)), (3, .int d)]) (by decide) rfl rfl (Nat.le_of_ble_eq_true rfl) rfl ?_
  intro κ X
  have i_X3 : ∀ w ∈ wsX30, w ∈ wsX9_tell := by decide +kernel
  have i_X9 : ∀ w ∈ wsX90, w ∈ wsX9_tell := by decide +kernel
  refine j_aload_n (pc := 0) X dX9_tell_0 rfl 0 rfl ?_
  refine j_get (pc := 1) X 9 i_X9 0 rfl rfl 4 (by decide) (by decide +kernel) rfl dX9_tell_1 ?_
  refine j_iload_n (pc := 4) X dX9_tell_4 rfl 1 rfl ?_
  refine j_ciP (pc := 5) X [1] rfl (j_rVN X (b := qm) (As := [.int x]) (ci := 3) (rest := []) 1 (mX3_isMeeting l G qm qm0 qm1 qm2 qm3 qm4 mm tt x ) gX9_tell_X3_isMeeting_n200 rfl rfl rfl (by decide +kernel) (by decide +kernel) (by decide +kernel) (by decide +kernel) (by decide +kernel) ⟨Nat.le_of_ble_eq_true rfl, Nat.le_of_ble_eq_true rfl⟩ rfl rfl 0 rfl [1] rfl rfl rfl (Nat.le_of_ble_eq_true rfl) dX9_tell_5 ⟨Nat.le_of_ble_eq_true rfl, Nat.le_of_ble_eq_true rfl⟩) ?_
  refine j_ifb_ne (pc := 8) X (B := inR x mm) (tgt := 17) dX9_tell_8 (by decide) (fun c_8 => ?_) (fun c_8 => ?_)
  · skip
    obtain ⟨j, hj, rfl⟩ := inR_of c_8 (by omega); have hcj_v := nI_clamp (n := j) (by omega)
    refine j_iload_n (pc := 17) X dX9_tell_17 rfl 3 rfl ?_
    refine j_ciP (pc := 18) X [] rfl (j_rS X (As := [.int d]) (rest := []) 1 (mX9_isDay l G d ) gX9_tell_X9_isDay rfl rfl rfl (by decide +kernel) ⟨Nat.le_of_ble_eq_true rfl, Nat.le_of_ble_eq_true rfl⟩ rfl [] rfl rfl rfl (Nat.le_of_ble_eq_true rfl) dX9_tell_18 ⟨Nat.le_of_ble_eq_true rfl, Nat.le_of_ble_eq_true rfl⟩) ?_
    refine j_ifb_eq (pc := 21) X (B := inC d 9999) (tgt := 37) dX9_tell_21 (by decide) (fun c_21 => ?_) (fun c_21 => ?_)
    · skip
      refine j_aload_n (pc := 37) X dX9_tell_37 rfl 0 rfl ?_
      refine j_iconst (pc := 38) X (v := nI 5) dX9_tell_38 (by decide) ?_
      refine j_ci (pc := 39) X (ws' := [(qx, .inr (9, [.ref qy, .ref qc, .ref qp, .ref qr, .ref qm, .ref qg, .ref qu, .ref ql, .ref qf, .int (nI 5)])), (qm, .inr (3, [.ref qm0, .ref qm1, .ref qm2, .ref qm3, .ref qm4, .int (nI mm), .int (nI tt)])), kI G qm1 100 (nF md), kI G qm2 200 (nF tm), kI G qm3 200 (nF td), kZ G qm4 200 (bF tk)]) [0] rfl (j_rV X (b := qx) (As := [.int (nI 5)]) (ci := 9) (rest := []) 1 (mX9_finish l G qx qy qc qp qr qm qg qu ql qf lt 5 (by first | assumption | omega | exact ob_s (by omega) | exact ob_n)) gX9_tell_X9_finish rfl rfl rfl (by decide +kernel) ⟨Nat.le_of_ble_eq_true rfl, Nat.le_of_ble_eq_true rfl⟩ rfl rfl 0 rfl [0] rfl rfl rfl (Nat.le_of_ble_eq_true rfl) dX9_tell_39 ⟨Nat.le_of_ble_eq_true rfl, Nat.le_of_ble_eq_true rfl⟩) rfl rfl ?_
      have hs : sTell mm tt md tm td tk (nI j) kp d = (decide (5 = 0), 5, tt, tm, td, tk) := by first | (simp [sTell, c_8, c_21]; done) | (simp [sTell, tN, c_8, c_21]; done) | (simp [sTell, tN, hcj_v, c_8, c_21]; done) | (simp [sTell, tN, hcj_v, hck_v, c_8, c_21]; done) | (simp [sTell, tN, hcj_v, hck_v, hcm_v, c_8, c_21]; done)
      refine j_zret (pc := 42) X (b2i_nar _) dX9_tell_42 ?_
      rw [hs]; exact ⟨rfl, rfl⟩
    · skip
      obtain ⟨k, hk, rfl⟩ := inC_of c_21 (by decide); have hck_v := nI_clamp (n := k) (by omega)
      refine j_iload_n (pc := 24) X dX9_tell_24 rfl 3 rfl ?_
      refine j_aload_n (pc := 25) X dX9_tell_25 rfl 0 rfl ?_
      refine j_get (pc := 26) X 9 i_X9 0 rfl rfl 4 (by decide) (by decide +kernel) rfl dX9_tell_26 ?_
      refine j_getN (pc := 29) X 3 i_X3 1 rfl rfl 1 (by decide) (by decide +kernel) rfl dX9_tell_29 ?_
      refine j_iload_n (pc := 32) X dX9_tell_32 rfl 1 rfl ?_
      refine j_iald (pc := 33) X 2 rfl (vp_in_nI (by omega) (by decide)) (v := nI (md j)) (congrArg (nF md) (nI_clamp (by omega))) dX9_tell_33 ?_
      refine j_icmpN_ge (pc := 34) X (a := k) (b := (md j)) (by first | omega | exact Nat.lt_of_lt_of_le (hmd _) (by decide)) (by first | omega | exact Nat.lt_of_lt_of_le (hmd _) (by decide)) (tgt := 43) dX9_tell_34 (by decide) (fun c_34 => ?_) (fun c_34 => ?_)
      · skip
        refine j_aload_n (pc := 43) X dX9_tell_43 rfl 0 rfl ?_
        refine j_get (pc := 44) X 9 i_X9 0 rfl rfl 4 (by decide) (by decide +kernel) rfl dX9_tell_44 ?_
        refine j_getN (pc := 47) X 3 i_X3 1 rfl rfl 6 (by decide) (by decide +kernel) rfl dX9_tell_47 ?_
        refine j_sipush (pc := 50) X (v := nI 200) dX9_tell_50 (by decide) ?_
        refine j_icmpN_lt (pc := 53) X (a := tt) (b := 200) (by first | omega | exact Nat.lt_of_lt_of_le (hmd _) (by decide)) (by first | omega | exact Nat.lt_of_lt_of_le (hmd _) (by decide)) (tgt := 63) dX9_tell_53 (by decide) (fun c_53 => ?_) (fun c_53 => ?_)
        · skip
          refine j_aload_n (pc := 63) X dX9_tell_63 rfl 0 rfl ?_
          refine j_get (pc := 64) X 9 i_X9 0 rfl rfl 4 (by decide) (by decide +kernel) rfl dX9_tell_64 ?_
          refine j_iload_n (pc := 67) X dX9_tell_67 rfl 1 rfl ?_
          refine j_iload_n (pc := 68) X dX9_tell_68 rfl 2 rfl ?_
          refine j_iload_n (pc := 69) X dX9_tell_69 rfl 3 rfl ?_
          refine j_cv (pc := 70) X (ws' := [(qx, .inr (9, [.ref qy, .ref qc, .ref qp, .ref qr, .ref qm, .ref qg, .ref qu, .ref ql, .ref qf, .int (nI lt)])), (qm, .inr (3, [.ref qm0, .ref qm1, .ref qm2, .ref qm3, .ref qm4, .int (nI mm), .int (nI (tt + 1))])), kI G qm1 100 (nF md), kI G qm2 200 (nF (va_up tm tt j)), kI G qm3 200 (nF (va_up td tt k)), kZ G qm4 200 (bF (va_up tk tt kp))]) [1, 3, 4, 5] rfl (j_rVN X (b := qm) (As := [.int (nI j), .int (b2i kp), .int (nI k)]) (ci := 3) (rest := []) 3 (mX3_addTelling l G qm qm0 qm1 qm2 qm3 qm4 mm tt tm td tk j k kp (by first | assumption | omega | exact ob_s (by omega) | exact ob_n)) gX9_tell_X3_addTelling_n209 rfl rfl rfl (by decide +kernel) (by decide +kernel) (by decide +kernel) (by decide +kernel) (by decide +kernel) ⟨Nat.le_of_ble_eq_true rfl, Nat.le_of_ble_eq_true rfl⟩ rfl rfl 0 rfl [1, 3, 4, 5] rfl rfl rfl (Nat.le_of_ble_eq_true rfl) dX9_tell_70 ⟨Nat.le_of_ble_eq_true rfl, Nat.le_of_ble_eq_true rfl⟩) rfl rfl ?_
          refine j_aload_n (pc := 73) X dX9_tell_73 rfl 0 rfl ?_
          refine j_iconst (pc := 74) X (v := nI 0) dX9_tell_74 (by decide) ?_
          refine j_ci (pc := 75) X (ws' := [(qx, .inr (9, [.ref qy, .ref qc, .ref qp, .ref qr, .ref qm, .ref qg, .ref qu, .ref ql, .ref qf, .int (nI 0)])), (qm, .inr (3, [.ref qm0, .ref qm1, .ref qm2, .ref qm3, .ref qm4, .int (nI mm), .int (nI (tt + 1))])), kI G qm1 100 (nF md), kI G qm2 200 (nF (va_up tm tt j)), kI G qm3 200 (nF (va_up td tt k)), kZ G qm4 200 (bF (va_up tk tt kp))]) [0] rfl (j_rV X (b := qx) (As := [.int (nI 0)]) (ci := 9) (rest := []) 1 (mX9_finish l G qx qy qc qp qr qm qg qu ql qf lt 0 (by first | assumption | omega | exact ob_s (by omega) | exact ob_n)) gX9_tell_X9_finish rfl rfl rfl (by decide +kernel) ⟨Nat.le_of_ble_eq_true rfl, Nat.le_of_ble_eq_true rfl⟩ rfl rfl 0 rfl [0] rfl rfl rfl (Nat.le_of_ble_eq_true rfl) dX9_tell_75 ⟨Nat.le_of_ble_eq_true rfl, Nat.le_of_ble_eq_true rfl⟩) rfl rfl ?_
          have hs : sTell mm tt md tm td tk (nI j) kp (nI k) = (decide (0 = 0), 0, tt + 1, va_up tm tt j, va_up td tt k, va_up tk tt kp) := by first | (simp [sTell, c_8, c_21, c_34, c_53]; done) | (simp [sTell, tN, c_8, c_21, c_34, c_53]; done) | (simp [sTell, tN, hcj_v, c_8, c_21, c_34, c_53]; done) | (simp [sTell, tN, hcj_v, hck_v, c_8, c_21, c_34, c_53]; done) | (simp [sTell, tN, hcj_v, hck_v, hcm_v, c_8, c_21, c_34, c_53]; done)
          refine j_zret (pc := 78) X (b2i_nar _) dX9_tell_78 ?_
          rw [hs]; exact ⟨rfl, rfl⟩
        · skip
          refine j_aload_n (pc := 56) X dX9_tell_56 rfl 0 rfl ?_
          refine j_bipush (pc := 57) X (v := nI 7) dX9_tell_57 (by decide) ?_
          refine j_ci (pc := 59) X (ws' := [(qx, .inr (9, [.ref qy, .ref qc, .ref qp, .ref qr, .ref qm, .ref qg, .ref qu, .ref ql, .ref qf, .int (nI 7)])), (qm, .inr (3, [.ref qm0, .ref qm1, .ref qm2, .ref qm3, .ref qm4, .int (nI mm), .int (nI tt)])), kI G qm1 100 (nF md), kI G qm2 200 (nF tm), kI G qm3 200 (nF td), kZ G qm4 200 (bF tk)]) [0] rfl (j_rV X (b := qx) (As := [.int (nI 7)]) (ci := 9) (rest := []) 1 (mX9_finish l G qx qy qc qp qr qm qg qu ql qf lt 7 (by first | assumption | omega | exact ob_s (by omega) | exact ob_n)) gX9_tell_X9_finish rfl rfl rfl (by decide +kernel) ⟨Nat.le_of_ble_eq_true rfl, Nat.le_of_ble_eq_true rfl⟩ rfl rfl 0 rfl [0] rfl rfl rfl (Nat.le_of_ble_eq_true rfl) dX9_tell_59 ⟨Nat.le_of_ble_eq_true rfl, Nat.le_of_ble_eq_true rfl⟩) rfl rfl ?_
          have hs : sTell mm tt md tm td tk (nI j) kp (nI k) = (decide (7 = 0), 7, tt, tm, td, tk) := by first | (simp [sTell, c_8, c_21, c_34, c_53]; done) | (simp [sTell, tN, c_8, c_21, c_34, c_53]; done) | (simp [sTell, tN, hcj_v, c_8, c_21, c_34, c_53]; done) | (simp [sTell, tN, hcj_v, hck_v, c_8, c_21, c_34, c_53]; done) | (simp [sTell, tN, hcj_v, hck_v, hcm_v, c_8, c_21, c_34, c_53]; done)
          refine j_zret (pc := 62) X (b2i_nar _) dX9_tell_62 ?_
          rw [hs]; exact ⟨rfl, rfl⟩
      · skip
        refine j_aload_n (pc := 37) X dX9_tell_37 rfl 0 rfl ?_
        refine j_iconst (pc := 38) X (v := nI 5) dX9_tell_38 (by decide) ?_
        refine j_ci (pc := 39) X (ws' := [(qx, .inr (9, [.ref qy, .ref qc, .ref qp, .ref qr, .ref qm, .ref qg, .ref qu, .ref ql, .ref qf, .int (nI 5)])), (qm, .inr (3, [.ref qm0, .ref qm1, .ref qm2, .ref qm3, .ref qm4, .int (nI mm), .int (nI tt)])), kI G qm1 100 (nF md), kI G qm2 200 (nF tm), kI G qm3 200 (nF td), kZ G qm4 200 (bF tk)]) [0] rfl (j_rV X (b := qx) (As := [.int (nI 5)]) (ci := 9) (rest := []) 1 (mX9_finish l G qx qy qc qp qr qm qg qu ql qf lt 5 (by first | assumption | omega | exact ob_s (by omega) | exact ob_n)) gX9_tell_X9_finish rfl rfl rfl (by decide +kernel) ⟨Nat.le_of_ble_eq_true rfl, Nat.le_of_ble_eq_true rfl⟩ rfl rfl 0 rfl [0] rfl rfl rfl (Nat.le_of_ble_eq_true rfl) dX9_tell_39 ⟨Nat.le_of_ble_eq_true rfl, Nat.le_of_ble_eq_true rfl⟩) rfl rfl ?_
        have hs : sTell mm tt md tm td tk (nI j) kp (nI k) = (decide (5 = 0), 5, tt, tm, td, tk) := by first | (simp [sTell, c_8, c_21, c_34]; done) | (simp [sTell, tN, c_8, c_21, c_34]; done) | (simp [sTell, tN, hcj_v, c_8, c_21, c_34]; done) | (simp [sTell, tN, hcj_v, hck_v, c_8, c_21, c_34]; done) | (simp [sTell, tN, hcj_v, hck_v, hcm_v, c_8, c_21, c_34]; done)
        refine j_zret (pc := 42) X (b2i_nar _) dX9_tell_42 ?_
        rw [hs]; exact ⟨rfl, rfl⟩
  · skip
    refine j_aload_n (pc := 11) X dX9_tell_11 rfl 0 rfl ?_
    refine j_iconst (pc := 12) X (v := nI 2) dX9_tell_12 (by decide) ?_
    refine j_ci (pc := 13) X (ws' := [(qx, .inr (9, [.ref qy, .ref qc, .ref qp, .ref qr, .ref qm, .ref qg, .ref qu, .ref ql, .ref qf, .int (nI 2)])), (qm, .inr (3, [.ref qm0, .ref qm1, .ref qm2, .ref qm3, .ref qm4, .int (nI mm), .int (nI tt)])), kI G qm1 100 (nF md), kI G qm2 200 (nF tm), kI G qm3 200 (nF td), kZ G qm4 200 (bF tk)]) [0] rfl (j_rV X (b := qx) (As := [.int (nI 2)]) (ci := 9) (rest := []) 1 (mX9_finish l G qx qy qc qp qr qm qg qu ql qf lt 2 (by first | assumption | omega | exact ob_s (by omega) | exact ob_n)) gX9_tell_X9_finish rfl rfl rfl (by decide +kernel) ⟨Nat.le_of_ble_eq_true rfl, Nat.le_of_ble_eq_true rfl⟩ rfl rfl 0 rfl [0] rfl rfl rfl (Nat.le_of_ble_eq_true rfl) dX9_tell_13 ⟨Nat.le_of_ble_eq_true rfl, Nat.le_of_ble_eq_true rfl⟩) rfl rfl ?_
    have hs : sTell mm tt md tm td tk x kp d = (decide (2 = 0), 2, tt, tm, td, tk) := by first | (simp [sTell, c_8]; done) | (simp [sTell, tN, c_8]; done) | (simp [sTell, tN, hcj_v, c_8]; done) | (simp [sTell, tN, hcj_v, hck_v, c_8]; done) | (simp [sTell, tN, hcj_v, hck_v, hcm_v, c_8]; done)
    refine j_zret (pc := 16) X (b2i_nar _) dX9_tell_16 ?_
    rw [hs]; exact ⟨rfl, rfl⟩

set_option maxHeartbeats 4000000 in
set_option maxRecDepth 100000 in
theorem mX9_met (l : Launch) (G : jG) (qx : Nat) (qy : Nat) (qc : Nat) (qp : Nat) (qr : Nat) (qm : Nat) (qg : Nat) (qu : Nat) (ql : Nat) (qf : Nat) (lt : Nat) (qc0 : Nat) (qc1 : Nat) (qc2 : Nat) (qc3 : Nat) (el : Nat) (be : Nat) (qm0 : Nat) (qm1 : Nat) (qm2 : Nat) (qm3 : Nat) (qm4 : Nat) (mm : Nat) (tt : Nat) (mb : Nat → Nat) (md : Nat → Nat) (tm : Nat → Nat) (td : Nat → Nat) (tk : Nat → Bool) (x : Int32) (d : Int32) (w : Int32) (hbe : be ≤ 16) (hmm : mm ≤ 100) (htt : tt ≤ 200) (htm : ∀ k, tm k < 100) (htd : ∀ k, td k < 10000) (hmb : ∀ k, mb k < 16) (hmd : ∀ k, md k < 10000) : MV l yX9_met wsX9_met ({ frames := 2, cells := 0, slots := 0, locals := 50 }) G [.ref qx, .int x, .int d, .int w] [(qx, .inr (9, [.ref qy, .ref qc, .ref qp, .ref qr, .ref qm, .ref qg, .ref qu, .ref ql, .ref qf, .int (nI lt)])), (qc, .inr (0, [.ref qc0, .ref qc1, .ref qc2, .ref qc3, .int (nI el), .int (nI be)])), (qm, .inr (3, [.ref qm0, .ref qm1, .ref qm2, .ref qm3, .ref qm4, .int (nI mm), .int (nI tt)])), kI G qm0 100 (nF mb), kI G qm1 100 (nF md), kI G qm2 200 (nF tm), kI G qm3 200 (nF td), kZ G qm4 200 (bF tk)] (some (.int (oI ((sMet be mm tt mb md tm td tk x d w).1)))) [(qx, .inr (9, [.ref qy, .ref qc, .ref qp, .ref qr, .ref qm, .ref qg, .ref qu, .ref ql, .ref qf, .int (nI ((sMet be mm tt mb md tm td tk x d w).2))])), (qc, .inr (0, [.ref qc0, .ref qc1, .ref qc2, .ref qc3, .int (nI el), .int (nI be)])), (qm, .inr (3, [.ref qm0, .ref qm1, .ref qm2, .ref qm3, .ref qm4, .int (nI mm), .int (nI tt)])), kI G qm0 100 (nF mb), kI G qm1 100 (nF md), kI G qm2 200 (nF tm), kI G qm3 200 (nF td), kZ G qm4 200 (bF tk)] := by
  refine MF.ofJ (cc := cX9_met) (maxL := 4) (ret := (some .int)) (own := RX9) (lv := [(0, .ref qx), (1, .int x), (2, .int d), (3, .int w)]) (by decide) rfl rfl (Nat.le_of_ble_eq_true rfl) rfl ?_
  intro κ X
  have i_X0 : ∀ w ∈ wsX00, w ∈ wsX9_met := by decide +kernel
  have i_X3 : ∀ w ∈ wsX30, w ∈ wsX9_met := by decide +kernel
  have i_X9 : ∀ w ∈ wsX90, w ∈ wsX9_met := by decide +kernel
  refine j_aload_n (pc := 0) X dX9_met_0 rfl 0 rfl ?_
  refine j_get (pc := 1) X 9 i_X9 0 rfl rfl 1 (by decide) (by decide +kernel) rfl dX9_met_1 ?_
  refine j_iload_n (pc := 4) X dX9_met_4 rfl 1 rfl ?_
  refine j_ciP (pc := 5) X [1] rfl (j_rVN X (b := qc) (As := [.int x]) (ci := 0) (rest := []) 1 (mX0_isBeginner l G qc qc0 qc1 qc2 qc3 el be x ) gX9_met_X0_isBeginner_n188 rfl rfl rfl (by decide +kernel) (by decide +kernel) (by decide +kernel) (by decide +kernel) (by decide +kernel) ⟨Nat.le_of_ble_eq_true rfl, Nat.le_of_ble_eq_true rfl⟩ rfl rfl 0 rfl [1] rfl rfl rfl (Nat.le_of_ble_eq_true rfl) dX9_met_5 ⟨Nat.le_of_ble_eq_true rfl, Nat.le_of_ble_eq_true rfl⟩) ?_
  refine j_ifb_ne (pc := 8) X (B := inR x be) (tgt := 17) dX9_met_8 (by decide) (fun c_8 => ?_) (fun c_8 => ?_)
  · skip
    obtain ⟨j, hj, rfl⟩ := inR_of c_8 (by omega); have hcj_v := nI_clamp (n := j) (by omega)
    refine j_iload_n (pc := 17) X dX9_met_17 rfl 2 rfl ?_
    refine j_ciP (pc := 18) X [] rfl (j_rS X (As := [.int d]) (rest := []) 1 (mX9_isDay l G d ) gX9_met_X9_isDay rfl rfl rfl (by decide +kernel) ⟨Nat.le_of_ble_eq_true rfl, Nat.le_of_ble_eq_true rfl⟩ rfl [] rfl rfl rfl (Nat.le_of_ble_eq_true rfl) dX9_met_18 ⟨Nat.le_of_ble_eq_true rfl, Nat.le_of_ble_eq_true rfl⟩) ?_
    refine j_ifb_eq (pc := 21) X (B := inC d 9999) (tgt := 33) dX9_met_21 (by decide) (fun c_21 => ?_) (fun c_21 => ?_)
    · skip
      refine j_aload_n (pc := 33) X dX9_met_33 rfl 0 rfl ?_
      refine j_iconst (pc := 34) X (v := nI 5) dX9_met_34 (by decide) ?_
      refine j_ci (pc := 35) X (ws' := [(qx, .inr (9, [.ref qy, .ref qc, .ref qp, .ref qr, .ref qm, .ref qg, .ref qu, .ref ql, .ref qf, .int (nI 5)])), (qc, .inr (0, [.ref qc0, .ref qc1, .ref qc2, .ref qc3, .int (nI el), .int (nI be)])), (qm, .inr (3, [.ref qm0, .ref qm1, .ref qm2, .ref qm3, .ref qm4, .int (nI mm), .int (nI tt)])), kI G qm0 100 (nF mb), kI G qm1 100 (nF md), kI G qm2 200 (nF tm), kI G qm3 200 (nF td), kZ G qm4 200 (bF tk)]) [0] rfl (j_rV X (b := qx) (As := [.int (nI 5)]) (ci := 9) (rest := []) 1 (mX9_refused l G qx qy qc qp qr qm qg qu ql qf lt 5 ) gX9_met_X9_refused rfl rfl rfl (by decide +kernel) ⟨Nat.le_of_ble_eq_true rfl, Nat.le_of_ble_eq_true rfl⟩ rfl rfl 0 rfl [0] rfl rfl rfl (Nat.le_of_ble_eq_true rfl) dX9_met_35 ⟨Nat.le_of_ble_eq_true rfl, Nat.le_of_ble_eq_true rfl⟩) rfl rfl ?_
      have hs : sMet be mm tt mb md tm td tk (nI j) d w = (none, 5) := by first | (simp [sMet, c_8, c_21]; done) | (simp [sMet, tN, c_8, c_21]; done) | (simp [sMet, tN, hcj_v, c_8, c_21]; done) | (simp [sMet, tN, hcj_v, hck_v, c_8, c_21]; done) | (simp [sMet, tN, hcj_v, hck_v, hcm_v, c_8, c_21]; done)
      refine j_iret (pc := 38) X dX9_met_38 ?_
      rw [hs]; exact ⟨rfl, rfl⟩
    · skip
      obtain ⟨k, hk, rfl⟩ := inC_of c_21 (by decide); have hck_v := nI_clamp (n := k) (by omega)
      refine j_iload_n (pc := 24) X dX9_met_24 rfl 3 rfl ?_
      refine j_if_lt (pc := 25) X (x := w) (tgt := 33) dX9_met_25 (by decide) (fun c_25 => ?_) (fun c_25 => ?_)
      · skip
        refine j_aload_n (pc := 33) X dX9_met_33 rfl 0 rfl ?_
        refine j_iconst (pc := 34) X (v := nI 5) dX9_met_34 (by decide) ?_
        refine j_ci (pc := 35) X (ws' := [(qx, .inr (9, [.ref qy, .ref qc, .ref qp, .ref qr, .ref qm, .ref qg, .ref qu, .ref ql, .ref qf, .int (nI 5)])), (qc, .inr (0, [.ref qc0, .ref qc1, .ref qc2, .ref qc3, .int (nI el), .int (nI be)])), (qm, .inr (3, [.ref qm0, .ref qm1, .ref qm2, .ref qm3, .ref qm4, .int (nI mm), .int (nI tt)])), kI G qm0 100 (nF mb), kI G qm1 100 (nF md), kI G qm2 200 (nF tm), kI G qm3 200 (nF td), kZ G qm4 200 (bF tk)]) [0] rfl (j_rV X (b := qx) (As := [.int (nI 5)]) (ci := 9) (rest := []) 1 (mX9_refused l G qx qy qc qp qr qm qg qu ql qf lt 5 ) gX9_met_X9_refused rfl rfl rfl (by decide +kernel) ⟨Nat.le_of_ble_eq_true rfl, Nat.le_of_ble_eq_true rfl⟩ rfl rfl 0 rfl [0] rfl rfl rfl (Nat.le_of_ble_eq_true rfl) dX9_met_35 ⟨Nat.le_of_ble_eq_true rfl, Nat.le_of_ble_eq_true rfl⟩) rfl rfl ?_
        have hs : sMet be mm tt mb md tm td tk (nI j) (nI k) w = (none, 5) := by first | (simp [sMet, c_8, c_21, c_25]; done) | (simp [sMet, tN, c_8, c_21, c_25]; done) | (simp [sMet, tN, hcj_v, c_8, c_21, c_25]; done) | (simp [sMet, tN, hcj_v, hck_v, c_8, c_21, c_25]; done) | (simp [sMet, tN, hcj_v, hck_v, hcm_v, c_8, c_21, c_25]; done)
        refine j_iret (pc := 38) X dX9_met_38 ?_
        rw [hs]; exact ⟨rfl, rfl⟩
      · skip
        refine j_iload_n (pc := 28) X dX9_met_28 rfl 3 rfl ?_
        refine j_iconst (pc := 29) X (v := nI 2) dX9_met_29 (by decide) ?_
        refine j_icmp_le (pc := 30) X (x := w) (z := nI 2) (tgt := 39) dX9_met_30 (by decide) (fun c_30 => ?_) (fun c_30 => ?_)
        · skip
          obtain ⟨m, hm, rfl⟩ := rng_of c_25 c_30 (by decide); have hcm_v := nI_clamp (n := m) (by omega)
          refine j_aload_n (pc := 39) X dX9_met_39 rfl 0 rfl ?_
          refine j_aload_n (pc := 40) X dX9_met_40 rfl 0 rfl ?_
          refine j_get (pc := 41) X 9 i_X9 0 rfl rfl 4 (by decide) (by decide +kernel) rfl dX9_met_41 ?_
          refine j_iload_n (pc := 44) X dX9_met_44 rfl 1 rfl ?_
          refine j_iload_n (pc := 45) X dX9_met_45 rfl 2 rfl ?_
          refine j_iload_n (pc := 46) X dX9_met_46 rfl 3 rfl ?_
          refine j_ciP (pc := 47) X [2, 3, 4, 5, 6, 7] rfl (j_rVN X (b := qm) (As := [.int (nI j), .int (nI k), .int (nI m)]) (ci := 3) (rest := [.ref qx]) 3 (mX3_count l G qm qm0 qm1 qm2 qm3 qm4 mm tt mb md tm td tk j k m (by first | assumption | omega | exact ob_s (by omega) | exact ob_n) (by first | assumption | omega | exact ob_s (by omega) | exact ob_n) (by first | assumption | omega | exact ob_s (by omega) | exact ob_n) (by first | assumption | omega | exact ob_s (by omega) | exact ob_n) (by first | assumption | omega | exact ob_s (by omega) | exact ob_n) (by first | assumption | omega | exact ob_s (by omega) | exact ob_n) (by first | assumption | omega | exact ob_s (by omega) | exact ob_n) (by first | assumption | omega | exact ob_s (by omega) | exact ob_n) (by first | assumption | omega | exact ob_s (by omega) | exact ob_n)) gX9_met_X3_count_n213 rfl rfl rfl (by decide +kernel) (by decide +kernel) (by decide +kernel) (by decide +kernel) (by decide +kernel) ⟨Nat.le_of_ble_eq_true rfl, Nat.le_of_ble_eq_true rfl⟩ rfl rfl 0 rfl [2, 3, 4, 5, 6, 7] rfl rfl rfl (Nat.le_of_ble_eq_true rfl) dX9_met_47 ⟨Nat.le_of_ble_eq_true rfl, Nat.le_of_ble_eq_true rfl⟩) ?_
          refine j_ci (pc := 50) X (ws' := [(qx, .inr (9, [.ref qy, .ref qc, .ref qp, .ref qr, .ref qm, .ref qg, .ref qu, .ref ql, .ref qf, .int (nI 0)])), (qc, .inr (0, [.ref qc0, .ref qc1, .ref qc2, .ref qc3, .int (nI el), .int (nI be)])), (qm, .inr (3, [.ref qm0, .ref qm1, .ref qm2, .ref qm3, .ref qm4, .int (nI mm), .int (nI tt)])), kI G qm0 100 (nF mb), kI G qm1 100 (nF md), kI G qm2 200 (nF tm), kI G qm3 200 (nF td), kZ G qm4 200 (bF tk)]) [0] rfl (j_rV X (b := qx) (As := [.int (nI (metC mb md tm td tk tt j k m mm))]) (ci := 9) (rest := []) 1 (mX9_answered l G qx qy qc qp qr qm qg qu ql qf lt (nI (metC mb md tm td tk tt j k m mm)) ) gX9_met_X9_answered rfl rfl rfl (by decide +kernel) ⟨Nat.le_of_ble_eq_true rfl, Nat.le_of_ble_eq_true rfl⟩ rfl rfl 0 rfl [0] rfl rfl rfl (Nat.le_of_ble_eq_true rfl) dX9_met_50 ⟨Nat.le_of_ble_eq_true rfl, Nat.le_of_ble_eq_true rfl⟩) rfl rfl ?_
          have hs : sMet be mm tt mb md tm td tk (nI j) (nI k) (nI m) = (some (metC mb md tm td tk tt j k m mm), 0) := by first | (simp [sMet, c_8, c_21, c_25, c_30]; done) | (simp [sMet, tN, c_8, c_21, c_25, c_30]; done) | (simp [sMet, tN, hcj_v, c_8, c_21, c_25, c_30]; done) | (simp [sMet, tN, hcj_v, hck_v, c_8, c_21, c_25, c_30]; done) | (simp [sMet, tN, hcj_v, hck_v, hcm_v, c_8, c_21, c_25, c_30]; done)
          refine j_iret (pc := 53) X dX9_met_53 ?_
          rw [hs]; exact ⟨rfl, rfl⟩
        · skip
          refine j_aload_n (pc := 33) X dX9_met_33 rfl 0 rfl ?_
          refine j_iconst (pc := 34) X (v := nI 5) dX9_met_34 (by decide) ?_
          refine j_ci (pc := 35) X (ws' := [(qx, .inr (9, [.ref qy, .ref qc, .ref qp, .ref qr, .ref qm, .ref qg, .ref qu, .ref ql, .ref qf, .int (nI 5)])), (qc, .inr (0, [.ref qc0, .ref qc1, .ref qc2, .ref qc3, .int (nI el), .int (nI be)])), (qm, .inr (3, [.ref qm0, .ref qm1, .ref qm2, .ref qm3, .ref qm4, .int (nI mm), .int (nI tt)])), kI G qm0 100 (nF mb), kI G qm1 100 (nF md), kI G qm2 200 (nF tm), kI G qm3 200 (nF td), kZ G qm4 200 (bF tk)]) [0] rfl (j_rV X (b := qx) (As := [.int (nI 5)]) (ci := 9) (rest := []) 1 (mX9_refused l G qx qy qc qp qr qm qg qu ql qf lt 5 ) gX9_met_X9_refused rfl rfl rfl (by decide +kernel) ⟨Nat.le_of_ble_eq_true rfl, Nat.le_of_ble_eq_true rfl⟩ rfl rfl 0 rfl [0] rfl rfl rfl (Nat.le_of_ble_eq_true rfl) dX9_met_35 ⟨Nat.le_of_ble_eq_true rfl, Nat.le_of_ble_eq_true rfl⟩) rfl rfl ?_
          have hs : sMet be mm tt mb md tm td tk (nI j) (nI k) w = (none, 5) := by first | (simp [sMet, c_8, c_21, c_25, c_30]; done) | (simp [sMet, tN, c_8, c_21, c_25, c_30]; done) | (simp [sMet, tN, hcj_v, c_8, c_21, c_25, c_30]; done) | (simp [sMet, tN, hcj_v, hck_v, c_8, c_21, c_25, c_30]; done) | (simp [sMet, tN, hcj_v, hck_v, hcm_v, c_8, c_21, c_25, c_30]; done)
          refine j_iret (pc := 38) X dX9_met_38 ?_
          rw [hs]; exact ⟨rfl, rfl⟩
  · skip
    refine j_aload_n (pc := 11) X dX9_met_11 rfl 0 rfl ?_
    refine j_iconst (pc := 12) X (v := nI 2) dX9_met_12 (by decide) ?_
    refine j_ci (pc := 13) X (ws' := [(qx, .inr (9, [.ref qy, .ref qc, .ref qp, .ref qr, .ref qm, .ref qg, .ref qu, .ref ql, .ref qf, .int (nI 2)])), (qc, .inr (0, [.ref qc0, .ref qc1, .ref qc2, .ref qc3, .int (nI el), .int (nI be)])), (qm, .inr (3, [.ref qm0, .ref qm1, .ref qm2, .ref qm3, .ref qm4, .int (nI mm), .int (nI tt)])), kI G qm0 100 (nF mb), kI G qm1 100 (nF md), kI G qm2 200 (nF tm), kI G qm3 200 (nF td), kZ G qm4 200 (bF tk)]) [0] rfl (j_rV X (b := qx) (As := [.int (nI 2)]) (ci := 9) (rest := []) 1 (mX9_refused l G qx qy qc qp qr qm qg qu ql qf lt 2 ) gX9_met_X9_refused rfl rfl rfl (by decide +kernel) ⟨Nat.le_of_ble_eq_true rfl, Nat.le_of_ble_eq_true rfl⟩ rfl rfl 0 rfl [0] rfl rfl rfl (Nat.le_of_ble_eq_true rfl) dX9_met_13 ⟨Nat.le_of_ble_eq_true rfl, Nat.le_of_ble_eq_true rfl⟩) rfl rfl ?_
    have hs : sMet be mm tt mb md tm td tk x d w = (none, 2) := by first | (simp [sMet, c_8]; done) | (simp [sMet, tN, c_8]; done) | (simp [sMet, tN, hcj_v, c_8]; done) | (simp [sMet, tN, hcj_v, hck_v, c_8]; done) | (simp [sMet, tN, hcj_v, hck_v, hcm_v, c_8]; done)
    refine j_iret (pc := 16) X dX9_met_16 ?_
    rw [hs]; exact ⟨rfl, rfl⟩

set_option maxHeartbeats 4000000 in
set_option maxRecDepth 100000 in
theorem mX9_goal (l : Launch) (G : jG) (qx : Nat) (qy : Nat) (qc : Nat) (qp : Nat) (qr : Nat) (qm : Nat) (qg : Nat) (qu : Nat) (ql : Nat) (qf : Nat) (lt : Nat) (qc0 : Nat) (qc1 : Nat) (qc2 : Nat) (qc3 : Nat) (el : Nat) (be : Nat) (qg0 : Nat) (qg1 : Nat) (qg2 : Nat) (qg3 : Nat) (gm : Nat) (gb : Nat → Nat) (gd : Nat → Nat) (gh : Nat → Option Nat) (gc : Nat → Option Nat) (x : Int32) (d : Int32) (bh : Int32) (hbe : be ≤ 16) (hgm : gm ≤ 40) (hgb : ∀ k, gb k < 16) : MV l yX9_goal wsX9_goal ({ frames := 2, cells := 0, slots := 0, locals := 43 }) G [.ref qx, .int x, .int d, .int bh] [(qx, .inr (9, [.ref qy, .ref qc, .ref qp, .ref qr, .ref qm, .ref qg, .ref qu, .ref ql, .ref qf, .int (nI lt)])), (qc, .inr (0, [.ref qc0, .ref qc1, .ref qc2, .ref qc3, .int (nI el), .int (nI be)])), (qg, .inr (2, [.ref qg0, .ref qg1, .ref qg2, .ref qg3, .int (nI gm)])), kI G qg0 40 (nF gb), kI G qg1 40 (nF gd), kI G qg2 40 (oF gh), kI G qg3 40 (oF gc)] (some (.int (oI ((sGoal be gm gb gd gh gc x d bh).1)))) [(qx, .inr (9, [.ref qy, .ref qc, .ref qp, .ref qr, .ref qm, .ref qg, .ref qu, .ref ql, .ref qf, .int (nI ((sGoal be gm gb gd gh gc x d bh).2.1))])), (qc, .inr (0, [.ref qc0, .ref qc1, .ref qc2, .ref qc3, .int (nI el), .int (nI be)])), (qg, .inr (2, [.ref qg0, .ref qg1, .ref qg2, .ref qg3, .int (nI ((sGoal be gm gb gd gh gc x d bh).2.2.1))])), kI G qg0 40 (nF ((sGoal be gm gb gd gh gc x d bh).2.2.2.1)), kI G qg1 40 (nF ((sGoal be gm gb gd gh gc x d bh).2.2.2.2.1)), kI G qg2 40 (oF ((sGoal be gm gb gd gh gc x d bh).2.2.2.2.2.1)), kI G qg3 40 (oF ((sGoal be gm gb gd gh gc x d bh).2.2.2.2.2.2))] := by
  refine MF.ofJ (cc := cX9_goal) (maxL := 4) (ret := (some .int)) (own := RX9) (lv := [(0, .ref qx), (1, .int x), (2, .int d), (3, .int bh)]) (by decide) rfl rfl (Nat.le_of_ble_eq_true rfl) rfl ?_
  intro κ X
  have i_X0 : ∀ w ∈ wsX00, w ∈ wsX9_goal := by decide +kernel
  have i_X2 : ∀ w ∈ wsX20, w ∈ wsX9_goal := by decide +kernel
  have i_X9 : ∀ w ∈ wsX90, w ∈ wsX9_goal := by decide +kernel
  refine j_aload_n (pc := 0) X dX9_goal_0 rfl 0 rfl ?_
  refine j_get (pc := 1) X 9 i_X9 0 rfl rfl 1 (by decide) (by decide +kernel) rfl dX9_goal_1 ?_
  refine j_iload_n (pc := 4) X dX9_goal_4 rfl 1 rfl ?_
  refine j_ciP (pc := 5) X [1] rfl (j_rVN X (b := qc) (As := [.int x]) (ci := 0) (rest := []) 1 (mX0_isBeginner l G qc qc0 qc1 qc2 qc3 el be x ) gX9_goal_X0_isBeginner_n188 rfl rfl rfl (by decide +kernel) (by decide +kernel) (by decide +kernel) (by decide +kernel) (by decide +kernel) ⟨Nat.le_of_ble_eq_true rfl, Nat.le_of_ble_eq_true rfl⟩ rfl rfl 0 rfl [1] rfl rfl rfl (Nat.le_of_ble_eq_true rfl) dX9_goal_5 ⟨Nat.le_of_ble_eq_true rfl, Nat.le_of_ble_eq_true rfl⟩) ?_
  refine j_ifb_ne (pc := 8) X (B := inR x be) (tgt := 17) dX9_goal_8 (by decide) (fun c_8 => ?_) (fun c_8 => ?_)
  · skip
    obtain ⟨j, hj, rfl⟩ := inR_of c_8 (by omega); have hcj_v := nI_clamp (n := j) (by omega)
    refine j_iload_n (pc := 17) X dX9_goal_17 rfl 3 rfl ?_
    refine j_iconst (pc := 18) X (v := oI none) dX9_goal_18 (by decide) ?_
    refine j_icmp_eq (pc := 19) X (x := bh) (z := (-1)) (tgt := 40) dX9_goal_19 (by decide) (fun c_19 => ?_) (fun c_19 => ?_)
    · skip
      skip
      refine j_lvq (lv' := [(0, .ref qx), (1, .int (nI j)), (2, .int d), (3, .int (oI none))]) (by rw [c_19] <;> rfl) ?_
      refine j_iload_n (pc := 40) X dX9_goal_40 rfl 2 rfl ?_
      refine j_ciP (pc := 41) X [] rfl (j_rS X (As := [.int d]) (rest := []) 1 (mX9_isDay l G d ) gX9_goal_X9_isDay rfl rfl rfl (by decide +kernel) ⟨Nat.le_of_ble_eq_true rfl, Nat.le_of_ble_eq_true rfl⟩ rfl [] rfl rfl rfl (Nat.le_of_ble_eq_true rfl) dX9_goal_41 ⟨Nat.le_of_ble_eq_true rfl, Nat.le_of_ble_eq_true rfl⟩) ?_
      refine j_ifb_ne (pc := 44) X (B := inC d 9999) (tgt := 53) dX9_goal_44 (by decide) (fun c_44 => ?_) (fun c_44 => ?_)
      · skip
        obtain ⟨k, hk, rfl⟩ := inC_of c_44 (by decide); have hck_v := nI_clamp (n := k) (by omega)
        refine j_aload_n (pc := 53) X dX9_goal_53 rfl 0 rfl ?_
        refine j_get (pc := 54) X 9 i_X9 0 rfl rfl 5 (by decide) (by decide +kernel) rfl dX9_goal_54 ?_
        refine j_getN (pc := 57) X 2 i_X2 2 rfl rfl 4 (by decide) (by decide +kernel) rfl dX9_goal_57 ?_
        refine j_bipush (pc := 60) X (v := nI 40) dX9_goal_60 (by decide) ?_
        refine j_icmpN_lt (pc := 62) X (a := gm) (b := 40) (by omega) (by omega) (tgt := 72) dX9_goal_62 (by decide) (fun c_62 => ?_) (fun c_62 => ?_)
        · skip
          refine j_aload_n (pc := 72) X dX9_goal_72 rfl 0 rfl ?_
          refine j_aload_n (pc := 73) X dX9_goal_73 rfl 0 rfl ?_
          refine j_get (pc := 74) X 9 i_X9 0 rfl rfl 5 (by decide) (by decide +kernel) rfl dX9_goal_74 ?_
          refine j_iload_n (pc := 77) X dX9_goal_77 rfl 1 rfl ?_
          refine j_iload_n (pc := 78) X dX9_goal_78 rfl 2 rfl ?_
          refine j_iload_n (pc := 79) X dX9_goal_79 rfl 3 rfl ?_
          refine j_ci (pc := 80) X (ws' := [(qx, .inr (9, [.ref qy, .ref qc, .ref qp, .ref qr, .ref qm, .ref qg, .ref qu, .ref ql, .ref qf, .int (nI lt)])), (qc, .inr (0, [.ref qc0, .ref qc1, .ref qc2, .ref qc3, .int (nI el), .int (nI be)])), (qg, .inr (2, [.ref qg0, .ref qg1, .ref qg2, .ref qg3, .int (nI (gm + 1))])), kI G qg0 40 (nF (va_up gb gm j)), kI G qg1 40 (nF (va_up gd gm k)), kI G qg2 40 (oF (va_up gh gm none)), kI G qg3 40 (oF (va_up gc gm none))]) [2, 3, 4, 5, 6] rfl (j_rVN X (b := qg) (As := [.int (nI j), .int (nI k), .int (oI none)]) (ci := 2) (rest := [.ref qx]) 3 (mX2_add l G qg qg0 qg1 qg2 qg3 gm gb gd gh gc j k none (by first | assumption | omega | exact ob_s (by omega) | exact ob_n)) gX9_goal_X2_add_n221 rfl rfl rfl (by decide +kernel) (by decide +kernel) (by decide +kernel) (by decide +kernel) (by decide +kernel) ⟨Nat.le_of_ble_eq_true rfl, Nat.le_of_ble_eq_true rfl⟩ rfl rfl 0 rfl [2, 3, 4, 5, 6] rfl rfl rfl (Nat.le_of_ble_eq_true rfl) dX9_goal_80 ⟨Nat.le_of_ble_eq_true rfl, Nat.le_of_ble_eq_true rfl⟩) rfl rfl ?_
          refine j_ci (pc := 83) X (ws' := [(qx, .inr (9, [.ref qy, .ref qc, .ref qp, .ref qr, .ref qm, .ref qg, .ref qu, .ref ql, .ref qf, .int (nI 0)])), (qc, .inr (0, [.ref qc0, .ref qc1, .ref qc2, .ref qc3, .int (nI el), .int (nI be)])), (qg, .inr (2, [.ref qg0, .ref qg1, .ref qg2, .ref qg3, .int (nI (gm + 1))])), kI G qg0 40 (nF (va_up gb gm j)), kI G qg1 40 (nF (va_up gd gm k)), kI G qg2 40 (oF (va_up gh gm none)), kI G qg3 40 (oF (va_up gc gm none))]) [0] rfl (j_rV X (b := qx) (As := [.int (nI gm)]) (ci := 9) (rest := []) 1 (mX9_answered l G qx qy qc qp qr qm qg qu ql qf lt (nI gm) ) gX9_goal_X9_answered rfl rfl rfl (by decide +kernel) ⟨Nat.le_of_ble_eq_true rfl, Nat.le_of_ble_eq_true rfl⟩ rfl rfl 0 rfl [0] rfl rfl rfl (Nat.le_of_ble_eq_true rfl) dX9_goal_83 ⟨Nat.le_of_ble_eq_true rfl, Nat.le_of_ble_eq_true rfl⟩) rfl rfl ?_
          have hs : sGoal be gm gb gd gh gc (nI j) (nI k) bh = (some gm, 0, gm + 1, va_up gb gm j, va_up gd gm k, va_up gh gm none, va_up gc gm none) := by first | (simp [sGoal, tN, hcj_v, c_8, c_19, c_44, c_62]; done) | (simp [sGoal, tN, hcj_v, hck_v, c_8, c_19, c_44, c_62]; done) | (simp [sGoal, tN, hcj_v, hcm_v, c_8, c_19, c_44, c_62]; done) | (simp [sGoal, tN, hcj_v, hck_v, hcm_v, hx1_v, hx3_v, c_8, c_19, c_44, c_62]; done) | (simp [sGoal, tN, hcj_v, hcm_v, hx1_v, hx3_v, c_8, c_19, c_44, c_62]; done) | (simp [sGoal, c_8, c_19, c_44, c_62]; done)
          refine j_iret (pc := 86) X dX9_goal_86 ?_
          rw [hs]; exact ⟨rfl, rfl⟩
        · skip
          refine j_aload_n (pc := 65) X dX9_goal_65 rfl 0 rfl ?_
          refine j_bipush (pc := 66) X (v := nI 7) dX9_goal_66 (by decide) ?_
          refine j_ci (pc := 68) X (ws' := [(qx, .inr (9, [.ref qy, .ref qc, .ref qp, .ref qr, .ref qm, .ref qg, .ref qu, .ref ql, .ref qf, .int (nI 7)])), (qc, .inr (0, [.ref qc0, .ref qc1, .ref qc2, .ref qc3, .int (nI el), .int (nI be)])), (qg, .inr (2, [.ref qg0, .ref qg1, .ref qg2, .ref qg3, .int (nI gm)])), kI G qg0 40 (nF gb), kI G qg1 40 (nF gd), kI G qg2 40 (oF gh), kI G qg3 40 (oF gc)]) [0] rfl (j_rV X (b := qx) (As := [.int (nI 7)]) (ci := 9) (rest := []) 1 (mX9_refused l G qx qy qc qp qr qm qg qu ql qf lt 7 ) gX9_goal_X9_refused rfl rfl rfl (by decide +kernel) ⟨Nat.le_of_ble_eq_true rfl, Nat.le_of_ble_eq_true rfl⟩ rfl rfl 0 rfl [0] rfl rfl rfl (Nat.le_of_ble_eq_true rfl) dX9_goal_68 ⟨Nat.le_of_ble_eq_true rfl, Nat.le_of_ble_eq_true rfl⟩) rfl rfl ?_
          have hs : sGoal be gm gb gd gh gc (nI j) (nI k) bh = (none, 7, gm, gb, gd, gh, gc) := by first | (simp [sGoal, tN, hcj_v, c_8, c_19, c_44, c_62]; done) | (simp [sGoal, tN, hcj_v, hck_v, c_8, c_19, c_44, c_62]; done) | (simp [sGoal, tN, hcj_v, hcm_v, c_8, c_19, c_44, c_62]; done) | (simp [sGoal, tN, hcj_v, hck_v, hcm_v, hx1_v, hx3_v, c_8, c_19, c_44, c_62]; done) | (simp [sGoal, tN, hcj_v, hcm_v, hx1_v, hx3_v, c_8, c_19, c_44, c_62]; done) | (simp [sGoal, c_8, c_19, c_44, c_62]; done)
          refine j_iret (pc := 71) X dX9_goal_71 ?_
          rw [hs]; exact ⟨rfl, rfl⟩
      · skip
        refine j_aload_n (pc := 47) X dX9_goal_47 rfl 0 rfl ?_
        refine j_iconst (pc := 48) X (v := nI 5) dX9_goal_48 (by decide) ?_
        refine j_ci (pc := 49) X (ws' := [(qx, .inr (9, [.ref qy, .ref qc, .ref qp, .ref qr, .ref qm, .ref qg, .ref qu, .ref ql, .ref qf, .int (nI 5)])), (qc, .inr (0, [.ref qc0, .ref qc1, .ref qc2, .ref qc3, .int (nI el), .int (nI be)])), (qg, .inr (2, [.ref qg0, .ref qg1, .ref qg2, .ref qg3, .int (nI gm)])), kI G qg0 40 (nF gb), kI G qg1 40 (nF gd), kI G qg2 40 (oF gh), kI G qg3 40 (oF gc)]) [0] rfl (j_rV X (b := qx) (As := [.int (nI 5)]) (ci := 9) (rest := []) 1 (mX9_refused l G qx qy qc qp qr qm qg qu ql qf lt 5 ) gX9_goal_X9_refused rfl rfl rfl (by decide +kernel) ⟨Nat.le_of_ble_eq_true rfl, Nat.le_of_ble_eq_true rfl⟩ rfl rfl 0 rfl [0] rfl rfl rfl (Nat.le_of_ble_eq_true rfl) dX9_goal_49 ⟨Nat.le_of_ble_eq_true rfl, Nat.le_of_ble_eq_true rfl⟩) rfl rfl ?_
        have hs : sGoal be gm gb gd gh gc (nI j) d bh = (none, 5, gm, gb, gd, gh, gc) := by first | (simp [sGoal, tN, hcj_v, c_8, c_19, c_44]; done) | (simp [sGoal, tN, hcj_v, hck_v, c_8, c_19, c_44]; done) | (simp [sGoal, tN, hcj_v, hcm_v, c_8, c_19, c_44]; done) | (simp [sGoal, tN, hcj_v, hck_v, hcm_v, hx1_v, hx3_v, c_8, c_19, c_44]; done) | (simp [sGoal, tN, hcj_v, hcm_v, hx1_v, hx3_v, c_8, c_19, c_44]; done) | (simp [sGoal, c_8, c_19, c_44]; done)
        refine j_iret (pc := 52) X dX9_goal_52 ?_
        rw [hs]; exact ⟨rfl, rfl⟩
    · skip
      refine j_aload_n (pc := 22) X dX9_goal_22 rfl 0 rfl ?_
      refine j_get (pc := 23) X 9 i_X9 0 rfl rfl 5 (by decide) (by decide +kernel) rfl dX9_goal_23 ?_
      refine j_iload_n (pc := 26) X dX9_goal_26 rfl 3 rfl ?_
      refine j_iload_n (pc := 27) X dX9_goal_27 rfl 1 rfl ?_
      refine j_ciP (pc := 28) X [2, 3] rfl (j_rVN X (b := qg) (As := [.int bh, .int (nI j)]) (ci := 2) (rest := []) 2 (mX2_isGoalOf l G qg qg0 qg1 qg2 qg3 gm gb bh j (by first | assumption | omega | exact ob_s (by omega) | exact ob_n) (by first | assumption | omega | exact ob_s (by omega) | exact ob_n) (by first | assumption | omega | exact ob_s (by omega) | exact ob_n)) gX9_goal_X2_isGoalOf_n217 rfl rfl rfl (by decide +kernel) (by decide +kernel) (by decide +kernel) (by decide +kernel) (by decide +kernel) ⟨Nat.le_of_ble_eq_true rfl, Nat.le_of_ble_eq_true rfl⟩ rfl rfl 0 rfl [2, 3] rfl rfl rfl (Nat.le_of_ble_eq_true rfl) dX9_goal_28 ⟨Nat.le_of_ble_eq_true rfl, Nat.le_of_ble_eq_true rfl⟩) ?_
      refine j_ifb_ne (pc := 31) X (B := inR bh gm && decide (gb bh.toNatClampNeg = j)) (tgt := 40) dX9_goal_31 (by decide) (fun c_31 => ?_) (fun c_31 => ?_)
      · skip
        obtain ⟨hx1, hx2⟩ := Bool.and_eq_true_iff.mp c_31; obtain ⟨m, hm, rfl⟩ := inR_of hx1 (by omega); have hcm_v := nI_clamp (n := m) (by omega); have hx1_v := hx1; have hx3_v : gb m = j := (by rw [← hcm_v]; exact of_decide_eq_true hx2)
        refine j_iload_n (pc := 40) X dX9_goal_40 rfl 2 rfl ?_
        refine j_ciP (pc := 41) X [] rfl (j_rS X (As := [.int d]) (rest := []) 1 (mX9_isDay l G d ) gX9_goal_X9_isDay rfl rfl rfl (by decide +kernel) ⟨Nat.le_of_ble_eq_true rfl, Nat.le_of_ble_eq_true rfl⟩ rfl [] rfl rfl rfl (Nat.le_of_ble_eq_true rfl) dX9_goal_41 ⟨Nat.le_of_ble_eq_true rfl, Nat.le_of_ble_eq_true rfl⟩) ?_
        refine j_ifb_ne (pc := 44) X (B := inC d 9999) (tgt := 53) dX9_goal_44 (by decide) (fun c_44 => ?_) (fun c_44 => ?_)
        · skip
          obtain ⟨k, hk, rfl⟩ := inC_of c_44 (by decide); have hck_v := nI_clamp (n := k) (by omega)
          refine j_aload_n (pc := 53) X dX9_goal_53 rfl 0 rfl ?_
          refine j_get (pc := 54) X 9 i_X9 0 rfl rfl 5 (by decide) (by decide +kernel) rfl dX9_goal_54 ?_
          refine j_getN (pc := 57) X 2 i_X2 2 rfl rfl 4 (by decide) (by decide +kernel) rfl dX9_goal_57 ?_
          refine j_bipush (pc := 60) X (v := nI 40) dX9_goal_60 (by decide) ?_
          refine j_icmpN_lt (pc := 62) X (a := gm) (b := 40) (by omega) (by omega) (tgt := 72) dX9_goal_62 (by decide) (fun c_62 => ?_) (fun c_62 => ?_)
          · skip
            refine j_aload_n (pc := 72) X dX9_goal_72 rfl 0 rfl ?_
            refine j_aload_n (pc := 73) X dX9_goal_73 rfl 0 rfl ?_
            refine j_get (pc := 74) X 9 i_X9 0 rfl rfl 5 (by decide) (by decide +kernel) rfl dX9_goal_74 ?_
            refine j_iload_n (pc := 77) X dX9_goal_77 rfl 1 rfl ?_
            refine j_iload_n (pc := 78) X dX9_goal_78 rfl 2 rfl ?_
            refine j_iload_n (pc := 79) X dX9_goal_79 rfl 3 rfl ?_
            refine j_ci (pc := 80) X (ws' := [(qx, .inr (9, [.ref qy, .ref qc, .ref qp, .ref qr, .ref qm, .ref qg, .ref qu, .ref ql, .ref qf, .int (nI lt)])), (qc, .inr (0, [.ref qc0, .ref qc1, .ref qc2, .ref qc3, .int (nI el), .int (nI be)])), (qg, .inr (2, [.ref qg0, .ref qg1, .ref qg2, .ref qg3, .int (nI (gm + 1))])), kI G qg0 40 (nF (va_up gb gm j)), kI G qg1 40 (nF (va_up gd gm k)), kI G qg2 40 (oF (va_up gh gm (some m))), kI G qg3 40 (oF (va_up gc gm none))]) [2, 3, 4, 5, 6] rfl (j_rVN X (b := qg) (As := [.int (nI j), .int (nI k), .int (nI m)]) (ci := 2) (rest := [.ref qx]) 3 (mX2_add l G qg qg0 qg1 qg2 qg3 gm gb gd gh gc j k (some m) (by first | assumption | omega | exact ob_s (by omega) | exact ob_n)) gX9_goal_X2_add_n221 rfl rfl rfl (by decide +kernel) (by decide +kernel) (by decide +kernel) (by decide +kernel) (by decide +kernel) ⟨Nat.le_of_ble_eq_true rfl, Nat.le_of_ble_eq_true rfl⟩ rfl rfl 0 rfl [2, 3, 4, 5, 6] rfl rfl rfl (Nat.le_of_ble_eq_true rfl) dX9_goal_80 ⟨Nat.le_of_ble_eq_true rfl, Nat.le_of_ble_eq_true rfl⟩) rfl rfl ?_
            refine j_ci (pc := 83) X (ws' := [(qx, .inr (9, [.ref qy, .ref qc, .ref qp, .ref qr, .ref qm, .ref qg, .ref qu, .ref ql, .ref qf, .int (nI 0)])), (qc, .inr (0, [.ref qc0, .ref qc1, .ref qc2, .ref qc3, .int (nI el), .int (nI be)])), (qg, .inr (2, [.ref qg0, .ref qg1, .ref qg2, .ref qg3, .int (nI (gm + 1))])), kI G qg0 40 (nF (va_up gb gm j)), kI G qg1 40 (nF (va_up gd gm k)), kI G qg2 40 (oF (va_up gh gm (some m))), kI G qg3 40 (oF (va_up gc gm none))]) [0] rfl (j_rV X (b := qx) (As := [.int (nI gm)]) (ci := 9) (rest := []) 1 (mX9_answered l G qx qy qc qp qr qm qg qu ql qf lt (nI gm) ) gX9_goal_X9_answered rfl rfl rfl (by decide +kernel) ⟨Nat.le_of_ble_eq_true rfl, Nat.le_of_ble_eq_true rfl⟩ rfl rfl 0 rfl [0] rfl rfl rfl (Nat.le_of_ble_eq_true rfl) dX9_goal_83 ⟨Nat.le_of_ble_eq_true rfl, Nat.le_of_ble_eq_true rfl⟩) rfl rfl ?_
            have hs : sGoal be gm gb gd gh gc (nI j) (nI k) (nI m) = (some gm, 0, gm + 1, va_up gb gm j, va_up gd gm k, va_up gh gm (some m), va_up gc gm none) := by first | (simp [sGoal, tN, hcj_v, c_8, c_19, c_31, c_44, c_62]; done) | (simp [sGoal, tN, hcj_v, hck_v, c_8, c_19, c_31, c_44, c_62]; done) | (simp [sGoal, tN, hcj_v, hcm_v, c_8, c_19, c_31, c_44, c_62]; done) | (simp [sGoal, tN, hcj_v, hck_v, hcm_v, hx1_v, hx3_v, c_8, c_19, c_31, c_44, c_62]; done) | (simp [sGoal, tN, hcj_v, hcm_v, hx1_v, hx3_v, c_8, c_19, c_31, c_44, c_62]; done) | (simp [sGoal, c_8, c_19, c_31, c_44, c_62]; done)
            refine j_iret (pc := 86) X dX9_goal_86 ?_
            rw [hs]; exact ⟨rfl, rfl⟩
          · skip
            refine j_aload_n (pc := 65) X dX9_goal_65 rfl 0 rfl ?_
            refine j_bipush (pc := 66) X (v := nI 7) dX9_goal_66 (by decide) ?_
            refine j_ci (pc := 68) X (ws' := [(qx, .inr (9, [.ref qy, .ref qc, .ref qp, .ref qr, .ref qm, .ref qg, .ref qu, .ref ql, .ref qf, .int (nI 7)])), (qc, .inr (0, [.ref qc0, .ref qc1, .ref qc2, .ref qc3, .int (nI el), .int (nI be)])), (qg, .inr (2, [.ref qg0, .ref qg1, .ref qg2, .ref qg3, .int (nI gm)])), kI G qg0 40 (nF gb), kI G qg1 40 (nF gd), kI G qg2 40 (oF gh), kI G qg3 40 (oF gc)]) [0] rfl (j_rV X (b := qx) (As := [.int (nI 7)]) (ci := 9) (rest := []) 1 (mX9_refused l G qx qy qc qp qr qm qg qu ql qf lt 7 ) gX9_goal_X9_refused rfl rfl rfl (by decide +kernel) ⟨Nat.le_of_ble_eq_true rfl, Nat.le_of_ble_eq_true rfl⟩ rfl rfl 0 rfl [0] rfl rfl rfl (Nat.le_of_ble_eq_true rfl) dX9_goal_68 ⟨Nat.le_of_ble_eq_true rfl, Nat.le_of_ble_eq_true rfl⟩) rfl rfl ?_
            have hs : sGoal be gm gb gd gh gc (nI j) (nI k) (nI m) = (none, 7, gm, gb, gd, gh, gc) := by first | (simp [sGoal, tN, hcj_v, c_8, c_19, c_31, c_44, c_62]; done) | (simp [sGoal, tN, hcj_v, hck_v, c_8, c_19, c_31, c_44, c_62]; done) | (simp [sGoal, tN, hcj_v, hcm_v, c_8, c_19, c_31, c_44, c_62]; done) | (simp [sGoal, tN, hcj_v, hck_v, hcm_v, hx1_v, hx3_v, c_8, c_19, c_31, c_44, c_62]; done) | (simp [sGoal, tN, hcj_v, hcm_v, hx1_v, hx3_v, c_8, c_19, c_31, c_44, c_62]; done) | (simp [sGoal, c_8, c_19, c_31, c_44, c_62]; done)
            refine j_iret (pc := 71) X dX9_goal_71 ?_
            rw [hs]; exact ⟨rfl, rfl⟩
        · skip
          refine j_aload_n (pc := 47) X dX9_goal_47 rfl 0 rfl ?_
          refine j_iconst (pc := 48) X (v := nI 5) dX9_goal_48 (by decide) ?_
          refine j_ci (pc := 49) X (ws' := [(qx, .inr (9, [.ref qy, .ref qc, .ref qp, .ref qr, .ref qm, .ref qg, .ref qu, .ref ql, .ref qf, .int (nI 5)])), (qc, .inr (0, [.ref qc0, .ref qc1, .ref qc2, .ref qc3, .int (nI el), .int (nI be)])), (qg, .inr (2, [.ref qg0, .ref qg1, .ref qg2, .ref qg3, .int (nI gm)])), kI G qg0 40 (nF gb), kI G qg1 40 (nF gd), kI G qg2 40 (oF gh), kI G qg3 40 (oF gc)]) [0] rfl (j_rV X (b := qx) (As := [.int (nI 5)]) (ci := 9) (rest := []) 1 (mX9_refused l G qx qy qc qp qr qm qg qu ql qf lt 5 ) gX9_goal_X9_refused rfl rfl rfl (by decide +kernel) ⟨Nat.le_of_ble_eq_true rfl, Nat.le_of_ble_eq_true rfl⟩ rfl rfl 0 rfl [0] rfl rfl rfl (Nat.le_of_ble_eq_true rfl) dX9_goal_49 ⟨Nat.le_of_ble_eq_true rfl, Nat.le_of_ble_eq_true rfl⟩) rfl rfl ?_
          have hs : sGoal be gm gb gd gh gc (nI j) d (nI m) = (none, 5, gm, gb, gd, gh, gc) := by first | (simp [sGoal, tN, hcj_v, c_8, c_19, c_31, c_44]; done) | (simp [sGoal, tN, hcj_v, hck_v, c_8, c_19, c_31, c_44]; done) | (simp [sGoal, tN, hcj_v, hcm_v, c_8, c_19, c_31, c_44]; done) | (simp [sGoal, tN, hcj_v, hck_v, hcm_v, hx1_v, hx3_v, c_8, c_19, c_31, c_44]; done) | (simp [sGoal, tN, hcj_v, hcm_v, hx1_v, hx3_v, c_8, c_19, c_31, c_44]; done) | (simp [sGoal, c_8, c_19, c_31, c_44]; done)
          refine j_iret (pc := 52) X dX9_goal_52 ?_
          rw [hs]; exact ⟨rfl, rfl⟩
      · skip
        refine j_aload_n (pc := 34) X dX9_goal_34 rfl 0 rfl ?_
        refine j_iconst (pc := 35) X (v := nI 2) dX9_goal_35 (by decide) ?_
        refine j_ci (pc := 36) X (ws' := [(qx, .inr (9, [.ref qy, .ref qc, .ref qp, .ref qr, .ref qm, .ref qg, .ref qu, .ref ql, .ref qf, .int (nI 2)])), (qc, .inr (0, [.ref qc0, .ref qc1, .ref qc2, .ref qc3, .int (nI el), .int (nI be)])), (qg, .inr (2, [.ref qg0, .ref qg1, .ref qg2, .ref qg3, .int (nI gm)])), kI G qg0 40 (nF gb), kI G qg1 40 (nF gd), kI G qg2 40 (oF gh), kI G qg3 40 (oF gc)]) [0] rfl (j_rV X (b := qx) (As := [.int (nI 2)]) (ci := 9) (rest := []) 1 (mX9_refused l G qx qy qc qp qr qm qg qu ql qf lt 2 ) gX9_goal_X9_refused rfl rfl rfl (by decide +kernel) ⟨Nat.le_of_ble_eq_true rfl, Nat.le_of_ble_eq_true rfl⟩ rfl rfl 0 rfl [0] rfl rfl rfl (Nat.le_of_ble_eq_true rfl) dX9_goal_36 ⟨Nat.le_of_ble_eq_true rfl, Nat.le_of_ble_eq_true rfl⟩) rfl rfl ?_
        have hs : sGoal be gm gb gd gh gc (nI j) d bh = (none, 2, gm, gb, gd, gh, gc) := by first | (simp [sGoal, tN, hcj_v, c_8, c_19, c_31]; done) | (simp [sGoal, tN, hcj_v, hck_v, c_8, c_19, c_31]; done) | (simp [sGoal, tN, hcj_v, hcm_v, c_8, c_19, c_31]; done) | (simp [sGoal, tN, hcj_v, hck_v, hcm_v, hx1_v, hx3_v, c_8, c_19, c_31]; done) | (simp [sGoal, tN, hcj_v, hcm_v, hx1_v, hx3_v, c_8, c_19, c_31]; done) | (simp [sGoal, c_8, c_19, c_31]; done)
        refine j_iret (pc := 39) X dX9_goal_39 ?_
        rw [hs]; exact ⟨rfl, rfl⟩
  · skip
    refine j_aload_n (pc := 11) X dX9_goal_11 rfl 0 rfl ?_
    refine j_iconst (pc := 12) X (v := nI 2) dX9_goal_12 (by decide) ?_
    refine j_ci (pc := 13) X (ws' := [(qx, .inr (9, [.ref qy, .ref qc, .ref qp, .ref qr, .ref qm, .ref qg, .ref qu, .ref ql, .ref qf, .int (nI 2)])), (qc, .inr (0, [.ref qc0, .ref qc1, .ref qc2, .ref qc3, .int (nI el), .int (nI be)])), (qg, .inr (2, [.ref qg0, .ref qg1, .ref qg2, .ref qg3, .int (nI gm)])), kI G qg0 40 (nF gb), kI G qg1 40 (nF gd), kI G qg2 40 (oF gh), kI G qg3 40 (oF gc)]) [0] rfl (j_rV X (b := qx) (As := [.int (nI 2)]) (ci := 9) (rest := []) 1 (mX9_refused l G qx qy qc qp qr qm qg qu ql qf lt 2 ) gX9_goal_X9_refused rfl rfl rfl (by decide +kernel) ⟨Nat.le_of_ble_eq_true rfl, Nat.le_of_ble_eq_true rfl⟩ rfl rfl 0 rfl [0] rfl rfl rfl (Nat.le_of_ble_eq_true rfl) dX9_goal_13 ⟨Nat.le_of_ble_eq_true rfl, Nat.le_of_ble_eq_true rfl⟩) rfl rfl ?_
    have hs : sGoal be gm gb gd gh gc x d bh = (none, 2, gm, gb, gd, gh, gc) := by first | (simp [sGoal, tN, hcj_v, c_8]; done) | (simp [sGoal, tN, hcj_v, hck_v, c_8]; done) | (simp [sGoal, tN, hcj_v, hcm_v, c_8]; done) | (simp [sGoal, tN, hcj_v, hck_v, hcm_v, hx1_v, hx3_v, c_8]; done) | (simp [sGoal, tN, hcj_v, hcm_v, hx1_v, hx3_v, c_8]; done) | (simp [sGoal, c_8]; done)
    refine j_iret (pc := 16) X dX9_goal_16 ?_
    rw [hs]; exact ⟨rfl, rfl⟩

set_option maxHeartbeats 4000000 in
set_option maxRecDepth 100000 in
theorem mX9_confirm (l : Launch) (G : jG) (qx : Nat) (qy : Nat) (qc : Nat) (qp : Nat) (qr : Nat) (qm : Nat) (qg : Nat) (qu : Nat) (ql : Nat) (qf : Nat) (lt : Nat) (qg0 : Nat) (qg1 : Nat) (qg2 : Nat) (qg3 : Nat) (gm : Nat) (gc : Nat → Option Nat) (x : Int32) (d : Int32) (hgm : gm ≤ 40) (hgc : ∀ k, ob 10000 (gc k)) : MV l yX9_confirm wsX9_confirm ({ frames := 1, cells := 0, slots := 0, locals := 21 }) G [.ref qx, .int x, .int d] [(qx, .inr (9, [.ref qy, .ref qc, .ref qp, .ref qr, .ref qm, .ref qg, .ref qu, .ref ql, .ref qf, .int (nI lt)])), (qg, .inr (2, [.ref qg0, .ref qg1, .ref qg2, .ref qg3, .int (nI gm)])), kI G qg3 40 (oF gc)] (some (.int (b2i ((sConf gm gc x d).1)))) [(qx, .inr (9, [.ref qy, .ref qc, .ref qp, .ref qr, .ref qm, .ref qg, .ref qu, .ref ql, .ref qf, .int (nI ((sConf gm gc x d).2.1))])), (qg, .inr (2, [.ref qg0, .ref qg1, .ref qg2, .ref qg3, .int (nI gm)])), kI G qg3 40 (oF ((sConf gm gc x d).2.2))] := by
  refine MF.ofJ (cc := cX9_confirm) (maxL := 3) (ret := (some .boolean)) (own := RX9) (lv := [(0, .ref qx), (1, .int x), (2, .int d)]) (by decide) rfl rfl (Nat.le_of_ble_eq_true rfl) rfl ?_
  intro κ X
  have i_X2 : ∀ w ∈ wsX20, w ∈ wsX9_confirm := by decide +kernel
  have i_X9 : ∀ w ∈ wsX90, w ∈ wsX9_confirm := by decide +kernel
  refine j_aload_n (pc := 0) X dX9_confirm_0 rfl 0 rfl ?_
  refine j_get (pc := 1) X 9 i_X9 0 rfl rfl 5 (by decide) (by decide +kernel) rfl dX9_confirm_1 ?_
  refine j_iload_n (pc := 4) X dX9_confirm_4 rfl 1 rfl ?_
  refine j_ciP (pc := 5) X [1] rfl (j_rVN X (b := qg) (As := [.int x]) (ci := 2) (rest := []) 1 (mX2_isGoal l G qg qg0 qg1 qg2 qg3 gm x ) gX9_confirm_X2_isGoal_n223 rfl rfl rfl (by decide +kernel) (by decide +kernel) (by decide +kernel) (by decide +kernel) (by decide +kernel) ⟨Nat.le_of_ble_eq_true rfl, Nat.le_of_ble_eq_true rfl⟩ rfl rfl 0 rfl [1] rfl rfl rfl (Nat.le_of_ble_eq_true rfl) dX9_confirm_5 ⟨Nat.le_of_ble_eq_true rfl, Nat.le_of_ble_eq_true rfl⟩) ?_
  refine j_ifb_ne (pc := 8) X (B := inR x gm) (tgt := 17) dX9_confirm_8 (by decide) (fun c_8 => ?_) (fun c_8 => ?_)
  · skip
    obtain ⟨j, hj, rfl⟩ := inR_of c_8 (by omega); have hcj_v := nI_clamp (n := j) (by omega)
    refine j_iload_n (pc := 17) X dX9_confirm_17 rfl 2 rfl ?_
    refine j_ciP (pc := 18) X [] rfl (j_rS X (As := [.int d]) (rest := []) 1 (mX9_isDay l G d ) gX9_confirm_X9_isDay rfl rfl rfl (by decide +kernel) ⟨Nat.le_of_ble_eq_true rfl, Nat.le_of_ble_eq_true rfl⟩ rfl [] rfl rfl rfl (Nat.le_of_ble_eq_true rfl) dX9_confirm_18 ⟨Nat.le_of_ble_eq_true rfl, Nat.le_of_ble_eq_true rfl⟩) ?_
    refine j_ifb_ne (pc := 21) X (B := inC d 9999) (tgt := 30) dX9_confirm_21 (by decide) (fun c_21 => ?_) (fun c_21 => ?_)
    · skip
      obtain ⟨k, hk, rfl⟩ := inC_of c_21 (by decide); have hck_v := nI_clamp (n := k) (by omega)
      refine j_aload_n (pc := 30) X dX9_confirm_30 rfl 0 rfl ?_
      refine j_get (pc := 31) X 9 i_X9 0 rfl rfl 5 (by decide) (by decide +kernel) rfl dX9_confirm_31 ?_
      refine j_getN (pc := 34) X 2 i_X2 1 rfl rfl 3 (by decide) (by decide +kernel) rfl dX9_confirm_34 ?_
      refine j_iload_n (pc := 37) X dX9_confirm_37 rfl 1 rfl ?_
      refine j_iald (pc := 38) X 2 rfl (vp_in_nI (by omega) (by decide)) (v := oI (gc j)) (congrArg (oF gc) (nI_clamp (by omega))) dX9_confirm_38 ?_
      refine j_iconst (pc := 39) X (v := oI none) dX9_confirm_39 (by decide) ?_
      refine j_icmpZ_eq (pc := 40) X (a := (gc j)) (by exact (hgc _).big (by decide)) (tgt := 50) dX9_confirm_40 (by decide) (fun c_40 => ?_) (fun c_40 => ?_)
      · skip
        refine j_aload_n (pc := 50) X dX9_confirm_50 rfl 0 rfl ?_
        refine j_get (pc := 51) X 9 i_X9 0 rfl rfl 5 (by decide) (by decide +kernel) rfl dX9_confirm_51 ?_
        refine j_getN (pc := 54) X 2 i_X2 1 rfl rfl 3 (by decide) (by decide +kernel) rfl dX9_confirm_54 ?_
        refine j_iload_n (pc := 57) X dX9_confirm_57 rfl 1 rfl ?_
        refine j_iload_n (pc := 58) X dX9_confirm_58 rfl 2 rfl ?_
        refine j_iast (pc := 59) X (f2 := (oF (va_up gc j (some k)))) (ws' := [(qx, .inr (9, [.ref qy, .ref qc, .ref qp, .ref qr, .ref qm, .ref qg, .ref qu, .ref ql, .ref qf, .int (nI lt)])), (qg, .inr (2, [.ref qg0, .ref qg1, .ref qg2, .ref qg3, .int (nI gm)])), kI G qg3 40 (oF (va_up gc j (some k)))]) 2 rfl (vp_in_nI (by omega) (by decide)) dX9_confirm_59 (by rw [nI_clamp (by omega)]; exact oF_up gc j (some k)) rfl ?_
        refine j_aload_n (pc := 60) X dX9_confirm_60 rfl 0 rfl ?_
        refine j_iconst (pc := 61) X (v := nI 0) dX9_confirm_61 (by decide) ?_
        refine j_ci (pc := 62) X (ws' := [(qx, .inr (9, [.ref qy, .ref qc, .ref qp, .ref qr, .ref qm, .ref qg, .ref qu, .ref ql, .ref qf, .int (nI 0)])), (qg, .inr (2, [.ref qg0, .ref qg1, .ref qg2, .ref qg3, .int (nI gm)])), kI G qg3 40 (oF (va_up gc j (some k)))]) [0] rfl (j_rV X (b := qx) (As := [.int (nI 0)]) (ci := 9) (rest := []) 1 (mX9_finish l G qx qy qc qp qr qm qg qu ql qf lt 0 (by first | assumption | omega | exact ob_s (by omega) | exact ob_n)) gX9_confirm_X9_finish rfl rfl rfl (by decide +kernel) ⟨Nat.le_of_ble_eq_true rfl, Nat.le_of_ble_eq_true rfl⟩ rfl rfl 0 rfl [0] rfl rfl rfl (Nat.le_of_ble_eq_true rfl) dX9_confirm_62 ⟨Nat.le_of_ble_eq_true rfl, Nat.le_of_ble_eq_true rfl⟩) rfl rfl ?_
        have hs : sConf gm gc (nI j) (nI k) = (decide (0 = 0), 0, va_up gc j (some k)) := by first | (simp [sConf, c_8, c_21, c_40]; done) | (simp [sConf, tN, c_8, c_21, c_40]; done) | (simp [sConf, tN, hcj_v, c_8, c_21, c_40]; done) | (simp [sConf, tN, hcj_v, hck_v, c_8, c_21, c_40]; done) | (simp [sConf, tN, hcj_v, hck_v, hcm_v, c_8, c_21, c_40]; done)
        refine j_zret (pc := 65) X (b2i_nar _) dX9_confirm_65 ?_
        rw [hs]; exact ⟨rfl, rfl⟩
      · skip
        refine j_aload_n (pc := 43) X dX9_confirm_43 rfl 0 rfl ?_
        refine j_bipush (pc := 44) X (v := nI 8) dX9_confirm_44 (by decide) ?_
        refine j_ci (pc := 46) X (ws' := [(qx, .inr (9, [.ref qy, .ref qc, .ref qp, .ref qr, .ref qm, .ref qg, .ref qu, .ref ql, .ref qf, .int (nI 8)])), (qg, .inr (2, [.ref qg0, .ref qg1, .ref qg2, .ref qg3, .int (nI gm)])), kI G qg3 40 (oF gc)]) [0] rfl (j_rV X (b := qx) (As := [.int (nI 8)]) (ci := 9) (rest := []) 1 (mX9_finish l G qx qy qc qp qr qm qg qu ql qf lt 8 (by first | assumption | omega | exact ob_s (by omega) | exact ob_n)) gX9_confirm_X9_finish rfl rfl rfl (by decide +kernel) ⟨Nat.le_of_ble_eq_true rfl, Nat.le_of_ble_eq_true rfl⟩ rfl rfl 0 rfl [0] rfl rfl rfl (Nat.le_of_ble_eq_true rfl) dX9_confirm_46 ⟨Nat.le_of_ble_eq_true rfl, Nat.le_of_ble_eq_true rfl⟩) rfl rfl ?_
        have hs : sConf gm gc (nI j) (nI k) = (decide (8 = 0), 8, gc) := by first | (simp [sConf, c_8, c_21, c_40]; done) | (simp [sConf, tN, c_8, c_21, c_40]; done) | (simp [sConf, tN, hcj_v, c_8, c_21, c_40]; done) | (simp [sConf, tN, hcj_v, hck_v, c_8, c_21, c_40]; done) | (simp [sConf, tN, hcj_v, hck_v, hcm_v, c_8, c_21, c_40]; done)
        refine j_zret (pc := 49) X (b2i_nar _) dX9_confirm_49 ?_
        rw [hs]; exact ⟨rfl, rfl⟩
    · skip
      refine j_aload_n (pc := 24) X dX9_confirm_24 rfl 0 rfl ?_
      refine j_iconst (pc := 25) X (v := nI 5) dX9_confirm_25 (by decide) ?_
      refine j_ci (pc := 26) X (ws' := [(qx, .inr (9, [.ref qy, .ref qc, .ref qp, .ref qr, .ref qm, .ref qg, .ref qu, .ref ql, .ref qf, .int (nI 5)])), (qg, .inr (2, [.ref qg0, .ref qg1, .ref qg2, .ref qg3, .int (nI gm)])), kI G qg3 40 (oF gc)]) [0] rfl (j_rV X (b := qx) (As := [.int (nI 5)]) (ci := 9) (rest := []) 1 (mX9_finish l G qx qy qc qp qr qm qg qu ql qf lt 5 (by first | assumption | omega | exact ob_s (by omega) | exact ob_n)) gX9_confirm_X9_finish rfl rfl rfl (by decide +kernel) ⟨Nat.le_of_ble_eq_true rfl, Nat.le_of_ble_eq_true rfl⟩ rfl rfl 0 rfl [0] rfl rfl rfl (Nat.le_of_ble_eq_true rfl) dX9_confirm_26 ⟨Nat.le_of_ble_eq_true rfl, Nat.le_of_ble_eq_true rfl⟩) rfl rfl ?_
      have hs : sConf gm gc (nI j) d = (decide (5 = 0), 5, gc) := by first | (simp [sConf, c_8, c_21]; done) | (simp [sConf, tN, c_8, c_21]; done) | (simp [sConf, tN, hcj_v, c_8, c_21]; done) | (simp [sConf, tN, hcj_v, hck_v, c_8, c_21]; done) | (simp [sConf, tN, hcj_v, hck_v, hcm_v, c_8, c_21]; done)
      refine j_zret (pc := 29) X (b2i_nar _) dX9_confirm_29 ?_
      rw [hs]; exact ⟨rfl, rfl⟩
  · skip
    refine j_aload_n (pc := 11) X dX9_confirm_11 rfl 0 rfl ?_
    refine j_iconst (pc := 12) X (v := nI 2) dX9_confirm_12 (by decide) ?_
    refine j_ci (pc := 13) X (ws' := [(qx, .inr (9, [.ref qy, .ref qc, .ref qp, .ref qr, .ref qm, .ref qg, .ref qu, .ref ql, .ref qf, .int (nI 2)])), (qg, .inr (2, [.ref qg0, .ref qg1, .ref qg2, .ref qg3, .int (nI gm)])), kI G qg3 40 (oF gc)]) [0] rfl (j_rV X (b := qx) (As := [.int (nI 2)]) (ci := 9) (rest := []) 1 (mX9_finish l G qx qy qc qp qr qm qg qu ql qf lt 2 (by first | assumption | omega | exact ob_s (by omega) | exact ob_n)) gX9_confirm_X9_finish rfl rfl rfl (by decide +kernel) ⟨Nat.le_of_ble_eq_true rfl, Nat.le_of_ble_eq_true rfl⟩ rfl rfl 0 rfl [0] rfl rfl rfl (Nat.le_of_ble_eq_true rfl) dX9_confirm_13 ⟨Nat.le_of_ble_eq_true rfl, Nat.le_of_ble_eq_true rfl⟩) rfl rfl ?_
    have hs : sConf gm gc x d = (decide (2 = 0), 2, gc) := by first | (simp [sConf, c_8]; done) | (simp [sConf, tN, c_8]; done) | (simp [sConf, tN, hcj_v, c_8]; done) | (simp [sConf, tN, hcj_v, hck_v, c_8]; done) | (simp [sConf, tN, hcj_v, hck_v, hcm_v, c_8]; done)
    refine j_zret (pc := 16) X (b2i_nar _) dX9_confirm_16 ?_
    rw [hs]; exact ⟨rfl, rfl⟩

set_option maxHeartbeats 4000000 in
set_option maxRecDepth 100000 in
theorem mX9_goalAt (l : Launch) (G : jG) (qx : Nat) (qy : Nat) (qc : Nat) (qp : Nat) (qr : Nat) (qm : Nat) (qg : Nat) (qu : Nat) (ql : Nat) (qf : Nat) (lt : Nat) (qg0 : Nat) (qg1 : Nat) (qg2 : Nat) (qg3 : Nat) (gm : Nat) (gd : Nat → Nat) (gh : Nat → Option Nat) (gc : Nat → Option Nat) (x : Int32) (d : Int32) (hgm : gm ≤ 40) (hgd : ∀ k, gd k < 10000) (hgh : ∀ k, ob 40 (gh k)) (hgc : ∀ k, ob 10000 (gc k)) : MV l yX9_goalAt wsX9_goalAt ({ frames := 2, cells := 0, slots := 0, locals := 48 }) G [.ref qx, .int x, .int d] [(qx, .inr (9, [.ref qy, .ref qc, .ref qp, .ref qr, .ref qm, .ref qg, .ref qu, .ref ql, .ref qf, .int (nI lt)])), (qg, .inr (2, [.ref qg0, .ref qg1, .ref qg2, .ref qg3, .int (nI gm)])), kI G qg1 40 (nF gd), kI G qg2 40 (oF gh), kI G qg3 40 (oF gc)] (some (.int (oI ((sGat gm gd gh gc x d).1)))) [(qx, .inr (9, [.ref qy, .ref qc, .ref qp, .ref qr, .ref qm, .ref qg, .ref qu, .ref ql, .ref qf, .int (nI ((sGat gm gd gh gc x d).2))])), (qg, .inr (2, [.ref qg0, .ref qg1, .ref qg2, .ref qg3, .int (nI gm)])), kI G qg1 40 (nF gd), kI G qg2 40 (oF gh), kI G qg3 40 (oF gc)] := by
  refine MF.ofJ (cc := cX9_goalAt) (maxL := 3) (ret := (some .int)) (own := RX9) (lv := [(0, .ref qx), (1, .int x), (2, .int d)]) (by decide) rfl rfl (Nat.le_of_ble_eq_true rfl) rfl ?_
  intro κ X
  have i_X2 : ∀ w ∈ wsX20, w ∈ wsX9_goalAt := by decide +kernel
  have i_X9 : ∀ w ∈ wsX90, w ∈ wsX9_goalAt := by decide +kernel
  refine j_aload_n (pc := 0) X dX9_goalAt_0 rfl 0 rfl ?_
  refine j_get (pc := 1) X 9 i_X9 0 rfl rfl 5 (by decide) (by decide +kernel) rfl dX9_goalAt_1 ?_
  refine j_iload_n (pc := 4) X dX9_goalAt_4 rfl 1 rfl ?_
  refine j_ciP (pc := 5) X [1] rfl (j_rVN X (b := qg) (As := [.int x]) (ci := 2) (rest := []) 1 (mX2_isGoal l G qg qg0 qg1 qg2 qg3 gm x ) gX9_goalAt_X2_isGoal_n223 rfl rfl rfl (by decide +kernel) (by decide +kernel) (by decide +kernel) (by decide +kernel) (by decide +kernel) ⟨Nat.le_of_ble_eq_true rfl, Nat.le_of_ble_eq_true rfl⟩ rfl rfl 0 rfl [1] rfl rfl rfl (Nat.le_of_ble_eq_true rfl) dX9_goalAt_5 ⟨Nat.le_of_ble_eq_true rfl, Nat.le_of_ble_eq_true rfl⟩) ?_
  refine j_ifb_ne (pc := 8) X (B := inR x gm) (tgt := 17) dX9_goalAt_8 (by decide) (fun c_8 => ?_) (fun c_8 => ?_)
  · skip
    obtain ⟨j, hj, rfl⟩ := inR_of c_8 (by omega); have hcj_v := nI_clamp (n := j) (by omega)
    refine j_iload_n (pc := 17) X dX9_goalAt_17 rfl 2 rfl ?_
    refine j_ciP (pc := 18) X [] rfl (j_rS X (As := [.int d]) (rest := []) 1 (mX9_isDay l G d ) gX9_goalAt_X9_isDay rfl rfl rfl (by decide +kernel) ⟨Nat.le_of_ble_eq_true rfl, Nat.le_of_ble_eq_true rfl⟩ rfl [] rfl rfl rfl (Nat.le_of_ble_eq_true rfl) dX9_goalAt_18 ⟨Nat.le_of_ble_eq_true rfl, Nat.le_of_ble_eq_true rfl⟩) ?_
    refine j_ifb_ne (pc := 21) X (B := inC d 9999) (tgt := 30) dX9_goalAt_21 (by decide) (fun c_21 => ?_) (fun c_21 => ?_)
    · skip
      obtain ⟨k, hk, rfl⟩ := inC_of c_21 (by decide); have hck_v := nI_clamp (n := k) (by omega)
      refine j_aload_n (pc := 30) X dX9_goalAt_30 rfl 0 rfl ?_
      refine j_aload_n (pc := 31) X dX9_goalAt_31 rfl 0 rfl ?_
      refine j_get (pc := 32) X 9 i_X9 0 rfl rfl 5 (by decide) (by decide +kernel) rfl dX9_goalAt_32 ?_
      refine j_iload_n (pc := 35) X dX9_goalAt_35 rfl 1 rfl ?_
      refine j_iload_n (pc := 36) X dX9_goalAt_36 rfl 2 rfl ?_
      refine j_ciP (pc := 37) X [1, 2, 3, 4] rfl (j_rVN X (b := qg) (As := [.int (nI j), .int (nI k)]) (ci := 2) (rest := [.ref qx]) 2 (mX2_asOf l G qg qg0 qg1 qg2 qg3 gm gd gh gc j k (by first | assumption | omega | exact ob_s (by omega) | exact ob_n) (by first | assumption | omega | exact ob_s (by omega) | exact ob_n) (by first | assumption | omega | exact ob_s (by omega) | exact ob_n) (by first | assumption | omega | exact ob_s (by omega) | exact ob_n) (by first | assumption | omega | exact ob_s (by omega) | exact ob_n)) gX9_goalAt_X2_asOf_n229 rfl rfl rfl (by decide +kernel) (by decide +kernel) (by decide +kernel) (by decide +kernel) (by decide +kernel) ⟨Nat.le_of_ble_eq_true rfl, Nat.le_of_ble_eq_true rfl⟩ rfl rfl 0 rfl [1, 2, 3, 4] rfl rfl rfl (Nat.le_of_ble_eq_true rfl) dX9_goalAt_37 ⟨Nat.le_of_ble_eq_true rfl, Nat.le_of_ble_eq_true rfl⟩) ?_
      refine j_ci (pc := 40) X (ws' := [(qx, .inr (9, [.ref qy, .ref qc, .ref qp, .ref qr, .ref qm, .ref qg, .ref qu, .ref ql, .ref qf, .int (nI 0)])), (qg, .inr (2, [.ref qg0, .ref qg1, .ref qg2, .ref qg3, .int (nI gm)])), kI G qg1 40 (nF gd), kI G qg2 40 (oF gh), kI G qg3 40 (oF gc)]) [0] rfl (j_rV X (b := qx) (As := [.int (nI (if rch gc gd gh 40 (some j) k then 1 else if k ≤ gd j then 0 else 2))]) (ci := 9) (rest := []) 1 (mX9_answered l G qx qy qc qp qr qm qg qu ql qf lt (nI (if rch gc gd gh 40 (some j) k then 1 else if k ≤ gd j then 0 else 2)) ) gX9_goalAt_X9_answered rfl rfl rfl (by decide +kernel) ⟨Nat.le_of_ble_eq_true rfl, Nat.le_of_ble_eq_true rfl⟩ rfl rfl 0 rfl [0] rfl rfl rfl (Nat.le_of_ble_eq_true rfl) dX9_goalAt_40 ⟨Nat.le_of_ble_eq_true rfl, Nat.le_of_ble_eq_true rfl⟩) rfl rfl ?_
      have hs : sGat gm gd gh gc (nI j) (nI k) = (some (if rch gc gd gh 40 (some j) k then 1 else if k ≤ gd j then 0 else 2), 0) := by first | (simp [sGat, c_8, c_21]; done) | (simp [sGat, tN, c_8, c_21]; done) | (simp [sGat, tN, hcj_v, c_8, c_21]; done) | (simp [sGat, tN, hcj_v, hck_v, c_8, c_21]; done) | (simp [sGat, tN, hcj_v, hck_v, hcm_v, c_8, c_21]; done)
      refine j_iret (pc := 43) X dX9_goalAt_43 ?_
      rw [hs]; exact ⟨rfl, rfl⟩
    · skip
      refine j_aload_n (pc := 24) X dX9_goalAt_24 rfl 0 rfl ?_
      refine j_iconst (pc := 25) X (v := nI 5) dX9_goalAt_25 (by decide) ?_
      refine j_ci (pc := 26) X (ws' := [(qx, .inr (9, [.ref qy, .ref qc, .ref qp, .ref qr, .ref qm, .ref qg, .ref qu, .ref ql, .ref qf, .int (nI 5)])), (qg, .inr (2, [.ref qg0, .ref qg1, .ref qg2, .ref qg3, .int (nI gm)])), kI G qg1 40 (nF gd), kI G qg2 40 (oF gh), kI G qg3 40 (oF gc)]) [0] rfl (j_rV X (b := qx) (As := [.int (nI 5)]) (ci := 9) (rest := []) 1 (mX9_refused l G qx qy qc qp qr qm qg qu ql qf lt 5 ) gX9_goalAt_X9_refused rfl rfl rfl (by decide +kernel) ⟨Nat.le_of_ble_eq_true rfl, Nat.le_of_ble_eq_true rfl⟩ rfl rfl 0 rfl [0] rfl rfl rfl (Nat.le_of_ble_eq_true rfl) dX9_goalAt_26 ⟨Nat.le_of_ble_eq_true rfl, Nat.le_of_ble_eq_true rfl⟩) rfl rfl ?_
      have hs : sGat gm gd gh gc (nI j) d = (none, 5) := by first | (simp [sGat, c_8, c_21]; done) | (simp [sGat, tN, c_8, c_21]; done) | (simp [sGat, tN, hcj_v, c_8, c_21]; done) | (simp [sGat, tN, hcj_v, hck_v, c_8, c_21]; done) | (simp [sGat, tN, hcj_v, hck_v, hcm_v, c_8, c_21]; done)
      refine j_iret (pc := 29) X dX9_goalAt_29 ?_
      rw [hs]; exact ⟨rfl, rfl⟩
  · skip
    refine j_aload_n (pc := 11) X dX9_goalAt_11 rfl 0 rfl ?_
    refine j_iconst (pc := 12) X (v := nI 2) dX9_goalAt_12 (by decide) ?_
    refine j_ci (pc := 13) X (ws' := [(qx, .inr (9, [.ref qy, .ref qc, .ref qp, .ref qr, .ref qm, .ref qg, .ref qu, .ref ql, .ref qf, .int (nI 2)])), (qg, .inr (2, [.ref qg0, .ref qg1, .ref qg2, .ref qg3, .int (nI gm)])), kI G qg1 40 (nF gd), kI G qg2 40 (oF gh), kI G qg3 40 (oF gc)]) [0] rfl (j_rV X (b := qx) (As := [.int (nI 2)]) (ci := 9) (rest := []) 1 (mX9_refused l G qx qy qc qp qr qm qg qu ql qf lt 2 ) gX9_goalAt_X9_refused rfl rfl rfl (by decide +kernel) ⟨Nat.le_of_ble_eq_true rfl, Nat.le_of_ble_eq_true rfl⟩ rfl rfl 0 rfl [0] rfl rfl rfl (Nat.le_of_ble_eq_true rfl) dX9_goalAt_13 ⟨Nat.le_of_ble_eq_true rfl, Nat.le_of_ble_eq_true rfl⟩) rfl rfl ?_
    have hs : sGat gm gd gh gc x d = (none, 2) := by first | (simp [sGat, c_8]; done) | (simp [sGat, tN, c_8]; done) | (simp [sGat, tN, hcj_v, c_8]; done) | (simp [sGat, tN, hcj_v, hck_v, c_8]; done) | (simp [sGat, tN, hcj_v, hck_v, hcm_v, c_8]; done)
    refine j_iret (pc := 16) X dX9_goalAt_16 ?_
    rw [hs]; exact ⟨rfl, rfl⟩

set_option maxHeartbeats 4000000 in
set_option maxRecDepth 100000 in
theorem mX9_run (l : Launch) (G : jG) (qx : Nat) (qy : Nat) (qc : Nat) (qp : Nat) (qr : Nat) (qm : Nat) (qg : Nat) (qu : Nat) (ql : Nat) (qf : Nat) (lt : Nat) (qu0 : Nat) (qu1 : Nat) (rn : Nat) (mo : Nat → Nat) (re : Nat → Bool) (m : Int32) (en : Bool) (hrn : rn ≤ 16) : MV l yX9_run wsX9_run ({ frames := 1, cells := 0, slots := 0, locals := 22 }) G [.ref qx, .int m, .int (b2i en)] [(qx, .inr (9, [.ref qy, .ref qc, .ref qp, .ref qr, .ref qm, .ref qg, .ref qu, .ref ql, .ref qf, .int (nI lt)])), (qu, .inr (6, [.ref qu0, .ref qu1, .int (nI rn)])), kI G qu0 16 (nF mo), kZ G qu1 16 (bF re)] (some (.int (b2i ((sRun rn mo re m en).1)))) [(qx, .inr (9, [.ref qy, .ref qc, .ref qp, .ref qr, .ref qm, .ref qg, .ref qu, .ref ql, .ref qf, .int (nI ((sRun rn mo re m en).2.1))])), (qu, .inr (6, [.ref qu0, .ref qu1, .int (nI ((sRun rn mo re m en).2.2.1))])), kI G qu0 16 (nF ((sRun rn mo re m en).2.2.2.1)), kZ G qu1 16 (bF ((sRun rn mo re m en).2.2.2.2))] := by
  refine MF.ofJ (cc := cX9_run) (maxL := 3) (ret := (some .boolean)) (own := RX9) (lv := [(0, .ref qx), (1, .int m), (2, .int (b2i en))]) (by decide) rfl rfl (Nat.le_of_ble_eq_true rfl) rfl ?_
  intro κ X
  have i_X6 : ∀ w ∈ wsX60, w ∈ wsX9_run := by decide +kernel
  have i_X9 : ∀ w ∈ wsX90, w ∈ wsX9_run := by decide +kernel
  refine j_iload_n (pc := 0) X dX9_run_0 rfl 1 rfl ?_
  refine j_iconst (pc := 1) X (v := nI 1) dX9_run_1 (by decide) ?_
  refine j_icmp_lt (pc := 2) X (x := m) (z := nI 1) (tgt := 11) dX9_run_2 (by decide) (fun c_2 => ?_) (fun c_2 => ?_)
  · skip
    refine j_aload_n (pc := 11) X dX9_run_11 rfl 0 rfl ?_
    refine j_iconst (pc := 12) X (v := nI 5) dX9_run_12 (by decide) ?_
    refine j_ci (pc := 13) X (ws' := [(qx, .inr (9, [.ref qy, .ref qc, .ref qp, .ref qr, .ref qm, .ref qg, .ref qu, .ref ql, .ref qf, .int (nI 5)])), (qu, .inr (6, [.ref qu0, .ref qu1, .int (nI rn)])), kI G qu0 16 (nF mo), kZ G qu1 16 (bF re)]) [0] rfl (j_rV X (b := qx) (As := [.int (nI 5)]) (ci := 9) (rest := []) 1 (mX9_finish l G qx qy qc qp qr qm qg qu ql qf lt 5 (by first | assumption | omega | exact ob_s (by omega) | exact ob_n)) gX9_run_X9_finish rfl rfl rfl (by decide +kernel) ⟨Nat.le_of_ble_eq_true rfl, Nat.le_of_ble_eq_true rfl⟩ rfl rfl 0 rfl [0] rfl rfl rfl (Nat.le_of_ble_eq_true rfl) dX9_run_13 ⟨Nat.le_of_ble_eq_true rfl, Nat.le_of_ble_eq_true rfl⟩) rfl rfl ?_
    have hs : sRun rn mo re m en = (decide (5 = 0), 5, rn, mo, re) := by first | (simp [sRun, in1, c_2]; done) | (simp [sRun, in1, tN, c_2]; done) | (simp [sRun, in1, tN, hcj_v, c_2]; done) | (simp [sRun, in1, tN, hcj_v, hck_v, c_2]; done) | (simp [sRun, in1, tN, hcj_v, hck_v, hcm_v, c_2]; done)
    refine j_zret (pc := 16) X (b2i_nar _) dX9_run_16 ?_
    rw [hs]; exact ⟨rfl, rfl⟩
  · skip
    refine j_iload_n (pc := 5) X dX9_run_5 rfl 1 rfl ?_
    refine j_bipush (pc := 6) X (v := nI 60) dX9_run_6 (by decide) ?_
    refine j_icmp_le (pc := 8) X (x := m) (z := nI 60) (tgt := 17) dX9_run_8 (by decide) (fun c_8 => ?_) (fun c_8 => ?_)
    · skip
      obtain ⟨j, hj1, hj, rfl⟩ := rng_of1 c_2 c_8 (by decide); have hcj_v := nI_clamp (n := j) (by omega)
      refine j_aload_n (pc := 17) X dX9_run_17 rfl 0 rfl ?_
      refine j_get (pc := 18) X 9 i_X9 0 rfl rfl 6 (by decide) (by decide +kernel) rfl dX9_run_18 ?_
      refine j_getN (pc := 21) X 6 i_X6 1 rfl rfl 2 (by decide) (by decide +kernel) rfl dX9_run_21 ?_
      refine j_bipush (pc := 24) X (v := nI 16) dX9_run_24 (by decide) ?_
      refine j_icmpN_lt (pc := 26) X (a := rn) (b := 16) (by omega) (by omega) (tgt := 36) dX9_run_26 (by decide) (fun c_26 => ?_) (fun c_26 => ?_)
      · skip
        refine j_aload_n (pc := 36) X dX9_run_36 rfl 0 rfl ?_
        refine j_get (pc := 37) X 9 i_X9 0 rfl rfl 6 (by decide) (by decide +kernel) rfl dX9_run_37 ?_
        refine j_iload_n (pc := 40) X dX9_run_40 rfl 1 rfl ?_
        refine j_iload_n (pc := 41) X dX9_run_41 rfl 2 rfl ?_
        refine j_cv (pc := 42) X (ws' := [(qx, .inr (9, [.ref qy, .ref qc, .ref qp, .ref qr, .ref qm, .ref qg, .ref qu, .ref ql, .ref qf, .int (nI lt)])), (qu, .inr (6, [.ref qu0, .ref qu1, .int (nI (rn + 1))])), kI G qu0 16 (nF (va_up mo rn j)), kZ G qu1 16 (bF (va_up re rn en))]) [1, 2, 3] rfl (j_rVN X (b := qu) (As := [.int (nI j), .int (b2i en)]) (ci := 6) (rest := []) 2 (mX6_add l G qu qu0 qu1 rn mo re j en (by first | assumption | omega | exact ob_s (by omega) | exact ob_n)) gX9_run_X6_add_n233 rfl rfl rfl (by decide +kernel) (by decide +kernel) (by decide +kernel) (by decide +kernel) (by decide +kernel) ⟨Nat.le_of_ble_eq_true rfl, Nat.le_of_ble_eq_true rfl⟩ rfl rfl 0 rfl [1, 2, 3] rfl rfl rfl (Nat.le_of_ble_eq_true rfl) dX9_run_42 ⟨Nat.le_of_ble_eq_true rfl, Nat.le_of_ble_eq_true rfl⟩) rfl rfl ?_
        refine j_aload_n (pc := 45) X dX9_run_45 rfl 0 rfl ?_
        refine j_iconst (pc := 46) X (v := nI 0) dX9_run_46 (by decide) ?_
        refine j_ci (pc := 47) X (ws' := [(qx, .inr (9, [.ref qy, .ref qc, .ref qp, .ref qr, .ref qm, .ref qg, .ref qu, .ref ql, .ref qf, .int (nI 0)])), (qu, .inr (6, [.ref qu0, .ref qu1, .int (nI (rn + 1))])), kI G qu0 16 (nF (va_up mo rn j)), kZ G qu1 16 (bF (va_up re rn en))]) [0] rfl (j_rV X (b := qx) (As := [.int (nI 0)]) (ci := 9) (rest := []) 1 (mX9_finish l G qx qy qc qp qr qm qg qu ql qf lt 0 (by first | assumption | omega | exact ob_s (by omega) | exact ob_n)) gX9_run_X9_finish rfl rfl rfl (by decide +kernel) ⟨Nat.le_of_ble_eq_true rfl, Nat.le_of_ble_eq_true rfl⟩ rfl rfl 0 rfl [0] rfl rfl rfl (Nat.le_of_ble_eq_true rfl) dX9_run_47 ⟨Nat.le_of_ble_eq_true rfl, Nat.le_of_ble_eq_true rfl⟩) rfl rfl ?_
        have hs : sRun rn mo re (nI j) en = (decide (0 = 0), 0, rn + 1, va_up mo rn j, va_up re rn en) := by first | (simp [sRun, in1, c_2, c_8, c_26]; done) | (simp [sRun, in1, tN, c_2, c_8, c_26]; done) | (simp [sRun, in1, tN, hcj_v, c_2, c_8, c_26]; done) | (simp [sRun, in1, tN, hcj_v, hck_v, c_2, c_8, c_26]; done) | (simp [sRun, in1, tN, hcj_v, hck_v, hcm_v, c_2, c_8, c_26]; done)
        refine j_zret (pc := 50) X (b2i_nar _) dX9_run_50 ?_
        rw [hs]; exact ⟨rfl, rfl⟩
      · skip
        refine j_aload_n (pc := 29) X dX9_run_29 rfl 0 rfl ?_
        refine j_bipush (pc := 30) X (v := nI 7) dX9_run_30 (by decide) ?_
        refine j_ci (pc := 32) X (ws' := [(qx, .inr (9, [.ref qy, .ref qc, .ref qp, .ref qr, .ref qm, .ref qg, .ref qu, .ref ql, .ref qf, .int (nI 7)])), (qu, .inr (6, [.ref qu0, .ref qu1, .int (nI rn)])), kI G qu0 16 (nF mo), kZ G qu1 16 (bF re)]) [0] rfl (j_rV X (b := qx) (As := [.int (nI 7)]) (ci := 9) (rest := []) 1 (mX9_finish l G qx qy qc qp qr qm qg qu ql qf lt 7 (by first | assumption | omega | exact ob_s (by omega) | exact ob_n)) gX9_run_X9_finish rfl rfl rfl (by decide +kernel) ⟨Nat.le_of_ble_eq_true rfl, Nat.le_of_ble_eq_true rfl⟩ rfl rfl 0 rfl [0] rfl rfl rfl (Nat.le_of_ble_eq_true rfl) dX9_run_32 ⟨Nat.le_of_ble_eq_true rfl, Nat.le_of_ble_eq_true rfl⟩) rfl rfl ?_
        have hs : sRun rn mo re (nI j) en = (decide (7 = 0), 7, rn, mo, re) := by first | (simp [sRun, in1, c_2, c_8, c_26]; done) | (simp [sRun, in1, tN, c_2, c_8, c_26]; done) | (simp [sRun, in1, tN, hcj_v, c_2, c_8, c_26]; done) | (simp [sRun, in1, tN, hcj_v, hck_v, c_2, c_8, c_26]; done) | (simp [sRun, in1, tN, hcj_v, hck_v, hcm_v, c_2, c_8, c_26]; done)
        refine j_zret (pc := 35) X (b2i_nar _) dX9_run_35 ?_
        rw [hs]; exact ⟨rfl, rfl⟩
    · skip
      refine j_aload_n (pc := 11) X dX9_run_11 rfl 0 rfl ?_
      refine j_iconst (pc := 12) X (v := nI 5) dX9_run_12 (by decide) ?_
      refine j_ci (pc := 13) X (ws' := [(qx, .inr (9, [.ref qy, .ref qc, .ref qp, .ref qr, .ref qm, .ref qg, .ref qu, .ref ql, .ref qf, .int (nI 5)])), (qu, .inr (6, [.ref qu0, .ref qu1, .int (nI rn)])), kI G qu0 16 (nF mo), kZ G qu1 16 (bF re)]) [0] rfl (j_rV X (b := qx) (As := [.int (nI 5)]) (ci := 9) (rest := []) 1 (mX9_finish l G qx qy qc qp qr qm qg qu ql qf lt 5 (by first | assumption | omega | exact ob_s (by omega) | exact ob_n)) gX9_run_X9_finish rfl rfl rfl (by decide +kernel) ⟨Nat.le_of_ble_eq_true rfl, Nat.le_of_ble_eq_true rfl⟩ rfl rfl 0 rfl [0] rfl rfl rfl (Nat.le_of_ble_eq_true rfl) dX9_run_13 ⟨Nat.le_of_ble_eq_true rfl, Nat.le_of_ble_eq_true rfl⟩) rfl rfl ?_
      have hs : sRun rn mo re m en = (decide (5 = 0), 5, rn, mo, re) := by first | (simp [sRun, in1, c_2, c_8]; done) | (simp [sRun, in1, tN, c_2, c_8]; done) | (simp [sRun, in1, tN, hcj_v, c_2, c_8]; done) | (simp [sRun, in1, tN, hcj_v, hck_v, c_2, c_8]; done) | (simp [sRun, in1, tN, hcj_v, hck_v, hcm_v, c_2, c_8]; done)
      refine j_zret (pc := 16) X (b2i_nar _) dX9_run_16 ?_
      rw [hs]; exact ⟨rfl, rfl⟩

set_option maxHeartbeats 4000000 in
set_option maxRecDepth 100000 in
theorem mX9_clear (l : Launch) (G : jG) (qx : Nat) (qy : Nat) (qc : Nat) (qp : Nat) (qr : Nat) (qm : Nat) (qg : Nat) (qu : Nat) (ql : Nat) (qf : Nat) (lt : Nat) (qu0 : Nat) (qu1 : Nat) (rn : Nat)  : MV l yX9_clear wsX9_clear ({ frames := 1, cells := 0, slots := 0, locals := 21 }) G [.ref qx] [(qx, .inr (9, [.ref qy, .ref qc, .ref qp, .ref qr, .ref qm, .ref qg, .ref qu, .ref ql, .ref qf, .int (nI lt)])), (qu, .inr (6, [.ref qu0, .ref qu1, .int (nI rn)]))] (some (.int (b2i true))) [(qx, .inr (9, [.ref qy, .ref qc, .ref qp, .ref qr, .ref qm, .ref qg, .ref qu, .ref ql, .ref qf, .int (nI 0)])), (qu, .inr (6, [.ref qu0, .ref qu1, .int (nI 0)]))] := by
  refine MF.ofJ (cc := cX9_clear) (maxL := 1) (ret := (some .boolean)) (own := RX9) (lv := [(0, .ref qx)]) (by decide) rfl rfl (Nat.le_of_ble_eq_true rfl) rfl ?_
  intro κ X
  have i_X6 : ∀ w ∈ wsX60, w ∈ wsX9_clear := by decide +kernel
  have i_X9 : ∀ w ∈ wsX90, w ∈ wsX9_clear := by decide +kernel
  refine j_aload_n (pc := 0) X dX9_clear_0 rfl 0 rfl ?_
  refine j_get (pc := 1) X 9 i_X9 0 rfl rfl 6 (by decide) (by decide +kernel) rfl dX9_clear_1 ?_
  refine j_iconst (pc := 4) X (v := nI 0) dX9_clear_4 (by decide) ?_
  refine j_putN (pc := 5) X (v := .int (nI 0)) (ws' := [(qx, .inr (9, [.ref qy, .ref qc, .ref qp, .ref qr, .ref qm, .ref qg, .ref qu, .ref ql, .ref qf, .int (nI lt)])), (qu, .inr (6, [.ref qu0, .ref qu1, .int (nI 0)]))]) 6 i_X6 tyX6 tyX6_ok nmX6 1 rfl rfl 2 (by decide) (by decide +kernel) (by decide) (rfl) (rfl) (Nat.le_of_ble_eq_true rfl) dX9_clear_5 rfl ?_
  refine j_aload_n (pc := 8) X dX9_clear_8 rfl 0 rfl ?_
  refine j_iconst (pc := 9) X (v := nI 0) dX9_clear_9 (by decide) ?_
  refine j_ci (pc := 10) X (ws' := [(qx, .inr (9, [.ref qy, .ref qc, .ref qp, .ref qr, .ref qm, .ref qg, .ref qu, .ref ql, .ref qf, .int (nI 0)])), (qu, .inr (6, [.ref qu0, .ref qu1, .int (nI 0)]))]) [0] rfl (j_rV X (b := qx) (As := [.int (nI 0)]) (ci := 9) (rest := []) 1 (mX9_finish l G qx qy qc qp qr qm qg qu ql qf lt 0 (by first | assumption | omega | exact ob_s (by omega) | exact ob_n)) gX9_clear_X9_finish rfl rfl rfl (by decide +kernel) ⟨Nat.le_of_ble_eq_true rfl, Nat.le_of_ble_eq_true rfl⟩ rfl rfl 0 rfl [0] rfl rfl rfl (Nat.le_of_ble_eq_true rfl) dX9_clear_10 ⟨Nat.le_of_ble_eq_true rfl, Nat.le_of_ble_eq_true rfl⟩) rfl rfl ?_
  exact j_zret (pc := 13) X (b2i_nar _) dX9_clear_13 ⟨by simp, rfl⟩

set_option maxHeartbeats 4000000 in
set_option maxRecDepth 100000 in
theorem mX9_lasts (l : Launch) (G : jG) (qx : Nat) (qy : Nat) (qc : Nat) (qp : Nat) (qr : Nat) (qm : Nat) (qg : Nat) (qu : Nat) (ql : Nat) (qf : Nat) (lt : Nat) (qu0 : Nat) (qu1 : Nat) (rn : Nat) (mo : Nat → Nat) (re : Nat → Bool) (fa : Int64) (fb : Int64) (m : Int32) (hrn : rn ≤ 16) (hmo : ∀ k, mo k ≤ 60) (hsh : ∀ t, t ≤ 60 → shA mo re rn t < 2 ^ 49 ∧ 0 < shB mo re rn t ∧ shB mo re rn t < 2 ^ 49) : MV l yX9_lasts wsX9_lasts ({ frames := 3, cells := 0, slots := 0, locals := 85 }) G [.ref qx, .int m] [(qx, .inr (9, [.ref qy, .ref qc, .ref qp, .ref qr, .ref qm, .ref qg, .ref qu, .ref ql, .ref qf, .int (nI lt)])), (qu, .inr (6, [.ref qu0, .ref qu1, .int (nI rn)])), kI G qu0 16 (nF mo), kZ G qu1 16 (bF re), (qf, .inr (1, [.long fa, .long fb]))] (some (.int (b2i ((sLasts rn mo re fa fb m).1)))) [(qx, .inr (9, [.ref qy, .ref qc, .ref qp, .ref qr, .ref qm, .ref qg, .ref qu, .ref ql, .ref qf, .int (nI ((sLasts rn mo re fa fb m).2.1))])), (qu, .inr (6, [.ref qu0, .ref qu1, .int (nI rn)])), kI G qu0 16 (nF mo), kZ G qu1 16 (bF re), (qf, .inr (1, [.long ((sLasts rn mo re fa fb m).2.2.1), .long ((sLasts rn mo re fa fb m).2.2.2)]))] := by
  refine MF.ofJ (cc := cX9_lasts) (maxL := 2) (ret := (some .boolean)) (own := RX9) (lv := [(0, .ref qx), (1, .int m)]) (by decide) rfl rfl (Nat.le_of_ble_eq_true rfl) rfl ?_
  intro κ X
  have i_X1 : ∀ w ∈ wsX10, w ∈ wsX9_lasts := by decide +kernel
  have i_X6 : ∀ w ∈ wsX60, w ∈ wsX9_lasts := by decide +kernel
  have i_X9 : ∀ w ∈ wsX90, w ∈ wsX9_lasts := by decide +kernel
  refine j_iload_n (pc := 0) X dX9_lasts_0 rfl 1 rfl ?_
  refine j_if_lt (pc := 1) X (x := m) (tgt := 10) dX9_lasts_1 (by decide) (fun c_1 => ?_) (fun c_1 => ?_)
  · skip
    refine j_aload_n (pc := 10) X dX9_lasts_10 rfl 0 rfl ?_
    refine j_iconst (pc := 11) X (v := nI 5) dX9_lasts_11 (by decide) ?_
    refine j_ci (pc := 12) X (ws' := [(qx, .inr (9, [.ref qy, .ref qc, .ref qp, .ref qr, .ref qm, .ref qg, .ref qu, .ref ql, .ref qf, .int (nI 5)])), (qu, .inr (6, [.ref qu0, .ref qu1, .int (nI rn)])), kI G qu0 16 (nF mo), kZ G qu1 16 (bF re), (qf, .inr (1, [.long fa, .long fb]))]) [0] rfl (j_rV X (b := qx) (As := [.int (nI 5)]) (ci := 9) (rest := []) 1 (mX9_finish l G qx qy qc qp qr qm qg qu ql qf lt 5 (by first | assumption | omega | exact ob_s (by omega) | exact ob_n)) gX9_lasts_X9_finish rfl rfl rfl (by decide +kernel) ⟨Nat.le_of_ble_eq_true rfl, Nat.le_of_ble_eq_true rfl⟩ rfl rfl 0 rfl [0] rfl rfl rfl (Nat.le_of_ble_eq_true rfl) dX9_lasts_12 ⟨Nat.le_of_ble_eq_true rfl, Nat.le_of_ble_eq_true rfl⟩) rfl rfl ?_
    have hs : sLasts rn mo re fa fb m = (decide (5 = 0), 5, fa, fb) := by first | (simp [sLasts, inC, c_1]; done) | (simp [sLasts, inC, tN, c_1]; done) | (simp [sLasts, inC, tN, hcj_v, c_1]; done) | (simp [sLasts, inC, tN, hcj_v, hck_v, c_1]; done) | (simp [sLasts, inC, tN, hcj_v, hck_v, hcm_v, c_1]; done)
    refine j_zret (pc := 15) X (b2i_nar _) dX9_lasts_15 ?_
    rw [hs]; exact ⟨rfl, rfl⟩
  · skip
    refine j_iload_n (pc := 4) X dX9_lasts_4 rfl 1 rfl ?_
    refine j_bipush (pc := 5) X (v := nI 60) dX9_lasts_5 (by decide) ?_
    refine j_icmp_le (pc := 7) X (x := m) (z := nI 60) (tgt := 16) dX9_lasts_7 (by decide) (fun c_7 => ?_) (fun c_7 => ?_)
    · skip
      obtain ⟨j, hj, rfl⟩ := rng_of c_1 c_7 (by decide); have hcj_v := nI_clamp (n := j) (by omega)
      refine j_aload_n (pc := 16) X dX9_lasts_16 rfl 0 rfl ?_
      refine j_get (pc := 17) X 9 i_X9 0 rfl rfl 6 (by decide) (by decide +kernel) rfl dX9_lasts_17 ?_
      refine j_getN (pc := 20) X 6 i_X6 1 rfl rfl 2 (by decide) (by decide +kernel) rfl dX9_lasts_20 ?_
      refine j_ifN_ne (pc := 23) X (a := rn) (by omega) (tgt := 33) dX9_lasts_23 (by decide) (fun c_23 => ?_) (fun c_23 => ?_)
      · skip
        refine j_aload_n (pc := 33) X dX9_lasts_33 rfl 0 rfl ?_
        refine j_get (pc := 34) X 9 i_X9 0 rfl rfl 6 (by decide) (by decide +kernel) rfl dX9_lasts_34 ?_
        refine j_iload_n (pc := 37) X dX9_lasts_37 rfl 1 rfl ?_
        refine j_aload_n (pc := 38) X dX9_lasts_38 rfl 0 rfl ?_
        refine j_get (pc := 39) X 9 i_X9 0 rfl rfl 8 (by decide) (by decide +kernel) rfl dX9_lasts_39 ?_
        refine j_cv (pc := 42) X (ws' := [(qx, .inr (9, [.ref qy, .ref qc, .ref qp, .ref qr, .ref qm, .ref qg, .ref qu, .ref ql, .ref qf, .int (nI lt)])), (qu, .inr (6, [.ref qu0, .ref qu1, .int (nI rn)])), kI G qu0 16 (nF mo), kZ G qu1 16 (bF re), (qf, .inr (1, [.long (lN (shA mo re rn j) / lN (gdl (lN (shA mo re rn j)) (shB mo re rn j))), .long (lN (shB mo re rn j) / lN (gdl (lN (shA mo re rn j)) (shB mo re rn j)))]))]) [1, 2, 3, 4] rfl (j_rVN X (b := qu) (As := [.int (nI j), .ref qf]) (ci := 6) (rest := []) 2 (mX6_shareBeyond l G qu qu0 qu1 rn mo re qf fa fb j (by first | assumption | omega | exact ob_s (by omega) | exact ob_n) (by first | assumption | omega | exact ob_s (by omega) | exact ob_n) (by first | assumption | omega | exact ob_s (by omega) | exact ob_n) (by exact (hsh j hj).1) (by exact (hsh j hj).2.1) (by exact (hsh j hj).2.2)) gX9_lasts_X6_shareBeyond_n236 rfl rfl rfl (by decide +kernel) (by decide +kernel) (by decide +kernel) (by decide +kernel) (by decide +kernel) ⟨Nat.le_of_ble_eq_true rfl, Nat.le_of_ble_eq_true rfl⟩ rfl rfl 0 rfl [1, 2, 3, 4] rfl rfl rfl (Nat.le_of_ble_eq_true rfl) dX9_lasts_42 ⟨Nat.le_of_ble_eq_true rfl, Nat.le_of_ble_eq_true rfl⟩) rfl rfl ?_
        refine j_aload_n (pc := 45) X dX9_lasts_45 rfl 0 rfl ?_
        refine j_iconst (pc := 46) X (v := nI 0) dX9_lasts_46 (by decide) ?_
        refine j_ci (pc := 47) X (ws' := [(qx, .inr (9, [.ref qy, .ref qc, .ref qp, .ref qr, .ref qm, .ref qg, .ref qu, .ref ql, .ref qf, .int (nI 0)])), (qu, .inr (6, [.ref qu0, .ref qu1, .int (nI rn)])), kI G qu0 16 (nF mo), kZ G qu1 16 (bF re), (qf, .inr (1, [.long (lN (shA mo re rn j) / lN (gdl (lN (shA mo re rn j)) (shB mo re rn j))), .long (lN (shB mo re rn j) / lN (gdl (lN (shA mo re rn j)) (shB mo re rn j)))]))]) [0] rfl (j_rV X (b := qx) (As := [.int (nI 0)]) (ci := 9) (rest := []) 1 (mX9_finish l G qx qy qc qp qr qm qg qu ql qf lt 0 (by first | assumption | omega | exact ob_s (by omega) | exact ob_n)) gX9_lasts_X9_finish rfl rfl rfl (by decide +kernel) ⟨Nat.le_of_ble_eq_true rfl, Nat.le_of_ble_eq_true rfl⟩ rfl rfl 0 rfl [0] rfl rfl rfl (Nat.le_of_ble_eq_true rfl) dX9_lasts_47 ⟨Nat.le_of_ble_eq_true rfl, Nat.le_of_ble_eq_true rfl⟩) rfl rfl ?_
        have hs : sLasts rn mo re fa fb (nI j) = (decide (0 = 0), 0, lN (shA mo re rn j) / lN (gdl (lN (shA mo re rn j)) (shB mo re rn j)), lN (shB mo re rn j) / lN (gdl (lN (shA mo re rn j)) (shB mo re rn j))) := by first | (simp [sLasts, inC, c_1, c_7, c_23]; done) | (simp [sLasts, inC, tN, c_1, c_7, c_23]; done) | (simp [sLasts, inC, tN, hcj_v, c_1, c_7, c_23]; done) | (simp [sLasts, inC, tN, hcj_v, hck_v, c_1, c_7, c_23]; done) | (simp [sLasts, inC, tN, hcj_v, hck_v, hcm_v, c_1, c_7, c_23]; done)
        refine j_zret (pc := 50) X (b2i_nar _) dX9_lasts_50 ?_
        rw [hs]; exact ⟨rfl, rfl⟩
      · skip
        refine j_aload_n (pc := 26) X dX9_lasts_26 rfl 0 rfl ?_
        refine j_bipush (pc := 27) X (v := nI 9) dX9_lasts_27 (by decide) ?_
        refine j_ci (pc := 29) X (ws' := [(qx, .inr (9, [.ref qy, .ref qc, .ref qp, .ref qr, .ref qm, .ref qg, .ref qu, .ref ql, .ref qf, .int (nI 9)])), (qu, .inr (6, [.ref qu0, .ref qu1, .int (nI rn)])), kI G qu0 16 (nF mo), kZ G qu1 16 (bF re), (qf, .inr (1, [.long fa, .long fb]))]) [0] rfl (j_rV X (b := qx) (As := [.int (nI 9)]) (ci := 9) (rest := []) 1 (mX9_finish l G qx qy qc qp qr qm qg qu ql qf lt 9 (by first | assumption | omega | exact ob_s (by omega) | exact ob_n)) gX9_lasts_X9_finish rfl rfl rfl (by decide +kernel) ⟨Nat.le_of_ble_eq_true rfl, Nat.le_of_ble_eq_true rfl⟩ rfl rfl 0 rfl [0] rfl rfl rfl (Nat.le_of_ble_eq_true rfl) dX9_lasts_29 ⟨Nat.le_of_ble_eq_true rfl, Nat.le_of_ble_eq_true rfl⟩) rfl rfl ?_
        have hs : sLasts rn mo re fa fb (nI j) = (decide (9 = 0), 9, fa, fb) := by first | (simp [sLasts, inC, c_1, c_7, c_23]; done) | (simp [sLasts, inC, tN, c_1, c_7, c_23]; done) | (simp [sLasts, inC, tN, hcj_v, c_1, c_7, c_23]; done) | (simp [sLasts, inC, tN, hcj_v, hck_v, c_1, c_7, c_23]; done) | (simp [sLasts, inC, tN, hcj_v, hck_v, hcm_v, c_1, c_7, c_23]; done)
        refine j_zret (pc := 32) X (b2i_nar _) dX9_lasts_32 ?_
        rw [hs]; exact ⟨rfl, rfl⟩
    · skip
      refine j_aload_n (pc := 10) X dX9_lasts_10 rfl 0 rfl ?_
      refine j_iconst (pc := 11) X (v := nI 5) dX9_lasts_11 (by decide) ?_
      refine j_ci (pc := 12) X (ws' := [(qx, .inr (9, [.ref qy, .ref qc, .ref qp, .ref qr, .ref qm, .ref qg, .ref qu, .ref ql, .ref qf, .int (nI 5)])), (qu, .inr (6, [.ref qu0, .ref qu1, .int (nI rn)])), kI G qu0 16 (nF mo), kZ G qu1 16 (bF re), (qf, .inr (1, [.long fa, .long fb]))]) [0] rfl (j_rV X (b := qx) (As := [.int (nI 5)]) (ci := 9) (rest := []) 1 (mX9_finish l G qx qy qc qp qr qm qg qu ql qf lt 5 (by first | assumption | omega | exact ob_s (by omega) | exact ob_n)) gX9_lasts_X9_finish rfl rfl rfl (by decide +kernel) ⟨Nat.le_of_ble_eq_true rfl, Nat.le_of_ble_eq_true rfl⟩ rfl rfl 0 rfl [0] rfl rfl rfl (Nat.le_of_ble_eq_true rfl) dX9_lasts_12 ⟨Nat.le_of_ble_eq_true rfl, Nat.le_of_ble_eq_true rfl⟩) rfl rfl ?_
      have hs : sLasts rn mo re fa fb m = (decide (5 = 0), 5, fa, fb) := by first | (simp [sLasts, inC, c_1, c_7]; done) | (simp [sLasts, inC, tN, c_1, c_7]; done) | (simp [sLasts, inC, tN, hcj_v, c_1, c_7]; done) | (simp [sLasts, inC, tN, hcj_v, hck_v, c_1, c_7]; done) | (simp [sLasts, inC, tN, hcj_v, hck_v, hcm_v, c_1, c_7]; done)
      refine j_zret (pc := 15) X (b2i_nar _) dX9_lasts_15 ?_
      rw [hs]; exact ⟨rfl, rfl⟩

set_option maxHeartbeats 4000000 in
set_option maxRecDepth 100000 in
theorem mX9_draw (l : Launch) (G : jG) (qx : Nat) (qy : Nat) (qc : Nat) (qp : Nat) (qr : Nat) (qm : Nat) (qg : Nat) (qu : Nat) (ql : Nat) (qf : Nat) (lt : Nat) (n : Int32) (k : Int32) (seed : Int32)  : MV l yX9_draw wsX9_draw ({ frames := 1, cells := 0, slots := 0, locals := 27 }) G [.ref qx, .int n, .int k, .int seed] [(qx, .inr (9, [.ref qy, .ref qc, .ref qp, .ref qr, .ref qm, .ref qg, .ref qu, .ref ql, .ref qf, .int (nI lt)]))] (some (.int ((sDraw n k seed).1))) [(qx, .inr (9, [.ref qy, .ref qc, .ref qp, .ref qr, .ref qm, .ref qg, .ref qu, .ref ql, .ref qf, .int (nI ((sDraw n k seed).2))]))] := by
  refine MF.ofJ (cc := cX9_draw) (maxL := 4) (ret := (some .int)) (own := RX9) (lv := [(0, .ref qx), (1, .int n), (2, .int k), (3, .int seed)]) (by decide) rfl rfl (Nat.le_of_ble_eq_true rfl) rfl ?_
  intro κ X
  have i_X9 : ∀ w ∈ wsX90, w ∈ wsX9_draw := by decide +kernel
  refine j_iload_n (pc := 0) X dX9_draw_0 rfl 1 rfl ?_
  refine j_iconst (pc := 1) X (v := nI 1) dX9_draw_1 (by decide) ?_
  refine j_icmp_lt (pc := 2) X (x := n) (z := nI 1) (tgt := 24) dX9_draw_2 (by decide) (fun c_2 => ?_) (fun c_2 => ?_)
  · skip
    refine j_aload_n (pc := 24) X dX9_draw_24 rfl 0 rfl ?_
    refine j_iconst (pc := 25) X (v := nI 5) dX9_draw_25 (by decide) ?_
    refine j_ci (pc := 26) X (ws' := [(qx, .inr (9, [.ref qy, .ref qc, .ref qp, .ref qr, .ref qm, .ref qg, .ref qu, .ref ql, .ref qf, .int (nI 5)]))]) [0] rfl (j_rV X (b := qx) (As := [.int (nI 5)]) (ci := 9) (rest := []) 1 (mX9_refused l G qx qy qc qp qr qm qg qu ql qf lt 5 ) gX9_draw_X9_refused rfl rfl rfl (by decide +kernel) ⟨Nat.le_of_ble_eq_true rfl, Nat.le_of_ble_eq_true rfl⟩ rfl rfl 0 rfl [0] rfl rfl rfl (Nat.le_of_ble_eq_true rfl) dX9_draw_26 ⟨Nat.le_of_ble_eq_true rfl, Nat.le_of_ble_eq_true rfl⟩) rfl rfl ?_
    have hs : sDraw n k seed = (oI none, 5) := by first | (simp [sDraw, in1, c_2]; done) | (simp [sDraw, in1, tN, hca_v, hcb_v, hcc_v, c_2]; done)
    refine j_iret (pc := 29) X dX9_draw_29 ?_
    rw [hs]; exact ⟨rfl, rfl⟩
  · skip
    refine j_iload_n (pc := 5) X dX9_draw_5 rfl 1 rfl ?_
    refine j_bipush (pc := 6) X (v := nI 16) dX9_draw_6 (by decide) ?_
    refine j_icmp_gt (pc := 8) X (x := n) (z := nI 16) (tgt := 24) dX9_draw_8 (by decide) (fun c_8 => ?_) (fun c_8 => ?_)
    · skip
      refine j_aload_n (pc := 24) X dX9_draw_24 rfl 0 rfl ?_
      refine j_iconst (pc := 25) X (v := nI 5) dX9_draw_25 (by decide) ?_
      refine j_ci (pc := 26) X (ws' := [(qx, .inr (9, [.ref qy, .ref qc, .ref qp, .ref qr, .ref qm, .ref qg, .ref qu, .ref ql, .ref qf, .int (nI 5)]))]) [0] rfl (j_rV X (b := qx) (As := [.int (nI 5)]) (ci := 9) (rest := []) 1 (mX9_refused l G qx qy qc qp qr qm qg qu ql qf lt 5 ) gX9_draw_X9_refused rfl rfl rfl (by decide +kernel) ⟨Nat.le_of_ble_eq_true rfl, Nat.le_of_ble_eq_true rfl⟩ rfl rfl 0 rfl [0] rfl rfl rfl (Nat.le_of_ble_eq_true rfl) dX9_draw_26 ⟨Nat.le_of_ble_eq_true rfl, Nat.le_of_ble_eq_true rfl⟩) rfl rfl ?_
      have hs : sDraw n k seed = (oI none, 5) := by first | (simp [sDraw, in1, c_2, c_8]; done) | (simp [sDraw, in1, tN, hca_v, hcb_v, hcc_v, c_2, c_8]; done)
      refine j_iret (pc := 29) X dX9_draw_29 ?_
      rw [hs]; exact ⟨rfl, rfl⟩
    · skip
      have c_8b := Int32.not_lt.mp c_8
      refine j_iload_n (pc := 11) X dX9_draw_11 rfl 2 rfl ?_
      refine j_if_lt (pc := 12) X (x := k) (tgt := 24) dX9_draw_12 (by decide) (fun c_12 => ?_) (fun c_12 => ?_)
      · skip
        refine j_aload_n (pc := 24) X dX9_draw_24 rfl 0 rfl ?_
        refine j_iconst (pc := 25) X (v := nI 5) dX9_draw_25 (by decide) ?_
        refine j_ci (pc := 26) X (ws' := [(qx, .inr (9, [.ref qy, .ref qc, .ref qp, .ref qr, .ref qm, .ref qg, .ref qu, .ref ql, .ref qf, .int (nI 5)]))]) [0] rfl (j_rV X (b := qx) (As := [.int (nI 5)]) (ci := 9) (rest := []) 1 (mX9_refused l G qx qy qc qp qr qm qg qu ql qf lt 5 ) gX9_draw_X9_refused rfl rfl rfl (by decide +kernel) ⟨Nat.le_of_ble_eq_true rfl, Nat.le_of_ble_eq_true rfl⟩ rfl rfl 0 rfl [0] rfl rfl rfl (Nat.le_of_ble_eq_true rfl) dX9_draw_26 ⟨Nat.le_of_ble_eq_true rfl, Nat.le_of_ble_eq_true rfl⟩) rfl rfl ?_
        have hs : sDraw n k seed = (oI none, 5) := by first | (simp [sDraw, in1, c_2, c_8, c_12]; done) | (simp [sDraw, in1, tN, hca_v, hcb_v, hcc_v, c_2, c_8, c_12]; done)
        refine j_iret (pc := 29) X dX9_draw_29 ?_
        rw [hs]; exact ⟨rfl, rfl⟩
      · skip
        refine j_iload_n (pc := 15) X dX9_draw_15 rfl 2 rfl ?_
        refine j_iload_n (pc := 16) X dX9_draw_16 rfl 1 rfl ?_
        refine j_icmp_gt (pc := 17) X (x := k) (z := n) (tgt := 24) dX9_draw_17 (by decide) (fun c_17 => ?_) (fun c_17 => ?_)
        · skip
          refine j_aload_n (pc := 24) X dX9_draw_24 rfl 0 rfl ?_
          refine j_iconst (pc := 25) X (v := nI 5) dX9_draw_25 (by decide) ?_
          refine j_ci (pc := 26) X (ws' := [(qx, .inr (9, [.ref qy, .ref qc, .ref qp, .ref qr, .ref qm, .ref qg, .ref qu, .ref ql, .ref qf, .int (nI 5)]))]) [0] rfl (j_rV X (b := qx) (As := [.int (nI 5)]) (ci := 9) (rest := []) 1 (mX9_refused l G qx qy qc qp qr qm qg qu ql qf lt 5 ) gX9_draw_X9_refused rfl rfl rfl (by decide +kernel) ⟨Nat.le_of_ble_eq_true rfl, Nat.le_of_ble_eq_true rfl⟩ rfl rfl 0 rfl [0] rfl rfl rfl (Nat.le_of_ble_eq_true rfl) dX9_draw_26 ⟨Nat.le_of_ble_eq_true rfl, Nat.le_of_ble_eq_true rfl⟩) rfl rfl ?_
          have hs : sDraw n k seed = (oI none, 5) := by first | (simp [sDraw, in1, c_2, c_8, c_12, c_17]; done) | (simp [sDraw, in1, tN, hca_v, hcb_v, hcc_v, c_2, c_8, c_12, c_17]; done)
          refine j_iret (pc := 29) X dX9_draw_29 ?_
          rw [hs]; exact ⟨rfl, rfl⟩
        · skip
          refine j_iload_n (pc := 20) X dX9_draw_20 rfl 3 rfl ?_
          refine j_if_ge (pc := 21) X (x := seed) (tgt := 30) dX9_draw_21 (by decide) (fun c_21 => ?_) (fun c_21 => ?_)
          · skip
            obtain ⟨a, ha1, ha, rfl⟩ := rng_of1 c_2 (Int32.not_lt.mp c_8) (by decide); obtain ⟨b, hb, rfl⟩ := nI_of c_12; obtain ⟨cc_, hcc_w, rfl⟩ := nI_of (Int32.not_lt.mpr c_21); have hca_v := nI_clamp (n := a) (by omega); have hcb_v := nI_clamp (n := b) (by omega); have hcc_v := nI_clamp (n := cc_) (by omega)
            refine j_aload_n (pc := 30) X dX9_draw_30 rfl 0 rfl ?_
            refine j_iload_n (pc := 31) X dX9_draw_31 rfl 1 rfl ?_
            refine j_iload_n (pc := 32) X dX9_draw_32 rfl 2 rfl ?_
            refine j_iload_n (pc := 33) X dX9_draw_33 rfl 3 rfl ?_
            refine j_ciP (pc := 34) X [] rfl (j_rSN X (As := [.int (nI a), .int (nI b), .int (nI cc_)]) (rest := [.ref qx]) 3 (mX8_drawnSet l G a b cc_ (by first | assumption | omega | exact ob_s (by omega) | exact ob_n)) gX9_draw_X8_drawnSet_n260 rfl rfl rfl (by decide +kernel) (by decide +kernel) (by decide +kernel) (by decide +kernel) ⟨Nat.le_of_ble_eq_true rfl, Nat.le_of_ble_eq_true rfl⟩ rfl [] rfl rfl rfl (Nat.le_of_ble_eq_true rfl) dX9_draw_34 ⟨Nat.le_of_ble_eq_true rfl, Nat.le_of_ble_eq_true rfl⟩) ?_
            refine j_ci (pc := 37) X (ws' := [(qx, .inr (9, [.ref qy, .ref qc, .ref qp, .ref qr, .ref qm, .ref qg, .ref qu, .ref ql, .ref qf, .int (nI 0)]))]) [0] rfl (j_rV X (b := qx) (As := [.int (drF a a (nI cc_).toInt64 (nI b) (nI 0))]) (ci := 9) (rest := []) 1 (mX9_answered l G qx qy qc qp qr qm qg qu ql qf lt (drF a a (nI cc_).toInt64 (nI b) (nI 0)) ) gX9_draw_X9_answered rfl rfl rfl (by decide +kernel) ⟨Nat.le_of_ble_eq_true rfl, Nat.le_of_ble_eq_true rfl⟩ rfl rfl 0 rfl [0] rfl rfl rfl (Nat.le_of_ble_eq_true rfl) dX9_draw_37 ⟨Nat.le_of_ble_eq_true rfl, Nat.le_of_ble_eq_true rfl⟩) rfl rfl ?_
            have hs : sDraw (nI a) (nI b) (nI cc_) = (drF a a (nI cc_).toInt64 (nI b) (nI 0), 0) := by first | (simp [sDraw, in1, c_2, c_8, c_12, c_17, c_21]; done) | (simp [sDraw, in1, tN, hca_v, hcb_v, hcc_v, c_2, c_8, c_12, c_17, c_21]; done)
            refine j_iret (pc := 40) X dX9_draw_40 ?_
            rw [hs]; exact ⟨rfl, rfl⟩
          · skip
            refine j_aload_n (pc := 24) X dX9_draw_24 rfl 0 rfl ?_
            refine j_iconst (pc := 25) X (v := nI 5) dX9_draw_25 (by decide) ?_
            refine j_ci (pc := 26) X (ws' := [(qx, .inr (9, [.ref qy, .ref qc, .ref qp, .ref qr, .ref qm, .ref qg, .ref qu, .ref ql, .ref qf, .int (nI 5)]))]) [0] rfl (j_rV X (b := qx) (As := [.int (nI 5)]) (ci := 9) (rest := []) 1 (mX9_refused l G qx qy qc qp qr qm qg qu ql qf lt 5 ) gX9_draw_X9_refused rfl rfl rfl (by decide +kernel) ⟨Nat.le_of_ble_eq_true rfl, Nat.le_of_ble_eq_true rfl⟩ rfl rfl 0 rfl [0] rfl rfl rfl (Nat.le_of_ble_eq_true rfl) dX9_draw_26 ⟨Nat.le_of_ble_eq_true rfl, Nat.le_of_ble_eq_true rfl⟩) rfl rfl ?_
            have hs : sDraw n k seed = (oI none, 5) := by first | (simp [sDraw, in1, c_2, c_8, c_12, c_17, c_21]; done) | (simp [sDraw, in1, tN, hca_v, hcb_v, hcc_v, c_2, c_8, c_12, c_17, c_21]; done)
            refine j_iret (pc := 29) X dX9_draw_29 ?_
            rw [hs]; exact ⟨rfl, rfl⟩

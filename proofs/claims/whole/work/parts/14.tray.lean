set_option maxHeartbeats 4000000 in
set_option maxRecDepth 100000 in
theorem mX7_make (l : Launch) (G : jG) (qt : Nat) (qn : Nat) (ms : Bool) (so : Nat) (ln : Nat) (u : Nat → Int64) (s2 : Nat) (m2 : Nat)  : MV l yX7_make wsX7_make ({ frames := 1, cells := 0, slots := 0, locals := 24 }) G [.ref qt, .int (nI s2), .int (nI m2)] [(qt, .inr (7, [.ref qn, .int (b2i ms), .int (nI so), .int (nI ln)])), kJ G qn 40 u] (none) [(qt, .inr (7, [.ref qn, .int (b2i false), .int (nI s2), .int (nI m2)])), kJ G qn 40 (fil 0 u 40)] := by
  refine MF.ofJ (cc := cX7_make) (maxL := 3) (ret := none) (own := RX7) (lv := [(0, .ref qt), (1, .int (nI s2)), (2, .int (nI m2))]) (by decide) rfl rfl (Nat.le_of_ble_eq_true rfl) rfl ?_
  intro κ X
  have i_X7 : ∀ w ∈ wsX70, w ∈ wsX7_make := by decide +kernel
  refine j_aload_n (pc := 0) X dX7_make_0 rfl 0 rfl ?_
  refine j_iconst (pc := 1) X (v := nI 0) dX7_make_1 (by decide) ?_
  refine j_put (pc := 2) X (v := .int (nI 0)) (ws' := [(qt, .inr (7, [.ref qn, .int (b2i false), .int (nI so), .int (nI ln)])), kJ G qn 40 u]) 7 i_X7 tyX7 tyX7_ok nmX7 0 rfl rfl 1 (by decide) (by decide +kernel) (by decide) (rfl) (rfl) (Nat.le_of_ble_eq_true rfl) dX7_make_2 rfl ?_
  refine j_aload_n (pc := 5) X dX7_make_5 rfl 0 rfl ?_
  refine j_iload_n (pc := 6) X dX7_make_6 rfl 1 rfl ?_
  refine j_put (pc := 7) X (v := .int (nI s2)) (ws' := [(qt, .inr (7, [.ref qn, .int (b2i false), .int (nI s2), .int (nI ln)])), kJ G qn 40 u]) 7 i_X7 tyX7 tyX7_ok nmX7 0 rfl rfl 2 (by decide) (by decide +kernel) (by decide) (rfl) (rfl) (Nat.le_of_ble_eq_true rfl) dX7_make_7 rfl ?_
  refine j_aload_n (pc := 10) X dX7_make_10 rfl 0 rfl ?_
  refine j_iload_n (pc := 11) X dX7_make_11 rfl 2 rfl ?_
  refine j_put (pc := 12) X (v := .int (nI m2)) (ws' := [(qt, .inr (7, [.ref qn, .int (b2i false), .int (nI s2), .int (nI m2)])), kJ G qn 40 u]) 7 i_X7 tyX7 tyX7_ok nmX7 0 rfl rfl 3 (by decide) (by decide +kernel) (by decide) (rfl) (rfl) (Nat.le_of_ble_eq_true rfl) dX7_make_12 rfl ?_
  refine j_aload_n (pc := 15) X dX7_make_15 rfl 0 rfl ?_
  refine j_get (pc := 16) X 7 i_X7 0 rfl rfl 0 (by decide) (by decide +kernel) rfl dX7_make_16 ?_
  refine j_lconst (pc := 19) X (v := 0) dX7_make_19 (by decide) ?_
  refine j_cv (pc := 20) X (ws' := [(qt, .inr (7, [.ref qn, .int (b2i false), .int (nI s2), .int (nI m2)])), kJ G qn 40 (fil 0 u 40)]) [1] rfl (j_rS X (As := [.ref qn, .long 0]) (rest := []) 2 (mJ7_fill_d0a16 l G qn 40 u 0 (by first | assumption | omega | exact ob_s (by omega) | exact ob_n)) gX7_make_J7_fill_d0a16 rfl rfl rfl (by decide +kernel) ⟨Nat.le_of_ble_eq_true rfl, Nat.le_of_ble_eq_true rfl⟩ rfl [1] rfl rfl rfl (Nat.le_of_ble_eq_true rfl) dX7_make_20 ⟨Nat.le_of_ble_eq_true rfl, Nat.le_of_ble_eq_true rfl⟩) rfl rfl ?_
  exact j_vret (pc := 23) X dX7_make_23 ⟨rfl, rfl⟩

set_option maxHeartbeats 4000000 in
set_option maxRecDepth 100000 in
theorem mX7_hasPlaces (l : Launch) (G : jG) (qt : Nat) (qn : Nat) (ms : Bool) (so : Nat) (ln : Nat) (x : Int32) (z : Int32)  : MV l yX7_hasPlaces wsX7_hasPlaces ({ frames := 0, cells := 0, slots := 0, locals := 0 }) G [.ref qt, .int x, .int z] [(qt, .inr (7, [.ref qn, .int (b2i ms), .int (nI so), .int (nI ln)]))] (some (.int (b2i (hasP x z ln)))) [(qt, .inr (7, [.ref qn, .int (b2i ms), .int (nI so), .int (nI ln)]))] := by
  refine MF.ofJ (cc := cX7_hasPlaces) (maxL := 3) (ret := (some .boolean)) (own := RX7) (lv := [(0, .ref qt), (1, .int x), (2, .int z)]) (by decide) rfl rfl (Nat.le_of_ble_eq_true rfl) rfl ?_
  intro κ X
  have i_X7 : ∀ w ∈ wsX70, w ∈ wsX7_hasPlaces := by decide +kernel
  refine j_iload_n (pc := 0) X dX7_hasPlaces_0 rfl 1 rfl ?_
  refine j_if_lt (pc := 1) X (x := x) (tgt := 26) dX7_hasPlaces_1 (by decide) (fun c_1 => ?_) (fun c_1 => ?_)
  · skip
    refine j_iconst (pc := 26) X (v := nI 0) dX7_hasPlaces_26 (by decide) ?_
    exact j_zret (pc := 27) X (rfl) dX7_hasPlaces_27 ⟨r0 (by simp [hasP, c_1]), rfl⟩
  · skip
    refine j_iload_n (pc := 4) X dX7_hasPlaces_4 rfl 1 rfl ?_
    refine j_aload_n (pc := 5) X dX7_hasPlaces_5 rfl 0 rfl ?_
    refine j_get (pc := 6) X 7 i_X7 0 rfl rfl 3 (by decide) (by decide +kernel) rfl dX7_hasPlaces_6 ?_
    refine j_icmp_gt (pc := 9) X (x := x) (z := nI ln) (tgt := 26) dX7_hasPlaces_9 (by decide) (fun c_9 => ?_) (fun c_9 => ?_)
    · skip
      refine j_iconst (pc := 26) X (v := nI 0) dX7_hasPlaces_26 (by decide) ?_
      exact j_zret (pc := 27) X (rfl) dX7_hasPlaces_27 ⟨r0 (by simp [hasP, c_1, c_9]), rfl⟩
    · skip
      refine j_iload_n (pc := 12) X dX7_hasPlaces_12 rfl 2 rfl ?_
      refine j_aload_n (pc := 13) X dX7_hasPlaces_13 rfl 0 rfl ?_
      refine j_get (pc := 14) X 7 i_X7 0 rfl rfl 3 (by decide) (by decide +kernel) rfl dX7_hasPlaces_14 ?_
      refine j_iload_n (pc := 17) X dX7_hasPlaces_17 rfl 1 rfl ?_
      refine j_isub (pc := 18) X dX7_hasPlaces_18 ?_
      refine j_icmp_gt (pc := 19) X (x := z) (z := (nI ln) - x) (tgt := 26) dX7_hasPlaces_19 (by decide) (fun c_19 => ?_) (fun c_19 => ?_)
      · skip
        refine j_iconst (pc := 26) X (v := nI 0) dX7_hasPlaces_26 (by decide) ?_
        exact j_zret (pc := 27) X (rfl) dX7_hasPlaces_27 ⟨r0 (by simp [hasP, c_1, c_9, c_19]), rfl⟩
      · skip
        refine j_iconst (pc := 22) X (v := nI 1) dX7_hasPlaces_22 (by decide) ?_
        refine j_goto (pc := 23) X (tgt := 27) dX7_hasPlaces_23 (by decide) ?_
        exact j_zret (pc := 27) X (rfl) dX7_hasPlaces_27 ⟨r1 (by simp [hasP, c_1, c_9, c_19]), rfl⟩

set_option maxHeartbeats 4000000 in
set_option maxRecDepth 100000 in
theorem mX7_cut (l : Launch) (G : jG) (qt : Nat) (qn : Nat) (ms : Bool) (so : Nat) (ln : Nat) (v : Int64) (hso : so < 4) : MV l yX7_cut wsX7_cut ({ frames := 0, cells := 0, slots := 0, locals := 0 }) G [.ref qt, .long v] [(qt, .inr (7, [.ref qn, .int (b2i ms), .int (nI so), .int (nI ln)]))] (some (.long (cutL so v))) [(qt, .inr (7, [.ref qn, .int (b2i ms), .int (nI so), .int (nI ln)]))] := by
  refine MF.ofJ (cc := cX7_cut) (maxL := 3) (ret := (some .long)) (own := RX7) (lv := [(0, .ref qt), (1, .long v)]) (by decide) rfl rfl (Nat.le_of_ble_eq_true rfl) rfl ?_
  intro κ X
  have i_X7 : ∀ w ∈ wsX70, w ∈ wsX7_cut := by decide +kernel
  rcases (by omega : so = 0 ∨ so = 1 ∨ so = 2 ∨ so = 3) with rfl | rfl | rfl | rfl
  · skip
    refine j_aload_n (pc := 0) X dX7_cut_0 rfl 0 rfl ?_
    refine j_get (pc := 1) X 7 i_X7 0 rfl rfl 2 (by decide) (by decide +kernel) rfl dX7_cut_1 ?_
    refine j_tswI (pc := 4) X (tgt := 32) (off := 28) dX7_cut_4 (by decide) (by decide) (by decide) (by decide) ?_
    refine j_lload_n (pc := 32) X dX7_cut_32 rfl 1 rfl ?_
    refine j_l2i (pc := 33) X (v := v.toInt32) dX7_cut_33 (rfl) ?_
    refine j_i2b (pc := 34) X (v := v.toInt32.toInt8.toInt32) dX7_cut_34 (rfl) ?_
    refine j_i2l (pc := 35) X (v := v.toInt32.toInt8.toInt32.toInt64) dX7_cut_35 (rfl) ?_
    exact j_lret (pc := 36) X dX7_cut_36 ⟨by rfl, by rfl⟩
  · skip
    refine j_aload_n (pc := 0) X dX7_cut_0 rfl 0 rfl ?_
    refine j_get (pc := 1) X 7 i_X7 0 rfl rfl 2 (by decide) (by decide +kernel) rfl dX7_cut_1 ?_
    refine j_tswI (pc := 4) X (tgt := 37) (off := 33) dX7_cut_4 (by decide) (by decide) (by decide) (by decide) ?_
    refine j_lload_n (pc := 37) X dX7_cut_37 rfl 1 rfl ?_
    refine j_l2i (pc := 38) X (v := v.toInt32) dX7_cut_38 (rfl) ?_
    refine j_i2s (pc := 39) X (v := v.toInt32.toInt16.toInt32) dX7_cut_39 (rfl) ?_
    refine j_i2l (pc := 40) X (v := v.toInt32.toInt16.toInt32.toInt64) dX7_cut_40 (rfl) ?_
    exact j_lret (pc := 41) X dX7_cut_41 ⟨by rfl, by rfl⟩
  · skip
    refine j_aload_n (pc := 0) X dX7_cut_0 rfl 0 rfl ?_
    refine j_get (pc := 1) X 7 i_X7 0 rfl rfl 2 (by decide) (by decide +kernel) rfl dX7_cut_1 ?_
    refine j_tswI (pc := 4) X (tgt := 42) (off := 38) dX7_cut_4 (by decide) (by decide) (by decide) (by decide) ?_
    refine j_lload_n (pc := 42) X dX7_cut_42 rfl 1 rfl ?_
    refine j_l2i (pc := 43) X (v := v.toInt32) dX7_cut_43 (rfl) ?_
    refine j_i2l (pc := 44) X (v := v.toInt32.toInt64) dX7_cut_44 (rfl) ?_
    exact j_lret (pc := 45) X dX7_cut_45 ⟨by rfl, by rfl⟩
  · skip
    refine j_aload_n (pc := 0) X dX7_cut_0 rfl 0 rfl ?_
    refine j_get (pc := 1) X 7 i_X7 0 rfl rfl 2 (by decide) (by decide +kernel) rfl dX7_cut_1 ?_
    refine j_tswO (pc := 4) X (tgt := 46) dX7_cut_4 (by decide) (by decide) ?_
    refine j_lload_n (pc := 46) X dX7_cut_46 rfl 1 rfl ?_
    exact j_lret (pc := 47) X dX7_cut_47 ⟨by rfl, by rfl⟩

set_option maxHeartbeats 4000000 in
set_option maxRecDepth 100000 in
theorem mX7_put (l : Launch) (G : jG) (qt : Nat) (qn : Nat) (ms : Bool) (so : Nat) (ln : Nat) (u : Nat → Int64) (k : Nat) (v : Int64) (hso : so < 4) (hk : k < 40) : MV l yX7_put wsX7_put ({ frames := 1, cells := 0, slots := 0, locals := 22 }) G [.ref qt, .int (nI k), .long v] [(qt, .inr (7, [.ref qn, .int (b2i ms), .int (nI so), .int (nI ln)])), kJ G qn 40 u] (none) [(qt, .inr (7, [.ref qn, .int (b2i ms), .int (nI so), .int (nI ln)])), kJ G qn 40 (va_up u k (cutL so v))] := by
  refine MF.ofJ (cc := cX7_put) (maxL := 4) (ret := none) (own := RX7) (lv := [(0, .ref qt), (1, .int (nI k)), (2, .long v)]) (by decide) rfl rfl (Nat.le_of_ble_eq_true rfl) rfl ?_
  intro κ X
  have i_X7 : ∀ w ∈ wsX70, w ∈ wsX7_put := by decide +kernel
  refine j_aload_n (pc := 0) X dX7_put_0 rfl 0 rfl ?_
  refine j_get (pc := 1) X 7 i_X7 0 rfl rfl 0 (by decide) (by decide +kernel) rfl dX7_put_1 ?_
  refine j_iload_n (pc := 4) X dX7_put_4 rfl 1 rfl ?_
  refine j_aload_n (pc := 5) X dX7_put_5 rfl 0 rfl ?_
  refine j_lload_n (pc := 6) X dX7_put_6 rfl 2 rfl ?_
  refine j_clP (pc := 7) X [0] rfl (j_rV X (b := qt) (As := [.long v]) (ci := 7) (rest := [.int (nI k), .ref qn]) 1 (mX7_cut l G qt qn ms so ln v (by first | assumption | omega | exact ob_s (by omega) | exact ob_n)) gX7_put_X7_cut rfl rfl rfl (by decide +kernel) ⟨Nat.le_of_ble_eq_true rfl, Nat.le_of_ble_eq_true rfl⟩ rfl rfl 0 rfl [0] rfl rfl rfl (Nat.le_of_ble_eq_true rfl) dX7_put_7 ⟨Nat.le_of_ble_eq_true rfl, Nat.le_of_ble_eq_true rfl⟩) ?_
  refine j_last (pc := 10) X (f2 := (va_up u k (cutL so v))) (ws' := [(qt, .inr (7, [.ref qn, .int (b2i ms), .int (nI so), .int (nI ln)])), kJ G qn 40 (va_up u k (cutL so v))]) 1 rfl (vp_in_nI (by omega) (by decide)) dX7_put_10 (by rw [nI_clamp (by omega)]; exact lF_up _ _ _) rfl ?_
  exact j_vret (pc := 11) X dX7_put_11 ⟨rfl, rfl⟩

set_option maxHeartbeats 4000000 in
set_option maxRecDepth 100000 in
theorem mX7_hasOutcomes_L2 (l : Launch) (G : jG) (qt : Nat) (qn : Nat) (ms : Bool) (so : Nat) (ln : Nat) (u : Nat → Int64) (n : Nat) (hn : n ≤ 40) (κ : jK) (X : CX κ l yX7_hasOutcomes cX7_hasOutcomes 3 RX7 wsX7_hasOutcomes (some .boolean) ({ frames := 0, cells := 0, slots := 0, locals := 0 }) G (va_A [(qt, .inr (7, [.ref qn, .int (b2i ms), .int (nI so), .int (nI ln)])), kJ G qn 40 u] (js κ).heap.size))    : ∀ (fu : Nat) (i : Nat) (hi : i ≤ n) (ho : outc u i = true) (_ : n - i < fu), JJ κ 3 G (va_A [(qt, .inr (7, [.ref qn, .int (b2i ms), .int (nI so), .int (nI ln)])), kJ G qn 40 u] (js κ).heap.size) 0 0 (jQ κ G [(qt, .inr (7, [.ref qn, .int (b2i ms), .int (nI so), .int (nI ln)])), kJ G qn 40 u] (fun r w' => r = some (.int (b2i (outc u n))) ∧ w' = [(qt, .inr (7, [.ref qn, .int (b2i ms), .int (nI so), .int (nI ln)])), kJ G qn 40 u]) 0 0) 2 [(0, .ref qt), (1, .int (nI n)), (2, .int (nI i))] [] [(qt, .inr (7, [.ref qn, .int (b2i ms), .int (nI so), .int (nI ln)])), kJ G qn 40 u] := by
  have i_X7 : ∀ w ∈ wsX70, w ∈ wsX7_hasOutcomes := by decide +kernel
  intro fu
  induction fu with
  | zero => intro i hi ho hms; exact absurd hms (Nat.not_lt_zero _)
  | succ fu ih =>
    intro i hi ho hms
    refine j_iload_n (pc := 2) X dX7_hasOutcomes_2 rfl 2 rfl ?_
    refine j_iload_n (pc := 3) X dX7_hasOutcomes_3 rfl 1 rfl ?_
    refine j_icmpN_ge (pc := 4) X (a := i) (b := n) (by omega) (by omega) (tgt := 39) dX7_hasOutcomes_4 (by decide) (fun c_4 => ?_) (fun c_4 => ?_)
    · skip
      refine j_iconst (pc := 39) X (v := nI 1) dX7_hasOutcomes_39 (by decide) ?_
      exact j_zret (pc := 40) X (rfl) dX7_hasOutcomes_40 ⟨r1 (by rw [show n = i by omega]; exact ho), rfl⟩
    · skip
      refine j_aload_n (pc := 7) X dX7_hasOutcomes_7 rfl 0 rfl ?_
      refine j_get (pc := 8) X 7 i_X7 0 rfl rfl 0 (by decide) (by decide +kernel) rfl dX7_hasOutcomes_8 ?_
      refine j_iload_n (pc := 11) X dX7_hasOutcomes_11 rfl 2 rfl ?_
      refine j_lald (pc := 12) X 1 rfl (vp_in_nI (by omega) (by decide)) (v := u i) (congrArg u (nI_clamp (by omega))) dX7_hasOutcomes_12 ?_
      refine j_lconst (pc := 13) X (v := 0) dX7_hasOutcomes_13 (by decide) ?_
      refine j_lcmp (pc := 14) X dX7_hasOutcomes_14 ?_
      refine j_ifc_lt (pc := 15) X (tgt := 31) dX7_hasOutcomes_15 (by decide) (fun c_15 => ?_) (fun c_15 => ?_)
      · skip
        refine j_iconst (pc := 31) X (v := nI 0) dX7_hasOutcomes_31 (by decide) ?_
        exact j_zret (pc := 32) X (rfl) dX7_hasOutcomes_32 ⟨r0 (by exact outc_bad (by first | exact Or.inl c_15 | exact Or.inr c_28) n (by omega)), rfl⟩
      · skip
        refine j_aload_n (pc := 18) X dX7_hasOutcomes_18 rfl 0 rfl ?_
        refine j_get (pc := 19) X 7 i_X7 0 rfl rfl 0 (by decide) (by decide +kernel) rfl dX7_hasOutcomes_19 ?_
        refine j_iload_n (pc := 22) X dX7_hasOutcomes_22 rfl 2 rfl ?_
        refine j_lald (pc := 23) X 1 rfl (vp_in_nI (by omega) (by decide)) (v := u i) (congrArg u (nI_clamp (by omega))) dX7_hasOutcomes_23 ?_
        refine j_ldc2 (pc := 24) X (v := 100) dX7_hasOutcomes_24 (by decide +kernel) ?_
        refine j_lcmp (pc := 27) X dX7_hasOutcomes_27 ?_
        refine j_ifc_le (pc := 28) X (tgt := 33) dX7_hasOutcomes_28 (by decide) (fun c_28 => ?_) (fun c_28 => ?_)
        · skip
          refine j_iinc (pc := 33) X (v := nI (i + 1)) (lv' := [(2, .int (nI (i + 1))), (0, .ref qt), (1, .int (nI n))]) dX7_hasOutcomes_33 2 rfl (nI_1 _) (by decide) rfl ?_
          refine j_goto (pc := 36) X (tgt := 2) dX7_hasOutcomes_36 (by decide) ?_
          refine j_lv [1, 2, 0] (lv' := [(0, .ref qt), (1, .int (nI n)), (2, .int (nI (i + 1)))]) rfl ?_
          exact ih (i + 1) (by omega) (by simp [outc, ho, c_4, c_15, c_28]) (by omega)
        · skip
          refine j_iconst (pc := 31) X (v := nI 0) dX7_hasOutcomes_31 (by decide) ?_
          exact j_zret (pc := 32) X (rfl) dX7_hasOutcomes_32 ⟨r0 (by exact outc_bad (by first | exact Or.inl c_15 | exact Or.inr c_28) n (by omega)), rfl⟩
set_option maxHeartbeats 4000000 in
set_option maxRecDepth 100000 in
theorem mX7_hasOutcomes (l : Launch) (G : jG) (qt : Nat) (qn : Nat) (ms : Bool) (so : Nat) (ln : Nat) (u : Nat → Int64) (n : Nat) (hn : n ≤ 40) : MV l yX7_hasOutcomes wsX7_hasOutcomes ({ frames := 0, cells := 0, slots := 0, locals := 0 }) G [.ref qt, .int (nI n)] [(qt, .inr (7, [.ref qn, .int (b2i ms), .int (nI so), .int (nI ln)])), kJ G qn 40 u] (some (.int (b2i (outc u n)))) [(qt, .inr (7, [.ref qn, .int (b2i ms), .int (nI so), .int (nI ln)])), kJ G qn 40 u] := by
  refine MF.ofJ (cc := cX7_hasOutcomes) (maxL := 3) (ret := (some .boolean)) (own := RX7) (lv := [(0, .ref qt), (1, .int (nI n))]) (by decide) rfl rfl (Nat.le_of_ble_eq_true rfl) rfl ?_
  intro κ X
  have i_X7 : ∀ w ∈ wsX70, w ∈ wsX7_hasOutcomes := by decide +kernel
  refine j_iconst (pc := 0) X (v := nI 0) dX7_hasOutcomes_0 (by decide) ?_
  refine j_istore_n (pc := 1) X (lv' := [(2, .int (nI 0)), (0, .ref qt), (1, .int (nI n))]) dX7_hasOutcomes_1 rfl (by decide) rfl ?_
  refine j_lv [1, 2, 0] (lv' := [(0, .ref qt), (1, .int (nI n)), (2, .int (nI 0))]) rfl ?_
  exact mX7_hasOutcomes_L2 l G qt qn ms so ln u n hn κ X    (n - 0 + 1) 0 (by omega) (by rfl) (Nat.lt_succ_self _)

set_option maxHeartbeats 4000000 in
set_option maxRecDepth 100000 in
theorem mX6_add (l : Launch) (G : jG) (qu : Nat) (qu0 : Nat) (qu1 : Nat) (rn : Nat) (mo : Nat → Nat) (re : Nat → Bool) (m : Nat) (en : Bool) (hrn : rn < 16) : MV l yX6_add wsX6_add ({ frames := 0, cells := 0, slots := 0, locals := 0 }) G [.ref qu, .int (nI m), .int (b2i en)] [(qu, .inr (6, [.ref qu0, .ref qu1, .int (nI rn)])), kI G qu0 16 (nF mo), kZ G qu1 16 (bF re)] (none) [(qu, .inr (6, [.ref qu0, .ref qu1, .int (nI (rn + 1))])), kI G qu0 16 (nF (va_up mo rn m)), kZ G qu1 16 (bF (va_up re rn en))] := by
  refine MF.ofJ (cc := cX6_add) (maxL := 3) (ret := none) (own := RX6) (lv := [(0, .ref qu), (1, .int (nI m)), (2, .int (b2i en))]) (by decide) rfl rfl (Nat.le_of_ble_eq_true rfl) rfl ?_
  intro κ X
  have i_X6 : ∀ w ∈ wsX60, w ∈ wsX6_add := by decide +kernel
  refine j_aload_n (pc := 0) X dX6_add_0 rfl 0 rfl ?_
  refine j_get (pc := 1) X 6 i_X6 0 rfl rfl 0 (by decide) (by decide +kernel) rfl dX6_add_1 ?_
  refine j_aload_n (pc := 4) X dX6_add_4 rfl 0 rfl ?_
  refine j_get (pc := 5) X 6 i_X6 0 rfl rfl 2 (by decide) (by decide +kernel) rfl dX6_add_5 ?_
  refine j_iload_n (pc := 8) X dX6_add_8 rfl 1 rfl ?_
  refine j_iast (pc := 9) X (f2 := (nF (va_up mo rn m))) (ws' := [(qu, .inr (6, [.ref qu0, .ref qu1, .int (nI rn)])), kI G qu0 16 (nF (va_up mo rn m)), kZ G qu1 16 (bF re)]) 1 rfl (vp_in_nI (by omega) (by decide)) dX6_add_9 (by rw [nI_clamp (by omega)]; exact nF_up mo rn m) rfl ?_
  refine j_aload_n (pc := 10) X dX6_add_10 rfl 0 rfl ?_
  refine j_get (pc := 11) X 6 i_X6 0 rfl rfl 1 (by decide) (by decide +kernel) rfl dX6_add_11 ?_
  refine j_aload_n (pc := 14) X dX6_add_14 rfl 0 rfl ?_
  refine j_get (pc := 15) X 6 i_X6 0 rfl rfl 2 (by decide) (by decide +kernel) rfl dX6_add_15 ?_
  refine j_iload_n (pc := 18) X dX6_add_18 rfl 2 rfl ?_
  refine j_zast (pc := 19) X (f2 := (bF (va_up re rn en))) (ws' := [(qu, .inr (6, [.ref qu0, .ref qu1, .int (nI rn)])), kI G qu0 16 (nF (va_up mo rn m)), kZ G qu1 16 (bF (va_up re rn en))]) 2 rfl (vp_in_nI (by omega) (by decide)) dX6_add_19 (b2i_vnar _) (by rw [nI_clamp (by omega)]; exact bF_up re rn en) rfl ?_
  refine j_aload_n (pc := 20) X dX6_add_20 rfl 0 rfl ?_
  refine j_dup (pc := 21) X dX6_add_21 rfl ?_
  refine j_get (pc := 22) X 6 i_X6 0 rfl rfl 2 (by decide) (by decide +kernel) rfl dX6_add_22 ?_
  refine j_iconst (pc := 25) X (v := nI 1) dX6_add_25 (by decide) ?_
  refine j_iadd (pc := 26) X dX6_add_26 ?_
  refine j_topi (z := nI (rn + 1)) (nI_add _ _) ?_
  refine j_put (pc := 27) X (v := .int (nI (rn + 1))) (ws' := [(qu, .inr (6, [.ref qu0, .ref qu1, .int (nI (rn + 1))])), kI G qu0 16 (nF (va_up mo rn m)), kZ G qu1 16 (bF (va_up re rn en))]) 6 i_X6 tyX6 tyX6_ok nmX6 0 rfl rfl 2 (by decide) (by decide +kernel) (by decide) (rfl) (rfl) (Nat.le_of_ble_eq_true rfl) dX6_add_27 rfl ?_
  exact j_vret (pc := 30) X dX6_add_30 ⟨rfl, rfl⟩

set_option maxHeartbeats 4000000 in
set_option maxRecDepth 100000 in
theorem mX6_countEnded_L4 (l : Launch) (G : jG) (qu : Nat) (qu0 : Nat) (qu1 : Nat) (rn : Nat) (mo : Nat → Nat) (re : Nat → Bool) (t : Nat) (hrn : rn ≤ 16) (hmo : ∀ k, mo k ≤ 60) (ht : t ≤ 60) (κ : jK) (X : CX κ l yX6_countEnded cX6_countEnded 4 RX6 wsX6_countEnded (some .int) ({ frames := 0, cells := 0, slots := 0, locals := 0 }) G (va_A [(qu, .inr (6, [.ref qu0, .ref qu1, .int (nI rn)])), kI G qu0 16 (nF mo), kZ G qu1 16 (bF re)] (js κ).heap.size))    : ∀ (fu : Nat) (r : Nat) (hr : r ≤ rn) (_ : rn - r < fu), JJ κ 4 G (va_A [(qu, .inr (6, [.ref qu0, .ref qu1, .int (nI rn)])), kI G qu0 16 (nF mo), kZ G qu1 16 (bF re)] (js κ).heap.size) 0 0 (jQ κ G [(qu, .inr (6, [.ref qu0, .ref qu1, .int (nI rn)])), kI G qu0 16 (nF mo), kZ G qu1 16 (bF re)] (fun r w' => r = some (.int (nI (cntE mo re t rn))) ∧ w' = [(qu, .inr (6, [.ref qu0, .ref qu1, .int (nI rn)])), kI G qu0 16 (nF mo), kZ G qu1 16 (bF re)]) 0 0) 4 [(0, .ref qu), (1, .int (nI t)), (2, .int (nI (cntE mo re t r))), (3, .int (nI r))] [] [(qu, .inr (6, [.ref qu0, .ref qu1, .int (nI rn)])), kI G qu0 16 (nF mo), kZ G qu1 16 (bF re)] := by
  have i_X6 : ∀ w ∈ wsX60, w ∈ wsX6_countEnded := by decide +kernel
  intro fu
  induction fu with
  | zero => intro r hr hms; exact absurd hms (Nat.not_lt_zero _)
  | succ fu ih =>
    intro r hr hms
    refine j_iload_n (pc := 4) X dX6_countEnded_4 rfl 3 rfl ?_
    refine j_aload_n (pc := 5) X dX6_countEnded_5 rfl 0 rfl ?_
    refine j_get (pc := 6) X 6 i_X6 0 rfl rfl 2 (by decide) (by decide +kernel) rfl dX6_countEnded_6 ?_
    refine j_icmpN_ge (pc := 9) X (a := r) (b := rn) (by first | omega | exact Nat.lt_of_le_of_lt (hmo _) (by decide)) (by first | omega | exact Nat.lt_of_le_of_lt (hmo _) (by decide)) (tgt := 40) dX6_countEnded_9 (by decide) (fun c_9 => ?_) (fun c_9 => ?_)
    · skip
      refine j_iload_n (pc := 40) X dX6_countEnded_40 rfl 2 rfl ?_
      exact j_iret (pc := 41) X dX6_countEnded_41 ⟨by rw [show r = rn by omega], rfl⟩
    · skip
      refine j_aload_n (pc := 12) X dX6_countEnded_12 rfl 0 rfl ?_
      refine j_get (pc := 13) X 6 i_X6 0 rfl rfl 1 (by decide) (by decide +kernel) rfl dX6_countEnded_13 ?_
      refine j_iload_n (pc := 16) X dX6_countEnded_16 rfl 3 rfl ?_
      refine j_zald (pc := 17) X 2 rfl (vp_in_nI (by omega) (by decide)) (v := b2i (re r)) (congrArg (bF re) (nI_clamp (by omega))) dX6_countEnded_17 ?_
      refine j_ifb_eq (pc := 18) X (B := re r) (tgt := 34) dX6_countEnded_18 (by decide) (fun c_18 => ?_) (fun c_18 => ?_)
      · skip
        refine j_iinc (pc := 34) X (v := nI (r + 1)) (lv' := [(3, .int (nI (r + 1))), (0, .ref qu), (1, .int (nI t)), (2, .int (nI (cntE mo re t r)))]) dX6_countEnded_34 3 rfl (nI_1 _) (by decide) rfl ?_
        refine j_goto (pc := 37) X (tgt := 4) dX6_countEnded_37 (by decide) ?_
        refine j_lv [1, 2, 3, 0] (lv' := [(0, .ref qu), (1, .int (nI t)), (2, .int (nI (cntE mo re t r))), (3, .int (nI (r + 1)))]) rfl ?_
        refine j_lvq (lv' := [(0, .ref qu), (1, .int (nI t)), (2, .int (nI (cntE mo re t (r + 1)))), (3, .int (nI (r + 1)))]) ?_ ?_
        · rw [show (cntE mo re t r) = cntE mo re t (r + 1) from by (simp only [cntE]; simp [c_9, c_18])]
        exact ih (r + 1) (by omega) (by omega)
      · skip
        refine j_aload_n (pc := 21) X dX6_countEnded_21 rfl 0 rfl ?_
        refine j_get (pc := 22) X 6 i_X6 0 rfl rfl 0 (by decide) (by decide +kernel) rfl dX6_countEnded_22 ?_
        refine j_iload_n (pc := 25) X dX6_countEnded_25 rfl 3 rfl ?_
        refine j_iald (pc := 26) X 1 rfl (vp_in_nI (by omega) (by decide)) (v := nI (mo r)) (congrArg (nF mo) (nI_clamp (by omega))) dX6_countEnded_26 ?_
        refine j_iload_n (pc := 27) X dX6_countEnded_27 rfl 1 rfl ?_
        refine j_icmpN_ne (pc := 28) X (a := (mo r)) (b := t) (by first | omega | exact Nat.lt_of_le_of_lt (hmo _) (by decide)) (by first | omega | exact Nat.lt_of_le_of_lt (hmo _) (by decide)) (tgt := 34) dX6_countEnded_28 (by decide) (fun c_28 => ?_) (fun c_28 => ?_)
        · skip
          refine j_iinc (pc := 34) X (v := nI (r + 1)) (lv' := [(3, .int (nI (r + 1))), (0, .ref qu), (1, .int (nI t)), (2, .int (nI (cntE mo re t r)))]) dX6_countEnded_34 3 rfl (nI_1 _) (by decide) rfl ?_
          refine j_goto (pc := 37) X (tgt := 4) dX6_countEnded_37 (by decide) ?_
          refine j_lv [1, 2, 3, 0] (lv' := [(0, .ref qu), (1, .int (nI t)), (2, .int (nI (cntE mo re t r))), (3, .int (nI (r + 1)))]) rfl ?_
          refine j_lvq (lv' := [(0, .ref qu), (1, .int (nI t)), (2, .int (nI (cntE mo re t (r + 1)))), (3, .int (nI (r + 1)))]) ?_ ?_
          · rw [show (cntE mo re t r) = cntE mo re t (r + 1) from by (simp only [cntE]; simp [c_9, c_18, c_28])]
          exact ih (r + 1) (by omega) (by omega)
        · skip
          refine j_iinc (pc := 31) X (v := nI (cntE mo re t r + 1)) (lv' := [(2, .int (nI (cntE mo re t r + 1))), (0, .ref qu), (1, .int (nI t)), (3, .int (nI r))]) dX6_countEnded_31 2 rfl (nI_1 _) (by decide) rfl ?_
          refine j_iinc (pc := 34) X (v := nI (r + 1)) (lv' := [(3, .int (nI (r + 1))), (2, .int (nI (cntE mo re t r + 1))), (0, .ref qu), (1, .int (nI t))]) dX6_countEnded_34 3 rfl (nI_1 _) (by decide) rfl ?_
          refine j_goto (pc := 37) X (tgt := 4) dX6_countEnded_37 (by decide) ?_
          refine j_lv [2, 3, 1, 0] (lv' := [(0, .ref qu), (1, .int (nI t)), (2, .int (nI (cntE mo re t r + 1))), (3, .int (nI (r + 1)))]) rfl ?_
          refine j_lvq (lv' := [(0, .ref qu), (1, .int (nI t)), (2, .int (nI (cntE mo re t (r + 1)))), (3, .int (nI (r + 1)))]) ?_ ?_
          · rw [show (cntE mo re t r + 1) = cntE mo re t (r + 1) from by (simp only [cntE]; simp [c_9, c_18, c_28])]
          exact ih (r + 1) (by omega) (by omega)
set_option maxHeartbeats 4000000 in
set_option maxRecDepth 100000 in
theorem mX6_countEnded (l : Launch) (G : jG) (qu : Nat) (qu0 : Nat) (qu1 : Nat) (rn : Nat) (mo : Nat → Nat) (re : Nat → Bool) (t : Nat) (hrn : rn ≤ 16) (hmo : ∀ k, mo k ≤ 60) (ht : t ≤ 60) : MV l yX6_countEnded wsX6_countEnded ({ frames := 0, cells := 0, slots := 0, locals := 0 }) G [.ref qu, .int (nI t)] [(qu, .inr (6, [.ref qu0, .ref qu1, .int (nI rn)])), kI G qu0 16 (nF mo), kZ G qu1 16 (bF re)] (some (.int (nI (cntE mo re t rn)))) [(qu, .inr (6, [.ref qu0, .ref qu1, .int (nI rn)])), kI G qu0 16 (nF mo), kZ G qu1 16 (bF re)] := by
  refine MF.ofJ (cc := cX6_countEnded) (maxL := 4) (ret := (some .int)) (own := RX6) (lv := [(0, .ref qu), (1, .int (nI t))]) (by decide) rfl rfl (Nat.le_of_ble_eq_true rfl) rfl ?_
  intro κ X
  have i_X6 : ∀ w ∈ wsX60, w ∈ wsX6_countEnded := by decide +kernel
  refine j_iconst (pc := 0) X (v := nI 0) dX6_countEnded_0 (by decide) ?_
  refine j_istore_n (pc := 1) X (lv' := [(2, .int (nI 0)), (0, .ref qu), (1, .int (nI t))]) dX6_countEnded_1 rfl (by decide) rfl ?_
  refine j_iconst (pc := 2) X (v := nI 0) dX6_countEnded_2 (by decide) ?_
  refine j_istore_n (pc := 3) X (lv' := [(3, .int (nI 0)), (2, .int (nI 0)), (0, .ref qu), (1, .int (nI t))]) dX6_countEnded_3 rfl (by decide) rfl ?_
  refine j_lv [2, 3, 1, 0] (lv' := [(0, .ref qu), (1, .int (nI t)), (2, .int (nI 0)), (3, .int (nI 0))]) rfl ?_
  refine j_lvq (lv' := [(0, .ref qu), (1, .int (nI t)), (2, .int (nI (cntE mo re t 0))), (3, .int (nI 0))]) ?_ ?_
  · first | rfl | (rw [show (0) = cntE mo re t 0 from by (simp only [cntE]; simp [ne_eq])])
  exact mX6_countEnded_L4 l G qu qu0 qu1 rn mo re t hrn hmo ht κ X    (rn - 0 + 1) 0 (by omega) (Nat.lt_succ_self _)

set_option maxHeartbeats 4000000 in
set_option maxRecDepth 100000 in
theorem mX6_countAtRisk_L4 (l : Launch) (G : jG) (qu : Nat) (qu0 : Nat) (qu1 : Nat) (rn : Nat) (mo : Nat → Nat) (t : Nat) (hrn : rn ≤ 16) (hmo : ∀ k, mo k ≤ 60) (ht : t ≤ 60) (κ : jK) (X : CX κ l yX6_countAtRisk cX6_countAtRisk 4 RX6 wsX6_countAtRisk (some .int) ({ frames := 0, cells := 0, slots := 0, locals := 0 }) G (va_A [(qu, .inr (6, [.ref qu0, .ref qu1, .int (nI rn)])), kI G qu0 16 (nF mo)] (js κ).heap.size))    : ∀ (fu : Nat) (r : Nat) (hr : r ≤ rn) (_ : rn - r < fu), JJ κ 4 G (va_A [(qu, .inr (6, [.ref qu0, .ref qu1, .int (nI rn)])), kI G qu0 16 (nF mo)] (js κ).heap.size) 0 0 (jQ κ G [(qu, .inr (6, [.ref qu0, .ref qu1, .int (nI rn)])), kI G qu0 16 (nF mo)] (fun r w' => r = some (.int (nI (cntR mo t rn))) ∧ w' = [(qu, .inr (6, [.ref qu0, .ref qu1, .int (nI rn)])), kI G qu0 16 (nF mo)]) 0 0) 4 [(0, .ref qu), (1, .int (nI t)), (2, .int (nI (cntR mo t r))), (3, .int (nI r))] [] [(qu, .inr (6, [.ref qu0, .ref qu1, .int (nI rn)])), kI G qu0 16 (nF mo)] := by
  have i_X6 : ∀ w ∈ wsX60, w ∈ wsX6_countAtRisk := by decide +kernel
  intro fu
  induction fu with
  | zero => intro r hr hms; exact absurd hms (Nat.not_lt_zero _)
  | succ fu ih =>
    intro r hr hms
    refine j_iload_n (pc := 4) X dX6_countAtRisk_4 rfl 3 rfl ?_
    refine j_aload_n (pc := 5) X dX6_countAtRisk_5 rfl 0 rfl ?_
    refine j_get (pc := 6) X 6 i_X6 0 rfl rfl 2 (by decide) (by decide +kernel) rfl dX6_countAtRisk_6 ?_
    refine j_icmpN_ge (pc := 9) X (a := r) (b := rn) (by first | omega | exact Nat.lt_of_le_of_lt (hmo _) (by decide)) (by first | omega | exact Nat.lt_of_le_of_lt (hmo _) (by decide)) (tgt := 31) dX6_countAtRisk_9 (by decide) (fun c_9 => ?_) (fun c_9 => ?_)
    · skip
      refine j_iload_n (pc := 31) X dX6_countAtRisk_31 rfl 2 rfl ?_
      exact j_iret (pc := 32) X dX6_countAtRisk_32 ⟨by rw [show r = rn by omega], rfl⟩
    · skip
      refine j_aload_n (pc := 12) X dX6_countAtRisk_12 rfl 0 rfl ?_
      refine j_get (pc := 13) X 6 i_X6 0 rfl rfl 0 (by decide) (by decide +kernel) rfl dX6_countAtRisk_13 ?_
      refine j_iload_n (pc := 16) X dX6_countAtRisk_16 rfl 3 rfl ?_
      refine j_iald (pc := 17) X 1 rfl (vp_in_nI (by omega) (by decide)) (v := nI (mo r)) (congrArg (nF mo) (nI_clamp (by omega))) dX6_countAtRisk_17 ?_
      refine j_iload_n (pc := 18) X dX6_countAtRisk_18 rfl 1 rfl ?_
      refine j_icmpN_lt (pc := 19) X (a := (mo r)) (b := t) (by first | omega | exact Nat.lt_of_le_of_lt (hmo _) (by decide)) (by first | omega | exact Nat.lt_of_le_of_lt (hmo _) (by decide)) (tgt := 25) dX6_countAtRisk_19 (by decide) (fun c_19 => ?_) (fun c_19 => ?_)
      · skip
        refine j_iinc (pc := 25) X (v := nI (r + 1)) (lv' := [(3, .int (nI (r + 1))), (0, .ref qu), (1, .int (nI t)), (2, .int (nI (cntR mo t r)))]) dX6_countAtRisk_25 3 rfl (nI_1 _) (by decide) rfl ?_
        refine j_goto (pc := 28) X (tgt := 4) dX6_countAtRisk_28 (by decide) ?_
        refine j_lv [1, 2, 3, 0] (lv' := [(0, .ref qu), (1, .int (nI t)), (2, .int (nI (cntR mo t r))), (3, .int (nI (r + 1)))]) rfl ?_
        refine j_lvq (lv' := [(0, .ref qu), (1, .int (nI t)), (2, .int (nI (cntR mo t (r + 1)))), (3, .int (nI (r + 1)))]) ?_ ?_
        · rw [show (cntR mo t r) = cntR mo t (r + 1) from by (simp only [cntR]; split <;> omega)]
        exact ih (r + 1) (by omega) (by omega)
      · skip
        refine j_iinc (pc := 22) X (v := nI (cntR mo t r + 1)) (lv' := [(2, .int (nI (cntR mo t r + 1))), (0, .ref qu), (1, .int (nI t)), (3, .int (nI r))]) dX6_countAtRisk_22 2 rfl (nI_1 _) (by decide) rfl ?_
        refine j_iinc (pc := 25) X (v := nI (r + 1)) (lv' := [(3, .int (nI (r + 1))), (2, .int (nI (cntR mo t r + 1))), (0, .ref qu), (1, .int (nI t))]) dX6_countAtRisk_25 3 rfl (nI_1 _) (by decide) rfl ?_
        refine j_goto (pc := 28) X (tgt := 4) dX6_countAtRisk_28 (by decide) ?_
        refine j_lv [2, 3, 1, 0] (lv' := [(0, .ref qu), (1, .int (nI t)), (2, .int (nI (cntR mo t r + 1))), (3, .int (nI (r + 1)))]) rfl ?_
        refine j_lvq (lv' := [(0, .ref qu), (1, .int (nI t)), (2, .int (nI (cntR mo t (r + 1)))), (3, .int (nI (r + 1)))]) ?_ ?_
        · rw [show (cntR mo t r + 1) = cntR mo t (r + 1) from by (simp only [cntR]; split <;> omega)]
        exact ih (r + 1) (by omega) (by omega)
set_option maxHeartbeats 4000000 in
set_option maxRecDepth 100000 in
theorem mX6_countAtRisk (l : Launch) (G : jG) (qu : Nat) (qu0 : Nat) (qu1 : Nat) (rn : Nat) (mo : Nat → Nat) (t : Nat) (hrn : rn ≤ 16) (hmo : ∀ k, mo k ≤ 60) (ht : t ≤ 60) : MV l yX6_countAtRisk wsX6_countAtRisk ({ frames := 0, cells := 0, slots := 0, locals := 0 }) G [.ref qu, .int (nI t)] [(qu, .inr (6, [.ref qu0, .ref qu1, .int (nI rn)])), kI G qu0 16 (nF mo)] (some (.int (nI (cntR mo t rn)))) [(qu, .inr (6, [.ref qu0, .ref qu1, .int (nI rn)])), kI G qu0 16 (nF mo)] := by
  refine MF.ofJ (cc := cX6_countAtRisk) (maxL := 4) (ret := (some .int)) (own := RX6) (lv := [(0, .ref qu), (1, .int (nI t))]) (by decide) rfl rfl (Nat.le_of_ble_eq_true rfl) rfl ?_
  intro κ X
  have i_X6 : ∀ w ∈ wsX60, w ∈ wsX6_countAtRisk := by decide +kernel
  refine j_iconst (pc := 0) X (v := nI 0) dX6_countAtRisk_0 (by decide) ?_
  refine j_istore_n (pc := 1) X (lv' := [(2, .int (nI 0)), (0, .ref qu), (1, .int (nI t))]) dX6_countAtRisk_1 rfl (by decide) rfl ?_
  refine j_iconst (pc := 2) X (v := nI 0) dX6_countAtRisk_2 (by decide) ?_
  refine j_istore_n (pc := 3) X (lv' := [(3, .int (nI 0)), (2, .int (nI 0)), (0, .ref qu), (1, .int (nI t))]) dX6_countAtRisk_3 rfl (by decide) rfl ?_
  refine j_lv [2, 3, 1, 0] (lv' := [(0, .ref qu), (1, .int (nI t)), (2, .int (nI 0)), (3, .int (nI 0))]) rfl ?_
  refine j_lvq (lv' := [(0, .ref qu), (1, .int (nI t)), (2, .int (nI (cntR mo t 0))), (3, .int (nI 0))]) ?_ ?_
  · first | rfl | (rw [show (0) = cntR mo t 0 from by (simp only [cntR]; split <;> omega)])
  exact mX6_countAtRisk_L4 l G qu qu0 qu1 rn mo t hrn hmo ht κ X    (rn - 0 + 1) 0 (by omega) (Nat.lt_succ_self _)

set_option maxHeartbeats 4000000 in
set_option maxRecDepth 100000 in
theorem mX6_shareBeyond_L8 (l : Launch) (G : jG) (qu : Nat) (qu0 : Nat) (qu1 : Nat) (rn : Nat) (mo : Nat → Nat) (re : Nat → Bool) (qf : Nat) (fa : Int64) (fb : Int64) (m : Nat) (hrn : rn ≤ 16) (hmo : ∀ k, mo k ≤ 60) (hm : m ≤ 60) (hA : shA mo re rn m < 2 ^ 49) (hB0 : 0 < shB mo re rn m) (hB : shB mo re rn m < 2 ^ 49) (κ : jK) (X : CX κ l yX6_shareBeyond cX6_shareBeyond 10 RX6 wsX6_shareBeyond none ({ frames := 2, cells := 0, slots := 0, locals := 56 }) G (va_A [(qu, .inr (6, [.ref qu0, .ref qu1, .int (nI rn)])), kI G qu0 16 (nF mo), kZ G qu1 16 (bF re), (qf, .inr (1, [.long fa, .long fb]))] (js κ).heap.size))    : ∀ (fu : Nat) (t : Nat) (ht : t ≤ m) (_ : m - t < fu), JJ κ 10 G (va_A [(qu, .inr (6, [.ref qu0, .ref qu1, .int (nI rn)])), kI G qu0 16 (nF mo), kZ G qu1 16 (bF re), (qf, .inr (1, [.long fa, .long fb]))] (js κ).heap.size) 0 0 (jQ κ G [(qu, .inr (6, [.ref qu0, .ref qu1, .int (nI rn)])), kI G qu0 16 (nF mo), kZ G qu1 16 (bF re), (qf, .inr (1, [.long fa, .long fb]))] (fun r w' => r = none ∧ w' = [(qu, .inr (6, [.ref qu0, .ref qu1, .int (nI rn)])), kI G qu0 16 (nF mo), kZ G qu1 16 (bF re), (qf, .inr (1, [.long (lN (shA mo re rn m) / lN (gdl (lN (shA mo re rn m)) (shB mo re rn m))), .long (lN (shB mo re rn m) / lN (gdl (lN (shA mo re rn m)) (shB mo re rn m)))]))]) 0 0) 8 [(0, .ref qu), (1, .int (nI m)), (2, .ref qf), (3, .long (lN (shA mo re rn t))), (5, .long (lN (shB mo re rn t))), (7, .int (nI (t + 1)))] [] [(qu, .inr (6, [.ref qu0, .ref qu1, .int (nI rn)])), kI G qu0 16 (nF mo), kZ G qu1 16 (bF re), (qf, .inr (1, [.long fa, .long fb]))] := by
  have i_X1 : ∀ w ∈ wsX10, w ∈ wsX6_shareBeyond := by decide +kernel
  have i_X6 : ∀ w ∈ wsX60, w ∈ wsX6_shareBeyond := by decide +kernel
  intro fu
  induction fu with
  | zero => intro t ht hms; exact absurd hms (Nat.not_lt_zero _)
  | succ fu ih =>
    intro t ht hms
    refine j_iload (pc := 8) X dX6_shareBeyond_8 5 rfl ?_
    refine j_iload_n (pc := 10) X dX6_shareBeyond_10 rfl 1 rfl ?_
    refine j_icmpN_gt (pc := 11) X (a := (t + 1)) (b := m) (by first | omega | (have h1 := cntR_le mo (t + 1) rn; have h2 := cntE_le mo re (t + 1) rn; omega)) (by first | omega | (have h1 := cntR_le mo (t + 1) rn; have h2 := cntE_le mo re (t + 1) rn; omega)) (tgt := 58) dX6_shareBeyond_11 (by decide) (fun c_11 => ?_) (fun c_11 => ?_)
    · skip
      obtain rfl : m = t := by omega
      refine j_aload_n (pc := 58) X dX6_shareBeyond_58 rfl 2 rfl ?_
      refine j_lload_n (pc := 59) X dX6_shareBeyond_59 rfl 3 rfl ?_
      refine j_lload (pc := 60) X dX6_shareBeyond_60 4 rfl ?_
      refine j_cv (pc := 62) X (ws' := [(qu, .inr (6, [.ref qu0, .ref qu1, .int (nI rn)])), kI G qu0 16 (nF mo), kZ G qu1 16 (bF re), (qf, .inr (1, [.long ((lN (shA mo re rn m)) / lN (gdl (lN (shA mo re rn m)) (shB mo re rn m))), .long (lN (shB mo re rn m) / lN (gdl (lN (shA mo re rn m)) (shB mo re rn m)))]))]) [3] rfl (j_rVN X (b := qf) (As := [.long (lN (shA mo re rn m)), .long (lN (shB mo re rn m))]) (ci := 1) (rest := []) 2 (mX1_become l G qf fa fb (lN (shA mo re rn m)) (shB mo re rn m) (by rw [pk_lT (by omega)]; omega) (by first | assumption | omega | exact ob_s (by omega) | exact ob_n) (by first | assumption | omega | exact ob_s (by omega) | exact ob_n)) gX6_shareBeyond_X1_become_n30 rfl rfl rfl (by decide +kernel) (by decide +kernel) (by decide +kernel) (by decide +kernel) (by decide +kernel) ⟨Nat.le_of_ble_eq_true rfl, Nat.le_of_ble_eq_true rfl⟩ rfl rfl 0 rfl [3] rfl rfl rfl (Nat.le_of_ble_eq_true rfl) dX6_shareBeyond_62 ⟨Nat.le_of_ble_eq_true rfl, Nat.le_of_ble_eq_true rfl⟩) rfl rfl ?_
      exact j_vret (pc := 65) X dX6_shareBeyond_65 ⟨rfl, by simp⟩
    · skip
      refine j_aload_n (pc := 14) X dX6_shareBeyond_14 rfl 0 rfl ?_
      refine j_iload (pc := 15) X dX6_shareBeyond_15 5 rfl ?_
      refine j_ciP (pc := 17) X [0, 1, 2] rfl (j_rV X (b := qu) (As := [.int (nI (t + 1))]) (ci := 6) (rest := []) 1 (mX6_countEnded l G qu qu0 qu1 rn mo re (t + 1) (by first | assumption | omega | exact ob_s (by omega) | exact ob_n) (by first | assumption | omega | exact ob_s (by omega) | exact ob_n) (by first | assumption | omega | exact ob_s (by omega) | exact ob_n)) gX6_shareBeyond_X6_countEnded rfl rfl rfl (by decide +kernel) ⟨Nat.le_of_ble_eq_true rfl, Nat.le_of_ble_eq_true rfl⟩ rfl rfl 0 rfl [0, 1, 2] rfl rfl rfl (Nat.le_of_ble_eq_true rfl) dX6_shareBeyond_17 ⟨Nat.le_of_ble_eq_true rfl, Nat.le_of_ble_eq_true rfl⟩) ?_
      refine j_istore (pc := 20) X (lv' := [(8, .int (nI (cntE mo re (t + 1) rn))), (0, .ref qu), (1, .int (nI m)), (2, .ref qf), (3, .long (lN (shA mo re rn t))), (5, .long (lN (shB mo re rn t))), (7, .int (nI (t + 1)))]) dX6_shareBeyond_20 (by decide) rfl ?_
      refine j_iload (pc := 22) X dX6_shareBeyond_22 0 rfl ?_
      refine j_ifN_le (pc := 24) X (a := (cntE mo re (t + 1) rn)) (by first | omega | (have h1 := cntR_le mo (t + 1) rn; have h2 := cntE_le mo re (t + 1) rn; omega)) (tgt := 52) dX6_shareBeyond_24 (by decide) (fun c_24 => ?_) (fun c_24 => ?_)
      · skip
        refine j_iinc (pc := 52) X (v := nI (t + 1 + 1)) (lv' := [(7, .int (nI (t + 1 + 1))), (8, .int (nI (cntE mo re (t + 1) rn))), (0, .ref qu), (1, .int (nI m)), (2, .ref qf), (3, .long (lN (shA mo re rn t))), (5, .long (lN (shB mo re rn t)))]) dX6_shareBeyond_52 6 rfl (nI_1 _) (by decide) rfl ?_
        refine j_goto (pc := 55) X (tgt := 8) dX6_shareBeyond_55 (by decide) ?_
        refine j_lv [2, 3, 4, 5, 6, 0] (lv' := [(0, .ref qu), (1, .int (nI m)), (2, .ref qf), (3, .long (lN (shA mo re rn t))), (5, .long (lN (shB mo re rn t))), (7, .int (nI (t + 1 + 1)))]) rfl ?_
        refine j_lvq (lv' := [(0, .ref qu), (1, .int (nI m)), (2, .ref qf), (3, .long (lN (shA mo re rn (t + 1)))), (5, .long (lN (shB mo re rn (t + 1)))), (7, .int (nI (t + 1 + 1)))]) ?_ ?_
        · rw [show (lN (shA mo re rn t)) = lN (shA mo re rn (t + 1)) from by (simp only [shA, shB]; split <;> first | rfl | omega), show (lN (shB mo re rn t)) = lN (shB mo re rn (t + 1)) from by (simp only [shA, shB]; split <;> first | rfl | omega)]
        exact ih (t + 1) (by omega) (by omega)
      · skip
        refine j_aload_n (pc := 27) X dX6_shareBeyond_27 rfl 1 rfl ?_
        refine j_iload (pc := 28) X dX6_shareBeyond_28 6 rfl ?_
        refine j_ciP (pc := 30) X [0, 1] rfl (j_rV X (b := qu) (As := [.int (nI (t + 1))]) (ci := 6) (rest := []) 1 (mX6_countAtRisk l G qu qu0 qu1 rn mo (t + 1) (by first | assumption | omega | exact ob_s (by omega) | exact ob_n) (by first | assumption | omega | exact ob_s (by omega) | exact ob_n) (by first | assumption | omega | exact ob_s (by omega) | exact ob_n)) gX6_shareBeyond_X6_countAtRisk rfl rfl rfl (by decide +kernel) ⟨Nat.le_of_ble_eq_true rfl, Nat.le_of_ble_eq_true rfl⟩ rfl rfl 0 rfl [0, 1] rfl rfl rfl (Nat.le_of_ble_eq_true rfl) dX6_shareBeyond_30 ⟨Nat.le_of_ble_eq_true rfl, Nat.le_of_ble_eq_true rfl⟩) ?_
        refine j_istore (pc := 33) X (lv' := [(9, .int (nI (cntR mo (t + 1) rn))), (8, .int (nI (cntE mo re (t + 1) rn))), (0, .ref qu), (1, .int (nI m)), (2, .ref qf), (3, .long (lN (shA mo re rn t))), (5, .long (lN (shB mo re rn t))), (7, .int (nI (t + 1)))]) dX6_shareBeyond_33 (by decide) rfl ?_
        refine j_lload_n (pc := 35) X dX6_shareBeyond_35 rfl 5 rfl ?_
        refine j_iload (pc := 36) X dX6_shareBeyond_36 0 rfl ?_
        refine j_iload (pc := 38) X dX6_shareBeyond_38 1 rfl ?_
        refine j_isub (pc := 40) X dX6_shareBeyond_40 ?_
        refine j_topi (z := nI (cntR mo (t + 1) rn - cntE mo re (t + 1) rn)) (pk_sub (by have h1 := cntR_le mo (t + 1) rn; have h2 := cntE_le mo re (t + 1) rn; omega)) ?_
        refine j_i2l (pc := 41) X (v := lN (cntR mo (t + 1) rn - cntE mo re (t + 1) rn)) dX6_shareBeyond_41 (nI_l (by (have h1 := cntR_le mo (t + 1) rn; have h2 := cntE_le mo re (t + 1) rn; omega))) ?_
        refine j_lmul (pc := 42) X dX6_shareBeyond_42 ?_
        refine j_topl (z := lN (shA mo re rn t * (cntR mo (t + 1) rn - cntE mo re (t + 1) rn))) (lN_mul _ _) ?_
        refine j_lstore_n (pc := 43) X (lv' := [(3, .long (lN (shA mo re rn t * (cntR mo (t + 1) rn - cntE mo re (t + 1) rn)))), (9, .int (nI (cntR mo (t + 1) rn))), (8, .int (nI (cntE mo re (t + 1) rn))), (0, .ref qu), (1, .int (nI m)), (2, .ref qf), (5, .long (lN (shB mo re rn t))), (7, .int (nI (t + 1)))]) dX6_shareBeyond_43 rfl (by decide) rfl ?_
        refine j_lload (pc := 44) X dX6_shareBeyond_44 6 rfl ?_
        refine j_iload (pc := 46) X dX6_shareBeyond_46 1 rfl ?_
        refine j_i2l (pc := 48) X (v := lN (cntR mo (t + 1) rn)) dX6_shareBeyond_48 (nI_l (by (have h1 := cntR_le mo (t + 1) rn; have h2 := cntE_le mo re (t + 1) rn; omega))) ?_
        refine j_lmul (pc := 49) X dX6_shareBeyond_49 ?_
        refine j_topl (z := lN (shB mo re rn t * cntR mo (t + 1) rn)) (lN_mul _ _) ?_
        refine j_lstore (pc := 50) X (lv' := [(5, .long (lN (shB mo re rn t * cntR mo (t + 1) rn))), (3, .long (lN (shA mo re rn t * (cntR mo (t + 1) rn - cntE mo re (t + 1) rn)))), (9, .int (nI (cntR mo (t + 1) rn))), (8, .int (nI (cntE mo re (t + 1) rn))), (0, .ref qu), (1, .int (nI m)), (2, .ref qf), (7, .int (nI (t + 1)))]) dX6_shareBeyond_50 (by decide) rfl ?_
        refine j_iinc (pc := 52) X (v := nI (t + 1 + 1)) (lv' := [(7, .int (nI (t + 1 + 1))), (5, .long (lN (shB mo re rn t * cntR mo (t + 1) rn))), (3, .long (lN (shA mo re rn t * (cntR mo (t + 1) rn - cntE mo re (t + 1) rn)))), (9, .int (nI (cntR mo (t + 1) rn))), (8, .int (nI (cntE mo re (t + 1) rn))), (0, .ref qu), (1, .int (nI m)), (2, .ref qf)]) dX6_shareBeyond_52 7 rfl (nI_1 _) (by decide) rfl ?_
        refine j_goto (pc := 55) X (tgt := 8) dX6_shareBeyond_55 (by decide) ?_
        refine j_lv [5, 6, 7, 2, 1, 0] (lv' := [(0, .ref qu), (1, .int (nI m)), (2, .ref qf), (3, .long (lN (shA mo re rn t * (cntR mo (t + 1) rn - cntE mo re (t + 1) rn)))), (5, .long (lN (shB mo re rn t * cntR mo (t + 1) rn))), (7, .int (nI (t + 1 + 1)))]) rfl ?_
        refine j_lvq (lv' := [(0, .ref qu), (1, .int (nI m)), (2, .ref qf), (3, .long (lN (shA mo re rn (t + 1)))), (5, .long (lN (shB mo re rn (t + 1)))), (7, .int (nI (t + 1 + 1)))]) ?_ ?_
        · rw [show (lN (shA mo re rn t * (cntR mo (t + 1) rn - cntE mo re (t + 1) rn))) = lN (shA mo re rn (t + 1)) from by (simp only [shA, shB]; split <;> first | rfl | omega), show (lN (shB mo re rn t * cntR mo (t + 1) rn)) = lN (shB mo re rn (t + 1)) from by (simp only [shA, shB]; split <;> first | rfl | omega)]
        exact ih (t + 1) (by omega) (by omega)
set_option maxHeartbeats 4000000 in
set_option maxRecDepth 100000 in
theorem mX6_shareBeyond (l : Launch) (G : jG) (qu : Nat) (qu0 : Nat) (qu1 : Nat) (rn : Nat) (mo : Nat → Nat) (re : Nat → Bool) (qf : Nat) (fa : Int64) (fb : Int64) (m : Nat) (hrn : rn ≤ 16) (hmo : ∀ k, mo k ≤ 60) (hm : m ≤ 60) (hA : shA mo re rn m < 2 ^ 49) (hB0 : 0 < shB mo re rn m) (hB : shB mo re rn m < 2 ^ 49) : MV l yX6_shareBeyond wsX6_shareBeyond ({ frames := 2, cells := 0, slots := 0, locals := 56 }) G [.ref qu, .int (nI m), .ref qf] [(qu, .inr (6, [.ref qu0, .ref qu1, .int (nI rn)])), kI G qu0 16 (nF mo), kZ G qu1 16 (bF re), (qf, .inr (1, [.long fa, .long fb]))] (none) [(qu, .inr (6, [.ref qu0, .ref qu1, .int (nI rn)])), kI G qu0 16 (nF mo), kZ G qu1 16 (bF re), (qf, .inr (1, [.long (lN (shA mo re rn m) / lN (gdl (lN (shA mo re rn m)) (shB mo re rn m))), .long (lN (shB mo re rn m) / lN (gdl (lN (shA mo re rn m)) (shB mo re rn m)))]))] := by
  refine MF.ofJ (cc := cX6_shareBeyond) (maxL := 10) (ret := none) (own := RX6) (lv := [(0, .ref qu), (1, .int (nI m)), (2, .ref qf)]) (by decide) rfl rfl (Nat.le_of_ble_eq_true rfl) rfl ?_
  intro κ X
  have i_X1 : ∀ w ∈ wsX10, w ∈ wsX6_shareBeyond := by decide +kernel
  have i_X6 : ∀ w ∈ wsX60, w ∈ wsX6_shareBeyond := by decide +kernel
  refine j_lconst (pc := 0) X (v := 1) dX6_shareBeyond_0 (by decide) ?_
  refine j_lstore_n (pc := 1) X (lv' := [(3, .long 1), (0, .ref qu), (1, .int (nI m)), (2, .ref qf)]) dX6_shareBeyond_1 rfl (by decide) rfl ?_
  refine j_lconst (pc := 2) X (v := 1) dX6_shareBeyond_2 (by decide) ?_
  refine j_lstore (pc := 3) X (lv' := [(5, .long 1), (3, .long 1), (0, .ref qu), (1, .int (nI m)), (2, .ref qf)]) dX6_shareBeyond_3 (by decide) rfl ?_
  refine j_iconst (pc := 5) X (v := nI 1) dX6_shareBeyond_5 (by decide) ?_
  refine j_istore (pc := 6) X (lv' := [(7, .int (nI 1)), (5, .long 1), (3, .long 1), (0, .ref qu), (1, .int (nI m)), (2, .ref qf)]) dX6_shareBeyond_6 (by decide) rfl ?_
  refine j_lv [3, 4, 5, 2, 1, 0] (lv' := [(0, .ref qu), (1, .int (nI m)), (2, .ref qf), (3, .long 1), (5, .long 1), (7, .int (nI 1))]) rfl ?_
  refine j_lvq (lv' := [(0, .ref qu), (1, .int (nI m)), (2, .ref qf), (3, .long (lN (shA mo re rn 0))), (5, .long (lN (shB mo re rn 0))), (7, .int (nI (0 + 1)))]) ?_ ?_
  · first | rfl | (rw [show (1) = lN (shA mo re rn 0) from by (simp only [shA, shB]; split <;> first | rfl | omega), show (1) = lN (shB mo re rn 0) from by (simp only [shA, shB]; split <;> first | rfl | omega), show (1) = 0 + 1 from by (simp only [shA, shB]; split <;> first | rfl | omega)])
  exact mX6_shareBeyond_L8 l G qu qu0 qu1 rn mo re qf fa fb m hrn hmo hm hA hB0 hB κ X    (m - 0 + 1) 0 (by omega) (Nat.lt_succ_self _)

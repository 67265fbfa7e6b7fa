set_option maxHeartbeats 4000000 in
set_option maxRecDepth 100000 in
theorem mX3_isMeeting (l : Launch) (G : jG) (qm : Nat) (qm0 : Nat) (qm1 : Nat) (qm2 : Nat) (qm3 : Nat) (qm4 : Nat) (mm : Nat) (tt : Nat) (x : Int32)  : MV l yX3_isMeeting wsX3_isMeeting ({ frames := 0, cells := 0, slots := 0, locals := 0 }) G [.ref qm, .int x] [(qm, .inr (3, [.ref qm0, .ref qm1, .ref qm2, .ref qm3, .ref qm4, .int (nI mm), .int (nI tt)]))] (some (.int (b2i (inR x mm)))) [(qm, .inr (3, [.ref qm0, .ref qm1, .ref qm2, .ref qm3, .ref qm4, .int (nI mm), .int (nI tt)]))] := by
  refine MF.ofJ (cc := cX3_isMeeting) (maxL := 2) (ret := (some .boolean)) (own := RX3) (lv := [(0, .ref qm), (1, .int x)]) (by decide) rfl rfl (Nat.le_of_ble_eq_true rfl) rfl ?_
  intro κ X
  have i_X3 : ∀ w ∈ wsX30, w ∈ wsX3_isMeeting := by decide +kernel
  refine j_iload_n (pc := 0) X dX3_isMeeting_0 rfl 1 rfl ?_
  refine j_if_lt (pc := 1) X (x := x) (tgt := 16) dX3_isMeeting_1 (by decide) (fun c_1 => ?_) (fun c_1 => ?_)
  · skip
    refine j_iconst (pc := 16) X (v := nI 0) dX3_isMeeting_16 (by decide) ?_
    exact j_zret (pc := 17) X (rfl) dX3_isMeeting_17 ⟨r0 (by simp [inR, c_1]), rfl⟩
  · skip
    refine j_iload_n (pc := 4) X dX3_isMeeting_4 rfl 1 rfl ?_
    refine j_aload_n (pc := 5) X dX3_isMeeting_5 rfl 0 rfl ?_
    refine j_get (pc := 6) X 3 i_X3 0 rfl rfl 5 (by decide) (by decide +kernel) rfl dX3_isMeeting_6 ?_
    refine j_icmp_ge (pc := 9) X (x := x) (z := nI mm) (tgt := 16) dX3_isMeeting_9 (by decide) (fun c_9 => ?_) (fun c_9 => ?_)
    · skip
      refine j_iconst (pc := 16) X (v := nI 0) dX3_isMeeting_16 (by decide) ?_
      exact j_zret (pc := 17) X (rfl) dX3_isMeeting_17 ⟨r0 (by simp [inR, c_1, c_9]), rfl⟩
    · skip
      refine j_iconst (pc := 12) X (v := nI 1) dX3_isMeeting_12 (by decide) ?_
      refine j_goto (pc := 13) X (tgt := 17) dX3_isMeeting_13 (by decide) ?_
      exact j_zret (pc := 17) X (rfl) dX3_isMeeting_17 ⟨r1 (by simp [inR, c_1, c_9]), rfl⟩

set_option maxHeartbeats 4000000 in
set_option maxRecDepth 100000 in
theorem mX3_add (l : Launch) (G : jG) (qm : Nat) (qm0 : Nat) (qm1 : Nat) (qm2 : Nat) (qm3 : Nat) (qm4 : Nat) (mm : Nat) (tt : Nat) (mb : Nat → Nat) (md : Nat → Nat) (b : Nat) (du : Nat) (hmm : mm < 100) : MV l yX3_add wsX3_add ({ frames := 0, cells := 0, slots := 0, locals := 0 }) G [.ref qm, .int (nI b), .int (nI du)] [(qm, .inr (3, [.ref qm0, .ref qm1, .ref qm2, .ref qm3, .ref qm4, .int (nI mm), .int (nI tt)])), kI G qm0 100 (nF mb), kI G qm1 100 (nF md)] (some (.int (nI mm))) [(qm, .inr (3, [.ref qm0, .ref qm1, .ref qm2, .ref qm3, .ref qm4, .int (nI (mm + 1)), .int (nI tt)])), kI G qm0 100 (nF (va_up mb mm b)), kI G qm1 100 (nF (va_up md mm du))] := by
  refine MF.ofJ (cc := cX3_add) (maxL := 3) (ret := (some .int)) (own := RX3) (lv := [(0, .ref qm), (1, .int (nI b)), (2, .int (nI du))]) (by decide) rfl rfl (Nat.le_of_ble_eq_true rfl) rfl ?_
  intro κ X
  have i_X3 : ∀ w ∈ wsX30, w ∈ wsX3_add := by decide +kernel
  refine j_aload_n (pc := 0) X dX3_add_0 rfl 0 rfl ?_
  refine j_get (pc := 1) X 3 i_X3 0 rfl rfl 0 (by decide) (by decide +kernel) rfl dX3_add_1 ?_
  refine j_aload_n (pc := 4) X dX3_add_4 rfl 0 rfl ?_
  refine j_get (pc := 5) X 3 i_X3 0 rfl rfl 5 (by decide) (by decide +kernel) rfl dX3_add_5 ?_
  refine j_iload_n (pc := 8) X dX3_add_8 rfl 1 rfl ?_
  refine j_iast (pc := 9) X (f2 := (nF (va_up mb mm b))) (ws' := [(qm, .inr (3, [.ref qm0, .ref qm1, .ref qm2, .ref qm3, .ref qm4, .int (nI mm), .int (nI tt)])), kI G qm0 100 (nF (va_up mb mm b)), kI G qm1 100 (nF md)]) 1 rfl (vp_in_nI (by omega) (by decide)) dX3_add_9 (by rw [nI_clamp (by omega)]; exact nF_up mb mm b) rfl ?_
  refine j_aload_n (pc := 10) X dX3_add_10 rfl 0 rfl ?_
  refine j_get (pc := 11) X 3 i_X3 0 rfl rfl 1 (by decide) (by decide +kernel) rfl dX3_add_11 ?_
  refine j_aload_n (pc := 14) X dX3_add_14 rfl 0 rfl ?_
  refine j_get (pc := 15) X 3 i_X3 0 rfl rfl 5 (by decide) (by decide +kernel) rfl dX3_add_15 ?_
  refine j_iload_n (pc := 18) X dX3_add_18 rfl 2 rfl ?_
  refine j_iast (pc := 19) X (f2 := (nF (va_up md mm du))) (ws' := [(qm, .inr (3, [.ref qm0, .ref qm1, .ref qm2, .ref qm3, .ref qm4, .int (nI mm), .int (nI tt)])), kI G qm0 100 (nF (va_up mb mm b)), kI G qm1 100 (nF (va_up md mm du))]) 2 rfl (vp_in_nI (by omega) (by decide)) dX3_add_19 (by rw [nI_clamp (by omega)]; exact nF_up md mm du) rfl ?_
  refine j_aload_n (pc := 20) X dX3_add_20 rfl 0 rfl ?_
  refine j_dup (pc := 21) X dX3_add_21 rfl ?_
  refine j_get (pc := 22) X 3 i_X3 0 rfl rfl 5 (by decide) (by decide +kernel) rfl dX3_add_22 ?_
  refine j_iconst (pc := 25) X (v := nI 1) dX3_add_25 (by decide) ?_
  refine j_iadd (pc := 26) X dX3_add_26 ?_
  refine j_topi (z := nI (mm + 1)) (nI_add _ _) ?_
  refine j_put (pc := 27) X (v := .int (nI (mm + 1))) (ws' := [(qm, .inr (3, [.ref qm0, .ref qm1, .ref qm2, .ref qm3, .ref qm4, .int (nI (mm + 1)), .int (nI tt)])), kI G qm0 100 (nF (va_up mb mm b)), kI G qm1 100 (nF (va_up md mm du))]) 3 i_X3 tyX3 tyX3_ok nmX3 0 rfl rfl 5 (by decide) (by decide +kernel) (by decide) (rfl) (rfl) (Nat.le_of_ble_eq_true rfl) dX3_add_27 rfl ?_
  refine j_aload_n (pc := 30) X dX3_add_30 rfl 0 rfl ?_
  refine j_get (pc := 31) X 3 i_X3 0 rfl rfl 5 (by decide) (by decide +kernel) rfl dX3_add_31 ?_
  refine j_iconst (pc := 34) X (v := nI 1) dX3_add_34 (by decide) ?_
  refine j_isub (pc := 35) X dX3_add_35 ?_
  refine j_topi (z := nI (mm + 1 - 1)) (pk_sub (by omega)) ?_
  exact j_iret (pc := 36) X dX3_add_36 ⟨by simp, rfl⟩

set_option maxHeartbeats 4000000 in
set_option maxRecDepth 100000 in
theorem mX3_addTelling (l : Launch) (G : jG) (qm : Nat) (qm0 : Nat) (qm1 : Nat) (qm2 : Nat) (qm3 : Nat) (qm4 : Nat) (mm : Nat) (tt : Nat) (tm : Nat → Nat) (td : Nat → Nat) (tk : Nat → Bool) (m : Nat) (day : Nat) (kp : Bool) (htt : tt < 200) : MV l yX3_addTelling wsX3_addTelling ({ frames := 0, cells := 0, slots := 0, locals := 0 }) G [.ref qm, .int (nI m), .int (b2i kp), .int (nI day)] [(qm, .inr (3, [.ref qm0, .ref qm1, .ref qm2, .ref qm3, .ref qm4, .int (nI mm), .int (nI tt)])), kI G qm2 200 (nF tm), kI G qm3 200 (nF td), kZ G qm4 200 (bF tk)] (none) [(qm, .inr (3, [.ref qm0, .ref qm1, .ref qm2, .ref qm3, .ref qm4, .int (nI mm), .int (nI (tt + 1))])), kI G qm2 200 (nF (va_up tm tt m)), kI G qm3 200 (nF (va_up td tt day)), kZ G qm4 200 (bF (va_up tk tt kp))] := by
  refine MF.ofJ (cc := cX3_addTelling) (maxL := 4) (ret := none) (own := RX3) (lv := [(0, .ref qm), (1, .int (nI m)), (2, .int (b2i kp)), (3, .int (nI day))]) (by decide) rfl rfl (Nat.le_of_ble_eq_true rfl) rfl ?_
  intro κ X
  have i_X3 : ∀ w ∈ wsX30, w ∈ wsX3_addTelling := by decide +kernel
  refine j_aload_n (pc := 0) X dX3_addTelling_0 rfl 0 rfl ?_
  refine j_get (pc := 1) X 3 i_X3 0 rfl rfl 2 (by decide) (by decide +kernel) rfl dX3_addTelling_1 ?_
  refine j_aload_n (pc := 4) X dX3_addTelling_4 rfl 0 rfl ?_
  refine j_get (pc := 5) X 3 i_X3 0 rfl rfl 6 (by decide) (by decide +kernel) rfl dX3_addTelling_5 ?_
  refine j_iload_n (pc := 8) X dX3_addTelling_8 rfl 1 rfl ?_
  refine j_iast (pc := 9) X (f2 := (nF (va_up tm tt m))) (ws' := [(qm, .inr (3, [.ref qm0, .ref qm1, .ref qm2, .ref qm3, .ref qm4, .int (nI mm), .int (nI tt)])), kI G qm2 200 (nF (va_up tm tt m)), kI G qm3 200 (nF td), kZ G qm4 200 (bF tk)]) 1 rfl (vp_in_nI (by omega) (by decide)) dX3_addTelling_9 (by rw [nI_clamp (by omega)]; exact nF_up tm tt m) rfl ?_
  refine j_aload_n (pc := 10) X dX3_addTelling_10 rfl 0 rfl ?_
  refine j_get (pc := 11) X 3 i_X3 0 rfl rfl 4 (by decide) (by decide +kernel) rfl dX3_addTelling_11 ?_
  refine j_aload_n (pc := 14) X dX3_addTelling_14 rfl 0 rfl ?_
  refine j_get (pc := 15) X 3 i_X3 0 rfl rfl 6 (by decide) (by decide +kernel) rfl dX3_addTelling_15 ?_
  refine j_iload_n (pc := 18) X dX3_addTelling_18 rfl 2 rfl ?_
  refine j_zast (pc := 19) X (f2 := (bF (va_up tk tt kp))) (ws' := [(qm, .inr (3, [.ref qm0, .ref qm1, .ref qm2, .ref qm3, .ref qm4, .int (nI mm), .int (nI tt)])), kI G qm2 200 (nF (va_up tm tt m)), kI G qm3 200 (nF td), kZ G qm4 200 (bF (va_up tk tt kp))]) 3 rfl (vp_in_nI (by omega) (by decide)) dX3_addTelling_19 (b2i_vnar _) (by rw [nI_clamp (by omega)]; exact bF_up tk tt kp) rfl ?_
  refine j_aload_n (pc := 20) X dX3_addTelling_20 rfl 0 rfl ?_
  refine j_get (pc := 21) X 3 i_X3 0 rfl rfl 3 (by decide) (by decide +kernel) rfl dX3_addTelling_21 ?_
  refine j_aload_n (pc := 24) X dX3_addTelling_24 rfl 0 rfl ?_
  refine j_get (pc := 25) X 3 i_X3 0 rfl rfl 6 (by decide) (by decide +kernel) rfl dX3_addTelling_25 ?_
  refine j_iload_n (pc := 28) X dX3_addTelling_28 rfl 3 rfl ?_
  refine j_iast (pc := 29) X (f2 := (nF (va_up td tt day))) (ws' := [(qm, .inr (3, [.ref qm0, .ref qm1, .ref qm2, .ref qm3, .ref qm4, .int (nI mm), .int (nI tt)])), kI G qm2 200 (nF (va_up tm tt m)), kI G qm3 200 (nF (va_up td tt day)), kZ G qm4 200 (bF (va_up tk tt kp))]) 2 rfl (vp_in_nI (by omega) (by decide)) dX3_addTelling_29 (by rw [nI_clamp (by omega)]; exact nF_up td tt day) rfl ?_
  refine j_aload_n (pc := 30) X dX3_addTelling_30 rfl 0 rfl ?_
  refine j_dup (pc := 31) X dX3_addTelling_31 rfl ?_
  refine j_get (pc := 32) X 3 i_X3 0 rfl rfl 6 (by decide) (by decide +kernel) rfl dX3_addTelling_32 ?_
  refine j_iconst (pc := 35) X (v := nI 1) dX3_addTelling_35 (by decide) ?_
  refine j_iadd (pc := 36) X dX3_addTelling_36 ?_
  refine j_topi (z := nI (tt + 1)) (nI_add _ _) ?_
  refine j_put (pc := 37) X (v := .int (nI (tt + 1))) (ws' := [(qm, .inr (3, [.ref qm0, .ref qm1, .ref qm2, .ref qm3, .ref qm4, .int (nI mm), .int (nI (tt + 1))])), kI G qm2 200 (nF (va_up tm tt m)), kI G qm3 200 (nF (va_up td tt day)), kZ G qm4 200 (bF (va_up tk tt kp))]) 3 i_X3 tyX3 tyX3_ok nmX3 0 rfl rfl 6 (by decide) (by decide +kernel) (by decide) (rfl) (rfl) (Nat.le_of_ble_eq_true rfl) dX3_addTelling_37 rfl ?_
  exact j_vret (pc := 40) X dX3_addTelling_40 ⟨rfl, rfl⟩

set_option maxHeartbeats 4000000 in
set_option maxRecDepth 100000 in
theorem mX3_knownOn_L5 (l : Launch) (G : jG) (qm : Nat) (qm0 : Nat) (qm1 : Nat) (qm2 : Nat) (qm3 : Nat) (qm4 : Nat) (mm : Nat) (tt : Nat) (tm : Nat → Nat) (td : Nat → Nat) (tk : Nat → Bool) (m : Nat) (day : Nat) (htt : tt ≤ 200) (htm : ∀ k, tm k < 100) (htd : ∀ k, td k < 10000) (hm : m < 100) (hd : day < 10000) (κ : jK) (X : CX κ l yX3_knownOn cX3_knownOn 6 RX3 wsX3_knownOn (some .int) ({ frames := 0, cells := 0, slots := 0, locals := 0 }) G (va_A [(qm, .inr (3, [.ref qm0, .ref qm1, .ref qm2, .ref qm3, .ref qm4, .int (nI mm), .int (nI tt)])), kI G qm2 200 (nF tm), kI G qm3 200 (nF td), kZ G qm4 200 (bF tk)] (js κ).heap.size))    : ∀ (fu : Nat) (t : Nat) (ct : Option Nat) (ht : t ≤ tt) (hct : ct = knw tm td m day t) (hob : ob 200 ct) (_ : tt - t < fu), JJ κ 6 G (va_A [(qm, .inr (3, [.ref qm0, .ref qm1, .ref qm2, .ref qm3, .ref qm4, .int (nI mm), .int (nI tt)])), kI G qm2 200 (nF tm), kI G qm3 200 (nF td), kZ G qm4 200 (bF tk)] (js κ).heap.size) 0 0 (jQ κ G [(qm, .inr (3, [.ref qm0, .ref qm1, .ref qm2, .ref qm3, .ref qm4, .int (nI mm), .int (nI tt)])), kI G qm2 200 (nF tm), kI G qm3 200 (nF td), kZ G qm4 200 (bF tk)] (fun r w' => r = some (.int (nI (knwS tk (knw tm td m day tt)))) ∧ w' = [(qm, .inr (3, [.ref qm0, .ref qm1, .ref qm2, .ref qm3, .ref qm4, .int (nI mm), .int (nI tt)])), kI G qm2 200 (nF tm), kI G qm3 200 (nF td), kZ G qm4 200 (bF tk)]) 0 0) 5 [(0, .ref qm), (1, .int (nI m)), (2, .int (nI day)), (3, .int (oI ct)), (4, .int (nI t))] [] [(qm, .inr (3, [.ref qm0, .ref qm1, .ref qm2, .ref qm3, .ref qm4, .int (nI mm), .int (nI tt)])), kI G qm2 200 (nF tm), kI G qm3 200 (nF td), kZ G qm4 200 (bF tk)] := by
  have i_X3 : ∀ w ∈ wsX30, w ∈ wsX3_knownOn := by decide +kernel
  intro fu
  induction fu with
  | zero => intro t ct ht hct hob hms; exact absurd hms (Nat.not_lt_zero _)
  | succ fu ih =>
    intro t ct ht hct hob hms
    refine j_iload (pc := 5) X dX3_knownOn_5 4 rfl ?_
    refine j_aload_n (pc := 7) X dX3_knownOn_7 rfl 0 rfl ?_
    refine j_get (pc := 8) X 3 i_X3 0 rfl rfl 6 (by decide) (by decide +kernel) rfl dX3_knownOn_8 ?_
    refine j_icmpN_ge (pc := 11) X (a := t) (b := tt) (by first | omega | exact Nat.lt_of_lt_of_le (htm _) (by decide) | exact Nat.lt_of_lt_of_le (htd _) (by decide)) (by first | omega | exact Nat.lt_of_lt_of_le (htm _) (by decide) | exact Nat.lt_of_lt_of_le (htd _) (by decide)) (tgt := 78) dX3_knownOn_11 (by decide) (fun c_11 => ?_) (fun c_11 => ?_)
    · skip
      refine j_iload_n (pc := 78) X dX3_knownOn_78 rfl 3 rfl ?_
      refine j_iconst (pc := 79) X (v := oI none) dX3_knownOn_79 (by decide) ?_
      refine j_icmpZ_ne (pc := 80) X (a := ct) (by exact hob.big (by decide)) (tgt := 85) dX3_knownOn_80 (by decide) (fun c_80 => ?_) (fun c_80 => ?_)
      · skip
        obtain ⟨w, rfl⟩ := Option.ne_none_iff_exists'.mp c_80; have hw := hob w rfl
        refine j_aload_n (pc := 85) X dX3_knownOn_85 rfl 0 rfl ?_
        refine j_get (pc := 86) X 3 i_X3 0 rfl rfl 4 (by decide) (by decide +kernel) rfl dX3_knownOn_86 ?_
        refine j_iload_n (pc := 89) X dX3_knownOn_89 rfl 3 rfl ?_
        refine j_zald (pc := 90) X 3 rfl (vp_in_nI (by omega) (by decide)) (v := b2i (tk w)) (congrArg (bF tk) (nI_clamp (by omega))) dX3_knownOn_90 ?_
        refine j_ifb_eq (pc := 91) X (B := tk w) (tgt := 98) dX3_knownOn_91 (by decide) (fun c_91 => ?_) (fun c_91 => ?_)
        · skip
          refine j_iconst (pc := 98) X (v := nI 1) dX3_knownOn_98 (by decide) ?_
          exact j_iret (pc := 99) X dX3_knownOn_99 ⟨by rw [show tt = t by omega, ← hct]; simp [knwS, c_11, c_80, c_91], rfl⟩
        · skip
          refine j_iconst (pc := 94) X (v := nI 0) dX3_knownOn_94 (by decide) ?_
          refine j_goto (pc := 95) X (tgt := 99) dX3_knownOn_95 (by decide) ?_
          exact j_iret (pc := 99) X dX3_knownOn_99 ⟨by rw [show tt = t by omega, ← hct]; simp [knwS, c_11, c_80, c_91], rfl⟩
      · skip
        refine j_iconst (pc := 83) X (v := nI 2) dX3_knownOn_83 (by decide) ?_
        exact j_iret (pc := 84) X dX3_knownOn_84 ⟨by rw [show tt = t by omega, ← hct, c_80]; rfl, rfl⟩
    · skip
      refine j_aload_n (pc := 14) X dX3_knownOn_14 rfl 0 rfl ?_
      refine j_get (pc := 15) X 3 i_X3 0 rfl rfl 2 (by decide) (by decide +kernel) rfl dX3_knownOn_15 ?_
      refine j_iload (pc := 18) X dX3_knownOn_18 4 rfl ?_
      refine j_iald (pc := 20) X 1 rfl (vp_in_nI (by omega) (by decide)) (v := nI (tm t)) (congrArg (nF tm) (nI_clamp (by omega))) dX3_knownOn_20 ?_
      refine j_iload_n (pc := 21) X dX3_knownOn_21 rfl 1 rfl ?_
      refine j_icmpN_ne (pc := 22) X (a := (tm t)) (b := m) (by first | omega | exact Nat.lt_of_lt_of_le (htm _) (by decide) | exact Nat.lt_of_lt_of_le (htd _) (by decide)) (by first | omega | exact Nat.lt_of_lt_of_le (htm _) (by decide) | exact Nat.lt_of_lt_of_le (htd _) (by decide)) (tgt := 40) dX3_knownOn_22 (by decide) (fun c_22 => ?_) (fun c_22 => ?_)
      · skip
        refine j_iconst (pc := 40) X (v := nI 0) dX3_knownOn_40 (by decide) ?_
        refine j_istore (pc := 41) X (lv' := [(5, .int (nI 0)), (0, .ref qm), (1, .int (nI m)), (2, .int (nI day)), (3, .int (oI ct)), (4, .int (nI t))]) dX3_knownOn_41 (by decide) rfl ?_
        refine j_iload (pc := 43) X dX3_knownOn_43 0 rfl ?_
        refine j_ifN_eq (pc := 45) X (a := 0) (by first | omega | exact Nat.lt_of_lt_of_le (htm _) (by decide) | exact Nat.lt_of_lt_of_le (htd _) (by decide)) (tgt := 72) dX3_knownOn_45 (by decide) (fun c_45 => ?_) (fun c_45 => ?_)
        · skip
          refine j_iinc (pc := 72) X (v := nI (t + 1)) (lv' := [(4, .int (nI (t + 1))), (5, .int (nI 0)), (0, .ref qm), (1, .int (nI m)), (2, .int (nI day)), (3, .int (oI ct))]) dX3_knownOn_72 5 rfl (nI_1 _) (by decide) rfl ?_
          refine j_goto (pc := 75) X (tgt := 5) dX3_knownOn_75 (by decide) ?_
          refine j_lv [2, 3, 4, 5, 0] (lv' := [(0, .ref qm), (1, .int (nI m)), (2, .int (nI day)), (3, .int (oI ct)), (4, .int (nI (t + 1)))]) rfl ?_
          exact ih (t + 1) ct (by omega) (by simp [knw, knO, ← hct, c_11, c_22, c_45]; try omega) (by first | exact hob | exact ob_s (by omega) | exact ob_n) (by omega)
        · skip
          exact absurd c_45 (by decide)
      · skip
        refine j_aload_n (pc := 25) X dX3_knownOn_25 rfl 0 rfl ?_
        refine j_get (pc := 26) X 3 i_X3 0 rfl rfl 3 (by decide) (by decide +kernel) rfl dX3_knownOn_26 ?_
        refine j_iload (pc := 29) X dX3_knownOn_29 4 rfl ?_
        refine j_iald (pc := 31) X 2 rfl (vp_in_nI (by omega) (by decide)) (v := nI (td t)) (congrArg (nF td) (nI_clamp (by omega))) dX3_knownOn_31 ?_
        refine j_iload_n (pc := 32) X dX3_knownOn_32 rfl 2 rfl ?_
        refine j_icmpN_gt (pc := 33) X (a := (td t)) (b := day) (by first | omega | exact Nat.lt_of_lt_of_le (htm _) (by decide) | exact Nat.lt_of_lt_of_le (htd _) (by decide)) (by first | omega | exact Nat.lt_of_lt_of_le (htm _) (by decide) | exact Nat.lt_of_lt_of_le (htd _) (by decide)) (tgt := 40) dX3_knownOn_33 (by decide) (fun c_33 => ?_) (fun c_33 => ?_)
        · skip
          refine j_iconst (pc := 40) X (v := nI 0) dX3_knownOn_40 (by decide) ?_
          refine j_istore (pc := 41) X (lv' := [(5, .int (nI 0)), (0, .ref qm), (1, .int (nI m)), (2, .int (nI day)), (3, .int (oI ct)), (4, .int (nI t))]) dX3_knownOn_41 (by decide) rfl ?_
          refine j_iload (pc := 43) X dX3_knownOn_43 0 rfl ?_
          refine j_ifN_eq (pc := 45) X (a := 0) (by first | omega | exact Nat.lt_of_lt_of_le (htm _) (by decide) | exact Nat.lt_of_lt_of_le (htd _) (by decide)) (tgt := 72) dX3_knownOn_45 (by decide) (fun c_45 => ?_) (fun c_45 => ?_)
          · skip
            refine j_iinc (pc := 72) X (v := nI (t + 1)) (lv' := [(4, .int (nI (t + 1))), (5, .int (nI 0)), (0, .ref qm), (1, .int (nI m)), (2, .int (nI day)), (3, .int (oI ct))]) dX3_knownOn_72 5 rfl (nI_1 _) (by decide) rfl ?_
            refine j_goto (pc := 75) X (tgt := 5) dX3_knownOn_75 (by decide) ?_
            refine j_lv [2, 3, 4, 5, 0] (lv' := [(0, .ref qm), (1, .int (nI m)), (2, .int (nI day)), (3, .int (oI ct)), (4, .int (nI (t + 1)))]) rfl ?_
            exact ih (t + 1) ct (by omega) (by simp [knw, knO, ← hct, c_11, c_22, c_33, c_45]; try omega) (by first | exact hob | exact ob_s (by omega) | exact ob_n) (by omega)
          · skip
            exact absurd c_45 (by decide)
        · skip
          refine j_iconst (pc := 36) X (v := nI 1) dX3_knownOn_36 (by decide) ?_
          refine j_goto (pc := 37) X (tgt := 41) dX3_knownOn_37 (by decide) ?_
          refine j_istore (pc := 41) X (lv' := [(5, .int (nI 1)), (0, .ref qm), (1, .int (nI m)), (2, .int (nI day)), (3, .int (oI ct)), (4, .int (nI t))]) dX3_knownOn_41 (by decide) rfl ?_
          refine j_iload (pc := 43) X dX3_knownOn_43 0 rfl ?_
          refine j_ifN_eq (pc := 45) X (a := 1) (by first | omega | exact Nat.lt_of_lt_of_le (htm _) (by decide) | exact Nat.lt_of_lt_of_le (htd _) (by decide)) (tgt := 72) dX3_knownOn_45 (by decide) (fun c_45 => ?_) (fun c_45 => ?_)
          · skip
            exact absurd c_45 (by decide)
          · skip
            refine j_iload_n (pc := 48) X dX3_knownOn_48 rfl 4 rfl ?_
            refine j_iconst (pc := 49) X (v := oI none) dX3_knownOn_49 (by decide) ?_
            refine j_icmpZ_eq (pc := 50) X (a := ct) (by exact hob.big (by decide)) (tgt := 69) dX3_knownOn_50 (by decide) (fun c_50 => ?_) (fun c_50 => ?_)
            · skip
              refine j_iload (pc := 69) X dX3_knownOn_69 5 rfl ?_
              refine j_istore_n (pc := 71) X (lv' := [(3, .int (nI t)), (5, .int (nI 1)), (0, .ref qm), (1, .int (nI m)), (2, .int (nI day)), (4, .int (nI t))]) dX3_knownOn_71 rfl (by decide) rfl ?_
              refine j_iinc (pc := 72) X (v := nI (t + 1)) (lv' := [(4, .int (nI (t + 1))), (3, .int (nI t)), (5, .int (nI 1)), (0, .ref qm), (1, .int (nI m)), (2, .int (nI day))]) dX3_knownOn_72 5 rfl (nI_1 _) (by decide) rfl ?_
              refine j_goto (pc := 75) X (tgt := 5) dX3_knownOn_75 (by decide) ?_
              refine j_lv [3, 4, 5, 1, 0] (lv' := [(0, .ref qm), (1, .int (nI m)), (2, .int (nI day)), (3, .int (nI t)), (4, .int (nI (t + 1)))]) rfl ?_
              refine j_lvq (lv' := [(0, .ref qm), (1, .int (nI m)), (2, .int (nI day)), (3, .int (oI (some t))), (4, .int (nI (t + 1)))]) rfl ?_
              exact ih (t + 1) (some t) (by omega) (by simp [knw, knO, ← hct, c_11, c_22, c_33, c_45, c_50]; try omega) (by first | exact hob | exact ob_s (by omega) | exact ob_n) (by omega)
            · skip
              obtain ⟨w, rfl⟩ := Option.ne_none_iff_exists'.mp c_50; have hw := hob w rfl
              refine j_aload_n (pc := 53) X dX3_knownOn_53 rfl 1 rfl ?_
              refine j_get (pc := 54) X 3 i_X3 0 rfl rfl 3 (by decide) (by decide +kernel) rfl dX3_knownOn_54 ?_
              refine j_iload (pc := 57) X dX3_knownOn_57 5 rfl ?_
              refine j_iald (pc := 59) X 2 rfl (vp_in_nI (by omega) (by decide)) (v := nI (td t)) (congrArg (nF td) (nI_clamp (by omega))) dX3_knownOn_59 ?_
              refine j_aload_n (pc := 60) X dX3_knownOn_60 rfl 1 rfl ?_
              refine j_get (pc := 61) X 3 i_X3 0 rfl rfl 3 (by decide) (by decide +kernel) rfl dX3_knownOn_61 ?_
              refine j_iload_n (pc := 64) X dX3_knownOn_64 rfl 4 rfl ?_
              refine j_iald (pc := 65) X 2 rfl (vp_in_nI (by omega) (by decide)) (v := nI (td w)) (congrArg (nF td) (nI_clamp (by omega))) dX3_knownOn_65 ?_
              refine j_icmpN_lt (pc := 66) X (a := (td t)) (b := (td w)) (by first | omega | exact Nat.lt_of_lt_of_le (htm _) (by decide) | exact Nat.lt_of_lt_of_le (htd _) (by decide)) (by first | omega | exact Nat.lt_of_lt_of_le (htm _) (by decide) | exact Nat.lt_of_lt_of_le (htd _) (by decide)) (tgt := 72) dX3_knownOn_66 (by decide) (fun c_66 => ?_) (fun c_66 => ?_)
              · skip
                refine j_iinc (pc := 72) X (v := nI (t + 1)) (lv' := [(4, .int (nI (t + 1))), (5, .int (nI 1)), (0, .ref qm), (1, .int (nI m)), (2, .int (nI day)), (3, .int (nI w))]) dX3_knownOn_72 5 rfl (nI_1 _) (by decide) rfl ?_
                refine j_goto (pc := 75) X (tgt := 5) dX3_knownOn_75 (by decide) ?_
                refine j_lv [2, 3, 4, 5, 0] (lv' := [(0, .ref qm), (1, .int (nI m)), (2, .int (nI day)), (3, .int (nI w)), (4, .int (nI (t + 1)))]) rfl ?_
                refine j_lvq (lv' := [(0, .ref qm), (1, .int (nI m)), (2, .int (nI day)), (3, .int (oI (some w))), (4, .int (nI (t + 1)))]) rfl ?_
                exact ih (t + 1) (some w) (by omega) (by simp [knw, knO, ← hct, c_11, c_22, c_33, c_45, c_50, c_66]; try omega) (by first | exact hob | exact ob_s (by omega) | exact ob_n) (by omega)
              · skip
                refine j_iload (pc := 69) X dX3_knownOn_69 5 rfl ?_
                refine j_istore_n (pc := 71) X (lv' := [(3, .int (nI t)), (5, .int (nI 1)), (0, .ref qm), (1, .int (nI m)), (2, .int (nI day)), (4, .int (nI t))]) dX3_knownOn_71 rfl (by decide) rfl ?_
                refine j_iinc (pc := 72) X (v := nI (t + 1)) (lv' := [(4, .int (nI (t + 1))), (3, .int (nI t)), (5, .int (nI 1)), (0, .ref qm), (1, .int (nI m)), (2, .int (nI day))]) dX3_knownOn_72 5 rfl (nI_1 _) (by decide) rfl ?_
                refine j_goto (pc := 75) X (tgt := 5) dX3_knownOn_75 (by decide) ?_
                refine j_lv [3, 4, 5, 1, 0] (lv' := [(0, .ref qm), (1, .int (nI m)), (2, .int (nI day)), (3, .int (nI t)), (4, .int (nI (t + 1)))]) rfl ?_
                refine j_lvq (lv' := [(0, .ref qm), (1, .int (nI m)), (2, .int (nI day)), (3, .int (oI (some t))), (4, .int (nI (t + 1)))]) rfl ?_
                exact ih (t + 1) (some t) (by omega) (by simp [knw, knO, ← hct, c_11, c_22, c_33, c_45, c_50, c_66]; try omega) (by first | exact hob | exact ob_s (by omega) | exact ob_n) (by omega)
set_option maxHeartbeats 4000000 in
set_option maxRecDepth 100000 in
theorem mX3_knownOn (l : Launch) (G : jG) (qm : Nat) (qm0 : Nat) (qm1 : Nat) (qm2 : Nat) (qm3 : Nat) (qm4 : Nat) (mm : Nat) (tt : Nat) (tm : Nat → Nat) (td : Nat → Nat) (tk : Nat → Bool) (m : Nat) (day : Nat) (htt : tt ≤ 200) (htm : ∀ k, tm k < 100) (htd : ∀ k, td k < 10000) (hm : m < 100) (hd : day < 10000) : MV l yX3_knownOn wsX3_knownOn ({ frames := 0, cells := 0, slots := 0, locals := 0 }) G [.ref qm, .int (nI m), .int (nI day)] [(qm, .inr (3, [.ref qm0, .ref qm1, .ref qm2, .ref qm3, .ref qm4, .int (nI mm), .int (nI tt)])), kI G qm2 200 (nF tm), kI G qm3 200 (nF td), kZ G qm4 200 (bF tk)] (some (.int (nI (knwS tk (knw tm td m day tt))))) [(qm, .inr (3, [.ref qm0, .ref qm1, .ref qm2, .ref qm3, .ref qm4, .int (nI mm), .int (nI tt)])), kI G qm2 200 (nF tm), kI G qm3 200 (nF td), kZ G qm4 200 (bF tk)] := by
  refine MF.ofJ (cc := cX3_knownOn) (maxL := 6) (ret := (some .int)) (own := RX3) (lv := [(0, .ref qm), (1, .int (nI m)), (2, .int (nI day))]) (by decide) rfl rfl (Nat.le_of_ble_eq_true rfl) rfl ?_
  intro κ X
  have i_X3 : ∀ w ∈ wsX30, w ∈ wsX3_knownOn := by decide +kernel
  refine j_iconst (pc := 0) X (v := oI none) dX3_knownOn_0 (by decide) ?_
  refine j_istore_n (pc := 1) X (lv' := [(3, .int (oI none)), (0, .ref qm), (1, .int (nI m)), (2, .int (nI day))]) dX3_knownOn_1 rfl (by decide) rfl ?_
  refine j_iconst (pc := 2) X (v := nI 0) dX3_knownOn_2 (by decide) ?_
  refine j_istore (pc := 3) X (lv' := [(4, .int (nI 0)), (3, .int (oI none)), (0, .ref qm), (1, .int (nI m)), (2, .int (nI day))]) dX3_knownOn_3 (by decide) rfl ?_
  refine j_lv [2, 3, 4, 1, 0] (lv' := [(0, .ref qm), (1, .int (nI m)), (2, .int (nI day)), (3, .int (oI none)), (4, .int (nI 0))]) rfl ?_
  exact mX3_knownOn_L5 l G qm qm0 qm1 qm2 qm3 qm4 mm tt tm td tk m day htt htm htd hm hd κ X    (tt - 0 + 1) 0 none (by omega) (by rfl) (ob_n) (Nat.lt_succ_self _)

set_option maxHeartbeats 4000000 in
set_option maxRecDepth 100000 in
theorem mX3_count_L6 (l : Launch) (G : jG) (qm : Nat) (qm0 : Nat) (qm1 : Nat) (qm2 : Nat) (qm3 : Nat) (qm4 : Nat) (mm : Nat) (tt : Nat) (mb : Nat → Nat) (md : Nat → Nat) (tm : Nat → Nat) (td : Nat → Nat) (tk : Nat → Bool) (b : Nat) (day : Nat) (w : Nat) (hmm : mm ≤ 100) (htt : tt ≤ 200) (htm : ∀ k, tm k < 100) (htd : ∀ k, td k < 10000) (hb : b < 16) (hd : day < 10000) (hw : w ≤ 2) (hmb : ∀ k, mb k < 16) (hmd : ∀ k, md k < 10000) (κ : jK) (X : CX κ l yX3_count cX3_count 6 RX3 wsX3_count (some .int) ({ frames := 1, cells := 0, slots := 0, locals := 25 }) G (va_A [(qm, .inr (3, [.ref qm0, .ref qm1, .ref qm2, .ref qm3, .ref qm4, .int (nI mm), .int (nI tt)])), kI G qm0 100 (nF mb), kI G qm1 100 (nF md), kI G qm2 200 (nF tm), kI G qm3 200 (nF td), kZ G qm4 200 (bF tk)] (js κ).heap.size))    : ∀ (fu : Nat) (m : Nat) (hm : m ≤ mm) (_ : mm - m < fu), JJ κ 6 G (va_A [(qm, .inr (3, [.ref qm0, .ref qm1, .ref qm2, .ref qm3, .ref qm4, .int (nI mm), .int (nI tt)])), kI G qm0 100 (nF mb), kI G qm1 100 (nF md), kI G qm2 200 (nF tm), kI G qm3 200 (nF td), kZ G qm4 200 (bF tk)] (js κ).heap.size) 0 0 (jQ κ G [(qm, .inr (3, [.ref qm0, .ref qm1, .ref qm2, .ref qm3, .ref qm4, .int (nI mm), .int (nI tt)])), kI G qm0 100 (nF mb), kI G qm1 100 (nF md), kI G qm2 200 (nF tm), kI G qm3 200 (nF td), kZ G qm4 200 (bF tk)] (fun r w' => r = some (.int (nI (metC mb md tm td tk tt b day w mm))) ∧ w' = [(qm, .inr (3, [.ref qm0, .ref qm1, .ref qm2, .ref qm3, .ref qm4, .int (nI mm), .int (nI tt)])), kI G qm0 100 (nF mb), kI G qm1 100 (nF md), kI G qm2 200 (nF tm), kI G qm3 200 (nF td), kZ G qm4 200 (bF tk)]) 0 0) 6 [(0, .ref qm), (1, .int (nI b)), (2, .int (nI day)), (3, .int (nI w)), (4, .int (nI (metC mb md tm td tk tt b day w m))), (5, .int (nI m))] [] [(qm, .inr (3, [.ref qm0, .ref qm1, .ref qm2, .ref qm3, .ref qm4, .int (nI mm), .int (nI tt)])), kI G qm0 100 (nF mb), kI G qm1 100 (nF md), kI G qm2 200 (nF tm), kI G qm3 200 (nF td), kZ G qm4 200 (bF tk)] := by
  have i_X3 : ∀ w ∈ wsX30, w ∈ wsX3_count := by decide +kernel
  intro fu
  induction fu with
  | zero => intro m hm hms; exact absurd hms (Nat.not_lt_zero _)
  | succ fu ih =>
    intro m hm hms
    refine j_iload (pc := 6) X dX3_count_6 5 rfl ?_
    refine j_aload_n (pc := 8) X dX3_count_8 rfl 0 rfl ?_
    refine j_get (pc := 9) X 3 i_X3 0 rfl rfl 5 (by decide) (by decide +kernel) rfl dX3_count_9 ?_
    refine j_icmpN_ge (pc := 12) X (a := m) (b := mm) (by first | omega | exact Nat.lt_of_lt_of_le (hmb _) (by decide) | exact Nat.lt_of_lt_of_le (hmd _) (by decide) | (simp only [knwS]; split <;> (try split) <;> decide)) (by first | omega | exact Nat.lt_of_lt_of_le (hmb _) (by decide) | exact Nat.lt_of_lt_of_le (hmd _) (by decide) | (simp only [knwS]; split <;> (try split) <;> decide)) (tgt := 57) dX3_count_12 (by decide) (fun c_12 => ?_) (fun c_12 => ?_)
    · skip
      refine j_iload (pc := 57) X dX3_count_57 4 rfl ?_
      exact j_iret (pc := 59) X dX3_count_59 ⟨by rw [show m = mm by omega], rfl⟩
    · skip
      refine j_aload_n (pc := 15) X dX3_count_15 rfl 0 rfl ?_
      refine j_get (pc := 16) X 3 i_X3 0 rfl rfl 0 (by decide) (by decide +kernel) rfl dX3_count_16 ?_
      refine j_iload (pc := 19) X dX3_count_19 5 rfl ?_
      refine j_iald (pc := 21) X 1 rfl (vp_in_nI (by omega) (by decide)) (v := nI (mb m)) (congrArg (nF mb) (nI_clamp (by omega))) dX3_count_21 ?_
      refine j_iload_n (pc := 22) X dX3_count_22 rfl 1 rfl ?_
      refine j_icmpN_ne (pc := 23) X (a := (mb m)) (b := b) (by first | omega | exact Nat.lt_of_lt_of_le (hmb _) (by decide) | exact Nat.lt_of_lt_of_le (hmd _) (by decide) | (simp only [knwS]; split <;> (try split) <;> decide)) (by first | omega | exact Nat.lt_of_lt_of_le (hmb _) (by decide) | exact Nat.lt_of_lt_of_le (hmd _) (by decide) | (simp only [knwS]; split <;> (try split) <;> decide)) (tgt := 51) dX3_count_23 (by decide) (fun c_23 => ?_) (fun c_23 => ?_)
      · skip
        refine j_iinc (pc := 51) X (v := nI (m + 1)) (lv' := [(5, .int (nI (m + 1))), (0, .ref qm), (1, .int (nI b)), (2, .int (nI day)), (3, .int (nI w)), (4, .int (nI (metC mb md tm td tk tt b day w m)))]) dX3_count_51 5 rfl (nI_1 _) (by decide) rfl ?_
        refine j_goto (pc := 54) X (tgt := 6) dX3_count_54 (by decide) ?_
        refine j_lv [1, 2, 3, 4, 5, 0] (lv' := [(0, .ref qm), (1, .int (nI b)), (2, .int (nI day)), (3, .int (nI w)), (4, .int (nI (metC mb md tm td tk tt b day w m))), (5, .int (nI (m + 1)))]) rfl ?_
        refine j_lvq (lv' := [(0, .ref qm), (1, .int (nI b)), (2, .int (nI day)), (3, .int (nI w)), (4, .int (nI (metC mb md tm td tk tt b day w (m + 1)))), (5, .int (nI (m + 1)))]) ?_ ?_
        · rw [show (metC mb md tm td tk tt b day w m) = metC mb md tm td tk tt b day w (m + 1) from by (simp only [metC]; split <;> omega)]
        exact ih (m + 1) (by omega) (by omega)
      · skip
        refine j_aload_n (pc := 26) X dX3_count_26 rfl 0 rfl ?_
        refine j_get (pc := 27) X 3 i_X3 0 rfl rfl 1 (by decide) (by decide +kernel) rfl dX3_count_27 ?_
        refine j_iload (pc := 30) X dX3_count_30 5 rfl ?_
        refine j_iald (pc := 32) X 2 rfl (vp_in_nI (by omega) (by decide)) (v := nI (md m)) (congrArg (nF md) (nI_clamp (by omega))) dX3_count_32 ?_
        refine j_iload_n (pc := 33) X dX3_count_33 rfl 2 rfl ?_
        refine j_icmpN_gt (pc := 34) X (a := (md m)) (b := day) (by first | omega | exact Nat.lt_of_lt_of_le (hmb _) (by decide) | exact Nat.lt_of_lt_of_le (hmd _) (by decide) | (simp only [knwS]; split <;> (try split) <;> decide)) (by first | omega | exact Nat.lt_of_lt_of_le (hmb _) (by decide) | exact Nat.lt_of_lt_of_le (hmd _) (by decide) | (simp only [knwS]; split <;> (try split) <;> decide)) (tgt := 51) dX3_count_34 (by decide) (fun c_34 => ?_) (fun c_34 => ?_)
        · skip
          refine j_iinc (pc := 51) X (v := nI (m + 1)) (lv' := [(5, .int (nI (m + 1))), (0, .ref qm), (1, .int (nI b)), (2, .int (nI day)), (3, .int (nI w)), (4, .int (nI (metC mb md tm td tk tt b day w m)))]) dX3_count_51 5 rfl (nI_1 _) (by decide) rfl ?_
          refine j_goto (pc := 54) X (tgt := 6) dX3_count_54 (by decide) ?_
          refine j_lv [1, 2, 3, 4, 5, 0] (lv' := [(0, .ref qm), (1, .int (nI b)), (2, .int (nI day)), (3, .int (nI w)), (4, .int (nI (metC mb md tm td tk tt b day w m))), (5, .int (nI (m + 1)))]) rfl ?_
          refine j_lvq (lv' := [(0, .ref qm), (1, .int (nI b)), (2, .int (nI day)), (3, .int (nI w)), (4, .int (nI (metC mb md tm td tk tt b day w (m + 1)))), (5, .int (nI (m + 1)))]) ?_ ?_
          · rw [show (metC mb md tm td tk tt b day w m) = metC mb md tm td tk tt b day w (m + 1) from by (simp only [metC]; split <;> omega)]
          exact ih (m + 1) (by omega) (by omega)
        · skip
          refine j_aload_n (pc := 37) X dX3_count_37 rfl 0 rfl ?_
          refine j_iload (pc := 38) X dX3_count_38 5 rfl ?_
          refine j_iload_n (pc := 40) X dX3_count_40 rfl 2 rfl ?_
          refine j_ciP (pc := 41) X [0, 3, 4, 5] rfl (j_rV X (b := qm) (As := [.int (nI m), .int (nI day)]) (ci := 3) (rest := []) 2 (mX3_knownOn l G qm qm0 qm1 qm2 qm3 qm4 mm tt tm td tk m day (by first | assumption | omega | exact ob_s (by omega) | exact ob_n) (by first | assumption | omega | exact ob_s (by omega) | exact ob_n) (by first | assumption | omega | exact ob_s (by omega) | exact ob_n) (by first | assumption | omega | exact ob_s (by omega) | exact ob_n) (by first | assumption | omega | exact ob_s (by omega) | exact ob_n)) gX3_count_X3_knownOn rfl rfl rfl (by decide +kernel) ⟨Nat.le_of_ble_eq_true rfl, Nat.le_of_ble_eq_true rfl⟩ rfl rfl 0 rfl [0, 3, 4, 5] rfl rfl rfl (Nat.le_of_ble_eq_true rfl) dX3_count_41 ⟨Nat.le_of_ble_eq_true rfl, Nat.le_of_ble_eq_true rfl⟩) ?_
          refine j_iload_n (pc := 44) X dX3_count_44 rfl 3 rfl ?_
          refine j_icmpN_ne (pc := 45) X (a := (knwS tk (knw tm td m day tt))) (b := w) (by first | omega | exact Nat.lt_of_lt_of_le (hmb _) (by decide) | exact Nat.lt_of_lt_of_le (hmd _) (by decide) | (simp only [knwS]; split <;> (try split) <;> decide)) (by first | omega | exact Nat.lt_of_lt_of_le (hmb _) (by decide) | exact Nat.lt_of_lt_of_le (hmd _) (by decide) | (simp only [knwS]; split <;> (try split) <;> decide)) (tgt := 51) dX3_count_45 (by decide) (fun c_45 => ?_) (fun c_45 => ?_)
          · skip
            refine j_iinc (pc := 51) X (v := nI (m + 1)) (lv' := [(5, .int (nI (m + 1))), (0, .ref qm), (1, .int (nI b)), (2, .int (nI day)), (3, .int (nI w)), (4, .int (nI (metC mb md tm td tk tt b day w m)))]) dX3_count_51 5 rfl (nI_1 _) (by decide) rfl ?_
            refine j_goto (pc := 54) X (tgt := 6) dX3_count_54 (by decide) ?_
            refine j_lv [1, 2, 3, 4, 5, 0] (lv' := [(0, .ref qm), (1, .int (nI b)), (2, .int (nI day)), (3, .int (nI w)), (4, .int (nI (metC mb md tm td tk tt b day w m))), (5, .int (nI (m + 1)))]) rfl ?_
            refine j_lvq (lv' := [(0, .ref qm), (1, .int (nI b)), (2, .int (nI day)), (3, .int (nI w)), (4, .int (nI (metC mb md tm td tk tt b day w (m + 1)))), (5, .int (nI (m + 1)))]) ?_ ?_
            · rw [show (metC mb md tm td tk tt b day w m) = metC mb md tm td tk tt b day w (m + 1) from by (simp only [metC]; split <;> omega)]
            exact ih (m + 1) (by omega) (by omega)
          · skip
            refine j_iinc (pc := 48) X (v := nI (metC mb md tm td tk tt b day w m + 1)) (lv' := [(4, .int (nI (metC mb md tm td tk tt b day w m + 1))), (0, .ref qm), (1, .int (nI b)), (2, .int (nI day)), (3, .int (nI w)), (5, .int (nI m))]) dX3_count_48 4 rfl (nI_1 _) (by decide) rfl ?_
            refine j_iinc (pc := 51) X (v := nI (m + 1)) (lv' := [(5, .int (nI (m + 1))), (4, .int (nI (metC mb md tm td tk tt b day w m + 1))), (0, .ref qm), (1, .int (nI b)), (2, .int (nI day)), (3, .int (nI w))]) dX3_count_51 5 rfl (nI_1 _) (by decide) rfl ?_
            refine j_goto (pc := 54) X (tgt := 6) dX3_count_54 (by decide) ?_
            refine j_lv [2, 3, 4, 5, 1, 0] (lv' := [(0, .ref qm), (1, .int (nI b)), (2, .int (nI day)), (3, .int (nI w)), (4, .int (nI (metC mb md tm td tk tt b day w m + 1))), (5, .int (nI (m + 1)))]) rfl ?_
            refine j_lvq (lv' := [(0, .ref qm), (1, .int (nI b)), (2, .int (nI day)), (3, .int (nI w)), (4, .int (nI (metC mb md tm td tk tt b day w (m + 1)))), (5, .int (nI (m + 1)))]) ?_ ?_
            · rw [show (metC mb md tm td tk tt b day w m + 1) = metC mb md tm td tk tt b day w (m + 1) from by (simp only [metC]; split <;> omega)]
            exact ih (m + 1) (by omega) (by omega)
set_option maxHeartbeats 4000000 in
set_option maxRecDepth 100000 in
theorem mX3_count (l : Launch) (G : jG) (qm : Nat) (qm0 : Nat) (qm1 : Nat) (qm2 : Nat) (qm3 : Nat) (qm4 : Nat) (mm : Nat) (tt : Nat) (mb : Nat → Nat) (md : Nat → Nat) (tm : Nat → Nat) (td : Nat → Nat) (tk : Nat → Bool) (b : Nat) (day : Nat) (w : Nat) (hmm : mm ≤ 100) (htt : tt ≤ 200) (htm : ∀ k, tm k < 100) (htd : ∀ k, td k < 10000) (hb : b < 16) (hd : day < 10000) (hw : w ≤ 2) (hmb : ∀ k, mb k < 16) (hmd : ∀ k, md k < 10000) : MV l yX3_count wsX3_count ({ frames := 1, cells := 0, slots := 0, locals := 25 }) G [.ref qm, .int (nI b), .int (nI day), .int (nI w)] [(qm, .inr (3, [.ref qm0, .ref qm1, .ref qm2, .ref qm3, .ref qm4, .int (nI mm), .int (nI tt)])), kI G qm0 100 (nF mb), kI G qm1 100 (nF md), kI G qm2 200 (nF tm), kI G qm3 200 (nF td), kZ G qm4 200 (bF tk)] (some (.int (nI (metC mb md tm td tk tt b day w mm)))) [(qm, .inr (3, [.ref qm0, .ref qm1, .ref qm2, .ref qm3, .ref qm4, .int (nI mm), .int (nI tt)])), kI G qm0 100 (nF mb), kI G qm1 100 (nF md), kI G qm2 200 (nF tm), kI G qm3 200 (nF td), kZ G qm4 200 (bF tk)] := by
  refine MF.ofJ (cc := cX3_count) (maxL := 6) (ret := (some .int)) (own := RX3) (lv := [(0, .ref qm), (1, .int (nI b)), (2, .int (nI day)), (3, .int (nI w))]) (by decide) rfl rfl (Nat.le_of_ble_eq_true rfl) rfl ?_
  intro κ X
  have i_X3 : ∀ w ∈ wsX30, w ∈ wsX3_count := by decide +kernel
  refine j_iconst (pc := 0) X (v := nI 0) dX3_count_0 (by decide) ?_
  refine j_istore (pc := 1) X (lv' := [(4, .int (nI 0)), (0, .ref qm), (1, .int (nI b)), (2, .int (nI day)), (3, .int (nI w))]) dX3_count_1 (by decide) rfl ?_
  refine j_iconst (pc := 3) X (v := nI 0) dX3_count_3 (by decide) ?_
  refine j_istore (pc := 4) X (lv' := [(5, .int (nI 0)), (4, .int (nI 0)), (0, .ref qm), (1, .int (nI b)), (2, .int (nI day)), (3, .int (nI w))]) dX3_count_4 (by decide) rfl ?_
  refine j_lv [2, 3, 4, 5, 1, 0] (lv' := [(0, .ref qm), (1, .int (nI b)), (2, .int (nI day)), (3, .int (nI w)), (4, .int (nI 0)), (5, .int (nI 0))]) rfl ?_
  refine j_lvq (lv' := [(0, .ref qm), (1, .int (nI b)), (2, .int (nI day)), (3, .int (nI w)), (4, .int (nI (metC mb md tm td tk tt b day w 0))), (5, .int (nI 0))]) ?_ ?_
  · first | rfl | (rw [show (0) = metC mb md tm td tk tt b day w 0 from by (simp only [metC]; split <;> omega)])
  exact mX3_count_L6 l G qm qm0 qm1 qm2 qm3 qm4 mm tt mb md tm td tk b day w hmm htt htm htd hb hd hw hmb hmd κ X    (mm - 0 + 1) 0 (by omega) (Nat.lt_succ_self _)

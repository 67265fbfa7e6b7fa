set_option maxHeartbeats 4000000 in
set_option maxRecDepth 100000 in
theorem mX2_isGoal (l : Launch) (G : jG) (qg : Nat) (qg0 : Nat) (qg1 : Nat) (qg2 : Nat) (qg3 : Nat) (gm : Nat) (x : Int32)  : MV l yX2_isGoal wsX2_isGoal ({ frames := 0, cells := 0, slots := 0, locals := 0 }) G [.ref qg, .int x] [(qg, .inr (2, [.ref qg0, .ref qg1, .ref qg2, .ref qg3, .int (nI gm)]))] (some (.int (b2i (inR x gm)))) [(qg, .inr (2, [.ref qg0, .ref qg1, .ref qg2, .ref qg3, .int (nI gm)]))] := by
  refine MF.ofJ (cc := cX2_isGoal) (maxL := 2) (ret := (some .boolean)) (own := RX2) (lv := [(0, .ref qg), (1, .int x)]) (by decide) rfl rfl (Nat.le_of_ble_eq_true rfl) rfl ?_
  intro κ X
  have i_X2 : ∀ w ∈ wsX20, w ∈ wsX2_isGoal := by decide +kernel
  refine j_iload_n (pc := 0) X dX2_isGoal_0 rfl 1 rfl ?_
  refine j_if_lt (pc := 1) X (x := x) (tgt := 16) dX2_isGoal_1 (by decide) (fun c_1 => ?_) (fun c_1 => ?_)
  · skip
    refine j_iconst (pc := 16) X (v := nI 0) dX2_isGoal_16 (by decide) ?_
    exact j_zret (pc := 17) X (rfl) dX2_isGoal_17 ⟨r0 (by simp [inR, c_1]), rfl⟩
  · skip
    refine j_iload_n (pc := 4) X dX2_isGoal_4 rfl 1 rfl ?_
    refine j_aload_n (pc := 5) X dX2_isGoal_5 rfl 0 rfl ?_
    refine j_get (pc := 6) X 2 i_X2 0 rfl rfl 4 (by decide) (by decide +kernel) rfl dX2_isGoal_6 ?_
    refine j_icmp_ge (pc := 9) X (x := x) (z := nI gm) (tgt := 16) dX2_isGoal_9 (by decide) (fun c_9 => ?_) (fun c_9 => ?_)
    · skip
      refine j_iconst (pc := 16) X (v := nI 0) dX2_isGoal_16 (by decide) ?_
      exact j_zret (pc := 17) X (rfl) dX2_isGoal_17 ⟨r0 (by simp [inR, c_1, c_9]), rfl⟩
    · skip
      refine j_iconst (pc := 12) X (v := nI 1) dX2_isGoal_12 (by decide) ?_
      refine j_goto (pc := 13) X (tgt := 17) dX2_isGoal_13 (by decide) ?_
      exact j_zret (pc := 17) X (rfl) dX2_isGoal_17 ⟨r1 (by simp [inR, c_1, c_9]), rfl⟩

set_option maxHeartbeats 4000000 in
set_option maxRecDepth 100000 in
theorem mX2_isGoalOf (l : Launch) (G : jG) (qg : Nat) (qg0 : Nat) (qg1 : Nat) (qg2 : Nat) (qg3 : Nat) (gm : Nat) (gb : Nat → Nat) (x : Int32) (b : Nat) (hgm : gm ≤ 40) (hb : b < 16) (hgb : ∀ k, gb k < 16) : MV l yX2_isGoalOf wsX2_isGoalOf ({ frames := 1, cells := 0, slots := 0, locals := 21 }) G [.ref qg, .int x, .int (nI b)] [(qg, .inr (2, [.ref qg0, .ref qg1, .ref qg2, .ref qg3, .int (nI gm)])), kI G qg0 40 (nF gb)] (some (.int (b2i (inR x gm && decide (gb x.toNatClampNeg = b))))) [(qg, .inr (2, [.ref qg0, .ref qg1, .ref qg2, .ref qg3, .int (nI gm)])), kI G qg0 40 (nF gb)] := by
  refine MF.ofJ (cc := cX2_isGoalOf) (maxL := 3) (ret := (some .boolean)) (own := RX2) (lv := [(0, .ref qg), (1, .int x), (2, .int (nI b))]) (by decide) rfl rfl (Nat.le_of_ble_eq_true rfl) rfl ?_
  intro κ X
  have i_X2 : ∀ w ∈ wsX20, w ∈ wsX2_isGoalOf := by decide +kernel
  refine j_aload_n (pc := 0) X dX2_isGoalOf_0 rfl 0 rfl ?_
  refine j_iload_n (pc := 1) X dX2_isGoalOf_1 rfl 1 rfl ?_
  refine j_ciP (pc := 2) X [0] rfl (j_rV X (b := qg) (As := [.int x]) (ci := 2) (rest := []) 1 (mX2_isGoal l G qg qg0 qg1 qg2 qg3 gm x ) gX2_isGoalOf_X2_isGoal rfl rfl rfl (by decide +kernel) ⟨Nat.le_of_ble_eq_true rfl, Nat.le_of_ble_eq_true rfl⟩ rfl rfl 0 rfl [0] rfl rfl rfl (Nat.le_of_ble_eq_true rfl) dX2_isGoalOf_2 ⟨Nat.le_of_ble_eq_true rfl, Nat.le_of_ble_eq_true rfl⟩) ?_
  refine j_ifb_eq (pc := 5) X (B := inR x gm) (tgt := 22) dX2_isGoalOf_5 (by decide) (fun c_5 => ?_) (fun c_5 => ?_)
  · skip
    refine j_iconst (pc := 22) X (v := nI 0) dX2_isGoalOf_22 (by decide) ?_
    exact j_zret (pc := 23) X (rfl) dX2_isGoalOf_23 ⟨r0 (by first | (simp [c_5]; done) | (rw [nI_clamp (by omega)]; simp [c_5]; done)), rfl⟩
  · skip
    obtain ⟨j, hj, rfl⟩ := inR_of c_5 (by omega)
    refine j_aload_n (pc := 8) X dX2_isGoalOf_8 rfl 0 rfl ?_
    refine j_get (pc := 9) X 2 i_X2 0 rfl rfl 0 (by decide) (by decide +kernel) rfl dX2_isGoalOf_9 ?_
    refine j_iload_n (pc := 12) X dX2_isGoalOf_12 rfl 1 rfl ?_
    refine j_iald (pc := 13) X 1 rfl (vp_in_nI (by omega) (by decide)) (v := nI (gb j)) (congrArg (nF gb) (nI_clamp (by omega))) dX2_isGoalOf_13 ?_
    refine j_iload_n (pc := 14) X dX2_isGoalOf_14 rfl 2 rfl ?_
    refine j_icmpN_ne (pc := 15) X (a := (gb j)) (b := b) (by first | omega | exact Nat.lt_of_lt_of_le (hgb _) (by decide)) (by first | omega | exact Nat.lt_of_lt_of_le (hgb _) (by decide)) (tgt := 22) dX2_isGoalOf_15 (by decide) (fun c_15 => ?_) (fun c_15 => ?_)
    · skip
      refine j_iconst (pc := 22) X (v := nI 0) dX2_isGoalOf_22 (by decide) ?_
      exact j_zret (pc := 23) X (rfl) dX2_isGoalOf_23 ⟨r0 (by first | (simp [c_5, c_15]; done) | (rw [nI_clamp (by omega)]; simp [c_5, c_15]; done)), rfl⟩
    · skip
      refine j_iconst (pc := 18) X (v := nI 1) dX2_isGoalOf_18 (by decide) ?_
      refine j_goto (pc := 19) X (tgt := 23) dX2_isGoalOf_19 (by decide) ?_
      exact j_zret (pc := 23) X (rfl) dX2_isGoalOf_23 ⟨r1 (by first | (simp [c_5, c_15]; done) | (rw [nI_clamp (by omega)]; simp [c_5, c_15]; done)), rfl⟩

set_option maxHeartbeats 4000000 in
set_option maxRecDepth 100000 in
theorem mX2_add (l : Launch) (G : jG) (qg : Nat) (qg0 : Nat) (qg1 : Nat) (qg2 : Nat) (qg3 : Nat) (gm : Nat) (gb : Nat → Nat) (gd : Nat → Nat) (gh : Nat → Option Nat) (gc : Nat → Option Nat) (b : Nat) (du : Nat) (bh : Option Nat) (hgm : gm < 40) : MV l yX2_add wsX2_add ({ frames := 0, cells := 0, slots := 0, locals := 0 }) G [.ref qg, .int (nI b), .int (nI du), .int (oI bh)] [(qg, .inr (2, [.ref qg0, .ref qg1, .ref qg2, .ref qg3, .int (nI gm)])), kI G qg0 40 (nF gb), kI G qg1 40 (nF gd), kI G qg2 40 (oF gh), kI G qg3 40 (oF gc)] (some (.int (nI gm))) [(qg, .inr (2, [.ref qg0, .ref qg1, .ref qg2, .ref qg3, .int (nI (gm + 1))])), kI G qg0 40 (nF (va_up gb gm b)), kI G qg1 40 (nF (va_up gd gm du)), kI G qg2 40 (oF (va_up gh gm bh)), kI G qg3 40 (oF (va_up gc gm none))] := by
  refine MF.ofJ (cc := cX2_add) (maxL := 4) (ret := (some .int)) (own := RX2) (lv := [(0, .ref qg), (1, .int (nI b)), (2, .int (nI du)), (3, .int (oI bh))]) (by decide) rfl rfl (Nat.le_of_ble_eq_true rfl) rfl ?_
  intro κ X
  have i_X2 : ∀ w ∈ wsX20, w ∈ wsX2_add := by decide +kernel
  refine j_aload_n (pc := 0) X dX2_add_0 rfl 0 rfl ?_
  refine j_get (pc := 1) X 2 i_X2 0 rfl rfl 0 (by decide) (by decide +kernel) rfl dX2_add_1 ?_
  refine j_aload_n (pc := 4) X dX2_add_4 rfl 0 rfl ?_
  refine j_get (pc := 5) X 2 i_X2 0 rfl rfl 4 (by decide) (by decide +kernel) rfl dX2_add_5 ?_
  refine j_iload_n (pc := 8) X dX2_add_8 rfl 1 rfl ?_
  refine j_iast (pc := 9) X (f2 := (nF (va_up gb gm b))) (ws' := [(qg, .inr (2, [.ref qg0, .ref qg1, .ref qg2, .ref qg3, .int (nI gm)])), kI G qg0 40 (nF (va_up gb gm b)), kI G qg1 40 (nF gd), kI G qg2 40 (oF gh), kI G qg3 40 (oF gc)]) 1 rfl (vp_in_nI (by omega) (by decide)) dX2_add_9 (by rw [nI_clamp (by omega)]; exact nF_up gb gm b) rfl ?_
  refine j_aload_n (pc := 10) X dX2_add_10 rfl 0 rfl ?_
  refine j_get (pc := 11) X 2 i_X2 0 rfl rfl 1 (by decide) (by decide +kernel) rfl dX2_add_11 ?_
  refine j_aload_n (pc := 14) X dX2_add_14 rfl 0 rfl ?_
  refine j_get (pc := 15) X 2 i_X2 0 rfl rfl 4 (by decide) (by decide +kernel) rfl dX2_add_15 ?_
  refine j_iload_n (pc := 18) X dX2_add_18 rfl 2 rfl ?_
  refine j_iast (pc := 19) X (f2 := (nF (va_up gd gm du))) (ws' := [(qg, .inr (2, [.ref qg0, .ref qg1, .ref qg2, .ref qg3, .int (nI gm)])), kI G qg0 40 (nF (va_up gb gm b)), kI G qg1 40 (nF (va_up gd gm du)), kI G qg2 40 (oF gh), kI G qg3 40 (oF gc)]) 2 rfl (vp_in_nI (by omega) (by decide)) dX2_add_19 (by rw [nI_clamp (by omega)]; exact nF_up gd gm du) rfl ?_
  refine j_aload_n (pc := 20) X dX2_add_20 rfl 0 rfl ?_
  refine j_get (pc := 21) X 2 i_X2 0 rfl rfl 2 (by decide) (by decide +kernel) rfl dX2_add_21 ?_
  refine j_aload_n (pc := 24) X dX2_add_24 rfl 0 rfl ?_
  refine j_get (pc := 25) X 2 i_X2 0 rfl rfl 4 (by decide) (by decide +kernel) rfl dX2_add_25 ?_
  refine j_iload_n (pc := 28) X dX2_add_28 rfl 3 rfl ?_
  refine j_iast (pc := 29) X (f2 := (oF (va_up gh gm bh))) (ws' := [(qg, .inr (2, [.ref qg0, .ref qg1, .ref qg2, .ref qg3, .int (nI gm)])), kI G qg0 40 (nF (va_up gb gm b)), kI G qg1 40 (nF (va_up gd gm du)), kI G qg2 40 (oF (va_up gh gm bh)), kI G qg3 40 (oF gc)]) 3 rfl (vp_in_nI (by omega) (by decide)) dX2_add_29 (by rw [nI_clamp (by omega)]; exact oF_up gh gm bh) rfl ?_
  refine j_aload_n (pc := 30) X dX2_add_30 rfl 0 rfl ?_
  refine j_get (pc := 31) X 2 i_X2 0 rfl rfl 3 (by decide) (by decide +kernel) rfl dX2_add_31 ?_
  refine j_aload_n (pc := 34) X dX2_add_34 rfl 0 rfl ?_
  refine j_get (pc := 35) X 2 i_X2 0 rfl rfl 4 (by decide) (by decide +kernel) rfl dX2_add_35 ?_
  refine j_iconst (pc := 38) X (v := oI none) dX2_add_38 (by decide) ?_
  refine j_iast (pc := 39) X (f2 := (oF (va_up gc gm none))) (ws' := [(qg, .inr (2, [.ref qg0, .ref qg1, .ref qg2, .ref qg3, .int (nI gm)])), kI G qg0 40 (nF (va_up gb gm b)), kI G qg1 40 (nF (va_up gd gm du)), kI G qg2 40 (oF (va_up gh gm bh)), kI G qg3 40 (oF (va_up gc gm none))]) 4 rfl (vp_in_nI (by omega) (by decide)) dX2_add_39 (by rw [nI_clamp (by omega)]; exact oF_up gc gm none) rfl ?_
  refine j_aload_n (pc := 40) X dX2_add_40 rfl 0 rfl ?_
  refine j_dup (pc := 41) X dX2_add_41 rfl ?_
  refine j_get (pc := 42) X 2 i_X2 0 rfl rfl 4 (by decide) (by decide +kernel) rfl dX2_add_42 ?_
  refine j_iconst (pc := 45) X (v := nI 1) dX2_add_45 (by decide) ?_
  refine j_iadd (pc := 46) X dX2_add_46 ?_
  refine j_topi (z := nI (gm + 1)) (nI_add _ _) ?_
  refine j_put (pc := 47) X (v := .int (nI (gm + 1))) (ws' := [(qg, .inr (2, [.ref qg0, .ref qg1, .ref qg2, .ref qg3, .int (nI (gm + 1))])), kI G qg0 40 (nF (va_up gb gm b)), kI G qg1 40 (nF (va_up gd gm du)), kI G qg2 40 (oF (va_up gh gm bh)), kI G qg3 40 (oF (va_up gc gm none))]) 2 i_X2 tyX2 tyX2_ok nmX2 0 rfl rfl 4 (by decide) (by decide +kernel) (by decide) (rfl) (rfl) (Nat.le_of_ble_eq_true rfl) dX2_add_47 rfl ?_
  refine j_aload_n (pc := 50) X dX2_add_50 rfl 0 rfl ?_
  refine j_get (pc := 51) X 2 i_X2 0 rfl rfl 4 (by decide) (by decide +kernel) rfl dX2_add_51 ?_
  refine j_iconst (pc := 54) X (v := nI 1) dX2_add_54 (by decide) ?_
  refine j_isub (pc := 55) X dX2_add_55 ?_
  refine j_topi (z := nI (gm + 1 - 1)) (pk_sub (by omega)) ?_
  exact j_iret (pc := 56) X dX2_add_56 ⟨by simp, rfl⟩

set_option maxHeartbeats 4000000 in
set_option maxRecDepth 100000 in
theorem mX2_isReached_L8 (l : Launch) (G : jG) (qg : Nat) (qg0 : Nat) (qg1 : Nat) (qg2 : Nat) (qg3 : Nat) (gm : Nat) (gd : Nat → Nat) (gh : Nat → Option Nat) (gc : Nat → Option Nat) (g : Nat) (day : Nat) (hg : g < 40) (hd : day < 10000) (hgd : ∀ k, gd k < 10000) (hgh : ∀ k, ob 40 (gh k)) (hgc : ∀ k, ob 10000 (gc k)) (κ : jK) (X : CX κ l yX2_isReached cX2_isReached 7 RX2 wsX2_isReached (some .boolean) ({ frames := 0, cells := 0, slots := 0, locals := 0 }) G (va_A [(qg, .inr (2, [.ref qg0, .ref qg1, .ref qg2, .ref qg3, .int (nI gm)])), kI G qg1 40 (nF gd), kI G qg2 40 (oF gh), kI G qg3 40 (oF gc)] (js κ).heap.size))    : ∀ (fu : Nat) (st : Nat) (ak : Option Nat) (by_ : Nat) (hs : st ≤ 40) (hak : ob 40 ak) (hby : by_ < 10000) (hr : rch gc gd gh (40 - st) ak by_ = rch gc gd gh 40 (some g) day) (_ : 40 - st < fu), JJ κ 7 G (va_A [(qg, .inr (2, [.ref qg0, .ref qg1, .ref qg2, .ref qg3, .int (nI gm)])), kI G qg1 40 (nF gd), kI G qg2 40 (oF gh), kI G qg3 40 (oF gc)] (js κ).heap.size) 0 0 (jQ κ G [(qg, .inr (2, [.ref qg0, .ref qg1, .ref qg2, .ref qg3, .int (nI gm)])), kI G qg1 40 (nF gd), kI G qg2 40 (oF gh), kI G qg3 40 (oF gc)] (fun r w' => r = some (.int (b2i (rch gc gd gh 40 (some g) day))) ∧ w' = [(qg, .inr (2, [.ref qg0, .ref qg1, .ref qg2, .ref qg3, .int (nI gm)])), kI G qg1 40 (nF gd), kI G qg2 40 (oF gh), kI G qg3 40 (oF gc)]) 0 0) 8 [(0, .ref qg), (3, .int (oI ak)), (4, .int (nI by_)), (5, .int (nI st))] [] [(qg, .inr (2, [.ref qg0, .ref qg1, .ref qg2, .ref qg3, .int (nI gm)])), kI G qg1 40 (nF gd), kI G qg2 40 (oF gh), kI G qg3 40 (oF gc)] := by
  have i_X2 : ∀ w ∈ wsX20, w ∈ wsX2_isReached := by decide +kernel
  intro fu
  induction fu with
  | zero => intro st ak by_ hs hak hby hr hms; exact absurd hms (Nat.not_lt_zero _)
  | succ fu ih =>
    intro st ak by_ hs hak hby hr hms
    refine j_iload (pc := 8) X dX2_isReached_8 3 rfl ?_
    refine j_bipush (pc := 10) X (v := nI 40) dX2_isReached_10 (by decide) ?_
    refine j_icmpN_ge (pc := 12) X (a := st) (b := 40) (by first | omega | exact Nat.lt_of_lt_of_le (hgd _) (by decide) | exact Nat.lt_of_lt_of_le (hgc _ _ hcf) (by decide)) (by first | omega | exact Nat.lt_of_lt_of_le (hgd _) (by decide) | exact Nat.lt_of_lt_of_le (hgc _ _ hcf) (by decide)) (tgt := 71) dX2_isReached_12 (by decide) (fun c_12 => ?_) (fun c_12 => ?_)
    · skip
      refine j_iconst (pc := 71) X (v := nI 1) dX2_isReached_71 (by decide) ?_
      exact j_zret (pc := 72) X (rfl) dX2_isReached_72 ⟨r1 (by rw [← hr, show 40 - st = 0 by omega]; rfl), rfl⟩
    · skip
      refine j_iload_n (pc := 15) X dX2_isReached_15 rfl 1 rfl ?_
      refine j_iconst (pc := 16) X (v := oI none) dX2_isReached_16 (by decide) ?_
      refine j_icmpZ_eq (pc := 17) X (a := ak) (by exact hak.big (by decide)) (tgt := 71) dX2_isReached_17 (by decide) (fun c_17 => ?_) (fun c_17 => ?_)
      · skip
        refine j_iconst (pc := 71) X (v := nI 1) dX2_isReached_71 (by decide) ?_
        exact j_zret (pc := 72) X (rfl) dX2_isReached_72 ⟨r1 (by rw [← hr, c_17]; cases 40 - st <;> rfl), rfl⟩
      · skip
        obtain ⟨j, rfl⟩ := Option.ne_none_iff_exists'.mp c_17; have hj := hak j rfl
        refine j_aload_n (pc := 20) X dX2_isReached_20 rfl 0 rfl ?_
        refine j_get (pc := 21) X 2 i_X2 0 rfl rfl 3 (by decide) (by decide +kernel) rfl dX2_isReached_21 ?_
        refine j_iload_n (pc := 24) X dX2_isReached_24 rfl 1 rfl ?_
        refine j_iald (pc := 25) X 3 rfl (vp_in_nI (by omega) (by decide)) (v := oI (gc j)) (congrArg (oF gc) (nI_clamp (by omega))) dX2_isReached_25 ?_
        refine j_istore (pc := 26) X (lv' := [(6, .int (oI (gc j))), (0, .ref qg), (3, .int (nI j)), (4, .int (nI by_)), (5, .int (nI st))]) dX2_isReached_26 (by decide) rfl ?_
        refine j_iload (pc := 28) X dX2_isReached_28 0 rfl ?_
        refine j_iconst (pc := 30) X (v := oI none) dX2_isReached_30 (by decide) ?_
        refine j_icmpZ_eq (pc := 31) X (a := (gc j)) (by exact (hgc _).big (by decide)) (tgt := 52) dX2_isReached_31 (by decide) (fun c_31 => ?_) (fun c_31 => ?_)
        · skip
          refine j_iconst (pc := 52) X (v := nI 0) dX2_isReached_52 (by decide) ?_
          exact j_zret (pc := 53) X (rfl) dX2_isReached_53 ⟨r0 (by rw [← hr, show 40 - st = (40 - (st + 1)) + 1 by omega]; first | (simp [rch, hcf, c_12, c_17, c_31]; done) | (simp [rch, c_12, c_17, c_31]; done)), rfl⟩
        · skip
          obtain ⟨cf, hcf⟩ := Option.ne_none_iff_exists'.mp c_31
          refine j_lvq (lv' := [(6, .int (nI cf)), (0, .ref qg), (3, .int (nI j)), (4, .int (nI by_)), (5, .int (nI st))]) (by rw [hcf] <;> rfl) ?_
          refine j_iload (pc := 34) X dX2_isReached_34 0 rfl ?_
          refine j_iload (pc := 36) X dX2_isReached_36 3 rfl ?_
          refine j_icmpN_gt (pc := 38) X (a := cf) (b := by_) (by first | omega | exact Nat.lt_of_lt_of_le (hgd _) (by decide) | exact Nat.lt_of_lt_of_le (hgc _ _ hcf) (by decide)) (by first | omega | exact Nat.lt_of_lt_of_le (hgd _) (by decide) | exact Nat.lt_of_lt_of_le (hgc _ _ hcf) (by decide)) (tgt := 52) dX2_isReached_38 (by decide) (fun c_38 => ?_) (fun c_38 => ?_)
          · skip
            refine j_iconst (pc := 52) X (v := nI 0) dX2_isReached_52 (by decide) ?_
            exact j_zret (pc := 53) X (rfl) dX2_isReached_53 ⟨r0 (by rw [← hr, show 40 - st = (40 - (st + 1)) + 1 by omega]; first | (simp [rch, hcf, c_12, c_17, c_31, c_38]; done) | (simp [rch, c_12, c_17, c_31, c_38]; done)), rfl⟩
          · skip
            refine j_iload (pc := 41) X dX2_isReached_41 0 rfl ?_
            refine j_aload_n (pc := 43) X dX2_isReached_43 rfl 1 rfl ?_
            refine j_get (pc := 44) X 2 i_X2 0 rfl rfl 1 (by decide) (by decide +kernel) rfl dX2_isReached_44 ?_
            refine j_iload_n (pc := 47) X dX2_isReached_47 rfl 2 rfl ?_
            refine j_iald (pc := 48) X 1 rfl (vp_in_nI (by omega) (by decide)) (v := nI (gd j)) (congrArg (nF gd) (nI_clamp (by omega))) dX2_isReached_48 ?_
            refine j_icmpN_le (pc := 49) X (a := cf) (b := (gd j)) (by first | omega | exact Nat.lt_of_lt_of_le (hgd _) (by decide) | exact Nat.lt_of_lt_of_le (hgc _ _ hcf) (by decide)) (by first | omega | exact Nat.lt_of_lt_of_le (hgd _) (by decide) | exact Nat.lt_of_lt_of_le (hgc _ _ hcf) (by decide)) (tgt := 54) dX2_isReached_49 (by decide) (fun c_49 => ?_) (fun c_49 => ?_)
            · skip
              refine j_iload (pc := 54) X dX2_isReached_54 0 rfl ?_
              refine j_istore (pc := 56) X (lv' := [(4, .int (nI cf)), (6, .int (nI cf)), (0, .ref qg), (3, .int (nI j)), (5, .int (nI st))]) dX2_isReached_56 (by decide) rfl ?_
              refine j_aload_n (pc := 58) X dX2_isReached_58 rfl 2 rfl ?_
              refine j_get (pc := 59) X 2 i_X2 0 rfl rfl 2 (by decide) (by decide +kernel) rfl dX2_isReached_59 ?_
              refine j_iload_n (pc := 62) X dX2_isReached_62 rfl 3 rfl ?_
              refine j_iald (pc := 63) X 2 rfl (vp_in_nI (by omega) (by decide)) (v := oI (gh j)) (congrArg (oF gh) (nI_clamp (by omega))) dX2_isReached_63 ?_
              refine j_istore_n (pc := 64) X (lv' := [(3, .int (oI (gh j))), (4, .int (nI cf)), (6, .int (nI cf)), (0, .ref qg), (5, .int (nI st))]) dX2_isReached_64 rfl (by decide) rfl ?_
              refine j_iinc (pc := 65) X (v := nI (st + 1)) (lv' := [(5, .int (nI (st + 1))), (3, .int (oI (gh j))), (4, .int (nI cf)), (6, .int (nI cf)), (0, .ref qg)]) dX2_isReached_65 4 rfl (nI_1 _) (by decide) rfl ?_
              refine j_goto (pc := 68) X (tgt := 8) dX2_isReached_68 (by decide) ?_
              refine j_lv [4, 1, 2, 0] (lv' := [(0, .ref qg), (3, .int (oI (gh j))), (4, .int (nI cf)), (5, .int (nI (st + 1)))]) rfl ?_
              exact ih (st + 1) (gh j) cf (by omega) (hgh _) (hgc _ _ hcf) (by rw [← hr, show 40 - st = (40 - (st + 1)) + 1 by omega]; simp [rch, hcf, c_12, c_17, c_31, c_38, c_49]) (by omega)
            · skip
              refine j_iconst (pc := 52) X (v := nI 0) dX2_isReached_52 (by decide) ?_
              exact j_zret (pc := 53) X (rfl) dX2_isReached_53 ⟨r0 (by rw [← hr, show 40 - st = (40 - (st + 1)) + 1 by omega]; first | (simp [rch, hcf, c_12, c_17, c_31, c_38, c_49]; done) | (simp [rch, c_12, c_17, c_31, c_38, c_49]; done)), rfl⟩
set_option maxHeartbeats 4000000 in
set_option maxRecDepth 100000 in
theorem mX2_isReached (l : Launch) (G : jG) (qg : Nat) (qg0 : Nat) (qg1 : Nat) (qg2 : Nat) (qg3 : Nat) (gm : Nat) (gd : Nat → Nat) (gh : Nat → Option Nat) (gc : Nat → Option Nat) (g : Nat) (day : Nat) (hg : g < 40) (hd : day < 10000) (hgd : ∀ k, gd k < 10000) (hgh : ∀ k, ob 40 (gh k)) (hgc : ∀ k, ob 10000 (gc k)) : MV l yX2_isReached wsX2_isReached ({ frames := 0, cells := 0, slots := 0, locals := 0 }) G [.ref qg, .int (nI g), .int (nI day)] [(qg, .inr (2, [.ref qg0, .ref qg1, .ref qg2, .ref qg3, .int (nI gm)])), kI G qg1 40 (nF gd), kI G qg2 40 (oF gh), kI G qg3 40 (oF gc)] (some (.int (b2i (rch gc gd gh 40 (some g) day)))) [(qg, .inr (2, [.ref qg0, .ref qg1, .ref qg2, .ref qg3, .int (nI gm)])), kI G qg1 40 (nF gd), kI G qg2 40 (oF gh), kI G qg3 40 (oF gc)] := by
  refine MF.ofJ (cc := cX2_isReached) (maxL := 7) (ret := (some .boolean)) (own := RX2) (lv := [(0, .ref qg), (1, .int (nI g)), (2, .int (nI day))]) (by decide) rfl rfl (Nat.le_of_ble_eq_true rfl) rfl ?_
  intro κ X
  have i_X2 : ∀ w ∈ wsX20, w ∈ wsX2_isReached := by decide +kernel
  refine j_iload_n (pc := 0) X dX2_isReached_0 rfl 1 rfl ?_
  refine j_istore_n (pc := 1) X (lv' := [(3, .int (nI g)), (0, .ref qg), (1, .int (nI g)), (2, .int (nI day))]) dX2_isReached_1 rfl (by decide) rfl ?_
  refine j_iload_n (pc := 2) X dX2_isReached_2 rfl 3 rfl ?_
  refine j_istore (pc := 3) X (lv' := [(4, .int (nI day)), (3, .int (nI g)), (0, .ref qg), (1, .int (nI g)), (2, .int (nI day))]) dX2_isReached_3 (by decide) rfl ?_
  refine j_iconst (pc := 5) X (v := nI 0) dX2_isReached_5 (by decide) ?_
  refine j_istore (pc := 6) X (lv' := [(5, .int (nI 0)), (4, .int (nI day)), (3, .int (nI g)), (0, .ref qg), (1, .int (nI g)), (2, .int (nI day))]) dX2_isReached_6 (by decide) rfl ?_
  refine j_lv [3, 2, 1, 0] (lv' := [(0, .ref qg), (3, .int (nI g)), (4, .int (nI day)), (5, .int (nI 0))]) rfl ?_
  refine j_lvq (lv' := [(0, .ref qg), (3, .int (oI (some g))), (4, .int (nI day)), (5, .int (nI 0))]) rfl ?_
  exact mX2_isReached_L8 l G qg qg0 qg1 qg2 qg3 gm gd gh gc g day hg hd hgd hgh hgc κ X    (40 - 0 + 1) 0 (some g) day (by omega) (ob_s hg) (by omega) (by rfl) (Nat.lt_succ_self _)

set_option maxHeartbeats 4000000 in
set_option maxRecDepth 100000 in
theorem mX2_asOf (l : Launch) (G : jG) (qg : Nat) (qg0 : Nat) (qg1 : Nat) (qg2 : Nat) (qg3 : Nat) (gm : Nat) (gd : Nat → Nat) (gh : Nat → Option Nat) (gc : Nat → Option Nat) (g : Nat) (day : Nat) (hg : g < 40) (hd : day < 10000) (hgd : ∀ k, gd k < 10000) (hgh : ∀ k, ob 40 (gh k)) (hgc : ∀ k, ob 10000 (gc k)) : MV l yX2_asOf wsX2_asOf ({ frames := 1, cells := 0, slots := 0, locals := 26 }) G [.ref qg, .int (nI g), .int (nI day)] [(qg, .inr (2, [.ref qg0, .ref qg1, .ref qg2, .ref qg3, .int (nI gm)])), kI G qg1 40 (nF gd), kI G qg2 40 (oF gh), kI G qg3 40 (oF gc)] (some (.int (nI (if rch gc gd gh 40 (some g) day then 1 else if day ≤ gd g then 0 else 2)))) [(qg, .inr (2, [.ref qg0, .ref qg1, .ref qg2, .ref qg3, .int (nI gm)])), kI G qg1 40 (nF gd), kI G qg2 40 (oF gh), kI G qg3 40 (oF gc)] := by
  refine MF.ofJ (cc := cX2_asOf) (maxL := 3) (ret := (some .int)) (own := RX2) (lv := [(0, .ref qg), (1, .int (nI g)), (2, .int (nI day))]) (by decide) rfl rfl (Nat.le_of_ble_eq_true rfl) rfl ?_
  intro κ X
  have i_X2 : ∀ w ∈ wsX20, w ∈ wsX2_asOf := by decide +kernel
  refine j_aload_n (pc := 0) X dX2_asOf_0 rfl 0 rfl ?_
  refine j_iload_n (pc := 1) X dX2_asOf_1 rfl 1 rfl ?_
  refine j_iload_n (pc := 2) X dX2_asOf_2 rfl 2 rfl ?_
  refine j_ciP (pc := 3) X [0, 1, 2, 3] rfl (j_rV X (b := qg) (As := [.int (nI g), .int (nI day)]) (ci := 2) (rest := []) 2 (mX2_isReached l G qg qg0 qg1 qg2 qg3 gm gd gh gc g day (by first | assumption | omega | exact ob_s (by omega) | exact ob_n) (by first | assumption | omega | exact ob_s (by omega) | exact ob_n) (by first | assumption | omega | exact ob_s (by omega) | exact ob_n) (by first | assumption | omega | exact ob_s (by omega) | exact ob_n) (by first | assumption | omega | exact ob_s (by omega) | exact ob_n)) gX2_asOf_X2_isReached rfl rfl rfl (by decide +kernel) ⟨Nat.le_of_ble_eq_true rfl, Nat.le_of_ble_eq_true rfl⟩ rfl rfl 0 rfl [0, 1, 2, 3] rfl rfl rfl (Nat.le_of_ble_eq_true rfl) dX2_asOf_3 ⟨Nat.le_of_ble_eq_true rfl, Nat.le_of_ble_eq_true rfl⟩) ?_
  refine j_ifb_eq (pc := 6) X (B := rch gc gd gh 40 (some g) day) (tgt := 11) dX2_asOf_6 (by decide) (fun c_6 => ?_) (fun c_6 => ?_)
  · skip
    refine j_iload_n (pc := 11) X dX2_asOf_11 rfl 2 rfl ?_
    refine j_aload_n (pc := 12) X dX2_asOf_12 rfl 0 rfl ?_
    refine j_get (pc := 13) X 2 i_X2 0 rfl rfl 1 (by decide) (by decide +kernel) rfl dX2_asOf_13 ?_
    refine j_iload_n (pc := 16) X dX2_asOf_16 rfl 1 rfl ?_
    refine j_iald (pc := 17) X 1 rfl (vp_in_nI (by omega) (by decide)) (v := nI (gd g)) (congrArg (nF gd) (nI_clamp (by omega))) dX2_asOf_17 ?_
    refine j_icmpN_le (pc := 18) X (a := day) (b := (gd g)) (by first | omega | exact Nat.lt_of_lt_of_le (hgd _) (by decide)) (by first | omega | exact Nat.lt_of_lt_of_le (hgd _) (by decide)) (tgt := 25) dX2_asOf_18 (by decide) (fun c_18 => ?_) (fun c_18 => ?_)
    · skip
      refine j_iconst (pc := 25) X (v := nI 0) dX2_asOf_25 (by decide) ?_
      exact j_iret (pc := 26) X dX2_asOf_26 ⟨by simp [c_6, c_18], rfl⟩
    · skip
      refine j_iconst (pc := 21) X (v := nI 2) dX2_asOf_21 (by decide) ?_
      refine j_goto (pc := 22) X (tgt := 26) dX2_asOf_22 (by decide) ?_
      exact j_iret (pc := 26) X dX2_asOf_26 ⟨by simp [c_6, c_18], rfl⟩
  · skip
    refine j_iconst (pc := 9) X (v := nI 1) dX2_asOf_9 (by decide) ?_
    exact j_iret (pc := 10) X dX2_asOf_10 ⟨by simp [c_6], rfl⟩

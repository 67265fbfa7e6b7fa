set_option maxHeartbeats 4000000 in
set_option maxRecDepth 100000 in
theorem mX10_draw_L53 (l : Launch) (G : jG) (z : Nat) (z4 : Nat) (z5 : Nat) (z6 : Nat) (z9 : Nat) (z10 : Nat) (z11 : Nat) (z12 : Nat) (z14 : Nat) (z15 : Nat) (z16 : Nat) (z19 : Nat) (z20 : Nat) (z21 : Nat) (z22 : Nat) (z23 : Nat) (z25 : Nat) (z26 : Nat) (z27 : Nat) (z28 : Nat) (z30 : Nat) (z31 : Nat) (z32 : Nat) (st : Nat) (th : Nat) (za : Int64) (zb : Int64) (el : Nat) (be : Nat) (gz : Bool) (mm : Nat) (tt : Nat) (gm : Nat) (rn : Nat) (n : Int32) (k : Int32) (seed : Int32)  (κ : jK) (X : CX κ l yX10_draw cX10_draw 9 RX10 wsX10_draw (some .int) ({ frames := 1, cells := 0, slots := 0, locals := 21 }) G (va_A [(z, .inr (10, [.int (nI st), .int (nI th), .long za, .long zb, .ref z4, .ref z5, .ref z6, .int (nI el), .int (nI be), .ref z9, .ref z10, .ref z11, .ref z12, .int (b2i gz), .ref z14, .ref z15, .ref z16, .int (nI mm), .int (nI tt), .ref z19, .ref z20, .ref z21, .ref z22, .ref z23, .int (nI gm), .ref z25, .ref z26, .ref z27, .ref z28, .int (nI rn), .ref z30, .ref z31, .ref z32]))] (js κ).heap.size))    : ∀ (fu : Nat) (a : Nat) (b : Nat) (c : Nat) (i : Nat) (s : Int64) (lf : Int32) (se : Int32) (hna : n = nI a) (hkb : k = nI b) (hsc : seed = nI c) (ha16 : a ≤ 16) (hi : i ≤ a) (hq : drF a (a - i) s lf se = drF a a (nI c).toInt64 (nI b) (nI 0)) (hS : sDraw (nI a) (nI b) (nI c) = (drF a a (nI c).toInt64 (nI b) (nI 0), 0)) (_ : a - i < fu), JJ κ 9 G (va_A [(z, .inr (10, [.int (nI st), .int (nI th), .long za, .long zb, .ref z4, .ref z5, .ref z6, .int (nI el), .int (nI be), .ref z9, .ref z10, .ref z11, .ref z12, .int (b2i gz), .ref z14, .ref z15, .ref z16, .int (nI mm), .int (nI tt), .ref z19, .ref z20, .ref z21, .ref z22, .ref z23, .int (nI gm), .ref z25, .ref z26, .ref z27, .ref z28, .int (nI rn), .ref z30, .ref z31, .ref z32]))] (js κ).heap.size) 0 0 (jQ κ G [(z, .inr (10, [.int (nI st), .int (nI th), .long za, .long zb, .ref z4, .ref z5, .ref z6, .int (nI el), .int (nI be), .ref z9, .ref z10, .ref z11, .ref z12, .int (b2i gz), .ref z14, .ref z15, .ref z16, .int (nI mm), .int (nI tt), .ref z19, .ref z20, .ref z21, .ref z22, .ref z23, .int (nI gm), .ref z25, .ref z26, .ref z27, .ref z28, .int (nI rn), .ref z30, .ref z31, .ref z32]))] (fun r w' => r = some (.int ((sDraw n k seed).1)) ∧ w' = [(z, .inr (10, [.int (nI ((sDraw n k seed).2)), .int (nI 0), .long za, .long zb, .ref z4, .ref z5, .ref z6, .int (nI el), .int (nI be), .ref z9, .ref z10, .ref z11, .ref z12, .int (b2i gz), .ref z14, .ref z15, .ref z16, .int (nI mm), .int (nI tt), .ref z19, .ref z20, .ref z21, .ref z22, .ref z23, .int (nI gm), .ref z25, .ref z26, .ref z27, .ref z28, .int (nI rn), .ref z30, .ref z31, .ref z32]))]) 0 0) 53 [(0, .ref z), (1, .int (nI a)), (4, .long s), (6, .int lf), (7, .int se), (8, .int (nI i))] [] [(z, .inr (10, [.int (nI 0), .int (nI 0), .long za, .long zb, .ref z4, .ref z5, .ref z6, .int (nI el), .int (nI be), .ref z9, .ref z10, .ref z11, .ref z12, .int (b2i gz), .ref z14, .ref z15, .ref z16, .int (nI mm), .int (nI tt), .ref z19, .ref z20, .ref z21, .ref z22, .ref z23, .int (nI gm), .ref z25, .ref z26, .ref z27, .ref z28, .int (nI rn), .ref z30, .ref z31, .ref z32]))] := by
  have i_X10 : ∀ w ∈ wsX100, w ∈ wsX10_draw := by decide +kernel
  intro fu
  induction fu with
  | zero => intro a b c i s lf se hna hkb hsc ha16 hi hq hS hms; exact absurd hms (Nat.not_lt_zero _)
  | succ fu ih =>
    intro a b c i s lf se hna hkb hsc ha16 hi hq hS hms
    subst hna
    subst hkb
    subst hsc
    refine j_iload (pc := 53) X dX10_draw_53 5 rfl ?_
    refine j_iload_n (pc := 55) X dX10_draw_55 rfl 1 rfl ?_
    refine j_icmpN_ge (pc := 56) X (a := i) (b := a) (by omega) (by omega) (tgt := 114) dX10_draw_56 (by decide) (fun c_56 => ?_) (fun c_56 => ?_)
    · skip
      refine j_iload (pc := 114) X dX10_draw_114 4 rfl ?_
      have hs : sDraw (nI a) (nI b) (nI c) = (se, 0) := by rw [hS, ← hq, show a - i = 0 by omega]; rfl
      refine j_iret (pc := 116) X dX10_draw_116 ?_
      rw [hs]; exact ⟨rfl, rfl⟩
    · skip
      refine j_lload (pc := 59) X dX10_draw_59 2 rfl ?_
      refine j_ldc2 (pc := 61) X (v := 1103515245) dX10_draw_61 (by decide +kernel) ?_
      refine j_lmul (pc := 64) X dX10_draw_64 ?_
      refine j_ldc2 (pc := 65) X (v := 12345) dX10_draw_65 (by decide +kernel) ?_
      refine j_ladd (pc := 68) X dX10_draw_68 ?_
      refine j_ldc2 (pc := 69) X (v := 2147483647) dX10_draw_69 (by decide +kernel) ?_
      refine j_land (pc := 72) X dX10_draw_72 ?_
      refine j_topl (z := lotS s) ((by rw [lotS, Int64.mul_comm])) ?_
      refine j_lstore (pc := 73) X (lv' := [(4, .long (lotS s)), (0, .ref z), (1, .int (nI a)), (6, .int lf), (7, .int se), (8, .int (nI i))]) dX10_draw_73 (by decide) rfl ?_
      refine j_lload (pc := 75) X dX10_draw_75 0 rfl ?_
      refine j_bipush (pc := 77) X (v := nI 16) dX10_draw_77 (by decide) ?_
      refine j_lshr (pc := 79) X (v := (lotS s) >>> ((nI 16).toInt64 &&& 63)) dX10_draw_79 (rfl) ?_
      refine j_iload_n (pc := 80) X dX10_draw_80 rfl 2 rfl ?_
      refine j_iload (pc := 81) X dX10_draw_81 5 rfl ?_
      refine j_isub (pc := 83) X dX10_draw_83 ?_
      refine j_topi (z := nI (a - i)) (pk_sub (by omega)) ?_
      refine j_i2l (pc := 84) X (v := (nI (a - i)).toInt64) dX10_draw_84 (rfl) ?_
      refine j_lrem (pc := 85) X dX10_draw_85 (by rw [nI_l (by omega)]; exact lN_ne0 (by omega) (by omega)) ?_
      refine j_iload (pc := 86) X dX10_draw_86 3 rfl ?_
      refine j_i2l (pc := 88) X (v := lf.toInt64) dX10_draw_88 (rfl) ?_
      refine j_lcmp (pc := 89) X dX10_draw_89 ?_
      refine j_ifc_lt (pc := 90) X (tgt := 96) dX10_draw_90 (by decide) (fun c_90 => ?_) (fun c_90 => ?_)
      · skip
        refine j_iload (pc := 96) X dX10_draw_96 4 rfl ?_
        refine j_iconst (pc := 98) X (v := nI 1) dX10_draw_98 (by decide) ?_
        refine j_iload (pc := 99) X dX10_draw_99 5 rfl ?_
        refine j_ishl (pc := 101) X dX10_draw_101 ?_
        refine j_ior (pc := 102) X dX10_draw_102 ?_
        refine j_istore (pc := 103) X (lv' := [(7, .int (se ||| ((nI 1) <<< ((nI i) &&& 31)))), (4, .long (lotS s)), (0, .ref z), (1, .int (nI a)), (6, .int lf), (8, .int (nI i))]) dX10_draw_103 (by decide) rfl ?_
        refine j_iinc (pc := 105) X (v := lf + (-1)) (lv' := [(6, .int (lf + (-1))), (7, .int (se ||| ((nI 1) <<< ((nI i) &&& 31)))), (4, .long (lotS s)), (0, .ref z), (1, .int (nI a)), (8, .int (nI i))]) dX10_draw_105 4 rfl (rfl) (by decide) rfl ?_
        refine j_iinc (pc := 108) X (v := nI (i + 1)) (lv' := [(8, .int (nI (i + 1))), (6, .int (lf + (-1))), (7, .int (se ||| ((nI 1) <<< ((nI i) &&& 31)))), (4, .long (lotS s)), (0, .ref z), (1, .int (nI a))]) dX10_draw_108 5 rfl (nI_1 _) (by decide) rfl ?_
        refine j_goto (pc := 111) X (tgt := 53) dX10_draw_111 (by decide) ?_
        refine j_lv [4, 5, 3, 1, 2, 0] (lv' := [(0, .ref z), (1, .int (nI a)), (4, .long (lotS s)), (6, .int (lf + (-1))), (7, .int (se ||| ((nI 1) <<< ((nI i) &&& 31)))), (8, .int (nI (i + 1)))]) rfl ?_
        exact ih a b c (i + 1) (lotS s) (lf + (-1)) (se ||| ((nI 1) <<< ((nI i) &&& 31))) (rfl) (rfl) (rfl) (by omega) (by omega) (by rw [← hq, show a - i = (a - (i + 1)) + 1 by omega]; simp only [drF]; rw [show a - (a - (i + 1) + 1) = i by omega, show a - (i + 1) + 1 = a - i by omega]; first | (rw [if_neg (Int64.not_le.mpr c_90)]) | (rw [if_pos (Int64.not_lt.mp c_90)])) (hS) (by omega)
      · skip
        refine j_goto (pc := 93) X (tgt := 108) dX10_draw_93 (by decide) ?_
        refine j_iinc (pc := 108) X (v := nI (i + 1)) (lv' := [(8, .int (nI (i + 1))), (4, .long (lotS s)), (0, .ref z), (1, .int (nI a)), (6, .int lf), (7, .int se)]) dX10_draw_108 5 rfl (nI_1 _) (by decide) rfl ?_
        refine j_goto (pc := 111) X (tgt := 53) dX10_draw_111 (by decide) ?_
        refine j_lv [2, 3, 1, 4, 5, 0] (lv' := [(0, .ref z), (1, .int (nI a)), (4, .long (lotS s)), (6, .int lf), (7, .int se), (8, .int (nI (i + 1)))]) rfl ?_
        exact ih a b c (i + 1) (lotS s) lf se (rfl) (rfl) (rfl) (by omega) (by omega) (by rw [← hq, show a - i = (a - (i + 1)) + 1 by omega]; simp only [drF]; rw [show a - (a - (i + 1) + 1) = i by omega, show a - (i + 1) + 1 = a - i by omega]; first | (rw [if_neg (Int64.not_le.mpr c_90)]) | (rw [if_pos (Int64.not_lt.mp c_90)])) (hS) (by omega)
set_option maxHeartbeats 4000000 in
set_option maxRecDepth 100000 in
theorem mX10_draw (l : Launch) (G : jG) (z : Nat) (z4 : Nat) (z5 : Nat) (z6 : Nat) (z9 : Nat) (z10 : Nat) (z11 : Nat) (z12 : Nat) (z14 : Nat) (z15 : Nat) (z16 : Nat) (z19 : Nat) (z20 : Nat) (z21 : Nat) (z22 : Nat) (z23 : Nat) (z25 : Nat) (z26 : Nat) (z27 : Nat) (z28 : Nat) (z30 : Nat) (z31 : Nat) (z32 : Nat) (st : Nat) (th : Nat) (za : Int64) (zb : Int64) (el : Nat) (be : Nat) (gz : Bool) (mm : Nat) (tt : Nat) (gm : Nat) (rn : Nat) (n : Int32) (k : Int32) (seed : Int32)  : MV l yX10_draw wsX10_draw ({ frames := 1, cells := 0, slots := 0, locals := 21 }) G [.ref z, .int n, .int k, .int seed] [(z, .inr (10, [.int (nI st), .int (nI th), .long za, .long zb, .ref z4, .ref z5, .ref z6, .int (nI el), .int (nI be), .ref z9, .ref z10, .ref z11, .ref z12, .int (b2i gz), .ref z14, .ref z15, .ref z16, .int (nI mm), .int (nI tt), .ref z19, .ref z20, .ref z21, .ref z22, .ref z23, .int (nI gm), .ref z25, .ref z26, .ref z27, .ref z28, .int (nI rn), .ref z30, .ref z31, .ref z32]))] (some (.int ((sDraw n k seed).1))) [(z, .inr (10, [.int (nI ((sDraw n k seed).2)), .int (nI 0), .long za, .long zb, .ref z4, .ref z5, .ref z6, .int (nI el), .int (nI be), .ref z9, .ref z10, .ref z11, .ref z12, .int (b2i gz), .ref z14, .ref z15, .ref z16, .int (nI mm), .int (nI tt), .ref z19, .ref z20, .ref z21, .ref z22, .ref z23, .int (nI gm), .ref z25, .ref z26, .ref z27, .ref z28, .int (nI rn), .ref z30, .ref z31, .ref z32]))] := by
  refine MF.ofJ (cc := cX10_draw) (maxL := 9) (ret := (some .int)) (own := RX10) (lv := [(0, .ref z), (1, .int n), (2, .int k), (3, .int seed)]) (by decide) rfl rfl (Nat.le_of_ble_eq_true rfl) rfl ?_
  intro κ X
  have i_X10 : ∀ w ∈ wsX100, w ∈ wsX10_draw := by decide +kernel
  refine j_aload_n (pc := 0) X dX10_draw_0 rfl 0 rfl ?_
  refine j_iconst (pc := 1) X (v := nI 0) dX10_draw_1 (by decide) ?_
  refine j_put (pc := 2) X (v := .int (nI 0)) (ws' := [(z, .inr (10, [.int (nI st), .int (nI 0), .long za, .long zb, .ref z4, .ref z5, .ref z6, .int (nI el), .int (nI be), .ref z9, .ref z10, .ref z11, .ref z12, .int (b2i gz), .ref z14, .ref z15, .ref z16, .int (nI mm), .int (nI tt), .ref z19, .ref z20, .ref z21, .ref z22, .ref z23, .int (nI gm), .ref z25, .ref z26, .ref z27, .ref z28, .int (nI rn), .ref z30, .ref z31, .ref z32]))]) 10 i_X10 tyX10 tyX10_ok nmX10 0 rfl rfl 1 (by decide) (by decide +kernel) (by decide) (rfl) (rfl) (Nat.le_of_ble_eq_true rfl) dX10_draw_2 rfl ?_
  refine j_aload_n (pc := 5) X dX10_draw_5 rfl 0 rfl ?_
  refine j_iconst (pc := 6) X (v := nI 0) dX10_draw_6 (by decide) ?_
  refine j_put (pc := 7) X (v := .int (nI 0)) (ws' := [(z, .inr (10, [.int (nI 0), .int (nI 0), .long za, .long zb, .ref z4, .ref z5, .ref z6, .int (nI el), .int (nI be), .ref z9, .ref z10, .ref z11, .ref z12, .int (b2i gz), .ref z14, .ref z15, .ref z16, .int (nI mm), .int (nI tt), .ref z19, .ref z20, .ref z21, .ref z22, .ref z23, .int (nI gm), .ref z25, .ref z26, .ref z27, .ref z28, .int (nI rn), .ref z30, .ref z31, .ref z32]))]) 10 i_X10 tyX10 tyX10_ok nmX10 0 rfl rfl 0 (by decide) (by decide +kernel) (by decide) (rfl) (rfl) (Nat.le_of_ble_eq_true rfl) dX10_draw_7 rfl ?_
  refine j_iload_n (pc := 10) X dX10_draw_10 rfl 1 rfl ?_
  refine j_iconst (pc := 11) X (v := nI 1) dX10_draw_11 (by decide) ?_
  refine j_icmp_lt (pc := 12) X (x := n) (z := nI 1) (tgt := 34) dX10_draw_12 (by decide) (fun c_12 => ?_) (fun c_12 => ?_)
  · skip
    refine j_aload_n (pc := 34) X dX10_draw_34 rfl 0 rfl ?_
    refine j_iconst (pc := 35) X (v := nI 5) dX10_draw_35 (by decide) ?_
    refine j_ci (pc := 36) X (ws' := [(z, .inr (10, [.int (nI 5), .int (nI 0), .long za, .long zb, .ref z4, .ref z5, .ref z6, .int (nI el), .int (nI be), .ref z9, .ref z10, .ref z11, .ref z12, .int (b2i gz), .ref z14, .ref z15, .ref z16, .int (nI mm), .int (nI tt), .ref z19, .ref z20, .ref z21, .ref z22, .ref z23, .int (nI gm), .ref z25, .ref z26, .ref z27, .ref z28, .int (nI rn), .ref z30, .ref z31, .ref z32]))]) [0] rfl (j_rV X (b := z) (As := [.int (nI 5)]) (ci := 10) (rest := []) 1 (mX10_refuse l G z z4 z5 z6 z9 z10 z11 z12 z14 z15 z16 z19 z20 z21 z22 z23 z25 z26 z27 z28 z30 z31 z32 0 0 za zb el be gz mm tt gm rn 5 ) gX10_draw_X10_refuse rfl rfl rfl (by decide +kernel) ⟨Nat.le_of_ble_eq_true rfl, Nat.le_of_ble_eq_true rfl⟩ rfl rfl 0 rfl [0] rfl rfl rfl (Nat.le_of_ble_eq_true rfl) dX10_draw_36 ⟨Nat.le_of_ble_eq_true rfl, Nat.le_of_ble_eq_true rfl⟩) rfl rfl ?_
    have hs : sDraw n k seed = (oI none, 5) := by simp [sDraw, in1, c_12]
    refine j_iret (pc := 39) X dX10_draw_39 ?_
    rw [hs]; exact ⟨rfl, rfl⟩
  · skip
    refine j_iload_n (pc := 15) X dX10_draw_15 rfl 1 rfl ?_
    refine j_bipush (pc := 16) X (v := nI 16) dX10_draw_16 (by decide) ?_
    refine j_icmp_gt (pc := 18) X (x := n) (z := nI 16) (tgt := 34) dX10_draw_18 (by decide) (fun c_18 => ?_) (fun c_18 => ?_)
    · skip
      refine j_aload_n (pc := 34) X dX10_draw_34 rfl 0 rfl ?_
      refine j_iconst (pc := 35) X (v := nI 5) dX10_draw_35 (by decide) ?_
      refine j_ci (pc := 36) X (ws' := [(z, .inr (10, [.int (nI 5), .int (nI 0), .long za, .long zb, .ref z4, .ref z5, .ref z6, .int (nI el), .int (nI be), .ref z9, .ref z10, .ref z11, .ref z12, .int (b2i gz), .ref z14, .ref z15, .ref z16, .int (nI mm), .int (nI tt), .ref z19, .ref z20, .ref z21, .ref z22, .ref z23, .int (nI gm), .ref z25, .ref z26, .ref z27, .ref z28, .int (nI rn), .ref z30, .ref z31, .ref z32]))]) [0] rfl (j_rV X (b := z) (As := [.int (nI 5)]) (ci := 10) (rest := []) 1 (mX10_refuse l G z z4 z5 z6 z9 z10 z11 z12 z14 z15 z16 z19 z20 z21 z22 z23 z25 z26 z27 z28 z30 z31 z32 0 0 za zb el be gz mm tt gm rn 5 ) gX10_draw_X10_refuse rfl rfl rfl (by decide +kernel) ⟨Nat.le_of_ble_eq_true rfl, Nat.le_of_ble_eq_true rfl⟩ rfl rfl 0 rfl [0] rfl rfl rfl (Nat.le_of_ble_eq_true rfl) dX10_draw_36 ⟨Nat.le_of_ble_eq_true rfl, Nat.le_of_ble_eq_true rfl⟩) rfl rfl ?_
      have hs : sDraw n k seed = (oI none, 5) := by simp [sDraw, in1, c_12, c_18]
      refine j_iret (pc := 39) X dX10_draw_39 ?_
      rw [hs]; exact ⟨rfl, rfl⟩
    · skip
      refine j_iload_n (pc := 21) X dX10_draw_21 rfl 2 rfl ?_
      refine j_if_lt (pc := 22) X (x := k) (tgt := 34) dX10_draw_22 (by decide) (fun c_22 => ?_) (fun c_22 => ?_)
      · skip
        refine j_aload_n (pc := 34) X dX10_draw_34 rfl 0 rfl ?_
        refine j_iconst (pc := 35) X (v := nI 5) dX10_draw_35 (by decide) ?_
        refine j_ci (pc := 36) X (ws' := [(z, .inr (10, [.int (nI 5), .int (nI 0), .long za, .long zb, .ref z4, .ref z5, .ref z6, .int (nI el), .int (nI be), .ref z9, .ref z10, .ref z11, .ref z12, .int (b2i gz), .ref z14, .ref z15, .ref z16, .int (nI mm), .int (nI tt), .ref z19, .ref z20, .ref z21, .ref z22, .ref z23, .int (nI gm), .ref z25, .ref z26, .ref z27, .ref z28, .int (nI rn), .ref z30, .ref z31, .ref z32]))]) [0] rfl (j_rV X (b := z) (As := [.int (nI 5)]) (ci := 10) (rest := []) 1 (mX10_refuse l G z z4 z5 z6 z9 z10 z11 z12 z14 z15 z16 z19 z20 z21 z22 z23 z25 z26 z27 z28 z30 z31 z32 0 0 za zb el be gz mm tt gm rn 5 ) gX10_draw_X10_refuse rfl rfl rfl (by decide +kernel) ⟨Nat.le_of_ble_eq_true rfl, Nat.le_of_ble_eq_true rfl⟩ rfl rfl 0 rfl [0] rfl rfl rfl (Nat.le_of_ble_eq_true rfl) dX10_draw_36 ⟨Nat.le_of_ble_eq_true rfl, Nat.le_of_ble_eq_true rfl⟩) rfl rfl ?_
        have hs : sDraw n k seed = (oI none, 5) := by simp [sDraw, in1, c_12, c_18, c_22]
        refine j_iret (pc := 39) X dX10_draw_39 ?_
        rw [hs]; exact ⟨rfl, rfl⟩
      · skip
        refine j_iload_n (pc := 25) X dX10_draw_25 rfl 2 rfl ?_
        refine j_iload_n (pc := 26) X dX10_draw_26 rfl 1 rfl ?_
        refine j_icmp_gt (pc := 27) X (x := k) (z := n) (tgt := 34) dX10_draw_27 (by decide) (fun c_27 => ?_) (fun c_27 => ?_)
        · skip
          refine j_aload_n (pc := 34) X dX10_draw_34 rfl 0 rfl ?_
          refine j_iconst (pc := 35) X (v := nI 5) dX10_draw_35 (by decide) ?_
          refine j_ci (pc := 36) X (ws' := [(z, .inr (10, [.int (nI 5), .int (nI 0), .long za, .long zb, .ref z4, .ref z5, .ref z6, .int (nI el), .int (nI be), .ref z9, .ref z10, .ref z11, .ref z12, .int (b2i gz), .ref z14, .ref z15, .ref z16, .int (nI mm), .int (nI tt), .ref z19, .ref z20, .ref z21, .ref z22, .ref z23, .int (nI gm), .ref z25, .ref z26, .ref z27, .ref z28, .int (nI rn), .ref z30, .ref z31, .ref z32]))]) [0] rfl (j_rV X (b := z) (As := [.int (nI 5)]) (ci := 10) (rest := []) 1 (mX10_refuse l G z z4 z5 z6 z9 z10 z11 z12 z14 z15 z16 z19 z20 z21 z22 z23 z25 z26 z27 z28 z30 z31 z32 0 0 za zb el be gz mm tt gm rn 5 ) gX10_draw_X10_refuse rfl rfl rfl (by decide +kernel) ⟨Nat.le_of_ble_eq_true rfl, Nat.le_of_ble_eq_true rfl⟩ rfl rfl 0 rfl [0] rfl rfl rfl (Nat.le_of_ble_eq_true rfl) dX10_draw_36 ⟨Nat.le_of_ble_eq_true rfl, Nat.le_of_ble_eq_true rfl⟩) rfl rfl ?_
          have hs : sDraw n k seed = (oI none, 5) := by simp [sDraw, in1, c_12, c_18, c_22, c_27]
          refine j_iret (pc := 39) X dX10_draw_39 ?_
          rw [hs]; exact ⟨rfl, rfl⟩
        · skip
          refine j_iload_n (pc := 30) X dX10_draw_30 rfl 3 rfl ?_
          refine j_if_ge (pc := 31) X (x := seed) (tgt := 40) dX10_draw_31 (by decide) (fun c_31 => ?_) (fun c_31 => ?_)
          · skip
            obtain ⟨a, ha1, ha, rfl⟩ := rng_of1 c_12 (Int32.not_lt.mp c_18) (by decide); obtain ⟨b, hb, rfl⟩ := nI_of c_22; obtain ⟨cc_, hcc_w, rfl⟩ := nI_of (Int32.not_lt.mpr c_31); have hq_a := nI_clamp (n := a) (by omega); have hq_b := nI_clamp (n := b) (by omega); have hq_c := nI_clamp (n := cc_) (by omega)
            refine j_iload_n (pc := 40) X dX10_draw_40 rfl 3 rfl ?_
            refine j_i2l (pc := 41) X (v := (nI cc_).toInt64) dX10_draw_41 (rfl) ?_
            refine j_lstore (pc := 42) X (lv' := [(4, .long ((nI cc_).toInt64)), (0, .ref z), (1, .int (nI a)), (2, .int (nI b)), (3, .int (nI cc_))]) dX10_draw_42 (by decide) rfl ?_
            refine j_iload_n (pc := 44) X dX10_draw_44 rfl 3 rfl ?_
            refine j_istore (pc := 45) X (lv' := [(6, .int (nI b)), (4, .long ((nI cc_).toInt64)), (0, .ref z), (1, .int (nI a)), (2, .int (nI b)), (3, .int (nI cc_))]) dX10_draw_45 (by decide) rfl ?_
            refine j_iconst (pc := 47) X (v := nI 0) dX10_draw_47 (by decide) ?_
            refine j_istore (pc := 48) X (lv' := [(7, .int (nI 0)), (6, .int (nI b)), (4, .long ((nI cc_).toInt64)), (0, .ref z), (1, .int (nI a)), (2, .int (nI b)), (3, .int (nI cc_))]) dX10_draw_48 (by decide) rfl ?_
            refine j_iconst (pc := 50) X (v := nI 0) dX10_draw_50 (by decide) ?_
            refine j_istore (pc := 51) X (lv' := [(8, .int (nI 0)), (7, .int (nI 0)), (6, .int (nI b)), (4, .long ((nI cc_).toInt64)), (0, .ref z), (1, .int (nI a)), (2, .int (nI b)), (3, .int (nI cc_))]) dX10_draw_51 (by decide) rfl ?_
            refine j_lv [4, 5, 3, 2, 1, 0] (lv' := [(0, .ref z), (1, .int (nI a)), (4, .long ((nI cc_).toInt64)), (6, .int (nI b)), (7, .int (nI 0)), (8, .int (nI 0))]) rfl ?_
            exact mX10_draw_L53 l G z z4 z5 z6 z9 z10 z11 z12 z14 z15 z16 z19 z20 z21 z22 z23 z25 z26 z27 z28 z30 z31 z32 st th za zb el be gz mm tt gm rn (nI a) (nI b) (nI cc_)  κ X    (a - 0 + 1) a b cc_ 0 ((nI cc_).toInt64) (nI b) (nI 0) (rfl) (rfl) (rfl) (by omega) (by omega) (by rfl) (by simp [sDraw, in1, tN, hq_a, hq_b, hq_c, c_12, c_18, c_22, c_27, Int32.not_lt.mpr c_31]) (Nat.lt_succ_self _)
          · skip
            refine j_aload_n (pc := 34) X dX10_draw_34 rfl 0 rfl ?_
            refine j_iconst (pc := 35) X (v := nI 5) dX10_draw_35 (by decide) ?_
            refine j_ci (pc := 36) X (ws' := [(z, .inr (10, [.int (nI 5), .int (nI 0), .long za, .long zb, .ref z4, .ref z5, .ref z6, .int (nI el), .int (nI be), .ref z9, .ref z10, .ref z11, .ref z12, .int (b2i gz), .ref z14, .ref z15, .ref z16, .int (nI mm), .int (nI tt), .ref z19, .ref z20, .ref z21, .ref z22, .ref z23, .int (nI gm), .ref z25, .ref z26, .ref z27, .ref z28, .int (nI rn), .ref z30, .ref z31, .ref z32]))]) [0] rfl (j_rV X (b := z) (As := [.int (nI 5)]) (ci := 10) (rest := []) 1 (mX10_refuse l G z z4 z5 z6 z9 z10 z11 z12 z14 z15 z16 z19 z20 z21 z22 z23 z25 z26 z27 z28 z30 z31 z32 0 0 za zb el be gz mm tt gm rn 5 ) gX10_draw_X10_refuse rfl rfl rfl (by decide +kernel) ⟨Nat.le_of_ble_eq_true rfl, Nat.le_of_ble_eq_true rfl⟩ rfl rfl 0 rfl [0] rfl rfl rfl (Nat.le_of_ble_eq_true rfl) dX10_draw_36 ⟨Nat.le_of_ble_eq_true rfl, Nat.le_of_ble_eq_true rfl⟩) rfl rfl ?_
            have hs : sDraw n k seed = (oI none, 5) := by simp [sDraw, in1, c_12, c_18, c_22, c_27, c_31]
            refine j_iret (pc := 39) X dX10_draw_39 ?_
            rw [hs]; exact ⟨rfl, rfl⟩

set_option maxHeartbeats 4000000 in
set_option maxRecDepth 100000 in
theorem mX10_lasts_L63 (l : Launch) (G : jG) (z : Nat) (z4 : Nat) (z5 : Nat) (z6 : Nat) (z9 : Nat) (z10 : Nat) (z11 : Nat) (z12 : Nat) (z14 : Nat) (z15 : Nat) (z16 : Nat) (z19 : Nat) (z20 : Nat) (z21 : Nat) (z22 : Nat) (z23 : Nat) (z25 : Nat) (z26 : Nat) (z27 : Nat) (z28 : Nat) (z30 : Nat) (z31 : Nat) (z32 : Nat) (st : Nat) (th : Nat) (za : Int64) (zb : Int64) (el : Nat) (be : Nat) (gz : Bool) (mm : Nat) (tt : Nat) (gm : Nat) (rn : Nat) (mo : Nat → Nat) (re : Nat → Bool) (m : Int32) (hrn : rn ≤ 16) (hmo : ∀ k, mo k ≤ 60) (κ : jK) (X : CX κ l yX10_lasts cX10_lasts 10 RX10 wsX10_lasts (some .boolean) ({ frames := 3, cells := 0, slots := 0, locals := 76 }) G (va_A [(z, .inr (10, [.int (nI st), .int (nI th), .long za, .long zb, .ref z4, .ref z5, .ref z6, .int (nI el), .int (nI be), .ref z9, .ref z10, .ref z11, .ref z12, .int (b2i gz), .ref z14, .ref z15, .ref z16, .int (nI mm), .int (nI tt), .ref z19, .ref z20, .ref z21, .ref z22, .ref z23, .int (nI gm), .ref z25, .ref z26, .ref z27, .ref z28, .int (nI rn), .ref z30, .ref z31, .ref z32])), kI G z30 16 (nF mo), kZ G z31 16 (bF re)] (js κ).heap.size)) (no48 : Nat) (hK48 : ∀ (j : Nat) (t : Nat) (hmj : m = nI j) (hj : j ≤ 60) (ht : t ≤ j) (hrn0 : ¬ rn = 0) (_ : j - t < no48), JJ κ 10 G (va_A [(z, .inr (10, [.int (nI st), .int (nI th), .long za, .long zb, .ref z4, .ref z5, .ref z6, .int (nI el), .int (nI be), .ref z9, .ref z10, .ref z11, .ref z12, .int (b2i gz), .ref z14, .ref z15, .ref z16, .int (nI mm), .int (nI tt), .ref z19, .ref z20, .ref z21, .ref z22, .ref z23, .int (nI gm), .ref z25, .ref z26, .ref z27, .ref z28, .int (nI rn), .ref z30, .ref z31, .ref z32])), kI G z30 16 (nF mo), kZ G z31 16 (bF re)] (js κ).heap.size) 0 0 (jQ κ G [(z, .inr (10, [.int (nI st), .int (nI th), .long za, .long zb, .ref z4, .ref z5, .ref z6, .int (nI el), .int (nI be), .ref z9, .ref z10, .ref z11, .ref z12, .int (b2i gz), .ref z14, .ref z15, .ref z16, .int (nI mm), .int (nI tt), .ref z19, .ref z20, .ref z21, .ref z22, .ref z23, .int (nI gm), .ref z25, .ref z26, .ref z27, .ref z28, .int (nI rn), .ref z30, .ref z31, .ref z32])), kI G z30 16 (nF mo), kZ G z31 16 (bF re)] (fun r w' => r = some (.int (b2i ((sLasts rn mo re za zb m).1))) ∧ w' = [(z, .inr (10, [.int (nI ((sLasts rn mo re za zb m).2.1)), .int (nI 0), .long ((sLasts rn mo re za zb m).2.2.1), .long ((sLasts rn mo re za zb m).2.2.2), .ref z4, .ref z5, .ref z6, .int (nI el), .int (nI be), .ref z9, .ref z10, .ref z11, .ref z12, .int (b2i gz), .ref z14, .ref z15, .ref z16, .int (nI mm), .int (nI tt), .ref z19, .ref z20, .ref z21, .ref z22, .ref z23, .int (nI gm), .ref z25, .ref z26, .ref z27, .ref z28, .int (nI rn), .ref z30, .ref z31, .ref z32])), kI G z30 16 (nF mo), kZ G z31 16 (bF re)]) 0 0) 48 [(0, .ref z), (1, .int (nI j)), (2, .long (lN (shA mo re rn t))), (4, .long (lN (shB mo re rn t))), (6, .int (nI (t + 1)))] [] [(z, .inr (10, [.int (nI 0), .int (nI 0), .long za, .long zb, .ref z4, .ref z5, .ref z6, .int (nI el), .int (nI be), .ref z9, .ref z10, .ref z11, .ref z12, .int (b2i gz), .ref z14, .ref z15, .ref z16, .int (nI mm), .int (nI tt), .ref z19, .ref z20, .ref z21, .ref z22, .ref z23, .int (nI gm), .ref z25, .ref z26, .ref z27, .ref z28, .int (nI rn), .ref z30, .ref z31, .ref z32])), kI G z30 16 (nF mo), kZ G z31 16 (bF re)])  (j : Nat) (t : Nat) (hmj : m = nI j) (hj : j ≤ 60) (ht : t ≤ j) (hrn0 : ¬ rn = 0) (hm48 : j - t < no48 + 1) : ∀ (fu : Nat) (r : Nat) (hr : r ≤ rn) (htj : t < j) (_ : rn - r < fu), JJ κ 10 G (va_A [(z, .inr (10, [.int (nI st), .int (nI th), .long za, .long zb, .ref z4, .ref z5, .ref z6, .int (nI el), .int (nI be), .ref z9, .ref z10, .ref z11, .ref z12, .int (b2i gz), .ref z14, .ref z15, .ref z16, .int (nI mm), .int (nI tt), .ref z19, .ref z20, .ref z21, .ref z22, .ref z23, .int (nI gm), .ref z25, .ref z26, .ref z27, .ref z28, .int (nI rn), .ref z30, .ref z31, .ref z32])), kI G z30 16 (nF mo), kZ G z31 16 (bF re)] (js κ).heap.size) 0 0 (jQ κ G [(z, .inr (10, [.int (nI st), .int (nI th), .long za, .long zb, .ref z4, .ref z5, .ref z6, .int (nI el), .int (nI be), .ref z9, .ref z10, .ref z11, .ref z12, .int (b2i gz), .ref z14, .ref z15, .ref z16, .int (nI mm), .int (nI tt), .ref z19, .ref z20, .ref z21, .ref z22, .ref z23, .int (nI gm), .ref z25, .ref z26, .ref z27, .ref z28, .int (nI rn), .ref z30, .ref z31, .ref z32])), kI G z30 16 (nF mo), kZ G z31 16 (bF re)] (fun r w' => r = some (.int (b2i ((sLasts rn mo re za zb m).1))) ∧ w' = [(z, .inr (10, [.int (nI ((sLasts rn mo re za zb m).2.1)), .int (nI 0), .long ((sLasts rn mo re za zb m).2.2.1), .long ((sLasts rn mo re za zb m).2.2.2), .ref z4, .ref z5, .ref z6, .int (nI el), .int (nI be), .ref z9, .ref z10, .ref z11, .ref z12, .int (b2i gz), .ref z14, .ref z15, .ref z16, .int (nI mm), .int (nI tt), .ref z19, .ref z20, .ref z21, .ref z22, .ref z23, .int (nI gm), .ref z25, .ref z26, .ref z27, .ref z28, .int (nI rn), .ref z30, .ref z31, .ref z32])), kI G z30 16 (nF mo), kZ G z31 16 (bF re)]) 0 0) 63 [(0, .ref z), (1, .int (nI j)), (2, .long (lN (shA mo re rn t))), (4, .long (lN (shB mo re rn t))), (6, .int (nI (t + 1))), (7, .int (nI (cntE mo re (t + 1) r))), (8, .int (nI (cntR mo (t + 1) r))), (9, .int (nI r))] [] [(z, .inr (10, [.int (nI 0), .int (nI 0), .long za, .long zb, .ref z4, .ref z5, .ref z6, .int (nI el), .int (nI be), .ref z9, .ref z10, .ref z11, .ref z12, .int (b2i gz), .ref z14, .ref z15, .ref z16, .int (nI mm), .int (nI tt), .ref z19, .ref z20, .ref z21, .ref z22, .ref z23, .int (nI gm), .ref z25, .ref z26, .ref z27, .ref z28, .int (nI rn), .ref z30, .ref z31, .ref z32])), kI G z30 16 (nF mo), kZ G z31 16 (bF re)] := by
  have i_X10 : ∀ w ∈ wsX100, w ∈ wsX10_lasts := by decide +kernel
  subst hmj
  intro fu
  induction fu with
  | zero => intro r hr htj hms; exact absurd hms (Nat.not_lt_zero _)
  | succ fu ih =>
    intro r hr htj hms
    refine j_iload (pc := 63) X dX10_lasts_63 7 rfl ?_
    refine j_aload_n (pc := 65) X dX10_lasts_65 rfl 0 rfl ?_
    refine j_get (pc := 66) X 10 i_X10 0 rfl rfl 29 (by decide) (by decide +kernel) rfl dX10_lasts_66 ?_
    refine j_icmpN_ge (pc := 69) X (a := r) (b := rn) (by first | omega | exact Nat.lt_of_le_of_lt (hmo _) (by decide) | (have h1 := cntR_le mo (t + 1) rn; have h2 := cntE_le mo re (t + 1) rn; omega)) (by first | omega | exact Nat.lt_of_le_of_lt (hmo _) (by decide) | (have h1 := cntR_le mo (t + 1) rn; have h2 := cntE_le mo re (t + 1) rn; omega)) (tgt := 132) dX10_lasts_69 (by decide) (fun c_69 => ?_) (fun c_69 => ?_)
    · skip
      obtain rfl : rn = r := by omega
      refine j_iload (pc := 132) X dX10_lasts_132 5 rfl ?_
      refine j_ifN_ne (pc := 134) X (a := (cntE mo re (t + 1) rn)) (by first | omega | exact Nat.lt_of_le_of_lt (hmo _) (by decide) | (have h1 := cntR_le mo (t + 1) rn; have h2 := cntE_le mo re (t + 1) rn; omega)) (tgt := 140) dX10_lasts_134 (by decide) (fun c_134 => ?_) (fun c_134 => ?_)
      · skip
        refine j_lload_n (pc := 140) X dX10_lasts_140 rfl 2 rfl ?_
        refine j_iload (pc := 141) X dX10_lasts_141 6 rfl ?_
        refine j_iload (pc := 143) X dX10_lasts_143 5 rfl ?_
        refine j_isub (pc := 145) X dX10_lasts_145 ?_
        refine j_topi (z := nI (cntR mo (t + 1) rn - cntE mo re (t + 1) rn)) (pk_sub (by have h1 := cntR_le mo (t + 1) rn; have h2 := cntE_le mo re (t + 1) rn; omega)) ?_
        refine j_i2l (pc := 146) X (v := lN (cntR mo (t + 1) rn - cntE mo re (t + 1) rn)) dX10_lasts_146 (nI_l (by (have h1 := cntR_le mo (t + 1) rn; have h2 := cntE_le mo re (t + 1) rn; omega))) ?_
        refine j_lmul (pc := 147) X dX10_lasts_147 ?_
        refine j_topl (z := lN (shA mo re rn t * (cntR mo (t + 1) rn - cntE mo re (t + 1) rn))) (lN_mul _ _) ?_
        refine j_lstore_n (pc := 148) X (lv' := [(2, .long (lN (shA mo re rn t * (cntR mo (t + 1) rn - cntE mo re (t + 1) rn)))), (0, .ref z), (1, .int (nI j)), (4, .long (lN (shB mo re rn t))), (6, .int (nI (t + 1))), (7, .int (nI (cntE mo re (t + 1) rn))), (8, .int (nI (cntR mo (t + 1) rn))), (9, .int (nI rn))]) dX10_lasts_148 rfl (by decide) rfl ?_
        refine j_lload (pc := 149) X dX10_lasts_149 3 rfl ?_
        refine j_iload (pc := 151) X dX10_lasts_151 6 rfl ?_
        refine j_i2l (pc := 153) X (v := lN (cntR mo (t + 1) rn)) dX10_lasts_153 (nI_l (by (have h1 := cntR_le mo (t + 1) rn; have h2 := cntE_le mo re (t + 1) rn; omega))) ?_
        refine j_lmul (pc := 154) X dX10_lasts_154 ?_
        refine j_topl (z := lN (shB mo re rn t * cntR mo (t + 1) rn)) (lN_mul _ _) ?_
        refine j_lstore (pc := 155) X (lv' := [(4, .long (lN (shB mo re rn t * cntR mo (t + 1) rn))), (2, .long (lN (shA mo re rn t * (cntR mo (t + 1) rn - cntE mo re (t + 1) rn)))), (0, .ref z), (1, .int (nI j)), (6, .int (nI (t + 1))), (7, .int (nI (cntE mo re (t + 1) rn))), (8, .int (nI (cntR mo (t + 1) rn))), (9, .int (nI rn))]) dX10_lasts_155 (by decide) rfl ?_
        refine j_iinc (pc := 157) X (v := nI (t + 1 + 1)) (lv' := [(6, .int (nI (t + 1 + 1))), (4, .long (lN (shB mo re rn t * cntR mo (t + 1) rn))), (2, .long (lN (shA mo re rn t * (cntR mo (t + 1) rn - cntE mo re (t + 1) rn)))), (0, .ref z), (1, .int (nI j)), (7, .int (nI (cntE mo re (t + 1) rn))), (8, .int (nI (cntR mo (t + 1) rn))), (9, .int (nI rn))]) dX10_lasts_157 4 rfl (nI_1 _) (by decide) rfl ?_
        refine j_goto (pc := 160) X (tgt := 48) dX10_lasts_160 (by decide) ?_
        refine j_lv [3, 4, 2, 1, 0] (lv' := [(0, .ref z), (1, .int (nI j)), (2, .long (lN (shA mo re rn t * (cntR mo (t + 1) rn - cntE mo re (t + 1) rn)))), (4, .long (lN (shB mo re rn t * cntR mo (t + 1) rn))), (6, .int (nI (t + 1 + 1)))]) rfl ?_
        refine j_lvq (lv' := [(0, .ref z), (1, .int (nI j)), (2, .long (lN (shA mo re rn (t + 1)))), (4, .long (lN (shB mo re rn (t + 1)))), (6, .int (nI (t + 1 + 1)))]) ?_ ?_
        · first | rfl | (rw [show (lN (shA mo re rn t * (cntR mo (t + 1) rn - cntE mo re (t + 1) rn))) = lN (shA mo re rn (t + 1)) from by (simp only [shA, shB]; split <;> first | rfl | omega), show (lN (shB mo re rn t * cntR mo (t + 1) rn)) = lN (shB mo re rn (t + 1)) from by (simp only [shA, shB]; split <;> first | rfl | omega)])
        exact hK48 j (t + 1) (rfl) (by omega) (by omega) (by first | exact hrn0 | exact c_30) (by omega)
      · skip
        refine j_goto (pc := 137) X (tgt := 157) dX10_lasts_137 (by decide) ?_
        refine j_iinc (pc := 157) X (v := nI (t + 1 + 1)) (lv' := [(6, .int (nI (t + 1 + 1))), (0, .ref z), (1, .int (nI j)), (2, .long (lN (shA mo re rn t))), (4, .long (lN (shB mo re rn t))), (7, .int (nI (cntE mo re (t + 1) rn))), (8, .int (nI (cntR mo (t + 1) rn))), (9, .int (nI rn))]) dX10_lasts_157 4 rfl (nI_1 _) (by decide) rfl ?_
        refine j_goto (pc := 160) X (tgt := 48) dX10_lasts_160 (by decide) ?_
        refine j_lv [1, 2, 3, 4, 0] (lv' := [(0, .ref z), (1, .int (nI j)), (2, .long (lN (shA mo re rn t))), (4, .long (lN (shB mo re rn t))), (6, .int (nI (t + 1 + 1)))]) rfl ?_
        refine j_lvq (lv' := [(0, .ref z), (1, .int (nI j)), (2, .long (lN (shA mo re rn (t + 1)))), (4, .long (lN (shB mo re rn (t + 1)))), (6, .int (nI (t + 1 + 1)))]) ?_ ?_
        · first | rfl | (rw [show (lN (shA mo re rn t)) = lN (shA mo re rn (t + 1)) from by (simp only [shA, shB]; split <;> first | rfl | omega), show (lN (shB mo re rn t)) = lN (shB mo re rn (t + 1)) from by (simp only [shA, shB]; split <;> first | rfl | omega)])
        exact hK48 j (t + 1) (rfl) (by omega) (by omega) (by first | exact hrn0 | exact c_30) (by omega)
    · skip
      refine j_iload (pc := 72) X dX10_lasts_72 5 rfl ?_
      refine j_aload_n (pc := 74) X dX10_lasts_74 rfl 0 rfl ?_
      refine j_get (pc := 75) X 10 i_X10 0 rfl rfl 30 (by decide) (by decide +kernel) rfl dX10_lasts_75 ?_
      refine j_iload (pc := 78) X dX10_lasts_78 7 rfl ?_
      refine j_iald (pc := 80) X 1 rfl (vp_in_nI (by omega) (by decide)) (v := nI (mo r)) (congrArg (nF mo) (nI_clamp (by omega))) dX10_lasts_80 ?_
      refine j_iload (pc := 81) X dX10_lasts_81 4 rfl ?_
      refine j_icmpN_ne (pc := 83) X (a := (mo r)) (b := (t + 1)) (by first | omega | exact Nat.lt_of_le_of_lt (hmo _) (by decide) | (have h1 := cntR_le mo (t + 1) rn; have h2 := cntE_le mo re (t + 1) rn; omega)) (by first | omega | exact Nat.lt_of_le_of_lt (hmo _) (by decide) | (have h1 := cntR_le mo (t + 1) rn; have h2 := cntE_le mo re (t + 1) rn; omega)) (tgt := 100) dX10_lasts_83 (by decide) (fun c_83 => ?_) (fun c_83 => ?_)
      · skip
        refine j_iconst (pc := 100) X (v := nI 0) dX10_lasts_100 (by decide) ?_
        refine j_iadd (pc := 101) X dX10_lasts_101 ?_
        refine j_topi (z := nI (cntE mo re (t + 1) r + 0)) (nI_add _ _) ?_
        refine j_istore (pc := 102) X (lv' := [(7, .int (nI (cntE mo re (t + 1) r + 0))), (0, .ref z), (1, .int (nI j)), (2, .long (lN (shA mo re rn t))), (4, .long (lN (shB mo re rn t))), (6, .int (nI (t + 1))), (8, .int (nI (cntR mo (t + 1) r))), (9, .int (nI r))]) dX10_lasts_102 (by decide) rfl ?_
        refine j_iload (pc := 104) X dX10_lasts_104 6 rfl ?_
        refine j_aload_n (pc := 106) X dX10_lasts_106 rfl 1 rfl ?_
        refine j_get (pc := 107) X 10 i_X10 0 rfl rfl 30 (by decide) (by decide +kernel) rfl dX10_lasts_107 ?_
        refine j_iload (pc := 110) X dX10_lasts_110 7 rfl ?_
        refine j_iald (pc := 112) X 1 rfl (vp_in_nI (by omega) (by decide)) (v := nI (mo r)) (congrArg (nF mo) (nI_clamp (by omega))) dX10_lasts_112 ?_
        refine j_iload (pc := 113) X dX10_lasts_113 5 rfl ?_
        refine j_icmpN_lt (pc := 115) X (a := (mo r)) (b := (t + 1)) (by first | omega | exact Nat.lt_of_le_of_lt (hmo _) (by decide) | (have h1 := cntR_le mo (t + 1) rn; have h2 := cntE_le mo re (t + 1) rn; omega)) (by first | omega | exact Nat.lt_of_le_of_lt (hmo _) (by decide) | (have h1 := cntR_le mo (t + 1) rn; have h2 := cntE_le mo re (t + 1) rn; omega)) (tgt := 122) dX10_lasts_115 (by decide) (fun c_115 => ?_) (fun c_115 => ?_)
        · skip
          refine j_iconst (pc := 122) X (v := nI 0) dX10_lasts_122 (by decide) ?_
          refine j_iadd (pc := 123) X dX10_lasts_123 ?_
          refine j_topi (z := nI (cntR mo (t + 1) r + 0)) (nI_add _ _) ?_
          refine j_istore (pc := 124) X (lv' := [(8, .int (nI (cntR mo (t + 1) r + 0))), (7, .int (nI (cntE mo re (t + 1) r + 0))), (0, .ref z), (1, .int (nI j)), (2, .long (lN (shA mo re rn t))), (4, .long (lN (shB mo re rn t))), (6, .int (nI (t + 1))), (9, .int (nI r))]) dX10_lasts_124 (by decide) rfl ?_
          refine j_iinc (pc := 126) X (v := nI (r + 1)) (lv' := [(9, .int (nI (r + 1))), (8, .int (nI (cntR mo (t + 1) r + 0))), (7, .int (nI (cntE mo re (t + 1) r + 0))), (0, .ref z), (1, .int (nI j)), (2, .long (lN (shA mo re rn t))), (4, .long (lN (shB mo re rn t))), (6, .int (nI (t + 1)))]) dX10_lasts_126 7 rfl (nI_1 _) (by decide) rfl ?_
          refine j_goto (pc := 129) X (tgt := 63) dX10_lasts_129 (by decide) ?_
          refine j_lv [3, 4, 5, 6, 7, 2, 1, 0] (lv' := [(0, .ref z), (1, .int (nI j)), (2, .long (lN (shA mo re rn t))), (4, .long (lN (shB mo re rn t))), (6, .int (nI (t + 1))), (7, .int (nI (cntE mo re (t + 1) r + 0))), (8, .int (nI (cntR mo (t + 1) r + 0))), (9, .int (nI (r + 1)))]) rfl ?_
          refine j_lvq (lv' := [(0, .ref z), (1, .int (nI j)), (2, .long (lN (shA mo re rn t))), (4, .long (lN (shB mo re rn t))), (6, .int (nI (t + 1))), (7, .int (nI (cntE mo re (t + 1) (r + 1)))), (8, .int (nI (cntR mo (t + 1) (r + 1)))), (9, .int (nI (r + 1)))]) ?_ ?_
          · rw [show (cntE mo re (t + 1) r + 0) = cntE mo re (t + 1) (r + 1) from by (simp only [cntE, cntR]; simp [c_69, c_83, c_115]; try omega), show (cntR mo (t + 1) r + 0) = cntR mo (t + 1) (r + 1) from by (simp only [cntE, cntR]; simp [c_69, c_83, c_115]; try omega)]
          exact ih (r + 1) (by omega) (by omega) (by omega)
        · skip
          refine j_iconst (pc := 118) X (v := nI 1) dX10_lasts_118 (by decide) ?_
          refine j_goto (pc := 119) X (tgt := 123) dX10_lasts_119 (by decide) ?_
          refine j_iadd (pc := 123) X dX10_lasts_123 ?_
          refine j_topi (z := nI (cntR mo (t + 1) r + 1)) (nI_add _ _) ?_
          refine j_istore (pc := 124) X (lv' := [(8, .int (nI (cntR mo (t + 1) r + 1))), (7, .int (nI (cntE mo re (t + 1) r + 0))), (0, .ref z), (1, .int (nI j)), (2, .long (lN (shA mo re rn t))), (4, .long (lN (shB mo re rn t))), (6, .int (nI (t + 1))), (9, .int (nI r))]) dX10_lasts_124 (by decide) rfl ?_
          refine j_iinc (pc := 126) X (v := nI (r + 1)) (lv' := [(9, .int (nI (r + 1))), (8, .int (nI (cntR mo (t + 1) r + 1))), (7, .int (nI (cntE mo re (t + 1) r + 0))), (0, .ref z), (1, .int (nI j)), (2, .long (lN (shA mo re rn t))), (4, .long (lN (shB mo re rn t))), (6, .int (nI (t + 1)))]) dX10_lasts_126 7 rfl (nI_1 _) (by decide) rfl ?_
          refine j_goto (pc := 129) X (tgt := 63) dX10_lasts_129 (by decide) ?_
          refine j_lv [3, 4, 5, 6, 7, 2, 1, 0] (lv' := [(0, .ref z), (1, .int (nI j)), (2, .long (lN (shA mo re rn t))), (4, .long (lN (shB mo re rn t))), (6, .int (nI (t + 1))), (7, .int (nI (cntE mo re (t + 1) r + 0))), (8, .int (nI (cntR mo (t + 1) r + 1))), (9, .int (nI (r + 1)))]) rfl ?_
          refine j_lvq (lv' := [(0, .ref z), (1, .int (nI j)), (2, .long (lN (shA mo re rn t))), (4, .long (lN (shB mo re rn t))), (6, .int (nI (t + 1))), (7, .int (nI (cntE mo re (t + 1) (r + 1)))), (8, .int (nI (cntR mo (t + 1) (r + 1)))), (9, .int (nI (r + 1)))]) ?_ ?_
          · rw [show (cntE mo re (t + 1) r + 0) = cntE mo re (t + 1) (r + 1) from by (simp only [cntE, cntR]; simp [c_69, c_83, c_115]; try omega), show (cntR mo (t + 1) r + 1) = cntR mo (t + 1) (r + 1) from by (simp only [cntE, cntR]; simp [c_69, c_83, c_115]; try omega)]
          exact ih (r + 1) (by omega) (by omega) (by omega)
      · skip
        refine j_aload_n (pc := 86) X dX10_lasts_86 rfl 0 rfl ?_
        refine j_get (pc := 87) X 10 i_X10 0 rfl rfl 31 (by decide) (by decide +kernel) rfl dX10_lasts_87 ?_
        refine j_iload (pc := 90) X dX10_lasts_90 7 rfl ?_
        refine j_zald (pc := 92) X 2 rfl (vp_in_nI (by omega) (by decide)) (v := b2i (re r)) (congrArg (bF re) (nI_clamp (by omega))) dX10_lasts_92 ?_
        refine j_ifb_eq (pc := 93) X (B := re r) (tgt := 100) dX10_lasts_93 (by decide) (fun c_93 => ?_) (fun c_93 => ?_)
        · skip
          refine j_iconst (pc := 100) X (v := nI 0) dX10_lasts_100 (by decide) ?_
          refine j_iadd (pc := 101) X dX10_lasts_101 ?_
          refine j_topi (z := nI (cntE mo re (t + 1) r + 0)) (nI_add _ _) ?_
          refine j_istore (pc := 102) X (lv' := [(7, .int (nI (cntE mo re (t + 1) r + 0))), (0, .ref z), (1, .int (nI j)), (2, .long (lN (shA mo re rn t))), (4, .long (lN (shB mo re rn t))), (6, .int (nI (t + 1))), (8, .int (nI (cntR mo (t + 1) r))), (9, .int (nI r))]) dX10_lasts_102 (by decide) rfl ?_
          refine j_iload (pc := 104) X dX10_lasts_104 6 rfl ?_
          refine j_aload_n (pc := 106) X dX10_lasts_106 rfl 1 rfl ?_
          refine j_get (pc := 107) X 10 i_X10 0 rfl rfl 30 (by decide) (by decide +kernel) rfl dX10_lasts_107 ?_
          refine j_iload (pc := 110) X dX10_lasts_110 7 rfl ?_
          refine j_iald (pc := 112) X 1 rfl (vp_in_nI (by omega) (by decide)) (v := nI (mo r)) (congrArg (nF mo) (nI_clamp (by omega))) dX10_lasts_112 ?_
          refine j_iload (pc := 113) X dX10_lasts_113 5 rfl ?_
          refine j_icmpN_lt (pc := 115) X (a := (mo r)) (b := (t + 1)) (by first | omega | exact Nat.lt_of_le_of_lt (hmo _) (by decide) | (have h1 := cntR_le mo (t + 1) rn; have h2 := cntE_le mo re (t + 1) rn; omega)) (by first | omega | exact Nat.lt_of_le_of_lt (hmo _) (by decide) | (have h1 := cntR_le mo (t + 1) rn; have h2 := cntE_le mo re (t + 1) rn; omega)) (tgt := 122) dX10_lasts_115 (by decide) (fun c_115 => ?_) (fun c_115 => ?_)
          · skip
            refine j_iconst (pc := 122) X (v := nI 0) dX10_lasts_122 (by decide) ?_
            refine j_iadd (pc := 123) X dX10_lasts_123 ?_
            refine j_topi (z := nI (cntR mo (t + 1) r + 0)) (nI_add _ _) ?_
            refine j_istore (pc := 124) X (lv' := [(8, .int (nI (cntR mo (t + 1) r + 0))), (7, .int (nI (cntE mo re (t + 1) r + 0))), (0, .ref z), (1, .int (nI j)), (2, .long (lN (shA mo re rn t))), (4, .long (lN (shB mo re rn t))), (6, .int (nI (t + 1))), (9, .int (nI r))]) dX10_lasts_124 (by decide) rfl ?_
            refine j_iinc (pc := 126) X (v := nI (r + 1)) (lv' := [(9, .int (nI (r + 1))), (8, .int (nI (cntR mo (t + 1) r + 0))), (7, .int (nI (cntE mo re (t + 1) r + 0))), (0, .ref z), (1, .int (nI j)), (2, .long (lN (shA mo re rn t))), (4, .long (lN (shB mo re rn t))), (6, .int (nI (t + 1)))]) dX10_lasts_126 7 rfl (nI_1 _) (by decide) rfl ?_
            refine j_goto (pc := 129) X (tgt := 63) dX10_lasts_129 (by decide) ?_
            refine j_lv [3, 4, 5, 6, 7, 2, 1, 0] (lv' := [(0, .ref z), (1, .int (nI j)), (2, .long (lN (shA mo re rn t))), (4, .long (lN (shB mo re rn t))), (6, .int (nI (t + 1))), (7, .int (nI (cntE mo re (t + 1) r + 0))), (8, .int (nI (cntR mo (t + 1) r + 0))), (9, .int (nI (r + 1)))]) rfl ?_
            refine j_lvq (lv' := [(0, .ref z), (1, .int (nI j)), (2, .long (lN (shA mo re rn t))), (4, .long (lN (shB mo re rn t))), (6, .int (nI (t + 1))), (7, .int (nI (cntE mo re (t + 1) (r + 1)))), (8, .int (nI (cntR mo (t + 1) (r + 1)))), (9, .int (nI (r + 1)))]) ?_ ?_
            · rw [show (cntE mo re (t + 1) r + 0) = cntE mo re (t + 1) (r + 1) from by (simp only [cntE, cntR]; simp [c_69, c_83, c_93, c_115]; try omega), show (cntR mo (t + 1) r + 0) = cntR mo (t + 1) (r + 1) from by (simp only [cntE, cntR]; simp [c_69, c_83, c_93, c_115]; try omega)]
            exact ih (r + 1) (by omega) (by omega) (by omega)
          · skip
            refine j_iconst (pc := 118) X (v := nI 1) dX10_lasts_118 (by decide) ?_
            refine j_goto (pc := 119) X (tgt := 123) dX10_lasts_119 (by decide) ?_
            refine j_iadd (pc := 123) X dX10_lasts_123 ?_
            refine j_topi (z := nI (cntR mo (t + 1) r + 1)) (nI_add _ _) ?_
            refine j_istore (pc := 124) X (lv' := [(8, .int (nI (cntR mo (t + 1) r + 1))), (7, .int (nI (cntE mo re (t + 1) r + 0))), (0, .ref z), (1, .int (nI j)), (2, .long (lN (shA mo re rn t))), (4, .long (lN (shB mo re rn t))), (6, .int (nI (t + 1))), (9, .int (nI r))]) dX10_lasts_124 (by decide) rfl ?_
            refine j_iinc (pc := 126) X (v := nI (r + 1)) (lv' := [(9, .int (nI (r + 1))), (8, .int (nI (cntR mo (t + 1) r + 1))), (7, .int (nI (cntE mo re (t + 1) r + 0))), (0, .ref z), (1, .int (nI j)), (2, .long (lN (shA mo re rn t))), (4, .long (lN (shB mo re rn t))), (6, .int (nI (t + 1)))]) dX10_lasts_126 7 rfl (nI_1 _) (by decide) rfl ?_
            refine j_goto (pc := 129) X (tgt := 63) dX10_lasts_129 (by decide) ?_
            refine j_lv [3, 4, 5, 6, 7, 2, 1, 0] (lv' := [(0, .ref z), (1, .int (nI j)), (2, .long (lN (shA mo re rn t))), (4, .long (lN (shB mo re rn t))), (6, .int (nI (t + 1))), (7, .int (nI (cntE mo re (t + 1) r + 0))), (8, .int (nI (cntR mo (t + 1) r + 1))), (9, .int (nI (r + 1)))]) rfl ?_
            refine j_lvq (lv' := [(0, .ref z), (1, .int (nI j)), (2, .long (lN (shA mo re rn t))), (4, .long (lN (shB mo re rn t))), (6, .int (nI (t + 1))), (7, .int (nI (cntE mo re (t + 1) (r + 1)))), (8, .int (nI (cntR mo (t + 1) (r + 1)))), (9, .int (nI (r + 1)))]) ?_ ?_
            · rw [show (cntE mo re (t + 1) r + 0) = cntE mo re (t + 1) (r + 1) from by (simp only [cntE, cntR]; simp [c_69, c_83, c_93, c_115]; try omega), show (cntR mo (t + 1) r + 1) = cntR mo (t + 1) (r + 1) from by (simp only [cntE, cntR]; simp [c_69, c_83, c_93, c_115]; try omega)]
            exact ih (r + 1) (by omega) (by omega) (by omega)
        · skip
          refine j_iconst (pc := 96) X (v := nI 1) dX10_lasts_96 (by decide) ?_
          refine j_goto (pc := 97) X (tgt := 101) dX10_lasts_97 (by decide) ?_
          refine j_iadd (pc := 101) X dX10_lasts_101 ?_
          refine j_topi (z := nI (cntE mo re (t + 1) r + 1)) (nI_add _ _) ?_
          refine j_istore (pc := 102) X (lv' := [(7, .int (nI (cntE mo re (t + 1) r + 1))), (0, .ref z), (1, .int (nI j)), (2, .long (lN (shA mo re rn t))), (4, .long (lN (shB mo re rn t))), (6, .int (nI (t + 1))), (8, .int (nI (cntR mo (t + 1) r))), (9, .int (nI r))]) dX10_lasts_102 (by decide) rfl ?_
          refine j_iload (pc := 104) X dX10_lasts_104 6 rfl ?_
          refine j_aload_n (pc := 106) X dX10_lasts_106 rfl 1 rfl ?_
          refine j_get (pc := 107) X 10 i_X10 0 rfl rfl 30 (by decide) (by decide +kernel) rfl dX10_lasts_107 ?_
          refine j_iload (pc := 110) X dX10_lasts_110 7 rfl ?_
          refine j_iald (pc := 112) X 1 rfl (vp_in_nI (by omega) (by decide)) (v := nI (mo r)) (congrArg (nF mo) (nI_clamp (by omega))) dX10_lasts_112 ?_
          refine j_iload (pc := 113) X dX10_lasts_113 5 rfl ?_
          refine j_icmpN_lt (pc := 115) X (a := (mo r)) (b := (t + 1)) (by first | omega | exact Nat.lt_of_le_of_lt (hmo _) (by decide) | (have h1 := cntR_le mo (t + 1) rn; have h2 := cntE_le mo re (t + 1) rn; omega)) (by first | omega | exact Nat.lt_of_le_of_lt (hmo _) (by decide) | (have h1 := cntR_le mo (t + 1) rn; have h2 := cntE_le mo re (t + 1) rn; omega)) (tgt := 122) dX10_lasts_115 (by decide) (fun c_115 => ?_) (fun c_115 => ?_)
          · skip
            refine j_iconst (pc := 122) X (v := nI 0) dX10_lasts_122 (by decide) ?_
            refine j_iadd (pc := 123) X dX10_lasts_123 ?_
            refine j_topi (z := nI (cntR mo (t + 1) r + 0)) (nI_add _ _) ?_
            refine j_istore (pc := 124) X (lv' := [(8, .int (nI (cntR mo (t + 1) r + 0))), (7, .int (nI (cntE mo re (t + 1) r + 1))), (0, .ref z), (1, .int (nI j)), (2, .long (lN (shA mo re rn t))), (4, .long (lN (shB mo re rn t))), (6, .int (nI (t + 1))), (9, .int (nI r))]) dX10_lasts_124 (by decide) rfl ?_
            refine j_iinc (pc := 126) X (v := nI (r + 1)) (lv' := [(9, .int (nI (r + 1))), (8, .int (nI (cntR mo (t + 1) r + 0))), (7, .int (nI (cntE mo re (t + 1) r + 1))), (0, .ref z), (1, .int (nI j)), (2, .long (lN (shA mo re rn t))), (4, .long (lN (shB mo re rn t))), (6, .int (nI (t + 1)))]) dX10_lasts_126 7 rfl (nI_1 _) (by decide) rfl ?_
            refine j_goto (pc := 129) X (tgt := 63) dX10_lasts_129 (by decide) ?_
            refine j_lv [3, 4, 5, 6, 7, 2, 1, 0] (lv' := [(0, .ref z), (1, .int (nI j)), (2, .long (lN (shA mo re rn t))), (4, .long (lN (shB mo re rn t))), (6, .int (nI (t + 1))), (7, .int (nI (cntE mo re (t + 1) r + 1))), (8, .int (nI (cntR mo (t + 1) r + 0))), (9, .int (nI (r + 1)))]) rfl ?_
            refine j_lvq (lv' := [(0, .ref z), (1, .int (nI j)), (2, .long (lN (shA mo re rn t))), (4, .long (lN (shB mo re rn t))), (6, .int (nI (t + 1))), (7, .int (nI (cntE mo re (t + 1) (r + 1)))), (8, .int (nI (cntR mo (t + 1) (r + 1)))), (9, .int (nI (r + 1)))]) ?_ ?_
            · rw [show (cntE mo re (t + 1) r + 1) = cntE mo re (t + 1) (r + 1) from by (simp only [cntE, cntR]; simp [c_69, c_83, c_93, c_115]; try omega), show (cntR mo (t + 1) r + 0) = cntR mo (t + 1) (r + 1) from by (simp only [cntE, cntR]; simp [c_69, c_83, c_93, c_115]; try omega)]
            exact ih (r + 1) (by omega) (by omega) (by omega)
          · skip
            refine j_iconst (pc := 118) X (v := nI 1) dX10_lasts_118 (by decide) ?_
            refine j_goto (pc := 119) X (tgt := 123) dX10_lasts_119 (by decide) ?_
            refine j_iadd (pc := 123) X dX10_lasts_123 ?_
            refine j_topi (z := nI (cntR mo (t + 1) r + 1)) (nI_add _ _) ?_
            refine j_istore (pc := 124) X (lv' := [(8, .int (nI (cntR mo (t + 1) r + 1))), (7, .int (nI (cntE mo re (t + 1) r + 1))), (0, .ref z), (1, .int (nI j)), (2, .long (lN (shA mo re rn t))), (4, .long (lN (shB mo re rn t))), (6, .int (nI (t + 1))), (9, .int (nI r))]) dX10_lasts_124 (by decide) rfl ?_
            refine j_iinc (pc := 126) X (v := nI (r + 1)) (lv' := [(9, .int (nI (r + 1))), (8, .int (nI (cntR mo (t + 1) r + 1))), (7, .int (nI (cntE mo re (t + 1) r + 1))), (0, .ref z), (1, .int (nI j)), (2, .long (lN (shA mo re rn t))), (4, .long (lN (shB mo re rn t))), (6, .int (nI (t + 1)))]) dX10_lasts_126 7 rfl (nI_1 _) (by decide) rfl ?_
            refine j_goto (pc := 129) X (tgt := 63) dX10_lasts_129 (by decide) ?_
            refine j_lv [3, 4, 5, 6, 7, 2, 1, 0] (lv' := [(0, .ref z), (1, .int (nI j)), (2, .long (lN (shA mo re rn t))), (4, .long (lN (shB mo re rn t))), (6, .int (nI (t + 1))), (7, .int (nI (cntE mo re (t + 1) r + 1))), (8, .int (nI (cntR mo (t + 1) r + 1))), (9, .int (nI (r + 1)))]) rfl ?_
            refine j_lvq (lv' := [(0, .ref z), (1, .int (nI j)), (2, .long (lN (shA mo re rn t))), (4, .long (lN (shB mo re rn t))), (6, .int (nI (t + 1))), (7, .int (nI (cntE mo re (t + 1) (r + 1)))), (8, .int (nI (cntR mo (t + 1) (r + 1)))), (9, .int (nI (r + 1)))]) ?_ ?_
            · rw [show (cntE mo re (t + 1) r + 1) = cntE mo re (t + 1) (r + 1) from by (simp only [cntE, cntR]; simp [c_69, c_83, c_93, c_115]; try omega), show (cntR mo (t + 1) r + 1) = cntR mo (t + 1) (r + 1) from by (simp only [cntE, cntR]; simp [c_69, c_83, c_93, c_115]; try omega)]
            exact ih (r + 1) (by omega) (by omega) (by omega)
set_option maxHeartbeats 4000000 in
set_option maxRecDepth 100000 in
theorem mX10_lasts_L48 (l : Launch) (G : jG) (z : Nat) (z4 : Nat) (z5 : Nat) (z6 : Nat) (z9 : Nat) (z10 : Nat) (z11 : Nat) (z12 : Nat) (z14 : Nat) (z15 : Nat) (z16 : Nat) (z19 : Nat) (z20 : Nat) (z21 : Nat) (z22 : Nat) (z23 : Nat) (z25 : Nat) (z26 : Nat) (z27 : Nat) (z28 : Nat) (z30 : Nat) (z31 : Nat) (z32 : Nat) (st : Nat) (th : Nat) (za : Int64) (zb : Int64) (el : Nat) (be : Nat) (gz : Bool) (mm : Nat) (tt : Nat) (gm : Nat) (rn : Nat) (mo : Nat → Nat) (re : Nat → Bool) (m : Int32) (hrn : rn ≤ 16) (hmo : ∀ k, mo k ≤ 60) (κ : jK) (X : CX κ l yX10_lasts cX10_lasts 10 RX10 wsX10_lasts (some .boolean) ({ frames := 3, cells := 0, slots := 0, locals := 76 }) G (va_A [(z, .inr (10, [.int (nI st), .int (nI th), .long za, .long zb, .ref z4, .ref z5, .ref z6, .int (nI el), .int (nI be), .ref z9, .ref z10, .ref z11, .ref z12, .int (b2i gz), .ref z14, .ref z15, .ref z16, .int (nI mm), .int (nI tt), .ref z19, .ref z20, .ref z21, .ref z22, .ref z23, .int (nI gm), .ref z25, .ref z26, .ref z27, .ref z28, .int (nI rn), .ref z30, .ref z31, .ref z32])), kI G z30 16 (nF mo), kZ G z31 16 (bF re)] (js κ).heap.size))    : ∀ (fu : Nat) (j : Nat) (t : Nat) (hmj : m = nI j) (hj : j ≤ 60) (ht : t ≤ j) (hrn0 : ¬ rn = 0) (_ : j - t < fu), JJ κ 10 G (va_A [(z, .inr (10, [.int (nI st), .int (nI th), .long za, .long zb, .ref z4, .ref z5, .ref z6, .int (nI el), .int (nI be), .ref z9, .ref z10, .ref z11, .ref z12, .int (b2i gz), .ref z14, .ref z15, .ref z16, .int (nI mm), .int (nI tt), .ref z19, .ref z20, .ref z21, .ref z22, .ref z23, .int (nI gm), .ref z25, .ref z26, .ref z27, .ref z28, .int (nI rn), .ref z30, .ref z31, .ref z32])), kI G z30 16 (nF mo), kZ G z31 16 (bF re)] (js κ).heap.size) 0 0 (jQ κ G [(z, .inr (10, [.int (nI st), .int (nI th), .long za, .long zb, .ref z4, .ref z5, .ref z6, .int (nI el), .int (nI be), .ref z9, .ref z10, .ref z11, .ref z12, .int (b2i gz), .ref z14, .ref z15, .ref z16, .int (nI mm), .int (nI tt), .ref z19, .ref z20, .ref z21, .ref z22, .ref z23, .int (nI gm), .ref z25, .ref z26, .ref z27, .ref z28, .int (nI rn), .ref z30, .ref z31, .ref z32])), kI G z30 16 (nF mo), kZ G z31 16 (bF re)] (fun r w' => r = some (.int (b2i ((sLasts rn mo re za zb m).1))) ∧ w' = [(z, .inr (10, [.int (nI ((sLasts rn mo re za zb m).2.1)), .int (nI 0), .long ((sLasts rn mo re za zb m).2.2.1), .long ((sLasts rn mo re za zb m).2.2.2), .ref z4, .ref z5, .ref z6, .int (nI el), .int (nI be), .ref z9, .ref z10, .ref z11, .ref z12, .int (b2i gz), .ref z14, .ref z15, .ref z16, .int (nI mm), .int (nI tt), .ref z19, .ref z20, .ref z21, .ref z22, .ref z23, .int (nI gm), .ref z25, .ref z26, .ref z27, .ref z28, .int (nI rn), .ref z30, .ref z31, .ref z32])), kI G z30 16 (nF mo), kZ G z31 16 (bF re)]) 0 0) 48 [(0, .ref z), (1, .int (nI j)), (2, .long (lN (shA mo re rn t))), (4, .long (lN (shB mo re rn t))), (6, .int (nI (t + 1)))] [] [(z, .inr (10, [.int (nI 0), .int (nI 0), .long za, .long zb, .ref z4, .ref z5, .ref z6, .int (nI el), .int (nI be), .ref z9, .ref z10, .ref z11, .ref z12, .int (b2i gz), .ref z14, .ref z15, .ref z16, .int (nI mm), .int (nI tt), .ref z19, .ref z20, .ref z21, .ref z22, .ref z23, .int (nI gm), .ref z25, .ref z26, .ref z27, .ref z28, .int (nI rn), .ref z30, .ref z31, .ref z32])), kI G z30 16 (nF mo), kZ G z31 16 (bF re)] := by
  have i_X10 : ∀ w ∈ wsX100, w ∈ wsX10_lasts := by decide +kernel
  intro fu
  induction fu with
  | zero => intro j t hmj hj ht hrn0 hms; exact absurd hms (Nat.not_lt_zero _)
  | succ fu ih =>
    intro j t hmj hj ht hrn0 hms
    subst hmj
    refine j_iload (pc := 48) X dX10_lasts_48 4 rfl ?_
    refine j_iload_n (pc := 50) X dX10_lasts_50 rfl 1 rfl ?_
    refine j_icmpN_gt (pc := 51) X (a := (t + 1)) (b := j) (by omega) (by omega) (tgt := 163) dX10_lasts_51 (by decide) (fun c_51 => ?_) (fun c_51 => ?_)
    · skip
      obtain rfl : j = t := by omega
      refine j_aload_n (pc := 163) X dX10_lasts_163 rfl 0 rfl ?_
      refine j_lload_n (pc := 164) X dX10_lasts_164 rfl 2 rfl ?_
      refine j_lload (pc := 165) X dX10_lasts_165 3 rfl ?_
      refine j_ci (pc := 167) X (ws' := [(z, .inr (10, [.int (nI 0), .int (nI 0), .long ((lN (shA mo re rn j)) / lN (gdl (lN (shA mo re rn j)) (shB mo re rn j))), .long (lN (shB mo re rn j) / lN (gdl (lN (shA mo re rn j)) (shB mo re rn j))), .ref z4, .ref z5, .ref z6, .int (nI el), .int (nI be), .ref z9, .ref z10, .ref z11, .ref z12, .int (b2i gz), .ref z14, .ref z15, .ref z16, .int (nI mm), .int (nI tt), .ref z19, .ref z20, .ref z21, .ref z22, .ref z23, .int (nI gm), .ref z25, .ref z26, .ref z27, .ref z28, .int (nI rn), .ref z30, .ref z31, .ref z32])), kI G z30 16 (nF mo), kZ G z31 16 (bF re)]) [0] rfl (j_rV X (b := z) (As := [.long (lN (shA mo re rn j)), .long (lN (shB mo re rn j))]) (ci := 10) (rest := []) 2 (mX10_tells l G z z4 z5 z6 z9 z10 z11 z12 z14 z15 z16 z19 z20 z21 z22 z23 z25 z26 z27 z28 z30 z31 z32 0 0 za zb el be gz mm tt gm rn (lN (shA mo re rn j)) (shB mo re rn j) (by rw [pk_lT (by have h9 := (sh_ok (mo := mo) (re := re) hrn j).1; omega)]; have h9 := (sh_ok (mo := mo) (re := re) hrn j).1; omega) (by exact (sh_ok hrn j).2.1) (by exact (sh_ok hrn j).2.2)) gX10_lasts_X10_tells rfl rfl rfl (by decide +kernel) ⟨Nat.le_of_ble_eq_true rfl, Nat.le_of_ble_eq_true rfl⟩ rfl rfl 0 rfl [0] rfl rfl rfl (Nat.le_of_ble_eq_true rfl) dX10_lasts_167 ⟨Nat.le_of_ble_eq_true rfl, Nat.le_of_ble_eq_true rfl⟩) rfl rfl ?_
      have hs : sLasts rn mo re za zb (nI j) = (true, 0, (lN (shA mo re rn j)) / lN (gdl (lN (shA mo re rn j)) (shB mo re rn j)), lN (shB mo re rn j) / lN (gdl (lN (shA mo re rn j)) (shB mo re rn j))) := by have hcj := nI_clamp (n := j) (by omega); have hin : inC (nI j) 60 = true := (by simp [inC, nI_pos (show j < 2 ^ 31 by omega), nI_le hj (by decide)]); simp [sLasts, tN, hcj, hin, hrn0]
      refine j_zret (pc := 170) X (b2i_nar _) dX10_lasts_170 ?_
      rw [hs]; exact ⟨rfl, rfl⟩
    · skip
      refine j_iconst (pc := 54) X (v := nI 0) dX10_lasts_54 (by decide) ?_
      refine j_istore (pc := 55) X (lv' := [(7, .int (nI 0)), (0, .ref z), (1, .int (nI j)), (2, .long (lN (shA mo re rn t))), (4, .long (lN (shB mo re rn t))), (6, .int (nI (t + 1)))]) dX10_lasts_55 (by decide) rfl ?_
      refine j_iconst (pc := 57) X (v := nI 0) dX10_lasts_57 (by decide) ?_
      refine j_istore (pc := 58) X (lv' := [(8, .int (nI 0)), (7, .int (nI 0)), (0, .ref z), (1, .int (nI j)), (2, .long (lN (shA mo re rn t))), (4, .long (lN (shB mo re rn t))), (6, .int (nI (t + 1)))]) dX10_lasts_58 (by decide) rfl ?_
      refine j_iconst (pc := 60) X (v := nI 0) dX10_lasts_60 (by decide) ?_
      refine j_istore (pc := 61) X (lv' := [(9, .int (nI 0)), (8, .int (nI 0)), (7, .int (nI 0)), (0, .ref z), (1, .int (nI j)), (2, .long (lN (shA mo re rn t))), (4, .long (lN (shB mo re rn t))), (6, .int (nI (t + 1)))]) dX10_lasts_61 (by decide) rfl ?_
      refine j_lv [3, 4, 5, 6, 7, 2, 1, 0] (lv' := [(0, .ref z), (1, .int (nI j)), (2, .long (lN (shA mo re rn t))), (4, .long (lN (shB mo re rn t))), (6, .int (nI (t + 1))), (7, .int (nI 0)), (8, .int (nI 0)), (9, .int (nI 0))]) rfl ?_
      refine j_lvq (lv' := [(0, .ref z), (1, .int (nI j)), (2, .long (lN (shA mo re rn t))), (4, .long (lN (shB mo re rn t))), (6, .int (nI (t + 1))), (7, .int (nI (cntE mo re (t + 1) 0))), (8, .int (nI (cntR mo (t + 1) 0))), (9, .int (nI 0))]) ?_ ?_
      · first | rfl | (rw [show (0) = cntE mo re (t + 1) 0 from by (simp only [cntE, cntR]; simp [c_51]; try omega), show (0) = cntR mo (t + 1) 0 from by (simp only [cntE, cntR]; simp [c_51]; try omega)])
      exact mX10_lasts_L63 l G z z4 z5 z6 z9 z10 z11 z12 z14 z15 z16 z19 z20 z21 z22 z23 z25 z26 z27 z28 z30 z31 z32 st th za zb el be gz mm tt gm rn mo re (nI j) hrn hmo κ X fu ih j t rfl hj ht hrn0 hms (rn - 0 + 1) 0 (by omega) (by omega) (Nat.lt_succ_self _)
set_option maxHeartbeats 4000000 in
set_option maxRecDepth 100000 in
theorem mX10_lasts (l : Launch) (G : jG) (z : Nat) (z4 : Nat) (z5 : Nat) (z6 : Nat) (z9 : Nat) (z10 : Nat) (z11 : Nat) (z12 : Nat) (z14 : Nat) (z15 : Nat) (z16 : Nat) (z19 : Nat) (z20 : Nat) (z21 : Nat) (z22 : Nat) (z23 : Nat) (z25 : Nat) (z26 : Nat) (z27 : Nat) (z28 : Nat) (z30 : Nat) (z31 : Nat) (z32 : Nat) (st : Nat) (th : Nat) (za : Int64) (zb : Int64) (el : Nat) (be : Nat) (gz : Bool) (mm : Nat) (tt : Nat) (gm : Nat) (rn : Nat) (mo : Nat → Nat) (re : Nat → Bool) (m : Int32) (hrn : rn ≤ 16) (hmo : ∀ k, mo k ≤ 60) : MV l yX10_lasts wsX10_lasts ({ frames := 3, cells := 0, slots := 0, locals := 76 }) G [.ref z, .int m] [(z, .inr (10, [.int (nI st), .int (nI th), .long za, .long zb, .ref z4, .ref z5, .ref z6, .int (nI el), .int (nI be), .ref z9, .ref z10, .ref z11, .ref z12, .int (b2i gz), .ref z14, .ref z15, .ref z16, .int (nI mm), .int (nI tt), .ref z19, .ref z20, .ref z21, .ref z22, .ref z23, .int (nI gm), .ref z25, .ref z26, .ref z27, .ref z28, .int (nI rn), .ref z30, .ref z31, .ref z32])), kI G z30 16 (nF mo), kZ G z31 16 (bF re)] (some (.int (b2i ((sLasts rn mo re za zb m).1)))) [(z, .inr (10, [.int (nI ((sLasts rn mo re za zb m).2.1)), .int (nI 0), .long ((sLasts rn mo re za zb m).2.2.1), .long ((sLasts rn mo re za zb m).2.2.2), .ref z4, .ref z5, .ref z6, .int (nI el), .int (nI be), .ref z9, .ref z10, .ref z11, .ref z12, .int (b2i gz), .ref z14, .ref z15, .ref z16, .int (nI mm), .int (nI tt), .ref z19, .ref z20, .ref z21, .ref z22, .ref z23, .int (nI gm), .ref z25, .ref z26, .ref z27, .ref z28, .int (nI rn), .ref z30, .ref z31, .ref z32])), kI G z30 16 (nF mo), kZ G z31 16 (bF re)] := by
  refine MF.ofJ (cc := cX10_lasts) (maxL := 10) (ret := (some .boolean)) (own := RX10) (lv := [(0, .ref z), (1, .int m)]) (by decide) rfl rfl (Nat.le_of_ble_eq_true rfl) rfl ?_
  intro κ X
  have i_X10 : ∀ w ∈ wsX100, w ∈ wsX10_lasts := by decide +kernel
  refine j_aload_n (pc := 0) X dX10_lasts_0 rfl 0 rfl ?_
  refine j_iconst (pc := 1) X (v := nI 0) dX10_lasts_1 (by decide) ?_
  refine j_put (pc := 2) X (v := .int (nI 0)) (ws' := [(z, .inr (10, [.int (nI st), .int (nI 0), .long za, .long zb, .ref z4, .ref z5, .ref z6, .int (nI el), .int (nI be), .ref z9, .ref z10, .ref z11, .ref z12, .int (b2i gz), .ref z14, .ref z15, .ref z16, .int (nI mm), .int (nI tt), .ref z19, .ref z20, .ref z21, .ref z22, .ref z23, .int (nI gm), .ref z25, .ref z26, .ref z27, .ref z28, .int (nI rn), .ref z30, .ref z31, .ref z32])), kI G z30 16 (nF mo), kZ G z31 16 (bF re)]) 10 i_X10 tyX10 tyX10_ok nmX10 0 rfl rfl 1 (by decide) (by decide +kernel) (by decide) (rfl) (rfl) (Nat.le_of_ble_eq_true rfl) dX10_lasts_2 rfl ?_
  refine j_aload_n (pc := 5) X dX10_lasts_5 rfl 0 rfl ?_
  refine j_iconst (pc := 6) X (v := nI 0) dX10_lasts_6 (by decide) ?_
  refine j_put (pc := 7) X (v := .int (nI 0)) (ws' := [(z, .inr (10, [.int (nI 0), .int (nI 0), .long za, .long zb, .ref z4, .ref z5, .ref z6, .int (nI el), .int (nI be), .ref z9, .ref z10, .ref z11, .ref z12, .int (b2i gz), .ref z14, .ref z15, .ref z16, .int (nI mm), .int (nI tt), .ref z19, .ref z20, .ref z21, .ref z22, .ref z23, .int (nI gm), .ref z25, .ref z26, .ref z27, .ref z28, .int (nI rn), .ref z30, .ref z31, .ref z32])), kI G z30 16 (nF mo), kZ G z31 16 (bF re)]) 10 i_X10 tyX10 tyX10_ok nmX10 0 rfl rfl 0 (by decide) (by decide +kernel) (by decide) (rfl) (rfl) (Nat.le_of_ble_eq_true rfl) dX10_lasts_7 rfl ?_
  refine j_iload_n (pc := 10) X dX10_lasts_10 rfl 1 rfl ?_
  refine j_if_lt (pc := 11) X (x := m) (tgt := 20) dX10_lasts_11 (by decide) (fun c_11 => ?_) (fun c_11 => ?_)
  · skip
    refine j_aload_n (pc := 20) X dX10_lasts_20 rfl 0 rfl ?_
    refine j_iconst (pc := 21) X (v := nI 5) dX10_lasts_21 (by decide) ?_
    refine j_ci (pc := 22) X (ws' := [(z, .inr (10, [.int (nI 5), .int (nI 0), .long za, .long zb, .ref z4, .ref z5, .ref z6, .int (nI el), .int (nI be), .ref z9, .ref z10, .ref z11, .ref z12, .int (b2i gz), .ref z14, .ref z15, .ref z16, .int (nI mm), .int (nI tt), .ref z19, .ref z20, .ref z21, .ref z22, .ref z23, .int (nI gm), .ref z25, .ref z26, .ref z27, .ref z28, .int (nI rn), .ref z30, .ref z31, .ref z32])), kI G z30 16 (nF mo), kZ G z31 16 (bF re)]) [0] rfl (j_rV X (b := z) (As := [.int (nI 5)]) (ci := 10) (rest := []) 1 (mX10_no l G z z4 z5 z6 z9 z10 z11 z12 z14 z15 z16 z19 z20 z21 z22 z23 z25 z26 z27 z28 z30 z31 z32 0 0 za zb el be gz mm tt gm rn 5 ) gX10_lasts_X10_no rfl rfl rfl (by decide +kernel) ⟨Nat.le_of_ble_eq_true rfl, Nat.le_of_ble_eq_true rfl⟩ rfl rfl 0 rfl [0] rfl rfl rfl (Nat.le_of_ble_eq_true rfl) dX10_lasts_22 ⟨Nat.le_of_ble_eq_true rfl, Nat.le_of_ble_eq_true rfl⟩) rfl rfl ?_
    have hs : sLasts rn mo re za zb m = (false, 5, za, zb) := by simp [sLasts, inC, c_11]
    refine j_zret (pc := 25) X (b2i_nar _) dX10_lasts_25 ?_
    rw [hs]; exact ⟨rfl, rfl⟩
  · skip
    refine j_iload_n (pc := 14) X dX10_lasts_14 rfl 1 rfl ?_
    refine j_bipush (pc := 15) X (v := nI 60) dX10_lasts_15 (by decide) ?_
    refine j_icmp_le (pc := 17) X (x := m) (z := nI 60) (tgt := 26) dX10_lasts_17 (by decide) (fun c_17 => ?_) (fun c_17 => ?_)
    · skip
      obtain ⟨j, hj, rfl⟩ := rng_of c_11 c_17 (by decide); have hq_j := nI_clamp (n := j) (by omega)
      refine j_aload_n (pc := 26) X dX10_lasts_26 rfl 0 rfl ?_
      refine j_get (pc := 27) X 10 i_X10 0 rfl rfl 29 (by decide) (by decide +kernel) rfl dX10_lasts_27 ?_
      refine j_ifN_ne (pc := 30) X (a := rn) (by omega) (tgt := 40) dX10_lasts_30 (by decide) (fun c_30 => ?_) (fun c_30 => ?_)
      · skip
        refine j_lconst (pc := 40) X (v := 1) dX10_lasts_40 (by decide) ?_
        refine j_lstore_n (pc := 41) X (lv' := [(2, .long 1), (0, .ref z), (1, .int (nI j))]) dX10_lasts_41 rfl (by decide) rfl ?_
        refine j_lconst (pc := 42) X (v := 1) dX10_lasts_42 (by decide) ?_
        refine j_lstore (pc := 43) X (lv' := [(4, .long 1), (2, .long 1), (0, .ref z), (1, .int (nI j))]) dX10_lasts_43 (by decide) rfl ?_
        refine j_iconst (pc := 45) X (v := nI 1) dX10_lasts_45 (by decide) ?_
        refine j_istore (pc := 46) X (lv' := [(6, .int (nI 1)), (4, .long 1), (2, .long 1), (0, .ref z), (1, .int (nI j))]) dX10_lasts_46 (by decide) rfl ?_
        refine j_lv [3, 4, 2, 1, 0] (lv' := [(0, .ref z), (1, .int (nI j)), (2, .long 1), (4, .long 1), (6, .int (nI 1))]) rfl ?_
        refine j_lvq (lv' := [(0, .ref z), (1, .int (nI j)), (2, .long (lN (shA mo re rn 0))), (4, .long (lN (shB mo re rn 0))), (6, .int (nI (0 + 1)))]) ?_ ?_
        · first | rfl | (rw [show (1) = lN (shA mo re rn 0) from by (simp only [shA, shB]; split <;> first | rfl | omega), show (1) = lN (shB mo re rn 0) from by (simp only [shA, shB]; split <;> first | rfl | omega), show (1) = 0 + 1 from by (simp only [shA, shB]; split <;> first | rfl | omega)])
        exact mX10_lasts_L48 l G z z4 z5 z6 z9 z10 z11 z12 z14 z15 z16 z19 z20 z21 z22 z23 z25 z26 z27 z28 z30 z31 z32 st th za zb el be gz mm tt gm rn mo re (nI j) hrn hmo κ X    (j - 0 + 1) j 0 (rfl) (by omega) (by omega) (by first | exact hrn0 | exact c_30) (Nat.lt_succ_self _)
      · skip
        refine j_aload_n (pc := 33) X dX10_lasts_33 rfl 0 rfl ?_
        refine j_bipush (pc := 34) X (v := nI 9) dX10_lasts_34 (by decide) ?_
        refine j_ci (pc := 36) X (ws' := [(z, .inr (10, [.int (nI 9), .int (nI 0), .long za, .long zb, .ref z4, .ref z5, .ref z6, .int (nI el), .int (nI be), .ref z9, .ref z10, .ref z11, .ref z12, .int (b2i gz), .ref z14, .ref z15, .ref z16, .int (nI mm), .int (nI tt), .ref z19, .ref z20, .ref z21, .ref z22, .ref z23, .int (nI gm), .ref z25, .ref z26, .ref z27, .ref z28, .int (nI rn), .ref z30, .ref z31, .ref z32])), kI G z30 16 (nF mo), kZ G z31 16 (bF re)]) [0] rfl (j_rV X (b := z) (As := [.int (nI 9)]) (ci := 10) (rest := []) 1 (mX10_no l G z z4 z5 z6 z9 z10 z11 z12 z14 z15 z16 z19 z20 z21 z22 z23 z25 z26 z27 z28 z30 z31 z32 0 0 za zb el be gz mm tt gm rn 9 ) gX10_lasts_X10_no rfl rfl rfl (by decide +kernel) ⟨Nat.le_of_ble_eq_true rfl, Nat.le_of_ble_eq_true rfl⟩ rfl rfl 0 rfl [0] rfl rfl rfl (Nat.le_of_ble_eq_true rfl) dX10_lasts_36 ⟨Nat.le_of_ble_eq_true rfl, Nat.le_of_ble_eq_true rfl⟩) rfl rfl ?_
        have hs : sLasts rn mo re za zb (nI j) = (false, 9, za, zb) := by simp [sLasts, inC, c_11, c_17, c_30]
        refine j_zret (pc := 39) X (b2i_nar _) dX10_lasts_39 ?_
        rw [hs]; exact ⟨rfl, rfl⟩
    · skip
      refine j_aload_n (pc := 20) X dX10_lasts_20 rfl 0 rfl ?_
      refine j_iconst (pc := 21) X (v := nI 5) dX10_lasts_21 (by decide) ?_
      refine j_ci (pc := 22) X (ws' := [(z, .inr (10, [.int (nI 5), .int (nI 0), .long za, .long zb, .ref z4, .ref z5, .ref z6, .int (nI el), .int (nI be), .ref z9, .ref z10, .ref z11, .ref z12, .int (b2i gz), .ref z14, .ref z15, .ref z16, .int (nI mm), .int (nI tt), .ref z19, .ref z20, .ref z21, .ref z22, .ref z23, .int (nI gm), .ref z25, .ref z26, .ref z27, .ref z28, .int (nI rn), .ref z30, .ref z31, .ref z32])), kI G z30 16 (nF mo), kZ G z31 16 (bF re)]) [0] rfl (j_rV X (b := z) (As := [.int (nI 5)]) (ci := 10) (rest := []) 1 (mX10_no l G z z4 z5 z6 z9 z10 z11 z12 z14 z15 z16 z19 z20 z21 z22 z23 z25 z26 z27 z28 z30 z31 z32 0 0 za zb el be gz mm tt gm rn 5 ) gX10_lasts_X10_no rfl rfl rfl (by decide +kernel) ⟨Nat.le_of_ble_eq_true rfl, Nat.le_of_ble_eq_true rfl⟩ rfl rfl 0 rfl [0] rfl rfl rfl (Nat.le_of_ble_eq_true rfl) dX10_lasts_22 ⟨Nat.le_of_ble_eq_true rfl, Nat.le_of_ble_eq_true rfl⟩) rfl rfl ?_
      have hs : sLasts rn mo re za zb m = (false, 5, za, zb) := by simp [sLasts, inC, c_11, c_17]
      refine j_zret (pc := 25) X (b2i_nar _) dX10_lasts_25 ?_
      rw [hs]; exact ⟨rfl, rfl⟩

set_option maxHeartbeats 4000000 in
set_option maxRecDepth 100000 in
theorem mX10_elder (l : Launch) (G : jG) (z : Nat) (z4 : Nat) (z5 : Nat) (z6 : Nat) (z9 : Nat) (z10 : Nat) (z11 : Nat) (z12 : Nat) (z14 : Nat) (z15 : Nat) (z16 : Nat) (z19 : Nat) (z20 : Nat) (z21 : Nat) (z22 : Nat) (z23 : Nat) (z25 : Nat) (z26 : Nat) (z27 : Nat) (z28 : Nat) (z30 : Nat) (z31 : Nat) (z32 : Nat) (st : Nat) (th : Nat) (za : Int64) (zb : Int64) (el : Nat) (be : Nat) (gz : Bool) (mm : Nat) (tt : Nat) (gm : Nat) (rn : Nat) (pl : Nat → Nat) (x : Int32) (hel : el ≤ 12) : MV l yX10_elder wsX10_elder ({ frames := 1, cells := 0, slots := 0, locals := 21 }) G [.ref z, .int x] [(z, .inr (10, [.int (nI st), .int (nI th), .long za, .long zb, .ref z4, .ref z5, .ref z6, .int (nI el), .int (nI be), .ref z9, .ref z10, .ref z11, .ref z12, .int (b2i gz), .ref z14, .ref z15, .ref z16, .int (nI mm), .int (nI tt), .ref z19, .ref z20, .ref z21, .ref z22, .ref z23, .int (nI gm), .ref z25, .ref z26, .ref z27, .ref z28, .int (nI rn), .ref z30, .ref z31, .ref z32])), kI G z9 12 (nF pl)] (some (.int (oI ((sElder el pl x).1)))) [(z, .inr (10, [.int (nI ((sElder el pl x).2.1)), .int (nI 0), .long za, .long zb, .ref z4, .ref z5, .ref z6, .int (nI ((sElder el pl x).2.2.1)), .int (nI be), .ref z9, .ref z10, .ref z11, .ref z12, .int (b2i gz), .ref z14, .ref z15, .ref z16, .int (nI mm), .int (nI tt), .ref z19, .ref z20, .ref z21, .ref z22, .ref z23, .int (nI gm), .ref z25, .ref z26, .ref z27, .ref z28, .int (nI rn), .ref z30, .ref z31, .ref z32])), kI G z9 12 (nF ((sElder el pl x).2.2.2))] := by
  refine MF.ofJ (cc := cX10_elder) (maxL := 2) (ret := (some .int)) (own := RX10) (lv := [(0, .ref z), (1, .int x)]) (by decide) rfl rfl (Nat.le_of_ble_eq_true rfl) rfl ?_
  intro κ X
  have i_X10 : ∀ w ∈ wsX100, w ∈ wsX10_elder := by decide +kernel
  refine j_aload_n (pc := 0) X dX10_elder_0 rfl 0 rfl ?_
  refine j_iconst (pc := 1) X (v := nI 0) dX10_elder_1 (by decide) ?_
  refine j_put (pc := 2) X (v := .int (nI 0)) (ws' := [(z, .inr (10, [.int (nI st), .int (nI 0), .long za, .long zb, .ref z4, .ref z5, .ref z6, .int (nI el), .int (nI be), .ref z9, .ref z10, .ref z11, .ref z12, .int (b2i gz), .ref z14, .ref z15, .ref z16, .int (nI mm), .int (nI tt), .ref z19, .ref z20, .ref z21, .ref z22, .ref z23, .int (nI gm), .ref z25, .ref z26, .ref z27, .ref z28, .int (nI rn), .ref z30, .ref z31, .ref z32])), kI G z9 12 (nF pl)]) 10 i_X10 tyX10 tyX10_ok nmX10 0 rfl rfl 1 (by decide) (by decide +kernel) (by decide) (rfl) (rfl) (Nat.le_of_ble_eq_true rfl) dX10_elder_2 rfl ?_
  refine j_aload_n (pc := 5) X dX10_elder_5 rfl 0 rfl ?_
  refine j_iconst (pc := 6) X (v := nI 0) dX10_elder_6 (by decide) ?_
  refine j_put (pc := 7) X (v := .int (nI 0)) (ws' := [(z, .inr (10, [.int (nI 0), .int (nI 0), .long za, .long zb, .ref z4, .ref z5, .ref z6, .int (nI el), .int (nI be), .ref z9, .ref z10, .ref z11, .ref z12, .int (b2i gz), .ref z14, .ref z15, .ref z16, .int (nI mm), .int (nI tt), .ref z19, .ref z20, .ref z21, .ref z22, .ref z23, .int (nI gm), .ref z25, .ref z26, .ref z27, .ref z28, .int (nI rn), .ref z30, .ref z31, .ref z32])), kI G z9 12 (nF pl)]) 10 i_X10 tyX10 tyX10_ok nmX10 0 rfl rfl 0 (by decide) (by decide +kernel) (by decide) (rfl) (rfl) (Nat.le_of_ble_eq_true rfl) dX10_elder_7 rfl ?_
  refine j_iload_n (pc := 10) X dX10_elder_10 rfl 1 rfl ?_
  refine j_if_lt (pc := 11) X (x := x) (tgt := 19) dX10_elder_11 (by decide) (fun c_11 => ?_) (fun c_11 => ?_)
  · skip
    refine j_aload_n (pc := 19) X dX10_elder_19 rfl 0 rfl ?_
    refine j_iconst (pc := 20) X (v := nI 5) dX10_elder_20 (by decide) ?_
    refine j_ci (pc := 21) X (ws' := [(z, .inr (10, [.int (nI 5), .int (nI 0), .long za, .long zb, .ref z4, .ref z5, .ref z6, .int (nI el), .int (nI be), .ref z9, .ref z10, .ref z11, .ref z12, .int (b2i gz), .ref z14, .ref z15, .ref z16, .int (nI mm), .int (nI tt), .ref z19, .ref z20, .ref z21, .ref z22, .ref z23, .int (nI gm), .ref z25, .ref z26, .ref z27, .ref z28, .int (nI rn), .ref z30, .ref z31, .ref z32])), kI G z9 12 (nF pl)]) [0] rfl (j_rV X (b := z) (As := [.int (nI 5)]) (ci := 10) (rest := []) 1 (mX10_refuse l G z z4 z5 z6 z9 z10 z11 z12 z14 z15 z16 z19 z20 z21 z22 z23 z25 z26 z27 z28 z30 z31 z32 0 0 za zb el be gz mm tt gm rn 5 ) gX10_elder_X10_refuse rfl rfl rfl (by decide +kernel) ⟨Nat.le_of_ble_eq_true rfl, Nat.le_of_ble_eq_true rfl⟩ rfl rfl 0 rfl [0] rfl rfl rfl (Nat.le_of_ble_eq_true rfl) dX10_elder_21 ⟨Nat.le_of_ble_eq_true rfl, Nat.le_of_ble_eq_true rfl⟩) rfl rfl ?_
    have hs : sElder el pl x = (none, 5, el, pl) := by first | (simp [sElder, inC, tN, c_11]; done) | (simp [sElder, inC, c_11]; done)
    refine j_iret (pc := 24) X dX10_elder_24 ?_
    rw [hs]; exact ⟨rfl, rfl⟩
  · skip
    refine j_iload_n (pc := 14) X dX10_elder_14 rfl 1 rfl ?_
    refine j_iconst (pc := 15) X (v := nI 4) dX10_elder_15 (by decide) ?_
    refine j_icmp_le (pc := 16) X (x := x) (z := nI 4) (tgt := 25) dX10_elder_16 (by decide) (fun c_16 => ?_) (fun c_16 => ?_)
    · skip
      obtain ⟨j, hj, rfl⟩ := rng_of c_11 c_16 (by decide); have hq_j := nI_clamp (n := j) (by omega)
      refine j_aload_n (pc := 25) X dX10_elder_25 rfl 0 rfl ?_
      refine j_get (pc := 26) X 10 i_X10 0 rfl rfl 7 (by decide) (by decide +kernel) rfl dX10_elder_26 ?_
      refine j_bipush (pc := 29) X (v := nI 12) dX10_elder_29 (by decide) ?_
      refine j_icmpN_ne (pc := 31) X (a := el) (b := 12) (by omega) (by omega) (tgt := 41) dX10_elder_31 (by decide) (fun c_31 => ?_) (fun c_31 => ?_)
      · skip
        have hq_l : el < 12 := by omega
        refine j_aload_n (pc := 41) X dX10_elder_41 rfl 0 rfl ?_
        refine j_get (pc := 42) X 10 i_X10 0 rfl rfl 9 (by decide) (by decide +kernel) rfl dX10_elder_42 ?_
        refine j_aload_n (pc := 45) X dX10_elder_45 rfl 0 rfl ?_
        refine j_get (pc := 46) X 10 i_X10 0 rfl rfl 7 (by decide) (by decide +kernel) rfl dX10_elder_46 ?_
        refine j_iload_n (pc := 49) X dX10_elder_49 rfl 1 rfl ?_
        refine j_iast (pc := 50) X (f2 := (nF (va_up pl el j))) (ws' := [(z, .inr (10, [.int (nI 0), .int (nI 0), .long za, .long zb, .ref z4, .ref z5, .ref z6, .int (nI el), .int (nI be), .ref z9, .ref z10, .ref z11, .ref z12, .int (b2i gz), .ref z14, .ref z15, .ref z16, .int (nI mm), .int (nI tt), .ref z19, .ref z20, .ref z21, .ref z22, .ref z23, .int (nI gm), .ref z25, .ref z26, .ref z27, .ref z28, .int (nI rn), .ref z30, .ref z31, .ref z32])), kI G z9 12 (nF (va_up pl el j))]) 1 rfl (vp_in_nI (by omega) (by decide)) dX10_elder_50 (by rw [nI_clamp (by omega)]; exact nF_up pl el j) rfl ?_
        refine j_aload_n (pc := 51) X dX10_elder_51 rfl 0 rfl ?_
        refine j_dup (pc := 52) X dX10_elder_52 rfl ?_
        refine j_get (pc := 53) X 10 i_X10 0 rfl rfl 7 (by decide) (by decide +kernel) rfl dX10_elder_53 ?_
        refine j_iconst (pc := 56) X (v := nI 1) dX10_elder_56 (by decide) ?_
        refine j_iadd (pc := 57) X dX10_elder_57 ?_
        refine j_topi (z := nI (el + 1)) (nI_add _ _) ?_
        refine j_put (pc := 58) X (v := .int (nI (el + 1))) (ws' := [(z, .inr (10, [.int (nI 0), .int (nI 0), .long za, .long zb, .ref z4, .ref z5, .ref z6, .int (nI (el + 1)), .int (nI be), .ref z9, .ref z10, .ref z11, .ref z12, .int (b2i gz), .ref z14, .ref z15, .ref z16, .int (nI mm), .int (nI tt), .ref z19, .ref z20, .ref z21, .ref z22, .ref z23, .int (nI gm), .ref z25, .ref z26, .ref z27, .ref z28, .int (nI rn), .ref z30, .ref z31, .ref z32])), kI G z9 12 (nF (va_up pl el j))]) 10 i_X10 tyX10 tyX10_ok nmX10 0 rfl rfl 7 (by decide) (by decide +kernel) (by decide) (rfl) (rfl) (Nat.le_of_ble_eq_true rfl) dX10_elder_58 rfl ?_
        refine j_aload_n (pc := 61) X dX10_elder_61 rfl 0 rfl ?_
        refine j_get (pc := 62) X 10 i_X10 0 rfl rfl 7 (by decide) (by decide +kernel) rfl dX10_elder_62 ?_
        refine j_iconst (pc := 65) X (v := nI 1) dX10_elder_65 (by decide) ?_
        refine j_isub (pc := 66) X dX10_elder_66 ?_
        refine j_topi (z := nI el) ((pk_sub (by omega)).trans (by rw [Nat.add_sub_cancel])) ?_
        have hs : sElder el pl (nI j) = (some el, 0, el + 1, va_up pl el j) := by first | (simp [sElder, inC, tN, hq_j, hq_l, c_11, c_16, c_31]; done) | (simp [sElder, inC, c_11, c_16, c_31]; done)
        refine j_iret (pc := 67) X dX10_elder_67 ?_
        rw [hs]; exact ⟨rfl, rfl⟩
      · skip
        have hq_l : ¬ el < 12 := by omega
        refine j_aload_n (pc := 34) X dX10_elder_34 rfl 0 rfl ?_
        refine j_bipush (pc := 35) X (v := nI 7) dX10_elder_35 (by decide) ?_
        refine j_ci (pc := 37) X (ws' := [(z, .inr (10, [.int (nI 7), .int (nI 0), .long za, .long zb, .ref z4, .ref z5, .ref z6, .int (nI el), .int (nI be), .ref z9, .ref z10, .ref z11, .ref z12, .int (b2i gz), .ref z14, .ref z15, .ref z16, .int (nI mm), .int (nI tt), .ref z19, .ref z20, .ref z21, .ref z22, .ref z23, .int (nI gm), .ref z25, .ref z26, .ref z27, .ref z28, .int (nI rn), .ref z30, .ref z31, .ref z32])), kI G z9 12 (nF pl)]) [0] rfl (j_rV X (b := z) (As := [.int (nI 7)]) (ci := 10) (rest := []) 1 (mX10_refuse l G z z4 z5 z6 z9 z10 z11 z12 z14 z15 z16 z19 z20 z21 z22 z23 z25 z26 z27 z28 z30 z31 z32 0 0 za zb el be gz mm tt gm rn 7 ) gX10_elder_X10_refuse rfl rfl rfl (by decide +kernel) ⟨Nat.le_of_ble_eq_true rfl, Nat.le_of_ble_eq_true rfl⟩ rfl rfl 0 rfl [0] rfl rfl rfl (Nat.le_of_ble_eq_true rfl) dX10_elder_37 ⟨Nat.le_of_ble_eq_true rfl, Nat.le_of_ble_eq_true rfl⟩) rfl rfl ?_
        have hs : sElder el pl (nI j) = (none, 7, el, pl) := by first | (simp [sElder, inC, tN, hq_j, hq_l, c_11, c_16, c_31]; done) | (simp [sElder, inC, c_11, c_16, c_31]; done)
        refine j_iret (pc := 40) X dX10_elder_40 ?_
        rw [hs]; exact ⟨rfl, rfl⟩
    · skip
      refine j_aload_n (pc := 19) X dX10_elder_19 rfl 0 rfl ?_
      refine j_iconst (pc := 20) X (v := nI 5) dX10_elder_20 (by decide) ?_
      refine j_ci (pc := 21) X (ws' := [(z, .inr (10, [.int (nI 5), .int (nI 0), .long za, .long zb, .ref z4, .ref z5, .ref z6, .int (nI el), .int (nI be), .ref z9, .ref z10, .ref z11, .ref z12, .int (b2i gz), .ref z14, .ref z15, .ref z16, .int (nI mm), .int (nI tt), .ref z19, .ref z20, .ref z21, .ref z22, .ref z23, .int (nI gm), .ref z25, .ref z26, .ref z27, .ref z28, .int (nI rn), .ref z30, .ref z31, .ref z32])), kI G z9 12 (nF pl)]) [0] rfl (j_rV X (b := z) (As := [.int (nI 5)]) (ci := 10) (rest := []) 1 (mX10_refuse l G z z4 z5 z6 z9 z10 z11 z12 z14 z15 z16 z19 z20 z21 z22 z23 z25 z26 z27 z28 z30 z31 z32 0 0 za zb el be gz mm tt gm rn 5 ) gX10_elder_X10_refuse rfl rfl rfl (by decide +kernel) ⟨Nat.le_of_ble_eq_true rfl, Nat.le_of_ble_eq_true rfl⟩ rfl rfl 0 rfl [0] rfl rfl rfl (Nat.le_of_ble_eq_true rfl) dX10_elder_21 ⟨Nat.le_of_ble_eq_true rfl, Nat.le_of_ble_eq_true rfl⟩) rfl rfl ?_
      have hs : sElder el pl x = (none, 5, el, pl) := by first | (simp [sElder, inC, tN, c_11, c_16]; done) | (simp [sElder, inC, c_11, c_16]; done)
      refine j_iret (pc := 24) X dX10_elder_24 ?_
      rw [hs]; exact ⟨rfl, rfl⟩

set_option maxHeartbeats 4000000 in
set_option maxRecDepth 100000 in
theorem mX10_beginner (l : Launch) (G : jG) (z : Nat) (z4 : Nat) (z5 : Nat) (z6 : Nat) (z9 : Nat) (z10 : Nat) (z11 : Nat) (z12 : Nat) (z14 : Nat) (z15 : Nat) (z16 : Nat) (z19 : Nat) (z20 : Nat) (z21 : Nat) (z22 : Nat) (z23 : Nat) (z25 : Nat) (z26 : Nat) (z27 : Nat) (z28 : Nat) (z30 : Nat) (z31 : Nat) (z32 : Nat) (st : Nat) (th : Nat) (za : Int64) (zb : Int64) (el : Nat) (be : Nat) (gz : Bool) (mm : Nat) (tt : Nat) (gm : Nat) (rn : Nat) (gi : Nat → Option Nat) (hbe : be ≤ 16) : MV l yX10_beginner wsX10_beginner ({ frames := 1, cells := 0, slots := 0, locals := 21 }) G [.ref z] [(z, .inr (10, [.int (nI st), .int (nI th), .long za, .long zb, .ref z4, .ref z5, .ref z6, .int (nI el), .int (nI be), .ref z9, .ref z10, .ref z11, .ref z12, .int (b2i gz), .ref z14, .ref z15, .ref z16, .int (nI mm), .int (nI tt), .ref z19, .ref z20, .ref z21, .ref z22, .ref z23, .int (nI gm), .ref z25, .ref z26, .ref z27, .ref z28, .int (nI rn), .ref z30, .ref z31, .ref z32])), kI G z14 16 (oF gi)] (some (.int (oI ((sBeg be).1)))) [(z, .inr (10, [.int (nI ((sBeg be).2.1)), .int (nI 0), .long za, .long zb, .ref z4, .ref z5, .ref z6, .int (nI el), .int (nI ((sBeg be).2.2)), .ref z9, .ref z10, .ref z11, .ref z12, .int (b2i gz), .ref z14, .ref z15, .ref z16, .int (nI mm), .int (nI tt), .ref z19, .ref z20, .ref z21, .ref z22, .ref z23, .int (nI gm), .ref z25, .ref z26, .ref z27, .ref z28, .int (nI rn), .ref z30, .ref z31, .ref z32])), kI G z14 16 (oF (if be < 16 then va_up gi be none else gi))] := by
  refine MF.ofJ (cc := cX10_beginner) (maxL := 1) (ret := (some .int)) (own := RX10) (lv := [(0, .ref z)]) (by decide) rfl rfl (Nat.le_of_ble_eq_true rfl) rfl ?_
  intro κ X
  have i_X10 : ∀ w ∈ wsX100, w ∈ wsX10_beginner := by decide +kernel
  refine j_aload_n (pc := 0) X dX10_beginner_0 rfl 0 rfl ?_
  refine j_iconst (pc := 1) X (v := nI 0) dX10_beginner_1 (by decide) ?_
  refine j_put (pc := 2) X (v := .int (nI 0)) (ws' := [(z, .inr (10, [.int (nI st), .int (nI 0), .long za, .long zb, .ref z4, .ref z5, .ref z6, .int (nI el), .int (nI be), .ref z9, .ref z10, .ref z11, .ref z12, .int (b2i gz), .ref z14, .ref z15, .ref z16, .int (nI mm), .int (nI tt), .ref z19, .ref z20, .ref z21, .ref z22, .ref z23, .int (nI gm), .ref z25, .ref z26, .ref z27, .ref z28, .int (nI rn), .ref z30, .ref z31, .ref z32])), kI G z14 16 (oF gi)]) 10 i_X10 tyX10 tyX10_ok nmX10 0 rfl rfl 1 (by decide) (by decide +kernel) (by decide) (rfl) (rfl) (Nat.le_of_ble_eq_true rfl) dX10_beginner_2 rfl ?_
  refine j_aload_n (pc := 5) X dX10_beginner_5 rfl 0 rfl ?_
  refine j_iconst (pc := 6) X (v := nI 0) dX10_beginner_6 (by decide) ?_
  refine j_put (pc := 7) X (v := .int (nI 0)) (ws' := [(z, .inr (10, [.int (nI 0), .int (nI 0), .long za, .long zb, .ref z4, .ref z5, .ref z6, .int (nI el), .int (nI be), .ref z9, .ref z10, .ref z11, .ref z12, .int (b2i gz), .ref z14, .ref z15, .ref z16, .int (nI mm), .int (nI tt), .ref z19, .ref z20, .ref z21, .ref z22, .ref z23, .int (nI gm), .ref z25, .ref z26, .ref z27, .ref z28, .int (nI rn), .ref z30, .ref z31, .ref z32])), kI G z14 16 (oF gi)]) 10 i_X10 tyX10 tyX10_ok nmX10 0 rfl rfl 0 (by decide) (by decide +kernel) (by decide) (rfl) (rfl) (Nat.le_of_ble_eq_true rfl) dX10_beginner_7 rfl ?_
  refine j_aload_n (pc := 10) X dX10_beginner_10 rfl 0 rfl ?_
  refine j_get (pc := 11) X 10 i_X10 0 rfl rfl 8 (by decide) (by decide +kernel) rfl dX10_beginner_11 ?_
  refine j_bipush (pc := 14) X (v := nI 16) dX10_beginner_14 (by decide) ?_
  refine j_icmpN_ne (pc := 16) X (a := be) (b := 16) (by omega) (by omega) (tgt := 26) dX10_beginner_16 (by decide) (fun c_16 => ?_) (fun c_16 => ?_)
  · skip
    have hq_l : be < 16 := by omega
    refine j_aload_n (pc := 26) X dX10_beginner_26 rfl 0 rfl ?_
    refine j_get (pc := 27) X 10 i_X10 0 rfl rfl 14 (by decide) (by decide +kernel) rfl dX10_beginner_27 ?_
    refine j_aload_n (pc := 30) X dX10_beginner_30 rfl 0 rfl ?_
    refine j_get (pc := 31) X 10 i_X10 0 rfl rfl 8 (by decide) (by decide +kernel) rfl dX10_beginner_31 ?_
    refine j_iconst (pc := 34) X (v := oI none) dX10_beginner_34 (by decide) ?_
    refine j_iast (pc := 35) X (f2 := (oF (va_up gi be none))) (ws' := [(z, .inr (10, [.int (nI 0), .int (nI 0), .long za, .long zb, .ref z4, .ref z5, .ref z6, .int (nI el), .int (nI be), .ref z9, .ref z10, .ref z11, .ref z12, .int (b2i gz), .ref z14, .ref z15, .ref z16, .int (nI mm), .int (nI tt), .ref z19, .ref z20, .ref z21, .ref z22, .ref z23, .int (nI gm), .ref z25, .ref z26, .ref z27, .ref z28, .int (nI rn), .ref z30, .ref z31, .ref z32])), kI G z14 16 (oF (va_up gi be none))]) 1 rfl (vp_in_nI (by omega) (by decide)) dX10_beginner_35 (by rw [nI_clamp (by omega)]; exact oF_up gi be none) rfl ?_
    refine j_aload_n (pc := 36) X dX10_beginner_36 rfl 0 rfl ?_
    refine j_dup (pc := 37) X dX10_beginner_37 rfl ?_
    refine j_get (pc := 38) X 10 i_X10 0 rfl rfl 8 (by decide) (by decide +kernel) rfl dX10_beginner_38 ?_
    refine j_iconst (pc := 41) X (v := nI 1) dX10_beginner_41 (by decide) ?_
    refine j_iadd (pc := 42) X dX10_beginner_42 ?_
    refine j_topi (z := nI (be + 1)) (nI_add _ _) ?_
    refine j_put (pc := 43) X (v := .int (nI (be + 1))) (ws' := [(z, .inr (10, [.int (nI 0), .int (nI 0), .long za, .long zb, .ref z4, .ref z5, .ref z6, .int (nI el), .int (nI (be + 1)), .ref z9, .ref z10, .ref z11, .ref z12, .int (b2i gz), .ref z14, .ref z15, .ref z16, .int (nI mm), .int (nI tt), .ref z19, .ref z20, .ref z21, .ref z22, .ref z23, .int (nI gm), .ref z25, .ref z26, .ref z27, .ref z28, .int (nI rn), .ref z30, .ref z31, .ref z32])), kI G z14 16 (oF (va_up gi be none))]) 10 i_X10 tyX10 tyX10_ok nmX10 0 rfl rfl 8 (by decide) (by decide +kernel) (by decide) (rfl) (rfl) (Nat.le_of_ble_eq_true rfl) dX10_beginner_43 rfl ?_
    refine j_aload_n (pc := 46) X dX10_beginner_46 rfl 0 rfl ?_
    refine j_get (pc := 47) X 10 i_X10 0 rfl rfl 8 (by decide) (by decide +kernel) rfl dX10_beginner_47 ?_
    refine j_iconst (pc := 50) X (v := nI 1) dX10_beginner_50 (by decide) ?_
    refine j_isub (pc := 51) X dX10_beginner_51 ?_
    refine j_topi (z := nI be) ((pk_sub (by omega)).trans (by rw [Nat.add_sub_cancel])) ?_
    exact j_iret (pc := 52) X dX10_beginner_52 ⟨by simp [sBeg, hq_l]; try rfl, by simp [sBeg, hq_l]⟩
  · skip
    have hq_l : ¬ be < 16 := by omega
    refine j_aload_n (pc := 19) X dX10_beginner_19 rfl 0 rfl ?_
    refine j_bipush (pc := 20) X (v := nI 7) dX10_beginner_20 (by decide) ?_
    refine j_ci (pc := 22) X (ws' := [(z, .inr (10, [.int (nI 7), .int (nI 0), .long za, .long zb, .ref z4, .ref z5, .ref z6, .int (nI el), .int (nI be), .ref z9, .ref z10, .ref z11, .ref z12, .int (b2i gz), .ref z14, .ref z15, .ref z16, .int (nI mm), .int (nI tt), .ref z19, .ref z20, .ref z21, .ref z22, .ref z23, .int (nI gm), .ref z25, .ref z26, .ref z27, .ref z28, .int (nI rn), .ref z30, .ref z31, .ref z32])), kI G z14 16 (oF gi)]) [0] rfl (j_rV X (b := z) (As := [.int (nI 7)]) (ci := 10) (rest := []) 1 (mX10_refuse l G z z4 z5 z6 z9 z10 z11 z12 z14 z15 z16 z19 z20 z21 z22 z23 z25 z26 z27 z28 z30 z31 z32 0 0 za zb el be gz mm tt gm rn 7 ) gX10_beginner_X10_refuse rfl rfl rfl (by decide +kernel) ⟨Nat.le_of_ble_eq_true rfl, Nat.le_of_ble_eq_true rfl⟩ rfl rfl 0 rfl [0] rfl rfl rfl (Nat.le_of_ble_eq_true rfl) dX10_beginner_22 ⟨Nat.le_of_ble_eq_true rfl, Nat.le_of_ble_eq_true rfl⟩) rfl rfl ?_
    exact j_iret (pc := 25) X dX10_beginner_25 ⟨by simp [sBeg, hq_l]; try rfl, by simp [sBeg, hq_l]⟩

set_option maxHeartbeats 4000000 in
set_option maxRecDepth 100000 in
theorem mX10_places (l : Launch) (G : jG) (z : Nat) (z4 : Nat) (z5 : Nat) (z6 : Nat) (z9 : Nat) (z10 : Nat) (z11 : Nat) (z12 : Nat) (z14 : Nat) (z15 : Nat) (z16 : Nat) (z19 : Nat) (z20 : Nat) (z21 : Nat) (z22 : Nat) (z23 : Nat) (z25 : Nat) (z26 : Nat) (z27 : Nat) (z28 : Nat) (z30 : Nat) (z31 : Nat) (z32 : Nat) (st : Nat) (th : Nat) (za : Int64) (zb : Int64) (el : Nat) (be : Nat) (gz : Bool) (mm : Nat) (tt : Nat) (gm : Nat) (rn : Nat) (pl : Nat → Nat) (x : Int32) (w : Int32) (hel : el ≤ 12) : MV l yX10_places wsX10_places ({ frames := 1, cells := 0, slots := 0, locals := 21 }) G [.ref z, .int x, .int w] [(z, .inr (10, [.int (nI st), .int (nI th), .long za, .long zb, .ref z4, .ref z5, .ref z6, .int (nI el), .int (nI be), .ref z9, .ref z10, .ref z11, .ref z12, .int (b2i gz), .ref z14, .ref z15, .ref z16, .int (nI mm), .int (nI tt), .ref z19, .ref z20, .ref z21, .ref z22, .ref z23, .int (nI gm), .ref z25, .ref z26, .ref z27, .ref z28, .int (nI rn), .ref z30, .ref z31, .ref z32])), kI G z9 12 (nF pl)] (some (.int (b2i ((sPlaces el pl x w).1)))) [(z, .inr (10, [.int (nI ((sPlaces el pl x w).2.1)), .int (nI 0), .long za, .long zb, .ref z4, .ref z5, .ref z6, .int (nI el), .int (nI be), .ref z9, .ref z10, .ref z11, .ref z12, .int (b2i gz), .ref z14, .ref z15, .ref z16, .int (nI mm), .int (nI tt), .ref z19, .ref z20, .ref z21, .ref z22, .ref z23, .int (nI gm), .ref z25, .ref z26, .ref z27, .ref z28, .int (nI rn), .ref z30, .ref z31, .ref z32])), kI G z9 12 (nF ((sPlaces el pl x w).2.2))] := by
  refine MF.ofJ (cc := cX10_places) (maxL := 3) (ret := (some .boolean)) (own := RX10) (lv := [(0, .ref z), (1, .int x), (2, .int w)]) (by decide) rfl rfl (Nat.le_of_ble_eq_true rfl) rfl ?_
  intro κ X
  have i_X10 : ∀ w ∈ wsX100, w ∈ wsX10_places := by decide +kernel
  refine j_aload_n (pc := 0) X dX10_places_0 rfl 0 rfl ?_
  refine j_iconst (pc := 1) X (v := nI 0) dX10_places_1 (by decide) ?_
  refine j_put (pc := 2) X (v := .int (nI 0)) (ws' := [(z, .inr (10, [.int (nI st), .int (nI 0), .long za, .long zb, .ref z4, .ref z5, .ref z6, .int (nI el), .int (nI be), .ref z9, .ref z10, .ref z11, .ref z12, .int (b2i gz), .ref z14, .ref z15, .ref z16, .int (nI mm), .int (nI tt), .ref z19, .ref z20, .ref z21, .ref z22, .ref z23, .int (nI gm), .ref z25, .ref z26, .ref z27, .ref z28, .int (nI rn), .ref z30, .ref z31, .ref z32])), kI G z9 12 (nF pl)]) 10 i_X10 tyX10 tyX10_ok nmX10 0 rfl rfl 1 (by decide) (by decide +kernel) (by decide) (rfl) (rfl) (Nat.le_of_ble_eq_true rfl) dX10_places_2 rfl ?_
  refine j_aload_n (pc := 5) X dX10_places_5 rfl 0 rfl ?_
  refine j_iconst (pc := 6) X (v := nI 0) dX10_places_6 (by decide) ?_
  refine j_put (pc := 7) X (v := .int (nI 0)) (ws' := [(z, .inr (10, [.int (nI 0), .int (nI 0), .long za, .long zb, .ref z4, .ref z5, .ref z6, .int (nI el), .int (nI be), .ref z9, .ref z10, .ref z11, .ref z12, .int (b2i gz), .ref z14, .ref z15, .ref z16, .int (nI mm), .int (nI tt), .ref z19, .ref z20, .ref z21, .ref z22, .ref z23, .int (nI gm), .ref z25, .ref z26, .ref z27, .ref z28, .int (nI rn), .ref z30, .ref z31, .ref z32])), kI G z9 12 (nF pl)]) 10 i_X10 tyX10 tyX10_ok nmX10 0 rfl rfl 0 (by decide) (by decide +kernel) (by decide) (rfl) (rfl) (Nat.le_of_ble_eq_true rfl) dX10_places_7 rfl ?_
  refine j_aload_n (pc := 10) X dX10_places_10 rfl 0 rfl ?_
  refine j_iload_n (pc := 11) X dX10_places_11 rfl 1 rfl ?_
  refine j_ciP (pc := 12) X [0] rfl (j_rV X (b := z) (As := [.int x]) (ci := 10) (rest := []) 1 (mX10_isElder l G z z4 z5 z6 z9 z10 z11 z12 z14 z15 z16 z19 z20 z21 z22 z23 z25 z26 z27 z28 z30 z31 z32 0 0 za zb el be gz mm tt gm rn x ) gX10_places_X10_isElder rfl rfl rfl (by decide +kernel) ⟨Nat.le_of_ble_eq_true rfl, Nat.le_of_ble_eq_true rfl⟩ rfl rfl 0 rfl [0] rfl rfl rfl (Nat.le_of_ble_eq_true rfl) dX10_places_12 ⟨Nat.le_of_ble_eq_true rfl, Nat.le_of_ble_eq_true rfl⟩) ?_
  refine j_ifb_ne (pc := 15) X (B := inR x el) (tgt := 24) dX10_places_15 (by decide) (fun c_15 => ?_) (fun c_15 => ?_)
  · skip
    obtain ⟨j, hj, rfl⟩ := inR_of c_15 (by omega); have hq_j := nI_clamp (n := j) (by omega)
    refine j_iload_n (pc := 24) X dX10_places_24 rfl 2 rfl ?_
    refine j_if_lt (pc := 25) X (x := w) (tgt := 33) dX10_places_25 (by decide) (fun c_25 => ?_) (fun c_25 => ?_)
    · skip
      refine j_aload_n (pc := 33) X dX10_places_33 rfl 0 rfl ?_
      refine j_iconst (pc := 34) X (v := nI 5) dX10_places_34 (by decide) ?_
      refine j_ci (pc := 35) X (ws' := [(z, .inr (10, [.int (nI 5), .int (nI 0), .long za, .long zb, .ref z4, .ref z5, .ref z6, .int (nI el), .int (nI be), .ref z9, .ref z10, .ref z11, .ref z12, .int (b2i gz), .ref z14, .ref z15, .ref z16, .int (nI mm), .int (nI tt), .ref z19, .ref z20, .ref z21, .ref z22, .ref z23, .int (nI gm), .ref z25, .ref z26, .ref z27, .ref z28, .int (nI rn), .ref z30, .ref z31, .ref z32])), kI G z9 12 (nF pl)]) [0] rfl (j_rV X (b := z) (As := [.int (nI 5)]) (ci := 10) (rest := []) 1 (mX10_no l G z z4 z5 z6 z9 z10 z11 z12 z14 z15 z16 z19 z20 z21 z22 z23 z25 z26 z27 z28 z30 z31 z32 0 0 za zb el be gz mm tt gm rn 5 ) gX10_places_X10_no rfl rfl rfl (by decide +kernel) ⟨Nat.le_of_ble_eq_true rfl, Nat.le_of_ble_eq_true rfl⟩ rfl rfl 0 rfl [0] rfl rfl rfl (Nat.le_of_ble_eq_true rfl) dX10_places_35 ⟨Nat.le_of_ble_eq_true rfl, Nat.le_of_ble_eq_true rfl⟩) rfl rfl ?_
      have hs : sPlaces el pl (nI j) w = (false, 5, pl) := by first | (simp [sPlaces, inC, tN, hq_j, c_15, c_25]; done) | (simp [sPlaces, inC, c_15, c_25]; done)
      refine j_zret (pc := 38) X (b2i_nar _) dX10_places_38 ?_
      rw [hs]; exact ⟨rfl, rfl⟩
    · skip
      refine j_iload_n (pc := 28) X dX10_places_28 rfl 2 rfl ?_
      refine j_iconst (pc := 29) X (v := nI 4) dX10_places_29 (by decide) ?_
      refine j_icmp_le (pc := 30) X (x := w) (z := nI 4) (tgt := 39) dX10_places_30 (by decide) (fun c_30 => ?_) (fun c_30 => ?_)
      · skip
        obtain ⟨k, hk, rfl⟩ := rng_of c_25 c_30 (by decide); have hq_k := nI_clamp (n := k) (by omega)
        refine j_aload_n (pc := 39) X dX10_places_39 rfl 0 rfl ?_
        refine j_get (pc := 40) X 10 i_X10 0 rfl rfl 9 (by decide) (by decide +kernel) rfl dX10_places_40 ?_
        refine j_iload_n (pc := 43) X dX10_places_43 rfl 1 rfl ?_
        refine j_iload_n (pc := 44) X dX10_places_44 rfl 2 rfl ?_
        refine j_iast (pc := 45) X (f2 := (nF (va_up pl j k))) (ws' := [(z, .inr (10, [.int (nI 0), .int (nI 0), .long za, .long zb, .ref z4, .ref z5, .ref z6, .int (nI el), .int (nI be), .ref z9, .ref z10, .ref z11, .ref z12, .int (b2i gz), .ref z14, .ref z15, .ref z16, .int (nI mm), .int (nI tt), .ref z19, .ref z20, .ref z21, .ref z22, .ref z23, .int (nI gm), .ref z25, .ref z26, .ref z27, .ref z28, .int (nI rn), .ref z30, .ref z31, .ref z32])), kI G z9 12 (nF (va_up pl j k))]) 1 rfl (vp_in_nI (by omega) (by decide)) dX10_places_45 (by rw [nI_clamp (by omega)]; exact nF_up pl j k) rfl ?_
        refine j_iconst (pc := 46) X (v := nI 1) dX10_places_46 (by decide) ?_
        have hs : sPlaces el pl (nI j) (nI k) = (true, 0, va_up pl j k) := by first | (simp [sPlaces, inC, tN, hq_j, hq_k, c_15, c_25, c_30]; done) | (simp [sPlaces, inC, c_15, c_25, c_30]; done)
        refine j_zret (pc := 47) X (rfl) dX10_places_47 ?_
        rw [hs]; exact ⟨rfl, rfl⟩
      · skip
        refine j_aload_n (pc := 33) X dX10_places_33 rfl 0 rfl ?_
        refine j_iconst (pc := 34) X (v := nI 5) dX10_places_34 (by decide) ?_
        refine j_ci (pc := 35) X (ws' := [(z, .inr (10, [.int (nI 5), .int (nI 0), .long za, .long zb, .ref z4, .ref z5, .ref z6, .int (nI el), .int (nI be), .ref z9, .ref z10, .ref z11, .ref z12, .int (b2i gz), .ref z14, .ref z15, .ref z16, .int (nI mm), .int (nI tt), .ref z19, .ref z20, .ref z21, .ref z22, .ref z23, .int (nI gm), .ref z25, .ref z26, .ref z27, .ref z28, .int (nI rn), .ref z30, .ref z31, .ref z32])), kI G z9 12 (nF pl)]) [0] rfl (j_rV X (b := z) (As := [.int (nI 5)]) (ci := 10) (rest := []) 1 (mX10_no l G z z4 z5 z6 z9 z10 z11 z12 z14 z15 z16 z19 z20 z21 z22 z23 z25 z26 z27 z28 z30 z31 z32 0 0 za zb el be gz mm tt gm rn 5 ) gX10_places_X10_no rfl rfl rfl (by decide +kernel) ⟨Nat.le_of_ble_eq_true rfl, Nat.le_of_ble_eq_true rfl⟩ rfl rfl 0 rfl [0] rfl rfl rfl (Nat.le_of_ble_eq_true rfl) dX10_places_35 ⟨Nat.le_of_ble_eq_true rfl, Nat.le_of_ble_eq_true rfl⟩) rfl rfl ?_
        have hs : sPlaces el pl (nI j) w = (false, 5, pl) := by first | (simp [sPlaces, inC, tN, hq_j, c_15, c_25, c_30]; done) | (simp [sPlaces, inC, c_15, c_25, c_30]; done)
        refine j_zret (pc := 38) X (b2i_nar _) dX10_places_38 ?_
        rw [hs]; exact ⟨rfl, rfl⟩
  · skip
    refine j_aload_n (pc := 18) X dX10_places_18 rfl 0 rfl ?_
    refine j_iconst (pc := 19) X (v := nI 2) dX10_places_19 (by decide) ?_
    refine j_ci (pc := 20) X (ws' := [(z, .inr (10, [.int (nI 2), .int (nI 0), .long za, .long zb, .ref z4, .ref z5, .ref z6, .int (nI el), .int (nI be), .ref z9, .ref z10, .ref z11, .ref z12, .int (b2i gz), .ref z14, .ref z15, .ref z16, .int (nI mm), .int (nI tt), .ref z19, .ref z20, .ref z21, .ref z22, .ref z23, .int (nI gm), .ref z25, .ref z26, .ref z27, .ref z28, .int (nI rn), .ref z30, .ref z31, .ref z32])), kI G z9 12 (nF pl)]) [0] rfl (j_rV X (b := z) (As := [.int (nI 2)]) (ci := 10) (rest := []) 1 (mX10_no l G z z4 z5 z6 z9 z10 z11 z12 z14 z15 z16 z19 z20 z21 z22 z23 z25 z26 z27 z28 z30 z31 z32 0 0 za zb el be gz mm tt gm rn 2 ) gX10_places_X10_no rfl rfl rfl (by decide +kernel) ⟨Nat.le_of_ble_eq_true rfl, Nat.le_of_ble_eq_true rfl⟩ rfl rfl 0 rfl [0] rfl rfl rfl (Nat.le_of_ble_eq_true rfl) dX10_places_20 ⟨Nat.le_of_ble_eq_true rfl, Nat.le_of_ble_eq_true rfl⟩) rfl rfl ?_
    have hs : sPlaces el pl x w = (false, 2, pl) := by first | (simp [sPlaces, inC, tN, c_15]; done) | (simp [sPlaces, inC, c_15]; done)
    refine j_zret (pc := 23) X (b2i_nar _) dX10_places_23 ?_
    rw [hs]; exact ⟨rfl, rfl⟩

set_option maxHeartbeats 4000000 in
set_option maxRecDepth 100000 in
theorem mX10_like (l : Launch) (G : jG) (z : Nat) (z4 : Nat) (z5 : Nat) (z6 : Nat) (z9 : Nat) (z10 : Nat) (z11 : Nat) (z12 : Nat) (z14 : Nat) (z15 : Nat) (z16 : Nat) (z19 : Nat) (z20 : Nat) (z21 : Nat) (z22 : Nat) (z23 : Nat) (z25 : Nat) (z26 : Nat) (z27 : Nat) (z28 : Nat) (z30 : Nat) (z31 : Nat) (z32 : Nat) (st : Nat) (th : Nat) (za : Int64) (zb : Int64) (el : Nat) (be : Nat) (gz : Bool) (mm : Nat) (tt : Nat) (gm : Nat) (rn : Nat) (le : Nat → Nat) (lb : Nat → Nat) (x : Int32) (w : Int32) (mu : Int32) (by_ : Bool) (hel : el ≤ 12) (hbe : be ≤ 16) : MV l yX10_like wsX10_like ({ frames := 1, cells := 0, slots := 0, locals := 21 }) G [.ref z, .int x, .int w, .int (b2i by_), .int mu] [(z, .inr (10, [.int (nI st), .int (nI th), .long za, .long zb, .ref z4, .ref z5, .ref z6, .int (nI el), .int (nI be), .ref z9, .ref z10, .ref z11, .ref z12, .int (b2i gz), .ref z14, .ref z15, .ref z16, .int (nI mm), .int (nI tt), .ref z19, .ref z20, .ref z21, .ref z22, .ref z23, .int (nI gm), .ref z25, .ref z26, .ref z27, .ref z28, .int (nI rn), .ref z30, .ref z31, .ref z32])), kI G z10 192 (nF le), kI G z11 192 (nF lb)] (some (.int (b2i ((sLike el be le lb x w by_ mu).1)))) [(z, .inr (10, [.int (nI ((sLike el be le lb x w by_ mu).2.1)), .int (nI 0), .long za, .long zb, .ref z4, .ref z5, .ref z6, .int (nI el), .int (nI be), .ref z9, .ref z10, .ref z11, .ref z12, .int (b2i gz), .ref z14, .ref z15, .ref z16, .int (nI mm), .int (nI tt), .ref z19, .ref z20, .ref z21, .ref z22, .ref z23, .int (nI gm), .ref z25, .ref z26, .ref z27, .ref z28, .int (nI rn), .ref z30, .ref z31, .ref z32])), kI G z10 192 (nF ((sLike el be le lb x w by_ mu).2.2.1)), kI G z11 192 (nF ((sLike el be le lb x w by_ mu).2.2.2))] := by
  refine MF.ofJ (cc := cX10_like) (maxL := 5) (ret := (some .boolean)) (own := RX10) (lv := [(0, .ref z), (1, .int x), (2, .int w), (3, .int (b2i by_)), (4, .int mu)]) (by decide) rfl rfl (Nat.le_of_ble_eq_true rfl) rfl ?_
  intro κ X
  have i_X10 : ∀ w ∈ wsX100, w ∈ wsX10_like := by decide +kernel
  refine j_aload_n (pc := 0) X dX10_like_0 rfl 0 rfl ?_
  refine j_iconst (pc := 1) X (v := nI 0) dX10_like_1 (by decide) ?_
  refine j_put (pc := 2) X (v := .int (nI 0)) (ws' := [(z, .inr (10, [.int (nI st), .int (nI 0), .long za, .long zb, .ref z4, .ref z5, .ref z6, .int (nI el), .int (nI be), .ref z9, .ref z10, .ref z11, .ref z12, .int (b2i gz), .ref z14, .ref z15, .ref z16, .int (nI mm), .int (nI tt), .ref z19, .ref z20, .ref z21, .ref z22, .ref z23, .int (nI gm), .ref z25, .ref z26, .ref z27, .ref z28, .int (nI rn), .ref z30, .ref z31, .ref z32])), kI G z10 192 (nF le), kI G z11 192 (nF lb)]) 10 i_X10 tyX10 tyX10_ok nmX10 0 rfl rfl 1 (by decide) (by decide +kernel) (by decide) (rfl) (rfl) (Nat.le_of_ble_eq_true rfl) dX10_like_2 rfl ?_
  refine j_aload_n (pc := 5) X dX10_like_5 rfl 0 rfl ?_
  refine j_iconst (pc := 6) X (v := nI 0) dX10_like_6 (by decide) ?_
  refine j_put (pc := 7) X (v := .int (nI 0)) (ws' := [(z, .inr (10, [.int (nI 0), .int (nI 0), .long za, .long zb, .ref z4, .ref z5, .ref z6, .int (nI el), .int (nI be), .ref z9, .ref z10, .ref z11, .ref z12, .int (b2i gz), .ref z14, .ref z15, .ref z16, .int (nI mm), .int (nI tt), .ref z19, .ref z20, .ref z21, .ref z22, .ref z23, .int (nI gm), .ref z25, .ref z26, .ref z27, .ref z28, .int (nI rn), .ref z30, .ref z31, .ref z32])), kI G z10 192 (nF le), kI G z11 192 (nF lb)]) 10 i_X10 tyX10 tyX10_ok nmX10 0 rfl rfl 0 (by decide) (by decide +kernel) (by decide) (rfl) (rfl) (Nat.le_of_ble_eq_true rfl) dX10_like_7 rfl ?_
  refine j_aload_n (pc := 10) X dX10_like_10 rfl 0 rfl ?_
  refine j_iload_n (pc := 11) X dX10_like_11 rfl 1 rfl ?_
  refine j_ciP (pc := 12) X [0] rfl (j_rV X (b := z) (As := [.int x]) (ci := 10) (rest := []) 1 (mX10_isElder l G z z4 z5 z6 z9 z10 z11 z12 z14 z15 z16 z19 z20 z21 z22 z23 z25 z26 z27 z28 z30 z31 z32 0 0 za zb el be gz mm tt gm rn x ) gX10_like_X10_isElder rfl rfl rfl (by decide +kernel) ⟨Nat.le_of_ble_eq_true rfl, Nat.le_of_ble_eq_true rfl⟩ rfl rfl 0 rfl [0] rfl rfl rfl (Nat.le_of_ble_eq_true rfl) dX10_like_12 ⟨Nat.le_of_ble_eq_true rfl, Nat.le_of_ble_eq_true rfl⟩) ?_
  refine j_ifb_eq (pc := 15) X (B := inR x el) (tgt := 26) dX10_like_15 (by decide) (fun c_15 => ?_) (fun c_15 => ?_)
  · skip
    refine j_aload_n (pc := 26) X dX10_like_26 rfl 0 rfl ?_
    refine j_iconst (pc := 27) X (v := nI 2) dX10_like_27 (by decide) ?_
    refine j_ci (pc := 28) X (ws' := [(z, .inr (10, [.int (nI 2), .int (nI 0), .long za, .long zb, .ref z4, .ref z5, .ref z6, .int (nI el), .int (nI be), .ref z9, .ref z10, .ref z11, .ref z12, .int (b2i gz), .ref z14, .ref z15, .ref z16, .int (nI mm), .int (nI tt), .ref z19, .ref z20, .ref z21, .ref z22, .ref z23, .int (nI gm), .ref z25, .ref z26, .ref z27, .ref z28, .int (nI rn), .ref z30, .ref z31, .ref z32])), kI G z10 192 (nF le), kI G z11 192 (nF lb)]) [0] rfl (j_rV X (b := z) (As := [.int (nI 2)]) (ci := 10) (rest := []) 1 (mX10_no l G z z4 z5 z6 z9 z10 z11 z12 z14 z15 z16 z19 z20 z21 z22 z23 z25 z26 z27 z28 z30 z31 z32 0 0 za zb el be gz mm tt gm rn 2 ) gX10_like_X10_no rfl rfl rfl (by decide +kernel) ⟨Nat.le_of_ble_eq_true rfl, Nat.le_of_ble_eq_true rfl⟩ rfl rfl 0 rfl [0] rfl rfl rfl (Nat.le_of_ble_eq_true rfl) dX10_like_28 ⟨Nat.le_of_ble_eq_true rfl, Nat.le_of_ble_eq_true rfl⟩) rfl rfl ?_
    have hs : sLike el be le lb x w by_ mu = (false, 2, le, lb) := by first | (simp [sLike, inC, tN, c_15]; done) | (simp [sLike, inC, c_15]; done)
    refine j_zret (pc := 31) X (b2i_nar _) dX10_like_31 ?_
    rw [hs]; exact ⟨rfl, rfl⟩
  · skip
    obtain ⟨j, hj, rfl⟩ := inR_of c_15 (by omega); have hq_j := nI_clamp (n := j) (by omega)
    refine j_aload_n (pc := 18) X dX10_like_18 rfl 0 rfl ?_
    refine j_iload_n (pc := 19) X dX10_like_19 rfl 2 rfl ?_
    refine j_ciP (pc := 20) X [0] rfl (j_rV X (b := z) (As := [.int w]) (ci := 10) (rest := []) 1 (mX10_isBeginner l G z z4 z5 z6 z9 z10 z11 z12 z14 z15 z16 z19 z20 z21 z22 z23 z25 z26 z27 z28 z30 z31 z32 0 0 za zb el be gz mm tt gm rn w ) gX10_like_X10_isBeginner rfl rfl rfl (by decide +kernel) ⟨Nat.le_of_ble_eq_true rfl, Nat.le_of_ble_eq_true rfl⟩ rfl rfl 0 rfl [0] rfl rfl rfl (Nat.le_of_ble_eq_true rfl) dX10_like_20 ⟨Nat.le_of_ble_eq_true rfl, Nat.le_of_ble_eq_true rfl⟩) ?_
    refine j_ifb_ne (pc := 23) X (B := inR w be) (tgt := 32) dX10_like_23 (by decide) (fun c_23 => ?_) (fun c_23 => ?_)
    · skip
      obtain ⟨k, hk, rfl⟩ := inR_of c_23 (by omega); have hq_k := nI_clamp (n := k) (by omega)
      refine j_iload (pc := 32) X dX10_like_32 4 rfl ?_
      refine j_if_lt (pc := 34) X (x := mu) (tgt := 44) dX10_like_34 (by decide) (fun c_34 => ?_) (fun c_34 => ?_)
      · skip
        refine j_aload_n (pc := 44) X dX10_like_44 rfl 0 rfl ?_
        refine j_iconst (pc := 45) X (v := nI 5) dX10_like_45 (by decide) ?_
        refine j_ci (pc := 46) X (ws' := [(z, .inr (10, [.int (nI 5), .int (nI 0), .long za, .long zb, .ref z4, .ref z5, .ref z6, .int (nI el), .int (nI be), .ref z9, .ref z10, .ref z11, .ref z12, .int (b2i gz), .ref z14, .ref z15, .ref z16, .int (nI mm), .int (nI tt), .ref z19, .ref z20, .ref z21, .ref z22, .ref z23, .int (nI gm), .ref z25, .ref z26, .ref z27, .ref z28, .int (nI rn), .ref z30, .ref z31, .ref z32])), kI G z10 192 (nF le), kI G z11 192 (nF lb)]) [0] rfl (j_rV X (b := z) (As := [.int (nI 5)]) (ci := 10) (rest := []) 1 (mX10_no l G z z4 z5 z6 z9 z10 z11 z12 z14 z15 z16 z19 z20 z21 z22 z23 z25 z26 z27 z28 z30 z31 z32 0 0 za zb el be gz mm tt gm rn 5 ) gX10_like_X10_no rfl rfl rfl (by decide +kernel) ⟨Nat.le_of_ble_eq_true rfl, Nat.le_of_ble_eq_true rfl⟩ rfl rfl 0 rfl [0] rfl rfl rfl (Nat.le_of_ble_eq_true rfl) dX10_like_46 ⟨Nat.le_of_ble_eq_true rfl, Nat.le_of_ble_eq_true rfl⟩) rfl rfl ?_
        have hs : sLike el be le lb (nI j) (nI k) by_ mu = (false, 5, le, lb) := by first | (simp [sLike, inC, tN, hq_j, hq_k, c_15, c_23, c_34]; done) | (simp [sLike, inC, c_15, c_23, c_34]; done)
        refine j_zret (pc := 49) X (b2i_nar _) dX10_like_49 ?_
        rw [hs]; exact ⟨rfl, rfl⟩
      · skip
        refine j_iload (pc := 37) X dX10_like_37 4 rfl ?_
        refine j_bipush (pc := 39) X (v := nI 100) dX10_like_39 (by decide) ?_
        refine j_icmp_le (pc := 41) X (x := mu) (z := nI 100) (tgt := 50) dX10_like_41 (by decide) (fun c_41 => ?_) (fun c_41 => ?_)
        · skip
          obtain ⟨m, hm, rfl⟩ := rng_of c_34 c_41 (by decide); have hq_m := nI_clamp (n := m) (by omega)
          refine j_iload_n (pc := 50) X dX10_like_50 rfl 3 rfl ?_
          refine j_ifb_eq (pc := 51) X (B := by_) (tgt := 70) dX10_like_51 (by decide) (fun c_51 => ?_) (fun c_51 => ?_)
          · skip
            refine j_aload_n (pc := 70) X dX10_like_70 rfl 0 rfl ?_
            refine j_get (pc := 71) X 10 i_X10 0 rfl rfl 11 (by decide) (by decide +kernel) rfl dX10_like_71 ?_
            refine j_bipush (pc := 74) X (v := nI 16) dX10_like_74 (by decide) ?_
            refine j_iload_n (pc := 76) X dX10_like_76 rfl 1 rfl ?_
            refine j_imul (pc := 77) X dX10_like_77 ?_
            refine j_topi (z := nI (16 * j)) (pk_mul _ _) ?_
            refine j_iload_n (pc := 78) X dX10_like_78 rfl 2 rfl ?_
            refine j_iadd (pc := 79) X dX10_like_79 ?_
            refine j_topi (z := nI (j * 16 + k)) ((nI_add _ _).trans (by rw [Nat.mul_comm])) ?_
            refine j_iload (pc := 80) X dX10_like_80 4 rfl ?_
            refine j_iast (pc := 82) X (f2 := (nF (va_up lb (j * 16 + k) m))) (ws' := [(z, .inr (10, [.int (nI 0), .int (nI 0), .long za, .long zb, .ref z4, .ref z5, .ref z6, .int (nI el), .int (nI be), .ref z9, .ref z10, .ref z11, .ref z12, .int (b2i gz), .ref z14, .ref z15, .ref z16, .int (nI mm), .int (nI tt), .ref z19, .ref z20, .ref z21, .ref z22, .ref z23, .int (nI gm), .ref z25, .ref z26, .ref z27, .ref z28, .int (nI rn), .ref z30, .ref z31, .ref z32])), kI G z10 192 (nF le), kI G z11 192 (nF (va_up lb (j * 16 + k) m))]) 2 rfl (vp_in_nI (by omega) (by decide)) dX10_like_82 (by rw [nI_clamp (by omega)]; exact nF_up lb (j * 16 + k) m) rfl ?_
            refine j_iconst (pc := 83) X (v := nI 1) dX10_like_83 (by decide) ?_
            have hs : sLike el be le lb (nI j) (nI k) by_ (nI m) = (true, 0, le, va_up lb (j * 16 + k) m) := by first | (simp [sLike, inC, tN, hq_j, hq_k, hq_m, c_15, c_23, c_34, c_41, c_51]; done) | (simp [sLike, inC, c_15, c_23, c_34, c_41, c_51]; done)
            refine j_zret (pc := 84) X (rfl) dX10_like_84 ?_
            rw [hs]; exact ⟨rfl, rfl⟩
          · skip
            refine j_aload_n (pc := 54) X dX10_like_54 rfl 0 rfl ?_
            refine j_get (pc := 55) X 10 i_X10 0 rfl rfl 10 (by decide) (by decide +kernel) rfl dX10_like_55 ?_
            refine j_bipush (pc := 58) X (v := nI 16) dX10_like_58 (by decide) ?_
            refine j_iload_n (pc := 60) X dX10_like_60 rfl 1 rfl ?_
            refine j_imul (pc := 61) X dX10_like_61 ?_
            refine j_topi (z := nI (16 * j)) (pk_mul _ _) ?_
            refine j_iload_n (pc := 62) X dX10_like_62 rfl 2 rfl ?_
            refine j_iadd (pc := 63) X dX10_like_63 ?_
            refine j_topi (z := nI (j * 16 + k)) ((nI_add _ _).trans (by rw [Nat.mul_comm])) ?_
            refine j_iload (pc := 64) X dX10_like_64 4 rfl ?_
            refine j_iast (pc := 66) X (f2 := (nF (va_up le (j * 16 + k) m))) (ws' := [(z, .inr (10, [.int (nI 0), .int (nI 0), .long za, .long zb, .ref z4, .ref z5, .ref z6, .int (nI el), .int (nI be), .ref z9, .ref z10, .ref z11, .ref z12, .int (b2i gz), .ref z14, .ref z15, .ref z16, .int (nI mm), .int (nI tt), .ref z19, .ref z20, .ref z21, .ref z22, .ref z23, .int (nI gm), .ref z25, .ref z26, .ref z27, .ref z28, .int (nI rn), .ref z30, .ref z31, .ref z32])), kI G z10 192 (nF (va_up le (j * 16 + k) m)), kI G z11 192 (nF lb)]) 1 rfl (vp_in_nI (by omega) (by decide)) dX10_like_66 (by rw [nI_clamp (by omega)]; exact nF_up le (j * 16 + k) m) rfl ?_
            refine j_goto (pc := 67) X (tgt := 83) dX10_like_67 (by decide) ?_
            refine j_iconst (pc := 83) X (v := nI 1) dX10_like_83 (by decide) ?_
            have hs : sLike el be le lb (nI j) (nI k) by_ (nI m) = (true, 0, va_up le (j * 16 + k) m, lb) := by first | (simp [sLike, inC, tN, hq_j, hq_k, hq_m, c_15, c_23, c_34, c_41, c_51]; done) | (simp [sLike, inC, c_15, c_23, c_34, c_41, c_51]; done)
            refine j_zret (pc := 84) X (rfl) dX10_like_84 ?_
            rw [hs]; exact ⟨rfl, rfl⟩
        · skip
          refine j_aload_n (pc := 44) X dX10_like_44 rfl 0 rfl ?_
          refine j_iconst (pc := 45) X (v := nI 5) dX10_like_45 (by decide) ?_
          refine j_ci (pc := 46) X (ws' := [(z, .inr (10, [.int (nI 5), .int (nI 0), .long za, .long zb, .ref z4, .ref z5, .ref z6, .int (nI el), .int (nI be), .ref z9, .ref z10, .ref z11, .ref z12, .int (b2i gz), .ref z14, .ref z15, .ref z16, .int (nI mm), .int (nI tt), .ref z19, .ref z20, .ref z21, .ref z22, .ref z23, .int (nI gm), .ref z25, .ref z26, .ref z27, .ref z28, .int (nI rn), .ref z30, .ref z31, .ref z32])), kI G z10 192 (nF le), kI G z11 192 (nF lb)]) [0] rfl (j_rV X (b := z) (As := [.int (nI 5)]) (ci := 10) (rest := []) 1 (mX10_no l G z z4 z5 z6 z9 z10 z11 z12 z14 z15 z16 z19 z20 z21 z22 z23 z25 z26 z27 z28 z30 z31 z32 0 0 za zb el be gz mm tt gm rn 5 ) gX10_like_X10_no rfl rfl rfl (by decide +kernel) ⟨Nat.le_of_ble_eq_true rfl, Nat.le_of_ble_eq_true rfl⟩ rfl rfl 0 rfl [0] rfl rfl rfl (Nat.le_of_ble_eq_true rfl) dX10_like_46 ⟨Nat.le_of_ble_eq_true rfl, Nat.le_of_ble_eq_true rfl⟩) rfl rfl ?_
          have hs : sLike el be le lb (nI j) (nI k) by_ mu = (false, 5, le, lb) := by first | (simp [sLike, inC, tN, hq_j, hq_k, c_15, c_23, c_34, c_41]; done) | (simp [sLike, inC, c_15, c_23, c_34, c_41]; done)
          refine j_zret (pc := 49) X (b2i_nar _) dX10_like_49 ?_
          rw [hs]; exact ⟨rfl, rfl⟩
    · skip
      refine j_aload_n (pc := 26) X dX10_like_26 rfl 0 rfl ?_
      refine j_iconst (pc := 27) X (v := nI 2) dX10_like_27 (by decide) ?_
      refine j_ci (pc := 28) X (ws' := [(z, .inr (10, [.int (nI 2), .int (nI 0), .long za, .long zb, .ref z4, .ref z5, .ref z6, .int (nI el), .int (nI be), .ref z9, .ref z10, .ref z11, .ref z12, .int (b2i gz), .ref z14, .ref z15, .ref z16, .int (nI mm), .int (nI tt), .ref z19, .ref z20, .ref z21, .ref z22, .ref z23, .int (nI gm), .ref z25, .ref z26, .ref z27, .ref z28, .int (nI rn), .ref z30, .ref z31, .ref z32])), kI G z10 192 (nF le), kI G z11 192 (nF lb)]) [0] rfl (j_rV X (b := z) (As := [.int (nI 2)]) (ci := 10) (rest := []) 1 (mX10_no l G z z4 z5 z6 z9 z10 z11 z12 z14 z15 z16 z19 z20 z21 z22 z23 z25 z26 z27 z28 z30 z31 z32 0 0 za zb el be gz mm tt gm rn 2 ) gX10_like_X10_no rfl rfl rfl (by decide +kernel) ⟨Nat.le_of_ble_eq_true rfl, Nat.le_of_ble_eq_true rfl⟩ rfl rfl 0 rfl [0] rfl rfl rfl (Nat.le_of_ble_eq_true rfl) dX10_like_28 ⟨Nat.le_of_ble_eq_true rfl, Nat.le_of_ble_eq_true rfl⟩) rfl rfl ?_
      have hs : sLike el be le lb (nI j) w by_ mu = (false, 2, le, lb) := by first | (simp [sLike, inC, tN, hq_j, c_15, c_23]; done) | (simp [sLike, inC, c_15, c_23]; done)
      refine j_zret (pc := 31) X (b2i_nar _) dX10_like_31 ?_
      rw [hs]; exact ⟨rfl, rfl⟩

set_option maxHeartbeats 4000000 in
set_option maxRecDepth 100000 in
theorem mX10_bar (l : Launch) (G : jG) (z : Nat) (z4 : Nat) (z5 : Nat) (z6 : Nat) (z9 : Nat) (z10 : Nat) (z11 : Nat) (z12 : Nat) (z14 : Nat) (z15 : Nat) (z16 : Nat) (z19 : Nat) (z20 : Nat) (z21 : Nat) (z22 : Nat) (z23 : Nat) (z25 : Nat) (z26 : Nat) (z27 : Nat) (z28 : Nat) (z30 : Nat) (z31 : Nat) (z32 : Nat) (st : Nat) (th : Nat) (za : Int64) (zb : Int64) (el : Nat) (be : Nat) (gz : Bool) (mm : Nat) (tt : Nat) (gm : Nat) (rn : Nat) (br : Nat → Bool) (x : Int32) (w : Int32) (is_ : Bool) (hel : el ≤ 12) (hbe : be ≤ 16) : MV l yX10_bar wsX10_bar ({ frames := 1, cells := 0, slots := 0, locals := 21 }) G [.ref z, .int x, .int w, .int (b2i is_)] [(z, .inr (10, [.int (nI st), .int (nI th), .long za, .long zb, .ref z4, .ref z5, .ref z6, .int (nI el), .int (nI be), .ref z9, .ref z10, .ref z11, .ref z12, .int (b2i gz), .ref z14, .ref z15, .ref z16, .int (nI mm), .int (nI tt), .ref z19, .ref z20, .ref z21, .ref z22, .ref z23, .int (nI gm), .ref z25, .ref z26, .ref z27, .ref z28, .int (nI rn), .ref z30, .ref z31, .ref z32])), kZ G z12 192 (bF br)] (some (.int (b2i ((sBar el be br x w is_).1)))) [(z, .inr (10, [.int (nI ((sBar el be br x w is_).2.1)), .int (nI 0), .long za, .long zb, .ref z4, .ref z5, .ref z6, .int (nI el), .int (nI be), .ref z9, .ref z10, .ref z11, .ref z12, .int (b2i gz), .ref z14, .ref z15, .ref z16, .int (nI mm), .int (nI tt), .ref z19, .ref z20, .ref z21, .ref z22, .ref z23, .int (nI gm), .ref z25, .ref z26, .ref z27, .ref z28, .int (nI rn), .ref z30, .ref z31, .ref z32])), kZ G z12 192 (bF ((sBar el be br x w is_).2.2))] := by
  refine MF.ofJ (cc := cX10_bar) (maxL := 4) (ret := (some .boolean)) (own := RX10) (lv := [(0, .ref z), (1, .int x), (2, .int w), (3, .int (b2i is_))]) (by decide) rfl rfl (Nat.le_of_ble_eq_true rfl) rfl ?_
  intro κ X
  have i_X10 : ∀ w ∈ wsX100, w ∈ wsX10_bar := by decide +kernel
  refine j_aload_n (pc := 0) X dX10_bar_0 rfl 0 rfl ?_
  refine j_iconst (pc := 1) X (v := nI 0) dX10_bar_1 (by decide) ?_
  refine j_put (pc := 2) X (v := .int (nI 0)) (ws' := [(z, .inr (10, [.int (nI st), .int (nI 0), .long za, .long zb, .ref z4, .ref z5, .ref z6, .int (nI el), .int (nI be), .ref z9, .ref z10, .ref z11, .ref z12, .int (b2i gz), .ref z14, .ref z15, .ref z16, .int (nI mm), .int (nI tt), .ref z19, .ref z20, .ref z21, .ref z22, .ref z23, .int (nI gm), .ref z25, .ref z26, .ref z27, .ref z28, .int (nI rn), .ref z30, .ref z31, .ref z32])), kZ G z12 192 (bF br)]) 10 i_X10 tyX10 tyX10_ok nmX10 0 rfl rfl 1 (by decide) (by decide +kernel) (by decide) (rfl) (rfl) (Nat.le_of_ble_eq_true rfl) dX10_bar_2 rfl ?_
  refine j_aload_n (pc := 5) X dX10_bar_5 rfl 0 rfl ?_
  refine j_iconst (pc := 6) X (v := nI 0) dX10_bar_6 (by decide) ?_
  refine j_put (pc := 7) X (v := .int (nI 0)) (ws' := [(z, .inr (10, [.int (nI 0), .int (nI 0), .long za, .long zb, .ref z4, .ref z5, .ref z6, .int (nI el), .int (nI be), .ref z9, .ref z10, .ref z11, .ref z12, .int (b2i gz), .ref z14, .ref z15, .ref z16, .int (nI mm), .int (nI tt), .ref z19, .ref z20, .ref z21, .ref z22, .ref z23, .int (nI gm), .ref z25, .ref z26, .ref z27, .ref z28, .int (nI rn), .ref z30, .ref z31, .ref z32])), kZ G z12 192 (bF br)]) 10 i_X10 tyX10 tyX10_ok nmX10 0 rfl rfl 0 (by decide) (by decide +kernel) (by decide) (rfl) (rfl) (Nat.le_of_ble_eq_true rfl) dX10_bar_7 rfl ?_
  refine j_aload_n (pc := 10) X dX10_bar_10 rfl 0 rfl ?_
  refine j_iload_n (pc := 11) X dX10_bar_11 rfl 1 rfl ?_
  refine j_ciP (pc := 12) X [0] rfl (j_rV X (b := z) (As := [.int x]) (ci := 10) (rest := []) 1 (mX10_isElder l G z z4 z5 z6 z9 z10 z11 z12 z14 z15 z16 z19 z20 z21 z22 z23 z25 z26 z27 z28 z30 z31 z32 0 0 za zb el be gz mm tt gm rn x ) gX10_bar_X10_isElder rfl rfl rfl (by decide +kernel) ⟨Nat.le_of_ble_eq_true rfl, Nat.le_of_ble_eq_true rfl⟩ rfl rfl 0 rfl [0] rfl rfl rfl (Nat.le_of_ble_eq_true rfl) dX10_bar_12 ⟨Nat.le_of_ble_eq_true rfl, Nat.le_of_ble_eq_true rfl⟩) ?_
  refine j_ifb_eq (pc := 15) X (B := inR x el) (tgt := 26) dX10_bar_15 (by decide) (fun c_15 => ?_) (fun c_15 => ?_)
  · skip
    refine j_aload_n (pc := 26) X dX10_bar_26 rfl 0 rfl ?_
    refine j_iconst (pc := 27) X (v := nI 2) dX10_bar_27 (by decide) ?_
    refine j_ci (pc := 28) X (ws' := [(z, .inr (10, [.int (nI 2), .int (nI 0), .long za, .long zb, .ref z4, .ref z5, .ref z6, .int (nI el), .int (nI be), .ref z9, .ref z10, .ref z11, .ref z12, .int (b2i gz), .ref z14, .ref z15, .ref z16, .int (nI mm), .int (nI tt), .ref z19, .ref z20, .ref z21, .ref z22, .ref z23, .int (nI gm), .ref z25, .ref z26, .ref z27, .ref z28, .int (nI rn), .ref z30, .ref z31, .ref z32])), kZ G z12 192 (bF br)]) [0] rfl (j_rV X (b := z) (As := [.int (nI 2)]) (ci := 10) (rest := []) 1 (mX10_no l G z z4 z5 z6 z9 z10 z11 z12 z14 z15 z16 z19 z20 z21 z22 z23 z25 z26 z27 z28 z30 z31 z32 0 0 za zb el be gz mm tt gm rn 2 ) gX10_bar_X10_no rfl rfl rfl (by decide +kernel) ⟨Nat.le_of_ble_eq_true rfl, Nat.le_of_ble_eq_true rfl⟩ rfl rfl 0 rfl [0] rfl rfl rfl (Nat.le_of_ble_eq_true rfl) dX10_bar_28 ⟨Nat.le_of_ble_eq_true rfl, Nat.le_of_ble_eq_true rfl⟩) rfl rfl ?_
    have hs : sBar el be br x w is_ = (false, 2, br) := by first | (simp [sBar, tN, c_15]; done) | (simp [sBar, c_15]; done)
    refine j_zret (pc := 31) X (b2i_nar _) dX10_bar_31 ?_
    rw [hs]; exact ⟨rfl, rfl⟩
  · skip
    obtain ⟨j, hj, rfl⟩ := inR_of c_15 (by omega); have hq_j := nI_clamp (n := j) (by omega)
    refine j_aload_n (pc := 18) X dX10_bar_18 rfl 0 rfl ?_
    refine j_iload_n (pc := 19) X dX10_bar_19 rfl 2 rfl ?_
    refine j_ciP (pc := 20) X [0] rfl (j_rV X (b := z) (As := [.int w]) (ci := 10) (rest := []) 1 (mX10_isBeginner l G z z4 z5 z6 z9 z10 z11 z12 z14 z15 z16 z19 z20 z21 z22 z23 z25 z26 z27 z28 z30 z31 z32 0 0 za zb el be gz mm tt gm rn w ) gX10_bar_X10_isBeginner rfl rfl rfl (by decide +kernel) ⟨Nat.le_of_ble_eq_true rfl, Nat.le_of_ble_eq_true rfl⟩ rfl rfl 0 rfl [0] rfl rfl rfl (Nat.le_of_ble_eq_true rfl) dX10_bar_20 ⟨Nat.le_of_ble_eq_true rfl, Nat.le_of_ble_eq_true rfl⟩) ?_
    refine j_ifb_ne (pc := 23) X (B := inR w be) (tgt := 32) dX10_bar_23 (by decide) (fun c_23 => ?_) (fun c_23 => ?_)
    · skip
      obtain ⟨k, hk, rfl⟩ := inR_of c_23 (by omega); have hq_k := nI_clamp (n := k) (by omega)
      refine j_aload_n (pc := 32) X dX10_bar_32 rfl 0 rfl ?_
      refine j_get (pc := 33) X 10 i_X10 0 rfl rfl 12 (by decide) (by decide +kernel) rfl dX10_bar_33 ?_
      refine j_bipush (pc := 36) X (v := nI 16) dX10_bar_36 (by decide) ?_
      refine j_iload_n (pc := 38) X dX10_bar_38 rfl 1 rfl ?_
      refine j_imul (pc := 39) X dX10_bar_39 ?_
      refine j_topi (z := nI (16 * j)) (pk_mul _ _) ?_
      refine j_iload_n (pc := 40) X dX10_bar_40 rfl 2 rfl ?_
      refine j_iadd (pc := 41) X dX10_bar_41 ?_
      refine j_topi (z := nI (j * 16 + k)) ((nI_add _ _).trans (by rw [Nat.mul_comm])) ?_
      refine j_zald (pc := 42) X 1 rfl (vp_in_nI (by omega) (by decide)) (v := b2i (br (j * 16 + k))) (congrArg (bF br) (nI_clamp (by omega))) dX10_bar_42 ?_
      refine j_iload_n (pc := 43) X dX10_bar_43 rfl 3 rfl ?_
      refine j_icmpB_ne (pc := 44) X (a := (br (j * 16 + k))) (b := is_) (tgt := 54) dX10_bar_44 (by decide) (fun c_44 => ?_) (fun c_44 => ?_)
      · skip
        refine j_aload_n (pc := 54) X dX10_bar_54 rfl 0 rfl ?_
        refine j_get (pc := 55) X 10 i_X10 0 rfl rfl 12 (by decide) (by decide +kernel) rfl dX10_bar_55 ?_
        refine j_bipush (pc := 58) X (v := nI 16) dX10_bar_58 (by decide) ?_
        refine j_iload_n (pc := 60) X dX10_bar_60 rfl 1 rfl ?_
        refine j_imul (pc := 61) X dX10_bar_61 ?_
        refine j_topi (z := nI (16 * j)) (pk_mul _ _) ?_
        refine j_iload_n (pc := 62) X dX10_bar_62 rfl 2 rfl ?_
        refine j_iadd (pc := 63) X dX10_bar_63 ?_
        refine j_topi (z := nI (j * 16 + k)) ((nI_add _ _).trans (by rw [Nat.mul_comm])) ?_
        refine j_iload_n (pc := 64) X dX10_bar_64 rfl 3 rfl ?_
        refine j_zast (pc := 65) X (f2 := (bF (va_up br (j * 16 + k) is_))) (ws' := [(z, .inr (10, [.int (nI 0), .int (nI 0), .long za, .long zb, .ref z4, .ref z5, .ref z6, .int (nI el), .int (nI be), .ref z9, .ref z10, .ref z11, .ref z12, .int (b2i gz), .ref z14, .ref z15, .ref z16, .int (nI mm), .int (nI tt), .ref z19, .ref z20, .ref z21, .ref z22, .ref z23, .int (nI gm), .ref z25, .ref z26, .ref z27, .ref z28, .int (nI rn), .ref z30, .ref z31, .ref z32])), kZ G z12 192 (bF (va_up br (j * 16 + k) is_))]) 1 rfl (vp_in_nI (by omega) (by decide)) dX10_bar_65 (b2i_vnar _) (by rw [nI_clamp (by omega)]; exact bF_up br (j * 16 + k) is_) rfl ?_
        refine j_iconst (pc := 66) X (v := nI 1) dX10_bar_66 (by decide) ?_
        have hs : sBar el be br (nI j) (nI k) is_ = (true, 0, va_up br (j * 16 + k) is_) := by first | (simp [sBar, tN, hq_j, hq_k, c_15, c_23, c_44]; done) | (simp [sBar, c_15, c_23, c_44]; done)
        refine j_zret (pc := 67) X (rfl) dX10_bar_67 ?_
        rw [hs]; exact ⟨rfl, rfl⟩
      · skip
        refine j_aload_n (pc := 47) X dX10_bar_47 rfl 0 rfl ?_
        refine j_bipush (pc := 48) X (v := nI 8) dX10_bar_48 (by decide) ?_
        refine j_ci (pc := 50) X (ws' := [(z, .inr (10, [.int (nI 8), .int (nI 0), .long za, .long zb, .ref z4, .ref z5, .ref z6, .int (nI el), .int (nI be), .ref z9, .ref z10, .ref z11, .ref z12, .int (b2i gz), .ref z14, .ref z15, .ref z16, .int (nI mm), .int (nI tt), .ref z19, .ref z20, .ref z21, .ref z22, .ref z23, .int (nI gm), .ref z25, .ref z26, .ref z27, .ref z28, .int (nI rn), .ref z30, .ref z31, .ref z32])), kZ G z12 192 (bF br)]) [0] rfl (j_rV X (b := z) (As := [.int (nI 8)]) (ci := 10) (rest := []) 1 (mX10_no l G z z4 z5 z6 z9 z10 z11 z12 z14 z15 z16 z19 z20 z21 z22 z23 z25 z26 z27 z28 z30 z31 z32 0 0 za zb el be gz mm tt gm rn 8 ) gX10_bar_X10_no rfl rfl rfl (by decide +kernel) ⟨Nat.le_of_ble_eq_true rfl, Nat.le_of_ble_eq_true rfl⟩ rfl rfl 0 rfl [0] rfl rfl rfl (Nat.le_of_ble_eq_true rfl) dX10_bar_50 ⟨Nat.le_of_ble_eq_true rfl, Nat.le_of_ble_eq_true rfl⟩) rfl rfl ?_
        have hs : sBar el be br (nI j) (nI k) is_ = (false, 8, br) := by first | (simp [sBar, tN, hq_j, hq_k, c_15, c_23, c_44]; done) | (simp [sBar, c_15, c_23, c_44]; done)
        refine j_zret (pc := 53) X (b2i_nar _) dX10_bar_53 ?_
        rw [hs]; exact ⟨rfl, rfl⟩
    · skip
      refine j_aload_n (pc := 26) X dX10_bar_26 rfl 0 rfl ?_
      refine j_iconst (pc := 27) X (v := nI 2) dX10_bar_27 (by decide) ?_
      refine j_ci (pc := 28) X (ws' := [(z, .inr (10, [.int (nI 2), .int (nI 0), .long za, .long zb, .ref z4, .ref z5, .ref z6, .int (nI el), .int (nI be), .ref z9, .ref z10, .ref z11, .ref z12, .int (b2i gz), .ref z14, .ref z15, .ref z16, .int (nI mm), .int (nI tt), .ref z19, .ref z20, .ref z21, .ref z22, .ref z23, .int (nI gm), .ref z25, .ref z26, .ref z27, .ref z28, .int (nI rn), .ref z30, .ref z31, .ref z32])), kZ G z12 192 (bF br)]) [0] rfl (j_rV X (b := z) (As := [.int (nI 2)]) (ci := 10) (rest := []) 1 (mX10_no l G z z4 z5 z6 z9 z10 z11 z12 z14 z15 z16 z19 z20 z21 z22 z23 z25 z26 z27 z28 z30 z31 z32 0 0 za zb el be gz mm tt gm rn 2 ) gX10_bar_X10_no rfl rfl rfl (by decide +kernel) ⟨Nat.le_of_ble_eq_true rfl, Nat.le_of_ble_eq_true rfl⟩ rfl rfl 0 rfl [0] rfl rfl rfl (Nat.le_of_ble_eq_true rfl) dX10_bar_28 ⟨Nat.le_of_ble_eq_true rfl, Nat.le_of_ble_eq_true rfl⟩) rfl rfl ?_
      have hs : sBar el be br (nI j) w is_ = (false, 2, br) := by first | (simp [sBar, tN, hq_j, c_15, c_23]; done) | (simp [sBar, c_15, c_23]; done)
      refine j_zret (pc := 31) X (b2i_nar _) dX10_bar_31 ?_
      rw [hs]; exact ⟨rfl, rfl⟩

set_option maxHeartbeats 4000000 in
set_option maxRecDepth 100000 in
theorem mX10_elderOf (l : Launch) (G : jG) (z : Nat) (z4 : Nat) (z5 : Nat) (z6 : Nat) (z9 : Nat) (z10 : Nat) (z11 : Nat) (z12 : Nat) (z14 : Nat) (z15 : Nat) (z16 : Nat) (z19 : Nat) (z20 : Nat) (z21 : Nat) (z22 : Nat) (z23 : Nat) (z25 : Nat) (z26 : Nat) (z27 : Nat) (z28 : Nat) (z30 : Nat) (z31 : Nat) (z32 : Nat) (st : Nat) (th : Nat) (za : Int64) (zb : Int64) (el : Nat) (be : Nat) (gz : Bool) (mm : Nat) (tt : Nat) (gm : Nat) (rn : Nat) (gi : Nat → Option Nat) (x : Int32) (hbe : be ≤ 16) (hgi : ∀ k, ob 12 (gi k)) : MV l yX10_elderOf wsX10_elderOf ({ frames := 1, cells := 0, slots := 0, locals := 21 }) G [.ref z, .int x] [(z, .inr (10, [.int (nI st), .int (nI th), .long za, .long zb, .ref z4, .ref z5, .ref z6, .int (nI el), .int (nI be), .ref z9, .ref z10, .ref z11, .ref z12, .int (b2i gz), .ref z14, .ref z15, .ref z16, .int (nI mm), .int (nI tt), .ref z19, .ref z20, .ref z21, .ref z22, .ref z23, .int (nI gm), .ref z25, .ref z26, .ref z27, .ref z28, .int (nI rn), .ref z30, .ref z31, .ref z32])), kI G z14 16 (oF gi)] (some (.int (oI ((sElderOf be gz gi x).1)))) [(z, .inr (10, [.int (nI ((sElderOf be gz gi x).2)), .int (nI 0), .long za, .long zb, .ref z4, .ref z5, .ref z6, .int (nI el), .int (nI be), .ref z9, .ref z10, .ref z11, .ref z12, .int (b2i gz), .ref z14, .ref z15, .ref z16, .int (nI mm), .int (nI tt), .ref z19, .ref z20, .ref z21, .ref z22, .ref z23, .int (nI gm), .ref z25, .ref z26, .ref z27, .ref z28, .int (nI rn), .ref z30, .ref z31, .ref z32])), kI G z14 16 (oF gi)] := by
  refine MF.ofJ (cc := cX10_elderOf) (maxL := 2) (ret := (some .int)) (own := RX10) (lv := [(0, .ref z), (1, .int x)]) (by decide) rfl rfl (Nat.le_of_ble_eq_true rfl) rfl ?_
  intro κ X
  have i_X10 : ∀ w ∈ wsX100, w ∈ wsX10_elderOf := by decide +kernel
  refine j_aload_n (pc := 0) X dX10_elderOf_0 rfl 0 rfl ?_
  refine j_iconst (pc := 1) X (v := nI 0) dX10_elderOf_1 (by decide) ?_
  refine j_put (pc := 2) X (v := .int (nI 0)) (ws' := [(z, .inr (10, [.int (nI st), .int (nI 0), .long za, .long zb, .ref z4, .ref z5, .ref z6, .int (nI el), .int (nI be), .ref z9, .ref z10, .ref z11, .ref z12, .int (b2i gz), .ref z14, .ref z15, .ref z16, .int (nI mm), .int (nI tt), .ref z19, .ref z20, .ref z21, .ref z22, .ref z23, .int (nI gm), .ref z25, .ref z26, .ref z27, .ref z28, .int (nI rn), .ref z30, .ref z31, .ref z32])), kI G z14 16 (oF gi)]) 10 i_X10 tyX10 tyX10_ok nmX10 0 rfl rfl 1 (by decide) (by decide +kernel) (by decide) (rfl) (rfl) (Nat.le_of_ble_eq_true rfl) dX10_elderOf_2 rfl ?_
  refine j_aload_n (pc := 5) X dX10_elderOf_5 rfl 0 rfl ?_
  refine j_iconst (pc := 6) X (v := nI 0) dX10_elderOf_6 (by decide) ?_
  refine j_put (pc := 7) X (v := .int (nI 0)) (ws' := [(z, .inr (10, [.int (nI 0), .int (nI 0), .long za, .long zb, .ref z4, .ref z5, .ref z6, .int (nI el), .int (nI be), .ref z9, .ref z10, .ref z11, .ref z12, .int (b2i gz), .ref z14, .ref z15, .ref z16, .int (nI mm), .int (nI tt), .ref z19, .ref z20, .ref z21, .ref z22, .ref z23, .int (nI gm), .ref z25, .ref z26, .ref z27, .ref z28, .int (nI rn), .ref z30, .ref z31, .ref z32])), kI G z14 16 (oF gi)]) 10 i_X10 tyX10 tyX10_ok nmX10 0 rfl rfl 0 (by decide) (by decide +kernel) (by decide) (rfl) (rfl) (Nat.le_of_ble_eq_true rfl) dX10_elderOf_7 rfl ?_
  refine j_aload_n (pc := 10) X dX10_elderOf_10 rfl 0 rfl ?_
  refine j_iload_n (pc := 11) X dX10_elderOf_11 rfl 1 rfl ?_
  refine j_ciP (pc := 12) X [0] rfl (j_rV X (b := z) (As := [.int x]) (ci := 10) (rest := []) 1 (mX10_isBeginner l G z z4 z5 z6 z9 z10 z11 z12 z14 z15 z16 z19 z20 z21 z22 z23 z25 z26 z27 z28 z30 z31 z32 0 0 za zb el be gz mm tt gm rn x ) gX10_elderOf_X10_isBeginner rfl rfl rfl (by decide +kernel) ⟨Nat.le_of_ble_eq_true rfl, Nat.le_of_ble_eq_true rfl⟩ rfl rfl 0 rfl [0] rfl rfl rfl (Nat.le_of_ble_eq_true rfl) dX10_elderOf_12 ⟨Nat.le_of_ble_eq_true rfl, Nat.le_of_ble_eq_true rfl⟩) ?_
  refine j_ifb_ne (pc := 15) X (B := inR x be) (tgt := 24) dX10_elderOf_15 (by decide) (fun c_15 => ?_) (fun c_15 => ?_)
  · skip
    obtain ⟨j, hj, rfl⟩ := inR_of c_15 (by omega); have hq_j := nI_clamp (n := j) (by omega)
    refine j_aload_n (pc := 24) X dX10_elderOf_24 rfl 0 rfl ?_
    refine j_get (pc := 25) X 10 i_X10 0 rfl rfl 13 (by decide) (by decide +kernel) rfl dX10_elderOf_25 ?_
    refine j_ifb_ne (pc := 28) X (B := gz) (tgt := 38) dX10_elderOf_28 (by decide) (fun c_28 => ?_) (fun c_28 => ?_)
    · skip
      refine j_aload_n (pc := 38) X dX10_elderOf_38 rfl 0 rfl ?_
      refine j_get (pc := 39) X 10 i_X10 0 rfl rfl 14 (by decide) (by decide +kernel) rfl dX10_elderOf_39 ?_
      refine j_iload_n (pc := 42) X dX10_elderOf_42 rfl 1 rfl ?_
      refine j_iald (pc := 43) X 1 rfl (vp_in_nI (by omega) (by decide)) (v := oI (gi j)) (congrArg (oF gi) (nI_clamp (by omega))) dX10_elderOf_43 ?_
      refine j_ifO_ge (pc := 44) X (a := (gi j)) (by first | exact ob_n | exact ob_s (by omega) | exact (hgi _).big (by decide)) (tgt := 56) dX10_elderOf_44 (by decide) (fun c_44 => ?_) (fun c_44 => ?_)
      · skip
        refine j_aload_n (pc := 56) X dX10_elderOf_56 rfl 0 rfl ?_
        refine j_get (pc := 57) X 10 i_X10 0 rfl rfl 14 (by decide) (by decide +kernel) rfl dX10_elderOf_57 ?_
        refine j_iload_n (pc := 60) X dX10_elderOf_60 rfl 1 rfl ?_
        refine j_iald (pc := 61) X 1 rfl (vp_in_nI (by omega) (by decide)) (v := oI (gi j)) (congrArg (oF gi) (nI_clamp (by omega))) dX10_elderOf_61 ?_
        have hs : sElderOf be gz gi (nI j) = (gi j, 0) := by first | (simp [sElderOf, pdF, tN, hq_j, c_15, c_28, c_44]; done) | (simp [sElderOf, pdF, c_15, c_28, c_44]; done)
        refine j_iret (pc := 62) X dX10_elderOf_62 ?_
        rw [hs]; exact ⟨rfl, rfl⟩
      · skip
        refine j_aload_n (pc := 47) X dX10_elderOf_47 rfl 0 rfl ?_
        refine j_bipush (pc := 48) X (v := nI 9) dX10_elderOf_48 (by decide) ?_
        refine j_ci (pc := 50) X (ws' := [(z, .inr (10, [.int (nI 9), .int (nI 0), .long za, .long zb, .ref z4, .ref z5, .ref z6, .int (nI el), .int (nI be), .ref z9, .ref z10, .ref z11, .ref z12, .int (b2i gz), .ref z14, .ref z15, .ref z16, .int (nI mm), .int (nI tt), .ref z19, .ref z20, .ref z21, .ref z22, .ref z23, .int (nI gm), .ref z25, .ref z26, .ref z27, .ref z28, .int (nI rn), .ref z30, .ref z31, .ref z32])), kI G z14 16 (oF gi)]) [0] rfl (j_rV X (b := z) (As := [.int (nI 9)]) (ci := 10) (rest := []) 1 (mX10_refuse l G z z4 z5 z6 z9 z10 z11 z12 z14 z15 z16 z19 z20 z21 z22 z23 z25 z26 z27 z28 z30 z31 z32 0 0 za zb el be gz mm tt gm rn 9 ) gX10_elderOf_X10_refuse rfl rfl rfl (by decide +kernel) ⟨Nat.le_of_ble_eq_true rfl, Nat.le_of_ble_eq_true rfl⟩ rfl rfl 0 rfl [0] rfl rfl rfl (Nat.le_of_ble_eq_true rfl) dX10_elderOf_50 ⟨Nat.le_of_ble_eq_true rfl, Nat.le_of_ble_eq_true rfl⟩) rfl rfl ?_
        refine j_goto (pc := 53) X (tgt := 62) dX10_elderOf_53 (by decide) ?_
        have hs : sElderOf be gz gi (nI j) = (none, 9) := by first | (simp [sElderOf, pdF, tN, hq_j, c_15, c_28, c_44]; done) | (simp [sElderOf, pdF, c_15, c_28, c_44]; done)
        refine j_iret (pc := 62) X dX10_elderOf_62 ?_
        rw [hs]; exact ⟨rfl, rfl⟩
    · skip
      refine j_aload_n (pc := 31) X dX10_elderOf_31 rfl 0 rfl ?_
      refine j_bipush (pc := 32) X (v := nI 10) dX10_elderOf_32 (by decide) ?_
      refine j_ci (pc := 34) X (ws' := [(z, .inr (10, [.int (nI 10), .int (nI 0), .long za, .long zb, .ref z4, .ref z5, .ref z6, .int (nI el), .int (nI be), .ref z9, .ref z10, .ref z11, .ref z12, .int (b2i gz), .ref z14, .ref z15, .ref z16, .int (nI mm), .int (nI tt), .ref z19, .ref z20, .ref z21, .ref z22, .ref z23, .int (nI gm), .ref z25, .ref z26, .ref z27, .ref z28, .int (nI rn), .ref z30, .ref z31, .ref z32])), kI G z14 16 (oF gi)]) [0] rfl (j_rV X (b := z) (As := [.int (nI 10)]) (ci := 10) (rest := []) 1 (mX10_refuse l G z z4 z5 z6 z9 z10 z11 z12 z14 z15 z16 z19 z20 z21 z22 z23 z25 z26 z27 z28 z30 z31 z32 0 0 za zb el be gz mm tt gm rn 10 ) gX10_elderOf_X10_refuse rfl rfl rfl (by decide +kernel) ⟨Nat.le_of_ble_eq_true rfl, Nat.le_of_ble_eq_true rfl⟩ rfl rfl 0 rfl [0] rfl rfl rfl (Nat.le_of_ble_eq_true rfl) dX10_elderOf_34 ⟨Nat.le_of_ble_eq_true rfl, Nat.le_of_ble_eq_true rfl⟩) rfl rfl ?_
      have hs : sElderOf be gz gi (nI j) = (none, 10) := by first | (simp [sElderOf, pdF, tN, hq_j, c_15, c_28]; done) | (simp [sElderOf, pdF, c_15, c_28]; done)
      refine j_iret (pc := 37) X dX10_elderOf_37 ?_
      rw [hs]; exact ⟨rfl, rfl⟩
  · skip
    refine j_aload_n (pc := 18) X dX10_elderOf_18 rfl 0 rfl ?_
    refine j_iconst (pc := 19) X (v := nI 2) dX10_elderOf_19 (by decide) ?_
    refine j_ci (pc := 20) X (ws' := [(z, .inr (10, [.int (nI 2), .int (nI 0), .long za, .long zb, .ref z4, .ref z5, .ref z6, .int (nI el), .int (nI be), .ref z9, .ref z10, .ref z11, .ref z12, .int (b2i gz), .ref z14, .ref z15, .ref z16, .int (nI mm), .int (nI tt), .ref z19, .ref z20, .ref z21, .ref z22, .ref z23, .int (nI gm), .ref z25, .ref z26, .ref z27, .ref z28, .int (nI rn), .ref z30, .ref z31, .ref z32])), kI G z14 16 (oF gi)]) [0] rfl (j_rV X (b := z) (As := [.int (nI 2)]) (ci := 10) (rest := []) 1 (mX10_refuse l G z z4 z5 z6 z9 z10 z11 z12 z14 z15 z16 z19 z20 z21 z22 z23 z25 z26 z27 z28 z30 z31 z32 0 0 za zb el be gz mm tt gm rn 2 ) gX10_elderOf_X10_refuse rfl rfl rfl (by decide +kernel) ⟨Nat.le_of_ble_eq_true rfl, Nat.le_of_ble_eq_true rfl⟩ rfl rfl 0 rfl [0] rfl rfl rfl (Nat.le_of_ble_eq_true rfl) dX10_elderOf_20 ⟨Nat.le_of_ble_eq_true rfl, Nat.le_of_ble_eq_true rfl⟩) rfl rfl ?_
    have hs : sElderOf be gz gi x = (none, 2) := by first | (simp [sElderOf, pdF, tN, c_15]; done) | (simp [sElderOf, pdF, c_15]; done)
    refine j_iret (pc := 23) X dX10_elderOf_23 ?_
    rw [hs]; exact ⟨rfl, rfl⟩

set_option maxHeartbeats 4000000 in
set_option maxRecDepth 100000 in
theorem mX10_has (l : Launch) (G : jG) (z : Nat) (z4 : Nat) (z5 : Nat) (z6 : Nat) (z9 : Nat) (z10 : Nat) (z11 : Nat) (z12 : Nat) (z14 : Nat) (z15 : Nat) (z16 : Nat) (z19 : Nat) (z20 : Nat) (z21 : Nat) (z22 : Nat) (z23 : Nat) (z25 : Nat) (z26 : Nat) (z27 : Nat) (z28 : Nat) (z30 : Nat) (z31 : Nat) (z32 : Nat) (st : Nat) (th : Nat) (za : Int64) (zb : Int64) (el : Nat) (be : Nat) (gz : Bool) (mm : Nat) (tt : Nat) (gm : Nat) (rn : Nat) (gi : Nat → Option Nat) (x : Int32) (hel : el ≤ 12) (hbe : be ≤ 16) (hgi : ∀ k, ob 12 (gi k)) : MV l yX10_has wsX10_has ({ frames := 1, cells := 0, slots := 0, locals := 23 }) G [.ref z, .int x] [(z, .inr (10, [.int (nI st), .int (nI th), .long za, .long zb, .ref z4, .ref z5, .ref z6, .int (nI el), .int (nI be), .ref z9, .ref z10, .ref z11, .ref z12, .int (b2i gz), .ref z14, .ref z15, .ref z16, .int (nI mm), .int (nI tt), .ref z19, .ref z20, .ref z21, .ref z22, .ref z23, .int (nI gm), .ref z25, .ref z26, .ref z27, .ref z28, .int (nI rn), .ref z30, .ref z31, .ref z32])), kI G z14 16 (oF gi)] (some (.int (oI ((sHasM el be gz gi x).1)))) [(z, .inr (10, [.int (nI ((sHasM el be gz gi x).2)), .int (nI 0), .long za, .long zb, .ref z4, .ref z5, .ref z6, .int (nI el), .int (nI be), .ref z9, .ref z10, .ref z11, .ref z12, .int (b2i gz), .ref z14, .ref z15, .ref z16, .int (nI mm), .int (nI tt), .ref z19, .ref z20, .ref z21, .ref z22, .ref z23, .int (nI gm), .ref z25, .ref z26, .ref z27, .ref z28, .int (nI rn), .ref z30, .ref z31, .ref z32])), kI G z14 16 (oF gi)] := by
  refine MF.ofJ (cc := cX10_has) (maxL := 2) (ret := (some .int)) (own := RX10) (lv := [(0, .ref z), (1, .int x)]) (by decide) rfl rfl (Nat.le_of_ble_eq_true rfl) rfl ?_
  intro κ X
  have i_X10 : ∀ w ∈ wsX100, w ∈ wsX10_has := by decide +kernel
  refine j_aload_n (pc := 0) X dX10_has_0 rfl 0 rfl ?_
  refine j_iconst (pc := 1) X (v := nI 0) dX10_has_1 (by decide) ?_
  refine j_put (pc := 2) X (v := .int (nI 0)) (ws' := [(z, .inr (10, [.int (nI st), .int (nI 0), .long za, .long zb, .ref z4, .ref z5, .ref z6, .int (nI el), .int (nI be), .ref z9, .ref z10, .ref z11, .ref z12, .int (b2i gz), .ref z14, .ref z15, .ref z16, .int (nI mm), .int (nI tt), .ref z19, .ref z20, .ref z21, .ref z22, .ref z23, .int (nI gm), .ref z25, .ref z26, .ref z27, .ref z28, .int (nI rn), .ref z30, .ref z31, .ref z32])), kI G z14 16 (oF gi)]) 10 i_X10 tyX10 tyX10_ok nmX10 0 rfl rfl 1 (by decide) (by decide +kernel) (by decide) (rfl) (rfl) (Nat.le_of_ble_eq_true rfl) dX10_has_2 rfl ?_
  refine j_aload_n (pc := 5) X dX10_has_5 rfl 0 rfl ?_
  refine j_iconst (pc := 6) X (v := nI 0) dX10_has_6 (by decide) ?_
  refine j_put (pc := 7) X (v := .int (nI 0)) (ws' := [(z, .inr (10, [.int (nI 0), .int (nI 0), .long za, .long zb, .ref z4, .ref z5, .ref z6, .int (nI el), .int (nI be), .ref z9, .ref z10, .ref z11, .ref z12, .int (b2i gz), .ref z14, .ref z15, .ref z16, .int (nI mm), .int (nI tt), .ref z19, .ref z20, .ref z21, .ref z22, .ref z23, .int (nI gm), .ref z25, .ref z26, .ref z27, .ref z28, .int (nI rn), .ref z30, .ref z31, .ref z32])), kI G z14 16 (oF gi)]) 10 i_X10 tyX10 tyX10_ok nmX10 0 rfl rfl 0 (by decide) (by decide +kernel) (by decide) (rfl) (rfl) (Nat.le_of_ble_eq_true rfl) dX10_has_7 rfl ?_
  refine j_aload_n (pc := 10) X dX10_has_10 rfl 0 rfl ?_
  refine j_iload_n (pc := 11) X dX10_has_11 rfl 1 rfl ?_
  refine j_ciP (pc := 12) X [0] rfl (j_rV X (b := z) (As := [.int x]) (ci := 10) (rest := []) 1 (mX10_isElder l G z z4 z5 z6 z9 z10 z11 z12 z14 z15 z16 z19 z20 z21 z22 z23 z25 z26 z27 z28 z30 z31 z32 0 0 za zb el be gz mm tt gm rn x ) gX10_has_X10_isElder rfl rfl rfl (by decide +kernel) ⟨Nat.le_of_ble_eq_true rfl, Nat.le_of_ble_eq_true rfl⟩ rfl rfl 0 rfl [0] rfl rfl rfl (Nat.le_of_ble_eq_true rfl) dX10_has_12 ⟨Nat.le_of_ble_eq_true rfl, Nat.le_of_ble_eq_true rfl⟩) ?_
  refine j_ifb_ne (pc := 15) X (B := inR x el) (tgt := 24) dX10_has_15 (by decide) (fun c_15 => ?_) (fun c_15 => ?_)
  · skip
    obtain ⟨j, hj, rfl⟩ := inR_of c_15 (by omega); have hq_j := nI_clamp (n := j) (by omega)
    refine j_aload_n (pc := 24) X dX10_has_24 rfl 0 rfl ?_
    refine j_get (pc := 25) X 10 i_X10 0 rfl rfl 13 (by decide) (by decide +kernel) rfl dX10_has_25 ?_
    refine j_ifb_eq (pc := 28) X (B := gz) (tgt := 39) dX10_has_28 (by decide) (fun c_28 => ?_) (fun c_28 => ?_)
    · skip
      refine j_aload_n (pc := 39) X dX10_has_39 rfl 0 rfl ?_
      refine j_bipush (pc := 40) X (v := nI 10) dX10_has_40 (by decide) ?_
      refine j_ci (pc := 42) X (ws' := [(z, .inr (10, [.int (nI 10), .int (nI 0), .long za, .long zb, .ref z4, .ref z5, .ref z6, .int (nI el), .int (nI be), .ref z9, .ref z10, .ref z11, .ref z12, .int (b2i gz), .ref z14, .ref z15, .ref z16, .int (nI mm), .int (nI tt), .ref z19, .ref z20, .ref z21, .ref z22, .ref z23, .int (nI gm), .ref z25, .ref z26, .ref z27, .ref z28, .int (nI rn), .ref z30, .ref z31, .ref z32])), kI G z14 16 (oF gi)]) [0] rfl (j_rV X (b := z) (As := [.int (nI 10)]) (ci := 10) (rest := []) 1 (mX10_refuse l G z z4 z5 z6 z9 z10 z11 z12 z14 z15 z16 z19 z20 z21 z22 z23 z25 z26 z27 z28 z30 z31 z32 0 0 za zb el be gz mm tt gm rn 10 ) gX10_has_X10_refuse rfl rfl rfl (by decide +kernel) ⟨Nat.le_of_ble_eq_true rfl, Nat.le_of_ble_eq_true rfl⟩ rfl rfl 0 rfl [0] rfl rfl rfl (Nat.le_of_ble_eq_true rfl) dX10_has_42 ⟨Nat.le_of_ble_eq_true rfl, Nat.le_of_ble_eq_true rfl⟩) rfl rfl ?_
      have hs : sHasM el be gz gi (nI j) = (none, 10) := by first | (simp [sHasM, tN, hq_j, c_15, c_28]; done) | (simp [sHasM, c_15, c_28]; done)
      refine j_iret (pc := 45) X dX10_has_45 ?_
      rw [hs]; exact ⟨rfl, rfl⟩
    · skip
      refine j_aload_n (pc := 31) X dX10_has_31 rfl 0 rfl ?_
      refine j_iload_n (pc := 32) X dX10_has_32 rfl 1 rfl ?_
      refine j_ciP (pc := 33) X [0, 1] rfl (j_rV X (b := z) (As := [.int (nI j)]) (ci := 10) (rest := []) 1 (mX10_hasOf l G z z4 z5 z6 z9 z10 z11 z12 z14 z15 z16 z19 z20 z21 z22 z23 z25 z26 z27 z28 z30 z31 z32 0 0 za zb el be gz mm tt gm rn gi j (by first | assumption | omega | exact ob_s (by omega) | exact ob_n) (by first | assumption | omega | exact ob_s (by omega) | exact ob_n) (by first | assumption | omega | exact ob_s (by omega) | exact ob_n)) gX10_has_X10_hasOf rfl rfl rfl (by decide +kernel) ⟨Nat.le_of_ble_eq_true rfl, Nat.le_of_ble_eq_true rfl⟩ rfl rfl 0 rfl [0, 1] rfl rfl rfl (Nat.le_of_ble_eq_true rfl) dX10_has_33 ⟨Nat.le_of_ble_eq_true rfl, Nat.le_of_ble_eq_true rfl⟩) ?_
      refine j_goto (pc := 36) X (tgt := 45) dX10_has_36 (by decide) ?_
      have hs : sHasM el be gz gi (nI j) = (some (cntO gi j be), 0) := by first | (simp [sHasM, tN, hq_j, c_15, c_28]; done) | (simp [sHasM, c_15, c_28]; done)
      refine j_iret (pc := 45) X dX10_has_45 ?_
      rw [hs]; exact ⟨rfl, rfl⟩
  · skip
    refine j_aload_n (pc := 18) X dX10_has_18 rfl 0 rfl ?_
    refine j_iconst (pc := 19) X (v := nI 2) dX10_has_19 (by decide) ?_
    refine j_ci (pc := 20) X (ws' := [(z, .inr (10, [.int (nI 2), .int (nI 0), .long za, .long zb, .ref z4, .ref z5, .ref z6, .int (nI el), .int (nI be), .ref z9, .ref z10, .ref z11, .ref z12, .int (b2i gz), .ref z14, .ref z15, .ref z16, .int (nI mm), .int (nI tt), .ref z19, .ref z20, .ref z21, .ref z22, .ref z23, .int (nI gm), .ref z25, .ref z26, .ref z27, .ref z28, .int (nI rn), .ref z30, .ref z31, .ref z32])), kI G z14 16 (oF gi)]) [0] rfl (j_rV X (b := z) (As := [.int (nI 2)]) (ci := 10) (rest := []) 1 (mX10_refuse l G z z4 z5 z6 z9 z10 z11 z12 z14 z15 z16 z19 z20 z21 z22 z23 z25 z26 z27 z28 z30 z31 z32 0 0 za zb el be gz mm tt gm rn 2 ) gX10_has_X10_refuse rfl rfl rfl (by decide +kernel) ⟨Nat.le_of_ble_eq_true rfl, Nat.le_of_ble_eq_true rfl⟩ rfl rfl 0 rfl [0] rfl rfl rfl (Nat.le_of_ble_eq_true rfl) dX10_has_20 ⟨Nat.le_of_ble_eq_true rfl, Nat.le_of_ble_eq_true rfl⟩) rfl rfl ?_
    have hs : sHasM el be gz gi x = (none, 2) := by first | (simp [sHasM, tN, c_15]; done) | (simp [sHasM, c_15]; done)
    refine j_iret (pc := 23) X dX10_has_23 ?_
    rw [hs]; exact ⟨rfl, rfl⟩

set_option maxHeartbeats 4000000 in
set_option maxRecDepth 100000 in
theorem mX10_blocks_L38 (l : Launch) (G : jG) (z : Nat) (z4 : Nat) (z5 : Nat) (z6 : Nat) (z9 : Nat) (z10 : Nat) (z11 : Nat) (z12 : Nat) (z14 : Nat) (z15 : Nat) (z16 : Nat) (z19 : Nat) (z20 : Nat) (z21 : Nat) (z22 : Nat) (z23 : Nat) (z25 : Nat) (z26 : Nat) (z27 : Nat) (z28 : Nat) (z30 : Nat) (z31 : Nat) (z32 : Nat) (st : Nat) (th : Nat) (za : Int64) (zb : Int64) (el : Nat) (be : Nat) (gz : Bool) (mm : Nat) (tt : Nat) (gm : Nat) (rn : Nat) (gi : Nat → Option Nat) (le : Nat → Nat) (lb : Nat → Nat) (br : Nat → Bool) (pl : Nat → Nat) (hgi : ∀ k, ob 12 (gi k)) (hel : el ≤ 12) (hbe : be ≤ 16) (hle : ∀ k, le k ≤ 100) (hlb : ∀ k, lb k ≤ 100) (hpl : ∀ k, pl k ≤ 4) (κ : jK) (X : CX κ l yX10_blocks cX10_blocks 4 RX10 wsX10_blocks (some .int) ({ frames := 3, cells := 0, slots := 0, locals := 71 }) G (va_A [(z, .inr (10, [.int (nI st), .int (nI th), .long za, .long zb, .ref z4, .ref z5, .ref z6, .int (nI el), .int (nI be), .ref z9, .ref z10, .ref z11, .ref z12, .int (b2i gz), .ref z14, .ref z15, .ref z16, .int (nI mm), .int (nI tt), .ref z19, .ref z20, .ref z21, .ref z22, .ref z23, .int (nI gm), .ref z25, .ref z26, .ref z27, .ref z28, .int (nI rn), .ref z30, .ref z31, .ref z32])), kI G z14 16 (oF gi), kI G z10 192 (nF le), kI G z11 192 (nF lb), kZ G z12 192 (bF br), kI G z9 12 (nF pl)] (js κ).heap.size)) (no28 : Nat) (hK28 : ∀ (e : Nat) (he : e ≤ el) (hgz : gz = true) (_ : el - e < no28), JJ κ 4 G (va_A [(z, .inr (10, [.int (nI st), .int (nI th), .long za, .long zb, .ref z4, .ref z5, .ref z6, .int (nI el), .int (nI be), .ref z9, .ref z10, .ref z11, .ref z12, .int (b2i gz), .ref z14, .ref z15, .ref z16, .int (nI mm), .int (nI tt), .ref z19, .ref z20, .ref z21, .ref z22, .ref z23, .int (nI gm), .ref z25, .ref z26, .ref z27, .ref z28, .int (nI rn), .ref z30, .ref z31, .ref z32])), kI G z14 16 (oF gi), kI G z10 192 (nF le), kI G z11 192 (nF lb), kZ G z12 192 (bF br), kI G z9 12 (nF pl)] (js κ).heap.size) 0 0 (jQ κ G [(z, .inr (10, [.int (nI st), .int (nI th), .long za, .long zb, .ref z4, .ref z5, .ref z6, .int (nI el), .int (nI be), .ref z9, .ref z10, .ref z11, .ref z12, .int (b2i gz), .ref z14, .ref z15, .ref z16, .int (nI mm), .int (nI tt), .ref z19, .ref z20, .ref z21, .ref z22, .ref z23, .int (nI gm), .ref z25, .ref z26, .ref z27, .ref z28, .int (nI rn), .ref z30, .ref z31, .ref z32])), kI G z14 16 (oF gi), kI G z10 192 (nF le), kI G z11 192 (nF lb), kZ G z12 192 (bF br), kI G z9 12 (nF pl)] (fun r w' => r = some (.int (oI ((sBlocks gz (mbO pl le lb br gi be el)).1))) ∧ w' = [(z, .inr (10, [.int (nI ((sBlocks gz (mbO pl le lb br gi be el)).2)), .int (nI 0), .long za, .long zb, .ref z4, .ref z5, .ref z6, .int (nI el), .int (nI be), .ref z9, .ref z10, .ref z11, .ref z12, .int (b2i gz), .ref z14, .ref z15, .ref z16, .int (nI mm), .int (nI tt), .ref z19, .ref z20, .ref z21, .ref z22, .ref z23, .int (nI gm), .ref z25, .ref z26, .ref z27, .ref z28, .int (nI rn), .ref z30, .ref z31, .ref z32])), kI G z14 16 (oF gi), kI G z10 192 (nF le), kI G z11 192 (nF lb), kZ G z12 192 (bF br), kI G z9 12 (nF pl)]) 0 0) 28 [(0, .ref z), (1, .int (nI (mbO pl le lb br gi be e))), (2, .int (nI e))] [] [(z, .inr (10, [.int (nI 0), .int (nI 0), .long za, .long zb, .ref z4, .ref z5, .ref z6, .int (nI el), .int (nI be), .ref z9, .ref z10, .ref z11, .ref z12, .int (b2i gz), .ref z14, .ref z15, .ref z16, .int (nI mm), .int (nI tt), .ref z19, .ref z20, .ref z21, .ref z22, .ref z23, .int (nI gm), .ref z25, .ref z26, .ref z27, .ref z28, .int (nI rn), .ref z30, .ref z31, .ref z32])), kI G z14 16 (oF gi), kI G z10 192 (nF le), kI G z11 192 (nF lb), kZ G z12 192 (bF br), kI G z9 12 (nF pl)])  (e : Nat) (he : e ≤ el) (hgz : gz = true) (hm28 : el - e < no28 + 1) : ∀ (fu : Nat) (b : Nat) (hb : b ≤ be) (hee : e < el) (_ : be - b < fu), JJ κ 4 G (va_A [(z, .inr (10, [.int (nI st), .int (nI th), .long za, .long zb, .ref z4, .ref z5, .ref z6, .int (nI el), .int (nI be), .ref z9, .ref z10, .ref z11, .ref z12, .int (b2i gz), .ref z14, .ref z15, .ref z16, .int (nI mm), .int (nI tt), .ref z19, .ref z20, .ref z21, .ref z22, .ref z23, .int (nI gm), .ref z25, .ref z26, .ref z27, .ref z28, .int (nI rn), .ref z30, .ref z31, .ref z32])), kI G z14 16 (oF gi), kI G z10 192 (nF le), kI G z11 192 (nF lb), kZ G z12 192 (bF br), kI G z9 12 (nF pl)] (js κ).heap.size) 0 0 (jQ κ G [(z, .inr (10, [.int (nI st), .int (nI th), .long za, .long zb, .ref z4, .ref z5, .ref z6, .int (nI el), .int (nI be), .ref z9, .ref z10, .ref z11, .ref z12, .int (b2i gz), .ref z14, .ref z15, .ref z16, .int (nI mm), .int (nI tt), .ref z19, .ref z20, .ref z21, .ref z22, .ref z23, .int (nI gm), .ref z25, .ref z26, .ref z27, .ref z28, .int (nI rn), .ref z30, .ref z31, .ref z32])), kI G z14 16 (oF gi), kI G z10 192 (nF le), kI G z11 192 (nF lb), kZ G z12 192 (bF br), kI G z9 12 (nF pl)] (fun r w' => r = some (.int (oI ((sBlocks gz (mbO pl le lb br gi be el)).1))) ∧ w' = [(z, .inr (10, [.int (nI ((sBlocks gz (mbO pl le lb br gi be el)).2)), .int (nI 0), .long za, .long zb, .ref z4, .ref z5, .ref z6, .int (nI el), .int (nI be), .ref z9, .ref z10, .ref z11, .ref z12, .int (b2i gz), .ref z14, .ref z15, .ref z16, .int (nI mm), .int (nI tt), .ref z19, .ref z20, .ref z21, .ref z22, .ref z23, .int (nI gm), .ref z25, .ref z26, .ref z27, .ref z28, .int (nI rn), .ref z30, .ref z31, .ref z32])), kI G z14 16 (oF gi), kI G z10 192 (nF le), kI G z11 192 (nF lb), kZ G z12 192 (bF br), kI G z9 12 (nF pl)]) 0 0) 38 [(0, .ref z), (1, .int (nI (mbO pl le lb br gi be e + mbI pl le lb br gi be e b))), (2, .int (nI e)), (3, .int (nI b))] [] [(z, .inr (10, [.int (nI 0), .int (nI 0), .long za, .long zb, .ref z4, .ref z5, .ref z6, .int (nI el), .int (nI be), .ref z9, .ref z10, .ref z11, .ref z12, .int (b2i gz), .ref z14, .ref z15, .ref z16, .int (nI mm), .int (nI tt), .ref z19, .ref z20, .ref z21, .ref z22, .ref z23, .int (nI gm), .ref z25, .ref z26, .ref z27, .ref z28, .int (nI rn), .ref z30, .ref z31, .ref z32])), kI G z14 16 (oF gi), kI G z10 192 (nF le), kI G z11 192 (nF lb), kZ G z12 192 (bF br), kI G z9 12 (nF pl)] := by
  have i_X10 : ∀ w ∈ wsX100, w ∈ wsX10_blocks := by decide +kernel
  intro fu
  induction fu with
  | zero => intro b hb hee hms; exact absurd hms (Nat.not_lt_zero _)
  | succ fu ih =>
    intro b hb hee hms
    refine j_iload_n (pc := 38) X dX10_blocks_38 rfl 3 rfl ?_
    refine j_aload_n (pc := 39) X dX10_blocks_39 rfl 0 rfl ?_
    refine j_get (pc := 40) X 10 i_X10 0 rfl rfl 8 (by decide) (by decide +kernel) rfl dX10_blocks_40 ?_
    refine j_icmpN_ge (pc := 43) X (a := b) (b := be) (by omega) (by omega) (tgt := 69) dX10_blocks_43 (by decide) (fun c_43 => ?_) (fun c_43 => ?_)
    · skip
      refine j_iinc (pc := 69) X (v := nI (e + 1)) (lv' := [(2, .int (nI (e + 1))), (0, .ref z), (1, .int (nI (mbO pl le lb br gi be e + mbI pl le lb br gi be e b))), (3, .int (nI b))]) dX10_blocks_69 2 rfl (nI_1 _) (by decide) rfl ?_
      refine j_goto (pc := 72) X (tgt := 28) dX10_blocks_72 (by decide) ?_
      refine j_lv [1, 2, 0] (lv' := [(0, .ref z), (1, .int (nI (mbO pl le lb br gi be e + mbI pl le lb br gi be e b))), (2, .int (nI (e + 1)))]) rfl ?_
      refine j_lvq (lv' := [(0, .ref z), (1, .int (nI (mbO pl le lb br gi be (e + 1)))), (2, .int (nI (e + 1)))]) ?_ ?_
      · first | rfl | (rw [show (mbO pl le lb br gi be e + mbI pl le lb br gi be e b) = mbO pl le lb br gi be (e + 1) from by (rw [show b = be by omega]; rfl)])
      exact hK28 (e + 1) (by omega) (by first | exact hgz | exact c_14) (by omega)
    · skip
      refine j_iload_n (pc := 46) X dX10_blocks_46 rfl 1 rfl ?_
      refine j_aload_n (pc := 47) X dX10_blocks_47 rfl 0 rfl ?_
      refine j_iload_n (pc := 48) X dX10_blocks_48 rfl 2 rfl ?_
      refine j_iload_n (pc := 49) X dX10_blocks_49 rfl 3 rfl ?_
      refine j_ciP (pc := 50) X [0, 1, 2, 3, 4, 5] rfl (j_rV X (b := z) (As := [.int (nI e), .int (nI b)]) (ci := 10) (rest := [.int (nI (mbO pl le lb br gi be e + mbI pl le lb br gi be e b))]) 2 (mX10_isBlock l G z z4 z5 z6 z9 z10 z11 z12 z14 z15 z16 z19 z20 z21 z22 z23 z25 z26 z27 z28 z30 z31 z32 0 0 za zb el be gz mm tt gm rn gi le lb br pl e b (by first | assumption | omega | exact ob_s (by omega) | exact ob_n) (by first | assumption | omega | exact ob_s (by omega) | exact ob_n) (by first | assumption | omega | exact ob_s (by omega) | exact ob_n) (by first | assumption | omega | exact ob_s (by omega) | exact ob_n) (by first | assumption | omega | exact ob_s (by omega) | exact ob_n) (by first | assumption | omega | exact ob_s (by omega) | exact ob_n) (by first | assumption | omega | exact ob_s (by omega) | exact ob_n) (by first | assumption | omega | exact ob_s (by omega) | exact ob_n)) gX10_blocks_X10_isBlock rfl rfl rfl (by decide +kernel) ⟨Nat.le_of_ble_eq_true rfl, Nat.le_of_ble_eq_true rfl⟩ rfl rfl 0 rfl [0, 1, 2, 3, 4, 5] rfl rfl rfl (Nat.le_of_ble_eq_true rfl) dX10_blocks_50 ⟨Nat.le_of_ble_eq_true rfl, Nat.le_of_ble_eq_true rfl⟩) ?_
      refine j_ifb_eq (pc := 53) X (B := blkM pl le lb br gi be e b) (tgt := 60) dX10_blocks_53 (by decide) (fun c_53 => ?_) (fun c_53 => ?_)
      · skip
        refine j_iconst (pc := 60) X (v := nI 0) dX10_blocks_60 (by decide) ?_
        refine j_iadd (pc := 61) X dX10_blocks_61 ?_
        refine j_topi (z := nI (mbO pl le lb br gi be e + mbI pl le lb br gi be e b + 0)) (nI_add _ _) ?_
        refine j_istore_n (pc := 62) X (lv' := [(1, .int (nI (mbO pl le lb br gi be e + mbI pl le lb br gi be e b + 0))), (0, .ref z), (2, .int (nI e)), (3, .int (nI b))]) dX10_blocks_62 rfl (by decide) rfl ?_
        refine j_iinc (pc := 63) X (v := nI (b + 1)) (lv' := [(3, .int (nI (b + 1))), (1, .int (nI (mbO pl le lb br gi be e + mbI pl le lb br gi be e b + 0))), (0, .ref z), (2, .int (nI e))]) dX10_blocks_63 3 rfl (nI_1 _) (by decide) rfl ?_
        refine j_goto (pc := 66) X (tgt := 38) dX10_blocks_66 (by decide) ?_
        refine j_lv [2, 1, 3, 0] (lv' := [(0, .ref z), (1, .int (nI (mbO pl le lb br gi be e + mbI pl le lb br gi be e b + 0))), (2, .int (nI e)), (3, .int (nI (b + 1)))]) rfl ?_
        refine j_lvq (lv' := [(0, .ref z), (1, .int (nI (mbO pl le lb br gi be e + mbI pl le lb br gi be e (b + 1)))), (2, .int (nI e)), (3, .int (nI (b + 1)))]) ?_ ?_
        · rw [show (mbO pl le lb br gi be e + mbI pl le lb br gi be e b + 0) = mbO pl le lb br gi be e + mbI pl le lb br gi be e (b + 1) from by (simp only [mbI]; simp [c_43, c_53]; try omega)]
        exact ih (b + 1) (by omega) (by omega) (by omega)
      · skip
        refine j_iconst (pc := 56) X (v := nI 1) dX10_blocks_56 (by decide) ?_
        refine j_goto (pc := 57) X (tgt := 61) dX10_blocks_57 (by decide) ?_
        refine j_iadd (pc := 61) X dX10_blocks_61 ?_
        refine j_topi (z := nI (mbO pl le lb br gi be e + mbI pl le lb br gi be e b + 1)) (nI_add _ _) ?_
        refine j_istore_n (pc := 62) X (lv' := [(1, .int (nI (mbO pl le lb br gi be e + mbI pl le lb br gi be e b + 1))), (0, .ref z), (2, .int (nI e)), (3, .int (nI b))]) dX10_blocks_62 rfl (by decide) rfl ?_
        refine j_iinc (pc := 63) X (v := nI (b + 1)) (lv' := [(3, .int (nI (b + 1))), (1, .int (nI (mbO pl le lb br gi be e + mbI pl le lb br gi be e b + 1))), (0, .ref z), (2, .int (nI e))]) dX10_blocks_63 3 rfl (nI_1 _) (by decide) rfl ?_
        refine j_goto (pc := 66) X (tgt := 38) dX10_blocks_66 (by decide) ?_
        refine j_lv [2, 1, 3, 0] (lv' := [(0, .ref z), (1, .int (nI (mbO pl le lb br gi be e + mbI pl le lb br gi be e b + 1))), (2, .int (nI e)), (3, .int (nI (b + 1)))]) rfl ?_
        refine j_lvq (lv' := [(0, .ref z), (1, .int (nI (mbO pl le lb br gi be e + mbI pl le lb br gi be e (b + 1)))), (2, .int (nI e)), (3, .int (nI (b + 1)))]) ?_ ?_
        · rw [show (mbO pl le lb br gi be e + mbI pl le lb br gi be e b + 1) = mbO pl le lb br gi be e + mbI pl le lb br gi be e (b + 1) from by (simp only [mbI]; simp [c_43, c_53]; try omega)]
        exact ih (b + 1) (by omega) (by omega) (by omega)
set_option maxHeartbeats 4000000 in
set_option maxRecDepth 100000 in
theorem mX10_blocks_L28 (l : Launch) (G : jG) (z : Nat) (z4 : Nat) (z5 : Nat) (z6 : Nat) (z9 : Nat) (z10 : Nat) (z11 : Nat) (z12 : Nat) (z14 : Nat) (z15 : Nat) (z16 : Nat) (z19 : Nat) (z20 : Nat) (z21 : Nat) (z22 : Nat) (z23 : Nat) (z25 : Nat) (z26 : Nat) (z27 : Nat) (z28 : Nat) (z30 : Nat) (z31 : Nat) (z32 : Nat) (st : Nat) (th : Nat) (za : Int64) (zb : Int64) (el : Nat) (be : Nat) (gz : Bool) (mm : Nat) (tt : Nat) (gm : Nat) (rn : Nat) (gi : Nat → Option Nat) (le : Nat → Nat) (lb : Nat → Nat) (br : Nat → Bool) (pl : Nat → Nat) (hgi : ∀ k, ob 12 (gi k)) (hel : el ≤ 12) (hbe : be ≤ 16) (hle : ∀ k, le k ≤ 100) (hlb : ∀ k, lb k ≤ 100) (hpl : ∀ k, pl k ≤ 4) (κ : jK) (X : CX κ l yX10_blocks cX10_blocks 4 RX10 wsX10_blocks (some .int) ({ frames := 3, cells := 0, slots := 0, locals := 71 }) G (va_A [(z, .inr (10, [.int (nI st), .int (nI th), .long za, .long zb, .ref z4, .ref z5, .ref z6, .int (nI el), .int (nI be), .ref z9, .ref z10, .ref z11, .ref z12, .int (b2i gz), .ref z14, .ref z15, .ref z16, .int (nI mm), .int (nI tt), .ref z19, .ref z20, .ref z21, .ref z22, .ref z23, .int (nI gm), .ref z25, .ref z26, .ref z27, .ref z28, .int (nI rn), .ref z30, .ref z31, .ref z32])), kI G z14 16 (oF gi), kI G z10 192 (nF le), kI G z11 192 (nF lb), kZ G z12 192 (bF br), kI G z9 12 (nF pl)] (js κ).heap.size))    : ∀ (fu : Nat) (e : Nat) (he : e ≤ el) (hgz : gz = true) (_ : el - e < fu), JJ κ 4 G (va_A [(z, .inr (10, [.int (nI st), .int (nI th), .long za, .long zb, .ref z4, .ref z5, .ref z6, .int (nI el), .int (nI be), .ref z9, .ref z10, .ref z11, .ref z12, .int (b2i gz), .ref z14, .ref z15, .ref z16, .int (nI mm), .int (nI tt), .ref z19, .ref z20, .ref z21, .ref z22, .ref z23, .int (nI gm), .ref z25, .ref z26, .ref z27, .ref z28, .int (nI rn), .ref z30, .ref z31, .ref z32])), kI G z14 16 (oF gi), kI G z10 192 (nF le), kI G z11 192 (nF lb), kZ G z12 192 (bF br), kI G z9 12 (nF pl)] (js κ).heap.size) 0 0 (jQ κ G [(z, .inr (10, [.int (nI st), .int (nI th), .long za, .long zb, .ref z4, .ref z5, .ref z6, .int (nI el), .int (nI be), .ref z9, .ref z10, .ref z11, .ref z12, .int (b2i gz), .ref z14, .ref z15, .ref z16, .int (nI mm), .int (nI tt), .ref z19, .ref z20, .ref z21, .ref z22, .ref z23, .int (nI gm), .ref z25, .ref z26, .ref z27, .ref z28, .int (nI rn), .ref z30, .ref z31, .ref z32])), kI G z14 16 (oF gi), kI G z10 192 (nF le), kI G z11 192 (nF lb), kZ G z12 192 (bF br), kI G z9 12 (nF pl)] (fun r w' => r = some (.int (oI ((sBlocks gz (mbO pl le lb br gi be el)).1))) ∧ w' = [(z, .inr (10, [.int (nI ((sBlocks gz (mbO pl le lb br gi be el)).2)), .int (nI 0), .long za, .long zb, .ref z4, .ref z5, .ref z6, .int (nI el), .int (nI be), .ref z9, .ref z10, .ref z11, .ref z12, .int (b2i gz), .ref z14, .ref z15, .ref z16, .int (nI mm), .int (nI tt), .ref z19, .ref z20, .ref z21, .ref z22, .ref z23, .int (nI gm), .ref z25, .ref z26, .ref z27, .ref z28, .int (nI rn), .ref z30, .ref z31, .ref z32])), kI G z14 16 (oF gi), kI G z10 192 (nF le), kI G z11 192 (nF lb), kZ G z12 192 (bF br), kI G z9 12 (nF pl)]) 0 0) 28 [(0, .ref z), (1, .int (nI (mbO pl le lb br gi be e))), (2, .int (nI e))] [] [(z, .inr (10, [.int (nI 0), .int (nI 0), .long za, .long zb, .ref z4, .ref z5, .ref z6, .int (nI el), .int (nI be), .ref z9, .ref z10, .ref z11, .ref z12, .int (b2i gz), .ref z14, .ref z15, .ref z16, .int (nI mm), .int (nI tt), .ref z19, .ref z20, .ref z21, .ref z22, .ref z23, .int (nI gm), .ref z25, .ref z26, .ref z27, .ref z28, .int (nI rn), .ref z30, .ref z31, .ref z32])), kI G z14 16 (oF gi), kI G z10 192 (nF le), kI G z11 192 (nF lb), kZ G z12 192 (bF br), kI G z9 12 (nF pl)] := by
  have i_X10 : ∀ w ∈ wsX100, w ∈ wsX10_blocks := by decide +kernel
  intro fu
  induction fu with
  | zero => intro e he hgz hms; exact absurd hms (Nat.not_lt_zero _)
  | succ fu ih =>
    intro e he hgz hms
    refine j_iload_n (pc := 28) X dX10_blocks_28 rfl 2 rfl ?_
    refine j_aload_n (pc := 29) X dX10_blocks_29 rfl 0 rfl ?_
    refine j_get (pc := 30) X 10 i_X10 0 rfl rfl 7 (by decide) (by decide +kernel) rfl dX10_blocks_30 ?_
    refine j_icmpN_ge (pc := 33) X (a := e) (b := el) (by omega) (by omega) (tgt := 75) dX10_blocks_33 (by decide) (fun c_33 => ?_) (fun c_33 => ?_)
    · skip
      refine j_iload_n (pc := 75) X dX10_blocks_75 rfl 1 rfl ?_
      have hs : sBlocks gz (mbO pl le lb br gi be el) = (some (mbO pl le lb br gi be e), 0) := by rw [show e = el by omega]; simp [sBlocks, hgz]
      refine j_iret (pc := 76) X dX10_blocks_76 ?_
      rw [hs]; exact ⟨rfl, rfl⟩
    · skip
      refine j_iconst (pc := 36) X (v := nI 0) dX10_blocks_36 (by decide) ?_
      refine j_istore_n (pc := 37) X (lv' := [(3, .int (nI 0)), (0, .ref z), (1, .int (nI (mbO pl le lb br gi be e))), (2, .int (nI e))]) dX10_blocks_37 rfl (by decide) rfl ?_
      refine j_lv [1, 2, 3, 0] (lv' := [(0, .ref z), (1, .int (nI (mbO pl le lb br gi be e))), (2, .int (nI e)), (3, .int (nI 0))]) rfl ?_
      refine j_lvq (lv' := [(0, .ref z), (1, .int (nI (mbO pl le lb br gi be e + mbI pl le lb br gi be e 0))), (2, .int (nI e)), (3, .int (nI 0))]) ?_ ?_
      · first | rfl | (rw [show (mbO pl le lb br gi be e) = mbO pl le lb br gi be e + mbI pl le lb br gi be e 0 from by (simp only [mbI]; simp [c_33]; try omega)])
      exact mX10_blocks_L38 l G z z4 z5 z6 z9 z10 z11 z12 z14 z15 z16 z19 z20 z21 z22 z23 z25 z26 z27 z28 z30 z31 z32 st th za zb el be gz mm tt gm rn gi le lb br pl hgi hel hbe hle hlb hpl κ X fu ih e he hgz hms (be - 0 + 1) 0 (by omega) (by omega) (Nat.lt_succ_self _)
set_option maxHeartbeats 4000000 in
set_option maxRecDepth 100000 in
theorem mX10_blocks (l : Launch) (G : jG) (z : Nat) (z4 : Nat) (z5 : Nat) (z6 : Nat) (z9 : Nat) (z10 : Nat) (z11 : Nat) (z12 : Nat) (z14 : Nat) (z15 : Nat) (z16 : Nat) (z19 : Nat) (z20 : Nat) (z21 : Nat) (z22 : Nat) (z23 : Nat) (z25 : Nat) (z26 : Nat) (z27 : Nat) (z28 : Nat) (z30 : Nat) (z31 : Nat) (z32 : Nat) (st : Nat) (th : Nat) (za : Int64) (zb : Int64) (el : Nat) (be : Nat) (gz : Bool) (mm : Nat) (tt : Nat) (gm : Nat) (rn : Nat) (gi : Nat → Option Nat) (le : Nat → Nat) (lb : Nat → Nat) (br : Nat → Bool) (pl : Nat → Nat) (hgi : ∀ k, ob 12 (gi k)) (hel : el ≤ 12) (hbe : be ≤ 16) (hle : ∀ k, le k ≤ 100) (hlb : ∀ k, lb k ≤ 100) (hpl : ∀ k, pl k ≤ 4) : MV l yX10_blocks wsX10_blocks ({ frames := 3, cells := 0, slots := 0, locals := 71 }) G [.ref z] [(z, .inr (10, [.int (nI st), .int (nI th), .long za, .long zb, .ref z4, .ref z5, .ref z6, .int (nI el), .int (nI be), .ref z9, .ref z10, .ref z11, .ref z12, .int (b2i gz), .ref z14, .ref z15, .ref z16, .int (nI mm), .int (nI tt), .ref z19, .ref z20, .ref z21, .ref z22, .ref z23, .int (nI gm), .ref z25, .ref z26, .ref z27, .ref z28, .int (nI rn), .ref z30, .ref z31, .ref z32])), kI G z14 16 (oF gi), kI G z10 192 (nF le), kI G z11 192 (nF lb), kZ G z12 192 (bF br), kI G z9 12 (nF pl)] (some (.int (oI ((sBlocks gz (mbO pl le lb br gi be el)).1)))) [(z, .inr (10, [.int (nI ((sBlocks gz (mbO pl le lb br gi be el)).2)), .int (nI 0), .long za, .long zb, .ref z4, .ref z5, .ref z6, .int (nI el), .int (nI be), .ref z9, .ref z10, .ref z11, .ref z12, .int (b2i gz), .ref z14, .ref z15, .ref z16, .int (nI mm), .int (nI tt), .ref z19, .ref z20, .ref z21, .ref z22, .ref z23, .int (nI gm), .ref z25, .ref z26, .ref z27, .ref z28, .int (nI rn), .ref z30, .ref z31, .ref z32])), kI G z14 16 (oF gi), kI G z10 192 (nF le), kI G z11 192 (nF lb), kZ G z12 192 (bF br), kI G z9 12 (nF pl)] := by
  refine MF.ofJ (cc := cX10_blocks) (maxL := 4) (ret := (some .int)) (own := RX10) (lv := [(0, .ref z)]) (by decide) rfl rfl (Nat.le_of_ble_eq_true rfl) rfl ?_
  intro κ X
  have i_X10 : ∀ w ∈ wsX100, w ∈ wsX10_blocks := by decide +kernel
  refine j_aload_n (pc := 0) X dX10_blocks_0 rfl 0 rfl ?_
  refine j_iconst (pc := 1) X (v := nI 0) dX10_blocks_1 (by decide) ?_
  refine j_put (pc := 2) X (v := .int (nI 0)) (ws' := [(z, .inr (10, [.int (nI st), .int (nI 0), .long za, .long zb, .ref z4, .ref z5, .ref z6, .int (nI el), .int (nI be), .ref z9, .ref z10, .ref z11, .ref z12, .int (b2i gz), .ref z14, .ref z15, .ref z16, .int (nI mm), .int (nI tt), .ref z19, .ref z20, .ref z21, .ref z22, .ref z23, .int (nI gm), .ref z25, .ref z26, .ref z27, .ref z28, .int (nI rn), .ref z30, .ref z31, .ref z32])), kI G z14 16 (oF gi), kI G z10 192 (nF le), kI G z11 192 (nF lb), kZ G z12 192 (bF br), kI G z9 12 (nF pl)]) 10 i_X10 tyX10 tyX10_ok nmX10 0 rfl rfl 1 (by decide) (by decide +kernel) (by decide) (rfl) (rfl) (Nat.le_of_ble_eq_true rfl) dX10_blocks_2 rfl ?_
  refine j_aload_n (pc := 5) X dX10_blocks_5 rfl 0 rfl ?_
  refine j_iconst (pc := 6) X (v := nI 0) dX10_blocks_6 (by decide) ?_
  refine j_put (pc := 7) X (v := .int (nI 0)) (ws' := [(z, .inr (10, [.int (nI 0), .int (nI 0), .long za, .long zb, .ref z4, .ref z5, .ref z6, .int (nI el), .int (nI be), .ref z9, .ref z10, .ref z11, .ref z12, .int (b2i gz), .ref z14, .ref z15, .ref z16, .int (nI mm), .int (nI tt), .ref z19, .ref z20, .ref z21, .ref z22, .ref z23, .int (nI gm), .ref z25, .ref z26, .ref z27, .ref z28, .int (nI rn), .ref z30, .ref z31, .ref z32])), kI G z14 16 (oF gi), kI G z10 192 (nF le), kI G z11 192 (nF lb), kZ G z12 192 (bF br), kI G z9 12 (nF pl)]) 10 i_X10 tyX10 tyX10_ok nmX10 0 rfl rfl 0 (by decide) (by decide +kernel) (by decide) (rfl) (rfl) (Nat.le_of_ble_eq_true rfl) dX10_blocks_7 rfl ?_
  refine j_aload_n (pc := 10) X dX10_blocks_10 rfl 0 rfl ?_
  refine j_get (pc := 11) X 10 i_X10 0 rfl rfl 13 (by decide) (by decide +kernel) rfl dX10_blocks_11 ?_
  refine j_ifb_ne (pc := 14) X (B := gz) (tgt := 24) dX10_blocks_14 (by decide) (fun c_14 => ?_) (fun c_14 => ?_)
  · skip
    refine j_iconst (pc := 24) X (v := nI 0) dX10_blocks_24 (by decide) ?_
    refine j_istore_n (pc := 25) X (lv' := [(1, .int (nI 0)), (0, .ref z)]) dX10_blocks_25 rfl (by decide) rfl ?_
    refine j_iconst (pc := 26) X (v := nI 0) dX10_blocks_26 (by decide) ?_
    refine j_istore_n (pc := 27) X (lv' := [(2, .int (nI 0)), (1, .int (nI 0)), (0, .ref z)]) dX10_blocks_27 rfl (by decide) rfl ?_
    refine j_lv [2, 1, 0] (lv' := [(0, .ref z), (1, .int (nI 0)), (2, .int (nI 0))]) rfl ?_
    refine j_lvq (lv' := [(0, .ref z), (1, .int (nI (mbO pl le lb br gi be 0))), (2, .int (nI 0))]) ?_ ?_
    · first | rfl | (rw [show (0) = mbO pl le lb br gi be 0 from by (rw [show b = be by omega]; rfl)])
    exact mX10_blocks_L28 l G z z4 z5 z6 z9 z10 z11 z12 z14 z15 z16 z19 z20 z21 z22 z23 z25 z26 z27 z28 z30 z31 z32 st th za zb el be gz mm tt gm rn gi le lb br pl hgi hel hbe hle hlb hpl κ X    (el - 0 + 1) 0 (by omega) (by first | exact hgz | exact c_14) (Nat.lt_succ_self _)
  · skip
    refine j_aload_n (pc := 17) X dX10_blocks_17 rfl 0 rfl ?_
    refine j_bipush (pc := 18) X (v := nI 10) dX10_blocks_18 (by decide) ?_
    refine j_ci (pc := 20) X (ws' := [(z, .inr (10, [.int (nI 10), .int (nI 0), .long za, .long zb, .ref z4, .ref z5, .ref z6, .int (nI el), .int (nI be), .ref z9, .ref z10, .ref z11, .ref z12, .int (b2i gz), .ref z14, .ref z15, .ref z16, .int (nI mm), .int (nI tt), .ref z19, .ref z20, .ref z21, .ref z22, .ref z23, .int (nI gm), .ref z25, .ref z26, .ref z27, .ref z28, .int (nI rn), .ref z30, .ref z31, .ref z32])), kI G z14 16 (oF gi), kI G z10 192 (nF le), kI G z11 192 (nF lb), kZ G z12 192 (bF br), kI G z9 12 (nF pl)]) [0] rfl (j_rV X (b := z) (As := [.int (nI 10)]) (ci := 10) (rest := []) 1 (mX10_refuse l G z z4 z5 z6 z9 z10 z11 z12 z14 z15 z16 z19 z20 z21 z22 z23 z25 z26 z27 z28 z30 z31 z32 0 0 za zb el be gz mm tt gm rn 10 ) gX10_blocks_X10_refuse rfl rfl rfl (by decide +kernel) ⟨Nat.le_of_ble_eq_true rfl, Nat.le_of_ble_eq_true rfl⟩ rfl rfl 0 rfl [0] rfl rfl rfl (Nat.le_of_ble_eq_true rfl) dX10_blocks_20 ⟨Nat.le_of_ble_eq_true rfl, Nat.le_of_ble_eq_true rfl⟩) rfl rfl ?_
    have hs : sBlocks gz (mbO pl le lb br gi be el) = (none, 10) := by first | (simp [sBlocks, tN, c_14]; done) | (simp [sBlocks, c_14]; done)
    refine j_iret (pc := 23) X dX10_blocks_23 ?_
    rw [hs]; exact ⟨rfl, rfl⟩

set_option maxHeartbeats 4000000 in
set_option maxRecDepth 100000 in
theorem mX10_block (l : Launch) (G : jG) (z : Nat) (z4 : Nat) (z5 : Nat) (z6 : Nat) (z9 : Nat) (z10 : Nat) (z11 : Nat) (z12 : Nat) (z14 : Nat) (z15 : Nat) (z16 : Nat) (z19 : Nat) (z20 : Nat) (z21 : Nat) (z22 : Nat) (z23 : Nat) (z25 : Nat) (z26 : Nat) (z27 : Nat) (z28 : Nat) (z30 : Nat) (z31 : Nat) (z32 : Nat) (st : Nat) (th : Nat) (za : Int64) (zb : Int64) (el : Nat) (be : Nat) (gz : Bool) (mm : Nat) (tt : Nat) (gm : Nat) (rn : Nat) (gi : Nat → Option Nat) (le : Nat → Nat) (lb : Nat → Nat) (br : Nat → Bool) (pl : Nat → Nat) (x : Int32) (w : Int32) (hgi : ∀ k, ob 12 (gi k)) (hel : el ≤ 12) (hbe : be ≤ 16) (hle : ∀ k, le k ≤ 100) (hlb : ∀ k, lb k ≤ 100) (hpl : ∀ k, pl k ≤ 4) : MV l yX10_block wsX10_block ({ frames := 3, cells := 0, slots := 0, locals := 71 }) G [.ref z, .int x, .int w] [(z, .inr (10, [.int (nI st), .int (nI th), .long za, .long zb, .ref z4, .ref z5, .ref z6, .int (nI el), .int (nI be), .ref z9, .ref z10, .ref z11, .ref z12, .int (b2i gz), .ref z14, .ref z15, .ref z16, .int (nI mm), .int (nI tt), .ref z19, .ref z20, .ref z21, .ref z22, .ref z23, .int (nI gm), .ref z25, .ref z26, .ref z27, .ref z28, .int (nI rn), .ref z30, .ref z31, .ref z32])), kI G z14 16 (oF gi), kI G z10 192 (nF le), kI G z11 192 (nF lb), kZ G z12 192 (bF br), kI G z9 12 (nF pl)] (some (.int (oI ((sBlock el be gz (blkM pl le lb br gi be) x w).1)))) [(z, .inr (10, [.int (nI ((sBlock el be gz (blkM pl le lb br gi be) x w).2)), .int (nI 0), .long za, .long zb, .ref z4, .ref z5, .ref z6, .int (nI el), .int (nI be), .ref z9, .ref z10, .ref z11, .ref z12, .int (b2i gz), .ref z14, .ref z15, .ref z16, .int (nI mm), .int (nI tt), .ref z19, .ref z20, .ref z21, .ref z22, .ref z23, .int (nI gm), .ref z25, .ref z26, .ref z27, .ref z28, .int (nI rn), .ref z30, .ref z31, .ref z32])), kI G z14 16 (oF gi), kI G z10 192 (nF le), kI G z11 192 (nF lb), kZ G z12 192 (bF br), kI G z9 12 (nF pl)] := by
  refine MF.ofJ (cc := cX10_block) (maxL := 3) (ret := (some .int)) (own := RX10) (lv := [(0, .ref z), (1, .int x), (2, .int w)]) (by decide) rfl rfl (Nat.le_of_ble_eq_true rfl) rfl ?_
  intro κ X
  have i_X10 : ∀ w ∈ wsX100, w ∈ wsX10_block := by decide +kernel
  refine j_aload_n (pc := 0) X dX10_block_0 rfl 0 rfl ?_
  refine j_iconst (pc := 1) X (v := nI 0) dX10_block_1 (by decide) ?_
  refine j_put (pc := 2) X (v := .int (nI 0)) (ws' := [(z, .inr (10, [.int (nI st), .int (nI 0), .long za, .long zb, .ref z4, .ref z5, .ref z6, .int (nI el), .int (nI be), .ref z9, .ref z10, .ref z11, .ref z12, .int (b2i gz), .ref z14, .ref z15, .ref z16, .int (nI mm), .int (nI tt), .ref z19, .ref z20, .ref z21, .ref z22, .ref z23, .int (nI gm), .ref z25, .ref z26, .ref z27, .ref z28, .int (nI rn), .ref z30, .ref z31, .ref z32])), kI G z14 16 (oF gi), kI G z10 192 (nF le), kI G z11 192 (nF lb), kZ G z12 192 (bF br), kI G z9 12 (nF pl)]) 10 i_X10 tyX10 tyX10_ok nmX10 0 rfl rfl 1 (by decide) (by decide +kernel) (by decide) (rfl) (rfl) (Nat.le_of_ble_eq_true rfl) dX10_block_2 rfl ?_
  refine j_aload_n (pc := 5) X dX10_block_5 rfl 0 rfl ?_
  refine j_iconst (pc := 6) X (v := nI 0) dX10_block_6 (by decide) ?_
  refine j_put (pc := 7) X (v := .int (nI 0)) (ws' := [(z, .inr (10, [.int (nI 0), .int (nI 0), .long za, .long zb, .ref z4, .ref z5, .ref z6, .int (nI el), .int (nI be), .ref z9, .ref z10, .ref z11, .ref z12, .int (b2i gz), .ref z14, .ref z15, .ref z16, .int (nI mm), .int (nI tt), .ref z19, .ref z20, .ref z21, .ref z22, .ref z23, .int (nI gm), .ref z25, .ref z26, .ref z27, .ref z28, .int (nI rn), .ref z30, .ref z31, .ref z32])), kI G z14 16 (oF gi), kI G z10 192 (nF le), kI G z11 192 (nF lb), kZ G z12 192 (bF br), kI G z9 12 (nF pl)]) 10 i_X10 tyX10 tyX10_ok nmX10 0 rfl rfl 0 (by decide) (by decide +kernel) (by decide) (rfl) (rfl) (Nat.le_of_ble_eq_true rfl) dX10_block_7 rfl ?_
  refine j_aload_n (pc := 10) X dX10_block_10 rfl 0 rfl ?_
  refine j_iload_n (pc := 11) X dX10_block_11 rfl 1 rfl ?_
  refine j_ciP (pc := 12) X [0] rfl (j_rV X (b := z) (As := [.int x]) (ci := 10) (rest := []) 1 (mX10_isElder l G z z4 z5 z6 z9 z10 z11 z12 z14 z15 z16 z19 z20 z21 z22 z23 z25 z26 z27 z28 z30 z31 z32 0 0 za zb el be gz mm tt gm rn x ) gX10_block_X10_isElder rfl rfl rfl (by decide +kernel) ⟨Nat.le_of_ble_eq_true rfl, Nat.le_of_ble_eq_true rfl⟩ rfl rfl 0 rfl [0] rfl rfl rfl (Nat.le_of_ble_eq_true rfl) dX10_block_12 ⟨Nat.le_of_ble_eq_true rfl, Nat.le_of_ble_eq_true rfl⟩) ?_
  refine j_ifb_eq (pc := 15) X (B := inR x el) (tgt := 26) dX10_block_15 (by decide) (fun c_15 => ?_) (fun c_15 => ?_)
  · skip
    refine j_aload_n (pc := 26) X dX10_block_26 rfl 0 rfl ?_
    refine j_iconst (pc := 27) X (v := nI 2) dX10_block_27 (by decide) ?_
    refine j_ci (pc := 28) X (ws' := [(z, .inr (10, [.int (nI 2), .int (nI 0), .long za, .long zb, .ref z4, .ref z5, .ref z6, .int (nI el), .int (nI be), .ref z9, .ref z10, .ref z11, .ref z12, .int (b2i gz), .ref z14, .ref z15, .ref z16, .int (nI mm), .int (nI tt), .ref z19, .ref z20, .ref z21, .ref z22, .ref z23, .int (nI gm), .ref z25, .ref z26, .ref z27, .ref z28, .int (nI rn), .ref z30, .ref z31, .ref z32])), kI G z14 16 (oF gi), kI G z10 192 (nF le), kI G z11 192 (nF lb), kZ G z12 192 (bF br), kI G z9 12 (nF pl)]) [0] rfl (j_rV X (b := z) (As := [.int (nI 2)]) (ci := 10) (rest := []) 1 (mX10_refuse l G z z4 z5 z6 z9 z10 z11 z12 z14 z15 z16 z19 z20 z21 z22 z23 z25 z26 z27 z28 z30 z31 z32 0 0 za zb el be gz mm tt gm rn 2 ) gX10_block_X10_refuse rfl rfl rfl (by decide +kernel) ⟨Nat.le_of_ble_eq_true rfl, Nat.le_of_ble_eq_true rfl⟩ rfl rfl 0 rfl [0] rfl rfl rfl (Nat.le_of_ble_eq_true rfl) dX10_block_28 ⟨Nat.le_of_ble_eq_true rfl, Nat.le_of_ble_eq_true rfl⟩) rfl rfl ?_
    have hs : sBlock el be gz (blkM pl le lb br gi be) x w = (none, 2) := by first | (simp [sBlock, tN, c_15]; done) | (simp [sBlock, c_15]; done)
    refine j_iret (pc := 31) X dX10_block_31 ?_
    rw [hs]; exact ⟨rfl, rfl⟩
  · skip
    obtain ⟨j, hj, rfl⟩ := inR_of c_15 (by omega); have hq_j := nI_clamp (n := j) (by omega)
    refine j_aload_n (pc := 18) X dX10_block_18 rfl 0 rfl ?_
    refine j_iload_n (pc := 19) X dX10_block_19 rfl 2 rfl ?_
    refine j_ciP (pc := 20) X [0] rfl (j_rV X (b := z) (As := [.int w]) (ci := 10) (rest := []) 1 (mX10_isBeginner l G z z4 z5 z6 z9 z10 z11 z12 z14 z15 z16 z19 z20 z21 z22 z23 z25 z26 z27 z28 z30 z31 z32 0 0 za zb el be gz mm tt gm rn w ) gX10_block_X10_isBeginner rfl rfl rfl (by decide +kernel) ⟨Nat.le_of_ble_eq_true rfl, Nat.le_of_ble_eq_true rfl⟩ rfl rfl 0 rfl [0] rfl rfl rfl (Nat.le_of_ble_eq_true rfl) dX10_block_20 ⟨Nat.le_of_ble_eq_true rfl, Nat.le_of_ble_eq_true rfl⟩) ?_
    refine j_ifb_ne (pc := 23) X (B := inR w be) (tgt := 32) dX10_block_23 (by decide) (fun c_23 => ?_) (fun c_23 => ?_)
    · skip
      obtain ⟨k, hk, rfl⟩ := inR_of c_23 (by omega); have hq_k := nI_clamp (n := k) (by omega)
      refine j_aload_n (pc := 32) X dX10_block_32 rfl 0 rfl ?_
      refine j_get (pc := 33) X 10 i_X10 0 rfl rfl 13 (by decide) (by decide +kernel) rfl dX10_block_33 ?_
      refine j_ifb_ne (pc := 36) X (B := gz) (tgt := 46) dX10_block_36 (by decide) (fun c_36 => ?_) (fun c_36 => ?_)
      · skip
        refine j_aload_n (pc := 46) X dX10_block_46 rfl 0 rfl ?_
        refine j_iload_n (pc := 47) X dX10_block_47 rfl 1 rfl ?_
        refine j_iload_n (pc := 48) X dX10_block_48 rfl 2 rfl ?_
        refine j_ciP (pc := 49) X [0, 1, 2, 3, 4, 5] rfl (j_rV X (b := z) (As := [.int (nI j), .int (nI k)]) (ci := 10) (rest := []) 2 (mX10_isBlock l G z z4 z5 z6 z9 z10 z11 z12 z14 z15 z16 z19 z20 z21 z22 z23 z25 z26 z27 z28 z30 z31 z32 0 0 za zb el be gz mm tt gm rn gi le lb br pl j k (by first | assumption | omega | exact ob_s (by omega) | exact ob_n) (by first | assumption | omega | exact ob_s (by omega) | exact ob_n) (by first | assumption | omega | exact ob_s (by omega) | exact ob_n) (by first | assumption | omega | exact ob_s (by omega) | exact ob_n) (by first | assumption | omega | exact ob_s (by omega) | exact ob_n) (by first | assumption | omega | exact ob_s (by omega) | exact ob_n) (by first | assumption | omega | exact ob_s (by omega) | exact ob_n) (by first | assumption | omega | exact ob_s (by omega) | exact ob_n)) gX10_block_X10_isBlock rfl rfl rfl (by decide +kernel) ⟨Nat.le_of_ble_eq_true rfl, Nat.le_of_ble_eq_true rfl⟩ rfl rfl 0 rfl [0, 1, 2, 3, 4, 5] rfl rfl rfl (Nat.le_of_ble_eq_true rfl) dX10_block_49 ⟨Nat.le_of_ble_eq_true rfl, Nat.le_of_ble_eq_true rfl⟩) ?_
        refine j_ifb_eq (pc := 52) X (B := blkM pl le lb br gi be j k) (tgt := 59) dX10_block_52 (by decide) (fun c_52 => ?_) (fun c_52 => ?_)
        · skip
          refine j_iconst (pc := 59) X (v := nI 0) dX10_block_59 (by decide) ?_
          have hs : sBlock el be gz (blkM pl le lb br gi be) (nI j) (nI k) = (some 0, 0) := by first | (simp [sBlock, tN, hq_j, hq_k, c_15, c_23, c_36, c_52]; done) | (simp [sBlock, c_15, c_23, c_36, c_52]; done)
          refine j_iret (pc := 60) X dX10_block_60 ?_
          rw [hs]; exact ⟨rfl, rfl⟩
        · skip
          refine j_iconst (pc := 55) X (v := nI 1) dX10_block_55 (by decide) ?_
          refine j_goto (pc := 56) X (tgt := 60) dX10_block_56 (by decide) ?_
          have hs : sBlock el be gz (blkM pl le lb br gi be) (nI j) (nI k) = (some 1, 0) := by first | (simp [sBlock, tN, hq_j, hq_k, c_15, c_23, c_36, c_52]; done) | (simp [sBlock, c_15, c_23, c_36, c_52]; done)
          refine j_iret (pc := 60) X dX10_block_60 ?_
          rw [hs]; exact ⟨rfl, rfl⟩
      · skip
        refine j_aload_n (pc := 39) X dX10_block_39 rfl 0 rfl ?_
        refine j_bipush (pc := 40) X (v := nI 10) dX10_block_40 (by decide) ?_
        refine j_ci (pc := 42) X (ws' := [(z, .inr (10, [.int (nI 10), .int (nI 0), .long za, .long zb, .ref z4, .ref z5, .ref z6, .int (nI el), .int (nI be), .ref z9, .ref z10, .ref z11, .ref z12, .int (b2i gz), .ref z14, .ref z15, .ref z16, .int (nI mm), .int (nI tt), .ref z19, .ref z20, .ref z21, .ref z22, .ref z23, .int (nI gm), .ref z25, .ref z26, .ref z27, .ref z28, .int (nI rn), .ref z30, .ref z31, .ref z32])), kI G z14 16 (oF gi), kI G z10 192 (nF le), kI G z11 192 (nF lb), kZ G z12 192 (bF br), kI G z9 12 (nF pl)]) [0] rfl (j_rV X (b := z) (As := [.int (nI 10)]) (ci := 10) (rest := []) 1 (mX10_refuse l G z z4 z5 z6 z9 z10 z11 z12 z14 z15 z16 z19 z20 z21 z22 z23 z25 z26 z27 z28 z30 z31 z32 0 0 za zb el be gz mm tt gm rn 10 ) gX10_block_X10_refuse rfl rfl rfl (by decide +kernel) ⟨Nat.le_of_ble_eq_true rfl, Nat.le_of_ble_eq_true rfl⟩ rfl rfl 0 rfl [0] rfl rfl rfl (Nat.le_of_ble_eq_true rfl) dX10_block_42 ⟨Nat.le_of_ble_eq_true rfl, Nat.le_of_ble_eq_true rfl⟩) rfl rfl ?_
        have hs : sBlock el be gz (blkM pl le lb br gi be) (nI j) (nI k) = (none, 10) := by first | (simp [sBlock, tN, hq_j, hq_k, c_15, c_23, c_36]; done) | (simp [sBlock, c_15, c_23, c_36]; done)
        refine j_iret (pc := 45) X dX10_block_45 ?_
        rw [hs]; exact ⟨rfl, rfl⟩
    · skip
      refine j_aload_n (pc := 26) X dX10_block_26 rfl 0 rfl ?_
      refine j_iconst (pc := 27) X (v := nI 2) dX10_block_27 (by decide) ?_
      refine j_ci (pc := 28) X (ws' := [(z, .inr (10, [.int (nI 2), .int (nI 0), .long za, .long zb, .ref z4, .ref z5, .ref z6, .int (nI el), .int (nI be), .ref z9, .ref z10, .ref z11, .ref z12, .int (b2i gz), .ref z14, .ref z15, .ref z16, .int (nI mm), .int (nI tt), .ref z19, .ref z20, .ref z21, .ref z22, .ref z23, .int (nI gm), .ref z25, .ref z26, .ref z27, .ref z28, .int (nI rn), .ref z30, .ref z31, .ref z32])), kI G z14 16 (oF gi), kI G z10 192 (nF le), kI G z11 192 (nF lb), kZ G z12 192 (bF br), kI G z9 12 (nF pl)]) [0] rfl (j_rV X (b := z) (As := [.int (nI 2)]) (ci := 10) (rest := []) 1 (mX10_refuse l G z z4 z5 z6 z9 z10 z11 z12 z14 z15 z16 z19 z20 z21 z22 z23 z25 z26 z27 z28 z30 z31 z32 0 0 za zb el be gz mm tt gm rn 2 ) gX10_block_X10_refuse rfl rfl rfl (by decide +kernel) ⟨Nat.le_of_ble_eq_true rfl, Nat.le_of_ble_eq_true rfl⟩ rfl rfl 0 rfl [0] rfl rfl rfl (Nat.le_of_ble_eq_true rfl) dX10_block_28 ⟨Nat.le_of_ble_eq_true rfl, Nat.le_of_ble_eq_true rfl⟩) rfl rfl ?_
      have hs : sBlock el be gz (blkM pl le lb br gi be) (nI j) w = (none, 2) := by first | (simp [sBlock, tN, hq_j, c_15, c_23]; done) | (simp [sBlock, c_15, c_23]; done)
      refine j_iret (pc := 31) X dX10_block_31 ?_
      rw [hs]; exact ⟨rfl, rfl⟩

set_option maxHeartbeats 4000000 in
set_option maxRecDepth 100000 in
theorem mX10_meeting (l : Launch) (G : jG) (z : Nat) (z4 : Nat) (z5 : Nat) (z6 : Nat) (z9 : Nat) (z10 : Nat) (z11 : Nat) (z12 : Nat) (z14 : Nat) (z15 : Nat) (z16 : Nat) (z19 : Nat) (z20 : Nat) (z21 : Nat) (z22 : Nat) (z23 : Nat) (z25 : Nat) (z26 : Nat) (z27 : Nat) (z28 : Nat) (z30 : Nat) (z31 : Nat) (z32 : Nat) (st : Nat) (th : Nat) (za : Int64) (zb : Int64) (el : Nat) (be : Nat) (gz : Bool) (mm : Nat) (tt : Nat) (gm : Nat) (rn : Nat) (mb : Nat → Nat) (md : Nat → Nat) (x : Int32) (d : Int32) (hbe : be ≤ 16) (hmm : mm ≤ 100) : MV l yX10_meeting wsX10_meeting ({ frames := 1, cells := 0, slots := 0, locals := 21 }) G [.ref z, .int x, .int d] [(z, .inr (10, [.int (nI st), .int (nI th), .long za, .long zb, .ref z4, .ref z5, .ref z6, .int (nI el), .int (nI be), .ref z9, .ref z10, .ref z11, .ref z12, .int (b2i gz), .ref z14, .ref z15, .ref z16, .int (nI mm), .int (nI tt), .ref z19, .ref z20, .ref z21, .ref z22, .ref z23, .int (nI gm), .ref z25, .ref z26, .ref z27, .ref z28, .int (nI rn), .ref z30, .ref z31, .ref z32])), kI G z19 100 (nF mb), kI G z20 100 (nF md)] (some (.int (oI ((sMeet be mm mb md x d).1)))) [(z, .inr (10, [.int (nI ((sMeet be mm mb md x d).2.1)), .int (nI 0), .long za, .long zb, .ref z4, .ref z5, .ref z6, .int (nI el), .int (nI be), .ref z9, .ref z10, .ref z11, .ref z12, .int (b2i gz), .ref z14, .ref z15, .ref z16, .int (nI ((sMeet be mm mb md x d).2.2.1)), .int (nI tt), .ref z19, .ref z20, .ref z21, .ref z22, .ref z23, .int (nI gm), .ref z25, .ref z26, .ref z27, .ref z28, .int (nI rn), .ref z30, .ref z31, .ref z32])), kI G z19 100 (nF ((sMeet be mm mb md x d).2.2.2.1)), kI G z20 100 (nF ((sMeet be mm mb md x d).2.2.2.2))] := by
  refine MF.ofJ (cc := cX10_meeting) (maxL := 3) (ret := (some .int)) (own := RX10) (lv := [(0, .ref z), (1, .int x), (2, .int d)]) (by decide) rfl rfl (Nat.le_of_ble_eq_true rfl) rfl ?_
  intro κ X
  have i_X10 : ∀ w ∈ wsX100, w ∈ wsX10_meeting := by decide +kernel
  refine j_aload_n (pc := 0) X dX10_meeting_0 rfl 0 rfl ?_
  refine j_iconst (pc := 1) X (v := nI 0) dX10_meeting_1 (by decide) ?_
  refine j_put (pc := 2) X (v := .int (nI 0)) (ws' := [(z, .inr (10, [.int (nI st), .int (nI 0), .long za, .long zb, .ref z4, .ref z5, .ref z6, .int (nI el), .int (nI be), .ref z9, .ref z10, .ref z11, .ref z12, .int (b2i gz), .ref z14, .ref z15, .ref z16, .int (nI mm), .int (nI tt), .ref z19, .ref z20, .ref z21, .ref z22, .ref z23, .int (nI gm), .ref z25, .ref z26, .ref z27, .ref z28, .int (nI rn), .ref z30, .ref z31, .ref z32])), kI G z19 100 (nF mb), kI G z20 100 (nF md)]) 10 i_X10 tyX10 tyX10_ok nmX10 0 rfl rfl 1 (by decide) (by decide +kernel) (by decide) (rfl) (rfl) (Nat.le_of_ble_eq_true rfl) dX10_meeting_2 rfl ?_
  refine j_aload_n (pc := 5) X dX10_meeting_5 rfl 0 rfl ?_
  refine j_iconst (pc := 6) X (v := nI 0) dX10_meeting_6 (by decide) ?_
  refine j_put (pc := 7) X (v := .int (nI 0)) (ws' := [(z, .inr (10, [.int (nI 0), .int (nI 0), .long za, .long zb, .ref z4, .ref z5, .ref z6, .int (nI el), .int (nI be), .ref z9, .ref z10, .ref z11, .ref z12, .int (b2i gz), .ref z14, .ref z15, .ref z16, .int (nI mm), .int (nI tt), .ref z19, .ref z20, .ref z21, .ref z22, .ref z23, .int (nI gm), .ref z25, .ref z26, .ref z27, .ref z28, .int (nI rn), .ref z30, .ref z31, .ref z32])), kI G z19 100 (nF mb), kI G z20 100 (nF md)]) 10 i_X10 tyX10 tyX10_ok nmX10 0 rfl rfl 0 (by decide) (by decide +kernel) (by decide) (rfl) (rfl) (Nat.le_of_ble_eq_true rfl) dX10_meeting_7 rfl ?_
  refine j_aload_n (pc := 10) X dX10_meeting_10 rfl 0 rfl ?_
  refine j_iload_n (pc := 11) X dX10_meeting_11 rfl 1 rfl ?_
  refine j_ciP (pc := 12) X [0] rfl (j_rV X (b := z) (As := [.int x]) (ci := 10) (rest := []) 1 (mX10_isBeginner l G z z4 z5 z6 z9 z10 z11 z12 z14 z15 z16 z19 z20 z21 z22 z23 z25 z26 z27 z28 z30 z31 z32 0 0 za zb el be gz mm tt gm rn x ) gX10_meeting_X10_isBeginner rfl rfl rfl (by decide +kernel) ⟨Nat.le_of_ble_eq_true rfl, Nat.le_of_ble_eq_true rfl⟩ rfl rfl 0 rfl [0] rfl rfl rfl (Nat.le_of_ble_eq_true rfl) dX10_meeting_12 ⟨Nat.le_of_ble_eq_true rfl, Nat.le_of_ble_eq_true rfl⟩) ?_
  refine j_ifb_ne (pc := 15) X (B := inR x be) (tgt := 24) dX10_meeting_15 (by decide) (fun c_15 => ?_) (fun c_15 => ?_)
  · skip
    obtain ⟨j, hj, rfl⟩ := inR_of c_15 (by omega); have hq_j := nI_clamp (n := j) (by omega)
    refine j_iload_n (pc := 24) X dX10_meeting_24 rfl 2 rfl ?_
    refine j_ciP (pc := 25) X [] rfl (j_rS X (As := [.int d]) (rest := []) 1 (mX10_isDay l G d ) gX10_meeting_X10_isDay rfl rfl rfl (by decide +kernel) ⟨Nat.le_of_ble_eq_true rfl, Nat.le_of_ble_eq_true rfl⟩ rfl [] rfl rfl rfl (Nat.le_of_ble_eq_true rfl) dX10_meeting_25 ⟨Nat.le_of_ble_eq_true rfl, Nat.le_of_ble_eq_true rfl⟩) ?_
    refine j_ifb_ne (pc := 28) X (B := inC d 9999) (tgt := 37) dX10_meeting_28 (by decide) (fun c_28 => ?_) (fun c_28 => ?_)
    · skip
      obtain ⟨k, hk, rfl⟩ := inC_of c_28 (by decide); have hq_k := nI_clamp (n := k) (by omega)
      refine j_aload_n (pc := 37) X dX10_meeting_37 rfl 0 rfl ?_
      refine j_get (pc := 38) X 10 i_X10 0 rfl rfl 17 (by decide) (by decide +kernel) rfl dX10_meeting_38 ?_
      refine j_bipush (pc := 41) X (v := nI 100) dX10_meeting_41 (by decide) ?_
      refine j_icmpN_ne (pc := 43) X (a := mm) (b := 100) (by omega) (by omega) (tgt := 53) dX10_meeting_43 (by decide) (fun c_43 => ?_) (fun c_43 => ?_)
      · skip
        have hq_l : mm < 100 := by omega
        refine j_aload_n (pc := 53) X dX10_meeting_53 rfl 0 rfl ?_
        refine j_get (pc := 54) X 10 i_X10 0 rfl rfl 19 (by decide) (by decide +kernel) rfl dX10_meeting_54 ?_
        refine j_aload_n (pc := 57) X dX10_meeting_57 rfl 0 rfl ?_
        refine j_get (pc := 58) X 10 i_X10 0 rfl rfl 17 (by decide) (by decide +kernel) rfl dX10_meeting_58 ?_
        refine j_iload_n (pc := 61) X dX10_meeting_61 rfl 1 rfl ?_
        refine j_iast (pc := 62) X (f2 := (nF (va_up mb mm j))) (ws' := [(z, .inr (10, [.int (nI 0), .int (nI 0), .long za, .long zb, .ref z4, .ref z5, .ref z6, .int (nI el), .int (nI be), .ref z9, .ref z10, .ref z11, .ref z12, .int (b2i gz), .ref z14, .ref z15, .ref z16, .int (nI mm), .int (nI tt), .ref z19, .ref z20, .ref z21, .ref z22, .ref z23, .int (nI gm), .ref z25, .ref z26, .ref z27, .ref z28, .int (nI rn), .ref z30, .ref z31, .ref z32])), kI G z19 100 (nF (va_up mb mm j)), kI G z20 100 (nF md)]) 1 rfl (vp_in_nI (by omega) (by decide)) dX10_meeting_62 (by rw [nI_clamp (by omega)]; exact nF_up mb mm j) rfl ?_
        refine j_aload_n (pc := 63) X dX10_meeting_63 rfl 0 rfl ?_
        refine j_get (pc := 64) X 10 i_X10 0 rfl rfl 20 (by decide) (by decide +kernel) rfl dX10_meeting_64 ?_
        refine j_aload_n (pc := 67) X dX10_meeting_67 rfl 0 rfl ?_
        refine j_get (pc := 68) X 10 i_X10 0 rfl rfl 17 (by decide) (by decide +kernel) rfl dX10_meeting_68 ?_
        refine j_iload_n (pc := 71) X dX10_meeting_71 rfl 2 rfl ?_
        refine j_iast (pc := 72) X (f2 := (nF (va_up md mm k))) (ws' := [(z, .inr (10, [.int (nI 0), .int (nI 0), .long za, .long zb, .ref z4, .ref z5, .ref z6, .int (nI el), .int (nI be), .ref z9, .ref z10, .ref z11, .ref z12, .int (b2i gz), .ref z14, .ref z15, .ref z16, .int (nI mm), .int (nI tt), .ref z19, .ref z20, .ref z21, .ref z22, .ref z23, .int (nI gm), .ref z25, .ref z26, .ref z27, .ref z28, .int (nI rn), .ref z30, .ref z31, .ref z32])), kI G z19 100 (nF (va_up mb mm j)), kI G z20 100 (nF (va_up md mm k))]) 2 rfl (vp_in_nI (by omega) (by decide)) dX10_meeting_72 (by rw [nI_clamp (by omega)]; exact nF_up md mm k) rfl ?_
        refine j_aload_n (pc := 73) X dX10_meeting_73 rfl 0 rfl ?_
        refine j_dup (pc := 74) X dX10_meeting_74 rfl ?_
        refine j_get (pc := 75) X 10 i_X10 0 rfl rfl 17 (by decide) (by decide +kernel) rfl dX10_meeting_75 ?_
        refine j_iconst (pc := 78) X (v := nI 1) dX10_meeting_78 (by decide) ?_
        refine j_iadd (pc := 79) X dX10_meeting_79 ?_
        refine j_topi (z := nI (mm + 1)) (nI_add _ _) ?_
        refine j_put (pc := 80) X (v := .int (nI (mm + 1))) (ws' := [(z, .inr (10, [.int (nI 0), .int (nI 0), .long za, .long zb, .ref z4, .ref z5, .ref z6, .int (nI el), .int (nI be), .ref z9, .ref z10, .ref z11, .ref z12, .int (b2i gz), .ref z14, .ref z15, .ref z16, .int (nI (mm + 1)), .int (nI tt), .ref z19, .ref z20, .ref z21, .ref z22, .ref z23, .int (nI gm), .ref z25, .ref z26, .ref z27, .ref z28, .int (nI rn), .ref z30, .ref z31, .ref z32])), kI G z19 100 (nF (va_up mb mm j)), kI G z20 100 (nF (va_up md mm k))]) 10 i_X10 tyX10 tyX10_ok nmX10 0 rfl rfl 17 (by decide) (by decide +kernel) (by decide) (rfl) (rfl) (Nat.le_of_ble_eq_true rfl) dX10_meeting_80 rfl ?_
        refine j_aload_n (pc := 83) X dX10_meeting_83 rfl 0 rfl ?_
        refine j_get (pc := 84) X 10 i_X10 0 rfl rfl 17 (by decide) (by decide +kernel) rfl dX10_meeting_84 ?_
        refine j_iconst (pc := 87) X (v := nI 1) dX10_meeting_87 (by decide) ?_
        refine j_isub (pc := 88) X dX10_meeting_88 ?_
        refine j_topi (z := nI mm) ((pk_sub (by omega)).trans (by rw [Nat.add_sub_cancel])) ?_
        have hs : sMeet be mm mb md (nI j) (nI k) = (some mm, 0, mm + 1, va_up mb mm j, va_up md mm k) := by first | (simp [sMeet, tN, hq_j, hq_k, hq_l, c_15, c_28, c_43]; done) | (simp [sMeet, c_15, c_28, c_43]; done)
        refine j_iret (pc := 89) X dX10_meeting_89 ?_
        rw [hs]; exact ⟨rfl, rfl⟩
      · skip
        have hq_l : ¬ mm < 100 := by omega
        refine j_aload_n (pc := 46) X dX10_meeting_46 rfl 0 rfl ?_
        refine j_bipush (pc := 47) X (v := nI 7) dX10_meeting_47 (by decide) ?_
        refine j_ci (pc := 49) X (ws' := [(z, .inr (10, [.int (nI 7), .int (nI 0), .long za, .long zb, .ref z4, .ref z5, .ref z6, .int (nI el), .int (nI be), .ref z9, .ref z10, .ref z11, .ref z12, .int (b2i gz), .ref z14, .ref z15, .ref z16, .int (nI mm), .int (nI tt), .ref z19, .ref z20, .ref z21, .ref z22, .ref z23, .int (nI gm), .ref z25, .ref z26, .ref z27, .ref z28, .int (nI rn), .ref z30, .ref z31, .ref z32])), kI G z19 100 (nF mb), kI G z20 100 (nF md)]) [0] rfl (j_rV X (b := z) (As := [.int (nI 7)]) (ci := 10) (rest := []) 1 (mX10_refuse l G z z4 z5 z6 z9 z10 z11 z12 z14 z15 z16 z19 z20 z21 z22 z23 z25 z26 z27 z28 z30 z31 z32 0 0 za zb el be gz mm tt gm rn 7 ) gX10_meeting_X10_refuse rfl rfl rfl (by decide +kernel) ⟨Nat.le_of_ble_eq_true rfl, Nat.le_of_ble_eq_true rfl⟩ rfl rfl 0 rfl [0] rfl rfl rfl (Nat.le_of_ble_eq_true rfl) dX10_meeting_49 ⟨Nat.le_of_ble_eq_true rfl, Nat.le_of_ble_eq_true rfl⟩) rfl rfl ?_
        have hs : sMeet be mm mb md (nI j) (nI k) = (none, 7, mm, mb, md) := by first | (simp [sMeet, tN, hq_j, hq_k, hq_l, c_15, c_28, c_43]; done) | (simp [sMeet, c_15, c_28, c_43]; done)
        refine j_iret (pc := 52) X dX10_meeting_52 ?_
        rw [hs]; exact ⟨rfl, rfl⟩
    · skip
      refine j_aload_n (pc := 31) X dX10_meeting_31 rfl 0 rfl ?_
      refine j_iconst (pc := 32) X (v := nI 5) dX10_meeting_32 (by decide) ?_
      refine j_ci (pc := 33) X (ws' := [(z, .inr (10, [.int (nI 5), .int (nI 0), .long za, .long zb, .ref z4, .ref z5, .ref z6, .int (nI el), .int (nI be), .ref z9, .ref z10, .ref z11, .ref z12, .int (b2i gz), .ref z14, .ref z15, .ref z16, .int (nI mm), .int (nI tt), .ref z19, .ref z20, .ref z21, .ref z22, .ref z23, .int (nI gm), .ref z25, .ref z26, .ref z27, .ref z28, .int (nI rn), .ref z30, .ref z31, .ref z32])), kI G z19 100 (nF mb), kI G z20 100 (nF md)]) [0] rfl (j_rV X (b := z) (As := [.int (nI 5)]) (ci := 10) (rest := []) 1 (mX10_refuse l G z z4 z5 z6 z9 z10 z11 z12 z14 z15 z16 z19 z20 z21 z22 z23 z25 z26 z27 z28 z30 z31 z32 0 0 za zb el be gz mm tt gm rn 5 ) gX10_meeting_X10_refuse rfl rfl rfl (by decide +kernel) ⟨Nat.le_of_ble_eq_true rfl, Nat.le_of_ble_eq_true rfl⟩ rfl rfl 0 rfl [0] rfl rfl rfl (Nat.le_of_ble_eq_true rfl) dX10_meeting_33 ⟨Nat.le_of_ble_eq_true rfl, Nat.le_of_ble_eq_true rfl⟩) rfl rfl ?_
      have hs : sMeet be mm mb md (nI j) d = (none, 5, mm, mb, md) := by first | (simp [sMeet, tN, hq_j, c_15, c_28]; done) | (simp [sMeet, c_15, c_28]; done)
      refine j_iret (pc := 36) X dX10_meeting_36 ?_
      rw [hs]; exact ⟨rfl, rfl⟩
  · skip
    refine j_aload_n (pc := 18) X dX10_meeting_18 rfl 0 rfl ?_
    refine j_iconst (pc := 19) X (v := nI 2) dX10_meeting_19 (by decide) ?_
    refine j_ci (pc := 20) X (ws' := [(z, .inr (10, [.int (nI 2), .int (nI 0), .long za, .long zb, .ref z4, .ref z5, .ref z6, .int (nI el), .int (nI be), .ref z9, .ref z10, .ref z11, .ref z12, .int (b2i gz), .ref z14, .ref z15, .ref z16, .int (nI mm), .int (nI tt), .ref z19, .ref z20, .ref z21, .ref z22, .ref z23, .int (nI gm), .ref z25, .ref z26, .ref z27, .ref z28, .int (nI rn), .ref z30, .ref z31, .ref z32])), kI G z19 100 (nF mb), kI G z20 100 (nF md)]) [0] rfl (j_rV X (b := z) (As := [.int (nI 2)]) (ci := 10) (rest := []) 1 (mX10_refuse l G z z4 z5 z6 z9 z10 z11 z12 z14 z15 z16 z19 z20 z21 z22 z23 z25 z26 z27 z28 z30 z31 z32 0 0 za zb el be gz mm tt gm rn 2 ) gX10_meeting_X10_refuse rfl rfl rfl (by decide +kernel) ⟨Nat.le_of_ble_eq_true rfl, Nat.le_of_ble_eq_true rfl⟩ rfl rfl 0 rfl [0] rfl rfl rfl (Nat.le_of_ble_eq_true rfl) dX10_meeting_20 ⟨Nat.le_of_ble_eq_true rfl, Nat.le_of_ble_eq_true rfl⟩) rfl rfl ?_
    have hs : sMeet be mm mb md x d = (none, 2, mm, mb, md) := by first | (simp [sMeet, tN, c_15]; done) | (simp [sMeet, c_15]; done)
    refine j_iret (pc := 23) X dX10_meeting_23 ?_
    rw [hs]; exact ⟨rfl, rfl⟩

set_option maxHeartbeats 4000000 in
set_option maxRecDepth 100000 in
theorem mX10_tell (l : Launch) (G : jG) (z : Nat) (z4 : Nat) (z5 : Nat) (z6 : Nat) (z9 : Nat) (z10 : Nat) (z11 : Nat) (z12 : Nat) (z14 : Nat) (z15 : Nat) (z16 : Nat) (z19 : Nat) (z20 : Nat) (z21 : Nat) (z22 : Nat) (z23 : Nat) (z25 : Nat) (z26 : Nat) (z27 : Nat) (z28 : Nat) (z30 : Nat) (z31 : Nat) (z32 : Nat) (st : Nat) (th : Nat) (za : Int64) (zb : Int64) (el : Nat) (be : Nat) (gz : Bool) (mm : Nat) (tt : Nat) (gm : Nat) (rn : Nat) (md : Nat → Nat) (tm : Nat → Nat) (td : Nat → Nat) (tk : Nat → Bool) (x : Int32) (d : Int32) (kp : Bool) (hmm : mm ≤ 100) (htt : tt ≤ 200) (hmd : ∀ k, md k < 10000) : MV l yX10_tell wsX10_tell ({ frames := 1, cells := 0, slots := 0, locals := 21 }) G [.ref z, .int x, .int (b2i kp), .int d] [(z, .inr (10, [.int (nI st), .int (nI th), .long za, .long zb, .ref z4, .ref z5, .ref z6, .int (nI el), .int (nI be), .ref z9, .ref z10, .ref z11, .ref z12, .int (b2i gz), .ref z14, .ref z15, .ref z16, .int (nI mm), .int (nI tt), .ref z19, .ref z20, .ref z21, .ref z22, .ref z23, .int (nI gm), .ref z25, .ref z26, .ref z27, .ref z28, .int (nI rn), .ref z30, .ref z31, .ref z32])), kI G z20 100 (nF md), kI G z21 200 (nF tm), kI G z22 200 (nF td), kZ G z23 200 (bF tk)] (some (.int (b2i ((sTell mm tt md tm td tk x kp d).1)))) [(z, .inr (10, [.int (nI ((sTell mm tt md tm td tk x kp d).2.1)), .int (nI 0), .long za, .long zb, .ref z4, .ref z5, .ref z6, .int (nI el), .int (nI be), .ref z9, .ref z10, .ref z11, .ref z12, .int (b2i gz), .ref z14, .ref z15, .ref z16, .int (nI mm), .int (nI ((sTell mm tt md tm td tk x kp d).2.2.1)), .ref z19, .ref z20, .ref z21, .ref z22, .ref z23, .int (nI gm), .ref z25, .ref z26, .ref z27, .ref z28, .int (nI rn), .ref z30, .ref z31, .ref z32])), kI G z20 100 (nF md), kI G z21 200 (nF ((sTell mm tt md tm td tk x kp d).2.2.2.1)), kI G z22 200 (nF ((sTell mm tt md tm td tk x kp d).2.2.2.2.1)), kZ G z23 200 (bF ((sTell mm tt md tm td tk x kp d).2.2.2.2.2))] := by
  refine MF.ofJ (cc := cX10_tell) (maxL := 4) (ret := (some .boolean)) (own := RX10) (lv := [(0, .ref z), (1, .int x), (2, .int (b2i kp)), (3, .int d)]) (by decide) rfl rfl (Nat.le_of_ble_eq_true rfl) rfl ?_
  intro κ X
  have i_X10 : ∀ w ∈ wsX100, w ∈ wsX10_tell := by decide +kernel
  refine j_aload_n (pc := 0) X dX10_tell_0 rfl 0 rfl ?_
  refine j_iconst (pc := 1) X (v := nI 0) dX10_tell_1 (by decide) ?_
  refine j_put (pc := 2) X (v := .int (nI 0)) (ws' := [(z, .inr (10, [.int (nI st), .int (nI 0), .long za, .long zb, .ref z4, .ref z5, .ref z6, .int (nI el), .int (nI be), .ref z9, .ref z10, .ref z11, .ref z12, .int (b2i gz), .ref z14, .ref z15, .ref z16, .int (nI mm), .int (nI tt), .ref z19, .ref z20, .ref z21, .ref z22, .ref z23, .int (nI gm), .ref z25, .ref z26, .ref z27, .ref z28, .int (nI rn), .ref z30, .ref z31, .ref z32])), kI G z20 100 (nF md), kI G z21 200 (nF tm), kI G z22 200 (nF td), kZ G z23 200 (bF tk)]) 10 i_X10 tyX10 tyX10_ok nmX10 0 rfl rfl 1 (by decide) (by decide +kernel) (by decide) (rfl) (rfl) (Nat.le_of_ble_eq_true rfl) dX10_tell_2 rfl ?_
  refine j_aload_n (pc := 5) X dX10_tell_5 rfl 0 rfl ?_
  refine j_iconst (pc := 6) X (v := nI 0) dX10_tell_6 (by decide) ?_
  refine j_put (pc := 7) X (v := .int (nI 0)) (ws' := [(z, .inr (10, [.int (nI 0), .int (nI 0), .long za, .long zb, .ref z4, .ref z5, .ref z6, .int (nI el), .int (nI be), .ref z9, .ref z10, .ref z11, .ref z12, .int (b2i gz), .ref z14, .ref z15, .ref z16, .int (nI mm), .int (nI tt), .ref z19, .ref z20, .ref z21, .ref z22, .ref z23, .int (nI gm), .ref z25, .ref z26, .ref z27, .ref z28, .int (nI rn), .ref z30, .ref z31, .ref z32])), kI G z20 100 (nF md), kI G z21 200 (nF tm), kI G z22 200 (nF td), kZ G z23 200 (bF tk)]) 10 i_X10 tyX10 tyX10_ok nmX10 0 rfl rfl 0 (by decide) (by decide +kernel) (by decide) (rfl) (rfl) (Nat.le_of_ble_eq_true rfl) dX10_tell_7 rfl ?_
  refine j_iload_n (pc := 10) X dX10_tell_10 rfl 1 rfl ?_
  refine j_if_lt (pc := 11) X (x := x) (tgt := 22) dX10_tell_11 (by decide) (fun c_11 => ?_) (fun c_11 => ?_)
  · skip
    refine j_aload_n (pc := 22) X dX10_tell_22 rfl 0 rfl ?_
    refine j_iconst (pc := 23) X (v := nI 2) dX10_tell_23 (by decide) ?_
    refine j_ci (pc := 24) X (ws' := [(z, .inr (10, [.int (nI 2), .int (nI 0), .long za, .long zb, .ref z4, .ref z5, .ref z6, .int (nI el), .int (nI be), .ref z9, .ref z10, .ref z11, .ref z12, .int (b2i gz), .ref z14, .ref z15, .ref z16, .int (nI mm), .int (nI tt), .ref z19, .ref z20, .ref z21, .ref z22, .ref z23, .int (nI gm), .ref z25, .ref z26, .ref z27, .ref z28, .int (nI rn), .ref z30, .ref z31, .ref z32])), kI G z20 100 (nF md), kI G z21 200 (nF tm), kI G z22 200 (nF td), kZ G z23 200 (bF tk)]) [0] rfl (j_rV X (b := z) (As := [.int (nI 2)]) (ci := 10) (rest := []) 1 (mX10_no l G z z4 z5 z6 z9 z10 z11 z12 z14 z15 z16 z19 z20 z21 z22 z23 z25 z26 z27 z28 z30 z31 z32 0 0 za zb el be gz mm tt gm rn 2 ) gX10_tell_X10_no rfl rfl rfl (by decide +kernel) ⟨Nat.le_of_ble_eq_true rfl, Nat.le_of_ble_eq_true rfl⟩ rfl rfl 0 rfl [0] rfl rfl rfl (Nat.le_of_ble_eq_true rfl) dX10_tell_24 ⟨Nat.le_of_ble_eq_true rfl, Nat.le_of_ble_eq_true rfl⟩) rfl rfl ?_
    have hs : sTell mm tt md tm td tk x kp d = (false, 2, tt, tm, td, tk) := by first | (simp [sTell, inR, tN, c_11]; done) | (simp [sTell, inR, c_11]; done)
    refine j_zret (pc := 27) X (b2i_nar _) dX10_tell_27 ?_
    rw [hs]; exact ⟨rfl, rfl⟩
  · skip
    refine j_iload_n (pc := 14) X dX10_tell_14 rfl 1 rfl ?_
    refine j_aload_n (pc := 15) X dX10_tell_15 rfl 0 rfl ?_
    refine j_get (pc := 16) X 10 i_X10 0 rfl rfl 17 (by decide) (by decide +kernel) rfl dX10_tell_16 ?_
    refine j_icmp_lt (pc := 19) X (x := x) (z := nI mm) (tgt := 28) dX10_tell_19 (by decide) (fun c_19 => ?_) (fun c_19 => ?_)
    · skip
      obtain ⟨j, hj, rfl⟩ := rngl_of c_11 c_19 (by omega); have hq_j := nI_clamp (n := j) (by omega)
      refine j_iload_n (pc := 28) X dX10_tell_28 rfl 3 rfl ?_
      refine j_ciP (pc := 29) X [] rfl (j_rS X (As := [.int d]) (rest := []) 1 (mX10_isDay l G d ) gX10_tell_X10_isDay rfl rfl rfl (by decide +kernel) ⟨Nat.le_of_ble_eq_true rfl, Nat.le_of_ble_eq_true rfl⟩ rfl [] rfl rfl rfl (Nat.le_of_ble_eq_true rfl) dX10_tell_29 ⟨Nat.le_of_ble_eq_true rfl, Nat.le_of_ble_eq_true rfl⟩) ?_
      refine j_ifb_eq (pc := 32) X (B := inC d 9999) (tgt := 45) dX10_tell_32 (by decide) (fun c_32 => ?_) (fun c_32 => ?_)
      · skip
        refine j_aload_n (pc := 45) X dX10_tell_45 rfl 0 rfl ?_
        refine j_iconst (pc := 46) X (v := nI 5) dX10_tell_46 (by decide) ?_
        refine j_ci (pc := 47) X (ws' := [(z, .inr (10, [.int (nI 5), .int (nI 0), .long za, .long zb, .ref z4, .ref z5, .ref z6, .int (nI el), .int (nI be), .ref z9, .ref z10, .ref z11, .ref z12, .int (b2i gz), .ref z14, .ref z15, .ref z16, .int (nI mm), .int (nI tt), .ref z19, .ref z20, .ref z21, .ref z22, .ref z23, .int (nI gm), .ref z25, .ref z26, .ref z27, .ref z28, .int (nI rn), .ref z30, .ref z31, .ref z32])), kI G z20 100 (nF md), kI G z21 200 (nF tm), kI G z22 200 (nF td), kZ G z23 200 (bF tk)]) [0] rfl (j_rV X (b := z) (As := [.int (nI 5)]) (ci := 10) (rest := []) 1 (mX10_no l G z z4 z5 z6 z9 z10 z11 z12 z14 z15 z16 z19 z20 z21 z22 z23 z25 z26 z27 z28 z30 z31 z32 0 0 za zb el be gz mm tt gm rn 5 ) gX10_tell_X10_no rfl rfl rfl (by decide +kernel) ⟨Nat.le_of_ble_eq_true rfl, Nat.le_of_ble_eq_true rfl⟩ rfl rfl 0 rfl [0] rfl rfl rfl (Nat.le_of_ble_eq_true rfl) dX10_tell_47 ⟨Nat.le_of_ble_eq_true rfl, Nat.le_of_ble_eq_true rfl⟩) rfl rfl ?_
        have hs : sTell mm tt md tm td tk (nI j) kp d = (false, 5, tt, tm, td, tk) := by first | (simp [sTell, inR, tN, hq_j, c_11, c_19, c_32]; done) | (simp [sTell, inR, c_11, c_19, c_32]; done)
        refine j_zret (pc := 50) X (b2i_nar _) dX10_tell_50 ?_
        rw [hs]; exact ⟨rfl, rfl⟩
      · skip
        obtain ⟨k, hk, rfl⟩ := inC_of c_32 (by decide); have hq_k := nI_clamp (n := k) (by omega)
        refine j_iload_n (pc := 35) X dX10_tell_35 rfl 3 rfl ?_
        refine j_aload_n (pc := 36) X dX10_tell_36 rfl 0 rfl ?_
        refine j_get (pc := 37) X 10 i_X10 0 rfl rfl 20 (by decide) (by decide +kernel) rfl dX10_tell_37 ?_
        refine j_iload_n (pc := 40) X dX10_tell_40 rfl 1 rfl ?_
        refine j_iald (pc := 41) X 1 rfl (vp_in_nI (by omega) (by decide)) (v := nI (md j)) (congrArg (nF md) (nI_clamp (by omega))) dX10_tell_41 ?_
        refine j_icmpN_ge (pc := 42) X (a := k) (b := (md j)) (by first | omega | exact Nat.lt_of_lt_of_le (hmd _) (by decide)) (by first | omega | exact Nat.lt_of_lt_of_le (hmd _) (by decide)) (tgt := 51) dX10_tell_42 (by decide) (fun c_42 => ?_) (fun c_42 => ?_)
        · skip
          refine j_aload_n (pc := 51) X dX10_tell_51 rfl 0 rfl ?_
          refine j_get (pc := 52) X 10 i_X10 0 rfl rfl 18 (by decide) (by decide +kernel) rfl dX10_tell_52 ?_
          refine j_sipush (pc := 55) X (v := nI 200) dX10_tell_55 (by decide) ?_
          refine j_icmpN_ne (pc := 58) X (a := tt) (b := 200) (by first | omega | exact Nat.lt_of_lt_of_le (hmd _) (by decide)) (by first | omega | exact Nat.lt_of_lt_of_le (hmd _) (by decide)) (tgt := 68) dX10_tell_58 (by decide) (fun c_58 => ?_) (fun c_58 => ?_)
          · skip
            have hq_l : tt < 200 := by omega
            refine j_aload_n (pc := 68) X dX10_tell_68 rfl 0 rfl ?_
            refine j_get (pc := 69) X 10 i_X10 0 rfl rfl 21 (by decide) (by decide +kernel) rfl dX10_tell_69 ?_
            refine j_aload_n (pc := 72) X dX10_tell_72 rfl 0 rfl ?_
            refine j_get (pc := 73) X 10 i_X10 0 rfl rfl 18 (by decide) (by decide +kernel) rfl dX10_tell_73 ?_
            refine j_iload_n (pc := 76) X dX10_tell_76 rfl 1 rfl ?_
            refine j_iast (pc := 77) X (f2 := (nF (va_up tm tt j))) (ws' := [(z, .inr (10, [.int (nI 0), .int (nI 0), .long za, .long zb, .ref z4, .ref z5, .ref z6, .int (nI el), .int (nI be), .ref z9, .ref z10, .ref z11, .ref z12, .int (b2i gz), .ref z14, .ref z15, .ref z16, .int (nI mm), .int (nI tt), .ref z19, .ref z20, .ref z21, .ref z22, .ref z23, .int (nI gm), .ref z25, .ref z26, .ref z27, .ref z28, .int (nI rn), .ref z30, .ref z31, .ref z32])), kI G z20 100 (nF md), kI G z21 200 (nF (va_up tm tt j)), kI G z22 200 (nF td), kZ G z23 200 (bF tk)]) 2 rfl (vp_in_nI (by omega) (by decide)) dX10_tell_77 (by rw [nI_clamp (by omega)]; exact nF_up tm tt j) rfl ?_
            refine j_aload_n (pc := 78) X dX10_tell_78 rfl 0 rfl ?_
            refine j_get (pc := 79) X 10 i_X10 0 rfl rfl 22 (by decide) (by decide +kernel) rfl dX10_tell_79 ?_
            refine j_aload_n (pc := 82) X dX10_tell_82 rfl 0 rfl ?_
            refine j_get (pc := 83) X 10 i_X10 0 rfl rfl 18 (by decide) (by decide +kernel) rfl dX10_tell_83 ?_
            refine j_iload_n (pc := 86) X dX10_tell_86 rfl 3 rfl ?_
            refine j_iast (pc := 87) X (f2 := (nF (va_up td tt k))) (ws' := [(z, .inr (10, [.int (nI 0), .int (nI 0), .long za, .long zb, .ref z4, .ref z5, .ref z6, .int (nI el), .int (nI be), .ref z9, .ref z10, .ref z11, .ref z12, .int (b2i gz), .ref z14, .ref z15, .ref z16, .int (nI mm), .int (nI tt), .ref z19, .ref z20, .ref z21, .ref z22, .ref z23, .int (nI gm), .ref z25, .ref z26, .ref z27, .ref z28, .int (nI rn), .ref z30, .ref z31, .ref z32])), kI G z20 100 (nF md), kI G z21 200 (nF (va_up tm tt j)), kI G z22 200 (nF (va_up td tt k)), kZ G z23 200 (bF tk)]) 3 rfl (vp_in_nI (by omega) (by decide)) dX10_tell_87 (by rw [nI_clamp (by omega)]; exact nF_up td tt k) rfl ?_
            refine j_aload_n (pc := 88) X dX10_tell_88 rfl 0 rfl ?_
            refine j_get (pc := 89) X 10 i_X10 0 rfl rfl 23 (by decide) (by decide +kernel) rfl dX10_tell_89 ?_
            refine j_aload_n (pc := 92) X dX10_tell_92 rfl 0 rfl ?_
            refine j_get (pc := 93) X 10 i_X10 0 rfl rfl 18 (by decide) (by decide +kernel) rfl dX10_tell_93 ?_
            refine j_iload_n (pc := 96) X dX10_tell_96 rfl 2 rfl ?_
            refine j_zast (pc := 97) X (f2 := (bF (va_up tk tt kp))) (ws' := [(z, .inr (10, [.int (nI 0), .int (nI 0), .long za, .long zb, .ref z4, .ref z5, .ref z6, .int (nI el), .int (nI be), .ref z9, .ref z10, .ref z11, .ref z12, .int (b2i gz), .ref z14, .ref z15, .ref z16, .int (nI mm), .int (nI tt), .ref z19, .ref z20, .ref z21, .ref z22, .ref z23, .int (nI gm), .ref z25, .ref z26, .ref z27, .ref z28, .int (nI rn), .ref z30, .ref z31, .ref z32])), kI G z20 100 (nF md), kI G z21 200 (nF (va_up tm tt j)), kI G z22 200 (nF (va_up td tt k)), kZ G z23 200 (bF (va_up tk tt kp))]) 4 rfl (vp_in_nI (by omega) (by decide)) dX10_tell_97 (b2i_vnar _) (by rw [nI_clamp (by omega)]; exact bF_up tk tt kp) rfl ?_
            refine j_aload_n (pc := 98) X dX10_tell_98 rfl 0 rfl ?_
            refine j_dup (pc := 99) X dX10_tell_99 rfl ?_
            refine j_get (pc := 100) X 10 i_X10 0 rfl rfl 18 (by decide) (by decide +kernel) rfl dX10_tell_100 ?_
            refine j_iconst (pc := 103) X (v := nI 1) dX10_tell_103 (by decide) ?_
            refine j_iadd (pc := 104) X dX10_tell_104 ?_
            refine j_topi (z := nI (tt + 1)) (nI_add _ _) ?_
            refine j_put (pc := 105) X (v := .int (nI (tt + 1))) (ws' := [(z, .inr (10, [.int (nI 0), .int (nI 0), .long za, .long zb, .ref z4, .ref z5, .ref z6, .int (nI el), .int (nI be), .ref z9, .ref z10, .ref z11, .ref z12, .int (b2i gz), .ref z14, .ref z15, .ref z16, .int (nI mm), .int (nI (tt + 1)), .ref z19, .ref z20, .ref z21, .ref z22, .ref z23, .int (nI gm), .ref z25, .ref z26, .ref z27, .ref z28, .int (nI rn), .ref z30, .ref z31, .ref z32])), kI G z20 100 (nF md), kI G z21 200 (nF (va_up tm tt j)), kI G z22 200 (nF (va_up td tt k)), kZ G z23 200 (bF (va_up tk tt kp))]) 10 i_X10 tyX10 tyX10_ok nmX10 0 rfl rfl 18 (by decide) (by decide +kernel) (by decide) (rfl) (rfl) (Nat.le_of_ble_eq_true rfl) dX10_tell_105 rfl ?_
            refine j_iconst (pc := 108) X (v := nI 1) dX10_tell_108 (by decide) ?_
            have hs : sTell mm tt md tm td tk (nI j) kp (nI k) = (true, 0, tt + 1, va_up tm tt j, va_up td tt k, va_up tk tt kp) := by first | (simp [sTell, inR, tN, hq_j, hq_k, hq_l, c_11, c_19, c_32, c_42, c_58]; done) | (simp [sTell, inR, c_11, c_19, c_32, c_42, c_58]; done)
            refine j_zret (pc := 109) X (rfl) dX10_tell_109 ?_
            rw [hs]; exact ⟨rfl, rfl⟩
          · skip
            have hq_l : ¬ tt < 200 := by omega
            refine j_aload_n (pc := 61) X dX10_tell_61 rfl 0 rfl ?_
            refine j_bipush (pc := 62) X (v := nI 7) dX10_tell_62 (by decide) ?_
            refine j_ci (pc := 64) X (ws' := [(z, .inr (10, [.int (nI 7), .int (nI 0), .long za, .long zb, .ref z4, .ref z5, .ref z6, .int (nI el), .int (nI be), .ref z9, .ref z10, .ref z11, .ref z12, .int (b2i gz), .ref z14, .ref z15, .ref z16, .int (nI mm), .int (nI tt), .ref z19, .ref z20, .ref z21, .ref z22, .ref z23, .int (nI gm), .ref z25, .ref z26, .ref z27, .ref z28, .int (nI rn), .ref z30, .ref z31, .ref z32])), kI G z20 100 (nF md), kI G z21 200 (nF tm), kI G z22 200 (nF td), kZ G z23 200 (bF tk)]) [0] rfl (j_rV X (b := z) (As := [.int (nI 7)]) (ci := 10) (rest := []) 1 (mX10_no l G z z4 z5 z6 z9 z10 z11 z12 z14 z15 z16 z19 z20 z21 z22 z23 z25 z26 z27 z28 z30 z31 z32 0 0 za zb el be gz mm tt gm rn 7 ) gX10_tell_X10_no rfl rfl rfl (by decide +kernel) ⟨Nat.le_of_ble_eq_true rfl, Nat.le_of_ble_eq_true rfl⟩ rfl rfl 0 rfl [0] rfl rfl rfl (Nat.le_of_ble_eq_true rfl) dX10_tell_64 ⟨Nat.le_of_ble_eq_true rfl, Nat.le_of_ble_eq_true rfl⟩) rfl rfl ?_
            have hs : sTell mm tt md tm td tk (nI j) kp (nI k) = (false, 7, tt, tm, td, tk) := by first | (simp [sTell, inR, tN, hq_j, hq_k, hq_l, c_11, c_19, c_32, c_42, c_58]; done) | (simp [sTell, inR, c_11, c_19, c_32, c_42, c_58]; done)
            refine j_zret (pc := 67) X (b2i_nar _) dX10_tell_67 ?_
            rw [hs]; exact ⟨rfl, rfl⟩
        · skip
          refine j_aload_n (pc := 45) X dX10_tell_45 rfl 0 rfl ?_
          refine j_iconst (pc := 46) X (v := nI 5) dX10_tell_46 (by decide) ?_
          refine j_ci (pc := 47) X (ws' := [(z, .inr (10, [.int (nI 5), .int (nI 0), .long za, .long zb, .ref z4, .ref z5, .ref z6, .int (nI el), .int (nI be), .ref z9, .ref z10, .ref z11, .ref z12, .int (b2i gz), .ref z14, .ref z15, .ref z16, .int (nI mm), .int (nI tt), .ref z19, .ref z20, .ref z21, .ref z22, .ref z23, .int (nI gm), .ref z25, .ref z26, .ref z27, .ref z28, .int (nI rn), .ref z30, .ref z31, .ref z32])), kI G z20 100 (nF md), kI G z21 200 (nF tm), kI G z22 200 (nF td), kZ G z23 200 (bF tk)]) [0] rfl (j_rV X (b := z) (As := [.int (nI 5)]) (ci := 10) (rest := []) 1 (mX10_no l G z z4 z5 z6 z9 z10 z11 z12 z14 z15 z16 z19 z20 z21 z22 z23 z25 z26 z27 z28 z30 z31 z32 0 0 za zb el be gz mm tt gm rn 5 ) gX10_tell_X10_no rfl rfl rfl (by decide +kernel) ⟨Nat.le_of_ble_eq_true rfl, Nat.le_of_ble_eq_true rfl⟩ rfl rfl 0 rfl [0] rfl rfl rfl (Nat.le_of_ble_eq_true rfl) dX10_tell_47 ⟨Nat.le_of_ble_eq_true rfl, Nat.le_of_ble_eq_true rfl⟩) rfl rfl ?_
          have hs : sTell mm tt md tm td tk (nI j) kp (nI k) = (false, 5, tt, tm, td, tk) := by first | (simp [sTell, inR, tN, hq_j, hq_k, c_11, c_19, c_32, c_42]; done) | (simp [sTell, inR, c_11, c_19, c_32, c_42]; done)
          refine j_zret (pc := 50) X (b2i_nar _) dX10_tell_50 ?_
          rw [hs]; exact ⟨rfl, rfl⟩
    · skip
      refine j_aload_n (pc := 22) X dX10_tell_22 rfl 0 rfl ?_
      refine j_iconst (pc := 23) X (v := nI 2) dX10_tell_23 (by decide) ?_
      refine j_ci (pc := 24) X (ws' := [(z, .inr (10, [.int (nI 2), .int (nI 0), .long za, .long zb, .ref z4, .ref z5, .ref z6, .int (nI el), .int (nI be), .ref z9, .ref z10, .ref z11, .ref z12, .int (b2i gz), .ref z14, .ref z15, .ref z16, .int (nI mm), .int (nI tt), .ref z19, .ref z20, .ref z21, .ref z22, .ref z23, .int (nI gm), .ref z25, .ref z26, .ref z27, .ref z28, .int (nI rn), .ref z30, .ref z31, .ref z32])), kI G z20 100 (nF md), kI G z21 200 (nF tm), kI G z22 200 (nF td), kZ G z23 200 (bF tk)]) [0] rfl (j_rV X (b := z) (As := [.int (nI 2)]) (ci := 10) (rest := []) 1 (mX10_no l G z z4 z5 z6 z9 z10 z11 z12 z14 z15 z16 z19 z20 z21 z22 z23 z25 z26 z27 z28 z30 z31 z32 0 0 za zb el be gz mm tt gm rn 2 ) gX10_tell_X10_no rfl rfl rfl (by decide +kernel) ⟨Nat.le_of_ble_eq_true rfl, Nat.le_of_ble_eq_true rfl⟩ rfl rfl 0 rfl [0] rfl rfl rfl (Nat.le_of_ble_eq_true rfl) dX10_tell_24 ⟨Nat.le_of_ble_eq_true rfl, Nat.le_of_ble_eq_true rfl⟩) rfl rfl ?_
      have hs : sTell mm tt md tm td tk x kp d = (false, 2, tt, tm, td, tk) := by first | (simp [sTell, inR, tN, c_11, c_19]; done) | (simp [sTell, inR, c_11, c_19]; done)
      refine j_zret (pc := 27) X (b2i_nar _) dX10_tell_27 ?_
      rw [hs]; exact ⟨rfl, rfl⟩

set_option maxHeartbeats 4000000 in
set_option maxRecDepth 100000 in
theorem mX10_goal (l : Launch) (G : jG) (z : Nat) (z4 : Nat) (z5 : Nat) (z6 : Nat) (z9 : Nat) (z10 : Nat) (z11 : Nat) (z12 : Nat) (z14 : Nat) (z15 : Nat) (z16 : Nat) (z19 : Nat) (z20 : Nat) (z21 : Nat) (z22 : Nat) (z23 : Nat) (z25 : Nat) (z26 : Nat) (z27 : Nat) (z28 : Nat) (z30 : Nat) (z31 : Nat) (z32 : Nat) (st : Nat) (th : Nat) (za : Int64) (zb : Int64) (el : Nat) (be : Nat) (gz : Bool) (mm : Nat) (tt : Nat) (gm : Nat) (rn : Nat) (gb : Nat → Nat) (gd : Nat → Nat) (gh : Nat → Option Nat) (gc : Nat → Option Nat) (x : Int32) (d : Int32) (bh : Int32) (hbe : be ≤ 16) (hgm : gm ≤ 40) (hgb : ∀ k, gb k < 16) : MV l yX10_goal wsX10_goal ({ frames := 1, cells := 0, slots := 0, locals := 21 }) G [.ref z, .int x, .int d, .int bh] [(z, .inr (10, [.int (nI st), .int (nI th), .long za, .long zb, .ref z4, .ref z5, .ref z6, .int (nI el), .int (nI be), .ref z9, .ref z10, .ref z11, .ref z12, .int (b2i gz), .ref z14, .ref z15, .ref z16, .int (nI mm), .int (nI tt), .ref z19, .ref z20, .ref z21, .ref z22, .ref z23, .int (nI gm), .ref z25, .ref z26, .ref z27, .ref z28, .int (nI rn), .ref z30, .ref z31, .ref z32])), kI G z25 40 (nF gb), kI G z26 40 (nF gd), kI G z27 40 (oF gh), kI G z28 40 (oF gc)] (some (.int (oI ((sGoal be gm gb gd gh gc x d bh).1)))) [(z, .inr (10, [.int (nI ((sGoal be gm gb gd gh gc x d bh).2.1)), .int (nI 0), .long za, .long zb, .ref z4, .ref z5, .ref z6, .int (nI el), .int (nI be), .ref z9, .ref z10, .ref z11, .ref z12, .int (b2i gz), .ref z14, .ref z15, .ref z16, .int (nI mm), .int (nI tt), .ref z19, .ref z20, .ref z21, .ref z22, .ref z23, .int (nI ((sGoal be gm gb gd gh gc x d bh).2.2.1)), .ref z25, .ref z26, .ref z27, .ref z28, .int (nI rn), .ref z30, .ref z31, .ref z32])), kI G z25 40 (nF ((sGoal be gm gb gd gh gc x d bh).2.2.2.1)), kI G z26 40 (nF ((sGoal be gm gb gd gh gc x d bh).2.2.2.2.1)), kI G z27 40 (oF ((sGoal be gm gb gd gh gc x d bh).2.2.2.2.2.1)), kI G z28 40 (oF ((sGoal be gm gb gd gh gc x d bh).2.2.2.2.2.2))] := by
  refine MF.ofJ (cc := cX10_goal) (maxL := 4) (ret := (some .int)) (own := RX10) (lv := [(0, .ref z), (1, .int x), (2, .int d), (3, .int bh)]) (by decide) rfl rfl (Nat.le_of_ble_eq_true rfl) rfl ?_
  intro κ X
  have i_X10 : ∀ w ∈ wsX100, w ∈ wsX10_goal := by decide +kernel
  refine j_aload_n (pc := 0) X dX10_goal_0 rfl 0 rfl ?_
  refine j_iconst (pc := 1) X (v := nI 0) dX10_goal_1 (by decide) ?_
  refine j_put (pc := 2) X (v := .int (nI 0)) (ws' := [(z, .inr (10, [.int (nI st), .int (nI 0), .long za, .long zb, .ref z4, .ref z5, .ref z6, .int (nI el), .int (nI be), .ref z9, .ref z10, .ref z11, .ref z12, .int (b2i gz), .ref z14, .ref z15, .ref z16, .int (nI mm), .int (nI tt), .ref z19, .ref z20, .ref z21, .ref z22, .ref z23, .int (nI gm), .ref z25, .ref z26, .ref z27, .ref z28, .int (nI rn), .ref z30, .ref z31, .ref z32])), kI G z25 40 (nF gb), kI G z26 40 (nF gd), kI G z27 40 (oF gh), kI G z28 40 (oF gc)]) 10 i_X10 tyX10 tyX10_ok nmX10 0 rfl rfl 1 (by decide) (by decide +kernel) (by decide) (rfl) (rfl) (Nat.le_of_ble_eq_true rfl) dX10_goal_2 rfl ?_
  refine j_aload_n (pc := 5) X dX10_goal_5 rfl 0 rfl ?_
  refine j_iconst (pc := 6) X (v := nI 0) dX10_goal_6 (by decide) ?_
  refine j_put (pc := 7) X (v := .int (nI 0)) (ws' := [(z, .inr (10, [.int (nI 0), .int (nI 0), .long za, .long zb, .ref z4, .ref z5, .ref z6, .int (nI el), .int (nI be), .ref z9, .ref z10, .ref z11, .ref z12, .int (b2i gz), .ref z14, .ref z15, .ref z16, .int (nI mm), .int (nI tt), .ref z19, .ref z20, .ref z21, .ref z22, .ref z23, .int (nI gm), .ref z25, .ref z26, .ref z27, .ref z28, .int (nI rn), .ref z30, .ref z31, .ref z32])), kI G z25 40 (nF gb), kI G z26 40 (nF gd), kI G z27 40 (oF gh), kI G z28 40 (oF gc)]) 10 i_X10 tyX10 tyX10_ok nmX10 0 rfl rfl 0 (by decide) (by decide +kernel) (by decide) (rfl) (rfl) (Nat.le_of_ble_eq_true rfl) dX10_goal_7 rfl ?_
  refine j_aload_n (pc := 10) X dX10_goal_10 rfl 0 rfl ?_
  refine j_iload_n (pc := 11) X dX10_goal_11 rfl 1 rfl ?_
  refine j_ciP (pc := 12) X [0] rfl (j_rV X (b := z) (As := [.int x]) (ci := 10) (rest := []) 1 (mX10_isBeginner l G z z4 z5 z6 z9 z10 z11 z12 z14 z15 z16 z19 z20 z21 z22 z23 z25 z26 z27 z28 z30 z31 z32 0 0 za zb el be gz mm tt gm rn x ) gX10_goal_X10_isBeginner rfl rfl rfl (by decide +kernel) ⟨Nat.le_of_ble_eq_true rfl, Nat.le_of_ble_eq_true rfl⟩ rfl rfl 0 rfl [0] rfl rfl rfl (Nat.le_of_ble_eq_true rfl) dX10_goal_12 ⟨Nat.le_of_ble_eq_true rfl, Nat.le_of_ble_eq_true rfl⟩) ?_
  refine j_ifb_eq (pc := 15) X (B := inR x be) (tgt := 45) dX10_goal_15 (by decide) (fun c_15 => ?_) (fun c_15 => ?_)
  · skip
    refine j_aload_n (pc := 45) X dX10_goal_45 rfl 0 rfl ?_
    refine j_iconst (pc := 46) X (v := nI 2) dX10_goal_46 (by decide) ?_
    refine j_ci (pc := 47) X (ws' := [(z, .inr (10, [.int (nI 2), .int (nI 0), .long za, .long zb, .ref z4, .ref z5, .ref z6, .int (nI el), .int (nI be), .ref z9, .ref z10, .ref z11, .ref z12, .int (b2i gz), .ref z14, .ref z15, .ref z16, .int (nI mm), .int (nI tt), .ref z19, .ref z20, .ref z21, .ref z22, .ref z23, .int (nI gm), .ref z25, .ref z26, .ref z27, .ref z28, .int (nI rn), .ref z30, .ref z31, .ref z32])), kI G z25 40 (nF gb), kI G z26 40 (nF gd), kI G z27 40 (oF gh), kI G z28 40 (oF gc)]) [0] rfl (j_rV X (b := z) (As := [.int (nI 2)]) (ci := 10) (rest := []) 1 (mX10_refuse l G z z4 z5 z6 z9 z10 z11 z12 z14 z15 z16 z19 z20 z21 z22 z23 z25 z26 z27 z28 z30 z31 z32 0 0 za zb el be gz mm tt gm rn 2 ) gX10_goal_X10_refuse rfl rfl rfl (by decide +kernel) ⟨Nat.le_of_ble_eq_true rfl, Nat.le_of_ble_eq_true rfl⟩ rfl rfl 0 rfl [0] rfl rfl rfl (Nat.le_of_ble_eq_true rfl) dX10_goal_47 ⟨Nat.le_of_ble_eq_true rfl, Nat.le_of_ble_eq_true rfl⟩) rfl rfl ?_
    have hs : sGoal be gm gb gd gh gc x d bh = (none, 2, gm, gb, gd, gh, gc) := by first | (simp [sGoal, inR, tN, c_15]; done) | (simp [sGoal, tN, c_15]; done) | (simp [sGoal, c_15]; done)
    refine j_iret (pc := 50) X dX10_goal_50 ?_
    rw [hs]; exact ⟨rfl, rfl⟩
  · skip
    obtain ⟨j, hj, rfl⟩ := inR_of c_15 (by omega); have hq_j := nI_clamp (n := j) (by omega)
    refine j_iload_n (pc := 18) X dX10_goal_18 rfl 3 rfl ?_
    refine j_iconst (pc := 19) X (v := oI none) dX10_goal_19 (by decide) ?_
    refine j_icmp_eq (pc := 20) X (x := bh) (z := (-1)) (tgt := 51) dX10_goal_20 (by decide) (fun c_20 => ?_) (fun c_20 => ?_)
    · skip
      have hq_b : bh = -1 := c_20
      refine j_lvq (lv' := [(0, .ref z), (1, .int (nI j)), (2, .int d), (3, .int (oI none))]) (by rw [c_20] <;> rfl) ?_
      refine j_iload_n (pc := 51) X dX10_goal_51 rfl 2 rfl ?_
      refine j_ciP (pc := 52) X [] rfl (j_rS X (As := [.int d]) (rest := []) 1 (mX10_isDay l G d ) gX10_goal_X10_isDay rfl rfl rfl (by decide +kernel) ⟨Nat.le_of_ble_eq_true rfl, Nat.le_of_ble_eq_true rfl⟩ rfl [] rfl rfl rfl (Nat.le_of_ble_eq_true rfl) dX10_goal_52 ⟨Nat.le_of_ble_eq_true rfl, Nat.le_of_ble_eq_true rfl⟩) ?_
      refine j_ifb_ne (pc := 55) X (B := inC d 9999) (tgt := 64) dX10_goal_55 (by decide) (fun c_55 => ?_) (fun c_55 => ?_)
      · skip
        obtain ⟨k, hk, rfl⟩ := inC_of c_55 (by decide); have hq_k := nI_clamp (n := k) (by omega)
        refine j_aload_n (pc := 64) X dX10_goal_64 rfl 0 rfl ?_
        refine j_get (pc := 65) X 10 i_X10 0 rfl rfl 24 (by decide) (by decide +kernel) rfl dX10_goal_65 ?_
        refine j_bipush (pc := 68) X (v := nI 40) dX10_goal_68 (by decide) ?_
        refine j_icmpN_ne (pc := 70) X (a := gm) (b := 40) (by first | omega | exact Nat.lt_of_lt_of_le (hgb _) (by decide)) (by first | omega | exact Nat.lt_of_lt_of_le (hgb _) (by decide)) (tgt := 80) dX10_goal_70 (by decide) (fun c_70 => ?_) (fun c_70 => ?_)
        · skip
          have hq_l : gm < 40 := by omega
          refine j_aload_n (pc := 80) X dX10_goal_80 rfl 0 rfl ?_
          refine j_get (pc := 81) X 10 i_X10 0 rfl rfl 25 (by decide) (by decide +kernel) rfl dX10_goal_81 ?_
          refine j_aload_n (pc := 84) X dX10_goal_84 rfl 0 rfl ?_
          refine j_get (pc := 85) X 10 i_X10 0 rfl rfl 24 (by decide) (by decide +kernel) rfl dX10_goal_85 ?_
          refine j_iload_n (pc := 88) X dX10_goal_88 rfl 1 rfl ?_
          refine j_iast (pc := 89) X (f2 := (nF (va_up gb gm j))) (ws' := [(z, .inr (10, [.int (nI 0), .int (nI 0), .long za, .long zb, .ref z4, .ref z5, .ref z6, .int (nI el), .int (nI be), .ref z9, .ref z10, .ref z11, .ref z12, .int (b2i gz), .ref z14, .ref z15, .ref z16, .int (nI mm), .int (nI tt), .ref z19, .ref z20, .ref z21, .ref z22, .ref z23, .int (nI gm), .ref z25, .ref z26, .ref z27, .ref z28, .int (nI rn), .ref z30, .ref z31, .ref z32])), kI G z25 40 (nF (va_up gb gm j)), kI G z26 40 (nF gd), kI G z27 40 (oF gh), kI G z28 40 (oF gc)]) 1 rfl (vp_in_nI (by omega) (by decide)) dX10_goal_89 (by rw [nI_clamp (by omega)]; exact nF_up gb gm j) rfl ?_
          refine j_aload_n (pc := 90) X dX10_goal_90 rfl 0 rfl ?_
          refine j_get (pc := 91) X 10 i_X10 0 rfl rfl 26 (by decide) (by decide +kernel) rfl dX10_goal_91 ?_
          refine j_aload_n (pc := 94) X dX10_goal_94 rfl 0 rfl ?_
          refine j_get (pc := 95) X 10 i_X10 0 rfl rfl 24 (by decide) (by decide +kernel) rfl dX10_goal_95 ?_
          refine j_iload_n (pc := 98) X dX10_goal_98 rfl 2 rfl ?_
          refine j_iast (pc := 99) X (f2 := (nF (va_up gd gm k))) (ws' := [(z, .inr (10, [.int (nI 0), .int (nI 0), .long za, .long zb, .ref z4, .ref z5, .ref z6, .int (nI el), .int (nI be), .ref z9, .ref z10, .ref z11, .ref z12, .int (b2i gz), .ref z14, .ref z15, .ref z16, .int (nI mm), .int (nI tt), .ref z19, .ref z20, .ref z21, .ref z22, .ref z23, .int (nI gm), .ref z25, .ref z26, .ref z27, .ref z28, .int (nI rn), .ref z30, .ref z31, .ref z32])), kI G z25 40 (nF (va_up gb gm j)), kI G z26 40 (nF (va_up gd gm k)), kI G z27 40 (oF gh), kI G z28 40 (oF gc)]) 2 rfl (vp_in_nI (by omega) (by decide)) dX10_goal_99 (by rw [nI_clamp (by omega)]; exact nF_up gd gm k) rfl ?_
          refine j_aload_n (pc := 100) X dX10_goal_100 rfl 0 rfl ?_
          refine j_get (pc := 101) X 10 i_X10 0 rfl rfl 27 (by decide) (by decide +kernel) rfl dX10_goal_101 ?_
          refine j_aload_n (pc := 104) X dX10_goal_104 rfl 0 rfl ?_
          refine j_get (pc := 105) X 10 i_X10 0 rfl rfl 24 (by decide) (by decide +kernel) rfl dX10_goal_105 ?_
          refine j_iload_n (pc := 108) X dX10_goal_108 rfl 3 rfl ?_
          refine j_iast (pc := 109) X (f2 := (oF (va_up gh gm none))) (ws' := [(z, .inr (10, [.int (nI 0), .int (nI 0), .long za, .long zb, .ref z4, .ref z5, .ref z6, .int (nI el), .int (nI be), .ref z9, .ref z10, .ref z11, .ref z12, .int (b2i gz), .ref z14, .ref z15, .ref z16, .int (nI mm), .int (nI tt), .ref z19, .ref z20, .ref z21, .ref z22, .ref z23, .int (nI gm), .ref z25, .ref z26, .ref z27, .ref z28, .int (nI rn), .ref z30, .ref z31, .ref z32])), kI G z25 40 (nF (va_up gb gm j)), kI G z26 40 (nF (va_up gd gm k)), kI G z27 40 (oF (va_up gh gm none)), kI G z28 40 (oF gc)]) 3 rfl (vp_in_nI (by omega) (by decide)) dX10_goal_109 (by rw [nI_clamp (by omega)]; exact oF_up gh gm none) rfl ?_
          refine j_aload_n (pc := 110) X dX10_goal_110 rfl 0 rfl ?_
          refine j_get (pc := 111) X 10 i_X10 0 rfl rfl 28 (by decide) (by decide +kernel) rfl dX10_goal_111 ?_
          refine j_aload_n (pc := 114) X dX10_goal_114 rfl 0 rfl ?_
          refine j_get (pc := 115) X 10 i_X10 0 rfl rfl 24 (by decide) (by decide +kernel) rfl dX10_goal_115 ?_
          refine j_iconst (pc := 118) X (v := oI none) dX10_goal_118 (by decide) ?_
          refine j_iast (pc := 119) X (f2 := (oF (va_up gc gm none))) (ws' := [(z, .inr (10, [.int (nI 0), .int (nI 0), .long za, .long zb, .ref z4, .ref z5, .ref z6, .int (nI el), .int (nI be), .ref z9, .ref z10, .ref z11, .ref z12, .int (b2i gz), .ref z14, .ref z15, .ref z16, .int (nI mm), .int (nI tt), .ref z19, .ref z20, .ref z21, .ref z22, .ref z23, .int (nI gm), .ref z25, .ref z26, .ref z27, .ref z28, .int (nI rn), .ref z30, .ref z31, .ref z32])), kI G z25 40 (nF (va_up gb gm j)), kI G z26 40 (nF (va_up gd gm k)), kI G z27 40 (oF (va_up gh gm none)), kI G z28 40 (oF (va_up gc gm none))]) 4 rfl (vp_in_nI (by omega) (by decide)) dX10_goal_119 (by rw [nI_clamp (by omega)]; exact oF_up gc gm none) rfl ?_
          refine j_aload_n (pc := 120) X dX10_goal_120 rfl 0 rfl ?_
          refine j_dup (pc := 121) X dX10_goal_121 rfl ?_
          refine j_get (pc := 122) X 10 i_X10 0 rfl rfl 24 (by decide) (by decide +kernel) rfl dX10_goal_122 ?_
          refine j_iconst (pc := 125) X (v := nI 1) dX10_goal_125 (by decide) ?_
          refine j_iadd (pc := 126) X dX10_goal_126 ?_
          refine j_topi (z := nI (gm + 1)) (nI_add _ _) ?_
          refine j_put (pc := 127) X (v := .int (nI (gm + 1))) (ws' := [(z, .inr (10, [.int (nI 0), .int (nI 0), .long za, .long zb, .ref z4, .ref z5, .ref z6, .int (nI el), .int (nI be), .ref z9, .ref z10, .ref z11, .ref z12, .int (b2i gz), .ref z14, .ref z15, .ref z16, .int (nI mm), .int (nI tt), .ref z19, .ref z20, .ref z21, .ref z22, .ref z23, .int (nI (gm + 1)), .ref z25, .ref z26, .ref z27, .ref z28, .int (nI rn), .ref z30, .ref z31, .ref z32])), kI G z25 40 (nF (va_up gb gm j)), kI G z26 40 (nF (va_up gd gm k)), kI G z27 40 (oF (va_up gh gm none)), kI G z28 40 (oF (va_up gc gm none))]) 10 i_X10 tyX10 tyX10_ok nmX10 0 rfl rfl 24 (by decide) (by decide +kernel) (by decide) (rfl) (rfl) (Nat.le_of_ble_eq_true rfl) dX10_goal_127 rfl ?_
          refine j_aload_n (pc := 130) X dX10_goal_130 rfl 0 rfl ?_
          refine j_get (pc := 131) X 10 i_X10 0 rfl rfl 24 (by decide) (by decide +kernel) rfl dX10_goal_131 ?_
          refine j_iconst (pc := 134) X (v := nI 1) dX10_goal_134 (by decide) ?_
          refine j_isub (pc := 135) X dX10_goal_135 ?_
          refine j_topi (z := nI gm) ((pk_sub (by omega)).trans (by rw [Nat.add_sub_cancel])) ?_
          have hs : sGoal be gm gb gd gh gc (nI j) (nI k) bh = (some gm, 0, gm + 1, va_up gb gm j, va_up gd gm k, va_up gh gm none, va_up gc gm none) := by first | (simp [sGoal, inR, tN, hq_j, hq_b, hq_k, hq_l, c_15, c_20, c_55, ne_eq]; done) | (simp [sGoal, tN, hq_j, hq_b, hq_k, hq_l, c_15, c_20, c_55, ne_eq]; done) | (simp [sGoal, c_15, c_20, c_55, ne_eq]; done)
          refine j_iret (pc := 136) X dX10_goal_136 ?_
          rw [hs]; exact ⟨rfl, rfl⟩
        · skip
          have hq_l : ¬ gm < 40 := by omega
          refine j_aload_n (pc := 73) X dX10_goal_73 rfl 0 rfl ?_
          refine j_bipush (pc := 74) X (v := nI 7) dX10_goal_74 (by decide) ?_
          refine j_ci (pc := 76) X (ws' := [(z, .inr (10, [.int (nI 7), .int (nI 0), .long za, .long zb, .ref z4, .ref z5, .ref z6, .int (nI el), .int (nI be), .ref z9, .ref z10, .ref z11, .ref z12, .int (b2i gz), .ref z14, .ref z15, .ref z16, .int (nI mm), .int (nI tt), .ref z19, .ref z20, .ref z21, .ref z22, .ref z23, .int (nI gm), .ref z25, .ref z26, .ref z27, .ref z28, .int (nI rn), .ref z30, .ref z31, .ref z32])), kI G z25 40 (nF gb), kI G z26 40 (nF gd), kI G z27 40 (oF gh), kI G z28 40 (oF gc)]) [0] rfl (j_rV X (b := z) (As := [.int (nI 7)]) (ci := 10) (rest := []) 1 (mX10_refuse l G z z4 z5 z6 z9 z10 z11 z12 z14 z15 z16 z19 z20 z21 z22 z23 z25 z26 z27 z28 z30 z31 z32 0 0 za zb el be gz mm tt gm rn 7 ) gX10_goal_X10_refuse rfl rfl rfl (by decide +kernel) ⟨Nat.le_of_ble_eq_true rfl, Nat.le_of_ble_eq_true rfl⟩ rfl rfl 0 rfl [0] rfl rfl rfl (Nat.le_of_ble_eq_true rfl) dX10_goal_76 ⟨Nat.le_of_ble_eq_true rfl, Nat.le_of_ble_eq_true rfl⟩) rfl rfl ?_
          have hs : sGoal be gm gb gd gh gc (nI j) (nI k) bh = (none, 7, gm, gb, gd, gh, gc) := by first | (simp [sGoal, inR, tN, hq_j, hq_b, hq_k, hq_l, c_15, c_20, c_55, ne_eq]; done) | (simp [sGoal, tN, hq_j, hq_b, hq_k, hq_l, c_15, c_20, c_55, ne_eq]; done) | (simp [sGoal, c_15, c_20, c_55, ne_eq]; done)
          refine j_iret (pc := 79) X dX10_goal_79 ?_
          rw [hs]; exact ⟨rfl, rfl⟩
      · skip
        refine j_aload_n (pc := 58) X dX10_goal_58 rfl 0 rfl ?_
        refine j_iconst (pc := 59) X (v := nI 5) dX10_goal_59 (by decide) ?_
        refine j_ci (pc := 60) X (ws' := [(z, .inr (10, [.int (nI 5), .int (nI 0), .long za, .long zb, .ref z4, .ref z5, .ref z6, .int (nI el), .int (nI be), .ref z9, .ref z10, .ref z11, .ref z12, .int (b2i gz), .ref z14, .ref z15, .ref z16, .int (nI mm), .int (nI tt), .ref z19, .ref z20, .ref z21, .ref z22, .ref z23, .int (nI gm), .ref z25, .ref z26, .ref z27, .ref z28, .int (nI rn), .ref z30, .ref z31, .ref z32])), kI G z25 40 (nF gb), kI G z26 40 (nF gd), kI G z27 40 (oF gh), kI G z28 40 (oF gc)]) [0] rfl (j_rV X (b := z) (As := [.int (nI 5)]) (ci := 10) (rest := []) 1 (mX10_refuse l G z z4 z5 z6 z9 z10 z11 z12 z14 z15 z16 z19 z20 z21 z22 z23 z25 z26 z27 z28 z30 z31 z32 0 0 za zb el be gz mm tt gm rn 5 ) gX10_goal_X10_refuse rfl rfl rfl (by decide +kernel) ⟨Nat.le_of_ble_eq_true rfl, Nat.le_of_ble_eq_true rfl⟩ rfl rfl 0 rfl [0] rfl rfl rfl (Nat.le_of_ble_eq_true rfl) dX10_goal_60 ⟨Nat.le_of_ble_eq_true rfl, Nat.le_of_ble_eq_true rfl⟩) rfl rfl ?_
        have hs : sGoal be gm gb gd gh gc (nI j) d bh = (none, 5, gm, gb, gd, gh, gc) := by first | (simp [sGoal, inR, tN, hq_j, hq_b, c_15, c_20, c_55]; done) | (simp [sGoal, tN, hq_j, hq_b, c_15, c_20, c_55]; done) | (simp [sGoal, c_15, c_20, c_55]; done)
        refine j_iret (pc := 63) X dX10_goal_63 ?_
        rw [hs]; exact ⟨rfl, rfl⟩
    · skip
      refine j_iload_n (pc := 23) X dX10_goal_23 rfl 3 rfl ?_
      refine j_if_lt (pc := 24) X (x := bh) (tgt := 45) dX10_goal_24 (by decide) (fun c_24 => ?_) (fun c_24 => ?_)
      · skip
        have hq_r : inR bh gm = false := by simp [inR, c_24]
        refine j_aload_n (pc := 45) X dX10_goal_45 rfl 0 rfl ?_
        refine j_iconst (pc := 46) X (v := nI 2) dX10_goal_46 (by decide) ?_
        refine j_ci (pc := 47) X (ws' := [(z, .inr (10, [.int (nI 2), .int (nI 0), .long za, .long zb, .ref z4, .ref z5, .ref z6, .int (nI el), .int (nI be), .ref z9, .ref z10, .ref z11, .ref z12, .int (b2i gz), .ref z14, .ref z15, .ref z16, .int (nI mm), .int (nI tt), .ref z19, .ref z20, .ref z21, .ref z22, .ref z23, .int (nI gm), .ref z25, .ref z26, .ref z27, .ref z28, .int (nI rn), .ref z30, .ref z31, .ref z32])), kI G z25 40 (nF gb), kI G z26 40 (nF gd), kI G z27 40 (oF gh), kI G z28 40 (oF gc)]) [0] rfl (j_rV X (b := z) (As := [.int (nI 2)]) (ci := 10) (rest := []) 1 (mX10_refuse l G z z4 z5 z6 z9 z10 z11 z12 z14 z15 z16 z19 z20 z21 z22 z23 z25 z26 z27 z28 z30 z31 z32 0 0 za zb el be gz mm tt gm rn 2 ) gX10_goal_X10_refuse rfl rfl rfl (by decide +kernel) ⟨Nat.le_of_ble_eq_true rfl, Nat.le_of_ble_eq_true rfl⟩ rfl rfl 0 rfl [0] rfl rfl rfl (Nat.le_of_ble_eq_true rfl) dX10_goal_47 ⟨Nat.le_of_ble_eq_true rfl, Nat.le_of_ble_eq_true rfl⟩) rfl rfl ?_
        have hs : sGoal be gm gb gd gh gc (nI j) d bh = (none, 2, gm, gb, gd, gh, gc) := by first | (simp [sGoal, inR, tN, hq_j, hq_r, c_15, c_20, c_24]; done) | (simp [sGoal, tN, hq_j, hq_r, c_15, c_20, c_24]; done) | (simp [sGoal, c_15, c_20, c_24]; done)
        refine j_iret (pc := 50) X dX10_goal_50 ?_
        rw [hs]; exact ⟨rfl, rfl⟩
      · skip
        refine j_iload_n (pc := 27) X dX10_goal_27 rfl 3 rfl ?_
        refine j_aload_n (pc := 28) X dX10_goal_28 rfl 0 rfl ?_
        refine j_get (pc := 29) X 10 i_X10 0 rfl rfl 24 (by decide) (by decide +kernel) rfl dX10_goal_29 ?_
        refine j_icmp_ge (pc := 32) X (x := bh) (z := nI gm) (tgt := 45) dX10_goal_32 (by decide) (fun c_32 => ?_) (fun c_32 => ?_)
        · skip
          have hq_r : inR bh gm = false := by simp [inR, c_32]
          refine j_aload_n (pc := 45) X dX10_goal_45 rfl 0 rfl ?_
          refine j_iconst (pc := 46) X (v := nI 2) dX10_goal_46 (by decide) ?_
          refine j_ci (pc := 47) X (ws' := [(z, .inr (10, [.int (nI 2), .int (nI 0), .long za, .long zb, .ref z4, .ref z5, .ref z6, .int (nI el), .int (nI be), .ref z9, .ref z10, .ref z11, .ref z12, .int (b2i gz), .ref z14, .ref z15, .ref z16, .int (nI mm), .int (nI tt), .ref z19, .ref z20, .ref z21, .ref z22, .ref z23, .int (nI gm), .ref z25, .ref z26, .ref z27, .ref z28, .int (nI rn), .ref z30, .ref z31, .ref z32])), kI G z25 40 (nF gb), kI G z26 40 (nF gd), kI G z27 40 (oF gh), kI G z28 40 (oF gc)]) [0] rfl (j_rV X (b := z) (As := [.int (nI 2)]) (ci := 10) (rest := []) 1 (mX10_refuse l G z z4 z5 z6 z9 z10 z11 z12 z14 z15 z16 z19 z20 z21 z22 z23 z25 z26 z27 z28 z30 z31 z32 0 0 za zb el be gz mm tt gm rn 2 ) gX10_goal_X10_refuse rfl rfl rfl (by decide +kernel) ⟨Nat.le_of_ble_eq_true rfl, Nat.le_of_ble_eq_true rfl⟩ rfl rfl 0 rfl [0] rfl rfl rfl (Nat.le_of_ble_eq_true rfl) dX10_goal_47 ⟨Nat.le_of_ble_eq_true rfl, Nat.le_of_ble_eq_true rfl⟩) rfl rfl ?_
          have hs : sGoal be gm gb gd gh gc (nI j) d bh = (none, 2, gm, gb, gd, gh, gc) := by first | (simp [sGoal, inR, tN, hq_j, hq_r, c_15, c_20, c_24, c_32]; done) | (simp [sGoal, tN, hq_j, hq_r, c_15, c_20, c_24, c_32]; done) | (simp [sGoal, c_15, c_20, c_24, c_32]; done)
          refine j_iret (pc := 50) X dX10_goal_50 ?_
          rw [hs]; exact ⟨rfl, rfl⟩
        · skip
          have hq_r : inR bh gm = true := (by simp [inR, c_24, c_32]); obtain ⟨m, hm, rfl⟩ := inR_of hq_r (by omega); have hq_m := nI_clamp (n := m) (by omega)
          refine j_aload_n (pc := 35) X dX10_goal_35 rfl 0 rfl ?_
          refine j_get (pc := 36) X 10 i_X10 0 rfl rfl 25 (by decide) (by decide +kernel) rfl dX10_goal_36 ?_
          refine j_iload_n (pc := 39) X dX10_goal_39 rfl 3 rfl ?_
          refine j_iald (pc := 40) X 1 rfl (vp_in_nI (by omega) (by decide)) (v := nI (gb m)) (congrArg (nF gb) (nI_clamp (by omega))) dX10_goal_40 ?_
          refine j_iload_n (pc := 41) X dX10_goal_41 rfl 1 rfl ?_
          refine j_icmpN_eq (pc := 42) X (a := (gb m)) (b := j) (by first | omega | exact Nat.lt_of_lt_of_le (hgb _) (by decide)) (by first | omega | exact Nat.lt_of_lt_of_le (hgb _) (by decide)) (tgt := 51) dX10_goal_42 (by decide) (fun c_42 => ?_) (fun c_42 => ?_)
          · skip
            refine j_iload_n (pc := 51) X dX10_goal_51 rfl 2 rfl ?_
            refine j_ciP (pc := 52) X [] rfl (j_rS X (As := [.int d]) (rest := []) 1 (mX10_isDay l G d ) gX10_goal_X10_isDay rfl rfl rfl (by decide +kernel) ⟨Nat.le_of_ble_eq_true rfl, Nat.le_of_ble_eq_true rfl⟩ rfl [] rfl rfl rfl (Nat.le_of_ble_eq_true rfl) dX10_goal_52 ⟨Nat.le_of_ble_eq_true rfl, Nat.le_of_ble_eq_true rfl⟩) ?_
            refine j_ifb_ne (pc := 55) X (B := inC d 9999) (tgt := 64) dX10_goal_55 (by decide) (fun c_55 => ?_) (fun c_55 => ?_)
            · skip
              obtain ⟨k, hk, rfl⟩ := inC_of c_55 (by decide); have hq_k := nI_clamp (n := k) (by omega)
              refine j_aload_n (pc := 64) X dX10_goal_64 rfl 0 rfl ?_
              refine j_get (pc := 65) X 10 i_X10 0 rfl rfl 24 (by decide) (by decide +kernel) rfl dX10_goal_65 ?_
              refine j_bipush (pc := 68) X (v := nI 40) dX10_goal_68 (by decide) ?_
              refine j_icmpN_ne (pc := 70) X (a := gm) (b := 40) (by first | omega | exact Nat.lt_of_lt_of_le (hgb _) (by decide)) (by first | omega | exact Nat.lt_of_lt_of_le (hgb _) (by decide)) (tgt := 80) dX10_goal_70 (by decide) (fun c_70 => ?_) (fun c_70 => ?_)
              · skip
                have hq_l : gm < 40 := by omega
                refine j_aload_n (pc := 80) X dX10_goal_80 rfl 0 rfl ?_
                refine j_get (pc := 81) X 10 i_X10 0 rfl rfl 25 (by decide) (by decide +kernel) rfl dX10_goal_81 ?_
                refine j_aload_n (pc := 84) X dX10_goal_84 rfl 0 rfl ?_
                refine j_get (pc := 85) X 10 i_X10 0 rfl rfl 24 (by decide) (by decide +kernel) rfl dX10_goal_85 ?_
                refine j_iload_n (pc := 88) X dX10_goal_88 rfl 1 rfl ?_
                refine j_iast (pc := 89) X (f2 := (nF (va_up gb gm j))) (ws' := [(z, .inr (10, [.int (nI 0), .int (nI 0), .long za, .long zb, .ref z4, .ref z5, .ref z6, .int (nI el), .int (nI be), .ref z9, .ref z10, .ref z11, .ref z12, .int (b2i gz), .ref z14, .ref z15, .ref z16, .int (nI mm), .int (nI tt), .ref z19, .ref z20, .ref z21, .ref z22, .ref z23, .int (nI gm), .ref z25, .ref z26, .ref z27, .ref z28, .int (nI rn), .ref z30, .ref z31, .ref z32])), kI G z25 40 (nF (va_up gb gm j)), kI G z26 40 (nF gd), kI G z27 40 (oF gh), kI G z28 40 (oF gc)]) 1 rfl (vp_in_nI (by omega) (by decide)) dX10_goal_89 (by rw [nI_clamp (by omega)]; exact nF_up gb gm j) rfl ?_
                refine j_aload_n (pc := 90) X dX10_goal_90 rfl 0 rfl ?_
                refine j_get (pc := 91) X 10 i_X10 0 rfl rfl 26 (by decide) (by decide +kernel) rfl dX10_goal_91 ?_
                refine j_aload_n (pc := 94) X dX10_goal_94 rfl 0 rfl ?_
                refine j_get (pc := 95) X 10 i_X10 0 rfl rfl 24 (by decide) (by decide +kernel) rfl dX10_goal_95 ?_
                refine j_iload_n (pc := 98) X dX10_goal_98 rfl 2 rfl ?_
                refine j_iast (pc := 99) X (f2 := (nF (va_up gd gm k))) (ws' := [(z, .inr (10, [.int (nI 0), .int (nI 0), .long za, .long zb, .ref z4, .ref z5, .ref z6, .int (nI el), .int (nI be), .ref z9, .ref z10, .ref z11, .ref z12, .int (b2i gz), .ref z14, .ref z15, .ref z16, .int (nI mm), .int (nI tt), .ref z19, .ref z20, .ref z21, .ref z22, .ref z23, .int (nI gm), .ref z25, .ref z26, .ref z27, .ref z28, .int (nI rn), .ref z30, .ref z31, .ref z32])), kI G z25 40 (nF (va_up gb gm j)), kI G z26 40 (nF (va_up gd gm k)), kI G z27 40 (oF gh), kI G z28 40 (oF gc)]) 2 rfl (vp_in_nI (by omega) (by decide)) dX10_goal_99 (by rw [nI_clamp (by omega)]; exact nF_up gd gm k) rfl ?_
                refine j_aload_n (pc := 100) X dX10_goal_100 rfl 0 rfl ?_
                refine j_get (pc := 101) X 10 i_X10 0 rfl rfl 27 (by decide) (by decide +kernel) rfl dX10_goal_101 ?_
                refine j_aload_n (pc := 104) X dX10_goal_104 rfl 0 rfl ?_
                refine j_get (pc := 105) X 10 i_X10 0 rfl rfl 24 (by decide) (by decide +kernel) rfl dX10_goal_105 ?_
                refine j_iload_n (pc := 108) X dX10_goal_108 rfl 3 rfl ?_
                refine j_iast (pc := 109) X (f2 := (oF (va_up gh gm (some m)))) (ws' := [(z, .inr (10, [.int (nI 0), .int (nI 0), .long za, .long zb, .ref z4, .ref z5, .ref z6, .int (nI el), .int (nI be), .ref z9, .ref z10, .ref z11, .ref z12, .int (b2i gz), .ref z14, .ref z15, .ref z16, .int (nI mm), .int (nI tt), .ref z19, .ref z20, .ref z21, .ref z22, .ref z23, .int (nI gm), .ref z25, .ref z26, .ref z27, .ref z28, .int (nI rn), .ref z30, .ref z31, .ref z32])), kI G z25 40 (nF (va_up gb gm j)), kI G z26 40 (nF (va_up gd gm k)), kI G z27 40 (oF (va_up gh gm (some m))), kI G z28 40 (oF gc)]) 3 rfl (vp_in_nI (by omega) (by decide)) dX10_goal_109 (by rw [nI_clamp (by omega)]; exact oF_up gh gm (some m)) rfl ?_
                refine j_aload_n (pc := 110) X dX10_goal_110 rfl 0 rfl ?_
                refine j_get (pc := 111) X 10 i_X10 0 rfl rfl 28 (by decide) (by decide +kernel) rfl dX10_goal_111 ?_
                refine j_aload_n (pc := 114) X dX10_goal_114 rfl 0 rfl ?_
                refine j_get (pc := 115) X 10 i_X10 0 rfl rfl 24 (by decide) (by decide +kernel) rfl dX10_goal_115 ?_
                refine j_iconst (pc := 118) X (v := oI none) dX10_goal_118 (by decide) ?_
                refine j_iast (pc := 119) X (f2 := (oF (va_up gc gm none))) (ws' := [(z, .inr (10, [.int (nI 0), .int (nI 0), .long za, .long zb, .ref z4, .ref z5, .ref z6, .int (nI el), .int (nI be), .ref z9, .ref z10, .ref z11, .ref z12, .int (b2i gz), .ref z14, .ref z15, .ref z16, .int (nI mm), .int (nI tt), .ref z19, .ref z20, .ref z21, .ref z22, .ref z23, .int (nI gm), .ref z25, .ref z26, .ref z27, .ref z28, .int (nI rn), .ref z30, .ref z31, .ref z32])), kI G z25 40 (nF (va_up gb gm j)), kI G z26 40 (nF (va_up gd gm k)), kI G z27 40 (oF (va_up gh gm (some m))), kI G z28 40 (oF (va_up gc gm none))]) 4 rfl (vp_in_nI (by omega) (by decide)) dX10_goal_119 (by rw [nI_clamp (by omega)]; exact oF_up gc gm none) rfl ?_
                refine j_aload_n (pc := 120) X dX10_goal_120 rfl 0 rfl ?_
                refine j_dup (pc := 121) X dX10_goal_121 rfl ?_
                refine j_get (pc := 122) X 10 i_X10 0 rfl rfl 24 (by decide) (by decide +kernel) rfl dX10_goal_122 ?_
                refine j_iconst (pc := 125) X (v := nI 1) dX10_goal_125 (by decide) ?_
                refine j_iadd (pc := 126) X dX10_goal_126 ?_
                refine j_topi (z := nI (gm + 1)) (nI_add _ _) ?_
                refine j_put (pc := 127) X (v := .int (nI (gm + 1))) (ws' := [(z, .inr (10, [.int (nI 0), .int (nI 0), .long za, .long zb, .ref z4, .ref z5, .ref z6, .int (nI el), .int (nI be), .ref z9, .ref z10, .ref z11, .ref z12, .int (b2i gz), .ref z14, .ref z15, .ref z16, .int (nI mm), .int (nI tt), .ref z19, .ref z20, .ref z21, .ref z22, .ref z23, .int (nI (gm + 1)), .ref z25, .ref z26, .ref z27, .ref z28, .int (nI rn), .ref z30, .ref z31, .ref z32])), kI G z25 40 (nF (va_up gb gm j)), kI G z26 40 (nF (va_up gd gm k)), kI G z27 40 (oF (va_up gh gm (some m))), kI G z28 40 (oF (va_up gc gm none))]) 10 i_X10 tyX10 tyX10_ok nmX10 0 rfl rfl 24 (by decide) (by decide +kernel) (by decide) (rfl) (rfl) (Nat.le_of_ble_eq_true rfl) dX10_goal_127 rfl ?_
                refine j_aload_n (pc := 130) X dX10_goal_130 rfl 0 rfl ?_
                refine j_get (pc := 131) X 10 i_X10 0 rfl rfl 24 (by decide) (by decide +kernel) rfl dX10_goal_131 ?_
                refine j_iconst (pc := 134) X (v := nI 1) dX10_goal_134 (by decide) ?_
                refine j_isub (pc := 135) X dX10_goal_135 ?_
                refine j_topi (z := nI gm) ((pk_sub (by omega)).trans (by rw [Nat.add_sub_cancel])) ?_
                have hs : sGoal be gm gb gd gh gc (nI j) (nI k) (nI m) = (some gm, 0, gm + 1, va_up gb gm j, va_up gd gm k, va_up gh gm (some m), va_up gc gm none) := by first | (simp [sGoal, inR, tN, hq_j, hq_r, hq_m, hq_k, hq_l, c_15, c_20, c_24, c_32, c_42, c_55, ne_eq]; done) | (simp [sGoal, tN, hq_j, hq_r, hq_m, hq_k, hq_l, c_15, c_20, c_24, c_32, c_42, c_55, ne_eq]; done) | (simp [sGoal, c_15, c_20, c_24, c_32, c_42, c_55, ne_eq]; done)
                refine j_iret (pc := 136) X dX10_goal_136 ?_
                rw [hs]; exact ⟨rfl, rfl⟩
              · skip
                have hq_l : ¬ gm < 40 := by omega
                refine j_aload_n (pc := 73) X dX10_goal_73 rfl 0 rfl ?_
                refine j_bipush (pc := 74) X (v := nI 7) dX10_goal_74 (by decide) ?_
                refine j_ci (pc := 76) X (ws' := [(z, .inr (10, [.int (nI 7), .int (nI 0), .long za, .long zb, .ref z4, .ref z5, .ref z6, .int (nI el), .int (nI be), .ref z9, .ref z10, .ref z11, .ref z12, .int (b2i gz), .ref z14, .ref z15, .ref z16, .int (nI mm), .int (nI tt), .ref z19, .ref z20, .ref z21, .ref z22, .ref z23, .int (nI gm), .ref z25, .ref z26, .ref z27, .ref z28, .int (nI rn), .ref z30, .ref z31, .ref z32])), kI G z25 40 (nF gb), kI G z26 40 (nF gd), kI G z27 40 (oF gh), kI G z28 40 (oF gc)]) [0] rfl (j_rV X (b := z) (As := [.int (nI 7)]) (ci := 10) (rest := []) 1 (mX10_refuse l G z z4 z5 z6 z9 z10 z11 z12 z14 z15 z16 z19 z20 z21 z22 z23 z25 z26 z27 z28 z30 z31 z32 0 0 za zb el be gz mm tt gm rn 7 ) gX10_goal_X10_refuse rfl rfl rfl (by decide +kernel) ⟨Nat.le_of_ble_eq_true rfl, Nat.le_of_ble_eq_true rfl⟩ rfl rfl 0 rfl [0] rfl rfl rfl (Nat.le_of_ble_eq_true rfl) dX10_goal_76 ⟨Nat.le_of_ble_eq_true rfl, Nat.le_of_ble_eq_true rfl⟩) rfl rfl ?_
                have hs : sGoal be gm gb gd gh gc (nI j) (nI k) (nI m) = (none, 7, gm, gb, gd, gh, gc) := by first | (simp [sGoal, inR, tN, hq_j, hq_r, hq_m, hq_k, hq_l, c_15, c_20, c_24, c_32, c_42, c_55, ne_eq]; done) | (simp [sGoal, tN, hq_j, hq_r, hq_m, hq_k, hq_l, c_15, c_20, c_24, c_32, c_42, c_55, ne_eq]; done) | (simp [sGoal, c_15, c_20, c_24, c_32, c_42, c_55, ne_eq]; done)
                refine j_iret (pc := 79) X dX10_goal_79 ?_
                rw [hs]; exact ⟨rfl, rfl⟩
            · skip
              refine j_aload_n (pc := 58) X dX10_goal_58 rfl 0 rfl ?_
              refine j_iconst (pc := 59) X (v := nI 5) dX10_goal_59 (by decide) ?_
              refine j_ci (pc := 60) X (ws' := [(z, .inr (10, [.int (nI 5), .int (nI 0), .long za, .long zb, .ref z4, .ref z5, .ref z6, .int (nI el), .int (nI be), .ref z9, .ref z10, .ref z11, .ref z12, .int (b2i gz), .ref z14, .ref z15, .ref z16, .int (nI mm), .int (nI tt), .ref z19, .ref z20, .ref z21, .ref z22, .ref z23, .int (nI gm), .ref z25, .ref z26, .ref z27, .ref z28, .int (nI rn), .ref z30, .ref z31, .ref z32])), kI G z25 40 (nF gb), kI G z26 40 (nF gd), kI G z27 40 (oF gh), kI G z28 40 (oF gc)]) [0] rfl (j_rV X (b := z) (As := [.int (nI 5)]) (ci := 10) (rest := []) 1 (mX10_refuse l G z z4 z5 z6 z9 z10 z11 z12 z14 z15 z16 z19 z20 z21 z22 z23 z25 z26 z27 z28 z30 z31 z32 0 0 za zb el be gz mm tt gm rn 5 ) gX10_goal_X10_refuse rfl rfl rfl (by decide +kernel) ⟨Nat.le_of_ble_eq_true rfl, Nat.le_of_ble_eq_true rfl⟩ rfl rfl 0 rfl [0] rfl rfl rfl (Nat.le_of_ble_eq_true rfl) dX10_goal_60 ⟨Nat.le_of_ble_eq_true rfl, Nat.le_of_ble_eq_true rfl⟩) rfl rfl ?_
              have hs : sGoal be gm gb gd gh gc (nI j) d (nI m) = (none, 5, gm, gb, gd, gh, gc) := by first | (simp [sGoal, inR, tN, hq_j, hq_r, hq_m, c_15, c_20, c_24, c_32, c_42, c_55]; done) | (simp [sGoal, tN, hq_j, hq_r, hq_m, c_15, c_20, c_24, c_32, c_42, c_55]; done) | (simp [sGoal, c_15, c_20, c_24, c_32, c_42, c_55]; done)
              refine j_iret (pc := 63) X dX10_goal_63 ?_
              rw [hs]; exact ⟨rfl, rfl⟩
          · skip
            refine j_aload_n (pc := 45) X dX10_goal_45 rfl 0 rfl ?_
            refine j_iconst (pc := 46) X (v := nI 2) dX10_goal_46 (by decide) ?_
            refine j_ci (pc := 47) X (ws' := [(z, .inr (10, [.int (nI 2), .int (nI 0), .long za, .long zb, .ref z4, .ref z5, .ref z6, .int (nI el), .int (nI be), .ref z9, .ref z10, .ref z11, .ref z12, .int (b2i gz), .ref z14, .ref z15, .ref z16, .int (nI mm), .int (nI tt), .ref z19, .ref z20, .ref z21, .ref z22, .ref z23, .int (nI gm), .ref z25, .ref z26, .ref z27, .ref z28, .int (nI rn), .ref z30, .ref z31, .ref z32])), kI G z25 40 (nF gb), kI G z26 40 (nF gd), kI G z27 40 (oF gh), kI G z28 40 (oF gc)]) [0] rfl (j_rV X (b := z) (As := [.int (nI 2)]) (ci := 10) (rest := []) 1 (mX10_refuse l G z z4 z5 z6 z9 z10 z11 z12 z14 z15 z16 z19 z20 z21 z22 z23 z25 z26 z27 z28 z30 z31 z32 0 0 za zb el be gz mm tt gm rn 2 ) gX10_goal_X10_refuse rfl rfl rfl (by decide +kernel) ⟨Nat.le_of_ble_eq_true rfl, Nat.le_of_ble_eq_true rfl⟩ rfl rfl 0 rfl [0] rfl rfl rfl (Nat.le_of_ble_eq_true rfl) dX10_goal_47 ⟨Nat.le_of_ble_eq_true rfl, Nat.le_of_ble_eq_true rfl⟩) rfl rfl ?_
            have hs : sGoal be gm gb gd gh gc (nI j) d (nI m) = (none, 2, gm, gb, gd, gh, gc) := by first | (simp [sGoal, inR, tN, hq_j, hq_r, hq_m, c_15, c_20, c_24, c_32, c_42]; done) | (simp [sGoal, tN, hq_j, hq_r, hq_m, c_15, c_20, c_24, c_32, c_42]; done) | (simp [sGoal, c_15, c_20, c_24, c_32, c_42]; done)
            refine j_iret (pc := 50) X dX10_goal_50 ?_
            rw [hs]; exact ⟨rfl, rfl⟩

set_option maxHeartbeats 4000000 in
set_option maxRecDepth 100000 in
theorem mX10_confirm (l : Launch) (G : jG) (z : Nat) (z4 : Nat) (z5 : Nat) (z6 : Nat) (z9 : Nat) (z10 : Nat) (z11 : Nat) (z12 : Nat) (z14 : Nat) (z15 : Nat) (z16 : Nat) (z19 : Nat) (z20 : Nat) (z21 : Nat) (z22 : Nat) (z23 : Nat) (z25 : Nat) (z26 : Nat) (z27 : Nat) (z28 : Nat) (z30 : Nat) (z31 : Nat) (z32 : Nat) (st : Nat) (th : Nat) (za : Int64) (zb : Int64) (el : Nat) (be : Nat) (gz : Bool) (mm : Nat) (tt : Nat) (gm : Nat) (rn : Nat) (gc : Nat → Option Nat) (x : Int32) (d : Int32) (hgm : gm ≤ 40) (hgc : ∀ k, ob 10000 (gc k)) : MV l yX10_confirm wsX10_confirm ({ frames := 1, cells := 0, slots := 0, locals := 21 }) G [.ref z, .int x, .int d] [(z, .inr (10, [.int (nI st), .int (nI th), .long za, .long zb, .ref z4, .ref z5, .ref z6, .int (nI el), .int (nI be), .ref z9, .ref z10, .ref z11, .ref z12, .int (b2i gz), .ref z14, .ref z15, .ref z16, .int (nI mm), .int (nI tt), .ref z19, .ref z20, .ref z21, .ref z22, .ref z23, .int (nI gm), .ref z25, .ref z26, .ref z27, .ref z28, .int (nI rn), .ref z30, .ref z31, .ref z32])), kI G z28 40 (oF gc)] (some (.int (b2i ((sConf gm gc x d).1)))) [(z, .inr (10, [.int (nI ((sConf gm gc x d).2.1)), .int (nI 0), .long za, .long zb, .ref z4, .ref z5, .ref z6, .int (nI el), .int (nI be), .ref z9, .ref z10, .ref z11, .ref z12, .int (b2i gz), .ref z14, .ref z15, .ref z16, .int (nI mm), .int (nI tt), .ref z19, .ref z20, .ref z21, .ref z22, .ref z23, .int (nI gm), .ref z25, .ref z26, .ref z27, .ref z28, .int (nI rn), .ref z30, .ref z31, .ref z32])), kI G z28 40 (oF ((sConf gm gc x d).2.2))] := by
  refine MF.ofJ (cc := cX10_confirm) (maxL := 3) (ret := (some .boolean)) (own := RX10) (lv := [(0, .ref z), (1, .int x), (2, .int d)]) (by decide) rfl rfl (Nat.le_of_ble_eq_true rfl) rfl ?_
  intro κ X
  have i_X10 : ∀ w ∈ wsX100, w ∈ wsX10_confirm := by decide +kernel
  refine j_aload_n (pc := 0) X dX10_confirm_0 rfl 0 rfl ?_
  refine j_iconst (pc := 1) X (v := nI 0) dX10_confirm_1 (by decide) ?_
  refine j_put (pc := 2) X (v := .int (nI 0)) (ws' := [(z, .inr (10, [.int (nI st), .int (nI 0), .long za, .long zb, .ref z4, .ref z5, .ref z6, .int (nI el), .int (nI be), .ref z9, .ref z10, .ref z11, .ref z12, .int (b2i gz), .ref z14, .ref z15, .ref z16, .int (nI mm), .int (nI tt), .ref z19, .ref z20, .ref z21, .ref z22, .ref z23, .int (nI gm), .ref z25, .ref z26, .ref z27, .ref z28, .int (nI rn), .ref z30, .ref z31, .ref z32])), kI G z28 40 (oF gc)]) 10 i_X10 tyX10 tyX10_ok nmX10 0 rfl rfl 1 (by decide) (by decide +kernel) (by decide) (rfl) (rfl) (Nat.le_of_ble_eq_true rfl) dX10_confirm_2 rfl ?_
  refine j_aload_n (pc := 5) X dX10_confirm_5 rfl 0 rfl ?_
  refine j_iconst (pc := 6) X (v := nI 0) dX10_confirm_6 (by decide) ?_
  refine j_put (pc := 7) X (v := .int (nI 0)) (ws' := [(z, .inr (10, [.int (nI 0), .int (nI 0), .long za, .long zb, .ref z4, .ref z5, .ref z6, .int (nI el), .int (nI be), .ref z9, .ref z10, .ref z11, .ref z12, .int (b2i gz), .ref z14, .ref z15, .ref z16, .int (nI mm), .int (nI tt), .ref z19, .ref z20, .ref z21, .ref z22, .ref z23, .int (nI gm), .ref z25, .ref z26, .ref z27, .ref z28, .int (nI rn), .ref z30, .ref z31, .ref z32])), kI G z28 40 (oF gc)]) 10 i_X10 tyX10 tyX10_ok nmX10 0 rfl rfl 0 (by decide) (by decide +kernel) (by decide) (rfl) (rfl) (Nat.le_of_ble_eq_true rfl) dX10_confirm_7 rfl ?_
  refine j_iload_n (pc := 10) X dX10_confirm_10 rfl 1 rfl ?_
  refine j_if_lt (pc := 11) X (x := x) (tgt := 22) dX10_confirm_11 (by decide) (fun c_11 => ?_) (fun c_11 => ?_)
  · skip
    refine j_aload_n (pc := 22) X dX10_confirm_22 rfl 0 rfl ?_
    refine j_iconst (pc := 23) X (v := nI 2) dX10_confirm_23 (by decide) ?_
    refine j_ci (pc := 24) X (ws' := [(z, .inr (10, [.int (nI 2), .int (nI 0), .long za, .long zb, .ref z4, .ref z5, .ref z6, .int (nI el), .int (nI be), .ref z9, .ref z10, .ref z11, .ref z12, .int (b2i gz), .ref z14, .ref z15, .ref z16, .int (nI mm), .int (nI tt), .ref z19, .ref z20, .ref z21, .ref z22, .ref z23, .int (nI gm), .ref z25, .ref z26, .ref z27, .ref z28, .int (nI rn), .ref z30, .ref z31, .ref z32])), kI G z28 40 (oF gc)]) [0] rfl (j_rV X (b := z) (As := [.int (nI 2)]) (ci := 10) (rest := []) 1 (mX10_no l G z z4 z5 z6 z9 z10 z11 z12 z14 z15 z16 z19 z20 z21 z22 z23 z25 z26 z27 z28 z30 z31 z32 0 0 za zb el be gz mm tt gm rn 2 ) gX10_confirm_X10_no rfl rfl rfl (by decide +kernel) ⟨Nat.le_of_ble_eq_true rfl, Nat.le_of_ble_eq_true rfl⟩ rfl rfl 0 rfl [0] rfl rfl rfl (Nat.le_of_ble_eq_true rfl) dX10_confirm_24 ⟨Nat.le_of_ble_eq_true rfl, Nat.le_of_ble_eq_true rfl⟩) rfl rfl ?_
    have hs : sConf gm gc x d = (false, 2, gc) := by first | (simp [sConf, inR, tN, c_11]; done) | (simp [sConf, inR, c_11]; done)
    refine j_zret (pc := 27) X (b2i_nar _) dX10_confirm_27 ?_
    rw [hs]; exact ⟨rfl, rfl⟩
  · skip
    refine j_iload_n (pc := 14) X dX10_confirm_14 rfl 1 rfl ?_
    refine j_aload_n (pc := 15) X dX10_confirm_15 rfl 0 rfl ?_
    refine j_get (pc := 16) X 10 i_X10 0 rfl rfl 24 (by decide) (by decide +kernel) rfl dX10_confirm_16 ?_
    refine j_icmp_lt (pc := 19) X (x := x) (z := nI gm) (tgt := 28) dX10_confirm_19 (by decide) (fun c_19 => ?_) (fun c_19 => ?_)
    · skip
      obtain ⟨j, hj, rfl⟩ := rngl_of c_11 c_19 (by omega); have hq_j := nI_clamp (n := j) (by omega)
      refine j_iload_n (pc := 28) X dX10_confirm_28 rfl 2 rfl ?_
      refine j_ciP (pc := 29) X [] rfl (j_rS X (As := [.int d]) (rest := []) 1 (mX10_isDay l G d ) gX10_confirm_X10_isDay rfl rfl rfl (by decide +kernel) ⟨Nat.le_of_ble_eq_true rfl, Nat.le_of_ble_eq_true rfl⟩ rfl [] rfl rfl rfl (Nat.le_of_ble_eq_true rfl) dX10_confirm_29 ⟨Nat.le_of_ble_eq_true rfl, Nat.le_of_ble_eq_true rfl⟩) ?_
      refine j_ifb_ne (pc := 32) X (B := inC d 9999) (tgt := 41) dX10_confirm_32 (by decide) (fun c_32 => ?_) (fun c_32 => ?_)
      · skip
        obtain ⟨k, hk, rfl⟩ := inC_of c_32 (by decide); have hq_k := nI_clamp (n := k) (by omega)
        refine j_aload_n (pc := 41) X dX10_confirm_41 rfl 0 rfl ?_
        refine j_get (pc := 42) X 10 i_X10 0 rfl rfl 28 (by decide) (by decide +kernel) rfl dX10_confirm_42 ?_
        refine j_iload_n (pc := 45) X dX10_confirm_45 rfl 1 rfl ?_
        refine j_iald (pc := 46) X 1 rfl (vp_in_nI (by omega) (by decide)) (v := oI (gc j)) (congrArg (oF gc) (nI_clamp (by omega))) dX10_confirm_46 ?_
        refine j_ifO_lt (pc := 47) X (a := (gc j)) (by exact (hgc _).big (by decide)) (tgt := 57) dX10_confirm_47 (by decide) (fun c_47 => ?_) (fun c_47 => ?_)
        · skip
          refine j_aload_n (pc := 57) X dX10_confirm_57 rfl 0 rfl ?_
          refine j_get (pc := 58) X 10 i_X10 0 rfl rfl 28 (by decide) (by decide +kernel) rfl dX10_confirm_58 ?_
          refine j_iload_n (pc := 61) X dX10_confirm_61 rfl 1 rfl ?_
          refine j_iload_n (pc := 62) X dX10_confirm_62 rfl 2 rfl ?_
          refine j_iast (pc := 63) X (f2 := (oF (va_up gc j (some k)))) (ws' := [(z, .inr (10, [.int (nI 0), .int (nI 0), .long za, .long zb, .ref z4, .ref z5, .ref z6, .int (nI el), .int (nI be), .ref z9, .ref z10, .ref z11, .ref z12, .int (b2i gz), .ref z14, .ref z15, .ref z16, .int (nI mm), .int (nI tt), .ref z19, .ref z20, .ref z21, .ref z22, .ref z23, .int (nI gm), .ref z25, .ref z26, .ref z27, .ref z28, .int (nI rn), .ref z30, .ref z31, .ref z32])), kI G z28 40 (oF (va_up gc j (some k)))]) 1 rfl (vp_in_nI (by omega) (by decide)) dX10_confirm_63 (by rw [nI_clamp (by omega)]; exact oF_up gc j (some k)) rfl ?_
          refine j_iconst (pc := 64) X (v := nI 1) dX10_confirm_64 (by decide) ?_
          have hs : sConf gm gc (nI j) (nI k) = (true, 0, va_up gc j (some k)) := by first | (simp [sConf, inR, tN, hq_j, hq_k, c_11, c_19, c_32, c_47]; done) | (simp [sConf, inR, c_11, c_19, c_32, c_47]; done)
          refine j_zret (pc := 65) X (rfl) dX10_confirm_65 ?_
          rw [hs]; exact ⟨rfl, rfl⟩
        · skip
          refine j_aload_n (pc := 50) X dX10_confirm_50 rfl 0 rfl ?_
          refine j_bipush (pc := 51) X (v := nI 8) dX10_confirm_51 (by decide) ?_
          refine j_ci (pc := 53) X (ws' := [(z, .inr (10, [.int (nI 8), .int (nI 0), .long za, .long zb, .ref z4, .ref z5, .ref z6, .int (nI el), .int (nI be), .ref z9, .ref z10, .ref z11, .ref z12, .int (b2i gz), .ref z14, .ref z15, .ref z16, .int (nI mm), .int (nI tt), .ref z19, .ref z20, .ref z21, .ref z22, .ref z23, .int (nI gm), .ref z25, .ref z26, .ref z27, .ref z28, .int (nI rn), .ref z30, .ref z31, .ref z32])), kI G z28 40 (oF gc)]) [0] rfl (j_rV X (b := z) (As := [.int (nI 8)]) (ci := 10) (rest := []) 1 (mX10_no l G z z4 z5 z6 z9 z10 z11 z12 z14 z15 z16 z19 z20 z21 z22 z23 z25 z26 z27 z28 z30 z31 z32 0 0 za zb el be gz mm tt gm rn 8 ) gX10_confirm_X10_no rfl rfl rfl (by decide +kernel) ⟨Nat.le_of_ble_eq_true rfl, Nat.le_of_ble_eq_true rfl⟩ rfl rfl 0 rfl [0] rfl rfl rfl (Nat.le_of_ble_eq_true rfl) dX10_confirm_53 ⟨Nat.le_of_ble_eq_true rfl, Nat.le_of_ble_eq_true rfl⟩) rfl rfl ?_
          have hs : sConf gm gc (nI j) (nI k) = (false, 8, gc) := by first | (simp [sConf, inR, tN, hq_j, hq_k, c_11, c_19, c_32, c_47]; done) | (simp [sConf, inR, c_11, c_19, c_32, c_47]; done)
          refine j_zret (pc := 56) X (b2i_nar _) dX10_confirm_56 ?_
          rw [hs]; exact ⟨rfl, rfl⟩
      · skip
        refine j_aload_n (pc := 35) X dX10_confirm_35 rfl 0 rfl ?_
        refine j_iconst (pc := 36) X (v := nI 5) dX10_confirm_36 (by decide) ?_
        refine j_ci (pc := 37) X (ws' := [(z, .inr (10, [.int (nI 5), .int (nI 0), .long za, .long zb, .ref z4, .ref z5, .ref z6, .int (nI el), .int (nI be), .ref z9, .ref z10, .ref z11, .ref z12, .int (b2i gz), .ref z14, .ref z15, .ref z16, .int (nI mm), .int (nI tt), .ref z19, .ref z20, .ref z21, .ref z22, .ref z23, .int (nI gm), .ref z25, .ref z26, .ref z27, .ref z28, .int (nI rn), .ref z30, .ref z31, .ref z32])), kI G z28 40 (oF gc)]) [0] rfl (j_rV X (b := z) (As := [.int (nI 5)]) (ci := 10) (rest := []) 1 (mX10_no l G z z4 z5 z6 z9 z10 z11 z12 z14 z15 z16 z19 z20 z21 z22 z23 z25 z26 z27 z28 z30 z31 z32 0 0 za zb el be gz mm tt gm rn 5 ) gX10_confirm_X10_no rfl rfl rfl (by decide +kernel) ⟨Nat.le_of_ble_eq_true rfl, Nat.le_of_ble_eq_true rfl⟩ rfl rfl 0 rfl [0] rfl rfl rfl (Nat.le_of_ble_eq_true rfl) dX10_confirm_37 ⟨Nat.le_of_ble_eq_true rfl, Nat.le_of_ble_eq_true rfl⟩) rfl rfl ?_
        have hs : sConf gm gc (nI j) d = (false, 5, gc) := by first | (simp [sConf, inR, tN, hq_j, c_11, c_19, c_32]; done) | (simp [sConf, inR, c_11, c_19, c_32]; done)
        refine j_zret (pc := 40) X (b2i_nar _) dX10_confirm_40 ?_
        rw [hs]; exact ⟨rfl, rfl⟩
    · skip
      refine j_aload_n (pc := 22) X dX10_confirm_22 rfl 0 rfl ?_
      refine j_iconst (pc := 23) X (v := nI 2) dX10_confirm_23 (by decide) ?_
      refine j_ci (pc := 24) X (ws' := [(z, .inr (10, [.int (nI 2), .int (nI 0), .long za, .long zb, .ref z4, .ref z5, .ref z6, .int (nI el), .int (nI be), .ref z9, .ref z10, .ref z11, .ref z12, .int (b2i gz), .ref z14, .ref z15, .ref z16, .int (nI mm), .int (nI tt), .ref z19, .ref z20, .ref z21, .ref z22, .ref z23, .int (nI gm), .ref z25, .ref z26, .ref z27, .ref z28, .int (nI rn), .ref z30, .ref z31, .ref z32])), kI G z28 40 (oF gc)]) [0] rfl (j_rV X (b := z) (As := [.int (nI 2)]) (ci := 10) (rest := []) 1 (mX10_no l G z z4 z5 z6 z9 z10 z11 z12 z14 z15 z16 z19 z20 z21 z22 z23 z25 z26 z27 z28 z30 z31 z32 0 0 za zb el be gz mm tt gm rn 2 ) gX10_confirm_X10_no rfl rfl rfl (by decide +kernel) ⟨Nat.le_of_ble_eq_true rfl, Nat.le_of_ble_eq_true rfl⟩ rfl rfl 0 rfl [0] rfl rfl rfl (Nat.le_of_ble_eq_true rfl) dX10_confirm_24 ⟨Nat.le_of_ble_eq_true rfl, Nat.le_of_ble_eq_true rfl⟩) rfl rfl ?_
      have hs : sConf gm gc x d = (false, 2, gc) := by first | (simp [sConf, inR, tN, c_11, c_19]; done) | (simp [sConf, inR, c_11, c_19]; done)
      refine j_zret (pc := 27) X (b2i_nar _) dX10_confirm_27 ?_
      rw [hs]; exact ⟨rfl, rfl⟩

set_option maxHeartbeats 4000000 in
set_option maxRecDepth 100000 in
theorem mX10_isReached_L5 (l : Launch) (G : jG) (z : Nat) (z4 : Nat) (z5 : Nat) (z6 : Nat) (z9 : Nat) (z10 : Nat) (z11 : Nat) (z12 : Nat) (z14 : Nat) (z15 : Nat) (z16 : Nat) (z19 : Nat) (z20 : Nat) (z21 : Nat) (z22 : Nat) (z23 : Nat) (z25 : Nat) (z26 : Nat) (z27 : Nat) (z28 : Nat) (z30 : Nat) (z31 : Nat) (z32 : Nat) (st : Nat) (th : Nat) (za : Int64) (zb : Int64) (el : Nat) (be : Nat) (gz : Bool) (mm : Nat) (tt : Nat) (gm : Nat) (rn : Nat) (gd : Nat → Nat) (gh : Nat → Option Nat) (gc : Nat → Option Nat) (g : Nat) (day : Nat) (hgd : ∀ k, gd k < 10000) (hgh : ∀ k j, gh k = some j → j < k) (hgc : ∀ k, ob 10000 (gc k)) (hg : g < 40) (hd : day < 10000) (κ : jK) (X : CX κ l yX10_isReached cX10_isReached 5 RX10 wsX10_isReached (some .boolean) ({ frames := 0, cells := 0, slots := 0, locals := 0 }) G (va_A [(z, .inr (10, [.int (nI st), .int (nI th), .long za, .long zb, .ref z4, .ref z5, .ref z6, .int (nI el), .int (nI be), .ref z9, .ref z10, .ref z11, .ref z12, .int (b2i gz), .ref z14, .ref z15, .ref z16, .int (nI mm), .int (nI tt), .ref z19, .ref z20, .ref z21, .ref z22, .ref z23, .int (nI gm), .ref z25, .ref z26, .ref z27, .ref z28, .int (nI rn), .ref z30, .ref z31, .ref z32])), kI G z26 40 (nF gd), kI G z27 40 (oF gh), kI G z28 40 (oF gc)] (js κ).heap.size))    : ∀ (fu : Nat) (ak : Option Nat) (by_ : Nat) (f : Nat) (hak : ob f ak) (hf : f ≤ 40) (hby : by_ < 10000) (hr : rch gc gd gh f ak by_ = rch gc gd gh 40 (some g) day) (_ : f < fu), JJ κ 5 G (va_A [(z, .inr (10, [.int (nI st), .int (nI th), .long za, .long zb, .ref z4, .ref z5, .ref z6, .int (nI el), .int (nI be), .ref z9, .ref z10, .ref z11, .ref z12, .int (b2i gz), .ref z14, .ref z15, .ref z16, .int (nI mm), .int (nI tt), .ref z19, .ref z20, .ref z21, .ref z22, .ref z23, .int (nI gm), .ref z25, .ref z26, .ref z27, .ref z28, .int (nI rn), .ref z30, .ref z31, .ref z32])), kI G z26 40 (nF gd), kI G z27 40 (oF gh), kI G z28 40 (oF gc)] (js κ).heap.size) 0 0 (jQ κ G [(z, .inr (10, [.int (nI st), .int (nI th), .long za, .long zb, .ref z4, .ref z5, .ref z6, .int (nI el), .int (nI be), .ref z9, .ref z10, .ref z11, .ref z12, .int (b2i gz), .ref z14, .ref z15, .ref z16, .int (nI mm), .int (nI tt), .ref z19, .ref z20, .ref z21, .ref z22, .ref z23, .int (nI gm), .ref z25, .ref z26, .ref z27, .ref z28, .int (nI rn), .ref z30, .ref z31, .ref z32])), kI G z26 40 (nF gd), kI G z27 40 (oF gh), kI G z28 40 (oF gc)] (fun r w' => r = some (.int (b2i (rch gc gd gh 40 (some g) day))) ∧ w' = [(z, .inr (10, [.int (nI st), .int (nI th), .long za, .long zb, .ref z4, .ref z5, .ref z6, .int (nI el), .int (nI be), .ref z9, .ref z10, .ref z11, .ref z12, .int (b2i gz), .ref z14, .ref z15, .ref z16, .int (nI mm), .int (nI tt), .ref z19, .ref z20, .ref z21, .ref z22, .ref z23, .int (nI gm), .ref z25, .ref z26, .ref z27, .ref z28, .int (nI rn), .ref z30, .ref z31, .ref z32])), kI G z26 40 (nF gd), kI G z27 40 (oF gh), kI G z28 40 (oF gc)]) 0 0) 5 [(0, .ref z), (3, .int (nI by_)), (4, .int (oI ak))] [] [(z, .inr (10, [.int (nI st), .int (nI th), .long za, .long zb, .ref z4, .ref z5, .ref z6, .int (nI el), .int (nI be), .ref z9, .ref z10, .ref z11, .ref z12, .int (b2i gz), .ref z14, .ref z15, .ref z16, .int (nI mm), .int (nI tt), .ref z19, .ref z20, .ref z21, .ref z22, .ref z23, .int (nI gm), .ref z25, .ref z26, .ref z27, .ref z28, .int (nI rn), .ref z30, .ref z31, .ref z32])), kI G z26 40 (nF gd), kI G z27 40 (oF gh), kI G z28 40 (oF gc)] := by
  have i_X10 : ∀ w ∈ wsX100, w ∈ wsX10_isReached := by decide +kernel
  intro fu
  induction fu with
  | zero => intro ak by_ f hak hf hby hr hms; exact absurd hms (Nat.not_lt_zero _)
  | succ fu ih =>
    intro ak by_ f hak hf hby hr hms
    refine j_iload (pc := 5) X dX10_isReached_5 2 rfl ?_
    refine j_ifO_lt (pc := 7) X (a := ak) (by first | exact hak.big (by omega) | exact (hgc _).big (by decide)) (tgt := 70) dX10_isReached_7 (by decide) (fun c_7 => ?_) (fun c_7 => ?_)
    · skip
      refine j_iconst (pc := 70) X (v := nI 1) dX10_isReached_70 (by decide) ?_
      exact j_zret (pc := 71) X (rfl) dX10_isReached_71 ⟨r1 (by rw [← hr, c_7]; cases f <;> rfl), rfl⟩
    · skip
      obtain ⟨j, rfl⟩ := Option.ne_none_iff_exists'.mp c_7; have hj := hak j rfl
      refine j_aload_n (pc := 10) X dX10_isReached_10 rfl 0 rfl ?_
      refine j_get (pc := 11) X 10 i_X10 0 rfl rfl 28 (by decide) (by decide +kernel) rfl dX10_isReached_11 ?_
      refine j_iload (pc := 14) X dX10_isReached_14 2 rfl ?_
      refine j_iald (pc := 16) X 3 rfl (vp_in_nI (by omega) (by decide)) (v := oI (gc j)) (congrArg (oF gc) (nI_clamp (by omega))) dX10_isReached_16 ?_
      refine j_ifO_lt (pc := 17) X (a := (gc j)) (by first | exact hak.big (by omega) | exact (hgc _).big (by decide)) (tgt := 48) dX10_isReached_17 (by decide) (fun c_17 => ?_) (fun c_17 => ?_)
      · skip
        refine j_iconst (pc := 48) X (v := nI 0) dX10_isReached_48 (by decide) ?_
        exact j_zret (pc := 49) X (rfl) dX10_isReached_49 ⟨r0 (by rw [← hr, show f = (f - 1) + 1 by omega]; first | (simp [rch, hcf, c_7, c_17]; done) | (simp [rch, c_7, c_17]; done) | (simp [rch, hcf, Nat.not_le.mp c_45, c_7, c_17]; done)), rfl⟩
      · skip
        obtain ⟨cf, hcf⟩ := Option.ne_none_iff_exists'.mp c_17
        refine j_aload_n (pc := 20) X dX10_isReached_20 rfl 0 rfl ?_
        refine j_get (pc := 21) X 10 i_X10 0 rfl rfl 28 (by decide) (by decide +kernel) rfl dX10_isReached_21 ?_
        refine j_iload (pc := 24) X dX10_isReached_24 2 rfl ?_
        refine j_iald (pc := 26) X 3 rfl (vp_in_nI (by omega) (by decide)) (v := nI cf) ((congrArg (oF gc) (nI_clamp (by omega))).trans ((by show oI (gc j) = nI cf; rw [hcf]; rfl))) dX10_isReached_26 ?_
        refine j_iload_n (pc := 27) X dX10_isReached_27 rfl 1 rfl ?_
        refine j_icmpN_gt (pc := 28) X (a := cf) (b := by_) (by first | omega | exact Nat.lt_of_lt_of_le (hgd _) (by decide) | exact Nat.lt_of_lt_of_le (hgc _ _ hcf) (by decide)) (by first | omega | exact Nat.lt_of_lt_of_le (hgd _) (by decide) | exact Nat.lt_of_lt_of_le (hgc _ _ hcf) (by decide)) (tgt := 48) dX10_isReached_28 (by decide) (fun c_28 => ?_) (fun c_28 => ?_)
        · skip
          refine j_iconst (pc := 48) X (v := nI 0) dX10_isReached_48 (by decide) ?_
          exact j_zret (pc := 49) X (rfl) dX10_isReached_49 ⟨r0 (by rw [← hr, show f = (f - 1) + 1 by omega]; first | (simp [rch, hcf, c_7, c_17, c_28]; done) | (simp [rch, c_7, c_17, c_28]; done) | (simp [rch, hcf, Nat.not_le.mp c_45, c_7, c_17, c_28]; done)), rfl⟩
        · skip
          refine j_aload_n (pc := 31) X dX10_isReached_31 rfl 0 rfl ?_
          refine j_get (pc := 32) X 10 i_X10 0 rfl rfl 28 (by decide) (by decide +kernel) rfl dX10_isReached_32 ?_
          refine j_iload (pc := 35) X dX10_isReached_35 2 rfl ?_
          refine j_iald (pc := 37) X 3 rfl (vp_in_nI (by omega) (by decide)) (v := nI cf) ((congrArg (oF gc) (nI_clamp (by omega))).trans ((by show oI (gc j) = nI cf; rw [hcf]; rfl))) dX10_isReached_37 ?_
          refine j_aload_n (pc := 38) X dX10_isReached_38 rfl 0 rfl ?_
          refine j_get (pc := 39) X 10 i_X10 0 rfl rfl 26 (by decide) (by decide +kernel) rfl dX10_isReached_39 ?_
          refine j_iload (pc := 42) X dX10_isReached_42 2 rfl ?_
          refine j_iald (pc := 44) X 1 rfl (vp_in_nI (by omega) (by decide)) (v := nI (gd j)) (congrArg (nF gd) (nI_clamp (by omega))) dX10_isReached_44 ?_
          refine j_icmpN_le (pc := 45) X (a := cf) (b := (gd j)) (by first | omega | exact Nat.lt_of_lt_of_le (hgd _) (by decide) | exact Nat.lt_of_lt_of_le (hgc _ _ hcf) (by decide)) (by first | omega | exact Nat.lt_of_lt_of_le (hgd _) (by decide) | exact Nat.lt_of_lt_of_le (hgc _ _ hcf) (by decide)) (tgt := 50) dX10_isReached_45 (by decide) (fun c_45 => ?_) (fun c_45 => ?_)
          · skip
            refine j_aload_n (pc := 50) X dX10_isReached_50 rfl 0 rfl ?_
            refine j_get (pc := 51) X 10 i_X10 0 rfl rfl 28 (by decide) (by decide +kernel) rfl dX10_isReached_51 ?_
            refine j_iload (pc := 54) X dX10_isReached_54 2 rfl ?_
            refine j_iald (pc := 56) X 3 rfl (vp_in_nI (by omega) (by decide)) (v := nI cf) ((congrArg (oF gc) (nI_clamp (by omega))).trans ((by show oI (gc j) = nI cf; rw [hcf]; rfl))) dX10_isReached_56 ?_
            refine j_istore_n (pc := 57) X (lv' := [(3, .int (nI cf)), (0, .ref z), (4, .int (nI j))]) dX10_isReached_57 rfl (by decide) rfl ?_
            refine j_aload_n (pc := 58) X dX10_isReached_58 rfl 1 rfl ?_
            refine j_get (pc := 59) X 10 i_X10 0 rfl rfl 27 (by decide) (by decide +kernel) rfl dX10_isReached_59 ?_
            refine j_iload (pc := 62) X dX10_isReached_62 2 rfl ?_
            refine j_iald (pc := 64) X 2 rfl (vp_in_nI (by omega) (by decide)) (v := oI (gh j)) (congrArg (oF gh) (nI_clamp (by omega))) dX10_isReached_64 ?_
            refine j_istore (pc := 65) X (lv' := [(4, .int (oI (gh j))), (3, .int (nI cf)), (0, .ref z)]) dX10_isReached_65 (by decide) rfl ?_
            refine j_goto (pc := 67) X (tgt := 5) dX10_isReached_67 (by decide) ?_
            refine j_lv [2, 1, 0] (lv' := [(0, .ref z), (3, .int (nI cf)), (4, .int (oI (gh j)))]) rfl ?_
            exact ih (gh j) cf (f - 1) (fun i hi => (by have := hgh _ _ hi; omega)) (by omega) (hgc _ _ hcf) (by rw [← hr, show f = (f - 1) + 1 by omega]; simp [rch, hcf, c_7, c_17, c_28, c_45]) (by omega)
          · skip
            refine j_iconst (pc := 48) X (v := nI 0) dX10_isReached_48 (by decide) ?_
            exact j_zret (pc := 49) X (rfl) dX10_isReached_49 ⟨r0 (by rw [← hr, show f = (f - 1) + 1 by omega]; first | (simp [rch, hcf, c_7, c_17, c_28, c_45]; done) | (simp [rch, c_7, c_17, c_28, c_45]; done) | (simp [rch, hcf, Nat.not_le.mp c_45, c_7, c_17, c_28, c_45]; done)), rfl⟩
set_option maxHeartbeats 4000000 in
set_option maxRecDepth 100000 in
theorem mX10_isReached (l : Launch) (G : jG) (z : Nat) (z4 : Nat) (z5 : Nat) (z6 : Nat) (z9 : Nat) (z10 : Nat) (z11 : Nat) (z12 : Nat) (z14 : Nat) (z15 : Nat) (z16 : Nat) (z19 : Nat) (z20 : Nat) (z21 : Nat) (z22 : Nat) (z23 : Nat) (z25 : Nat) (z26 : Nat) (z27 : Nat) (z28 : Nat) (z30 : Nat) (z31 : Nat) (z32 : Nat) (st : Nat) (th : Nat) (za : Int64) (zb : Int64) (el : Nat) (be : Nat) (gz : Bool) (mm : Nat) (tt : Nat) (gm : Nat) (rn : Nat) (gd : Nat → Nat) (gh : Nat → Option Nat) (gc : Nat → Option Nat) (g : Nat) (day : Nat) (hgd : ∀ k, gd k < 10000) (hgh : ∀ k j, gh k = some j → j < k) (hgc : ∀ k, ob 10000 (gc k)) (hg : g < 40) (hd : day < 10000) : MV l yX10_isReached wsX10_isReached ({ frames := 0, cells := 0, slots := 0, locals := 0 }) G [.ref z, .int (nI g), .int (nI day)] [(z, .inr (10, [.int (nI st), .int (nI th), .long za, .long zb, .ref z4, .ref z5, .ref z6, .int (nI el), .int (nI be), .ref z9, .ref z10, .ref z11, .ref z12, .int (b2i gz), .ref z14, .ref z15, .ref z16, .int (nI mm), .int (nI tt), .ref z19, .ref z20, .ref z21, .ref z22, .ref z23, .int (nI gm), .ref z25, .ref z26, .ref z27, .ref z28, .int (nI rn), .ref z30, .ref z31, .ref z32])), kI G z26 40 (nF gd), kI G z27 40 (oF gh), kI G z28 40 (oF gc)] (some (.int (b2i (rch gc gd gh 40 (some g) day)))) [(z, .inr (10, [.int (nI st), .int (nI th), .long za, .long zb, .ref z4, .ref z5, .ref z6, .int (nI el), .int (nI be), .ref z9, .ref z10, .ref z11, .ref z12, .int (b2i gz), .ref z14, .ref z15, .ref z16, .int (nI mm), .int (nI tt), .ref z19, .ref z20, .ref z21, .ref z22, .ref z23, .int (nI gm), .ref z25, .ref z26, .ref z27, .ref z28, .int (nI rn), .ref z30, .ref z31, .ref z32])), kI G z26 40 (nF gd), kI G z27 40 (oF gh), kI G z28 40 (oF gc)] := by
  refine MF.ofJ (cc := cX10_isReached) (maxL := 5) (ret := (some .boolean)) (own := RX10) (lv := [(0, .ref z), (1, .int (nI g)), (2, .int (nI day))]) (by decide) rfl rfl (Nat.le_of_ble_eq_true rfl) rfl ?_
  intro κ X
  have i_X10 : ∀ w ∈ wsX100, w ∈ wsX10_isReached := by decide +kernel
  refine j_iload_n (pc := 0) X dX10_isReached_0 rfl 2 rfl ?_
  refine j_istore_n (pc := 1) X (lv' := [(3, .int (nI day)), (0, .ref z), (1, .int (nI g)), (2, .int (nI day))]) dX10_isReached_1 rfl (by decide) rfl ?_
  refine j_iload_n (pc := 2) X dX10_isReached_2 rfl 2 rfl ?_
  refine j_istore (pc := 3) X (lv' := [(4, .int (nI g)), (3, .int (nI day)), (0, .ref z), (1, .int (nI g)), (2, .int (nI day))]) dX10_isReached_3 (by decide) rfl ?_
  refine j_lv [2, 1, 0] (lv' := [(0, .ref z), (3, .int (nI day)), (4, .int (nI g))]) rfl ?_
  refine j_lvq (lv' := [(0, .ref z), (3, .int (nI day)), (4, .int (oI (some g)))]) rfl ?_
  exact mX10_isReached_L5 l G z z4 z5 z6 z9 z10 z11 z12 z14 z15 z16 z19 z20 z21 z22 z23 z25 z26 z27 z28 z30 z31 z32 st th za zb el be gz mm tt gm rn gd gh gc g day hgd hgh hgc hg hd κ X    (40 + 1) (some g) day 40 (ob_s hg) (by omega) (by omega) (by rfl) (Nat.lt_succ_self _)

set_option maxHeartbeats 4000000 in
set_option maxRecDepth 100000 in
theorem mX10_goalAt (l : Launch) (G : jG) (z : Nat) (z4 : Nat) (z5 : Nat) (z6 : Nat) (z9 : Nat) (z10 : Nat) (z11 : Nat) (z12 : Nat) (z14 : Nat) (z15 : Nat) (z16 : Nat) (z19 : Nat) (z20 : Nat) (z21 : Nat) (z22 : Nat) (z23 : Nat) (z25 : Nat) (z26 : Nat) (z27 : Nat) (z28 : Nat) (z30 : Nat) (z31 : Nat) (z32 : Nat) (st : Nat) (th : Nat) (za : Int64) (zb : Int64) (el : Nat) (be : Nat) (gz : Bool) (mm : Nat) (tt : Nat) (gm : Nat) (rn : Nat) (gd : Nat → Nat) (gh : Nat → Option Nat) (gc : Nat → Option Nat) (x : Int32) (d : Int32) (hgm : gm ≤ 40) (hgd : ∀ k, gd k < 10000) (hgh : ∀ k j, gh k = some j → j < k) (hgc : ∀ k, ob 10000 (gc k)) : MV l yX10_goalAt wsX10_goalAt ({ frames := 1, cells := 0, slots := 0, locals := 24 }) G [.ref z, .int x, .int d] [(z, .inr (10, [.int (nI st), .int (nI th), .long za, .long zb, .ref z4, .ref z5, .ref z6, .int (nI el), .int (nI be), .ref z9, .ref z10, .ref z11, .ref z12, .int (b2i gz), .ref z14, .ref z15, .ref z16, .int (nI mm), .int (nI tt), .ref z19, .ref z20, .ref z21, .ref z22, .ref z23, .int (nI gm), .ref z25, .ref z26, .ref z27, .ref z28, .int (nI rn), .ref z30, .ref z31, .ref z32])), kI G z26 40 (nF gd), kI G z27 40 (oF gh), kI G z28 40 (oF gc)] (some (.int (oI ((sGat gm gd gh gc x d).1)))) [(z, .inr (10, [.int (nI ((sGat gm gd gh gc x d).2)), .int (nI 0), .long za, .long zb, .ref z4, .ref z5, .ref z6, .int (nI el), .int (nI be), .ref z9, .ref z10, .ref z11, .ref z12, .int (b2i gz), .ref z14, .ref z15, .ref z16, .int (nI mm), .int (nI tt), .ref z19, .ref z20, .ref z21, .ref z22, .ref z23, .int (nI gm), .ref z25, .ref z26, .ref z27, .ref z28, .int (nI rn), .ref z30, .ref z31, .ref z32])), kI G z26 40 (nF gd), kI G z27 40 (oF gh), kI G z28 40 (oF gc)] := by
  refine MF.ofJ (cc := cX10_goalAt) (maxL := 3) (ret := (some .int)) (own := RX10) (lv := [(0, .ref z), (1, .int x), (2, .int d)]) (by decide) rfl rfl (Nat.le_of_ble_eq_true rfl) rfl ?_
  intro κ X
  have i_X10 : ∀ w ∈ wsX100, w ∈ wsX10_goalAt := by decide +kernel
  refine j_aload_n (pc := 0) X dX10_goalAt_0 rfl 0 rfl ?_
  refine j_iconst (pc := 1) X (v := nI 0) dX10_goalAt_1 (by decide) ?_
  refine j_put (pc := 2) X (v := .int (nI 0)) (ws' := [(z, .inr (10, [.int (nI st), .int (nI 0), .long za, .long zb, .ref z4, .ref z5, .ref z6, .int (nI el), .int (nI be), .ref z9, .ref z10, .ref z11, .ref z12, .int (b2i gz), .ref z14, .ref z15, .ref z16, .int (nI mm), .int (nI tt), .ref z19, .ref z20, .ref z21, .ref z22, .ref z23, .int (nI gm), .ref z25, .ref z26, .ref z27, .ref z28, .int (nI rn), .ref z30, .ref z31, .ref z32])), kI G z26 40 (nF gd), kI G z27 40 (oF gh), kI G z28 40 (oF gc)]) 10 i_X10 tyX10 tyX10_ok nmX10 0 rfl rfl 1 (by decide) (by decide +kernel) (by decide) (rfl) (rfl) (Nat.le_of_ble_eq_true rfl) dX10_goalAt_2 rfl ?_
  refine j_aload_n (pc := 5) X dX10_goalAt_5 rfl 0 rfl ?_
  refine j_iconst (pc := 6) X (v := nI 0) dX10_goalAt_6 (by decide) ?_
  refine j_put (pc := 7) X (v := .int (nI 0)) (ws' := [(z, .inr (10, [.int (nI 0), .int (nI 0), .long za, .long zb, .ref z4, .ref z5, .ref z6, .int (nI el), .int (nI be), .ref z9, .ref z10, .ref z11, .ref z12, .int (b2i gz), .ref z14, .ref z15, .ref z16, .int (nI mm), .int (nI tt), .ref z19, .ref z20, .ref z21, .ref z22, .ref z23, .int (nI gm), .ref z25, .ref z26, .ref z27, .ref z28, .int (nI rn), .ref z30, .ref z31, .ref z32])), kI G z26 40 (nF gd), kI G z27 40 (oF gh), kI G z28 40 (oF gc)]) 10 i_X10 tyX10 tyX10_ok nmX10 0 rfl rfl 0 (by decide) (by decide +kernel) (by decide) (rfl) (rfl) (Nat.le_of_ble_eq_true rfl) dX10_goalAt_7 rfl ?_
  refine j_iload_n (pc := 10) X dX10_goalAt_10 rfl 1 rfl ?_
  refine j_if_lt (pc := 11) X (x := x) (tgt := 22) dX10_goalAt_11 (by decide) (fun c_11 => ?_) (fun c_11 => ?_)
  · skip
    refine j_aload_n (pc := 22) X dX10_goalAt_22 rfl 0 rfl ?_
    refine j_iconst (pc := 23) X (v := nI 2) dX10_goalAt_23 (by decide) ?_
    refine j_ci (pc := 24) X (ws' := [(z, .inr (10, [.int (nI 2), .int (nI 0), .long za, .long zb, .ref z4, .ref z5, .ref z6, .int (nI el), .int (nI be), .ref z9, .ref z10, .ref z11, .ref z12, .int (b2i gz), .ref z14, .ref z15, .ref z16, .int (nI mm), .int (nI tt), .ref z19, .ref z20, .ref z21, .ref z22, .ref z23, .int (nI gm), .ref z25, .ref z26, .ref z27, .ref z28, .int (nI rn), .ref z30, .ref z31, .ref z32])), kI G z26 40 (nF gd), kI G z27 40 (oF gh), kI G z28 40 (oF gc)]) [0] rfl (j_rV X (b := z) (As := [.int (nI 2)]) (ci := 10) (rest := []) 1 (mX10_refuse l G z z4 z5 z6 z9 z10 z11 z12 z14 z15 z16 z19 z20 z21 z22 z23 z25 z26 z27 z28 z30 z31 z32 0 0 za zb el be gz mm tt gm rn 2 ) gX10_goalAt_X10_refuse rfl rfl rfl (by decide +kernel) ⟨Nat.le_of_ble_eq_true rfl, Nat.le_of_ble_eq_true rfl⟩ rfl rfl 0 rfl [0] rfl rfl rfl (Nat.le_of_ble_eq_true rfl) dX10_goalAt_24 ⟨Nat.le_of_ble_eq_true rfl, Nat.le_of_ble_eq_true rfl⟩) rfl rfl ?_
    have hs : sGat gm gd gh gc x d = (none, 2) := by first | (simp [sGat, inR, tN, c_11]; done) | (simp [sGat, inR, c_11]; done)
    refine j_iret (pc := 27) X dX10_goalAt_27 ?_
    rw [hs]; exact ⟨rfl, rfl⟩
  · skip
    refine j_iload_n (pc := 14) X dX10_goalAt_14 rfl 1 rfl ?_
    refine j_aload_n (pc := 15) X dX10_goalAt_15 rfl 0 rfl ?_
    refine j_get (pc := 16) X 10 i_X10 0 rfl rfl 24 (by decide) (by decide +kernel) rfl dX10_goalAt_16 ?_
    refine j_icmp_lt (pc := 19) X (x := x) (z := nI gm) (tgt := 28) dX10_goalAt_19 (by decide) (fun c_19 => ?_) (fun c_19 => ?_)
    · skip
      obtain ⟨j, hj, rfl⟩ := rngl_of c_11 c_19 (by omega); have hq_j := nI_clamp (n := j) (by omega)
      refine j_iload_n (pc := 28) X dX10_goalAt_28 rfl 2 rfl ?_
      refine j_ciP (pc := 29) X [] rfl (j_rS X (As := [.int d]) (rest := []) 1 (mX10_isDay l G d ) gX10_goalAt_X10_isDay rfl rfl rfl (by decide +kernel) ⟨Nat.le_of_ble_eq_true rfl, Nat.le_of_ble_eq_true rfl⟩ rfl [] rfl rfl rfl (Nat.le_of_ble_eq_true rfl) dX10_goalAt_29 ⟨Nat.le_of_ble_eq_true rfl, Nat.le_of_ble_eq_true rfl⟩) ?_
      refine j_ifb_ne (pc := 32) X (B := inC d 9999) (tgt := 41) dX10_goalAt_32 (by decide) (fun c_32 => ?_) (fun c_32 => ?_)
      · skip
        obtain ⟨k, hk, rfl⟩ := inC_of c_32 (by decide); have hq_k := nI_clamp (n := k) (by omega)
        refine j_aload_n (pc := 41) X dX10_goalAt_41 rfl 0 rfl ?_
        refine j_iload_n (pc := 42) X dX10_goalAt_42 rfl 1 rfl ?_
        refine j_iload_n (pc := 43) X dX10_goalAt_43 rfl 2 rfl ?_
        refine j_ciP (pc := 44) X [0, 1, 2, 3] rfl (j_rV X (b := z) (As := [.int (nI j), .int (nI k)]) (ci := 10) (rest := []) 2 (mX10_isReached l G z z4 z5 z6 z9 z10 z11 z12 z14 z15 z16 z19 z20 z21 z22 z23 z25 z26 z27 z28 z30 z31 z32 0 0 za zb el be gz mm tt gm rn gd gh gc j k (by first | assumption | omega | exact ob_s (by omega) | exact ob_n) (by first | assumption | omega | exact ob_s (by omega) | exact ob_n) (by first | assumption | omega | exact ob_s (by omega) | exact ob_n) (by first | assumption | omega | exact ob_s (by omega) | exact ob_n) (by first | assumption | omega | exact ob_s (by omega) | exact ob_n)) gX10_goalAt_X10_isReached rfl rfl rfl (by decide +kernel) ⟨Nat.le_of_ble_eq_true rfl, Nat.le_of_ble_eq_true rfl⟩ rfl rfl 0 rfl [0, 1, 2, 3] rfl rfl rfl (Nat.le_of_ble_eq_true rfl) dX10_goalAt_44 ⟨Nat.le_of_ble_eq_true rfl, Nat.le_of_ble_eq_true rfl⟩) ?_
        refine j_ifb_eq (pc := 47) X (B := rch gc gd gh 40 (some j) k) (tgt := 54) dX10_goalAt_47 (by decide) (fun c_47 => ?_) (fun c_47 => ?_)
        · skip
          refine j_iload_n (pc := 54) X dX10_goalAt_54 rfl 2 rfl ?_
          refine j_aload_n (pc := 55) X dX10_goalAt_55 rfl 0 rfl ?_
          refine j_get (pc := 56) X 10 i_X10 0 rfl rfl 26 (by decide) (by decide +kernel) rfl dX10_goalAt_56 ?_
          refine j_iload_n (pc := 59) X dX10_goalAt_59 rfl 1 rfl ?_
          refine j_iald (pc := 60) X 1 rfl (vp_in_nI (by omega) (by decide)) (v := nI (gd j)) (congrArg (nF gd) (nI_clamp (by omega))) dX10_goalAt_60 ?_
          refine j_icmpN_le (pc := 61) X (a := k) (b := (gd j)) (by first | omega | exact Nat.lt_of_lt_of_le (hgd _) (by decide)) (by first | omega | exact Nat.lt_of_lt_of_le (hgd _) (by decide)) (tgt := 68) dX10_goalAt_61 (by decide) (fun c_61 => ?_) (fun c_61 => ?_)
          · skip
            refine j_iconst (pc := 68) X (v := nI 0) dX10_goalAt_68 (by decide) ?_
            have hs : sGat gm gd gh gc (nI j) (nI k) = (some 0, 0) := by first | (simp [sGat, inR, tN, hq_j, hq_k, c_11, c_19, c_32, c_47, c_61]; done) | (simp [sGat, inR, c_11, c_19, c_32, c_47, c_61]; done)
            refine j_iret (pc := 69) X dX10_goalAt_69 ?_
            rw [hs]; exact ⟨rfl, rfl⟩
          · skip
            refine j_iconst (pc := 64) X (v := nI 2) dX10_goalAt_64 (by decide) ?_
            refine j_goto (pc := 65) X (tgt := 69) dX10_goalAt_65 (by decide) ?_
            have hs : sGat gm gd gh gc (nI j) (nI k) = (some 2, 0) := by first | (simp [sGat, inR, tN, hq_j, hq_k, c_11, c_19, c_32, c_47, c_61]; done) | (simp [sGat, inR, c_11, c_19, c_32, c_47, c_61]; done)
            refine j_iret (pc := 69) X dX10_goalAt_69 ?_
            rw [hs]; exact ⟨rfl, rfl⟩
        · skip
          refine j_iconst (pc := 50) X (v := nI 1) dX10_goalAt_50 (by decide) ?_
          refine j_goto (pc := 51) X (tgt := 69) dX10_goalAt_51 (by decide) ?_
          have hs : sGat gm gd gh gc (nI j) (nI k) = (some 1, 0) := by first | (simp [sGat, inR, tN, hq_j, hq_k, c_11, c_19, c_32, c_47]; done) | (simp [sGat, inR, c_11, c_19, c_32, c_47]; done)
          refine j_iret (pc := 69) X dX10_goalAt_69 ?_
          rw [hs]; exact ⟨rfl, rfl⟩
      · skip
        refine j_aload_n (pc := 35) X dX10_goalAt_35 rfl 0 rfl ?_
        refine j_iconst (pc := 36) X (v := nI 5) dX10_goalAt_36 (by decide) ?_
        refine j_ci (pc := 37) X (ws' := [(z, .inr (10, [.int (nI 5), .int (nI 0), .long za, .long zb, .ref z4, .ref z5, .ref z6, .int (nI el), .int (nI be), .ref z9, .ref z10, .ref z11, .ref z12, .int (b2i gz), .ref z14, .ref z15, .ref z16, .int (nI mm), .int (nI tt), .ref z19, .ref z20, .ref z21, .ref z22, .ref z23, .int (nI gm), .ref z25, .ref z26, .ref z27, .ref z28, .int (nI rn), .ref z30, .ref z31, .ref z32])), kI G z26 40 (nF gd), kI G z27 40 (oF gh), kI G z28 40 (oF gc)]) [0] rfl (j_rV X (b := z) (As := [.int (nI 5)]) (ci := 10) (rest := []) 1 (mX10_refuse l G z z4 z5 z6 z9 z10 z11 z12 z14 z15 z16 z19 z20 z21 z22 z23 z25 z26 z27 z28 z30 z31 z32 0 0 za zb el be gz mm tt gm rn 5 ) gX10_goalAt_X10_refuse rfl rfl rfl (by decide +kernel) ⟨Nat.le_of_ble_eq_true rfl, Nat.le_of_ble_eq_true rfl⟩ rfl rfl 0 rfl [0] rfl rfl rfl (Nat.le_of_ble_eq_true rfl) dX10_goalAt_37 ⟨Nat.le_of_ble_eq_true rfl, Nat.le_of_ble_eq_true rfl⟩) rfl rfl ?_
        have hs : sGat gm gd gh gc (nI j) d = (none, 5) := by first | (simp [sGat, inR, tN, hq_j, c_11, c_19, c_32]; done) | (simp [sGat, inR, c_11, c_19, c_32]; done)
        refine j_iret (pc := 40) X dX10_goalAt_40 ?_
        rw [hs]; exact ⟨rfl, rfl⟩
    · skip
      refine j_aload_n (pc := 22) X dX10_goalAt_22 rfl 0 rfl ?_
      refine j_iconst (pc := 23) X (v := nI 2) dX10_goalAt_23 (by decide) ?_
      refine j_ci (pc := 24) X (ws' := [(z, .inr (10, [.int (nI 2), .int (nI 0), .long za, .long zb, .ref z4, .ref z5, .ref z6, .int (nI el), .int (nI be), .ref z9, .ref z10, .ref z11, .ref z12, .int (b2i gz), .ref z14, .ref z15, .ref z16, .int (nI mm), .int (nI tt), .ref z19, .ref z20, .ref z21, .ref z22, .ref z23, .int (nI gm), .ref z25, .ref z26, .ref z27, .ref z28, .int (nI rn), .ref z30, .ref z31, .ref z32])), kI G z26 40 (nF gd), kI G z27 40 (oF gh), kI G z28 40 (oF gc)]) [0] rfl (j_rV X (b := z) (As := [.int (nI 2)]) (ci := 10) (rest := []) 1 (mX10_refuse l G z z4 z5 z6 z9 z10 z11 z12 z14 z15 z16 z19 z20 z21 z22 z23 z25 z26 z27 z28 z30 z31 z32 0 0 za zb el be gz mm tt gm rn 2 ) gX10_goalAt_X10_refuse rfl rfl rfl (by decide +kernel) ⟨Nat.le_of_ble_eq_true rfl, Nat.le_of_ble_eq_true rfl⟩ rfl rfl 0 rfl [0] rfl rfl rfl (Nat.le_of_ble_eq_true rfl) dX10_goalAt_24 ⟨Nat.le_of_ble_eq_true rfl, Nat.le_of_ble_eq_true rfl⟩) rfl rfl ?_
      have hs : sGat gm gd gh gc x d = (none, 2) := by first | (simp [sGat, inR, tN, c_11, c_19]; done) | (simp [sGat, inR, c_11, c_19]; done)
      refine j_iret (pc := 27) X dX10_goalAt_27 ?_
      rw [hs]; exact ⟨rfl, rfl⟩

set_option maxHeartbeats 4000000 in
set_option maxRecDepth 100000 in
theorem mX10_run (l : Launch) (G : jG) (z : Nat) (z4 : Nat) (z5 : Nat) (z6 : Nat) (z9 : Nat) (z10 : Nat) (z11 : Nat) (z12 : Nat) (z14 : Nat) (z15 : Nat) (z16 : Nat) (z19 : Nat) (z20 : Nat) (z21 : Nat) (z22 : Nat) (z23 : Nat) (z25 : Nat) (z26 : Nat) (z27 : Nat) (z28 : Nat) (z30 : Nat) (z31 : Nat) (z32 : Nat) (st : Nat) (th : Nat) (za : Int64) (zb : Int64) (el : Nat) (be : Nat) (gz : Bool) (mm : Nat) (tt : Nat) (gm : Nat) (rn : Nat) (mo : Nat → Nat) (re : Nat → Bool) (m : Int32) (en : Bool) (hrn : rn ≤ 16) : MV l yX10_run wsX10_run ({ frames := 1, cells := 0, slots := 0, locals := 21 }) G [.ref z, .int m, .int (b2i en)] [(z, .inr (10, [.int (nI st), .int (nI th), .long za, .long zb, .ref z4, .ref z5, .ref z6, .int (nI el), .int (nI be), .ref z9, .ref z10, .ref z11, .ref z12, .int (b2i gz), .ref z14, .ref z15, .ref z16, .int (nI mm), .int (nI tt), .ref z19, .ref z20, .ref z21, .ref z22, .ref z23, .int (nI gm), .ref z25, .ref z26, .ref z27, .ref z28, .int (nI rn), .ref z30, .ref z31, .ref z32])), kI G z30 16 (nF mo), kZ G z31 16 (bF re)] (some (.int (b2i ((sRun rn mo re m en).1)))) [(z, .inr (10, [.int (nI ((sRun rn mo re m en).2.1)), .int (nI 0), .long za, .long zb, .ref z4, .ref z5, .ref z6, .int (nI el), .int (nI be), .ref z9, .ref z10, .ref z11, .ref z12, .int (b2i gz), .ref z14, .ref z15, .ref z16, .int (nI mm), .int (nI tt), .ref z19, .ref z20, .ref z21, .ref z22, .ref z23, .int (nI gm), .ref z25, .ref z26, .ref z27, .ref z28, .int (nI ((sRun rn mo re m en).2.2.1)), .ref z30, .ref z31, .ref z32])), kI G z30 16 (nF ((sRun rn mo re m en).2.2.2.1)), kZ G z31 16 (bF ((sRun rn mo re m en).2.2.2.2))] := by
  refine MF.ofJ (cc := cX10_run) (maxL := 3) (ret := (some .boolean)) (own := RX10) (lv := [(0, .ref z), (1, .int m), (2, .int (b2i en))]) (by decide) rfl rfl (Nat.le_of_ble_eq_true rfl) rfl ?_
  intro κ X
  have i_X10 : ∀ w ∈ wsX100, w ∈ wsX10_run := by decide +kernel
  refine j_aload_n (pc := 0) X dX10_run_0 rfl 0 rfl ?_
  refine j_iconst (pc := 1) X (v := nI 0) dX10_run_1 (by decide) ?_
  refine j_put (pc := 2) X (v := .int (nI 0)) (ws' := [(z, .inr (10, [.int (nI st), .int (nI 0), .long za, .long zb, .ref z4, .ref z5, .ref z6, .int (nI el), .int (nI be), .ref z9, .ref z10, .ref z11, .ref z12, .int (b2i gz), .ref z14, .ref z15, .ref z16, .int (nI mm), .int (nI tt), .ref z19, .ref z20, .ref z21, .ref z22, .ref z23, .int (nI gm), .ref z25, .ref z26, .ref z27, .ref z28, .int (nI rn), .ref z30, .ref z31, .ref z32])), kI G z30 16 (nF mo), kZ G z31 16 (bF re)]) 10 i_X10 tyX10 tyX10_ok nmX10 0 rfl rfl 1 (by decide) (by decide +kernel) (by decide) (rfl) (rfl) (Nat.le_of_ble_eq_true rfl) dX10_run_2 rfl ?_
  refine j_aload_n (pc := 5) X dX10_run_5 rfl 0 rfl ?_
  refine j_iconst (pc := 6) X (v := nI 0) dX10_run_6 (by decide) ?_
  refine j_put (pc := 7) X (v := .int (nI 0)) (ws' := [(z, .inr (10, [.int (nI 0), .int (nI 0), .long za, .long zb, .ref z4, .ref z5, .ref z6, .int (nI el), .int (nI be), .ref z9, .ref z10, .ref z11, .ref z12, .int (b2i gz), .ref z14, .ref z15, .ref z16, .int (nI mm), .int (nI tt), .ref z19, .ref z20, .ref z21, .ref z22, .ref z23, .int (nI gm), .ref z25, .ref z26, .ref z27, .ref z28, .int (nI rn), .ref z30, .ref z31, .ref z32])), kI G z30 16 (nF mo), kZ G z31 16 (bF re)]) 10 i_X10 tyX10 tyX10_ok nmX10 0 rfl rfl 0 (by decide) (by decide +kernel) (by decide) (rfl) (rfl) (Nat.le_of_ble_eq_true rfl) dX10_run_7 rfl ?_
  refine j_iload_n (pc := 10) X dX10_run_10 rfl 1 rfl ?_
  refine j_iconst (pc := 11) X (v := nI 1) dX10_run_11 (by decide) ?_
  refine j_icmp_lt (pc := 12) X (x := m) (z := nI 1) (tgt := 21) dX10_run_12 (by decide) (fun c_12 => ?_) (fun c_12 => ?_)
  · skip
    refine j_aload_n (pc := 21) X dX10_run_21 rfl 0 rfl ?_
    refine j_iconst (pc := 22) X (v := nI 5) dX10_run_22 (by decide) ?_
    refine j_ci (pc := 23) X (ws' := [(z, .inr (10, [.int (nI 5), .int (nI 0), .long za, .long zb, .ref z4, .ref z5, .ref z6, .int (nI el), .int (nI be), .ref z9, .ref z10, .ref z11, .ref z12, .int (b2i gz), .ref z14, .ref z15, .ref z16, .int (nI mm), .int (nI tt), .ref z19, .ref z20, .ref z21, .ref z22, .ref z23, .int (nI gm), .ref z25, .ref z26, .ref z27, .ref z28, .int (nI rn), .ref z30, .ref z31, .ref z32])), kI G z30 16 (nF mo), kZ G z31 16 (bF re)]) [0] rfl (j_rV X (b := z) (As := [.int (nI 5)]) (ci := 10) (rest := []) 1 (mX10_no l G z z4 z5 z6 z9 z10 z11 z12 z14 z15 z16 z19 z20 z21 z22 z23 z25 z26 z27 z28 z30 z31 z32 0 0 za zb el be gz mm tt gm rn 5 ) gX10_run_X10_no rfl rfl rfl (by decide +kernel) ⟨Nat.le_of_ble_eq_true rfl, Nat.le_of_ble_eq_true rfl⟩ rfl rfl 0 rfl [0] rfl rfl rfl (Nat.le_of_ble_eq_true rfl) dX10_run_23 ⟨Nat.le_of_ble_eq_true rfl, Nat.le_of_ble_eq_true rfl⟩) rfl rfl ?_
    have hs : sRun rn mo re m en = (false, 5, rn, mo, re) := by first | (simp [sRun, in1, tN, c_12]; done) | (simp [sRun, in1, c_12]; done)
    refine j_zret (pc := 26) X (b2i_nar _) dX10_run_26 ?_
    rw [hs]; exact ⟨rfl, rfl⟩
  · skip
    refine j_iload_n (pc := 15) X dX10_run_15 rfl 1 rfl ?_
    refine j_bipush (pc := 16) X (v := nI 60) dX10_run_16 (by decide) ?_
    refine j_icmp_le (pc := 18) X (x := m) (z := nI 60) (tgt := 27) dX10_run_18 (by decide) (fun c_18 => ?_) (fun c_18 => ?_)
    · skip
      obtain ⟨j, hj1, hj, rfl⟩ := rng_of1 c_12 c_18 (by decide); have hq_j := nI_clamp (n := j) (by omega)
      refine j_aload_n (pc := 27) X dX10_run_27 rfl 0 rfl ?_
      refine j_get (pc := 28) X 10 i_X10 0 rfl rfl 29 (by decide) (by decide +kernel) rfl dX10_run_28 ?_
      refine j_bipush (pc := 31) X (v := nI 16) dX10_run_31 (by decide) ?_
      refine j_icmpN_ne (pc := 33) X (a := rn) (b := 16) (by omega) (by omega) (tgt := 43) dX10_run_33 (by decide) (fun c_33 => ?_) (fun c_33 => ?_)
      · skip
        have hq_l : rn < 16 := by omega
        refine j_aload_n (pc := 43) X dX10_run_43 rfl 0 rfl ?_
        refine j_get (pc := 44) X 10 i_X10 0 rfl rfl 30 (by decide) (by decide +kernel) rfl dX10_run_44 ?_
        refine j_aload_n (pc := 47) X dX10_run_47 rfl 0 rfl ?_
        refine j_get (pc := 48) X 10 i_X10 0 rfl rfl 29 (by decide) (by decide +kernel) rfl dX10_run_48 ?_
        refine j_iload_n (pc := 51) X dX10_run_51 rfl 1 rfl ?_
        refine j_iast (pc := 52) X (f2 := (nF (va_up mo rn j))) (ws' := [(z, .inr (10, [.int (nI 0), .int (nI 0), .long za, .long zb, .ref z4, .ref z5, .ref z6, .int (nI el), .int (nI be), .ref z9, .ref z10, .ref z11, .ref z12, .int (b2i gz), .ref z14, .ref z15, .ref z16, .int (nI mm), .int (nI tt), .ref z19, .ref z20, .ref z21, .ref z22, .ref z23, .int (nI gm), .ref z25, .ref z26, .ref z27, .ref z28, .int (nI rn), .ref z30, .ref z31, .ref z32])), kI G z30 16 (nF (va_up mo rn j)), kZ G z31 16 (bF re)]) 1 rfl (vp_in_nI (by omega) (by decide)) dX10_run_52 (by rw [nI_clamp (by omega)]; exact nF_up mo rn j) rfl ?_
        refine j_aload_n (pc := 53) X dX10_run_53 rfl 0 rfl ?_
        refine j_get (pc := 54) X 10 i_X10 0 rfl rfl 31 (by decide) (by decide +kernel) rfl dX10_run_54 ?_
        refine j_aload_n (pc := 57) X dX10_run_57 rfl 0 rfl ?_
        refine j_get (pc := 58) X 10 i_X10 0 rfl rfl 29 (by decide) (by decide +kernel) rfl dX10_run_58 ?_
        refine j_iload_n (pc := 61) X dX10_run_61 rfl 2 rfl ?_
        refine j_zast (pc := 62) X (f2 := (bF (va_up re rn en))) (ws' := [(z, .inr (10, [.int (nI 0), .int (nI 0), .long za, .long zb, .ref z4, .ref z5, .ref z6, .int (nI el), .int (nI be), .ref z9, .ref z10, .ref z11, .ref z12, .int (b2i gz), .ref z14, .ref z15, .ref z16, .int (nI mm), .int (nI tt), .ref z19, .ref z20, .ref z21, .ref z22, .ref z23, .int (nI gm), .ref z25, .ref z26, .ref z27, .ref z28, .int (nI rn), .ref z30, .ref z31, .ref z32])), kI G z30 16 (nF (va_up mo rn j)), kZ G z31 16 (bF (va_up re rn en))]) 2 rfl (vp_in_nI (by omega) (by decide)) dX10_run_62 (b2i_vnar _) (by rw [nI_clamp (by omega)]; exact bF_up re rn en) rfl ?_
        refine j_aload_n (pc := 63) X dX10_run_63 rfl 0 rfl ?_
        refine j_dup (pc := 64) X dX10_run_64 rfl ?_
        refine j_get (pc := 65) X 10 i_X10 0 rfl rfl 29 (by decide) (by decide +kernel) rfl dX10_run_65 ?_
        refine j_iconst (pc := 68) X (v := nI 1) dX10_run_68 (by decide) ?_
        refine j_iadd (pc := 69) X dX10_run_69 ?_
        refine j_topi (z := nI (rn + 1)) (nI_add _ _) ?_
        refine j_put (pc := 70) X (v := .int (nI (rn + 1))) (ws' := [(z, .inr (10, [.int (nI 0), .int (nI 0), .long za, .long zb, .ref z4, .ref z5, .ref z6, .int (nI el), .int (nI be), .ref z9, .ref z10, .ref z11, .ref z12, .int (b2i gz), .ref z14, .ref z15, .ref z16, .int (nI mm), .int (nI tt), .ref z19, .ref z20, .ref z21, .ref z22, .ref z23, .int (nI gm), .ref z25, .ref z26, .ref z27, .ref z28, .int (nI (rn + 1)), .ref z30, .ref z31, .ref z32])), kI G z30 16 (nF (va_up mo rn j)), kZ G z31 16 (bF (va_up re rn en))]) 10 i_X10 tyX10 tyX10_ok nmX10 0 rfl rfl 29 (by decide) (by decide +kernel) (by decide) (rfl) (rfl) (Nat.le_of_ble_eq_true rfl) dX10_run_70 rfl ?_
        refine j_iconst (pc := 73) X (v := nI 1) dX10_run_73 (by decide) ?_
        have hs : sRun rn mo re (nI j) en = (true, 0, rn + 1, va_up mo rn j, va_up re rn en) := by first | (simp [sRun, in1, tN, hq_j, hq_l, c_12, c_18, c_33]; done) | (simp [sRun, in1, c_12, c_18, c_33]; done)
        refine j_zret (pc := 74) X (rfl) dX10_run_74 ?_
        rw [hs]; exact ⟨rfl, rfl⟩
      · skip
        have hq_l : ¬ rn < 16 := by omega
        refine j_aload_n (pc := 36) X dX10_run_36 rfl 0 rfl ?_
        refine j_bipush (pc := 37) X (v := nI 7) dX10_run_37 (by decide) ?_
        refine j_ci (pc := 39) X (ws' := [(z, .inr (10, [.int (nI 7), .int (nI 0), .long za, .long zb, .ref z4, .ref z5, .ref z6, .int (nI el), .int (nI be), .ref z9, .ref z10, .ref z11, .ref z12, .int (b2i gz), .ref z14, .ref z15, .ref z16, .int (nI mm), .int (nI tt), .ref z19, .ref z20, .ref z21, .ref z22, .ref z23, .int (nI gm), .ref z25, .ref z26, .ref z27, .ref z28, .int (nI rn), .ref z30, .ref z31, .ref z32])), kI G z30 16 (nF mo), kZ G z31 16 (bF re)]) [0] rfl (j_rV X (b := z) (As := [.int (nI 7)]) (ci := 10) (rest := []) 1 (mX10_no l G z z4 z5 z6 z9 z10 z11 z12 z14 z15 z16 z19 z20 z21 z22 z23 z25 z26 z27 z28 z30 z31 z32 0 0 za zb el be gz mm tt gm rn 7 ) gX10_run_X10_no rfl rfl rfl (by decide +kernel) ⟨Nat.le_of_ble_eq_true rfl, Nat.le_of_ble_eq_true rfl⟩ rfl rfl 0 rfl [0] rfl rfl rfl (Nat.le_of_ble_eq_true rfl) dX10_run_39 ⟨Nat.le_of_ble_eq_true rfl, Nat.le_of_ble_eq_true rfl⟩) rfl rfl ?_
        have hs : sRun rn mo re (nI j) en = (false, 7, rn, mo, re) := by first | (simp [sRun, in1, tN, hq_j, hq_l, c_12, c_18, c_33]; done) | (simp [sRun, in1, c_12, c_18, c_33]; done)
        refine j_zret (pc := 42) X (b2i_nar _) dX10_run_42 ?_
        rw [hs]; exact ⟨rfl, rfl⟩
    · skip
      refine j_aload_n (pc := 21) X dX10_run_21 rfl 0 rfl ?_
      refine j_iconst (pc := 22) X (v := nI 5) dX10_run_22 (by decide) ?_
      refine j_ci (pc := 23) X (ws' := [(z, .inr (10, [.int (nI 5), .int (nI 0), .long za, .long zb, .ref z4, .ref z5, .ref z6, .int (nI el), .int (nI be), .ref z9, .ref z10, .ref z11, .ref z12, .int (b2i gz), .ref z14, .ref z15, .ref z16, .int (nI mm), .int (nI tt), .ref z19, .ref z20, .ref z21, .ref z22, .ref z23, .int (nI gm), .ref z25, .ref z26, .ref z27, .ref z28, .int (nI rn), .ref z30, .ref z31, .ref z32])), kI G z30 16 (nF mo), kZ G z31 16 (bF re)]) [0] rfl (j_rV X (b := z) (As := [.int (nI 5)]) (ci := 10) (rest := []) 1 (mX10_no l G z z4 z5 z6 z9 z10 z11 z12 z14 z15 z16 z19 z20 z21 z22 z23 z25 z26 z27 z28 z30 z31 z32 0 0 za zb el be gz mm tt gm rn 5 ) gX10_run_X10_no rfl rfl rfl (by decide +kernel) ⟨Nat.le_of_ble_eq_true rfl, Nat.le_of_ble_eq_true rfl⟩ rfl rfl 0 rfl [0] rfl rfl rfl (Nat.le_of_ble_eq_true rfl) dX10_run_23 ⟨Nat.le_of_ble_eq_true rfl, Nat.le_of_ble_eq_true rfl⟩) rfl rfl ?_
      have hs : sRun rn mo re m en = (false, 5, rn, mo, re) := by first | (simp [sRun, in1, tN, c_12, c_18]; done) | (simp [sRun, in1, c_12, c_18]; done)
      refine j_zret (pc := 26) X (b2i_nar _) dX10_run_26 ?_
      rw [hs]; exact ⟨rfl, rfl⟩

set_option maxHeartbeats 4000000 in
set_option maxRecDepth 100000 in
theorem mX10_common_L12 (l : Launch) (G : jG) (x : Int64) (k : Nat) (hx : x.toInt.natAbs < 2 ^ 49) (hk0 : 0 < k) (hk : k < 2 ^ 49) (κ : jK) (X : CX κ l yX10_common cX10_common 10 RX10 wsX10_common (some .long) ({ frames := 1, cells := 0, slots := 0, locals := 21 }) G (va_A [] (js κ).heap.size))    : ∀ (fu : Nat) (g : Nat) (m : Nat) (hg : g < 2 ^ 49) (hm : m < 2 ^ 49) (he : Nat.gcd g m = gdl x k) (_ : m < fu), JJ κ 10 G (va_A [] (js κ).heap.size) 0 0 (jQ κ G [] (fun r w' => r = some (.long (lN (gdl x k))) ∧ w' = []) 0 0) 12 [(4, .long (lN g)), (6, .long (lN m))] [] [] := by
  intro fu
  induction fu with
  | zero => intro g m hg hm he hms; exact absurd hms (Nat.not_lt_zero _)
  | succ fu ih =>
    intro g m hg hm he hms
    refine j_lload (pc := 12) X dX10_common_12 1 rfl ?_
    refine j_lconst (pc := 14) X (v := 0) dX10_common_14 (by decide) ?_
    refine j_lcmp (pc := 15) X dX10_common_15 ?_
    refine j_ifc_eq (pc := 16) X (tgt := 37) dX10_common_16 (by decide) (fun c_16 => ?_) (fun c_16 => ?_)
    · skip
      refine j_lload (pc := 37) X dX10_common_37 0 rfl ?_
      exact j_lret (pc := 39) X dX10_common_39 ⟨by rw [← he, show m = 0 from (pk_lEQ (by omega) (by decide : 0 < 2 ^ 63)).mp c_16, Nat.gcd_zero_right], rfl⟩
    · skip
      have hm0 : 0 < m := (by rcases Nat.eq_zero_or_pos m with q | q; exact absurd (by rw [q]; rfl) c_16; exact q)
      refine j_lload (pc := 19) X dX10_common_19 0 rfl ?_
      refine j_lload (pc := 21) X dX10_common_21 1 rfl ?_
      refine j_lrem (pc := 23) X dX10_common_23 (by exact c_16) ?_
      refine j_topl (z := lN (g % m)) (lrem_lN (by omega) hm0 (by omega)) ?_
      refine j_lstore (pc := 24) X (lv' := [(8, .long (lN (g % m))), (4, .long (lN g)), (6, .long (lN m))]) dX10_common_24 (by decide) rfl ?_
      refine j_lload (pc := 26) X dX10_common_26 2 rfl ?_
      refine j_lstore (pc := 28) X (lv' := [(4, .long (lN m)), (8, .long (lN (g % m))), (6, .long (lN m))]) dX10_common_28 (by decide) rfl ?_
      refine j_lload (pc := 30) X dX10_common_30 1 rfl ?_
      refine j_lstore (pc := 32) X (lv' := [(6, .long (lN (g % m))), (4, .long (lN m)), (8, .long (lN (g % m)))]) dX10_common_32 (by decide) rfl ?_
      refine j_goto (pc := 34) X (tgt := 12) dX10_common_34 (by decide) ?_
      refine j_lv [1, 0] (lv' := [(4, .long (lN m)), (6, .long (lN (g % m)))]) rfl ?_
      exact ih m (g % m) (hm) (by have h9 := Nat.mod_lt g hm0; omega) (by rw [gcd_s (by omega)]; exact he) (by have h9 := Nat.mod_lt g hm0; omega)
set_option maxHeartbeats 4000000 in
set_option maxRecDepth 100000 in
theorem mX10_common (l : Launch) (G : jG) (x : Int64) (k : Nat) (hx : x.toInt.natAbs < 2 ^ 49) (hk0 : 0 < k) (hk : k < 2 ^ 49) : MV l yX10_common wsX10_common ({ frames := 1, cells := 0, slots := 0, locals := 21 }) G [.long x, .long (lN k)] [] (some (.long (lN (gdl x k)))) [] := by
  refine MF.ofJ (cc := cX10_common) (maxL := 10) (ret := (some .long)) (own := RX10) (lv := [(0, .long x), (2, .long (lN k))]) (by decide) rfl rfl (Nat.le_of_ble_eq_true rfl) rfl ?_
  intro κ X
  refine j_lload_n (pc := 0) X dX10_common_0 rfl 0 rfl ?_
  refine j_labs (pc := 1) X dX10_common_1 (by decide +kernel) (by decide +kernel) (by decide +kernel) (by decide +kernel) (by decide) (Nat.le_of_ble_eq_true rfl) (by decide) ?_
  refine j_topl (z := lN x.toInt.natAbs) (abs_lN x hx) ?_
  refine j_lstore (pc := 4) X (lv' := [(4, .long (lN x.toInt.natAbs)), (0, .long x), (2, .long (lN k))]) dX10_common_4 (by decide) rfl ?_
  refine j_lload_n (pc := 6) X dX10_common_6 rfl 2 rfl ?_
  refine j_labs (pc := 7) X dX10_common_7 (by decide +kernel) (by decide +kernel) (by decide +kernel) (by decide +kernel) (by decide) (Nat.le_of_ble_eq_true rfl) (by decide) ?_
  refine j_topl (z := lN k) ((abs_lN (lN k) (by rw [pk_lT (by omega)]; omega)).trans (by rw [pk_lT (by omega)]; rfl)) ?_
  refine j_lstore (pc := 10) X (lv' := [(6, .long (lN k)), (4, .long (lN x.toInt.natAbs)), (0, .long x), (2, .long (lN k))]) dX10_common_10 (by decide) rfl ?_
  refine j_lv [1, 0] (lv' := [(4, .long (lN x.toInt.natAbs)), (6, .long (lN k))]) rfl ?_
  exact mX10_common_L12 l G x k hx hk0 hk κ X    (k + 1) x.toInt.natAbs k (hx) (hk) (by rfl) (Nat.lt_succ_self _)

set_option maxHeartbeats 4000000 in
set_option maxRecDepth 100000 in
theorem mX10_tells (l : Launch) (G : jG) (z : Nat) (z4 : Nat) (z5 : Nat) (z6 : Nat) (z9 : Nat) (z10 : Nat) (z11 : Nat) (z12 : Nat) (z14 : Nat) (z15 : Nat) (z16 : Nat) (z19 : Nat) (z20 : Nat) (z21 : Nat) (z22 : Nat) (z23 : Nat) (z25 : Nat) (z26 : Nat) (z27 : Nat) (z28 : Nat) (z30 : Nat) (z31 : Nat) (z32 : Nat) (st : Nat) (th : Nat) (za : Int64) (zb : Int64) (el : Nat) (be : Nat) (gz : Bool) (mm : Nat) (tt : Nat) (gm : Nat) (rn : Nat) (x : Int64) (k : Nat) (hx : x.toInt.natAbs < 2 ^ 49) (hk0 : 0 < k) (hk : k < 2 ^ 49) : MV l yX10_tells wsX10_tells ({ frames := 2, cells := 0, slots := 0, locals := 50 }) G [.ref z, .long x, .long (lN k)] [(z, .inr (10, [.int (nI st), .int (nI th), .long za, .long zb, .ref z4, .ref z5, .ref z6, .int (nI el), .int (nI be), .ref z9, .ref z10, .ref z11, .ref z12, .int (b2i gz), .ref z14, .ref z15, .ref z16, .int (nI mm), .int (nI tt), .ref z19, .ref z20, .ref z21, .ref z22, .ref z23, .int (nI gm), .ref z25, .ref z26, .ref z27, .ref z28, .int (nI rn), .ref z30, .ref z31, .ref z32]))] (some (.int (b2i true))) [(z, .inr (10, [.int (nI st), .int (nI th), .long (x / lN (gdl x k)), .long (lN k / lN (gdl x k)), .ref z4, .ref z5, .ref z6, .int (nI el), .int (nI be), .ref z9, .ref z10, .ref z11, .ref z12, .int (b2i gz), .ref z14, .ref z15, .ref z16, .int (nI mm), .int (nI tt), .ref z19, .ref z20, .ref z21, .ref z22, .ref z23, .int (nI gm), .ref z25, .ref z26, .ref z27, .ref z28, .int (nI rn), .ref z30, .ref z31, .ref z32]))] := by
  refine MF.ofJ (cc := cX10_tells) (maxL := 7) (ret := (some .boolean)) (own := RX10) (lv := [(0, .ref z), (1, .long x), (3, .long (lN k))]) (by decide) rfl rfl (Nat.le_of_ble_eq_true rfl) rfl ?_
  intro κ X
  have i_X10 : ∀ w ∈ wsX100, w ∈ wsX10_tells := by decide +kernel
  refine j_lload_n (pc := 0) X dX10_tells_0 rfl 1 rfl ?_
  refine j_lload_n (pc := 1) X dX10_tells_1 rfl 2 rfl ?_
  refine j_clP (pc := 2) X [] rfl (j_rS X (As := [.long x, .long (lN k)]) (rest := []) 2 (mX10_common l G x k (by first | assumption | omega | exact ob_s (by omega) | exact ob_n) (by first | assumption | omega | exact ob_s (by omega) | exact ob_n) (by first | assumption | omega | exact ob_s (by omega) | exact ob_n)) gX10_tells_X10_common rfl rfl rfl (by decide +kernel) ⟨Nat.le_of_ble_eq_true rfl, Nat.le_of_ble_eq_true rfl⟩ rfl [] rfl rfl rfl (Nat.le_of_ble_eq_true rfl) dX10_tells_2 ⟨Nat.le_of_ble_eq_true rfl, Nat.le_of_ble_eq_true rfl⟩) ?_
  refine j_lstore (pc := 5) X (lv' := [(5, .long (lN (gdl x k))), (0, .ref z), (1, .long x), (3, .long (lN k))]) dX10_tells_5 (by decide) rfl ?_
  refine j_aload_n (pc := 7) X dX10_tells_7 rfl 1 rfl ?_
  refine j_lload_n (pc := 8) X dX10_tells_8 rfl 2 rfl ?_
  refine j_lload (pc := 9) X dX10_tells_9 0 rfl ?_
  refine j_ldiv (pc := 11) X dX10_tells_11 (by exact lN_ne0 (gdl_pos hk0) (by have := gdl_le (x := x) hk0; omega)) ?_
  refine j_put (pc := 12) X (v := .long (x / (lN (gdl x k)))) (ws' := [(z, .inr (10, [.int (nI st), .int (nI th), .long (x / (lN (gdl x k))), .long zb, .ref z4, .ref z5, .ref z6, .int (nI el), .int (nI be), .ref z9, .ref z10, .ref z11, .ref z12, .int (b2i gz), .ref z14, .ref z15, .ref z16, .int (nI mm), .int (nI tt), .ref z19, .ref z20, .ref z21, .ref z22, .ref z23, .int (nI gm), .ref z25, .ref z26, .ref z27, .ref z28, .int (nI rn), .ref z30, .ref z31, .ref z32]))]) 10 i_X10 tyX10 tyX10_ok nmX10 0 rfl rfl 2 (by decide) (by decide +kernel) (by decide) (rfl) (rfl) (Nat.le_of_ble_eq_true rfl) dX10_tells_12 rfl ?_
  refine j_aload_n (pc := 15) X dX10_tells_15 rfl 1 rfl ?_
  refine j_lload_n (pc := 16) X dX10_tells_16 rfl 3 rfl ?_
  refine j_lload (pc := 17) X dX10_tells_17 0 rfl ?_
  refine j_ldiv (pc := 19) X dX10_tells_19 (by exact lN_ne0 (gdl_pos hk0) (by have := gdl_le (x := x) hk0; omega)) ?_
  refine j_put (pc := 20) X (v := .long ((lN k) / (lN (gdl x k)))) (ws' := [(z, .inr (10, [.int (nI st), .int (nI th), .long (x / (lN (gdl x k))), .long ((lN k) / (lN (gdl x k))), .ref z4, .ref z5, .ref z6, .int (nI el), .int (nI be), .ref z9, .ref z10, .ref z11, .ref z12, .int (b2i gz), .ref z14, .ref z15, .ref z16, .int (nI mm), .int (nI tt), .ref z19, .ref z20, .ref z21, .ref z22, .ref z23, .int (nI gm), .ref z25, .ref z26, .ref z27, .ref z28, .int (nI rn), .ref z30, .ref z31, .ref z32]))]) 10 i_X10 tyX10 tyX10_ok nmX10 0 rfl rfl 3 (by decide) (by decide +kernel) (by decide) (rfl) (rfl) (Nat.le_of_ble_eq_true rfl) dX10_tells_20 rfl ?_
  refine j_iconst (pc := 23) X (v := nI 1) dX10_tells_23 (by decide) ?_
  exact j_zret (pc := 24) X (rfl) dX10_tells_24 ⟨r1 (by rfl), by rfl⟩

set_option maxHeartbeats 4000000 in
set_option maxRecDepth 100000 in
theorem mX10_refuse (l : Launch) (G : jG) (z : Nat) (z4 : Nat) (z5 : Nat) (z6 : Nat) (z9 : Nat) (z10 : Nat) (z11 : Nat) (z12 : Nat) (z14 : Nat) (z15 : Nat) (z16 : Nat) (z19 : Nat) (z20 : Nat) (z21 : Nat) (z22 : Nat) (z23 : Nat) (z25 : Nat) (z26 : Nat) (z27 : Nat) (z28 : Nat) (z30 : Nat) (z31 : Nat) (z32 : Nat) (st : Nat) (th : Nat) (za : Int64) (zb : Int64) (el : Nat) (be : Nat) (gz : Bool) (mm : Nat) (tt : Nat) (gm : Nat) (rn : Nat) (s2 : Nat)  : MV l yX10_refuse wsX10_refuse ({ frames := 0, cells := 0, slots := 0, locals := 0 }) G [.ref z, .int (nI s2)] [(z, .inr (10, [.int (nI st), .int (nI th), .long za, .long zb, .ref z4, .ref z5, .ref z6, .int (nI el), .int (nI be), .ref z9, .ref z10, .ref z11, .ref z12, .int (b2i gz), .ref z14, .ref z15, .ref z16, .int (nI mm), .int (nI tt), .ref z19, .ref z20, .ref z21, .ref z22, .ref z23, .int (nI gm), .ref z25, .ref z26, .ref z27, .ref z28, .int (nI rn), .ref z30, .ref z31, .ref z32]))] (some (.int (oI none))) [(z, .inr (10, [.int (nI s2), .int (nI th), .long za, .long zb, .ref z4, .ref z5, .ref z6, .int (nI el), .int (nI be), .ref z9, .ref z10, .ref z11, .ref z12, .int (b2i gz), .ref z14, .ref z15, .ref z16, .int (nI mm), .int (nI tt), .ref z19, .ref z20, .ref z21, .ref z22, .ref z23, .int (nI gm), .ref z25, .ref z26, .ref z27, .ref z28, .int (nI rn), .ref z30, .ref z31, .ref z32]))] := by
  refine MF.ofJ (cc := cX10_refuse) (maxL := 2) (ret := (some .int)) (own := RX10) (lv := [(0, .ref z), (1, .int (nI s2))]) (by decide) rfl rfl (Nat.le_of_ble_eq_true rfl) rfl ?_
  intro κ X
  have i_X10 : ∀ w ∈ wsX100, w ∈ wsX10_refuse := by decide +kernel
  refine j_aload_n (pc := 0) X dX10_refuse_0 rfl 0 rfl ?_
  refine j_iload_n (pc := 1) X dX10_refuse_1 rfl 1 rfl ?_
  refine j_put (pc := 2) X (v := .int (nI s2)) (ws' := [(z, .inr (10, [.int (nI s2), .int (nI th), .long za, .long zb, .ref z4, .ref z5, .ref z6, .int (nI el), .int (nI be), .ref z9, .ref z10, .ref z11, .ref z12, .int (b2i gz), .ref z14, .ref z15, .ref z16, .int (nI mm), .int (nI tt), .ref z19, .ref z20, .ref z21, .ref z22, .ref z23, .int (nI gm), .ref z25, .ref z26, .ref z27, .ref z28, .int (nI rn), .ref z30, .ref z31, .ref z32]))]) 10 i_X10 tyX10 tyX10_ok nmX10 0 rfl rfl 0 (by decide) (by decide +kernel) (by decide) (rfl) (rfl) (Nat.le_of_ble_eq_true rfl) dX10_refuse_2 rfl ?_
  refine j_iconst (pc := 5) X (v := oI none) dX10_refuse_5 (by decide) ?_
  exact j_iret (pc := 6) X dX10_refuse_6 ⟨rfl, rfl⟩

set_option maxHeartbeats 4000000 in
set_option maxRecDepth 100000 in
theorem mX10_no (l : Launch) (G : jG) (z : Nat) (z4 : Nat) (z5 : Nat) (z6 : Nat) (z9 : Nat) (z10 : Nat) (z11 : Nat) (z12 : Nat) (z14 : Nat) (z15 : Nat) (z16 : Nat) (z19 : Nat) (z20 : Nat) (z21 : Nat) (z22 : Nat) (z23 : Nat) (z25 : Nat) (z26 : Nat) (z27 : Nat) (z28 : Nat) (z30 : Nat) (z31 : Nat) (z32 : Nat) (st : Nat) (th : Nat) (za : Int64) (zb : Int64) (el : Nat) (be : Nat) (gz : Bool) (mm : Nat) (tt : Nat) (gm : Nat) (rn : Nat) (s2 : Nat)  : MV l yX10_no wsX10_no ({ frames := 0, cells := 0, slots := 0, locals := 0 }) G [.ref z, .int (nI s2)] [(z, .inr (10, [.int (nI st), .int (nI th), .long za, .long zb, .ref z4, .ref z5, .ref z6, .int (nI el), .int (nI be), .ref z9, .ref z10, .ref z11, .ref z12, .int (b2i gz), .ref z14, .ref z15, .ref z16, .int (nI mm), .int (nI tt), .ref z19, .ref z20, .ref z21, .ref z22, .ref z23, .int (nI gm), .ref z25, .ref z26, .ref z27, .ref z28, .int (nI rn), .ref z30, .ref z31, .ref z32]))] (some (.int (b2i false))) [(z, .inr (10, [.int (nI s2), .int (nI th), .long za, .long zb, .ref z4, .ref z5, .ref z6, .int (nI el), .int (nI be), .ref z9, .ref z10, .ref z11, .ref z12, .int (b2i gz), .ref z14, .ref z15, .ref z16, .int (nI mm), .int (nI tt), .ref z19, .ref z20, .ref z21, .ref z22, .ref z23, .int (nI gm), .ref z25, .ref z26, .ref z27, .ref z28, .int (nI rn), .ref z30, .ref z31, .ref z32]))] := by
  refine MF.ofJ (cc := cX10_no) (maxL := 2) (ret := (some .boolean)) (own := RX10) (lv := [(0, .ref z), (1, .int (nI s2))]) (by decide) rfl rfl (Nat.le_of_ble_eq_true rfl) rfl ?_
  intro κ X
  have i_X10 : ∀ w ∈ wsX100, w ∈ wsX10_no := by decide +kernel
  refine j_aload_n (pc := 0) X dX10_no_0 rfl 0 rfl ?_
  refine j_iload_n (pc := 1) X dX10_no_1 rfl 1 rfl ?_
  refine j_put (pc := 2) X (v := .int (nI s2)) (ws' := [(z, .inr (10, [.int (nI s2), .int (nI th), .long za, .long zb, .ref z4, .ref z5, .ref z6, .int (nI el), .int (nI be), .ref z9, .ref z10, .ref z11, .ref z12, .int (b2i gz), .ref z14, .ref z15, .ref z16, .int (nI mm), .int (nI tt), .ref z19, .ref z20, .ref z21, .ref z22, .ref z23, .int (nI gm), .ref z25, .ref z26, .ref z27, .ref z28, .int (nI rn), .ref z30, .ref z31, .ref z32]))]) 10 i_X10 tyX10 tyX10_ok nmX10 0 rfl rfl 0 (by decide) (by decide +kernel) (by decide) (rfl) (rfl) (Nat.le_of_ble_eq_true rfl) dX10_no_2 rfl ?_
  refine j_iconst (pc := 5) X (v := nI 0) dX10_no_5 (by decide) ?_
  exact j_zret (pc := 6) X (rfl) dX10_no_6 ⟨r0 (by rfl), rfl⟩

set_option maxHeartbeats 4000000 in
set_option maxRecDepth 100000 in
theorem mX10_cut (l : Launch) (G : jG) (so : Nat) (v : Int64) (hso : so < 4) : MV l yX10_cut wsX10_cut ({ frames := 0, cells := 0, slots := 0, locals := 0 }) G [.int (nI so), .long v] [] (some (.long (cutL so v))) [] := by
  refine MF.ofJ (cc := cX10_cut) (maxL := 3) (ret := (some .long)) (own := RX10) (lv := [(0, .int (nI so)), (1, .long v)]) (by decide) rfl rfl (Nat.le_of_ble_eq_true rfl) rfl ?_
  intro κ X
  rcases (by omega : so = 0 ∨ so = 1 ∨ so = 2 ∨ so = 3) with rfl | rfl | rfl | rfl
  · skip
    refine j_iload_n (pc := 0) X dX10_cut_0 rfl 0 rfl ?_
    refine j_ifN_ne (pc := 1) X (a := 0) (by omega) (tgt := 11) dX10_cut_1 (by decide) (fun c_1 => ?_) (fun c_1 => ?_)
    · skip
      exact absurd c_1 (by decide)
    · skip
      refine j_lload_n (pc := 4) X dX10_cut_4 rfl 1 rfl ?_
      refine j_l2i (pc := 5) X (v := v.toInt32) dX10_cut_5 (rfl) ?_
      refine j_i2b (pc := 6) X (v := v.toInt32.toInt8.toInt32) dX10_cut_6 (rfl) ?_
      refine j_i2l (pc := 7) X (v := v.toInt32.toInt8.toInt32.toInt64) dX10_cut_7 (rfl) ?_
      refine j_goto (pc := 8) X (tgt := 35) dX10_cut_8 (by decide) ?_
      exact j_lret (pc := 35) X dX10_cut_35 ⟨by rfl, rfl⟩
  · skip
    refine j_iload_n (pc := 0) X dX10_cut_0 rfl 0 rfl ?_
    refine j_ifN_ne (pc := 1) X (a := 1) (by omega) (tgt := 11) dX10_cut_1 (by decide) (fun c_1 => ?_) (fun c_1 => ?_)
    · skip
      refine j_iload_n (pc := 11) X dX10_cut_11 rfl 0 rfl ?_
      refine j_iconst (pc := 12) X (v := nI 1) dX10_cut_12 (by decide) ?_
      refine j_icmpN_ne (pc := 13) X (a := 1) (b := 1) (by omega) (by omega) (tgt := 23) dX10_cut_13 (by decide) (fun c_13 => ?_) (fun c_13 => ?_)
      · skip
        exact absurd c_13 (by decide)
      · skip
        refine j_lload_n (pc := 16) X dX10_cut_16 rfl 1 rfl ?_
        refine j_l2i (pc := 17) X (v := v.toInt32) dX10_cut_17 (rfl) ?_
        refine j_i2s (pc := 18) X (v := v.toInt32.toInt16.toInt32) dX10_cut_18 (rfl) ?_
        refine j_i2l (pc := 19) X (v := v.toInt32.toInt16.toInt32.toInt64) dX10_cut_19 (rfl) ?_
        refine j_goto (pc := 20) X (tgt := 35) dX10_cut_20 (by decide) ?_
        exact j_lret (pc := 35) X dX10_cut_35 ⟨by rfl, rfl⟩
    · skip
      exact absurd c_1 (by decide)
  · skip
    refine j_iload_n (pc := 0) X dX10_cut_0 rfl 0 rfl ?_
    refine j_ifN_ne (pc := 1) X (a := 2) (by omega) (tgt := 11) dX10_cut_1 (by decide) (fun c_1 => ?_) (fun c_1 => ?_)
    · skip
      refine j_iload_n (pc := 11) X dX10_cut_11 rfl 0 rfl ?_
      refine j_iconst (pc := 12) X (v := nI 1) dX10_cut_12 (by decide) ?_
      refine j_icmpN_ne (pc := 13) X (a := 2) (b := 1) (by omega) (by omega) (tgt := 23) dX10_cut_13 (by decide) (fun c_13 => ?_) (fun c_13 => ?_)
      · skip
        refine j_iload_n (pc := 23) X dX10_cut_23 rfl 0 rfl ?_
        refine j_iconst (pc := 24) X (v := nI 2) dX10_cut_24 (by decide) ?_
        refine j_icmpN_ne (pc := 25) X (a := 2) (b := 2) (by omega) (by omega) (tgt := 34) dX10_cut_25 (by decide) (fun c_25 => ?_) (fun c_25 => ?_)
        · skip
          exact absurd c_25 (by decide)
        · skip
          refine j_lload_n (pc := 28) X dX10_cut_28 rfl 1 rfl ?_
          refine j_l2i (pc := 29) X (v := v.toInt32) dX10_cut_29 (rfl) ?_
          refine j_i2l (pc := 30) X (v := v.toInt32.toInt64) dX10_cut_30 (rfl) ?_
          refine j_goto (pc := 31) X (tgt := 35) dX10_cut_31 (by decide) ?_
          exact j_lret (pc := 35) X dX10_cut_35 ⟨by rfl, rfl⟩
      · skip
        exact absurd c_13 (by decide)
    · skip
      exact absurd c_1 (by decide)
  · skip
    refine j_iload_n (pc := 0) X dX10_cut_0 rfl 0 rfl ?_
    refine j_ifN_ne (pc := 1) X (a := 3) (by omega) (tgt := 11) dX10_cut_1 (by decide) (fun c_1 => ?_) (fun c_1 => ?_)
    · skip
      refine j_iload_n (pc := 11) X dX10_cut_11 rfl 0 rfl ?_
      refine j_iconst (pc := 12) X (v := nI 1) dX10_cut_12 (by decide) ?_
      refine j_icmpN_ne (pc := 13) X (a := 3) (b := 1) (by omega) (by omega) (tgt := 23) dX10_cut_13 (by decide) (fun c_13 => ?_) (fun c_13 => ?_)
      · skip
        refine j_iload_n (pc := 23) X dX10_cut_23 rfl 0 rfl ?_
        refine j_iconst (pc := 24) X (v := nI 2) dX10_cut_24 (by decide) ?_
        refine j_icmpN_ne (pc := 25) X (a := 3) (b := 2) (by omega) (by omega) (tgt := 34) dX10_cut_25 (by decide) (fun c_25 => ?_) (fun c_25 => ?_)
        · skip
          refine j_lload_n (pc := 34) X dX10_cut_34 rfl 1 rfl ?_
          exact j_lret (pc := 35) X dX10_cut_35 ⟨by rfl, rfl⟩
        · skip
          exact absurd c_25 (by decide)
      · skip
        exact absurd c_13 (by decide)
    · skip
      exact absurd c_1 (by decide)

set_option maxHeartbeats 4000000 in
set_option maxRecDepth 100000 in
theorem mX10_isElder (l : Launch) (G : jG) (z : Nat) (z4 : Nat) (z5 : Nat) (z6 : Nat) (z9 : Nat) (z10 : Nat) (z11 : Nat) (z12 : Nat) (z14 : Nat) (z15 : Nat) (z16 : Nat) (z19 : Nat) (z20 : Nat) (z21 : Nat) (z22 : Nat) (z23 : Nat) (z25 : Nat) (z26 : Nat) (z27 : Nat) (z28 : Nat) (z30 : Nat) (z31 : Nat) (z32 : Nat) (st : Nat) (th : Nat) (za : Int64) (zb : Int64) (el : Nat) (be : Nat) (gz : Bool) (mm : Nat) (tt : Nat) (gm : Nat) (rn : Nat) (x : Int32)  : MV l yX10_isElder wsX10_isElder ({ frames := 0, cells := 0, slots := 0, locals := 0 }) G [.ref z, .int x] [(z, .inr (10, [.int (nI st), .int (nI th), .long za, .long zb, .ref z4, .ref z5, .ref z6, .int (nI el), .int (nI be), .ref z9, .ref z10, .ref z11, .ref z12, .int (b2i gz), .ref z14, .ref z15, .ref z16, .int (nI mm), .int (nI tt), .ref z19, .ref z20, .ref z21, .ref z22, .ref z23, .int (nI gm), .ref z25, .ref z26, .ref z27, .ref z28, .int (nI rn), .ref z30, .ref z31, .ref z32]))] (some (.int (b2i (inR x el)))) [(z, .inr (10, [.int (nI st), .int (nI th), .long za, .long zb, .ref z4, .ref z5, .ref z6, .int (nI el), .int (nI be), .ref z9, .ref z10, .ref z11, .ref z12, .int (b2i gz), .ref z14, .ref z15, .ref z16, .int (nI mm), .int (nI tt), .ref z19, .ref z20, .ref z21, .ref z22, .ref z23, .int (nI gm), .ref z25, .ref z26, .ref z27, .ref z28, .int (nI rn), .ref z30, .ref z31, .ref z32]))] := by
  refine MF.ofJ (cc := cX10_isElder) (maxL := 2) (ret := (some .boolean)) (own := RX10) (lv := [(0, .ref z), (1, .int x)]) (by decide) rfl rfl (Nat.le_of_ble_eq_true rfl) rfl ?_
  intro κ X
  have i_X10 : ∀ w ∈ wsX100, w ∈ wsX10_isElder := by decide +kernel
  refine j_iload_n (pc := 0) X dX10_isElder_0 rfl 1 rfl ?_
  refine j_if_lt (pc := 1) X (x := x) (tgt := 16) dX10_isElder_1 (by decide) (fun c_1 => ?_) (fun c_1 => ?_)
  · skip
    refine j_iconst (pc := 16) X (v := nI 0) dX10_isElder_16 (by decide) ?_
    exact j_zret (pc := 17) X (rfl) dX10_isElder_17 ⟨r0 (by simp [inR, c_1]), rfl⟩
  · skip
    refine j_iload_n (pc := 4) X dX10_isElder_4 rfl 1 rfl ?_
    refine j_aload_n (pc := 5) X dX10_isElder_5 rfl 0 rfl ?_
    refine j_get (pc := 6) X 10 i_X10 0 rfl rfl 7 (by decide) (by decide +kernel) rfl dX10_isElder_6 ?_
    refine j_icmp_ge (pc := 9) X (x := x) (z := nI el) (tgt := 16) dX10_isElder_9 (by decide) (fun c_9 => ?_) (fun c_9 => ?_)
    · skip
      refine j_iconst (pc := 16) X (v := nI 0) dX10_isElder_16 (by decide) ?_
      exact j_zret (pc := 17) X (rfl) dX10_isElder_17 ⟨r0 (by simp [inR, c_1, c_9]), rfl⟩
    · skip
      refine j_iconst (pc := 12) X (v := nI 1) dX10_isElder_12 (by decide) ?_
      refine j_goto (pc := 13) X (tgt := 17) dX10_isElder_13 (by decide) ?_
      exact j_zret (pc := 17) X (rfl) dX10_isElder_17 ⟨r1 (by simp [inR, c_1, c_9]), rfl⟩

set_option maxHeartbeats 4000000 in
set_option maxRecDepth 100000 in
theorem mX10_isBeginner (l : Launch) (G : jG) (z : Nat) (z4 : Nat) (z5 : Nat) (z6 : Nat) (z9 : Nat) (z10 : Nat) (z11 : Nat) (z12 : Nat) (z14 : Nat) (z15 : Nat) (z16 : Nat) (z19 : Nat) (z20 : Nat) (z21 : Nat) (z22 : Nat) (z23 : Nat) (z25 : Nat) (z26 : Nat) (z27 : Nat) (z28 : Nat) (z30 : Nat) (z31 : Nat) (z32 : Nat) (st : Nat) (th : Nat) (za : Int64) (zb : Int64) (el : Nat) (be : Nat) (gz : Bool) (mm : Nat) (tt : Nat) (gm : Nat) (rn : Nat) (x : Int32)  : MV l yX10_isBeginner wsX10_isBeginner ({ frames := 0, cells := 0, slots := 0, locals := 0 }) G [.ref z, .int x] [(z, .inr (10, [.int (nI st), .int (nI th), .long za, .long zb, .ref z4, .ref z5, .ref z6, .int (nI el), .int (nI be), .ref z9, .ref z10, .ref z11, .ref z12, .int (b2i gz), .ref z14, .ref z15, .ref z16, .int (nI mm), .int (nI tt), .ref z19, .ref z20, .ref z21, .ref z22, .ref z23, .int (nI gm), .ref z25, .ref z26, .ref z27, .ref z28, .int (nI rn), .ref z30, .ref z31, .ref z32]))] (some (.int (b2i (inR x be)))) [(z, .inr (10, [.int (nI st), .int (nI th), .long za, .long zb, .ref z4, .ref z5, .ref z6, .int (nI el), .int (nI be), .ref z9, .ref z10, .ref z11, .ref z12, .int (b2i gz), .ref z14, .ref z15, .ref z16, .int (nI mm), .int (nI tt), .ref z19, .ref z20, .ref z21, .ref z22, .ref z23, .int (nI gm), .ref z25, .ref z26, .ref z27, .ref z28, .int (nI rn), .ref z30, .ref z31, .ref z32]))] := by
  refine MF.ofJ (cc := cX10_isBeginner) (maxL := 2) (ret := (some .boolean)) (own := RX10) (lv := [(0, .ref z), (1, .int x)]) (by decide) rfl rfl (Nat.le_of_ble_eq_true rfl) rfl ?_
  intro κ X
  have i_X10 : ∀ w ∈ wsX100, w ∈ wsX10_isBeginner := by decide +kernel
  refine j_iload_n (pc := 0) X dX10_isBeginner_0 rfl 1 rfl ?_
  refine j_if_lt (pc := 1) X (x := x) (tgt := 16) dX10_isBeginner_1 (by decide) (fun c_1 => ?_) (fun c_1 => ?_)
  · skip
    refine j_iconst (pc := 16) X (v := nI 0) dX10_isBeginner_16 (by decide) ?_
    exact j_zret (pc := 17) X (rfl) dX10_isBeginner_17 ⟨r0 (by simp [inR, c_1]), rfl⟩
  · skip
    refine j_iload_n (pc := 4) X dX10_isBeginner_4 rfl 1 rfl ?_
    refine j_aload_n (pc := 5) X dX10_isBeginner_5 rfl 0 rfl ?_
    refine j_get (pc := 6) X 10 i_X10 0 rfl rfl 8 (by decide) (by decide +kernel) rfl dX10_isBeginner_6 ?_
    refine j_icmp_ge (pc := 9) X (x := x) (z := nI be) (tgt := 16) dX10_isBeginner_9 (by decide) (fun c_9 => ?_) (fun c_9 => ?_)
    · skip
      refine j_iconst (pc := 16) X (v := nI 0) dX10_isBeginner_16 (by decide) ?_
      exact j_zret (pc := 17) X (rfl) dX10_isBeginner_17 ⟨r0 (by simp [inR, c_1, c_9]), rfl⟩
    · skip
      refine j_iconst (pc := 12) X (v := nI 1) dX10_isBeginner_12 (by decide) ?_
      refine j_goto (pc := 13) X (tgt := 17) dX10_isBeginner_13 (by decide) ?_
      exact j_zret (pc := 17) X (rfl) dX10_isBeginner_17 ⟨r1 (by simp [inR, c_1, c_9]), rfl⟩

set_option maxHeartbeats 4000000 in
set_option maxRecDepth 100000 in
theorem mX10_isDay (l : Launch) (G : jG) (x : Int32)  : MV l yX10_isDay wsX10_isDay ({ frames := 0, cells := 0, slots := 0, locals := 0 }) G [.int x] [] (some (.int (b2i (inC x 9999)))) [] := by
  refine MF.ofJ (cc := cX10_isDay) (maxL := 1) (ret := (some .boolean)) (own := RX10) (lv := [(0, .int x)]) (by decide) rfl rfl (Nat.le_of_ble_eq_true rfl) rfl ?_
  intro κ X
  refine j_iload_n (pc := 0) X dX10_isDay_0 rfl 0 rfl ?_
  refine j_if_lt (pc := 1) X (x := x) (tgt := 15) dX10_isDay_1 (by decide) (fun c_1 => ?_) (fun c_1 => ?_)
  · skip
    refine j_iconst (pc := 15) X (v := nI 0) dX10_isDay_15 (by decide) ?_
    exact j_zret (pc := 16) X (rfl) dX10_isDay_16 ⟨r0 (by simp [inC, c_1]), rfl⟩
  · skip
    refine j_iload_n (pc := 4) X dX10_isDay_4 rfl 0 rfl ?_
    refine j_sipush (pc := 5) X (v := nI 9999) dX10_isDay_5 (by decide) ?_
    refine j_icmp_gt (pc := 8) X (x := x) (z := nI 9999) (tgt := 15) dX10_isDay_8 (by decide) (fun c_8 => ?_) (fun c_8 => ?_)
    · skip
      refine j_iconst (pc := 15) X (v := nI 0) dX10_isDay_15 (by decide) ?_
      exact j_zret (pc := 16) X (rfl) dX10_isDay_16 ⟨r0 (by simp [inC, c_1, c_8]), rfl⟩
    · skip
      refine j_iconst (pc := 11) X (v := nI 1) dX10_isDay_11 (by decide) ?_
      refine j_goto (pc := 12) X (tgt := 16) dX10_isDay_12 (by decide) ?_
      exact j_zret (pc := 16) X (rfl) dX10_isDay_16 ⟨r1 (by simp [inC, c_1, c_8]), rfl⟩

set_option maxHeartbeats 4000000 in
set_option maxRecDepth 100000 in
theorem mX10_can (l : Launch) (G : jG) (z : Nat) (z4 : Nat) (z5 : Nat) (z6 : Nat) (z9 : Nat) (z10 : Nat) (z11 : Nat) (z12 : Nat) (z14 : Nat) (z15 : Nat) (z16 : Nat) (z19 : Nat) (z20 : Nat) (z21 : Nat) (z22 : Nat) (z23 : Nat) (z25 : Nat) (z26 : Nat) (z27 : Nat) (z28 : Nat) (z30 : Nat) (z31 : Nat) (z32 : Nat) (st : Nat) (th : Nat) (za : Int64) (zb : Int64) (el : Nat) (be : Nat) (gz : Bool) (mm : Nat) (tt : Nat) (gm : Nat) (rn : Nat) (le : Nat → Nat) (lb : Nat → Nat) (br : Nat → Bool) (e : Nat) (b : Nat) (he : e < 12) (hb : b < 16) (hle : ∀ k, le k ≤ 100) (hlb : ∀ k, lb k ≤ 100) : MV l yX10_can wsX10_can ({ frames := 0, cells := 0, slots := 0, locals := 0 }) G [.ref z, .int (nI e), .int (nI b)] [(z, .inr (10, [.int (nI st), .int (nI th), .long za, .long zb, .ref z4, .ref z5, .ref z6, .int (nI el), .int (nI be), .ref z9, .ref z10, .ref z11, .ref z12, .int (b2i gz), .ref z14, .ref z15, .ref z16, .int (nI mm), .int (nI tt), .ref z19, .ref z20, .ref z21, .ref z22, .ref z23, .int (nI gm), .ref z25, .ref z26, .ref z27, .ref z28, .int (nI rn), .ref z30, .ref z31, .ref z32])), kI G z10 192 (nF le), kI G z11 192 (nF lb), kZ G z12 192 (bF br)] (some (.int (b2i (canB le lb br e b)))) [(z, .inr (10, [.int (nI st), .int (nI th), .long za, .long zb, .ref z4, .ref z5, .ref z6, .int (nI el), .int (nI be), .ref z9, .ref z10, .ref z11, .ref z12, .int (b2i gz), .ref z14, .ref z15, .ref z16, .int (nI mm), .int (nI tt), .ref z19, .ref z20, .ref z21, .ref z22, .ref z23, .int (nI gm), .ref z25, .ref z26, .ref z27, .ref z28, .int (nI rn), .ref z30, .ref z31, .ref z32])), kI G z10 192 (nF le), kI G z11 192 (nF lb), kZ G z12 192 (bF br)] := by
  refine MF.ofJ (cc := cX10_can) (maxL := 4) (ret := (some .boolean)) (own := RX10) (lv := [(0, .ref z), (1, .int (nI e)), (2, .int (nI b))]) (by decide) rfl rfl (Nat.le_of_ble_eq_true rfl) rfl ?_
  intro κ X
  have i_X10 : ∀ w ∈ wsX100, w ∈ wsX10_can := by decide +kernel
  refine j_bipush (pc := 0) X (v := nI 16) dX10_can_0 (by decide) ?_
  refine j_iload_n (pc := 2) X dX10_can_2 rfl 1 rfl ?_
  refine j_imul (pc := 3) X dX10_can_3 ?_
  refine j_topi (z := nI (16 * e)) (pk_mul _ _) ?_
  refine j_iload_n (pc := 4) X dX10_can_4 rfl 2 rfl ?_
  refine j_iadd (pc := 5) X dX10_can_5 ?_
  refine j_topi (z := nI (e * 16 + b)) ((nI_add _ _).trans (by rw [Nat.mul_comm])) ?_
  refine j_istore_n (pc := 6) X (lv' := [(3, .int (nI (e * 16 + b))), (0, .ref z), (1, .int (nI e)), (2, .int (nI b))]) dX10_can_6 rfl (by decide) rfl ?_
  refine j_aload_n (pc := 7) X dX10_can_7 rfl 1 rfl ?_
  refine j_get (pc := 8) X 10 i_X10 0 rfl rfl 10 (by decide) (by decide +kernel) rfl dX10_can_8 ?_
  refine j_iload_n (pc := 11) X dX10_can_11 rfl 0 rfl ?_
  refine j_iald (pc := 12) X 1 rfl (vp_in_nI (by omega) (by decide)) (v := nI (le (e * 16 + b))) (congrArg (nF le) (nI_clamp (by omega))) dX10_can_12 ?_
  refine j_ifN_le (pc := 13) X (a := (le (e * 16 + b))) (by first | omega | (have := hle (e * 16 + b); omega) | (have := hlb (e * 16 + b); omega)) (tgt := 38) dX10_can_13 (by decide) (fun c_13 => ?_) (fun c_13 => ?_)
  · skip
    refine j_iconst (pc := 38) X (v := nI 0) dX10_can_38 (by decide) ?_
    exact j_zret (pc := 39) X (rfl) dX10_can_39 ⟨r0 (by first | (simp [canB, c_13]; done) | (simp [canB, c_13]; omega)), rfl⟩
  · skip
    refine j_aload_n (pc := 16) X dX10_can_16 rfl 1 rfl ?_
    refine j_get (pc := 17) X 10 i_X10 0 rfl rfl 11 (by decide) (by decide +kernel) rfl dX10_can_17 ?_
    refine j_iload_n (pc := 20) X dX10_can_20 rfl 0 rfl ?_
    refine j_iald (pc := 21) X 2 rfl (vp_in_nI (by omega) (by decide)) (v := nI (lb (e * 16 + b))) (congrArg (nF lb) (nI_clamp (by omega))) dX10_can_21 ?_
    refine j_ifN_le (pc := 22) X (a := (lb (e * 16 + b))) (by first | omega | (have := hle (e * 16 + b); omega) | (have := hlb (e * 16 + b); omega)) (tgt := 38) dX10_can_22 (by decide) (fun c_22 => ?_) (fun c_22 => ?_)
    · skip
      refine j_iconst (pc := 38) X (v := nI 0) dX10_can_38 (by decide) ?_
      exact j_zret (pc := 39) X (rfl) dX10_can_39 ⟨r0 (by first | (simp [canB, c_13, c_22]; done) | (simp [canB, c_13, c_22]; omega)), rfl⟩
    · skip
      refine j_aload_n (pc := 25) X dX10_can_25 rfl 1 rfl ?_
      refine j_get (pc := 26) X 10 i_X10 0 rfl rfl 12 (by decide) (by decide +kernel) rfl dX10_can_26 ?_
      refine j_iload_n (pc := 29) X dX10_can_29 rfl 0 rfl ?_
      refine j_zald (pc := 30) X 3 rfl (vp_in_nI (by omega) (by decide)) (v := b2i (br (e * 16 + b))) (congrArg (bF br) (nI_clamp (by omega))) dX10_can_30 ?_
      refine j_ifb_ne (pc := 31) X (B := br (e * 16 + b)) (tgt := 38) dX10_can_31 (by decide) (fun c_31 => ?_) (fun c_31 => ?_)
      · skip
        refine j_iconst (pc := 38) X (v := nI 0) dX10_can_38 (by decide) ?_
        exact j_zret (pc := 39) X (rfl) dX10_can_39 ⟨r0 (by first | (simp [canB, c_13, c_22, c_31]; done) | (simp [canB, c_13, c_22, c_31]; omega)), rfl⟩
      · skip
        refine j_iconst (pc := 34) X (v := nI 1) dX10_can_34 (by decide) ?_
        refine j_goto (pc := 35) X (tgt := 39) dX10_can_35 (by decide) ?_
        exact j_zret (pc := 39) X (rfl) dX10_can_39 ⟨r1 (by first | (simp [canB, c_13, c_22, c_31]; done) | (simp [canB, c_13, c_22, c_31]; omega)), rfl⟩

set_option maxHeartbeats 4000000 in
set_option maxRecDepth 100000 in
theorem mX10_elderPrefers (l : Launch) (G : jG) (z : Nat) (z4 : Nat) (z5 : Nat) (z6 : Nat) (z9 : Nat) (z10 : Nat) (z11 : Nat) (z12 : Nat) (z14 : Nat) (z15 : Nat) (z16 : Nat) (z19 : Nat) (z20 : Nat) (z21 : Nat) (z22 : Nat) (z23 : Nat) (z25 : Nat) (z26 : Nat) (z27 : Nat) (z28 : Nat) (z30 : Nat) (z31 : Nat) (z32 : Nat) (st : Nat) (th : Nat) (za : Int64) (zb : Int64) (el : Nat) (be : Nat) (gz : Bool) (mm : Nat) (tt : Nat) (gm : Nat) (rn : Nat) (le : Nat → Nat) (e : Nat) (b : Nat) (o : Nat) (he : e < 12) (hb : b < 16) (ho : o < 16) (hle : ∀ k, le k ≤ 100) : MV l yX10_elderPrefers wsX10_elderPrefers ({ frames := 0, cells := 0, slots := 0, locals := 0 }) G [.ref z, .int (nI e), .int (nI b), .int (nI o)] [(z, .inr (10, [.int (nI st), .int (nI th), .long za, .long zb, .ref z4, .ref z5, .ref z6, .int (nI el), .int (nI be), .ref z9, .ref z10, .ref z11, .ref z12, .int (b2i gz), .ref z14, .ref z15, .ref z16, .int (nI mm), .int (nI tt), .ref z19, .ref z20, .ref z21, .ref z22, .ref z23, .int (nI gm), .ref z25, .ref z26, .ref z27, .ref z28, .int (nI rn), .ref z30, .ref z31, .ref z32])), kI G z10 192 (nF le)] (some (.int (b2i (prE le e b o)))) [(z, .inr (10, [.int (nI st), .int (nI th), .long za, .long zb, .ref z4, .ref z5, .ref z6, .int (nI el), .int (nI be), .ref z9, .ref z10, .ref z11, .ref z12, .int (b2i gz), .ref z14, .ref z15, .ref z16, .int (nI mm), .int (nI tt), .ref z19, .ref z20, .ref z21, .ref z22, .ref z23, .int (nI gm), .ref z25, .ref z26, .ref z27, .ref z28, .int (nI rn), .ref z30, .ref z31, .ref z32])), kI G z10 192 (nF le)] := by
  refine MF.ofJ (cc := cX10_elderPrefers) (maxL := 6) (ret := (some .boolean)) (own := RX10) (lv := [(0, .ref z), (1, .int (nI e)), (2, .int (nI b)), (3, .int (nI o))]) (by decide) rfl rfl (Nat.le_of_ble_eq_true rfl) rfl ?_
  intro κ X
  have i_X10 : ∀ w ∈ wsX100, w ∈ wsX10_elderPrefers := by decide +kernel
  refine j_aload_n (pc := 0) X dX10_elderPrefers_0 rfl 0 rfl ?_
  refine j_get (pc := 1) X 10 i_X10 0 rfl rfl 10 (by decide) (by decide +kernel) rfl dX10_elderPrefers_1 ?_
  refine j_bipush (pc := 4) X (v := nI 16) dX10_elderPrefers_4 (by decide) ?_
  refine j_iload_n (pc := 6) X dX10_elderPrefers_6 rfl 1 rfl ?_
  refine j_imul (pc := 7) X dX10_elderPrefers_7 ?_
  refine j_topi (z := nI (16 * e)) (pk_mul _ _) ?_
  refine j_iload_n (pc := 8) X dX10_elderPrefers_8 rfl 2 rfl ?_
  refine j_iadd (pc := 9) X dX10_elderPrefers_9 ?_
  refine j_topi (z := nI (e * 16 + b)) ((nI_add _ _).trans (by rw [Nat.mul_comm])) ?_
  refine j_iald (pc := 10) X 1 rfl (vp_in_nI (by omega) (by decide)) (v := nI (le (e * 16 + b))) (congrArg (nF le) (nI_clamp (by omega))) dX10_elderPrefers_10 ?_
  refine j_istore (pc := 11) X (lv' := [(4, .int (nI (le (e * 16 + b)))), (0, .ref z), (1, .int (nI e)), (2, .int (nI b)), (3, .int (nI o))]) dX10_elderPrefers_11 (by decide) rfl ?_
  refine j_aload_n (pc := 13) X dX10_elderPrefers_13 rfl 1 rfl ?_
  refine j_get (pc := 14) X 10 i_X10 0 rfl rfl 10 (by decide) (by decide +kernel) rfl dX10_elderPrefers_14 ?_
  refine j_bipush (pc := 17) X (v := nI 16) dX10_elderPrefers_17 (by decide) ?_
  refine j_iload_n (pc := 19) X dX10_elderPrefers_19 rfl 2 rfl ?_
  refine j_imul (pc := 20) X dX10_elderPrefers_20 ?_
  refine j_topi (z := nI (16 * e)) (pk_mul _ _) ?_
  refine j_iload_n (pc := 21) X dX10_elderPrefers_21 rfl 4 rfl ?_
  refine j_iadd (pc := 22) X dX10_elderPrefers_22 ?_
  refine j_topi (z := nI (e * 16 + o)) ((nI_add _ _).trans (by rw [Nat.mul_comm])) ?_
  refine j_iald (pc := 23) X 1 rfl (vp_in_nI (by omega) (by decide)) (v := nI (le (e * 16 + o))) (congrArg (nF le) (nI_clamp (by omega))) dX10_elderPrefers_23 ?_
  refine j_istore (pc := 24) X (lv' := [(5, .int (nI (le (e * 16 + o)))), (4, .int (nI (le (e * 16 + b)))), (0, .ref z), (1, .int (nI e)), (2, .int (nI b)), (3, .int (nI o))]) dX10_elderPrefers_24 (by decide) rfl ?_
  refine j_iload (pc := 26) X dX10_elderPrefers_26 1 rfl ?_
  refine j_iload (pc := 28) X dX10_elderPrefers_28 0 rfl ?_
  refine j_icmpN_gt (pc := 30) X (a := (le (e * 16 + b))) (b := (le (e * 16 + o))) (by first | omega | exact Nat.lt_of_le_of_lt (hle _) (by decide)) (by first | omega | exact Nat.lt_of_le_of_lt (hle _) (by decide)) (tgt := 45) dX10_elderPrefers_30 (by decide) (fun c_30 => ?_) (fun c_30 => ?_)
  · skip
    refine j_iconst (pc := 45) X (v := nI 1) dX10_elderPrefers_45 (by decide) ?_
    refine j_goto (pc := 46) X (tgt := 50) dX10_elderPrefers_46 (by decide) ?_
    exact j_zret (pc := 50) X (rfl) dX10_elderPrefers_50 ⟨r1 (by first | (simp [prE, c_30]; done) | (simp [prE, c_30]; omega)), rfl⟩
  · skip
    refine j_iload (pc := 33) X dX10_elderPrefers_33 1 rfl ?_
    refine j_iload (pc := 35) X dX10_elderPrefers_35 0 rfl ?_
    refine j_icmpN_ne (pc := 37) X (a := (le (e * 16 + b))) (b := (le (e * 16 + o))) (by first | omega | exact Nat.lt_of_le_of_lt (hle _) (by decide)) (by first | omega | exact Nat.lt_of_le_of_lt (hle _) (by decide)) (tgt := 49) dX10_elderPrefers_37 (by decide) (fun c_37 => ?_) (fun c_37 => ?_)
    · skip
      refine j_iconst (pc := 49) X (v := nI 0) dX10_elderPrefers_49 (by decide) ?_
      exact j_zret (pc := 50) X (rfl) dX10_elderPrefers_50 ⟨r0 (by first | (simp [prE, c_30, c_37]; done) | (simp [prE, c_30, c_37]; omega)), rfl⟩
    · skip
      refine j_iload_n (pc := 40) X dX10_elderPrefers_40 rfl 4 rfl ?_
      refine j_iload_n (pc := 41) X dX10_elderPrefers_41 rfl 5 rfl ?_
      refine j_icmpN_ge (pc := 42) X (a := b) (b := o) (by first | omega | exact Nat.lt_of_le_of_lt (hle _) (by decide)) (by first | omega | exact Nat.lt_of_le_of_lt (hle _) (by decide)) (tgt := 49) dX10_elderPrefers_42 (by decide) (fun c_42 => ?_) (fun c_42 => ?_)
      · skip
        refine j_iconst (pc := 49) X (v := nI 0) dX10_elderPrefers_49 (by decide) ?_
        exact j_zret (pc := 50) X (rfl) dX10_elderPrefers_50 ⟨r0 (by first | (simp [prE, c_30, c_37, c_42]; done) | (simp [prE, c_30, c_37, c_42]; omega)), rfl⟩
      · skip
        refine j_iconst (pc := 45) X (v := nI 1) dX10_elderPrefers_45 (by decide) ?_
        refine j_goto (pc := 46) X (tgt := 50) dX10_elderPrefers_46 (by decide) ?_
        exact j_zret (pc := 50) X (rfl) dX10_elderPrefers_50 ⟨r1 (by first | (simp [prE, c_30, c_37, c_42]; done) | (simp [prE, c_30, c_37, c_42]; omega)), rfl⟩

set_option maxHeartbeats 4000000 in
set_option maxRecDepth 100000 in
theorem mX10_beginnerPrefers (l : Launch) (G : jG) (z : Nat) (z4 : Nat) (z5 : Nat) (z6 : Nat) (z9 : Nat) (z10 : Nat) (z11 : Nat) (z12 : Nat) (z14 : Nat) (z15 : Nat) (z16 : Nat) (z19 : Nat) (z20 : Nat) (z21 : Nat) (z22 : Nat) (z23 : Nat) (z25 : Nat) (z26 : Nat) (z27 : Nat) (z28 : Nat) (z30 : Nat) (z31 : Nat) (z32 : Nat) (st : Nat) (th : Nat) (za : Int64) (zb : Int64) (el : Nat) (be : Nat) (gz : Bool) (mm : Nat) (tt : Nat) (gm : Nat) (rn : Nat) (lb : Nat → Nat) (b : Nat) (e : Nat) (o : Option Nat) (hb : b < 16) (he : e < 12) (ho : ob 12 o) (hlb : ∀ k, lb k ≤ 100) : MV l yX10_beginnerPrefers wsX10_beginnerPrefers ({ frames := 0, cells := 0, slots := 0, locals := 0 }) G [.ref z, .int (nI b), .int (nI e), .int (oI o)] [(z, .inr (10, [.int (nI st), .int (nI th), .long za, .long zb, .ref z4, .ref z5, .ref z6, .int (nI el), .int (nI be), .ref z9, .ref z10, .ref z11, .ref z12, .int (b2i gz), .ref z14, .ref z15, .ref z16, .int (nI mm), .int (nI tt), .ref z19, .ref z20, .ref z21, .ref z22, .ref z23, .int (nI gm), .ref z25, .ref z26, .ref z27, .ref z28, .int (nI rn), .ref z30, .ref z31, .ref z32])), kI G z11 192 (nF lb)] (some (.int (b2i (prBO lb b e o)))) [(z, .inr (10, [.int (nI st), .int (nI th), .long za, .long zb, .ref z4, .ref z5, .ref z6, .int (nI el), .int (nI be), .ref z9, .ref z10, .ref z11, .ref z12, .int (b2i gz), .ref z14, .ref z15, .ref z16, .int (nI mm), .int (nI tt), .ref z19, .ref z20, .ref z21, .ref z22, .ref z23, .int (nI gm), .ref z25, .ref z26, .ref z27, .ref z28, .int (nI rn), .ref z30, .ref z31, .ref z32])), kI G z11 192 (nF lb)] := by
  refine MF.ofJ (cc := cX10_beginnerPrefers) (maxL := 6) (ret := (some .boolean)) (own := RX10) (lv := [(0, .ref z), (1, .int (nI b)), (2, .int (nI e)), (3, .int (oI o))]) (by decide) rfl rfl (Nat.le_of_ble_eq_true rfl) rfl ?_
  intro κ X
  have i_X10 : ∀ w ∈ wsX100, w ∈ wsX10_beginnerPrefers := by decide +kernel
  refine j_iload_n (pc := 0) X dX10_beginnerPrefers_0 rfl 3 rfl ?_
  refine j_ifO_ge (pc := 1) X (a := o) (by exact ho.big (by decide)) (tgt := 6) dX10_beginnerPrefers_1 (by decide) (fun c_1 => ?_) (fun c_1 => ?_)
  · skip
    obtain ⟨o, rfl⟩ := Option.ne_none_iff_exists'.mp c_1; have ho := ho o rfl
    refine j_aload_n (pc := 6) X dX10_beginnerPrefers_6 rfl 0 rfl ?_
    refine j_get (pc := 7) X 10 i_X10 0 rfl rfl 11 (by decide) (by decide +kernel) rfl dX10_beginnerPrefers_7 ?_
    refine j_bipush (pc := 10) X (v := nI 16) dX10_beginnerPrefers_10 (by decide) ?_
    refine j_iload_n (pc := 12) X dX10_beginnerPrefers_12 rfl 2 rfl ?_
    refine j_imul (pc := 13) X dX10_beginnerPrefers_13 ?_
    refine j_topi (z := nI (16 * e)) (pk_mul _ _) ?_
    refine j_iload_n (pc := 14) X dX10_beginnerPrefers_14 rfl 1 rfl ?_
    refine j_iadd (pc := 15) X dX10_beginnerPrefers_15 ?_
    refine j_topi (z := nI (e * 16 + b)) ((nI_add _ _).trans (by rw [Nat.mul_comm])) ?_
    refine j_iald (pc := 16) X 1 rfl (vp_in_nI (by omega) (by decide)) (v := nI (lb (e * 16 + b))) (congrArg (nF lb) (nI_clamp (by omega))) dX10_beginnerPrefers_16 ?_
    refine j_istore (pc := 17) X (lv' := [(4, .int (nI (lb (e * 16 + b)))), (0, .ref z), (1, .int (nI b)), (2, .int (nI e)), (3, .int (nI o))]) dX10_beginnerPrefers_17 (by decide) rfl ?_
    refine j_aload_n (pc := 19) X dX10_beginnerPrefers_19 rfl 1 rfl ?_
    refine j_get (pc := 20) X 10 i_X10 0 rfl rfl 11 (by decide) (by decide +kernel) rfl dX10_beginnerPrefers_20 ?_
    refine j_bipush (pc := 23) X (v := nI 16) dX10_beginnerPrefers_23 (by decide) ?_
    refine j_iload_n (pc := 25) X dX10_beginnerPrefers_25 rfl 4 rfl ?_
    refine j_imul (pc := 26) X dX10_beginnerPrefers_26 ?_
    refine j_topi (z := nI (16 * o)) (pk_mul _ _) ?_
    refine j_iload_n (pc := 27) X dX10_beginnerPrefers_27 rfl 2 rfl ?_
    refine j_iadd (pc := 28) X dX10_beginnerPrefers_28 ?_
    refine j_topi (z := nI (o * 16 + b)) ((nI_add _ _).trans (by rw [Nat.mul_comm])) ?_
    refine j_iald (pc := 29) X 1 rfl (vp_in_nI (by omega) (by decide)) (v := nI (lb (o * 16 + b))) (congrArg (nF lb) (nI_clamp (by omega))) dX10_beginnerPrefers_29 ?_
    refine j_istore (pc := 30) X (lv' := [(5, .int (nI (lb (o * 16 + b)))), (4, .int (nI (lb (e * 16 + b)))), (0, .ref z), (1, .int (nI b)), (2, .int (nI e)), (3, .int (nI o))]) dX10_beginnerPrefers_30 (by decide) rfl ?_
    refine j_iload (pc := 32) X dX10_beginnerPrefers_32 1 rfl ?_
    refine j_iload (pc := 34) X dX10_beginnerPrefers_34 0 rfl ?_
    refine j_icmpN_gt (pc := 36) X (a := (lb (e * 16 + b))) (b := (lb (o * 16 + b))) (by first | omega | exact Nat.lt_of_le_of_lt (hlb _) (by decide)) (by first | omega | exact Nat.lt_of_le_of_lt (hlb _) (by decide)) (tgt := 51) dX10_beginnerPrefers_36 (by decide) (fun c_36 => ?_) (fun c_36 => ?_)
    · skip
      refine j_iconst (pc := 51) X (v := nI 1) dX10_beginnerPrefers_51 (by decide) ?_
      refine j_goto (pc := 52) X (tgt := 56) dX10_beginnerPrefers_52 (by decide) ?_
      exact j_zret (pc := 56) X (rfl) dX10_beginnerPrefers_56 ⟨r1 (by first | (simp [prBO, prB, c_1, c_36]; done) | (simp [prBO, prB, c_1, c_36]; omega)), rfl⟩
    · skip
      refine j_iload (pc := 39) X dX10_beginnerPrefers_39 1 rfl ?_
      refine j_iload (pc := 41) X dX10_beginnerPrefers_41 0 rfl ?_
      refine j_icmpN_ne (pc := 43) X (a := (lb (e * 16 + b))) (b := (lb (o * 16 + b))) (by first | omega | exact Nat.lt_of_le_of_lt (hlb _) (by decide)) (by first | omega | exact Nat.lt_of_le_of_lt (hlb _) (by decide)) (tgt := 55) dX10_beginnerPrefers_43 (by decide) (fun c_43 => ?_) (fun c_43 => ?_)
      · skip
        refine j_iconst (pc := 55) X (v := nI 0) dX10_beginnerPrefers_55 (by decide) ?_
        exact j_zret (pc := 56) X (rfl) dX10_beginnerPrefers_56 ⟨r0 (by first | (simp [prBO, prB, c_1, c_36, c_43]; done) | (simp [prBO, prB, c_1, c_36, c_43]; omega)), rfl⟩
      · skip
        refine j_iload_n (pc := 46) X dX10_beginnerPrefers_46 rfl 4 rfl ?_
        refine j_iload_n (pc := 47) X dX10_beginnerPrefers_47 rfl 5 rfl ?_
        refine j_icmpN_ge (pc := 48) X (a := e) (b := o) (by first | omega | exact Nat.lt_of_le_of_lt (hlb _) (by decide)) (by first | omega | exact Nat.lt_of_le_of_lt (hlb _) (by decide)) (tgt := 55) dX10_beginnerPrefers_48 (by decide) (fun c_48 => ?_) (fun c_48 => ?_)
        · skip
          refine j_iconst (pc := 55) X (v := nI 0) dX10_beginnerPrefers_55 (by decide) ?_
          exact j_zret (pc := 56) X (rfl) dX10_beginnerPrefers_56 ⟨r0 (by first | (simp [prBO, prB, c_1, c_36, c_43, c_48]; done) | (simp [prBO, prB, c_1, c_36, c_43, c_48]; omega)), rfl⟩
        · skip
          refine j_iconst (pc := 51) X (v := nI 1) dX10_beginnerPrefers_51 (by decide) ?_
          refine j_goto (pc := 52) X (tgt := 56) dX10_beginnerPrefers_52 (by decide) ?_
          exact j_zret (pc := 56) X (rfl) dX10_beginnerPrefers_56 ⟨r1 (by first | (simp [prBO, prB, c_1, c_36, c_43, c_48]; done) | (simp [prBO, prB, c_1, c_36, c_43, c_48]; omega)), rfl⟩
  · skip
    refine j_iconst (pc := 4) X (v := nI 1) dX10_beginnerPrefers_4 (by decide) ?_
    exact j_zret (pc := 5) X (rfl) dX10_beginnerPrefers_5 ⟨r1 (by first | (simp [prBO, prB, c_1]; done) | (simp [prBO, prB, c_1]; omega)), rfl⟩

set_option maxHeartbeats 4000000 in
set_option maxRecDepth 100000 in
theorem mX10_hasOf_L4 (l : Launch) (G : jG) (z : Nat) (z4 : Nat) (z5 : Nat) (z6 : Nat) (z9 : Nat) (z10 : Nat) (z11 : Nat) (z12 : Nat) (z14 : Nat) (z15 : Nat) (z16 : Nat) (z19 : Nat) (z20 : Nat) (z21 : Nat) (z22 : Nat) (z23 : Nat) (z25 : Nat) (z26 : Nat) (z27 : Nat) (z28 : Nat) (z30 : Nat) (z31 : Nat) (z32 : Nat) (st : Nat) (th : Nat) (za : Int64) (zb : Int64) (el : Nat) (be : Nat) (gz : Bool) (mm : Nat) (tt : Nat) (gm : Nat) (rn : Nat) (gi : Nat → Option Nat) (e : Nat) (hgi : ∀ k, ob 12 (gi k)) (hbe : be ≤ 16) (he : e < 12) (κ : jK) (X : CX κ l yX10_hasOf cX10_hasOf 4 RX10 wsX10_hasOf (some .int) ({ frames := 0, cells := 0, slots := 0, locals := 0 }) G (va_A [(z, .inr (10, [.int (nI st), .int (nI th), .long za, .long zb, .ref z4, .ref z5, .ref z6, .int (nI el), .int (nI be), .ref z9, .ref z10, .ref z11, .ref z12, .int (b2i gz), .ref z14, .ref z15, .ref z16, .int (nI mm), .int (nI tt), .ref z19, .ref z20, .ref z21, .ref z22, .ref z23, .int (nI gm), .ref z25, .ref z26, .ref z27, .ref z28, .int (nI rn), .ref z30, .ref z31, .ref z32])), kI G z14 16 (oF gi)] (js κ).heap.size))    : ∀ (fu : Nat) (b : Nat) (hb : b ≤ be) (_ : be - b < fu), JJ κ 4 G (va_A [(z, .inr (10, [.int (nI st), .int (nI th), .long za, .long zb, .ref z4, .ref z5, .ref z6, .int (nI el), .int (nI be), .ref z9, .ref z10, .ref z11, .ref z12, .int (b2i gz), .ref z14, .ref z15, .ref z16, .int (nI mm), .int (nI tt), .ref z19, .ref z20, .ref z21, .ref z22, .ref z23, .int (nI gm), .ref z25, .ref z26, .ref z27, .ref z28, .int (nI rn), .ref z30, .ref z31, .ref z32])), kI G z14 16 (oF gi)] (js κ).heap.size) 0 0 (jQ κ G [(z, .inr (10, [.int (nI st), .int (nI th), .long za, .long zb, .ref z4, .ref z5, .ref z6, .int (nI el), .int (nI be), .ref z9, .ref z10, .ref z11, .ref z12, .int (b2i gz), .ref z14, .ref z15, .ref z16, .int (nI mm), .int (nI tt), .ref z19, .ref z20, .ref z21, .ref z22, .ref z23, .int (nI gm), .ref z25, .ref z26, .ref z27, .ref z28, .int (nI rn), .ref z30, .ref z31, .ref z32])), kI G z14 16 (oF gi)] (fun r w' => r = some (.int (nI (cntO gi e be))) ∧ w' = [(z, .inr (10, [.int (nI st), .int (nI th), .long za, .long zb, .ref z4, .ref z5, .ref z6, .int (nI el), .int (nI be), .ref z9, .ref z10, .ref z11, .ref z12, .int (b2i gz), .ref z14, .ref z15, .ref z16, .int (nI mm), .int (nI tt), .ref z19, .ref z20, .ref z21, .ref z22, .ref z23, .int (nI gm), .ref z25, .ref z26, .ref z27, .ref z28, .int (nI rn), .ref z30, .ref z31, .ref z32])), kI G z14 16 (oF gi)]) 0 0) 4 [(0, .ref z), (1, .int (nI e)), (2, .int (nI (cntO gi e b))), (3, .int (nI b))] [] [(z, .inr (10, [.int (nI st), .int (nI th), .long za, .long zb, .ref z4, .ref z5, .ref z6, .int (nI el), .int (nI be), .ref z9, .ref z10, .ref z11, .ref z12, .int (b2i gz), .ref z14, .ref z15, .ref z16, .int (nI mm), .int (nI tt), .ref z19, .ref z20, .ref z21, .ref z22, .ref z23, .int (nI gm), .ref z25, .ref z26, .ref z27, .ref z28, .int (nI rn), .ref z30, .ref z31, .ref z32])), kI G z14 16 (oF gi)] := by
  have i_X10 : ∀ w ∈ wsX100, w ∈ wsX10_hasOf := by decide +kernel
  intro fu
  induction fu with
  | zero => intro b hb hms; exact absurd hms (Nat.not_lt_zero _)
  | succ fu ih =>
    intro b hb hms
    refine j_iload_n (pc := 4) X dX10_hasOf_4 rfl 3 rfl ?_
    refine j_aload_n (pc := 5) X dX10_hasOf_5 rfl 0 rfl ?_
    refine j_get (pc := 6) X 10 i_X10 0 rfl rfl 8 (by decide) (by decide +kernel) rfl dX10_hasOf_6 ?_
    refine j_icmpN_ge (pc := 9) X (a := b) (b := be) (by omega) (by omega) (tgt := 36) dX10_hasOf_9 (by decide) (fun c_9 => ?_) (fun c_9 => ?_)
    · skip
      refine j_iload_n (pc := 36) X dX10_hasOf_36 rfl 2 rfl ?_
      exact j_iret (pc := 37) X dX10_hasOf_37 ⟨by rw [show b = be by omega], rfl⟩
    · skip
      refine j_iload_n (pc := 12) X dX10_hasOf_12 rfl 2 rfl ?_
      refine j_aload_n (pc := 13) X dX10_hasOf_13 rfl 0 rfl ?_
      refine j_get (pc := 14) X 10 i_X10 0 rfl rfl 14 (by decide) (by decide +kernel) rfl dX10_hasOf_14 ?_
      refine j_iload_n (pc := 17) X dX10_hasOf_17 rfl 3 rfl ?_
      refine j_iald (pc := 18) X 1 rfl (vp_in_nI (by omega) (by decide)) (v := oI (gi b)) (congrArg (oF gi) (nI_clamp (by omega))) dX10_hasOf_18 ?_
      refine j_iload_n (pc := 19) X dX10_hasOf_19 rfl 1 rfl ?_
      refine j_icmpO_ne (pc := 20) X (a := (gi b)) (b := (some e)) (by first | exact ob_n | exact ob_s (by omega) | exact (hgi _).big (by decide)) (by first | exact ob_n | exact ob_s (by omega) | exact (hgi _).big (by decide)) (tgt := 27) dX10_hasOf_20 (by decide) (fun c_20 => ?_) (fun c_20 => ?_)
      · skip
        refine j_iconst (pc := 27) X (v := nI 0) dX10_hasOf_27 (by decide) ?_
        refine j_iadd (pc := 28) X dX10_hasOf_28 ?_
        refine j_topi (z := nI (cntO gi e b + 0)) (nI_add _ _) ?_
        refine j_istore_n (pc := 29) X (lv' := [(2, .int (nI (cntO gi e b + 0))), (0, .ref z), (1, .int (nI e)), (3, .int (nI b))]) dX10_hasOf_29 rfl (by decide) rfl ?_
        refine j_iinc (pc := 30) X (v := nI (b + 1)) (lv' := [(3, .int (nI (b + 1))), (2, .int (nI (cntO gi e b + 0))), (0, .ref z), (1, .int (nI e))]) dX10_hasOf_30 3 rfl (nI_1 _) (by decide) rfl ?_
        refine j_goto (pc := 33) X (tgt := 4) dX10_hasOf_33 (by decide) ?_
        refine j_lv [2, 3, 1, 0] (lv' := [(0, .ref z), (1, .int (nI e)), (2, .int (nI (cntO gi e b + 0))), (3, .int (nI (b + 1)))]) rfl ?_
        refine j_lvq (lv' := [(0, .ref z), (1, .int (nI e)), (2, .int (nI (cntO gi e (b + 1)))), (3, .int (nI (b + 1)))]) ?_ ?_
        · rw [show (cntO gi e b + 0) = cntO gi e (b + 1) from by (simp [cntO, c_9, c_20])]
        exact ih (b + 1) (by omega) (by omega)
      · skip
        refine j_iconst (pc := 23) X (v := nI 1) dX10_hasOf_23 (by decide) ?_
        refine j_goto (pc := 24) X (tgt := 28) dX10_hasOf_24 (by decide) ?_
        refine j_iadd (pc := 28) X dX10_hasOf_28 ?_
        refine j_topi (z := nI (cntO gi e b + 1)) (nI_add _ _) ?_
        refine j_istore_n (pc := 29) X (lv' := [(2, .int (nI (cntO gi e b + 1))), (0, .ref z), (1, .int (nI e)), (3, .int (nI b))]) dX10_hasOf_29 rfl (by decide) rfl ?_
        refine j_iinc (pc := 30) X (v := nI (b + 1)) (lv' := [(3, .int (nI (b + 1))), (2, .int (nI (cntO gi e b + 1))), (0, .ref z), (1, .int (nI e))]) dX10_hasOf_30 3 rfl (nI_1 _) (by decide) rfl ?_
        refine j_goto (pc := 33) X (tgt := 4) dX10_hasOf_33 (by decide) ?_
        refine j_lv [2, 3, 1, 0] (lv' := [(0, .ref z), (1, .int (nI e)), (2, .int (nI (cntO gi e b + 1))), (3, .int (nI (b + 1)))]) rfl ?_
        refine j_lvq (lv' := [(0, .ref z), (1, .int (nI e)), (2, .int (nI (cntO gi e (b + 1)))), (3, .int (nI (b + 1)))]) ?_ ?_
        · rw [show (cntO gi e b + 1) = cntO gi e (b + 1) from by (simp [cntO, c_9, c_20])]
        exact ih (b + 1) (by omega) (by omega)
set_option maxHeartbeats 4000000 in
set_option maxRecDepth 100000 in
theorem mX10_hasOf (l : Launch) (G : jG) (z : Nat) (z4 : Nat) (z5 : Nat) (z6 : Nat) (z9 : Nat) (z10 : Nat) (z11 : Nat) (z12 : Nat) (z14 : Nat) (z15 : Nat) (z16 : Nat) (z19 : Nat) (z20 : Nat) (z21 : Nat) (z22 : Nat) (z23 : Nat) (z25 : Nat) (z26 : Nat) (z27 : Nat) (z28 : Nat) (z30 : Nat) (z31 : Nat) (z32 : Nat) (st : Nat) (th : Nat) (za : Int64) (zb : Int64) (el : Nat) (be : Nat) (gz : Bool) (mm : Nat) (tt : Nat) (gm : Nat) (rn : Nat) (gi : Nat → Option Nat) (e : Nat) (hgi : ∀ k, ob 12 (gi k)) (hbe : be ≤ 16) (he : e < 12) : MV l yX10_hasOf wsX10_hasOf ({ frames := 0, cells := 0, slots := 0, locals := 0 }) G [.ref z, .int (nI e)] [(z, .inr (10, [.int (nI st), .int (nI th), .long za, .long zb, .ref z4, .ref z5, .ref z6, .int (nI el), .int (nI be), .ref z9, .ref z10, .ref z11, .ref z12, .int (b2i gz), .ref z14, .ref z15, .ref z16, .int (nI mm), .int (nI tt), .ref z19, .ref z20, .ref z21, .ref z22, .ref z23, .int (nI gm), .ref z25, .ref z26, .ref z27, .ref z28, .int (nI rn), .ref z30, .ref z31, .ref z32])), kI G z14 16 (oF gi)] (some (.int (nI (cntO gi e be)))) [(z, .inr (10, [.int (nI st), .int (nI th), .long za, .long zb, .ref z4, .ref z5, .ref z6, .int (nI el), .int (nI be), .ref z9, .ref z10, .ref z11, .ref z12, .int (b2i gz), .ref z14, .ref z15, .ref z16, .int (nI mm), .int (nI tt), .ref z19, .ref z20, .ref z21, .ref z22, .ref z23, .int (nI gm), .ref z25, .ref z26, .ref z27, .ref z28, .int (nI rn), .ref z30, .ref z31, .ref z32])), kI G z14 16 (oF gi)] := by
  refine MF.ofJ (cc := cX10_hasOf) (maxL := 4) (ret := (some .int)) (own := RX10) (lv := [(0, .ref z), (1, .int (nI e))]) (by decide) rfl rfl (Nat.le_of_ble_eq_true rfl) rfl ?_
  intro κ X
  have i_X10 : ∀ w ∈ wsX100, w ∈ wsX10_hasOf := by decide +kernel
  refine j_iconst (pc := 0) X (v := nI 0) dX10_hasOf_0 (by decide) ?_
  refine j_istore_n (pc := 1) X (lv' := [(2, .int (nI 0)), (0, .ref z), (1, .int (nI e))]) dX10_hasOf_1 rfl (by decide) rfl ?_
  refine j_iconst (pc := 2) X (v := nI 0) dX10_hasOf_2 (by decide) ?_
  refine j_istore_n (pc := 3) X (lv' := [(3, .int (nI 0)), (2, .int (nI 0)), (0, .ref z), (1, .int (nI e))]) dX10_hasOf_3 rfl (by decide) rfl ?_
  refine j_lv [2, 3, 1, 0] (lv' := [(0, .ref z), (1, .int (nI e)), (2, .int (nI 0)), (3, .int (nI 0))]) rfl ?_
  refine j_lvq (lv' := [(0, .ref z), (1, .int (nI e)), (2, .int (nI (cntO gi e 0))), (3, .int (nI 0))]) ?_ ?_
  · first | rfl | (rw [show (0) = cntO gi e 0 from by (simp [cntO, ne_eq])])
  exact mX10_hasOf_L4 l G z z4 z5 z6 z9 z10 z11 z12 z14 z15 z16 z19 z20 z21 z22 z23 z25 z26 z27 z28 z30 z31 z32 st th za zb el be gz mm tt gm rn gi e hgi hbe he κ X    (be - 0 + 1) 0 (by omega) (Nat.lt_succ_self _)

set_option maxHeartbeats 4000000 in
set_option maxRecDepth 100000 in
theorem mX10_worst_L4 (l : Launch) (G : jG) (z : Nat) (z4 : Nat) (z5 : Nat) (z6 : Nat) (z9 : Nat) (z10 : Nat) (z11 : Nat) (z12 : Nat) (z14 : Nat) (z15 : Nat) (z16 : Nat) (z19 : Nat) (z20 : Nat) (z21 : Nat) (z22 : Nat) (z23 : Nat) (z25 : Nat) (z26 : Nat) (z27 : Nat) (z28 : Nat) (z30 : Nat) (z31 : Nat) (z32 : Nat) (st : Nat) (th : Nat) (za : Int64) (zb : Int64) (el : Nat) (be : Nat) (gz : Bool) (mm : Nat) (tt : Nat) (gm : Nat) (rn : Nat) (gi : Nat → Option Nat) (le : Nat → Nat) (e : Nat) (hgi : ∀ k, ob 12 (gi k)) (hbe : be ≤ 16) (hle : ∀ k, le k ≤ 100) (he : e < 12) (κ : jK) (X : CX κ l yX10_worst cX10_worst 4 RX10 wsX10_worst (some .int) ({ frames := 1, cells := 0, slots := 0, locals := 25 }) G (va_A [(z, .inr (10, [.int (nI st), .int (nI th), .long za, .long zb, .ref z4, .ref z5, .ref z6, .int (nI el), .int (nI be), .ref z9, .ref z10, .ref z11, .ref z12, .int (b2i gz), .ref z14, .ref z15, .ref z16, .int (nI mm), .int (nI tt), .ref z19, .ref z20, .ref z21, .ref z22, .ref z23, .int (nI gm), .ref z25, .ref z26, .ref z27, .ref z28, .int (nI rn), .ref z30, .ref z31, .ref z32])), kI G z14 16 (oF gi), kI G z10 192 (nF le)] (js κ).heap.size))    : ∀ (fu : Nat) (b : Nat) (w : Option Nat) (hb : b ≤ be) (hw : w = lst le gi e b) (hwo : ob 16 w) (_ : be - b < fu), JJ κ 4 G (va_A [(z, .inr (10, [.int (nI st), .int (nI th), .long za, .long zb, .ref z4, .ref z5, .ref z6, .int (nI el), .int (nI be), .ref z9, .ref z10, .ref z11, .ref z12, .int (b2i gz), .ref z14, .ref z15, .ref z16, .int (nI mm), .int (nI tt), .ref z19, .ref z20, .ref z21, .ref z22, .ref z23, .int (nI gm), .ref z25, .ref z26, .ref z27, .ref z28, .int (nI rn), .ref z30, .ref z31, .ref z32])), kI G z14 16 (oF gi), kI G z10 192 (nF le)] (js κ).heap.size) 0 0 (jQ κ G [(z, .inr (10, [.int (nI st), .int (nI th), .long za, .long zb, .ref z4, .ref z5, .ref z6, .int (nI el), .int (nI be), .ref z9, .ref z10, .ref z11, .ref z12, .int (b2i gz), .ref z14, .ref z15, .ref z16, .int (nI mm), .int (nI tt), .ref z19, .ref z20, .ref z21, .ref z22, .ref z23, .int (nI gm), .ref z25, .ref z26, .ref z27, .ref z28, .int (nI rn), .ref z30, .ref z31, .ref z32])), kI G z14 16 (oF gi), kI G z10 192 (nF le)] (fun r w' => r = some (.int (oI (lst le gi e be))) ∧ w' = [(z, .inr (10, [.int (nI st), .int (nI th), .long za, .long zb, .ref z4, .ref z5, .ref z6, .int (nI el), .int (nI be), .ref z9, .ref z10, .ref z11, .ref z12, .int (b2i gz), .ref z14, .ref z15, .ref z16, .int (nI mm), .int (nI tt), .ref z19, .ref z20, .ref z21, .ref z22, .ref z23, .int (nI gm), .ref z25, .ref z26, .ref z27, .ref z28, .int (nI rn), .ref z30, .ref z31, .ref z32])), kI G z14 16 (oF gi), kI G z10 192 (nF le)]) 0 0) 4 [(0, .ref z), (1, .int (nI e)), (2, .int (oI w)), (3, .int (nI b))] [] [(z, .inr (10, [.int (nI st), .int (nI th), .long za, .long zb, .ref z4, .ref z5, .ref z6, .int (nI el), .int (nI be), .ref z9, .ref z10, .ref z11, .ref z12, .int (b2i gz), .ref z14, .ref z15, .ref z16, .int (nI mm), .int (nI tt), .ref z19, .ref z20, .ref z21, .ref z22, .ref z23, .int (nI gm), .ref z25, .ref z26, .ref z27, .ref z28, .int (nI rn), .ref z30, .ref z31, .ref z32])), kI G z14 16 (oF gi), kI G z10 192 (nF le)] := by
  have i_X10 : ∀ w ∈ wsX100, w ∈ wsX10_worst := by decide +kernel
  intro fu
  induction fu with
  | zero => intro b w hb hw hwo hms; exact absurd hms (Nat.not_lt_zero _)
  | succ fu ih =>
    intro b w hb hw hwo hms
    refine j_iload_n (pc := 4) X dX10_worst_4 rfl 3 rfl ?_
    refine j_aload_n (pc := 5) X dX10_worst_5 rfl 0 rfl ?_
    refine j_get (pc := 6) X 10 i_X10 0 rfl rfl 8 (by decide) (by decide +kernel) rfl dX10_worst_6 ?_
    refine j_icmpN_ge (pc := 9) X (a := b) (b := be) (by omega) (by omega) (tgt := 44) dX10_worst_9 (by decide) (fun c_9 => ?_) (fun c_9 => ?_)
    · skip
      refine j_iload_n (pc := 44) X dX10_worst_44 rfl 2 rfl ?_
      exact j_iret (pc := 45) X dX10_worst_45 ⟨by rw [show be = b by omega, hw], rfl⟩
    · skip
      refine j_aload_n (pc := 12) X dX10_worst_12 rfl 0 rfl ?_
      refine j_get (pc := 13) X 10 i_X10 0 rfl rfl 14 (by decide) (by decide +kernel) rfl dX10_worst_13 ?_
      refine j_iload_n (pc := 16) X dX10_worst_16 rfl 3 rfl ?_
      refine j_iald (pc := 17) X 1 rfl (vp_in_nI (by omega) (by decide)) (v := oI (gi b)) (congrArg (oF gi) (nI_clamp (by omega))) dX10_worst_17 ?_
      refine j_iload_n (pc := 18) X dX10_worst_18 rfl 1 rfl ?_
      refine j_icmpO_ne (pc := 19) X (a := (gi b)) (b := (some e)) (by first | exact ob_n | exact ob_s (by omega) | exact (hgi _).big (by decide) | exact hwo.big (by decide)) (by first | exact ob_n | exact ob_s (by omega) | exact (hgi _).big (by decide) | exact hwo.big (by decide)) (tgt := 38) dX10_worst_19 (by decide) (fun c_19 => ?_) (fun c_19 => ?_)
      · skip
        refine j_iinc (pc := 38) X (v := nI (b + 1)) (lv' := [(3, .int (nI (b + 1))), (0, .ref z), (1, .int (nI e)), (2, .int (oI w))]) dX10_worst_38 3 rfl (nI_1 _) (by decide) rfl ?_
        refine j_goto (pc := 41) X (tgt := 4) dX10_worst_41 (by decide) ?_
        refine j_lv [1, 2, 3, 0] (lv' := [(0, .ref z), (1, .int (nI e)), (2, .int (oI w)), (3, .int (nI (b + 1)))]) rfl ?_
        exact ih (b + 1) w (by omega) (by simp [lst, prEO, ← hw, c_9, c_19]) (by first | exact hwo | exact ob_s (by omega) | exact ob_n) (by omega)
      · skip
        refine j_iload_n (pc := 22) X dX10_worst_22 rfl 2 rfl ?_
        refine j_ifO_lt (pc := 23) X (a := w) (by first | exact ob_n | exact ob_s (by omega) | exact (hgi _).big (by decide) | exact hwo.big (by decide)) (tgt := 36) dX10_worst_23 (by decide) (fun c_23 => ?_) (fun c_23 => ?_)
        · skip
          refine j_iload_n (pc := 36) X dX10_worst_36 rfl 3 rfl ?_
          refine j_istore_n (pc := 37) X (lv' := [(2, .int (nI b)), (0, .ref z), (1, .int (nI e)), (3, .int (nI b))]) dX10_worst_37 rfl (by decide) rfl ?_
          refine j_iinc (pc := 38) X (v := nI (b + 1)) (lv' := [(3, .int (nI (b + 1))), (2, .int (nI b)), (0, .ref z), (1, .int (nI e))]) dX10_worst_38 3 rfl (nI_1 _) (by decide) rfl ?_
          refine j_goto (pc := 41) X (tgt := 4) dX10_worst_41 (by decide) ?_
          refine j_lv [2, 3, 1, 0] (lv' := [(0, .ref z), (1, .int (nI e)), (2, .int (nI b)), (3, .int (nI (b + 1)))]) rfl ?_
          refine j_lvq (lv' := [(0, .ref z), (1, .int (nI e)), (2, .int (oI (some b))), (3, .int (nI (b + 1)))]) rfl ?_
          exact ih (b + 1) (some b) (by omega) (by simp [lst, prEO, ← hw, c_9, c_19, c_23]) (by first | exact hwo | exact ob_s (by omega) | exact ob_n) (by omega)
        · skip
          obtain ⟨w, rfl⟩ := Option.ne_none_iff_exists'.mp c_23; have hw16 := hwo w rfl
          refine j_aload_n (pc := 26) X dX10_worst_26 rfl 0 rfl ?_
          refine j_iload_n (pc := 27) X dX10_worst_27 rfl 1 rfl ?_
          refine j_iload_n (pc := 28) X dX10_worst_28 rfl 2 rfl ?_
          refine j_iload_n (pc := 29) X dX10_worst_29 rfl 3 rfl ?_
          refine j_ciP (pc := 30) X [0, 2] rfl (j_rV X (b := z) (As := [.int (nI e), .int (nI w), .int (nI b)]) (ci := 10) (rest := []) 3 (mX10_elderPrefers l G z z4 z5 z6 z9 z10 z11 z12 z14 z15 z16 z19 z20 z21 z22 z23 z25 z26 z27 z28 z30 z31 z32 st th za zb el be gz mm tt gm rn le e w b (by first | assumption | omega | exact ob_s (by omega) | exact ob_n) (by first | assumption | omega | exact ob_s (by omega) | exact ob_n) (by first | assumption | omega | exact ob_s (by omega) | exact ob_n) (by first | assumption | omega | exact ob_s (by omega) | exact ob_n)) gX10_worst_X10_elderPrefers rfl rfl rfl (by decide +kernel) ⟨Nat.le_of_ble_eq_true rfl, Nat.le_of_ble_eq_true rfl⟩ rfl rfl 0 rfl [0, 2] rfl rfl rfl (Nat.le_of_ble_eq_true rfl) dX10_worst_30 ⟨Nat.le_of_ble_eq_true rfl, Nat.le_of_ble_eq_true rfl⟩) ?_
          refine j_ifb_eq (pc := 33) X (B := prE le e w b) (tgt := 38) dX10_worst_33 (by decide) (fun c_33 => ?_) (fun c_33 => ?_)
          · skip
            refine j_iinc (pc := 38) X (v := nI (b + 1)) (lv' := [(3, .int (nI (b + 1))), (0, .ref z), (1, .int (nI e)), (2, .int (nI w))]) dX10_worst_38 3 rfl (nI_1 _) (by decide) rfl ?_
            refine j_goto (pc := 41) X (tgt := 4) dX10_worst_41 (by decide) ?_
            refine j_lv [1, 2, 3, 0] (lv' := [(0, .ref z), (1, .int (nI e)), (2, .int (nI w)), (3, .int (nI (b + 1)))]) rfl ?_
            refine j_lvq (lv' := [(0, .ref z), (1, .int (nI e)), (2, .int (oI (some w))), (3, .int (nI (b + 1)))]) rfl ?_
            exact ih (b + 1) (some w) (by omega) (by simp [lst, prEO, ← hw, c_9, c_19, c_23, c_33]) (by first | exact hwo | exact ob_s (by omega) | exact ob_n) (by omega)
          · skip
            refine j_iload_n (pc := 36) X dX10_worst_36 rfl 3 rfl ?_
            refine j_istore_n (pc := 37) X (lv' := [(2, .int (nI b)), (0, .ref z), (1, .int (nI e)), (3, .int (nI b))]) dX10_worst_37 rfl (by decide) rfl ?_
            refine j_iinc (pc := 38) X (v := nI (b + 1)) (lv' := [(3, .int (nI (b + 1))), (2, .int (nI b)), (0, .ref z), (1, .int (nI e))]) dX10_worst_38 3 rfl (nI_1 _) (by decide) rfl ?_
            refine j_goto (pc := 41) X (tgt := 4) dX10_worst_41 (by decide) ?_
            refine j_lv [2, 3, 1, 0] (lv' := [(0, .ref z), (1, .int (nI e)), (2, .int (nI b)), (3, .int (nI (b + 1)))]) rfl ?_
            refine j_lvq (lv' := [(0, .ref z), (1, .int (nI e)), (2, .int (oI (some b))), (3, .int (nI (b + 1)))]) rfl ?_
            exact ih (b + 1) (some b) (by omega) (by simp [lst, prEO, ← hw, c_9, c_19, c_23, c_33]) (by first | exact hwo | exact ob_s (by omega) | exact ob_n) (by omega)
set_option maxHeartbeats 4000000 in
set_option maxRecDepth 100000 in
theorem mX10_worst (l : Launch) (G : jG) (z : Nat) (z4 : Nat) (z5 : Nat) (z6 : Nat) (z9 : Nat) (z10 : Nat) (z11 : Nat) (z12 : Nat) (z14 : Nat) (z15 : Nat) (z16 : Nat) (z19 : Nat) (z20 : Nat) (z21 : Nat) (z22 : Nat) (z23 : Nat) (z25 : Nat) (z26 : Nat) (z27 : Nat) (z28 : Nat) (z30 : Nat) (z31 : Nat) (z32 : Nat) (st : Nat) (th : Nat) (za : Int64) (zb : Int64) (el : Nat) (be : Nat) (gz : Bool) (mm : Nat) (tt : Nat) (gm : Nat) (rn : Nat) (gi : Nat → Option Nat) (le : Nat → Nat) (e : Nat) (hgi : ∀ k, ob 12 (gi k)) (hbe : be ≤ 16) (hle : ∀ k, le k ≤ 100) (he : e < 12) : MV l yX10_worst wsX10_worst ({ frames := 1, cells := 0, slots := 0, locals := 25 }) G [.ref z, .int (nI e)] [(z, .inr (10, [.int (nI st), .int (nI th), .long za, .long zb, .ref z4, .ref z5, .ref z6, .int (nI el), .int (nI be), .ref z9, .ref z10, .ref z11, .ref z12, .int (b2i gz), .ref z14, .ref z15, .ref z16, .int (nI mm), .int (nI tt), .ref z19, .ref z20, .ref z21, .ref z22, .ref z23, .int (nI gm), .ref z25, .ref z26, .ref z27, .ref z28, .int (nI rn), .ref z30, .ref z31, .ref z32])), kI G z14 16 (oF gi), kI G z10 192 (nF le)] (some (.int (oI (lst le gi e be)))) [(z, .inr (10, [.int (nI st), .int (nI th), .long za, .long zb, .ref z4, .ref z5, .ref z6, .int (nI el), .int (nI be), .ref z9, .ref z10, .ref z11, .ref z12, .int (b2i gz), .ref z14, .ref z15, .ref z16, .int (nI mm), .int (nI tt), .ref z19, .ref z20, .ref z21, .ref z22, .ref z23, .int (nI gm), .ref z25, .ref z26, .ref z27, .ref z28, .int (nI rn), .ref z30, .ref z31, .ref z32])), kI G z14 16 (oF gi), kI G z10 192 (nF le)] := by
  refine MF.ofJ (cc := cX10_worst) (maxL := 4) (ret := (some .int)) (own := RX10) (lv := [(0, .ref z), (1, .int (nI e))]) (by decide) rfl rfl (Nat.le_of_ble_eq_true rfl) rfl ?_
  intro κ X
  have i_X10 : ∀ w ∈ wsX100, w ∈ wsX10_worst := by decide +kernel
  refine j_iconst (pc := 0) X (v := oI none) dX10_worst_0 (by decide) ?_
  refine j_istore_n (pc := 1) X (lv' := [(2, .int (oI none)), (0, .ref z), (1, .int (nI e))]) dX10_worst_1 rfl (by decide) rfl ?_
  refine j_iconst (pc := 2) X (v := nI 0) dX10_worst_2 (by decide) ?_
  refine j_istore_n (pc := 3) X (lv' := [(3, .int (nI 0)), (2, .int (oI none)), (0, .ref z), (1, .int (nI e))]) dX10_worst_3 rfl (by decide) rfl ?_
  refine j_lv [2, 3, 1, 0] (lv' := [(0, .ref z), (1, .int (nI e)), (2, .int (oI none)), (3, .int (nI 0))]) rfl ?_
  exact mX10_worst_L4 l G z z4 z5 z6 z9 z10 z11 z12 z14 z15 z16 z19 z20 z21 z22 z23 z25 z26 z27 z28 z30 z31 z32 st th za zb el be gz mm tt gm rn gi le e hgi hbe hle he κ X    (be - 0 + 1) 0 none (by omega) (by rfl) (ob_n) (Nat.lt_succ_self _)

set_option maxHeartbeats 4000000 in
set_option maxRecDepth 100000 in
theorem mX10_isBlock (l : Launch) (G : jG) (z : Nat) (z4 : Nat) (z5 : Nat) (z6 : Nat) (z9 : Nat) (z10 : Nat) (z11 : Nat) (z12 : Nat) (z14 : Nat) (z15 : Nat) (z16 : Nat) (z19 : Nat) (z20 : Nat) (z21 : Nat) (z22 : Nat) (z23 : Nat) (z25 : Nat) (z26 : Nat) (z27 : Nat) (z28 : Nat) (z30 : Nat) (z31 : Nat) (z32 : Nat) (st : Nat) (th : Nat) (za : Int64) (zb : Int64) (el : Nat) (be : Nat) (gz : Bool) (mm : Nat) (tt : Nat) (gm : Nat) (rn : Nat) (gi : Nat → Option Nat) (le : Nat → Nat) (lb : Nat → Nat) (br : Nat → Bool) (pl : Nat → Nat) (e : Nat) (b : Nat) (hgi : ∀ k, ob 12 (gi k)) (hel : el ≤ 12) (hbe : be ≤ 16) (hle : ∀ k, le k ≤ 100) (hlb : ∀ k, lb k ≤ 100) (hpl : ∀ k, pl k ≤ 4) (he : e < 12) (hb : b < 16) : MV l yX10_isBlock wsX10_isBlock ({ frames := 2, cells := 0, slots := 0, locals := 48 }) G [.ref z, .int (nI e), .int (nI b)] [(z, .inr (10, [.int (nI st), .int (nI th), .long za, .long zb, .ref z4, .ref z5, .ref z6, .int (nI el), .int (nI be), .ref z9, .ref z10, .ref z11, .ref z12, .int (b2i gz), .ref z14, .ref z15, .ref z16, .int (nI mm), .int (nI tt), .ref z19, .ref z20, .ref z21, .ref z22, .ref z23, .int (nI gm), .ref z25, .ref z26, .ref z27, .ref z28, .int (nI rn), .ref z30, .ref z31, .ref z32])), kI G z14 16 (oF gi), kI G z10 192 (nF le), kI G z11 192 (nF lb), kZ G z12 192 (bF br), kI G z9 12 (nF pl)] (some (.int (b2i (blkM pl le lb br gi be e b)))) [(z, .inr (10, [.int (nI st), .int (nI th), .long za, .long zb, .ref z4, .ref z5, .ref z6, .int (nI el), .int (nI be), .ref z9, .ref z10, .ref z11, .ref z12, .int (b2i gz), .ref z14, .ref z15, .ref z16, .int (nI mm), .int (nI tt), .ref z19, .ref z20, .ref z21, .ref z22, .ref z23, .int (nI gm), .ref z25, .ref z26, .ref z27, .ref z28, .int (nI rn), .ref z30, .ref z31, .ref z32])), kI G z14 16 (oF gi), kI G z10 192 (nF le), kI G z11 192 (nF lb), kZ G z12 192 (bF br), kI G z9 12 (nF pl)] := by
  refine MF.ofJ (cc := cX10_isBlock) (maxL := 4) (ret := (some .boolean)) (own := RX10) (lv := [(0, .ref z), (1, .int (nI e)), (2, .int (nI b))]) (by decide) rfl rfl (Nat.le_of_ble_eq_true rfl) rfl ?_
  intro κ X
  have i_X10 : ∀ w ∈ wsX100, w ∈ wsX10_isBlock := by decide +kernel
  refine j_aload_n (pc := 0) X dX10_isBlock_0 rfl 0 rfl ?_
  refine j_iload_n (pc := 1) X dX10_isBlock_1 rfl 1 rfl ?_
  refine j_iload_n (pc := 2) X dX10_isBlock_2 rfl 2 rfl ?_
  refine j_ciP (pc := 3) X [0, 2, 3, 4] rfl (j_rV X (b := z) (As := [.int (nI e), .int (nI b)]) (ci := 10) (rest := []) 2 (mX10_can l G z z4 z5 z6 z9 z10 z11 z12 z14 z15 z16 z19 z20 z21 z22 z23 z25 z26 z27 z28 z30 z31 z32 st th za zb el be gz mm tt gm rn le lb br e b (by first | assumption | omega | exact ob_s (by omega) | exact ob_n) (by first | assumption | omega | exact ob_s (by omega) | exact ob_n) (by first | assumption | omega | exact ob_s (by omega) | exact ob_n) (by first | assumption | omega | exact ob_s (by omega) | exact ob_n)) gX10_isBlock_X10_can rfl rfl rfl (by decide +kernel) ⟨Nat.le_of_ble_eq_true rfl, Nat.le_of_ble_eq_true rfl⟩ rfl rfl 0 rfl [0, 2, 3, 4] rfl rfl rfl (Nat.le_of_ble_eq_true rfl) dX10_isBlock_3 ⟨Nat.le_of_ble_eq_true rfl, Nat.le_of_ble_eq_true rfl⟩) ?_
  refine j_ifb_eq (pc := 6) X (B := canB le lb br e b) (tgt := 34) dX10_isBlock_6 (by decide) (fun c_6 => ?_) (fun c_6 => ?_)
  · skip
    refine j_iconst (pc := 34) X (v := nI 0) dX10_isBlock_34 (by decide) ?_
    exact j_zret (pc := 35) X (rfl) dX10_isBlock_35 ⟨r0 (by first | (simp [blkM, c_6]; done) | (simp [blkM, hw, c_6]; done) | (simp [blkM, Nat.not_le.mp c_47, c_6]; done) | (simp [blkM, Nat.not_lt.mpr c_47, c_6]; done) | (simp [blkM, hw, Nat.not_lt.mpr c_47, c_6]; done)), rfl⟩
  · skip
    refine j_aload_n (pc := 9) X dX10_isBlock_9 rfl 0 rfl ?_
    refine j_get (pc := 10) X 10 i_X10 0 rfl rfl 14 (by decide) (by decide +kernel) rfl dX10_isBlock_10 ?_
    refine j_iload_n (pc := 13) X dX10_isBlock_13 rfl 2 rfl ?_
    refine j_iald (pc := 14) X 1 rfl (vp_in_nI (by omega) (by decide)) (v := oI (gi b)) (congrArg (oF gi) (nI_clamp (by omega))) dX10_isBlock_14 ?_
    refine j_iload_n (pc := 15) X dX10_isBlock_15 rfl 1 rfl ?_
    refine j_icmpO_eq (pc := 16) X (a := (gi b)) (b := (some e)) (by first | exact ob_n | exact ob_s (by omega) | exact (hgi _).big (by decide) | exact (lst_ob _ _ _ _).big (by omega)) (by first | exact ob_n | exact ob_s (by omega) | exact (hgi _).big (by decide) | exact (lst_ob _ _ _ _).big (by omega)) (tgt := 34) dX10_isBlock_16 (by decide) (fun c_16 => ?_) (fun c_16 => ?_)
    · skip
      refine j_iconst (pc := 34) X (v := nI 0) dX10_isBlock_34 (by decide) ?_
      exact j_zret (pc := 35) X (rfl) dX10_isBlock_35 ⟨r0 (by first | (simp [blkM, c_6, c_16]; done) | (simp [blkM, hw, c_6, c_16]; done) | (simp [blkM, Nat.not_le.mp c_47, c_6, c_16]; done) | (simp [blkM, Nat.not_lt.mpr c_47, c_6, c_16]; done) | (simp [blkM, hw, Nat.not_lt.mpr c_47, c_6, c_16]; done)), rfl⟩
    · skip
      refine j_aload_n (pc := 19) X dX10_isBlock_19 rfl 0 rfl ?_
      refine j_iload_n (pc := 20) X dX10_isBlock_20 rfl 2 rfl ?_
      refine j_iload_n (pc := 21) X dX10_isBlock_21 rfl 1 rfl ?_
      refine j_aload_n (pc := 22) X dX10_isBlock_22 rfl 0 rfl ?_
      refine j_get (pc := 23) X 10 i_X10 0 rfl rfl 14 (by decide) (by decide +kernel) rfl dX10_isBlock_23 ?_
      refine j_iload_n (pc := 26) X dX10_isBlock_26 rfl 2 rfl ?_
      refine j_iald (pc := 27) X 1 rfl (vp_in_nI (by omega) (by decide)) (v := oI (gi b)) (congrArg (oF gi) (nI_clamp (by omega))) dX10_isBlock_27 ?_
      refine j_ciP (pc := 28) X [0, 3] rfl (j_rV X (b := z) (As := [.int (nI b), .int (nI e), .int (oI (gi b))]) (ci := 10) (rest := []) 3 (mX10_beginnerPrefers l G z z4 z5 z6 z9 z10 z11 z12 z14 z15 z16 z19 z20 z21 z22 z23 z25 z26 z27 z28 z30 z31 z32 st th za zb el be gz mm tt gm rn lb b e (gi b) (by first | assumption | omega | exact ob_s (by omega) | exact ob_n) (by first | assumption | omega | exact ob_s (by omega) | exact ob_n) (by exact hgi _) (by first | assumption | omega | exact ob_s (by omega) | exact ob_n)) gX10_isBlock_X10_beginnerPrefers rfl rfl rfl (by decide +kernel) ⟨Nat.le_of_ble_eq_true rfl, Nat.le_of_ble_eq_true rfl⟩ rfl rfl 0 rfl [0, 3] rfl rfl rfl (Nat.le_of_ble_eq_true rfl) dX10_isBlock_28 ⟨Nat.le_of_ble_eq_true rfl, Nat.le_of_ble_eq_true rfl⟩) ?_
      refine j_ifb_ne (pc := 31) X (B := prBO lb b e (gi b)) (tgt := 36) dX10_isBlock_31 (by decide) (fun c_31 => ?_) (fun c_31 => ?_)
      · skip
        refine j_aload_n (pc := 36) X dX10_isBlock_36 rfl 0 rfl ?_
        refine j_iload_n (pc := 37) X dX10_isBlock_37 rfl 1 rfl ?_
        refine j_ciP (pc := 38) X [0, 1] rfl (j_rV X (b := z) (As := [.int (nI e)]) (ci := 10) (rest := []) 1 (mX10_hasOf l G z z4 z5 z6 z9 z10 z11 z12 z14 z15 z16 z19 z20 z21 z22 z23 z25 z26 z27 z28 z30 z31 z32 st th za zb el be gz mm tt gm rn gi e (by first | assumption | omega | exact ob_s (by omega) | exact ob_n) (by first | assumption | omega | exact ob_s (by omega) | exact ob_n) (by first | assumption | omega | exact ob_s (by omega) | exact ob_n)) gX10_isBlock_X10_hasOf rfl rfl rfl (by decide +kernel) ⟨Nat.le_of_ble_eq_true rfl, Nat.le_of_ble_eq_true rfl⟩ rfl rfl 0 rfl [0, 1] rfl rfl rfl (Nat.le_of_ble_eq_true rfl) dX10_isBlock_38 ⟨Nat.le_of_ble_eq_true rfl, Nat.le_of_ble_eq_true rfl⟩) ?_
        refine j_aload_n (pc := 41) X dX10_isBlock_41 rfl 0 rfl ?_
        refine j_get (pc := 42) X 10 i_X10 0 rfl rfl 9 (by decide) (by decide +kernel) rfl dX10_isBlock_42 ?_
        refine j_iload_n (pc := 45) X dX10_isBlock_45 rfl 1 rfl ?_
        refine j_iald (pc := 46) X 5 rfl (vp_in_nI (by omega) (by decide)) (v := nI (pl e)) (congrArg (nF pl) (nI_clamp (by omega))) dX10_isBlock_46 ?_
        refine j_icmpN_ge (pc := 47) X (a := (cntO gi e be)) (b := (pl e)) (by first | omega | (have h1 := cntO_le gi e be; omega) | exact Nat.lt_of_le_of_lt (hpl _) (by decide)) (by first | omega | (have h1 := cntO_le gi e be; omega) | exact Nat.lt_of_le_of_lt (hpl _) (by decide)) (tgt := 52) dX10_isBlock_47 (by decide) (fun c_47 => ?_) (fun c_47 => ?_)
        · skip
          refine j_aload_n (pc := 52) X dX10_isBlock_52 rfl 0 rfl ?_
          refine j_iload_n (pc := 53) X dX10_isBlock_53 rfl 1 rfl ?_
          refine j_ciP (pc := 54) X [0, 1, 2] rfl (j_rV X (b := z) (As := [.int (nI e)]) (ci := 10) (rest := []) 1 (mX10_worst l G z z4 z5 z6 z9 z10 z11 z12 z14 z15 z16 z19 z20 z21 z22 z23 z25 z26 z27 z28 z30 z31 z32 st th za zb el be gz mm tt gm rn gi le e (by first | assumption | omega | exact ob_s (by omega) | exact ob_n) (by first | assumption | omega | exact ob_s (by omega) | exact ob_n) (by first | assumption | omega | exact ob_s (by omega) | exact ob_n) (by first | assumption | omega | exact ob_s (by omega) | exact ob_n)) gX10_isBlock_X10_worst rfl rfl rfl (by decide +kernel) ⟨Nat.le_of_ble_eq_true rfl, Nat.le_of_ble_eq_true rfl⟩ rfl rfl 0 rfl [0, 1, 2] rfl rfl rfl (Nat.le_of_ble_eq_true rfl) dX10_isBlock_54 ⟨Nat.le_of_ble_eq_true rfl, Nat.le_of_ble_eq_true rfl⟩) ?_
          refine j_istore_n (pc := 57) X (lv' := [(3, .int (oI (lst le gi e be))), (0, .ref z), (1, .int (nI e)), (2, .int (nI b))]) dX10_isBlock_57 rfl (by decide) rfl ?_
          refine j_iload_n (pc := 58) X dX10_isBlock_58 rfl 0 rfl ?_
          refine j_ifO_lt (pc := 59) X (a := (lst le gi e be)) (by first | exact ob_n | exact ob_s (by omega) | exact (hgi _).big (by decide) | exact (lst_ob _ _ _ _).big (by omega)) (tgt := 76) dX10_isBlock_59 (by decide) (fun c_59 => ?_) (fun c_59 => ?_)
          · skip
            refine j_iconst (pc := 76) X (v := nI 0) dX10_isBlock_76 (by decide) ?_
            exact j_zret (pc := 77) X (rfl) dX10_isBlock_77 ⟨r0 (by first | (simp [blkM, c_6, c_16, c_31, c_47, c_59]; done) | (simp [blkM, hw, c_6, c_16, c_31, c_47, c_59]; done) | (simp [blkM, Nat.not_le.mp c_47, c_6, c_16, c_31, c_47, c_59]; done) | (simp [blkM, Nat.not_lt.mpr c_47, c_6, c_16, c_31, c_47, c_59]; done) | (simp [blkM, hw, Nat.not_lt.mpr c_47, c_6, c_16, c_31, c_47, c_59]; done)), rfl⟩
          · skip
            obtain ⟨w, hw⟩ := Option.ne_none_iff_exists'.mp c_59; have hw16 := lst_ob le gi e be w hw
            refine j_lvq (lv' := [(3, .int (nI w)), (0, .ref z), (1, .int (nI e)), (2, .int (nI b))]) (by rw [hw] <;> rfl) ?_
            refine j_aload_n (pc := 62) X dX10_isBlock_62 rfl 1 rfl ?_
            refine j_iload_n (pc := 63) X dX10_isBlock_63 rfl 2 rfl ?_
            refine j_iload_n (pc := 64) X dX10_isBlock_64 rfl 3 rfl ?_
            refine j_iload_n (pc := 65) X dX10_isBlock_65 rfl 0 rfl ?_
            refine j_ciP (pc := 66) X [0, 2] rfl (j_rV X (b := z) (As := [.int (nI e), .int (nI b), .int (nI w)]) (ci := 10) (rest := []) 3 (mX10_elderPrefers l G z z4 z5 z6 z9 z10 z11 z12 z14 z15 z16 z19 z20 z21 z22 z23 z25 z26 z27 z28 z30 z31 z32 st th za zb el be gz mm tt gm rn le e b w (by first | assumption | omega | exact ob_s (by omega) | exact ob_n) (by first | assumption | omega | exact ob_s (by omega) | exact ob_n) (by first | assumption | omega | exact ob_s (by omega) | exact ob_n) (by first | assumption | omega | exact ob_s (by omega) | exact ob_n)) gX10_isBlock_X10_elderPrefers rfl rfl rfl (by decide +kernel) ⟨Nat.le_of_ble_eq_true rfl, Nat.le_of_ble_eq_true rfl⟩ rfl rfl 0 rfl [0, 2] rfl rfl rfl (Nat.le_of_ble_eq_true rfl) dX10_isBlock_66 ⟨Nat.le_of_ble_eq_true rfl, Nat.le_of_ble_eq_true rfl⟩) ?_
            refine j_ifb_eq (pc := 69) X (B := prE le e b w) (tgt := 76) dX10_isBlock_69 (by decide) (fun c_69 => ?_) (fun c_69 => ?_)
            · skip
              refine j_iconst (pc := 76) X (v := nI 0) dX10_isBlock_76 (by decide) ?_
              exact j_zret (pc := 77) X (rfl) dX10_isBlock_77 ⟨r0 (by first | (simp [blkM, c_6, c_16, c_31, c_47, c_59, c_69]; done) | (simp [blkM, hw, c_6, c_16, c_31, c_47, c_59, c_69]; done) | (simp [blkM, Nat.not_le.mp c_47, c_6, c_16, c_31, c_47, c_59, c_69]; done) | (simp [blkM, Nat.not_lt.mpr c_47, c_6, c_16, c_31, c_47, c_59, c_69]; done) | (simp [blkM, hw, Nat.not_lt.mpr c_47, c_6, c_16, c_31, c_47, c_59, c_69]; done)), rfl⟩
            · skip
              refine j_iconst (pc := 72) X (v := nI 1) dX10_isBlock_72 (by decide) ?_
              refine j_goto (pc := 73) X (tgt := 77) dX10_isBlock_73 (by decide) ?_
              exact j_zret (pc := 77) X (rfl) dX10_isBlock_77 ⟨r1 (by first | (simp [blkM, c_6, c_16, c_31, c_47, c_59, c_69]; done) | (simp [blkM, hw, c_6, c_16, c_31, c_47, c_59, c_69]; done) | (simp [blkM, Nat.not_le.mp c_47, c_6, c_16, c_31, c_47, c_59, c_69]; done) | (simp [blkM, Nat.not_lt.mpr c_47, c_6, c_16, c_31, c_47, c_59, c_69]; done) | (simp [blkM, hw, Nat.not_lt.mpr c_47, c_6, c_16, c_31, c_47, c_59, c_69]; done)), rfl⟩
        · skip
          refine j_iconst (pc := 50) X (v := nI 1) dX10_isBlock_50 (by decide) ?_
          exact j_zret (pc := 51) X (rfl) dX10_isBlock_51 ⟨r1 (by first | (simp [blkM, c_6, c_16, c_31, c_47]; done) | (simp [blkM, hw, c_6, c_16, c_31, c_47]; done) | (simp [blkM, Nat.not_le.mp c_47, c_6, c_16, c_31, c_47]; done) | (simp [blkM, Nat.not_lt.mpr c_47, c_6, c_16, c_31, c_47]; done) | (simp [blkM, hw, Nat.not_lt.mpr c_47, c_6, c_16, c_31, c_47]; done)), rfl⟩
      · skip
        refine j_iconst (pc := 34) X (v := nI 0) dX10_isBlock_34 (by decide) ?_
        exact j_zret (pc := 35) X (rfl) dX10_isBlock_35 ⟨r0 (by first | (simp [blkM, c_6, c_16, c_31]; done) | (simp [blkM, hw, c_6, c_16, c_31]; done) | (simp [blkM, Nat.not_le.mp c_47, c_6, c_16, c_31]; done) | (simp [blkM, Nat.not_lt.mpr c_47, c_6, c_16, c_31]; done) | (simp [blkM, hw, Nat.not_lt.mpr c_47, c_6, c_16, c_31]; done)), rfl⟩

set_option maxHeartbeats 4000000 in
set_option maxRecDepth 100000 in
theorem mX10_trayed (l : Launch) (G : jG) (z : Nat) (z4 : Nat) (z5 : Nat) (z6 : Nat) (z9 : Nat) (z10 : Nat) (z11 : Nat) (z12 : Nat) (z14 : Nat) (z15 : Nat) (z16 : Nat) (z19 : Nat) (z20 : Nat) (z21 : Nat) (z22 : Nat) (z23 : Nat) (z25 : Nat) (z26 : Nat) (z27 : Nat) (z28 : Nat) (z30 : Nat) (z31 : Nat) (z32 : Nat) (st : Nat) (th : Nat) (za : Int64) (zb : Int64) (el : Nat) (be : Nat) (gz : Bool) (mm : Nat) (tt : Nat) (gm : Nat) (rn : Nat) (ym : Nat → Option Nat) (x : Int32) (hym : ∀ k, ob 41 (ym k)) : MV l yX10_trayed wsX10_trayed ({ frames := 0, cells := 0, slots := 0, locals := 0 }) G [.ref z, .int x] [(z, .inr (10, [.int (nI st), .int (nI th), .long za, .long zb, .ref z4, .ref z5, .ref z6, .int (nI el), .int (nI be), .ref z9, .ref z10, .ref z11, .ref z12, .int (b2i gz), .ref z14, .ref z15, .ref z16, .int (nI mm), .int (nI tt), .ref z19, .ref z20, .ref z21, .ref z22, .ref z23, .int (nI gm), .ref z25, .ref z26, .ref z27, .ref z28, .int (nI rn), .ref z30, .ref z31, .ref z32])), kI G z5 4 (oF ym)] (some (.int (nI (tfF (msO ym) x)))) [(z, .inr (10, [.int (nI st), .int (nI th), .long za, .long zb, .ref z4, .ref z5, .ref z6, .int (nI el), .int (nI be), .ref z9, .ref z10, .ref z11, .ref z12, .int (b2i gz), .ref z14, .ref z15, .ref z16, .int (nI mm), .int (nI tt), .ref z19, .ref z20, .ref z21, .ref z22, .ref z23, .int (nI gm), .ref z25, .ref z26, .ref z27, .ref z28, .int (nI rn), .ref z30, .ref z31, .ref z32])), kI G z5 4 (oF ym)] := by
  refine MF.ofJ (cc := cX10_trayed) (maxL := 2) (ret := (some .int)) (own := RX10) (lv := [(0, .ref z), (1, .int x)]) (by decide) rfl rfl (Nat.le_of_ble_eq_true rfl) rfl ?_
  intro κ X
  have i_X10 : ∀ w ∈ wsX100, w ∈ wsX10_trayed := by decide +kernel
  refine j_iload_n (pc := 0) X dX10_trayed_0 rfl 1 rfl ?_
  refine j_if_lt (pc := 1) X (x := x) (tgt := 9) dX10_trayed_1 (by decide) (fun c_1 => ?_) (fun c_1 => ?_)
  · skip
    refine j_iconst (pc := 9) X (v := nI 1) dX10_trayed_9 (by decide) ?_
    refine j_goto (pc := 10) X (tgt := 27) dX10_trayed_10 (by decide) ?_
    exact j_iret (pc := 27) X dX10_trayed_27 ⟨by first | (simp [tfF, inR, c_1]; done) | (simp [tfF, inR, tN, hq_j, msO, c_1]; done) | (simp [tfF, inR, tN, hq_j, msO_n c_19, c_1]; done), rfl⟩
  · skip
    refine j_iload_n (pc := 4) X dX10_trayed_4 rfl 1 rfl ?_
    refine j_iconst (pc := 5) X (v := nI 4) dX10_trayed_5 (by decide) ?_
    refine j_icmp_lt (pc := 6) X (x := x) (z := nI 4) (tgt := 13) dX10_trayed_6 (by decide) (fun c_6 => ?_) (fun c_6 => ?_)
    · skip
      obtain ⟨j, hj, rfl⟩ := rngl_of c_1 c_6 (by decide); have hq_j := nI_clamp (n := j) (by omega)
      refine j_aload_n (pc := 13) X dX10_trayed_13 rfl 0 rfl ?_
      refine j_get (pc := 14) X 10 i_X10 0 rfl rfl 5 (by decide) (by decide +kernel) rfl dX10_trayed_14 ?_
      refine j_iload_n (pc := 17) X dX10_trayed_17 rfl 1 rfl ?_
      refine j_iald (pc := 18) X 1 rfl (vp_in_nI (by omega) (by decide)) (v := oI (ym j)) (congrArg (oF ym) (nI_clamp (by omega))) dX10_trayed_18 ?_
      refine j_ifO_ge (pc := 19) X (a := (ym j)) (by exact (hym _).big (by decide)) (tgt := 26) dX10_trayed_19 (by decide) (fun c_19 => ?_) (fun c_19 => ?_)
      · skip
        have hq_m : msO ym j = false := (by cases h9 : ym j with | none => exact absurd h9 c_19 | some n => exact msO_s h9)
        refine j_iconst (pc := 26) X (v := nI 0) dX10_trayed_26 (by decide) ?_
        exact j_iret (pc := 27) X dX10_trayed_27 ⟨by first | (simp [tfF, inR, c_1, c_6, c_19]; done) | (simp [tfF, inR, tN, hq_j, msO, c_1, c_6, c_19]; done) | (simp [tfF, inR, tN, hq_j, msO_n c_19, c_1, c_6, c_19]; done), rfl⟩
      · skip
        refine j_iconst (pc := 22) X (v := nI 3) dX10_trayed_22 (by decide) ?_
        refine j_goto (pc := 23) X (tgt := 27) dX10_trayed_23 (by decide) ?_
        exact j_iret (pc := 27) X dX10_trayed_27 ⟨by first | (simp [tfF, inR, c_1, c_6, c_19]; done) | (simp [tfF, inR, tN, hq_j, msO, c_1, c_6, c_19]; done) | (simp [tfF, inR, tN, hq_j, msO_n c_19, c_1, c_6, c_19]; done), rfl⟩
    · skip
      refine j_iconst (pc := 9) X (v := nI 1) dX10_trayed_9 (by decide) ?_
      refine j_goto (pc := 10) X (tgt := 27) dX10_trayed_10 (by decide) ?_
      exact j_iret (pc := 27) X dX10_trayed_27 ⟨by first | (simp [tfF, inR, c_1, c_6]; done) | (simp [tfF, inR, tN, hq_j, msO, c_1, c_6]; done) | (simp [tfF, inR, tN, hq_j, msO_n c_19, c_1, c_6]; done), rfl⟩

set_option maxHeartbeats 4000000 in
set_option maxRecDepth 100000 in
theorem mX10_upper (l : Launch) (G : jG) (z : Nat) (z4 : Nat) (z5 : Nat) (z6 : Nat) (z9 : Nat) (z10 : Nat) (z11 : Nat) (z12 : Nat) (z14 : Nat) (z15 : Nat) (z16 : Nat) (z19 : Nat) (z20 : Nat) (z21 : Nat) (z22 : Nat) (z23 : Nat) (z25 : Nat) (z26 : Nat) (z27 : Nat) (z28 : Nat) (z30 : Nat) (z31 : Nat) (z32 : Nat) (st : Nat) (th : Nat) (za : Int64) (zb : Int64) (el : Nat) (be : Nat) (gz : Bool) (mm : Nat) (tt : Nat) (gm : Nat) (rn : Nat)  : MV l yX10_upper wsX10_upper ({ frames := 0, cells := 0, slots := 0, locals := 0 }) G [.ref z] [(z, .inr (10, [.int (nI st), .int (nI th), .long za, .long zb, .ref z4, .ref z5, .ref z6, .int (nI el), .int (nI be), .ref z9, .ref z10, .ref z11, .ref z12, .int (b2i gz), .ref z14, .ref z15, .ref z16, .int (nI mm), .int (nI tt), .ref z19, .ref z20, .ref z21, .ref z22, .ref z23, .int (nI gm), .ref z25, .ref z26, .ref z27, .ref z28, .int (nI rn), .ref z30, .ref z31, .ref z32]))] (some (.long za)) [(z, .inr (10, [.int (nI st), .int (nI 0), .long za, .long zb, .ref z4, .ref z5, .ref z6, .int (nI el), .int (nI be), .ref z9, .ref z10, .ref z11, .ref z12, .int (b2i gz), .ref z14, .ref z15, .ref z16, .int (nI mm), .int (nI tt), .ref z19, .ref z20, .ref z21, .ref z22, .ref z23, .int (nI gm), .ref z25, .ref z26, .ref z27, .ref z28, .int (nI rn), .ref z30, .ref z31, .ref z32]))] := by
  refine MF.ofJ (cc := cX10_upper) (maxL := 1) (ret := (some .long)) (own := RX10) (lv := [(0, .ref z)]) (by decide) rfl rfl (Nat.le_of_ble_eq_true rfl) rfl ?_
  intro κ X
  have i_X10 : ∀ w ∈ wsX100, w ∈ wsX10_upper := by decide +kernel
  refine j_aload_n (pc := 0) X dX10_upper_0 rfl 0 rfl ?_
  refine j_iconst (pc := 1) X (v := nI 0) dX10_upper_1 (by decide) ?_
  refine j_put (pc := 2) X (v := .int (nI 0)) (ws' := [(z, .inr (10, [.int (nI st), .int (nI 0), .long za, .long zb, .ref z4, .ref z5, .ref z6, .int (nI el), .int (nI be), .ref z9, .ref z10, .ref z11, .ref z12, .int (b2i gz), .ref z14, .ref z15, .ref z16, .int (nI mm), .int (nI tt), .ref z19, .ref z20, .ref z21, .ref z22, .ref z23, .int (nI gm), .ref z25, .ref z26, .ref z27, .ref z28, .int (nI rn), .ref z30, .ref z31, .ref z32]))]) 10 i_X10 tyX10 tyX10_ok nmX10 0 rfl rfl 1 (by decide) (by decide +kernel) (by decide) (rfl) (rfl) (Nat.le_of_ble_eq_true rfl) dX10_upper_2 rfl ?_
  refine j_aload_n (pc := 5) X dX10_upper_5 rfl 0 rfl ?_
  refine j_get (pc := 6) X 10 i_X10 0 rfl rfl 2 (by decide) (by decide +kernel) rfl dX10_upper_6 ?_
  exact j_lret (pc := 9) X dX10_upper_9 ⟨rfl, rfl⟩

set_option maxHeartbeats 4000000 in
set_option maxRecDepth 100000 in
theorem mX10_lower (l : Launch) (G : jG) (z : Nat) (z4 : Nat) (z5 : Nat) (z6 : Nat) (z9 : Nat) (z10 : Nat) (z11 : Nat) (z12 : Nat) (z14 : Nat) (z15 : Nat) (z16 : Nat) (z19 : Nat) (z20 : Nat) (z21 : Nat) (z22 : Nat) (z23 : Nat) (z25 : Nat) (z26 : Nat) (z27 : Nat) (z28 : Nat) (z30 : Nat) (z31 : Nat) (z32 : Nat) (st : Nat) (th : Nat) (za : Int64) (zb : Int64) (el : Nat) (be : Nat) (gz : Bool) (mm : Nat) (tt : Nat) (gm : Nat) (rn : Nat)  : MV l yX10_lower wsX10_lower ({ frames := 0, cells := 0, slots := 0, locals := 0 }) G [.ref z] [(z, .inr (10, [.int (nI st), .int (nI th), .long za, .long zb, .ref z4, .ref z5, .ref z6, .int (nI el), .int (nI be), .ref z9, .ref z10, .ref z11, .ref z12, .int (b2i gz), .ref z14, .ref z15, .ref z16, .int (nI mm), .int (nI tt), .ref z19, .ref z20, .ref z21, .ref z22, .ref z23, .int (nI gm), .ref z25, .ref z26, .ref z27, .ref z28, .int (nI rn), .ref z30, .ref z31, .ref z32]))] (some (.long zb)) [(z, .inr (10, [.int (nI st), .int (nI 0), .long za, .long zb, .ref z4, .ref z5, .ref z6, .int (nI el), .int (nI be), .ref z9, .ref z10, .ref z11, .ref z12, .int (b2i gz), .ref z14, .ref z15, .ref z16, .int (nI mm), .int (nI tt), .ref z19, .ref z20, .ref z21, .ref z22, .ref z23, .int (nI gm), .ref z25, .ref z26, .ref z27, .ref z28, .int (nI rn), .ref z30, .ref z31, .ref z32]))] := by
  refine MF.ofJ (cc := cX10_lower) (maxL := 1) (ret := (some .long)) (own := RX10) (lv := [(0, .ref z)]) (by decide) rfl rfl (Nat.le_of_ble_eq_true rfl) rfl ?_
  intro κ X
  have i_X10 : ∀ w ∈ wsX100, w ∈ wsX10_lower := by decide +kernel
  refine j_aload_n (pc := 0) X dX10_lower_0 rfl 0 rfl ?_
  refine j_iconst (pc := 1) X (v := nI 0) dX10_lower_1 (by decide) ?_
  refine j_put (pc := 2) X (v := .int (nI 0)) (ws' := [(z, .inr (10, [.int (nI st), .int (nI 0), .long za, .long zb, .ref z4, .ref z5, .ref z6, .int (nI el), .int (nI be), .ref z9, .ref z10, .ref z11, .ref z12, .int (b2i gz), .ref z14, .ref z15, .ref z16, .int (nI mm), .int (nI tt), .ref z19, .ref z20, .ref z21, .ref z22, .ref z23, .int (nI gm), .ref z25, .ref z26, .ref z27, .ref z28, .int (nI rn), .ref z30, .ref z31, .ref z32]))]) 10 i_X10 tyX10 tyX10_ok nmX10 0 rfl rfl 1 (by decide) (by decide +kernel) (by decide) (rfl) (rfl) (Nat.le_of_ble_eq_true rfl) dX10_lower_2 rfl ?_
  refine j_aload_n (pc := 5) X dX10_lower_5 rfl 0 rfl ?_
  refine j_get (pc := 6) X 10 i_X10 0 rfl rfl 3 (by decide) (by decide +kernel) rfl dX10_lower_6 ?_
  exact j_lret (pc := 9) X dX10_lower_9 ⟨rfl, rfl⟩

set_option maxHeartbeats 4000000 in
set_option maxRecDepth 100000 in
theorem mX10_status (l : Launch) (G : jG) (z : Nat) (z4 : Nat) (z5 : Nat) (z6 : Nat) (z9 : Nat) (z10 : Nat) (z11 : Nat) (z12 : Nat) (z14 : Nat) (z15 : Nat) (z16 : Nat) (z19 : Nat) (z20 : Nat) (z21 : Nat) (z22 : Nat) (z23 : Nat) (z25 : Nat) (z26 : Nat) (z27 : Nat) (z28 : Nat) (z30 : Nat) (z31 : Nat) (z32 : Nat) (st : Nat) (th : Nat) (za : Int64) (zb : Int64) (el : Nat) (be : Nat) (gz : Bool) (mm : Nat) (tt : Nat) (gm : Nat) (rn : Nat)  : MV l yX10_status wsX10_status ({ frames := 0, cells := 0, slots := 0, locals := 0 }) G [.ref z] [(z, .inr (10, [.int (nI st), .int (nI th), .long za, .long zb, .ref z4, .ref z5, .ref z6, .int (nI el), .int (nI be), .ref z9, .ref z10, .ref z11, .ref z12, .int (b2i gz), .ref z14, .ref z15, .ref z16, .int (nI mm), .int (nI tt), .ref z19, .ref z20, .ref z21, .ref z22, .ref z23, .int (nI gm), .ref z25, .ref z26, .ref z27, .ref z28, .int (nI rn), .ref z30, .ref z31, .ref z32]))] (some (.int (nI st))) [(z, .inr (10, [.int (nI st), .int (nI 0), .long za, .long zb, .ref z4, .ref z5, .ref z6, .int (nI el), .int (nI be), .ref z9, .ref z10, .ref z11, .ref z12, .int (b2i gz), .ref z14, .ref z15, .ref z16, .int (nI mm), .int (nI tt), .ref z19, .ref z20, .ref z21, .ref z22, .ref z23, .int (nI gm), .ref z25, .ref z26, .ref z27, .ref z28, .int (nI rn), .ref z30, .ref z31, .ref z32]))] := by
  refine MF.ofJ (cc := cX10_status) (maxL := 1) (ret := (some .int)) (own := RX10) (lv := [(0, .ref z)]) (by decide) rfl rfl (Nat.le_of_ble_eq_true rfl) rfl ?_
  intro κ X
  have i_X10 : ∀ w ∈ wsX100, w ∈ wsX10_status := by decide +kernel
  refine j_aload_n (pc := 0) X dX10_status_0 rfl 0 rfl ?_
  refine j_iconst (pc := 1) X (v := nI 0) dX10_status_1 (by decide) ?_
  refine j_put (pc := 2) X (v := .int (nI 0)) (ws' := [(z, .inr (10, [.int (nI st), .int (nI 0), .long za, .long zb, .ref z4, .ref z5, .ref z6, .int (nI el), .int (nI be), .ref z9, .ref z10, .ref z11, .ref z12, .int (b2i gz), .ref z14, .ref z15, .ref z16, .int (nI mm), .int (nI tt), .ref z19, .ref z20, .ref z21, .ref z22, .ref z23, .int (nI gm), .ref z25, .ref z26, .ref z27, .ref z28, .int (nI rn), .ref z30, .ref z31, .ref z32]))]) 10 i_X10 tyX10 tyX10_ok nmX10 0 rfl rfl 1 (by decide) (by decide +kernel) (by decide) (rfl) (rfl) (Nat.le_of_ble_eq_true rfl) dX10_status_2 rfl ?_
  refine j_aload_n (pc := 5) X dX10_status_5 rfl 0 rfl ?_
  refine j_get (pc := 6) X 10 i_X10 0 rfl rfl 0 (by decide) (by decide +kernel) rfl dX10_status_6 ?_
  exact j_iret (pc := 9) X dX10_status_9 ⟨rfl, rfl⟩

set_option maxHeartbeats 4000000 in
set_option maxRecDepth 100000 in
theorem mX10_clear (l : Launch) (G : jG) (z : Nat) (z4 : Nat) (z5 : Nat) (z6 : Nat) (z9 : Nat) (z10 : Nat) (z11 : Nat) (z12 : Nat) (z14 : Nat) (z15 : Nat) (z16 : Nat) (z19 : Nat) (z20 : Nat) (z21 : Nat) (z22 : Nat) (z23 : Nat) (z25 : Nat) (z26 : Nat) (z27 : Nat) (z28 : Nat) (z30 : Nat) (z31 : Nat) (z32 : Nat) (st : Nat) (th : Nat) (za : Int64) (zb : Int64) (el : Nat) (be : Nat) (gz : Bool) (mm : Nat) (tt : Nat) (gm : Nat) (rn : Nat)  : MV l yX10_clear wsX10_clear ({ frames := 0, cells := 0, slots := 0, locals := 0 }) G [.ref z] [(z, .inr (10, [.int (nI st), .int (nI th), .long za, .long zb, .ref z4, .ref z5, .ref z6, .int (nI el), .int (nI be), .ref z9, .ref z10, .ref z11, .ref z12, .int (b2i gz), .ref z14, .ref z15, .ref z16, .int (nI mm), .int (nI tt), .ref z19, .ref z20, .ref z21, .ref z22, .ref z23, .int (nI gm), .ref z25, .ref z26, .ref z27, .ref z28, .int (nI rn), .ref z30, .ref z31, .ref z32]))] (some (.int (b2i true))) [(z, .inr (10, [.int (nI 0), .int (nI 0), .long za, .long zb, .ref z4, .ref z5, .ref z6, .int (nI el), .int (nI be), .ref z9, .ref z10, .ref z11, .ref z12, .int (b2i gz), .ref z14, .ref z15, .ref z16, .int (nI mm), .int (nI tt), .ref z19, .ref z20, .ref z21, .ref z22, .ref z23, .int (nI gm), .ref z25, .ref z26, .ref z27, .ref z28, .int (nI 0), .ref z30, .ref z31, .ref z32]))] := by
  refine MF.ofJ (cc := cX10_clear) (maxL := 1) (ret := (some .boolean)) (own := RX10) (lv := [(0, .ref z)]) (by decide) rfl rfl (Nat.le_of_ble_eq_true rfl) rfl ?_
  intro κ X
  have i_X10 : ∀ w ∈ wsX100, w ∈ wsX10_clear := by decide +kernel
  refine j_aload_n (pc := 0) X dX10_clear_0 rfl 0 rfl ?_
  refine j_iconst (pc := 1) X (v := nI 0) dX10_clear_1 (by decide) ?_
  refine j_put (pc := 2) X (v := .int (nI 0)) (ws' := [(z, .inr (10, [.int (nI st), .int (nI 0), .long za, .long zb, .ref z4, .ref z5, .ref z6, .int (nI el), .int (nI be), .ref z9, .ref z10, .ref z11, .ref z12, .int (b2i gz), .ref z14, .ref z15, .ref z16, .int (nI mm), .int (nI tt), .ref z19, .ref z20, .ref z21, .ref z22, .ref z23, .int (nI gm), .ref z25, .ref z26, .ref z27, .ref z28, .int (nI rn), .ref z30, .ref z31, .ref z32]))]) 10 i_X10 tyX10 tyX10_ok nmX10 0 rfl rfl 1 (by decide) (by decide +kernel) (by decide) (rfl) (rfl) (Nat.le_of_ble_eq_true rfl) dX10_clear_2 rfl ?_
  refine j_aload_n (pc := 5) X dX10_clear_5 rfl 0 rfl ?_
  refine j_iconst (pc := 6) X (v := nI 0) dX10_clear_6 (by decide) ?_
  refine j_put (pc := 7) X (v := .int (nI 0)) (ws' := [(z, .inr (10, [.int (nI 0), .int (nI 0), .long za, .long zb, .ref z4, .ref z5, .ref z6, .int (nI el), .int (nI be), .ref z9, .ref z10, .ref z11, .ref z12, .int (b2i gz), .ref z14, .ref z15, .ref z16, .int (nI mm), .int (nI tt), .ref z19, .ref z20, .ref z21, .ref z22, .ref z23, .int (nI gm), .ref z25, .ref z26, .ref z27, .ref z28, .int (nI rn), .ref z30, .ref z31, .ref z32]))]) 10 i_X10 tyX10 tyX10_ok nmX10 0 rfl rfl 0 (by decide) (by decide +kernel) (by decide) (rfl) (rfl) (Nat.le_of_ble_eq_true rfl) dX10_clear_7 rfl ?_
  refine j_aload_n (pc := 10) X dX10_clear_10 rfl 0 rfl ?_
  refine j_iconst (pc := 11) X (v := nI 0) dX10_clear_11 (by decide) ?_
  refine j_put (pc := 12) X (v := .int (nI 0)) (ws' := [(z, .inr (10, [.int (nI 0), .int (nI 0), .long za, .long zb, .ref z4, .ref z5, .ref z6, .int (nI el), .int (nI be), .ref z9, .ref z10, .ref z11, .ref z12, .int (b2i gz), .ref z14, .ref z15, .ref z16, .int (nI mm), .int (nI tt), .ref z19, .ref z20, .ref z21, .ref z22, .ref z23, .int (nI gm), .ref z25, .ref z26, .ref z27, .ref z28, .int (nI 0), .ref z30, .ref z31, .ref z32]))]) 10 i_X10 tyX10 tyX10_ok nmX10 0 rfl rfl 29 (by decide) (by decide +kernel) (by decide) (rfl) (rfl) (Nat.le_of_ble_eq_true rfl) dX10_clear_12 rfl ?_
  refine j_iconst (pc := 15) X (v := nI 1) dX10_clear_15 (by decide) ?_
  exact j_zret (pc := 16) X (rfl) dX10_clear_16 ⟨r1 (by rfl), rfl⟩

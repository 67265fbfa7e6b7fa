set_option maxHeartbeats 4000000 in
set_option maxRecDepth 100000 in
theorem mX10_goalAt0 (l : Launch) (G : jG) (z : Nat) (z4 : Nat) (z5 : Nat) (z6 : Nat) (z9 : Nat) (z10 : Nat) (z11 : Nat) (z12 : Nat) (z14 : Nat) (z15 : Nat) (z16 : Nat) (z19 : Nat) (z20 : Nat) (z21 : Nat) (z22 : Nat) (z23 : Nat) (z25 : Nat) (z26 : Nat) (z27 : Nat) (z28 : Nat) (z30 : Nat) (z31 : Nat) (z32 : Nat) (st : Nat) (th : Nat) (za : Int64) (zb : Int64) (el : Nat) (be : Nat) (gz : Bool) (mm : Nat) (tt : Nat) (gm : Nat) (rn : Nat) (gd : Nat → Nat) (gh : Nat → Option Nat) (gc : Nat → Option Nat) (x : Int32) (d : Int32) (hg0 : gm = 0) : MV l yX10_goalAt wsX10_goalAt ({ frames := 1, cells := 0, slots := 0, locals := 24 }) G [.ref z, .int x, .int d] [(z, .inr (10, [.int (nI st), .int (nI th), .long za, .long zb, .ref z4, .ref z5, .ref z6, .int (nI el), .int (nI be), .ref z9, .ref z10, .ref z11, .ref z12, .int (b2i gz), .ref z14, .ref z15, .ref z16, .int (nI mm), .int (nI tt), .ref z19, .ref z20, .ref z21, .ref z22, .ref z23, .int (nI gm), .ref z25, .ref z26, .ref z27, .ref z28, .int (nI rn), .ref z30, .ref z31, .ref z32])), kI G z26 40 (nF gd), kI G z27 40 (oF gh), kI G z28 40 (oF gc)] (some (.int (oI ((sGat gm gd gh gc x d).1)))) [(z, .inr (10, [.int (nI ((sGat gm gd gh gc x d).2)), .int (nI 0), .long za, .long zb, .ref z4, .ref z5, .ref z6, .int (nI el), .int (nI be), .ref z9, .ref z10, .ref z11, .ref z12, .int (b2i gz), .ref z14, .ref z15, .ref z16, .int (nI mm), .int (nI tt), .ref z19, .ref z20, .ref z21, .ref z22, .ref z23, .int (nI gm), .ref z25, .ref z26, .ref z27, .ref z28, .int (nI rn), .ref z30, .ref z31, .ref z32])), kI G z26 40 (nF gd), kI G z27 40 (oF gh), kI G z28 40 (oF gc)] := by
  refine MF.ofJ (cc := cX10_goalAt) (maxL := 3) (ret := (some .int)) (own := RX10) (lv := [(0, .ref z), (1, .int x), (2, .int d)]) (by decide) rfl rfl (Nat.le_of_ble_eq_true rfl) rfl ?_
  intro κ X
  have i_X10 : ∀ w ∈ wsX100, w ∈ wsX10_goalAt := by decide +kernel
  refine j_aload_n (pc := 0) X dX10_goalAt_0 rfl 0 rfl ?_
  refine j_iconst (pc := 1) X (v := nI 0) dX10_goalAt_1 (by decide) ?_
  refine j_put (pc := 2) X (v := .int (nI 0)) (ws' := [(z, .inr (10, [.int (nI st), .int (nI 0), .long za, .long zb, .ref z4, .ref z5, .ref z6, .int (nI el), .int (nI be), .ref z9, .ref z10, .ref z11, .ref z12, .int (b2i gz), .ref z14, .ref z15, .ref z16, .int (nI mm), .int (nI tt), .ref z19, .ref z20, .ref z21, .ref z22, .ref z23, .int (nI gm), .ref z25, .ref z26, .ref z27, .ref z28, .int (nI rn), .ref z30, .ref z31, .ref z32])), kI G z26 40 (nF gd), kI G z27 40 (oF gh), kI G z28 40 (oF gc)]) 10 i_X10 tyX10 tyX10_ok nmX10 0 rfl rfl 1 (by decide) (by decide +kernel) (by decide) (rfl) (rfl) (Nat.le_of_ble_eq_true rfl) dX10_goalAt_2 rfl ?_
  refine j_aload_n (pc := 5) X dX10_goalAt_5 rfl 0 rfl ?_
  refine j_iconst (pc := 6) X (v := nI 0) dX10_goalAt_6 (by decide) ?_
  refine j_put (pc := 7) X (v := .int (nI 0)) (ws' := [(z, .inr (10, [.int (nI 0), .int (nI 0), .long za, .long zb, .ref z4, .ref z5, .ref z6, .int (nI el), .int (nI be), .ref z9, .ref z10, .ref z11, .ref z12, .int (b2i gz), .ref z14, .ref z15, .ref z16, .int (nI mm), .int (nI tt), .ref z19, .ref z20, .ref z21, .ref z22, .ref z23, .int (nI gm), .ref z25, .ref z26, .ref z27, .ref z28, .int (nI rn), .ref z30, .ref z31, .ref z32])), kI G z26 40 (nF gd), kI G z27 40 (oF gh), kI G z28 40 (oF gc)]) 10 i_X10 tyX10 tyX10_ok nmX10 0 rfl rfl 0 (by decide) (by decide +kernel) (by decide) (rfl) (rfl) (Nat.le_of_ble_eq_true rfl) dX10_goalAt_7 rfl ?_
  refine j_iload_n (pc := 10) X dX10_goalAt_10 rfl 1 rfl ?_
  refine j_if_lt (pc := 11) X (x := x) (tgt := 22) dX10_goalAt_11 (by decide) (fun c_11 => ?_) (fun c_11 => ?_)
  · skip
    refine j_aload_n (pc := 22) X dX10_goalAt_22 rfl 0 rfl ?_
    refine j_iconst (pc := 23) X (v := nI 2) dX10_goalAt_23 (by decide) ?_
    refine j_ci (pc := 24) X (ws' := [(z, .inr (10, [.int (nI 2), .int (nI 0), .long za, .long zb, .ref z4, .ref z5, .ref z6, .int (nI el), .int (nI be), .ref z9, .ref z10, .ref z11, .ref z12, .int (b2i gz), .ref z14, .ref z15, .ref z16, .int (nI mm), .int (nI tt), .ref z19, .ref z20, .ref z21, .ref z22, .ref z23, .int (nI gm), .ref z25, .ref z26, .ref z27, .ref z28, .int (nI rn), .ref z30, .ref z31, .ref z32])), kI G z26 40 (nF gd), kI G z27 40 (oF gh), kI G z28 40 (oF gc)]) [0] rfl (j_rV X (b := z) (As := [.int (nI 2)]) (ci := 10) (rest := []) 1 (mX10_refuse l G z z4 z5 z6 z9 z10 z11 z12 z14 z15 z16 z19 z20 z21 z22 z23 z25 z26 z27 z28 z30 z31 z32 0 0 za zb el be gz mm tt gm rn 2 ) gX10_goalAt_X10_refuse rfl rfl rfl (by decide +kernel) ⟨Nat.le_of_ble_eq_true rfl, Nat.le_of_ble_eq_true rfl⟩ rfl rfl 0 rfl [0] rfl rfl rfl (Nat.le_of_ble_eq_true rfl) dX10_goalAt_24 ⟨Nat.le_of_ble_eq_true rfl, Nat.le_of_ble_eq_true rfl⟩) rfl rfl ?_
    have hs : sGat gm gd gh gc x d = (none, 2) := by first | (simp [sGat, inR, tN, c_11]; done) | (simp [sGat, inR, c_11]; done)
    refine j_iret (pc := 27) X dX10_goalAt_27 ?_
    rw [hs]; exact ⟨rfl, rfl⟩
  · skip
    refine j_iload_n (pc := 14) X dX10_goalAt_14 rfl 1 rfl ?_
    refine j_aload_n (pc := 15) X dX10_goalAt_15 rfl 0 rfl ?_
    refine j_get (pc := 16) X 10 i_X10 0 rfl rfl 24 (by decide) (by decide +kernel) rfl dX10_goalAt_16 ?_
    refine j_icmp_lt (pc := 19) X (x := x) (z := nI gm) (tgt := 28) dX10_goalAt_19 (by decide) (fun c_19 => ?_) (fun c_19 => ?_)
    · skip
      exact absurd (show x < 0 by rw [hg0] at c_19; exact c_19) c_11
    · skip
      refine j_aload_n (pc := 22) X dX10_goalAt_22 rfl 0 rfl ?_
      refine j_iconst (pc := 23) X (v := nI 2) dX10_goalAt_23 (by decide) ?_
      refine j_ci (pc := 24) X (ws' := [(z, .inr (10, [.int (nI 2), .int (nI 0), .long za, .long zb, .ref z4, .ref z5, .ref z6, .int (nI el), .int (nI be), .ref z9, .ref z10, .ref z11, .ref z12, .int (b2i gz), .ref z14, .ref z15, .ref z16, .int (nI mm), .int (nI tt), .ref z19, .ref z20, .ref z21, .ref z22, .ref z23, .int (nI gm), .ref z25, .ref z26, .ref z27, .ref z28, .int (nI rn), .ref z30, .ref z31, .ref z32])), kI G z26 40 (nF gd), kI G z27 40 (oF gh), kI G z28 40 (oF gc)]) [0] rfl (j_rV X (b := z) (As := [.int (nI 2)]) (ci := 10) (rest := []) 1 (mX10_refuse l G z z4 z5 z6 z9 z10 z11 z12 z14 z15 z16 z19 z20 z21 z22 z23 z25 z26 z27 z28 z30 z31 z32 0 0 za zb el be gz mm tt gm rn 2 ) gX10_goalAt_X10_refuse rfl rfl rfl (by decide +kernel) ⟨Nat.le_of_ble_eq_true rfl, Nat.le_of_ble_eq_true rfl⟩ rfl rfl 0 rfl [0] rfl rfl rfl (Nat.le_of_ble_eq_true rfl) dX10_goalAt_24 ⟨Nat.le_of_ble_eq_true rfl, Nat.le_of_ble_eq_true rfl⟩) rfl rfl ?_
      have hs : sGat gm gd gh gc x d = (none, 2) := by first | (simp [sGat, inR, tN, c_11, c_19]; done) | (simp [sGat, inR, c_11, c_19]; done)
      refine j_iret (pc := 27) X dX10_goalAt_27 ?_
      rw [hs]; exact ⟨rfl, rfl⟩

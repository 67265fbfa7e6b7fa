set_option maxHeartbeats 4000000 in
set_option maxRecDepth 100000 in
theorem mX10_tray_L74 (l : Launch) (G : jG) (z : Nat) (z4 : Nat) (z5 : Nat) (z6 : Nat) (z9 : Nat) (z10 : Nat) (z11 : Nat) (z12 : Nat) (z14 : Nat) (z15 : Nat) (z16 : Nat) (z19 : Nat) (z20 : Nat) (z21 : Nat) (z22 : Nat) (z23 : Nat) (z25 : Nat) (z26 : Nat) (z27 : Nat) (z28 : Nat) (z30 : Nat) (z31 : Nat) (z32 : Nat) (st : Nat) (th : Nat) (za : Int64) (zb : Int64) (el : Nat) (be : Nat) (gz : Bool) (mm : Nat) (tt : Nat) (gm : Nat) (rn : Nat) (ts : Nat → Nat) (ym : Nat → Option Nat) (nu : Nat → Int64) (x : Int32) (w : Int32) (m : Int32) (hym : ∀ k, ob 41 (ym k)) (κ : jK) (X : CX κ l yX10_tray cX10_tray 5 RX10 wsX10_tray (some .boolean) ({ frames := 1, cells := 0, slots := 0, locals := 21 }) G (va_A [(z, .inr (10, [.int (nI st), .int (nI th), .long za, .long zb, .ref z4, .ref z5, .ref z6, .int (nI el), .int (nI be), .ref z9, .ref z10, .ref z11, .ref z12, .int (b2i gz), .ref z14, .ref z15, .ref z16, .int (nI mm), .int (nI tt), .ref z19, .ref z20, .ref z21, .ref z22, .ref z23, .int (nI gm), .ref z25, .ref z26, .ref z27, .ref z28, .int (nI rn), .ref z30, .ref z31, .ref z32])), kI G z4 4 (nF ts), kI G z5 4 (oF ym), kJ G z6 160 nu] (js κ).heap.size))    : ∀ (fu : Nat) (j : Nat) (k : Nat) (m2 : Nat) (i : Nat) (hxj : x = nI j) (hwk : w = nI k) (hmm2 : m = nI m2) (hj : j < 4) (hm40 : m2 ≤ 40) (hi : i ≤ m2) (hS : sTrayM ym ts nu (nI j) (nI k) (nI m2) = (true, 0, va_up ym j (some m2), va_up ts j k, fia 0 nu (40 * j) m2)) (_ : m2 - i < fu), JJ κ 5 G (va_A [(z, .inr (10, [.int (nI st), .int (nI th), .long za, .long zb, .ref z4, .ref z5, .ref z6, .int (nI el), .int (nI be), .ref z9, .ref z10, .ref z11, .ref z12, .int (b2i gz), .ref z14, .ref z15, .ref z16, .int (nI mm), .int (nI tt), .ref z19, .ref z20, .ref z21, .ref z22, .ref z23, .int (nI gm), .ref z25, .ref z26, .ref z27, .ref z28, .int (nI rn), .ref z30, .ref z31, .ref z32])), kI G z4 4 (nF ts), kI G z5 4 (oF ym), kJ G z6 160 nu] (js κ).heap.size) 0 0 (jQ κ G [(z, .inr (10, [.int (nI st), .int (nI th), .long za, .long zb, .ref z4, .ref z5, .ref z6, .int (nI el), .int (nI be), .ref z9, .ref z10, .ref z11, .ref z12, .int (b2i gz), .ref z14, .ref z15, .ref z16, .int (nI mm), .int (nI tt), .ref z19, .ref z20, .ref z21, .ref z22, .ref z23, .int (nI gm), .ref z25, .ref z26, .ref z27, .ref z28, .int (nI rn), .ref z30, .ref z31, .ref z32])), kI G z4 4 (nF ts), kI G z5 4 (oF ym), kJ G z6 160 nu] (fun r w' => r = some (.int (b2i ((sTrayM ym ts nu x w m).1))) ∧ w' = [(z, .inr (10, [.int (nI ((sTrayM ym ts nu x w m).2.1)), .int (nI 0), .long za, .long zb, .ref z4, .ref z5, .ref z6, .int (nI el), .int (nI be), .ref z9, .ref z10, .ref z11, .ref z12, .int (b2i gz), .ref z14, .ref z15, .ref z16, .int (nI mm), .int (nI tt), .ref z19, .ref z20, .ref z21, .ref z22, .ref z23, .int (nI gm), .ref z25, .ref z26, .ref z27, .ref z28, .int (nI rn), .ref z30, .ref z31, .ref z32])), kI G z4 4 (nF ((sTrayM ym ts nu x w m).2.2.2.1)), kI G z5 4 (oF ((sTrayM ym ts nu x w m).2.2.1)), kJ G z6 160 ((sTrayM ym ts nu x w m).2.2.2.2)]) 0 0) 74 [(0, .ref z), (1, .int (nI j)), (3, .int (nI m2)), (4, .int (nI i))] [] [(z, .inr (10, [.int (nI 0), .int (nI 0), .long za, .long zb, .ref z4, .ref z5, .ref z6, .int (nI el), .int (nI be), .ref z9, .ref z10, .ref z11, .ref z12, .int (b2i gz), .ref z14, .ref z15, .ref z16, .int (nI mm), .int (nI tt), .ref z19, .ref z20, .ref z21, .ref z22, .ref z23, .int (nI gm), .ref z25, .ref z26, .ref z27, .ref z28, .int (nI rn), .ref z30, .ref z31, .ref z32])), kI G z4 4 (nF (va_up ts j k)), kI G z5 4 (oF (va_up ym j (some m2))), kJ G z6 160 (fia 0 nu (40 * j) i)] := by
  have i_X10 : ∀ w ∈ wsX100, w ∈ wsX10_tray := by decide +kernel
  intro fu
  induction fu with
  | zero => intro j k m2 i hxj hwk hmm2 hj hm40 hi hS hms; exact absurd hms (Nat.not_lt_zero _)
  | succ fu ih =>
    intro j k m2 i hxj hwk hmm2 hj hm40 hi hS hms
    subst hxj
    subst hwk
    subst hmm2
    refine j_iload (pc := 74) X dX10_tray_74 3 rfl ?_
    refine j_iload_n (pc := 76) X dX10_tray_76 rfl 2 rfl ?_
    refine j_icmpN_ge (pc := 77) X (a := i) (b := m2) (by omega) (by omega) (tgt := 99) dX10_tray_77 (by decide) (fun c_77 => ?_) (fun c_77 => ?_)
    · skip
      refine j_iconst (pc := 99) X (v := nI 1) dX10_tray_99 (by decide) ?_
      have hs : sTrayM ym ts nu (nI j) (nI k) (nI m2) = (true, 0, va_up ym j (some m2), va_up ts j k, fia 0 nu (40 * j) i) := by rw [hS, show i = m2 by omega]
      refine j_zret (pc := 100) X (rfl) dX10_tray_100 ?_
      rw [hs]; exact ⟨rfl, rfl⟩
    · skip
      refine j_aload_n (pc := 80) X dX10_tray_80 rfl 0 rfl ?_
      refine j_get (pc := 81) X 10 i_X10 0 rfl rfl 6 (by decide) (by decide +kernel) rfl dX10_tray_81 ?_
      refine j_bipush (pc := 84) X (v := nI 40) dX10_tray_84 (by decide) ?_
      refine j_iload_n (pc := 86) X dX10_tray_86 rfl 1 rfl ?_
      refine j_imul (pc := 87) X dX10_tray_87 ?_
      refine j_topi (z := nI (40 * j)) (pk_mul _ _) ?_
      refine j_iload (pc := 88) X dX10_tray_88 3 rfl ?_
      refine j_iadd (pc := 90) X dX10_tray_90 ?_
      refine j_topi (z := nI (40 * j + i)) (nI_add _ _) ?_
      refine j_lconst (pc := 91) X (v := 0) dX10_tray_91 (by decide) ?_
      refine j_last (pc := 92) X (f2 := (va_up (fia 0 nu (40 * j) i) (40 * j + i) 0)) (ws' := [(z, .inr (10, [.int (nI 0), .int (nI 0), .long za, .long zb, .ref z4, .ref z5, .ref z6, .int (nI el), .int (nI be), .ref z9, .ref z10, .ref z11, .ref z12, .int (b2i gz), .ref z14, .ref z15, .ref z16, .int (nI mm), .int (nI tt), .ref z19, .ref z20, .ref z21, .ref z22, .ref z23, .int (nI gm), .ref z25, .ref z26, .ref z27, .ref z28, .int (nI rn), .ref z30, .ref z31, .ref z32])), kI G z4 4 (nF (va_up ts j k)), kI G z5 4 (oF (va_up ym j (some m2))), kJ G z6 160 (va_up (fia 0 nu (40 * j) i) (40 * j + i) 0)]) 3 rfl (vp_in_nI (by omega) (by decide)) dX10_tray_92 (by rw [nI_clamp (by omega)]; exact lF_up _ _ _) rfl ?_
      refine j_iinc (pc := 93) X (v := nI (i + 1)) (lv' := [(4, .int (nI (i + 1))), (0, .ref z), (1, .int (nI j)), (3, .int (nI m2))]) dX10_tray_93 3 rfl (nI_1 _) (by decide) rfl ?_
      refine j_goto (pc := 96) X (tgt := 74) dX10_tray_96 (by decide) ?_
      refine j_lv [1, 2, 3, 0] (lv' := [(0, .ref z), (1, .int (nI j)), (3, .int (nI m2)), (4, .int (nI (i + 1)))]) rfl ?_
      refine j_ws (ws' := [(z, .inr (10, [.int (nI 0), .int (nI 0), .long za, .long zb, .ref z4, .ref z5, .ref z6, .int (nI el), .int (nI be), .ref z9, .ref z10, .ref z11, .ref z12, .int (b2i gz), .ref z14, .ref z15, .ref z16, .int (nI mm), .int (nI tt), .ref z19, .ref z20, .ref z21, .ref z22, .ref z23, .int (nI gm), .ref z25, .ref z26, .ref z27, .ref z28, .int (nI rn), .ref z30, .ref z31, .ref z32])), kI G z4 4 (nF (va_up ts j k)), kI G z5 4 (oF (va_up ym j (some m2))), kJ G z6 160 (fia 0 nu (40 * j) (i + 1))]) ?_ ?_
      · (rw [fia_s])
      exact ih j k m2 (i + 1) (rfl) (rfl) (rfl) (by omega) (by omega) (by omega) (hS) (by omega)
set_option maxHeartbeats 4000000 in
set_option maxRecDepth 100000 in
theorem mX10_tray (l : Launch) (G : jG) (z : Nat) (z4 : Nat) (z5 : Nat) (z6 : Nat) (z9 : Nat) (z10 : Nat) (z11 : Nat) (z12 : Nat) (z14 : Nat) (z15 : Nat) (z16 : Nat) (z19 : Nat) (z20 : Nat) (z21 : Nat) (z22 : Nat) (z23 : Nat) (z25 : Nat) (z26 : Nat) (z27 : Nat) (z28 : Nat) (z30 : Nat) (z31 : Nat) (z32 : Nat) (st : Nat) (th : Nat) (za : Int64) (zb : Int64) (el : Nat) (be : Nat) (gz : Bool) (mm : Nat) (tt : Nat) (gm : Nat) (rn : Nat) (ts : Nat → Nat) (ym : Nat → Option Nat) (nu : Nat → Int64) (x : Int32) (w : Int32) (m : Int32) (hym : ∀ k, ob 41 (ym k)) : MV l yX10_tray wsX10_tray ({ frames := 1, cells := 0, slots := 0, locals := 21 }) G [.ref z, .int x, .int w, .int m] [(z, .inr (10, [.int (nI st), .int (nI th), .long za, .long zb, .ref z4, .ref z5, .ref z6, .int (nI el), .int (nI be), .ref z9, .ref z10, .ref z11, .ref z12, .int (b2i gz), .ref z14, .ref z15, .ref z16, .int (nI mm), .int (nI tt), .ref z19, .ref z20, .ref z21, .ref z22, .ref z23, .int (nI gm), .ref z25, .ref z26, .ref z27, .ref z28, .int (nI rn), .ref z30, .ref z31, .ref z32])), kI G z4 4 (nF ts), kI G z5 4 (oF ym), kJ G z6 160 nu] (some (.int (b2i ((sTrayM ym ts nu x w m).1)))) [(z, .inr (10, [.int (nI ((sTrayM ym ts nu x w m).2.1)), .int (nI 0), .long za, .long zb, .ref z4, .ref z5, .ref z6, .int (nI el), .int (nI be), .ref z9, .ref z10, .ref z11, .ref z12, .int (b2i gz), .ref z14, .ref z15, .ref z16, .int (nI mm), .int (nI tt), .ref z19, .ref z20, .ref z21, .ref z22, .ref z23, .int (nI gm), .ref z25, .ref z26, .ref z27, .ref z28, .int (nI rn), .ref z30, .ref z31, .ref z32])), kI G z4 4 (nF ((sTrayM ym ts nu x w m).2.2.2.1)), kI G z5 4 (oF ((sTrayM ym ts nu x w m).2.2.1)), kJ G z6 160 ((sTrayM ym ts nu x w m).2.2.2.2)] := by
  refine MF.ofJ (cc := cX10_tray) (maxL := 5) (ret := (some .boolean)) (own := RX10) (lv := [(0, .ref z), (1, .int x), (2, .int w), (3, .int m)]) (by decide) rfl rfl (Nat.le_of_ble_eq_true rfl) rfl ?_
  intro κ X
  have i_X10 : ∀ w ∈ wsX100, w ∈ wsX10_tray := by decide +kernel
  refine j_aload_n (pc := 0) X dX10_tray_0 rfl 0 rfl ?_
  refine j_iconst (pc := 1) X (v := nI 0) dX10_tray_1 (by decide) ?_
  refine j_put (pc := 2) X (v := .int (nI 0)) (ws' := [(z, .inr (10, [.int (nI st), .int (nI 0), .long za, .long zb, .ref z4, .ref z5, .ref z6, .int (nI el), .int (nI be), .ref z9, .ref z10, .ref z11, .ref z12, .int (b2i gz), .ref z14, .ref z15, .ref z16, .int (nI mm), .int (nI tt), .ref z19, .ref z20, .ref z21, .ref z22, .ref z23, .int (nI gm), .ref z25, .ref z26, .ref z27, .ref z28, .int (nI rn), .ref z30, .ref z31, .ref z32])), kI G z4 4 (nF ts), kI G z5 4 (oF ym), kJ G z6 160 nu]) 10 i_X10 tyX10 tyX10_ok nmX10 0 rfl rfl 1 (by decide) (by decide +kernel) (by decide) (rfl) (rfl) (Nat.le_of_ble_eq_true rfl) dX10_tray_2 rfl ?_
  refine j_aload_n (pc := 5) X dX10_tray_5 rfl 0 rfl ?_
  refine j_iconst (pc := 6) X (v := nI 0) dX10_tray_6 (by decide) ?_
  refine j_put (pc := 7) X (v := .int (nI 0)) (ws' := [(z, .inr (10, [.int (nI 0), .int (nI 0), .long za, .long zb, .ref z4, .ref z5, .ref z6, .int (nI el), .int (nI be), .ref z9, .ref z10, .ref z11, .ref z12, .int (b2i gz), .ref z14, .ref z15, .ref z16, .int (nI mm), .int (nI tt), .ref z19, .ref z20, .ref z21, .ref z22, .ref z23, .int (nI gm), .ref z25, .ref z26, .ref z27, .ref z28, .int (nI rn), .ref z30, .ref z31, .ref z32])), kI G z4 4 (nF ts), kI G z5 4 (oF ym), kJ G z6 160 nu]) 10 i_X10 tyX10 tyX10_ok nmX10 0 rfl rfl 0 (by decide) (by decide +kernel) (by decide) (rfl) (rfl) (Nat.le_of_ble_eq_true rfl) dX10_tray_7 rfl ?_
  refine j_iload_n (pc := 10) X dX10_tray_10 rfl 1 rfl ?_
  refine j_if_lt (pc := 11) X (x := x) (tgt := 28) dX10_tray_11 (by decide) (fun c_11 => ?_) (fun c_11 => ?_)
  · skip
    refine j_aload_n (pc := 28) X dX10_tray_28 rfl 0 rfl ?_
    refine j_iconst (pc := 29) X (v := nI 1) dX10_tray_29 (by decide) ?_
    refine j_ci (pc := 30) X (ws' := [(z, .inr (10, [.int (nI 1), .int (nI 0), .long za, .long zb, .ref z4, .ref z5, .ref z6, .int (nI el), .int (nI be), .ref z9, .ref z10, .ref z11, .ref z12, .int (b2i gz), .ref z14, .ref z15, .ref z16, .int (nI mm), .int (nI tt), .ref z19, .ref z20, .ref z21, .ref z22, .ref z23, .int (nI gm), .ref z25, .ref z26, .ref z27, .ref z28, .int (nI rn), .ref z30, .ref z31, .ref z32])), kI G z4 4 (nF ts), kI G z5 4 (oF ym), kJ G z6 160 nu]) [0] rfl (j_rV X (b := z) (As := [.int (nI 1)]) (ci := 10) (rest := []) 1 (mX10_no l G z z4 z5 z6 z9 z10 z11 z12 z14 z15 z16 z19 z20 z21 z22 z23 z25 z26 z27 z28 z30 z31 z32 0 0 za zb el be gz mm tt gm rn 1 ) gX10_tray_X10_no rfl rfl rfl (by decide +kernel) ⟨Nat.le_of_ble_eq_true rfl, Nat.le_of_ble_eq_true rfl⟩ rfl rfl 0 rfl [0] rfl rfl rfl (Nat.le_of_ble_eq_true rfl) dX10_tray_30 ⟨Nat.le_of_ble_eq_true rfl, Nat.le_of_ble_eq_true rfl⟩) rfl rfl ?_
    have hs : sTrayM ym ts nu x w m = (false, 1, ym, ts, nu) := by first | (simp [sTrayM, tN, c_11]; done) | (have hq_x : inR x 4 = false := (by simp [inR, c_11]); simp [sTrayM, hq_x]; done)
    refine j_zret (pc := 33) X (b2i_nar _) dX10_tray_33 ?_
    rw [hs]; exact ⟨rfl, rfl⟩
  · skip
    refine j_iload_n (pc := 14) X dX10_tray_14 rfl 1 rfl ?_
    refine j_iconst (pc := 15) X (v := nI 4) dX10_tray_15 (by decide) ?_
    refine j_icmp_ge (pc := 16) X (x := x) (z := nI 4) (tgt := 28) dX10_tray_16 (by decide) (fun c_16 => ?_) (fun c_16 => ?_)
    · skip
      refine j_aload_n (pc := 28) X dX10_tray_28 rfl 0 rfl ?_
      refine j_iconst (pc := 29) X (v := nI 1) dX10_tray_29 (by decide) ?_
      refine j_ci (pc := 30) X (ws' := [(z, .inr (10, [.int (nI 1), .int (nI 0), .long za, .long zb, .ref z4, .ref z5, .ref z6, .int (nI el), .int (nI be), .ref z9, .ref z10, .ref z11, .ref z12, .int (b2i gz), .ref z14, .ref z15, .ref z16, .int (nI mm), .int (nI tt), .ref z19, .ref z20, .ref z21, .ref z22, .ref z23, .int (nI gm), .ref z25, .ref z26, .ref z27, .ref z28, .int (nI rn), .ref z30, .ref z31, .ref z32])), kI G z4 4 (nF ts), kI G z5 4 (oF ym), kJ G z6 160 nu]) [0] rfl (j_rV X (b := z) (As := [.int (nI 1)]) (ci := 10) (rest := []) 1 (mX10_no l G z z4 z5 z6 z9 z10 z11 z12 z14 z15 z16 z19 z20 z21 z22 z23 z25 z26 z27 z28 z30 z31 z32 0 0 za zb el be gz mm tt gm rn 1 ) gX10_tray_X10_no rfl rfl rfl (by decide +kernel) ⟨Nat.le_of_ble_eq_true rfl, Nat.le_of_ble_eq_true rfl⟩ rfl rfl 0 rfl [0] rfl rfl rfl (Nat.le_of_ble_eq_true rfl) dX10_tray_30 ⟨Nat.le_of_ble_eq_true rfl, Nat.le_of_ble_eq_true rfl⟩) rfl rfl ?_
      have hs : sTrayM ym ts nu x w m = (false, 1, ym, ts, nu) := by first | (simp [sTrayM, tN, c_11, c_16]; done) | (have hq_x : inR x 4 = false := (by simp [inR, c_11, c_16]); simp [sTrayM, hq_x]; done)
      refine j_zret (pc := 33) X (b2i_nar _) dX10_tray_33 ?_
      rw [hs]; exact ⟨rfl, rfl⟩
    · skip
      have hq_x : inR x 4 = true := (by simp [inR, c_11, c_16]); obtain ⟨j, hj, rfl⟩ := inR_of hq_x (by decide); have hq_j := nI_clamp (n := j) (by omega)
      refine j_iload_n (pc := 19) X dX10_tray_19 rfl 2 rfl ?_
      refine j_if_lt (pc := 20) X (x := w) (tgt := 28) dX10_tray_20 (by decide) (fun c_20 => ?_) (fun c_20 => ?_)
      · skip
        have hq_z : inR w 4 = false := by simp [inR, c_20]
        refine j_aload_n (pc := 28) X dX10_tray_28 rfl 0 rfl ?_
        refine j_iconst (pc := 29) X (v := nI 1) dX10_tray_29 (by decide) ?_
        refine j_ci (pc := 30) X (ws' := [(z, .inr (10, [.int (nI 1), .int (nI 0), .long za, .long zb, .ref z4, .ref z5, .ref z6, .int (nI el), .int (nI be), .ref z9, .ref z10, .ref z11, .ref z12, .int (b2i gz), .ref z14, .ref z15, .ref z16, .int (nI mm), .int (nI tt), .ref z19, .ref z20, .ref z21, .ref z22, .ref z23, .int (nI gm), .ref z25, .ref z26, .ref z27, .ref z28, .int (nI rn), .ref z30, .ref z31, .ref z32])), kI G z4 4 (nF ts), kI G z5 4 (oF ym), kJ G z6 160 nu]) [0] rfl (j_rV X (b := z) (As := [.int (nI 1)]) (ci := 10) (rest := []) 1 (mX10_no l G z z4 z5 z6 z9 z10 z11 z12 z14 z15 z16 z19 z20 z21 z22 z23 z25 z26 z27 z28 z30 z31 z32 0 0 za zb el be gz mm tt gm rn 1 ) gX10_tray_X10_no rfl rfl rfl (by decide +kernel) ⟨Nat.le_of_ble_eq_true rfl, Nat.le_of_ble_eq_true rfl⟩ rfl rfl 0 rfl [0] rfl rfl rfl (Nat.le_of_ble_eq_true rfl) dX10_tray_30 ⟨Nat.le_of_ble_eq_true rfl, Nat.le_of_ble_eq_true rfl⟩) rfl rfl ?_
        have hs : sTrayM ym ts nu (nI j) w m = (false, 1, ym, ts, nu) := by first | (simp [sTrayM, tN, hq_x, hq_j, hq_z, c_11, c_16, c_20]; done) | (have hq_x : inR x 4 = false := (by simp [inR, c_11, c_16, c_20]); simp [sTrayM, hq_x]; done)
        refine j_zret (pc := 33) X (b2i_nar _) dX10_tray_33 ?_
        rw [hs]; exact ⟨rfl, rfl⟩
      · skip
        refine j_iload_n (pc := 23) X dX10_tray_23 rfl 2 rfl ?_
        refine j_iconst (pc := 24) X (v := nI 3) dX10_tray_24 (by decide) ?_
        refine j_icmp_le (pc := 25) X (x := w) (z := nI 3) (tgt := 34) dX10_tray_25 (by decide) (fun c_25 => ?_) (fun c_25 => ?_)
        · skip
          obtain ⟨k, hk, rfl⟩ := rng_of c_20 c_25 (by decide); have hq_k := nI_clamp (n := k) (by omega); have hq_z := inR_3 hk
          refine j_iload_n (pc := 34) X dX10_tray_34 rfl 3 rfl ?_
          refine j_bipush (pc := 35) X (v := nI 40) dX10_tray_35 (by decide) ?_
          refine j_icmp_le (pc := 37) X (x := m) (z := nI 40) (tgt := 46) dX10_tray_37 (by decide) (fun c_37 => ?_) (fun c_37 => ?_)
          · skip
            refine j_iload_n (pc := 46) X dX10_tray_46 rfl 3 rfl ?_
            refine j_if_ge (pc := 47) X (x := m) (tgt := 57) dX10_tray_47 (by decide) (fun c_47 => ?_) (fun c_47 => ?_)
            · skip
              obtain ⟨m2, hm2, rfl⟩ := rng_of (Int32.not_lt.mpr c_47) c_37 (by decide); have hq_m := nI_clamp (n := m2) (by omega)
              refine j_aload_n (pc := 57) X dX10_tray_57 rfl 0 rfl ?_
              refine j_get (pc := 58) X 10 i_X10 0 rfl rfl 4 (by decide) (by decide +kernel) rfl dX10_tray_58 ?_
              refine j_iload_n (pc := 61) X dX10_tray_61 rfl 1 rfl ?_
              refine j_iload_n (pc := 62) X dX10_tray_62 rfl 2 rfl ?_
              refine j_iast (pc := 63) X (f2 := (nF (va_up ts j k))) (ws' := [(z, .inr (10, [.int (nI 0), .int (nI 0), .long za, .long zb, .ref z4, .ref z5, .ref z6, .int (nI el), .int (nI be), .ref z9, .ref z10, .ref z11, .ref z12, .int (b2i gz), .ref z14, .ref z15, .ref z16, .int (nI mm), .int (nI tt), .ref z19, .ref z20, .ref z21, .ref z22, .ref z23, .int (nI gm), .ref z25, .ref z26, .ref z27, .ref z28, .int (nI rn), .ref z30, .ref z31, .ref z32])), kI G z4 4 (nF (va_up ts j k)), kI G z5 4 (oF ym), kJ G z6 160 nu]) 1 rfl (vp_in_nI (by omega) (by decide)) dX10_tray_63 (by rw [nI_clamp (by omega)]; exact nF_up ts j k) rfl ?_
              refine j_aload_n (pc := 64) X dX10_tray_64 rfl 0 rfl ?_
              refine j_get (pc := 65) X 10 i_X10 0 rfl rfl 5 (by decide) (by decide +kernel) rfl dX10_tray_65 ?_
              refine j_iload_n (pc := 68) X dX10_tray_68 rfl 1 rfl ?_
              refine j_iload_n (pc := 69) X dX10_tray_69 rfl 3 rfl ?_
              refine j_iast (pc := 70) X (f2 := (oF (va_up ym j (some m2)))) (ws' := [(z, .inr (10, [.int (nI 0), .int (nI 0), .long za, .long zb, .ref z4, .ref z5, .ref z6, .int (nI el), .int (nI be), .ref z9, .ref z10, .ref z11, .ref z12, .int (b2i gz), .ref z14, .ref z15, .ref z16, .int (nI mm), .int (nI tt), .ref z19, .ref z20, .ref z21, .ref z22, .ref z23, .int (nI gm), .ref z25, .ref z26, .ref z27, .ref z28, .int (nI rn), .ref z30, .ref z31, .ref z32])), kI G z4 4 (nF (va_up ts j k)), kI G z5 4 (oF (va_up ym j (some m2))), kJ G z6 160 nu]) 2 rfl (vp_in_nI (by omega) (by decide)) dX10_tray_70 (by rw [nI_clamp (by omega)]; exact oF_up ym j (some m2)) rfl ?_
              refine j_iconst (pc := 71) X (v := nI 0) dX10_tray_71 (by decide) ?_
              refine j_istore (pc := 72) X (lv' := [(4, .int (nI 0)), (0, .ref z), (1, .int (nI j)), (2, .int (nI k)), (3, .int (nI m2))]) dX10_tray_72 (by decide) rfl ?_
              refine j_lv [1, 2, 4, 0] (lv' := [(0, .ref z), (1, .int (nI j)), (3, .int (nI m2)), (4, .int (nI 0))]) rfl ?_
              refine j_ws (ws' := [(z, .inr (10, [.int (nI 0), .int (nI 0), .long za, .long zb, .ref z4, .ref z5, .ref z6, .int (nI el), .int (nI be), .ref z9, .ref z10, .ref z11, .ref z12, .int (b2i gz), .ref z14, .ref z15, .ref z16, .int (nI mm), .int (nI tt), .ref z19, .ref z20, .ref z21, .ref z22, .ref z23, .int (nI gm), .ref z25, .ref z26, .ref z27, .ref z28, .int (nI rn), .ref z30, .ref z31, .ref z32])), kI G z4 4 (nF (va_up ts j k)), kI G z5 4 (oF (va_up ym j (some m2))), kJ G z6 160 (fia 0 nu (40 * j) 0)]) ?_ ?_
              · (rw [fia_0])
              exact mX10_tray_L74 l G z z4 z5 z6 z9 z10 z11 z12 z14 z15 z16 z19 z20 z21 z22 z23 z25 z26 z27 z28 z30 z31 z32 st th za zb el be gz mm tt gm rn ts ym nu (nI j) (nI k) (nI m2) hym κ X    (m2 - 0 + 1) j k m2 0 (rfl) (rfl) (rfl) (by omega) (by omega) (by omega) (by simp [sTrayM, tN, hq_x, hq_j, hq_k, hq_z, hq_m, c_37, c_47]) (Nat.lt_succ_self _)
            · skip
              refine j_aload_n (pc := 50) X dX10_tray_50 rfl 0 rfl ?_
              refine j_bipush (pc := 51) X (v := nI 6) dX10_tray_51 (by decide) ?_
              refine j_ci (pc := 53) X (ws' := [(z, .inr (10, [.int (nI 6), .int (nI 0), .long za, .long zb, .ref z4, .ref z5, .ref z6, .int (nI el), .int (nI be), .ref z9, .ref z10, .ref z11, .ref z12, .int (b2i gz), .ref z14, .ref z15, .ref z16, .int (nI mm), .int (nI tt), .ref z19, .ref z20, .ref z21, .ref z22, .ref z23, .int (nI gm), .ref z25, .ref z26, .ref z27, .ref z28, .int (nI rn), .ref z30, .ref z31, .ref z32])), kI G z4 4 (nF ts), kI G z5 4 (oF ym), kJ G z6 160 nu]) [0] rfl (j_rV X (b := z) (As := [.int (nI 6)]) (ci := 10) (rest := []) 1 (mX10_no l G z z4 z5 z6 z9 z10 z11 z12 z14 z15 z16 z19 z20 z21 z22 z23 z25 z26 z27 z28 z30 z31 z32 0 0 za zb el be gz mm tt gm rn 6 ) gX10_tray_X10_no rfl rfl rfl (by decide +kernel) ⟨Nat.le_of_ble_eq_true rfl, Nat.le_of_ble_eq_true rfl⟩ rfl rfl 0 rfl [0] rfl rfl rfl (Nat.le_of_ble_eq_true rfl) dX10_tray_53 ⟨Nat.le_of_ble_eq_true rfl, Nat.le_of_ble_eq_true rfl⟩) rfl rfl ?_
              have hs : sTrayM ym ts nu (nI j) (nI k) m = (false, 6, ym, ts, nu) := by first | (simp [sTrayM, tN, hq_x, hq_j, hq_k, hq_z, c_11, c_16, c_20, c_25, c_37, c_47]; done) | (have hq_x : inR x 4 = false := (by simp [inR, c_11, c_16, c_20, c_25, c_37, c_47]); simp [sTrayM, hq_x]; done)
              refine j_zret (pc := 56) X (b2i_nar _) dX10_tray_56 ?_
              rw [hs]; exact ⟨rfl, rfl⟩
          · skip
            refine j_aload_n (pc := 40) X dX10_tray_40 rfl 0 rfl ?_
            refine j_iconst (pc := 41) X (v := nI 5) dX10_tray_41 (by decide) ?_
            refine j_ci (pc := 42) X (ws' := [(z, .inr (10, [.int (nI 5), .int (nI 0), .long za, .long zb, .ref z4, .ref z5, .ref z6, .int (nI el), .int (nI be), .ref z9, .ref z10, .ref z11, .ref z12, .int (b2i gz), .ref z14, .ref z15, .ref z16, .int (nI mm), .int (nI tt), .ref z19, .ref z20, .ref z21, .ref z22, .ref z23, .int (nI gm), .ref z25, .ref z26, .ref z27, .ref z28, .int (nI rn), .ref z30, .ref z31, .ref z32])), kI G z4 4 (nF ts), kI G z5 4 (oF ym), kJ G z6 160 nu]) [0] rfl (j_rV X (b := z) (As := [.int (nI 5)]) (ci := 10) (rest := []) 1 (mX10_no l G z z4 z5 z6 z9 z10 z11 z12 z14 z15 z16 z19 z20 z21 z22 z23 z25 z26 z27 z28 z30 z31 z32 0 0 za zb el be gz mm tt gm rn 5 ) gX10_tray_X10_no rfl rfl rfl (by decide +kernel) ⟨Nat.le_of_ble_eq_true rfl, Nat.le_of_ble_eq_true rfl⟩ rfl rfl 0 rfl [0] rfl rfl rfl (Nat.le_of_ble_eq_true rfl) dX10_tray_42 ⟨Nat.le_of_ble_eq_true rfl, Nat.le_of_ble_eq_true rfl⟩) rfl rfl ?_
            have hs : sTrayM ym ts nu (nI j) (nI k) m = (false, 5, ym, ts, nu) := by first | (simp [sTrayM, tN, hq_x, hq_j, hq_k, hq_z, c_11, c_16, c_20, c_25, c_37]; done) | (have hq_x : inR x 4 = false := (by simp [inR, c_11, c_16, c_20, c_25, c_37]); simp [sTrayM, hq_x]; done)
            refine j_zret (pc := 45) X (b2i_nar _) dX10_tray_45 ?_
            rw [hs]; exact ⟨rfl, rfl⟩
        · skip
          have hq_z : inR w 4 = false := inR_4 c_20 c_25
          refine j_aload_n (pc := 28) X dX10_tray_28 rfl 0 rfl ?_
          refine j_iconst (pc := 29) X (v := nI 1) dX10_tray_29 (by decide) ?_
          refine j_ci (pc := 30) X (ws' := [(z, .inr (10, [.int (nI 1), .int (nI 0), .long za, .long zb, .ref z4, .ref z5, .ref z6, .int (nI el), .int (nI be), .ref z9, .ref z10, .ref z11, .ref z12, .int (b2i gz), .ref z14, .ref z15, .ref z16, .int (nI mm), .int (nI tt), .ref z19, .ref z20, .ref z21, .ref z22, .ref z23, .int (nI gm), .ref z25, .ref z26, .ref z27, .ref z28, .int (nI rn), .ref z30, .ref z31, .ref z32])), kI G z4 4 (nF ts), kI G z5 4 (oF ym), kJ G z6 160 nu]) [0] rfl (j_rV X (b := z) (As := [.int (nI 1)]) (ci := 10) (rest := []) 1 (mX10_no l G z z4 z5 z6 z9 z10 z11 z12 z14 z15 z16 z19 z20 z21 z22 z23 z25 z26 z27 z28 z30 z31 z32 0 0 za zb el be gz mm tt gm rn 1 ) gX10_tray_X10_no rfl rfl rfl (by decide +kernel) ⟨Nat.le_of_ble_eq_true rfl, Nat.le_of_ble_eq_true rfl⟩ rfl rfl 0 rfl [0] rfl rfl rfl (Nat.le_of_ble_eq_true rfl) dX10_tray_30 ⟨Nat.le_of_ble_eq_true rfl, Nat.le_of_ble_eq_true rfl⟩) rfl rfl ?_
          have hs : sTrayM ym ts nu (nI j) w m = (false, 1, ym, ts, nu) := by first | (simp [sTrayM, tN, hq_x, hq_j, hq_z, c_11, c_16, c_20, c_25]; done) | (have hq_x : inR x 4 = false := (by simp [inR, c_11, c_16, c_20, c_25]); simp [sTrayM, hq_x]; done)
          refine j_zret (pc := 33) X (b2i_nar _) dX10_tray_33 ?_
          rw [hs]; exact ⟨rfl, rfl⟩
